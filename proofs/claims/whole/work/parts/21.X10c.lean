def fX10_needs_L2 (mY : Rc) (mP : Rc) (NN : Nat) (J74_3 : Rc → Rc → Option (Rc × Rc)) (n : Nat) (x4 : Int32) (mU_5 : Rc) (mJ_6 : Rc) : Option (Rc × Rc) := zLp3 (fun (go7 : Int32 → Rc → Rc → Option (Rc × Rc)) (x4 : Int32) (mU_5 : Rc) (mJ_6 : Rc) =>
    if (mP 0 0) ≤ x4 then (
      J74_3 mU_5 mJ_6
    ) else (
      zB1 (fX10_codeTicks NN mY mP x4) fun v8 =>
      zGd (inb x4 12) <|
      zLet (rs mJ_6 25 (upd (mJ_6 25) x4.toNatClampNeg v8)) fun mJ_9 =>
      zB2 (fX10_circuitTicks NN mY mU_5 mP x4) fun v10 mU_11 =>
      zGd (inb x4 12) <|
      zLet (rs mJ_9 26 (upd (mJ_9 26) x4.toNatClampNeg v10)) fun mJ_12 =>
      zB1 (fX10_gatesFor NN mY mP x4) fun v13 =>
      zGd (inb x4 12) <|
      zLet (rs mJ_12 27 (upd (mJ_12 27) x4.toNatClampNeg v13)) fun mJ_14 =>
      zB1 (fX10_readsOf NN mP x4) fun v15 =>
      zGd (inb x4 12) <|
      zLet (rs mJ_14 28 (upd (mJ_14 28) x4.toNatClampNeg v15)) fun mJ_16 =>
      zB1 (fX10_writesOf NN mP x4) fun v17 =>
      zGd (inb x4 12) <|
      zLet (rs mJ_16 29 (upd (mJ_16 29) x4.toNatClampNeg v17)) fun mJ_18 =>
      zLet (x4 + 1) fun x19 =>
      go7 x19 mU_11 mJ_18
    )
  ) n x4 mU_5 mJ_6
def fX10_needs (NN : Nat) (mY : Rc) (mU : Rc) (mJ : Rc) (mP : Rc) : Option (Rc × Rc) :=
  zJn (fun (mU_1 : Rc) (mJ_2 : Rc) =>
      some (mU_1, mJ_2)
    ) fun J74_3 =>
  fX10_needs_L2 mY mP NN J74_3 NN (0 : Int32) mU mJ
abbrev rX10_needs : Room := { frames := 4, cells := 0, slots := 0, locals := 100 }
set_option maxHeartbeats 4000000 in
set_option maxRecDepth 100000 in
theorem mtX10_needs (l : Launch) (dC : Nat → ClassId) (dI : Nat → Nat → Nat) (cI cB : ClassId) (bV bP bS bW bN bO : Nat → Nat) (sz : Nat) (NN : Nat) (mZ : Rc) (mY : Rc) (mB : Rc) (mL : Rc) (mU : Rc) (mJ : Rc) (mK : Rc) (mG : Rc) (mA : Rc) (mP : Rc) {mU' : Rc} {mJ' : Rc} (hf : fX10_needs NN mY mU mJ mP = some (mU', mJ')) : zMv l yX10_needs (Cond.code yX10_needs cX10_needs 2 none :: lw_g) rX10_needs (dC, dI) [(cI, .int), (cB, .byte)] [.ref (bV 0)] sz (kX10 cI cB bV (bP 0) (bS 0) (bW 0) (bN 0) (bO 0) mZ mY mB mL mU mJ mK mG mA ++ kX8 cI cB bP mP) (kX10 cI cB bV (bP 0) (bS 0) (bW 0) (bN 0) (bO 0) mZ mY mB mL mU' mJ' mK mG mA ++ kX8 cI cB bP mP) := by
  refine zSt (cc := cX10_needs) (maxL := 2) (ret := none) (own := RX10) (fun A => zQv (dC, dI) [(cI, .int), (cB, .byte)] A (kX10 cI cB bV (bP 0) (bS 0) (bW 0) (bN 0) (bO 0) mZ mY mB mL mU' mJ' mK mG mA ++ kX8 cI cB bP mP)) (by decide) rfl rfl (Nat.le_of_ble_eq_true rfl) ?_
  intro p e s m below meth c ls A H locs C hK hA hP hD hS hl
  generalize hQ : MQ below (zQv (dC, dI) [(cI, .int), (cB, .byte)] A (kX10 cI cB bV (bP 0) (bS 0) (bW 0) (bN 0) (bO 0) mZ mY mB mL mU' mJ' mK mG mA ++ kX8 cI cB bP mP)) _ s 0 0 A = QQ
  generalize ([.ref (bV 0)] : List Value).toArray = args at C hQ ⊢
  have hl : lv_has ls 2 [(0, .ref (bV 0))] := hl
  unfold fX10_needs at hf
  refine lv_iconst (v := 0) C.1.1 C.1.2.1 dX10_needs_0 (by decide) ?_
  refine lv_istore_n (lv' := [(1, .int (0 : Int32)), (0, .ref (bV 0))]) C.1.1 C.1.2.1 dX10_needs_1 rfl hl (by decide) rfl (fun ls hl => ?_)
  obtain ⟨J74_3, eJ74_3, hf⟩ := zJn_el hf
  have hJ74_3 : ∀ (mU_1 : Rc) (mJ_2 : Rc), J74_3 mU_1 mJ_2 = some (mU', mJ') → ∀ (H : Heap) (locs : List Loc), va_P (dC, dI) vwCl (kX10 cI cB bV (bP 0) (bS 0) (bW 0) (bN 0) (bO 0) mZ mY mB mL mU_1 mJ_2 mK mG mA ++ kX8 cI cB bP mP) H → va_D A (kX10 cI cB bV (bP 0) (bS 0) (bW 0) (bN 0) (bO 0) mZ mY mB mL mU_1 mJ_2 mK mG mA ++ kX8 cI cB bP mP) → va_S A s.heap H locs → ∀ (ls : Array Slot), lv_has ls 2 [] → W p l e rX10_needs s m args below meth c H locs 0 0 QQ (F0 m 74 ls []) := by
    intro mU_1 mJ_2 hf H locs hP hD hS ls hl
    rw [eJ74_3] at hf
    cases hf
    rw [← hQ]
    exact zRv C hK hP hD hS dX10_needs_74
  refine zLp3_ind (o := (mU', mJ')) (P := fun (x4 : Int32) (mU_5 : Rc) (mJ_6 : Rc) => ∀ (H : Heap) (locs : List Loc), va_P (dC, dI) vwCl (kX10 cI cB bV (bP 0) (bS 0) (bW 0) (bN 0) (bO 0) mZ mY mB mL mU_5 mJ_6 mK mG mA ++ kX8 cI cB bP mP) H → va_D A (kX10 cI cB bV (bP 0) (bS 0) (bW 0) (bN 0) (bO 0) mZ mY mB mL mU_5 mJ_6 mK mG mA ++ kX8 cI cB bP mP) → va_S A s.heap H locs → ∀ (ls : Array Slot), lv_has ls 2 [(0, .ref (bV 0)), (1, .int x4)] → W p l e rX10_needs s m args below meth c H locs 0 0 QQ (F0 m 2 ls [])) (fun go7 ihgo7 x4 mU_5 mJ_6 hf H locs hP hD hS ls hl => ?_) _ (0 : Int32) mU mJ hf H locs hP hD hS ls (lv_sub hl [1, 0] rfl)
  refine lv_iload_n C.1.1 C.1.2.1 dX10_needs_2 rfl (lv_at hl 1 rfl) ?_
  refine lv_aload_n C.1.1 C.1.2.1 dX10_needs_3 rfl (lv_at hl 0 rfl) ?_
  refine zGet (.ref (bP 0)) C.1 wuX10 hK hP 0 rfl rfl 7 (by decide) wfX10_25 rfl rfl dX10_needs_4 ?_
  refine zGetN (.int (mP 0 0)) C.1 wuX8 hK hP 14 rfl rfl 0 (by decide) nfX10_146 rfl rfl dX10_needs_7 ?_
  refine lv_icmp_ge (tgt := 74) C.1.1 C.1.2.1 dX10_needs_10 (by decide) (fun hc => ?_) (fun hc => ?_)
  · replace hf := zIf_t hf hc
    exact hJ74_3 mU_5 mJ_6 hf H locs hP hD hS ls (lv_sub hl [] rfl)
  · replace hf := zIf_f hf hc
    refine lv_aload_n C.1.1 C.1.2.1 dX10_needs_13 rfl (lv_at hl 0 rfl) ?_
    refine zGet (.ref (bV 4)) C.1 wuX10 hK hP 0 rfl rfl 25 (by decide) wfX10_56 rfl rfl dX10_needs_14 ?_
    refine lv_iload_n C.1.1 C.1.2.1 dX10_needs_17 rfl (lv_at hl 1 rfl) ?_
    refine lv_aload_n C.1.1 C.1.2.1 dX10_needs_18 rfl (lv_at hl 0 rfl) ?_
    refine lv_iload_n C.1.1 C.1.2.1 dX10_needs_19 rfl (lv_at hl 1 rfl) ?_
    obtain ⟨v8, hg, hf⟩ := zB1_el hf
    refine zCVi (As := [.int x4]) (rest := [.int x4, .ref (bV 4)]) (wr := ([] : va_W)) (wn := (kX10 cI cB bV (bP 0) (bS 0) (bW 0) (bN 0) (bO 0) mZ mY mB mL mU_5 mJ_6 mK mG mA ++ kX8 cI cB bP mP)) C.1 hK hA hP hD hS [0, 1, 2, 3, 4, 5, 6, 7, 8, 9, 10, 11, 12, 13, 14, 15, 16, 17, 18, 19, 20, 21, 22, 23, 24] [] [0, 1, 2, 3, 4, 5, 6, 7, 8, 9, 10, 11, 12, 13, 14, 15, 16, 17, 18, 19, 20, 21, 22, 23, 24] 0 (mtX10_codeTicks l dC dI cI cB bV bP bS bW bN bO H.size NN mZ mY mB mL mU_5 mJ_6 mK mG mA mP x4 hg) (zCwV 1 C.1 wlX10_275 wiX10_codeTicks ws_X10_codeTicks wnX10 wkX10_codeTicks rfl rfl (by decide +kernel) ⟨Nat.le_of_ble_eq_true rfl, Nat.le_of_ble_eq_true rfl⟩) rfl rfl (by decide +kernel) rfl rfl rfl rfl hl.1 (Nat.le_of_ble_eq_true rfl) dX10_needs_20 ⟨Nat.zero_le _, Nat.zero_le _⟩ rfl (fun H locs hP hD hS => ?_)
    obtain ⟨hib, hf⟩ := zGd_el hf
    obtain ⟨mJ_9, emJ_9, hf⟩ := zLet_el hf
    refine zIast (kX10 cI cB bV (bP 0) (bS 0) (bW 0) (bN 0) (bO 0) mZ mY mB mL mU_5 mJ_9 mK mG mA ++ kX8 cI cB bP mP) C.1 hK hP hD hS 4 0 rfl rfl hib dX10_needs_23 (by rw [emJ_9]; rfl) (fun H locs hP hD hS => ?_)
    refine lv_aload_n C.1.1 C.1.2.1 dX10_needs_24 rfl (lv_at hl 0 rfl) ?_
    refine zGet (.ref (bV 5)) C.1 wuX10 hK hP 0 rfl rfl 26 (by decide) wfX10_59 rfl rfl dX10_needs_25 ?_
    refine lv_iload_n C.1.1 C.1.2.1 dX10_needs_28 rfl (lv_at hl 1 rfl) ?_
    refine lv_aload_n C.1.1 C.1.2.1 dX10_needs_29 rfl (lv_at hl 0 rfl) ?_
    refine lv_iload_n C.1.1 C.1.2.1 dX10_needs_30 rfl (lv_at hl 1 rfl) ?_
    obtain ⟨v10, mU_11, hg, hf⟩ := zB2_el hf
    refine zCVi (As := [.int x4]) (rest := [.int x4, .ref (bV 5)]) (wr := ([] : va_W)) (wn := (kX10 cI cB bV (bP 0) (bS 0) (bW 0) (bN 0) (bO 0) mZ mY mB mL mU_11 mJ_9 mK mG mA ++ kX8 cI cB bP mP)) C.1 hK hA hP hD hS [0, 1, 2, 3, 4, 5, 6, 7, 8, 9, 10, 11, 12, 13, 14, 15, 16, 17, 18, 19, 20, 21, 22, 23, 24] [] [0, 1, 2, 3, 4, 5, 6, 7, 8, 9, 10, 11, 12, 13, 14, 15, 16, 17, 18, 19, 20, 21, 22, 23, 24] 0 (mtX10_circuitTicks l dC dI cI cB bV bP bS bW bN bO H.size NN mZ mY mB mL mU_5 mJ_9 mK mG mA mP x4 hg) (zCwV 1 C.1 wlX10_281 wiX10_circuitTicks ws_X10_circuitTicks wnX10 wkX10_circuitTicks rfl rfl (by decide +kernel) ⟨Nat.le_of_ble_eq_true rfl, Nat.le_of_ble_eq_true rfl⟩) rfl rfl (by decide +kernel) rfl rfl rfl rfl hl.1 (Nat.le_of_ble_eq_true rfl) dX10_needs_31 ⟨Nat.zero_le _, Nat.zero_le _⟩ rfl (fun H locs hP hD hS => ?_)
    obtain ⟨hib, hf⟩ := zGd_el hf
    obtain ⟨mJ_12, emJ_12, hf⟩ := zLet_el hf
    refine zIast (kX10 cI cB bV (bP 0) (bS 0) (bW 0) (bN 0) (bO 0) mZ mY mB mL mU_11 mJ_12 mK mG mA ++ kX8 cI cB bP mP) C.1 hK hP hD hS 5 0 rfl rfl hib dX10_needs_34 (by rw [emJ_12]; rfl) (fun H locs hP hD hS => ?_)
    refine lv_aload_n C.1.1 C.1.2.1 dX10_needs_35 rfl (lv_at hl 0 rfl) ?_
    refine zGet (.ref (bV 6)) C.1 wuX10 hK hP 0 rfl rfl 27 (by decide) wfX10_62 rfl rfl dX10_needs_36 ?_
    refine lv_iload_n C.1.1 C.1.2.1 dX10_needs_39 rfl (lv_at hl 1 rfl) ?_
    refine lv_aload_n C.1.1 C.1.2.1 dX10_needs_40 rfl (lv_at hl 0 rfl) ?_
    refine lv_iload_n C.1.1 C.1.2.1 dX10_needs_41 rfl (lv_at hl 1 rfl) ?_
    obtain ⟨v13, hg, hf⟩ := zB1_el hf
    refine zCVi (As := [.int x4]) (rest := [.int x4, .ref (bV 6)]) (wr := ([] : va_W)) (wn := (kX10 cI cB bV (bP 0) (bS 0) (bW 0) (bN 0) (bO 0) mZ mY mB mL mU_11 mJ_12 mK mG mA ++ kX8 cI cB bP mP)) C.1 hK hA hP hD hS [0, 1, 2, 3, 4, 5, 6, 7, 8, 9, 10, 11, 12, 13, 14, 15, 16, 17, 18, 19, 20, 21, 22, 23, 24] [] [0, 1, 2, 3, 4, 5, 6, 7, 8, 9, 10, 11, 12, 13, 14, 15, 16, 17, 18, 19, 20, 21, 22, 23, 24] 0 (mtX10_gatesFor l dC dI cI cB bV bP bS bW bN bO H.size NN mZ mY mB mL mU_11 mJ_12 mK mG mA mP x4 hg) (zCwV 1 C.1 wlX10_278 wiX10_gatesFor ws_X10_gatesFor wnX10 wkX10_gatesFor rfl rfl (by decide +kernel) ⟨Nat.le_of_ble_eq_true rfl, Nat.le_of_ble_eq_true rfl⟩) rfl rfl (by decide +kernel) rfl rfl rfl rfl hl.1 (Nat.le_of_ble_eq_true rfl) dX10_needs_42 ⟨Nat.zero_le _, Nat.zero_le _⟩ rfl (fun H locs hP hD hS => ?_)
    obtain ⟨hib, hf⟩ := zGd_el hf
    obtain ⟨mJ_14, emJ_14, hf⟩ := zLet_el hf
    refine zIast (kX10 cI cB bV (bP 0) (bS 0) (bW 0) (bN 0) (bO 0) mZ mY mB mL mU_11 mJ_14 mK mG mA ++ kX8 cI cB bP mP) C.1 hK hP hD hS 6 0 rfl rfl hib dX10_needs_45 (by rw [emJ_14]; rfl) (fun H locs hP hD hS => ?_)
    refine lv_aload_n C.1.1 C.1.2.1 dX10_needs_46 rfl (lv_at hl 0 rfl) ?_
    refine zGet (.ref (bV 7)) C.1 wuX10 hK hP 0 rfl rfl 28 (by decide) wfX10_65 rfl rfl dX10_needs_47 ?_
    refine lv_iload_n C.1.1 C.1.2.1 dX10_needs_50 rfl (lv_at hl 1 rfl) ?_
    refine lv_aload_n C.1.1 C.1.2.1 dX10_needs_51 rfl (lv_at hl 0 rfl) ?_
    refine lv_iload_n C.1.1 C.1.2.1 dX10_needs_52 rfl (lv_at hl 1 rfl) ?_
    obtain ⟨v15, hg, hf⟩ := zB1_el hf
    refine zCVi (As := [.int x4]) (rest := [.int x4, .ref (bV 7)]) (wr := ([] : va_W)) (wn := (kX10 cI cB bV (bP 0) (bS 0) (bW 0) (bN 0) (bO 0) mZ mY mB mL mU_11 mJ_14 mK mG mA ++ kX8 cI cB bP mP)) C.1 hK hA hP hD hS [0, 1, 2, 3, 4, 5, 6, 7, 8, 9, 10, 11, 12, 13, 14, 15, 16, 17, 18, 19, 20, 21, 22, 23, 24] [] [0, 1, 2, 3, 4, 5, 6, 7, 8, 9, 10, 11, 12, 13, 14, 15, 16, 17, 18, 19, 20, 21, 22, 23, 24] 0 (mtX10_readsOf l dC dI cI cB bV bP bS bW bN bO H.size NN mZ mY mB mL mU_11 mJ_14 mK mG mA mP x4 hg) (zCwV 1 C.1 wlX10_284 wiX10_readsOf ws_X10_readsOf wnX10 wkX10_readsOf rfl rfl (by decide +kernel) ⟨Nat.le_of_ble_eq_true rfl, Nat.le_of_ble_eq_true rfl⟩) rfl rfl (by decide +kernel) rfl rfl rfl rfl hl.1 (Nat.le_of_ble_eq_true rfl) dX10_needs_53 ⟨Nat.zero_le _, Nat.zero_le _⟩ rfl (fun H locs hP hD hS => ?_)
    obtain ⟨hib, hf⟩ := zGd_el hf
    obtain ⟨mJ_16, emJ_16, hf⟩ := zLet_el hf
    refine zIast (kX10 cI cB bV (bP 0) (bS 0) (bW 0) (bN 0) (bO 0) mZ mY mB mL mU_11 mJ_16 mK mG mA ++ kX8 cI cB bP mP) C.1 hK hP hD hS 7 0 rfl rfl hib dX10_needs_56 (by rw [emJ_16]; rfl) (fun H locs hP hD hS => ?_)
    refine lv_aload_n C.1.1 C.1.2.1 dX10_needs_57 rfl (lv_at hl 0 rfl) ?_
    refine zGet (.ref (bV 8)) C.1 wuX10 hK hP 0 rfl rfl 29 (by decide) wfX10_68 rfl rfl dX10_needs_58 ?_
    refine lv_iload_n C.1.1 C.1.2.1 dX10_needs_61 rfl (lv_at hl 1 rfl) ?_
    refine lv_aload_n C.1.1 C.1.2.1 dX10_needs_62 rfl (lv_at hl 0 rfl) ?_
    refine lv_iload_n C.1.1 C.1.2.1 dX10_needs_63 rfl (lv_at hl 1 rfl) ?_
    obtain ⟨v17, hg, hf⟩ := zB1_el hf
    refine zCVi (As := [.int x4]) (rest := [.int x4, .ref (bV 8)]) (wr := ([] : va_W)) (wn := (kX10 cI cB bV (bP 0) (bS 0) (bW 0) (bN 0) (bO 0) mZ mY mB mL mU_11 mJ_16 mK mG mA ++ kX8 cI cB bP mP)) C.1 hK hA hP hD hS [0, 1, 2, 3, 4, 5, 6, 7, 8, 9, 10, 11, 12, 13, 14, 15, 16, 17, 18, 19, 20, 21, 22, 23, 24] [] [0, 1, 2, 3, 4, 5, 6, 7, 8, 9, 10, 11, 12, 13, 14, 15, 16, 17, 18, 19, 20, 21, 22, 23, 24] 0 (mtX10_writesOf l dC dI cI cB bV bP bS bW bN bO H.size NN mZ mY mB mL mU_11 mJ_16 mK mG mA mP x4 hg) (zCwV 1 C.1 wlX10_287 wiX10_writesOf ws_X10_writesOf wnX10 wkX10_writesOf rfl rfl (by decide +kernel) ⟨Nat.le_of_ble_eq_true rfl, Nat.le_of_ble_eq_true rfl⟩) rfl rfl (by decide +kernel) rfl rfl rfl rfl hl.1 (Nat.le_of_ble_eq_true rfl) dX10_needs_64 ⟨Nat.zero_le _, Nat.zero_le _⟩ rfl (fun H locs hP hD hS => ?_)
    obtain ⟨hib, hf⟩ := zGd_el hf
    obtain ⟨mJ_18, emJ_18, hf⟩ := zLet_el hf
    refine zIast (kX10 cI cB bV (bP 0) (bS 0) (bW 0) (bN 0) (bO 0) mZ mY mB mL mU_11 mJ_18 mK mG mA ++ kX8 cI cB bP mP) C.1 hK hP hD hS 8 0 rfl rfl hib dX10_needs_67 (by rw [emJ_18]; rfl) (fun H locs hP hD hS => ?_)
    obtain ⟨x19, ex19, hf⟩ := zLet_el hf
    refine lv_iinc (v := x19) (lv' := [(1, .int x19), (0, .ref (bV 0))]) C.1.1 C.1.2.1 dX10_needs_68 hl (k := 1) rfl (by rw [ex19]; rfl) (by decide) rfl (fun ls hl => ?_)
    refine lv_goto (tgt := 2) C.1.1 C.1.2.1 dX10_needs_71 (by decide) ?_
    exact ihgo7 x19 mU_11 mJ_18 hf H locs hP hD hS ls (lv_sub hl [1, 0] rfl)
def fX10_ticksOf_L22 (mY : Rc) (mJ : Rc) (mP : Rc) (p1 : Int32) (NN : Nat) (J151_5 : Int32 → Rc → Option (Int32 × Rc)) (n : Nat) (x8 : Int32) (x9 : Int32) (mK_10 : Rc) : Option (Int32 × Rc) := zLp3 (fun (go11 : Int32 → Int32 → Rc → Option (Int32 × Rc)) (x8 : Int32) (x9 : Int32) (mK_10 : Rc) =>
    if (mP 0 0) ≤ x9 then (
      J151_5 x8 mK_10
    ) else (
      zLet ((p1 >>> (x9 &&& 31)) &&& (1 : Int32)) fun x12 =>
      zGd (inb x9 12) <|
      zGd (inb x12 2) <|
      zLet ((mJ 28 x9.toNatClampNeg) &&& ((mK_10 31 x12.toNatClampNeg) ^^^ (-1 : Int32))) fun x13 =>
      zGd (inb x9 13) <|
      zLet (rs mK_10 30 (upd (mK_10 30) x9.toNatClampNeg x13)) fun mK_14 =>
      zGd (inb x12 2) <|
      zGd (inb x12 2) <|
      zLet (rs mK_14 31 (upd (mK_14 31) x12.toNatClampNeg ((mK_14 31 x12.toNatClampNeg) ||| x13))) fun mK_15 =>
      zGd (inb x12 2) <|
      zGd (inb x9 12) <|
      zGd (inb x12 2) <|
      zLet (rs mK_15 31 (upd (mK_15 31) x12.toNatClampNeg ((mK_15 31 x12.toNatClampNeg) ||| (mJ 29 x9.toNatClampNeg)))) fun mK_16 =>
      zGd (inb ((1 : Int32) - x12) 2) <|
      zGd (inb x9 12) <|
      zGd (inb ((1 : Int32) - x12) 2) <|
      zLet (rs mK_16 31 (upd (mK_16 31) ((1 : Int32) - x12).toNatClampNeg ((mK_16 31 ((1 : Int32) - x12).toNatClampNeg) &&& ((mJ 29 x9.toNatClampNeg) ^^^ (-1 : Int32))))) fun mK_17 =>
      zJn (fun (t18 : Int32) =>
          zB1 (fX10_bits NN x13) fun v20 =>
          zLet (x8 + (t18 + ((mY 6 0) * v20))) fun x21 =>
          zLet (x9 + 1) fun x22 =>
          go11 x21 x22 mK_17
        ) fun J132_19 =>
      if x12 = (1 : Int32) then (
        zGd (inb x9 12) <|
        J132_19 (mJ 26 x9.toNatClampNeg)
      ) else (
        zGd (inb x9 12) <|
        J132_19 (mJ 25 x9.toNatClampNeg)
      )
    )
  ) n x8 x9 mK_10
def fX10_ticksOf (NN : Nat) (mY : Rc) (mJ : Rc) (mK : Rc) (mP : Rc) (p1 : Int32) : Option (Int32 × Rc) :=
  zGd (inb (0 : Int32) 2) <|
  zLet (rs mK 31 (upd (mK 31) (0 : Int32).toNatClampNeg (255 : Int32))) fun mK_1 =>
  zGd (inb (1 : Int32) 2) <|
  zLet (rs mK_1 31 (upd (mK_1 31) (1 : Int32).toNatClampNeg (255 : Int32))) fun mK_2 =>
  zJn (fun (x3 : Int32) (mK_4 : Rc) =>
      zGd (inb (0 : Int32) 2) <|
      zGd (inb (mP 0 0) 13) <|
      zLet (rs mK_4 30 (upd (mK_4 30) (mP 0 0).toNatClampNeg ((255 : Int32) &&& ((mK_4 31 (0 : Int32).toNatClampNeg) ^^^ (-1 : Int32))))) fun mK_6 =>
      zGd (inb (mP 0 0) 13) <|
      zB1 (fX10_bits NN (mK_6 30 (mP 0 0).toNatClampNeg)) fun v7 =>
      some ((x3 + ((mY 6 0) * v7)), mK_6)
    ) fun J151_5 =>
  fX10_ticksOf_L22 mY mJ mP p1 NN J151_5 NN (0 : Int32) (0 : Int32) mK_2
abbrev rX10_ticksOf : Room := { frames := 1, cells := 0, slots := 0, locals := 22 }
set_option maxHeartbeats 4000000 in
set_option maxRecDepth 100000 in
theorem mtX10_ticksOf (l : Launch) (dC : Nat → ClassId) (dI : Nat → Nat → Nat) (cI cB : ClassId) (bV bP bS bW bN bO : Nat → Nat) (sz : Nat) (NN : Nat) (mZ : Rc) (mY : Rc) (mB : Rc) (mL : Rc) (mU : Rc) (mJ : Rc) (mK : Rc) (mG : Rc) (mA : Rc) (mP : Rc) (p1 : Int32) {ov : Int32} {mK' : Rc} (hf : fX10_ticksOf NN mY mJ mK mP p1 = some (ov, mK')) : zMi l yX10_ticksOf (Cond.code yX10_ticksOf cX10_ticksOf 7 (some .int) :: lw_g) rX10_ticksOf (dC, dI) [(cI, .int), (cB, .byte)] [.ref (bV 0), .int p1] sz (kX10 cI cB bV (bP 0) (bS 0) (bW 0) (bN 0) (bO 0) mZ mY mB mL mU mJ mK mG mA ++ kX8 cI cB bP mP) ov (kX10 cI cB bV (bP 0) (bS 0) (bW 0) (bN 0) (bO 0) mZ mY mB mL mU mJ mK' mG mA ++ kX8 cI cB bP mP) := by
  refine zSt (cc := cX10_ticksOf) (maxL := 7) (ret := (some .int)) (own := RX10) (fun A => zQi (dC, dI) [(cI, .int), (cB, .byte)] A ov (kX10 cI cB bV (bP 0) (bS 0) (bW 0) (bN 0) (bO 0) mZ mY mB mL mU mJ mK' mG mA ++ kX8 cI cB bP mP)) (by decide) rfl rfl (Nat.le_of_ble_eq_true rfl) ?_
  intro p e s m below meth c ls A H locs C hK hA hP hD hS hl
  generalize hQ : MQ below (zQi (dC, dI) [(cI, .int), (cB, .byte)] A ov (kX10 cI cB bV (bP 0) (bS 0) (bW 0) (bN 0) (bO 0) mZ mY mB mL mU mJ mK' mG mA ++ kX8 cI cB bP mP)) _ s 0 0 A = QQ
  generalize ([.ref (bV 0), .int p1] : List Value).toArray = args at C hQ ⊢
  have hl : lv_has ls 7 [(0, .ref (bV 0)), (1, .int p1)] := hl
  unfold fX10_ticksOf at hf
  refine lv_aload_n C.1.1 C.1.2.1 dX10_ticksOf_0 rfl (lv_at hl 0 rfl) ?_
  refine zGet (.ref (bV 10)) C.1 wuX10 hK hP 0 rfl rfl 31 (by decide) wfX10_74 rfl rfl dX10_ticksOf_1 ?_
  refine lv_astore_n (lv' := [(2, .ref (bV 10)), (0, .ref (bV 0)), (1, .int p1)]) C.1.1 C.1.2.1 dX10_ticksOf_4 rfl hl (by decide) rfl (fun ls hl => ?_)
  refine lv_aload_n C.1.1 C.1.2.1 dX10_ticksOf_5 rfl (lv_at hl 0 rfl) ?_
  refine lv_iconst (v := 0) C.1.1 C.1.2.1 dX10_ticksOf_6 (by decide) ?_
  refine lv_sipush (v := 255) C.1.1 C.1.2.1 dX10_ticksOf_7 (by decide) ?_
  obtain ⟨hib, hf⟩ := zGd_el hf
  obtain ⟨mK_1, emK_1, hf⟩ := zLet_el hf
  refine zIast (kX10 cI cB bV (bP 0) (bS 0) (bW 0) (bN 0) (bO 0) mZ mY mB mL mU mJ mK_1 mG mA ++ kX8 cI cB bP mP) C.1 hK hP hD hS 10 0 rfl rfl hib dX10_ticksOf_10 (by rw [emK_1]; rfl) (fun H locs hP hD hS => ?_)
  refine lv_aload_n C.1.1 C.1.2.1 dX10_ticksOf_11 rfl (lv_at hl 0 rfl) ?_
  refine lv_iconst (v := 1) C.1.1 C.1.2.1 dX10_ticksOf_12 (by decide) ?_
  refine lv_sipush (v := 255) C.1.1 C.1.2.1 dX10_ticksOf_13 (by decide) ?_
  obtain ⟨hib, hf⟩ := zGd_el hf
  obtain ⟨mK_2, emK_2, hf⟩ := zLet_el hf
  refine zIast (kX10 cI cB bV (bP 0) (bS 0) (bW 0) (bN 0) (bO 0) mZ mY mB mL mU mJ mK_2 mG mA ++ kX8 cI cB bP mP) C.1 hK hP hD hS 10 0 rfl rfl hib dX10_ticksOf_16 (by rw [emK_2]; rfl) (fun H locs hP hD hS => ?_)
  refine lv_iconst (v := 0) C.1.1 C.1.2.1 dX10_ticksOf_17 (by decide) ?_
  refine lv_istore_n (lv' := [(3, .int (0 : Int32)), (2, .ref (bV 10)), (0, .ref (bV 0)), (1, .int p1)]) C.1.1 C.1.2.1 dX10_ticksOf_18 rfl hl (by decide) rfl (fun ls hl => ?_)
  refine lv_iconst (v := 0) C.1.1 C.1.2.1 dX10_ticksOf_19 (by decide) ?_
  refine lv_istore (lv' := [(4, .int (0 : Int32)), (3, .int (0 : Int32)), (2, .ref (bV 10)), (0, .ref (bV 0)), (1, .int p1)]) C.1.1 C.1.2.1 dX10_ticksOf_20 hl (by decide) rfl (fun ls hl => ?_)
  obtain ⟨J151_5, eJ151_5, hf⟩ := zJn_el hf
  have hJ151_5 : ∀ (x3 : Int32) (mK_4 : Rc), J151_5 x3 mK_4 = some (ov, mK') → ∀ (H : Heap) (locs : List Loc), va_P (dC, dI) vwCl (kX10 cI cB bV (bP 0) (bS 0) (bW 0) (bN 0) (bO 0) mZ mY mB mL mU mJ mK_4 mG mA ++ kX8 cI cB bP mP) H → va_D A (kX10 cI cB bV (bP 0) (bS 0) (bW 0) (bN 0) (bO 0) mZ mY mB mL mU mJ mK_4 mG mA ++ kX8 cI cB bP mP) → va_S A s.heap H locs → ∀ (ls : Array Slot), lv_has ls 7 [(0, .ref (bV 0)), (2, .ref (bV 10)), (3, .int x3)] → W p l e rX10_ticksOf s m args below meth c H locs 0 0 QQ (F0 m 151 ls []) := by
    intro x3 mK_4 hf H locs hP hD hS ls hl
    rw [eJ151_5] at hf
    refine lv_aload_n C.1.1 C.1.2.1 dX10_ticksOf_151 rfl (lv_at hl 0 rfl) ?_
    refine zGet (.ref (bV 9)) C.1 wuX10 hK hP 0 rfl rfl 30 (by decide) wfX10_71 rfl rfl dX10_ticksOf_152 ?_
    refine lv_aload_n C.1.1 C.1.2.1 dX10_ticksOf_155 rfl (lv_at hl 0 rfl) ?_
    refine zGet (.ref (bP 0)) C.1 wuX10 hK hP 0 rfl rfl 7 (by decide) wfX10_25 rfl rfl dX10_ticksOf_156 ?_
    refine zGetN (.int (mP 0 0)) C.1 wuX8 hK hP 14 rfl rfl 0 (by decide) nfX10_146 rfl rfl dX10_ticksOf_159 ?_
    refine lv_sipush (v := 255) C.1.1 C.1.2.1 dX10_ticksOf_162 (by decide) ?_
    refine lv_aload_n C.1.1 C.1.2.1 dX10_ticksOf_165 rfl (lv_at hl 1 rfl) ?_
    refine lv_iconst (v := 0) C.1.1 C.1.2.1 dX10_ticksOf_166 (by decide) ?_
    obtain ⟨hib, hf⟩ := zGd_el hf
    refine va_iald C.1.1 C.1.2.1 hK.1 hP 10 0 rfl rfl hib dX10_ticksOf_167 ?_
    refine lv_iconst (v := (-1)) C.1.1 C.1.2.1 dX10_ticksOf_168 (by decide) ?_
    refine lv_ixor C.1.1 C.1.2.1 dX10_ticksOf_169 ?_
    refine lv_iand C.1.1 C.1.2.1 dX10_ticksOf_170 ?_
    obtain ⟨hib, hf⟩ := zGd_el hf
    obtain ⟨mK_6, emK_6, hf⟩ := zLet_el hf
    refine zIast (kX10 cI cB bV (bP 0) (bS 0) (bW 0) (bN 0) (bO 0) mZ mY mB mL mU mJ mK_6 mG mA ++ kX8 cI cB bP mP) C.1 hK hP hD hS 9 0 rfl rfl hib dX10_ticksOf_171 (by rw [emK_6]; rfl) (fun H locs hP hD hS => ?_)
    refine lv_iload_n C.1.1 C.1.2.1 dX10_ticksOf_172 rfl (lv_at hl 2 rfl) ?_
    refine lv_aload_n C.1.1 C.1.2.1 dX10_ticksOf_173 rfl (lv_at hl 0 rfl) ?_
    refine zGet (.int (mY 6 0)) C.1 wuX10 hK hP 0 rfl rfl 6 (by decide) wfX10_19 rfl rfl dX10_ticksOf_174 ?_
    refine lv_aload_n C.1.1 C.1.2.1 dX10_ticksOf_177 rfl (lv_at hl 0 rfl) ?_
    refine zGet (.ref (bV 9)) C.1 wuX10 hK hP 0 rfl rfl 30 (by decide) wfX10_71 rfl rfl dX10_ticksOf_178 ?_
    refine lv_aload_n C.1.1 C.1.2.1 dX10_ticksOf_181 rfl (lv_at hl 0 rfl) ?_
    refine zGet (.ref (bP 0)) C.1 wuX10 hK hP 0 rfl rfl 7 (by decide) wfX10_25 rfl rfl dX10_ticksOf_182 ?_
    refine zGetN (.int (mP 0 0)) C.1 wuX8 hK hP 14 rfl rfl 0 (by decide) nfX10_146 rfl rfl dX10_ticksOf_185 ?_
    obtain ⟨hib, hf⟩ := zGd_el hf
    refine va_iald C.1.1 C.1.2.1 hK.1 hP 9 0 rfl rfl hib dX10_ticksOf_188 ?_
    obtain ⟨v7, hg, hf⟩ := zB1_el hf
    refine zCSi (As := [.int (mK_6 30 (mP 0 0).toNatClampNeg)]) (rest := [.int (mY 6 0), .int x3]) (wr := (kX10 cI cB bV (bP 0) (bS 0) (bW 0) (bN 0) (bO 0) mZ mY mB mL mU mJ mK_6 mG mA ++ kX8 cI cB bP mP)) (wn := (kX10 cI cB bV (bP 0) (bS 0) (bW 0) (bN 0) (bO 0) mZ mY mB mL mU mJ mK_6 mG mA ++ kX8 cI cB bP mP)) C.1 hK hA hP hD hS [] [0, 1, 2, 3, 4, 5, 6, 7, 8, 9, 10, 11, 12, 13, 14, 15, 16, 17, 18, 19, 20, 21, 22, 23, 24] [0, 1, 2, 3, 4, 5, 6, 7, 8, 9, 10, 11, 12, 13, 14, 15, 16, 17, 18, 19, 20, 21, 22, 23, 24] (mtX10_bits l dC dI cI cB H.size NN (mK_6 30 (mP 0 0).toNatClampNeg) hg) (zCwS 1 C.1 wlX10_290 wtX10_bits wnX10 wkX10_bits rfl rfl (by decide +kernel) ⟨Nat.le_of_ble_eq_true rfl, Nat.le_of_ble_eq_true rfl⟩) rfl rfl (by decide +kernel) rfl rfl hl.1 (Nat.le_of_ble_eq_true rfl) dX10_ticksOf_189 ⟨Nat.zero_le _, Nat.zero_le _⟩ rfl (fun H locs hP hD hS => ?_)
    refine lv_imul C.1.1 C.1.2.1 dX10_ticksOf_192 ?_
    refine lv_iadd C.1.1 C.1.2.1 dX10_ticksOf_193 ?_
    cases hf
    rw [← hQ]
    exact zRi C hK hP hD hS dX10_ticksOf_194
  refine zLp3_ind (o := (ov, mK')) (P := fun (x8 : Int32) (x9 : Int32) (mK_10 : Rc) => ∀ (H : Heap) (locs : List Loc), va_P (dC, dI) vwCl (kX10 cI cB bV (bP 0) (bS 0) (bW 0) (bN 0) (bO 0) mZ mY mB mL mU mJ mK_10 mG mA ++ kX8 cI cB bP mP) H → va_D A (kX10 cI cB bV (bP 0) (bS 0) (bW 0) (bN 0) (bO 0) mZ mY mB mL mU mJ mK_10 mG mA ++ kX8 cI cB bP mP) → va_S A s.heap H locs → ∀ (ls : Array Slot), lv_has ls 7 [(0, .ref (bV 0)), (1, .int p1), (2, .ref (bV 10)), (3, .int x8), (4, .int x9)] → W p l e rX10_ticksOf s m args below meth c H locs 0 0 QQ (F0 m 22 ls [])) (fun go11 ihgo11 x8 x9 mK_10 hf H locs hP hD hS ls hl => ?_) _ (0 : Int32) (0 : Int32) mK_2 hf H locs hP hD hS ls (lv_sub hl [3, 4, 2, 1, 0] rfl)
  refine lv_iload C.1.1 C.1.2.1 dX10_ticksOf_22 (lv_at hl 4 rfl) ?_
  refine lv_aload_n C.1.1 C.1.2.1 dX10_ticksOf_24 rfl (lv_at hl 0 rfl) ?_
  refine zGet (.ref (bP 0)) C.1 wuX10 hK hP 0 rfl rfl 7 (by decide) wfX10_25 rfl rfl dX10_ticksOf_25 ?_
  refine zGetN (.int (mP 0 0)) C.1 wuX8 hK hP 14 rfl rfl 0 (by decide) nfX10_146 rfl rfl dX10_ticksOf_28 ?_
  refine lv_icmp_ge (tgt := 151) C.1.1 C.1.2.1 dX10_ticksOf_31 (by decide) (fun hc => ?_) (fun hc => ?_)
  · replace hf := zIf_t hf hc
    exact hJ151_5 x8 mK_10 hf H locs hP hD hS ls (lv_sub hl [0, 2, 3] rfl)
  · replace hf := zIf_f hf hc
    refine lv_iload_n C.1.1 C.1.2.1 dX10_ticksOf_34 rfl (lv_at hl 1 rfl) ?_
    refine lv_iload C.1.1 C.1.2.1 dX10_ticksOf_35 (lv_at hl 4 rfl) ?_
    refine lv_ishr C.1.1 C.1.2.1 dX10_ticksOf_37 ?_
    refine lv_iconst (v := 1) C.1.1 C.1.2.1 dX10_ticksOf_38 (by decide) ?_
    refine lv_iand C.1.1 C.1.2.1 dX10_ticksOf_39 ?_
    refine lv_topi (fun x12 ex12 => ?_)
    replace hf := zLet_at hf ex12
    refine lv_istore (lv' := [(5, .int x12), (0, .ref (bV 0)), (1, .int p1), (2, .ref (bV 10)), (3, .int x8), (4, .int x9)]) C.1.1 C.1.2.1 dX10_ticksOf_40 hl (by decide) rfl (fun ls hl => ?_)
    refine lv_aload_n C.1.1 C.1.2.1 dX10_ticksOf_42 rfl (lv_at hl 1 rfl) ?_
    refine zGet (.ref (bV 7)) C.1 wuX10 hK hP 0 rfl rfl 28 (by decide) wfX10_65 rfl rfl dX10_ticksOf_43 ?_
    refine lv_iload C.1.1 C.1.2.1 dX10_ticksOf_46 (lv_at hl 5 rfl) ?_
    obtain ⟨hib, hf⟩ := zGd_el hf
    refine va_iald C.1.1 C.1.2.1 hK.1 hP 7 0 rfl rfl hib dX10_ticksOf_48 ?_
    refine lv_aload_n C.1.1 C.1.2.1 dX10_ticksOf_49 rfl (lv_at hl 3 rfl) ?_
    refine lv_iload C.1.1 C.1.2.1 dX10_ticksOf_50 (lv_at hl 0 rfl) ?_
    obtain ⟨hib, hf⟩ := zGd_el hf
    refine va_iald C.1.1 C.1.2.1 hK.1 hP 10 0 rfl rfl hib dX10_ticksOf_52 ?_
    refine lv_iconst (v := (-1)) C.1.1 C.1.2.1 dX10_ticksOf_53 (by decide) ?_
    refine lv_ixor C.1.1 C.1.2.1 dX10_ticksOf_54 ?_
    refine lv_iand C.1.1 C.1.2.1 dX10_ticksOf_55 ?_
    refine lv_topi (fun x13 ex13 => ?_)
    replace hf := zLet_at hf ex13
    refine lv_istore (lv' := [(6, .int x13), (5, .int x12), (0, .ref (bV 0)), (1, .int p1), (2, .ref (bV 10)), (3, .int x8), (4, .int x9)]) C.1.1 C.1.2.1 dX10_ticksOf_56 hl (by decide) rfl (fun ls hl => ?_)
    refine lv_aload_n C.1.1 C.1.2.1 dX10_ticksOf_58 rfl (lv_at hl 2 rfl) ?_
    refine zGet (.ref (bV 9)) C.1 wuX10 hK hP 0 rfl rfl 30 (by decide) wfX10_71 rfl rfl dX10_ticksOf_59 ?_
    refine lv_iload C.1.1 C.1.2.1 dX10_ticksOf_62 (lv_at hl 6 rfl) ?_
    refine lv_iload C.1.1 C.1.2.1 dX10_ticksOf_64 (lv_at hl 0 rfl) ?_
    obtain ⟨hib, hf⟩ := zGd_el hf
    obtain ⟨mK_14, emK_14, hf⟩ := zLet_el hf
    refine zIast (kX10 cI cB bV (bP 0) (bS 0) (bW 0) (bN 0) (bO 0) mZ mY mB mL mU mJ mK_14 mG mA ++ kX8 cI cB bP mP) C.1 hK hP hD hS 9 0 rfl rfl hib dX10_ticksOf_66 (by rw [emK_14]; rfl) (fun H locs hP hD hS => ?_)
    refine lv_aload_n C.1.1 C.1.2.1 dX10_ticksOf_67 rfl (lv_at hl 4 rfl) ?_
    refine lv_iload C.1.1 C.1.2.1 dX10_ticksOf_68 (lv_at hl 1 rfl) ?_
    refine lv_dup2_11 C.1.1 C.1.2.1 dX10_ticksOf_70 rfl rfl ?_
    obtain ⟨hib, hf⟩ := zGd_el hf
    refine va_iald C.1.1 C.1.2.1 hK.1 hP 10 0 rfl rfl hib dX10_ticksOf_71 ?_
    refine lv_iload C.1.1 C.1.2.1 dX10_ticksOf_72 (lv_at hl 0 rfl) ?_
    refine lv_ior C.1.1 C.1.2.1 dX10_ticksOf_74 ?_
    obtain ⟨hib, hf⟩ := zGd_el hf
    obtain ⟨mK_15, emK_15, hf⟩ := zLet_el hf
    refine zIast (kX10 cI cB bV (bP 0) (bS 0) (bW 0) (bN 0) (bO 0) mZ mY mB mL mU mJ mK_15 mG mA ++ kX8 cI cB bP mP) C.1 hK hP hD hS 10 0 rfl rfl hib dX10_ticksOf_75 (by rw [emK_15]; rfl) (fun H locs hP hD hS => ?_)
    refine lv_aload_n C.1.1 C.1.2.1 dX10_ticksOf_76 rfl (lv_at hl 4 rfl) ?_
    refine lv_iload C.1.1 C.1.2.1 dX10_ticksOf_77 (lv_at hl 1 rfl) ?_
    refine lv_dup2_11 C.1.1 C.1.2.1 dX10_ticksOf_79 rfl rfl ?_
    obtain ⟨hib, hf⟩ := zGd_el hf
    refine va_iald C.1.1 C.1.2.1 hK.1 hP 10 0 rfl rfl hib dX10_ticksOf_80 ?_
    refine lv_aload_n C.1.1 C.1.2.1 dX10_ticksOf_81 rfl (lv_at hl 2 rfl) ?_
    refine zGet (.ref (bV 8)) C.1 wuX10 hK hP 0 rfl rfl 29 (by decide) wfX10_68 rfl rfl dX10_ticksOf_82 ?_
    refine lv_iload C.1.1 C.1.2.1 dX10_ticksOf_85 (lv_at hl 6 rfl) ?_
    obtain ⟨hib, hf⟩ := zGd_el hf
    refine va_iald C.1.1 C.1.2.1 hK.1 hP 8 0 rfl rfl hib dX10_ticksOf_87 ?_
    refine lv_ior C.1.1 C.1.2.1 dX10_ticksOf_88 ?_
    obtain ⟨hib, hf⟩ := zGd_el hf
    obtain ⟨mK_16, emK_16, hf⟩ := zLet_el hf
    refine zIast (kX10 cI cB bV (bP 0) (bS 0) (bW 0) (bN 0) (bO 0) mZ mY mB mL mU mJ mK_16 mG mA ++ kX8 cI cB bP mP) C.1 hK hP hD hS 10 0 rfl rfl hib dX10_ticksOf_89 (by rw [emK_16]; rfl) (fun H locs hP hD hS => ?_)
    refine lv_aload_n C.1.1 C.1.2.1 dX10_ticksOf_90 rfl (lv_at hl 4 rfl) ?_
    refine lv_iconst (v := 1) C.1.1 C.1.2.1 dX10_ticksOf_91 (by decide) ?_
    refine lv_iload C.1.1 C.1.2.1 dX10_ticksOf_92 (lv_at hl 1 rfl) ?_
    refine lv_isub C.1.1 C.1.2.1 dX10_ticksOf_94 ?_
    refine lv_dup2_11 C.1.1 C.1.2.1 dX10_ticksOf_95 rfl rfl ?_
    obtain ⟨hib, hf⟩ := zGd_el hf
    refine va_iald C.1.1 C.1.2.1 hK.1 hP 10 0 rfl rfl hib dX10_ticksOf_96 ?_
    refine lv_aload_n C.1.1 C.1.2.1 dX10_ticksOf_97 rfl (lv_at hl 2 rfl) ?_
    refine zGet (.ref (bV 8)) C.1 wuX10 hK hP 0 rfl rfl 29 (by decide) wfX10_68 rfl rfl dX10_ticksOf_98 ?_
    refine lv_iload C.1.1 C.1.2.1 dX10_ticksOf_101 (lv_at hl 6 rfl) ?_
    obtain ⟨hib, hf⟩ := zGd_el hf
    refine va_iald C.1.1 C.1.2.1 hK.1 hP 8 0 rfl rfl hib dX10_ticksOf_103 ?_
    refine lv_iconst (v := (-1)) C.1.1 C.1.2.1 dX10_ticksOf_104 (by decide) ?_
    refine lv_ixor C.1.1 C.1.2.1 dX10_ticksOf_105 ?_
    refine lv_iand C.1.1 C.1.2.1 dX10_ticksOf_106 ?_
    obtain ⟨hib, hf⟩ := zGd_el hf
    obtain ⟨mK_17, emK_17, hf⟩ := zLet_el hf
    refine zIast (kX10 cI cB bV (bP 0) (bS 0) (bW 0) (bN 0) (bO 0) mZ mY mB mL mU mJ mK_17 mG mA ++ kX8 cI cB bP mP) C.1 hK hP hD hS 10 0 rfl rfl hib dX10_ticksOf_107 (by rw [emK_17]; rfl) (fun H locs hP hD hS => ?_)
    refine lv_iload_n C.1.1 C.1.2.1 dX10_ticksOf_108 rfl (lv_at hl 5 rfl) ?_
    refine lv_iload C.1.1 C.1.2.1 dX10_ticksOf_109 (lv_at hl 1 rfl) ?_
    refine lv_iconst (v := 1) C.1.1 C.1.2.1 dX10_ticksOf_111 (by decide) ?_
    obtain ⟨J132_19, eJ132_19, hf⟩ := zJn_el hf
    have hJ132_19 : ∀ (t18 : Int32), J132_19 t18 = some (ov, mK') → ∀ (H : Heap) (locs : List Loc), va_P (dC, dI) vwCl (kX10 cI cB bV (bP 0) (bS 0) (bW 0) (bN 0) (bO 0) mZ mY mB mL mU mJ mK_17 mG mA ++ kX8 cI cB bP mP) H → va_D A (kX10 cI cB bV (bP 0) (bS 0) (bW 0) (bN 0) (bO 0) mZ mY mB mL mU mJ mK_17 mG mA ++ kX8 cI cB bP mP) → va_S A s.heap H locs → ∀ (ls : Array Slot), lv_has ls 7 [(0, .ref (bV 0)), (1, .int p1), (2, .ref (bV 10)), (4, .int x9), (6, .int x13)] → W p l e rX10_ticksOf s m args below meth c H locs 0 0 QQ (F0 m 132 ls [.int t18, .int x8]) := by
      intro t18 hf H locs hP hD hS ls hl
      rw [eJ132_19] at hf
      refine lv_aload_n C.1.1 C.1.2.1 dX10_ticksOf_132 rfl (lv_at hl 0 rfl) ?_
      refine zGet (.int (mY 6 0)) C.1 wuX10 hK hP 0 rfl rfl 6 (by decide) wfX10_19 rfl rfl dX10_ticksOf_133 ?_
      refine lv_iload C.1.1 C.1.2.1 dX10_ticksOf_136 (lv_at hl 4 rfl) ?_
      obtain ⟨v20, hg, hf⟩ := zB1_el hf
      refine zCSi (As := [.int x13]) (rest := [.int (mY 6 0), .int t18, .int x8]) (wr := (kX10 cI cB bV (bP 0) (bS 0) (bW 0) (bN 0) (bO 0) mZ mY mB mL mU mJ mK_17 mG mA ++ kX8 cI cB bP mP)) (wn := (kX10 cI cB bV (bP 0) (bS 0) (bW 0) (bN 0) (bO 0) mZ mY mB mL mU mJ mK_17 mG mA ++ kX8 cI cB bP mP)) C.1 hK hA hP hD hS [] [0, 1, 2, 3, 4, 5, 6, 7, 8, 9, 10, 11, 12, 13, 14, 15, 16, 17, 18, 19, 20, 21, 22, 23, 24] [0, 1, 2, 3, 4, 5, 6, 7, 8, 9, 10, 11, 12, 13, 14, 15, 16, 17, 18, 19, 20, 21, 22, 23, 24] (mtX10_bits l dC dI cI cB H.size NN x13 hg) (zCwS 1 C.1 wlX10_290 wtX10_bits wnX10 wkX10_bits rfl rfl (by decide +kernel) ⟨Nat.le_of_ble_eq_true rfl, Nat.le_of_ble_eq_true rfl⟩) rfl rfl (by decide +kernel) rfl rfl hl.1 (Nat.le_of_ble_eq_true rfl) dX10_ticksOf_138 ⟨Nat.zero_le _, Nat.zero_le _⟩ rfl (fun H locs hP hD hS => ?_)
      refine lv_imul C.1.1 C.1.2.1 dX10_ticksOf_141 ?_
      refine lv_iadd C.1.1 C.1.2.1 dX10_ticksOf_142 ?_
      refine lv_iadd C.1.1 C.1.2.1 dX10_ticksOf_143 ?_
      refine lv_topi (fun x21 ex21 => ?_)
      replace hf := zLet_at hf ex21
      refine lv_istore_n (lv' := [(3, .int x21), (0, .ref (bV 0)), (1, .int p1), (2, .ref (bV 10)), (4, .int x9), (6, .int x13)]) C.1.1 C.1.2.1 dX10_ticksOf_144 rfl hl (by decide) rfl (fun ls hl => ?_)
      obtain ⟨x22, ex22, hf⟩ := zLet_el hf
      refine lv_iinc (v := x22) (lv' := [(4, .int x22), (3, .int x21), (0, .ref (bV 0)), (1, .int p1), (2, .ref (bV 10)), (6, .int x13)]) C.1.1 C.1.2.1 dX10_ticksOf_145 hl (k := 4) rfl (by rw [ex22]; rfl) (by decide) rfl (fun ls hl => ?_)
      refine lv_goto (tgt := 22) C.1.1 C.1.2.1 dX10_ticksOf_148 (by decide) ?_
      exact ihgo11 x21 x22 mK_17 hf H locs hP hD hS ls (lv_sub hl [2, 3, 4, 1, 0] rfl)
    refine lv_icmp_ne (tgt := 125) C.1.1 C.1.2.1 dX10_ticksOf_112 (by decide) (fun hc => ?_) (fun hc => ?_)
    · replace hf := zIf_f hf hc
      refine lv_aload_n C.1.1 C.1.2.1 dX10_ticksOf_125 rfl (lv_at hl 2 rfl) ?_
      refine zGet (.ref (bV 4)) C.1 wuX10 hK hP 0 rfl rfl 25 (by decide) wfX10_56 rfl rfl dX10_ticksOf_126 ?_
      refine lv_iload C.1.1 C.1.2.1 dX10_ticksOf_129 (lv_at hl 6 rfl) ?_
      obtain ⟨hib, hf⟩ := zGd_el hf
      refine va_iald C.1.1 C.1.2.1 hK.1 hP 4 0 rfl rfl hib dX10_ticksOf_131 ?_
      exact hJ132_19 (mJ 25 x9.toNatClampNeg) hf H locs hP hD hS ls (lv_sub hl [2, 3, 4, 6, 0] rfl)
    · replace hf := zIf_t hf hc
      refine lv_aload_n C.1.1 C.1.2.1 dX10_ticksOf_115 rfl (lv_at hl 2 rfl) ?_
      refine zGet (.ref (bV 5)) C.1 wuX10 hK hP 0 rfl rfl 26 (by decide) wfX10_59 rfl rfl dX10_ticksOf_116 ?_
      refine lv_iload C.1.1 C.1.2.1 dX10_ticksOf_119 (lv_at hl 6 rfl) ?_
      obtain ⟨hib, hf⟩ := zGd_el hf
      refine va_iald C.1.1 C.1.2.1 hK.1 hP 5 0 rfl rfl hib dX10_ticksOf_121 ?_
      refine lv_goto (tgt := 132) C.1.1 C.1.2.1 dX10_ticksOf_122 (by decide) ?_
      exact hJ132_19 (mJ 26 x9.toNatClampNeg) hf H locs hP hD hS ls (lv_sub hl [2, 3, 4, 6, 0] rfl)
def fX10_gatesOfCut_L4 (mJ : Rc) (mP : Rc) (p1 : Int32) (J43_2 : Int32 → Option (Int32)) (n : Nat) (x3 : Int32) (x4 : Int32) : Option (Int32) := zLp2 (fun (go5 : Int32 → Int32 → Option (Int32)) (x3 : Int32) (x4 : Int32) =>
    if (mP 0 0) ≤ x4 then (
      J43_2 x3
    ) else (
      if ((p1 >>> (x4 &&& 31)) &&& (1 : Int32)) = (1 : Int32) then (
        zGd (inb x4 12) <|
        zLet (x3 + (mJ 27 x4.toNatClampNeg)) fun x8 =>
        zLet (x4 + 1) fun x9 =>
        go5 x8 x9
      ) else (
        zLet (x3 + (0 : Int32)) fun x6 =>
        zLet (x4 + 1) fun x7 =>
        go5 x6 x7
      )
    )
  ) n x3 x4
def fX10_gatesOfCut (NN : Nat) (mJ : Rc) (mP : Rc) (p1 : Int32) : Option (Int32) :=
  zJn (fun (x1 : Int32) =>
      some x1
    ) fun J43_2 =>
  fX10_gatesOfCut_L4 mJ mP p1 J43_2 NN (0 : Int32) (0 : Int32)
abbrev rX10_gatesOfCut : Room := { frames := 0, cells := 0, slots := 0, locals := 0 }
set_option maxHeartbeats 4000000 in
set_option maxRecDepth 100000 in
theorem mtX10_gatesOfCut (l : Launch) (dC : Nat → ClassId) (dI : Nat → Nat → Nat) (cI cB : ClassId) (bV bP bS bW bN bO : Nat → Nat) (sz : Nat) (NN : Nat) (mZ : Rc) (mY : Rc) (mB : Rc) (mL : Rc) (mU : Rc) (mJ : Rc) (mK : Rc) (mG : Rc) (mA : Rc) (mP : Rc) (p1 : Int32) {ov : Int32} (hf : fX10_gatesOfCut NN mJ mP p1 = some ov) : zMi l yX10_gatesOfCut (Cond.code yX10_gatesOfCut cX10_gatesOfCut 4 (some .int) :: lw_g) rX10_gatesOfCut (dC, dI) [(cI, .int), (cB, .byte)] [.ref (bV 0), .int p1] sz (kX10 cI cB bV (bP 0) (bS 0) (bW 0) (bN 0) (bO 0) mZ mY mB mL mU mJ mK mG mA ++ kX8 cI cB bP mP) ov (kX10 cI cB bV (bP 0) (bS 0) (bW 0) (bN 0) (bO 0) mZ mY mB mL mU mJ mK mG mA ++ kX8 cI cB bP mP) := by
  refine zSt (cc := cX10_gatesOfCut) (maxL := 4) (ret := (some .int)) (own := RX10) (fun A => zQi (dC, dI) [(cI, .int), (cB, .byte)] A ov (kX10 cI cB bV (bP 0) (bS 0) (bW 0) (bN 0) (bO 0) mZ mY mB mL mU mJ mK mG mA ++ kX8 cI cB bP mP)) (by decide) rfl rfl (Nat.le_of_ble_eq_true rfl) ?_
  intro p e s m below meth c ls A H locs C hK hA hP hD hS hl
  generalize hQ : MQ below (zQi (dC, dI) [(cI, .int), (cB, .byte)] A ov (kX10 cI cB bV (bP 0) (bS 0) (bW 0) (bN 0) (bO 0) mZ mY mB mL mU mJ mK mG mA ++ kX8 cI cB bP mP)) _ s 0 0 A = QQ
  generalize ([.ref (bV 0), .int p1] : List Value).toArray = args at C hQ ⊢
  have hl : lv_has ls 4 [(0, .ref (bV 0)), (1, .int p1)] := hl
  unfold fX10_gatesOfCut at hf
  refine lv_iconst (v := 0) C.1.1 C.1.2.1 dX10_gatesOfCut_0 (by decide) ?_
  refine lv_istore_n (lv' := [(2, .int (0 : Int32)), (0, .ref (bV 0)), (1, .int p1)]) C.1.1 C.1.2.1 dX10_gatesOfCut_1 rfl hl (by decide) rfl (fun ls hl => ?_)
  refine lv_iconst (v := 0) C.1.1 C.1.2.1 dX10_gatesOfCut_2 (by decide) ?_
  refine lv_istore_n (lv' := [(3, .int (0 : Int32)), (2, .int (0 : Int32)), (0, .ref (bV 0)), (1, .int p1)]) C.1.1 C.1.2.1 dX10_gatesOfCut_3 rfl hl (by decide) rfl (fun ls hl => ?_)
  obtain ⟨J43_2, eJ43_2, hf⟩ := zJn_el hf
  have hJ43_2 : ∀ (x1 : Int32), J43_2 x1 = some ov → ∀ (H : Heap) (locs : List Loc), va_P (dC, dI) vwCl (kX10 cI cB bV (bP 0) (bS 0) (bW 0) (bN 0) (bO 0) mZ mY mB mL mU mJ mK mG mA ++ kX8 cI cB bP mP) H → va_D A (kX10 cI cB bV (bP 0) (bS 0) (bW 0) (bN 0) (bO 0) mZ mY mB mL mU mJ mK mG mA ++ kX8 cI cB bP mP) → va_S A s.heap H locs → ∀ (ls : Array Slot), lv_has ls 4 [(2, .int x1)] → W p l e rX10_gatesOfCut s m args below meth c H locs 0 0 QQ (F0 m 43 ls []) := by
    intro x1 hf H locs hP hD hS ls hl
    rw [eJ43_2] at hf
    refine lv_iload_n C.1.1 C.1.2.1 dX10_gatesOfCut_43 rfl (lv_at hl 0 rfl) ?_
    cases hf
    rw [← hQ]
    exact zRi C hK hP hD hS dX10_gatesOfCut_44
  refine zLp2_ind (o := ov) (P := fun (x3 : Int32) (x4 : Int32) => ∀ (H : Heap) (locs : List Loc), va_P (dC, dI) vwCl (kX10 cI cB bV (bP 0) (bS 0) (bW 0) (bN 0) (bO 0) mZ mY mB mL mU mJ mK mG mA ++ kX8 cI cB bP mP) H → va_D A (kX10 cI cB bV (bP 0) (bS 0) (bW 0) (bN 0) (bO 0) mZ mY mB mL mU mJ mK mG mA ++ kX8 cI cB bP mP) → va_S A s.heap H locs → ∀ (ls : Array Slot), lv_has ls 4 [(0, .ref (bV 0)), (1, .int p1), (2, .int x3), (3, .int x4)] → W p l e rX10_gatesOfCut s m args below meth c H locs 0 0 QQ (F0 m 4 ls [])) (fun go5 ihgo5 x3 x4 hf H locs hP hD hS ls hl => ?_) _ (0 : Int32) (0 : Int32) hf H locs hP hD hS ls (lv_sub hl [2, 3, 1, 0] rfl)
  refine lv_iload_n C.1.1 C.1.2.1 dX10_gatesOfCut_4 rfl (lv_at hl 3 rfl) ?_
  refine lv_aload_n C.1.1 C.1.2.1 dX10_gatesOfCut_5 rfl (lv_at hl 0 rfl) ?_
  refine zGet (.ref (bP 0)) C.1 wuX10 hK hP 0 rfl rfl 7 (by decide) wfX10_25 rfl rfl dX10_gatesOfCut_6 ?_
  refine zGetN (.int (mP 0 0)) C.1 wuX8 hK hP 14 rfl rfl 0 (by decide) nfX10_146 rfl rfl dX10_gatesOfCut_9 ?_
  refine lv_icmp_ge (tgt := 43) C.1.1 C.1.2.1 dX10_gatesOfCut_12 (by decide) (fun hc => ?_) (fun hc => ?_)
  · replace hf := zIf_t hf hc
    exact hJ43_2 x3 hf H locs hP hD hS ls (lv_sub hl [2] rfl)
  · replace hf := zIf_f hf hc
    refine lv_iload_n C.1.1 C.1.2.1 dX10_gatesOfCut_15 rfl (lv_at hl 2 rfl) ?_
    refine lv_iload_n C.1.1 C.1.2.1 dX10_gatesOfCut_16 rfl (lv_at hl 1 rfl) ?_
    refine lv_iload_n C.1.1 C.1.2.1 dX10_gatesOfCut_17 rfl (lv_at hl 3 rfl) ?_
    refine lv_ishr C.1.1 C.1.2.1 dX10_gatesOfCut_18 ?_
    refine lv_iconst (v := 1) C.1.1 C.1.2.1 dX10_gatesOfCut_19 (by decide) ?_
    refine lv_iand C.1.1 C.1.2.1 dX10_gatesOfCut_20 ?_
    refine lv_iconst (v := 1) C.1.1 C.1.2.1 dX10_gatesOfCut_21 (by decide) ?_
    refine lv_icmp_ne (tgt := 34) C.1.1 C.1.2.1 dX10_gatesOfCut_22 (by decide) (fun hc => ?_) (fun hc => ?_)
    · replace hf := zIf_f hf hc
      refine lv_iconst (v := 0) C.1.1 C.1.2.1 dX10_gatesOfCut_34 (by decide) ?_
      refine lv_iadd C.1.1 C.1.2.1 dX10_gatesOfCut_35 ?_
      refine lv_topi (fun x6 ex6 => ?_)
      replace hf := zLet_at hf ex6
      refine lv_istore_n (lv' := [(2, .int x6), (0, .ref (bV 0)), (1, .int p1), (3, .int x4)]) C.1.1 C.1.2.1 dX10_gatesOfCut_36 rfl hl (by decide) rfl (fun ls hl => ?_)
      obtain ⟨x7, ex7, hf⟩ := zLet_el hf
      refine lv_iinc (v := x7) (lv' := [(3, .int x7), (2, .int x6), (0, .ref (bV 0)), (1, .int p1)]) C.1.1 C.1.2.1 dX10_gatesOfCut_37 hl (k := 3) rfl (by rw [ex7]; rfl) (by decide) rfl (fun ls hl => ?_)
      refine lv_goto (tgt := 4) C.1.1 C.1.2.1 dX10_gatesOfCut_40 (by decide) ?_
      exact ihgo5 x6 x7 hf H locs hP hD hS ls (lv_sub hl [2, 3, 1, 0] rfl)
    · replace hf := zIf_t hf hc
      refine lv_aload_n C.1.1 C.1.2.1 dX10_gatesOfCut_25 rfl (lv_at hl 0 rfl) ?_
      refine zGet (.ref (bV 6)) C.1 wuX10 hK hP 0 rfl rfl 27 (by decide) wfX10_62 rfl rfl dX10_gatesOfCut_26 ?_
      refine lv_iload_n C.1.1 C.1.2.1 dX10_gatesOfCut_29 rfl (lv_at hl 3 rfl) ?_
      obtain ⟨hib, hf⟩ := zGd_el hf
      refine va_iald C.1.1 C.1.2.1 hK.1 hP 6 0 rfl rfl hib dX10_gatesOfCut_30 ?_
      refine lv_goto (tgt := 35) C.1.1 C.1.2.1 dX10_gatesOfCut_31 (by decide) ?_
      refine lv_iadd C.1.1 C.1.2.1 dX10_gatesOfCut_35 ?_
      refine lv_topi (fun x8 ex8 => ?_)
      replace hf := zLet_at hf ex8
      refine lv_istore_n (lv' := [(2, .int x8), (0, .ref (bV 0)), (1, .int p1), (3, .int x4)]) C.1.1 C.1.2.1 dX10_gatesOfCut_36 rfl hl (by decide) rfl (fun ls hl => ?_)
      obtain ⟨x9, ex9, hf⟩ := zLet_el hf
      refine lv_iinc (v := x9) (lv' := [(3, .int x9), (2, .int x8), (0, .ref (bV 0)), (1, .int p1)]) C.1.1 C.1.2.1 dX10_gatesOfCut_37 hl (k := 3) rfl (by rw [ex9]; rfl) (by decide) rfl (fun ls hl => ?_)
      refine lv_goto (tgt := 4) C.1.1 C.1.2.1 dX10_gatesOfCut_40 (by decide) ?_
      exact ihgo5 x8 x9 hf H locs hP hD hS ls (lv_sub hl [2, 3, 1, 0] rfl)
def fX10_asked (mY : Rc) (mP : Rc) (p1 : Int32) : Option (Int32) :=
  if (mY 9 0) = 0 then (
    some (4 : Int32)
  ) else (
    if p1 < 0 then (
      some (2 : Int32)
    ) else (
      if p1 < ((1 : Int32) <<< ((mP 0 0) &&& 31)) then (
        some (0 : Int32)
      ) else (
        some (2 : Int32)
      )
    )
  )
abbrev rX10_asked : Room := { frames := 0, cells := 0, slots := 0, locals := 0 }
set_option maxHeartbeats 4000000 in
set_option maxRecDepth 100000 in
theorem mtX10_asked (l : Launch) (dC : Nat → ClassId) (dI : Nat → Nat → Nat) (cI cB : ClassId) (bV bP bS bW bN bO : Nat → Nat) (sz : Nat) (mZ : Rc) (mY : Rc) (mB : Rc) (mL : Rc) (mU : Rc) (mJ : Rc) (mK : Rc) (mG : Rc) (mA : Rc) (mP : Rc) (p1 : Int32) {ov : Int32} (hf : fX10_asked mY mP p1 = some ov) : zMi l yX10_asked (Cond.code yX10_asked cX10_asked 2 (some .int) :: lw_g) rX10_asked (dC, dI) [(cI, .int), (cB, .byte)] [.ref (bV 0), .int p1] sz (kX10 cI cB bV (bP 0) (bS 0) (bW 0) (bN 0) (bO 0) mZ mY mB mL mU mJ mK mG mA ++ kX8 cI cB bP mP) ov (kX10 cI cB bV (bP 0) (bS 0) (bW 0) (bN 0) (bO 0) mZ mY mB mL mU mJ mK mG mA ++ kX8 cI cB bP mP) := by
  refine zSt (cc := cX10_asked) (maxL := 2) (ret := (some .int)) (own := RX10) (fun A => zQi (dC, dI) [(cI, .int), (cB, .byte)] A ov (kX10 cI cB bV (bP 0) (bS 0) (bW 0) (bN 0) (bO 0) mZ mY mB mL mU mJ mK mG mA ++ kX8 cI cB bP mP)) (by decide) rfl rfl (Nat.le_of_ble_eq_true rfl) ?_
  intro p e s m below meth c ls A H locs C hK hA hP hD hS hl
  generalize hQ : MQ below (zQi (dC, dI) [(cI, .int), (cB, .byte)] A ov (kX10 cI cB bV (bP 0) (bS 0) (bW 0) (bN 0) (bO 0) mZ mY mB mL mU mJ mK mG mA ++ kX8 cI cB bP mP)) _ s 0 0 A = QQ
  generalize ([.ref (bV 0), .int p1] : List Value).toArray = args at C hQ ⊢
  have hl : lv_has ls 2 [(0, .ref (bV 0)), (1, .int p1)] := hl
  unfold fX10_asked at hf
  refine lv_aload_n C.1.1 C.1.2.1 dX10_asked_0 rfl (lv_at hl 0 rfl) ?_
  refine zGet (.int (mY 9 0)) C.1 wuX10 hK hP 0 rfl rfl 9 (by decide) wfX10_230 rfl rfl dX10_asked_1 ?_
  refine lv_if_ne (tgt := 11) C.1.1 C.1.2.1 dX10_asked_4 (by decide) (fun hc => ?_) (fun hc => ?_)
  · replace hf := zIf_f hf hc
    refine lv_iload_n C.1.1 C.1.2.1 dX10_asked_11 rfl (lv_at hl 1 rfl) ?_
    refine lv_if_lt (tgt := 28) C.1.1 C.1.2.1 dX10_asked_12 (by decide) (fun hc => ?_) (fun hc => ?_)
    · replace hf := zIf_t hf hc
      refine lv_iconst (v := 2) C.1.1 C.1.2.1 dX10_asked_28 (by decide) ?_
      refine lv_goto (tgt := 33) C.1.1 C.1.2.1 dX10_asked_29 (by decide) ?_
      cases hf
      rw [← hQ]
      exact zRi C hK hP hD hS dX10_asked_33
    · replace hf := zIf_f hf hc
      refine lv_iload_n C.1.1 C.1.2.1 dX10_asked_15 rfl (lv_at hl 1 rfl) ?_
      refine lv_iconst (v := 1) C.1.1 C.1.2.1 dX10_asked_16 (by decide) ?_
      refine lv_aload_n C.1.1 C.1.2.1 dX10_asked_17 rfl (lv_at hl 0 rfl) ?_
      refine zGet (.ref (bP 0)) C.1 wuX10 hK hP 0 rfl rfl 7 (by decide) wfX10_25 rfl rfl dX10_asked_18 ?_
      refine zGetN (.int (mP 0 0)) C.1 wuX8 hK hP 14 rfl rfl 0 (by decide) nfX10_146 rfl rfl dX10_asked_21 ?_
      refine lv_ishl C.1.1 C.1.2.1 dX10_asked_24 ?_
      refine lv_icmp_lt (tgt := 32) C.1.1 C.1.2.1 dX10_asked_25 (by decide) (fun hc => ?_) (fun hc => ?_)
      · replace hf := zIf_t hf hc
        refine lv_iconst (v := 0) C.1.1 C.1.2.1 dX10_asked_32 (by decide) ?_
        cases hf
        rw [← hQ]
        exact zRi C hK hP hD hS dX10_asked_33
      · replace hf := zIf_f hf hc
        refine lv_iconst (v := 2) C.1.1 C.1.2.1 dX10_asked_28 (by decide) ?_
        refine lv_goto (tgt := 33) C.1.1 C.1.2.1 dX10_asked_29 (by decide) ?_
        cases hf
        rw [← hQ]
        exact zRi C hK hP hD hS dX10_asked_33
  · replace hf := zIf_t hf hc
    refine lv_iconst (v := 4) C.1.1 C.1.2.1 dX10_asked_7 (by decide) ?_
    refine lv_goto (tgt := 33) C.1.1 C.1.2.1 dX10_asked_8 (by decide) ?_
    cases hf
    rw [← hQ]
    exact zRi C hK hP hD hS dX10_asked_33
def fX10_ticks (NN : Nat) (mZ : Rc) (mY : Rc) (mU : Rc) (mJ : Rc) (mK : Rc) (mP : Rc) (p1 : Int32) : Option (Int32 × Rc × Rc × Rc × Rc) :=
  zLet (rs mZ 0 (fun _ => (0 : Int32))) fun mZ_1 =>
  zB1 (fX10_asked mY mP p1) fun v2 =>
  if v2 ≤ 0 then (
    zB2 (fX10_needs NN mY mU mJ mP) fun mU_3 mJ_4 =>
    zB2 (fX10_ticksOf NN mY mJ_4 mK mP p1) fun v5 mK_6 =>
    zB2 (fX10_done mZ_1 v5) fun v7 mZ_8 =>
    some (v7, mZ_8, mU_3, mJ_4, mK_6)
  ) else (
    zB1 (fX10_asked mY mP p1) fun v9 =>
    zB2 (fX10_refused mZ_1 v9) fun v10 mZ_11 =>
    some (v10, mZ_11, mU, mJ, mK)
  )
abbrev rX10_ticks : Room := { frames := 5, cells := 0, slots := 0, locals := 121 }
set_option maxHeartbeats 4000000 in
set_option maxRecDepth 100000 in
theorem mtX10_ticks (l : Launch) (dC : Nat → ClassId) (dI : Nat → Nat → Nat) (cI cB : ClassId) (bV bP bS bW bN bO : Nat → Nat) (sz : Nat) (NN : Nat) (mZ : Rc) (mY : Rc) (mB : Rc) (mL : Rc) (mU : Rc) (mJ : Rc) (mK : Rc) (mG : Rc) (mA : Rc) (mP : Rc) (p1 : Int32) {ov : Int32} {mZ' : Rc} {mU' : Rc} {mJ' : Rc} {mK' : Rc} (hf : fX10_ticks NN mZ mY mU mJ mK mP p1 = some (ov, mZ', mU', mJ', mK')) : zMi l yX10_ticks (Cond.code yX10_ticks cX10_ticks 2 (some .int) :: lw_g) rX10_ticks (dC, dI) [(cI, .int), (cB, .byte)] [.ref (bV 0), .int p1] sz (kX10 cI cB bV (bP 0) (bS 0) (bW 0) (bN 0) (bO 0) mZ mY mB mL mU mJ mK mG mA ++ kX8 cI cB bP mP) ov (kX10 cI cB bV (bP 0) (bS 0) (bW 0) (bN 0) (bO 0) mZ' mY mB mL mU' mJ' mK' mG mA ++ kX8 cI cB bP mP) := by
  refine zSt (cc := cX10_ticks) (maxL := 2) (ret := (some .int)) (own := RX10) (fun A => zQi (dC, dI) [(cI, .int), (cB, .byte)] A ov (kX10 cI cB bV (bP 0) (bS 0) (bW 0) (bN 0) (bO 0) mZ' mY mB mL mU' mJ' mK' mG mA ++ kX8 cI cB bP mP)) (by decide) rfl rfl (Nat.le_of_ble_eq_true rfl) ?_
  intro p e s m below meth c ls A H locs C hK hA hP hD hS hl
  generalize hQ : MQ below (zQi (dC, dI) [(cI, .int), (cB, .byte)] A ov (kX10 cI cB bV (bP 0) (bS 0) (bW 0) (bN 0) (bO 0) mZ' mY mB mL mU' mJ' mK' mG mA ++ kX8 cI cB bP mP)) _ s 0 0 A = QQ
  generalize ([.ref (bV 0), .int p1] : List Value).toArray = args at C hQ ⊢
  have hl : lv_has ls 2 [(0, .ref (bV 0)), (1, .int p1)] := hl
  unfold fX10_ticks at hf
  refine lv_aload_n C.1.1 C.1.2.1 dX10_ticks_0 rfl (lv_at hl 0 rfl) ?_
  refine lv_iconst (v := 0) C.1.1 C.1.2.1 dX10_ticks_1 (by decide) ?_
  obtain ⟨mZ_1, emZ_1, hf⟩ := zLet_el hf
  refine zPut (ty := .int) (kX10 cI cB bV (bP 0) (bS 0) (bW 0) (bN 0) (bO 0) mZ_1 mY mB mL mU mJ mK mG mA ++ kX8 cI cB bP mP) C.1 wuX10 tyX10 tyX10_ok nmX10 hK hP hD hS 0 rfl rfl 0 (by decide) wfX10_86 rfl rfl (by decide +kernel) rfl rfl (Nat.le_of_ble_eq_true rfl) dX10_ticks_2 (by rw [emZ_1]; rfl) (fun H locs hP hD hS => ?_)
  refine lv_aload_n C.1.1 C.1.2.1 dX10_ticks_5 rfl (lv_at hl 0 rfl) ?_
  refine lv_iload_n C.1.1 C.1.2.1 dX10_ticks_6 rfl (lv_at hl 1 rfl) ?_
  obtain ⟨v2, hg, hf⟩ := zB1_el hf
  refine zCVi (As := [.int p1]) (rest := []) (wr := ([] : va_W)) (wn := (kX10 cI cB bV (bP 0) (bS 0) (bW 0) (bN 0) (bO 0) mZ_1 mY mB mL mU mJ mK mG mA ++ kX8 cI cB bP mP)) C.1 hK hA hP hD hS [0, 1, 2, 3, 4, 5, 6, 7, 8, 9, 10, 11, 12, 13, 14, 15, 16, 17, 18, 19, 20, 21, 22, 23, 24] [] [0, 1, 2, 3, 4, 5, 6, 7, 8, 9, 10, 11, 12, 13, 14, 15, 16, 17, 18, 19, 20, 21, 22, 23, 24] 0 (mtX10_asked l dC dI cI cB bV bP bS bW bN bO H.size mZ_1 mY mB mL mU mJ mK mG mA mP p1 hg) (zCwV 1 C.1 wlX10_293 wiX10_asked ws_X10_asked wnX10 wkX10_asked rfl rfl (by decide +kernel) ⟨Nat.le_of_ble_eq_true rfl, Nat.le_of_ble_eq_true rfl⟩) rfl rfl (by decide +kernel) rfl rfl rfl rfl hl.1 (Nat.le_of_ble_eq_true rfl) dX10_ticks_7 ⟨Nat.zero_le _, Nat.zero_le _⟩ rfl (fun H locs hP hD hS => ?_)
  refine lv_if_le (tgt := 23) C.1.1 C.1.2.1 dX10_ticks_10 (by decide) (fun hc => ?_) (fun hc => ?_)
  · replace hf := zIf_t hf hc
    refine lv_aload_n C.1.1 C.1.2.1 dX10_ticks_23 rfl (lv_at hl 0 rfl) ?_
    obtain ⟨mU_3, mJ_4, hg, hf⟩ := zB2_el hf
    refine zCVv (As := []) (rest := []) (wr := ([] : va_W)) (wn := (kX10 cI cB bV (bP 0) (bS 0) (bW 0) (bN 0) (bO 0) mZ_1 mY mB mL mU_3 mJ_4 mK mG mA ++ kX8 cI cB bP mP)) C.1 hK hA hP hD hS [0, 1, 2, 3, 4, 5, 6, 7, 8, 9, 10, 11, 12, 13, 14, 15, 16, 17, 18, 19, 20, 21, 22, 23, 24] [] [0, 1, 2, 3, 4, 5, 6, 7, 8, 9, 10, 11, 12, 13, 14, 15, 16, 17, 18, 19, 20, 21, 22, 23, 24] 0 (mtX10_needs l dC dI cI cB bV bP bS bW bN bO H.size NN mZ_1 mY mB mL mU mJ mK mG mA mP hg) (zCwV 0 C.1 wlX10_296 wiX10_needs ws_X10_needs wnX10 wkX10_needs rfl rfl (by decide +kernel) ⟨Nat.le_of_ble_eq_true rfl, Nat.le_of_ble_eq_true rfl⟩) rfl rfl (by decide +kernel) rfl rfl rfl rfl hl.1 (Nat.le_of_ble_eq_true rfl) dX10_ticks_24 ⟨Nat.zero_le _, Nat.zero_le _⟩ rfl (fun H locs hP hD hS => ?_)
    refine lv_aload_n C.1.1 C.1.2.1 dX10_ticks_27 rfl (lv_at hl 0 rfl) ?_
    refine lv_aload_n C.1.1 C.1.2.1 dX10_ticks_28 rfl (lv_at hl 0 rfl) ?_
    refine lv_iload_n C.1.1 C.1.2.1 dX10_ticks_29 rfl (lv_at hl 1 rfl) ?_
    obtain ⟨v5, mK_6, hg, hf⟩ := zB2_el hf
    refine zCVi (As := [.int p1]) (rest := [.ref (bV 0)]) (wr := ([] : va_W)) (wn := (kX10 cI cB bV (bP 0) (bS 0) (bW 0) (bN 0) (bO 0) mZ_1 mY mB mL mU_3 mJ_4 mK_6 mG mA ++ kX8 cI cB bP mP)) C.1 hK hA hP hD hS [0, 1, 2, 3, 4, 5, 6, 7, 8, 9, 10, 11, 12, 13, 14, 15, 16, 17, 18, 19, 20, 21, 22, 23, 24] [] [0, 1, 2, 3, 4, 5, 6, 7, 8, 9, 10, 11, 12, 13, 14, 15, 16, 17, 18, 19, 20, 21, 22, 23, 24] 0 (mtX10_ticksOf l dC dI cI cB bV bP bS bW bN bO H.size NN mZ_1 mY mB mL mU_3 mJ_4 mK mG mA mP p1 hg) (zCwV 1 C.1 wlX10_299 wiX10_ticksOf ws_X10_ticksOf wnX10 wkX10_ticksOf rfl rfl (by decide +kernel) ⟨Nat.le_of_ble_eq_true rfl, Nat.le_of_ble_eq_true rfl⟩) rfl rfl (by decide +kernel) rfl rfl rfl rfl hl.1 (Nat.le_of_ble_eq_true rfl) dX10_ticks_30 ⟨Nat.zero_le _, Nat.zero_le _⟩ rfl (fun H locs hP hD hS => ?_)
    obtain ⟨v7, mZ_8, hg, hf⟩ := zB2_el hf
    refine zCVi (As := [.int v5]) (rest := []) (wr := (kX8 cI cB bP mP)) (wn := (kX10 cI cB bV (bP 0) (bS 0) (bW 0) (bN 0) (bO 0) mZ_8 mY mB mL mU_3 mJ_4 mK_6 mG mA ++ kX8 cI cB bP mP)) C.1 hK hA hP hD hS [0, 1, 2, 3, 4, 5, 6, 7, 8, 9, 10, 11, 12, 13] [14, 15, 16, 17, 18, 19, 20, 21, 22, 23, 24] [11, 12, 13, 14, 15, 16, 17, 18, 19, 20, 21, 22, 23, 24, 0, 1, 2, 3, 4, 5, 6, 7, 8, 9, 10] 0 (mtX10_done l dC dI cI cB bV bP bS bW bN bO H.size mZ_1 mY mB mL mU_3 mJ_4 mK_6 mG mA v5 hg) (zCwV 1 C.1 wlX10_233 wiX10_done ws_X10_done wnX10 wkX10_done rfl rfl (by decide +kernel) ⟨Nat.le_of_ble_eq_true rfl, Nat.le_of_ble_eq_true rfl⟩) rfl rfl (by decide +kernel) rfl rfl rfl rfl hl.1 (Nat.le_of_ble_eq_true rfl) dX10_ticks_33 ⟨Nat.zero_le _, Nat.zero_le _⟩ rfl (fun H locs hP hD hS => ?_)
    cases hf
    rw [← hQ]
    exact zRi C hK hP hD hS dX10_ticks_36
  · replace hf := zIf_f hf hc
    refine lv_aload_n C.1.1 C.1.2.1 dX10_ticks_13 rfl (lv_at hl 0 rfl) ?_
    refine lv_aload_n C.1.1 C.1.2.1 dX10_ticks_14 rfl (lv_at hl 0 rfl) ?_
    refine lv_iload_n C.1.1 C.1.2.1 dX10_ticks_15 rfl (lv_at hl 1 rfl) ?_
    obtain ⟨v9, hg, hf⟩ := zB1_el hf
    refine zCVi (As := [.int p1]) (rest := [.ref (bV 0)]) (wr := ([] : va_W)) (wn := (kX10 cI cB bV (bP 0) (bS 0) (bW 0) (bN 0) (bO 0) mZ_1 mY mB mL mU mJ mK mG mA ++ kX8 cI cB bP mP)) C.1 hK hA hP hD hS [0, 1, 2, 3, 4, 5, 6, 7, 8, 9, 10, 11, 12, 13, 14, 15, 16, 17, 18, 19, 20, 21, 22, 23, 24] [] [0, 1, 2, 3, 4, 5, 6, 7, 8, 9, 10, 11, 12, 13, 14, 15, 16, 17, 18, 19, 20, 21, 22, 23, 24] 0 (mtX10_asked l dC dI cI cB bV bP bS bW bN bO H.size mZ_1 mY mB mL mU mJ mK mG mA mP p1 hg) (zCwV 1 C.1 wlX10_293 wiX10_asked ws_X10_asked wnX10 wkX10_asked rfl rfl (by decide +kernel) ⟨Nat.le_of_ble_eq_true rfl, Nat.le_of_ble_eq_true rfl⟩) rfl rfl (by decide +kernel) rfl rfl rfl rfl hl.1 (Nat.le_of_ble_eq_true rfl) dX10_ticks_16 ⟨Nat.zero_le _, Nat.zero_le _⟩ rfl (fun H locs hP hD hS => ?_)
    obtain ⟨v10, mZ_11, hg, hf⟩ := zB2_el hf
    refine zCVi (As := [.int v9]) (rest := []) (wr := (kX8 cI cB bP mP)) (wn := (kX10 cI cB bV (bP 0) (bS 0) (bW 0) (bN 0) (bO 0) mZ_11 mY mB mL mU mJ mK mG mA ++ kX8 cI cB bP mP)) C.1 hK hA hP hD hS [0, 1, 2, 3, 4, 5, 6, 7, 8, 9, 10, 11, 12, 13] [14, 15, 16, 17, 18, 19, 20, 21, 22, 23, 24] [11, 12, 13, 14, 15, 16, 17, 18, 19, 20, 21, 22, 23, 24, 0, 1, 2, 3, 4, 5, 6, 7, 8, 9, 10] 0 (mtX10_refused l dC dI cI cB bV bP bS bW bN bO H.size mZ_1 mY mB mL mU mJ mK mG mA v9 hg) (zCwV 1 C.1 wlX10_221 wiX10_refused ws_X10_refused wnX10 wkX10_refused rfl rfl (by decide +kernel) ⟨Nat.le_of_ble_eq_true rfl, Nat.le_of_ble_eq_true rfl⟩) rfl rfl (by decide +kernel) rfl rfl rfl rfl hl.1 (Nat.le_of_ble_eq_true rfl) dX10_ticks_19 ⟨Nat.zero_le _, Nat.zero_le _⟩ rfl (fun H locs hP hD hS => ?_)
    cases hf
    rw [← hQ]
    exact zRi C hK hP hD hS dX10_ticks_22
def fX10_gates (NN : Nat) (mZ : Rc) (mY : Rc) (mU : Rc) (mJ : Rc) (mP : Rc) (p1 : Int32) : Option (Int32 × Rc × Rc × Rc) :=
  zLet (rs mZ 0 (fun _ => (0 : Int32))) fun mZ_1 =>
  zB1 (fX10_asked mY mP p1) fun v2 =>
  if v2 ≤ 0 then (
    zB2 (fX10_needs NN mY mU mJ mP) fun mU_3 mJ_4 =>
    zB1 (fX10_gatesOfCut NN mJ_4 mP p1) fun v5 =>
    zB2 (fX10_done mZ_1 v5) fun v6 mZ_7 =>
    some (v6, mZ_7, mU_3, mJ_4)
  ) else (
    zB1 (fX10_asked mY mP p1) fun v8 =>
    zB2 (fX10_refused mZ_1 v8) fun v9 mZ_10 =>
    some (v9, mZ_10, mU, mJ)
  )
abbrev rX10_gates : Room := { frames := 5, cells := 0, slots := 0, locals := 121 }
set_option maxHeartbeats 4000000 in
set_option maxRecDepth 100000 in
theorem mtX10_gates (l : Launch) (dC : Nat → ClassId) (dI : Nat → Nat → Nat) (cI cB : ClassId) (bV bP bS bW bN bO : Nat → Nat) (sz : Nat) (NN : Nat) (mZ : Rc) (mY : Rc) (mB : Rc) (mL : Rc) (mU : Rc) (mJ : Rc) (mK : Rc) (mG : Rc) (mA : Rc) (mP : Rc) (p1 : Int32) {ov : Int32} {mZ' : Rc} {mU' : Rc} {mJ' : Rc} (hf : fX10_gates NN mZ mY mU mJ mP p1 = some (ov, mZ', mU', mJ')) : zMi l yX10_gates (Cond.code yX10_gates cX10_gates 2 (some .int) :: lw_g) rX10_gates (dC, dI) [(cI, .int), (cB, .byte)] [.ref (bV 0), .int p1] sz (kX10 cI cB bV (bP 0) (bS 0) (bW 0) (bN 0) (bO 0) mZ mY mB mL mU mJ mK mG mA ++ kX8 cI cB bP mP) ov (kX10 cI cB bV (bP 0) (bS 0) (bW 0) (bN 0) (bO 0) mZ' mY mB mL mU' mJ' mK mG mA ++ kX8 cI cB bP mP) := by
  refine zSt (cc := cX10_gates) (maxL := 2) (ret := (some .int)) (own := RX10) (fun A => zQi (dC, dI) [(cI, .int), (cB, .byte)] A ov (kX10 cI cB bV (bP 0) (bS 0) (bW 0) (bN 0) (bO 0) mZ' mY mB mL mU' mJ' mK mG mA ++ kX8 cI cB bP mP)) (by decide) rfl rfl (Nat.le_of_ble_eq_true rfl) ?_
  intro p e s m below meth c ls A H locs C hK hA hP hD hS hl
  generalize hQ : MQ below (zQi (dC, dI) [(cI, .int), (cB, .byte)] A ov (kX10 cI cB bV (bP 0) (bS 0) (bW 0) (bN 0) (bO 0) mZ' mY mB mL mU' mJ' mK mG mA ++ kX8 cI cB bP mP)) _ s 0 0 A = QQ
  generalize ([.ref (bV 0), .int p1] : List Value).toArray = args at C hQ ⊢
  have hl : lv_has ls 2 [(0, .ref (bV 0)), (1, .int p1)] := hl
  unfold fX10_gates at hf
  refine lv_aload_n C.1.1 C.1.2.1 dX10_gates_0 rfl (lv_at hl 0 rfl) ?_
  refine lv_iconst (v := 0) C.1.1 C.1.2.1 dX10_gates_1 (by decide) ?_
  obtain ⟨mZ_1, emZ_1, hf⟩ := zLet_el hf
  refine zPut (ty := .int) (kX10 cI cB bV (bP 0) (bS 0) (bW 0) (bN 0) (bO 0) mZ_1 mY mB mL mU mJ mK mG mA ++ kX8 cI cB bP mP) C.1 wuX10 tyX10 tyX10_ok nmX10 hK hP hD hS 0 rfl rfl 0 (by decide) wfX10_86 rfl rfl (by decide +kernel) rfl rfl (Nat.le_of_ble_eq_true rfl) dX10_gates_2 (by rw [emZ_1]; rfl) (fun H locs hP hD hS => ?_)
  refine lv_aload_n C.1.1 C.1.2.1 dX10_gates_5 rfl (lv_at hl 0 rfl) ?_
  refine lv_iload_n C.1.1 C.1.2.1 dX10_gates_6 rfl (lv_at hl 1 rfl) ?_
  obtain ⟨v2, hg, hf⟩ := zB1_el hf
  refine zCVi (As := [.int p1]) (rest := []) (wr := ([] : va_W)) (wn := (kX10 cI cB bV (bP 0) (bS 0) (bW 0) (bN 0) (bO 0) mZ_1 mY mB mL mU mJ mK mG mA ++ kX8 cI cB bP mP)) C.1 hK hA hP hD hS [0, 1, 2, 3, 4, 5, 6, 7, 8, 9, 10, 11, 12, 13, 14, 15, 16, 17, 18, 19, 20, 21, 22, 23, 24] [] [0, 1, 2, 3, 4, 5, 6, 7, 8, 9, 10, 11, 12, 13, 14, 15, 16, 17, 18, 19, 20, 21, 22, 23, 24] 0 (mtX10_asked l dC dI cI cB bV bP bS bW bN bO H.size mZ_1 mY mB mL mU mJ mK mG mA mP p1 hg) (zCwV 1 C.1 wlX10_293 wiX10_asked ws_X10_asked wnX10 wkX10_asked rfl rfl (by decide +kernel) ⟨Nat.le_of_ble_eq_true rfl, Nat.le_of_ble_eq_true rfl⟩) rfl rfl (by decide +kernel) rfl rfl rfl rfl hl.1 (Nat.le_of_ble_eq_true rfl) dX10_gates_7 ⟨Nat.zero_le _, Nat.zero_le _⟩ rfl (fun H locs hP hD hS => ?_)
  refine lv_if_le (tgt := 23) C.1.1 C.1.2.1 dX10_gates_10 (by decide) (fun hc => ?_) (fun hc => ?_)
  · replace hf := zIf_t hf hc
    refine lv_aload_n C.1.1 C.1.2.1 dX10_gates_23 rfl (lv_at hl 0 rfl) ?_
    obtain ⟨mU_3, mJ_4, hg, hf⟩ := zB2_el hf
    refine zCVv (As := []) (rest := []) (wr := ([] : va_W)) (wn := (kX10 cI cB bV (bP 0) (bS 0) (bW 0) (bN 0) (bO 0) mZ_1 mY mB mL mU_3 mJ_4 mK mG mA ++ kX8 cI cB bP mP)) C.1 hK hA hP hD hS [0, 1, 2, 3, 4, 5, 6, 7, 8, 9, 10, 11, 12, 13, 14, 15, 16, 17, 18, 19, 20, 21, 22, 23, 24] [] [0, 1, 2, 3, 4, 5, 6, 7, 8, 9, 10, 11, 12, 13, 14, 15, 16, 17, 18, 19, 20, 21, 22, 23, 24] 0 (mtX10_needs l dC dI cI cB bV bP bS bW bN bO H.size NN mZ_1 mY mB mL mU mJ mK mG mA mP hg) (zCwV 0 C.1 wlX10_296 wiX10_needs ws_X10_needs wnX10 wkX10_needs rfl rfl (by decide +kernel) ⟨Nat.le_of_ble_eq_true rfl, Nat.le_of_ble_eq_true rfl⟩) rfl rfl (by decide +kernel) rfl rfl rfl rfl hl.1 (Nat.le_of_ble_eq_true rfl) dX10_gates_24 ⟨Nat.zero_le _, Nat.zero_le _⟩ rfl (fun H locs hP hD hS => ?_)
    refine lv_aload_n C.1.1 C.1.2.1 dX10_gates_27 rfl (lv_at hl 0 rfl) ?_
    refine lv_aload_n C.1.1 C.1.2.1 dX10_gates_28 rfl (lv_at hl 0 rfl) ?_
    refine lv_iload_n C.1.1 C.1.2.1 dX10_gates_29 rfl (lv_at hl 1 rfl) ?_
    obtain ⟨v5, hg, hf⟩ := zB1_el hf
    refine zCVi (As := [.int p1]) (rest := [.ref (bV 0)]) (wr := ([] : va_W)) (wn := (kX10 cI cB bV (bP 0) (bS 0) (bW 0) (bN 0) (bO 0) mZ_1 mY mB mL mU_3 mJ_4 mK mG mA ++ kX8 cI cB bP mP)) C.1 hK hA hP hD hS [0, 1, 2, 3, 4, 5, 6, 7, 8, 9, 10, 11, 12, 13, 14, 15, 16, 17, 18, 19, 20, 21, 22, 23, 24] [] [0, 1, 2, 3, 4, 5, 6, 7, 8, 9, 10, 11, 12, 13, 14, 15, 16, 17, 18, 19, 20, 21, 22, 23, 24] 0 (mtX10_gatesOfCut l dC dI cI cB bV bP bS bW bN bO H.size NN mZ_1 mY mB mL mU_3 mJ_4 mK mG mA mP p1 hg) (zCwV 1 C.1 wlX10_302 wiX10_gatesOfCut ws_X10_gatesOfCut wnX10 wkX10_gatesOfCut rfl rfl (by decide +kernel) ⟨Nat.le_of_ble_eq_true rfl, Nat.le_of_ble_eq_true rfl⟩) rfl rfl (by decide +kernel) rfl rfl rfl rfl hl.1 (Nat.le_of_ble_eq_true rfl) dX10_gates_30 ⟨Nat.zero_le _, Nat.zero_le _⟩ rfl (fun H locs hP hD hS => ?_)
    obtain ⟨v6, mZ_7, hg, hf⟩ := zB2_el hf
    refine zCVi (As := [.int v5]) (rest := []) (wr := (kX8 cI cB bP mP)) (wn := (kX10 cI cB bV (bP 0) (bS 0) (bW 0) (bN 0) (bO 0) mZ_7 mY mB mL mU_3 mJ_4 mK mG mA ++ kX8 cI cB bP mP)) C.1 hK hA hP hD hS [0, 1, 2, 3, 4, 5, 6, 7, 8, 9, 10, 11, 12, 13] [14, 15, 16, 17, 18, 19, 20, 21, 22, 23, 24] [11, 12, 13, 14, 15, 16, 17, 18, 19, 20, 21, 22, 23, 24, 0, 1, 2, 3, 4, 5, 6, 7, 8, 9, 10] 0 (mtX10_done l dC dI cI cB bV bP bS bW bN bO H.size mZ_1 mY mB mL mU_3 mJ_4 mK mG mA v5 hg) (zCwV 1 C.1 wlX10_233 wiX10_done ws_X10_done wnX10 wkX10_done rfl rfl (by decide +kernel) ⟨Nat.le_of_ble_eq_true rfl, Nat.le_of_ble_eq_true rfl⟩) rfl rfl (by decide +kernel) rfl rfl rfl rfl hl.1 (Nat.le_of_ble_eq_true rfl) dX10_gates_33 ⟨Nat.zero_le _, Nat.zero_le _⟩ rfl (fun H locs hP hD hS => ?_)
    cases hf
    rw [← hQ]
    exact zRi C hK hP hD hS dX10_gates_36
  · replace hf := zIf_f hf hc
    refine lv_aload_n C.1.1 C.1.2.1 dX10_gates_13 rfl (lv_at hl 0 rfl) ?_
    refine lv_aload_n C.1.1 C.1.2.1 dX10_gates_14 rfl (lv_at hl 0 rfl) ?_
    refine lv_iload_n C.1.1 C.1.2.1 dX10_gates_15 rfl (lv_at hl 1 rfl) ?_
    obtain ⟨v8, hg, hf⟩ := zB1_el hf
    refine zCVi (As := [.int p1]) (rest := [.ref (bV 0)]) (wr := ([] : va_W)) (wn := (kX10 cI cB bV (bP 0) (bS 0) (bW 0) (bN 0) (bO 0) mZ_1 mY mB mL mU mJ mK mG mA ++ kX8 cI cB bP mP)) C.1 hK hA hP hD hS [0, 1, 2, 3, 4, 5, 6, 7, 8, 9, 10, 11, 12, 13, 14, 15, 16, 17, 18, 19, 20, 21, 22, 23, 24] [] [0, 1, 2, 3, 4, 5, 6, 7, 8, 9, 10, 11, 12, 13, 14, 15, 16, 17, 18, 19, 20, 21, 22, 23, 24] 0 (mtX10_asked l dC dI cI cB bV bP bS bW bN bO H.size mZ_1 mY mB mL mU mJ mK mG mA mP p1 hg) (zCwV 1 C.1 wlX10_293 wiX10_asked ws_X10_asked wnX10 wkX10_asked rfl rfl (by decide +kernel) ⟨Nat.le_of_ble_eq_true rfl, Nat.le_of_ble_eq_true rfl⟩) rfl rfl (by decide +kernel) rfl rfl rfl rfl hl.1 (Nat.le_of_ble_eq_true rfl) dX10_gates_16 ⟨Nat.zero_le _, Nat.zero_le _⟩ rfl (fun H locs hP hD hS => ?_)
    obtain ⟨v9, mZ_10, hg, hf⟩ := zB2_el hf
    refine zCVi (As := [.int v8]) (rest := []) (wr := (kX8 cI cB bP mP)) (wn := (kX10 cI cB bV (bP 0) (bS 0) (bW 0) (bN 0) (bO 0) mZ_10 mY mB mL mU mJ mK mG mA ++ kX8 cI cB bP mP)) C.1 hK hA hP hD hS [0, 1, 2, 3, 4, 5, 6, 7, 8, 9, 10, 11, 12, 13] [14, 15, 16, 17, 18, 19, 20, 21, 22, 23, 24] [11, 12, 13, 14, 15, 16, 17, 18, 19, 20, 21, 22, 23, 24, 0, 1, 2, 3, 4, 5, 6, 7, 8, 9, 10] 0 (mtX10_refused l dC dI cI cB bV bP bS bW bN bO H.size mZ_1 mY mB mL mU mJ mK mG mA v8 hg) (zCwV 1 C.1 wlX10_221 wiX10_refused ws_X10_refused wnX10 wkX10_refused rfl rfl (by decide +kernel) ⟨Nat.le_of_ble_eq_true rfl, Nat.le_of_ble_eq_true rfl⟩) rfl rfl (by decide +kernel) rfl rfl rfl rfl hl.1 (Nat.le_of_ble_eq_true rfl) dX10_gates_19 ⟨Nat.zero_le _, Nat.zero_le _⟩ rfl (fun H locs hP hD hS => ?_)
    cases hf
    rw [← hQ]
    exact zRi C hK hP hD hS dX10_gates_22
def fX10_moved_L38 (mP : Rc) (NN : Nat) (mK_6 : Rc) (J69_8 : Int32 → Option (Int32 × Rc × Rc × Rc × Rc)) (n : Nat) (x11 : Int32) (x12 : Int32) : Option (Int32 × Rc × Rc × Rc × Rc) := zLp2 (fun (go13 : Int32 → Int32 → Option (Int32 × Rc × Rc × Rc × Rc)) (x11 : Int32) (x12 : Int32) =>
    if (mP 0 0) < x12 then (
      J69_8 x11
    ) else (
      zGd (inb x12 13) <|
      zB1 (fX10_bits NN (mK_6 30 x12.toNatClampNeg)) fun v14 =>
      zLet (x11 + v14) fun x15 =>
      zLet (x12 + 1) fun x16 =>
      go13 x15 x16
    )
  ) n x11 x12
def fX10_moved (NN : Nat) (mZ : Rc) (mY : Rc) (mU : Rc) (mJ : Rc) (mK : Rc) (mP : Rc) (p1 : Int32) : Option (Int32 × Rc × Rc × Rc × Rc) :=
  zLet (rs mZ 0 (fun _ => (0 : Int32))) fun mZ_1 =>
  zB1 (fX10_asked mY mP p1) fun v2 =>
  if v2 ≤ 0 then (
    zB2 (fX10_needs NN mY mU mJ mP) fun mU_3 mJ_4 =>
    zB2 (fX10_ticksOf NN mY mJ_4 mK mP p1) fun v5 mK_6 =>
    zJn (fun (x7 : Int32) =>
        zB2 (fX10_done mZ_1 x7) fun v9 mZ_10 =>
        some (v9, mZ_10, mU_3, mJ_4, mK_6)
      ) fun J69_8 =>
    fX10_moved_L38 mP NN mK_6 J69_8 NN (0 : Int32) (0 : Int32)
  ) else (
    zB1 (fX10_asked mY mP p1) fun v17 =>
    zB2 (fX10_refused mZ_1 v17) fun v18 mZ_19 =>
    some (v18, mZ_19, mU, mJ, mK)
  )
abbrev rX10_moved : Room := { frames := 5, cells := 0, slots := 0, locals := 121 }
set_option maxHeartbeats 4000000 in
set_option maxRecDepth 100000 in
theorem mtX10_moved (l : Launch) (dC : Nat → ClassId) (dI : Nat → Nat → Nat) (cI cB : ClassId) (bV bP bS bW bN bO : Nat → Nat) (sz : Nat) (NN : Nat) (mZ : Rc) (mY : Rc) (mB : Rc) (mL : Rc) (mU : Rc) (mJ : Rc) (mK : Rc) (mG : Rc) (mA : Rc) (mP : Rc) (p1 : Int32) {ov : Int32} {mZ' : Rc} {mU' : Rc} {mJ' : Rc} {mK' : Rc} (hf : fX10_moved NN mZ mY mU mJ mK mP p1 = some (ov, mZ', mU', mJ', mK')) : zMi l yX10_moved (Cond.code yX10_moved cX10_moved 5 (some .int) :: lw_g) rX10_moved (dC, dI) [(cI, .int), (cB, .byte)] [.ref (bV 0), .int p1] sz (kX10 cI cB bV (bP 0) (bS 0) (bW 0) (bN 0) (bO 0) mZ mY mB mL mU mJ mK mG mA ++ kX8 cI cB bP mP) ov (kX10 cI cB bV (bP 0) (bS 0) (bW 0) (bN 0) (bO 0) mZ' mY mB mL mU' mJ' mK' mG mA ++ kX8 cI cB bP mP) := by
  refine zSt (cc := cX10_moved) (maxL := 5) (ret := (some .int)) (own := RX10) (fun A => zQi (dC, dI) [(cI, .int), (cB, .byte)] A ov (kX10 cI cB bV (bP 0) (bS 0) (bW 0) (bN 0) (bO 0) mZ' mY mB mL mU' mJ' mK' mG mA ++ kX8 cI cB bP mP)) (by decide) rfl rfl (Nat.le_of_ble_eq_true rfl) ?_
  intro p e s m below meth c ls A H locs C hK hA hP hD hS hl
  generalize hQ : MQ below (zQi (dC, dI) [(cI, .int), (cB, .byte)] A ov (kX10 cI cB bV (bP 0) (bS 0) (bW 0) (bN 0) (bO 0) mZ' mY mB mL mU' mJ' mK' mG mA ++ kX8 cI cB bP mP)) _ s 0 0 A = QQ
  generalize ([.ref (bV 0), .int p1] : List Value).toArray = args at C hQ ⊢
  have hl : lv_has ls 5 [(0, .ref (bV 0)), (1, .int p1)] := hl
  unfold fX10_moved at hf
  refine lv_aload_n C.1.1 C.1.2.1 dX10_moved_0 rfl (lv_at hl 0 rfl) ?_
  refine lv_iconst (v := 0) C.1.1 C.1.2.1 dX10_moved_1 (by decide) ?_
  obtain ⟨mZ_1, emZ_1, hf⟩ := zLet_el hf
  refine zPut (ty := .int) (kX10 cI cB bV (bP 0) (bS 0) (bW 0) (bN 0) (bO 0) mZ_1 mY mB mL mU mJ mK mG mA ++ kX8 cI cB bP mP) C.1 wuX10 tyX10 tyX10_ok nmX10 hK hP hD hS 0 rfl rfl 0 (by decide) wfX10_86 rfl rfl (by decide +kernel) rfl rfl (Nat.le_of_ble_eq_true rfl) dX10_moved_2 (by rw [emZ_1]; rfl) (fun H locs hP hD hS => ?_)
  refine lv_aload_n C.1.1 C.1.2.1 dX10_moved_5 rfl (lv_at hl 0 rfl) ?_
  refine lv_iload_n C.1.1 C.1.2.1 dX10_moved_6 rfl (lv_at hl 1 rfl) ?_
  obtain ⟨v2, hg, hf⟩ := zB1_el hf
  refine zCVi (As := [.int p1]) (rest := []) (wr := ([] : va_W)) (wn := (kX10 cI cB bV (bP 0) (bS 0) (bW 0) (bN 0) (bO 0) mZ_1 mY mB mL mU mJ mK mG mA ++ kX8 cI cB bP mP)) C.1 hK hA hP hD hS [0, 1, 2, 3, 4, 5, 6, 7, 8, 9, 10, 11, 12, 13, 14, 15, 16, 17, 18, 19, 20, 21, 22, 23, 24] [] [0, 1, 2, 3, 4, 5, 6, 7, 8, 9, 10, 11, 12, 13, 14, 15, 16, 17, 18, 19, 20, 21, 22, 23, 24] 0 (mtX10_asked l dC dI cI cB bV bP bS bW bN bO H.size mZ_1 mY mB mL mU mJ mK mG mA mP p1 hg) (zCwV 1 C.1 wlX10_293 wiX10_asked ws_X10_asked wnX10 wkX10_asked rfl rfl (by decide +kernel) ⟨Nat.le_of_ble_eq_true rfl, Nat.le_of_ble_eq_true rfl⟩) rfl rfl (by decide +kernel) rfl rfl rfl rfl hl.1 (Nat.le_of_ble_eq_true rfl) dX10_moved_7 ⟨Nat.zero_le _, Nat.zero_le _⟩ rfl (fun H locs hP hD hS => ?_)
  refine lv_if_le (tgt := 23) C.1.1 C.1.2.1 dX10_moved_10 (by decide) (fun hc => ?_) (fun hc => ?_)
  · replace hf := zIf_t hf hc
    refine lv_aload_n C.1.1 C.1.2.1 dX10_moved_23 rfl (lv_at hl 0 rfl) ?_
    obtain ⟨mU_3, mJ_4, hg, hf⟩ := zB2_el hf
    refine zCVv (As := []) (rest := []) (wr := ([] : va_W)) (wn := (kX10 cI cB bV (bP 0) (bS 0) (bW 0) (bN 0) (bO 0) mZ_1 mY mB mL mU_3 mJ_4 mK mG mA ++ kX8 cI cB bP mP)) C.1 hK hA hP hD hS [0, 1, 2, 3, 4, 5, 6, 7, 8, 9, 10, 11, 12, 13, 14, 15, 16, 17, 18, 19, 20, 21, 22, 23, 24] [] [0, 1, 2, 3, 4, 5, 6, 7, 8, 9, 10, 11, 12, 13, 14, 15, 16, 17, 18, 19, 20, 21, 22, 23, 24] 0 (mtX10_needs l dC dI cI cB bV bP bS bW bN bO H.size NN mZ_1 mY mB mL mU mJ mK mG mA mP hg) (zCwV 0 C.1 wlX10_296 wiX10_needs ws_X10_needs wnX10 wkX10_needs rfl rfl (by decide +kernel) ⟨Nat.le_of_ble_eq_true rfl, Nat.le_of_ble_eq_true rfl⟩) rfl rfl (by decide +kernel) rfl rfl rfl rfl hl.1 (Nat.le_of_ble_eq_true rfl) dX10_moved_24 ⟨Nat.zero_le _, Nat.zero_le _⟩ rfl (fun H locs hP hD hS => ?_)
    refine lv_aload_n C.1.1 C.1.2.1 dX10_moved_27 rfl (lv_at hl 0 rfl) ?_
    refine lv_iload_n C.1.1 C.1.2.1 dX10_moved_28 rfl (lv_at hl 1 rfl) ?_
    obtain ⟨v5, mK_6, hg, hf⟩ := zB2_el hf
    refine zCVi (As := [.int p1]) (rest := []) (wr := ([] : va_W)) (wn := (kX10 cI cB bV (bP 0) (bS 0) (bW 0) (bN 0) (bO 0) mZ_1 mY mB mL mU_3 mJ_4 mK_6 mG mA ++ kX8 cI cB bP mP)) C.1 hK hA hP hD hS [0, 1, 2, 3, 4, 5, 6, 7, 8, 9, 10, 11, 12, 13, 14, 15, 16, 17, 18, 19, 20, 21, 22, 23, 24] [] [0, 1, 2, 3, 4, 5, 6, 7, 8, 9, 10, 11, 12, 13, 14, 15, 16, 17, 18, 19, 20, 21, 22, 23, 24] 0 (mtX10_ticksOf l dC dI cI cB bV bP bS bW bN bO H.size NN mZ_1 mY mB mL mU_3 mJ_4 mK mG mA mP p1 hg) (zCwV 1 C.1 wlX10_299 wiX10_ticksOf ws_X10_ticksOf wnX10 wkX10_ticksOf rfl rfl (by decide +kernel) ⟨Nat.le_of_ble_eq_true rfl, Nat.le_of_ble_eq_true rfl⟩) rfl rfl (by decide +kernel) rfl rfl rfl rfl hl.1 (Nat.le_of_ble_eq_true rfl) dX10_moved_29 ⟨Nat.zero_le _, Nat.zero_le _⟩ rfl (fun H locs hP hD hS => ?_)
    refine lv_istore_n (lv' := [(2, .int v5), (0, .ref (bV 0)), (1, .int p1)]) C.1.1 C.1.2.1 dX10_moved_32 rfl hl (by decide) rfl (fun ls hl => ?_)
    refine lv_iconst (v := 0) C.1.1 C.1.2.1 dX10_moved_33 (by decide) ?_
    refine lv_istore_n (lv' := [(3, .int (0 : Int32)), (2, .int v5), (0, .ref (bV 0)), (1, .int p1)]) C.1.1 C.1.2.1 dX10_moved_34 rfl hl (by decide) rfl (fun ls hl => ?_)
    refine lv_iconst (v := 0) C.1.1 C.1.2.1 dX10_moved_35 (by decide) ?_
    refine lv_istore (lv' := [(4, .int (0 : Int32)), (3, .int (0 : Int32)), (2, .int v5), (0, .ref (bV 0)), (1, .int p1)]) C.1.1 C.1.2.1 dX10_moved_36 hl (by decide) rfl (fun ls hl => ?_)
    obtain ⟨J69_8, eJ69_8, hf⟩ := zJn_el hf
    have hJ69_8 : ∀ (x7 : Int32), J69_8 x7 = some (ov, mZ', mU', mJ', mK') → ∀ (H : Heap) (locs : List Loc), va_P (dC, dI) vwCl (kX10 cI cB bV (bP 0) (bS 0) (bW 0) (bN 0) (bO 0) mZ_1 mY mB mL mU_3 mJ_4 mK_6 mG mA ++ kX8 cI cB bP mP) H → va_D A (kX10 cI cB bV (bP 0) (bS 0) (bW 0) (bN 0) (bO 0) mZ_1 mY mB mL mU_3 mJ_4 mK_6 mG mA ++ kX8 cI cB bP mP) → va_S A s.heap H locs → ∀ (ls : Array Slot), lv_has ls 5 [(0, .ref (bV 0)), (3, .int x7)] → W p l e rX10_moved s m args below meth c H locs 0 0 QQ (F0 m 69 ls []) := by
      intro x7 hf H locs hP hD hS ls hl
      rw [eJ69_8] at hf
      refine lv_aload_n C.1.1 C.1.2.1 dX10_moved_69 rfl (lv_at hl 0 rfl) ?_
      refine lv_iload_n C.1.1 C.1.2.1 dX10_moved_70 rfl (lv_at hl 1 rfl) ?_
      obtain ⟨v9, mZ_10, hg, hf⟩ := zB2_el hf
      refine zCVi (As := [.int x7]) (rest := []) (wr := (kX8 cI cB bP mP)) (wn := (kX10 cI cB bV (bP 0) (bS 0) (bW 0) (bN 0) (bO 0) mZ_10 mY mB mL mU_3 mJ_4 mK_6 mG mA ++ kX8 cI cB bP mP)) C.1 hK hA hP hD hS [0, 1, 2, 3, 4, 5, 6, 7, 8, 9, 10, 11, 12, 13] [14, 15, 16, 17, 18, 19, 20, 21, 22, 23, 24] [11, 12, 13, 14, 15, 16, 17, 18, 19, 20, 21, 22, 23, 24, 0, 1, 2, 3, 4, 5, 6, 7, 8, 9, 10] 0 (mtX10_done l dC dI cI cB bV bP bS bW bN bO H.size mZ_1 mY mB mL mU_3 mJ_4 mK_6 mG mA x7 hg) (zCwV 1 C.1 wlX10_233 wiX10_done ws_X10_done wnX10 wkX10_done rfl rfl (by decide +kernel) ⟨Nat.le_of_ble_eq_true rfl, Nat.le_of_ble_eq_true rfl⟩) rfl rfl (by decide +kernel) rfl rfl rfl rfl hl.1 (Nat.le_of_ble_eq_true rfl) dX10_moved_71 ⟨Nat.zero_le _, Nat.zero_le _⟩ rfl (fun H locs hP hD hS => ?_)
      cases hf
      rw [← hQ]
      exact zRi C hK hP hD hS dX10_moved_74
    refine zLp2_ind (o := (ov, mZ', mU', mJ', mK')) (P := fun (x11 : Int32) (x12 : Int32) => ∀ (H : Heap) (locs : List Loc), va_P (dC, dI) vwCl (kX10 cI cB bV (bP 0) (bS 0) (bW 0) (bN 0) (bO 0) mZ_1 mY mB mL mU_3 mJ_4 mK_6 mG mA ++ kX8 cI cB bP mP) H → va_D A (kX10 cI cB bV (bP 0) (bS 0) (bW 0) (bN 0) (bO 0) mZ_1 mY mB mL mU_3 mJ_4 mK_6 mG mA ++ kX8 cI cB bP mP) → va_S A s.heap H locs → ∀ (ls : Array Slot), lv_has ls 5 [(0, .ref (bV 0)), (3, .int x11), (4, .int x12)] → W p l e rX10_moved s m args below meth c H locs 0 0 QQ (F0 m 38 ls [])) (fun go13 ihgo13 x11 x12 hf H locs hP hD hS ls hl => ?_) _ (0 : Int32) (0 : Int32) hf H locs hP hD hS ls (lv_sub hl [3, 1, 0] rfl)
    refine lv_iload C.1.1 C.1.2.1 dX10_moved_38 (lv_at hl 2 rfl) ?_
    refine lv_aload_n C.1.1 C.1.2.1 dX10_moved_40 rfl (lv_at hl 0 rfl) ?_
    refine zGet (.ref (bP 0)) C.1 wuX10 hK hP 0 rfl rfl 7 (by decide) wfX10_25 rfl rfl dX10_moved_41 ?_
    refine zGetN (.int (mP 0 0)) C.1 wuX8 hK hP 14 rfl rfl 0 (by decide) nfX10_146 rfl rfl dX10_moved_44 ?_
    refine lv_icmp_gt (tgt := 69) C.1.1 C.1.2.1 dX10_moved_47 (by decide) (fun hc => ?_) (fun hc => ?_)
    · replace hf := zIf_t hf hc
      exact hJ69_8 x11 hf H locs hP hD hS ls (lv_sub hl [0, 1] rfl)
    · replace hf := zIf_f hf hc
      refine lv_iload_n C.1.1 C.1.2.1 dX10_moved_50 rfl (lv_at hl 1 rfl) ?_
      refine lv_aload_n C.1.1 C.1.2.1 dX10_moved_51 rfl (lv_at hl 0 rfl) ?_
      refine zGet (.ref (bV 9)) C.1 wuX10 hK hP 0 rfl rfl 30 (by decide) wfX10_71 rfl rfl dX10_moved_52 ?_
      refine lv_iload C.1.1 C.1.2.1 dX10_moved_55 (lv_at hl 2 rfl) ?_
      obtain ⟨hib, hf⟩ := zGd_el hf
      refine va_iald C.1.1 C.1.2.1 hK.1 hP 9 0 rfl rfl hib dX10_moved_57 ?_
      obtain ⟨v14, hg, hf⟩ := zB1_el hf
      refine zCSi (As := [.int (mK_6 30 x12.toNatClampNeg)]) (rest := [.int x11]) (wr := (kX10 cI cB bV (bP 0) (bS 0) (bW 0) (bN 0) (bO 0) mZ_1 mY mB mL mU_3 mJ_4 mK_6 mG mA ++ kX8 cI cB bP mP)) (wn := (kX10 cI cB bV (bP 0) (bS 0) (bW 0) (bN 0) (bO 0) mZ_1 mY mB mL mU_3 mJ_4 mK_6 mG mA ++ kX8 cI cB bP mP)) C.1 hK hA hP hD hS [] [0, 1, 2, 3, 4, 5, 6, 7, 8, 9, 10, 11, 12, 13, 14, 15, 16, 17, 18, 19, 20, 21, 22, 23, 24] [0, 1, 2, 3, 4, 5, 6, 7, 8, 9, 10, 11, 12, 13, 14, 15, 16, 17, 18, 19, 20, 21, 22, 23, 24] (mtX10_bits l dC dI cI cB H.size NN (mK_6 30 x12.toNatClampNeg) hg) (zCwS 1 C.1 wlX10_290 wtX10_bits wnX10 wkX10_bits rfl rfl (by decide +kernel) ⟨Nat.le_of_ble_eq_true rfl, Nat.le_of_ble_eq_true rfl⟩) rfl rfl (by decide +kernel) rfl rfl hl.1 (Nat.le_of_ble_eq_true rfl) dX10_moved_58 ⟨Nat.zero_le _, Nat.zero_le _⟩ rfl (fun H locs hP hD hS => ?_)
      refine lv_iadd C.1.1 C.1.2.1 dX10_moved_61 ?_
      refine lv_topi (fun x15 ex15 => ?_)
      replace hf := zLet_at hf ex15
      refine lv_istore_n (lv' := [(3, .int x15), (0, .ref (bV 0)), (4, .int x12)]) C.1.1 C.1.2.1 dX10_moved_62 rfl hl (by decide) rfl (fun ls hl => ?_)
      obtain ⟨x16, ex16, hf⟩ := zLet_el hf
      refine lv_iinc (v := x16) (lv' := [(4, .int x16), (3, .int x15), (0, .ref (bV 0))]) C.1.1 C.1.2.1 dX10_moved_63 hl (k := 2) rfl (by rw [ex16]; rfl) (by decide) rfl (fun ls hl => ?_)
      refine lv_goto (tgt := 38) C.1.1 C.1.2.1 dX10_moved_66 (by decide) ?_
      exact ihgo13 x15 x16 hf H locs hP hD hS ls (lv_sub hl [2, 1, 0] rfl)
  · replace hf := zIf_f hf hc
    refine lv_aload_n C.1.1 C.1.2.1 dX10_moved_13 rfl (lv_at hl 0 rfl) ?_
    refine lv_aload_n C.1.1 C.1.2.1 dX10_moved_14 rfl (lv_at hl 0 rfl) ?_
    refine lv_iload_n C.1.1 C.1.2.1 dX10_moved_15 rfl (lv_at hl 1 rfl) ?_
    obtain ⟨v17, hg, hf⟩ := zB1_el hf
    refine zCVi (As := [.int p1]) (rest := [.ref (bV 0)]) (wr := ([] : va_W)) (wn := (kX10 cI cB bV (bP 0) (bS 0) (bW 0) (bN 0) (bO 0) mZ_1 mY mB mL mU mJ mK mG mA ++ kX8 cI cB bP mP)) C.1 hK hA hP hD hS [0, 1, 2, 3, 4, 5, 6, 7, 8, 9, 10, 11, 12, 13, 14, 15, 16, 17, 18, 19, 20, 21, 22, 23, 24] [] [0, 1, 2, 3, 4, 5, 6, 7, 8, 9, 10, 11, 12, 13, 14, 15, 16, 17, 18, 19, 20, 21, 22, 23, 24] 0 (mtX10_asked l dC dI cI cB bV bP bS bW bN bO H.size mZ_1 mY mB mL mU mJ mK mG mA mP p1 hg) (zCwV 1 C.1 wlX10_293 wiX10_asked ws_X10_asked wnX10 wkX10_asked rfl rfl (by decide +kernel) ⟨Nat.le_of_ble_eq_true rfl, Nat.le_of_ble_eq_true rfl⟩) rfl rfl (by decide +kernel) rfl rfl rfl rfl hl.1 (Nat.le_of_ble_eq_true rfl) dX10_moved_16 ⟨Nat.zero_le _, Nat.zero_le _⟩ rfl (fun H locs hP hD hS => ?_)
    obtain ⟨v18, mZ_19, hg, hf⟩ := zB2_el hf
    refine zCVi (As := [.int v17]) (rest := []) (wr := (kX8 cI cB bP mP)) (wn := (kX10 cI cB bV (bP 0) (bS 0) (bW 0) (bN 0) (bO 0) mZ_19 mY mB mL mU mJ mK mG mA ++ kX8 cI cB bP mP)) C.1 hK hA hP hD hS [0, 1, 2, 3, 4, 5, 6, 7, 8, 9, 10, 11, 12, 13] [14, 15, 16, 17, 18, 19, 20, 21, 22, 23, 24] [11, 12, 13, 14, 15, 16, 17, 18, 19, 20, 21, 22, 23, 24, 0, 1, 2, 3, 4, 5, 6, 7, 8, 9, 10] 0 (mtX10_refused l dC dI cI cB bV bP bS bW bN bO H.size mZ_1 mY mB mL mU mJ mK mG mA v17 hg) (zCwV 1 C.1 wlX10_221 wiX10_refused ws_X10_refused wnX10 wkX10_refused rfl rfl (by decide +kernel) ⟨Nat.le_of_ble_eq_true rfl, Nat.le_of_ble_eq_true rfl⟩) rfl rfl (by decide +kernel) rfl rfl rfl rfl hl.1 (Nat.le_of_ble_eq_true rfl) dX10_moved_19 ⟨Nat.zero_le _, Nat.zero_le _⟩ rfl (fun H locs hP hD hS => ?_)
    cases hf
    rw [← hQ]
    exact zRi C hK hP hD hS dX10_moved_22
def fX10_room_L38 (mP : Rc) (NN : Nat) (mK_6 : Rc) (J71_8 : Int32 → Option (Int32 × Rc × Rc × Rc × Rc)) (n : Nat) (x11 : Int32) (x12 : Int32) : Option (Int32 × Rc × Rc × Rc × Rc) := zLp2 (fun (go13 : Int32 → Int32 → Option (Int32 × Rc × Rc × Rc × Rc)) (x11 : Int32) (x12 : Int32) =>
    if (mP 0 0) < x12 then (
      J71_8 x11
    ) else (
      zGd (inb x12 13) <|
      zB1 (fX10_bits NN (mK_6 30 x12.toNatClampNeg)) fun v14 =>
      zLet (if x11 < v14 then v14 else x11) fun x15 =>
      zLet (x12 + 1) fun x16 =>
      go13 x15 x16
    )
  ) n x11 x12
def fX10_room (NN : Nat) (mZ : Rc) (mY : Rc) (mU : Rc) (mJ : Rc) (mK : Rc) (mP : Rc) (p1 : Int32) : Option (Int32 × Rc × Rc × Rc × Rc) :=
  zLet (rs mZ 0 (fun _ => (0 : Int32))) fun mZ_1 =>
  zB1 (fX10_asked mY mP p1) fun v2 =>
  if v2 ≤ 0 then (
    zB2 (fX10_needs NN mY mU mJ mP) fun mU_3 mJ_4 =>
    zB2 (fX10_ticksOf NN mY mJ_4 mK mP p1) fun v5 mK_6 =>
    zJn (fun (x7 : Int32) =>
        zB2 (fX10_done mZ_1 x7) fun v9 mZ_10 =>
        some (v9, mZ_10, mU_3, mJ_4, mK_6)
      ) fun J71_8 =>
    fX10_room_L38 mP NN mK_6 J71_8 NN (0 : Int32) (0 : Int32)
  ) else (
    zB1 (fX10_asked mY mP p1) fun v17 =>
    zB2 (fX10_refused mZ_1 v17) fun v18 mZ_19 =>
    some (v18, mZ_19, mU, mJ, mK)
  )
abbrev rX10_room : Room := { frames := 5, cells := 0, slots := 0, locals := 121 }
set_option maxHeartbeats 4000000 in
set_option maxRecDepth 100000 in
theorem mtX10_room (l : Launch) (dC : Nat → ClassId) (dI : Nat → Nat → Nat) (cI cB : ClassId) (bV bP bS bW bN bO : Nat → Nat) (sz : Nat) (NN : Nat) (mZ : Rc) (mY : Rc) (mB : Rc) (mL : Rc) (mU : Rc) (mJ : Rc) (mK : Rc) (mG : Rc) (mA : Rc) (mP : Rc) (p1 : Int32) {ov : Int32} {mZ' : Rc} {mU' : Rc} {mJ' : Rc} {mK' : Rc} (hf : fX10_room NN mZ mY mU mJ mK mP p1 = some (ov, mZ', mU', mJ', mK')) : zMi l yX10_room (Cond.code yX10_room cX10_room 5 (some .int) :: lw_g) rX10_room (dC, dI) [(cI, .int), (cB, .byte)] [.ref (bV 0), .int p1] sz (kX10 cI cB bV (bP 0) (bS 0) (bW 0) (bN 0) (bO 0) mZ mY mB mL mU mJ mK mG mA ++ kX8 cI cB bP mP) ov (kX10 cI cB bV (bP 0) (bS 0) (bW 0) (bN 0) (bO 0) mZ' mY mB mL mU' mJ' mK' mG mA ++ kX8 cI cB bP mP) := by
  refine zSt (cc := cX10_room) (maxL := 5) (ret := (some .int)) (own := RX10) (fun A => zQi (dC, dI) [(cI, .int), (cB, .byte)] A ov (kX10 cI cB bV (bP 0) (bS 0) (bW 0) (bN 0) (bO 0) mZ' mY mB mL mU' mJ' mK' mG mA ++ kX8 cI cB bP mP)) (by decide) rfl rfl (Nat.le_of_ble_eq_true rfl) ?_
  intro p e s m below meth c ls A H locs C hK hA hP hD hS hl
  generalize hQ : MQ below (zQi (dC, dI) [(cI, .int), (cB, .byte)] A ov (kX10 cI cB bV (bP 0) (bS 0) (bW 0) (bN 0) (bO 0) mZ' mY mB mL mU' mJ' mK' mG mA ++ kX8 cI cB bP mP)) _ s 0 0 A = QQ
  generalize ([.ref (bV 0), .int p1] : List Value).toArray = args at C hQ ⊢
  have hl : lv_has ls 5 [(0, .ref (bV 0)), (1, .int p1)] := hl
  unfold fX10_room at hf
  refine lv_aload_n C.1.1 C.1.2.1 dX10_room_0 rfl (lv_at hl 0 rfl) ?_
  refine lv_iconst (v := 0) C.1.1 C.1.2.1 dX10_room_1 (by decide) ?_
  obtain ⟨mZ_1, emZ_1, hf⟩ := zLet_el hf
  refine zPut (ty := .int) (kX10 cI cB bV (bP 0) (bS 0) (bW 0) (bN 0) (bO 0) mZ_1 mY mB mL mU mJ mK mG mA ++ kX8 cI cB bP mP) C.1 wuX10 tyX10 tyX10_ok nmX10 hK hP hD hS 0 rfl rfl 0 (by decide) wfX10_86 rfl rfl (by decide +kernel) rfl rfl (Nat.le_of_ble_eq_true rfl) dX10_room_2 (by rw [emZ_1]; rfl) (fun H locs hP hD hS => ?_)
  refine lv_aload_n C.1.1 C.1.2.1 dX10_room_5 rfl (lv_at hl 0 rfl) ?_
  refine lv_iload_n C.1.1 C.1.2.1 dX10_room_6 rfl (lv_at hl 1 rfl) ?_
  obtain ⟨v2, hg, hf⟩ := zB1_el hf
  refine zCVi (As := [.int p1]) (rest := []) (wr := ([] : va_W)) (wn := (kX10 cI cB bV (bP 0) (bS 0) (bW 0) (bN 0) (bO 0) mZ_1 mY mB mL mU mJ mK mG mA ++ kX8 cI cB bP mP)) C.1 hK hA hP hD hS [0, 1, 2, 3, 4, 5, 6, 7, 8, 9, 10, 11, 12, 13, 14, 15, 16, 17, 18, 19, 20, 21, 22, 23, 24] [] [0, 1, 2, 3, 4, 5, 6, 7, 8, 9, 10, 11, 12, 13, 14, 15, 16, 17, 18, 19, 20, 21, 22, 23, 24] 0 (mtX10_asked l dC dI cI cB bV bP bS bW bN bO H.size mZ_1 mY mB mL mU mJ mK mG mA mP p1 hg) (zCwV 1 C.1 wlX10_293 wiX10_asked ws_X10_asked wnX10 wkX10_asked rfl rfl (by decide +kernel) ⟨Nat.le_of_ble_eq_true rfl, Nat.le_of_ble_eq_true rfl⟩) rfl rfl (by decide +kernel) rfl rfl rfl rfl hl.1 (Nat.le_of_ble_eq_true rfl) dX10_room_7 ⟨Nat.zero_le _, Nat.zero_le _⟩ rfl (fun H locs hP hD hS => ?_)
  refine lv_if_le (tgt := 23) C.1.1 C.1.2.1 dX10_room_10 (by decide) (fun hc => ?_) (fun hc => ?_)
  · replace hf := zIf_t hf hc
    refine lv_aload_n C.1.1 C.1.2.1 dX10_room_23 rfl (lv_at hl 0 rfl) ?_
    obtain ⟨mU_3, mJ_4, hg, hf⟩ := zB2_el hf
    refine zCVv (As := []) (rest := []) (wr := ([] : va_W)) (wn := (kX10 cI cB bV (bP 0) (bS 0) (bW 0) (bN 0) (bO 0) mZ_1 mY mB mL mU_3 mJ_4 mK mG mA ++ kX8 cI cB bP mP)) C.1 hK hA hP hD hS [0, 1, 2, 3, 4, 5, 6, 7, 8, 9, 10, 11, 12, 13, 14, 15, 16, 17, 18, 19, 20, 21, 22, 23, 24] [] [0, 1, 2, 3, 4, 5, 6, 7, 8, 9, 10, 11, 12, 13, 14, 15, 16, 17, 18, 19, 20, 21, 22, 23, 24] 0 (mtX10_needs l dC dI cI cB bV bP bS bW bN bO H.size NN mZ_1 mY mB mL mU mJ mK mG mA mP hg) (zCwV 0 C.1 wlX10_296 wiX10_needs ws_X10_needs wnX10 wkX10_needs rfl rfl (by decide +kernel) ⟨Nat.le_of_ble_eq_true rfl, Nat.le_of_ble_eq_true rfl⟩) rfl rfl (by decide +kernel) rfl rfl rfl rfl hl.1 (Nat.le_of_ble_eq_true rfl) dX10_room_24 ⟨Nat.zero_le _, Nat.zero_le _⟩ rfl (fun H locs hP hD hS => ?_)
    refine lv_aload_n C.1.1 C.1.2.1 dX10_room_27 rfl (lv_at hl 0 rfl) ?_
    refine lv_iload_n C.1.1 C.1.2.1 dX10_room_28 rfl (lv_at hl 1 rfl) ?_
    obtain ⟨v5, mK_6, hg, hf⟩ := zB2_el hf
    refine zCVi (As := [.int p1]) (rest := []) (wr := ([] : va_W)) (wn := (kX10 cI cB bV (bP 0) (bS 0) (bW 0) (bN 0) (bO 0) mZ_1 mY mB mL mU_3 mJ_4 mK_6 mG mA ++ kX8 cI cB bP mP)) C.1 hK hA hP hD hS [0, 1, 2, 3, 4, 5, 6, 7, 8, 9, 10, 11, 12, 13, 14, 15, 16, 17, 18, 19, 20, 21, 22, 23, 24] [] [0, 1, 2, 3, 4, 5, 6, 7, 8, 9, 10, 11, 12, 13, 14, 15, 16, 17, 18, 19, 20, 21, 22, 23, 24] 0 (mtX10_ticksOf l dC dI cI cB bV bP bS bW bN bO H.size NN mZ_1 mY mB mL mU_3 mJ_4 mK mG mA mP p1 hg) (zCwV 1 C.1 wlX10_299 wiX10_ticksOf ws_X10_ticksOf wnX10 wkX10_ticksOf rfl rfl (by decide +kernel) ⟨Nat.le_of_ble_eq_true rfl, Nat.le_of_ble_eq_true rfl⟩) rfl rfl (by decide +kernel) rfl rfl rfl rfl hl.1 (Nat.le_of_ble_eq_true rfl) dX10_room_29 ⟨Nat.zero_le _, Nat.zero_le _⟩ rfl (fun H locs hP hD hS => ?_)
    refine lv_istore_n (lv' := [(2, .int v5), (0, .ref (bV 0)), (1, .int p1)]) C.1.1 C.1.2.1 dX10_room_32 rfl hl (by decide) rfl (fun ls hl => ?_)
    refine lv_iconst (v := 0) C.1.1 C.1.2.1 dX10_room_33 (by decide) ?_
    refine lv_istore_n (lv' := [(3, .int (0 : Int32)), (2, .int v5), (0, .ref (bV 0)), (1, .int p1)]) C.1.1 C.1.2.1 dX10_room_34 rfl hl (by decide) rfl (fun ls hl => ?_)
    refine lv_iconst (v := 0) C.1.1 C.1.2.1 dX10_room_35 (by decide) ?_
    refine lv_istore (lv' := [(4, .int (0 : Int32)), (3, .int (0 : Int32)), (2, .int v5), (0, .ref (bV 0)), (1, .int p1)]) C.1.1 C.1.2.1 dX10_room_36 hl (by decide) rfl (fun ls hl => ?_)
    obtain ⟨J71_8, eJ71_8, hf⟩ := zJn_el hf
    have hJ71_8 : ∀ (x7 : Int32), J71_8 x7 = some (ov, mZ', mU', mJ', mK') → ∀ (H : Heap) (locs : List Loc), va_P (dC, dI) vwCl (kX10 cI cB bV (bP 0) (bS 0) (bW 0) (bN 0) (bO 0) mZ_1 mY mB mL mU_3 mJ_4 mK_6 mG mA ++ kX8 cI cB bP mP) H → va_D A (kX10 cI cB bV (bP 0) (bS 0) (bW 0) (bN 0) (bO 0) mZ_1 mY mB mL mU_3 mJ_4 mK_6 mG mA ++ kX8 cI cB bP mP) → va_S A s.heap H locs → ∀ (ls : Array Slot), lv_has ls 5 [(0, .ref (bV 0)), (3, .int x7)] → W p l e rX10_room s m args below meth c H locs 0 0 QQ (F0 m 71 ls []) := by
      intro x7 hf H locs hP hD hS ls hl
      rw [eJ71_8] at hf
      refine lv_aload_n C.1.1 C.1.2.1 dX10_room_71 rfl (lv_at hl 0 rfl) ?_
      refine lv_iload_n C.1.1 C.1.2.1 dX10_room_72 rfl (lv_at hl 1 rfl) ?_
      obtain ⟨v9, mZ_10, hg, hf⟩ := zB2_el hf
      refine zCVi (As := [.int x7]) (rest := []) (wr := (kX8 cI cB bP mP)) (wn := (kX10 cI cB bV (bP 0) (bS 0) (bW 0) (bN 0) (bO 0) mZ_10 mY mB mL mU_3 mJ_4 mK_6 mG mA ++ kX8 cI cB bP mP)) C.1 hK hA hP hD hS [0, 1, 2, 3, 4, 5, 6, 7, 8, 9, 10, 11, 12, 13] [14, 15, 16, 17, 18, 19, 20, 21, 22, 23, 24] [11, 12, 13, 14, 15, 16, 17, 18, 19, 20, 21, 22, 23, 24, 0, 1, 2, 3, 4, 5, 6, 7, 8, 9, 10] 0 (mtX10_done l dC dI cI cB bV bP bS bW bN bO H.size mZ_1 mY mB mL mU_3 mJ_4 mK_6 mG mA x7 hg) (zCwV 1 C.1 wlX10_233 wiX10_done ws_X10_done wnX10 wkX10_done rfl rfl (by decide +kernel) ⟨Nat.le_of_ble_eq_true rfl, Nat.le_of_ble_eq_true rfl⟩) rfl rfl (by decide +kernel) rfl rfl rfl rfl hl.1 (Nat.le_of_ble_eq_true rfl) dX10_room_73 ⟨Nat.zero_le _, Nat.zero_le _⟩ rfl (fun H locs hP hD hS => ?_)
      cases hf
      rw [← hQ]
      exact zRi C hK hP hD hS dX10_room_76
    refine zLp2_ind (o := (ov, mZ', mU', mJ', mK')) (P := fun (x11 : Int32) (x12 : Int32) => ∀ (H : Heap) (locs : List Loc), va_P (dC, dI) vwCl (kX10 cI cB bV (bP 0) (bS 0) (bW 0) (bN 0) (bO 0) mZ_1 mY mB mL mU_3 mJ_4 mK_6 mG mA ++ kX8 cI cB bP mP) H → va_D A (kX10 cI cB bV (bP 0) (bS 0) (bW 0) (bN 0) (bO 0) mZ_1 mY mB mL mU_3 mJ_4 mK_6 mG mA ++ kX8 cI cB bP mP) → va_S A s.heap H locs → ∀ (ls : Array Slot), lv_has ls 5 [(0, .ref (bV 0)), (3, .int x11), (4, .int x12)] → W p l e rX10_room s m args below meth c H locs 0 0 QQ (F0 m 38 ls [])) (fun go13 ihgo13 x11 x12 hf H locs hP hD hS ls hl => ?_) _ (0 : Int32) (0 : Int32) hf H locs hP hD hS ls (lv_sub hl [3, 1, 0] rfl)
    refine lv_iload C.1.1 C.1.2.1 dX10_room_38 (lv_at hl 2 rfl) ?_
    refine lv_aload_n C.1.1 C.1.2.1 dX10_room_40 rfl (lv_at hl 0 rfl) ?_
    refine zGet (.ref (bP 0)) C.1 wuX10 hK hP 0 rfl rfl 7 (by decide) wfX10_25 rfl rfl dX10_room_41 ?_
    refine zGetN (.int (mP 0 0)) C.1 wuX8 hK hP 14 rfl rfl 0 (by decide) nfX10_146 rfl rfl dX10_room_44 ?_
    refine lv_icmp_gt (tgt := 71) C.1.1 C.1.2.1 dX10_room_47 (by decide) (fun hc => ?_) (fun hc => ?_)
    · replace hf := zIf_t hf hc
      exact hJ71_8 x11 hf H locs hP hD hS ls (lv_sub hl [0, 1] rfl)
    · replace hf := zIf_f hf hc
      refine lv_iload_n C.1.1 C.1.2.1 dX10_room_50 rfl (lv_at hl 1 rfl) ?_
      refine lv_aload_n C.1.1 C.1.2.1 dX10_room_51 rfl (lv_at hl 0 rfl) ?_
      refine zGet (.ref (bV 9)) C.1 wuX10 hK hP 0 rfl rfl 30 (by decide) wfX10_71 rfl rfl dX10_room_52 ?_
      refine lv_iload C.1.1 C.1.2.1 dX10_room_55 (lv_at hl 2 rfl) ?_
      obtain ⟨hib, hf⟩ := zGd_el hf
      refine va_iald C.1.1 C.1.2.1 hK.1 hP 9 0 rfl rfl hib dX10_room_57 ?_
      obtain ⟨v14, hg, hf⟩ := zB1_el hf
      refine zCSi (As := [.int (mK_6 30 x12.toNatClampNeg)]) (rest := [.int x11]) (wr := (kX10 cI cB bV (bP 0) (bS 0) (bW 0) (bN 0) (bO 0) mZ_1 mY mB mL mU_3 mJ_4 mK_6 mG mA ++ kX8 cI cB bP mP)) (wn := (kX10 cI cB bV (bP 0) (bS 0) (bW 0) (bN 0) (bO 0) mZ_1 mY mB mL mU_3 mJ_4 mK_6 mG mA ++ kX8 cI cB bP mP)) C.1 hK hA hP hD hS [] [0, 1, 2, 3, 4, 5, 6, 7, 8, 9, 10, 11, 12, 13, 14, 15, 16, 17, 18, 19, 20, 21, 22, 23, 24] [0, 1, 2, 3, 4, 5, 6, 7, 8, 9, 10, 11, 12, 13, 14, 15, 16, 17, 18, 19, 20, 21, 22, 23, 24] (mtX10_bits l dC dI cI cB H.size NN (mK_6 30 x12.toNatClampNeg) hg) (zCwS 1 C.1 wlX10_290 wtX10_bits wnX10 wkX10_bits rfl rfl (by decide +kernel) ⟨Nat.le_of_ble_eq_true rfl, Nat.le_of_ble_eq_true rfl⟩) rfl rfl (by decide +kernel) rfl rfl hl.1 (Nat.le_of_ble_eq_true rfl) dX10_room_58 ⟨Nat.zero_le _, Nat.zero_le _⟩ rfl (fun H locs hP hD hS => ?_)
      refine va_mmax C.1.1 C.1.2.1 (C.1.2.2.1.trans hl.1.symm) C.1.2.2.2.1 (C.1.2.2.2.2 _ wlX10_257) (C.1.2.2.2.2 _ wtJ9_max_7cf53) (C.1.2.2.2.2 _ wnJ9) (C.1.2.2.2.2 _ wkJ9_max_7cf53) (Nat.le_of_ble_eq_true rfl) (Nat.le_of_ble_eq_true rfl) (Nat.zero_le _) (Nat.zero_le _) dX10_room_61 ?_
      refine lv_topi (fun x15 ex15 => ?_)
      replace hf := zLet_at hf ex15
      refine lv_istore_n (lv' := [(3, .int x15), (0, .ref (bV 0)), (4, .int x12)]) C.1.1 C.1.2.1 dX10_room_64 rfl hl (by decide) rfl (fun ls hl => ?_)
      obtain ⟨x16, ex16, hf⟩ := zLet_el hf
      refine lv_iinc (v := x16) (lv' := [(4, .int x16), (3, .int x15), (0, .ref (bV 0))]) C.1.1 C.1.2.1 dX10_room_65 hl (k := 2) rfl (by rw [ex16]; rfl) (by decide) rfl (fun ls hl => ?_)
      refine lv_goto (tgt := 38) C.1.1 C.1.2.1 dX10_room_68 (by decide) ?_
      exact ihgo13 x15 x16 hf H locs hP hD hS ls (lv_sub hl [2, 1, 0] rfl)
  · replace hf := zIf_f hf hc
    refine lv_aload_n C.1.1 C.1.2.1 dX10_room_13 rfl (lv_at hl 0 rfl) ?_
    refine lv_aload_n C.1.1 C.1.2.1 dX10_room_14 rfl (lv_at hl 0 rfl) ?_
    refine lv_iload_n C.1.1 C.1.2.1 dX10_room_15 rfl (lv_at hl 1 rfl) ?_
    obtain ⟨v17, hg, hf⟩ := zB1_el hf
    refine zCVi (As := [.int p1]) (rest := [.ref (bV 0)]) (wr := ([] : va_W)) (wn := (kX10 cI cB bV (bP 0) (bS 0) (bW 0) (bN 0) (bO 0) mZ_1 mY mB mL mU mJ mK mG mA ++ kX8 cI cB bP mP)) C.1 hK hA hP hD hS [0, 1, 2, 3, 4, 5, 6, 7, 8, 9, 10, 11, 12, 13, 14, 15, 16, 17, 18, 19, 20, 21, 22, 23, 24] [] [0, 1, 2, 3, 4, 5, 6, 7, 8, 9, 10, 11, 12, 13, 14, 15, 16, 17, 18, 19, 20, 21, 22, 23, 24] 0 (mtX10_asked l dC dI cI cB bV bP bS bW bN bO H.size mZ_1 mY mB mL mU mJ mK mG mA mP p1 hg) (zCwV 1 C.1 wlX10_293 wiX10_asked ws_X10_asked wnX10 wkX10_asked rfl rfl (by decide +kernel) ⟨Nat.le_of_ble_eq_true rfl, Nat.le_of_ble_eq_true rfl⟩) rfl rfl (by decide +kernel) rfl rfl rfl rfl hl.1 (Nat.le_of_ble_eq_true rfl) dX10_room_16 ⟨Nat.zero_le _, Nat.zero_le _⟩ rfl (fun H locs hP hD hS => ?_)
    obtain ⟨v18, mZ_19, hg, hf⟩ := zB2_el hf
    refine zCVi (As := [.int v17]) (rest := []) (wr := (kX8 cI cB bP mP)) (wn := (kX10 cI cB bV (bP 0) (bS 0) (bW 0) (bN 0) (bO 0) mZ_19 mY mB mL mU mJ mK mG mA ++ kX8 cI cB bP mP)) C.1 hK hA hP hD hS [0, 1, 2, 3, 4, 5, 6, 7, 8, 9, 10, 11, 12, 13] [14, 15, 16, 17, 18, 19, 20, 21, 22, 23, 24] [11, 12, 13, 14, 15, 16, 17, 18, 19, 20, 21, 22, 23, 24, 0, 1, 2, 3, 4, 5, 6, 7, 8, 9, 10] 0 (mtX10_refused l dC dI cI cB bV bP bS bW bN bO H.size mZ_1 mY mB mL mU mJ mK mG mA v17 hg) (zCwV 1 C.1 wlX10_221 wiX10_refused ws_X10_refused wnX10 wkX10_refused rfl rfl (by decide +kernel) ⟨Nat.le_of_ble_eq_true rfl, Nat.le_of_ble_eq_true rfl⟩) rfl rfl (by decide +kernel) rfl rfl rfl rfl hl.1 (Nat.le_of_ble_eq_true rfl) dX10_room_19 ⟨Nat.zero_le _, Nat.zero_le _⟩ rfl (fun H locs hP hD hS => ?_)
    cases hf
    rw [← hQ]
    exact zRi C hK hP hD hS dX10_room_22
def fX10_moves (NN : Nat) (mZ : Rc) (mY : Rc) (mU : Rc) (mJ : Rc) (mK : Rc) (mP : Rc) (p1 : Int32) (p2 : Int32) : Option (Int32 × Rc × Rc × Rc × Rc) :=
  zLet (rs mZ 0 (fun _ => (0 : Int32))) fun mZ_1 =>
  zB1 (fX10_asked mY mP p1) fun v2 =>
  if v2 ≤ 0 then (
    zJn (fun (_ : Unit) =>
        zB2 (fX10_refused mZ_1 (1 : Int32)) fun v4 mZ_5 =>
        some (v4, mZ_5, mU, mJ, mK)
      ) fun J38_3 =>
    if p2 < 0 then (
      J38_3 ()
    ) else (
      if p2 ≤ (mP 0 0) then (
        zB2 (fX10_needs NN mY mU mJ mP) fun mU_6 mJ_7 =>
        zB2 (fX10_ticksOf NN mY mJ_7 mK mP p1) fun v8 mK_9 =>
        zGd (inb p2 13) <|
        zB2 (fX10_done mZ_1 (mK_9 30 p2.toNatClampNeg)) fun v10 mZ_11 =>
        some (v10, mZ_11, mU_6, mJ_7, mK_9)
      ) else (
        J38_3 ()
      )
    )
  ) else (
    zB1 (fX10_asked mY mP p1) fun v12 =>
    zB2 (fX10_refused mZ_1 v12) fun v13 mZ_14 =>
    some (v13, mZ_14, mU, mJ, mK)
  )
abbrev rX10_moves : Room := { frames := 5, cells := 0, slots := 0, locals := 121 }
set_option maxHeartbeats 4000000 in
set_option maxRecDepth 100000 in
theorem mtX10_moves (l : Launch) (dC : Nat → ClassId) (dI : Nat → Nat → Nat) (cI cB : ClassId) (bV bP bS bW bN bO : Nat → Nat) (sz : Nat) (NN : Nat) (mZ : Rc) (mY : Rc) (mB : Rc) (mL : Rc) (mU : Rc) (mJ : Rc) (mK : Rc) (mG : Rc) (mA : Rc) (mP : Rc) (p1 : Int32) (p2 : Int32) {ov : Int32} {mZ' : Rc} {mU' : Rc} {mJ' : Rc} {mK' : Rc} (hf : fX10_moves NN mZ mY mU mJ mK mP p1 p2 = some (ov, mZ', mU', mJ', mK')) : zMi l yX10_moves (Cond.code yX10_moves cX10_moves 4 (some .int) :: lw_g) rX10_moves (dC, dI) [(cI, .int), (cB, .byte)] [.ref (bV 0), .int p1, .int p2] sz (kX10 cI cB bV (bP 0) (bS 0) (bW 0) (bN 0) (bO 0) mZ mY mB mL mU mJ mK mG mA ++ kX8 cI cB bP mP) ov (kX10 cI cB bV (bP 0) (bS 0) (bW 0) (bN 0) (bO 0) mZ' mY mB mL mU' mJ' mK' mG mA ++ kX8 cI cB bP mP) := by
  refine zSt (cc := cX10_moves) (maxL := 4) (ret := (some .int)) (own := RX10) (fun A => zQi (dC, dI) [(cI, .int), (cB, .byte)] A ov (kX10 cI cB bV (bP 0) (bS 0) (bW 0) (bN 0) (bO 0) mZ' mY mB mL mU' mJ' mK' mG mA ++ kX8 cI cB bP mP)) (by decide) rfl rfl (Nat.le_of_ble_eq_true rfl) ?_
  intro p e s m below meth c ls A H locs C hK hA hP hD hS hl
  generalize hQ : MQ below (zQi (dC, dI) [(cI, .int), (cB, .byte)] A ov (kX10 cI cB bV (bP 0) (bS 0) (bW 0) (bN 0) (bO 0) mZ' mY mB mL mU' mJ' mK' mG mA ++ kX8 cI cB bP mP)) _ s 0 0 A = QQ
  generalize ([.ref (bV 0), .int p1, .int p2] : List Value).toArray = args at C hQ ⊢
  have hl : lv_has ls 4 [(0, .ref (bV 0)), (1, .int p1), (2, .int p2)] := hl
  unfold fX10_moves at hf
  refine lv_aload_n C.1.1 C.1.2.1 dX10_moves_0 rfl (lv_at hl 0 rfl) ?_
  refine lv_iconst (v := 0) C.1.1 C.1.2.1 dX10_moves_1 (by decide) ?_
  obtain ⟨mZ_1, emZ_1, hf⟩ := zLet_el hf
  refine zPut (ty := .int) (kX10 cI cB bV (bP 0) (bS 0) (bW 0) (bN 0) (bO 0) mZ_1 mY mB mL mU mJ mK mG mA ++ kX8 cI cB bP mP) C.1 wuX10 tyX10 tyX10_ok nmX10 hK hP hD hS 0 rfl rfl 0 (by decide) wfX10_86 rfl rfl (by decide +kernel) rfl rfl (Nat.le_of_ble_eq_true rfl) dX10_moves_2 (by rw [emZ_1]; rfl) (fun H locs hP hD hS => ?_)
  refine lv_aload_n C.1.1 C.1.2.1 dX10_moves_5 rfl (lv_at hl 0 rfl) ?_
  refine lv_iload_n C.1.1 C.1.2.1 dX10_moves_6 rfl (lv_at hl 1 rfl) ?_
  obtain ⟨v2, hg, hf⟩ := zB1_el hf
  refine zCVi (As := [.int p1]) (rest := []) (wr := ([] : va_W)) (wn := (kX10 cI cB bV (bP 0) (bS 0) (bW 0) (bN 0) (bO 0) mZ_1 mY mB mL mU mJ mK mG mA ++ kX8 cI cB bP mP)) C.1 hK hA hP hD hS [0, 1, 2, 3, 4, 5, 6, 7, 8, 9, 10, 11, 12, 13, 14, 15, 16, 17, 18, 19, 20, 21, 22, 23, 24] [] [0, 1, 2, 3, 4, 5, 6, 7, 8, 9, 10, 11, 12, 13, 14, 15, 16, 17, 18, 19, 20, 21, 22, 23, 24] 0 (mtX10_asked l dC dI cI cB bV bP bS bW bN bO H.size mZ_1 mY mB mL mU mJ mK mG mA mP p1 hg) (zCwV 1 C.1 wlX10_293 wiX10_asked ws_X10_asked wnX10 wkX10_asked rfl rfl (by decide +kernel) ⟨Nat.le_of_ble_eq_true rfl, Nat.le_of_ble_eq_true rfl⟩) rfl rfl (by decide +kernel) rfl rfl rfl rfl hl.1 (Nat.le_of_ble_eq_true rfl) dX10_moves_7 ⟨Nat.zero_le _, Nat.zero_le _⟩ rfl (fun H locs hP hD hS => ?_)
  refine lv_if_le (tgt := 23) C.1.1 C.1.2.1 dX10_moves_10 (by decide) (fun hc => ?_) (fun hc => ?_)
  · replace hf := zIf_t hf hc
    refine lv_iload_n C.1.1 C.1.2.1 dX10_moves_23 rfl (lv_at hl 2 rfl) ?_
    obtain ⟨J38_3, eJ38_3, hf⟩ := zJn_el hf
    have hJ38_3 : ∀ (u : Unit), J38_3 u = some (ov, mZ', mU', mJ', mK') → ∀ (H : Heap) (locs : List Loc), va_P (dC, dI) vwCl (kX10 cI cB bV (bP 0) (bS 0) (bW 0) (bN 0) (bO 0) mZ_1 mY mB mL mU mJ mK mG mA ++ kX8 cI cB bP mP) H → va_D A (kX10 cI cB bV (bP 0) (bS 0) (bW 0) (bN 0) (bO 0) mZ_1 mY mB mL mU mJ mK mG mA ++ kX8 cI cB bP mP) → va_S A s.heap H locs → ∀ (ls : Array Slot), lv_has ls 4 [(0, .ref (bV 0))] → W p l e rX10_moves s m args below meth c H locs 0 0 QQ (F0 m 38 ls []) := by
      intro u hf H locs hP hD hS ls hl
      rw [eJ38_3] at hf
      refine lv_aload_n C.1.1 C.1.2.1 dX10_moves_38 rfl (lv_at hl 0 rfl) ?_
      refine lv_iconst (v := 1) C.1.1 C.1.2.1 dX10_moves_39 (by decide) ?_
      obtain ⟨v4, mZ_5, hg, hf⟩ := zB2_el hf
      refine zCVi (As := [.int (1 : Int32)]) (rest := []) (wr := (kX8 cI cB bP mP)) (wn := (kX10 cI cB bV (bP 0) (bS 0) (bW 0) (bN 0) (bO 0) mZ_5 mY mB mL mU mJ mK mG mA ++ kX8 cI cB bP mP)) C.1 hK hA hP hD hS [0, 1, 2, 3, 4, 5, 6, 7, 8, 9, 10, 11, 12, 13] [14, 15, 16, 17, 18, 19, 20, 21, 22, 23, 24] [11, 12, 13, 14, 15, 16, 17, 18, 19, 20, 21, 22, 23, 24, 0, 1, 2, 3, 4, 5, 6, 7, 8, 9, 10] 0 (mtX10_refused l dC dI cI cB bV bP bS bW bN bO H.size mZ_1 mY mB mL mU mJ mK mG mA (1 : Int32) hg) (zCwV 1 C.1 wlX10_221 wiX10_refused ws_X10_refused wnX10 wkX10_refused rfl rfl (by decide +kernel) ⟨Nat.le_of_ble_eq_true rfl, Nat.le_of_ble_eq_true rfl⟩) rfl rfl (by decide +kernel) rfl rfl rfl rfl hl.1 (Nat.le_of_ble_eq_true rfl) dX10_moves_40 ⟨Nat.zero_le _, Nat.zero_le _⟩ rfl (fun H locs hP hD hS => ?_)
      cases hf
      rw [← hQ]
      exact zRi C hK hP hD hS dX10_moves_43
    refine lv_if_lt (tgt := 38) C.1.1 C.1.2.1 dX10_moves_24 (by decide) (fun hc => ?_) (fun hc => ?_)
    · replace hf := zIf_t hf hc
      exact hJ38_3 () hf H locs hP hD hS ls (lv_sub hl [0] rfl)
    · replace hf := zIf_f hf hc
      refine lv_iload_n C.1.1 C.1.2.1 dX10_moves_27 rfl (lv_at hl 2 rfl) ?_
      refine lv_aload_n C.1.1 C.1.2.1 dX10_moves_28 rfl (lv_at hl 0 rfl) ?_
      refine zGet (.ref (bP 0)) C.1 wuX10 hK hP 0 rfl rfl 7 (by decide) wfX10_25 rfl rfl dX10_moves_29 ?_
      refine zGetN (.int (mP 0 0)) C.1 wuX8 hK hP 14 rfl rfl 0 (by decide) nfX10_146 rfl rfl dX10_moves_32 ?_
      refine lv_icmp_le (tgt := 44) C.1.1 C.1.2.1 dX10_moves_35 (by decide) (fun hc => ?_) (fun hc => ?_)
      · replace hf := zIf_t hf hc
        refine lv_aload_n C.1.1 C.1.2.1 dX10_moves_44 rfl (lv_at hl 0 rfl) ?_
        obtain ⟨mU_6, mJ_7, hg, hf⟩ := zB2_el hf
        refine zCVv (As := []) (rest := []) (wr := ([] : va_W)) (wn := (kX10 cI cB bV (bP 0) (bS 0) (bW 0) (bN 0) (bO 0) mZ_1 mY mB mL mU_6 mJ_7 mK mG mA ++ kX8 cI cB bP mP)) C.1 hK hA hP hD hS [0, 1, 2, 3, 4, 5, 6, 7, 8, 9, 10, 11, 12, 13, 14, 15, 16, 17, 18, 19, 20, 21, 22, 23, 24] [] [0, 1, 2, 3, 4, 5, 6, 7, 8, 9, 10, 11, 12, 13, 14, 15, 16, 17, 18, 19, 20, 21, 22, 23, 24] 0 (mtX10_needs l dC dI cI cB bV bP bS bW bN bO H.size NN mZ_1 mY mB mL mU mJ mK mG mA mP hg) (zCwV 0 C.1 wlX10_296 wiX10_needs ws_X10_needs wnX10 wkX10_needs rfl rfl (by decide +kernel) ⟨Nat.le_of_ble_eq_true rfl, Nat.le_of_ble_eq_true rfl⟩) rfl rfl (by decide +kernel) rfl rfl rfl rfl hl.1 (Nat.le_of_ble_eq_true rfl) dX10_moves_45 ⟨Nat.zero_le _, Nat.zero_le _⟩ rfl (fun H locs hP hD hS => ?_)
        refine lv_aload_n C.1.1 C.1.2.1 dX10_moves_48 rfl (lv_at hl 0 rfl) ?_
        refine lv_iload_n C.1.1 C.1.2.1 dX10_moves_49 rfl (lv_at hl 1 rfl) ?_
        obtain ⟨v8, mK_9, hg, hf⟩ := zB2_el hf
        refine zCVi (As := [.int p1]) (rest := []) (wr := ([] : va_W)) (wn := (kX10 cI cB bV (bP 0) (bS 0) (bW 0) (bN 0) (bO 0) mZ_1 mY mB mL mU_6 mJ_7 mK_9 mG mA ++ kX8 cI cB bP mP)) C.1 hK hA hP hD hS [0, 1, 2, 3, 4, 5, 6, 7, 8, 9, 10, 11, 12, 13, 14, 15, 16, 17, 18, 19, 20, 21, 22, 23, 24] [] [0, 1, 2, 3, 4, 5, 6, 7, 8, 9, 10, 11, 12, 13, 14, 15, 16, 17, 18, 19, 20, 21, 22, 23, 24] 0 (mtX10_ticksOf l dC dI cI cB bV bP bS bW bN bO H.size NN mZ_1 mY mB mL mU_6 mJ_7 mK mG mA mP p1 hg) (zCwV 1 C.1 wlX10_299 wiX10_ticksOf ws_X10_ticksOf wnX10 wkX10_ticksOf rfl rfl (by decide +kernel) ⟨Nat.le_of_ble_eq_true rfl, Nat.le_of_ble_eq_true rfl⟩) rfl rfl (by decide +kernel) rfl rfl rfl rfl hl.1 (Nat.le_of_ble_eq_true rfl) dX10_moves_50 ⟨Nat.zero_le _, Nat.zero_le _⟩ rfl (fun H locs hP hD hS => ?_)
        refine lv_istore_n (lv' := [(3, .int v8), (0, .ref (bV 0)), (1, .int p1), (2, .int p2)]) C.1.1 C.1.2.1 dX10_moves_53 rfl hl (by decide) rfl (fun ls hl => ?_)
        refine lv_aload_n C.1.1 C.1.2.1 dX10_moves_54 rfl (lv_at hl 1 rfl) ?_
        refine lv_aload_n C.1.1 C.1.2.1 dX10_moves_55 rfl (lv_at hl 1 rfl) ?_
        refine zGet (.ref (bV 9)) C.1 wuX10 hK hP 0 rfl rfl 30 (by decide) wfX10_71 rfl rfl dX10_moves_56 ?_
        refine lv_iload_n C.1.1 C.1.2.1 dX10_moves_59 rfl (lv_at hl 3 rfl) ?_
        obtain ⟨hib, hf⟩ := zGd_el hf
        refine va_iald C.1.1 C.1.2.1 hK.1 hP 9 0 rfl rfl hib dX10_moves_60 ?_
        obtain ⟨v10, mZ_11, hg, hf⟩ := zB2_el hf
        refine zCVi (As := [.int (mK_9 30 p2.toNatClampNeg)]) (rest := []) (wr := (kX8 cI cB bP mP)) (wn := (kX10 cI cB bV (bP 0) (bS 0) (bW 0) (bN 0) (bO 0) mZ_11 mY mB mL mU_6 mJ_7 mK_9 mG mA ++ kX8 cI cB bP mP)) C.1 hK hA hP hD hS [0, 1, 2, 3, 4, 5, 6, 7, 8, 9, 10, 11, 12, 13] [14, 15, 16, 17, 18, 19, 20, 21, 22, 23, 24] [11, 12, 13, 14, 15, 16, 17, 18, 19, 20, 21, 22, 23, 24, 0, 1, 2, 3, 4, 5, 6, 7, 8, 9, 10] 0 (mtX10_done l dC dI cI cB bV bP bS bW bN bO H.size mZ_1 mY mB mL mU_6 mJ_7 mK_9 mG mA (mK_9 30 p2.toNatClampNeg) hg) (zCwV 1 C.1 wlX10_233 wiX10_done ws_X10_done wnX10 wkX10_done rfl rfl (by decide +kernel) ⟨Nat.le_of_ble_eq_true rfl, Nat.le_of_ble_eq_true rfl⟩) rfl rfl (by decide +kernel) rfl rfl rfl rfl hl.1 (Nat.le_of_ble_eq_true rfl) dX10_moves_61 ⟨Nat.zero_le _, Nat.zero_le _⟩ rfl (fun H locs hP hD hS => ?_)
        cases hf
        rw [← hQ]
        exact zRi C hK hP hD hS dX10_moves_64
      · replace hf := zIf_f hf hc
        exact hJ38_3 () hf H locs hP hD hS ls (lv_sub hl [0] rfl)
  · replace hf := zIf_f hf hc
    refine lv_aload_n C.1.1 C.1.2.1 dX10_moves_13 rfl (lv_at hl 0 rfl) ?_
    refine lv_aload_n C.1.1 C.1.2.1 dX10_moves_14 rfl (lv_at hl 0 rfl) ?_
    refine lv_iload_n C.1.1 C.1.2.1 dX10_moves_15 rfl (lv_at hl 1 rfl) ?_
    obtain ⟨v12, hg, hf⟩ := zB1_el hf
    refine zCVi (As := [.int p1]) (rest := [.ref (bV 0)]) (wr := ([] : va_W)) (wn := (kX10 cI cB bV (bP 0) (bS 0) (bW 0) (bN 0) (bO 0) mZ_1 mY mB mL mU mJ mK mG mA ++ kX8 cI cB bP mP)) C.1 hK hA hP hD hS [0, 1, 2, 3, 4, 5, 6, 7, 8, 9, 10, 11, 12, 13, 14, 15, 16, 17, 18, 19, 20, 21, 22, 23, 24] [] [0, 1, 2, 3, 4, 5, 6, 7, 8, 9, 10, 11, 12, 13, 14, 15, 16, 17, 18, 19, 20, 21, 22, 23, 24] 0 (mtX10_asked l dC dI cI cB bV bP bS bW bN bO H.size mZ_1 mY mB mL mU mJ mK mG mA mP p1 hg) (zCwV 1 C.1 wlX10_293 wiX10_asked ws_X10_asked wnX10 wkX10_asked rfl rfl (by decide +kernel) ⟨Nat.le_of_ble_eq_true rfl, Nat.le_of_ble_eq_true rfl⟩) rfl rfl (by decide +kernel) rfl rfl rfl rfl hl.1 (Nat.le_of_ble_eq_true rfl) dX10_moves_16 ⟨Nat.zero_le _, Nat.zero_le _⟩ rfl (fun H locs hP hD hS => ?_)
    obtain ⟨v13, mZ_14, hg, hf⟩ := zB2_el hf
    refine zCVi (As := [.int v12]) (rest := []) (wr := (kX8 cI cB bP mP)) (wn := (kX10 cI cB bV (bP 0) (bS 0) (bW 0) (bN 0) (bO 0) mZ_14 mY mB mL mU mJ mK mG mA ++ kX8 cI cB bP mP)) C.1 hK hA hP hD hS [0, 1, 2, 3, 4, 5, 6, 7, 8, 9, 10, 11, 12, 13] [14, 15, 16, 17, 18, 19, 20, 21, 22, 23, 24] [11, 12, 13, 14, 15, 16, 17, 18, 19, 20, 21, 22, 23, 24, 0, 1, 2, 3, 4, 5, 6, 7, 8, 9, 10] 0 (mtX10_refused l dC dI cI cB bV bP bS bW bN bO H.size mZ_1 mY mB mL mU mJ mK mG mA v12 hg) (zCwV 1 C.1 wlX10_221 wiX10_refused ws_X10_refused wnX10 wkX10_refused rfl rfl (by decide +kernel) ⟨Nat.le_of_ble_eq_true rfl, Nat.le_of_ble_eq_true rfl⟩) rfl rfl (by decide +kernel) rfl rfl rfl rfl hl.1 (Nat.le_of_ble_eq_true rfl) dX10_moves_19 ⟨Nat.zero_le _, Nat.zero_le _⟩ rfl (fun H locs hP hD hS => ?_)
    cases hf
    rw [← hQ]
    exact zRi C hK hP hD hS dX10_moves_22
def fX10_quickest_L53 (mY : Rc) (mP : Rc) (p1 : Int32) (NN : Nat) (mJ_4 : Rc) (J130_9 : Int32 → Rc → Option (Int32 × Rc × Rc × Rc × Rc)) (n : Nat) (x12 : Int32) (x13 : Int32) (x14 : Int32) (x15 : Int32) (mK_16 : Rc) : Option (Int32 × Rc × Rc × Rc × Rc) := zLp5 (fun (go17 : Int32 → Int32 → Int32 → Int32 → Rc → Option (Int32 × Rc × Rc × Rc × Rc)) (x12 : Int32) (x13 : Int32) (x14 : Int32) (x15 : Int32) (mK_16 : Rc) =>
    if ((1 : Int32) <<< ((mP 0 0) &&& 31)) ≤ x15 then (
      J130_9 x12 mK_16
    ) else (
      zB1 (fX10_gatesOfCut NN mJ_4 mP x15) fun v18 =>
      if v18 ≤ p1 then (
        zB2 (fX10_ticksOf NN mY mJ_4 mK_16 mP x15) fun v19 mK_20 =>
        if x13 < v19 then (
          zLet (x15 + 1) fun x21 =>
          go17 x12 x13 x14 x21 mK_20
        ) else (
          zJn (fun (_ : Unit) =>
              zLet (x15 + 1) fun x23 =>
              go17 x15 v19 v18 x23 mK_20
            ) fun J114_22 =>
          if v19 = x13 then (
            if v18 < x14 then (
              J114_22 ()
            ) else (
              zLet (x15 + 1) fun x24 =>
              go17 x12 x13 x14 x24 mK_20
            )
          ) else (
            J114_22 ()
          )
        )
      ) else (
        zLet (x15 + 1) fun x25 =>
        go17 x12 x13 x14 x25 mK_16
      )
    )
  ) n x12 x13 x14 x15 mK_16
def fX10_quickest (NN : Nat) (mZ : Rc) (mY : Rc) (mU : Rc) (mJ : Rc) (mK : Rc) (mP : Rc) (p1 : Int32) : Option (Int32 × Rc × Rc × Rc × Rc) :=
  zLet (rs mZ 0 (fun _ => (0 : Int32))) fun mZ_1 =>
  if (mY 9 0) = 0 then (
    zB2 (fX10_refused mZ_1 (4 : Int32)) fun v28 mZ_29 =>
    some (v28, mZ_29, mU, mJ, mK)
  ) else (
    zB1 (fX10_in p1 (0 : Int32) (1000000 : Int32)) fun v2 =>
    if v2 = 0 then (
      zB2 (fX10_refused mZ_1 (2 : Int32)) fun v26 mZ_27 =>
      some (v26, mZ_27, mU, mJ, mK)
    ) else (
      zB2 (fX10_needs NN mY mU mJ mP) fun mU_3 mJ_4 =>
      zB2 (fX10_ticksOf NN mY mJ_4 mK mP (0 : Int32)) fun v5 mK_6 =>
      zJn (fun (x7 : Int32) (mK_8 : Rc) =>
          zB2 (fX10_done mZ_1 x7) fun v10 mZ_11 =>
          some (v10, mZ_11, mU_3, mJ_4, mK_8)
        ) fun J130_9 =>
      fX10_quickest_L53 mY mP p1 NN mJ_4 J130_9 NN (0 : Int32) v5 (0 : Int32) (1 : Int32) mK_6
    )
  )
abbrev rX10_quickest : Room := { frames := 5, cells := 0, slots := 0, locals := 121 }
set_option maxHeartbeats 4000000 in
set_option maxRecDepth 100000 in
theorem mtX10_quickest (l : Launch) (dC : Nat → ClassId) (dI : Nat → Nat → Nat) (cI cB : ClassId) (bV bP bS bW bN bO : Nat → Nat) (sz : Nat) (NN : Nat) (mZ : Rc) (mY : Rc) (mB : Rc) (mL : Rc) (mU : Rc) (mJ : Rc) (mK : Rc) (mG : Rc) (mA : Rc) (mP : Rc) (p1 : Int32) {ov : Int32} {mZ' : Rc} {mU' : Rc} {mJ' : Rc} {mK' : Rc} (hf : fX10_quickest NN mZ mY mU mJ mK mP p1 = some (ov, mZ', mU', mJ', mK')) : zMi l yX10_quickest (Cond.code yX10_quickest cX10_quickest 8 (some .int) :: lw_g) rX10_quickest (dC, dI) [(cI, .int), (cB, .byte)] [.ref (bV 0), .int p1] sz (kX10 cI cB bV (bP 0) (bS 0) (bW 0) (bN 0) (bO 0) mZ mY mB mL mU mJ mK mG mA ++ kX8 cI cB bP mP) ov (kX10 cI cB bV (bP 0) (bS 0) (bW 0) (bN 0) (bO 0) mZ' mY mB mL mU' mJ' mK' mG mA ++ kX8 cI cB bP mP) := by
  refine zSt (cc := cX10_quickest) (maxL := 8) (ret := (some .int)) (own := RX10) (fun A => zQi (dC, dI) [(cI, .int), (cB, .byte)] A ov (kX10 cI cB bV (bP 0) (bS 0) (bW 0) (bN 0) (bO 0) mZ' mY mB mL mU' mJ' mK' mG mA ++ kX8 cI cB bP mP)) (by decide) rfl rfl (Nat.le_of_ble_eq_true rfl) ?_
  intro p e s m below meth c ls A H locs C hK hA hP hD hS hl
  generalize hQ : MQ below (zQi (dC, dI) [(cI, .int), (cB, .byte)] A ov (kX10 cI cB bV (bP 0) (bS 0) (bW 0) (bN 0) (bO 0) mZ' mY mB mL mU' mJ' mK' mG mA ++ kX8 cI cB bP mP)) _ s 0 0 A = QQ
  generalize ([.ref (bV 0), .int p1] : List Value).toArray = args at C hQ ⊢
  have hl : lv_has ls 8 [(0, .ref (bV 0)), (1, .int p1)] := hl
  unfold fX10_quickest at hf
  refine lv_aload_n C.1.1 C.1.2.1 dX10_quickest_0 rfl (lv_at hl 0 rfl) ?_
  refine lv_iconst (v := 0) C.1.1 C.1.2.1 dX10_quickest_1 (by decide) ?_
  obtain ⟨mZ_1, emZ_1, hf⟩ := zLet_el hf
  refine zPut (ty := .int) (kX10 cI cB bV (bP 0) (bS 0) (bW 0) (bN 0) (bO 0) mZ_1 mY mB mL mU mJ mK mG mA ++ kX8 cI cB bP mP) C.1 wuX10 tyX10 tyX10_ok nmX10 hK hP hD hS 0 rfl rfl 0 (by decide) wfX10_86 rfl rfl (by decide +kernel) rfl rfl (Nat.le_of_ble_eq_true rfl) dX10_quickest_2 (by rw [emZ_1]; rfl) (fun H locs hP hD hS => ?_)
  refine lv_aload_n C.1.1 C.1.2.1 dX10_quickest_5 rfl (lv_at hl 0 rfl) ?_
  refine zGet (.int (mY 9 0)) C.1 wuX10 hK hP 0 rfl rfl 9 (by decide) wfX10_230 rfl rfl dX10_quickest_6 ?_
  refine lv_if_ne (tgt := 18) C.1.1 C.1.2.1 dX10_quickest_9 (by decide) (fun hc => ?_) (fun hc => ?_)
  · replace hf := zIf_f hf hc
    refine lv_iload_n C.1.1 C.1.2.1 dX10_quickest_18 rfl (lv_at hl 1 rfl) ?_
    refine lv_iconst (v := 0) C.1.1 C.1.2.1 dX10_quickest_19 (by decide) ?_
    refine lv_ldcw C.1.1 C.1.2.1 C.1.2.2.2.1 (C.1.2.2.2.2 _ wcX10_305) dX10_quickest_20 ?_
    obtain ⟨v2, hg, hf⟩ := zB1_el hf
    refine zCSi (As := [.int p1, .int (0 : Int32), .int (1000000 : Int32)]) (rest := []) (wr := (kX10 cI cB bV (bP 0) (bS 0) (bW 0) (bN 0) (bO 0) mZ_1 mY mB mL mU mJ mK mG mA ++ kX8 cI cB bP mP)) (wn := (kX10 cI cB bV (bP 0) (bS 0) (bW 0) (bN 0) (bO 0) mZ_1 mY mB mL mU mJ mK mG mA ++ kX8 cI cB bP mP)) C.1 hK hA hP hD hS [] [0, 1, 2, 3, 4, 5, 6, 7, 8, 9, 10, 11, 12, 13, 14, 15, 16, 17, 18, 19, 20, 21, 22, 23, 24] [0, 1, 2, 3, 4, 5, 6, 7, 8, 9, 10, 11, 12, 13, 14, 15, 16, 17, 18, 19, 20, 21, 22, 23, 24] (mtX10_in l dC dI cI cB H.size p1 (0 : Int32) (1000000 : Int32) hg) (zCwS 3 C.1 wlX10_167 wtX10_in wnX10 wkX10_in rfl rfl (by decide +kernel) ⟨Nat.le_of_ble_eq_true rfl, Nat.le_of_ble_eq_true rfl⟩) rfl rfl (by decide +kernel) rfl rfl hl.1 (Nat.le_of_ble_eq_true rfl) dX10_quickest_23 ⟨Nat.zero_le _, Nat.zero_le _⟩ rfl (fun H locs hP hD hS => ?_)
    refine lv_if_ne (tgt := 35) C.1.1 C.1.2.1 dX10_quickest_26 (by decide) (fun hc => ?_) (fun hc => ?_)
    · replace hf := zIf_f hf hc
      refine lv_aload_n C.1.1 C.1.2.1 dX10_quickest_35 rfl (lv_at hl 0 rfl) ?_
      obtain ⟨mU_3, mJ_4, hg, hf⟩ := zB2_el hf
      refine zCVv (As := []) (rest := []) (wr := ([] : va_W)) (wn := (kX10 cI cB bV (bP 0) (bS 0) (bW 0) (bN 0) (bO 0) mZ_1 mY mB mL mU_3 mJ_4 mK mG mA ++ kX8 cI cB bP mP)) C.1 hK hA hP hD hS [0, 1, 2, 3, 4, 5, 6, 7, 8, 9, 10, 11, 12, 13, 14, 15, 16, 17, 18, 19, 20, 21, 22, 23, 24] [] [0, 1, 2, 3, 4, 5, 6, 7, 8, 9, 10, 11, 12, 13, 14, 15, 16, 17, 18, 19, 20, 21, 22, 23, 24] 0 (mtX10_needs l dC dI cI cB bV bP bS bW bN bO H.size NN mZ_1 mY mB mL mU mJ mK mG mA mP hg) (zCwV 0 C.1 wlX10_296 wiX10_needs ws_X10_needs wnX10 wkX10_needs rfl rfl (by decide +kernel) ⟨Nat.le_of_ble_eq_true rfl, Nat.le_of_ble_eq_true rfl⟩) rfl rfl (by decide +kernel) rfl rfl rfl rfl hl.1 (Nat.le_of_ble_eq_true rfl) dX10_quickest_36 ⟨Nat.zero_le _, Nat.zero_le _⟩ rfl (fun H locs hP hD hS => ?_)
      refine lv_iconst (v := 0) C.1.1 C.1.2.1 dX10_quickest_39 (by decide) ?_
      refine lv_istore_n (lv' := [(2, .int (0 : Int32)), (0, .ref (bV 0)), (1, .int p1)]) C.1.1 C.1.2.1 dX10_quickest_40 rfl hl (by decide) rfl (fun ls hl => ?_)
      refine lv_aload_n C.1.1 C.1.2.1 dX10_quickest_41 rfl (lv_at hl 1 rfl) ?_
      refine lv_iconst (v := 0) C.1.1 C.1.2.1 dX10_quickest_42 (by decide) ?_
      obtain ⟨v5, mK_6, hg, hf⟩ := zB2_el hf
      refine zCVi (As := [.int (0 : Int32)]) (rest := []) (wr := ([] : va_W)) (wn := (kX10 cI cB bV (bP 0) (bS 0) (bW 0) (bN 0) (bO 0) mZ_1 mY mB mL mU_3 mJ_4 mK_6 mG mA ++ kX8 cI cB bP mP)) C.1 hK hA hP hD hS [0, 1, 2, 3, 4, 5, 6, 7, 8, 9, 10, 11, 12, 13, 14, 15, 16, 17, 18, 19, 20, 21, 22, 23, 24] [] [0, 1, 2, 3, 4, 5, 6, 7, 8, 9, 10, 11, 12, 13, 14, 15, 16, 17, 18, 19, 20, 21, 22, 23, 24] 0 (mtX10_ticksOf l dC dI cI cB bV bP bS bW bN bO H.size NN mZ_1 mY mB mL mU_3 mJ_4 mK mG mA mP (0 : Int32) hg) (zCwV 1 C.1 wlX10_299 wiX10_ticksOf ws_X10_ticksOf wnX10 wkX10_ticksOf rfl rfl (by decide +kernel) ⟨Nat.le_of_ble_eq_true rfl, Nat.le_of_ble_eq_true rfl⟩) rfl rfl (by decide +kernel) rfl rfl rfl rfl hl.1 (Nat.le_of_ble_eq_true rfl) dX10_quickest_43 ⟨Nat.zero_le _, Nat.zero_le _⟩ rfl (fun H locs hP hD hS => ?_)
      refine lv_istore_n (lv' := [(3, .int v5), (2, .int (0 : Int32)), (0, .ref (bV 0)), (1, .int p1)]) C.1.1 C.1.2.1 dX10_quickest_46 rfl hl (by decide) rfl (fun ls hl => ?_)
      refine lv_iconst (v := 0) C.1.1 C.1.2.1 dX10_quickest_47 (by decide) ?_
      refine lv_istore (lv' := [(4, .int (0 : Int32)), (3, .int v5), (2, .int (0 : Int32)), (0, .ref (bV 0)), (1, .int p1)]) C.1.1 C.1.2.1 dX10_quickest_48 hl (by decide) rfl (fun ls hl => ?_)
      refine lv_iconst (v := 1) C.1.1 C.1.2.1 dX10_quickest_50 (by decide) ?_
      refine lv_istore (lv' := [(5, .int (1 : Int32)), (4, .int (0 : Int32)), (3, .int v5), (2, .int (0 : Int32)), (0, .ref (bV 0)), (1, .int p1)]) C.1.1 C.1.2.1 dX10_quickest_51 hl (by decide) rfl (fun ls hl => ?_)
      obtain ⟨J130_9, eJ130_9, hf⟩ := zJn_el hf
      have hJ130_9 : ∀ (x7 : Int32) (mK_8 : Rc), J130_9 x7 mK_8 = some (ov, mZ', mU', mJ', mK') → ∀ (H : Heap) (locs : List Loc), va_P (dC, dI) vwCl (kX10 cI cB bV (bP 0) (bS 0) (bW 0) (bN 0) (bO 0) mZ_1 mY mB mL mU_3 mJ_4 mK_8 mG mA ++ kX8 cI cB bP mP) H → va_D A (kX10 cI cB bV (bP 0) (bS 0) (bW 0) (bN 0) (bO 0) mZ_1 mY mB mL mU_3 mJ_4 mK_8 mG mA ++ kX8 cI cB bP mP) → va_S A s.heap H locs → ∀ (ls : Array Slot), lv_has ls 8 [(0, .ref (bV 0)), (2, .int x7)] → W p l e rX10_quickest s m args below meth c H locs 0 0 QQ (F0 m 130 ls []) := by
        intro x7 mK_8 hf H locs hP hD hS ls hl
        rw [eJ130_9] at hf
        refine lv_aload_n C.1.1 C.1.2.1 dX10_quickest_130 rfl (lv_at hl 0 rfl) ?_
        refine lv_iload_n C.1.1 C.1.2.1 dX10_quickest_131 rfl (lv_at hl 1 rfl) ?_
        obtain ⟨v10, mZ_11, hg, hf⟩ := zB2_el hf
        refine zCVi (As := [.int x7]) (rest := []) (wr := (kX8 cI cB bP mP)) (wn := (kX10 cI cB bV (bP 0) (bS 0) (bW 0) (bN 0) (bO 0) mZ_11 mY mB mL mU_3 mJ_4 mK_8 mG mA ++ kX8 cI cB bP mP)) C.1 hK hA hP hD hS [0, 1, 2, 3, 4, 5, 6, 7, 8, 9, 10, 11, 12, 13] [14, 15, 16, 17, 18, 19, 20, 21, 22, 23, 24] [11, 12, 13, 14, 15, 16, 17, 18, 19, 20, 21, 22, 23, 24, 0, 1, 2, 3, 4, 5, 6, 7, 8, 9, 10] 0 (mtX10_done l dC dI cI cB bV bP bS bW bN bO H.size mZ_1 mY mB mL mU_3 mJ_4 mK_8 mG mA x7 hg) (zCwV 1 C.1 wlX10_233 wiX10_done ws_X10_done wnX10 wkX10_done rfl rfl (by decide +kernel) ⟨Nat.le_of_ble_eq_true rfl, Nat.le_of_ble_eq_true rfl⟩) rfl rfl (by decide +kernel) rfl rfl rfl rfl hl.1 (Nat.le_of_ble_eq_true rfl) dX10_quickest_132 ⟨Nat.zero_le _, Nat.zero_le _⟩ rfl (fun H locs hP hD hS => ?_)
        cases hf
        rw [← hQ]
        exact zRi C hK hP hD hS dX10_quickest_135
      refine zLp5_ind (o := (ov, mZ', mU', mJ', mK')) (P := fun (x12 : Int32) (x13 : Int32) (x14 : Int32) (x15 : Int32) (mK_16 : Rc) => ∀ (H : Heap) (locs : List Loc), va_P (dC, dI) vwCl (kX10 cI cB bV (bP 0) (bS 0) (bW 0) (bN 0) (bO 0) mZ_1 mY mB mL mU_3 mJ_4 mK_16 mG mA ++ kX8 cI cB bP mP) H → va_D A (kX10 cI cB bV (bP 0) (bS 0) (bW 0) (bN 0) (bO 0) mZ_1 mY mB mL mU_3 mJ_4 mK_16 mG mA ++ kX8 cI cB bP mP) → va_S A s.heap H locs → ∀ (ls : Array Slot), lv_has ls 8 [(0, .ref (bV 0)), (1, .int p1), (2, .int x12), (3, .int x13), (4, .int x14), (5, .int x15)] → W p l e rX10_quickest s m args below meth c H locs 0 0 QQ (F0 m 53 ls [])) (fun go17 ihgo17 x12 x13 x14 x15 mK_16 hf H locs hP hD hS ls hl => ?_) _ (0 : Int32) v5 (0 : Int32) (1 : Int32) mK_6 hf H locs hP hD hS ls (lv_sub hl [4, 5, 3, 2, 1, 0] rfl)
      refine lv_iload C.1.1 C.1.2.1 dX10_quickest_53 (lv_at hl 5 rfl) ?_
      refine lv_iconst (v := 1) C.1.1 C.1.2.1 dX10_quickest_55 (by decide) ?_
      refine lv_aload_n C.1.1 C.1.2.1 dX10_quickest_56 rfl (lv_at hl 0 rfl) ?_
      refine zGet (.ref (bP 0)) C.1 wuX10 hK hP 0 rfl rfl 7 (by decide) wfX10_25 rfl rfl dX10_quickest_57 ?_
      refine zGetN (.int (mP 0 0)) C.1 wuX8 hK hP 14 rfl rfl 0 (by decide) nfX10_146 rfl rfl dX10_quickest_60 ?_
      refine lv_ishl C.1.1 C.1.2.1 dX10_quickest_63 ?_
      refine lv_icmp_ge (tgt := 130) C.1.1 C.1.2.1 dX10_quickest_64 (by decide) (fun hc => ?_) (fun hc => ?_)
      · replace hf := zIf_t hf hc
        exact hJ130_9 x12 mK_16 hf H locs hP hD hS ls (lv_sub hl [0, 2] rfl)
      · replace hf := zIf_f hf hc
        refine lv_aload_n C.1.1 C.1.2.1 dX10_quickest_67 rfl (lv_at hl 0 rfl) ?_
        refine lv_iload C.1.1 C.1.2.1 dX10_quickest_68 (lv_at hl 5 rfl) ?_
        obtain ⟨v18, hg, hf⟩ := zB1_el hf
        refine zCVi (As := [.int x15]) (rest := []) (wr := ([] : va_W)) (wn := (kX10 cI cB bV (bP 0) (bS 0) (bW 0) (bN 0) (bO 0) mZ_1 mY mB mL mU_3 mJ_4 mK_16 mG mA ++ kX8 cI cB bP mP)) C.1 hK hA hP hD hS [0, 1, 2, 3, 4, 5, 6, 7, 8, 9, 10, 11, 12, 13, 14, 15, 16, 17, 18, 19, 20, 21, 22, 23, 24] [] [0, 1, 2, 3, 4, 5, 6, 7, 8, 9, 10, 11, 12, 13, 14, 15, 16, 17, 18, 19, 20, 21, 22, 23, 24] 0 (mtX10_gatesOfCut l dC dI cI cB bV bP bS bW bN bO H.size NN mZ_1 mY mB mL mU_3 mJ_4 mK_16 mG mA mP x15 hg) (zCwV 1 C.1 wlX10_302 wiX10_gatesOfCut ws_X10_gatesOfCut wnX10 wkX10_gatesOfCut rfl rfl (by decide +kernel) ⟨Nat.le_of_ble_eq_true rfl, Nat.le_of_ble_eq_true rfl⟩) rfl rfl (by decide +kernel) rfl rfl rfl rfl hl.1 (Nat.le_of_ble_eq_true rfl) dX10_quickest_70 ⟨Nat.zero_le _, Nat.zero_le _⟩ rfl (fun H locs hP hD hS => ?_)
        refine lv_istore (lv' := [(6, .int v18), (0, .ref (bV 0)), (1, .int p1), (2, .int x12), (3, .int x13), (4, .int x14), (5, .int x15)]) C.1.1 C.1.2.1 dX10_quickest_73 hl (by decide) rfl (fun ls hl => ?_)
        refine lv_iload C.1.1 C.1.2.1 dX10_quickest_75 (lv_at hl 0 rfl) ?_
        refine lv_iload_n C.1.1 C.1.2.1 dX10_quickest_77 rfl (lv_at hl 2 rfl) ?_
        refine lv_icmp_le (tgt := 84) C.1.1 C.1.2.1 dX10_quickest_78 (by decide) (fun hc => ?_) (fun hc => ?_)
        · replace hf := zIf_t hf hc
          refine lv_aload_n C.1.1 C.1.2.1 dX10_quickest_84 rfl (lv_at hl 1 rfl) ?_
          refine lv_iload C.1.1 C.1.2.1 dX10_quickest_85 (lv_at hl 6 rfl) ?_
          obtain ⟨v19, mK_20, hg, hf⟩ := zB2_el hf
          refine zCVi (As := [.int x15]) (rest := []) (wr := ([] : va_W)) (wn := (kX10 cI cB bV (bP 0) (bS 0) (bW 0) (bN 0) (bO 0) mZ_1 mY mB mL mU_3 mJ_4 mK_20 mG mA ++ kX8 cI cB bP mP)) C.1 hK hA hP hD hS [0, 1, 2, 3, 4, 5, 6, 7, 8, 9, 10, 11, 12, 13, 14, 15, 16, 17, 18, 19, 20, 21, 22, 23, 24] [] [0, 1, 2, 3, 4, 5, 6, 7, 8, 9, 10, 11, 12, 13, 14, 15, 16, 17, 18, 19, 20, 21, 22, 23, 24] 0 (mtX10_ticksOf l dC dI cI cB bV bP bS bW bN bO H.size NN mZ_1 mY mB mL mU_3 mJ_4 mK_16 mG mA mP x15 hg) (zCwV 1 C.1 wlX10_299 wiX10_ticksOf ws_X10_ticksOf wnX10 wkX10_ticksOf rfl rfl (by decide +kernel) ⟨Nat.le_of_ble_eq_true rfl, Nat.le_of_ble_eq_true rfl⟩) rfl rfl (by decide +kernel) rfl rfl rfl rfl hl.1 (Nat.le_of_ble_eq_true rfl) dX10_quickest_87 ⟨Nat.zero_le _, Nat.zero_le _⟩ rfl (fun H locs hP hD hS => ?_)
          refine lv_istore (lv' := [(7, .int v19), (6, .int v18), (0, .ref (bV 0)), (1, .int p1), (2, .int x12), (3, .int x13), (4, .int x14), (5, .int x15)]) C.1.1 C.1.2.1 dX10_quickest_90 hl (by decide) rfl (fun ls hl => ?_)
          refine lv_iload C.1.1 C.1.2.1 dX10_quickest_92 (lv_at hl 0 rfl) ?_
          refine lv_iload_n C.1.1 C.1.2.1 dX10_quickest_94 rfl (lv_at hl 5 rfl) ?_
          refine lv_icmp_gt (tgt := 124) C.1.1 C.1.2.1 dX10_quickest_95 (by decide) (fun hc => ?_) (fun hc => ?_)
          · replace hf := zIf_t hf hc
            obtain ⟨x21, ex21, hf⟩ := zLet_el hf
            refine lv_iinc (v := x21) (lv' := [(5, .int x21), (7, .int v19), (6, .int v18), (0, .ref (bV 0)), (1, .int p1), (2, .int x12), (3, .int x13), (4, .int x14)]) C.1.1 C.1.2.1 dX10_quickest_124 hl (k := 7) rfl (by rw [ex21]; rfl) (by decide) rfl (fun ls hl => ?_)
            refine lv_goto (tgt := 53) C.1.1 C.1.2.1 dX10_quickest_127 (by decide) ?_
            exact ihgo17 x12 x13 x14 x21 mK_20 hf H locs hP hD hS ls (lv_sub hl [3, 4, 5, 6, 7, 0] rfl)
          · replace hf := zIf_f hf hc
            refine lv_iload C.1.1 C.1.2.1 dX10_quickest_98 (lv_at hl 0 rfl) ?_
            refine lv_iload_n C.1.1 C.1.2.1 dX10_quickest_100 rfl (lv_at hl 5 rfl) ?_
            obtain ⟨J114_22, eJ114_22, hf⟩ := zJn_el hf
            have hJ114_22 : ∀ (u : Unit), J114_22 u = some (ov, mZ', mU', mJ', mK') → ∀ (H : Heap) (locs : List Loc), va_P (dC, dI) vwCl (kX10 cI cB bV (bP 0) (bS 0) (bW 0) (bN 0) (bO 0) mZ_1 mY mB mL mU_3 mJ_4 mK_20 mG mA ++ kX8 cI cB bP mP) H → va_D A (kX10 cI cB bV (bP 0) (bS 0) (bW 0) (bN 0) (bO 0) mZ_1 mY mB mL mU_3 mJ_4 mK_20 mG mA ++ kX8 cI cB bP mP) → va_S A s.heap H locs → ∀ (ls : Array Slot), lv_has ls 8 [(0, .ref (bV 0)), (1, .int p1), (5, .int x15), (6, .int v18), (7, .int v19)] → W p l e rX10_quickest s m args below meth c H locs 0 0 QQ (F0 m 114 ls []) := by
              intro u hf H locs hP hD hS ls hl
              rw [eJ114_22] at hf
              refine lv_iload C.1.1 C.1.2.1 dX10_quickest_114 (lv_at hl 2 rfl) ?_
              refine lv_istore_n (lv' := [(2, .int x15), (0, .ref (bV 0)), (1, .int p1), (5, .int x15), (6, .int v18), (7, .int v19)]) C.1.1 C.1.2.1 dX10_quickest_116 rfl hl (by decide) rfl (fun ls hl => ?_)
              refine lv_iload C.1.1 C.1.2.1 dX10_quickest_117 (lv_at hl 5 rfl) ?_
              refine lv_istore_n (lv' := [(3, .int v19), (2, .int x15), (0, .ref (bV 0)), (1, .int p1), (5, .int x15), (6, .int v18), (7, .int v19)]) C.1.1 C.1.2.1 dX10_quickest_119 rfl hl (by decide) rfl (fun ls hl => ?_)
              refine lv_iload C.1.1 C.1.2.1 dX10_quickest_120 (lv_at hl 5 rfl) ?_
              refine lv_istore (lv' := [(4, .int v18), (3, .int v19), (2, .int x15), (0, .ref (bV 0)), (1, .int p1), (5, .int x15), (6, .int v18), (7, .int v19)]) C.1.1 C.1.2.1 dX10_quickest_122 hl (by decide) rfl (fun ls hl => ?_)
              obtain ⟨x23, ex23, hf⟩ := zLet_el hf
              refine lv_iinc (v := x23) (lv' := [(5, .int x23), (4, .int v18), (3, .int v19), (2, .int x15), (0, .ref (bV 0)), (1, .int p1), (6, .int v18), (7, .int v19)]) C.1.1 C.1.2.1 dX10_quickest_124 hl (k := 5) rfl (by rw [ex23]; rfl) (by decide) rfl (fun ls hl => ?_)
              refine lv_goto (tgt := 53) C.1.1 C.1.2.1 dX10_quickest_127 (by decide) ?_
              exact ihgo17 x15 v19 v18 x23 mK_20 hf H locs hP hD hS ls (lv_sub hl [4, 5, 3, 2, 1, 0] rfl)
            refine lv_icmp_ne (tgt := 114) C.1.1 C.1.2.1 dX10_quickest_101 (by decide) (fun hc => ?_) (fun hc => ?_)
            · replace hf := zIf_f hf hc
              exact hJ114_22 () hf H locs hP hD hS ls (lv_sub hl [2, 3, 7, 1, 0] rfl)
            · replace hf := zIf_t hf hc
              refine lv_iload C.1.1 C.1.2.1 dX10_quickest_104 (lv_at hl 1 rfl) ?_
              refine lv_iload C.1.1 C.1.2.1 dX10_quickest_106 (lv_at hl 6 rfl) ?_
              refine lv_icmp_lt (tgt := 114) C.1.1 C.1.2.1 dX10_quickest_108 (by decide) (fun hc => ?_) (fun hc => ?_)
              · replace hf := zIf_t hf hc
                exact hJ114_22 () hf H locs hP hD hS ls (lv_sub hl [2, 3, 7, 1, 0] rfl)
              · replace hf := zIf_f hf hc
                refine lv_goto (tgt := 124) C.1.1 C.1.2.1 dX10_quickest_111 (by decide) ?_
                obtain ⟨x24, ex24, hf⟩ := zLet_el hf
                refine lv_iinc (v := x24) (lv' := [(5, .int x24), (7, .int v19), (6, .int v18), (0, .ref (bV 0)), (1, .int p1), (2, .int x12), (3, .int x13), (4, .int x14)]) C.1.1 C.1.2.1 dX10_quickest_124 hl (k := 7) rfl (by rw [ex24]; rfl) (by decide) rfl (fun ls hl => ?_)
                refine lv_goto (tgt := 53) C.1.1 C.1.2.1 dX10_quickest_127 (by decide) ?_
                exact ihgo17 x12 x13 x14 x24 mK_20 hf H locs hP hD hS ls (lv_sub hl [3, 4, 5, 6, 7, 0] rfl)
        · replace hf := zIf_f hf hc
          refine lv_goto (tgt := 124) C.1.1 C.1.2.1 dX10_quickest_81 (by decide) ?_
          obtain ⟨x25, ex25, hf⟩ := zLet_el hf
          refine lv_iinc (v := x25) (lv' := [(5, .int x25), (6, .int v18), (0, .ref (bV 0)), (1, .int p1), (2, .int x12), (3, .int x13), (4, .int x14)]) C.1.1 C.1.2.1 dX10_quickest_124 hl (k := 6) rfl (by rw [ex25]; rfl) (by decide) rfl (fun ls hl => ?_)
          refine lv_goto (tgt := 53) C.1.1 C.1.2.1 dX10_quickest_127 (by decide) ?_
          exact ihgo17 x12 x13 x14 x25 mK_16 hf H locs hP hD hS ls (lv_sub hl [2, 3, 4, 5, 6, 0] rfl)
    · replace hf := zIf_t hf hc
      refine lv_aload_n C.1.1 C.1.2.1 dX10_quickest_29 rfl (lv_at hl 0 rfl) ?_
      refine lv_iconst (v := 2) C.1.1 C.1.2.1 dX10_quickest_30 (by decide) ?_
      obtain ⟨v26, mZ_27, hg, hf⟩ := zB2_el hf
      refine zCVi (As := [.int (2 : Int32)]) (rest := []) (wr := (kX8 cI cB bP mP)) (wn := (kX10 cI cB bV (bP 0) (bS 0) (bW 0) (bN 0) (bO 0) mZ_27 mY mB mL mU mJ mK mG mA ++ kX8 cI cB bP mP)) C.1 hK hA hP hD hS [0, 1, 2, 3, 4, 5, 6, 7, 8, 9, 10, 11, 12, 13] [14, 15, 16, 17, 18, 19, 20, 21, 22, 23, 24] [11, 12, 13, 14, 15, 16, 17, 18, 19, 20, 21, 22, 23, 24, 0, 1, 2, 3, 4, 5, 6, 7, 8, 9, 10] 0 (mtX10_refused l dC dI cI cB bV bP bS bW bN bO H.size mZ_1 mY mB mL mU mJ mK mG mA (2 : Int32) hg) (zCwV 1 C.1 wlX10_221 wiX10_refused ws_X10_refused wnX10 wkX10_refused rfl rfl (by decide +kernel) ⟨Nat.le_of_ble_eq_true rfl, Nat.le_of_ble_eq_true rfl⟩) rfl rfl (by decide +kernel) rfl rfl rfl rfl hl.1 (Nat.le_of_ble_eq_true rfl) dX10_quickest_31 ⟨Nat.zero_le _, Nat.zero_le _⟩ rfl (fun H locs hP hD hS => ?_)
      cases hf
      rw [← hQ]
      exact zRi C hK hP hD hS dX10_quickest_34
  · replace hf := zIf_t hf hc
    refine lv_aload_n C.1.1 C.1.2.1 dX10_quickest_12 rfl (lv_at hl 0 rfl) ?_
    refine lv_iconst (v := 4) C.1.1 C.1.2.1 dX10_quickest_13 (by decide) ?_
    obtain ⟨v28, mZ_29, hg, hf⟩ := zB2_el hf
    refine zCVi (As := [.int (4 : Int32)]) (rest := []) (wr := (kX8 cI cB bP mP)) (wn := (kX10 cI cB bV (bP 0) (bS 0) (bW 0) (bN 0) (bO 0) mZ_29 mY mB mL mU mJ mK mG mA ++ kX8 cI cB bP mP)) C.1 hK hA hP hD hS [0, 1, 2, 3, 4, 5, 6, 7, 8, 9, 10, 11, 12, 13] [14, 15, 16, 17, 18, 19, 20, 21, 22, 23, 24] [11, 12, 13, 14, 15, 16, 17, 18, 19, 20, 21, 22, 23, 24, 0, 1, 2, 3, 4, 5, 6, 7, 8, 9, 10] 0 (mtX10_refused l dC dI cI cB bV bP bS bW bN bO H.size mZ_1 mY mB mL mU mJ mK mG mA (4 : Int32) hg) (zCwV 1 C.1 wlX10_221 wiX10_refused ws_X10_refused wnX10 wkX10_refused rfl rfl (by decide +kernel) ⟨Nat.le_of_ble_eq_true rfl, Nat.le_of_ble_eq_true rfl⟩) rfl rfl (by decide +kernel) rfl rfl rfl rfl hl.1 (Nat.le_of_ble_eq_true rfl) dX10_quickest_14 ⟨Nat.zero_le _, Nat.zero_le _⟩ rfl (fun H locs hP hD hS => ?_)
    cases hf
    rw [← hQ]
    exact zRi C hK hP hD hS dX10_quickest_17
def fX10_fewest_L37 (mY : Rc) (mP : Rc) (p1 : Int32) (NN : Nat) (mJ_3 : Rc) (J93_6 : Int32 → Rc → Option (Int32 × Rc × Rc × Rc × Rc)) (n : Nat) (x9 : Int32) (x10 : Int32) (mK_11 : Rc) : Option (Int32 × Rc × Rc × Rc × Rc) := zLp3 (fun (go12 : Int32 → Int32 → Rc → Option (Int32 × Rc × Rc × Rc × Rc)) (x9 : Int32) (x10 : Int32) (mK_11 : Rc) =>
    if ((1 : Int32) <<< ((mP 0 0) &&& 31)) ≤ x10 then (
      J93_6 x9 mK_11
    ) else (
      zB2 (fX10_ticksOf NN mY mJ_3 mK_11 mP x10) fun v13 mK_14 =>
      if v13 ≤ p1 then (
        zB1 (fX10_gatesOfCut NN mJ_3 mP x10) fun v15 =>
        if x9 = (-2 : Int32) then (
          zLet (x10 + 1) fun x18 =>
          go12 v15 x18 mK_14
        ) else (
          zLet (if v15 < x9 then v15 else x9) fun x16 =>
          zLet (x10 + 1) fun x17 =>
          go12 x16 x17 mK_14
        )
      ) else (
        zLet (x10 + 1) fun x19 =>
        go12 x9 x19 mK_14
      )
    )
  ) n x9 x10 mK_11
def fX10_fewest (NN : Nat) (mZ : Rc) (mY : Rc) (mU : Rc) (mJ : Rc) (mK : Rc) (mP : Rc) (p1 : Int32) : Option (Int32 × Rc × Rc × Rc × Rc) :=
  zLet (rs mZ 0 (fun _ => (0 : Int32))) fun mZ_1 =>
  if (mY 9 0) = 0 then (
    zB2 (fX10_refused mZ_1 (4 : Int32)) fun v22 mZ_23 =>
    some (v22, mZ_23, mU, mJ, mK)
  ) else (
    if 0 ≤ p1 then (
      zB2 (fX10_needs NN mY mU mJ mP) fun mU_2 mJ_3 =>
      zJn (fun (x4 : Int32) (mK_5 : Rc) =>
          zB2 (fX10_done mZ_1 x4) fun v7 mZ_8 =>
          some (v7, mZ_8, mU_2, mJ_3, mK_5)
        ) fun J93_6 =>
      fX10_fewest_L37 mY mP p1 NN mJ_3 J93_6 NN (-2 : Int32) (0 : Int32) mK
    ) else (
      zB2 (fX10_refused mZ_1 (2 : Int32)) fun v20 mZ_21 =>
      some (v20, mZ_21, mU, mJ, mK)
    )
  )
abbrev rX10_fewest : Room := { frames := 5, cells := 0, slots := 0, locals := 121 }
set_option maxHeartbeats 4000000 in
set_option maxRecDepth 100000 in
theorem mtX10_fewest (l : Launch) (dC : Nat → ClassId) (dI : Nat → Nat → Nat) (cI cB : ClassId) (bV bP bS bW bN bO : Nat → Nat) (sz : Nat) (NN : Nat) (mZ : Rc) (mY : Rc) (mB : Rc) (mL : Rc) (mU : Rc) (mJ : Rc) (mK : Rc) (mG : Rc) (mA : Rc) (mP : Rc) (p1 : Int32) {ov : Int32} {mZ' : Rc} {mU' : Rc} {mJ' : Rc} {mK' : Rc} (hf : fX10_fewest NN mZ mY mU mJ mK mP p1 = some (ov, mZ', mU', mJ', mK')) : zMi l yX10_fewest (Cond.code yX10_fewest cX10_fewest 5 (some .int) :: lw_g) rX10_fewest (dC, dI) [(cI, .int), (cB, .byte)] [.ref (bV 0), .int p1] sz (kX10 cI cB bV (bP 0) (bS 0) (bW 0) (bN 0) (bO 0) mZ mY mB mL mU mJ mK mG mA ++ kX8 cI cB bP mP) ov (kX10 cI cB bV (bP 0) (bS 0) (bW 0) (bN 0) (bO 0) mZ' mY mB mL mU' mJ' mK' mG mA ++ kX8 cI cB bP mP) := by
  refine zSt (cc := cX10_fewest) (maxL := 5) (ret := (some .int)) (own := RX10) (fun A => zQi (dC, dI) [(cI, .int), (cB, .byte)] A ov (kX10 cI cB bV (bP 0) (bS 0) (bW 0) (bN 0) (bO 0) mZ' mY mB mL mU' mJ' mK' mG mA ++ kX8 cI cB bP mP)) (by decide) rfl rfl (Nat.le_of_ble_eq_true rfl) ?_
  intro p e s m below meth c ls A H locs C hK hA hP hD hS hl
  generalize hQ : MQ below (zQi (dC, dI) [(cI, .int), (cB, .byte)] A ov (kX10 cI cB bV (bP 0) (bS 0) (bW 0) (bN 0) (bO 0) mZ' mY mB mL mU' mJ' mK' mG mA ++ kX8 cI cB bP mP)) _ s 0 0 A = QQ
  generalize ([.ref (bV 0), .int p1] : List Value).toArray = args at C hQ ⊢
  have hl : lv_has ls 5 [(0, .ref (bV 0)), (1, .int p1)] := hl
  unfold fX10_fewest at hf
  refine lv_aload_n C.1.1 C.1.2.1 dX10_fewest_0 rfl (lv_at hl 0 rfl) ?_
  refine lv_iconst (v := 0) C.1.1 C.1.2.1 dX10_fewest_1 (by decide) ?_
  obtain ⟨mZ_1, emZ_1, hf⟩ := zLet_el hf
  refine zPut (ty := .int) (kX10 cI cB bV (bP 0) (bS 0) (bW 0) (bN 0) (bO 0) mZ_1 mY mB mL mU mJ mK mG mA ++ kX8 cI cB bP mP) C.1 wuX10 tyX10 tyX10_ok nmX10 hK hP hD hS 0 rfl rfl 0 (by decide) wfX10_86 rfl rfl (by decide +kernel) rfl rfl (Nat.le_of_ble_eq_true rfl) dX10_fewest_2 (by rw [emZ_1]; rfl) (fun H locs hP hD hS => ?_)
  refine lv_aload_n C.1.1 C.1.2.1 dX10_fewest_5 rfl (lv_at hl 0 rfl) ?_
  refine zGet (.int (mY 9 0)) C.1 wuX10 hK hP 0 rfl rfl 9 (by decide) wfX10_230 rfl rfl dX10_fewest_6 ?_
  refine lv_if_ne (tgt := 18) C.1.1 C.1.2.1 dX10_fewest_9 (by decide) (fun hc => ?_) (fun hc => ?_)
  · replace hf := zIf_f hf hc
    refine lv_iload_n C.1.1 C.1.2.1 dX10_fewest_18 rfl (lv_at hl 1 rfl) ?_
    refine lv_if_ge (tgt := 28) C.1.1 C.1.2.1 dX10_fewest_19 (by decide) (fun hc => ?_) (fun hc => ?_)
    · replace hf := zIf_t hf hc
      refine lv_aload_n C.1.1 C.1.2.1 dX10_fewest_28 rfl (lv_at hl 0 rfl) ?_
      obtain ⟨mU_2, mJ_3, hg, hf⟩ := zB2_el hf
      refine zCVv (As := []) (rest := []) (wr := ([] : va_W)) (wn := (kX10 cI cB bV (bP 0) (bS 0) (bW 0) (bN 0) (bO 0) mZ_1 mY mB mL mU_2 mJ_3 mK mG mA ++ kX8 cI cB bP mP)) C.1 hK hA hP hD hS [0, 1, 2, 3, 4, 5, 6, 7, 8, 9, 10, 11, 12, 13, 14, 15, 16, 17, 18, 19, 20, 21, 22, 23, 24] [] [0, 1, 2, 3, 4, 5, 6, 7, 8, 9, 10, 11, 12, 13, 14, 15, 16, 17, 18, 19, 20, 21, 22, 23, 24] 0 (mtX10_needs l dC dI cI cB bV bP bS bW bN bO H.size NN mZ_1 mY mB mL mU mJ mK mG mA mP hg) (zCwV 0 C.1 wlX10_296 wiX10_needs ws_X10_needs wnX10 wkX10_needs rfl rfl (by decide +kernel) ⟨Nat.le_of_ble_eq_true rfl, Nat.le_of_ble_eq_true rfl⟩) rfl rfl (by decide +kernel) rfl rfl rfl rfl hl.1 (Nat.le_of_ble_eq_true rfl) dX10_fewest_29 ⟨Nat.zero_le _, Nat.zero_le _⟩ rfl (fun H locs hP hD hS => ?_)
      refine lv_bipush (v := (-2)) C.1.1 C.1.2.1 dX10_fewest_32 (by decide) ?_
      refine lv_istore_n (lv' := [(2, .int (-2 : Int32)), (0, .ref (bV 0)), (1, .int p1)]) C.1.1 C.1.2.1 dX10_fewest_34 rfl hl (by decide) rfl (fun ls hl => ?_)
      refine lv_iconst (v := 0) C.1.1 C.1.2.1 dX10_fewest_35 (by decide) ?_
      refine lv_istore_n (lv' := [(3, .int (0 : Int32)), (2, .int (-2 : Int32)), (0, .ref (bV 0)), (1, .int p1)]) C.1.1 C.1.2.1 dX10_fewest_36 rfl hl (by decide) rfl (fun ls hl => ?_)
      obtain ⟨J93_6, eJ93_6, hf⟩ := zJn_el hf
      have hJ93_6 : ∀ (x4 : Int32) (mK_5 : Rc), J93_6 x4 mK_5 = some (ov, mZ', mU', mJ', mK') → ∀ (H : Heap) (locs : List Loc), va_P (dC, dI) vwCl (kX10 cI cB bV (bP 0) (bS 0) (bW 0) (bN 0) (bO 0) mZ_1 mY mB mL mU_2 mJ_3 mK_5 mG mA ++ kX8 cI cB bP mP) H → va_D A (kX10 cI cB bV (bP 0) (bS 0) (bW 0) (bN 0) (bO 0) mZ_1 mY mB mL mU_2 mJ_3 mK_5 mG mA ++ kX8 cI cB bP mP) → va_S A s.heap H locs → ∀ (ls : Array Slot), lv_has ls 5 [(0, .ref (bV 0)), (2, .int x4)] → W p l e rX10_fewest s m args below meth c H locs 0 0 QQ (F0 m 93 ls []) := by
        intro x4 mK_5 hf H locs hP hD hS ls hl
        rw [eJ93_6] at hf
        refine lv_aload_n C.1.1 C.1.2.1 dX10_fewest_93 rfl (lv_at hl 0 rfl) ?_
        refine lv_iload_n C.1.1 C.1.2.1 dX10_fewest_94 rfl (lv_at hl 1 rfl) ?_
        obtain ⟨v7, mZ_8, hg, hf⟩ := zB2_el hf
        refine zCVi (As := [.int x4]) (rest := []) (wr := (kX8 cI cB bP mP)) (wn := (kX10 cI cB bV (bP 0) (bS 0) (bW 0) (bN 0) (bO 0) mZ_8 mY mB mL mU_2 mJ_3 mK_5 mG mA ++ kX8 cI cB bP mP)) C.1 hK hA hP hD hS [0, 1, 2, 3, 4, 5, 6, 7, 8, 9, 10, 11, 12, 13] [14, 15, 16, 17, 18, 19, 20, 21, 22, 23, 24] [11, 12, 13, 14, 15, 16, 17, 18, 19, 20, 21, 22, 23, 24, 0, 1, 2, 3, 4, 5, 6, 7, 8, 9, 10] 0 (mtX10_done l dC dI cI cB bV bP bS bW bN bO H.size mZ_1 mY mB mL mU_2 mJ_3 mK_5 mG mA x4 hg) (zCwV 1 C.1 wlX10_233 wiX10_done ws_X10_done wnX10 wkX10_done rfl rfl (by decide +kernel) ⟨Nat.le_of_ble_eq_true rfl, Nat.le_of_ble_eq_true rfl⟩) rfl rfl (by decide +kernel) rfl rfl rfl rfl hl.1 (Nat.le_of_ble_eq_true rfl) dX10_fewest_95 ⟨Nat.zero_le _, Nat.zero_le _⟩ rfl (fun H locs hP hD hS => ?_)
        cases hf
        rw [← hQ]
        exact zRi C hK hP hD hS dX10_fewest_98
      refine zLp3_ind (o := (ov, mZ', mU', mJ', mK')) (P := fun (x9 : Int32) (x10 : Int32) (mK_11 : Rc) => ∀ (H : Heap) (locs : List Loc), va_P (dC, dI) vwCl (kX10 cI cB bV (bP 0) (bS 0) (bW 0) (bN 0) (bO 0) mZ_1 mY mB mL mU_2 mJ_3 mK_11 mG mA ++ kX8 cI cB bP mP) H → va_D A (kX10 cI cB bV (bP 0) (bS 0) (bW 0) (bN 0) (bO 0) mZ_1 mY mB mL mU_2 mJ_3 mK_11 mG mA ++ kX8 cI cB bP mP) → va_S A s.heap H locs → ∀ (ls : Array Slot), lv_has ls 5 [(0, .ref (bV 0)), (1, .int p1), (2, .int x9), (3, .int x10)] → W p l e rX10_fewest s m args below meth c H locs 0 0 QQ (F0 m 37 ls [])) (fun go12 ihgo12 x9 x10 mK_11 hf H locs hP hD hS ls hl => ?_) _ (-2 : Int32) (0 : Int32) mK hf H locs hP hD hS ls (lv_sub hl [2, 3, 1, 0] rfl)
      refine lv_iload_n C.1.1 C.1.2.1 dX10_fewest_37 rfl (lv_at hl 3 rfl) ?_
      refine lv_iconst (v := 1) C.1.1 C.1.2.1 dX10_fewest_38 (by decide) ?_
      refine lv_aload_n C.1.1 C.1.2.1 dX10_fewest_39 rfl (lv_at hl 0 rfl) ?_
      refine zGet (.ref (bP 0)) C.1 wuX10 hK hP 0 rfl rfl 7 (by decide) wfX10_25 rfl rfl dX10_fewest_40 ?_
      refine zGetN (.int (mP 0 0)) C.1 wuX8 hK hP 14 rfl rfl 0 (by decide) nfX10_146 rfl rfl dX10_fewest_43 ?_
      refine lv_ishl C.1.1 C.1.2.1 dX10_fewest_46 ?_
      refine lv_icmp_ge (tgt := 93) C.1.1 C.1.2.1 dX10_fewest_47 (by decide) (fun hc => ?_) (fun hc => ?_)
      · replace hf := zIf_t hf hc
        exact hJ93_6 x9 mK_11 hf H locs hP hD hS ls (lv_sub hl [0, 2] rfl)
      · replace hf := zIf_f hf hc
        refine lv_aload_n C.1.1 C.1.2.1 dX10_fewest_50 rfl (lv_at hl 0 rfl) ?_
        refine lv_iload_n C.1.1 C.1.2.1 dX10_fewest_51 rfl (lv_at hl 3 rfl) ?_
        obtain ⟨v13, mK_14, hg, hf⟩ := zB2_el hf
        refine zCVi (As := [.int x10]) (rest := []) (wr := ([] : va_W)) (wn := (kX10 cI cB bV (bP 0) (bS 0) (bW 0) (bN 0) (bO 0) mZ_1 mY mB mL mU_2 mJ_3 mK_14 mG mA ++ kX8 cI cB bP mP)) C.1 hK hA hP hD hS [0, 1, 2, 3, 4, 5, 6, 7, 8, 9, 10, 11, 12, 13, 14, 15, 16, 17, 18, 19, 20, 21, 22, 23, 24] [] [0, 1, 2, 3, 4, 5, 6, 7, 8, 9, 10, 11, 12, 13, 14, 15, 16, 17, 18, 19, 20, 21, 22, 23, 24] 0 (mtX10_ticksOf l dC dI cI cB bV bP bS bW bN bO H.size NN mZ_1 mY mB mL mU_2 mJ_3 mK_11 mG mA mP x10 hg) (zCwV 1 C.1 wlX10_299 wiX10_ticksOf ws_X10_ticksOf wnX10 wkX10_ticksOf rfl rfl (by decide +kernel) ⟨Nat.le_of_ble_eq_true rfl, Nat.le_of_ble_eq_true rfl⟩) rfl rfl (by decide +kernel) rfl rfl rfl rfl hl.1 (Nat.le_of_ble_eq_true rfl) dX10_fewest_52 ⟨Nat.zero_le _, Nat.zero_le _⟩ rfl (fun H locs hP hD hS => ?_)
        refine lv_iload_n C.1.1 C.1.2.1 dX10_fewest_55 rfl (lv_at hl 1 rfl) ?_
        refine lv_icmp_le (tgt := 62) C.1.1 C.1.2.1 dX10_fewest_56 (by decide) (fun hc => ?_) (fun hc => ?_)
        · replace hf := zIf_t hf hc
          refine lv_aload_n C.1.1 C.1.2.1 dX10_fewest_62 rfl (lv_at hl 0 rfl) ?_
          refine lv_iload_n C.1.1 C.1.2.1 dX10_fewest_63 rfl (lv_at hl 3 rfl) ?_
          obtain ⟨v15, hg, hf⟩ := zB1_el hf
          refine zCVi (As := [.int x10]) (rest := []) (wr := ([] : va_W)) (wn := (kX10 cI cB bV (bP 0) (bS 0) (bW 0) (bN 0) (bO 0) mZ_1 mY mB mL mU_2 mJ_3 mK_14 mG mA ++ kX8 cI cB bP mP)) C.1 hK hA hP hD hS [0, 1, 2, 3, 4, 5, 6, 7, 8, 9, 10, 11, 12, 13, 14, 15, 16, 17, 18, 19, 20, 21, 22, 23, 24] [] [0, 1, 2, 3, 4, 5, 6, 7, 8, 9, 10, 11, 12, 13, 14, 15, 16, 17, 18, 19, 20, 21, 22, 23, 24] 0 (mtX10_gatesOfCut l dC dI cI cB bV bP bS bW bN bO H.size NN mZ_1 mY mB mL mU_2 mJ_3 mK_14 mG mA mP x10 hg) (zCwV 1 C.1 wlX10_302 wiX10_gatesOfCut ws_X10_gatesOfCut wnX10 wkX10_gatesOfCut rfl rfl (by decide +kernel) ⟨Nat.le_of_ble_eq_true rfl, Nat.le_of_ble_eq_true rfl⟩) rfl rfl (by decide +kernel) rfl rfl rfl rfl hl.1 (Nat.le_of_ble_eq_true rfl) dX10_fewest_64 ⟨Nat.zero_le _, Nat.zero_le _⟩ rfl (fun H locs hP hD hS => ?_)
          refine lv_istore (lv' := [(4, .int v15), (0, .ref (bV 0)), (1, .int p1), (2, .int x9), (3, .int x10)]) C.1.1 C.1.2.1 dX10_fewest_67 hl (by decide) rfl (fun ls hl => ?_)
          refine lv_iload_n C.1.1 C.1.2.1 dX10_fewest_69 rfl (lv_at hl 3 rfl) ?_
          refine lv_bipush (v := (-2)) C.1.1 C.1.2.1 dX10_fewest_70 (by decide) ?_
          refine lv_icmp_ne (tgt := 80) C.1.1 C.1.2.1 dX10_fewest_72 (by decide) (fun hc => ?_) (fun hc => ?_)
          · replace hf := zIf_f hf hc
            refine lv_iload_n C.1.1 C.1.2.1 dX10_fewest_80 rfl (lv_at hl 3 rfl) ?_
            refine lv_iload C.1.1 C.1.2.1 dX10_fewest_81 (lv_at hl 0 rfl) ?_
            refine va_mmin C.1.1 C.1.2.1 (C.1.2.2.1.trans hl.1.symm) C.1.2.2.2.1 (C.1.2.2.2.2 _ wlX10_306) (C.1.2.2.2.2 _ wtJ9_min_7cf53) (C.1.2.2.2.2 _ wnJ9) (C.1.2.2.2.2 _ wkJ9_min_7cf53) (Nat.le_of_ble_eq_true rfl) (Nat.le_of_ble_eq_true rfl) (Nat.zero_le _) (Nat.zero_le _) dX10_fewest_83 ?_
            refine lv_topi (fun x16 ex16 => ?_)
            replace hf := zLet_at hf ex16
            refine lv_istore_n (lv' := [(2, .int x16), (4, .int v15), (0, .ref (bV 0)), (1, .int p1), (3, .int x10)]) C.1.1 C.1.2.1 dX10_fewest_86 rfl hl (by decide) rfl (fun ls hl => ?_)
            obtain ⟨x17, ex17, hf⟩ := zLet_el hf
            refine lv_iinc (v := x17) (lv' := [(3, .int x17), (2, .int x16), (4, .int v15), (0, .ref (bV 0)), (1, .int p1)]) C.1.1 C.1.2.1 dX10_fewest_87 hl (k := 4) rfl (by rw [ex17]; rfl) (by decide) rfl (fun ls hl => ?_)
            refine lv_goto (tgt := 37) C.1.1 C.1.2.1 dX10_fewest_90 (by decide) ?_
            exact ihgo12 x16 x17 mK_14 hf H locs hP hD hS ls (lv_sub hl [3, 4, 1, 0] rfl)
          · replace hf := zIf_t hf hc
            refine lv_iload C.1.1 C.1.2.1 dX10_fewest_75 (lv_at hl 0 rfl) ?_
            refine lv_goto (tgt := 86) C.1.1 C.1.2.1 dX10_fewest_77 (by decide) ?_
            refine lv_istore_n (lv' := [(2, .int v15), (4, .int v15), (0, .ref (bV 0)), (1, .int p1), (3, .int x10)]) C.1.1 C.1.2.1 dX10_fewest_86 rfl hl (by decide) rfl (fun ls hl => ?_)
            obtain ⟨x18, ex18, hf⟩ := zLet_el hf
            refine lv_iinc (v := x18) (lv' := [(3, .int x18), (2, .int v15), (4, .int v15), (0, .ref (bV 0)), (1, .int p1)]) C.1.1 C.1.2.1 dX10_fewest_87 hl (k := 4) rfl (by rw [ex18]; rfl) (by decide) rfl (fun ls hl => ?_)
            refine lv_goto (tgt := 37) C.1.1 C.1.2.1 dX10_fewest_90 (by decide) ?_
            exact ihgo12 v15 x18 mK_14 hf H locs hP hD hS ls (lv_sub hl [3, 4, 1, 0] rfl)
        · replace hf := zIf_f hf hc
          refine lv_goto (tgt := 87) C.1.1 C.1.2.1 dX10_fewest_59 (by decide) ?_
          obtain ⟨x19, ex19, hf⟩ := zLet_el hf
          refine lv_iinc (v := x19) (lv' := [(3, .int x19), (0, .ref (bV 0)), (1, .int p1), (2, .int x9)]) C.1.1 C.1.2.1 dX10_fewest_87 hl (k := 3) rfl (by rw [ex19]; rfl) (by decide) rfl (fun ls hl => ?_)
          refine lv_goto (tgt := 37) C.1.1 C.1.2.1 dX10_fewest_90 (by decide) ?_
          exact ihgo12 x9 x19 mK_14 hf H locs hP hD hS ls (lv_sub hl [1, 2, 3, 0] rfl)
    · replace hf := zIf_f hf hc
      refine lv_aload_n C.1.1 C.1.2.1 dX10_fewest_22 rfl (lv_at hl 0 rfl) ?_
      refine lv_iconst (v := 2) C.1.1 C.1.2.1 dX10_fewest_23 (by decide) ?_
      obtain ⟨v20, mZ_21, hg, hf⟩ := zB2_el hf
      refine zCVi (As := [.int (2 : Int32)]) (rest := []) (wr := (kX8 cI cB bP mP)) (wn := (kX10 cI cB bV (bP 0) (bS 0) (bW 0) (bN 0) (bO 0) mZ_21 mY mB mL mU mJ mK mG mA ++ kX8 cI cB bP mP)) C.1 hK hA hP hD hS [0, 1, 2, 3, 4, 5, 6, 7, 8, 9, 10, 11, 12, 13] [14, 15, 16, 17, 18, 19, 20, 21, 22, 23, 24] [11, 12, 13, 14, 15, 16, 17, 18, 19, 20, 21, 22, 23, 24, 0, 1, 2, 3, 4, 5, 6, 7, 8, 9, 10] 0 (mtX10_refused l dC dI cI cB bV bP bS bW bN bO H.size mZ_1 mY mB mL mU mJ mK mG mA (2 : Int32) hg) (zCwV 1 C.1 wlX10_221 wiX10_refused ws_X10_refused wnX10 wkX10_refused rfl rfl (by decide +kernel) ⟨Nat.le_of_ble_eq_true rfl, Nat.le_of_ble_eq_true rfl⟩) rfl rfl (by decide +kernel) rfl rfl rfl rfl hl.1 (Nat.le_of_ble_eq_true rfl) dX10_fewest_24 ⟨Nat.zero_le _, Nat.zero_le _⟩ rfl (fun H locs hP hD hS => ?_)
      cases hf
      rw [← hQ]
      exact zRi C hK hP hD hS dX10_fewest_27
  · replace hf := zIf_t hf hc
    refine lv_aload_n C.1.1 C.1.2.1 dX10_fewest_12 rfl (lv_at hl 0 rfl) ?_
    refine lv_iconst (v := 4) C.1.1 C.1.2.1 dX10_fewest_13 (by decide) ?_
    obtain ⟨v22, mZ_23, hg, hf⟩ := zB2_el hf
    refine zCVi (As := [.int (4 : Int32)]) (rest := []) (wr := (kX8 cI cB bP mP)) (wn := (kX10 cI cB bV (bP 0) (bS 0) (bW 0) (bN 0) (bO 0) mZ_23 mY mB mL mU mJ mK mG mA ++ kX8 cI cB bP mP)) C.1 hK hA hP hD hS [0, 1, 2, 3, 4, 5, 6, 7, 8, 9, 10, 11, 12, 13] [14, 15, 16, 17, 18, 19, 20, 21, 22, 23, 24] [11, 12, 13, 14, 15, 16, 17, 18, 19, 20, 21, 22, 23, 24, 0, 1, 2, 3, 4, 5, 6, 7, 8, 9, 10] 0 (mtX10_refused l dC dI cI cB bV bP bS bW bN bO H.size mZ_1 mY mB mL mU mJ mK mG mA (4 : Int32) hg) (zCwV 1 C.1 wlX10_221 wiX10_refused ws_X10_refused wnX10 wkX10_refused rfl rfl (by decide +kernel) ⟨Nat.le_of_ble_eq_true rfl, Nat.le_of_ble_eq_true rfl⟩) rfl rfl (by decide +kernel) rfl rfl rfl rfl hl.1 (Nat.le_of_ble_eq_true rfl) dX10_fewest_14 ⟨Nat.zero_le _, Nat.zero_le _⟩ rfl (fun H locs hP hD hS => ?_)
    cases hf
    rw [← hQ]
    exact zRi C hK hP hD hS dX10_fewest_17
def fX10_turn (NN : Nat) (mZ : Rc) (mY : Rc) (mU : Rc) (mJ : Rc) (mK : Rc) (mP : Rc) (p1 : Int32) (p2 : Int32) : Option (Int32 × Rc × Rc × Rc × Rc) :=
  zLet (rs mZ 0 (fun _ => (0 : Int32))) fun mZ_1 =>
  zB1 (fX10_asked mY mP p1) fun v2 =>
  zJn (fun (t3 : Int32) =>
      if t3 ≤ 0 then (
        zB2 (fX10_needs NN mY mU mJ mP) fun mU_5 mJ_6 =>
        zB2 (fX10_ticksOf NN mY mJ_6 mK mP p1) fun v7 mK_8 =>
        zB2 (fX10_ticksOf NN mY mJ_6 mK_8 mP (p1 ^^^ ((1 : Int32) <<< (p2 &&& 31)))) fun v9 mK_10 =>
        zB2 (fX10_done mZ_1 (v9 - v7)) fun v11 mZ_12 =>
        some (v11, mZ_12, mU_5, mJ_6, mK_10)
      ) else (
        zB2 (fX10_refused mZ_1 t3) fun v13 mZ_14 =>
        some ((-2147483648 : Int32), mZ_14, mU, mJ, mK)
      )
    ) fun J34_4 =>
  if v2 ≤ 0 then (
    zB1 (fX10_isBlock mY mP p2) fun v15 =>
    if v15 = 0 then (
      J34_4 (1 : Int32)
    ) else (
      J34_4 (0 : Int32)
    )
  ) else (
    zB1 (fX10_asked mY mP p1) fun v16 =>
    J34_4 v16
  )
abbrev rX10_turn : Room := { frames := 5, cells := 0, slots := 0, locals := 121 }
set_option maxHeartbeats 4000000 in
set_option maxRecDepth 100000 in
theorem mtX10_turn (l : Launch) (dC : Nat → ClassId) (dI : Nat → Nat → Nat) (cI cB : ClassId) (bV bP bS bW bN bO : Nat → Nat) (sz : Nat) (NN : Nat) (mZ : Rc) (mY : Rc) (mB : Rc) (mL : Rc) (mU : Rc) (mJ : Rc) (mK : Rc) (mG : Rc) (mA : Rc) (mP : Rc) (p1 : Int32) (p2 : Int32) {ov : Int32} {mZ' : Rc} {mU' : Rc} {mJ' : Rc} {mK' : Rc} (hf : fX10_turn NN mZ mY mU mJ mK mP p1 p2 = some (ov, mZ', mU', mJ', mK')) : zMi l yX10_turn (Cond.code yX10_turn cX10_turn 5 (some .int) :: lw_g) rX10_turn (dC, dI) [(cI, .int), (cB, .byte)] [.ref (bV 0), .int p1, .int p2] sz (kX10 cI cB bV (bP 0) (bS 0) (bW 0) (bN 0) (bO 0) mZ mY mB mL mU mJ mK mG mA ++ kX8 cI cB bP mP) ov (kX10 cI cB bV (bP 0) (bS 0) (bW 0) (bN 0) (bO 0) mZ' mY mB mL mU' mJ' mK' mG mA ++ kX8 cI cB bP mP) := by
  refine zSt (cc := cX10_turn) (maxL := 5) (ret := (some .int)) (own := RX10) (fun A => zQi (dC, dI) [(cI, .int), (cB, .byte)] A ov (kX10 cI cB bV (bP 0) (bS 0) (bW 0) (bN 0) (bO 0) mZ' mY mB mL mU' mJ' mK' mG mA ++ kX8 cI cB bP mP)) (by decide) rfl rfl (Nat.le_of_ble_eq_true rfl) ?_
  intro p e s m below meth c ls A H locs C hK hA hP hD hS hl
  generalize hQ : MQ below (zQi (dC, dI) [(cI, .int), (cB, .byte)] A ov (kX10 cI cB bV (bP 0) (bS 0) (bW 0) (bN 0) (bO 0) mZ' mY mB mL mU' mJ' mK' mG mA ++ kX8 cI cB bP mP)) _ s 0 0 A = QQ
  generalize ([.ref (bV 0), .int p1, .int p2] : List Value).toArray = args at C hQ ⊢
  have hl : lv_has ls 5 [(0, .ref (bV 0)), (1, .int p1), (2, .int p2)] := hl
  unfold fX10_turn at hf
  refine lv_aload_n C.1.1 C.1.2.1 dX10_turn_0 rfl (lv_at hl 0 rfl) ?_
  refine lv_iconst (v := 0) C.1.1 C.1.2.1 dX10_turn_1 (by decide) ?_
  obtain ⟨mZ_1, emZ_1, hf⟩ := zLet_el hf
  refine zPut (ty := .int) (kX10 cI cB bV (bP 0) (bS 0) (bW 0) (bN 0) (bO 0) mZ_1 mY mB mL mU mJ mK mG mA ++ kX8 cI cB bP mP) C.1 wuX10 tyX10 tyX10_ok nmX10 hK hP hD hS 0 rfl rfl 0 (by decide) wfX10_86 rfl rfl (by decide +kernel) rfl rfl (Nat.le_of_ble_eq_true rfl) dX10_turn_2 (by rw [emZ_1]; rfl) (fun H locs hP hD hS => ?_)
  refine lv_aload_n C.1.1 C.1.2.1 dX10_turn_5 rfl (lv_at hl 0 rfl) ?_
  refine lv_iload_n C.1.1 C.1.2.1 dX10_turn_6 rfl (lv_at hl 1 rfl) ?_
  obtain ⟨v2, hg, hf⟩ := zB1_el hf
  refine zCVi (As := [.int p1]) (rest := []) (wr := ([] : va_W)) (wn := (kX10 cI cB bV (bP 0) (bS 0) (bW 0) (bN 0) (bO 0) mZ_1 mY mB mL mU mJ mK mG mA ++ kX8 cI cB bP mP)) C.1 hK hA hP hD hS [0, 1, 2, 3, 4, 5, 6, 7, 8, 9, 10, 11, 12, 13, 14, 15, 16, 17, 18, 19, 20, 21, 22, 23, 24] [] [0, 1, 2, 3, 4, 5, 6, 7, 8, 9, 10, 11, 12, 13, 14, 15, 16, 17, 18, 19, 20, 21, 22, 23, 24] 0 (mtX10_asked l dC dI cI cB bV bP bS bW bN bO H.size mZ_1 mY mB mL mU mJ mK mG mA mP p1 hg) (zCwV 1 C.1 wlX10_293 wiX10_asked ws_X10_asked wnX10 wkX10_asked rfl rfl (by decide +kernel) ⟨Nat.le_of_ble_eq_true rfl, Nat.le_of_ble_eq_true rfl⟩) rfl rfl (by decide +kernel) rfl rfl rfl rfl hl.1 (Nat.le_of_ble_eq_true rfl) dX10_turn_7 ⟨Nat.zero_le _, Nat.zero_le _⟩ rfl (fun H locs hP hD hS => ?_)
  obtain ⟨J34_4, eJ34_4, hf⟩ := zJn_el hf
  have hJ34_4 : ∀ (t3 : Int32), J34_4 t3 = some (ov, mZ', mU', mJ', mK') → ∀ (H : Heap) (locs : List Loc), va_P (dC, dI) vwCl (kX10 cI cB bV (bP 0) (bS 0) (bW 0) (bN 0) (bO 0) mZ_1 mY mB mL mU mJ mK mG mA ++ kX8 cI cB bP mP) H → va_D A (kX10 cI cB bV (bP 0) (bS 0) (bW 0) (bN 0) (bO 0) mZ_1 mY mB mL mU mJ mK mG mA ++ kX8 cI cB bP mP) → va_S A s.heap H locs → ∀ (ls : Array Slot), lv_has ls 5 [(0, .ref (bV 0)), (1, .int p1), (2, .int p2)] → W p l e rX10_turn s m args below meth c H locs 0 0 QQ (F0 m 34 ls [.int t3]) := by
    intro t3 hf H locs hP hD hS ls hl
    rw [eJ34_4] at hf
    refine lv_istore_n (lv' := [(3, .int t3), (0, .ref (bV 0)), (1, .int p1), (2, .int p2)]) C.1.1 C.1.2.1 dX10_turn_34 rfl hl (by decide) rfl (fun ls hl => ?_)
    refine lv_iload_n C.1.1 C.1.2.1 dX10_turn_35 rfl (lv_at hl 0 rfl) ?_
    refine lv_if_le (tgt := 50) C.1.1 C.1.2.1 dX10_turn_36 (by decide) (fun hc => ?_) (fun hc => ?_)
    · replace hf := zIf_t hf hc
      refine lv_aload_n C.1.1 C.1.2.1 dX10_turn_50 rfl (lv_at hl 1 rfl) ?_
      obtain ⟨mU_5, mJ_6, hg, hf⟩ := zB2_el hf
      refine zCVv (As := []) (rest := []) (wr := ([] : va_W)) (wn := (kX10 cI cB bV (bP 0) (bS 0) (bW 0) (bN 0) (bO 0) mZ_1 mY mB mL mU_5 mJ_6 mK mG mA ++ kX8 cI cB bP mP)) C.1 hK hA hP hD hS [0, 1, 2, 3, 4, 5, 6, 7, 8, 9, 10, 11, 12, 13, 14, 15, 16, 17, 18, 19, 20, 21, 22, 23, 24] [] [0, 1, 2, 3, 4, 5, 6, 7, 8, 9, 10, 11, 12, 13, 14, 15, 16, 17, 18, 19, 20, 21, 22, 23, 24] 0 (mtX10_needs l dC dI cI cB bV bP bS bW bN bO H.size NN mZ_1 mY mB mL mU mJ mK mG mA mP hg) (zCwV 0 C.1 wlX10_296 wiX10_needs ws_X10_needs wnX10 wkX10_needs rfl rfl (by decide +kernel) ⟨Nat.le_of_ble_eq_true rfl, Nat.le_of_ble_eq_true rfl⟩) rfl rfl (by decide +kernel) rfl rfl rfl rfl hl.1 (Nat.le_of_ble_eq_true rfl) dX10_turn_51 ⟨Nat.zero_le _, Nat.zero_le _⟩ rfl (fun H locs hP hD hS => ?_)
      refine lv_aload_n C.1.1 C.1.2.1 dX10_turn_54 rfl (lv_at hl 1 rfl) ?_
      refine lv_iload_n C.1.1 C.1.2.1 dX10_turn_55 rfl (lv_at hl 2 rfl) ?_
      obtain ⟨v7, mK_8, hg, hf⟩ := zB2_el hf
      refine zCVi (As := [.int p1]) (rest := []) (wr := ([] : va_W)) (wn := (kX10 cI cB bV (bP 0) (bS 0) (bW 0) (bN 0) (bO 0) mZ_1 mY mB mL mU_5 mJ_6 mK_8 mG mA ++ kX8 cI cB bP mP)) C.1 hK hA hP hD hS [0, 1, 2, 3, 4, 5, 6, 7, 8, 9, 10, 11, 12, 13, 14, 15, 16, 17, 18, 19, 20, 21, 22, 23, 24] [] [0, 1, 2, 3, 4, 5, 6, 7, 8, 9, 10, 11, 12, 13, 14, 15, 16, 17, 18, 19, 20, 21, 22, 23, 24] 0 (mtX10_ticksOf l dC dI cI cB bV bP bS bW bN bO H.size NN mZ_1 mY mB mL mU_5 mJ_6 mK mG mA mP p1 hg) (zCwV 1 C.1 wlX10_299 wiX10_ticksOf ws_X10_ticksOf wnX10 wkX10_ticksOf rfl rfl (by decide +kernel) ⟨Nat.le_of_ble_eq_true rfl, Nat.le_of_ble_eq_true rfl⟩) rfl rfl (by decide +kernel) rfl rfl rfl rfl hl.1 (Nat.le_of_ble_eq_true rfl) dX10_turn_56 ⟨Nat.zero_le _, Nat.zero_le _⟩ rfl (fun H locs hP hD hS => ?_)
      refine lv_istore (lv' := [(4, .int v7), (3, .int t3), (0, .ref (bV 0)), (1, .int p1), (2, .int p2)]) C.1.1 C.1.2.1 dX10_turn_59 hl (by decide) rfl (fun ls hl => ?_)
      refine lv_aload_n C.1.1 C.1.2.1 dX10_turn_61 rfl (lv_at hl 2 rfl) ?_
      refine lv_aload_n C.1.1 C.1.2.1 dX10_turn_62 rfl (lv_at hl 2 rfl) ?_
      refine lv_iload_n C.1.1 C.1.2.1 dX10_turn_63 rfl (lv_at hl 3 rfl) ?_
      refine lv_iconst (v := 1) C.1.1 C.1.2.1 dX10_turn_64 (by decide) ?_
      refine lv_iload_n C.1.1 C.1.2.1 dX10_turn_65 rfl (lv_at hl 4 rfl) ?_
      refine lv_ishl C.1.1 C.1.2.1 dX10_turn_66 ?_
      refine lv_ixor C.1.1 C.1.2.1 dX10_turn_67 ?_
      obtain ⟨v9, mK_10, hg, hf⟩ := zB2_el hf
      refine zCVi (As := [.int (p1 ^^^ ((1 : Int32) <<< (p2 &&& 31)))]) (rest := [.ref (bV 0)]) (wr := ([] : va_W)) (wn := (kX10 cI cB bV (bP 0) (bS 0) (bW 0) (bN 0) (bO 0) mZ_1 mY mB mL mU_5 mJ_6 mK_10 mG mA ++ kX8 cI cB bP mP)) C.1 hK hA hP hD hS [0, 1, 2, 3, 4, 5, 6, 7, 8, 9, 10, 11, 12, 13, 14, 15, 16, 17, 18, 19, 20, 21, 22, 23, 24] [] [0, 1, 2, 3, 4, 5, 6, 7, 8, 9, 10, 11, 12, 13, 14, 15, 16, 17, 18, 19, 20, 21, 22, 23, 24] 0 (mtX10_ticksOf l dC dI cI cB bV bP bS bW bN bO H.size NN mZ_1 mY mB mL mU_5 mJ_6 mK_8 mG mA mP (p1 ^^^ ((1 : Int32) <<< (p2 &&& 31))) hg) (zCwV 1 C.1 wlX10_299 wiX10_ticksOf ws_X10_ticksOf wnX10 wkX10_ticksOf rfl rfl (by decide +kernel) ⟨Nat.le_of_ble_eq_true rfl, Nat.le_of_ble_eq_true rfl⟩) rfl rfl (by decide +kernel) rfl rfl rfl rfl hl.1 (Nat.le_of_ble_eq_true rfl) dX10_turn_68 ⟨Nat.zero_le _, Nat.zero_le _⟩ rfl (fun H locs hP hD hS => ?_)
      refine lv_iload C.1.1 C.1.2.1 dX10_turn_71 (lv_at hl 0 rfl) ?_
      refine lv_isub C.1.1 C.1.2.1 dX10_turn_73 ?_
      obtain ⟨v11, mZ_12, hg, hf⟩ := zB2_el hf
      refine zCVi (As := [.int (v9 - v7)]) (rest := []) (wr := (kX8 cI cB bP mP)) (wn := (kX10 cI cB bV (bP 0) (bS 0) (bW 0) (bN 0) (bO 0) mZ_12 mY mB mL mU_5 mJ_6 mK_10 mG mA ++ kX8 cI cB bP mP)) C.1 hK hA hP hD hS [0, 1, 2, 3, 4, 5, 6, 7, 8, 9, 10, 11, 12, 13] [14, 15, 16, 17, 18, 19, 20, 21, 22, 23, 24] [11, 12, 13, 14, 15, 16, 17, 18, 19, 20, 21, 22, 23, 24, 0, 1, 2, 3, 4, 5, 6, 7, 8, 9, 10] 0 (mtX10_done l dC dI cI cB bV bP bS bW bN bO H.size mZ_1 mY mB mL mU_5 mJ_6 mK_10 mG mA (v9 - v7) hg) (zCwV 1 C.1 wlX10_233 wiX10_done ws_X10_done wnX10 wkX10_done rfl rfl (by decide +kernel) ⟨Nat.le_of_ble_eq_true rfl, Nat.le_of_ble_eq_true rfl⟩) rfl rfl (by decide +kernel) rfl rfl rfl rfl hl.1 (Nat.le_of_ble_eq_true rfl) dX10_turn_74 ⟨Nat.zero_le _, Nat.zero_le _⟩ rfl (fun H locs hP hD hS => ?_)
      cases hf
      rw [← hQ]
      exact zRi C hK hP hD hS dX10_turn_77
    · replace hf := zIf_f hf hc
      refine lv_aload_n C.1.1 C.1.2.1 dX10_turn_39 rfl (lv_at hl 1 rfl) ?_
      refine lv_iload_n C.1.1 C.1.2.1 dX10_turn_40 rfl (lv_at hl 0 rfl) ?_
      obtain ⟨v13, mZ_14, hg, hf⟩ := zB2_el hf
      refine zCVi (As := [.int t3]) (rest := []) (wr := (kX8 cI cB bP mP)) (wn := (kX10 cI cB bV (bP 0) (bS 0) (bW 0) (bN 0) (bO 0) mZ_14 mY mB mL mU mJ mK mG mA ++ kX8 cI cB bP mP)) C.1 hK hA hP hD hS [0, 1, 2, 3, 4, 5, 6, 7, 8, 9, 10, 11, 12, 13] [14, 15, 16, 17, 18, 19, 20, 21, 22, 23, 24] [11, 12, 13, 14, 15, 16, 17, 18, 19, 20, 21, 22, 23, 24, 0, 1, 2, 3, 4, 5, 6, 7, 8, 9, 10] 0 (mtX10_refused l dC dI cI cB bV bP bS bW bN bO H.size mZ_1 mY mB mL mU mJ mK mG mA t3 hg) (zCwV 1 C.1 wlX10_221 wiX10_refused ws_X10_refused wnX10 wkX10_refused rfl rfl (by decide +kernel) ⟨Nat.le_of_ble_eq_true rfl, Nat.le_of_ble_eq_true rfl⟩) rfl rfl (by decide +kernel) rfl rfl rfl rfl hl.1 (Nat.le_of_ble_eq_true rfl) dX10_turn_41 ⟨Nat.zero_le _, Nat.zero_le _⟩ rfl (fun H locs hP hD hS => ?_)
      refine lv_istore (lv' := [(4, .int v13), (3, .int t3), (0, .ref (bV 0)), (1, .int p1), (2, .int p2)]) C.1.1 C.1.2.1 dX10_turn_44 hl (by decide) rfl (fun ls hl => ?_)
      refine lv_ldcw C.1.1 C.1.2.1 C.1.2.2.2.1 (C.1.2.2.2.2 _ wcX10_311) dX10_turn_46 ?_
      cases hf
      rw [← hQ]
      exact zRi C hK hP hD hS dX10_turn_49
  refine lv_if_le (tgt := 21) C.1.1 C.1.2.1 dX10_turn_10 (by decide) (fun hc => ?_) (fun hc => ?_)
  · replace hf := zIf_t hf hc
    refine lv_aload_n C.1.1 C.1.2.1 dX10_turn_21 rfl (lv_at hl 0 rfl) ?_
    refine lv_iload_n C.1.1 C.1.2.1 dX10_turn_22 rfl (lv_at hl 2 rfl) ?_
    obtain ⟨v15, hg, hf⟩ := zB1_el hf
    refine zCVi (As := [.int p2]) (rest := []) (wr := ([] : va_W)) (wn := (kX10 cI cB bV (bP 0) (bS 0) (bW 0) (bN 0) (bO 0) mZ_1 mY mB mL mU mJ mK mG mA ++ kX8 cI cB bP mP)) C.1 hK hA hP hD hS [0, 1, 2, 3, 4, 5, 6, 7, 8, 9, 10, 11, 12, 13, 14, 15, 16, 17, 18, 19, 20, 21, 22, 23, 24] [] [0, 1, 2, 3, 4, 5, 6, 7, 8, 9, 10, 11, 12, 13, 14, 15, 16, 17, 18, 19, 20, 21, 22, 23, 24] 0 (mtX10_isBlock l dC dI cI cB bV bP bS bW bN bO H.size mZ_1 mY mB mL mU mJ mK mG mA mP p2 hg) (zCwV 1 C.1 wlX10_269 wiX10_isBlock ws_X10_isBlock wnX10 wkX10_isBlock rfl rfl (by decide +kernel) ⟨Nat.le_of_ble_eq_true rfl, Nat.le_of_ble_eq_true rfl⟩) rfl rfl (by decide +kernel) rfl rfl rfl rfl hl.1 (Nat.le_of_ble_eq_true rfl) dX10_turn_23 ⟨Nat.zero_le _, Nat.zero_le _⟩ rfl (fun H locs hP hD hS => ?_)
    refine lv_if_eq (tgt := 33) C.1.1 C.1.2.1 dX10_turn_26 (by decide) (fun hc => ?_) (fun hc => ?_)
    · replace hf := zIf_t hf hc
      refine lv_iconst (v := 1) C.1.1 C.1.2.1 dX10_turn_33 (by decide) ?_
      exact hJ34_4 (1 : Int32) hf H locs hP hD hS ls (lv_sub hl [0, 1, 2] rfl)
    · replace hf := zIf_f hf hc
      refine lv_iconst (v := 0) C.1.1 C.1.2.1 dX10_turn_29 (by decide) ?_
      refine lv_goto (tgt := 34) C.1.1 C.1.2.1 dX10_turn_30 (by decide) ?_
      exact hJ34_4 (0 : Int32) hf H locs hP hD hS ls (lv_sub hl [0, 1, 2] rfl)
  · replace hf := zIf_f hf hc
    refine lv_aload_n C.1.1 C.1.2.1 dX10_turn_13 rfl (lv_at hl 0 rfl) ?_
    refine lv_iload_n C.1.1 C.1.2.1 dX10_turn_14 rfl (lv_at hl 1 rfl) ?_
    obtain ⟨v16, hg, hf⟩ := zB1_el hf
    refine zCVi (As := [.int p1]) (rest := []) (wr := ([] : va_W)) (wn := (kX10 cI cB bV (bP 0) (bS 0) (bW 0) (bN 0) (bO 0) mZ_1 mY mB mL mU mJ mK mG mA ++ kX8 cI cB bP mP)) C.1 hK hA hP hD hS [0, 1, 2, 3, 4, 5, 6, 7, 8, 9, 10, 11, 12, 13, 14, 15, 16, 17, 18, 19, 20, 21, 22, 23, 24] [] [0, 1, 2, 3, 4, 5, 6, 7, 8, 9, 10, 11, 12, 13, 14, 15, 16, 17, 18, 19, 20, 21, 22, 23, 24] 0 (mtX10_asked l dC dI cI cB bV bP bS bW bN bO H.size mZ_1 mY mB mL mU mJ mK mG mA mP p1 hg) (zCwV 1 C.1 wlX10_293 wiX10_asked ws_X10_asked wnX10 wkX10_asked rfl rfl (by decide +kernel) ⟨Nat.le_of_ble_eq_true rfl, Nat.le_of_ble_eq_true rfl⟩) rfl rfl (by decide +kernel) rfl rfl rfl rfl hl.1 (Nat.le_of_ble_eq_true rfl) dX10_turn_15 ⟨Nat.zero_le _, Nat.zero_le _⟩ rfl (fun H locs hP hD hS => ?_)
    refine lv_goto (tgt := 34) C.1.1 C.1.2.1 dX10_turn_18 (by decide) ?_
    exact hJ34_4 v16 hf H locs hP hD hS ls (lv_sub hl [0, 1, 2] rfl)
def fX10_edges_L88 (x4 : Int32) (mA_6 : Rc) (x13 : Int32) (J175_18 : Int32 → Option (Int32 × Rc × Rc × Rc × Rc × Rc × Rc)) (n : Nat) (x24 : Int32) (x25 : Int32) : Option (Int32 × Rc × Rc × Rc × Rc × Rc × Rc) := zLp2 (fun (go26 : Int32 → Int32 → Option (Int32 × Rc × Rc × Rc × Rc × Rc × Rc)) (x24 : Int32) (x25 : Int32) =>
    if x4 ≤ x25 then (
      J175_18 x24
    ) else (
      zGd (inb x25 4096) <|
      if (mA_6 33 x25.toNatClampNeg) < x13 then (
        if x24 = (-1 : Int32) then (
          zLet (x25 + 1) fun x27 =>
          go26 x25 x27
        ) else (
          zGd (inb x25 4096) <|
          zGd (inb x24 4096) <|
          if (mA_6 34 x25.toNatClampNeg) < (mA_6 34 x24.toNatClampNeg) then (
            zLet (x25 + 1) fun x28 =>
            go26 x25 x28
          ) else (
            zGd (inb x25 4096) <|
            zGd (inb x24 4096) <|
            if (mA_6 34 x25.toNatClampNeg) = (mA_6 34 x24.toNatClampNeg) then (
              zGd (inb x25 4096) <|
              zGd (inb x24 4096) <|
              if (mA_6 33 x24.toNatClampNeg) ≤ (mA_6 33 x25.toNatClampNeg) then (
                zLet (x25 + 1) fun x30 =>
                go26 x24 x30
              ) else (
                zLet (x25 + 1) fun x31 =>
                go26 x25 x31
              )
            ) else (
              zLet (x25 + 1) fun x29 =>
              go26 x24 x29
            )
          )
        )
      ) else (
        zLet (x25 + 1) fun x32 =>
        go26 x24 x32
      )
    )
  ) n x24 x25
def fX10_edges_L78 (NN : Nat) (x4 : Int32) (mA_6 : Rc) (J226_10 : Rc → Option (Int32 × Rc × Rc × Rc × Rc × Rc × Rc)) (n : Nat) (x13 : Int32) (x14 : Int32) (mG_15 : Rc) : Option (Int32 × Rc × Rc × Rc × Rc × Rc × Rc) := zLp3 (fun (go16 : Int32 → Int32 → Rc → Option (Int32 × Rc × Rc × Rc × Rc × Rc × Rc)) (x13 : Int32) (x14 : Int32) (mG_15 : Rc) =>
    if x14 = 0 then (
      J226_10 mG_15
    ) else (
      zJn (fun (x17 : Int32) =>
          zJn (fun (t19 : Int32) =>
              if t19 = 0 then (
                go16 x13 t19 mG_15
              ) else (
                zGd (inb (mG_15 35 0) 4096) <|
                zLet (rs mG_15 32 (upd (mG_15 32) (mG_15 35 0).toNatClampNeg x17)) fun mG_21 =>
                zLet (rs mG_21 35 (fun _ => ((mG_21 35 0) + (1 : Int32)))) fun mG_22 =>
                zGd (inb x17 4096) <|
                zLet (mA_6 33 x17.toNatClampNeg) fun x23 =>
                go16 x23 t19 mG_22
              )
            ) fun J186_20 =>
          if x17 = (-1 : Int32) then (
            J186_20 (0 : Int32)
          ) else (
            J186_20 (1 : Int32)
          )
        ) fun J175_18 =>
      fX10_edges_L88 x4 mA_6 x13 J175_18 NN (-1 : Int32) (0 : Int32)
    )
  ) n x13 x14 mG_15
def fX10_edges_L34 (mY : Rc) (mP : Rc) (NN : Nat) (mJ_3 : Rc) (x4 : Int32) (J67_7 : Rc → Rc → Option (Int32 × Rc × Rc × Rc × Rc × Rc × Rc)) (n : Nat) (x33 : Int32) (mK_34 : Rc) (mA_35 : Rc) : Option (Int32 × Rc × Rc × Rc × Rc × Rc × Rc) := zLp3 (fun (go36 : Int32 → Rc → Rc → Option (Int32 × Rc × Rc × Rc × Rc × Rc × Rc)) (x33 : Int32) (mK_34 : Rc) (mA_35 : Rc) =>
    if x4 ≤ x33 then (
      J67_7 mK_34 mA_35
    ) else (
      zB2 (fX10_ticksOf NN mY mJ_3 mK_34 mP x33) fun v37 mK_38 =>
      zGd (inb x33 4096) <|
      zLet (rs mA_35 33 (upd (mA_35 33) x33.toNatClampNeg v37)) fun mA_39 =>
      zB1 (fX10_gatesOfCut NN mJ_3 mP x33) fun v40 =>
      zGd (inb x33 4096) <|
      zLet (rs mA_39 34 (upd (mA_39 34) x33.toNatClampNeg v40)) fun mA_41 =>
      zLet (x33 + 1) fun x42 =>
      go36 x42 mK_38 mA_41
    )
  ) n x33 mK_34 mA_35
def fX10_edges (NN : Nat) (mZ : Rc) (mY : Rc) (mU : Rc) (mJ : Rc) (mK : Rc) (mG : Rc) (mA : Rc) (mP : Rc) : Option (Int32 × Rc × Rc × Rc × Rc × Rc × Rc) :=
  zLet (rs mZ 0 (fun _ => (0 : Int32))) fun mZ_1 =>
  if (mY 9 0) = 0 then (
    zB2 (fX10_refused mZ_1 (4 : Int32)) fun v43 mZ_44 =>
    some (v43, mZ_44, mU, mJ, mK, mG, mA)
  ) else (
    zB2 (fX10_needs NN mY mU mJ mP) fun mU_2 mJ_3 =>
    zLet ((1 : Int32) <<< ((mP 0 0) &&& 31)) fun x4 =>
    zJn (fun (mK_5 : Rc) (mA_6 : Rc) =>
        zLet (rs mG 35 (fun _ => (0 : Int32))) fun mG_8 =>
        zJn (fun (mG_9 : Rc) =>
            zB2 (fX10_done mZ_1 (mG_9 35 0)) fun v11 mZ_12 =>
            some (v11, mZ_12, mU_2, mJ_3, mK_5, mG_9, mA_6)
          ) fun J226_10 =>
        fX10_edges_L78 NN x4 mA_6 J226_10 NN (2147483647 : Int32) (1 : Int32) mG_8
      ) fun J67_7 =>
    fX10_edges_L34 mY mP NN mJ_3 x4 J67_7 NN (0 : Int32) mK mA
  )
abbrev rX10_edges : Room := { frames := 5, cells := 0, slots := 0, locals := 121 }
set_option maxHeartbeats 4000000 in
set_option maxRecDepth 100000 in
theorem mtX10_edges (l : Launch) (dC : Nat → ClassId) (dI : Nat → Nat → Nat) (cI cB : ClassId) (bV bP bS bW bN bO : Nat → Nat) (sz : Nat) (NN : Nat) (mZ : Rc) (mY : Rc) (mB : Rc) (mL : Rc) (mU : Rc) (mJ : Rc) (mK : Rc) (mG : Rc) (mA : Rc) (mP : Rc) {ov : Int32} {mZ' : Rc} {mU' : Rc} {mJ' : Rc} {mK' : Rc} {mG' : Rc} {mA' : Rc} (hf : fX10_edges NN mZ mY mU mJ mK mG mA mP = some (ov, mZ', mU', mJ', mK', mG', mA')) : zMi l yX10_edges (Cond.code yX10_edges cX10_edges 6 (some .int) :: lw_g) rX10_edges (dC, dI) [(cI, .int), (cB, .byte)] [.ref (bV 0)] sz (kX10 cI cB bV (bP 0) (bS 0) (bW 0) (bN 0) (bO 0) mZ mY mB mL mU mJ mK mG mA ++ kX8 cI cB bP mP) ov (kX10 cI cB bV (bP 0) (bS 0) (bW 0) (bN 0) (bO 0) mZ' mY mB mL mU' mJ' mK' mG' mA' ++ kX8 cI cB bP mP) := by
  refine zSt (cc := cX10_edges) (maxL := 6) (ret := (some .int)) (own := RX10) (fun A => zQi (dC, dI) [(cI, .int), (cB, .byte)] A ov (kX10 cI cB bV (bP 0) (bS 0) (bW 0) (bN 0) (bO 0) mZ' mY mB mL mU' mJ' mK' mG' mA' ++ kX8 cI cB bP mP)) (by decide) rfl rfl (Nat.le_of_ble_eq_true rfl) ?_
  intro p e s m below meth c ls A H locs C hK hA hP hD hS hl
  generalize hQ : MQ below (zQi (dC, dI) [(cI, .int), (cB, .byte)] A ov (kX10 cI cB bV (bP 0) (bS 0) (bW 0) (bN 0) (bO 0) mZ' mY mB mL mU' mJ' mK' mG' mA' ++ kX8 cI cB bP mP)) _ s 0 0 A = QQ
  generalize ([.ref (bV 0)] : List Value).toArray = args at C hQ ⊢
  have hl : lv_has ls 6 [(0, .ref (bV 0))] := hl
  unfold fX10_edges at hf
  refine lv_aload_n C.1.1 C.1.2.1 dX10_edges_0 rfl (lv_at hl 0 rfl) ?_
  refine lv_iconst (v := 0) C.1.1 C.1.2.1 dX10_edges_1 (by decide) ?_
  obtain ⟨mZ_1, emZ_1, hf⟩ := zLet_el hf
  refine zPut (ty := .int) (kX10 cI cB bV (bP 0) (bS 0) (bW 0) (bN 0) (bO 0) mZ_1 mY mB mL mU mJ mK mG mA ++ kX8 cI cB bP mP) C.1 wuX10 tyX10 tyX10_ok nmX10 hK hP hD hS 0 rfl rfl 0 (by decide) wfX10_86 rfl rfl (by decide +kernel) rfl rfl (Nat.le_of_ble_eq_true rfl) dX10_edges_2 (by rw [emZ_1]; rfl) (fun H locs hP hD hS => ?_)
  refine lv_aload_n C.1.1 C.1.2.1 dX10_edges_5 rfl (lv_at hl 0 rfl) ?_
  refine zGet (.int (mY 9 0)) C.1 wuX10 hK hP 0 rfl rfl 9 (by decide) wfX10_230 rfl rfl dX10_edges_6 ?_
  refine lv_if_ne (tgt := 18) C.1.1 C.1.2.1 dX10_edges_9 (by decide) (fun hc => ?_) (fun hc => ?_)
  · replace hf := zIf_f hf hc
    refine lv_aload_n C.1.1 C.1.2.1 dX10_edges_18 rfl (lv_at hl 0 rfl) ?_
    obtain ⟨mU_2, mJ_3, hg, hf⟩ := zB2_el hf
    refine zCVv (As := []) (rest := []) (wr := ([] : va_W)) (wn := (kX10 cI cB bV (bP 0) (bS 0) (bW 0) (bN 0) (bO 0) mZ_1 mY mB mL mU_2 mJ_3 mK mG mA ++ kX8 cI cB bP mP)) C.1 hK hA hP hD hS [0, 1, 2, 3, 4, 5, 6, 7, 8, 9, 10, 11, 12, 13, 14, 15, 16, 17, 18, 19, 20, 21, 22, 23, 24] [] [0, 1, 2, 3, 4, 5, 6, 7, 8, 9, 10, 11, 12, 13, 14, 15, 16, 17, 18, 19, 20, 21, 22, 23, 24] 0 (mtX10_needs l dC dI cI cB bV bP bS bW bN bO H.size NN mZ_1 mY mB mL mU mJ mK mG mA mP hg) (zCwV 0 C.1 wlX10_296 wiX10_needs ws_X10_needs wnX10 wkX10_needs rfl rfl (by decide +kernel) ⟨Nat.le_of_ble_eq_true rfl, Nat.le_of_ble_eq_true rfl⟩) rfl rfl (by decide +kernel) rfl rfl rfl rfl hl.1 (Nat.le_of_ble_eq_true rfl) dX10_edges_19 ⟨Nat.zero_le _, Nat.zero_le _⟩ rfl (fun H locs hP hD hS => ?_)
    refine lv_iconst (v := 1) C.1.1 C.1.2.1 dX10_edges_22 (by decide) ?_
    refine lv_aload_n C.1.1 C.1.2.1 dX10_edges_23 rfl (lv_at hl 0 rfl) ?_
    refine zGet (.ref (bP 0)) C.1 wuX10 hK hP 0 rfl rfl 7 (by decide) wfX10_25 rfl rfl dX10_edges_24 ?_
    refine zGetN (.int (mP 0 0)) C.1 wuX8 hK hP 14 rfl rfl 0 (by decide) nfX10_146 rfl rfl dX10_edges_27 ?_
    refine lv_ishl C.1.1 C.1.2.1 dX10_edges_30 ?_
    refine lv_topi (fun x4 ex4 => ?_)
    replace hf := zLet_at hf ex4
    refine lv_istore_n (lv' := [(1, .int x4), (0, .ref (bV 0))]) C.1.1 C.1.2.1 dX10_edges_31 rfl hl (by decide) rfl (fun ls hl => ?_)
    refine lv_iconst (v := 0) C.1.1 C.1.2.1 dX10_edges_32 (by decide) ?_
    refine lv_istore_n (lv' := [(2, .int (0 : Int32)), (1, .int x4), (0, .ref (bV 0))]) C.1.1 C.1.2.1 dX10_edges_33 rfl hl (by decide) rfl (fun ls hl => ?_)
    obtain ⟨J67_7, eJ67_7, hf⟩ := zJn_el hf
    have hJ67_7 : ∀ (mK_5 : Rc) (mA_6 : Rc), J67_7 mK_5 mA_6 = some (ov, mZ', mU', mJ', mK', mG', mA') → ∀ (H : Heap) (locs : List Loc), va_P (dC, dI) vwCl (kX10 cI cB bV (bP 0) (bS 0) (bW 0) (bN 0) (bO 0) mZ_1 mY mB mL mU_2 mJ_3 mK_5 mG mA_6 ++ kX8 cI cB bP mP) H → va_D A (kX10 cI cB bV (bP 0) (bS 0) (bW 0) (bN 0) (bO 0) mZ_1 mY mB mL mU_2 mJ_3 mK_5 mG mA_6 ++ kX8 cI cB bP mP) → va_S A s.heap H locs → ∀ (ls : Array Slot), lv_has ls 6 [(0, .ref (bV 0)), (1, .int x4)] → W p l e rX10_edges s m args below meth c H locs 0 0 QQ (F0 m 67 ls []) := by
      intro mK_5 mA_6 hf H locs hP hD hS ls hl
      rw [eJ67_7] at hf
      refine lv_aload_n C.1.1 C.1.2.1 dX10_edges_67 rfl (lv_at hl 0 rfl) ?_
      refine lv_iconst (v := 0) C.1.1 C.1.2.1 dX10_edges_68 (by decide) ?_
      obtain ⟨mG_8, emG_8, hf⟩ := zLet_el hf
      refine zPut (ty := .int) (kX10 cI cB bV (bP 0) (bS 0) (bW 0) (bN 0) (bO 0) mZ_1 mY mB mL mU_2 mJ_3 mK_5 mG_8 mA_6 ++ kX8 cI cB bP mP) C.1 wuX10 tyX10 tyX10_ok nmX10 hK hP hD hS 0 rfl rfl 35 (by decide) wfX10_312 rfl rfl (by decide +kernel) rfl rfl (Nat.le_of_ble_eq_true rfl) dX10_edges_69 (by rw [emG_8]; rfl) (fun H locs hP hD hS => ?_)
      refine lv_ldcw C.1.1 C.1.2.1 C.1.2.2.2.1 (C.1.2.2.2.2 _ wcX10_315) dX10_edges_72 ?_
      refine lv_istore_n (lv' := [(2, .int (2147483647 : Int32)), (0, .ref (bV 0)), (1, .int x4)]) C.1.1 C.1.2.1 dX10_edges_75 rfl hl (by decide) rfl (fun ls hl => ?_)
      refine lv_iconst (v := 1) C.1.1 C.1.2.1 dX10_edges_76 (by decide) ?_
      refine lv_istore_n (lv' := [(3, .int (1 : Int32)), (2, .int (2147483647 : Int32)), (0, .ref (bV 0)), (1, .int x4)]) C.1.1 C.1.2.1 dX10_edges_77 rfl hl (by decide) rfl (fun ls hl => ?_)
      obtain ⟨J226_10, eJ226_10, hf⟩ := zJn_el hf
      have hJ226_10 : ∀ (mG_9 : Rc), J226_10 mG_9 = some (ov, mZ', mU', mJ', mK', mG', mA') → ∀ (H : Heap) (locs : List Loc), va_P (dC, dI) vwCl (kX10 cI cB bV (bP 0) (bS 0) (bW 0) (bN 0) (bO 0) mZ_1 mY mB mL mU_2 mJ_3 mK_5 mG_9 mA_6 ++ kX8 cI cB bP mP) H → va_D A (kX10 cI cB bV (bP 0) (bS 0) (bW 0) (bN 0) (bO 0) mZ_1 mY mB mL mU_2 mJ_3 mK_5 mG_9 mA_6 ++ kX8 cI cB bP mP) → va_S A s.heap H locs → ∀ (ls : Array Slot), lv_has ls 6 [(0, .ref (bV 0))] → W p l e rX10_edges s m args below meth c H locs 0 0 QQ (F0 m 226 ls []) := by
        intro mG_9 hf H locs hP hD hS ls hl
        rw [eJ226_10] at hf
        refine lv_aload_n C.1.1 C.1.2.1 dX10_edges_226 rfl (lv_at hl 0 rfl) ?_
        refine lv_aload_n C.1.1 C.1.2.1 dX10_edges_227 rfl (lv_at hl 0 rfl) ?_
        refine zGet (.int (mG_9 35 0)) C.1 wuX10 hK hP 0 rfl rfl 35 (by decide) wfX10_312 rfl rfl dX10_edges_228 ?_
        obtain ⟨v11, mZ_12, hg, hf⟩ := zB2_el hf
        refine zCVi (As := [.int (mG_9 35 0)]) (rest := []) (wr := (kX8 cI cB bP mP)) (wn := (kX10 cI cB bV (bP 0) (bS 0) (bW 0) (bN 0) (bO 0) mZ_12 mY mB mL mU_2 mJ_3 mK_5 mG_9 mA_6 ++ kX8 cI cB bP mP)) C.1 hK hA hP hD hS [0, 1, 2, 3, 4, 5, 6, 7, 8, 9, 10, 11, 12, 13] [14, 15, 16, 17, 18, 19, 20, 21, 22, 23, 24] [11, 12, 13, 14, 15, 16, 17, 18, 19, 20, 21, 22, 23, 24, 0, 1, 2, 3, 4, 5, 6, 7, 8, 9, 10] 0 (mtX10_done l dC dI cI cB bV bP bS bW bN bO H.size mZ_1 mY mB mL mU_2 mJ_3 mK_5 mG_9 mA_6 (mG_9 35 0) hg) (zCwV 1 C.1 wlX10_233 wiX10_done ws_X10_done wnX10 wkX10_done rfl rfl (by decide +kernel) ⟨Nat.le_of_ble_eq_true rfl, Nat.le_of_ble_eq_true rfl⟩) rfl rfl (by decide +kernel) rfl rfl rfl rfl hl.1 (Nat.le_of_ble_eq_true rfl) dX10_edges_231 ⟨Nat.zero_le _, Nat.zero_le _⟩ rfl (fun H locs hP hD hS => ?_)
        cases hf
        rw [← hQ]
        exact zRi C hK hP hD hS dX10_edges_234
      refine zLp3_ind (o := (ov, mZ', mU', mJ', mK', mG', mA')) (P := fun (x13 : Int32) (x14 : Int32) (mG_15 : Rc) => ∀ (H : Heap) (locs : List Loc), va_P (dC, dI) vwCl (kX10 cI cB bV (bP 0) (bS 0) (bW 0) (bN 0) (bO 0) mZ_1 mY mB mL mU_2 mJ_3 mK_5 mG_15 mA_6 ++ kX8 cI cB bP mP) H → va_D A (kX10 cI cB bV (bP 0) (bS 0) (bW 0) (bN 0) (bO 0) mZ_1 mY mB mL mU_2 mJ_3 mK_5 mG_15 mA_6 ++ kX8 cI cB bP mP) → va_S A s.heap H locs → ∀ (ls : Array Slot), lv_has ls 6 [(0, .ref (bV 0)), (1, .int x4), (2, .int x13), (3, .int x14)] → W p l e rX10_edges s m args below meth c H locs 0 0 QQ (F0 m 78 ls [])) (fun go16 ihgo16 x13 x14 mG_15 hf H locs hP hD hS ls hl => ?_) _ (2147483647 : Int32) (1 : Int32) mG_8 hf H locs hP hD hS ls (lv_sub hl [2, 3, 1, 0] rfl)
      refine lv_iload_n C.1.1 C.1.2.1 dX10_edges_78 rfl (lv_at hl 3 rfl) ?_
      refine lv_if_eq (tgt := 226) C.1.1 C.1.2.1 dX10_edges_79 (by decide) (fun hc => ?_) (fun hc => ?_)
      · replace hf := zIf_t hf hc
        exact hJ226_10 mG_15 hf H locs hP hD hS ls (lv_sub hl [0] rfl)
      · replace hf := zIf_f hf hc
        refine lv_iconst (v := (-1)) C.1.1 C.1.2.1 dX10_edges_82 (by decide) ?_
        refine lv_istore (lv' := [(4, .int (-1 : Int32)), (0, .ref (bV 0)), (1, .int x4), (2, .int x13), (3, .int x14)]) C.1.1 C.1.2.1 dX10_edges_83 hl (by decide) rfl (fun ls hl => ?_)
        refine lv_iconst (v := 0) C.1.1 C.1.2.1 dX10_edges_85 (by decide) ?_
        refine lv_istore (lv' := [(5, .int (0 : Int32)), (4, .int (-1 : Int32)), (0, .ref (bV 0)), (1, .int x4), (2, .int x13), (3, .int x14)]) C.1.1 C.1.2.1 dX10_edges_86 hl (by decide) rfl (fun ls hl => ?_)
        obtain ⟨J175_18, eJ175_18, hf⟩ := zJn_el hf
        have hJ175_18 : ∀ (x17 : Int32), J175_18 x17 = some (ov, mZ', mU', mJ', mK', mG', mA') → ∀ (H : Heap) (locs : List Loc), va_P (dC, dI) vwCl (kX10 cI cB bV (bP 0) (bS 0) (bW 0) (bN 0) (bO 0) mZ_1 mY mB mL mU_2 mJ_3 mK_5 mG_15 mA_6 ++ kX8 cI cB bP mP) H → va_D A (kX10 cI cB bV (bP 0) (bS 0) (bW 0) (bN 0) (bO 0) mZ_1 mY mB mL mU_2 mJ_3 mK_5 mG_15 mA_6 ++ kX8 cI cB bP mP) → va_S A s.heap H locs → ∀ (ls : Array Slot), lv_has ls 6 [(0, .ref (bV 0)), (1, .int x4), (2, .int x13), (4, .int x17)] → W p l e rX10_edges s m args below meth c H locs 0 0 QQ (F0 m 175 ls []) := by
          intro x17 hf H locs hP hD hS ls hl
          rw [eJ175_18] at hf
          refine lv_iload C.1.1 C.1.2.1 dX10_edges_175 (lv_at hl 3 rfl) ?_
          refine lv_iconst (v := (-1)) C.1.1 C.1.2.1 dX10_edges_177 (by decide) ?_
          obtain ⟨J186_20, eJ186_20, hf⟩ := zJn_el hf
          have hJ186_20 : ∀ (t19 : Int32), J186_20 t19 = some (ov, mZ', mU', mJ', mK', mG', mA') → ∀ (H : Heap) (locs : List Loc), va_P (dC, dI) vwCl (kX10 cI cB bV (bP 0) (bS 0) (bW 0) (bN 0) (bO 0) mZ_1 mY mB mL mU_2 mJ_3 mK_5 mG_15 mA_6 ++ kX8 cI cB bP mP) H → va_D A (kX10 cI cB bV (bP 0) (bS 0) (bW 0) (bN 0) (bO 0) mZ_1 mY mB mL mU_2 mJ_3 mK_5 mG_15 mA_6 ++ kX8 cI cB bP mP) → va_S A s.heap H locs → ∀ (ls : Array Slot), lv_has ls 6 [(0, .ref (bV 0)), (1, .int x4), (2, .int x13), (4, .int x17)] → W p l e rX10_edges s m args below meth c H locs 0 0 QQ (F0 m 186 ls [.int t19]) := by
            intro t19 hf H locs hP hD hS ls hl
            rw [eJ186_20] at hf
            refine lv_istore_n (lv' := [(3, .int t19), (0, .ref (bV 0)), (1, .int x4), (2, .int x13), (4, .int x17)]) C.1.1 C.1.2.1 dX10_edges_186 rfl hl (by decide) rfl (fun ls hl => ?_)
            refine lv_iload_n C.1.1 C.1.2.1 dX10_edges_187 rfl (lv_at hl 0 rfl) ?_
            refine lv_if_ne (tgt := 194) C.1.1 C.1.2.1 dX10_edges_188 (by decide) (fun hc => ?_) (fun hc => ?_)
            · replace hf := zIf_f hf hc
              refine lv_aload_n C.1.1 C.1.2.1 dX10_edges_194 rfl (lv_at hl 1 rfl) ?_
              refine zGet (.ref (bV 11)) C.1 wuX10 hK hP 0 rfl rfl 32 (by decide) wfX10_77 rfl rfl dX10_edges_195 ?_
              refine lv_aload_n C.1.1 C.1.2.1 dX10_edges_198 rfl (lv_at hl 1 rfl) ?_
              refine zGet (.int (mG_15 35 0)) C.1 wuX10 hK hP 0 rfl rfl 35 (by decide) wfX10_312 rfl rfl dX10_edges_199 ?_
              refine lv_iload C.1.1 C.1.2.1 dX10_edges_202 (lv_at hl 4 rfl) ?_
              obtain ⟨hib, hf⟩ := zGd_el hf
              obtain ⟨mG_21, emG_21, hf⟩ := zLet_el hf
              refine zIast (kX10 cI cB bV (bP 0) (bS 0) (bW 0) (bN 0) (bO 0) mZ_1 mY mB mL mU_2 mJ_3 mK_5 mG_21 mA_6 ++ kX8 cI cB bP mP) C.1 hK hP hD hS 11 0 rfl rfl hib dX10_edges_204 (by rw [emG_21]; rfl) (fun H locs hP hD hS => ?_)
              refine lv_aload_n C.1.1 C.1.2.1 dX10_edges_205 rfl (lv_at hl 1 rfl) ?_
              refine lv_dup C.1.1 C.1.2.1 dX10_edges_206 rfl ?_
              refine zGet (.int (mG_21 35 0)) C.1 wuX10 hK hP 0 rfl rfl 35 (by decide) wfX10_312 rfl rfl dX10_edges_207 ?_
              refine lv_iconst (v := 1) C.1.1 C.1.2.1 dX10_edges_210 (by decide) ?_
              refine lv_iadd C.1.1 C.1.2.1 dX10_edges_211 ?_
              obtain ⟨mG_22, emG_22, hf⟩ := zLet_el hf
              refine zPut (ty := .int) (kX10 cI cB bV (bP 0) (bS 0) (bW 0) (bN 0) (bO 0) mZ_1 mY mB mL mU_2 mJ_3 mK_5 mG_22 mA_6 ++ kX8 cI cB bP mP) C.1 wuX10 tyX10 tyX10_ok nmX10 hK hP hD hS 0 rfl rfl 35 (by decide) wfX10_312 rfl rfl (by decide +kernel) rfl rfl (Nat.le_of_ble_eq_true rfl) dX10_edges_212 (by rw [emG_22]; rfl) (fun H locs hP hD hS => ?_)
              refine lv_aload_n C.1.1 C.1.2.1 dX10_edges_215 rfl (lv_at hl 1 rfl) ?_
              refine zGet (.ref (bV 12)) C.1 wuX10 hK hP 0 rfl rfl 33 (by decide) wfX10_80 rfl rfl dX10_edges_216 ?_
              refine lv_iload C.1.1 C.1.2.1 dX10_edges_219 (lv_at hl 4 rfl) ?_
              obtain ⟨hib, hf⟩ := zGd_el hf
              refine va_iald C.1.1 C.1.2.1 hK.1 hP 12 0 rfl rfl hib dX10_edges_221 ?_
              refine lv_topi (fun x23 ex23 => ?_)
              replace hf := zLet_at hf ex23
              refine lv_istore_n (lv' := [(2, .int x23), (3, .int t19), (0, .ref (bV 0)), (1, .int x4), (4, .int x17)]) C.1.1 C.1.2.1 dX10_edges_222 rfl hl (by decide) rfl (fun ls hl => ?_)
              refine lv_goto (tgt := 78) C.1.1 C.1.2.1 dX10_edges_223 (by decide) ?_
              exact ihgo16 x23 t19 mG_22 hf H locs hP hD hS ls (lv_sub hl [2, 3, 0, 1] rfl)
            · replace hf := zIf_t hf hc
              refine lv_goto (tgt := 78) C.1.1 C.1.2.1 dX10_edges_191 (by decide) ?_
              exact ihgo16 x13 t19 mG_15 hf H locs hP hD hS ls (lv_sub hl [1, 2, 3, 0] rfl)
          refine lv_icmp_eq (tgt := 185) C.1.1 C.1.2.1 dX10_edges_178 (by decide) (fun hc => ?_) (fun hc => ?_)
          · replace hf := zIf_t hf hc
            refine lv_iconst (v := 0) C.1.1 C.1.2.1 dX10_edges_185 (by decide) ?_
            exact hJ186_20 (0 : Int32) hf H locs hP hD hS ls (lv_sub hl [0, 1, 2, 3] rfl)
          · replace hf := zIf_f hf hc
            refine lv_iconst (v := 1) C.1.1 C.1.2.1 dX10_edges_181 (by decide) ?_
            refine lv_goto (tgt := 186) C.1.1 C.1.2.1 dX10_edges_182 (by decide) ?_
            exact hJ186_20 (1 : Int32) hf H locs hP hD hS ls (lv_sub hl [0, 1, 2, 3] rfl)
        refine zLp2_ind (o := (ov, mZ', mU', mJ', mK', mG', mA')) (P := fun (x24 : Int32) (x25 : Int32) => ∀ (H : Heap) (locs : List Loc), va_P (dC, dI) vwCl (kX10 cI cB bV (bP 0) (bS 0) (bW 0) (bN 0) (bO 0) mZ_1 mY mB mL mU_2 mJ_3 mK_5 mG_15 mA_6 ++ kX8 cI cB bP mP) H → va_D A (kX10 cI cB bV (bP 0) (bS 0) (bW 0) (bN 0) (bO 0) mZ_1 mY mB mL mU_2 mJ_3 mK_5 mG_15 mA_6 ++ kX8 cI cB bP mP) → va_S A s.heap H locs → ∀ (ls : Array Slot), lv_has ls 6 [(0, .ref (bV 0)), (1, .int x4), (2, .int x13), (4, .int x24), (5, .int x25)] → W p l e rX10_edges s m args below meth c H locs 0 0 QQ (F0 m 88 ls [])) (fun go26 ihgo26 x24 x25 hf H locs hP hD hS ls hl => ?_) _ (-1 : Int32) (0 : Int32) hf H locs hP hD hS ls (lv_sub hl [2, 3, 4, 1, 0] rfl)
        refine lv_iload C.1.1 C.1.2.1 dX10_edges_88 (lv_at hl 4 rfl) ?_
        refine lv_iload_n C.1.1 C.1.2.1 dX10_edges_90 rfl (lv_at hl 1 rfl) ?_
        refine lv_icmp_ge (tgt := 175) C.1.1 C.1.2.1 dX10_edges_91 (by decide) (fun hc => ?_) (fun hc => ?_)
        · replace hf := zIf_t hf hc
          exact hJ175_18 x24 hf H locs hP hD hS ls (lv_sub hl [0, 1, 2, 3] rfl)
        · replace hf := zIf_f hf hc
          refine lv_aload_n C.1.1 C.1.2.1 dX10_edges_94 rfl (lv_at hl 0 rfl) ?_
          refine zGet (.ref (bV 12)) C.1 wuX10 hK hP 0 rfl rfl 33 (by decide) wfX10_80 rfl rfl dX10_edges_95 ?_
          refine lv_iload C.1.1 C.1.2.1 dX10_edges_98 (lv_at hl 4 rfl) ?_
          obtain ⟨hib, hf⟩ := zGd_el hf
          refine va_iald C.1.1 C.1.2.1 hK.1 hP 12 0 rfl rfl hib dX10_edges_100 ?_
          refine lv_iload_n C.1.1 C.1.2.1 dX10_edges_101 rfl (lv_at hl 2 rfl) ?_
          refine lv_icmp_lt (tgt := 108) C.1.1 C.1.2.1 dX10_edges_102 (by decide) (fun hc => ?_) (fun hc => ?_)
          · replace hf := zIf_t hf hc
            refine lv_iload C.1.1 C.1.2.1 dX10_edges_108 (lv_at hl 3 rfl) ?_
            refine lv_iconst (v := (-1)) C.1.1 C.1.2.1 dX10_edges_110 (by decide) ?_
            refine lv_icmp_eq (tgt := 165) C.1.1 C.1.2.1 dX10_edges_111 (by decide) (fun hc => ?_) (fun hc => ?_)
            · replace hf := zIf_t hf hc
              refine lv_iload C.1.1 C.1.2.1 dX10_edges_165 (lv_at hl 4 rfl) ?_
              refine lv_istore (lv' := [(4, .int x25), (0, .ref (bV 0)), (1, .int x4), (2, .int x13), (5, .int x25)]) C.1.1 C.1.2.1 dX10_edges_167 hl (by decide) rfl (fun ls hl => ?_)
              obtain ⟨x27, ex27, hf⟩ := zLet_el hf
              refine lv_iinc (v := x27) (lv' := [(5, .int x27), (4, .int x25), (0, .ref (bV 0)), (1, .int x4), (2, .int x13)]) C.1.1 C.1.2.1 dX10_edges_169 hl (k := 4) rfl (by rw [ex27]; rfl) (by decide) rfl (fun ls hl => ?_)
              refine lv_goto (tgt := 88) C.1.1 C.1.2.1 dX10_edges_172 (by decide) ?_
              exact ihgo26 x25 x27 hf H locs hP hD hS ls (lv_sub hl [2, 3, 4, 1, 0] rfl)
            · replace hf := zIf_f hf hc
              refine lv_aload_n C.1.1 C.1.2.1 dX10_edges_114 rfl (lv_at hl 0 rfl) ?_
              refine zGet (.ref (bV 13)) C.1 wuX10 hK hP 0 rfl rfl 34 (by decide) wfX10_83 rfl rfl dX10_edges_115 ?_
              refine lv_iload C.1.1 C.1.2.1 dX10_edges_118 (lv_at hl 4 rfl) ?_
              obtain ⟨hib, hf⟩ := zGd_el hf
              refine va_iald C.1.1 C.1.2.1 hK.1 hP 13 0 rfl rfl hib dX10_edges_120 ?_
              refine lv_aload_n C.1.1 C.1.2.1 dX10_edges_121 rfl (lv_at hl 0 rfl) ?_
              refine zGet (.ref (bV 13)) C.1 wuX10 hK hP 0 rfl rfl 34 (by decide) wfX10_83 rfl rfl dX10_edges_122 ?_
              refine lv_iload C.1.1 C.1.2.1 dX10_edges_125 (lv_at hl 3 rfl) ?_
              obtain ⟨hib, hf⟩ := zGd_el hf
              refine va_iald C.1.1 C.1.2.1 hK.1 hP 13 0 rfl rfl hib dX10_edges_127 ?_
              refine lv_icmp_lt (tgt := 165) C.1.1 C.1.2.1 dX10_edges_128 (by decide) (fun hc => ?_) (fun hc => ?_)
              · replace hf := zIf_t hf hc
                refine lv_iload C.1.1 C.1.2.1 dX10_edges_165 (lv_at hl 4 rfl) ?_
                refine lv_istore (lv' := [(4, .int x25), (0, .ref (bV 0)), (1, .int x4), (2, .int x13), (5, .int x25)]) C.1.1 C.1.2.1 dX10_edges_167 hl (by decide) rfl (fun ls hl => ?_)
                obtain ⟨x28, ex28, hf⟩ := zLet_el hf
                refine lv_iinc (v := x28) (lv' := [(5, .int x28), (4, .int x25), (0, .ref (bV 0)), (1, .int x4), (2, .int x13)]) C.1.1 C.1.2.1 dX10_edges_169 hl (k := 4) rfl (by rw [ex28]; rfl) (by decide) rfl (fun ls hl => ?_)
                refine lv_goto (tgt := 88) C.1.1 C.1.2.1 dX10_edges_172 (by decide) ?_
                exact ihgo26 x25 x28 hf H locs hP hD hS ls (lv_sub hl [2, 3, 4, 1, 0] rfl)
              · replace hf := zIf_f hf hc
                refine lv_aload_n C.1.1 C.1.2.1 dX10_edges_131 rfl (lv_at hl 0 rfl) ?_
                refine zGet (.ref (bV 13)) C.1 wuX10 hK hP 0 rfl rfl 34 (by decide) wfX10_83 rfl rfl dX10_edges_132 ?_
                refine lv_iload C.1.1 C.1.2.1 dX10_edges_135 (lv_at hl 4 rfl) ?_
                obtain ⟨hib, hf⟩ := zGd_el hf
                refine va_iald C.1.1 C.1.2.1 hK.1 hP 13 0 rfl rfl hib dX10_edges_137 ?_
                refine lv_aload_n C.1.1 C.1.2.1 dX10_edges_138 rfl (lv_at hl 0 rfl) ?_
                refine zGet (.ref (bV 13)) C.1 wuX10 hK hP 0 rfl rfl 34 (by decide) wfX10_83 rfl rfl dX10_edges_139 ?_
                refine lv_iload C.1.1 C.1.2.1 dX10_edges_142 (lv_at hl 3 rfl) ?_
                obtain ⟨hib, hf⟩ := zGd_el hf
                refine va_iald C.1.1 C.1.2.1 hK.1 hP 13 0 rfl rfl hib dX10_edges_144 ?_
                refine lv_icmp_ne (tgt := 169) C.1.1 C.1.2.1 dX10_edges_145 (by decide) (fun hc => ?_) (fun hc => ?_)
                · replace hf := zIf_f hf hc
                  obtain ⟨x29, ex29, hf⟩ := zLet_el hf
                  refine lv_iinc (v := x29) (lv' := [(5, .int x29), (0, .ref (bV 0)), (1, .int x4), (2, .int x13), (4, .int x24)]) C.1.1 C.1.2.1 dX10_edges_169 hl (k := 4) rfl (by rw [ex29]; rfl) (by decide) rfl (fun ls hl => ?_)
                  refine lv_goto (tgt := 88) C.1.1 C.1.2.1 dX10_edges_172 (by decide) ?_
                  exact ihgo26 x24 x29 hf H locs hP hD hS ls (lv_sub hl [1, 2, 3, 4, 0] rfl)
                · replace hf := zIf_t hf hc
                  refine lv_aload_n C.1.1 C.1.2.1 dX10_edges_148 rfl (lv_at hl 0 rfl) ?_
                  refine zGet (.ref (bV 12)) C.1 wuX10 hK hP 0 rfl rfl 33 (by decide) wfX10_80 rfl rfl dX10_edges_149 ?_
                  refine lv_iload C.1.1 C.1.2.1 dX10_edges_152 (lv_at hl 4 rfl) ?_
                  obtain ⟨hib, hf⟩ := zGd_el hf
                  refine va_iald C.1.1 C.1.2.1 hK.1 hP 12 0 rfl rfl hib dX10_edges_154 ?_
                  refine lv_aload_n C.1.1 C.1.2.1 dX10_edges_155 rfl (lv_at hl 0 rfl) ?_
                  refine zGet (.ref (bV 12)) C.1 wuX10 hK hP 0 rfl rfl 33 (by decide) wfX10_80 rfl rfl dX10_edges_156 ?_
                  refine lv_iload C.1.1 C.1.2.1 dX10_edges_159 (lv_at hl 3 rfl) ?_
                  obtain ⟨hib, hf⟩ := zGd_el hf
                  refine va_iald C.1.1 C.1.2.1 hK.1 hP 12 0 rfl rfl hib dX10_edges_161 ?_
                  refine lv_icmp_ge (tgt := 169) C.1.1 C.1.2.1 dX10_edges_162 (by decide) (fun hc => ?_) (fun hc => ?_)
                  · replace hf := zIf_t hf hc
                    obtain ⟨x30, ex30, hf⟩ := zLet_el hf
                    refine lv_iinc (v := x30) (lv' := [(5, .int x30), (0, .ref (bV 0)), (1, .int x4), (2, .int x13), (4, .int x24)]) C.1.1 C.1.2.1 dX10_edges_169 hl (k := 4) rfl (by rw [ex30]; rfl) (by decide) rfl (fun ls hl => ?_)
                    refine lv_goto (tgt := 88) C.1.1 C.1.2.1 dX10_edges_172 (by decide) ?_
                    exact ihgo26 x24 x30 hf H locs hP hD hS ls (lv_sub hl [1, 2, 3, 4, 0] rfl)
                  · replace hf := zIf_f hf hc
                    refine lv_iload C.1.1 C.1.2.1 dX10_edges_165 (lv_at hl 4 rfl) ?_
                    refine lv_istore (lv' := [(4, .int x25), (0, .ref (bV 0)), (1, .int x4), (2, .int x13), (5, .int x25)]) C.1.1 C.1.2.1 dX10_edges_167 hl (by decide) rfl (fun ls hl => ?_)
                    obtain ⟨x31, ex31, hf⟩ := zLet_el hf
                    refine lv_iinc (v := x31) (lv' := [(5, .int x31), (4, .int x25), (0, .ref (bV 0)), (1, .int x4), (2, .int x13)]) C.1.1 C.1.2.1 dX10_edges_169 hl (k := 4) rfl (by rw [ex31]; rfl) (by decide) rfl (fun ls hl => ?_)
                    refine lv_goto (tgt := 88) C.1.1 C.1.2.1 dX10_edges_172 (by decide) ?_
                    exact ihgo26 x25 x31 hf H locs hP hD hS ls (lv_sub hl [2, 3, 4, 1, 0] rfl)
          · replace hf := zIf_f hf hc
            refine lv_goto (tgt := 169) C.1.1 C.1.2.1 dX10_edges_105 (by decide) ?_
            obtain ⟨x32, ex32, hf⟩ := zLet_el hf
            refine lv_iinc (v := x32) (lv' := [(5, .int x32), (0, .ref (bV 0)), (1, .int x4), (2, .int x13), (4, .int x24)]) C.1.1 C.1.2.1 dX10_edges_169 hl (k := 4) rfl (by rw [ex32]; rfl) (by decide) rfl (fun ls hl => ?_)
            refine lv_goto (tgt := 88) C.1.1 C.1.2.1 dX10_edges_172 (by decide) ?_
            exact ihgo26 x24 x32 hf H locs hP hD hS ls (lv_sub hl [1, 2, 3, 4, 0] rfl)
    refine zLp3_ind (o := (ov, mZ', mU', mJ', mK', mG', mA')) (P := fun (x33 : Int32) (mK_34 : Rc) (mA_35 : Rc) => ∀ (H : Heap) (locs : List Loc), va_P (dC, dI) vwCl (kX10 cI cB bV (bP 0) (bS 0) (bW 0) (bN 0) (bO 0) mZ_1 mY mB mL mU_2 mJ_3 mK_34 mG mA_35 ++ kX8 cI cB bP mP) H → va_D A (kX10 cI cB bV (bP 0) (bS 0) (bW 0) (bN 0) (bO 0) mZ_1 mY mB mL mU_2 mJ_3 mK_34 mG mA_35 ++ kX8 cI cB bP mP) → va_S A s.heap H locs → ∀ (ls : Array Slot), lv_has ls 6 [(0, .ref (bV 0)), (1, .int x4), (2, .int x33)] → W p l e rX10_edges s m args below meth c H locs 0 0 QQ (F0 m 34 ls [])) (fun go36 ihgo36 x33 mK_34 mA_35 hf H locs hP hD hS ls hl => ?_) _ (0 : Int32) mK mA hf H locs hP hD hS ls (lv_sub hl [2, 1, 0] rfl)
    refine lv_iload_n C.1.1 C.1.2.1 dX10_edges_34 rfl (lv_at hl 2 rfl) ?_
    refine lv_iload_n C.1.1 C.1.2.1 dX10_edges_35 rfl (lv_at hl 1 rfl) ?_
    refine lv_icmp_ge (tgt := 67) C.1.1 C.1.2.1 dX10_edges_36 (by decide) (fun hc => ?_) (fun hc => ?_)
    · replace hf := zIf_t hf hc
      exact hJ67_7 mK_34 mA_35 hf H locs hP hD hS ls (lv_sub hl [0, 1] rfl)
    · replace hf := zIf_f hf hc
      refine lv_aload_n C.1.1 C.1.2.1 dX10_edges_39 rfl (lv_at hl 0 rfl) ?_
      refine zGet (.ref (bV 12)) C.1 wuX10 hK hP 0 rfl rfl 33 (by decide) wfX10_80 rfl rfl dX10_edges_40 ?_
      refine lv_iload_n C.1.1 C.1.2.1 dX10_edges_43 rfl (lv_at hl 2 rfl) ?_
      refine lv_aload_n C.1.1 C.1.2.1 dX10_edges_44 rfl (lv_at hl 0 rfl) ?_
      refine lv_iload_n C.1.1 C.1.2.1 dX10_edges_45 rfl (lv_at hl 2 rfl) ?_
      obtain ⟨v37, mK_38, hg, hf⟩ := zB2_el hf
      refine zCVi (As := [.int x33]) (rest := [.int x33, .ref (bV 12)]) (wr := ([] : va_W)) (wn := (kX10 cI cB bV (bP 0) (bS 0) (bW 0) (bN 0) (bO 0) mZ_1 mY mB mL mU_2 mJ_3 mK_38 mG mA_35 ++ kX8 cI cB bP mP)) C.1 hK hA hP hD hS [0, 1, 2, 3, 4, 5, 6, 7, 8, 9, 10, 11, 12, 13, 14, 15, 16, 17, 18, 19, 20, 21, 22, 23, 24] [] [0, 1, 2, 3, 4, 5, 6, 7, 8, 9, 10, 11, 12, 13, 14, 15, 16, 17, 18, 19, 20, 21, 22, 23, 24] 0 (mtX10_ticksOf l dC dI cI cB bV bP bS bW bN bO H.size NN mZ_1 mY mB mL mU_2 mJ_3 mK_34 mG mA_35 mP x33 hg) (zCwV 1 C.1 wlX10_299 wiX10_ticksOf ws_X10_ticksOf wnX10 wkX10_ticksOf rfl rfl (by decide +kernel) ⟨Nat.le_of_ble_eq_true rfl, Nat.le_of_ble_eq_true rfl⟩) rfl rfl (by decide +kernel) rfl rfl rfl rfl hl.1 (Nat.le_of_ble_eq_true rfl) dX10_edges_46 ⟨Nat.zero_le _, Nat.zero_le _⟩ rfl (fun H locs hP hD hS => ?_)
      obtain ⟨hib, hf⟩ := zGd_el hf
      obtain ⟨mA_39, emA_39, hf⟩ := zLet_el hf
      refine zIast (kX10 cI cB bV (bP 0) (bS 0) (bW 0) (bN 0) (bO 0) mZ_1 mY mB mL mU_2 mJ_3 mK_38 mG mA_39 ++ kX8 cI cB bP mP) C.1 hK hP hD hS 12 0 rfl rfl hib dX10_edges_49 (by rw [emA_39]; rfl) (fun H locs hP hD hS => ?_)
      refine lv_aload_n C.1.1 C.1.2.1 dX10_edges_50 rfl (lv_at hl 0 rfl) ?_
      refine zGet (.ref (bV 13)) C.1 wuX10 hK hP 0 rfl rfl 34 (by decide) wfX10_83 rfl rfl dX10_edges_51 ?_
      refine lv_iload_n C.1.1 C.1.2.1 dX10_edges_54 rfl (lv_at hl 2 rfl) ?_
      refine lv_aload_n C.1.1 C.1.2.1 dX10_edges_55 rfl (lv_at hl 0 rfl) ?_
      refine lv_iload_n C.1.1 C.1.2.1 dX10_edges_56 rfl (lv_at hl 2 rfl) ?_
      obtain ⟨v40, hg, hf⟩ := zB1_el hf
      refine zCVi (As := [.int x33]) (rest := [.int x33, .ref (bV 13)]) (wr := ([] : va_W)) (wn := (kX10 cI cB bV (bP 0) (bS 0) (bW 0) (bN 0) (bO 0) mZ_1 mY mB mL mU_2 mJ_3 mK_38 mG mA_39 ++ kX8 cI cB bP mP)) C.1 hK hA hP hD hS [0, 1, 2, 3, 4, 5, 6, 7, 8, 9, 10, 11, 12, 13, 14, 15, 16, 17, 18, 19, 20, 21, 22, 23, 24] [] [0, 1, 2, 3, 4, 5, 6, 7, 8, 9, 10, 11, 12, 13, 14, 15, 16, 17, 18, 19, 20, 21, 22, 23, 24] 0 (mtX10_gatesOfCut l dC dI cI cB bV bP bS bW bN bO H.size NN mZ_1 mY mB mL mU_2 mJ_3 mK_38 mG mA_39 mP x33 hg) (zCwV 1 C.1 wlX10_302 wiX10_gatesOfCut ws_X10_gatesOfCut wnX10 wkX10_gatesOfCut rfl rfl (by decide +kernel) ⟨Nat.le_of_ble_eq_true rfl, Nat.le_of_ble_eq_true rfl⟩) rfl rfl (by decide +kernel) rfl rfl rfl rfl hl.1 (Nat.le_of_ble_eq_true rfl) dX10_edges_57 ⟨Nat.zero_le _, Nat.zero_le _⟩ rfl (fun H locs hP hD hS => ?_)
      obtain ⟨hib, hf⟩ := zGd_el hf
      obtain ⟨mA_41, emA_41, hf⟩ := zLet_el hf
      refine zIast (kX10 cI cB bV (bP 0) (bS 0) (bW 0) (bN 0) (bO 0) mZ_1 mY mB mL mU_2 mJ_3 mK_38 mG mA_41 ++ kX8 cI cB bP mP) C.1 hK hP hD hS 13 0 rfl rfl hib dX10_edges_60 (by rw [emA_41]; rfl) (fun H locs hP hD hS => ?_)
      obtain ⟨x42, ex42, hf⟩ := zLet_el hf
      refine lv_iinc (v := x42) (lv' := [(2, .int x42), (0, .ref (bV 0)), (1, .int x4)]) C.1.1 C.1.2.1 dX10_edges_61 hl (k := 2) rfl (by rw [ex42]; rfl) (by decide) rfl (fun ls hl => ?_)
      refine lv_goto (tgt := 34) C.1.1 C.1.2.1 dX10_edges_64 (by decide) ?_
      exact ihgo36 x42 mK_38 mA_41 hf H locs hP hD hS ls (lv_sub hl [1, 2, 0] rfl)
  · replace hf := zIf_t hf hc
    refine lv_aload_n C.1.1 C.1.2.1 dX10_edges_12 rfl (lv_at hl 0 rfl) ?_
    refine lv_iconst (v := 4) C.1.1 C.1.2.1 dX10_edges_13 (by decide) ?_
    obtain ⟨v43, mZ_44, hg, hf⟩ := zB2_el hf
    refine zCVi (As := [.int (4 : Int32)]) (rest := []) (wr := (kX8 cI cB bP mP)) (wn := (kX10 cI cB bV (bP 0) (bS 0) (bW 0) (bN 0) (bO 0) mZ_44 mY mB mL mU mJ mK mG mA ++ kX8 cI cB bP mP)) C.1 hK hA hP hD hS [0, 1, 2, 3, 4, 5, 6, 7, 8, 9, 10, 11, 12, 13] [14, 15, 16, 17, 18, 19, 20, 21, 22, 23, 24] [11, 12, 13, 14, 15, 16, 17, 18, 19, 20, 21, 22, 23, 24, 0, 1, 2, 3, 4, 5, 6, 7, 8, 9, 10] 0 (mtX10_refused l dC dI cI cB bV bP bS bW bN bO H.size mZ_1 mY mB mL mU mJ mK mG mA (4 : Int32) hg) (zCwV 1 C.1 wlX10_221 wiX10_refused ws_X10_refused wnX10 wkX10_refused rfl rfl (by decide +kernel) ⟨Nat.le_of_ble_eq_true rfl, Nat.le_of_ble_eq_true rfl⟩) rfl rfl (by decide +kernel) rfl rfl rfl rfl hl.1 (Nat.le_of_ble_eq_true rfl) dX10_edges_14 ⟨Nat.zero_le _, Nat.zero_le _⟩ rfl (fun H locs hP hD hS => ?_)
    cases hf
    rw [← hQ]
    exact zRi C hK hP hD hS dX10_edges_17
def fX10_edge (mZ : Rc) (mG : Rc) (p1 : Int32) : Option (Int32 × Rc) :=
  zLet (rs mZ 0 (fun _ => (0 : Int32))) fun mZ_1 =>
  if p1 < 0 then (
    some ((-1 : Int32), mZ_1)
  ) else (
    if (mG 35 0) ≤ p1 then (
      some ((-1 : Int32), mZ_1)
    ) else (
      zGd (inb p1 4096) <|
      some ((mG 32 p1.toNatClampNeg), mZ_1)
    )
  )
abbrev rX10_edge : Room := { frames := 0, cells := 0, slots := 0, locals := 0 }
set_option maxHeartbeats 4000000 in
set_option maxRecDepth 100000 in
theorem mtX10_edge (l : Launch) (dC : Nat → ClassId) (dI : Nat → Nat → Nat) (cI cB : ClassId) (bV bP bS bW bN bO : Nat → Nat) (sz : Nat) (mZ : Rc) (mY : Rc) (mB : Rc) (mL : Rc) (mU : Rc) (mJ : Rc) (mK : Rc) (mG : Rc) (mA : Rc) (p1 : Int32) {ov : Int32} {mZ' : Rc} (hf : fX10_edge mZ mG p1 = some (ov, mZ')) : zMi l yX10_edge (Cond.code yX10_edge cX10_edge 2 (some .int) :: lw_g) rX10_edge (dC, dI) [(cI, .int), (cB, .byte)] [.ref (bV 0), .int p1] sz (kX10 cI cB bV (bP 0) (bS 0) (bW 0) (bN 0) (bO 0) mZ mY mB mL mU mJ mK mG mA) ov (kX10 cI cB bV (bP 0) (bS 0) (bW 0) (bN 0) (bO 0) mZ' mY mB mL mU mJ mK mG mA) := by
  refine zSt (cc := cX10_edge) (maxL := 2) (ret := (some .int)) (own := RX10) (fun A => zQi (dC, dI) [(cI, .int), (cB, .byte)] A ov (kX10 cI cB bV (bP 0) (bS 0) (bW 0) (bN 0) (bO 0) mZ' mY mB mL mU mJ mK mG mA)) (by decide) rfl rfl (Nat.le_of_ble_eq_true rfl) ?_
  intro p e s m below meth c ls A H locs C hK hA hP hD hS hl
  generalize hQ : MQ below (zQi (dC, dI) [(cI, .int), (cB, .byte)] A ov (kX10 cI cB bV (bP 0) (bS 0) (bW 0) (bN 0) (bO 0) mZ' mY mB mL mU mJ mK mG mA)) _ s 0 0 A = QQ
  generalize ([.ref (bV 0), .int p1] : List Value).toArray = args at C hQ ⊢
  have hl : lv_has ls 2 [(0, .ref (bV 0)), (1, .int p1)] := hl
  unfold fX10_edge at hf
  refine lv_aload_n C.1.1 C.1.2.1 dX10_edge_0 rfl (lv_at hl 0 rfl) ?_
  refine lv_iconst (v := 0) C.1.1 C.1.2.1 dX10_edge_1 (by decide) ?_
  obtain ⟨mZ_1, emZ_1, hf⟩ := zLet_el hf
  refine zPut (ty := .int) (kX10 cI cB bV (bP 0) (bS 0) (bW 0) (bN 0) (bO 0) mZ_1 mY mB mL mU mJ mK mG mA) C.1 wuX10 tyX10 tyX10_ok nmX10 hK hP hD hS 0 rfl rfl 0 (by decide) wfX10_86 rfl rfl (by decide +kernel) rfl rfl (Nat.le_of_ble_eq_true rfl) dX10_edge_2 (by rw [emZ_1]; rfl) (fun H locs hP hD hS => ?_)
  refine lv_iload_n C.1.1 C.1.2.1 dX10_edge_5 rfl (lv_at hl 1 rfl) ?_
  refine lv_if_lt (tgt := 26) C.1.1 C.1.2.1 dX10_edge_6 (by decide) (fun hc => ?_) (fun hc => ?_)
  · replace hf := zIf_t hf hc
    refine lv_iconst (v := (-1)) C.1.1 C.1.2.1 dX10_edge_26 (by decide) ?_
    cases hf
    rw [← hQ]
    exact zRi C hK hP hD hS dX10_edge_27
  · replace hf := zIf_f hf hc
    refine lv_iload_n C.1.1 C.1.2.1 dX10_edge_9 rfl (lv_at hl 1 rfl) ?_
    refine lv_aload_n C.1.1 C.1.2.1 dX10_edge_10 rfl (lv_at hl 0 rfl) ?_
    refine zGet (.int (mG 35 0)) C.1 wuX10 hK hP 0 rfl rfl 35 (by decide) wfX10_312 rfl rfl dX10_edge_11 ?_
    refine lv_icmp_ge (tgt := 26) C.1.1 C.1.2.1 dX10_edge_14 (by decide) (fun hc => ?_) (fun hc => ?_)
    · replace hf := zIf_t hf hc
      refine lv_iconst (v := (-1)) C.1.1 C.1.2.1 dX10_edge_26 (by decide) ?_
      cases hf
      rw [← hQ]
      exact zRi C hK hP hD hS dX10_edge_27
    · replace hf := zIf_f hf hc
      refine lv_aload_n C.1.1 C.1.2.1 dX10_edge_17 rfl (lv_at hl 0 rfl) ?_
      refine zGet (.ref (bV 11)) C.1 wuX10 hK hP 0 rfl rfl 32 (by decide) wfX10_77 rfl rfl dX10_edge_18 ?_
      refine lv_iload_n C.1.1 C.1.2.1 dX10_edge_21 rfl (lv_at hl 1 rfl) ?_
      obtain ⟨hib, hf⟩ := zGd_el hf
      refine va_iald C.1.1 C.1.2.1 hK.1 hP 11 0 rfl rfl hib dX10_edge_22 ?_
      refine lv_goto (tgt := 27) C.1.1 C.1.2.1 dX10_edge_23 (by decide) ?_
      cases hf
      rw [← hQ]
      exact zRi C hK hP hD hS dX10_edge_27
