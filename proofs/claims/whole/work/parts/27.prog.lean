def fX5_exchange  : Option (Unit) :=
  some ()
abbrev rX5_exchange : Room := { frames := 0, cells := 0, slots := 0, locals := 0 }
set_option maxHeartbeats 4000000 in
set_option maxRecDepth 100000 in
theorem mtX5_exchange (l : Launch) (dC : Nat → ClassId) (dI : Nat → Nat → Nat) (cI cB : ClassId) (aR aT aS aP : Nat → Nat) (sz : Nat) (oR : Rc) (hf : fX5_exchange = some ()) : zMr l yX5_exchange (Cond.code yX5_exchange cX5_exchange 3 (some (.object "HalfGates$Program")) :: lw_g) rX5_exchange (dC, dI) [(cI, .int), (cB, .byte)] [.ref (aR 0), .ref (aP 0)] sz (kX5 cI cB aR (aT 0) (aS 0) oR) (aS 0) (kX5 cI cB aR (aT 0) (aP 0) oR) := by
  refine zSt (cc := cX5_exchange) (maxL := 3) (ret := (some (.object "HalfGates$Program"))) (own := RX5) (fun A => zQr (dC, dI) [(cI, .int), (cB, .byte)] A (aS 0) (kX5 cI cB aR (aT 0) (aP 0) oR)) (by decide) rfl rfl (Nat.le_of_ble_eq_true rfl) ?_
  intro p e s m below meth c ls A H locs C hK hA hP hD hS hl
  generalize hQ : MQ below (zQr (dC, dI) [(cI, .int), (cB, .byte)] A (aS 0) (kX5 cI cB aR (aT 0) (aP 0) oR)) _ s 0 0 A = QQ
  generalize ([.ref (aR 0), .ref (aP 0)] : List Value).toArray = args at C hQ ⊢
  have hl : lv_has ls 3 [(0, .ref (aR 0)), (1, .ref (aP 0))] := hl
  unfold fX5_exchange at hf
  refine lv_aload_n C.1.1 C.1.2.1 dX5_exchange_0 rfl (lv_at hl 0 rfl) ?_
  refine zGet (.ref (aS 0)) C.1 wuX5 hK hP 0 rfl rfl 1 (by decide) wfX5_21 rfl rfl dX5_exchange_1 ?_
  refine lv_astore_n (lv' := [(2, .ref (aS 0)), (0, .ref (aR 0)), (1, .ref (aP 0))]) C.1.1 C.1.2.1 dX5_exchange_4 rfl hl (by decide) rfl (fun ls hl => ?_)
  refine lv_aload_n C.1.1 C.1.2.1 dX5_exchange_5 rfl (lv_at hl 1 rfl) ?_
  refine lv_aload_n C.1.1 C.1.2.1 dX5_exchange_6 rfl (lv_at hl 2 rfl) ?_
  refine zPut (ty := .object "HalfGates$Program") (kX5 cI cB aR (aT 0) (aP 0) oR) C.1 wuX5 tyX5 tyX5_ok nmX5 hK hP hD hS 0 rfl rfl 1 (by decide) wfX5_21 rfl rfl (by decide +kernel) rfl rfl (Nat.le_of_ble_eq_true rfl) dX5_exchange_7 rfl (fun H locs hP hD hS => ?_)
  refine lv_aload_n C.1.1 C.1.2.1 dX5_exchange_10 rfl (lv_at hl 0 rfl) ?_
  cases hf
  rw [← hQ]
  exact zRr C hK hP hD hS dX5_exchange_11
def fX7_program (NN : Nat) (oH : Rc) (oR : Rc) (oT : Rc) (oS : Rc) (oP : Rc) (oE : Rc) (oQ : Rc) (oC : Rc) (p1 : Int32) : Option (Int32 × Bool × Rc × Rc × Rc × Rc × Rc × Rc × Rc × Rc) :=
  zJn (fun (t1 : Int32) =>
      zB2 (fX7_refused oH t1) fun v3 oH_4 =>
      if v3 = 0 then (
        zB4 (fX5_read NN oR oT oS p1) fun v5 oR_6 oT_7 oS_8 =>
        zJn (fun (t9 : Int32) =>
            zB2 (fX7_refused oH_4 t9) fun v11 oH_12 =>
            if v11 = 0 then (
              zB1 (fX5_exchange) fun _ =>
              zB3 (fX7_refresh NN oH_12 oS_8 oE oQ oC) fun oE_13 oQ_14 oC_15 =>
              some ((oS_8 0 0), true, oH_12, oR_6, oT_7, oP, oS_8, oE_13, oQ_14, oC_15)
            ) else (
              some ((-1 : Int32), false, oH_12, oR_6, oT_7, oS_8, oP, oE, oQ, oC)
            )
          ) fun J49_10 =>
        if v5 = 0 then (
          J49_10 (3 : Int32)
        ) else (
          J49_10 (0 : Int32)
        )
      ) else (
        some ((-1 : Int32), false, oH_4, oR, oT, oS, oP, oE, oQ, oC)
      )
    ) fun J24_2 =>
  zJn (fun (_ : Unit) =>
      J24_2 (2 : Int32)
    ) fun J19_16 =>
  if p1 < 0 then (
    J19_16 ()
  ) else (
    if p1 ≤ (oT 1 0) then (
      J24_2 (0 : Int32)
    ) else (
      J19_16 ()
    )
  )
abbrev rX7_program : Room := { frames := 6, cells := 0, slots := 0, locals := 141 }
set_option maxHeartbeats 4000000 in
set_option maxRecDepth 100000 in
theorem mtX7_program (l : Launch) (dC : Nat → ClassId) (dI : Nat → Nat → Nat) (cI cB : ClassId) (aH aR aT aS aP aM aE aQ aC : Nat → Nat) (sz : Nat) (NN : Nat) (oH : Rc) (oR : Rc) (oT : Rc) (oS : Rc) (oP : Rc) (oE : Rc) (oQ : Rc) (oC : Rc) (p1 : Int32) {ov : Int32} {osw : Bool} {oH' : Rc} {oR' : Rc} {oT' : Rc} {oS' : Rc} {oP' : Rc} {oE' : Rc} {oQ' : Rc} {oC' : Rc} (hf : fX7_program NN oH oR oT oS oP oE oQ oC p1 = some (ov, osw, oH', oR', oT', oS', oP', oE', oQ', oC')) : zMi l yX7_program (Cond.code yX7_program cX7_program 2 (some .int) :: lw_g) rX7_program (dC, dI) [(cI, .int), (cB, .byte)] [.ref (aH 0), .int p1] sz (kX7 cI cB aH (aR 0) (aM 0) (aE 0) (aC 0) (aP 0) oH ++ kX5 cI cB aR (aT 0) (aS 0) oR ++ kX6 cI cB aT oT ++ kX4 cI cB aS oS ++ kX4 cI cB aP oP ++ kX2 cI cB aE (aQ 0) oE ++ kX3 cI cB aQ oQ ++ kX0 cI cB aC oC) ov (kX7 cI cB aH (aR 0) (aM 0) (aE 0) (aC 0) ((zsw osw aP aS) 0) oH' ++ kX5 cI cB aR (aT 0) ((zsw osw aS aP) 0) oR' ++ kX6 cI cB aT oT' ++ kX4 cI cB (zsw osw aS aP) oS' ++ kX4 cI cB (zsw osw aP aS) oP' ++ kX2 cI cB aE (aQ 0) oE' ++ kX3 cI cB aQ oQ' ++ kX0 cI cB aC oC') := by
  refine zSt (cc := cX7_program) (maxL := 2) (ret := (some .int)) (own := RX7) (fun A => zQi (dC, dI) [(cI, .int), (cB, .byte)] A ov (kX7 cI cB aH (aR 0) (aM 0) (aE 0) (aC 0) ((zsw osw aP aS) 0) oH' ++ kX5 cI cB aR (aT 0) ((zsw osw aS aP) 0) oR' ++ kX6 cI cB aT oT' ++ kX4 cI cB (zsw osw aS aP) oS' ++ kX4 cI cB (zsw osw aP aS) oP' ++ kX2 cI cB aE (aQ 0) oE' ++ kX3 cI cB aQ oQ' ++ kX0 cI cB aC oC')) (by decide) rfl rfl (Nat.le_of_ble_eq_true rfl) ?_
  intro p e s m below meth c ls A H locs C hK hA hP hD hS hl
  generalize hQ : MQ below (zQi (dC, dI) [(cI, .int), (cB, .byte)] A ov (kX7 cI cB aH (aR 0) (aM 0) (aE 0) (aC 0) ((zsw osw aP aS) 0) oH' ++ kX5 cI cB aR (aT 0) ((zsw osw aS aP) 0) oR' ++ kX6 cI cB aT oT' ++ kX4 cI cB (zsw osw aS aP) oS' ++ kX4 cI cB (zsw osw aP aS) oP' ++ kX2 cI cB aE (aQ 0) oE' ++ kX3 cI cB aQ oQ' ++ kX0 cI cB aC oC')) _ s 0 0 A = QQ
  generalize ([.ref (aH 0), .int p1] : List Value).toArray = args at C hQ ⊢
  have hl : lv_has ls 2 [(0, .ref (aH 0)), (1, .int p1)] := hl
  unfold fX7_program at hf
  refine lv_aload_n C.1.1 C.1.2.1 dX7_program_0 rfl (lv_at hl 0 rfl) ?_
  refine lv_iload_n C.1.1 C.1.2.1 dX7_program_1 rfl (lv_at hl 1 rfl) ?_
  obtain ⟨J24_2, eJ24_2, hf⟩ := zJn_el hf
  have hJ24_2 : ∀ (t1 : Int32), J24_2 t1 = some (ov, osw, oH', oR', oT', oS', oP', oE', oQ', oC') → ∀ (H : Heap) (locs : List Loc), va_P (dC, dI) vwCl (kX7 cI cB aH (aR 0) (aM 0) (aE 0) (aC 0) (aP 0) oH ++ kX5 cI cB aR (aT 0) (aS 0) oR ++ kX6 cI cB aT oT ++ kX4 cI cB aS oS ++ kX4 cI cB aP oP ++ kX2 cI cB aE (aQ 0) oE ++ kX3 cI cB aQ oQ ++ kX0 cI cB aC oC) H → va_D A (kX7 cI cB aH (aR 0) (aM 0) (aE 0) (aC 0) (aP 0) oH ++ kX5 cI cB aR (aT 0) (aS 0) oR ++ kX6 cI cB aT oT ++ kX4 cI cB aS oS ++ kX4 cI cB aP oP ++ kX2 cI cB aE (aQ 0) oE ++ kX3 cI cB aQ oQ ++ kX0 cI cB aC oC) → va_S A s.heap H locs → ∀ (ls : Array Slot), lv_has ls 2 [(0, .ref (aH 0)), (1, .int p1)] → W p l e rX7_program s m args below meth c H locs 0 0 QQ (F0 m 24 ls [.int t1, .ref (aH 0)]) := by
    intro t1 hf H locs hP hD hS ls hl
    rw [eJ24_2] at hf
    obtain ⟨v3, oH_4, hg, hf⟩ := zB2_el hf
    refine zCVi (As := [.int t1]) (rest := []) (wr := (kX5 cI cB aR (aT 0) (aS 0) oR ++ kX6 cI cB aT oT ++ kX4 cI cB aS oS ++ kX4 cI cB aP oP ++ kX2 cI cB aE (aQ 0) oE ++ kX3 cI cB aQ oQ ++ kX0 cI cB aC oC)) (wn := (kX7 cI cB aH (aR 0) (aM 0) (aE 0) (aC 0) (aP 0) oH_4 ++ kX5 cI cB aR (aT 0) (aS 0) oR ++ kX6 cI cB aT oT ++ kX4 cI cB aS oS ++ kX4 cI cB aP oP ++ kX2 cI cB aE (aQ 0) oE ++ kX3 cI cB aQ oQ ++ kX0 cI cB aC oC)) C.1 hK hA hP hD hS [0, 1] [2, 3, 4, 5, 6, 7, 8, 9, 10, 11, 12, 13, 14, 15, 16, 17, 18, 19, 20, 21, 22, 23, 24, 25, 26, 27, 28, 29, 30, 31, 32, 33, 34, 35, 36, 37, 38, 39, 40, 41, 42, 43] [42, 43, 0, 1, 2, 3, 4, 5, 6, 7, 8, 9, 10, 11, 12, 13, 14, 15, 16, 17, 18, 19, 20, 21, 22, 23, 24, 25, 26, 27, 28, 29, 30, 31, 32, 33, 34, 35, 36, 37, 38, 39, 40, 41] 0 (mtX7_refused l dC dI cI cB aH aR aP aM aE aC H.size oH t1 hg) (zCwV 1 C.1 wlX7_64 wiX7_refused ws_X7_refused wnX7 wkX7_refused rfl rfl (by decide +kernel) ⟨Nat.le_of_ble_eq_true rfl, Nat.le_of_ble_eq_true rfl⟩) rfl rfl (by decide +kernel) rfl rfl rfl rfl hl.1 (Nat.le_of_ble_eq_true rfl) dX7_program_24 ⟨Nat.zero_le _, Nat.zero_le _⟩ rfl (fun H locs hP hD hS => ?_)
    refine lv_if_eq (tgt := 32) C.1.1 C.1.2.1 dX7_program_27 (by decide) (fun hc => ?_) (fun hc => ?_)
    · replace hf := zIf_t hf hc
      refine lv_aload_n C.1.1 C.1.2.1 dX7_program_32 rfl (lv_at hl 0 rfl) ?_
      refine lv_aload_n C.1.1 C.1.2.1 dX7_program_33 rfl (lv_at hl 0 rfl) ?_
      refine zGet (.ref (aR 0)) C.1 wuX7 hK hP 0 rfl rfl 0 (by decide) wfX7_12 rfl rfl dX7_program_34 ?_
      refine lv_iload_n C.1.1 C.1.2.1 dX7_program_37 rfl (lv_at hl 1 rfl) ?_
      obtain ⟨v5, oR_6, oT_7, oS_8, hg, hf⟩ := zB4_el hf
      refine zCVi (As := [.int p1]) (rest := [.ref (aH 0)]) (wr := (kX7 cI cB aH (aR 0) (aM 0) (aE 0) (aC 0) (aP 0) oH_4 ++ kX4 cI cB aP oP ++ kX2 cI cB aE (aQ 0) oE ++ kX3 cI cB aQ oQ ++ kX0 cI cB aC oC)) (wn := (kX7 cI cB aH (aR 0) (aM 0) (aE 0) (aC 0) (aP 0) oH_4 ++ kX5 cI cB aR (aT 0) (aS 0) oR_6 ++ kX6 cI cB aT oT_7 ++ kX4 cI cB aS oS_8 ++ kX4 cI cB aP oP ++ kX2 cI cB aE (aQ 0) oE ++ kX3 cI cB aQ oQ ++ kX0 cI cB aC oC)) C.1 hK hA hP hD hS [2, 3, 4, 5, 6, 7, 8, 9, 10, 11, 12, 13, 14, 15, 16] [0, 1, 17, 18, 19, 20, 21, 22, 23, 24, 25, 26, 27, 28, 29, 30, 31, 32, 33, 34, 35, 36, 37, 38, 39, 40, 41, 42, 43] [0, 1, 29, 30, 31, 32, 33, 34, 35, 36, 37, 38, 39, 40, 41, 42, 43, 2, 3, 4, 5, 6, 7, 8, 9, 10, 11, 12, 13, 14, 15, 16, 17, 18, 19, 20, 21, 22, 23, 24, 25, 26, 27, 28] 0 (mtX5_read l dC dI cI cB aR aT aS H.size NN oR oT oS p1 hg) (zCwV 1 C.1 wlX7_91 wiX5_read ws_X5_read wnX5 wkX5_read rfl rfl (by decide +kernel) ⟨Nat.le_of_ble_eq_true rfl, Nat.le_of_ble_eq_true rfl⟩) rfl rfl (by decide +kernel) rfl rfl rfl rfl hl.1 (Nat.le_of_ble_eq_true rfl) dX7_program_38 ⟨Nat.zero_le _, Nat.zero_le _⟩ rfl (fun H locs hP hD hS => ?_)
      obtain ⟨J49_10, eJ49_10, hf⟩ := zJn_el hf
      have hJ49_10 : ∀ (t9 : Int32), J49_10 t9 = some (ov, osw, oH', oR', oT', oS', oP', oE', oQ', oC') → ∀ (H : Heap) (locs : List Loc), va_P (dC, dI) vwCl (kX7 cI cB aH (aR 0) (aM 0) (aE 0) (aC 0) (aP 0) oH_4 ++ kX5 cI cB aR (aT 0) (aS 0) oR_6 ++ kX6 cI cB aT oT_7 ++ kX4 cI cB aS oS_8 ++ kX4 cI cB aP oP ++ kX2 cI cB aE (aQ 0) oE ++ kX3 cI cB aQ oQ ++ kX0 cI cB aC oC) H → va_D A (kX7 cI cB aH (aR 0) (aM 0) (aE 0) (aC 0) (aP 0) oH_4 ++ kX5 cI cB aR (aT 0) (aS 0) oR_6 ++ kX6 cI cB aT oT_7 ++ kX4 cI cB aS oS_8 ++ kX4 cI cB aP oP ++ kX2 cI cB aE (aQ 0) oE ++ kX3 cI cB aQ oQ ++ kX0 cI cB aC oC) → va_S A s.heap H locs → ∀ (ls : Array Slot), lv_has ls 2 [(0, .ref (aH 0))] → W p l e rX7_program s m args below meth c H locs 0 0 QQ (F0 m 49 ls [.int t9, .ref (aH 0)]) := by
        intro t9 hf H locs hP hD hS ls hl
        rw [eJ49_10] at hf
        obtain ⟨v11, oH_12, hg, hf⟩ := zB2_el hf
        refine zCVi (As := [.int t9]) (rest := []) (wr := (kX5 cI cB aR (aT 0) (aS 0) oR_6 ++ kX6 cI cB aT oT_7 ++ kX4 cI cB aS oS_8 ++ kX4 cI cB aP oP ++ kX2 cI cB aE (aQ 0) oE ++ kX3 cI cB aQ oQ ++ kX0 cI cB aC oC)) (wn := (kX7 cI cB aH (aR 0) (aM 0) (aE 0) (aC 0) (aP 0) oH_12 ++ kX5 cI cB aR (aT 0) (aS 0) oR_6 ++ kX6 cI cB aT oT_7 ++ kX4 cI cB aS oS_8 ++ kX4 cI cB aP oP ++ kX2 cI cB aE (aQ 0) oE ++ kX3 cI cB aQ oQ ++ kX0 cI cB aC oC)) C.1 hK hA hP hD hS [0, 1] [2, 3, 4, 5, 6, 7, 8, 9, 10, 11, 12, 13, 14, 15, 16, 17, 18, 19, 20, 21, 22, 23, 24, 25, 26, 27, 28, 29, 30, 31, 32, 33, 34, 35, 36, 37, 38, 39, 40, 41, 42, 43] [42, 43, 0, 1, 2, 3, 4, 5, 6, 7, 8, 9, 10, 11, 12, 13, 14, 15, 16, 17, 18, 19, 20, 21, 22, 23, 24, 25, 26, 27, 28, 29, 30, 31, 32, 33, 34, 35, 36, 37, 38, 39, 40, 41] 0 (mtX7_refused l dC dI cI cB aH aR aP aM aE aC H.size oH_4 t9 hg) (zCwV 1 C.1 wlX7_64 wiX7_refused ws_X7_refused wnX7 wkX7_refused rfl rfl (by decide +kernel) ⟨Nat.le_of_ble_eq_true rfl, Nat.le_of_ble_eq_true rfl⟩) rfl rfl (by decide +kernel) rfl rfl rfl rfl hl.1 (Nat.le_of_ble_eq_true rfl) dX7_program_49 ⟨Nat.zero_le _, Nat.zero_le _⟩ rfl (fun H locs hP hD hS => ?_)
        refine lv_if_eq (tgt := 57) C.1.1 C.1.2.1 dX7_program_52 (by decide) (fun hc => ?_) (fun hc => ?_)
        · replace hf := zIf_t hf hc
          refine lv_aload_n C.1.1 C.1.2.1 dX7_program_57 rfl (lv_at hl 0 rfl) ?_
          refine lv_aload_n C.1.1 C.1.2.1 dX7_program_58 rfl (lv_at hl 0 rfl) ?_
          refine zGet (.ref (aR 0)) C.1 wuX7 hK hP 0 rfl rfl 0 (by decide) wfX7_12 rfl rfl dX7_program_59 ?_
          refine lv_aload_n C.1.1 C.1.2.1 dX7_program_62 rfl (lv_at hl 0 rfl) ?_
          refine zGet (.ref (aP 0)) C.1 wuX7 hK hP 0 rfl rfl 6 (by decide) wfX7_48 rfl rfl dX7_program_63 ?_
          obtain ⟨_, hg, hf⟩ := zB1_el hf
          refine zCVr (As := [.ref (aP 0)]) (rest := [.ref (aH 0)]) (wr := (kX7 cI cB aH (aR 0) (aM 0) (aE 0) (aC 0) (aP 0) oH_12 ++ kX6 cI cB aT oT_7 ++ kX4 cI cB aS oS_8 ++ kX4 cI cB aP oP ++ kX2 cI cB aE (aQ 0) oE ++ kX3 cI cB aQ oQ ++ kX0 cI cB aC oC)) (wn := (kX7 cI cB aH (aR 0) (aM 0) (aE 0) (aC 0) (aP 0) oH_12 ++ kX5 cI cB aR (aT 0) (aP 0) oR_6 ++ kX6 cI cB aT oT_7 ++ kX4 cI cB aS oS_8 ++ kX4 cI cB aP oP ++ kX2 cI cB aE (aQ 0) oE ++ kX3 cI cB aQ oQ ++ kX0 cI cB aC oC)) C.1 hK hA hP hD hS [2, 3, 4] [0, 1, 5, 6, 7, 8, 9, 10, 11, 12, 13, 14, 15, 16, 17, 18, 19, 20, 21, 22, 23, 24, 25, 26, 27, 28, 29, 30, 31, 32, 33, 34, 35, 36, 37, 38, 39, 40, 41, 42, 43] [0, 1, 41, 42, 43, 2, 3, 4, 5, 6, 7, 8, 9, 10, 11, 12, 13, 14, 15, 16, 17, 18, 19, 20, 21, 22, 23, 24, 25, 26, 27, 28, 29, 30, 31, 32, 33, 34, 35, 36, 37, 38, 39, 40] 0 (mtX5_exchange l dC dI cI cB aR aT aS aP H.size oR_6 hg) (zCwV 1 C.1 wlX7_94 wiX5_exchange ws_X5_exchange wnX5 wkX5_exchange rfl rfl (by decide +kernel) ⟨Nat.le_of_ble_eq_true rfl, Nat.le_of_ble_eq_true rfl⟩) rfl rfl (by decide +kernel) rfl rfl rfl rfl hl.1 (Nat.le_of_ble_eq_true rfl) dX7_program_66 ⟨Nat.zero_le _, Nat.zero_le _⟩ rfl (fun H locs hP hD hS => ?_)
          refine zPut (ty := .object "HalfGates$Program") (kX7 cI cB aH (aR 0) (aM 0) (aE 0) (aC 0) (aS 0) oH_12 ++ kX5 cI cB aR (aT 0) (aP 0) oR_6 ++ kX6 cI cB aT oT_7 ++ kX4 cI cB aS oS_8 ++ kX4 cI cB aP oP ++ kX2 cI cB aE (aQ 0) oE ++ kX3 cI cB aQ oQ ++ kX0 cI cB aC oC) C.1 wuX7 tyX7 tyX7_ok nmX7 hK hP hD hS 0 rfl rfl 6 (by decide) wfX7_48 rfl rfl (by decide +kernel) rfl rfl (Nat.le_of_ble_eq_true rfl) dX7_program_69 rfl (fun H locs hP hD hS => ?_)
          refine lv_aload_n C.1.1 C.1.2.1 dX7_program_72 rfl (lv_at hl 0 rfl) ?_
          obtain ⟨oE_13, oQ_14, oC_15, hg, hf⟩ := zB3_el hf
          refine zCVv (As := []) (rest := []) (wr := (kX5 cI cB aR (aT 0) (aP 0) oR_6 ++ kX6 cI cB aT oT_7 ++ kX4 cI cB aP oP)) (wn := (kX7 cI cB aH (aR 0) (aM 0) (aE 0) (aC 0) (aS 0) oH_12 ++ kX5 cI cB aR (aT 0) (aP 0) oR_6 ++ kX6 cI cB aT oT_7 ++ kX4 cI cB aS oS_8 ++ kX4 cI cB aP oP ++ kX2 cI cB aE (aQ 0) oE_13 ++ kX3 cI cB aQ oQ_14 ++ kX0 cI cB aC oC_15)) C.1 hK hA hP hD hS [0, 1, 7, 8, 9, 10, 11, 12, 13, 14, 15, 16, 27, 28, 29, 30, 31, 32, 33, 34, 35, 36, 37, 38, 39, 40, 41, 42, 43] [2, 3, 4, 5, 6, 17, 18, 19, 20, 21, 22, 23, 24, 25, 26] [15, 16, 0, 1, 2, 3, 4, 17, 18, 19, 20, 21, 22, 23, 24, 25, 26, 5, 6, 7, 8, 9, 10, 11, 12, 13, 14, 27, 28, 29, 30, 31, 32, 33, 34, 35, 36, 37, 38, 39, 40, 41, 42, 43] 0 (mtX7_refresh l dC dI cI cB aH aR aS aM aE aQ aC H.size NN oH_12 oS_8 oE oQ oC hg) (zCwV 0 C.1 wlX7_76 wiX7_refresh ws_X7_refresh wnX7 wkX7_refresh rfl rfl (by decide +kernel) ⟨Nat.le_of_ble_eq_true rfl, Nat.le_of_ble_eq_true rfl⟩) rfl rfl (by decide +kernel) rfl rfl rfl rfl hl.1 (Nat.le_of_ble_eq_true rfl) dX7_program_73 ⟨Nat.zero_le _, Nat.zero_le _⟩ rfl (fun H locs hP hD hS => ?_)
          refine lv_aload_n C.1.1 C.1.2.1 dX7_program_76 rfl (lv_at hl 0 rfl) ?_
          refine zGet (.ref (aS 0)) C.1 wuX7 hK hP 0 rfl rfl 6 (by decide) wfX7_48 rfl rfl dX7_program_77 ?_
          refine zGet (.int (oS_8 0 0)) C.1 wuX4 hK hP 7 rfl rfl 0 (by decide) wfX7_98 rfl rfl dX7_program_80 ?_
          replace hP := hP.sub (ws' := (kX7 cI cB aH (aR 0) (aM 0) (aE 0) (aC 0) (aS 0) oH_12 ++ kX5 cI cB aR (aT 0) (aP 0) oR_6 ++ kX6 cI cB aT oT_7 ++ kX4 cI cB aP oP ++ kX4 cI cB aS oS_8 ++ kX2 cI cB aE (aQ 0) oE_13 ++ kX3 cI cB aQ oQ_14 ++ kX0 cI cB aC oC_15)) [0, 1, 2, 3, 4, 5, 6, 17, 18, 19, 20, 21, 22, 23, 24, 25, 26, 7, 8, 9, 10, 11, 12, 13, 14, 15, 16, 27, 28, 29, 30, 31, 32, 33, 34, 35, 36, 37, 38, 39, 40, 41, 42, 43] rfl
          replace hD := hD.sub (ws' := (kX7 cI cB aH (aR 0) (aM 0) (aE 0) (aC 0) (aS 0) oH_12 ++ kX5 cI cB aR (aT 0) (aP 0) oR_6 ++ kX6 cI cB aT oT_7 ++ kX4 cI cB aP oP ++ kX4 cI cB aS oS_8 ++ kX2 cI cB aE (aQ 0) oE_13 ++ kX3 cI cB aQ oQ_14 ++ kX0 cI cB aC oC_15)) [0, 1, 2, 3, 4, 5, 6, 17, 18, 19, 20, 21, 22, 23, 24, 25, 26, 7, 8, 9, 10, 11, 12, 13, 14, 15, 16, 27, 28, 29, 30, 31, 32, 33, 34, 35, 36, 37, 38, 39, 40, 41, 42, 43] (by decide +kernel) rfl
          cases hf
          rw [← hQ]
          exact zRi C hK hP hD hS dX7_program_83
        · replace hf := zIf_f hf hc
          refine lv_iconst (v := (-1)) C.1.1 C.1.2.1 dX7_program_55 (by decide) ?_
          cases hf
          rw [← hQ]
          exact zRi C hK hP hD hS dX7_program_56
      refine lv_if_eq (tgt := 48) C.1.1 C.1.2.1 dX7_program_41 (by decide) (fun hc => ?_) (fun hc => ?_)
      · replace hf := zIf_t hf hc
        refine lv_iconst (v := 3) C.1.1 C.1.2.1 dX7_program_48 (by decide) ?_
        exact hJ49_10 (3 : Int32) hf H locs hP hD hS ls (lv_sub hl [0] rfl)
      · replace hf := zIf_f hf hc
        refine lv_iconst (v := 0) C.1.1 C.1.2.1 dX7_program_44 (by decide) ?_
        refine lv_goto (tgt := 49) C.1.1 C.1.2.1 dX7_program_45 (by decide) ?_
        exact hJ49_10 (0 : Int32) hf H locs hP hD hS ls (lv_sub hl [0] rfl)
    · replace hf := zIf_f hf hc
      refine lv_iconst (v := (-1)) C.1.1 C.1.2.1 dX7_program_30 (by decide) ?_
      cases hf
      rw [← hQ]
      exact zRi C hK hP hD hS dX7_program_31
  obtain ⟨J19_16, eJ19_16, hf⟩ := zJn_el hf
  have hJ19_16 : ∀ (u : Unit), J19_16 u = some (ov, osw, oH', oR', oT', oS', oP', oE', oQ', oC') → ∀ (H : Heap) (locs : List Loc), va_P (dC, dI) vwCl (kX7 cI cB aH (aR 0) (aM 0) (aE 0) (aC 0) (aP 0) oH ++ kX5 cI cB aR (aT 0) (aS 0) oR ++ kX6 cI cB aT oT ++ kX4 cI cB aS oS ++ kX4 cI cB aP oP ++ kX2 cI cB aE (aQ 0) oE ++ kX3 cI cB aQ oQ ++ kX0 cI cB aC oC) H → va_D A (kX7 cI cB aH (aR 0) (aM 0) (aE 0) (aC 0) (aP 0) oH ++ kX5 cI cB aR (aT 0) (aS 0) oR ++ kX6 cI cB aT oT ++ kX4 cI cB aS oS ++ kX4 cI cB aP oP ++ kX2 cI cB aE (aQ 0) oE ++ kX3 cI cB aQ oQ ++ kX0 cI cB aC oC) → va_S A s.heap H locs → ∀ (ls : Array Slot), lv_has ls 2 [(0, .ref (aH 0)), (1, .int p1)] → W p l e rX7_program s m args below meth c H locs 0 0 QQ (F0 m 19 ls [.ref (aH 0)]) := by
    intro u hf H locs hP hD hS ls hl
    rw [eJ19_16] at hf
    refine lv_iconst (v := 2) C.1.1 C.1.2.1 dX7_program_19 (by decide) ?_
    refine lv_goto (tgt := 24) C.1.1 C.1.2.1 dX7_program_20 (by decide) ?_
    exact hJ24_2 (2 : Int32) hf H locs hP hD hS ls (lv_sub hl [0, 1] rfl)
  refine lv_if_lt (tgt := 19) C.1.1 C.1.2.1 dX7_program_2 (by decide) (fun hc => ?_) (fun hc => ?_)
  · replace hf := zIf_t hf hc
    exact hJ19_16 () hf H locs hP hD hS ls (lv_sub hl [0, 1] rfl)
  · replace hf := zIf_f hf hc
    refine lv_iload_n C.1.1 C.1.2.1 dX7_program_5 rfl (lv_at hl 1 rfl) ?_
    refine lv_aload_n C.1.1 C.1.2.1 dX7_program_6 rfl (lv_at hl 0 rfl) ?_
    refine zGet (.ref (aR 0)) C.1 wuX7 hK hP 0 rfl rfl 0 (by decide) wfX7_12 rfl rfl dX7_program_7 ?_
    refine zGet (.ref (aT 0)) C.1 wuX5 hK hP 2 rfl rfl 0 (by decide) wfX7_79 rfl rfl dX7_program_10 ?_
    refine zGet (.int (oT 1 0)) C.1 wuX6 hK hP 5 rfl rfl 1 (by decide) wfX7_83 rfl rfl dX7_program_13 ?_
    refine lv_icmp_le (tgt := 23) C.1.1 C.1.2.1 dX7_program_16 (by decide) (fun hc => ?_) (fun hc => ?_)
    · replace hf := zIf_t hf hc
      refine lv_iconst (v := 0) C.1.1 C.1.2.1 dX7_program_23 (by decide) ?_
      exact hJ24_2 (0 : Int32) hf H locs hP hD hS ls (lv_sub hl [0, 1] rfl)
    · replace hf := zIf_f hf hc
      exact hJ19_16 () hf H locs hP hD hS ls (lv_sub hl [0, 1] rfl)
def fX10_program (NN : Nat) (mZ : Rc) (mY : Rc) (mB : Rc) (mL : Rc) (mP : Rc) (mS : Rc) (mW : Rc) (p1 : Int32) : Option (Int32 × Bool × Rc × Rc × Rc × Rc × Rc × Rc × Rc) :=
  zLet (rs mZ 0 (fun _ => (0 : Int32))) fun mZ_1 =>
  zJn (fun (_ : Unit) =>
      zB2 (fX10_refused mZ_1 (2 : Int32)) fun v3 mZ_4 =>
      some (v3, false, mZ_4, mY, mB, mL, mP, mS, mW)
    ) fun J17_2 =>
  if p1 < 0 then (
    J17_2 ()
  ) else (
    if p1 ≤ (mB 12 0) then (
      zLet (rs mL 13 (fun _ => p1)) fun mL_5 =>
      zLet (rs mB 12 (fun _ => (0 : Int32))) fun mB_6 =>
      zLet (rs mL_5 14 (fun _ => (0 : Int32))) fun mL_7 =>
      zLet (rs mZ_1 3 (fun _ => (0 : Int32))) fun mZ_8 =>
      zB4 (fX10_reads NN mB_6 mL_7 mS mW) fun fl9 mL_10 mS_11 mW_12 =>
      if fl9 = 1 then (
        zLet (rs mZ_8 3 (fun _ => (mW_12 6 0))) fun mZ_16 =>
        zLet (rs mZ_16 1 (fun _ => (3 : Int32))) fun mZ_17 =>
        zLet (rs mZ_17 2 (fun _ => (mW_12 7 0))) fun mZ_18 =>
        some ((-1 : Int32), false, mZ_18, mY, mB_6, mL_10, mP, mS_11, mW_12)
      ) else (
        zLet (rs mY 9 (fun _ => (1 : Int32))) fun mY_13 =>
        zB2 (fX10_done mZ_8 (mS_11 0 0)) fun v14 mZ_15 =>
        some (v14, true, mZ_15, mY_13, mB_6, mL_10, mS_11, mP, mW_12)
      )
    ) else (
      J17_2 ()
    )
  )
abbrev rX10_program : Room := { frames := 33, cells := 0, slots := 0, locals := 794 }
set_option maxHeartbeats 4000000 in
set_option maxRecDepth 100000 in
theorem mtX10_program (l : Launch) (dC : Nat → ClassId) (dI : Nat → Nat → Nat) (cI cB : ClassId) (bV bP bS bW bN bO : Nat → Nat) (sz : Nat) (NN : Nat) (mZ : Rc) (mY : Rc) (mB : Rc) (mL : Rc) (mU : Rc) (mJ : Rc) (mK : Rc) (mG : Rc) (mA : Rc) (mP : Rc) (mS : Rc) (mW : Rc) (p1 : Int32) {ov : Int32} {osw : Bool} {mZ' : Rc} {mY' : Rc} {mB' : Rc} {mL' : Rc} {mP' : Rc} {mS' : Rc} {mW' : Rc} (hf : fX10_program NN mZ mY mB mL mP mS mW p1 = some (ov, osw, mZ', mY', mB', mL', mP', mS', mW')) : zMi l yX10_program (Cond.codeWith yX10_program cX10_program 3 (some .int) [(43, 47, 50, 32)] :: lw_g) rX10_program (dC, dI) [(cI, .int), (cB, .byte)] [.ref (bV 0), .int p1] sz (kX10 cI cB bV (bP 0) (bS 0) (bW 0) (bN 0) (bO 0) mZ mY mB mL mU mJ mK mG mA ++ kX8 cI cB bP mP ++ kX8 cI cB bS mS ++ kX9 cI cB bW mW) ov (kX10 cI cB bV ((zsw osw bP bS) 0) ((zsw osw bS bP) 0) (bW 0) (bN 0) (bO 0) mZ' mY' mB' mL' mU mJ mK mG mA ++ kX8 cI cB (zsw osw bP bS) mP' ++ kX8 cI cB (zsw osw bS bP) mS' ++ kX9 cI cB bW mW') := by
  refine zStW (hh := [(43, 47, 50, 32)]) (cc := cX10_program) (maxL := 3) (ret := (some .int)) (own := RX10) (fun A => zQi (dC, dI) [(cI, .int), (cB, .byte)] A ov (kX10 cI cB bV ((zsw osw bP bS) 0) ((zsw osw bS bP) 0) (bW 0) (bN 0) (bO 0) mZ' mY' mB' mL' mU mJ mK mG mA ++ kX8 cI cB (zsw osw bP bS) mP' ++ kX8 cI cB (zsw osw bS bP) mS' ++ kX9 cI cB bW mW')) (by decide) rfl rfl (Nat.le_of_ble_eq_true rfl) ?_
  intro p e s m below meth c ls A H locs C hTb hK hA hP hD hS hl
  generalize hQ : MQ below (zQi (dC, dI) [(cI, .int), (cB, .byte)] A ov (kX10 cI cB bV ((zsw osw bP bS) 0) ((zsw osw bS bP) 0) (bW 0) (bN 0) (bO 0) mZ' mY' mB' mL' mU mJ mK mG mA ++ kX8 cI cB (zsw osw bP bS) mP' ++ kX8 cI cB (zsw osw bS bP) mS' ++ kX9 cI cB bW mW')) _ s 0 0 A = QQ
  generalize ([.ref (bV 0), .int p1] : List Value).toArray = args at C hQ ⊢
  have hl : lv_has ls 3 [(0, .ref (bV 0)), (1, .int p1)] := hl
  unfold fX10_program at hf
  refine lv_aload_n C.1.1 C.1.2.1 dX10_program_0 rfl (lv_at hl 0 rfl) ?_
  refine lv_iconst (v := 0) C.1.1 C.1.2.1 dX10_program_1 (by decide) ?_
  obtain ⟨mZ_1, emZ_1, hf⟩ := zLet_el hf
  refine zPut (ty := .int) (kX10 cI cB bV (bP 0) (bS 0) (bW 0) (bN 0) (bO 0) mZ_1 mY mB mL mU mJ mK mG mA ++ kX8 cI cB bP mP ++ kX8 cI cB bS mS ++ kX9 cI cB bW mW) C.1 wuX10 tyX10 tyX10_ok nmX10 hK hP hD hS 0 rfl rfl 0 (by decide) wfX10_86 rfl rfl (by decide +kernel) rfl rfl (Nat.le_of_ble_eq_true rfl) dX10_program_2 (by rw [emZ_1]; rfl) (fun H locs hP hD hS => ?_)
  refine lv_iload_n C.1.1 C.1.2.1 dX10_program_5 rfl (lv_at hl 1 rfl) ?_
  obtain ⟨J17_2, eJ17_2, hf⟩ := zJn_el hf
  have hJ17_2 : ∀ (u : Unit), J17_2 u = some (ov, osw, mZ', mY', mB', mL', mP', mS', mW') → ∀ (H : Heap) (locs : List Loc), va_P (dC, dI) vwCl (kX10 cI cB bV (bP 0) (bS 0) (bW 0) (bN 0) (bO 0) mZ_1 mY mB mL mU mJ mK mG mA ++ kX8 cI cB bP mP ++ kX8 cI cB bS mS ++ kX9 cI cB bW mW) H → va_D A (kX10 cI cB bV (bP 0) (bS 0) (bW 0) (bN 0) (bO 0) mZ_1 mY mB mL mU mJ mK mG mA ++ kX8 cI cB bP mP ++ kX8 cI cB bS mS ++ kX9 cI cB bW mW) → va_S A s.heap H locs → ∀ (ls : Array Slot), lv_has ls 3 [(0, .ref (bV 0))] → W p l e rX10_program s m args below meth c H locs 0 0 QQ (F0 m 17 ls []) := by
    intro u hf H locs hP hD hS ls hl
    rw [eJ17_2] at hf
    refine lv_aload_n C.1.1 C.1.2.1 dX10_program_17 rfl (lv_at hl 0 rfl) ?_
    refine lv_iconst (v := 2) C.1.1 C.1.2.1 dX10_program_18 (by decide) ?_
    obtain ⟨v3, mZ_4, hg, hf⟩ := zB2_el hf
    refine zCVi (As := [.int (2 : Int32)]) (rest := []) (wr := (kX8 cI cB bP mP ++ kX8 cI cB bS mS ++ kX9 cI cB bW mW)) (wn := (kX10 cI cB bV (bP 0) (bS 0) (bW 0) (bN 0) (bO 0) mZ_4 mY mB mL mU mJ mK mG mA ++ kX8 cI cB bP mP ++ kX8 cI cB bS mS ++ kX9 cI cB bW mW)) C.1 hK hA hP hD hS [0, 1, 2, 3, 4, 5, 6, 7, 8, 9, 10, 11, 12, 13] [14, 15, 16, 17, 18, 19, 20, 21, 22, 23, 24, 25, 26, 27, 28, 29, 30, 31, 32, 33, 34, 35, 36] [23, 24, 25, 26, 27, 28, 29, 30, 31, 32, 33, 34, 35, 36, 0, 1, 2, 3, 4, 5, 6, 7, 8, 9, 10, 11, 12, 13, 14, 15, 16, 17, 18, 19, 20, 21, 22] 0 (mtX10_refused l dC dI cI cB bV bP bS bW bN bO H.size mZ_1 mY mB mL mU mJ mK mG mA (2 : Int32) hg) (zCwV 1 C.1 wlX10_221 wiX10_refused ws_X10_refused wnX10 wkX10_refused rfl rfl (by decide +kernel) ⟨Nat.le_of_ble_eq_true rfl, Nat.le_of_ble_eq_true rfl⟩) rfl rfl (by decide +kernel) rfl rfl rfl rfl hl.1 (Nat.le_of_ble_eq_true rfl) dX10_program_19 ⟨Nat.zero_le _, Nat.zero_le _⟩ rfl (fun H locs hP hD hS => ?_)
    cases hf
    rw [← hQ]
    exact zRi C hK hP hD hS dX10_program_22
  refine lv_if_lt (tgt := 17) C.1.1 C.1.2.1 dX10_program_6 (by decide) (fun hc => ?_) (fun hc => ?_)
  · replace hf := zIf_t hf hc
    exact hJ17_2 () hf H locs hP hD hS ls (lv_sub hl [0] rfl)
  · replace hf := zIf_f hf hc
    refine lv_iload_n C.1.1 C.1.2.1 dX10_program_9 rfl (lv_at hl 1 rfl) ?_
    refine lv_aload_n C.1.1 C.1.2.1 dX10_program_10 rfl (lv_at hl 0 rfl) ?_
    refine zGet (.int (mB 12 0)) C.1 wuX10 hK hP 0 rfl rfl 12 (by decide) wfX10_218 rfl rfl dX10_program_11 ?_
    refine lv_icmp_le (tgt := 23) C.1.1 C.1.2.1 dX10_program_14 (by decide) (fun hc => ?_) (fun hc => ?_)
    · replace hf := zIf_t hf hc
      refine lv_aload_n C.1.1 C.1.2.1 dX10_program_23 rfl (lv_at hl 0 rfl) ?_
      refine lv_iload_n C.1.1 C.1.2.1 dX10_program_24 rfl (lv_at hl 1 rfl) ?_
      obtain ⟨mL_5, emL_5, hf⟩ := zLet_el hf
      refine zPut (ty := .int) (kX10 cI cB bV (bP 0) (bS 0) (bW 0) (bN 0) (bO 0) mZ_1 mY mB mL_5 mU mJ mK mG mA ++ kX8 cI cB bP mP ++ kX8 cI cB bS mS ++ kX9 cI cB bW mW) C.1 wuX10 tyX10 tyX10_ok nmX10 hK hP hD hS 0 rfl rfl 13 (by decide) wfX10_99 rfl rfl (by decide +kernel) rfl rfl (Nat.le_of_ble_eq_true rfl) dX10_program_25 (by rw [emL_5]; rfl) (fun H locs hP hD hS => ?_)
      refine lv_aload_n C.1.1 C.1.2.1 dX10_program_28 rfl (lv_at hl 0 rfl) ?_
      refine lv_iconst (v := 0) C.1.1 C.1.2.1 dX10_program_29 (by decide) ?_
      obtain ⟨mB_6, emB_6, hf⟩ := zLet_el hf
      refine zPut (ty := .int) (kX10 cI cB bV (bP 0) (bS 0) (bW 0) (bN 0) (bO 0) mZ_1 mY mB_6 mL_5 mU mJ mK mG mA ++ kX8 cI cB bP mP ++ kX8 cI cB bS mS ++ kX9 cI cB bW mW) C.1 wuX10 tyX10 tyX10_ok nmX10 hK hP hD hS 0 rfl rfl 12 (by decide) wfX10_218 rfl rfl (by decide +kernel) rfl rfl (Nat.le_of_ble_eq_true rfl) dX10_program_30 (by rw [emB_6]; rfl) (fun H locs hP hD hS => ?_)
      refine lv_aload_n C.1.1 C.1.2.1 dX10_program_33 rfl (lv_at hl 0 rfl) ?_
      refine lv_iconst (v := 0) C.1.1 C.1.2.1 dX10_program_34 (by decide) ?_
      obtain ⟨mL_7, emL_7, hf⟩ := zLet_el hf
      refine zPut (ty := .int) (kX10 cI cB bV (bP 0) (bS 0) (bW 0) (bN 0) (bO 0) mZ_1 mY mB_6 mL_7 mU mJ mK mG mA ++ kX8 cI cB bP mP ++ kX8 cI cB bS mS ++ kX9 cI cB bW mW) C.1 wuX10 tyX10 tyX10_ok nmX10 hK hP hD hS 0 rfl rfl 14 (by decide) wfX10_106 rfl rfl (by decide +kernel) rfl rfl (Nat.le_of_ble_eq_true rfl) dX10_program_35 (by rw [emL_7]; rfl) (fun H locs hP hD hS => ?_)
      refine lv_aload_n C.1.1 C.1.2.1 dX10_program_38 rfl (lv_at hl 0 rfl) ?_
      refine lv_iconst (v := 0) C.1.1 C.1.2.1 dX10_program_39 (by decide) ?_
      obtain ⟨mZ_8, emZ_8, hf⟩ := zLet_el hf
      refine zPut (ty := .int) (kX10 cI cB bV (bP 0) (bS 0) (bW 0) (bN 0) (bO 0) mZ_8 mY mB_6 mL_7 mU mJ mK mG mA ++ kX8 cI cB bP mP ++ kX8 cI cB bS mS ++ kX9 cI cB bW mW) C.1 wuX10 tyX10 tyX10_ok nmX10 hK hP hD hS 0 rfl rfl 3 (by decide) wfX10_224 rfl rfl (by decide +kernel) rfl rfl (Nat.le_of_ble_eq_true rfl) dX10_program_40 (by rw [emZ_8]; rfl) (fun H locs hP hD hS => ?_)
      refine lv_aload_n C.1.1 C.1.2.1 dX10_program_43 rfl (lv_at hl 0 rfl) ?_
      obtain ⟨fl9, mL_10, mS_11, mW_12, hg, hf⟩ := zB4_el hf
      refine zCTv (As := []) (rest := []) (wr := (kX8 cI cB bP mP)) (wn := (kX10 cI cB bV (bP 0) (bS 0) (bW 0) (bN 0) (bO 0) mZ_8 mY mB_6 mL_10 mU mJ mK mG mA ++ kX8 cI cB bP mP ++ kX8 cI cB bS mS_11 ++ kX9 cI cB bW mW_12)) C.1 hK hA hP hD hS [0, 1, 2, 3, 4, 5, 6, 7, 8, 9, 10, 11, 12, 13, 25, 26, 27, 28, 29, 30, 31, 32, 33, 34, 35, 36] [14, 15, 16, 17, 18, 19, 20, 21, 22, 23, 24] [11, 12, 13, 14, 15, 16, 17, 18, 19, 20, 21, 22, 23, 24, 0, 1, 2, 3, 4, 5, 6, 7, 8, 9, 10, 25, 26, 27, 28, 29, 30, 31, 32, 33, 34, 35, 36] 0 (mtX10_reads l dC dI cI cB bV bP bS bW bN bO H.size NN mZ_8 mY mB_6 mL_7 mU mJ mK mG mA mS mW hg) (zCwV 0 C.1 wlX10_227 wiX10_reads ws_X10_reads wnX10 wkX10_reads rfl rfl (by decide +kernel) ⟨Nat.le_of_ble_eq_true rfl, Nat.le_of_ble_eq_true rfl⟩) rfl rfl (by decide +kernel) rfl rfl rfl rfl hl.1 (Nat.le_of_ble_eq_true rfl) dX10_program_44 ⟨Nat.zero_le _, Nat.zero_le _⟩ rfl (fun hfl H locs ce hP hD hS g1 g2 g3 => ?_) (fun hfl H locs hP hD hS => ?_)
      · replace hf := zIf_t hf hfl
        refine vx_catch (E := RX9) (name := RX9) C.1.2.2.2.1 [] _ [] hTb (fun z hz => by cases hz) rfl (by decide) (C.1.2.2.2.2 _ wxX10_32) (zCast g3) g1 g2 g3 ?_
        refine lv_astore_n (lv' := [(2, .ref (bW 0)), (0, .ref (bV 0)), (1, .int p1)]) C.1.1 C.1.2.1 dX10_program_50 rfl hl (by decide) rfl (fun ls hl => ?_)
        refine lv_aload_n C.1.1 C.1.2.1 dX10_program_51 rfl (lv_at hl 1 rfl) ?_
        refine lv_aload_n C.1.1 C.1.2.1 dX10_program_52 rfl (lv_at hl 0 rfl) ?_
        refine zGetN (.int (mW_12 6 0)) C.1 wuX9 hK hP 36 rfl rfl 6 (by decide) nfX10_92 rfl rfl dX10_program_53 ?_
        obtain ⟨mZ_16, emZ_16, hf⟩ := zLet_el hf
        refine zPut (ty := .int) (kX10 cI cB bV (bP 0) (bS 0) (bW 0) (bN 0) (bO 0) mZ_16 mY mB_6 mL_10 mU mJ mK mG mA ++ kX8 cI cB bP mP ++ kX8 cI cB bS mS_11 ++ kX9 cI cB bW mW_12) C.1 wuX10 tyX10 tyX10_ok nmX10 hK hP hD hS 0 rfl rfl 3 (by decide) wfX10_224 rfl rfl (by decide +kernel) rfl rfl (Nat.le_of_ble_eq_true rfl) dX10_program_56 (by rw [emZ_16]; rfl) (fun H locs hP hD hS => ?_)
        refine lv_aload_n C.1.1 C.1.2.1 dX10_program_59 rfl (lv_at hl 1 rfl) ?_
        refine lv_iconst (v := 3) C.1.1 C.1.2.1 dX10_program_60 (by decide) ?_
        obtain ⟨mZ_17, emZ_17, hf⟩ := zLet_el hf
        refine zPut (ty := .int) (kX10 cI cB bV (bP 0) (bS 0) (bW 0) (bN 0) (bO 0) mZ_17 mY mB_6 mL_10 mU mJ mK mG mA ++ kX8 cI cB bP mP ++ kX8 cI cB bS mS_11 ++ kX9 cI cB bW mW_12) C.1 wuX10 tyX10 tyX10_ok nmX10 hK hP hD hS 0 rfl rfl 1 (by decide) wfX10_89 rfl rfl (by decide +kernel) rfl rfl (Nat.le_of_ble_eq_true rfl) dX10_program_61 (by rw [emZ_17]; rfl) (fun H locs hP hD hS => ?_)
        refine lv_aload_n C.1.1 C.1.2.1 dX10_program_64 rfl (lv_at hl 1 rfl) ?_
        refine lv_aload_n C.1.1 C.1.2.1 dX10_program_65 rfl (lv_at hl 0 rfl) ?_
        refine zGetN (.int (mW_12 7 0)) C.1 wuX9 hK hP 36 rfl rfl 7 (by decide) nfX10_98 rfl rfl dX10_program_66 ?_
        obtain ⟨mZ_18, emZ_18, hf⟩ := zLet_el hf
        refine zPut (ty := .int) (kX10 cI cB bV (bP 0) (bS 0) (bW 0) (bN 0) (bO 0) mZ_18 mY mB_6 mL_10 mU mJ mK mG mA ++ kX8 cI cB bP mP ++ kX8 cI cB bS mS_11 ++ kX9 cI cB bW mW_12) C.1 wuX10 tyX10 tyX10_ok nmX10 hK hP hD hS 0 rfl rfl 2 (by decide) wfX10_9 rfl rfl (by decide +kernel) rfl rfl (Nat.le_of_ble_eq_true rfl) dX10_program_69 (by rw [emZ_18]; rfl) (fun H locs hP hD hS => ?_)
        refine lv_iconst (v := (-1)) C.1.1 C.1.2.1 dX10_program_72 (by decide) ?_
        cases hf
        rw [← hQ]
        exact zRi C hK hP hD hS dX10_program_73
      · replace hf := zIf_f hf (by rw [hfl]; decide)
        refine lv_goto (tgt := 74) C.1.1 C.1.2.1 dX10_program_47 (by decide) ?_
        refine lv_aload_n C.1.1 C.1.2.1 dX10_program_74 rfl (lv_at hl 0 rfl) ?_
        refine zGet (.ref (bP 0)) C.1 wuX10 hK hP 0 rfl rfl 7 (by decide) wfX10_25 rfl rfl dX10_program_75 ?_
        refine lv_astore_n (lv' := [(2, .ref (bP 0)), (0, .ref (bV 0)), (1, .int p1)]) C.1.1 C.1.2.1 dX10_program_78 rfl hl (by decide) rfl (fun ls hl => ?_)
        refine lv_aload_n C.1.1 C.1.2.1 dX10_program_79 rfl (lv_at hl 1 rfl) ?_
        refine lv_aload_n C.1.1 C.1.2.1 dX10_program_80 rfl (lv_at hl 1 rfl) ?_
        refine zGet (.ref (bS 0)) C.1 wuX10 hK hP 0 rfl rfl 8 (by decide) wfX10_29 rfl rfl dX10_program_81 ?_
        refine zPut (ty := .object "HalfGatesModel$Program") (kX10 cI cB bV (bS 0) (bS 0) (bW 0) (bN 0) (bO 0) mZ_8 mY mB_6 mL_10 mU mJ mK mG mA ++ kX8 cI cB bP mP ++ kX8 cI cB bS mS_11 ++ kX9 cI cB bW mW_12) C.1 wuX10 tyX10 tyX10_ok nmX10 hK hP hD hS 0 rfl rfl 7 (by decide) wfX10_25 rfl rfl (by decide +kernel) rfl rfl (Nat.le_of_ble_eq_true rfl) dX10_program_84 rfl (fun H locs hP hD hS => ?_)
        refine lv_aload_n C.1.1 C.1.2.1 dX10_program_87 rfl (lv_at hl 1 rfl) ?_
        refine lv_aload_n C.1.1 C.1.2.1 dX10_program_88 rfl (lv_at hl 0 rfl) ?_
        refine zPut (ty := .object "HalfGatesModel$Program") (kX10 cI cB bV (bS 0) (bP 0) (bW 0) (bN 0) (bO 0) mZ_8 mY mB_6 mL_10 mU mJ mK mG mA ++ kX8 cI cB bP mP ++ kX8 cI cB bS mS_11 ++ kX9 cI cB bW mW_12) C.1 wuX10 tyX10 tyX10_ok nmX10 hK hP hD hS 0 rfl rfl 8 (by decide) wfX10_29 rfl rfl (by decide +kernel) rfl rfl (Nat.le_of_ble_eq_true rfl) dX10_program_89 rfl (fun H locs hP hD hS => ?_)
        refine lv_aload_n C.1.1 C.1.2.1 dX10_program_92 rfl (lv_at hl 1 rfl) ?_
        refine lv_iconst (v := 1) C.1.1 C.1.2.1 dX10_program_93 (by decide) ?_
        obtain ⟨mY_13, emY_13, hf⟩ := zLet_el hf
        refine zPut (ty := .boolean) (kX10 cI cB bV (bS 0) (bP 0) (bW 0) (bN 0) (bO 0) mZ_8 mY_13 mB_6 mL_10 mU mJ mK mG mA ++ kX8 cI cB bP mP ++ kX8 cI cB bS mS_11 ++ kX9 cI cB bW mW_12) C.1 wuX10 tyX10 tyX10_ok nmX10 hK hP hD hS 0 rfl rfl 9 (by decide) wfX10_230 rfl rfl (by decide +kernel) (by decide +kernel) (by decide +kernel) (Nat.le_of_ble_eq_true rfl) dX10_program_94 (by rw [emY_13]; rfl) (fun H locs hP hD hS => ?_)
        refine lv_aload_n C.1.1 C.1.2.1 dX10_program_97 rfl (lv_at hl 1 rfl) ?_
        refine lv_aload_n C.1.1 C.1.2.1 dX10_program_98 rfl (lv_at hl 1 rfl) ?_
        refine zGet (.ref (bS 0)) C.1 wuX10 hK hP 0 rfl rfl 7 (by decide) wfX10_25 rfl rfl dX10_program_99 ?_
        refine zGetN (.int (mS_11 0 0)) C.1 wuX8 hK hP 25 rfl rfl 0 (by decide) nfX10_146 rfl rfl dX10_program_102 ?_
        obtain ⟨v14, mZ_15, hg, hf⟩ := zB2_el hf
        refine zCVi (As := [.int (mS_11 0 0)]) (rest := []) (wr := (kX8 cI cB bP mP ++ kX8 cI cB bS mS_11 ++ kX9 cI cB bW mW_12)) (wn := (kX10 cI cB bV (bS 0) (bP 0) (bW 0) (bN 0) (bO 0) mZ_15 mY_13 mB_6 mL_10 mU mJ mK mG mA ++ kX8 cI cB bP mP ++ kX8 cI cB bS mS_11 ++ kX9 cI cB bW mW_12)) C.1 hK hA hP hD hS [0, 1, 2, 3, 4, 5, 6, 7, 8, 9, 10, 11, 12, 13] [14, 15, 16, 17, 18, 19, 20, 21, 22, 23, 24, 25, 26, 27, 28, 29, 30, 31, 32, 33, 34, 35, 36] [23, 24, 25, 26, 27, 28, 29, 30, 31, 32, 33, 34, 35, 36, 0, 1, 2, 3, 4, 5, 6, 7, 8, 9, 10, 11, 12, 13, 14, 15, 16, 17, 18, 19, 20, 21, 22] 0 (mtX10_done l dC dI cI cB bV bS bP bW bN bO H.size mZ_8 mY_13 mB_6 mL_10 mU mJ mK mG mA (mS_11 0 0) hg) (zCwV 1 C.1 wlX10_233 wiX10_done ws_X10_done wnX10 wkX10_done rfl rfl (by decide +kernel) ⟨Nat.le_of_ble_eq_true rfl, Nat.le_of_ble_eq_true rfl⟩) rfl rfl (by decide +kernel) rfl rfl rfl rfl hl.1 (Nat.le_of_ble_eq_true rfl) dX10_program_105 ⟨Nat.zero_le _, Nat.zero_le _⟩ rfl (fun H locs hP hD hS => ?_)
        replace hP := hP.sub (ws' := (kX10 cI cB bV (bS 0) (bP 0) (bW 0) (bN 0) (bO 0) mZ_15 mY_13 mB_6 mL_10 mU mJ mK mG mA ++ kX8 cI cB bS mS_11 ++ kX8 cI cB bP mP ++ kX9 cI cB bW mW_12)) [0, 1, 2, 3, 4, 5, 6, 7, 8, 9, 10, 11, 12, 13, 25, 26, 27, 28, 29, 30, 31, 32, 33, 34, 35, 14, 15, 16, 17, 18, 19, 20, 21, 22, 23, 24, 36] rfl
        replace hD := hD.sub (ws' := (kX10 cI cB bV (bS 0) (bP 0) (bW 0) (bN 0) (bO 0) mZ_15 mY_13 mB_6 mL_10 mU mJ mK mG mA ++ kX8 cI cB bS mS_11 ++ kX8 cI cB bP mP ++ kX9 cI cB bW mW_12)) [0, 1, 2, 3, 4, 5, 6, 7, 8, 9, 10, 11, 12, 13, 25, 26, 27, 28, 29, 30, 31, 32, 33, 34, 35, 14, 15, 16, 17, 18, 19, 20, 21, 22, 23, 24, 36] (by decide +kernel) rfl
        cases hf
        rw [← hQ]
        exact zRi C hK hP hD hS dX10_program_108
    · replace hf := zIf_f hf hc
      exact hJ17_2 () hf H locs hP hD hS ls (lv_sub hl [0] rfl)
