set_option maxHeartbeats 40000000 in
set_option maxRecDepth 100000 in
theorem law_loop {p : Program} {l : Launch} {e : Env} {s : State} {m : MethodId} {below : List Frame} {meth : Method} {c : Code} {dC : Nat → ClassId} {dI : Nat → Nat → Nat} {cI cB cL : ClassId} {b L : Nat} {xs : Nat → Int32} {A : Nat → Prop} (hL : L ≤ 3072) (C : zCx p m meth c cL_law 7 (some .boolean) s #[Value.ref b] lw_g RL) (hlt : l.stackTraces = false) (hK3 : zK (dC, dI) [(cI, .int), (cB, .byte), (cL, .long)] s) (hXs : va_X b L xs s s.heap) (hbl : b < s.heap.size) (hbA : ¬ A b) (hA : ∀ q : Nat, s.heap.size ≤ q → A q) (hAr : ∀ q : Nat, A q → s.heap.size ≤ q) (hZ : zSx A s s.heap) (aH aR aT aM aN aY aK aE aQ aC bV bW bN bO : Nat → Nat) (aX NN n0 : Nat) (i : Int32) (oH : Rc) (oR : Rc) (oT : Rc) (oS : Rc) (oP : Rc) (oN : Ar) (oY : Ar) (oK : Rc) (oE : Rc) (oQ : Rc) (oC : Rc) (mZ : Rc) (mY : Rc) (mB : Rc) (mL : Rc) (mU : Rc) (mJ : Rc) (mK : Rc) (mG : Rc) (mA : Rc) (mP : Rc) (mS : Rc) (mW : Rc) (mN : Ar) (mO : Ar) (hf : fLaw NN L xs n0 i oH oR oT oS oP oN oY oK oE oQ oC mZ mY mB mL mU mJ mK mG mA mP mS mW mN mO = some ()) : ∀ (t : Nat), i = nI (6 * t) → 6 * t ≤ L → ∀ (aS aP bP bS : Nat → Nat) (f : Nat → Int64) (H : Heap) (locs : List Loc), va_P (dC, dI) vwCl (([kX7 cI cB aH (aR 0) (aM 0) (aE 0) (aC 0) (aP 0) oH, kX5 cI cB aR (aT 0) (aS 0) oR, kX6 cI cB aT oT, kX4 cI cB aS oS, kX4 cI cB aP oP, kX1 cI cB aM (aN 0) (aY 0) (aK 0), kA8 cI cB aN oN, kA8 cI cB aY oY, kX3 cI cB aK oK, kX2 cI cB aE (aQ 0) oE, kX3 cI cB aQ oQ, kX0 cI cB aC oC, kX10 cI cB bV (bP 0) (bS 0) (bW 0) (bN 0) (bO 0) mZ mY mB mL mU mJ mK mG mA, kX8 cI cB bP mP, kX8 cI cB bS mS, kX9 cI cB bW mW, kA8 cI cB bN mN, kA8 cI cB bO mO, kL cL aX f] : List va_W).flatten) H → va_D A (([kX7 cI cB aH (aR 0) (aM 0) (aE 0) (aC 0) (aP 0) oH, kX5 cI cB aR (aT 0) (aS 0) oR, kX6 cI cB aT oT, kX4 cI cB aS oS, kX4 cI cB aP oP, kX1 cI cB aM (aN 0) (aY 0) (aK 0), kA8 cI cB aN oN, kA8 cI cB aY oY, kX3 cI cB aK oK, kX2 cI cB aE (aQ 0) oE, kX3 cI cB aQ oQ, kX0 cI cB aC oC, kX10 cI cB bV (bP 0) (bS 0) (bW 0) (bN 0) (bO 0) mZ mY mB mL mU mJ mK mG mA, kX8 cI cB bP mP, kX8 cI cB bS mS, kX9 cI cB bW mW, kA8 cI cB bN mN, kA8 cI cB bO mO, kL cL aX f] : List va_W).flatten) → va_S A s.heap H locs → ∀ (ls : Array Slot), lv_has ls 7 [(0, .ref b), (1, .ref (aH 0)), (2, .ref (bV 0)), (3, .ref aX), (4, .int i)] → W p l e room_1 s m #[Value.ref b] below meth c H locs (89 + t) (42163 + 6 * t) (lw_Z below #[Value.ref b] s) (F0 m 23 ls []) := by
  have hK : zK (dC, dI) [(cI, .int), (cB, .byte)] s := ⟨hK3.1.sub [0, 1] rfl, hK3.2⟩
  unfold fLaw at hf
  refine zLp26_ind (o := ()) (P := fun (i : Int32) (oH : Rc) (oR : Rc) (oT : Rc) (oS : Rc) (oP : Rc) (oN : Ar) (oY : Ar) (oK : Rc) (oE : Rc) (oQ : Rc) (oC : Rc) (mZ : Rc) (mY : Rc) (mB : Rc) (mL : Rc) (mU : Rc) (mJ : Rc) (mK : Rc) (mG : Rc) (mA : Rc) (mP : Rc) (mS : Rc) (mW : Rc) (mN : Ar) (mO : Ar) => ∀ (t : Nat), i = nI (6 * t) → 6 * t ≤ L → ∀ (aS aP bP bS : Nat → Nat) (f : Nat → Int64) (H : Heap) (locs : List Loc), va_P (dC, dI) vwCl (([kX7 cI cB aH (aR 0) (aM 0) (aE 0) (aC 0) (aP 0) oH, kX5 cI cB aR (aT 0) (aS 0) oR, kX6 cI cB aT oT, kX4 cI cB aS oS, kX4 cI cB aP oP, kX1 cI cB aM (aN 0) (aY 0) (aK 0), kA8 cI cB aN oN, kA8 cI cB aY oY, kX3 cI cB aK oK, kX2 cI cB aE (aQ 0) oE, kX3 cI cB aQ oQ, kX0 cI cB aC oC, kX10 cI cB bV (bP 0) (bS 0) (bW 0) (bN 0) (bO 0) mZ mY mB mL mU mJ mK mG mA, kX8 cI cB bP mP, kX8 cI cB bS mS, kX9 cI cB bW mW, kA8 cI cB bN mN, kA8 cI cB bO mO, kL cL aX f] : List va_W).flatten) H → va_D A (([kX7 cI cB aH (aR 0) (aM 0) (aE 0) (aC 0) (aP 0) oH, kX5 cI cB aR (aT 0) (aS 0) oR, kX6 cI cB aT oT, kX4 cI cB aS oS, kX4 cI cB aP oP, kX1 cI cB aM (aN 0) (aY 0) (aK 0), kA8 cI cB aN oN, kA8 cI cB aY oY, kX3 cI cB aK oK, kX2 cI cB aE (aQ 0) oE, kX3 cI cB aQ oQ, kX0 cI cB aC oC, kX10 cI cB bV (bP 0) (bS 0) (bW 0) (bN 0) (bO 0) mZ mY mB mL mU mJ mK mG mA, kX8 cI cB bP mP, kX8 cI cB bS mS, kX9 cI cB bW mW, kA8 cI cB bN mN, kA8 cI cB bO mO, kL cL aX f] : List va_W).flatten) → va_S A s.heap H locs → ∀ (ls : Array Slot), lv_has ls 7 [(0, .ref b), (1, .ref (aH 0)), (2, .ref (bV 0)), (3, .ref aX), (4, .int i)] → W p l e room_1 s m #[Value.ref b] below meth c H locs (89 + t) (42163 + 6 * t) (lw_Z below #[Value.ref b] s) (F0 m 23 ls [])) (fun go ih i oH oR oT oS oP oN oY oK oE oQ oC mZ mY mB mL mU mJ mK mG mA mP mS mW mN mO hf t hi hit aS aP bP bS f H locs hP hD hS ls hl => ?_) _ i oH oR oT oS oP oN oY oK oE oQ oC mZ mY mB mL mU mJ mK mG mA mP mS mW mN mO hf
  refine lv_iload C.1.1 C.1.2.1 dL_law_23 (lv_at hl 4 rfl) ?_
  refine lv_aload_n C.1.1 C.1.2.1 dL_law_25 rfl (lv_at hl 0 rfl) ?_
  refine va_slen C.1.1 C.1.2.1 hXs hbl hbA hS dL_law_26 ?_
  refine lv_bipush (v := 6) C.1.1 C.1.2.1 dL_law_27 (by decide) ?_
  refine lv_isub C.1.1 C.1.2.1 dL_law_29 ?_
  refine lv_icmp_gt (tgt := 942) C.1.1 C.1.2.1 dL_law_30 (by decide) (fun hc => ?_) (fun hc => ?_)
  · replace hf := zIf_t hf hc
    refine lv_iconst (v := 1) C.1.1 C.1.2.1 dL_law_942 (by decide) ?_
    refine va_forget (fun q hq => hAr _ (hS.2.2 q hq)) ?_
    refine W.widen (k := 601024) (n := 7293034) (by omega) (by omega) ?_
    exact lw_ret C.1.1 C.1.2.1 C.2.1 C.2.2 dL_law_943
  · replace hf := zIf_f hf hc
    have h6 : 6 * t + 6 ≤ L := zLawB hL hit hi hc
    have hcs : 89 + t ≤ room_1.cells ∧ 42163 + 6 * t ≤ room_1.slots := ⟨by show 89 + t ≤ 601024; omega, by show 42163 + 6 * t ≤ 7293034; omega⟩
    refine lv_aload_n C.1.1 C.1.2.1 dL_law_33 rfl (lv_at hl 0 rfl) ?_
    refine lv_iload C.1.1 C.1.2.1 dL_law_34 (lv_at hl 4 rfl) ?_
    obtain ⟨hib, hf⟩ := zGd_el hf
    refine va_sld C.1.1 C.1.2.1 hXs hbl hbA hS hib dL_law_36 ?_
    refine lv_bipush (v := 31) C.1.1 C.1.2.1 dL_law_37 (by decide) ?_
    refine lv_iand C.1.1 C.1.2.1 dL_law_39 ?_
    refine lv_topi (fun x1 ex1 => ?_)
    replace hf := zLet_at hf ex1
    rcases Classical.em (x1 = 0) with hk0 | hk0
    · replace hf := zIf_t hf hk0
      refine lv_tableIn (off := 116) (tgt := 156) C.1.1 C.1.2.1 dL_law_40 (by rw [hk0] <;> decide +kernel) (by rw [hk0] <;> decide +kernel) (by rw [hk0] <;> decide +kernel) (by decide) ?_
      exact law_c0 hL C hlt hK3 hXs hbl hbA hA hAr hZ aH aR aT aM aN aY aK aE aQ aC bV bW bN bO aX NN go ih i oH oR oT oS oP oN oY oK oE oQ oC mZ mY mB mL mU mJ mK mG mA mP mS mW mN mO t hi hit h6 aS aP bP bS f H locs hP hD hS ls hl hf
    · replace hf := zIf_f hf hk0
      rcases Classical.em (x1 = 1) with hk1 | hk1
      · replace hf := zIf_t hf hk1
        refine lv_tableIn (off := 165) (tgt := 205) C.1.1 C.1.2.1 dL_law_40 (by rw [hk1] <;> decide +kernel) (by rw [hk1] <;> decide +kernel) (by rw [hk1] <;> decide +kernel) (by decide) ?_
        exact law_c1 hL C hlt hK3 hXs hbl hbA hA hAr hZ aH aR aT aM aN aY aK aE aQ aC bV bW bN bO aX NN go ih i oH oR oT oS oP oN oY oK oE oQ oC mZ mY mB mL mU mJ mK mG mA mP mS mW mN mO t hi hit h6 aS aP bP bS f H locs hP hD hS ls hl hf
      · replace hf := zIf_f hf hk1
        rcases Classical.em (x1 = 2) with hk2 | hk2
        · replace hf := zIf_t hf hk2
          refine lv_tableIn (off := 238) (tgt := 278) C.1.1 C.1.2.1 dL_law_40 (by rw [hk2] <;> decide +kernel) (by rw [hk2] <;> decide +kernel) (by rw [hk2] <;> decide +kernel) (by decide) ?_
          exact law_c2 hL C hlt hK3 hXs hbl hbA hA hAr hZ aH aR aT aM aN aY aK aE aQ aC bV bW bN bO aX NN go ih i oH oR oT oS oP oN oY oK oE oQ oC mZ mY mB mL mU mJ mK mG mA mP mS mW mN mO t hi hit h6 aS aP bP bS f H locs hP hD hS ls hl hf
        · replace hf := zIf_f hf hk2
          rcases Classical.em (x1 = 3) with hk3 | hk3
          · replace hf := zIf_t hf hk3
            refine lv_tableIn (off := 263) (tgt := 303) C.1.1 C.1.2.1 dL_law_40 (by rw [hk3] <;> decide +kernel) (by rw [hk3] <;> decide +kernel) (by rw [hk3] <;> decide +kernel) (by decide) ?_
            exact law_c3 hL C hlt hK3 hXs hbl hbA hA hAr hZ aH aR aT aM aN aY aK aE aQ aC bV bW bN bO aX NN go ih i oH oR oT oS oP oN oY oK oE oQ oC mZ mY mB mL mU mJ mK mG mA mP mS mW mN mO t hi hit h6 aS aP bP bS f H locs hP hD hS ls hl hf
          · replace hf := zIf_f hf hk3
            rcases Classical.em (x1 = 4) with hk4 | hk4
            · replace hf := zIf_t hf hk4
              refine lv_tableIn (off := 276) (tgt := 316) C.1.1 C.1.2.1 dL_law_40 (by rw [hk4] <;> decide +kernel) (by rw [hk4] <;> decide +kernel) (by rw [hk4] <;> decide +kernel) (by decide) ?_
              exact law_c4 hL C hlt hK3 hXs hbl hbA hA hAr hZ aH aR aT aM aN aY aK aE aQ aC bV bW bN bO aX NN go ih i oH oR oT oS oP oN oY oK oE oQ oC mZ mY mB mL mU mJ mK mG mA mP mS mW mN mO t hi hit h6 aS aP bP bS f H locs hP hD hS ls hl hf
            · replace hf := zIf_f hf hk4
              rcases Classical.em (x1 = 5) with hk5 | hk5
              · replace hf := zIf_t hf hk5
                refine lv_tableIn (off := 289) (tgt := 329) C.1.1 C.1.2.1 dL_law_40 (by rw [hk5] <;> decide +kernel) (by rw [hk5] <;> decide +kernel) (by rw [hk5] <;> decide +kernel) (by decide) ?_
                exact law_c5 hL C hlt hK3 hXs hbl hbA hA hAr hZ aH aR aT aM aN aY aK aE aQ aC bV bW bN bO aX NN go ih i oH oR oT oS oP oN oY oK oE oQ oC mZ mY mB mL mU mJ mK mG mA mP mS mW mN mO t hi hit h6 aS aP bP bS f H locs hP hD hS ls hl hf
              · replace hf := zIf_f hf hk5
                rcases Classical.em (x1 = 6) with hk6 | hk6
                · replace hf := zIf_t hf hk6
                  refine lv_tableIn (off := 326) (tgt := 366) C.1.1 C.1.2.1 dL_law_40 (by rw [hk6] <;> decide +kernel) (by rw [hk6] <;> decide +kernel) (by rw [hk6] <;> decide +kernel) (by decide) ?_
                  exact law_c6 hL C hlt hK3 hXs hbl hbA hA hAr hZ aH aR aT aM aN aY aK aE aQ aC bV bW bN bO aX NN go ih i oH oR oT oS oP oN oY oK oE oQ oC mZ mY mB mL mU mJ mK mG mA mP mS mW mN mO t hi hit h6 aS aP bP bS f H locs hP hD hS ls hl hf
                · replace hf := zIf_f hf hk6
                  rcases Classical.em (x1 = 7) with hk7 | hk7
                  · replace hf := zIf_t hf hk7
                    refine lv_tableIn (off := 351) (tgt := 391) C.1.1 C.1.2.1 dL_law_40 (by rw [hk7] <;> decide +kernel) (by rw [hk7] <;> decide +kernel) (by rw [hk7] <;> decide +kernel) (by decide) ?_
                    exact law_c7 hL C hlt hK3 hXs hbl hbA hA hAr hZ aH aR aT aM aN aY aK aE aQ aC bV bW bN bO aX NN go ih i oH oR oT oS oP oN oY oK oE oQ oC mZ mY mB mL mU mJ mK mG mA mP mS mW mN mO t hi hit h6 aS aP bP bS f H locs hP hD hS ls hl hf
                  · replace hf := zIf_f hf hk7
                    rcases Classical.em (x1 = 8) with hk8 | hk8
                    · replace hf := zIf_t hf hk8
                      refine lv_tableIn (off := 388) (tgt := 428) C.1.1 C.1.2.1 dL_law_40 (by rw [hk8] <;> decide +kernel) (by rw [hk8] <;> decide +kernel) (by rw [hk8] <;> decide +kernel) (by decide) ?_
                      exact law_c8 hL C hlt hK3 hXs hbl hbA hA hAr hZ aH aR aT aM aN aY aK aE aQ aC bV bW bN bO aX NN go ih i oH oR oT oS oP oN oY oK oE oQ oC mZ mY mB mL mU mJ mK mG mA mP mS mW mN mO t hi hit h6 aS aP bP bS f H locs hP hD hS ls hl hf
                    · replace hf := zIf_f hf hk8
                      rcases Classical.em (x1 = 9) with hk9 | hk9
                      · replace hf := zIf_t hf hk9
                        refine lv_tableIn (off := 413) (tgt := 453) C.1.1 C.1.2.1 dL_law_40 (by rw [hk9] <;> decide +kernel) (by rw [hk9] <;> decide +kernel) (by rw [hk9] <;> decide +kernel) (by decide) ?_
                        exact law_c9 hL C hlt hK3 hXs hbl hbA hA hAr hZ aH aR aT aM aN aY aK aE aQ aC bV bW bN bO aX NN go ih i oH oR oT oS oP oN oY oK oE oQ oC mZ mY mB mL mU mJ mK mG mA mP mS mW mN mO t hi hit h6 aS aP bP bS f H locs hP hD hS ls hl hf
                      · replace hf := zIf_f hf hk9
                        rcases Classical.em (x1 = 10) with hk10 | hk10
                        · replace hf := zIf_t hf hk10
                          refine lv_tableIn (off := 438) (tgt := 478) C.1.1 C.1.2.1 dL_law_40 (by rw [hk10] <;> decide +kernel) (by rw [hk10] <;> decide +kernel) (by rw [hk10] <;> decide +kernel) (by decide) ?_
                          exact law_c10 hL C hlt hK3 hXs hbl hbA hA hAr hZ aH aR aT aM aN aY aK aE aQ aC bV bW bN bO aX NN go ih i oH oR oT oS oP oN oY oK oE oQ oC mZ mY mB mL mU mJ mK mG mA mP mS mW mN mO t hi hit h6 aS aP bP bS f H locs hP hD hS ls hl hf
                        · replace hf := zIf_f hf hk10
                          rcases Classical.em (x1 = 11) with hk11 | hk11
                          · replace hf := zIf_t hf hk11
                            refine lv_tableIn (off := 463) (tgt := 503) C.1.1 C.1.2.1 dL_law_40 (by rw [hk11] <;> decide +kernel) (by rw [hk11] <;> decide +kernel) (by rw [hk11] <;> decide +kernel) (by decide) ?_
                            exact law_c11 hL C hlt hK3 hXs hbl hbA hA hAr hZ aH aR aT aM aN aY aK aE aQ aC bV bW bN bO aX NN go ih i oH oR oT oS oP oN oY oK oE oQ oC mZ mY mB mL mU mJ mK mG mA mP mS mW mN mO t hi hit h6 aS aP bP bS f H locs hP hD hS ls hl hf
                          · replace hf := zIf_f hf hk11
                            rcases Classical.em (x1 = 12) with hk12 | hk12
                            · replace hf := zIf_t hf hk12
                              refine lv_tableIn (off := 488) (tgt := 528) C.1.1 C.1.2.1 dL_law_40 (by rw [hk12] <;> decide +kernel) (by rw [hk12] <;> decide +kernel) (by rw [hk12] <;> decide +kernel) (by decide) ?_
                              exact law_c12 hL C hlt hK3 hXs hbl hbA hA hAr hZ aH aR aT aM aN aY aK aE aQ aC bV bW bN bO aX NN go ih i oH oR oT oS oP oN oY oK oE oQ oC mZ mY mB mL mU mJ mK mG mA mP mS mW mN mO t hi hit h6 aS aP bP bS f H locs hP hD hS ls hl hf
                            · replace hf := zIf_f hf hk12
                              rcases Classical.em (x1 = 13) with hk13 | hk13
                              · replace hf := zIf_t hf hk13
                                refine lv_tableIn (off := 525) (tgt := 565) C.1.1 C.1.2.1 dL_law_40 (by rw [hk13] <;> decide +kernel) (by rw [hk13] <;> decide +kernel) (by rw [hk13] <;> decide +kernel) (by decide) ?_
                                exact law_c13 hL C hlt hK3 hXs hbl hbA hA hAr hZ aH aR aT aM aN aY aK aE aQ aC bV bW bN bO aX NN go ih i oH oR oT oS oP oN oY oK oE oQ oC mZ mY mB mL mU mJ mK mG mA mP mS mW mN mO t hi hit h6 aS aP bP bS f H locs hP hD hS ls hl hf
                              · replace hf := zIf_f hf hk13
                                rcases Classical.em (x1 = 14) with hk14 | hk14
                                · replace hf := zIf_t hf hk14
                                  refine lv_tableIn (off := 550) (tgt := 590) C.1.1 C.1.2.1 dL_law_40 (by rw [hk14] <;> decide +kernel) (by rw [hk14] <;> decide +kernel) (by rw [hk14] <;> decide +kernel) (by decide) ?_
                                  exact law_c14 hL C hlt hK3 hXs hbl hbA hA hAr hZ aH aR aT aM aN aY aK aE aQ aC bV bW bN bO aX NN go ih i oH oR oT oS oP oN oY oK oE oQ oC mZ mY mB mL mU mJ mK mG mA mP mS mW mN mO t hi hit h6 aS aP bP bS f H locs hP hD hS ls hl hf
                                · replace hf := zIf_f hf hk14
                                  rcases Classical.em (x1 = 15) with hk15 | hk15
                                  · replace hf := zIf_t hf hk15
                                    refine lv_tableIn (off := 575) (tgt := 615) C.1.1 C.1.2.1 dL_law_40 (by rw [hk15] <;> decide +kernel) (by rw [hk15] <;> decide +kernel) (by rw [hk15] <;> decide +kernel) (by decide) ?_
                                    exact law_c15 hL C hlt hK3 hXs hbl hbA hA hAr hZ aH aR aT aM aN aY aK aE aQ aC bV bW bN bO aX NN go ih i oH oR oT oS oP oN oY oK oE oQ oC mZ mY mB mL mU mJ mK mG mA mP mS mW mN mO t hi hit h6 aS aP bP bS f H locs hP hD hS ls hl hf
                                  · replace hf := zIf_f hf hk15
                                    rcases Classical.em (x1 = 16) with hk16 | hk16
                                    · replace hf := zIf_t hf hk16
                                      refine lv_tableIn (off := 612) (tgt := 652) C.1.1 C.1.2.1 dL_law_40 (by rw [hk16] <;> decide +kernel) (by rw [hk16] <;> decide +kernel) (by rw [hk16] <;> decide +kernel) (by decide) ?_
                                      exact law_c16 hL C hlt hK3 hXs hbl hbA hA hAr hZ aH aR aT aM aN aY aK aE aQ aC bV bW bN bO aX NN go ih i oH oR oT oS oP oN oY oK oE oQ oC mZ mY mB mL mU mJ mK mG mA mP mS mW mN mO t hi hit h6 aS aP bP bS f H locs hP hD hS ls hl hf
                                    · replace hf := zIf_f hf hk16
                                      rcases Classical.em (x1 = 17) with hk17 | hk17
                                      · replace hf := zIf_t hf hk17
                                        refine lv_tableIn (off := 625) (tgt := 665) C.1.1 C.1.2.1 dL_law_40 (by rw [hk17] <;> decide +kernel) (by rw [hk17] <;> decide +kernel) (by rw [hk17] <;> decide +kernel) (by decide) ?_
                                        exact law_c17 hL C hlt hK3 hXs hbl hbA hA hAr hZ aH aR aT aM aN aY aK aE aQ aC bV bW bN bO aX NN go ih i oH oR oT oS oP oN oY oK oE oQ oC mZ mY mB mL mU mJ mK mG mA mP mS mW mN mO t hi hit h6 aS aP bP bS f H locs hP hD hS ls hl hf
                                      · replace hf := zIf_f hf hk17
                                        rcases Classical.em (x1 = 18) with hk18 | hk18
                                        · replace hf := zIf_t hf hk18
                                          refine lv_tableIn (off := 650) (tgt := 690) C.1.1 C.1.2.1 dL_law_40 (by rw [hk18] <;> decide +kernel) (by rw [hk18] <;> decide +kernel) (by rw [hk18] <;> decide +kernel) (by decide) ?_
                                          exact law_c18 hL C hlt hK3 hXs hbl hbA hA hAr hZ aH aR aT aM aN aY aK aE aQ aC bV bW bN bO aX NN go ih i oH oR oT oS oP oN oY oK oE oQ oC mZ mY mB mL mU mJ mK mG mA mP mS mW mN mO t hi hit h6 aS aP bP bS f H locs hP hD hS ls hl hf
                                        · replace hf := zIf_f hf hk18
                                          rcases Classical.em (x1 = 19) with hk19 | hk19
                                          · replace hf := zIf_t hf hk19
                                            refine lv_tableIn (off := 675) (tgt := 715) C.1.1 C.1.2.1 dL_law_40 (by rw [hk19] <;> decide +kernel) (by rw [hk19] <;> decide +kernel) (by rw [hk19] <;> decide +kernel) (by decide) ?_
                                            exact law_c19 hL C hlt hK3 hXs hbl hbA hA hAr hZ aH aR aT aM aN aY aK aE aQ aC bV bW bN bO aX NN go ih i oH oR oT oS oP oN oY oK oE oQ oC mZ mY mB mL mU mJ mK mG mA mP mS mW mN mO t hi hit h6 aS aP bP bS f H locs hP hD hS ls hl hf
                                          · replace hf := zIf_f hf hk19
                                            rcases Classical.em (x1 = 20) with hk20 | hk20
                                            · replace hf := zIf_t hf hk20
                                              refine lv_tableIn (off := 728) (tgt := 768) C.1.1 C.1.2.1 dL_law_40 (by rw [hk20] <;> decide +kernel) (by rw [hk20] <;> decide +kernel) (by rw [hk20] <;> decide +kernel) (by decide) ?_
                                              exact law_c20 hL C hlt hK3 hXs hbl hbA hA hAr hZ aH aR aT aM aN aY aK aE aQ aC bV bW bN bO aX NN go ih i oH oR oT oS oP oN oY oK oE oQ oC mZ mY mB mL mU mJ mK mG mA mP mS mW mN mO t hi hit h6 aS aP bP bS f H locs hP hD hS ls hl hf
                                            · replace hf := zIf_f hf hk20
                                              rcases Classical.em (x1 = 21) with hk21 | hk21
                                              · replace hf := zIf_t hf hk21
                                                refine lv_tableIn (off := 765) (tgt := 805) C.1.1 C.1.2.1 dL_law_40 (by rw [hk21] <;> decide +kernel) (by rw [hk21] <;> decide +kernel) (by rw [hk21] <;> decide +kernel) (by decide) ?_
                                                exact law_c21 hL C hlt hK3 hXs hbl hbA hA hAr hZ aH aR aT aM aN aY aK aE aQ aC bV bW bN bO aX NN go ih i oH oR oT oS oP oN oY oK oE oQ oC mZ mY mB mL mU mJ mK mG mA mP mS mW mN mO t hi hit h6 aS aP bP bS f H locs hP hD hS ls hl hf
                                              · replace hf := zIf_f hf hk21
                                                rcases Classical.em (x1 = 22) with hk22 | hk22
                                                · replace hf := zIf_t hf hk22
                                                  refine lv_tableIn (off := 790) (tgt := 830) C.1.1 C.1.2.1 dL_law_40 (by rw [hk22] <;> decide +kernel) (by rw [hk22] <;> decide +kernel) (by rw [hk22] <;> decide +kernel) (by decide) ?_
                                                  exact law_c22 hL C hlt hK3 hXs hbl hbA hA hAr hZ aH aR aT aM aN aY aK aE aQ aC bV bW bN bO aX NN go ih i oH oR oT oS oP oN oY oK oE oQ oC mZ mY mB mL mU mJ mK mG mA mP mS mW mN mO t hi hit h6 aS aP bP bS f H locs hP hD hS ls hl hf
                                                · replace hf := zIf_f hf hk22
                                                  rcases Classical.em (x1 = 23) with hk23 | hk23
                                                  · replace hf := zIf_t hf hk23
                                                    refine lv_tableIn (off := 858) (tgt := 898) C.1.1 C.1.2.1 dL_law_40 (by rw [hk23] <;> decide +kernel) (by rw [hk23] <;> decide +kernel) (by rw [hk23] <;> decide +kernel) (by decide) ?_
                                                    exact law_c23 hL C hlt hK3 hXs hbl hbA hA hAr hZ aH aR aT aM aN aY aK aE aQ aC bV bW bN bO aX NN go ih i oH oR oT oS oP oN oY oK oE oQ oC mZ mY mB mL mU mJ mK mG mA mP mS mW mN mO t hi hit h6 aS aP bP bS f H locs hP hD hS ls hl hf
                                                  · replace hf := zIf_f hf hk23
                                                    rcases Classical.em (x1 = 24) with hk24 | hk24
                                                    · replace hf := zIf_t hf hk24
                                                      refine lv_tableIn (off := 883) (tgt := 923) C.1.1 C.1.2.1 dL_law_40 (by rw [hk24] <;> decide +kernel) (by rw [hk24] <;> decide +kernel) (by rw [hk24] <;> decide +kernel) (by decide) ?_
                                                      exact law_c24 hL C hlt hK3 hXs hbl hbA hA hAr hZ aH aR aT aM aN aY aK aE aQ aC bV bW bN bO aX NN go ih i oH oR oT oS oP oN oY oK oE oQ oC mZ mY mB mL mU mJ mK mG mA mP mS mW mN mO t hi hit h6 aS aP bP bS f H locs hP hD hS ls hl hf
                                                    · replace hf := zIf_f hf hk24
                                                      have nhk0 := lv_neT hk0 (a := 0) (by decide)
                                                      have nhk1 := lv_neT hk1 (a := 1) (by decide)
                                                      have nhk2 := lv_neT hk2 (a := 2) (by decide)
                                                      have nhk3 := lv_neT hk3 (a := 3) (by decide)
                                                      have nhk4 := lv_neT hk4 (a := 4) (by decide)
                                                      have nhk5 := lv_neT hk5 (a := 5) (by decide)
                                                      have nhk6 := lv_neT hk6 (a := 6) (by decide)
                                                      have nhk7 := lv_neT hk7 (a := 7) (by decide)
                                                      have nhk8 := lv_neT hk8 (a := 8) (by decide)
                                                      have nhk9 := lv_neT hk9 (a := 9) (by decide)
                                                      have nhk10 := lv_neT hk10 (a := 10) (by decide)
                                                      have nhk11 := lv_neT hk11 (a := 11) (by decide)
                                                      have nhk12 := lv_neT hk12 (a := 12) (by decide)
                                                      have nhk13 := lv_neT hk13 (a := 13) (by decide)
                                                      have nhk14 := lv_neT hk14 (a := 14) (by decide)
                                                      have nhk15 := lv_neT hk15 (a := 15) (by decide)
                                                      have nhk16 := lv_neT hk16 (a := 16) (by decide)
                                                      have nhk17 := lv_neT hk17 (a := 17) (by decide)
                                                      have nhk18 := lv_neT hk18 (a := 18) (by decide)
                                                      have nhk19 := lv_neT hk19 (a := 19) (by decide)
                                                      have nhk20 := lv_neT hk20 (a := 20) (by decide)
                                                      have nhk21 := lv_neT hk21 (a := 21) (by decide)
                                                      have nhk22 := lv_neT hk22 (a := 22) (by decide)
                                                      have nhk23 := lv_neT hk23 (a := 23) (by decide)
                                                      have nhk24 := lv_neT hk24 (a := 24) (by decide)
                                                      refine lv_tableOut (tgt := 936) C.1.1 C.1.2.1 dL_law_40 (by omega) (by decide) ?_
                                                      obtain ⟨x5, ex5, hf⟩ := zLet_el hf
                                                      refine lv_iinc (v := x5) (lv' := [(4, .int x5), (0, .ref b), (1, .ref (aH 0)), (2, .ref (bV 0)), (3, .ref aX)]) C.1.1 C.1.2.1 dL_law_936 hl (k := 4) rfl (by rw [ex5]; rfl) (by decide) rfl (fun ls hl => ?_)
                                                      refine lv_goto (tgt := 23) C.1.1 C.1.2.1 dL_law_939 (by decide) ?_
                                                      refine W.widen (k := 89 + (t + 1)) (n := 42163 + 6 * (t + 1)) (by omega) (by omega) ?_
                                                      exact ih x5 oH oR oT oS oP oN oY oK oE oQ oC mZ mY mB mL mU mJ mK mG mA mP mS mW mN mO hf (t + 1) (by rw [ex5, hi]; exact zLawN t) (by omega) aS aP bP bS _ H locs hP hD hS ls (lv_sub hl [1, 2, 3, 4, 0] rfl)
