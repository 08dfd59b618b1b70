/-! own part (pure): the law's loop, from wip/pure/genlaw.py -/
theorem zIteI {β : Type} {c : Prop} [Decidable c] {a b r : β} (h1 : c → a = r) (h2 : ¬ c → b = r) : (if c then a else b) = r := by
  by_cases h : c
  · rw [if_pos h]; exact h1 h
  · rw [if_neg h]; exact h2 h
theorem zLetI {α β : Type} {v : α} {k : α → Option β} {r : Option β} (h : k v = r) : zLet v k = r := h
theorem zJnI {α β : Type} {v : α} {k : α → Option β} {r : Option β} (h : k v = r) : zJn v k = r := h
theorem zGdI {β : Type} {c : Prop} [Decidable c] {k r : Option β} (h : c) (g : k = r) : zGd c k = r := (zGd_t h).trans g
theorem zB1I {α1 β : Type} {x : Option (α1)} {a1 : α1} {k : α1 → Option β} {r : Option β} (h : x = some a1) (g : k a1 = r) : zB1 x k = r := by
  rw [h]; exact g
theorem zB2I {α1 α2 β : Type} {x : Option (α1 × α2)} {a1 : α1} {a2 : α2} {k : α1 → α2 → Option β} {r : Option β} (h : x = some (a1, a2)) (g : k a1 a2 = r) : zB2 x k = r := by
  rw [h]; exact g
theorem zB3I {α1 α2 α3 β : Type} {x : Option (α1 × α2 × α3)} {a1 : α1} {a2 : α2} {a3 : α3} {k : α1 → α2 → α3 → Option β} {r : Option β} (h : x = some (a1, a2, a3)) (g : k a1 a2 a3 = r) : zB3 x k = r := by
  rw [h]; exact g
theorem zB4I {α1 α2 α3 α4 β : Type} {x : Option (α1 × α2 × α3 × α4)} {a1 : α1} {a2 : α2} {a3 : α3} {a4 : α4} {k : α1 → α2 → α3 → α4 → Option β} {r : Option β} (h : x = some (a1, a2, a3, a4)) (g : k a1 a2 a3 a4 = r) : zB4 x k = r := by
  rw [h]; exact g
theorem zB5I {α1 α2 α3 α4 α5 β : Type} {x : Option (α1 × α2 × α3 × α4 × α5)} {a1 : α1} {a2 : α2} {a3 : α3} {a4 : α4} {a5 : α5} {k : α1 → α2 → α3 → α4 → α5 → Option β} {r : Option β} (h : x = some (a1, a2, a3, a4, a5)) (g : k a1 a2 a3 a4 a5 = r) : zB5 x k = r := by
  rw [h]; exact g
theorem zB6I {α1 α2 α3 α4 α5 α6 β : Type} {x : Option (α1 × α2 × α3 × α4 × α5 × α6)} {a1 : α1} {a2 : α2} {a3 : α3} {a4 : α4} {a5 : α5} {a6 : α6} {k : α1 → α2 → α3 → α4 → α5 → α6 → Option β} {r : Option β} (h : x = some (a1, a2, a3, a4, a5, a6)) (g : k a1 a2 a3 a4 a5 a6 = r) : zB6 x k = r := by
  rw [h]; exact g
theorem zB7I {α1 α2 α3 α4 α5 α6 α7 β : Type} {x : Option (α1 × α2 × α3 × α4 × α5 × α6 × α7)} {a1 : α1} {a2 : α2} {a3 : α3} {a4 : α4} {a5 : α5} {a6 : α6} {a7 : α7} {k : α1 → α2 → α3 → α4 → α5 → α6 → α7 → Option β} {r : Option β} (h : x = some (a1, a2, a3, a4, a5, a6, a7)) (g : k a1 a2 a3 a4 a5 a6 a7 = r) : zB7 x k = r := by
  rw [h]; exact g
theorem zB8I {α1 α2 α3 α4 α5 α6 α7 α8 β : Type} {x : Option (α1 × α2 × α3 × α4 × α5 × α6 × α7 × α8)} {a1 : α1} {a2 : α2} {a3 : α3} {a4 : α4} {a5 : α5} {a6 : α6} {a7 : α7} {a8 : α8} {k : α1 → α2 → α3 → α4 → α5 → α6 → α7 → α8 → Option β} {r : Option β} (h : x = some (a1, a2, a3, a4, a5, a6, a7, a8)) (g : k a1 a2 a3 a4 a5 a6 a7 a8 = r) : zB8 x k = r := by
  rw [h]; exact g
theorem zB9I {α1 α2 α3 α4 α5 α6 α7 α8 α9 β : Type} {x : Option (α1 × α2 × α3 × α4 × α5 × α6 × α7 × α8 × α9)} {a1 : α1} {a2 : α2} {a3 : α3} {a4 : α4} {a5 : α5} {a6 : α6} {a7 : α7} {a8 : α8} {a9 : α9} {k : α1 → α2 → α3 → α4 → α5 → α6 → α7 → α8 → α9 → Option β} {r : Option β} (h : x = some (a1, a2, a3, a4, a5, a6, a7, a8, a9)) (g : k a1 a2 a3 a4 a5 a6 a7 a8 a9 = r) : zB9 x k = r := by
  rw [h]; exact g
theorem zB10I {α1 α2 α3 α4 α5 α6 α7 α8 α9 α10 β : Type} {x : Option (α1 × α2 × α3 × α4 × α5 × α6 × α7 × α8 × α9 × α10)} {a1 : α1} {a2 : α2} {a3 : α3} {a4 : α4} {a5 : α5} {a6 : α6} {a7 : α7} {a8 : α8} {a9 : α9} {a10 : α10} {k : α1 → α2 → α3 → α4 → α5 → α6 → α7 → α8 → α9 → α10 → Option β} {r : Option β} (h : x = some (a1, a2, a3, a4, a5, a6, a7, a8, a9, a10)) (g : k a1 a2 a3 a4 a5 a6 a7 a8 a9 a10 = r) : zB10 x k = r := by
  rw [h]; exact g
theorem fLaw_s (NN L : Nat) (xs : Nat → Int32) (n : Nat) (i : Int32) (oH : Rc) (oR : Rc) (oT : Rc) (oS : Rc) (oP : Rc) (oN : Ar) (oY : Ar) (oK : Rc) (oE : Rc) (oQ : Rc) (oC : Rc) (mZ : Rc) (mY : Rc) (mB : Rc) (mL : Rc) (mU : Rc) (mJ : Rc) (mK : Rc) (mG : Rc) (mA : Rc) (mP : Rc) (mS : Rc) (mW : Rc) (mN : Ar) (mO : Ar) : fLaw NN L xs (n + 1) i oH oR oT oS oP oN oY oK oE oQ oC mZ mY mB mL mU mJ mK mG mA mP mS mW mN mO = (
    if ((Int32.ofNat L) - (6 : Int32)) < i then (
      some ()
    ) else (
      zGd (inb i L) <|
      zLet ((xs i.toNatClampNeg) &&& (31 : Int32)) fun x1 =>
      if x1 = 0 then (
        zGd (inb (i + (1 : Int32)) L) <|
        zGd (inb (i + (2 : Int32)) L) <|
        zGd (inb (i + (3 : Int32)) L) <|
        zB6 (fX7_set NN oH oP oN oE oQ oC (xs (i + (1 : Int32)).toNatClampNeg) (xs (i + (2 : Int32)).toNatClampNeg) (xs (i + (3 : Int32)).toNatClampNeg)) fun v1 oH_2 oN_3 oE_4 oQ_5 oC_6 =>
        zGd (inb (i + (1 : Int32)) L) <|
        zGd (inb (i + (2 : Int32)) L) <|
        zGd (inb (i + (3 : Int32)) L) <|
        zB4 (fX10_set NN mZ mY mN (xs (i + (1 : Int32)).toNatClampNeg) (xs (i + (2 : Int32)).toNatClampNeg) (xs (i + (3 : Int32)).toNatClampNeg)) fun v7 mZ_8 mY_9 mN_10 =>
        if v1 = v7 then (
          zLet (i + 6) fun x11 =>
          fLaw NN L xs n x11 oH_2 oR oT oS oP oN_3 oY oK oE_4 oQ_5 oC_6 mZ_8 mY_9 mB mL mU mJ mK mG mA mP mS mW mN_10 mO
        ) else (
          none
        )
      ) else (
        if x1 = 1 then (
          zGd (inb (i + (1 : Int32)) L) <|
          zGd (inb (i + (2 : Int32)) L) <|
          zGd (inb (i + (3 : Int32)) L) <|
          zGd (inb (i + (4 : Int32)) L) <|
          zGd (inb (i + (5 : Int32)) L) <|
          zB2 (fX7_feed NN oT (xs (i + (1 : Int32)).toNatClampNeg) (xs (i + (2 : Int32)).toNatClampNeg) (xs (i + (3 : Int32)).toNatClampNeg) (xs (i + (4 : Int32)).toNatClampNeg) (xs (i + (5 : Int32)).toNatClampNeg)) fun v1 oT_2 =>
          zGd (inb (i + (1 : Int32)) L) <|
          zGd (inb (i + (2 : Int32)) L) <|
          zGd (inb (i + (3 : Int32)) L) <|
          zGd (inb (i + (4 : Int32)) L) <|
          zGd (inb (i + (5 : Int32)) L) <|
          zB3 (fX10_feed NN mZ mB (xs (i + (1 : Int32)).toNatClampNeg) (xs (i + (2 : Int32)).toNatClampNeg) (xs (i + (3 : Int32)).toNatClampNeg) (xs (i + (4 : Int32)).toNatClampNeg) (xs (i + (5 : Int32)).toNatClampNeg)) fun v3 mZ_4 mB_5 =>
          if v1 = v3 then (
            zLet (i + 6) fun x6 =>
            fLaw NN L xs n x6 oH oR oT_2 oS oP oN oY oK oE oQ oC mZ_4 mY mB_5 mL mU mJ mK mG mA mP mS mW mN mO
          ) else (
            none
          )
        ) else (
          if x1 = 2 then (
            zGd (inb (i + (1 : Int32)) L) <|
            zB10 (fX7_program NN oH oR oT oS oP oE oQ oC (xs (i + (1 : Int32)).toNatClampNeg)) fun v1 sw2 oH_3 oR_4 oT_5 oS_6 oP_7 oE_8 oQ_9 oC_10 =>
            zGd (inb (i + (1 : Int32)) L) <|
            zB9 (fX10_program NN mZ mY mB mL mP mS mW (xs (i + (1 : Int32)).toNatClampNeg)) fun v11 sw12 mZ_13 mY_14 mB_15 mL_16 mP_17 mS_18 mW_19 =>
            if v1 = v11 then (
              zLet (i + 6) fun x20 =>
              fLaw NN L xs n x20 oH_3 oR_4 oT_5 oS_6 oP_7 oN oY oK oE_8 oQ_9 oC_10 mZ_13 mY_14 mB_15 mL_16 mU mJ mK mG mA mP_17 mS_18 mW_19 mN mO
            ) else (
              none
            )
          ) else (
            if x1 = 3 then (
              zB1 (fX7_fault oR) fun v1 =>
              zB2 (fX10_fault mZ) fun v2 mZ_3 =>
              if v1 = v2 then (
                zLet (i + 6) fun x4 =>
                fLaw NN L xs n x4 oH oR oT oS oP oN oY oK oE oQ oC mZ_3 mY mB mL mU mJ mK mG mA mP mS mW mN mO
              ) else (
                none
              )
            ) else (
              if x1 = 4 then (
                zB1 (fX7_where oH oR) fun v1 =>
                zB2 (fX10_where mZ) fun v2 mZ_3 =>
                if v1 = v2 then (
                  zLet (i + 6) fun x4 =>
                  fLaw NN L xs n x4 oH oR oT oS oP oN oY oK oE oQ oC mZ_3 mY mB mL mU mJ mK mG mA mP mS mW mN mO
                ) else (
                  none
                )
              ) else (
                if x1 = 5 then (
                  zGd (inb (i + (1 : Int32)) L) <|
                  zGd (inb (i + (2 : Int32)) L) <|
                  zB3 (fX7_put oH oN (xs (i + (1 : Int32)).toNatClampNeg) (xs (i + (2 : Int32)).toNatClampNeg)) fun v1 oH_2 oN_3 =>
                  zGd (inb (i + (1 : Int32)) L) <|
                  zGd (inb (i + (2 : Int32)) L) <|
                  zB3 (fX10_put mZ mY mN (xs (i + (1 : Int32)).toNatClampNeg) (xs (i + (2 : Int32)).toNatClampNeg)) fun v4 mZ_5 mN_6 =>
                  if v1 = v4 then (
                    zLet (i + 6) fun x7 =>
                    fLaw NN L xs n x7 oH_2 oR oT oS oP oN_3 oY oK oE oQ oC mZ_5 mY mB mL mU mJ mK mG mA mP mS mW mN_6 mO
                  ) else (
                    none
                  )
                ) else (
                  if x1 = 6 then (
                    zGd (inb (i + (1 : Int32)) L) <|
                    zB1 (fX7_get oN (xs (i + (1 : Int32)).toNatClampNeg)) fun v1 =>
                    zGd (inb (i + (1 : Int32)) L) <|
                    zB2 (fX10_get mZ mN (xs (i + (1 : Int32)).toNatClampNeg)) fun v2 mZ_3 =>
                    if v1 = v2 then (
                      zLet (i + 6) fun x4 =>
                      fLaw NN L xs n x4 oH oR oT oS oP oN oY oK oE oQ oC mZ_3 mY mB mL mU mJ mK mG mA mP mS mW mN mO
                    ) else (
                      none
                    )
                  ) else (
                    if x1 = 7 then (
                      zGd (inb (i + (1 : Int32)) L) <|
                      zGd (inb (i + (2 : Int32)) L) <|
                      zB1 (fX7_block oP oE (xs (i + (1 : Int32)).toNatClampNeg) (xs (i + (2 : Int32)).toNatClampNeg)) fun v1 =>
                      zGd (inb (i + (1 : Int32)) L) <|
                      zGd (inb (i + (2 : Int32)) L) <|
                      zB3 (fX10_block NN mZ mY mU mP (xs (i + (1 : Int32)).toNatClampNeg) (xs (i + (2 : Int32)).toNatClampNeg)) fun v2 mZ_3 mU_4 =>
                      if v1 = v2 then (
                        zLet (i + 6) fun x5 =>
                        fLaw NN L xs n x5 oH oR oT oS oP oN oY oK oE oQ oC mZ_3 mY mB mL mU_4 mJ mK mG mA mP mS mW mN mO
                      ) else (
                        none
                      )
                    ) else (
                      if x1 = 8 then (
                        zGd (inb (i + (1 : Int32)) L) <|
                        zB3 (fX7_ticks NN oH oP oE oC (xs (i + (1 : Int32)).toNatClampNeg)) fun v1 oH_2 oC_3 =>
                        zGd (inb (i + (1 : Int32)) L) <|
                        zB5 (fX10_ticks NN mZ mY mU mJ mK mP (xs (i + (1 : Int32)).toNatClampNeg)) fun v4 mZ_5 mU_6 mJ_7 mK_8 =>
                        if v1 = v4 then (
                          zLet (i + 6) fun x9 =>
                          fLaw NN L xs n x9 oH_2 oR oT oS oP oN oY oK oE oQ oC_3 mZ_5 mY mB mL mU_6 mJ_7 mK_8 mG mA mP mS mW mN mO
                        ) else (
                          none
                        )
                      ) else (
                        if x1 = 9 then (
                          zGd (inb (i + (1 : Int32)) L) <|
                          zB3 (fX7_gates NN oH oP oE oC (xs (i + (1 : Int32)).toNatClampNeg)) fun v1 oH_2 oC_3 =>
                          zGd (inb (i + (1 : Int32)) L) <|
                          zB4 (fX10_gates NN mZ mY mU mJ mP (xs (i + (1 : Int32)).toNatClampNeg)) fun v4 mZ_5 mU_6 mJ_7 =>
                          if v1 = v4 then (
                            zLet (i + 6) fun x8 =>
                            fLaw NN L xs n x8 oH_2 oR oT oS oP oN oY oK oE oQ oC_3 mZ_5 mY mB mL mU_6 mJ_7 mK mG mA mP mS mW mN mO
                          ) else (
                            none
                          )
                        ) else (
                          if x1 = 10 then (
                            zGd (inb (i + (1 : Int32)) L) <|
                            zB3 (fX7_moved NN oH oP oE oC (xs (i + (1 : Int32)).toNatClampNeg)) fun v1 oH_2 oC_3 =>
                            zGd (inb (i + (1 : Int32)) L) <|
                            zB5 (fX10_moved NN mZ mY mU mJ mK mP (xs (i + (1 : Int32)).toNatClampNeg)) fun v4 mZ_5 mU_6 mJ_7 mK_8 =>
                            if v1 = v4 then (
                              zLet (i + 6) fun x9 =>
                              fLaw NN L xs n x9 oH_2 oR oT oS oP oN oY oK oE oQ oC_3 mZ_5 mY mB mL mU_6 mJ_7 mK_8 mG mA mP mS mW mN mO
                            ) else (
                              none
                            )
                          ) else (
                            if x1 = 11 then (
                              zGd (inb (i + (1 : Int32)) L) <|
                              zB3 (fX7_room NN oH oP oE oC (xs (i + (1 : Int32)).toNatClampNeg)) fun v1 oH_2 oC_3 =>
                              zGd (inb (i + (1 : Int32)) L) <|
                              zB5 (fX10_room NN mZ mY mU mJ mK mP (xs (i + (1 : Int32)).toNatClampNeg)) fun v4 mZ_5 mU_6 mJ_7 mK_8 =>
                              if v1 = v4 then (
                                zLet (i + 6) fun x9 =>
                                fLaw NN L xs n x9 oH_2 oR oT oS oP oN oY oK oE oQ oC_3 mZ_5 mY mB mL mU_6 mJ_7 mK_8 mG mA mP mS mW mN mO
                              ) else (
                                none
                              )
                            ) else (
                              if x1 = 12 then (
                                zGd (inb (i + (1 : Int32)) L) <|
                                zGd (inb (i + (2 : Int32)) L) <|
                                zB3 (fX7_moves NN oH oP oE oC (xs (i + (1 : Int32)).toNatClampNeg) (xs (i + (2 : Int32)).toNatClampNeg)) fun v1 oH_2 oC_3 =>
                                zGd (inb (i + (1 : Int32)) L) <|
                                zGd (inb (i + (2 : Int32)) L) <|
                                zB5 (fX10_moves NN mZ mY mU mJ mK mP (xs (i + (1 : Int32)).toNatClampNeg) (xs (i + (2 : Int32)).toNatClampNeg)) fun v4 mZ_5 mU_6 mJ_7 mK_8 =>
                                if v1 = v4 then (
                                  zLet (i + 6) fun x9 =>
                                  fLaw NN L xs n x9 oH_2 oR oT oS oP oN oY oK oE oQ oC_3 mZ_5 mY mB mL mU_6 mJ_7 mK_8 mG mA mP mS mW mN mO
                                ) else (
                                  none
                                )
                              ) else (
                                if x1 = 13 then (
                                  zGd (inb (i + (1 : Int32)) L) <|
                                  zB3 (fX7_quickest NN oH oP oE oC (xs (i + (1 : Int32)).toNatClampNeg)) fun v1 oH_2 oC_3 =>
                                  zGd (inb (i + (1 : Int32)) L) <|
                                  zB5 (fX10_quickest NN mZ mY mU mJ mK mP (xs (i + (1 : Int32)).toNatClampNeg)) fun v4 mZ_5 mU_6 mJ_7 mK_8 =>
                                  if v1 = v4 then (
                                    zLet (i + 6) fun x9 =>
                                    fLaw NN L xs n x9 oH_2 oR oT oS oP oN oY oK oE oQ oC_3 mZ_5 mY mB mL mU_6 mJ_7 mK_8 mG mA mP mS mW mN mO
                                  ) else (
                                    none
                                  )
                                ) else (
                                  if x1 = 14 then (
                                    zGd (inb (i + (1 : Int32)) L) <|
                                    zB3 (fX7_fewest NN oH oP oE oC (xs (i + (1 : Int32)).toNatClampNeg)) fun v1 oH_2 oC_3 =>
                                    zGd (inb (i + (1 : Int32)) L) <|
                                    zB5 (fX10_fewest NN mZ mY mU mJ mK mP (xs (i + (1 : Int32)).toNatClampNeg)) fun v4 mZ_5 mU_6 mJ_7 mK_8 =>
                                    if v1 = v4 then (
                                      zLet (i + 6) fun x9 =>
                                      fLaw NN L xs n x9 oH_2 oR oT oS oP oN oY oK oE oQ oC_3 mZ_5 mY mB mL mU_6 mJ_7 mK_8 mG mA mP mS mW mN mO
                                    ) else (
                                      none
                                    )
                                  ) else (
                                    if x1 = 15 then (
                                      zGd (inb (i + (1 : Int32)) L) <|
                                      zGd (inb (i + (2 : Int32)) L) <|
                                      zB3 (fX7_turn NN oH oP oE oC (xs (i + (1 : Int32)).toNatClampNeg) (xs (i + (2 : Int32)).toNatClampNeg)) fun v1 oH_2 oC_3 =>
                                      zGd (inb (i + (1 : Int32)) L) <|
                                      zGd (inb (i + (2 : Int32)) L) <|
                                      zB5 (fX10_turn NN mZ mY mU mJ mK mP (xs (i + (1 : Int32)).toNatClampNeg) (xs (i + (2 : Int32)).toNatClampNeg)) fun v4 mZ_5 mU_6 mJ_7 mK_8 =>
                                      if v1 = v4 then (
                                        zLet (i + 6) fun x9 =>
                                        fLaw NN L xs n x9 oH_2 oR oT oS oP oN oY oK oE oQ oC_3 mZ_5 mY mB mL mU_6 mJ_7 mK_8 mG mA mP mS mW mN mO
                                      ) else (
                                        none
                                      )
                                    ) else (
                                      if x1 = 16 then (
                                        zB3 (fX7_edges NN oH oP oE oC) fun v1 oH_2 oC_3 =>
                                        zB7 (fX10_edges NN mZ mY mU mJ mK mG mA mP) fun v4 mZ_5 mU_6 mJ_7 mK_8 mG_9 mA_10 =>
                                        if v1 = v4 then (
                                          zLet (i + 6) fun x11 =>
                                          fLaw NN L xs n x11 oH_2 oR oT oS oP oN oY oK oE oQ oC_3 mZ_5 mY mB mL mU_6 mJ_7 mK_8 mG_9 mA_10 mP mS mW mN mO
                                        ) else (
                                          none
                                        )
                                      ) else (
                                        if x1 = 17 then (
                                          zGd (inb (i + (1 : Int32)) L) <|
                                          zB1 (fX7_edge oH (xs (i + (1 : Int32)).toNatClampNeg)) fun v1 =>
                                          zGd (inb (i + (1 : Int32)) L) <|
                                          zB2 (fX10_edge mZ mG (xs (i + (1 : Int32)).toNatClampNeg)) fun v2 mZ_3 =>
                                          if v1 = v2 then (
                                            zLet (i + 6) fun x4 =>
                                            fLaw NN L xs n x4 oH oR oT oS oP oN oY oK oE oQ oC mZ_3 mY mB mL mU mJ mK mG mA mP mS mW mN mO
                                          ) else (
                                            none
                                          )
                                        ) else (
                                          if x1 = 18 then (
                                            zGd (inb (i + (1 : Int32)) L) <|
                                            zB5 (fX7_run NN oH oP oN oK oE oC (xs (i + (1 : Int32)).toNatClampNeg)) fun v1 oH_2 oN_3 oK_4 oC_5 =>
                                            zGd (inb (i + (1 : Int32)) L) <|
                                            zB6 (fX10_run NN mZ mY mU mJ mK mP mN (xs (i + (1 : Int32)).toNatClampNeg)) fun v6 mZ_7 mU_8 mJ_9 mK_10 mN_11 =>
                                            if v1 = v6 then (
                                              zLet (i + 6) fun x12 =>
                                              fLaw NN L xs n x12 oH_2 oR oT oS oP oN_3 oY oK_4 oE oQ oC_5 mZ_7 mY mB mL mU_8 mJ_9 mK_10 mG mA mP mS mW mN_11 mO
                                            ) else (
                                              none
                                            )
                                          ) else (
                                            if x1 = 19 then (
                                              zGd (inb (i + (1 : Int32)) L) <|
                                              zGd (inb (i + (2 : Int32)) L) <|
                                              zJn (fun (t1 : Int32) =>
                                                  zB4 (fX7_once NN oH oP oN oK (xs (i + (1 : Int32)).toNatClampNeg) t1) fun v3 oH_4 oN_5 oK_6 =>
                                                  zGd (inb (i + (1 : Int32)) L) <|
                                                  zGd (inb (i + (2 : Int32)) L) <|
                                                  zJn (fun (t7 : Int32) =>
                                                      zB4 (fX10_once NN mZ mY mU mP mN (xs (i + (1 : Int32)).toNatClampNeg) t7) fun v9 mZ_10 mU_11 mN_12 =>
                                                      if v3 = v9 then (
                                                        zLet (i + 6) fun x13 =>
                                                        fLaw NN L xs n x13 oH_4 oR oT oS oP oN_5 oY oK_6 oE oQ oC mZ_10 mY mB mL mU_11 mJ mK mG mA mP mS mW mN_12 mO
                                                      ) else (
                                                        none
                                                      )
                                                    ) fun J760_8 =>
                                                  if (xs (i + (2 : Int32)).toNatClampNeg) = 0 then (
                                                    J760_8 (0 : Int32)
                                                  ) else (
                                                    J760_8 (1 : Int32)
                                                  )
                                                ) fun J736_2 =>
                                              if (xs (i + (2 : Int32)).toNatClampNeg) = 0 then (
                                                J736_2 (0 : Int32)
                                              ) else (
                                                J736_2 (1 : Int32)
                                              )
                                            ) else (
                                              if x1 = 20 then (
                                                zGd (inb (i + (1 : Int32)) L) <|
                                                zGd (inb (i + (2 : Int32)) L) <|
                                                zB4 (fX7_changes NN oH oP oN oY oK (xs (i + (1 : Int32)).toNatClampNeg) (xs (i + (2 : Int32)).toNatClampNeg)) fun v1 oH_2 oY_3 oK_4 =>
                                                zGd (inb (i + (1 : Int32)) L) <|
                                                zGd (inb (i + (2 : Int32)) L) <|
                                                zB4 (fX10_changes NN mZ mY mU mP mN mO (xs (i + (1 : Int32)).toNatClampNeg) (xs (i + (2 : Int32)).toNatClampNeg)) fun v5 mZ_6 mU_7 mO_8 =>
                                                if v1 = v5 then (
                                                  zLet (i + 6) fun x9 =>
                                                  fLaw NN L xs n x9 oH_2 oR oT oS oP oN oY_3 oK_4 oE oQ oC mZ_6 mY mB mL mU_7 mJ mK mG mA mP mS mW mN mO_8
                                                ) else (
                                                  none
                                                )
                                              ) else (
                                                if x1 = 21 then (
                                                  zGd (inb (i + (1 : Int32)) L) <|
                                                  zB4 (fX7_still NN oH oP oN oY oK (xs (i + (1 : Int32)).toNatClampNeg)) fun v1 oH_2 oY_3 oK_4 =>
                                                  zGd (inb (i + (1 : Int32)) L) <|
                                                  zB4 (fX10_still NN mZ mY mU mP mN mO (xs (i + (1 : Int32)).toNatClampNeg)) fun v5 mZ_6 mU_7 mO_8 =>
                                                  if v1 = v5 then (
                                                    zLet (i + 6) fun x9 =>
                                                    fLaw NN L xs n x9 oH_2 oR oT oS oP oN oY_3 oK_4 oE oQ oC mZ_6 mY mB mL mU_7 mJ mK mG mA mP mS mW mN mO_8
                                                  ) else (
                                                    none
                                                  )
                                                ) else (
                                                  if x1 = 22 then (
                                                    zGd (inb (i + (1 : Int32)) L) <|
                                                    zGd (inb (i + (2 : Int32)) L) <|
                                                    zB2 (fX7_name oP (xs (i + (1 : Int32)).toNatClampNeg) (xs (i + (2 : Int32)).toNatClampNeg)) fun fl1 v2 =>
                                                    if fl1 = 1 then (
                                                      zGd (inb (i + (1 : Int32)) L) <|
                                                      zGd (inb (i + (2 : Int32)) L) <|
                                                      zB2 (fX10_name mZ mY mP (xs (i + (1 : Int32)).toNatClampNeg) (xs (i + (2 : Int32)).toNatClampNeg)) fun v3 mZ_4 =>
                                                      zB1 (fX10_thrown mZ_4) fun v5 =>
                                                      if v5 = (1 : Int32) then (
                                                        zLet (i + 6) fun x6 =>
                                                        fLaw NN L xs n x6 oH oR oT oS oP oN oY oK oE oQ oC mZ_4 mY mB mL mU mJ mK mG mA mP mS mW mN mO
                                                      ) else (
                                                        none
                                                      )
                                                    ) else (
                                                      zGd (inb (i + (1 : Int32)) L) <|
                                                      zGd (inb (i + (2 : Int32)) L) <|
                                                      zB2 (fX10_name mZ mY mP (xs (i + (1 : Int32)).toNatClampNeg) (xs (i + (2 : Int32)).toNatClampNeg)) fun v7 mZ_8 =>
                                                      zB1 (fX10_thrown mZ_8) fun v9 =>
                                                      if v9 = (0 : Int32) then (
                                                        if (lg_cmp (v2.toInt64) (v7.toInt64)) = 0 then (
                                                          zLet (i + 6) fun x10 =>
                                                          fLaw NN L xs n x10 oH oR oT oS oP oN oY oK oE oQ oC mZ_8 mY mB mL mU mJ mK mG mA mP mS mW mN mO
                                                        ) else (
                                                          none
                                                        )
                                                      ) else (
                                                        none
                                                      )
                                                    )
                                                  ) else (
                                                    if x1 = 23 then (
                                                      zGd (inb (i + (1 : Int32)) L) <|
                                                      zB1 (fX7_count oH oT oP (xs (i + (1 : Int32)).toNatClampNeg)) fun v1 =>
                                                      zGd (inb (i + (1 : Int32)) L) <|
                                                      zB2 (fX10_count mZ mY mB mP (xs (i + (1 : Int32)).toNatClampNeg)) fun v2 mZ_3 =>
                                                      if v1 = v2 then (
                                                        zLet (i + 6) fun x4 =>
                                                        fLaw NN L xs n x4 oH oR oT oS oP oN oY oK oE oQ oC mZ_3 mY mB mL mU mJ mK mG mA mP mS mW mN mO
                                                      ) else (
                                                        none
                                                      )
                                                    ) else (
                                                      if x1 = 24 then (
                                                        zB1 (fX7_trouble oH) fun v1 =>
                                                        zB2 (fX10_trouble mZ) fun v2 mZ_3 =>
                                                        if v1 = v2 then (
                                                          zLet (i + 6) fun x4 =>
                                                          fLaw NN L xs n x4 oH oR oT oS oP oN oY oK oE oQ oC mZ_3 mY mB mL mU mJ mK mG mA mP mS mW mN mO
                                                        ) else (
                                                          none
                                                        )
                                                      ) else (
                                                        zLet (i + 6) fun x5 =>
                                                        fLaw NN L xs n x5 oH oR oT oS oP oN oY oK oE oQ oC mZ mY mB mL mU mJ mK mG mA mP mS mW mN mO
                                                      )
                                                    )
                                                  )
                                                )
                                              )
                                            )
                                          )
                                        )
                                      )
                                    )
                                  )
                                )
                              )
                            )
                          )
                        )
                      )
                    )
                  )
                )
              )
            )
          )
        )
      )
    )
  ) := rfl
theorem lawI {L : Nat} {xs : Nat → Int32} {NN : Nat} (hN : 5000 ≤ NN) (hL : L ≤ 3072) : ∀ (n t : Nat) (i : Int32) (oH : Rc) (oR : Rc) (oT : Rc) (oS : Rc) (oP : Rc) (oN : Ar) (oY : Ar) (oK : Rc) (oE : Rc) (oQ : Rc) (oC : Rc) (mZ : Rc) (mY : Rc) (mB : Rc) (mL : Rc) (mU : Rc) (mJ : Rc) (mK : Rc) (mG : Rc) (mA : Rc) (mP : Rc) (mS : Rc) (mW : Rc) (mN : Ar) (mO : Ar), i = nI (6 * t) → 6 * t ≤ L → L < 6 * t + 6 * n → Inv oH oR oT oS oP oN oE oC mZ mY mB mG mP mN → fLaw NN L xs n i oH oR oT oS oP oN oY oK oE oQ oC mZ mY mB mL mU mJ mK mG mA mP mS mW mN mO = some () := by
  intro n
  induction n with
  | zero => intro t i oH oR oT oS oP oN oY oK oE oQ oC mZ mY mB mL mU mJ mK mG mA mP mS mW mN mO hi h1 h2 h; omega
  | succ n ih =>
    intro t i oH oR oT oS oP oN oY oK oE oQ oC mZ mY mB mL mU mJ mK mG mA mP mS mW mN mO hi h1 h2 h
    rw [fLaw_s]
    refine zIteI (fun _ => rfl) (fun hc => ?_)
    have hb : 6 * t + 6 ≤ L := zLawB hL h1 hi hc
    have hn : i + 6 = nI (6 * (t + 1)) := by rw [hi]; exact zLawN t
    have u1 : 6 * (t + 1) ≤ L := by omega
    have u2 : L < 6 * (t + 1) + 6 * n := by omega
    have g0 : inb i L := by rw [hi]; exact vp_in_nI (by omega) (by omega)
    have g1 : inb (i + (1 : Int32)) L := by rw [hi, show (1 : Int32) = nI 1 from rfl, nI_add]; exact vp_in_nI (by omega) (by omega)
    have g2 : inb (i + (2 : Int32)) L := by rw [hi, show (2 : Int32) = nI 2 from rfl, nI_add]; exact vp_in_nI (by omega) (by omega)
    have g3 : inb (i + (3 : Int32)) L := by rw [hi, show (3 : Int32) = nI 3 from rfl, nI_add]; exact vp_in_nI (by omega) (by omega)
    have g4 : inb (i + (4 : Int32)) L := by rw [hi, show (4 : Int32) = nI 4 from rfl, nI_add]; exact vp_in_nI (by omega) (by omega)
    have g5 : inb (i + (5 : Int32)) L := by rw [hi, show (5 : Int32) = nI 5 from rfl, nI_add]; exact vp_in_nI (by omega) (by omega)
    refine zGdI g0 (zLetI ?_)
    refine zIteI (fun _ => ?_) (fun _ => ?_)
    · obtain ⟨v, oH1, oN1, oE1, oQ1, oC1, mZ1, mY1, mN1, e1, e2, e3⟩ := op_set (oH := oH) (oR := oR) (oT := oT) (oS := oS) (oP := oP) (oE := oE) (oC := oC) (oQ := oQ) (mZ := mZ) (mY := mY) (mB := mB) (mG := mG) (mP := mP) (oN := oN) (mN := mN) hN h (xs (i + (1 : Int32)).toNatClampNeg) (xs (i + (2 : Int32)).toNatClampNeg) (xs (i + (3 : Int32)).toNatClampNeg)
      refine zGdI g1 ?_
      refine zGdI g2 ?_
      refine zGdI g3 ?_
      refine zB6I e1 ?_
      refine zGdI g1 ?_
      refine zGdI g2 ?_
      refine zGdI g3 ?_
      refine zB4I e2 ?_
      refine zIteI (fun _ => ?_) (fun c => absurd rfl c)
      exact zLetI (ih (t + 1) _ _ _ _ _ _ _ _ _ _ _ _ _ _ _ _ _ _ _ _ _ _ _ _ _ _ hn u1 u2 e3)
    refine zIteI (fun _ => ?_) (fun _ => ?_)
    · obtain ⟨v, oT1, mZ1, mB1, e1, e2, e3⟩ := op_feed (oH := oH) (oR := oR) (oT := oT) (oS := oS) (oP := oP) (oE := oE) (oC := oC) (mZ := mZ) (mY := mY) (mB := mB) (mG := mG) (mP := mP) (oN := oN) (mN := mN) hN h (xs (i + (1 : Int32)).toNatClampNeg) (xs (i + (2 : Int32)).toNatClampNeg) (xs (i + (3 : Int32)).toNatClampNeg) (xs (i + (4 : Int32)).toNatClampNeg) (xs (i + (5 : Int32)).toNatClampNeg)
      refine zGdI g1 ?_
      refine zGdI g2 ?_
      refine zGdI g3 ?_
      refine zGdI g4 ?_
      refine zGdI g5 ?_
      refine zB2I e1 ?_
      refine zGdI g1 ?_
      refine zGdI g2 ?_
      refine zGdI g3 ?_
      refine zGdI g4 ?_
      refine zGdI g5 ?_
      refine zB3I e2 ?_
      refine zIteI (fun _ => ?_) (fun c => absurd rfl c)
      exact zLetI (ih (t + 1) _ _ _ _ _ _ _ _ _ _ _ _ _ _ _ _ _ _ _ _ _ _ _ _ _ _ hn u1 u2 e3)
    refine zIteI (fun _ => ?_) (fun _ => ?_)
    · obtain ⟨v, s1, s2, oH1, oR1, oT1, oS1, oP1, oE1, oQ1, oC1, mZ1, mY1, mB1, mL1, mP1, mS1, mW1, e1, e2, e3⟩ := op_program (oH := oH) (oR := oR) (oT := oT) (oS := oS) (oP := oP) (oE := oE) (oC := oC) (oQ := oQ) (mZ := mZ) (mY := mY) (mB := mB) (mL := mL) (mG := mG) (mP := mP) (mS := mS) (mW := mW) (oN := oN) (mN := mN) hN h (xs (i + (1 : Int32)).toNatClampNeg)
      refine zGdI g1 ?_
      refine zB10I e1 ?_
      refine zGdI g1 ?_
      refine zB9I e2 ?_
      refine zIteI (fun _ => ?_) (fun c => absurd rfl c)
      exact zLetI (ih (t + 1) _ _ _ _ _ _ _ _ _ _ _ _ _ _ _ _ _ _ _ _ _ _ _ _ _ _ hn u1 u2 e3)
    refine zIteI (fun _ => ?_) (fun _ => ?_)
    · obtain ⟨v, mZ1, e1, e2, e3⟩ := op_fault (oH := oH) (oR := oR) (oT := oT) (oS := oS) (oP := oP) (oE := oE) (oC := oC) (mZ := mZ) (mY := mY) (mB := mB) (mG := mG) (mP := mP) (oN := oN) (mN := mN) h 
      refine zB1I e1 ?_
      refine zB2I e2 ?_
      refine zIteI (fun _ => ?_) (fun c => absurd rfl c)
      exact zLetI (ih (t + 1) _ _ _ _ _ _ _ _ _ _ _ _ _ _ _ _ _ _ _ _ _ _ _ _ _ _ hn u1 u2 e3)
    refine zIteI (fun _ => ?_) (fun _ => ?_)
    · obtain ⟨v, mZ1, e1, e2, e3⟩ := op_where (oH := oH) (oR := oR) (oT := oT) (oS := oS) (oP := oP) (oE := oE) (oC := oC) (mZ := mZ) (mY := mY) (mB := mB) (mG := mG) (mP := mP) (oN := oN) (mN := mN) h 
      refine zB1I e1 ?_
      refine zB2I e2 ?_
      refine zIteI (fun _ => ?_) (fun c => absurd rfl c)
      exact zLetI (ih (t + 1) _ _ _ _ _ _ _ _ _ _ _ _ _ _ _ _ _ _ _ _ _ _ _ _ _ _ hn u1 u2 e3)
    refine zIteI (fun _ => ?_) (fun _ => ?_)
    · obtain ⟨v, oH1, oN1, mZ1, mN1, e1, e2, e3⟩ := op_put (oH := oH) (oR := oR) (oT := oT) (oS := oS) (oP := oP) (oE := oE) (oC := oC) (mZ := mZ) (mY := mY) (mB := mB) (mG := mG) (mP := mP) (oN := oN) (mN := mN) h (xs (i + (1 : Int32)).toNatClampNeg) (xs (i + (2 : Int32)).toNatClampNeg)
      refine zGdI g1 ?_
      refine zGdI g2 ?_
      refine zB3I e1 ?_
      refine zGdI g1 ?_
      refine zGdI g2 ?_
      refine zB3I e2 ?_
      refine zIteI (fun _ => ?_) (fun c => absurd rfl c)
      exact zLetI (ih (t + 1) _ _ _ _ _ _ _ _ _ _ _ _ _ _ _ _ _ _ _ _ _ _ _ _ _ _ hn u1 u2 e3)
    refine zIteI (fun _ => ?_) (fun _ => ?_)
    · obtain ⟨v, mZ1, e1, e2, e3⟩ := op_get (oH := oH) (oR := oR) (oT := oT) (oS := oS) (oP := oP) (oE := oE) (oC := oC) (mZ := mZ) (mY := mY) (mB := mB) (mG := mG) (mP := mP) (oN := oN) (mN := mN) h (xs (i + (1 : Int32)).toNatClampNeg)
      refine zGdI g1 ?_
      refine zB1I e1 ?_
      refine zGdI g1 ?_
      refine zB2I e2 ?_
      refine zIteI (fun _ => ?_) (fun c => absurd rfl c)
      exact zLetI (ih (t + 1) _ _ _ _ _ _ _ _ _ _ _ _ _ _ _ _ _ _ _ _ _ _ _ _ _ _ hn u1 u2 e3)
    refine zIteI (fun _ => ?_) (fun _ => ?_)
    · obtain ⟨v, mZ1, mU1, e1, e2, e3⟩ := op_block (oH := oH) (oR := oR) (oT := oT) (oS := oS) (oP := oP) (oE := oE) (oC := oC) (mZ := mZ) (mY := mY) (mB := mB) (mG := mG) (mP := mP) (mU := mU) (oN := oN) (mN := mN) hN h (xs (i + (1 : Int32)).toNatClampNeg) (xs (i + (2 : Int32)).toNatClampNeg)
      refine zGdI g1 ?_
      refine zGdI g2 ?_
      refine zB1I e1 ?_
      refine zGdI g1 ?_
      refine zGdI g2 ?_
      refine zB3I e2 ?_
      refine zIteI (fun _ => ?_) (fun c => absurd rfl c)
      exact zLetI (ih (t + 1) _ _ _ _ _ _ _ _ _ _ _ _ _ _ _ _ _ _ _ _ _ _ _ _ _ _ hn u1 u2 e3)
    refine zIteI (fun _ => ?_) (fun _ => ?_)
    · obtain ⟨v, oH1, oC1, mZ1, mU1, mJ1, mK1, e1, e2, e3⟩ := op_ticks (oH := oH) (oR := oR) (oT := oT) (oS := oS) (oP := oP) (oE := oE) (oC := oC) (mZ := mZ) (mY := mY) (mB := mB) (mG := mG) (mP := mP) (mU := mU) (mJ := mJ) (mK := mK) (oN := oN) (mN := mN) hN h (xs (i + (1 : Int32)).toNatClampNeg)
      refine zGdI g1 ?_
      refine zB3I e1 ?_
      refine zGdI g1 ?_
      refine zB5I e2 ?_
      refine zIteI (fun _ => ?_) (fun c => absurd rfl c)
      exact zLetI (ih (t + 1) _ _ _ _ _ _ _ _ _ _ _ _ _ _ _ _ _ _ _ _ _ _ _ _ _ _ hn u1 u2 e3)
    refine zIteI (fun _ => ?_) (fun _ => ?_)
    · obtain ⟨v, oH1, oC1, mZ1, mU1, mJ1, e1, e2, e3⟩ := op_gates (oH := oH) (oR := oR) (oT := oT) (oS := oS) (oP := oP) (oE := oE) (oC := oC) (mZ := mZ) (mY := mY) (mB := mB) (mG := mG) (mP := mP) (mU := mU) (mJ := mJ) (oN := oN) (mN := mN) hN h (xs (i + (1 : Int32)).toNatClampNeg)
      refine zGdI g1 ?_
      refine zB3I e1 ?_
      refine zGdI g1 ?_
      refine zB4I e2 ?_
      refine zIteI (fun _ => ?_) (fun c => absurd rfl c)
      exact zLetI (ih (t + 1) _ _ _ _ _ _ _ _ _ _ _ _ _ _ _ _ _ _ _ _ _ _ _ _ _ _ hn u1 u2 e3)
    refine zIteI (fun _ => ?_) (fun _ => ?_)
    · obtain ⟨v, oH1, oC1, mZ1, mU1, mJ1, mK1, e1, e2, e3⟩ := op_moved (oH := oH) (oR := oR) (oT := oT) (oS := oS) (oP := oP) (oE := oE) (oC := oC) (mZ := mZ) (mY := mY) (mB := mB) (mG := mG) (mP := mP) (mU := mU) (mJ := mJ) (mK := mK) (oN := oN) (mN := mN) hN h (xs (i + (1 : Int32)).toNatClampNeg)
      refine zGdI g1 ?_
      refine zB3I e1 ?_
      refine zGdI g1 ?_
      refine zB5I e2 ?_
      refine zIteI (fun _ => ?_) (fun c => absurd rfl c)
      exact zLetI (ih (t + 1) _ _ _ _ _ _ _ _ _ _ _ _ _ _ _ _ _ _ _ _ _ _ _ _ _ _ hn u1 u2 e3)
    refine zIteI (fun _ => ?_) (fun _ => ?_)
    · obtain ⟨v, oH1, oC1, mZ1, mU1, mJ1, mK1, e1, e2, e3⟩ := op_room (oH := oH) (oR := oR) (oT := oT) (oS := oS) (oP := oP) (oE := oE) (oC := oC) (mZ := mZ) (mY := mY) (mB := mB) (mG := mG) (mP := mP) (mU := mU) (mJ := mJ) (mK := mK) (oN := oN) (mN := mN) hN h (xs (i + (1 : Int32)).toNatClampNeg)
      refine zGdI g1 ?_
      refine zB3I e1 ?_
      refine zGdI g1 ?_
      refine zB5I e2 ?_
      refine zIteI (fun _ => ?_) (fun c => absurd rfl c)
      exact zLetI (ih (t + 1) _ _ _ _ _ _ _ _ _ _ _ _ _ _ _ _ _ _ _ _ _ _ _ _ _ _ hn u1 u2 e3)
    refine zIteI (fun _ => ?_) (fun _ => ?_)
    · obtain ⟨v, oH1, oC1, mZ1, mU1, mJ1, mK1, e1, e2, e3⟩ := op_moves (oH := oH) (oR := oR) (oT := oT) (oS := oS) (oP := oP) (oE := oE) (oC := oC) (mZ := mZ) (mY := mY) (mB := mB) (mG := mG) (mP := mP) (mU := mU) (mJ := mJ) (mK := mK) (oN := oN) (mN := mN) hN h (xs (i + (1 : Int32)).toNatClampNeg) (xs (i + (2 : Int32)).toNatClampNeg)
      refine zGdI g1 ?_
      refine zGdI g2 ?_
      refine zB3I e1 ?_
      refine zGdI g1 ?_
      refine zGdI g2 ?_
      refine zB5I e2 ?_
      refine zIteI (fun _ => ?_) (fun c => absurd rfl c)
      exact zLetI (ih (t + 1) _ _ _ _ _ _ _ _ _ _ _ _ _ _ _ _ _ _ _ _ _ _ _ _ _ _ hn u1 u2 e3)
    refine zIteI (fun _ => ?_) (fun _ => ?_)
    · obtain ⟨v, oH1, oC1, mZ1, mU1, mJ1, mK1, e1, e2, e3⟩ := op_quickest (oH := oH) (oR := oR) (oT := oT) (oS := oS) (oP := oP) (oE := oE) (oC := oC) (mZ := mZ) (mY := mY) (mB := mB) (mG := mG) (mP := mP) (mU := mU) (mJ := mJ) (mK := mK) (oN := oN) (mN := mN) hN h (xs (i + (1 : Int32)).toNatClampNeg)
      refine zGdI g1 ?_
      refine zB3I e1 ?_
      refine zGdI g1 ?_
      refine zB5I e2 ?_
      refine zIteI (fun _ => ?_) (fun c => absurd rfl c)
      exact zLetI (ih (t + 1) _ _ _ _ _ _ _ _ _ _ _ _ _ _ _ _ _ _ _ _ _ _ _ _ _ _ hn u1 u2 e3)
    refine zIteI (fun _ => ?_) (fun _ => ?_)
    · obtain ⟨v, oH1, oC1, mZ1, mU1, mJ1, mK1, e1, e2, e3⟩ := op_fewest (oH := oH) (oR := oR) (oT := oT) (oS := oS) (oP := oP) (oE := oE) (oC := oC) (mZ := mZ) (mY := mY) (mB := mB) (mG := mG) (mP := mP) (mU := mU) (mJ := mJ) (mK := mK) (oN := oN) (mN := mN) hN h (xs (i + (1 : Int32)).toNatClampNeg)
      refine zGdI g1 ?_
      refine zB3I e1 ?_
      refine zGdI g1 ?_
      refine zB5I e2 ?_
      refine zIteI (fun _ => ?_) (fun c => absurd rfl c)
      exact zLetI (ih (t + 1) _ _ _ _ _ _ _ _ _ _ _ _ _ _ _ _ _ _ _ _ _ _ _ _ _ _ hn u1 u2 e3)
    refine zIteI (fun _ => ?_) (fun _ => ?_)
    · obtain ⟨v, oH1, oC1, mZ1, mU1, mJ1, mK1, e1, e2, e3⟩ := op_turn (oH := oH) (oR := oR) (oT := oT) (oS := oS) (oP := oP) (oE := oE) (oC := oC) (mZ := mZ) (mY := mY) (mB := mB) (mG := mG) (mP := mP) (mU := mU) (mJ := mJ) (mK := mK) (oN := oN) (mN := mN) hN h (xs (i + (1 : Int32)).toNatClampNeg) (xs (i + (2 : Int32)).toNatClampNeg)
      refine zGdI g1 ?_
      refine zGdI g2 ?_
      refine zB3I e1 ?_
      refine zGdI g1 ?_
      refine zGdI g2 ?_
      refine zB5I e2 ?_
      refine zIteI (fun _ => ?_) (fun c => absurd rfl c)
      exact zLetI (ih (t + 1) _ _ _ _ _ _ _ _ _ _ _ _ _ _ _ _ _ _ _ _ _ _ _ _ _ _ hn u1 u2 e3)
    refine zIteI (fun _ => ?_) (fun _ => ?_)
    · obtain ⟨v, oH1, oC1, mZ1, mU1, mJ1, mK1, mG1, mA1, e1, e2, e3⟩ := op_edges (oH := oH) (oR := oR) (oT := oT) (oS := oS) (oP := oP) (oE := oE) (oC := oC) (mZ := mZ) (mY := mY) (mB := mB) (mG := mG) (mA := mA) (mP := mP) (mU := mU) (mJ := mJ) (mK := mK) (oN := oN) (mN := mN) hN h 
      refine zB3I e1 ?_
      refine zB7I e2 ?_
      refine zIteI (fun _ => ?_) (fun c => absurd rfl c)
      exact zLetI (ih (t + 1) _ _ _ _ _ _ _ _ _ _ _ _ _ _ _ _ _ _ _ _ _ _ _ _ _ _ hn u1 u2 e3)
    refine zIteI (fun _ => ?_) (fun _ => ?_)
    · obtain ⟨v, mZ1, e1, e2, e3⟩ := op_edge (oH := oH) (oR := oR) (oT := oT) (oS := oS) (oP := oP) (oE := oE) (oC := oC) (mZ := mZ) (mY := mY) (mB := mB) (mG := mG) (mP := mP) (oN := oN) (mN := mN) h (xs (i + (1 : Int32)).toNatClampNeg)
      refine zGdI g1 ?_
      refine zB1I e1 ?_
      refine zGdI g1 ?_
      refine zB2I e2 ?_
      refine zIteI (fun _ => ?_) (fun c => absurd rfl c)
      exact zLetI (ih (t + 1) _ _ _ _ _ _ _ _ _ _ _ _ _ _ _ _ _ _ _ _ _ _ _ _ _ _ hn u1 u2 e3)
    refine zIteI (fun _ => ?_) (fun _ => ?_)
    · obtain ⟨v, oH1, oN1, oK1, oC1, mZ1, mU1, mJ1, mK1, mN1, e1, e2, e3⟩ := op_run (oH := oH) (oR := oR) (oT := oT) (oS := oS) (oP := oP) (oE := oE) (oC := oC) (oK := oK) (mZ := mZ) (mY := mY) (mB := mB) (mG := mG) (mP := mP) (mU := mU) (mJ := mJ) (mK := mK) (oN := oN) (mN := mN) hN h (xs (i + (1 : Int32)).toNatClampNeg)
      refine zGdI g1 ?_
      refine zB5I e1 ?_
      refine zGdI g1 ?_
      refine zB6I e2 ?_
      refine zIteI (fun _ => ?_) (fun c => absurd rfl c)
      exact zLetI (ih (t + 1) _ _ _ _ _ _ _ _ _ _ _ _ _ _ _ _ _ _ _ _ _ _ _ _ _ _ hn u1 u2 e3)
    refine zIteI (fun _ => ?_) (fun _ => ?_)
    · by_cases cc : xs (i + (2 : Int32)).toNatClampNeg = 0
      · obtain ⟨v, oH1, oN1, oK1, mZ1, mU1, mN1, e1, e2, e3⟩ := op_once (oH := oH) (oR := oR) (oT := oT) (oS := oS) (oP := oP) (oE := oE) (oC := oC) (oK := oK) (mZ := mZ) (mY := mY) (mB := mB) (mG := mG) (mP := mP) (mU := mU) (oN := oN) (mN := mN) hN h (xs (i + (1 : Int32)).toNatClampNeg) 0 0
        refine zGdI g1 ?_
        refine zGdI g2 ?_
        refine zJnI ?_
        refine zIteI (fun _ => ?_) (fun c => absurd cc c)
        refine zB4I e1 ?_
        refine zGdI g1 ?_
        refine zGdI g2 ?_
        refine zJnI ?_
        refine zIteI (fun _ => ?_) (fun c => absurd cc c)
        refine zB4I e2 ?_
        refine zIteI (fun _ => ?_) (fun c => absurd rfl c)
        exact zLetI (ih (t + 1) _ _ _ _ _ _ _ _ _ _ _ _ _ _ _ _ _ _ _ _ _ _ _ _ _ _ hn u1 u2 e3)
      · obtain ⟨v, oH1, oN1, oK1, mZ1, mU1, mN1, e1, e2, e3⟩ := op_once (oH := oH) (oR := oR) (oT := oT) (oS := oS) (oP := oP) (oE := oE) (oC := oC) (oK := oK) (mZ := mZ) (mY := mY) (mB := mB) (mG := mG) (mP := mP) (mU := mU) (oN := oN) (mN := mN) hN h (xs (i + (1 : Int32)).toNatClampNeg) 1 1
        refine zGdI g1 ?_
        refine zGdI g2 ?_
        refine zJnI ?_
        refine zIteI (fun c => absurd c cc) (fun _ => ?_)
        refine zB4I e1 ?_
        refine zGdI g1 ?_
        refine zGdI g2 ?_
        refine zJnI ?_
        refine zIteI (fun c => absurd c cc) (fun _ => ?_)
        refine zB4I e2 ?_
        refine zIteI (fun _ => ?_) (fun c => absurd rfl c)
        exact zLetI (ih (t + 1) _ _ _ _ _ _ _ _ _ _ _ _ _ _ _ _ _ _ _ _ _ _ _ _ _ _ hn u1 u2 e3)
    refine zIteI (fun _ => ?_) (fun _ => ?_)
    · obtain ⟨v, oH1, oY1, oK1, mZ1, mU1, mO1, e1, e2, e3⟩ := op_changes (oH := oH) (oR := oR) (oT := oT) (oS := oS) (oP := oP) (oE := oE) (oC := oC) (oK := oK) (mZ := mZ) (mY := mY) (mB := mB) (mG := mG) (mP := mP) (mU := mU) (oN := oN) (oY := oY) (mN := mN) (mO := mO) hN h (xs (i + (1 : Int32)).toNatClampNeg) (xs (i + (2 : Int32)).toNatClampNeg)
      refine zGdI g1 ?_
      refine zGdI g2 ?_
      refine zB4I e1 ?_
      refine zGdI g1 ?_
      refine zGdI g2 ?_
      refine zB4I e2 ?_
      refine zIteI (fun _ => ?_) (fun c => absurd rfl c)
      exact zLetI (ih (t + 1) _ _ _ _ _ _ _ _ _ _ _ _ _ _ _ _ _ _ _ _ _ _ _ _ _ _ hn u1 u2 e3)
    refine zIteI (fun _ => ?_) (fun _ => ?_)
    · obtain ⟨v, oH1, oY1, oK1, mZ1, mU1, mO1, e1, e2, e3⟩ := op_still (oH := oH) (oR := oR) (oT := oT) (oS := oS) (oP := oP) (oE := oE) (oC := oC) (oK := oK) (mZ := mZ) (mY := mY) (mB := mB) (mG := mG) (mP := mP) (mU := mU) (oN := oN) (oY := oY) (mN := mN) (mO := mO) hN h (xs (i + (1 : Int32)).toNatClampNeg)
      refine zGdI g1 ?_
      refine zB4I e1 ?_
      refine zGdI g1 ?_
      refine zB4I e2 ?_
      refine zIteI (fun _ => ?_) (fun c => absurd rfl c)
      exact zLetI (ih (t + 1) _ _ _ _ _ _ _ _ _ _ _ _ _ _ _ _ _ _ _ _ _ _ _ _ _ _ hn u1 u2 e3)
    refine zIteI (fun _ => ?_) (fun _ => ?_)
    · rcases op_name (oH := oH) (oR := oR) (oT := oT) (oS := oS) (oP := oP) (oE := oE) (oC := oC) (mZ := mZ) (mY := mY) (mB := mB) (mG := mG) (mP := mP) (oN := oN) (mN := mN) h (xs (i + (1 : Int32)).toNatClampNeg) (xs (i + (2 : Int32)).toNatClampNeg) with ⟨v1, mZ1, e1, e2, e4, e3⟩ | ⟨v1, mZ1, e1, e2, e4, e3⟩
      · refine zGdI g1 ?_
        refine zGdI g2 ?_
        refine zB2I e1 ?_
        refine zIteI (fun _ => ?_) (fun c => absurd rfl c)
        refine zGdI g1 ?_
        refine zGdI g2 ?_
        refine zB2I e2 ?_
        refine zB1I (show fX10_thrown mZ1 = some 1 from congrArg some e4) ?_
        refine zIteI (fun _ => ?_) (fun c => absurd rfl c)
        exact zLetI (ih (t + 1) _ _ _ _ _ _ _ _ _ _ _ _ _ _ _ _ _ _ _ _ _ _ _ _ _ _ hn u1 u2 e3)
      · refine zGdI g1 ?_
        refine zGdI g2 ?_
        refine zB2I e1 ?_
        refine zIteI (fun c => absurd c (by decide)) (fun _ => ?_)
        refine zGdI g1 ?_
        refine zGdI g2 ?_
        refine zB2I e2 ?_
        refine zB1I (show fX10_thrown mZ1 = some 0 from congrArg some e4) ?_
        refine zIteI (fun _ => ?_) (fun c => absurd rfl c)
        refine zIteI (fun _ => ?_) (fun c => absurd ((lg_cmp_eq _ _).mpr rfl) c)
        exact zLetI (ih (t + 1) _ _ _ _ _ _ _ _ _ _ _ _ _ _ _ _ _ _ _ _ _ _ _ _ _ _ hn u1 u2 e3)
    refine zIteI (fun _ => ?_) (fun _ => ?_)
    · obtain ⟨v, mZ1, e1, e2, e3⟩ := op_count (oH := oH) (oR := oR) (oT := oT) (oS := oS) (oP := oP) (oE := oE) (oC := oC) (mZ := mZ) (mY := mY) (mB := mB) (mG := mG) (mP := mP) (oN := oN) (mN := mN) h (xs (i + (1 : Int32)).toNatClampNeg)
      refine zGdI g1 ?_
      refine zB1I e1 ?_
      refine zGdI g1 ?_
      refine zB2I e2 ?_
      refine zIteI (fun _ => ?_) (fun c => absurd rfl c)
      exact zLetI (ih (t + 1) _ _ _ _ _ _ _ _ _ _ _ _ _ _ _ _ _ _ _ _ _ _ _ _ _ _ hn u1 u2 e3)
    refine zIteI (fun _ => ?_) (fun _ => ?_)
    · obtain ⟨v, mZ1, e1, e2, e3⟩ := op_trouble (oH := oH) (oR := oR) (oT := oT) (oS := oS) (oP := oP) (oE := oE) (oC := oC) (mZ := mZ) (mY := mY) (mB := mB) (mG := mG) (mP := mP) (oN := oN) (mN := mN) h 
      refine zB1I e1 ?_
      refine zB2I e2 ?_
      refine zIteI (fun _ => ?_) (fun c => absurd rfl c)
      exact zLetI (ih (t + 1) _ _ _ _ _ _ _ _ _ _ _ _ _ _ _ _ _ _ _ _ _ _ _ _ _ _ hn u1 u2 e3)
    exact zLetI (ih (t + 1) _ _ _ _ _ _ _ _ _ _ _ _ _ _ _ _ _ _ _ _ _ _ _ _ _ _ hn u1 u2 h)
theorem Inv0 : Inv iX7 iX5 iX6 iX4 iX4 (fun _ => 0) iX2 iX0 iX10 iX10 iX10 iX10 iX8 (fun _ => 0) := by
  refine ⟨⟨fun _ => 0, 0, fun _ => ?_, fun _ _ => rfl, fun _ _ => ?_, by omega, rfl, rfl⟩, ⟨8, 40, 3, ⟨by omega, by omega, by omega, by omega, by omega, rfl, rfl, rfl, rfl, rfl, rfl⟩, Or.inl ⟨rfl, rfl, rfl⟩⟩, ⟨rfl, rfl, ?_⟩, ⟨0, by omega, rfl, rfl, fun i hi => by omega⟩, ⟨rfl, rfl⟩, fun _ _ => rfl⟩
  · show 0 < 256
    omega
  · show (0 : Int32) = sx 0
    decide
  · show (-1 : Int32) = if (0 : Int32) = (3 : Int32) then _ else (-1 : Int32)
    rw [if_neg (by decide)]
theorem law_pure (L : Nat) (hL : L ≤ 3072) (xs : Nat → Int32) : ∃ NN, fLaw NN L xs NN 0 iX7 iX5 iX6 iX4 iX4 (fun _ => 0) (fun _ => 0) iX3 iX2 iX3 iX0 iX10 iX10 iX10 iX10 iX10 iX10 iX10 iX10 iX10 iX8 iX8 iX9 (fun _ => 0) (fun _ => 0) = some () :=
  ⟨10000, lawI (by omega) hL 10000 0 0 iX7 iX5 iX6 iX4 iX4 (fun _ => 0) (fun _ => 0) iX3 iX2 iX3 iX0 iX10 iX10 iX10 iX10 iX10 iX10 iX10 iX10 iX10 iX8 iX8 iX9 (fun _ => 0) (fun _ => 0) rfl (by omega) (by omega) Inv0⟩
