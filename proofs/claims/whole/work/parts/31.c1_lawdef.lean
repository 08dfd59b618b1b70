def zLp26 {α1 α2 α3 α4 α5 α6 α7 α8 α9 α10 α11 α12 α13 α14 α15 α16 α17 α18 α19 α20 α21 α22 α23 α24 α25 α26 β : Type} (F : (α1 → α2 → α3 → α4 → α5 → α6 → α7 → α8 → α9 → α10 → α11 → α12 → α13 → α14 → α15 → α16 → α17 → α18 → α19 → α20 → α21 → α22 → α23 → α24 → α25 → α26 → Option β) → α1 → α2 → α3 → α4 → α5 → α6 → α7 → α8 → α9 → α10 → α11 → α12 → α13 → α14 → α15 → α16 → α17 → α18 → α19 → α20 → α21 → α22 → α23 → α24 → α25 → α26 → Option β) : Nat → α1 → α2 → α3 → α4 → α5 → α6 → α7 → α8 → α9 → α10 → α11 → α12 → α13 → α14 → α15 → α16 → α17 → α18 → α19 → α20 → α21 → α22 → α23 → α24 → α25 → α26 → Option β
  | 0 => fun _ _ _ _ _ _ _ _ _ _ _ _ _ _ _ _ _ _ _ _ _ _ _ _ _ _ => none
  | n + 1 => fun a1 a2 a3 a4 a5 a6 a7 a8 a9 a10 a11 a12 a13 a14 a15 a16 a17 a18 a19 a20 a21 a22 a23 a24 a25 a26 => F (zLp26 F n) a1 a2 a3 a4 a5 a6 a7 a8 a9 a10 a11 a12 a13 a14 a15 a16 a17 a18 a19 a20 a21 a22 a23 a24 a25 a26
theorem zLp26_ind {α1 α2 α3 α4 α5 α6 α7 α8 α9 α10 α11 α12 α13 α14 α15 α16 α17 α18 α19 α20 α21 α22 α23 α24 α25 α26 β : Type} {F : (α1 → α2 → α3 → α4 → α5 → α6 → α7 → α8 → α9 → α10 → α11 → α12 → α13 → α14 → α15 → α16 → α17 → α18 → α19 → α20 → α21 → α22 → α23 → α24 → α25 → α26 → Option β) → α1 → α2 → α3 → α4 → α5 → α6 → α7 → α8 → α9 → α10 → α11 → α12 → α13 → α14 → α15 → α16 → α17 → α18 → α19 → α20 → α21 → α22 → α23 → α24 → α25 → α26 → Option β} {o : β} {P : α1 → α2 → α3 → α4 → α5 → α6 → α7 → α8 → α9 → α10 → α11 → α12 → α13 → α14 → α15 → α16 → α17 → α18 → α19 → α20 → α21 → α22 → α23 → α24 → α25 → α26 → Prop} (st : ∀ go : α1 → α2 → α3 → α4 → α5 → α6 → α7 → α8 → α9 → α10 → α11 → α12 → α13 → α14 → α15 → α16 → α17 → α18 → α19 → α20 → α21 → α22 → α23 → α24 → α25 → α26 → Option β, (∀ a1 a2 a3 a4 a5 a6 a7 a8 a9 a10 a11 a12 a13 a14 a15 a16 a17 a18 a19 a20 a21 a22 a23 a24 a25 a26, go a1 a2 a3 a4 a5 a6 a7 a8 a9 a10 a11 a12 a13 a14 a15 a16 a17 a18 a19 a20 a21 a22 a23 a24 a25 a26 = some o → P a1 a2 a3 a4 a5 a6 a7 a8 a9 a10 a11 a12 a13 a14 a15 a16 a17 a18 a19 a20 a21 a22 a23 a24 a25 a26) → ∀ a1 a2 a3 a4 a5 a6 a7 a8 a9 a10 a11 a12 a13 a14 a15 a16 a17 a18 a19 a20 a21 a22 a23 a24 a25 a26, F go a1 a2 a3 a4 a5 a6 a7 a8 a9 a10 a11 a12 a13 a14 a15 a16 a17 a18 a19 a20 a21 a22 a23 a24 a25 a26 = some o → P a1 a2 a3 a4 a5 a6 a7 a8 a9 a10 a11 a12 a13 a14 a15 a16 a17 a18 a19 a20 a21 a22 a23 a24 a25 a26) : ∀ (n : Nat) a1 a2 a3 a4 a5 a6 a7 a8 a9 a10 a11 a12 a13 a14 a15 a16 a17 a18 a19 a20 a21 a22 a23 a24 a25 a26, zLp26 F n a1 a2 a3 a4 a5 a6 a7 a8 a9 a10 a11 a12 a13 a14 a15 a16 a17 a18 a19 a20 a21 a22 a23 a24 a25 a26 = some o → P a1 a2 a3 a4 a5 a6 a7 a8 a9 a10 a11 a12 a13 a14 a15 a16 a17 a18 a19 a20 a21 a22 a23 a24 a25 a26 := by
  intro n
  induction n with
  | zero => intro a1 a2 a3 a4 a5 a6 a7 a8 a9 a10 a11 a12 a13 a14 a15 a16 a17 a18 a19 a20 a21 a22 a23 a24 a25 a26 h; cases h
  | succ n ih => intro a1 a2 a3 a4 a5 a6 a7 a8 a9 a10 a11 a12 a13 a14 a15 a16 a17 a18 a19 a20 a21 a22 a23 a24 a25 a26 h; exact st _ ih a1 a2 a3 a4 a5 a6 a7 a8 a9 a10 a11 a12 a13 a14 a15 a16 a17 a18 a19 a20 a21 a22 a23 a24 a25 a26 h
def fLaw (NN L : Nat) (xs : Nat → Int32) (n : Nat) (i : Int32) (oH : Rc) (oR : Rc) (oT : Rc) (oS : Rc) (oP : Rc) (oN : Ar) (oY : Ar) (oK : Rc) (oE : Rc) (oQ : Rc) (oC : Rc) (mZ : Rc) (mY : Rc) (mB : Rc) (mL : Rc) (mU : Rc) (mJ : Rc) (mK : Rc) (mG : Rc) (mA : Rc) (mP : Rc) (mS : Rc) (mW : Rc) (mN : Ar) (mO : Ar) : Option Unit := zLp26 (fun (go : Int32 → Rc → Rc → Rc → Rc → Rc → Ar → Ar → Rc → Rc → Rc → Rc → Rc → Rc → Rc → Rc → Rc → Rc → Rc → Rc → Rc → Rc → Rc → Rc → Ar → Ar → Option Unit) (i : Int32) (oH : Rc) (oR : Rc) (oT : Rc) (oS : Rc) (oP : Rc) (oN : Ar) (oY : Ar) (oK : Rc) (oE : Rc) (oQ : Rc) (oC : Rc) (mZ : Rc) (mY : Rc) (mB : Rc) (mL : Rc) (mU : Rc) (mJ : Rc) (mK : Rc) (mG : Rc) (mA : Rc) (mP : Rc) (mS : Rc) (mW : Rc) (mN : Ar) (mO : Ar) =>
    if ((Int32.ofNat L) - (6 : Int32)) < i then (
      some ()
    ) else (
      zGd (inb i L) <|
      zLet ((xs i.toNatClampNeg) &&& (31 : Int32)) fun x1 =>
      if x1 = 0 then (
        zGd (inb (i + (1 : Int32)) L) <|
        zGd (inb (i + (2 : Int32)) L) <|
        zGd (inb (i + (3 : Int32)) L) <|
        zB6 (fX7_set NN oH oP oN oE oQ oC (xs (i + (1 : Int32)).toNatClampNeg) (xs (i + (2 : Int32)).toNatClampNeg) (xs (i + (3 : Int32)).toNatClampNeg)) fun v1 oH_2 oN_3 oE_4 oQ_5 oC_6 =>
        zGd (inb (i + (1 : Int32)) L) <|
        zGd (inb (i + (2 : Int32)) L) <|
        zGd (inb (i + (3 : Int32)) L) <|
        zB4 (fX10_set NN mZ mY mN (xs (i + (1 : Int32)).toNatClampNeg) (xs (i + (2 : Int32)).toNatClampNeg) (xs (i + (3 : Int32)).toNatClampNeg)) fun v7 mZ_8 mY_9 mN_10 =>
        if v1 = v7 then (
          zLet (i + 6) fun x11 =>
          go x11 oH_2 oR oT oS oP oN_3 oY oK oE_4 oQ_5 oC_6 mZ_8 mY_9 mB mL mU mJ mK mG mA mP mS mW mN_10 mO
        ) else (
          none
        )
      ) else (
        if x1 = 1 then (
          zGd (inb (i + (1 : Int32)) L) <|
          zGd (inb (i + (2 : Int32)) L) <|
          zGd (inb (i + (3 : Int32)) L) <|
          zGd (inb (i + (4 : Int32)) L) <|
          zGd (inb (i + (5 : Int32)) L) <|
          zB2 (fX7_feed NN oT (xs (i + (1 : Int32)).toNatClampNeg) (xs (i + (2 : Int32)).toNatClampNeg) (xs (i + (3 : Int32)).toNatClampNeg) (xs (i + (4 : Int32)).toNatClampNeg) (xs (i + (5 : Int32)).toNatClampNeg)) fun v1 oT_2 =>
          zGd (inb (i + (1 : Int32)) L) <|
          zGd (inb (i + (2 : Int32)) L) <|
          zGd (inb (i + (3 : Int32)) L) <|
          zGd (inb (i + (4 : Int32)) L) <|
          zGd (inb (i + (5 : Int32)) L) <|
          zB3 (fX10_feed NN mZ mB (xs (i + (1 : Int32)).toNatClampNeg) (xs (i + (2 : Int32)).toNatClampNeg) (xs (i + (3 : Int32)).toNatClampNeg) (xs (i + (4 : Int32)).toNatClampNeg) (xs (i + (5 : Int32)).toNatClampNeg)) fun v3 mZ_4 mB_5 =>
          if v1 = v3 then (
            zLet (i + 6) fun x6 =>
            go x6 oH oR oT_2 oS oP oN oY oK oE oQ oC mZ_4 mY mB_5 mL mU mJ mK mG mA mP mS mW mN mO
          ) else (
            none
          )
        ) else (
          if x1 = 2 then (
            zGd (inb (i + (1 : Int32)) L) <|
            zB10 (fX7_program NN oH oR oT oS oP oE oQ oC (xs (i + (1 : Int32)).toNatClampNeg)) fun v1 sw2 oH_3 oR_4 oT_5 oS_6 oP_7 oE_8 oQ_9 oC_10 =>
            zGd (inb (i + (1 : Int32)) L) <|
            zB9 (fX10_program NN mZ mY mB mL mP mS mW (xs (i + (1 : Int32)).toNatClampNeg)) fun v11 sw12 mZ_13 mY_14 mB_15 mL_16 mP_17 mS_18 mW_19 =>
            if v1 = v11 then (
              zLet (i + 6) fun x20 =>
              go x20 oH_3 oR_4 oT_5 oS_6 oP_7 oN oY oK oE_8 oQ_9 oC_10 mZ_13 mY_14 mB_15 mL_16 mU mJ mK mG mA mP_17 mS_18 mW_19 mN mO
            ) else (
              none
            )
          ) else (
            if x1 = 3 then (
              zB1 (fX7_fault oR) fun v1 =>
              zB2 (fX10_fault mZ) fun v2 mZ_3 =>
              if v1 = v2 then (
                zLet (i + 6) fun x4 =>
                go x4 oH oR oT oS oP oN oY oK oE oQ oC mZ_3 mY mB mL mU mJ mK mG mA mP mS mW mN mO
              ) else (
                none
              )
            ) else (
              if x1 = 4 then (
                zB1 (fX7_where oH oR) fun v1 =>
                zB2 (fX10_where mZ) fun v2 mZ_3 =>
                if v1 = v2 then (
                  zLet (i + 6) fun x4 =>
                  go x4 oH oR oT oS oP oN oY oK oE oQ oC mZ_3 mY mB mL mU mJ mK mG mA mP mS mW mN mO
                ) else (
                  none
                )
              ) else (
                if x1 = 5 then (
                  zGd (inb (i + (1 : Int32)) L) <|
                  zGd (inb (i + (2 : Int32)) L) <|
                  zB3 (fX7_put oH oN (xs (i + (1 : Int32)).toNatClampNeg) (xs (i + (2 : Int32)).toNatClampNeg)) fun v1 oH_2 oN_3 =>
                  zGd (inb (i + (1 : Int32)) L) <|
                  zGd (inb (i + (2 : Int32)) L) <|
                  zB3 (fX10_put mZ mY mN (xs (i + (1 : Int32)).toNatClampNeg) (xs (i + (2 : Int32)).toNatClampNeg)) fun v4 mZ_5 mN_6 =>
                  if v1 = v4 then (
                    zLet (i + 6) fun x7 =>
                    go x7 oH_2 oR oT oS oP oN_3 oY oK oE oQ oC mZ_5 mY mB mL mU mJ mK mG mA mP mS mW mN_6 mO
                  ) else (
                    none
                  )
                ) else (
                  if x1 = 6 then (
                    zGd (inb (i + (1 : Int32)) L) <|
                    zB1 (fX7_get oN (xs (i + (1 : Int32)).toNatClampNeg)) fun v1 =>
                    zGd (inb (i + (1 : Int32)) L) <|
                    zB2 (fX10_get mZ mN (xs (i + (1 : Int32)).toNatClampNeg)) fun v2 mZ_3 =>
                    if v1 = v2 then (
                      zLet (i + 6) fun x4 =>
                      go x4 oH oR oT oS oP oN oY oK oE oQ oC mZ_3 mY mB mL mU mJ mK mG mA mP mS mW mN mO
                    ) else (
                      none
                    )
                  ) else (
                    if x1 = 7 then (
                      zGd (inb (i + (1 : Int32)) L) <|
                      zGd (inb (i + (2 : Int32)) L) <|
                      zB1 (fX7_block oP oE (xs (i + (1 : Int32)).toNatClampNeg) (xs (i + (2 : Int32)).toNatClampNeg)) fun v1 =>
                      zGd (inb (i + (1 : Int32)) L) <|
                      zGd (inb (i + (2 : Int32)) L) <|
                      zB3 (fX10_block NN mZ mY mU mP (xs (i + (1 : Int32)).toNatClampNeg) (xs (i + (2 : Int32)).toNatClampNeg)) fun v2 mZ_3 mU_4 =>
                      if v1 = v2 then (
                        zLet (i + 6) fun x5 =>
                        go x5 oH oR oT oS oP oN oY oK oE oQ oC mZ_3 mY mB mL mU_4 mJ mK mG mA mP mS mW mN mO
                      ) else (
                        none
                      )
                    ) else (
                      if x1 = 8 then (
                        zGd (inb (i + (1 : Int32)) L) <|
                        zB3 (fX7_ticks NN oH oP oE oC (xs (i + (1 : Int32)).toNatClampNeg)) fun v1 oH_2 oC_3 =>
                        zGd (inb (i + (1 : Int32)) L) <|
                        zB5 (fX10_ticks NN mZ mY mU mJ mK mP (xs (i + (1 : Int32)).toNatClampNeg)) fun v4 mZ_5 mU_6 mJ_7 mK_8 =>
                        if v1 = v4 then (
                          zLet (i + 6) fun x9 =>
                          go x9 oH_2 oR oT oS oP oN oY oK oE oQ oC_3 mZ_5 mY mB mL mU_6 mJ_7 mK_8 mG mA mP mS mW mN mO
                        ) else (
                          none
                        )
                      ) else (
                        if x1 = 9 then (
                          zGd (inb (i + (1 : Int32)) L) <|
                          zB3 (fX7_gates NN oH oP oE oC (xs (i + (1 : Int32)).toNatClampNeg)) fun v1 oH_2 oC_3 =>
                          zGd (inb (i + (1 : Int32)) L) <|
                          zB4 (fX10_gates NN mZ mY mU mJ mP (xs (i + (1 : Int32)).toNatClampNeg)) fun v4 mZ_5 mU_6 mJ_7 =>
                          if v1 = v4 then (
                            zLet (i + 6) fun x8 =>
                            go x8 oH_2 oR oT oS oP oN oY oK oE oQ oC_3 mZ_5 mY mB mL mU_6 mJ_7 mK mG mA mP mS mW mN mO
                          ) else (
                            none
                          )
                        ) else (
                          if x1 = 10 then (
                            zGd (inb (i + (1 : Int32)) L) <|
                            zB3 (fX7_moved NN oH oP oE oC (xs (i + (1 : Int32)).toNatClampNeg)) fun v1 oH_2 oC_3 =>
                            zGd (inb (i + (1 : Int32)) L) <|
                            zB5 (fX10_moved NN mZ mY mU mJ mK mP (xs (i + (1 : Int32)).toNatClampNeg)) fun v4 mZ_5 mU_6 mJ_7 mK_8 =>
                            if v1 = v4 then (
                              zLet (i + 6) fun x9 =>
                              go x9 oH_2 oR oT oS oP oN oY oK oE oQ oC_3 mZ_5 mY mB mL mU_6 mJ_7 mK_8 mG mA mP mS mW mN mO
                            ) else (
                              none
                            )
                          ) else (
                            if x1 = 11 then (
                              zGd (inb (i + (1 : Int32)) L) <|
                              zB3 (fX7_room NN oH oP oE oC (xs (i + (1 : Int32)).toNatClampNeg)) fun v1 oH_2 oC_3 =>
                              zGd (inb (i + (1 : Int32)) L) <|
                              zB5 (fX10_room NN mZ mY mU mJ mK mP (xs (i + (1 : Int32)).toNatClampNeg)) fun v4 mZ_5 mU_6 mJ_7 mK_8 =>
                              if v1 = v4 then (
                                zLet (i + 6) fun x9 =>
                                go x9 oH_2 oR oT oS oP oN oY oK oE oQ oC_3 mZ_5 mY mB mL mU_6 mJ_7 mK_8 mG mA mP mS mW mN mO
                              ) else (
                                none
                              )
                            ) else (
                              if x1 = 12 then (
                                zGd (inb (i + (1 : Int32)) L) <|
                                zGd (inb (i + (2 : Int32)) L) <|
                                zB3 (fX7_moves NN oH oP oE oC (xs (i + (1 : Int32)).toNatClampNeg) (xs (i + (2 : Int32)).toNatClampNeg)) fun v1 oH_2 oC_3 =>
                                zGd (inb (i + (1 : Int32)) L) <|
                                zGd (inb (i + (2 : Int32)) L) <|
                                zB5 (fX10_moves NN mZ mY mU mJ mK mP (xs (i + (1 : Int32)).toNatClampNeg) (xs (i + (2 : Int32)).toNatClampNeg)) fun v4 mZ_5 mU_6 mJ_7 mK_8 =>
                                if v1 = v4 then (
                                  zLet (i + 6) fun x9 =>
                                  go x9 oH_2 oR oT oS oP oN oY oK oE oQ oC_3 mZ_5 mY mB mL mU_6 mJ_7 mK_8 mG mA mP mS mW mN mO
                                ) else (
                                  none
                                )
                              ) else (
                                if x1 = 13 then (
                                  zGd (inb (i + (1 : Int32)) L) <|
                                  zB3 (fX7_quickest NN oH oP oE oC (xs (i + (1 : Int32)).toNatClampNeg)) fun v1 oH_2 oC_3 =>
                                  zGd (inb (i + (1 : Int32)) L) <|
                                  zB5 (fX10_quickest NN mZ mY mU mJ mK mP (xs (i + (1 : Int32)).toNatClampNeg)) fun v4 mZ_5 mU_6 mJ_7 mK_8 =>
                                  if v1 = v4 then (
                                    zLet (i + 6) fun x9 =>
                                    go x9 oH_2 oR oT oS oP oN oY oK oE oQ oC_3 mZ_5 mY mB mL mU_6 mJ_7 mK_8 mG mA mP mS mW mN mO
                                  ) else (
                                    none
                                  )
                                ) else (
                                  if x1 = 14 then (
                                    zGd (inb (i + (1 : Int32)) L) <|
                                    zB3 (fX7_fewest NN oH oP oE oC (xs (i + (1 : Int32)).toNatClampNeg)) fun v1 oH_2 oC_3 =>
                                    zGd (inb (i + (1 : Int32)) L) <|
                                    zB5 (fX10_fewest NN mZ mY mU mJ mK mP (xs (i + (1 : Int32)).toNatClampNeg)) fun v4 mZ_5 mU_6 mJ_7 mK_8 =>
                                    if v1 = v4 then (
                                      zLet (i + 6) fun x9 =>
                                      go x9 oH_2 oR oT oS oP oN oY oK oE oQ oC_3 mZ_5 mY mB mL mU_6 mJ_7 mK_8 mG mA mP mS mW mN mO
                                    ) else (
                                      none
                                    )
                                  ) else (
                                    if x1 = 15 then (
                                      zGd (inb (i + (1 : Int32)) L) <|
                                      zGd (inb (i + (2 : Int32)) L) <|
                                      zB3 (fX7_turn NN oH oP oE oC (xs (i + (1 : Int32)).toNatClampNeg) (xs (i + (2 : Int32)).toNatClampNeg)) fun v1 oH_2 oC_3 =>
                                      zGd (inb (i + (1 : Int32)) L) <|
                                      zGd (inb (i + (2 : Int32)) L) <|
                                      zB5 (fX10_turn NN mZ mY mU mJ mK mP (xs (i + (1 : Int32)).toNatClampNeg) (xs (i + (2 : Int32)).toNatClampNeg)) fun v4 mZ_5 mU_6 mJ_7 mK_8 =>
                                      if v1 = v4 then (
                                        zLet (i + 6) fun x9 =>
                                        go x9 oH_2 oR oT oS oP oN oY oK oE oQ oC_3 mZ_5 mY mB mL mU_6 mJ_7 mK_8 mG mA mP mS mW mN mO
                                      ) else (
                                        none
                                      )
                                    ) else (
                                      if x1 = 16 then (
                                        zB3 (fX7_edges NN oH oP oE oC) fun v1 oH_2 oC_3 =>
                                        zB7 (fX10_edges NN mZ mY mU mJ mK mG mA mP) fun v4 mZ_5 mU_6 mJ_7 mK_8 mG_9 mA_10 =>
                                        if v1 = v4 then (
                                          zLet (i + 6) fun x11 =>
                                          go x11 oH_2 oR oT oS oP oN oY oK oE oQ oC_3 mZ_5 mY mB mL mU_6 mJ_7 mK_8 mG_9 mA_10 mP mS mW mN mO
                                        ) else (
                                          none
                                        )
                                      ) else (
                                        if x1 = 17 then (
                                          zGd (inb (i + (1 : Int32)) L) <|
                                          zB1 (fX7_edge oH (xs (i + (1 : Int32)).toNatClampNeg)) fun v1 =>
                                          zGd (inb (i + (1 : Int32)) L) <|
                                          zB2 (fX10_edge mZ mG (xs (i + (1 : Int32)).toNatClampNeg)) fun v2 mZ_3 =>
                                          if v1 = v2 then (
                                            zLet (i + 6) fun x4 =>
                                            go x4 oH oR oT oS oP oN oY oK oE oQ oC mZ_3 mY mB mL mU mJ mK mG mA mP mS mW mN mO
                                          ) else (
                                            none
                                          )
                                        ) else (
                                          if x1 = 18 then (
                                            zGd (inb (i + (1 : Int32)) L) <|
                                            zB5 (fX7_run NN oH oP oN oK oE oC (xs (i + (1 : Int32)).toNatClampNeg)) fun v1 oH_2 oN_3 oK_4 oC_5 =>
                                            zGd (inb (i + (1 : Int32)) L) <|
                                            zB6 (fX10_run NN mZ mY mU mJ mK mP mN (xs (i + (1 : Int32)).toNatClampNeg)) fun v6 mZ_7 mU_8 mJ_9 mK_10 mN_11 =>
                                            if v1 = v6 then (
                                              zLet (i + 6) fun x12 =>
                                              go x12 oH_2 oR oT oS oP oN_3 oY oK_4 oE oQ oC_5 mZ_7 mY mB mL mU_8 mJ_9 mK_10 mG mA mP mS mW mN_11 mO
                                            ) else (
                                              none
                                            )
                                          ) else (
                                            if x1 = 19 then (
                                              zGd (inb (i + (1 : Int32)) L) <|
                                              zGd (inb (i + (2 : Int32)) L) <|
                                              zJn (fun (t1 : Int32) =>
                                                  zB4 (fX7_once NN oH oP oN oK (xs (i + (1 : Int32)).toNatClampNeg) t1) fun v3 oH_4 oN_5 oK_6 =>
                                                  zGd (inb (i + (1 : Int32)) L) <|
                                                  zGd (inb (i + (2 : Int32)) L) <|
                                                  zJn (fun (t7 : Int32) =>
                                                      zB4 (fX10_once NN mZ mY mU mP mN (xs (i + (1 : Int32)).toNatClampNeg) t7) fun v9 mZ_10 mU_11 mN_12 =>
                                                      if v3 = v9 then (
                                                        zLet (i + 6) fun x13 =>
                                                        go x13 oH_4 oR oT oS oP oN_5 oY oK_6 oE oQ oC mZ_10 mY mB mL mU_11 mJ mK mG mA mP mS mW mN_12 mO
                                                      ) else (
                                                        none
                                                      )
                                                    ) fun J760_8 =>
                                                  if (xs (i + (2 : Int32)).toNatClampNeg) = 0 then (
                                                    J760_8 (0 : Int32)
                                                  ) else (
                                                    J760_8 (1 : Int32)
                                                  )
                                                ) fun J736_2 =>
                                              if (xs (i + (2 : Int32)).toNatClampNeg) = 0 then (
                                                J736_2 (0 : Int32)
                                              ) else (
                                                J736_2 (1 : Int32)
                                              )
                                            ) else (
                                              if x1 = 20 then (
                                                zGd (inb (i + (1 : Int32)) L) <|
                                                zGd (inb (i + (2 : Int32)) L) <|
                                                zB4 (fX7_changes NN oH oP oN oY oK (xs (i + (1 : Int32)).toNatClampNeg) (xs (i + (2 : Int32)).toNatClampNeg)) fun v1 oH_2 oY_3 oK_4 =>
                                                zGd (inb (i + (1 : Int32)) L) <|
                                                zGd (inb (i + (2 : Int32)) L) <|
                                                zB4 (fX10_changes NN mZ mY mU mP mN mO (xs (i + (1 : Int32)).toNatClampNeg) (xs (i + (2 : Int32)).toNatClampNeg)) fun v5 mZ_6 mU_7 mO_8 =>
                                                if v1 = v5 then (
                                                  zLet (i + 6) fun x9 =>
                                                  go x9 oH_2 oR oT oS oP oN oY_3 oK_4 oE oQ oC mZ_6 mY mB mL mU_7 mJ mK mG mA mP mS mW mN mO_8
                                                ) else (
                                                  none
                                                )
                                              ) else (
                                                if x1 = 21 then (
                                                  zGd (inb (i + (1 : Int32)) L) <|
                                                  zB4 (fX7_still NN oH oP oN oY oK (xs (i + (1 : Int32)).toNatClampNeg)) fun v1 oH_2 oY_3 oK_4 =>
                                                  zGd (inb (i + (1 : Int32)) L) <|
                                                  zB4 (fX10_still NN mZ mY mU mP mN mO (xs (i + (1 : Int32)).toNatClampNeg)) fun v5 mZ_6 mU_7 mO_8 =>
                                                  if v1 = v5 then (
                                                    zLet (i + 6) fun x9 =>
                                                    go x9 oH_2 oR oT oS oP oN oY_3 oK_4 oE oQ oC mZ_6 mY mB mL mU_7 mJ mK mG mA mP mS mW mN mO_8
                                                  ) else (
                                                    none
                                                  )
                                                ) else (
                                                  if x1 = 22 then (
                                                    zGd (inb (i + (1 : Int32)) L) <|
                                                    zGd (inb (i + (2 : Int32)) L) <|
                                                    zB2 (fX7_name oP (xs (i + (1 : Int32)).toNatClampNeg) (xs (i + (2 : Int32)).toNatClampNeg)) fun fl1 v2 =>
                                                    if fl1 = 1 then (
                                                      zGd (inb (i + (1 : Int32)) L) <|
                                                      zGd (inb (i + (2 : Int32)) L) <|
                                                      zB2 (fX10_name mZ mY mP (xs (i + (1 : Int32)).toNatClampNeg) (xs (i + (2 : Int32)).toNatClampNeg)) fun v3 mZ_4 =>
                                                      zB1 (fX10_thrown mZ_4) fun v5 =>
                                                      if v5 = (1 : Int32) then (
                                                        zLet (i + 6) fun x6 =>
                                                        go x6 oH oR oT oS oP oN oY oK oE oQ oC mZ_4 mY mB mL mU mJ mK mG mA mP mS mW mN mO
                                                      ) else (
                                                        none
                                                      )
                                                    ) else (
                                                      zGd (inb (i + (1 : Int32)) L) <|
                                                      zGd (inb (i + (2 : Int32)) L) <|
                                                      zB2 (fX10_name mZ mY mP (xs (i + (1 : Int32)).toNatClampNeg) (xs (i + (2 : Int32)).toNatClampNeg)) fun v7 mZ_8 =>
                                                      zB1 (fX10_thrown mZ_8) fun v9 =>
                                                      if v9 = (0 : Int32) then (
                                                        if (lg_cmp (v2.toInt64) (v7.toInt64)) = 0 then (
                                                          zLet (i + 6) fun x10 =>
                                                          go x10 oH oR oT oS oP oN oY oK oE oQ oC mZ_8 mY mB mL mU mJ mK mG mA mP mS mW mN mO
                                                        ) else (
                                                          none
                                                        )
                                                      ) else (
                                                        none
                                                      )
                                                    )
                                                  ) else (
                                                    if x1 = 23 then (
                                                      zGd (inb (i + (1 : Int32)) L) <|
                                                      zB1 (fX7_count oH oT oP (xs (i + (1 : Int32)).toNatClampNeg)) fun v1 =>
                                                      zGd (inb (i + (1 : Int32)) L) <|
                                                      zB2 (fX10_count mZ mY mB mP (xs (i + (1 : Int32)).toNatClampNeg)) fun v2 mZ_3 =>
                                                      if v1 = v2 then (
                                                        zLet (i + 6) fun x4 =>
                                                        go x4 oH oR oT oS oP oN oY oK oE oQ oC mZ_3 mY mB mL mU mJ mK mG mA mP mS mW mN mO
                                                      ) else (
                                                        none
                                                      )
                                                    ) else (
                                                      if x1 = 24 then (
                                                        zB1 (fX7_trouble oH) fun v1 =>
                                                        zB2 (fX10_trouble mZ) fun v2 mZ_3 =>
                                                        if v1 = v2 then (
                                                          zLet (i + 6) fun x4 =>
                                                          go x4 oH oR oT oS oP oN oY oK oE oQ oC mZ_3 mY mB mL mU mJ mK mG mA mP mS mW mN mO
                                                        ) else (
                                                          none
                                                        )
                                                      ) else (
                                                        zLet (i + 6) fun x5 =>
                                                        go x5 oH oR oT oS oP oN oY oK oE oQ oC mZ mY mB mL mU mJ mK mG mA mP mS mW mN mO
                                                      )
                                                    )
                                                  )
                                                )
                                              )
                                            )
                                          )
                                        )
                                      )
                                    )
                                  )
                                )
                              )
                            )
                          )
                        )
                      )
                    )
                  )
                )
              )
            )
          )
        )
      )
    )
  ) n i oH oR oT oS oP oN oY oK oE oQ oC mZ mY mB mL mU mJ mK mG mA mP mS mW mN mO
theorem zLawN (t : Nat) : nI (6 * t) + 6 = nI (6 * (t + 1)) := by
  rw [show (6 : Int32) = nI 6 from rfl, nI_add]
  congr 1
theorem zLawB {L t : Nat} {i : Int32} (hL : L ≤ 3072) (hit : 6 * t ≤ L) (hi : i = nI (6 * t)) (hc : ¬ (Int32.ofNat L - 6) < i) : 6 * t + 6 ≤ L := by
  have h1 : (nI L - nI 6).toInt = (L : Int) - 6 := pk_sub_toInt (by omega) (by omega)
  have h2 : (nI (6 * t)).toInt = ((6 * t : Nat) : Int) := nI_toInt (by omega)
  have h3 : ¬ (nI L - nI 6).toInt < (nI (6 * t)).toInt := fun h => hc (by rw [hi]; exact Int32.lt_iff_toInt_lt.mpr h)
  rw [h1, h2] at h3
  omega

