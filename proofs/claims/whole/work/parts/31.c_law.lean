def zLp26 {α1 α2 α3 α4 α5 α6 α7 α8 α9 α10 α11 α12 α13 α14 α15 α16 α17 α18 α19 α20 α21 α22 α23 α24 α25 α26 β : Type} (F : (α1 → α2 → α3 → α4 → α5 → α6 → α7 → α8 → α9 → α10 → α11 → α12 → α13 → α14 → α15 → α16 → α17 → α18 → α19 → α20 → α21 → α22 → α23 → α24 → α25 → α26 → Option β) → α1 → α2 → α3 → α4 → α5 → α6 → α7 → α8 → α9 → α10 → α11 → α12 → α13 → α14 → α15 → α16 → α17 → α18 → α19 → α20 → α21 → α22 → α23 → α24 → α25 → α26 → Option β) : Nat → α1 → α2 → α3 → α4 → α5 → α6 → α7 → α8 → α9 → α10 → α11 → α12 → α13 → α14 → α15 → α16 → α17 → α18 → α19 → α20 → α21 → α22 → α23 → α24 → α25 → α26 → Option β
  | 0 => fun _ _ _ _ _ _ _ _ _ _ _ _ _ _ _ _ _ _ _ _ _ _ _ _ _ _ => none
  | n + 1 => fun a1 a2 a3 a4 a5 a6 a7 a8 a9 a10 a11 a12 a13 a14 a15 a16 a17 a18 a19 a20 a21 a22 a23 a24 a25 a26 => F (zLp26 F n) a1 a2 a3 a4 a5 a6 a7 a8 a9 a10 a11 a12 a13 a14 a15 a16 a17 a18 a19 a20 a21 a22 a23 a24 a25 a26
theorem zLp26_ind {α1 α2 α3 α4 α5 α6 α7 α8 α9 α10 α11 α12 α13 α14 α15 α16 α17 α18 α19 α20 α21 α22 α23 α24 α25 α26 β : Type} {F : (α1 → α2 → α3 → α4 → α5 → α6 → α7 → α8 → α9 → α10 → α11 → α12 → α13 → α14 → α15 → α16 → α17 → α18 → α19 → α20 → α21 → α22 → α23 → α24 → α25 → α26 → Option β) → α1 → α2 → α3 → α4 → α5 → α6 → α7 → α8 → α9 → α10 → α11 → α12 → α13 → α14 → α15 → α16 → α17 → α18 → α19 → α20 → α21 → α22 → α23 → α24 → α25 → α26 → Option β} {o : β} {P : α1 → α2 → α3 → α4 → α5 → α6 → α7 → α8 → α9 → α10 → α11 → α12 → α13 → α14 → α15 → α16 → α17 → α18 → α19 → α20 → α21 → α22 → α23 → α24 → α25 → α26 → Prop} (st : ∀ go : α1 → α2 → α3 → α4 → α5 → α6 → α7 → α8 → α9 → α10 → α11 → α12 → α13 → α14 → α15 → α16 → α17 → α18 → α19 → α20 → α21 → α22 → α23 → α24 → α25 → α26 → Option β, (∀ a1 a2 a3 a4 a5 a6 a7 a8 a9 a10 a11 a12 a13 a14 a15 a16 a17 a18 a19 a20 a21 a22 a23 a24 a25 a26, go a1 a2 a3 a4 a5 a6 a7 a8 a9 a10 a11 a12 a13 a14 a15 a16 a17 a18 a19 a20 a21 a22 a23 a24 a25 a26 = some o → P a1 a2 a3 a4 a5 a6 a7 a8 a9 a10 a11 a12 a13 a14 a15 a16 a17 a18 a19 a20 a21 a22 a23 a24 a25 a26) → ∀ a1 a2 a3 a4 a5 a6 a7 a8 a9 a10 a11 a12 a13 a14 a15 a16 a17 a18 a19 a20 a21 a22 a23 a24 a25 a26, F go a1 a2 a3 a4 a5 a6 a7 a8 a9 a10 a11 a12 a13 a14 a15 a16 a17 a18 a19 a20 a21 a22 a23 a24 a25 a26 = some o → P a1 a2 a3 a4 a5 a6 a7 a8 a9 a10 a11 a12 a13 a14 a15 a16 a17 a18 a19 a20 a21 a22 a23 a24 a25 a26) : ∀ (n : Nat) a1 a2 a3 a4 a5 a6 a7 a8 a9 a10 a11 a12 a13 a14 a15 a16 a17 a18 a19 a20 a21 a22 a23 a24 a25 a26, zLp26 F n a1 a2 a3 a4 a5 a6 a7 a8 a9 a10 a11 a12 a13 a14 a15 a16 a17 a18 a19 a20 a21 a22 a23 a24 a25 a26 = some o → P a1 a2 a3 a4 a5 a6 a7 a8 a9 a10 a11 a12 a13 a14 a15 a16 a17 a18 a19 a20 a21 a22 a23 a24 a25 a26 := by
  intro n
  induction n with
  | zero => intro a1 a2 a3 a4 a5 a6 a7 a8 a9 a10 a11 a12 a13 a14 a15 a16 a17 a18 a19 a20 a21 a22 a23 a24 a25 a26 h; cases h
  | succ n ih => intro a1 a2 a3 a4 a5 a6 a7 a8 a9 a10 a11 a12 a13 a14 a15 a16 a17 a18 a19 a20 a21 a22 a23 a24 a25 a26 h; exact st _ ih a1 a2 a3 a4 a5 a6 a7 a8 a9 a10 a11 a12 a13 a14 a15 a16 a17 a18 a19 a20 a21 a22 a23 a24 a25 a26 h
def fLaw (NN L : Nat) (xs : Nat → Int32) (n : Nat) (i : Int32) (oH : Rc) (oR : Rc) (oT : Rc) (oS : Rc) (oP : Rc) (oN : Ar) (oY : Ar) (oK : Rc) (oE : Rc) (oQ : Rc) (oC : Rc) (mZ : Rc) (mY : Rc) (mB : Rc) (mL : Rc) (mU : Rc) (mJ : Rc) (mK : Rc) (mG : Rc) (mA : Rc) (mP : Rc) (mS : Rc) (mW : Rc) (mN : Ar) (mO : Ar) : Option Unit := zLp26 (fun (go : Int32 → Rc → Rc → Rc → Rc → Rc → Ar → Ar → Rc → Rc → Rc → Rc → Rc → Rc → Rc → Rc → Rc → Rc → Rc → Rc → Rc → Rc → Rc → Rc → Ar → Ar → Option Unit) (i : Int32) (oH : Rc) (oR : Rc) (oT : Rc) (oS : Rc) (oP : Rc) (oN : Ar) (oY : Ar) (oK : Rc) (oE : Rc) (oQ : Rc) (oC : Rc) (mZ : Rc) (mY : Rc) (mB : Rc) (mL : Rc) (mU : Rc) (mJ : Rc) (mK : Rc) (mG : Rc) (mA : Rc) (mP : Rc) (mS : Rc) (mW : Rc) (mN : Ar) (mO : Ar) =>
    if ((Int32.ofNat L) - (6 : Int32)) < i then (
      some ()
    ) else (
      zGd (inb i L) <|
      zLet ((xs i.toNatClampNeg) &&& (31 : Int32)) fun x1 =>
      if x1 = 0 then (
        zGd (inb (i + (1 : Int32)) L) <|
        zGd (inb (i + (2 : Int32)) L) <|
        zGd (inb (i + (3 : Int32)) L) <|
        zB6 (fX7_set NN oH oP oN oE oQ oC (xs (i + (1 : Int32)).toNatClampNeg) (xs (i + (2 : Int32)).toNatClampNeg) (xs (i + (3 : Int32)).toNatClampNeg)) fun v3 oH_4 oN_5 oE_6 oQ_7 oC_8 =>
        zGd (inb (i + (1 : Int32)) L) <|
        zGd (inb (i + (2 : Int32)) L) <|
        zGd (inb (i + (3 : Int32)) L) <|
        zB4 (fX10_set NN mZ mY mN (xs (i + (1 : Int32)).toNatClampNeg) (xs (i + (2 : Int32)).toNatClampNeg) (xs (i + (3 : Int32)).toNatClampNeg)) fun v9 mZ_10 mY_11 mN_12 =>
        if v3 = v9 then (
          zLet (i + 6) fun x13 =>
          go x13 oH_4 oR oT oS oP oN_5 oY oK oE_6 oQ_7 oC_8 mZ_10 mY_11 mB mL mU mJ mK mG mA mP mS mW mN_12 mO
        ) else (
          none
        )
      ) else (
        if x1 = 1 then (
          zGd (inb (i + (1 : Int32)) L) <|
          zGd (inb (i + (2 : Int32)) L) <|
          zGd (inb (i + (3 : Int32)) L) <|
          zGd (inb (i + (4 : Int32)) L) <|
          zGd (inb (i + (5 : Int32)) L) <|
          zB2 (fX7_feed NN oT (xs (i + (1 : Int32)).toNatClampNeg) (xs (i + (2 : Int32)).toNatClampNeg) (xs (i + (3 : Int32)).toNatClampNeg) (xs (i + (4 : Int32)).toNatClampNeg) (xs (i + (5 : Int32)).toNatClampNeg)) fun v15 oT_16 =>
          zGd (inb (i + (1 : Int32)) L) <|
          zGd (inb (i + (2 : Int32)) L) <|
          zGd (inb (i + (3 : Int32)) L) <|
          zGd (inb (i + (4 : Int32)) L) <|
          zGd (inb (i + (5 : Int32)) L) <|
          zB3 (fX10_feed NN mZ mB (xs (i + (1 : Int32)).toNatClampNeg) (xs (i + (2 : Int32)).toNatClampNeg) (xs (i + (3 : Int32)).toNatClampNeg) (xs (i + (4 : Int32)).toNatClampNeg) (xs (i + (5 : Int32)).toNatClampNeg)) fun v17 mZ_18 mB_19 =>
          if v15 = v17 then (
            zLet (i + 6) fun x20 =>
            go x20 oH oR oT_16 oS oP oN oY oK oE oQ oC mZ_18 mY mB_19 mL mU mJ mK mG mA mP mS mW mN mO
          ) else (
            none
          )
        ) else (
          if x1 = 2 then (
            zGd (inb (i + (1 : Int32)) L) <|
            zB10 (fX7_program NN oH oR oT oS oP oE oQ oC (xs (i + (1 : Int32)).toNatClampNeg)) fun v22 sw23 oH_24 oR_25 oT_26 oS_27 oP_28 oE_29 oQ_30 oC_31 =>
            zGd (inb (i + (1 : Int32)) L) <|
            zB9 (fX10_program NN mZ mY mB mL mP mS mW (xs (i + (1 : Int32)).toNatClampNeg)) fun v32 sw33 mZ_34 mY_35 mB_36 mL_37 mP_38 mS_39 mW_40 =>
            if v22 = v32 then (
              zLet (i + 6) fun x41 =>
              go x41 oH_24 oR_25 oT_26 oS_27 oP_28 oN oY oK oE_29 oQ_30 oC_31 mZ_34 mY_35 mB_36 mL_37 mU mJ mK mG mA mP_38 mS_39 mW_40 mN mO
            ) else (
              none
            )
          ) else (
            if x1 = 3 then (
              zB1 (fX7_fault oR) fun v43 =>
              zB2 (fX10_fault mZ) fun v44 mZ_45 =>
              if v43 = v44 then (
                zLet (i + 6) fun x46 =>
                go x46 oH oR oT oS oP oN oY oK oE oQ oC mZ_45 mY mB mL mU mJ mK mG mA mP mS mW mN mO
              ) else (
                none
              )
            ) else (
              if x1 = 4 then (
                zB1 (fX7_where oH oR) fun v48 =>
                zB2 (fX10_where mZ) fun v49 mZ_50 =>
                if v48 = v49 then (
                  zLet (i + 6) fun x51 =>
                  go x51 oH oR oT oS oP oN oY oK oE oQ oC mZ_50 mY mB mL mU mJ mK mG mA mP mS mW mN mO
                ) else (
                  none
                )
              ) else (
                if x1 = 5 then (
                  zGd (inb (i + (1 : Int32)) L) <|
                  zGd (inb (i + (2 : Int32)) L) <|
                  zB3 (fX7_put oH oN (xs (i + (1 : Int32)).toNatClampNeg) (xs (i + (2 : Int32)).toNatClampNeg)) fun v53 oH_54 oN_55 =>
                  zGd (inb (i + (1 : Int32)) L) <|
                  zGd (inb (i + (2 : Int32)) L) <|
                  zB3 (fX10_put mZ mY mN (xs (i + (1 : Int32)).toNatClampNeg) (xs (i + (2 : Int32)).toNatClampNeg)) fun v56 mZ_57 mN_58 =>
                  if v53 = v56 then (
                    zLet (i + 6) fun x59 =>
                    go x59 oH_54 oR oT oS oP oN_55 oY oK oE oQ oC mZ_57 mY mB mL mU mJ mK mG mA mP mS mW mN_58 mO
                  ) else (
                    none
                  )
                ) else (
                  if x1 = 6 then (
                    zGd (inb (i + (1 : Int32)) L) <|
                    zB1 (fX7_get oN (xs (i + (1 : Int32)).toNatClampNeg)) fun v61 =>
                    zGd (inb (i + (1 : Int32)) L) <|
                    zB2 (fX10_get mZ mN (xs (i + (1 : Int32)).toNatClampNeg)) fun v62 mZ_63 =>
                    if v61 = v62 then (
                      zLet (i + 6) fun x64 =>
                      go x64 oH oR oT oS oP oN oY oK oE oQ oC mZ_63 mY mB mL mU mJ mK mG mA mP mS mW mN mO
                    ) else (
                      none
                    )
                  ) else (
                    if x1 = 7 then (
                      zGd (inb (i + (1 : Int32)) L) <|
                      zGd (inb (i + (2 : Int32)) L) <|
                      zB1 (fX7_block oP oE (xs (i + (1 : Int32)).toNatClampNeg) (xs (i + (2 : Int32)).toNatClampNeg)) fun v66 =>
                      zGd (inb (i + (1 : Int32)) L) <|
                      zGd (inb (i + (2 : Int32)) L) <|
                      zB3 (fX10_block NN mZ mY mU mP (xs (i + (1 : Int32)).toNatClampNeg) (xs (i + (2 : Int32)).toNatClampNeg)) fun v67 mZ_68 mU_69 =>
                      if v66 = v67 then (
                        zLet (i + 6) fun x70 =>
                        go x70 oH oR oT oS oP oN oY oK oE oQ oC mZ_68 mY mB mL mU_69 mJ mK mG mA mP mS mW mN mO
                      ) else (
                        none
                      )
                    ) else (
                      if x1 = 8 then (
                        zGd (inb (i + (1 : Int32)) L) <|
                        zB3 (fX7_ticks NN oH oP oE oC (xs (i + (1 : Int32)).toNatClampNeg)) fun v72 oH_73 oC_74 =>
                        zGd (inb (i + (1 : Int32)) L) <|
                        zB5 (fX10_ticks NN mZ mY mU mJ mK mP (xs (i + (1 : Int32)).toNatClampNeg)) fun v75 mZ_76 mU_77 mJ_78 mK_79 =>
                        if v72 = v75 then (
                          zLet (i + 6) fun x80 =>
                          go x80 oH_73 oR oT oS oP oN oY oK oE oQ oC_74 mZ_76 mY mB mL mU_77 mJ_78 mK_79 mG mA mP mS mW mN mO
                        ) else (
                          none
                        )
                      ) else (
                        if x1 = 9 then (
                          zGd (inb (i + (1 : Int32)) L) <|
                          zB3 (fX7_gates NN oH oP oE oC (xs (i + (1 : Int32)).toNatClampNeg)) fun v82 oH_83 oC_84 =>
                          zGd (inb (i + (1 : Int32)) L) <|
                          zB4 (fX10_gates NN mZ mY mU mJ mP (xs (i + (1 : Int32)).toNatClampNeg)) fun v85 mZ_86 mU_87 mJ_88 =>
                          if v82 = v85 then (
                            zLet (i + 6) fun x89 =>
                            go x89 oH_83 oR oT oS oP oN oY oK oE oQ oC_84 mZ_86 mY mB mL mU_87 mJ_88 mK mG mA mP mS mW mN mO
                          ) else (
                            none
                          )
                        ) else (
                          if x1 = 10 then (
                            zGd (inb (i + (1 : Int32)) L) <|
                            zB3 (fX7_moved NN oH oP oE oC (xs (i + (1 : Int32)).toNatClampNeg)) fun v91 oH_92 oC_93 =>
                            zGd (inb (i + (1 : Int32)) L) <|
                            zB5 (fX10_moved NN mZ mY mU mJ mK mP (xs (i + (1 : Int32)).toNatClampNeg)) fun v94 mZ_95 mU_96 mJ_97 mK_98 =>
                            if v91 = v94 then (
                              zLet (i + 6) fun x99 =>
                              go x99 oH_92 oR oT oS oP oN oY oK oE oQ oC_93 mZ_95 mY mB mL mU_96 mJ_97 mK_98 mG mA mP mS mW mN mO
                            ) else (
                              none
                            )
                          ) else (
                            if x1 = 11 then (
                              zGd (inb (i + (1 : Int32)) L) <|
                              zB3 (fX7_room NN oH oP oE oC (xs (i + (1 : Int32)).toNatClampNeg)) fun v101 oH_102 oC_103 =>
                              zGd (inb (i + (1 : Int32)) L) <|
                              zB5 (fX10_room NN mZ mY mU mJ mK mP (xs (i + (1 : Int32)).toNatClampNeg)) fun v104 mZ_105 mU_106 mJ_107 mK_108 =>
                              if v101 = v104 then (
                                zLet (i + 6) fun x109 =>
                                go x109 oH_102 oR oT oS oP oN oY oK oE oQ oC_103 mZ_105 mY mB mL mU_106 mJ_107 mK_108 mG mA mP mS mW mN mO
                              ) else (
                                none
                              )
                            ) else (
                              if x1 = 12 then (
                                zGd (inb (i + (1 : Int32)) L) <|
                                zGd (inb (i + (2 : Int32)) L) <|
                                zB3 (fX7_moves NN oH oP oE oC (xs (i + (1 : Int32)).toNatClampNeg) (xs (i + (2 : Int32)).toNatClampNeg)) fun v111 oH_112 oC_113 =>
                                zGd (inb (i + (1 : Int32)) L) <|
                                zGd (inb (i + (2 : Int32)) L) <|
                                zB5 (fX10_moves NN mZ mY mU mJ mK mP (xs (i + (1 : Int32)).toNatClampNeg) (xs (i + (2 : Int32)).toNatClampNeg)) fun v114 mZ_115 mU_116 mJ_117 mK_118 =>
                                if v111 = v114 then (
                                  zLet (i + 6) fun x119 =>
                                  go x119 oH_112 oR oT oS oP oN oY oK oE oQ oC_113 mZ_115 mY mB mL mU_116 mJ_117 mK_118 mG mA mP mS mW mN mO
                                ) else (
                                  none
                                )
                              ) else (
                                if x1 = 13 then (
                                  zGd (inb (i + (1 : Int32)) L) <|
                                  zB3 (fX7_quickest NN oH oP oE oC (xs (i + (1 : Int32)).toNatClampNeg)) fun v121 oH_122 oC_123 =>
                                  zGd (inb (i + (1 : Int32)) L) <|
                                  zB5 (fX10_quickest NN mZ mY mU mJ mK mP (xs (i + (1 : Int32)).toNatClampNeg)) fun v124 mZ_125 mU_126 mJ_127 mK_128 =>
                                  if v121 = v124 then (
                                    zLet (i + 6) fun x129 =>
                                    go x129 oH_122 oR oT oS oP oN oY oK oE oQ oC_123 mZ_125 mY mB mL mU_126 mJ_127 mK_128 mG mA mP mS mW mN mO
                                  ) else (
                                    none
                                  )
                                ) else (
                                  if x1 = 14 then (
                                    zGd (inb (i + (1 : Int32)) L) <|
                                    zB3 (fX7_fewest NN oH oP oE oC (xs (i + (1 : Int32)).toNatClampNeg)) fun v131 oH_132 oC_133 =>
                                    zGd (inb (i + (1 : Int32)) L) <|
                                    zB5 (fX10_fewest NN mZ mY mU mJ mK mP (xs (i + (1 : Int32)).toNatClampNeg)) fun v134 mZ_135 mU_136 mJ_137 mK_138 =>
                                    if v131 = v134 then (
                                      zLet (i + 6) fun x139 =>
                                      go x139 oH_132 oR oT oS oP oN oY oK oE oQ oC_133 mZ_135 mY mB mL mU_136 mJ_137 mK_138 mG mA mP mS mW mN mO
                                    ) else (
                                      none
                                    )
                                  ) else (
                                    if x1 = 15 then (
                                      zGd (inb (i + (1 : Int32)) L) <|
                                      zGd (inb (i + (2 : Int32)) L) <|
                                      zB3 (fX7_turn NN oH oP oE oC (xs (i + (1 : Int32)).toNatClampNeg) (xs (i + (2 : Int32)).toNatClampNeg)) fun v141 oH_142 oC_143 =>
                                      zGd (inb (i + (1 : Int32)) L) <|
                                      zGd (inb (i + (2 : Int32)) L) <|
                                      zB5 (fX10_turn NN mZ mY mU mJ mK mP (xs (i + (1 : Int32)).toNatClampNeg) (xs (i + (2 : Int32)).toNatClampNeg)) fun v144 mZ_145 mU_146 mJ_147 mK_148 =>
                                      if v141 = v144 then (
                                        zLet (i + 6) fun x149 =>
                                        go x149 oH_142 oR oT oS oP oN oY oK oE oQ oC_143 mZ_145 mY mB mL mU_146 mJ_147 mK_148 mG mA mP mS mW mN mO
                                      ) else (
                                        none
                                      )
                                    ) else (
                                      if x1 = 16 then (
                                        zB3 (fX7_edges NN oH oP oE oC) fun v151 oH_152 oC_153 =>
                                        zB7 (fX10_edges NN mZ mY mU mJ mK mG mA mP) fun v154 mZ_155 mU_156 mJ_157 mK_158 mG_159 mA_160 =>
                                        if v151 = v154 then (
                                          zLet (i + 6) fun x161 =>
                                          go x161 oH_152 oR oT oS oP oN oY oK oE oQ oC_153 mZ_155 mY mB mL mU_156 mJ_157 mK_158 mG_159 mA_160 mP mS mW mN mO
                                        ) else (
                                          none
                                        )
                                      ) else (
                                        if x1 = 17 then (
                                          zGd (inb (i + (1 : Int32)) L) <|
                                          zB1 (fX7_edge oH (xs (i + (1 : Int32)).toNatClampNeg)) fun v163 =>
                                          zGd (inb (i + (1 : Int32)) L) <|
                                          zB2 (fX10_edge mZ mG (xs (i + (1 : Int32)).toNatClampNeg)) fun v164 mZ_165 =>
                                          if v163 = v164 then (
                                            zLet (i + 6) fun x166 =>
                                            go x166 oH oR oT oS oP oN oY oK oE oQ oC mZ_165 mY mB mL mU mJ mK mG mA mP mS mW mN mO
                                          ) else (
                                            none
                                          )
                                        ) else (
                                          if x1 = 18 then (
                                            zGd (inb (i + (1 : Int32)) L) <|
                                            zB5 (fX7_run NN oH oP oN oK oE oC (xs (i + (1 : Int32)).toNatClampNeg)) fun v168 oH_169 oN_170 oK_171 oC_172 =>
                                            zGd (inb (i + (1 : Int32)) L) <|
                                            zB6 (fX10_run NN mZ mY mU mJ mK mP mN (xs (i + (1 : Int32)).toNatClampNeg)) fun v173 mZ_174 mU_175 mJ_176 mK_177 mN_178 =>
                                            if v168 = v173 then (
                                              zLet (i + 6) fun x179 =>
                                              go x179 oH_169 oR oT oS oP oN_170 oY oK_171 oE oQ oC_172 mZ_174 mY mB mL mU_175 mJ_176 mK_177 mG mA mP mS mW mN_178 mO
                                            ) else (
                                              none
                                            )
                                          ) else (
                                            if x1 = 19 then (
                                              zGd (inb (i + (1 : Int32)) L) <|
                                              zGd (inb (i + (2 : Int32)) L) <|
                                              zJn (fun (t181 : Int32) =>
                                                  zB4 (fX7_once NN oH oP oN oK (xs (i + (1 : Int32)).toNatClampNeg) t181) fun v183 oH_184 oN_185 oK_186 =>
                                                  zGd (inb (i + (1 : Int32)) L) <|
                                                  zGd (inb (i + (2 : Int32)) L) <|
                                                  zJn (fun (t187 : Int32) =>
                                                      zB4 (fX10_once NN mZ mY mU mP mN (xs (i + (1 : Int32)).toNatClampNeg) t187) fun v189 mZ_190 mU_191 mN_192 =>
                                                      if v183 = v189 then (
                                                        zLet (i + 6) fun x193 =>
                                                        go x193 oH_184 oR oT oS oP oN_185 oY oK_186 oE oQ oC mZ_190 mY mB mL mU_191 mJ mK mG mA mP mS mW mN_192 mO
                                                      ) else (
                                                        none
                                                      )
                                                    ) fun J760_188 =>
                                                  if (xs (i + (2 : Int32)).toNatClampNeg) = 0 then (
                                                    J760_188 (0 : Int32)
                                                  ) else (
                                                    J760_188 (1 : Int32)
                                                  )
                                                ) fun J736_182 =>
                                              if (xs (i + (2 : Int32)).toNatClampNeg) = 0 then (
                                                J736_182 (0 : Int32)
                                              ) else (
                                                J736_182 (1 : Int32)
                                              )
                                            ) else (
                                              if x1 = 20 then (
                                                zGd (inb (i + (1 : Int32)) L) <|
                                                zGd (inb (i + (2 : Int32)) L) <|
                                                zB4 (fX7_changes NN oH oP oN oY oK (xs (i + (1 : Int32)).toNatClampNeg) (xs (i + (2 : Int32)).toNatClampNeg)) fun v195 oH_196 oY_197 oK_198 =>
                                                zGd (inb (i + (1 : Int32)) L) <|
                                                zGd (inb (i + (2 : Int32)) L) <|
                                                zB4 (fX10_changes NN mZ mY mU mP mN mO (xs (i + (1 : Int32)).toNatClampNeg) (xs (i + (2 : Int32)).toNatClampNeg)) fun v199 mZ_200 mU_201 mO_202 =>
                                                if v195 = v199 then (
                                                  zLet (i + 6) fun x203 =>
                                                  go x203 oH_196 oR oT oS oP oN oY_197 oK_198 oE oQ oC mZ_200 mY mB mL mU_201 mJ mK mG mA mP mS mW mN mO_202
                                                ) else (
                                                  none
                                                )
                                              ) else (
                                                if x1 = 21 then (
                                                  zGd (inb (i + (1 : Int32)) L) <|
                                                  zB4 (fX7_still NN oH oP oN oY oK (xs (i + (1 : Int32)).toNatClampNeg)) fun v205 oH_206 oY_207 oK_208 =>
                                                  zGd (inb (i + (1 : Int32)) L) <|
                                                  zB4 (fX10_still NN mZ mY mU mP mN mO (xs (i + (1 : Int32)).toNatClampNeg)) fun v209 mZ_210 mU_211 mO_212 =>
                                                  if v205 = v209 then (
                                                    zLet (i + 6) fun x213 =>
                                                    go x213 oH_206 oR oT oS oP oN oY_207 oK_208 oE oQ oC mZ_210 mY mB mL mU_211 mJ mK mG mA mP mS mW mN mO_212
                                                  ) else (
                                                    none
                                                  )
                                                ) else (
                                                  if x1 = 22 then (
                                                    zGd (inb (i + (1 : Int32)) L) <|
                                                    zGd (inb (i + (2 : Int32)) L) <|
                                                    zB2 (fX7_name oP (xs (i + (1 : Int32)).toNatClampNeg) (xs (i + (2 : Int32)).toNatClampNeg)) fun fl215 v216 =>
                                                    if fl215 = 1 then (
                                                      zGd (inb (i + (1 : Int32)) L) <|
                                                      zGd (inb (i + (2 : Int32)) L) <|
                                                      zB2 (fX10_name mZ mY mP (xs (i + (1 : Int32)).toNatClampNeg) (xs (i + (2 : Int32)).toNatClampNeg)) fun v217 mZ_218 =>
                                                      zB1 (fX10_thrown mZ_218) fun v219 =>
                                                      if v219 = (1 : Int32) then (
                                                        zLet (i + 6) fun x220 =>
                                                        go x220 oH oR oT oS oP oN oY oK oE oQ oC mZ_218 mY mB mL mU mJ mK mG mA mP mS mW mN mO
                                                      ) else (
                                                        none
                                                      )
                                                    ) else (
                                                      zGd (inb (i + (1 : Int32)) L) <|
                                                      zGd (inb (i + (2 : Int32)) L) <|
                                                      zB2 (fX10_name mZ mY mP (xs (i + (1 : Int32)).toNatClampNeg) (xs (i + (2 : Int32)).toNatClampNeg)) fun v221 mZ_222 =>
                                                      zB1 (fX10_thrown mZ_222) fun v223 =>
                                                      if v223 = (0 : Int32) then (
                                                        if (lg_cmp (v216.toInt64) (v221.toInt64)) = 0 then (
                                                          zLet (i + 6) fun x224 =>
                                                          go x224 oH oR oT oS oP oN oY oK oE oQ oC mZ_222 mY mB mL mU mJ mK mG mA mP mS mW mN mO
                                                        ) else (
                                                          none
                                                        )
                                                      ) else (
                                                        none
                                                      )
                                                    )
                                                  ) else (
                                                    if x1 = 23 then (
                                                      zGd (inb (i + (1 : Int32)) L) <|
                                                      zB1 (fX7_count oH oT oP (xs (i + (1 : Int32)).toNatClampNeg)) fun v226 =>
                                                      zGd (inb (i + (1 : Int32)) L) <|
                                                      zB2 (fX10_count mZ mY mB mP (xs (i + (1 : Int32)).toNatClampNeg)) fun v227 mZ_228 =>
                                                      if v226 = v227 then (
                                                        zLet (i + 6) fun x229 =>
                                                        go x229 oH oR oT oS oP oN oY oK oE oQ oC mZ_228 mY mB mL mU mJ mK mG mA mP mS mW mN mO
                                                      ) else (
                                                        none
                                                      )
                                                    ) else (
                                                      if x1 = 24 then (
                                                        zB1 (fX7_trouble oH) fun v231 =>
                                                        zB2 (fX10_trouble mZ) fun v232 mZ_233 =>
                                                        if v231 = v232 then (
                                                          zLet (i + 6) fun x234 =>
                                                          go x234 oH oR oT oS oP oN oY oK oE oQ oC mZ_233 mY mB mL mU mJ mK mG mA mP mS mW mN mO
                                                        ) else (
                                                          none
                                                        )
                                                      ) else (
                                                        zLet (i + 6) fun x235 =>
                                                        go x235 oH oR oT oS oP oN oY oK oE oQ oC mZ mY mB mL mU mJ mK mG mA mP mS mW mN mO
                                                      )
                                                    )
                                                  )
                                                )
                                              )
                                            )
                                          )
                                        )
                                      )
                                    )
                                  )
                                )
                              )
                            )
                          )
                        )
                      )
                    )
                  )
                )
              )
            )
          )
        )
      )
    )
  ) n i oH oR oT oS oP oN oY oK oE oQ oC mZ mY mB mL mU mJ mK mG mA mP mS mW mN mO
theorem zLawN (t : Nat) : nI (6 * t) + 6 = nI (6 * (t + 1)) := by
  rw [show (6 : Int32) = nI 6 from rfl, nI_add]
  congr 1
theorem zLawB {L t : Nat} {i : Int32} (hL : L ≤ 3072) (hit : 6 * t ≤ L) (hi : i = nI (6 * t)) (hc : ¬ (Int32.ofNat L - 6) < i) : 6 * t + 6 ≤ L := by
  have h1 : (nI L - nI 6).toInt = (L : Int) - 6 := pk_sub_toInt (by omega) (by omega)
  have h2 : (nI (6 * t)).toInt = ((6 * t : Nat) : Int) := nI_toInt (by omega)
  have h3 : ¬ (nI L - nI 6).toInt < (nI (6 * t)).toInt := fun h => hc (by rw [hi]; exact Int32.lt_iff_toInt_lt.mpr h)
  rw [h1, h2] at h3
  omega
theorem zLawP : ∀ sig, parseMethodDescriptor yL_name.desc = some sig → 4 = sig.parameters.length := by
  intro sig h
  have h2 : (parseMethodDescriptor yL_name.desc).map (fun d => d.parameters.length) = some 4 := by decide +kernel
  rw [h] at h2
  exact (Option.some.inj h2).symm
set_option maxHeartbeats 40000000 in
set_option maxRecDepth 100000 in
theorem law_loop {p : Program} {l : Launch} {e : Env} {s : State} {m : MethodId} {below : List Frame} {meth : Method} {c : Code} {dC : Nat → ClassId} {dI : Nat → Nat → Nat} {cI cB cL : ClassId} {b L : Nat} {xs : Nat → Int32} {A : Nat → Prop} (hL : L ≤ 3072) (C : zCx p m meth c cL_law 7 (some .boolean) s #[Value.ref b] lw_g RL) (hlt : l.stackTraces = false) (hK3 : zK (dC, dI) [(cI, .int), (cB, .byte), (cL, .long)] s) (hXs : va_X b L xs s s.heap) (hbl : b < s.heap.size) (hbA : ¬ A b) (hA : ∀ q : Nat, s.heap.size ≤ q → A q) (hAr : ∀ q : Nat, A q → s.heap.size ≤ q) (hZ : zSx A s s.heap) (aH aR aT aM aN aY aK aE aQ aC bV bW bN bO : Nat → Nat) (aX NN n0 : Nat) (i : Int32) (oH : Rc) (oR : Rc) (oT : Rc) (oS : Rc) (oP : Rc) (oN : Ar) (oY : Ar) (oK : Rc) (oE : Rc) (oQ : Rc) (oC : Rc) (mZ : Rc) (mY : Rc) (mB : Rc) (mL : Rc) (mU : Rc) (mJ : Rc) (mK : Rc) (mG : Rc) (mA : Rc) (mP : Rc) (mS : Rc) (mW : Rc) (mN : Ar) (mO : Ar) (hf : fLaw NN L xs n0 i oH oR oT oS oP oN oY oK oE oQ oC mZ mY mB mL mU mJ mK mG mA mP mS mW mN mO = some ()) : ∀ (t : Nat), i = nI (6 * t) → 6 * t ≤ L → ∀ (aS aP bP bS : Nat → Nat) (f : Nat → Int64) (H : Heap) (locs : List Loc), va_P (dC, dI) vwCl (([kX7 cI cB aH (aR 0) (aM 0) (aE 0) (aC 0) (aP 0) oH, kX5 cI cB aR (aT 0) (aS 0) oR, kX6 cI cB aT oT, kX4 cI cB aS oS, kX4 cI cB aP oP, kX1 cI cB aM (aN 0) (aY 0) (aK 0), kA8 cI cB aN oN, kA8 cI cB aY oY, kX3 cI cB aK oK, kX2 cI cB aE (aQ 0) oE, kX3 cI cB aQ oQ, kX0 cI cB aC oC, kX10 cI cB bV (bP 0) (bS 0) (bW 0) (bN 0) (bO 0) mZ mY mB mL mU mJ mK mG mA, kX8 cI cB bP mP, kX8 cI cB bS mS, kX9 cI cB bW mW, kA8 cI cB bN mN, kA8 cI cB bO mO, kL cL aX f] : List va_W).flatten) H → va_D A (([kX7 cI cB aH (aR 0) (aM 0) (aE 0) (aC 0) (aP 0) oH, kX5 cI cB aR (aT 0) (aS 0) oR, kX6 cI cB aT oT, kX4 cI cB aS oS, kX4 cI cB aP oP, kX1 cI cB aM (aN 0) (aY 0) (aK 0), kA8 cI cB aN oN, kA8 cI cB aY oY, kX3 cI cB aK oK, kX2 cI cB aE (aQ 0) oE, kX3 cI cB aQ oQ, kX0 cI cB aC oC, kX10 cI cB bV (bP 0) (bS 0) (bW 0) (bN 0) (bO 0) mZ mY mB mL mU mJ mK mG mA, kX8 cI cB bP mP, kX8 cI cB bS mS, kX9 cI cB bW mW, kA8 cI cB bN mN, kA8 cI cB bO mO, kL cL aX f] : List va_W).flatten) → va_S A s.heap H locs → ∀ (ls : Array Slot), lv_has ls 7 [(0, .ref b), (1, .ref (aH 0)), (2, .ref (bV 0)), (3, .ref aX), (4, .int i)] → W p l e room_1 s m #[Value.ref b] below meth c H locs (89 + t) (42163 + 6 * t) (lw_Z below #[Value.ref b] s) (F0 m 23 ls []) := by
  have hK : zK (dC, dI) [(cI, .int), (cB, .byte)] s := ⟨hK3.1.sub [0, 1] rfl, hK3.2⟩
  unfold fLaw at hf
  refine zLp26_ind (o := ()) (P := fun (i : Int32) (oH : Rc) (oR : Rc) (oT : Rc) (oS : Rc) (oP : Rc) (oN : Ar) (oY : Ar) (oK : Rc) (oE : Rc) (oQ : Rc) (oC : Rc) (mZ : Rc) (mY : Rc) (mB : Rc) (mL : Rc) (mU : Rc) (mJ : Rc) (mK : Rc) (mG : Rc) (mA : Rc) (mP : Rc) (mS : Rc) (mW : Rc) (mN : Ar) (mO : Ar) => ∀ (t : Nat), i = nI (6 * t) → 6 * t ≤ L → ∀ (aS aP bP bS : Nat → Nat) (f : Nat → Int64) (H : Heap) (locs : List Loc), va_P (dC, dI) vwCl (([kX7 cI cB aH (aR 0) (aM 0) (aE 0) (aC 0) (aP 0) oH, kX5 cI cB aR (aT 0) (aS 0) oR, kX6 cI cB aT oT, kX4 cI cB aS oS, kX4 cI cB aP oP, kX1 cI cB aM (aN 0) (aY 0) (aK 0), kA8 cI cB aN oN, kA8 cI cB aY oY, kX3 cI cB aK oK, kX2 cI cB aE (aQ 0) oE, kX3 cI cB aQ oQ, kX0 cI cB aC oC, kX10 cI cB bV (bP 0) (bS 0) (bW 0) (bN 0) (bO 0) mZ mY mB mL mU mJ mK mG mA, kX8 cI cB bP mP, kX8 cI cB bS mS, kX9 cI cB bW mW, kA8 cI cB bN mN, kA8 cI cB bO mO, kL cL aX f] : List va_W).flatten) H → va_D A (([kX7 cI cB aH (aR 0) (aM 0) (aE 0) (aC 0) (aP 0) oH, kX5 cI cB aR (aT 0) (aS 0) oR, kX6 cI cB aT oT, kX4 cI cB aS oS, kX4 cI cB aP oP, kX1 cI cB aM (aN 0) (aY 0) (aK 0), kA8 cI cB aN oN, kA8 cI cB aY oY, kX3 cI cB aK oK, kX2 cI cB aE (aQ 0) oE, kX3 cI cB aQ oQ, kX0 cI cB aC oC, kX10 cI cB bV (bP 0) (bS 0) (bW 0) (bN 0) (bO 0) mZ mY mB mL mU mJ mK mG mA, kX8 cI cB bP mP, kX8 cI cB bS mS, kX9 cI cB bW mW, kA8 cI cB bN mN, kA8 cI cB bO mO, kL cL aX f] : List va_W).flatten) → va_S A s.heap H locs → ∀ (ls : Array Slot), lv_has ls 7 [(0, .ref b), (1, .ref (aH 0)), (2, .ref (bV 0)), (3, .ref aX), (4, .int i)] → W p l e room_1 s m #[Value.ref b] below meth c H locs (89 + t) (42163 + 6 * t) (lw_Z below #[Value.ref b] s) (F0 m 23 ls [])) (fun go ih i oH oR oT oS oP oN oY oK oE oQ oC mZ mY mB mL mU mJ mK mG mA mP mS mW mN mO hf t hi hit aS aP bP bS f H locs hP hD hS ls hl => ?_) _ i oH oR oT oS oP oN oY oK oE oQ oC mZ mY mB mL mU mJ mK mG mA mP mS mW mN mO hf
  refine lv_iload C.1.1 C.1.2.1 dL_law_23 (lv_at hl 4 rfl) ?_
  refine lv_aload_n C.1.1 C.1.2.1 dL_law_25 rfl (lv_at hl 0 rfl) ?_
  refine va_slen C.1.1 C.1.2.1 hXs hbl hbA hS dL_law_26 ?_
  refine lv_bipush (v := 6) C.1.1 C.1.2.1 dL_law_27 (by decide) ?_
  refine lv_isub C.1.1 C.1.2.1 dL_law_29 ?_
  refine lv_icmp_gt (tgt := 942) C.1.1 C.1.2.1 dL_law_30 (by decide) (fun hc => ?_) (fun hc => ?_)
  · replace hf := zIf_t hf hc
    refine lv_iconst (v := 1) C.1.1 C.1.2.1 dL_law_942 (by decide) ?_
    refine va_forget (fun q hq => hAr _ (hS.2.2 q hq)) ?_
    refine W.widen (k := 601024) (n := 7293034) (by omega) (by omega) ?_
    exact lw_ret C.1.1 C.1.2.1 C.2.1 C.2.2 dL_law_943
  · replace hf := zIf_f hf hc
    have h6 : 6 * t + 6 ≤ L := zLawB hL hit hi hc
    have hcs : 89 + t ≤ room_1.cells ∧ 42163 + 6 * t ≤ room_1.slots := ⟨by show 89 + t ≤ 601024; omega, by show 42163 + 6 * t ≤ 7293034; omega⟩
    refine lv_aload_n C.1.1 C.1.2.1 dL_law_33 rfl (lv_at hl 0 rfl) ?_
    refine lv_iload C.1.1 C.1.2.1 dL_law_34 (lv_at hl 4 rfl) ?_
    obtain ⟨hib, hf⟩ := zGd_el hf
    refine va_sld C.1.1 C.1.2.1 hXs hbl hbA hS hib dL_law_36 ?_
    refine lv_bipush (v := 31) C.1.1 C.1.2.1 dL_law_37 (by decide) ?_
    refine lv_iand C.1.1 C.1.2.1 dL_law_39 ?_
    refine lv_topi (fun x1 ex1 => ?_)
    replace hf := zLet_at hf ex1
    rcases Classical.em (x1 = 0) with hk2 | hk2
    · replace hf := zIf_t hf hk2
      refine lv_tableIn (off := 116) (tgt := 156) C.1.1 C.1.2.1 dL_law_40 (by rw [hk2] <;> decide +kernel) (by rw [hk2] <;> decide +kernel) (by rw [hk2] <;> decide +kernel) (by decide) ?_
      refine lv_aload_n C.1.1 C.1.2.1 dL_law_156 rfl (lv_at hl 1 rfl) ?_
      refine lv_aload_n C.1.1 C.1.2.1 dL_law_157 rfl (lv_at hl 0 rfl) ?_
      refine lv_iload C.1.1 C.1.2.1 dL_law_158 (lv_at hl 4 rfl) ?_
      refine lv_iconst (v := 1) C.1.1 C.1.2.1 dL_law_160 (by decide) ?_
      refine lv_iadd C.1.1 C.1.2.1 dL_law_161 ?_
      obtain ⟨hib, hf⟩ := zGd_el hf
      refine va_sld C.1.1 C.1.2.1 hXs hbl hbA hS hib dL_law_162 ?_
      refine lv_aload_n C.1.1 C.1.2.1 dL_law_163 rfl (lv_at hl 0 rfl) ?_
      refine lv_iload C.1.1 C.1.2.1 dL_law_164 (lv_at hl 4 rfl) ?_
      refine lv_iconst (v := 2) C.1.1 C.1.2.1 dL_law_166 (by decide) ?_
      refine lv_iadd C.1.1 C.1.2.1 dL_law_167 ?_
      obtain ⟨hib, hf⟩ := zGd_el hf
      refine va_sld C.1.1 C.1.2.1 hXs hbl hbA hS hib dL_law_168 ?_
      refine lv_aload_n C.1.1 C.1.2.1 dL_law_169 rfl (lv_at hl 0 rfl) ?_
      refine lv_iload C.1.1 C.1.2.1 dL_law_170 (lv_at hl 4 rfl) ?_
      refine lv_iconst (v := 3) C.1.1 C.1.2.1 dL_law_172 (by decide) ?_
      refine lv_iadd C.1.1 C.1.2.1 dL_law_173 ?_
      obtain ⟨hib, hf⟩ := zGd_el hf
      refine va_sld C.1.1 C.1.2.1 hXs hbl hbA hS hib dL_law_174 ?_
      obtain ⟨v3, oH_4, oN_5, oE_6, oQ_7, oC_8, hg, hf⟩ := zB6_el hf
      refine zLVi (As := [.int (xs (i + (1 : Int32)).toNatClampNeg), .int (xs (i + (2 : Int32)).toNatClampNeg), .int (xs (i + (3 : Int32)).toNatClampNeg)]) (rest := []) [kX7 cI cB aH (aR 0) (aM 0) (aE 0) (aC 0) (aP 0) oH, kX5 cI cB aR (aT 0) (aS 0) oR, kX6 cI cB aT oT, kX4 cI cB aS oS, kX4 cI cB aP oP, kX1 cI cB aM (aN 0) (aY 0) (aK 0), kA8 cI cB aN oN, kA8 cI cB aY oY, kX3 cI cB aK oK, kX2 cI cB aE (aQ 0) oE, kX3 cI cB aQ oQ, kX0 cI cB aC oC, kX10 cI cB bV (bP 0) (bS 0) (bW 0) (bN 0) (bO 0) mZ mY mB mL mU mJ mK mG mA, kX8 cI cB bP mP, kX8 cI cB bS mS, kX9 cI cB bW mW, kA8 cI cB bN mN, kA8 cI cB bO mO, kL cL aX f] [kX7 cI cB aH (aR 0) (aM 0) (aE 0) (aC 0) (aP 0) oH_4, kX5 cI cB aR (aT 0) (aS 0) oR, kX6 cI cB aT oT, kX4 cI cB aS oS, kX4 cI cB aP oP, kX1 cI cB aM (aN 0) (aY 0) (aK 0), kA8 cI cB aN oN_5, kA8 cI cB aY oY, kX3 cI cB aK oK, kX2 cI cB aE (aQ 0) oE_6, kX3 cI cB aQ oQ_7, kX0 cI cB aC oC_8, kX10 cI cB bV (bP 0) (bS 0) (bW 0) (bN 0) (bO 0) mZ mY mB mL mU mJ mK mG mA, kX8 cI cB bP mP, kX8 cI cB bS mS, kX9 cI cB bW mW, kA8 cI cB bN mN, kA8 cI cB bO mO, kL cL aX f] C.1 hK hA hP hD hS [0, 4, 5, 6, 9, 10, 11] [1, 2, 3, 7, 8, 12, 13, 14, 15, 16, 17, 18] 0 19 (mtX7_set l dC dI cI cB aH aR aP aM aN aY aK aE aQ aC H.size NN oH oP oN oE oQ oC (xs (i + (1 : Int32)).toNatClampNeg) (xs (i + (2 : Int32)).toNatClampNeg) (xs (i + (3 : Int32)).toNatClampNeg) hg) (zCwV 3 C.1 wlL_19 wiX7_set ws_X7_set wnX7 wkX7_set rfl rfl (by decide +kernel) ⟨Nat.le_of_ble_eq_true rfl, Nat.le_of_ble_eq_true rfl⟩) rfl (by decide) rfl rfl rfl rfl rfl rfl rfl hl.1 (Nat.le_of_ble_eq_true rfl) dL_law_175 hcs rfl (fun H locs hP hD hS => ?_)
      refine lv_aload_n C.1.1 C.1.2.1 dL_law_178 rfl (lv_at hl 2 rfl) ?_
      refine lv_aload_n C.1.1 C.1.2.1 dL_law_179 rfl (lv_at hl 0 rfl) ?_
      refine lv_iload C.1.1 C.1.2.1 dL_law_180 (lv_at hl 4 rfl) ?_
      refine lv_iconst (v := 1) C.1.1 C.1.2.1 dL_law_182 (by decide) ?_
      refine lv_iadd C.1.1 C.1.2.1 dL_law_183 ?_
      obtain ⟨hib, hf⟩ := zGd_el hf
      refine va_sld C.1.1 C.1.2.1 hXs hbl hbA hS hib dL_law_184 ?_
      refine lv_aload_n C.1.1 C.1.2.1 dL_law_185 rfl (lv_at hl 0 rfl) ?_
      refine lv_iload C.1.1 C.1.2.1 dL_law_186 (lv_at hl 4 rfl) ?_
      refine lv_iconst (v := 2) C.1.1 C.1.2.1 dL_law_188 (by decide) ?_
      refine lv_iadd C.1.1 C.1.2.1 dL_law_189 ?_
      obtain ⟨hib, hf⟩ := zGd_el hf
      refine va_sld C.1.1 C.1.2.1 hXs hbl hbA hS hib dL_law_190 ?_
      refine lv_aload_n C.1.1 C.1.2.1 dL_law_191 rfl (lv_at hl 0 rfl) ?_
      refine lv_iload C.1.1 C.1.2.1 dL_law_192 (lv_at hl 4 rfl) ?_
      refine lv_iconst (v := 3) C.1.1 C.1.2.1 dL_law_194 (by decide) ?_
      refine lv_iadd C.1.1 C.1.2.1 dL_law_195 ?_
      obtain ⟨hib, hf⟩ := zGd_el hf
      refine va_sld C.1.1 C.1.2.1 hXs hbl hbA hS hib dL_law_196 ?_
      obtain ⟨v9, mZ_10, mY_11, mN_12, hg, hf⟩ := zB4_el hf
      refine zLVi (As := [.int (xs (i + (1 : Int32)).toNatClampNeg), .int (xs (i + (2 : Int32)).toNatClampNeg), .int (xs (i + (3 : Int32)).toNatClampNeg)]) (rest := [.int v3]) [kX7 cI cB aH (aR 0) (aM 0) (aE 0) (aC 0) (aP 0) oH_4, kX5 cI cB aR (aT 0) (aS 0) oR, kX6 cI cB aT oT, kX4 cI cB aS oS, kX4 cI cB aP oP, kX1 cI cB aM (aN 0) (aY 0) (aK 0), kA8 cI cB aN oN_5, kA8 cI cB aY oY, kX3 cI cB aK oK, kX2 cI cB aE (aQ 0) oE_6, kX3 cI cB aQ oQ_7, kX0 cI cB aC oC_8, kX10 cI cB bV (bP 0) (bS 0) (bW 0) (bN 0) (bO 0) mZ mY mB mL mU mJ mK mG mA, kX8 cI cB bP mP, kX8 cI cB bS mS, kX9 cI cB bW mW, kA8 cI cB bN mN, kA8 cI cB bO mO, kL cL aX f] [kX7 cI cB aH (aR 0) (aM 0) (aE 0) (aC 0) (aP 0) oH_4, kX5 cI cB aR (aT 0) (aS 0) oR, kX6 cI cB aT oT, kX4 cI cB aS oS, kX4 cI cB aP oP, kX1 cI cB aM (aN 0) (aY 0) (aK 0), kA8 cI cB aN oN_5, kA8 cI cB aY oY, kX3 cI cB aK oK, kX2 cI cB aE (aQ 0) oE_6, kX3 cI cB aQ oQ_7, kX0 cI cB aC oC_8, kX10 cI cB bV (bP 0) (bS 0) (bW 0) (bN 0) (bO 0) mZ_10 mY_11 mB mL mU mJ mK mG mA, kX8 cI cB bP mP, kX8 cI cB bS mS, kX9 cI cB bW mW, kA8 cI cB bN mN_12, kA8 cI cB bO mO, kL cL aX f] C.1 hK hA hP hD hS [12, 16] [0, 1, 2, 3, 4, 5, 6, 7, 8, 9, 10, 11, 13, 14, 15, 17, 18] 0 19 (mtX10_set l dC dI cI cB bV bP bS bW bN bO H.size NN mZ mY mB mL mU mJ mK mG mA mN (xs (i + (1 : Int32)).toNatClampNeg) (xs (i + (2 : Int32)).toNatClampNeg) (xs (i + (3 : Int32)).toNatClampNeg) hg) (zCwV 3 C.1 wlL_23 wiX10_set ws_X10_set wnX10 wkX10_set rfl rfl (by decide +kernel) ⟨Nat.le_of_ble_eq_true rfl, Nat.le_of_ble_eq_true rfl⟩) rfl (by decide) rfl rfl rfl rfl rfl rfl rfl hl.1 (Nat.le_of_ble_eq_true rfl) dL_law_197 hcs rfl (fun H locs hP hD hS => ?_)
      refine lv_icmp_eq (tgt := 936) C.1.1 C.1.2.1 dL_law_200 (by decide) (fun hc => ?_) (fun hc => ?_)
      · replace hf := zIf_t hf hc
        obtain ⟨x13, ex13, hf⟩ := zLet_el hf
        refine lv_iinc (v := x13) (lv' := [(4, .int x13), (0, .ref b), (1, .ref (aH 0)), (2, .ref (bV 0)), (3, .ref aX)]) C.1.1 C.1.2.1 dL_law_936 hl (k := 4) rfl (by rw [ex13]; rfl) (by decide) rfl (fun ls hl => ?_)
        refine lv_goto (tgt := 23) C.1.1 C.1.2.1 dL_law_939 (by decide) ?_
        refine W.widen (k := 89 + (t + 1)) (n := 42163 + 6 * (t + 1)) (by omega) (by omega) ?_
        exact ih x13 oH_4 oR oT oS oP oN_5 oY oK oE_6 oQ_7 oC_8 mZ_10 mY_11 mB mL mU mJ mK mG mA mP mS mW mN_12 mO hf (t + 1) (by rw [ex13, hi]; exact zLawN t) (by omega) aS aP bP bS _ H locs hP hD hS ls (lv_sub hl [1, 2, 3, 4, 0] rfl)
      · replace hf := zIf_f hf hc
        refine lv_iconst (v := 0) C.1.1 C.1.2.1 dL_law_203 (by decide) ?_
        cases hf
    · replace hf := zIf_f hf hk2
      rcases Classical.em (x1 = 1) with hk14 | hk14
      · replace hf := zIf_t hf hk14
        refine lv_tableIn (off := 165) (tgt := 205) C.1.1 C.1.2.1 dL_law_40 (by rw [hk14] <;> decide +kernel) (by rw [hk14] <;> decide +kernel) (by rw [hk14] <;> decide +kernel) (by decide) ?_
        refine lv_aload_n C.1.1 C.1.2.1 dL_law_205 rfl (lv_at hl 1 rfl) ?_
        refine lv_aload_n C.1.1 C.1.2.1 dL_law_206 rfl (lv_at hl 0 rfl) ?_
        refine lv_iload C.1.1 C.1.2.1 dL_law_207 (lv_at hl 4 rfl) ?_
        refine lv_iconst (v := 1) C.1.1 C.1.2.1 dL_law_209 (by decide) ?_
        refine lv_iadd C.1.1 C.1.2.1 dL_law_210 ?_
        obtain ⟨hib, hf⟩ := zGd_el hf
        refine va_sld C.1.1 C.1.2.1 hXs hbl hbA hS hib dL_law_211 ?_
        refine lv_aload_n C.1.1 C.1.2.1 dL_law_212 rfl (lv_at hl 0 rfl) ?_
        refine lv_iload C.1.1 C.1.2.1 dL_law_213 (lv_at hl 4 rfl) ?_
        refine lv_iconst (v := 2) C.1.1 C.1.2.1 dL_law_215 (by decide) ?_
        refine lv_iadd C.1.1 C.1.2.1 dL_law_216 ?_
        obtain ⟨hib, hf⟩ := zGd_el hf
        refine va_sld C.1.1 C.1.2.1 hXs hbl hbA hS hib dL_law_217 ?_
        refine lv_aload_n C.1.1 C.1.2.1 dL_law_218 rfl (lv_at hl 0 rfl) ?_
        refine lv_iload C.1.1 C.1.2.1 dL_law_219 (lv_at hl 4 rfl) ?_
        refine lv_iconst (v := 3) C.1.1 C.1.2.1 dL_law_221 (by decide) ?_
        refine lv_iadd C.1.1 C.1.2.1 dL_law_222 ?_
        obtain ⟨hib, hf⟩ := zGd_el hf
        refine va_sld C.1.1 C.1.2.1 hXs hbl hbA hS hib dL_law_223 ?_
        refine lv_aload_n C.1.1 C.1.2.1 dL_law_224 rfl (lv_at hl 0 rfl) ?_
        refine lv_iload C.1.1 C.1.2.1 dL_law_225 (lv_at hl 4 rfl) ?_
        refine lv_iconst (v := 4) C.1.1 C.1.2.1 dL_law_227 (by decide) ?_
        refine lv_iadd C.1.1 C.1.2.1 dL_law_228 ?_
        obtain ⟨hib, hf⟩ := zGd_el hf
        refine va_sld C.1.1 C.1.2.1 hXs hbl hbA hS hib dL_law_229 ?_
        refine lv_aload_n C.1.1 C.1.2.1 dL_law_230 rfl (lv_at hl 0 rfl) ?_
        refine lv_iload C.1.1 C.1.2.1 dL_law_231 (lv_at hl 4 rfl) ?_
        refine lv_iconst (v := 5) C.1.1 C.1.2.1 dL_law_233 (by decide) ?_
        refine lv_iadd C.1.1 C.1.2.1 dL_law_234 ?_
        obtain ⟨hib, hf⟩ := zGd_el hf
        refine va_sld C.1.1 C.1.2.1 hXs hbl hbA hS hib dL_law_235 ?_
        obtain ⟨v15, oT_16, hg, hf⟩ := zB2_el hf
        refine zLVi (As := [.int (xs (i + (1 : Int32)).toNatClampNeg), .int (xs (i + (2 : Int32)).toNatClampNeg), .int (xs (i + (3 : Int32)).toNatClampNeg), .int (xs (i + (4 : Int32)).toNatClampNeg), .int (xs (i + (5 : Int32)).toNatClampNeg)]) (rest := []) [kX7 cI cB aH (aR 0) (aM 0) (aE 0) (aC 0) (aP 0) oH, kX5 cI cB aR (aT 0) (aS 0) oR, kX6 cI cB aT oT, kX4 cI cB aS oS, kX4 cI cB aP oP, kX1 cI cB aM (aN 0) (aY 0) (aK 0), kA8 cI cB aN oN, kA8 cI cB aY oY, kX3 cI cB aK oK, kX2 cI cB aE (aQ 0) oE, kX3 cI cB aQ oQ, kX0 cI cB aC oC, kX10 cI cB bV (bP 0) (bS 0) (bW 0) (bN 0) (bO 0) mZ mY mB mL mU mJ mK mG mA, kX8 cI cB bP mP, kX8 cI cB bS mS, kX9 cI cB bW mW, kA8 cI cB bN mN, kA8 cI cB bO mO, kL cL aX f] [kX7 cI cB aH (aR 0) (aM 0) (aE 0) (aC 0) (aP 0) oH, kX5 cI cB aR (aT 0) (aS 0) oR, kX6 cI cB aT oT_16, kX4 cI cB aS oS, kX4 cI cB aP oP, kX1 cI cB aM (aN 0) (aY 0) (aK 0), kA8 cI cB aN oN, kA8 cI cB aY oY, kX3 cI cB aK oK, kX2 cI cB aE (aQ 0) oE, kX3 cI cB aQ oQ, kX0 cI cB aC oC, kX10 cI cB bV (bP 0) (bS 0) (bW 0) (bN 0) (bO 0) mZ mY mB mL mU mJ mK mG mA, kX8 cI cB bP mP, kX8 cI cB bS mS, kX9 cI cB bW mW, kA8 cI cB bN mN, kA8 cI cB bO mO, kL cL aX f] C.1 hK hA hP hD hS [0, 1, 2] [3, 4, 5, 6, 7, 8, 9, 10, 11, 12, 13, 14, 15, 16, 17, 18] 0 19 (mtX7_feed l dC dI cI cB aH aR aT aS aP aM aE aC H.size NN oH oR oT (xs (i + (1 : Int32)).toNatClampNeg) (xs (i + (2 : Int32)).toNatClampNeg) (xs (i + (3 : Int32)).toNatClampNeg) (xs (i + (4 : Int32)).toNatClampNeg) (xs (i + (5 : Int32)).toNatClampNeg) hg) (zCwV 5 C.1 wlL_24 wiX7_feed ws_X7_feed wnX7 wkX7_feed rfl rfl (by decide +kernel) ⟨Nat.le_of_ble_eq_true rfl, Nat.le_of_ble_eq_true rfl⟩) rfl (by decide) rfl rfl rfl rfl rfl rfl rfl hl.1 (Nat.le_of_ble_eq_true rfl) dL_law_236 hcs rfl (fun H locs hP hD hS => ?_)
        refine lv_aload_n C.1.1 C.1.2.1 dL_law_239 rfl (lv_at hl 2 rfl) ?_
        refine lv_aload_n C.1.1 C.1.2.1 dL_law_240 rfl (lv_at hl 0 rfl) ?_
        refine lv_iload C.1.1 C.1.2.1 dL_law_241 (lv_at hl 4 rfl) ?_
        refine lv_iconst (v := 1) C.1.1 C.1.2.1 dL_law_243 (by decide) ?_
        refine lv_iadd C.1.1 C.1.2.1 dL_law_244 ?_
        obtain ⟨hib, hf⟩ := zGd_el hf
        refine va_sld C.1.1 C.1.2.1 hXs hbl hbA hS hib dL_law_245 ?_
        refine lv_aload_n C.1.1 C.1.2.1 dL_law_246 rfl (lv_at hl 0 rfl) ?_
        refine lv_iload C.1.1 C.1.2.1 dL_law_247 (lv_at hl 4 rfl) ?_
        refine lv_iconst (v := 2) C.1.1 C.1.2.1 dL_law_249 (by decide) ?_
        refine lv_iadd C.1.1 C.1.2.1 dL_law_250 ?_
        obtain ⟨hib, hf⟩ := zGd_el hf
        refine va_sld C.1.1 C.1.2.1 hXs hbl hbA hS hib dL_law_251 ?_
        refine lv_aload_n C.1.1 C.1.2.1 dL_law_252 rfl (lv_at hl 0 rfl) ?_
        refine lv_iload C.1.1 C.1.2.1 dL_law_253 (lv_at hl 4 rfl) ?_
        refine lv_iconst (v := 3) C.1.1 C.1.2.1 dL_law_255 (by decide) ?_
        refine lv_iadd C.1.1 C.1.2.1 dL_law_256 ?_
        obtain ⟨hib, hf⟩ := zGd_el hf
        refine va_sld C.1.1 C.1.2.1 hXs hbl hbA hS hib dL_law_257 ?_
        refine lv_aload_n C.1.1 C.1.2.1 dL_law_258 rfl (lv_at hl 0 rfl) ?_
        refine lv_iload C.1.1 C.1.2.1 dL_law_259 (lv_at hl 4 rfl) ?_
        refine lv_iconst (v := 4) C.1.1 C.1.2.1 dL_law_261 (by decide) ?_
        refine lv_iadd C.1.1 C.1.2.1 dL_law_262 ?_
        obtain ⟨hib, hf⟩ := zGd_el hf
        refine va_sld C.1.1 C.1.2.1 hXs hbl hbA hS hib dL_law_263 ?_
        refine lv_aload_n C.1.1 C.1.2.1 dL_law_264 rfl (lv_at hl 0 rfl) ?_
        refine lv_iload C.1.1 C.1.2.1 dL_law_265 (lv_at hl 4 rfl) ?_
        refine lv_iconst (v := 5) C.1.1 C.1.2.1 dL_law_267 (by decide) ?_
        refine lv_iadd C.1.1 C.1.2.1 dL_law_268 ?_
        obtain ⟨hib, hf⟩ := zGd_el hf
        refine va_sld C.1.1 C.1.2.1 hXs hbl hbA hS hib dL_law_269 ?_
        obtain ⟨v17, mZ_18, mB_19, hg, hf⟩ := zB3_el hf
        refine zLVi (As := [.int (xs (i + (1 : Int32)).toNatClampNeg), .int (xs (i + (2 : Int32)).toNatClampNeg), .int (xs (i + (3 : Int32)).toNatClampNeg), .int (xs (i + (4 : Int32)).toNatClampNeg), .int (xs (i + (5 : Int32)).toNatClampNeg)]) (rest := [.int v15]) [kX7 cI cB aH (aR 0) (aM 0) (aE 0) (aC 0) (aP 0) oH, kX5 cI cB aR (aT 0) (aS 0) oR, kX6 cI cB aT oT_16, kX4 cI cB aS oS, kX4 cI cB aP oP, kX1 cI cB aM (aN 0) (aY 0) (aK 0), kA8 cI cB aN oN, kA8 cI cB aY oY, kX3 cI cB aK oK, kX2 cI cB aE (aQ 0) oE, kX3 cI cB aQ oQ, kX0 cI cB aC oC, kX10 cI cB bV (bP 0) (bS 0) (bW 0) (bN 0) (bO 0) mZ mY mB mL mU mJ mK mG mA, kX8 cI cB bP mP, kX8 cI cB bS mS, kX9 cI cB bW mW, kA8 cI cB bN mN, kA8 cI cB bO mO, kL cL aX f] [kX7 cI cB aH (aR 0) (aM 0) (aE 0) (aC 0) (aP 0) oH, kX5 cI cB aR (aT 0) (aS 0) oR, kX6 cI cB aT oT_16, kX4 cI cB aS oS, kX4 cI cB aP oP, kX1 cI cB aM (aN 0) (aY 0) (aK 0), kA8 cI cB aN oN, kA8 cI cB aY oY, kX3 cI cB aK oK, kX2 cI cB aE (aQ 0) oE, kX3 cI cB aQ oQ, kX0 cI cB aC oC, kX10 cI cB bV (bP 0) (bS 0) (bW 0) (bN 0) (bO 0) mZ_18 mY mB_19 mL mU mJ mK mG mA, kX8 cI cB bP mP, kX8 cI cB bS mS, kX9 cI cB bW mW, kA8 cI cB bN mN, kA8 cI cB bO mO, kL cL aX f] C.1 hK hA hP hD hS [12] [0, 1, 2, 3, 4, 5, 6, 7, 8, 9, 10, 11, 13, 14, 15, 16, 17, 18] 0 19 (mtX10_feed l dC dI cI cB bV bP bS bW bN bO H.size NN mZ mY mB mL mU mJ mK mG mA (xs (i + (1 : Int32)).toNatClampNeg) (xs (i + (2 : Int32)).toNatClampNeg) (xs (i + (3 : Int32)).toNatClampNeg) (xs (i + (4 : Int32)).toNatClampNeg) (xs (i + (5 : Int32)).toNatClampNeg) hg) (zCwV 5 C.1 wlL_28 wiX10_feed ws_X10_feed wnX10 wkX10_feed rfl rfl (by decide +kernel) ⟨Nat.le_of_ble_eq_true rfl, Nat.le_of_ble_eq_true rfl⟩) rfl (by decide) rfl rfl rfl rfl rfl rfl rfl hl.1 (Nat.le_of_ble_eq_true rfl) dL_law_270 hcs rfl (fun H locs hP hD hS => ?_)
        refine lv_icmp_eq (tgt := 936) C.1.1 C.1.2.1 dL_law_273 (by decide) (fun hc => ?_) (fun hc => ?_)
        · replace hf := zIf_t hf hc
          obtain ⟨x20, ex20, hf⟩ := zLet_el hf
          refine lv_iinc (v := x20) (lv' := [(4, .int x20), (0, .ref b), (1, .ref (aH 0)), (2, .ref (bV 0)), (3, .ref aX)]) C.1.1 C.1.2.1 dL_law_936 hl (k := 4) rfl (by rw [ex20]; rfl) (by decide) rfl (fun ls hl => ?_)
          refine lv_goto (tgt := 23) C.1.1 C.1.2.1 dL_law_939 (by decide) ?_
          refine W.widen (k := 89 + (t + 1)) (n := 42163 + 6 * (t + 1)) (by omega) (by omega) ?_
          exact ih x20 oH oR oT_16 oS oP oN oY oK oE oQ oC mZ_18 mY mB_19 mL mU mJ mK mG mA mP mS mW mN mO hf (t + 1) (by rw [ex20, hi]; exact zLawN t) (by omega) aS aP bP bS _ H locs hP hD hS ls (lv_sub hl [1, 2, 3, 4, 0] rfl)
        · replace hf := zIf_f hf hc
          refine lv_iconst (v := 0) C.1.1 C.1.2.1 dL_law_276 (by decide) ?_
          cases hf
      · replace hf := zIf_f hf hk14
        rcases Classical.em (x1 = 2) with hk21 | hk21
        · replace hf := zIf_t hf hk21
          refine lv_tableIn (off := 238) (tgt := 278) C.1.1 C.1.2.1 dL_law_40 (by rw [hk21] <;> decide +kernel) (by rw [hk21] <;> decide +kernel) (by rw [hk21] <;> decide +kernel) (by decide) ?_
          refine lv_aload_n C.1.1 C.1.2.1 dL_law_278 rfl (lv_at hl 1 rfl) ?_
          refine lv_aload_n C.1.1 C.1.2.1 dL_law_279 rfl (lv_at hl 0 rfl) ?_
          refine lv_iload C.1.1 C.1.2.1 dL_law_280 (lv_at hl 4 rfl) ?_
          refine lv_iconst (v := 1) C.1.1 C.1.2.1 dL_law_282 (by decide) ?_
          refine lv_iadd C.1.1 C.1.2.1 dL_law_283 ?_
          obtain ⟨hib, hf⟩ := zGd_el hf
          refine va_sld C.1.1 C.1.2.1 hXs hbl hbA hS hib dL_law_284 ?_
          obtain ⟨v22, sw23, oH_24, oR_25, oT_26, oS_27, oP_28, oE_29, oQ_30, oC_31, hg, hf⟩ := zB10_el hf
          refine zLVi (As := [.int (xs (i + (1 : Int32)).toNatClampNeg)]) (rest := []) [kX7 cI cB aH (aR 0) (aM 0) (aE 0) (aC 0) (aP 0) oH, kX5 cI cB aR (aT 0) (aS 0) oR, kX6 cI cB aT oT, kX4 cI cB aS oS, kX4 cI cB aP oP, kX1 cI cB aM (aN 0) (aY 0) (aK 0), kA8 cI cB aN oN, kA8 cI cB aY oY, kX3 cI cB aK oK, kX2 cI cB aE (aQ 0) oE, kX3 cI cB aQ oQ, kX0 cI cB aC oC, kX10 cI cB bV (bP 0) (bS 0) (bW 0) (bN 0) (bO 0) mZ mY mB mL mU mJ mK mG mA, kX8 cI cB bP mP, kX8 cI cB bS mS, kX9 cI cB bW mW, kA8 cI cB bN mN, kA8 cI cB bO mO, kL cL aX f] [kX7 cI cB aH (aR 0) (aM 0) (aE 0) (aC 0) ((zsw sw23 aP aS) 0) oH_24, kX5 cI cB aR (aT 0) ((zsw sw23 aS aP) 0) oR_25, kX6 cI cB aT oT_26, kX4 cI cB (zsw sw23 aS aP) oS_27, kX4 cI cB (zsw sw23 aP aS) oP_28, kX1 cI cB aM (aN 0) (aY 0) (aK 0), kA8 cI cB aN oN, kA8 cI cB aY oY, kX3 cI cB aK oK, kX2 cI cB aE (aQ 0) oE_29, kX3 cI cB aQ oQ_30, kX0 cI cB aC oC_31, kX10 cI cB bV (bP 0) (bS 0) (bW 0) (bN 0) (bO 0) mZ mY mB mL mU mJ mK mG mA, kX8 cI cB bP mP, kX8 cI cB bS mS, kX9 cI cB bW mW, kA8 cI cB bN mN, kA8 cI cB bO mO, kL cL aX f] C.1 hK hA hP hD hS [0, 1, 2, 3, 4, 9, 10, 11] [5, 6, 7, 8, 12, 13, 14, 15, 16, 17, 18] 0 19 (mtX7_program l dC dI cI cB aH aR aT aS aP aM aE aQ aC H.size NN oH oR oT oS oP oE oQ oC (xs (i + (1 : Int32)).toNatClampNeg) hg) (zCwV 1 C.1 wlL_29 wiX7_program ws_X7_program wnX7 wkX7_program rfl rfl (by decide +kernel) ⟨Nat.le_of_ble_eq_true rfl, Nat.le_of_ble_eq_true rfl⟩) rfl (by decide) rfl rfl rfl rfl rfl rfl rfl hl.1 (Nat.le_of_ble_eq_true rfl) dL_law_285 hcs rfl (fun H locs hP hD hS => ?_)
          refine lv_aload_n C.1.1 C.1.2.1 dL_law_288 rfl (lv_at hl 2 rfl) ?_
          refine lv_aload_n C.1.1 C.1.2.1 dL_law_289 rfl (lv_at hl 0 rfl) ?_
          refine lv_iload C.1.1 C.1.2.1 dL_law_290 (lv_at hl 4 rfl) ?_
          refine lv_iconst (v := 1) C.1.1 C.1.2.1 dL_law_292 (by decide) ?_
          refine lv_iadd C.1.1 C.1.2.1 dL_law_293 ?_
          obtain ⟨hib, hf⟩ := zGd_el hf
          refine va_sld C.1.1 C.1.2.1 hXs hbl hbA hS hib dL_law_294 ?_
          obtain ⟨v32, sw33, mZ_34, mY_35, mB_36, mL_37, mP_38, mS_39, mW_40, hg, hf⟩ := zB9_el hf
          refine zLWi (As := [.int (xs (i + (1 : Int32)).toNatClampNeg)]) (rest := [.int v22]) [kX7 cI cB aH (aR 0) (aM 0) (aE 0) (aC 0) ((zsw sw23 aP aS) 0) oH_24, kX5 cI cB aR (aT 0) ((zsw sw23 aS aP) 0) oR_25, kX6 cI cB aT oT_26, kX4 cI cB (zsw sw23 aS aP) oS_27, kX4 cI cB (zsw sw23 aP aS) oP_28, kX1 cI cB aM (aN 0) (aY 0) (aK 0), kA8 cI cB aN oN, kA8 cI cB aY oY, kX3 cI cB aK oK, kX2 cI cB aE (aQ 0) oE_29, kX3 cI cB aQ oQ_30, kX0 cI cB aC oC_31, kX10 cI cB bV (bP 0) (bS 0) (bW 0) (bN 0) (bO 0) mZ mY mB mL mU mJ mK mG mA, kX8 cI cB bP mP, kX8 cI cB bS mS, kX9 cI cB bW mW, kA8 cI cB bN mN, kA8 cI cB bO mO, kL cL aX f] [kX7 cI cB aH (aR 0) (aM 0) (aE 0) (aC 0) ((zsw sw23 aP aS) 0) oH_24, kX5 cI cB aR (aT 0) ((zsw sw23 aS aP) 0) oR_25, kX6 cI cB aT oT_26, kX4 cI cB (zsw sw23 aS aP) oS_27, kX4 cI cB (zsw sw23 aP aS) oP_28, kX1 cI cB aM (aN 0) (aY 0) (aK 0), kA8 cI cB aN oN, kA8 cI cB aY oY, kX3 cI cB aK oK, kX2 cI cB aE (aQ 0) oE_29, kX3 cI cB aQ oQ_30, kX0 cI cB aC oC_31, kX10 cI cB bV ((zsw sw33 bP bS) 0) ((zsw sw33 bS bP) 0) (bW 0) (bN 0) (bO 0) mZ_34 mY_35 mB_36 mL_37 mU mJ mK mG mA, kX8 cI cB (zsw sw33 bP bS) mP_38, kX8 cI cB (zsw sw33 bS bP) mS_39, kX9 cI cB bW mW_40, kA8 cI cB bN mN, kA8 cI cB bO mO, kL cL aX f] C.1 hK hA hP hD hS [12, 13, 14, 15] [0, 1, 2, 3, 4, 5, 6, 7, 8, 9, 10, 11, 16, 17, 18] 0 19 (mtX10_program l dC dI cI cB bV bP bS bW bN bO H.size NN mZ mY mB mL mU mJ mK mG mA mP mS mW (xs (i + (1 : Int32)).toNatClampNeg) hg) (zCwVW 1 C.1 wlL_33 wiX10_program ws_X10_program wnX10 wkX10_program rfl rfl (by decide +kernel) ⟨Nat.le_of_ble_eq_true rfl, Nat.le_of_ble_eq_true rfl⟩) rfl (by decide) rfl rfl rfl rfl rfl rfl rfl hl.1 (Nat.le_of_ble_eq_true rfl) dL_law_295 hcs rfl (fun H locs hP hD hS => ?_)
          refine lv_icmp_eq (tgt := 936) C.1.1 C.1.2.1 dL_law_298 (by decide) (fun hc => ?_) (fun hc => ?_)
          · replace hf := zIf_t hf hc
            obtain ⟨x41, ex41, hf⟩ := zLet_el hf
            refine lv_iinc (v := x41) (lv' := [(4, .int x41), (0, .ref b), (1, .ref (aH 0)), (2, .ref (bV 0)), (3, .ref aX)]) C.1.1 C.1.2.1 dL_law_936 hl (k := 4) rfl (by rw [ex41]; rfl) (by decide) rfl (fun ls hl => ?_)
            refine lv_goto (tgt := 23) C.1.1 C.1.2.1 dL_law_939 (by decide) ?_
            refine W.widen (k := 89 + (t + 1)) (n := 42163 + 6 * (t + 1)) (by omega) (by omega) ?_
            exact ih x41 oH_24 oR_25 oT_26 oS_27 oP_28 oN oY oK oE_29 oQ_30 oC_31 mZ_34 mY_35 mB_36 mL_37 mU mJ mK mG mA mP_38 mS_39 mW_40 mN mO hf (t + 1) (by rw [ex41, hi]; exact zLawN t) (by omega) (zsw sw23 aS aP) (zsw sw23 aP aS) (zsw sw33 bP bS) (zsw sw33 bS bP) _ H locs hP hD hS ls (lv_sub hl [1, 2, 3, 4, 0] rfl)
          · replace hf := zIf_f hf hc
            refine lv_iconst (v := 0) C.1.1 C.1.2.1 dL_law_301 (by decide) ?_
            cases hf
        · replace hf := zIf_f hf hk21
          rcases Classical.em (x1 = 3) with hk42 | hk42
          · replace hf := zIf_t hf hk42
            refine lv_tableIn (off := 263) (tgt := 303) C.1.1 C.1.2.1 dL_law_40 (by rw [hk42] <;> decide +kernel) (by rw [hk42] <;> decide +kernel) (by rw [hk42] <;> decide +kernel) (by decide) ?_
            refine lv_aload_n C.1.1 C.1.2.1 dL_law_303 rfl (lv_at hl 1 rfl) ?_
            obtain ⟨v43, hg, hf⟩ := zB1_el hf
            refine zLVi (As := []) (rest := []) [kX7 cI cB aH (aR 0) (aM 0) (aE 0) (aC 0) (aP 0) oH, kX5 cI cB aR (aT 0) (aS 0) oR, kX6 cI cB aT oT, kX4 cI cB aS oS, kX4 cI cB aP oP, kX1 cI cB aM (aN 0) (aY 0) (aK 0), kA8 cI cB aN oN, kA8 cI cB aY oY, kX3 cI cB aK oK, kX2 cI cB aE (aQ 0) oE, kX3 cI cB aQ oQ, kX0 cI cB aC oC, kX10 cI cB bV (bP 0) (bS 0) (bW 0) (bN 0) (bO 0) mZ mY mB mL mU mJ mK mG mA, kX8 cI cB bP mP, kX8 cI cB bS mS, kX9 cI cB bW mW, kA8 cI cB bN mN, kA8 cI cB bO mO, kL cL aX f] [kX7 cI cB aH (aR 0) (aM 0) (aE 0) (aC 0) (aP 0) oH, kX5 cI cB aR (aT 0) (aS 0) oR, kX6 cI cB aT oT, kX4 cI cB aS oS, kX4 cI cB aP oP, kX1 cI cB aM (aN 0) (aY 0) (aK 0), kA8 cI cB aN oN, kA8 cI cB aY oY, kX3 cI cB aK oK, kX2 cI cB aE (aQ 0) oE, kX3 cI cB aQ oQ, kX0 cI cB aC oC, kX10 cI cB bV (bP 0) (bS 0) (bW 0) (bN 0) (bO 0) mZ mY mB mL mU mJ mK mG mA, kX8 cI cB bP mP, kX8 cI cB bS mS, kX9 cI cB bW mW, kA8 cI cB bN mN, kA8 cI cB bO mO, kL cL aX f] C.1 hK hA hP hD hS [0, 1] [2, 3, 4, 5, 6, 7, 8, 9, 10, 11, 12, 13, 14, 15, 16, 17, 18] 0 19 (mtX7_fault l dC dI cI cB aH aR aT aS aP aM aE aC H.size oH oR hg) (zCwV 0 C.1 wlL_34 wiX7_fault ws_X7_fault wnX7 wkX7_fault rfl rfl (by decide +kernel) ⟨Nat.le_of_ble_eq_true rfl, Nat.le_of_ble_eq_true rfl⟩) rfl (by decide) rfl rfl rfl rfl rfl rfl rfl hl.1 (Nat.le_of_ble_eq_true rfl) dL_law_304 hcs rfl (fun H locs hP hD hS => ?_)
            refine lv_aload_n C.1.1 C.1.2.1 dL_law_307 rfl (lv_at hl 2 rfl) ?_
            obtain ⟨v44, mZ_45, hg, hf⟩ := zB2_el hf
            refine zLVi (As := []) (rest := [.int v43]) [kX7 cI cB aH (aR 0) (aM 0) (aE 0) (aC 0) (aP 0) oH, kX5 cI cB aR (aT 0) (aS 0) oR, kX6 cI cB aT oT, kX4 cI cB aS oS, kX4 cI cB aP oP, kX1 cI cB aM (aN 0) (aY 0) (aK 0), kA8 cI cB aN oN, kA8 cI cB aY oY, kX3 cI cB aK oK, kX2 cI cB aE (aQ 0) oE, kX3 cI cB aQ oQ, kX0 cI cB aC oC, kX10 cI cB bV (bP 0) (bS 0) (bW 0) (bN 0) (bO 0) mZ mY mB mL mU mJ mK mG mA, kX8 cI cB bP mP, kX8 cI cB bS mS, kX9 cI cB bW mW, kA8 cI cB bN mN, kA8 cI cB bO mO, kL cL aX f] [kX7 cI cB aH (aR 0) (aM 0) (aE 0) (aC 0) (aP 0) oH, kX5 cI cB aR (aT 0) (aS 0) oR, kX6 cI cB aT oT, kX4 cI cB aS oS, kX4 cI cB aP oP, kX1 cI cB aM (aN 0) (aY 0) (aK 0), kA8 cI cB aN oN, kA8 cI cB aY oY, kX3 cI cB aK oK, kX2 cI cB aE (aQ 0) oE, kX3 cI cB aQ oQ, kX0 cI cB aC oC, kX10 cI cB bV (bP 0) (bS 0) (bW 0) (bN 0) (bO 0) mZ_45 mY mB mL mU mJ mK mG mA, kX8 cI cB bP mP, kX8 cI cB bS mS, kX9 cI cB bW mW, kA8 cI cB bN mN, kA8 cI cB bO mO, kL cL aX f] C.1 hK hA hP hD hS [12] [0, 1, 2, 3, 4, 5, 6, 7, 8, 9, 10, 11, 13, 14, 15, 16, 17, 18] 0 19 (mtX10_fault l dC dI cI cB bV bP bS bW bN bO H.size mZ mY mB mL mU mJ mK mG mA hg) (zCwV 0 C.1 wlL_38 wiX10_fault ws_X10_fault wnX10 wkX10_fault rfl rfl (by decide +kernel) ⟨Nat.le_of_ble_eq_true rfl, Nat.le_of_ble_eq_true rfl⟩) rfl (by decide) rfl rfl rfl rfl rfl rfl rfl hl.1 (Nat.le_of_ble_eq_true rfl) dL_law_308 hcs rfl (fun H locs hP hD hS => ?_)
            refine lv_icmp_eq (tgt := 936) C.1.1 C.1.2.1 dL_law_311 (by decide) (fun hc => ?_) (fun hc => ?_)
            · replace hf := zIf_t hf hc
              obtain ⟨x46, ex46, hf⟩ := zLet_el hf
              refine lv_iinc (v := x46) (lv' := [(4, .int x46), (0, .ref b), (1, .ref (aH 0)), (2, .ref (bV 0)), (3, .ref aX)]) C.1.1 C.1.2.1 dL_law_936 hl (k := 4) rfl (by rw [ex46]; rfl) (by decide) rfl (fun ls hl => ?_)
              refine lv_goto (tgt := 23) C.1.1 C.1.2.1 dL_law_939 (by decide) ?_
              refine W.widen (k := 89 + (t + 1)) (n := 42163 + 6 * (t + 1)) (by omega) (by omega) ?_
              exact ih x46 oH oR oT oS oP oN oY oK oE oQ oC mZ_45 mY mB mL mU mJ mK mG mA mP mS mW mN mO hf (t + 1) (by rw [ex46, hi]; exact zLawN t) (by omega) aS aP bP bS _ H locs hP hD hS ls (lv_sub hl [1, 2, 3, 4, 0] rfl)
            · replace hf := zIf_f hf hc
              refine lv_iconst (v := 0) C.1.1 C.1.2.1 dL_law_314 (by decide) ?_
              cases hf
          · replace hf := zIf_f hf hk42
            rcases Classical.em (x1 = 4) with hk47 | hk47
            · replace hf := zIf_t hf hk47
              refine lv_tableIn (off := 276) (tgt := 316) C.1.1 C.1.2.1 dL_law_40 (by rw [hk47] <;> decide +kernel) (by rw [hk47] <;> decide +kernel) (by rw [hk47] <;> decide +kernel) (by decide) ?_
              refine lv_aload_n C.1.1 C.1.2.1 dL_law_316 rfl (lv_at hl 1 rfl) ?_
              obtain ⟨v48, hg, hf⟩ := zB1_el hf
              refine zLVi (As := []) (rest := []) [kX7 cI cB aH (aR 0) (aM 0) (aE 0) (aC 0) (aP 0) oH, kX5 cI cB aR (aT 0) (aS 0) oR, kX6 cI cB aT oT, kX4 cI cB aS oS, kX4 cI cB aP oP, kX1 cI cB aM (aN 0) (aY 0) (aK 0), kA8 cI cB aN oN, kA8 cI cB aY oY, kX3 cI cB aK oK, kX2 cI cB aE (aQ 0) oE, kX3 cI cB aQ oQ, kX0 cI cB aC oC, kX10 cI cB bV (bP 0) (bS 0) (bW 0) (bN 0) (bO 0) mZ mY mB mL mU mJ mK mG mA, kX8 cI cB bP mP, kX8 cI cB bS mS, kX9 cI cB bW mW, kA8 cI cB bN mN, kA8 cI cB bO mO, kL cL aX f] [kX7 cI cB aH (aR 0) (aM 0) (aE 0) (aC 0) (aP 0) oH, kX5 cI cB aR (aT 0) (aS 0) oR, kX6 cI cB aT oT, kX4 cI cB aS oS, kX4 cI cB aP oP, kX1 cI cB aM (aN 0) (aY 0) (aK 0), kA8 cI cB aN oN, kA8 cI cB aY oY, kX3 cI cB aK oK, kX2 cI cB aE (aQ 0) oE, kX3 cI cB aQ oQ, kX0 cI cB aC oC, kX10 cI cB bV (bP 0) (bS 0) (bW 0) (bN 0) (bO 0) mZ mY mB mL mU mJ mK mG mA, kX8 cI cB bP mP, kX8 cI cB bS mS, kX9 cI cB bW mW, kA8 cI cB bN mN, kA8 cI cB bO mO, kL cL aX f] C.1 hK hA hP hD hS [0, 1] [2, 3, 4, 5, 6, 7, 8, 9, 10, 11, 12, 13, 14, 15, 16, 17, 18] 0 19 (mtX7_where l dC dI cI cB aH aR aT aS aP aM aE aC H.size oH oR hg) (zCwV 0 C.1 wlL_39 wiX7_where ws_X7_where wnX7 wkX7_where rfl rfl (by decide +kernel) ⟨Nat.le_of_ble_eq_true rfl, Nat.le_of_ble_eq_true rfl⟩) rfl (by decide) rfl rfl rfl rfl rfl rfl rfl hl.1 (Nat.le_of_ble_eq_true rfl) dL_law_317 hcs rfl (fun H locs hP hD hS => ?_)
              refine lv_aload_n C.1.1 C.1.2.1 dL_law_320 rfl (lv_at hl 2 rfl) ?_
              obtain ⟨v49, mZ_50, hg, hf⟩ := zB2_el hf
              refine zLVi (As := []) (rest := [.int v48]) [kX7 cI cB aH (aR 0) (aM 0) (aE 0) (aC 0) (aP 0) oH, kX5 cI cB aR (aT 0) (aS 0) oR, kX6 cI cB aT oT, kX4 cI cB aS oS, kX4 cI cB aP oP, kX1 cI cB aM (aN 0) (aY 0) (aK 0), kA8 cI cB aN oN, kA8 cI cB aY oY, kX3 cI cB aK oK, kX2 cI cB aE (aQ 0) oE, kX3 cI cB aQ oQ, kX0 cI cB aC oC, kX10 cI cB bV (bP 0) (bS 0) (bW 0) (bN 0) (bO 0) mZ mY mB mL mU mJ mK mG mA, kX8 cI cB bP mP, kX8 cI cB bS mS, kX9 cI cB bW mW, kA8 cI cB bN mN, kA8 cI cB bO mO, kL cL aX f] [kX7 cI cB aH (aR 0) (aM 0) (aE 0) (aC 0) (aP 0) oH, kX5 cI cB aR (aT 0) (aS 0) oR, kX6 cI cB aT oT, kX4 cI cB aS oS, kX4 cI cB aP oP, kX1 cI cB aM (aN 0) (aY 0) (aK 0), kA8 cI cB aN oN, kA8 cI cB aY oY, kX3 cI cB aK oK, kX2 cI cB aE (aQ 0) oE, kX3 cI cB aQ oQ, kX0 cI cB aC oC, kX10 cI cB bV (bP 0) (bS 0) (bW 0) (bN 0) (bO 0) mZ_50 mY mB mL mU mJ mK mG mA, kX8 cI cB bP mP, kX8 cI cB bS mS, kX9 cI cB bW mW, kA8 cI cB bN mN, kA8 cI cB bO mO, kL cL aX f] C.1 hK hA hP hD hS [12] [0, 1, 2, 3, 4, 5, 6, 7, 8, 9, 10, 11, 13, 14, 15, 16, 17, 18] 0 19 (mtX10_where l dC dI cI cB bV bP bS bW bN bO H.size mZ mY mB mL mU mJ mK mG mA hg) (zCwV 0 C.1 wlL_42 wiX10_where ws_X10_where wnX10 wkX10_where rfl rfl (by decide +kernel) ⟨Nat.le_of_ble_eq_true rfl, Nat.le_of_ble_eq_true rfl⟩) rfl (by decide) rfl rfl rfl rfl rfl rfl rfl hl.1 (Nat.le_of_ble_eq_true rfl) dL_law_321 hcs rfl (fun H locs hP hD hS => ?_)
              refine lv_icmp_eq (tgt := 936) C.1.1 C.1.2.1 dL_law_324 (by decide) (fun hc => ?_) (fun hc => ?_)
              · replace hf := zIf_t hf hc
                obtain ⟨x51, ex51, hf⟩ := zLet_el hf
                refine lv_iinc (v := x51) (lv' := [(4, .int x51), (0, .ref b), (1, .ref (aH 0)), (2, .ref (bV 0)), (3, .ref aX)]) C.1.1 C.1.2.1 dL_law_936 hl (k := 4) rfl (by rw [ex51]; rfl) (by decide) rfl (fun ls hl => ?_)
                refine lv_goto (tgt := 23) C.1.1 C.1.2.1 dL_law_939 (by decide) ?_
                refine W.widen (k := 89 + (t + 1)) (n := 42163 + 6 * (t + 1)) (by omega) (by omega) ?_
                exact ih x51 oH oR oT oS oP oN oY oK oE oQ oC mZ_50 mY mB mL mU mJ mK mG mA mP mS mW mN mO hf (t + 1) (by rw [ex51, hi]; exact zLawN t) (by omega) aS aP bP bS _ H locs hP hD hS ls (lv_sub hl [1, 2, 3, 4, 0] rfl)
              · replace hf := zIf_f hf hc
                refine lv_iconst (v := 0) C.1.1 C.1.2.1 dL_law_327 (by decide) ?_
                cases hf
            · replace hf := zIf_f hf hk47
              rcases Classical.em (x1 = 5) with hk52 | hk52
              · replace hf := zIf_t hf hk52
                refine lv_tableIn (off := 289) (tgt := 329) C.1.1 C.1.2.1 dL_law_40 (by rw [hk52] <;> decide +kernel) (by rw [hk52] <;> decide +kernel) (by rw [hk52] <;> decide +kernel) (by decide) ?_
                refine lv_aload_n C.1.1 C.1.2.1 dL_law_329 rfl (lv_at hl 1 rfl) ?_
                refine lv_aload_n C.1.1 C.1.2.1 dL_law_330 rfl (lv_at hl 0 rfl) ?_
                refine lv_iload C.1.1 C.1.2.1 dL_law_331 (lv_at hl 4 rfl) ?_
                refine lv_iconst (v := 1) C.1.1 C.1.2.1 dL_law_333 (by decide) ?_
                refine lv_iadd C.1.1 C.1.2.1 dL_law_334 ?_
                obtain ⟨hib, hf⟩ := zGd_el hf
                refine va_sld C.1.1 C.1.2.1 hXs hbl hbA hS hib dL_law_335 ?_
                refine lv_aload_n C.1.1 C.1.2.1 dL_law_336 rfl (lv_at hl 0 rfl) ?_
                refine lv_iload C.1.1 C.1.2.1 dL_law_337 (lv_at hl 4 rfl) ?_
                refine lv_iconst (v := 2) C.1.1 C.1.2.1 dL_law_339 (by decide) ?_
                refine lv_iadd C.1.1 C.1.2.1 dL_law_340 ?_
                obtain ⟨hib, hf⟩ := zGd_el hf
                refine va_sld C.1.1 C.1.2.1 hXs hbl hbA hS hib dL_law_341 ?_
                obtain ⟨v53, oH_54, oN_55, hg, hf⟩ := zB3_el hf
                refine zLVi (As := [.int (xs (i + (1 : Int32)).toNatClampNeg), .int (xs (i + (2 : Int32)).toNatClampNeg)]) (rest := []) [kX7 cI cB aH (aR 0) (aM 0) (aE 0) (aC 0) (aP 0) oH, kX5 cI cB aR (aT 0) (aS 0) oR, kX6 cI cB aT oT, kX4 cI cB aS oS, kX4 cI cB aP oP, kX1 cI cB aM (aN 0) (aY 0) (aK 0), kA8 cI cB aN oN, kA8 cI cB aY oY, kX3 cI cB aK oK, kX2 cI cB aE (aQ 0) oE, kX3 cI cB aQ oQ, kX0 cI cB aC oC, kX10 cI cB bV (bP 0) (bS 0) (bW 0) (bN 0) (bO 0) mZ mY mB mL mU mJ mK mG mA, kX8 cI cB bP mP, kX8 cI cB bS mS, kX9 cI cB bW mW, kA8 cI cB bN mN, kA8 cI cB bO mO, kL cL aX f] [kX7 cI cB aH (aR 0) (aM 0) (aE 0) (aC 0) (aP 0) oH_54, kX5 cI cB aR (aT 0) (aS 0) oR, kX6 cI cB aT oT, kX4 cI cB aS oS, kX4 cI cB aP oP, kX1 cI cB aM (aN 0) (aY 0) (aK 0), kA8 cI cB aN oN_55, kA8 cI cB aY oY, kX3 cI cB aK oK, kX2 cI cB aE (aQ 0) oE, kX3 cI cB aQ oQ, kX0 cI cB aC oC, kX10 cI cB bV (bP 0) (bS 0) (bW 0) (bN 0) (bO 0) mZ mY mB mL mU mJ mK mG mA, kX8 cI cB bP mP, kX8 cI cB bS mS, kX9 cI cB bW mW, kA8 cI cB bN mN, kA8 cI cB bO mO, kL cL aX f] C.1 hK hA hP hD hS [0, 5, 6] [1, 2, 3, 4, 7, 8, 9, 10, 11, 12, 13, 14, 15, 16, 17, 18] 0 19 (mtX7_put l dC dI cI cB aH aR aP aM aN aY aK aE aC H.size oH oN (xs (i + (1 : Int32)).toNatClampNeg) (xs (i + (2 : Int32)).toNatClampNeg) hg) (zCwV 2 C.1 wlL_43 wiX7_put ws_X7_put wnX7 wkX7_put rfl rfl (by decide +kernel) ⟨Nat.le_of_ble_eq_true rfl, Nat.le_of_ble_eq_true rfl⟩) rfl (by decide) rfl rfl rfl rfl rfl rfl rfl hl.1 (Nat.le_of_ble_eq_true rfl) dL_law_342 hcs rfl (fun H locs hP hD hS => ?_)
                refine lv_aload_n C.1.1 C.1.2.1 dL_law_345 rfl (lv_at hl 2 rfl) ?_
                refine lv_aload_n C.1.1 C.1.2.1 dL_law_346 rfl (lv_at hl 0 rfl) ?_
                refine lv_iload C.1.1 C.1.2.1 dL_law_347 (lv_at hl 4 rfl) ?_
                refine lv_iconst (v := 1) C.1.1 C.1.2.1 dL_law_349 (by decide) ?_
                refine lv_iadd C.1.1 C.1.2.1 dL_law_350 ?_
                obtain ⟨hib, hf⟩ := zGd_el hf
                refine va_sld C.1.1 C.1.2.1 hXs hbl hbA hS hib dL_law_351 ?_
                refine lv_aload_n C.1.1 C.1.2.1 dL_law_352 rfl (lv_at hl 0 rfl) ?_
                refine lv_iload C.1.1 C.1.2.1 dL_law_353 (lv_at hl 4 rfl) ?_
                refine lv_iconst (v := 2) C.1.1 C.1.2.1 dL_law_355 (by decide) ?_
                refine lv_iadd C.1.1 C.1.2.1 dL_law_356 ?_
                obtain ⟨hib, hf⟩ := zGd_el hf
                refine va_sld C.1.1 C.1.2.1 hXs hbl hbA hS hib dL_law_357 ?_
                obtain ⟨v56, mZ_57, mN_58, hg, hf⟩ := zB3_el hf
                refine zLVi (As := [.int (xs (i + (1 : Int32)).toNatClampNeg), .int (xs (i + (2 : Int32)).toNatClampNeg)]) (rest := [.int v53]) [kX7 cI cB aH (aR 0) (aM 0) (aE 0) (aC 0) (aP 0) oH_54, kX5 cI cB aR (aT 0) (aS 0) oR, kX6 cI cB aT oT, kX4 cI cB aS oS, kX4 cI cB aP oP, kX1 cI cB aM (aN 0) (aY 0) (aK 0), kA8 cI cB aN oN_55, kA8 cI cB aY oY, kX3 cI cB aK oK, kX2 cI cB aE (aQ 0) oE, kX3 cI cB aQ oQ, kX0 cI cB aC oC, kX10 cI cB bV (bP 0) (bS 0) (bW 0) (bN 0) (bO 0) mZ mY mB mL mU mJ mK mG mA, kX8 cI cB bP mP, kX8 cI cB bS mS, kX9 cI cB bW mW, kA8 cI cB bN mN, kA8 cI cB bO mO, kL cL aX f] [kX7 cI cB aH (aR 0) (aM 0) (aE 0) (aC 0) (aP 0) oH_54, kX5 cI cB aR (aT 0) (aS 0) oR, kX6 cI cB aT oT, kX4 cI cB aS oS, kX4 cI cB aP oP, kX1 cI cB aM (aN 0) (aY 0) (aK 0), kA8 cI cB aN oN_55, kA8 cI cB aY oY, kX3 cI cB aK oK, kX2 cI cB aE (aQ 0) oE, kX3 cI cB aQ oQ, kX0 cI cB aC oC, kX10 cI cB bV (bP 0) (bS 0) (bW 0) (bN 0) (bO 0) mZ_57 mY mB mL mU mJ mK mG mA, kX8 cI cB bP mP, kX8 cI cB bS mS, kX9 cI cB bW mW, kA8 cI cB bN mN_58, kA8 cI cB bO mO, kL cL aX f] C.1 hK hA hP hD hS [12, 16] [0, 1, 2, 3, 4, 5, 6, 7, 8, 9, 10, 11, 13, 14, 15, 17, 18] 0 19 (mtX10_put l dC dI cI cB bV bP bS bW bN bO H.size mZ mY mB mL mU mJ mK mG mA mN (xs (i + (1 : Int32)).toNatClampNeg) (xs (i + (2 : Int32)).toNatClampNeg) hg) (zCwV 2 C.1 wlL_47 wiX10_put ws_X10_put wnX10 wkX10_put rfl rfl (by decide +kernel) ⟨Nat.le_of_ble_eq_true rfl, Nat.le_of_ble_eq_true rfl⟩) rfl (by decide) rfl rfl rfl rfl rfl rfl rfl hl.1 (Nat.le_of_ble_eq_true rfl) dL_law_358 hcs rfl (fun H locs hP hD hS => ?_)
                refine lv_icmp_eq (tgt := 936) C.1.1 C.1.2.1 dL_law_361 (by decide) (fun hc => ?_) (fun hc => ?_)
                · replace hf := zIf_t hf hc
                  obtain ⟨x59, ex59, hf⟩ := zLet_el hf
                  refine lv_iinc (v := x59) (lv' := [(4, .int x59), (0, .ref b), (1, .ref (aH 0)), (2, .ref (bV 0)), (3, .ref aX)]) C.1.1 C.1.2.1 dL_law_936 hl (k := 4) rfl (by rw [ex59]; rfl) (by decide) rfl (fun ls hl => ?_)
                  refine lv_goto (tgt := 23) C.1.1 C.1.2.1 dL_law_939 (by decide) ?_
                  refine W.widen (k := 89 + (t + 1)) (n := 42163 + 6 * (t + 1)) (by omega) (by omega) ?_
                  exact ih x59 oH_54 oR oT oS oP oN_55 oY oK oE oQ oC mZ_57 mY mB mL mU mJ mK mG mA mP mS mW mN_58 mO hf (t + 1) (by rw [ex59, hi]; exact zLawN t) (by omega) aS aP bP bS _ H locs hP hD hS ls (lv_sub hl [1, 2, 3, 4, 0] rfl)
                · replace hf := zIf_f hf hc
                  refine lv_iconst (v := 0) C.1.1 C.1.2.1 dL_law_364 (by decide) ?_
                  cases hf
              · replace hf := zIf_f hf hk52
                rcases Classical.em (x1 = 6) with hk60 | hk60
                · replace hf := zIf_t hf hk60
                  refine lv_tableIn (off := 326) (tgt := 366) C.1.1 C.1.2.1 dL_law_40 (by rw [hk60] <;> decide +kernel) (by rw [hk60] <;> decide +kernel) (by rw [hk60] <;> decide +kernel) (by decide) ?_
                  refine lv_aload_n C.1.1 C.1.2.1 dL_law_366 rfl (lv_at hl 1 rfl) ?_
                  refine lv_aload_n C.1.1 C.1.2.1 dL_law_367 rfl (lv_at hl 0 rfl) ?_
                  refine lv_iload C.1.1 C.1.2.1 dL_law_368 (lv_at hl 4 rfl) ?_
                  refine lv_iconst (v := 1) C.1.1 C.1.2.1 dL_law_370 (by decide) ?_
                  refine lv_iadd C.1.1 C.1.2.1 dL_law_371 ?_
                  obtain ⟨hib, hf⟩ := zGd_el hf
                  refine va_sld C.1.1 C.1.2.1 hXs hbl hbA hS hib dL_law_372 ?_
                  obtain ⟨v61, hg, hf⟩ := zB1_el hf
                  refine zLVi (As := [.int (xs (i + (1 : Int32)).toNatClampNeg)]) (rest := []) [kX7 cI cB aH (aR 0) (aM 0) (aE 0) (aC 0) (aP 0) oH, kX5 cI cB aR (aT 0) (aS 0) oR, kX6 cI cB aT oT, kX4 cI cB aS oS, kX4 cI cB aP oP, kX1 cI cB aM (aN 0) (aY 0) (aK 0), kA8 cI cB aN oN, kA8 cI cB aY oY, kX3 cI cB aK oK, kX2 cI cB aE (aQ 0) oE, kX3 cI cB aQ oQ, kX0 cI cB aC oC, kX10 cI cB bV (bP 0) (bS 0) (bW 0) (bN 0) (bO 0) mZ mY mB mL mU mJ mK mG mA, kX8 cI cB bP mP, kX8 cI cB bS mS, kX9 cI cB bW mW, kA8 cI cB bN mN, kA8 cI cB bO mO, kL cL aX f] [kX7 cI cB aH (aR 0) (aM 0) (aE 0) (aC 0) (aP 0) oH, kX5 cI cB aR (aT 0) (aS 0) oR, kX6 cI cB aT oT, kX4 cI cB aS oS, kX4 cI cB aP oP, kX1 cI cB aM (aN 0) (aY 0) (aK 0), kA8 cI cB aN oN, kA8 cI cB aY oY, kX3 cI cB aK oK, kX2 cI cB aE (aQ 0) oE, kX3 cI cB aQ oQ, kX0 cI cB aC oC, kX10 cI cB bV (bP 0) (bS 0) (bW 0) (bN 0) (bO 0) mZ mY mB mL mU mJ mK mG mA, kX8 cI cB bP mP, kX8 cI cB bS mS, kX9 cI cB bW mW, kA8 cI cB bN mN, kA8 cI cB bO mO, kL cL aX f] C.1 hK hA hP hD hS [0, 5, 6] [1, 2, 3, 4, 7, 8, 9, 10, 11, 12, 13, 14, 15, 16, 17, 18] 0 19 (mtX7_get l dC dI cI cB aH aR aP aM aN aY aK aE aC H.size oH oN (xs (i + (1 : Int32)).toNatClampNeg) hg) (zCwV 1 C.1 wlL_48 wiX7_get ws_X7_get wnX7 wkX7_get rfl rfl (by decide +kernel) ⟨Nat.le_of_ble_eq_true rfl, Nat.le_of_ble_eq_true rfl⟩) rfl (by decide) rfl rfl rfl rfl rfl rfl rfl hl.1 (Nat.le_of_ble_eq_true rfl) dL_law_373 hcs rfl (fun H locs hP hD hS => ?_)
                  refine lv_aload_n C.1.1 C.1.2.1 dL_law_376 rfl (lv_at hl 2 rfl) ?_
                  refine lv_aload_n C.1.1 C.1.2.1 dL_law_377 rfl (lv_at hl 0 rfl) ?_
                  refine lv_iload C.1.1 C.1.2.1 dL_law_378 (lv_at hl 4 rfl) ?_
                  refine lv_iconst (v := 1) C.1.1 C.1.2.1 dL_law_380 (by decide) ?_
                  refine lv_iadd C.1.1 C.1.2.1 dL_law_381 ?_
                  obtain ⟨hib, hf⟩ := zGd_el hf
                  refine va_sld C.1.1 C.1.2.1 hXs hbl hbA hS hib dL_law_382 ?_
                  obtain ⟨v62, mZ_63, hg, hf⟩ := zB2_el hf
                  refine zLVi (As := [.int (xs (i + (1 : Int32)).toNatClampNeg)]) (rest := [.int v61]) [kX7 cI cB aH (aR 0) (aM 0) (aE 0) (aC 0) (aP 0) oH, kX5 cI cB aR (aT 0) (aS 0) oR, kX6 cI cB aT oT, kX4 cI cB aS oS, kX4 cI cB aP oP, kX1 cI cB aM (aN 0) (aY 0) (aK 0), kA8 cI cB aN oN, kA8 cI cB aY oY, kX3 cI cB aK oK, kX2 cI cB aE (aQ 0) oE, kX3 cI cB aQ oQ, kX0 cI cB aC oC, kX10 cI cB bV (bP 0) (bS 0) (bW 0) (bN 0) (bO 0) mZ mY mB mL mU mJ mK mG mA, kX8 cI cB bP mP, kX8 cI cB bS mS, kX9 cI cB bW mW, kA8 cI cB bN mN, kA8 cI cB bO mO, kL cL aX f] [kX7 cI cB aH (aR 0) (aM 0) (aE 0) (aC 0) (aP 0) oH, kX5 cI cB aR (aT 0) (aS 0) oR, kX6 cI cB aT oT, kX4 cI cB aS oS, kX4 cI cB aP oP, kX1 cI cB aM (aN 0) (aY 0) (aK 0), kA8 cI cB aN oN, kA8 cI cB aY oY, kX3 cI cB aK oK, kX2 cI cB aE (aQ 0) oE, kX3 cI cB aQ oQ, kX0 cI cB aC oC, kX10 cI cB bV (bP 0) (bS 0) (bW 0) (bN 0) (bO 0) mZ_63 mY mB mL mU mJ mK mG mA, kX8 cI cB bP mP, kX8 cI cB bS mS, kX9 cI cB bW mW, kA8 cI cB bN mN, kA8 cI cB bO mO, kL cL aX f] C.1 hK hA hP hD hS [12, 16] [0, 1, 2, 3, 4, 5, 6, 7, 8, 9, 10, 11, 13, 14, 15, 17, 18] 0 19 (mtX10_get l dC dI cI cB bV bP bS bW bN bO H.size mZ mY mB mL mU mJ mK mG mA mN (xs (i + (1 : Int32)).toNatClampNeg) hg) (zCwV 1 C.1 wlL_51 wiX10_get ws_X10_get wnX10 wkX10_get rfl rfl (by decide +kernel) ⟨Nat.le_of_ble_eq_true rfl, Nat.le_of_ble_eq_true rfl⟩) rfl (by decide) rfl rfl rfl rfl rfl rfl rfl hl.1 (Nat.le_of_ble_eq_true rfl) dL_law_383 hcs rfl (fun H locs hP hD hS => ?_)
                  refine lv_icmp_eq (tgt := 936) C.1.1 C.1.2.1 dL_law_386 (by decide) (fun hc => ?_) (fun hc => ?_)
                  · replace hf := zIf_t hf hc
                    obtain ⟨x64, ex64, hf⟩ := zLet_el hf
                    refine lv_iinc (v := x64) (lv' := [(4, .int x64), (0, .ref b), (1, .ref (aH 0)), (2, .ref (bV 0)), (3, .ref aX)]) C.1.1 C.1.2.1 dL_law_936 hl (k := 4) rfl (by rw [ex64]; rfl) (by decide) rfl (fun ls hl => ?_)
                    refine lv_goto (tgt := 23) C.1.1 C.1.2.1 dL_law_939 (by decide) ?_
                    refine W.widen (k := 89 + (t + 1)) (n := 42163 + 6 * (t + 1)) (by omega) (by omega) ?_
                    exact ih x64 oH oR oT oS oP oN oY oK oE oQ oC mZ_63 mY mB mL mU mJ mK mG mA mP mS mW mN mO hf (t + 1) (by rw [ex64, hi]; exact zLawN t) (by omega) aS aP bP bS _ H locs hP hD hS ls (lv_sub hl [1, 2, 3, 4, 0] rfl)
                  · replace hf := zIf_f hf hc
                    refine lv_iconst (v := 0) C.1.1 C.1.2.1 dL_law_389 (by decide) ?_
                    cases hf
                · replace hf := zIf_f hf hk60
                  rcases Classical.em (x1 = 7) with hk65 | hk65
                  · replace hf := zIf_t hf hk65
                    refine lv_tableIn (off := 351) (tgt := 391) C.1.1 C.1.2.1 dL_law_40 (by rw [hk65] <;> decide +kernel) (by rw [hk65] <;> decide +kernel) (by rw [hk65] <;> decide +kernel) (by decide) ?_
                    refine lv_aload_n C.1.1 C.1.2.1 dL_law_391 rfl (lv_at hl 1 rfl) ?_
                    refine lv_aload_n C.1.1 C.1.2.1 dL_law_392 rfl (lv_at hl 0 rfl) ?_
                    refine lv_iload C.1.1 C.1.2.1 dL_law_393 (lv_at hl 4 rfl) ?_
                    refine lv_iconst (v := 1) C.1.1 C.1.2.1 dL_law_395 (by decide) ?_
                    refine lv_iadd C.1.1 C.1.2.1 dL_law_396 ?_
                    obtain ⟨hib, hf⟩ := zGd_el hf
                    refine va_sld C.1.1 C.1.2.1 hXs hbl hbA hS hib dL_law_397 ?_
                    refine lv_aload_n C.1.1 C.1.2.1 dL_law_398 rfl (lv_at hl 0 rfl) ?_
                    refine lv_iload C.1.1 C.1.2.1 dL_law_399 (lv_at hl 4 rfl) ?_
                    refine lv_iconst (v := 2) C.1.1 C.1.2.1 dL_law_401 (by decide) ?_
                    refine lv_iadd C.1.1 C.1.2.1 dL_law_402 ?_
                    obtain ⟨hib, hf⟩ := zGd_el hf
                    refine va_sld C.1.1 C.1.2.1 hXs hbl hbA hS hib dL_law_403 ?_
                    obtain ⟨v66, hg, hf⟩ := zB1_el hf
                    refine zLVi (As := [.int (xs (i + (1 : Int32)).toNatClampNeg), .int (xs (i + (2 : Int32)).toNatClampNeg)]) (rest := []) [kX7 cI cB aH (aR 0) (aM 0) (aE 0) (aC 0) (aP 0) oH, kX5 cI cB aR (aT 0) (aS 0) oR, kX6 cI cB aT oT, kX4 cI cB aS oS, kX4 cI cB aP oP, kX1 cI cB aM (aN 0) (aY 0) (aK 0), kA8 cI cB aN oN, kA8 cI cB aY oY, kX3 cI cB aK oK, kX2 cI cB aE (aQ 0) oE, kX3 cI cB aQ oQ, kX0 cI cB aC oC, kX10 cI cB bV (bP 0) (bS 0) (bW 0) (bN 0) (bO 0) mZ mY mB mL mU mJ mK mG mA, kX8 cI cB bP mP, kX8 cI cB bS mS, kX9 cI cB bW mW, kA8 cI cB bN mN, kA8 cI cB bO mO, kL cL aX f] [kX7 cI cB aH (aR 0) (aM 0) (aE 0) (aC 0) (aP 0) oH, kX5 cI cB aR (aT 0) (aS 0) oR, kX6 cI cB aT oT, kX4 cI cB aS oS, kX4 cI cB aP oP, kX1 cI cB aM (aN 0) (aY 0) (aK 0), kA8 cI cB aN oN, kA8 cI cB aY oY, kX3 cI cB aK oK, kX2 cI cB aE (aQ 0) oE, kX3 cI cB aQ oQ, kX0 cI cB aC oC, kX10 cI cB bV (bP 0) (bS 0) (bW 0) (bN 0) (bO 0) mZ mY mB mL mU mJ mK mG mA, kX8 cI cB bP mP, kX8 cI cB bS mS, kX9 cI cB bW mW, kA8 cI cB bN mN, kA8 cI cB bO mO, kL cL aX f] C.1 hK hA hP hD hS [0, 4, 9] [1, 2, 3, 5, 6, 7, 8, 10, 11, 12, 13, 14, 15, 16, 17, 18] 0 19 (mtX7_block l dC dI cI cB aH aR aP aM aE aQ aC H.size oH oP oE (xs (i + (1 : Int32)).toNatClampNeg) (xs (i + (2 : Int32)).toNatClampNeg) hg) (zCwV 2 C.1 wlL_52 wiX7_block ws_X7_block wnX7 wkX7_block rfl rfl (by decide +kernel) ⟨Nat.le_of_ble_eq_true rfl, Nat.le_of_ble_eq_true rfl⟩) rfl (by decide) rfl rfl rfl rfl rfl rfl rfl hl.1 (Nat.le_of_ble_eq_true rfl) dL_law_404 hcs rfl (fun H locs hP hD hS => ?_)
                    refine lv_aload_n C.1.1 C.1.2.1 dL_law_407 rfl (lv_at hl 2 rfl) ?_
                    refine lv_aload_n C.1.1 C.1.2.1 dL_law_408 rfl (lv_at hl 0 rfl) ?_
                    refine lv_iload C.1.1 C.1.2.1 dL_law_409 (lv_at hl 4 rfl) ?_
                    refine lv_iconst (v := 1) C.1.1 C.1.2.1 dL_law_411 (by decide) ?_
                    refine lv_iadd C.1.1 C.1.2.1 dL_law_412 ?_
                    obtain ⟨hib, hf⟩ := zGd_el hf
                    refine va_sld C.1.1 C.1.2.1 hXs hbl hbA hS hib dL_law_413 ?_
                    refine lv_aload_n C.1.1 C.1.2.1 dL_law_414 rfl (lv_at hl 0 rfl) ?_
                    refine lv_iload C.1.1 C.1.2.1 dL_law_415 (lv_at hl 4 rfl) ?_
                    refine lv_iconst (v := 2) C.1.1 C.1.2.1 dL_law_417 (by decide) ?_
                    refine lv_iadd C.1.1 C.1.2.1 dL_law_418 ?_
                    obtain ⟨hib, hf⟩ := zGd_el hf
                    refine va_sld C.1.1 C.1.2.1 hXs hbl hbA hS hib dL_law_419 ?_
                    obtain ⟨v67, mZ_68, mU_69, hg, hf⟩ := zB3_el hf
                    refine zLVi (As := [.int (xs (i + (1 : Int32)).toNatClampNeg), .int (xs (i + (2 : Int32)).toNatClampNeg)]) (rest := [.int v66]) [kX7 cI cB aH (aR 0) (aM 0) (aE 0) (aC 0) (aP 0) oH, kX5 cI cB aR (aT 0) (aS 0) oR, kX6 cI cB aT oT, kX4 cI cB aS oS, kX4 cI cB aP oP, kX1 cI cB aM (aN 0) (aY 0) (aK 0), kA8 cI cB aN oN, kA8 cI cB aY oY, kX3 cI cB aK oK, kX2 cI cB aE (aQ 0) oE, kX3 cI cB aQ oQ, kX0 cI cB aC oC, kX10 cI cB bV (bP 0) (bS 0) (bW 0) (bN 0) (bO 0) mZ mY mB mL mU mJ mK mG mA, kX8 cI cB bP mP, kX8 cI cB bS mS, kX9 cI cB bW mW, kA8 cI cB bN mN, kA8 cI cB bO mO, kL cL aX f] [kX7 cI cB aH (aR 0) (aM 0) (aE 0) (aC 0) (aP 0) oH, kX5 cI cB aR (aT 0) (aS 0) oR, kX6 cI cB aT oT, kX4 cI cB aS oS, kX4 cI cB aP oP, kX1 cI cB aM (aN 0) (aY 0) (aK 0), kA8 cI cB aN oN, kA8 cI cB aY oY, kX3 cI cB aK oK, kX2 cI cB aE (aQ 0) oE, kX3 cI cB aQ oQ, kX0 cI cB aC oC, kX10 cI cB bV (bP 0) (bS 0) (bW 0) (bN 0) (bO 0) mZ_68 mY mB mL mU_69 mJ mK mG mA, kX8 cI cB bP mP, kX8 cI cB bS mS, kX9 cI cB bW mW, kA8 cI cB bN mN, kA8 cI cB bO mO, kL cL aX f] C.1 hK hA hP hD hS [12, 13] [0, 1, 2, 3, 4, 5, 6, 7, 8, 9, 10, 11, 14, 15, 16, 17, 18] 0 19 (mtX10_block l dC dI cI cB bV bP bS bW bN bO H.size NN mZ mY mB mL mU mJ mK mG mA mP (xs (i + (1 : Int32)).toNatClampNeg) (xs (i + (2 : Int32)).toNatClampNeg) hg) (zCwV 2 C.1 wlL_55 wiX10_block ws_X10_block wnX10 wkX10_block rfl rfl (by decide +kernel) ⟨Nat.le_of_ble_eq_true rfl, Nat.le_of_ble_eq_true rfl⟩) rfl (by decide) rfl rfl rfl rfl rfl rfl rfl hl.1 (Nat.le_of_ble_eq_true rfl) dL_law_420 hcs rfl (fun H locs hP hD hS => ?_)
                    refine lv_icmp_eq (tgt := 936) C.1.1 C.1.2.1 dL_law_423 (by decide) (fun hc => ?_) (fun hc => ?_)
                    · replace hf := zIf_t hf hc
                      obtain ⟨x70, ex70, hf⟩ := zLet_el hf
                      refine lv_iinc (v := x70) (lv' := [(4, .int x70), (0, .ref b), (1, .ref (aH 0)), (2, .ref (bV 0)), (3, .ref aX)]) C.1.1 C.1.2.1 dL_law_936 hl (k := 4) rfl (by rw [ex70]; rfl) (by decide) rfl (fun ls hl => ?_)
                      refine lv_goto (tgt := 23) C.1.1 C.1.2.1 dL_law_939 (by decide) ?_
                      refine W.widen (k := 89 + (t + 1)) (n := 42163 + 6 * (t + 1)) (by omega) (by omega) ?_
                      exact ih x70 oH oR oT oS oP oN oY oK oE oQ oC mZ_68 mY mB mL mU_69 mJ mK mG mA mP mS mW mN mO hf (t + 1) (by rw [ex70, hi]; exact zLawN t) (by omega) aS aP bP bS _ H locs hP hD hS ls (lv_sub hl [1, 2, 3, 4, 0] rfl)
                    · replace hf := zIf_f hf hc
                      refine lv_iconst (v := 0) C.1.1 C.1.2.1 dL_law_426 (by decide) ?_
                      cases hf
                  · replace hf := zIf_f hf hk65
                    rcases Classical.em (x1 = 8) with hk71 | hk71
                    · replace hf := zIf_t hf hk71
                      refine lv_tableIn (off := 388) (tgt := 428) C.1.1 C.1.2.1 dL_law_40 (by rw [hk71] <;> decide +kernel) (by rw [hk71] <;> decide +kernel) (by rw [hk71] <;> decide +kernel) (by decide) ?_
                      refine lv_aload_n C.1.1 C.1.2.1 dL_law_428 rfl (lv_at hl 1 rfl) ?_
                      refine lv_aload_n C.1.1 C.1.2.1 dL_law_429 rfl (lv_at hl 0 rfl) ?_
                      refine lv_iload C.1.1 C.1.2.1 dL_law_430 (lv_at hl 4 rfl) ?_
                      refine lv_iconst (v := 1) C.1.1 C.1.2.1 dL_law_432 (by decide) ?_
                      refine lv_iadd C.1.1 C.1.2.1 dL_law_433 ?_
                      obtain ⟨hib, hf⟩ := zGd_el hf
                      refine va_sld C.1.1 C.1.2.1 hXs hbl hbA hS hib dL_law_434 ?_
                      obtain ⟨v72, oH_73, oC_74, hg, hf⟩ := zB3_el hf
                      refine zLVi (As := [.int (xs (i + (1 : Int32)).toNatClampNeg)]) (rest := []) [kX7 cI cB aH (aR 0) (aM 0) (aE 0) (aC 0) (aP 0) oH, kX5 cI cB aR (aT 0) (aS 0) oR, kX6 cI cB aT oT, kX4 cI cB aS oS, kX4 cI cB aP oP, kX1 cI cB aM (aN 0) (aY 0) (aK 0), kA8 cI cB aN oN, kA8 cI cB aY oY, kX3 cI cB aK oK, kX2 cI cB aE (aQ 0) oE, kX3 cI cB aQ oQ, kX0 cI cB aC oC, kX10 cI cB bV (bP 0) (bS 0) (bW 0) (bN 0) (bO 0) mZ mY mB mL mU mJ mK mG mA, kX8 cI cB bP mP, kX8 cI cB bS mS, kX9 cI cB bW mW, kA8 cI cB bN mN, kA8 cI cB bO mO, kL cL aX f] [kX7 cI cB aH (aR 0) (aM 0) (aE 0) (aC 0) (aP 0) oH_73, kX5 cI cB aR (aT 0) (aS 0) oR, kX6 cI cB aT oT, kX4 cI cB aS oS, kX4 cI cB aP oP, kX1 cI cB aM (aN 0) (aY 0) (aK 0), kA8 cI cB aN oN, kA8 cI cB aY oY, kX3 cI cB aK oK, kX2 cI cB aE (aQ 0) oE, kX3 cI cB aQ oQ, kX0 cI cB aC oC_74, kX10 cI cB bV (bP 0) (bS 0) (bW 0) (bN 0) (bO 0) mZ mY mB mL mU mJ mK mG mA, kX8 cI cB bP mP, kX8 cI cB bS mS, kX9 cI cB bW mW, kA8 cI cB bN mN, kA8 cI cB bO mO, kL cL aX f] C.1 hK hA hP hD hS [0, 4, 9, 11] [1, 2, 3, 5, 6, 7, 8, 10, 12, 13, 14, 15, 16, 17, 18] 0 19 (mtX7_ticks l dC dI cI cB aH aR aP aM aE aQ aC H.size NN oH oP oE oC (xs (i + (1 : Int32)).toNatClampNeg) hg) (zCwV 1 C.1 wlL_56 wiX7_ticks ws_X7_ticks wnX7 wkX7_ticks rfl rfl (by decide +kernel) ⟨Nat.le_of_ble_eq_true rfl, Nat.le_of_ble_eq_true rfl⟩) rfl (by decide) rfl rfl rfl rfl rfl rfl rfl hl.1 (Nat.le_of_ble_eq_true rfl) dL_law_435 hcs rfl (fun H locs hP hD hS => ?_)
                      refine lv_aload_n C.1.1 C.1.2.1 dL_law_438 rfl (lv_at hl 2 rfl) ?_
                      refine lv_aload_n C.1.1 C.1.2.1 dL_law_439 rfl (lv_at hl 0 rfl) ?_
                      refine lv_iload C.1.1 C.1.2.1 dL_law_440 (lv_at hl 4 rfl) ?_
                      refine lv_iconst (v := 1) C.1.1 C.1.2.1 dL_law_442 (by decide) ?_
                      refine lv_iadd C.1.1 C.1.2.1 dL_law_443 ?_
                      obtain ⟨hib, hf⟩ := zGd_el hf
                      refine va_sld C.1.1 C.1.2.1 hXs hbl hbA hS hib dL_law_444 ?_
                      obtain ⟨v75, mZ_76, mU_77, mJ_78, mK_79, hg, hf⟩ := zB5_el hf
                      refine zLVi (As := [.int (xs (i + (1 : Int32)).toNatClampNeg)]) (rest := [.int v72]) [kX7 cI cB aH (aR 0) (aM 0) (aE 0) (aC 0) (aP 0) oH_73, kX5 cI cB aR (aT 0) (aS 0) oR, kX6 cI cB aT oT, kX4 cI cB aS oS, kX4 cI cB aP oP, kX1 cI cB aM (aN 0) (aY 0) (aK 0), kA8 cI cB aN oN, kA8 cI cB aY oY, kX3 cI cB aK oK, kX2 cI cB aE (aQ 0) oE, kX3 cI cB aQ oQ, kX0 cI cB aC oC_74, kX10 cI cB bV (bP 0) (bS 0) (bW 0) (bN 0) (bO 0) mZ mY mB mL mU mJ mK mG mA, kX8 cI cB bP mP, kX8 cI cB bS mS, kX9 cI cB bW mW, kA8 cI cB bN mN, kA8 cI cB bO mO, kL cL aX f] [kX7 cI cB aH (aR 0) (aM 0) (aE 0) (aC 0) (aP 0) oH_73, kX5 cI cB aR (aT 0) (aS 0) oR, kX6 cI cB aT oT, kX4 cI cB aS oS, kX4 cI cB aP oP, kX1 cI cB aM (aN 0) (aY 0) (aK 0), kA8 cI cB aN oN, kA8 cI cB aY oY, kX3 cI cB aK oK, kX2 cI cB aE (aQ 0) oE, kX3 cI cB aQ oQ, kX0 cI cB aC oC_74, kX10 cI cB bV (bP 0) (bS 0) (bW 0) (bN 0) (bO 0) mZ_76 mY mB mL mU_77 mJ_78 mK_79 mG mA, kX8 cI cB bP mP, kX8 cI cB bS mS, kX9 cI cB bW mW, kA8 cI cB bN mN, kA8 cI cB bO mO, kL cL aX f] C.1 hK hA hP hD hS [12, 13] [0, 1, 2, 3, 4, 5, 6, 7, 8, 9, 10, 11, 14, 15, 16, 17, 18] 0 19 (mtX10_ticks l dC dI cI cB bV bP bS bW bN bO H.size NN mZ mY mB mL mU mJ mK mG mA mP (xs (i + (1 : Int32)).toNatClampNeg) hg) (zCwV 1 C.1 wlL_59 wiX10_ticks ws_X10_ticks wnX10 wkX10_ticks rfl rfl (by decide +kernel) ⟨Nat.le_of_ble_eq_true rfl, Nat.le_of_ble_eq_true rfl⟩) rfl (by decide) rfl rfl rfl rfl rfl rfl rfl hl.1 (Nat.le_of_ble_eq_true rfl) dL_law_445 hcs rfl (fun H locs hP hD hS => ?_)
                      refine lv_icmp_eq (tgt := 936) C.1.1 C.1.2.1 dL_law_448 (by decide) (fun hc => ?_) (fun hc => ?_)
                      · replace hf := zIf_t hf hc
                        obtain ⟨x80, ex80, hf⟩ := zLet_el hf
                        refine lv_iinc (v := x80) (lv' := [(4, .int x80), (0, .ref b), (1, .ref (aH 0)), (2, .ref (bV 0)), (3, .ref aX)]) C.1.1 C.1.2.1 dL_law_936 hl (k := 4) rfl (by rw [ex80]; rfl) (by decide) rfl (fun ls hl => ?_)
                        refine lv_goto (tgt := 23) C.1.1 C.1.2.1 dL_law_939 (by decide) ?_
                        refine W.widen (k := 89 + (t + 1)) (n := 42163 + 6 * (t + 1)) (by omega) (by omega) ?_
                        exact ih x80 oH_73 oR oT oS oP oN oY oK oE oQ oC_74 mZ_76 mY mB mL mU_77 mJ_78 mK_79 mG mA mP mS mW mN mO hf (t + 1) (by rw [ex80, hi]; exact zLawN t) (by omega) aS aP bP bS _ H locs hP hD hS ls (lv_sub hl [1, 2, 3, 4, 0] rfl)
                      · replace hf := zIf_f hf hc
                        refine lv_iconst (v := 0) C.1.1 C.1.2.1 dL_law_451 (by decide) ?_
                        cases hf
                    · replace hf := zIf_f hf hk71
                      rcases Classical.em (x1 = 9) with hk81 | hk81
                      · replace hf := zIf_t hf hk81
                        refine lv_tableIn (off := 413) (tgt := 453) C.1.1 C.1.2.1 dL_law_40 (by rw [hk81] <;> decide +kernel) (by rw [hk81] <;> decide +kernel) (by rw [hk81] <;> decide +kernel) (by decide) ?_
                        refine lv_aload_n C.1.1 C.1.2.1 dL_law_453 rfl (lv_at hl 1 rfl) ?_
                        refine lv_aload_n C.1.1 C.1.2.1 dL_law_454 rfl (lv_at hl 0 rfl) ?_
                        refine lv_iload C.1.1 C.1.2.1 dL_law_455 (lv_at hl 4 rfl) ?_
                        refine lv_iconst (v := 1) C.1.1 C.1.2.1 dL_law_457 (by decide) ?_
                        refine lv_iadd C.1.1 C.1.2.1 dL_law_458 ?_
                        obtain ⟨hib, hf⟩ := zGd_el hf
                        refine va_sld C.1.1 C.1.2.1 hXs hbl hbA hS hib dL_law_459 ?_
                        obtain ⟨v82, oH_83, oC_84, hg, hf⟩ := zB3_el hf
                        refine zLVi (As := [.int (xs (i + (1 : Int32)).toNatClampNeg)]) (rest := []) [kX7 cI cB aH (aR 0) (aM 0) (aE 0) (aC 0) (aP 0) oH, kX5 cI cB aR (aT 0) (aS 0) oR, kX6 cI cB aT oT, kX4 cI cB aS oS, kX4 cI cB aP oP, kX1 cI cB aM (aN 0) (aY 0) (aK 0), kA8 cI cB aN oN, kA8 cI cB aY oY, kX3 cI cB aK oK, kX2 cI cB aE (aQ 0) oE, kX3 cI cB aQ oQ, kX0 cI cB aC oC, kX10 cI cB bV (bP 0) (bS 0) (bW 0) (bN 0) (bO 0) mZ mY mB mL mU mJ mK mG mA, kX8 cI cB bP mP, kX8 cI cB bS mS, kX9 cI cB bW mW, kA8 cI cB bN mN, kA8 cI cB bO mO, kL cL aX f] [kX7 cI cB aH (aR 0) (aM 0) (aE 0) (aC 0) (aP 0) oH_83, kX5 cI cB aR (aT 0) (aS 0) oR, kX6 cI cB aT oT, kX4 cI cB aS oS, kX4 cI cB aP oP, kX1 cI cB aM (aN 0) (aY 0) (aK 0), kA8 cI cB aN oN, kA8 cI cB aY oY, kX3 cI cB aK oK, kX2 cI cB aE (aQ 0) oE, kX3 cI cB aQ oQ, kX0 cI cB aC oC_84, kX10 cI cB bV (bP 0) (bS 0) (bW 0) (bN 0) (bO 0) mZ mY mB mL mU mJ mK mG mA, kX8 cI cB bP mP, kX8 cI cB bS mS, kX9 cI cB bW mW, kA8 cI cB bN mN, kA8 cI cB bO mO, kL cL aX f] C.1 hK hA hP hD hS [0, 4, 9, 11] [1, 2, 3, 5, 6, 7, 8, 10, 12, 13, 14, 15, 16, 17, 18] 0 19 (mtX7_gates l dC dI cI cB aH aR aP aM aE aQ aC H.size NN oH oP oE oC (xs (i + (1 : Int32)).toNatClampNeg) hg) (zCwV 1 C.1 wlL_60 wiX7_gates ws_X7_gates wnX7 wkX7_gates rfl rfl (by decide +kernel) ⟨Nat.le_of_ble_eq_true rfl, Nat.le_of_ble_eq_true rfl⟩) rfl (by decide) rfl rfl rfl rfl rfl rfl rfl hl.1 (Nat.le_of_ble_eq_true rfl) dL_law_460 hcs rfl (fun H locs hP hD hS => ?_)
                        refine lv_aload_n C.1.1 C.1.2.1 dL_law_463 rfl (lv_at hl 2 rfl) ?_
                        refine lv_aload_n C.1.1 C.1.2.1 dL_law_464 rfl (lv_at hl 0 rfl) ?_
                        refine lv_iload C.1.1 C.1.2.1 dL_law_465 (lv_at hl 4 rfl) ?_
                        refine lv_iconst (v := 1) C.1.1 C.1.2.1 dL_law_467 (by decide) ?_
                        refine lv_iadd C.1.1 C.1.2.1 dL_law_468 ?_
                        obtain ⟨hib, hf⟩ := zGd_el hf
                        refine va_sld C.1.1 C.1.2.1 hXs hbl hbA hS hib dL_law_469 ?_
                        obtain ⟨v85, mZ_86, mU_87, mJ_88, hg, hf⟩ := zB4_el hf
                        refine zLVi (As := [.int (xs (i + (1 : Int32)).toNatClampNeg)]) (rest := [.int v82]) [kX7 cI cB aH (aR 0) (aM 0) (aE 0) (aC 0) (aP 0) oH_83, kX5 cI cB aR (aT 0) (aS 0) oR, kX6 cI cB aT oT, kX4 cI cB aS oS, kX4 cI cB aP oP, kX1 cI cB aM (aN 0) (aY 0) (aK 0), kA8 cI cB aN oN, kA8 cI cB aY oY, kX3 cI cB aK oK, kX2 cI cB aE (aQ 0) oE, kX3 cI cB aQ oQ, kX0 cI cB aC oC_84, kX10 cI cB bV (bP 0) (bS 0) (bW 0) (bN 0) (bO 0) mZ mY mB mL mU mJ mK mG mA, kX8 cI cB bP mP, kX8 cI cB bS mS, kX9 cI cB bW mW, kA8 cI cB bN mN, kA8 cI cB bO mO, kL cL aX f] [kX7 cI cB aH (aR 0) (aM 0) (aE 0) (aC 0) (aP 0) oH_83, kX5 cI cB aR (aT 0) (aS 0) oR, kX6 cI cB aT oT, kX4 cI cB aS oS, kX4 cI cB aP oP, kX1 cI cB aM (aN 0) (aY 0) (aK 0), kA8 cI cB aN oN, kA8 cI cB aY oY, kX3 cI cB aK oK, kX2 cI cB aE (aQ 0) oE, kX3 cI cB aQ oQ, kX0 cI cB aC oC_84, kX10 cI cB bV (bP 0) (bS 0) (bW 0) (bN 0) (bO 0) mZ_86 mY mB mL mU_87 mJ_88 mK mG mA, kX8 cI cB bP mP, kX8 cI cB bS mS, kX9 cI cB bW mW, kA8 cI cB bN mN, kA8 cI cB bO mO, kL cL aX f] C.1 hK hA hP hD hS [12, 13] [0, 1, 2, 3, 4, 5, 6, 7, 8, 9, 10, 11, 14, 15, 16, 17, 18] 0 19 (mtX10_gates l dC dI cI cB bV bP bS bW bN bO H.size NN mZ mY mB mL mU mJ mK mG mA mP (xs (i + (1 : Int32)).toNatClampNeg) hg) (zCwV 1 C.1 wlL_63 wiX10_gates ws_X10_gates wnX10 wkX10_gates rfl rfl (by decide +kernel) ⟨Nat.le_of_ble_eq_true rfl, Nat.le_of_ble_eq_true rfl⟩) rfl (by decide) rfl rfl rfl rfl rfl rfl rfl hl.1 (Nat.le_of_ble_eq_true rfl) dL_law_470 hcs rfl (fun H locs hP hD hS => ?_)
                        refine lv_icmp_eq (tgt := 936) C.1.1 C.1.2.1 dL_law_473 (by decide) (fun hc => ?_) (fun hc => ?_)
                        · replace hf := zIf_t hf hc
                          obtain ⟨x89, ex89, hf⟩ := zLet_el hf
                          refine lv_iinc (v := x89) (lv' := [(4, .int x89), (0, .ref b), (1, .ref (aH 0)), (2, .ref (bV 0)), (3, .ref aX)]) C.1.1 C.1.2.1 dL_law_936 hl (k := 4) rfl (by rw [ex89]; rfl) (by decide) rfl (fun ls hl => ?_)
                          refine lv_goto (tgt := 23) C.1.1 C.1.2.1 dL_law_939 (by decide) ?_
                          refine W.widen (k := 89 + (t + 1)) (n := 42163 + 6 * (t + 1)) (by omega) (by omega) ?_
                          exact ih x89 oH_83 oR oT oS oP oN oY oK oE oQ oC_84 mZ_86 mY mB mL mU_87 mJ_88 mK mG mA mP mS mW mN mO hf (t + 1) (by rw [ex89, hi]; exact zLawN t) (by omega) aS aP bP bS _ H locs hP hD hS ls (lv_sub hl [1, 2, 3, 4, 0] rfl)
                        · replace hf := zIf_f hf hc
                          refine lv_iconst (v := 0) C.1.1 C.1.2.1 dL_law_476 (by decide) ?_
                          cases hf
                      · replace hf := zIf_f hf hk81
                        rcases Classical.em (x1 = 10) with hk90 | hk90
                        · replace hf := zIf_t hf hk90
                          refine lv_tableIn (off := 438) (tgt := 478) C.1.1 C.1.2.1 dL_law_40 (by rw [hk90] <;> decide +kernel) (by rw [hk90] <;> decide +kernel) (by rw [hk90] <;> decide +kernel) (by decide) ?_
                          refine lv_aload_n C.1.1 C.1.2.1 dL_law_478 rfl (lv_at hl 1 rfl) ?_
                          refine lv_aload_n C.1.1 C.1.2.1 dL_law_479 rfl (lv_at hl 0 rfl) ?_
                          refine lv_iload C.1.1 C.1.2.1 dL_law_480 (lv_at hl 4 rfl) ?_
                          refine lv_iconst (v := 1) C.1.1 C.1.2.1 dL_law_482 (by decide) ?_
                          refine lv_iadd C.1.1 C.1.2.1 dL_law_483 ?_
                          obtain ⟨hib, hf⟩ := zGd_el hf
                          refine va_sld C.1.1 C.1.2.1 hXs hbl hbA hS hib dL_law_484 ?_
                          obtain ⟨v91, oH_92, oC_93, hg, hf⟩ := zB3_el hf
                          refine zLVi (As := [.int (xs (i + (1 : Int32)).toNatClampNeg)]) (rest := []) [kX7 cI cB aH (aR 0) (aM 0) (aE 0) (aC 0) (aP 0) oH, kX5 cI cB aR (aT 0) (aS 0) oR, kX6 cI cB aT oT, kX4 cI cB aS oS, kX4 cI cB aP oP, kX1 cI cB aM (aN 0) (aY 0) (aK 0), kA8 cI cB aN oN, kA8 cI cB aY oY, kX3 cI cB aK oK, kX2 cI cB aE (aQ 0) oE, kX3 cI cB aQ oQ, kX0 cI cB aC oC, kX10 cI cB bV (bP 0) (bS 0) (bW 0) (bN 0) (bO 0) mZ mY mB mL mU mJ mK mG mA, kX8 cI cB bP mP, kX8 cI cB bS mS, kX9 cI cB bW mW, kA8 cI cB bN mN, kA8 cI cB bO mO, kL cL aX f] [kX7 cI cB aH (aR 0) (aM 0) (aE 0) (aC 0) (aP 0) oH_92, kX5 cI cB aR (aT 0) (aS 0) oR, kX6 cI cB aT oT, kX4 cI cB aS oS, kX4 cI cB aP oP, kX1 cI cB aM (aN 0) (aY 0) (aK 0), kA8 cI cB aN oN, kA8 cI cB aY oY, kX3 cI cB aK oK, kX2 cI cB aE (aQ 0) oE, kX3 cI cB aQ oQ, kX0 cI cB aC oC_93, kX10 cI cB bV (bP 0) (bS 0) (bW 0) (bN 0) (bO 0) mZ mY mB mL mU mJ mK mG mA, kX8 cI cB bP mP, kX8 cI cB bS mS, kX9 cI cB bW mW, kA8 cI cB bN mN, kA8 cI cB bO mO, kL cL aX f] C.1 hK hA hP hD hS [0, 4, 9, 11] [1, 2, 3, 5, 6, 7, 8, 10, 12, 13, 14, 15, 16, 17, 18] 0 19 (mtX7_moved l dC dI cI cB aH aR aP aM aE aQ aC H.size NN oH oP oE oC (xs (i + (1 : Int32)).toNatClampNeg) hg) (zCwV 1 C.1 wlL_64 wiX7_moved ws_X7_moved wnX7 wkX7_moved rfl rfl (by decide +kernel) ⟨Nat.le_of_ble_eq_true rfl, Nat.le_of_ble_eq_true rfl⟩) rfl (by decide) rfl rfl rfl rfl rfl rfl rfl hl.1 (Nat.le_of_ble_eq_true rfl) dL_law_485 hcs rfl (fun H locs hP hD hS => ?_)
                          refine lv_aload_n C.1.1 C.1.2.1 dL_law_488 rfl (lv_at hl 2 rfl) ?_
                          refine lv_aload_n C.1.1 C.1.2.1 dL_law_489 rfl (lv_at hl 0 rfl) ?_
                          refine lv_iload C.1.1 C.1.2.1 dL_law_490 (lv_at hl 4 rfl) ?_
                          refine lv_iconst (v := 1) C.1.1 C.1.2.1 dL_law_492 (by decide) ?_
                          refine lv_iadd C.1.1 C.1.2.1 dL_law_493 ?_
                          obtain ⟨hib, hf⟩ := zGd_el hf
                          refine va_sld C.1.1 C.1.2.1 hXs hbl hbA hS hib dL_law_494 ?_
                          obtain ⟨v94, mZ_95, mU_96, mJ_97, mK_98, hg, hf⟩ := zB5_el hf
                          refine zLVi (As := [.int (xs (i + (1 : Int32)).toNatClampNeg)]) (rest := [.int v91]) [kX7 cI cB aH (aR 0) (aM 0) (aE 0) (aC 0) (aP 0) oH_92, kX5 cI cB aR (aT 0) (aS 0) oR, kX6 cI cB aT oT, kX4 cI cB aS oS, kX4 cI cB aP oP, kX1 cI cB aM (aN 0) (aY 0) (aK 0), kA8 cI cB aN oN, kA8 cI cB aY oY, kX3 cI cB aK oK, kX2 cI cB aE (aQ 0) oE, kX3 cI cB aQ oQ, kX0 cI cB aC oC_93, kX10 cI cB bV (bP 0) (bS 0) (bW 0) (bN 0) (bO 0) mZ mY mB mL mU mJ mK mG mA, kX8 cI cB bP mP, kX8 cI cB bS mS, kX9 cI cB bW mW, kA8 cI cB bN mN, kA8 cI cB bO mO, kL cL aX f] [kX7 cI cB aH (aR 0) (aM 0) (aE 0) (aC 0) (aP 0) oH_92, kX5 cI cB aR (aT 0) (aS 0) oR, kX6 cI cB aT oT, kX4 cI cB aS oS, kX4 cI cB aP oP, kX1 cI cB aM (aN 0) (aY 0) (aK 0), kA8 cI cB aN oN, kA8 cI cB aY oY, kX3 cI cB aK oK, kX2 cI cB aE (aQ 0) oE, kX3 cI cB aQ oQ, kX0 cI cB aC oC_93, kX10 cI cB bV (bP 0) (bS 0) (bW 0) (bN 0) (bO 0) mZ_95 mY mB mL mU_96 mJ_97 mK_98 mG mA, kX8 cI cB bP mP, kX8 cI cB bS mS, kX9 cI cB bW mW, kA8 cI cB bN mN, kA8 cI cB bO mO, kL cL aX f] C.1 hK hA hP hD hS [12, 13] [0, 1, 2, 3, 4, 5, 6, 7, 8, 9, 10, 11, 14, 15, 16, 17, 18] 0 19 (mtX10_moved l dC dI cI cB bV bP bS bW bN bO H.size NN mZ mY mB mL mU mJ mK mG mA mP (xs (i + (1 : Int32)).toNatClampNeg) hg) (zCwV 1 C.1 wlL_67 wiX10_moved ws_X10_moved wnX10 wkX10_moved rfl rfl (by decide +kernel) ⟨Nat.le_of_ble_eq_true rfl, Nat.le_of_ble_eq_true rfl⟩) rfl (by decide) rfl rfl rfl rfl rfl rfl rfl hl.1 (Nat.le_of_ble_eq_true rfl) dL_law_495 hcs rfl (fun H locs hP hD hS => ?_)
                          refine lv_icmp_eq (tgt := 936) C.1.1 C.1.2.1 dL_law_498 (by decide) (fun hc => ?_) (fun hc => ?_)
                          · replace hf := zIf_t hf hc
                            obtain ⟨x99, ex99, hf⟩ := zLet_el hf
                            refine lv_iinc (v := x99) (lv' := [(4, .int x99), (0, .ref b), (1, .ref (aH 0)), (2, .ref (bV 0)), (3, .ref aX)]) C.1.1 C.1.2.1 dL_law_936 hl (k := 4) rfl (by rw [ex99]; rfl) (by decide) rfl (fun ls hl => ?_)
                            refine lv_goto (tgt := 23) C.1.1 C.1.2.1 dL_law_939 (by decide) ?_
                            refine W.widen (k := 89 + (t + 1)) (n := 42163 + 6 * (t + 1)) (by omega) (by omega) ?_
                            exact ih x99 oH_92 oR oT oS oP oN oY oK oE oQ oC_93 mZ_95 mY mB mL mU_96 mJ_97 mK_98 mG mA mP mS mW mN mO hf (t + 1) (by rw [ex99, hi]; exact zLawN t) (by omega) aS aP bP bS _ H locs hP hD hS ls (lv_sub hl [1, 2, 3, 4, 0] rfl)
                          · replace hf := zIf_f hf hc
                            refine lv_iconst (v := 0) C.1.1 C.1.2.1 dL_law_501 (by decide) ?_
                            cases hf
                        · replace hf := zIf_f hf hk90
                          rcases Classical.em (x1 = 11) with hk100 | hk100
                          · replace hf := zIf_t hf hk100
                            refine lv_tableIn (off := 463) (tgt := 503) C.1.1 C.1.2.1 dL_law_40 (by rw [hk100] <;> decide +kernel) (by rw [hk100] <;> decide +kernel) (by rw [hk100] <;> decide +kernel) (by decide) ?_
                            refine lv_aload_n C.1.1 C.1.2.1 dL_law_503 rfl (lv_at hl 1 rfl) ?_
                            refine lv_aload_n C.1.1 C.1.2.1 dL_law_504 rfl (lv_at hl 0 rfl) ?_
                            refine lv_iload C.1.1 C.1.2.1 dL_law_505 (lv_at hl 4 rfl) ?_
                            refine lv_iconst (v := 1) C.1.1 C.1.2.1 dL_law_507 (by decide) ?_
                            refine lv_iadd C.1.1 C.1.2.1 dL_law_508 ?_
                            obtain ⟨hib, hf⟩ := zGd_el hf
                            refine va_sld C.1.1 C.1.2.1 hXs hbl hbA hS hib dL_law_509 ?_
                            obtain ⟨v101, oH_102, oC_103, hg, hf⟩ := zB3_el hf
                            refine zLVi (As := [.int (xs (i + (1 : Int32)).toNatClampNeg)]) (rest := []) [kX7 cI cB aH (aR 0) (aM 0) (aE 0) (aC 0) (aP 0) oH, kX5 cI cB aR (aT 0) (aS 0) oR, kX6 cI cB aT oT, kX4 cI cB aS oS, kX4 cI cB aP oP, kX1 cI cB aM (aN 0) (aY 0) (aK 0), kA8 cI cB aN oN, kA8 cI cB aY oY, kX3 cI cB aK oK, kX2 cI cB aE (aQ 0) oE, kX3 cI cB aQ oQ, kX0 cI cB aC oC, kX10 cI cB bV (bP 0) (bS 0) (bW 0) (bN 0) (bO 0) mZ mY mB mL mU mJ mK mG mA, kX8 cI cB bP mP, kX8 cI cB bS mS, kX9 cI cB bW mW, kA8 cI cB bN mN, kA8 cI cB bO mO, kL cL aX f] [kX7 cI cB aH (aR 0) (aM 0) (aE 0) (aC 0) (aP 0) oH_102, kX5 cI cB aR (aT 0) (aS 0) oR, kX6 cI cB aT oT, kX4 cI cB aS oS, kX4 cI cB aP oP, kX1 cI cB aM (aN 0) (aY 0) (aK 0), kA8 cI cB aN oN, kA8 cI cB aY oY, kX3 cI cB aK oK, kX2 cI cB aE (aQ 0) oE, kX3 cI cB aQ oQ, kX0 cI cB aC oC_103, kX10 cI cB bV (bP 0) (bS 0) (bW 0) (bN 0) (bO 0) mZ mY mB mL mU mJ mK mG mA, kX8 cI cB bP mP, kX8 cI cB bS mS, kX9 cI cB bW mW, kA8 cI cB bN mN, kA8 cI cB bO mO, kL cL aX f] C.1 hK hA hP hD hS [0, 4, 9, 11] [1, 2, 3, 5, 6, 7, 8, 10, 12, 13, 14, 15, 16, 17, 18] 0 19 (mtX7_room l dC dI cI cB aH aR aP aM aE aQ aC H.size NN oH oP oE oC (xs (i + (1 : Int32)).toNatClampNeg) hg) (zCwV 1 C.1 wlL_68 wiX7_room ws_X7_room wnX7 wkX7_room rfl rfl (by decide +kernel) ⟨Nat.le_of_ble_eq_true rfl, Nat.le_of_ble_eq_true rfl⟩) rfl (by decide) rfl rfl rfl rfl rfl rfl rfl hl.1 (Nat.le_of_ble_eq_true rfl) dL_law_510 hcs rfl (fun H locs hP hD hS => ?_)
                            refine lv_aload_n C.1.1 C.1.2.1 dL_law_513 rfl (lv_at hl 2 rfl) ?_
                            refine lv_aload_n C.1.1 C.1.2.1 dL_law_514 rfl (lv_at hl 0 rfl) ?_
                            refine lv_iload C.1.1 C.1.2.1 dL_law_515 (lv_at hl 4 rfl) ?_
                            refine lv_iconst (v := 1) C.1.1 C.1.2.1 dL_law_517 (by decide) ?_
                            refine lv_iadd C.1.1 C.1.2.1 dL_law_518 ?_
                            obtain ⟨hib, hf⟩ := zGd_el hf
                            refine va_sld C.1.1 C.1.2.1 hXs hbl hbA hS hib dL_law_519 ?_
                            obtain ⟨v104, mZ_105, mU_106, mJ_107, mK_108, hg, hf⟩ := zB5_el hf
                            refine zLVi (As := [.int (xs (i + (1 : Int32)).toNatClampNeg)]) (rest := [.int v101]) [kX7 cI cB aH (aR 0) (aM 0) (aE 0) (aC 0) (aP 0) oH_102, kX5 cI cB aR (aT 0) (aS 0) oR, kX6 cI cB aT oT, kX4 cI cB aS oS, kX4 cI cB aP oP, kX1 cI cB aM (aN 0) (aY 0) (aK 0), kA8 cI cB aN oN, kA8 cI cB aY oY, kX3 cI cB aK oK, kX2 cI cB aE (aQ 0) oE, kX3 cI cB aQ oQ, kX0 cI cB aC oC_103, kX10 cI cB bV (bP 0) (bS 0) (bW 0) (bN 0) (bO 0) mZ mY mB mL mU mJ mK mG mA, kX8 cI cB bP mP, kX8 cI cB bS mS, kX9 cI cB bW mW, kA8 cI cB bN mN, kA8 cI cB bO mO, kL cL aX f] [kX7 cI cB aH (aR 0) (aM 0) (aE 0) (aC 0) (aP 0) oH_102, kX5 cI cB aR (aT 0) (aS 0) oR, kX6 cI cB aT oT, kX4 cI cB aS oS, kX4 cI cB aP oP, kX1 cI cB aM (aN 0) (aY 0) (aK 0), kA8 cI cB aN oN, kA8 cI cB aY oY, kX3 cI cB aK oK, kX2 cI cB aE (aQ 0) oE, kX3 cI cB aQ oQ, kX0 cI cB aC oC_103, kX10 cI cB bV (bP 0) (bS 0) (bW 0) (bN 0) (bO 0) mZ_105 mY mB mL mU_106 mJ_107 mK_108 mG mA, kX8 cI cB bP mP, kX8 cI cB bS mS, kX9 cI cB bW mW, kA8 cI cB bN mN, kA8 cI cB bO mO, kL cL aX f] C.1 hK hA hP hD hS [12, 13] [0, 1, 2, 3, 4, 5, 6, 7, 8, 9, 10, 11, 14, 15, 16, 17, 18] 0 19 (mtX10_room l dC dI cI cB bV bP bS bW bN bO H.size NN mZ mY mB mL mU mJ mK mG mA mP (xs (i + (1 : Int32)).toNatClampNeg) hg) (zCwV 1 C.1 wlL_71 wiX10_room ws_X10_room wnX10 wkX10_room rfl rfl (by decide +kernel) ⟨Nat.le_of_ble_eq_true rfl, Nat.le_of_ble_eq_true rfl⟩) rfl (by decide) rfl rfl rfl rfl rfl rfl rfl hl.1 (Nat.le_of_ble_eq_true rfl) dL_law_520 hcs rfl (fun H locs hP hD hS => ?_)
                            refine lv_icmp_eq (tgt := 936) C.1.1 C.1.2.1 dL_law_523 (by decide) (fun hc => ?_) (fun hc => ?_)
                            · replace hf := zIf_t hf hc
                              obtain ⟨x109, ex109, hf⟩ := zLet_el hf
                              refine lv_iinc (v := x109) (lv' := [(4, .int x109), (0, .ref b), (1, .ref (aH 0)), (2, .ref (bV 0)), (3, .ref aX)]) C.1.1 C.1.2.1 dL_law_936 hl (k := 4) rfl (by rw [ex109]; rfl) (by decide) rfl (fun ls hl => ?_)
                              refine lv_goto (tgt := 23) C.1.1 C.1.2.1 dL_law_939 (by decide) ?_
                              refine W.widen (k := 89 + (t + 1)) (n := 42163 + 6 * (t + 1)) (by omega) (by omega) ?_
                              exact ih x109 oH_102 oR oT oS oP oN oY oK oE oQ oC_103 mZ_105 mY mB mL mU_106 mJ_107 mK_108 mG mA mP mS mW mN mO hf (t + 1) (by rw [ex109, hi]; exact zLawN t) (by omega) aS aP bP bS _ H locs hP hD hS ls (lv_sub hl [1, 2, 3, 4, 0] rfl)
                            · replace hf := zIf_f hf hc
                              refine lv_iconst (v := 0) C.1.1 C.1.2.1 dL_law_526 (by decide) ?_
                              cases hf
                          · replace hf := zIf_f hf hk100
                            rcases Classical.em (x1 = 12) with hk110 | hk110
                            · replace hf := zIf_t hf hk110
                              refine lv_tableIn (off := 488) (tgt := 528) C.1.1 C.1.2.1 dL_law_40 (by rw [hk110] <;> decide +kernel) (by rw [hk110] <;> decide +kernel) (by rw [hk110] <;> decide +kernel) (by decide) ?_
                              refine lv_aload_n C.1.1 C.1.2.1 dL_law_528 rfl (lv_at hl 1 rfl) ?_
                              refine lv_aload_n C.1.1 C.1.2.1 dL_law_529 rfl (lv_at hl 0 rfl) ?_
                              refine lv_iload C.1.1 C.1.2.1 dL_law_530 (lv_at hl 4 rfl) ?_
                              refine lv_iconst (v := 1) C.1.1 C.1.2.1 dL_law_532 (by decide) ?_
                              refine lv_iadd C.1.1 C.1.2.1 dL_law_533 ?_
                              obtain ⟨hib, hf⟩ := zGd_el hf
                              refine va_sld C.1.1 C.1.2.1 hXs hbl hbA hS hib dL_law_534 ?_
                              refine lv_aload_n C.1.1 C.1.2.1 dL_law_535 rfl (lv_at hl 0 rfl) ?_
                              refine lv_iload C.1.1 C.1.2.1 dL_law_536 (lv_at hl 4 rfl) ?_
                              refine lv_iconst (v := 2) C.1.1 C.1.2.1 dL_law_538 (by decide) ?_
                              refine lv_iadd C.1.1 C.1.2.1 dL_law_539 ?_
                              obtain ⟨hib, hf⟩ := zGd_el hf
                              refine va_sld C.1.1 C.1.2.1 hXs hbl hbA hS hib dL_law_540 ?_
                              obtain ⟨v111, oH_112, oC_113, hg, hf⟩ := zB3_el hf
                              refine zLVi (As := [.int (xs (i + (1 : Int32)).toNatClampNeg), .int (xs (i + (2 : Int32)).toNatClampNeg)]) (rest := []) [kX7 cI cB aH (aR 0) (aM 0) (aE 0) (aC 0) (aP 0) oH, kX5 cI cB aR (aT 0) (aS 0) oR, kX6 cI cB aT oT, kX4 cI cB aS oS, kX4 cI cB aP oP, kX1 cI cB aM (aN 0) (aY 0) (aK 0), kA8 cI cB aN oN, kA8 cI cB aY oY, kX3 cI cB aK oK, kX2 cI cB aE (aQ 0) oE, kX3 cI cB aQ oQ, kX0 cI cB aC oC, kX10 cI cB bV (bP 0) (bS 0) (bW 0) (bN 0) (bO 0) mZ mY mB mL mU mJ mK mG mA, kX8 cI cB bP mP, kX8 cI cB bS mS, kX9 cI cB bW mW, kA8 cI cB bN mN, kA8 cI cB bO mO, kL cL aX f] [kX7 cI cB aH (aR 0) (aM 0) (aE 0) (aC 0) (aP 0) oH_112, kX5 cI cB aR (aT 0) (aS 0) oR, kX6 cI cB aT oT, kX4 cI cB aS oS, kX4 cI cB aP oP, kX1 cI cB aM (aN 0) (aY 0) (aK 0), kA8 cI cB aN oN, kA8 cI cB aY oY, kX3 cI cB aK oK, kX2 cI cB aE (aQ 0) oE, kX3 cI cB aQ oQ, kX0 cI cB aC oC_113, kX10 cI cB bV (bP 0) (bS 0) (bW 0) (bN 0) (bO 0) mZ mY mB mL mU mJ mK mG mA, kX8 cI cB bP mP, kX8 cI cB bS mS, kX9 cI cB bW mW, kA8 cI cB bN mN, kA8 cI cB bO mO, kL cL aX f] C.1 hK hA hP hD hS [0, 4, 9, 11] [1, 2, 3, 5, 6, 7, 8, 10, 12, 13, 14, 15, 16, 17, 18] 0 19 (mtX7_moves l dC dI cI cB aH aR aP aM aE aQ aC H.size NN oH oP oE oC (xs (i + (1 : Int32)).toNatClampNeg) (xs (i + (2 : Int32)).toNatClampNeg) hg) (zCwV 2 C.1 wlL_72 wiX7_moves ws_X7_moves wnX7 wkX7_moves rfl rfl (by decide +kernel) ⟨Nat.le_of_ble_eq_true rfl, Nat.le_of_ble_eq_true rfl⟩) rfl (by decide) rfl rfl rfl rfl rfl rfl rfl hl.1 (Nat.le_of_ble_eq_true rfl) dL_law_541 hcs rfl (fun H locs hP hD hS => ?_)
                              refine lv_aload_n C.1.1 C.1.2.1 dL_law_544 rfl (lv_at hl 2 rfl) ?_
                              refine lv_aload_n C.1.1 C.1.2.1 dL_law_545 rfl (lv_at hl 0 rfl) ?_
                              refine lv_iload C.1.1 C.1.2.1 dL_law_546 (lv_at hl 4 rfl) ?_
                              refine lv_iconst (v := 1) C.1.1 C.1.2.1 dL_law_548 (by decide) ?_
                              refine lv_iadd C.1.1 C.1.2.1 dL_law_549 ?_
                              obtain ⟨hib, hf⟩ := zGd_el hf
                              refine va_sld C.1.1 C.1.2.1 hXs hbl hbA hS hib dL_law_550 ?_
                              refine lv_aload_n C.1.1 C.1.2.1 dL_law_551 rfl (lv_at hl 0 rfl) ?_
                              refine lv_iload C.1.1 C.1.2.1 dL_law_552 (lv_at hl 4 rfl) ?_
                              refine lv_iconst (v := 2) C.1.1 C.1.2.1 dL_law_554 (by decide) ?_
                              refine lv_iadd C.1.1 C.1.2.1 dL_law_555 ?_
                              obtain ⟨hib, hf⟩ := zGd_el hf
                              refine va_sld C.1.1 C.1.2.1 hXs hbl hbA hS hib dL_law_556 ?_
                              obtain ⟨v114, mZ_115, mU_116, mJ_117, mK_118, hg, hf⟩ := zB5_el hf
                              refine zLVi (As := [.int (xs (i + (1 : Int32)).toNatClampNeg), .int (xs (i + (2 : Int32)).toNatClampNeg)]) (rest := [.int v111]) [kX7 cI cB aH (aR 0) (aM 0) (aE 0) (aC 0) (aP 0) oH_112, kX5 cI cB aR (aT 0) (aS 0) oR, kX6 cI cB aT oT, kX4 cI cB aS oS, kX4 cI cB aP oP, kX1 cI cB aM (aN 0) (aY 0) (aK 0), kA8 cI cB aN oN, kA8 cI cB aY oY, kX3 cI cB aK oK, kX2 cI cB aE (aQ 0) oE, kX3 cI cB aQ oQ, kX0 cI cB aC oC_113, kX10 cI cB bV (bP 0) (bS 0) (bW 0) (bN 0) (bO 0) mZ mY mB mL mU mJ mK mG mA, kX8 cI cB bP mP, kX8 cI cB bS mS, kX9 cI cB bW mW, kA8 cI cB bN mN, kA8 cI cB bO mO, kL cL aX f] [kX7 cI cB aH (aR 0) (aM 0) (aE 0) (aC 0) (aP 0) oH_112, kX5 cI cB aR (aT 0) (aS 0) oR, kX6 cI cB aT oT, kX4 cI cB aS oS, kX4 cI cB aP oP, kX1 cI cB aM (aN 0) (aY 0) (aK 0), kA8 cI cB aN oN, kA8 cI cB aY oY, kX3 cI cB aK oK, kX2 cI cB aE (aQ 0) oE, kX3 cI cB aQ oQ, kX0 cI cB aC oC_113, kX10 cI cB bV (bP 0) (bS 0) (bW 0) (bN 0) (bO 0) mZ_115 mY mB mL mU_116 mJ_117 mK_118 mG mA, kX8 cI cB bP mP, kX8 cI cB bS mS, kX9 cI cB bW mW, kA8 cI cB bN mN, kA8 cI cB bO mO, kL cL aX f] C.1 hK hA hP hD hS [12, 13] [0, 1, 2, 3, 4, 5, 6, 7, 8, 9, 10, 11, 14, 15, 16, 17, 18] 0 19 (mtX10_moves l dC dI cI cB bV bP bS bW bN bO H.size NN mZ mY mB mL mU mJ mK mG mA mP (xs (i + (1 : Int32)).toNatClampNeg) (xs (i + (2 : Int32)).toNatClampNeg) hg) (zCwV 2 C.1 wlL_75 wiX10_moves ws_X10_moves wnX10 wkX10_moves rfl rfl (by decide +kernel) ⟨Nat.le_of_ble_eq_true rfl, Nat.le_of_ble_eq_true rfl⟩) rfl (by decide) rfl rfl rfl rfl rfl rfl rfl hl.1 (Nat.le_of_ble_eq_true rfl) dL_law_557 hcs rfl (fun H locs hP hD hS => ?_)
                              refine lv_icmp_eq (tgt := 936) C.1.1 C.1.2.1 dL_law_560 (by decide) (fun hc => ?_) (fun hc => ?_)
                              · replace hf := zIf_t hf hc
                                obtain ⟨x119, ex119, hf⟩ := zLet_el hf
                                refine lv_iinc (v := x119) (lv' := [(4, .int x119), (0, .ref b), (1, .ref (aH 0)), (2, .ref (bV 0)), (3, .ref aX)]) C.1.1 C.1.2.1 dL_law_936 hl (k := 4) rfl (by rw [ex119]; rfl) (by decide) rfl (fun ls hl => ?_)
                                refine lv_goto (tgt := 23) C.1.1 C.1.2.1 dL_law_939 (by decide) ?_
                                refine W.widen (k := 89 + (t + 1)) (n := 42163 + 6 * (t + 1)) (by omega) (by omega) ?_
                                exact ih x119 oH_112 oR oT oS oP oN oY oK oE oQ oC_113 mZ_115 mY mB mL mU_116 mJ_117 mK_118 mG mA mP mS mW mN mO hf (t + 1) (by rw [ex119, hi]; exact zLawN t) (by omega) aS aP bP bS _ H locs hP hD hS ls (lv_sub hl [1, 2, 3, 4, 0] rfl)
                              · replace hf := zIf_f hf hc
                                refine lv_iconst (v := 0) C.1.1 C.1.2.1 dL_law_563 (by decide) ?_
                                cases hf
                            · replace hf := zIf_f hf hk110
                              rcases Classical.em (x1 = 13) with hk120 | hk120
                              · replace hf := zIf_t hf hk120
                                refine lv_tableIn (off := 525) (tgt := 565) C.1.1 C.1.2.1 dL_law_40 (by rw [hk120] <;> decide +kernel) (by rw [hk120] <;> decide +kernel) (by rw [hk120] <;> decide +kernel) (by decide) ?_
                                refine lv_aload_n C.1.1 C.1.2.1 dL_law_565 rfl (lv_at hl 1 rfl) ?_
                                refine lv_aload_n C.1.1 C.1.2.1 dL_law_566 rfl (lv_at hl 0 rfl) ?_
                                refine lv_iload C.1.1 C.1.2.1 dL_law_567 (lv_at hl 4 rfl) ?_
                                refine lv_iconst (v := 1) C.1.1 C.1.2.1 dL_law_569 (by decide) ?_
                                refine lv_iadd C.1.1 C.1.2.1 dL_law_570 ?_
                                obtain ⟨hib, hf⟩ := zGd_el hf
                                refine va_sld C.1.1 C.1.2.1 hXs hbl hbA hS hib dL_law_571 ?_
                                obtain ⟨v121, oH_122, oC_123, hg, hf⟩ := zB3_el hf
                                refine zLVi (As := [.int (xs (i + (1 : Int32)).toNatClampNeg)]) (rest := []) [kX7 cI cB aH (aR 0) (aM 0) (aE 0) (aC 0) (aP 0) oH, kX5 cI cB aR (aT 0) (aS 0) oR, kX6 cI cB aT oT, kX4 cI cB aS oS, kX4 cI cB aP oP, kX1 cI cB aM (aN 0) (aY 0) (aK 0), kA8 cI cB aN oN, kA8 cI cB aY oY, kX3 cI cB aK oK, kX2 cI cB aE (aQ 0) oE, kX3 cI cB aQ oQ, kX0 cI cB aC oC, kX10 cI cB bV (bP 0) (bS 0) (bW 0) (bN 0) (bO 0) mZ mY mB mL mU mJ mK mG mA, kX8 cI cB bP mP, kX8 cI cB bS mS, kX9 cI cB bW mW, kA8 cI cB bN mN, kA8 cI cB bO mO, kL cL aX f] [kX7 cI cB aH (aR 0) (aM 0) (aE 0) (aC 0) (aP 0) oH_122, kX5 cI cB aR (aT 0) (aS 0) oR, kX6 cI cB aT oT, kX4 cI cB aS oS, kX4 cI cB aP oP, kX1 cI cB aM (aN 0) (aY 0) (aK 0), kA8 cI cB aN oN, kA8 cI cB aY oY, kX3 cI cB aK oK, kX2 cI cB aE (aQ 0) oE, kX3 cI cB aQ oQ, kX0 cI cB aC oC_123, kX10 cI cB bV (bP 0) (bS 0) (bW 0) (bN 0) (bO 0) mZ mY mB mL mU mJ mK mG mA, kX8 cI cB bP mP, kX8 cI cB bS mS, kX9 cI cB bW mW, kA8 cI cB bN mN, kA8 cI cB bO mO, kL cL aX f] C.1 hK hA hP hD hS [0, 4, 9, 11] [1, 2, 3, 5, 6, 7, 8, 10, 12, 13, 14, 15, 16, 17, 18] 0 19 (mtX7_quickest l dC dI cI cB aH aR aP aM aE aQ aC H.size NN oH oP oE oC (xs (i + (1 : Int32)).toNatClampNeg) hg) (zCwV 1 C.1 wlL_76 wiX7_quickest ws_X7_quickest wnX7 wkX7_quickest rfl rfl (by decide +kernel) ⟨Nat.le_of_ble_eq_true rfl, Nat.le_of_ble_eq_true rfl⟩) rfl (by decide) rfl rfl rfl rfl rfl rfl rfl hl.1 (Nat.le_of_ble_eq_true rfl) dL_law_572 hcs rfl (fun H locs hP hD hS => ?_)
                                refine lv_aload_n C.1.1 C.1.2.1 dL_law_575 rfl (lv_at hl 2 rfl) ?_
                                refine lv_aload_n C.1.1 C.1.2.1 dL_law_576 rfl (lv_at hl 0 rfl) ?_
                                refine lv_iload C.1.1 C.1.2.1 dL_law_577 (lv_at hl 4 rfl) ?_
                                refine lv_iconst (v := 1) C.1.1 C.1.2.1 dL_law_579 (by decide) ?_
                                refine lv_iadd C.1.1 C.1.2.1 dL_law_580 ?_
                                obtain ⟨hib, hf⟩ := zGd_el hf
                                refine va_sld C.1.1 C.1.2.1 hXs hbl hbA hS hib dL_law_581 ?_
                                obtain ⟨v124, mZ_125, mU_126, mJ_127, mK_128, hg, hf⟩ := zB5_el hf
                                refine zLVi (As := [.int (xs (i + (1 : Int32)).toNatClampNeg)]) (rest := [.int v121]) [kX7 cI cB aH (aR 0) (aM 0) (aE 0) (aC 0) (aP 0) oH_122, kX5 cI cB aR (aT 0) (aS 0) oR, kX6 cI cB aT oT, kX4 cI cB aS oS, kX4 cI cB aP oP, kX1 cI cB aM (aN 0) (aY 0) (aK 0), kA8 cI cB aN oN, kA8 cI cB aY oY, kX3 cI cB aK oK, kX2 cI cB aE (aQ 0) oE, kX3 cI cB aQ oQ, kX0 cI cB aC oC_123, kX10 cI cB bV (bP 0) (bS 0) (bW 0) (bN 0) (bO 0) mZ mY mB mL mU mJ mK mG mA, kX8 cI cB bP mP, kX8 cI cB bS mS, kX9 cI cB bW mW, kA8 cI cB bN mN, kA8 cI cB bO mO, kL cL aX f] [kX7 cI cB aH (aR 0) (aM 0) (aE 0) (aC 0) (aP 0) oH_122, kX5 cI cB aR (aT 0) (aS 0) oR, kX6 cI cB aT oT, kX4 cI cB aS oS, kX4 cI cB aP oP, kX1 cI cB aM (aN 0) (aY 0) (aK 0), kA8 cI cB aN oN, kA8 cI cB aY oY, kX3 cI cB aK oK, kX2 cI cB aE (aQ 0) oE, kX3 cI cB aQ oQ, kX0 cI cB aC oC_123, kX10 cI cB bV (bP 0) (bS 0) (bW 0) (bN 0) (bO 0) mZ_125 mY mB mL mU_126 mJ_127 mK_128 mG mA, kX8 cI cB bP mP, kX8 cI cB bS mS, kX9 cI cB bW mW, kA8 cI cB bN mN, kA8 cI cB bO mO, kL cL aX f] C.1 hK hA hP hD hS [12, 13] [0, 1, 2, 3, 4, 5, 6, 7, 8, 9, 10, 11, 14, 15, 16, 17, 18] 0 19 (mtX10_quickest l dC dI cI cB bV bP bS bW bN bO H.size NN mZ mY mB mL mU mJ mK mG mA mP (xs (i + (1 : Int32)).toNatClampNeg) hg) (zCwV 1 C.1 wlL_79 wiX10_quickest ws_X10_quickest wnX10 wkX10_quickest rfl rfl (by decide +kernel) ⟨Nat.le_of_ble_eq_true rfl, Nat.le_of_ble_eq_true rfl⟩) rfl (by decide) rfl rfl rfl rfl rfl rfl rfl hl.1 (Nat.le_of_ble_eq_true rfl) dL_law_582 hcs rfl (fun H locs hP hD hS => ?_)
                                refine lv_icmp_eq (tgt := 936) C.1.1 C.1.2.1 dL_law_585 (by decide) (fun hc => ?_) (fun hc => ?_)
                                · replace hf := zIf_t hf hc
                                  obtain ⟨x129, ex129, hf⟩ := zLet_el hf
                                  refine lv_iinc (v := x129) (lv' := [(4, .int x129), (0, .ref b), (1, .ref (aH 0)), (2, .ref (bV 0)), (3, .ref aX)]) C.1.1 C.1.2.1 dL_law_936 hl (k := 4) rfl (by rw [ex129]; rfl) (by decide) rfl (fun ls hl => ?_)
                                  refine lv_goto (tgt := 23) C.1.1 C.1.2.1 dL_law_939 (by decide) ?_
                                  refine W.widen (k := 89 + (t + 1)) (n := 42163 + 6 * (t + 1)) (by omega) (by omega) ?_
                                  exact ih x129 oH_122 oR oT oS oP oN oY oK oE oQ oC_123 mZ_125 mY mB mL mU_126 mJ_127 mK_128 mG mA mP mS mW mN mO hf (t + 1) (by rw [ex129, hi]; exact zLawN t) (by omega) aS aP bP bS _ H locs hP hD hS ls (lv_sub hl [1, 2, 3, 4, 0] rfl)
                                · replace hf := zIf_f hf hc
                                  refine lv_iconst (v := 0) C.1.1 C.1.2.1 dL_law_588 (by decide) ?_
                                  cases hf
                              · replace hf := zIf_f hf hk120
                                rcases Classical.em (x1 = 14) with hk130 | hk130
                                · replace hf := zIf_t hf hk130
                                  refine lv_tableIn (off := 550) (tgt := 590) C.1.1 C.1.2.1 dL_law_40 (by rw [hk130] <;> decide +kernel) (by rw [hk130] <;> decide +kernel) (by rw [hk130] <;> decide +kernel) (by decide) ?_
                                  refine lv_aload_n C.1.1 C.1.2.1 dL_law_590 rfl (lv_at hl 1 rfl) ?_
                                  refine lv_aload_n C.1.1 C.1.2.1 dL_law_591 rfl (lv_at hl 0 rfl) ?_
                                  refine lv_iload C.1.1 C.1.2.1 dL_law_592 (lv_at hl 4 rfl) ?_
                                  refine lv_iconst (v := 1) C.1.1 C.1.2.1 dL_law_594 (by decide) ?_
                                  refine lv_iadd C.1.1 C.1.2.1 dL_law_595 ?_
                                  obtain ⟨hib, hf⟩ := zGd_el hf
                                  refine va_sld C.1.1 C.1.2.1 hXs hbl hbA hS hib dL_law_596 ?_
                                  obtain ⟨v131, oH_132, oC_133, hg, hf⟩ := zB3_el hf
                                  refine zLVi (As := [.int (xs (i + (1 : Int32)).toNatClampNeg)]) (rest := []) [kX7 cI cB aH (aR 0) (aM 0) (aE 0) (aC 0) (aP 0) oH, kX5 cI cB aR (aT 0) (aS 0) oR, kX6 cI cB aT oT, kX4 cI cB aS oS, kX4 cI cB aP oP, kX1 cI cB aM (aN 0) (aY 0) (aK 0), kA8 cI cB aN oN, kA8 cI cB aY oY, kX3 cI cB aK oK, kX2 cI cB aE (aQ 0) oE, kX3 cI cB aQ oQ, kX0 cI cB aC oC, kX10 cI cB bV (bP 0) (bS 0) (bW 0) (bN 0) (bO 0) mZ mY mB mL mU mJ mK mG mA, kX8 cI cB bP mP, kX8 cI cB bS mS, kX9 cI cB bW mW, kA8 cI cB bN mN, kA8 cI cB bO mO, kL cL aX f] [kX7 cI cB aH (aR 0) (aM 0) (aE 0) (aC 0) (aP 0) oH_132, kX5 cI cB aR (aT 0) (aS 0) oR, kX6 cI cB aT oT, kX4 cI cB aS oS, kX4 cI cB aP oP, kX1 cI cB aM (aN 0) (aY 0) (aK 0), kA8 cI cB aN oN, kA8 cI cB aY oY, kX3 cI cB aK oK, kX2 cI cB aE (aQ 0) oE, kX3 cI cB aQ oQ, kX0 cI cB aC oC_133, kX10 cI cB bV (bP 0) (bS 0) (bW 0) (bN 0) (bO 0) mZ mY mB mL mU mJ mK mG mA, kX8 cI cB bP mP, kX8 cI cB bS mS, kX9 cI cB bW mW, kA8 cI cB bN mN, kA8 cI cB bO mO, kL cL aX f] C.1 hK hA hP hD hS [0, 4, 9, 11] [1, 2, 3, 5, 6, 7, 8, 10, 12, 13, 14, 15, 16, 17, 18] 0 19 (mtX7_fewest l dC dI cI cB aH aR aP aM aE aQ aC H.size NN oH oP oE oC (xs (i + (1 : Int32)).toNatClampNeg) hg) (zCwV 1 C.1 wlL_80 wiX7_fewest ws_X7_fewest wnX7 wkX7_fewest rfl rfl (by decide +kernel) ⟨Nat.le_of_ble_eq_true rfl, Nat.le_of_ble_eq_true rfl⟩) rfl (by decide) rfl rfl rfl rfl rfl rfl rfl hl.1 (Nat.le_of_ble_eq_true rfl) dL_law_597 hcs rfl (fun H locs hP hD hS => ?_)
                                  refine lv_aload_n C.1.1 C.1.2.1 dL_law_600 rfl (lv_at hl 2 rfl) ?_
                                  refine lv_aload_n C.1.1 C.1.2.1 dL_law_601 rfl (lv_at hl 0 rfl) ?_
                                  refine lv_iload C.1.1 C.1.2.1 dL_law_602 (lv_at hl 4 rfl) ?_
                                  refine lv_iconst (v := 1) C.1.1 C.1.2.1 dL_law_604 (by decide) ?_
                                  refine lv_iadd C.1.1 C.1.2.1 dL_law_605 ?_
                                  obtain ⟨hib, hf⟩ := zGd_el hf
                                  refine va_sld C.1.1 C.1.2.1 hXs hbl hbA hS hib dL_law_606 ?_
                                  obtain ⟨v134, mZ_135, mU_136, mJ_137, mK_138, hg, hf⟩ := zB5_el hf
                                  refine zLVi (As := [.int (xs (i + (1 : Int32)).toNatClampNeg)]) (rest := [.int v131]) [kX7 cI cB aH (aR 0) (aM 0) (aE 0) (aC 0) (aP 0) oH_132, kX5 cI cB aR (aT 0) (aS 0) oR, kX6 cI cB aT oT, kX4 cI cB aS oS, kX4 cI cB aP oP, kX1 cI cB aM (aN 0) (aY 0) (aK 0), kA8 cI cB aN oN, kA8 cI cB aY oY, kX3 cI cB aK oK, kX2 cI cB aE (aQ 0) oE, kX3 cI cB aQ oQ, kX0 cI cB aC oC_133, kX10 cI cB bV (bP 0) (bS 0) (bW 0) (bN 0) (bO 0) mZ mY mB mL mU mJ mK mG mA, kX8 cI cB bP mP, kX8 cI cB bS mS, kX9 cI cB bW mW, kA8 cI cB bN mN, kA8 cI cB bO mO, kL cL aX f] [kX7 cI cB aH (aR 0) (aM 0) (aE 0) (aC 0) (aP 0) oH_132, kX5 cI cB aR (aT 0) (aS 0) oR, kX6 cI cB aT oT, kX4 cI cB aS oS, kX4 cI cB aP oP, kX1 cI cB aM (aN 0) (aY 0) (aK 0), kA8 cI cB aN oN, kA8 cI cB aY oY, kX3 cI cB aK oK, kX2 cI cB aE (aQ 0) oE, kX3 cI cB aQ oQ, kX0 cI cB aC oC_133, kX10 cI cB bV (bP 0) (bS 0) (bW 0) (bN 0) (bO 0) mZ_135 mY mB mL mU_136 mJ_137 mK_138 mG mA, kX8 cI cB bP mP, kX8 cI cB bS mS, kX9 cI cB bW mW, kA8 cI cB bN mN, kA8 cI cB bO mO, kL cL aX f] C.1 hK hA hP hD hS [12, 13] [0, 1, 2, 3, 4, 5, 6, 7, 8, 9, 10, 11, 14, 15, 16, 17, 18] 0 19 (mtX10_fewest l dC dI cI cB bV bP bS bW bN bO H.size NN mZ mY mB mL mU mJ mK mG mA mP (xs (i + (1 : Int32)).toNatClampNeg) hg) (zCwV 1 C.1 wlL_83 wiX10_fewest ws_X10_fewest wnX10 wkX10_fewest rfl rfl (by decide +kernel) ⟨Nat.le_of_ble_eq_true rfl, Nat.le_of_ble_eq_true rfl⟩) rfl (by decide) rfl rfl rfl rfl rfl rfl rfl hl.1 (Nat.le_of_ble_eq_true rfl) dL_law_607 hcs rfl (fun H locs hP hD hS => ?_)
                                  refine lv_icmp_eq (tgt := 936) C.1.1 C.1.2.1 dL_law_610 (by decide) (fun hc => ?_) (fun hc => ?_)
                                  · replace hf := zIf_t hf hc
                                    obtain ⟨x139, ex139, hf⟩ := zLet_el hf
                                    refine lv_iinc (v := x139) (lv' := [(4, .int x139), (0, .ref b), (1, .ref (aH 0)), (2, .ref (bV 0)), (3, .ref aX)]) C.1.1 C.1.2.1 dL_law_936 hl (k := 4) rfl (by rw [ex139]; rfl) (by decide) rfl (fun ls hl => ?_)
                                    refine lv_goto (tgt := 23) C.1.1 C.1.2.1 dL_law_939 (by decide) ?_
                                    refine W.widen (k := 89 + (t + 1)) (n := 42163 + 6 * (t + 1)) (by omega) (by omega) ?_
                                    exact ih x139 oH_132 oR oT oS oP oN oY oK oE oQ oC_133 mZ_135 mY mB mL mU_136 mJ_137 mK_138 mG mA mP mS mW mN mO hf (t + 1) (by rw [ex139, hi]; exact zLawN t) (by omega) aS aP bP bS _ H locs hP hD hS ls (lv_sub hl [1, 2, 3, 4, 0] rfl)
                                  · replace hf := zIf_f hf hc
                                    refine lv_iconst (v := 0) C.1.1 C.1.2.1 dL_law_613 (by decide) ?_
                                    cases hf
                                · replace hf := zIf_f hf hk130
                                  rcases Classical.em (x1 = 15) with hk140 | hk140
                                  · replace hf := zIf_t hf hk140
                                    refine lv_tableIn (off := 575) (tgt := 615) C.1.1 C.1.2.1 dL_law_40 (by rw [hk140] <;> decide +kernel) (by rw [hk140] <;> decide +kernel) (by rw [hk140] <;> decide +kernel) (by decide) ?_
                                    refine lv_aload_n C.1.1 C.1.2.1 dL_law_615 rfl (lv_at hl 1 rfl) ?_
                                    refine lv_aload_n C.1.1 C.1.2.1 dL_law_616 rfl (lv_at hl 0 rfl) ?_
                                    refine lv_iload C.1.1 C.1.2.1 dL_law_617 (lv_at hl 4 rfl) ?_
                                    refine lv_iconst (v := 1) C.1.1 C.1.2.1 dL_law_619 (by decide) ?_
                                    refine lv_iadd C.1.1 C.1.2.1 dL_law_620 ?_
                                    obtain ⟨hib, hf⟩ := zGd_el hf
                                    refine va_sld C.1.1 C.1.2.1 hXs hbl hbA hS hib dL_law_621 ?_
                                    refine lv_aload_n C.1.1 C.1.2.1 dL_law_622 rfl (lv_at hl 0 rfl) ?_
                                    refine lv_iload C.1.1 C.1.2.1 dL_law_623 (lv_at hl 4 rfl) ?_
                                    refine lv_iconst (v := 2) C.1.1 C.1.2.1 dL_law_625 (by decide) ?_
                                    refine lv_iadd C.1.1 C.1.2.1 dL_law_626 ?_
                                    obtain ⟨hib, hf⟩ := zGd_el hf
                                    refine va_sld C.1.1 C.1.2.1 hXs hbl hbA hS hib dL_law_627 ?_
                                    obtain ⟨v141, oH_142, oC_143, hg, hf⟩ := zB3_el hf
                                    refine zLVi (As := [.int (xs (i + (1 : Int32)).toNatClampNeg), .int (xs (i + (2 : Int32)).toNatClampNeg)]) (rest := []) [kX7 cI cB aH (aR 0) (aM 0) (aE 0) (aC 0) (aP 0) oH, kX5 cI cB aR (aT 0) (aS 0) oR, kX6 cI cB aT oT, kX4 cI cB aS oS, kX4 cI cB aP oP, kX1 cI cB aM (aN 0) (aY 0) (aK 0), kA8 cI cB aN oN, kA8 cI cB aY oY, kX3 cI cB aK oK, kX2 cI cB aE (aQ 0) oE, kX3 cI cB aQ oQ, kX0 cI cB aC oC, kX10 cI cB bV (bP 0) (bS 0) (bW 0) (bN 0) (bO 0) mZ mY mB mL mU mJ mK mG mA, kX8 cI cB bP mP, kX8 cI cB bS mS, kX9 cI cB bW mW, kA8 cI cB bN mN, kA8 cI cB bO mO, kL cL aX f] [kX7 cI cB aH (aR 0) (aM 0) (aE 0) (aC 0) (aP 0) oH_142, kX5 cI cB aR (aT 0) (aS 0) oR, kX6 cI cB aT oT, kX4 cI cB aS oS, kX4 cI cB aP oP, kX1 cI cB aM (aN 0) (aY 0) (aK 0), kA8 cI cB aN oN, kA8 cI cB aY oY, kX3 cI cB aK oK, kX2 cI cB aE (aQ 0) oE, kX3 cI cB aQ oQ, kX0 cI cB aC oC_143, kX10 cI cB bV (bP 0) (bS 0) (bW 0) (bN 0) (bO 0) mZ mY mB mL mU mJ mK mG mA, kX8 cI cB bP mP, kX8 cI cB bS mS, kX9 cI cB bW mW, kA8 cI cB bN mN, kA8 cI cB bO mO, kL cL aX f] C.1 hK hA hP hD hS [0, 4, 9, 11] [1, 2, 3, 5, 6, 7, 8, 10, 12, 13, 14, 15, 16, 17, 18] 0 19 (mtX7_turn l dC dI cI cB aH aR aP aM aE aQ aC H.size NN oH oP oE oC (xs (i + (1 : Int32)).toNatClampNeg) (xs (i + (2 : Int32)).toNatClampNeg) hg) (zCwV 2 C.1 wlL_84 wiX7_turn ws_X7_turn wnX7 wkX7_turn rfl rfl (by decide +kernel) ⟨Nat.le_of_ble_eq_true rfl, Nat.le_of_ble_eq_true rfl⟩) rfl (by decide) rfl rfl rfl rfl rfl rfl rfl hl.1 (Nat.le_of_ble_eq_true rfl) dL_law_628 hcs rfl (fun H locs hP hD hS => ?_)
                                    refine lv_aload_n C.1.1 C.1.2.1 dL_law_631 rfl (lv_at hl 2 rfl) ?_
                                    refine lv_aload_n C.1.1 C.1.2.1 dL_law_632 rfl (lv_at hl 0 rfl) ?_
                                    refine lv_iload C.1.1 C.1.2.1 dL_law_633 (lv_at hl 4 rfl) ?_
                                    refine lv_iconst (v := 1) C.1.1 C.1.2.1 dL_law_635 (by decide) ?_
                                    refine lv_iadd C.1.1 C.1.2.1 dL_law_636 ?_
                                    obtain ⟨hib, hf⟩ := zGd_el hf
                                    refine va_sld C.1.1 C.1.2.1 hXs hbl hbA hS hib dL_law_637 ?_
                                    refine lv_aload_n C.1.1 C.1.2.1 dL_law_638 rfl (lv_at hl 0 rfl) ?_
                                    refine lv_iload C.1.1 C.1.2.1 dL_law_639 (lv_at hl 4 rfl) ?_
                                    refine lv_iconst (v := 2) C.1.1 C.1.2.1 dL_law_641 (by decide) ?_
                                    refine lv_iadd C.1.1 C.1.2.1 dL_law_642 ?_
                                    obtain ⟨hib, hf⟩ := zGd_el hf
                                    refine va_sld C.1.1 C.1.2.1 hXs hbl hbA hS hib dL_law_643 ?_
                                    obtain ⟨v144, mZ_145, mU_146, mJ_147, mK_148, hg, hf⟩ := zB5_el hf
                                    refine zLVi (As := [.int (xs (i + (1 : Int32)).toNatClampNeg), .int (xs (i + (2 : Int32)).toNatClampNeg)]) (rest := [.int v141]) [kX7 cI cB aH (aR 0) (aM 0) (aE 0) (aC 0) (aP 0) oH_142, kX5 cI cB aR (aT 0) (aS 0) oR, kX6 cI cB aT oT, kX4 cI cB aS oS, kX4 cI cB aP oP, kX1 cI cB aM (aN 0) (aY 0) (aK 0), kA8 cI cB aN oN, kA8 cI cB aY oY, kX3 cI cB aK oK, kX2 cI cB aE (aQ 0) oE, kX3 cI cB aQ oQ, kX0 cI cB aC oC_143, kX10 cI cB bV (bP 0) (bS 0) (bW 0) (bN 0) (bO 0) mZ mY mB mL mU mJ mK mG mA, kX8 cI cB bP mP, kX8 cI cB bS mS, kX9 cI cB bW mW, kA8 cI cB bN mN, kA8 cI cB bO mO, kL cL aX f] [kX7 cI cB aH (aR 0) (aM 0) (aE 0) (aC 0) (aP 0) oH_142, kX5 cI cB aR (aT 0) (aS 0) oR, kX6 cI cB aT oT, kX4 cI cB aS oS, kX4 cI cB aP oP, kX1 cI cB aM (aN 0) (aY 0) (aK 0), kA8 cI cB aN oN, kA8 cI cB aY oY, kX3 cI cB aK oK, kX2 cI cB aE (aQ 0) oE, kX3 cI cB aQ oQ, kX0 cI cB aC oC_143, kX10 cI cB bV (bP 0) (bS 0) (bW 0) (bN 0) (bO 0) mZ_145 mY mB mL mU_146 mJ_147 mK_148 mG mA, kX8 cI cB bP mP, kX8 cI cB bS mS, kX9 cI cB bW mW, kA8 cI cB bN mN, kA8 cI cB bO mO, kL cL aX f] C.1 hK hA hP hD hS [12, 13] [0, 1, 2, 3, 4, 5, 6, 7, 8, 9, 10, 11, 14, 15, 16, 17, 18] 0 19 (mtX10_turn l dC dI cI cB bV bP bS bW bN bO H.size NN mZ mY mB mL mU mJ mK mG mA mP (xs (i + (1 : Int32)).toNatClampNeg) (xs (i + (2 : Int32)).toNatClampNeg) hg) (zCwV 2 C.1 wlL_87 wiX10_turn ws_X10_turn wnX10 wkX10_turn rfl rfl (by decide +kernel) ⟨Nat.le_of_ble_eq_true rfl, Nat.le_of_ble_eq_true rfl⟩) rfl (by decide) rfl rfl rfl rfl rfl rfl rfl hl.1 (Nat.le_of_ble_eq_true rfl) dL_law_644 hcs rfl (fun H locs hP hD hS => ?_)
                                    refine lv_icmp_eq (tgt := 936) C.1.1 C.1.2.1 dL_law_647 (by decide) (fun hc => ?_) (fun hc => ?_)
                                    · replace hf := zIf_t hf hc
                                      obtain ⟨x149, ex149, hf⟩ := zLet_el hf
                                      refine lv_iinc (v := x149) (lv' := [(4, .int x149), (0, .ref b), (1, .ref (aH 0)), (2, .ref (bV 0)), (3, .ref aX)]) C.1.1 C.1.2.1 dL_law_936 hl (k := 4) rfl (by rw [ex149]; rfl) (by decide) rfl (fun ls hl => ?_)
                                      refine lv_goto (tgt := 23) C.1.1 C.1.2.1 dL_law_939 (by decide) ?_
                                      refine W.widen (k := 89 + (t + 1)) (n := 42163 + 6 * (t + 1)) (by omega) (by omega) ?_
                                      exact ih x149 oH_142 oR oT oS oP oN oY oK oE oQ oC_143 mZ_145 mY mB mL mU_146 mJ_147 mK_148 mG mA mP mS mW mN mO hf (t + 1) (by rw [ex149, hi]; exact zLawN t) (by omega) aS aP bP bS _ H locs hP hD hS ls (lv_sub hl [1, 2, 3, 4, 0] rfl)
                                    · replace hf := zIf_f hf hc
                                      refine lv_iconst (v := 0) C.1.1 C.1.2.1 dL_law_650 (by decide) ?_
                                      cases hf
                                  · replace hf := zIf_f hf hk140
                                    rcases Classical.em (x1 = 16) with hk150 | hk150
                                    · replace hf := zIf_t hf hk150
                                      refine lv_tableIn (off := 612) (tgt := 652) C.1.1 C.1.2.1 dL_law_40 (by rw [hk150] <;> decide +kernel) (by rw [hk150] <;> decide +kernel) (by rw [hk150] <;> decide +kernel) (by decide) ?_
                                      refine lv_aload_n C.1.1 C.1.2.1 dL_law_652 rfl (lv_at hl 1 rfl) ?_
                                      obtain ⟨v151, oH_152, oC_153, hg, hf⟩ := zB3_el hf
                                      refine zLVi (As := []) (rest := []) [kX7 cI cB aH (aR 0) (aM 0) (aE 0) (aC 0) (aP 0) oH, kX5 cI cB aR (aT 0) (aS 0) oR, kX6 cI cB aT oT, kX4 cI cB aS oS, kX4 cI cB aP oP, kX1 cI cB aM (aN 0) (aY 0) (aK 0), kA8 cI cB aN oN, kA8 cI cB aY oY, kX3 cI cB aK oK, kX2 cI cB aE (aQ 0) oE, kX3 cI cB aQ oQ, kX0 cI cB aC oC, kX10 cI cB bV (bP 0) (bS 0) (bW 0) (bN 0) (bO 0) mZ mY mB mL mU mJ mK mG mA, kX8 cI cB bP mP, kX8 cI cB bS mS, kX9 cI cB bW mW, kA8 cI cB bN mN, kA8 cI cB bO mO, kL cL aX f] [kX7 cI cB aH (aR 0) (aM 0) (aE 0) (aC 0) (aP 0) oH_152, kX5 cI cB aR (aT 0) (aS 0) oR, kX6 cI cB aT oT, kX4 cI cB aS oS, kX4 cI cB aP oP, kX1 cI cB aM (aN 0) (aY 0) (aK 0), kA8 cI cB aN oN, kA8 cI cB aY oY, kX3 cI cB aK oK, kX2 cI cB aE (aQ 0) oE, kX3 cI cB aQ oQ, kX0 cI cB aC oC_153, kX10 cI cB bV (bP 0) (bS 0) (bW 0) (bN 0) (bO 0) mZ mY mB mL mU mJ mK mG mA, kX8 cI cB bP mP, kX8 cI cB bS mS, kX9 cI cB bW mW, kA8 cI cB bN mN, kA8 cI cB bO mO, kL cL aX f] C.1 hK hA hP hD hS [0, 4, 9, 11] [1, 2, 3, 5, 6, 7, 8, 10, 12, 13, 14, 15, 16, 17, 18] 0 19 (mtX7_edges l dC dI cI cB aH aR aP aM aE aQ aC H.size NN oH oP oE oC hg) (zCwV 0 C.1 wlL_88 wiX7_edges ws_X7_edges wnX7 wkX7_edges rfl rfl (by decide +kernel) ⟨Nat.le_of_ble_eq_true rfl, Nat.le_of_ble_eq_true rfl⟩) rfl (by decide) rfl rfl rfl rfl rfl rfl rfl hl.1 (Nat.le_of_ble_eq_true rfl) dL_law_653 hcs rfl (fun H locs hP hD hS => ?_)
                                      refine lv_aload_n C.1.1 C.1.2.1 dL_law_656 rfl (lv_at hl 2 rfl) ?_
                                      obtain ⟨v154, mZ_155, mU_156, mJ_157, mK_158, mG_159, mA_160, hg, hf⟩ := zB7_el hf
                                      refine zLVi (As := []) (rest := [.int v151]) [kX7 cI cB aH (aR 0) (aM 0) (aE 0) (aC 0) (aP 0) oH_152, kX5 cI cB aR (aT 0) (aS 0) oR, kX6 cI cB aT oT, kX4 cI cB aS oS, kX4 cI cB aP oP, kX1 cI cB aM (aN 0) (aY 0) (aK 0), kA8 cI cB aN oN, kA8 cI cB aY oY, kX3 cI cB aK oK, kX2 cI cB aE (aQ 0) oE, kX3 cI cB aQ oQ, kX0 cI cB aC oC_153, kX10 cI cB bV (bP 0) (bS 0) (bW 0) (bN 0) (bO 0) mZ mY mB mL mU mJ mK mG mA, kX8 cI cB bP mP, kX8 cI cB bS mS, kX9 cI cB bW mW, kA8 cI cB bN mN, kA8 cI cB bO mO, kL cL aX f] [kX7 cI cB aH (aR 0) (aM 0) (aE 0) (aC 0) (aP 0) oH_152, kX5 cI cB aR (aT 0) (aS 0) oR, kX6 cI cB aT oT, kX4 cI cB aS oS, kX4 cI cB aP oP, kX1 cI cB aM (aN 0) (aY 0) (aK 0), kA8 cI cB aN oN, kA8 cI cB aY oY, kX3 cI cB aK oK, kX2 cI cB aE (aQ 0) oE, kX3 cI cB aQ oQ, kX0 cI cB aC oC_153, kX10 cI cB bV (bP 0) (bS 0) (bW 0) (bN 0) (bO 0) mZ_155 mY mB mL mU_156 mJ_157 mK_158 mG_159 mA_160, kX8 cI cB bP mP, kX8 cI cB bS mS, kX9 cI cB bW mW, kA8 cI cB bN mN, kA8 cI cB bO mO, kL cL aX f] C.1 hK hA hP hD hS [12, 13] [0, 1, 2, 3, 4, 5, 6, 7, 8, 9, 10, 11, 14, 15, 16, 17, 18] 0 19 (mtX10_edges l dC dI cI cB bV bP bS bW bN bO H.size NN mZ mY mB mL mU mJ mK mG mA mP hg) (zCwV 0 C.1 wlL_91 wiX10_edges ws_X10_edges wnX10 wkX10_edges rfl rfl (by decide +kernel) ⟨Nat.le_of_ble_eq_true rfl, Nat.le_of_ble_eq_true rfl⟩) rfl (by decide) rfl rfl rfl rfl rfl rfl rfl hl.1 (Nat.le_of_ble_eq_true rfl) dL_law_657 hcs rfl (fun H locs hP hD hS => ?_)
                                      refine lv_icmp_eq (tgt := 936) C.1.1 C.1.2.1 dL_law_660 (by decide) (fun hc => ?_) (fun hc => ?_)
                                      · replace hf := zIf_t hf hc
                                        obtain ⟨x161, ex161, hf⟩ := zLet_el hf
                                        refine lv_iinc (v := x161) (lv' := [(4, .int x161), (0, .ref b), (1, .ref (aH 0)), (2, .ref (bV 0)), (3, .ref aX)]) C.1.1 C.1.2.1 dL_law_936 hl (k := 4) rfl (by rw [ex161]; rfl) (by decide) rfl (fun ls hl => ?_)
                                        refine lv_goto (tgt := 23) C.1.1 C.1.2.1 dL_law_939 (by decide) ?_
                                        refine W.widen (k := 89 + (t + 1)) (n := 42163 + 6 * (t + 1)) (by omega) (by omega) ?_
                                        exact ih x161 oH_152 oR oT oS oP oN oY oK oE oQ oC_153 mZ_155 mY mB mL mU_156 mJ_157 mK_158 mG_159 mA_160 mP mS mW mN mO hf (t + 1) (by rw [ex161, hi]; exact zLawN t) (by omega) aS aP bP bS _ H locs hP hD hS ls (lv_sub hl [1, 2, 3, 4, 0] rfl)
                                      · replace hf := zIf_f hf hc
                                        refine lv_iconst (v := 0) C.1.1 C.1.2.1 dL_law_663 (by decide) ?_
                                        cases hf
                                    · replace hf := zIf_f hf hk150
                                      rcases Classical.em (x1 = 17) with hk162 | hk162
                                      · replace hf := zIf_t hf hk162
                                        refine lv_tableIn (off := 625) (tgt := 665) C.1.1 C.1.2.1 dL_law_40 (by rw [hk162] <;> decide +kernel) (by rw [hk162] <;> decide +kernel) (by rw [hk162] <;> decide +kernel) (by decide) ?_
                                        refine lv_aload_n C.1.1 C.1.2.1 dL_law_665 rfl (lv_at hl 1 rfl) ?_
                                        refine lv_aload_n C.1.1 C.1.2.1 dL_law_666 rfl (lv_at hl 0 rfl) ?_
                                        refine lv_iload C.1.1 C.1.2.1 dL_law_667 (lv_at hl 4 rfl) ?_
                                        refine lv_iconst (v := 1) C.1.1 C.1.2.1 dL_law_669 (by decide) ?_
                                        refine lv_iadd C.1.1 C.1.2.1 dL_law_670 ?_
                                        obtain ⟨hib, hf⟩ := zGd_el hf
                                        refine va_sld C.1.1 C.1.2.1 hXs hbl hbA hS hib dL_law_671 ?_
                                        obtain ⟨v163, hg, hf⟩ := zB1_el hf
                                        refine zLVi (As := [.int (xs (i + (1 : Int32)).toNatClampNeg)]) (rest := []) [kX7 cI cB aH (aR 0) (aM 0) (aE 0) (aC 0) (aP 0) oH, kX5 cI cB aR (aT 0) (aS 0) oR, kX6 cI cB aT oT, kX4 cI cB aS oS, kX4 cI cB aP oP, kX1 cI cB aM (aN 0) (aY 0) (aK 0), kA8 cI cB aN oN, kA8 cI cB aY oY, kX3 cI cB aK oK, kX2 cI cB aE (aQ 0) oE, kX3 cI cB aQ oQ, kX0 cI cB aC oC, kX10 cI cB bV (bP 0) (bS 0) (bW 0) (bN 0) (bO 0) mZ mY mB mL mU mJ mK mG mA, kX8 cI cB bP mP, kX8 cI cB bS mS, kX9 cI cB bW mW, kA8 cI cB bN mN, kA8 cI cB bO mO, kL cL aX f] [kX7 cI cB aH (aR 0) (aM 0) (aE 0) (aC 0) (aP 0) oH, kX5 cI cB aR (aT 0) (aS 0) oR, kX6 cI cB aT oT, kX4 cI cB aS oS, kX4 cI cB aP oP, kX1 cI cB aM (aN 0) (aY 0) (aK 0), kA8 cI cB aN oN, kA8 cI cB aY oY, kX3 cI cB aK oK, kX2 cI cB aE (aQ 0) oE, kX3 cI cB aQ oQ, kX0 cI cB aC oC, kX10 cI cB bV (bP 0) (bS 0) (bW 0) (bN 0) (bO 0) mZ mY mB mL mU mJ mK mG mA, kX8 cI cB bP mP, kX8 cI cB bS mS, kX9 cI cB bW mW, kA8 cI cB bN mN, kA8 cI cB bO mO, kL cL aX f] C.1 hK hA hP hD hS [0] [1, 2, 3, 4, 5, 6, 7, 8, 9, 10, 11, 12, 13, 14, 15, 16, 17, 18] 0 19 (mtX7_edge l dC dI cI cB aH aR aP aM aE aC H.size oH (xs (i + (1 : Int32)).toNatClampNeg) hg) (zCwV 1 C.1 wlL_92 wiX7_edge ws_X7_edge wnX7 wkX7_edge rfl rfl (by decide +kernel) ⟨Nat.le_of_ble_eq_true rfl, Nat.le_of_ble_eq_true rfl⟩) rfl (by decide) rfl rfl rfl rfl rfl rfl rfl hl.1 (Nat.le_of_ble_eq_true rfl) dL_law_672 hcs rfl (fun H locs hP hD hS => ?_)
                                        refine lv_aload_n C.1.1 C.1.2.1 dL_law_675 rfl (lv_at hl 2 rfl) ?_
                                        refine lv_aload_n C.1.1 C.1.2.1 dL_law_676 rfl (lv_at hl 0 rfl) ?_
                                        refine lv_iload C.1.1 C.1.2.1 dL_law_677 (lv_at hl 4 rfl) ?_
                                        refine lv_iconst (v := 1) C.1.1 C.1.2.1 dL_law_679 (by decide) ?_
                                        refine lv_iadd C.1.1 C.1.2.1 dL_law_680 ?_
                                        obtain ⟨hib, hf⟩ := zGd_el hf
                                        refine va_sld C.1.1 C.1.2.1 hXs hbl hbA hS hib dL_law_681 ?_
                                        obtain ⟨v164, mZ_165, hg, hf⟩ := zB2_el hf
                                        refine zLVi (As := [.int (xs (i + (1 : Int32)).toNatClampNeg)]) (rest := [.int v163]) [kX7 cI cB aH (aR 0) (aM 0) (aE 0) (aC 0) (aP 0) oH, kX5 cI cB aR (aT 0) (aS 0) oR, kX6 cI cB aT oT, kX4 cI cB aS oS, kX4 cI cB aP oP, kX1 cI cB aM (aN 0) (aY 0) (aK 0), kA8 cI cB aN oN, kA8 cI cB aY oY, kX3 cI cB aK oK, kX2 cI cB aE (aQ 0) oE, kX3 cI cB aQ oQ, kX0 cI cB aC oC, kX10 cI cB bV (bP 0) (bS 0) (bW 0) (bN 0) (bO 0) mZ mY mB mL mU mJ mK mG mA, kX8 cI cB bP mP, kX8 cI cB bS mS, kX9 cI cB bW mW, kA8 cI cB bN mN, kA8 cI cB bO mO, kL cL aX f] [kX7 cI cB aH (aR 0) (aM 0) (aE 0) (aC 0) (aP 0) oH, kX5 cI cB aR (aT 0) (aS 0) oR, kX6 cI cB aT oT, kX4 cI cB aS oS, kX4 cI cB aP oP, kX1 cI cB aM (aN 0) (aY 0) (aK 0), kA8 cI cB aN oN, kA8 cI cB aY oY, kX3 cI cB aK oK, kX2 cI cB aE (aQ 0) oE, kX3 cI cB aQ oQ, kX0 cI cB aC oC, kX10 cI cB bV (bP 0) (bS 0) (bW 0) (bN 0) (bO 0) mZ_165 mY mB mL mU mJ mK mG mA, kX8 cI cB bP mP, kX8 cI cB bS mS, kX9 cI cB bW mW, kA8 cI cB bN mN, kA8 cI cB bO mO, kL cL aX f] C.1 hK hA hP hD hS [12] [0, 1, 2, 3, 4, 5, 6, 7, 8, 9, 10, 11, 13, 14, 15, 16, 17, 18] 0 19 (mtX10_edge l dC dI cI cB bV bP bS bW bN bO H.size mZ mY mB mL mU mJ mK mG mA (xs (i + (1 : Int32)).toNatClampNeg) hg) (zCwV 1 C.1 wlL_95 wiX10_edge ws_X10_edge wnX10 wkX10_edge rfl rfl (by decide +kernel) ⟨Nat.le_of_ble_eq_true rfl, Nat.le_of_ble_eq_true rfl⟩) rfl (by decide) rfl rfl rfl rfl rfl rfl rfl hl.1 (Nat.le_of_ble_eq_true rfl) dL_law_682 hcs rfl (fun H locs hP hD hS => ?_)
                                        refine lv_icmp_eq (tgt := 936) C.1.1 C.1.2.1 dL_law_685 (by decide) (fun hc => ?_) (fun hc => ?_)
                                        · replace hf := zIf_t hf hc
                                          obtain ⟨x166, ex166, hf⟩ := zLet_el hf
                                          refine lv_iinc (v := x166) (lv' := [(4, .int x166), (0, .ref b), (1, .ref (aH 0)), (2, .ref (bV 0)), (3, .ref aX)]) C.1.1 C.1.2.1 dL_law_936 hl (k := 4) rfl (by rw [ex166]; rfl) (by decide) rfl (fun ls hl => ?_)
                                          refine lv_goto (tgt := 23) C.1.1 C.1.2.1 dL_law_939 (by decide) ?_
                                          refine W.widen (k := 89 + (t + 1)) (n := 42163 + 6 * (t + 1)) (by omega) (by omega) ?_
                                          exact ih x166 oH oR oT oS oP oN oY oK oE oQ oC mZ_165 mY mB mL mU mJ mK mG mA mP mS mW mN mO hf (t + 1) (by rw [ex166, hi]; exact zLawN t) (by omega) aS aP bP bS _ H locs hP hD hS ls (lv_sub hl [1, 2, 3, 4, 0] rfl)
                                        · replace hf := zIf_f hf hc
                                          refine lv_iconst (v := 0) C.1.1 C.1.2.1 dL_law_688 (by decide) ?_
                                          cases hf
                                      · replace hf := zIf_f hf hk162
                                        rcases Classical.em (x1 = 18) with hk167 | hk167
                                        · replace hf := zIf_t hf hk167
                                          refine lv_tableIn (off := 650) (tgt := 690) C.1.1 C.1.2.1 dL_law_40 (by rw [hk167] <;> decide +kernel) (by rw [hk167] <;> decide +kernel) (by rw [hk167] <;> decide +kernel) (by decide) ?_
                                          refine lv_aload_n C.1.1 C.1.2.1 dL_law_690 rfl (lv_at hl 1 rfl) ?_
                                          refine lv_aload_n C.1.1 C.1.2.1 dL_law_691 rfl (lv_at hl 0 rfl) ?_
                                          refine lv_iload C.1.1 C.1.2.1 dL_law_692 (lv_at hl 4 rfl) ?_
                                          refine lv_iconst (v := 1) C.1.1 C.1.2.1 dL_law_694 (by decide) ?_
                                          refine lv_iadd C.1.1 C.1.2.1 dL_law_695 ?_
                                          obtain ⟨hib, hf⟩ := zGd_el hf
                                          refine va_sld C.1.1 C.1.2.1 hXs hbl hbA hS hib dL_law_696 ?_
                                          obtain ⟨v168, oH_169, oN_170, oK_171, oC_172, hg, hf⟩ := zB5_el hf
                                          refine zLVi (As := [.int (xs (i + (1 : Int32)).toNatClampNeg)]) (rest := []) [kX7 cI cB aH (aR 0) (aM 0) (aE 0) (aC 0) (aP 0) oH, kX5 cI cB aR (aT 0) (aS 0) oR, kX6 cI cB aT oT, kX4 cI cB aS oS, kX4 cI cB aP oP, kX1 cI cB aM (aN 0) (aY 0) (aK 0), kA8 cI cB aN oN, kA8 cI cB aY oY, kX3 cI cB aK oK, kX2 cI cB aE (aQ 0) oE, kX3 cI cB aQ oQ, kX0 cI cB aC oC, kX10 cI cB bV (bP 0) (bS 0) (bW 0) (bN 0) (bO 0) mZ mY mB mL mU mJ mK mG mA, kX8 cI cB bP mP, kX8 cI cB bS mS, kX9 cI cB bW mW, kA8 cI cB bN mN, kA8 cI cB bO mO, kL cL aX f] [kX7 cI cB aH (aR 0) (aM 0) (aE 0) (aC 0) (aP 0) oH_169, kX5 cI cB aR (aT 0) (aS 0) oR, kX6 cI cB aT oT, kX4 cI cB aS oS, kX4 cI cB aP oP, kX1 cI cB aM (aN 0) (aY 0) (aK 0), kA8 cI cB aN oN_170, kA8 cI cB aY oY, kX3 cI cB aK oK_171, kX2 cI cB aE (aQ 0) oE, kX3 cI cB aQ oQ, kX0 cI cB aC oC_172, kX10 cI cB bV (bP 0) (bS 0) (bW 0) (bN 0) (bO 0) mZ mY mB mL mU mJ mK mG mA, kX8 cI cB bP mP, kX8 cI cB bS mS, kX9 cI cB bW mW, kA8 cI cB bN mN, kA8 cI cB bO mO, kL cL aX f] C.1 hK hA hP hD hS [0, 4, 5, 6, 8, 9, 11] [1, 2, 3, 7, 10, 12, 13, 14, 15, 16, 17, 18] 0 19 (mtX7_run l dC dI cI cB aH aR aP aM aN aY aK aE aQ aC H.size NN oH oP oN oK oE oC (xs (i + (1 : Int32)).toNatClampNeg) hg) (zCwV 1 C.1 wlL_96 wiX7_run ws_X7_run wnX7 wkX7_run rfl rfl (by decide +kernel) ⟨Nat.le_of_ble_eq_true rfl, Nat.le_of_ble_eq_true rfl⟩) rfl (by decide) rfl rfl rfl rfl rfl rfl rfl hl.1 (Nat.le_of_ble_eq_true rfl) dL_law_697 hcs rfl (fun H locs hP hD hS => ?_)
                                          refine lv_aload_n C.1.1 C.1.2.1 dL_law_700 rfl (lv_at hl 2 rfl) ?_
                                          refine lv_aload_n C.1.1 C.1.2.1 dL_law_701 rfl (lv_at hl 0 rfl) ?_
                                          refine lv_iload C.1.1 C.1.2.1 dL_law_702 (lv_at hl 4 rfl) ?_
                                          refine lv_iconst (v := 1) C.1.1 C.1.2.1 dL_law_704 (by decide) ?_
                                          refine lv_iadd C.1.1 C.1.2.1 dL_law_705 ?_
                                          obtain ⟨hib, hf⟩ := zGd_el hf
                                          refine va_sld C.1.1 C.1.2.1 hXs hbl hbA hS hib dL_law_706 ?_
                                          obtain ⟨v173, mZ_174, mU_175, mJ_176, mK_177, mN_178, hg, hf⟩ := zB6_el hf
                                          refine zLVi (As := [.int (xs (i + (1 : Int32)).toNatClampNeg)]) (rest := [.int v168]) [kX7 cI cB aH (aR 0) (aM 0) (aE 0) (aC 0) (aP 0) oH_169, kX5 cI cB aR (aT 0) (aS 0) oR, kX6 cI cB aT oT, kX4 cI cB aS oS, kX4 cI cB aP oP, kX1 cI cB aM (aN 0) (aY 0) (aK 0), kA8 cI cB aN oN_170, kA8 cI cB aY oY, kX3 cI cB aK oK_171, kX2 cI cB aE (aQ 0) oE, kX3 cI cB aQ oQ, kX0 cI cB aC oC_172, kX10 cI cB bV (bP 0) (bS 0) (bW 0) (bN 0) (bO 0) mZ mY mB mL mU mJ mK mG mA, kX8 cI cB bP mP, kX8 cI cB bS mS, kX9 cI cB bW mW, kA8 cI cB bN mN, kA8 cI cB bO mO, kL cL aX f] [kX7 cI cB aH (aR 0) (aM 0) (aE 0) (aC 0) (aP 0) oH_169, kX5 cI cB aR (aT 0) (aS 0) oR, kX6 cI cB aT oT, kX4 cI cB aS oS, kX4 cI cB aP oP, kX1 cI cB aM (aN 0) (aY 0) (aK 0), kA8 cI cB aN oN_170, kA8 cI cB aY oY, kX3 cI cB aK oK_171, kX2 cI cB aE (aQ 0) oE, kX3 cI cB aQ oQ, kX0 cI cB aC oC_172, kX10 cI cB bV (bP 0) (bS 0) (bW 0) (bN 0) (bO 0) mZ_174 mY mB mL mU_175 mJ_176 mK_177 mG mA, kX8 cI cB bP mP, kX8 cI cB bS mS, kX9 cI cB bW mW, kA8 cI cB bN mN_178, kA8 cI cB bO mO, kL cL aX f] C.1 hK hA hP hD hS [12, 13, 16] [0, 1, 2, 3, 4, 5, 6, 7, 8, 9, 10, 11, 14, 15, 17, 18] 0 19 (mtX10_run l dC dI cI cB bV bP bS bW bN bO H.size NN mZ mY mB mL mU mJ mK mG mA mP mN (xs (i + (1 : Int32)).toNatClampNeg) hg) (zCwV 1 C.1 wlL_99 wiX10_run ws_X10_run wnX10 wkX10_run rfl rfl (by decide +kernel) ⟨Nat.le_of_ble_eq_true rfl, Nat.le_of_ble_eq_true rfl⟩) rfl (by decide) rfl rfl rfl rfl rfl rfl rfl hl.1 (Nat.le_of_ble_eq_true rfl) dL_law_707 hcs rfl (fun H locs hP hD hS => ?_)
                                          refine lv_icmp_eq (tgt := 936) C.1.1 C.1.2.1 dL_law_710 (by decide) (fun hc => ?_) (fun hc => ?_)
                                          · replace hf := zIf_t hf hc
                                            obtain ⟨x179, ex179, hf⟩ := zLet_el hf
                                            refine lv_iinc (v := x179) (lv' := [(4, .int x179), (0, .ref b), (1, .ref (aH 0)), (2, .ref (bV 0)), (3, .ref aX)]) C.1.1 C.1.2.1 dL_law_936 hl (k := 4) rfl (by rw [ex179]; rfl) (by decide) rfl (fun ls hl => ?_)
                                            refine lv_goto (tgt := 23) C.1.1 C.1.2.1 dL_law_939 (by decide) ?_
                                            refine W.widen (k := 89 + (t + 1)) (n := 42163 + 6 * (t + 1)) (by omega) (by omega) ?_
                                            exact ih x179 oH_169 oR oT oS oP oN_170 oY oK_171 oE oQ oC_172 mZ_174 mY mB mL mU_175 mJ_176 mK_177 mG mA mP mS mW mN_178 mO hf (t + 1) (by rw [ex179, hi]; exact zLawN t) (by omega) aS aP bP bS _ H locs hP hD hS ls (lv_sub hl [1, 2, 3, 4, 0] rfl)
                                          · replace hf := zIf_f hf hc
                                            refine lv_iconst (v := 0) C.1.1 C.1.2.1 dL_law_713 (by decide) ?_
                                            cases hf
                                        · replace hf := zIf_f hf hk167
                                          rcases Classical.em (x1 = 19) with hk180 | hk180
                                          · replace hf := zIf_t hf hk180
                                            refine lv_tableIn (off := 675) (tgt := 715) C.1.1 C.1.2.1 dL_law_40 (by rw [hk180] <;> decide +kernel) (by rw [hk180] <;> decide +kernel) (by rw [hk180] <;> decide +kernel) (by decide) ?_
                                            refine lv_aload_n C.1.1 C.1.2.1 dL_law_715 rfl (lv_at hl 1 rfl) ?_
                                            refine lv_aload_n C.1.1 C.1.2.1 dL_law_716 rfl (lv_at hl 0 rfl) ?_
                                            refine lv_iload C.1.1 C.1.2.1 dL_law_717 (lv_at hl 4 rfl) ?_
                                            refine lv_iconst (v := 1) C.1.1 C.1.2.1 dL_law_719 (by decide) ?_
                                            refine lv_iadd C.1.1 C.1.2.1 dL_law_720 ?_
                                            obtain ⟨hib, hf⟩ := zGd_el hf
                                            refine va_sld C.1.1 C.1.2.1 hXs hbl hbA hS hib dL_law_721 ?_
                                            refine lv_aload_n C.1.1 C.1.2.1 dL_law_722 rfl (lv_at hl 0 rfl) ?_
                                            refine lv_iload C.1.1 C.1.2.1 dL_law_723 (lv_at hl 4 rfl) ?_
                                            refine lv_iconst (v := 2) C.1.1 C.1.2.1 dL_law_725 (by decide) ?_
                                            refine lv_iadd C.1.1 C.1.2.1 dL_law_726 ?_
                                            obtain ⟨hib, hf⟩ := zGd_el hf
                                            refine va_sld C.1.1 C.1.2.1 hXs hbl hbA hS hib dL_law_727 ?_
                                            obtain ⟨J736_182, eJ736_182, hf⟩ := zJn_el hf
                                            have hJ736_182 : ∀ (t181 : Int32), J736_182 t181 = some () → ∀ (H : Heap) (locs : List Loc), va_P (dC, dI) vwCl (([kX7 cI cB aH (aR 0) (aM 0) (aE 0) (aC 0) (aP 0) oH, kX5 cI cB aR (aT 0) (aS 0) oR, kX6 cI cB aT oT, kX4 cI cB aS oS, kX4 cI cB aP oP, kX1 cI cB aM (aN 0) (aY 0) (aK 0), kA8 cI cB aN oN, kA8 cI cB aY oY, kX3 cI cB aK oK, kX2 cI cB aE (aQ 0) oE, kX3 cI cB aQ oQ, kX0 cI cB aC oC, kX10 cI cB bV (bP 0) (bS 0) (bW 0) (bN 0) (bO 0) mZ mY mB mL mU mJ mK mG mA, kX8 cI cB bP mP, kX8 cI cB bS mS, kX9 cI cB bW mW, kA8 cI cB bN mN, kA8 cI cB bO mO, kL cL aX f] : List va_W).flatten) H → va_D A (([kX7 cI cB aH (aR 0) (aM 0) (aE 0) (aC 0) (aP 0) oH, kX5 cI cB aR (aT 0) (aS 0) oR, kX6 cI cB aT oT, kX4 cI cB aS oS, kX4 cI cB aP oP, kX1 cI cB aM (aN 0) (aY 0) (aK 0), kA8 cI cB aN oN, kA8 cI cB aY oY, kX3 cI cB aK oK, kX2 cI cB aE (aQ 0) oE, kX3 cI cB aQ oQ, kX0 cI cB aC oC, kX10 cI cB bV (bP 0) (bS 0) (bW 0) (bN 0) (bO 0) mZ mY mB mL mU mJ mK mG mA, kX8 cI cB bP mP, kX8 cI cB bS mS, kX9 cI cB bW mW, kA8 cI cB bN mN, kA8 cI cB bO mO, kL cL aX f] : List va_W).flatten) → va_S A s.heap H locs → ∀ (ls : Array Slot), lv_has ls 7 [(0, .ref b), (1, .ref (aH 0)), (2, .ref (bV 0)), (3, .ref aX), (4, .int i)] → W p l e room_1 s m #[Value.ref b] below meth c H locs (89 + t) (42163 + 6 * t) (lw_Z below #[Value.ref b] s) (F0 m 736 ls [.int t181, .int (xs (i + (1 : Int32)).toNatClampNeg), .ref (aH 0)]) := by
                                              intro t181 hf H locs hP hD hS ls hl
                                              rw [eJ736_182] at hf
                                              obtain ⟨v183, oH_184, oN_185, oK_186, hg, hf⟩ := zB4_el hf
                                              refine zLVi (As := [.int (xs (i + (1 : Int32)).toNatClampNeg), .int t181]) (rest := []) [kX7 cI cB aH (aR 0) (aM 0) (aE 0) (aC 0) (aP 0) oH, kX5 cI cB aR (aT 0) (aS 0) oR, kX6 cI cB aT oT, kX4 cI cB aS oS, kX4 cI cB aP oP, kX1 cI cB aM (aN 0) (aY 0) (aK 0), kA8 cI cB aN oN, kA8 cI cB aY oY, kX3 cI cB aK oK, kX2 cI cB aE (aQ 0) oE, kX3 cI cB aQ oQ, kX0 cI cB aC oC, kX10 cI cB bV (bP 0) (bS 0) (bW 0) (bN 0) (bO 0) mZ mY mB mL mU mJ mK mG mA, kX8 cI cB bP mP, kX8 cI cB bS mS, kX9 cI cB bW mW, kA8 cI cB bN mN, kA8 cI cB bO mO, kL cL aX f] [kX7 cI cB aH (aR 0) (aM 0) (aE 0) (aC 0) (aP 0) oH_184, kX5 cI cB aR (aT 0) (aS 0) oR, kX6 cI cB aT oT, kX4 cI cB aS oS, kX4 cI cB aP oP, kX1 cI cB aM (aN 0) (aY 0) (aK 0), kA8 cI cB aN oN_185, kA8 cI cB aY oY, kX3 cI cB aK oK_186, kX2 cI cB aE (aQ 0) oE, kX3 cI cB aQ oQ, kX0 cI cB aC oC, kX10 cI cB bV (bP 0) (bS 0) (bW 0) (bN 0) (bO 0) mZ mY mB mL mU mJ mK mG mA, kX8 cI cB bP mP, kX8 cI cB bS mS, kX9 cI cB bW mW, kA8 cI cB bN mN, kA8 cI cB bO mO, kL cL aX f] C.1 hK hA hP hD hS [0, 4, 5, 6, 8] [1, 2, 3, 7, 9, 10, 11, 12, 13, 14, 15, 16, 17, 18] 0 19 (mtX7_once l dC dI cI cB aH aR aP aM aN aY aK aE aC H.size NN oH oP oN oK (xs (i + (1 : Int32)).toNatClampNeg) t181 hg) (zCwV 2 C.1 wlL_100 wiX7_once ws_X7_once wnX7 wkX7_once rfl rfl (by decide +kernel) ⟨Nat.le_of_ble_eq_true rfl, Nat.le_of_ble_eq_true rfl⟩) rfl (by decide) rfl rfl rfl rfl rfl rfl rfl hl.1 (Nat.le_of_ble_eq_true rfl) dL_law_736 hcs rfl (fun H locs hP hD hS => ?_)
                                              refine lv_aload_n C.1.1 C.1.2.1 dL_law_739 rfl (lv_at hl 2 rfl) ?_
                                              refine lv_aload_n C.1.1 C.1.2.1 dL_law_740 rfl (lv_at hl 0 rfl) ?_
                                              refine lv_iload C.1.1 C.1.2.1 dL_law_741 (lv_at hl 4 rfl) ?_
                                              refine lv_iconst (v := 1) C.1.1 C.1.2.1 dL_law_743 (by decide) ?_
                                              refine lv_iadd C.1.1 C.1.2.1 dL_law_744 ?_
                                              obtain ⟨hib, hf⟩ := zGd_el hf
                                              refine va_sld C.1.1 C.1.2.1 hXs hbl hbA hS hib dL_law_745 ?_
                                              refine lv_aload_n C.1.1 C.1.2.1 dL_law_746 rfl (lv_at hl 0 rfl) ?_
                                              refine lv_iload C.1.1 C.1.2.1 dL_law_747 (lv_at hl 4 rfl) ?_
                                              refine lv_iconst (v := 2) C.1.1 C.1.2.1 dL_law_749 (by decide) ?_
                                              refine lv_iadd C.1.1 C.1.2.1 dL_law_750 ?_
                                              obtain ⟨hib, hf⟩ := zGd_el hf
                                              refine va_sld C.1.1 C.1.2.1 hXs hbl hbA hS hib dL_law_751 ?_
                                              obtain ⟨J760_188, eJ760_188, hf⟩ := zJn_el hf
                                              have hJ760_188 : ∀ (t187 : Int32), J760_188 t187 = some () → ∀ (H : Heap) (locs : List Loc), va_P (dC, dI) vwCl (([kX7 cI cB aH (aR 0) (aM 0) (aE 0) (aC 0) (aP 0) oH_184, kX5 cI cB aR (aT 0) (aS 0) oR, kX6 cI cB aT oT, kX4 cI cB aS oS, kX4 cI cB aP oP, kX1 cI cB aM (aN 0) (aY 0) (aK 0), kA8 cI cB aN oN_185, kA8 cI cB aY oY, kX3 cI cB aK oK_186, kX2 cI cB aE (aQ 0) oE, kX3 cI cB aQ oQ, kX0 cI cB aC oC, kX10 cI cB bV (bP 0) (bS 0) (bW 0) (bN 0) (bO 0) mZ mY mB mL mU mJ mK mG mA, kX8 cI cB bP mP, kX8 cI cB bS mS, kX9 cI cB bW mW, kA8 cI cB bN mN, kA8 cI cB bO mO, kL cL aX f] : List va_W).flatten) H → va_D A (([kX7 cI cB aH (aR 0) (aM 0) (aE 0) (aC 0) (aP 0) oH_184, kX5 cI cB aR (aT 0) (aS 0) oR, kX6 cI cB aT oT, kX4 cI cB aS oS, kX4 cI cB aP oP, kX1 cI cB aM (aN 0) (aY 0) (aK 0), kA8 cI cB aN oN_185, kA8 cI cB aY oY, kX3 cI cB aK oK_186, kX2 cI cB aE (aQ 0) oE, kX3 cI cB aQ oQ, kX0 cI cB aC oC, kX10 cI cB bV (bP 0) (bS 0) (bW 0) (bN 0) (bO 0) mZ mY mB mL mU mJ mK mG mA, kX8 cI cB bP mP, kX8 cI cB bS mS, kX9 cI cB bW mW, kA8 cI cB bN mN, kA8 cI cB bO mO, kL cL aX f] : List va_W).flatten) → va_S A s.heap H locs → ∀ (ls : Array Slot), lv_has ls 7 [(0, .ref b), (1, .ref (aH 0)), (2, .ref (bV 0)), (3, .ref aX), (4, .int i)] → W p l e room_1 s m #[Value.ref b] below meth c H locs (89 + t) (42163 + 6 * t) (lw_Z below #[Value.ref b] s) (F0 m 760 ls [.int t187, .int (xs (i + (1 : Int32)).toNatClampNeg), .ref (bV 0), .int v183]) := by
                                                intro t187 hf H locs hP hD hS ls hl
                                                rw [eJ760_188] at hf
                                                obtain ⟨v189, mZ_190, mU_191, mN_192, hg, hf⟩ := zB4_el hf
                                                refine zLVi (As := [.int (xs (i + (1 : Int32)).toNatClampNeg), .int t187]) (rest := [.int v183]) [kX7 cI cB aH (aR 0) (aM 0) (aE 0) (aC 0) (aP 0) oH_184, kX5 cI cB aR (aT 0) (aS 0) oR, kX6 cI cB aT oT, kX4 cI cB aS oS, kX4 cI cB aP oP, kX1 cI cB aM (aN 0) (aY 0) (aK 0), kA8 cI cB aN oN_185, kA8 cI cB aY oY, kX3 cI cB aK oK_186, kX2 cI cB aE (aQ 0) oE, kX3 cI cB aQ oQ, kX0 cI cB aC oC, kX10 cI cB bV (bP 0) (bS 0) (bW 0) (bN 0) (bO 0) mZ mY mB mL mU mJ mK mG mA, kX8 cI cB bP mP, kX8 cI cB bS mS, kX9 cI cB bW mW, kA8 cI cB bN mN, kA8 cI cB bO mO, kL cL aX f] [kX7 cI cB aH (aR 0) (aM 0) (aE 0) (aC 0) (aP 0) oH_184, kX5 cI cB aR (aT 0) (aS 0) oR, kX6 cI cB aT oT, kX4 cI cB aS oS, kX4 cI cB aP oP, kX1 cI cB aM (aN 0) (aY 0) (aK 0), kA8 cI cB aN oN_185, kA8 cI cB aY oY, kX3 cI cB aK oK_186, kX2 cI cB aE (aQ 0) oE, kX3 cI cB aQ oQ, kX0 cI cB aC oC, kX10 cI cB bV (bP 0) (bS 0) (bW 0) (bN 0) (bO 0) mZ_190 mY mB mL mU_191 mJ mK mG mA, kX8 cI cB bP mP, kX8 cI cB bS mS, kX9 cI cB bW mW, kA8 cI cB bN mN_192, kA8 cI cB bO mO, kL cL aX f] C.1 hK hA hP hD hS [12, 13, 16] [0, 1, 2, 3, 4, 5, 6, 7, 8, 9, 10, 11, 14, 15, 17, 18] 0 19 (mtX10_once l dC dI cI cB bV bP bS bW bN bO H.size NN mZ mY mB mL mU mJ mK mG mA mP mN (xs (i + (1 : Int32)).toNatClampNeg) t187 hg) (zCwV 2 C.1 wlL_104 wiX10_once ws_X10_once wnX10 wkX10_once rfl rfl (by decide +kernel) ⟨Nat.le_of_ble_eq_true rfl, Nat.le_of_ble_eq_true rfl⟩) rfl (by decide) rfl rfl rfl rfl rfl rfl rfl hl.1 (Nat.le_of_ble_eq_true rfl) dL_law_760 hcs rfl (fun H locs hP hD hS => ?_)
                                                refine lv_icmp_eq (tgt := 936) C.1.1 C.1.2.1 dL_law_763 (by decide) (fun hc => ?_) (fun hc => ?_)
                                                · replace hf := zIf_t hf hc
                                                  obtain ⟨x193, ex193, hf⟩ := zLet_el hf
                                                  refine lv_iinc (v := x193) (lv' := [(4, .int x193), (0, .ref b), (1, .ref (aH 0)), (2, .ref (bV 0)), (3, .ref aX)]) C.1.1 C.1.2.1 dL_law_936 hl (k := 4) rfl (by rw [ex193]; rfl) (by decide) rfl (fun ls hl => ?_)
                                                  refine lv_goto (tgt := 23) C.1.1 C.1.2.1 dL_law_939 (by decide) ?_
                                                  refine W.widen (k := 89 + (t + 1)) (n := 42163 + 6 * (t + 1)) (by omega) (by omega) ?_
                                                  exact ih x193 oH_184 oR oT oS oP oN_185 oY oK_186 oE oQ oC mZ_190 mY mB mL mU_191 mJ mK mG mA mP mS mW mN_192 mO hf (t + 1) (by rw [ex193, hi]; exact zLawN t) (by omega) aS aP bP bS _ H locs hP hD hS ls (lv_sub hl [1, 2, 3, 4, 0] rfl)
                                                · replace hf := zIf_f hf hc
                                                  refine lv_iconst (v := 0) C.1.1 C.1.2.1 dL_law_766 (by decide) ?_
                                                  cases hf
                                              refine lv_if_eq (tgt := 759) C.1.1 C.1.2.1 dL_law_752 (by decide) (fun hc => ?_) (fun hc => ?_)
                                              · replace hf := zIf_t hf hc
                                                refine lv_iconst (v := 0) C.1.1 C.1.2.1 dL_law_759 (by decide) ?_
                                                exact hJ760_188 (0 : Int32) hf H locs hP hD hS ls (lv_sub hl [0, 1, 2, 3, 4] rfl)
                                              · replace hf := zIf_f hf hc
                                                refine lv_iconst (v := 1) C.1.1 C.1.2.1 dL_law_755 (by decide) ?_
                                                refine lv_goto (tgt := 760) C.1.1 C.1.2.1 dL_law_756 (by decide) ?_
                                                exact hJ760_188 (1 : Int32) hf H locs hP hD hS ls (lv_sub hl [0, 1, 2, 3, 4] rfl)
                                            refine lv_if_eq (tgt := 735) C.1.1 C.1.2.1 dL_law_728 (by decide) (fun hc => ?_) (fun hc => ?_)
                                            · replace hf := zIf_t hf hc
                                              refine lv_iconst (v := 0) C.1.1 C.1.2.1 dL_law_735 (by decide) ?_
                                              exact hJ736_182 (0 : Int32) hf H locs hP hD hS ls (lv_sub hl [0, 1, 2, 3, 4] rfl)
                                            · replace hf := zIf_f hf hc
                                              refine lv_iconst (v := 1) C.1.1 C.1.2.1 dL_law_731 (by decide) ?_
                                              refine lv_goto (tgt := 736) C.1.1 C.1.2.1 dL_law_732 (by decide) ?_
                                              exact hJ736_182 (1 : Int32) hf H locs hP hD hS ls (lv_sub hl [0, 1, 2, 3, 4] rfl)
                                          · replace hf := zIf_f hf hk180
                                            rcases Classical.em (x1 = 20) with hk194 | hk194
                                            · replace hf := zIf_t hf hk194
                                              refine lv_tableIn (off := 728) (tgt := 768) C.1.1 C.1.2.1 dL_law_40 (by rw [hk194] <;> decide +kernel) (by rw [hk194] <;> decide +kernel) (by rw [hk194] <;> decide +kernel) (by decide) ?_
                                              refine lv_aload_n C.1.1 C.1.2.1 dL_law_768 rfl (lv_at hl 1 rfl) ?_
                                              refine lv_aload_n C.1.1 C.1.2.1 dL_law_769 rfl (lv_at hl 0 rfl) ?_
                                              refine lv_iload C.1.1 C.1.2.1 dL_law_770 (lv_at hl 4 rfl) ?_
                                              refine lv_iconst (v := 1) C.1.1 C.1.2.1 dL_law_772 (by decide) ?_
                                              refine lv_iadd C.1.1 C.1.2.1 dL_law_773 ?_
                                              obtain ⟨hib, hf⟩ := zGd_el hf
                                              refine va_sld C.1.1 C.1.2.1 hXs hbl hbA hS hib dL_law_774 ?_
                                              refine lv_aload_n C.1.1 C.1.2.1 dL_law_775 rfl (lv_at hl 0 rfl) ?_
                                              refine lv_iload C.1.1 C.1.2.1 dL_law_776 (lv_at hl 4 rfl) ?_
                                              refine lv_iconst (v := 2) C.1.1 C.1.2.1 dL_law_778 (by decide) ?_
                                              refine lv_iadd C.1.1 C.1.2.1 dL_law_779 ?_
                                              obtain ⟨hib, hf⟩ := zGd_el hf
                                              refine va_sld C.1.1 C.1.2.1 hXs hbl hbA hS hib dL_law_780 ?_
                                              obtain ⟨v195, oH_196, oY_197, oK_198, hg, hf⟩ := zB4_el hf
                                              refine zLVi (As := [.int (xs (i + (1 : Int32)).toNatClampNeg), .int (xs (i + (2 : Int32)).toNatClampNeg)]) (rest := []) [kX7 cI cB aH (aR 0) (aM 0) (aE 0) (aC 0) (aP 0) oH, kX5 cI cB aR (aT 0) (aS 0) oR, kX6 cI cB aT oT, kX4 cI cB aS oS, kX4 cI cB aP oP, kX1 cI cB aM (aN 0) (aY 0) (aK 0), kA8 cI cB aN oN, kA8 cI cB aY oY, kX3 cI cB aK oK, kX2 cI cB aE (aQ 0) oE, kX3 cI cB aQ oQ, kX0 cI cB aC oC, kX10 cI cB bV (bP 0) (bS 0) (bW 0) (bN 0) (bO 0) mZ mY mB mL mU mJ mK mG mA, kX8 cI cB bP mP, kX8 cI cB bS mS, kX9 cI cB bW mW, kA8 cI cB bN mN, kA8 cI cB bO mO, kL cL aX f] [kX7 cI cB aH (aR 0) (aM 0) (aE 0) (aC 0) (aP 0) oH_196, kX5 cI cB aR (aT 0) (aS 0) oR, kX6 cI cB aT oT, kX4 cI cB aS oS, kX4 cI cB aP oP, kX1 cI cB aM (aN 0) (aY 0) (aK 0), kA8 cI cB aN oN, kA8 cI cB aY oY_197, kX3 cI cB aK oK_198, kX2 cI cB aE (aQ 0) oE, kX3 cI cB aQ oQ, kX0 cI cB aC oC, kX10 cI cB bV (bP 0) (bS 0) (bW 0) (bN 0) (bO 0) mZ mY mB mL mU mJ mK mG mA, kX8 cI cB bP mP, kX8 cI cB bS mS, kX9 cI cB bW mW, kA8 cI cB bN mN, kA8 cI cB bO mO, kL cL aX f] C.1 hK hA hP hD hS [0, 4, 5, 6, 7, 8] [1, 2, 3, 9, 10, 11, 12, 13, 14, 15, 16, 17, 18] 0 19 (mtX7_changes l dC dI cI cB aH aR aP aM aN aY aK aE aC H.size NN oH oP oN oY oK (xs (i + (1 : Int32)).toNatClampNeg) (xs (i + (2 : Int32)).toNatClampNeg) hg) (zCwV 2 C.1 wlL_105 wiX7_changes ws_X7_changes wnX7 wkX7_changes rfl rfl (by decide +kernel) ⟨Nat.le_of_ble_eq_true rfl, Nat.le_of_ble_eq_true rfl⟩) rfl (by decide) rfl rfl rfl rfl rfl rfl rfl hl.1 (Nat.le_of_ble_eq_true rfl) dL_law_781 hcs rfl (fun H locs hP hD hS => ?_)
                                              refine lv_aload_n C.1.1 C.1.2.1 dL_law_784 rfl (lv_at hl 2 rfl) ?_
                                              refine lv_aload_n C.1.1 C.1.2.1 dL_law_785 rfl (lv_at hl 0 rfl) ?_
                                              refine lv_iload C.1.1 C.1.2.1 dL_law_786 (lv_at hl 4 rfl) ?_
                                              refine lv_iconst (v := 1) C.1.1 C.1.2.1 dL_law_788 (by decide) ?_
                                              refine lv_iadd C.1.1 C.1.2.1 dL_law_789 ?_
                                              obtain ⟨hib, hf⟩ := zGd_el hf
                                              refine va_sld C.1.1 C.1.2.1 hXs hbl hbA hS hib dL_law_790 ?_
                                              refine lv_aload_n C.1.1 C.1.2.1 dL_law_791 rfl (lv_at hl 0 rfl) ?_
                                              refine lv_iload C.1.1 C.1.2.1 dL_law_792 (lv_at hl 4 rfl) ?_
                                              refine lv_iconst (v := 2) C.1.1 C.1.2.1 dL_law_794 (by decide) ?_
                                              refine lv_iadd C.1.1 C.1.2.1 dL_law_795 ?_
                                              obtain ⟨hib, hf⟩ := zGd_el hf
                                              refine va_sld C.1.1 C.1.2.1 hXs hbl hbA hS hib dL_law_796 ?_
                                              obtain ⟨v199, mZ_200, mU_201, mO_202, hg, hf⟩ := zB4_el hf
                                              refine zLVi (As := [.int (xs (i + (1 : Int32)).toNatClampNeg), .int (xs (i + (2 : Int32)).toNatClampNeg)]) (rest := [.int v195]) [kX7 cI cB aH (aR 0) (aM 0) (aE 0) (aC 0) (aP 0) oH_196, kX5 cI cB aR (aT 0) (aS 0) oR, kX6 cI cB aT oT, kX4 cI cB aS oS, kX4 cI cB aP oP, kX1 cI cB aM (aN 0) (aY 0) (aK 0), kA8 cI cB aN oN, kA8 cI cB aY oY_197, kX3 cI cB aK oK_198, kX2 cI cB aE (aQ 0) oE, kX3 cI cB aQ oQ, kX0 cI cB aC oC, kX10 cI cB bV (bP 0) (bS 0) (bW 0) (bN 0) (bO 0) mZ mY mB mL mU mJ mK mG mA, kX8 cI cB bP mP, kX8 cI cB bS mS, kX9 cI cB bW mW, kA8 cI cB bN mN, kA8 cI cB bO mO, kL cL aX f] [kX7 cI cB aH (aR 0) (aM 0) (aE 0) (aC 0) (aP 0) oH_196, kX5 cI cB aR (aT 0) (aS 0) oR, kX6 cI cB aT oT, kX4 cI cB aS oS, kX4 cI cB aP oP, kX1 cI cB aM (aN 0) (aY 0) (aK 0), kA8 cI cB aN oN, kA8 cI cB aY oY_197, kX3 cI cB aK oK_198, kX2 cI cB aE (aQ 0) oE, kX3 cI cB aQ oQ, kX0 cI cB aC oC, kX10 cI cB bV (bP 0) (bS 0) (bW 0) (bN 0) (bO 0) mZ_200 mY mB mL mU_201 mJ mK mG mA, kX8 cI cB bP mP, kX8 cI cB bS mS, kX9 cI cB bW mW, kA8 cI cB bN mN, kA8 cI cB bO mO_202, kL cL aX f] C.1 hK hA hP hD hS [12, 13, 16, 17] [0, 1, 2, 3, 4, 5, 6, 7, 8, 9, 10, 11, 14, 15, 18] 0 19 (mtX10_changes l dC dI cI cB bV bP bS bW bN bO H.size NN mZ mY mB mL mU mJ mK mG mA mP mN mO (xs (i + (1 : Int32)).toNatClampNeg) (xs (i + (2 : Int32)).toNatClampNeg) hg) (zCwV 2 C.1 wlL_108 wiX10_changes ws_X10_changes wnX10 wkX10_changes rfl rfl (by decide +kernel) ⟨Nat.le_of_ble_eq_true rfl, Nat.le_of_ble_eq_true rfl⟩) rfl (by decide) rfl rfl rfl rfl rfl rfl rfl hl.1 (Nat.le_of_ble_eq_true rfl) dL_law_797 hcs rfl (fun H locs hP hD hS => ?_)
                                              refine lv_icmp_eq (tgt := 936) C.1.1 C.1.2.1 dL_law_800 (by decide) (fun hc => ?_) (fun hc => ?_)
                                              · replace hf := zIf_t hf hc
                                                obtain ⟨x203, ex203, hf⟩ := zLet_el hf
                                                refine lv_iinc (v := x203) (lv' := [(4, .int x203), (0, .ref b), (1, .ref (aH 0)), (2, .ref (bV 0)), (3, .ref aX)]) C.1.1 C.1.2.1 dL_law_936 hl (k := 4) rfl (by rw [ex203]; rfl) (by decide) rfl (fun ls hl => ?_)
                                                refine lv_goto (tgt := 23) C.1.1 C.1.2.1 dL_law_939 (by decide) ?_
                                                refine W.widen (k := 89 + (t + 1)) (n := 42163 + 6 * (t + 1)) (by omega) (by omega) ?_
                                                exact ih x203 oH_196 oR oT oS oP oN oY_197 oK_198 oE oQ oC mZ_200 mY mB mL mU_201 mJ mK mG mA mP mS mW mN mO_202 hf (t + 1) (by rw [ex203, hi]; exact zLawN t) (by omega) aS aP bP bS _ H locs hP hD hS ls (lv_sub hl [1, 2, 3, 4, 0] rfl)
                                              · replace hf := zIf_f hf hc
                                                refine lv_iconst (v := 0) C.1.1 C.1.2.1 dL_law_803 (by decide) ?_
                                                cases hf
                                            · replace hf := zIf_f hf hk194
                                              rcases Classical.em (x1 = 21) with hk204 | hk204
                                              · replace hf := zIf_t hf hk204
                                                refine lv_tableIn (off := 765) (tgt := 805) C.1.1 C.1.2.1 dL_law_40 (by rw [hk204] <;> decide +kernel) (by rw [hk204] <;> decide +kernel) (by rw [hk204] <;> decide +kernel) (by decide) ?_
                                                refine lv_aload_n C.1.1 C.1.2.1 dL_law_805 rfl (lv_at hl 1 rfl) ?_
                                                refine lv_aload_n C.1.1 C.1.2.1 dL_law_806 rfl (lv_at hl 0 rfl) ?_
                                                refine lv_iload C.1.1 C.1.2.1 dL_law_807 (lv_at hl 4 rfl) ?_
                                                refine lv_iconst (v := 1) C.1.1 C.1.2.1 dL_law_809 (by decide) ?_
                                                refine lv_iadd C.1.1 C.1.2.1 dL_law_810 ?_
                                                obtain ⟨hib, hf⟩ := zGd_el hf
                                                refine va_sld C.1.1 C.1.2.1 hXs hbl hbA hS hib dL_law_811 ?_
                                                obtain ⟨v205, oH_206, oY_207, oK_208, hg, hf⟩ := zB4_el hf
                                                refine zLVi (As := [.int (xs (i + (1 : Int32)).toNatClampNeg)]) (rest := []) [kX7 cI cB aH (aR 0) (aM 0) (aE 0) (aC 0) (aP 0) oH, kX5 cI cB aR (aT 0) (aS 0) oR, kX6 cI cB aT oT, kX4 cI cB aS oS, kX4 cI cB aP oP, kX1 cI cB aM (aN 0) (aY 0) (aK 0), kA8 cI cB aN oN, kA8 cI cB aY oY, kX3 cI cB aK oK, kX2 cI cB aE (aQ 0) oE, kX3 cI cB aQ oQ, kX0 cI cB aC oC, kX10 cI cB bV (bP 0) (bS 0) (bW 0) (bN 0) (bO 0) mZ mY mB mL mU mJ mK mG mA, kX8 cI cB bP mP, kX8 cI cB bS mS, kX9 cI cB bW mW, kA8 cI cB bN mN, kA8 cI cB bO mO, kL cL aX f] [kX7 cI cB aH (aR 0) (aM 0) (aE 0) (aC 0) (aP 0) oH_206, kX5 cI cB aR (aT 0) (aS 0) oR, kX6 cI cB aT oT, kX4 cI cB aS oS, kX4 cI cB aP oP, kX1 cI cB aM (aN 0) (aY 0) (aK 0), kA8 cI cB aN oN, kA8 cI cB aY oY_207, kX3 cI cB aK oK_208, kX2 cI cB aE (aQ 0) oE, kX3 cI cB aQ oQ, kX0 cI cB aC oC, kX10 cI cB bV (bP 0) (bS 0) (bW 0) (bN 0) (bO 0) mZ mY mB mL mU mJ mK mG mA, kX8 cI cB bP mP, kX8 cI cB bS mS, kX9 cI cB bW mW, kA8 cI cB bN mN, kA8 cI cB bO mO, kL cL aX f] C.1 hK hA hP hD hS [0, 4, 5, 6, 7, 8] [1, 2, 3, 9, 10, 11, 12, 13, 14, 15, 16, 17, 18] 0 19 (mtX7_still l dC dI cI cB aH aR aP aM aN aY aK aE aC H.size NN oH oP oN oY oK (xs (i + (1 : Int32)).toNatClampNeg) hg) (zCwV 1 C.1 wlL_109 wiX7_still ws_X7_still wnX7 wkX7_still rfl rfl (by decide +kernel) ⟨Nat.le_of_ble_eq_true rfl, Nat.le_of_ble_eq_true rfl⟩) rfl (by decide) rfl rfl rfl rfl rfl rfl rfl hl.1 (Nat.le_of_ble_eq_true rfl) dL_law_812 hcs rfl (fun H locs hP hD hS => ?_)
                                                refine lv_aload_n C.1.1 C.1.2.1 dL_law_815 rfl (lv_at hl 2 rfl) ?_
                                                refine lv_aload_n C.1.1 C.1.2.1 dL_law_816 rfl (lv_at hl 0 rfl) ?_
                                                refine lv_iload C.1.1 C.1.2.1 dL_law_817 (lv_at hl 4 rfl) ?_
                                                refine lv_iconst (v := 1) C.1.1 C.1.2.1 dL_law_819 (by decide) ?_
                                                refine lv_iadd C.1.1 C.1.2.1 dL_law_820 ?_
                                                obtain ⟨hib, hf⟩ := zGd_el hf
                                                refine va_sld C.1.1 C.1.2.1 hXs hbl hbA hS hib dL_law_821 ?_
                                                obtain ⟨v209, mZ_210, mU_211, mO_212, hg, hf⟩ := zB4_el hf
                                                refine zLVi (As := [.int (xs (i + (1 : Int32)).toNatClampNeg)]) (rest := [.int v205]) [kX7 cI cB aH (aR 0) (aM 0) (aE 0) (aC 0) (aP 0) oH_206, kX5 cI cB aR (aT 0) (aS 0) oR, kX6 cI cB aT oT, kX4 cI cB aS oS, kX4 cI cB aP oP, kX1 cI cB aM (aN 0) (aY 0) (aK 0), kA8 cI cB aN oN, kA8 cI cB aY oY_207, kX3 cI cB aK oK_208, kX2 cI cB aE (aQ 0) oE, kX3 cI cB aQ oQ, kX0 cI cB aC oC, kX10 cI cB bV (bP 0) (bS 0) (bW 0) (bN 0) (bO 0) mZ mY mB mL mU mJ mK mG mA, kX8 cI cB bP mP, kX8 cI cB bS mS, kX9 cI cB bW mW, kA8 cI cB bN mN, kA8 cI cB bO mO, kL cL aX f] [kX7 cI cB aH (aR 0) (aM 0) (aE 0) (aC 0) (aP 0) oH_206, kX5 cI cB aR (aT 0) (aS 0) oR, kX6 cI cB aT oT, kX4 cI cB aS oS, kX4 cI cB aP oP, kX1 cI cB aM (aN 0) (aY 0) (aK 0), kA8 cI cB aN oN, kA8 cI cB aY oY_207, kX3 cI cB aK oK_208, kX2 cI cB aE (aQ 0) oE, kX3 cI cB aQ oQ, kX0 cI cB aC oC, kX10 cI cB bV (bP 0) (bS 0) (bW 0) (bN 0) (bO 0) mZ_210 mY mB mL mU_211 mJ mK mG mA, kX8 cI cB bP mP, kX8 cI cB bS mS, kX9 cI cB bW mW, kA8 cI cB bN mN, kA8 cI cB bO mO_212, kL cL aX f] C.1 hK hA hP hD hS [12, 13, 16, 17] [0, 1, 2, 3, 4, 5, 6, 7, 8, 9, 10, 11, 14, 15, 18] 0 19 (mtX10_still l dC dI cI cB bV bP bS bW bN bO H.size NN mZ mY mB mL mU mJ mK mG mA mP mN mO (xs (i + (1 : Int32)).toNatClampNeg) hg) (zCwV 1 C.1 wlL_112 wiX10_still ws_X10_still wnX10 wkX10_still rfl rfl (by decide +kernel) ⟨Nat.le_of_ble_eq_true rfl, Nat.le_of_ble_eq_true rfl⟩) rfl (by decide) rfl rfl rfl rfl rfl rfl rfl hl.1 (Nat.le_of_ble_eq_true rfl) dL_law_822 hcs rfl (fun H locs hP hD hS => ?_)
                                                refine lv_icmp_eq (tgt := 936) C.1.1 C.1.2.1 dL_law_825 (by decide) (fun hc => ?_) (fun hc => ?_)
                                                · replace hf := zIf_t hf hc
                                                  obtain ⟨x213, ex213, hf⟩ := zLet_el hf
                                                  refine lv_iinc (v := x213) (lv' := [(4, .int x213), (0, .ref b), (1, .ref (aH 0)), (2, .ref (bV 0)), (3, .ref aX)]) C.1.1 C.1.2.1 dL_law_936 hl (k := 4) rfl (by rw [ex213]; rfl) (by decide) rfl (fun ls hl => ?_)
                                                  refine lv_goto (tgt := 23) C.1.1 C.1.2.1 dL_law_939 (by decide) ?_
                                                  refine W.widen (k := 89 + (t + 1)) (n := 42163 + 6 * (t + 1)) (by omega) (by omega) ?_
                                                  exact ih x213 oH_206 oR oT oS oP oN oY_207 oK_208 oE oQ oC mZ_210 mY mB mL mU_211 mJ mK mG mA mP mS mW mN mO_212 hf (t + 1) (by rw [ex213, hi]; exact zLawN t) (by omega) aS aP bP bS _ H locs hP hD hS ls (lv_sub hl [1, 2, 3, 4, 0] rfl)
                                                · replace hf := zIf_f hf hc
                                                  refine lv_iconst (v := 0) C.1.1 C.1.2.1 dL_law_828 (by decide) ?_
                                                  cases hf
                                              · replace hf := zIf_f hf hk204
                                                rcases Classical.em (x1 = 22) with hk214 | hk214
                                                · replace hf := zIf_t hf hk214
                                                  refine lv_tableIn (off := 790) (tgt := 830) C.1.1 C.1.2.1 dL_law_40 (by rw [hk214] <;> decide +kernel) (by rw [hk214] <;> decide +kernel) (by rw [hk214] <;> decide +kernel) (by decide) ?_
                                                  refine lv_aload_n C.1.1 C.1.2.1 dL_law_830 rfl (lv_at hl 1 rfl) ?_
                                                  refine lv_aload_n C.1.1 C.1.2.1 dL_law_831 rfl (lv_at hl 0 rfl) ?_
                                                  refine lv_iload C.1.1 C.1.2.1 dL_law_832 (lv_at hl 4 rfl) ?_
                                                  refine lv_iconst (v := 1) C.1.1 C.1.2.1 dL_law_834 (by decide) ?_
                                                  refine lv_iadd C.1.1 C.1.2.1 dL_law_835 ?_
                                                  obtain ⟨hib, hf⟩ := zGd_el hf
                                                  refine va_sld C.1.1 C.1.2.1 hXs hbl hbA hS hib dL_law_836 ?_
                                                  refine lv_aload_n C.1.1 C.1.2.1 dL_law_837 rfl (lv_at hl 0 rfl) ?_
                                                  refine lv_iload C.1.1 C.1.2.1 dL_law_838 (lv_at hl 4 rfl) ?_
                                                  refine lv_iconst (v := 2) C.1.1 C.1.2.1 dL_law_840 (by decide) ?_
                                                  refine lv_iadd C.1.1 C.1.2.1 dL_law_841 ?_
                                                  obtain ⟨hib, hf⟩ := zGd_el hf
                                                  refine va_sld C.1.1 C.1.2.1 hXs hbl hbA hS hib dL_law_842 ?_
                                                  refine lv_aload_n C.1.1 C.1.2.1 dL_law_843 rfl (lv_at hl 3 rfl) ?_
                                                  obtain ⟨fl215, v216, hg, hf⟩ := zB2_el hf
                                                  obtain ⟨hPc, hDc⟩ := zCut (wc := (kX7 cI cB aH (aR 0) (aM 0) (aE 0) (aC 0) (aP 0) oH ++ kX4 cI cB aP oP ++ kL cL aX f)) hP hD [0, 1, 17, 18, 19, 20, 21, 22, 23, 24, 25, 26, 88] (by decide +kernel) rfl
                                                  have hFc := va_free (wc := (kX7 cI cB aH (aR 0) (aM 0) (aE 0) (aC 0) (aP 0) oH ++ kX4 cI cB aP oP ++ kL cL aX f)) hD hS hA [0, 1, 17, 18, 19, 20, 21, 22, 23, 24, 25, 26, 88] rfl
                                                  refine va_calli (vx_runSW (As := [.ref (aH 0), .int (xs (i + (1 : Int32)).toNatClampNeg), .int (xs (i + (2 : Int32)).toNatClampNeg), .ref aX]) (rest := []) C.1 (mtL_name l dC dI cI cB cL aH aR aP aM aE aC aX H.size f oH oP (xs (i + (1 : Int32)).toNatClampNeg) (xs (i + (2 : Int32)).toNatClampNeg) hlt hg) ⟨⟨rfl, rfl, Nat.le_of_ble_eq_true rfl, Nat.le_of_ble_eq_true rfl, pay_in C.1.2.2.2.2 (wIn wkL_name), List.mem_cons_self⟩, C.1.2.2.2.2 _ wkL_name, C.1.2.2.2.2 _ wnL, ⟨by decide +kernel, by decide +kernel⟩, zLawP, C.1.2.2.2.2 _ wlL_113, C.1.2.2.2.2 _ wtL_name⟩ (zPsX hK3 hZ hS hFc hPc hDc) rfl rfl hl.1 rfl (lv_room (Nat.le_of_ble_eq_true rfl)) dL_law_844 ⟨by show 89 + t + 1 ≤ 601024; omega, by show 42163 + 6 * t + 6 ≤ 7293034; omega⟩) hS (fun q _ h => hFc q h) hFc (fun r g2 t2 H1 locs1 ht hvm hw hB hz1 hk1 hS1 => ?_)
                                                  obtain ⟨hP1, -, hD1⟩ := hB
                                                  rw [ht] at hP1
                                                  obtain ⟨hP2, hD2⟩ := va_join (wr := (kX5 cI cB aR (aT 0) (aS 0) oR ++ kX6 cI cB aT oT ++ kX4 cI cB aS oS ++ kX1 cI cB aM (aN 0) (aY 0) (aK 0) ++ kA8 cI cB aN oN ++ kA8 cI cB aY oY ++ kX3 cI cB aK oK ++ kX2 cI cB aE (aQ 0) oE ++ kX3 cI cB aQ oQ ++ kX0 cI cB aC oC ++ kX10 cI cB bV (bP 0) (bS 0) (bW 0) (bN 0) (bO 0) mZ mY mB mL mU mJ mK mG mA ++ kX8 cI cB bP mP ++ kX8 cI cB bS mS ++ kX9 cI cB bW mW ++ kA8 cI cB bN mN ++ kA8 cI cB bO mO)) (w1 := (kX7 cI cB aH (aR 0) (aM 0) (aE 0) (aC 0) (aP 0) oH ++ kX4 cI cB aP oP ++ kL cL aX g2)) hP hD [0, 1, 17, 18, 19, 20, 21, 22, 23, 24, 25, 26, 88] [2, 3, 4, 5, 6, 7, 8, 9, 10, 11, 12, 13, 14, 15, 16, 27, 28, 29, 30, 31, 32, 33, 34, 35, 36, 37, 38, 39, 40, 41, 42, 43, 44, 45, 46, 47, 48, 49, 50, 51, 52, 53, 54, 55, 56, 57, 58, 59, 60, 61, 62, 63, 64, 65, 66, 67, 68, 69, 70, 71, 72, 73, 74, 75, 76, 77, 78, 79, 80, 81, 82, 83, 84, 85, 86, 87] rfl rfl (by decide +kernel) (by decide +kernel) hk1 hFc hP1 hD1
                                                  replace hP := hP2.sub (ws' := (([kX7 cI cB aH (aR 0) (aM 0) (aE 0) (aC 0) (aP 0) oH, kX5 cI cB aR (aT 0) (aS 0) oR, kX6 cI cB aT oT, kX4 cI cB aS oS, kX4 cI cB aP oP, kX1 cI cB aM (aN 0) (aY 0) (aK 0), kA8 cI cB aN oN, kA8 cI cB aY oY, kX3 cI cB aK oK, kX2 cI cB aE (aQ 0) oE, kX3 cI cB aQ oQ, kX0 cI cB aC oC, kX10 cI cB bV (bP 0) (bS 0) (bW 0) (bN 0) (bO 0) mZ mY mB mL mU mJ mK mG mA, kX8 cI cB bP mP, kX8 cI cB bS mS, kX9 cI cB bW mW, kA8 cI cB bN mN, kA8 cI cB bO mO, kL cL aX g2] : List va_W).flatten)) [76, 77, 0, 1, 2, 3, 4, 5, 6, 7, 8, 9, 10, 11, 12, 13, 14, 78, 79, 80, 81, 82, 83, 84, 85, 86, 87, 15, 16, 17, 18, 19, 20, 21, 22, 23, 24, 25, 26, 27, 28, 29, 30, 31, 32, 33, 34, 35, 36, 37, 38, 39, 40, 41, 42, 43, 44, 45, 46, 47, 48, 49, 50, 51, 52, 53, 54, 55, 56, 57, 58, 59, 60, 61, 62, 63, 64, 65, 66, 67, 68, 69, 70, 71, 72, 73, 74, 75, 88] rfl
                                                  replace hD := hD2.sub (ws' := (([kX7 cI cB aH (aR 0) (aM 0) (aE 0) (aC 0) (aP 0) oH, kX5 cI cB aR (aT 0) (aS 0) oR, kX6 cI cB aT oT, kX4 cI cB aS oS, kX4 cI cB aP oP, kX1 cI cB aM (aN 0) (aY 0) (aK 0), kA8 cI cB aN oN, kA8 cI cB aY oY, kX3 cI cB aK oK, kX2 cI cB aE (aQ 0) oE, kX3 cI cB aQ oQ, kX0 cI cB aC oC, kX10 cI cB bV (bP 0) (bS 0) (bW 0) (bN 0) (bO 0) mZ mY mB mL mU mJ mK mG mA, kX8 cI cB bP mP, kX8 cI cB bS mS, kX9 cI cB bW mW, kA8 cI cB bN mN, kA8 cI cB bO mO, kL cL aX g2] : List va_W).flatten)) [76, 77, 0, 1, 2, 3, 4, 5, 6, 7, 8, 9, 10, 11, 12, 13, 14, 78, 79, 80, 81, 82, 83, 84, 85, 86, 87, 15, 16, 17, 18, 19, 20, 21, 22, 23, 24, 25, 26, 27, 28, 29, 30, 31, 32, 33, 34, 35, 36, 37, 38, 39, 40, 41, 42, 43, 44, 45, 46, 47, 48, 49, 50, 51, 52, 53, 54, 55, 56, 57, 58, 59, 60, 61, 62, 63, 64, 65, 66, 67, 68, 69, 70, 71, 72, 73, 74, 75, 88] (by decide +kernel) rfl
                                                  replace hS := hS1
                                                  clear hPc hDc hFc hP1 hD1 hP2 hD2 hk1 hz1 ht hS1
                                                  generalize H1 = H at hP hS ⊢
                                                  generalize locs1 = locs at hS ⊢
                                                  generalize hgf : g2 = f at hP hD hw
                                                  replace hcs : 89 + t + 1 ≤ room_1.cells ∧ 42163 + 6 * t + 6 ≤ room_1.slots := ⟨by show 89 + t + 1 ≤ 601024; omega, by show 42163 + 6 * t + 6 ≤ 7293034; omega⟩
                                                  rcases hw with ⟨hw0, rfl⟩ | ⟨hw0, rfl, hg0⟩
                                                  · replace hf := zIf_t hf hw0
                                                    refine lv_istore (lv' := [(5, .int (1 : Int32)), (0, .ref b), (1, .ref (aH 0)), (2, .ref (bV 0)), (3, .ref aX), (4, .int i)]) C.1.1 C.1.2.1 dL_law_847 hl (by decide) rfl (fun ls hl => ?_)
                                                    refine lv_aload_n C.1.1 C.1.2.1 dL_law_849 rfl (lv_at hl 3 rfl) ?_
                                                    refine lv_aload_n C.1.1 C.1.2.1 dL_law_850 rfl (lv_at hl 1 rfl) ?_
                                                    refine lv_iload C.1.1 C.1.2.1 dL_law_851 (lv_at hl 5 rfl) ?_
                                                    refine lv_iconst (v := 1) C.1.1 C.1.2.1 dL_law_853 (by decide) ?_
                                                    refine lv_iadd C.1.1 C.1.2.1 dL_law_854 ?_
                                                    obtain ⟨hib, hf⟩ := zGd_el hf
                                                    refine va_sld C.1.1 C.1.2.1 hXs hbl hbA hS hib dL_law_855 ?_
                                                    refine lv_aload_n C.1.1 C.1.2.1 dL_law_856 rfl (lv_at hl 1 rfl) ?_
                                                    refine lv_iload C.1.1 C.1.2.1 dL_law_857 (lv_at hl 5 rfl) ?_
                                                    refine lv_iconst (v := 2) C.1.1 C.1.2.1 dL_law_859 (by decide) ?_
                                                    refine lv_iadd C.1.1 C.1.2.1 dL_law_860 ?_
                                                    obtain ⟨hib, hf⟩ := zGd_el hf
                                                    refine va_sld C.1.1 C.1.2.1 hXs hbl hbA hS hib dL_law_861 ?_
                                                    obtain ⟨v217, mZ_218, hg, hf⟩ := zB2_el hf
                                                    refine zLVi (As := [.int (xs (i + (1 : Int32)).toNatClampNeg), .int (xs (i + (2 : Int32)).toNatClampNeg)]) (rest := []) [kX7 cI cB aH (aR 0) (aM 0) (aE 0) (aC 0) (aP 0) oH, kX5 cI cB aR (aT 0) (aS 0) oR, kX6 cI cB aT oT, kX4 cI cB aS oS, kX4 cI cB aP oP, kX1 cI cB aM (aN 0) (aY 0) (aK 0), kA8 cI cB aN oN, kA8 cI cB aY oY, kX3 cI cB aK oK, kX2 cI cB aE (aQ 0) oE, kX3 cI cB aQ oQ, kX0 cI cB aC oC, kX10 cI cB bV (bP 0) (bS 0) (bW 0) (bN 0) (bO 0) mZ mY mB mL mU mJ mK mG mA, kX8 cI cB bP mP, kX8 cI cB bS mS, kX9 cI cB bW mW, kA8 cI cB bN mN, kA8 cI cB bO mO, kL cL aX f] [kX7 cI cB aH (aR 0) (aM 0) (aE 0) (aC 0) (aP 0) oH, kX5 cI cB aR (aT 0) (aS 0) oR, kX6 cI cB aT oT, kX4 cI cB aS oS, kX4 cI cB aP oP, kX1 cI cB aM (aN 0) (aY 0) (aK 0), kA8 cI cB aN oN, kA8 cI cB aY oY, kX3 cI cB aK oK, kX2 cI cB aE (aQ 0) oE, kX3 cI cB aQ oQ, kX0 cI cB aC oC, kX10 cI cB bV (bP 0) (bS 0) (bW 0) (bN 0) (bO 0) mZ_218 mY mB mL mU mJ mK mG mA, kX8 cI cB bP mP, kX8 cI cB bS mS, kX9 cI cB bW mW, kA8 cI cB bN mN, kA8 cI cB bO mO, kL cL aX f] C.1 hK hA hP hD hS [12, 13] [0, 1, 2, 3, 4, 5, 6, 7, 8, 9, 10, 11, 14, 15, 16, 17, 18] 0 19 (mtX10_name l dC dI cI cB bV bP bS bW bN bO H.size mZ mY mB mL mU mJ mK mG mA mP (xs (i + (1 : Int32)).toNatClampNeg) (xs (i + (2 : Int32)).toNatClampNeg) hg) (zCwV 2 C.1 wlL_118 wiX10_name ws_X10_name wnX10 wkX10_name rfl rfl (by decide +kernel) ⟨Nat.le_of_ble_eq_true rfl, Nat.le_of_ble_eq_true rfl⟩) rfl (by decide) rfl rfl rfl rfl rfl rfl rfl hl.1 (Nat.le_of_ble_eq_true rfl) dL_law_862 hcs rfl (fun H locs hP hD hS => ?_)
                                                    refine lv_istore (lv' := [(6, .int v217), (5, .int (1 : Int32)), (0, .ref b), (1, .ref (aH 0)), (2, .ref (bV 0)), (3, .ref aX), (4, .int i)]) C.1.1 C.1.2.1 dL_law_865 hl (by decide) rfl (fun ls hl => ?_)
                                                    refine lv_aload_n C.1.1 C.1.2.1 dL_law_867 rfl (lv_at hl 4 rfl) ?_
                                                    obtain ⟨v219, hg, hf⟩ := zB1_el hf
                                                    refine zLVi (As := []) (rest := []) [kX7 cI cB aH (aR 0) (aM 0) (aE 0) (aC 0) (aP 0) oH, kX5 cI cB aR (aT 0) (aS 0) oR, kX6 cI cB aT oT, kX4 cI cB aS oS, kX4 cI cB aP oP, kX1 cI cB aM (aN 0) (aY 0) (aK 0), kA8 cI cB aN oN, kA8 cI cB aY oY, kX3 cI cB aK oK, kX2 cI cB aE (aQ 0) oE, kX3 cI cB aQ oQ, kX0 cI cB aC oC, kX10 cI cB bV (bP 0) (bS 0) (bW 0) (bN 0) (bO 0) mZ_218 mY mB mL mU mJ mK mG mA, kX8 cI cB bP mP, kX8 cI cB bS mS, kX9 cI cB bW mW, kA8 cI cB bN mN, kA8 cI cB bO mO, kL cL aX f] [kX7 cI cB aH (aR 0) (aM 0) (aE 0) (aC 0) (aP 0) oH, kX5 cI cB aR (aT 0) (aS 0) oR, kX6 cI cB aT oT, kX4 cI cB aS oS, kX4 cI cB aP oP, kX1 cI cB aM (aN 0) (aY 0) (aK 0), kA8 cI cB aN oN, kA8 cI cB aY oY, kX3 cI cB aK oK, kX2 cI cB aE (aQ 0) oE, kX3 cI cB aQ oQ, kX0 cI cB aC oC, kX10 cI cB bV (bP 0) (bS 0) (bW 0) (bN 0) (bO 0) mZ_218 mY mB mL mU mJ mK mG mA, kX8 cI cB bP mP, kX8 cI cB bS mS, kX9 cI cB bW mW, kA8 cI cB bN mN, kA8 cI cB bO mO, kL cL aX f] C.1 hK hA hP hD hS [12] [0, 1, 2, 3, 4, 5, 6, 7, 8, 9, 10, 11, 13, 14, 15, 16, 17, 18] 0 19 (mtX10_thrown l dC dI cI cB bV bP bS bW bN bO H.size mZ_218 mY mB mL mU mJ mK mG mA hg) (zCwV 0 C.1 wlL_119 wiX10_thrown ws_X10_thrown wnX10 wkX10_thrown rfl rfl (by decide +kernel) ⟨Nat.le_of_ble_eq_true rfl, Nat.le_of_ble_eq_true rfl⟩) rfl (by decide) rfl rfl rfl rfl rfl rfl rfl hl.1 (Nat.le_of_ble_eq_true rfl) dL_law_868 hcs rfl (fun H locs hP hD hS => ?_)
                                                    refine lv_iload C.1.1 C.1.2.1 dL_law_871 (lv_at hl 1 rfl) ?_
                                                    refine lv_icmp_eq (tgt := 878) C.1.1 C.1.2.1 dL_law_873 (by decide) (fun hc => ?_) (fun hc => ?_)
                                                    · replace hf := zIf_t hf hc
                                                      refine lv_iload C.1.1 C.1.2.1 dL_law_878 (lv_at hl 1 rfl) ?_
                                                      refine lv_if_ne (tgt := 895) C.1.1 C.1.2.1 dL_law_880 (by decide) (fun _ => ?_) (fun hc => absurd hc (by decide))
                                                      refine lv_goto (tgt := 936) C.1.1 C.1.2.1 dL_law_895 (by decide) ?_
                                                      obtain ⟨x220, ex220, hf⟩ := zLet_el hf
                                                      refine lv_iinc (v := x220) (lv' := [(4, .int x220), (6, .int v217), (5, .int (1 : Int32)), (0, .ref b), (1, .ref (aH 0)), (2, .ref (bV 0)), (3, .ref aX)]) C.1.1 C.1.2.1 dL_law_936 hl (k := 6) rfl (by rw [ex220]; rfl) (by decide) rfl (fun ls hl => ?_)
                                                      refine lv_goto (tgt := 23) C.1.1 C.1.2.1 dL_law_939 (by decide) ?_
                                                      refine W.widen (k := 89 + (t + 1)) (n := 42163 + 6 * (t + 1)) (by omega) (by omega) ?_
                                                      exact ih x220 oH oR oT oS oP oN oY oK oE oQ oC mZ_218 mY mB mL mU mJ mK mG mA mP mS mW mN mO hf (t + 1) (by rw [ex220, hi]; exact zLawN t) (by omega) aS aP bP bS _ H locs hP hD hS ls (lv_sub hl [3, 4, 5, 6, 0] rfl)
                                                    · replace hf := zIf_f hf hc
                                                      refine lv_iconst (v := 0) C.1.1 C.1.2.1 dL_law_876 (by decide) ?_
                                                      cases hf
                                                  · replace hf := zIf_f hf (by rw [hw0]; decide)
                                                    refine lv_istore (lv' := [(5, .int (0 : Int32)), (0, .ref b), (1, .ref (aH 0)), (2, .ref (bV 0)), (3, .ref aX), (4, .int i)]) C.1.1 C.1.2.1 dL_law_847 hl (by decide) rfl (fun ls hl => ?_)
                                                    refine lv_aload_n C.1.1 C.1.2.1 dL_law_849 rfl (lv_at hl 3 rfl) ?_
                                                    refine lv_aload_n C.1.1 C.1.2.1 dL_law_850 rfl (lv_at hl 1 rfl) ?_
                                                    refine lv_iload C.1.1 C.1.2.1 dL_law_851 (lv_at hl 5 rfl) ?_
                                                    refine lv_iconst (v := 1) C.1.1 C.1.2.1 dL_law_853 (by decide) ?_
                                                    refine lv_iadd C.1.1 C.1.2.1 dL_law_854 ?_
                                                    obtain ⟨hib, hf⟩ := zGd_el hf
                                                    refine va_sld C.1.1 C.1.2.1 hXs hbl hbA hS hib dL_law_855 ?_
                                                    refine lv_aload_n C.1.1 C.1.2.1 dL_law_856 rfl (lv_at hl 1 rfl) ?_
                                                    refine lv_iload C.1.1 C.1.2.1 dL_law_857 (lv_at hl 5 rfl) ?_
                                                    refine lv_iconst (v := 2) C.1.1 C.1.2.1 dL_law_859 (by decide) ?_
                                                    refine lv_iadd C.1.1 C.1.2.1 dL_law_860 ?_
                                                    obtain ⟨hib, hf⟩ := zGd_el hf
                                                    refine va_sld C.1.1 C.1.2.1 hXs hbl hbA hS hib dL_law_861 ?_
                                                    obtain ⟨v221, mZ_222, hg, hf⟩ := zB2_el hf
                                                    refine zLVi (As := [.int (xs (i + (1 : Int32)).toNatClampNeg), .int (xs (i + (2 : Int32)).toNatClampNeg)]) (rest := []) [kX7 cI cB aH (aR 0) (aM 0) (aE 0) (aC 0) (aP 0) oH, kX5 cI cB aR (aT 0) (aS 0) oR, kX6 cI cB aT oT, kX4 cI cB aS oS, kX4 cI cB aP oP, kX1 cI cB aM (aN 0) (aY 0) (aK 0), kA8 cI cB aN oN, kA8 cI cB aY oY, kX3 cI cB aK oK, kX2 cI cB aE (aQ 0) oE, kX3 cI cB aQ oQ, kX0 cI cB aC oC, kX10 cI cB bV (bP 0) (bS 0) (bW 0) (bN 0) (bO 0) mZ mY mB mL mU mJ mK mG mA, kX8 cI cB bP mP, kX8 cI cB bS mS, kX9 cI cB bW mW, kA8 cI cB bN mN, kA8 cI cB bO mO, kL cL aX f] [kX7 cI cB aH (aR 0) (aM 0) (aE 0) (aC 0) (aP 0) oH, kX5 cI cB aR (aT 0) (aS 0) oR, kX6 cI cB aT oT, kX4 cI cB aS oS, kX4 cI cB aP oP, kX1 cI cB aM (aN 0) (aY 0) (aK 0), kA8 cI cB aN oN, kA8 cI cB aY oY, kX3 cI cB aK oK, kX2 cI cB aE (aQ 0) oE, kX3 cI cB aQ oQ, kX0 cI cB aC oC, kX10 cI cB bV (bP 0) (bS 0) (bW 0) (bN 0) (bO 0) mZ_222 mY mB mL mU mJ mK mG mA, kX8 cI cB bP mP, kX8 cI cB bS mS, kX9 cI cB bW mW, kA8 cI cB bN mN, kA8 cI cB bO mO, kL cL aX f] C.1 hK hA hP hD hS [12, 13] [0, 1, 2, 3, 4, 5, 6, 7, 8, 9, 10, 11, 14, 15, 16, 17, 18] 0 19 (mtX10_name l dC dI cI cB bV bP bS bW bN bO H.size mZ mY mB mL mU mJ mK mG mA mP (xs (i + (1 : Int32)).toNatClampNeg) (xs (i + (2 : Int32)).toNatClampNeg) hg) (zCwV 2 C.1 wlL_118 wiX10_name ws_X10_name wnX10 wkX10_name rfl rfl (by decide +kernel) ⟨Nat.le_of_ble_eq_true rfl, Nat.le_of_ble_eq_true rfl⟩) rfl (by decide) rfl rfl rfl rfl rfl rfl rfl hl.1 (Nat.le_of_ble_eq_true rfl) dL_law_862 hcs rfl (fun H locs hP hD hS => ?_)
                                                    refine lv_istore (lv' := [(6, .int v221), (5, .int (0 : Int32)), (0, .ref b), (1, .ref (aH 0)), (2, .ref (bV 0)), (3, .ref aX), (4, .int i)]) C.1.1 C.1.2.1 dL_law_865 hl (by decide) rfl (fun ls hl => ?_)
                                                    refine lv_aload_n C.1.1 C.1.2.1 dL_law_867 rfl (lv_at hl 4 rfl) ?_
                                                    obtain ⟨v223, hg, hf⟩ := zB1_el hf
                                                    refine zLVi (As := []) (rest := []) [kX7 cI cB aH (aR 0) (aM 0) (aE 0) (aC 0) (aP 0) oH, kX5 cI cB aR (aT 0) (aS 0) oR, kX6 cI cB aT oT, kX4 cI cB aS oS, kX4 cI cB aP oP, kX1 cI cB aM (aN 0) (aY 0) (aK 0), kA8 cI cB aN oN, kA8 cI cB aY oY, kX3 cI cB aK oK, kX2 cI cB aE (aQ 0) oE, kX3 cI cB aQ oQ, kX0 cI cB aC oC, kX10 cI cB bV (bP 0) (bS 0) (bW 0) (bN 0) (bO 0) mZ_222 mY mB mL mU mJ mK mG mA, kX8 cI cB bP mP, kX8 cI cB bS mS, kX9 cI cB bW mW, kA8 cI cB bN mN, kA8 cI cB bO mO, kL cL aX f] [kX7 cI cB aH (aR 0) (aM 0) (aE 0) (aC 0) (aP 0) oH, kX5 cI cB aR (aT 0) (aS 0) oR, kX6 cI cB aT oT, kX4 cI cB aS oS, kX4 cI cB aP oP, kX1 cI cB aM (aN 0) (aY 0) (aK 0), kA8 cI cB aN oN, kA8 cI cB aY oY, kX3 cI cB aK oK, kX2 cI cB aE (aQ 0) oE, kX3 cI cB aQ oQ, kX0 cI cB aC oC, kX10 cI cB bV (bP 0) (bS 0) (bW 0) (bN 0) (bO 0) mZ_222 mY mB mL mU mJ mK mG mA, kX8 cI cB bP mP, kX8 cI cB bS mS, kX9 cI cB bW mW, kA8 cI cB bN mN, kA8 cI cB bO mO, kL cL aX f] C.1 hK hA hP hD hS [12] [0, 1, 2, 3, 4, 5, 6, 7, 8, 9, 10, 11, 13, 14, 15, 16, 17, 18] 0 19 (mtX10_thrown l dC dI cI cB bV bP bS bW bN bO H.size mZ_222 mY mB mL mU mJ mK mG mA hg) (zCwV 0 C.1 wlL_119 wiX10_thrown ws_X10_thrown wnX10 wkX10_thrown rfl rfl (by decide +kernel) ⟨Nat.le_of_ble_eq_true rfl, Nat.le_of_ble_eq_true rfl⟩) rfl (by decide) rfl rfl rfl rfl rfl rfl rfl hl.1 (Nat.le_of_ble_eq_true rfl) dL_law_868 hcs rfl (fun H locs hP hD hS => ?_)
                                                    refine lv_iload C.1.1 C.1.2.1 dL_law_871 (lv_at hl 1 rfl) ?_
                                                    refine lv_icmp_eq (tgt := 878) C.1.1 C.1.2.1 dL_law_873 (by decide) (fun hc => ?_) (fun hc => ?_)
                                                    · replace hf := zIf_t hf hc
                                                      refine lv_iload C.1.1 C.1.2.1 dL_law_878 (lv_at hl 1 rfl) ?_
                                                      refine lv_if_ne (tgt := 895) C.1.1 C.1.2.1 dL_law_880 (by decide) (fun hc => absurd rfl hc) (fun _ => ?_)
                                                      refine lv_aload_n C.1.1 C.1.2.1 dL_law_883 rfl (lv_at hl 5 rfl) ?_
                                                      refine lv_iconst (v := 0) C.1.1 C.1.2.1 dL_law_884 (by decide) ?_
                                                      refine va_lald C.1.1 C.1.2.1 hK3.1 hP 88 2 rfl rfl (show inb 0 1 by decide) dL_law_885 ?_
                                                      rw [show f (0 : Int32).toNatClampNeg = v216.toInt64 from hg0]
                                                      refine lv_iload C.1.1 C.1.2.1 dL_law_886 (lv_at hl 0 rfl) ?_
                                                      refine lv_i2l C.1.1 C.1.2.1 dL_law_888 rfl ?_
                                                      refine W.lcmp C.1.1 C.1.2.1 dL_law_889 ?_
                                                      refine lv_if_eq (tgt := 895) C.1.1 C.1.2.1 dL_law_890 (by decide) (fun hc => ?_) (fun hc => ?_)
                                                      · replace hf := zIf_t hf hc
                                                        refine lv_goto (tgt := 936) C.1.1 C.1.2.1 dL_law_895 (by decide) ?_
                                                        obtain ⟨x224, ex224, hf⟩ := zLet_el hf
                                                        refine lv_iinc (v := x224) (lv' := [(4, .int x224), (6, .int v221), (5, .int (0 : Int32)), (0, .ref b), (1, .ref (aH 0)), (2, .ref (bV 0)), (3, .ref aX)]) C.1.1 C.1.2.1 dL_law_936 hl (k := 6) rfl (by rw [ex224]; rfl) (by decide) rfl (fun ls hl => ?_)
                                                        refine lv_goto (tgt := 23) C.1.1 C.1.2.1 dL_law_939 (by decide) ?_
                                                        refine W.widen (k := 89 + (t + 1)) (n := 42163 + 6 * (t + 1)) (by omega) (by omega) ?_
                                                        exact ih x224 oH oR oT oS oP oN oY oK oE oQ oC mZ_222 mY mB mL mU mJ mK mG mA mP mS mW mN mO hf (t + 1) (by rw [ex224, hi]; exact zLawN t) (by omega) aS aP bP bS _ H locs hP hD hS ls (lv_sub hl [3, 4, 5, 6, 0] rfl)
                                                      · replace hf := zIf_f hf hc
                                                        refine lv_iconst (v := 0) C.1.1 C.1.2.1 dL_law_893 (by decide) ?_
                                                        cases hf
                                                    · replace hf := zIf_f hf hc
                                                      refine lv_iconst (v := 0) C.1.1 C.1.2.1 dL_law_876 (by decide) ?_
                                                      cases hf
                                                · replace hf := zIf_f hf hk214
                                                  rcases Classical.em (x1 = 23) with hk225 | hk225
                                                  · replace hf := zIf_t hf hk225
                                                    refine lv_tableIn (off := 858) (tgt := 898) C.1.1 C.1.2.1 dL_law_40 (by rw [hk225] <;> decide +kernel) (by rw [hk225] <;> decide +kernel) (by rw [hk225] <;> decide +kernel) (by decide) ?_
                                                    refine lv_aload_n C.1.1 C.1.2.1 dL_law_898 rfl (lv_at hl 1 rfl) ?_
                                                    refine lv_aload_n C.1.1 C.1.2.1 dL_law_899 rfl (lv_at hl 0 rfl) ?_
                                                    refine lv_iload C.1.1 C.1.2.1 dL_law_900 (lv_at hl 4 rfl) ?_
                                                    refine lv_iconst (v := 1) C.1.1 C.1.2.1 dL_law_902 (by decide) ?_
                                                    refine lv_iadd C.1.1 C.1.2.1 dL_law_903 ?_
                                                    obtain ⟨hib, hf⟩ := zGd_el hf
                                                    refine va_sld C.1.1 C.1.2.1 hXs hbl hbA hS hib dL_law_904 ?_
                                                    obtain ⟨v226, hg, hf⟩ := zB1_el hf
                                                    refine zLVi (As := [.int (xs (i + (1 : Int32)).toNatClampNeg)]) (rest := []) [kX7 cI cB aH (aR 0) (aM 0) (aE 0) (aC 0) (aP 0) oH, kX5 cI cB aR (aT 0) (aS 0) oR, kX6 cI cB aT oT, kX4 cI cB aS oS, kX4 cI cB aP oP, kX1 cI cB aM (aN 0) (aY 0) (aK 0), kA8 cI cB aN oN, kA8 cI cB aY oY, kX3 cI cB aK oK, kX2 cI cB aE (aQ 0) oE, kX3 cI cB aQ oQ, kX0 cI cB aC oC, kX10 cI cB bV (bP 0) (bS 0) (bW 0) (bN 0) (bO 0) mZ mY mB mL mU mJ mK mG mA, kX8 cI cB bP mP, kX8 cI cB bS mS, kX9 cI cB bW mW, kA8 cI cB bN mN, kA8 cI cB bO mO, kL cL aX f] [kX7 cI cB aH (aR 0) (aM 0) (aE 0) (aC 0) (aP 0) oH, kX5 cI cB aR (aT 0) (aS 0) oR, kX6 cI cB aT oT, kX4 cI cB aS oS, kX4 cI cB aP oP, kX1 cI cB aM (aN 0) (aY 0) (aK 0), kA8 cI cB aN oN, kA8 cI cB aY oY, kX3 cI cB aK oK, kX2 cI cB aE (aQ 0) oE, kX3 cI cB aQ oQ, kX0 cI cB aC oC, kX10 cI cB bV (bP 0) (bS 0) (bW 0) (bN 0) (bO 0) mZ mY mB mL mU mJ mK mG mA, kX8 cI cB bP mP, kX8 cI cB bS mS, kX9 cI cB bW mW, kA8 cI cB bN mN, kA8 cI cB bO mO, kL cL aX f] C.1 hK hA hP hD hS [0, 1, 2, 4] [3, 5, 6, 7, 8, 9, 10, 11, 12, 13, 14, 15, 16, 17, 18] 0 19 (mtX7_count l dC dI cI cB aH aR aT aS aP aM aE aC H.size oH oR oT oP (xs (i + (1 : Int32)).toNatClampNeg) hg) (zCwV 1 C.1 wlL_122 wiX7_count ws_X7_count wnX7 wkX7_count rfl rfl (by decide +kernel) ⟨Nat.le_of_ble_eq_true rfl, Nat.le_of_ble_eq_true rfl⟩) rfl (by decide) rfl rfl rfl rfl rfl rfl rfl hl.1 (Nat.le_of_ble_eq_true rfl) dL_law_905 hcs rfl (fun H locs hP hD hS => ?_)
                                                    refine lv_aload_n C.1.1 C.1.2.1 dL_law_908 rfl (lv_at hl 2 rfl) ?_
                                                    refine lv_aload_n C.1.1 C.1.2.1 dL_law_909 rfl (lv_at hl 0 rfl) ?_
                                                    refine lv_iload C.1.1 C.1.2.1 dL_law_910 (lv_at hl 4 rfl) ?_
                                                    refine lv_iconst (v := 1) C.1.1 C.1.2.1 dL_law_912 (by decide) ?_
                                                    refine lv_iadd C.1.1 C.1.2.1 dL_law_913 ?_
                                                    obtain ⟨hib, hf⟩ := zGd_el hf
                                                    refine va_sld C.1.1 C.1.2.1 hXs hbl hbA hS hib dL_law_914 ?_
                                                    obtain ⟨v227, mZ_228, hg, hf⟩ := zB2_el hf
                                                    refine zLVi (As := [.int (xs (i + (1 : Int32)).toNatClampNeg)]) (rest := [.int v226]) [kX7 cI cB aH (aR 0) (aM 0) (aE 0) (aC 0) (aP 0) oH, kX5 cI cB aR (aT 0) (aS 0) oR, kX6 cI cB aT oT, kX4 cI cB aS oS, kX4 cI cB aP oP, kX1 cI cB aM (aN 0) (aY 0) (aK 0), kA8 cI cB aN oN, kA8 cI cB aY oY, kX3 cI cB aK oK, kX2 cI cB aE (aQ 0) oE, kX3 cI cB aQ oQ, kX0 cI cB aC oC, kX10 cI cB bV (bP 0) (bS 0) (bW 0) (bN 0) (bO 0) mZ mY mB mL mU mJ mK mG mA, kX8 cI cB bP mP, kX8 cI cB bS mS, kX9 cI cB bW mW, kA8 cI cB bN mN, kA8 cI cB bO mO, kL cL aX f] [kX7 cI cB aH (aR 0) (aM 0) (aE 0) (aC 0) (aP 0) oH, kX5 cI cB aR (aT 0) (aS 0) oR, kX6 cI cB aT oT, kX4 cI cB aS oS, kX4 cI cB aP oP, kX1 cI cB aM (aN 0) (aY 0) (aK 0), kA8 cI cB aN oN, kA8 cI cB aY oY, kX3 cI cB aK oK, kX2 cI cB aE (aQ 0) oE, kX3 cI cB aQ oQ, kX0 cI cB aC oC, kX10 cI cB bV (bP 0) (bS 0) (bW 0) (bN 0) (bO 0) mZ_228 mY mB mL mU mJ mK mG mA, kX8 cI cB bP mP, kX8 cI cB bS mS, kX9 cI cB bW mW, kA8 cI cB bN mN, kA8 cI cB bO mO, kL cL aX f] C.1 hK hA hP hD hS [12, 13] [0, 1, 2, 3, 4, 5, 6, 7, 8, 9, 10, 11, 14, 15, 16, 17, 18] 0 19 (mtX10_count l dC dI cI cB bV bP bS bW bN bO H.size mZ mY mB mL mU mJ mK mG mA mP (xs (i + (1 : Int32)).toNatClampNeg) hg) (zCwV 1 C.1 wlL_125 wiX10_count ws_X10_count wnX10 wkX10_count rfl rfl (by decide +kernel) ⟨Nat.le_of_ble_eq_true rfl, Nat.le_of_ble_eq_true rfl⟩) rfl (by decide) rfl rfl rfl rfl rfl rfl rfl hl.1 (Nat.le_of_ble_eq_true rfl) dL_law_915 hcs rfl (fun H locs hP hD hS => ?_)
                                                    refine lv_icmp_eq (tgt := 936) C.1.1 C.1.2.1 dL_law_918 (by decide) (fun hc => ?_) (fun hc => ?_)
                                                    · replace hf := zIf_t hf hc
                                                      obtain ⟨x229, ex229, hf⟩ := zLet_el hf
                                                      refine lv_iinc (v := x229) (lv' := [(4, .int x229), (0, .ref b), (1, .ref (aH 0)), (2, .ref (bV 0)), (3, .ref aX)]) C.1.1 C.1.2.1 dL_law_936 hl (k := 4) rfl (by rw [ex229]; rfl) (by decide) rfl (fun ls hl => ?_)
                                                      refine lv_goto (tgt := 23) C.1.1 C.1.2.1 dL_law_939 (by decide) ?_
                                                      refine W.widen (k := 89 + (t + 1)) (n := 42163 + 6 * (t + 1)) (by omega) (by omega) ?_
                                                      exact ih x229 oH oR oT oS oP oN oY oK oE oQ oC mZ_228 mY mB mL mU mJ mK mG mA mP mS mW mN mO hf (t + 1) (by rw [ex229, hi]; exact zLawN t) (by omega) aS aP bP bS _ H locs hP hD hS ls (lv_sub hl [1, 2, 3, 4, 0] rfl)
                                                    · replace hf := zIf_f hf hc
                                                      refine lv_iconst (v := 0) C.1.1 C.1.2.1 dL_law_921 (by decide) ?_
                                                      cases hf
                                                  · replace hf := zIf_f hf hk225
                                                    rcases Classical.em (x1 = 24) with hk230 | hk230
                                                    · replace hf := zIf_t hf hk230
                                                      refine lv_tableIn (off := 883) (tgt := 923) C.1.1 C.1.2.1 dL_law_40 (by rw [hk230] <;> decide +kernel) (by rw [hk230] <;> decide +kernel) (by rw [hk230] <;> decide +kernel) (by decide) ?_
                                                      refine lv_aload_n C.1.1 C.1.2.1 dL_law_923 rfl (lv_at hl 1 rfl) ?_
                                                      obtain ⟨v231, hg, hf⟩ := zB1_el hf
                                                      refine zLVi (As := []) (rest := []) [kX7 cI cB aH (aR 0) (aM 0) (aE 0) (aC 0) (aP 0) oH, kX5 cI cB aR (aT 0) (aS 0) oR, kX6 cI cB aT oT, kX4 cI cB aS oS, kX4 cI cB aP oP, kX1 cI cB aM (aN 0) (aY 0) (aK 0), kA8 cI cB aN oN, kA8 cI cB aY oY, kX3 cI cB aK oK, kX2 cI cB aE (aQ 0) oE, kX3 cI cB aQ oQ, kX0 cI cB aC oC, kX10 cI cB bV (bP 0) (bS 0) (bW 0) (bN 0) (bO 0) mZ mY mB mL mU mJ mK mG mA, kX8 cI cB bP mP, kX8 cI cB bS mS, kX9 cI cB bW mW, kA8 cI cB bN mN, kA8 cI cB bO mO, kL cL aX f] [kX7 cI cB aH (aR 0) (aM 0) (aE 0) (aC 0) (aP 0) oH, kX5 cI cB aR (aT 0) (aS 0) oR, kX6 cI cB aT oT, kX4 cI cB aS oS, kX4 cI cB aP oP, kX1 cI cB aM (aN 0) (aY 0) (aK 0), kA8 cI cB aN oN, kA8 cI cB aY oY, kX3 cI cB aK oK, kX2 cI cB aE (aQ 0) oE, kX3 cI cB aQ oQ, kX0 cI cB aC oC, kX10 cI cB bV (bP 0) (bS 0) (bW 0) (bN 0) (bO 0) mZ mY mB mL mU mJ mK mG mA, kX8 cI cB bP mP, kX8 cI cB bS mS, kX9 cI cB bW mW, kA8 cI cB bN mN, kA8 cI cB bO mO, kL cL aX f] C.1 hK hA hP hD hS [0] [1, 2, 3, 4, 5, 6, 7, 8, 9, 10, 11, 12, 13, 14, 15, 16, 17, 18] 0 19 (mtX7_trouble l dC dI cI cB aH aR aP aM aE aC H.size oH hg) (zCwV 0 C.1 wlL_126 wiX7_trouble ws_X7_trouble wnX7 wkX7_trouble rfl rfl (by decide +kernel) ⟨Nat.le_of_ble_eq_true rfl, Nat.le_of_ble_eq_true rfl⟩) rfl (by decide) rfl rfl rfl rfl rfl rfl rfl hl.1 (Nat.le_of_ble_eq_true rfl) dL_law_924 hcs rfl (fun H locs hP hD hS => ?_)
                                                      refine lv_aload_n C.1.1 C.1.2.1 dL_law_927 rfl (lv_at hl 2 rfl) ?_
                                                      obtain ⟨v232, mZ_233, hg, hf⟩ := zB2_el hf
                                                      refine zLVi (As := []) (rest := [.int v231]) [kX7 cI cB aH (aR 0) (aM 0) (aE 0) (aC 0) (aP 0) oH, kX5 cI cB aR (aT 0) (aS 0) oR, kX6 cI cB aT oT, kX4 cI cB aS oS, kX4 cI cB aP oP, kX1 cI cB aM (aN 0) (aY 0) (aK 0), kA8 cI cB aN oN, kA8 cI cB aY oY, kX3 cI cB aK oK, kX2 cI cB aE (aQ 0) oE, kX3 cI cB aQ oQ, kX0 cI cB aC oC, kX10 cI cB bV (bP 0) (bS 0) (bW 0) (bN 0) (bO 0) mZ mY mB mL mU mJ mK mG mA, kX8 cI cB bP mP, kX8 cI cB bS mS, kX9 cI cB bW mW, kA8 cI cB bN mN, kA8 cI cB bO mO, kL cL aX f] [kX7 cI cB aH (aR 0) (aM 0) (aE 0) (aC 0) (aP 0) oH, kX5 cI cB aR (aT 0) (aS 0) oR, kX6 cI cB aT oT, kX4 cI cB aS oS, kX4 cI cB aP oP, kX1 cI cB aM (aN 0) (aY 0) (aK 0), kA8 cI cB aN oN, kA8 cI cB aY oY, kX3 cI cB aK oK, kX2 cI cB aE (aQ 0) oE, kX3 cI cB aQ oQ, kX0 cI cB aC oC, kX10 cI cB bV (bP 0) (bS 0) (bW 0) (bN 0) (bO 0) mZ_233 mY mB mL mU mJ mK mG mA, kX8 cI cB bP mP, kX8 cI cB bS mS, kX9 cI cB bW mW, kA8 cI cB bN mN, kA8 cI cB bO mO, kL cL aX f] C.1 hK hA hP hD hS [12] [0, 1, 2, 3, 4, 5, 6, 7, 8, 9, 10, 11, 13, 14, 15, 16, 17, 18] 0 19 (mtX10_trouble l dC dI cI cB bV bP bS bW bN bO H.size mZ mY mB mL mU mJ mK mG mA hg) (zCwV 0 C.1 wlL_129 wiX10_trouble ws_X10_trouble wnX10 wkX10_trouble rfl rfl (by decide +kernel) ⟨Nat.le_of_ble_eq_true rfl, Nat.le_of_ble_eq_true rfl⟩) rfl (by decide) rfl rfl rfl rfl rfl rfl rfl hl.1 (Nat.le_of_ble_eq_true rfl) dL_law_928 hcs rfl (fun H locs hP hD hS => ?_)
                                                      refine lv_icmp_eq (tgt := 936) C.1.1 C.1.2.1 dL_law_931 (by decide) (fun hc => ?_) (fun hc => ?_)
                                                      · replace hf := zIf_t hf hc
                                                        obtain ⟨x234, ex234, hf⟩ := zLet_el hf
                                                        refine lv_iinc (v := x234) (lv' := [(4, .int x234), (0, .ref b), (1, .ref (aH 0)), (2, .ref (bV 0)), (3, .ref aX)]) C.1.1 C.1.2.1 dL_law_936 hl (k := 4) rfl (by rw [ex234]; rfl) (by decide) rfl (fun ls hl => ?_)
                                                        refine lv_goto (tgt := 23) C.1.1 C.1.2.1 dL_law_939 (by decide) ?_
                                                        refine W.widen (k := 89 + (t + 1)) (n := 42163 + 6 * (t + 1)) (by omega) (by omega) ?_
                                                        exact ih x234 oH oR oT oS oP oN oY oK oE oQ oC mZ_233 mY mB mL mU mJ mK mG mA mP mS mW mN mO hf (t + 1) (by rw [ex234, hi]; exact zLawN t) (by omega) aS aP bP bS _ H locs hP hD hS ls (lv_sub hl [1, 2, 3, 4, 0] rfl)
                                                      · replace hf := zIf_f hf hc
                                                        refine lv_iconst (v := 0) C.1.1 C.1.2.1 dL_law_934 (by decide) ?_
                                                        cases hf
                                                    · replace hf := zIf_f hf hk230
                                                      have nhk2 := lv_neT hk2 (a := 0) (by decide)
                                                      have nhk14 := lv_neT hk14 (a := 1) (by decide)
                                                      have nhk21 := lv_neT hk21 (a := 2) (by decide)
                                                      have nhk42 := lv_neT hk42 (a := 3) (by decide)
                                                      have nhk47 := lv_neT hk47 (a := 4) (by decide)
                                                      have nhk52 := lv_neT hk52 (a := 5) (by decide)
                                                      have nhk60 := lv_neT hk60 (a := 6) (by decide)
                                                      have nhk65 := lv_neT hk65 (a := 7) (by decide)
                                                      have nhk71 := lv_neT hk71 (a := 8) (by decide)
                                                      have nhk81 := lv_neT hk81 (a := 9) (by decide)
                                                      have nhk90 := lv_neT hk90 (a := 10) (by decide)
                                                      have nhk100 := lv_neT hk100 (a := 11) (by decide)
                                                      have nhk110 := lv_neT hk110 (a := 12) (by decide)
                                                      have nhk120 := lv_neT hk120 (a := 13) (by decide)
                                                      have nhk130 := lv_neT hk130 (a := 14) (by decide)
                                                      have nhk140 := lv_neT hk140 (a := 15) (by decide)
                                                      have nhk150 := lv_neT hk150 (a := 16) (by decide)
                                                      have nhk162 := lv_neT hk162 (a := 17) (by decide)
                                                      have nhk167 := lv_neT hk167 (a := 18) (by decide)
                                                      have nhk180 := lv_neT hk180 (a := 19) (by decide)
                                                      have nhk194 := lv_neT hk194 (a := 20) (by decide)
                                                      have nhk204 := lv_neT hk204 (a := 21) (by decide)
                                                      have nhk214 := lv_neT hk214 (a := 22) (by decide)
                                                      have nhk225 := lv_neT hk225 (a := 23) (by decide)
                                                      have nhk230 := lv_neT hk230 (a := 24) (by decide)
                                                      refine lv_tableOut (tgt := 936) C.1.1 C.1.2.1 dL_law_40 (by omega) (by decide) ?_
                                                      obtain ⟨x235, ex235, hf⟩ := zLet_el hf
                                                      refine lv_iinc (v := x235) (lv' := [(4, .int x235), (0, .ref b), (1, .ref (aH 0)), (2, .ref (bV 0)), (3, .ref aX)]) C.1.1 C.1.2.1 dL_law_936 hl (k := 4) rfl (by rw [ex235]; rfl) (by decide) rfl (fun ls hl => ?_)
                                                      refine lv_goto (tgt := 23) C.1.1 C.1.2.1 dL_law_939 (by decide) ?_
                                                      refine W.widen (k := 89 + (t + 1)) (n := 42163 + 6 * (t + 1)) (by omega) (by omega) ?_
                                                      exact ih x235 oH oR oT oS oP oN oY oK oE oQ oC mZ mY mB mL mU mJ mK mG mA mP mS mW mN mO hf (t + 1) (by rw [ex235, hi]; exact zLawN t) (by omega) aS aP bP bS _ H locs hP hD hS ls (lv_sub hl [1, 2, 3, 4, 0] rfl)
