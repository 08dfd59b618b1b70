theorem dL_name_0 : decode cL_name 0 = .ok (.aload_n 3, 1) := by decide +kernel
theorem dL_name_1 : decode cL_name 1 = .ok (.iconst 0, 1) := by decide +kernel
theorem dL_name_2 : decode cL_name 2 = .ok (.aload_n 0, 1) := by decide +kernel
theorem dL_name_3 : decode cL_name 3 = .ok (.iload_n 1, 1) := by decide +kernel
theorem dL_name_4 : decode cL_name 4 = .ok (.iload_n 2, 1) := by decide +kernel
theorem dL_name_5 : decode cL_name 5 = .ok (.invokevirtual 7, 3) := by decide +kernel
theorem dL_name_8 : decode cL_name 8 = .ok (.i2l, 1) := by decide +kernel
theorem dL_name_9 : decode cL_name 9 = .ok (.lastore, 1) := by decide +kernel
theorem dL_name_10 : decode cL_name 10 = .ok (.goto 7, 3) := by decide +kernel
theorem dL_name_13 : decode cL_name 13 = .ok (.astore 4, 2) := by decide +kernel
theorem dL_name_15 : decode cL_name 15 = .ok (.iconst 1, 1) := by decide +kernel
theorem dL_name_16 : decode cL_name 16 = .ok (.ireturn, 1) := by decide +kernel
theorem dL_name_17 : decode cL_name 17 = .ok (.iconst 0, 1) := by decide +kernel
theorem dL_name_18 : decode cL_name 18 = .ok (.ireturn, 1) := by decide +kernel
/-! own part: the law's own 'name', which catches what the class's throws -/
def kL (cL : ClassId) (aX : Nat) (f : Nat → Int64) : va_W := [(aX, .inl (cL, 1, .inr (.inl f)))]
abbrev rL_name : Room := { frames := 8, cells := 1, slots := 6, locals := 150 }
abbrev zQn (D : va_G) (tys : zTy) (A : Nat → Prop) (fl v : Int32) (wf : (Nat → Int64) → va_W) : Array Value → State → Outcome → State → Prop := va_Qi (fun r g => (fl = 1 ∧ r = 1) ∨ (fl = 0 ∧ r = 0 ∧ g 0 = v.toInt64)) (fun (g : Nat → Int64) t => zEnd D tys A (wf g) () t) A
theorem zRg {p : Program} {l : Launch} {e : Env} {R : Room} {s : State} {m : MethodId} {args : Array Value} {below : List Frame} {meth : Method} {c : Code} {H : Heap} {locs : List Loc} {cells slots : Nat} {D : va_G} {tys : zTy} {A : Nat → Prop} {cc : ByteArray} {nL pc : Nat} {Ts : List Cond} {own : String} {ls : Array Slot} {fl v r : Int32} {wf : (Nat → Int64) → va_W} (g : Nat → Int64) (hg : (fl = 1 ∧ r = 1) ∨ (fl = 0 ∧ r = 0 ∧ g 0 = v.toInt64)) (C : zCx p m meth c cc nL (some .int) s args Ts own) (hK : zK D tys s) (hP : va_P D vwCl (wf g) H) (hD : va_D A (wf g)) (hS : va_S A s.heap H locs) (hd : decode cc pc = .ok (.ireturn, 1)) : W p l e R s m args below meth c H locs cells slots (MQ below (zQn D tys A fl v wf) args s cells slots A) (F0 m pc ls [.int r]) :=
  W.iret C.1.1 C.1.2.1 C.2.1 (fun t ht hW => ⟨⟨r, g, rfl, hg, by rw [ht]; exact hP, zK.warm hW hK, hD⟩, hS.F ht⟩) hS.2.2 hd C.2.2
theorem zPvX {s : State} {H : Heap} {locs : List Loc} {D : va_G} {tys : zTy} {A : Nat → Prop} {wc : va_W} {b : Nat} {Cn : String} {T : u_T} {N ci q0 : Nat} {fs : List Value} (hK : zK D tys s) (hX : zSx A s s.heap) (hS : va_S A s.heap H locs) (hFc : ∀ q, va_A wc H.size q → A q) (hPc : va_P D vwCl wc H) (hDc : va_D A wc) (hq : wc[q0]? = some (b, .inr (ci, fs))) (hcl : vwCl[ci]? = some (Cn, T, N)) {vs : List Value} : PreV s H Cn b (zPreX D tys (.ref b :: vs) H.size wc) vs := ⟨zPreX_blind, va_recv hK.1 hPc (ci := ci) (q0 := q0) hcl hq, fun U hU hW => ⟨rfl, by rw [hU], by rw [hU]; exact hPc, zK.warm hW hK, hDc.weaken (fun _ _ _ _ => trivial), by rw [hU]; exact vx_Zq.moved hW.alike ((hX.1.kept hS.2.1).narrow hFc), by rw [hU]; exact vx_Zq.moved hW.alike ((hX.2.kept hS.2.1).narrow hFc)⟩⟩
set_option maxHeartbeats 4000000 in
set_option maxRecDepth 100000 in
theorem mtL_name (l : Launch) (dC : Nat → ClassId) (dI : Nat → Nat → Nat) (cI cB cL : ClassId) (aH aR aP aM aE aC : Nat → Nat) (aX sz : Nat) (f : Nat → Int64) (oH oP : Rc) (p1 p2 : Int32) {fl v : Int32} (hlt : l.stackTraces = false) (hf : fX7_name oP p1 p2 = some (fl, v)) : Met l yL_name (Cond.codeWith yL_name cL_name 5 (some .int) [(0, 10, 13, 13)] :: lw_g) rL_name (zPreX (dC, dI) [(cI, .int), (cB, .byte), (cL, .long)] [.ref (aH 0), .int p1, .int p2, .ref aX] sz (kX7 cI cB aH (aR 0) (aM 0) (aE 0) (aC 0) (aP 0) oH ++ kX4 cI cB aP oP ++ kL cL aX f)) (zQn (dC, dI) [(cI, .int), (cB, .byte), (cL, .long)] (va_A (kX7 cI cB aH (aR 0) (aM 0) (aE 0) (aC 0) (aP 0) oH ++ kX4 cI cB aP oP ++ kL cL aX f) sz) fl v (fun g => (kX7 cI cB aH (aR 0) (aM 0) (aE 0) (aC 0) (aP 0) oH ++ kX4 cI cB aP oP ++ kL cL aX g))) 1 6 (va_A (kX7 cI cB aH (aR 0) (aM 0) (aE 0) (aC 0) (aP 0) oH ++ kX4 cI cB aP oP ++ kL cL aX f) sz) := by
  refine va_MetW (cc := cL_name) (maxL := 5) (ret := some .int) (hh := [(0, 10, 13, 13)]) (by decide) rfl ?_
  intro p e s m args below meth c s₁ B hml hv
  obtain ⟨rfl, hsz, hP, hK, hD0, hX⟩ := hv
  subst hsz
  have hl := lv_entry ([.ref (aH 0), .int p1, .int p2, .ref aX]) (n := 5) (Nat.le_of_ble_eq_true rfl)
  rw [lg_entry_eq]
  have C : zCx p m meth c cL_name 5 (some .int) s ([.ref (aH 0), .int p1, .int p2, .ref aX] : List Value).toArray lw_g RL := ⟨⟨B.exec, B.bytes, hml, findClass_of_methodNamed B.named, fun w hw => atoms_spec (ws := Cond.codeWith yL_name cL_name 5 (some .int) [(0, 10, 13, 13)] :: lw_g) B.pre w (List.mem_cons_of_mem _ hw)⟩, B.returns, B.notSynchronized⟩
  have hTb : c.exceptionTable.toList = tableOf [(0, 10, 13, 13)] := vx_table (x := yL_name) B (atoms_spec (ws := Cond.codeWith yL_name cL_name 5 (some .int) [(0, 10, 13, 13)] :: lw_g) B.pre _ List.mem_cons_self)
  have hD := hD0.self (sz := s.heap.size)
  have hS : va_S (va_A (kX7 cI cB aH (aR 0) (aM 0) (aE 0) (aC 0) (aP 0) oH ++ kX4 cI cB aP oP ++ kL cL aX f) s.heap.size) s.heap s.heap [] := va_S.rf
  have hA : ∀ q : Nat, s.heap.size ≤ q → va_A (kX7 cI cB aH (aR 0) (aM 0) (aE 0) (aC 0) (aP 0) oH ++ kX4 cI cB aP oP ++ kL cL aX f) s.heap.size q := fun q h => Or.inr h
  generalize va_A (kX7 cI cB aH (aR 0) (aM 0) (aE 0) (aC 0) (aP 0) oH ++ kX4 cI cB aP oP ++ kL cL aX f) s.heap.size = A at hD hS hA hX ⊢
  generalize ([.ref (aH 0), .int p1, .int p2, .ref aX] : List Value).toArray = args at C ⊢
  generalize (lg_sl ([.ref (aH 0), .int p1, .int p2, .ref aX]) ++ List.replicate (5 - (lg_sl ([.ref (aH 0), .int p1, .int p2, .ref aX])).length) Slot.unset).toArray = ls at hl ⊢
  have hl : lv_has ls 5 [(0, .ref (aH 0)), (1, .int p1), (2, .int p2), (3, .ref aX)] := hl
  have hK2 : zK (dC, dI) [(cI, .int), (cB, .byte)] s := ⟨hK.1.sub [0, 1] rfl, hK.2⟩
  refine lv_aload_n C.1.1 C.1.2.1 dL_name_0 rfl (lv_at hl 3 rfl) ?_
  refine lv_iconst (v := 0) C.1.1 C.1.2.1 dL_name_1 (by decide) ?_
  refine lv_aload_n C.1.1 C.1.2.1 dL_name_2 rfl (lv_at hl 0 rfl) ?_
  refine lv_iload_n C.1.1 C.1.2.1 dL_name_3 rfl (lv_at hl 1 rfl) ?_
  refine lv_iload_n C.1.1 C.1.2.1 dL_name_4 rfl (lv_at hl 2 rfl) ?_
  have hPc := hP.sub (ws' := (kX7 cI cB aH (aR 0) (aM 0) (aE 0) (aC 0) (aP 0) oH ++ kX4 cI cB aP oP)) [0, 1, 2, 3, 4, 5, 6, 7, 8, 9, 10, 11] rfl
  have hDc := hD.sub (ws' := (kX7 cI cB aH (aR 0) (aM 0) (aE 0) (aC 0) (aP 0) oH ++ kX4 cI cB aP oP)) [0, 1, 2, 3, 4, 5, 6, 7, 8, 9, 10, 11] (by decide +kernel) rfl
  have hFc := va_free (wc := (kX7 cI cB aH (aR 0) (aM 0) (aE 0) (aC 0) (aP 0) oH ++ kX4 cI cB aP oP)) hD hS hA [0, 1, 2, 3, 4, 5, 6, 7, 8, 9, 10, 11] rfl
  have hM := mtX7_name l dC dI cI cB aH aR aP aM aE aC s.heap.size oH oP p1 p2 hlt hf
  refine vx_calli (vx_runV (As := [.int p1, .int p2]) (rest := [.int 0, .ref aX]) C.1 hM ⟨callB_of 2 C.1.2.2.2.2 (wIn wkX7_name) rfl rfl rfl (C.1.2.2.2.2 _ wnX7) (C.1.2.2.2.2 _ wlL_7) (by decide +kernel) ⟨Nat.le_of_ble_eq_true rfl, Nat.le_of_ble_eq_true rfl⟩, C.1.2.2.2.2 _ wiX7_name, C.1.2.2.2.2 _ ws_X7_name⟩ (zPvX (q0 := 0) hK2 hX hS hFc hPc hDc rfl rfl) rfl rfl hl.1 rfl (lv_room (Nat.le_of_ble_eq_true rfl)) dL_name_5 ⟨Nat.le_of_ble_eq_true rfl, Nat.le_of_ble_eq_true rfl⟩) hS (fun q _ h => hFc q h) hFc (fun q _ h => hFc q h) (fun E ce q9 u t H1 locs1 ht hvm hp hB hz1 hk1 hS1 hce hcv hcl => ?_) (fun r u t H1 locs1 ht hvm hw hB hz1 hk1 hS1 => ?_)
  · obtain ⟨rfl, hP1, hD1⟩ := hB
    rw [ht] at hP1
    obtain ⟨hP2, hD2⟩ := va_join (wr := kL cL aX f) (w1 := (kX7 cI cB aH (aR 0) (aM 0) (aE 0) (aC 0) (aP 0) oH ++ kX4 cI cB aP oP)) hP hD [0, 1, 2, 3, 4, 5, 6, 7, 8, 9, 10, 11] [12] rfl rfl (by decide +kernel) (by decide +kernel) hk1 hFc hP1 hD1
    have hP := hP2.sub (ws' := (kX7 cI cB aH (aR 0) (aM 0) (aE 0) (aC 0) (aP 0) oH ++ kX4 cI cB aP oP ++ kL cL aX f)) [1, 2, 3, 4, 5, 6, 7, 8, 9, 10, 11, 12, 0] rfl
    have hD := hD2.sub (ws' := (kX7 cI cB aH (aR 0) (aM 0) (aE 0) (aC 0) (aP 0) oH ++ kX4 cI cB aP oP ++ kL cL aX f)) [1, 2, 3, 4, 5, 6, 7, 8, 9, 10, 11, 12, 0] (by decide +kernel) rfl
    refine vx_catch (E := "java/util/NoSuchElementException") (name := "java/util/NoSuchElementException") C.1.2.2.2.1 [] _ [] hTb (fun z hz => by cases hz) rfl (by decide) (C.1.2.2.2.2 _ wxL_13) (zCast hcl) hce hcv hcl ?_
    refine W.widen (k := 1) (n := 6) (Nat.le_refl _) (Nat.le_refl _) ?_
    refine lv_astore (lv' := [(4, .ref q9), (0, .ref (aH 0)), (1, .int p1), (2, .int p2), (3, .ref aX)]) C.1.1 C.1.2.1 dL_name_13 hl (by decide) rfl (fun ls hl => ?_)
    refine lv_iconst (v := 1) C.1.1 C.1.2.1 dL_name_15 (by decide) ?_
    exact zRg f (Or.inl ⟨hp, rfl⟩) C hK hP hD hS1 dL_name_16
  · obtain ⟨hP1, -, hD1⟩ := hB
    rw [ht] at hP1
    obtain ⟨hw0, hw1⟩ := hw
    subst hw1
    obtain ⟨hP2, hD2⟩ := va_join (wr := kL cL aX f) (w1 := (kX7 cI cB aH (aR 0) (aM 0) (aE 0) (aC 0) (aP 0) oH ++ kX4 cI cB aP oP)) hP hD [0, 1, 2, 3, 4, 5, 6, 7, 8, 9, 10, 11] [12] rfl rfl (by decide +kernel) (by decide +kernel) hk1 hFc hP1 hD1
    have hP := hP2.sub (ws' := (kX7 cI cB aH (aR 0) (aM 0) (aE 0) (aC 0) (aP 0) oH ++ kX4 cI cB aP oP ++ kL cL aX f)) [1, 2, 3, 4, 5, 6, 7, 8, 9, 10, 11, 12, 0] rfl
    have hD := hD2.sub (ws' := (kX7 cI cB aH (aR 0) (aM 0) (aE 0) (aC 0) (aP 0) oH ++ kX4 cI cB aP oP ++ kL cL aX f)) [1, 2, 3, 4, 5, 6, 7, 8, 9, 10, 11, 12, 0] (by decide +kernel) rfl
    refine W.widen (k := 1) (n := 6) (Nat.le_refl _) (Nat.le_refl _) ?_
    refine lv_i2l C.1.1 C.1.2.1 dL_name_8 rfl ?_
    refine va_last C.1.1 C.1.2.1 hK.1 hP hD hS1 12 2 rfl rfl (show inb 0 1 by decide) dL_name_9 (fun H locs hP hD hS => ?_)
    have hP : va_P (dC, dI) vwCl (kX7 cI cB aH (aR 0) (aM 0) (aE 0) (aC 0) (aP 0) oH ++ kX4 cI cB aP oP ++ kL cL aX (vp_updL f 0 r.toInt64)) H := hP
    have hD : va_D A (kX7 cI cB aH (aR 0) (aM 0) (aE 0) (aC 0) (aP 0) oH ++ kX4 cI cB aP oP ++ kL cL aX (vp_updL f 0 r.toInt64)) := hD
    refine lv_goto (tgt := 17) C.1.1 C.1.2.1 dL_name_10 (by decide) ?_
    refine lv_iconst (v := 0) C.1.1 C.1.2.1 dL_name_17 (by decide) ?_
    exact zRg (vp_updL f 0 r.toInt64) (Or.inr ⟨hw0, rfl, rfl⟩) C hK hP hD hS dL_name_18
