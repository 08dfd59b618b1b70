/-! own part: 'name', which may throw a new NoSuchElementException, and the law's own catching of it -/
def zNames : List String := ["java/lang/RuntimeException", "java/lang/Exception"]
theorem zAtB : (vx_at0 RX7 219 "java/util/NoSuchElementException" zNames).filter (fun w => !goodWord w) = [Cond.declares ⟨"java/lang/RuntimeException", "<init>", "()V"⟩, Cond.declares ⟨"java/lang/Exception", "<init>", "()V"⟩, Cond.declares ⟨"java/lang/Throwable", "<init>", "()V"⟩, Cond.castable "java/util/NoSuchElementException" "java/util/NoSuchElementException"] := by decide +kernel
theorem zDecl {s : State} {x : MethodName} {args : Array Value} (h : va_Decl s x) : (Cond.declares x).before args s = true := by
  obtain ⟨r0, r, hn, hrm, hst, hsig⟩ := h
  simp only [Cond.before, Cond.holds, Cond.value, hn, Option.bind_some, hrm, Option.map_some, hst, hsig]
  decide
theorem wi0_0 : Cond.instanceMethod ⟨"java/lang/RuntimeException", "<init>", "()V"⟩ ∈ lw_g := wTb (List.mem_append_right _ (List.mem_append_right _ (List.mem_append_right _ (List.mem_append_left _ (List.mem_of_getElem? (i := 134) (by decide +kernel)))))) (by decide +kernel)
theorem wk0_0 : Cond.code ⟨"java/lang/RuntimeException", "<init>", "()V"⟩ prog_16_method_1_code 1 none ∈ lw_g := wTb (List.mem_append_right _ (List.mem_append_right _ (List.mem_append_right _ (List.mem_append_left _ (List.mem_of_getElem? (i := 135) (by decide +kernel)))))) (by decide +kernel)
theorem wi0_1 : Cond.instanceMethod ⟨"java/lang/Exception", "<init>", "()V"⟩ ∈ lw_g := wTb (List.mem_append_right _ (List.mem_append_right _ (List.mem_append_right _ (List.mem_append_left _ (List.mem_of_getElem? (i := 137) (by decide +kernel)))))) (by decide +kernel)
theorem wk0_1 : Cond.code ⟨"java/lang/Exception", "<init>", "()V"⟩ prog_13_method_1_code 1 none ∈ lw_g := wTb (List.mem_append_right _ (List.mem_append_right _ (List.mem_append_right _ (List.mem_append_left _ (List.mem_of_getElem? (i := 138) (by decide +kernel)))))) (by decide +kernel)
theorem wi0_2 : Cond.instanceMethod ⟨"java/lang/Throwable", "<init>", "()V"⟩ ∈ lw_g := wTb (List.mem_append_right _ (List.mem_append_right _ (List.mem_append_right _ (List.mem_append_left _ (List.mem_of_getElem? (i := 113) (by decide +kernel)))))) (by decide +kernel)
theorem wk0_2 : Cond.code ⟨"java/lang/Throwable", "<init>", "()V"⟩ prog_18_method_1_code 1 none ∈ lw_g := wTb (List.mem_append_right _ (List.mem_append_right _ (List.mem_append_right _ (List.mem_append_left _ (List.mem_of_getElem? (i := 114) (by decide +kernel)))))) (by decide +kernel)

theorem zAtG : ∀ w ∈ (vx_at0 RX7 219 "java/util/NoSuchElementException" zNames).filter goodWord, w ∈ lw_tbl := by decide +kernel
theorem zAtI : Cond.instantiable "java/util/NoSuchElementException" 6 ∈ lw_g := List.mem_filter.mpr ⟨zAtG _ (by decide +kernel), by decide +kernel⟩
theorem zAtN : Cond.initialized "java/util/NoSuchElementException" ∈ lw_g := wTb (List.mem_append_left _ (List.mem_of_getElem? (i := 18) (by decide +kernel))) (by decide +kernel)
theorem zAtA {args : Array Value} {s : State} (hts : ∀ w ∈ lw_g, w.before args s = true) : ∀ w ∈ vx_at0 RX7 219 "java/util/NoSuchElementException" zNames, w.before args s = true := by
  intro w hw
  cases hg : goodWord w with
  | true => exact hts w (List.mem_filter.mpr ⟨zAtG w (List.mem_filter.mpr ⟨hw, hg⟩), hg⟩)
  | false =>
    have h1 : w ∈ (vx_at0 RX7 219 "java/util/NoSuchElementException" zNames).filter (fun w => !goodWord w) := List.mem_filter.mpr ⟨hw, by rw [hg]; rfl⟩
    rw [zAtB] at h1
    rcases List.mem_cons.mp h1 with rfl | h1
    · exact zDecl (va_Decl.of (hts _ wi0_0) (hts _ wk0_0))
    rcases List.mem_cons.mp h1 with rfl | h1
    · exact zDecl (va_Decl.of (hts _ wi0_1) (hts _ wk0_1))
    rcases List.mem_cons.mp h1 with rfl | h1
    · exact zDecl (va_Decl.of (hts _ wi0_2) (hts _ wk0_2))
    rw [List.mem_singleton.mp h1]
    obtain ⟨c, k, hc, -⟩ := Cond.instantiable_spec (hts _ zAtI)
    exact zCast hc
theorem zAtO : ∀ w ∈ Cond.classLink RX7 217 "java/util/NoSuchElementException" :: Cond.initialized "java/util/NoSuchElementException" :: vx_at0 RX7 219 "java/util/NoSuchElementException" zNames, vx_ot w = true := by decide +kernel
def zEndX (D : va_G) (A : Nat → Prop) (w : va_W) (t : State) : Prop := va_P D vwCl w t.heap ∧ va_D A w
def zXn (D : va_G) (tys : zTy) (A : Nat → Prop) (fl : Int32) (w : va_W) : String → State → State → Prop := vx_X (fun _ : Unit => fl = 1) (fun E _ t => E = "java/util/NoSuchElementException" ∧ zEndX D A w t) A
abbrev zTn (l : Launch) (y : MethodName) (ws : List Cond) (rm : Room) (D : va_G) (tys : zTy) (av : List Value) (sz : Nat) (w : va_W) (fl v : Int32) (w' : va_W) : Prop := vx_Met l y ws rm (zPreX D tys av sz w) (zTQi D tys (va_A w sz) fl v w') (zXn D tys (va_A w sz) fl w') 1 6 (va_A w sz)
abbrev rX7_name : Room := { frames := 6, cells := 1, slots := 6, locals := 100 }
section ZN
variable {p : Program} {l : Launch} {e : Env} {R : Room} {s : State} {m : MethodId} {args : Array Value} {below : List Frame} {meth : Method} {c : Code} {H : Heap} {locs : List Loc} {Q : State → Prop}
variable {D : va_G} {tys : zTy} {w : va_W} {A : Nat → Prop} {cc : ByteArray} {nL pc : Nat} {Ts : List Cond} {own : String} {ls : Array Slot} {rest : List Value} {y : MethodName} {maxL : Nat} {ret : Option FieldType} {ws : List Cond} {rm : Room} {fl v : Int32}
theorem zStN {av : List Value} {sz : Nat} (Qc : (Nat → Prop) → Array Value → State → Outcome → State → Prop) (XC : (Nat → Prop) → String → State → State → Prop) (hy : plainName y.cls = true) (hw2 : ws = Cond.code y cc maxL ret :: lw_g) (ho : y.cls = own) (hlen : (lg_sl av).length ≤ maxL)
    (body : ∀ (p : Program) (e : Env) (s : State) (m : MethodId) (below : List Frame) (meth : Method) (c : Code) (ls : Array Slot) (A : Nat → Prop) (H : Heap) (locs : List Loc), zCx p m meth c cc maxL ret s av.toArray lw_g own → (∀ x ∈ c.exceptionTable.toList, False) → zK D tys s → (∀ q : Nat, s.heap.size ≤ q → A q) → va_P D vwCl w H → va_D A w → va_S A s.heap H locs → lv_has ls maxL (lv_args 0 av) → zSx A s s.heap →
      W p l e rm s m av.toArray below meth c H locs 0 0 (vx_MQ below (Qc A) (XC A) av.toArray s 1 6 A) (F0 m 0 ls [])) : vx_Met l y ws rm (zPreX D tys av sz w) (Qc (va_A w sz)) (XC (va_A w sz)) 1 6 (va_A w sz) := by
  refine vx_ofW (cc := cc) (maxL := maxL) (ret := ret) hy hw2 ?_
  intro p e s m args below meth c s₁ B hml ht hv
  obtain ⟨rfl, hsz, hP, hK, hD0, hX⟩ := hv
  subst hsz
  have hl := lv_entry av (n := maxL) hlen
  rw [lg_entry_eq]
  refine body p e s m below meth c _ (va_A w s.heap.size) s.heap [] ⟨⟨B.exec, B.bytes, hml, ?_, fun w hw => atoms_spec (ws := ws) B.pre w (by rw [hw2]; exact List.mem_cons_of_mem _ hw)⟩, B.returns, B.notSynchronized⟩ ht hK (fun q h => Or.inr h) hP hD0.self va_S.rf hl hX
  rw [← ho]
  exact findClass_of_methodNamed B.named
theorem zRN {XC : String → State → State → Prop} (hfl : fl = 0) (C : zCx p m meth c cc nL (some .int) s args Ts own) (hK : zK D tys s) (hP : va_P D vwCl w H) (hD : va_D A w) (hS : va_S A s.heap H locs) (hd : decode cc pc = .ok (.ireturn, 1)) : W p l e R s m args below meth c H locs 0 0 (vx_MQ below (zTQi D tys A fl v w) XC args s 1 6 A) (F0 m pc ls [.int v]) :=
  W.widen (k := 1) (n := 6) (by omega) (by omega) (vx_ret (W.iret C.1.1 C.1.2.1 C.2.1 (fun t ht hW => ⟨⟨v, (), rfl, ⟨hfl, rfl⟩, by rw [ht]; exact hP, zK.warm hW hK, hD⟩, hS.F ht⟩) hS.2.2 hd C.2.2))
theorem zThrN {Qc : Array Value → State → Outcome → State → Prop} (hlt : l.stackTraces = false) (hX : zSx A s s.heap) (hfl : fl = 1) (C : zCx p m meth c cc nL ret s args lw_g RX7) (ht : ∀ x ∈ c.exceptionTable.toList, False) (hK : zK D tys s) (hP : va_P D vwCl w H) (hD : va_D A w) (hS : va_S A s.heap H locs) (hsize : ls.size = nL) (d0 : decode cc pc = .ok (.new 217, 3)) (d3 : decode cc (pc + 3) = .ok (.dup, 1)) (d4 : decode cc (pc + 4) = .ok (.invokespecial 219, 3)) (d7 : decode cc (pc + 7) = .ok (.athrow, 1)) : W p l e rX7_name s m args below meth c H locs 0 0 (vx_MQ below Qc (zXn D tys A fl w) args s 1 6 A) (F0 m pc ls []) := by
  refine vx_throw0 (own := RX7) (cls := "java/util/NoSuchElementException") (names := zNames) (ik := 217) (ic := 219) (A := A) C.1.1 C.1.2.1 hlt C.1.2.2.2.1 (by decide +kernel) (by decide +kernel) (C.1.2.2.2.2 _ wxX7_217) (C.1.2.2.2.2 _ zAtN) (zAtA C.1.2.2.2.2) zAtO hX.1 hX.2 hS (hsize.trans C.1.2.2.1.symm) d0 d3 d4 d7 (fun x hx => (ht x hx).elim) (Nat.le_of_ble_eq_true rfl) (Nat.le_of_ble_eq_true rfl) (Nat.le_of_ble_eq_true rfl) (Nat.le_of_ble_eq_true rfl) C.2.2 (fun t hal hsz hk => ⟨(), hfl, ⟨rfl, ?_, hD⟩, ?_⟩) hS.2.2 (by omega) (by omega)
  · exact hP.kept (fun k q hq => hk q.1 (hP k q hq).lt)
  · refine ⟨Nat.le_trans hS.1 hsz, fun q h1 h2 => ?_⟩
    rw [hk q (Nat.lt_of_lt_of_le h1 hS.1)]
    exact hS.2.1 q h1 h2
end ZN
def fX7_name (oP : Rc) (p1 : Int32) (p2 : Int32) : Option (Int32 × Int32) :=
  zB1 (fX7_isBlock oP p1) fun v1 =>
  zJn (fun (_ : Unit) =>
      some ((1 : Int32), (0 : Int32))
    ) fun J25_2 =>
  if v1 = 0 then (
    J25_2 ()
  ) else (
    if p2 < 0 then (
      J25_2 ()
    ) else (
      zGd (inb p1 12) <|
      if p2 < (oP 5 p1.toNatClampNeg) then (
        zGd (inb ((p1 * (8 : Int32)) + p2) 96) <|
        some ((0 : Int32), (oP 4 ((p1 * (8 : Int32)) + p2).toNatClampNeg))
      ) else (
        J25_2 ()
      )
    )
  )
set_option maxHeartbeats 4000000 in
set_option maxRecDepth 100000 in
theorem mtX7_name (l : Launch) (dC : Nat → ClassId) (dI : Nat → Nat → Nat) (cI cB : ClassId) (aH aR aP aM aE aC : Nat → Nat) (sz : Nat) (oH : Rc) (oP : Rc) (p1 : Int32) (p2 : Int32) {of : Int32} {ov : Int32} (hlt : l.stackTraces = false) (hf : fX7_name oP p1 p2 = some (of, ov)) : zTn l yX7_name (Cond.code yX7_name cX7_name 3 (some .int) :: lw_g) rX7_name (dC, dI) [(cI, .int), (cB, .byte)] [.ref (aH 0), .int p1, .int p2] sz (kX7 cI cB aH (aR 0) (aM 0) (aE 0) (aC 0) (aP 0) oH ++ kX4 cI cB aP oP) of ov (kX7 cI cB aH (aR 0) (aM 0) (aE 0) (aC 0) (aP 0) oH ++ kX4 cI cB aP oP) := by
  refine zStN (cc := cX7_name) (maxL := 3) (ret := (some .int)) (own := RX7) (fun A => zTQi (dC, dI) [(cI, .int), (cB, .byte)] A of ov (kX7 cI cB aH (aR 0) (aM 0) (aE 0) (aC 0) (aP 0) oH ++ kX4 cI cB aP oP)) (fun A => zXn (dC, dI) [(cI, .int), (cB, .byte)] A of (kX7 cI cB aH (aR 0) (aM 0) (aE 0) (aC 0) (aP 0) oH ++ kX4 cI cB aP oP)) (by decide) rfl rfl (Nat.le_of_ble_eq_true rfl) ?_
  intro p e s m below meth c ls A H locs C ht hK hA hP hD hS hl hX
  generalize hQ : vx_MQ below (zTQi (dC, dI) [(cI, .int), (cB, .byte)] A of ov (kX7 cI cB aH (aR 0) (aM 0) (aE 0) (aC 0) (aP 0) oH ++ kX4 cI cB aP oP)) (zXn (dC, dI) [(cI, .int), (cB, .byte)] A of (kX7 cI cB aH (aR 0) (aM 0) (aE 0) (aC 0) (aP 0) oH ++ kX4 cI cB aP oP)) _ s 1 6 A = QQ
  generalize ([.ref (aH 0), .int p1, .int p2] : List Value).toArray = args at C hQ ⊢
  have hl : lv_has ls 3 [(0, .ref (aH 0)), (1, .int p1), (2, .int p2)] := hl
  unfold fX7_name at hf
  refine lv_aload_n C.1.1 C.1.2.1 dX7_name_0 rfl (lv_at hl 0 rfl) ?_
  refine lv_iload_n C.1.1 C.1.2.1 dX7_name_1 rfl (lv_at hl 1 rfl) ?_
  obtain ⟨v1, hg, hf⟩ := zB1_el hf
  refine zCVi (As := [.int p1]) (rest := []) (wr := ([] : va_W)) (wn := (kX7 cI cB aH (aR 0) (aM 0) (aE 0) (aC 0) (aP 0) oH ++ kX4 cI cB aP oP)) C.1 hK hA hP hD hS [0, 1, 2, 3, 4, 5, 6, 7, 8, 9, 10, 11] [] [0, 1, 2, 3, 4, 5, 6, 7, 8, 9, 10, 11] 0 (mtX7_isBlock l dC dI cI cB aH aR aP aM aE aC H.size oH oP p1 hg) (zCwV 1 C.1 wlX7_113 wiX7_isBlock ws_X7_isBlock wnX7 wkX7_isBlock rfl rfl (by decide +kernel) ⟨Nat.le_of_ble_eq_true rfl, Nat.le_of_ble_eq_true rfl⟩) rfl rfl (by decide +kernel) rfl rfl rfl rfl hl.1 (Nat.le_of_ble_eq_true rfl) dX7_name_2 ⟨Nat.zero_le _, Nat.zero_le _⟩ rfl (fun H locs hP hD hS => ?_)
  obtain ⟨J25_2, eJ25_2, hf⟩ := zJn_el hf
  have hJ25_2 : ∀ (u : Unit), J25_2 u = some (of, ov) → ∀ (H : Heap) (locs : List Loc), va_P (dC, dI) vwCl (kX7 cI cB aH (aR 0) (aM 0) (aE 0) (aC 0) (aP 0) oH ++ kX4 cI cB aP oP) H → va_D A (kX7 cI cB aH (aR 0) (aM 0) (aE 0) (aC 0) (aP 0) oH ++ kX4 cI cB aP oP) → va_S A s.heap H locs → ∀ (ls : Array Slot), lv_has ls 3 [] → W p l e rX7_name s m args below meth c H locs 0 0 QQ (F0 m 25 ls []) := by
    intro u hf H locs hP hD hS ls hl
    rw [eJ25_2] at hf
    cases hf
    rw [← hQ]
    exact zThrN hlt hX rfl C ht hK hP hD hS hl.1 dX7_name_25 dX7_name_28 dX7_name_29 dX7_name_32
  refine lv_if_eq (tgt := 25) C.1.1 C.1.2.1 dX7_name_5 (by decide) (fun hc => ?_) (fun hc => ?_)
  · replace hf := zIf_t hf hc
    exact hJ25_2 () hf H locs hP hD hS ls (lv_sub hl [] rfl)
  · replace hf := zIf_f hf hc
    refine lv_iload_n C.1.1 C.1.2.1 dX7_name_8 rfl (lv_at hl 2 rfl) ?_
    refine lv_if_lt (tgt := 25) C.1.1 C.1.2.1 dX7_name_9 (by decide) (fun hc => ?_) (fun hc => ?_)
    · replace hf := zIf_t hf hc
      exact hJ25_2 () hf H locs hP hD hS ls (lv_sub hl [] rfl)
    · replace hf := zIf_f hf hc
      refine lv_iload_n C.1.1 C.1.2.1 dX7_name_12 rfl (lv_at hl 2 rfl) ?_
      refine lv_aload_n C.1.1 C.1.2.1 dX7_name_13 rfl (lv_at hl 0 rfl) ?_
      refine zGet (.ref (aP 0)) C.1 wuX7 hK hP 0 rfl rfl 6 (by decide) wfX7_48 rfl rfl dX7_name_14 ?_
      refine zGet (.ref (aP 2)) C.1 wuX4 hK hP 2 rfl rfl 5 (by decide) wfX7_214 rfl rfl dX7_name_17 ?_
      refine lv_iload_n C.1.1 C.1.2.1 dX7_name_20 rfl (lv_at hl 1 rfl) ?_
      obtain ⟨hib, hf⟩ := zGd_el hf
      refine va_iald C.1.1 C.1.2.1 hK.1 hP 4 0 rfl rfl hib dX7_name_21 ?_
      refine lv_icmp_lt (tgt := 33) C.1.1 C.1.2.1 dX7_name_22 (by decide) (fun hc => ?_) (fun hc => ?_)
      · replace hf := zIf_t hf hc
        refine lv_aload_n C.1.1 C.1.2.1 dX7_name_33 rfl (lv_at hl 0 rfl) ?_
        refine zGet (.ref (aP 0)) C.1 wuX7 hK hP 0 rfl rfl 6 (by decide) wfX7_48 rfl rfl dX7_name_34 ?_
        refine zGet (.ref (aP 1)) C.1 wuX4 hK hP 2 rfl rfl 4 (by decide) wfX7_220 rfl rfl dX7_name_37 ?_
        refine lv_iload_n C.1.1 C.1.2.1 dX7_name_40 rfl (lv_at hl 1 rfl) ?_
        refine lv_bipush (v := 8) C.1.1 C.1.2.1 dX7_name_41 (by decide) ?_
        refine lv_imul C.1.1 C.1.2.1 dX7_name_43 ?_
        refine lv_iload_n C.1.1 C.1.2.1 dX7_name_44 rfl (lv_at hl 2 rfl) ?_
        refine lv_iadd C.1.1 C.1.2.1 dX7_name_45 ?_
        obtain ⟨hib, hf⟩ := zGd_el hf
        refine va_iald C.1.1 C.1.2.1 hK.1 hP 3 0 rfl rfl hib dX7_name_46 ?_
        cases hf
        rw [← hQ]
        exact zRN rfl C hK hP hD hS dX7_name_47
      · replace hf := zIf_f hf hc
        exact hJ25_2 () hf H locs hP hD hS ls (lv_sub hl [] rfl)
