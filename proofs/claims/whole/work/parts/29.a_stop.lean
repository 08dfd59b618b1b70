theorem dX9_init_0 : decode cX9_init 0 = .ok (.aload_n 0, 1) := by decide +kernel
theorem dX9_init_1 : decode cX9_init 1 = .ok (.aconst_null, 1) := by decide +kernel
theorem dX9_init_2 : decode cX9_init 2 = .ok (.aconst_null, 1) := by decide +kernel
theorem dX9_init_3 : decode cX9_init 3 = .ok (.iconst 0, 1) := by decide +kernel
theorem dX9_init_4 : decode cX9_init 4 = .ok (.iconst 0, 1) := by decide +kernel
theorem dX9_init_5 : decode cX9_init 5 = .ok (.invokespecial 1, 3) := by decide +kernel
theorem dX9_init_8 : decode cX9_init 8 = .ok (.return_, 1) := by decide +kernel
/-! own part: the constructor of the reference's Stop, with the JDK's three above it -/
abbrev cT4 : ByteArray := prog_18_method_5_code
def yT4 : MethodName := ⟨"java/lang/Throwable", "<init>", "(Ljava/lang/String;Ljava/lang/Throwable;ZZ)V"⟩
theorem wkT4 : Cond.code yT4 cT4 5 none ∈ lw_g := wTb (List.mem_append_right _ (List.mem_append_right _ (List.mem_append_right _ (List.mem_append_left _ (List.mem_of_getElem? (i := 237) (by decide +kernel)))))) (by decide +kernel)
theorem wiT4 : Cond.instanceMethod yT4 ∈ lw_g := wTb (List.mem_append_right _ (List.mem_append_right _ (List.mem_append_right _ (List.mem_append_left _ (List.mem_of_getElem? (i := 236) (by decide +kernel)))))) (by decide +kernel)
theorem wnT4 : Cond.initialized "java/lang/Throwable" ∈ lw_g := wTb (List.mem_append_left _ (List.mem_of_getElem? (i := 11) (by decide +kernel))) (by decide +kernel)
abbrev cE4 : ByteArray := prog_13_method_5_code
def yE4 : MethodName := ⟨"java/lang/Exception", "<init>", "(Ljava/lang/String;Ljava/lang/Throwable;ZZ)V"⟩
theorem wkE4 : Cond.code yE4 cE4 5 none ∈ lw_g := wTb (List.mem_append_right _ (List.mem_append_right _ (List.mem_append_right _ (List.mem_append_left _ (List.mem_of_getElem? (i := 234) (by decide +kernel)))))) (by decide +kernel)
theorem wiE4 : Cond.instanceMethod yE4 ∈ lw_g := wTb (List.mem_append_right _ (List.mem_append_right _ (List.mem_append_right _ (List.mem_append_left _ (List.mem_of_getElem? (i := 233) (by decide +kernel)))))) (by decide +kernel)
theorem wnE4 : Cond.initialized "java/lang/Exception" ∈ lw_g := wTb (List.mem_append_left _ (List.mem_of_getElem? (i := 12) (by decide +kernel))) (by decide +kernel)
abbrev cR4 : ByteArray := prog_16_method_5_code
def yR4 : MethodName := ⟨"java/lang/RuntimeException", "<init>", "(Ljava/lang/String;Ljava/lang/Throwable;ZZ)V"⟩
theorem wkR4 : Cond.code yR4 cR4 5 none ∈ lw_g := wTb (List.mem_append_right _ (List.mem_append_right _ (List.mem_append_right _ (List.mem_append_left _ (List.mem_of_getElem? (i := 231) (by decide +kernel)))))) (by decide +kernel)
theorem wiR4 : Cond.instanceMethod yR4 ∈ lw_g := wTb (List.mem_append_right _ (List.mem_append_right _ (List.mem_append_right _ (List.mem_append_left _ (List.mem_of_getElem? (i := 230) (by decide +kernel)))))) (by decide +kernel)
theorem wnR4 : Cond.initialized "java/lang/RuntimeException" ∈ lw_g := wTb (List.mem_append_left _ (List.mem_of_getElem? (i := 13) (by decide +kernel))) (by decide +kernel)
theorem wlT4_1 : Cond.methodLink "java/lang/Throwable" 1 objectInit ∈ lw_g := wTb (List.mem_append_right _ (List.mem_append_right _ (List.mem_append_right _ (List.mem_append_left _ (List.mem_of_getElem? (i := 115) (by decide +kernel)))))) (by decide +kernel)
theorem wlE4_16 : Cond.methodLink "java/lang/Exception" 16 yT4 ∈ lw_g := wTb (List.mem_append_right _ (List.mem_append_right _ (List.mem_append_right _ (List.mem_append_left _ (List.mem_of_getElem? (i := 235) (by decide +kernel)))))) (by decide +kernel)
theorem wlR4_16 : Cond.methodLink "java/lang/RuntimeException" 16 yE4 ∈ lw_g := wTb (List.mem_append_right _ (List.mem_append_right _ (List.mem_append_right _ (List.mem_append_left _ (List.mem_of_getElem? (i := 232) (by decide +kernel)))))) (by decide +kernel)
theorem wlX9_1 : Cond.methodLink RX9 1 yR4 ∈ lw_g := wTb (List.mem_append_right _ (List.mem_append_right _ (List.mem_append_right _ (List.mem_append_left _ (List.mem_of_getElem? (i := 229) (by decide +kernel)))))) (by decide +kernel)
theorem wfT4_7 : Cond.fieldLink "java/lang/Throwable" 7 "java/lang/Throwable" "cause" "Ljava/lang/Throwable;" ∈ lw_g := wTb (List.mem_append_right _ (List.mem_append_right _ (List.mem_append_right _ (List.mem_append_left _ (List.mem_of_getElem? (i := 142) (by decide +kernel)))))) (by decide +kernel)
theorem wfT4_17 : Cond.fieldLink "java/lang/Throwable" 17 "java/lang/Throwable" "stackTrace" "[Ljava/lang/StackTraceElement;" ∈ lw_g := wTb (List.mem_append_right _ (List.mem_append_right _ (List.mem_append_right _ (List.mem_append_left _ (List.mem_of_getElem? (i := 143) (by decide +kernel)))))) (by decide +kernel)
theorem wfT4_24 : Cond.fieldLink "java/lang/Throwable" 24 "java/lang/Throwable" "suppressedExceptions" "Ljava/util/List;" ∈ lw_g := wTb (List.mem_append_right _ (List.mem_append_right _ (List.mem_append_right _ (List.mem_append_left _ (List.mem_of_getElem? (i := 144) (by decide +kernel)))))) (by decide +kernel)
theorem wfT4_31 : Cond.fieldLink "java/lang/Throwable" 31 "java/lang/Throwable" "detailMessage" "Ljava/lang/String;" ∈ lw_g := wTb (List.mem_append_right _ (List.mem_append_right _ (List.mem_append_right _ (List.mem_append_left _ (List.mem_of_getElem? (i := 141) (by decide +kernel)))))) (by decide +kernel)
theorem wfT4_13 : Cond.fieldLink "java/lang/Throwable" 13 "java/lang/Throwable" "UNASSIGNED_STACK" "[Ljava/lang/StackTraceElement;" ∈ lw_g := wTb (List.mem_append_right _ (List.mem_append_right _ (List.mem_append_right _ (List.mem_append_left _ (List.mem_of_getElem? (i := 116) (by decide +kernel)))))) (by decide +kernel)
theorem wfT4_20 : Cond.fieldLink "java/lang/Throwable" 20 "java/lang/Throwable" "SUPPRESSED_SENTINEL" "Ljava/util/List;" ∈ lw_g := wTb (List.mem_append_right _ (List.mem_append_right _ (List.mem_append_right _ (List.mem_append_left _ (List.mem_of_getElem? (i := 118) (by decide +kernel)))))) (by decide +kernel)
theorem dT4_0 : decode cT4 0 = .ok (.aload_n 0, 1) := by decide +kernel
theorem dT4_1 : decode cT4 1 = .ok (.invokespecial 1, 3) := by decide +kernel
theorem dT4_4 : decode cT4 4 = .ok (.aload_n 0, 1) := by decide +kernel
theorem dT4_5 : decode cT4 5 = .ok (.aload_n 0, 1) := by decide +kernel
theorem dT4_6 : decode cT4 6 = .ok (.putfield 7, 3) := by decide +kernel
theorem dT4_9 : decode cT4 9 = .ok (.aload_n 0, 1) := by decide +kernel
theorem dT4_10 : decode cT4 10 = .ok (.getstatic 13, 3) := by decide +kernel
theorem dT4_13 : decode cT4 13 = .ok (.putfield 17, 3) := by decide +kernel
theorem dT4_16 : decode cT4 16 = .ok (.aload_n 0, 1) := by decide +kernel
theorem dT4_17 : decode cT4 17 = .ok (.getstatic 20, 3) := by decide +kernel
theorem dT4_20 : decode cT4 20 = .ok (.putfield 24, 3) := by decide +kernel
theorem dT4_23 : decode cT4 23 = .ok (.iload 4, 2) := by decide +kernel
theorem dT4_25 : decode cT4 25 = .ok (.ifCond .eq 11, 3) := by decide +kernel
theorem dT4_36 : decode cT4 36 = .ok (.aload_n 0, 1) := by decide +kernel
theorem dT4_37 : decode cT4 37 = .ok (.aconst_null, 1) := by decide +kernel
theorem dT4_38 : decode cT4 38 = .ok (.putfield 17, 3) := by decide +kernel
theorem dT4_41 : decode cT4 41 = .ok (.aload_n 0, 1) := by decide +kernel
theorem dT4_42 : decode cT4 42 = .ok (.aload_n 1, 1) := by decide +kernel
theorem dT4_43 : decode cT4 43 = .ok (.putfield 31, 3) := by decide +kernel
theorem dT4_46 : decode cT4 46 = .ok (.aload_n 0, 1) := by decide +kernel
theorem dT4_47 : decode cT4 47 = .ok (.aload_n 2, 1) := by decide +kernel
theorem dT4_48 : decode cT4 48 = .ok (.putfield 7, 3) := by decide +kernel
theorem dT4_51 : decode cT4 51 = .ok (.iload_n 3, 1) := by decide +kernel
theorem dT4_52 : decode cT4 52 = .ok (.ifCond .ne 8, 3) := by decide +kernel
theorem dT4_55 : decode cT4 55 = .ok (.aload_n 0, 1) := by decide +kernel
theorem dT4_56 : decode cT4 56 = .ok (.aconst_null, 1) := by decide +kernel
theorem dT4_57 : decode cT4 57 = .ok (.putfield 24, 3) := by decide +kernel
theorem dT4_60 : decode cT4 60 = .ok (.return_, 1) := by decide +kernel
theorem dE4_0 : decode cE4 0 = .ok (.aload_n 0, 1) := by decide +kernel
theorem dE4_1 : decode cE4 1 = .ok (.aload_n 1, 1) := by decide +kernel
theorem dE4_2 : decode cE4 2 = .ok (.aload_n 2, 1) := by decide +kernel
theorem dE4_3 : decode cE4 3 = .ok (.iload_n 3, 1) := by decide +kernel
theorem dE4_4 : decode cE4 4 = .ok (.iload 4, 2) := by decide +kernel
theorem dE4_6 : decode cE4 6 = .ok (.invokespecial 16, 3) := by decide +kernel
theorem dE4_9 : decode cE4 9 = .ok (.return_, 1) := by decide +kernel
theorem dR4_0 : decode cR4 0 = .ok (.aload_n 0, 1) := by decide +kernel
theorem dR4_1 : decode cR4 1 = .ok (.aload_n 1, 1) := by decide +kernel
theorem dR4_2 : decode cR4 2 = .ok (.aload_n 2, 1) := by decide +kernel
theorem dR4_3 : decode cR4 3 = .ok (.iload_n 3, 1) := by decide +kernel
theorem dR4_4 : decode cR4 4 = .ok (.iload 4, 2) := by decide +kernel
theorem dR4_6 : decode cR4 6 = .ok (.invokespecial 16, 3) := by decide +kernel
theorem dR4_9 : decode cR4 9 = .ok (.return_, 1) := by decide +kernel
def iX9 : Rc := fun _ _ => 0
def zSx (A : Nat → Prop) (U : State) (H : Heap) : Prop := vx_Zq Bundle.tN "UNASSIGNED_STACK" Bundle.steD A U H ∧ vx_Zq Bundle.tN "SUPPRESSED_SENTINEL" Bundle.listD A U H
def zPreX (D : va_G) (tys : zTy) (av : List Value) (sz : Nat) (w : va_W) : Array Value → State → Prop := va_Pc av (fun U => U.heap.size = sz ∧ va_P D vwCl w U.heap ∧ zK D tys U ∧ va_D (fun _ => True) w ∧ zSx (va_A w sz) U U.heap)
theorem zPreX_blind {D : va_G} {tys : zTy} {av : List Value} {sz : Nat} {w : va_W} : FrameBlind (zPreX D tys av sz w) := fun a U g mk q => by
  obtain ⟨q0, q1, qP, qK, qD, qX⟩ := q
  exact ⟨q0, q1, qP, ⟨va_K.moved (u := U) (U := U.calling g mk a) (Vm.Alike.refl U.vm) qK.1, zNx.same (u := U) (U := U.calling g mk a) rfl qK.2⟩, qD, vx_Zq.moved (u := U) (U := U.calling g mk a) (Vm.Alike.refl U.vm) qX.1, vx_Zq.moved (u := U) (U := U.calling g mk a) (Vm.Alike.refl U.vm) qX.2⟩
abbrev zMvX (l : Launch) (y : MethodName) (ws : List Cond) (rm : Room) (D : va_G) (tys : zTy) (av : List Value) (sz : Nat) (w : va_W) (w' : va_W) : Prop := Met l y ws rm (zPreX D tys av sz w) (zQv D tys (va_A w sz) w') 0 0 (va_A w sz)
abbrev zMcX (l : Launch) (y : MethodName) (ws : List Cond) (rm : Room) (D : va_G) (tys : zTy) (h0 : Nat) (sz : Nat) (w : va_W) (wf : (Nat → Nat → Nat) → va_W) (mc ms : Nat) : Prop := Met l y ws rm (zPreX D tys [.ref h0] sz w) (zCq D tys (va_A w sz) h0 wf) mc ms (va_A w sz)
section ZX
variable {p : Program} {l : Launch} {e : Env} {R : Room} {s : State} {m : MethodId} {args : Array Value} {below : List Frame} {meth : Method} {c : Code} {H : Heap} {locs : List Loc} {cells slots : Nat} {Q : State → Prop}
variable {D : va_G} {tys : zTy} {w : va_W} {A : Nat → Prop} {cc : ByteArray} {nL pc : Nat} {Ts : List Cond} {own : String} {ls : Array Slot} {rest st : List Value} {a : Nat}
variable {y : MethodName} {bytes : ByteArray} {maxL n index : Nat} {ret : Option FieldType} {ws : List Cond} {rm : Room} {b : Nat} {As : List Value} {wc wc' wr : va_W} {mc ms : Nat}
theorem zStCX {av : List Value} {sz : Nat} (Qc : (Nat → Prop) → Array Value → State → Outcome → State → Prop) (hy : plainName y.cls = true) (hw2 : ws = Cond.code y cc maxL ret :: lw_g) (ho : y.cls = own) (hyn : y.name = "<init>") (hlen : (lg_sl av).length ≤ maxL)
    (body : ∀ (p : Program) (e : Env) (s : State) (m : MethodId) (below : List Frame) (meth : Method) (c : Code) (ls : Array Slot) (A : Nat → Prop) (H : Heap) (locs : List Loc), zCx p m meth c cc maxL ret s av.toArray lw_g own → meth.name = "<init>" → zK D tys s → (∀ q : Nat, s.heap.size ≤ q → A q) → va_P D vwCl w H → va_D A w → va_S A s.heap H locs → lv_has ls maxL (lv_args 0 av) → zSx A s s.heap →
      W p l e rm s m av.toArray below meth c H locs 0 0 (MQ below (Qc A) av.toArray s mc ms A) (F0 m 0 ls [])) : Met l y ws rm (zPreX D tys av sz w) (Qc (va_A w sz)) mc ms (va_A w sz) := by
  refine Met.ofW (cc := cc) (maxL := maxL) (ret := ret) hy hw2 ?_
  intro p e s m args below meth c s₁ B hml hv
  obtain ⟨rfl, hsz, hP, hK, hD0, hX⟩ := hv
  subst hsz
  have hl := lv_entry av (n := maxL) hlen
  rw [lg_entry_eq]
  refine body p e s m below meth c _ (va_A w s.heap.size) s.heap [] ⟨⟨B.exec, B.bytes, hml, ?_, fun w hw => atoms_spec (ws := ws) B.pre w (by rw [hw2]; exact List.mem_cons_of_mem _ hw)⟩, B.returns, B.notSynchronized⟩ ((name_of_methodNamed B.named B.method).1.trans hyn) hK (fun q h => Or.inr h) hP hD0.self va_S.rf hl hX
  rw [← ho]
  exact findClass_of_methodNamed B.named
theorem zPsX (hK : zK D tys s) (hX : zSx A s s.heap) (hS : va_S A s.heap H locs) (hFc : ∀ q, va_A wc H.size q → A q) (hPc : va_P D vwCl wc H) (hDc : va_D A wc) {vs : List Value} : PreS s H (zPreX D tys vs H.size wc) vs := ⟨zPreX_blind, fun U hU hW => ⟨rfl, by rw [hU], by rw [hU]; exact hPc, zK.warm hW hK, hDc.weaken (fun _ _ _ _ => trivial), by rw [hU]; exact vx_Zq.moved hW.alike ((hX.1.kept hS.2.1).narrow hFc), by rw [hU]; exact vx_Zq.moved hW.alike ((hX.2.kept hS.2.1).narrow hFc)⟩⟩
/-- a constructor above, with its arguments -/
theorem zCIs (C : CallFix p m c cc nL s args lw_g own) (hK : zK D tys s) (hX : zSx A s s.heap) (hA : ∀ q : Nat, s.heap.size ≤ q → A q) (hP : va_P D vwCl w H) (hD : va_D A w) (hS : va_S A s.heap H locs) (hM : zMvX l y (Cond.code y bytes maxL none :: lw_g) rm D tys (.ref b :: As) H.size w wc') (hl : Cond.methodLink own index y ∈ lw_g) (hi : Cond.instanceMethod y ∈ lw_g) (hni : Cond.initialized y.cls ∈ lw_g) (hk : Cond.code y bytes maxL none ∈ lw_g) (hrc : rm.cells = 0) (hrs : rm.slots = 0) (hy1 : y.name = "<init>")
    (hd : y.cls ≠ "java/lang/invoke/MethodHandle" ∧ y.cls ≠ "java/lang/invoke/VarHandle" ∧ (parseMethodDescriptor y.desc).map (fun d => d.parameters.length) = some n) (hR : rm.frames + 1 ≤ R.frames ∧ 8 + (maxL + 11) + rm.locals ≤ R.locals) (hn : As.length = n) (hnd : va_nd (List.range w.length) = true) (hC : (List.range w.length).map (fun i => w[i]?) = w.map some)
    (hsize : ls.size = nL) (hroom : (rest.map fun v => v.category).sum ≤ 8) (hdg : decode cc pc = .ok (.invokespecial index, 3)) (hfit : cells ≤ R.cells ∧ slots ≤ R.slots) (hst : st = As.reverse ++ .ref b :: rest)
    (kk : ∀ (H1 : Heap) (locs1 : List Loc), va_P D vwCl wc' H1 → va_D A wc' → va_S A s.heap H1 locs1 → W p l e R s m args below meth c H1 locs1 cells slots Q (F0 m (pc + 3) ls rest)) : W p l e R s m args below meth c H locs cells slots Q (F0 m pc ls st) := by
  subst hst
  have hFc := va_free (wc := w) hD hS hA (List.range w.length) hC
  refine va_callv (va_runI (As := As) (rest := rest) C hM ⟨callB_of n C.2.2.2.2 (wIn hk) rfl hrc hrs (C.2.2.2.2 _ hni) (C.2.2.2.2 _ hl) hd hR, hy1, C.2.2.2.2 _ hi⟩ (zPsX hK hX hS hFc hP hD) rfl hn hsize rfl (lv_room hroom) hdg hfit) hS (fun q _ h => hFc q h) hFc (fun u t H1 locs1 ht hvm hw hB hz1 hk1 hS1 => ?_)
  obtain ⟨hP1, -, hD1⟩ := hB
  rw [ht] at hP1
  exact kk H1 locs1 hP1 (hD1.weaken (fun _ q _ h => hFc q.1 h)) hS1
theorem zStat {C n d : String} (h : vx_Zq C n d A s s.heap) : ∃ v : Value, va_Z C n d v A s s.heap ∧ (v = .null ∨ ∃ t, v = .ref t) := by
  rcases h.1 with h | ⟨t, h⟩
  · exact ⟨_, h, Or.inl rfl⟩
  · exact ⟨_, h, Or.inr ⟨t, rfl⟩⟩
theorem zNar {v : Value} (cn : String) (h : v = .null ∨ ∃ t, v = .ref t) : (narrow (.object cn) v = v ∧ fits (.object cn) v = true) ∧ narrow (.array (.object cn)) v = v ∧ fits (.array (.object cn)) v = true := by
  rcases h with rfl | ⟨t, rfl⟩ <;> exact ⟨⟨rfl, rfl⟩, rfl, rfl⟩
end ZX
abbrev rT4 : Room := { frames := 1, cells := 0, slots := 0, locals := 12 }
set_option maxHeartbeats 4000000 in
set_option maxRecDepth 100000 in
theorem mtT4 (l : Launch) (dC : Nat → ClassId) (dI : Nat → Nat → Nat) (cI cB : ClassId) (h0 sz : Nat) : zMvX l yT4 (Cond.code yT4 cT4 5 none :: lw_g) rT4 (dC, dI) [(cI, .int), (cB, .byte)] [.ref h0, .null, .null, .int 0, .int 0] sz [(h0, .inr (9, [.null, .null, .null, .null, .null, .int 0, .int 0, .int 0]))] [(h0, .inr (9, [.null, .null, .null, .null, .null, .int 0, .int 0, .int 0]))] := by
  refine zStCX (cc := cT4) (maxL := 5) (ret := none) (own := "java/lang/Throwable") (fun A => zQv (dC, dI) [(cI, .int), (cB, .byte)] A [(h0, .inr (9, [.null, .null, .null, .null, .null, .int 0, .int 0, .int 0]))]) (by decide) rfl rfl rfl (Nat.le_of_ble_eq_true rfl) ?_
  intro p e s m below meth c ls A H locs C hin hK hA hP hD hS hl hX
  generalize ([.ref h0, .null, .null, .int 0, .int 0] : List Value).toArray = args at C ⊢
  have hl : lv_has ls 5 [(0, .ref h0), (1, .null), (2, .null), (3, .int 0), (4, .int 0)] := hl
  obtain ⟨v1, hz1, hv1⟩ := zStat hX.1
  obtain ⟨v2, hz2, hv2⟩ := zStat hX.2
  have hn1 := zNar "java/lang/StackTraceElement" hv1
  have hn2 := zNar "java/util/List" hv2
  refine lv_aload_n C.1.1 C.1.2.1 dT4_0 rfl (lv_at hl 0 rfl) ?_
  refine W.objInit C.1.1 C.1.2.1 C.1.2.2.2.1 (C.1.2.2.2.2 _ wlT4_1) (C.1.2.2.2.2 _ wOi) (C.1.2.2.2.2 _ wOc) rfl (by rw [C.1.2.2.1]; exact hl.1) rfl dT4_1 (Nat.le_of_ble_eq_true rfl) (Nat.le_of_ble_eq_true rfl) ?_
  refine W.eq (g2 := F0 m 4 ls []) rfl ?_
  refine lv_aload_n C.1.1 C.1.2.1 dT4_4 rfl (lv_at hl 0 rfl) ?_
  refine lv_aload_n C.1.1 C.1.2.1 dT4_5 rfl (lv_at hl 0 rfl) ?_
  refine zPut (ty := (.object "java/lang/Throwable")) [(h0, .inr (9, [.ref h0, .null, .null, .null, .null, .int 0, .int 0, .int 0]))] C.1 wuX9 tyX9 tyX9_ok nmX9 hK hP hD hS 0 rfl rfl 0 (by decide) wfT4_7 rfl rfl (by decide +kernel) rfl rfl (Nat.le_of_ble_eq_true rfl) dT4_6 rfl (fun H locs hP hD hS => ?_)
  refine lv_aload_n C.1.1 C.1.2.1 dT4_9 rfl (lv_at hl 0 rfl) ?_
  refine va_gets C.1.1 C.1.2.1 hz1 hS C.1.2.2.2.1 (C.1.2.2.2.2 _ wfT4_13) (fun _ h9 => h9) dT4_10 ?_
  refine zPut (ty := (.array (.object "java/lang/StackTraceElement"))) [(h0, .inr (9, [.ref h0, v1, .null, .null, .null, .int 0, .int 0, .int 0]))] C.1 wuX9 tyX9 tyX9_ok nmX9 hK hP hD hS 0 rfl rfl 1 (by decide) wfT4_17 rfl rfl (by decide +kernel) hn1.2.1 hn1.2.2 (Nat.le_of_ble_eq_true rfl) dT4_13 rfl (fun H locs hP hD hS => ?_)
  refine lv_aload_n C.1.1 C.1.2.1 dT4_16 rfl (lv_at hl 0 rfl) ?_
  refine va_gets C.1.1 C.1.2.1 hz2 hS C.1.2.2.2.1 (C.1.2.2.2.2 _ wfT4_20) (fun _ h9 => h9) dT4_17 ?_
  refine zPut (ty := (.object "java/util/List")) [(h0, .inr (9, [.ref h0, v1, v2, .null, .null, .int 0, .int 0, .int 0]))] C.1 wuX9 tyX9 tyX9_ok nmX9 hK hP hD hS 0 rfl rfl 2 (by decide) wfT4_24 rfl rfl (by decide +kernel) hn2.1.1 hn2.1.2 (Nat.le_of_ble_eq_true rfl) dT4_20 rfl (fun H locs hP hD hS => ?_)
  refine lv_iload C.1.1 C.1.2.1 dT4_23 (lv_at hl 4 rfl) ?_
  refine lv_if_eq (tgt := 36) C.1.1 C.1.2.1 dT4_25 (by decide) (fun _ => ?_) (fun hc => absurd rfl hc)
  refine lv_aload_n C.1.1 C.1.2.1 dT4_36 rfl (lv_at hl 0 rfl) ?_
  refine lv_null C.1.1 C.1.2.1 dT4_37 ?_
  refine zPut (ty := (.array (.object "java/lang/StackTraceElement"))) [(h0, .inr (9, [.ref h0, .null, v2, .null, .null, .int 0, .int 0, .int 0]))] C.1 wuX9 tyX9 tyX9_ok nmX9 hK hP hD hS 0 rfl rfl 1 (by decide) wfT4_17 rfl rfl (by decide +kernel) rfl rfl (Nat.le_of_ble_eq_true rfl) dT4_38 rfl (fun H locs hP hD hS => ?_)
  refine lv_aload_n C.1.1 C.1.2.1 dT4_41 rfl (lv_at hl 0 rfl) ?_
  refine lv_aload_nN C.1.1 C.1.2.1 dT4_42 rfl (lv_at hl 1 rfl) ?_
  refine zPut (ty := (.object "java/lang/String")) [(h0, .inr (9, [.ref h0, .null, v2, .null, .null, .int 0, .int 0, .int 0]))] C.1 wuX9 tyX9 tyX9_ok nmX9 hK hP hD hS 0 rfl rfl 3 (by decide) wfT4_31 rfl rfl (by decide +kernel) rfl rfl (Nat.le_of_ble_eq_true rfl) dT4_43 rfl (fun H locs hP hD hS => ?_)
  refine lv_aload_n C.1.1 C.1.2.1 dT4_46 rfl (lv_at hl 0 rfl) ?_
  refine lv_aload_nN C.1.1 C.1.2.1 dT4_47 rfl (lv_at hl 2 rfl) ?_
  refine zPut (ty := (.object "java/lang/Throwable")) [(h0, .inr (9, [.null, .null, v2, .null, .null, .int 0, .int 0, .int 0]))] C.1 wuX9 tyX9 tyX9_ok nmX9 hK hP hD hS 0 rfl rfl 0 (by decide) wfT4_7 rfl rfl (by decide +kernel) rfl rfl (Nat.le_of_ble_eq_true rfl) dT4_48 rfl (fun H locs hP hD hS => ?_)
  refine lv_iload_n C.1.1 C.1.2.1 dT4_51 rfl (lv_at hl 3 rfl) ?_
  refine lv_if_ne (tgt := 60) C.1.1 C.1.2.1 dT4_52 (by decide) (fun hc => absurd rfl hc) (fun _ => ?_)
  refine lv_aload_n C.1.1 C.1.2.1 dT4_55 rfl (lv_at hl 0 rfl) ?_
  refine lv_null C.1.1 C.1.2.1 dT4_56 ?_
  refine zPut (ty := (.object "java/util/List")) [(h0, .inr (9, [.null, .null, .null, .null, .null, .int 0, .int 0, .int 0]))] C.1 wuX9 tyX9 tyX9_ok nmX9 hK hP hD hS 0 rfl rfl 2 (by decide) wfT4_24 rfl rfl (by decide +kernel) rfl rfl (Nat.le_of_ble_eq_true rfl) dT4_57 rfl (fun H locs hP hD hS => ?_)
  exact zRv C hK hP hD hS dT4_60
abbrev rE4 : Room := { frames := 2, cells := 0, slots := 0, locals := 40 }
set_option maxHeartbeats 4000000 in
set_option maxRecDepth 100000 in
theorem mtE4 (l : Launch) (dC : Nat → ClassId) (dI : Nat → Nat → Nat) (cI cB : ClassId) (h0 sz : Nat) : zMvX l yE4 (Cond.code yE4 cE4 5 none :: lw_g) rE4 (dC, dI) [(cI, .int), (cB, .byte)] [.ref h0, .null, .null, .int 0, .int 0] sz [(h0, .inr (9, [.null, .null, .null, .null, .null, .int 0, .int 0, .int 0]))] [(h0, .inr (9, [.null, .null, .null, .null, .null, .int 0, .int 0, .int 0]))] := by
  refine zStCX (cc := cE4) (maxL := 5) (ret := none) (own := "java/lang/Exception") (fun A => zQv (dC, dI) [(cI, .int), (cB, .byte)] A [(h0, .inr (9, [.null, .null, .null, .null, .null, .int 0, .int 0, .int 0]))]) (by decide) rfl rfl rfl (Nat.le_of_ble_eq_true rfl) ?_
  intro p e s m below meth c ls A H locs C hin hK hA hP hD hS hl hX
  generalize ([.ref h0, .null, .null, .int 0, .int 0] : List Value).toArray = args at C ⊢
  have hl : lv_has ls 5 [(0, .ref h0), (1, .null), (2, .null), (3, .int 0), (4, .int 0)] := hl
  refine lv_aload_n C.1.1 C.1.2.1 dE4_0 rfl (lv_at hl 0 rfl) ?_
  refine lv_aload_nN C.1.1 C.1.2.1 dE4_1 rfl (lv_at hl 1 rfl) ?_
  refine lv_aload_nN C.1.1 C.1.2.1 dE4_2 rfl (lv_at hl 2 rfl) ?_
  refine lv_iload_n C.1.1 C.1.2.1 dE4_3 rfl (lv_at hl 3 rfl) ?_
  refine lv_iload C.1.1 C.1.2.1 dE4_4 (lv_at hl 4 rfl) ?_
  refine zCIs (As := [.null, .null, .int 0, .int 0]) (n := 4) (rest := []) C.1 hK hX hA hP hD hS (mtT4 l dC dI cI cB h0 H.size) wlE4_16 wiT4 wnT4 wkT4 rfl rfl rfl (by decide +kernel) ⟨Nat.le_of_ble_eq_true rfl, Nat.le_of_ble_eq_true rfl⟩ rfl rfl rfl hl.1 (Nat.le_of_ble_eq_true rfl) dE4_6 ⟨Nat.zero_le _, Nat.zero_le _⟩ rfl (fun H locs hP hD hS => ?_)
  exact zRv C hK hP hD hS dE4_9
abbrev rR4 : Room := { frames := 3, cells := 0, slots := 0, locals := 70 }
set_option maxHeartbeats 4000000 in
set_option maxRecDepth 100000 in
theorem mtR4 (l : Launch) (dC : Nat → ClassId) (dI : Nat → Nat → Nat) (cI cB : ClassId) (h0 sz : Nat) : zMvX l yR4 (Cond.code yR4 cR4 5 none :: lw_g) rR4 (dC, dI) [(cI, .int), (cB, .byte)] [.ref h0, .null, .null, .int 0, .int 0] sz [(h0, .inr (9, [.null, .null, .null, .null, .null, .int 0, .int 0, .int 0]))] [(h0, .inr (9, [.null, .null, .null, .null, .null, .int 0, .int 0, .int 0]))] := by
  refine zStCX (cc := cR4) (maxL := 5) (ret := none) (own := "java/lang/RuntimeException") (fun A => zQv (dC, dI) [(cI, .int), (cB, .byte)] A [(h0, .inr (9, [.null, .null, .null, .null, .null, .int 0, .int 0, .int 0]))]) (by decide) rfl rfl rfl (Nat.le_of_ble_eq_true rfl) ?_
  intro p e s m below meth c ls A H locs C hin hK hA hP hD hS hl hX
  generalize ([.ref h0, .null, .null, .int 0, .int 0] : List Value).toArray = args at C ⊢
  have hl : lv_has ls 5 [(0, .ref h0), (1, .null), (2, .null), (3, .int 0), (4, .int 0)] := hl
  refine lv_aload_n C.1.1 C.1.2.1 dR4_0 rfl (lv_at hl 0 rfl) ?_
  refine lv_aload_nN C.1.1 C.1.2.1 dR4_1 rfl (lv_at hl 1 rfl) ?_
  refine lv_aload_nN C.1.1 C.1.2.1 dR4_2 rfl (lv_at hl 2 rfl) ?_
  refine lv_iload_n C.1.1 C.1.2.1 dR4_3 rfl (lv_at hl 3 rfl) ?_
  refine lv_iload C.1.1 C.1.2.1 dR4_4 (lv_at hl 4 rfl) ?_
  refine zCIs (As := [.null, .null, .int 0, .int 0]) (n := 4) (rest := []) C.1 hK hX hA hP hD hS (mtE4 l dC dI cI cB h0 H.size) wlR4_16 wiE4 wnE4 wkE4 rfl rfl rfl (by decide +kernel) ⟨Nat.le_of_ble_eq_true rfl, Nat.le_of_ble_eq_true rfl⟩ rfl rfl rfl hl.1 (Nat.le_of_ble_eq_true rfl) dR4_6 ⟨Nat.zero_le _, Nat.zero_le _⟩ rfl (fun H locs hP hD hS => ?_)
  exact zRv C hK hP hD hS dR4_9
abbrev rX9_init : Room := { frames := 4, cells := 0, slots := 0, locals := 100 }
set_option maxHeartbeats 4000000 in
set_option maxRecDepth 100000 in
theorem mtX9_init (l : Launch) (dC : Nat → ClassId) (dI : Nat → Nat → Nat) (cI cB : ClassId) (h0 sz : Nat) : zMcX l yX9_init (Cond.code yX9_init cX9_init 1 none :: lw_g) rX9_init (dC, dI) [(cI, .int), (cB, .byte)] h0 sz [(h0, .inr (9, [.null, .null, .null, .null, .null, .int 0, .int 0, .int 0]))] (fun ad => (kX9 cI cB (ad 0) iX9)) 0 0 := by
  refine zStCX (cc := cX9_init) (maxL := 1) (ret := none) (own := RX9) (fun A => zCq (dC, dI) [(cI, .int), (cB, .byte)] A h0 (fun ad => (kX9 cI cB (ad 0) iX9))) (by decide) rfl rfl rfl (Nat.le_of_ble_eq_true rfl) ?_
  intro p e s m below meth c ls A H locs C hin hK hA hP hD hS hl hX
  generalize ([.ref h0] : List Value).toArray = args at C ⊢
  have hl : lv_has ls 1 [(0, .ref h0)] := hl
  refine lv_aload_n C.1.1 C.1.2.1 dX9_init_0 rfl (lv_at hl 0 rfl) ?_
  refine lv_null C.1.1 C.1.2.1 dX9_init_1 ?_
  refine lv_null C.1.1 C.1.2.1 dX9_init_2 ?_
  refine lv_iconst (v := 0) C.1.1 C.1.2.1 dX9_init_3 (by decide) ?_
  refine lv_iconst (v := 0) C.1.1 C.1.2.1 dX9_init_4 (by decide) ?_
  refine zCIs (As := [.null, .null, .int 0, .int 0]) (n := 4) (rest := []) C.1 hK hX hA hP hD hS (mtR4 l dC dI cI cB h0 H.size) wlX9_1 wiR4 wnR4 wkR4 rfl rfl rfl (by decide +kernel) ⟨Nat.le_of_ble_eq_true rfl, Nat.le_of_ble_eq_true rfl⟩ rfl rfl rfl hl.1 (Nat.le_of_ble_eq_true rfl) dX9_init_5 ⟨Nat.zero_le _, Nat.zero_le _⟩ rfl (fun H locs hP hD hS => ?_)
  exact zRc (ad := zsel [zl [h0]]) C rfl hK hP hD hS dX9_init_8
