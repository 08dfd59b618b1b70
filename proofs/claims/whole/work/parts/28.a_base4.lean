/-! own part: constructors -/
def zl (l : List Nat) (j : Nat) : Nat := l.getD j 0
def zsel (L : List (Nat → Nat)) (i : Nat) : Nat → Nat := L.getD i (fun _ => 0)
abbrev zCq (D : va_G) (tys : zTy) (A : Nat → Prop) (h0 : Nat) (wf : (Nat → Nat → Nat) → va_W) : Array Value → State → Outcome → State → Prop := va_Qv (fun _ : Nat → Nat → Nat => True) (fun ad t => ad 0 0 = h0 ∧ zEnd D tys A (wf ad) () t) A
abbrev zMc (l : Launch) (y : MethodName) (ws : List Cond) (rm : Room) (D : va_G) (tys : zTy) (h0 : Nat) (sz : Nat) (w : va_W) (wf : (Nat → Nat → Nat) → va_W) (mc ms : Nat) : Prop := Met l y ws rm (zPre D tys [.ref h0] sz w) (zCq D tys (va_A w sz) h0 wf) mc ms (va_A w sz)
section ZC
variable {p : Program} {l : Launch} {e : Env} {R : Room} {s : State} {m : MethodId} {args : Array Value} {below : List Frame} {meth : Method} {c : Code} {H : Heap} {locs : List Loc} {cells slots : Nat} {Q : State → Prop}
variable {D : va_G} {tys : zTy} {w : va_W} {A : Nat → Prop} {H0 : Heap} {cc : ByteArray} {nL pc : Nat} {Ts : List Cond} {own : String} {ls : Array Slot} {rest st : List Value} {a : Nat}
variable {y : MethodName} {bytes : ByteArray} {maxL n index : Nat} {ret : Option FieldType} {ws : List Cond} {rm : Room} {b : Nat} {As : List Value} {wc wr : va_W} {mc ms : Nat}
theorem zStC {av : List Value} {sz : Nat} (Qc : (Nat → Prop) → Array Value → State → Outcome → State → Prop) (hy : plainName y.cls = true) (hw2 : ws = Cond.code y cc maxL ret :: lw_g) (ho : y.cls = own) (hyn : y.name = "<init>") (hlen : (lg_sl av).length ≤ maxL)
    (body : ∀ (p : Program) (e : Env) (s : State) (m : MethodId) (below : List Frame) (meth : Method) (c : Code) (ls : Array Slot) (A : Nat → Prop) (H : Heap) (locs : List Loc), zCx p m meth c cc maxL ret s av.toArray lw_g own → meth.name = "<init>" → zK D tys s → (∀ q : Nat, s.heap.size ≤ q → A q) → va_P D vwCl w H → va_D A w → va_S A s.heap H locs → lv_has ls maxL (lv_args 0 av) →
      W p l e rm s m av.toArray below meth c H locs 0 0 (MQ below (Qc A) av.toArray s mc ms A) (F0 m 0 ls [])) : Met l y ws rm (zPre D tys av sz w) (Qc (va_A w sz)) mc ms (va_A w sz) := by
  refine Met.ofW (cc := cc) (maxL := maxL) (ret := ret) hy hw2 ?_
  intro p e s m args below meth c s₁ B hml hv
  obtain ⟨rfl, hsz, hP, hK, hD0⟩ := hv
  subst hsz
  have hl := lv_entry av (n := maxL) hlen
  rw [lg_entry_eq]
  refine body p e s m below meth c _ (va_A w s.heap.size) s.heap [] ⟨⟨B.exec, B.bytes, hml, ?_, fun w hw => atoms_spec (ws := ws) B.pre w (by rw [hw2]; exact List.mem_cons_of_mem _ hw)⟩, B.returns, B.notSynchronized⟩ ((name_of_methodNamed B.named B.method).1.trans hyn) hK (fun q h => Or.inr h) hP hD0.self va_S.rf hl
  rw [← ho]
  exact findClass_of_methodNamed B.named
theorem zRc {wf : (Nat → Nat → Nat) → va_W} {h0 : Nat} (ad : Nat → Nat → Nat) (C : zCx p m meth c cc nL none s args Ts own) (he : ad 0 0 = h0) (hK : zK D tys s) (hP : va_P D vwCl (wf ad) H) (hD : va_D A (wf ad)) (hS : va_S A s.heap H locs) (hd : decode cc pc = .ok (.return_, 1)) : W p l e R s m args below meth c H locs cells slots (MQ below (zCq D tys A h0 wf) args s cells slots A) (F0 m pc ls []) :=
  W.vret C.1.1 C.1.2.1 C.2.1 (fun t ht hW => ⟨⟨ad, rfl, trivial, he, by rw [ht]; exact hP, zK.warm hW hK, hD⟩, hS.F ht⟩) hS.2.2 hd C.2.2
theorem zPutF {C : String} {T : u_T} {N ci : Nat} {fs : List Value} {ty : FieldType} {vv : Value} (w' : va_W) (C0 : CallFix p m c cc nL s args lw_g own) (hin2 : meth.name = "<init>") (hin : ∀ w ∈ u_ws C T N, w ∈ lw_g) (ty0 : Nat → FieldType) (hty : ∀ k, k < N → parseFieldDescriptor (T k).2.2.1 = some (ty0 k)) (hnm : ∀ a, a < N → ∀ b, b < N → a ≠ b → (T a).2.1 ≠ (T b).2.1) (hK : zK D tys s) (hP : va_P D vwCl w H) (hD : va_D A w) (hS0 : va_S A H0 H locs) (q0 : Nat) (he : w[q0]? = some (a, .inr (ci, fs))) (hc : vwCl[ci]? = some (C, T, N)) (k : Nat) (hk : k < N) {ref : String} (hlink : Cond.fieldLink own index ref (T k).2.1 (T k).2.2.1 ∈ lw_g) (hsame : (T k).1 = ref) (hfin : (T k).2.2.2 = true) (hdecl : (T k).1 = own) (hd : parseFieldDescriptor (T k).2.2.1 = some ty) (hn : narrow ty vv = vv) (hfit : fits ty vv = true) (hl : k < fs.length)
    (hdg : decode cc pc = .ok (.putfield index, 3)) (hw : w.set q0 (a, .inr (ci, fs.set k vv)) = w') (kk : ∀ (H1 : Heap) (locs1 : List Loc), va_P D vwCl w' H1 → va_D A w' → va_S A H0 H1 locs1 → W p l e R s m args below meth c H1 locs1 cells slots Q (F0 m (pc + 3) ls rest)) : W p l e R s m args below meth c H locs cells slots Q (F0 m pc ls (vv :: .ref a :: rest)) := by
  subst hw
  exact va_putF C0.1 C0.2.1 C0.2.2.2.2 hin ty0 hty hnm C0.2.2.2.1 hK.1 hP hD hS0 q0 he hc k hk (C0.2.2.2.2 _ hlink) (fun x h => by rw [← hsame]; exact h) hfin hin2 hdecl hd hn hfit hl hdg kk
theorem zNewI {cA : ClassId} {k : Int32} (N : Nat) (C0 : CallFix p m c cc nL s args lw_g own) (hK : zK D tys s) (hP : va_P D vwCl w H) (hD : va_D A w) (hS : va_S A H0 H locs) (hA : ∀ q, H0.size ≤ q → A q) (t0 : Nat) (ht : tys[t0]? = some (cA, .int)) (hn : ¬ k < 0) (hN : k.toNatClampNeg = N) (hb : N * componentBytes .int ≤ 536870912) (hcells : cells + 1 ≤ R.cells) (hslots : slots + N ≤ R.slots) (hdg : decode cc pc = .ok (.newarray .int, 2)) (harr : Cond.arrayClass .int ∈ lw_g)
    (kk : ∀ (q : Nat) (H1 : Heap), va_P D vwCl (w ++ [(q, .inl (cA, N, .inl (fun _ => 0)))]) H1 → va_D A (w ++ [(q, .inl (cA, N, .inl (fun _ => 0)))]) → va_S A H0 H1 locs → W p l e R s m args below meth c H1 locs (cells + 1) (slots + N) Q (F0 m (pc + 2) ls (.ref q :: rest))) : W p l e R s m args below meth c H locs cells slots Q (F0 m pc ls (.int k :: rest)) := by
  refine va_newa (atype := .int) (ty := .int) (a0 := (N, .inl (fun _ => 0))) C0.1 C0.2.1 (C0.2.2.2.2 _ harr) rfl hK.1 hP hD hS hA (fun cA => rfl) hn hN hb hcells hslots hdg (fun q cA' H1 hK' hP hD hS => ?_)
  have h1 : va_RA s cA' .int := (hK'.2 tys.length (cA', .int) (by simp)).2
  have h2 : va_RA s cA .int := (hK.1.2 t0 (cA, .int) ht).2
  have h3 : cA' = cA := Option.some.inj (h1.symm.trans h2)
  subst h3
  exact kk q H1 hP hD hS
theorem zNewB {cA : ClassId} {k : Int32} (N : Nat) (C0 : CallFix p m c cc nL s args lw_g own) (hK : zK D tys s) (hP : va_P D vwCl w H) (hD : va_D A w) (hS : va_S A H0 H locs) (hA : ∀ q, H0.size ≤ q → A q) (t0 : Nat) (ht : tys[t0]? = some (cA, .byte)) (hn : ¬ k < 0) (hN : k.toNatClampNeg = N) (hb : N * componentBytes .byte ≤ 536870912) (hcells : cells + 1 ≤ R.cells) (hslots : slots + N ≤ R.slots) (hdg : decode cc pc = .ok (.newarray .byte, 2)) (harr : Cond.arrayClass .byte ∈ lw_g)
    (kk : ∀ (q : Nat) (H1 : Heap), va_P D vwCl (w ++ [(q, .inl (cA, N, .inl (fun _ => 0)))]) H1 → va_D A (w ++ [(q, .inl (cA, N, .inl (fun _ => 0)))]) → va_S A H0 H1 locs → W p l e R s m args below meth c H1 locs (cells + 1) (slots + N) Q (F0 m (pc + 2) ls (.ref q :: rest))) : W p l e R s m args below meth c H locs cells slots Q (F0 m pc ls (.int k :: rest)) := by
  refine va_newa (atype := .byte) (ty := .byte) (a0 := (N, .inl (fun _ => 0))) C0.1 C0.2.1 (C0.2.2.2.2 _ harr) rfl hK.1 hP hD hS hA (fun cA => rfl) hn hN hb hcells hslots hdg (fun q cA' H1 hK' hP hD hS => ?_)
  have h1 : va_RA s cA' .byte := (hK'.2 tys.length (cA', .byte) (by simp)).2
  have h2 : va_RA s cA .byte := (hK.1.2 t0 (cA, .byte) ht).2
  have h3 : cA' = cA := Option.some.inj (h1.symm.trans h2)
  subst h3
  exact kk q H1 hP hD hS
theorem zCIn {wf : (Nat → Nat → Nat) → va_W} (C : CallFix p m c cc nL s args lw_g own) (hK : zK D tys s) (hA : ∀ q : Nat, H0.size ≤ q → A q) (hP : va_P D vwCl w H) (hD : va_D A w) (hS : va_S A H0 H locs) (isC isR : List Nat) (hM : zMc l y (Cond.code y bytes maxL none :: lw_g) rm D tys b H.size wc wf mc ms) (host : String) (hl : (own, index, y, host) ∈ zNM) (hi : Cond.instanceMethod y ∈ lw_g) (hni : Cond.initialized y.cls ∈ lw_g) (hk : Cond.code y bytes maxL none ∈ lw_g) (hrc : rm.cells = mc) (hrs : rm.slots = ms) (hy1 : y.name = "<init>")
    (hd : y.cls ≠ "java/lang/invoke/MethodHandle" ∧ y.cls ≠ "java/lang/invoke/VarHandle" ∧ (parseMethodDescriptor y.desc).map (fun d => d.parameters.length) = some 0) (hR : rm.frames + 1 ≤ R.frames ∧ 8 + (maxL + 11) + rm.locals ≤ R.locals) (hC : isC.map (fun i => w[i]?) = wc.map some) (hR2 : isR.map (fun i => w[i]?) = wr.map some) (hb : (va_nd isC && va_nd isR && isR.all (fun i => !isC.contains i)) = true)
    (hsize : ls.size = nL) (hroom : (rest.map fun v => v.category).sum ≤ 8) (hdg : decode cc pc = .ok (.invokespecial index, 3)) (hfit : cells + mc ≤ R.cells ∧ slots + ms ≤ R.slots) (hst : st = .ref b :: rest)
    (kk : ∀ (ad : Nat → Nat → Nat) (H1 : Heap) (locs1 : List Loc), ad 0 0 = b → va_P D vwCl (wr ++ wf ad) H1 → va_D A (wr ++ wf ad) → va_S A H0 H1 locs1 → W p l e R s m args below meth c H1 locs1 (cells + mc) (slots + ms) Q (F0 m (pc + 3) ls rest)) : W p l e R s m args below meth c H locs cells slots Q (F0 m pc ls st) := by
  subst hst
  simp only [Bool.and_eq_true, List.all_eq_true, Bool.not_eq_true', List.contains_eq_mem, decide_eq_false_iff_not] at hb
  obtain ⟨⟨hb1, hb2⟩, hb4⟩ := hb
  obtain ⟨hPc, hDc⟩ := zCut hP hD isC hb1 hC
  have hFc := va_free (wc := wc) hD hS hA isC hC
  refine va_callv (va_runIN (As := []) (rest := rest) C hM ⟨(va_cnB 0 C.2.2.2.2 (wIn hk) rfl hrc hrs (hK.2.2 _ hl) (C.2.2.2.2 _ hni) hd hR), hy1, C.2.2.2.2 _ hi⟩ (zPs hK hPc hDc) rfl rfl hsize rfl (lv_room hroom) hdg hfit) hS (fun q _ h => hFc q h) hFc (fun ad t H1 locs1 ht hvm hw hB hz1 hk1 hS1 => ?_)
  obtain ⟨had, hP1, -, hD1⟩ := hB
  rw [ht] at hP1
  obtain ⟨hP2, hD2⟩ := va_join (wr := wr) (w1 := wf ad) hP hD isC isR hC hR2 hb2 hb4 hk1 hFc hP1 hD1
  exact kk ad H1 locs1 had hP2 hD2 hS1
theorem zCIp {wf : (Nat → Nat → Nat) → va_W} (C : CallFix p m c cc nL s args lw_g own) (hK : zK D tys s) (hA : ∀ q : Nat, H0.size ≤ q → A q) (hP : va_P D vwCl w H) (hD : va_D A w) (hS : va_S A H0 H locs) (isC isR : List Nat) (hM : zMc l y (Cond.code y bytes maxL none :: lw_g) rm D tys b H.size wc wf mc ms) (hl : Cond.methodLink own index y ∈ lw_g) (hi : Cond.instanceMethod y ∈ lw_g) (hni : Cond.initialized y.cls ∈ lw_g) (hk : Cond.code y bytes maxL none ∈ lw_g) (hrc : rm.cells = mc) (hrs : rm.slots = ms) (hy1 : y.name = "<init>")
    (hd : y.cls ≠ "java/lang/invoke/MethodHandle" ∧ y.cls ≠ "java/lang/invoke/VarHandle" ∧ (parseMethodDescriptor y.desc).map (fun d => d.parameters.length) = some 0) (hR : rm.frames + 1 ≤ R.frames ∧ 8 + (maxL + 11) + rm.locals ≤ R.locals) (hC : isC.map (fun i => w[i]?) = wc.map some) (hR2 : isR.map (fun i => w[i]?) = wr.map some) (hb : (va_nd isC && va_nd isR && isR.all (fun i => !isC.contains i)) = true)
    (hsize : ls.size = nL) (hroom : (rest.map fun v => v.category).sum ≤ 8) (hdg : decode cc pc = .ok (.invokespecial index, 3)) (hfit : cells + mc ≤ R.cells ∧ slots + ms ≤ R.slots) (hst : st = .ref b :: rest)
    (kk : ∀ (ad : Nat → Nat → Nat) (H1 : Heap) (locs1 : List Loc), ad 0 0 = b → va_P D vwCl (wr ++ wf ad) H1 → va_D A (wr ++ wf ad) → va_S A H0 H1 locs1 → W p l e R s m args below meth c H1 locs1 (cells + mc) (slots + ms) Q (F0 m (pc + 3) ls rest)) : W p l e R s m args below meth c H locs cells slots Q (F0 m pc ls st) := by
  subst hst
  simp only [Bool.and_eq_true, List.all_eq_true, Bool.not_eq_true', List.contains_eq_mem, decide_eq_false_iff_not] at hb
  obtain ⟨⟨hb1, hb2⟩, hb4⟩ := hb
  obtain ⟨hPc, hDc⟩ := zCut hP hD isC hb1 hC
  have hFc := va_free (wc := wc) hD hS hA isC hC
  refine va_callv (va_runI (As := []) (rest := rest) C hM ⟨(callB_of 0 C.2.2.2.2 (wIn hk) rfl hrc hrs (C.2.2.2.2 _ hni) (C.2.2.2.2 _ hl) hd hR), hy1, C.2.2.2.2 _ hi⟩ (zPs hK hPc hDc) rfl rfl hsize rfl (lv_room hroom) hdg hfit) hS (fun q _ h => hFc q h) hFc (fun ad t H1 locs1 ht hvm hw hB hz1 hk1 hS1 => ?_)
  obtain ⟨had, hP1, -, hD1⟩ := hB
  rw [ht] at hP1
  obtain ⟨hP2, hD2⟩ := va_join (wr := wr) (w1 := wf ad) hP hD isC isR hC hR2 hb2 hb4 hk1 hFc hP1 hD1
  exact kk ad H1 locs1 had hP2 hD2 hS1
end ZC
