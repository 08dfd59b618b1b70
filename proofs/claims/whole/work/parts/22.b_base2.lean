/-! own part: methods that answer a cell, and methods that may throw the one Stop -/
abbrev zQr (D : va_G) (tys : zTy) (A : Nat → Prop) (ra : Nat) (w : va_W) : Array Value → State → Outcome → State → Prop := va_Qr (fun _ : Unit => True) (fun _ a t => a = ra ∧ zEnd D tys A w () t) A
abbrev zMr (l : Launch) (y : MethodName) (ws : List Cond) (rm : Room) (D : va_G) (tys : zTy) (av : List Value) (sz : Nat) (w : va_W) (ra : Nat) (w' : va_W) : Prop := Met l y ws rm (zPre D tys av sz w) (zQr D tys (va_A w sz) ra w') 0 0 (va_A w sz)
def zXq (D : va_G) (tys : zTy) (A : Nat → Prop) (b : Nat) (fl : Int32) (w : va_W) : Addr → String → State → State → Prop := vy_X (fun _ : Unit => fl = 1) (fun q E _ t => q = b ∧ E = RX9 ∧ zEnd D tys A w () t) A
abbrev zTQi (D : va_G) (tys : zTy) (A : Nat → Prop) (fl v : Int32) (w : va_W) : Array Value → State → Outcome → State → Prop := va_Qi (fun r (_ : Unit) => fl = 0 ∧ r = v) (zEnd D tys A w) A
abbrev zTQv (D : va_G) (tys : zTy) (A : Nat → Prop) (fl : Int32) (w : va_W) : Array Value → State → Outcome → State → Prop := va_Qv (fun _ : Unit => fl = 0) (zEnd D tys A w) A
abbrev zTi (l : Launch) (y : MethodName) (ws : List Cond) (rm : Room) (D : va_G) (tys : zTy) (av : List Value) (sz : Nat) (w : va_W) (b : Nat) (fl v : Int32) (w' : va_W) : Prop := vy_Met l y ws rm (zPre D tys av sz w) (zTQi D tys (va_A w sz) fl v w') (zXq D tys (va_A w sz) b fl w') 0 0 (va_A w sz)
abbrev zTv (l : Launch) (y : MethodName) (ws : List Cond) (rm : Room) (D : va_G) (tys : zTy) (av : List Value) (sz : Nat) (w : va_W) (b : Nat) (fl : Int32) (w' : va_W) : Prop := vy_Met l y ws rm (zPre D tys av sz w) (zTQv D tys (va_A w sz) fl w') (zXq D tys (va_A w sz) b fl w') 0 0 (va_A w sz)
section ZT
variable {p : Program} {l : Launch} {e : Env} {R : Room} {s : State} {m : MethodId} {args : Array Value} {below : List Frame} {meth : Method} {c : Code} {H : Heap} {locs : List Loc} {cells slots : Nat} {Q : State → Prop}
variable {D : va_G} {tys : zTy} {w : va_W} {A : Nat → Prop} {H0 : Heap} {cc : ByteArray} {nL pc : Nat} {Ts : List Cond} {own : String} {ls : Array Slot} {rest st : List Value}
variable {y : MethodName} {bytes : ByteArray} {maxL n index : Nat} {ret : Option FieldType} {ws ws' : List Cond} {rm : Room} {b : Nat} {As : List Value} {wc wc' wr wn : va_W} {v fl : Int32} {bx : Nat}
theorem zStT {av : List Value} {sz : Nat} (Qc : (Nat → Prop) → Array Value → State → Outcome → State → Prop) (XC : (Nat → Prop) → Addr → String → State → State → Prop) (hy : plainName y.cls = true) (hw2 : ws = Cond.code y cc maxL ret :: lw_g) (ho : y.cls = own) (hlen : (lg_sl av).length ≤ maxL)
    (body : ∀ (p : Program) (e : Env) (s : State) (m : MethodId) (below : List Frame) (meth : Method) (c : Code) (ls : Array Slot) (A : Nat → Prop) (H : Heap) (locs : List Loc), zCx p m meth c cc maxL ret s av.toArray lw_g own → (∀ x ∈ c.exceptionTable.toList, False) → zK D tys s → (∀ q : Nat, s.heap.size ≤ q → A q) → va_P D vwCl w H → va_D A w → va_S A s.heap H locs → lv_has ls maxL (lv_args 0 av) →
      W p l e rm s m av.toArray below meth c H locs 0 0 (vy_MQ below (Qc A) (XC A) av.toArray s 0 0 A) (F0 m 0 ls [])) : vy_Met l y ws rm (zPre D tys av sz w) (Qc (va_A w sz)) (XC (va_A w sz)) 0 0 (va_A w sz) := by
  refine vy_ofW (cc := cc) (maxL := maxL) (ret := ret) hy hw2 ?_
  intro p e s m args below meth c s₁ B hml ht hv
  obtain ⟨rfl, hsz, hP, hK, hD0⟩ := hv
  subst hsz
  have hl := lv_entry av (n := maxL) hlen
  rw [lg_entry_eq]
  refine body p e s m below meth c _ (va_A w s.heap.size) s.heap [] ⟨⟨B.exec, B.bytes, hml, ?_, fun w hw => atoms_spec (ws := ws) B.pre w (by rw [hw2]; exact List.mem_cons_of_mem _ hw)⟩, B.returns, B.notSynchronized⟩ ht hK (fun q h => Or.inr h) hP hD0.self va_S.rf hl
  rw [← ho]
  exact findClass_of_methodNamed B.named
theorem zRr {ra : Nat} {cn : String} (C : zCx p m meth c cc nL (some (.object cn)) s args Ts own) (hK : zK D tys s) (hP : va_P D vwCl w H) (hD : va_D A w) (hS : va_S A s.heap H locs) (hd : decode cc pc = .ok (.areturn, 1)) : W p l e R s m args below meth c H locs cells slots (MQ below (zQr D tys A ra w) args s cells slots A) (F0 m pc ls [.ref ra]) :=
  W.aret C.1.1 C.1.2.1 C.2.1 (Or.inl ⟨_, rfl⟩) (Or.inr ⟨_, rfl⟩) (fun t ht hW => ⟨⟨(), ra, rfl, trivial, rfl, by rw [ht]; exact hP, zK.warm hW hK, hD⟩, hS.F ht⟩) hS.2.2 hd C.2.2
theorem zRTi {XC : Addr → String → State → State → Prop} (hfl : fl = 0) (C : zCx p m meth c cc nL (some .int) s args Ts own) (hK : zK D tys s) (hP : va_P D vwCl w H) (hD : va_D A w) (hS : va_S A s.heap H locs) (hd : decode cc pc = .ok (.ireturn, 1)) : W p l e R s m args below meth c H locs cells slots (vy_MQ below (zTQi D tys A fl v w) XC args s cells slots A) (F0 m pc ls [.int v]) :=
  vy_ret (W.iret C.1.1 C.1.2.1 C.2.1 (fun t ht hW => ⟨⟨v, (), rfl, ⟨hfl, rfl⟩, by rw [ht]; exact hP, zK.warm hW hK, hD⟩, hS.F ht⟩) hS.2.2 hd C.2.2)
theorem zRTv {XC : Addr → String → State → State → Prop} (hfl : fl = 0) (C : zCx p m meth c cc nL none s args Ts own) (hK : zK D tys s) (hP : va_P D vwCl w H) (hD : va_D A w) (hS : va_S A s.heap H locs) (hd : decode cc pc = .ok (.return_, 1)) : W p l e R s m args below meth c H locs cells slots (vy_MQ below (zTQv D tys A fl w) XC args s cells slots A) (F0 m pc ls []) :=
  vy_ret (W.vret C.1.1 C.1.2.1 C.2.1 (fun t ht hW => ⟨⟨(), rfl, hfl, by rw [ht]; exact hP, zK.warm hW hK, hD⟩, hS.F ht⟩) hS.2.2 hd C.2.2)
theorem zCell {fs : List Value} (q0 : Nat) (hK : zK D tys s) (hP : va_P D vwCl w H) (he : w[q0]? = some (b, .inr (9, fs))) : ∃ ce : Cell, H[b]? = some ce ∧ ce.vm = .none ∧ s.vm.findClass RX9 = some ce.cls := by
  obtain ⟨r, h1, cell, g1, g2, g3, -⟩ := hP q0 _ he
  exact ⟨cell, g1, g3, by rw [g2]; exact (hK.1.1 9 _ rfl).2.1⟩
theorem zThr {Qc : Array Value → State → Outcome → State → Prop} {fs : List Value} (q0 : Nat) (hfl : fl = 1) (C : zCx p m meth c cc nL ret s args Ts own) (ht : ∀ x ∈ c.exceptionTable.toList, False) (hK : zK D tys s) (hP : va_P D vwCl w H) (hD : va_D A w) (hS : va_S A s.heap H locs) (he : w[q0]? = some (b, .inr (9, fs))) (hd : decode cc pc = .ok (.athrow, 1)) : W p l e R s m args below meth c H locs cells slots (vy_MQ below Qc (zXq D tys A b fl w) args s cells slots A) (F0 m pc ls (.ref b :: rest)) := by
  intro T hT X
  obtain ⟨st1, hrun, hend, hW, hsm⟩ := X.athrowLeaves C.1.1 (g := F0 m pc ls (.ref b :: rest)) rfl rfl rfl (fun x hx => (ht x hx).elim) rfl (by rw [C.1.2.1]; exact hd) C.2.2
  obtain ⟨ce, g1, g2, g3⟩ := zCell q0 hK hP he
  have hH : (T.setFrames (.throwing b :: below)).heap = H := hT
  exact ⟨_, st1, .threw b, hrun, hend, Or.inr ⟨b, rfl, RX9, ce, locs, ⟨(), hfl, ⟨rfl, rfl, by rw [hH]; exact hP, zK.warm hW hK, hD⟩, hS.F hH⟩, by rw [hH]; exact g1, g2, g3, hW, hsm, hS.2.2⟩⟩
theorem zOut {Qc : Array Value → State → Outcome → State → Prop} {ce : Cell} (hfl : fl = 1) (C : zCx p m meth c cc nL ret s args Ts own) (ht : ∀ x ∈ c.exceptionTable.toList, False) (hK : zK D tys s) (hP : va_P D vwCl w H) (hD : va_D A w) (hS : va_S A s.heap H locs) (g1 : H[b]? = some ce) (g2 : ce.vm = .none) (g3 : s.vm.findClass RX9 = some ce.cls) : vx_W p l e R s m args below meth c H locs cells slots (vy_MQ below Qc (zXq D tys A b fl w) args s cells slots A) (F0 m pc ls rest) b :=
  vy_out (E := RX9) (ce := ce) (fun x hx => (ht x hx).elim) C.2.2 g1 g2 g3 (fun t h1 hW => ⟨(), hfl, ⟨rfl, rfl, by rw [h1]; exact hP, zK.warm hW hK, hD⟩, hS.F h1⟩) hS.2.2 (Nat.le_refl _) (Nat.le_refl _)
theorem zCVr {ra : Nat} {Cn : String} {T : u_T} {N ci : Nat} {fs : List Value} (C : CallFix p m c cc nL s args Ts own) (hK : zK D tys s) (hA : ∀ q : Nat, H0.size ≤ q → A q) (hP : va_P D vwCl w H) (hD : va_D A w) (hS : va_S A H0 H locs) (isC isR isN : List Nat) (q0 : Nat) (hM : zMr l y ws rm D tys (.ref b :: As) H.size wc ra wc') (cw : CallW R s args own Cn index y bytes maxL ret ws rm 0 0 n) (hC : isC.map (fun i => w[i]?) = wc.map some) (hR : isR.map (fun i => w[i]?) = wr.map some) (hb : (va_nd isC && va_nd isR && va_nd isN && isR.all (fun i => !isC.contains i)) = true) (hN : isN.map (fun i => (wr ++ wc')[i]?) = wn.map some) (hq : wc[q0]? = some (b, .inr (ci, fs))) (hcl : vwCl[ci]? = some (Cn, T, N))
    (hn : As.length = n) (hsize : ls.size = nL) (hroom : (rest.map fun v => v.category).sum ≤ 8) (hdg : decode cc pc = .ok (.invokevirtual index, 3)) (hfit : cells ≤ R.cells ∧ slots ≤ R.slots) (hst : st = As.reverse ++ .ref b :: rest) (kk : ∀ (H1 : Heap) (locs1 : List Loc), va_P D vwCl wn H1 → va_D A wn → va_S A H0 H1 locs1 → W p l e R s m args below meth c H1 locs1 cells slots Q (F0 m (pc + 3) ls (.ref ra :: rest))) : W p l e R s m args below meth c H locs cells slots Q (F0 m pc ls st) := by
  subst hst
  simp only [Bool.and_eq_true, List.all_eq_true, Bool.not_eq_true', List.contains_eq_mem, decide_eq_false_iff_not] at hb
  obtain ⟨⟨⟨hb1, hb2⟩, hb3⟩, hb4⟩ := hb
  obtain ⟨hPc, hDc⟩ := zCut hP hD isC hb1 hC
  have hFc := va_free (wc := wc) hD hS hA isC hC
  refine va_callr (va_runV (As := As) (rest := rest) C hM cw (zPv (q0 := q0) hK hPc hDc hq hcl) rfl hn hsize rfl (lv_room hroom) hdg hfit) hS (fun q _ h => hFc q h) hFc (fun u r t H1 locs1 ht hvm hw hB hz1 hk1 hS1 => ?_)
  obtain ⟨rfl, hB⟩ := hB
  obtain ⟨h1, h2⟩ := zBk (tys := tys) (t := t) isC isR isN hP hD hC hR hb2 hb4 hN hb3 ht hk1 hFc hB
  exact kk H1 locs1 h1 h2 hS1
theorem zCTi {Cn : String} {T : u_T} {N ci : Nat} {fs : List Value} (C : CallFix p m c cc nL s args Ts own) (hK : zK D tys s) (hA : ∀ q : Nat, H0.size ≤ q → A q) (hP : va_P D vwCl w H) (hD : va_D A w) (hS : va_S A H0 H locs) (isC isR isN : List Nat) (q0 : Nat) (hM : zTi l y ws rm D tys (.ref b :: As) H.size wc bx fl v wc') (cw : CallW R s args own Cn index y bytes maxL ret ws rm 0 0 n) (hC : isC.map (fun i => w[i]?) = wc.map some) (hR : isR.map (fun i => w[i]?) = wr.map some) (hb : (va_nd isC && va_nd isR && va_nd isN && isR.all (fun i => !isC.contains i)) = true) (hN : isN.map (fun i => (wr ++ wc')[i]?) = wn.map some) (hq : wc[q0]? = some (b, .inr (ci, fs))) (hcl : vwCl[ci]? = some (Cn, T, N))
    (hn : As.length = n) (hsize : ls.size = nL) (hroom : (rest.map fun v => v.category).sum ≤ 8) (hdg : decode cc pc = .ok (.invokevirtual index, 3)) (hfit : cells ≤ R.cells ∧ slots ≤ R.slots) (hst : st = As.reverse ++ .ref b :: rest)
    (kx : fl = 1 → ∀ (H1 : Heap) (locs1 : List Loc) (ce : Cell), va_P D vwCl wn H1 → va_D A wn → va_S A H0 H1 locs1 → H1[bx]? = some ce → ce.vm = .none → s.vm.findClass RX9 = some ce.cls → vx_W p l e R s m args below meth c H1 locs1 cells slots Q (F0 m pc ls rest) bx)
    (kk : fl = 0 → ∀ (H1 : Heap) (locs1 : List Loc), va_P D vwCl wn H1 → va_D A wn → va_S A H0 H1 locs1 → W p l e R s m args below meth c H1 locs1 cells slots Q (F0 m (pc + 3) ls (.int v :: rest))) : W p l e R s m args below meth c H locs cells slots Q (F0 m pc ls st) := by
  subst hst
  simp only [Bool.and_eq_true, List.all_eq_true, Bool.not_eq_true', List.contains_eq_mem, decide_eq_false_iff_not] at hb
  obtain ⟨⟨⟨hb1, hb2⟩, hb3⟩, hb4⟩ := hb
  obtain ⟨hPc, hDc⟩ := zCut hP hD isC hb1 hC
  have hFc := va_free (wc := wc) hD hS hA isC hC
  refine vy_calli (vy_runV (As := As) (rest := rest) C hM cw (zPv (q0 := q0) hK hPc hDc hq hcl) rfl hn hsize rfl (lv_room hroom) hdg hfit) hS (fun q _ h => hFc q h) hFc (fun q _ h => hFc q h) (fun E ce q9 u t H1 locs1 ht hvm hp hB hz1 hk1 hS1 hce hcv hcl => ?_) (fun r u t H1 locs1 ht hvm hw hB hz1 hk1 hS1 => ?_)
  · obtain ⟨rfl, rfl, hB⟩ := hB
    obtain ⟨h1, h2⟩ := zBk (tys := tys) (t := t) isC isR isN hP hD hC hR hb2 hb4 hN hb3 ht hk1 hFc hB
    exact kx hp H1 locs1 ce h1 h2 hS1 hce hcv hcl
  · obtain ⟨h1, h2⟩ := zBk (tys := tys) (t := t) isC isR isN hP hD hC hR hb2 hb4 hN hb3 ht hk1 hFc hB
    obtain ⟨hw0, hw1⟩ := hw
    rw [hw1]
    exact kk hw0 H1 locs1 h1 h2 hS1
theorem zCTv {Cn : String} {T : u_T} {N ci : Nat} {fs : List Value} (C : CallFix p m c cc nL s args Ts own) (hK : zK D tys s) (hA : ∀ q : Nat, H0.size ≤ q → A q) (hP : va_P D vwCl w H) (hD : va_D A w) (hS : va_S A H0 H locs) (isC isR isN : List Nat) (q0 : Nat) (hM : zTv l y ws rm D tys (.ref b :: As) H.size wc bx fl wc') (cw : CallW R s args own Cn index y bytes maxL ret ws rm 0 0 n) (hC : isC.map (fun i => w[i]?) = wc.map some) (hR : isR.map (fun i => w[i]?) = wr.map some) (hb : (va_nd isC && va_nd isR && va_nd isN && isR.all (fun i => !isC.contains i)) = true) (hN : isN.map (fun i => (wr ++ wc')[i]?) = wn.map some) (hq : wc[q0]? = some (b, .inr (ci, fs))) (hcl : vwCl[ci]? = some (Cn, T, N))
    (hn : As.length = n) (hsize : ls.size = nL) (hroom : (rest.map fun v => v.category).sum ≤ 8) (hdg : decode cc pc = .ok (.invokevirtual index, 3)) (hfit : cells ≤ R.cells ∧ slots ≤ R.slots) (hst : st = As.reverse ++ .ref b :: rest)
    (kx : fl = 1 → ∀ (H1 : Heap) (locs1 : List Loc) (ce : Cell), va_P D vwCl wn H1 → va_D A wn → va_S A H0 H1 locs1 → H1[bx]? = some ce → ce.vm = .none → s.vm.findClass RX9 = some ce.cls → vx_W p l e R s m args below meth c H1 locs1 cells slots Q (F0 m pc ls rest) bx)
    (kk : fl = 0 → ∀ (H1 : Heap) (locs1 : List Loc), va_P D vwCl wn H1 → va_D A wn → va_S A H0 H1 locs1 → W p l e R s m args below meth c H1 locs1 cells slots Q (F0 m (pc + 3) ls (rest))) : W p l e R s m args below meth c H locs cells slots Q (F0 m pc ls st) := by
  subst hst
  simp only [Bool.and_eq_true, List.all_eq_true, Bool.not_eq_true', List.contains_eq_mem, decide_eq_false_iff_not] at hb
  obtain ⟨⟨⟨hb1, hb2⟩, hb3⟩, hb4⟩ := hb
  obtain ⟨hPc, hDc⟩ := zCut hP hD isC hb1 hC
  have hFc := va_free (wc := wc) hD hS hA isC hC
  refine vy_callv (vy_runV (As := As) (rest := rest) C hM cw (zPv (q0 := q0) hK hPc hDc hq hcl) rfl hn hsize rfl (lv_room hroom) hdg hfit) hS (fun q _ h => hFc q h) hFc (fun q _ h => hFc q h) (fun E ce q9 u t H1 locs1 ht hvm hp hB hz1 hk1 hS1 hce hcv hcl => ?_) (fun u t H1 locs1 ht hvm hw hB hz1 hk1 hS1 => ?_)
  · obtain ⟨rfl, rfl, hB⟩ := hB
    obtain ⟨h1, h2⟩ := zBk (tys := tys) (t := t) isC isR isN hP hD hC hR hb2 hb4 hN hb3 ht hk1 hFc hB
    exact kx hp H1 locs1 ce h1 h2 hS1 hce hcv hcl
  · obtain ⟨h1, h2⟩ := zBk (tys := tys) (t := t) isC isR isN hP hD hC hR hb2 hb4 hN hb3 ht hk1 hFc hB
    exact kk hw H1 locs1 h1 h2 hS1
end ZT
