/-! own part: the call of a method with a table of its own -/
section ZVW
variable {p : Program} {l : Launch} {e : Env} {R : Room} {s : State} {m : MethodId} {args : Array Value} {below : List Frame} {meth : Method} {c : Code} {H : Heap} {locs : List Loc} {cells slots : Nat} {Q : State → Prop}
variable {D : va_G} {tys : zTy} {w : va_W} {A : Nat → Prop} {H0 : Heap} {cc : ByteArray} {nL pc : Nat} {Ts : List Cond} {own : String} {ls : Array Slot} {rest st : List Value}
variable {y : MethodName} {bytes : ByteArray} {maxL n index : Nat} {ret : Option FieldType} {ws ws' : List Cond} {rm : Room} {b : Nat} {As : List Value} {wc wc' wr wn : va_W} {v : Int32} {hh : List (Nat × Nat × Nat × Nat)}
theorem zCVWi {Cn : String} {T : u_T} {N ci : Nat} {fs : List Value} (C : CallFix p m c cc nL s args Ts own) (hK : zK D tys s) (hA : ∀ q : Nat, H0.size ≤ q → A q) (hP : va_P D vwCl w H) (hD : va_D A w) (hS : va_S A H0 H locs) (isC isR isN : List Nat) (q0 : Nat) (hM : zMi l y ws rm D tys (.ref b :: As) H.size wc v wc') (cw : vx_CVW R s args own Cn index y bytes maxL ret hh ws rm 0 0 n) (hC : isC.map (fun i => w[i]?) = wc.map some) (hR : isR.map (fun i => w[i]?) = wr.map some) (hb : (va_nd isC && va_nd isR && va_nd isN && isR.all (fun i => !isC.contains i)) = true) (hN : isN.map (fun i => (wr ++ wc')[i]?) = wn.map some) (hq : wc[q0]? = some (b, .inr (ci, fs))) (hcl : vwCl[ci]? = some (Cn, T, N))
    (hn : As.length = n) (hsize : ls.size = nL) (hroom : (rest.map fun v => v.category).sum ≤ 8) (hdg : decode cc pc = .ok (.invokevirtual index, 3)) (hfit : cells ≤ R.cells ∧ slots ≤ R.slots) (hst : st = As.reverse ++ .ref b :: rest) (kk : ∀ (H1 : Heap) (locs1 : List Loc), va_P D vwCl wn H1 → va_D A wn → va_S A H0 H1 locs1 → W p l e R s m args below meth c H1 locs1 cells slots Q (F0 m (pc + 3) ls (.int v :: rest))) : W p l e R s m args below meth c H locs cells slots Q (F0 m pc ls st) := by
  subst hst
  simp only [Bool.and_eq_true, List.all_eq_true, Bool.not_eq_true', List.contains_eq_mem, decide_eq_false_iff_not] at hb
  obtain ⟨⟨⟨hb1, hb2⟩, hb3⟩, hb4⟩ := hb
  obtain ⟨hPc, hDc⟩ := zCut hP hD isC hb1 hC
  have hFc := va_free (wc := wc) hD hS hA isC hC
  refine va_calli (vx_runVW (As := As) (rest := rest) C hM cw (zPv (q0 := q0) hK hPc hDc hq hcl) rfl hn hsize rfl (lv_room hroom) hdg hfit) hS (fun q _ h => hFc q h) hFc (fun r u t H1 locs1 ht hvm hw hB hz1 hk1 hS1 => ?_)
  obtain ⟨h1, h2⟩ := zBk (tys := tys) (t := t) isC isR isN hP hD hC hR hb2 hb4 hN hb3 ht hk1 hFc hB
  rw [hw]
  exact kk H1 locs1 h1 h2 hS1

theorem zCwVW {Cn : String} (n : Nat) (C : CallFix p m c cc nL s args lw_g own) (hl : Cond.methodLink own index y ∈ lw_g) (hi : Cond.instanceMethod y ∈ lw_g) (hs : Cond.selects Cn y y ∈ lw_g) (hn : Cond.initialized y.cls ∈ lw_g) (hk : Cond.codeWith y bytes maxL ret hh ∈ lw_g) (hc : rm.cells = 0) (hsl : rm.slots = 0)
    (hd : y.cls ≠ "java/lang/invoke/MethodHandle" ∧ y.cls ≠ "java/lang/invoke/VarHandle" ∧ (parseMethodDescriptor y.desc).map (fun d => d.parameters.length) = some n) (hR : rm.frames + 1 ≤ R.frames ∧ 8 + (maxL + 11) + rm.locals ≤ R.locals) : vx_CVW R s args own Cn index y bytes maxL ret hh (Cond.codeWith y bytes maxL ret hh :: lw_g) rm 0 0 n := by
  refine ⟨⟨hc, hsl, hR.1, hR.2, pay_in C.2.2.2.2 (wIn hk), List.mem_cons_self⟩, C.2.2.2.2 _ hk, C.2.2.2.2 _ hn, ⟨hd.1, hd.2.1⟩, fun sig h => ?_, C.2.2.2.2 _ hl, C.2.2.2.2 _ hi, C.2.2.2.2 _ hs⟩
  have h2 := hd.2.2
  rw [h] at h2
  exact (Option.some.inj h2).symm
end ZVW
