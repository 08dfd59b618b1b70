/-! own part: the two programs may be exchanged; a method with a table of its own -/
def zsw (b : Bool) (x y : Nat → Nat) : Nat → Nat := match b with
  | true => y
  | false => x
theorem zAsg (vm : Vm) (c : ClassId) : vm.assignable c c = true := by
  show vm.assignableAux _ c c = true
  unfold Vm.assignableAux
  simp
theorem zCast {C : String} {c : ClassId} {s : State} {args : Array Value} (h : s.vm.findClass C = some c) : (Cond.castable C C).before args s = true := by
  simp only [Cond.before, Cond.holds, Cond.value, h, zAsg]
  rfl
theorem wkX10_program : Cond.codeWith yX10_program cX10_program 3 (some .int) [(43, 47, 50, 32)] ∈ lw_g := wTb (List.mem_append_right _ (List.mem_append_right _ (List.mem_append_right _ (List.mem_append_right _ (List.mem_append_left _ (List.mem_of_getElem? (i := 126) (by decide +kernel))))))) (by decide +kernel)
theorem wkL_name : Cond.codeWith yL_name cL_name 5 (some .int) [(0, 10, 13, 13)] ∈ lw_g := wTb (List.mem_append_right _ (List.mem_append_right _ (List.mem_append_right _ (List.mem_append_left _ (List.mem_of_getElem? (i := 84) (by decide +kernel)))))) (by decide +kernel)
theorem wxL_13 : Cond.classLink RL 13 "java/util/NoSuchElementException" ∈ lw_g := wTb (List.mem_append_right _ (List.mem_append_right _ (List.mem_append_right _ (List.mem_append_left _ (List.mem_of_getElem? (i := 85) (by decide +kernel)))))) (by decide +kernel)
theorem wxX7_217 : Cond.classLink RX7 217 "java/util/NoSuchElementException" ∈ lw_g := wTb (List.mem_append_right _ (List.mem_append_right _ (List.mem_append_right _ (List.mem_append_left _ (List.mem_of_getElem? (i := 90) (by decide +kernel)))))) (by decide +kernel)
section ZW
variable {l : Launch} {y : MethodName} {ws : List Cond} {rm : Room} {D : va_G} {tys : zTy} {av : List Value} {sz : Nat} {w : va_W} {cc : ByteArray} {maxL : Nat} {ret : Option FieldType} {own : String} {hh : List (Nat × Nat × Nat × Nat)}
theorem zStW (Qc : (Nat → Prop) → Array Value → State → Outcome → State → Prop) (hy : plainName y.cls = true) (hw2 : ws = Cond.codeWith y cc maxL ret hh :: lw_g) (ho : y.cls = own) (hlen : (lg_sl av).length ≤ maxL)
    (body : ∀ (p : Program) (e : Env) (s : State) (m : MethodId) (below : List Frame) (meth : Method) (c : Code) (ls : Array Slot) (A : Nat → Prop) (H : Heap) (locs : List Loc), zCx p m meth c cc maxL ret s av.toArray lw_g own → c.exceptionTable.toList = tableOf hh → zK D tys s → (∀ q : Nat, s.heap.size ≤ q → A q) → va_P D vwCl w H → va_D A w → va_S A s.heap H locs → lv_has ls maxL (lv_args 0 av) →
      W p l e rm s m av.toArray below meth c H locs 0 0 (MQ below (Qc A) av.toArray s 0 0 A) (F0 m 0 ls [])) : Met l y ws rm (zPre D tys av sz w) (Qc (va_A w sz)) 0 0 (va_A w sz) := by
  refine va_MetW (cc := cc) (maxL := maxL) (ret := ret) (hh := hh) hy hw2 ?_
  intro p e s m args below meth c s₁ B hml hv
  obtain ⟨rfl, hsz, hP, hK, hD0⟩ := hv
  subst hsz
  have hl := lv_entry av (n := maxL) hlen
  rw [lg_entry_eq]
  refine body p e s m below meth c _ (va_A w s.heap.size) s.heap [] ⟨⟨B.exec, B.bytes, hml, ?_, fun w hw => atoms_spec (ws := ws) B.pre w (by rw [hw2]; exact List.mem_cons_of_mem _ hw)⟩, B.returns, B.notSynchronized⟩ (vx_table (x := y) B (atoms_spec (ws := ws) B.pre _ (by rw [hw2]; exact List.mem_cons_self))) hK (fun q h => Or.inr h) hP hD0.self va_S.rf hl
  rw [← ho]
  exact findClass_of_methodNamed B.named
end ZW
