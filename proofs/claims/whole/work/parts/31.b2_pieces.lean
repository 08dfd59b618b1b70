/-! own part: a world of many pieces: calls cut it by its pieces, not by its cells -/
theorem zPermP {D : va_G} {cl : List vw_C} {w w' : va_W} {H : Heap} (h : w.Perm w') (hP : va_P D cl w H) : va_P D cl w' H := by
  intro k q hk
  obtain ⟨i, hi⟩ := List.getElem?_of_mem (h.mem_iff.mpr (List.mem_of_getElem? hk))
  exact hP i q hi
theorem zDnd {A : Nat → Prop} {w : va_W} : va_D A w ↔ (w.map (fun q => q.1)).Nodup ∧ ∀ q ∈ w, A q.1 := by
  constructor
  · intro h
    refine ⟨List.pairwise_iff_getElem.mpr fun i j hi hj hij he => ?_, fun q hq => ?_⟩
    · simp only [List.length_map] at hi hj
      simp only [List.getElem_map] at he
      have := h.1 i j w[i] w[j] (List.getElem?_eq_getElem hi) (List.getElem?_eq_getElem hj) he
      omega
    · obtain ⟨i, hi⟩ := List.getElem?_of_mem hq
      exact h.2 i q hi
  · intro h
    refine ⟨fun i j p q hi hj he => ?_, fun k q hk => h.2 q (List.mem_of_getElem? hk)⟩
    have h1 : (w.map (fun q => q.1))[i]? = some p.1 := by rw [List.getElem?_map, hi]; rfl
    have h2 : (w.map (fun q => q.1))[j]? = some q.1 := by rw [List.getElem?_map, hj]; rfl
    have hl : i < (w.map (fun q => q.1)).length := (List.getElem?_eq_some_iff.mp h1).1
    exact (List.getElem?_inj hl h.1).mp (by rw [h1, h2, he])
theorem zPermD {A : Nat → Prop} {w w' : va_W} (h : w.Perm w') (hD : va_D A w) : va_D A w' := by
  rw [zDnd] at hD ⊢
  exact ⟨(h.map (fun q => q.1)).nodup_iff.mp hD.1, fun q hq => hD.2 q (h.mem_iff.mpr hq)⟩
theorem zNdOf : ∀ {l : List Nat}, l.Nodup → va_nd l = true
  | [], _ => rfl
  | a :: l, h => by
    rw [List.nodup_cons] at h
    show (decide (a ∉ l) && va_nd l) = true
    rw [zNdOf h.2, decide_eq_true h.1]
    rfl
theorem zRange {α : Type} (w : List α) : (List.range w.length).map (fun i => w[i]?) = w.map some := by
  apply List.ext_getElem?
  intro i
  simp only [List.getElem?_map, List.getElem?_range]
  rcases Nat.lt_or_ge i w.length with h | h
  · simp [h]
  · simp [h, Nat.not_lt.mpr h]
def zPick (chs : List va_W) (is : List Nat) : va_W := (is.map (fun i => chs.getD i [])).flatten
theorem zPickP {chs : List va_W} {is : List Nat} (h : is.Perm (List.range chs.length)) : chs.flatten.Perm (zPick chs is) := by
  have h1 : (is.map (fun i => chs.getD i [])).Perm ((List.range chs.length).map (fun i => chs.getD i [])) := h.map _
  have h2 : (List.range chs.length).map (fun i => chs.getD i []) = chs := by
    apply List.ext_getElem?
    intro i
    simp only [List.getElem?_map, List.getElem?_range]
    rcases Nat.lt_or_ge i chs.length with h | h
    · simp [h]
    · simp [h, Nat.not_lt.mpr h]
  rw [h2] at h1
  exact h1.symm.flatten
theorem zPickA (chs : List va_W) (a b : List Nat) : zPick chs (a ++ b) = zPick chs a ++ zPick chs b := by
  unfold zPick
  rw [List.map_append, List.flatten_append]
def zSame (chs chs' : List va_W) : List Nat → Prop
  | [] => True
  | i :: r => chs.getD i [] = chs'.getD i [] ∧ zSame chs chs' r
theorem zSame_pick {chs chs' : List va_W} : ∀ {is : List Nat}, zSame chs chs' is → zPick chs is = zPick chs' is
  | [], _ => rfl
  | i :: r, h => by
    have h2 := zSame_pick h.2
    unfold zPick at h2 ⊢
    rw [List.map_cons, List.map_cons, List.flatten_cons, List.flatten_cons, h2, h.1]
theorem zA1 {a1 : va_W} : ([a1] : List va_W).flatten = a1 := by simp
theorem zA2 {a1 a2 : va_W} : ([a1, a2] : List va_W).flatten = a1 ++ a2 := by simp
theorem zA3 {a1 a2 a3 : va_W} : ([a1, a2, a3] : List va_W).flatten = a1 ++ a2 ++ a3 := by simp
theorem zA4 {a1 a2 a3 a4 : va_W} : ([a1, a2, a3, a4] : List va_W).flatten = a1 ++ a2 ++ a3 ++ a4 := by simp
theorem zA5 {a1 a2 a3 a4 a5 : va_W} : ([a1, a2, a3, a4, a5] : List va_W).flatten = a1 ++ a2 ++ a3 ++ a4 ++ a5 := by simp
theorem zA6 {a1 a2 a3 a4 a5 a6 : va_W} : ([a1, a2, a3, a4, a5, a6] : List va_W).flatten = a1 ++ a2 ++ a3 ++ a4 ++ a5 ++ a6 := by simp
theorem zA7 {a1 a2 a3 a4 a5 a6 a7 : va_W} : ([a1, a2, a3, a4, a5, a6, a7] : List va_W).flatten = a1 ++ a2 ++ a3 ++ a4 ++ a5 ++ a6 ++ a7 := by simp
theorem zA8 {a1 a2 a3 a4 a5 a6 a7 a8 : va_W} : ([a1, a2, a3, a4, a5, a6, a7, a8] : List va_W).flatten = a1 ++ a2 ++ a3 ++ a4 ++ a5 ++ a6 ++ a7 ++ a8 := by simp
theorem zA9 {a1 a2 a3 a4 a5 a6 a7 a8 a9 : va_W} : ([a1, a2, a3, a4, a5, a6, a7, a8, a9] : List va_W).flatten = a1 ++ a2 ++ a3 ++ a4 ++ a5 ++ a6 ++ a7 ++ a8 ++ a9 := by simp
theorem zA10 {a1 a2 a3 a4 a5 a6 a7 a8 a9 a10 : va_W} : ([a1, a2, a3, a4, a5, a6, a7, a8, a9, a10] : List va_W).flatten = a1 ++ a2 ++ a3 ++ a4 ++ a5 ++ a6 ++ a7 ++ a8 ++ a9 ++ a10 := by simp
theorem zA11 {a1 a2 a3 a4 a5 a6 a7 a8 a9 a10 a11 : va_W} : ([a1, a2, a3, a4, a5, a6, a7, a8, a9, a10, a11] : List va_W).flatten = a1 ++ a2 ++ a3 ++ a4 ++ a5 ++ a6 ++ a7 ++ a8 ++ a9 ++ a10 ++ a11 := by simp
theorem zA12 {a1 a2 a3 a4 a5 a6 a7 a8 a9 a10 a11 a12 : va_W} : ([a1, a2, a3, a4, a5, a6, a7, a8, a9, a10, a11, a12] : List va_W).flatten = a1 ++ a2 ++ a3 ++ a4 ++ a5 ++ a6 ++ a7 ++ a8 ++ a9 ++ a10 ++ a11 ++ a12 := by simp
section ZL
variable {p : Program} {l : Launch} {e : Env} {R : Room} {s : State} {m : MethodId} {args : Array Value} {below : List Frame} {meth : Method} {c : Code} {H : Heap} {locs : List Loc} {cells slots : Nat} {Q : State → Prop}
variable {D : va_G} {tys : zTy} {w : va_W} {A : Nat → Prop} {H0 : Heap} {cc : ByteArray} {nL pc : Nat} {Ts : List Cond} {own : String} {ls : Array Slot} {rest st : List Value}
variable {y : MethodName} {bytes : ByteArray} {maxL n index : Nat} {ret : Option FieldType} {ws ws' : List Cond} {rm : Room} {b : Nat} {As : List Value} {wc wc' : va_W} {v : Int32} {hh : List (Nat × Nat × Nat × Nat)}
theorem zFl {wc wr : va_W} : (List.range wc.length).map (fun i => (wc ++ wr)[i]?) = wc.map some := by
  rw [← zRange wc]
  refine List.map_congr_left fun i hi => ?_
  rw [List.getElem?_append_left (List.mem_range.mp hi)]
theorem zFr {wc wr : va_W} : ((List.range wr.length).map (fun i => wc.length + i)).map (fun i => (wc ++ wr)[i]?) = wr.map some := by
  rw [← zRange wr, List.map_map]
  refine List.map_congr_left fun i hi => ?_
  show (wc ++ wr)[wc.length + i]? = wr[i]?
  rw [List.getElem?_append_right (by omega)]
  congr 1
  omega
theorem zBb (a b c : Nat) : (va_nd (List.range a) && va_nd ((List.range b).map (fun i => a + i)) && va_nd (List.range c) && ((List.range b).map (fun i => a + i)).all (fun i => !(List.range a).contains i)) = true := by
  have h1 : ((List.range b).map (fun i => a + i)).Nodup := List.Pairwise.map (fun i => a + i) (fun x y hxy h => hxy (by omega)) List.nodup_range
  rw [zNdOf List.nodup_range, zNdOf h1, zNdOf List.nodup_range]
  simp
theorem zLVi {Cn : String} {T : u_T} {N ci : Nat} {fs : List Value} (chs chs' : List va_W) (C : CallFix p m c cc nL s args Ts own) (hK : zK D tys s) (hA : ∀ q : Nat, H0.size ≤ q → A q) (hP : va_P D vwCl chs.flatten H) (hD : va_D A chs.flatten) (hS : va_S A H0 H locs) (isC isR : List Nat) (q0 nn : Nat) (hM : zMi l y ws rm D tys (.ref b :: As) H.size wc v wc') (cw : CallW R s args own Cn index y bytes maxL ret ws rm 0 0 n) (hnn : chs.length = nn) (hp0 : (isC ++ isR).Perm (List.range nn)) (hlen : chs'.length = chs.length) (hC : zPick chs isC = wc) (hC' : zPick chs' isC = wc') (hR0 : zSame chs chs' isR) (hq : wc[q0]? = some (b, .inr (ci, fs))) (hcl : vwCl[ci]? = some (Cn, T, N))
    (hn : As.length = n) (hsize : ls.size = nL) (hroom : (rest.map fun v => v.category).sum ≤ 8) (hdg : decode cc pc = .ok (.invokevirtual index, 3)) (hfit : cells ≤ R.cells ∧ slots ≤ R.slots) (hst : st = As.reverse ++ .ref b :: rest) (kk : ∀ (H1 : Heap) (locs1 : List Loc), va_P D vwCl chs'.flatten H1 → va_D A chs'.flatten → va_S A H0 H1 locs1 → W p l e R s m args below meth c H1 locs1 cells slots Q (F0 m (pc + 3) ls (.int v :: rest))) : W p l e R s m args below meth c H locs cells slots Q (F0 m pc ls st) := by
  have hR : zPick chs isR = zPick chs' isR := zSame_pick hR0
  have hp : (isC ++ isR).Perm (List.range chs.length) := by rw [hnn]; exact hp0
  have e1 : zPick chs (isC ++ isR) = wc ++ zPick chs isR := by rw [zPickA, hC]
  have hP1 : va_P D vwCl (wc ++ zPick chs isR) H := by rw [← e1]; exact zPermP (zPickP hp) hP
  have hD1 : va_D A (wc ++ zPick chs isR) := by rw [← e1]; exact zPermD (zPickP hp) hD
  have e2 : (zPick chs isR ++ wc').Perm chs'.flatten := by
    rw [hR, ← hC', ← zPickA]
    refine (zPickP ?_).symm
    rw [hlen]
    exact List.perm_append_comm.trans hp
  refine zCVi (wr := zPick chs isR) (wn := zPick chs isR ++ wc') C hK hA hP1 hD1 hS (List.range wc.length) ((List.range (zPick chs isR).length).map (fun i => wc.length + i)) (List.range (zPick chs isR ++ wc').length) q0 hM cw zFl zFr (zBb _ _ _) (zRange _) hq hcl hn hsize hroom hdg hfit hst (fun H1 locs1 h1 h2 h3 => kk H1 locs1 (zPermP e2 h1) (zPermD e2 h2) h3)
theorem zLWi {Cn : String} {T : u_T} {N ci : Nat} {fs : List Value} (chs chs' : List va_W) (C : CallFix p m c cc nL s args Ts own) (hK : zK D tys s) (hA : ∀ q : Nat, H0.size ≤ q → A q) (hP : va_P D vwCl chs.flatten H) (hD : va_D A chs.flatten) (hS : va_S A H0 H locs) (isC isR : List Nat) (q0 nn : Nat) (hM : zMi l y ws rm D tys (.ref b :: As) H.size wc v wc') (cw : vx_CVW R s args own Cn index y bytes maxL ret hh ws rm 0 0 n) (hnn : chs.length = nn) (hp0 : (isC ++ isR).Perm (List.range nn)) (hlen : chs'.length = chs.length) (hC : zPick chs isC = wc) (hC' : zPick chs' isC = wc') (hR0 : zSame chs chs' isR) (hq : wc[q0]? = some (b, .inr (ci, fs))) (hcl : vwCl[ci]? = some (Cn, T, N))
    (hn : As.length = n) (hsize : ls.size = nL) (hroom : (rest.map fun v => v.category).sum ≤ 8) (hdg : decode cc pc = .ok (.invokevirtual index, 3)) (hfit : cells ≤ R.cells ∧ slots ≤ R.slots) (hst : st = As.reverse ++ .ref b :: rest) (kk : ∀ (H1 : Heap) (locs1 : List Loc), va_P D vwCl chs'.flatten H1 → va_D A chs'.flatten → va_S A H0 H1 locs1 → W p l e R s m args below meth c H1 locs1 cells slots Q (F0 m (pc + 3) ls (.int v :: rest))) : W p l e R s m args below meth c H locs cells slots Q (F0 m pc ls st) := by
  have hR : zPick chs isR = zPick chs' isR := zSame_pick hR0
  have hp : (isC ++ isR).Perm (List.range chs.length) := by rw [hnn]; exact hp0
  have e1 : zPick chs (isC ++ isR) = wc ++ zPick chs isR := by rw [zPickA, hC]
  have hP1 : va_P D vwCl (wc ++ zPick chs isR) H := by rw [← e1]; exact zPermP (zPickP hp) hP
  have hD1 : va_D A (wc ++ zPick chs isR) := by rw [← e1]; exact zPermD (zPickP hp) hD
  have e2 : (zPick chs isR ++ wc').Perm chs'.flatten := by
    rw [hR, ← hC', ← zPickA]
    refine (zPickP ?_).symm
    rw [hlen]
    exact List.perm_append_comm.trans hp
  refine zCVWi (wr := zPick chs isR) (wn := zPick chs isR ++ wc') C hK hA hP1 hD1 hS (List.range wc.length) ((List.range (zPick chs isR).length).map (fun i => wc.length + i)) (List.range (zPick chs isR ++ wc').length) q0 hM cw zFl zFr (zBb _ _ _) (zRange _) hq hcl hn hsize hroom hdg hfit hst (fun H1 locs1 h1 h2 h3 => kk H1 locs1 (zPermP e2 h1) (zPermD e2 h2) h3)
end ZL
