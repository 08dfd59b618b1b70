/-! own part: the call of the law's own 'name' out of a world of pieces -/
theorem zLawP : ∀ sig, parseMethodDescriptor yL_name.desc = some sig → 4 = sig.parameters.length := by
  intro sig h
  have h2 : (parseMethodDescriptor yL_name.desc).map (fun d => d.parameters.length) = some 4 := by decide +kernel
  rw [h] at h2
  exact (Option.some.inj h2).symm
theorem zDis (a b : Nat) : ∀ i ∈ (List.range b).map (fun i => a + i), i ∉ List.range a := by
  intro i hi h
  obtain ⟨j, -, rfl⟩ := List.mem_map.mp hi
  have := List.mem_range.mp h
  omega
theorem zNdM (a b : Nat) : va_nd ((List.range b).map (fun i => a + i)) = true := zNdOf (List.Pairwise.map (fun i => a + i) (fun x y hxy h => hxy (by omega)) List.nodup_range)
theorem zLNm {p : Program} {l : Launch} {e : Env} {s : State} {m : MethodId} {args : Array Value} {below : List Frame} {meth : Method} {c : Code} {H : Heap} {locs : List Loc} {cells slots : Nat} {Q : State → Prop} {D : va_G} {tys : zTy} {A : Nat → Prop} {cc : ByteArray} {nL pc : Nat} {ls : Array Slot} {rest st : List Value} {As : List Value} {wc : va_W} {wcg : (Nat → Int64) → va_W} {fl v : Int32} (chs : List va_W) (chsg : (Nat → Int64) → List va_W) (C : CallFix p m c cc nL s args lw_g RL) (hK : zK D tys s) (hZ : zSx A s s.heap) (hA : ∀ q : Nat, s.heap.size ≤ q → A q) (hP : va_P D vwCl chs.flatten H) (hD : va_D A chs.flatten) (hS : va_S A s.heap H locs) (isC isR : List Nat) (nn : Nat)
    (hM : Met l yL_name (Cond.codeWith yL_name cL_name 5 (some .int) [(0, 10, 13, 13)] :: lw_g) rL_name (zPreX D tys As H.size wc) (zQn D tys (va_A wc H.size) fl v wcg) 1 6 (va_A wc H.size)) (hnn : chs.length = nn) (hp0 : (isC ++ isR).Perm (List.range nn)) (hlen : ∀ g, (chsg g).length = chs.length) (hC : zPick chs isC = wc) (hC' : ∀ g, zPick (chsg g) isC = wcg g) (hR0 : ∀ g, zSame chs (chsg g) isR)
    (hn : As.length = 4) (hsize : ls.size = nL) (hroom : (rest.map fun v => v.category).sum ≤ 8) (hdg : decode cc pc = .ok (.invokestatic 113, 3)) (hfit : cells + 1 ≤ room_1.cells ∧ slots + 6 ≤ room_1.slots) (hst : st = As.reverse ++ rest) (kk : ∀ (r : Int32) (g : Nat → Int64) (H1 : Heap) (locs1 : List Loc), ((fl = 1 ∧ r = 1) ∨ (fl = 0 ∧ r = 0 ∧ g 0 = v.toInt64)) → va_P D vwCl (chsg g).flatten H1 → va_D A (chsg g).flatten → va_S A s.heap H1 locs1 → W p l e room_1 s m args below meth c H1 locs1 (cells + 1) (slots + 6) Q (F0 m (pc + 3) ls (.int r :: rest))) : W p l e room_1 s m args below meth c H locs cells slots Q (F0 m pc ls st) := by
  subst hst
  have hp : (isC ++ isR).Perm (List.range chs.length) := by rw [hnn]; exact hp0
  have e1 : zPick chs (isC ++ isR) = wc ++ zPick chs isR := by rw [zPickA, hC]
  have hP1 : va_P D vwCl (wc ++ zPick chs isR) H := by rw [← e1]; exact zPermP (zPickP hp) hP
  have hD1 : va_D A (wc ++ zPick chs isR) := by rw [← e1]; exact zPermD (zPickP hp) hD
  obtain ⟨hPc, hDc⟩ := zCut (wc := wc) hP1 hD1 (List.range wc.length) (zNdOf List.nodup_range) zFl
  have hFc := va_free (wc := wc) hD1 hS hA (List.range wc.length) zFl
  refine va_calli (vx_runSW (As := As) (rest := rest) C hM ⟨⟨rfl, rfl, Nat.le_of_ble_eq_true rfl, Nat.le_of_ble_eq_true rfl, pay_in C.2.2.2.2 (wIn wkL_name), List.mem_cons_self⟩, C.2.2.2.2 _ wkL_name, C.2.2.2.2 _ wnL, ⟨by decide +kernel, by decide +kernel⟩, zLawP, C.2.2.2.2 _ wlL_113, C.2.2.2.2 _ wtL_name⟩ (zPsX hK hZ hS hFc hPc hDc) rfl hn hsize rfl (lv_room hroom) hdg hfit) hS (fun q _ h => hFc q h) hFc (fun r g t H1 locs1 ht hvm hw hB hz1 hk1 hS1 => ?_)
  obtain ⟨hP2, -, hD2⟩ := hB
  rw [ht] at hP2
  obtain ⟨hP3, hD3⟩ := va_join (wr := zPick chs isR) (w1 := wcg g) hP1 hD1 (List.range wc.length) ((List.range (zPick chs isR).length).map (fun i => wc.length + i)) zFl zFr (zNdM _ _) (zDis _ _) hk1 hFc hP2 hD2
  have e2 : (zPick chs isR ++ wcg g).Perm (chsg g).flatten := by
    rw [zSame_pick (hR0 g), ← hC' g, ← zPickA]
    refine (zPickP ?_).symm
    rw [hlen g]
    exact List.perm_append_comm.trans hp
  exact kk r g H1 locs1 hw (zPermP e2 hP3) (zPermD e2 hD3) hS1
