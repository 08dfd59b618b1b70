theorem wLs1 : Cond.laysStatic Bundle.tN "UNASSIGNED_STACK" Bundle.steD ∈ lw_tbl := List.mem_append_right _ (List.mem_append_right _ (List.mem_append_right _ (List.mem_append_right _ (List.mem_append_left _ (List.mem_of_getElem? (i := 117) (by decide +kernel))))))
theorem wLs2 : Cond.laysStatic Bundle.tN "SUPPRESSED_SENTINEL" Bundle.listD ∈ lw_tbl := List.mem_append_right _ (List.mem_append_right _ (List.mem_append_right _ (List.mem_append_right _ (List.mem_append_left _ (List.mem_of_getElem? (i := 119) (by decide +kernel))))))
/-! own part: from the law's entry to its loop -/
theorem zArr {s : State} {args : Array Value} {ty : FieldType} (h : (Cond.arrayClass ty).before args s = true) : ∃ cA : ClassId, ArrOfT s cA ty ∧ s.vm.findClass ("[" ++ ty.toString) = some cA := by
  obtain ⟨cA, kA, comp, h1, h2, h3⟩ := Cond.arrayClass_spec h
  exact ⟨cA, fun n z => ⟨fun k h => (by cases h), kA, h2, comp, h3⟩, h1⟩
theorem zNFt : ∀ q ∈ zNF, Cond.fieldLinkNest q.1 q.2.1 q.2.2.1 q.2.2.2.1 q.2.2.2.2.1 q.2.2.2.2.2 ∈ lw_tbl := by decide +kernel
theorem zNMt : ∀ q ∈ zNM, Cond.methodLinkNest q.1 q.2.1 q.2.2.1 q.2.2.2 ∈ lw_tbl := by decide +kernel
theorem zNxs {s : State} {args : Array Value} (hts : ∀ w ∈ lw_tbl, w.before args s = true) : zNx s := ⟨fun q hq => va_Nw.of rfl (hts _ (zNFt q hq)), fun q hq => va_Nw.of rfl (hts _ (zNMt q hq))⟩
section ZNL
variable {p : Program} {l : Launch} {e : Env} {R : Room} {s : State} {m : MethodId} {args : Array Value} {below : List Frame} {meth : Method} {c : Code} {H : Heap} {locs : List Loc} {cells slots : Nat} {Q : State → Prop}
variable {D : va_G} {tys : zTy} {w : va_W} {A : Nat → Prop} {H0 : Heap} {cc : ByteArray} {nL pc : Nat} {own : String} {ls : Array Slot} {rest : List Value}
theorem zNewL {cA : ClassId} {k : Int32} (N : Nat) (C0 : CallFix p m c cc nL s args lw_g own) (hK : zK D tys s) (hP : va_P D vwCl w H) (hD : va_D A w) (hS : va_S A H0 H locs) (hA : ∀ q, H0.size ≤ q → A q) (t0 : Nat) (ht : tys[t0]? = some (cA, .long)) (hn : ¬ k < 0) (hN : k.toNatClampNeg = N) (hb : N * componentBytes .long ≤ 536870912) (hcells : cells + 1 ≤ R.cells) (hslots : slots + N ≤ R.slots) (hdg : decode cc pc = .ok (.newarray .long, 2)) (harr : Cond.arrayClass .long ∈ lw_g)
    (kk : ∀ (q : Nat) (H1 : Heap), va_P D vwCl (w ++ [(q, .inl (cA, N, .inr (.inl (fun _ => 0))))]) H1 → va_D A (w ++ [(q, .inl (cA, N, .inr (.inl (fun _ => 0))))]) → va_S A H0 H1 locs → W p l e R s m args below meth c H1 locs (cells + 1) (slots + N) Q (F0 m (pc + 2) ls (.ref q :: rest))) : W p l e R s m args below meth c H locs cells slots Q (F0 m pc ls (.int k :: rest)) := by
  refine va_newa (atype := .long) (ty := .long) (a0 := (N, .inr (.inl (fun _ => 0)))) C0.1 C0.2.1 (C0.2.2.2.2 _ harr) rfl hK.1 hP hD hS hA (fun cA => rfl) hn hN hb hcells hslots hdg (fun q cA' H1 hK' hP hD hS => ?_)
  have h1 : va_RA s cA' .long := (hK'.2 tys.length (cA', .long) (by simp)).2
  have h2 : va_RA s cA .long := (hK.1.2 t0 (cA, .long) ht).2
  have h3 : cA' = cA := Option.some.inj (h1.symm.trans h2)
  subst h3
  exact kk q H1 hP hD hS
end ZNL
set_option maxHeartbeats 40000000 in
set_option maxRecDepth 100000 in
theorem start_of_pure {p : Program} {e : Env} {s : State} {m : MethodId} {below : List Frame} {meth : Method} {c : Code} (l : Launch) {b L : Nat} {xs : Nat → Int32} (hL : L ≤ 3072) (hlt : l.stackTraces = false) (C0 : lw_At p s m meth c b L xs) (NN : Nat) (hf : fLaw NN L xs NN 0 iX7 iX5 iX6 iX4 iX4 (fun _ => 0) (fun _ => 0) iX3 iX2 iX3 iX0 iX10 iX10 iX10 iX10 iX10 iX10 iX10 iX10 iX10 iX8 iX8 iX9 (fun _ => 0) (fun _ => 0) = some ()) : W p l e room_1 s m #[Value.ref b] below meth c s.heap [] 0 0 (lw_Z below #[Value.ref b] s) (entryFrame m ([Value.ref b] : List Value).toArray 7) := by
  obtain ⟨hx, hb, hr, hml, hown, hts, hXs, hbl, hlocks, hgv⟩ := id C0
  have htg : ∀ w ∈ lw_g, w.before #[Value.ref b] s = true := fun w h => hts w (List.mem_filter.mp h).1
  have C : zCx p m meth c cL_law 7 (some .boolean) s #[Value.ref b] lw_g RL := ⟨⟨hx, hb, hml, hown, htg⟩, hr, hlocks⟩
  have hA : ∀ q : Nat, s.heap.size ≤ q → (fun q : Nat => s.heap.size ≤ q) q := fun _ h => h
  have hbA : ¬ (fun q : Nat => s.heap.size ≤ q) b := Nat.not_le.mpr hbl
  obtain ⟨c0, i0, k0⟩ := u_known (C := RX0) (T := TX0) (N := 11) (n := 11) htg wuX0 (htg _ wqX0)
  obtain ⟨c1, i1, k1⟩ := u_known (C := RX1) (T := TX1) (N := 3) (n := 3) htg wuX1 (htg _ wqX1)
  obtain ⟨c2, i2, k2⟩ := u_known (C := RX2) (T := TX2) (N := 11) (n := 11) htg wuX2 (htg _ wqX2)
  obtain ⟨c3, i3, k3⟩ := u_known (C := RX3) (T := TX3) (N := 2) (n := 2) htg wuX3 (htg _ wqX3)
  obtain ⟨c4, i4, k4⟩ := u_known (C := RX4) (T := TX4) (N := 13) (n := 13) htg wuX4 (htg _ wqX4)
  obtain ⟨c5, i5, k5⟩ := u_known (C := RX5) (T := TX5) (N := 10) (n := 10) htg wuX5 (htg _ wqX5)
  obtain ⟨c6, i6, k6⟩ := u_known (C := RX6) (T := TX6) (N := 10) (n := 10) htg wuX6 (htg _ wqX6)
  obtain ⟨c7, i7, k7⟩ := u_known (C := RX7) (T := TX7) (N := 11) (n := 11) htg wuX7 (htg _ wqX7)
  obtain ⟨c8, i8, k8⟩ := u_known (C := RX8) (T := TX8) (N := 13) (n := 13) htg wuX8 (htg _ wqX8)
  obtain ⟨c9, i9, k9⟩ := u_known (C := RX9) (T := TX9) (N := 8) (n := 8) htg wuX9 (htg _ wqX9)
  obtain ⟨c10, i10, k10⟩ := u_known (C := RX10) (T := TX10) (N := 36) (n := 36) htg wuX10 (htg _ wqX10)
  obtain ⟨dC, dI, hKc⟩ : ∃ (dC : Nat → ClassId) (dI : Nat → Nat → Nat), ∀ (k : Nat) (q : vw_C), vwCl[k]? = some q → u_Kn s q.1 q.2.1 q.2.2 (dC k) (dI k) := by
    refine ⟨fun k => [c0, c1, c2, c3, c4, c5, c6, c7, c8, c9, c10].getD k c0, fun k => [i0, i1, i2, i3, i4, i5, i6, i7, i8, i9, i10].getD k i0, ?_⟩
    intro k q hq
    match k, hq with
    | 0, hq => cases hq; exact k0
    | 1, hq => cases hq; exact k1
    | 2, hq => cases hq; exact k2
    | 3, hq => cases hq; exact k3
    | 4, hq => cases hq; exact k4
    | 5, hq => cases hq; exact k5
    | 6, hq => cases hq; exact k6
    | 7, hq => cases hq; exact k7
    | 8, hq => cases hq; exact k8
    | 9, hq => cases hq; exact k9
    | 10, hq => cases hq; exact k10
    | k + 11, hq => simp [vwCl] at hq
  obtain ⟨cI, hI1, hI2⟩ := zArr (htg _ wAI)
  obtain ⟨cB, hB1, hB2⟩ := zArr (htg _ wAB)
  obtain ⟨cL, hL1, hL2⟩ := zArr (htg _ wAL)
  have hK3 : zK (dC, dI) [(cI, .int), (cB, .byte), (cL, .long)] s := ⟨⟨hKc, fun k q h => by
    match k, h with
    | 0, h => cases h; exact ⟨hI1, hI2⟩
    | 1, h => cases h; exact ⟨hB1, hB2⟩
    | 2, h => cases h; exact ⟨hL1, hL2⟩
    | k + 3, h => simp at h⟩, zNxs hts⟩
  have hK : zK (dC, dI) [(cI, .int), (cB, .byte)] s := ⟨hK3.1.sub [0, 1] rfl, hK3.2⟩
  have hfl := flat_of_before _ hgv
  have hZ : zSx (fun q : Nat => s.heap.size ≤ q) s s.heap := ⟨vx_Zqof (hts _ wLs1) (htg _ wnT4) (hfl _ (by decide +kernel)) (fun a h => Nat.not_le.mpr h), vx_Zqof (hts _ wLs2) (htg _ wnT4) (hfl _ (by decide +kernel)) (fun a h => Nat.not_le.mpr h)⟩
  have hS : va_S (fun q : Nat => s.heap.size ≤ q) s.heap s.heap [] := va_S.rf
  have hP : va_P (dC, dI) vwCl [] s.heap := fun k q h => by simp at h
  have hD : va_D (fun q : Nat => s.heap.size ≤ q) [] := ⟨fun i j p q h => by simp at h, fun k q h => by simp at h⟩
  have hl := lv_entry ([.ref b]) (n := 7) (Nat.le_of_ble_eq_true rfl)
  rw [lg_entry_eq]
  generalize (lg_sl ([.ref b]) ++ List.replicate (7 - (lg_sl ([.ref b])).length) Slot.unset).toArray = ls at hl ⊢
  have hl : lv_has ls 7 [(0, .ref b)] := hl
  refine va_new (ci := 7) (fs := [.null, .null, .null, .null, .null, .int 0, .null, .int 0, .int 0, .int 0, .int 0]) (C := RX7) (T := TX7) (N := 11) C.1.1 C.1.2.1 C.1.2.2.2.2 wuX7 tyX7 tyX7_ok C.1.2.2.2.1 (C.1.2.2.2.2 _ wxL_8) (C.1.2.2.2.2 _ wqX7) (C.1.2.2.2.2 _ wnX7) hK.1 hP hD hS hA rfl zdX7 (Nat.le_of_ble_eq_true rfl) (Nat.le_of_ble_eq_true rfl) dL_law_0 (fun q1 H hP hD hS => ?_)
  have hP : va_P (dC, dI) vwCl [(q1, .inr (7, [.null, .null, .null, .null, .null, .int 0, .null, .int 0, .int 0, .int 0, .int 0]))] H := hP
  have hD : va_D (fun q : Nat => s.heap.size ≤ q) [(q1, .inr (7, [.null, .null, .null, .null, .null, .int 0, .null, .int 0, .int 0, .int 0, .int 0]))] := hD
  refine W.widen (k := 1) (n := 11) (Nat.le_refl _) (Nat.le_refl _) ?_
  refine lv_dup C.1.1 C.1.2.1 dL_law_3 rfl ?_
  refine zCIp (wr := []) (wf := fun ad => (kX7 cI cB (ad 0) ((ad 1) 0) ((ad 5) 0) ((ad 9) 0) ((ad 11) 0) ((ad 4) 0) iX7 ++ kX5 cI cB (ad 1) ((ad 2) 0) ((ad 3) 0) iX5 ++ kX6 cI cB (ad 2) iX6 ++ kX4 cI cB (ad 3) iX4 ++ kX4 cI cB (ad 4) iX4 ++ kX1 cI cB (ad 5) ((ad 6) 0) ((ad 7) 0) ((ad 8) 0) ++ kA8 cI cB (ad 6) (fun _ => 0) ++ kA8 cI cB (ad 7) (fun _ => 0) ++ kX3 cI cB (ad 8) iX3 ++ kX2 cI cB (ad 9) ((ad 10) 0) iX2 ++ kX3 cI cB (ad 10) iX3 ++ kX0 cI cB (ad 11) iX0)) (rest := [.ref q1]) C.1 hK hA hP hD hS [0] [] (mtX7_init l dC dI cI cB q1 H.size) wlL_15 wiX7_init wnX7 wkX7_init rfl rfl rfl (by decide +kernel) ⟨Nat.le_of_ble_eq_true rfl, Nat.le_of_ble_eq_true rfl⟩ rfl rfl (by decide +kernel) hl.1 (Nat.le_of_ble_eq_true rfl) dL_law_4 ⟨Nat.le_of_ble_eq_true rfl, Nat.le_of_ble_eq_true rfl⟩ rfl (fun ad1 H locs had hP2 hD2 hS2 => ?_)
  clear hP hD hS
  subst had
  have hP := hP2
  have hD := hD2
  have hS := hS2
  have hP : va_P (dC, dI) vwCl (kX7 cI cB (ad1 0) ((ad1 1) 0) ((ad1 5) 0) ((ad1 9) 0) ((ad1 11) 0) ((ad1 4) 0) iX7 ++ kX5 cI cB (ad1 1) ((ad1 2) 0) ((ad1 3) 0) iX5 ++ kX6 cI cB (ad1 2) iX6 ++ kX4 cI cB (ad1 3) iX4 ++ kX4 cI cB (ad1 4) iX4 ++ kX1 cI cB (ad1 5) ((ad1 6) 0) ((ad1 7) 0) ((ad1 8) 0) ++ kA8 cI cB (ad1 6) (fun _ => 0) ++ kA8 cI cB (ad1 7) (fun _ => 0) ++ kX3 cI cB (ad1 8) iX3 ++ kX2 cI cB (ad1 9) ((ad1 10) 0) iX2 ++ kX3 cI cB (ad1 10) iX3 ++ kX0 cI cB (ad1 11) iX0) H := hP
  have hD : va_D (fun q : Nat => s.heap.size ≤ q) (kX7 cI cB (ad1 0) ((ad1 1) 0) ((ad1 5) 0) ((ad1 9) 0) ((ad1 11) 0) ((ad1 4) 0) iX7 ++ kX5 cI cB (ad1 1) ((ad1 2) 0) ((ad1 3) 0) iX5 ++ kX6 cI cB (ad1 2) iX6 ++ kX4 cI cB (ad1 3) iX4 ++ kX4 cI cB (ad1 4) iX4 ++ kX1 cI cB (ad1 5) ((ad1 6) 0) ((ad1 7) 0) ((ad1 8) 0) ++ kA8 cI cB (ad1 6) (fun _ => 0) ++ kA8 cI cB (ad1 7) (fun _ => 0) ++ kX3 cI cB (ad1 8) iX3 ++ kX2 cI cB (ad1 9) ((ad1 10) 0) iX2 ++ kX3 cI cB (ad1 10) iX3 ++ kX0 cI cB (ad1 11) iX0) := hD
  refine W.widen (k := 49) (n := 24573) (Nat.le_refl _) (Nat.le_refl _) ?_
  refine lv_astore_n (lv' := [(1, .ref (ad1 0 0)), (0, .ref b)]) C.1.1 C.1.2.1 dL_law_7 rfl hl (by decide) rfl (fun ls hl => ?_)
  refine va_new (ci := 10) (fs := [.int 0, .int 0, .int 0, .int 0, .int 0, .int 0, .int 0, .null, .null, .int 0, .null, .null, .int 0, .int 0, .int 0, .int 0, .int 0, .int 0, .int 0, .int 0, .int 0, .null, .null, .null, .null, .null, .null, .null, .null, .null, .null, .null, .null, .null, .null, .int 0]) (C := RX10) (T := TX10) (N := 36) C.1.1 C.1.2.1 C.1.2.2.2.2 wuX10 tyX10 tyX10_ok C.1.2.2.2.1 (C.1.2.2.2.2 _ wxL_16) (C.1.2.2.2.2 _ wqX10) (C.1.2.2.2.2 _ wnX10) hK.1 hP hD hS hA rfl zdX10 (Nat.le_of_ble_eq_true rfl) (Nat.le_of_ble_eq_true rfl) dL_law_8 (fun q2 H hP hD hS => ?_)
  have hP : va_P (dC, dI) vwCl ((kX7 cI cB (ad1 0) ((ad1 1) 0) ((ad1 5) 0) ((ad1 9) 0) ((ad1 11) 0) ((ad1 4) 0) iX7 ++ kX5 cI cB (ad1 1) ((ad1 2) 0) ((ad1 3) 0) iX5 ++ kX6 cI cB (ad1 2) iX6 ++ kX4 cI cB (ad1 3) iX4 ++ kX4 cI cB (ad1 4) iX4 ++ kX1 cI cB (ad1 5) ((ad1 6) 0) ((ad1 7) 0) ((ad1 8) 0) ++ kA8 cI cB (ad1 6) (fun _ => 0) ++ kA8 cI cB (ad1 7) (fun _ => 0) ++ kX3 cI cB (ad1 8) iX3 ++ kX2 cI cB (ad1 9) ((ad1 10) 0) iX2 ++ kX3 cI cB (ad1 10) iX3 ++ kX0 cI cB (ad1 11) iX0) ++ [(q2, .inr (10, [.int 0, .int 0, .int 0, .int 0, .int 0, .int 0, .int 0, .null, .null, .int 0, .null, .null, .int 0, .int 0, .int 0, .int 0, .int 0, .int 0, .int 0, .int 0, .int 0, .null, .null, .null, .null, .null, .null, .null, .null, .null, .null, .null, .null, .null, .null, .int 0]))]) H := hP
  have hD : va_D (fun q : Nat => s.heap.size ≤ q) ((kX7 cI cB (ad1 0) ((ad1 1) 0) ((ad1 5) 0) ((ad1 9) 0) ((ad1 11) 0) ((ad1 4) 0) iX7 ++ kX5 cI cB (ad1 1) ((ad1 2) 0) ((ad1 3) 0) iX5 ++ kX6 cI cB (ad1 2) iX6 ++ kX4 cI cB (ad1 3) iX4 ++ kX4 cI cB (ad1 4) iX4 ++ kX1 cI cB (ad1 5) ((ad1 6) 0) ((ad1 7) 0) ((ad1 8) 0) ++ kA8 cI cB (ad1 6) (fun _ => 0) ++ kA8 cI cB (ad1 7) (fun _ => 0) ++ kX3 cI cB (ad1 8) iX3 ++ kX2 cI cB (ad1 9) ((ad1 10) 0) iX2 ++ kX3 cI cB (ad1 10) iX3 ++ kX0 cI cB (ad1 11) iX0) ++ [(q2, .inr (10, [.int 0, .int 0, .int 0, .int 0, .int 0, .int 0, .int 0, .null, .null, .int 0, .null, .null, .int 0, .int 0, .int 0, .int 0, .int 0, .int 0, .int 0, .int 0, .int 0, .null, .null, .null, .null, .null, .null, .null, .null, .null, .null, .null, .null, .null, .null, .int 0]))]) := hD
  refine W.widen (k := 50) (n := 24609) (Nat.le_refl _) (Nat.le_refl _) ?_
  refine lv_dup C.1.1 C.1.2.1 dL_law_11 rfl ?_
  refine zCIx (wr := (kX7 cI cB (ad1 0) ((ad1 1) 0) ((ad1 5) 0) ((ad1 9) 0) ((ad1 11) 0) ((ad1 4) 0) iX7 ++ kX5 cI cB (ad1 1) ((ad1 2) 0) ((ad1 3) 0) iX5 ++ kX6 cI cB (ad1 2) iX6 ++ kX4 cI cB (ad1 3) iX4 ++ kX4 cI cB (ad1 4) iX4 ++ kX1 cI cB (ad1 5) ((ad1 6) 0) ((ad1 7) 0) ((ad1 8) 0) ++ kA8 cI cB (ad1 6) (fun _ => 0) ++ kA8 cI cB (ad1 7) (fun _ => 0) ++ kX3 cI cB (ad1 8) iX3 ++ kX2 cI cB (ad1 9) ((ad1 10) 0) iX2 ++ kX3 cI cB (ad1 10) iX3 ++ kX0 cI cB (ad1 11) iX0)) (wf := fun ad => (kX10 cI cB (ad 0) ((ad 1) 0) ((ad 2) 0) ((ad 3) 0) ((ad 4) 0) ((ad 5) 0) iX10 iX10 iX10 iX10 iX10 iX10 iX10 iX10 iX10 ++ kX8 cI cB (ad 1) iX8 ++ kX8 cI cB (ad 2) iX8 ++ kX9 cI cB (ad 3) iX9 ++ kA8 cI cB (ad 4) (fun _ => 0) ++ kA8 cI cB (ad 5) (fun _ => 0))) (rest := [.ref q2]) C.1 hK hZ hA hP hD hS [49] [0, 1, 2, 3, 4, 5, 6, 7, 8, 9, 10, 11, 12, 13, 14, 15, 16, 17, 18, 19, 20, 21, 22, 23, 24, 25, 26, 27, 28, 29, 30, 31, 32, 33, 34, 35, 36, 37, 38, 39, 40, 41, 42, 43, 44, 45, 46, 47, 48] (mtX10_init l dC dI cI cB q2 H.size) wlL_18 wiX10_init wnX10 wkX10_init rfl rfl rfl (by decide +kernel) ⟨Nat.le_of_ble_eq_true rfl, Nat.le_of_ble_eq_true rfl⟩ rfl rfl (by decide +kernel) hl.1 (Nat.le_of_ble_eq_true rfl) dL_law_12 ⟨Nat.le_of_ble_eq_true rfl, Nat.le_of_ble_eq_true rfl⟩ rfl (fun ad2 H locs had hP2 hD2 hS2 => ?_)
  clear hP hD hS
  subst had
  have hP := hP2
  have hD := hD2
  have hS := hS2
  refine W.widen (k := 88) (n := 42162) (Nat.le_refl _) (Nat.le_refl _) ?_
  refine lv_astore_n (lv' := [(2, .ref (ad2 0 0)), (1, .ref (ad1 0 0)), (0, .ref b)]) C.1.1 C.1.2.1 dL_law_15 rfl hl (by decide) rfl (fun ls hl => ?_)
  refine lv_iconst (v := 1) C.1.1 C.1.2.1 dL_law_16 (by decide) ?_
  refine zNewL 1 C.1 hK3 hP hD hS hA 2 rfl (by decide) (by decide) (by decide) (Nat.le_of_ble_eq_true rfl) (Nat.le_of_ble_eq_true rfl) dL_law_17 wAL (fun aX H hP hD hS => ?_)
  refine W.widen (k := 89) (n := 42163) (Nat.le_refl _) (Nat.le_refl _) ?_
  refine lv_astore_n (lv' := [(3, .ref aX), (2, .ref (ad2 0 0)), (1, .ref (ad1 0 0)), (0, .ref b)]) C.1.1 C.1.2.1 dL_law_19 rfl hl (by decide) rfl (fun ls hl => ?_)
  refine lv_iconst (v := 0) C.1.1 C.1.2.1 dL_law_20 (by decide) ?_
  refine lv_istore (lv' := [(4, .int 0), (3, .ref aX), (2, .ref (ad2 0 0)), (1, .ref (ad1 0 0)), (0, .ref b)]) C.1.1 C.1.2.1 dL_law_21 hl (by decide) rfl (fun ls hl => ?_)
  exact law_loop (L := L) (xs := xs) hL C hlt hK3 hXs hbl hbA hA (fun _ h => h) hZ (ad1 0) (ad1 1) (ad1 2) (ad1 5) (ad1 6) (ad1 7) (ad1 8) (ad1 9) (ad1 10) (ad1 11) (ad2 0) (ad2 3) (ad2 4) (ad2 5) aX NN NN 0 iX7 iX5 iX6 iX4 iX4 (fun _ => 0) (fun _ => 0) iX3 iX2 iX3 iX0 iX10 iX10 iX10 iX10 iX10 iX10 iX10 iX10 iX10 iX8 iX8 iX9 (fun _ => 0) (fun _ => 0) hf 0 rfl (Nat.zero_le _) (ad1 3) (ad1 4) (ad2 1) (ad2 2) (fun _ => 0) H locs hP hD hS ls (lv_sub hl [4, 3, 2, 1, 0] rfl)
