theorem st_eq {args : Array Value} {s : State} {t : Term} {v : Int32} (h : (Cond.eq t (.int v)).before args s = true) : t.eval args s none [] s = some (.int v) := by
  obtain ⟨w, h1, h2⟩ := Cond.eq_one (show (Cond.eq t (.int v)).holds args s none s [] = true from h)
  have e : some (Value.int v) = some w := h2
  rw [h1, ← e]
theorem st_str {args : Array Value} {s : State} {own tx : String} {k : Nat} (h1 : (Cond.stringRef own k tx).before args s = true) (h2 : (Cond.exactly (.string own k) "java/lang/String").before args s = true) : ∃ sa : Nat, vk_R own k tx sa s := by
  obtain ⟨a, c, cA, kA, q1, q2, q3, q4, q5, q6, -⟩ := Cond.exactly_spec (args := args) (first := s) (o := none) (s := s) (idx := []) (t := .string own k) (cls := "java/lang/String") h2
  exact ⟨a, vk_R.of h1 q1⟩
set_option maxHeartbeats 8000000 in
set_option maxRecDepth 100000 in
theorem st_kS {s : State} {b : Nat} (hts : ∀ w ∈ lw_tbl, w.before #[Value.ref b] s = true) (hgv : (Jvm.Cond.and given_1 narrow_1).before #[Value.ref b] s = true) : ∃ e0 : kE, kS kStr e0 (fun q : Nat => s.heap.size ≤ q) s s.heap := by
  have hs := flat_of_before _ hgv
  have hA : ∀ a : Nat, a < s.heap.size → ¬ s.heap.size ≤ a := fun a h => Nat.not_le.mpr h
  have hU := vx_Zqof (A := (fun q : Nat => s.heap.size ≤ q)) (hts (.laysStatic Bundle.tN "UNASSIGNED_STACK" Bundle.steD) tw_354) (hts (.initialized Bundle.tN) tw_355) (hs (.isRef (.static Bundle.tN "UNASSIGNED_STACK" Bundle.steD)) (by decide +kernel)) hA
  have hN := vx_Zqof (A := (fun q : Nat => s.heap.size ≤ q)) (hts (.laysStatic Bundle.tN "SUPPRESSED_SENTINEL" Bundle.listD) tw_356) (hts (.initialized Bundle.tN) tw_355) (hs (.isRef (.static Bundle.tN "SUPPRESSED_SENTINEL" Bundle.listD)) (by decide +kernel)) hA
  obtain ⟨e1, he1, hT1⟩ := va_Tof (A := (fun q : Nat => s.heap.size ≤ q)) (tm := .static "java/util/ArrayList" kDE kDd) (ty := .object "java/lang/Object") (N := 0) (f := fun _ => .null) (by decide) (hs (.arrayOf (.static "java/util/ArrayList" kDE kDd) (.object "java/lang/Object")) (by decide +kernel)) (st_eq (hs (.eq (.length (.static "java/util/ArrayList" kDE kDd)) (.int 0)) (by decide +kernel))) (fun j hj => absurd hj (Nat.not_lt_zero j)) hA
  have hZ1 := va_Zof (A := (fun q : Nat => s.heap.size ≤ q)) (hts (.laysStatic "java/util/ArrayList" kDE kDd) tw_357) (hts (.initialized "java/util/ArrayList") tw_358) he1 hA
  have hZ2 := va_Zof (A := (fun q : Nat => s.heap.size ≤ q)) (hts (.laysStatic kIC "high" "I") tw_359) (hts (.initialized kIC) tw_360) (st_eq (hs (.eq (.static kIC "high" "I") (.int 127)) (by decide +kernel))) hA
  have hln := st_eq (hs (.eq (.length (.static kIC "cache" "[Ljava/lang/Integer;")) (.int 256)) (by decide +kernel))
  obtain ⟨ad, hC, hel⟩ := vb_Cof (A := (fun q : Nat => s.heap.size ≤ q)) (st := .static kIC "cache" "[Ljava/lang/Integer;") rfl hln (hs (.all (.static kIC "cache" "[Ljava/lang/Integer;") (.and (.exactly (.elem (.static kIC "cache" "[Ljava/lang/Integer;") (.index 0)) "java/lang/Integer") (.eq (.field (.elem (.static kIC "cache" "[Ljava/lang/Integer;") (.index 0)) "java/lang/Integer" "value" "I") (.sub (.index 0) (.int 128))))) (by decide +kernel)) hA
  obtain ⟨e2, he2, hT2⟩ := va_Tof (A := (fun q : Nat => s.heap.size ≤ q)) (tm := .static kIC "cache" "[Ljava/lang/Integer;") (ty := .object "java/lang/Integer") (N := 256) (f := fun j => .ref (ad j)) (by decide) (hs (.arrayOf (.static kIC "cache" "[Ljava/lang/Integer;") (.object "java/lang/Integer")) (by decide +kernel)) hln hel hA
  have hZ3 := va_Zof (A := (fun q : Nat => s.heap.size ≤ q)) (hts (.laysStatic kIC "cache" "[Ljava/lang/Integer;") tw_361) (hts (.initialized kIC) tw_360) he2 hA
  refine ⟨(e1, e2, ad 128, ad 132), hU, hN, hZ1, hT1, ?_, ?_, ?_, ?_, ?_, ?_, ?_, ?_, hZ2, hZ3, ⟨_, ⟨rfl, rfl⟩, hT2⟩, hC.1 128 (by decide), hC.1 132 (by decide)⟩
  · exact (List.forall_mem_cons.mpr ⟨(kYc.of (hts _ tw_362)), (List.forall_mem_cons.mpr ⟨(kYc.of (hts _ tw_363)), (List.forall_mem_cons.mpr ⟨(kYc.of (hts _ tw_364)), (List.forall_mem_cons.mpr ⟨(kYc.of (hts _ tw_365)), (List.forall_mem_cons.mpr ⟨(kYc.of (hts _ tw_366)), (List.forall_mem_cons.mpr ⟨(kYc.of (hts _ tw_367)), (fun _ h => absurd h List.not_mem_nil)⟩)⟩)⟩)⟩)⟩)⟩)
  · exact (List.forall_mem_cons.mpr ⟨(va_Nc.of (hs (.not (.castable "java/lang/UnsupportedOperationException" "java/lang/IllegalArgumentException")) (by decide +kernel))), (List.forall_mem_cons.mpr ⟨(va_Nc.of (hs (.not (.castable "java/util/NoSuchElementException" "java/lang/IllegalArgumentException")) (by decide +kernel))), (List.forall_mem_cons.mpr ⟨(va_Nc.of (hs (.not (.castable "java/util/NoSuchElementException" "java/lang/UnsupportedOperationException")) (by decide +kernel))), (fun _ h => absurd h List.not_mem_nil)⟩)⟩)⟩)
  · exact (List.forall_mem_cons.mpr ⟨(st_str (hts _ tw_368) (hs (.exactly (.string "Segueworks" 47) "java/lang/String") (by decide +kernel))), (List.forall_mem_cons.mpr ⟨(st_str (hts _ tw_369) (hs (.exactly (.string "Segueworks" 64) "java/lang/String") (by decide +kernel))), (List.forall_mem_cons.mpr ⟨(st_str (hts _ tw_370) (hs (.exactly (.string "Segueworks" 70) "java/lang/String") (by decide +kernel))), (List.forall_mem_cons.mpr ⟨(st_str (hts _ tw_371) (hs (.exactly (.string "Segueworks" 77) "java/lang/String") (by decide +kernel))), (List.forall_mem_cons.mpr ⟨(st_str (hts _ tw_372) (hs (.exactly (.string "Segueworks" 82) "java/lang/String") (by decide +kernel))), (List.forall_mem_cons.mpr ⟨(st_str (hts _ tw_373) (hs (.exactly (.string "Segueworks" 136) "java/lang/String") (by decide +kernel))), (List.forall_mem_cons.mpr ⟨(st_str (hts _ tw_374) (hs (.exactly (.string "Segueworks" 184) "java/lang/String") (by decide +kernel))), (List.forall_mem_cons.mpr ⟨(st_str (hts _ tw_375) (hs (.exactly (.string "Segueworks" 205) "java/lang/String") (by decide +kernel))), (List.forall_mem_cons.mpr ⟨(st_str (hts _ tw_376) (hs (.exactly (.string "Segueworks" 214) "java/lang/String") (by decide +kernel))), (List.forall_mem_cons.mpr ⟨(st_str (hts _ tw_377) (hs (.exactly (.string "Segueworks" 222) "java/lang/String") (by decide +kernel))), (List.forall_mem_cons.mpr ⟨(st_str (hts _ tw_378) (hs (.exactly (.string "Segueworks" 230) "java/lang/String") (by decide +kernel))), (List.forall_mem_cons.mpr ⟨(st_str (hts _ tw_379) (hs (.exactly (.string "Segueworks" 235) "java/lang/String") (by decide +kernel))), (List.forall_mem_cons.mpr ⟨(st_str (hts _ tw_380) (hs (.exactly (.string "Segueworks" 240) "java/lang/String") (by decide +kernel))), (List.forall_mem_cons.mpr ⟨(st_str (hts _ tw_381) (hs (.exactly (.string "Segueworks" 256) "java/lang/String") (by decide +kernel))), (List.forall_mem_cons.mpr ⟨(st_str (hts _ tw_382) (hs (.exactly (.string "Segueworks" 275) "java/lang/String") (by decide +kernel))), (List.forall_mem_cons.mpr ⟨(st_str (hts _ tw_383) (hs (.exactly (.string "Segueworks" 278) "java/lang/String") (by decide +kernel))), (List.forall_mem_cons.mpr ⟨(st_str (hts _ tw_384) (hs (.exactly (.string "Segueworks" 299) "java/lang/String") (by decide +kernel))), (List.forall_mem_cons.mpr ⟨(st_str (hts _ tw_385) (hs (.exactly (.string "Segueworks" 320) "java/lang/String") (by decide +kernel))), (List.forall_mem_cons.mpr ⟨(st_str (hts _ tw_386) (hs (.exactly (.string "Segueworks" 327) "java/lang/String") (by decide +kernel))), (List.forall_mem_cons.mpr ⟨(st_str (hts _ tw_387) (hs (.exactly (.string "Segueworks" 333) "java/lang/String") (by decide +kernel))), (List.forall_mem_cons.mpr ⟨(st_str (hts _ tw_388) (hs (.exactly (.string "Segueworks" 354) "java/lang/String") (by decide +kernel))), (List.forall_mem_cons.mpr ⟨(st_str (hts _ tw_389) (hs (.exactly (.string "Segueworks" 356) "java/lang/String") (by decide +kernel))), (List.forall_mem_cons.mpr ⟨(st_str (hts _ tw_390) (hs (.exactly (.string "Segueworks" 358) "java/lang/String") (by decide +kernel))), (List.forall_mem_cons.mpr ⟨(st_str (hts _ tw_391) (hs (.exactly (.string "Segueworks" 360) "java/lang/String") (by decide +kernel))), (List.forall_mem_cons.mpr ⟨(st_str (hts _ tw_392) (hs (.exactly (.string "Segueworks" 362) "java/lang/String") (by decide +kernel))), (List.forall_mem_cons.mpr ⟨(st_str (hts _ tw_393) (hs (.exactly (.string "Segueworks" 364) "java/lang/String") (by decide +kernel))), (List.forall_mem_cons.mpr ⟨(st_str (hts _ tw_394) (hs (.exactly (.string "Segueworks" 373) "java/lang/String") (by decide +kernel))), (List.forall_mem_cons.mpr ⟨(st_str (hts _ tw_395) (hs (.exactly (.string "Segueworks" 378) "java/lang/String") (by decide +kernel))), (fun _ h => absurd h List.not_mem_nil)⟩)⟩)⟩)⟩)⟩)⟩)⟩)⟩)⟩)⟩)⟩)⟩)⟩)⟩)⟩)⟩)⟩)⟩)⟩)⟩)⟩)⟩)⟩)⟩)⟩)⟩)⟩)⟩)
  · exact (List.forall_mem_cons.mpr ⟨(va_AO.of (hts _ tw_396)), (List.forall_mem_cons.mpr ⟨(va_AO.of (hts _ tw_397)), (List.forall_mem_cons.mpr ⟨(va_AO.of (hts _ tw_398)), (List.forall_mem_cons.mpr ⟨(va_AO.of (hts _ tw_399)), (List.forall_mem_cons.mpr ⟨(va_AO.of (hts _ tw_400)), (fun _ h => absurd h List.not_mem_nil)⟩)⟩)⟩)⟩)⟩)
  · exact (va_Fw.of (hts _ tw_401) (hts _ tw_402) (hts _ tw_403) (hts _ tw_404) (hts _ tw_405))
  · exact (List.forall_mem_cons.mpr ⟨(va_Nw.of rfl (hts _ tw_406)), (List.forall_mem_cons.mpr ⟨(va_Nw.of rfl (hts _ tw_407)), (List.forall_mem_cons.mpr ⟨(va_Nw.of rfl (hts _ tw_408)), (List.forall_mem_cons.mpr ⟨(va_Nw.of rfl (hts _ tw_409)), (List.forall_mem_cons.mpr ⟨(va_Nw.of rfl (hts _ tw_410)), (List.forall_mem_cons.mpr ⟨(va_Nw.of rfl (hts _ tw_411)), (List.forall_mem_cons.mpr ⟨(va_Nw.of rfl (hts _ tw_412)), (List.forall_mem_cons.mpr ⟨(va_Nw.of rfl (hts _ tw_413)), (List.forall_mem_cons.mpr ⟨(va_Nw.of rfl (hts _ tw_414)), (List.forall_mem_cons.mpr ⟨(va_Nw.of rfl (hts _ tw_415)), (List.forall_mem_cons.mpr ⟨(va_Nw.of rfl (hts _ tw_416)), (List.forall_mem_cons.mpr ⟨(va_Nw.of rfl (hts _ tw_417)), (fun _ h => absurd h List.not_mem_nil)⟩)⟩)⟩)⟩)⟩)⟩)⟩)⟩)⟩)⟩)⟩)⟩)
  · exact (List.forall_mem_cons.mpr ⟨(va_Nw.of rfl (hts _ tw_418)), (List.forall_mem_cons.mpr ⟨(va_Nw.of rfl (hts _ tw_419)), (List.forall_mem_cons.mpr ⟨(va_Nw.of rfl (hts _ tw_420)), (fun _ h => absurd h List.not_mem_nil)⟩)⟩)⟩)
  · exact (List.forall_mem_cons.mpr ⟨(kYc.of (hts _ tw_421)), (List.forall_mem_cons.mpr ⟨(kYc.of (hts _ tw_422)), (List.forall_mem_cons.mpr ⟨(kYc.of (hts _ tw_423)), (List.forall_mem_cons.mpr ⟨(kYc.of (hts _ tw_424)), (fun _ h => absurd h List.not_mem_nil)⟩)⟩)⟩)⟩)
set_option maxHeartbeats 8000000 in
set_option maxRecDepth 100000 in
theorem st_kn {s : State} {b : Nat} (hts : ∀ w ∈ lw_tbl, w.before #[Value.ref b] s = true) : ∃ D : va_G, ∀ (k : Nat) (q : vw_C), vwCl[k]? = some q → u_Kn s q.1 q.2.1 q.2.2 (D.1 k) (D.2 k) := by
  obtain ⟨c0, i0, h0⟩ := u_known (C := RJ0) (T := TJ0) (N := 2) (n := 4) hts tl_J0 (hts (.instantiable RJ0 4) tw_425)
  obtain ⟨c1, i1, h1⟩ := u_known (C := RJ6) (T := TJ6) (N := 1) (n := 1) hts tl_J6 (hts (.instantiable RJ6 1) tw_426)
  obtain ⟨c2, i2, h2⟩ := u_known (C := RJx00060) (T := TJx00060) (N := 6) (n := 6) hts tl_Jx00060 (hts (.instantiable RJx00060 6) tw_427)
  obtain ⟨c3, i3, h3⟩ := u_known (C := RJx35411) (T := TJx35411) (N := 4) (n := 4) hts tl_Jx35411 (hts (.instantiable RJx35411 4) tw_428)
  obtain ⟨c4, i4, h4⟩ := u_known (C := RJx4a65c) (T := TJx4a65c) (N := 3) (n := 3) hts tl_Jx4a65c (hts (.instantiable RJx4a65c 3) tw_71)
  obtain ⟨c5, i5, h5⟩ := u_known (C := RX0) (T := TX0) (N := 5) (n := 5) hts tl_X0 (hts (.instantiable RX0 5) tw_429)
  obtain ⟨c6, i6, h6⟩ := u_known (C := RX1) (T := TX1) (N := 6) (n := 6) hts tl_X1 (hts (.instantiable RX1 6) tw_264)
  obtain ⟨c7, i7, h7⟩ := u_known (C := RX2) (T := TX2) (N := 9) (n := 9) hts tl_X2 (hts (.instantiable RX2 9) tw_125)
  obtain ⟨c8, i8, h8⟩ := u_known (C := RX3) (T := TX3) (N := 11) (n := 11) hts tl_X3 (hts (.instantiable RX3 11) tw_43)
  obtain ⟨c9, i9, h9⟩ := u_known (C := RX4) (T := TX4) (N := 6) (n := 6) hts tl_X4 (hts (.instantiable RX4 6) tw_37)
  obtain ⟨c10, i10, h10⟩ := u_known (C := RX5) (T := TX5) (N := 2) (n := 2) hts tl_X5 (hts (.instantiable RX5 2) tw_430)
  obtain ⟨c11, i11, h11⟩ := u_known (C := RX6) (T := TX6) (N := 8) (n := 8) hts tl_X6 (hts (.instantiable RX6 8) tw_11)
  obtain ⟨c12, i12, h12⟩ := u_known (C := RX7) (T := TX7) (N := 3) (n := 3) hts tl_X7 (hts (.instantiable RX7 3) tw_431)
  obtain ⟨c13, i13, h13⟩ := u_known (C := RX8) (T := TX8) (N := 5) (n := 5) hts tl_X8 (hts (.instantiable RX8 5) tw_292)
  obtain ⟨c14, i14, h14⟩ := u_known (C := RX9) (T := TX9) (N := 2) (n := 2) hts tl_X9 (hts (.instantiable RX9 2) tw_174)
  obtain ⟨c15, i15, h15⟩ := u_known (C := RX10) (T := TX10) (N := 2) (n := 2) hts tl_X10 (hts (.instantiable RX10 2) tw_432)
  obtain ⟨c16, i16, h16⟩ := u_known (C := RX11) (T := TX11) (N := 11) (n := 11) hts tl_X11 (hts (.instantiable RX11 11) tw_54)
  refine ⟨(fun k => match k with | 0 => c0 | 1 => c1 | 2 => c2 | 3 => c3 | 4 => c4 | 5 => c5 | 6 => c6 | 7 => c7 | 8 => c8 | 9 => c9 | 10 => c10 | 11 => c11 | 12 => c12 | 13 => c13 | 14 => c14 | 15 => c15 | 16 => c16 | _ => 0, fun k => match k with | 0 => i0 | 1 => i1 | 2 => i2 | 3 => i3 | 4 => i4 | 5 => i5 | 6 => i6 | 7 => i7 | 8 => i8 | 9 => i9 | 10 => i10 | 11 => i11 | 12 => i12 | 13 => i13 | 14 => i14 | 15 => i15 | 16 => i16 | _ => fun _ => 0), ?_⟩
  intro k q hq
  match k, hq with
  | 0, hq => cases hq; exact h0
  | 1, hq => cases hq; exact h1
  | 2, hq => cases hq; exact h2
  | 3, hq => cases hq; exact h3
  | 4, hq => cases hq; exact h4
  | 5, hq => cases hq; exact h5
  | 6, hq => cases hq; exact h6
  | 7, hq => cases hq; exact h7
  | 8, hq => cases hq; exact h8
  | 9, hq => cases hq; exact h9
  | 10, hq => cases hq; exact h10
  | 11, hq => cases hq; exact h11
  | 12, hq => cases hq; exact h12
  | 13, hq => cases hq; exact h13
  | 14, hq => cases hq; exact h14
  | 15, hq => cases hq; exact h15
  | 16, hq => cases hq; exact h16
  | k + 17, hq => simp [vwCl] at hq
def rf_Q (_ : Array Value) (s : State) (_ : Outcome) (t : State) : Prop := 7194729 < ((t.heap.toList.drop s.heap.size).map (·.slots.size)).sum
def rf_P (b : Addr) (args : Array Value) (s : State) : Prop := args = #[.ref b] ∧ va_X b 2440 sc s s.heap ∧ b < s.heap.size ∧ (Jvm.Cond.and given_1 narrow_1).before args s = true
set_option maxHeartbeats 8000000 in
set_option maxRecDepth 100000 in
theorem rf_body {p : Program} {l : Launch} (hflags : l.flags = flags0) {e : Env} {s : State} {m : MethodId} {below : List Frame} {meth : Method} {c : Code} {b : Nat} (hx : p.tables.exec = Jvm.exec) (hb : c.code = cL_law) (hr : meth.sig.returnType = ret) (hml : c.maxLocals = 9) (hown : s.vm.findClass RL = some m.cls) (hts : ∀ w ∈ lw_tbl, w.before #[Value.ref b] s = true) (hX : va_X b 2440 sc s s.heap) (hbl : b < s.heap.size) (hlocks : meth.locks = false) (hgv : (Jvm.Cond.and given_1 narrow_1).before #[Value.ref b] s = true) : W p l e bigR s m #[Value.ref b] below meth c s.heap [] 0 0 (rf_Z below s) (entryFrame m ([Value.ref b] : List Value).toArray 9) := by
  have hst : l.stackTraces = false := by unfold Launch.stackTraces; rw [hflags]; decide
  obtain ⟨e0, hkS⟩ := st_kS hts hgv
  obtain ⟨D, hKn⟩ := st_kn hts
  have hbA : ¬ (fun q : Nat => s.heap.size ≤ q) b := Nat.not_le.mpr hbl
  have hh : kH D kStr e0 (fun q : Nat => s.heap.size ≤ q) s s.heap [] [] [] := ⟨fun k q h => by simp at h, ⟨fun i j p q h => by simp at h, fun k q h => by simp at h⟩, ⟨hKn, fun k q h => by simp at h⟩, va_S.rf, fun _ h => h, hkS⟩
  have hl := lv_entry ([.ref b]) (n := 9) (Nat.le_of_ble_eq_true rfl)
  rw [lg_entry_eq]
  exact rf_start hst hx hb hml hts hown hX hbl hbA (fun _ h => h) hr hlocks hh hl
set_option maxHeartbeats 4000000 in
theorem rf_walk (l : Launch) (hflags : l.flags = flags0) (b : Addr) : MetFree l x (headSpec (Jvm.Cond.code x code maxLocals ret :: tables_1) bigR) (rf_P b) (fun _ _ _ _ _ => True) rf_Q := by
  refine MetFree.of_bodyS (code := code) (maxLocals := maxLocals) (ret := ret) (by decide) ?_ ?_
  · intro args s m h hn
    obtain ⟨meth, c, h1, h2, h3, h4, h5, h6, -, -⟩ := Cond.code_spec hn (atoms_spec (ws := Jvm.Cond.code x code maxLocals ret :: tables_1) h _ List.mem_cons_self)
    exact ⟨meth, c, h1, h2, h3, h4, h5, h6⟩
  · intro p e s m args below meth c s₁ B hml0 hP _
    obtain ⟨rfl, hX, hbl, hgv⟩ := hP
    have hown : s.vm.findClass R_law = some m.cls := findClass_of_methodNamed B.named
    have hts0 : ∀ c ∈ (Jvm.Cond.code x code maxLocals ret :: tables_1), c.before #[Value.ref b] s = true := atoms_spec (ws := Jvm.Cond.code x code maxLocals ret :: tables_1) B.pre
    have hts : ∀ w ∈ lw_tbl, w.before #[Value.ref b] s = true := k2_hts_sels lw_privs (fun w hw => hts0 w (List.mem_cons_of_mem _ hw)) lw_privs_ok
    have hml : c.maxLocals = 9 := B.maxLocals_eq (hts0 _ List.mem_cons_self)
    have X₀ : Stand p l e bigR s m #[Value.ref b] below meth c s₁ [] 0 0 := Stand.of_body B
    have hh0 : s₁.heap = s.heap := by rw [B.state]; rfl
    have K : W p l e bigR s m #[Value.ref b] below meth c s₁.heap [] 0 0 (rf_Z below s) (entryFrame m ([Value.ref b] : List Value).toArray 9) := by
      rw [hh0]
      exact rf_body hflags B.exec B.bytes B.returns hml hown hts hX hbl B.notSynchronized hgv
    obtain ⟨t, a1, o, b1, b2, b3⟩ := K s₁ rfl X₀
    exact ⟨t, o, a1, b1, b2, b3⟩
/-- THE CLAIM IS FALSE wherever it can begin with the script 'sc' on a machine with room for what that script makes -/
theorem rf_false {l : Launch} (hflags : l.flags = flags0) {p : Program} {e : Env} {s : State} {m : MethodId} {args : Array Value} {below : List Frame} {b : Nat} (hs : AtStart classFile x code maxLocals ret World_1 tables_1 room_1 Calls_1 rest_1 Pre_1 l p e s m args below) (hb : args = #[.ref b]) (hX : va_X b 2440 sc s s.heap) (hroom : s.hasRoom e.platform bigR = true) : ¬ Claimed_1_1 := by
  intro hcl
  obtain ⟨hL, hW, ha, -, hc, hk, hf, hfit, hheap, happ, hcalls, hrest, hpre⟩ := hs
  obtain ⟨n, o, h1, h2, h3, h4⟩ := hcl l hflags hL hW p e ha hc hk s m args below hf hfit hheap happ ⟨hcalls, hrest, hpre⟩
  obtain ⟨q1, q2, q3, q4, q5, q6, -, q8⟩ := (Spec.applies_iff hf).mp happ
  have happ2 : (headSpec (Cond.code x code maxLocals ret :: tables_1) bigR).applies x e.platform s = true := (Spec.applies_iff hf).mpr ⟨q1, q2, q3, q4, q5, q6, hroom, q8⟩
  have hbl : b < s.heap.size := (Array.getElem?_eq_some_iff.mp hX.choose_spec.1).1
  obtain ⟨n', o', g1, g2, g3, g4⟩ := rf_walk l hflags b p e ha hc hk s m args below hf ((Spec.applies_iff_loose hf).mp happ2).1 ⟨hb, hX, hbl, hpre⟩ trivial
  obtain ⟨rfl, rfl⟩ := the_end_unique (f := fun k => stepsAlone p.tables e k s) h1 h3 g1 g3
  obtain ⟨-, ⟨-, -, hS⟩, -⟩ := h4
  exact absurd g4 (Nat.not_lt.mpr hS.2.2.2.2.1)
