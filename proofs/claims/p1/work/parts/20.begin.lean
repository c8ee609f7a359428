theorem dL_law_0 : decode cL_law 0 = .ok (.new 8, 3) := by decide +kernel
theorem dL_law_3 : decode cL_law 3 = .ok (.dup, 1) := by decide +kernel
theorem dL_law_4 : decode cL_law 4 = .ok (.invokespecial 173, 3) := by decide +kernel
theorem dL_law_7 : decode cL_law 7 = .ok (.astore_n 1, 1) := by decide +kernel
theorem dL_law_8 : decode cL_law 8 = .ok (.new 174, 3) := by decide +kernel
theorem dL_law_11 : decode cL_law 11 = .ok (.dup, 1) := by decide +kernel
theorem dL_law_12 : decode cL_law 12 = .ok (.invokespecial 176, 3) := by decide +kernel
theorem dL_law_15 : decode cL_law 15 = .ok (.astore_n 2, 1) := by decide +kernel
theorem dL_law_16 : decode cL_law 16 = .ok (.iconst 1, 1) := by decide +kernel
theorem dL_law_17 : decode cL_law 17 = .ok (.newarray .long, 2) := by decide +kernel
theorem dL_law_19 : decode cL_law 19 = .ok (.astore_n 3, 1) := by decide +kernel
theorem dL_law_20 : decode cL_law 20 = .ok (.iconst 1, 1) := by decide +kernel
theorem dL_law_21 : decode cL_law 21 = .ok (.newarray .double, 2) := by decide +kernel
theorem dL_law_23 : decode cL_law 23 = .ok (.astore 4, 2) := by decide +kernel
theorem dL_law_25 : decode cL_law 25 = .ok (.iconst 0, 1) := by decide +kernel
theorem dL_law_26 : decode cL_law 26 = .ok (.istore 5, 2) := by decide +kernel
theorem dL_law_28 : decode cL_law 28 = .ok (.iload 5, 2) := by decide +kernel
theorem dL_law_30 : decode cL_law 30 = .ok (.aload_n 0, 1) := by decide +kernel
theorem dL_law_31 : decode cL_law 31 = .ok (.arraylength, 1) := by decide +kernel
theorem dL_law_32 : decode cL_law 32 = .ok (.iconst 5, 1) := by decide +kernel
theorem dL_law_33 : decode cL_law 33 = .ok (.isub, 1) := by decide +kernel
theorem dL_law_34 : decode cL_law 34 = .ok (.if_icmp .gt 3401, 3) := by decide +kernel
theorem dL_law_3429 : decode cL_law 3429 = .ok (.iinc 5 5, 3) := by decide +kernel
theorem dL_law_3432 : decode cL_law 3432 = .ok (.goto (-3404), 3) := by decide +kernel
theorem dL_law_3435 : decode cL_law 3435 = .ok (.iconst 1, 1) := by decide +kernel
theorem dL_law_3436 : decode cL_law 3436 = .ok (.ireturn, 1) := by decide +kernel
def lwW (e0 : kE) (xa x1 x2 x3 x4 x5 g1 g2 g3 g4 h1 h2 h3 h4 h5 ma m1 m2 m3 m4 m5 m6 m7 m8 o1 o2 : Nat) (z1 z2 z3 z4 : ClassId) : va_W := [(xa, .inr (11, [.ref x1, .int 0, .ref x2, .int 0, .ref x3, .ref x4, .ref x5, .int 0])), (x3, .inr (9, [.ref g1, .int 0, .ref g2, .int 0, .ref g3, .ref g4])), (x4, .inr (8, [.ref h1, .ref h2, .int 0, .ref h3, .int 0, .ref h4, .int 0, .ref h5, .int 0, .int 0, .int 0])), (x1, .inl (z1, 6, .inr (.inr (.inr (.inr (fun _ => none)))))), (x2, .inl (z2, 24, .inr (.inr (.inr (.inr (fun _ => none)))))), (ma, .inr (16, [.int 0, .ref m1, .ref m2, .ref m3, .ref m4, .ref m5, .ref m6, .ref m7, .ref m8, .int 0, .int 0])), (m1, .inr (4, [.int 0, .ref e0.1, .int 0])), (m2, .inr (4, [.int 0, .ref e0.1, .int 0])), (m3, .inr (4, [.int 0, .ref e0.1, .int 0])), (m4, .inr (4, [.int 0, .ref e0.1, .int 0])), (m5, .inr (4, [.int 0, .ref e0.1, .int 0])), (m6, .inr (4, [.int 0, .ref e0.1, .int 0])), (m7, .inr (4, [.int 0, .ref e0.1, .int 0])), (m8, .inr (4, [.int 0, .ref e0.1, .int 0])), (o1, .inl (z3, 1, .inr (.inl (fun _ => 0)))), (o2, .inl (z4, 1, .inr (.inr (.inr (.inl (fun _ => 0))))))]
def lwT (z1 z2 z3 z4 : ClassId) : List (ClassId × FieldType) := [(z1, .object "Segueworks$Reel"), (z2, .object "Segueworks$Piece"), (z3, .long), (z4, .double)]
def lwL (b xa ma o1 o2 : Nat) : List (Nat × Value) := [(5, .int 0), (4, .ref o2), (3, .ref o1), (2, .ref ma), (1, .ref xa), (0, .ref b)]
def lwK (p : Program) (l : Launch) (e : Env) (s : State) (m : MethodId) (below : List Frame) (meth : Method) (c : Code) (Q : State → Prop) (b : Nat) (A : Nat → Prop) : Prop := ∀ (H : Heap) (locs : List Loc) (ls : Array Slot), va_S A s.heap H locs → lv_has ls 9 [(0, .ref b), (5, .int 0)] → W p l e room_1 s m #[Value.ref b] below meth c H locs 1000 100000 Q (F0 m 3429 ls [])
theorem st_eq {args : Array Value} {s : State} {t : Term} {v : Int32} (h : (Cond.eq t (.int v)).before args s = true) : t.eval args s none [] s = some (.int v) := by
  obtain ⟨w, h1, h2⟩ := Cond.eq_one (show (Cond.eq t (.int v)).holds args s none s [] = true from h)
  have e : some (Value.int v) = some w := h2
  rw [h1, ← e]
theorem st_str {args : Array Value} {s : State} {own tx : String} {k : Nat} (h1 : (Cond.stringRef own k tx).before args s = true) (h2 : (Cond.exactly (.string own k) "java/lang/String").before args s = true) : ∃ sa : Nat, vk_R own k tx sa s := by
  obtain ⟨a, c, cA, kA, q1, q2, q3, q4, q5, q6, -⟩ := Cond.exactly_spec (args := args) (first := s) (o := none) (s := s) (idx := []) (t := .string own k) (cls := "java/lang/String") h2
  exact ⟨a, vk_R.of h1 q1⟩
set_option maxHeartbeats 8000000 in
set_option maxRecDepth 100000 in
theorem st_kS {s : State} {b : Nat} (hts : ∀ w ∈ lw_tbl, w.before #[Value.ref b] s = true) (hgv : (Jvm.Cond.and given_1 narrow_1).before #[Value.ref b] s = true) : ∃ e0 : kE, kS kStr e0 (fun q : Nat => s.heap.size ≤ q) s s.heap := by
  have hs := flat_of_before _ hgv
  have hA : ∀ a : Nat, a < s.heap.size → ¬ s.heap.size ≤ a := fun a h => Nat.not_le.mpr h
  have hU := vx_Zqof (A := (fun q : Nat => s.heap.size ≤ q)) (hts (.laysStatic Bundle.tN "UNASSIGNED_STACK" Bundle.steD) tw_611) (hts (.initialized Bundle.tN) tw_612) (hs (.isRef (.static Bundle.tN "UNASSIGNED_STACK" Bundle.steD)) (by decide +kernel)) hA
  have hN := vx_Zqof (A := (fun q : Nat => s.heap.size ≤ q)) (hts (.laysStatic Bundle.tN "SUPPRESSED_SENTINEL" Bundle.listD) tw_613) (hts (.initialized Bundle.tN) tw_612) (hs (.isRef (.static Bundle.tN "SUPPRESSED_SENTINEL" Bundle.listD)) (by decide +kernel)) hA
  obtain ⟨e1, he1, hT1⟩ := va_Tof (A := (fun q : Nat => s.heap.size ≤ q)) (tm := .static "java/util/ArrayList" kDE kDd) (ty := .object "java/lang/Object") (N := 0) (f := fun _ => .null) (by decide) (hs (.arrayOf (.static "java/util/ArrayList" kDE kDd) (.object "java/lang/Object")) (by decide +kernel)) (st_eq (hs (.eq (.length (.static "java/util/ArrayList" kDE kDd)) (.int 0)) (by decide +kernel))) (fun j hj => absurd hj (Nat.not_lt_zero j)) hA
  have hZ1 := va_Zof (A := (fun q : Nat => s.heap.size ≤ q)) (hts (.laysStatic "java/util/ArrayList" kDE kDd) tw_614) (hts (.initialized "java/util/ArrayList") tw_615) he1 hA
  have hZ2 := va_Zof (A := (fun q : Nat => s.heap.size ≤ q)) (hts (.laysStatic kIC "high" "I") tw_616) (hts (.initialized kIC) tw_617) (st_eq (hs (.eq (.static kIC "high" "I") (.int 127)) (by decide +kernel))) hA
  have hln := st_eq (hs (.eq (.length (.static kIC "cache" "[Ljava/lang/Integer;")) (.int 256)) (by decide +kernel))
  obtain ⟨ad, hC, hel⟩ := vb_Cof (A := (fun q : Nat => s.heap.size ≤ q)) (st := .static kIC "cache" "[Ljava/lang/Integer;") rfl hln (hs (.all (.static kIC "cache" "[Ljava/lang/Integer;") (.and (.exactly (.elem (.static kIC "cache" "[Ljava/lang/Integer;") (.index 0)) "java/lang/Integer") (.eq (.field (.elem (.static kIC "cache" "[Ljava/lang/Integer;") (.index 0)) "java/lang/Integer" "value" "I") (.sub (.index 0) (.int 128))))) (by decide +kernel)) hA
  obtain ⟨e2, he2, hT2⟩ := va_Tof (A := (fun q : Nat => s.heap.size ≤ q)) (tm := .static kIC "cache" "[Ljava/lang/Integer;") (ty := .object "java/lang/Integer") (N := 256) (f := fun j => .ref (ad j)) (by decide) (hs (.arrayOf (.static kIC "cache" "[Ljava/lang/Integer;") (.object "java/lang/Integer")) (by decide +kernel)) hln hel hA
  have hZ3 := va_Zof (A := (fun q : Nat => s.heap.size ≤ q)) (hts (.laysStatic kIC "cache" "[Ljava/lang/Integer;") tw_618) (hts (.initialized kIC) tw_617) he2 hA
  refine ⟨(e1, e2, ad 128), hU, hN, hZ1, hT1, ?_, ?_, ?_, ?_, ?_, ?_, ?_, ?_, hZ2, hZ3, ⟨_, rfl, hT2⟩, hC.1 128 (by decide)⟩
  · exact (List.forall_mem_cons.mpr ⟨(kYc.of (hts _ tw_619)), (List.forall_mem_cons.mpr ⟨(kYc.of (hts _ tw_620)), (List.forall_mem_cons.mpr ⟨(kYc.of (hts _ tw_621)), (List.forall_mem_cons.mpr ⟨(kYc.of (hts _ tw_622)), (List.forall_mem_cons.mpr ⟨(kYc.of (hts _ tw_623)), (List.forall_mem_cons.mpr ⟨(kYc.of (hts _ tw_624)), (fun _ h => absurd h List.not_mem_nil)⟩)⟩)⟩)⟩)⟩)⟩)
  · exact (List.forall_mem_cons.mpr ⟨(va_Nc.of (hs (.not (.castable "java/lang/UnsupportedOperationException" "java/lang/IllegalArgumentException")) (by decide +kernel))), (List.forall_mem_cons.mpr ⟨(va_Nc.of (hs (.not (.castable "java/util/NoSuchElementException" "java/lang/IllegalArgumentException")) (by decide +kernel))), (List.forall_mem_cons.mpr ⟨(va_Nc.of (hs (.not (.castable "java/util/NoSuchElementException" "java/lang/UnsupportedOperationException")) (by decide +kernel))), (fun _ h => absurd h List.not_mem_nil)⟩)⟩)⟩)
  · exact (List.forall_mem_cons.mpr ⟨(st_str (hts _ tw_625) (hs (.exactly (.string "Segueworks" 47) "java/lang/String") (by decide +kernel))), (List.forall_mem_cons.mpr ⟨(st_str (hts _ tw_626) (hs (.exactly (.string "Segueworks" 64) "java/lang/String") (by decide +kernel))), (List.forall_mem_cons.mpr ⟨(st_str (hts _ tw_627) (hs (.exactly (.string "Segueworks" 70) "java/lang/String") (by decide +kernel))), (List.forall_mem_cons.mpr ⟨(st_str (hts _ tw_628) (hs (.exactly (.string "Segueworks" 77) "java/lang/String") (by decide +kernel))), (List.forall_mem_cons.mpr ⟨(st_str (hts _ tw_629) (hs (.exactly (.string "Segueworks" 82) "java/lang/String") (by decide +kernel))), (List.forall_mem_cons.mpr ⟨(st_str (hts _ tw_630) (hs (.exactly (.string "Segueworks" 136) "java/lang/String") (by decide +kernel))), (List.forall_mem_cons.mpr ⟨(st_str (hts _ tw_631) (hs (.exactly (.string "Segueworks" 184) "java/lang/String") (by decide +kernel))), (List.forall_mem_cons.mpr ⟨(st_str (hts _ tw_632) (hs (.exactly (.string "Segueworks" 205) "java/lang/String") (by decide +kernel))), (List.forall_mem_cons.mpr ⟨(st_str (hts _ tw_633) (hs (.exactly (.string "Segueworks" 214) "java/lang/String") (by decide +kernel))), (List.forall_mem_cons.mpr ⟨(st_str (hts _ tw_634) (hs (.exactly (.string "Segueworks" 222) "java/lang/String") (by decide +kernel))), (List.forall_mem_cons.mpr ⟨(st_str (hts _ tw_635) (hs (.exactly (.string "Segueworks" 230) "java/lang/String") (by decide +kernel))), (List.forall_mem_cons.mpr ⟨(st_str (hts _ tw_636) (hs (.exactly (.string "Segueworks" 235) "java/lang/String") (by decide +kernel))), (List.forall_mem_cons.mpr ⟨(st_str (hts _ tw_637) (hs (.exactly (.string "Segueworks" 240) "java/lang/String") (by decide +kernel))), (List.forall_mem_cons.mpr ⟨(st_str (hts _ tw_638) (hs (.exactly (.string "Segueworks" 256) "java/lang/String") (by decide +kernel))), (List.forall_mem_cons.mpr ⟨(st_str (hts _ tw_639) (hs (.exactly (.string "Segueworks" 275) "java/lang/String") (by decide +kernel))), (List.forall_mem_cons.mpr ⟨(st_str (hts _ tw_640) (hs (.exactly (.string "Segueworks" 278) "java/lang/String") (by decide +kernel))), (List.forall_mem_cons.mpr ⟨(st_str (hts _ tw_641) (hs (.exactly (.string "Segueworks" 299) "java/lang/String") (by decide +kernel))), (List.forall_mem_cons.mpr ⟨(st_str (hts _ tw_642) (hs (.exactly (.string "Segueworks" 320) "java/lang/String") (by decide +kernel))), (List.forall_mem_cons.mpr ⟨(st_str (hts _ tw_643) (hs (.exactly (.string "Segueworks" 327) "java/lang/String") (by decide +kernel))), (List.forall_mem_cons.mpr ⟨(st_str (hts _ tw_644) (hs (.exactly (.string "Segueworks" 333) "java/lang/String") (by decide +kernel))), (List.forall_mem_cons.mpr ⟨(st_str (hts _ tw_645) (hs (.exactly (.string "Segueworks" 354) "java/lang/String") (by decide +kernel))), (List.forall_mem_cons.mpr ⟨(st_str (hts _ tw_646) (hs (.exactly (.string "Segueworks" 356) "java/lang/String") (by decide +kernel))), (List.forall_mem_cons.mpr ⟨(st_str (hts _ tw_647) (hs (.exactly (.string "Segueworks" 358) "java/lang/String") (by decide +kernel))), (List.forall_mem_cons.mpr ⟨(st_str (hts _ tw_648) (hs (.exactly (.string "Segueworks" 360) "java/lang/String") (by decide +kernel))), (List.forall_mem_cons.mpr ⟨(st_str (hts _ tw_649) (hs (.exactly (.string "Segueworks" 362) "java/lang/String") (by decide +kernel))), (List.forall_mem_cons.mpr ⟨(st_str (hts _ tw_650) (hs (.exactly (.string "Segueworks" 364) "java/lang/String") (by decide +kernel))), (List.forall_mem_cons.mpr ⟨(st_str (hts _ tw_651) (hs (.exactly (.string "Segueworks" 373) "java/lang/String") (by decide +kernel))), (List.forall_mem_cons.mpr ⟨(st_str (hts _ tw_652) (hs (.exactly (.string "Segueworks" 378) "java/lang/String") (by decide +kernel))), (fun _ h => absurd h List.not_mem_nil)⟩)⟩)⟩)⟩)⟩)⟩)⟩)⟩)⟩)⟩)⟩)⟩)⟩)⟩)⟩)⟩)⟩)⟩)⟩)⟩)⟩)⟩)⟩)⟩)⟩)⟩)⟩)⟩)
  · exact (List.forall_mem_cons.mpr ⟨(va_AO.of (hts _ tw_653)), (List.forall_mem_cons.mpr ⟨(va_AO.of (hts _ tw_654)), (List.forall_mem_cons.mpr ⟨(va_AO.of (hts _ tw_655)), (List.forall_mem_cons.mpr ⟨(va_AO.of (hts _ tw_656)), (List.forall_mem_cons.mpr ⟨(va_AO.of (hts _ tw_657)), (fun _ h => absurd h List.not_mem_nil)⟩)⟩)⟩)⟩)⟩)
  · exact (va_Fw.of (hts _ tw_658) (hts _ tw_659) (hts _ tw_660) (hts _ tw_661) (hts _ tw_662))
  · exact (va_Nw.of rfl (hts _ tw_663))
  · exact (List.forall_mem_cons.mpr ⟨(va_Nw.of rfl (hts _ tw_664)), (List.forall_mem_cons.mpr ⟨(va_Nw.of rfl (hts _ tw_665)), (List.forall_mem_cons.mpr ⟨(va_Nw.of rfl (hts _ tw_666)), (fun _ h => absurd h List.not_mem_nil)⟩)⟩)⟩)
  · exact (List.forall_mem_cons.mpr ⟨(kYc.of (hts _ tw_667)), (List.forall_mem_cons.mpr ⟨(kYc.of (hts _ tw_668)), (List.forall_mem_cons.mpr ⟨(kYc.of (hts _ tw_669)), (fun _ h => absurd h List.not_mem_nil)⟩)⟩)⟩)
set_option maxHeartbeats 8000000 in
set_option maxRecDepth 100000 in
theorem st_kn {s : State} {b : Nat} (hts : ∀ w ∈ lw_tbl, w.before #[Value.ref b] s = true) : ∃ D : va_G, ∀ (k : Nat) (q : vw_C), vwCl[k]? = some q → u_Kn s q.1 q.2.1 q.2.2 (D.1 k) (D.2 k) := by
  obtain ⟨c0, i0, h0⟩ := u_known (C := RJ0) (T := TJ0) (N := 2) (n := 4) hts tl_J0 (hts (.instantiable RJ0 4) tw_670)
  obtain ⟨c1, i1, h1⟩ := u_known (C := RJ6) (T := TJ6) (N := 1) (n := 1) hts tl_J6 (hts (.instantiable RJ6 1) tw_671)
  obtain ⟨c2, i2, h2⟩ := u_known (C := RJx00060) (T := TJx00060) (N := 6) (n := 6) hts tl_Jx00060 (hts (.instantiable RJx00060 6) tw_672)
  obtain ⟨c3, i3, h3⟩ := u_known (C := RJx35411) (T := TJx35411) (N := 4) (n := 4) hts tl_Jx35411 (hts (.instantiable RJx35411 4) tw_296)
  obtain ⟨c4, i4, h4⟩ := u_known (C := RJx4a65c) (T := TJx4a65c) (N := 3) (n := 3) hts tl_Jx4a65c (hts (.instantiable RJx4a65c 3) tw_281)
  obtain ⟨c5, i5, h5⟩ := u_known (C := RX0) (T := TX0) (N := 5) (n := 5) hts tl_X0 (hts (.instantiable RX0 5) tw_673)
  obtain ⟨c6, i6, h6⟩ := u_known (C := RX1) (T := TX1) (N := 6) (n := 6) hts tl_X1 (hts (.instantiable RX1 6) tw_674)
  obtain ⟨c7, i7, h7⟩ := u_known (C := RX2) (T := TX2) (N := 9) (n := 9) hts tl_X2 (hts (.instantiable RX2 9) tw_403)
  obtain ⟨c8, i8, h8⟩ := u_known (C := RX3) (T := TX3) (N := 11) (n := 11) hts tl_X3 (hts (.instantiable RX3 11) tw_272)
  obtain ⟨c9, i9, h9⟩ := u_known (C := RX4) (T := TX4) (N := 6) (n := 6) hts tl_X4 (hts (.instantiable RX4 6) tw_268)
  obtain ⟨c10, i10, h10⟩ := u_known (C := RX5) (T := TX5) (N := 2) (n := 2) hts tl_X5 (hts (.instantiable RX5 2) tw_351)
  obtain ⟨c11, i11, h11⟩ := u_known (C := RX6) (T := TX6) (N := 8) (n := 8) hts tl_X6 (hts (.instantiable RX6 8) tw_675)
  obtain ⟨c12, i12, h12⟩ := u_known (C := RX7) (T := TX7) (N := 3) (n := 3) hts tl_X7 (hts (.instantiable RX7 3) tw_676)
  obtain ⟨c13, i13, h13⟩ := u_known (C := RX8) (T := TX8) (N := 5) (n := 5) hts tl_X8 (hts (.instantiable RX8 5) tw_677)
  obtain ⟨c14, i14, h14⟩ := u_known (C := RX9) (T := TX9) (N := 2) (n := 2) hts tl_X9 (hts (.instantiable RX9 2) tw_414)
  obtain ⟨c15, i15, h15⟩ := u_known (C := RX10) (T := TX10) (N := 2) (n := 2) hts tl_X10 (hts (.instantiable RX10 2) tw_678)
  obtain ⟨c16, i16, h16⟩ := u_known (C := RX11) (T := TX11) (N := 11) (n := 11) hts tl_X11 (hts (.instantiable RX11 11) tw_679)
  refine ⟨(fun k => match k with | 0 => c0 | 1 => c1 | 2 => c2 | 3 => c3 | 4 => c4 | 5 => c5 | 6 => c6 | 7 => c7 | 8 => c8 | 9 => c9 | 10 => c10 | 11 => c11 | 12 => c12 | 13 => c13 | 14 => c14 | 15 => c15 | 16 => c16 | _ => 0, fun k => match k with | 0 => i0 | 1 => i1 | 2 => i2 | 3 => i3 | 4 => i4 | 5 => i5 | 6 => i6 | 7 => i7 | 8 => i8 | 9 => i9 | 10 => i10 | 11 => i11 | 12 => i12 | 13 => i13 | 14 => i14 | 15 => i15 | 16 => i16 | _ => fun _ => 0), ?_⟩
  intro k q hq
  match k, hq with
  | 0, hq => cases hq; exact h0
  | 1, hq => cases hq; exact h1
  | 2, hq => cases hq; exact h2
  | 3, hq => cases hq; exact h3
  | 4, hq => cases hq; exact h4
  | 5, hq => cases hq; exact h5
  | 6, hq => cases hq; exact h6
  | 7, hq => cases hq; exact h7
  | 8, hq => cases hq; exact h8
  | 9, hq => cases hq; exact h9
  | 10, hq => cases hq; exact h10
  | 11, hq => cases hq; exact h11
  | 12, hq => cases hq; exact h12
  | 13, hq => cases hq; exact h13
  | 14, hq => cases hq; exact h14
  | 15, hq => cases hq; exact h15
  | 16, hq => cases hq; exact h16
  | k + 17, hq => simp [vwCl] at hq
set_option maxHeartbeats 4000000 in
set_option maxRecDepth 100000 in
theorem st_end {p : Program} {l : Launch} {e : Env} {s : State} {m : MethodId} {below : List Frame} {meth : Method} {c : Code} {b L : Nat} {xs : Nat → Int32} {A : Nat → Prop} (hAs : ∀ q, A q → s.heap.size ≤ q) (hx : p.tables.exec = Jvm.exec) (hb : c.code = cL_law) (hr : meth.sig.returnType = ret) (hlocks : meth.locks = false) (hX : va_X b L xs s s.heap) (hbl : b < s.heap.size) (hbA : ¬ A b) {H : Heap} {locs : List Loc} {ls : Array Slot} (hS : va_S A s.heap H locs) : W p l e room_1 s m #[Value.ref b] below meth c H locs 1000 100000 (lw_Z below #[Value.ref b] s) (F0 m 3435 ls []) := by
  refine lv_iconst (v := 1) hx hb dL_law_3435 (by decide) ?_
  refine va_forget (fun q hq => hAs _ (hS.2.2 q hq)) ?_
  refine W.widen (k := 600006) (n := 7302040) (Nat.le_of_ble_eq_true rfl) (Nat.le_of_ble_eq_true rfl) ?_
  refine W.base ?_
  exact lw_ret (Drawn.sameBut.refl s.drawn lw_cs) hx hb hr hlocks dL_law_3436
set_option maxHeartbeats 4000000 in
set_option maxRecDepth 100000 in
theorem st_tail {p : Program} {l : Launch} {e : Env} {s : State} {m : MethodId} {below : List Frame} {meth : Method} {c : Code} {b : Nat} {xs : Nat → Int32} {A : Nat → Prop} (hAs : ∀ q, A q → s.heap.size ≤ q) (hx : p.tables.exec = Jvm.exec) (hb : c.code = cL_law) (hr : meth.sig.returnType = ret) (hlocks : meth.locks = false) (hX : va_X b 5 xs s s.heap) (hbl : b < s.heap.size) (hbA : ¬ A b) : lwK p l e s m below meth c (lw_Z below #[Value.ref b] s) b A := by
  intro H locs ls hS hl
  refine lv_iinc (v := 5) (lv' := [(5, .int 5), (0, .ref b)]) hx hb dL_law_3429 hl (k := 1) rfl (by decide) (by decide) rfl (fun ls hl => ?_)
  refine lv_goto (tgt := 28) hx hb dL_law_3432 (by decide) ?_
  refine lv_iload hx hb dL_law_28 (lv_at hl 0 rfl) ?_
  refine lv_aload_n hx hb dL_law_30 rfl (lv_at hl 1 rfl) ?_
  refine va_slen hx hb hX hbl hbA hS dL_law_31 ?_
  refine lv_iconst (v := 5) hx hb dL_law_32 (by decide) ?_
  refine lv_isub hx hb dL_law_33 ?_
  refine W.eq (g2 := F0 m 34 ls [.int 0, .int 5]) (by first | rfl | decide) ?_
  refine lv_icmp_gt (tgt := 3435) hx hb dL_law_34 (by decide) (fun _ => ?_) (fun h => absurd (by decide) h)
  exact st_end hAs hx hb hr hlocks hX hbl hbA hS
set_option maxHeartbeats 4000000 in
set_option maxRecDepth 100000 in
theorem st_begin {p : Program} {l : Launch} {e : Env} {s : State} {m : MethodId} {below : List Frame} {meth : Method} {c : Code} {Q : State → Prop} {b : Nat} {D : va_G} {e0 : kE} {A : Nat → Prop} (hst : l.stackTraces = false) (hx : p.tables.exec = Jvm.exec) (hb : c.code = cL_law) (hml : c.maxLocals = 9) (hts : ∀ w ∈ lw_tbl, w.before #[Value.ref b] s = true) (hown : s.vm.findClass RL = some m.cls)  {ls : Array Slot} (hh : kH D kStr e0 A s s.heap [] [] []) (hl : lv_has ls 9 [(0, .ref b)]) (kk : ∀ (xa x1 x2 x3 x4 x5 g1 g2 g3 g4 h1 h2 h3 h4 h5 ma m1 m2 m3 m4 m5 m6 m7 m8 o1 o2 : Nat) (z1 z2 z3 z4 : ClassId) (H : Heap) (locs : List Loc) (ls : Array Slot), kH D kStr e0 A s H (lwW e0 xa x1 x2 x3 x4 x5 g1 g2 g3 g4 h1 h2 h3 h4 h5 ma m1 m2 m3 m4 m5 m6 m7 m8 o1 o2 z1 z2 z3 z4) (lwT z1 z2 z3 z4) locs → lv_has ls 9 (lwL b xa ma o1 o2) → W p l e room_1 s m #[Value.ref b] below meth c H locs 100 10000 Q (F0 m 28 ls [])) : W p l e room_1 s m #[Value.ref b] below meth c s.heap [] 0 0 Q (F0 m 0 ls []) := by
  have hl : lv_has ls 9 [(0, .ref b)] := hl
  have hh : kH D kStr e0 A s s.heap [] [] [] := hh
  refine k_new (C := RX6) (T := TX6) (N := 8) (ci := 11) (fs := [.null, .int 0, .null, .int 0, .null, .null, .null, .int 0]) hx hb hts tl_X6 tyX6 tyX6_ok hown (hts _ tw_680) (hts _ tw_675) (hts _ tw_24) hh rfl (fun j hj => by rcases (show j = 0 ∨ j = 1 ∨ j = 2 ∨ j = 3 ∨ j = 4 ∨ j = 5 ∨ j = 6 ∨ j = 7 by omega) with rfl | rfl | rfl | rfl | rfl | rfl | rfl | rfl <;> rfl) (Nat.le_of_ble_eq_true rfl) (Nat.le_of_ble_eq_true rfl) dL_law_0 (fun q1 H hh => ?_)
  have hh : kH D kStr e0 A s H [(q1, .inr (11, [.null, .int 0, .null, .int 0, .null, .null, .null, .int 0]))] [] _ := hh
  refine lv_dup hx hb dL_law_3 rfl ?_
  refine k_callI (wr := []) (rest := [.ref q1]) (own := RL) ⟨hx, hb, hml, hown, hts⟩ (c_X6_init l hst D e0 q1 ) (cwI 0 hts gl_I_c_X6_init rfl rfl rfl (hts _ tw_24) (hts _ tw_681) (hts _ tw_682) rfl (by decide +kernel) ⟨Nat.le_of_ble_eq_true rfl, Nat.le_of_ble_eq_true rfl⟩) hh [0] [] [] rfl rfl rfl rfl (by decide) rfl rfl hl rfl (Nat.le_of_ble_eq_true rfl) dL_law_4 ⟨Nat.le_of_ble_eq_true rfl, (Nat.le_of_ble_eq_true rfl)⟩ (fun v w ty1 H locs hp hh => ?_)
  obtain ⟨q2, q3, q4, q5, q6, q7, q8, q9, q10, q11, q12, q13, q14, q15, y16, y17, rfl, rfl, rfl⟩ := hp
  have hh : kH D kStr e0 A s H [(q1, .inr (11, [.ref q2, .int 0, .ref q3, .int 0, .ref q4, .ref q5, .ref q6, .int 0])), (q4, .inr (9, [.ref q7, .int 0, .ref q8, .int 0, .ref q9, .ref q10])), (q5, .inr (8, [.ref q11, .ref q12, .int 0, .ref q13, .int 0, .ref q14, .int 0, .ref q15, .int 0, .int 0, .int 0])), (q2, .inl (y16, 6, .inr (.inr (.inr (.inr (fun _ => none)))))), (q3, .inl (y17, 24, .inr (.inr (.inr (.inr (fun _ => none))))))] [(y16, .object "Segueworks$Reel"), (y17, .object "Segueworks$Piece")] _ := hh
  refine W.eq (g2 := F0 m 7 ls [.ref q1]) (by first | rfl | decide) ?_
  refine lv_astore_n (lv' := [(1, .ref q1), (0, .ref b)]) hx hb dL_law_7 rfl hl (by decide) rfl (fun ls hl => ?_)
  refine k_new (C := RX11) (T := TX11) (N := 11) (ci := 16) (fs := [.int 0, .null, .null, .null, .null, .null, .null, .null, .null, .int 0, .int 0]) hx hb hts tl_X11 tyX11 tyX11_ok hown (hts _ tw_683) (hts _ tw_679) (hts _ tw_142) hh rfl (fun j hj => by rcases (show j = 0 ∨ j = 1 ∨ j = 2 ∨ j = 3 ∨ j = 4 ∨ j = 5 ∨ j = 6 ∨ j = 7 ∨ j = 8 ∨ j = 9 ∨ j = 10 by omega) with rfl | rfl | rfl | rfl | rfl | rfl | rfl | rfl | rfl | rfl | rfl <;> rfl) (Nat.le_of_ble_eq_true rfl) (Nat.le_of_ble_eq_true rfl) dL_law_8 (fun q18 H hh => ?_)
  have hh : kH D kStr e0 A s H [(q1, .inr (11, [.ref q2, .int 0, .ref q3, .int 0, .ref q4, .ref q5, .ref q6, .int 0])), (q4, .inr (9, [.ref q7, .int 0, .ref q8, .int 0, .ref q9, .ref q10])), (q5, .inr (8, [.ref q11, .ref q12, .int 0, .ref q13, .int 0, .ref q14, .int 0, .ref q15, .int 0, .int 0, .int 0])), (q2, .inl (y16, 6, .inr (.inr (.inr (.inr (fun _ => none)))))), (q3, .inl (y17, 24, .inr (.inr (.inr (.inr (fun _ => none)))))), (q18, .inr (16, [.int 0, .null, .null, .null, .null, .null, .null, .null, .null, .int 0, .int 0]))] [(y16, .object "Segueworks$Reel"), (y17, .object "Segueworks$Piece")] _ := hh
  refine lv_dup hx hb dL_law_11 rfl ?_
  refine k_callI (wr := [(q1, .inr (11, [.ref q2, .int 0, .ref q3, .int 0, .ref q4, .ref q5, .ref q6, .int 0])), (q4, .inr (9, [.ref q7, .int 0, .ref q8, .int 0, .ref q9, .ref q10])), (q5, .inr (8, [.ref q11, .ref q12, .int 0, .ref q13, .int 0, .ref q14, .int 0, .ref q15, .int 0, .int 0, .int 0])), (q2, .inl (y16, 6, .inr (.inr (.inr (.inr (fun _ => none)))))), (q3, .inl (y17, 24, .inr (.inr (.inr (.inr (fun _ => none))))))]) (rest := [.ref q18]) (own := RL) ⟨hx, hb, hml, hown, hts⟩ (c_X11_init l hst D e0 q18 ) (cwI 0 hts gl_I_c_X11_init rfl rfl rfl (hts _ tw_142) (hts _ tw_684) (hts _ tw_685) rfl (by decide +kernel) ⟨Nat.le_of_ble_eq_true rfl, Nat.le_of_ble_eq_true rfl⟩) hh [5] [0, 1, 2, 3, 4] [] rfl rfl rfl rfl (by decide) rfl rfl hl rfl (Nat.le_of_ble_eq_true rfl) dL_law_12 ⟨Nat.le_of_ble_eq_true rfl, (Nat.le_of_ble_eq_true rfl)⟩ (fun v w ty1 H locs hp hh => ?_)
  obtain ⟨q19, q20, q21, q22, q23, q24, q25, q26, rfl, rfl, rfl⟩ := hp
  have hh : kH D kStr e0 A s H [(q1, .inr (11, [.ref q2, .int 0, .ref q3, .int 0, .ref q4, .ref q5, .ref q6, .int 0])), (q4, .inr (9, [.ref q7, .int 0, .ref q8, .int 0, .ref q9, .ref q10])), (q5, .inr (8, [.ref q11, .ref q12, .int 0, .ref q13, .int 0, .ref q14, .int 0, .ref q15, .int 0, .int 0, .int 0])), (q2, .inl (y16, 6, .inr (.inr (.inr (.inr (fun _ => none)))))), (q3, .inl (y17, 24, .inr (.inr (.inr (.inr (fun _ => none)))))), (q18, .inr (16, [.int 0, .ref q19, .ref q20, .ref q21, .ref q22, .ref q23, .ref q24, .ref q25, .ref q26, .int 0, .int 0])), (q19, .inr (4, [.int 0, .ref e0.1, .int 0])), (q20, .inr (4, [.int 0, .ref e0.1, .int 0])), (q21, .inr (4, [.int 0, .ref e0.1, .int 0])), (q22, .inr (4, [.int 0, .ref e0.1, .int 0])), (q23, .inr (4, [.int 0, .ref e0.1, .int 0])), (q24, .inr (4, [.int 0, .ref e0.1, .int 0])), (q25, .inr (4, [.int 0, .ref e0.1, .int 0])), (q26, .inr (4, [.int 0, .ref e0.1, .int 0]))] [(y16, .object "Segueworks$Reel"), (y17, .object "Segueworks$Piece")] _ := hh
  refine W.eq (g2 := F0 m 15 ls [.ref q18]) (by first | rfl | decide) ?_
  refine lv_astore_n (lv' := [(2, .ref q18), (1, .ref q1), (0, .ref b)]) hx hb dL_law_15 rfl hl (by decide) rfl (fun ls hl => ?_)
  refine lv_iconst (v := 1) hx hb dL_law_16 (by decide) ?_
  refine k_newa (atype := .long) (ty := .long) (N' := 1) (a0 := (1, .inr (.inl (fun _ => 0)))) hx hb (hts _ tw_686) rfl hh (fun cA => rfl) (by decide) (by decide) (Nat.le_of_ble_eq_true rfl) (Nat.le_of_ble_eq_true rfl) (Nat.le_of_ble_eq_true rfl) dL_law_17 (fun q27 y28 H hh => ?_)
  have hh : kH D kStr e0 A s H [(q1, .inr (11, [.ref q2, .int 0, .ref q3, .int 0, .ref q4, .ref q5, .ref q6, .int 0])), (q4, .inr (9, [.ref q7, .int 0, .ref q8, .int 0, .ref q9, .ref q10])), (q5, .inr (8, [.ref q11, .ref q12, .int 0, .ref q13, .int 0, .ref q14, .int 0, .ref q15, .int 0, .int 0, .int 0])), (q2, .inl (y16, 6, .inr (.inr (.inr (.inr (fun _ => none)))))), (q3, .inl (y17, 24, .inr (.inr (.inr (.inr (fun _ => none)))))), (q18, .inr (16, [.int 0, .ref q19, .ref q20, .ref q21, .ref q22, .ref q23, .ref q24, .ref q25, .ref q26, .int 0, .int 0])), (q19, .inr (4, [.int 0, .ref e0.1, .int 0])), (q20, .inr (4, [.int 0, .ref e0.1, .int 0])), (q21, .inr (4, [.int 0, .ref e0.1, .int 0])), (q22, .inr (4, [.int 0, .ref e0.1, .int 0])), (q23, .inr (4, [.int 0, .ref e0.1, .int 0])), (q24, .inr (4, [.int 0, .ref e0.1, .int 0])), (q25, .inr (4, [.int 0, .ref e0.1, .int 0])), (q26, .inr (4, [.int 0, .ref e0.1, .int 0])), (q27, .inl (y28, 1, .inr (.inl (fun _ => 0))))] [(y16, .object "Segueworks$Reel"), (y17, .object "Segueworks$Piece"), (y28, .long)] _ := hh
  refine lv_astore_n (lv' := [(3, .ref q27), (2, .ref q18), (1, .ref q1), (0, .ref b)]) hx hb dL_law_19 rfl hl (by decide) rfl (fun ls hl => ?_)
  refine lv_iconst (v := 1) hx hb dL_law_20 (by decide) ?_
  refine k_newa (atype := .double) (ty := .double) (N' := 1) (a0 := (1, .inr (.inr (.inr (.inl (fun _ => 0)))))) hx hb (hts _ tw_687) rfl hh (fun cA => rfl) (by decide) (by decide) (Nat.le_of_ble_eq_true rfl) (Nat.le_of_ble_eq_true rfl) (Nat.le_of_ble_eq_true rfl) dL_law_21 (fun q29 y30 H hh => ?_)
  have hh : kH D kStr e0 A s H [(q1, .inr (11, [.ref q2, .int 0, .ref q3, .int 0, .ref q4, .ref q5, .ref q6, .int 0])), (q4, .inr (9, [.ref q7, .int 0, .ref q8, .int 0, .ref q9, .ref q10])), (q5, .inr (8, [.ref q11, .ref q12, .int 0, .ref q13, .int 0, .ref q14, .int 0, .ref q15, .int 0, .int 0, .int 0])), (q2, .inl (y16, 6, .inr (.inr (.inr (.inr (fun _ => none)))))), (q3, .inl (y17, 24, .inr (.inr (.inr (.inr (fun _ => none)))))), (q18, .inr (16, [.int 0, .ref q19, .ref q20, .ref q21, .ref q22, .ref q23, .ref q24, .ref q25, .ref q26, .int 0, .int 0])), (q19, .inr (4, [.int 0, .ref e0.1, .int 0])), (q20, .inr (4, [.int 0, .ref e0.1, .int 0])), (q21, .inr (4, [.int 0, .ref e0.1, .int 0])), (q22, .inr (4, [.int 0, .ref e0.1, .int 0])), (q23, .inr (4, [.int 0, .ref e0.1, .int 0])), (q24, .inr (4, [.int 0, .ref e0.1, .int 0])), (q25, .inr (4, [.int 0, .ref e0.1, .int 0])), (q26, .inr (4, [.int 0, .ref e0.1, .int 0])), (q27, .inl (y28, 1, .inr (.inl (fun _ => 0)))), (q29, .inl (y30, 1, .inr (.inr (.inr (.inl (fun _ => 0))))))] [(y16, .object "Segueworks$Reel"), (y17, .object "Segueworks$Piece"), (y28, .long), (y30, .double)] _ := hh
  refine lv_astore (lv' := [(4, .ref q29), (3, .ref q27), (2, .ref q18), (1, .ref q1), (0, .ref b)]) hx hb dL_law_23 hl (by decide) rfl (fun ls hl => ?_)
  refine lv_iconst (v := 0) hx hb dL_law_25 (by decide) ?_
  refine lv_istore (lv' := [(5, .int 0), (4, .ref q29), (3, .ref q27), (2, .ref q18), (1, .ref q1), (0, .ref b)]) hx hb dL_law_26 hl (by decide) rfl (fun ls hl => ?_)
  refine W.widen (k := 100) (n := 10000) (Nat.le_of_ble_eq_true rfl) (Nat.le_of_ble_eq_true rfl) ?_
  have hh : kH D kStr e0 A s H (lwW e0 q1 q2 q3 q4 q5 q6 q7 q8 q9 q10 q11 q12 q13 q14 q15 q18 q19 q20 q21 q22 q23 q24 q25 q26 q27 q29 y16 y17 y28 y30) (lwT y16 y17 y28 y30) _ := hh.sub [0, 1, 2, 3, 4, 5, 6, 7, 8, 9, 10, 11, 12, 13, 14, 15] [0, 1, 2, 3] rfl rfl rfl
  have hl : lv_has ls 9 (lwL b q1 q18 q27 q29) := lv_sub hl [0, 1, 2, 3, 4, 5] rfl
  exact kk _ _ _ _ _ _ _ _ _ _ _ _ _ _ _ _ _ _ _ _ _ _ _ _ _ _ _ _ _ _ _ _ _ hh hl
