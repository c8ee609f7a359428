theorem dL_law_2852 : decode cL_law 2852 = .ok (.aload_n 1, 1) := by decide +kernel
theorem dL_law_2853 : decode cL_law 2853 = .ok (.aload_n 0, 1) := by decide +kernel
theorem dL_law_2854 : decode cL_law 2854 = .ok (.iload 5, 2) := by decide +kernel
theorem dL_law_2856 : decode cL_law 2856 = .ok (.iconst 1, 1) := by decide +kernel
theorem dL_law_2857 : decode cL_law 2857 = .ok (.iadd, 1) := by decide +kernel
theorem dL_law_2858 : decode cL_law 2858 = .ok (.iaload, 1) := by decide +kernel
theorem dL_law_2859 : decode cL_law 2859 = .ok (.aload_n 0, 1) := by decide +kernel
theorem dL_law_2860 : decode cL_law 2860 = .ok (.iload 5, 2) := by decide +kernel
theorem dL_law_2862 : decode cL_law 2862 = .ok (.iconst 2, 1) := by decide +kernel
theorem dL_law_2863 : decode cL_law 2863 = .ok (.iadd, 1) := by decide +kernel
theorem dL_law_2864 : decode cL_law 2864 = .ok (.iaload, 1) := by decide +kernel
theorem dL_law_2865 : decode cL_law 2865 = .ok (.aload_n 3, 1) := by decide +kernel
theorem dL_law_2866 : decode cL_law 2866 = .ok (.invokestatic 309, 3) := by decide +kernel
theorem dL_law_2869 : decode cL_law 2869 = .ok (.istore 6, 2) := by decide +kernel
theorem dL_law_2871 : decode cL_law 2871 = .ok (.aload_n 2, 1) := by decide +kernel
theorem dL_law_2872 : decode cL_law 2872 = .ok (.aload_n 0, 1) := by decide +kernel
theorem dL_law_2873 : decode cL_law 2873 = .ok (.iload 5, 2) := by decide +kernel
theorem dL_law_2875 : decode cL_law 2875 = .ok (.iconst 1, 1) := by decide +kernel
theorem dL_law_2876 : decode cL_law 2876 = .ok (.iadd, 1) := by decide +kernel
theorem dL_law_2877 : decode cL_law 2877 = .ok (.iaload, 1) := by decide +kernel
theorem dL_law_2878 : decode cL_law 2878 = .ok (.aload_n 0, 1) := by decide +kernel
theorem dL_law_2879 : decode cL_law 2879 = .ok (.iload 5, 2) := by decide +kernel
theorem dL_law_2881 : decode cL_law 2881 = .ok (.iconst 2, 1) := by decide +kernel
theorem dL_law_2882 : decode cL_law 2882 = .ok (.iadd, 1) := by decide +kernel
theorem dL_law_2883 : decode cL_law 2883 = .ok (.iaload, 1) := by decide +kernel
theorem dL_law_2884 : decode cL_law 2884 = .ok (.invokevirtual 311, 3) := by decide +kernel
theorem dL_law_2887 : decode cL_law 2887 = .ok (.istore 7, 2) := by decide +kernel
theorem dL_law_2889 : decode cL_law 2889 = .ok (.aload_n 2, 1) := by decide +kernel
theorem dL_law_2890 : decode cL_law 2890 = .ok (.invokevirtual 183, 3) := by decide +kernel
theorem dL_law_2893 : decode cL_law 2893 = .ok (.iload 6, 2) := by decide +kernel
theorem dL_law_2895 : decode cL_law 2895 = .ok (.if_icmp .eq 5, 3) := by decide +kernel
theorem dL_law_2900 : decode cL_law 2900 = .ok (.iload 6, 2) := by decide +kernel
theorem dL_law_2902 : decode cL_law 2902 = .ok (.ifCond .ne 15, 3) := by decide +kernel
theorem dL_law_2917 : decode cL_law 2917 = .ok (.goto 512, 3) := by decide +kernel
theorem dL_law_3402 : decode cL_law 3402 = .ok (.aload_n 1, 1) := by decide +kernel
theorem dL_law_3403 : decode cL_law 3403 = .ok (.invokevirtual 335, 3) := by decide +kernel
theorem dL_law_3406 : decode cL_law 3406 = .ok (.aload_n 2, 1) := by decide +kernel
theorem dL_law_3407 : decode cL_law 3407 = .ok (.invokevirtual 339, 3) := by decide +kernel
theorem dL_law_3410 : decode cL_law 3410 = .ok (.lcmp, 1) := by decide +kernel
theorem dL_law_3411 : decode cL_law 3411 = .ok (.ifCond .eq 18, 3) := by decide +kernel
set_option maxHeartbeats 4000000 in
set_option maxRecDepth 100000 in
theorem law_40 {p : Program} {l : Launch} {e : Env} {s : State} {m : MethodId} {below : List Frame} {meth : Method} {c : Code} {Q : State → Prop} {b : Nat} {xs : Nat → Int32} {D : va_G} {e0 : kE} {A : Nat → Prop} (hst : l.stackTraces = false) (hx : p.tables.exec = Jvm.exec) (hb : c.code = cL_law) (hml : c.maxLocals = 9) (hts : ∀ w ∈ lw_tbl, w.before #[Value.ref b] s = true) (hown : s.vm.findClass RL = some m.cls) (hX : va_X b 5 xs s s.heap) (hbl : b < s.heap.size) (hbA : ¬ A b) {xa x1 x2 x3 x4 x5 g1 g2 g3 g4 h1 h2 h3 h4 h5 ma m1 m2 m3 m4 m5 m6 m7 m8 o1 o2 : Nat} {z1 z2 z3 z4 : ClassId} (h : 1 ≤ xs 1 ∧ xs 1 ≤ 2147483646) {H : Heap} {locs : List Loc} {ls : Array Slot} (hh : kH D kStr e0 A s H (lwW e0 xa x1 x2 x3 x4 x5 g1 g2 g3 g4 h1 h2 h3 h4 h5 ma m1 m2 m3 m4 m5 m6 m7 m8 o1 o2 z1 z2 z3 z4) (lwT z1 z2 z3 z4) locs) (hl : lv_has ls 9 (lwL b xa ma o1 o2)) (kk : lwK p l e s m below meth c Q b A) : W p l e room_1 s m #[Value.ref b] below meth c H locs 100 10000 Q (F0 m 2852 ls []) := by
  have hh : kH D kStr e0 A s H [(xa, .inr (11, [.ref x1, .int 0, .ref x2, .int 0, .ref x3, .ref x4, .ref x5, .int 0])), (x3, .inr (9, [.ref g1, .int 0, .ref g2, .int 0, .ref g3, .ref g4])), (ma, .inr (16, [.int 0, .ref m1, .ref m2, .ref m3, .ref m4, .ref m5, .ref m6, .ref m7, .ref m8, .int 0, .int 0])), (m3, .inr (4, [.int 0, .ref e0.1, .int 0])), (o1, .inl (z3, 1, .inr (.inl (fun _ => 0))))] [(z3, .long)] _ := hh.sub [0, 1, 5, 8, 14] [2] rfl rfl rfl
  have hl : lv_has ls 9 [(5, .int 0), (4, .ref o2), (3, .ref o1), (2, .ref ma), (1, .ref xa), (0, .ref b)] := hl
  refine lv_aload_n hx hb dL_law_2852 rfl (lv_at hl 4 rfl) ?_
  refine lv_aload_n hx hb dL_law_2853 rfl (lv_at hl 5 rfl) ?_
  refine lv_iload hx hb dL_law_2854 (lv_at hl 0 rfl) ?_
  refine lv_iconst (v := 1) hx hb dL_law_2856 (by decide) ?_
  refine lv_iadd hx hb dL_law_2857 ?_
  refine W.eq (g2 := F0 m 2858 ls [.int 1, .ref b, .ref xa]) (by first | rfl | decide) ?_
  refine va_sld hx hb hX hbl hbA hh.2.2.2.1 (by unfold vp_in; decide) dL_law_2858 ?_
  refine W.eq (g2 := F0 m 2859 ls [.int (xs 1), .ref xa]) rfl ?_
  refine lv_aload_n hx hb dL_law_2859 rfl (lv_at hl 5 rfl) ?_
  refine lv_iload hx hb dL_law_2860 (lv_at hl 0 rfl) ?_
  refine lv_iconst (v := 2) hx hb dL_law_2862 (by decide) ?_
  refine lv_iadd hx hb dL_law_2863 ?_
  refine W.eq (g2 := F0 m 2864 ls [.int 2, .ref b, .int (xs 1), .ref xa]) (by first | rfl | decide) ?_
  refine va_sld hx hb hX hbl hbA hh.2.2.2.1 (by unfold vp_in; decide) dL_law_2864 ?_
  refine W.eq (g2 := F0 m 2865 ls [.int (xs 2), .int (xs 1), .ref xa]) rfl ?_
  refine lv_aload_n hx hb dL_law_2865 rfl (lv_at hl 2 rfl) ?_
  refine k_callSX (wr := [(ma, .inr (16, [.int 0, .ref m1, .ref m2, .ref m3, .ref m4, .ref m5, .ref m6, .ref m7, .ref m8, .int 0, .int 0])), (m3, .inr (4, [.int 0, .ref e0.1, .int 0]))]) (rest := []) (own := RL) ⟨hx, hb, hml, hown, hts⟩ (c_L_shuffled l hst D e0 xa x1 x2 x3 x4 x5 g1 g2 g3 g4 ((xs 1)) ((xs 2)) o1 z3 ((fun _ => 0)) h) (vx_cwSW 4 hts gl_S_c_L_shuffled rfl rfl rfl (by decide +kernel) ⟨Nat.le_of_ble_eq_true rfl, Nat.le_of_ble_eq_true rfl⟩) hh [0, 1, 4] [2, 3] [0] rfl rfl rfl rfl (by decide) rfl rfl hl rfl (Nat.le_of_ble_eq_true rfl) dL_law_2866 ⟨Nat.le_of_ble_eq_true rfl, (Nat.le_of_ble_eq_true rfl)⟩ (fun _ _ _ _ _ h => h.elim) (fun v w ty1 H locs hp hh => ?_)
  obtain ⟨rfl, rfl, rfl⟩ := hp
  have hh : kH D kStr e0 A s H [(ma, .inr (16, [.int 0, .ref m1, .ref m2, .ref m3, .ref m4, .ref m5, .ref m6, .ref m7, .ref m8, .int 0, .int 0])), (m3, .inr (4, [.int 0, .ref e0.1, .int 0])), (o1, .inl (z3, 1, .inr (.inl (fun _ => 0))))] [(z3, .long), (z3, .long)] _ := hh
  refine W.eq (g2 := F0 m 2869 ls [.int 2]) (by first | rfl | decide) ?_
  refine lv_istore (lv' := [(6, .int 2), (5, .int 0), (4, .ref o2), (3, .ref o1), (2, .ref ma), (1, .ref xa), (0, .ref b)]) hx hb dL_law_2869 hl (by decide) rfl (fun ls hl => ?_)
  refine lv_aload_n hx hb dL_law_2871 rfl (lv_at hl 4 rfl) ?_
  refine lv_aload_n hx hb dL_law_2872 rfl (lv_at hl 6 rfl) ?_
  refine lv_iload hx hb dL_law_2873 (lv_at hl 1 rfl) ?_
  refine lv_iconst (v := 1) hx hb dL_law_2875 (by decide) ?_
  refine lv_iadd hx hb dL_law_2876 ?_
  refine W.eq (g2 := F0 m 2877 ls [.int 1, .ref b, .ref ma]) (by first | rfl | decide) ?_
  refine va_sld hx hb hX hbl hbA hh.2.2.2.1 (by unfold vp_in; decide) dL_law_2877 ?_
  refine W.eq (g2 := F0 m 2878 ls [.int (xs 1), .ref ma]) rfl ?_
  refine lv_aload_n hx hb dL_law_2878 rfl (lv_at hl 6 rfl) ?_
  refine lv_iload hx hb dL_law_2879 (lv_at hl 1 rfl) ?_
  refine lv_iconst (v := 2) hx hb dL_law_2881 (by decide) ?_
  refine lv_iadd hx hb dL_law_2882 ?_
  refine W.eq (g2 := F0 m 2883 ls [.int 2, .ref b, .int (xs 1), .ref ma]) (by first | rfl | decide) ?_
  refine va_sld hx hb hX hbl hbA hh.2.2.2.1 (by unfold vp_in; decide) dL_law_2883 ?_
  refine W.eq (g2 := F0 m 2884 ls [.int (xs 2), .int (xs 1), .ref ma]) rfl ?_
  refine k_callV (C := RX11) (T := TX11) (N := 11) (ci := 16) (q0 := 0) (wr := [(o1, .inl (z3, 1, .inr (.inl (fun _ => 0))))]) (rest := []) (own := RL) ⟨hx, hb, hml, hown, hts⟩ (c_X11_shuffled l hst D e0 ma 0 m1 m2 m3 m4 m5 m6 m7 m8 ((xs 1)) ((xs 2)) h) (cwV 2 hts gl_V_c_X11_shuffled rfl rfl rfl (by decide +kernel) ⟨Nat.le_of_ble_eq_true rfl, Nat.le_of_ble_eq_true rfl⟩) hh rfl rfl [0, 1] [2] [] rfl rfl rfl rfl (by decide) rfl rfl hl rfl (Nat.le_of_ble_eq_true rfl) dL_law_2884 ⟨Nat.le_of_ble_eq_true rfl, (Nat.le_of_ble_eq_true rfl)⟩ (fun _ _ _ _ _ h => h.elim) (fun v w ty1 H locs hp hh => ?_)
  obtain ⟨rfl, rfl, rfl⟩ := hp
  have hh : kH D kStr e0 A s H [(o1, .inl (z3, 1, .inr (.inl (fun _ => 0)))), (ma, .inr (16, [.int 2, .ref m1, .ref m2, .ref m3, .ref m4, .ref m5, .ref m6, .ref m7, .ref m8, .int 0, .int 0]))] [(z3, .long), (z3, .long)] _ := hh
  refine W.eq (g2 := F0 m 2887 ls [.int 0]) (by first | rfl | decide) ?_
  refine lv_istore (lv' := [(7, .int 0), (6, .int 2), (5, .int 0), (4, .ref o2), (3, .ref o1), (2, .ref ma), (1, .ref xa), (0, .ref b)]) hx hb dL_law_2887 hl (by decide) rfl (fun ls hl => ?_)
  refine lv_aload_n hx hb dL_law_2889 rfl (lv_at hl 5 rfl) ?_
  refine k_callV (C := RX11) (T := TX11) (N := 11) (ci := 16) (q0 := 1) (wr := [(o1, .inl (z3, 1, .inr (.inl (fun _ => 0))))]) (rest := []) (own := RL) ⟨hx, hb, hml, hown, hts⟩ (c_X11_thrown l hst D e0 ma 2 m1 m2 m3 m4 m5 m6 m7 m8 ) (cwV 0 hts gl_V_c_X11_thrown rfl rfl rfl (by decide +kernel) ⟨Nat.le_of_ble_eq_true rfl, Nat.le_of_ble_eq_true rfl⟩) hh rfl rfl [1] [0] [] rfl rfl rfl rfl (by decide) rfl rfl hl rfl (Nat.le_of_ble_eq_true rfl) dL_law_2890 ⟨Nat.le_of_ble_eq_true rfl, (Nat.le_of_ble_eq_true rfl)⟩ (fun _ _ _ _ _ h => h.elim) (fun v w ty1 H locs hp hh => ?_)
  obtain ⟨rfl, rfl, rfl⟩ := hp
  have hh : kH D kStr e0 A s H [(o1, .inl (z3, 1, .inr (.inl (fun _ => 0)))), (ma, .inr (16, [.int 2, .ref m1, .ref m2, .ref m3, .ref m4, .ref m5, .ref m6, .ref m7, .ref m8, .int 0, .int 0]))] [(z3, .long), (z3, .long)] _ := hh
  refine W.eq (g2 := F0 m 2893 ls [.int 2]) (by first | rfl | decide) ?_
  refine lv_iload hx hb dL_law_2893 (lv_at hl 1 rfl) ?_
  refine lv_icmp_eq (tgt := 2900) hx hb dL_law_2895 (by decide) (fun _ => ?_) (fun c_2895 => absurd (by decide) c_2895)
  refine lv_iload hx hb dL_law_2900 (lv_at hl 1 rfl) ?_
  refine lv_if_ne (tgt := 2917) hx hb dL_law_2902 (by decide) (fun _ => ?_) (fun c_2902 => absurd c_2902 (by decide))
  refine lv_goto (tgt := 3429) hx hb dL_law_2917 (by decide) ?_
  refine W.widen (k := 1000) (n := 100000) (Nat.le_of_ble_eq_true rfl) (Nat.le_of_ble_eq_true rfl) ?_
  exact kk _ _ _ hh.2.2.2.1 (lv_sub hl [7, 2] rfl)
set_option maxHeartbeats 4000000 in
set_option maxRecDepth 100000 in
theorem law_40_bad {p : Program} {l : Launch} {e : Env} {s : State} {m : MethodId} {below : List Frame} {meth : Method} {c : Code} {Q : State → Prop} {b : Nat} {xs : Nat → Int32} {D : va_G} {e0 : kE} {A : Nat → Prop} (hst : l.stackTraces = false) (hx : p.tables.exec = Jvm.exec) (hb : c.code = cL_law) (hml : c.maxLocals = 9) (hts : ∀ w ∈ lw_tbl, w.before #[Value.ref b] s = true) (hown : s.vm.findClass RL = some m.cls) (hX : va_X b 5 xs s s.heap) (hbl : b < s.heap.size) (hbA : ¬ A b) {xa x1 x2 x3 x4 x5 g1 g2 g3 g4 h1 h2 h3 h4 h5 ma m1 m2 m3 m4 m5 m6 m7 m8 o1 o2 : Nat} {z1 z2 z3 z4 : ClassId} (h : ¬ (1 ≤ xs 1 ∧ xs 1 ≤ 2147483646)) {H : Heap} {locs : List Loc} {ls : Array Slot} (hh : kH D kStr e0 A s H (lwW e0 xa x1 x2 x3 x4 x5 g1 g2 g3 g4 h1 h2 h3 h4 h5 ma m1 m2 m3 m4 m5 m6 m7 m8 o1 o2 z1 z2 z3 z4) (lwT z1 z2 z3 z4) locs) (hl : lv_has ls 9 (lwL b xa ma o1 o2)) (kk : lwK p l e s m below meth c Q b A) : W p l e room_1 s m #[Value.ref b] below meth c H locs 100 10000 Q (F0 m 2852 ls []) := by
  have hh : kH D kStr e0 A s H [(xa, .inr (11, [.ref x1, .int 0, .ref x2, .int 0, .ref x3, .ref x4, .ref x5, .int 0])), (ma, .inr (16, [.int 0, .ref m1, .ref m2, .ref m3, .ref m4, .ref m5, .ref m6, .ref m7, .ref m8, .int 0, .int 0])), (o1, .inl (z3, 1, .inr (.inl (fun _ => 0))))] [(z3, .long)] _ := hh.sub [0, 5, 14] [2] rfl rfl rfl
  have hl : lv_has ls 9 [(5, .int 0), (4, .ref o2), (3, .ref o1), (2, .ref ma), (1, .ref xa), (0, .ref b)] := hl
  refine lv_aload_n hx hb dL_law_2852 rfl (lv_at hl 4 rfl) ?_
  refine lv_aload_n hx hb dL_law_2853 rfl (lv_at hl 5 rfl) ?_
  refine lv_iload hx hb dL_law_2854 (lv_at hl 0 rfl) ?_
  refine lv_iconst (v := 1) hx hb dL_law_2856 (by decide) ?_
  refine lv_iadd hx hb dL_law_2857 ?_
  refine W.eq (g2 := F0 m 2858 ls [.int 1, .ref b, .ref xa]) (by first | rfl | decide) ?_
  refine va_sld hx hb hX hbl hbA hh.2.2.2.1 (by unfold vp_in; decide) dL_law_2858 ?_
  refine W.eq (g2 := F0 m 2859 ls [.int (xs 1), .ref xa]) rfl ?_
  refine lv_aload_n hx hb dL_law_2859 rfl (lv_at hl 5 rfl) ?_
  refine lv_iload hx hb dL_law_2860 (lv_at hl 0 rfl) ?_
  refine lv_iconst (v := 2) hx hb dL_law_2862 (by decide) ?_
  refine lv_iadd hx hb dL_law_2863 ?_
  refine W.eq (g2 := F0 m 2864 ls [.int 2, .ref b, .int (xs 1), .ref xa]) (by first | rfl | decide) ?_
  refine va_sld hx hb hX hbl hbA hh.2.2.2.1 (by unfold vp_in; decide) dL_law_2864 ?_
  refine W.eq (g2 := F0 m 2865 ls [.int (xs 2), .int (xs 1), .ref xa]) rfl ?_
  refine lv_aload_n hx hb dL_law_2865 rfl (lv_at hl 2 rfl) ?_
  refine k_callSX (wr := [(ma, .inr (16, [.int 0, .ref m1, .ref m2, .ref m3, .ref m4, .ref m5, .ref m6, .ref m7, .ref m8, .int 0, .int 0]))]) (rest := []) (own := RL) ⟨hx, hb, hml, hown, hts⟩ (c_L_shuffled_bad l hst D e0 xa x1 x2 x3 x4 x5 ((xs 1)) ((xs 2)) o1 z3 ((fun _ => 0)) h) (vx_cwSW 4 hts gl_S_c_L_shuffled_bad rfl rfl rfl (by decide +kernel) ⟨Nat.le_of_ble_eq_true rfl, Nat.le_of_ble_eq_true rfl⟩) hh [0, 2] [1] [0] rfl rfl rfl rfl (by decide) rfl rfl hl rfl (Nat.le_of_ble_eq_true rfl) dL_law_2866 ⟨Nat.le_of_ble_eq_true rfl, (Nat.le_of_ble_eq_true rfl)⟩ (fun _ _ _ _ _ h => h.elim) (fun v w ty1 H locs hp hh => ?_)
  obtain ⟨rfl, rfl, rfl⟩ := hp
  have hh : kH D kStr e0 A s H [(ma, .inr (16, [.int 0, .ref m1, .ref m2, .ref m3, .ref m4, .ref m5, .ref m6, .ref m7, .ref m8, .int 0, .int 0])), (o1, .inl (z3, 1, .inr (.inl (fun _ => 0))))] [(z3, .long), (z3, .long)] _ := hh
  refine W.eq (g2 := F0 m 2869 ls [.int 1]) (by first | rfl | decide) ?_
  refine lv_istore (lv' := [(6, .int 1), (5, .int 0), (4, .ref o2), (3, .ref o1), (2, .ref ma), (1, .ref xa), (0, .ref b)]) hx hb dL_law_2869 hl (by decide) rfl (fun ls hl => ?_)
  refine lv_aload_n hx hb dL_law_2871 rfl (lv_at hl 4 rfl) ?_
  refine lv_aload_n hx hb dL_law_2872 rfl (lv_at hl 6 rfl) ?_
  refine lv_iload hx hb dL_law_2873 (lv_at hl 1 rfl) ?_
  refine lv_iconst (v := 1) hx hb dL_law_2875 (by decide) ?_
  refine lv_iadd hx hb dL_law_2876 ?_
  refine W.eq (g2 := F0 m 2877 ls [.int 1, .ref b, .ref ma]) (by first | rfl | decide) ?_
  refine va_sld hx hb hX hbl hbA hh.2.2.2.1 (by unfold vp_in; decide) dL_law_2877 ?_
  refine W.eq (g2 := F0 m 2878 ls [.int (xs 1), .ref ma]) rfl ?_
  refine lv_aload_n hx hb dL_law_2878 rfl (lv_at hl 6 rfl) ?_
  refine lv_iload hx hb dL_law_2879 (lv_at hl 1 rfl) ?_
  refine lv_iconst (v := 2) hx hb dL_law_2881 (by decide) ?_
  refine lv_iadd hx hb dL_law_2882 ?_
  refine W.eq (g2 := F0 m 2883 ls [.int 2, .ref b, .int (xs 1), .ref ma]) (by first | rfl | decide) ?_
  refine va_sld hx hb hX hbl hbA hh.2.2.2.1 (by unfold vp_in; decide) dL_law_2883 ?_
  refine W.eq (g2 := F0 m 2884 ls [.int (xs 2), .int (xs 1), .ref ma]) rfl ?_
  refine k_callV (C := RX11) (T := TX11) (N := 11) (ci := 16) (q0 := 0) (wr := [(o1, .inl (z3, 1, .inr (.inl (fun _ => 0))))]) (rest := []) (own := RL) ⟨hx, hb, hml, hown, hts⟩ (c_X11_shuffled_bad l hst D e0 ma 0 m1 m2 m3 m4 m5 m6 m7 m8 ((xs 1)) ((xs 2)) h) (cwV 2 hts gl_V_c_X11_shuffled_bad rfl rfl rfl (by decide +kernel) ⟨Nat.le_of_ble_eq_true rfl, Nat.le_of_ble_eq_true rfl⟩) hh rfl rfl [0] [1] [] rfl rfl rfl rfl (by decide) rfl rfl hl rfl (Nat.le_of_ble_eq_true rfl) dL_law_2884 ⟨Nat.le_of_ble_eq_true rfl, (Nat.le_of_ble_eq_true rfl)⟩ (fun _ _ _ _ _ h => h.elim) (fun v w ty1 H locs hp hh => ?_)
  obtain ⟨rfl, rfl, rfl⟩ := hp
  have hh : kH D kStr e0 A s H [(o1, .inl (z3, 1, .inr (.inl (fun _ => 0)))), (ma, .inr (16, [.int 1, .ref m1, .ref m2, .ref m3, .ref m4, .ref m5, .ref m6, .ref m7, .ref m8, .int 0, .int 0]))] [(z3, .long), (z3, .long)] _ := hh
  refine W.eq (g2 := F0 m 2887 ls [.int 0]) (by first | rfl | decide) ?_
  refine lv_istore (lv' := [(7, .int 0), (6, .int 1), (5, .int 0), (4, .ref o2), (3, .ref o1), (2, .ref ma), (1, .ref xa), (0, .ref b)]) hx hb dL_law_2887 hl (by decide) rfl (fun ls hl => ?_)
  refine lv_aload_n hx hb dL_law_2889 rfl (lv_at hl 5 rfl) ?_
  refine k_callV (C := RX11) (T := TX11) (N := 11) (ci := 16) (q0 := 1) (wr := [(o1, .inl (z3, 1, .inr (.inl (fun _ => 0))))]) (rest := []) (own := RL) ⟨hx, hb, hml, hown, hts⟩ (c_X11_thrown l hst D e0 ma 1 m1 m2 m3 m4 m5 m6 m7 m8 ) (cwV 0 hts gl_V_c_X11_thrown rfl rfl rfl (by decide +kernel) ⟨Nat.le_of_ble_eq_true rfl, Nat.le_of_ble_eq_true rfl⟩) hh rfl rfl [1] [0] [] rfl rfl rfl rfl (by decide) rfl rfl hl rfl (Nat.le_of_ble_eq_true rfl) dL_law_2890 ⟨Nat.le_of_ble_eq_true rfl, (Nat.le_of_ble_eq_true rfl)⟩ (fun _ _ _ _ _ h => h.elim) (fun v w ty1 H locs hp hh => ?_)
  obtain ⟨rfl, rfl, rfl⟩ := hp
  have hh : kH D kStr e0 A s H [(o1, .inl (z3, 1, .inr (.inl (fun _ => 0)))), (ma, .inr (16, [.int 1, .ref m1, .ref m2, .ref m3, .ref m4, .ref m5, .ref m6, .ref m7, .ref m8, .int 0, .int 0]))] [(z3, .long), (z3, .long)] _ := hh
  refine W.eq (g2 := F0 m 2893 ls [.int 1]) (by first | rfl | decide) ?_
  refine lv_iload hx hb dL_law_2893 (lv_at hl 1 rfl) ?_
  refine lv_icmp_eq (tgt := 2900) hx hb dL_law_2895 (by decide) (fun _ => ?_) (fun c_2895 => absurd (by decide) c_2895)
  refine lv_iload hx hb dL_law_2900 (lv_at hl 1 rfl) ?_
  refine lv_if_ne (tgt := 2917) hx hb dL_law_2902 (by decide) (fun _ => ?_) (fun c_2902 => absurd c_2902 (by decide))
  refine lv_goto (tgt := 3429) hx hb dL_law_2917 (by decide) ?_
  refine W.widen (k := 1000) (n := 100000) (Nat.le_of_ble_eq_true rfl) (Nat.le_of_ble_eq_true rfl) ?_
  exact kk _ _ _ hh.2.2.2.1 (lv_sub hl [7, 2] rfl)
set_option maxHeartbeats 4000000 in
set_option maxRecDepth 100000 in
theorem law_48 {p : Program} {l : Launch} {e : Env} {s : State} {m : MethodId} {below : List Frame} {meth : Method} {c : Code} {Q : State → Prop} {b : Nat} {xs : Nat → Int32} {D : va_G} {e0 : kE} {A : Nat → Prop} (hst : l.stackTraces = false) (hx : p.tables.exec = Jvm.exec) (hb : c.code = cL_law) (hml : c.maxLocals = 9) (hts : ∀ w ∈ lw_tbl, w.before #[Value.ref b] s = true) (hown : s.vm.findClass RL = some m.cls) (hX : va_X b 5 xs s s.heap) (hbl : b < s.heap.size) (hbA : ¬ A b) {xa x1 x2 x3 x4 x5 g1 g2 g3 g4 h1 h2 h3 h4 h5 ma m1 m2 m3 m4 m5 m6 m7 m8 o1 o2 : Nat} {z1 z2 z3 z4 : ClassId}  {H : Heap} {locs : List Loc} {ls : Array Slot} (hh : kH D kStr e0 A s H (lwW e0 xa x1 x2 x3 x4 x5 g1 g2 g3 g4 h1 h2 h3 h4 h5 ma m1 m2 m3 m4 m5 m6 m7 m8 o1 o2 z1 z2 z3 z4) (lwT z1 z2 z3 z4) locs) (hl : lv_has ls 9 (lwL b xa ma o1 o2)) (kk : lwK p l e s m below meth c Q b A) : W p l e room_1 s m #[Value.ref b] below meth c H locs 100 10000 Q (F0 m 3402 ls []) := by
  have hh : kH D kStr e0 A s H [(xa, .inr (11, [.ref x1, .int 0, .ref x2, .int 0, .ref x3, .ref x4, .ref x5, .int 0])), (x3, .inr (9, [.ref g1, .int 0, .ref g2, .int 0, .ref g3, .ref g4])), (x4, .inr (8, [.ref h1, .ref h2, .int 0, .ref h3, .int 0, .ref h4, .int 0, .ref h5, .int 0, .int 0, .int 0])), (ma, .inr (16, [.int 0, .ref m1, .ref m2, .ref m3, .ref m4, .ref m5, .ref m6, .ref m7, .ref m8, .int 0, .int 0])), (m2, .inr (4, [.int 0, .ref e0.1, .int 0])), (m3, .inr (4, [.int 0, .ref e0.1, .int 0])), (m4, .inr (4, [.int 0, .ref e0.1, .int 0])), (m7, .inr (4, [.int 0, .ref e0.1, .int 0])), (m8, .inr (4, [.int 0, .ref e0.1, .int 0]))] [] _ := hh.sub [0, 1, 2, 5, 7, 8, 9, 12, 13] [] rfl rfl rfl
  have hl : lv_has ls 9 [(5, .int 0), (4, .ref o2), (3, .ref o1), (2, .ref ma), (1, .ref xa), (0, .ref b)] := hl
  refine lv_aload_n hx hb dL_law_3402 rfl (lv_at hl 4 rfl) ?_
  refine k_callV (C := RX6) (T := TX6) (N := 8) (ci := 11) (q0 := 0) (wr := [(ma, .inr (16, [.int 0, .ref m1, .ref m2, .ref m3, .ref m4, .ref m5, .ref m6, .ref m7, .ref m8, .int 0, .int 0])), (m2, .inr (4, [.int 0, .ref e0.1, .int 0])), (m3, .inr (4, [.int 0, .ref e0.1, .int 0])), (m4, .inr (4, [.int 0, .ref e0.1, .int 0])), (m7, .inr (4, [.int 0, .ref e0.1, .int 0])), (m8, .inr (4, [.int 0, .ref e0.1, .int 0]))]) (rest := []) (own := RL) ⟨hx, hb, hml, hown, hts⟩ (c_X6_checksum l hst D e0 xa x1 x2 x3 x4 x5 g1 g2 g3 g4 h1 h2 h3 h4 h5 ) (cwV 0 hts gl_V_c_X6_checksum rfl rfl rfl (by decide +kernel) ⟨Nat.le_of_ble_eq_true rfl, Nat.le_of_ble_eq_true rfl⟩) hh rfl rfl [0, 1, 2] [3, 4, 5, 6, 7, 8] [] rfl rfl rfl rfl (by decide) rfl rfl hl rfl (Nat.le_of_ble_eq_true rfl) dL_law_3403 ⟨Nat.le_of_ble_eq_true rfl, (Nat.le_of_ble_eq_true rfl)⟩ (fun _ _ _ _ _ h => h.elim) (fun v w ty1 H locs hp hh => ?_)
  obtain ⟨rfl, rfl, rfl⟩ := hp
  have hh : kH D kStr e0 A s H [(ma, .inr (16, [.int 0, .ref m1, .ref m2, .ref m3, .ref m4, .ref m5, .ref m6, .ref m7, .ref m8, .int 0, .int 0])), (m2, .inr (4, [.int 0, .ref e0.1, .int 0])), (m3, .inr (4, [.int 0, .ref e0.1, .int 0])), (m4, .inr (4, [.int 0, .ref e0.1, .int 0])), (m7, .inr (4, [.int 0, .ref e0.1, .int 0])), (m8, .inr (4, [.int 0, .ref e0.1, .int 0]))] [] _ := hh
  refine W.eq (g2 := F0 m 3406 ls [.long 7]) (by first | rfl | decide) ?_
  refine lv_aload_n hx hb dL_law_3406 rfl (lv_at hl 3 rfl) ?_
  refine k_callV (C := RX11) (T := TX11) (N := 11) (ci := 16) (q0 := 0) (wr := []) (rest := [.long 7]) (own := RL) ⟨hx, hb, hml, hown, hts⟩ (c_X11_checksum l hst D e0 ma 0 m1 m2 m3 m4 m5 m6 m7 m8 ) (cwV 0 hts gl_V_c_X11_checksum rfl rfl rfl (by decide +kernel) ⟨Nat.le_of_ble_eq_true rfl, Nat.le_of_ble_eq_true rfl⟩) hh rfl rfl [0, 1, 2, 3, 4, 5] [] [] rfl rfl rfl rfl (by decide) rfl rfl hl rfl (Nat.le_of_ble_eq_true rfl) dL_law_3407 ⟨Nat.le_of_ble_eq_true rfl, (Nat.le_of_ble_eq_true rfl)⟩ (fun _ _ _ _ _ h => h.elim) (fun v w ty1 H locs hp hh => ?_)
  obtain ⟨rfl, rfl, rfl⟩ := hp
  have hh : kH D kStr e0 A s H [(ma, .inr (16, [.int 0, .ref m1, .ref m2, .ref m3, .ref m4, .ref m5, .ref m6, .ref m7, .ref m8, .int 0, .int 0]))] [] _ := hh
  refine W.eq (g2 := F0 m 3410 ls [.long 7, .long 7]) (by first | rfl | decide) ?_
  refine W.lcmp hx hb dL_law_3410 ?_
  refine W.eq (g2 := F0 m 3411 ls [.int 0]) (by rw [show lg_cmp (7 : Int64) (7 : Int64) = 0 from by decide]) ?_
  refine lv_if_eq (tgt := 3429) hx hb dL_law_3411 (by decide) (fun _ => ?_) (fun c_3411 => absurd (by decide) c_3411)
  refine W.widen (k := 1000) (n := 100000) (Nat.le_of_ble_eq_true rfl) (Nat.le_of_ble_eq_true rfl) ?_
  exact kk _ _ _ hh.2.2.2.1 (lv_sub hl [5, 0] rfl)
