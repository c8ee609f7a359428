theorem dL_law_37 : decode cL_law 37 = .ok (.aload_n 0, 1) := by decide +kernel
theorem dL_law_38 : decode cL_law 38 = .ok (.iload 5, 2) := by decide +kernel
theorem dL_law_40 : decode cL_law 40 = .ok (.iaload, 1) := by decide +kernel
theorem dL_law_41 : decode cL_law 41 = .ok (.bipush 63, 2) := by decide +kernel
theorem dL_law_43 : decode cL_law 43 = .ok (.iand, 1) := by decide +kernel
theorem dL_law_44 : decode cL_law 44 = .ok (.tableswitch 3385 0 49 #[216, 260, 328, 420, 476, 556, 612, 692, 760, 816, 908, 988, 1056, 1112, 1168, 1236, 1292, 1348, 1416, 1507, 1575, 1631, 1644, 1700, 1756, 1824, 1892, 1948, 2004, 2060, 2116, 2184, 2240, 2308, 2376, 2444, 2512, 2580, 2660, 2728, 2808, 2876, 2956, 3024, 3091, 3171, 3215, 3281, 3358, 3372], 216) := by decide +kernel
set_option maxHeartbeats 8000000 in
set_option maxRecDepth 100000 in
theorem st_switch {p : Program} {l : Launch} {e : Env} {s : State} {m : MethodId} {below : List Frame} {meth : Method} {c : Code} {Q : State → Prop} {b : Nat} {xs : Nat → Int32} {D : va_G} {e0 : kE} {A : Nat → Prop} (hst : l.stackTraces = false) (hx : p.tables.exec = Jvm.exec) (hb : c.code = cL_law) (hml : c.maxLocals = 9) (hts : ∀ w ∈ lw_tbl, w.before #[Value.ref b] s = true) (hown : s.vm.findClass RL = some m.cls) (hX : va_X b 5 xs s s.heap) (hbl : b < s.heap.size) (hbA : ¬ A b) {xa x1 x2 x3 x4 x5 g1 g2 g3 g4 h1 h2 h3 h4 h5 ma m1 m2 m3 m4 m5 m6 m7 m8 o1 o2 : Nat} {z1 z2 z3 z4 : ClassId} {H : Heap} {locs : List Loc} {ls : Array Slot} (hh : kH D kStr e0 A s H (lwW e0 xa x1 x2 x3 x4 x5 g1 g2 g3 g4 h1 h2 h3 h4 h5 ma m1 m2 m3 m4 m5 m6 m7 m8 o1 o2 z1 z2 z3 z4) (lwT z1 z2 z3 z4) locs) (hl : lv_has ls 9 (lwL b xa ma o1 o2)) (kk : lwK p l e s m below meth c Q b A) (j : Nat) (hj : j < 64) : W p l e room_1 s m #[Value.ref b] below meth c H locs 100 10000 Q (F0 m 44 ls [.int (nI j)]) := by
  have hdf : W p l e room_1 s m #[Value.ref b] below meth c H locs 100 10000 Q (F0 m 3429 ls []) := W.widen (k := 1000) (n := 100000) (Nat.le_of_ble_eq_true rfl) (Nat.le_of_ble_eq_true rfl) (kk _ _ _ hh.2.2.2.1 (lv_sub hl [5, 0] rfl))
  match j, hj with
  | 0, _ =>
    refine lv_tableIn (off := 216) (tgt := 260) hx hb dL_law_44 (by decide) (by decide) (by decide) (by decide) ?_
    exact law_0 hst hx hb hml hts hown hX hbl hbA hh hl kk
  | 1, _ =>
    refine lv_tableIn (off := 260) (tgt := 304) hx hb dL_law_44 (by decide) (by decide) (by decide) (by decide) ?_
    exact law_1 hst hx hb hml hts hown hX hbl hbA hh hl kk
  | 2, _ =>
    refine lv_tableIn (off := 328) (tgt := 372) hx hb dL_law_44 (by decide) (by decide) (by decide) (by decide) ?_
    exact law_2 hst hx hb hml hts hown hX hbl hbA hh hl kk
  | 3, _ =>
    refine lv_tableIn (off := 420) (tgt := 464) hx hb dL_law_44 (by decide) (by decide) (by decide) (by decide) ?_
    exact law_3 hst hx hb hml hts hown hX hbl hbA hh hl kk
  | 4, _ =>
    refine lv_tableIn (off := 476) (tgt := 520) hx hb dL_law_44 (by decide) (by decide) (by decide) (by decide) ?_
    exact law_4 hst hx hb hml hts hown hX hbl hbA hh hl kk
  | 5, _ =>
    refine lv_tableIn (off := 556) (tgt := 600) hx hb dL_law_44 (by decide) (by decide) (by decide) (by decide) ?_
    by_cases h : 1 ≤ xs 1 ∧ xs 1 ≤ 200
    · obtain ⟨n, hn, hx1⟩ := nI_of2 (x := xs 1) (M := 200) (n := 200) (by decide) (Int32.not_lt.mpr (Int32.le_trans (by decide) h.1)) h.2
      have hn1 : 1 ≤ n := (nI_leI (a := 1) (by decide) (by omega)).mp (by rw [← hx1]; exact h.1)
      exact law_5 hst hx hb hml hts hown hX hbl hbA n hn1 hn hx1 hh hl kk
    · exact law_5_bad hst hx hb hml hts hown hX hbl hbA h hh hl kk
  | 6, _ =>
    refine lv_tableIn (off := 612) (tgt := 656) hx hb dL_law_44 (by decide) (by decide) (by decide) (by decide) ?_
    exact law_6 hst hx hb hml hts hown hX hbl hbA hh hl kk
  | 7, _ =>
    refine lv_tableIn (off := 692) (tgt := 736) hx hb dL_law_44 (by decide) (by decide) (by decide) (by decide) ?_
    exact law_7 hst hx hb hml hts hown hX hbl hbA hh hl kk
  | 8, _ =>
    refine lv_tableIn (off := 760) (tgt := 804) hx hb dL_law_44 (by decide) (by decide) (by decide) (by decide) ?_
    exact law_8 hst hx hb hml hts hown hX hbl hbA hh hl kk
  | 9, _ =>
    refine lv_tableIn (off := 816) (tgt := 860) hx hb dL_law_44 (by decide) (by decide) (by decide) (by decide) ?_
    exact law_9 hst hx hb hml hts hown hX hbl hbA hh hl kk
  | 10, _ =>
    refine lv_tableIn (off := 908) (tgt := 952) hx hb dL_law_44 (by decide) (by decide) (by decide) (by decide) ?_
    exact law_10 hst hx hb hml hts hown hX hbl hbA hh hl kk
  | 11, _ =>
    refine lv_tableIn (off := 988) (tgt := 1032) hx hb dL_law_44 (by decide) (by decide) (by decide) (by decide) ?_
    exact law_11 hst hx hb hml hts hown hX hbl hbA hh hl kk
  | 12, _ =>
    refine lv_tableIn (off := 1056) (tgt := 1100) hx hb dL_law_44 (by decide) (by decide) (by decide) (by decide) ?_
    exact law_12 hst hx hb hml hts hown hX hbl hbA hh hl kk
  | 13, _ =>
    refine lv_tableIn (off := 1112) (tgt := 1156) hx hb dL_law_44 (by decide) (by decide) (by decide) (by decide) ?_
    exact law_13 hst hx hb hml hts hown hX hbl hbA hh hl kk
  | 14, _ =>
    refine lv_tableIn (off := 1168) (tgt := 1212) hx hb dL_law_44 (by decide) (by decide) (by decide) (by decide) ?_
    exact law_14 hst hx hb hml hts hown hX hbl hbA hh hl kk
  | 15, _ =>
    refine lv_tableIn (off := 1236) (tgt := 1280) hx hb dL_law_44 (by decide) (by decide) (by decide) (by decide) ?_
    exact law_15 hst hx hb hml hts hown hX hbl hbA hh hl kk
  | 16, _ =>
    refine lv_tableIn (off := 1292) (tgt := 1336) hx hb dL_law_44 (by decide) (by decide) (by decide) (by decide) ?_
    exact law_16 hst hx hb hml hts hown hX hbl hbA hh hl kk
  | 17, _ =>
    refine lv_tableIn (off := 1348) (tgt := 1392) hx hb dL_law_44 (by decide) (by decide) (by decide) (by decide) ?_
    exact law_17 hst hx hb hml hts hown hX hbl hbA hh hl kk
  | 18, _ =>
    refine lv_tableIn (off := 1416) (tgt := 1460) hx hb dL_law_44 (by decide) (by decide) (by decide) (by decide) ?_
    exact law_18 hst hx hb hml hts hown hX hbl hbA hh hl kk
  | 19, _ =>
    refine lv_tableIn (off := 1507) (tgt := 1551) hx hb dL_law_44 (by decide) (by decide) (by decide) (by decide) ?_
    exact law_19 hst hx hb hml hts hown hX hbl hbA hh hl kk
  | 20, _ =>
    refine lv_tableIn (off := 1575) (tgt := 1619) hx hb dL_law_44 (by decide) (by decide) (by decide) (by decide) ?_
    exact law_20 hst hx hb hml hts hown hX hbl hbA hh hl kk
  | 21, _ =>
    refine lv_tableIn (off := 1631) (tgt := 1675) hx hb dL_law_44 (by decide) (by decide) (by decide) (by decide) ?_
    exact law_21 hst hx hb hml hts hown hX hbl hbA hh hl kk
  | 22, _ =>
    refine lv_tableIn (off := 1644) (tgt := 1688) hx hb dL_law_44 (by decide) (by decide) (by decide) (by decide) ?_
    exact law_22 hst hx hb hml hts hown hX hbl hbA hh hl kk
  | 23, _ =>
    refine lv_tableIn (off := 1700) (tgt := 1744) hx hb dL_law_44 (by decide) (by decide) (by decide) (by decide) ?_
    by_cases h : 1 ≤ xs 1 ∧ xs 1 ≤ 99999
    · exact law_23 hst hx hb hml hts hown hX hbl hbA h hh hl kk
    · exact law_23_bad hst hx hb hml hts hown hX hbl hbA h hh hl kk
  | 24, _ =>
    refine lv_tableIn (off := 1756) (tgt := 1800) hx hb dL_law_44 (by decide) (by decide) (by decide) (by decide) ?_
    exact law_24 hst hx hb hml hts hown hX hbl hbA hh hl kk
  | 25, _ =>
    refine lv_tableIn (off := 1824) (tgt := 1868) hx hb dL_law_44 (by decide) (by decide) (by decide) (by decide) ?_
    by_cases h : 1 ≤ xs 2 ∧ xs 2 ≤ 99999
    · exact law_25 hst hx hb hml hts hown hX hbl hbA h hh hl kk
    · exact law_25_bad hst hx hb hml hts hown hX hbl hbA h hh hl kk
  | 26, _ =>
    refine lv_tableIn (off := 1892) (tgt := 1936) hx hb dL_law_44 (by decide) (by decide) (by decide) (by decide) ?_
    exact law_26 hst hx hb hml hts hown hX hbl hbA hh hl kk
  | 27, _ =>
    refine lv_tableIn (off := 1948) (tgt := 1992) hx hb dL_law_44 (by decide) (by decide) (by decide) (by decide) ?_
    exact law_27 hst hx hb hml hts hown hX hbl hbA hh hl kk
  | 28, _ =>
    refine lv_tableIn (off := 2004) (tgt := 2048) hx hb dL_law_44 (by decide) (by decide) (by decide) (by decide) ?_
    exact law_28 hst hx hb hml hts hown hX hbl hbA hh hl kk
  | 29, _ =>
    refine lv_tableIn (off := 2060) (tgt := 2104) hx hb dL_law_44 (by decide) (by decide) (by decide) (by decide) ?_
    exact law_29 hst hx hb hml hts hown hX hbl hbA hh hl kk
  | 30, _ =>
    refine lv_tableIn (off := 2116) (tgt := 2160) hx hb dL_law_44 (by decide) (by decide) (by decide) (by decide) ?_
    exact law_30 hst hx hb hml hts hown hX hbl hbA hh hl kk
  | 31, _ =>
    refine lv_tableIn (off := 2184) (tgt := 2228) hx hb dL_law_44 (by decide) (by decide) (by decide) (by decide) ?_
    by_cases h : -30 ≤ xs 1 ∧ xs 1 ≤ 30
    · exact law_31 hst hx hb hml hts hown hX hbl hbA h hh hl kk
    · exact law_31_bad hst hx hb hml hts hown hX hbl hbA h hh hl kk
  | 32, _ =>
    refine lv_tableIn (off := 2240) (tgt := 2284) hx hb dL_law_44 (by decide) (by decide) (by decide) (by decide) ?_
    exact law_32 hst hx hb hml hts hown hX hbl hbA hh hl kk
  | 33, _ =>
    refine lv_tableIn (off := 2308) (tgt := 2352) hx hb dL_law_44 (by decide) (by decide) (by decide) (by decide) ?_
    exact law_33 hst hx hb hml hts hown hX hbl hbA hh hl kk
  | 34, _ =>
    refine lv_tableIn (off := 2376) (tgt := 2420) hx hb dL_law_44 (by decide) (by decide) (by decide) (by decide) ?_
    exact law_34 hst hx hb hml hts hown hX hbl hbA hh hl kk
  | 35, _ =>
    refine lv_tableIn (off := 2444) (tgt := 2488) hx hb dL_law_44 (by decide) (by decide) (by decide) (by decide) ?_
    exact law_35 hst hx hb hml hts hown hX hbl hbA hh hl kk
  | 36, _ =>
    refine lv_tableIn (off := 2512) (tgt := 2556) hx hb dL_law_44 (by decide) (by decide) (by decide) (by decide) ?_
    exact law_36 hst hx hb hml hts hown hX hbl hbA hh hl kk
  | 37, _ =>
    refine lv_tableIn (off := 2580) (tgt := 2624) hx hb dL_law_44 (by decide) (by decide) (by decide) (by decide) ?_
    exact law_37 hst hx hb hml hts hown hX hbl hbA hh hl kk
  | 38, _ =>
    refine lv_tableIn (off := 2660) (tgt := 2704) hx hb dL_law_44 (by decide) (by decide) (by decide) (by decide) ?_
    exact law_38 hst hx hb hml hts hown hX hbl hbA hh hl kk
  | 39, _ =>
    refine lv_tableIn (off := 2728) (tgt := 2772) hx hb dL_law_44 (by decide) (by decide) (by decide) (by decide) ?_
    exact law_39 hst hx hb hml hts hown hX hbl hbA hh hl kk
  | 40, _ =>
    refine lv_tableIn (off := 2808) (tgt := 2852) hx hb dL_law_44 (by decide) (by decide) (by decide) (by decide) ?_
    by_cases h : 1 ≤ xs 1 ∧ xs 1 ≤ 2147483646
    · exact law_40 hst hx hb hml hts hown hX hbl hbA h hh hl kk
    · exact law_40_bad hst hx hb hml hts hown hX hbl hbA h hh hl kk
  | 41, _ =>
    refine lv_tableIn (off := 2876) (tgt := 2920) hx hb dL_law_44 (by decide) (by decide) (by decide) (by decide) ?_
    exact law_41 hst hx hb hml hts hown hX hbl hbA hh hl kk
  | 42, _ =>
    refine lv_tableIn (off := 2956) (tgt := 3000) hx hb dL_law_44 (by decide) (by decide) (by decide) (by decide) ?_
    exact law_42 hst hx hb hml hts hown hX hbl hbA hh hl kk
  | 43, _ =>
    refine lv_tableIn (off := 3024) (tgt := 3068) hx hb dL_law_44 (by decide) (by decide) (by decide) (by decide) ?_
    by_cases h : 0 ≤ xs 1 ∧ xs 1 ≤ 7
    · by_cases h2 : 1 ≤ xs 2 ∧ xs 2 ≤ 999
      · exact law_43 hst hx hb hml hts hown hX hbl hbA h h2 hh hl kk
      · exact law_43_bad2 hst hx hb hml hts hown hX hbl hbA h h2 hh hl kk
    · exact law_43_bad1 hst hx hb hml hts hown hX hbl hbA h hh hl kk
  | 44, _ =>
    refine lv_tableIn (off := 3091) (tgt := 3135) hx hb dL_law_44 (by decide) (by decide) (by decide) (by decide) ?_
    exact law_44 hst hx hb hml hts hown hX hbl hbA hh hl kk
  | 45, _ =>
    refine lv_tableIn (off := 3171) (tgt := 3215) hx hb dL_law_44 (by decide) (by decide) (by decide) (by decide) ?_
    exact law_45 hst hx hb hml hts hown hX hbl hbA hh hl kk
  | 46, _ =>
    refine lv_tableIn (off := 3215) (tgt := 3259) hx hb dL_law_44 (by decide) (by decide) (by decide) (by decide) ?_
    exact law_46 hst hx hb hml hts hown hX hbl hbA hh hl kk
  | 47, _ =>
    refine lv_tableIn (off := 3281) (tgt := 3325) hx hb dL_law_44 (by decide) (by decide) (by decide) (by decide) ?_
    exact law_47 hst hx hb hml hts hown hX hbl hbA hh hl kk
  | 48, _ =>
    refine lv_tableIn (off := 3358) (tgt := 3402) hx hb dL_law_44 (by decide) (by decide) (by decide) (by decide) ?_
    exact law_48 hst hx hb hml hts hown hX hbl hbA hh hl kk
  | 49, _ =>
    refine lv_tableIn (off := 3372) (tgt := 3416) hx hb dL_law_44 (by decide) (by decide) (by decide) (by decide) ?_
    exact law_49 hst hx hb hml hts hown hX hbl hbA hh hl kk
  | 50, _ => exact lv_tableOut (tgt := 3429) hx hb dL_law_44 (by decide) (by decide) hdf
  | 51, _ => exact lv_tableOut (tgt := 3429) hx hb dL_law_44 (by decide) (by decide) hdf
  | 52, _ => exact lv_tableOut (tgt := 3429) hx hb dL_law_44 (by decide) (by decide) hdf
  | 53, _ => exact lv_tableOut (tgt := 3429) hx hb dL_law_44 (by decide) (by decide) hdf
  | 54, _ => exact lv_tableOut (tgt := 3429) hx hb dL_law_44 (by decide) (by decide) hdf
  | 55, _ => exact lv_tableOut (tgt := 3429) hx hb dL_law_44 (by decide) (by decide) hdf
  | 56, _ => exact lv_tableOut (tgt := 3429) hx hb dL_law_44 (by decide) (by decide) hdf
  | 57, _ => exact lv_tableOut (tgt := 3429) hx hb dL_law_44 (by decide) (by decide) hdf
  | 58, _ => exact lv_tableOut (tgt := 3429) hx hb dL_law_44 (by decide) (by decide) hdf
  | 59, _ => exact lv_tableOut (tgt := 3429) hx hb dL_law_44 (by decide) (by decide) hdf
  | 60, _ => exact lv_tableOut (tgt := 3429) hx hb dL_law_44 (by decide) (by decide) hdf
  | 61, _ => exact lv_tableOut (tgt := 3429) hx hb dL_law_44 (by decide) (by decide) hdf
  | 62, _ => exact lv_tableOut (tgt := 3429) hx hb dL_law_44 (by decide) (by decide) hdf
  | 63, _ => exact lv_tableOut (tgt := 3429) hx hb dL_law_44 (by decide) (by decide) hdf
  | k + 64, h => exact absurd h (by omega)
set_option maxHeartbeats 8000000 in
set_option maxRecDepth 100000 in
theorem whole_start {p : Program} {e : Env} {s : State} {m : MethodId} {below : List Frame} {meth : Method} {c : Code} (l : Launch) (hflags : l.flags = flags0) {b L : Nat} {xs : Nat → Int32} (hL : L ≤ 5) (C0 : lw_At p s m meth c b L xs) : W p l e room_1 s m #[Value.ref b] below meth c s.heap [] 0 0 (lw_Z below #[Value.ref b] s) (entryFrame m ([Value.ref b] : List Value).toArray 9) := by
  obtain ⟨hx, hb, hr, hml, hown, hts, hX, hbl, hlocks, hgv⟩ := id C0
  have hb : c.code = cL_law := hb
  have hown : s.vm.findClass RL = some m.cls := hown
  have hst : l.stackTraces = false := by unfold Launch.stackTraces; rw [hflags]; decide
  obtain ⟨e0, hkS⟩ := st_kS hts hgv
  obtain ⟨D, hKn⟩ := st_kn hts
  have hbA : ¬ (fun q : Nat => s.heap.size ≤ q) b := Nat.not_le.mpr hbl
  have hh : kH D kStr e0 (fun q : Nat => s.heap.size ≤ q) s s.heap [] [] [] := ⟨fun k q h => by simp at h, ⟨fun i j p q h => by simp at h, fun k q h => by simp at h⟩, ⟨hKn, fun k q h => by simp at h⟩, va_S.rf, fun _ h => h, hkS⟩
  have hl := lv_entry ([.ref b]) (n := 9) (Nat.le_of_ble_eq_true rfl)
  rw [lg_entry_eq]
  refine st_begin hst hx hb hml hts hown hh hl (fun xa x1 x2 x3 x4 x5 g1 g2 g3 g4 h1 h2 h3 h4 h5 ma m1 m2 m3 m4 m5 m6 m7 m8 o1 o2 z1 z2 z3 z4 H locs ls hh hl => ?_)
  have hl9 : lv_has ls 9 [(5, .int 0), (0, .ref b)] := lv_sub hl [0, 5] rfl
  refine lv_iload hx hb dL_law_28 (lv_at hl9 0 rfl) ?_
  refine lv_aload_n hx hb dL_law_30 rfl (lv_at hl9 1 rfl) ?_
  refine va_slen hx hb hX hbl hbA hh.2.2.2.1 dL_law_31 ?_
  refine lv_iconst (v := 5) hx hb dL_law_32 (by decide) ?_
  refine lv_isub hx hb dL_law_33 ?_
  rcases Nat.lt_or_ge L 5 with h5 | h5
  · refine lv_icmp_gt (tgt := 3435) hx hb dL_law_34 (by decide) (fun _ => ?_) (fun h => absurd (show Int32.ofNat L - 5 < 0 by rcases (show L = 0 ∨ L = 1 ∨ L = 2 ∨ L = 3 ∨ L = 4 by omega) with rfl | rfl | rfl | rfl | rfl <;> decide) h)
    exact W.widen (k := 1000) (n := 100000) (Nat.le_of_ble_eq_true rfl) (Nat.le_of_ble_eq_true rfl) (st_end (A := (fun q : Nat => s.heap.size ≤ q)) (fun _ h => h) hx hb hr hlocks hX hbl hbA hh.2.2.2.1)
  · have e5 : L = 5 := Nat.le_antisymm hL h5
    subst e5
    refine W.eq (g2 := F0 m 34 ls [.int 0, .int 0]) (by first | rfl | decide) ?_
    refine lv_icmp_gt (tgt := 3435) hx hb dL_law_34 (by decide) (fun h => absurd h (by decide)) (fun _ => ?_)
    refine lv_aload_n hx hb dL_law_37 rfl (lv_at hl9 1 rfl) ?_
    refine lv_iload hx hb dL_law_38 (lv_at hl9 0 rfl) ?_
    refine va_sld hx hb hX hbl hbA hh.2.2.2.1 (by unfold vp_in; decide) dL_law_40 ?_
    refine lv_bipush (v := 63) hx hb dL_law_41 (by decide) ?_
    refine lv_iand hx hb dL_law_43 ?_
    obtain ⟨j, hj, ej⟩ := pk_andE (xs (0 : Int32).toNatClampNeg) (m := 63) 6 (by decide)
    refine W.eq (g2 := F0 m 44 ls [.int (nI j)]) (by rw [← ej]) ?_
    exact st_switch hst hx hb hml hts hown hX hbl hbA hh hl (st_tail (fun _ h => h) hx hb hr hlocks hX hbl hbA) j hj
