theorem dX2_init_0 : decode cX2_init 0 = .ok (.aload_n 0, 1) := by decide +kernel
theorem dX2_init_1 : decode cX2_init 1 = .ok (.invokespecial 3, 3) := by decide +kernel
theorem dX2_init_4 : decode cX2_init 4 = .ok (.aload_n 0, 1) := by decide +kernel
theorem dX2_init_5 : decode cX2_init 5 = .ok (.iload_n 1, 1) := by decide +kernel
theorem dX2_init_6 : decode cX2_init 6 = .ok (.putfield 9, 3) := by decide +kernel
theorem dX2_init_9 : decode cX2_init 9 = .ok (.aload_n 0, 1) := by decide +kernel
theorem dX2_init_10 : decode cX2_init 10 = .ok (.aload_n 3, 1) := by decide +kernel
theorem dX2_init_11 : decode cX2_init 11 = .ok (.putfield 15, 3) := by decide +kernel
theorem dX2_init_14 : decode cX2_init 14 = .ok (.aload_n 0, 1) := by decide +kernel
theorem dX2_init_15 : decode cX2_init 15 = .ok (.aload 4, 2) := by decide +kernel
theorem dX2_init_17 : decode cX2_init 17 = .ok (.putfield 19, 3) := by decide +kernel
theorem dX2_init_20 : decode cX2_init 20 = .ok (.aload_n 0, 1) := by decide +kernel
theorem dX2_init_21 : decode cX2_init 21 = .ok (.iload 5, 2) := by decide +kernel
theorem dX2_init_23 : decode cX2_init 23 = .ok (.putfield 22, 3) := by decide +kernel
theorem dX2_init_26 : decode cX2_init 26 = .ok (.aload_n 0, 1) := by decide +kernel
theorem dX2_init_27 : decode cX2_init 27 = .ok (.iload 6, 2) := by decide +kernel
theorem dX2_init_29 : decode cX2_init 29 = .ok (.putfield 26, 3) := by decide +kernel
theorem dX2_init_32 : decode cX2_init 32 = .ok (.aload_n 0, 1) := by decide +kernel
theorem dX2_init_33 : decode cX2_init 33 = .ok (.iload 7, 2) := by decide +kernel
theorem dX2_init_35 : decode cX2_init 35 = .ok (.putfield 29, 3) := by decide +kernel
theorem dX2_init_38 : decode cX2_init 38 = .ok (.aload_n 0, 1) := by decide +kernel
theorem dX2_init_39 : decode cX2_init 39 = .ok (.iload_n 2, 1) := by decide +kernel
theorem dX2_init_40 : decode cX2_init 40 = .ok (.newarray .int, 2) := by decide +kernel
theorem dX2_init_42 : decode cX2_init 42 = .ok (.putfield 32, 3) := by decide +kernel
theorem dX2_init_45 : decode cX2_init 45 = .ok (.aload_n 0, 1) := by decide +kernel
theorem dX2_init_46 : decode cX2_init 46 = .ok (.iload_n 1, 1) := by decide +kernel
theorem dX2_init_47 : decode cX2_init 47 = .ok (.bipush 108, 2) := by decide +kernel
theorem dX2_init_49 : decode cX2_init 49 = .ok (.if_icmp .eq 9, 3) := by decide +kernel
theorem dX2_init_52 : decode cX2_init 52 = .ok (.iload_n 1, 1) := by decide +kernel
theorem dX2_init_53 : decode cX2_init 53 = .ok (.bipush 100, 2) := by decide +kernel
theorem dX2_init_55 : decode cX2_init 55 = .ok (.if_icmp .ne 7, 3) := by decide +kernel
theorem dX2_init_62 : decode cX2_init 62 = .ok (.iconst 0, 1) := by decide +kernel
theorem dX2_init_63 : decode cX2_init 63 = .ok (.newarray .int, 2) := by decide +kernel
theorem dX2_init_65 : decode cX2_init 65 = .ok (.putfield 35, 3) := by decide +kernel
theorem dX2_init_68 : decode cX2_init 68 = .ok (.return_, 1) := by decide +kernel
theorem dX2_fill_0 : decode cX2_fill 0 = .ok (.iconst 0, 1) := by decide +kernel
theorem dX2_fill_1 : decode cX2_fill 1 = .ok (.istore_n 1, 1) := by decide +kernel
theorem dX2_fill_2 : decode cX2_fill 2 = .ok (.iload_n 1, 1) := by decide +kernel
theorem dX2_fill_3 : decode cX2_fill 3 = .ok (.aload_n 0, 1) := by decide +kernel
theorem dX2_fill_4 : decode cX2_fill 4 = .ok (.getfield 32, 3) := by decide +kernel
theorem dX2_fill_7 : decode cX2_fill 7 = .ok (.arraylength, 1) := by decide +kernel
theorem dX2_fill_8 : decode cX2_fill 8 = .ok (.if_icmp .ge 58, 3) := by decide +kernel
theorem dX2_fill_11 : decode cX2_fill 11 = .ok (.iload_n 1, 1) := by decide +kernel
theorem dX2_fill_12 : decode cX2_fill 12 = .ok (.aload_n 0, 1) := by decide +kernel
theorem dX2_fill_13 : decode cX2_fill 13 = .ok (.getfield 35, 3) := by decide +kernel
theorem dX2_fill_16 : decode cX2_fill 16 = .ok (.arraylength, 1) := by decide +kernel
theorem dX2_fill_17 : decode cX2_fill 17 = .ok (.if_icmp .ge 14, 3) := by decide +kernel
theorem dX2_fill_31 : decode cX2_fill 31 = .ok (.aload_n 0, 1) := by decide +kernel
theorem dX2_fill_32 : decode cX2_fill 32 = .ok (.getfield 32, 3) := by decide +kernel
theorem dX2_fill_35 : decode cX2_fill 35 = .ok (.iload_n 1, 1) := by decide +kernel
theorem dX2_fill_36 : decode cX2_fill 36 = .ok (.aload_n 0, 1) := by decide +kernel
theorem dX2_fill_37 : decode cX2_fill 37 = .ok (.iload_n 1, 1) := by decide +kernel
theorem dX2_fill_38 : decode cX2_fill 38 = .ok (.invokevirtual 42, 3) := by decide +kernel
theorem dX2_fill_41 : decode cX2_fill 41 = .ok (.iastore, 1) := by decide +kernel
theorem dX2_fill_42 : decode cX2_fill 42 = .ok (.aload_n 0, 1) := by decide +kernel
theorem dX2_fill_43 : decode cX2_fill 43 = .ok (.dup, 1) := by decide +kernel
theorem dX2_fill_44 : decode cX2_fill 44 = .ok (.getfield 45, 3) := by decide +kernel
theorem dX2_fill_47 : decode cX2_fill 47 = .ok (.aload_n 0, 1) := by decide +kernel
theorem dX2_fill_48 : decode cX2_fill 48 = .ok (.getfield 32, 3) := by decide +kernel
theorem dX2_fill_51 : decode cX2_fill 51 = .ok (.iload_n 1, 1) := by decide +kernel
theorem dX2_fill_52 : decode cX2_fill 52 = .ok (.iaload, 1) := by decide +kernel
theorem dX2_fill_53 : decode cX2_fill 53 = .ok (.invokestatic 48, 3) := by decide +kernel
theorem dX2_fill_56 : decode cX2_fill 56 = .ok (.iadd, 1) := by decide +kernel
theorem dX2_fill_57 : decode cX2_fill 57 = .ok (.putfield 45, 3) := by decide +kernel
theorem dX2_fill_60 : decode cX2_fill 60 = .ok (.iinc 1 1, 3) := by decide +kernel
theorem dX2_fill_63 : decode cX2_fill 63 = .ok (.goto (-61), 3) := by decide +kernel
theorem dX2_fill_66 : decode cX2_fill 66 = .ok (.return_, 1) := by decide +kernel
theorem dX2_widthOf_0 : decode cX2_widthOf 0 = .ok (.iconst 2, 1) := by decide +kernel
theorem dX2_widthOf_1 : decode cX2_widthOf 1 = .ok (.iload_n 0, 1) := by decide +kernel
theorem dX2_widthOf_2 : decode cX2_widthOf 2 = .ok (.invokestatic 51, 3) := by decide +kernel
theorem dX2_widthOf_5 : decode cX2_widthOf 5 = .ok (.sipush 4096, 3) := by decide +kernel
theorem dX2_widthOf_8 : decode cX2_widthOf 8 = .ok (.idiv, 1) := by decide +kernel
theorem dX2_widthOf_9 : decode cX2_widthOf 9 = .ok (.iadd, 1) := by decide +kernel
theorem dX2_widthOf_10 : decode cX2_widthOf 10 = .ok (.ireturn, 1) := by decide +kernel
theorem dX2_workedOut_0 : decode cX2_workedOut 0 = .ok (.aload_n 0, 1) := by decide +kernel
theorem dX2_workedOut_1 : decode cX2_workedOut 1 = .ok (.getfield 9, 3) := by decide +kernel
theorem dX2_workedOut_4 : decode cX2_workedOut 4 = .ok (.tableswitch 185 98 120 #[140, 108, 179, 185, 185, 126, 185, 185, 185, 185, 155, 185, 185, 185, 185, 185, 173, 185, 185, 185, 185, 185, 120], 108) := by decide +kernel
theorem dX2_workedOut_189 : decode cX2_workedOut 189 = .ok (.iconst 0, 1) := by decide +kernel
theorem dX2_workedOut_190 : decode cX2_workedOut 190 = .ok (.ireturn, 1) := by decide +kernel
theorem dX6_silence_8 : decode cX6_silence 8 = .ok (.aload_n 0, 1) := by decide +kernel
theorem dX6_silence_9 : decode cX6_silence 9 = .ok (.invokevirtual 85, 3) := by decide +kernel
theorem dX6_silence_12 : decode cX6_silence 12 = .ok (.aload_n 0, 1) := by decide +kernel
theorem dX6_silence_13 : decode cX6_silence 13 = .ok (.new 15, 3) := by decide +kernel
theorem dX6_silence_16 : decode cX6_silence 16 = .ok (.dup, 1) := by decide +kernel
theorem dX6_silence_17 : decode cX6_silence 17 = .ok (.bipush 115, 2) := by decide +kernel
theorem dX6_silence_19 : decode cX6_silence 19 = .ok (.iload_n 1, 1) := by decide +kernel
theorem dX6_silence_20 : decode cX6_silence 20 = .ok (.aconst_null, 1) := by decide +kernel
theorem dX6_silence_21 : decode cX6_silence 21 = .ok (.aconst_null, 1) := by decide +kernel
theorem dX6_silence_22 : decode cX6_silence 22 = .ok (.iconst 0, 1) := by decide +kernel
theorem dX6_silence_23 : decode cX6_silence 23 = .ok (.iconst 0, 1) := by decide +kernel
theorem dX6_silence_24 : decode cX6_silence 24 = .ok (.iconst 0, 1) := by decide +kernel
theorem dX6_silence_25 : decode cX6_silence 25 = .ok (.invokespecial 92, 3) := by decide +kernel
theorem dX6_silence_28 : decode cX6_silence 28 = .ok (.invokevirtual 95, 3) := by decide +kernel
theorem dX6_silence_31 : decode cX6_silence 31 = .ok (.ireturn, 1) := by decide +kernel
theorem dX6_needPieceRoom_0 : decode cX6_needPieceRoom 0 = .ok (.aload_n 0, 1) := by decide +kernel
theorem dX6_needPieceRoom_1 : decode cX6_needPieceRoom 1 = .ok (.getfield 340, 3) := by decide +kernel
theorem dX6_needPieceRoom_4 : decode cX6_needPieceRoom 4 = .ok (.bipush 24, 2) := by decide +kernel
theorem dX6_needPieceRoom_6 : decode cX6_needPieceRoom 6 = .ok (.if_icmp .lt 14, 3) := by decide +kernel
theorem dX6_needPieceRoom_20 : decode cX6_needPieceRoom 20 = .ok (.return_, 1) := by decide +kernel
theorem dX6_keep_0 : decode cX6_keep 0 = .ok (.aload_n 1, 1) := by decide +kernel
theorem dX6_keep_1 : decode cX6_keep 1 = .ok (.invokevirtual 366, 3) := by decide +kernel
theorem dX6_keep_4 : decode cX6_keep 4 = .ok (.aload_n 0, 1) := by decide +kernel
theorem dX6_keep_5 : decode cX6_keep 5 = .ok (.getfield 17, 3) := by decide +kernel
theorem dX6_keep_8 : decode cX6_keep 8 = .ok (.aload_n 0, 1) := by decide +kernel
theorem dX6_keep_9 : decode cX6_keep 9 = .ok (.getfield 340, 3) := by decide +kernel
theorem dX6_keep_12 : decode cX6_keep 12 = .ok (.aload_n 1, 1) := by decide +kernel
theorem dX6_keep_13 : decode cX6_keep 13 = .ok (.aastore, 1) := by decide +kernel
theorem dX6_keep_14 : decode cX6_keep 14 = .ok (.aload_n 0, 1) := by decide +kernel
theorem dX6_keep_15 : decode cX6_keep 15 = .ok (.dup, 1) := by decide +kernel
theorem dX6_keep_16 : decode cX6_keep 16 = .ok (.getfield 340, 3) := by decide +kernel
theorem dX6_keep_19 : decode cX6_keep 19 = .ok (.iconst 1, 1) := by decide +kernel
theorem dX6_keep_20 : decode cX6_keep 20 = .ok (.iadd, 1) := by decide +kernel
theorem dX6_keep_21 : decode cX6_keep 21 = .ok (.putfield 340, 3) := by decide +kernel
theorem dX6_keep_24 : decode cX6_keep 24 = .ok (.aload_n 0, 1) := by decide +kernel
theorem dX6_keep_25 : decode cX6_keep 25 = .ok (.getfield 340, 3) := by decide +kernel
theorem dX6_keep_28 : decode cX6_keep 28 = .ok (.iconst 1, 1) := by decide +kernel
theorem dX6_keep_29 : decode cX6_keep 29 = .ok (.isub, 1) := by decide +kernel
theorem dX6_keep_30 : decode cX6_keep 30 = .ok (.ireturn, 1) := by decide +kernel
theorem dX9_init_0 : decode cX9_init 0 = .ok (.aload_n 0, 1) := by decide +kernel
theorem dX9_init_1 : decode cX9_init 1 = .ok (.invokespecial 1, 3) := by decide +kernel
theorem dX9_init_4 : decode cX9_init 4 = .ok (.aload_n 0, 1) := by decide +kernel
theorem dX9_init_5 : decode cX9_init 5 = .ok (.iload_n 1, 1) := by decide +kernel
theorem dX9_init_6 : decode cX9_init 6 = .ok (.putfield 7, 3) := by decide +kernel
theorem dX9_init_9 : decode cX9_init 9 = .ok (.aload_n 0, 1) := by decide +kernel
theorem dX9_init_10 : decode cX9_init 10 = .ok (.aload_n 2, 1) := by decide +kernel
theorem dX9_init_11 : decode cX9_init 11 = .ok (.putfield 13, 3) := by decide +kernel
theorem dX9_init_14 : decode cX9_init 14 = .ok (.return_, 1) := by decide +kernel
theorem dX11_held_0 : decode cX11_held 0 = .ok (.sipush (-32768), 3) := by decide +kernel
theorem dX11_held_3 : decode cX11_held 3 = .ok (.sipush 32767, 3) := by decide +kernel
theorem dX11_held_6 : decode cX11_held 6 = .ok (.iload_n 0, 1) := by decide +kernel
theorem dX11_held_7 : decode cX11_held 7 = .ok (.invokestatic 1, 3) := by decide +kernel
theorem dX11_held_10 : decode cX11_held 10 = .ok (.invokestatic 7, 3) := by decide +kernel
theorem dX11_held_13 : decode cX11_held 13 = .ok (.ireturn, 1) := by decide +kernel
theorem dX11_adds_15 : decode cX11_adds 15 = .ok (.aload_n 0, 1) := by decide +kernel
theorem dX11_adds_16 : decode cX11_adds 16 = .ok (.getfield 25, 3) := by decide +kernel
theorem dX11_adds_19 : decode cX11_adds 19 = .ok (.invokevirtual 50, 3) := by decide +kernel
theorem dX11_adds_22 : decode cX11_adds 22 = .ok (.bipush 24, 2) := by decide +kernel
theorem dX11_adds_24 : decode cX11_adds 24 = .ok (.if_icmp .ne 7, 3) := by decide +kernel
theorem dX11_adds_31 : decode cX11_adds 31 = .ok (.iconst 0, 1) := by decide +kernel
theorem dX11_adds_44 : decode cX11_adds 44 = .ok (.iconst 0, 1) := by decide +kernel
theorem dX11_adds_45 : decode cX11_adds 45 = .ok (.istore 4, 2) := by decide +kernel
theorem dX11_adds_47 : decode cX11_adds 47 = .ok (.iload 4, 2) := by decide +kernel
theorem dX11_adds_49 : decode cX11_adds 49 = .ok (.aload_n 2, 1) := by decide +kernel
theorem dX11_adds_50 : decode cX11_adds 50 = .ok (.arraylength, 1) := by decide +kernel
theorem dX11_adds_51 : decode cX11_adds 51 = .ok (.if_icmp .ge 20, 3) := by decide +kernel
theorem dX11_adds_54 : decode cX11_adds 54 = .ok (.aload_n 2, 1) := by decide +kernel
theorem dX11_adds_55 : decode cX11_adds 55 = .ok (.iload 4, 2) := by decide +kernel
theorem dX11_adds_57 : decode cX11_adds 57 = .ok (.aload_n 2, 1) := by decide +kernel
theorem dX11_adds_58 : decode cX11_adds 58 = .ok (.iload 4, 2) := by decide +kernel
theorem dX11_adds_60 : decode cX11_adds 60 = .ok (.iaload, 1) := by decide +kernel
theorem dX11_adds_61 : decode cX11_adds 61 = .ok (.invokestatic 90, 3) := by decide +kernel
theorem dX11_adds_64 : decode cX11_adds 64 = .ok (.iastore, 1) := by decide +kernel
theorem dX11_adds_65 : decode cX11_adds 65 = .ok (.iinc 4 1, 3) := by decide +kernel
theorem dX11_adds_68 : decode cX11_adds 68 = .ok (.goto (-21), 3) := by decide +kernel
theorem dX11_adds_71 : decode cX11_adds 71 = .ok (.aload_n 0, 1) := by decide +kernel
theorem dX11_adds_72 : decode cX11_adds 72 = .ok (.getfield 25, 3) := by decide +kernel
theorem dX11_adds_75 : decode cX11_adds 75 = .ok (.new 84, 3) := by decide +kernel
theorem dX11_adds_78 : decode cX11_adds 78 = .ok (.dup, 1) := by decide +kernel
theorem dX11_adds_79 : decode cX11_adds 79 = .ok (.iload_n 1, 1) := by decide +kernel
theorem dX11_adds_80 : decode cX11_adds 80 = .ok (.aload_n 2, 1) := by decide +kernel
theorem dX11_adds_81 : decode cX11_adds 81 = .ok (.invokespecial 94, 3) := by decide +kernel
theorem dX11_adds_84 : decode cX11_adds 84 = .ok (.invokevirtual 58, 3) := by decide +kernel
theorem dX11_adds_87 : decode cX11_adds 87 = .ok (.pop, 1) := by decide +kernel
theorem dX11_adds_88 : decode cX11_adds 88 = .ok (.aload_n 0, 1) := by decide +kernel
theorem dX11_adds_89 : decode cX11_adds 89 = .ok (.getfield 25, 3) := by decide +kernel
theorem dX11_adds_92 : decode cX11_adds 92 = .ok (.invokevirtual 50, 3) := by decide +kernel
theorem dX11_adds_95 : decode cX11_adds 95 = .ok (.iconst 1, 1) := by decide +kernel
theorem dX11_adds_96 : decode cX11_adds 96 = .ok (.isub, 1) := by decide +kernel
theorem dX11_adds_97 : decode cX11_adds 97 = .ok (.ireturn, 1) := by decide +kernel
theorem dX11_silence_13 : decode cX11_silence 13 = .ok (.iconst 0, 1) := by decide +kernel
theorem dX11_silence_14 : decode cX11_silence 14 = .ok (.goto 4, 3) := by decide +kernel
theorem dX11_silence_35 : decode cX11_silence 35 = .ok (.iload_n 1, 1) := by decide +kernel
def wo_c_X2_widthOf_0 : List Cond := [Cond.methodLink RX2 51 Lib.Math.abs.name, Cond.static Lib.Math.abs.name, Cond.initialized "java/lang/Math", Cond.code Lib.Math.abs.name Lib.Math.abs.code 1 (some .int)]
def wk_c_X2_widthOf_0 : List Cond := Cond.code yX2_widthOf cX2_widthOf 1 (some .int) :: wo_c_X2_widthOf_0
theorem wo_c_X2_widthOf_0_in : ∀ w ∈ wo_c_X2_widthOf_0, w ∈ wk_c_X2_widthOf_0 := fun w h => List.mem_cons_of_mem _ h
theorem gk_c_X2_widthOf_0 : ∀ w ∈ wk_c_X2_widthOf_0, goodWord w = true := List.forall_mem_cons.mpr ⟨rfl, (show ∀ w ∈ wo_c_X2_widthOf_0, goodWord w = true by decide +kernel)⟩
set_option maxHeartbeats 4000000 in
set_option maxRecDepth 100000 in
theorem c_X2_widthOf_0 (l : Launch) (hst : l.stackTraces = false) (D : va_G) (e0 : kE)   : kM l yX2_widthOf wk_c_X2_widthOf_0 1 29 0 0 D kStr e0 [] [] [.int 0] (fun v w t => v = some (.int 2) ∧ w = [] ∧ t = []) (fun _ => False) := by
  refine k_of (cc := cX2_widthOf) (maxL := 1) (ret := (some .int)) (by decide) rfl (Nat.le_of_ble_eq_true rfl) ?_
  intro p e s m args below meth c A ls hx hb hr hts hown hlocks hml hex hh hl
  have hown : s.vm.findClass RX2 = some m.cls := hown
  have hl : lv_has ls 1 [(0, .int 0)] := hl
  refine lv_iconst (v := 2) hx hb dX2_widthOf_0 (by decide) ?_
  refine lv_iload_n hx hb dX2_widthOf_1 rfl (lv_at hl 0 rfl) ?_
  refine va_mabs hx hb (by rw [hml]; exact hl.1.symm) hown (hts _ (wo_c_X2_widthOf_0_in _ (List.mem_of_getElem? (i := 0) rfl))) (hts _ (wo_c_X2_widthOf_0_in _ (List.mem_of_getElem? (i := 1) rfl))) (hts _ (wo_c_X2_widthOf_0_in _ (List.mem_of_getElem? (i := 2) rfl))) (hts _ (wo_c_X2_widthOf_0_in _ (List.mem_of_getElem? (i := 3) rfl))) (Nat.le_of_ble_eq_true rfl) (Nat.le_of_ble_eq_true rfl) (Nat.le_of_ble_eq_true rfl) (Nat.le_of_ble_eq_true rfl) dX2_widthOf_2 ?_
  refine W.eq (g2 := F0 m 5 ls [.int 0, .int 2]) (by first | rfl | decide) ?_
  refine lv_sipush (v := 4096) hx hb dX2_widthOf_5 (by decide) ?_
  refine lv_idiv hx hb dX2_widthOf_8 (by decide) ?_
  refine W.eq (g2 := F0 m 9 ls [.int 0, .int 2]) (by first | rfl | decide) ?_
  refine lv_iadd hx hb dX2_widthOf_9 ?_
  refine W.eq (g2 := F0 m 10 ls [.int 2]) (by first | rfl | decide) ?_
  exact k_endi hx hb hr hlocks hh ⟨rfl, rfl, rfl⟩ [] [] rfl rfl rfl (Nat.le_of_ble_eq_true rfl) (Nat.le_of_ble_eq_true rfl) dX2_widthOf_10
def wo_c_X11_held_0 : List Cond := [Cond.methodLink RX11 1 Lib.Math.min.name, Cond.static Lib.Math.min.name, Cond.initialized "java/lang/Math", Cond.code Lib.Math.min.name Lib.Math.min.code 2 (some .int), Cond.methodLink RX11 7 Lib.Math.max.name, Cond.static Lib.Math.max.name, Cond.code Lib.Math.max.name Lib.Math.max.code 2 (some .int)]
def wk_c_X11_held_0 : List Cond := Cond.code yX11_held cX11_held 1 (some .int) :: wo_c_X11_held_0
theorem wo_c_X11_held_0_in : ∀ w ∈ wo_c_X11_held_0, w ∈ wk_c_X11_held_0 := fun w h => List.mem_cons_of_mem _ h
theorem gk_c_X11_held_0 : ∀ w ∈ wk_c_X11_held_0, goodWord w = true := List.forall_mem_cons.mpr ⟨rfl, (show ∀ w ∈ wo_c_X11_held_0, goodWord w = true by decide +kernel)⟩
set_option maxHeartbeats 4000000 in
set_option maxRecDepth 100000 in
theorem c_X11_held_0 (l : Launch) (hst : l.stackTraces = false) (D : va_G) (e0 : kE)   : kM l yX11_held wk_c_X11_held_0 1 29 0 0 D kStr e0 [] [] [.int 0] (fun v w t => v = some (.int 0) ∧ w = [] ∧ t = []) (fun _ => False) := by
  refine k_of (cc := cX11_held) (maxL := 1) (ret := (some .int)) (by decide) rfl (Nat.le_of_ble_eq_true rfl) ?_
  intro p e s m args below meth c A ls hx hb hr hts hown hlocks hml hex hh hl
  have hown : s.vm.findClass RX11 = some m.cls := hown
  have hl : lv_has ls 1 [(0, .int 0)] := hl
  refine lv_sipush (v := (-32768)) hx hb dX11_held_0 (by decide) ?_
  refine lv_sipush (v := 32767) hx hb dX11_held_3 (by decide) ?_
  refine lv_iload_n hx hb dX11_held_6 rfl (lv_at hl 0 rfl) ?_
  refine va_mmin hx hb (by rw [hml]; exact hl.1.symm) hown (hts _ (wo_c_X11_held_0_in _ (List.mem_of_getElem? (i := 0) rfl))) (hts _ (wo_c_X11_held_0_in _ (List.mem_of_getElem? (i := 1) rfl))) (hts _ (wo_c_X11_held_0_in _ (List.mem_of_getElem? (i := 2) rfl))) (hts _ (wo_c_X11_held_0_in _ (List.mem_of_getElem? (i := 3) rfl))) (Nat.le_of_ble_eq_true rfl) (Nat.le_of_ble_eq_true rfl) (Nat.le_of_ble_eq_true rfl) (Nat.le_of_ble_eq_true rfl) dX11_held_7 ?_
  refine W.eq (g2 := F0 m 10 ls [.int 0, .int (-32768)]) (by first | rfl | decide) ?_
  refine va_mmax hx hb (by rw [hml]; exact hl.1.symm) hown (hts _ (wo_c_X11_held_0_in _ (List.mem_of_getElem? (i := 4) rfl))) (hts _ (wo_c_X11_held_0_in _ (List.mem_of_getElem? (i := 5) rfl))) (hts _ (wo_c_X11_held_0_in _ (List.mem_of_getElem? (i := 2) rfl))) (hts _ (wo_c_X11_held_0_in _ (List.mem_of_getElem? (i := 6) rfl))) (Nat.le_of_ble_eq_true rfl) (Nat.le_of_ble_eq_true rfl) (Nat.le_of_ble_eq_true rfl) (Nat.le_of_ble_eq_true rfl) dX11_held_10 ?_
  refine W.eq (g2 := F0 m 13 ls [.int 0]) (by first | rfl | decide) ?_
  exact k_endi hx hb hr hlocks hh ⟨rfl, rfl, rfl⟩ [] [] rfl rfl rfl (Nat.le_of_ble_eq_true rfl) (Nat.le_of_ble_eq_true rfl) dX11_held_13
def wo_c_X2_init : List Cond := [Cond.methodLink RX2 3 objectInit, Cond.instanceMethod objectInit, Cond.code objectInit ⟨#[0xb1]⟩ 1 none, Cond.fieldLink RX2 9 "Segueworks$Piece" "kind" "C", Cond.fieldLink RX2 15 "Segueworks$Piece" "source" "[I", Cond.fieldLink RX2 19 "Segueworks$Piece" "second" "[I", Cond.fieldLink RX2 22 "Segueworks$Piece" "setting" "I", Cond.fieldLink RX2 26 "Segueworks$Piece" "setting2" "I", Cond.fieldLink RX2 29 "Segueworks$Piece" "release" "I", Cond.arrayClass .int, Cond.fieldLink RX2 32 "Segueworks$Piece" "samples" "[I", Cond.fieldLink RX2 35 "Segueworks$Piece" "carries" "[I"]
def wk_c_X2_init : List Cond := Cond.code yX2_init cX2_init 8 none :: (wo_c_X2_init ++ (u_ws RX2 TX2 9))
theorem wo_c_X2_init_in : ∀ w ∈ wo_c_X2_init, w ∈ wk_c_X2_init := fun w h => List.mem_cons_of_mem _ (List.mem_append_left _ h)
theorem ws_c_X2_init_0 : ∀ w ∈ u_ws RX2 TX2 9, w ∈ wk_c_X2_init := fun w h => List.mem_cons_of_mem _ (List.mem_append_right _ h)
theorem gk_c_X2_init : ∀ w ∈ wk_c_X2_init, goodWord w = true := List.forall_mem_cons.mpr ⟨rfl, (List.forall_mem_append.mpr ⟨(show ∀ w ∈ wo_c_X2_init, goodWord w = true by decide +kernel), (show ∀ w ∈ u_ws RX2 TX2 9, goodWord w = true by decide +kernel)⟩)⟩
set_option maxHeartbeats 4000000 in
set_option maxRecDepth 100000 in
theorem c_X2_init (l : Launch) (hst : l.stackTraces = false) (D : va_G) (e0 : kE) (pa : Nat) (n : Nat) (hn : n ≤ 200) : kI l yX2_init wk_c_X2_init 1 20 2 200 D kStr e0 [] [(pa, .inr (7, [.int 0, .null, .null, .null, .int 0, .int 0, .int 0, .null, .int 0]))] [.ref pa, .int 115, .int (nI n), .null, .null, .int 0, .int 0, .int 0] (fun v w t => ∃ (q1 : Nat), ∃ (q3 : Nat), ∃ (y2 : ClassId), ∃ (y4 : ClassId), v = none ∧ w = [(pa, .inr (7, [.int 115, .ref q1, .null, .null, .int 0, .int 0, .int 0, .ref q3, .int 0])), (q1, .inl (y2, n, .inl (fun _ => 0))), (q3, .inl (y4, 0, .inl (fun _ => 0)))] ∧ t = [(y2, .int), (y4, .int)]) := by
  refine k_ofI (cc := cX2_init) (maxL := 8) (ret := none) (by decide) rfl (Nat.le_of_ble_eq_true rfl) ?_
  intro p e s m args below meth c A ls hx hb hr hts hown hlocks hml hin hh hl
  have hown : s.vm.findClass RX2 = some m.cls := hown
  have hl : lv_has ls 8 [(0, .ref pa), (1, .int 115), (2, .int (nI n)), (3, .null), (4, .null), (5, .int 0), (6, .int 0), (7, .int 0)] := hl
  have hin : meth.name = "<init>" := hin
  refine lv_aload_n hx hb dX2_init_0 rfl (lv_at hl 0 rfl) ?_
  refine W.objInit hx hb hown (hts _ (wo_c_X2_init_in _ (List.mem_of_getElem? (i := 0) rfl))) (hts _ (wo_c_X2_init_in _ (List.mem_of_getElem? (i := 1) rfl))) (hts _ (wo_c_X2_init_in _ (List.mem_of_getElem? (i := 2) rfl))) rfl (by rw [hml]; exact hl.1) rfl dX2_init_1 (Nat.le_of_ble_eq_true rfl) (Nat.le_of_ble_eq_true rfl) ?_
  refine W.eq (g2 := F0 m 4 ls []) rfl ?_
  refine lv_aload_n hx hb dX2_init_4 rfl (lv_at hl 0 rfl) ?_
  refine lv_iload_n hx hb dX2_init_5 rfl (lv_at hl 1 rfl) ?_
  refine k_putF (C := RX2) (T := TX2) (N := 9) (ci := 7) (v := .int 115) (ws' := [(pa, .inr (7, [.int 115, .null, .null, .null, .int 0, .int 0, .int 0, .null, .int 0]))]) hx hb hts ws_c_X2_init_0 tyX2 tyX2_ok nmX2 hown hh 0 rfl rfl 0 (by decide) (hts _ (wo_c_X2_init_in _ (List.mem_of_getElem? (i := 3) rfl))) rfl hin rfl rfl rfl (Nat.le_of_ble_eq_true rfl) dX2_init_6 rfl (fun H locs hh => ?_)
  refine lv_aload_n hx hb dX2_init_9 rfl (lv_at hl 0 rfl) ?_
  refine lv_aload_nN hx hb dX2_init_10 rfl (lv_at hl 3 rfl) ?_
  refine k_putF (C := RX2) (T := TX2) (N := 9) (ci := 7) (v := .null) (ws' := [(pa, .inr (7, [.int 115, .null, .null, .null, .int 0, .int 0, .int 0, .null, .int 0]))]) hx hb hts ws_c_X2_init_0 tyX2 tyX2_ok nmX2 hown hh 0 rfl rfl 2 (by decide) (hts _ (wo_c_X2_init_in _ (List.mem_of_getElem? (i := 4) rfl))) rfl hin rfl rfl rfl (Nat.le_of_ble_eq_true rfl) dX2_init_11 rfl (fun H locs hh => ?_)
  refine lv_aload_n hx hb dX2_init_14 rfl (lv_at hl 0 rfl) ?_
  refine lv_aloadN hx hb dX2_init_15 (lv_at hl 4 rfl) ?_
  refine k_putF (C := RX2) (T := TX2) (N := 9) (ci := 7) (v := .null) (ws' := [(pa, .inr (7, [.int 115, .null, .null, .null, .int 0, .int 0, .int 0, .null, .int 0]))]) hx hb hts ws_c_X2_init_0 tyX2 tyX2_ok nmX2 hown hh 0 rfl rfl 3 (by decide) (hts _ (wo_c_X2_init_in _ (List.mem_of_getElem? (i := 5) rfl))) rfl hin rfl rfl rfl (Nat.le_of_ble_eq_true rfl) dX2_init_17 rfl (fun H locs hh => ?_)
  refine lv_aload_n hx hb dX2_init_20 rfl (lv_at hl 0 rfl) ?_
  refine lv_iload hx hb dX2_init_21 (lv_at hl 5 rfl) ?_
  refine k_putF (C := RX2) (T := TX2) (N := 9) (ci := 7) (v := .int 0) (ws' := [(pa, .inr (7, [.int 115, .null, .null, .null, .int 0, .int 0, .int 0, .null, .int 0]))]) hx hb hts ws_c_X2_init_0 tyX2 tyX2_ok nmX2 hown hh 0 rfl rfl 4 (by decide) (hts _ (wo_c_X2_init_in _ (List.mem_of_getElem? (i := 6) rfl))) rfl hin rfl rfl rfl (Nat.le_of_ble_eq_true rfl) dX2_init_23 rfl (fun H locs hh => ?_)
  refine lv_aload_n hx hb dX2_init_26 rfl (lv_at hl 0 rfl) ?_
  refine lv_iload hx hb dX2_init_27 (lv_at hl 6 rfl) ?_
  refine k_putF (C := RX2) (T := TX2) (N := 9) (ci := 7) (v := .int 0) (ws' := [(pa, .inr (7, [.int 115, .null, .null, .null, .int 0, .int 0, .int 0, .null, .int 0]))]) hx hb hts ws_c_X2_init_0 tyX2 tyX2_ok nmX2 hown hh 0 rfl rfl 5 (by decide) (hts _ (wo_c_X2_init_in _ (List.mem_of_getElem? (i := 7) rfl))) rfl hin rfl rfl rfl (Nat.le_of_ble_eq_true rfl) dX2_init_29 rfl (fun H locs hh => ?_)
  refine lv_aload_n hx hb dX2_init_32 rfl (lv_at hl 0 rfl) ?_
  refine lv_iload hx hb dX2_init_33 (lv_at hl 7 rfl) ?_
  refine k_putF (C := RX2) (T := TX2) (N := 9) (ci := 7) (v := .int 0) (ws' := [(pa, .inr (7, [.int 115, .null, .null, .null, .int 0, .int 0, .int 0, .null, .int 0]))]) hx hb hts ws_c_X2_init_0 tyX2 tyX2_ok nmX2 hown hh 0 rfl rfl 6 (by decide) (hts _ (wo_c_X2_init_in _ (List.mem_of_getElem? (i := 8) rfl))) rfl hin rfl rfl rfl (Nat.le_of_ble_eq_true rfl) dX2_init_35 rfl (fun H locs hh => ?_)
  refine lv_aload_n hx hb dX2_init_38 rfl (lv_at hl 0 rfl) ?_
  refine lv_iload_n hx hb dX2_init_39 rfl (lv_at hl 2 rfl) ?_
  refine k_newa (atype := .int) (ty := .int) (N' := n) (a0 := (n, .inl (fun _ => 0))) hx hb (hts _ (wo_c_X2_init_in _ (List.mem_of_getElem? (i := 9) rfl))) rfl hh (fun cA => rfl) (nI_pos (by omega)) (nI_clamp (by omega)) (show _ * 4 ≤ 536870912 by omega) (Nat.le_of_ble_eq_true rfl) (by show _ ≤ (200 : Nat); omega) dX2_init_40 (fun q1 y2 H hh => ?_)
  have hh : kH D kStr e0 A s H [(pa, .inr (7, [.int 115, .null, .null, .null, .int 0, .int 0, .int 0, .null, .int 0])), (q1, .inl (y2, n, .inl (fun _ => 0)))] [(y2, .int)] _ := hh
  refine k_putF (C := RX2) (T := TX2) (N := 9) (ci := 7) (v := .ref q1) (ws' := [(pa, .inr (7, [.int 115, .ref q1, .null, .null, .int 0, .int 0, .int 0, .null, .int 0])), (q1, .inl (y2, n, .inl (fun _ => 0)))]) hx hb hts ws_c_X2_init_0 tyX2 tyX2_ok nmX2 hown hh 0 rfl rfl 1 (by decide) (hts _ (wo_c_X2_init_in _ (List.mem_of_getElem? (i := 10) rfl))) rfl hin rfl rfl rfl (Nat.le_of_ble_eq_true rfl) dX2_init_42 rfl (fun H locs hh => ?_)
  refine lv_aload_n hx hb dX2_init_45 rfl (lv_at hl 0 rfl) ?_
  refine lv_iload_n hx hb dX2_init_46 rfl (lv_at hl 1 rfl) ?_
  refine lv_bipush (v := 108) hx hb dX2_init_47 (by decide) ?_
  refine lv_icmp_eq (tgt := 58) hx hb dX2_init_49 (by decide) (fun c_49 => absurd c_49 (by decide)) (fun _ => ?_)
  refine lv_iload_n hx hb dX2_init_52 rfl (lv_at hl 1 rfl) ?_
  refine lv_bipush (v := 100) hx hb dX2_init_53 (by decide) ?_
  refine lv_icmp_ne (tgt := 62) hx hb dX2_init_55 (by decide) (fun _ => ?_) (fun c_55 => absurd c_55 (by decide))
  refine lv_iconst (v := 0) hx hb dX2_init_62 (by decide) ?_
  refine k_newa (atype := .int) (ty := .int) (N' := 0) (a0 := (0, .inl (fun _ => 0))) hx hb (hts _ (wo_c_X2_init_in _ (List.mem_of_getElem? (i := 9) rfl))) rfl hh (fun cA => rfl) (by decide) (by decide) (Nat.le_of_ble_eq_true rfl) (Nat.le_of_ble_eq_true rfl) (by show _ ≤ (200 : Nat); omega) dX2_init_63 (fun q3 y4 H hh => ?_)
  have hh : kH D kStr e0 A s H [(pa, .inr (7, [.int 115, .ref q1, .null, .null, .int 0, .int 0, .int 0, .null, .int 0])), (q1, .inl (y2, n, .inl (fun _ => 0))), (q3, .inl (y4, 0, .inl (fun _ => 0)))] [(y2, .int), (y4, .int)] _ := hh
  refine k_putF (C := RX2) (T := TX2) (N := 9) (ci := 7) (v := .ref q3) (ws' := [(pa, .inr (7, [.int 115, .ref q1, .null, .null, .int 0, .int 0, .int 0, .ref q3, .int 0])), (q1, .inl (y2, n, .inl (fun _ => 0))), (q3, .inl (y4, 0, .inl (fun _ => 0)))]) hx hb hts ws_c_X2_init_0 tyX2 tyX2_ok nmX2 hown hh 0 rfl rfl 7 (by decide) (hts _ (wo_c_X2_init_in _ (List.mem_of_getElem? (i := 11) rfl))) rfl hin rfl rfl rfl (Nat.le_of_ble_eq_true rfl) dX2_init_65 rfl (fun H locs hh => ?_)
  exact k_endV hx hb hr hlocks hh ⟨q1, q3, y2, y4, rfl, rfl, rfl⟩ [0, 1, 2] [0, 1] rfl rfl rfl (Nat.le_of_ble_eq_true rfl) (by show _ ≤ (200 : Nat); omega) dX2_init_68
def wo_c_X2_workedOut : List Cond := [Cond.fieldLink RX2 9 "Segueworks$Piece" "kind" "C"]
def wk_c_X2_workedOut : List Cond := Cond.code yX2_workedOut cX2_workedOut 2 (some .int) :: (wo_c_X2_workedOut ++ (u_ws RX2 TX2 9))
theorem wo_c_X2_workedOut_in : ∀ w ∈ wo_c_X2_workedOut, w ∈ wk_c_X2_workedOut := fun w h => List.mem_cons_of_mem _ (List.mem_append_left _ h)
theorem ws_c_X2_workedOut_0 : ∀ w ∈ u_ws RX2 TX2 9, w ∈ wk_c_X2_workedOut := fun w h => List.mem_cons_of_mem _ (List.mem_append_right _ h)
theorem gk_c_X2_workedOut : ∀ w ∈ wk_c_X2_workedOut, goodWord w = true := List.forall_mem_cons.mpr ⟨rfl, (List.forall_mem_append.mpr ⟨(show ∀ w ∈ wo_c_X2_workedOut, goodWord w = true by decide +kernel), (show ∀ w ∈ u_ws RX2 TX2 9, goodWord w = true by decide +kernel)⟩)⟩
set_option maxHeartbeats 4000000 in
set_option maxRecDepth 100000 in
theorem c_X2_workedOut (l : Launch) (hst : l.stackTraces = false) (D : va_G) (e0 : kE) (pa : Nat) (pb : Nat) (pc : Nat) (pw : Int32) (i : Int32)  : kM l yX2_workedOut wk_c_X2_workedOut 0 0 0 0 D kStr e0 [] [(pa, .inr (7, [.int 115, .ref pb, .null, .null, .int 0, .int 0, .int 0, .ref pc, .int pw]))] [.ref pa, .int i] (fun v w t => v = some (.int 0) ∧ w = [(pa, .inr (7, [.int 115, .ref pb, .null, .null, .int 0, .int 0, .int 0, .ref pc, .int pw]))] ∧ t = []) (fun _ => False) := by
  refine k_of (cc := cX2_workedOut) (maxL := 2) (ret := (some .int)) (by decide) rfl (Nat.le_of_ble_eq_true rfl) ?_
  intro p e s m args below meth c A ls hx hb hr hts hown hlocks hml hex hh hl
  have hown : s.vm.findClass RX2 = some m.cls := hown
  have hl : lv_has ls 2 [(0, .ref pa), (1, .int i)] := hl
  refine lv_aload_n hx hb dX2_workedOut_0 rfl (lv_at hl 0 rfl) ?_
  refine k_get (C := RX2) (T := TX2) (N := 9) (ci := 7) (v := .int 115) hx hb hts ws_c_X2_workedOut_0 hown hh 0 rfl rfl 0 (by decide) (hts _ (wo_c_X2_workedOut_in _ (List.mem_of_getElem? (i := 0) rfl))) rfl dX2_workedOut_1 ?_
  refine lv_tableIn (off := 185) (tgt := 189) hx hb dX2_workedOut_4 (by decide) (by decide) (by decide) (by decide) ?_
  refine lv_iconst (v := 0) hx hb dX2_workedOut_189 (by decide) ?_
  exact k_endi hx hb hr hlocks hh ⟨rfl, rfl, rfl⟩ [0] [] rfl rfl rfl (Nat.le_of_ble_eq_true rfl) (Nat.le_of_ble_eq_true rfl) dX2_workedOut_190
def wo_c_X2_fill : List Cond := [Cond.fieldLink RX2 32 "Segueworks$Piece" "samples" "[I", Cond.fieldLink RX2 35 "Segueworks$Piece" "carries" "[I", Cond.fieldLink RX2 45 "Segueworks$Piece" "width" "I"]
def wk_c_X2_fill : List Cond := Cond.code yX2_fill cX2_fill 2 none :: (wo_c_X2_fill ++ ((u_ws RX2 TX2 9) ++ ((wsV RX2 42 RX2 yX2_workedOut wk_c_X2_workedOut) ++ (va_wsS RX2 48 yX2_widthOf wk_c_X2_widthOf_0))))
theorem wo_c_X2_fill_in : ∀ w ∈ wo_c_X2_fill, w ∈ wk_c_X2_fill := fun w h => List.mem_cons_of_mem _ (List.mem_append_left _ h)
theorem ws_c_X2_fill_0 : ∀ w ∈ u_ws RX2 TX2 9, w ∈ wk_c_X2_fill := fun w h => List.mem_cons_of_mem _ (List.mem_append_right _ (List.mem_append_left _ h))
theorem gi_c_X2_fill_1 : GoodIn wk_c_X2_fill (wsV RX2 42 RX2 yX2_workedOut wk_c_X2_workedOut) := fun w h => ⟨List.mem_cons_of_mem _ (List.mem_append_right _ (List.mem_append_right _ (List.mem_append_left _ h))), good_of_word (kg_V gk_c_X2_workedOut w h)⟩
theorem gi_c_X2_fill_2 : GoodIn wk_c_X2_fill (va_wsS RX2 48 yX2_widthOf wk_c_X2_widthOf_0) := fun w h => ⟨List.mem_cons_of_mem _ (List.mem_append_right _ (List.mem_append_right _ (List.mem_append_right _ h))), good_of_word (kg_S gk_c_X2_widthOf_0 w h)⟩
theorem gk_c_X2_fill : ∀ w ∈ wk_c_X2_fill, goodWord w = true := List.forall_mem_cons.mpr ⟨rfl, (List.forall_mem_append.mpr ⟨(show ∀ w ∈ wo_c_X2_fill, goodWord w = true by decide +kernel), (List.forall_mem_append.mpr ⟨(show ∀ w ∈ u_ws RX2 TX2 9, goodWord w = true by decide +kernel), (List.forall_mem_append.mpr ⟨(kg_V gk_c_X2_workedOut), (kg_S gk_c_X2_widthOf_0)⟩)⟩)⟩)⟩
set_option maxHeartbeats 4000000 in
set_option maxRecDepth 100000 in
theorem lp_fill (l : Launch) (hst : l.stackTraces = false) {p : Program} {e : Env} {s : State} {m : MethodId} {args : Array Value} {below : List Frame} {meth : Method} {c : Code} {Q : State → Prop} {A : Nat → Prop} (hx : p.tables.exec = Jvm.exec) (hb : c.code = cX2_fill) (hts : ∀ w ∈ wk_c_X2_fill, w.before args s = true) (hown : s.vm.findClass RX2 = some m.cls) (hml : c.maxLocals = 2) (D : va_G) (e0 : kE) (pa pb pc : Nat) (py1 py2 : ClassId) (pf8 : Nat → Int32) (n : Nat) (hn : n ≤ 200) (kk : ∀ (pw : Int32) (pf9 : Nat → Int32) (H : Heap) (locs : List Loc) (ls : Array Slot), kH D kStr e0 A s H [(pa, .inr (7, [.int 115, .ref pb, .null, .null, .int 0, .int 0, .int 0, .ref pc, .int pw])), (pb, .inl (py1, n, .inl pf9)), (pc, .inl (py2, 0, .inl pf8))] [(py1, .int), (py2, .int)] locs → lv_has ls 2 [(1, .int (nI n)), (0, .ref pa)] → W p l e (kRm 3 200 0 0) s m args below meth c H locs 0 0 Q (F0 m 66 ls [])) : ∀ (k i : Nat) (pw : Int32) (pf9 : Nat → Int32) (H : Heap) (locs : List Loc) (ls : Array Slot), k + i = n → kH D kStr e0 A s H [(pa, .inr (7, [.int 115, .ref pb, .null, .null, .int 0, .int 0, .int 0, .ref pc, .int pw])), (pb, .inl (py1, n, .inl pf9)), (pc, .inl (py2, 0, .inl pf8))] [(py1, .int), (py2, .int)] locs → lv_has ls 2 [(1, .int (nI i)), (0, .ref pa)] → W p l e (kRm 3 200 0 0) s m args below meth c H locs 0 0 Q (F0 m 2 ls []) := by
  intro k
  induction k with
  | zero =>
    intro i pw pf9 H locs ls hi0 hh hl
    refine lv_iload_n hx hb dX2_fill_2 rfl (lv_at hl 0 rfl) ?_
    refine lv_aload_n hx hb dX2_fill_3 rfl (lv_at hl 1 rfl) ?_
    refine k_get (C := RX2) (T := TX2) (N := 9) (ci := 7) (v := .ref pb) hx hb hts ws_c_X2_fill_0 hown hh 0 rfl rfl 1 (by decide) (hts _ (wo_c_X2_fill_in _ (List.mem_of_getElem? (i := 0) rfl))) rfl dX2_fill_4 ?_
    refine k_alen (v := (nI n)) hx hb hh 1 0 rfl rfl rfl dX2_fill_7 ?_
    refine lv_icmp_ge (tgt := 66) hx hb dX2_fill_8 (by decide) (fun _ => ?_) (fun c_8 => absurd (nI_le (by omega) (by omega)) c_8)
    exact kk _ _ _ _ _ hh (by have e : i = n := (by omega); subst e; exact lv_sub hl [0, 1] rfl)
  | succ k ih =>
    intro i pw pf9 H locs ls hi0 hh hl
    have hi : i < n := by omega
    refine lv_iload_n hx hb dX2_fill_2 rfl (lv_at hl 0 rfl) ?_
    refine lv_aload_n hx hb dX2_fill_3 rfl (lv_at hl 1 rfl) ?_
    refine k_get (C := RX2) (T := TX2) (N := 9) (ci := 7) (v := .ref pb) hx hb hts ws_c_X2_fill_0 hown hh 0 rfl rfl 1 (by decide) (hts _ (wo_c_X2_fill_in _ (List.mem_of_getElem? (i := 0) rfl))) rfl dX2_fill_4 ?_
    refine k_alen (v := (nI n)) hx hb hh 1 0 rfl rfl rfl dX2_fill_7 ?_
    refine lv_icmp_ge (tgt := 66) hx hb dX2_fill_8 (by decide) (fun c_8 => absurd c_8 (nI_ge hi (by omega))) (fun _ => ?_)
    refine lv_iload_n hx hb dX2_fill_11 rfl (lv_at hl 0 rfl) ?_
    refine lv_aload_n hx hb dX2_fill_12 rfl (lv_at hl 1 rfl) ?_
    refine k_get (C := RX2) (T := TX2) (N := 9) (ci := 7) (v := .ref pc) hx hb hts ws_c_X2_fill_0 hown hh 0 rfl rfl 7 (by decide) (hts _ (wo_c_X2_fill_in _ (List.mem_of_getElem? (i := 1) rfl))) rfl dX2_fill_13 ?_
    refine k_alen (v := 0) hx hb hh 2 1 rfl rfl rfl dX2_fill_16 ?_
    refine lv_icmp_ge (tgt := 31) hx hb dX2_fill_17 (by decide) (fun _ => ?_) (fun c_17 => absurd (nI_pos' (by omega)) c_17)
    refine lv_aload_n hx hb dX2_fill_31 rfl (lv_at hl 1 rfl) ?_
    refine k_get (C := RX2) (T := TX2) (N := 9) (ci := 7) (v := .ref pb) hx hb hts ws_c_X2_fill_0 hown hh 0 rfl rfl 1 (by decide) (hts _ (wo_c_X2_fill_in _ (List.mem_of_getElem? (i := 0) rfl))) rfl dX2_fill_32 ?_
    refine lv_iload_n hx hb dX2_fill_35 rfl (lv_at hl 0 rfl) ?_
    refine lv_aload_n hx hb dX2_fill_36 rfl (lv_at hl 1 rfl) ?_
    refine lv_iload_n hx hb dX2_fill_37 rfl (lv_at hl 0 rfl) ?_
    refine k_callV (C := RX2) (T := TX2) (N := 9) (ci := 7) (q0 := 0) (wr := [(pb, .inl (py1, n, .inl pf9)), (pc, .inl (py2, 0, .inl pf8))]) (rest := [.int (nI i), .ref pb]) (own := RX2) ⟨hx, hb, hml, hown, hts⟩ (c_X2_workedOut l hst D e0 pa pb pc pw ((nI i)) ) (cwV 1 hts gi_c_X2_fill_1 rfl rfl rfl (by decide +kernel) ⟨Nat.le_of_ble_eq_true rfl, Nat.le_of_ble_eq_true rfl⟩) hh rfl rfl [0] [1, 2] [] rfl rfl rfl rfl (by decide) rfl rfl hl rfl (Nat.le_of_ble_eq_true rfl) dX2_fill_38 ⟨Nat.le_of_ble_eq_true rfl, (Nat.le_of_ble_eq_true rfl)⟩ (fun _ _ _ _ _ h => h.elim) (fun v w ty1 H locs hp hh => ?_)
    obtain ⟨rfl, rfl, rfl⟩ := hp
    have hh : kH D kStr e0 A s H [(pb, .inl (py1, n, .inl pf9)), (pc, .inl (py2, 0, .inl pf8)), (pa, .inr (7, [.int 115, .ref pb, .null, .null, .int 0, .int 0, .int 0, .ref pc, .int pw]))] [(py1, .int), (py2, .int)] _ := hh
    refine W.eq (g2 := F0 m 41 ls [.int 0, .int (nI i), .ref pb]) (by first | rfl | decide) ?_
    refine k_iast (ws' := [(pb, .inl (py1, n, .inl (upd (pf9) ((nI i) : Int32).toNatClampNeg 0))), (pc, .inl (py2, 0, .inl pf8)), (pa, .inr (7, [.int 115, .ref pb, .null, .null, .int 0, .int 0, .int 0, .ref pc, .int pw]))]) hx hb hh 0 0 rfl rfl (vp_in_nI hi (by omega)) dX2_fill_41 rfl (fun H locs hh => ?_)
    refine lv_aload_n hx hb dX2_fill_42 rfl (lv_at hl 1 rfl) ?_
    refine lv_dup hx hb dX2_fill_43 rfl ?_
    refine k_get (C := RX2) (T := TX2) (N := 9) (ci := 7) (v := .int pw) hx hb hts ws_c_X2_fill_0 hown hh 2 rfl rfl 8 (by decide) (hts _ (wo_c_X2_fill_in _ (List.mem_of_getElem? (i := 2) rfl))) rfl dX2_fill_44 ?_
    refine lv_aload_n hx hb dX2_fill_47 rfl (lv_at hl 1 rfl) ?_
    refine k_get (C := RX2) (T := TX2) (N := 9) (ci := 7) (v := .ref pb) hx hb hts ws_c_X2_fill_0 hown hh 2 rfl rfl 1 (by decide) (hts _ (wo_c_X2_fill_in _ (List.mem_of_getElem? (i := 0) rfl))) rfl dX2_fill_48 ?_
    refine lv_iload_n hx hb dX2_fill_51 rfl (lv_at hl 0 rfl) ?_
    refine k_iald (v := 0) hx hb hh 0 0 rfl rfl (vp_in_nI hi (by omega)) (by simp [upd]) dX2_fill_52 ?_
    refine k_callS (wr := [(pb, .inl (py1, n, .inl (upd (pf9) ((nI i) : Int32).toNatClampNeg 0))), (pc, .inl (py2, 0, .inl pf8)), (pa, .inr (7, [.int 115, .ref pb, .null, .null, .int 0, .int 0, .int 0, .ref pc, .int pw]))]) (rest := [.int pw, .ref pa]) (own := RX2) ⟨hx, hb, hml, hown, hts⟩ (c_X2_widthOf_0 l hst D e0  ) (va_cwS 1 hts gi_c_X2_fill_2 rfl rfl rfl (by decide +kernel) ⟨Nat.le_of_ble_eq_true rfl, Nat.le_of_ble_eq_true rfl⟩) hh [] [0, 1, 2] [] rfl rfl rfl rfl (by decide) rfl rfl hl rfl (Nat.le_of_ble_eq_true rfl) dX2_fill_53 ⟨Nat.le_of_ble_eq_true rfl, (Nat.le_of_ble_eq_true rfl)⟩ (fun _ _ _ _ _ h => h.elim) (fun v w ty1 H locs hp hh => ?_)
    obtain ⟨rfl, rfl, rfl⟩ := hp
    have hh : kH D kStr e0 A s H [(pb, .inl (py1, n, .inl (upd (pf9) ((nI i) : Int32).toNatClampNeg 0))), (pc, .inl (py2, 0, .inl pf8)), (pa, .inr (7, [.int 115, .ref pb, .null, .null, .int 0, .int 0, .int 0, .ref pc, .int pw]))] [(py1, .int), (py2, .int)] _ := hh
    refine W.eq (g2 := F0 m 56 ls [.int 2, .int pw, .ref pa]) (by first | rfl | decide) ?_
    refine lv_iadd hx hb dX2_fill_56 ?_
    refine k_put (C := RX2) (T := TX2) (N := 9) (ci := 7) (v := .int (pw + 2)) (ws' := [(pb, .inl (py1, n, .inl (upd (pf9) ((nI i) : Int32).toNatClampNeg 0))), (pc, .inl (py2, 0, .inl pf8)), (pa, .inr (7, [.int 115, .ref pb, .null, .null, .int 0, .int 0, .int 0, .ref pc, .int (pw + 2)]))]) hx hb hts ws_c_X2_fill_0 tyX2 tyX2_ok nmX2 hown hh 2 rfl rfl 8 (by decide) (hts _ (wo_c_X2_fill_in _ (List.mem_of_getElem? (i := 2) rfl))) rfl rfl rfl (Nat.le_of_ble_eq_true rfl) dX2_fill_57 rfl (fun H locs hh => ?_)
    refine lv_iinc (v := (nI (i + 1))) (lv' := [(1, .int (nI (i + 1))), (0, .ref pa)]) hx hb dX2_fill_60 hl (k := 0) rfl (nI_1 i) (by decide) rfl (fun ls hl => ?_)
    refine lv_goto (tgt := 2) hx hb dX2_fill_63 (by decide) ?_
    exact ih (i + 1) _ _ _ _ _ (by omega) (hh.sub [2, 0, 1] [0, 1] rfl rfl rfl) (lv_sub hl [0, 1] rfl)
set_option maxHeartbeats 4000000 in
set_option maxRecDepth 100000 in
theorem c_X2_fill (l : Launch) (hst : l.stackTraces = false) (D : va_G) (e0 : kE) (pa : Nat) (pb : Nat) (pc : Nat) (pw : Int32) (py1 : ClassId) (py2 : ClassId) (pf9 : Nat → Int32) (pf8 : Nat → Int32) (n : Nat) (hn : n ≤ 200) : kM l yX2_fill wk_c_X2_fill 3 200 0 0 D kStr e0 [(py1, .int), (py2, .int)] [(pa, .inr (7, [.int 115, .ref pb, .null, .null, .int 0, .int 0, .int 0, .ref pc, .int pw])), (pb, .inl (py1, n, .inl pf9)), (pc, .inl (py2, 0, .inl pf8))] [.ref pa] (fun v w t => ∃ (w1 : Int32), v = none ∧ w = [(pa, .inr (7, [.int 115, .ref pb, .null, .null, .int 0, .int 0, .int 0, .ref pc, .int w1]))] ∧ t = []) (fun _ => False) := by
  refine k_of (cc := cX2_fill) (maxL := 2) (ret := none) (by decide) rfl (Nat.le_of_ble_eq_true rfl) ?_
  intro p e s m args below meth c A ls hx hb hr hts hown hlocks hml hex hh hl
  have hown : s.vm.findClass RX2 = some m.cls := hown
  have hl : lv_has ls 2 [(0, .ref pa)] := hl
  refine lv_iconst (v := 0) hx hb dX2_fill_0 (by decide) ?_
  refine lv_istore_n (lv' := [(1, .int 0), (0, .ref pa)]) hx hb dX2_fill_1 rfl hl (by decide) rfl (fun ls hl => ?_)
  refine lp_fill l hst hx hb hts hown hml D e0 pa pb pc py1 py2 pf8 n hn (fun w1 pf9 H locs ls hh hl => ?_) n 0 _ _ _ _ _ (by omega) hh (lv_sub hl [0, 1] rfl)
  exact k_endv hx hb hr hlocks hh ⟨w1, rfl, rfl, rfl⟩ [0] [] rfl rfl rfl (Nat.le_of_ble_eq_true rfl) (Nat.le_of_ble_eq_true rfl) dX2_fill_66
def wo_c_X6_keep : List Cond := [Cond.fieldLink RX6 17 "Segueworks" "pieces" "[LSegueworks$Piece;", Cond.fieldLink RX6 340 "Segueworks" "pieceCount" "I"]
def wk_c_X6_keep : List Cond := Cond.code yX6_keep cX6_keep 2 (some .int) :: (wo_c_X6_keep ++ ((wsV RX6 366 RX2 yX2_fill wk_c_X2_fill) ++ (u_ws RX6 TX6 8)))
theorem wo_c_X6_keep_in : ∀ w ∈ wo_c_X6_keep, w ∈ wk_c_X6_keep := fun w h => List.mem_cons_of_mem _ (List.mem_append_left _ h)
theorem gi_c_X6_keep_0 : GoodIn wk_c_X6_keep (wsV RX6 366 RX2 yX2_fill wk_c_X2_fill) := fun w h => ⟨List.mem_cons_of_mem _ (List.mem_append_right _ (List.mem_append_left _ h)), good_of_word (kg_V gk_c_X2_fill w h)⟩
theorem ws_c_X6_keep_1 : ∀ w ∈ u_ws RX6 TX6 8, w ∈ wk_c_X6_keep := fun w h => List.mem_cons_of_mem _ (List.mem_append_right _ (List.mem_append_right _ h))
theorem gk_c_X6_keep : ∀ w ∈ wk_c_X6_keep, goodWord w = true := List.forall_mem_cons.mpr ⟨rfl, (List.forall_mem_append.mpr ⟨(show ∀ w ∈ wo_c_X6_keep, goodWord w = true by decide +kernel), (List.forall_mem_append.mpr ⟨(kg_V gk_c_X2_fill), (show ∀ w ∈ u_ws RX6 TX6 8, goodWord w = true by decide +kernel)⟩)⟩)⟩
set_option maxHeartbeats 4000000 in
set_option maxRecDepth 100000 in
theorem c_X6_keep (l : Launch) (hst : l.stackTraces = false) (D : va_G) (e0 : kE) (pa : Nat) (prl : Nat) (ppc : Nat) (ppg : Nat) (ppl : Nat) (ped : Nat) (py9 : ClassId) (pf7 : Nat → Option Nat) (pq : Nat) (pb : Nat) (pc : Nat) (pw : Int32) (py1 : ClassId) (py2 : ClassId) (pf9 : Nat → Int32) (pf8 : Nat → Int32) (n : Nat) (hn : n ≤ 200) : kM l yX6_keep wk_c_X6_keep 4 221 0 0 D kStr e0 [(py9, .object "Segueworks$Piece"), (py1, .int), (py2, .int)] [(pa, .inr (11, [.ref prl, .int 0, .ref ppc, .int 0, .ref ppg, .ref ppl, .ref ped, .int 0])), (ppc, .inl (py9, 24, .inr (.inr (.inr (.inr pf7))))), (pq, .inr (7, [.int 115, .ref pb, .null, .null, .int 0, .int 0, .int 0, .ref pc, .int pw])), (pb, .inl (py1, n, .inl pf9)), (pc, .inl (py2, 0, .inl pf8))] [.ref pa, .ref pq] (fun v w t => v = some (.int 0) ∧ w = [(pa, .inr (11, [.ref prl, .int 0, .ref ppc, .int 1, .ref ppg, .ref ppl, .ref ped, .int 0]))] ∧ t = []) (fun _ => False) := by
  refine k_of (cc := cX6_keep) (maxL := 2) (ret := (some .int)) (by decide) rfl (Nat.le_of_ble_eq_true rfl) ?_
  intro p e s m args below meth c A ls hx hb hr hts hown hlocks hml hex hh hl
  have hown : s.vm.findClass RX6 = some m.cls := hown
  have hl : lv_has ls 2 [(0, .ref pa), (1, .ref pq)] := hl
  refine lv_aload_n hx hb dX6_keep_0 rfl (lv_at hl 1 rfl) ?_
  refine k_callV (C := RX2) (T := TX2) (N := 9) (ci := 7) (q0 := 2) (wr := [(pa, .inr (11, [.ref prl, .int 0, .ref ppc, .int 0, .ref ppg, .ref ppl, .ref ped, .int 0])), (ppc, .inl (py9, 24, .inr (.inr (.inr (.inr pf7)))))]) (rest := []) (own := RX6) ⟨hx, hb, hml, hown, hts⟩ (c_X2_fill l hst D e0 pq pb pc pw py1 py2 pf9 pf8 n hn) (cwV 0 hts gi_c_X6_keep_0 rfl rfl rfl (by decide +kernel) ⟨Nat.le_of_ble_eq_true rfl, Nat.le_of_ble_eq_true rfl⟩) hh rfl rfl [2, 3, 4] [0, 1] [1, 2] rfl rfl rfl rfl (by decide) rfl rfl hl rfl (Nat.le_of_ble_eq_true rfl) dX6_keep_1 ⟨Nat.le_of_ble_eq_true rfl, (Nat.le_of_ble_eq_true rfl)⟩ (fun _ _ _ _ _ h => h.elim) (fun v w ty1 H locs hp hh => ?_)
  obtain ⟨w1, rfl, rfl, rfl⟩ := hp
  have hh : kH D kStr e0 A s H [(pa, .inr (11, [.ref prl, .int 0, .ref ppc, .int 0, .ref ppg, .ref ppl, .ref ped, .int 0])), (ppc, .inl (py9, 24, .inr (.inr (.inr (.inr pf7))))), (pq, .inr (7, [.int 115, .ref pb, .null, .null, .int 0, .int 0, .int 0, .ref pc, .int w1]))] [(py9, .object "Segueworks$Piece"), (py1, .int), (py2, .int)] _ := hh
  refine W.eq (g2 := F0 m 4 ls []) (by first | rfl | decide) ?_
  refine lv_aload_n hx hb dX6_keep_4 rfl (lv_at hl 0 rfl) ?_
  refine k_get (C := RX6) (T := TX6) (N := 8) (ci := 11) (v := .ref ppc) hx hb hts ws_c_X6_keep_1 hown hh 0 rfl rfl 2 (by decide) (hts _ (wo_c_X6_keep_in _ (List.mem_of_getElem? (i := 0) rfl))) rfl dX6_keep_5 ?_
  refine lv_aload_n hx hb dX6_keep_8 rfl (lv_at hl 0 rfl) ?_
  refine k_get (C := RX6) (T := TX6) (N := 8) (ci := 11) (v := .int 0) hx hb hts ws_c_X6_keep_1 hown hh 0 rfl rfl 3 (by decide) (hts _ (wo_c_X6_keep_in _ (List.mem_of_getElem? (i := 1) rfl))) rfl dX6_keep_9 ?_
  refine lv_aload_n hx hb dX6_keep_12 rfl (lv_at hl 1 rfl) ?_
  refine k_astq (ws' := [(pa, .inr (11, [.ref prl, .int 0, .ref ppc, .int 0, .ref ppg, .ref ppl, .ref ped, .int 0])), (ppc, .inl (py9, 24, .inr (.inr (.inr (.inr (va_up (pf7) (0 : Int32).toNatClampNeg (some pq))))))), (pq, .inr (7, [.int 115, .ref pb, .null, .null, .int 0, .int 0, .int 0, .ref pc, .int w1]))]) hx hb hh 1 0 2 7 rfl rfl rfl rfl (by unfold vp_in; decide) dX6_keep_13 rfl (fun H locs hh => ?_)
  refine lv_aload_n hx hb dX6_keep_14 rfl (lv_at hl 0 rfl) ?_
  refine lv_dup hx hb dX6_keep_15 rfl ?_
  refine k_get (C := RX6) (T := TX6) (N := 8) (ci := 11) (v := .int 0) hx hb hts ws_c_X6_keep_1 hown hh 0 rfl rfl 3 (by decide) (hts _ (wo_c_X6_keep_in _ (List.mem_of_getElem? (i := 1) rfl))) rfl dX6_keep_16 ?_
  refine lv_iconst (v := 1) hx hb dX6_keep_19 (by decide) ?_
  refine lv_iadd hx hb dX6_keep_20 ?_
  refine W.eq (g2 := F0 m 21 ls [.int 1, .ref pa]) (by first | rfl | decide) ?_
  refine k_put (C := RX6) (T := TX6) (N := 8) (ci := 11) (v := .int 1) (ws' := [(pa, .inr (11, [.ref prl, .int 0, .ref ppc, .int 1, .ref ppg, .ref ppl, .ref ped, .int 0])), (ppc, .inl (py9, 24, .inr (.inr (.inr (.inr (va_up (pf7) (0 : Int32).toNatClampNeg (some pq))))))), (pq, .inr (7, [.int 115, .ref pb, .null, .null, .int 0, .int 0, .int 0, .ref pc, .int w1]))]) hx hb hts ws_c_X6_keep_1 tyX6 tyX6_ok nmX6 hown hh 0 rfl rfl 3 (by decide) (hts _ (wo_c_X6_keep_in _ (List.mem_of_getElem? (i := 1) rfl))) rfl rfl rfl (Nat.le_of_ble_eq_true rfl) dX6_keep_21 rfl (fun H locs hh => ?_)
  refine lv_aload_n hx hb dX6_keep_24 rfl (lv_at hl 0 rfl) ?_
  refine k_get (C := RX6) (T := TX6) (N := 8) (ci := 11) (v := .int 1) hx hb hts ws_c_X6_keep_1 hown hh 0 rfl rfl 3 (by decide) (hts _ (wo_c_X6_keep_in _ (List.mem_of_getElem? (i := 1) rfl))) rfl dX6_keep_25 ?_
  refine lv_iconst (v := 1) hx hb dX6_keep_28 (by decide) ?_
  refine lv_isub hx hb dX6_keep_29 ?_
  refine W.eq (g2 := F0 m 30 ls [.int 0]) (by first | rfl | decide) ?_
  exact k_endi hx hb hr hlocks hh ⟨rfl, rfl, rfl⟩ [0] [] rfl rfl rfl (Nat.le_of_ble_eq_true rfl) (Nat.le_of_ble_eq_true rfl) dX6_keep_30
def wo_c_X6_needPieceRoom : List Cond := [Cond.fieldLink RX6 340 "Segueworks" "pieceCount" "I"]
def wk_c_X6_needPieceRoom : List Cond := Cond.code yX6_needPieceRoom cX6_needPieceRoom 1 none :: (wo_c_X6_needPieceRoom ++ (u_ws RX6 TX6 8))
theorem wo_c_X6_needPieceRoom_in : ∀ w ∈ wo_c_X6_needPieceRoom, w ∈ wk_c_X6_needPieceRoom := fun w h => List.mem_cons_of_mem _ (List.mem_append_left _ h)
theorem ws_c_X6_needPieceRoom_0 : ∀ w ∈ u_ws RX6 TX6 8, w ∈ wk_c_X6_needPieceRoom := fun w h => List.mem_cons_of_mem _ (List.mem_append_right _ h)
theorem gk_c_X6_needPieceRoom : ∀ w ∈ wk_c_X6_needPieceRoom, goodWord w = true := List.forall_mem_cons.mpr ⟨rfl, (List.forall_mem_append.mpr ⟨(show ∀ w ∈ wo_c_X6_needPieceRoom, goodWord w = true by decide +kernel), (show ∀ w ∈ u_ws RX6 TX6 8, goodWord w = true by decide +kernel)⟩)⟩
set_option maxHeartbeats 4000000 in
set_option maxRecDepth 100000 in
theorem c_X6_needPieceRoom (l : Launch) (hst : l.stackTraces = false) (D : va_G) (e0 : kE) (pa : Nat) (prl : Nat) (ppc : Nat) (ppg : Nat) (ppl : Nat) (ped : Nat)  : kM l yX6_needPieceRoom wk_c_X6_needPieceRoom 0 0 0 0 D kStr e0 [] [(pa, .inr (11, [.ref prl, .int 0, .ref ppc, .int 0, .ref ppg, .ref ppl, .ref ped, .int 0]))] [.ref pa] (fun v w t => v = none ∧ w = [(pa, .inr (11, [.ref prl, .int 0, .ref ppc, .int 0, .ref ppg, .ref ppl, .ref ped, .int 0]))] ∧ t = []) (fun _ => False) := by
  refine k_of (cc := cX6_needPieceRoom) (maxL := 1) (ret := none) (by decide) rfl (Nat.le_of_ble_eq_true rfl) ?_
  intro p e s m args below meth c A ls hx hb hr hts hown hlocks hml hex hh hl
  have hown : s.vm.findClass RX6 = some m.cls := hown
  have hl : lv_has ls 1 [(0, .ref pa)] := hl
  refine lv_aload_n hx hb dX6_needPieceRoom_0 rfl (lv_at hl 0 rfl) ?_
  refine k_get (C := RX6) (T := TX6) (N := 8) (ci := 11) (v := .int 0) hx hb hts ws_c_X6_needPieceRoom_0 hown hh 0 rfl rfl 3 (by decide) (hts _ (wo_c_X6_needPieceRoom_in _ (List.mem_of_getElem? (i := 0) rfl))) rfl dX6_needPieceRoom_1 ?_
  refine lv_bipush (v := 24) hx hb dX6_needPieceRoom_4 (by decide) ?_
  refine lv_icmp_lt (tgt := 20) hx hb dX6_needPieceRoom_6 (by decide) (fun _ => ?_) (fun c_6 => absurd (by decide) c_6)
  exact k_endv hx hb hr hlocks hh ⟨rfl, rfl, rfl⟩ [0] [] rfl rfl rfl (Nat.le_of_ble_eq_true rfl) (Nat.le_of_ble_eq_true rfl) dX6_needPieceRoom_20
def wo_c_X6_silence : List Cond := [Cond.classLink RX6 15 RX2, Cond.instantiable RX2 9, Cond.initialized RX2, Cond.methodLink RX6 92 yX2_init, Cond.instanceMethod yX2_init]
def wk_c_X6_silence : List Cond := Cond.code yX6_silence cX6_silence 2 (some .int) :: (wo_c_X6_silence ++ ((va_wsS RX6 57 yX6_needRange wk_c_X6_needRange_ok) ++ ((wsV RX6 85 RX6 yX6_needPieceRoom wk_c_X6_needPieceRoom) ++ ((u_ws RX2 TX2 9) ++ ((wk_c_X2_init) ++ (wsV RX6 95 RX6 yX6_keep wk_c_X6_keep))))))
theorem wo_c_X6_silence_in : ∀ w ∈ wo_c_X6_silence, w ∈ wk_c_X6_silence := fun w h => List.mem_cons_of_mem _ (List.mem_append_left _ h)
theorem gi_c_X6_silence_0 : GoodIn wk_c_X6_silence (va_wsS RX6 57 yX6_needRange wk_c_X6_needRange_ok) := fun w h => ⟨List.mem_cons_of_mem _ (List.mem_append_right _ (List.mem_append_left _ h)), good_of_word (kg_S gk_c_X6_needRange_ok w h)⟩
theorem gi_c_X6_silence_1 : GoodIn wk_c_X6_silence (wsV RX6 85 RX6 yX6_needPieceRoom wk_c_X6_needPieceRoom) := fun w h => ⟨List.mem_cons_of_mem _ (List.mem_append_right _ (List.mem_append_right _ (List.mem_append_left _ h))), good_of_word (kg_V gk_c_X6_needPieceRoom w h)⟩
theorem ws_c_X6_silence_2 : ∀ w ∈ u_ws RX2 TX2 9, w ∈ wk_c_X6_silence := fun w h => List.mem_cons_of_mem _ (List.mem_append_right _ (List.mem_append_right _ (List.mem_append_right _ (List.mem_append_left _ h))))
theorem gi_c_X6_silence_3 : GoodIn wk_c_X6_silence (wk_c_X2_init) := fun w h => ⟨List.mem_cons_of_mem _ (List.mem_append_right _ (List.mem_append_right _ (List.mem_append_right _ (List.mem_append_right _ (List.mem_append_left _ h))))), good_of_word (gk_c_X2_init w h)⟩
theorem gi_c_X6_silence_4 : GoodIn wk_c_X6_silence (wsV RX6 95 RX6 yX6_keep wk_c_X6_keep) := fun w h => ⟨List.mem_cons_of_mem _ (List.mem_append_right _ (List.mem_append_right _ (List.mem_append_right _ (List.mem_append_right _ (List.mem_append_right _ h))))), good_of_word (kg_V gk_c_X6_keep w h)⟩
theorem gk_c_X6_silence : ∀ w ∈ wk_c_X6_silence, goodWord w = true := List.forall_mem_cons.mpr ⟨rfl, (List.forall_mem_append.mpr ⟨(show ∀ w ∈ wo_c_X6_silence, goodWord w = true by decide +kernel), (List.forall_mem_append.mpr ⟨(kg_S gk_c_X6_needRange_ok), (List.forall_mem_append.mpr ⟨(kg_V gk_c_X6_needPieceRoom), (List.forall_mem_append.mpr ⟨(show ∀ w ∈ u_ws RX2 TX2 9, goodWord w = true by decide +kernel), (List.forall_mem_append.mpr ⟨gk_c_X2_init, (kg_V gk_c_X6_keep)⟩)⟩)⟩)⟩)⟩)⟩
set_option maxHeartbeats 4000000 in
set_option maxRecDepth 100000 in
theorem c_X6_silence (l : Launch) (hst : l.stackTraces = false) (D : va_G) (e0 : kE) (pa : Nat) (prl : Nat) (ppc : Nat) (ppg : Nat) (ppl : Nat) (ped : Nat) (py9 : ClassId) (pf7 : Nat → Option Nat) (n : Nat) (hn1 : 1 ≤ n) (hn : n ≤ 200) : kM l yX6_silence wk_c_X6_silence 5 242 3 209 D kStr e0 [(py9, .object "Segueworks$Piece")] [(pa, .inr (11, [.ref prl, .int 0, .ref ppc, .int 0, .ref ppg, .ref ppl, .ref ped, .int 0])), (ppc, .inl (py9, 24, .inr (.inr (.inr (.inr pf7)))))] [.ref pa, .int (nI n)] (fun v w t => v = some (.int 0) ∧ w = [] ∧ t = []) (fun _ => False) := by
  refine k_of (cc := cX6_silence) (maxL := 2) (ret := (some .int)) (by decide) rfl (Nat.le_of_ble_eq_true rfl) ?_
  intro p e s m args below meth c A ls hx hb hr hts hown hlocks hml hex hh hl
  have hown : s.vm.findClass RX6 = some m.cls := hown
  have hl : lv_has ls 2 [(0, .ref pa), (1, .int (nI n))] := hl
  refine lv_iload_n hx hb dX6_silence_0 rfl (lv_at hl 1 rfl) ?_
  refine lv_iconst (v := 1) hx hb dX6_silence_1 (by decide) ?_
  refine lv_sipush (v := 200) hx hb dX6_silence_2 (by decide) ?_
  refine k_callS (wr := [(pa, .inr (11, [.ref prl, .int 0, .ref ppc, .int 0, .ref ppg, .ref ppl, .ref ped, .int 0])), (ppc, .inl (py9, 24, .inr (.inr (.inr (.inr pf7)))))]) (rest := []) (own := RX6) ⟨hx, hb, hml, hown, hts⟩ (c_X6_needRange_ok l hst D e0 ((nI n)) 1 200 ⟨nI_le (a := 1) hn1 (by omega), nI_le (b := 200) hn (by decide)⟩) (va_cwS 3 hts gi_c_X6_silence_0 rfl rfl rfl (by decide +kernel) ⟨Nat.le_of_ble_eq_true rfl, Nat.le_of_ble_eq_true rfl⟩) hh [] [0, 1] [] rfl rfl rfl rfl (by decide) rfl rfl hl rfl (Nat.le_of_ble_eq_true rfl) dX6_silence_5 ⟨Nat.le_of_ble_eq_true rfl, (Nat.le_of_ble_eq_true rfl)⟩ (fun _ _ _ _ _ h => h.elim) (fun v w ty1 H locs hp hh => ?_)
  obtain ⟨rfl, rfl, rfl⟩ := hp
  have hh : kH D kStr e0 A s H [(pa, .inr (11, [.ref prl, .int 0, .ref ppc, .int 0, .ref ppg, .ref ppl, .ref ped, .int 0])), (ppc, .inl (py9, 24, .inr (.inr (.inr (.inr pf7)))))] [(py9, .object "Segueworks$Piece")] _ := hh
  refine W.eq (g2 := F0 m 8 ls []) (by first | rfl | decide) ?_
  refine lv_aload_n hx hb dX6_silence_8 rfl (lv_at hl 0 rfl) ?_
  refine k_callV (C := RX6) (T := TX6) (N := 8) (ci := 11) (q0 := 0) (wr := [(ppc, .inl (py9, 24, .inr (.inr (.inr (.inr pf7)))))]) (rest := []) (own := RX6) ⟨hx, hb, hml, hown, hts⟩ (c_X6_needPieceRoom l hst D e0 pa prl ppc ppg ppl ped ) (cwV 0 hts gi_c_X6_silence_1 rfl rfl rfl (by decide +kernel) ⟨Nat.le_of_ble_eq_true rfl, Nat.le_of_ble_eq_true rfl⟩) hh rfl rfl [0] [1] [] rfl rfl rfl rfl (by decide) rfl rfl hl rfl (Nat.le_of_ble_eq_true rfl) dX6_silence_9 ⟨Nat.le_of_ble_eq_true rfl, (Nat.le_of_ble_eq_true rfl)⟩ (fun _ _ _ _ _ h => h.elim) (fun v w ty1 H locs hp hh => ?_)
  obtain ⟨rfl, rfl, rfl⟩ := hp
  have hh : kH D kStr e0 A s H [(ppc, .inl (py9, 24, .inr (.inr (.inr (.inr pf7))))), (pa, .inr (11, [.ref prl, .int 0, .ref ppc, .int 0, .ref ppg, .ref ppl, .ref ped, .int 0]))] [(py9, .object "Segueworks$Piece")] _ := hh
  refine W.eq (g2 := F0 m 12 ls []) (by first | rfl | decide) ?_
  refine lv_aload_n hx hb dX6_silence_12 rfl (lv_at hl 0 rfl) ?_
  refine k_new (C := RX2) (T := TX2) (N := 9) (ci := 7) (fs := [.int 0, .null, .null, .null, .int 0, .int 0, .int 0, .null, .int 0]) hx hb hts ws_c_X6_silence_2 tyX2 tyX2_ok hown (hts _ (wo_c_X6_silence_in _ (List.mem_of_getElem? (i := 0) rfl))) (hts _ (wo_c_X6_silence_in _ (List.mem_of_getElem? (i := 1) rfl))) (hts _ (wo_c_X6_silence_in _ (List.mem_of_getElem? (i := 2) rfl))) hh rfl (fun j hj => by rcases (show j = 0 ∨ j = 1 ∨ j = 2 ∨ j = 3 ∨ j = 4 ∨ j = 5 ∨ j = 6 ∨ j = 7 ∨ j = 8 by omega) with rfl | rfl | rfl | rfl | rfl | rfl | rfl | rfl | rfl <;> rfl) (Nat.le_of_ble_eq_true rfl) (Nat.le_of_ble_eq_true rfl) dX6_silence_13 (fun q1 H hh => ?_)
  have hh : kH D kStr e0 A s H [(ppc, .inl (py9, 24, .inr (.inr (.inr (.inr pf7))))), (pa, .inr (11, [.ref prl, .int 0, .ref ppc, .int 0, .ref ppg, .ref ppl, .ref ped, .int 0])), (q1, .inr (7, [.int 0, .null, .null, .null, .int 0, .int 0, .int 0, .null, .int 0]))] [(py9, .object "Segueworks$Piece")] _ := hh
  refine lv_dup hx hb dX6_silence_16 rfl ?_
  refine lv_bipush (v := 115) hx hb dX6_silence_17 (by decide) ?_
  refine lv_iload_n hx hb dX6_silence_19 rfl (lv_at hl 1 rfl) ?_
  refine lv_null hx hb dX6_silence_20 ?_
  refine lv_null hx hb dX6_silence_21 ?_
  refine lv_iconst (v := 0) hx hb dX6_silence_22 (by decide) ?_
  refine lv_iconst (v := 0) hx hb dX6_silence_23 (by decide) ?_
  refine lv_iconst (v := 0) hx hb dX6_silence_24 (by decide) ?_
  refine k_callI (wr := [(ppc, .inl (py9, 24, .inr (.inr (.inr (.inr pf7))))), (pa, .inr (11, [.ref prl, .int 0, .ref ppc, .int 0, .ref ppg, .ref ppl, .ref ped, .int 0]))]) (rest := [.ref q1, .ref pa]) (own := RX6) ⟨hx, hb, hml, hown, hts⟩ (c_X2_init l hst D e0 q1 n hn) (cwI 7 hts gi_c_X6_silence_3 rfl rfl rfl (hts _ (wo_c_X6_silence_in _ (List.mem_of_getElem? (i := 2) rfl))) (hts _ (wo_c_X6_silence_in _ (List.mem_of_getElem? (i := 3) rfl))) (hts _ (wo_c_X6_silence_in _ (List.mem_of_getElem? (i := 4) rfl))) rfl (by decide +kernel) ⟨Nat.le_of_ble_eq_true rfl, Nat.le_of_ble_eq_true rfl⟩) hh [2] [0, 1] [] rfl rfl rfl rfl (by decide) rfl rfl hl rfl (Nat.le_of_ble_eq_true rfl) dX6_silence_25 ⟨Nat.le_of_ble_eq_true rfl, (Nat.le_of_ble_eq_true rfl)⟩ (fun v w ty1 H locs hp hh => ?_)
  obtain ⟨q2, q3, y4, y5, rfl, rfl, rfl⟩ := hp
  have hh : kH D kStr e0 A s H [(ppc, .inl (py9, 24, .inr (.inr (.inr (.inr pf7))))), (pa, .inr (11, [.ref prl, .int 0, .ref ppc, .int 0, .ref ppg, .ref ppl, .ref ped, .int 0])), (q1, .inr (7, [.int 115, .ref q2, .null, .null, .int 0, .int 0, .int 0, .ref q3, .int 0])), (q2, .inl (y4, n, .inl (fun _ => 0))), (q3, .inl (y5, 0, .inl (fun _ => 0)))] [(py9, .object "Segueworks$Piece"), (y4, .int), (y5, .int)] _ := hh
  refine W.eq (g2 := F0 m 28 ls [.ref q1, .ref pa]) (by first | rfl | decide) ?_
  refine k_callV (C := RX6) (T := TX6) (N := 8) (ci := 11) (q0 := 1) (wr := []) (rest := []) (own := RX6) ⟨hx, hb, hml, hown, hts⟩ (c_X6_keep l hst D e0 pa prl ppc ppg ppl ped py9 pf7 q1 q2 q3 0 y4 y5 ((fun _ => 0)) ((fun _ => 0)) n hn) (cwV 1 hts gi_c_X6_silence_4 rfl rfl rfl (by decide +kernel) ⟨Nat.le_of_ble_eq_true rfl, Nat.le_of_ble_eq_true rfl⟩) hh rfl rfl [1, 0, 2, 3, 4] [] [0, 1, 2] rfl rfl rfl rfl (by decide) rfl rfl hl rfl (Nat.le_of_ble_eq_true rfl) dX6_silence_28 ⟨Nat.le_of_ble_eq_true rfl, (Nat.le_of_ble_eq_true rfl)⟩ (fun _ _ _ _ _ h => h.elim) (fun v w ty1 H locs hp hh => ?_)
  obtain ⟨rfl, rfl, rfl⟩ := hp
  have hh : kH D kStr e0 A s H [(pa, .inr (11, [.ref prl, .int 0, .ref ppc, .int 1, .ref ppg, .ref ppl, .ref ped, .int 0]))] [(py9, .object "Segueworks$Piece"), (y4, .int), (y5, .int)] _ := hh
  refine W.eq (g2 := F0 m 31 ls [.int 0]) (by first | rfl | decide) ?_
  exact k_endi hx hb hr hlocks hh ⟨rfl, rfl, rfl⟩ [] [] rfl rfl rfl (Nat.le_of_ble_eq_true rfl) (Nat.le_of_ble_eq_true rfl) dX6_silence_31
def wo_c_X9_init : List Cond := [Cond.methodLink RX9 1 objectInit, Cond.instanceMethod objectInit, Cond.code objectInit ⟨#[0xb1]⟩ 1 none, Cond.fieldLink RX9 7 "SegueworksModel$Piece" "kind" "C", Cond.fieldLink RX9 13 "SegueworksModel$Piece" "row" "[I"]
def wk_c_X9_init : List Cond := Cond.code yX9_init cX9_init 3 none :: (wo_c_X9_init ++ (u_ws RX9 TX9 2))
theorem wo_c_X9_init_in : ∀ w ∈ wo_c_X9_init, w ∈ wk_c_X9_init := fun w h => List.mem_cons_of_mem _ (List.mem_append_left _ h)
theorem ws_c_X9_init_0 : ∀ w ∈ u_ws RX9 TX9 2, w ∈ wk_c_X9_init := fun w h => List.mem_cons_of_mem _ (List.mem_append_right _ h)
theorem gk_c_X9_init : ∀ w ∈ wk_c_X9_init, goodWord w = true := List.forall_mem_cons.mpr ⟨rfl, (List.forall_mem_append.mpr ⟨(show ∀ w ∈ wo_c_X9_init, goodWord w = true by decide +kernel), (show ∀ w ∈ u_ws RX9 TX9 2, goodWord w = true by decide +kernel)⟩)⟩
set_option maxHeartbeats 4000000 in
set_option maxRecDepth 100000 in
theorem c_X9_init (l : Launch) (hst : l.stackTraces = false) (D : va_G) (e0 : kE) (pa : Nat) (pb : Nat)  : kI l yX9_init wk_c_X9_init 1 20 0 0 D kStr e0 [] [(pa, .inr (14, [.int 0, .null]))] [.ref pa, .int 115, .ref pb] (fun v w t => v = none ∧ w = [(pa, .inr (14, [.int 115, .ref pb]))] ∧ t = []) := by
  refine k_ofI (cc := cX9_init) (maxL := 3) (ret := none) (by decide) rfl (Nat.le_of_ble_eq_true rfl) ?_
  intro p e s m args below meth c A ls hx hb hr hts hown hlocks hml hin hh hl
  have hown : s.vm.findClass RX9 = some m.cls := hown
  have hl : lv_has ls 3 [(0, .ref pa), (1, .int 115), (2, .ref pb)] := hl
  have hin : meth.name = "<init>" := hin
  refine lv_aload_n hx hb dX9_init_0 rfl (lv_at hl 0 rfl) ?_
  refine W.objInit hx hb hown (hts _ (wo_c_X9_init_in _ (List.mem_of_getElem? (i := 0) rfl))) (hts _ (wo_c_X9_init_in _ (List.mem_of_getElem? (i := 1) rfl))) (hts _ (wo_c_X9_init_in _ (List.mem_of_getElem? (i := 2) rfl))) rfl (by rw [hml]; exact hl.1) rfl dX9_init_1 (Nat.le_of_ble_eq_true rfl) (Nat.le_of_ble_eq_true rfl) ?_
  refine W.eq (g2 := F0 m 4 ls []) rfl ?_
  refine lv_aload_n hx hb dX9_init_4 rfl (lv_at hl 0 rfl) ?_
  refine lv_iload_n hx hb dX9_init_5 rfl (lv_at hl 1 rfl) ?_
  refine k_putF (C := RX9) (T := TX9) (N := 2) (ci := 14) (v := .int 115) (ws' := [(pa, .inr (14, [.int 115, .null]))]) hx hb hts ws_c_X9_init_0 tyX9 tyX9_ok nmX9 hown hh 0 rfl rfl 0 (by decide) (hts _ (wo_c_X9_init_in _ (List.mem_of_getElem? (i := 3) rfl))) rfl hin rfl rfl rfl (Nat.le_of_ble_eq_true rfl) dX9_init_6 rfl (fun H locs hh => ?_)
  refine lv_aload_n hx hb dX9_init_9 rfl (lv_at hl 0 rfl) ?_
  refine lv_aload_n hx hb dX9_init_10 rfl (lv_at hl 2 rfl) ?_
  refine k_putF (C := RX9) (T := TX9) (N := 2) (ci := 14) (v := .ref pb) (ws' := [(pa, .inr (14, [.int 115, .ref pb]))]) hx hb hts ws_c_X9_init_0 tyX9 tyX9_ok nmX9 hown hh 0 rfl rfl 1 (by decide) (hts _ (wo_c_X9_init_in _ (List.mem_of_getElem? (i := 4) rfl))) rfl hin rfl rfl rfl (Nat.le_of_ble_eq_true rfl) dX9_init_11 rfl (fun H locs hh => ?_)
  exact k_endV hx hb hr hlocks hh ⟨rfl, rfl, rfl⟩ [0] [] rfl rfl rfl (Nat.le_of_ble_eq_true rfl) (Nat.le_of_ble_eq_true rfl) dX9_init_14
def wo_c_X11_adds : List Cond := [Cond.fieldLink RX11 46 "SegueworksModel" "thrown" "I", Cond.fieldLink RX11 25 "SegueworksModel" "pieces" "Ljava/util/ArrayList;", Cond.classLink RX11 84 RX9, Cond.instantiable RX9 2, Cond.initialized RX9, Cond.methodLink RX11 94 yX9_init, Cond.instanceMethod yX9_init]
def wk_c_X11_adds : List Cond := Cond.code yX11_adds cX11_adds 5 (some .int) :: (wo_c_X11_adds ++ ((u_ws RX11 TX11 11) ++ ((wsV RX11 50 RJx4a65c yJx4a65c_size_8abf5 wk_c_size) ++ ((u_ws RX9 TX9 2) ++ ((wk_c_X9_init) ++ ((wsV RX11 58 RJx4a65c yJx4a65c_add_9ea2d wk_c_add_P) ++ (va_wsS RX11 90 yX11_held wk_c_X11_held_0)))))))
theorem wo_c_X11_adds_in : ∀ w ∈ wo_c_X11_adds, w ∈ wk_c_X11_adds := fun w h => List.mem_cons_of_mem _ (List.mem_append_left _ h)
theorem ws_c_X11_adds_0 : ∀ w ∈ u_ws RX11 TX11 11, w ∈ wk_c_X11_adds := fun w h => List.mem_cons_of_mem _ (List.mem_append_right _ (List.mem_append_left _ h))
theorem gi_c_X11_adds_1 : GoodIn wk_c_X11_adds (wsV RX11 50 RJx4a65c yJx4a65c_size_8abf5 wk_c_size) := fun w h => ⟨List.mem_cons_of_mem _ (List.mem_append_right _ (List.mem_append_right _ (List.mem_append_left _ h))), good_of_word (kg_V gk_c_size w h)⟩
theorem ws_c_X11_adds_2 : ∀ w ∈ u_ws RX9 TX9 2, w ∈ wk_c_X11_adds := fun w h => List.mem_cons_of_mem _ (List.mem_append_right _ (List.mem_append_right _ (List.mem_append_right _ (List.mem_append_left _ h))))
theorem gi_c_X11_adds_3 : GoodIn wk_c_X11_adds (wk_c_X9_init) := fun w h => ⟨List.mem_cons_of_mem _ (List.mem_append_right _ (List.mem_append_right _ (List.mem_append_right _ (List.mem_append_right _ (List.mem_append_left _ h))))), good_of_word (gk_c_X9_init w h)⟩
theorem gi_c_X11_adds_4 : GoodIn wk_c_X11_adds (wsV RX11 58 RJx4a65c yJx4a65c_add_9ea2d wk_c_add_P) := fun w h => ⟨List.mem_cons_of_mem _ (List.mem_append_right _ (List.mem_append_right _ (List.mem_append_right _ (List.mem_append_right _ (List.mem_append_right _ (List.mem_append_left _ h)))))), good_of_word (kg_V gk_c_add_P w h)⟩
theorem gi_c_X11_adds_5 : GoodIn wk_c_X11_adds (va_wsS RX11 90 yX11_held wk_c_X11_held_0) := fun w h => ⟨List.mem_cons_of_mem _ (List.mem_append_right _ (List.mem_append_right _ (List.mem_append_right _ (List.mem_append_right _ (List.mem_append_right _ (List.mem_append_right _ h)))))), good_of_word (kg_S gk_c_X11_held_0 w h)⟩
theorem gk_c_X11_adds : ∀ w ∈ wk_c_X11_adds, goodWord w = true := List.forall_mem_cons.mpr ⟨rfl, (List.forall_mem_append.mpr ⟨(show ∀ w ∈ wo_c_X11_adds, goodWord w = true by decide +kernel), (List.forall_mem_append.mpr ⟨(show ∀ w ∈ u_ws RX11 TX11 11, goodWord w = true by decide +kernel), (List.forall_mem_append.mpr ⟨(kg_V gk_c_size), (List.forall_mem_append.mpr ⟨(show ∀ w ∈ u_ws RX9 TX9 2, goodWord w = true by decide +kernel), (List.forall_mem_append.mpr ⟨gk_c_X9_init, (List.forall_mem_append.mpr ⟨(kg_V gk_c_add_P), (kg_S gk_c_X11_held_0)⟩)⟩)⟩)⟩)⟩)⟩)⟩
set_option maxHeartbeats 4000000 in
set_option maxRecDepth 100000 in
theorem lp_adds (l : Launch) (hst : l.stackTraces = false) {p : Program} {e : Env} {s : State} {m : MethodId} {args : Array Value} {below : List Frame} {meth : Method} {c : Code} {Q : State → Prop} {A : Nat → Prop} (hx : p.tables.exec = Jvm.exec) (hb : c.code = cX11_adds) (hts : ∀ w ∈ wk_c_X11_adds, w.before args s = true) (hown : s.vm.findClass RX11 = some m.cls) (hml : c.maxLocals = 5) (D : va_G) (e0 : kE) (pa pr pp pi pl pf pm ps pe pb : Nat) (py1 : ClassId) (a3 : Int32) (n : Nat) (hn : n ≤ 200) (kk : ∀ (pf9 : Nat → Int32) (hf : ∀ j, pf9 j = 0) (H : Heap) (locs : List Loc) (ls : Array Slot), kH D kStr e0 A s H [(pa, .inr (16, [.int 0, .ref pr, .ref pp, .ref pi, .ref pl, .ref pf, .ref pm, .ref ps, .ref pe, .int 0, .int 0])), (pp, .inr (4, [.int 0, .ref e0.1, .int 0])), (pb, .inl (py1, n, .inl pf9))] [(py1, .int)] locs → lv_has ls 5 [(4, .int (nI n)), (0, .ref pa), (1, .int 115), (2, .ref pb), (3, .int a3)] → W p l e (kRm 5 200 2 12) s m args below meth c H locs 0 0 Q (F0 m 71 ls [])) : ∀ (k i : Nat) (pf9 : Nat → Int32) (hf : ∀ j, pf9 j = 0) (H : Heap) (locs : List Loc) (ls : Array Slot), k + i = n → kH D kStr e0 A s H [(pa, .inr (16, [.int 0, .ref pr, .ref pp, .ref pi, .ref pl, .ref pf, .ref pm, .ref ps, .ref pe, .int 0, .int 0])), (pp, .inr (4, [.int 0, .ref e0.1, .int 0])), (pb, .inl (py1, n, .inl pf9))] [(py1, .int)] locs → lv_has ls 5 [(4, .int (nI i)), (0, .ref pa), (1, .int 115), (2, .ref pb), (3, .int a3)] → W p l e (kRm 5 200 2 12) s m args below meth c H locs 0 0 Q (F0 m 47 ls []) := by
  intro k
  induction k with
  | zero =>
    intro i pf9 hf H locs ls hi0 hh hl
    refine lv_iload hx hb dX11_adds_47 (lv_at hl 0 rfl) ?_
    refine lv_aload_n hx hb dX11_adds_49 rfl (lv_at hl 3 rfl) ?_
    refine k_alen (v := (nI n)) hx hb hh 2 0 rfl rfl rfl dX11_adds_50 ?_
    refine lv_icmp_ge (tgt := 71) hx hb dX11_adds_51 (by decide) (fun _ => ?_) (fun c_51 => absurd (nI_le (by omega) (by omega)) c_51)
    exact kk _ hf _ _ _ hh (by have e : i = n := (by omega); subst e; exact lv_sub hl [0, 1, 2, 3, 4] rfl)
  | succ k ih =>
    intro i pf9 hf H locs ls hi0 hh hl
    have hi : i < n := by omega
    refine lv_iload hx hb dX11_adds_47 (lv_at hl 0 rfl) ?_
    refine lv_aload_n hx hb dX11_adds_49 rfl (lv_at hl 3 rfl) ?_
    refine k_alen (v := (nI n)) hx hb hh 2 0 rfl rfl rfl dX11_adds_50 ?_
    refine lv_icmp_ge (tgt := 71) hx hb dX11_adds_51 (by decide) (fun c_51 => absurd c_51 (nI_ge hi (by omega))) (fun _ => ?_)
    refine lv_aload_n hx hb dX11_adds_54 rfl (lv_at hl 3 rfl) ?_
    refine lv_iload hx hb dX11_adds_55 (lv_at hl 0 rfl) ?_
    refine lv_aload_n hx hb dX11_adds_57 rfl (lv_at hl 3 rfl) ?_
    refine lv_iload hx hb dX11_adds_58 (lv_at hl 0 rfl) ?_
    refine k_iald (v := 0) hx hb hh 2 0 rfl rfl (vp_in_nI hi (by omega)) (hf _) dX11_adds_60 ?_
    refine k_callS (wr := [(pa, .inr (16, [.int 0, .ref pr, .ref pp, .ref pi, .ref pl, .ref pf, .ref pm, .ref ps, .ref pe, .int 0, .int 0])), (pp, .inr (4, [.int 0, .ref e0.1, .int 0])), (pb, .inl (py1, n, .inl pf9))]) (rest := [.int (nI i), .ref pb]) (own := RX11) ⟨hx, hb, hml, hown, hts⟩ (c_X11_held_0 l hst D e0  ) (va_cwS 1 hts gi_c_X11_adds_5 rfl rfl rfl (by decide +kernel) ⟨Nat.le_of_ble_eq_true rfl, Nat.le_of_ble_eq_true rfl⟩) hh [] [0, 1, 2] [] rfl rfl rfl rfl (by decide) rfl rfl hl rfl (Nat.le_of_ble_eq_true rfl) dX11_adds_61 ⟨Nat.le_of_ble_eq_true rfl, (Nat.le_of_ble_eq_true rfl)⟩ (fun _ _ _ _ _ h => h.elim) (fun v w ty1 H locs hp hh => ?_)
    obtain ⟨rfl, rfl, rfl⟩ := hp
    have hh : kH D kStr e0 A s H [(pa, .inr (16, [.int 0, .ref pr, .ref pp, .ref pi, .ref pl, .ref pf, .ref pm, .ref ps, .ref pe, .int 0, .int 0])), (pp, .inr (4, [.int 0, .ref e0.1, .int 0])), (pb, .inl (py1, n, .inl pf9))] [(py1, .int)] _ := hh
    refine W.eq (g2 := F0 m 64 ls [.int 0, .int (nI i), .ref pb]) (by first | rfl | decide) ?_
    refine k_iast (ws' := [(pa, .inr (16, [.int 0, .ref pr, .ref pp, .ref pi, .ref pl, .ref pf, .ref pm, .ref ps, .ref pe, .int 0, .int 0])), (pp, .inr (4, [.int 0, .ref e0.1, .int 0])), (pb, .inl (py1, n, .inl (upd (pf9) ((nI i) : Int32).toNatClampNeg 0)))]) hx hb hh 2 0 rfl rfl (vp_in_nI hi (by omega)) dX11_adds_64 rfl (fun H locs hh => ?_)
    refine lv_iinc (v := (nI (i + 1))) (lv' := [(4, .int (nI (i + 1))), (0, .ref pa), (1, .int 115), (2, .ref pb), (3, .int a3)]) hx hb dX11_adds_65 hl (k := 0) rfl (nI_1 i) (by decide) rfl (fun ls hl => ?_)
    refine lv_goto (tgt := 47) hx hb dX11_adds_68 (by decide) ?_
    exact ih (i + 1) _ (fun j => by simp only [upd]; split <;> first | rfl | exact hf j) _ _ _ (by omega) (hh.sub [0, 1, 2] [0] rfl rfl rfl) (lv_sub hl [0, 1, 2, 3, 4] rfl)
set_option maxHeartbeats 4000000 in
set_option maxRecDepth 100000 in
theorem c_X11_adds (l : Launch) (hst : l.stackTraces = false) (D : va_G) (e0 : kE) (pa : Nat) (pr : Nat) (pp : Nat) (pi : Nat) (pl : Nat) (pf : Nat) (pm : Nat) (ps : Nat) (pe : Nat) (pb : Nat) (py1 : ClassId) (pf9 : Nat → Int32) (n : Nat) (a3 : Int32) (hn : n ≤ 200) (hf : ∀ j, pf9 j = 0) : kM l yX11_adds wk_c_X11_adds 5 200 2 12 D kStr e0 [(py1, .int)] [(pa, .inr (16, [.int 0, .ref pr, .ref pp, .ref pi, .ref pl, .ref pf, .ref pm, .ref ps, .ref pe, .int 0, .int 0])), (pp, .inr (4, [.int 0, .ref e0.1, .int 0])), (pb, .inl (py1, n, .inl pf9))] [.ref pa, .int 115, .ref pb, .int a3] (fun v w t => v = some (.int 0) ∧ w = [(pa, .inr (16, [.int 0, .ref pr, .ref pp, .ref pi, .ref pl, .ref pf, .ref pm, .ref ps, .ref pe, .int 0, .int 0]))] ∧ t = []) (fun _ => False) := by
  refine k_of (cc := cX11_adds) (maxL := 5) (ret := (some .int)) (by decide) rfl (Nat.le_of_ble_eq_true rfl) ?_
  intro p e s m args below meth c A ls hx hb hr hts hown hlocks hml hex hh hl
  have hown : s.vm.findClass RX11 = some m.cls := hown
  have hl : lv_has ls 5 [(0, .ref pa), (1, .int 115), (2, .ref pb), (3, .int a3)] := hl
  refine lv_aload_n hx hb dX11_adds_0 rfl (lv_at hl 0 rfl) ?_
  refine lv_aload_n hx hb dX11_adds_1 rfl (lv_at hl 0 rfl) ?_
  refine k_get (C := RX11) (T := TX11) (N := 11) (ci := 16) (v := .int 0) hx hb hts ws_c_X11_adds_0 hown hh 0 rfl rfl 0 (by decide) (hts _ (wo_c_X11_adds_in _ (List.mem_of_getElem? (i := 0) rfl))) rfl dX11_adds_2 ?_
  refine lv_if_le (tgt := 15) hx hb dX11_adds_5 (by decide) (fun _ => ?_) (fun c_5 => absurd (by decide) c_5)
  refine lv_aload_n hx hb dX11_adds_15 rfl (lv_at hl 0 rfl) ?_
  refine k_get (C := RX11) (T := TX11) (N := 11) (ci := 16) (v := .ref pp) hx hb hts ws_c_X11_adds_0 hown hh 0 rfl rfl 2 (by decide) (hts _ (wo_c_X11_adds_in _ (List.mem_of_getElem? (i := 1) rfl))) rfl dX11_adds_16 ?_
  refine k_callV (C := RJx4a65c) (T := TJx4a65c) (N := 3) (ci := 4) (q0 := 1) (wr := [(pa, .inr (16, [.int 0, .ref pr, .ref pp, .ref pi, .ref pl, .ref pf, .ref pm, .ref ps, .ref pe, .int 0, .int 0])), (pb, .inl (py1, n, .inl pf9))]) (rest := [.ref pa]) (own := RX11) ⟨hx, hb, hml, hown, hts⟩ (c_size l hst D e0 pp 0 (.ref e0.1) 0 ) (cwV 0 hts gi_c_X11_adds_1 rfl rfl rfl (by decide +kernel) ⟨Nat.le_of_ble_eq_true rfl, Nat.le_of_ble_eq_true rfl⟩) hh rfl rfl [1] [0, 2] [] rfl rfl rfl rfl (by decide) rfl rfl hl rfl (Nat.le_of_ble_eq_true rfl) dX11_adds_19 ⟨Nat.le_of_ble_eq_true rfl, (Nat.le_of_ble_eq_true rfl)⟩ (fun _ _ _ _ _ h => h.elim) (fun v w ty1 H locs hp hh => ?_)
  obtain ⟨rfl, rfl, rfl⟩ := hp
  have hh : kH D kStr e0 A s H [(pa, .inr (16, [.int 0, .ref pr, .ref pp, .ref pi, .ref pl, .ref pf, .ref pm, .ref ps, .ref pe, .int 0, .int 0])), (pb, .inl (py1, n, .inl pf9)), (pp, .inr (4, [.int 0, .ref e0.1, .int 0]))] [(py1, .int)] _ := hh
  refine W.eq (g2 := F0 m 22 ls [.int 0, .ref pa]) (by first | rfl | decide) ?_
  refine lv_bipush (v := 24) hx hb dX11_adds_22 (by decide) ?_
  refine lv_icmp_ne (tgt := 31) hx hb dX11_adds_24 (by decide) (fun _ => ?_) (fun c_24 => absurd c_24 (by decide))
  refine lv_iconst (v := 0) hx hb dX11_adds_31 (by decide) ?_
  refine k_put (C := RX11) (T := TX11) (N := 11) (ci := 16) (v := .int 0) (ws' := [(pa, .inr (16, [.int 0, .ref pr, .ref pp, .ref pi, .ref pl, .ref pf, .ref pm, .ref ps, .ref pe, .int 0, .int 0])), (pb, .inl (py1, n, .inl pf9)), (pp, .inr (4, [.int 0, .ref e0.1, .int 0]))]) hx hb hts ws_c_X11_adds_0 tyX11 tyX11_ok nmX11 hown hh 0 rfl rfl 0 (by decide) (hts _ (wo_c_X11_adds_in _ (List.mem_of_getElem? (i := 0) rfl))) rfl rfl rfl (Nat.le_of_ble_eq_true rfl) dX11_adds_32 rfl (fun H locs hh => ?_)
  refine lv_aload_n hx hb dX11_adds_35 rfl (lv_at hl 0 rfl) ?_
  refine k_get (C := RX11) (T := TX11) (N := 11) (ci := 16) (v := .int 0) hx hb hts ws_c_X11_adds_0 hown hh 0 rfl rfl 0 (by decide) (hts _ (wo_c_X11_adds_in _ (List.mem_of_getElem? (i := 0) rfl))) rfl dX11_adds_36 ?_
  refine lv_if_le (tgt := 44) hx hb dX11_adds_39 (by decide) (fun _ => ?_) (fun c_39 => absurd (by decide) c_39)
  refine lv_iconst (v := 0) hx hb dX11_adds_44 (by decide) ?_
  refine lv_istore (lv' := [(4, .int 0), (0, .ref pa), (1, .int 115), (2, .ref pb), (3, .int a3)]) hx hb dX11_adds_45 hl (by decide) rfl (fun ls hl => ?_)
  refine lp_adds l hst hx hb hts hown hml D e0 pa pr pp pi pl pf pm ps pe pb py1 a3 n hn (fun pf9 hf H locs ls hh hl => ?_) n 0 _ hf _ _ _ (by omega) (hh.sub [0, 2, 1] [0] rfl rfl rfl) (lv_sub hl [0, 1, 2, 3, 4] rfl)
  refine lv_aload_n hx hb dX11_adds_71 rfl (lv_at hl 1 rfl) ?_
  refine k_get (C := RX11) (T := TX11) (N := 11) (ci := 16) (v := .ref pp) hx hb hts ws_c_X11_adds_0 hown hh 0 rfl rfl 2 (by decide) (hts _ (wo_c_X11_adds_in _ (List.mem_of_getElem? (i := 1) rfl))) rfl dX11_adds_72 ?_
  refine k_new (C := RX9) (T := TX9) (N := 2) (ci := 14) (fs := [.int 0, .null]) hx hb hts ws_c_X11_adds_2 tyX9 tyX9_ok hown (hts _ (wo_c_X11_adds_in _ (List.mem_of_getElem? (i := 2) rfl))) (hts _ (wo_c_X11_adds_in _ (List.mem_of_getElem? (i := 3) rfl))) (hts _ (wo_c_X11_adds_in _ (List.mem_of_getElem? (i := 4) rfl))) hh rfl (fun j hj => by rcases (show j = 0 ∨ j = 1 by omega) with rfl | rfl <;> rfl) (Nat.le_of_ble_eq_true rfl) (Nat.le_of_ble_eq_true rfl) dX11_adds_75 (fun q1 H hh => ?_)
  have hh : kH D kStr e0 A s H [(pa, .inr (16, [.int 0, .ref pr, .ref pp, .ref pi, .ref pl, .ref pf, .ref pm, .ref ps, .ref pe, .int 0, .int 0])), (pp, .inr (4, [.int 0, .ref e0.1, .int 0])), (pb, .inl (py1, n, .inl pf9)), (q1, .inr (14, [.int 0, .null]))] [(py1, .int)] _ := hh
  refine lv_dup hx hb dX11_adds_78 rfl ?_
  refine lv_iload_n hx hb dX11_adds_79 rfl (lv_at hl 2 rfl) ?_
  refine lv_aload_n hx hb dX11_adds_80 rfl (lv_at hl 3 rfl) ?_
  refine k_callI (wr := [(pa, .inr (16, [.int 0, .ref pr, .ref pp, .ref pi, .ref pl, .ref pf, .ref pm, .ref ps, .ref pe, .int 0, .int 0])), (pp, .inr (4, [.int 0, .ref e0.1, .int 0])), (pb, .inl (py1, n, .inl pf9))]) (rest := [.ref q1, .ref pp]) (own := RX11) ⟨hx, hb, hml, hown, hts⟩ (c_X9_init l hst D e0 q1 pb ) (cwI 2 hts gi_c_X11_adds_3 rfl rfl rfl (hts _ (wo_c_X11_adds_in _ (List.mem_of_getElem? (i := 4) rfl))) (hts _ (wo_c_X11_adds_in _ (List.mem_of_getElem? (i := 5) rfl))) (hts _ (wo_c_X11_adds_in _ (List.mem_of_getElem? (i := 6) rfl))) rfl (by decide +kernel) ⟨Nat.le_of_ble_eq_true rfl, Nat.le_of_ble_eq_true rfl⟩) hh [3] [0, 1, 2] [] rfl rfl rfl rfl (by decide) rfl rfl hl rfl (Nat.le_of_ble_eq_true rfl) dX11_adds_81 ⟨Nat.le_of_ble_eq_true rfl, (Nat.le_of_ble_eq_true rfl)⟩ (fun v w ty1 H locs hp hh => ?_)
  obtain ⟨rfl, rfl, rfl⟩ := hp
  have hh : kH D kStr e0 A s H [(pa, .inr (16, [.int 0, .ref pr, .ref pp, .ref pi, .ref pl, .ref pf, .ref pm, .ref ps, .ref pe, .int 0, .int 0])), (pp, .inr (4, [.int 0, .ref e0.1, .int 0])), (pb, .inl (py1, n, .inl pf9)), (q1, .inr (14, [.int 115, .ref pb]))] [(py1, .int)] _ := hh
  refine W.eq (g2 := F0 m 84 ls [.ref q1, .ref pp]) (by first | rfl | decide) ?_
  refine k_callV (C := RJx4a65c) (T := TJx4a65c) (N := 3) (ci := 4) (q0 := 1) (wr := [(pa, .inr (16, [.int 0, .ref pr, .ref pp, .ref pi, .ref pl, .ref pf, .ref pm, .ref ps, .ref pe, .int 0, .int 0])), (pb, .inl (py1, n, .inl pf9))]) (rest := []) (own := RX11) ⟨hx, hb, hml, hown, hts⟩ (c_add_P l hst D e0 pp q1 115 (.ref pb) ) (cwV 1 hts gi_c_X11_adds_4 rfl rfl rfl (by decide +kernel) ⟨Nat.le_of_ble_eq_true rfl, Nat.le_of_ble_eq_true rfl⟩) hh rfl rfl [1, 3] [0, 2] [] rfl rfl rfl rfl (by decide) rfl rfl hl rfl (Nat.le_of_ble_eq_true rfl) dX11_adds_84 ⟨Nat.le_of_ble_eq_true rfl, (Nat.le_of_ble_eq_true rfl)⟩ (fun _ _ _ _ _ h => h.elim) (fun v w ty1 H locs hp hh => ?_)
  obtain ⟨q2, y3, rfl, rfl, rfl⟩ := hp
  have hh : kH D kStr e0 A s H [(pa, .inr (16, [.int 0, .ref pr, .ref pp, .ref pi, .ref pl, .ref pf, .ref pm, .ref ps, .ref pe, .int 0, .int 0])), (pb, .inl (py1, n, .inl pf9)), (pp, .inr (4, [.int 1, .ref q2, .int 1])), (q2, .inl (y3, 10, .inr (.inr (.inr (.inr (va_up ((fun _ => none)) (0 : Int32).toNatClampNeg (some q1))))))), (q1, .inr (14, [.int 115, .ref pb]))] [(py1, .int), (y3, .object "java/lang/Object")] _ := hh
  refine W.eq (g2 := F0 m 87 ls [.int 1]) (by first | rfl | decide) ?_
  refine lv_pop hx hb dX11_adds_87 rfl ?_
  refine lv_aload_n hx hb dX11_adds_88 rfl (lv_at hl 1 rfl) ?_
  refine k_get (C := RX11) (T := TX11) (N := 11) (ci := 16) (v := .ref pp) hx hb hts ws_c_X11_adds_0 hown hh 0 rfl rfl 2 (by decide) (hts _ (wo_c_X11_adds_in _ (List.mem_of_getElem? (i := 1) rfl))) rfl dX11_adds_89 ?_
  refine k_callV (C := RJx4a65c) (T := TJx4a65c) (N := 3) (ci := 4) (q0 := 2) (wr := [(pa, .inr (16, [.int 0, .ref pr, .ref pp, .ref pi, .ref pl, .ref pf, .ref pm, .ref ps, .ref pe, .int 0, .int 0])), (pb, .inl (py1, n, .inl pf9)), (q2, .inl (y3, 10, .inr (.inr (.inr (.inr (va_up ((fun _ => none)) (0 : Int32).toNatClampNeg (some q1))))))), (q1, .inr (14, [.int 115, .ref pb]))]) (rest := []) (own := RX11) ⟨hx, hb, hml, hown, hts⟩ (c_size l hst D e0 pp 1 (.ref q2) 1 ) (cwV 0 hts gi_c_X11_adds_1 rfl rfl rfl (by decide +kernel) ⟨Nat.le_of_ble_eq_true rfl, Nat.le_of_ble_eq_true rfl⟩) hh rfl rfl [2] [0, 1, 3, 4] [] rfl rfl rfl rfl (by decide) rfl rfl hl rfl (Nat.le_of_ble_eq_true rfl) dX11_adds_92 ⟨Nat.le_of_ble_eq_true rfl, (Nat.le_of_ble_eq_true rfl)⟩ (fun _ _ _ _ _ h => h.elim) (fun v w ty1 H locs hp hh => ?_)
  obtain ⟨rfl, rfl, rfl⟩ := hp
  have hh : kH D kStr e0 A s H [(pa, .inr (16, [.int 0, .ref pr, .ref pp, .ref pi, .ref pl, .ref pf, .ref pm, .ref ps, .ref pe, .int 0, .int 0])), (pb, .inl (py1, n, .inl pf9)), (q2, .inl (y3, 10, .inr (.inr (.inr (.inr (va_up ((fun _ => none)) (0 : Int32).toNatClampNeg (some q1))))))), (q1, .inr (14, [.int 115, .ref pb])), (pp, .inr (4, [.int 1, .ref q2, .int 1]))] [(py1, .int), (y3, .object "java/lang/Object")] _ := hh
  refine W.eq (g2 := F0 m 95 ls [.int 1]) (by first | rfl | decide) ?_
  refine lv_iconst (v := 1) hx hb dX11_adds_95 (by decide) ?_
  refine lv_isub hx hb dX11_adds_96 ?_
  refine W.eq (g2 := F0 m 97 ls [.int 0]) (by first | rfl | decide) ?_
  exact k_endi hx hb hr hlocks hh ⟨rfl, rfl, rfl⟩ [0] [] rfl rfl rfl (Nat.le_of_ble_eq_true rfl) (Nat.le_of_ble_eq_true rfl) dX11_adds_97
def wo_c_X11_silence : List Cond := [Cond.constantLong RX11 80 200, Cond.fieldLink RX11 46 "SegueworksModel" "thrown" "I", Cond.arrayClass .int]
def wk_c_X11_silence : List Cond := Cond.code yX11_silence cX11_silence 2 (some .int) :: (wo_c_X11_silence ++ ((va_wsS RX11 54 yX11_in wk_c_X11_in_t) ++ ((u_ws RX11 TX11 11) ++ (wsV RX11 100 RX11 yX11_adds wk_c_X11_adds))))
theorem wo_c_X11_silence_in : ∀ w ∈ wo_c_X11_silence, w ∈ wk_c_X11_silence := fun w h => List.mem_cons_of_mem _ (List.mem_append_left _ h)
theorem gi_c_X11_silence_0 : GoodIn wk_c_X11_silence (va_wsS RX11 54 yX11_in wk_c_X11_in_t) := fun w h => ⟨List.mem_cons_of_mem _ (List.mem_append_right _ (List.mem_append_left _ h)), good_of_word (kg_S gk_c_X11_in_t w h)⟩
theorem ws_c_X11_silence_1 : ∀ w ∈ u_ws RX11 TX11 11, w ∈ wk_c_X11_silence := fun w h => List.mem_cons_of_mem _ (List.mem_append_right _ (List.mem_append_right _ (List.mem_append_left _ h)))
theorem gi_c_X11_silence_2 : GoodIn wk_c_X11_silence (wsV RX11 100 RX11 yX11_adds wk_c_X11_adds) := fun w h => ⟨List.mem_cons_of_mem _ (List.mem_append_right _ (List.mem_append_right _ (List.mem_append_right _ h))), good_of_word (kg_V gk_c_X11_adds w h)⟩
theorem gk_c_X11_silence : ∀ w ∈ wk_c_X11_silence, goodWord w = true := List.forall_mem_cons.mpr ⟨rfl, (List.forall_mem_append.mpr ⟨(show ∀ w ∈ wo_c_X11_silence, goodWord w = true by decide +kernel), (List.forall_mem_append.mpr ⟨(kg_S gk_c_X11_in_t), (List.forall_mem_append.mpr ⟨(show ∀ w ∈ u_ws RX11 TX11 11, goodWord w = true by decide +kernel), (kg_V gk_c_X11_adds)⟩)⟩)⟩)⟩
set_option maxHeartbeats 4000000 in
set_option maxRecDepth 100000 in
theorem c_X11_silence (l : Launch) (hst : l.stackTraces = false) (D : va_G) (e0 : kE) (pa : Nat) (pt : Int32) (pr : Nat) (pp : Nat) (pi : Nat) (pl : Nat) (pf : Nat) (pm : Nat) (ps : Nat) (pe : Nat) (n : Nat) (hn1 : 1 ≤ n) (hn : n ≤ 200) : kM l yX11_silence wk_c_X11_silence 6 224 3 400 D kStr e0 [] [(pa, .inr (16, [.int pt, .ref pr, .ref pp, .ref pi, .ref pl, .ref pf, .ref pm, .ref ps, .ref pe, .int 0, .int 0])), (pp, .inr (4, [.int 0, .ref e0.1, .int 0]))] [.ref pa, .int (nI n)] (fun v w t => v = some (.int 0) ∧ w = [(pa, .inr (16, [.int 0, .ref pr, .ref pp, .ref pi, .ref pl, .ref pf, .ref pm, .ref ps, .ref pe, .int 0, .int 0]))] ∧ t = []) (fun _ => False) := by
  refine k_of (cc := cX11_silence) (maxL := 2) (ret := (some .int)) (by decide) rfl (Nat.le_of_ble_eq_true rfl) ?_
  intro p e s m args below meth c A ls hx hb hr hts hown hlocks hml hex hh hl
  have hown : s.vm.findClass RX11 = some m.cls := hown
  have hl : lv_has ls 2 [(0, .ref pa), (1, .int (nI n))] := hl
  refine lv_aload_n hx hb dX11_silence_0 rfl (lv_at hl 0 rfl) ?_
  refine lv_iload_n hx hb dX11_silence_1 rfl (lv_at hl 1 rfl) ?_
  refine lv_i2l (v := (Int32.toInt64 (nI n))) hx hb dX11_silence_2 rfl ?_
  refine lv_lconst (v := 1) hx hb dX11_silence_3 (by decide) ?_
  refine lv_ldc2 (v := 200) hx hb hown (hts _ (wo_c_X11_silence_in _ (List.mem_of_getElem? (i := 0) rfl))) dX11_silence_4 ?_
  refine k_callS (wr := [(pa, .inr (16, [.int pt, .ref pr, .ref pp, .ref pi, .ref pl, .ref pf, .ref pm, .ref ps, .ref pe, .int 0, .int 0])), (pp, .inr (4, [.int 0, .ref e0.1, .int 0]))]) (rest := [.ref pa]) (own := RX11) ⟨hx, hb, hml, hown, hts⟩ (c_X11_in_t l hst D e0 ((Int32.toInt64 (nI n))) 1 200 (k_rngT (by decide) (by decide) ⟨nI_le (a := 1) hn1 (by omega), nI_le (b := 200) hn (by decide)⟩)) (va_cwS 3 hts gi_c_X11_silence_0 rfl rfl rfl (by decide +kernel) ⟨Nat.le_of_ble_eq_true rfl, Nat.le_of_ble_eq_true rfl⟩) hh [] [0, 1] [] rfl rfl rfl rfl (by decide) rfl rfl hl rfl (Nat.le_of_ble_eq_true rfl) dX11_silence_7 ⟨Nat.le_of_ble_eq_true rfl, (by show _ ≤ (400 : Nat); omega)⟩ (fun _ _ _ _ _ h => h.elim) (fun v w ty1 H locs hp hh => ?_)
  obtain ⟨rfl, rfl, rfl⟩ := hp
  have hh : kH D kStr e0 A s H [(pa, .inr (16, [.int pt, .ref pr, .ref pp, .ref pi, .ref pl, .ref pf, .ref pm, .ref ps, .ref pe, .int 0, .int 0])), (pp, .inr (4, [.int 0, .ref e0.1, .int 0]))] [] _ := hh
  refine W.eq (g2 := F0 m 10 ls [.int 1, .ref pa]) (by first | rfl | decide) ?_
  refine lv_if_eq (tgt := 17) hx hb dX11_silence_10 (by decide) (fun c_10 => absurd c_10 (by decide)) (fun _ => ?_)
  refine lv_iconst (v := 0) hx hb dX11_silence_13 (by decide) ?_
  refine lv_goto (tgt := 18) hx hb dX11_silence_14 (by decide) ?_
  refine k_put (C := RX11) (T := TX11) (N := 11) (ci := 16) (v := .int 0) (ws' := [(pa, .inr (16, [.int 0, .ref pr, .ref pp, .ref pi, .ref pl, .ref pf, .ref pm, .ref ps, .ref pe, .int 0, .int 0])), (pp, .inr (4, [.int 0, .ref e0.1, .int 0]))]) hx hb hts ws_c_X11_silence_1 tyX11 tyX11_ok nmX11 hown hh 0 rfl rfl 0 (by decide) (hts _ (wo_c_X11_silence_in _ (List.mem_of_getElem? (i := 1) rfl))) rfl rfl rfl (Nat.le_of_ble_eq_true rfl) dX11_silence_18 rfl (fun H locs hh => ?_)
  refine lv_aload_n hx hb dX11_silence_21 rfl (lv_at hl 0 rfl) ?_
  refine lv_bipush (v := 115) hx hb dX11_silence_22 (by decide) ?_
  refine lv_aload_n hx hb dX11_silence_24 rfl (lv_at hl 0 rfl) ?_
  refine k_get (C := RX11) (T := TX11) (N := 11) (ci := 16) (v := .int 0) hx hb hts ws_c_X11_silence_1 hown hh 0 rfl rfl 0 (by decide) (hts _ (wo_c_X11_silence_in _ (List.mem_of_getElem? (i := 1) rfl))) rfl dX11_silence_25 ?_
  refine lv_if_le (tgt := 35) hx hb dX11_silence_28 (by decide) (fun _ => ?_) (fun c_28 => absurd (by decide) c_28)
  refine lv_iload_n hx hb dX11_silence_35 rfl (lv_at hl 1 rfl) ?_
  refine k_newa (atype := .int) (ty := .int) (N' := n) (a0 := (n, .inl (fun _ => 0))) hx hb (hts _ (wo_c_X11_silence_in _ (List.mem_of_getElem? (i := 2) rfl))) rfl hh (fun cA => rfl) (nI_pos (by omega)) (nI_clamp (by omega)) (show _ * 4 ≤ 536870912 by omega) (Nat.le_of_ble_eq_true rfl) (by show _ ≤ (400 : Nat); omega) dX11_silence_36 (fun q1 y2 H hh => ?_)
  have hh : kH D kStr e0 A s H [(pa, .inr (16, [.int 0, .ref pr, .ref pp, .ref pi, .ref pl, .ref pf, .ref pm, .ref ps, .ref pe, .int 0, .int 0])), (pp, .inr (4, [.int 0, .ref e0.1, .int 0])), (q1, .inl (y2, n, .inl (fun _ => 0)))] [(y2, .int)] _ := hh
  refine lv_iconst (v := 2) hx hb dX11_silence_38 (by decide) ?_
  refine k_callV (C := RX11) (T := TX11) (N := 11) (ci := 16) (q0 := 0) (wr := []) (rest := []) (own := RX11) ⟨hx, hb, hml, hown, hts⟩ (c_X11_adds l hst D e0 pa pr pp pi pl pf pm ps pe q1 y2 ((fun _ => 0)) n 2 hn (fun _ => rfl)) (cwV 3 hts gi_c_X11_silence_2 rfl rfl rfl (by decide +kernel) ⟨Nat.le_of_ble_eq_true rfl, Nat.le_of_ble_eq_true rfl⟩) hh rfl rfl [0, 1, 2] [] [0] rfl rfl rfl rfl (by decide) rfl rfl hl rfl (Nat.le_of_ble_eq_true rfl) dX11_silence_39 ⟨Nat.le_of_ble_eq_true rfl, (by show _ ≤ (400 : Nat); omega)⟩ (fun _ _ _ _ _ h => h.elim) (fun v w ty1 H locs hp hh => ?_)
  obtain ⟨rfl, rfl, rfl⟩ := hp
  have hh : kH D kStr e0 A s H [(pa, .inr (16, [.int 0, .ref pr, .ref pp, .ref pi, .ref pl, .ref pf, .ref pm, .ref ps, .ref pe, .int 0, .int 0]))] [(y2, .int)] _ := hh
  refine W.eq (g2 := F0 m 42 ls [.int 0]) (by first | rfl | decide) ?_
  exact k_endi hx hb hr hlocks hh ⟨rfl, rfl, rfl⟩ [0] [] rfl rfl rfl (Nat.le_of_ble_eq_true rfl) (by show _ ≤ (400 : Nat); omega) dX11_silence_42
