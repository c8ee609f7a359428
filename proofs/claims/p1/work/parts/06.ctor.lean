theorem dX3_init_0 : decode cX3_init 0 = .ok (.aload_n 0, 1) := by decide +kernel
theorem dX3_init_1 : decode cX3_init 1 = .ok (.invokespecial 3, 3) := by decide +kernel
theorem dX3_init_4 : decode cX3_init 4 = .ok (.aload_n 0, 1) := by decide +kernel
theorem dX3_init_5 : decode cX3_init 5 = .ok (.bipush 8, 2) := by decide +kernel
theorem dX3_init_7 : decode cX3_init 7 = .ok (.newarray .int, 2) := by decide +kernel
theorem dX3_init_9 : decode cX3_init 9 = .ok (.putfield 9, 3) := by decide +kernel
theorem dX3_init_12 : decode cX3_init 12 = .ok (.aload_n 0, 1) := by decide +kernel
theorem dX3_init_13 : decode cX3_init 13 = .ok (.bipush 8, 2) := by decide +kernel
theorem dX3_init_15 : decode cX3_init 15 = .ok (.newarray .boolean, 2) := by decide +kernel
theorem dX3_init_17 : decode cX3_init 17 = .ok (.putfield 15, 3) := by decide +kernel
theorem dX3_init_20 : decode cX3_init 20 = .ok (.aload_n 0, 1) := by decide +kernel
theorem dX3_init_21 : decode cX3_init 21 = .ok (.bipush 8, 2) := by decide +kernel
theorem dX3_init_23 : decode cX3_init 23 = .ok (.newarray .int, 2) := by decide +kernel
theorem dX3_init_25 : decode cX3_init 25 = .ok (.putfield 19, 3) := by decide +kernel
theorem dX3_init_28 : decode cX3_init 28 = .ok (.aload_n 0, 1) := by decide +kernel
theorem dX3_init_29 : decode cX3_init 29 = .ok (.bipush 24, 2) := by decide +kernel
theorem dX3_init_31 : decode cX3_init 31 = .ok (.newarray .int, 2) := by decide +kernel
theorem dX3_init_33 : decode cX3_init 33 = .ok (.putfield 22, 3) := by decide +kernel
theorem dX3_init_36 : decode cX3_init 36 = .ok (.aload_n 0, 1) := by decide +kernel
theorem dX3_init_37 : decode cX3_init 37 = .ok (.bipush 96, 2) := by decide +kernel
theorem dX3_init_39 : decode cX3_init 39 = .ok (.newarray .int, 2) := by decide +kernel
theorem dX3_init_41 : decode cX3_init 41 = .ok (.putfield 25, 3) := by decide +kernel
theorem dX3_init_44 : decode cX3_init 44 = .ok (.return_, 1) := by decide +kernel
theorem dX4_init_0 : decode cX4_init 0 = .ok (.aload_n 0, 1) := by decide +kernel
theorem dX4_init_1 : decode cX4_init 1 = .ok (.invokespecial 3, 3) := by decide +kernel
theorem dX4_init_4 : decode cX4_init 4 = .ok (.aload_n 0, 1) := by decide +kernel
theorem dX4_init_5 : decode cX4_init 5 = .ok (.bipush 12, 2) := by decide +kernel
theorem dX4_init_7 : decode cX4_init 7 = .ok (.anewarray 9, 3) := by decide +kernel
theorem dX4_init_10 : decode cX4_init 10 = .ok (.putfield 11, 3) := by decide +kernel
theorem dX4_init_13 : decode cX4_init 13 = .ok (.aload_n 0, 1) := by decide +kernel
theorem dX4_init_14 : decode cX4_init 14 = .ok (.sipush 3000, 3) := by decide +kernel
theorem dX4_init_17 : decode cX4_init 17 = .ok (.newarray .int, 2) := by decide +kernel
theorem dX4_init_19 : decode cX4_init 19 = .ok (.putfield 17, 3) := by decide +kernel
theorem dX4_init_22 : decode cX4_init 22 = .ok (.aload_n 0, 1) := by decide +kernel
theorem dX4_init_23 : decode cX4_init 23 = .ok (.bipush 12, 2) := by decide +kernel
theorem dX4_init_25 : decode cX4_init 25 = .ok (.newarray .int, 2) := by decide +kernel
theorem dX4_init_27 : decode cX4_init 27 = .ok (.putfield 21, 3) := by decide +kernel
theorem dX4_init_30 : decode cX4_init 30 = .ok (.aload_n 0, 1) := by decide +kernel
theorem dX4_init_31 : decode cX4_init 31 = .ok (.bipush 12, 2) := by decide +kernel
theorem dX4_init_33 : decode cX4_init 33 = .ok (.newarray .int, 2) := by decide +kernel
theorem dX4_init_35 : decode cX4_init 35 = .ok (.putfield 24, 3) := by decide +kernel
theorem dX4_init_38 : decode cX4_init 38 = .ok (.return_, 1) := by decide +kernel
theorem dX6_init_0 : decode cX6_init 0 = .ok (.aload_n 0, 1) := by decide +kernel
theorem dX6_init_1 : decode cX6_init 1 = .ok (.invokespecial 1, 3) := by decide +kernel
theorem dX6_init_4 : decode cX6_init 4 = .ok (.aload_n 0, 1) := by decide +kernel
theorem dX6_init_5 : decode cX6_init 5 = .ok (.bipush 6, 2) := by decide +kernel
theorem dX6_init_7 : decode cX6_init 7 = .ok (.anewarray 9, 3) := by decide +kernel
theorem dX6_init_10 : decode cX6_init 10 = .ok (.putfield 11, 3) := by decide +kernel
theorem dX6_init_13 : decode cX6_init 13 = .ok (.aload_n 0, 1) := by decide +kernel
theorem dX6_init_14 : decode cX6_init 14 = .ok (.bipush 24, 2) := by decide +kernel
theorem dX6_init_16 : decode cX6_init 16 = .ok (.anewarray 15, 3) := by decide +kernel
theorem dX6_init_19 : decode cX6_init 19 = .ok (.putfield 17, 3) := by decide +kernel
theorem dX6_init_22 : decode cX6_init 22 = .ok (.aload_n 0, 1) := by decide +kernel
theorem dX6_init_23 : decode cX6_init 23 = .ok (.new 21, 3) := by decide +kernel
theorem dX6_init_26 : decode cX6_init 26 = .ok (.dup, 1) := by decide +kernel
theorem dX6_init_27 : decode cX6_init 27 = .ok (.invokespecial 23, 3) := by decide +kernel
theorem dX6_init_30 : decode cX6_init 30 = .ok (.putfield 24, 3) := by decide +kernel
theorem dX6_init_33 : decode cX6_init 33 = .ok (.aload_n 0, 1) := by decide +kernel
theorem dX6_init_34 : decode cX6_init 34 = .ok (.new 28, 3) := by decide +kernel
theorem dX6_init_37 : decode cX6_init 37 = .ok (.dup, 1) := by decide +kernel
theorem dX6_init_38 : decode cX6_init 38 = .ok (.invokespecial 30, 3) := by decide +kernel
theorem dX6_init_41 : decode cX6_init 41 = .ok (.putfield 31, 3) := by decide +kernel
theorem dX6_init_44 : decode cX6_init 44 = .ok (.aload_n 0, 1) := by decide +kernel
theorem dX6_init_45 : decode cX6_init 45 = .ok (.iconst 5, 1) := by decide +kernel
theorem dX6_init_46 : decode cX6_init 46 = .ok (.anewarray 35, 3) := by decide +kernel
theorem dX6_init_49 : decode cX6_init 49 = .ok (.putfield 37, 3) := by decide +kernel
theorem dX6_init_52 : decode cX6_init 52 = .ok (.return_, 1) := by decide +kernel
theorem dX11_init_0 : decode cX11_init 0 = .ok (.aload_n 0, 1) := by decide +kernel
theorem dX11_init_1 : decode cX11_init 1 = .ok (.invokespecial 10, 3) := by decide +kernel
theorem dX11_init_4 : decode cX11_init 4 = .ok (.aload_n 0, 1) := by decide +kernel
theorem dX11_init_5 : decode cX11_init 5 = .ok (.new 16, 3) := by decide +kernel
theorem dX11_init_8 : decode cX11_init 8 = .ok (.dup, 1) := by decide +kernel
theorem dX11_init_9 : decode cX11_init 9 = .ok (.invokespecial 18, 3) := by decide +kernel
theorem dX11_init_12 : decode cX11_init 12 = .ok (.putfield 19, 3) := by decide +kernel
theorem dX11_init_15 : decode cX11_init 15 = .ok (.aload_n 0, 1) := by decide +kernel
theorem dX11_init_16 : decode cX11_init 16 = .ok (.new 16, 3) := by decide +kernel
theorem dX11_init_19 : decode cX11_init 19 = .ok (.dup, 1) := by decide +kernel
theorem dX11_init_20 : decode cX11_init 20 = .ok (.invokespecial 18, 3) := by decide +kernel
theorem dX11_init_23 : decode cX11_init 23 = .ok (.putfield 25, 3) := by decide +kernel
theorem dX11_init_26 : decode cX11_init 26 = .ok (.aload_n 0, 1) := by decide +kernel
theorem dX11_init_27 : decode cX11_init 27 = .ok (.new 16, 3) := by decide +kernel
theorem dX11_init_30 : decode cX11_init 30 = .ok (.dup, 1) := by decide +kernel
theorem dX11_init_31 : decode cX11_init 31 = .ok (.invokespecial 18, 3) := by decide +kernel
theorem dX11_init_34 : decode cX11_init 34 = .ok (.putfield 28, 3) := by decide +kernel
theorem dX11_init_37 : decode cX11_init 37 = .ok (.aload_n 0, 1) := by decide +kernel
theorem dX11_init_38 : decode cX11_init 38 = .ok (.new 16, 3) := by decide +kernel
theorem dX11_init_41 : decode cX11_init 41 = .ok (.dup, 1) := by decide +kernel
theorem dX11_init_42 : decode cX11_init 42 = .ok (.invokespecial 18, 3) := by decide +kernel
theorem dX11_init_45 : decode cX11_init 45 = .ok (.putfield 31, 3) := by decide +kernel
theorem dX11_init_48 : decode cX11_init 48 = .ok (.aload_n 0, 1) := by decide +kernel
theorem dX11_init_49 : decode cX11_init 49 = .ok (.new 16, 3) := by decide +kernel
theorem dX11_init_52 : decode cX11_init 52 = .ok (.dup, 1) := by decide +kernel
theorem dX11_init_53 : decode cX11_init 53 = .ok (.invokespecial 18, 3) := by decide +kernel
theorem dX11_init_56 : decode cX11_init 56 = .ok (.putfield 34, 3) := by decide +kernel
theorem dX11_init_59 : decode cX11_init 59 = .ok (.aload_n 0, 1) := by decide +kernel
theorem dX11_init_60 : decode cX11_init 60 = .ok (.new 16, 3) := by decide +kernel
theorem dX11_init_63 : decode cX11_init 63 = .ok (.dup, 1) := by decide +kernel
theorem dX11_init_64 : decode cX11_init 64 = .ok (.invokespecial 18, 3) := by decide +kernel
theorem dX11_init_67 : decode cX11_init 67 = .ok (.putfield 37, 3) := by decide +kernel
theorem dX11_init_70 : decode cX11_init 70 = .ok (.aload_n 0, 1) := by decide +kernel
theorem dX11_init_71 : decode cX11_init 71 = .ok (.new 16, 3) := by decide +kernel
theorem dX11_init_74 : decode cX11_init 74 = .ok (.dup, 1) := by decide +kernel
theorem dX11_init_75 : decode cX11_init 75 = .ok (.invokespecial 18, 3) := by decide +kernel
theorem dX11_init_78 : decode cX11_init 78 = .ok (.putfield 40, 3) := by decide +kernel
theorem dX11_init_81 : decode cX11_init 81 = .ok (.aload_n 0, 1) := by decide +kernel
theorem dX11_init_82 : decode cX11_init 82 = .ok (.new 16, 3) := by decide +kernel
theorem dX11_init_85 : decode cX11_init 85 = .ok (.dup, 1) := by decide +kernel
theorem dX11_init_86 : decode cX11_init 86 = .ok (.invokespecial 18, 3) := by decide +kernel
theorem dX11_init_89 : decode cX11_init 89 = .ok (.putfield 43, 3) := by decide +kernel
theorem dX11_init_92 : decode cX11_init 92 = .ok (.aload_n 0, 1) := by decide +kernel
theorem dX11_init_93 : decode cX11_init 93 = .ok (.iconst 0, 1) := by decide +kernel
theorem dX11_init_94 : decode cX11_init 94 = .ok (.putfield 46, 3) := by decide +kernel
theorem dX11_init_97 : decode cX11_init 97 = .ok (.return_, 1) := by decide +kernel
theorem dJxa1e45_init_da8c8_0 : decode cJxa1e45_init_da8c8 0 = .ok (.aload_n 0, 1) := by decide +kernel
theorem dJxa1e45_init_da8c8_1 : decode cJxa1e45_init_da8c8 1 = .ok (.invokespecial 1, 3) := by decide +kernel
theorem dJxa1e45_init_da8c8_4 : decode cJxa1e45_init_da8c8 4 = .ok (.return_, 1) := by decide +kernel
theorem dJxc12de_init_da8c8_0 : decode cJxc12de_init_da8c8 0 = .ok (.aload_n 0, 1) := by decide +kernel
theorem dJxc12de_init_da8c8_1 : decode cJxc12de_init_da8c8 1 = .ok (.invokespecial 1, 3) := by decide +kernel
theorem dJxc12de_init_da8c8_4 : decode cJxc12de_init_da8c8 4 = .ok (.aload_n 0, 1) := by decide +kernel
theorem dJxc12de_init_da8c8_5 : decode cJxc12de_init_da8c8 5 = .ok (.iconst 0, 1) := by decide +kernel
theorem dJxc12de_init_da8c8_6 : decode cJxc12de_init_da8c8 6 = .ok (.putfield 7, 3) := by decide +kernel
theorem dJxc12de_init_da8c8_9 : decode cJxc12de_init_da8c8 9 = .ok (.return_, 1) := by decide +kernel
theorem dJx4a65c_init_da8c8_0 : decode cJx4a65c_init_da8c8 0 = .ok (.aload_n 0, 1) := by decide +kernel
theorem dJx4a65c_init_da8c8_1 : decode cJx4a65c_init_da8c8 1 = .ok (.invokespecial 1, 3) := by decide +kernel
theorem dJx4a65c_init_da8c8_4 : decode cJx4a65c_init_da8c8 4 = .ok (.aload_n 0, 1) := by decide +kernel
theorem dJx4a65c_init_da8c8_5 : decode cJx4a65c_init_da8c8 5 = .ok (.getstatic 39, 3) := by decide +kernel
theorem dJx4a65c_init_da8c8_8 : decode cJx4a65c_init_da8c8 8 = .ok (.putfield 9, 3) := by decide +kernel
theorem dJx4a65c_init_da8c8_11 : decode cJx4a65c_init_da8c8 11 = .ok (.return_, 1) := by decide +kernel
def wo_c_Jxa1e45_init_da8c8 : List Cond := [Cond.methodLink RJxa1e45 1 objectInit, Cond.instanceMethod objectInit, Cond.code objectInit ⟨#[0xb1]⟩ 1 none]
def wk_c_Jxa1e45_init_da8c8 : List Cond := Cond.code yJxa1e45_init_da8c8 cJxa1e45_init_da8c8 1 none :: wo_c_Jxa1e45_init_da8c8
theorem wo_c_Jxa1e45_init_da8c8_in : ∀ w ∈ wo_c_Jxa1e45_init_da8c8, w ∈ wk_c_Jxa1e45_init_da8c8 := fun w h => List.mem_cons_of_mem _ h
theorem gk_c_Jxa1e45_init_da8c8 : ∀ w ∈ wk_c_Jxa1e45_init_da8c8, goodWord w = true := List.forall_mem_cons.mpr ⟨rfl, (show ∀ w ∈ wo_c_Jxa1e45_init_da8c8, goodWord w = true by decide +kernel)⟩
set_option maxHeartbeats 4000000 in
set_option maxRecDepth 100000 in
theorem c_Jxa1e45_init_da8c8 (l : Launch) (hst : l.stackTraces = false) (D : va_G) (e0 : kE) (pa : Nat)  : kI l yJxa1e45_init_da8c8 wk_c_Jxa1e45_init_da8c8 1 20 0 0 D kStr e0 [] [(pa, .inr (4, [.int 0, .null, .int 0]))] [.ref pa] (fun v w t => v = none ∧ w = [(pa, .inr (4, [.int 0, .null, .int 0]))] ∧ t = []) := by
  refine k_ofI (cc := cJxa1e45_init_da8c8) (maxL := 1) (ret := none) (by decide) rfl (Nat.le_of_ble_eq_true rfl) ?_
  intro p e s m args below meth c A ls hx hb hr hts hown hlocks hml hin hh hl
  have hown : s.vm.findClass RJxa1e45 = some m.cls := hown
  have hl : lv_has ls 1 [(0, .ref pa)] := hl
  have hin : meth.name = "<init>" := hin
  refine lv_aload_n hx hb dJxa1e45_init_da8c8_0 rfl (lv_at hl 0 rfl) ?_
  refine W.objInit hx hb hown (hts _ (wo_c_Jxa1e45_init_da8c8_in _ (List.mem_of_getElem? (i := 0) rfl))) (hts _ (wo_c_Jxa1e45_init_da8c8_in _ (List.mem_of_getElem? (i := 1) rfl))) (hts _ (wo_c_Jxa1e45_init_da8c8_in _ (List.mem_of_getElem? (i := 2) rfl))) rfl (by rw [hml]; exact hl.1) rfl dJxa1e45_init_da8c8_1 (Nat.le_of_ble_eq_true rfl) (Nat.le_of_ble_eq_true rfl) ?_
  refine W.eq (g2 := F0 m 4 ls []) rfl ?_
  exact k_endV hx hb hr hlocks hh ⟨rfl, rfl, rfl⟩ [0] [] rfl rfl rfl (Nat.le_of_ble_eq_true rfl) (Nat.le_of_ble_eq_true rfl) dJxa1e45_init_da8c8_4
def wo_c_Jxc12de_init_da8c8 : List Cond := [Cond.initialized RJxa1e45, Cond.methodLink RJxc12de 1 yJxa1e45_init_da8c8, Cond.instanceMethod yJxa1e45_init_da8c8, Cond.fieldLink RJxc12de 7 "java/util/AbstractList" "modCount" "I"]
def wk_c_Jxc12de_init_da8c8 : List Cond := Cond.code yJxc12de_init_da8c8 cJxc12de_init_da8c8 1 none :: (wo_c_Jxc12de_init_da8c8 ++ ((wk_c_Jxa1e45_init_da8c8) ++ (u_ws RJx4a65c TJx4a65c 3)))
theorem wo_c_Jxc12de_init_da8c8_in : ∀ w ∈ wo_c_Jxc12de_init_da8c8, w ∈ wk_c_Jxc12de_init_da8c8 := fun w h => List.mem_cons_of_mem _ (List.mem_append_left _ h)
theorem gi_c_Jxc12de_init_da8c8_0 : GoodIn wk_c_Jxc12de_init_da8c8 (wk_c_Jxa1e45_init_da8c8) := fun w h => ⟨List.mem_cons_of_mem _ (List.mem_append_right _ (List.mem_append_left _ h)), good_of_word (gk_c_Jxa1e45_init_da8c8 w h)⟩
theorem ws_c_Jxc12de_init_da8c8_1 : ∀ w ∈ u_ws RJx4a65c TJx4a65c 3, w ∈ wk_c_Jxc12de_init_da8c8 := fun w h => List.mem_cons_of_mem _ (List.mem_append_right _ (List.mem_append_right _ h))
theorem gk_c_Jxc12de_init_da8c8 : ∀ w ∈ wk_c_Jxc12de_init_da8c8, goodWord w = true := List.forall_mem_cons.mpr ⟨rfl, (List.forall_mem_append.mpr ⟨(show ∀ w ∈ wo_c_Jxc12de_init_da8c8, goodWord w = true by decide +kernel), (List.forall_mem_append.mpr ⟨gk_c_Jxa1e45_init_da8c8, (show ∀ w ∈ u_ws RJx4a65c TJx4a65c 3, goodWord w = true by decide +kernel)⟩)⟩)⟩
set_option maxHeartbeats 4000000 in
set_option maxRecDepth 100000 in
theorem c_Jxc12de_init_da8c8 (l : Launch) (hst : l.stackTraces = false) (D : va_G) (e0 : kE) (pa : Nat)  : kI l yJxc12de_init_da8c8 wk_c_Jxc12de_init_da8c8 2 40 0 0 D kStr e0 [] [(pa, .inr (4, [.int 0, .null, .int 0]))] [.ref pa] (fun v w t => v = none ∧ w = [(pa, .inr (4, [.int 0, .null, .int 0]))] ∧ t = []) := by
  refine k_ofI (cc := cJxc12de_init_da8c8) (maxL := 1) (ret := none) (by decide) rfl (Nat.le_of_ble_eq_true rfl) ?_
  intro p e s m args below meth c A ls hx hb hr hts hown hlocks hml hin hh hl
  have hown : s.vm.findClass RJxc12de = some m.cls := hown
  have hl : lv_has ls 1 [(0, .ref pa)] := hl
  have hin : meth.name = "<init>" := hin
  refine lv_aload_n hx hb dJxc12de_init_da8c8_0 rfl (lv_at hl 0 rfl) ?_
  refine k_callI (wr := []) (rest := []) (own := RJxc12de) ⟨hx, hb, hml, hown, hts⟩ (c_Jxa1e45_init_da8c8 l hst D e0 pa ) (cwI 0 hts gi_c_Jxc12de_init_da8c8_0 rfl rfl rfl (hts _ (wo_c_Jxc12de_init_da8c8_in _ (List.mem_of_getElem? (i := 0) rfl))) (hts _ (wo_c_Jxc12de_init_da8c8_in _ (List.mem_of_getElem? (i := 1) rfl))) (hts _ (wo_c_Jxc12de_init_da8c8_in _ (List.mem_of_getElem? (i := 2) rfl))) rfl (by decide +kernel) ⟨Nat.le_of_ble_eq_true rfl, Nat.le_of_ble_eq_true rfl⟩) hh [0] [] [] rfl rfl rfl rfl (by decide) rfl rfl hl rfl (Nat.le_of_ble_eq_true rfl) dJxc12de_init_da8c8_1 ⟨Nat.le_of_ble_eq_true rfl, (Nat.le_of_ble_eq_true rfl)⟩ (fun v w ty1 H locs hp hh => ?_)
  obtain ⟨rfl, rfl, rfl⟩ := hp
  have hh : kH D kStr e0 A s H [(pa, .inr (4, [.int 0, .null, .int 0]))] [] _ := hh
  refine W.eq (g2 := F0 m 4 ls []) (by first | rfl | decide) ?_
  refine lv_aload_n hx hb dJxc12de_init_da8c8_4 rfl (lv_at hl 0 rfl) ?_
  refine lv_iconst (v := 0) hx hb dJxc12de_init_da8c8_5 (by decide) ?_
  refine k_put (C := RJx4a65c) (T := TJx4a65c) (N := 3) (ci := 4) (v := .int 0) (ws' := [(pa, .inr (4, [.int 0, .null, .int 0]))]) hx hb hts ws_c_Jxc12de_init_da8c8_1 tyJx4a65c tyJx4a65c_ok nmJx4a65c hown hh 0 rfl rfl 0 (by decide) (hts _ (wo_c_Jxc12de_init_da8c8_in _ (List.mem_of_getElem? (i := 3) rfl))) rfl rfl rfl (Nat.le_of_ble_eq_true rfl) dJxc12de_init_da8c8_6 rfl (fun H locs hh => ?_)
  exact k_endV hx hb hr hlocks hh ⟨rfl, rfl, rfl⟩ [0] [] rfl rfl rfl (Nat.le_of_ble_eq_true rfl) (Nat.le_of_ble_eq_true rfl) dJxc12de_init_da8c8_9
def wo_c_Jx4a65c_init_da8c8 : List Cond := [Cond.initialized RJxc12de, Cond.methodLink RJx4a65c 1 yJxc12de_init_da8c8, Cond.instanceMethod yJxc12de_init_da8c8, Cond.fieldLink RJx4a65c 39 "java/util/ArrayList" "DEFAULTCAPACITY_EMPTY_ELEMENTDATA" "[Ljava/lang/Object;", Cond.fieldLink RJx4a65c 9 "java/util/ArrayList" "elementData" "[Ljava/lang/Object;"]
def wk_c_Jx4a65c_init_da8c8 : List Cond := Cond.code yJx4a65c_init_da8c8 cJx4a65c_init_da8c8 1 none :: (wo_c_Jx4a65c_init_da8c8 ++ ((wk_c_Jxc12de_init_da8c8) ++ (u_ws RJx4a65c TJx4a65c 3)))
theorem wo_c_Jx4a65c_init_da8c8_in : ∀ w ∈ wo_c_Jx4a65c_init_da8c8, w ∈ wk_c_Jx4a65c_init_da8c8 := fun w h => List.mem_cons_of_mem _ (List.mem_append_left _ h)
theorem gi_c_Jx4a65c_init_da8c8_0 : GoodIn wk_c_Jx4a65c_init_da8c8 (wk_c_Jxc12de_init_da8c8) := fun w h => ⟨List.mem_cons_of_mem _ (List.mem_append_right _ (List.mem_append_left _ h)), good_of_word (gk_c_Jxc12de_init_da8c8 w h)⟩
theorem ws_c_Jx4a65c_init_da8c8_1 : ∀ w ∈ u_ws RJx4a65c TJx4a65c 3, w ∈ wk_c_Jx4a65c_init_da8c8 := fun w h => List.mem_cons_of_mem _ (List.mem_append_right _ (List.mem_append_right _ h))
theorem gk_c_Jx4a65c_init_da8c8 : ∀ w ∈ wk_c_Jx4a65c_init_da8c8, goodWord w = true := List.forall_mem_cons.mpr ⟨rfl, (List.forall_mem_append.mpr ⟨(show ∀ w ∈ wo_c_Jx4a65c_init_da8c8, goodWord w = true by decide +kernel), (List.forall_mem_append.mpr ⟨gk_c_Jxc12de_init_da8c8, (show ∀ w ∈ u_ws RJx4a65c TJx4a65c 3, goodWord w = true by decide +kernel)⟩)⟩)⟩
set_option maxHeartbeats 4000000 in
set_option maxRecDepth 100000 in
theorem c_Jx4a65c_init_da8c8 (l : Launch) (hst : l.stackTraces = false) (D : va_G) (e0 : kE) (pa : Nat)  : kI l yJx4a65c_init_da8c8 wk_c_Jx4a65c_init_da8c8 3 60 0 0 D kStr e0 [] [(pa, .inr (4, [.int 0, .null, .int 0]))] [.ref pa] (fun v w t => v = none ∧ w = [(pa, .inr (4, [.int 0, .ref e0.1, .int 0]))] ∧ t = []) := by
  refine k_ofI (cc := cJx4a65c_init_da8c8) (maxL := 1) (ret := none) (by decide) rfl (Nat.le_of_ble_eq_true rfl) ?_
  intro p e s m args below meth c A ls hx hb hr hts hown hlocks hml hin hh hl
  have hown : s.vm.findClass RJx4a65c = some m.cls := hown
  have hl : lv_has ls 1 [(0, .ref pa)] := hl
  have hin : meth.name = "<init>" := hin
  refine lv_aload_n hx hb dJx4a65c_init_da8c8_0 rfl (lv_at hl 0 rfl) ?_
  refine k_callI (wr := []) (rest := []) (own := RJx4a65c) ⟨hx, hb, hml, hown, hts⟩ (c_Jxc12de_init_da8c8 l hst D e0 pa ) (cwI 0 hts gi_c_Jx4a65c_init_da8c8_0 rfl rfl rfl (hts _ (wo_c_Jx4a65c_init_da8c8_in _ (List.mem_of_getElem? (i := 0) rfl))) (hts _ (wo_c_Jx4a65c_init_da8c8_in _ (List.mem_of_getElem? (i := 1) rfl))) (hts _ (wo_c_Jx4a65c_init_da8c8_in _ (List.mem_of_getElem? (i := 2) rfl))) rfl (by decide +kernel) ⟨Nat.le_of_ble_eq_true rfl, Nat.le_of_ble_eq_true rfl⟩) hh [0] [] [] rfl rfl rfl rfl (by decide) rfl rfl hl rfl (Nat.le_of_ble_eq_true rfl) dJx4a65c_init_da8c8_1 ⟨Nat.le_of_ble_eq_true rfl, (Nat.le_of_ble_eq_true rfl)⟩ (fun v w ty1 H locs hp hh => ?_)
  obtain ⟨rfl, rfl, rfl⟩ := hp
  have hh : kH D kStr e0 A s H [(pa, .inr (4, [.int 0, .null, .int 0]))] [] _ := hh
  refine W.eq (g2 := F0 m 4 ls []) (by first | rfl | decide) ?_
  refine lv_aload_n hx hb dJx4a65c_init_da8c8_4 rfl (lv_at hl 0 rfl) ?_
  refine va_gets hx hb hh.2.2.2.2.2.2.2.1 hh.2.2.2.1 hown (hts _ (wo_c_Jx4a65c_init_da8c8_in _ (List.mem_of_getElem? (i := 3) rfl))) (fun _ h => h) dJx4a65c_init_da8c8_5 ?_
  refine k_put (C := RJx4a65c) (T := TJx4a65c) (N := 3) (ci := 4) (v := .ref e0.1) (ws' := [(pa, .inr (4, [.int 0, .ref e0.1, .int 0]))]) hx hb hts ws_c_Jx4a65c_init_da8c8_1 tyJx4a65c tyJx4a65c_ok nmJx4a65c hown hh 0 rfl rfl 1 (by decide) (hts _ (wo_c_Jx4a65c_init_da8c8_in _ (List.mem_of_getElem? (i := 4) rfl))) rfl rfl rfl (Nat.le_of_ble_eq_true rfl) dJx4a65c_init_da8c8_8 rfl (fun H locs hh => ?_)
  exact k_endV hx hb hr hlocks hh ⟨rfl, rfl, rfl⟩ [0] [] rfl rfl rfl (Nat.le_of_ble_eq_true rfl) (Nat.le_of_ble_eq_true rfl) dJx4a65c_init_da8c8_11
def wo_c_X4_init : List Cond := [Cond.methodLink RX4 3 objectInit, Cond.instanceMethod objectInit, Cond.code objectInit ⟨#[0xb1]⟩ 1 none, Cond.classLink RX4 9 "Segueworks$Item", Cond.fieldLink RX4 11 "Segueworks$Program" "items" "[LSegueworks$Item;", Cond.arrayClass .int, Cond.fieldLink RX4 17 "Segueworks$Program" "row" "[I", Cond.fieldLink RX4 21 "Segueworks$Program" "sideRow" "[I", Cond.fieldLink RX4 24 "Segueworks$Program" "runRow" "[I"]
def wk_c_X4_init : List Cond := Cond.code yX4_init cX4_init 1 none :: (wo_c_X4_init ++ (u_ws RX4 TX4 6))
theorem wo_c_X4_init_in : ∀ w ∈ wo_c_X4_init, w ∈ wk_c_X4_init := fun w h => List.mem_cons_of_mem _ (List.mem_append_left _ h)
theorem ws_c_X4_init_0 : ∀ w ∈ u_ws RX4 TX4 6, w ∈ wk_c_X4_init := fun w h => List.mem_cons_of_mem _ (List.mem_append_right _ h)
theorem gk_c_X4_init : ∀ w ∈ wk_c_X4_init, goodWord w = true := List.forall_mem_cons.mpr ⟨rfl, (List.forall_mem_append.mpr ⟨(show ∀ w ∈ wo_c_X4_init, goodWord w = true by decide +kernel), (show ∀ w ∈ u_ws RX4 TX4 6, goodWord w = true by decide +kernel)⟩)⟩
set_option maxHeartbeats 4000000 in
set_option maxRecDepth 100000 in
theorem c_X4_init (l : Launch) (hst : l.stackTraces = false) (D : va_G) (e0 : kE) (pa : Nat)  : kI l yX4_init wk_c_X4_init 1 20 4 3036 D kStr e0 [] [(pa, .inr (9, [.null, .int 0, .null, .int 0, .null, .null]))] [.ref pa] (fun v w t => ∃ (q1 : Nat), ∃ (q3 : Nat), ∃ (q5 : Nat), ∃ (q7 : Nat), v = none ∧ w = [(pa, .inr (9, [.ref q1, .int 0, .ref q3, .int 0, .ref q5, .ref q7]))] ∧ t = []) := by
  refine k_ofI (cc := cX4_init) (maxL := 1) (ret := none) (by decide) rfl (Nat.le_of_ble_eq_true rfl) ?_
  intro p e s m args below meth c A ls hx hb hr hts hown hlocks hml hin hh hl
  have hown : s.vm.findClass RX4 = some m.cls := hown
  have hl : lv_has ls 1 [(0, .ref pa)] := hl
  have hin : meth.name = "<init>" := hin
  refine lv_aload_n hx hb dX4_init_0 rfl (lv_at hl 0 rfl) ?_
  refine W.objInit hx hb hown (hts _ (wo_c_X4_init_in _ (List.mem_of_getElem? (i := 0) rfl))) (hts _ (wo_c_X4_init_in _ (List.mem_of_getElem? (i := 1) rfl))) (hts _ (wo_c_X4_init_in _ (List.mem_of_getElem? (i := 2) rfl))) rfl (by rw [hml]; exact hl.1) rfl dX4_init_1 (Nat.le_of_ble_eq_true rfl) (Nat.le_of_ble_eq_true rfl) ?_
  refine W.eq (g2 := F0 m 4 ls []) rfl ?_
  refine lv_aload_n hx hb dX4_init_4 rfl (lv_at hl 0 rfl) ?_
  refine lv_bipush (v := 12) hx hb dX4_init_5 (by decide) ?_
  refine k_newq (C := "Segueworks$Item") (N' := 12) hx hb hown (hts _ (wo_c_X4_init_in _ (List.mem_of_getElem? (i := 3) rfl))) (by decide) hh (by decide) (by decide) (Nat.le_of_ble_eq_true rfl) (Nat.le_of_ble_eq_true rfl) (Nat.le_of_ble_eq_true rfl) dX4_init_7 (fun q1 y2 H hh => ?_)
  have hh : kH D kStr e0 A s H [(pa, .inr (9, [.null, .int 0, .null, .int 0, .null, .null])), (q1, .inl (y2, 12, .inr (.inr (.inr (.inr (fun _ => none))))))] [(y2, .object "Segueworks$Item")] _ := hh
  refine k_putF (C := RX4) (T := TX4) (N := 6) (ci := 9) (v := .ref q1) (ws' := [(pa, .inr (9, [.ref q1, .int 0, .null, .int 0, .null, .null])), (q1, .inl (y2, 12, .inr (.inr (.inr (.inr (fun _ => none))))))]) hx hb hts ws_c_X4_init_0 tyX4 tyX4_ok nmX4 hown hh 0 rfl rfl 0 (by decide) (hts _ (wo_c_X4_init_in _ (List.mem_of_getElem? (i := 4) rfl))) rfl hin rfl rfl rfl (Nat.le_of_ble_eq_true rfl) dX4_init_10 rfl (fun H locs hh => ?_)
  refine lv_aload_n hx hb dX4_init_13 rfl (lv_at hl 0 rfl) ?_
  refine lv_sipush (v := 3000) hx hb dX4_init_14 (by decide) ?_
  refine k_newa (atype := .int) (ty := .int) (N' := 3000) (a0 := (3000, .inl (fun _ => 0))) hx hb (hts _ (wo_c_X4_init_in _ (List.mem_of_getElem? (i := 5) rfl))) rfl hh (fun cA => rfl) (by decide) (by decide) (Nat.le_of_ble_eq_true rfl) (Nat.le_of_ble_eq_true rfl) (Nat.le_of_ble_eq_true rfl) dX4_init_17 (fun q3 y4 H hh => ?_)
  have hh : kH D kStr e0 A s H [(pa, .inr (9, [.ref q1, .int 0, .null, .int 0, .null, .null])), (q1, .inl (y2, 12, .inr (.inr (.inr (.inr (fun _ => none)))))), (q3, .inl (y4, 3000, .inl (fun _ => 0)))] [(y2, .object "Segueworks$Item"), (y4, .int)] _ := hh
  refine k_putF (C := RX4) (T := TX4) (N := 6) (ci := 9) (v := .ref q3) (ws' := [(pa, .inr (9, [.ref q1, .int 0, .ref q3, .int 0, .null, .null])), (q1, .inl (y2, 12, .inr (.inr (.inr (.inr (fun _ => none)))))), (q3, .inl (y4, 3000, .inl (fun _ => 0)))]) hx hb hts ws_c_X4_init_0 tyX4 tyX4_ok nmX4 hown hh 0 rfl rfl 2 (by decide) (hts _ (wo_c_X4_init_in _ (List.mem_of_getElem? (i := 6) rfl))) rfl hin rfl rfl rfl (Nat.le_of_ble_eq_true rfl) dX4_init_19 rfl (fun H locs hh => ?_)
  refine lv_aload_n hx hb dX4_init_22 rfl (lv_at hl 0 rfl) ?_
  refine lv_bipush (v := 12) hx hb dX4_init_23 (by decide) ?_
  refine k_newa (atype := .int) (ty := .int) (N' := 12) (a0 := (12, .inl (fun _ => 0))) hx hb (hts _ (wo_c_X4_init_in _ (List.mem_of_getElem? (i := 5) rfl))) rfl hh (fun cA => rfl) (by decide) (by decide) (Nat.le_of_ble_eq_true rfl) (Nat.le_of_ble_eq_true rfl) (Nat.le_of_ble_eq_true rfl) dX4_init_25 (fun q5 y6 H hh => ?_)
  have hh : kH D kStr e0 A s H [(pa, .inr (9, [.ref q1, .int 0, .ref q3, .int 0, .null, .null])), (q1, .inl (y2, 12, .inr (.inr (.inr (.inr (fun _ => none)))))), (q3, .inl (y4, 3000, .inl (fun _ => 0))), (q5, .inl (y6, 12, .inl (fun _ => 0)))] [(y2, .object "Segueworks$Item"), (y4, .int), (y6, .int)] _ := hh
  refine k_putF (C := RX4) (T := TX4) (N := 6) (ci := 9) (v := .ref q5) (ws' := [(pa, .inr (9, [.ref q1, .int 0, .ref q3, .int 0, .ref q5, .null])), (q1, .inl (y2, 12, .inr (.inr (.inr (.inr (fun _ => none)))))), (q3, .inl (y4, 3000, .inl (fun _ => 0))), (q5, .inl (y6, 12, .inl (fun _ => 0)))]) hx hb hts ws_c_X4_init_0 tyX4 tyX4_ok nmX4 hown hh 0 rfl rfl 4 (by decide) (hts _ (wo_c_X4_init_in _ (List.mem_of_getElem? (i := 7) rfl))) rfl hin rfl rfl rfl (Nat.le_of_ble_eq_true rfl) dX4_init_27 rfl (fun H locs hh => ?_)
  refine lv_aload_n hx hb dX4_init_30 rfl (lv_at hl 0 rfl) ?_
  refine lv_bipush (v := 12) hx hb dX4_init_31 (by decide) ?_
  refine k_newa (atype := .int) (ty := .int) (N' := 12) (a0 := (12, .inl (fun _ => 0))) hx hb (hts _ (wo_c_X4_init_in _ (List.mem_of_getElem? (i := 5) rfl))) rfl hh (fun cA => rfl) (by decide) (by decide) (Nat.le_of_ble_eq_true rfl) (Nat.le_of_ble_eq_true rfl) (Nat.le_of_ble_eq_true rfl) dX4_init_33 (fun q7 y8 H hh => ?_)
  have hh : kH D kStr e0 A s H [(pa, .inr (9, [.ref q1, .int 0, .ref q3, .int 0, .ref q5, .null])), (q1, .inl (y2, 12, .inr (.inr (.inr (.inr (fun _ => none)))))), (q3, .inl (y4, 3000, .inl (fun _ => 0))), (q5, .inl (y6, 12, .inl (fun _ => 0))), (q7, .inl (y8, 12, .inl (fun _ => 0)))] [(y2, .object "Segueworks$Item"), (y4, .int), (y6, .int), (y8, .int)] _ := hh
  refine k_putF (C := RX4) (T := TX4) (N := 6) (ci := 9) (v := .ref q7) (ws' := [(pa, .inr (9, [.ref q1, .int 0, .ref q3, .int 0, .ref q5, .ref q7])), (q1, .inl (y2, 12, .inr (.inr (.inr (.inr (fun _ => none)))))), (q3, .inl (y4, 3000, .inl (fun _ => 0))), (q5, .inl (y6, 12, .inl (fun _ => 0))), (q7, .inl (y8, 12, .inl (fun _ => 0)))]) hx hb hts ws_c_X4_init_0 tyX4 tyX4_ok nmX4 hown hh 0 rfl rfl 5 (by decide) (hts _ (wo_c_X4_init_in _ (List.mem_of_getElem? (i := 8) rfl))) rfl hin rfl rfl rfl (Nat.le_of_ble_eq_true rfl) dX4_init_35 rfl (fun H locs hh => ?_)
  exact k_endV hx hb hr hlocks hh ⟨q1, q3, q5, q7, rfl, rfl, rfl⟩ [0] [] rfl rfl rfl (Nat.le_of_ble_eq_true rfl) (Nat.le_of_ble_eq_true rfl) dX4_init_38
def wo_c_X3_init : List Cond := [Cond.methodLink RX3 3 objectInit, Cond.instanceMethod objectInit, Cond.code objectInit ⟨#[0xb1]⟩ 1 none, Cond.arrayClass .int, Cond.fieldLink RX3 9 "Segueworks$Plant" "failed" "[I", Cond.arrayClass .boolean, Cond.fieldLink RX3 15 "Segueworks$Plant" "gone" "[Z", Cond.fieldLink RX3 19 "Segueworks$Plant" "mothersOf" "[I", Cond.fieldLink RX3 22 "Segueworks$Plant" "stampersOf" "[I", Cond.fieldLink RX3 25 "Segueworks$Plant" "pressedBy" "[I"]
def wk_c_X3_init : List Cond := Cond.code yX3_init cX3_init 1 none :: (wo_c_X3_init ++ (u_ws RX3 TX3 11))
theorem wo_c_X3_init_in : ∀ w ∈ wo_c_X3_init, w ∈ wk_c_X3_init := fun w h => List.mem_cons_of_mem _ (List.mem_append_left _ h)
theorem ws_c_X3_init_0 : ∀ w ∈ u_ws RX3 TX3 11, w ∈ wk_c_X3_init := fun w h => List.mem_cons_of_mem _ (List.mem_append_right _ h)
theorem gk_c_X3_init : ∀ w ∈ wk_c_X3_init, goodWord w = true := List.forall_mem_cons.mpr ⟨rfl, (List.forall_mem_append.mpr ⟨(show ∀ w ∈ wo_c_X3_init, goodWord w = true by decide +kernel), (show ∀ w ∈ u_ws RX3 TX3 11, goodWord w = true by decide +kernel)⟩)⟩
set_option maxHeartbeats 4000000 in
set_option maxRecDepth 100000 in
theorem c_X3_init (l : Launch) (hst : l.stackTraces = false) (D : va_G) (e0 : kE) (pa : Nat)  : kI l yX3_init wk_c_X3_init 1 20 5 144 D kStr e0 [] [(pa, .inr (8, [.null, .null, .int 0, .null, .int 0, .null, .int 0, .null, .int 0, .int 0, .int 0]))] [.ref pa] (fun v w t => ∃ (q1 : Nat), ∃ (q3 : Nat), ∃ (q5 : Nat), ∃ (q7 : Nat), ∃ (q9 : Nat), v = none ∧ w = [(pa, .inr (8, [.ref q1, .ref q3, .int 0, .ref q5, .int 0, .ref q7, .int 0, .ref q9, .int 0, .int 0, .int 0]))] ∧ t = []) := by
  refine k_ofI (cc := cX3_init) (maxL := 1) (ret := none) (by decide) rfl (Nat.le_of_ble_eq_true rfl) ?_
  intro p e s m args below meth c A ls hx hb hr hts hown hlocks hml hin hh hl
  have hown : s.vm.findClass RX3 = some m.cls := hown
  have hl : lv_has ls 1 [(0, .ref pa)] := hl
  have hin : meth.name = "<init>" := hin
  refine lv_aload_n hx hb dX3_init_0 rfl (lv_at hl 0 rfl) ?_
  refine W.objInit hx hb hown (hts _ (wo_c_X3_init_in _ (List.mem_of_getElem? (i := 0) rfl))) (hts _ (wo_c_X3_init_in _ (List.mem_of_getElem? (i := 1) rfl))) (hts _ (wo_c_X3_init_in _ (List.mem_of_getElem? (i := 2) rfl))) rfl (by rw [hml]; exact hl.1) rfl dX3_init_1 (Nat.le_of_ble_eq_true rfl) (Nat.le_of_ble_eq_true rfl) ?_
  refine W.eq (g2 := F0 m 4 ls []) rfl ?_
  refine lv_aload_n hx hb dX3_init_4 rfl (lv_at hl 0 rfl) ?_
  refine lv_bipush (v := 8) hx hb dX3_init_5 (by decide) ?_
  refine k_newa (atype := .int) (ty := .int) (N' := 8) (a0 := (8, .inl (fun _ => 0))) hx hb (hts _ (wo_c_X3_init_in _ (List.mem_of_getElem? (i := 3) rfl))) rfl hh (fun cA => rfl) (by decide) (by decide) (Nat.le_of_ble_eq_true rfl) (Nat.le_of_ble_eq_true rfl) (Nat.le_of_ble_eq_true rfl) dX3_init_7 (fun q1 y2 H hh => ?_)
  have hh : kH D kStr e0 A s H [(pa, .inr (8, [.null, .null, .int 0, .null, .int 0, .null, .int 0, .null, .int 0, .int 0, .int 0])), (q1, .inl (y2, 8, .inl (fun _ => 0)))] [(y2, .int)] _ := hh
  refine k_putF (C := RX3) (T := TX3) (N := 11) (ci := 8) (v := .ref q1) (ws' := [(pa, .inr (8, [.ref q1, .null, .int 0, .null, .int 0, .null, .int 0, .null, .int 0, .int 0, .int 0])), (q1, .inl (y2, 8, .inl (fun _ => 0)))]) hx hb hts ws_c_X3_init_0 tyX3 tyX3_ok nmX3 hown hh 0 rfl rfl 0 (by decide) (hts _ (wo_c_X3_init_in _ (List.mem_of_getElem? (i := 4) rfl))) rfl hin rfl rfl rfl (Nat.le_of_ble_eq_true rfl) dX3_init_9 rfl (fun H locs hh => ?_)
  refine lv_aload_n hx hb dX3_init_12 rfl (lv_at hl 0 rfl) ?_
  refine lv_bipush (v := 8) hx hb dX3_init_13 (by decide) ?_
  refine k_newa (atype := .boolean) (ty := .boolean) (N' := 8) (a0 := (8, .inl (fun _ => 0))) hx hb (hts _ (wo_c_X3_init_in _ (List.mem_of_getElem? (i := 5) rfl))) rfl hh (fun cA => rfl) (by decide) (by decide) (Nat.le_of_ble_eq_true rfl) (Nat.le_of_ble_eq_true rfl) (Nat.le_of_ble_eq_true rfl) dX3_init_15 (fun q3 y4 H hh => ?_)
  have hh : kH D kStr e0 A s H [(pa, .inr (8, [.ref q1, .null, .int 0, .null, .int 0, .null, .int 0, .null, .int 0, .int 0, .int 0])), (q1, .inl (y2, 8, .inl (fun _ => 0))), (q3, .inl (y4, 8, .inl (fun _ => 0)))] [(y2, .int), (y4, .boolean)] _ := hh
  refine k_putF (C := RX3) (T := TX3) (N := 11) (ci := 8) (v := .ref q3) (ws' := [(pa, .inr (8, [.ref q1, .ref q3, .int 0, .null, .int 0, .null, .int 0, .null, .int 0, .int 0, .int 0])), (q1, .inl (y2, 8, .inl (fun _ => 0))), (q3, .inl (y4, 8, .inl (fun _ => 0)))]) hx hb hts ws_c_X3_init_0 tyX3 tyX3_ok nmX3 hown hh 0 rfl rfl 1 (by decide) (hts _ (wo_c_X3_init_in _ (List.mem_of_getElem? (i := 6) rfl))) rfl hin rfl rfl rfl (Nat.le_of_ble_eq_true rfl) dX3_init_17 rfl (fun H locs hh => ?_)
  refine lv_aload_n hx hb dX3_init_20 rfl (lv_at hl 0 rfl) ?_
  refine lv_bipush (v := 8) hx hb dX3_init_21 (by decide) ?_
  refine k_newa (atype := .int) (ty := .int) (N' := 8) (a0 := (8, .inl (fun _ => 0))) hx hb (hts _ (wo_c_X3_init_in _ (List.mem_of_getElem? (i := 3) rfl))) rfl hh (fun cA => rfl) (by decide) (by decide) (Nat.le_of_ble_eq_true rfl) (Nat.le_of_ble_eq_true rfl) (Nat.le_of_ble_eq_true rfl) dX3_init_23 (fun q5 y6 H hh => ?_)
  have hh : kH D kStr e0 A s H [(pa, .inr (8, [.ref q1, .ref q3, .int 0, .null, .int 0, .null, .int 0, .null, .int 0, .int 0, .int 0])), (q1, .inl (y2, 8, .inl (fun _ => 0))), (q3, .inl (y4, 8, .inl (fun _ => 0))), (q5, .inl (y6, 8, .inl (fun _ => 0)))] [(y2, .int), (y4, .boolean), (y6, .int)] _ := hh
  refine k_putF (C := RX3) (T := TX3) (N := 11) (ci := 8) (v := .ref q5) (ws' := [(pa, .inr (8, [.ref q1, .ref q3, .int 0, .ref q5, .int 0, .null, .int 0, .null, .int 0, .int 0, .int 0])), (q1, .inl (y2, 8, .inl (fun _ => 0))), (q3, .inl (y4, 8, .inl (fun _ => 0))), (q5, .inl (y6, 8, .inl (fun _ => 0)))]) hx hb hts ws_c_X3_init_0 tyX3 tyX3_ok nmX3 hown hh 0 rfl rfl 3 (by decide) (hts _ (wo_c_X3_init_in _ (List.mem_of_getElem? (i := 7) rfl))) rfl hin rfl rfl rfl (Nat.le_of_ble_eq_true rfl) dX3_init_25 rfl (fun H locs hh => ?_)
  refine lv_aload_n hx hb dX3_init_28 rfl (lv_at hl 0 rfl) ?_
  refine lv_bipush (v := 24) hx hb dX3_init_29 (by decide) ?_
  refine k_newa (atype := .int) (ty := .int) (N' := 24) (a0 := (24, .inl (fun _ => 0))) hx hb (hts _ (wo_c_X3_init_in _ (List.mem_of_getElem? (i := 3) rfl))) rfl hh (fun cA => rfl) (by decide) (by decide) (Nat.le_of_ble_eq_true rfl) (Nat.le_of_ble_eq_true rfl) (Nat.le_of_ble_eq_true rfl) dX3_init_31 (fun q7 y8 H hh => ?_)
  have hh : kH D kStr e0 A s H [(pa, .inr (8, [.ref q1, .ref q3, .int 0, .ref q5, .int 0, .null, .int 0, .null, .int 0, .int 0, .int 0])), (q1, .inl (y2, 8, .inl (fun _ => 0))), (q3, .inl (y4, 8, .inl (fun _ => 0))), (q5, .inl (y6, 8, .inl (fun _ => 0))), (q7, .inl (y8, 24, .inl (fun _ => 0)))] [(y2, .int), (y4, .boolean), (y6, .int), (y8, .int)] _ := hh
  refine k_putF (C := RX3) (T := TX3) (N := 11) (ci := 8) (v := .ref q7) (ws' := [(pa, .inr (8, [.ref q1, .ref q3, .int 0, .ref q5, .int 0, .ref q7, .int 0, .null, .int 0, .int 0, .int 0])), (q1, .inl (y2, 8, .inl (fun _ => 0))), (q3, .inl (y4, 8, .inl (fun _ => 0))), (q5, .inl (y6, 8, .inl (fun _ => 0))), (q7, .inl (y8, 24, .inl (fun _ => 0)))]) hx hb hts ws_c_X3_init_0 tyX3 tyX3_ok nmX3 hown hh 0 rfl rfl 5 (by decide) (hts _ (wo_c_X3_init_in _ (List.mem_of_getElem? (i := 8) rfl))) rfl hin rfl rfl rfl (Nat.le_of_ble_eq_true rfl) dX3_init_33 rfl (fun H locs hh => ?_)
  refine lv_aload_n hx hb dX3_init_36 rfl (lv_at hl 0 rfl) ?_
  refine lv_bipush (v := 96) hx hb dX3_init_37 (by decide) ?_
  refine k_newa (atype := .int) (ty := .int) (N' := 96) (a0 := (96, .inl (fun _ => 0))) hx hb (hts _ (wo_c_X3_init_in _ (List.mem_of_getElem? (i := 3) rfl))) rfl hh (fun cA => rfl) (by decide) (by decide) (Nat.le_of_ble_eq_true rfl) (Nat.le_of_ble_eq_true rfl) (Nat.le_of_ble_eq_true rfl) dX3_init_39 (fun q9 y10 H hh => ?_)
  have hh : kH D kStr e0 A s H [(pa, .inr (8, [.ref q1, .ref q3, .int 0, .ref q5, .int 0, .ref q7, .int 0, .null, .int 0, .int 0, .int 0])), (q1, .inl (y2, 8, .inl (fun _ => 0))), (q3, .inl (y4, 8, .inl (fun _ => 0))), (q5, .inl (y6, 8, .inl (fun _ => 0))), (q7, .inl (y8, 24, .inl (fun _ => 0))), (q9, .inl (y10, 96, .inl (fun _ => 0)))] [(y2, .int), (y4, .boolean), (y6, .int), (y8, .int), (y10, .int)] _ := hh
  refine k_putF (C := RX3) (T := TX3) (N := 11) (ci := 8) (v := .ref q9) (ws' := [(pa, .inr (8, [.ref q1, .ref q3, .int 0, .ref q5, .int 0, .ref q7, .int 0, .ref q9, .int 0, .int 0, .int 0])), (q1, .inl (y2, 8, .inl (fun _ => 0))), (q3, .inl (y4, 8, .inl (fun _ => 0))), (q5, .inl (y6, 8, .inl (fun _ => 0))), (q7, .inl (y8, 24, .inl (fun _ => 0))), (q9, .inl (y10, 96, .inl (fun _ => 0)))]) hx hb hts ws_c_X3_init_0 tyX3 tyX3_ok nmX3 hown hh 0 rfl rfl 7 (by decide) (hts _ (wo_c_X3_init_in _ (List.mem_of_getElem? (i := 9) rfl))) rfl hin rfl rfl rfl (Nat.le_of_ble_eq_true rfl) dX3_init_41 rfl (fun H locs hh => ?_)
  exact k_endV hx hb hr hlocks hh ⟨q1, q3, q5, q7, q9, rfl, rfl, rfl⟩ [0] [] rfl rfl rfl (Nat.le_of_ble_eq_true rfl) (Nat.le_of_ble_eq_true rfl) dX3_init_44
def wo_c_X6_init : List Cond := [Cond.methodLink RX6 1 objectInit, Cond.instanceMethod objectInit, Cond.code objectInit ⟨#[0xb1]⟩ 1 none, Cond.classLink RX6 9 "Segueworks$Reel", Cond.fieldLink RX6 11 "Segueworks" "reels" "[LSegueworks$Reel;", Cond.classLink RX6 15 "Segueworks$Piece", Cond.fieldLink RX6 17 "Segueworks" "pieces" "[LSegueworks$Piece;", Cond.classLink RX6 21 RX4, Cond.instantiable RX4 6, Cond.initialized RX4, Cond.methodLink RX6 23 yX4_init, Cond.instanceMethod yX4_init, Cond.fieldLink RX6 24 "Segueworks" "program" "LSegueworks$Program;", Cond.classLink RX6 28 RX3, Cond.instantiable RX3 11, Cond.initialized RX3, Cond.methodLink RX6 30 yX3_init, Cond.instanceMethod yX3_init, Cond.fieldLink RX6 31 "Segueworks" "plant" "LSegueworks$Plant;", Cond.classLink RX6 35 "Segueworks$Edition", Cond.fieldLink RX6 37 "Segueworks" "editions" "[LSegueworks$Edition;"]
def wk_c_X6_init : List Cond := Cond.code yX6_init cX6_init 1 none :: (wo_c_X6_init ++ ((u_ws RX6 TX6 8) ++ ((u_ws RX4 TX4 6) ++ ((wk_c_X4_init) ++ ((u_ws RX3 TX3 11) ++ (wk_c_X3_init))))))
theorem wo_c_X6_init_in : ∀ w ∈ wo_c_X6_init, w ∈ wk_c_X6_init := fun w h => List.mem_cons_of_mem _ (List.mem_append_left _ h)
theorem ws_c_X6_init_0 : ∀ w ∈ u_ws RX6 TX6 8, w ∈ wk_c_X6_init := fun w h => List.mem_cons_of_mem _ (List.mem_append_right _ (List.mem_append_left _ h))
theorem ws_c_X6_init_1 : ∀ w ∈ u_ws RX4 TX4 6, w ∈ wk_c_X6_init := fun w h => List.mem_cons_of_mem _ (List.mem_append_right _ (List.mem_append_right _ (List.mem_append_left _ h)))
theorem gi_c_X6_init_2 : GoodIn wk_c_X6_init (wk_c_X4_init) := fun w h => ⟨List.mem_cons_of_mem _ (List.mem_append_right _ (List.mem_append_right _ (List.mem_append_right _ (List.mem_append_left _ h)))), good_of_word (gk_c_X4_init w h)⟩
theorem ws_c_X6_init_3 : ∀ w ∈ u_ws RX3 TX3 11, w ∈ wk_c_X6_init := fun w h => List.mem_cons_of_mem _ (List.mem_append_right _ (List.mem_append_right _ (List.mem_append_right _ (List.mem_append_right _ (List.mem_append_left _ h)))))
theorem gi_c_X6_init_4 : GoodIn wk_c_X6_init (wk_c_X3_init) := fun w h => ⟨List.mem_cons_of_mem _ (List.mem_append_right _ (List.mem_append_right _ (List.mem_append_right _ (List.mem_append_right _ (List.mem_append_right _ h))))), good_of_word (gk_c_X3_init w h)⟩
theorem gk_c_X6_init : ∀ w ∈ wk_c_X6_init, goodWord w = true := List.forall_mem_cons.mpr ⟨rfl, (List.forall_mem_append.mpr ⟨(show ∀ w ∈ wo_c_X6_init, goodWord w = true by decide +kernel), (List.forall_mem_append.mpr ⟨(show ∀ w ∈ u_ws RX6 TX6 8, goodWord w = true by decide +kernel), (List.forall_mem_append.mpr ⟨(show ∀ w ∈ u_ws RX4 TX4 6, goodWord w = true by decide +kernel), (List.forall_mem_append.mpr ⟨gk_c_X4_init, (List.forall_mem_append.mpr ⟨(show ∀ w ∈ u_ws RX3 TX3 11, goodWord w = true by decide +kernel), gk_c_X3_init⟩)⟩)⟩)⟩)⟩)⟩
set_option maxHeartbeats 4000000 in
set_option maxRecDepth 100000 in
theorem c_X6_init (l : Launch) (hst : l.stackTraces = false) (D : va_G) (e0 : kE) (pa : Nat)  : kI l yX6_init wk_c_X6_init 2 40 14 3232 D kStr e0 [] [(pa, .inr (11, [.null, .int 0, .null, .int 0, .null, .null, .null, .int 0]))] [.ref pa] (fun v w t => ∃ (q1 : Nat), ∃ (q3 : Nat), ∃ (q5 : Nat), ∃ (q10 : Nat), ∃ (q16 : Nat), ∃ (q6 : Nat), ∃ (q7 : Nat), ∃ (q8 : Nat), ∃ (q9 : Nat), ∃ (q11 : Nat), ∃ (q12 : Nat), ∃ (q13 : Nat), ∃ (q14 : Nat), ∃ (q15 : Nat), ∃ (y2 : ClassId), ∃ (y4 : ClassId), v = none ∧ w = [(pa, .inr (11, [.ref q1, .int 0, .ref q3, .int 0, .ref q5, .ref q10, .ref q16, .int 0])), (q5, .inr (9, [.ref q6, .int 0, .ref q7, .int 0, .ref q8, .ref q9])), (q10, .inr (8, [.ref q11, .ref q12, .int 0, .ref q13, .int 0, .ref q14, .int 0, .ref q15, .int 0, .int 0, .int 0])), (q1, .inl (y2, 6, .inr (.inr (.inr (.inr (fun _ => none)))))), (q3, .inl (y4, 24, .inr (.inr (.inr (.inr (fun _ => none))))))] ∧ t = [(y2, .object "Segueworks$Reel"), (y4, .object "Segueworks$Piece")]) := by
  refine k_ofI (cc := cX6_init) (maxL := 1) (ret := none) (by decide) rfl (Nat.le_of_ble_eq_true rfl) ?_
  intro p e s m args below meth c A ls hx hb hr hts hown hlocks hml hin hh hl
  have hown : s.vm.findClass RX6 = some m.cls := hown
  have hl : lv_has ls 1 [(0, .ref pa)] := hl
  have hin : meth.name = "<init>" := hin
  refine lv_aload_n hx hb dX6_init_0 rfl (lv_at hl 0 rfl) ?_
  refine W.objInit hx hb hown (hts _ (wo_c_X6_init_in _ (List.mem_of_getElem? (i := 0) rfl))) (hts _ (wo_c_X6_init_in _ (List.mem_of_getElem? (i := 1) rfl))) (hts _ (wo_c_X6_init_in _ (List.mem_of_getElem? (i := 2) rfl))) rfl (by rw [hml]; exact hl.1) rfl dX6_init_1 (Nat.le_of_ble_eq_true rfl) (Nat.le_of_ble_eq_true rfl) ?_
  refine W.eq (g2 := F0 m 4 ls []) rfl ?_
  refine lv_aload_n hx hb dX6_init_4 rfl (lv_at hl 0 rfl) ?_
  refine lv_bipush (v := 6) hx hb dX6_init_5 (by decide) ?_
  refine k_newq (C := "Segueworks$Reel") (N' := 6) hx hb hown (hts _ (wo_c_X6_init_in _ (List.mem_of_getElem? (i := 3) rfl))) (by decide) hh (by decide) (by decide) (Nat.le_of_ble_eq_true rfl) (Nat.le_of_ble_eq_true rfl) (Nat.le_of_ble_eq_true rfl) dX6_init_7 (fun q1 y2 H hh => ?_)
  have hh : kH D kStr e0 A s H [(pa, .inr (11, [.null, .int 0, .null, .int 0, .null, .null, .null, .int 0])), (q1, .inl (y2, 6, .inr (.inr (.inr (.inr (fun _ => none))))))] [(y2, .object "Segueworks$Reel")] _ := hh
  refine k_putF (C := RX6) (T := TX6) (N := 8) (ci := 11) (v := .ref q1) (ws' := [(pa, .inr (11, [.ref q1, .int 0, .null, .int 0, .null, .null, .null, .int 0])), (q1, .inl (y2, 6, .inr (.inr (.inr (.inr (fun _ => none))))))]) hx hb hts ws_c_X6_init_0 tyX6 tyX6_ok nmX6 hown hh 0 rfl rfl 0 (by decide) (hts _ (wo_c_X6_init_in _ (List.mem_of_getElem? (i := 4) rfl))) rfl hin rfl rfl rfl (Nat.le_of_ble_eq_true rfl) dX6_init_10 rfl (fun H locs hh => ?_)
  refine lv_aload_n hx hb dX6_init_13 rfl (lv_at hl 0 rfl) ?_
  refine lv_bipush (v := 24) hx hb dX6_init_14 (by decide) ?_
  refine k_newq (C := "Segueworks$Piece") (N' := 24) hx hb hown (hts _ (wo_c_X6_init_in _ (List.mem_of_getElem? (i := 5) rfl))) (by decide) hh (by decide) (by decide) (Nat.le_of_ble_eq_true rfl) (Nat.le_of_ble_eq_true rfl) (Nat.le_of_ble_eq_true rfl) dX6_init_16 (fun q3 y4 H hh => ?_)
  have hh : kH D kStr e0 A s H [(pa, .inr (11, [.ref q1, .int 0, .null, .int 0, .null, .null, .null, .int 0])), (q1, .inl (y2, 6, .inr (.inr (.inr (.inr (fun _ => none)))))), (q3, .inl (y4, 24, .inr (.inr (.inr (.inr (fun _ => none))))))] [(y2, .object "Segueworks$Reel"), (y4, .object "Segueworks$Piece")] _ := hh
  refine k_putF (C := RX6) (T := TX6) (N := 8) (ci := 11) (v := .ref q3) (ws' := [(pa, .inr (11, [.ref q1, .int 0, .ref q3, .int 0, .null, .null, .null, .int 0])), (q1, .inl (y2, 6, .inr (.inr (.inr (.inr (fun _ => none)))))), (q3, .inl (y4, 24, .inr (.inr (.inr (.inr (fun _ => none))))))]) hx hb hts ws_c_X6_init_0 tyX6 tyX6_ok nmX6 hown hh 0 rfl rfl 2 (by decide) (hts _ (wo_c_X6_init_in _ (List.mem_of_getElem? (i := 6) rfl))) rfl hin rfl rfl rfl (Nat.le_of_ble_eq_true rfl) dX6_init_19 rfl (fun H locs hh => ?_)
  refine lv_aload_n hx hb dX6_init_22 rfl (lv_at hl 0 rfl) ?_
  refine k_new (C := RX4) (T := TX4) (N := 6) (ci := 9) (fs := [.null, .int 0, .null, .int 0, .null, .null]) hx hb hts ws_c_X6_init_1 tyX4 tyX4_ok hown (hts _ (wo_c_X6_init_in _ (List.mem_of_getElem? (i := 7) rfl))) (hts _ (wo_c_X6_init_in _ (List.mem_of_getElem? (i := 8) rfl))) (hts _ (wo_c_X6_init_in _ (List.mem_of_getElem? (i := 9) rfl))) hh rfl (fun j hj => by rcases (show j = 0 ∨ j = 1 ∨ j = 2 ∨ j = 3 ∨ j = 4 ∨ j = 5 by omega) with rfl | rfl | rfl | rfl | rfl | rfl <;> rfl) (Nat.le_of_ble_eq_true rfl) (Nat.le_of_ble_eq_true rfl) dX6_init_23 (fun q5 H hh => ?_)
  have hh : kH D kStr e0 A s H [(pa, .inr (11, [.ref q1, .int 0, .ref q3, .int 0, .null, .null, .null, .int 0])), (q1, .inl (y2, 6, .inr (.inr (.inr (.inr (fun _ => none)))))), (q3, .inl (y4, 24, .inr (.inr (.inr (.inr (fun _ => none)))))), (q5, .inr (9, [.null, .int 0, .null, .int 0, .null, .null]))] [(y2, .object "Segueworks$Reel"), (y4, .object "Segueworks$Piece")] _ := hh
  refine lv_dup hx hb dX6_init_26 rfl ?_
  refine k_callI (wr := [(pa, .inr (11, [.ref q1, .int 0, .ref q3, .int 0, .null, .null, .null, .int 0])), (q1, .inl (y2, 6, .inr (.inr (.inr (.inr (fun _ => none)))))), (q3, .inl (y4, 24, .inr (.inr (.inr (.inr (fun _ => none))))))]) (rest := [.ref q5, .ref pa]) (own := RX6) ⟨hx, hb, hml, hown, hts⟩ (c_X4_init l hst D e0 q5 ) (cwI 0 hts gi_c_X6_init_2 rfl rfl rfl (hts _ (wo_c_X6_init_in _ (List.mem_of_getElem? (i := 9) rfl))) (hts _ (wo_c_X6_init_in _ (List.mem_of_getElem? (i := 10) rfl))) (hts _ (wo_c_X6_init_in _ (List.mem_of_getElem? (i := 11) rfl))) rfl (by decide +kernel) ⟨Nat.le_of_ble_eq_true rfl, Nat.le_of_ble_eq_true rfl⟩) hh [3] [0, 1, 2] [] rfl rfl rfl rfl (by decide) rfl rfl hl rfl (Nat.le_of_ble_eq_true rfl) dX6_init_27 ⟨Nat.le_of_ble_eq_true rfl, (Nat.le_of_ble_eq_true rfl)⟩ (fun v w ty1 H locs hp hh => ?_)
  obtain ⟨q6, q7, q8, q9, rfl, rfl, rfl⟩ := hp
  have hh : kH D kStr e0 A s H [(pa, .inr (11, [.ref q1, .int 0, .ref q3, .int 0, .null, .null, .null, .int 0])), (q1, .inl (y2, 6, .inr (.inr (.inr (.inr (fun _ => none)))))), (q3, .inl (y4, 24, .inr (.inr (.inr (.inr (fun _ => none)))))), (q5, .inr (9, [.ref q6, .int 0, .ref q7, .int 0, .ref q8, .ref q9]))] [(y2, .object "Segueworks$Reel"), (y4, .object "Segueworks$Piece")] _ := hh
  refine W.eq (g2 := F0 m 30 ls [.ref q5, .ref pa]) (by first | rfl | decide) ?_
  refine k_putF (C := RX6) (T := TX6) (N := 8) (ci := 11) (v := .ref q5) (ws' := [(pa, .inr (11, [.ref q1, .int 0, .ref q3, .int 0, .ref q5, .null, .null, .int 0])), (q1, .inl (y2, 6, .inr (.inr (.inr (.inr (fun _ => none)))))), (q3, .inl (y4, 24, .inr (.inr (.inr (.inr (fun _ => none)))))), (q5, .inr (9, [.ref q6, .int 0, .ref q7, .int 0, .ref q8, .ref q9]))]) hx hb hts ws_c_X6_init_0 tyX6 tyX6_ok nmX6 hown hh 0 rfl rfl 4 (by decide) (hts _ (wo_c_X6_init_in _ (List.mem_of_getElem? (i := 12) rfl))) rfl hin rfl rfl rfl (Nat.le_of_ble_eq_true rfl) dX6_init_30 rfl (fun H locs hh => ?_)
  refine lv_aload_n hx hb dX6_init_33 rfl (lv_at hl 0 rfl) ?_
  refine k_new (C := RX3) (T := TX3) (N := 11) (ci := 8) (fs := [.null, .null, .int 0, .null, .int 0, .null, .int 0, .null, .int 0, .int 0, .int 0]) hx hb hts ws_c_X6_init_3 tyX3 tyX3_ok hown (hts _ (wo_c_X6_init_in _ (List.mem_of_getElem? (i := 13) rfl))) (hts _ (wo_c_X6_init_in _ (List.mem_of_getElem? (i := 14) rfl))) (hts _ (wo_c_X6_init_in _ (List.mem_of_getElem? (i := 15) rfl))) hh rfl (fun j hj => by rcases (show j = 0 ∨ j = 1 ∨ j = 2 ∨ j = 3 ∨ j = 4 ∨ j = 5 ∨ j = 6 ∨ j = 7 ∨ j = 8 ∨ j = 9 ∨ j = 10 by omega) with rfl | rfl | rfl | rfl | rfl | rfl | rfl | rfl | rfl | rfl | rfl <;> rfl) (Nat.le_of_ble_eq_true rfl) (Nat.le_of_ble_eq_true rfl) dX6_init_34 (fun q10 H hh => ?_)
  have hh : kH D kStr e0 A s H [(pa, .inr (11, [.ref q1, .int 0, .ref q3, .int 0, .ref q5, .null, .null, .int 0])), (q1, .inl (y2, 6, .inr (.inr (.inr (.inr (fun _ => none)))))), (q3, .inl (y4, 24, .inr (.inr (.inr (.inr (fun _ => none)))))), (q5, .inr (9, [.ref q6, .int 0, .ref q7, .int 0, .ref q8, .ref q9])), (q10, .inr (8, [.null, .null, .int 0, .null, .int 0, .null, .int 0, .null, .int 0, .int 0, .int 0]))] [(y2, .object "Segueworks$Reel"), (y4, .object "Segueworks$Piece")] _ := hh
  refine lv_dup hx hb dX6_init_37 rfl ?_
  refine k_callI (wr := [(pa, .inr (11, [.ref q1, .int 0, .ref q3, .int 0, .ref q5, .null, .null, .int 0])), (q1, .inl (y2, 6, .inr (.inr (.inr (.inr (fun _ => none)))))), (q3, .inl (y4, 24, .inr (.inr (.inr (.inr (fun _ => none)))))), (q5, .inr (9, [.ref q6, .int 0, .ref q7, .int 0, .ref q8, .ref q9]))]) (rest := [.ref q10, .ref pa]) (own := RX6) ⟨hx, hb, hml, hown, hts⟩ (c_X3_init l hst D e0 q10 ) (cwI 0 hts gi_c_X6_init_4 rfl rfl rfl (hts _ (wo_c_X6_init_in _ (List.mem_of_getElem? (i := 15) rfl))) (hts _ (wo_c_X6_init_in _ (List.mem_of_getElem? (i := 16) rfl))) (hts _ (wo_c_X6_init_in _ (List.mem_of_getElem? (i := 17) rfl))) rfl (by decide +kernel) ⟨Nat.le_of_ble_eq_true rfl, Nat.le_of_ble_eq_true rfl⟩) hh [4] [0, 1, 2, 3] [] rfl rfl rfl rfl (by decide) rfl rfl hl rfl (Nat.le_of_ble_eq_true rfl) dX6_init_38 ⟨Nat.le_of_ble_eq_true rfl, (Nat.le_of_ble_eq_true rfl)⟩ (fun v w ty1 H locs hp hh => ?_)
  obtain ⟨q11, q12, q13, q14, q15, rfl, rfl, rfl⟩ := hp
  have hh : kH D kStr e0 A s H [(pa, .inr (11, [.ref q1, .int 0, .ref q3, .int 0, .ref q5, .null, .null, .int 0])), (q1, .inl (y2, 6, .inr (.inr (.inr (.inr (fun _ => none)))))), (q3, .inl (y4, 24, .inr (.inr (.inr (.inr (fun _ => none)))))), (q5, .inr (9, [.ref q6, .int 0, .ref q7, .int 0, .ref q8, .ref q9])), (q10, .inr (8, [.ref q11, .ref q12, .int 0, .ref q13, .int 0, .ref q14, .int 0, .ref q15, .int 0, .int 0, .int 0]))] [(y2, .object "Segueworks$Reel"), (y4, .object "Segueworks$Piece")] _ := hh
  refine W.eq (g2 := F0 m 41 ls [.ref q10, .ref pa]) (by first | rfl | decide) ?_
  refine k_putF (C := RX6) (T := TX6) (N := 8) (ci := 11) (v := .ref q10) (ws' := [(pa, .inr (11, [.ref q1, .int 0, .ref q3, .int 0, .ref q5, .ref q10, .null, .int 0])), (q1, .inl (y2, 6, .inr (.inr (.inr (.inr (fun _ => none)))))), (q3, .inl (y4, 24, .inr (.inr (.inr (.inr (fun _ => none)))))), (q5, .inr (9, [.ref q6, .int 0, .ref q7, .int 0, .ref q8, .ref q9])), (q10, .inr (8, [.ref q11, .ref q12, .int 0, .ref q13, .int 0, .ref q14, .int 0, .ref q15, .int 0, .int 0, .int 0]))]) hx hb hts ws_c_X6_init_0 tyX6 tyX6_ok nmX6 hown hh 0 rfl rfl 5 (by decide) (hts _ (wo_c_X6_init_in _ (List.mem_of_getElem? (i := 18) rfl))) rfl hin rfl rfl rfl (Nat.le_of_ble_eq_true rfl) dX6_init_41 rfl (fun H locs hh => ?_)
  refine lv_aload_n hx hb dX6_init_44 rfl (lv_at hl 0 rfl) ?_
  refine lv_iconst (v := 5) hx hb dX6_init_45 (by decide) ?_
  refine k_newq (C := "Segueworks$Edition") (N' := 5) hx hb hown (hts _ (wo_c_X6_init_in _ (List.mem_of_getElem? (i := 19) rfl))) (by decide) hh (by decide) (by decide) (Nat.le_of_ble_eq_true rfl) (Nat.le_of_ble_eq_true rfl) (Nat.le_of_ble_eq_true rfl) dX6_init_46 (fun q16 y17 H hh => ?_)
  have hh : kH D kStr e0 A s H [(pa, .inr (11, [.ref q1, .int 0, .ref q3, .int 0, .ref q5, .ref q10, .null, .int 0])), (q1, .inl (y2, 6, .inr (.inr (.inr (.inr (fun _ => none)))))), (q3, .inl (y4, 24, .inr (.inr (.inr (.inr (fun _ => none)))))), (q5, .inr (9, [.ref q6, .int 0, .ref q7, .int 0, .ref q8, .ref q9])), (q10, .inr (8, [.ref q11, .ref q12, .int 0, .ref q13, .int 0, .ref q14, .int 0, .ref q15, .int 0, .int 0, .int 0])), (q16, .inl (y17, 5, .inr (.inr (.inr (.inr (fun _ => none))))))] [(y2, .object "Segueworks$Reel"), (y4, .object "Segueworks$Piece"), (y17, .object "Segueworks$Edition")] _ := hh
  refine k_putF (C := RX6) (T := TX6) (N := 8) (ci := 11) (v := .ref q16) (ws' := [(pa, .inr (11, [.ref q1, .int 0, .ref q3, .int 0, .ref q5, .ref q10, .ref q16, .int 0])), (q1, .inl (y2, 6, .inr (.inr (.inr (.inr (fun _ => none)))))), (q3, .inl (y4, 24, .inr (.inr (.inr (.inr (fun _ => none)))))), (q5, .inr (9, [.ref q6, .int 0, .ref q7, .int 0, .ref q8, .ref q9])), (q10, .inr (8, [.ref q11, .ref q12, .int 0, .ref q13, .int 0, .ref q14, .int 0, .ref q15, .int 0, .int 0, .int 0])), (q16, .inl (y17, 5, .inr (.inr (.inr (.inr (fun _ => none))))))]) hx hb hts ws_c_X6_init_0 tyX6 tyX6_ok nmX6 hown hh 0 rfl rfl 6 (by decide) (hts _ (wo_c_X6_init_in _ (List.mem_of_getElem? (i := 20) rfl))) rfl hin rfl rfl rfl (Nat.le_of_ble_eq_true rfl) dX6_init_49 rfl (fun H locs hh => ?_)
  exact k_endV hx hb hr hlocks hh ⟨q1, q3, q5, q10, q16, q6, q7, q8, q9, q11, q12, q13, q14, q15, y2, y4, rfl, rfl, rfl⟩ [0, 3, 4, 1, 2] [0, 1] rfl rfl rfl (Nat.le_of_ble_eq_true rfl) (Nat.le_of_ble_eq_true rfl) dX6_init_52
def wo_c_X11_init : List Cond := [Cond.methodLink RX11 10 objectInit, Cond.instanceMethod objectInit, Cond.code objectInit ⟨#[0xb1]⟩ 1 none, Cond.classLink RX11 16 RJx4a65c, Cond.instantiable RJx4a65c 3, Cond.initialized RJx4a65c, Cond.methodLink RX11 18 yJx4a65c_init_da8c8, Cond.instanceMethod yJx4a65c_init_da8c8, Cond.fieldLink RX11 19 "SegueworksModel" "reels" "Ljava/util/ArrayList;", Cond.fieldLink RX11 25 "SegueworksModel" "pieces" "Ljava/util/ArrayList;", Cond.fieldLink RX11 28 "SegueworksModel" "items" "Ljava/util/ArrayList;", Cond.fieldLink RX11 31 "SegueworksModel" "lacquers" "Ljava/util/ArrayList;", Cond.fieldLink RX11 34 "SegueworksModel" "fathers" "Ljava/util/ArrayList;", Cond.fieldLink RX11 37 "SegueworksModel" "mothers" "Ljava/util/ArrayList;", Cond.fieldLink RX11 40 "SegueworksModel" "stampers" "Ljava/util/ArrayList;", Cond.fieldLink RX11 43 "SegueworksModel" "editions" "Ljava/util/ArrayList;", Cond.fieldLink RX11 46 "SegueworksModel" "thrown" "I"]
def wk_c_X11_init : List Cond := Cond.code yX11_init cX11_init 1 none :: (wo_c_X11_init ++ ((u_ws RJx4a65c TJx4a65c 3) ++ ((wk_c_Jx4a65c_init_da8c8) ++ (u_ws RX11 TX11 11))))
theorem wo_c_X11_init_in : ∀ w ∈ wo_c_X11_init, w ∈ wk_c_X11_init := fun w h => List.mem_cons_of_mem _ (List.mem_append_left _ h)
theorem ws_c_X11_init_0 : ∀ w ∈ u_ws RJx4a65c TJx4a65c 3, w ∈ wk_c_X11_init := fun w h => List.mem_cons_of_mem _ (List.mem_append_right _ (List.mem_append_left _ h))
theorem gi_c_X11_init_1 : GoodIn wk_c_X11_init (wk_c_Jx4a65c_init_da8c8) := fun w h => ⟨List.mem_cons_of_mem _ (List.mem_append_right _ (List.mem_append_right _ (List.mem_append_left _ h))), good_of_word (gk_c_Jx4a65c_init_da8c8 w h)⟩
theorem ws_c_X11_init_2 : ∀ w ∈ u_ws RX11 TX11 11, w ∈ wk_c_X11_init := fun w h => List.mem_cons_of_mem _ (List.mem_append_right _ (List.mem_append_right _ (List.mem_append_right _ h)))
theorem gk_c_X11_init : ∀ w ∈ wk_c_X11_init, goodWord w = true := List.forall_mem_cons.mpr ⟨rfl, (List.forall_mem_append.mpr ⟨(show ∀ w ∈ wo_c_X11_init, goodWord w = true by decide +kernel), (List.forall_mem_append.mpr ⟨(show ∀ w ∈ u_ws RJx4a65c TJx4a65c 3, goodWord w = true by decide +kernel), (List.forall_mem_append.mpr ⟨gk_c_Jx4a65c_init_da8c8, (show ∀ w ∈ u_ws RX11 TX11 11, goodWord w = true by decide +kernel)⟩)⟩)⟩)⟩
set_option maxHeartbeats 4000000 in
set_option maxRecDepth 100000 in
theorem c_X11_init (l : Launch) (hst : l.stackTraces = false) (D : va_G) (e0 : kE) (pa : Nat)  : kI l yX11_init wk_c_X11_init 4 80 8 24 D kStr e0 [] [(pa, .inr (16, [.int 0, .null, .null, .null, .null, .null, .null, .null, .null, .int 0, .int 0]))] [.ref pa] (fun v w t => ∃ (q1 : Nat), ∃ (q2 : Nat), ∃ (q3 : Nat), ∃ (q4 : Nat), ∃ (q5 : Nat), ∃ (q6 : Nat), ∃ (q7 : Nat), ∃ (q8 : Nat), v = none ∧ w = [(pa, .inr (16, [.int 0, .ref q1, .ref q2, .ref q3, .ref q4, .ref q5, .ref q6, .ref q7, .ref q8, .int 0, .int 0])), (q1, .inr (4, [.int 0, .ref e0.1, .int 0])), (q2, .inr (4, [.int 0, .ref e0.1, .int 0])), (q3, .inr (4, [.int 0, .ref e0.1, .int 0])), (q4, .inr (4, [.int 0, .ref e0.1, .int 0])), (q5, .inr (4, [.int 0, .ref e0.1, .int 0])), (q6, .inr (4, [.int 0, .ref e0.1, .int 0])), (q7, .inr (4, [.int 0, .ref e0.1, .int 0])), (q8, .inr (4, [.int 0, .ref e0.1, .int 0]))] ∧ t = []) := by
  refine k_ofI (cc := cX11_init) (maxL := 1) (ret := none) (by decide) rfl (Nat.le_of_ble_eq_true rfl) ?_
  intro p e s m args below meth c A ls hx hb hr hts hown hlocks hml hin hh hl
  have hown : s.vm.findClass RX11 = some m.cls := hown
  have hl : lv_has ls 1 [(0, .ref pa)] := hl
  have hin : meth.name = "<init>" := hin
  refine lv_aload_n hx hb dX11_init_0 rfl (lv_at hl 0 rfl) ?_
  refine W.objInit hx hb hown (hts _ (wo_c_X11_init_in _ (List.mem_of_getElem? (i := 0) rfl))) (hts _ (wo_c_X11_init_in _ (List.mem_of_getElem? (i := 1) rfl))) (hts _ (wo_c_X11_init_in _ (List.mem_of_getElem? (i := 2) rfl))) rfl (by rw [hml]; exact hl.1) rfl dX11_init_1 (Nat.le_of_ble_eq_true rfl) (Nat.le_of_ble_eq_true rfl) ?_
  refine W.eq (g2 := F0 m 4 ls []) rfl ?_
  refine lv_aload_n hx hb dX11_init_4 rfl (lv_at hl 0 rfl) ?_
  refine k_new (C := RJx4a65c) (T := TJx4a65c) (N := 3) (ci := 4) (fs := [.int 0, .null, .int 0]) hx hb hts ws_c_X11_init_0 tyJx4a65c tyJx4a65c_ok hown (hts _ (wo_c_X11_init_in _ (List.mem_of_getElem? (i := 3) rfl))) (hts _ (wo_c_X11_init_in _ (List.mem_of_getElem? (i := 4) rfl))) (hts _ (wo_c_X11_init_in _ (List.mem_of_getElem? (i := 5) rfl))) hh rfl (fun j hj => by rcases (show j = 0 ∨ j = 1 ∨ j = 2 by omega) with rfl | rfl | rfl <;> rfl) (Nat.le_of_ble_eq_true rfl) (Nat.le_of_ble_eq_true rfl) dX11_init_5 (fun q1 H hh => ?_)
  have hh : kH D kStr e0 A s H [(pa, .inr (16, [.int 0, .null, .null, .null, .null, .null, .null, .null, .null, .int 0, .int 0])), (q1, .inr (4, [.int 0, .null, .int 0]))] [] _ := hh
  refine lv_dup hx hb dX11_init_8 rfl ?_
  refine k_callI (wr := [(pa, .inr (16, [.int 0, .null, .null, .null, .null, .null, .null, .null, .null, .int 0, .int 0]))]) (rest := [.ref q1, .ref pa]) (own := RX11) ⟨hx, hb, hml, hown, hts⟩ (c_Jx4a65c_init_da8c8 l hst D e0 q1 ) (cwI 0 hts gi_c_X11_init_1 rfl rfl rfl (hts _ (wo_c_X11_init_in _ (List.mem_of_getElem? (i := 5) rfl))) (hts _ (wo_c_X11_init_in _ (List.mem_of_getElem? (i := 6) rfl))) (hts _ (wo_c_X11_init_in _ (List.mem_of_getElem? (i := 7) rfl))) rfl (by decide +kernel) ⟨Nat.le_of_ble_eq_true rfl, Nat.le_of_ble_eq_true rfl⟩) hh [1] [0] [] rfl rfl rfl rfl (by decide) rfl rfl hl rfl (Nat.le_of_ble_eq_true rfl) dX11_init_9 ⟨Nat.le_of_ble_eq_true rfl, (Nat.le_of_ble_eq_true rfl)⟩ (fun v w ty1 H locs hp hh => ?_)
  obtain ⟨rfl, rfl, rfl⟩ := hp
  have hh : kH D kStr e0 A s H [(pa, .inr (16, [.int 0, .null, .null, .null, .null, .null, .null, .null, .null, .int 0, .int 0])), (q1, .inr (4, [.int 0, .ref e0.1, .int 0]))] [] _ := hh
  refine W.eq (g2 := F0 m 12 ls [.ref q1, .ref pa]) (by first | rfl | decide) ?_
  refine k_putF (C := RX11) (T := TX11) (N := 11) (ci := 16) (v := .ref q1) (ws' := [(pa, .inr (16, [.int 0, .ref q1, .null, .null, .null, .null, .null, .null, .null, .int 0, .int 0])), (q1, .inr (4, [.int 0, .ref e0.1, .int 0]))]) hx hb hts ws_c_X11_init_2 tyX11 tyX11_ok nmX11 hown hh 0 rfl rfl 1 (by decide) (hts _ (wo_c_X11_init_in _ (List.mem_of_getElem? (i := 8) rfl))) rfl hin rfl rfl rfl (Nat.le_of_ble_eq_true rfl) dX11_init_12 rfl (fun H locs hh => ?_)
  refine lv_aload_n hx hb dX11_init_15 rfl (lv_at hl 0 rfl) ?_
  refine k_new (C := RJx4a65c) (T := TJx4a65c) (N := 3) (ci := 4) (fs := [.int 0, .null, .int 0]) hx hb hts ws_c_X11_init_0 tyJx4a65c tyJx4a65c_ok hown (hts _ (wo_c_X11_init_in _ (List.mem_of_getElem? (i := 3) rfl))) (hts _ (wo_c_X11_init_in _ (List.mem_of_getElem? (i := 4) rfl))) (hts _ (wo_c_X11_init_in _ (List.mem_of_getElem? (i := 5) rfl))) hh rfl (fun j hj => by rcases (show j = 0 ∨ j = 1 ∨ j = 2 by omega) with rfl | rfl | rfl <;> rfl) (Nat.le_of_ble_eq_true rfl) (Nat.le_of_ble_eq_true rfl) dX11_init_16 (fun q2 H hh => ?_)
  have hh : kH D kStr e0 A s H [(pa, .inr (16, [.int 0, .ref q1, .null, .null, .null, .null, .null, .null, .null, .int 0, .int 0])), (q1, .inr (4, [.int 0, .ref e0.1, .int 0])), (q2, .inr (4, [.int 0, .null, .int 0]))] [] _ := hh
  refine lv_dup hx hb dX11_init_19 rfl ?_
  refine k_callI (wr := [(pa, .inr (16, [.int 0, .ref q1, .null, .null, .null, .null, .null, .null, .null, .int 0, .int 0])), (q1, .inr (4, [.int 0, .ref e0.1, .int 0]))]) (rest := [.ref q2, .ref pa]) (own := RX11) ⟨hx, hb, hml, hown, hts⟩ (c_Jx4a65c_init_da8c8 l hst D e0 q2 ) (cwI 0 hts gi_c_X11_init_1 rfl rfl rfl (hts _ (wo_c_X11_init_in _ (List.mem_of_getElem? (i := 5) rfl))) (hts _ (wo_c_X11_init_in _ (List.mem_of_getElem? (i := 6) rfl))) (hts _ (wo_c_X11_init_in _ (List.mem_of_getElem? (i := 7) rfl))) rfl (by decide +kernel) ⟨Nat.le_of_ble_eq_true rfl, Nat.le_of_ble_eq_true rfl⟩) hh [2] [0, 1] [] rfl rfl rfl rfl (by decide) rfl rfl hl rfl (Nat.le_of_ble_eq_true rfl) dX11_init_20 ⟨Nat.le_of_ble_eq_true rfl, (Nat.le_of_ble_eq_true rfl)⟩ (fun v w ty1 H locs hp hh => ?_)
  obtain ⟨rfl, rfl, rfl⟩ := hp
  have hh : kH D kStr e0 A s H [(pa, .inr (16, [.int 0, .ref q1, .null, .null, .null, .null, .null, .null, .null, .int 0, .int 0])), (q1, .inr (4, [.int 0, .ref e0.1, .int 0])), (q2, .inr (4, [.int 0, .ref e0.1, .int 0]))] [] _ := hh
  refine W.eq (g2 := F0 m 23 ls [.ref q2, .ref pa]) (by first | rfl | decide) ?_
  refine k_putF (C := RX11) (T := TX11) (N := 11) (ci := 16) (v := .ref q2) (ws' := [(pa, .inr (16, [.int 0, .ref q1, .ref q2, .null, .null, .null, .null, .null, .null, .int 0, .int 0])), (q1, .inr (4, [.int 0, .ref e0.1, .int 0])), (q2, .inr (4, [.int 0, .ref e0.1, .int 0]))]) hx hb hts ws_c_X11_init_2 tyX11 tyX11_ok nmX11 hown hh 0 rfl rfl 2 (by decide) (hts _ (wo_c_X11_init_in _ (List.mem_of_getElem? (i := 9) rfl))) rfl hin rfl rfl rfl (Nat.le_of_ble_eq_true rfl) dX11_init_23 rfl (fun H locs hh => ?_)
  refine lv_aload_n hx hb dX11_init_26 rfl (lv_at hl 0 rfl) ?_
  refine k_new (C := RJx4a65c) (T := TJx4a65c) (N := 3) (ci := 4) (fs := [.int 0, .null, .int 0]) hx hb hts ws_c_X11_init_0 tyJx4a65c tyJx4a65c_ok hown (hts _ (wo_c_X11_init_in _ (List.mem_of_getElem? (i := 3) rfl))) (hts _ (wo_c_X11_init_in _ (List.mem_of_getElem? (i := 4) rfl))) (hts _ (wo_c_X11_init_in _ (List.mem_of_getElem? (i := 5) rfl))) hh rfl (fun j hj => by rcases (show j = 0 ∨ j = 1 ∨ j = 2 by omega) with rfl | rfl | rfl <;> rfl) (Nat.le_of_ble_eq_true rfl) (Nat.le_of_ble_eq_true rfl) dX11_init_27 (fun q3 H hh => ?_)
  have hh : kH D kStr e0 A s H [(pa, .inr (16, [.int 0, .ref q1, .ref q2, .null, .null, .null, .null, .null, .null, .int 0, .int 0])), (q1, .inr (4, [.int 0, .ref e0.1, .int 0])), (q2, .inr (4, [.int 0, .ref e0.1, .int 0])), (q3, .inr (4, [.int 0, .null, .int 0]))] [] _ := hh
  refine lv_dup hx hb dX11_init_30 rfl ?_
  refine k_callI (wr := [(pa, .inr (16, [.int 0, .ref q1, .ref q2, .null, .null, .null, .null, .null, .null, .int 0, .int 0])), (q1, .inr (4, [.int 0, .ref e0.1, .int 0])), (q2, .inr (4, [.int 0, .ref e0.1, .int 0]))]) (rest := [.ref q3, .ref pa]) (own := RX11) ⟨hx, hb, hml, hown, hts⟩ (c_Jx4a65c_init_da8c8 l hst D e0 q3 ) (cwI 0 hts gi_c_X11_init_1 rfl rfl rfl (hts _ (wo_c_X11_init_in _ (List.mem_of_getElem? (i := 5) rfl))) (hts _ (wo_c_X11_init_in _ (List.mem_of_getElem? (i := 6) rfl))) (hts _ (wo_c_X11_init_in _ (List.mem_of_getElem? (i := 7) rfl))) rfl (by decide +kernel) ⟨Nat.le_of_ble_eq_true rfl, Nat.le_of_ble_eq_true rfl⟩) hh [3] [0, 1, 2] [] rfl rfl rfl rfl (by decide) rfl rfl hl rfl (Nat.le_of_ble_eq_true rfl) dX11_init_31 ⟨Nat.le_of_ble_eq_true rfl, (Nat.le_of_ble_eq_true rfl)⟩ (fun v w ty1 H locs hp hh => ?_)
  obtain ⟨rfl, rfl, rfl⟩ := hp
  have hh : kH D kStr e0 A s H [(pa, .inr (16, [.int 0, .ref q1, .ref q2, .null, .null, .null, .null, .null, .null, .int 0, .int 0])), (q1, .inr (4, [.int 0, .ref e0.1, .int 0])), (q2, .inr (4, [.int 0, .ref e0.1, .int 0])), (q3, .inr (4, [.int 0, .ref e0.1, .int 0]))] [] _ := hh
  refine W.eq (g2 := F0 m 34 ls [.ref q3, .ref pa]) (by first | rfl | decide) ?_
  refine k_putF (C := RX11) (T := TX11) (N := 11) (ci := 16) (v := .ref q3) (ws' := [(pa, .inr (16, [.int 0, .ref q1, .ref q2, .ref q3, .null, .null, .null, .null, .null, .int 0, .int 0])), (q1, .inr (4, [.int 0, .ref e0.1, .int 0])), (q2, .inr (4, [.int 0, .ref e0.1, .int 0])), (q3, .inr (4, [.int 0, .ref e0.1, .int 0]))]) hx hb hts ws_c_X11_init_2 tyX11 tyX11_ok nmX11 hown hh 0 rfl rfl 3 (by decide) (hts _ (wo_c_X11_init_in _ (List.mem_of_getElem? (i := 10) rfl))) rfl hin rfl rfl rfl (Nat.le_of_ble_eq_true rfl) dX11_init_34 rfl (fun H locs hh => ?_)
  refine lv_aload_n hx hb dX11_init_37 rfl (lv_at hl 0 rfl) ?_
  refine k_new (C := RJx4a65c) (T := TJx4a65c) (N := 3) (ci := 4) (fs := [.int 0, .null, .int 0]) hx hb hts ws_c_X11_init_0 tyJx4a65c tyJx4a65c_ok hown (hts _ (wo_c_X11_init_in _ (List.mem_of_getElem? (i := 3) rfl))) (hts _ (wo_c_X11_init_in _ (List.mem_of_getElem? (i := 4) rfl))) (hts _ (wo_c_X11_init_in _ (List.mem_of_getElem? (i := 5) rfl))) hh rfl (fun j hj => by rcases (show j = 0 ∨ j = 1 ∨ j = 2 by omega) with rfl | rfl | rfl <;> rfl) (Nat.le_of_ble_eq_true rfl) (Nat.le_of_ble_eq_true rfl) dX11_init_38 (fun q4 H hh => ?_)
  have hh : kH D kStr e0 A s H [(pa, .inr (16, [.int 0, .ref q1, .ref q2, .ref q3, .null, .null, .null, .null, .null, .int 0, .int 0])), (q1, .inr (4, [.int 0, .ref e0.1, .int 0])), (q2, .inr (4, [.int 0, .ref e0.1, .int 0])), (q3, .inr (4, [.int 0, .ref e0.1, .int 0])), (q4, .inr (4, [.int 0, .null, .int 0]))] [] _ := hh
  refine lv_dup hx hb dX11_init_41 rfl ?_
  refine k_callI (wr := [(pa, .inr (16, [.int 0, .ref q1, .ref q2, .ref q3, .null, .null, .null, .null, .null, .int 0, .int 0])), (q1, .inr (4, [.int 0, .ref e0.1, .int 0])), (q2, .inr (4, [.int 0, .ref e0.1, .int 0])), (q3, .inr (4, [.int 0, .ref e0.1, .int 0]))]) (rest := [.ref q4, .ref pa]) (own := RX11) ⟨hx, hb, hml, hown, hts⟩ (c_Jx4a65c_init_da8c8 l hst D e0 q4 ) (cwI 0 hts gi_c_X11_init_1 rfl rfl rfl (hts _ (wo_c_X11_init_in _ (List.mem_of_getElem? (i := 5) rfl))) (hts _ (wo_c_X11_init_in _ (List.mem_of_getElem? (i := 6) rfl))) (hts _ (wo_c_X11_init_in _ (List.mem_of_getElem? (i := 7) rfl))) rfl (by decide +kernel) ⟨Nat.le_of_ble_eq_true rfl, Nat.le_of_ble_eq_true rfl⟩) hh [4] [0, 1, 2, 3] [] rfl rfl rfl rfl (by decide) rfl rfl hl rfl (Nat.le_of_ble_eq_true rfl) dX11_init_42 ⟨Nat.le_of_ble_eq_true rfl, (Nat.le_of_ble_eq_true rfl)⟩ (fun v w ty1 H locs hp hh => ?_)
  obtain ⟨rfl, rfl, rfl⟩ := hp
  have hh : kH D kStr e0 A s H [(pa, .inr (16, [.int 0, .ref q1, .ref q2, .ref q3, .null, .null, .null, .null, .null, .int 0, .int 0])), (q1, .inr (4, [.int 0, .ref e0.1, .int 0])), (q2, .inr (4, [.int 0, .ref e0.1, .int 0])), (q3, .inr (4, [.int 0, .ref e0.1, .int 0])), (q4, .inr (4, [.int 0, .ref e0.1, .int 0]))] [] _ := hh
  refine W.eq (g2 := F0 m 45 ls [.ref q4, .ref pa]) (by first | rfl | decide) ?_
  refine k_putF (C := RX11) (T := TX11) (N := 11) (ci := 16) (v := .ref q4) (ws' := [(pa, .inr (16, [.int 0, .ref q1, .ref q2, .ref q3, .ref q4, .null, .null, .null, .null, .int 0, .int 0])), (q1, .inr (4, [.int 0, .ref e0.1, .int 0])), (q2, .inr (4, [.int 0, .ref e0.1, .int 0])), (q3, .inr (4, [.int 0, .ref e0.1, .int 0])), (q4, .inr (4, [.int 0, .ref e0.1, .int 0]))]) hx hb hts ws_c_X11_init_2 tyX11 tyX11_ok nmX11 hown hh 0 rfl rfl 4 (by decide) (hts _ (wo_c_X11_init_in _ (List.mem_of_getElem? (i := 11) rfl))) rfl hin rfl rfl rfl (Nat.le_of_ble_eq_true rfl) dX11_init_45 rfl (fun H locs hh => ?_)
  refine lv_aload_n hx hb dX11_init_48 rfl (lv_at hl 0 rfl) ?_
  refine k_new (C := RJx4a65c) (T := TJx4a65c) (N := 3) (ci := 4) (fs := [.int 0, .null, .int 0]) hx hb hts ws_c_X11_init_0 tyJx4a65c tyJx4a65c_ok hown (hts _ (wo_c_X11_init_in _ (List.mem_of_getElem? (i := 3) rfl))) (hts _ (wo_c_X11_init_in _ (List.mem_of_getElem? (i := 4) rfl))) (hts _ (wo_c_X11_init_in _ (List.mem_of_getElem? (i := 5) rfl))) hh rfl (fun j hj => by rcases (show j = 0 ∨ j = 1 ∨ j = 2 by omega) with rfl | rfl | rfl <;> rfl) (Nat.le_of_ble_eq_true rfl) (Nat.le_of_ble_eq_true rfl) dX11_init_49 (fun q5 H hh => ?_)
  have hh : kH D kStr e0 A s H [(pa, .inr (16, [.int 0, .ref q1, .ref q2, .ref q3, .ref q4, .null, .null, .null, .null, .int 0, .int 0])), (q1, .inr (4, [.int 0, .ref e0.1, .int 0])), (q2, .inr (4, [.int 0, .ref e0.1, .int 0])), (q3, .inr (4, [.int 0, .ref e0.1, .int 0])), (q4, .inr (4, [.int 0, .ref e0.1, .int 0])), (q5, .inr (4, [.int 0, .null, .int 0]))] [] _ := hh
  refine lv_dup hx hb dX11_init_52 rfl ?_
  refine k_callI (wr := [(pa, .inr (16, [.int 0, .ref q1, .ref q2, .ref q3, .ref q4, .null, .null, .null, .null, .int 0, .int 0])), (q1, .inr (4, [.int 0, .ref e0.1, .int 0])), (q2, .inr (4, [.int 0, .ref e0.1, .int 0])), (q3, .inr (4, [.int 0, .ref e0.1, .int 0])), (q4, .inr (4, [.int 0, .ref e0.1, .int 0]))]) (rest := [.ref q5, .ref pa]) (own := RX11) ⟨hx, hb, hml, hown, hts⟩ (c_Jx4a65c_init_da8c8 l hst D e0 q5 ) (cwI 0 hts gi_c_X11_init_1 rfl rfl rfl (hts _ (wo_c_X11_init_in _ (List.mem_of_getElem? (i := 5) rfl))) (hts _ (wo_c_X11_init_in _ (List.mem_of_getElem? (i := 6) rfl))) (hts _ (wo_c_X11_init_in _ (List.mem_of_getElem? (i := 7) rfl))) rfl (by decide +kernel) ⟨Nat.le_of_ble_eq_true rfl, Nat.le_of_ble_eq_true rfl⟩) hh [5] [0, 1, 2, 3, 4] [] rfl rfl rfl rfl (by decide) rfl rfl hl rfl (Nat.le_of_ble_eq_true rfl) dX11_init_53 ⟨Nat.le_of_ble_eq_true rfl, (Nat.le_of_ble_eq_true rfl)⟩ (fun v w ty1 H locs hp hh => ?_)
  obtain ⟨rfl, rfl, rfl⟩ := hp
  have hh : kH D kStr e0 A s H [(pa, .inr (16, [.int 0, .ref q1, .ref q2, .ref q3, .ref q4, .null, .null, .null, .null, .int 0, .int 0])), (q1, .inr (4, [.int 0, .ref e0.1, .int 0])), (q2, .inr (4, [.int 0, .ref e0.1, .int 0])), (q3, .inr (4, [.int 0, .ref e0.1, .int 0])), (q4, .inr (4, [.int 0, .ref e0.1, .int 0])), (q5, .inr (4, [.int 0, .ref e0.1, .int 0]))] [] _ := hh
  refine W.eq (g2 := F0 m 56 ls [.ref q5, .ref pa]) (by first | rfl | decide) ?_
  refine k_putF (C := RX11) (T := TX11) (N := 11) (ci := 16) (v := .ref q5) (ws' := [(pa, .inr (16, [.int 0, .ref q1, .ref q2, .ref q3, .ref q4, .ref q5, .null, .null, .null, .int 0, .int 0])), (q1, .inr (4, [.int 0, .ref e0.1, .int 0])), (q2, .inr (4, [.int 0, .ref e0.1, .int 0])), (q3, .inr (4, [.int 0, .ref e0.1, .int 0])), (q4, .inr (4, [.int 0, .ref e0.1, .int 0])), (q5, .inr (4, [.int 0, .ref e0.1, .int 0]))]) hx hb hts ws_c_X11_init_2 tyX11 tyX11_ok nmX11 hown hh 0 rfl rfl 5 (by decide) (hts _ (wo_c_X11_init_in _ (List.mem_of_getElem? (i := 12) rfl))) rfl hin rfl rfl rfl (Nat.le_of_ble_eq_true rfl) dX11_init_56 rfl (fun H locs hh => ?_)
  refine lv_aload_n hx hb dX11_init_59 rfl (lv_at hl 0 rfl) ?_
  refine k_new (C := RJx4a65c) (T := TJx4a65c) (N := 3) (ci := 4) (fs := [.int 0, .null, .int 0]) hx hb hts ws_c_X11_init_0 tyJx4a65c tyJx4a65c_ok hown (hts _ (wo_c_X11_init_in _ (List.mem_of_getElem? (i := 3) rfl))) (hts _ (wo_c_X11_init_in _ (List.mem_of_getElem? (i := 4) rfl))) (hts _ (wo_c_X11_init_in _ (List.mem_of_getElem? (i := 5) rfl))) hh rfl (fun j hj => by rcases (show j = 0 ∨ j = 1 ∨ j = 2 by omega) with rfl | rfl | rfl <;> rfl) (Nat.le_of_ble_eq_true rfl) (Nat.le_of_ble_eq_true rfl) dX11_init_60 (fun q6 H hh => ?_)
  have hh : kH D kStr e0 A s H [(pa, .inr (16, [.int 0, .ref q1, .ref q2, .ref q3, .ref q4, .ref q5, .null, .null, .null, .int 0, .int 0])), (q1, .inr (4, [.int 0, .ref e0.1, .int 0])), (q2, .inr (4, [.int 0, .ref e0.1, .int 0])), (q3, .inr (4, [.int 0, .ref e0.1, .int 0])), (q4, .inr (4, [.int 0, .ref e0.1, .int 0])), (q5, .inr (4, [.int 0, .ref e0.1, .int 0])), (q6, .inr (4, [.int 0, .null, .int 0]))] [] _ := hh
  refine lv_dup hx hb dX11_init_63 rfl ?_
  refine k_callI (wr := [(pa, .inr (16, [.int 0, .ref q1, .ref q2, .ref q3, .ref q4, .ref q5, .null, .null, .null, .int 0, .int 0])), (q1, .inr (4, [.int 0, .ref e0.1, .int 0])), (q2, .inr (4, [.int 0, .ref e0.1, .int 0])), (q3, .inr (4, [.int 0, .ref e0.1, .int 0])), (q4, .inr (4, [.int 0, .ref e0.1, .int 0])), (q5, .inr (4, [.int 0, .ref e0.1, .int 0]))]) (rest := [.ref q6, .ref pa]) (own := RX11) ⟨hx, hb, hml, hown, hts⟩ (c_Jx4a65c_init_da8c8 l hst D e0 q6 ) (cwI 0 hts gi_c_X11_init_1 rfl rfl rfl (hts _ (wo_c_X11_init_in _ (List.mem_of_getElem? (i := 5) rfl))) (hts _ (wo_c_X11_init_in _ (List.mem_of_getElem? (i := 6) rfl))) (hts _ (wo_c_X11_init_in _ (List.mem_of_getElem? (i := 7) rfl))) rfl (by decide +kernel) ⟨Nat.le_of_ble_eq_true rfl, Nat.le_of_ble_eq_true rfl⟩) hh [6] [0, 1, 2, 3, 4, 5] [] rfl rfl rfl rfl (by decide) rfl rfl hl rfl (Nat.le_of_ble_eq_true rfl) dX11_init_64 ⟨Nat.le_of_ble_eq_true rfl, (Nat.le_of_ble_eq_true rfl)⟩ (fun v w ty1 H locs hp hh => ?_)
  obtain ⟨rfl, rfl, rfl⟩ := hp
  have hh : kH D kStr e0 A s H [(pa, .inr (16, [.int 0, .ref q1, .ref q2, .ref q3, .ref q4, .ref q5, .null, .null, .null, .int 0, .int 0])), (q1, .inr (4, [.int 0, .ref e0.1, .int 0])), (q2, .inr (4, [.int 0, .ref e0.1, .int 0])), (q3, .inr (4, [.int 0, .ref e0.1, .int 0])), (q4, .inr (4, [.int 0, .ref e0.1, .int 0])), (q5, .inr (4, [.int 0, .ref e0.1, .int 0])), (q6, .inr (4, [.int 0, .ref e0.1, .int 0]))] [] _ := hh
  refine W.eq (g2 := F0 m 67 ls [.ref q6, .ref pa]) (by first | rfl | decide) ?_
  refine k_putF (C := RX11) (T := TX11) (N := 11) (ci := 16) (v := .ref q6) (ws' := [(pa, .inr (16, [.int 0, .ref q1, .ref q2, .ref q3, .ref q4, .ref q5, .ref q6, .null, .null, .int 0, .int 0])), (q1, .inr (4, [.int 0, .ref e0.1, .int 0])), (q2, .inr (4, [.int 0, .ref e0.1, .int 0])), (q3, .inr (4, [.int 0, .ref e0.1, .int 0])), (q4, .inr (4, [.int 0, .ref e0.1, .int 0])), (q5, .inr (4, [.int 0, .ref e0.1, .int 0])), (q6, .inr (4, [.int 0, .ref e0.1, .int 0]))]) hx hb hts ws_c_X11_init_2 tyX11 tyX11_ok nmX11 hown hh 0 rfl rfl 6 (by decide) (hts _ (wo_c_X11_init_in _ (List.mem_of_getElem? (i := 13) rfl))) rfl hin rfl rfl rfl (Nat.le_of_ble_eq_true rfl) dX11_init_67 rfl (fun H locs hh => ?_)
  refine lv_aload_n hx hb dX11_init_70 rfl (lv_at hl 0 rfl) ?_
  refine k_new (C := RJx4a65c) (T := TJx4a65c) (N := 3) (ci := 4) (fs := [.int 0, .null, .int 0]) hx hb hts ws_c_X11_init_0 tyJx4a65c tyJx4a65c_ok hown (hts _ (wo_c_X11_init_in _ (List.mem_of_getElem? (i := 3) rfl))) (hts _ (wo_c_X11_init_in _ (List.mem_of_getElem? (i := 4) rfl))) (hts _ (wo_c_X11_init_in _ (List.mem_of_getElem? (i := 5) rfl))) hh rfl (fun j hj => by rcases (show j = 0 ∨ j = 1 ∨ j = 2 by omega) with rfl | rfl | rfl <;> rfl) (Nat.le_of_ble_eq_true rfl) (Nat.le_of_ble_eq_true rfl) dX11_init_71 (fun q7 H hh => ?_)
  have hh : kH D kStr e0 A s H [(pa, .inr (16, [.int 0, .ref q1, .ref q2, .ref q3, .ref q4, .ref q5, .ref q6, .null, .null, .int 0, .int 0])), (q1, .inr (4, [.int 0, .ref e0.1, .int 0])), (q2, .inr (4, [.int 0, .ref e0.1, .int 0])), (q3, .inr (4, [.int 0, .ref e0.1, .int 0])), (q4, .inr (4, [.int 0, .ref e0.1, .int 0])), (q5, .inr (4, [.int 0, .ref e0.1, .int 0])), (q6, .inr (4, [.int 0, .ref e0.1, .int 0])), (q7, .inr (4, [.int 0, .null, .int 0]))] [] _ := hh
  refine lv_dup hx hb dX11_init_74 rfl ?_
  refine k_callI (wr := [(pa, .inr (16, [.int 0, .ref q1, .ref q2, .ref q3, .ref q4, .ref q5, .ref q6, .null, .null, .int 0, .int 0])), (q1, .inr (4, [.int 0, .ref e0.1, .int 0])), (q2, .inr (4, [.int 0, .ref e0.1, .int 0])), (q3, .inr (4, [.int 0, .ref e0.1, .int 0])), (q4, .inr (4, [.int 0, .ref e0.1, .int 0])), (q5, .inr (4, [.int 0, .ref e0.1, .int 0])), (q6, .inr (4, [.int 0, .ref e0.1, .int 0]))]) (rest := [.ref q7, .ref pa]) (own := RX11) ⟨hx, hb, hml, hown, hts⟩ (c_Jx4a65c_init_da8c8 l hst D e0 q7 ) (cwI 0 hts gi_c_X11_init_1 rfl rfl rfl (hts _ (wo_c_X11_init_in _ (List.mem_of_getElem? (i := 5) rfl))) (hts _ (wo_c_X11_init_in _ (List.mem_of_getElem? (i := 6) rfl))) (hts _ (wo_c_X11_init_in _ (List.mem_of_getElem? (i := 7) rfl))) rfl (by decide +kernel) ⟨Nat.le_of_ble_eq_true rfl, Nat.le_of_ble_eq_true rfl⟩) hh [7] [0, 1, 2, 3, 4, 5, 6] [] rfl rfl rfl rfl (by decide) rfl rfl hl rfl (Nat.le_of_ble_eq_true rfl) dX11_init_75 ⟨Nat.le_of_ble_eq_true rfl, (Nat.le_of_ble_eq_true rfl)⟩ (fun v w ty1 H locs hp hh => ?_)
  obtain ⟨rfl, rfl, rfl⟩ := hp
  have hh : kH D kStr e0 A s H [(pa, .inr (16, [.int 0, .ref q1, .ref q2, .ref q3, .ref q4, .ref q5, .ref q6, .null, .null, .int 0, .int 0])), (q1, .inr (4, [.int 0, .ref e0.1, .int 0])), (q2, .inr (4, [.int 0, .ref e0.1, .int 0])), (q3, .inr (4, [.int 0, .ref e0.1, .int 0])), (q4, .inr (4, [.int 0, .ref e0.1, .int 0])), (q5, .inr (4, [.int 0, .ref e0.1, .int 0])), (q6, .inr (4, [.int 0, .ref e0.1, .int 0])), (q7, .inr (4, [.int 0, .ref e0.1, .int 0]))] [] _ := hh
  refine W.eq (g2 := F0 m 78 ls [.ref q7, .ref pa]) (by first | rfl | decide) ?_
  refine k_putF (C := RX11) (T := TX11) (N := 11) (ci := 16) (v := .ref q7) (ws' := [(pa, .inr (16, [.int 0, .ref q1, .ref q2, .ref q3, .ref q4, .ref q5, .ref q6, .ref q7, .null, .int 0, .int 0])), (q1, .inr (4, [.int 0, .ref e0.1, .int 0])), (q2, .inr (4, [.int 0, .ref e0.1, .int 0])), (q3, .inr (4, [.int 0, .ref e0.1, .int 0])), (q4, .inr (4, [.int 0, .ref e0.1, .int 0])), (q5, .inr (4, [.int 0, .ref e0.1, .int 0])), (q6, .inr (4, [.int 0, .ref e0.1, .int 0])), (q7, .inr (4, [.int 0, .ref e0.1, .int 0]))]) hx hb hts ws_c_X11_init_2 tyX11 tyX11_ok nmX11 hown hh 0 rfl rfl 7 (by decide) (hts _ (wo_c_X11_init_in _ (List.mem_of_getElem? (i := 14) rfl))) rfl hin rfl rfl rfl (Nat.le_of_ble_eq_true rfl) dX11_init_78 rfl (fun H locs hh => ?_)
  refine lv_aload_n hx hb dX11_init_81 rfl (lv_at hl 0 rfl) ?_
  refine k_new (C := RJx4a65c) (T := TJx4a65c) (N := 3) (ci := 4) (fs := [.int 0, .null, .int 0]) hx hb hts ws_c_X11_init_0 tyJx4a65c tyJx4a65c_ok hown (hts _ (wo_c_X11_init_in _ (List.mem_of_getElem? (i := 3) rfl))) (hts _ (wo_c_X11_init_in _ (List.mem_of_getElem? (i := 4) rfl))) (hts _ (wo_c_X11_init_in _ (List.mem_of_getElem? (i := 5) rfl))) hh rfl (fun j hj => by rcases (show j = 0 ∨ j = 1 ∨ j = 2 by omega) with rfl | rfl | rfl <;> rfl) (Nat.le_of_ble_eq_true rfl) (Nat.le_of_ble_eq_true rfl) dX11_init_82 (fun q8 H hh => ?_)
  have hh : kH D kStr e0 A s H [(pa, .inr (16, [.int 0, .ref q1, .ref q2, .ref q3, .ref q4, .ref q5, .ref q6, .ref q7, .null, .int 0, .int 0])), (q1, .inr (4, [.int 0, .ref e0.1, .int 0])), (q2, .inr (4, [.int 0, .ref e0.1, .int 0])), (q3, .inr (4, [.int 0, .ref e0.1, .int 0])), (q4, .inr (4, [.int 0, .ref e0.1, .int 0])), (q5, .inr (4, [.int 0, .ref e0.1, .int 0])), (q6, .inr (4, [.int 0, .ref e0.1, .int 0])), (q7, .inr (4, [.int 0, .ref e0.1, .int 0])), (q8, .inr (4, [.int 0, .null, .int 0]))] [] _ := hh
  refine lv_dup hx hb dX11_init_85 rfl ?_
  refine k_callI (wr := [(pa, .inr (16, [.int 0, .ref q1, .ref q2, .ref q3, .ref q4, .ref q5, .ref q6, .ref q7, .null, .int 0, .int 0])), (q1, .inr (4, [.int 0, .ref e0.1, .int 0])), (q2, .inr (4, [.int 0, .ref e0.1, .int 0])), (q3, .inr (4, [.int 0, .ref e0.1, .int 0])), (q4, .inr (4, [.int 0, .ref e0.1, .int 0])), (q5, .inr (4, [.int 0, .ref e0.1, .int 0])), (q6, .inr (4, [.int 0, .ref e0.1, .int 0])), (q7, .inr (4, [.int 0, .ref e0.1, .int 0]))]) (rest := [.ref q8, .ref pa]) (own := RX11) ⟨hx, hb, hml, hown, hts⟩ (c_Jx4a65c_init_da8c8 l hst D e0 q8 ) (cwI 0 hts gi_c_X11_init_1 rfl rfl rfl (hts _ (wo_c_X11_init_in _ (List.mem_of_getElem? (i := 5) rfl))) (hts _ (wo_c_X11_init_in _ (List.mem_of_getElem? (i := 6) rfl))) (hts _ (wo_c_X11_init_in _ (List.mem_of_getElem? (i := 7) rfl))) rfl (by decide +kernel) ⟨Nat.le_of_ble_eq_true rfl, Nat.le_of_ble_eq_true rfl⟩) hh [8] [0, 1, 2, 3, 4, 5, 6, 7] [] rfl rfl rfl rfl (by decide) rfl rfl hl rfl (Nat.le_of_ble_eq_true rfl) dX11_init_86 ⟨Nat.le_of_ble_eq_true rfl, (Nat.le_of_ble_eq_true rfl)⟩ (fun v w ty1 H locs hp hh => ?_)
  obtain ⟨rfl, rfl, rfl⟩ := hp
  have hh : kH D kStr e0 A s H [(pa, .inr (16, [.int 0, .ref q1, .ref q2, .ref q3, .ref q4, .ref q5, .ref q6, .ref q7, .null, .int 0, .int 0])), (q1, .inr (4, [.int 0, .ref e0.1, .int 0])), (q2, .inr (4, [.int 0, .ref e0.1, .int 0])), (q3, .inr (4, [.int 0, .ref e0.1, .int 0])), (q4, .inr (4, [.int 0, .ref e0.1, .int 0])), (q5, .inr (4, [.int 0, .ref e0.1, .int 0])), (q6, .inr (4, [.int 0, .ref e0.1, .int 0])), (q7, .inr (4, [.int 0, .ref e0.1, .int 0])), (q8, .inr (4, [.int 0, .ref e0.1, .int 0]))] [] _ := hh
  refine W.eq (g2 := F0 m 89 ls [.ref q8, .ref pa]) (by first | rfl | decide) ?_
  refine k_putF (C := RX11) (T := TX11) (N := 11) (ci := 16) (v := .ref q8) (ws' := [(pa, .inr (16, [.int 0, .ref q1, .ref q2, .ref q3, .ref q4, .ref q5, .ref q6, .ref q7, .ref q8, .int 0, .int 0])), (q1, .inr (4, [.int 0, .ref e0.1, .int 0])), (q2, .inr (4, [.int 0, .ref e0.1, .int 0])), (q3, .inr (4, [.int 0, .ref e0.1, .int 0])), (q4, .inr (4, [.int 0, .ref e0.1, .int 0])), (q5, .inr (4, [.int 0, .ref e0.1, .int 0])), (q6, .inr (4, [.int 0, .ref e0.1, .int 0])), (q7, .inr (4, [.int 0, .ref e0.1, .int 0])), (q8, .inr (4, [.int 0, .ref e0.1, .int 0]))]) hx hb hts ws_c_X11_init_2 tyX11 tyX11_ok nmX11 hown hh 0 rfl rfl 8 (by decide) (hts _ (wo_c_X11_init_in _ (List.mem_of_getElem? (i := 15) rfl))) rfl hin rfl rfl rfl (Nat.le_of_ble_eq_true rfl) dX11_init_89 rfl (fun H locs hh => ?_)
  refine lv_aload_n hx hb dX11_init_92 rfl (lv_at hl 0 rfl) ?_
  refine lv_iconst (v := 0) hx hb dX11_init_93 (by decide) ?_
  refine k_put (C := RX11) (T := TX11) (N := 11) (ci := 16) (v := .int 0) (ws' := [(pa, .inr (16, [.int 0, .ref q1, .ref q2, .ref q3, .ref q4, .ref q5, .ref q6, .ref q7, .ref q8, .int 0, .int 0])), (q1, .inr (4, [.int 0, .ref e0.1, .int 0])), (q2, .inr (4, [.int 0, .ref e0.1, .int 0])), (q3, .inr (4, [.int 0, .ref e0.1, .int 0])), (q4, .inr (4, [.int 0, .ref e0.1, .int 0])), (q5, .inr (4, [.int 0, .ref e0.1, .int 0])), (q6, .inr (4, [.int 0, .ref e0.1, .int 0])), (q7, .inr (4, [.int 0, .ref e0.1, .int 0])), (q8, .inr (4, [.int 0, .ref e0.1, .int 0]))]) hx hb hts ws_c_X11_init_2 tyX11 tyX11_ok nmX11 hown hh 0 rfl rfl 0 (by decide) (hts _ (wo_c_X11_init_in _ (List.mem_of_getElem? (i := 16) rfl))) rfl rfl rfl (Nat.le_of_ble_eq_true rfl) dX11_init_94 rfl (fun H locs hh => ?_)
  exact k_endV hx hb hr hlocks hh ⟨q1, q2, q3, q4, q5, q6, q7, q8, rfl, rfl, rfl⟩ [0, 1, 2, 3, 4, 5, 6, 7, 8] [] rfl rfl rfl (Nat.le_of_ble_eq_true rfl) (Nat.le_of_ble_eq_true rfl) dX11_init_97
