theorem dX11_rowOf_0 : decode cX11_rowOf 0 = .ok (.aload_n 0, 1) := by decide +kernel
theorem dX11_rowOf_1 : decode cX11_rowOf 1 = .ok (.getfield 25, 3) := by decide +kernel
theorem dX11_rowOf_4 : decode cX11_rowOf 4 = .ok (.iload_n 1, 1) := by decide +kernel
theorem dX11_rowOf_5 : decode cX11_rowOf 5 = .ok (.invokevirtual 70, 3) := by decide +kernel
theorem dX11_rowOf_8 : decode cX11_rowOf 8 = .ok (.checkcast 84, 3) := by decide +kernel
theorem dX11_rowOf_11 : decode cX11_rowOf 11 = .ok (.getfield 86, 3) := by decide +kernel
theorem dX11_rowOf_14 : decode cX11_rowOf 14 = .ok (.areturn, 1) := by decide +kernel
theorem dX11_splice_0 : decode cX11_splice 0 = .ok (.aload_n 0, 1) := by decide +kernel
theorem dX11_splice_1 : decode cX11_splice 1 = .ok (.iload_n 1, 1) := by decide +kernel
theorem dX11_splice_2 : decode cX11_splice 2 = .ok (.i2l, 1) := by decide +kernel
theorem dX11_splice_3 : decode cX11_splice 3 = .ok (.lconst 0, 1) := by decide +kernel
theorem dX11_splice_4 : decode cX11_splice 4 = .ok (.aload_n 0, 1) := by decide +kernel
theorem dX11_splice_5 : decode cX11_splice 5 = .ok (.getfield 25, 3) := by decide +kernel
theorem dX11_splice_8 : decode cX11_splice 8 = .ok (.invokevirtual 50, 3) := by decide +kernel
theorem dX11_splice_11 : decode cX11_splice 11 = .ok (.iconst 1, 1) := by decide +kernel
theorem dX11_splice_12 : decode cX11_splice 12 = .ok (.isub, 1) := by decide +kernel
theorem dX11_splice_13 : decode cX11_splice 13 = .ok (.i2l, 1) := by decide +kernel
theorem dX11_splice_14 : decode cX11_splice 14 = .ok (.invokestatic 54, 3) := by decide +kernel
theorem dX11_splice_17 : decode cX11_splice 17 = .ok (.ifCond .eq 26, 3) := by decide +kernel
theorem dX11_splice_20 : decode cX11_splice 20 = .ok (.iload_n 2, 1) := by decide +kernel
theorem dX11_splice_21 : decode cX11_splice 21 = .ok (.i2l, 1) := by decide +kernel
theorem dX11_splice_22 : decode cX11_splice 22 = .ok (.lconst 0, 1) := by decide +kernel
theorem dX11_splice_23 : decode cX11_splice 23 = .ok (.aload_n 0, 1) := by decide +kernel
theorem dX11_splice_24 : decode cX11_splice 24 = .ok (.getfield 25, 3) := by decide +kernel
theorem dX11_splice_27 : decode cX11_splice 27 = .ok (.invokevirtual 50, 3) := by decide +kernel
theorem dX11_splice_30 : decode cX11_splice 30 = .ok (.iconst 1, 1) := by decide +kernel
theorem dX11_splice_31 : decode cX11_splice 31 = .ok (.isub, 1) := by decide +kernel
theorem dX11_splice_32 : decode cX11_splice 32 = .ok (.i2l, 1) := by decide +kernel
theorem dX11_splice_33 : decode cX11_splice 33 = .ok (.invokestatic 54, 3) := by decide +kernel
theorem dX11_splice_36 : decode cX11_splice 36 = .ok (.ifCond .eq 7, 3) := by decide +kernel
theorem dX11_splice_39 : decode cX11_splice 39 = .ok (.iconst 0, 1) := by decide +kernel
theorem dX11_splice_40 : decode cX11_splice 40 = .ok (.goto 4, 3) := by decide +kernel
theorem dX11_splice_44 : decode cX11_splice 44 = .ok (.putfield 46, 3) := by decide +kernel
theorem dX11_splice_47 : decode cX11_splice 47 = .ok (.aload_n 0, 1) := by decide +kernel
theorem dX11_splice_48 : decode cX11_splice 48 = .ok (.getfield 46, 3) := by decide +kernel
theorem dX11_splice_51 : decode cX11_splice 51 = .ok (.ifCond .le 5, 3) := by decide +kernel
theorem dX11_splice_56 : decode cX11_splice 56 = .ok (.aload_n 0, 1) := by decide +kernel
theorem dX11_splice_57 : decode cX11_splice 57 = .ok (.iload_n 1, 1) := by decide +kernel
theorem dX11_splice_58 : decode cX11_splice 58 = .ok (.invokevirtual 104, 3) := by decide +kernel
theorem dX11_splice_61 : decode cX11_splice 61 = .ok (.astore 4, 2) := by decide +kernel
theorem dX11_splice_63 : decode cX11_splice 63 = .ok (.aload_n 0, 1) := by decide +kernel
theorem dX11_splice_64 : decode cX11_splice 64 = .ok (.iload_n 2, 1) := by decide +kernel
theorem dX11_splice_65 : decode cX11_splice 65 = .ok (.invokevirtual 104, 3) := by decide +kernel
theorem dX11_splice_68 : decode cX11_splice 68 = .ok (.astore 5, 2) := by decide +kernel
theorem dX11_splice_70 : decode cX11_splice 70 = .ok (.aload_n 0, 1) := by decide +kernel
theorem dX11_splice_71 : decode cX11_splice 71 = .ok (.iload_n 3, 1) := by decide +kernel
theorem dX11_splice_72 : decode cX11_splice 72 = .ok (.i2l, 1) := by decide +kernel
theorem dX11_splice_73 : decode cX11_splice 73 = .ok (.lconst 0, 1) := by decide +kernel
theorem dX11_splice_74 : decode cX11_splice 74 = .ok (.aload 4, 2) := by decide +kernel
theorem dX11_splice_76 : decode cX11_splice 76 = .ok (.arraylength, 1) := by decide +kernel
theorem dX11_splice_77 : decode cX11_splice 77 = .ok (.aload 5, 2) := by decide +kernel
theorem dX11_splice_79 : decode cX11_splice 79 = .ok (.arraylength, 1) := by decide +kernel
theorem dX11_splice_80 : decode cX11_splice 80 = .ok (.invokestatic 1, 3) := by decide +kernel
theorem dX11_splice_83 : decode cX11_splice 83 = .ok (.i2l, 1) := by decide +kernel
theorem dX11_splice_84 : decode cX11_splice 84 = .ok (.invokestatic 54, 3) := by decide +kernel
theorem dX11_splice_87 : decode cX11_splice 87 = .ok (.ifCond .ne 7, 3) := by decide +kernel
theorem dX11_splice_94 : decode cX11_splice 94 = .ok (.aload 4, 2) := by decide +kernel
theorem dX11_splice_96 : decode cX11_splice 96 = .ok (.arraylength, 1) := by decide +kernel
theorem dX11_splice_97 : decode cX11_splice 97 = .ok (.aload 5, 2) := by decide +kernel
theorem dX11_splice_99 : decode cX11_splice 99 = .ok (.arraylength, 1) := by decide +kernel
theorem dX11_splice_100 : decode cX11_splice 100 = .ok (.iadd, 1) := by decide +kernel
theorem dX11_splice_101 : decode cX11_splice 101 = .ok (.iload_n 3, 1) := by decide +kernel
theorem dX11_splice_102 : decode cX11_splice 102 = .ok (.isub, 1) := by decide +kernel
theorem dX11_splice_103 : decode cX11_splice 103 = .ok (.sipush 800, 3) := by decide +kernel
theorem dX11_splice_106 : decode cX11_splice 106 = .ok (.if_icmp .le 7, 3) := by decide +kernel
theorem dX11_splice_113 : decode cX11_splice 113 = .ok (.iconst 0, 1) := by decide +kernel
theorem dX11_splice_114 : decode cX11_splice 114 = .ok (.putfield 46, 3) := by decide +kernel
theorem dX11_splice_117 : decode cX11_splice 117 = .ok (.aload_n 0, 1) := by decide +kernel
theorem dX11_splice_118 : decode cX11_splice 118 = .ok (.getfield 46, 3) := by decide +kernel
theorem dX11_splice_121 : decode cX11_splice 121 = .ok (.ifCond .le 5, 3) := by decide +kernel
theorem dX11_splice_126 : decode cX11_splice 126 = .ok (.aload 4, 2) := by decide +kernel
theorem dX11_splice_128 : decode cX11_splice 128 = .ok (.arraylength, 1) := by decide +kernel
theorem dX11_splice_129 : decode cX11_splice 129 = .ok (.aload 5, 2) := by decide +kernel
theorem dX11_splice_131 : decode cX11_splice 131 = .ok (.arraylength, 1) := by decide +kernel
theorem dX11_splice_132 : decode cX11_splice 132 = .ok (.iadd, 1) := by decide +kernel
theorem dX11_splice_133 : decode cX11_splice 133 = .ok (.iload_n 3, 1) := by decide +kernel
theorem dX11_splice_134 : decode cX11_splice 134 = .ok (.isub, 1) := by decide +kernel
theorem dX11_splice_135 : decode cX11_splice 135 = .ok (.newarray .int, 2) := by decide +kernel
theorem dX11_splice_137 : decode cX11_splice 137 = .ok (.astore 6, 2) := by decide +kernel
theorem dX11_splice_139 : decode cX11_splice 139 = .ok (.aload 4, 2) := by decide +kernel
theorem dX11_splice_141 : decode cX11_splice 141 = .ok (.arraylength, 1) := by decide +kernel
theorem dX11_splice_142 : decode cX11_splice 142 = .ok (.iload_n 3, 1) := by decide +kernel
theorem dX11_splice_143 : decode cX11_splice 143 = .ok (.isub, 1) := by decide +kernel
theorem dX11_splice_144 : decode cX11_splice 144 = .ok (.istore 7, 2) := by decide +kernel
theorem dX11_splice_146 : decode cX11_splice 146 = .ok (.iconst 0, 1) := by decide +kernel
theorem dX11_splice_147 : decode cX11_splice 147 = .ok (.istore 8, 2) := by decide +kernel
theorem dX11_splice_149 : decode cX11_splice 149 = .ok (.iload 8, 2) := by decide +kernel
theorem dX11_splice_151 : decode cX11_splice 151 = .ok (.aload 6, 2) := by decide +kernel
theorem dX11_splice_153 : decode cX11_splice 153 = .ok (.arraylength, 1) := by decide +kernel
theorem dX11_splice_154 : decode cX11_splice 154 = .ok (.if_icmp .ge 73, 3) := by decide +kernel
theorem dX11_splice_157 : decode cX11_splice 157 = .ok (.iload 8, 2) := by decide +kernel
theorem dX11_splice_159 : decode cX11_splice 159 = .ok (.iload 7, 2) := by decide +kernel
theorem dX11_splice_161 : decode cX11_splice 161 = .ok (.isub, 1) := by decide +kernel
theorem dX11_splice_162 : decode cX11_splice 162 = .ok (.istore 9, 2) := by decide +kernel
theorem dX11_splice_164 : decode cX11_splice 164 = .ok (.aload 6, 2) := by decide +kernel
theorem dX11_splice_166 : decode cX11_splice 166 = .ok (.iload 8, 2) := by decide +kernel
theorem dX11_splice_168 : decode cX11_splice 168 = .ok (.iload 9, 2) := by decide +kernel
theorem dX11_splice_170 : decode cX11_splice 170 = .ok (.ifCond .ge 11, 3) := by decide +kernel
theorem dX11_splice_173 : decode cX11_splice 173 = .ok (.aload 4, 2) := by decide +kernel
theorem dX11_splice_175 : decode cX11_splice 175 = .ok (.iload 8, 2) := by decide +kernel
theorem dX11_splice_177 : decode cX11_splice 177 = .ok (.iaload, 1) := by decide +kernel
theorem dX11_splice_178 : decode cX11_splice 178 = .ok (.goto 42, 3) := by decide +kernel
theorem dX11_splice_181 : decode cX11_splice 181 = .ok (.iload 9, 2) := by decide +kernel
theorem dX11_splice_183 : decode cX11_splice 183 = .ok (.iload_n 3, 1) := by decide +kernel
theorem dX11_splice_184 : decode cX11_splice 184 = .ok (.if_icmp .lt 11, 3) := by decide +kernel
theorem dX11_splice_187 : decode cX11_splice 187 = .ok (.aload 5, 2) := by decide +kernel
theorem dX11_splice_189 : decode cX11_splice 189 = .ok (.iload 9, 2) := by decide +kernel
theorem dX11_splice_191 : decode cX11_splice 191 = .ok (.iaload, 1) := by decide +kernel
theorem dX11_splice_192 : decode cX11_splice 192 = .ok (.goto 28, 3) := by decide +kernel
theorem dX11_splice_220 : decode cX11_splice 220 = .ok (.iastore, 1) := by decide +kernel
theorem dX11_splice_221 : decode cX11_splice 221 = .ok (.iinc 8 1, 3) := by decide +kernel
theorem dX11_splice_224 : decode cX11_splice 224 = .ok (.goto (-75), 3) := by decide +kernel
theorem dX11_splice_227 : decode cX11_splice 227 = .ok (.aload_n 0, 1) := by decide +kernel
theorem dX11_splice_228 : decode cX11_splice 228 = .ok (.bipush 120, 2) := by decide +kernel
theorem dX11_splice_230 : decode cX11_splice 230 = .ok (.aload 6, 2) := by decide +kernel
theorem dX11_splice_232 : decode cX11_splice 232 = .ok (.iconst 4, 1) := by decide +kernel
theorem dX11_splice_233 : decode cX11_splice 233 = .ok (.invokevirtual 100, 3) := by decide +kernel
theorem dX11_splice_236 : decode cX11_splice 236 = .ok (.ireturn, 1) := by decide +kernel
theorem dJx4a65c_elementData_915e3_0 : decode cJx4a65c_elementData_915e3 0 = .ok (.aload_n 0, 1) := by decide +kernel
theorem dJx4a65c_elementData_915e3_1 : decode cJx4a65c_elementData_915e3 1 = .ok (.getfield 9, 3) := by decide +kernel
theorem dJx4a65c_elementData_915e3_4 : decode cJx4a65c_elementData_915e3 4 = .ok (.iload_n 1, 1) := by decide +kernel
theorem dJx4a65c_elementData_915e3_5 : decode cJx4a65c_elementData_915e3 5 = .ok (.aaload, 1) := by decide +kernel
theorem dJx4a65c_elementData_915e3_6 : decode cJx4a65c_elementData_915e3 6 = .ok (.areturn, 1) := by decide +kernel
theorem dJx4a65c_get_915e3_0 : decode cJx4a65c_get_915e3 0 = .ok (.iload_n 1, 1) := by decide +kernel
theorem dJx4a65c_get_915e3_1 : decode cJx4a65c_get_915e3 1 = .ok (.aload_n 0, 1) := by decide +kernel
theorem dJx4a65c_get_915e3_2 : decode cJx4a65c_get_915e3 2 = .ok (.getfield 48, 3) := by decide +kernel
theorem dJx4a65c_get_915e3_5 : decode cJx4a65c_get_915e3 5 = .ok (.invokestatic 118, 3) := by decide +kernel
theorem dJx4a65c_get_915e3_8 : decode cJx4a65c_get_915e3 8 = .ok (.pop, 1) := by decide +kernel
theorem dJx4a65c_get_915e3_9 : decode cJx4a65c_get_915e3 9 = .ok (.aload_n 0, 1) := by decide +kernel
theorem dJx4a65c_get_915e3_10 : decode cJx4a65c_get_915e3 10 = .ok (.iload_n 1, 1) := by decide +kernel
theorem dJx4a65c_get_915e3_11 : decode cJx4a65c_get_915e3 11 = .ok (.invokevirtual 123, 3) := by decide +kernel
theorem dJx4a65c_get_915e3_14 : decode cJx4a65c_get_915e3 14 = .ok (.areturn, 1) := by decide +kernel
theorem dJ15_checkIndex_7cf53_0 : decode cJ15_checkIndex_7cf53 0 = .ok (.iload_n 0, 1) := by decide +kernel
theorem dJ15_checkIndex_7cf53_1 : decode cJ15_checkIndex_7cf53 1 = .ok (.iload_n 1, 1) := by decide +kernel
theorem dJ15_checkIndex_7cf53_2 : decode cJ15_checkIndex_7cf53 2 = .ok (.aconst_null, 1) := by decide +kernel
theorem dJ15_checkIndex_7cf53_3 : decode cJ15_checkIndex_7cf53 3 = .ok (.invokestatic 105, 3) := by decide +kernel
theorem dJ15_checkIndex_7cf53_6 : decode cJ15_checkIndex_7cf53 6 = .ok (.ireturn, 1) := by decide +kernel
theorem dJ3_checkIndex_8e157_0 : decode cJ3_checkIndex_8e157 0 = .ok (.iload_n 0, 1) := by decide +kernel
theorem dJ3_checkIndex_8e157_1 : decode cJ3_checkIndex_8e157 1 = .ok (.ifCond .lt 8, 3) := by decide +kernel
theorem dJ3_checkIndex_8e157_4 : decode cJ3_checkIndex_8e157 4 = .ok (.iload_n 0, 1) := by decide +kernel
theorem dJ3_checkIndex_8e157_5 : decode cJ3_checkIndex_8e157 5 = .ok (.iload_n 1, 1) := by decide +kernel
theorem dJ3_checkIndex_8e157_6 : decode cJ3_checkIndex_8e157 6 = .ok (.if_icmp .lt 10, 3) := by decide +kernel
theorem dJ3_checkIndex_8e157_16 : decode cJ3_checkIndex_8e157 16 = .ok (.iload_n 0, 1) := by decide +kernel
theorem dJ3_checkIndex_8e157_17 : decode cJ3_checkIndex_8e157 17 = .ok (.ireturn, 1) := by decide +kernel
theorem dL_splice_0 : decode cL_splice 0 = .ok (.aload 4, 2) := by decide +kernel
theorem dL_splice_2 : decode cL_splice 2 = .ok (.iconst 0, 1) := by decide +kernel
theorem dL_splice_3 : decode cL_splice 3 = .ok (.aload_n 0, 1) := by decide +kernel
theorem dL_splice_4 : decode cL_splice 4 = .ok (.iload_n 1, 1) := by decide +kernel
theorem dL_splice_5 : decode cL_splice 5 = .ok (.iload_n 2, 1) := by decide +kernel
theorem dL_splice_6 : decode cL_splice 6 = .ok (.iload_n 3, 1) := by decide +kernel
theorem dL_splice_7 : decode cL_splice 7 = .ok (.invokevirtual 38, 3) := by decide +kernel
theorem dL_splice_10 : decode cL_splice 10 = .ok (.i2l, 1) := by decide +kernel
theorem dL_splice_11 : decode cL_splice 11 = .ok (.lastore, 1) := by decide +kernel
theorem dL_splice_12 : decode cL_splice 12 = .ok (.goto 19, 3) := by decide +kernel
theorem dL_splice_31 : decode cL_splice 31 = .ok (.iconst 0, 1) := by decide +kernel
theorem dL_splice_32 : decode cL_splice 32 = .ok (.ireturn, 1) := by decide +kernel
def wo_a37_L_splice : List Cond := []
def wk_a37_L_splice : List Cond := Cond.codeWith yL_splice cL_splice 6 (some .int) [(0, 12, 15, 19), (0, 12, 19, 21), (0, 12, 23, 41), (0, 12, 27, 13)] :: (wo_a37_L_splice ++ (wsV RL 38 RX6 yX6_splice wk_a36_X6_splice))
theorem wo_a37_L_splice_in : ∀ w ∈ wo_a37_L_splice, w ∈ wk_a37_L_splice := fun w h => List.mem_cons_of_mem _ (List.mem_append_left _ h)
theorem gi_a37_L_splice_0 : GoodIn wk_a37_L_splice (wsV RL 38 RX6 yX6_splice wk_a36_X6_splice) := fun w h => ⟨List.mem_cons_of_mem _ (List.mem_append_right _ h), good_of_word (kg_V gk_a36_X6_splice w h)⟩
theorem gk_a37_L_splice : ∀ w ∈ wk_a37_L_splice, goodWord w = true := List.forall_mem_cons.mpr ⟨rfl, (List.forall_mem_append.mpr ⟨(show ∀ w ∈ wo_a37_L_splice, goodWord w = true by decide +kernel), (kg_V gk_a36_X6_splice)⟩)⟩
set_option maxHeartbeats 4000000 in
set_option maxRecDepth 100000 in
theorem a37_L_splice (l : Launch) (hst : l.stackTraces = false) (D : va_G) (e0 : kE) (q1 : Nat) (q24 : Nat) (q2 : Nat) (q3 : Nat) (q4 : Nat) (q5 : Nat) (q6 : Nat) (y25 : ClassId) (f38 : Nat → Int64) (y7 : ClassId) (q29 : Nat) (q30 : Nat) (q31 : Nat) (y32 : ClassId)  : kM l yL_splice wk_a37_L_splice 5 117 3 383 D kStr e0 [(y7, .object "Segueworks$Piece"), (y25, .long), (y32, .int)] [(q1, .inr (11, [.ref q2, .int 0, .ref q3, .int 1, .ref q4, .ref q5, .ref q6, .int 0])), (q24, .inl (y25, 1, .inr (.inl f38))), (q3, .inl (y7, 24, .inr (.inr (.inr (.inr (va_up ((fun _ => none)) (0 : Int32).toNatClampNeg (some q29))))))), (q29, .inr (7, [.int 115, .ref q30, .null, .null, .int 0, .int 0, .int 0, .ref q31, .int 374])), (q30, .inl (y32, 187, .inl (fun _ => 0)))] [.ref q1, .int 0, .int 0, .int 0, .ref q24] (fun v w t => ∃ (q39 : Nat), ∃ (q40 : Nat), ∃ (q41 : Nat), ∃ (y42 : ClassId), v = some (.int 0) ∧ w = [(q1, .inr (11, [.ref q2, .int 0, .ref q3, .int 2, .ref q4, .ref q5, .ref q6, .int 0])), (q24, .inl (y25, 1, .inr (.inl (vp_updL (f38) (0 : Int32).toNatClampNeg 1)))), (q3, .inl (y7, 24, .inr (.inr (.inr (.inr (va_up ((va_up ((fun _ => none)) (0 : Int32).toNatClampNeg (some q29))) (1 : Int32).toNatClampNeg (some q39))))))), (q29, .inr (7, [.int 115, .ref q30, .null, .null, .int 0, .int 0, .int 0, .ref q31, .int 374])), (q30, .inl (y32, 187, .inl (fun _ => 0))), (q39, .inr (7, [.int 120, .ref q40, .ref q30, .ref q30, .int 0, .int 0, .int 0, .ref q41, .int 748])), (q40, .inl (y42, 374, .inl (fun _ => 0)))] ∧ t = [(y25, .long), (y7, .object "Segueworks$Piece"), (y32, .int), (y42, .int)]) (fun _ => False) := by
  refine k_ofX (cc := cL_splice) (maxL := 6) (ret := (some .int)) (hhs := [(0, 12, 15, 19), (0, 12, 19, 21), (0, 12, 23, 41), (0, 12, 27, 13)]) (by decide) rfl (Nat.le_of_ble_eq_true rfl) ?_
  intro p e s m args below meth c A ls hx hb hr hts hown hlocks hml hex hh hl
  have hown : s.vm.findClass RL = some m.cls := hown
  have hl : lv_has ls 6 [(0, .ref q1), (1, .int 0), (2, .int 0), (3, .int 0), (4, .ref q24)] := hl
  refine lv_aload hx hb dL_splice_0 (lv_at hl 4 rfl) ?_
  refine lv_iconst (v := 0) hx hb dL_splice_2 (by decide) ?_
  refine lv_aload_n hx hb dL_splice_3 rfl (lv_at hl 0 rfl) ?_
  refine lv_iload_n hx hb dL_splice_4 rfl (lv_at hl 1 rfl) ?_
  refine lv_iload_n hx hb dL_splice_5 rfl (lv_at hl 2 rfl) ?_
  refine lv_iload_n hx hb dL_splice_6 rfl (lv_at hl 3 rfl) ?_
  refine k_callV (C := RX6) (T := TX6) (N := 8) (ci := 11) (q0 := 0) (wr := [(q24, .inl (y25, 1, .inr (.inl f38)))]) (rest := [.int 0, .ref q24]) (own := RL) ⟨hx, hb, hml, hown, hts⟩ (a36_X6_splice l hst D e0 q1 q2 q3 q4 q5 q6 y7 q29 q30 q31 y32 ) (cwV 3 hts gi_a37_L_splice_0 rfl rfl rfl (by decide +kernel) ⟨Nat.le_of_ble_eq_true rfl, Nat.le_of_ble_eq_true rfl⟩) hh rfl rfl [0, 2, 3, 4] [1] [0, 2] rfl rfl rfl rfl (by decide) rfl rfl hl rfl (Nat.le_of_ble_eq_true rfl) dL_splice_7 ⟨Nat.le_of_ble_eq_true rfl, (Nat.le_of_ble_eq_true rfl)⟩ (fun _ _ _ _ _ h => h.elim) (fun v w ty1 H locs hp hh => ?_)
  obtain ⟨q39, q40, q41, y42, rfl, rfl, rfl⟩ := hp
  have hh : kH D kStr e0 A s H [(q24, .inl (y25, 1, .inr (.inl f38))), (q1, .inr (11, [.ref q2, .int 0, .ref q3, .int 2, .ref q4, .ref q5, .ref q6, .int 0])), (q3, .inl (y7, 24, .inr (.inr (.inr (.inr (va_up ((va_up ((fun _ => none)) (0 : Int32).toNatClampNeg (some q29))) (1 : Int32).toNatClampNeg (some q39))))))), (q29, .inr (7, [.int 115, .ref q30, .null, .null, .int 0, .int 0, .int 0, .ref q31, .int 374])), (q30, .inl (y32, 187, .inl (fun _ => 0))), (q39, .inr (7, [.int 120, .ref q40, .ref q30, .ref q30, .int 0, .int 0, .int 0, .ref q41, .int 748])), (q40, .inl (y42, 374, .inl (fun _ => 0)))] [(y7, .object "Segueworks$Piece"), (y25, .long), (y32, .int), (y7, .object "Segueworks$Piece"), (y32, .int), (y42, .int)] _ := hh
  refine W.eq (g2 := F0 m 10 ls [.int 1, .int 0, .ref q24]) (by first | rfl | decide) ?_
  refine lv_i2l (v := 1) hx hb dL_splice_10 (by decide) ?_
  refine k_last (ws' := [(q24, .inl (y25, 1, .inr (.inl (vp_updL (f38) (0 : Int32).toNatClampNeg 1)))), (q1, .inr (11, [.ref q2, .int 0, .ref q3, .int 2, .ref q4, .ref q5, .ref q6, .int 0])), (q3, .inl (y7, 24, .inr (.inr (.inr (.inr (va_up ((va_up ((fun _ => none)) (0 : Int32).toNatClampNeg (some q29))) (1 : Int32).toNatClampNeg (some q39))))))), (q29, .inr (7, [.int 115, .ref q30, .null, .null, .int 0, .int 0, .int 0, .ref q31, .int 374])), (q30, .inl (y32, 187, .inl (fun _ => 0))), (q39, .inr (7, [.int 120, .ref q40, .ref q30, .ref q30, .int 0, .int 0, .int 0, .ref q41, .int 748])), (q40, .inl (y42, 374, .inl (fun _ => 0)))]) hx hb hh 0 1 rfl rfl (by unfold vp_in; decide) dL_splice_11 rfl (fun H locs hh => ?_)
  refine lv_goto (tgt := 31) hx hb dL_splice_12 (by decide) ?_
  refine lv_iconst (v := 0) hx hb dL_splice_31 (by decide) ?_
  exact k_endi hx hb hr hlocks hh ⟨q39, q40, q41, y42, rfl, rfl, rfl⟩ [1, 0, 2, 3, 4, 5, 6] [1, 0, 2, 5] rfl rfl rfl (Nat.le_of_ble_eq_true rfl) (Nat.le_of_ble_eq_true rfl) dL_splice_32
def wo_a38_X11_in : List Cond := []
def wk_a38_X11_in : List Cond := Cond.code yX11_in cX11_in 6 (some .boolean) :: wo_a38_X11_in
theorem wo_a38_X11_in_in : ∀ w ∈ wo_a38_X11_in, w ∈ wk_a38_X11_in := fun w h => List.mem_cons_of_mem _ h
theorem gk_a38_X11_in : ∀ w ∈ wk_a38_X11_in, goodWord w = true := List.forall_mem_cons.mpr ⟨rfl, (show ∀ w ∈ wo_a38_X11_in, goodWord w = true by decide +kernel)⟩
set_option maxHeartbeats 4000000 in
set_option maxRecDepth 100000 in
theorem a38_X11_in (l : Launch) (hst : l.stackTraces = false) (D : va_G) (e0 : kE)   : kM l yX11_in wk_a38_X11_in 0 0 0 0 D kStr e0 [] [] [.long 0, .long 0, .long 0] (fun v w t => v = some (.int 1) ∧ w = [] ∧ t = []) (fun _ => False) := by
  refine k_of (cc := cX11_in) (maxL := 6) (ret := (some .boolean)) (by decide) rfl (Nat.le_of_ble_eq_true rfl) ?_
  intro p e s m args below meth c A ls hx hb hr hts hown hlocks hml hex hh hl
  have hown : s.vm.findClass RX11 = some m.cls := hown
  have hl : lv_has ls 6 [(0, .long 0), (2, .long 0), (4, .long 0)] := hl
  refine lv_lload_n hx hb dX11_in_0 rfl (lv_at hl 0 rfl) ?_
  refine lv_lload_n hx hb dX11_in_1 rfl (lv_at hl 1 rfl) ?_
  refine W.lcmp hx hb dX11_in_2 ?_
  refine W.eq (g2 := F0 m 3 ls [.int 0]) (by rw [show lg_cmp (0 : Int64) (0 : Int64) = 0 from by decide]) ?_
  refine lv_if_lt (tgt := 17) hx hb dX11_in_3 (by decide) (fun c_3 => absurd c_3 (by decide)) (fun _ => ?_)
  refine lv_lload_n hx hb dX11_in_6 rfl (lv_at hl 0 rfl) ?_
  refine lv_lload hx hb dX11_in_7 (lv_at hl 2 rfl) ?_
  refine W.lcmp hx hb dX11_in_9 ?_
  refine W.eq (g2 := F0 m 10 ls [.int 0]) (by rw [show lg_cmp (0 : Int64) (0 : Int64) = 0 from by decide]) ?_
  refine lv_if_gt (tgt := 17) hx hb dX11_in_10 (by decide) (fun c_10 => absurd c_10 (by decide)) (fun _ => ?_)
  refine lv_iconst (v := 1) hx hb dX11_in_13 (by decide) ?_
  refine lv_goto (tgt := 18) hx hb dX11_in_14 (by decide) ?_
  exact k_endz (ty := .boolean) (by decide) hx hb hr hlocks hh ⟨rfl, rfl, rfl⟩ [] [] rfl rfl rfl (Nat.le_of_ble_eq_true rfl) (Nat.le_of_ble_eq_true rfl) dX11_in_18
def wo_a39_J3_checkIndex_8e157 : List Cond := []
def wk_a39_J3_checkIndex_8e157 : List Cond := Cond.code yJ3_checkIndex_8e157 cJ3_checkIndex_8e157 3 (some .int) :: wo_a39_J3_checkIndex_8e157
theorem wo_a39_J3_checkIndex_8e157_in : ∀ w ∈ wo_a39_J3_checkIndex_8e157, w ∈ wk_a39_J3_checkIndex_8e157 := fun w h => List.mem_cons_of_mem _ h
theorem gk_a39_J3_checkIndex_8e157 : ∀ w ∈ wk_a39_J3_checkIndex_8e157, goodWord w = true := List.forall_mem_cons.mpr ⟨rfl, (show ∀ w ∈ wo_a39_J3_checkIndex_8e157, goodWord w = true by decide +kernel)⟩
set_option maxHeartbeats 4000000 in
set_option maxRecDepth 100000 in
theorem a39_J3_checkIndex_8e157 (l : Launch) (hst : l.stackTraces = false) (D : va_G) (e0 : kE)   : kM l yJ3_checkIndex_8e157 wk_a39_J3_checkIndex_8e157 0 0 0 0 D kStr e0 [] [] [.int 0, .int 1, .null] (fun v w t => v = some (.int 0) ∧ w = [] ∧ t = []) (fun _ => False) := by
  refine k_of (cc := cJ3_checkIndex_8e157) (maxL := 3) (ret := (some .int)) (by decide) rfl (Nat.le_of_ble_eq_true rfl) ?_
  intro p e s m args below meth c A ls hx hb hr hts hown hlocks hml hex hh hl
  have hown : s.vm.findClass RJ3 = some m.cls := hown
  have hl : lv_has ls 3 [(0, .int 0), (1, .int 1), (2, .null)] := hl
  refine lv_iload_n hx hb dJ3_checkIndex_8e157_0 rfl (lv_at hl 0 rfl) ?_
  refine lv_if_lt (tgt := 9) hx hb dJ3_checkIndex_8e157_1 (by decide) (fun c_1 => absurd c_1 (by decide)) (fun _ => ?_)
  refine lv_iload_n hx hb dJ3_checkIndex_8e157_4 rfl (lv_at hl 0 rfl) ?_
  refine lv_iload_n hx hb dJ3_checkIndex_8e157_5 rfl (lv_at hl 1 rfl) ?_
  refine lv_icmp_lt (tgt := 16) hx hb dJ3_checkIndex_8e157_6 (by decide) (fun _ => ?_) (fun c_6 => absurd (by decide) c_6)
  refine lv_iload_n hx hb dJ3_checkIndex_8e157_16 rfl (lv_at hl 0 rfl) ?_
  exact k_endi hx hb hr hlocks hh ⟨rfl, rfl, rfl⟩ [] [] rfl rfl rfl (Nat.le_of_ble_eq_true rfl) (Nat.le_of_ble_eq_true rfl) dJ3_checkIndex_8e157_17
def wo_a40_J15_checkIndex_7cf53 : List Cond := []
def wk_a40_J15_checkIndex_7cf53 : List Cond := Cond.code yJ15_checkIndex_7cf53 cJ15_checkIndex_7cf53 2 (some .int) :: (wo_a40_J15_checkIndex_7cf53 ++ (va_wsS RJ15 105 yJ3_checkIndex_8e157 wk_a39_J3_checkIndex_8e157))
theorem wo_a40_J15_checkIndex_7cf53_in : ∀ w ∈ wo_a40_J15_checkIndex_7cf53, w ∈ wk_a40_J15_checkIndex_7cf53 := fun w h => List.mem_cons_of_mem _ (List.mem_append_left _ h)
theorem gi_a40_J15_checkIndex_7cf53_0 : GoodIn wk_a40_J15_checkIndex_7cf53 (va_wsS RJ15 105 yJ3_checkIndex_8e157 wk_a39_J3_checkIndex_8e157) := fun w h => ⟨List.mem_cons_of_mem _ (List.mem_append_right _ h), good_of_word (kg_S gk_a39_J3_checkIndex_8e157 w h)⟩
theorem gk_a40_J15_checkIndex_7cf53 : ∀ w ∈ wk_a40_J15_checkIndex_7cf53, goodWord w = true := List.forall_mem_cons.mpr ⟨rfl, (List.forall_mem_append.mpr ⟨(show ∀ w ∈ wo_a40_J15_checkIndex_7cf53, goodWord w = true by decide +kernel), (kg_S gk_a39_J3_checkIndex_8e157)⟩)⟩
set_option maxHeartbeats 4000000 in
set_option maxRecDepth 100000 in
theorem a40_J15_checkIndex_7cf53 (l : Launch) (hst : l.stackTraces = false) (D : va_G) (e0 : kE)   : kM l yJ15_checkIndex_7cf53 wk_a40_J15_checkIndex_7cf53 1 22 0 0 D kStr e0 [] [] [.int 0, .int 1] (fun v w t => v = some (.int 0) ∧ w = [] ∧ t = []) (fun _ => False) := by
  refine k_of (cc := cJ15_checkIndex_7cf53) (maxL := 2) (ret := (some .int)) (by decide) rfl (Nat.le_of_ble_eq_true rfl) ?_
  intro p e s m args below meth c A ls hx hb hr hts hown hlocks hml hex hh hl
  have hown : s.vm.findClass RJ15 = some m.cls := hown
  have hl : lv_has ls 2 [(0, .int 0), (1, .int 1)] := hl
  refine lv_iload_n hx hb dJ15_checkIndex_7cf53_0 rfl (lv_at hl 0 rfl) ?_
  refine lv_iload_n hx hb dJ15_checkIndex_7cf53_1 rfl (lv_at hl 1 rfl) ?_
  refine lv_null hx hb dJ15_checkIndex_7cf53_2 ?_
  refine k_callS (wr := []) (rest := []) (own := RJ15) ⟨hx, hb, hml, hown, hts⟩ (a39_J3_checkIndex_8e157 l hst D e0  ) (va_cwS 3 hts gi_a40_J15_checkIndex_7cf53_0 rfl rfl rfl (by decide +kernel) ⟨Nat.le_of_ble_eq_true rfl, Nat.le_of_ble_eq_true rfl⟩) hh [] [] [] rfl rfl rfl rfl (by decide) rfl rfl hl rfl (Nat.le_of_ble_eq_true rfl) dJ15_checkIndex_7cf53_3 ⟨Nat.le_of_ble_eq_true rfl, (Nat.le_of_ble_eq_true rfl)⟩ (fun _ _ _ _ _ h => h.elim) (fun v w ty1 H locs hp hh => ?_)
  obtain ⟨rfl, rfl, rfl⟩ := hp
  have hh : kH D kStr e0 A s H [] [] _ := hh
  refine W.eq (g2 := F0 m 6 ls [.int 0]) (by first | rfl | decide) ?_
  exact k_endi hx hb hr hlocks hh ⟨rfl, rfl, rfl⟩ [] [] rfl rfl rfl (Nat.le_of_ble_eq_true rfl) (Nat.le_of_ble_eq_true rfl) dJ15_checkIndex_7cf53_6
def wo_a41_Jx4a65c_elementData_915e3 : List Cond := [Cond.fieldLink RJx4a65c 9 "java/util/ArrayList" "elementData" "[Ljava/lang/Object;"]
def wk_a41_Jx4a65c_elementData_915e3 : List Cond := Cond.code yJx4a65c_elementData_915e3 cJx4a65c_elementData_915e3 2 (some (.object "java/lang/Object")) :: (wo_a41_Jx4a65c_elementData_915e3 ++ (u_ws RJx4a65c TJx4a65c 3))
theorem wo_a41_Jx4a65c_elementData_915e3_in : ∀ w ∈ wo_a41_Jx4a65c_elementData_915e3, w ∈ wk_a41_Jx4a65c_elementData_915e3 := fun w h => List.mem_cons_of_mem _ (List.mem_append_left _ h)
theorem ws_a41_Jx4a65c_elementData_915e3_0 : ∀ w ∈ u_ws RJx4a65c TJx4a65c 3, w ∈ wk_a41_Jx4a65c_elementData_915e3 := fun w h => List.mem_cons_of_mem _ (List.mem_append_right _ h)
theorem gk_a41_Jx4a65c_elementData_915e3 : ∀ w ∈ wk_a41_Jx4a65c_elementData_915e3, goodWord w = true := List.forall_mem_cons.mpr ⟨rfl, (List.forall_mem_append.mpr ⟨(show ∀ w ∈ wo_a41_Jx4a65c_elementData_915e3, goodWord w = true by decide +kernel), (show ∀ w ∈ u_ws RJx4a65c TJx4a65c 3, goodWord w = true by decide +kernel)⟩)⟩
set_option maxHeartbeats 4000000 in
set_option maxRecDepth 100000 in
theorem a41_Jx4a65c_elementData_915e3 (l : Launch) (hst : l.stackTraces = false) (D : va_G) (e0 : kE) (q17 : Nat) (q33 : Nat) (y34 : ClassId) (q35 : Nat)  : kM l yJx4a65c_elementData_915e3 wk_a41_Jx4a65c_elementData_915e3 0 0 0 0 D kStr e0 [(y34, .object "java/lang/Object")] [(q17, .inr (4, [.int 1, .ref q33, .int 1])), (q33, .inl (y34, 10, .inr (.inr (.inr (.inr (va_up ((fun _ => none)) (0 : Int32).toNatClampNeg (some q35)))))))] [.ref q17, .int 0] (fun v w t => v = some (.ref q35) ∧ w = [(q17, .inr (4, [.int 1, .ref q33, .int 1])), (q33, .inl (y34, 10, .inr (.inr (.inr (.inr (va_up ((fun _ => none)) (0 : Int32).toNatClampNeg (some q35)))))))] ∧ t = [(y34, .object "java/lang/Object")]) (fun _ => False) := by
  refine k_of (cc := cJx4a65c_elementData_915e3) (maxL := 2) (ret := (some (.object "java/lang/Object"))) (by decide) rfl (Nat.le_of_ble_eq_true rfl) ?_
  intro p e s m args below meth c A ls hx hb hr hts hown hlocks hml hex hh hl
  have hown : s.vm.findClass RJx4a65c = some m.cls := hown
  have hl : lv_has ls 2 [(0, .ref q17), (1, .int 0)] := hl
  refine lv_aload_n hx hb dJx4a65c_elementData_915e3_0 rfl (lv_at hl 0 rfl) ?_
  refine k_get (C := RJx4a65c) (T := TJx4a65c) (N := 3) (ci := 4) (v := .ref q33) hx hb hts ws_a41_Jx4a65c_elementData_915e3_0 hown hh 0 rfl rfl 1 (by decide) (hts _ (wo_a41_Jx4a65c_elementData_915e3_in _ (List.mem_of_getElem? (i := 0) rfl))) rfl dJx4a65c_elementData_915e3_1 ?_
  refine lv_iload_n hx hb dJx4a65c_elementData_915e3_4 rfl (lv_at hl 1 rfl) ?_
  refine k_aldq (v := q35) hx hb hh 1 0 rfl rfl (by unfold vp_in; decide) (by first | rfl | simp [va_up]) dJx4a65c_elementData_915e3_5 ?_
  exact k_enda (by first | exact Or.inl ⟨_, rfl⟩ | exact Or.inr ⟨_, rfl⟩) (by first | exact Or.inr ⟨_, rfl⟩ | exact Or.inl rfl) hx hb hr hlocks hh ⟨rfl, rfl, rfl⟩ [0, 1] [0] rfl rfl rfl (Nat.le_of_ble_eq_true rfl) (Nat.le_of_ble_eq_true rfl) dJx4a65c_elementData_915e3_6
def wo_a42_Jx4a65c_get_915e3 : List Cond := [Cond.fieldLink RJx4a65c 48 "java/util/ArrayList" "size" "I"]
def wk_a42_Jx4a65c_get_915e3 : List Cond := Cond.code yJx4a65c_get_915e3 cJx4a65c_get_915e3 2 (some (.object "java/lang/Object")) :: (wo_a42_Jx4a65c_get_915e3 ++ ((u_ws RJx4a65c TJx4a65c 3) ++ ((va_wsS RJx4a65c 118 yJ15_checkIndex_7cf53 wk_a40_J15_checkIndex_7cf53) ++ (wsV RJx4a65c 123 RJx4a65c yJx4a65c_elementData_915e3 wk_a41_Jx4a65c_elementData_915e3))))
theorem wo_a42_Jx4a65c_get_915e3_in : ∀ w ∈ wo_a42_Jx4a65c_get_915e3, w ∈ wk_a42_Jx4a65c_get_915e3 := fun w h => List.mem_cons_of_mem _ (List.mem_append_left _ h)
theorem ws_a42_Jx4a65c_get_915e3_0 : ∀ w ∈ u_ws RJx4a65c TJx4a65c 3, w ∈ wk_a42_Jx4a65c_get_915e3 := fun w h => List.mem_cons_of_mem _ (List.mem_append_right _ (List.mem_append_left _ h))
theorem gi_a42_Jx4a65c_get_915e3_1 : GoodIn wk_a42_Jx4a65c_get_915e3 (va_wsS RJx4a65c 118 yJ15_checkIndex_7cf53 wk_a40_J15_checkIndex_7cf53) := fun w h => ⟨List.mem_cons_of_mem _ (List.mem_append_right _ (List.mem_append_right _ (List.mem_append_left _ h))), good_of_word (kg_S gk_a40_J15_checkIndex_7cf53 w h)⟩
theorem gi_a42_Jx4a65c_get_915e3_2 : GoodIn wk_a42_Jx4a65c_get_915e3 (wsV RJx4a65c 123 RJx4a65c yJx4a65c_elementData_915e3 wk_a41_Jx4a65c_elementData_915e3) := fun w h => ⟨List.mem_cons_of_mem _ (List.mem_append_right _ (List.mem_append_right _ (List.mem_append_right _ h))), good_of_word (kg_V gk_a41_Jx4a65c_elementData_915e3 w h)⟩
theorem gk_a42_Jx4a65c_get_915e3 : ∀ w ∈ wk_a42_Jx4a65c_get_915e3, goodWord w = true := List.forall_mem_cons.mpr ⟨rfl, (List.forall_mem_append.mpr ⟨(show ∀ w ∈ wo_a42_Jx4a65c_get_915e3, goodWord w = true by decide +kernel), (List.forall_mem_append.mpr ⟨(show ∀ w ∈ u_ws RJx4a65c TJx4a65c 3, goodWord w = true by decide +kernel), (List.forall_mem_append.mpr ⟨(kg_S gk_a40_J15_checkIndex_7cf53), (kg_V gk_a41_Jx4a65c_elementData_915e3)⟩)⟩)⟩)⟩
set_option maxHeartbeats 4000000 in
set_option maxRecDepth 100000 in
theorem a42_Jx4a65c_get_915e3 (l : Launch) (hst : l.stackTraces = false) (D : va_G) (e0 : kE) (q17 : Nat) (q33 : Nat) (y34 : ClassId) (q35 : Nat)  : kM l yJx4a65c_get_915e3 wk_a42_Jx4a65c_get_915e3 2 43 0 0 D kStr e0 [(y34, .object "java/lang/Object")] [(q17, .inr (4, [.int 1, .ref q33, .int 1])), (q33, .inl (y34, 10, .inr (.inr (.inr (.inr (va_up ((fun _ => none)) (0 : Int32).toNatClampNeg (some q35)))))))] [.ref q17, .int 0] (fun v w t => v = some (.ref q35) ∧ w = [(q17, .inr (4, [.int 1, .ref q33, .int 1])), (q33, .inl (y34, 10, .inr (.inr (.inr (.inr (va_up ((fun _ => none)) (0 : Int32).toNatClampNeg (some q35)))))))] ∧ t = [(y34, .object "java/lang/Object")]) (fun _ => False) := by
  refine k_of (cc := cJx4a65c_get_915e3) (maxL := 2) (ret := (some (.object "java/lang/Object"))) (by decide) rfl (Nat.le_of_ble_eq_true rfl) ?_
  intro p e s m args below meth c A ls hx hb hr hts hown hlocks hml hex hh hl
  have hown : s.vm.findClass RJx4a65c = some m.cls := hown
  have hl : lv_has ls 2 [(0, .ref q17), (1, .int 0)] := hl
  refine lv_iload_n hx hb dJx4a65c_get_915e3_0 rfl (lv_at hl 1 rfl) ?_
  refine lv_aload_n hx hb dJx4a65c_get_915e3_1 rfl (lv_at hl 0 rfl) ?_
  refine k_get (C := RJx4a65c) (T := TJx4a65c) (N := 3) (ci := 4) (v := .int 1) hx hb hts ws_a42_Jx4a65c_get_915e3_0 hown hh 0 rfl rfl 2 (by decide) (hts _ (wo_a42_Jx4a65c_get_915e3_in _ (List.mem_of_getElem? (i := 0) rfl))) rfl dJx4a65c_get_915e3_2 ?_
  refine k_callS (wr := [(q17, .inr (4, [.int 1, .ref q33, .int 1])), (q33, .inl (y34, 10, .inr (.inr (.inr (.inr (va_up ((fun _ => none)) (0 : Int32).toNatClampNeg (some q35)))))))]) (rest := []) (own := RJx4a65c) ⟨hx, hb, hml, hown, hts⟩ (a40_J15_checkIndex_7cf53 l hst D e0  ) (va_cwS 2 hts gi_a42_Jx4a65c_get_915e3_1 rfl rfl rfl (by decide +kernel) ⟨Nat.le_of_ble_eq_true rfl, Nat.le_of_ble_eq_true rfl⟩) hh [] [0, 1] [] rfl rfl rfl rfl (by decide) rfl rfl hl rfl (Nat.le_of_ble_eq_true rfl) dJx4a65c_get_915e3_5 ⟨Nat.le_of_ble_eq_true rfl, (Nat.le_of_ble_eq_true rfl)⟩ (fun _ _ _ _ _ h => h.elim) (fun v w ty1 H locs hp hh => ?_)
  obtain ⟨rfl, rfl, rfl⟩ := hp
  have hh : kH D kStr e0 A s H [(q17, .inr (4, [.int 1, .ref q33, .int 1])), (q33, .inl (y34, 10, .inr (.inr (.inr (.inr (va_up ((fun _ => none)) (0 : Int32).toNatClampNeg (some q35)))))))] [(y34, .object "java/lang/Object")] _ := hh
  refine W.eq (g2 := F0 m 8 ls [.int 0]) (by first | rfl | decide) ?_
  refine lv_pop hx hb dJx4a65c_get_915e3_8 rfl ?_
  refine lv_aload_n hx hb dJx4a65c_get_915e3_9 rfl (lv_at hl 0 rfl) ?_
  refine lv_iload_n hx hb dJx4a65c_get_915e3_10 rfl (lv_at hl 1 rfl) ?_
  refine k_callV (C := RJx4a65c) (T := TJx4a65c) (N := 3) (ci := 4) (q0 := 0) (wr := []) (rest := []) (own := RJx4a65c) ⟨hx, hb, hml, hown, hts⟩ (a41_Jx4a65c_elementData_915e3 l hst D e0 q17 q33 y34 q35 ) (cwV 1 hts gi_a42_Jx4a65c_get_915e3_2 rfl rfl rfl (by decide +kernel) ⟨Nat.le_of_ble_eq_true rfl, Nat.le_of_ble_eq_true rfl⟩) hh rfl rfl [0, 1] [] [0] rfl rfl rfl rfl (by decide) rfl rfl hl rfl (Nat.le_of_ble_eq_true rfl) dJx4a65c_get_915e3_11 ⟨Nat.le_of_ble_eq_true rfl, (Nat.le_of_ble_eq_true rfl)⟩ (fun _ _ _ _ _ h => h.elim) (fun v w ty1 H locs hp hh => ?_)
  obtain ⟨rfl, rfl, rfl⟩ := hp
  have hh : kH D kStr e0 A s H [(q17, .inr (4, [.int 1, .ref q33, .int 1])), (q33, .inl (y34, 10, .inr (.inr (.inr (.inr (va_up ((fun _ => none)) (0 : Int32).toNatClampNeg (some q35)))))))] [(y34, .object "java/lang/Object"), (y34, .object "java/lang/Object")] _ := hh
  refine W.eq (g2 := F0 m 14 ls [.ref q35]) (by first | rfl | decide) ?_
  exact k_enda (by first | exact Or.inl ⟨_, rfl⟩ | exact Or.inr ⟨_, rfl⟩) (by first | exact Or.inr ⟨_, rfl⟩ | exact Or.inl rfl) hx hb hr hlocks hh ⟨rfl, rfl, rfl⟩ [0, 1] [0] rfl rfl rfl (Nat.le_of_ble_eq_true rfl) (Nat.le_of_ble_eq_true rfl) dJx4a65c_get_915e3_14
def wo_a43_X11_rowOf : List Cond := [Cond.fieldLink RX11 25 "SegueworksModel" "pieces" "Ljava/util/ArrayList;", Cond.classLink RX11 84 RX9]
def wk_a43_X11_rowOf : List Cond := Cond.code yX11_rowOf cX11_rowOf 2 (some (.array .int)) :: (wo_a43_X11_rowOf ++ ((u_ws RX11 TX11 11) ++ ((wsV RX11 70 RJx4a65c yJx4a65c_get_915e3 wk_a42_Jx4a65c_get_915e3) ++ (u_ws RX9 TX9 2))))
theorem wo_a43_X11_rowOf_in : ∀ w ∈ wo_a43_X11_rowOf, w ∈ wk_a43_X11_rowOf := fun w h => List.mem_cons_of_mem _ (List.mem_append_left _ h)
theorem ws_a43_X11_rowOf_0 : ∀ w ∈ u_ws RX11 TX11 11, w ∈ wk_a43_X11_rowOf := fun w h => List.mem_cons_of_mem _ (List.mem_append_right _ (List.mem_append_left _ h))
theorem gi_a43_X11_rowOf_1 : GoodIn wk_a43_X11_rowOf (wsV RX11 70 RJx4a65c yJx4a65c_get_915e3 wk_a42_Jx4a65c_get_915e3) := fun w h => ⟨List.mem_cons_of_mem _ (List.mem_append_right _ (List.mem_append_right _ (List.mem_append_left _ h))), good_of_word (kg_V gk_a42_Jx4a65c_get_915e3 w h)⟩
theorem ws_a43_X11_rowOf_2 : ∀ w ∈ u_ws RX9 TX9 2, w ∈ wk_a43_X11_rowOf := fun w h => List.mem_cons_of_mem _ (List.mem_append_right _ (List.mem_append_right _ (List.mem_append_right _ h)))
theorem gk_a43_X11_rowOf : ∀ w ∈ wk_a43_X11_rowOf, goodWord w = true := List.forall_mem_cons.mpr ⟨rfl, (List.forall_mem_append.mpr ⟨(show ∀ w ∈ wo_a43_X11_rowOf, goodWord w = true by decide +kernel), (List.forall_mem_append.mpr ⟨(show ∀ w ∈ u_ws RX11 TX11 11, goodWord w = true by decide +kernel), (List.forall_mem_append.mpr ⟨(kg_V gk_a42_Jx4a65c_get_915e3), (show ∀ w ∈ u_ws RX9 TX9 2, goodWord w = true by decide +kernel)⟩)⟩)⟩)⟩
set_option maxHeartbeats 4000000 in
set_option maxRecDepth 100000 in
theorem a43_X11_rowOf (l : Launch) (hst : l.stackTraces = false) (D : va_G) (e0 : kE) (q15 : Nat) (q16 : Nat) (q17 : Nat) (q18 : Nat) (q19 : Nat) (q20 : Nat) (q21 : Nat) (q22 : Nat) (q23 : Nat) (q33 : Nat) (y34 : ClassId) (q35 : Nat) (q36 : Nat)  : kM l yX11_rowOf wk_a43_X11_rowOf 3 64 0 0 D kStr e0 [(y34, .object "java/lang/Object")] [(q15, .inr (16, [.int 0, .ref q16, .ref q17, .ref q18, .ref q19, .ref q20, .ref q21, .ref q22, .ref q23, .int 0, .int 0])), (q17, .inr (4, [.int 1, .ref q33, .int 1])), (q33, .inl (y34, 10, .inr (.inr (.inr (.inr (va_up ((fun _ => none)) (0 : Int32).toNatClampNeg (some q35))))))), (q35, .inr (14, [.int 115, .ref q36]))] [.ref q15, .int 0] (fun v w t => v = some (.ref q36) ∧ w = [(q15, .inr (16, [.int 0, .ref q16, .ref q17, .ref q18, .ref q19, .ref q20, .ref q21, .ref q22, .ref q23, .int 0, .int 0])), (q17, .inr (4, [.int 1, .ref q33, .int 1])), (q33, .inl (y34, 10, .inr (.inr (.inr (.inr (va_up ((fun _ => none)) (0 : Int32).toNatClampNeg (some q35))))))), (q35, .inr (14, [.int 115, .ref q36]))] ∧ t = [(y34, .object "java/lang/Object")]) (fun _ => False) := by
  refine k_of (cc := cX11_rowOf) (maxL := 2) (ret := (some (.array .int))) (by decide) rfl (Nat.le_of_ble_eq_true rfl) ?_
  intro p e s m args below meth c A ls hx hb hr hts hown hlocks hml hex hh hl
  have hown : s.vm.findClass RX11 = some m.cls := hown
  have hl : lv_has ls 2 [(0, .ref q15), (1, .int 0)] := hl
  refine lv_aload_n hx hb dX11_rowOf_0 rfl (lv_at hl 0 rfl) ?_
  refine k_get (C := RX11) (T := TX11) (N := 11) (ci := 16) (v := .ref q17) hx hb hts ws_a43_X11_rowOf_0 hown hh 0 rfl rfl 2 (by decide) (hts _ (wo_a43_X11_rowOf_in _ (List.mem_of_getElem? (i := 0) rfl))) rfl dX11_rowOf_1 ?_
  refine lv_iload_n hx hb dX11_rowOf_4 rfl (lv_at hl 1 rfl) ?_
  refine k_callV (C := RJx4a65c) (T := TJx4a65c) (N := 3) (ci := 4) (q0 := 1) (wr := [(q15, .inr (16, [.int 0, .ref q16, .ref q17, .ref q18, .ref q19, .ref q20, .ref q21, .ref q22, .ref q23, .int 0, .int 0])), (q35, .inr (14, [.int 115, .ref q36]))]) (rest := []) (own := RX11) ⟨hx, hb, hml, hown, hts⟩ (a42_Jx4a65c_get_915e3 l hst D e0 q17 q33 y34 q35 ) (cwV 1 hts gi_a43_X11_rowOf_1 rfl rfl rfl (by decide +kernel) ⟨Nat.le_of_ble_eq_true rfl, Nat.le_of_ble_eq_true rfl⟩) hh rfl rfl [1, 2] [0, 3] [0] rfl rfl rfl rfl (by decide) rfl rfl hl rfl (Nat.le_of_ble_eq_true rfl) dX11_rowOf_5 ⟨Nat.le_of_ble_eq_true rfl, (Nat.le_of_ble_eq_true rfl)⟩ (fun _ _ _ _ _ h => h.elim) (fun v w ty1 H locs hp hh => ?_)
  obtain ⟨rfl, rfl, rfl⟩ := hp
  have hh : kH D kStr e0 A s H [(q15, .inr (16, [.int 0, .ref q16, .ref q17, .ref q18, .ref q19, .ref q20, .ref q21, .ref q22, .ref q23, .int 0, .int 0])), (q35, .inr (14, [.int 115, .ref q36])), (q17, .inr (4, [.int 1, .ref q33, .int 1])), (q33, .inl (y34, 10, .inr (.inr (.inr (.inr (va_up ((fun _ => none)) (0 : Int32).toNatClampNeg (some q35)))))))] [(y34, .object "java/lang/Object"), (y34, .object "java/lang/Object")] _ := hh
  refine W.eq (g2 := F0 m 8 ls [.ref q35]) (by first | rfl | decide) ?_
  refine k_castS (C := RX9) (T := TX9) (N := 2) (ci := 14) hx hb hown (hts _ (wo_a43_X11_rowOf_in _ (List.mem_of_getElem? (i := 1) rfl))) hh 1 rfl rfl dX11_rowOf_8 ?_
  refine k_getN (host := RX11) (C := RX9) (T := TX9) (N := 2) (ci := 14) (v := .ref q36) hx hb hts ws_a43_X11_rowOf_2 hown hh 1 rfl rfl 1 (by decide) (kNest_word hh (q := (86, "SegueworksModel$Piece", "row", "[I")) (by decide)) rfl dX11_rowOf_11 ?_
  exact k_enda (by first | exact Or.inl ⟨_, rfl⟩ | exact Or.inr ⟨_, rfl⟩) (by first | exact Or.inr ⟨_, rfl⟩ | exact Or.inl rfl) hx hb hr hlocks hh ⟨rfl, rfl, rfl⟩ [0, 2, 3, 1] [0] rfl rfl rfl (Nat.le_of_ble_eq_true rfl) (Nat.le_of_ble_eq_true rfl) dX11_rowOf_14
def wo_a44_X11_in : List Cond := []
def wk_a44_X11_in : List Cond := Cond.code yX11_in cX11_in 6 (some .boolean) :: wo_a44_X11_in
theorem wo_a44_X11_in_in : ∀ w ∈ wo_a44_X11_in, w ∈ wk_a44_X11_in := fun w h => List.mem_cons_of_mem _ h
theorem gk_a44_X11_in : ∀ w ∈ wk_a44_X11_in, goodWord w = true := List.forall_mem_cons.mpr ⟨rfl, (show ∀ w ∈ wo_a44_X11_in, goodWord w = true by decide +kernel)⟩
set_option maxHeartbeats 4000000 in
set_option maxRecDepth 100000 in
theorem a44_X11_in (l : Launch) (hst : l.stackTraces = false) (D : va_G) (e0 : kE)   : kM l yX11_in wk_a44_X11_in 0 0 0 0 D kStr e0 [] [] [.long 0, .long 0, .long 187] (fun v w t => v = some (.int 1) ∧ w = [] ∧ t = []) (fun _ => False) := by
  refine k_of (cc := cX11_in) (maxL := 6) (ret := (some .boolean)) (by decide) rfl (Nat.le_of_ble_eq_true rfl) ?_
  intro p e s m args below meth c A ls hx hb hr hts hown hlocks hml hex hh hl
  have hown : s.vm.findClass RX11 = some m.cls := hown
  have hl : lv_has ls 6 [(0, .long 0), (2, .long 0), (4, .long 187)] := hl
  refine lv_lload_n hx hb dX11_in_0 rfl (lv_at hl 0 rfl) ?_
  refine lv_lload_n hx hb dX11_in_1 rfl (lv_at hl 1 rfl) ?_
  refine W.lcmp hx hb dX11_in_2 ?_
  refine W.eq (g2 := F0 m 3 ls [.int 0]) (by rw [show lg_cmp (0 : Int64) (0 : Int64) = 0 from by decide]) ?_
  refine lv_if_lt (tgt := 17) hx hb dX11_in_3 (by decide) (fun c_3 => absurd c_3 (by decide)) (fun _ => ?_)
  refine lv_lload_n hx hb dX11_in_6 rfl (lv_at hl 0 rfl) ?_
  refine lv_lload hx hb dX11_in_7 (lv_at hl 2 rfl) ?_
  refine W.lcmp hx hb dX11_in_9 ?_
  refine W.eq (g2 := F0 m 10 ls [.int (-1)]) (by rw [show lg_cmp (0 : Int64) (187 : Int64) = (-1) from by decide]) ?_
  refine lv_if_gt (tgt := 17) hx hb dX11_in_10 (by decide) (fun c_10 => absurd c_10 (by decide)) (fun _ => ?_)
  refine lv_iconst (v := 1) hx hb dX11_in_13 (by decide) ?_
  refine lv_goto (tgt := 18) hx hb dX11_in_14 (by decide) ?_
  exact k_endz (ty := .boolean) (by decide) hx hb hr hlocks hh ⟨rfl, rfl, rfl⟩ [] [] rfl rfl rfl (Nat.le_of_ble_eq_true rfl) (Nat.le_of_ble_eq_true rfl) dX11_in_18
def wo_a45_X9_init : List Cond := [Cond.methodLink RX9 1 objectInit, Cond.instanceMethod objectInit, Cond.code objectInit ⟨#[0xb1]⟩ 1 none, Cond.fieldLink RX9 7 "SegueworksModel$Piece" "kind" "C", Cond.fieldLink RX9 13 "SegueworksModel$Piece" "row" "[I"]
def wk_a45_X9_init : List Cond := Cond.code yX9_init cX9_init 3 none :: (wo_a45_X9_init ++ (u_ws RX9 TX9 2))
theorem wo_a45_X9_init_in : ∀ w ∈ wo_a45_X9_init, w ∈ wk_a45_X9_init := fun w h => List.mem_cons_of_mem _ (List.mem_append_left _ h)
theorem ws_a45_X9_init_0 : ∀ w ∈ u_ws RX9 TX9 2, w ∈ wk_a45_X9_init := fun w h => List.mem_cons_of_mem _ (List.mem_append_right _ h)
theorem gk_a45_X9_init : ∀ w ∈ wk_a45_X9_init, goodWord w = true := List.forall_mem_cons.mpr ⟨rfl, (List.forall_mem_append.mpr ⟨(show ∀ w ∈ wo_a45_X9_init, goodWord w = true by decide +kernel), (show ∀ w ∈ u_ws RX9 TX9 2, goodWord w = true by decide +kernel)⟩)⟩
set_option maxHeartbeats 4000000 in
set_option maxRecDepth 100000 in
theorem a45_X9_init (l : Launch) (hst : l.stackTraces = false) (D : va_G) (e0 : kE) (q45 : Nat) (q43 : Nat)  : kI l yX9_init wk_a45_X9_init 1 20 0 0 D kStr e0 [] [(q45, .inr (14, [.int 0, .null]))] [.ref q45, .int 120, .ref q43] (fun v w t => v = none ∧ w = [(q45, .inr (14, [.int 120, .ref q43]))] ∧ t = []) := by
  refine k_ofI (cc := cX9_init) (maxL := 3) (ret := none) (by decide) rfl (Nat.le_of_ble_eq_true rfl) ?_
  intro p e s m args below meth c A ls hx hb hr hts hown hlocks hml hin hh hl
  have hown : s.vm.findClass RX9 = some m.cls := hown
  have hl : lv_has ls 3 [(0, .ref q45), (1, .int 120), (2, .ref q43)] := hl
  have hin : meth.name = "<init>" := hin
  refine lv_aload_n hx hb dX9_init_0 rfl (lv_at hl 0 rfl) ?_
  refine W.objInit hx hb hown (hts _ (wo_a45_X9_init_in _ (List.mem_of_getElem? (i := 0) rfl))) (hts _ (wo_a45_X9_init_in _ (List.mem_of_getElem? (i := 1) rfl))) (hts _ (wo_a45_X9_init_in _ (List.mem_of_getElem? (i := 2) rfl))) rfl (by rw [hml]; exact hl.1) rfl dX9_init_1 (Nat.le_of_ble_eq_true rfl) (Nat.le_of_ble_eq_true rfl) ?_
  refine W.eq (g2 := F0 m 4 ls []) rfl ?_
  refine lv_aload_n hx hb dX9_init_4 rfl (lv_at hl 0 rfl) ?_
  refine lv_iload_n hx hb dX9_init_5 rfl (lv_at hl 1 rfl) ?_
  refine k_putF (C := RX9) (T := TX9) (N := 2) (ci := 14) (v := .int 120) (ws' := [(q45, .inr (14, [.int 120, .null]))]) hx hb hts ws_a45_X9_init_0 tyX9 tyX9_ok nmX9 hown hh 0 rfl rfl 0 (by decide) (hts _ (wo_a45_X9_init_in _ (List.mem_of_getElem? (i := 3) rfl))) rfl hin rfl rfl rfl (Nat.le_of_ble_eq_true rfl) dX9_init_6 rfl (fun H locs hh => ?_)
  refine lv_aload_n hx hb dX9_init_9 rfl (lv_at hl 0 rfl) ?_
  refine lv_aload_n hx hb dX9_init_10 rfl (lv_at hl 2 rfl) ?_
  refine k_putF (C := RX9) (T := TX9) (N := 2) (ci := 14) (v := .ref q43) (ws' := [(q45, .inr (14, [.int 120, .ref q43]))]) hx hb hts ws_a45_X9_init_0 tyX9 tyX9_ok nmX9 hown hh 0 rfl rfl 1 (by decide) (hts _ (wo_a45_X9_init_in _ (List.mem_of_getElem? (i := 4) rfl))) rfl hin rfl rfl rfl (Nat.le_of_ble_eq_true rfl) dX9_init_11 rfl (fun H locs hh => ?_)
  exact k_endV hx hb hr hlocks hh ⟨rfl, rfl, rfl⟩ [0] [] rfl rfl rfl (Nat.le_of_ble_eq_true rfl) (Nat.le_of_ble_eq_true rfl) dX9_init_14
def wo_a46_Jx4a65c_add_72be8 : List Cond := [Cond.fieldLink RJx4a65c 48 "java/util/ArrayList" "size" "I"]
def wk_a46_Jx4a65c_add_72be8 : List Cond := Cond.code yJx4a65c_add_72be8 cJx4a65c_add_72be8 4 none :: (wo_a46_Jx4a65c_add_72be8 ++ (u_ws RJx4a65c TJx4a65c 3))
theorem wo_a46_Jx4a65c_add_72be8_in : ∀ w ∈ wo_a46_Jx4a65c_add_72be8, w ∈ wk_a46_Jx4a65c_add_72be8 := fun w h => List.mem_cons_of_mem _ (List.mem_append_left _ h)
theorem ws_a46_Jx4a65c_add_72be8_0 : ∀ w ∈ u_ws RJx4a65c TJx4a65c 3, w ∈ wk_a46_Jx4a65c_add_72be8 := fun w h => List.mem_cons_of_mem _ (List.mem_append_right _ h)
theorem gk_a46_Jx4a65c_add_72be8 : ∀ w ∈ wk_a46_Jx4a65c_add_72be8, goodWord w = true := List.forall_mem_cons.mpr ⟨rfl, (List.forall_mem_append.mpr ⟨(show ∀ w ∈ wo_a46_Jx4a65c_add_72be8, goodWord w = true by decide +kernel), (show ∀ w ∈ u_ws RJx4a65c TJx4a65c 3, goodWord w = true by decide +kernel)⟩)⟩
set_option maxHeartbeats 4000000 in
set_option maxRecDepth 100000 in
theorem a46_Jx4a65c_add_72be8 (l : Launch) (hst : l.stackTraces = false) (D : va_G) (e0 : kE) (q17 : Nat) (q45 : Nat) (q33 : Nat) (q43 : Nat) (y34 : ClassId) (q35 : Nat)  : kM l yJx4a65c_add_72be8 wk_a46_Jx4a65c_add_72be8 0 0 0 0 D kStr e0 [(y34, .object "java/lang/Object")] [(q17, .inr (4, [.int 2, .ref q33, .int 1])), (q45, .inr (14, [.int 120, .ref q43])), (q33, .inl (y34, 10, .inr (.inr (.inr (.inr (va_up ((fun _ => none)) (0 : Int32).toNatClampNeg (some q35)))))))] [.ref q17, .ref q45, .ref q33, .int 1] (fun v w t => v = none ∧ w = [(q17, .inr (4, [.int 2, .ref q33, .int 2])), (q45, .inr (14, [.int 120, .ref q43])), (q33, .inl (y34, 10, .inr (.inr (.inr (.inr (va_up ((va_up ((fun _ => none)) (0 : Int32).toNatClampNeg (some q35))) (1 : Int32).toNatClampNeg (some q45)))))))] ∧ t = [(y34, .object "java/lang/Object")]) (fun _ => False) := by
  refine k_of (cc := cJx4a65c_add_72be8) (maxL := 4) (ret := none) (by decide) rfl (Nat.le_of_ble_eq_true rfl) ?_
  intro p e s m args below meth c A ls hx hb hr hts hown hlocks hml hex hh hl
  have hown : s.vm.findClass RJx4a65c = some m.cls := hown
  have hl : lv_has ls 4 [(0, .ref q17), (1, .ref q45), (2, .ref q33), (3, .int 1)] := hl
  refine lv_iload_n hx hb dJx4a65c_add_72be8_0 rfl (lv_at hl 3 rfl) ?_
  refine lv_aload_n hx hb dJx4a65c_add_72be8_1 rfl (lv_at hl 2 rfl) ?_
  refine k_alen (v := 10) hx hb hh 2 0 rfl rfl rfl dJx4a65c_add_72be8_2 ?_
  refine lv_icmp_ne (tgt := 11) hx hb dJx4a65c_add_72be8_3 (by decide) (fun _ => ?_) (fun c_3 => absurd c_3 (by decide))
  refine lv_aload_n hx hb dJx4a65c_add_72be8_11 rfl (lv_at hl 2 rfl) ?_
  refine lv_iload_n hx hb dJx4a65c_add_72be8_12 rfl (lv_at hl 3 rfl) ?_
  refine lv_aload_n hx hb dJx4a65c_add_72be8_13 rfl (lv_at hl 1 rfl) ?_
  refine k_astO (C := RX9) (T := TX9) (N := 2) (ws' := [(q17, .inr (4, [.int 2, .ref q33, .int 1])), (q45, .inr (14, [.int 120, .ref q43])), (q33, .inl (y34, 10, .inr (.inr (.inr (.inr (va_up ((va_up ((fun _ => none)) (0 : Int32).toNatClampNeg (some q35))) (1 : Int32).toNatClampNeg (some q45)))))))]) hx hb hh 2 0 1 14 (by decide) rfl rfl rfl rfl (by unfold vp_in; decide) dJx4a65c_add_72be8_14 rfl (fun H locs hh => ?_)
  refine lv_aload_n hx hb dJx4a65c_add_72be8_15 rfl (lv_at hl 0 rfl) ?_
  refine lv_iload_n hx hb dJx4a65c_add_72be8_16 rfl (lv_at hl 3 rfl) ?_
  refine lv_iconst (v := 1) hx hb dJx4a65c_add_72be8_17 (by decide) ?_
  refine lv_iadd hx hb dJx4a65c_add_72be8_18 ?_
  refine W.eq (g2 := F0 m 19 ls [.int 2, .ref q17]) (by first | rfl | decide) ?_
  refine k_put (C := RJx4a65c) (T := TJx4a65c) (N := 3) (ci := 4) (v := .int 2) (ws' := [(q17, .inr (4, [.int 2, .ref q33, .int 2])), (q45, .inr (14, [.int 120, .ref q43])), (q33, .inl (y34, 10, .inr (.inr (.inr (.inr (va_up ((va_up ((fun _ => none)) (0 : Int32).toNatClampNeg (some q35))) (1 : Int32).toNatClampNeg (some q45)))))))]) hx hb hts ws_a46_Jx4a65c_add_72be8_0 tyJx4a65c tyJx4a65c_ok nmJx4a65c hown hh 0 rfl rfl 2 (by decide) (hts _ (wo_a46_Jx4a65c_add_72be8_in _ (List.mem_of_getElem? (i := 0) rfl))) rfl rfl rfl (Nat.le_of_ble_eq_true rfl) dJx4a65c_add_72be8_19 rfl (fun H locs hh => ?_)
  exact k_endv hx hb hr hlocks hh ⟨rfl, rfl, rfl⟩ [0, 1, 2] [0] rfl rfl rfl (Nat.le_of_ble_eq_true rfl) (Nat.le_of_ble_eq_true rfl) dJx4a65c_add_72be8_22
def wo_a47_Jx4a65c_add_9ea2d : List Cond := [Cond.sameField "java/util/ArrayList" "java/util/AbstractList" "modCount" "I", Cond.fieldLink RJx4a65c 63 "java/util/ArrayList" "modCount" "I", Cond.fieldLink RJx4a65c 9 "java/util/ArrayList" "elementData" "[Ljava/lang/Object;", Cond.fieldLink RJx4a65c 48 "java/util/ArrayList" "size" "I"]
def wk_a47_Jx4a65c_add_9ea2d : List Cond := Cond.code yJx4a65c_add_9ea2d cJx4a65c_add_9ea2d 2 (some .boolean) :: (wo_a47_Jx4a65c_add_9ea2d ++ ((u_ws RJx4a65c TJx4a65c 3) ++ (wsV RJx4a65c 131 RJx4a65c yJx4a65c_add_72be8 wk_a46_Jx4a65c_add_72be8)))
theorem wo_a47_Jx4a65c_add_9ea2d_in : ∀ w ∈ wo_a47_Jx4a65c_add_9ea2d, w ∈ wk_a47_Jx4a65c_add_9ea2d := fun w h => List.mem_cons_of_mem _ (List.mem_append_left _ h)
theorem ws_a47_Jx4a65c_add_9ea2d_0 : ∀ w ∈ u_ws RJx4a65c TJx4a65c 3, w ∈ wk_a47_Jx4a65c_add_9ea2d := fun w h => List.mem_cons_of_mem _ (List.mem_append_right _ (List.mem_append_left _ h))
theorem gi_a47_Jx4a65c_add_9ea2d_1 : GoodIn wk_a47_Jx4a65c_add_9ea2d (wsV RJx4a65c 131 RJx4a65c yJx4a65c_add_72be8 wk_a46_Jx4a65c_add_72be8) := fun w h => ⟨List.mem_cons_of_mem _ (List.mem_append_right _ (List.mem_append_right _ h)), good_of_word (kg_V gk_a46_Jx4a65c_add_72be8 w h)⟩
theorem gk_a47_Jx4a65c_add_9ea2d : ∀ w ∈ wk_a47_Jx4a65c_add_9ea2d, goodWord w = true := List.forall_mem_cons.mpr ⟨rfl, (List.forall_mem_append.mpr ⟨(show ∀ w ∈ wo_a47_Jx4a65c_add_9ea2d, goodWord w = true by decide +kernel), (List.forall_mem_append.mpr ⟨(show ∀ w ∈ u_ws RJx4a65c TJx4a65c 3, goodWord w = true by decide +kernel), (kg_V gk_a46_Jx4a65c_add_72be8)⟩)⟩)⟩
set_option maxHeartbeats 4000000 in
set_option maxRecDepth 100000 in
theorem a47_Jx4a65c_add_9ea2d (l : Launch) (hst : l.stackTraces = false) (D : va_G) (e0 : kE) (q17 : Nat) (q45 : Nat) (q33 : Nat) (q43 : Nat) (y34 : ClassId) (q35 : Nat)  : kM l yJx4a65c_add_9ea2d wk_a47_Jx4a65c_add_9ea2d 1 23 0 0 D kStr e0 [(y34, .object "java/lang/Object")] [(q17, .inr (4, [.int 1, .ref q33, .int 1])), (q45, .inr (14, [.int 120, .ref q43])), (q33, .inl (y34, 10, .inr (.inr (.inr (.inr (va_up ((fun _ => none)) (0 : Int32).toNatClampNeg (some q35)))))))] [.ref q17, .ref q45] (fun v w t => v = some (.int 1) ∧ w = [(q17, .inr (4, [.int 2, .ref q33, .int 2])), (q45, .inr (14, [.int 120, .ref q43])), (q33, .inl (y34, 10, .inr (.inr (.inr (.inr (va_up ((va_up ((fun _ => none)) (0 : Int32).toNatClampNeg (some q35))) (1 : Int32).toNatClampNeg (some q45)))))))] ∧ t = [(y34, .object "java/lang/Object")]) (fun _ => False) := by
  refine k_of (cc := cJx4a65c_add_9ea2d) (maxL := 2) (ret := (some .boolean)) (by decide) rfl (Nat.le_of_ble_eq_true rfl) ?_
  intro p e s m args below meth c A ls hx hb hr hts hown hlocks hml hex hh hl
  have hown : s.vm.findClass RJx4a65c = some m.cls := hown
  have hl : lv_has ls 2 [(0, .ref q17), (1, .ref q45)] := hl
  refine lv_aload_n hx hb dJx4a65c_add_9ea2d_0 rfl (lv_at hl 0 rfl) ?_
  refine lv_dup hx hb dJx4a65c_add_9ea2d_1 rfl ?_
  refine k_getR (ref := "java/util/ArrayList") (C := RJx4a65c) (T := TJx4a65c) (N := 3) (ci := 4) (v := .int 1) hx hb hts ws_a47_Jx4a65c_add_9ea2d_0 hown hh 0 rfl rfl 0 (by decide) (hts _ (wo_a47_Jx4a65c_add_9ea2d_in _ (List.mem_of_getElem? (i := 1) rfl))) (u_same (hts _ (wo_a47_Jx4a65c_add_9ea2d_in _ (List.mem_of_getElem? (i := 0) rfl)))) rfl dJx4a65c_add_9ea2d_2 ?_
  refine lv_iconst (v := 1) hx hb dJx4a65c_add_9ea2d_5 (by decide) ?_
  refine lv_iadd hx hb dJx4a65c_add_9ea2d_6 ?_
  refine W.eq (g2 := F0 m 7 ls [.int 2, .ref q17]) (by first | rfl | decide) ?_
  refine k_putR (ref := "java/util/ArrayList") (C := RJx4a65c) (T := TJx4a65c) (N := 3) (ci := 4) (v := .int 2) (ws' := [(q17, .inr (4, [.int 2, .ref q33, .int 1])), (q45, .inr (14, [.int 120, .ref q43])), (q33, .inl (y34, 10, .inr (.inr (.inr (.inr (va_up ((fun _ => none)) (0 : Int32).toNatClampNeg (some q35)))))))]) hx hb hts ws_a47_Jx4a65c_add_9ea2d_0 tyJx4a65c tyJx4a65c_ok nmJx4a65c hown hh 0 rfl rfl 0 (by decide) (hts _ (wo_a47_Jx4a65c_add_9ea2d_in _ (List.mem_of_getElem? (i := 1) rfl))) (u_same (hts _ (wo_a47_Jx4a65c_add_9ea2d_in _ (List.mem_of_getElem? (i := 0) rfl)))) rfl rfl rfl (Nat.le_of_ble_eq_true rfl) dJx4a65c_add_9ea2d_7 rfl (fun H locs hh => ?_)
  refine lv_aload_n hx hb dJx4a65c_add_9ea2d_10 rfl (lv_at hl 0 rfl) ?_
  refine lv_aload_n hx hb dJx4a65c_add_9ea2d_11 rfl (lv_at hl 1 rfl) ?_
  refine lv_aload_n hx hb dJx4a65c_add_9ea2d_12 rfl (lv_at hl 0 rfl) ?_
  refine k_get (C := RJx4a65c) (T := TJx4a65c) (N := 3) (ci := 4) (v := .ref q33) hx hb hts ws_a47_Jx4a65c_add_9ea2d_0 hown hh 0 rfl rfl 1 (by decide) (hts _ (wo_a47_Jx4a65c_add_9ea2d_in _ (List.mem_of_getElem? (i := 2) rfl))) rfl dJx4a65c_add_9ea2d_13 ?_
  refine lv_aload_n hx hb dJx4a65c_add_9ea2d_16 rfl (lv_at hl 0 rfl) ?_
  refine k_get (C := RJx4a65c) (T := TJx4a65c) (N := 3) (ci := 4) (v := .int 1) hx hb hts ws_a47_Jx4a65c_add_9ea2d_0 hown hh 0 rfl rfl 2 (by decide) (hts _ (wo_a47_Jx4a65c_add_9ea2d_in _ (List.mem_of_getElem? (i := 3) rfl))) rfl dJx4a65c_add_9ea2d_17 ?_
  refine k_callV (C := RJx4a65c) (T := TJx4a65c) (N := 3) (ci := 4) (q0 := 0) (wr := []) (rest := []) (own := RJx4a65c) ⟨hx, hb, hml, hown, hts⟩ (a46_Jx4a65c_add_72be8 l hst D e0 q17 q45 q33 q43 y34 q35 ) (cwV 3 hts gi_a47_Jx4a65c_add_9ea2d_1 rfl rfl rfl (by decide +kernel) ⟨Nat.le_of_ble_eq_true rfl, Nat.le_of_ble_eq_true rfl⟩) hh rfl rfl [0, 1, 2] [] [0] rfl rfl rfl rfl (by decide) rfl rfl hl rfl (Nat.le_of_ble_eq_true rfl) dJx4a65c_add_9ea2d_20 ⟨Nat.le_of_ble_eq_true rfl, (Nat.le_of_ble_eq_true rfl)⟩ (fun _ _ _ _ _ h => h.elim) (fun v w ty1 H locs hp hh => ?_)
  obtain ⟨rfl, rfl, rfl⟩ := hp
  have hh : kH D kStr e0 A s H [(q17, .inr (4, [.int 2, .ref q33, .int 2])), (q45, .inr (14, [.int 120, .ref q43])), (q33, .inl (y34, 10, .inr (.inr (.inr (.inr (va_up ((va_up ((fun _ => none)) (0 : Int32).toNatClampNeg (some q35))) (1 : Int32).toNatClampNeg (some q45)))))))] [(y34, .object "java/lang/Object"), (y34, .object "java/lang/Object")] _ := hh
  refine W.eq (g2 := F0 m 23 ls []) (by first | rfl | decide) ?_
  refine lv_iconst (v := 1) hx hb dJx4a65c_add_9ea2d_23 (by decide) ?_
  exact k_endz (ty := .boolean) (by decide) hx hb hr hlocks hh ⟨rfl, rfl, rfl⟩ [0, 1, 2] [0] rfl rfl rfl (Nat.le_of_ble_eq_true rfl) (Nat.le_of_ble_eq_true rfl) dJx4a65c_add_9ea2d_24
def wo_a48_Jx4a65c_size_8abf5 : List Cond := [Cond.fieldLink RJx4a65c 48 "java/util/ArrayList" "size" "I"]
def wk_a48_Jx4a65c_size_8abf5 : List Cond := Cond.code yJx4a65c_size_8abf5 cJx4a65c_size_8abf5 1 (some .int) :: (wo_a48_Jx4a65c_size_8abf5 ++ (u_ws RJx4a65c TJx4a65c 3))
theorem wo_a48_Jx4a65c_size_8abf5_in : ∀ w ∈ wo_a48_Jx4a65c_size_8abf5, w ∈ wk_a48_Jx4a65c_size_8abf5 := fun w h => List.mem_cons_of_mem _ (List.mem_append_left _ h)
theorem ws_a48_Jx4a65c_size_8abf5_0 : ∀ w ∈ u_ws RJx4a65c TJx4a65c 3, w ∈ wk_a48_Jx4a65c_size_8abf5 := fun w h => List.mem_cons_of_mem _ (List.mem_append_right _ h)
theorem gk_a48_Jx4a65c_size_8abf5 : ∀ w ∈ wk_a48_Jx4a65c_size_8abf5, goodWord w = true := List.forall_mem_cons.mpr ⟨rfl, (List.forall_mem_append.mpr ⟨(show ∀ w ∈ wo_a48_Jx4a65c_size_8abf5, goodWord w = true by decide +kernel), (show ∀ w ∈ u_ws RJx4a65c TJx4a65c 3, goodWord w = true by decide +kernel)⟩)⟩
set_option maxHeartbeats 4000000 in
set_option maxRecDepth 100000 in
theorem a48_Jx4a65c_size_8abf5 (l : Launch) (hst : l.stackTraces = false) (D : va_G) (e0 : kE) (q17 : Nat) (q33 : Nat)  : kM l yJx4a65c_size_8abf5 wk_a48_Jx4a65c_size_8abf5 0 0 0 0 D kStr e0 [] [(q17, .inr (4, [.int 2, .ref q33, .int 2]))] [.ref q17] (fun v w t => v = some (.int 2) ∧ w = [(q17, .inr (4, [.int 2, .ref q33, .int 2]))] ∧ t = []) (fun _ => False) := by
  refine k_of (cc := cJx4a65c_size_8abf5) (maxL := 1) (ret := (some .int)) (by decide) rfl (Nat.le_of_ble_eq_true rfl) ?_
  intro p e s m args below meth c A ls hx hb hr hts hown hlocks hml hex hh hl
  have hown : s.vm.findClass RJx4a65c = some m.cls := hown
  have hl : lv_has ls 1 [(0, .ref q17)] := hl
  refine lv_aload_n hx hb dJx4a65c_size_8abf5_0 rfl (lv_at hl 0 rfl) ?_
  refine k_get (C := RJx4a65c) (T := TJx4a65c) (N := 3) (ci := 4) (v := .int 2) hx hb hts ws_a48_Jx4a65c_size_8abf5_0 hown hh 0 rfl rfl 2 (by decide) (hts _ (wo_a48_Jx4a65c_size_8abf5_in _ (List.mem_of_getElem? (i := 0) rfl))) rfl dJx4a65c_size_8abf5_1 ?_
  exact k_endi hx hb hr hlocks hh ⟨rfl, rfl, rfl⟩ [0] [] rfl rfl rfl (Nat.le_of_ble_eq_true rfl) (Nat.le_of_ble_eq_true rfl) dJx4a65c_size_8abf5_4
def wo_a49_X11_adds : List Cond := [Cond.fieldLink RX11 46 "SegueworksModel" "thrown" "I", Cond.fieldLink RX11 25 "SegueworksModel" "pieces" "Ljava/util/ArrayList;", Cond.classLink RX11 84 RX9, Cond.instantiable RX9 2, Cond.initialized RX9, Cond.methodLink RX11 94 yX9_init, Cond.instanceMethod yX9_init]
def wk_a49_X11_adds : List Cond := Cond.code yX11_adds cX11_adds 5 (some .int) :: (wo_a49_X11_adds ++ ((u_ws RX11 TX11 11) ++ ((wsV RX11 50 RJx4a65c yJx4a65c_size_8abf5 wk_a23_Jx4a65c_size_8abf5) ++ ((u_ws RX9 TX9 2) ++ ((wk_a45_X9_init) ++ ((wsV RX11 58 RJx4a65c yJx4a65c_add_9ea2d wk_a47_Jx4a65c_add_9ea2d) ++ ((wsV RX11 50 RJx4a65c yJx4a65c_size_8abf5 wk_a48_Jx4a65c_size_8abf5) ++ (va_wsS RX11 90 yX11_held wk_a25_X11_held))))))))
theorem wo_a49_X11_adds_in : ∀ w ∈ wo_a49_X11_adds, w ∈ wk_a49_X11_adds := fun w h => List.mem_cons_of_mem _ (List.mem_append_left _ h)
theorem ws_a49_X11_adds_0 : ∀ w ∈ u_ws RX11 TX11 11, w ∈ wk_a49_X11_adds := fun w h => List.mem_cons_of_mem _ (List.mem_append_right _ (List.mem_append_left _ h))
theorem gi_a49_X11_adds_1 : GoodIn wk_a49_X11_adds (wsV RX11 50 RJx4a65c yJx4a65c_size_8abf5 wk_a23_Jx4a65c_size_8abf5) := fun w h => ⟨List.mem_cons_of_mem _ (List.mem_append_right _ (List.mem_append_right _ (List.mem_append_left _ h))), good_of_word (kg_V gk_a23_Jx4a65c_size_8abf5 w h)⟩
theorem ws_a49_X11_adds_2 : ∀ w ∈ u_ws RX9 TX9 2, w ∈ wk_a49_X11_adds := fun w h => List.mem_cons_of_mem _ (List.mem_append_right _ (List.mem_append_right _ (List.mem_append_right _ (List.mem_append_left _ h))))
theorem gi_a49_X11_adds_3 : GoodIn wk_a49_X11_adds (wk_a45_X9_init) := fun w h => ⟨List.mem_cons_of_mem _ (List.mem_append_right _ (List.mem_append_right _ (List.mem_append_right _ (List.mem_append_right _ (List.mem_append_left _ h))))), good_of_word (gk_a45_X9_init w h)⟩
theorem gi_a49_X11_adds_4 : GoodIn wk_a49_X11_adds (wsV RX11 58 RJx4a65c yJx4a65c_add_9ea2d wk_a47_Jx4a65c_add_9ea2d) := fun w h => ⟨List.mem_cons_of_mem _ (List.mem_append_right _ (List.mem_append_right _ (List.mem_append_right _ (List.mem_append_right _ (List.mem_append_right _ (List.mem_append_left _ h)))))), good_of_word (kg_V gk_a47_Jx4a65c_add_9ea2d w h)⟩
theorem gi_a49_X11_adds_5 : GoodIn wk_a49_X11_adds (wsV RX11 50 RJx4a65c yJx4a65c_size_8abf5 wk_a48_Jx4a65c_size_8abf5) := fun w h => ⟨List.mem_cons_of_mem _ (List.mem_append_right _ (List.mem_append_right _ (List.mem_append_right _ (List.mem_append_right _ (List.mem_append_right _ (List.mem_append_right _ (List.mem_append_left _ h))))))), good_of_word (kg_V gk_a48_Jx4a65c_size_8abf5 w h)⟩
theorem gi_a49_X11_adds_6 : GoodIn wk_a49_X11_adds (va_wsS RX11 90 yX11_held wk_a25_X11_held) := fun w h => ⟨List.mem_cons_of_mem _ (List.mem_append_right _ (List.mem_append_right _ (List.mem_append_right _ (List.mem_append_right _ (List.mem_append_right _ (List.mem_append_right _ (List.mem_append_right _ h))))))), good_of_word (kg_S gk_a25_X11_held w h)⟩
theorem gk_a49_X11_adds : ∀ w ∈ wk_a49_X11_adds, goodWord w = true := List.forall_mem_cons.mpr ⟨rfl, (List.forall_mem_append.mpr ⟨(show ∀ w ∈ wo_a49_X11_adds, goodWord w = true by decide +kernel), (List.forall_mem_append.mpr ⟨(show ∀ w ∈ u_ws RX11 TX11 11, goodWord w = true by decide +kernel), (List.forall_mem_append.mpr ⟨(kg_V gk_a23_Jx4a65c_size_8abf5), (List.forall_mem_append.mpr ⟨(show ∀ w ∈ u_ws RX9 TX9 2, goodWord w = true by decide +kernel), (List.forall_mem_append.mpr ⟨gk_a45_X9_init, (List.forall_mem_append.mpr ⟨(kg_V gk_a47_Jx4a65c_add_9ea2d), (List.forall_mem_append.mpr ⟨(kg_V gk_a48_Jx4a65c_size_8abf5), (kg_S gk_a25_X11_held)⟩)⟩)⟩)⟩)⟩)⟩)⟩)⟩
set_option maxHeartbeats 4000000 in
set_option maxRecDepth 100000 in
theorem lp_a49_X11_adds (l : Launch) (hst : l.stackTraces = false) {p : Program} {e : Env} {s : State} {m : MethodId} {args : Array Value} {below : List Frame} {meth : Method} {c : Code} {Q : State → Prop} {A : Nat → Prop} (hx : p.tables.exec = Jvm.exec) (hb : c.code = cX11_adds) (hts : ∀ w ∈ wk_a49_X11_adds, w.before args s = true) (hown : s.vm.findClass RX11 = some m.cls) (hml : c.maxLocals = 5) (D : va_G) (e0 : kE) (q15 : Nat) (q16 : Nat) (q17 : Nat) (q18 : Nat) (q19 : Nat) (q20 : Nat) (q21 : Nat) (q22 : Nat) (q23 : Nat) (q43 : Nat) (y44 : ClassId) (q33 : Nat) (y34 : ClassId) (q35 : Nat)  (kk : ∀ (H : Heap) (locs : List Loc) (ls : Array Slot), kH D kStr e0 A s H [(q15, .inr (16, [.int 0, .ref q16, .ref q17, .ref q18, .ref q19, .ref q20, .ref q21, .ref q22, .ref q23, .int 0, .int 0])), (q43, .inl (y44, 374, .inl (fun _ => 0))), (q33, .inl (y34, 10, .inr (.inr (.inr (.inr (va_up ((fun _ => none)) (0 : Int32).toNatClampNeg (some q35))))))), (q17, .inr (4, [.int 1, .ref q33, .int 1]))] [(y34, .object "java/lang/Object"), (y44, .int)] locs → lv_has ls 5 [(4, .int (nI 374)), (0, .ref q15), (1, .int 120), (2, .ref q43), (3, .int 4)] → W p l e (kRm 2 49 1 2) s m args below meth c H locs 0 0 Q (F0 m 71 ls [])) : ∀ (k i : Nat) (H : Heap) (locs : List Loc) (ls : Array Slot), k + i = 374 → kH D kStr e0 A s H [(q15, .inr (16, [.int 0, .ref q16, .ref q17, .ref q18, .ref q19, .ref q20, .ref q21, .ref q22, .ref q23, .int 0, .int 0])), (q43, .inl (y44, 374, .inl (fun _ => 0))), (q33, .inl (y34, 10, .inr (.inr (.inr (.inr (va_up ((fun _ => none)) (0 : Int32).toNatClampNeg (some q35))))))), (q17, .inr (4, [.int 1, .ref q33, .int 1]))] [(y34, .object "java/lang/Object"), (y44, .int)] locs → lv_has ls 5 [(4, .int (nI i)), (0, .ref q15), (1, .int 120), (2, .ref q43), (3, .int 4)] → W p l e (kRm 2 49 1 2) s m args below meth c H locs 0 0 Q (F0 m 47 ls []) := by
  intro k
  induction k with
  | zero =>
    intro i H locs ls hi0 hh hl
    obtain rfl : i = 374 := by omega
    have hh : kH D kStr e0 A s H [(q15, .inr (16, [.int 0, .ref q16, .ref q17, .ref q18, .ref q19, .ref q20, .ref q21, .ref q22, .ref q23, .int 0, .int 0])), (q43, .inl (y44, 374, .inl (fun _ => 0))), (q33, .inl (y34, 10, .inr (.inr (.inr (.inr (va_up ((fun _ => none)) (0 : Int32).toNatClampNeg (some q35))))))), (q17, .inr (4, [.int 1, .ref q33, .int 1]))] [(y34, .object "java/lang/Object"), (y44, .int)] _ := hh
    have hl : lv_has ls 5 [(4, .int (nI 374)), (0, .ref q15), (1, .int 120), (2, .ref q43), (3, .int 4)] := hl
    refine lv_iload hx hb dX11_adds_47 (lv_at hl 0 rfl) ?_
    refine lv_aload_n hx hb dX11_adds_49 rfl (lv_at hl 3 rfl) ?_
    refine k_alen (v := 374) hx hb hh 1 1 rfl rfl rfl dX11_adds_50 ?_
    refine lv_icmp_ge (tgt := 71) hx hb dX11_adds_51 (by decide) (fun _ => ?_) (fun c_51 => absurd ((show (374 : Int32) ≤ nI 374 by decide)) c_51)
    exact kk _ _ _ hh (lv_sub hl [0, 1, 2, 3, 4] rfl)
  | succ k ih =>
    intro i H locs ls hi0 hh hl
    have hi : i < 374 := by omega
    refine lv_iload hx hb dX11_adds_47 (lv_at hl 0 rfl) ?_
    refine lv_aload_n hx hb dX11_adds_49 rfl (lv_at hl 3 rfl) ?_
    refine k_alen (v := 374) hx hb hh 1 1 rfl rfl rfl dX11_adds_50 ?_
    refine lv_icmp_ge (tgt := 71) hx hb dX11_adds_51 (by decide) (fun c_51 => absurd c_51 ((show ¬ (374 : Int32) ≤ nI i from nI_ge (b := 374) hi (by omega)))) (fun _ => ?_)
    refine lv_aload_n hx hb dX11_adds_54 rfl (lv_at hl 3 rfl) ?_
    refine lv_iload hx hb dX11_adds_55 (lv_at hl 0 rfl) ?_
    refine lv_aload_n hx hb dX11_adds_57 rfl (lv_at hl 3 rfl) ?_
    refine lv_iload hx hb dX11_adds_58 (lv_at hl 0 rfl) ?_
    refine k_iald (v := 0) hx hb hh 1 1 rfl rfl (vp_in_nI hi (by decide)) rfl dX11_adds_60 ?_
    refine k_callS (wr := [(q15, .inr (16, [.int 0, .ref q16, .ref q17, .ref q18, .ref q19, .ref q20, .ref q21, .ref q22, .ref q23, .int 0, .int 0])), (q43, .inl (y44, 374, .inl (fun _ => 0))), (q33, .inl (y34, 10, .inr (.inr (.inr (.inr (va_up ((fun _ => none)) (0 : Int32).toNatClampNeg (some q35))))))), (q17, .inr (4, [.int 1, .ref q33, .int 1]))]) (rest := [.int (nI i), .ref q43]) (own := RX11) ⟨hx, hb, hml, hown, hts⟩ (a25_X11_held l hst D e0  ) (va_cwS 1 hts gi_a49_X11_adds_6 rfl rfl rfl (by decide +kernel) ⟨Nat.le_of_ble_eq_true rfl, Nat.le_of_ble_eq_true rfl⟩) hh [] [0, 1, 2, 3] [] rfl rfl rfl rfl (by decide) rfl rfl hl rfl (Nat.le_of_ble_eq_true rfl) dX11_adds_61 ⟨Nat.le_of_ble_eq_true rfl, (Nat.le_of_ble_eq_true rfl)⟩ (fun _ _ _ _ _ h => h.elim) (fun v w ty1 H locs hp hh => ?_)
    obtain ⟨rfl, rfl, rfl⟩ := hp
    have hh : kH D kStr e0 A s H [(q15, .inr (16, [.int 0, .ref q16, .ref q17, .ref q18, .ref q19, .ref q20, .ref q21, .ref q22, .ref q23, .int 0, .int 0])), (q43, .inl (y44, 374, .inl (fun _ => 0))), (q33, .inl (y34, 10, .inr (.inr (.inr (.inr (va_up ((fun _ => none)) (0 : Int32).toNatClampNeg (some q35))))))), (q17, .inr (4, [.int 1, .ref q33, .int 1]))] [(y34, .object "java/lang/Object"), (y44, .int)] _ := hh
    refine W.eq (g2 := F0 m 64 ls [.int 0, .int (nI i), .ref q43]) (by first | rfl | decide) ?_
    refine k_iast0 hx hb hh 1 1 rfl rfl (vp_in_nI hi (by decide)) dX11_adds_64 (fun H locs hh => ?_)
    refine lv_iinc (v := (nI (i + 1))) (lv' := [(4, .int (nI (i + 1))), (0, .ref q15), (1, .int 120), (2, .ref q43), (3, .int 4)]) hx hb dX11_adds_65 hl (k := 0) rfl (nI_1 i) (by decide) rfl (fun ls hl => ?_)
    refine lv_goto (tgt := 47) hx hb dX11_adds_68 (by decide) ?_
    exact ih (i + 1) _ _ _ (by omega) (hh.sub [0, 1, 2, 3] [0, 1] rfl rfl rfl) (lv_sub hl [0, 1, 2, 3, 4] rfl)
set_option maxHeartbeats 4000000 in
set_option maxRecDepth 100000 in
theorem a49_X11_adds (l : Launch) (hst : l.stackTraces = false) (D : va_G) (e0 : kE) (q15 : Nat) (q43 : Nat) (q16 : Nat) (q17 : Nat) (q18 : Nat) (q19 : Nat) (q20 : Nat) (q21 : Nat) (q22 : Nat) (q23 : Nat) (y44 : ClassId) (q33 : Nat) (y34 : ClassId) (q35 : Nat)  : kM l yX11_adds wk_a49_X11_adds 2 49 1 2 D kStr e0 [(y34, .object "java/lang/Object"), (y44, .int)] [(q15, .inr (16, [.int 0, .ref q16, .ref q17, .ref q18, .ref q19, .ref q20, .ref q21, .ref q22, .ref q23, .int 0, .int 0])), (q43, .inl (y44, 374, .inl (fun _ => 0))), (q17, .inr (4, [.int 1, .ref q33, .int 1])), (q33, .inl (y34, 10, .inr (.inr (.inr (.inr (va_up ((fun _ => none)) (0 : Int32).toNatClampNeg (some q35)))))))] [.ref q15, .int 120, .ref q43, .int 4] (fun v w t => ∃ (q45 : Nat), v = some (.int 1) ∧ w = [(q15, .inr (16, [.int 0, .ref q16, .ref q17, .ref q18, .ref q19, .ref q20, .ref q21, .ref q22, .ref q23, .int 0, .int 0])), (q43, .inl (y44, 374, .inl (fun _ => 0))), (q17, .inr (4, [.int 2, .ref q33, .int 2])), (q33, .inl (y34, 10, .inr (.inr (.inr (.inr (va_up ((va_up ((fun _ => none)) (0 : Int32).toNatClampNeg (some q35))) (1 : Int32).toNatClampNeg (some q45))))))), (q45, .inr (14, [.int 120, .ref q43]))] ∧ t = [(y44, .int), (y34, .object "java/lang/Object")]) (fun _ => False) := by
  refine k_of (cc := cX11_adds) (maxL := 5) (ret := (some .int)) (by decide) rfl (Nat.le_of_ble_eq_true rfl) ?_
  intro p e s m args below meth c A ls hx hb hr hts hown hlocks hml hex hh hl
  have hown : s.vm.findClass RX11 = some m.cls := hown
  have hl : lv_has ls 5 [(0, .ref q15), (1, .int 120), (2, .ref q43), (3, .int 4)] := hl
  refine lv_aload_n hx hb dX11_adds_0 rfl (lv_at hl 0 rfl) ?_
  refine lv_aload_n hx hb dX11_adds_1 rfl (lv_at hl 0 rfl) ?_
  refine k_get (C := RX11) (T := TX11) (N := 11) (ci := 16) (v := .int 0) hx hb hts ws_a49_X11_adds_0 hown hh 0 rfl rfl 0 (by decide) (hts _ (wo_a49_X11_adds_in _ (List.mem_of_getElem? (i := 0) rfl))) rfl dX11_adds_2 ?_
  refine lv_if_le (tgt := 15) hx hb dX11_adds_5 (by decide) (fun _ => ?_) (fun c_5 => absurd (by decide) c_5)
  refine lv_aload_n hx hb dX11_adds_15 rfl (lv_at hl 0 rfl) ?_
  refine k_get (C := RX11) (T := TX11) (N := 11) (ci := 16) (v := .ref q17) hx hb hts ws_a49_X11_adds_0 hown hh 0 rfl rfl 2 (by decide) (hts _ (wo_a49_X11_adds_in _ (List.mem_of_getElem? (i := 1) rfl))) rfl dX11_adds_16 ?_
  refine k_callV (C := RJx4a65c) (T := TJx4a65c) (N := 3) (ci := 4) (q0 := 2) (wr := [(q15, .inr (16, [.int 0, .ref q16, .ref q17, .ref q18, .ref q19, .ref q20, .ref q21, .ref q22, .ref q23, .int 0, .int 0])), (q43, .inl (y44, 374, .inl (fun _ => 0))), (q33, .inl (y34, 10, .inr (.inr (.inr (.inr (va_up ((fun _ => none)) (0 : Int32).toNatClampNeg (some q35)))))))]) (rest := [.ref q15]) (own := RX11) ⟨hx, hb, hml, hown, hts⟩ (a23_Jx4a65c_size_8abf5 l hst D e0 q17 q33 ) (cwV 0 hts gi_a49_X11_adds_1 rfl rfl rfl (by decide +kernel) ⟨Nat.le_of_ble_eq_true rfl, Nat.le_of_ble_eq_true rfl⟩) hh rfl rfl [2] [0, 1, 3] [] rfl rfl rfl rfl (by decide) rfl rfl hl rfl (Nat.le_of_ble_eq_true rfl) dX11_adds_19 ⟨Nat.le_of_ble_eq_true rfl, (Nat.le_of_ble_eq_true rfl)⟩ (fun _ _ _ _ _ h => h.elim) (fun v w ty1 H locs hp hh => ?_)
  obtain ⟨rfl, rfl, rfl⟩ := hp
  have hh : kH D kStr e0 A s H [(q15, .inr (16, [.int 0, .ref q16, .ref q17, .ref q18, .ref q19, .ref q20, .ref q21, .ref q22, .ref q23, .int 0, .int 0])), (q43, .inl (y44, 374, .inl (fun _ => 0))), (q33, .inl (y34, 10, .inr (.inr (.inr (.inr (va_up ((fun _ => none)) (0 : Int32).toNatClampNeg (some q35))))))), (q17, .inr (4, [.int 1, .ref q33, .int 1]))] [(y34, .object "java/lang/Object"), (y44, .int)] _ := hh
  refine W.eq (g2 := F0 m 22 ls [.int 1, .ref q15]) (by first | rfl | decide) ?_
  refine lv_bipush (v := 24) hx hb dX11_adds_22 (by decide) ?_
  refine lv_icmp_ne (tgt := 31) hx hb dX11_adds_24 (by decide) (fun _ => ?_) (fun c_24 => absurd c_24 (by decide))
  refine lv_iconst (v := 0) hx hb dX11_adds_31 (by decide) ?_
  refine k_put (C := RX11) (T := TX11) (N := 11) (ci := 16) (v := .int 0) (ws' := [(q15, .inr (16, [.int 0, .ref q16, .ref q17, .ref q18, .ref q19, .ref q20, .ref q21, .ref q22, .ref q23, .int 0, .int 0])), (q43, .inl (y44, 374, .inl (fun _ => 0))), (q33, .inl (y34, 10, .inr (.inr (.inr (.inr (va_up ((fun _ => none)) (0 : Int32).toNatClampNeg (some q35))))))), (q17, .inr (4, [.int 1, .ref q33, .int 1]))]) hx hb hts ws_a49_X11_adds_0 tyX11 tyX11_ok nmX11 hown hh 0 rfl rfl 0 (by decide) (hts _ (wo_a49_X11_adds_in _ (List.mem_of_getElem? (i := 0) rfl))) rfl rfl rfl (Nat.le_of_ble_eq_true rfl) dX11_adds_32 rfl (fun H locs hh => ?_)
  refine lv_aload_n hx hb dX11_adds_35 rfl (lv_at hl 0 rfl) ?_
  refine k_get (C := RX11) (T := TX11) (N := 11) (ci := 16) (v := .int 0) hx hb hts ws_a49_X11_adds_0 hown hh 0 rfl rfl 0 (by decide) (hts _ (wo_a49_X11_adds_in _ (List.mem_of_getElem? (i := 0) rfl))) rfl dX11_adds_36 ?_
  refine lv_if_le (tgt := 44) hx hb dX11_adds_39 (by decide) (fun _ => ?_) (fun c_39 => absurd (by decide) c_39)
  refine lv_iconst (v := 0) hx hb dX11_adds_44 (by decide) ?_
  refine lv_istore (lv' := [(4, .int 0), (0, .ref q15), (1, .int 120), (2, .ref q43), (3, .int 4)]) hx hb dX11_adds_45 hl (by decide) rfl (fun ls hl => ?_)
  refine lp_a49_X11_adds l hst hx hb hts hown hml D e0 q15 q16 q17 q18 q19 q20 q21 q22 q23 q43 y44 q33 y34 q35  (fun H locs ls hh hl => ?_) 374 0 _ _ _ (by omega) (hh.sub [0, 1, 2, 3] [0, 1] rfl rfl rfl) (lv_sub hl [0, 1, 2, 3, 4] rfl)
  have hh : kH D kStr e0 A s H [(q15, .inr (16, [.int 0, .ref q16, .ref q17, .ref q18, .ref q19, .ref q20, .ref q21, .ref q22, .ref q23, .int 0, .int 0])), (q43, .inl (y44, 374, .inl (fun _ => 0))), (q33, .inl (y34, 10, .inr (.inr (.inr (.inr (va_up ((fun _ => none)) (0 : Int32).toNatClampNeg (some q35))))))), (q17, .inr (4, [.int 1, .ref q33, .int 1]))] [(y34, .object "java/lang/Object"), (y44, .int)] _ := hh
  have hl : lv_has ls 5 [(4, .int (nI 374)), (0, .ref q15), (1, .int 120), (2, .ref q43), (3, .int 4)] := hl
  refine lv_aload_n hx hb dX11_adds_71 rfl (lv_at hl 1 rfl) ?_
  refine k_get (C := RX11) (T := TX11) (N := 11) (ci := 16) (v := .ref q17) hx hb hts ws_a49_X11_adds_0 hown hh 0 rfl rfl 2 (by decide) (hts _ (wo_a49_X11_adds_in _ (List.mem_of_getElem? (i := 1) rfl))) rfl dX11_adds_72 ?_
  refine k_new (C := RX9) (T := TX9) (N := 2) (ci := 14) (fs := [.int 0, .null]) hx hb hts ws_a49_X11_adds_2 tyX9 tyX9_ok hown (hts _ (wo_a49_X11_adds_in _ (List.mem_of_getElem? (i := 2) rfl))) (hts _ (wo_a49_X11_adds_in _ (List.mem_of_getElem? (i := 3) rfl))) (hts _ (wo_a49_X11_adds_in _ (List.mem_of_getElem? (i := 4) rfl))) hh rfl (fun j hj => by rcases (show j = 0 ∨ j = 1 by omega) with rfl | rfl <;> rfl) (Nat.le_of_ble_eq_true rfl) (Nat.le_of_ble_eq_true rfl) dX11_adds_75 (fun q45 H hh => ?_)
  have hh : kH D kStr e0 A s H [(q15, .inr (16, [.int 0, .ref q16, .ref q17, .ref q18, .ref q19, .ref q20, .ref q21, .ref q22, .ref q23, .int 0, .int 0])), (q43, .inl (y44, 374, .inl (fun _ => 0))), (q33, .inl (y34, 10, .inr (.inr (.inr (.inr (va_up ((fun _ => none)) (0 : Int32).toNatClampNeg (some q35))))))), (q17, .inr (4, [.int 1, .ref q33, .int 1])), (q45, .inr (14, [.int 0, .null]))] [(y34, .object "java/lang/Object"), (y44, .int)] _ := hh
  refine lv_dup hx hb dX11_adds_78 rfl ?_
  refine lv_iload_n hx hb dX11_adds_79 rfl (lv_at hl 2 rfl) ?_
  refine lv_aload_n hx hb dX11_adds_80 rfl (lv_at hl 3 rfl) ?_
  refine k_callI (wr := [(q15, .inr (16, [.int 0, .ref q16, .ref q17, .ref q18, .ref q19, .ref q20, .ref q21, .ref q22, .ref q23, .int 0, .int 0])), (q43, .inl (y44, 374, .inl (fun _ => 0))), (q33, .inl (y34, 10, .inr (.inr (.inr (.inr (va_up ((fun _ => none)) (0 : Int32).toNatClampNeg (some q35))))))), (q17, .inr (4, [.int 1, .ref q33, .int 1]))]) (rest := [.ref q45, .ref q17]) (own := RX11) ⟨hx, hb, hml, hown, hts⟩ (a45_X9_init l hst D e0 q45 q43 ) (cwI 2 hts gi_a49_X11_adds_3 rfl rfl rfl (hts _ (wo_a49_X11_adds_in _ (List.mem_of_getElem? (i := 4) rfl))) (hts _ (wo_a49_X11_adds_in _ (List.mem_of_getElem? (i := 5) rfl))) (hts _ (wo_a49_X11_adds_in _ (List.mem_of_getElem? (i := 6) rfl))) rfl (by decide +kernel) ⟨Nat.le_of_ble_eq_true rfl, Nat.le_of_ble_eq_true rfl⟩) hh [4] [0, 1, 2, 3] [] rfl rfl rfl rfl (by decide) rfl rfl hl rfl (Nat.le_of_ble_eq_true rfl) dX11_adds_81 ⟨Nat.le_of_ble_eq_true rfl, (Nat.le_of_ble_eq_true rfl)⟩ (fun v w ty1 H locs hp hh => ?_)
  obtain ⟨rfl, rfl, rfl⟩ := hp
  have hh : kH D kStr e0 A s H [(q15, .inr (16, [.int 0, .ref q16, .ref q17, .ref q18, .ref q19, .ref q20, .ref q21, .ref q22, .ref q23, .int 0, .int 0])), (q43, .inl (y44, 374, .inl (fun _ => 0))), (q33, .inl (y34, 10, .inr (.inr (.inr (.inr (va_up ((fun _ => none)) (0 : Int32).toNatClampNeg (some q35))))))), (q17, .inr (4, [.int 1, .ref q33, .int 1])), (q45, .inr (14, [.int 120, .ref q43]))] [(y34, .object "java/lang/Object"), (y44, .int)] _ := hh
  refine W.eq (g2 := F0 m 84 ls [.ref q45, .ref q17]) (by first | rfl | decide) ?_
  refine k_callV (C := RJx4a65c) (T := TJx4a65c) (N := 3) (ci := 4) (q0 := 3) (wr := [(q15, .inr (16, [.int 0, .ref q16, .ref q17, .ref q18, .ref q19, .ref q20, .ref q21, .ref q22, .ref q23, .int 0, .int 0])), (q43, .inl (y44, 374, .inl (fun _ => 0)))]) (rest := []) (own := RX11) ⟨hx, hb, hml, hown, hts⟩ (a47_Jx4a65c_add_9ea2d l hst D e0 q17 q45 q33 q43 y34 q35 ) (cwV 1 hts gi_a49_X11_adds_4 rfl rfl rfl (by decide +kernel) ⟨Nat.le_of_ble_eq_true rfl, Nat.le_of_ble_eq_true rfl⟩) hh rfl rfl [3, 4, 2] [0, 1] [0] rfl rfl rfl rfl (by decide) rfl rfl hl rfl (Nat.le_of_ble_eq_true rfl) dX11_adds_84 ⟨Nat.le_of_ble_eq_true rfl, (Nat.le_of_ble_eq_true rfl)⟩ (fun _ _ _ _ _ h => h.elim) (fun v w ty1 H locs hp hh => ?_)
  obtain ⟨rfl, rfl, rfl⟩ := hp
  have hh : kH D kStr e0 A s H [(q15, .inr (16, [.int 0, .ref q16, .ref q17, .ref q18, .ref q19, .ref q20, .ref q21, .ref q22, .ref q23, .int 0, .int 0])), (q43, .inl (y44, 374, .inl (fun _ => 0))), (q17, .inr (4, [.int 2, .ref q33, .int 2])), (q45, .inr (14, [.int 120, .ref q43])), (q33, .inl (y34, 10, .inr (.inr (.inr (.inr (va_up ((va_up ((fun _ => none)) (0 : Int32).toNatClampNeg (some q35))) (1 : Int32).toNatClampNeg (some q45)))))))] [(y34, .object "java/lang/Object"), (y44, .int), (y34, .object "java/lang/Object")] _ := hh
  refine W.eq (g2 := F0 m 87 ls [.int 1]) (by first | rfl | decide) ?_
  refine lv_pop hx hb dX11_adds_87 rfl ?_
  refine lv_aload_n hx hb dX11_adds_88 rfl (lv_at hl 1 rfl) ?_
  refine k_get (C := RX11) (T := TX11) (N := 11) (ci := 16) (v := .ref q17) hx hb hts ws_a49_X11_adds_0 hown hh 0 rfl rfl 2 (by decide) (hts _ (wo_a49_X11_adds_in _ (List.mem_of_getElem? (i := 1) rfl))) rfl dX11_adds_89 ?_
  refine k_callV (C := RJx4a65c) (T := TJx4a65c) (N := 3) (ci := 4) (q0 := 2) (wr := [(q15, .inr (16, [.int 0, .ref q16, .ref q17, .ref q18, .ref q19, .ref q20, .ref q21, .ref q22, .ref q23, .int 0, .int 0])), (q43, .inl (y44, 374, .inl (fun _ => 0))), (q45, .inr (14, [.int 120, .ref q43])), (q33, .inl (y34, 10, .inr (.inr (.inr (.inr (va_up ((va_up ((fun _ => none)) (0 : Int32).toNatClampNeg (some q35))) (1 : Int32).toNatClampNeg (some q45)))))))]) (rest := []) (own := RX11) ⟨hx, hb, hml, hown, hts⟩ (a48_Jx4a65c_size_8abf5 l hst D e0 q17 q33 ) (cwV 0 hts gi_a49_X11_adds_5 rfl rfl rfl (by decide +kernel) ⟨Nat.le_of_ble_eq_true rfl, Nat.le_of_ble_eq_true rfl⟩) hh rfl rfl [2] [0, 1, 3, 4] [] rfl rfl rfl rfl (by decide) rfl rfl hl rfl (Nat.le_of_ble_eq_true rfl) dX11_adds_92 ⟨Nat.le_of_ble_eq_true rfl, (Nat.le_of_ble_eq_true rfl)⟩ (fun _ _ _ _ _ h => h.elim) (fun v w ty1 H locs hp hh => ?_)
  obtain ⟨rfl, rfl, rfl⟩ := hp
  have hh : kH D kStr e0 A s H [(q15, .inr (16, [.int 0, .ref q16, .ref q17, .ref q18, .ref q19, .ref q20, .ref q21, .ref q22, .ref q23, .int 0, .int 0])), (q43, .inl (y44, 374, .inl (fun _ => 0))), (q45, .inr (14, [.int 120, .ref q43])), (q33, .inl (y34, 10, .inr (.inr (.inr (.inr (va_up ((va_up ((fun _ => none)) (0 : Int32).toNatClampNeg (some q35))) (1 : Int32).toNatClampNeg (some q45))))))), (q17, .inr (4, [.int 2, .ref q33, .int 2]))] [(y34, .object "java/lang/Object"), (y44, .int), (y34, .object "java/lang/Object")] _ := hh
  refine W.eq (g2 := F0 m 95 ls [.int 2]) (by first | rfl | decide) ?_
  refine lv_iconst (v := 1) hx hb dX11_adds_95 (by decide) ?_
  refine lv_isub hx hb dX11_adds_96 ?_
  refine W.eq (g2 := F0 m 97 ls [.int 1]) (by first | rfl | decide) ?_
  exact k_endi hx hb hr hlocks hh ⟨q45, rfl, rfl, rfl⟩ [0, 1, 4, 3, 2] [1, 0] rfl rfl rfl (Nat.le_of_ble_eq_true rfl) (Nat.le_of_ble_eq_true rfl) dX11_adds_97
def wo_a50_X11_splice : List Cond := [Cond.fieldLink RX11 25 "SegueworksModel" "pieces" "Ljava/util/ArrayList;", Cond.fieldLink RX11 46 "SegueworksModel" "thrown" "I", Cond.methodLink RX11 1 Lib.Math.min.name, Cond.static Lib.Math.min.name, Cond.initialized "java/lang/Math", Cond.code Lib.Math.min.name Lib.Math.min.code 2 (some .int), Cond.arrayClass .int]
def wk_a50_X11_splice : List Cond := Cond.code yX11_splice cX11_splice 10 (some .int) :: (wo_a50_X11_splice ++ ((u_ws RX11 TX11 11) ++ ((wsV RX11 50 RJx4a65c yJx4a65c_size_8abf5 wk_a23_Jx4a65c_size_8abf5) ++ ((va_wsS RX11 54 yX11_in wk_a38_X11_in) ++ ((wsV RX11 104 RX11 yX11_rowOf wk_a43_X11_rowOf) ++ ((va_wsS RX11 54 yX11_in wk_a44_X11_in) ++ (wsV RX11 100 RX11 yX11_adds wk_a49_X11_adds)))))))
theorem wo_a50_X11_splice_in : ∀ w ∈ wo_a50_X11_splice, w ∈ wk_a50_X11_splice := fun w h => List.mem_cons_of_mem _ (List.mem_append_left _ h)
theorem ws_a50_X11_splice_0 : ∀ w ∈ u_ws RX11 TX11 11, w ∈ wk_a50_X11_splice := fun w h => List.mem_cons_of_mem _ (List.mem_append_right _ (List.mem_append_left _ h))
theorem gi_a50_X11_splice_1 : GoodIn wk_a50_X11_splice (wsV RX11 50 RJx4a65c yJx4a65c_size_8abf5 wk_a23_Jx4a65c_size_8abf5) := fun w h => ⟨List.mem_cons_of_mem _ (List.mem_append_right _ (List.mem_append_right _ (List.mem_append_left _ h))), good_of_word (kg_V gk_a23_Jx4a65c_size_8abf5 w h)⟩
theorem gi_a50_X11_splice_2 : GoodIn wk_a50_X11_splice (va_wsS RX11 54 yX11_in wk_a38_X11_in) := fun w h => ⟨List.mem_cons_of_mem _ (List.mem_append_right _ (List.mem_append_right _ (List.mem_append_right _ (List.mem_append_left _ h)))), good_of_word (kg_S gk_a38_X11_in w h)⟩
theorem gi_a50_X11_splice_3 : GoodIn wk_a50_X11_splice (wsV RX11 104 RX11 yX11_rowOf wk_a43_X11_rowOf) := fun w h => ⟨List.mem_cons_of_mem _ (List.mem_append_right _ (List.mem_append_right _ (List.mem_append_right _ (List.mem_append_right _ (List.mem_append_left _ h))))), good_of_word (kg_V gk_a43_X11_rowOf w h)⟩
theorem gi_a50_X11_splice_4 : GoodIn wk_a50_X11_splice (va_wsS RX11 54 yX11_in wk_a44_X11_in) := fun w h => ⟨List.mem_cons_of_mem _ (List.mem_append_right _ (List.mem_append_right _ (List.mem_append_right _ (List.mem_append_right _ (List.mem_append_right _ (List.mem_append_left _ h)))))), good_of_word (kg_S gk_a44_X11_in w h)⟩
theorem gi_a50_X11_splice_5 : GoodIn wk_a50_X11_splice (wsV RX11 100 RX11 yX11_adds wk_a49_X11_adds) := fun w h => ⟨List.mem_cons_of_mem _ (List.mem_append_right _ (List.mem_append_right _ (List.mem_append_right _ (List.mem_append_right _ (List.mem_append_right _ (List.mem_append_right _ h)))))), good_of_word (kg_V gk_a49_X11_adds w h)⟩
theorem gk_a50_X11_splice : ∀ w ∈ wk_a50_X11_splice, goodWord w = true := List.forall_mem_cons.mpr ⟨rfl, (List.forall_mem_append.mpr ⟨(show ∀ w ∈ wo_a50_X11_splice, goodWord w = true by decide +kernel), (List.forall_mem_append.mpr ⟨(show ∀ w ∈ u_ws RX11 TX11 11, goodWord w = true by decide +kernel), (List.forall_mem_append.mpr ⟨(kg_V gk_a23_Jx4a65c_size_8abf5), (List.forall_mem_append.mpr ⟨(kg_S gk_a38_X11_in), (List.forall_mem_append.mpr ⟨(kg_V gk_a43_X11_rowOf), (List.forall_mem_append.mpr ⟨(kg_S gk_a44_X11_in), (kg_V gk_a49_X11_adds)⟩)⟩)⟩)⟩)⟩)⟩)⟩
set_option maxHeartbeats 4000000 in
set_option maxRecDepth 100000 in
theorem lp_a50_X11_splice (l : Launch) (hst : l.stackTraces = false) {p : Program} {e : Env} {s : State} {m : MethodId} {args : Array Value} {below : List Frame} {meth : Method} {c : Code} {Q : State → Prop} {A : Nat → Prop} (hx : p.tables.exec = Jvm.exec) (hb : c.code = cX11_splice) (hts : ∀ w ∈ wk_a50_X11_splice, w.before args s = true) (hown : s.vm.findClass RX11 = some m.cls) (hml : c.maxLocals = 10) (D : va_G) (e0 : kE) (q36 : Nat) (y37 : ClassId) (q15 : Nat) (q16 : Nat) (q17 : Nat) (q18 : Nat) (q19 : Nat) (q20 : Nat) (q21 : Nat) (q22 : Nat) (q23 : Nat) (q33 : Nat) (y34 : ClassId) (q35 : Nat) (q43 : Nat) (y44 : ClassId)  (kk : ∀ (H : Heap) (locs : List Loc) (ls : Array Slot), kH D kStr e0 A s H [(q36, .inl (y37, 187, .inl (fun _ => 0))), (q15, .inr (16, [.int 0, .ref q16, .ref q17, .ref q18, .ref q19, .ref q20, .ref q21, .ref q22, .ref q23, .int 0, .int 0])), (q17, .inr (4, [.int 1, .ref q33, .int 1])), (q33, .inl (y34, 10, .inr (.inr (.inr (.inr (va_up ((fun _ => none)) (0 : Int32).toNatClampNeg (some q35))))))), (q35, .inr (14, [.int 115, .ref q36])), (q43, .inl (y44, 374, .inl (fun _ => 0)))] [(y34, .object "java/lang/Object"), (y37, .int), (y44, .int)] locs → lv_has ls 10 [(8, .int (nI 374)), (7, .int 187), (6, .ref q43), (5, .ref q36), (4, .ref q36), (0, .ref q15), (1, .int 0), (2, .int 0), (3, .int 0)] → W p l e (kRm 4 85 2 376) s m args below meth c H locs 1 374 Q (F0 m 227 ls [])) : ∀ (k i : Nat) (H : Heap) (locs : List Loc) (ls : Array Slot), k + i = 374 → kH D kStr e0 A s H [(q36, .inl (y37, 187, .inl (fun _ => 0))), (q15, .inr (16, [.int 0, .ref q16, .ref q17, .ref q18, .ref q19, .ref q20, .ref q21, .ref q22, .ref q23, .int 0, .int 0])), (q17, .inr (4, [.int 1, .ref q33, .int 1])), (q33, .inl (y34, 10, .inr (.inr (.inr (.inr (va_up ((fun _ => none)) (0 : Int32).toNatClampNeg (some q35))))))), (q35, .inr (14, [.int 115, .ref q36])), (q43, .inl (y44, 374, .inl (fun _ => 0)))] [(y34, .object "java/lang/Object"), (y37, .int), (y44, .int)] locs → lv_has ls 10 [(8, .int (nI i)), (7, .int 187), (6, .ref q43), (5, .ref q36), (4, .ref q36), (0, .ref q15), (1, .int 0), (2, .int 0), (3, .int 0)] → W p l e (kRm 4 85 2 376) s m args below meth c H locs 1 374 Q (F0 m 149 ls []) := by
  intro k
  induction k with
  | zero =>
    intro i H locs ls hi0 hh hl
    obtain rfl : i = 374 := by omega
    have hh : kH D kStr e0 A s H [(q36, .inl (y37, 187, .inl (fun _ => 0))), (q15, .inr (16, [.int 0, .ref q16, .ref q17, .ref q18, .ref q19, .ref q20, .ref q21, .ref q22, .ref q23, .int 0, .int 0])), (q17, .inr (4, [.int 1, .ref q33, .int 1])), (q33, .inl (y34, 10, .inr (.inr (.inr (.inr (va_up ((fun _ => none)) (0 : Int32).toNatClampNeg (some q35))))))), (q35, .inr (14, [.int 115, .ref q36])), (q43, .inl (y44, 374, .inl (fun _ => 0)))] [(y34, .object "java/lang/Object"), (y37, .int), (y44, .int)] _ := hh
    have hl : lv_has ls 10 [(8, .int (nI 374)), (7, .int 187), (6, .ref q43), (5, .ref q36), (4, .ref q36), (0, .ref q15), (1, .int 0), (2, .int 0), (3, .int 0)] := hl
    refine lv_iload hx hb dX11_splice_149 (lv_at hl 0 rfl) ?_
    refine lv_aload hx hb dX11_splice_151 (lv_at hl 2 rfl) ?_
    refine k_alen (v := 374) hx hb hh 5 2 rfl rfl rfl dX11_splice_153 ?_
    refine lv_icmp_ge (tgt := 227) hx hb dX11_splice_154 (by decide) (fun _ => ?_) (fun c_154 => absurd ((show (374 : Int32) ≤ nI 374 by decide)) c_154)
    exact kk _ _ _ hh (lv_sub hl [0, 1, 2, 3, 4, 5, 6, 7, 8] rfl)
  | succ k ih =>
    intro i H locs ls hi0 hh hl
    have hi : i < 374 := by omega
    rcases Nat.lt_or_ge i 187 with h7 | h7
    · refine lv_iload hx hb dX11_splice_149 (lv_at hl 0 rfl) ?_
      refine lv_aload hx hb dX11_splice_151 (lv_at hl 2 rfl) ?_
      refine k_alen (v := 374) hx hb hh 5 2 rfl rfl rfl dX11_splice_153 ?_
      refine lv_icmp_ge (tgt := 227) hx hb dX11_splice_154 (by decide) (fun c_154 => absurd c_154 ((show ¬ (374 : Int32) ≤ nI i from nI_ge (b := 374) hi (by omega)))) (fun _ => ?_)
      refine lv_iload hx hb dX11_splice_157 (lv_at hl 0 rfl) ?_
      refine lv_iload hx hb dX11_splice_159 (lv_at hl 1 rfl) ?_
      refine lv_isub hx hb dX11_splice_161 ?_
      refine W.eq (g2 := F0 m 162 ls [.int (nI i - 187)]) (congrArg (fun z9 : Int32 => F0 m 162 ls (.int z9 :: [])) (show (nI i) - 187 = (nI i - 187) from rfl)) ?_
      refine lv_istore (lv' := [(9, .int (nI i - 187)), (8, .int (nI i)), (7, .int 187), (6, .ref q43), (5, .ref q36), (4, .ref q36), (0, .ref q15), (1, .int 0), (2, .int 0), (3, .int 0)]) hx hb dX11_splice_162 hl (by decide) rfl (fun ls hl => ?_)
      refine lv_aload hx hb dX11_splice_164 (lv_at hl 3 rfl) ?_
      refine lv_iload hx hb dX11_splice_166 (lv_at hl 1 rfl) ?_
      refine lv_iload hx hb dX11_splice_168 (lv_at hl 0 rfl) ?_
      refine lv_if_ge (tgt := 181) hx hb dX11_splice_170 (by decide) (fun c_170 => absurd c_170 (nI_subneg (b := 187) h7 (by decide))) (fun _ => ?_)
      refine lv_aload hx hb dX11_splice_173 (lv_at hl 5 rfl) ?_
      refine lv_iload hx hb dX11_splice_175 (lv_at hl 1 rfl) ?_
      refine k_iald (v := 0) hx hb hh 0 1 rfl rfl (vp_in_nI h7 (by decide)) rfl dX11_splice_177 ?_
      refine lv_goto (tgt := 220) hx hb dX11_splice_178 (by decide) ?_
      refine k_iast0 hx hb hh 5 2 rfl rfl (vp_in_nI hi (by decide)) dX11_splice_220 (fun H locs hh => ?_)
      refine lv_iinc (v := (nI (i + 1))) (lv' := [(8, .int (nI (i + 1))), (9, .int (nI i - 187)), (7, .int 187), (6, .ref q43), (5, .ref q36), (4, .ref q36), (0, .ref q15), (1, .int 0), (2, .int 0), (3, .int 0)]) hx hb dX11_splice_221 hl (k := 1) rfl (nI_1 i) (by decide) rfl (fun ls hl => ?_)
      refine lv_goto (tgt := 149) hx hb dX11_splice_224 (by decide) ?_
      exact ih (i + 1) _ _ _ (by omega) (hh.sub [0, 1, 2, 3, 4, 5] [0, 1, 2] rfl rfl rfl) (lv_sub hl [0, 2, 3, 4, 5, 6, 7, 8, 9] rfl)
    · refine lv_iload hx hb dX11_splice_149 (lv_at hl 0 rfl) ?_
      refine lv_aload hx hb dX11_splice_151 (lv_at hl 2 rfl) ?_
      refine k_alen (v := 374) hx hb hh 5 2 rfl rfl rfl dX11_splice_153 ?_
      refine lv_icmp_ge (tgt := 227) hx hb dX11_splice_154 (by decide) (fun c_154 => absurd c_154 ((show ¬ (374 : Int32) ≤ nI i from nI_ge (b := 374) hi (by omega)))) (fun _ => ?_)
      refine lv_iload hx hb dX11_splice_157 (lv_at hl 0 rfl) ?_
      refine lv_iload hx hb dX11_splice_159 (lv_at hl 1 rfl) ?_
      refine lv_isub hx hb dX11_splice_161 ?_
      refine W.eq (g2 := F0 m 162 ls [.int (nI (i - 187))]) (congrArg (fun z9 : Int32 => F0 m 162 ls (.int z9 :: [])) (show (nI i) - 187 = (nI (i - 187)) from nI_sub (b := 187) h7)) ?_
      refine lv_istore (lv' := [(9, .int (nI (i - 187))), (8, .int (nI i)), (7, .int 187), (6, .ref q43), (5, .ref q36), (4, .ref q36), (0, .ref q15), (1, .int 0), (2, .int 0), (3, .int 0)]) hx hb dX11_splice_162 hl (by decide) rfl (fun ls hl => ?_)
      refine lv_aload hx hb dX11_splice_164 (lv_at hl 3 rfl) ?_
      refine lv_iload hx hb dX11_splice_166 (lv_at hl 1 rfl) ?_
      refine lv_iload hx hb dX11_splice_168 (lv_at hl 0 rfl) ?_
      refine lv_if_ge (tgt := 181) hx hb dX11_splice_170 (by decide) (fun _ => ?_) (fun c_170 => absurd (nI_pos' (by omega)) c_170)
      refine lv_iload hx hb dX11_splice_181 (lv_at hl 0 rfl) ?_
      refine lv_iload_n hx hb dX11_splice_183 rfl (lv_at hl 9 rfl) ?_
      refine lv_icmp_lt (tgt := 195) hx hb dX11_splice_184 (by decide) (fun c_184 => absurd c_184 (nI_pos (by omega))) (fun _ => ?_)
      refine lv_aload hx hb dX11_splice_187 (lv_at hl 4 rfl) ?_
      refine lv_iload hx hb dX11_splice_189 (lv_at hl 0 rfl) ?_
      refine k_iald (v := 0) hx hb hh 0 1 rfl rfl (vp_in_nI (show i - 187 < 187 by omega) (by decide)) rfl dX11_splice_191 ?_
      refine lv_goto (tgt := 220) hx hb dX11_splice_192 (by decide) ?_
      refine k_iast0 hx hb hh 5 2 rfl rfl (vp_in_nI hi (by decide)) dX11_splice_220 (fun H locs hh => ?_)
      refine lv_iinc (v := (nI (i + 1))) (lv' := [(8, .int (nI (i + 1))), (9, .int (nI (i - 187))), (7, .int 187), (6, .ref q43), (5, .ref q36), (4, .ref q36), (0, .ref q15), (1, .int 0), (2, .int 0), (3, .int 0)]) hx hb dX11_splice_221 hl (k := 1) rfl (nI_1 i) (by decide) rfl (fun ls hl => ?_)
      refine lv_goto (tgt := 149) hx hb dX11_splice_224 (by decide) ?_
      exact ih (i + 1) _ _ _ (by omega) (hh.sub [0, 1, 2, 3, 4, 5] [0, 1, 2] rfl rfl rfl) (lv_sub hl [0, 2, 3, 4, 5, 6, 7, 8, 9] rfl)
set_option maxHeartbeats 4000000 in
set_option maxRecDepth 100000 in
theorem a50_X11_splice (l : Launch) (hst : l.stackTraces = false) (D : va_G) (e0 : kE) (q15 : Nat) (q16 : Nat) (q17 : Nat) (q18 : Nat) (q19 : Nat) (q20 : Nat) (q21 : Nat) (q22 : Nat) (q23 : Nat) (q33 : Nat) (y34 : ClassId) (q35 : Nat) (q36 : Nat) (y37 : ClassId)  : kM l yX11_splice wk_a50_X11_splice 4 85 2 376 D kStr e0 [(y34, .object "java/lang/Object"), (y37, .int)] [(q15, .inr (16, [.int 0, .ref q16, .ref q17, .ref q18, .ref q19, .ref q20, .ref q21, .ref q22, .ref q23, .int 0, .int 0])), (q17, .inr (4, [.int 1, .ref q33, .int 1])), (q33, .inl (y34, 10, .inr (.inr (.inr (.inr (va_up ((fun _ => none)) (0 : Int32).toNatClampNeg (some q35))))))), (q35, .inr (14, [.int 115, .ref q36])), (q36, .inl (y37, 187, .inl (fun _ => 0)))] [.ref q15, .int 0, .int 0, .int 0] (fun v w t => ∃ (q45 : Nat), ∃ (q43 : Nat), ∃ (y44 : ClassId), v = some (.int 1) ∧ w = [(q15, .inr (16, [.int 0, .ref q16, .ref q17, .ref q18, .ref q19, .ref q20, .ref q21, .ref q22, .ref q23, .int 0, .int 0])), (q17, .inr (4, [.int 2, .ref q33, .int 2])), (q33, .inl (y34, 10, .inr (.inr (.inr (.inr (va_up ((va_up ((fun _ => none)) (0 : Int32).toNatClampNeg (some q35))) (1 : Int32).toNatClampNeg (some q45))))))), (q35, .inr (14, [.int 115, .ref q36])), (q36, .inl (y37, 187, .inl (fun _ => 0))), (q45, .inr (14, [.int 120, .ref q43])), (q43, .inl (y44, 374, .inl (fun _ => 0)))] ∧ t = [(y34, .object "java/lang/Object"), (y37, .int), (y44, .int)]) (fun _ => False) := by
  refine k_of (cc := cX11_splice) (maxL := 10) (ret := (some .int)) (by decide) rfl (Nat.le_of_ble_eq_true rfl) ?_
  intro p e s m args below meth c A ls hx hb hr hts hown hlocks hml hex hh hl
  have hown : s.vm.findClass RX11 = some m.cls := hown
  have hl : lv_has ls 10 [(0, .ref q15), (1, .int 0), (2, .int 0), (3, .int 0)] := hl
  refine lv_aload_n hx hb dX11_splice_0 rfl (lv_at hl 0 rfl) ?_
  refine lv_iload_n hx hb dX11_splice_1 rfl (lv_at hl 1 rfl) ?_
  refine lv_i2l (v := 0) hx hb dX11_splice_2 (by decide) ?_
  refine lv_lconst (v := 0) hx hb dX11_splice_3 (by decide) ?_
  refine lv_aload_n hx hb dX11_splice_4 rfl (lv_at hl 0 rfl) ?_
  refine k_get (C := RX11) (T := TX11) (N := 11) (ci := 16) (v := .ref q17) hx hb hts ws_a50_X11_splice_0 hown hh 0 rfl rfl 2 (by decide) (hts _ (wo_a50_X11_splice_in _ (List.mem_of_getElem? (i := 0) rfl))) rfl dX11_splice_5 ?_
  refine k_callV (C := RJx4a65c) (T := TJx4a65c) (N := 3) (ci := 4) (q0 := 1) (wr := [(q15, .inr (16, [.int 0, .ref q16, .ref q17, .ref q18, .ref q19, .ref q20, .ref q21, .ref q22, .ref q23, .int 0, .int 0])), (q33, .inl (y34, 10, .inr (.inr (.inr (.inr (va_up ((fun _ => none)) (0 : Int32).toNatClampNeg (some q35))))))), (q35, .inr (14, [.int 115, .ref q36])), (q36, .inl (y37, 187, .inl (fun _ => 0)))]) (rest := [.long 0, .long 0, .ref q15]) (own := RX11) ⟨hx, hb, hml, hown, hts⟩ (a23_Jx4a65c_size_8abf5 l hst D e0 q17 q33 ) (cwV 0 hts gi_a50_X11_splice_1 rfl rfl rfl (by decide +kernel) ⟨Nat.le_of_ble_eq_true rfl, Nat.le_of_ble_eq_true rfl⟩) hh rfl rfl [1] [0, 2, 3, 4] [] rfl rfl rfl rfl (by decide) rfl rfl hl rfl (Nat.le_of_ble_eq_true rfl) dX11_splice_8 ⟨Nat.le_of_ble_eq_true rfl, (Nat.le_of_ble_eq_true rfl)⟩ (fun _ _ _ _ _ h => h.elim) (fun v w ty1 H locs hp hh => ?_)
  obtain ⟨rfl, rfl, rfl⟩ := hp
  have hh : kH D kStr e0 A s H [(q15, .inr (16, [.int 0, .ref q16, .ref q17, .ref q18, .ref q19, .ref q20, .ref q21, .ref q22, .ref q23, .int 0, .int 0])), (q33, .inl (y34, 10, .inr (.inr (.inr (.inr (va_up ((fun _ => none)) (0 : Int32).toNatClampNeg (some q35))))))), (q35, .inr (14, [.int 115, .ref q36])), (q36, .inl (y37, 187, .inl (fun _ => 0))), (q17, .inr (4, [.int 1, .ref q33, .int 1]))] [(y34, .object "java/lang/Object"), (y37, .int)] _ := hh
  refine W.eq (g2 := F0 m 11 ls [.int 1, .long 0, .long 0, .ref q15]) (by first | rfl | decide) ?_
  refine lv_iconst (v := 1) hx hb dX11_splice_11 (by decide) ?_
  refine lv_isub hx hb dX11_splice_12 ?_
  refine W.eq (g2 := F0 m 13 ls [.int 0, .long 0, .long 0, .ref q15]) (by first | rfl | decide) ?_
  refine lv_i2l (v := 0) hx hb dX11_splice_13 (by decide) ?_
  refine k_callS (wr := [(q15, .inr (16, [.int 0, .ref q16, .ref q17, .ref q18, .ref q19, .ref q20, .ref q21, .ref q22, .ref q23, .int 0, .int 0])), (q33, .inl (y34, 10, .inr (.inr (.inr (.inr (va_up ((fun _ => none)) (0 : Int32).toNatClampNeg (some q35))))))), (q35, .inr (14, [.int 115, .ref q36])), (q36, .inl (y37, 187, .inl (fun _ => 0))), (q17, .inr (4, [.int 1, .ref q33, .int 1]))]) (rest := [.ref q15]) (own := RX11) ⟨hx, hb, hml, hown, hts⟩ (a38_X11_in l hst D e0  ) (va_cwS 3 hts gi_a50_X11_splice_2 rfl rfl rfl (by decide +kernel) ⟨Nat.le_of_ble_eq_true rfl, Nat.le_of_ble_eq_true rfl⟩) hh [] [0, 1, 2, 3, 4] [] rfl rfl rfl rfl (by decide) rfl rfl hl rfl (Nat.le_of_ble_eq_true rfl) dX11_splice_14 ⟨Nat.le_of_ble_eq_true rfl, (Nat.le_of_ble_eq_true rfl)⟩ (fun _ _ _ _ _ h => h.elim) (fun v w ty1 H locs hp hh => ?_)
  obtain ⟨rfl, rfl, rfl⟩ := hp
  have hh : kH D kStr e0 A s H [(q15, .inr (16, [.int 0, .ref q16, .ref q17, .ref q18, .ref q19, .ref q20, .ref q21, .ref q22, .ref q23, .int 0, .int 0])), (q33, .inl (y34, 10, .inr (.inr (.inr (.inr (va_up ((fun _ => none)) (0 : Int32).toNatClampNeg (some q35))))))), (q35, .inr (14, [.int 115, .ref q36])), (q36, .inl (y37, 187, .inl (fun _ => 0))), (q17, .inr (4, [.int 1, .ref q33, .int 1]))] [(y34, .object "java/lang/Object"), (y37, .int)] _ := hh
  refine W.eq (g2 := F0 m 17 ls [.int 1, .ref q15]) (by first | rfl | decide) ?_
  refine lv_if_eq (tgt := 43) hx hb dX11_splice_17 (by decide) (fun c_17 => absurd c_17 (by decide)) (fun _ => ?_)
  refine lv_iload_n hx hb dX11_splice_20 rfl (lv_at hl 2 rfl) ?_
  refine lv_i2l (v := 0) hx hb dX11_splice_21 (by decide) ?_
  refine lv_lconst (v := 0) hx hb dX11_splice_22 (by decide) ?_
  refine lv_aload_n hx hb dX11_splice_23 rfl (lv_at hl 0 rfl) ?_
  refine k_get (C := RX11) (T := TX11) (N := 11) (ci := 16) (v := .ref q17) hx hb hts ws_a50_X11_splice_0 hown hh 0 rfl rfl 2 (by decide) (hts _ (wo_a50_X11_splice_in _ (List.mem_of_getElem? (i := 0) rfl))) rfl dX11_splice_24 ?_
  refine k_callV (C := RJx4a65c) (T := TJx4a65c) (N := 3) (ci := 4) (q0 := 4) (wr := [(q15, .inr (16, [.int 0, .ref q16, .ref q17, .ref q18, .ref q19, .ref q20, .ref q21, .ref q22, .ref q23, .int 0, .int 0])), (q33, .inl (y34, 10, .inr (.inr (.inr (.inr (va_up ((fun _ => none)) (0 : Int32).toNatClampNeg (some q35))))))), (q35, .inr (14, [.int 115, .ref q36])), (q36, .inl (y37, 187, .inl (fun _ => 0)))]) (rest := [.long 0, .long 0, .ref q15]) (own := RX11) ⟨hx, hb, hml, hown, hts⟩ (a23_Jx4a65c_size_8abf5 l hst D e0 q17 q33 ) (cwV 0 hts gi_a50_X11_splice_1 rfl rfl rfl (by decide +kernel) ⟨Nat.le_of_ble_eq_true rfl, Nat.le_of_ble_eq_true rfl⟩) hh rfl rfl [4] [0, 1, 2, 3] [] rfl rfl rfl rfl (by decide) rfl rfl hl rfl (Nat.le_of_ble_eq_true rfl) dX11_splice_27 ⟨Nat.le_of_ble_eq_true rfl, (Nat.le_of_ble_eq_true rfl)⟩ (fun _ _ _ _ _ h => h.elim) (fun v w ty1 H locs hp hh => ?_)
  obtain ⟨rfl, rfl, rfl⟩ := hp
  have hh : kH D kStr e0 A s H [(q15, .inr (16, [.int 0, .ref q16, .ref q17, .ref q18, .ref q19, .ref q20, .ref q21, .ref q22, .ref q23, .int 0, .int 0])), (q33, .inl (y34, 10, .inr (.inr (.inr (.inr (va_up ((fun _ => none)) (0 : Int32).toNatClampNeg (some q35))))))), (q35, .inr (14, [.int 115, .ref q36])), (q36, .inl (y37, 187, .inl (fun _ => 0))), (q17, .inr (4, [.int 1, .ref q33, .int 1]))] [(y34, .object "java/lang/Object"), (y37, .int)] _ := hh
  refine W.eq (g2 := F0 m 30 ls [.int 1, .long 0, .long 0, .ref q15]) (by first | rfl | decide) ?_
  refine lv_iconst (v := 1) hx hb dX11_splice_30 (by decide) ?_
  refine lv_isub hx hb dX11_splice_31 ?_
  refine W.eq (g2 := F0 m 32 ls [.int 0, .long 0, .long 0, .ref q15]) (by first | rfl | decide) ?_
  refine lv_i2l (v := 0) hx hb dX11_splice_32 (by decide) ?_
  refine k_callS (wr := [(q15, .inr (16, [.int 0, .ref q16, .ref q17, .ref q18, .ref q19, .ref q20, .ref q21, .ref q22, .ref q23, .int 0, .int 0])), (q33, .inl (y34, 10, .inr (.inr (.inr (.inr (va_up ((fun _ => none)) (0 : Int32).toNatClampNeg (some q35))))))), (q35, .inr (14, [.int 115, .ref q36])), (q36, .inl (y37, 187, .inl (fun _ => 0))), (q17, .inr (4, [.int 1, .ref q33, .int 1]))]) (rest := [.ref q15]) (own := RX11) ⟨hx, hb, hml, hown, hts⟩ (a38_X11_in l hst D e0  ) (va_cwS 3 hts gi_a50_X11_splice_2 rfl rfl rfl (by decide +kernel) ⟨Nat.le_of_ble_eq_true rfl, Nat.le_of_ble_eq_true rfl⟩) hh [] [0, 1, 2, 3, 4] [] rfl rfl rfl rfl (by decide) rfl rfl hl rfl (Nat.le_of_ble_eq_true rfl) dX11_splice_33 ⟨Nat.le_of_ble_eq_true rfl, (Nat.le_of_ble_eq_true rfl)⟩ (fun _ _ _ _ _ h => h.elim) (fun v w ty1 H locs hp hh => ?_)
  obtain ⟨rfl, rfl, rfl⟩ := hp
  have hh : kH D kStr e0 A s H [(q15, .inr (16, [.int 0, .ref q16, .ref q17, .ref q18, .ref q19, .ref q20, .ref q21, .ref q22, .ref q23, .int 0, .int 0])), (q33, .inl (y34, 10, .inr (.inr (.inr (.inr (va_up ((fun _ => none)) (0 : Int32).toNatClampNeg (some q35))))))), (q35, .inr (14, [.int 115, .ref q36])), (q36, .inl (y37, 187, .inl (fun _ => 0))), (q17, .inr (4, [.int 1, .ref q33, .int 1]))] [(y34, .object "java/lang/Object"), (y37, .int)] _ := hh
  refine W.eq (g2 := F0 m 36 ls [.int 1, .ref q15]) (by first | rfl | decide) ?_
  refine lv_if_eq (tgt := 43) hx hb dX11_splice_36 (by decide) (fun c_36 => absurd c_36 (by decide)) (fun _ => ?_)
  refine lv_iconst (v := 0) hx hb dX11_splice_39 (by decide) ?_
  refine lv_goto (tgt := 44) hx hb dX11_splice_40 (by decide) ?_
  refine k_put (C := RX11) (T := TX11) (N := 11) (ci := 16) (v := .int 0) (ws' := [(q15, .inr (16, [.int 0, .ref q16, .ref q17, .ref q18, .ref q19, .ref q20, .ref q21, .ref q22, .ref q23, .int 0, .int 0])), (q33, .inl (y34, 10, .inr (.inr (.inr (.inr (va_up ((fun _ => none)) (0 : Int32).toNatClampNeg (some q35))))))), (q35, .inr (14, [.int 115, .ref q36])), (q36, .inl (y37, 187, .inl (fun _ => 0))), (q17, .inr (4, [.int 1, .ref q33, .int 1]))]) hx hb hts ws_a50_X11_splice_0 tyX11 tyX11_ok nmX11 hown hh 0 rfl rfl 0 (by decide) (hts _ (wo_a50_X11_splice_in _ (List.mem_of_getElem? (i := 1) rfl))) rfl rfl rfl (Nat.le_of_ble_eq_true rfl) dX11_splice_44 rfl (fun H locs hh => ?_)
  refine lv_aload_n hx hb dX11_splice_47 rfl (lv_at hl 0 rfl) ?_
  refine k_get (C := RX11) (T := TX11) (N := 11) (ci := 16) (v := .int 0) hx hb hts ws_a50_X11_splice_0 hown hh 0 rfl rfl 0 (by decide) (hts _ (wo_a50_X11_splice_in _ (List.mem_of_getElem? (i := 1) rfl))) rfl dX11_splice_48 ?_
  refine lv_if_le (tgt := 56) hx hb dX11_splice_51 (by decide) (fun _ => ?_) (fun c_51 => absurd (by decide) c_51)
  refine lv_aload_n hx hb dX11_splice_56 rfl (lv_at hl 0 rfl) ?_
  refine lv_iload_n hx hb dX11_splice_57 rfl (lv_at hl 1 rfl) ?_
  refine k_callV (C := RX11) (T := TX11) (N := 11) (ci := 16) (q0 := 0) (wr := [(q36, .inl (y37, 187, .inl (fun _ => 0)))]) (rest := []) (own := RX11) ⟨hx, hb, hml, hown, hts⟩ (a43_X11_rowOf l hst D e0 q15 q16 q17 q18 q19 q20 q21 q22 q23 q33 y34 q35 q36 ) (cwV 1 hts gi_a50_X11_splice_3 rfl rfl rfl (by decide +kernel) ⟨Nat.le_of_ble_eq_true rfl, Nat.le_of_ble_eq_true rfl⟩) hh rfl rfl [0, 4, 1, 2] [3] [0] rfl rfl rfl rfl (by decide) rfl rfl hl rfl (Nat.le_of_ble_eq_true rfl) dX11_splice_58 ⟨Nat.le_of_ble_eq_true rfl, (Nat.le_of_ble_eq_true rfl)⟩ (fun _ _ _ _ _ h => h.elim) (fun v w ty1 H locs hp hh => ?_)
  obtain ⟨rfl, rfl, rfl⟩ := hp
  have hh : kH D kStr e0 A s H [(q36, .inl (y37, 187, .inl (fun _ => 0))), (q15, .inr (16, [.int 0, .ref q16, .ref q17, .ref q18, .ref q19, .ref q20, .ref q21, .ref q22, .ref q23, .int 0, .int 0])), (q17, .inr (4, [.int 1, .ref q33, .int 1])), (q33, .inl (y34, 10, .inr (.inr (.inr (.inr (va_up ((fun _ => none)) (0 : Int32).toNatClampNeg (some q35))))))), (q35, .inr (14, [.int 115, .ref q36]))] [(y34, .object "java/lang/Object"), (y37, .int), (y34, .object "java/lang/Object")] _ := hh
  refine W.eq (g2 := F0 m 61 ls [.ref q36]) (by first | rfl | decide) ?_
  refine lv_astore (lv' := [(4, .ref q36), (0, .ref q15), (1, .int 0), (2, .int 0), (3, .int 0)]) hx hb dX11_splice_61 hl (by decide) rfl (fun ls hl => ?_)
  refine lv_aload_n hx hb dX11_splice_63 rfl (lv_at hl 1 rfl) ?_
  refine lv_iload_n hx hb dX11_splice_64 rfl (lv_at hl 3 rfl) ?_
  refine k_callV (C := RX11) (T := TX11) (N := 11) (ci := 16) (q0 := 1) (wr := [(q36, .inl (y37, 187, .inl (fun _ => 0)))]) (rest := []) (own := RX11) ⟨hx, hb, hml, hown, hts⟩ (a43_X11_rowOf l hst D e0 q15 q16 q17 q18 q19 q20 q21 q22 q23 q33 y34 q35 q36 ) (cwV 1 hts gi_a50_X11_splice_3 rfl rfl rfl (by decide +kernel) ⟨Nat.le_of_ble_eq_true rfl, Nat.le_of_ble_eq_true rfl⟩) hh rfl rfl [1, 2, 3, 4] [0] [0] rfl rfl rfl rfl (by decide) rfl rfl hl rfl (Nat.le_of_ble_eq_true rfl) dX11_splice_65 ⟨Nat.le_of_ble_eq_true rfl, (Nat.le_of_ble_eq_true rfl)⟩ (fun _ _ _ _ _ h => h.elim) (fun v w ty1 H locs hp hh => ?_)
  obtain ⟨rfl, rfl, rfl⟩ := hp
  have hh : kH D kStr e0 A s H [(q36, .inl (y37, 187, .inl (fun _ => 0))), (q15, .inr (16, [.int 0, .ref q16, .ref q17, .ref q18, .ref q19, .ref q20, .ref q21, .ref q22, .ref q23, .int 0, .int 0])), (q17, .inr (4, [.int 1, .ref q33, .int 1])), (q33, .inl (y34, 10, .inr (.inr (.inr (.inr (va_up ((fun _ => none)) (0 : Int32).toNatClampNeg (some q35))))))), (q35, .inr (14, [.int 115, .ref q36]))] [(y34, .object "java/lang/Object"), (y37, .int), (y34, .object "java/lang/Object"), (y34, .object "java/lang/Object")] _ := hh
  refine W.eq (g2 := F0 m 68 ls [.ref q36]) (by first | rfl | decide) ?_
  refine lv_astore (lv' := [(5, .ref q36), (4, .ref q36), (0, .ref q15), (1, .int 0), (2, .int 0), (3, .int 0)]) hx hb dX11_splice_68 hl (by decide) rfl (fun ls hl => ?_)
  refine lv_aload_n hx hb dX11_splice_70 rfl (lv_at hl 2 rfl) ?_
  refine lv_iload_n hx hb dX11_splice_71 rfl (lv_at hl 5 rfl) ?_
  refine lv_i2l (v := 0) hx hb dX11_splice_72 (by decide) ?_
  refine lv_lconst (v := 0) hx hb dX11_splice_73 (by decide) ?_
  refine lv_aload hx hb dX11_splice_74 (lv_at hl 1 rfl) ?_
  refine k_alen (v := 187) hx hb hh 0 1 rfl rfl rfl dX11_splice_76 ?_
  refine lv_aload hx hb dX11_splice_77 (lv_at hl 0 rfl) ?_
  refine k_alen (v := 187) hx hb hh 0 1 rfl rfl rfl dX11_splice_79 ?_
  refine va_mmin hx hb (by rw [hml]; exact hl.1.symm) hown (hts _ (wo_a50_X11_splice_in _ (List.mem_of_getElem? (i := 2) rfl))) (hts _ (wo_a50_X11_splice_in _ (List.mem_of_getElem? (i := 3) rfl))) (hts _ (wo_a50_X11_splice_in _ (List.mem_of_getElem? (i := 4) rfl))) (hts _ (wo_a50_X11_splice_in _ (List.mem_of_getElem? (i := 5) rfl))) (Nat.le_of_ble_eq_true rfl) (Nat.le_of_ble_eq_true rfl) (Nat.le_of_ble_eq_true rfl) (Nat.le_of_ble_eq_true rfl) dX11_splice_80 ?_
  refine W.eq (g2 := F0 m 83 ls [.int 187, .long 0, .long 0, .ref q15]) (by first | rfl | decide) ?_
  refine lv_i2l (v := 187) hx hb dX11_splice_83 (by decide) ?_
  refine k_callS (wr := [(q36, .inl (y37, 187, .inl (fun _ => 0))), (q15, .inr (16, [.int 0, .ref q16, .ref q17, .ref q18, .ref q19, .ref q20, .ref q21, .ref q22, .ref q23, .int 0, .int 0])), (q17, .inr (4, [.int 1, .ref q33, .int 1])), (q33, .inl (y34, 10, .inr (.inr (.inr (.inr (va_up ((fun _ => none)) (0 : Int32).toNatClampNeg (some q35))))))), (q35, .inr (14, [.int 115, .ref q36]))]) (rest := [.ref q15]) (own := RX11) ⟨hx, hb, hml, hown, hts⟩ (a44_X11_in l hst D e0  ) (va_cwS 3 hts gi_a50_X11_splice_4 rfl rfl rfl (by decide +kernel) ⟨Nat.le_of_ble_eq_true rfl, Nat.le_of_ble_eq_true rfl⟩) hh [] [0, 1, 2, 3, 4] [] rfl rfl rfl rfl (by decide) rfl rfl hl rfl (Nat.le_of_ble_eq_true rfl) dX11_splice_84 ⟨Nat.le_of_ble_eq_true rfl, (Nat.le_of_ble_eq_true rfl)⟩ (fun _ _ _ _ _ h => h.elim) (fun v w ty1 H locs hp hh => ?_)
  obtain ⟨rfl, rfl, rfl⟩ := hp
  have hh : kH D kStr e0 A s H [(q36, .inl (y37, 187, .inl (fun _ => 0))), (q15, .inr (16, [.int 0, .ref q16, .ref q17, .ref q18, .ref q19, .ref q20, .ref q21, .ref q22, .ref q23, .int 0, .int 0])), (q17, .inr (4, [.int 1, .ref q33, .int 1])), (q33, .inl (y34, 10, .inr (.inr (.inr (.inr (va_up ((fun _ => none)) (0 : Int32).toNatClampNeg (some q35))))))), (q35, .inr (14, [.int 115, .ref q36]))] [(y34, .object "java/lang/Object"), (y37, .int), (y34, .object "java/lang/Object"), (y34, .object "java/lang/Object")] _ := hh
  refine W.eq (g2 := F0 m 87 ls [.int 1, .ref q15]) (by first | rfl | decide) ?_
  refine lv_if_ne (tgt := 94) hx hb dX11_splice_87 (by decide) (fun _ => ?_) (fun c_87 => absurd c_87 (by decide))
  refine lv_aload hx hb dX11_splice_94 (lv_at hl 1 rfl) ?_
  refine k_alen (v := 187) hx hb hh 0 1 rfl rfl rfl dX11_splice_96 ?_
  refine lv_aload hx hb dX11_splice_97 (lv_at hl 0 rfl) ?_
  refine k_alen (v := 187) hx hb hh 0 1 rfl rfl rfl dX11_splice_99 ?_
  refine lv_iadd hx hb dX11_splice_100 ?_
  refine W.eq (g2 := F0 m 101 ls [.int 374, .ref q15]) (by first | rfl | decide) ?_
  refine lv_iload_n hx hb dX11_splice_101 rfl (lv_at hl 5 rfl) ?_
  refine lv_isub hx hb dX11_splice_102 ?_
  refine W.eq (g2 := F0 m 103 ls [.int 374, .ref q15]) (by first | rfl | decide) ?_
  refine lv_sipush (v := 800) hx hb dX11_splice_103 (by decide) ?_
  refine lv_icmp_le (tgt := 113) hx hb dX11_splice_106 (by decide) (fun _ => ?_) (fun c_106 => absurd (by decide) c_106)
  refine lv_iconst (v := 0) hx hb dX11_splice_113 (by decide) ?_
  refine k_put (C := RX11) (T := TX11) (N := 11) (ci := 16) (v := .int 0) (ws' := [(q36, .inl (y37, 187, .inl (fun _ => 0))), (q15, .inr (16, [.int 0, .ref q16, .ref q17, .ref q18, .ref q19, .ref q20, .ref q21, .ref q22, .ref q23, .int 0, .int 0])), (q17, .inr (4, [.int 1, .ref q33, .int 1])), (q33, .inl (y34, 10, .inr (.inr (.inr (.inr (va_up ((fun _ => none)) (0 : Int32).toNatClampNeg (some q35))))))), (q35, .inr (14, [.int 115, .ref q36]))]) hx hb hts ws_a50_X11_splice_0 tyX11 tyX11_ok nmX11 hown hh 1 rfl rfl 0 (by decide) (hts _ (wo_a50_X11_splice_in _ (List.mem_of_getElem? (i := 1) rfl))) rfl rfl rfl (Nat.le_of_ble_eq_true rfl) dX11_splice_114 rfl (fun H locs hh => ?_)
  refine lv_aload_n hx hb dX11_splice_117 rfl (lv_at hl 2 rfl) ?_
  refine k_get (C := RX11) (T := TX11) (N := 11) (ci := 16) (v := .int 0) hx hb hts ws_a50_X11_splice_0 hown hh 1 rfl rfl 0 (by decide) (hts _ (wo_a50_X11_splice_in _ (List.mem_of_getElem? (i := 1) rfl))) rfl dX11_splice_118 ?_
  refine lv_if_le (tgt := 126) hx hb dX11_splice_121 (by decide) (fun _ => ?_) (fun c_121 => absurd (by decide) c_121)
  refine lv_aload hx hb dX11_splice_126 (lv_at hl 1 rfl) ?_
  refine k_alen (v := 187) hx hb hh 0 1 rfl rfl rfl dX11_splice_128 ?_
  refine lv_aload hx hb dX11_splice_129 (lv_at hl 0 rfl) ?_
  refine k_alen (v := 187) hx hb hh 0 1 rfl rfl rfl dX11_splice_131 ?_
  refine lv_iadd hx hb dX11_splice_132 ?_
  refine W.eq (g2 := F0 m 133 ls [.int 374]) (by first | rfl | decide) ?_
  refine lv_iload_n hx hb dX11_splice_133 rfl (lv_at hl 5 rfl) ?_
  refine lv_isub hx hb dX11_splice_134 ?_
  refine W.eq (g2 := F0 m 135 ls [.int 374]) (by first | rfl | decide) ?_
  refine k_newa (atype := .int) (ty := .int) (N' := 374) (a0 := (374, .inl (fun _ => 0))) hx hb (hts _ (wo_a50_X11_splice_in _ (List.mem_of_getElem? (i := 6) rfl))) rfl hh (fun cA => rfl) (by decide) (by decide) (Nat.le_of_ble_eq_true rfl) (Nat.le_of_ble_eq_true rfl) (Nat.le_of_ble_eq_true rfl) dX11_splice_135 (fun q43 y44 H hh => ?_)
  have hh : kH D kStr e0 A s H [(q36, .inl (y37, 187, .inl (fun _ => 0))), (q15, .inr (16, [.int 0, .ref q16, .ref q17, .ref q18, .ref q19, .ref q20, .ref q21, .ref q22, .ref q23, .int 0, .int 0])), (q17, .inr (4, [.int 1, .ref q33, .int 1])), (q33, .inl (y34, 10, .inr (.inr (.inr (.inr (va_up ((fun _ => none)) (0 : Int32).toNatClampNeg (some q35))))))), (q35, .inr (14, [.int 115, .ref q36])), (q43, .inl (y44, 374, .inl (fun _ => 0)))] [(y34, .object "java/lang/Object"), (y37, .int), (y34, .object "java/lang/Object"), (y34, .object "java/lang/Object"), (y44, .int)] _ := hh
  refine lv_astore (lv' := [(6, .ref q43), (5, .ref q36), (4, .ref q36), (0, .ref q15), (1, .int 0), (2, .int 0), (3, .int 0)]) hx hb dX11_splice_137 hl (by decide) rfl (fun ls hl => ?_)
  refine lv_aload hx hb dX11_splice_139 (lv_at hl 2 rfl) ?_
  refine k_alen (v := 187) hx hb hh 0 1 rfl rfl rfl dX11_splice_141 ?_
  refine lv_iload_n hx hb dX11_splice_142 rfl (lv_at hl 6 rfl) ?_
  refine lv_isub hx hb dX11_splice_143 ?_
  refine W.eq (g2 := F0 m 144 ls [.int 187]) (by first | rfl | decide) ?_
  refine lv_istore (lv' := [(7, .int 187), (6, .ref q43), (5, .ref q36), (4, .ref q36), (0, .ref q15), (1, .int 0), (2, .int 0), (3, .int 0)]) hx hb dX11_splice_144 hl (by decide) rfl (fun ls hl => ?_)
  refine lv_iconst (v := 0) hx hb dX11_splice_146 (by decide) ?_
  refine lv_istore (lv' := [(8, .int 0), (7, .int 187), (6, .ref q43), (5, .ref q36), (4, .ref q36), (0, .ref q15), (1, .int 0), (2, .int 0), (3, .int 0)]) hx hb dX11_splice_147 hl (by decide) rfl (fun ls hl => ?_)
  refine lp_a50_X11_splice l hst hx hb hts hown hml D e0 q36 y37 q15 q16 q17 q18 q19 q20 q21 q22 q23 q33 y34 q35 q43 y44  (fun H locs ls hh hl => ?_) 374 0 _ _ _ (by omega) (hh.sub [0, 1, 2, 3, 4, 5] [0, 1, 4] rfl rfl rfl) (lv_sub hl [0, 1, 2, 3, 4, 5, 6, 7, 8] rfl)
  have hh : kH D kStr e0 A s H [(q36, .inl (y37, 187, .inl (fun _ => 0))), (q15, .inr (16, [.int 0, .ref q16, .ref q17, .ref q18, .ref q19, .ref q20, .ref q21, .ref q22, .ref q23, .int 0, .int 0])), (q17, .inr (4, [.int 1, .ref q33, .int 1])), (q33, .inl (y34, 10, .inr (.inr (.inr (.inr (va_up ((fun _ => none)) (0 : Int32).toNatClampNeg (some q35))))))), (q35, .inr (14, [.int 115, .ref q36])), (q43, .inl (y44, 374, .inl (fun _ => 0)))] [(y34, .object "java/lang/Object"), (y37, .int), (y44, .int)] _ := hh
  have hl : lv_has ls 10 [(8, .int (nI 374)), (7, .int 187), (6, .ref q43), (5, .ref q36), (4, .ref q36), (0, .ref q15), (1, .int 0), (2, .int 0), (3, .int 0)] := hl
  refine lv_aload_n hx hb dX11_splice_227 rfl (lv_at hl 5 rfl) ?_
  refine lv_bipush (v := 120) hx hb dX11_splice_228 (by decide) ?_
  refine lv_aload hx hb dX11_splice_230 (lv_at hl 2 rfl) ?_
  refine lv_iconst (v := 4) hx hb dX11_splice_232 (by decide) ?_
  refine k_callV (C := RX11) (T := TX11) (N := 11) (ci := 16) (q0 := 1) (wr := [(q36, .inl (y37, 187, .inl (fun _ => 0))), (q35, .inr (14, [.int 115, .ref q36]))]) (rest := []) (own := RX11) ⟨hx, hb, hml, hown, hts⟩ (a49_X11_adds l hst D e0 q15 q43 q16 q17 q18 q19 q20 q21 q22 q23 y44 q33 y34 q35 ) (cwV 3 hts gi_a50_X11_splice_5 rfl rfl rfl (by decide +kernel) ⟨Nat.le_of_ble_eq_true rfl, Nat.le_of_ble_eq_true rfl⟩) hh rfl rfl [1, 5, 2, 3] [0, 4] [0, 2] rfl rfl rfl rfl (by decide) rfl rfl hl rfl (Nat.le_of_ble_eq_true rfl) dX11_splice_233 ⟨Nat.le_of_ble_eq_true rfl, (Nat.le_of_ble_eq_true rfl)⟩ (fun _ _ _ _ _ h => h.elim) (fun v w ty1 H locs hp hh => ?_)
  obtain ⟨q45, rfl, rfl, rfl⟩ := hp
  have hh : kH D kStr e0 A s H [(q36, .inl (y37, 187, .inl (fun _ => 0))), (q35, .inr (14, [.int 115, .ref q36])), (q15, .inr (16, [.int 0, .ref q16, .ref q17, .ref q18, .ref q19, .ref q20, .ref q21, .ref q22, .ref q23, .int 0, .int 0])), (q43, .inl (y44, 374, .inl (fun _ => 0))), (q17, .inr (4, [.int 2, .ref q33, .int 2])), (q33, .inl (y34, 10, .inr (.inr (.inr (.inr (va_up ((va_up ((fun _ => none)) (0 : Int32).toNatClampNeg (some q35))) (1 : Int32).toNatClampNeg (some q45))))))), (q45, .inr (14, [.int 120, .ref q43]))] [(y34, .object "java/lang/Object"), (y37, .int), (y44, .int), (y44, .int), (y34, .object "java/lang/Object")] _ := hh
  refine W.eq (g2 := F0 m 236 ls [.int 1]) (by first | rfl | decide) ?_
  exact k_endi hx hb hr hlocks hh ⟨q45, q43, y44, rfl, rfl, rfl⟩ [2, 4, 5, 1, 0, 6, 3] [0, 1, 2] rfl rfl rfl (Nat.le_of_ble_eq_true rfl) (Nat.le_of_ble_eq_true rfl) dX11_splice_236
def wo_a51_X6_needIndex : List Cond := []
def wk_a51_X6_needIndex : List Cond := Cond.code yX6_needIndex cX6_needIndex 2 none :: wo_a51_X6_needIndex
theorem wo_a51_X6_needIndex_in : ∀ w ∈ wo_a51_X6_needIndex, w ∈ wk_a51_X6_needIndex := fun w h => List.mem_cons_of_mem _ h
theorem gk_a51_X6_needIndex : ∀ w ∈ wk_a51_X6_needIndex, goodWord w = true := List.forall_mem_cons.mpr ⟨rfl, (show ∀ w ∈ wo_a51_X6_needIndex, goodWord w = true by decide +kernel)⟩
set_option maxHeartbeats 4000000 in
set_option maxRecDepth 100000 in
theorem a51_X6_needIndex (l : Launch) (hst : l.stackTraces = false) (D : va_G) (e0 : kE)   : kM l yX6_needIndex wk_a51_X6_needIndex 0 0 0 0 D kStr e0 [] [] [.int 1, .int 2] (fun v w t => v = none ∧ w = [] ∧ t = []) (fun _ => False) := by
  refine k_of (cc := cX6_needIndex) (maxL := 2) (ret := none) (by decide) rfl (Nat.le_of_ble_eq_true rfl) ?_
  intro p e s m args below meth c A ls hx hb hr hts hown hlocks hml hex hh hl
  have hown : s.vm.findClass RX6 = some m.cls := hown
  have hl : lv_has ls 2 [(0, .int 1), (1, .int 2)] := hl
  refine lv_iload_n hx hb dX6_needIndex_0 rfl (lv_at hl 0 rfl) ?_
  refine lv_if_lt (tgt := 9) hx hb dX6_needIndex_1 (by decide) (fun c_1 => absurd c_1 (by decide)) (fun _ => ?_)
  refine lv_iload_n hx hb dX6_needIndex_4 rfl (lv_at hl 0 rfl) ?_
  refine lv_iload_n hx hb dX6_needIndex_5 rfl (lv_at hl 1 rfl) ?_
  refine lv_icmp_lt (tgt := 20) hx hb dX6_needIndex_6 (by decide) (fun _ => ?_) (fun c_6 => absurd (by decide) c_6)
  exact k_endv hx hb hr hlocks hh ⟨rfl, rfl, rfl⟩ [] [] rfl rfl rfl (Nat.le_of_ble_eq_true rfl) (Nat.le_of_ble_eq_true rfl) dX6_needIndex_20
def wo_a52_X6_knownPiece : List Cond := [Cond.fieldLink RX6 340 "Segueworks" "pieceCount" "I", Cond.fieldLink RX6 17 "Segueworks" "pieces" "[LSegueworks$Piece;"]
def wk_a52_X6_knownPiece : List Cond := Cond.code yX6_knownPiece cX6_knownPiece 2 (some (.object "Segueworks$Piece")) :: (wo_a52_X6_knownPiece ++ ((u_ws RX6 TX6 8) ++ (va_wsS RX6 193 yX6_needIndex wk_a51_X6_needIndex)))
theorem wo_a52_X6_knownPiece_in : ∀ w ∈ wo_a52_X6_knownPiece, w ∈ wk_a52_X6_knownPiece := fun w h => List.mem_cons_of_mem _ (List.mem_append_left _ h)
theorem ws_a52_X6_knownPiece_0 : ∀ w ∈ u_ws RX6 TX6 8, w ∈ wk_a52_X6_knownPiece := fun w h => List.mem_cons_of_mem _ (List.mem_append_right _ (List.mem_append_left _ h))
theorem gi_a52_X6_knownPiece_1 : GoodIn wk_a52_X6_knownPiece (va_wsS RX6 193 yX6_needIndex wk_a51_X6_needIndex) := fun w h => ⟨List.mem_cons_of_mem _ (List.mem_append_right _ (List.mem_append_right _ h)), good_of_word (kg_S gk_a51_X6_needIndex w h)⟩
theorem gk_a52_X6_knownPiece : ∀ w ∈ wk_a52_X6_knownPiece, goodWord w = true := List.forall_mem_cons.mpr ⟨rfl, (List.forall_mem_append.mpr ⟨(show ∀ w ∈ wo_a52_X6_knownPiece, goodWord w = true by decide +kernel), (List.forall_mem_append.mpr ⟨(show ∀ w ∈ u_ws RX6 TX6 8, goodWord w = true by decide +kernel), (kg_S gk_a51_X6_needIndex)⟩)⟩)⟩
set_option maxHeartbeats 4000000 in
set_option maxRecDepth 100000 in
theorem a52_X6_knownPiece (l : Launch) (hst : l.stackTraces = false) (D : va_G) (e0 : kE) (q1 : Nat) (q2 : Nat) (q3 : Nat) (q4 : Nat) (q5 : Nat) (q6 : Nat) (y7 : ClassId) (q29 : Nat) (q39 : Nat)  : kM l yX6_knownPiece wk_a52_X6_knownPiece 1 21 0 0 D kStr e0 [(y7, .object "Segueworks$Piece")] [(q1, .inr (11, [.ref q2, .int 0, .ref q3, .int 2, .ref q4, .ref q5, .ref q6, .int 0])), (q3, .inl (y7, 24, .inr (.inr (.inr (.inr (va_up ((va_up ((fun _ => none)) (0 : Int32).toNatClampNeg (some q29))) (1 : Int32).toNatClampNeg (some q39)))))))] [.ref q1, .int 1] (fun v w t => v = some (.ref q39) ∧ w = [(q1, .inr (11, [.ref q2, .int 0, .ref q3, .int 2, .ref q4, .ref q5, .ref q6, .int 0])), (q3, .inl (y7, 24, .inr (.inr (.inr (.inr (va_up ((va_up ((fun _ => none)) (0 : Int32).toNatClampNeg (some q29))) (1 : Int32).toNatClampNeg (some q39)))))))] ∧ t = [(y7, .object "Segueworks$Piece")]) (fun _ => False) := by
  refine k_of (cc := cX6_knownPiece) (maxL := 2) (ret := (some (.object "Segueworks$Piece"))) (by decide) rfl (Nat.le_of_ble_eq_true rfl) ?_
  intro p e s m args below meth c A ls hx hb hr hts hown hlocks hml hex hh hl
  have hown : s.vm.findClass RX6 = some m.cls := hown
  have hl : lv_has ls 2 [(0, .ref q1), (1, .int 1)] := hl
  refine lv_iload_n hx hb dX6_knownPiece_0 rfl (lv_at hl 1 rfl) ?_
  refine lv_aload_n hx hb dX6_knownPiece_1 rfl (lv_at hl 0 rfl) ?_
  refine k_get (C := RX6) (T := TX6) (N := 8) (ci := 11) (v := .int 2) hx hb hts ws_a52_X6_knownPiece_0 hown hh 0 rfl rfl 3 (by decide) (hts _ (wo_a52_X6_knownPiece_in _ (List.mem_of_getElem? (i := 0) rfl))) rfl dX6_knownPiece_2 ?_
  refine k_callS (wr := [(q1, .inr (11, [.ref q2, .int 0, .ref q3, .int 2, .ref q4, .ref q5, .ref q6, .int 0])), (q3, .inl (y7, 24, .inr (.inr (.inr (.inr (va_up ((va_up ((fun _ => none)) (0 : Int32).toNatClampNeg (some q29))) (1 : Int32).toNatClampNeg (some q39)))))))]) (rest := []) (own := RX6) ⟨hx, hb, hml, hown, hts⟩ (a51_X6_needIndex l hst D e0  ) (va_cwS 2 hts gi_a52_X6_knownPiece_1 rfl rfl rfl (by decide +kernel) ⟨Nat.le_of_ble_eq_true rfl, Nat.le_of_ble_eq_true rfl⟩) hh [] [0, 1] [] rfl rfl rfl rfl (by decide) rfl rfl hl rfl (Nat.le_of_ble_eq_true rfl) dX6_knownPiece_5 ⟨Nat.le_of_ble_eq_true rfl, (Nat.le_of_ble_eq_true rfl)⟩ (fun _ _ _ _ _ h => h.elim) (fun v w ty1 H locs hp hh => ?_)
  obtain ⟨rfl, rfl, rfl⟩ := hp
  have hh : kH D kStr e0 A s H [(q1, .inr (11, [.ref q2, .int 0, .ref q3, .int 2, .ref q4, .ref q5, .ref q6, .int 0])), (q3, .inl (y7, 24, .inr (.inr (.inr (.inr (va_up ((va_up ((fun _ => none)) (0 : Int32).toNatClampNeg (some q29))) (1 : Int32).toNatClampNeg (some q39)))))))] [(y7, .object "Segueworks$Piece")] _ := hh
  refine W.eq (g2 := F0 m 8 ls []) (by first | rfl | decide) ?_
  refine lv_aload_n hx hb dX6_knownPiece_8 rfl (lv_at hl 0 rfl) ?_
  refine k_get (C := RX6) (T := TX6) (N := 8) (ci := 11) (v := .ref q3) hx hb hts ws_a52_X6_knownPiece_0 hown hh 0 rfl rfl 2 (by decide) (hts _ (wo_a52_X6_knownPiece_in _ (List.mem_of_getElem? (i := 1) rfl))) rfl dX6_knownPiece_9 ?_
  refine lv_iload_n hx hb dX6_knownPiece_12 rfl (lv_at hl 1 rfl) ?_
  refine k_aldq (v := q39) hx hb hh 1 0 rfl rfl (by unfold vp_in; decide) (by first | rfl | simp [va_up]) dX6_knownPiece_13 ?_
  exact k_enda (by first | exact Or.inl ⟨_, rfl⟩ | exact Or.inr ⟨_, rfl⟩) (by first | exact Or.inr ⟨_, rfl⟩ | exact Or.inl rfl) hx hb hr hlocks hh ⟨rfl, rfl, rfl⟩ [0, 1] [0] rfl rfl rfl (Nat.le_of_ble_eq_true rfl) (Nat.le_of_ble_eq_true rfl) dX6_knownPiece_14
def wo_a53_X6_needRange : List Cond := []
def wk_a53_X6_needRange : List Cond := Cond.code yX6_needRange cX6_needRange 3 none :: wo_a53_X6_needRange
theorem wo_a53_X6_needRange_in : ∀ w ∈ wo_a53_X6_needRange, w ∈ wk_a53_X6_needRange := fun w h => List.mem_cons_of_mem _ h
theorem gk_a53_X6_needRange : ∀ w ∈ wk_a53_X6_needRange, goodWord w = true := List.forall_mem_cons.mpr ⟨rfl, (show ∀ w ∈ wo_a53_X6_needRange, goodWord w = true by decide +kernel)⟩
set_option maxHeartbeats 4000000 in
set_option maxRecDepth 100000 in
theorem a53_X6_needRange (l : Launch) (hst : l.stackTraces = false) (D : va_G) (e0 : kE)   : kM l yX6_needRange wk_a53_X6_needRange 0 0 0 0 D kStr e0 [] [] [.int 0, .int 0, .int 374] (fun v w t => v = none ∧ w = [] ∧ t = []) (fun _ => False) := by
  refine k_of (cc := cX6_needRange) (maxL := 3) (ret := none) (by decide) rfl (Nat.le_of_ble_eq_true rfl) ?_
  intro p e s m args below meth c A ls hx hb hr hts hown hlocks hml hex hh hl
  have hown : s.vm.findClass RX6 = some m.cls := hown
  have hl : lv_has ls 3 [(0, .int 0), (1, .int 0), (2, .int 374)] := hl
  refine lv_iload_n hx hb dX6_needRange_0 rfl (lv_at hl 0 rfl) ?_
  refine lv_iload_n hx hb dX6_needRange_1 rfl (lv_at hl 1 rfl) ?_
  refine lv_icmp_lt (tgt := 10) hx hb dX6_needRange_2 (by decide) (fun c_2 => absurd c_2 (by decide)) (fun _ => ?_)
  refine lv_iload_n hx hb dX6_needRange_5 rfl (lv_at hl 0 rfl) ?_
  refine lv_iload_n hx hb dX6_needRange_6 rfl (lv_at hl 2 rfl) ?_
  refine lv_icmp_le (tgt := 21) hx hb dX6_needRange_7 (by decide) (fun _ => ?_) (fun c_7 => absurd (by decide) c_7)
  exact k_endv hx hb hr hlocks hh ⟨rfl, rfl, rfl⟩ [] [] rfl rfl rfl (Nat.le_of_ble_eq_true rfl) (Nat.le_of_ble_eq_true rfl) dX6_needRange_21
def wo_a54_X6_needPieceLength : List Cond := []
def wk_a54_X6_needPieceLength : List Cond := Cond.code yX6_needPieceLength cX6_needPieceLength 1 none :: wo_a54_X6_needPieceLength
theorem wo_a54_X6_needPieceLength_in : ∀ w ∈ wo_a54_X6_needPieceLength, w ∈ wk_a54_X6_needPieceLength := fun w h => List.mem_cons_of_mem _ h
theorem gk_a54_X6_needPieceLength : ∀ w ∈ wk_a54_X6_needPieceLength, goodWord w = true := List.forall_mem_cons.mpr ⟨rfl, (show ∀ w ∈ wo_a54_X6_needPieceLength, goodWord w = true by decide +kernel)⟩
set_option maxHeartbeats 4000000 in
set_option maxRecDepth 100000 in
theorem a54_X6_needPieceLength (l : Launch) (hst : l.stackTraces = false) (D : va_G) (e0 : kE)   : kM l yX6_needPieceLength wk_a54_X6_needPieceLength 0 0 0 0 D kStr e0 [] [] [.int 748] (fun v w t => v = none ∧ w = [] ∧ t = []) (fun _ => False) := by
  refine k_of (cc := cX6_needPieceLength) (maxL := 1) (ret := none) (by decide) rfl (Nat.le_of_ble_eq_true rfl) ?_
  intro p e s m args below meth c A ls hx hb hr hts hown hlocks hml hex hh hl
  have hown : s.vm.findClass RX6 = some m.cls := hown
  have hl : lv_has ls 1 [(0, .int 748)] := hl
  refine lv_iload_n hx hb dX6_needPieceLength_0 rfl (lv_at hl 0 rfl) ?_
  refine lv_sipush (v := 800) hx hb dX6_needPieceLength_1 (by decide) ?_
  refine lv_icmp_le (tgt := 18) hx hb dX6_needPieceLength_4 (by decide) (fun _ => ?_) (fun c_4 => absurd (by decide) c_4)
  exact k_endv hx hb hr hlocks hh ⟨rfl, rfl, rfl⟩ [] [] rfl rfl rfl (Nat.le_of_ble_eq_true rfl) (Nat.le_of_ble_eq_true rfl) dX6_needPieceLength_18
def wo_a55_X6_needPieceRoom : List Cond := [Cond.fieldLink RX6 340 "Segueworks" "pieceCount" "I"]
def wk_a55_X6_needPieceRoom : List Cond := Cond.code yX6_needPieceRoom cX6_needPieceRoom 1 none :: (wo_a55_X6_needPieceRoom ++ (u_ws RX6 TX6 8))
theorem wo_a55_X6_needPieceRoom_in : ∀ w ∈ wo_a55_X6_needPieceRoom, w ∈ wk_a55_X6_needPieceRoom := fun w h => List.mem_cons_of_mem _ (List.mem_append_left _ h)
theorem ws_a55_X6_needPieceRoom_0 : ∀ w ∈ u_ws RX6 TX6 8, w ∈ wk_a55_X6_needPieceRoom := fun w h => List.mem_cons_of_mem _ (List.mem_append_right _ h)
theorem gk_a55_X6_needPieceRoom : ∀ w ∈ wk_a55_X6_needPieceRoom, goodWord w = true := List.forall_mem_cons.mpr ⟨rfl, (List.forall_mem_append.mpr ⟨(show ∀ w ∈ wo_a55_X6_needPieceRoom, goodWord w = true by decide +kernel), (show ∀ w ∈ u_ws RX6 TX6 8, goodWord w = true by decide +kernel)⟩)⟩
set_option maxHeartbeats 4000000 in
set_option maxRecDepth 100000 in
theorem a55_X6_needPieceRoom (l : Launch) (hst : l.stackTraces = false) (D : va_G) (e0 : kE) (q1 : Nat) (q2 : Nat) (q3 : Nat) (q4 : Nat) (q5 : Nat) (q6 : Nat)  : kM l yX6_needPieceRoom wk_a55_X6_needPieceRoom 0 0 0 0 D kStr e0 [] [(q1, .inr (11, [.ref q2, .int 0, .ref q3, .int 2, .ref q4, .ref q5, .ref q6, .int 0]))] [.ref q1] (fun v w t => v = none ∧ w = [(q1, .inr (11, [.ref q2, .int 0, .ref q3, .int 2, .ref q4, .ref q5, .ref q6, .int 0]))] ∧ t = []) (fun _ => False) := by
  refine k_of (cc := cX6_needPieceRoom) (maxL := 1) (ret := none) (by decide) rfl (Nat.le_of_ble_eq_true rfl) ?_
  intro p e s m args below meth c A ls hx hb hr hts hown hlocks hml hex hh hl
  have hown : s.vm.findClass RX6 = some m.cls := hown
  have hl : lv_has ls 1 [(0, .ref q1)] := hl
  refine lv_aload_n hx hb dX6_needPieceRoom_0 rfl (lv_at hl 0 rfl) ?_
  refine k_get (C := RX6) (T := TX6) (N := 8) (ci := 11) (v := .int 2) hx hb hts ws_a55_X6_needPieceRoom_0 hown hh 0 rfl rfl 3 (by decide) (hts _ (wo_a55_X6_needPieceRoom_in _ (List.mem_of_getElem? (i := 0) rfl))) rfl dX6_needPieceRoom_1 ?_
  refine lv_bipush (v := 24) hx hb dX6_needPieceRoom_4 (by decide) ?_
  refine lv_icmp_lt (tgt := 20) hx hb dX6_needPieceRoom_6 (by decide) (fun _ => ?_) (fun c_6 => absurd (by decide) c_6)
  exact k_endv hx hb hr hlocks hh ⟨rfl, rfl, rfl⟩ [0] [] rfl rfl rfl (Nat.le_of_ble_eq_true rfl) (Nat.le_of_ble_eq_true rfl) dX6_needPieceRoom_20
def wo_a56_X2_init : List Cond := [Cond.methodLink RX2 3 objectInit, Cond.instanceMethod objectInit, Cond.code objectInit ⟨#[0xb1]⟩ 1 none, Cond.fieldLink RX2 9 "Segueworks$Piece" "kind" "C", Cond.fieldLink RX2 15 "Segueworks$Piece" "source" "[I", Cond.fieldLink RX2 19 "Segueworks$Piece" "second" "[I", Cond.fieldLink RX2 22 "Segueworks$Piece" "setting" "I", Cond.fieldLink RX2 26 "Segueworks$Piece" "setting2" "I", Cond.fieldLink RX2 29 "Segueworks$Piece" "release" "I", Cond.arrayClass .int, Cond.fieldLink RX2 32 "Segueworks$Piece" "samples" "[I", Cond.fieldLink RX2 35 "Segueworks$Piece" "carries" "[I"]
def wk_a56_X2_init : List Cond := Cond.code yX2_init cX2_init 8 none :: (wo_a56_X2_init ++ (u_ws RX2 TX2 9))
theorem wo_a56_X2_init_in : ∀ w ∈ wo_a56_X2_init, w ∈ wk_a56_X2_init := fun w h => List.mem_cons_of_mem _ (List.mem_append_left _ h)
theorem ws_a56_X2_init_0 : ∀ w ∈ u_ws RX2 TX2 9, w ∈ wk_a56_X2_init := fun w h => List.mem_cons_of_mem _ (List.mem_append_right _ h)
theorem gk_a56_X2_init : ∀ w ∈ wk_a56_X2_init, goodWord w = true := List.forall_mem_cons.mpr ⟨rfl, (List.forall_mem_append.mpr ⟨(show ∀ w ∈ wo_a56_X2_init, goodWord w = true by decide +kernel), (show ∀ w ∈ u_ws RX2 TX2 9, goodWord w = true by decide +kernel)⟩)⟩
set_option maxHeartbeats 4000000 in
set_option maxRecDepth 100000 in
theorem a56_X2_init (l : Launch) (hst : l.stackTraces = false) (D : va_G) (e0 : kE) (q47 : Nat) (q40 : Nat)  : kI l yX2_init wk_a56_X2_init 1 20 2 748 D kStr e0 [] [(q47, .inr (7, [.int 0, .null, .null, .null, .int 0, .int 0, .int 0, .null, .int 0]))] [.ref q47, .int 120, .int 748, .ref q40, .ref q40, .int 0, .int 0, .int 0] (fun v w t => ∃ (q48 : Nat), ∃ (q50 : Nat), ∃ (y49 : ClassId), ∃ (y51 : ClassId), v = none ∧ w = [(q47, .inr (7, [.int 120, .ref q48, .ref q40, .ref q40, .int 0, .int 0, .int 0, .ref q50, .int 0])), (q48, .inl (y49, 748, .inl (fun _ => 0))), (q50, .inl (y51, 0, .inl (fun _ => 0)))] ∧ t = [(y49, .int), (y51, .int)]) := by
  refine k_ofI (cc := cX2_init) (maxL := 8) (ret := none) (by decide) rfl (Nat.le_of_ble_eq_true rfl) ?_
  intro p e s m args below meth c A ls hx hb hr hts hown hlocks hml hin hh hl
  have hown : s.vm.findClass RX2 = some m.cls := hown
  have hl : lv_has ls 8 [(0, .ref q47), (1, .int 120), (2, .int 748), (3, .ref q40), (4, .ref q40), (5, .int 0), (6, .int 0), (7, .int 0)] := hl
  have hin : meth.name = "<init>" := hin
  refine lv_aload_n hx hb dX2_init_0 rfl (lv_at hl 0 rfl) ?_
  refine W.objInit hx hb hown (hts _ (wo_a56_X2_init_in _ (List.mem_of_getElem? (i := 0) rfl))) (hts _ (wo_a56_X2_init_in _ (List.mem_of_getElem? (i := 1) rfl))) (hts _ (wo_a56_X2_init_in _ (List.mem_of_getElem? (i := 2) rfl))) rfl (by rw [hml]; exact hl.1) rfl dX2_init_1 (Nat.le_of_ble_eq_true rfl) (Nat.le_of_ble_eq_true rfl) ?_
  refine W.eq (g2 := F0 m 4 ls []) rfl ?_
  refine lv_aload_n hx hb dX2_init_4 rfl (lv_at hl 0 rfl) ?_
  refine lv_iload_n hx hb dX2_init_5 rfl (lv_at hl 1 rfl) ?_
  refine k_putF (C := RX2) (T := TX2) (N := 9) (ci := 7) (v := .int 120) (ws' := [(q47, .inr (7, [.int 120, .null, .null, .null, .int 0, .int 0, .int 0, .null, .int 0]))]) hx hb hts ws_a56_X2_init_0 tyX2 tyX2_ok nmX2 hown hh 0 rfl rfl 0 (by decide) (hts _ (wo_a56_X2_init_in _ (List.mem_of_getElem? (i := 3) rfl))) rfl hin rfl rfl rfl (Nat.le_of_ble_eq_true rfl) dX2_init_6 rfl (fun H locs hh => ?_)
  refine lv_aload_n hx hb dX2_init_9 rfl (lv_at hl 0 rfl) ?_
  refine lv_aload_n hx hb dX2_init_10 rfl (lv_at hl 3 rfl) ?_
  refine k_putF (C := RX2) (T := TX2) (N := 9) (ci := 7) (v := .ref q40) (ws' := [(q47, .inr (7, [.int 120, .null, .ref q40, .null, .int 0, .int 0, .int 0, .null, .int 0]))]) hx hb hts ws_a56_X2_init_0 tyX2 tyX2_ok nmX2 hown hh 0 rfl rfl 2 (by decide) (hts _ (wo_a56_X2_init_in _ (List.mem_of_getElem? (i := 4) rfl))) rfl hin rfl rfl rfl (Nat.le_of_ble_eq_true rfl) dX2_init_11 rfl (fun H locs hh => ?_)
  refine lv_aload_n hx hb dX2_init_14 rfl (lv_at hl 0 rfl) ?_
  refine lv_aload hx hb dX2_init_15 (lv_at hl 4 rfl) ?_
  refine k_putF (C := RX2) (T := TX2) (N := 9) (ci := 7) (v := .ref q40) (ws' := [(q47, .inr (7, [.int 120, .null, .ref q40, .ref q40, .int 0, .int 0, .int 0, .null, .int 0]))]) hx hb hts ws_a56_X2_init_0 tyX2 tyX2_ok nmX2 hown hh 0 rfl rfl 3 (by decide) (hts _ (wo_a56_X2_init_in _ (List.mem_of_getElem? (i := 5) rfl))) rfl hin rfl rfl rfl (Nat.le_of_ble_eq_true rfl) dX2_init_17 rfl (fun H locs hh => ?_)
  refine lv_aload_n hx hb dX2_init_20 rfl (lv_at hl 0 rfl) ?_
  refine lv_iload hx hb dX2_init_21 (lv_at hl 5 rfl) ?_
  refine k_putF (C := RX2) (T := TX2) (N := 9) (ci := 7) (v := .int 0) (ws' := [(q47, .inr (7, [.int 120, .null, .ref q40, .ref q40, .int 0, .int 0, .int 0, .null, .int 0]))]) hx hb hts ws_a56_X2_init_0 tyX2 tyX2_ok nmX2 hown hh 0 rfl rfl 4 (by decide) (hts _ (wo_a56_X2_init_in _ (List.mem_of_getElem? (i := 6) rfl))) rfl hin rfl rfl rfl (Nat.le_of_ble_eq_true rfl) dX2_init_23 rfl (fun H locs hh => ?_)
  refine lv_aload_n hx hb dX2_init_26 rfl (lv_at hl 0 rfl) ?_
  refine lv_iload hx hb dX2_init_27 (lv_at hl 6 rfl) ?_
  refine k_putF (C := RX2) (T := TX2) (N := 9) (ci := 7) (v := .int 0) (ws' := [(q47, .inr (7, [.int 120, .null, .ref q40, .ref q40, .int 0, .int 0, .int 0, .null, .int 0]))]) hx hb hts ws_a56_X2_init_0 tyX2 tyX2_ok nmX2 hown hh 0 rfl rfl 5 (by decide) (hts _ (wo_a56_X2_init_in _ (List.mem_of_getElem? (i := 7) rfl))) rfl hin rfl rfl rfl (Nat.le_of_ble_eq_true rfl) dX2_init_29 rfl (fun H locs hh => ?_)
  refine lv_aload_n hx hb dX2_init_32 rfl (lv_at hl 0 rfl) ?_
  refine lv_iload hx hb dX2_init_33 (lv_at hl 7 rfl) ?_
  refine k_putF (C := RX2) (T := TX2) (N := 9) (ci := 7) (v := .int 0) (ws' := [(q47, .inr (7, [.int 120, .null, .ref q40, .ref q40, .int 0, .int 0, .int 0, .null, .int 0]))]) hx hb hts ws_a56_X2_init_0 tyX2 tyX2_ok nmX2 hown hh 0 rfl rfl 6 (by decide) (hts _ (wo_a56_X2_init_in _ (List.mem_of_getElem? (i := 8) rfl))) rfl hin rfl rfl rfl (Nat.le_of_ble_eq_true rfl) dX2_init_35 rfl (fun H locs hh => ?_)
  refine lv_aload_n hx hb dX2_init_38 rfl (lv_at hl 0 rfl) ?_
  refine lv_iload_n hx hb dX2_init_39 rfl (lv_at hl 2 rfl) ?_
  refine k_newa (atype := .int) (ty := .int) (N' := 748) (a0 := (748, .inl (fun _ => 0))) hx hb (hts _ (wo_a56_X2_init_in _ (List.mem_of_getElem? (i := 9) rfl))) rfl hh (fun cA => rfl) (by decide) (by decide) (Nat.le_of_ble_eq_true rfl) (Nat.le_of_ble_eq_true rfl) (Nat.le_of_ble_eq_true rfl) dX2_init_40 (fun q48 y49 H hh => ?_)
  have hh : kH D kStr e0 A s H [(q47, .inr (7, [.int 120, .null, .ref q40, .ref q40, .int 0, .int 0, .int 0, .null, .int 0])), (q48, .inl (y49, 748, .inl (fun _ => 0)))] [(y49, .int)] _ := hh
  refine k_putF (C := RX2) (T := TX2) (N := 9) (ci := 7) (v := .ref q48) (ws' := [(q47, .inr (7, [.int 120, .ref q48, .ref q40, .ref q40, .int 0, .int 0, .int 0, .null, .int 0])), (q48, .inl (y49, 748, .inl (fun _ => 0)))]) hx hb hts ws_a56_X2_init_0 tyX2 tyX2_ok nmX2 hown hh 0 rfl rfl 1 (by decide) (hts _ (wo_a56_X2_init_in _ (List.mem_of_getElem? (i := 10) rfl))) rfl hin rfl rfl rfl (Nat.le_of_ble_eq_true rfl) dX2_init_42 rfl (fun H locs hh => ?_)
  refine lv_aload_n hx hb dX2_init_45 rfl (lv_at hl 0 rfl) ?_
  refine lv_iload_n hx hb dX2_init_46 rfl (lv_at hl 1 rfl) ?_
  refine lv_bipush (v := 108) hx hb dX2_init_47 (by decide) ?_
  refine lv_icmp_eq (tgt := 58) hx hb dX2_init_49 (by decide) (fun c_49 => absurd c_49 (by decide)) (fun _ => ?_)
  refine lv_iload_n hx hb dX2_init_52 rfl (lv_at hl 1 rfl) ?_
  refine lv_bipush (v := 100) hx hb dX2_init_53 (by decide) ?_
  refine lv_icmp_ne (tgt := 62) hx hb dX2_init_55 (by decide) (fun _ => ?_) (fun c_55 => absurd c_55 (by decide))
  refine lv_iconst (v := 0) hx hb dX2_init_62 (by decide) ?_
  refine k_newa (atype := .int) (ty := .int) (N' := 0) (a0 := (0, .inl (fun _ => 0))) hx hb (hts _ (wo_a56_X2_init_in _ (List.mem_of_getElem? (i := 9) rfl))) rfl hh (fun cA => rfl) (by decide) (by decide) (Nat.le_of_ble_eq_true rfl) (Nat.le_of_ble_eq_true rfl) (Nat.le_of_ble_eq_true rfl) dX2_init_63 (fun q50 y51 H hh => ?_)
  have hh : kH D kStr e0 A s H [(q47, .inr (7, [.int 120, .ref q48, .ref q40, .ref q40, .int 0, .int 0, .int 0, .null, .int 0])), (q48, .inl (y49, 748, .inl (fun _ => 0))), (q50, .inl (y51, 0, .inl (fun _ => 0)))] [(y49, .int), (y51, .int)] _ := hh
  refine k_putF (C := RX2) (T := TX2) (N := 9) (ci := 7) (v := .ref q50) (ws' := [(q47, .inr (7, [.int 120, .ref q48, .ref q40, .ref q40, .int 0, .int 0, .int 0, .ref q50, .int 0])), (q48, .inl (y49, 748, .inl (fun _ => 0))), (q50, .inl (y51, 0, .inl (fun _ => 0)))]) hx hb hts ws_a56_X2_init_0 tyX2 tyX2_ok nmX2 hown hh 0 rfl rfl 7 (by decide) (hts _ (wo_a56_X2_init_in _ (List.mem_of_getElem? (i := 11) rfl))) rfl hin rfl rfl rfl (Nat.le_of_ble_eq_true rfl) dX2_init_65 rfl (fun H locs hh => ?_)
  exact k_endV hx hb hr hlocks hh ⟨q48, q50, y49, y51, rfl, rfl, rfl⟩ [0, 1, 2] [0, 1] rfl rfl rfl (Nat.le_of_ble_eq_true rfl) (Nat.le_of_ble_eq_true rfl) dX2_init_68
def wo_a57_X2_fill : List Cond := [Cond.fieldLink RX2 32 "Segueworks$Piece" "samples" "[I", Cond.fieldLink RX2 35 "Segueworks$Piece" "carries" "[I", Cond.fieldLink RX2 45 "Segueworks$Piece" "width" "I"]
def wk_a57_X2_fill : List Cond := Cond.code yX2_fill cX2_fill 2 none :: (wo_a57_X2_fill ++ ((u_ws RX2 TX2 9) ++ ((wsV RX2 42 RX2 yX2_workedOut wk_c_wo_x_374) ++ (va_wsS RX2 48 yX2_widthOf wk_a12_X2_widthOf))))
theorem wo_a57_X2_fill_in : ∀ w ∈ wo_a57_X2_fill, w ∈ wk_a57_X2_fill := fun w h => List.mem_cons_of_mem _ (List.mem_append_left _ h)
theorem ws_a57_X2_fill_0 : ∀ w ∈ u_ws RX2 TX2 9, w ∈ wk_a57_X2_fill := fun w h => List.mem_cons_of_mem _ (List.mem_append_right _ (List.mem_append_left _ h))
theorem gi_a57_X2_fill_1 : GoodIn wk_a57_X2_fill (wsV RX2 42 RX2 yX2_workedOut wk_c_wo_x_374) := fun w h => ⟨List.mem_cons_of_mem _ (List.mem_append_right _ (List.mem_append_right _ (List.mem_append_left _ h))), good_of_word (kg_V gk_c_wo_x_374 w h)⟩
theorem gi_a57_X2_fill_2 : GoodIn wk_a57_X2_fill (va_wsS RX2 48 yX2_widthOf wk_a12_X2_widthOf) := fun w h => ⟨List.mem_cons_of_mem _ (List.mem_append_right _ (List.mem_append_right _ (List.mem_append_right _ h))), good_of_word (kg_S gk_a12_X2_widthOf w h)⟩
theorem gk_a57_X2_fill : ∀ w ∈ wk_a57_X2_fill, goodWord w = true := List.forall_mem_cons.mpr ⟨rfl, (List.forall_mem_append.mpr ⟨(show ∀ w ∈ wo_a57_X2_fill, goodWord w = true by decide +kernel), (List.forall_mem_append.mpr ⟨(show ∀ w ∈ u_ws RX2 TX2 9, goodWord w = true by decide +kernel), (List.forall_mem_append.mpr ⟨(kg_V gk_c_wo_x_374), (kg_S gk_a12_X2_widthOf)⟩)⟩)⟩)⟩
set_option maxHeartbeats 4000000 in
set_option maxRecDepth 100000 in
theorem lp_a57_X2_fill (l : Launch) (hst : l.stackTraces = false) {p : Program} {e : Env} {s : State} {m : MethodId} {args : Array Value} {below : List Frame} {meth : Method} {c : Code} {Q : State → Prop} {A : Nat → Prop} (hx : p.tables.exec = Jvm.exec) (hb : c.code = cX2_fill) (hts : ∀ w ∈ wk_a57_X2_fill, w.before args s = true) (hown : s.vm.findClass RX2 = some m.cls) (hml : c.maxLocals = 2) (D : va_G) (e0 : kE) (q47 : Nat) (q48 : Nat) (q40 : Nat) (q49 : Nat) (y50 : ClassId) (y42 : ClassId) (y51 : ClassId)  (kk : ∀ (H : Heap) (locs : List Loc) (ls : Array Slot), kH D kStr e0 A s H [(q47, .inr (7, [.int 120, .ref q48, .ref q40, .ref q40, .int 0, .int 0, .int 0, .ref q49, .int (nI (2 * 748))])), (q48, .inl (y50, 748, .inl (fun _ => 0))), (q40, .inl (y42, 374, .inl (fun _ => 0))), (q49, .inl (y51, 0, .inl (fun _ => 0)))] [(y42, .int), (y50, .int), (y51, .int)] locs → lv_has ls 2 [(1, .int (nI 748)), (0, .ref q47)] → W p l e (kRm 2 49 0 0) s m args below meth c H locs 0 0 Q (F0 m 66 ls [])) : ∀ (k i : Nat) (H : Heap) (locs : List Loc) (ls : Array Slot), k + i = 748 → kH D kStr e0 A s H [(q47, .inr (7, [.int 120, .ref q48, .ref q40, .ref q40, .int 0, .int 0, .int 0, .ref q49, .int (nI (2 * i))])), (q48, .inl (y50, 748, .inl (fun _ => 0))), (q40, .inl (y42, 374, .inl (fun _ => 0))), (q49, .inl (y51, 0, .inl (fun _ => 0)))] [(y42, .int), (y50, .int), (y51, .int)] locs → lv_has ls 2 [(1, .int (nI i)), (0, .ref q47)] → W p l e (kRm 2 49 0 0) s m args below meth c H locs 0 0 Q (F0 m 2 ls []) := by
  intro k
  induction k with
  | zero =>
    intro i H locs ls hi0 hh hl
    obtain rfl : i = 748 := by omega
    have hh : kH D kStr e0 A s H [(q47, .inr (7, [.int 120, .ref q48, .ref q40, .ref q40, .int 0, .int 0, .int 0, .ref q49, .int (nI (2 * 748))])), (q48, .inl (y50, 748, .inl (fun _ => 0))), (q40, .inl (y42, 374, .inl (fun _ => 0))), (q49, .inl (y51, 0, .inl (fun _ => 0)))] [(y42, .int), (y50, .int), (y51, .int)] _ := hh
    have hl : lv_has ls 2 [(1, .int (nI 748)), (0, .ref q47)] := hl
    refine lv_iload_n hx hb dX2_fill_2 rfl (lv_at hl 0 rfl) ?_
    refine lv_aload_n hx hb dX2_fill_3 rfl (lv_at hl 1 rfl) ?_
    refine k_get (C := RX2) (T := TX2) (N := 9) (ci := 7) (v := .ref q48) hx hb hts ws_a57_X2_fill_0 hown hh 0 rfl rfl 1 (by decide) (hts _ (wo_a57_X2_fill_in _ (List.mem_of_getElem? (i := 0) rfl))) rfl dX2_fill_4 ?_
    refine k_alen (v := 748) hx hb hh 1 1 rfl rfl rfl dX2_fill_7 ?_
    refine lv_icmp_ge (tgt := 66) hx hb dX2_fill_8 (by decide) (fun _ => ?_) (fun c_8 => absurd ((show (748 : Int32) ≤ nI 748 by decide)) c_8)
    exact kk _ _ _ hh (lv_sub hl [0, 1] rfl)
  | succ k ih =>
    intro i H locs ls hi0 hh hl
    have hi : i < 748 := by omega
    refine lv_iload_n hx hb dX2_fill_2 rfl (lv_at hl 0 rfl) ?_
    refine lv_aload_n hx hb dX2_fill_3 rfl (lv_at hl 1 rfl) ?_
    refine k_get (C := RX2) (T := TX2) (N := 9) (ci := 7) (v := .ref q48) hx hb hts ws_a57_X2_fill_0 hown hh 0 rfl rfl 1 (by decide) (hts _ (wo_a57_X2_fill_in _ (List.mem_of_getElem? (i := 0) rfl))) rfl dX2_fill_4 ?_
    refine k_alen (v := 748) hx hb hh 1 1 rfl rfl rfl dX2_fill_7 ?_
    refine lv_icmp_ge (tgt := 66) hx hb dX2_fill_8 (by decide) (fun c_8 => absurd c_8 ((show ¬ (748 : Int32) ≤ nI i from nI_ge (b := 748) hi (by omega)))) (fun _ => ?_)
    refine lv_iload_n hx hb dX2_fill_11 rfl (lv_at hl 0 rfl) ?_
    refine lv_aload_n hx hb dX2_fill_12 rfl (lv_at hl 1 rfl) ?_
    refine k_get (C := RX2) (T := TX2) (N := 9) (ci := 7) (v := .ref q49) hx hb hts ws_a57_X2_fill_0 hown hh 0 rfl rfl 7 (by decide) (hts _ (wo_a57_X2_fill_in _ (List.mem_of_getElem? (i := 1) rfl))) rfl dX2_fill_13 ?_
    refine k_alen (v := 0) hx hb hh 3 2 rfl rfl rfl dX2_fill_16 ?_
    refine lv_icmp_ge (tgt := 31) hx hb dX2_fill_17 (by decide) (fun _ => ?_) (fun c_17 => absurd (nI_pos' (by omega)) c_17)
    refine lv_aload_n hx hb dX2_fill_31 rfl (lv_at hl 1 rfl) ?_
    refine k_get (C := RX2) (T := TX2) (N := 9) (ci := 7) (v := .ref q48) hx hb hts ws_a57_X2_fill_0 hown hh 0 rfl rfl 1 (by decide) (hts _ (wo_a57_X2_fill_in _ (List.mem_of_getElem? (i := 0) rfl))) rfl dX2_fill_32 ?_
    refine lv_iload_n hx hb dX2_fill_35 rfl (lv_at hl 0 rfl) ?_
    refine lv_aload_n hx hb dX2_fill_36 rfl (lv_at hl 1 rfl) ?_
    refine lv_iload_n hx hb dX2_fill_37 rfl (lv_at hl 0 rfl) ?_
    refine k_callV (C := RX2) (T := TX2) (N := 9) (ci := 7) (q0 := 0) (wr := [(q48, .inl (y50, 748, .inl (fun _ => 0))), (q49, .inl (y51, 0, .inl (fun _ => 0)))]) (rest := [.int (nI i), .ref q48]) (own := RX2) ⟨hx, hb, hml, hown, hts⟩ (c_wo_x_374 l hst D e0 q47 q48 q49 ((nI (2 * i))) q40 y42 i hi) (cwV 1 hts gi_a57_X2_fill_1 rfl rfl rfl (by decide +kernel) ⟨Nat.le_of_ble_eq_true rfl, Nat.le_of_ble_eq_true rfl⟩) hh rfl rfl [0, 2] [1, 3] [0] rfl rfl rfl rfl (by decide) rfl rfl hl rfl (Nat.le_of_ble_eq_true rfl) dX2_fill_38 ⟨Nat.le_of_ble_eq_true rfl, (Nat.le_of_ble_eq_true rfl)⟩ (fun _ _ _ _ _ h => h.elim) (fun v w ty1 H locs hp hh => ?_)
    obtain ⟨rfl, rfl, rfl⟩ := hp
    have hh : kH D kStr e0 A s H [(q48, .inl (y50, 748, .inl (fun _ => 0))), (q49, .inl (y51, 0, .inl (fun _ => 0))), (q47, .inr (7, [.int 120, .ref q48, .ref q40, .ref q40, .int 0, .int 0, .int 0, .ref q49, .int (nI (2 * i))])), (q40, .inl (y42, 374, .inl (fun _ => 0)))] [(y42, .int), (y50, .int), (y51, .int), (y42, .int)] _ := hh
    refine W.eq (g2 := F0 m 41 ls [.int 0, .int (nI i), .ref q48]) (by first | rfl | decide) ?_
    refine k_iast0 hx hb hh 0 1 rfl rfl (vp_in_nI hi (by decide)) dX2_fill_41 (fun H locs hh => ?_)
    refine lv_aload_n hx hb dX2_fill_42 rfl (lv_at hl 1 rfl) ?_
    refine lv_dup hx hb dX2_fill_43 rfl ?_
    refine k_get (C := RX2) (T := TX2) (N := 9) (ci := 7) (v := .int (nI (2 * i))) hx hb hts ws_a57_X2_fill_0 hown hh 2 rfl rfl 8 (by decide) (hts _ (wo_a57_X2_fill_in _ (List.mem_of_getElem? (i := 2) rfl))) rfl dX2_fill_44 ?_
    refine lv_aload_n hx hb dX2_fill_47 rfl (lv_at hl 1 rfl) ?_
    refine k_get (C := RX2) (T := TX2) (N := 9) (ci := 7) (v := .ref q48) hx hb hts ws_a57_X2_fill_0 hown hh 2 rfl rfl 1 (by decide) (hts _ (wo_a57_X2_fill_in _ (List.mem_of_getElem? (i := 0) rfl))) rfl dX2_fill_48 ?_
    refine lv_iload_n hx hb dX2_fill_51 rfl (lv_at hl 0 rfl) ?_
    refine k_iald (v := 0) hx hb hh 0 1 rfl rfl (vp_in_nI hi (by decide)) rfl dX2_fill_52 ?_
    refine k_callS (wr := [(q48, .inl (y50, 748, .inl (fun _ => 0))), (q49, .inl (y51, 0, .inl (fun _ => 0))), (q47, .inr (7, [.int 120, .ref q48, .ref q40, .ref q40, .int 0, .int 0, .int 0, .ref q49, .int (nI (2 * i))])), (q40, .inl (y42, 374, .inl (fun _ => 0)))]) (rest := [.int (nI (2 * i)), .ref q47]) (own := RX2) ⟨hx, hb, hml, hown, hts⟩ (a12_X2_widthOf l hst D e0  ) (va_cwS 1 hts gi_a57_X2_fill_2 rfl rfl rfl (by decide +kernel) ⟨Nat.le_of_ble_eq_true rfl, Nat.le_of_ble_eq_true rfl⟩) hh [] [0, 1, 2, 3] [] rfl rfl rfl rfl (by decide) rfl rfl hl rfl (Nat.le_of_ble_eq_true rfl) dX2_fill_53 ⟨Nat.le_of_ble_eq_true rfl, (Nat.le_of_ble_eq_true rfl)⟩ (fun _ _ _ _ _ h => h.elim) (fun v w ty1 H locs hp hh => ?_)
    obtain ⟨rfl, rfl, rfl⟩ := hp
    have hh : kH D kStr e0 A s H [(q48, .inl (y50, 748, .inl (fun _ => 0))), (q49, .inl (y51, 0, .inl (fun _ => 0))), (q47, .inr (7, [.int 120, .ref q48, .ref q40, .ref q40, .int 0, .int 0, .int 0, .ref q49, .int (nI (2 * i))])), (q40, .inl (y42, 374, .inl (fun _ => 0)))] [(y42, .int), (y50, .int), (y51, .int), (y42, .int)] _ := hh
    refine W.eq (g2 := F0 m 56 ls [.int 2, .int (nI (2 * i)), .ref q47]) (by first | rfl | decide) ?_
    refine lv_iadd hx hb dX2_fill_56 ?_
    refine W.eq (g2 := F0 m 57 ls [.int (nI (2 * (i + 1))), .ref q47]) (congrArg (fun z9 : Int32 => F0 m 57 ls (.int z9 :: [.ref q47])) (show (nI (2 * i)) + 2 = (nI (2 * (i + 1))) from nI_add (2 * i) 2)) ?_
    refine k_put (C := RX2) (T := TX2) (N := 9) (ci := 7) (v := .int (nI (2 * (i + 1)))) (ws' := [(q48, .inl (y50, 748, .inl (fun _ => 0))), (q49, .inl (y51, 0, .inl (fun _ => 0))), (q47, .inr (7, [.int 120, .ref q48, .ref q40, .ref q40, .int 0, .int 0, .int 0, .ref q49, .int (nI (2 * (i + 1)))])), (q40, .inl (y42, 374, .inl (fun _ => 0)))]) hx hb hts ws_a57_X2_fill_0 tyX2 tyX2_ok nmX2 hown hh 2 rfl rfl 8 (by decide) (hts _ (wo_a57_X2_fill_in _ (List.mem_of_getElem? (i := 2) rfl))) rfl rfl rfl (Nat.le_of_ble_eq_true rfl) dX2_fill_57 rfl (fun H locs hh => ?_)
    refine lv_iinc (v := (nI (i + 1))) (lv' := [(1, .int (nI (i + 1))), (0, .ref q47)]) hx hb dX2_fill_60 hl (k := 0) rfl (nI_1 i) (by decide) rfl (fun ls hl => ?_)
    refine lv_goto (tgt := 2) hx hb dX2_fill_63 (by decide) ?_
    exact ih (i + 1) _ _ _ (by omega) (hh.sub [2, 0, 3, 1] [0, 1, 2] rfl rfl rfl) (lv_sub hl [0, 1] rfl)
set_option maxHeartbeats 4000000 in
set_option maxRecDepth 100000 in
theorem a57_X2_fill (l : Launch) (hst : l.stackTraces = false) (D : va_G) (e0 : kE) (q47 : Nat) (q48 : Nat) (q40 : Nat) (q49 : Nat) (y50 : ClassId) (y42 : ClassId) (y51 : ClassId)  : kM l yX2_fill wk_a57_X2_fill 2 49 0 0 D kStr e0 [(y42, .int), (y50, .int), (y51, .int)] [(q47, .inr (7, [.int 120, .ref q48, .ref q40, .ref q40, .int 0, .int 0, .int 0, .ref q49, .int 0])), (q48, .inl (y50, 748, .inl (fun _ => 0))), (q40, .inl (y42, 374, .inl (fun _ => 0))), (q49, .inl (y51, 0, .inl (fun _ => 0)))] [.ref q47] (fun v w t => v = none ∧ w = [(q47, .inr (7, [.int 120, .ref q48, .ref q40, .ref q40, .int 0, .int 0, .int 0, .ref q49, .int 1496])), (q48, .inl (y50, 748, .inl (fun _ => 0))), (q40, .inl (y42, 374, .inl (fun _ => 0))), (q49, .inl (y51, 0, .inl (fun _ => 0)))] ∧ t = [(y50, .int), (y42, .int), (y51, .int)]) (fun _ => False) := by
  refine k_of (cc := cX2_fill) (maxL := 2) (ret := none) (by decide) rfl (Nat.le_of_ble_eq_true rfl) ?_
  intro p e s m args below meth c A ls hx hb hr hts hown hlocks hml hex hh hl
  have hown : s.vm.findClass RX2 = some m.cls := hown
  have hl : lv_has ls 2 [(0, .ref q47)] := hl
  refine lv_iconst (v := 0) hx hb dX2_fill_0 (by decide) ?_
  refine lv_istore_n (lv' := [(1, .int 0), (0, .ref q47)]) hx hb dX2_fill_1 rfl hl (by decide) rfl (fun ls hl => ?_)
  refine lp_a57_X2_fill l hst hx hb hts hown hml D e0 q47 q48 q40 q49 y50 y42 y51  (fun H locs ls hh hl => ?_) 748 0 _ _ _ (by omega) (hh.sub [0, 1, 2, 3] [0, 1, 2] rfl rfl rfl) (lv_sub hl [0, 1] rfl)
  have hh : kH D kStr e0 A s H [(q47, .inr (7, [.int 120, .ref q48, .ref q40, .ref q40, .int 0, .int 0, .int 0, .ref q49, .int 1496])), (q48, .inl (y50, 748, .inl (fun _ => 0))), (q40, .inl (y42, 374, .inl (fun _ => 0))), (q49, .inl (y51, 0, .inl (fun _ => 0)))] [(y42, .int), (y50, .int), (y51, .int)] _ := hh
  have hl : lv_has ls 2 [(1, .int (nI 748)), (0, .ref q47)] := hl
  exact k_endv hx hb hr hlocks hh ⟨rfl, rfl, rfl⟩ [0, 1, 2, 3] [1, 0, 2] rfl rfl rfl (Nat.le_of_ble_eq_true rfl) (Nat.le_of_ble_eq_true rfl) dX2_fill_66
def wo_a58_X6_keep : List Cond := [Cond.fieldLink RX6 17 "Segueworks" "pieces" "[LSegueworks$Piece;", Cond.fieldLink RX6 340 "Segueworks" "pieceCount" "I"]
def wk_a58_X6_keep : List Cond := Cond.code yX6_keep cX6_keep 2 (some .int) :: (wo_a58_X6_keep ++ ((wsV RX6 366 RX2 yX2_fill wk_a57_X2_fill) ++ (u_ws RX6 TX6 8)))
theorem wo_a58_X6_keep_in : ∀ w ∈ wo_a58_X6_keep, w ∈ wk_a58_X6_keep := fun w h => List.mem_cons_of_mem _ (List.mem_append_left _ h)
theorem gi_a58_X6_keep_0 : GoodIn wk_a58_X6_keep (wsV RX6 366 RX2 yX2_fill wk_a57_X2_fill) := fun w h => ⟨List.mem_cons_of_mem _ (List.mem_append_right _ (List.mem_append_left _ h)), good_of_word (kg_V gk_a57_X2_fill w h)⟩
theorem ws_a58_X6_keep_1 : ∀ w ∈ u_ws RX6 TX6 8, w ∈ wk_a58_X6_keep := fun w h => List.mem_cons_of_mem _ (List.mem_append_right _ (List.mem_append_right _ h))
theorem gk_a58_X6_keep : ∀ w ∈ wk_a58_X6_keep, goodWord w = true := List.forall_mem_cons.mpr ⟨rfl, (List.forall_mem_append.mpr ⟨(show ∀ w ∈ wo_a58_X6_keep, goodWord w = true by decide +kernel), (List.forall_mem_append.mpr ⟨(kg_V gk_a57_X2_fill), (show ∀ w ∈ u_ws RX6 TX6 8, goodWord w = true by decide +kernel)⟩)⟩)⟩
set_option maxHeartbeats 4000000 in
set_option maxRecDepth 100000 in
theorem a58_X6_keep (l : Launch) (hst : l.stackTraces = false) (D : va_G) (e0 : kE) (q1 : Nat) (q47 : Nat) (q2 : Nat) (q3 : Nat) (q4 : Nat) (q5 : Nat) (q6 : Nat) (q48 : Nat) (q40 : Nat) (q49 : Nat) (y7 : ClassId) (q29 : Nat) (q39 : Nat) (y50 : ClassId) (y42 : ClassId) (y51 : ClassId)  : kM l yX6_keep wk_a58_X6_keep 3 70 0 0 D kStr e0 [(y7, .object "Segueworks$Piece"), (y42, .int), (y50, .int), (y51, .int)] [(q1, .inr (11, [.ref q2, .int 0, .ref q3, .int 2, .ref q4, .ref q5, .ref q6, .int 0])), (q47, .inr (7, [.int 120, .ref q48, .ref q40, .ref q40, .int 0, .int 0, .int 0, .ref q49, .int 0])), (q3, .inl (y7, 24, .inr (.inr (.inr (.inr (va_up ((va_up ((fun _ => none)) (0 : Int32).toNatClampNeg (some q29))) (1 : Int32).toNatClampNeg (some q39))))))), (q48, .inl (y50, 748, .inl (fun _ => 0))), (q40, .inl (y42, 374, .inl (fun _ => 0))), (q49, .inl (y51, 0, .inl (fun _ => 0)))] [.ref q1, .ref q47] (fun v w t => v = some (.int 2) ∧ w = [(q1, .inr (11, [.ref q2, .int 0, .ref q3, .int 3, .ref q4, .ref q5, .ref q6, .int 0])), (q47, .inr (7, [.int 120, .ref q48, .ref q40, .ref q40, .int 0, .int 0, .int 0, .ref q49, .int 1496])), (q3, .inl (y7, 24, .inr (.inr (.inr (.inr (va_up ((va_up ((va_up ((fun _ => none)) (0 : Int32).toNatClampNeg (some q29))) (1 : Int32).toNatClampNeg (some q39))) (2 : Int32).toNatClampNeg (some q47))))))), (q48, .inl (y50, 748, .inl (fun _ => 0))), (q40, .inl (y42, 374, .inl (fun _ => 0))), (q49, .inl (y51, 0, .inl (fun _ => 0)))] ∧ t = [(y7, .object "Segueworks$Piece"), (y50, .int), (y42, .int), (y51, .int)]) (fun _ => False) := by
  refine k_of (cc := cX6_keep) (maxL := 2) (ret := (some .int)) (by decide) rfl (Nat.le_of_ble_eq_true rfl) ?_
  intro p e s m args below meth c A ls hx hb hr hts hown hlocks hml hex hh hl
  have hown : s.vm.findClass RX6 = some m.cls := hown
  have hl : lv_has ls 2 [(0, .ref q1), (1, .ref q47)] := hl
  refine lv_aload_n hx hb dX6_keep_0 rfl (lv_at hl 1 rfl) ?_
  refine k_callV (C := RX2) (T := TX2) (N := 9) (ci := 7) (q0 := 1) (wr := [(q1, .inr (11, [.ref q2, .int 0, .ref q3, .int 2, .ref q4, .ref q5, .ref q6, .int 0])), (q3, .inl (y7, 24, .inr (.inr (.inr (.inr (va_up ((va_up ((fun _ => none)) (0 : Int32).toNatClampNeg (some q29))) (1 : Int32).toNatClampNeg (some q39)))))))]) (rest := []) (own := RX6) ⟨hx, hb, hml, hown, hts⟩ (a57_X2_fill l hst D e0 q47 q48 q40 q49 y50 y42 y51 ) (cwV 0 hts gi_a58_X6_keep_0 rfl rfl rfl (by decide +kernel) ⟨Nat.le_of_ble_eq_true rfl, Nat.le_of_ble_eq_true rfl⟩) hh rfl rfl [1, 3, 4, 5] [0, 2] [1, 2, 3] rfl rfl rfl rfl (by decide) rfl rfl hl rfl (Nat.le_of_ble_eq_true rfl) dX6_keep_1 ⟨Nat.le_of_ble_eq_true rfl, (Nat.le_of_ble_eq_true rfl)⟩ (fun _ _ _ _ _ h => h.elim) (fun v w ty1 H locs hp hh => ?_)
  obtain ⟨rfl, rfl, rfl⟩ := hp
  have hh : kH D kStr e0 A s H [(q1, .inr (11, [.ref q2, .int 0, .ref q3, .int 2, .ref q4, .ref q5, .ref q6, .int 0])), (q3, .inl (y7, 24, .inr (.inr (.inr (.inr (va_up ((va_up ((fun _ => none)) (0 : Int32).toNatClampNeg (some q29))) (1 : Int32).toNatClampNeg (some q39))))))), (q47, .inr (7, [.int 120, .ref q48, .ref q40, .ref q40, .int 0, .int 0, .int 0, .ref q49, .int 1496])), (q48, .inl (y50, 748, .inl (fun _ => 0))), (q40, .inl (y42, 374, .inl (fun _ => 0))), (q49, .inl (y51, 0, .inl (fun _ => 0)))] [(y7, .object "Segueworks$Piece"), (y42, .int), (y50, .int), (y51, .int), (y50, .int), (y42, .int), (y51, .int)] _ := hh
  refine W.eq (g2 := F0 m 4 ls []) (by first | rfl | decide) ?_
  refine lv_aload_n hx hb dX6_keep_4 rfl (lv_at hl 0 rfl) ?_
  refine k_get (C := RX6) (T := TX6) (N := 8) (ci := 11) (v := .ref q3) hx hb hts ws_a58_X6_keep_1 hown hh 0 rfl rfl 2 (by decide) (hts _ (wo_a58_X6_keep_in _ (List.mem_of_getElem? (i := 0) rfl))) rfl dX6_keep_5 ?_
  refine lv_aload_n hx hb dX6_keep_8 rfl (lv_at hl 0 rfl) ?_
  refine k_get (C := RX6) (T := TX6) (N := 8) (ci := 11) (v := .int 2) hx hb hts ws_a58_X6_keep_1 hown hh 0 rfl rfl 3 (by decide) (hts _ (wo_a58_X6_keep_in _ (List.mem_of_getElem? (i := 1) rfl))) rfl dX6_keep_9 ?_
  refine lv_aload_n hx hb dX6_keep_12 rfl (lv_at hl 1 rfl) ?_
  refine k_astq (ws' := [(q1, .inr (11, [.ref q2, .int 0, .ref q3, .int 2, .ref q4, .ref q5, .ref q6, .int 0])), (q3, .inl (y7, 24, .inr (.inr (.inr (.inr (va_up ((va_up ((va_up ((fun _ => none)) (0 : Int32).toNatClampNeg (some q29))) (1 : Int32).toNatClampNeg (some q39))) (2 : Int32).toNatClampNeg (some q47))))))), (q47, .inr (7, [.int 120, .ref q48, .ref q40, .ref q40, .int 0, .int 0, .int 0, .ref q49, .int 1496])), (q48, .inl (y50, 748, .inl (fun _ => 0))), (q40, .inl (y42, 374, .inl (fun _ => 0))), (q49, .inl (y51, 0, .inl (fun _ => 0)))]) hx hb hh 1 0 2 7 rfl rfl rfl rfl (by unfold vp_in; decide) dX6_keep_13 rfl (fun H locs hh => ?_)
  refine lv_aload_n hx hb dX6_keep_14 rfl (lv_at hl 0 rfl) ?_
  refine lv_dup hx hb dX6_keep_15 rfl ?_
  refine k_get (C := RX6) (T := TX6) (N := 8) (ci := 11) (v := .int 2) hx hb hts ws_a58_X6_keep_1 hown hh 0 rfl rfl 3 (by decide) (hts _ (wo_a58_X6_keep_in _ (List.mem_of_getElem? (i := 1) rfl))) rfl dX6_keep_16 ?_
  refine lv_iconst (v := 1) hx hb dX6_keep_19 (by decide) ?_
  refine lv_iadd hx hb dX6_keep_20 ?_
  refine W.eq (g2 := F0 m 21 ls [.int 3, .ref q1]) (by first | rfl | decide) ?_
  refine k_put (C := RX6) (T := TX6) (N := 8) (ci := 11) (v := .int 3) (ws' := [(q1, .inr (11, [.ref q2, .int 0, .ref q3, .int 3, .ref q4, .ref q5, .ref q6, .int 0])), (q3, .inl (y7, 24, .inr (.inr (.inr (.inr (va_up ((va_up ((va_up ((fun _ => none)) (0 : Int32).toNatClampNeg (some q29))) (1 : Int32).toNatClampNeg (some q39))) (2 : Int32).toNatClampNeg (some q47))))))), (q47, .inr (7, [.int 120, .ref q48, .ref q40, .ref q40, .int 0, .int 0, .int 0, .ref q49, .int 1496])), (q48, .inl (y50, 748, .inl (fun _ => 0))), (q40, .inl (y42, 374, .inl (fun _ => 0))), (q49, .inl (y51, 0, .inl (fun _ => 0)))]) hx hb hts ws_a58_X6_keep_1 tyX6 tyX6_ok nmX6 hown hh 0 rfl rfl 3 (by decide) (hts _ (wo_a58_X6_keep_in _ (List.mem_of_getElem? (i := 1) rfl))) rfl rfl rfl (Nat.le_of_ble_eq_true rfl) dX6_keep_21 rfl (fun H locs hh => ?_)
  refine lv_aload_n hx hb dX6_keep_24 rfl (lv_at hl 0 rfl) ?_
  refine k_get (C := RX6) (T := TX6) (N := 8) (ci := 11) (v := .int 3) hx hb hts ws_a58_X6_keep_1 hown hh 0 rfl rfl 3 (by decide) (hts _ (wo_a58_X6_keep_in _ (List.mem_of_getElem? (i := 1) rfl))) rfl dX6_keep_25 ?_
  refine lv_iconst (v := 1) hx hb dX6_keep_28 (by decide) ?_
  refine lv_isub hx hb dX6_keep_29 ?_
  refine W.eq (g2 := F0 m 30 ls [.int 2]) (by first | rfl | decide) ?_
  exact k_endi hx hb hr hlocks hh ⟨rfl, rfl, rfl⟩ [0, 2, 1, 3, 4, 5] [0, 2, 1, 3] rfl rfl rfl (Nat.le_of_ble_eq_true rfl) (Nat.le_of_ble_eq_true rfl) dX6_keep_30
def wo_a59_X6_splice : List Cond := [Cond.fieldLink RX6 103 "Segueworks$Piece" "samples" "[I", Cond.methodLink RX6 104 Lib.Math.min.name, Cond.static Lib.Math.min.name, Cond.initialized "java/lang/Math", Cond.code Lib.Math.min.name Lib.Math.min.code 2 (some .int), Cond.classLink RX6 15 RX2, Cond.instantiable RX2 9, Cond.initialized RX2, Cond.methodLink RX6 92 yX2_init, Cond.instanceMethod yX2_init]
def wk_a59_X6_splice : List Cond := Cond.code yX6_splice cX6_splice 7 (some .int) :: (wo_a59_X6_splice ++ ((wsV RX6 99 RX6 yX6_knownPiece wk_a52_X6_knownPiece) ++ ((u_ws RX2 TX2 9) ++ ((va_wsS RX6 57 yX6_needRange wk_a53_X6_needRange) ++ ((va_wsS RX6 110 yX6_needPieceLength wk_a54_X6_needPieceLength) ++ ((wsV RX6 85 RX6 yX6_needPieceRoom wk_a55_X6_needPieceRoom) ++ ((wk_a56_X2_init) ++ (wsV RX6 95 RX6 yX6_keep wk_a58_X6_keep))))))))
theorem wo_a59_X6_splice_in : ∀ w ∈ wo_a59_X6_splice, w ∈ wk_a59_X6_splice := fun w h => List.mem_cons_of_mem _ (List.mem_append_left _ h)
theorem gi_a59_X6_splice_0 : GoodIn wk_a59_X6_splice (wsV RX6 99 RX6 yX6_knownPiece wk_a52_X6_knownPiece) := fun w h => ⟨List.mem_cons_of_mem _ (List.mem_append_right _ (List.mem_append_left _ h)), good_of_word (kg_V gk_a52_X6_knownPiece w h)⟩
theorem ws_a59_X6_splice_1 : ∀ w ∈ u_ws RX2 TX2 9, w ∈ wk_a59_X6_splice := fun w h => List.mem_cons_of_mem _ (List.mem_append_right _ (List.mem_append_right _ (List.mem_append_left _ h)))
theorem gi_a59_X6_splice_2 : GoodIn wk_a59_X6_splice (va_wsS RX6 57 yX6_needRange wk_a53_X6_needRange) := fun w h => ⟨List.mem_cons_of_mem _ (List.mem_append_right _ (List.mem_append_right _ (List.mem_append_right _ (List.mem_append_left _ h)))), good_of_word (kg_S gk_a53_X6_needRange w h)⟩
theorem gi_a59_X6_splice_3 : GoodIn wk_a59_X6_splice (va_wsS RX6 110 yX6_needPieceLength wk_a54_X6_needPieceLength) := fun w h => ⟨List.mem_cons_of_mem _ (List.mem_append_right _ (List.mem_append_right _ (List.mem_append_right _ (List.mem_append_right _ (List.mem_append_left _ h))))), good_of_word (kg_S gk_a54_X6_needPieceLength w h)⟩
theorem gi_a59_X6_splice_4 : GoodIn wk_a59_X6_splice (wsV RX6 85 RX6 yX6_needPieceRoom wk_a55_X6_needPieceRoom) := fun w h => ⟨List.mem_cons_of_mem _ (List.mem_append_right _ (List.mem_append_right _ (List.mem_append_right _ (List.mem_append_right _ (List.mem_append_right _ (List.mem_append_left _ h)))))), good_of_word (kg_V gk_a55_X6_needPieceRoom w h)⟩
theorem gi_a59_X6_splice_5 : GoodIn wk_a59_X6_splice (wk_a56_X2_init) := fun w h => ⟨List.mem_cons_of_mem _ (List.mem_append_right _ (List.mem_append_right _ (List.mem_append_right _ (List.mem_append_right _ (List.mem_append_right _ (List.mem_append_right _ (List.mem_append_left _ h))))))), good_of_word (gk_a56_X2_init w h)⟩
theorem gi_a59_X6_splice_6 : GoodIn wk_a59_X6_splice (wsV RX6 95 RX6 yX6_keep wk_a58_X6_keep) := fun w h => ⟨List.mem_cons_of_mem _ (List.mem_append_right _ (List.mem_append_right _ (List.mem_append_right _ (List.mem_append_right _ (List.mem_append_right _ (List.mem_append_right _ (List.mem_append_right _ h))))))), good_of_word (kg_V gk_a58_X6_keep w h)⟩
theorem gk_a59_X6_splice : ∀ w ∈ wk_a59_X6_splice, goodWord w = true := List.forall_mem_cons.mpr ⟨rfl, (List.forall_mem_append.mpr ⟨(show ∀ w ∈ wo_a59_X6_splice, goodWord w = true by decide +kernel), (List.forall_mem_append.mpr ⟨(kg_V gk_a52_X6_knownPiece), (List.forall_mem_append.mpr ⟨(show ∀ w ∈ u_ws RX2 TX2 9, goodWord w = true by decide +kernel), (List.forall_mem_append.mpr ⟨(kg_S gk_a53_X6_needRange), (List.forall_mem_append.mpr ⟨(kg_S gk_a54_X6_needPieceLength), (List.forall_mem_append.mpr ⟨(kg_V gk_a55_X6_needPieceRoom), (List.forall_mem_append.mpr ⟨gk_a56_X2_init, (kg_V gk_a58_X6_keep)⟩)⟩)⟩)⟩)⟩)⟩)⟩)⟩
set_option maxHeartbeats 4000000 in
set_option maxRecDepth 100000 in
theorem a59_X6_splice (l : Launch) (hst : l.stackTraces = false) (D : va_G) (e0 : kE) (q1 : Nat) (q2 : Nat) (q3 : Nat) (q4 : Nat) (q5 : Nat) (q6 : Nat) (y7 : ClassId) (q29 : Nat) (q39 : Nat) (q40 : Nat) (q30 : Nat) (q41 : Nat) (y42 : ClassId)  : kM l yX6_splice wk_a59_X6_splice 4 91 3 757 D kStr e0 [(y7, .object "Segueworks$Piece"), (y42, .int)] [(q1, .inr (11, [.ref q2, .int 0, .ref q3, .int 2, .ref q4, .ref q5, .ref q6, .int 0])), (q3, .inl (y7, 24, .inr (.inr (.inr (.inr (va_up ((va_up ((fun _ => none)) (0 : Int32).toNatClampNeg (some q29))) (1 : Int32).toNatClampNeg (some q39))))))), (q39, .inr (7, [.int 120, .ref q40, .ref q30, .ref q30, .int 0, .int 0, .int 0, .ref q41, .int 748])), (q40, .inl (y42, 374, .inl (fun _ => 0)))] [.ref q1, .int 1, .int 1, .int 0] (fun v w t => ∃ (q47 : Nat), ∃ (q48 : Nat), ∃ (q49 : Nat), ∃ (y50 : ClassId), v = some (.int 2) ∧ w = [(q1, .inr (11, [.ref q2, .int 0, .ref q3, .int 3, .ref q4, .ref q5, .ref q6, .int 0])), (q3, .inl (y7, 24, .inr (.inr (.inr (.inr (va_up ((va_up ((va_up ((fun _ => none)) (0 : Int32).toNatClampNeg (some q29))) (1 : Int32).toNatClampNeg (some q39))) (2 : Int32).toNatClampNeg (some q47))))))), (q39, .inr (7, [.int 120, .ref q40, .ref q30, .ref q30, .int 0, .int 0, .int 0, .ref q41, .int 748])), (q40, .inl (y42, 374, .inl (fun _ => 0))), (q47, .inr (7, [.int 120, .ref q48, .ref q40, .ref q40, .int 0, .int 0, .int 0, .ref q49, .int 1496])), (q48, .inl (y50, 748, .inl (fun _ => 0)))] ∧ t = [(y7, .object "Segueworks$Piece"), (y42, .int), (y50, .int)]) (fun _ => False) := by
  refine k_of (cc := cX6_splice) (maxL := 7) (ret := (some .int)) (by decide) rfl (Nat.le_of_ble_eq_true rfl) ?_
  intro p e s m args below meth c A ls hx hb hr hts hown hlocks hml hex hh hl
  have hown : s.vm.findClass RX6 = some m.cls := hown
  have hl : lv_has ls 7 [(0, .ref q1), (1, .int 1), (2, .int 1), (3, .int 0)] := hl
  refine lv_aload_n hx hb dX6_splice_0 rfl (lv_at hl 0 rfl) ?_
  refine lv_iload_n hx hb dX6_splice_1 rfl (lv_at hl 1 rfl) ?_
  refine k_callV (C := RX6) (T := TX6) (N := 8) (ci := 11) (q0 := 0) (wr := [(q39, .inr (7, [.int 120, .ref q40, .ref q30, .ref q30, .int 0, .int 0, .int 0, .ref q41, .int 748])), (q40, .inl (y42, 374, .inl (fun _ => 0)))]) (rest := []) (own := RX6) ⟨hx, hb, hml, hown, hts⟩ (a52_X6_knownPiece l hst D e0 q1 q2 q3 q4 q5 q6 y7 q29 q39 ) (cwV 1 hts gi_a59_X6_splice_0 rfl rfl rfl (by decide +kernel) ⟨Nat.le_of_ble_eq_true rfl, Nat.le_of_ble_eq_true rfl⟩) hh rfl rfl [0, 1] [2, 3] [0] rfl rfl rfl rfl (by decide) rfl rfl hl rfl (Nat.le_of_ble_eq_true rfl) dX6_splice_2 ⟨Nat.le_of_ble_eq_true rfl, (Nat.le_of_ble_eq_true rfl)⟩ (fun _ _ _ _ _ h => h.elim) (fun v w ty1 H locs hp hh => ?_)
  obtain ⟨rfl, rfl, rfl⟩ := hp
  have hh : kH D kStr e0 A s H [(q39, .inr (7, [.int 120, .ref q40, .ref q30, .ref q30, .int 0, .int 0, .int 0, .ref q41, .int 748])), (q40, .inl (y42, 374, .inl (fun _ => 0))), (q1, .inr (11, [.ref q2, .int 0, .ref q3, .int 2, .ref q4, .ref q5, .ref q6, .int 0])), (q3, .inl (y7, 24, .inr (.inr (.inr (.inr (va_up ((va_up ((fun _ => none)) (0 : Int32).toNatClampNeg (some q29))) (1 : Int32).toNatClampNeg (some q39)))))))] [(y7, .object "Segueworks$Piece"), (y42, .int), (y7, .object "Segueworks$Piece")] _ := hh
  refine W.eq (g2 := F0 m 5 ls [.ref q39]) (by first | rfl | decide) ?_
  refine k_get (C := RX2) (T := TX2) (N := 9) (ci := 7) (v := .ref q40) hx hb hts ws_a59_X6_splice_1 hown hh 0 rfl rfl 1 (by decide) (hts _ (wo_a59_X6_splice_in _ (List.mem_of_getElem? (i := 0) rfl))) rfl dX6_splice_5 ?_
  refine lv_astore (lv' := [(4, .ref q40), (0, .ref q1), (1, .int 1), (2, .int 1), (3, .int 0)]) hx hb dX6_splice_8 hl (by decide) rfl (fun ls hl => ?_)
  refine lv_aload_n hx hb dX6_splice_10 rfl (lv_at hl 1 rfl) ?_
  refine lv_iload_n hx hb dX6_splice_11 rfl (lv_at hl 3 rfl) ?_
  refine k_callV (C := RX6) (T := TX6) (N := 8) (ci := 11) (q0 := 2) (wr := [(q39, .inr (7, [.int 120, .ref q40, .ref q30, .ref q30, .int 0, .int 0, .int 0, .ref q41, .int 748])), (q40, .inl (y42, 374, .inl (fun _ => 0)))]) (rest := []) (own := RX6) ⟨hx, hb, hml, hown, hts⟩ (a52_X6_knownPiece l hst D e0 q1 q2 q3 q4 q5 q6 y7 q29 q39 ) (cwV 1 hts gi_a59_X6_splice_0 rfl rfl rfl (by decide +kernel) ⟨Nat.le_of_ble_eq_true rfl, Nat.le_of_ble_eq_true rfl⟩) hh rfl rfl [2, 3] [0, 1] [0] rfl rfl rfl rfl (by decide) rfl rfl hl rfl (Nat.le_of_ble_eq_true rfl) dX6_splice_12 ⟨Nat.le_of_ble_eq_true rfl, (Nat.le_of_ble_eq_true rfl)⟩ (fun _ _ _ _ _ h => h.elim) (fun v w ty1 H locs hp hh => ?_)
  obtain ⟨rfl, rfl, rfl⟩ := hp
  have hh : kH D kStr e0 A s H [(q39, .inr (7, [.int 120, .ref q40, .ref q30, .ref q30, .int 0, .int 0, .int 0, .ref q41, .int 748])), (q40, .inl (y42, 374, .inl (fun _ => 0))), (q1, .inr (11, [.ref q2, .int 0, .ref q3, .int 2, .ref q4, .ref q5, .ref q6, .int 0])), (q3, .inl (y7, 24, .inr (.inr (.inr (.inr (va_up ((va_up ((fun _ => none)) (0 : Int32).toNatClampNeg (some q29))) (1 : Int32).toNatClampNeg (some q39)))))))] [(y7, .object "Segueworks$Piece"), (y42, .int), (y7, .object "Segueworks$Piece"), (y7, .object "Segueworks$Piece")] _ := hh
  refine W.eq (g2 := F0 m 15 ls [.ref q39]) (by first | rfl | decide) ?_
  refine k_get (C := RX2) (T := TX2) (N := 9) (ci := 7) (v := .ref q40) hx hb hts ws_a59_X6_splice_1 hown hh 0 rfl rfl 1 (by decide) (hts _ (wo_a59_X6_splice_in _ (List.mem_of_getElem? (i := 0) rfl))) rfl dX6_splice_15 ?_
  refine lv_astore (lv' := [(5, .ref q40), (4, .ref q40), (0, .ref q1), (1, .int 1), (2, .int 1), (3, .int 0)]) hx hb dX6_splice_18 hl (by decide) rfl (fun ls hl => ?_)
  refine lv_iload_n hx hb dX6_splice_20 rfl (lv_at hl 5 rfl) ?_
  refine lv_iconst (v := 0) hx hb dX6_splice_21 (by decide) ?_
  refine lv_aload hx hb dX6_splice_22 (lv_at hl 1 rfl) ?_
  refine k_alen (v := 374) hx hb hh 1 1 rfl rfl rfl dX6_splice_24 ?_
  refine lv_aload hx hb dX6_splice_25 (lv_at hl 0 rfl) ?_
  refine k_alen (v := 374) hx hb hh 1 1 rfl rfl rfl dX6_splice_27 ?_
  refine va_mmin hx hb (by rw [hml]; exact hl.1.symm) hown (hts _ (wo_a59_X6_splice_in _ (List.mem_of_getElem? (i := 1) rfl))) (hts _ (wo_a59_X6_splice_in _ (List.mem_of_getElem? (i := 2) rfl))) (hts _ (wo_a59_X6_splice_in _ (List.mem_of_getElem? (i := 3) rfl))) (hts _ (wo_a59_X6_splice_in _ (List.mem_of_getElem? (i := 4) rfl))) (Nat.le_of_ble_eq_true rfl) (Nat.le_of_ble_eq_true rfl) (Nat.le_of_ble_eq_true rfl) (Nat.le_of_ble_eq_true rfl) dX6_splice_28 ?_
  refine W.eq (g2 := F0 m 31 ls [.int 374, .int 0, .int 0]) (by first | rfl | decide) ?_
  refine k_callS (wr := [(q39, .inr (7, [.int 120, .ref q40, .ref q30, .ref q30, .int 0, .int 0, .int 0, .ref q41, .int 748])), (q40, .inl (y42, 374, .inl (fun _ => 0))), (q1, .inr (11, [.ref q2, .int 0, .ref q3, .int 2, .ref q4, .ref q5, .ref q6, .int 0])), (q3, .inl (y7, 24, .inr (.inr (.inr (.inr (va_up ((va_up ((fun _ => none)) (0 : Int32).toNatClampNeg (some q29))) (1 : Int32).toNatClampNeg (some q39)))))))]) (rest := []) (own := RX6) ⟨hx, hb, hml, hown, hts⟩ (a53_X6_needRange l hst D e0  ) (va_cwS 3 hts gi_a59_X6_splice_2 rfl rfl rfl (by decide +kernel) ⟨Nat.le_of_ble_eq_true rfl, Nat.le_of_ble_eq_true rfl⟩) hh [] [0, 1, 2, 3] [] rfl rfl rfl rfl (by decide) rfl rfl hl rfl (Nat.le_of_ble_eq_true rfl) dX6_splice_31 ⟨Nat.le_of_ble_eq_true rfl, (Nat.le_of_ble_eq_true rfl)⟩ (fun _ _ _ _ _ h => h.elim) (fun v w ty1 H locs hp hh => ?_)
  obtain ⟨rfl, rfl, rfl⟩ := hp
  have hh : kH D kStr e0 A s H [(q39, .inr (7, [.int 120, .ref q40, .ref q30, .ref q30, .int 0, .int 0, .int 0, .ref q41, .int 748])), (q40, .inl (y42, 374, .inl (fun _ => 0))), (q1, .inr (11, [.ref q2, .int 0, .ref q3, .int 2, .ref q4, .ref q5, .ref q6, .int 0])), (q3, .inl (y7, 24, .inr (.inr (.inr (.inr (va_up ((va_up ((fun _ => none)) (0 : Int32).toNatClampNeg (some q29))) (1 : Int32).toNatClampNeg (some q39)))))))] [(y7, .object "Segueworks$Piece"), (y42, .int), (y7, .object "Segueworks$Piece"), (y7, .object "Segueworks$Piece")] _ := hh
  refine W.eq (g2 := F0 m 34 ls []) (by first | rfl | decide) ?_
  refine lv_aload hx hb dX6_splice_34 (lv_at hl 1 rfl) ?_
  refine k_alen (v := 374) hx hb hh 1 1 rfl rfl rfl dX6_splice_36 ?_
  refine lv_aload hx hb dX6_splice_37 (lv_at hl 0 rfl) ?_
  refine k_alen (v := 374) hx hb hh 1 1 rfl rfl rfl dX6_splice_39 ?_
  refine lv_iadd hx hb dX6_splice_40 ?_
  refine W.eq (g2 := F0 m 41 ls [.int 748]) (by first | rfl | decide) ?_
  refine lv_iload_n hx hb dX6_splice_41 rfl (lv_at hl 5 rfl) ?_
  refine lv_isub hx hb dX6_splice_42 ?_
  refine W.eq (g2 := F0 m 43 ls [.int 748]) (by first | rfl | decide) ?_
  refine lv_istore (lv' := [(6, .int 748), (5, .ref q40), (4, .ref q40), (0, .ref q1), (1, .int 1), (2, .int 1), (3, .int 0)]) hx hb dX6_splice_43 hl (by decide) rfl (fun ls hl => ?_)
  refine lv_iload hx hb dX6_splice_45 (lv_at hl 0 rfl) ?_
  refine k_callS (wr := [(q39, .inr (7, [.int 120, .ref q40, .ref q30, .ref q30, .int 0, .int 0, .int 0, .ref q41, .int 748])), (q40, .inl (y42, 374, .inl (fun _ => 0))), (q1, .inr (11, [.ref q2, .int 0, .ref q3, .int 2, .ref q4, .ref q5, .ref q6, .int 0])), (q3, .inl (y7, 24, .inr (.inr (.inr (.inr (va_up ((va_up ((fun _ => none)) (0 : Int32).toNatClampNeg (some q29))) (1 : Int32).toNatClampNeg (some q39)))))))]) (rest := []) (own := RX6) ⟨hx, hb, hml, hown, hts⟩ (a54_X6_needPieceLength l hst D e0  ) (va_cwS 1 hts gi_a59_X6_splice_3 rfl rfl rfl (by decide +kernel) ⟨Nat.le_of_ble_eq_true rfl, Nat.le_of_ble_eq_true rfl⟩) hh [] [0, 1, 2, 3] [] rfl rfl rfl rfl (by decide) rfl rfl hl rfl (Nat.le_of_ble_eq_true rfl) dX6_splice_47 ⟨Nat.le_of_ble_eq_true rfl, (Nat.le_of_ble_eq_true rfl)⟩ (fun _ _ _ _ _ h => h.elim) (fun v w ty1 H locs hp hh => ?_)
  obtain ⟨rfl, rfl, rfl⟩ := hp
  have hh : kH D kStr e0 A s H [(q39, .inr (7, [.int 120, .ref q40, .ref q30, .ref q30, .int 0, .int 0, .int 0, .ref q41, .int 748])), (q40, .inl (y42, 374, .inl (fun _ => 0))), (q1, .inr (11, [.ref q2, .int 0, .ref q3, .int 2, .ref q4, .ref q5, .ref q6, .int 0])), (q3, .inl (y7, 24, .inr (.inr (.inr (.inr (va_up ((va_up ((fun _ => none)) (0 : Int32).toNatClampNeg (some q29))) (1 : Int32).toNatClampNeg (some q39)))))))] [(y7, .object "Segueworks$Piece"), (y42, .int), (y7, .object "Segueworks$Piece"), (y7, .object "Segueworks$Piece")] _ := hh
  refine W.eq (g2 := F0 m 50 ls []) (by first | rfl | decide) ?_
  refine lv_aload_n hx hb dX6_splice_50 rfl (lv_at hl 3 rfl) ?_
  refine k_callV (C := RX6) (T := TX6) (N := 8) (ci := 11) (q0 := 2) (wr := [(q39, .inr (7, [.int 120, .ref q40, .ref q30, .ref q30, .int 0, .int 0, .int 0, .ref q41, .int 748])), (q40, .inl (y42, 374, .inl (fun _ => 0))), (q3, .inl (y7, 24, .inr (.inr (.inr (.inr (va_up ((va_up ((fun _ => none)) (0 : Int32).toNatClampNeg (some q29))) (1 : Int32).toNatClampNeg (some q39)))))))]) (rest := []) (own := RX6) ⟨hx, hb, hml, hown, hts⟩ (a55_X6_needPieceRoom l hst D e0 q1 q2 q3 q4 q5 q6 ) (cwV 0 hts gi_a59_X6_splice_4 rfl rfl rfl (by decide +kernel) ⟨Nat.le_of_ble_eq_true rfl, Nat.le_of_ble_eq_true rfl⟩) hh rfl rfl [2] [0, 1, 3] [] rfl rfl rfl rfl (by decide) rfl rfl hl rfl (Nat.le_of_ble_eq_true rfl) dX6_splice_51 ⟨Nat.le_of_ble_eq_true rfl, (Nat.le_of_ble_eq_true rfl)⟩ (fun _ _ _ _ _ h => h.elim) (fun v w ty1 H locs hp hh => ?_)
  obtain ⟨rfl, rfl, rfl⟩ := hp
  have hh : kH D kStr e0 A s H [(q39, .inr (7, [.int 120, .ref q40, .ref q30, .ref q30, .int 0, .int 0, .int 0, .ref q41, .int 748])), (q40, .inl (y42, 374, .inl (fun _ => 0))), (q3, .inl (y7, 24, .inr (.inr (.inr (.inr (va_up ((va_up ((fun _ => none)) (0 : Int32).toNatClampNeg (some q29))) (1 : Int32).toNatClampNeg (some q39))))))), (q1, .inr (11, [.ref q2, .int 0, .ref q3, .int 2, .ref q4, .ref q5, .ref q6, .int 0]))] [(y7, .object "Segueworks$Piece"), (y42, .int), (y7, .object "Segueworks$Piece"), (y7, .object "Segueworks$Piece")] _ := hh
  refine W.eq (g2 := F0 m 54 ls []) (by first | rfl | decide) ?_
  refine lv_aload_n hx hb dX6_splice_54 rfl (lv_at hl 3 rfl) ?_
  refine k_new (C := RX2) (T := TX2) (N := 9) (ci := 7) (fs := [.int 0, .null, .null, .null, .int 0, .int 0, .int 0, .null, .int 0]) hx hb hts ws_a59_X6_splice_1 tyX2 tyX2_ok hown (hts _ (wo_a59_X6_splice_in _ (List.mem_of_getElem? (i := 5) rfl))) (hts _ (wo_a59_X6_splice_in _ (List.mem_of_getElem? (i := 6) rfl))) (hts _ (wo_a59_X6_splice_in _ (List.mem_of_getElem? (i := 7) rfl))) hh rfl (fun j hj => by rcases (show j = 0 ∨ j = 1 ∨ j = 2 ∨ j = 3 ∨ j = 4 ∨ j = 5 ∨ j = 6 ∨ j = 7 ∨ j = 8 by omega) with rfl | rfl | rfl | rfl | rfl | rfl | rfl | rfl | rfl <;> rfl) (Nat.le_of_ble_eq_true rfl) (Nat.le_of_ble_eq_true rfl) dX6_splice_55 (fun q47 H hh => ?_)
  have hh : kH D kStr e0 A s H [(q39, .inr (7, [.int 120, .ref q40, .ref q30, .ref q30, .int 0, .int 0, .int 0, .ref q41, .int 748])), (q40, .inl (y42, 374, .inl (fun _ => 0))), (q3, .inl (y7, 24, .inr (.inr (.inr (.inr (va_up ((va_up ((fun _ => none)) (0 : Int32).toNatClampNeg (some q29))) (1 : Int32).toNatClampNeg (some q39))))))), (q1, .inr (11, [.ref q2, .int 0, .ref q3, .int 2, .ref q4, .ref q5, .ref q6, .int 0])), (q47, .inr (7, [.int 0, .null, .null, .null, .int 0, .int 0, .int 0, .null, .int 0]))] [(y7, .object "Segueworks$Piece"), (y42, .int), (y7, .object "Segueworks$Piece"), (y7, .object "Segueworks$Piece")] _ := hh
  refine lv_dup hx hb dX6_splice_58 rfl ?_
  refine lv_bipush (v := 120) hx hb dX6_splice_59 (by decide) ?_
  refine lv_iload hx hb dX6_splice_61 (lv_at hl 0 rfl) ?_
  refine lv_aload hx hb dX6_splice_63 (lv_at hl 2 rfl) ?_
  refine lv_aload hx hb dX6_splice_65 (lv_at hl 1 rfl) ?_
  refine lv_iload_n hx hb dX6_splice_67 rfl (lv_at hl 6 rfl) ?_
  refine lv_iconst (v := 0) hx hb dX6_splice_68 (by decide) ?_
  refine lv_iconst (v := 0) hx hb dX6_splice_69 (by decide) ?_
  refine k_callI (wr := [(q39, .inr (7, [.int 120, .ref q40, .ref q30, .ref q30, .int 0, .int 0, .int 0, .ref q41, .int 748])), (q40, .inl (y42, 374, .inl (fun _ => 0))), (q3, .inl (y7, 24, .inr (.inr (.inr (.inr (va_up ((va_up ((fun _ => none)) (0 : Int32).toNatClampNeg (some q29))) (1 : Int32).toNatClampNeg (some q39))))))), (q1, .inr (11, [.ref q2, .int 0, .ref q3, .int 2, .ref q4, .ref q5, .ref q6, .int 0]))]) (rest := [.ref q47, .ref q1]) (own := RX6) ⟨hx, hb, hml, hown, hts⟩ (a56_X2_init l hst D e0 q47 q40 ) (cwI 7 hts gi_a59_X6_splice_5 rfl rfl rfl (hts _ (wo_a59_X6_splice_in _ (List.mem_of_getElem? (i := 7) rfl))) (hts _ (wo_a59_X6_splice_in _ (List.mem_of_getElem? (i := 8) rfl))) (hts _ (wo_a59_X6_splice_in _ (List.mem_of_getElem? (i := 9) rfl))) rfl (by decide +kernel) ⟨Nat.le_of_ble_eq_true rfl, Nat.le_of_ble_eq_true rfl⟩) hh [4] [0, 1, 2, 3] [] rfl rfl rfl rfl (by decide) rfl rfl hl rfl (Nat.le_of_ble_eq_true rfl) dX6_splice_70 ⟨Nat.le_of_ble_eq_true rfl, (Nat.le_of_ble_eq_true rfl)⟩ (fun v w ty1 H locs hp hh => ?_)
  obtain ⟨q48, q49, y50, y51, rfl, rfl, rfl⟩ := hp
  have hh : kH D kStr e0 A s H [(q39, .inr (7, [.int 120, .ref q40, .ref q30, .ref q30, .int 0, .int 0, .int 0, .ref q41, .int 748])), (q40, .inl (y42, 374, .inl (fun _ => 0))), (q3, .inl (y7, 24, .inr (.inr (.inr (.inr (va_up ((va_up ((fun _ => none)) (0 : Int32).toNatClampNeg (some q29))) (1 : Int32).toNatClampNeg (some q39))))))), (q1, .inr (11, [.ref q2, .int 0, .ref q3, .int 2, .ref q4, .ref q5, .ref q6, .int 0])), (q47, .inr (7, [.int 120, .ref q48, .ref q40, .ref q40, .int 0, .int 0, .int 0, .ref q49, .int 0])), (q48, .inl (y50, 748, .inl (fun _ => 0))), (q49, .inl (y51, 0, .inl (fun _ => 0)))] [(y7, .object "Segueworks$Piece"), (y42, .int), (y7, .object "Segueworks$Piece"), (y7, .object "Segueworks$Piece"), (y50, .int), (y51, .int)] _ := hh
  refine W.eq (g2 := F0 m 73 ls [.ref q47, .ref q1]) (by first | rfl | decide) ?_
  refine k_callV (C := RX6) (T := TX6) (N := 8) (ci := 11) (q0 := 3) (wr := [(q39, .inr (7, [.int 120, .ref q40, .ref q30, .ref q30, .int 0, .int 0, .int 0, .ref q41, .int 748]))]) (rest := []) (own := RX6) ⟨hx, hb, hml, hown, hts⟩ (a58_X6_keep l hst D e0 q1 q47 q2 q3 q4 q5 q6 q48 q40 q49 y7 q29 q39 y50 y42 y51 ) (cwV 1 hts gi_a59_X6_splice_6 rfl rfl rfl (by decide +kernel) ⟨Nat.le_of_ble_eq_true rfl, Nat.le_of_ble_eq_true rfl⟩) hh rfl rfl [3, 4, 2, 5, 1, 6] [0] [0, 1, 4, 5] rfl rfl rfl rfl (by decide) rfl rfl hl rfl (Nat.le_of_ble_eq_true rfl) dX6_splice_73 ⟨Nat.le_of_ble_eq_true rfl, (Nat.le_of_ble_eq_true rfl)⟩ (fun _ _ _ _ _ h => h.elim) (fun v w ty1 H locs hp hh => ?_)
  obtain ⟨rfl, rfl, rfl⟩ := hp
  have hh : kH D kStr e0 A s H [(q39, .inr (7, [.int 120, .ref q40, .ref q30, .ref q30, .int 0, .int 0, .int 0, .ref q41, .int 748])), (q1, .inr (11, [.ref q2, .int 0, .ref q3, .int 3, .ref q4, .ref q5, .ref q6, .int 0])), (q47, .inr (7, [.int 120, .ref q48, .ref q40, .ref q40, .int 0, .int 0, .int 0, .ref q49, .int 1496])), (q3, .inl (y7, 24, .inr (.inr (.inr (.inr (va_up ((va_up ((va_up ((fun _ => none)) (0 : Int32).toNatClampNeg (some q29))) (1 : Int32).toNatClampNeg (some q39))) (2 : Int32).toNatClampNeg (some q47))))))), (q48, .inl (y50, 748, .inl (fun _ => 0))), (q40, .inl (y42, 374, .inl (fun _ => 0))), (q49, .inl (y51, 0, .inl (fun _ => 0)))] [(y7, .object "Segueworks$Piece"), (y42, .int), (y7, .object "Segueworks$Piece"), (y7, .object "Segueworks$Piece"), (y50, .int), (y51, .int), (y7, .object "Segueworks$Piece"), (y50, .int), (y42, .int), (y51, .int)] _ := hh
  refine W.eq (g2 := F0 m 76 ls [.int 2]) (by first | rfl | decide) ?_
  exact k_endi hx hb hr hlocks hh ⟨q47, q48, q49, y50, rfl, rfl, rfl⟩ [1, 3, 0, 5, 2, 4] [0, 1, 4] rfl rfl rfl (Nat.le_of_ble_eq_true rfl) (Nat.le_of_ble_eq_true rfl) dX6_splice_76
def wo_a60_L_splice : List Cond := []
def wk_a60_L_splice : List Cond := Cond.codeWith yL_splice cL_splice 6 (some .int) [(0, 12, 15, 19), (0, 12, 19, 21), (0, 12, 23, 41), (0, 12, 27, 13)] :: (wo_a60_L_splice ++ (wsV RL 38 RX6 yX6_splice wk_a59_X6_splice))
theorem wo_a60_L_splice_in : ∀ w ∈ wo_a60_L_splice, w ∈ wk_a60_L_splice := fun w h => List.mem_cons_of_mem _ (List.mem_append_left _ h)
theorem gi_a60_L_splice_0 : GoodIn wk_a60_L_splice (wsV RL 38 RX6 yX6_splice wk_a59_X6_splice) := fun w h => ⟨List.mem_cons_of_mem _ (List.mem_append_right _ h), good_of_word (kg_V gk_a59_X6_splice w h)⟩
theorem gk_a60_L_splice : ∀ w ∈ wk_a60_L_splice, goodWord w = true := List.forall_mem_cons.mpr ⟨rfl, (List.forall_mem_append.mpr ⟨(show ∀ w ∈ wo_a60_L_splice, goodWord w = true by decide +kernel), (kg_V gk_a59_X6_splice)⟩)⟩
set_option maxHeartbeats 4000000 in
set_option maxRecDepth 100000 in
theorem a60_L_splice (l : Launch) (hst : l.stackTraces = false) (D : va_G) (e0 : kE) (q1 : Nat) (q24 : Nat) (q2 : Nat) (q3 : Nat) (q4 : Nat) (q5 : Nat) (q6 : Nat) (y25 : ClassId) (f46 : Nat → Int64) (y7 : ClassId) (q29 : Nat) (q39 : Nat) (q40 : Nat) (q30 : Nat) (q41 : Nat) (y42 : ClassId)  : kM l yL_splice wk_a60_L_splice 5 117 3 757 D kStr e0 [(y7, .object "Segueworks$Piece"), (y25, .long), (y42, .int)] [(q1, .inr (11, [.ref q2, .int 0, .ref q3, .int 2, .ref q4, .ref q5, .ref q6, .int 0])), (q24, .inl (y25, 1, .inr (.inl f46))), (q3, .inl (y7, 24, .inr (.inr (.inr (.inr (va_up ((va_up ((fun _ => none)) (0 : Int32).toNatClampNeg (some q29))) (1 : Int32).toNatClampNeg (some q39))))))), (q39, .inr (7, [.int 120, .ref q40, .ref q30, .ref q30, .int 0, .int 0, .int 0, .ref q41, .int 748])), (q40, .inl (y42, 374, .inl (fun _ => 0)))] [.ref q1, .int 1, .int 1, .int 0, .ref q24] (fun v w t => ∃ (q47 : Nat), ∃ (q48 : Nat), ∃ (q49 : Nat), ∃ (y50 : ClassId), v = some (.int 0) ∧ w = [(q1, .inr (11, [.ref q2, .int 0, .ref q3, .int 3, .ref q4, .ref q5, .ref q6, .int 0])), (q24, .inl (y25, 1, .inr (.inl (vp_updL (f46) (0 : Int32).toNatClampNeg 2)))), (q3, .inl (y7, 24, .inr (.inr (.inr (.inr (va_up ((va_up ((va_up ((fun _ => none)) (0 : Int32).toNatClampNeg (some q29))) (1 : Int32).toNatClampNeg (some q39))) (2 : Int32).toNatClampNeg (some q47))))))), (q39, .inr (7, [.int 120, .ref q40, .ref q30, .ref q30, .int 0, .int 0, .int 0, .ref q41, .int 748])), (q40, .inl (y42, 374, .inl (fun _ => 0))), (q47, .inr (7, [.int 120, .ref q48, .ref q40, .ref q40, .int 0, .int 0, .int 0, .ref q49, .int 1496])), (q48, .inl (y50, 748, .inl (fun _ => 0)))] ∧ t = [(y25, .long), (y7, .object "Segueworks$Piece"), (y42, .int), (y50, .int)]) (fun _ => False) := by
  refine k_ofX (cc := cL_splice) (maxL := 6) (ret := (some .int)) (hhs := [(0, 12, 15, 19), (0, 12, 19, 21), (0, 12, 23, 41), (0, 12, 27, 13)]) (by decide) rfl (Nat.le_of_ble_eq_true rfl) ?_
  intro p e s m args below meth c A ls hx hb hr hts hown hlocks hml hex hh hl
  have hown : s.vm.findClass RL = some m.cls := hown
  have hl : lv_has ls 6 [(0, .ref q1), (1, .int 1), (2, .int 1), (3, .int 0), (4, .ref q24)] := hl
  refine lv_aload hx hb dL_splice_0 (lv_at hl 4 rfl) ?_
  refine lv_iconst (v := 0) hx hb dL_splice_2 (by decide) ?_
  refine lv_aload_n hx hb dL_splice_3 rfl (lv_at hl 0 rfl) ?_
  refine lv_iload_n hx hb dL_splice_4 rfl (lv_at hl 1 rfl) ?_
  refine lv_iload_n hx hb dL_splice_5 rfl (lv_at hl 2 rfl) ?_
  refine lv_iload_n hx hb dL_splice_6 rfl (lv_at hl 3 rfl) ?_
  refine k_callV (C := RX6) (T := TX6) (N := 8) (ci := 11) (q0 := 0) (wr := [(q24, .inl (y25, 1, .inr (.inl f46)))]) (rest := [.int 0, .ref q24]) (own := RL) ⟨hx, hb, hml, hown, hts⟩ (a59_X6_splice l hst D e0 q1 q2 q3 q4 q5 q6 y7 q29 q39 q40 q30 q41 y42 ) (cwV 3 hts gi_a60_L_splice_0 rfl rfl rfl (by decide +kernel) ⟨Nat.le_of_ble_eq_true rfl, Nat.le_of_ble_eq_true rfl⟩) hh rfl rfl [0, 2, 3, 4] [1] [0, 2] rfl rfl rfl rfl (by decide) rfl rfl hl rfl (Nat.le_of_ble_eq_true rfl) dL_splice_7 ⟨Nat.le_of_ble_eq_true rfl, (Nat.le_of_ble_eq_true rfl)⟩ (fun _ _ _ _ _ h => h.elim) (fun v w ty1 H locs hp hh => ?_)
  obtain ⟨q47, q48, q49, y50, rfl, rfl, rfl⟩ := hp
  have hh : kH D kStr e0 A s H [(q24, .inl (y25, 1, .inr (.inl f46))), (q1, .inr (11, [.ref q2, .int 0, .ref q3, .int 3, .ref q4, .ref q5, .ref q6, .int 0])), (q3, .inl (y7, 24, .inr (.inr (.inr (.inr (va_up ((va_up ((va_up ((fun _ => none)) (0 : Int32).toNatClampNeg (some q29))) (1 : Int32).toNatClampNeg (some q39))) (2 : Int32).toNatClampNeg (some q47))))))), (q39, .inr (7, [.int 120, .ref q40, .ref q30, .ref q30, .int 0, .int 0, .int 0, .ref q41, .int 748])), (q40, .inl (y42, 374, .inl (fun _ => 0))), (q47, .inr (7, [.int 120, .ref q48, .ref q40, .ref q40, .int 0, .int 0, .int 0, .ref q49, .int 1496])), (q48, .inl (y50, 748, .inl (fun _ => 0)))] [(y7, .object "Segueworks$Piece"), (y25, .long), (y42, .int), (y7, .object "Segueworks$Piece"), (y42, .int), (y50, .int)] _ := hh
  refine W.eq (g2 := F0 m 10 ls [.int 2, .int 0, .ref q24]) (by first | rfl | decide) ?_
  refine lv_i2l (v := 2) hx hb dL_splice_10 (by decide) ?_
  refine k_last (ws' := [(q24, .inl (y25, 1, .inr (.inl (vp_updL (f46) (0 : Int32).toNatClampNeg 2)))), (q1, .inr (11, [.ref q2, .int 0, .ref q3, .int 3, .ref q4, .ref q5, .ref q6, .int 0])), (q3, .inl (y7, 24, .inr (.inr (.inr (.inr (va_up ((va_up ((va_up ((fun _ => none)) (0 : Int32).toNatClampNeg (some q29))) (1 : Int32).toNatClampNeg (some q39))) (2 : Int32).toNatClampNeg (some q47))))))), (q39, .inr (7, [.int 120, .ref q40, .ref q30, .ref q30, .int 0, .int 0, .int 0, .ref q41, .int 748])), (q40, .inl (y42, 374, .inl (fun _ => 0))), (q47, .inr (7, [.int 120, .ref q48, .ref q40, .ref q40, .int 0, .int 0, .int 0, .ref q49, .int 1496])), (q48, .inl (y50, 748, .inl (fun _ => 0)))]) hx hb hh 0 1 rfl rfl (by unfold vp_in; decide) dL_splice_11 rfl (fun H locs hh => ?_)
  refine lv_goto (tgt := 31) hx hb dL_splice_12 (by decide) ?_
  refine lv_iconst (v := 0) hx hb dL_splice_31 (by decide) ?_
  exact k_endi hx hb hr hlocks hh ⟨q47, q48, q49, y50, rfl, rfl, rfl⟩ [1, 0, 2, 3, 4, 5, 6] [1, 0, 2, 5] rfl rfl rfl (Nat.le_of_ble_eq_true rfl) (Nat.le_of_ble_eq_true rfl) dL_splice_32
def wo_a61_X11_in : List Cond := []
def wk_a61_X11_in : List Cond := Cond.code yX11_in cX11_in 6 (some .boolean) :: wo_a61_X11_in
theorem wo_a61_X11_in_in : ∀ w ∈ wo_a61_X11_in, w ∈ wk_a61_X11_in := fun w h => List.mem_cons_of_mem _ h
theorem gk_a61_X11_in : ∀ w ∈ wk_a61_X11_in, goodWord w = true := List.forall_mem_cons.mpr ⟨rfl, (show ∀ w ∈ wo_a61_X11_in, goodWord w = true by decide +kernel)⟩
set_option maxHeartbeats 4000000 in
set_option maxRecDepth 100000 in
theorem a61_X11_in (l : Launch) (hst : l.stackTraces = false) (D : va_G) (e0 : kE)   : kM l yX11_in wk_a61_X11_in 0 0 0 0 D kStr e0 [] [] [.long 1, .long 0, .long 1] (fun v w t => v = some (.int 1) ∧ w = [] ∧ t = []) (fun _ => False) := by
  refine k_of (cc := cX11_in) (maxL := 6) (ret := (some .boolean)) (by decide) rfl (Nat.le_of_ble_eq_true rfl) ?_
  intro p e s m args below meth c A ls hx hb hr hts hown hlocks hml hex hh hl
  have hown : s.vm.findClass RX11 = some m.cls := hown
  have hl : lv_has ls 6 [(0, .long 1), (2, .long 0), (4, .long 1)] := hl
  refine lv_lload_n hx hb dX11_in_0 rfl (lv_at hl 0 rfl) ?_
  refine lv_lload_n hx hb dX11_in_1 rfl (lv_at hl 1 rfl) ?_
  refine W.lcmp hx hb dX11_in_2 ?_
  refine W.eq (g2 := F0 m 3 ls [.int 1]) (by rw [show lg_cmp (1 : Int64) (0 : Int64) = 1 from by decide]) ?_
  refine lv_if_lt (tgt := 17) hx hb dX11_in_3 (by decide) (fun c_3 => absurd c_3 (by decide)) (fun _ => ?_)
  refine lv_lload_n hx hb dX11_in_6 rfl (lv_at hl 0 rfl) ?_
  refine lv_lload hx hb dX11_in_7 (lv_at hl 2 rfl) ?_
  refine W.lcmp hx hb dX11_in_9 ?_
  refine W.eq (g2 := F0 m 10 ls [.int 0]) (by rw [show lg_cmp (1 : Int64) (1 : Int64) = 0 from by decide]) ?_
  refine lv_if_gt (tgt := 17) hx hb dX11_in_10 (by decide) (fun c_10 => absurd c_10 (by decide)) (fun _ => ?_)
  refine lv_iconst (v := 1) hx hb dX11_in_13 (by decide) ?_
  refine lv_goto (tgt := 18) hx hb dX11_in_14 (by decide) ?_
  exact k_endz (ty := .boolean) (by decide) hx hb hr hlocks hh ⟨rfl, rfl, rfl⟩ [] [] rfl rfl rfl (Nat.le_of_ble_eq_true rfl) (Nat.le_of_ble_eq_true rfl) dX11_in_18
def wo_a62_J3_checkIndex_8e157 : List Cond := []
def wk_a62_J3_checkIndex_8e157 : List Cond := Cond.code yJ3_checkIndex_8e157 cJ3_checkIndex_8e157 3 (some .int) :: wo_a62_J3_checkIndex_8e157
theorem wo_a62_J3_checkIndex_8e157_in : ∀ w ∈ wo_a62_J3_checkIndex_8e157, w ∈ wk_a62_J3_checkIndex_8e157 := fun w h => List.mem_cons_of_mem _ h
theorem gk_a62_J3_checkIndex_8e157 : ∀ w ∈ wk_a62_J3_checkIndex_8e157, goodWord w = true := List.forall_mem_cons.mpr ⟨rfl, (show ∀ w ∈ wo_a62_J3_checkIndex_8e157, goodWord w = true by decide +kernel)⟩
set_option maxHeartbeats 4000000 in
set_option maxRecDepth 100000 in
theorem a62_J3_checkIndex_8e157 (l : Launch) (hst : l.stackTraces = false) (D : va_G) (e0 : kE)   : kM l yJ3_checkIndex_8e157 wk_a62_J3_checkIndex_8e157 0 0 0 0 D kStr e0 [] [] [.int 1, .int 2, .null] (fun v w t => v = some (.int 1) ∧ w = [] ∧ t = []) (fun _ => False) := by
  refine k_of (cc := cJ3_checkIndex_8e157) (maxL := 3) (ret := (some .int)) (by decide) rfl (Nat.le_of_ble_eq_true rfl) ?_
  intro p e s m args below meth c A ls hx hb hr hts hown hlocks hml hex hh hl
  have hown : s.vm.findClass RJ3 = some m.cls := hown
  have hl : lv_has ls 3 [(0, .int 1), (1, .int 2), (2, .null)] := hl
  refine lv_iload_n hx hb dJ3_checkIndex_8e157_0 rfl (lv_at hl 0 rfl) ?_
  refine lv_if_lt (tgt := 9) hx hb dJ3_checkIndex_8e157_1 (by decide) (fun c_1 => absurd c_1 (by decide)) (fun _ => ?_)
  refine lv_iload_n hx hb dJ3_checkIndex_8e157_4 rfl (lv_at hl 0 rfl) ?_
  refine lv_iload_n hx hb dJ3_checkIndex_8e157_5 rfl (lv_at hl 1 rfl) ?_
  refine lv_icmp_lt (tgt := 16) hx hb dJ3_checkIndex_8e157_6 (by decide) (fun _ => ?_) (fun c_6 => absurd (by decide) c_6)
  refine lv_iload_n hx hb dJ3_checkIndex_8e157_16 rfl (lv_at hl 0 rfl) ?_
  exact k_endi hx hb hr hlocks hh ⟨rfl, rfl, rfl⟩ [] [] rfl rfl rfl (Nat.le_of_ble_eq_true rfl) (Nat.le_of_ble_eq_true rfl) dJ3_checkIndex_8e157_17
def wo_a63_J15_checkIndex_7cf53 : List Cond := []
def wk_a63_J15_checkIndex_7cf53 : List Cond := Cond.code yJ15_checkIndex_7cf53 cJ15_checkIndex_7cf53 2 (some .int) :: (wo_a63_J15_checkIndex_7cf53 ++ (va_wsS RJ15 105 yJ3_checkIndex_8e157 wk_a62_J3_checkIndex_8e157))
theorem wo_a63_J15_checkIndex_7cf53_in : ∀ w ∈ wo_a63_J15_checkIndex_7cf53, w ∈ wk_a63_J15_checkIndex_7cf53 := fun w h => List.mem_cons_of_mem _ (List.mem_append_left _ h)
theorem gi_a63_J15_checkIndex_7cf53_0 : GoodIn wk_a63_J15_checkIndex_7cf53 (va_wsS RJ15 105 yJ3_checkIndex_8e157 wk_a62_J3_checkIndex_8e157) := fun w h => ⟨List.mem_cons_of_mem _ (List.mem_append_right _ h), good_of_word (kg_S gk_a62_J3_checkIndex_8e157 w h)⟩
theorem gk_a63_J15_checkIndex_7cf53 : ∀ w ∈ wk_a63_J15_checkIndex_7cf53, goodWord w = true := List.forall_mem_cons.mpr ⟨rfl, (List.forall_mem_append.mpr ⟨(show ∀ w ∈ wo_a63_J15_checkIndex_7cf53, goodWord w = true by decide +kernel), (kg_S gk_a62_J3_checkIndex_8e157)⟩)⟩
set_option maxHeartbeats 4000000 in
set_option maxRecDepth 100000 in
theorem a63_J15_checkIndex_7cf53 (l : Launch) (hst : l.stackTraces = false) (D : va_G) (e0 : kE)   : kM l yJ15_checkIndex_7cf53 wk_a63_J15_checkIndex_7cf53 1 22 0 0 D kStr e0 [] [] [.int 1, .int 2] (fun v w t => v = some (.int 1) ∧ w = [] ∧ t = []) (fun _ => False) := by
  refine k_of (cc := cJ15_checkIndex_7cf53) (maxL := 2) (ret := (some .int)) (by decide) rfl (Nat.le_of_ble_eq_true rfl) ?_
  intro p e s m args below meth c A ls hx hb hr hts hown hlocks hml hex hh hl
  have hown : s.vm.findClass RJ15 = some m.cls := hown
  have hl : lv_has ls 2 [(0, .int 1), (1, .int 2)] := hl
  refine lv_iload_n hx hb dJ15_checkIndex_7cf53_0 rfl (lv_at hl 0 rfl) ?_
  refine lv_iload_n hx hb dJ15_checkIndex_7cf53_1 rfl (lv_at hl 1 rfl) ?_
  refine lv_null hx hb dJ15_checkIndex_7cf53_2 ?_
  refine k_callS (wr := []) (rest := []) (own := RJ15) ⟨hx, hb, hml, hown, hts⟩ (a62_J3_checkIndex_8e157 l hst D e0  ) (va_cwS 3 hts gi_a63_J15_checkIndex_7cf53_0 rfl rfl rfl (by decide +kernel) ⟨Nat.le_of_ble_eq_true rfl, Nat.le_of_ble_eq_true rfl⟩) hh [] [] [] rfl rfl rfl rfl (by decide) rfl rfl hl rfl (Nat.le_of_ble_eq_true rfl) dJ15_checkIndex_7cf53_3 ⟨Nat.le_of_ble_eq_true rfl, (Nat.le_of_ble_eq_true rfl)⟩ (fun _ _ _ _ _ h => h.elim) (fun v w ty1 H locs hp hh => ?_)
  obtain ⟨rfl, rfl, rfl⟩ := hp
  have hh : kH D kStr e0 A s H [] [] _ := hh
  refine W.eq (g2 := F0 m 6 ls [.int 1]) (by first | rfl | decide) ?_
  exact k_endi hx hb hr hlocks hh ⟨rfl, rfl, rfl⟩ [] [] rfl rfl rfl (Nat.le_of_ble_eq_true rfl) (Nat.le_of_ble_eq_true rfl) dJ15_checkIndex_7cf53_6
def wo_a64_Jx4a65c_elementData_915e3 : List Cond := [Cond.fieldLink RJx4a65c 9 "java/util/ArrayList" "elementData" "[Ljava/lang/Object;"]
def wk_a64_Jx4a65c_elementData_915e3 : List Cond := Cond.code yJx4a65c_elementData_915e3 cJx4a65c_elementData_915e3 2 (some (.object "java/lang/Object")) :: (wo_a64_Jx4a65c_elementData_915e3 ++ (u_ws RJx4a65c TJx4a65c 3))
theorem wo_a64_Jx4a65c_elementData_915e3_in : ∀ w ∈ wo_a64_Jx4a65c_elementData_915e3, w ∈ wk_a64_Jx4a65c_elementData_915e3 := fun w h => List.mem_cons_of_mem _ (List.mem_append_left _ h)
theorem ws_a64_Jx4a65c_elementData_915e3_0 : ∀ w ∈ u_ws RJx4a65c TJx4a65c 3, w ∈ wk_a64_Jx4a65c_elementData_915e3 := fun w h => List.mem_cons_of_mem _ (List.mem_append_right _ h)
theorem gk_a64_Jx4a65c_elementData_915e3 : ∀ w ∈ wk_a64_Jx4a65c_elementData_915e3, goodWord w = true := List.forall_mem_cons.mpr ⟨rfl, (List.forall_mem_append.mpr ⟨(show ∀ w ∈ wo_a64_Jx4a65c_elementData_915e3, goodWord w = true by decide +kernel), (show ∀ w ∈ u_ws RJx4a65c TJx4a65c 3, goodWord w = true by decide +kernel)⟩)⟩
set_option maxHeartbeats 4000000 in
set_option maxRecDepth 100000 in
theorem a64_Jx4a65c_elementData_915e3 (l : Launch) (hst : l.stackTraces = false) (D : va_G) (e0 : kE) (q17 : Nat) (q33 : Nat) (y34 : ClassId) (q35 : Nat) (q43 : Nat)  : kM l yJx4a65c_elementData_915e3 wk_a64_Jx4a65c_elementData_915e3 0 0 0 0 D kStr e0 [(y34, .object "java/lang/Object")] [(q17, .inr (4, [.int 2, .ref q33, .int 2])), (q33, .inl (y34, 10, .inr (.inr (.inr (.inr (va_up ((va_up ((fun _ => none)) (0 : Int32).toNatClampNeg (some q35))) (1 : Int32).toNatClampNeg (some q43)))))))] [.ref q17, .int 1] (fun v w t => v = some (.ref q43) ∧ w = [(q17, .inr (4, [.int 2, .ref q33, .int 2])), (q33, .inl (y34, 10, .inr (.inr (.inr (.inr (va_up ((va_up ((fun _ => none)) (0 : Int32).toNatClampNeg (some q35))) (1 : Int32).toNatClampNeg (some q43)))))))] ∧ t = [(y34, .object "java/lang/Object")]) (fun _ => False) := by
  refine k_of (cc := cJx4a65c_elementData_915e3) (maxL := 2) (ret := (some (.object "java/lang/Object"))) (by decide) rfl (Nat.le_of_ble_eq_true rfl) ?_
  intro p e s m args below meth c A ls hx hb hr hts hown hlocks hml hex hh hl
  have hown : s.vm.findClass RJx4a65c = some m.cls := hown
  have hl : lv_has ls 2 [(0, .ref q17), (1, .int 1)] := hl
  refine lv_aload_n hx hb dJx4a65c_elementData_915e3_0 rfl (lv_at hl 0 rfl) ?_
  refine k_get (C := RJx4a65c) (T := TJx4a65c) (N := 3) (ci := 4) (v := .ref q33) hx hb hts ws_a64_Jx4a65c_elementData_915e3_0 hown hh 0 rfl rfl 1 (by decide) (hts _ (wo_a64_Jx4a65c_elementData_915e3_in _ (List.mem_of_getElem? (i := 0) rfl))) rfl dJx4a65c_elementData_915e3_1 ?_
  refine lv_iload_n hx hb dJx4a65c_elementData_915e3_4 rfl (lv_at hl 1 rfl) ?_
  refine k_aldq (v := q43) hx hb hh 1 0 rfl rfl (by unfold vp_in; decide) (by first | rfl | simp [va_up]) dJx4a65c_elementData_915e3_5 ?_
  exact k_enda (by first | exact Or.inl ⟨_, rfl⟩ | exact Or.inr ⟨_, rfl⟩) (by first | exact Or.inr ⟨_, rfl⟩ | exact Or.inl rfl) hx hb hr hlocks hh ⟨rfl, rfl, rfl⟩ [0, 1] [0] rfl rfl rfl (Nat.le_of_ble_eq_true rfl) (Nat.le_of_ble_eq_true rfl) dJx4a65c_elementData_915e3_6
def wo_a65_Jx4a65c_get_915e3 : List Cond := [Cond.fieldLink RJx4a65c 48 "java/util/ArrayList" "size" "I"]
def wk_a65_Jx4a65c_get_915e3 : List Cond := Cond.code yJx4a65c_get_915e3 cJx4a65c_get_915e3 2 (some (.object "java/lang/Object")) :: (wo_a65_Jx4a65c_get_915e3 ++ ((u_ws RJx4a65c TJx4a65c 3) ++ ((va_wsS RJx4a65c 118 yJ15_checkIndex_7cf53 wk_a63_J15_checkIndex_7cf53) ++ (wsV RJx4a65c 123 RJx4a65c yJx4a65c_elementData_915e3 wk_a64_Jx4a65c_elementData_915e3))))
theorem wo_a65_Jx4a65c_get_915e3_in : ∀ w ∈ wo_a65_Jx4a65c_get_915e3, w ∈ wk_a65_Jx4a65c_get_915e3 := fun w h => List.mem_cons_of_mem _ (List.mem_append_left _ h)
theorem ws_a65_Jx4a65c_get_915e3_0 : ∀ w ∈ u_ws RJx4a65c TJx4a65c 3, w ∈ wk_a65_Jx4a65c_get_915e3 := fun w h => List.mem_cons_of_mem _ (List.mem_append_right _ (List.mem_append_left _ h))
theorem gi_a65_Jx4a65c_get_915e3_1 : GoodIn wk_a65_Jx4a65c_get_915e3 (va_wsS RJx4a65c 118 yJ15_checkIndex_7cf53 wk_a63_J15_checkIndex_7cf53) := fun w h => ⟨List.mem_cons_of_mem _ (List.mem_append_right _ (List.mem_append_right _ (List.mem_append_left _ h))), good_of_word (kg_S gk_a63_J15_checkIndex_7cf53 w h)⟩
theorem gi_a65_Jx4a65c_get_915e3_2 : GoodIn wk_a65_Jx4a65c_get_915e3 (wsV RJx4a65c 123 RJx4a65c yJx4a65c_elementData_915e3 wk_a64_Jx4a65c_elementData_915e3) := fun w h => ⟨List.mem_cons_of_mem _ (List.mem_append_right _ (List.mem_append_right _ (List.mem_append_right _ h))), good_of_word (kg_V gk_a64_Jx4a65c_elementData_915e3 w h)⟩
theorem gk_a65_Jx4a65c_get_915e3 : ∀ w ∈ wk_a65_Jx4a65c_get_915e3, goodWord w = true := List.forall_mem_cons.mpr ⟨rfl, (List.forall_mem_append.mpr ⟨(show ∀ w ∈ wo_a65_Jx4a65c_get_915e3, goodWord w = true by decide +kernel), (List.forall_mem_append.mpr ⟨(show ∀ w ∈ u_ws RJx4a65c TJx4a65c 3, goodWord w = true by decide +kernel), (List.forall_mem_append.mpr ⟨(kg_S gk_a63_J15_checkIndex_7cf53), (kg_V gk_a64_Jx4a65c_elementData_915e3)⟩)⟩)⟩)⟩
set_option maxHeartbeats 4000000 in
set_option maxRecDepth 100000 in
theorem a65_Jx4a65c_get_915e3 (l : Launch) (hst : l.stackTraces = false) (D : va_G) (e0 : kE) (q17 : Nat) (q33 : Nat) (y34 : ClassId) (q35 : Nat) (q43 : Nat)  : kM l yJx4a65c_get_915e3 wk_a65_Jx4a65c_get_915e3 2 43 0 0 D kStr e0 [(y34, .object "java/lang/Object")] [(q17, .inr (4, [.int 2, .ref q33, .int 2])), (q33, .inl (y34, 10, .inr (.inr (.inr (.inr (va_up ((va_up ((fun _ => none)) (0 : Int32).toNatClampNeg (some q35))) (1 : Int32).toNatClampNeg (some q43)))))))] [.ref q17, .int 1] (fun v w t => v = some (.ref q43) ∧ w = [(q17, .inr (4, [.int 2, .ref q33, .int 2])), (q33, .inl (y34, 10, .inr (.inr (.inr (.inr (va_up ((va_up ((fun _ => none)) (0 : Int32).toNatClampNeg (some q35))) (1 : Int32).toNatClampNeg (some q43)))))))] ∧ t = [(y34, .object "java/lang/Object")]) (fun _ => False) := by
  refine k_of (cc := cJx4a65c_get_915e3) (maxL := 2) (ret := (some (.object "java/lang/Object"))) (by decide) rfl (Nat.le_of_ble_eq_true rfl) ?_
  intro p e s m args below meth c A ls hx hb hr hts hown hlocks hml hex hh hl
  have hown : s.vm.findClass RJx4a65c = some m.cls := hown
  have hl : lv_has ls 2 [(0, .ref q17), (1, .int 1)] := hl
  refine lv_iload_n hx hb dJx4a65c_get_915e3_0 rfl (lv_at hl 1 rfl) ?_
  refine lv_aload_n hx hb dJx4a65c_get_915e3_1 rfl (lv_at hl 0 rfl) ?_
  refine k_get (C := RJx4a65c) (T := TJx4a65c) (N := 3) (ci := 4) (v := .int 2) hx hb hts ws_a65_Jx4a65c_get_915e3_0 hown hh 0 rfl rfl 2 (by decide) (hts _ (wo_a65_Jx4a65c_get_915e3_in _ (List.mem_of_getElem? (i := 0) rfl))) rfl dJx4a65c_get_915e3_2 ?_
  refine k_callS (wr := [(q17, .inr (4, [.int 2, .ref q33, .int 2])), (q33, .inl (y34, 10, .inr (.inr (.inr (.inr (va_up ((va_up ((fun _ => none)) (0 : Int32).toNatClampNeg (some q35))) (1 : Int32).toNatClampNeg (some q43)))))))]) (rest := []) (own := RJx4a65c) ⟨hx, hb, hml, hown, hts⟩ (a63_J15_checkIndex_7cf53 l hst D e0  ) (va_cwS 2 hts gi_a65_Jx4a65c_get_915e3_1 rfl rfl rfl (by decide +kernel) ⟨Nat.le_of_ble_eq_true rfl, Nat.le_of_ble_eq_true rfl⟩) hh [] [0, 1] [] rfl rfl rfl rfl (by decide) rfl rfl hl rfl (Nat.le_of_ble_eq_true rfl) dJx4a65c_get_915e3_5 ⟨Nat.le_of_ble_eq_true rfl, (Nat.le_of_ble_eq_true rfl)⟩ (fun _ _ _ _ _ h => h.elim) (fun v w ty1 H locs hp hh => ?_)
  obtain ⟨rfl, rfl, rfl⟩ := hp
  have hh : kH D kStr e0 A s H [(q17, .inr (4, [.int 2, .ref q33, .int 2])), (q33, .inl (y34, 10, .inr (.inr (.inr (.inr (va_up ((va_up ((fun _ => none)) (0 : Int32).toNatClampNeg (some q35))) (1 : Int32).toNatClampNeg (some q43)))))))] [(y34, .object "java/lang/Object")] _ := hh
  refine W.eq (g2 := F0 m 8 ls [.int 1]) (by first | rfl | decide) ?_
  refine lv_pop hx hb dJx4a65c_get_915e3_8 rfl ?_
  refine lv_aload_n hx hb dJx4a65c_get_915e3_9 rfl (lv_at hl 0 rfl) ?_
  refine lv_iload_n hx hb dJx4a65c_get_915e3_10 rfl (lv_at hl 1 rfl) ?_
  refine k_callV (C := RJx4a65c) (T := TJx4a65c) (N := 3) (ci := 4) (q0 := 0) (wr := []) (rest := []) (own := RJx4a65c) ⟨hx, hb, hml, hown, hts⟩ (a64_Jx4a65c_elementData_915e3 l hst D e0 q17 q33 y34 q35 q43 ) (cwV 1 hts gi_a65_Jx4a65c_get_915e3_2 rfl rfl rfl (by decide +kernel) ⟨Nat.le_of_ble_eq_true rfl, Nat.le_of_ble_eq_true rfl⟩) hh rfl rfl [0, 1] [] [0] rfl rfl rfl rfl (by decide) rfl rfl hl rfl (Nat.le_of_ble_eq_true rfl) dJx4a65c_get_915e3_11 ⟨Nat.le_of_ble_eq_true rfl, (Nat.le_of_ble_eq_true rfl)⟩ (fun _ _ _ _ _ h => h.elim) (fun v w ty1 H locs hp hh => ?_)
  obtain ⟨rfl, rfl, rfl⟩ := hp
  have hh : kH D kStr e0 A s H [(q17, .inr (4, [.int 2, .ref q33, .int 2])), (q33, .inl (y34, 10, .inr (.inr (.inr (.inr (va_up ((va_up ((fun _ => none)) (0 : Int32).toNatClampNeg (some q35))) (1 : Int32).toNatClampNeg (some q43)))))))] [(y34, .object "java/lang/Object"), (y34, .object "java/lang/Object")] _ := hh
  refine W.eq (g2 := F0 m 14 ls [.ref q43]) (by first | rfl | decide) ?_
  exact k_enda (by first | exact Or.inl ⟨_, rfl⟩ | exact Or.inr ⟨_, rfl⟩) (by first | exact Or.inr ⟨_, rfl⟩ | exact Or.inl rfl) hx hb hr hlocks hh ⟨rfl, rfl, rfl⟩ [0, 1] [0] rfl rfl rfl (Nat.le_of_ble_eq_true rfl) (Nat.le_of_ble_eq_true rfl) dJx4a65c_get_915e3_14
def wo_a66_X11_rowOf : List Cond := [Cond.fieldLink RX11 25 "SegueworksModel" "pieces" "Ljava/util/ArrayList;", Cond.classLink RX11 84 RX9]
def wk_a66_X11_rowOf : List Cond := Cond.code yX11_rowOf cX11_rowOf 2 (some (.array .int)) :: (wo_a66_X11_rowOf ++ ((u_ws RX11 TX11 11) ++ ((wsV RX11 70 RJx4a65c yJx4a65c_get_915e3 wk_a65_Jx4a65c_get_915e3) ++ (u_ws RX9 TX9 2))))
theorem wo_a66_X11_rowOf_in : ∀ w ∈ wo_a66_X11_rowOf, w ∈ wk_a66_X11_rowOf := fun w h => List.mem_cons_of_mem _ (List.mem_append_left _ h)
theorem ws_a66_X11_rowOf_0 : ∀ w ∈ u_ws RX11 TX11 11, w ∈ wk_a66_X11_rowOf := fun w h => List.mem_cons_of_mem _ (List.mem_append_right _ (List.mem_append_left _ h))
theorem gi_a66_X11_rowOf_1 : GoodIn wk_a66_X11_rowOf (wsV RX11 70 RJx4a65c yJx4a65c_get_915e3 wk_a65_Jx4a65c_get_915e3) := fun w h => ⟨List.mem_cons_of_mem _ (List.mem_append_right _ (List.mem_append_right _ (List.mem_append_left _ h))), good_of_word (kg_V gk_a65_Jx4a65c_get_915e3 w h)⟩
theorem ws_a66_X11_rowOf_2 : ∀ w ∈ u_ws RX9 TX9 2, w ∈ wk_a66_X11_rowOf := fun w h => List.mem_cons_of_mem _ (List.mem_append_right _ (List.mem_append_right _ (List.mem_append_right _ h)))
theorem gk_a66_X11_rowOf : ∀ w ∈ wk_a66_X11_rowOf, goodWord w = true := List.forall_mem_cons.mpr ⟨rfl, (List.forall_mem_append.mpr ⟨(show ∀ w ∈ wo_a66_X11_rowOf, goodWord w = true by decide +kernel), (List.forall_mem_append.mpr ⟨(show ∀ w ∈ u_ws RX11 TX11 11, goodWord w = true by decide +kernel), (List.forall_mem_append.mpr ⟨(kg_V gk_a65_Jx4a65c_get_915e3), (show ∀ w ∈ u_ws RX9 TX9 2, goodWord w = true by decide +kernel)⟩)⟩)⟩)⟩
set_option maxHeartbeats 4000000 in
set_option maxRecDepth 100000 in
theorem a66_X11_rowOf (l : Launch) (hst : l.stackTraces = false) (D : va_G) (e0 : kE) (q15 : Nat) (q16 : Nat) (q17 : Nat) (q18 : Nat) (q19 : Nat) (q20 : Nat) (q21 : Nat) (q22 : Nat) (q23 : Nat) (q33 : Nat) (y34 : ClassId) (q35 : Nat) (q43 : Nat) (q44 : Nat)  : kM l yX11_rowOf wk_a66_X11_rowOf 3 64 0 0 D kStr e0 [(y34, .object "java/lang/Object")] [(q15, .inr (16, [.int 0, .ref q16, .ref q17, .ref q18, .ref q19, .ref q20, .ref q21, .ref q22, .ref q23, .int 0, .int 0])), (q17, .inr (4, [.int 2, .ref q33, .int 2])), (q33, .inl (y34, 10, .inr (.inr (.inr (.inr (va_up ((va_up ((fun _ => none)) (0 : Int32).toNatClampNeg (some q35))) (1 : Int32).toNatClampNeg (some q43))))))), (q43, .inr (14, [.int 120, .ref q44]))] [.ref q15, .int 1] (fun v w t => v = some (.ref q44) ∧ w = [(q15, .inr (16, [.int 0, .ref q16, .ref q17, .ref q18, .ref q19, .ref q20, .ref q21, .ref q22, .ref q23, .int 0, .int 0])), (q17, .inr (4, [.int 2, .ref q33, .int 2])), (q33, .inl (y34, 10, .inr (.inr (.inr (.inr (va_up ((va_up ((fun _ => none)) (0 : Int32).toNatClampNeg (some q35))) (1 : Int32).toNatClampNeg (some q43))))))), (q43, .inr (14, [.int 120, .ref q44]))] ∧ t = [(y34, .object "java/lang/Object")]) (fun _ => False) := by
  refine k_of (cc := cX11_rowOf) (maxL := 2) (ret := (some (.array .int))) (by decide) rfl (Nat.le_of_ble_eq_true rfl) ?_
  intro p e s m args below meth c A ls hx hb hr hts hown hlocks hml hex hh hl
  have hown : s.vm.findClass RX11 = some m.cls := hown
  have hl : lv_has ls 2 [(0, .ref q15), (1, .int 1)] := hl
  refine lv_aload_n hx hb dX11_rowOf_0 rfl (lv_at hl 0 rfl) ?_
  refine k_get (C := RX11) (T := TX11) (N := 11) (ci := 16) (v := .ref q17) hx hb hts ws_a66_X11_rowOf_0 hown hh 0 rfl rfl 2 (by decide) (hts _ (wo_a66_X11_rowOf_in _ (List.mem_of_getElem? (i := 0) rfl))) rfl dX11_rowOf_1 ?_
  refine lv_iload_n hx hb dX11_rowOf_4 rfl (lv_at hl 1 rfl) ?_
  refine k_callV (C := RJx4a65c) (T := TJx4a65c) (N := 3) (ci := 4) (q0 := 1) (wr := [(q15, .inr (16, [.int 0, .ref q16, .ref q17, .ref q18, .ref q19, .ref q20, .ref q21, .ref q22, .ref q23, .int 0, .int 0])), (q43, .inr (14, [.int 120, .ref q44]))]) (rest := []) (own := RX11) ⟨hx, hb, hml, hown, hts⟩ (a65_Jx4a65c_get_915e3 l hst D e0 q17 q33 y34 q35 q43 ) (cwV 1 hts gi_a66_X11_rowOf_1 rfl rfl rfl (by decide +kernel) ⟨Nat.le_of_ble_eq_true rfl, Nat.le_of_ble_eq_true rfl⟩) hh rfl rfl [1, 2] [0, 3] [0] rfl rfl rfl rfl (by decide) rfl rfl hl rfl (Nat.le_of_ble_eq_true rfl) dX11_rowOf_5 ⟨Nat.le_of_ble_eq_true rfl, (Nat.le_of_ble_eq_true rfl)⟩ (fun _ _ _ _ _ h => h.elim) (fun v w ty1 H locs hp hh => ?_)
  obtain ⟨rfl, rfl, rfl⟩ := hp
  have hh : kH D kStr e0 A s H [(q15, .inr (16, [.int 0, .ref q16, .ref q17, .ref q18, .ref q19, .ref q20, .ref q21, .ref q22, .ref q23, .int 0, .int 0])), (q43, .inr (14, [.int 120, .ref q44])), (q17, .inr (4, [.int 2, .ref q33, .int 2])), (q33, .inl (y34, 10, .inr (.inr (.inr (.inr (va_up ((va_up ((fun _ => none)) (0 : Int32).toNatClampNeg (some q35))) (1 : Int32).toNatClampNeg (some q43)))))))] [(y34, .object "java/lang/Object"), (y34, .object "java/lang/Object")] _ := hh
  refine W.eq (g2 := F0 m 8 ls [.ref q43]) (by first | rfl | decide) ?_
  refine k_castS (C := RX9) (T := TX9) (N := 2) (ci := 14) hx hb hown (hts _ (wo_a66_X11_rowOf_in _ (List.mem_of_getElem? (i := 1) rfl))) hh 1 rfl rfl dX11_rowOf_8 ?_
  refine k_getN (host := RX11) (C := RX9) (T := TX9) (N := 2) (ci := 14) (v := .ref q44) hx hb hts ws_a66_X11_rowOf_2 hown hh 1 rfl rfl 1 (by decide) (kNest_word hh (q := (86, "SegueworksModel$Piece", "row", "[I")) (by decide)) rfl dX11_rowOf_11 ?_
  exact k_enda (by first | exact Or.inl ⟨_, rfl⟩ | exact Or.inr ⟨_, rfl⟩) (by first | exact Or.inr ⟨_, rfl⟩ | exact Or.inl rfl) hx hb hr hlocks hh ⟨rfl, rfl, rfl⟩ [0, 2, 3, 1] [0] rfl rfl rfl (Nat.le_of_ble_eq_true rfl) (Nat.le_of_ble_eq_true rfl) dX11_rowOf_14
def wo_a67_X11_in : List Cond := []
def wk_a67_X11_in : List Cond := Cond.code yX11_in cX11_in 6 (some .boolean) :: wo_a67_X11_in
theorem wo_a67_X11_in_in : ∀ w ∈ wo_a67_X11_in, w ∈ wk_a67_X11_in := fun w h => List.mem_cons_of_mem _ h
theorem gk_a67_X11_in : ∀ w ∈ wk_a67_X11_in, goodWord w = true := List.forall_mem_cons.mpr ⟨rfl, (show ∀ w ∈ wo_a67_X11_in, goodWord w = true by decide +kernel)⟩
set_option maxHeartbeats 4000000 in
set_option maxRecDepth 100000 in
theorem a67_X11_in (l : Launch) (hst : l.stackTraces = false) (D : va_G) (e0 : kE)   : kM l yX11_in wk_a67_X11_in 0 0 0 0 D kStr e0 [] [] [.long 0, .long 0, .long 374] (fun v w t => v = some (.int 1) ∧ w = [] ∧ t = []) (fun _ => False) := by
  refine k_of (cc := cX11_in) (maxL := 6) (ret := (some .boolean)) (by decide) rfl (Nat.le_of_ble_eq_true rfl) ?_
  intro p e s m args below meth c A ls hx hb hr hts hown hlocks hml hex hh hl
  have hown : s.vm.findClass RX11 = some m.cls := hown
  have hl : lv_has ls 6 [(0, .long 0), (2, .long 0), (4, .long 374)] := hl
  refine lv_lload_n hx hb dX11_in_0 rfl (lv_at hl 0 rfl) ?_
  refine lv_lload_n hx hb dX11_in_1 rfl (lv_at hl 1 rfl) ?_
  refine W.lcmp hx hb dX11_in_2 ?_
  refine W.eq (g2 := F0 m 3 ls [.int 0]) (by rw [show lg_cmp (0 : Int64) (0 : Int64) = 0 from by decide]) ?_
  refine lv_if_lt (tgt := 17) hx hb dX11_in_3 (by decide) (fun c_3 => absurd c_3 (by decide)) (fun _ => ?_)
  refine lv_lload_n hx hb dX11_in_6 rfl (lv_at hl 0 rfl) ?_
  refine lv_lload hx hb dX11_in_7 (lv_at hl 2 rfl) ?_
  refine W.lcmp hx hb dX11_in_9 ?_
  refine W.eq (g2 := F0 m 10 ls [.int (-1)]) (by rw [show lg_cmp (0 : Int64) (374 : Int64) = (-1) from by decide]) ?_
  refine lv_if_gt (tgt := 17) hx hb dX11_in_10 (by decide) (fun c_10 => absurd c_10 (by decide)) (fun _ => ?_)
  refine lv_iconst (v := 1) hx hb dX11_in_13 (by decide) ?_
  refine lv_goto (tgt := 18) hx hb dX11_in_14 (by decide) ?_
  exact k_endz (ty := .boolean) (by decide) hx hb hr hlocks hh ⟨rfl, rfl, rfl⟩ [] [] rfl rfl rfl (Nat.le_of_ble_eq_true rfl) (Nat.le_of_ble_eq_true rfl) dX11_in_18
def wo_a68_Jx4a65c_add_72be8 : List Cond := [Cond.fieldLink RJx4a65c 48 "java/util/ArrayList" "size" "I"]
def wk_a68_Jx4a65c_add_72be8 : List Cond := Cond.code yJx4a65c_add_72be8 cJx4a65c_add_72be8 4 none :: (wo_a68_Jx4a65c_add_72be8 ++ (u_ws RJx4a65c TJx4a65c 3))
theorem wo_a68_Jx4a65c_add_72be8_in : ∀ w ∈ wo_a68_Jx4a65c_add_72be8, w ∈ wk_a68_Jx4a65c_add_72be8 := fun w h => List.mem_cons_of_mem _ (List.mem_append_left _ h)
theorem ws_a68_Jx4a65c_add_72be8_0 : ∀ w ∈ u_ws RJx4a65c TJx4a65c 3, w ∈ wk_a68_Jx4a65c_add_72be8 := fun w h => List.mem_cons_of_mem _ (List.mem_append_right _ h)
theorem gk_a68_Jx4a65c_add_72be8 : ∀ w ∈ wk_a68_Jx4a65c_add_72be8, goodWord w = true := List.forall_mem_cons.mpr ⟨rfl, (List.forall_mem_append.mpr ⟨(show ∀ w ∈ wo_a68_Jx4a65c_add_72be8, goodWord w = true by decide +kernel), (show ∀ w ∈ u_ws RJx4a65c TJx4a65c 3, goodWord w = true by decide +kernel)⟩)⟩
set_option maxHeartbeats 4000000 in
set_option maxRecDepth 100000 in
theorem a68_Jx4a65c_add_72be8 (l : Launch) (hst : l.stackTraces = false) (D : va_G) (e0 : kE) (q17 : Nat) (q53 : Nat) (q33 : Nat) (q51 : Nat) (y34 : ClassId) (q35 : Nat) (q43 : Nat)  : kM l yJx4a65c_add_72be8 wk_a68_Jx4a65c_add_72be8 0 0 0 0 D kStr e0 [(y34, .object "java/lang/Object")] [(q17, .inr (4, [.int 3, .ref q33, .int 2])), (q53, .inr (14, [.int 120, .ref q51])), (q33, .inl (y34, 10, .inr (.inr (.inr (.inr (va_up ((va_up ((fun _ => none)) (0 : Int32).toNatClampNeg (some q35))) (1 : Int32).toNatClampNeg (some q43)))))))] [.ref q17, .ref q53, .ref q33, .int 2] (fun v w t => v = none ∧ w = [(q17, .inr (4, [.int 3, .ref q33, .int 3])), (q53, .inr (14, [.int 120, .ref q51])), (q33, .inl (y34, 10, .inr (.inr (.inr (.inr (va_up ((va_up ((va_up ((fun _ => none)) (0 : Int32).toNatClampNeg (some q35))) (1 : Int32).toNatClampNeg (some q43))) (2 : Int32).toNatClampNeg (some q53)))))))] ∧ t = [(y34, .object "java/lang/Object")]) (fun _ => False) := by
  refine k_of (cc := cJx4a65c_add_72be8) (maxL := 4) (ret := none) (by decide) rfl (Nat.le_of_ble_eq_true rfl) ?_
  intro p e s m args below meth c A ls hx hb hr hts hown hlocks hml hex hh hl
  have hown : s.vm.findClass RJx4a65c = some m.cls := hown
  have hl : lv_has ls 4 [(0, .ref q17), (1, .ref q53), (2, .ref q33), (3, .int 2)] := hl
  refine lv_iload_n hx hb dJx4a65c_add_72be8_0 rfl (lv_at hl 3 rfl) ?_
  refine lv_aload_n hx hb dJx4a65c_add_72be8_1 rfl (lv_at hl 2 rfl) ?_
  refine k_alen (v := 10) hx hb hh 2 0 rfl rfl rfl dJx4a65c_add_72be8_2 ?_
  refine lv_icmp_ne (tgt := 11) hx hb dJx4a65c_add_72be8_3 (by decide) (fun _ => ?_) (fun c_3 => absurd c_3 (by decide))
  refine lv_aload_n hx hb dJx4a65c_add_72be8_11 rfl (lv_at hl 2 rfl) ?_
  refine lv_iload_n hx hb dJx4a65c_add_72be8_12 rfl (lv_at hl 3 rfl) ?_
  refine lv_aload_n hx hb dJx4a65c_add_72be8_13 rfl (lv_at hl 1 rfl) ?_
  refine k_astO (C := RX9) (T := TX9) (N := 2) (ws' := [(q17, .inr (4, [.int 3, .ref q33, .int 2])), (q53, .inr (14, [.int 120, .ref q51])), (q33, .inl (y34, 10, .inr (.inr (.inr (.inr (va_up ((va_up ((va_up ((fun _ => none)) (0 : Int32).toNatClampNeg (some q35))) (1 : Int32).toNatClampNeg (some q43))) (2 : Int32).toNatClampNeg (some q53)))))))]) hx hb hh 2 0 1 14 (by decide) rfl rfl rfl rfl (by unfold vp_in; decide) dJx4a65c_add_72be8_14 rfl (fun H locs hh => ?_)
  refine lv_aload_n hx hb dJx4a65c_add_72be8_15 rfl (lv_at hl 0 rfl) ?_
  refine lv_iload_n hx hb dJx4a65c_add_72be8_16 rfl (lv_at hl 3 rfl) ?_
  refine lv_iconst (v := 1) hx hb dJx4a65c_add_72be8_17 (by decide) ?_
  refine lv_iadd hx hb dJx4a65c_add_72be8_18 ?_
  refine W.eq (g2 := F0 m 19 ls [.int 3, .ref q17]) (by first | rfl | decide) ?_
  refine k_put (C := RJx4a65c) (T := TJx4a65c) (N := 3) (ci := 4) (v := .int 3) (ws' := [(q17, .inr (4, [.int 3, .ref q33, .int 3])), (q53, .inr (14, [.int 120, .ref q51])), (q33, .inl (y34, 10, .inr (.inr (.inr (.inr (va_up ((va_up ((va_up ((fun _ => none)) (0 : Int32).toNatClampNeg (some q35))) (1 : Int32).toNatClampNeg (some q43))) (2 : Int32).toNatClampNeg (some q53)))))))]) hx hb hts ws_a68_Jx4a65c_add_72be8_0 tyJx4a65c tyJx4a65c_ok nmJx4a65c hown hh 0 rfl rfl 2 (by decide) (hts _ (wo_a68_Jx4a65c_add_72be8_in _ (List.mem_of_getElem? (i := 0) rfl))) rfl rfl rfl (Nat.le_of_ble_eq_true rfl) dJx4a65c_add_72be8_19 rfl (fun H locs hh => ?_)
  exact k_endv hx hb hr hlocks hh ⟨rfl, rfl, rfl⟩ [0, 1, 2] [0] rfl rfl rfl (Nat.le_of_ble_eq_true rfl) (Nat.le_of_ble_eq_true rfl) dJx4a65c_add_72be8_22
def wo_a69_Jx4a65c_add_9ea2d : List Cond := [Cond.sameField "java/util/ArrayList" "java/util/AbstractList" "modCount" "I", Cond.fieldLink RJx4a65c 63 "java/util/ArrayList" "modCount" "I", Cond.fieldLink RJx4a65c 9 "java/util/ArrayList" "elementData" "[Ljava/lang/Object;", Cond.fieldLink RJx4a65c 48 "java/util/ArrayList" "size" "I"]
def wk_a69_Jx4a65c_add_9ea2d : List Cond := Cond.code yJx4a65c_add_9ea2d cJx4a65c_add_9ea2d 2 (some .boolean) :: (wo_a69_Jx4a65c_add_9ea2d ++ ((u_ws RJx4a65c TJx4a65c 3) ++ (wsV RJx4a65c 131 RJx4a65c yJx4a65c_add_72be8 wk_a68_Jx4a65c_add_72be8)))
theorem wo_a69_Jx4a65c_add_9ea2d_in : ∀ w ∈ wo_a69_Jx4a65c_add_9ea2d, w ∈ wk_a69_Jx4a65c_add_9ea2d := fun w h => List.mem_cons_of_mem _ (List.mem_append_left _ h)
theorem ws_a69_Jx4a65c_add_9ea2d_0 : ∀ w ∈ u_ws RJx4a65c TJx4a65c 3, w ∈ wk_a69_Jx4a65c_add_9ea2d := fun w h => List.mem_cons_of_mem _ (List.mem_append_right _ (List.mem_append_left _ h))
theorem gi_a69_Jx4a65c_add_9ea2d_1 : GoodIn wk_a69_Jx4a65c_add_9ea2d (wsV RJx4a65c 131 RJx4a65c yJx4a65c_add_72be8 wk_a68_Jx4a65c_add_72be8) := fun w h => ⟨List.mem_cons_of_mem _ (List.mem_append_right _ (List.mem_append_right _ h)), good_of_word (kg_V gk_a68_Jx4a65c_add_72be8 w h)⟩
theorem gk_a69_Jx4a65c_add_9ea2d : ∀ w ∈ wk_a69_Jx4a65c_add_9ea2d, goodWord w = true := List.forall_mem_cons.mpr ⟨rfl, (List.forall_mem_append.mpr ⟨(show ∀ w ∈ wo_a69_Jx4a65c_add_9ea2d, goodWord w = true by decide +kernel), (List.forall_mem_append.mpr ⟨(show ∀ w ∈ u_ws RJx4a65c TJx4a65c 3, goodWord w = true by decide +kernel), (kg_V gk_a68_Jx4a65c_add_72be8)⟩)⟩)⟩
set_option maxHeartbeats 4000000 in
set_option maxRecDepth 100000 in
theorem a69_Jx4a65c_add_9ea2d (l : Launch) (hst : l.stackTraces = false) (D : va_G) (e0 : kE) (q17 : Nat) (q53 : Nat) (q33 : Nat) (q51 : Nat) (y34 : ClassId) (q35 : Nat) (q43 : Nat)  : kM l yJx4a65c_add_9ea2d wk_a69_Jx4a65c_add_9ea2d 1 23 0 0 D kStr e0 [(y34, .object "java/lang/Object")] [(q17, .inr (4, [.int 2, .ref q33, .int 2])), (q53, .inr (14, [.int 120, .ref q51])), (q33, .inl (y34, 10, .inr (.inr (.inr (.inr (va_up ((va_up ((fun _ => none)) (0 : Int32).toNatClampNeg (some q35))) (1 : Int32).toNatClampNeg (some q43)))))))] [.ref q17, .ref q53] (fun v w t => v = some (.int 1) ∧ w = [(q17, .inr (4, [.int 3, .ref q33, .int 3])), (q53, .inr (14, [.int 120, .ref q51])), (q33, .inl (y34, 10, .inr (.inr (.inr (.inr (va_up ((va_up ((va_up ((fun _ => none)) (0 : Int32).toNatClampNeg (some q35))) (1 : Int32).toNatClampNeg (some q43))) (2 : Int32).toNatClampNeg (some q53)))))))] ∧ t = [(y34, .object "java/lang/Object")]) (fun _ => False) := by
  refine k_of (cc := cJx4a65c_add_9ea2d) (maxL := 2) (ret := (some .boolean)) (by decide) rfl (Nat.le_of_ble_eq_true rfl) ?_
  intro p e s m args below meth c A ls hx hb hr hts hown hlocks hml hex hh hl
  have hown : s.vm.findClass RJx4a65c = some m.cls := hown
  have hl : lv_has ls 2 [(0, .ref q17), (1, .ref q53)] := hl
  refine lv_aload_n hx hb dJx4a65c_add_9ea2d_0 rfl (lv_at hl 0 rfl) ?_
  refine lv_dup hx hb dJx4a65c_add_9ea2d_1 rfl ?_
  refine k_getR (ref := "java/util/ArrayList") (C := RJx4a65c) (T := TJx4a65c) (N := 3) (ci := 4) (v := .int 2) hx hb hts ws_a69_Jx4a65c_add_9ea2d_0 hown hh 0 rfl rfl 0 (by decide) (hts _ (wo_a69_Jx4a65c_add_9ea2d_in _ (List.mem_of_getElem? (i := 1) rfl))) (u_same (hts _ (wo_a69_Jx4a65c_add_9ea2d_in _ (List.mem_of_getElem? (i := 0) rfl)))) rfl dJx4a65c_add_9ea2d_2 ?_
  refine lv_iconst (v := 1) hx hb dJx4a65c_add_9ea2d_5 (by decide) ?_
  refine lv_iadd hx hb dJx4a65c_add_9ea2d_6 ?_
  refine W.eq (g2 := F0 m 7 ls [.int 3, .ref q17]) (by first | rfl | decide) ?_
  refine k_putR (ref := "java/util/ArrayList") (C := RJx4a65c) (T := TJx4a65c) (N := 3) (ci := 4) (v := .int 3) (ws' := [(q17, .inr (4, [.int 3, .ref q33, .int 2])), (q53, .inr (14, [.int 120, .ref q51])), (q33, .inl (y34, 10, .inr (.inr (.inr (.inr (va_up ((va_up ((fun _ => none)) (0 : Int32).toNatClampNeg (some q35))) (1 : Int32).toNatClampNeg (some q43)))))))]) hx hb hts ws_a69_Jx4a65c_add_9ea2d_0 tyJx4a65c tyJx4a65c_ok nmJx4a65c hown hh 0 rfl rfl 0 (by decide) (hts _ (wo_a69_Jx4a65c_add_9ea2d_in _ (List.mem_of_getElem? (i := 1) rfl))) (u_same (hts _ (wo_a69_Jx4a65c_add_9ea2d_in _ (List.mem_of_getElem? (i := 0) rfl)))) rfl rfl rfl (Nat.le_of_ble_eq_true rfl) dJx4a65c_add_9ea2d_7 rfl (fun H locs hh => ?_)
  refine lv_aload_n hx hb dJx4a65c_add_9ea2d_10 rfl (lv_at hl 0 rfl) ?_
  refine lv_aload_n hx hb dJx4a65c_add_9ea2d_11 rfl (lv_at hl 1 rfl) ?_
  refine lv_aload_n hx hb dJx4a65c_add_9ea2d_12 rfl (lv_at hl 0 rfl) ?_
  refine k_get (C := RJx4a65c) (T := TJx4a65c) (N := 3) (ci := 4) (v := .ref q33) hx hb hts ws_a69_Jx4a65c_add_9ea2d_0 hown hh 0 rfl rfl 1 (by decide) (hts _ (wo_a69_Jx4a65c_add_9ea2d_in _ (List.mem_of_getElem? (i := 2) rfl))) rfl dJx4a65c_add_9ea2d_13 ?_
  refine lv_aload_n hx hb dJx4a65c_add_9ea2d_16 rfl (lv_at hl 0 rfl) ?_
  refine k_get (C := RJx4a65c) (T := TJx4a65c) (N := 3) (ci := 4) (v := .int 2) hx hb hts ws_a69_Jx4a65c_add_9ea2d_0 hown hh 0 rfl rfl 2 (by decide) (hts _ (wo_a69_Jx4a65c_add_9ea2d_in _ (List.mem_of_getElem? (i := 3) rfl))) rfl dJx4a65c_add_9ea2d_17 ?_
  refine k_callV (C := RJx4a65c) (T := TJx4a65c) (N := 3) (ci := 4) (q0 := 0) (wr := []) (rest := []) (own := RJx4a65c) ⟨hx, hb, hml, hown, hts⟩ (a68_Jx4a65c_add_72be8 l hst D e0 q17 q53 q33 q51 y34 q35 q43 ) (cwV 3 hts gi_a69_Jx4a65c_add_9ea2d_1 rfl rfl rfl (by decide +kernel) ⟨Nat.le_of_ble_eq_true rfl, Nat.le_of_ble_eq_true rfl⟩) hh rfl rfl [0, 1, 2] [] [0] rfl rfl rfl rfl (by decide) rfl rfl hl rfl (Nat.le_of_ble_eq_true rfl) dJx4a65c_add_9ea2d_20 ⟨Nat.le_of_ble_eq_true rfl, (Nat.le_of_ble_eq_true rfl)⟩ (fun _ _ _ _ _ h => h.elim) (fun v w ty1 H locs hp hh => ?_)
  obtain ⟨rfl, rfl, rfl⟩ := hp
  have hh : kH D kStr e0 A s H [(q17, .inr (4, [.int 3, .ref q33, .int 3])), (q53, .inr (14, [.int 120, .ref q51])), (q33, .inl (y34, 10, .inr (.inr (.inr (.inr (va_up ((va_up ((va_up ((fun _ => none)) (0 : Int32).toNatClampNeg (some q35))) (1 : Int32).toNatClampNeg (some q43))) (2 : Int32).toNatClampNeg (some q53)))))))] [(y34, .object "java/lang/Object"), (y34, .object "java/lang/Object")] _ := hh
  refine W.eq (g2 := F0 m 23 ls []) (by first | rfl | decide) ?_
  refine lv_iconst (v := 1) hx hb dJx4a65c_add_9ea2d_23 (by decide) ?_
  exact k_endz (ty := .boolean) (by decide) hx hb hr hlocks hh ⟨rfl, rfl, rfl⟩ [0, 1, 2] [0] rfl rfl rfl (Nat.le_of_ble_eq_true rfl) (Nat.le_of_ble_eq_true rfl) dJx4a65c_add_9ea2d_24
def wo_a70_Jx4a65c_size_8abf5 : List Cond := [Cond.fieldLink RJx4a65c 48 "java/util/ArrayList" "size" "I"]
def wk_a70_Jx4a65c_size_8abf5 : List Cond := Cond.code yJx4a65c_size_8abf5 cJx4a65c_size_8abf5 1 (some .int) :: (wo_a70_Jx4a65c_size_8abf5 ++ (u_ws RJx4a65c TJx4a65c 3))
theorem wo_a70_Jx4a65c_size_8abf5_in : ∀ w ∈ wo_a70_Jx4a65c_size_8abf5, w ∈ wk_a70_Jx4a65c_size_8abf5 := fun w h => List.mem_cons_of_mem _ (List.mem_append_left _ h)
theorem ws_a70_Jx4a65c_size_8abf5_0 : ∀ w ∈ u_ws RJx4a65c TJx4a65c 3, w ∈ wk_a70_Jx4a65c_size_8abf5 := fun w h => List.mem_cons_of_mem _ (List.mem_append_right _ h)
theorem gk_a70_Jx4a65c_size_8abf5 : ∀ w ∈ wk_a70_Jx4a65c_size_8abf5, goodWord w = true := List.forall_mem_cons.mpr ⟨rfl, (List.forall_mem_append.mpr ⟨(show ∀ w ∈ wo_a70_Jx4a65c_size_8abf5, goodWord w = true by decide +kernel), (show ∀ w ∈ u_ws RJx4a65c TJx4a65c 3, goodWord w = true by decide +kernel)⟩)⟩
set_option maxHeartbeats 4000000 in
set_option maxRecDepth 100000 in
theorem a70_Jx4a65c_size_8abf5 (l : Launch) (hst : l.stackTraces = false) (D : va_G) (e0 : kE) (q17 : Nat) (q33 : Nat)  : kM l yJx4a65c_size_8abf5 wk_a70_Jx4a65c_size_8abf5 0 0 0 0 D kStr e0 [] [(q17, .inr (4, [.int 3, .ref q33, .int 3]))] [.ref q17] (fun v w t => v = some (.int 3) ∧ w = [(q17, .inr (4, [.int 3, .ref q33, .int 3]))] ∧ t = []) (fun _ => False) := by
  refine k_of (cc := cJx4a65c_size_8abf5) (maxL := 1) (ret := (some .int)) (by decide) rfl (Nat.le_of_ble_eq_true rfl) ?_
  intro p e s m args below meth c A ls hx hb hr hts hown hlocks hml hex hh hl
  have hown : s.vm.findClass RJx4a65c = some m.cls := hown
  have hl : lv_has ls 1 [(0, .ref q17)] := hl
  refine lv_aload_n hx hb dJx4a65c_size_8abf5_0 rfl (lv_at hl 0 rfl) ?_
  refine k_get (C := RJx4a65c) (T := TJx4a65c) (N := 3) (ci := 4) (v := .int 3) hx hb hts ws_a70_Jx4a65c_size_8abf5_0 hown hh 0 rfl rfl 2 (by decide) (hts _ (wo_a70_Jx4a65c_size_8abf5_in _ (List.mem_of_getElem? (i := 0) rfl))) rfl dJx4a65c_size_8abf5_1 ?_
  exact k_endi hx hb hr hlocks hh ⟨rfl, rfl, rfl⟩ [0] [] rfl rfl rfl (Nat.le_of_ble_eq_true rfl) (Nat.le_of_ble_eq_true rfl) dJx4a65c_size_8abf5_4
def wo_a71_X11_adds : List Cond := [Cond.fieldLink RX11 46 "SegueworksModel" "thrown" "I", Cond.fieldLink RX11 25 "SegueworksModel" "pieces" "Ljava/util/ArrayList;", Cond.classLink RX11 84 RX9, Cond.instantiable RX9 2, Cond.initialized RX9, Cond.methodLink RX11 94 yX9_init, Cond.instanceMethod yX9_init]
def wk_a71_X11_adds : List Cond := Cond.code yX11_adds cX11_adds 5 (some .int) :: (wo_a71_X11_adds ++ ((u_ws RX11 TX11 11) ++ ((wsV RX11 50 RJx4a65c yJx4a65c_size_8abf5 wk_a48_Jx4a65c_size_8abf5) ++ ((u_ws RX9 TX9 2) ++ ((wk_a45_X9_init) ++ ((wsV RX11 58 RJx4a65c yJx4a65c_add_9ea2d wk_a69_Jx4a65c_add_9ea2d) ++ ((wsV RX11 50 RJx4a65c yJx4a65c_size_8abf5 wk_a70_Jx4a65c_size_8abf5) ++ (va_wsS RX11 90 yX11_held wk_a25_X11_held))))))))
theorem wo_a71_X11_adds_in : ∀ w ∈ wo_a71_X11_adds, w ∈ wk_a71_X11_adds := fun w h => List.mem_cons_of_mem _ (List.mem_append_left _ h)
theorem ws_a71_X11_adds_0 : ∀ w ∈ u_ws RX11 TX11 11, w ∈ wk_a71_X11_adds := fun w h => List.mem_cons_of_mem _ (List.mem_append_right _ (List.mem_append_left _ h))
theorem gi_a71_X11_adds_1 : GoodIn wk_a71_X11_adds (wsV RX11 50 RJx4a65c yJx4a65c_size_8abf5 wk_a48_Jx4a65c_size_8abf5) := fun w h => ⟨List.mem_cons_of_mem _ (List.mem_append_right _ (List.mem_append_right _ (List.mem_append_left _ h))), good_of_word (kg_V gk_a48_Jx4a65c_size_8abf5 w h)⟩
theorem ws_a71_X11_adds_2 : ∀ w ∈ u_ws RX9 TX9 2, w ∈ wk_a71_X11_adds := fun w h => List.mem_cons_of_mem _ (List.mem_append_right _ (List.mem_append_right _ (List.mem_append_right _ (List.mem_append_left _ h))))
theorem gi_a71_X11_adds_3 : GoodIn wk_a71_X11_adds (wk_a45_X9_init) := fun w h => ⟨List.mem_cons_of_mem _ (List.mem_append_right _ (List.mem_append_right _ (List.mem_append_right _ (List.mem_append_right _ (List.mem_append_left _ h))))), good_of_word (gk_a45_X9_init w h)⟩
theorem gi_a71_X11_adds_4 : GoodIn wk_a71_X11_adds (wsV RX11 58 RJx4a65c yJx4a65c_add_9ea2d wk_a69_Jx4a65c_add_9ea2d) := fun w h => ⟨List.mem_cons_of_mem _ (List.mem_append_right _ (List.mem_append_right _ (List.mem_append_right _ (List.mem_append_right _ (List.mem_append_right _ (List.mem_append_left _ h)))))), good_of_word (kg_V gk_a69_Jx4a65c_add_9ea2d w h)⟩
theorem gi_a71_X11_adds_5 : GoodIn wk_a71_X11_adds (wsV RX11 50 RJx4a65c yJx4a65c_size_8abf5 wk_a70_Jx4a65c_size_8abf5) := fun w h => ⟨List.mem_cons_of_mem _ (List.mem_append_right _ (List.mem_append_right _ (List.mem_append_right _ (List.mem_append_right _ (List.mem_append_right _ (List.mem_append_right _ (List.mem_append_left _ h))))))), good_of_word (kg_V gk_a70_Jx4a65c_size_8abf5 w h)⟩
theorem gi_a71_X11_adds_6 : GoodIn wk_a71_X11_adds (va_wsS RX11 90 yX11_held wk_a25_X11_held) := fun w h => ⟨List.mem_cons_of_mem _ (List.mem_append_right _ (List.mem_append_right _ (List.mem_append_right _ (List.mem_append_right _ (List.mem_append_right _ (List.mem_append_right _ (List.mem_append_right _ h))))))), good_of_word (kg_S gk_a25_X11_held w h)⟩
theorem gk_a71_X11_adds : ∀ w ∈ wk_a71_X11_adds, goodWord w = true := List.forall_mem_cons.mpr ⟨rfl, (List.forall_mem_append.mpr ⟨(show ∀ w ∈ wo_a71_X11_adds, goodWord w = true by decide +kernel), (List.forall_mem_append.mpr ⟨(show ∀ w ∈ u_ws RX11 TX11 11, goodWord w = true by decide +kernel), (List.forall_mem_append.mpr ⟨(kg_V gk_a48_Jx4a65c_size_8abf5), (List.forall_mem_append.mpr ⟨(show ∀ w ∈ u_ws RX9 TX9 2, goodWord w = true by decide +kernel), (List.forall_mem_append.mpr ⟨gk_a45_X9_init, (List.forall_mem_append.mpr ⟨(kg_V gk_a69_Jx4a65c_add_9ea2d), (List.forall_mem_append.mpr ⟨(kg_V gk_a70_Jx4a65c_size_8abf5), (kg_S gk_a25_X11_held)⟩)⟩)⟩)⟩)⟩)⟩)⟩)⟩
set_option maxHeartbeats 4000000 in
set_option maxRecDepth 100000 in
theorem lp_a71_X11_adds (l : Launch) (hst : l.stackTraces = false) {p : Program} {e : Env} {s : State} {m : MethodId} {args : Array Value} {below : List Frame} {meth : Method} {c : Code} {Q : State → Prop} {A : Nat → Prop} (hx : p.tables.exec = Jvm.exec) (hb : c.code = cX11_adds) (hts : ∀ w ∈ wk_a71_X11_adds, w.before args s = true) (hown : s.vm.findClass RX11 = some m.cls) (hml : c.maxLocals = 5) (D : va_G) (e0 : kE) (q15 : Nat) (q16 : Nat) (q17 : Nat) (q18 : Nat) (q19 : Nat) (q20 : Nat) (q21 : Nat) (q22 : Nat) (q23 : Nat) (q51 : Nat) (y52 : ClassId) (q33 : Nat) (y34 : ClassId) (q35 : Nat) (q43 : Nat)  (kk : ∀ (H : Heap) (locs : List Loc) (ls : Array Slot), kH D kStr e0 A s H [(q15, .inr (16, [.int 0, .ref q16, .ref q17, .ref q18, .ref q19, .ref q20, .ref q21, .ref q22, .ref q23, .int 0, .int 0])), (q51, .inl (y52, 748, .inl (fun _ => 0))), (q33, .inl (y34, 10, .inr (.inr (.inr (.inr (va_up ((va_up ((fun _ => none)) (0 : Int32).toNatClampNeg (some q35))) (1 : Int32).toNatClampNeg (some q43))))))), (q17, .inr (4, [.int 2, .ref q33, .int 2]))] [(y34, .object "java/lang/Object"), (y52, .int)] locs → lv_has ls 5 [(4, .int (nI 748)), (0, .ref q15), (1, .int 120), (2, .ref q51), (3, .int 4)] → W p l e (kRm 2 49 1 2) s m args below meth c H locs 0 0 Q (F0 m 71 ls [])) : ∀ (k i : Nat) (H : Heap) (locs : List Loc) (ls : Array Slot), k + i = 748 → kH D kStr e0 A s H [(q15, .inr (16, [.int 0, .ref q16, .ref q17, .ref q18, .ref q19, .ref q20, .ref q21, .ref q22, .ref q23, .int 0, .int 0])), (q51, .inl (y52, 748, .inl (fun _ => 0))), (q33, .inl (y34, 10, .inr (.inr (.inr (.inr (va_up ((va_up ((fun _ => none)) (0 : Int32).toNatClampNeg (some q35))) (1 : Int32).toNatClampNeg (some q43))))))), (q17, .inr (4, [.int 2, .ref q33, .int 2]))] [(y34, .object "java/lang/Object"), (y52, .int)] locs → lv_has ls 5 [(4, .int (nI i)), (0, .ref q15), (1, .int 120), (2, .ref q51), (3, .int 4)] → W p l e (kRm 2 49 1 2) s m args below meth c H locs 0 0 Q (F0 m 47 ls []) := by
  intro k
  induction k with
  | zero =>
    intro i H locs ls hi0 hh hl
    obtain rfl : i = 748 := by omega
    have hh : kH D kStr e0 A s H [(q15, .inr (16, [.int 0, .ref q16, .ref q17, .ref q18, .ref q19, .ref q20, .ref q21, .ref q22, .ref q23, .int 0, .int 0])), (q51, .inl (y52, 748, .inl (fun _ => 0))), (q33, .inl (y34, 10, .inr (.inr (.inr (.inr (va_up ((va_up ((fun _ => none)) (0 : Int32).toNatClampNeg (some q35))) (1 : Int32).toNatClampNeg (some q43))))))), (q17, .inr (4, [.int 2, .ref q33, .int 2]))] [(y34, .object "java/lang/Object"), (y52, .int)] _ := hh
    have hl : lv_has ls 5 [(4, .int (nI 748)), (0, .ref q15), (1, .int 120), (2, .ref q51), (3, .int 4)] := hl
    refine lv_iload hx hb dX11_adds_47 (lv_at hl 0 rfl) ?_
    refine lv_aload_n hx hb dX11_adds_49 rfl (lv_at hl 3 rfl) ?_
    refine k_alen (v := 748) hx hb hh 1 1 rfl rfl rfl dX11_adds_50 ?_
    refine lv_icmp_ge (tgt := 71) hx hb dX11_adds_51 (by decide) (fun _ => ?_) (fun c_51 => absurd ((show (748 : Int32) ≤ nI 748 by decide)) c_51)
    exact kk _ _ _ hh (lv_sub hl [0, 1, 2, 3, 4] rfl)
  | succ k ih =>
    intro i H locs ls hi0 hh hl
    have hi : i < 748 := by omega
    refine lv_iload hx hb dX11_adds_47 (lv_at hl 0 rfl) ?_
    refine lv_aload_n hx hb dX11_adds_49 rfl (lv_at hl 3 rfl) ?_
    refine k_alen (v := 748) hx hb hh 1 1 rfl rfl rfl dX11_adds_50 ?_
    refine lv_icmp_ge (tgt := 71) hx hb dX11_adds_51 (by decide) (fun c_51 => absurd c_51 ((show ¬ (748 : Int32) ≤ nI i from nI_ge (b := 748) hi (by omega)))) (fun _ => ?_)
    refine lv_aload_n hx hb dX11_adds_54 rfl (lv_at hl 3 rfl) ?_
    refine lv_iload hx hb dX11_adds_55 (lv_at hl 0 rfl) ?_
    refine lv_aload_n hx hb dX11_adds_57 rfl (lv_at hl 3 rfl) ?_
    refine lv_iload hx hb dX11_adds_58 (lv_at hl 0 rfl) ?_
    refine k_iald (v := 0) hx hb hh 1 1 rfl rfl (vp_in_nI hi (by decide)) rfl dX11_adds_60 ?_
    refine k_callS (wr := [(q15, .inr (16, [.int 0, .ref q16, .ref q17, .ref q18, .ref q19, .ref q20, .ref q21, .ref q22, .ref q23, .int 0, .int 0])), (q51, .inl (y52, 748, .inl (fun _ => 0))), (q33, .inl (y34, 10, .inr (.inr (.inr (.inr (va_up ((va_up ((fun _ => none)) (0 : Int32).toNatClampNeg (some q35))) (1 : Int32).toNatClampNeg (some q43))))))), (q17, .inr (4, [.int 2, .ref q33, .int 2]))]) (rest := [.int (nI i), .ref q51]) (own := RX11) ⟨hx, hb, hml, hown, hts⟩ (a25_X11_held l hst D e0  ) (va_cwS 1 hts gi_a71_X11_adds_6 rfl rfl rfl (by decide +kernel) ⟨Nat.le_of_ble_eq_true rfl, Nat.le_of_ble_eq_true rfl⟩) hh [] [0, 1, 2, 3] [] rfl rfl rfl rfl (by decide) rfl rfl hl rfl (Nat.le_of_ble_eq_true rfl) dX11_adds_61 ⟨Nat.le_of_ble_eq_true rfl, (Nat.le_of_ble_eq_true rfl)⟩ (fun _ _ _ _ _ h => h.elim) (fun v w ty1 H locs hp hh => ?_)
    obtain ⟨rfl, rfl, rfl⟩ := hp
    have hh : kH D kStr e0 A s H [(q15, .inr (16, [.int 0, .ref q16, .ref q17, .ref q18, .ref q19, .ref q20, .ref q21, .ref q22, .ref q23, .int 0, .int 0])), (q51, .inl (y52, 748, .inl (fun _ => 0))), (q33, .inl (y34, 10, .inr (.inr (.inr (.inr (va_up ((va_up ((fun _ => none)) (0 : Int32).toNatClampNeg (some q35))) (1 : Int32).toNatClampNeg (some q43))))))), (q17, .inr (4, [.int 2, .ref q33, .int 2]))] [(y34, .object "java/lang/Object"), (y52, .int)] _ := hh
    refine W.eq (g2 := F0 m 64 ls [.int 0, .int (nI i), .ref q51]) (by first | rfl | decide) ?_
    refine k_iast0 hx hb hh 1 1 rfl rfl (vp_in_nI hi (by decide)) dX11_adds_64 (fun H locs hh => ?_)
    refine lv_iinc (v := (nI (i + 1))) (lv' := [(4, .int (nI (i + 1))), (0, .ref q15), (1, .int 120), (2, .ref q51), (3, .int 4)]) hx hb dX11_adds_65 hl (k := 0) rfl (nI_1 i) (by decide) rfl (fun ls hl => ?_)
    refine lv_goto (tgt := 47) hx hb dX11_adds_68 (by decide) ?_
    exact ih (i + 1) _ _ _ (by omega) (hh.sub [0, 1, 2, 3] [0, 1] rfl rfl rfl) (lv_sub hl [0, 1, 2, 3, 4] rfl)
set_option maxHeartbeats 4000000 in
set_option maxRecDepth 100000 in
theorem a71_X11_adds (l : Launch) (hst : l.stackTraces = false) (D : va_G) (e0 : kE) (q15 : Nat) (q51 : Nat) (q16 : Nat) (q17 : Nat) (q18 : Nat) (q19 : Nat) (q20 : Nat) (q21 : Nat) (q22 : Nat) (q23 : Nat) (y52 : ClassId) (q33 : Nat) (y34 : ClassId) (q35 : Nat) (q43 : Nat)  : kM l yX11_adds wk_a71_X11_adds 2 49 1 2 D kStr e0 [(y34, .object "java/lang/Object"), (y52, .int)] [(q15, .inr (16, [.int 0, .ref q16, .ref q17, .ref q18, .ref q19, .ref q20, .ref q21, .ref q22, .ref q23, .int 0, .int 0])), (q51, .inl (y52, 748, .inl (fun _ => 0))), (q17, .inr (4, [.int 2, .ref q33, .int 2])), (q33, .inl (y34, 10, .inr (.inr (.inr (.inr (va_up ((va_up ((fun _ => none)) (0 : Int32).toNatClampNeg (some q35))) (1 : Int32).toNatClampNeg (some q43)))))))] [.ref q15, .int 120, .ref q51, .int 4] (fun v w t => ∃ (q53 : Nat), v = some (.int 2) ∧ w = [(q15, .inr (16, [.int 0, .ref q16, .ref q17, .ref q18, .ref q19, .ref q20, .ref q21, .ref q22, .ref q23, .int 0, .int 0])), (q51, .inl (y52, 748, .inl (fun _ => 0))), (q17, .inr (4, [.int 3, .ref q33, .int 3])), (q33, .inl (y34, 10, .inr (.inr (.inr (.inr (va_up ((va_up ((va_up ((fun _ => none)) (0 : Int32).toNatClampNeg (some q35))) (1 : Int32).toNatClampNeg (some q43))) (2 : Int32).toNatClampNeg (some q53))))))), (q53, .inr (14, [.int 120, .ref q51]))] ∧ t = [(y52, .int), (y34, .object "java/lang/Object")]) (fun _ => False) := by
  refine k_of (cc := cX11_adds) (maxL := 5) (ret := (some .int)) (by decide) rfl (Nat.le_of_ble_eq_true rfl) ?_
  intro p e s m args below meth c A ls hx hb hr hts hown hlocks hml hex hh hl
  have hown : s.vm.findClass RX11 = some m.cls := hown
  have hl : lv_has ls 5 [(0, .ref q15), (1, .int 120), (2, .ref q51), (3, .int 4)] := hl
  refine lv_aload_n hx hb dX11_adds_0 rfl (lv_at hl 0 rfl) ?_
  refine lv_aload_n hx hb dX11_adds_1 rfl (lv_at hl 0 rfl) ?_
  refine k_get (C := RX11) (T := TX11) (N := 11) (ci := 16) (v := .int 0) hx hb hts ws_a71_X11_adds_0 hown hh 0 rfl rfl 0 (by decide) (hts _ (wo_a71_X11_adds_in _ (List.mem_of_getElem? (i := 0) rfl))) rfl dX11_adds_2 ?_
  refine lv_if_le (tgt := 15) hx hb dX11_adds_5 (by decide) (fun _ => ?_) (fun c_5 => absurd (by decide) c_5)
  refine lv_aload_n hx hb dX11_adds_15 rfl (lv_at hl 0 rfl) ?_
  refine k_get (C := RX11) (T := TX11) (N := 11) (ci := 16) (v := .ref q17) hx hb hts ws_a71_X11_adds_0 hown hh 0 rfl rfl 2 (by decide) (hts _ (wo_a71_X11_adds_in _ (List.mem_of_getElem? (i := 1) rfl))) rfl dX11_adds_16 ?_
  refine k_callV (C := RJx4a65c) (T := TJx4a65c) (N := 3) (ci := 4) (q0 := 2) (wr := [(q15, .inr (16, [.int 0, .ref q16, .ref q17, .ref q18, .ref q19, .ref q20, .ref q21, .ref q22, .ref q23, .int 0, .int 0])), (q51, .inl (y52, 748, .inl (fun _ => 0))), (q33, .inl (y34, 10, .inr (.inr (.inr (.inr (va_up ((va_up ((fun _ => none)) (0 : Int32).toNatClampNeg (some q35))) (1 : Int32).toNatClampNeg (some q43)))))))]) (rest := [.ref q15]) (own := RX11) ⟨hx, hb, hml, hown, hts⟩ (a48_Jx4a65c_size_8abf5 l hst D e0 q17 q33 ) (cwV 0 hts gi_a71_X11_adds_1 rfl rfl rfl (by decide +kernel) ⟨Nat.le_of_ble_eq_true rfl, Nat.le_of_ble_eq_true rfl⟩) hh rfl rfl [2] [0, 1, 3] [] rfl rfl rfl rfl (by decide) rfl rfl hl rfl (Nat.le_of_ble_eq_true rfl) dX11_adds_19 ⟨Nat.le_of_ble_eq_true rfl, (Nat.le_of_ble_eq_true rfl)⟩ (fun _ _ _ _ _ h => h.elim) (fun v w ty1 H locs hp hh => ?_)
  obtain ⟨rfl, rfl, rfl⟩ := hp
  have hh : kH D kStr e0 A s H [(q15, .inr (16, [.int 0, .ref q16, .ref q17, .ref q18, .ref q19, .ref q20, .ref q21, .ref q22, .ref q23, .int 0, .int 0])), (q51, .inl (y52, 748, .inl (fun _ => 0))), (q33, .inl (y34, 10, .inr (.inr (.inr (.inr (va_up ((va_up ((fun _ => none)) (0 : Int32).toNatClampNeg (some q35))) (1 : Int32).toNatClampNeg (some q43))))))), (q17, .inr (4, [.int 2, .ref q33, .int 2]))] [(y34, .object "java/lang/Object"), (y52, .int)] _ := hh
  refine W.eq (g2 := F0 m 22 ls [.int 2, .ref q15]) (by first | rfl | decide) ?_
  refine lv_bipush (v := 24) hx hb dX11_adds_22 (by decide) ?_
  refine lv_icmp_ne (tgt := 31) hx hb dX11_adds_24 (by decide) (fun _ => ?_) (fun c_24 => absurd c_24 (by decide))
  refine lv_iconst (v := 0) hx hb dX11_adds_31 (by decide) ?_
  refine k_put (C := RX11) (T := TX11) (N := 11) (ci := 16) (v := .int 0) (ws' := [(q15, .inr (16, [.int 0, .ref q16, .ref q17, .ref q18, .ref q19, .ref q20, .ref q21, .ref q22, .ref q23, .int 0, .int 0])), (q51, .inl (y52, 748, .inl (fun _ => 0))), (q33, .inl (y34, 10, .inr (.inr (.inr (.inr (va_up ((va_up ((fun _ => none)) (0 : Int32).toNatClampNeg (some q35))) (1 : Int32).toNatClampNeg (some q43))))))), (q17, .inr (4, [.int 2, .ref q33, .int 2]))]) hx hb hts ws_a71_X11_adds_0 tyX11 tyX11_ok nmX11 hown hh 0 rfl rfl 0 (by decide) (hts _ (wo_a71_X11_adds_in _ (List.mem_of_getElem? (i := 0) rfl))) rfl rfl rfl (Nat.le_of_ble_eq_true rfl) dX11_adds_32 rfl (fun H locs hh => ?_)
  refine lv_aload_n hx hb dX11_adds_35 rfl (lv_at hl 0 rfl) ?_
  refine k_get (C := RX11) (T := TX11) (N := 11) (ci := 16) (v := .int 0) hx hb hts ws_a71_X11_adds_0 hown hh 0 rfl rfl 0 (by decide) (hts _ (wo_a71_X11_adds_in _ (List.mem_of_getElem? (i := 0) rfl))) rfl dX11_adds_36 ?_
  refine lv_if_le (tgt := 44) hx hb dX11_adds_39 (by decide) (fun _ => ?_) (fun c_39 => absurd (by decide) c_39)
  refine lv_iconst (v := 0) hx hb dX11_adds_44 (by decide) ?_
  refine lv_istore (lv' := [(4, .int 0), (0, .ref q15), (1, .int 120), (2, .ref q51), (3, .int 4)]) hx hb dX11_adds_45 hl (by decide) rfl (fun ls hl => ?_)
  refine lp_a71_X11_adds l hst hx hb hts hown hml D e0 q15 q16 q17 q18 q19 q20 q21 q22 q23 q51 y52 q33 y34 q35 q43  (fun H locs ls hh hl => ?_) 748 0 _ _ _ (by omega) (hh.sub [0, 1, 2, 3] [0, 1] rfl rfl rfl) (lv_sub hl [0, 1, 2, 3, 4] rfl)
  have hh : kH D kStr e0 A s H [(q15, .inr (16, [.int 0, .ref q16, .ref q17, .ref q18, .ref q19, .ref q20, .ref q21, .ref q22, .ref q23, .int 0, .int 0])), (q51, .inl (y52, 748, .inl (fun _ => 0))), (q33, .inl (y34, 10, .inr (.inr (.inr (.inr (va_up ((va_up ((fun _ => none)) (0 : Int32).toNatClampNeg (some q35))) (1 : Int32).toNatClampNeg (some q43))))))), (q17, .inr (4, [.int 2, .ref q33, .int 2]))] [(y34, .object "java/lang/Object"), (y52, .int)] _ := hh
  have hl : lv_has ls 5 [(4, .int (nI 748)), (0, .ref q15), (1, .int 120), (2, .ref q51), (3, .int 4)] := hl
  refine lv_aload_n hx hb dX11_adds_71 rfl (lv_at hl 1 rfl) ?_
  refine k_get (C := RX11) (T := TX11) (N := 11) (ci := 16) (v := .ref q17) hx hb hts ws_a71_X11_adds_0 hown hh 0 rfl rfl 2 (by decide) (hts _ (wo_a71_X11_adds_in _ (List.mem_of_getElem? (i := 1) rfl))) rfl dX11_adds_72 ?_
  refine k_new (C := RX9) (T := TX9) (N := 2) (ci := 14) (fs := [.int 0, .null]) hx hb hts ws_a71_X11_adds_2 tyX9 tyX9_ok hown (hts _ (wo_a71_X11_adds_in _ (List.mem_of_getElem? (i := 2) rfl))) (hts _ (wo_a71_X11_adds_in _ (List.mem_of_getElem? (i := 3) rfl))) (hts _ (wo_a71_X11_adds_in _ (List.mem_of_getElem? (i := 4) rfl))) hh rfl (fun j hj => by rcases (show j = 0 ∨ j = 1 by omega) with rfl | rfl <;> rfl) (Nat.le_of_ble_eq_true rfl) (Nat.le_of_ble_eq_true rfl) dX11_adds_75 (fun q53 H hh => ?_)
  have hh : kH D kStr e0 A s H [(q15, .inr (16, [.int 0, .ref q16, .ref q17, .ref q18, .ref q19, .ref q20, .ref q21, .ref q22, .ref q23, .int 0, .int 0])), (q51, .inl (y52, 748, .inl (fun _ => 0))), (q33, .inl (y34, 10, .inr (.inr (.inr (.inr (va_up ((va_up ((fun _ => none)) (0 : Int32).toNatClampNeg (some q35))) (1 : Int32).toNatClampNeg (some q43))))))), (q17, .inr (4, [.int 2, .ref q33, .int 2])), (q53, .inr (14, [.int 0, .null]))] [(y34, .object "java/lang/Object"), (y52, .int)] _ := hh
  refine lv_dup hx hb dX11_adds_78 rfl ?_
  refine lv_iload_n hx hb dX11_adds_79 rfl (lv_at hl 2 rfl) ?_
  refine lv_aload_n hx hb dX11_adds_80 rfl (lv_at hl 3 rfl) ?_
  refine k_callI (wr := [(q15, .inr (16, [.int 0, .ref q16, .ref q17, .ref q18, .ref q19, .ref q20, .ref q21, .ref q22, .ref q23, .int 0, .int 0])), (q51, .inl (y52, 748, .inl (fun _ => 0))), (q33, .inl (y34, 10, .inr (.inr (.inr (.inr (va_up ((va_up ((fun _ => none)) (0 : Int32).toNatClampNeg (some q35))) (1 : Int32).toNatClampNeg (some q43))))))), (q17, .inr (4, [.int 2, .ref q33, .int 2]))]) (rest := [.ref q53, .ref q17]) (own := RX11) ⟨hx, hb, hml, hown, hts⟩ (a45_X9_init l hst D e0 q53 q51 ) (cwI 2 hts gi_a71_X11_adds_3 rfl rfl rfl (hts _ (wo_a71_X11_adds_in _ (List.mem_of_getElem? (i := 4) rfl))) (hts _ (wo_a71_X11_adds_in _ (List.mem_of_getElem? (i := 5) rfl))) (hts _ (wo_a71_X11_adds_in _ (List.mem_of_getElem? (i := 6) rfl))) rfl (by decide +kernel) ⟨Nat.le_of_ble_eq_true rfl, Nat.le_of_ble_eq_true rfl⟩) hh [4] [0, 1, 2, 3] [] rfl rfl rfl rfl (by decide) rfl rfl hl rfl (Nat.le_of_ble_eq_true rfl) dX11_adds_81 ⟨Nat.le_of_ble_eq_true rfl, (Nat.le_of_ble_eq_true rfl)⟩ (fun v w ty1 H locs hp hh => ?_)
  obtain ⟨rfl, rfl, rfl⟩ := hp
  have hh : kH D kStr e0 A s H [(q15, .inr (16, [.int 0, .ref q16, .ref q17, .ref q18, .ref q19, .ref q20, .ref q21, .ref q22, .ref q23, .int 0, .int 0])), (q51, .inl (y52, 748, .inl (fun _ => 0))), (q33, .inl (y34, 10, .inr (.inr (.inr (.inr (va_up ((va_up ((fun _ => none)) (0 : Int32).toNatClampNeg (some q35))) (1 : Int32).toNatClampNeg (some q43))))))), (q17, .inr (4, [.int 2, .ref q33, .int 2])), (q53, .inr (14, [.int 120, .ref q51]))] [(y34, .object "java/lang/Object"), (y52, .int)] _ := hh
  refine W.eq (g2 := F0 m 84 ls [.ref q53, .ref q17]) (by first | rfl | decide) ?_
  refine k_callV (C := RJx4a65c) (T := TJx4a65c) (N := 3) (ci := 4) (q0 := 3) (wr := [(q15, .inr (16, [.int 0, .ref q16, .ref q17, .ref q18, .ref q19, .ref q20, .ref q21, .ref q22, .ref q23, .int 0, .int 0])), (q51, .inl (y52, 748, .inl (fun _ => 0)))]) (rest := []) (own := RX11) ⟨hx, hb, hml, hown, hts⟩ (a69_Jx4a65c_add_9ea2d l hst D e0 q17 q53 q33 q51 y34 q35 q43 ) (cwV 1 hts gi_a71_X11_adds_4 rfl rfl rfl (by decide +kernel) ⟨Nat.le_of_ble_eq_true rfl, Nat.le_of_ble_eq_true rfl⟩) hh rfl rfl [3, 4, 2] [0, 1] [0] rfl rfl rfl rfl (by decide) rfl rfl hl rfl (Nat.le_of_ble_eq_true rfl) dX11_adds_84 ⟨Nat.le_of_ble_eq_true rfl, (Nat.le_of_ble_eq_true rfl)⟩ (fun _ _ _ _ _ h => h.elim) (fun v w ty1 H locs hp hh => ?_)
  obtain ⟨rfl, rfl, rfl⟩ := hp
  have hh : kH D kStr e0 A s H [(q15, .inr (16, [.int 0, .ref q16, .ref q17, .ref q18, .ref q19, .ref q20, .ref q21, .ref q22, .ref q23, .int 0, .int 0])), (q51, .inl (y52, 748, .inl (fun _ => 0))), (q17, .inr (4, [.int 3, .ref q33, .int 3])), (q53, .inr (14, [.int 120, .ref q51])), (q33, .inl (y34, 10, .inr (.inr (.inr (.inr (va_up ((va_up ((va_up ((fun _ => none)) (0 : Int32).toNatClampNeg (some q35))) (1 : Int32).toNatClampNeg (some q43))) (2 : Int32).toNatClampNeg (some q53)))))))] [(y34, .object "java/lang/Object"), (y52, .int), (y34, .object "java/lang/Object")] _ := hh
  refine W.eq (g2 := F0 m 87 ls [.int 1]) (by first | rfl | decide) ?_
  refine lv_pop hx hb dX11_adds_87 rfl ?_
  refine lv_aload_n hx hb dX11_adds_88 rfl (lv_at hl 1 rfl) ?_
  refine k_get (C := RX11) (T := TX11) (N := 11) (ci := 16) (v := .ref q17) hx hb hts ws_a71_X11_adds_0 hown hh 0 rfl rfl 2 (by decide) (hts _ (wo_a71_X11_adds_in _ (List.mem_of_getElem? (i := 1) rfl))) rfl dX11_adds_89 ?_
  refine k_callV (C := RJx4a65c) (T := TJx4a65c) (N := 3) (ci := 4) (q0 := 2) (wr := [(q15, .inr (16, [.int 0, .ref q16, .ref q17, .ref q18, .ref q19, .ref q20, .ref q21, .ref q22, .ref q23, .int 0, .int 0])), (q51, .inl (y52, 748, .inl (fun _ => 0))), (q53, .inr (14, [.int 120, .ref q51])), (q33, .inl (y34, 10, .inr (.inr (.inr (.inr (va_up ((va_up ((va_up ((fun _ => none)) (0 : Int32).toNatClampNeg (some q35))) (1 : Int32).toNatClampNeg (some q43))) (2 : Int32).toNatClampNeg (some q53)))))))]) (rest := []) (own := RX11) ⟨hx, hb, hml, hown, hts⟩ (a70_Jx4a65c_size_8abf5 l hst D e0 q17 q33 ) (cwV 0 hts gi_a71_X11_adds_5 rfl rfl rfl (by decide +kernel) ⟨Nat.le_of_ble_eq_true rfl, Nat.le_of_ble_eq_true rfl⟩) hh rfl rfl [2] [0, 1, 3, 4] [] rfl rfl rfl rfl (by decide) rfl rfl hl rfl (Nat.le_of_ble_eq_true rfl) dX11_adds_92 ⟨Nat.le_of_ble_eq_true rfl, (Nat.le_of_ble_eq_true rfl)⟩ (fun _ _ _ _ _ h => h.elim) (fun v w ty1 H locs hp hh => ?_)
  obtain ⟨rfl, rfl, rfl⟩ := hp
  have hh : kH D kStr e0 A s H [(q15, .inr (16, [.int 0, .ref q16, .ref q17, .ref q18, .ref q19, .ref q20, .ref q21, .ref q22, .ref q23, .int 0, .int 0])), (q51, .inl (y52, 748, .inl (fun _ => 0))), (q53, .inr (14, [.int 120, .ref q51])), (q33, .inl (y34, 10, .inr (.inr (.inr (.inr (va_up ((va_up ((va_up ((fun _ => none)) (0 : Int32).toNatClampNeg (some q35))) (1 : Int32).toNatClampNeg (some q43))) (2 : Int32).toNatClampNeg (some q53))))))), (q17, .inr (4, [.int 3, .ref q33, .int 3]))] [(y34, .object "java/lang/Object"), (y52, .int), (y34, .object "java/lang/Object")] _ := hh
  refine W.eq (g2 := F0 m 95 ls [.int 3]) (by first | rfl | decide) ?_
  refine lv_iconst (v := 1) hx hb dX11_adds_95 (by decide) ?_
  refine lv_isub hx hb dX11_adds_96 ?_
  refine W.eq (g2 := F0 m 97 ls [.int 2]) (by first | rfl | decide) ?_
  exact k_endi hx hb hr hlocks hh ⟨q53, rfl, rfl, rfl⟩ [0, 1, 4, 3, 2] [1, 0] rfl rfl rfl (Nat.le_of_ble_eq_true rfl) (Nat.le_of_ble_eq_true rfl) dX11_adds_97
def wo_a72_X11_splice : List Cond := [Cond.fieldLink RX11 25 "SegueworksModel" "pieces" "Ljava/util/ArrayList;", Cond.fieldLink RX11 46 "SegueworksModel" "thrown" "I", Cond.methodLink RX11 1 Lib.Math.min.name, Cond.static Lib.Math.min.name, Cond.initialized "java/lang/Math", Cond.code Lib.Math.min.name Lib.Math.min.code 2 (some .int), Cond.arrayClass .int]
def wk_a72_X11_splice : List Cond := Cond.code yX11_splice cX11_splice 10 (some .int) :: (wo_a72_X11_splice ++ ((u_ws RX11 TX11 11) ++ ((wsV RX11 50 RJx4a65c yJx4a65c_size_8abf5 wk_a48_Jx4a65c_size_8abf5) ++ ((va_wsS RX11 54 yX11_in wk_a61_X11_in) ++ ((wsV RX11 104 RX11 yX11_rowOf wk_a66_X11_rowOf) ++ ((va_wsS RX11 54 yX11_in wk_a67_X11_in) ++ (wsV RX11 100 RX11 yX11_adds wk_a71_X11_adds)))))))
theorem wo_a72_X11_splice_in : ∀ w ∈ wo_a72_X11_splice, w ∈ wk_a72_X11_splice := fun w h => List.mem_cons_of_mem _ (List.mem_append_left _ h)
theorem ws_a72_X11_splice_0 : ∀ w ∈ u_ws RX11 TX11 11, w ∈ wk_a72_X11_splice := fun w h => List.mem_cons_of_mem _ (List.mem_append_right _ (List.mem_append_left _ h))
theorem gi_a72_X11_splice_1 : GoodIn wk_a72_X11_splice (wsV RX11 50 RJx4a65c yJx4a65c_size_8abf5 wk_a48_Jx4a65c_size_8abf5) := fun w h => ⟨List.mem_cons_of_mem _ (List.mem_append_right _ (List.mem_append_right _ (List.mem_append_left _ h))), good_of_word (kg_V gk_a48_Jx4a65c_size_8abf5 w h)⟩
theorem gi_a72_X11_splice_2 : GoodIn wk_a72_X11_splice (va_wsS RX11 54 yX11_in wk_a61_X11_in) := fun w h => ⟨List.mem_cons_of_mem _ (List.mem_append_right _ (List.mem_append_right _ (List.mem_append_right _ (List.mem_append_left _ h)))), good_of_word (kg_S gk_a61_X11_in w h)⟩
theorem gi_a72_X11_splice_3 : GoodIn wk_a72_X11_splice (wsV RX11 104 RX11 yX11_rowOf wk_a66_X11_rowOf) := fun w h => ⟨List.mem_cons_of_mem _ (List.mem_append_right _ (List.mem_append_right _ (List.mem_append_right _ (List.mem_append_right _ (List.mem_append_left _ h))))), good_of_word (kg_V gk_a66_X11_rowOf w h)⟩
theorem gi_a72_X11_splice_4 : GoodIn wk_a72_X11_splice (va_wsS RX11 54 yX11_in wk_a67_X11_in) := fun w h => ⟨List.mem_cons_of_mem _ (List.mem_append_right _ (List.mem_append_right _ (List.mem_append_right _ (List.mem_append_right _ (List.mem_append_right _ (List.mem_append_left _ h)))))), good_of_word (kg_S gk_a67_X11_in w h)⟩
theorem gi_a72_X11_splice_5 : GoodIn wk_a72_X11_splice (wsV RX11 100 RX11 yX11_adds wk_a71_X11_adds) := fun w h => ⟨List.mem_cons_of_mem _ (List.mem_append_right _ (List.mem_append_right _ (List.mem_append_right _ (List.mem_append_right _ (List.mem_append_right _ (List.mem_append_right _ h)))))), good_of_word (kg_V gk_a71_X11_adds w h)⟩
theorem gk_a72_X11_splice : ∀ w ∈ wk_a72_X11_splice, goodWord w = true := List.forall_mem_cons.mpr ⟨rfl, (List.forall_mem_append.mpr ⟨(show ∀ w ∈ wo_a72_X11_splice, goodWord w = true by decide +kernel), (List.forall_mem_append.mpr ⟨(show ∀ w ∈ u_ws RX11 TX11 11, goodWord w = true by decide +kernel), (List.forall_mem_append.mpr ⟨(kg_V gk_a48_Jx4a65c_size_8abf5), (List.forall_mem_append.mpr ⟨(kg_S gk_a61_X11_in), (List.forall_mem_append.mpr ⟨(kg_V gk_a66_X11_rowOf), (List.forall_mem_append.mpr ⟨(kg_S gk_a67_X11_in), (kg_V gk_a71_X11_adds)⟩)⟩)⟩)⟩)⟩)⟩)⟩
set_option maxHeartbeats 4000000 in
set_option maxRecDepth 100000 in
theorem lp_a72_X11_splice (l : Launch) (hst : l.stackTraces = false) {p : Program} {e : Env} {s : State} {m : MethodId} {args : Array Value} {below : List Frame} {meth : Method} {c : Code} {Q : State → Prop} {A : Nat → Prop} (hx : p.tables.exec = Jvm.exec) (hb : c.code = cX11_splice) (hts : ∀ w ∈ wk_a72_X11_splice, w.before args s = true) (hown : s.vm.findClass RX11 = some m.cls) (hml : c.maxLocals = 10) (D : va_G) (e0 : kE) (q44 : Nat) (y45 : ClassId) (q15 : Nat) (q16 : Nat) (q17 : Nat) (q18 : Nat) (q19 : Nat) (q20 : Nat) (q21 : Nat) (q22 : Nat) (q23 : Nat) (q33 : Nat) (y34 : ClassId) (q35 : Nat) (q43 : Nat) (q51 : Nat) (y52 : ClassId)  (kk : ∀ (H : Heap) (locs : List Loc) (ls : Array Slot), kH D kStr e0 A s H [(q44, .inl (y45, 374, .inl (fun _ => 0))), (q15, .inr (16, [.int 0, .ref q16, .ref q17, .ref q18, .ref q19, .ref q20, .ref q21, .ref q22, .ref q23, .int 0, .int 0])), (q17, .inr (4, [.int 2, .ref q33, .int 2])), (q33, .inl (y34, 10, .inr (.inr (.inr (.inr (va_up ((va_up ((fun _ => none)) (0 : Int32).toNatClampNeg (some q35))) (1 : Int32).toNatClampNeg (some q43))))))), (q43, .inr (14, [.int 120, .ref q44])), (q51, .inl (y52, 748, .inl (fun _ => 0)))] [(y34, .object "java/lang/Object"), (y45, .int), (y52, .int)] locs → lv_has ls 10 [(8, .int (nI 748)), (7, .int 374), (6, .ref q51), (5, .ref q44), (4, .ref q44), (0, .ref q15), (1, .int 1), (2, .int 1), (3, .int 0)] → W p l e (kRm 4 85 2 750) s m args below meth c H locs 1 748 Q (F0 m 227 ls [])) : ∀ (k i : Nat) (H : Heap) (locs : List Loc) (ls : Array Slot), k + i = 748 → kH D kStr e0 A s H [(q44, .inl (y45, 374, .inl (fun _ => 0))), (q15, .inr (16, [.int 0, .ref q16, .ref q17, .ref q18, .ref q19, .ref q20, .ref q21, .ref q22, .ref q23, .int 0, .int 0])), (q17, .inr (4, [.int 2, .ref q33, .int 2])), (q33, .inl (y34, 10, .inr (.inr (.inr (.inr (va_up ((va_up ((fun _ => none)) (0 : Int32).toNatClampNeg (some q35))) (1 : Int32).toNatClampNeg (some q43))))))), (q43, .inr (14, [.int 120, .ref q44])), (q51, .inl (y52, 748, .inl (fun _ => 0)))] [(y34, .object "java/lang/Object"), (y45, .int), (y52, .int)] locs → lv_has ls 10 [(8, .int (nI i)), (7, .int 374), (6, .ref q51), (5, .ref q44), (4, .ref q44), (0, .ref q15), (1, .int 1), (2, .int 1), (3, .int 0)] → W p l e (kRm 4 85 2 750) s m args below meth c H locs 1 748 Q (F0 m 149 ls []) := by
  intro k
  induction k with
  | zero =>
    intro i H locs ls hi0 hh hl
    obtain rfl : i = 748 := by omega
    have hh : kH D kStr e0 A s H [(q44, .inl (y45, 374, .inl (fun _ => 0))), (q15, .inr (16, [.int 0, .ref q16, .ref q17, .ref q18, .ref q19, .ref q20, .ref q21, .ref q22, .ref q23, .int 0, .int 0])), (q17, .inr (4, [.int 2, .ref q33, .int 2])), (q33, .inl (y34, 10, .inr (.inr (.inr (.inr (va_up ((va_up ((fun _ => none)) (0 : Int32).toNatClampNeg (some q35))) (1 : Int32).toNatClampNeg (some q43))))))), (q43, .inr (14, [.int 120, .ref q44])), (q51, .inl (y52, 748, .inl (fun _ => 0)))] [(y34, .object "java/lang/Object"), (y45, .int), (y52, .int)] _ := hh
    have hl : lv_has ls 10 [(8, .int (nI 748)), (7, .int 374), (6, .ref q51), (5, .ref q44), (4, .ref q44), (0, .ref q15), (1, .int 1), (2, .int 1), (3, .int 0)] := hl
    refine lv_iload hx hb dX11_splice_149 (lv_at hl 0 rfl) ?_
    refine lv_aload hx hb dX11_splice_151 (lv_at hl 2 rfl) ?_
    refine k_alen (v := 748) hx hb hh 5 2 rfl rfl rfl dX11_splice_153 ?_
    refine lv_icmp_ge (tgt := 227) hx hb dX11_splice_154 (by decide) (fun _ => ?_) (fun c_154 => absurd ((show (748 : Int32) ≤ nI 748 by decide)) c_154)
    exact kk _ _ _ hh (lv_sub hl [0, 1, 2, 3, 4, 5, 6, 7, 8] rfl)
  | succ k ih =>
    intro i H locs ls hi0 hh hl
    have hi : i < 748 := by omega
    rcases Nat.lt_or_ge i 374 with h7 | h7
    · refine lv_iload hx hb dX11_splice_149 (lv_at hl 0 rfl) ?_
      refine lv_aload hx hb dX11_splice_151 (lv_at hl 2 rfl) ?_
      refine k_alen (v := 748) hx hb hh 5 2 rfl rfl rfl dX11_splice_153 ?_
      refine lv_icmp_ge (tgt := 227) hx hb dX11_splice_154 (by decide) (fun c_154 => absurd c_154 ((show ¬ (748 : Int32) ≤ nI i from nI_ge (b := 748) hi (by omega)))) (fun _ => ?_)
      refine lv_iload hx hb dX11_splice_157 (lv_at hl 0 rfl) ?_
      refine lv_iload hx hb dX11_splice_159 (lv_at hl 1 rfl) ?_
      refine lv_isub hx hb dX11_splice_161 ?_
      refine W.eq (g2 := F0 m 162 ls [.int (nI i - 374)]) (congrArg (fun z9 : Int32 => F0 m 162 ls (.int z9 :: [])) (show (nI i) - 374 = (nI i - 374) from rfl)) ?_
      refine lv_istore (lv' := [(9, .int (nI i - 374)), (8, .int (nI i)), (7, .int 374), (6, .ref q51), (5, .ref q44), (4, .ref q44), (0, .ref q15), (1, .int 1), (2, .int 1), (3, .int 0)]) hx hb dX11_splice_162 hl (by decide) rfl (fun ls hl => ?_)
      refine lv_aload hx hb dX11_splice_164 (lv_at hl 3 rfl) ?_
      refine lv_iload hx hb dX11_splice_166 (lv_at hl 1 rfl) ?_
      refine lv_iload hx hb dX11_splice_168 (lv_at hl 0 rfl) ?_
      refine lv_if_ge (tgt := 181) hx hb dX11_splice_170 (by decide) (fun c_170 => absurd c_170 (nI_subneg (b := 374) h7 (by decide))) (fun _ => ?_)
      refine lv_aload hx hb dX11_splice_173 (lv_at hl 5 rfl) ?_
      refine lv_iload hx hb dX11_splice_175 (lv_at hl 1 rfl) ?_
      refine k_iald (v := 0) hx hb hh 0 1 rfl rfl (vp_in_nI h7 (by decide)) rfl dX11_splice_177 ?_
      refine lv_goto (tgt := 220) hx hb dX11_splice_178 (by decide) ?_
      refine k_iast0 hx hb hh 5 2 rfl rfl (vp_in_nI hi (by decide)) dX11_splice_220 (fun H locs hh => ?_)
      refine lv_iinc (v := (nI (i + 1))) (lv' := [(8, .int (nI (i + 1))), (9, .int (nI i - 374)), (7, .int 374), (6, .ref q51), (5, .ref q44), (4, .ref q44), (0, .ref q15), (1, .int 1), (2, .int 1), (3, .int 0)]) hx hb dX11_splice_221 hl (k := 1) rfl (nI_1 i) (by decide) rfl (fun ls hl => ?_)
      refine lv_goto (tgt := 149) hx hb dX11_splice_224 (by decide) ?_
      exact ih (i + 1) _ _ _ (by omega) (hh.sub [0, 1, 2, 3, 4, 5] [0, 1, 2] rfl rfl rfl) (lv_sub hl [0, 2, 3, 4, 5, 6, 7, 8, 9] rfl)
    · refine lv_iload hx hb dX11_splice_149 (lv_at hl 0 rfl) ?_
      refine lv_aload hx hb dX11_splice_151 (lv_at hl 2 rfl) ?_
      refine k_alen (v := 748) hx hb hh 5 2 rfl rfl rfl dX11_splice_153 ?_
      refine lv_icmp_ge (tgt := 227) hx hb dX11_splice_154 (by decide) (fun c_154 => absurd c_154 ((show ¬ (748 : Int32) ≤ nI i from nI_ge (b := 748) hi (by omega)))) (fun _ => ?_)
      refine lv_iload hx hb dX11_splice_157 (lv_at hl 0 rfl) ?_
      refine lv_iload hx hb dX11_splice_159 (lv_at hl 1 rfl) ?_
      refine lv_isub hx hb dX11_splice_161 ?_
      refine W.eq (g2 := F0 m 162 ls [.int (nI (i - 374))]) (congrArg (fun z9 : Int32 => F0 m 162 ls (.int z9 :: [])) (show (nI i) - 374 = (nI (i - 374)) from nI_sub (b := 374) h7)) ?_
      refine lv_istore (lv' := [(9, .int (nI (i - 374))), (8, .int (nI i)), (7, .int 374), (6, .ref q51), (5, .ref q44), (4, .ref q44), (0, .ref q15), (1, .int 1), (2, .int 1), (3, .int 0)]) hx hb dX11_splice_162 hl (by decide) rfl (fun ls hl => ?_)
      refine lv_aload hx hb dX11_splice_164 (lv_at hl 3 rfl) ?_
      refine lv_iload hx hb dX11_splice_166 (lv_at hl 1 rfl) ?_
      refine lv_iload hx hb dX11_splice_168 (lv_at hl 0 rfl) ?_
      refine lv_if_ge (tgt := 181) hx hb dX11_splice_170 (by decide) (fun _ => ?_) (fun c_170 => absurd (nI_pos' (by omega)) c_170)
      refine lv_iload hx hb dX11_splice_181 (lv_at hl 0 rfl) ?_
      refine lv_iload_n hx hb dX11_splice_183 rfl (lv_at hl 9 rfl) ?_
      refine lv_icmp_lt (tgt := 195) hx hb dX11_splice_184 (by decide) (fun c_184 => absurd c_184 (nI_pos (by omega))) (fun _ => ?_)
      refine lv_aload hx hb dX11_splice_187 (lv_at hl 4 rfl) ?_
      refine lv_iload hx hb dX11_splice_189 (lv_at hl 0 rfl) ?_
      refine k_iald (v := 0) hx hb hh 0 1 rfl rfl (vp_in_nI (show i - 374 < 374 by omega) (by decide)) rfl dX11_splice_191 ?_
      refine lv_goto (tgt := 220) hx hb dX11_splice_192 (by decide) ?_
      refine k_iast0 hx hb hh 5 2 rfl rfl (vp_in_nI hi (by decide)) dX11_splice_220 (fun H locs hh => ?_)
      refine lv_iinc (v := (nI (i + 1))) (lv' := [(8, .int (nI (i + 1))), (9, .int (nI (i - 374))), (7, .int 374), (6, .ref q51), (5, .ref q44), (4, .ref q44), (0, .ref q15), (1, .int 1), (2, .int 1), (3, .int 0)]) hx hb dX11_splice_221 hl (k := 1) rfl (nI_1 i) (by decide) rfl (fun ls hl => ?_)
      refine lv_goto (tgt := 149) hx hb dX11_splice_224 (by decide) ?_
      exact ih (i + 1) _ _ _ (by omega) (hh.sub [0, 1, 2, 3, 4, 5] [0, 1, 2] rfl rfl rfl) (lv_sub hl [0, 2, 3, 4, 5, 6, 7, 8, 9] rfl)
set_option maxHeartbeats 4000000 in
set_option maxRecDepth 100000 in
theorem a72_X11_splice (l : Launch) (hst : l.stackTraces = false) (D : va_G) (e0 : kE) (q15 : Nat) (q16 : Nat) (q17 : Nat) (q18 : Nat) (q19 : Nat) (q20 : Nat) (q21 : Nat) (q22 : Nat) (q23 : Nat) (q33 : Nat) (y34 : ClassId) (q35 : Nat) (q43 : Nat) (q44 : Nat) (y45 : ClassId)  : kM l yX11_splice wk_a72_X11_splice 4 85 2 750 D kStr e0 [(y34, .object "java/lang/Object"), (y45, .int)] [(q15, .inr (16, [.int 0, .ref q16, .ref q17, .ref q18, .ref q19, .ref q20, .ref q21, .ref q22, .ref q23, .int 0, .int 0])), (q17, .inr (4, [.int 2, .ref q33, .int 2])), (q33, .inl (y34, 10, .inr (.inr (.inr (.inr (va_up ((va_up ((fun _ => none)) (0 : Int32).toNatClampNeg (some q35))) (1 : Int32).toNatClampNeg (some q43))))))), (q43, .inr (14, [.int 120, .ref q44])), (q44, .inl (y45, 374, .inl (fun _ => 0)))] [.ref q15, .int 1, .int 1, .int 0] (fun v w t => ∃ (q53 : Nat), ∃ (q51 : Nat), ∃ (y52 : ClassId), v = some (.int 2) ∧ w = [(q15, .inr (16, [.int 0, .ref q16, .ref q17, .ref q18, .ref q19, .ref q20, .ref q21, .ref q22, .ref q23, .int 0, .int 0])), (q17, .inr (4, [.int 3, .ref q33, .int 3])), (q33, .inl (y34, 10, .inr (.inr (.inr (.inr (va_up ((va_up ((va_up ((fun _ => none)) (0 : Int32).toNatClampNeg (some q35))) (1 : Int32).toNatClampNeg (some q43))) (2 : Int32).toNatClampNeg (some q53))))))), (q43, .inr (14, [.int 120, .ref q44])), (q44, .inl (y45, 374, .inl (fun _ => 0))), (q53, .inr (14, [.int 120, .ref q51])), (q51, .inl (y52, 748, .inl (fun _ => 0)))] ∧ t = [(y34, .object "java/lang/Object"), (y45, .int), (y52, .int)]) (fun _ => False) := by
  refine k_of (cc := cX11_splice) (maxL := 10) (ret := (some .int)) (by decide) rfl (Nat.le_of_ble_eq_true rfl) ?_
  intro p e s m args below meth c A ls hx hb hr hts hown hlocks hml hex hh hl
  have hown : s.vm.findClass RX11 = some m.cls := hown
  have hl : lv_has ls 10 [(0, .ref q15), (1, .int 1), (2, .int 1), (3, .int 0)] := hl
  refine lv_aload_n hx hb dX11_splice_0 rfl (lv_at hl 0 rfl) ?_
  refine lv_iload_n hx hb dX11_splice_1 rfl (lv_at hl 1 rfl) ?_
  refine lv_i2l (v := 1) hx hb dX11_splice_2 (by decide) ?_
  refine lv_lconst (v := 0) hx hb dX11_splice_3 (by decide) ?_
  refine lv_aload_n hx hb dX11_splice_4 rfl (lv_at hl 0 rfl) ?_
  refine k_get (C := RX11) (T := TX11) (N := 11) (ci := 16) (v := .ref q17) hx hb hts ws_a72_X11_splice_0 hown hh 0 rfl rfl 2 (by decide) (hts _ (wo_a72_X11_splice_in _ (List.mem_of_getElem? (i := 0) rfl))) rfl dX11_splice_5 ?_
  refine k_callV (C := RJx4a65c) (T := TJx4a65c) (N := 3) (ci := 4) (q0 := 1) (wr := [(q15, .inr (16, [.int 0, .ref q16, .ref q17, .ref q18, .ref q19, .ref q20, .ref q21, .ref q22, .ref q23, .int 0, .int 0])), (q33, .inl (y34, 10, .inr (.inr (.inr (.inr (va_up ((va_up ((fun _ => none)) (0 : Int32).toNatClampNeg (some q35))) (1 : Int32).toNatClampNeg (some q43))))))), (q43, .inr (14, [.int 120, .ref q44])), (q44, .inl (y45, 374, .inl (fun _ => 0)))]) (rest := [.long 0, .long 1, .ref q15]) (own := RX11) ⟨hx, hb, hml, hown, hts⟩ (a48_Jx4a65c_size_8abf5 l hst D e0 q17 q33 ) (cwV 0 hts gi_a72_X11_splice_1 rfl rfl rfl (by decide +kernel) ⟨Nat.le_of_ble_eq_true rfl, Nat.le_of_ble_eq_true rfl⟩) hh rfl rfl [1] [0, 2, 3, 4] [] rfl rfl rfl rfl (by decide) rfl rfl hl rfl (Nat.le_of_ble_eq_true rfl) dX11_splice_8 ⟨Nat.le_of_ble_eq_true rfl, (Nat.le_of_ble_eq_true rfl)⟩ (fun _ _ _ _ _ h => h.elim) (fun v w ty1 H locs hp hh => ?_)
  obtain ⟨rfl, rfl, rfl⟩ := hp
  have hh : kH D kStr e0 A s H [(q15, .inr (16, [.int 0, .ref q16, .ref q17, .ref q18, .ref q19, .ref q20, .ref q21, .ref q22, .ref q23, .int 0, .int 0])), (q33, .inl (y34, 10, .inr (.inr (.inr (.inr (va_up ((va_up ((fun _ => none)) (0 : Int32).toNatClampNeg (some q35))) (1 : Int32).toNatClampNeg (some q43))))))), (q43, .inr (14, [.int 120, .ref q44])), (q44, .inl (y45, 374, .inl (fun _ => 0))), (q17, .inr (4, [.int 2, .ref q33, .int 2]))] [(y34, .object "java/lang/Object"), (y45, .int)] _ := hh
  refine W.eq (g2 := F0 m 11 ls [.int 2, .long 0, .long 1, .ref q15]) (by first | rfl | decide) ?_
  refine lv_iconst (v := 1) hx hb dX11_splice_11 (by decide) ?_
  refine lv_isub hx hb dX11_splice_12 ?_
  refine W.eq (g2 := F0 m 13 ls [.int 1, .long 0, .long 1, .ref q15]) (by first | rfl | decide) ?_
  refine lv_i2l (v := 1) hx hb dX11_splice_13 (by decide) ?_
  refine k_callS (wr := [(q15, .inr (16, [.int 0, .ref q16, .ref q17, .ref q18, .ref q19, .ref q20, .ref q21, .ref q22, .ref q23, .int 0, .int 0])), (q33, .inl (y34, 10, .inr (.inr (.inr (.inr (va_up ((va_up ((fun _ => none)) (0 : Int32).toNatClampNeg (some q35))) (1 : Int32).toNatClampNeg (some q43))))))), (q43, .inr (14, [.int 120, .ref q44])), (q44, .inl (y45, 374, .inl (fun _ => 0))), (q17, .inr (4, [.int 2, .ref q33, .int 2]))]) (rest := [.ref q15]) (own := RX11) ⟨hx, hb, hml, hown, hts⟩ (a61_X11_in l hst D e0  ) (va_cwS 3 hts gi_a72_X11_splice_2 rfl rfl rfl (by decide +kernel) ⟨Nat.le_of_ble_eq_true rfl, Nat.le_of_ble_eq_true rfl⟩) hh [] [0, 1, 2, 3, 4] [] rfl rfl rfl rfl (by decide) rfl rfl hl rfl (Nat.le_of_ble_eq_true rfl) dX11_splice_14 ⟨Nat.le_of_ble_eq_true rfl, (Nat.le_of_ble_eq_true rfl)⟩ (fun _ _ _ _ _ h => h.elim) (fun v w ty1 H locs hp hh => ?_)
  obtain ⟨rfl, rfl, rfl⟩ := hp
  have hh : kH D kStr e0 A s H [(q15, .inr (16, [.int 0, .ref q16, .ref q17, .ref q18, .ref q19, .ref q20, .ref q21, .ref q22, .ref q23, .int 0, .int 0])), (q33, .inl (y34, 10, .inr (.inr (.inr (.inr (va_up ((va_up ((fun _ => none)) (0 : Int32).toNatClampNeg (some q35))) (1 : Int32).toNatClampNeg (some q43))))))), (q43, .inr (14, [.int 120, .ref q44])), (q44, .inl (y45, 374, .inl (fun _ => 0))), (q17, .inr (4, [.int 2, .ref q33, .int 2]))] [(y34, .object "java/lang/Object"), (y45, .int)] _ := hh
  refine W.eq (g2 := F0 m 17 ls [.int 1, .ref q15]) (by first | rfl | decide) ?_
  refine lv_if_eq (tgt := 43) hx hb dX11_splice_17 (by decide) (fun c_17 => absurd c_17 (by decide)) (fun _ => ?_)
  refine lv_iload_n hx hb dX11_splice_20 rfl (lv_at hl 2 rfl) ?_
  refine lv_i2l (v := 1) hx hb dX11_splice_21 (by decide) ?_
  refine lv_lconst (v := 0) hx hb dX11_splice_22 (by decide) ?_
  refine lv_aload_n hx hb dX11_splice_23 rfl (lv_at hl 0 rfl) ?_
  refine k_get (C := RX11) (T := TX11) (N := 11) (ci := 16) (v := .ref q17) hx hb hts ws_a72_X11_splice_0 hown hh 0 rfl rfl 2 (by decide) (hts _ (wo_a72_X11_splice_in _ (List.mem_of_getElem? (i := 0) rfl))) rfl dX11_splice_24 ?_
  refine k_callV (C := RJx4a65c) (T := TJx4a65c) (N := 3) (ci := 4) (q0 := 4) (wr := [(q15, .inr (16, [.int 0, .ref q16, .ref q17, .ref q18, .ref q19, .ref q20, .ref q21, .ref q22, .ref q23, .int 0, .int 0])), (q33, .inl (y34, 10, .inr (.inr (.inr (.inr (va_up ((va_up ((fun _ => none)) (0 : Int32).toNatClampNeg (some q35))) (1 : Int32).toNatClampNeg (some q43))))))), (q43, .inr (14, [.int 120, .ref q44])), (q44, .inl (y45, 374, .inl (fun _ => 0)))]) (rest := [.long 0, .long 1, .ref q15]) (own := RX11) ⟨hx, hb, hml, hown, hts⟩ (a48_Jx4a65c_size_8abf5 l hst D e0 q17 q33 ) (cwV 0 hts gi_a72_X11_splice_1 rfl rfl rfl (by decide +kernel) ⟨Nat.le_of_ble_eq_true rfl, Nat.le_of_ble_eq_true rfl⟩) hh rfl rfl [4] [0, 1, 2, 3] [] rfl rfl rfl rfl (by decide) rfl rfl hl rfl (Nat.le_of_ble_eq_true rfl) dX11_splice_27 ⟨Nat.le_of_ble_eq_true rfl, (Nat.le_of_ble_eq_true rfl)⟩ (fun _ _ _ _ _ h => h.elim) (fun v w ty1 H locs hp hh => ?_)
  obtain ⟨rfl, rfl, rfl⟩ := hp
  have hh : kH D kStr e0 A s H [(q15, .inr (16, [.int 0, .ref q16, .ref q17, .ref q18, .ref q19, .ref q20, .ref q21, .ref q22, .ref q23, .int 0, .int 0])), (q33, .inl (y34, 10, .inr (.inr (.inr (.inr (va_up ((va_up ((fun _ => none)) (0 : Int32).toNatClampNeg (some q35))) (1 : Int32).toNatClampNeg (some q43))))))), (q43, .inr (14, [.int 120, .ref q44])), (q44, .inl (y45, 374, .inl (fun _ => 0))), (q17, .inr (4, [.int 2, .ref q33, .int 2]))] [(y34, .object "java/lang/Object"), (y45, .int)] _ := hh
  refine W.eq (g2 := F0 m 30 ls [.int 2, .long 0, .long 1, .ref q15]) (by first | rfl | decide) ?_
  refine lv_iconst (v := 1) hx hb dX11_splice_30 (by decide) ?_
  refine lv_isub hx hb dX11_splice_31 ?_
  refine W.eq (g2 := F0 m 32 ls [.int 1, .long 0, .long 1, .ref q15]) (by first | rfl | decide) ?_
  refine lv_i2l (v := 1) hx hb dX11_splice_32 (by decide) ?_
  refine k_callS (wr := [(q15, .inr (16, [.int 0, .ref q16, .ref q17, .ref q18, .ref q19, .ref q20, .ref q21, .ref q22, .ref q23, .int 0, .int 0])), (q33, .inl (y34, 10, .inr (.inr (.inr (.inr (va_up ((va_up ((fun _ => none)) (0 : Int32).toNatClampNeg (some q35))) (1 : Int32).toNatClampNeg (some q43))))))), (q43, .inr (14, [.int 120, .ref q44])), (q44, .inl (y45, 374, .inl (fun _ => 0))), (q17, .inr (4, [.int 2, .ref q33, .int 2]))]) (rest := [.ref q15]) (own := RX11) ⟨hx, hb, hml, hown, hts⟩ (a61_X11_in l hst D e0  ) (va_cwS 3 hts gi_a72_X11_splice_2 rfl rfl rfl (by decide +kernel) ⟨Nat.le_of_ble_eq_true rfl, Nat.le_of_ble_eq_true rfl⟩) hh [] [0, 1, 2, 3, 4] [] rfl rfl rfl rfl (by decide) rfl rfl hl rfl (Nat.le_of_ble_eq_true rfl) dX11_splice_33 ⟨Nat.le_of_ble_eq_true rfl, (Nat.le_of_ble_eq_true rfl)⟩ (fun _ _ _ _ _ h => h.elim) (fun v w ty1 H locs hp hh => ?_)
  obtain ⟨rfl, rfl, rfl⟩ := hp
  have hh : kH D kStr e0 A s H [(q15, .inr (16, [.int 0, .ref q16, .ref q17, .ref q18, .ref q19, .ref q20, .ref q21, .ref q22, .ref q23, .int 0, .int 0])), (q33, .inl (y34, 10, .inr (.inr (.inr (.inr (va_up ((va_up ((fun _ => none)) (0 : Int32).toNatClampNeg (some q35))) (1 : Int32).toNatClampNeg (some q43))))))), (q43, .inr (14, [.int 120, .ref q44])), (q44, .inl (y45, 374, .inl (fun _ => 0))), (q17, .inr (4, [.int 2, .ref q33, .int 2]))] [(y34, .object "java/lang/Object"), (y45, .int)] _ := hh
  refine W.eq (g2 := F0 m 36 ls [.int 1, .ref q15]) (by first | rfl | decide) ?_
  refine lv_if_eq (tgt := 43) hx hb dX11_splice_36 (by decide) (fun c_36 => absurd c_36 (by decide)) (fun _ => ?_)
  refine lv_iconst (v := 0) hx hb dX11_splice_39 (by decide) ?_
  refine lv_goto (tgt := 44) hx hb dX11_splice_40 (by decide) ?_
  refine k_put (C := RX11) (T := TX11) (N := 11) (ci := 16) (v := .int 0) (ws' := [(q15, .inr (16, [.int 0, .ref q16, .ref q17, .ref q18, .ref q19, .ref q20, .ref q21, .ref q22, .ref q23, .int 0, .int 0])), (q33, .inl (y34, 10, .inr (.inr (.inr (.inr (va_up ((va_up ((fun _ => none)) (0 : Int32).toNatClampNeg (some q35))) (1 : Int32).toNatClampNeg (some q43))))))), (q43, .inr (14, [.int 120, .ref q44])), (q44, .inl (y45, 374, .inl (fun _ => 0))), (q17, .inr (4, [.int 2, .ref q33, .int 2]))]) hx hb hts ws_a72_X11_splice_0 tyX11 tyX11_ok nmX11 hown hh 0 rfl rfl 0 (by decide) (hts _ (wo_a72_X11_splice_in _ (List.mem_of_getElem? (i := 1) rfl))) rfl rfl rfl (Nat.le_of_ble_eq_true rfl) dX11_splice_44 rfl (fun H locs hh => ?_)
  refine lv_aload_n hx hb dX11_splice_47 rfl (lv_at hl 0 rfl) ?_
  refine k_get (C := RX11) (T := TX11) (N := 11) (ci := 16) (v := .int 0) hx hb hts ws_a72_X11_splice_0 hown hh 0 rfl rfl 0 (by decide) (hts _ (wo_a72_X11_splice_in _ (List.mem_of_getElem? (i := 1) rfl))) rfl dX11_splice_48 ?_
  refine lv_if_le (tgt := 56) hx hb dX11_splice_51 (by decide) (fun _ => ?_) (fun c_51 => absurd (by decide) c_51)
  refine lv_aload_n hx hb dX11_splice_56 rfl (lv_at hl 0 rfl) ?_
  refine lv_iload_n hx hb dX11_splice_57 rfl (lv_at hl 1 rfl) ?_
  refine k_callV (C := RX11) (T := TX11) (N := 11) (ci := 16) (q0 := 0) (wr := [(q44, .inl (y45, 374, .inl (fun _ => 0)))]) (rest := []) (own := RX11) ⟨hx, hb, hml, hown, hts⟩ (a66_X11_rowOf l hst D e0 q15 q16 q17 q18 q19 q20 q21 q22 q23 q33 y34 q35 q43 q44 ) (cwV 1 hts gi_a72_X11_splice_3 rfl rfl rfl (by decide +kernel) ⟨Nat.le_of_ble_eq_true rfl, Nat.le_of_ble_eq_true rfl⟩) hh rfl rfl [0, 4, 1, 2] [3] [0] rfl rfl rfl rfl (by decide) rfl rfl hl rfl (Nat.le_of_ble_eq_true rfl) dX11_splice_58 ⟨Nat.le_of_ble_eq_true rfl, (Nat.le_of_ble_eq_true rfl)⟩ (fun _ _ _ _ _ h => h.elim) (fun v w ty1 H locs hp hh => ?_)
  obtain ⟨rfl, rfl, rfl⟩ := hp
  have hh : kH D kStr e0 A s H [(q44, .inl (y45, 374, .inl (fun _ => 0))), (q15, .inr (16, [.int 0, .ref q16, .ref q17, .ref q18, .ref q19, .ref q20, .ref q21, .ref q22, .ref q23, .int 0, .int 0])), (q17, .inr (4, [.int 2, .ref q33, .int 2])), (q33, .inl (y34, 10, .inr (.inr (.inr (.inr (va_up ((va_up ((fun _ => none)) (0 : Int32).toNatClampNeg (some q35))) (1 : Int32).toNatClampNeg (some q43))))))), (q43, .inr (14, [.int 120, .ref q44]))] [(y34, .object "java/lang/Object"), (y45, .int), (y34, .object "java/lang/Object")] _ := hh
  refine W.eq (g2 := F0 m 61 ls [.ref q44]) (by first | rfl | decide) ?_
  refine lv_astore (lv' := [(4, .ref q44), (0, .ref q15), (1, .int 1), (2, .int 1), (3, .int 0)]) hx hb dX11_splice_61 hl (by decide) rfl (fun ls hl => ?_)
  refine lv_aload_n hx hb dX11_splice_63 rfl (lv_at hl 1 rfl) ?_
  refine lv_iload_n hx hb dX11_splice_64 rfl (lv_at hl 3 rfl) ?_
  refine k_callV (C := RX11) (T := TX11) (N := 11) (ci := 16) (q0 := 1) (wr := [(q44, .inl (y45, 374, .inl (fun _ => 0)))]) (rest := []) (own := RX11) ⟨hx, hb, hml, hown, hts⟩ (a66_X11_rowOf l hst D e0 q15 q16 q17 q18 q19 q20 q21 q22 q23 q33 y34 q35 q43 q44 ) (cwV 1 hts gi_a72_X11_splice_3 rfl rfl rfl (by decide +kernel) ⟨Nat.le_of_ble_eq_true rfl, Nat.le_of_ble_eq_true rfl⟩) hh rfl rfl [1, 2, 3, 4] [0] [0] rfl rfl rfl rfl (by decide) rfl rfl hl rfl (Nat.le_of_ble_eq_true rfl) dX11_splice_65 ⟨Nat.le_of_ble_eq_true rfl, (Nat.le_of_ble_eq_true rfl)⟩ (fun _ _ _ _ _ h => h.elim) (fun v w ty1 H locs hp hh => ?_)
  obtain ⟨rfl, rfl, rfl⟩ := hp
  have hh : kH D kStr e0 A s H [(q44, .inl (y45, 374, .inl (fun _ => 0))), (q15, .inr (16, [.int 0, .ref q16, .ref q17, .ref q18, .ref q19, .ref q20, .ref q21, .ref q22, .ref q23, .int 0, .int 0])), (q17, .inr (4, [.int 2, .ref q33, .int 2])), (q33, .inl (y34, 10, .inr (.inr (.inr (.inr (va_up ((va_up ((fun _ => none)) (0 : Int32).toNatClampNeg (some q35))) (1 : Int32).toNatClampNeg (some q43))))))), (q43, .inr (14, [.int 120, .ref q44]))] [(y34, .object "java/lang/Object"), (y45, .int), (y34, .object "java/lang/Object"), (y34, .object "java/lang/Object")] _ := hh
  refine W.eq (g2 := F0 m 68 ls [.ref q44]) (by first | rfl | decide) ?_
  refine lv_astore (lv' := [(5, .ref q44), (4, .ref q44), (0, .ref q15), (1, .int 1), (2, .int 1), (3, .int 0)]) hx hb dX11_splice_68 hl (by decide) rfl (fun ls hl => ?_)
  refine lv_aload_n hx hb dX11_splice_70 rfl (lv_at hl 2 rfl) ?_
  refine lv_iload_n hx hb dX11_splice_71 rfl (lv_at hl 5 rfl) ?_
  refine lv_i2l (v := 0) hx hb dX11_splice_72 (by decide) ?_
  refine lv_lconst (v := 0) hx hb dX11_splice_73 (by decide) ?_
  refine lv_aload hx hb dX11_splice_74 (lv_at hl 1 rfl) ?_
  refine k_alen (v := 374) hx hb hh 0 1 rfl rfl rfl dX11_splice_76 ?_
  refine lv_aload hx hb dX11_splice_77 (lv_at hl 0 rfl) ?_
  refine k_alen (v := 374) hx hb hh 0 1 rfl rfl rfl dX11_splice_79 ?_
  refine va_mmin hx hb (by rw [hml]; exact hl.1.symm) hown (hts _ (wo_a72_X11_splice_in _ (List.mem_of_getElem? (i := 2) rfl))) (hts _ (wo_a72_X11_splice_in _ (List.mem_of_getElem? (i := 3) rfl))) (hts _ (wo_a72_X11_splice_in _ (List.mem_of_getElem? (i := 4) rfl))) (hts _ (wo_a72_X11_splice_in _ (List.mem_of_getElem? (i := 5) rfl))) (Nat.le_of_ble_eq_true rfl) (Nat.le_of_ble_eq_true rfl) (Nat.le_of_ble_eq_true rfl) (Nat.le_of_ble_eq_true rfl) dX11_splice_80 ?_
  refine W.eq (g2 := F0 m 83 ls [.int 374, .long 0, .long 0, .ref q15]) (by first | rfl | decide) ?_
  refine lv_i2l (v := 374) hx hb dX11_splice_83 (by decide) ?_
  refine k_callS (wr := [(q44, .inl (y45, 374, .inl (fun _ => 0))), (q15, .inr (16, [.int 0, .ref q16, .ref q17, .ref q18, .ref q19, .ref q20, .ref q21, .ref q22, .ref q23, .int 0, .int 0])), (q17, .inr (4, [.int 2, .ref q33, .int 2])), (q33, .inl (y34, 10, .inr (.inr (.inr (.inr (va_up ((va_up ((fun _ => none)) (0 : Int32).toNatClampNeg (some q35))) (1 : Int32).toNatClampNeg (some q43))))))), (q43, .inr (14, [.int 120, .ref q44]))]) (rest := [.ref q15]) (own := RX11) ⟨hx, hb, hml, hown, hts⟩ (a67_X11_in l hst D e0  ) (va_cwS 3 hts gi_a72_X11_splice_4 rfl rfl rfl (by decide +kernel) ⟨Nat.le_of_ble_eq_true rfl, Nat.le_of_ble_eq_true rfl⟩) hh [] [0, 1, 2, 3, 4] [] rfl rfl rfl rfl (by decide) rfl rfl hl rfl (Nat.le_of_ble_eq_true rfl) dX11_splice_84 ⟨Nat.le_of_ble_eq_true rfl, (Nat.le_of_ble_eq_true rfl)⟩ (fun _ _ _ _ _ h => h.elim) (fun v w ty1 H locs hp hh => ?_)
  obtain ⟨rfl, rfl, rfl⟩ := hp
  have hh : kH D kStr e0 A s H [(q44, .inl (y45, 374, .inl (fun _ => 0))), (q15, .inr (16, [.int 0, .ref q16, .ref q17, .ref q18, .ref q19, .ref q20, .ref q21, .ref q22, .ref q23, .int 0, .int 0])), (q17, .inr (4, [.int 2, .ref q33, .int 2])), (q33, .inl (y34, 10, .inr (.inr (.inr (.inr (va_up ((va_up ((fun _ => none)) (0 : Int32).toNatClampNeg (some q35))) (1 : Int32).toNatClampNeg (some q43))))))), (q43, .inr (14, [.int 120, .ref q44]))] [(y34, .object "java/lang/Object"), (y45, .int), (y34, .object "java/lang/Object"), (y34, .object "java/lang/Object")] _ := hh
  refine W.eq (g2 := F0 m 87 ls [.int 1, .ref q15]) (by first | rfl | decide) ?_
  refine lv_if_ne (tgt := 94) hx hb dX11_splice_87 (by decide) (fun _ => ?_) (fun c_87 => absurd c_87 (by decide))
  refine lv_aload hx hb dX11_splice_94 (lv_at hl 1 rfl) ?_
  refine k_alen (v := 374) hx hb hh 0 1 rfl rfl rfl dX11_splice_96 ?_
  refine lv_aload hx hb dX11_splice_97 (lv_at hl 0 rfl) ?_
  refine k_alen (v := 374) hx hb hh 0 1 rfl rfl rfl dX11_splice_99 ?_
  refine lv_iadd hx hb dX11_splice_100 ?_
  refine W.eq (g2 := F0 m 101 ls [.int 748, .ref q15]) (by first | rfl | decide) ?_
  refine lv_iload_n hx hb dX11_splice_101 rfl (lv_at hl 5 rfl) ?_
  refine lv_isub hx hb dX11_splice_102 ?_
  refine W.eq (g2 := F0 m 103 ls [.int 748, .ref q15]) (by first | rfl | decide) ?_
  refine lv_sipush (v := 800) hx hb dX11_splice_103 (by decide) ?_
  refine lv_icmp_le (tgt := 113) hx hb dX11_splice_106 (by decide) (fun _ => ?_) (fun c_106 => absurd (by decide) c_106)
  refine lv_iconst (v := 0) hx hb dX11_splice_113 (by decide) ?_
  refine k_put (C := RX11) (T := TX11) (N := 11) (ci := 16) (v := .int 0) (ws' := [(q44, .inl (y45, 374, .inl (fun _ => 0))), (q15, .inr (16, [.int 0, .ref q16, .ref q17, .ref q18, .ref q19, .ref q20, .ref q21, .ref q22, .ref q23, .int 0, .int 0])), (q17, .inr (4, [.int 2, .ref q33, .int 2])), (q33, .inl (y34, 10, .inr (.inr (.inr (.inr (va_up ((va_up ((fun _ => none)) (0 : Int32).toNatClampNeg (some q35))) (1 : Int32).toNatClampNeg (some q43))))))), (q43, .inr (14, [.int 120, .ref q44]))]) hx hb hts ws_a72_X11_splice_0 tyX11 tyX11_ok nmX11 hown hh 1 rfl rfl 0 (by decide) (hts _ (wo_a72_X11_splice_in _ (List.mem_of_getElem? (i := 1) rfl))) rfl rfl rfl (Nat.le_of_ble_eq_true rfl) dX11_splice_114 rfl (fun H locs hh => ?_)
  refine lv_aload_n hx hb dX11_splice_117 rfl (lv_at hl 2 rfl) ?_
  refine k_get (C := RX11) (T := TX11) (N := 11) (ci := 16) (v := .int 0) hx hb hts ws_a72_X11_splice_0 hown hh 1 rfl rfl 0 (by decide) (hts _ (wo_a72_X11_splice_in _ (List.mem_of_getElem? (i := 1) rfl))) rfl dX11_splice_118 ?_
  refine lv_if_le (tgt := 126) hx hb dX11_splice_121 (by decide) (fun _ => ?_) (fun c_121 => absurd (by decide) c_121)
  refine lv_aload hx hb dX11_splice_126 (lv_at hl 1 rfl) ?_
  refine k_alen (v := 374) hx hb hh 0 1 rfl rfl rfl dX11_splice_128 ?_
  refine lv_aload hx hb dX11_splice_129 (lv_at hl 0 rfl) ?_
  refine k_alen (v := 374) hx hb hh 0 1 rfl rfl rfl dX11_splice_131 ?_
  refine lv_iadd hx hb dX11_splice_132 ?_
  refine W.eq (g2 := F0 m 133 ls [.int 748]) (by first | rfl | decide) ?_
  refine lv_iload_n hx hb dX11_splice_133 rfl (lv_at hl 5 rfl) ?_
  refine lv_isub hx hb dX11_splice_134 ?_
  refine W.eq (g2 := F0 m 135 ls [.int 748]) (by first | rfl | decide) ?_
  refine k_newa (atype := .int) (ty := .int) (N' := 748) (a0 := (748, .inl (fun _ => 0))) hx hb (hts _ (wo_a72_X11_splice_in _ (List.mem_of_getElem? (i := 6) rfl))) rfl hh (fun cA => rfl) (by decide) (by decide) (Nat.le_of_ble_eq_true rfl) (Nat.le_of_ble_eq_true rfl) (Nat.le_of_ble_eq_true rfl) dX11_splice_135 (fun q51 y52 H hh => ?_)
  have hh : kH D kStr e0 A s H [(q44, .inl (y45, 374, .inl (fun _ => 0))), (q15, .inr (16, [.int 0, .ref q16, .ref q17, .ref q18, .ref q19, .ref q20, .ref q21, .ref q22, .ref q23, .int 0, .int 0])), (q17, .inr (4, [.int 2, .ref q33, .int 2])), (q33, .inl (y34, 10, .inr (.inr (.inr (.inr (va_up ((va_up ((fun _ => none)) (0 : Int32).toNatClampNeg (some q35))) (1 : Int32).toNatClampNeg (some q43))))))), (q43, .inr (14, [.int 120, .ref q44])), (q51, .inl (y52, 748, .inl (fun _ => 0)))] [(y34, .object "java/lang/Object"), (y45, .int), (y34, .object "java/lang/Object"), (y34, .object "java/lang/Object"), (y52, .int)] _ := hh
  refine lv_astore (lv' := [(6, .ref q51), (5, .ref q44), (4, .ref q44), (0, .ref q15), (1, .int 1), (2, .int 1), (3, .int 0)]) hx hb dX11_splice_137 hl (by decide) rfl (fun ls hl => ?_)
  refine lv_aload hx hb dX11_splice_139 (lv_at hl 2 rfl) ?_
  refine k_alen (v := 374) hx hb hh 0 1 rfl rfl rfl dX11_splice_141 ?_
  refine lv_iload_n hx hb dX11_splice_142 rfl (lv_at hl 6 rfl) ?_
  refine lv_isub hx hb dX11_splice_143 ?_
  refine W.eq (g2 := F0 m 144 ls [.int 374]) (by first | rfl | decide) ?_
  refine lv_istore (lv' := [(7, .int 374), (6, .ref q51), (5, .ref q44), (4, .ref q44), (0, .ref q15), (1, .int 1), (2, .int 1), (3, .int 0)]) hx hb dX11_splice_144 hl (by decide) rfl (fun ls hl => ?_)
  refine lv_iconst (v := 0) hx hb dX11_splice_146 (by decide) ?_
  refine lv_istore (lv' := [(8, .int 0), (7, .int 374), (6, .ref q51), (5, .ref q44), (4, .ref q44), (0, .ref q15), (1, .int 1), (2, .int 1), (3, .int 0)]) hx hb dX11_splice_147 hl (by decide) rfl (fun ls hl => ?_)
  refine lp_a72_X11_splice l hst hx hb hts hown hml D e0 q44 y45 q15 q16 q17 q18 q19 q20 q21 q22 q23 q33 y34 q35 q43 q51 y52  (fun H locs ls hh hl => ?_) 748 0 _ _ _ (by omega) (hh.sub [0, 1, 2, 3, 4, 5] [0, 1, 4] rfl rfl rfl) (lv_sub hl [0, 1, 2, 3, 4, 5, 6, 7, 8] rfl)
  have hh : kH D kStr e0 A s H [(q44, .inl (y45, 374, .inl (fun _ => 0))), (q15, .inr (16, [.int 0, .ref q16, .ref q17, .ref q18, .ref q19, .ref q20, .ref q21, .ref q22, .ref q23, .int 0, .int 0])), (q17, .inr (4, [.int 2, .ref q33, .int 2])), (q33, .inl (y34, 10, .inr (.inr (.inr (.inr (va_up ((va_up ((fun _ => none)) (0 : Int32).toNatClampNeg (some q35))) (1 : Int32).toNatClampNeg (some q43))))))), (q43, .inr (14, [.int 120, .ref q44])), (q51, .inl (y52, 748, .inl (fun _ => 0)))] [(y34, .object "java/lang/Object"), (y45, .int), (y52, .int)] _ := hh
  have hl : lv_has ls 10 [(8, .int (nI 748)), (7, .int 374), (6, .ref q51), (5, .ref q44), (4, .ref q44), (0, .ref q15), (1, .int 1), (2, .int 1), (3, .int 0)] := hl
  refine lv_aload_n hx hb dX11_splice_227 rfl (lv_at hl 5 rfl) ?_
  refine lv_bipush (v := 120) hx hb dX11_splice_228 (by decide) ?_
  refine lv_aload hx hb dX11_splice_230 (lv_at hl 2 rfl) ?_
  refine lv_iconst (v := 4) hx hb dX11_splice_232 (by decide) ?_
  refine k_callV (C := RX11) (T := TX11) (N := 11) (ci := 16) (q0 := 1) (wr := [(q44, .inl (y45, 374, .inl (fun _ => 0))), (q43, .inr (14, [.int 120, .ref q44]))]) (rest := []) (own := RX11) ⟨hx, hb, hml, hown, hts⟩ (a71_X11_adds l hst D e0 q15 q51 q16 q17 q18 q19 q20 q21 q22 q23 y52 q33 y34 q35 q43 ) (cwV 3 hts gi_a72_X11_splice_5 rfl rfl rfl (by decide +kernel) ⟨Nat.le_of_ble_eq_true rfl, Nat.le_of_ble_eq_true rfl⟩) hh rfl rfl [1, 5, 2, 3] [0, 4] [0, 2] rfl rfl rfl rfl (by decide) rfl rfl hl rfl (Nat.le_of_ble_eq_true rfl) dX11_splice_233 ⟨Nat.le_of_ble_eq_true rfl, (Nat.le_of_ble_eq_true rfl)⟩ (fun _ _ _ _ _ h => h.elim) (fun v w ty1 H locs hp hh => ?_)
  obtain ⟨q53, rfl, rfl, rfl⟩ := hp
  have hh : kH D kStr e0 A s H [(q44, .inl (y45, 374, .inl (fun _ => 0))), (q43, .inr (14, [.int 120, .ref q44])), (q15, .inr (16, [.int 0, .ref q16, .ref q17, .ref q18, .ref q19, .ref q20, .ref q21, .ref q22, .ref q23, .int 0, .int 0])), (q51, .inl (y52, 748, .inl (fun _ => 0))), (q17, .inr (4, [.int 3, .ref q33, .int 3])), (q33, .inl (y34, 10, .inr (.inr (.inr (.inr (va_up ((va_up ((va_up ((fun _ => none)) (0 : Int32).toNatClampNeg (some q35))) (1 : Int32).toNatClampNeg (some q43))) (2 : Int32).toNatClampNeg (some q53))))))), (q53, .inr (14, [.int 120, .ref q51]))] [(y34, .object "java/lang/Object"), (y45, .int), (y52, .int), (y52, .int), (y34, .object "java/lang/Object")] _ := hh
  refine W.eq (g2 := F0 m 236 ls [.int 2]) (by first | rfl | decide) ?_
  exact k_endi hx hb hr hlocks hh ⟨q53, q51, y52, rfl, rfl, rfl⟩ [2, 4, 5, 1, 0, 6, 3] [0, 1, 2] rfl rfl rfl (Nat.le_of_ble_eq_true rfl) (Nat.le_of_ble_eq_true rfl) dX11_splice_236
