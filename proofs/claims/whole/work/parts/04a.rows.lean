theorem dX2_init_0 : decode cX2_init 0 = .ok (.aload_n 0, 1) := by decide +kernel
theorem dX2_init_1 : decode cX2_init 1 = .ok (.invokespecial 3, 3) := by decide +kernel
theorem dX2_init_4 : decode cX2_init 4 = .ok (.aload_n 0, 1) := by decide +kernel
theorem dX2_init_5 : decode cX2_init 5 = .ok (.iload_n 1, 1) := by decide +kernel
theorem dX2_init_6 : decode cX2_init 6 = .ok (.putfield 9, 3) := by decide +kernel
theorem dX2_init_9 : decode cX2_init 9 = .ok (.aload_n 0, 1) := by decide +kernel
theorem dX2_init_10 : decode cX2_init 10 = .ok (.aload_n 3, 1) := by decide +kernel
theorem dX2_init_11 : decode cX2_init 11 = .ok (.putfield 15, 3) := by decide +kernel
theorem dX2_init_14 : decode cX2_init 14 = .ok (.aload_n 0, 1) := by decide +kernel
theorem dX2_init_15 : decode cX2_init 15 = .ok (.aload 4, 2) := by decide +kernel
theorem dX2_init_17 : decode cX2_init 17 = .ok (.putfield 19, 3) := by decide +kernel
theorem dX2_init_20 : decode cX2_init 20 = .ok (.aload_n 0, 1) := by decide +kernel
theorem dX2_init_21 : decode cX2_init 21 = .ok (.iload 5, 2) := by decide +kernel
theorem dX2_init_23 : decode cX2_init 23 = .ok (.putfield 22, 3) := by decide +kernel
theorem dX2_init_26 : decode cX2_init 26 = .ok (.aload_n 0, 1) := by decide +kernel
theorem dX2_init_27 : decode cX2_init 27 = .ok (.iload 6, 2) := by decide +kernel
theorem dX2_init_29 : decode cX2_init 29 = .ok (.putfield 26, 3) := by decide +kernel
theorem dX2_init_32 : decode cX2_init 32 = .ok (.aload_n 0, 1) := by decide +kernel
theorem dX2_init_33 : decode cX2_init 33 = .ok (.iload 7, 2) := by decide +kernel
theorem dX2_init_35 : decode cX2_init 35 = .ok (.putfield 29, 3) := by decide +kernel
theorem dX2_init_38 : decode cX2_init 38 = .ok (.aload_n 0, 1) := by decide +kernel
theorem dX2_init_39 : decode cX2_init 39 = .ok (.iload_n 2, 1) := by decide +kernel
theorem dX2_init_40 : decode cX2_init 40 = .ok (.newarray .int, 2) := by decide +kernel
theorem dX2_init_42 : decode cX2_init 42 = .ok (.putfield 32, 3) := by decide +kernel
theorem dX2_init_45 : decode cX2_init 45 = .ok (.aload_n 0, 1) := by decide +kernel
theorem dX2_init_46 : decode cX2_init 46 = .ok (.iload_n 1, 1) := by decide +kernel
theorem dX2_init_47 : decode cX2_init 47 = .ok (.bipush 108, 2) := by decide +kernel
theorem dX2_init_49 : decode cX2_init 49 = .ok (.if_icmp .eq 9, 3) := by decide +kernel
theorem dX2_init_52 : decode cX2_init 52 = .ok (.iload_n 1, 1) := by decide +kernel
theorem dX2_init_53 : decode cX2_init 53 = .ok (.bipush 100, 2) := by decide +kernel
theorem dX2_init_55 : decode cX2_init 55 = .ok (.if_icmp .ne 7, 3) := by decide +kernel
theorem dX2_init_62 : decode cX2_init 62 = .ok (.iconst 0, 1) := by decide +kernel
theorem dX2_init_63 : decode cX2_init 63 = .ok (.newarray .int, 2) := by decide +kernel
theorem dX2_init_65 : decode cX2_init 65 = .ok (.putfield 35, 3) := by decide +kernel
theorem dX2_init_68 : decode cX2_init 68 = .ok (.return_, 1) := by decide +kernel
theorem dX2_fill_0 : decode cX2_fill 0 = .ok (.iconst 0, 1) := by decide +kernel
theorem dX2_fill_1 : decode cX2_fill 1 = .ok (.istore_n 1, 1) := by decide +kernel
theorem dX2_fill_2 : decode cX2_fill 2 = .ok (.iload_n 1, 1) := by decide +kernel
theorem dX2_fill_3 : decode cX2_fill 3 = .ok (.aload_n 0, 1) := by decide +kernel
theorem dX2_fill_4 : decode cX2_fill 4 = .ok (.getfield 32, 3) := by decide +kernel
theorem dX2_fill_7 : decode cX2_fill 7 = .ok (.arraylength, 1) := by decide +kernel
theorem dX2_fill_8 : decode cX2_fill 8 = .ok (.if_icmp .ge 58, 3) := by decide +kernel
theorem dX2_fill_11 : decode cX2_fill 11 = .ok (.iload_n 1, 1) := by decide +kernel
theorem dX2_fill_12 : decode cX2_fill 12 = .ok (.aload_n 0, 1) := by decide +kernel
theorem dX2_fill_13 : decode cX2_fill 13 = .ok (.getfield 35, 3) := by decide +kernel
theorem dX2_fill_16 : decode cX2_fill 16 = .ok (.arraylength, 1) := by decide +kernel
theorem dX2_fill_17 : decode cX2_fill 17 = .ok (.if_icmp .ge 14, 3) := by decide +kernel
theorem dX2_fill_31 : decode cX2_fill 31 = .ok (.aload_n 0, 1) := by decide +kernel
theorem dX2_fill_32 : decode cX2_fill 32 = .ok (.getfield 32, 3) := by decide +kernel
theorem dX2_fill_35 : decode cX2_fill 35 = .ok (.iload_n 1, 1) := by decide +kernel
theorem dX2_fill_36 : decode cX2_fill 36 = .ok (.aload_n 0, 1) := by decide +kernel
theorem dX2_fill_37 : decode cX2_fill 37 = .ok (.iload_n 1, 1) := by decide +kernel
theorem dX2_fill_38 : decode cX2_fill 38 = .ok (.invokevirtual 42, 3) := by decide +kernel
theorem dX2_fill_41 : decode cX2_fill 41 = .ok (.iastore, 1) := by decide +kernel
theorem dX2_fill_42 : decode cX2_fill 42 = .ok (.aload_n 0, 1) := by decide +kernel
theorem dX2_fill_43 : decode cX2_fill 43 = .ok (.dup, 1) := by decide +kernel
theorem dX2_fill_44 : decode cX2_fill 44 = .ok (.getfield 45, 3) := by decide +kernel
theorem dX2_fill_47 : decode cX2_fill 47 = .ok (.aload_n 0, 1) := by decide +kernel
theorem dX2_fill_48 : decode cX2_fill 48 = .ok (.getfield 32, 3) := by decide +kernel
theorem dX2_fill_51 : decode cX2_fill 51 = .ok (.iload_n 1, 1) := by decide +kernel
theorem dX2_fill_52 : decode cX2_fill 52 = .ok (.iaload, 1) := by decide +kernel
theorem dX2_fill_53 : decode cX2_fill 53 = .ok (.invokestatic 48, 3) := by decide +kernel
theorem dX2_fill_56 : decode cX2_fill 56 = .ok (.iadd, 1) := by decide +kernel
theorem dX2_fill_57 : decode cX2_fill 57 = .ok (.putfield 45, 3) := by decide +kernel
theorem dX2_fill_60 : decode cX2_fill 60 = .ok (.iinc 1 1, 3) := by decide +kernel
theorem dX2_fill_63 : decode cX2_fill 63 = .ok (.goto (-61), 3) := by decide +kernel
theorem dX2_fill_66 : decode cX2_fill 66 = .ok (.return_, 1) := by decide +kernel
theorem dX2_widthOf_0 : decode cX2_widthOf 0 = .ok (.iconst 2, 1) := by decide +kernel
theorem dX2_widthOf_1 : decode cX2_widthOf 1 = .ok (.iload_n 0, 1) := by decide +kernel
theorem dX2_widthOf_2 : decode cX2_widthOf 2 = .ok (.invokestatic 51, 3) := by decide +kernel
theorem dX2_widthOf_5 : decode cX2_widthOf 5 = .ok (.sipush 4096, 3) := by decide +kernel
theorem dX2_widthOf_8 : decode cX2_widthOf 8 = .ok (.idiv, 1) := by decide +kernel
theorem dX2_widthOf_9 : decode cX2_widthOf 9 = .ok (.iadd, 1) := by decide +kernel
theorem dX2_widthOf_10 : decode cX2_widthOf 10 = .ok (.ireturn, 1) := by decide +kernel
theorem dX2_workedOut_0 : decode cX2_workedOut 0 = .ok (.aload_n 0, 1) := by decide +kernel
theorem dX2_workedOut_1 : decode cX2_workedOut 1 = .ok (.getfield 9, 3) := by decide +kernel
theorem dX2_workedOut_4 : decode cX2_workedOut 4 = .ok (.tableswitch 185 98 120 #[140, 108, 179, 185, 185, 126, 185, 185, 185, 185, 155, 185, 185, 185, 185, 185, 173, 185, 185, 185, 185, 185, 120], 108) := by decide +kernel
theorem dX2_workedOut_124 : decode cX2_workedOut 124 = .ok (.aload_n 0, 1) := by decide +kernel
theorem dX2_workedOut_125 : decode cX2_workedOut 125 = .ok (.iload_n 1, 1) := by decide +kernel
theorem dX2_workedOut_126 : decode cX2_workedOut 126 = .ok (.invokevirtual 56, 3) := by decide +kernel
theorem dX2_workedOut_129 : decode cX2_workedOut 129 = .ok (.ireturn, 1) := by decide +kernel
theorem dX2_workedOut_189 : decode cX2_workedOut 189 = .ok (.iconst 0, 1) := by decide +kernel
theorem dX2_workedOut_190 : decode cX2_workedOut 190 = .ok (.ireturn, 1) := by decide +kernel
theorem dX2_splicedAt_0 : decode cX2_splicedAt 0 = .ok (.aload_n 0, 1) := by decide +kernel
theorem dX2_splicedAt_1 : decode cX2_splicedAt 1 = .ok (.getfield 22, 3) := by decide +kernel
theorem dX2_splicedAt_4 : decode cX2_splicedAt 4 = .ok (.istore_n 2, 1) := by decide +kernel
theorem dX2_splicedAt_5 : decode cX2_splicedAt 5 = .ok (.aload_n 0, 1) := by decide +kernel
theorem dX2_splicedAt_6 : decode cX2_splicedAt 6 = .ok (.getfield 15, 3) := by decide +kernel
theorem dX2_splicedAt_9 : decode cX2_splicedAt 9 = .ok (.arraylength, 1) := by decide +kernel
theorem dX2_splicedAt_10 : decode cX2_splicedAt 10 = .ok (.iload_n 2, 1) := by decide +kernel
theorem dX2_splicedAt_11 : decode cX2_splicedAt 11 = .ok (.isub, 1) := by decide +kernel
theorem dX2_splicedAt_12 : decode cX2_splicedAt 12 = .ok (.istore_n 3, 1) := by decide +kernel
theorem dX2_splicedAt_13 : decode cX2_splicedAt 13 = .ok (.iload_n 1, 1) := by decide +kernel
theorem dX2_splicedAt_14 : decode cX2_splicedAt 14 = .ok (.iload_n 3, 1) := by decide +kernel
theorem dX2_splicedAt_15 : decode cX2_splicedAt 15 = .ok (.if_icmp .ge 10, 3) := by decide +kernel
theorem dX2_splicedAt_18 : decode cX2_splicedAt 18 = .ok (.aload_n 0, 1) := by decide +kernel
theorem dX2_splicedAt_19 : decode cX2_splicedAt 19 = .ok (.getfield 15, 3) := by decide +kernel
theorem dX2_splicedAt_22 : decode cX2_splicedAt 22 = .ok (.iload_n 1, 1) := by decide +kernel
theorem dX2_splicedAt_23 : decode cX2_splicedAt 23 = .ok (.iaload, 1) := by decide +kernel
theorem dX2_splicedAt_24 : decode cX2_splicedAt 24 = .ok (.ireturn, 1) := by decide +kernel
theorem dX2_splicedAt_25 : decode cX2_splicedAt 25 = .ok (.iload_n 1, 1) := by decide +kernel
theorem dX2_splicedAt_26 : decode cX2_splicedAt 26 = .ok (.iload_n 3, 1) := by decide +kernel
theorem dX2_splicedAt_27 : decode cX2_splicedAt 27 = .ok (.isub, 1) := by decide +kernel
theorem dX2_splicedAt_28 : decode cX2_splicedAt 28 = .ok (.istore 4, 2) := by decide +kernel
theorem dX2_splicedAt_30 : decode cX2_splicedAt 30 = .ok (.iload 4, 2) := by decide +kernel
theorem dX2_splicedAt_32 : decode cX2_splicedAt 32 = .ok (.iload_n 2, 1) := by decide +kernel
theorem dX2_splicedAt_33 : decode cX2_splicedAt 33 = .ok (.if_icmp .lt 11, 3) := by decide +kernel
theorem dX2_splicedAt_36 : decode cX2_splicedAt 36 = .ok (.aload_n 0, 1) := by decide +kernel
theorem dX2_splicedAt_37 : decode cX2_splicedAt 37 = .ok (.getfield 19, 3) := by decide +kernel
theorem dX2_splicedAt_40 : decode cX2_splicedAt 40 = .ok (.iload 4, 2) := by decide +kernel
theorem dX2_splicedAt_42 : decode cX2_splicedAt 42 = .ok (.iaload, 1) := by decide +kernel
theorem dX2_splicedAt_43 : decode cX2_splicedAt 43 = .ok (.ireturn, 1) := by decide +kernel
theorem dX3_init_0 : decode cX3_init 0 = .ok (.aload_n 0, 1) := by decide +kernel
theorem dX3_init_1 : decode cX3_init 1 = .ok (.invokespecial 3, 3) := by decide +kernel
theorem dX3_init_4 : decode cX3_init 4 = .ok (.aload_n 0, 1) := by decide +kernel
theorem dX3_init_5 : decode cX3_init 5 = .ok (.bipush 8, 2) := by decide +kernel
theorem dX3_init_7 : decode cX3_init 7 = .ok (.newarray .int, 2) := by decide +kernel
theorem dX3_init_9 : decode cX3_init 9 = .ok (.putfield 9, 3) := by decide +kernel
theorem dX3_init_12 : decode cX3_init 12 = .ok (.aload_n 0, 1) := by decide +kernel
theorem dX3_init_13 : decode cX3_init 13 = .ok (.bipush 8, 2) := by decide +kernel
theorem dX3_init_15 : decode cX3_init 15 = .ok (.newarray .boolean, 2) := by decide +kernel
theorem dX3_init_17 : decode cX3_init 17 = .ok (.putfield 15, 3) := by decide +kernel
theorem dX3_init_20 : decode cX3_init 20 = .ok (.aload_n 0, 1) := by decide +kernel
theorem dX3_init_21 : decode cX3_init 21 = .ok (.bipush 8, 2) := by decide +kernel
theorem dX3_init_23 : decode cX3_init 23 = .ok (.newarray .int, 2) := by decide +kernel
theorem dX3_init_25 : decode cX3_init 25 = .ok (.putfield 19, 3) := by decide +kernel
theorem dX3_init_28 : decode cX3_init 28 = .ok (.aload_n 0, 1) := by decide +kernel
theorem dX3_init_29 : decode cX3_init 29 = .ok (.bipush 24, 2) := by decide +kernel
theorem dX3_init_31 : decode cX3_init 31 = .ok (.newarray .int, 2) := by decide +kernel
theorem dX3_init_33 : decode cX3_init 33 = .ok (.putfield 22, 3) := by decide +kernel
theorem dX3_init_36 : decode cX3_init 36 = .ok (.aload_n 0, 1) := by decide +kernel
theorem dX3_init_37 : decode cX3_init 37 = .ok (.bipush 96, 2) := by decide +kernel
theorem dX3_init_39 : decode cX3_init 39 = .ok (.newarray .int, 2) := by decide +kernel
theorem dX3_init_41 : decode cX3_init 41 = .ok (.putfield 25, 3) := by decide +kernel
theorem dX3_init_44 : decode cX3_init 44 = .ok (.return_, 1) := by decide +kernel
theorem dX4_init_0 : decode cX4_init 0 = .ok (.aload_n 0, 1) := by decide +kernel
theorem dX4_init_1 : decode cX4_init 1 = .ok (.invokespecial 3, 3) := by decide +kernel
theorem dX4_init_4 : decode cX4_init 4 = .ok (.aload_n 0, 1) := by decide +kernel
theorem dX4_init_5 : decode cX4_init 5 = .ok (.bipush 12, 2) := by decide +kernel
theorem dX4_init_7 : decode cX4_init 7 = .ok (.anewarray 9, 3) := by decide +kernel
theorem dX4_init_10 : decode cX4_init 10 = .ok (.putfield 11, 3) := by decide +kernel
theorem dX4_init_13 : decode cX4_init 13 = .ok (.aload_n 0, 1) := by decide +kernel
theorem dX4_init_14 : decode cX4_init 14 = .ok (.sipush 3000, 3) := by decide +kernel
theorem dX4_init_17 : decode cX4_init 17 = .ok (.newarray .int, 2) := by decide +kernel
theorem dX4_init_19 : decode cX4_init 19 = .ok (.putfield 17, 3) := by decide +kernel
theorem dX4_init_22 : decode cX4_init 22 = .ok (.aload_n 0, 1) := by decide +kernel
theorem dX4_init_23 : decode cX4_init 23 = .ok (.bipush 12, 2) := by decide +kernel
theorem dX4_init_25 : decode cX4_init 25 = .ok (.newarray .int, 2) := by decide +kernel
theorem dX4_init_27 : decode cX4_init 27 = .ok (.putfield 21, 3) := by decide +kernel
theorem dX4_init_30 : decode cX4_init 30 = .ok (.aload_n 0, 1) := by decide +kernel
theorem dX4_init_31 : decode cX4_init 31 = .ok (.bipush 12, 2) := by decide +kernel
theorem dX4_init_33 : decode cX4_init 33 = .ok (.newarray .int, 2) := by decide +kernel
theorem dX4_init_35 : decode cX4_init 35 = .ok (.putfield 24, 3) := by decide +kernel
theorem dX4_init_38 : decode cX4_init 38 = .ok (.return_, 1) := by decide +kernel
theorem dX6_init_0 : decode cX6_init 0 = .ok (.aload_n 0, 1) := by decide +kernel
theorem dX6_init_1 : decode cX6_init 1 = .ok (.invokespecial 1, 3) := by decide +kernel
theorem dX6_init_4 : decode cX6_init 4 = .ok (.aload_n 0, 1) := by decide +kernel
theorem dX6_init_5 : decode cX6_init 5 = .ok (.bipush 6, 2) := by decide +kernel
theorem dX6_init_7 : decode cX6_init 7 = .ok (.anewarray 9, 3) := by decide +kernel
theorem dX6_init_10 : decode cX6_init 10 = .ok (.putfield 11, 3) := by decide +kernel
theorem dX6_init_13 : decode cX6_init 13 = .ok (.aload_n 0, 1) := by decide +kernel
theorem dX6_init_14 : decode cX6_init 14 = .ok (.bipush 24, 2) := by decide +kernel
theorem dX6_init_16 : decode cX6_init 16 = .ok (.anewarray 15, 3) := by decide +kernel
theorem dX6_init_19 : decode cX6_init 19 = .ok (.putfield 17, 3) := by decide +kernel
theorem dX6_init_22 : decode cX6_init 22 = .ok (.aload_n 0, 1) := by decide +kernel
theorem dX6_init_23 : decode cX6_init 23 = .ok (.new 21, 3) := by decide +kernel
theorem dX6_init_26 : decode cX6_init 26 = .ok (.dup, 1) := by decide +kernel
theorem dX6_init_27 : decode cX6_init 27 = .ok (.invokespecial 23, 3) := by decide +kernel
theorem dX6_init_30 : decode cX6_init 30 = .ok (.putfield 24, 3) := by decide +kernel
theorem dX6_init_33 : decode cX6_init 33 = .ok (.aload_n 0, 1) := by decide +kernel
theorem dX6_init_34 : decode cX6_init 34 = .ok (.new 28, 3) := by decide +kernel
theorem dX6_init_37 : decode cX6_init 37 = .ok (.dup, 1) := by decide +kernel
theorem dX6_init_38 : decode cX6_init 38 = .ok (.invokespecial 30, 3) := by decide +kernel
theorem dX6_init_41 : decode cX6_init 41 = .ok (.putfield 31, 3) := by decide +kernel
theorem dX6_init_44 : decode cX6_init 44 = .ok (.aload_n 0, 1) := by decide +kernel
theorem dX6_init_45 : decode cX6_init 45 = .ok (.iconst 5, 1) := by decide +kernel
theorem dX6_init_46 : decode cX6_init 46 = .ok (.anewarray 35, 3) := by decide +kernel
theorem dX6_init_49 : decode cX6_init 49 = .ok (.putfield 37, 3) := by decide +kernel
theorem dX6_init_52 : decode cX6_init 52 = .ok (.return_, 1) := by decide +kernel
theorem dX6_silence_0 : decode cX6_silence 0 = .ok (.iload_n 1, 1) := by decide +kernel
theorem dX6_silence_1 : decode cX6_silence 1 = .ok (.iconst 1, 1) := by decide +kernel
theorem dX6_silence_2 : decode cX6_silence 2 = .ok (.sipush 200, 3) := by decide +kernel
theorem dX6_silence_5 : decode cX6_silence 5 = .ok (.invokestatic 57, 3) := by decide +kernel
theorem dX6_silence_8 : decode cX6_silence 8 = .ok (.aload_n 0, 1) := by decide +kernel
theorem dX6_silence_9 : decode cX6_silence 9 = .ok (.invokevirtual 85, 3) := by decide +kernel
theorem dX6_silence_12 : decode cX6_silence 12 = .ok (.aload_n 0, 1) := by decide +kernel
theorem dX6_silence_13 : decode cX6_silence 13 = .ok (.new 15, 3) := by decide +kernel
theorem dX6_silence_16 : decode cX6_silence 16 = .ok (.dup, 1) := by decide +kernel
theorem dX6_silence_17 : decode cX6_silence 17 = .ok (.bipush 115, 2) := by decide +kernel
theorem dX6_silence_19 : decode cX6_silence 19 = .ok (.iload_n 1, 1) := by decide +kernel
theorem dX6_silence_20 : decode cX6_silence 20 = .ok (.aconst_null, 1) := by decide +kernel
theorem dX6_silence_21 : decode cX6_silence 21 = .ok (.aconst_null, 1) := by decide +kernel
theorem dX6_silence_22 : decode cX6_silence 22 = .ok (.iconst 0, 1) := by decide +kernel
theorem dX6_silence_23 : decode cX6_silence 23 = .ok (.iconst 0, 1) := by decide +kernel
theorem dX6_silence_24 : decode cX6_silence 24 = .ok (.iconst 0, 1) := by decide +kernel
theorem dX6_silence_25 : decode cX6_silence 25 = .ok (.invokespecial 92, 3) := by decide +kernel
theorem dX6_silence_28 : decode cX6_silence 28 = .ok (.invokevirtual 95, 3) := by decide +kernel
theorem dX6_silence_31 : decode cX6_silence 31 = .ok (.ireturn, 1) := by decide +kernel
theorem dX6_splice_0 : decode cX6_splice 0 = .ok (.aload_n 0, 1) := by decide +kernel
theorem dX6_splice_1 : decode cX6_splice 1 = .ok (.iload_n 1, 1) := by decide +kernel
theorem dX6_splice_2 : decode cX6_splice 2 = .ok (.invokevirtual 99, 3) := by decide +kernel
theorem dX6_splice_5 : decode cX6_splice 5 = .ok (.getfield 103, 3) := by decide +kernel
theorem dX6_splice_8 : decode cX6_splice 8 = .ok (.astore 4, 2) := by decide +kernel
theorem dX6_splice_10 : decode cX6_splice 10 = .ok (.aload_n 0, 1) := by decide +kernel
theorem dX6_splice_11 : decode cX6_splice 11 = .ok (.iload_n 2, 1) := by decide +kernel
theorem dX6_splice_12 : decode cX6_splice 12 = .ok (.invokevirtual 99, 3) := by decide +kernel
theorem dX6_splice_15 : decode cX6_splice 15 = .ok (.getfield 103, 3) := by decide +kernel
theorem dX6_splice_18 : decode cX6_splice 18 = .ok (.astore 5, 2) := by decide +kernel
theorem dX6_splice_20 : decode cX6_splice 20 = .ok (.iload_n 3, 1) := by decide +kernel
theorem dX6_splice_21 : decode cX6_splice 21 = .ok (.iconst 0, 1) := by decide +kernel
theorem dX6_splice_22 : decode cX6_splice 22 = .ok (.aload 4, 2) := by decide +kernel
theorem dX6_splice_24 : decode cX6_splice 24 = .ok (.arraylength, 1) := by decide +kernel
theorem dX6_splice_25 : decode cX6_splice 25 = .ok (.aload 5, 2) := by decide +kernel
theorem dX6_splice_27 : decode cX6_splice 27 = .ok (.arraylength, 1) := by decide +kernel
theorem dX6_splice_28 : decode cX6_splice 28 = .ok (.invokestatic 104, 3) := by decide +kernel
theorem dX6_splice_31 : decode cX6_splice 31 = .ok (.invokestatic 57, 3) := by decide +kernel
theorem dX6_splice_34 : decode cX6_splice 34 = .ok (.aload 4, 2) := by decide +kernel
theorem dX6_splice_36 : decode cX6_splice 36 = .ok (.arraylength, 1) := by decide +kernel
theorem dX6_splice_37 : decode cX6_splice 37 = .ok (.aload 5, 2) := by decide +kernel
theorem dX6_splice_39 : decode cX6_splice 39 = .ok (.arraylength, 1) := by decide +kernel
theorem dX6_splice_40 : decode cX6_splice 40 = .ok (.iadd, 1) := by decide +kernel
theorem dX6_splice_41 : decode cX6_splice 41 = .ok (.iload_n 3, 1) := by decide +kernel
theorem dX6_splice_42 : decode cX6_splice 42 = .ok (.isub, 1) := by decide +kernel
theorem dX6_splice_43 : decode cX6_splice 43 = .ok (.istore 6, 2) := by decide +kernel
theorem dX6_splice_45 : decode cX6_splice 45 = .ok (.iload 6, 2) := by decide +kernel
theorem dX6_splice_47 : decode cX6_splice 47 = .ok (.invokestatic 110, 3) := by decide +kernel
theorem dX6_splice_50 : decode cX6_splice 50 = .ok (.aload_n 0, 1) := by decide +kernel
theorem dX6_splice_51 : decode cX6_splice 51 = .ok (.invokevirtual 85, 3) := by decide +kernel
theorem dX6_splice_54 : decode cX6_splice 54 = .ok (.aload_n 0, 1) := by decide +kernel
theorem dX6_splice_55 : decode cX6_splice 55 = .ok (.new 15, 3) := by decide +kernel
theorem dX6_splice_58 : decode cX6_splice 58 = .ok (.dup, 1) := by decide +kernel
theorem dX6_splice_59 : decode cX6_splice 59 = .ok (.bipush 120, 2) := by decide +kernel
theorem dX6_splice_61 : decode cX6_splice 61 = .ok (.iload 6, 2) := by decide +kernel
theorem dX6_splice_63 : decode cX6_splice 63 = .ok (.aload 4, 2) := by decide +kernel
theorem dX6_splice_65 : decode cX6_splice 65 = .ok (.aload 5, 2) := by decide +kernel
theorem dX6_splice_67 : decode cX6_splice 67 = .ok (.iload_n 3, 1) := by decide +kernel
theorem dX6_splice_68 : decode cX6_splice 68 = .ok (.iconst 0, 1) := by decide +kernel
theorem dX6_splice_69 : decode cX6_splice 69 = .ok (.iconst 0, 1) := by decide +kernel
theorem dX6_splice_70 : decode cX6_splice 70 = .ok (.invokespecial 92, 3) := by decide +kernel
theorem dX6_splice_73 : decode cX6_splice 73 = .ok (.invokevirtual 95, 3) := by decide +kernel
theorem dX6_splice_76 : decode cX6_splice 76 = .ok (.ireturn, 1) := by decide +kernel
theorem dX6_needIndex_0 : decode cX6_needIndex 0 = .ok (.iload_n 0, 1) := by decide +kernel
theorem dX6_needIndex_1 : decode cX6_needIndex 1 = .ok (.ifCond .lt 8, 3) := by decide +kernel
theorem dX6_needIndex_4 : decode cX6_needIndex 4 = .ok (.iload_n 0, 1) := by decide +kernel
theorem dX6_needIndex_5 : decode cX6_needIndex 5 = .ok (.iload_n 1, 1) := by decide +kernel
theorem dX6_needIndex_6 : decode cX6_needIndex 6 = .ok (.if_icmp .lt 14, 3) := by decide +kernel
theorem dX6_needIndex_20 : decode cX6_needIndex 20 = .ok (.return_, 1) := by decide +kernel
theorem dX6_needRange_0 : decode cX6_needRange 0 = .ok (.iload_n 0, 1) := by decide +kernel
theorem dX6_needRange_1 : decode cX6_needRange 1 = .ok (.iload_n 1, 1) := by decide +kernel
theorem dX6_needRange_2 : decode cX6_needRange 2 = .ok (.if_icmp .lt 8, 3) := by decide +kernel
theorem dX6_needRange_5 : decode cX6_needRange 5 = .ok (.iload_n 0, 1) := by decide +kernel
theorem dX6_needRange_6 : decode cX6_needRange 6 = .ok (.iload_n 2, 1) := by decide +kernel
theorem dX6_needRange_7 : decode cX6_needRange 7 = .ok (.if_icmp .le 14, 3) := by decide +kernel
theorem dX6_needRange_21 : decode cX6_needRange 21 = .ok (.return_, 1) := by decide +kernel
theorem dX6_needPieceLength_0 : decode cX6_needPieceLength 0 = .ok (.iload_n 0, 1) := by decide +kernel
theorem dX6_needPieceLength_1 : decode cX6_needPieceLength 1 = .ok (.sipush 800, 3) := by decide +kernel
theorem dX6_needPieceLength_4 : decode cX6_needPieceLength 4 = .ok (.if_icmp .le 14, 3) := by decide +kernel
theorem dX6_needPieceLength_18 : decode cX6_needPieceLength 18 = .ok (.return_, 1) := by decide +kernel
theorem dX6_needPieceRoom_0 : decode cX6_needPieceRoom 0 = .ok (.aload_n 0, 1) := by decide +kernel
theorem dX6_needPieceRoom_1 : decode cX6_needPieceRoom 1 = .ok (.getfield 340, 3) := by decide +kernel
theorem dX6_needPieceRoom_4 : decode cX6_needPieceRoom 4 = .ok (.bipush 24, 2) := by decide +kernel
theorem dX6_needPieceRoom_6 : decode cX6_needPieceRoom 6 = .ok (.if_icmp .lt 14, 3) := by decide +kernel
theorem dX6_needPieceRoom_20 : decode cX6_needPieceRoom 20 = .ok (.return_, 1) := by decide +kernel
theorem dX6_knownPiece_0 : decode cX6_knownPiece 0 = .ok (.iload_n 1, 1) := by decide +kernel
theorem dX6_knownPiece_1 : decode cX6_knownPiece 1 = .ok (.aload_n 0, 1) := by decide +kernel
theorem dX6_knownPiece_2 : decode cX6_knownPiece 2 = .ok (.getfield 340, 3) := by decide +kernel
theorem dX6_knownPiece_5 : decode cX6_knownPiece 5 = .ok (.invokestatic 193, 3) := by decide +kernel
theorem dX6_knownPiece_8 : decode cX6_knownPiece 8 = .ok (.aload_n 0, 1) := by decide +kernel
theorem dX6_knownPiece_9 : decode cX6_knownPiece 9 = .ok (.getfield 17, 3) := by decide +kernel
theorem dX6_knownPiece_12 : decode cX6_knownPiece 12 = .ok (.iload_n 1, 1) := by decide +kernel
theorem dX6_knownPiece_13 : decode cX6_knownPiece 13 = .ok (.aaload, 1) := by decide +kernel
theorem dX6_knownPiece_14 : decode cX6_knownPiece 14 = .ok (.areturn, 1) := by decide +kernel
theorem dX6_keep_0 : decode cX6_keep 0 = .ok (.aload_n 1, 1) := by decide +kernel
theorem dX6_keep_1 : decode cX6_keep 1 = .ok (.invokevirtual 366, 3) := by decide +kernel
theorem dX6_keep_4 : decode cX6_keep 4 = .ok (.aload_n 0, 1) := by decide +kernel
theorem dX6_keep_5 : decode cX6_keep 5 = .ok (.getfield 17, 3) := by decide +kernel
theorem dX6_keep_8 : decode cX6_keep 8 = .ok (.aload_n 0, 1) := by decide +kernel
theorem dX6_keep_9 : decode cX6_keep 9 = .ok (.getfield 340, 3) := by decide +kernel
theorem dX6_keep_12 : decode cX6_keep 12 = .ok (.aload_n 1, 1) := by decide +kernel
theorem dX6_keep_13 : decode cX6_keep 13 = .ok (.aastore, 1) := by decide +kernel
theorem dX6_keep_14 : decode cX6_keep 14 = .ok (.aload_n 0, 1) := by decide +kernel
theorem dX6_keep_15 : decode cX6_keep 15 = .ok (.dup, 1) := by decide +kernel
theorem dX6_keep_16 : decode cX6_keep 16 = .ok (.getfield 340, 3) := by decide +kernel
theorem dX6_keep_19 : decode cX6_keep 19 = .ok (.iconst 1, 1) := by decide +kernel
theorem dX6_keep_20 : decode cX6_keep 20 = .ok (.iadd, 1) := by decide +kernel
theorem dX6_keep_21 : decode cX6_keep 21 = .ok (.putfield 340, 3) := by decide +kernel
theorem dX6_keep_24 : decode cX6_keep 24 = .ok (.aload_n 0, 1) := by decide +kernel
theorem dX6_keep_25 : decode cX6_keep 25 = .ok (.getfield 340, 3) := by decide +kernel
theorem dX6_keep_28 : decode cX6_keep 28 = .ok (.iconst 1, 1) := by decide +kernel
theorem dX6_keep_29 : decode cX6_keep 29 = .ok (.isub, 1) := by decide +kernel
theorem dX6_keep_30 : decode cX6_keep 30 = .ok (.ireturn, 1) := by decide +kernel
theorem dX9_init_0 : decode cX9_init 0 = .ok (.aload_n 0, 1) := by decide +kernel
theorem dX9_init_1 : decode cX9_init 1 = .ok (.invokespecial 1, 3) := by decide +kernel
theorem dX9_init_4 : decode cX9_init 4 = .ok (.aload_n 0, 1) := by decide +kernel
theorem dX9_init_5 : decode cX9_init 5 = .ok (.iload_n 1, 1) := by decide +kernel
theorem dX9_init_6 : decode cX9_init 6 = .ok (.putfield 7, 3) := by decide +kernel
theorem dX9_init_9 : decode cX9_init 9 = .ok (.aload_n 0, 1) := by decide +kernel
theorem dX9_init_10 : decode cX9_init 10 = .ok (.aload_n 2, 1) := by decide +kernel
theorem dX9_init_11 : decode cX9_init 11 = .ok (.putfield 13, 3) := by decide +kernel
theorem dX9_init_14 : decode cX9_init 14 = .ok (.return_, 1) := by decide +kernel
theorem dX11_in_0 : decode cX11_in 0 = .ok (.lload_n 0, 1) := by decide +kernel
theorem dX11_in_1 : decode cX11_in 1 = .ok (.lload_n 2, 1) := by decide +kernel
theorem dX11_in_2 : decode cX11_in 2 = .ok (.lcmp, 1) := by decide +kernel
theorem dX11_in_3 : decode cX11_in 3 = .ok (.ifCond .lt 14, 3) := by decide +kernel
theorem dX11_in_6 : decode cX11_in 6 = .ok (.lload_n 0, 1) := by decide +kernel
theorem dX11_in_7 : decode cX11_in 7 = .ok (.lload 4, 2) := by decide +kernel
theorem dX11_in_9 : decode cX11_in 9 = .ok (.lcmp, 1) := by decide +kernel
theorem dX11_in_10 : decode cX11_in 10 = .ok (.ifCond .gt 7, 3) := by decide +kernel
theorem dX11_in_13 : decode cX11_in 13 = .ok (.iconst 1, 1) := by decide +kernel
theorem dX11_in_14 : decode cX11_in 14 = .ok (.goto 4, 3) := by decide +kernel
theorem dX11_in_18 : decode cX11_in 18 = .ok (.ireturn, 1) := by decide +kernel
theorem dX11_held_0 : decode cX11_held 0 = .ok (.sipush (-32768), 3) := by decide +kernel
theorem dX11_held_3 : decode cX11_held 3 = .ok (.sipush 32767, 3) := by decide +kernel
theorem dX11_held_6 : decode cX11_held 6 = .ok (.iload_n 0, 1) := by decide +kernel
theorem dX11_held_7 : decode cX11_held 7 = .ok (.invokestatic 1, 3) := by decide +kernel
theorem dX11_held_10 : decode cX11_held 10 = .ok (.invokestatic 7, 3) := by decide +kernel
theorem dX11_held_13 : decode cX11_held 13 = .ok (.ireturn, 1) := by decide +kernel
theorem dX11_init_0 : decode cX11_init 0 = .ok (.aload_n 0, 1) := by decide +kernel
theorem dX11_init_1 : decode cX11_init 1 = .ok (.invokespecial 10, 3) := by decide +kernel
theorem dX11_init_4 : decode cX11_init 4 = .ok (.aload_n 0, 1) := by decide +kernel
theorem dX11_init_5 : decode cX11_init 5 = .ok (.new 16, 3) := by decide +kernel
theorem dX11_init_8 : decode cX11_init 8 = .ok (.dup, 1) := by decide +kernel
theorem dX11_init_9 : decode cX11_init 9 = .ok (.invokespecial 18, 3) := by decide +kernel
theorem dX11_init_12 : decode cX11_init 12 = .ok (.putfield 19, 3) := by decide +kernel
theorem dX11_init_15 : decode cX11_init 15 = .ok (.aload_n 0, 1) := by decide +kernel
theorem dX11_init_16 : decode cX11_init 16 = .ok (.new 16, 3) := by decide +kernel
theorem dX11_init_19 : decode cX11_init 19 = .ok (.dup, 1) := by decide +kernel
theorem dX11_init_20 : decode cX11_init 20 = .ok (.invokespecial 18, 3) := by decide +kernel
theorem dX11_init_23 : decode cX11_init 23 = .ok (.putfield 25, 3) := by decide +kernel
theorem dX11_init_26 : decode cX11_init 26 = .ok (.aload_n 0, 1) := by decide +kernel
theorem dX11_init_27 : decode cX11_init 27 = .ok (.new 16, 3) := by decide +kernel
theorem dX11_init_30 : decode cX11_init 30 = .ok (.dup, 1) := by decide +kernel
theorem dX11_init_31 : decode cX11_init 31 = .ok (.invokespecial 18, 3) := by decide +kernel
theorem dX11_init_34 : decode cX11_init 34 = .ok (.putfield 28, 3) := by decide +kernel
theorem dX11_init_37 : decode cX11_init 37 = .ok (.aload_n 0, 1) := by decide +kernel
theorem dX11_init_38 : decode cX11_init 38 = .ok (.new 16, 3) := by decide +kernel
theorem dX11_init_41 : decode cX11_init 41 = .ok (.dup, 1) := by decide +kernel
theorem dX11_init_42 : decode cX11_init 42 = .ok (.invokespecial 18, 3) := by decide +kernel
theorem dX11_init_45 : decode cX11_init 45 = .ok (.putfield 31, 3) := by decide +kernel
theorem dX11_init_48 : decode cX11_init 48 = .ok (.aload_n 0, 1) := by decide +kernel
theorem dX11_init_49 : decode cX11_init 49 = .ok (.new 16, 3) := by decide +kernel
theorem dX11_init_52 : decode cX11_init 52 = .ok (.dup, 1) := by decide +kernel
theorem dX11_init_53 : decode cX11_init 53 = .ok (.invokespecial 18, 3) := by decide +kernel
theorem dX11_init_56 : decode cX11_init 56 = .ok (.putfield 34, 3) := by decide +kernel
theorem dX11_init_59 : decode cX11_init 59 = .ok (.aload_n 0, 1) := by decide +kernel
theorem dX11_init_60 : decode cX11_init 60 = .ok (.new 16, 3) := by decide +kernel
theorem dX11_init_63 : decode cX11_init 63 = .ok (.dup, 1) := by decide +kernel
theorem dX11_init_64 : decode cX11_init 64 = .ok (.invokespecial 18, 3) := by decide +kernel
theorem dX11_init_67 : decode cX11_init 67 = .ok (.putfield 37, 3) := by decide +kernel
theorem dX11_init_70 : decode cX11_init 70 = .ok (.aload_n 0, 1) := by decide +kernel
theorem dX11_init_71 : decode cX11_init 71 = .ok (.new 16, 3) := by decide +kernel
theorem dX11_init_74 : decode cX11_init 74 = .ok (.dup, 1) := by decide +kernel
theorem dX11_init_75 : decode cX11_init 75 = .ok (.invokespecial 18, 3) := by decide +kernel
theorem dX11_init_78 : decode cX11_init 78 = .ok (.putfield 40, 3) := by decide +kernel
theorem dX11_init_81 : decode cX11_init 81 = .ok (.aload_n 0, 1) := by decide +kernel
theorem dX11_init_82 : decode cX11_init 82 = .ok (.new 16, 3) := by decide +kernel
theorem dX11_init_85 : decode cX11_init 85 = .ok (.dup, 1) := by decide +kernel
theorem dX11_init_86 : decode cX11_init 86 = .ok (.invokespecial 18, 3) := by decide +kernel
theorem dX11_init_89 : decode cX11_init 89 = .ok (.putfield 43, 3) := by decide +kernel
theorem dX11_init_92 : decode cX11_init 92 = .ok (.aload_n 0, 1) := by decide +kernel
theorem dX11_init_93 : decode cX11_init 93 = .ok (.iconst 0, 1) := by decide +kernel
theorem dX11_init_94 : decode cX11_init 94 = .ok (.putfield 46, 3) := by decide +kernel
theorem dX11_init_97 : decode cX11_init 97 = .ok (.return_, 1) := by decide +kernel
theorem dX11_thrown_0 : decode cX11_thrown 0 = .ok (.aload_n 0, 1) := by decide +kernel
theorem dX11_thrown_1 : decode cX11_thrown 1 = .ok (.getfield 46, 3) := by decide +kernel
theorem dX11_thrown_4 : decode cX11_thrown 4 = .ok (.ireturn, 1) := by decide +kernel
theorem dX11_adds_0 : decode cX11_adds 0 = .ok (.aload_n 0, 1) := by decide +kernel
theorem dX11_adds_1 : decode cX11_adds 1 = .ok (.aload_n 0, 1) := by decide +kernel
theorem dX11_adds_2 : decode cX11_adds 2 = .ok (.getfield 46, 3) := by decide +kernel
theorem dX11_adds_5 : decode cX11_adds 5 = .ok (.ifCond .le 10, 3) := by decide +kernel
theorem dX11_adds_15 : decode cX11_adds 15 = .ok (.aload_n 0, 1) := by decide +kernel
theorem dX11_adds_16 : decode cX11_adds 16 = .ok (.getfield 25, 3) := by decide +kernel
theorem dX11_adds_19 : decode cX11_adds 19 = .ok (.invokevirtual 50, 3) := by decide +kernel
theorem dX11_adds_22 : decode cX11_adds 22 = .ok (.bipush 24, 2) := by decide +kernel
theorem dX11_adds_24 : decode cX11_adds 24 = .ok (.if_icmp .ne 7, 3) := by decide +kernel
theorem dX11_adds_31 : decode cX11_adds 31 = .ok (.iconst 0, 1) := by decide +kernel
theorem dX11_adds_32 : decode cX11_adds 32 = .ok (.putfield 46, 3) := by decide +kernel
theorem dX11_adds_35 : decode cX11_adds 35 = .ok (.aload_n 0, 1) := by decide +kernel
theorem dX11_adds_36 : decode cX11_adds 36 = .ok (.getfield 46, 3) := by decide +kernel
theorem dX11_adds_39 : decode cX11_adds 39 = .ok (.ifCond .le 5, 3) := by decide +kernel
theorem dX11_adds_44 : decode cX11_adds 44 = .ok (.iconst 0, 1) := by decide +kernel
theorem dX11_adds_45 : decode cX11_adds 45 = .ok (.istore 4, 2) := by decide +kernel
theorem dX11_adds_47 : decode cX11_adds 47 = .ok (.iload 4, 2) := by decide +kernel
theorem dX11_adds_49 : decode cX11_adds 49 = .ok (.aload_n 2, 1) := by decide +kernel
theorem dX11_adds_50 : decode cX11_adds 50 = .ok (.arraylength, 1) := by decide +kernel
theorem dX11_adds_51 : decode cX11_adds 51 = .ok (.if_icmp .ge 20, 3) := by decide +kernel
theorem dX11_adds_54 : decode cX11_adds 54 = .ok (.aload_n 2, 1) := by decide +kernel
theorem dX11_adds_55 : decode cX11_adds 55 = .ok (.iload 4, 2) := by decide +kernel
theorem dX11_adds_57 : decode cX11_adds 57 = .ok (.aload_n 2, 1) := by decide +kernel
theorem dX11_adds_58 : decode cX11_adds 58 = .ok (.iload 4, 2) := by decide +kernel
theorem dX11_adds_60 : decode cX11_adds 60 = .ok (.iaload, 1) := by decide +kernel
theorem dX11_adds_61 : decode cX11_adds 61 = .ok (.invokestatic 90, 3) := by decide +kernel
theorem dX11_adds_64 : decode cX11_adds 64 = .ok (.iastore, 1) := by decide +kernel
theorem dX11_adds_65 : decode cX11_adds 65 = .ok (.iinc 4 1, 3) := by decide +kernel
theorem dX11_adds_68 : decode cX11_adds 68 = .ok (.goto (-21), 3) := by decide +kernel
theorem dX11_adds_71 : decode cX11_adds 71 = .ok (.aload_n 0, 1) := by decide +kernel
theorem dX11_adds_72 : decode cX11_adds 72 = .ok (.getfield 25, 3) := by decide +kernel
theorem dX11_adds_75 : decode cX11_adds 75 = .ok (.new 84, 3) := by decide +kernel
theorem dX11_adds_78 : decode cX11_adds 78 = .ok (.dup, 1) := by decide +kernel
theorem dX11_adds_79 : decode cX11_adds 79 = .ok (.iload_n 1, 1) := by decide +kernel
theorem dX11_adds_80 : decode cX11_adds 80 = .ok (.aload_n 2, 1) := by decide +kernel
theorem dX11_adds_81 : decode cX11_adds 81 = .ok (.invokespecial 94, 3) := by decide +kernel
theorem dX11_adds_84 : decode cX11_adds 84 = .ok (.invokevirtual 58, 3) := by decide +kernel
theorem dX11_adds_87 : decode cX11_adds 87 = .ok (.pop, 1) := by decide +kernel
theorem dX11_adds_88 : decode cX11_adds 88 = .ok (.aload_n 0, 1) := by decide +kernel
theorem dX11_adds_89 : decode cX11_adds 89 = .ok (.getfield 25, 3) := by decide +kernel
theorem dX11_adds_92 : decode cX11_adds 92 = .ok (.invokevirtual 50, 3) := by decide +kernel
theorem dX11_adds_95 : decode cX11_adds 95 = .ok (.iconst 1, 1) := by decide +kernel
theorem dX11_adds_96 : decode cX11_adds 96 = .ok (.isub, 1) := by decide +kernel
theorem dX11_adds_97 : decode cX11_adds 97 = .ok (.ireturn, 1) := by decide +kernel
theorem dX11_silence_0 : decode cX11_silence 0 = .ok (.aload_n 0, 1) := by decide +kernel
theorem dX11_silence_1 : decode cX11_silence 1 = .ok (.iload_n 1, 1) := by decide +kernel
theorem dX11_silence_2 : decode cX11_silence 2 = .ok (.i2l, 1) := by decide +kernel
theorem dX11_silence_3 : decode cX11_silence 3 = .ok (.lconst 1, 1) := by decide +kernel
theorem dX11_silence_4 : decode cX11_silence 4 = .ok (.ldc2_w 80, 3) := by decide +kernel
theorem dX11_silence_7 : decode cX11_silence 7 = .ok (.invokestatic 54, 3) := by decide +kernel
theorem dX11_silence_10 : decode cX11_silence 10 = .ok (.ifCond .eq 7, 3) := by decide +kernel
theorem dX11_silence_13 : decode cX11_silence 13 = .ok (.iconst 0, 1) := by decide +kernel
theorem dX11_silence_14 : decode cX11_silence 14 = .ok (.goto 4, 3) := by decide +kernel
theorem dX11_silence_18 : decode cX11_silence 18 = .ok (.putfield 46, 3) := by decide +kernel
theorem dX11_silence_21 : decode cX11_silence 21 = .ok (.aload_n 0, 1) := by decide +kernel
theorem dX11_silence_22 : decode cX11_silence 22 = .ok (.bipush 115, 2) := by decide +kernel
theorem dX11_silence_24 : decode cX11_silence 24 = .ok (.aload_n 0, 1) := by decide +kernel
theorem dX11_silence_25 : decode cX11_silence 25 = .ok (.getfield 46, 3) := by decide +kernel
theorem dX11_silence_28 : decode cX11_silence 28 = .ok (.ifCond .le 7, 3) := by decide +kernel
theorem dX11_silence_35 : decode cX11_silence 35 = .ok (.iload_n 1, 1) := by decide +kernel
theorem dX11_silence_36 : decode cX11_silence 36 = .ok (.newarray .int, 2) := by decide +kernel
theorem dX11_silence_38 : decode cX11_silence 38 = .ok (.iconst 2, 1) := by decide +kernel
theorem dX11_silence_39 : decode cX11_silence 39 = .ok (.invokevirtual 100, 3) := by decide +kernel
theorem dX11_silence_42 : decode cX11_silence 42 = .ok (.ireturn, 1) := by decide +kernel
theorem dJxa1e45_init_da8c8_0 : decode cJxa1e45_init_da8c8 0 = .ok (.aload_n 0, 1) := by decide +kernel
theorem dJxa1e45_init_da8c8_1 : decode cJxa1e45_init_da8c8 1 = .ok (.invokespecial 1, 3) := by decide +kernel
theorem dJxa1e45_init_da8c8_4 : decode cJxa1e45_init_da8c8 4 = .ok (.return_, 1) := by decide +kernel
theorem dJxc12de_init_da8c8_0 : decode cJxc12de_init_da8c8 0 = .ok (.aload_n 0, 1) := by decide +kernel
theorem dJxc12de_init_da8c8_1 : decode cJxc12de_init_da8c8 1 = .ok (.invokespecial 1, 3) := by decide +kernel
theorem dJxc12de_init_da8c8_4 : decode cJxc12de_init_da8c8 4 = .ok (.aload_n 0, 1) := by decide +kernel
theorem dJxc12de_init_da8c8_5 : decode cJxc12de_init_da8c8 5 = .ok (.iconst 0, 1) := by decide +kernel
theorem dJxc12de_init_da8c8_6 : decode cJxc12de_init_da8c8 6 = .ok (.putfield 7, 3) := by decide +kernel
theorem dJxc12de_init_da8c8_9 : decode cJxc12de_init_da8c8 9 = .ok (.return_, 1) := by decide +kernel
theorem dJx4a65c_init_da8c8_0 : decode cJx4a65c_init_da8c8 0 = .ok (.aload_n 0, 1) := by decide +kernel
theorem dJx4a65c_init_da8c8_1 : decode cJx4a65c_init_da8c8 1 = .ok (.invokespecial 1, 3) := by decide +kernel
theorem dJx4a65c_init_da8c8_4 : decode cJx4a65c_init_da8c8 4 = .ok (.aload_n 0, 1) := by decide +kernel
theorem dJx4a65c_init_da8c8_5 : decode cJx4a65c_init_da8c8 5 = .ok (.getstatic 39, 3) := by decide +kernel
theorem dJx4a65c_init_da8c8_8 : decode cJx4a65c_init_da8c8 8 = .ok (.putfield 9, 3) := by decide +kernel
theorem dJx4a65c_init_da8c8_11 : decode cJx4a65c_init_da8c8 11 = .ok (.return_, 1) := by decide +kernel
theorem dJx4a65c_grow_92f84_0 : decode cJx4a65c_grow_92f84 0 = .ok (.aload_n 0, 1) := by decide +kernel
theorem dJx4a65c_grow_92f84_1 : decode cJx4a65c_grow_92f84 1 = .ok (.getfield 9, 3) := by decide +kernel
theorem dJx4a65c_grow_92f84_4 : decode cJx4a65c_grow_92f84 4 = .ok (.arraylength, 1) := by decide +kernel
theorem dJx4a65c_grow_92f84_5 : decode cJx4a65c_grow_92f84 5 = .ok (.istore_n 2, 1) := by decide +kernel
theorem dJx4a65c_grow_92f84_6 : decode cJx4a65c_grow_92f84 6 = .ok (.iload_n 2, 1) := by decide +kernel
theorem dJx4a65c_grow_92f84_7 : decode cJx4a65c_grow_92f84 7 = .ok (.ifCond .gt 13, 3) := by decide +kernel
theorem dJx4a65c_grow_92f84_10 : decode cJx4a65c_grow_92f84 10 = .ok (.aload_n 0, 1) := by decide +kernel
theorem dJx4a65c_grow_92f84_11 : decode cJx4a65c_grow_92f84 11 = .ok (.getfield 9, 3) := by decide +kernel
theorem dJx4a65c_grow_92f84_14 : decode cJx4a65c_grow_92f84 14 = .ok (.getstatic 39, 3) := by decide +kernel
theorem dJx4a65c_grow_92f84_17 : decode cJx4a65c_grow_92f84 17 = .ok (.if_acmp .eq 28, 3) := by decide +kernel
theorem dJx4a65c_grow_92f84_45 : decode cJx4a65c_grow_92f84 45 = .ok (.aload_n 0, 1) := by decide +kernel
theorem dJx4a65c_grow_92f84_46 : decode cJx4a65c_grow_92f84 46 = .ok (.bipush 10, 2) := by decide +kernel
theorem dJx4a65c_grow_92f84_48 : decode cJx4a65c_grow_92f84 48 = .ok (.iload_n 1, 1) := by decide +kernel
theorem dJx4a65c_grow_92f84_49 : decode cJx4a65c_grow_92f84 49 = .ok (.invokestatic 79, 3) := by decide +kernel
theorem dJx4a65c_grow_92f84_52 : decode cJx4a65c_grow_92f84 52 = .ok (.anewarray 7, 3) := by decide +kernel
theorem dJx4a65c_grow_92f84_55 : decode cJx4a65c_grow_92f84 55 = .ok (.dup_x1, 1) := by decide +kernel
theorem dJx4a65c_grow_92f84_56 : decode cJx4a65c_grow_92f84 56 = .ok (.putfield 9, 3) := by decide +kernel
theorem dJx4a65c_grow_92f84_59 : decode cJx4a65c_grow_92f84 59 = .ok (.areturn, 1) := by decide +kernel
theorem dJx4a65c_grow_d5877_0 : decode cJx4a65c_grow_d5877 0 = .ok (.aload_n 0, 1) := by decide +kernel
theorem dJx4a65c_grow_d5877_1 : decode cJx4a65c_grow_d5877 1 = .ok (.aload_n 0, 1) := by decide +kernel
theorem dJx4a65c_grow_d5877_2 : decode cJx4a65c_grow_d5877 2 = .ok (.getfield 48, 3) := by decide +kernel
theorem dJx4a65c_grow_d5877_5 : decode cJx4a65c_grow_d5877 5 = .ok (.iconst 1, 1) := by decide +kernel
theorem dJx4a65c_grow_d5877_6 : decode cJx4a65c_grow_d5877 6 = .ok (.iadd, 1) := by decide +kernel
theorem dJx4a65c_grow_d5877_7 : decode cJx4a65c_grow_d5877 7 = .ok (.invokevirtual 69, 3) := by decide +kernel
theorem dJx4a65c_grow_d5877_10 : decode cJx4a65c_grow_d5877 10 = .ok (.areturn, 1) := by decide +kernel
theorem dJx4a65c_size_8abf5_0 : decode cJx4a65c_size_8abf5 0 = .ok (.aload_n 0, 1) := by decide +kernel
theorem dJx4a65c_size_8abf5_1 : decode cJx4a65c_size_8abf5 1 = .ok (.getfield 48, 3) := by decide +kernel
theorem dJx4a65c_size_8abf5_4 : decode cJx4a65c_size_8abf5 4 = .ok (.ireturn, 1) := by decide +kernel
theorem dJx4a65c_add_72be8_0 : decode cJx4a65c_add_72be8 0 = .ok (.iload_n 3, 1) := by decide +kernel
theorem dJx4a65c_add_72be8_1 : decode cJx4a65c_add_72be8 1 = .ok (.aload_n 2, 1) := by decide +kernel
theorem dJx4a65c_add_72be8_2 : decode cJx4a65c_add_72be8 2 = .ok (.arraylength, 1) := by decide +kernel
theorem dJx4a65c_add_72be8_3 : decode cJx4a65c_add_72be8 3 = .ok (.if_icmp .ne 8, 3) := by decide +kernel
theorem dJx4a65c_add_72be8_6 : decode cJx4a65c_add_72be8 6 = .ok (.aload_n 0, 1) := by decide +kernel
theorem dJx4a65c_add_72be8_7 : decode cJx4a65c_add_72be8 7 = .ok (.invokevirtual 129, 3) := by decide +kernel
theorem dJx4a65c_add_72be8_10 : decode cJx4a65c_add_72be8 10 = .ok (.astore_n 2, 1) := by decide +kernel
theorem dJx4a65c_add_72be8_11 : decode cJx4a65c_add_72be8 11 = .ok (.aload_n 2, 1) := by decide +kernel
theorem dJx4a65c_add_72be8_12 : decode cJx4a65c_add_72be8 12 = .ok (.iload_n 3, 1) := by decide +kernel
theorem dJx4a65c_add_72be8_13 : decode cJx4a65c_add_72be8 13 = .ok (.aload_n 1, 1) := by decide +kernel
theorem dJx4a65c_add_72be8_14 : decode cJx4a65c_add_72be8 14 = .ok (.aastore, 1) := by decide +kernel
theorem dJx4a65c_add_72be8_15 : decode cJx4a65c_add_72be8 15 = .ok (.aload_n 0, 1) := by decide +kernel
theorem dJx4a65c_add_72be8_16 : decode cJx4a65c_add_72be8 16 = .ok (.iload_n 3, 1) := by decide +kernel
theorem dJx4a65c_add_72be8_17 : decode cJx4a65c_add_72be8 17 = .ok (.iconst 1, 1) := by decide +kernel
theorem dJx4a65c_add_72be8_18 : decode cJx4a65c_add_72be8 18 = .ok (.iadd, 1) := by decide +kernel
theorem dJx4a65c_add_72be8_19 : decode cJx4a65c_add_72be8 19 = .ok (.putfield 48, 3) := by decide +kernel
theorem dJx4a65c_add_72be8_22 : decode cJx4a65c_add_72be8 22 = .ok (.return_, 1) := by decide +kernel
theorem dJx4a65c_add_9ea2d_0 : decode cJx4a65c_add_9ea2d 0 = .ok (.aload_n 0, 1) := by decide +kernel
theorem dJx4a65c_add_9ea2d_1 : decode cJx4a65c_add_9ea2d 1 = .ok (.dup, 1) := by decide +kernel
theorem dJx4a65c_add_9ea2d_2 : decode cJx4a65c_add_9ea2d 2 = .ok (.getfield 63, 3) := by decide +kernel
theorem dJx4a65c_add_9ea2d_5 : decode cJx4a65c_add_9ea2d 5 = .ok (.iconst 1, 1) := by decide +kernel
theorem dJx4a65c_add_9ea2d_6 : decode cJx4a65c_add_9ea2d 6 = .ok (.iadd, 1) := by decide +kernel
theorem dJx4a65c_add_9ea2d_7 : decode cJx4a65c_add_9ea2d 7 = .ok (.putfield 63, 3) := by decide +kernel
theorem dJx4a65c_add_9ea2d_10 : decode cJx4a65c_add_9ea2d 10 = .ok (.aload_n 0, 1) := by decide +kernel
theorem dJx4a65c_add_9ea2d_11 : decode cJx4a65c_add_9ea2d 11 = .ok (.aload_n 1, 1) := by decide +kernel
theorem dJx4a65c_add_9ea2d_12 : decode cJx4a65c_add_9ea2d 12 = .ok (.aload_n 0, 1) := by decide +kernel
theorem dJx4a65c_add_9ea2d_13 : decode cJx4a65c_add_9ea2d 13 = .ok (.getfield 9, 3) := by decide +kernel
theorem dJx4a65c_add_9ea2d_16 : decode cJx4a65c_add_9ea2d 16 = .ok (.aload_n 0, 1) := by decide +kernel
theorem dJx4a65c_add_9ea2d_17 : decode cJx4a65c_add_9ea2d 17 = .ok (.getfield 48, 3) := by decide +kernel
theorem dJx4a65c_add_9ea2d_20 : decode cJx4a65c_add_9ea2d 20 = .ok (.invokevirtual 131, 3) := by decide +kernel
theorem dJx4a65c_add_9ea2d_23 : decode cJx4a65c_add_9ea2d 23 = .ok (.iconst 1, 1) := by decide +kernel
theorem dJx4a65c_add_9ea2d_24 : decode cJx4a65c_add_9ea2d 24 = .ok (.ireturn, 1) := by decide +kernel
theorem dL_silence_0 : decode cL_silence 0 = .ok (.aload_n 2, 1) := by decide +kernel
theorem dL_silence_1 : decode cL_silence 1 = .ok (.iconst 0, 1) := by decide +kernel
theorem dL_silence_2 : decode cL_silence 2 = .ok (.aload_n 0, 1) := by decide +kernel
theorem dL_silence_3 : decode cL_silence 3 = .ok (.iload_n 1, 1) := by decide +kernel
theorem dL_silence_4 : decode cL_silence 4 = .ok (.invokevirtual 35, 3) := by decide +kernel
theorem dL_silence_7 : decode cL_silence 7 = .ok (.i2l, 1) := by decide +kernel
theorem dL_silence_8 : decode cL_silence 8 = .ok (.lastore, 1) := by decide +kernel
theorem dL_silence_9 : decode cL_silence 9 = .ok (.goto 9, 3) := by decide +kernel
theorem dL_silence_18 : decode cL_silence 18 = .ok (.iconst 0, 1) := by decide +kernel
theorem dL_silence_19 : decode cL_silence 19 = .ok (.ireturn, 1) := by decide +kernel
def wo_c_wo_s : List Cond := [Cond.fieldLink RX2 9 "Segueworks$Piece" "kind" "C"]
def wk_c_wo_s : List Cond := Cond.code yX2_workedOut cX2_workedOut 2 (some .int) :: (wo_c_wo_s ++ (u_ws RX2 TX2 9))
theorem wo_c_wo_s_in : ∀ w ∈ wo_c_wo_s, w ∈ wk_c_wo_s := fun w h => List.mem_cons_of_mem _ (List.mem_append_left _ h)
theorem ws_c_wo_s_0 : ∀ w ∈ u_ws RX2 TX2 9, w ∈ wk_c_wo_s := fun w h => List.mem_cons_of_mem _ (List.mem_append_right _ h)
theorem gk_c_wo_s : ∀ w ∈ wk_c_wo_s, goodWord w = true := List.forall_mem_cons.mpr ⟨rfl, (List.forall_mem_append.mpr ⟨(show ∀ w ∈ wo_c_wo_s, goodWord w = true by decide +kernel), (show ∀ w ∈ u_ws RX2 TX2 9, goodWord w = true by decide +kernel)⟩)⟩
set_option maxHeartbeats 4000000 in
set_option maxRecDepth 100000 in
theorem c_wo_s (l : Launch) (hst : l.stackTraces = false) (D : va_G) (e0 : kE) (pa : Nat) (pb : Nat) (pc : Nat) (pw : Int32) (pi : Int32)  : kM l yX2_workedOut wk_c_wo_s 0 0 0 0 D kStr e0 [] [(pa, .inr (7, [.int 115, .ref pb, .null, .null, .int 0, .int 0, .int 0, .ref pc, .int pw]))] [.ref pa, .int pi] (fun v w t => v = some (.int 0) ∧ w = [(pa, .inr (7, [.int 115, .ref pb, .null, .null, .int 0, .int 0, .int 0, .ref pc, .int pw]))] ∧ t = []) (fun _ => False) := by
  refine k_of (cc := cX2_workedOut) (maxL := 2) (ret := (some .int)) (by decide) rfl (Nat.le_of_ble_eq_true rfl) ?_
  intro p e s m args below meth c A ls hx hb hr hts hown hlocks hml hex hh hl
  have hown : s.vm.findClass RX2 = some m.cls := hown
  have hl : lv_has ls 2 [(0, .ref pa), (1, .int pi)] := hl
  refine lv_aload_n hx hb dX2_workedOut_0 rfl (lv_at hl 0 rfl) ?_
  refine k_get (C := RX2) (T := TX2) (N := 9) (ci := 7) (v := .int 115) hx hb hts ws_c_wo_s_0 hown hh 0 rfl rfl 0 (by decide) (hts _ (wo_c_wo_s_in _ (List.mem_of_getElem? (i := 0) rfl))) rfl dX2_workedOut_1 ?_
  refine lv_tableIn (off := 185) (tgt := 189) hx hb dX2_workedOut_4 (by decide) (by decide) (by decide) (by decide) ?_
  refine lv_iconst (v := 0) hx hb dX2_workedOut_189 (by decide) ?_
  exact k_endi hx hb hr hlocks hh ⟨rfl, rfl, rfl⟩ [0] [] rfl rfl rfl (Nat.le_of_ble_eq_true rfl) (Nat.le_of_ble_eq_true rfl) dX2_workedOut_190
def wo_c_sp_187 : List Cond := [Cond.fieldLink RX2 22 "Segueworks$Piece" "setting" "I", Cond.fieldLink RX2 15 "Segueworks$Piece" "source" "[I", Cond.fieldLink RX2 19 "Segueworks$Piece" "second" "[I"]
def wk_c_sp_187 : List Cond := Cond.code yX2_splicedAt cX2_splicedAt 5 (some .int) :: (wo_c_sp_187 ++ (u_ws RX2 TX2 9))
theorem wo_c_sp_187_in : ∀ w ∈ wo_c_sp_187, w ∈ wk_c_sp_187 := fun w h => List.mem_cons_of_mem _ (List.mem_append_left _ h)
theorem ws_c_sp_187_0 : ∀ w ∈ u_ws RX2 TX2 9, w ∈ wk_c_sp_187 := fun w h => List.mem_cons_of_mem _ (List.mem_append_right _ h)
theorem gk_c_sp_187 : ∀ w ∈ wk_c_sp_187, goodWord w = true := List.forall_mem_cons.mpr ⟨rfl, (List.forall_mem_append.mpr ⟨(show ∀ w ∈ wo_c_sp_187, goodWord w = true by decide +kernel), (show ∀ w ∈ u_ws RX2 TX2 9, goodWord w = true by decide +kernel)⟩)⟩
set_option maxHeartbeats 4000000 in
set_option maxRecDepth 100000 in
theorem c_sp_187 (l : Launch) (hst : l.stackTraces = false) (D : va_G) (e0 : kE) (pa : Nat) (pb : Nat) (pc : Nat) (pw : Int32) (pd : Nat) (py : ClassId) (i : Nat) (hi : i < 374) : kM l yX2_splicedAt wk_c_sp_187 0 0 0 0 D kStr e0 [(py, .int)] [(pa, .inr (7, [.int 120, .ref pb, .ref pd, .ref pd, .int 0, .int 0, .int 0, .ref pc, .int pw])), (pd, .inl (py, 187, .inl (fun _ => 0)))] [.ref pa, .int (nI i)] (fun v w t => v = some (.int 0) ∧ w = [(pa, .inr (7, [.int 120, .ref pb, .ref pd, .ref pd, .int 0, .int 0, .int 0, .ref pc, .int pw])), (pd, .inl (py, 187, .inl (fun _ => 0)))] ∧ t = [(py, .int)]) (fun _ => False) := by
  refine k_of (cc := cX2_splicedAt) (maxL := 5) (ret := (some .int)) (by decide) rfl (Nat.le_of_ble_eq_true rfl) ?_
  intro p e s m args below meth c A ls hx hb hr hts hown hlocks hml hex hh hl
  have hown : s.vm.findClass RX2 = some m.cls := hown
  have hl : lv_has ls 5 [(0, .ref pa), (1, .int (nI i))] := hl
  refine lv_aload_n hx hb dX2_splicedAt_0 rfl (lv_at hl 0 rfl) ?_
  refine k_get (C := RX2) (T := TX2) (N := 9) (ci := 7) (v := .int 0) hx hb hts ws_c_sp_187_0 hown hh 0 rfl rfl 4 (by decide) (hts _ (wo_c_sp_187_in _ (List.mem_of_getElem? (i := 0) rfl))) rfl dX2_splicedAt_1 ?_
  refine lv_istore_n (lv' := [(2, .int 0), (0, .ref pa), (1, .int (nI i))]) hx hb dX2_splicedAt_4 rfl hl (by decide) rfl (fun ls hl => ?_)
  refine lv_aload_n hx hb dX2_splicedAt_5 rfl (lv_at hl 1 rfl) ?_
  refine k_get (C := RX2) (T := TX2) (N := 9) (ci := 7) (v := .ref pd) hx hb hts ws_c_sp_187_0 hown hh 0 rfl rfl 2 (by decide) (hts _ (wo_c_sp_187_in _ (List.mem_of_getElem? (i := 1) rfl))) rfl dX2_splicedAt_6 ?_
  refine k_alen (v := 187) hx hb hh 1 0 rfl rfl rfl dX2_splicedAt_9 ?_
  refine lv_iload_n hx hb dX2_splicedAt_10 rfl (lv_at hl 0 rfl) ?_
  refine lv_isub hx hb dX2_splicedAt_11 ?_
  refine W.eq (g2 := F0 m 12 ls [.int 187]) (by first | rfl | decide) ?_
  refine lv_istore_n (lv' := [(3, .int 187), (2, .int 0), (0, .ref pa), (1, .int (nI i))]) hx hb dX2_splicedAt_12 rfl hl (by decide) rfl (fun ls hl => ?_)
  refine lv_iload_n hx hb dX2_splicedAt_13 rfl (lv_at hl 3 rfl) ?_
  refine lv_iload_n hx hb dX2_splicedAt_14 rfl (lv_at hl 0 rfl) ?_
  refine lv_icmp_ge (tgt := 25) hx hb dX2_splicedAt_15 (by decide) (fun c_15 => ?_) (fun c_15 => ?_)
  · refine lv_iload_n hx hb dX2_splicedAt_25 rfl (lv_at hl 3 rfl) ?_
    refine lv_iload_n hx hb dX2_splicedAt_26 rfl (lv_at hl 0 rfl) ?_
    refine lv_isub hx hb dX2_splicedAt_27 ?_
    refine W.eq (g2 := F0 m 28 ls [.int (nI (i - 187))]) (congrArg (fun z9 : Int32 => F0 m 28 ls (.int z9 :: [])) (show (nI i) - 187 = (nI (i - 187)) from nI_sub (b := 187) ((nI_leI (a := 187) (b := i) (by decide) (by omega)).mp c_15))) ?_
    refine lv_istore (lv' := [(4, .int (nI (i - 187))), (3, .int 187), (2, .int 0), (0, .ref pa), (1, .int (nI i))]) hx hb dX2_splicedAt_28 hl (by decide) rfl (fun ls hl => ?_)
    refine lv_iload hx hb dX2_splicedAt_30 (lv_at hl 0 rfl) ?_
    refine lv_iload_n hx hb dX2_splicedAt_32 rfl (lv_at hl 2 rfl) ?_
    refine lv_icmp_lt (tgt := 44) hx hb dX2_splicedAt_33 (by decide) (fun c_33 => absurd c_33 (nI_pos (by omega))) (fun _ => ?_)
    refine lv_aload_n hx hb dX2_splicedAt_36 rfl (lv_at hl 3 rfl) ?_
    refine k_get (C := RX2) (T := TX2) (N := 9) (ci := 7) (v := .ref pd) hx hb hts ws_c_sp_187_0 hown hh 0 rfl rfl 3 (by decide) (hts _ (wo_c_sp_187_in _ (List.mem_of_getElem? (i := 2) rfl))) rfl dX2_splicedAt_37 ?_
    refine lv_iload hx hb dX2_splicedAt_40 (lv_at hl 0 rfl) ?_
    refine k_iald (v := 0) hx hb hh 1 0 rfl rfl (vp_in_nI (show i - 187 < 187 from (by have h9 := (nI_leI (a := 187) (b := i) (by decide) (by omega)).mp c_15; omega)) (by decide)) rfl dX2_splicedAt_42 ?_
    exact k_endi hx hb hr hlocks hh ⟨rfl, rfl, rfl⟩ [0, 1] [0] rfl rfl rfl (Nat.le_of_ble_eq_true rfl) (Nat.le_of_ble_eq_true rfl) dX2_splicedAt_43
  · refine lv_aload_n hx hb dX2_splicedAt_18 rfl (lv_at hl 2 rfl) ?_
    refine k_get (C := RX2) (T := TX2) (N := 9) (ci := 7) (v := .ref pd) hx hb hts ws_c_sp_187_0 hown hh 0 rfl rfl 2 (by decide) (hts _ (wo_c_sp_187_in _ (List.mem_of_getElem? (i := 1) rfl))) rfl dX2_splicedAt_19 ?_
    refine lv_iload_n hx hb dX2_splicedAt_22 rfl (lv_at hl 3 rfl) ?_
    refine k_iald (v := 0) hx hb hh 1 0 rfl rfl (vp_in_nI (Nat.lt_of_not_le fun h9 => c_15 (nI_le (a := 187) h9 (by omega))) (by decide)) rfl dX2_splicedAt_23 ?_
    exact k_endi hx hb hr hlocks hh ⟨rfl, rfl, rfl⟩ [0, 1] [0] rfl rfl rfl (Nat.le_of_ble_eq_true rfl) (Nat.le_of_ble_eq_true rfl) dX2_splicedAt_24
def wo_c_wo_x_187 : List Cond := [Cond.fieldLink RX2 9 "Segueworks$Piece" "kind" "C"]
def wk_c_wo_x_187 : List Cond := Cond.code yX2_workedOut cX2_workedOut 2 (some .int) :: (wo_c_wo_x_187 ++ ((u_ws RX2 TX2 9) ++ (wsV RX2 56 RX2 yX2_splicedAt wk_c_sp_187)))
theorem wo_c_wo_x_187_in : ∀ w ∈ wo_c_wo_x_187, w ∈ wk_c_wo_x_187 := fun w h => List.mem_cons_of_mem _ (List.mem_append_left _ h)
theorem ws_c_wo_x_187_0 : ∀ w ∈ u_ws RX2 TX2 9, w ∈ wk_c_wo_x_187 := fun w h => List.mem_cons_of_mem _ (List.mem_append_right _ (List.mem_append_left _ h))
theorem gi_c_wo_x_187_1 : GoodIn wk_c_wo_x_187 (wsV RX2 56 RX2 yX2_splicedAt wk_c_sp_187) := fun w h => ⟨List.mem_cons_of_mem _ (List.mem_append_right _ (List.mem_append_right _ h)), good_of_word (kg_V gk_c_sp_187 w h)⟩
theorem gk_c_wo_x_187 : ∀ w ∈ wk_c_wo_x_187, goodWord w = true := List.forall_mem_cons.mpr ⟨rfl, (List.forall_mem_append.mpr ⟨(show ∀ w ∈ wo_c_wo_x_187, goodWord w = true by decide +kernel), (List.forall_mem_append.mpr ⟨(show ∀ w ∈ u_ws RX2 TX2 9, goodWord w = true by decide +kernel), (kg_V gk_c_sp_187)⟩)⟩)⟩
set_option maxHeartbeats 4000000 in
set_option maxRecDepth 100000 in
theorem c_wo_x_187 (l : Launch) (hst : l.stackTraces = false) (D : va_G) (e0 : kE) (pa : Nat) (pb : Nat) (pc : Nat) (pw : Int32) (pd : Nat) (py : ClassId) (i : Nat) (hi : i < 374) : kM l yX2_workedOut wk_c_wo_x_187 1 24 0 0 D kStr e0 [(py, .int)] [(pa, .inr (7, [.int 120, .ref pb, .ref pd, .ref pd, .int 0, .int 0, .int 0, .ref pc, .int pw])), (pd, .inl (py, 187, .inl (fun _ => 0)))] [.ref pa, .int (nI i)] (fun v w t => v = some (.int 0) ∧ w = [(pa, .inr (7, [.int 120, .ref pb, .ref pd, .ref pd, .int 0, .int 0, .int 0, .ref pc, .int pw])), (pd, .inl (py, 187, .inl (fun _ => 0)))] ∧ t = [(py, .int)]) (fun _ => False) := by
  refine k_of (cc := cX2_workedOut) (maxL := 2) (ret := (some .int)) (by decide) rfl (Nat.le_of_ble_eq_true rfl) ?_
  intro p e s m args below meth c A ls hx hb hr hts hown hlocks hml hex hh hl
  have hown : s.vm.findClass RX2 = some m.cls := hown
  have hl : lv_has ls 2 [(0, .ref pa), (1, .int (nI i))] := hl
  refine lv_aload_n hx hb dX2_workedOut_0 rfl (lv_at hl 0 rfl) ?_
  refine k_get (C := RX2) (T := TX2) (N := 9) (ci := 7) (v := .int 120) hx hb hts ws_c_wo_x_187_0 hown hh 0 rfl rfl 0 (by decide) (hts _ (wo_c_wo_x_187_in _ (List.mem_of_getElem? (i := 0) rfl))) rfl dX2_workedOut_1 ?_
  refine lv_tableIn (off := 120) (tgt := 124) hx hb dX2_workedOut_4 (by decide) (by decide) (by decide) (by decide) ?_
  refine lv_aload_n hx hb dX2_workedOut_124 rfl (lv_at hl 0 rfl) ?_
  refine lv_iload_n hx hb dX2_workedOut_125 rfl (lv_at hl 1 rfl) ?_
  refine k_callV (C := RX2) (T := TX2) (N := 9) (ci := 7) (q0 := 0) (wr := []) (rest := []) (own := RX2) ⟨hx, hb, hml, hown, hts⟩ (c_sp_187 l hst D e0 pa pb pc pw pd py i hi) (cwV 1 hts gi_c_wo_x_187_1 rfl rfl rfl (by decide +kernel) ⟨Nat.le_of_ble_eq_true rfl, Nat.le_of_ble_eq_true rfl⟩) hh rfl rfl [0, 1] [] [0] rfl rfl rfl rfl (by decide) rfl rfl hl rfl (Nat.le_of_ble_eq_true rfl) dX2_workedOut_126 ⟨Nat.le_of_ble_eq_true rfl, (Nat.le_of_ble_eq_true rfl)⟩ (fun _ _ _ _ _ h => h.elim) (fun v w ty1 H locs hp hh => ?_)
  obtain ⟨rfl, rfl, rfl⟩ := hp
  have hh : kH D kStr e0 A s H [(pa, .inr (7, [.int 120, .ref pb, .ref pd, .ref pd, .int 0, .int 0, .int 0, .ref pc, .int pw])), (pd, .inl (py, 187, .inl (fun _ => 0)))] [(py, .int), (py, .int)] _ := hh
  refine W.eq (g2 := F0 m 129 ls [.int 0]) (by first | rfl | decide) ?_
  exact k_endi hx hb hr hlocks hh ⟨rfl, rfl, rfl⟩ [0, 1] [0] rfl rfl rfl (Nat.le_of_ble_eq_true rfl) (Nat.le_of_ble_eq_true rfl) dX2_workedOut_129
def wo_c_sp_374 : List Cond := [Cond.fieldLink RX2 22 "Segueworks$Piece" "setting" "I", Cond.fieldLink RX2 15 "Segueworks$Piece" "source" "[I", Cond.fieldLink RX2 19 "Segueworks$Piece" "second" "[I"]
def wk_c_sp_374 : List Cond := Cond.code yX2_splicedAt cX2_splicedAt 5 (some .int) :: (wo_c_sp_374 ++ (u_ws RX2 TX2 9))
theorem wo_c_sp_374_in : ∀ w ∈ wo_c_sp_374, w ∈ wk_c_sp_374 := fun w h => List.mem_cons_of_mem _ (List.mem_append_left _ h)
theorem ws_c_sp_374_0 : ∀ w ∈ u_ws RX2 TX2 9, w ∈ wk_c_sp_374 := fun w h => List.mem_cons_of_mem _ (List.mem_append_right _ h)
theorem gk_c_sp_374 : ∀ w ∈ wk_c_sp_374, goodWord w = true := List.forall_mem_cons.mpr ⟨rfl, (List.forall_mem_append.mpr ⟨(show ∀ w ∈ wo_c_sp_374, goodWord w = true by decide +kernel), (show ∀ w ∈ u_ws RX2 TX2 9, goodWord w = true by decide +kernel)⟩)⟩
set_option maxHeartbeats 4000000 in
set_option maxRecDepth 100000 in
theorem c_sp_374 (l : Launch) (hst : l.stackTraces = false) (D : va_G) (e0 : kE) (pa : Nat) (pb : Nat) (pc : Nat) (pw : Int32) (pd : Nat) (py : ClassId) (i : Nat) (hi : i < 748) : kM l yX2_splicedAt wk_c_sp_374 0 0 0 0 D kStr e0 [(py, .int)] [(pa, .inr (7, [.int 120, .ref pb, .ref pd, .ref pd, .int 0, .int 0, .int 0, .ref pc, .int pw])), (pd, .inl (py, 374, .inl (fun _ => 0)))] [.ref pa, .int (nI i)] (fun v w t => v = some (.int 0) ∧ w = [(pa, .inr (7, [.int 120, .ref pb, .ref pd, .ref pd, .int 0, .int 0, .int 0, .ref pc, .int pw])), (pd, .inl (py, 374, .inl (fun _ => 0)))] ∧ t = [(py, .int)]) (fun _ => False) := by
  refine k_of (cc := cX2_splicedAt) (maxL := 5) (ret := (some .int)) (by decide) rfl (Nat.le_of_ble_eq_true rfl) ?_
  intro p e s m args below meth c A ls hx hb hr hts hown hlocks hml hex hh hl
  have hown : s.vm.findClass RX2 = some m.cls := hown
  have hl : lv_has ls 5 [(0, .ref pa), (1, .int (nI i))] := hl
  refine lv_aload_n hx hb dX2_splicedAt_0 rfl (lv_at hl 0 rfl) ?_
  refine k_get (C := RX2) (T := TX2) (N := 9) (ci := 7) (v := .int 0) hx hb hts ws_c_sp_374_0 hown hh 0 rfl rfl 4 (by decide) (hts _ (wo_c_sp_374_in _ (List.mem_of_getElem? (i := 0) rfl))) rfl dX2_splicedAt_1 ?_
  refine lv_istore_n (lv' := [(2, .int 0), (0, .ref pa), (1, .int (nI i))]) hx hb dX2_splicedAt_4 rfl hl (by decide) rfl (fun ls hl => ?_)
  refine lv_aload_n hx hb dX2_splicedAt_5 rfl (lv_at hl 1 rfl) ?_
  refine k_get (C := RX2) (T := TX2) (N := 9) (ci := 7) (v := .ref pd) hx hb hts ws_c_sp_374_0 hown hh 0 rfl rfl 2 (by decide) (hts _ (wo_c_sp_374_in _ (List.mem_of_getElem? (i := 1) rfl))) rfl dX2_splicedAt_6 ?_
  refine k_alen (v := 374) hx hb hh 1 0 rfl rfl rfl dX2_splicedAt_9 ?_
  refine lv_iload_n hx hb dX2_splicedAt_10 rfl (lv_at hl 0 rfl) ?_
  refine lv_isub hx hb dX2_splicedAt_11 ?_
  refine W.eq (g2 := F0 m 12 ls [.int 374]) (by first | rfl | decide) ?_
  refine lv_istore_n (lv' := [(3, .int 374), (2, .int 0), (0, .ref pa), (1, .int (nI i))]) hx hb dX2_splicedAt_12 rfl hl (by decide) rfl (fun ls hl => ?_)
  refine lv_iload_n hx hb dX2_splicedAt_13 rfl (lv_at hl 3 rfl) ?_
  refine lv_iload_n hx hb dX2_splicedAt_14 rfl (lv_at hl 0 rfl) ?_
  refine lv_icmp_ge (tgt := 25) hx hb dX2_splicedAt_15 (by decide) (fun c_15 => ?_) (fun c_15 => ?_)
  · refine lv_iload_n hx hb dX2_splicedAt_25 rfl (lv_at hl 3 rfl) ?_
    refine lv_iload_n hx hb dX2_splicedAt_26 rfl (lv_at hl 0 rfl) ?_
    refine lv_isub hx hb dX2_splicedAt_27 ?_
    refine W.eq (g2 := F0 m 28 ls [.int (nI (i - 374))]) (congrArg (fun z9 : Int32 => F0 m 28 ls (.int z9 :: [])) (show (nI i) - 374 = (nI (i - 374)) from nI_sub (b := 374) ((nI_leI (a := 374) (b := i) (by decide) (by omega)).mp c_15))) ?_
    refine lv_istore (lv' := [(4, .int (nI (i - 374))), (3, .int 374), (2, .int 0), (0, .ref pa), (1, .int (nI i))]) hx hb dX2_splicedAt_28 hl (by decide) rfl (fun ls hl => ?_)
    refine lv_iload hx hb dX2_splicedAt_30 (lv_at hl 0 rfl) ?_
    refine lv_iload_n hx hb dX2_splicedAt_32 rfl (lv_at hl 2 rfl) ?_
    refine lv_icmp_lt (tgt := 44) hx hb dX2_splicedAt_33 (by decide) (fun c_33 => absurd c_33 (nI_pos (by omega))) (fun _ => ?_)
    refine lv_aload_n hx hb dX2_splicedAt_36 rfl (lv_at hl 3 rfl) ?_
    refine k_get (C := RX2) (T := TX2) (N := 9) (ci := 7) (v := .ref pd) hx hb hts ws_c_sp_374_0 hown hh 0 rfl rfl 3 (by decide) (hts _ (wo_c_sp_374_in _ (List.mem_of_getElem? (i := 2) rfl))) rfl dX2_splicedAt_37 ?_
    refine lv_iload hx hb dX2_splicedAt_40 (lv_at hl 0 rfl) ?_
    refine k_iald (v := 0) hx hb hh 1 0 rfl rfl (vp_in_nI (show i - 374 < 374 from (by have h9 := (nI_leI (a := 374) (b := i) (by decide) (by omega)).mp c_15; omega)) (by decide)) rfl dX2_splicedAt_42 ?_
    exact k_endi hx hb hr hlocks hh ⟨rfl, rfl, rfl⟩ [0, 1] [0] rfl rfl rfl (Nat.le_of_ble_eq_true rfl) (Nat.le_of_ble_eq_true rfl) dX2_splicedAt_43
  · refine lv_aload_n hx hb dX2_splicedAt_18 rfl (lv_at hl 2 rfl) ?_
    refine k_get (C := RX2) (T := TX2) (N := 9) (ci := 7) (v := .ref pd) hx hb hts ws_c_sp_374_0 hown hh 0 rfl rfl 2 (by decide) (hts _ (wo_c_sp_374_in _ (List.mem_of_getElem? (i := 1) rfl))) rfl dX2_splicedAt_19 ?_
    refine lv_iload_n hx hb dX2_splicedAt_22 rfl (lv_at hl 3 rfl) ?_
    refine k_iald (v := 0) hx hb hh 1 0 rfl rfl (vp_in_nI (Nat.lt_of_not_le fun h9 => c_15 (nI_le (a := 374) h9 (by omega))) (by decide)) rfl dX2_splicedAt_23 ?_
    exact k_endi hx hb hr hlocks hh ⟨rfl, rfl, rfl⟩ [0, 1] [0] rfl rfl rfl (Nat.le_of_ble_eq_true rfl) (Nat.le_of_ble_eq_true rfl) dX2_splicedAt_24
def wo_c_wo_x_374 : List Cond := [Cond.fieldLink RX2 9 "Segueworks$Piece" "kind" "C"]
def wk_c_wo_x_374 : List Cond := Cond.code yX2_workedOut cX2_workedOut 2 (some .int) :: (wo_c_wo_x_374 ++ ((u_ws RX2 TX2 9) ++ (wsV RX2 56 RX2 yX2_splicedAt wk_c_sp_374)))
theorem wo_c_wo_x_374_in : ∀ w ∈ wo_c_wo_x_374, w ∈ wk_c_wo_x_374 := fun w h => List.mem_cons_of_mem _ (List.mem_append_left _ h)
theorem ws_c_wo_x_374_0 : ∀ w ∈ u_ws RX2 TX2 9, w ∈ wk_c_wo_x_374 := fun w h => List.mem_cons_of_mem _ (List.mem_append_right _ (List.mem_append_left _ h))
theorem gi_c_wo_x_374_1 : GoodIn wk_c_wo_x_374 (wsV RX2 56 RX2 yX2_splicedAt wk_c_sp_374) := fun w h => ⟨List.mem_cons_of_mem _ (List.mem_append_right _ (List.mem_append_right _ h)), good_of_word (kg_V gk_c_sp_374 w h)⟩
theorem gk_c_wo_x_374 : ∀ w ∈ wk_c_wo_x_374, goodWord w = true := List.forall_mem_cons.mpr ⟨rfl, (List.forall_mem_append.mpr ⟨(show ∀ w ∈ wo_c_wo_x_374, goodWord w = true by decide +kernel), (List.forall_mem_append.mpr ⟨(show ∀ w ∈ u_ws RX2 TX2 9, goodWord w = true by decide +kernel), (kg_V gk_c_sp_374)⟩)⟩)⟩
set_option maxHeartbeats 4000000 in
set_option maxRecDepth 100000 in
theorem c_wo_x_374 (l : Launch) (hst : l.stackTraces = false) (D : va_G) (e0 : kE) (pa : Nat) (pb : Nat) (pc : Nat) (pw : Int32) (pd : Nat) (py : ClassId) (i : Nat) (hi : i < 748) : kM l yX2_workedOut wk_c_wo_x_374 1 24 0 0 D kStr e0 [(py, .int)] [(pa, .inr (7, [.int 120, .ref pb, .ref pd, .ref pd, .int 0, .int 0, .int 0, .ref pc, .int pw])), (pd, .inl (py, 374, .inl (fun _ => 0)))] [.ref pa, .int (nI i)] (fun v w t => v = some (.int 0) ∧ w = [(pa, .inr (7, [.int 120, .ref pb, .ref pd, .ref pd, .int 0, .int 0, .int 0, .ref pc, .int pw])), (pd, .inl (py, 374, .inl (fun _ => 0)))] ∧ t = [(py, .int)]) (fun _ => False) := by
  refine k_of (cc := cX2_workedOut) (maxL := 2) (ret := (some .int)) (by decide) rfl (Nat.le_of_ble_eq_true rfl) ?_
  intro p e s m args below meth c A ls hx hb hr hts hown hlocks hml hex hh hl
  have hown : s.vm.findClass RX2 = some m.cls := hown
  have hl : lv_has ls 2 [(0, .ref pa), (1, .int (nI i))] := hl
  refine lv_aload_n hx hb dX2_workedOut_0 rfl (lv_at hl 0 rfl) ?_
  refine k_get (C := RX2) (T := TX2) (N := 9) (ci := 7) (v := .int 120) hx hb hts ws_c_wo_x_374_0 hown hh 0 rfl rfl 0 (by decide) (hts _ (wo_c_wo_x_374_in _ (List.mem_of_getElem? (i := 0) rfl))) rfl dX2_workedOut_1 ?_
  refine lv_tableIn (off := 120) (tgt := 124) hx hb dX2_workedOut_4 (by decide) (by decide) (by decide) (by decide) ?_
  refine lv_aload_n hx hb dX2_workedOut_124 rfl (lv_at hl 0 rfl) ?_
  refine lv_iload_n hx hb dX2_workedOut_125 rfl (lv_at hl 1 rfl) ?_
  refine k_callV (C := RX2) (T := TX2) (N := 9) (ci := 7) (q0 := 0) (wr := []) (rest := []) (own := RX2) ⟨hx, hb, hml, hown, hts⟩ (c_sp_374 l hst D e0 pa pb pc pw pd py i hi) (cwV 1 hts gi_c_wo_x_374_1 rfl rfl rfl (by decide +kernel) ⟨Nat.le_of_ble_eq_true rfl, Nat.le_of_ble_eq_true rfl⟩) hh rfl rfl [0, 1] [] [0] rfl rfl rfl rfl (by decide) rfl rfl hl rfl (Nat.le_of_ble_eq_true rfl) dX2_workedOut_126 ⟨Nat.le_of_ble_eq_true rfl, (Nat.le_of_ble_eq_true rfl)⟩ (fun _ _ _ _ _ h => h.elim) (fun v w ty1 H locs hp hh => ?_)
  obtain ⟨rfl, rfl, rfl⟩ := hp
  have hh : kH D kStr e0 A s H [(pa, .inr (7, [.int 120, .ref pb, .ref pd, .ref pd, .int 0, .int 0, .int 0, .ref pc, .int pw])), (pd, .inl (py, 374, .inl (fun _ => 0)))] [(py, .int), (py, .int)] _ := hh
  refine W.eq (g2 := F0 m 129 ls [.int 0]) (by first | rfl | decide) ?_
  exact k_endi hx hb hr hlocks hh ⟨rfl, rfl, rfl⟩ [0, 1] [0] rfl rfl rfl (Nat.le_of_ble_eq_true rfl) (Nat.le_of_ble_eq_true rfl) dX2_workedOut_129
def wo_a1_X4_init : List Cond := [Cond.methodLink RX4 3 objectInit, Cond.instanceMethod objectInit, Cond.code objectInit ⟨#[0xb1]⟩ 1 none, Cond.classLink RX4 9 "Segueworks$Item", Cond.fieldLink RX4 11 "Segueworks$Program" "items" "[LSegueworks$Item;", Cond.arrayClass .int, Cond.fieldLink RX4 17 "Segueworks$Program" "row" "[I", Cond.fieldLink RX4 21 "Segueworks$Program" "sideRow" "[I", Cond.fieldLink RX4 24 "Segueworks$Program" "runRow" "[I"]
def wk_a1_X4_init : List Cond := Cond.code yX4_init cX4_init 1 none :: (wo_a1_X4_init ++ (u_ws RX4 TX4 6))
theorem wo_a1_X4_init_in : ∀ w ∈ wo_a1_X4_init, w ∈ wk_a1_X4_init := fun w h => List.mem_cons_of_mem _ (List.mem_append_left _ h)
theorem ws_a1_X4_init_0 : ∀ w ∈ u_ws RX4 TX4 6, w ∈ wk_a1_X4_init := fun w h => List.mem_cons_of_mem _ (List.mem_append_right _ h)
theorem gk_a1_X4_init : ∀ w ∈ wk_a1_X4_init, goodWord w = true := List.forall_mem_cons.mpr ⟨rfl, (List.forall_mem_append.mpr ⟨(show ∀ w ∈ wo_a1_X4_init, goodWord w = true by decide +kernel), (show ∀ w ∈ u_ws RX4 TX4 6, goodWord w = true by decide +kernel)⟩)⟩
set_option maxHeartbeats 4000000 in
set_option maxRecDepth 100000 in
theorem a1_X4_init (l : Launch) (hst : l.stackTraces = false) (D : va_G) (e0 : kE) (q6 : Nat)  : kI l yX4_init wk_a1_X4_init 1 20 4 3036 D kStr e0 [] [(q6, .inr (9, [.null, .int 0, .null, .int 0, .null, .null]))] [.ref q6] (fun v w t => ∃ (q7 : Nat), ∃ (q9 : Nat), ∃ (q11 : Nat), ∃ (q13 : Nat), ∃ (y8 : ClassId), ∃ (y10 : ClassId), ∃ (y12 : ClassId), v = none ∧ w = [(q6, .inr (9, [.ref q7, .int 0, .ref q9, .int 0, .ref q11, .ref q13])), (q7, .inl (y8, 12, .inr (.inr (.inr (.inr (fun _ => none)))))), (q9, .inl (y10, 3000, .inl (fun _ => 0))), (q11, .inl (y12, 12, .inl (fun _ => 0)))] ∧ t = [(y8, .object "Segueworks$Item"), (y10, .int), (y12, .int)]) := by
  refine k_ofI (cc := cX4_init) (maxL := 1) (ret := none) (by decide) rfl (Nat.le_of_ble_eq_true rfl) ?_
  intro p e s m args below meth c A ls hx hb hr hts hown hlocks hml hin hh hl
  have hown : s.vm.findClass RX4 = some m.cls := hown
  have hl : lv_has ls 1 [(0, .ref q6)] := hl
  have hin : meth.name = "<init>" := hin
  refine lv_aload_n hx hb dX4_init_0 rfl (lv_at hl 0 rfl) ?_
  refine W.objInit hx hb hown (hts _ (wo_a1_X4_init_in _ (List.mem_of_getElem? (i := 0) rfl))) (hts _ (wo_a1_X4_init_in _ (List.mem_of_getElem? (i := 1) rfl))) (hts _ (wo_a1_X4_init_in _ (List.mem_of_getElem? (i := 2) rfl))) rfl (by rw [hml]; exact hl.1) rfl dX4_init_1 (Nat.le_of_ble_eq_true rfl) (Nat.le_of_ble_eq_true rfl) ?_
  refine W.eq (g2 := F0 m 4 ls []) rfl ?_
  refine lv_aload_n hx hb dX4_init_4 rfl (lv_at hl 0 rfl) ?_
  refine lv_bipush (v := 12) hx hb dX4_init_5 (by decide) ?_
  refine k_newq (C := "Segueworks$Item") (N' := 12) hx hb hown (hts _ (wo_a1_X4_init_in _ (List.mem_of_getElem? (i := 3) rfl))) (by decide) hh (by decide) (by decide) (Nat.le_of_ble_eq_true rfl) (Nat.le_of_ble_eq_true rfl) (Nat.le_of_ble_eq_true rfl) dX4_init_7 (fun q7 y8 H hh => ?_)
  have hh : kH D kStr e0 A s H [(q6, .inr (9, [.null, .int 0, .null, .int 0, .null, .null])), (q7, .inl (y8, 12, .inr (.inr (.inr (.inr (fun _ => none))))))] [(y8, .object "Segueworks$Item")] _ := hh
  refine k_putF (C := RX4) (T := TX4) (N := 6) (ci := 9) (v := .ref q7) (ws' := [(q6, .inr (9, [.ref q7, .int 0, .null, .int 0, .null, .null])), (q7, .inl (y8, 12, .inr (.inr (.inr (.inr (fun _ => none))))))]) hx hb hts ws_a1_X4_init_0 tyX4 tyX4_ok nmX4 hown hh 0 rfl rfl 0 (by decide) (hts _ (wo_a1_X4_init_in _ (List.mem_of_getElem? (i := 4) rfl))) rfl hin rfl rfl rfl (Nat.le_of_ble_eq_true rfl) dX4_init_10 rfl (fun H locs hh => ?_)
  refine lv_aload_n hx hb dX4_init_13 rfl (lv_at hl 0 rfl) ?_
  refine lv_sipush (v := 3000) hx hb dX4_init_14 (by decide) ?_
  refine k_newa (atype := .int) (ty := .int) (N' := 3000) (a0 := (3000, .inl (fun _ => 0))) hx hb (hts _ (wo_a1_X4_init_in _ (List.mem_of_getElem? (i := 5) rfl))) rfl hh (fun cA => rfl) (by decide) (by decide) (Nat.le_of_ble_eq_true rfl) (Nat.le_of_ble_eq_true rfl) (Nat.le_of_ble_eq_true rfl) dX4_init_17 (fun q9 y10 H hh => ?_)
  have hh : kH D kStr e0 A s H [(q6, .inr (9, [.ref q7, .int 0, .null, .int 0, .null, .null])), (q7, .inl (y8, 12, .inr (.inr (.inr (.inr (fun _ => none)))))), (q9, .inl (y10, 3000, .inl (fun _ => 0)))] [(y8, .object "Segueworks$Item"), (y10, .int)] _ := hh
  refine k_putF (C := RX4) (T := TX4) (N := 6) (ci := 9) (v := .ref q9) (ws' := [(q6, .inr (9, [.ref q7, .int 0, .ref q9, .int 0, .null, .null])), (q7, .inl (y8, 12, .inr (.inr (.inr (.inr (fun _ => none)))))), (q9, .inl (y10, 3000, .inl (fun _ => 0)))]) hx hb hts ws_a1_X4_init_0 tyX4 tyX4_ok nmX4 hown hh 0 rfl rfl 2 (by decide) (hts _ (wo_a1_X4_init_in _ (List.mem_of_getElem? (i := 6) rfl))) rfl hin rfl rfl rfl (Nat.le_of_ble_eq_true rfl) dX4_init_19 rfl (fun H locs hh => ?_)
  refine lv_aload_n hx hb dX4_init_22 rfl (lv_at hl 0 rfl) ?_
  refine lv_bipush (v := 12) hx hb dX4_init_23 (by decide) ?_
  refine k_newa (atype := .int) (ty := .int) (N' := 12) (a0 := (12, .inl (fun _ => 0))) hx hb (hts _ (wo_a1_X4_init_in _ (List.mem_of_getElem? (i := 5) rfl))) rfl hh (fun cA => rfl) (by decide) (by decide) (Nat.le_of_ble_eq_true rfl) (Nat.le_of_ble_eq_true rfl) (Nat.le_of_ble_eq_true rfl) dX4_init_25 (fun q11 y12 H hh => ?_)
  have hh : kH D kStr e0 A s H [(q6, .inr (9, [.ref q7, .int 0, .ref q9, .int 0, .null, .null])), (q7, .inl (y8, 12, .inr (.inr (.inr (.inr (fun _ => none)))))), (q9, .inl (y10, 3000, .inl (fun _ => 0))), (q11, .inl (y12, 12, .inl (fun _ => 0)))] [(y8, .object "Segueworks$Item"), (y10, .int), (y12, .int)] _ := hh
  refine k_putF (C := RX4) (T := TX4) (N := 6) (ci := 9) (v := .ref q11) (ws' := [(q6, .inr (9, [.ref q7, .int 0, .ref q9, .int 0, .ref q11, .null])), (q7, .inl (y8, 12, .inr (.inr (.inr (.inr (fun _ => none)))))), (q9, .inl (y10, 3000, .inl (fun _ => 0))), (q11, .inl (y12, 12, .inl (fun _ => 0)))]) hx hb hts ws_a1_X4_init_0 tyX4 tyX4_ok nmX4 hown hh 0 rfl rfl 4 (by decide) (hts _ (wo_a1_X4_init_in _ (List.mem_of_getElem? (i := 7) rfl))) rfl hin rfl rfl rfl (Nat.le_of_ble_eq_true rfl) dX4_init_27 rfl (fun H locs hh => ?_)
  refine lv_aload_n hx hb dX4_init_30 rfl (lv_at hl 0 rfl) ?_
  refine lv_bipush (v := 12) hx hb dX4_init_31 (by decide) ?_
  refine k_newa (atype := .int) (ty := .int) (N' := 12) (a0 := (12, .inl (fun _ => 0))) hx hb (hts _ (wo_a1_X4_init_in _ (List.mem_of_getElem? (i := 5) rfl))) rfl hh (fun cA => rfl) (by decide) (by decide) (Nat.le_of_ble_eq_true rfl) (Nat.le_of_ble_eq_true rfl) (Nat.le_of_ble_eq_true rfl) dX4_init_33 (fun q13 y14 H hh => ?_)
  have hh : kH D kStr e0 A s H [(q6, .inr (9, [.ref q7, .int 0, .ref q9, .int 0, .ref q11, .null])), (q7, .inl (y8, 12, .inr (.inr (.inr (.inr (fun _ => none)))))), (q9, .inl (y10, 3000, .inl (fun _ => 0))), (q11, .inl (y12, 12, .inl (fun _ => 0))), (q13, .inl (y14, 12, .inl (fun _ => 0)))] [(y8, .object "Segueworks$Item"), (y10, .int), (y12, .int), (y14, .int)] _ := hh
  refine k_putF (C := RX4) (T := TX4) (N := 6) (ci := 9) (v := .ref q13) (ws' := [(q6, .inr (9, [.ref q7, .int 0, .ref q9, .int 0, .ref q11, .ref q13])), (q7, .inl (y8, 12, .inr (.inr (.inr (.inr (fun _ => none)))))), (q9, .inl (y10, 3000, .inl (fun _ => 0))), (q11, .inl (y12, 12, .inl (fun _ => 0))), (q13, .inl (y14, 12, .inl (fun _ => 0)))]) hx hb hts ws_a1_X4_init_0 tyX4 tyX4_ok nmX4 hown hh 0 rfl rfl 5 (by decide) (hts _ (wo_a1_X4_init_in _ (List.mem_of_getElem? (i := 8) rfl))) rfl hin rfl rfl rfl (Nat.le_of_ble_eq_true rfl) dX4_init_35 rfl (fun H locs hh => ?_)
  exact k_endV hx hb hr hlocks hh ⟨q7, q9, q11, q13, y8, y10, y12, rfl, rfl, rfl⟩ [0, 1, 2, 3] [0, 1, 2] rfl rfl rfl (Nat.le_of_ble_eq_true rfl) (Nat.le_of_ble_eq_true rfl) dX4_init_38
def wo_a2_X3_init : List Cond := [Cond.methodLink RX3 3 objectInit, Cond.instanceMethod objectInit, Cond.code objectInit ⟨#[0xb1]⟩ 1 none, Cond.arrayClass .int, Cond.fieldLink RX3 9 "Segueworks$Plant" "failed" "[I", Cond.arrayClass .boolean, Cond.fieldLink RX3 15 "Segueworks$Plant" "gone" "[Z", Cond.fieldLink RX3 19 "Segueworks$Plant" "mothersOf" "[I", Cond.fieldLink RX3 22 "Segueworks$Plant" "stampersOf" "[I", Cond.fieldLink RX3 25 "Segueworks$Plant" "pressedBy" "[I"]
def wk_a2_X3_init : List Cond := Cond.code yX3_init cX3_init 1 none :: (wo_a2_X3_init ++ (u_ws RX3 TX3 11))
theorem wo_a2_X3_init_in : ∀ w ∈ wo_a2_X3_init, w ∈ wk_a2_X3_init := fun w h => List.mem_cons_of_mem _ (List.mem_append_left _ h)
theorem ws_a2_X3_init_0 : ∀ w ∈ u_ws RX3 TX3 11, w ∈ wk_a2_X3_init := fun w h => List.mem_cons_of_mem _ (List.mem_append_right _ h)
theorem gk_a2_X3_init : ∀ w ∈ wk_a2_X3_init, goodWord w = true := List.forall_mem_cons.mpr ⟨rfl, (List.forall_mem_append.mpr ⟨(show ∀ w ∈ wo_a2_X3_init, goodWord w = true by decide +kernel), (show ∀ w ∈ u_ws RX3 TX3 11, goodWord w = true by decide +kernel)⟩)⟩
set_option maxHeartbeats 4000000 in
set_option maxRecDepth 100000 in
theorem a2_X3_init (l : Launch) (hst : l.stackTraces = false) (D : va_G) (e0 : kE) (q14 : Nat)  : kI l yX3_init wk_a2_X3_init 1 20 5 144 D kStr e0 [] [(q14, .inr (8, [.null, .null, .int 0, .null, .int 0, .null, .int 0, .null, .int 0, .int 0, .int 0]))] [.ref q14] (fun v w t => ∃ (q15 : Nat), ∃ (q17 : Nat), ∃ (q19 : Nat), ∃ (q21 : Nat), ∃ (q23 : Nat), ∃ (y16 : ClassId), ∃ (y18 : ClassId), ∃ (y20 : ClassId), ∃ (y22 : ClassId), ∃ (y24 : ClassId), v = none ∧ w = [(q14, .inr (8, [.ref q15, .ref q17, .int 0, .ref q19, .int 0, .ref q21, .int 0, .ref q23, .int 0, .int 0, .int 0])), (q15, .inl (y16, 8, .inl (fun _ => 0))), (q17, .inl (y18, 8, .inl (fun _ => 0))), (q19, .inl (y20, 8, .inl (fun _ => 0))), (q21, .inl (y22, 24, .inl (fun _ => 0))), (q23, .inl (y24, 96, .inl (fun _ => 0)))] ∧ t = [(y16, .int), (y18, .boolean), (y20, .int), (y22, .int), (y24, .int)]) := by
  refine k_ofI (cc := cX3_init) (maxL := 1) (ret := none) (by decide) rfl (Nat.le_of_ble_eq_true rfl) ?_
  intro p e s m args below meth c A ls hx hb hr hts hown hlocks hml hin hh hl
  have hown : s.vm.findClass RX3 = some m.cls := hown
  have hl : lv_has ls 1 [(0, .ref q14)] := hl
  have hin : meth.name = "<init>" := hin
  refine lv_aload_n hx hb dX3_init_0 rfl (lv_at hl 0 rfl) ?_
  refine W.objInit hx hb hown (hts _ (wo_a2_X3_init_in _ (List.mem_of_getElem? (i := 0) rfl))) (hts _ (wo_a2_X3_init_in _ (List.mem_of_getElem? (i := 1) rfl))) (hts _ (wo_a2_X3_init_in _ (List.mem_of_getElem? (i := 2) rfl))) rfl (by rw [hml]; exact hl.1) rfl dX3_init_1 (Nat.le_of_ble_eq_true rfl) (Nat.le_of_ble_eq_true rfl) ?_
  refine W.eq (g2 := F0 m 4 ls []) rfl ?_
  refine lv_aload_n hx hb dX3_init_4 rfl (lv_at hl 0 rfl) ?_
  refine lv_bipush (v := 8) hx hb dX3_init_5 (by decide) ?_
  refine k_newa (atype := .int) (ty := .int) (N' := 8) (a0 := (8, .inl (fun _ => 0))) hx hb (hts _ (wo_a2_X3_init_in _ (List.mem_of_getElem? (i := 3) rfl))) rfl hh (fun cA => rfl) (by decide) (by decide) (Nat.le_of_ble_eq_true rfl) (Nat.le_of_ble_eq_true rfl) (Nat.le_of_ble_eq_true rfl) dX3_init_7 (fun q15 y16 H hh => ?_)
  have hh : kH D kStr e0 A s H [(q14, .inr (8, [.null, .null, .int 0, .null, .int 0, .null, .int 0, .null, .int 0, .int 0, .int 0])), (q15, .inl (y16, 8, .inl (fun _ => 0)))] [(y16, .int)] _ := hh
  refine k_putF (C := RX3) (T := TX3) (N := 11) (ci := 8) (v := .ref q15) (ws' := [(q14, .inr (8, [.ref q15, .null, .int 0, .null, .int 0, .null, .int 0, .null, .int 0, .int 0, .int 0])), (q15, .inl (y16, 8, .inl (fun _ => 0)))]) hx hb hts ws_a2_X3_init_0 tyX3 tyX3_ok nmX3 hown hh 0 rfl rfl 0 (by decide) (hts _ (wo_a2_X3_init_in _ (List.mem_of_getElem? (i := 4) rfl))) rfl hin rfl rfl rfl (Nat.le_of_ble_eq_true rfl) dX3_init_9 rfl (fun H locs hh => ?_)
  refine lv_aload_n hx hb dX3_init_12 rfl (lv_at hl 0 rfl) ?_
  refine lv_bipush (v := 8) hx hb dX3_init_13 (by decide) ?_
  refine k_newa (atype := .boolean) (ty := .boolean) (N' := 8) (a0 := (8, .inl (fun _ => 0))) hx hb (hts _ (wo_a2_X3_init_in _ (List.mem_of_getElem? (i := 5) rfl))) rfl hh (fun cA => rfl) (by decide) (by decide) (Nat.le_of_ble_eq_true rfl) (Nat.le_of_ble_eq_true rfl) (Nat.le_of_ble_eq_true rfl) dX3_init_15 (fun q17 y18 H hh => ?_)
  have hh : kH D kStr e0 A s H [(q14, .inr (8, [.ref q15, .null, .int 0, .null, .int 0, .null, .int 0, .null, .int 0, .int 0, .int 0])), (q15, .inl (y16, 8, .inl (fun _ => 0))), (q17, .inl (y18, 8, .inl (fun _ => 0)))] [(y16, .int), (y18, .boolean)] _ := hh
  refine k_putF (C := RX3) (T := TX3) (N := 11) (ci := 8) (v := .ref q17) (ws' := [(q14, .inr (8, [.ref q15, .ref q17, .int 0, .null, .int 0, .null, .int 0, .null, .int 0, .int 0, .int 0])), (q15, .inl (y16, 8, .inl (fun _ => 0))), (q17, .inl (y18, 8, .inl (fun _ => 0)))]) hx hb hts ws_a2_X3_init_0 tyX3 tyX3_ok nmX3 hown hh 0 rfl rfl 1 (by decide) (hts _ (wo_a2_X3_init_in _ (List.mem_of_getElem? (i := 6) rfl))) rfl hin rfl rfl rfl (Nat.le_of_ble_eq_true rfl) dX3_init_17 rfl (fun H locs hh => ?_)
  refine lv_aload_n hx hb dX3_init_20 rfl (lv_at hl 0 rfl) ?_
  refine lv_bipush (v := 8) hx hb dX3_init_21 (by decide) ?_
  refine k_newa (atype := .int) (ty := .int) (N' := 8) (a0 := (8, .inl (fun _ => 0))) hx hb (hts _ (wo_a2_X3_init_in _ (List.mem_of_getElem? (i := 3) rfl))) rfl hh (fun cA => rfl) (by decide) (by decide) (Nat.le_of_ble_eq_true rfl) (Nat.le_of_ble_eq_true rfl) (Nat.le_of_ble_eq_true rfl) dX3_init_23 (fun q19 y20 H hh => ?_)
  have hh : kH D kStr e0 A s H [(q14, .inr (8, [.ref q15, .ref q17, .int 0, .null, .int 0, .null, .int 0, .null, .int 0, .int 0, .int 0])), (q15, .inl (y16, 8, .inl (fun _ => 0))), (q17, .inl (y18, 8, .inl (fun _ => 0))), (q19, .inl (y20, 8, .inl (fun _ => 0)))] [(y16, .int), (y18, .boolean), (y20, .int)] _ := hh
  refine k_putF (C := RX3) (T := TX3) (N := 11) (ci := 8) (v := .ref q19) (ws' := [(q14, .inr (8, [.ref q15, .ref q17, .int 0, .ref q19, .int 0, .null, .int 0, .null, .int 0, .int 0, .int 0])), (q15, .inl (y16, 8, .inl (fun _ => 0))), (q17, .inl (y18, 8, .inl (fun _ => 0))), (q19, .inl (y20, 8, .inl (fun _ => 0)))]) hx hb hts ws_a2_X3_init_0 tyX3 tyX3_ok nmX3 hown hh 0 rfl rfl 3 (by decide) (hts _ (wo_a2_X3_init_in _ (List.mem_of_getElem? (i := 7) rfl))) rfl hin rfl rfl rfl (Nat.le_of_ble_eq_true rfl) dX3_init_25 rfl (fun H locs hh => ?_)
  refine lv_aload_n hx hb dX3_init_28 rfl (lv_at hl 0 rfl) ?_
  refine lv_bipush (v := 24) hx hb dX3_init_29 (by decide) ?_
  refine k_newa (atype := .int) (ty := .int) (N' := 24) (a0 := (24, .inl (fun _ => 0))) hx hb (hts _ (wo_a2_X3_init_in _ (List.mem_of_getElem? (i := 3) rfl))) rfl hh (fun cA => rfl) (by decide) (by decide) (Nat.le_of_ble_eq_true rfl) (Nat.le_of_ble_eq_true rfl) (Nat.le_of_ble_eq_true rfl) dX3_init_31 (fun q21 y22 H hh => ?_)
  have hh : kH D kStr e0 A s H [(q14, .inr (8, [.ref q15, .ref q17, .int 0, .ref q19, .int 0, .null, .int 0, .null, .int 0, .int 0, .int 0])), (q15, .inl (y16, 8, .inl (fun _ => 0))), (q17, .inl (y18, 8, .inl (fun _ => 0))), (q19, .inl (y20, 8, .inl (fun _ => 0))), (q21, .inl (y22, 24, .inl (fun _ => 0)))] [(y16, .int), (y18, .boolean), (y20, .int), (y22, .int)] _ := hh
  refine k_putF (C := RX3) (T := TX3) (N := 11) (ci := 8) (v := .ref q21) (ws' := [(q14, .inr (8, [.ref q15, .ref q17, .int 0, .ref q19, .int 0, .ref q21, .int 0, .null, .int 0, .int 0, .int 0])), (q15, .inl (y16, 8, .inl (fun _ => 0))), (q17, .inl (y18, 8, .inl (fun _ => 0))), (q19, .inl (y20, 8, .inl (fun _ => 0))), (q21, .inl (y22, 24, .inl (fun _ => 0)))]) hx hb hts ws_a2_X3_init_0 tyX3 tyX3_ok nmX3 hown hh 0 rfl rfl 5 (by decide) (hts _ (wo_a2_X3_init_in _ (List.mem_of_getElem? (i := 8) rfl))) rfl hin rfl rfl rfl (Nat.le_of_ble_eq_true rfl) dX3_init_33 rfl (fun H locs hh => ?_)
  refine lv_aload_n hx hb dX3_init_36 rfl (lv_at hl 0 rfl) ?_
  refine lv_bipush (v := 96) hx hb dX3_init_37 (by decide) ?_
  refine k_newa (atype := .int) (ty := .int) (N' := 96) (a0 := (96, .inl (fun _ => 0))) hx hb (hts _ (wo_a2_X3_init_in _ (List.mem_of_getElem? (i := 3) rfl))) rfl hh (fun cA => rfl) (by decide) (by decide) (Nat.le_of_ble_eq_true rfl) (Nat.le_of_ble_eq_true rfl) (Nat.le_of_ble_eq_true rfl) dX3_init_39 (fun q23 y24 H hh => ?_)
  have hh : kH D kStr e0 A s H [(q14, .inr (8, [.ref q15, .ref q17, .int 0, .ref q19, .int 0, .ref q21, .int 0, .null, .int 0, .int 0, .int 0])), (q15, .inl (y16, 8, .inl (fun _ => 0))), (q17, .inl (y18, 8, .inl (fun _ => 0))), (q19, .inl (y20, 8, .inl (fun _ => 0))), (q21, .inl (y22, 24, .inl (fun _ => 0))), (q23, .inl (y24, 96, .inl (fun _ => 0)))] [(y16, .int), (y18, .boolean), (y20, .int), (y22, .int), (y24, .int)] _ := hh
  refine k_putF (C := RX3) (T := TX3) (N := 11) (ci := 8) (v := .ref q23) (ws' := [(q14, .inr (8, [.ref q15, .ref q17, .int 0, .ref q19, .int 0, .ref q21, .int 0, .ref q23, .int 0, .int 0, .int 0])), (q15, .inl (y16, 8, .inl (fun _ => 0))), (q17, .inl (y18, 8, .inl (fun _ => 0))), (q19, .inl (y20, 8, .inl (fun _ => 0))), (q21, .inl (y22, 24, .inl (fun _ => 0))), (q23, .inl (y24, 96, .inl (fun _ => 0)))]) hx hb hts ws_a2_X3_init_0 tyX3 tyX3_ok nmX3 hown hh 0 rfl rfl 7 (by decide) (hts _ (wo_a2_X3_init_in _ (List.mem_of_getElem? (i := 9) rfl))) rfl hin rfl rfl rfl (Nat.le_of_ble_eq_true rfl) dX3_init_41 rfl (fun H locs hh => ?_)
  exact k_endV hx hb hr hlocks hh ⟨q15, q17, q19, q21, q23, y16, y18, y20, y22, y24, rfl, rfl, rfl⟩ [0, 1, 2, 3, 4, 5] [0, 1, 2, 3, 4] rfl rfl rfl (Nat.le_of_ble_eq_true rfl) (Nat.le_of_ble_eq_true rfl) dX3_init_44
def wo_a3_X6_init : List Cond := [Cond.methodLink RX6 1 objectInit, Cond.instanceMethod objectInit, Cond.code objectInit ⟨#[0xb1]⟩ 1 none, Cond.classLink RX6 9 "Segueworks$Reel", Cond.fieldLink RX6 11 "Segueworks" "reels" "[LSegueworks$Reel;", Cond.classLink RX6 15 "Segueworks$Piece", Cond.fieldLink RX6 17 "Segueworks" "pieces" "[LSegueworks$Piece;", Cond.classLink RX6 21 RX4, Cond.instantiable RX4 6, Cond.initialized RX4, Cond.methodLink RX6 23 yX4_init, Cond.instanceMethod yX4_init, Cond.fieldLink RX6 24 "Segueworks" "program" "LSegueworks$Program;", Cond.classLink RX6 28 RX3, Cond.instantiable RX3 11, Cond.initialized RX3, Cond.methodLink RX6 30 yX3_init, Cond.instanceMethod yX3_init, Cond.fieldLink RX6 31 "Segueworks" "plant" "LSegueworks$Plant;", Cond.classLink RX6 35 "Segueworks$Edition", Cond.fieldLink RX6 37 "Segueworks" "editions" "[LSegueworks$Edition;"]
def wk_a3_X6_init : List Cond := Cond.code yX6_init cX6_init 1 none :: (wo_a3_X6_init ++ ((u_ws RX6 TX6 8) ++ ((u_ws RX4 TX4 6) ++ ((wk_a1_X4_init) ++ ((u_ws RX3 TX3 11) ++ (wk_a2_X3_init))))))
theorem wo_a3_X6_init_in : ∀ w ∈ wo_a3_X6_init, w ∈ wk_a3_X6_init := fun w h => List.mem_cons_of_mem _ (List.mem_append_left _ h)
theorem ws_a3_X6_init_0 : ∀ w ∈ u_ws RX6 TX6 8, w ∈ wk_a3_X6_init := fun w h => List.mem_cons_of_mem _ (List.mem_append_right _ (List.mem_append_left _ h))
theorem ws_a3_X6_init_1 : ∀ w ∈ u_ws RX4 TX4 6, w ∈ wk_a3_X6_init := fun w h => List.mem_cons_of_mem _ (List.mem_append_right _ (List.mem_append_right _ (List.mem_append_left _ h)))
theorem gi_a3_X6_init_2 : GoodIn wk_a3_X6_init (wk_a1_X4_init) := fun w h => ⟨List.mem_cons_of_mem _ (List.mem_append_right _ (List.mem_append_right _ (List.mem_append_right _ (List.mem_append_left _ h)))), good_of_word (gk_a1_X4_init w h)⟩
theorem ws_a3_X6_init_3 : ∀ w ∈ u_ws RX3 TX3 11, w ∈ wk_a3_X6_init := fun w h => List.mem_cons_of_mem _ (List.mem_append_right _ (List.mem_append_right _ (List.mem_append_right _ (List.mem_append_right _ (List.mem_append_left _ h)))))
theorem gi_a3_X6_init_4 : GoodIn wk_a3_X6_init (wk_a2_X3_init) := fun w h => ⟨List.mem_cons_of_mem _ (List.mem_append_right _ (List.mem_append_right _ (List.mem_append_right _ (List.mem_append_right _ (List.mem_append_right _ h))))), good_of_word (gk_a2_X3_init w h)⟩
theorem gk_a3_X6_init : ∀ w ∈ wk_a3_X6_init, goodWord w = true := List.forall_mem_cons.mpr ⟨rfl, (List.forall_mem_append.mpr ⟨(show ∀ w ∈ wo_a3_X6_init, goodWord w = true by decide +kernel), (List.forall_mem_append.mpr ⟨(show ∀ w ∈ u_ws RX6 TX6 8, goodWord w = true by decide +kernel), (List.forall_mem_append.mpr ⟨(show ∀ w ∈ u_ws RX4 TX4 6, goodWord w = true by decide +kernel), (List.forall_mem_append.mpr ⟨gk_a1_X4_init, (List.forall_mem_append.mpr ⟨(show ∀ w ∈ u_ws RX3 TX3 11, goodWord w = true by decide +kernel), gk_a2_X3_init⟩)⟩)⟩)⟩)⟩)⟩
set_option maxHeartbeats 4000000 in
set_option maxRecDepth 100000 in
theorem a3_X6_init (l : Launch) (hst : l.stackTraces = false) (D : va_G) (e0 : kE) (q1 : Nat)  : kI l yX6_init wk_a3_X6_init 2 40 14 3232 D kStr e0 [] [(q1, .inr (11, [.null, .int 0, .null, .int 0, .null, .null, .null, .int 0]))] [.ref q1] (fun v w t => ∃ (q2 : Nat), ∃ (q4 : Nat), ∃ (q6 : Nat), ∃ (q14 : Nat), ∃ (q25 : Nat), ∃ (y5 : ClassId), ∃ (q7 : Nat), ∃ (q8 : Nat), ∃ (q9 : Nat), ∃ (q10 : Nat), ∃ (y11 : ClassId), ∃ (y12 : ClassId), ∃ (y13 : ClassId), v = none ∧ w = [(q1, .inr (11, [.ref q2, .int 0, .ref q4, .int 0, .ref q6, .ref q14, .ref q25, .int 0])), (q4, .inl (y5, 24, .inr (.inr (.inr (.inr (fun _ => none)))))), (q6, .inr (9, [.ref q7, .int 0, .ref q8, .int 0, .ref q9, .ref q10])), (q7, .inl (y11, 12, .inr (.inr (.inr (.inr (fun _ => none)))))), (q8, .inl (y12, 3000, .inl (fun _ => 0))), (q9, .inl (y13, 12, .inl (fun _ => 0)))] ∧ t = [(y5, .object "Segueworks$Piece"), (y11, .object "Segueworks$Item"), (y12, .int), (y13, .int)]) := by
  refine k_ofI (cc := cX6_init) (maxL := 1) (ret := none) (by decide) rfl (Nat.le_of_ble_eq_true rfl) ?_
  intro p e s m args below meth c A ls hx hb hr hts hown hlocks hml hin hh hl
  have hown : s.vm.findClass RX6 = some m.cls := hown
  have hl : lv_has ls 1 [(0, .ref q1)] := hl
  have hin : meth.name = "<init>" := hin
  refine lv_aload_n hx hb dX6_init_0 rfl (lv_at hl 0 rfl) ?_
  refine W.objInit hx hb hown (hts _ (wo_a3_X6_init_in _ (List.mem_of_getElem? (i := 0) rfl))) (hts _ (wo_a3_X6_init_in _ (List.mem_of_getElem? (i := 1) rfl))) (hts _ (wo_a3_X6_init_in _ (List.mem_of_getElem? (i := 2) rfl))) rfl (by rw [hml]; exact hl.1) rfl dX6_init_1 (Nat.le_of_ble_eq_true rfl) (Nat.le_of_ble_eq_true rfl) ?_
  refine W.eq (g2 := F0 m 4 ls []) rfl ?_
  refine lv_aload_n hx hb dX6_init_4 rfl (lv_at hl 0 rfl) ?_
  refine lv_bipush (v := 6) hx hb dX6_init_5 (by decide) ?_
  refine k_newq (C := "Segueworks$Reel") (N' := 6) hx hb hown (hts _ (wo_a3_X6_init_in _ (List.mem_of_getElem? (i := 3) rfl))) (by decide) hh (by decide) (by decide) (Nat.le_of_ble_eq_true rfl) (Nat.le_of_ble_eq_true rfl) (Nat.le_of_ble_eq_true rfl) dX6_init_7 (fun q2 y3 H hh => ?_)
  have hh : kH D kStr e0 A s H [(q1, .inr (11, [.null, .int 0, .null, .int 0, .null, .null, .null, .int 0])), (q2, .inl (y3, 6, .inr (.inr (.inr (.inr (fun _ => none))))))] [(y3, .object "Segueworks$Reel")] _ := hh
  refine k_putF (C := RX6) (T := TX6) (N := 8) (ci := 11) (v := .ref q2) (ws' := [(q1, .inr (11, [.ref q2, .int 0, .null, .int 0, .null, .null, .null, .int 0])), (q2, .inl (y3, 6, .inr (.inr (.inr (.inr (fun _ => none))))))]) hx hb hts ws_a3_X6_init_0 tyX6 tyX6_ok nmX6 hown hh 0 rfl rfl 0 (by decide) (hts _ (wo_a3_X6_init_in _ (List.mem_of_getElem? (i := 4) rfl))) rfl hin rfl rfl rfl (Nat.le_of_ble_eq_true rfl) dX6_init_10 rfl (fun H locs hh => ?_)
  refine lv_aload_n hx hb dX6_init_13 rfl (lv_at hl 0 rfl) ?_
  refine lv_bipush (v := 24) hx hb dX6_init_14 (by decide) ?_
  refine k_newq (C := "Segueworks$Piece") (N' := 24) hx hb hown (hts _ (wo_a3_X6_init_in _ (List.mem_of_getElem? (i := 5) rfl))) (by decide) hh (by decide) (by decide) (Nat.le_of_ble_eq_true rfl) (Nat.le_of_ble_eq_true rfl) (Nat.le_of_ble_eq_true rfl) dX6_init_16 (fun q4 y5 H hh => ?_)
  have hh : kH D kStr e0 A s H [(q1, .inr (11, [.ref q2, .int 0, .null, .int 0, .null, .null, .null, .int 0])), (q2, .inl (y3, 6, .inr (.inr (.inr (.inr (fun _ => none)))))), (q4, .inl (y5, 24, .inr (.inr (.inr (.inr (fun _ => none))))))] [(y3, .object "Segueworks$Reel"), (y5, .object "Segueworks$Piece")] _ := hh
  refine k_putF (C := RX6) (T := TX6) (N := 8) (ci := 11) (v := .ref q4) (ws' := [(q1, .inr (11, [.ref q2, .int 0, .ref q4, .int 0, .null, .null, .null, .int 0])), (q2, .inl (y3, 6, .inr (.inr (.inr (.inr (fun _ => none)))))), (q4, .inl (y5, 24, .inr (.inr (.inr (.inr (fun _ => none))))))]) hx hb hts ws_a3_X6_init_0 tyX6 tyX6_ok nmX6 hown hh 0 rfl rfl 2 (by decide) (hts _ (wo_a3_X6_init_in _ (List.mem_of_getElem? (i := 6) rfl))) rfl hin rfl rfl rfl (Nat.le_of_ble_eq_true rfl) dX6_init_19 rfl (fun H locs hh => ?_)
  refine lv_aload_n hx hb dX6_init_22 rfl (lv_at hl 0 rfl) ?_
  refine k_new (C := RX4) (T := TX4) (N := 6) (ci := 9) (fs := [.null, .int 0, .null, .int 0, .null, .null]) hx hb hts ws_a3_X6_init_1 tyX4 tyX4_ok hown (hts _ (wo_a3_X6_init_in _ (List.mem_of_getElem? (i := 7) rfl))) (hts _ (wo_a3_X6_init_in _ (List.mem_of_getElem? (i := 8) rfl))) (hts _ (wo_a3_X6_init_in _ (List.mem_of_getElem? (i := 9) rfl))) hh rfl (fun j hj => by rcases (show j = 0 ∨ j = 1 ∨ j = 2 ∨ j = 3 ∨ j = 4 ∨ j = 5 by omega) with rfl | rfl | rfl | rfl | rfl | rfl <;> rfl) (Nat.le_of_ble_eq_true rfl) (Nat.le_of_ble_eq_true rfl) dX6_init_23 (fun q6 H hh => ?_)
  have hh : kH D kStr e0 A s H [(q1, .inr (11, [.ref q2, .int 0, .ref q4, .int 0, .null, .null, .null, .int 0])), (q2, .inl (y3, 6, .inr (.inr (.inr (.inr (fun _ => none)))))), (q4, .inl (y5, 24, .inr (.inr (.inr (.inr (fun _ => none)))))), (q6, .inr (9, [.null, .int 0, .null, .int 0, .null, .null]))] [(y3, .object "Segueworks$Reel"), (y5, .object "Segueworks$Piece")] _ := hh
  refine lv_dup hx hb dX6_init_26 rfl ?_
  refine k_callI (wr := [(q1, .inr (11, [.ref q2, .int 0, .ref q4, .int 0, .null, .null, .null, .int 0])), (q2, .inl (y3, 6, .inr (.inr (.inr (.inr (fun _ => none)))))), (q4, .inl (y5, 24, .inr (.inr (.inr (.inr (fun _ => none))))))]) (rest := [.ref q6, .ref q1]) (own := RX6) ⟨hx, hb, hml, hown, hts⟩ (a1_X4_init l hst D e0 q6 ) (cwI 0 hts gi_a3_X6_init_2 rfl rfl rfl (hts _ (wo_a3_X6_init_in _ (List.mem_of_getElem? (i := 9) rfl))) (hts _ (wo_a3_X6_init_in _ (List.mem_of_getElem? (i := 10) rfl))) (hts _ (wo_a3_X6_init_in _ (List.mem_of_getElem? (i := 11) rfl))) rfl (by decide +kernel) ⟨Nat.le_of_ble_eq_true rfl, Nat.le_of_ble_eq_true rfl⟩) hh [3] [0, 1, 2] [] rfl rfl rfl rfl (by decide) rfl rfl hl rfl (Nat.le_of_ble_eq_true rfl) dX6_init_27 ⟨Nat.le_of_ble_eq_true rfl, (Nat.le_of_ble_eq_true rfl)⟩ (fun v w ty1 H locs hp hh => ?_)
  obtain ⟨q7, q8, q9, q10, y11, y12, y13, rfl, rfl, rfl⟩ := hp
  have hh : kH D kStr e0 A s H [(q1, .inr (11, [.ref q2, .int 0, .ref q4, .int 0, .null, .null, .null, .int 0])), (q2, .inl (y3, 6, .inr (.inr (.inr (.inr (fun _ => none)))))), (q4, .inl (y5, 24, .inr (.inr (.inr (.inr (fun _ => none)))))), (q6, .inr (9, [.ref q7, .int 0, .ref q8, .int 0, .ref q9, .ref q10])), (q7, .inl (y11, 12, .inr (.inr (.inr (.inr (fun _ => none)))))), (q8, .inl (y12, 3000, .inl (fun _ => 0))), (q9, .inl (y13, 12, .inl (fun _ => 0)))] [(y3, .object "Segueworks$Reel"), (y5, .object "Segueworks$Piece"), (y11, .object "Segueworks$Item"), (y12, .int), (y13, .int)] _ := hh
  refine W.eq (g2 := F0 m 30 ls [.ref q6, .ref q1]) (by first | rfl | decide) ?_
  refine k_putF (C := RX6) (T := TX6) (N := 8) (ci := 11) (v := .ref q6) (ws' := [(q1, .inr (11, [.ref q2, .int 0, .ref q4, .int 0, .ref q6, .null, .null, .int 0])), (q2, .inl (y3, 6, .inr (.inr (.inr (.inr (fun _ => none)))))), (q4, .inl (y5, 24, .inr (.inr (.inr (.inr (fun _ => none)))))), (q6, .inr (9, [.ref q7, .int 0, .ref q8, .int 0, .ref q9, .ref q10])), (q7, .inl (y11, 12, .inr (.inr (.inr (.inr (fun _ => none)))))), (q8, .inl (y12, 3000, .inl (fun _ => 0))), (q9, .inl (y13, 12, .inl (fun _ => 0)))]) hx hb hts ws_a3_X6_init_0 tyX6 tyX6_ok nmX6 hown hh 0 rfl rfl 4 (by decide) (hts _ (wo_a3_X6_init_in _ (List.mem_of_getElem? (i := 12) rfl))) rfl hin rfl rfl rfl (Nat.le_of_ble_eq_true rfl) dX6_init_30 rfl (fun H locs hh => ?_)
  refine lv_aload_n hx hb dX6_init_33 rfl (lv_at hl 0 rfl) ?_
  refine k_new (C := RX3) (T := TX3) (N := 11) (ci := 8) (fs := [.null, .null, .int 0, .null, .int 0, .null, .int 0, .null, .int 0, .int 0, .int 0]) hx hb hts ws_a3_X6_init_3 tyX3 tyX3_ok hown (hts _ (wo_a3_X6_init_in _ (List.mem_of_getElem? (i := 13) rfl))) (hts _ (wo_a3_X6_init_in _ (List.mem_of_getElem? (i := 14) rfl))) (hts _ (wo_a3_X6_init_in _ (List.mem_of_getElem? (i := 15) rfl))) hh rfl (fun j hj => by rcases (show j = 0 ∨ j = 1 ∨ j = 2 ∨ j = 3 ∨ j = 4 ∨ j = 5 ∨ j = 6 ∨ j = 7 ∨ j = 8 ∨ j = 9 ∨ j = 10 by omega) with rfl | rfl | rfl | rfl | rfl | rfl | rfl | rfl | rfl | rfl | rfl <;> rfl) (Nat.le_of_ble_eq_true rfl) (Nat.le_of_ble_eq_true rfl) dX6_init_34 (fun q14 H hh => ?_)
  have hh : kH D kStr e0 A s H [(q1, .inr (11, [.ref q2, .int 0, .ref q4, .int 0, .ref q6, .null, .null, .int 0])), (q2, .inl (y3, 6, .inr (.inr (.inr (.inr (fun _ => none)))))), (q4, .inl (y5, 24, .inr (.inr (.inr (.inr (fun _ => none)))))), (q6, .inr (9, [.ref q7, .int 0, .ref q8, .int 0, .ref q9, .ref q10])), (q7, .inl (y11, 12, .inr (.inr (.inr (.inr (fun _ => none)))))), (q8, .inl (y12, 3000, .inl (fun _ => 0))), (q9, .inl (y13, 12, .inl (fun _ => 0))), (q14, .inr (8, [.null, .null, .int 0, .null, .int 0, .null, .int 0, .null, .int 0, .int 0, .int 0]))] [(y3, .object "Segueworks$Reel"), (y5, .object "Segueworks$Piece"), (y11, .object "Segueworks$Item"), (y12, .int), (y13, .int)] _ := hh
  refine lv_dup hx hb dX6_init_37 rfl ?_
  refine k_callI (wr := [(q1, .inr (11, [.ref q2, .int 0, .ref q4, .int 0, .ref q6, .null, .null, .int 0])), (q2, .inl (y3, 6, .inr (.inr (.inr (.inr (fun _ => none)))))), (q4, .inl (y5, 24, .inr (.inr (.inr (.inr (fun _ => none)))))), (q6, .inr (9, [.ref q7, .int 0, .ref q8, .int 0, .ref q9, .ref q10])), (q7, .inl (y11, 12, .inr (.inr (.inr (.inr (fun _ => none)))))), (q8, .inl (y12, 3000, .inl (fun _ => 0))), (q9, .inl (y13, 12, .inl (fun _ => 0)))]) (rest := [.ref q14, .ref q1]) (own := RX6) ⟨hx, hb, hml, hown, hts⟩ (a2_X3_init l hst D e0 q14 ) (cwI 0 hts gi_a3_X6_init_4 rfl rfl rfl (hts _ (wo_a3_X6_init_in _ (List.mem_of_getElem? (i := 15) rfl))) (hts _ (wo_a3_X6_init_in _ (List.mem_of_getElem? (i := 16) rfl))) (hts _ (wo_a3_X6_init_in _ (List.mem_of_getElem? (i := 17) rfl))) rfl (by decide +kernel) ⟨Nat.le_of_ble_eq_true rfl, Nat.le_of_ble_eq_true rfl⟩) hh [7] [0, 1, 2, 3, 4, 5, 6] [] rfl rfl rfl rfl (by decide) rfl rfl hl rfl (Nat.le_of_ble_eq_true rfl) dX6_init_38 ⟨Nat.le_of_ble_eq_true rfl, (Nat.le_of_ble_eq_true rfl)⟩ (fun v w ty1 H locs hp hh => ?_)
  obtain ⟨q15, q16, q17, q18, q19, y20, y21, y22, y23, y24, rfl, rfl, rfl⟩ := hp
  have hh : kH D kStr e0 A s H [(q1, .inr (11, [.ref q2, .int 0, .ref q4, .int 0, .ref q6, .null, .null, .int 0])), (q2, .inl (y3, 6, .inr (.inr (.inr (.inr (fun _ => none)))))), (q4, .inl (y5, 24, .inr (.inr (.inr (.inr (fun _ => none)))))), (q6, .inr (9, [.ref q7, .int 0, .ref q8, .int 0, .ref q9, .ref q10])), (q7, .inl (y11, 12, .inr (.inr (.inr (.inr (fun _ => none)))))), (q8, .inl (y12, 3000, .inl (fun _ => 0))), (q9, .inl (y13, 12, .inl (fun _ => 0))), (q14, .inr (8, [.ref q15, .ref q16, .int 0, .ref q17, .int 0, .ref q18, .int 0, .ref q19, .int 0, .int 0, .int 0])), (q15, .inl (y20, 8, .inl (fun _ => 0))), (q16, .inl (y21, 8, .inl (fun _ => 0))), (q17, .inl (y22, 8, .inl (fun _ => 0))), (q18, .inl (y23, 24, .inl (fun _ => 0))), (q19, .inl (y24, 96, .inl (fun _ => 0)))] [(y3, .object "Segueworks$Reel"), (y5, .object "Segueworks$Piece"), (y11, .object "Segueworks$Item"), (y12, .int), (y13, .int), (y20, .int), (y21, .boolean), (y22, .int), (y23, .int), (y24, .int)] _ := hh
  refine W.eq (g2 := F0 m 41 ls [.ref q14, .ref q1]) (by first | rfl | decide) ?_
  refine k_putF (C := RX6) (T := TX6) (N := 8) (ci := 11) (v := .ref q14) (ws' := [(q1, .inr (11, [.ref q2, .int 0, .ref q4, .int 0, .ref q6, .ref q14, .null, .int 0])), (q2, .inl (y3, 6, .inr (.inr (.inr (.inr (fun _ => none)))))), (q4, .inl (y5, 24, .inr (.inr (.inr (.inr (fun _ => none)))))), (q6, .inr (9, [.ref q7, .int 0, .ref q8, .int 0, .ref q9, .ref q10])), (q7, .inl (y11, 12, .inr (.inr (.inr (.inr (fun _ => none)))))), (q8, .inl (y12, 3000, .inl (fun _ => 0))), (q9, .inl (y13, 12, .inl (fun _ => 0))), (q14, .inr (8, [.ref q15, .ref q16, .int 0, .ref q17, .int 0, .ref q18, .int 0, .ref q19, .int 0, .int 0, .int 0])), (q15, .inl (y20, 8, .inl (fun _ => 0))), (q16, .inl (y21, 8, .inl (fun _ => 0))), (q17, .inl (y22, 8, .inl (fun _ => 0))), (q18, .inl (y23, 24, .inl (fun _ => 0))), (q19, .inl (y24, 96, .inl (fun _ => 0)))]) hx hb hts ws_a3_X6_init_0 tyX6 tyX6_ok nmX6 hown hh 0 rfl rfl 5 (by decide) (hts _ (wo_a3_X6_init_in _ (List.mem_of_getElem? (i := 18) rfl))) rfl hin rfl rfl rfl (Nat.le_of_ble_eq_true rfl) dX6_init_41 rfl (fun H locs hh => ?_)
  refine lv_aload_n hx hb dX6_init_44 rfl (lv_at hl 0 rfl) ?_
  refine lv_iconst (v := 5) hx hb dX6_init_45 (by decide) ?_
  refine k_newq (C := "Segueworks$Edition") (N' := 5) hx hb hown (hts _ (wo_a3_X6_init_in _ (List.mem_of_getElem? (i := 19) rfl))) (by decide) hh (by decide) (by decide) (Nat.le_of_ble_eq_true rfl) (Nat.le_of_ble_eq_true rfl) (Nat.le_of_ble_eq_true rfl) dX6_init_46 (fun q25 y26 H hh => ?_)
  have hh : kH D kStr e0 A s H [(q1, .inr (11, [.ref q2, .int 0, .ref q4, .int 0, .ref q6, .ref q14, .null, .int 0])), (q2, .inl (y3, 6, .inr (.inr (.inr (.inr (fun _ => none)))))), (q4, .inl (y5, 24, .inr (.inr (.inr (.inr (fun _ => none)))))), (q6, .inr (9, [.ref q7, .int 0, .ref q8, .int 0, .ref q9, .ref q10])), (q7, .inl (y11, 12, .inr (.inr (.inr (.inr (fun _ => none)))))), (q8, .inl (y12, 3000, .inl (fun _ => 0))), (q9, .inl (y13, 12, .inl (fun _ => 0))), (q14, .inr (8, [.ref q15, .ref q16, .int 0, .ref q17, .int 0, .ref q18, .int 0, .ref q19, .int 0, .int 0, .int 0])), (q15, .inl (y20, 8, .inl (fun _ => 0))), (q16, .inl (y21, 8, .inl (fun _ => 0))), (q17, .inl (y22, 8, .inl (fun _ => 0))), (q18, .inl (y23, 24, .inl (fun _ => 0))), (q19, .inl (y24, 96, .inl (fun _ => 0))), (q25, .inl (y26, 5, .inr (.inr (.inr (.inr (fun _ => none))))))] [(y3, .object "Segueworks$Reel"), (y5, .object "Segueworks$Piece"), (y11, .object "Segueworks$Item"), (y12, .int), (y13, .int), (y20, .int), (y21, .boolean), (y22, .int), (y23, .int), (y24, .int), (y26, .object "Segueworks$Edition")] _ := hh
  refine k_putF (C := RX6) (T := TX6) (N := 8) (ci := 11) (v := .ref q25) (ws' := [(q1, .inr (11, [.ref q2, .int 0, .ref q4, .int 0, .ref q6, .ref q14, .ref q25, .int 0])), (q2, .inl (y3, 6, .inr (.inr (.inr (.inr (fun _ => none)))))), (q4, .inl (y5, 24, .inr (.inr (.inr (.inr (fun _ => none)))))), (q6, .inr (9, [.ref q7, .int 0, .ref q8, .int 0, .ref q9, .ref q10])), (q7, .inl (y11, 12, .inr (.inr (.inr (.inr (fun _ => none)))))), (q8, .inl (y12, 3000, .inl (fun _ => 0))), (q9, .inl (y13, 12, .inl (fun _ => 0))), (q14, .inr (8, [.ref q15, .ref q16, .int 0, .ref q17, .int 0, .ref q18, .int 0, .ref q19, .int 0, .int 0, .int 0])), (q15, .inl (y20, 8, .inl (fun _ => 0))), (q16, .inl (y21, 8, .inl (fun _ => 0))), (q17, .inl (y22, 8, .inl (fun _ => 0))), (q18, .inl (y23, 24, .inl (fun _ => 0))), (q19, .inl (y24, 96, .inl (fun _ => 0))), (q25, .inl (y26, 5, .inr (.inr (.inr (.inr (fun _ => none))))))]) hx hb hts ws_a3_X6_init_0 tyX6 tyX6_ok nmX6 hown hh 0 rfl rfl 6 (by decide) (hts _ (wo_a3_X6_init_in _ (List.mem_of_getElem? (i := 20) rfl))) rfl hin rfl rfl rfl (Nat.le_of_ble_eq_true rfl) dX6_init_49 rfl (fun H locs hh => ?_)
  exact k_endV hx hb hr hlocks hh ⟨q2, q4, q6, q14, q25, y5, q7, q8, q9, q10, y11, y12, y13, rfl, rfl, rfl⟩ [0, 2, 3, 4, 5, 6] [1, 2, 3, 4] rfl rfl rfl (Nat.le_of_ble_eq_true rfl) (Nat.le_of_ble_eq_true rfl) dX6_init_52
def wo_a4_Jxa1e45_init_da8c8 : List Cond := [Cond.methodLink RJxa1e45 1 objectInit, Cond.instanceMethod objectInit, Cond.code objectInit ⟨#[0xb1]⟩ 1 none]
def wk_a4_Jxa1e45_init_da8c8 : List Cond := Cond.code yJxa1e45_init_da8c8 cJxa1e45_init_da8c8 1 none :: wo_a4_Jxa1e45_init_da8c8
theorem wo_a4_Jxa1e45_init_da8c8_in : ∀ w ∈ wo_a4_Jxa1e45_init_da8c8, w ∈ wk_a4_Jxa1e45_init_da8c8 := fun w h => List.mem_cons_of_mem _ h
theorem gk_a4_Jxa1e45_init_da8c8 : ∀ w ∈ wk_a4_Jxa1e45_init_da8c8, goodWord w = true := List.forall_mem_cons.mpr ⟨rfl, (show ∀ w ∈ wo_a4_Jxa1e45_init_da8c8, goodWord w = true by decide +kernel)⟩
set_option maxHeartbeats 4000000 in
set_option maxRecDepth 100000 in
theorem a4_Jxa1e45_init_da8c8 (l : Launch) (hst : l.stackTraces = false) (D : va_G) (e0 : kE) (q16 : Nat)  : kI l yJxa1e45_init_da8c8 wk_a4_Jxa1e45_init_da8c8 1 20 0 0 D kStr e0 [] [] [.ref q16] (fun v w t => v = none ∧ w = [] ∧ t = []) := by
  refine k_ofI (cc := cJxa1e45_init_da8c8) (maxL := 1) (ret := none) (by decide) rfl (Nat.le_of_ble_eq_true rfl) ?_
  intro p e s m args below meth c A ls hx hb hr hts hown hlocks hml hin hh hl
  have hown : s.vm.findClass RJxa1e45 = some m.cls := hown
  have hl : lv_has ls 1 [(0, .ref q16)] := hl
  have hin : meth.name = "<init>" := hin
  refine lv_aload_n hx hb dJxa1e45_init_da8c8_0 rfl (lv_at hl 0 rfl) ?_
  refine W.objInit hx hb hown (hts _ (wo_a4_Jxa1e45_init_da8c8_in _ (List.mem_of_getElem? (i := 0) rfl))) (hts _ (wo_a4_Jxa1e45_init_da8c8_in _ (List.mem_of_getElem? (i := 1) rfl))) (hts _ (wo_a4_Jxa1e45_init_da8c8_in _ (List.mem_of_getElem? (i := 2) rfl))) rfl (by rw [hml]; exact hl.1) rfl dJxa1e45_init_da8c8_1 (Nat.le_of_ble_eq_true rfl) (Nat.le_of_ble_eq_true rfl) ?_
  refine W.eq (g2 := F0 m 4 ls []) rfl ?_
  exact k_endV hx hb hr hlocks hh ⟨rfl, rfl, rfl⟩ [] [] rfl rfl rfl (Nat.le_of_ble_eq_true rfl) (Nat.le_of_ble_eq_true rfl) dJxa1e45_init_da8c8_4
def wo_a5_Jxc12de_init_da8c8 : List Cond := [Cond.initialized RJxa1e45, Cond.methodLink RJxc12de 1 yJxa1e45_init_da8c8, Cond.instanceMethod yJxa1e45_init_da8c8, Cond.fieldLink RJxc12de 7 "java/util/AbstractList" "modCount" "I"]
def wk_a5_Jxc12de_init_da8c8 : List Cond := Cond.code yJxc12de_init_da8c8 cJxc12de_init_da8c8 1 none :: (wo_a5_Jxc12de_init_da8c8 ++ ((wk_a4_Jxa1e45_init_da8c8) ++ (u_ws RJx4a65c TJx4a65c 3)))
theorem wo_a5_Jxc12de_init_da8c8_in : ∀ w ∈ wo_a5_Jxc12de_init_da8c8, w ∈ wk_a5_Jxc12de_init_da8c8 := fun w h => List.mem_cons_of_mem _ (List.mem_append_left _ h)
theorem gi_a5_Jxc12de_init_da8c8_0 : GoodIn wk_a5_Jxc12de_init_da8c8 (wk_a4_Jxa1e45_init_da8c8) := fun w h => ⟨List.mem_cons_of_mem _ (List.mem_append_right _ (List.mem_append_left _ h)), good_of_word (gk_a4_Jxa1e45_init_da8c8 w h)⟩
theorem ws_a5_Jxc12de_init_da8c8_1 : ∀ w ∈ u_ws RJx4a65c TJx4a65c 3, w ∈ wk_a5_Jxc12de_init_da8c8 := fun w h => List.mem_cons_of_mem _ (List.mem_append_right _ (List.mem_append_right _ h))
theorem gk_a5_Jxc12de_init_da8c8 : ∀ w ∈ wk_a5_Jxc12de_init_da8c8, goodWord w = true := List.forall_mem_cons.mpr ⟨rfl, (List.forall_mem_append.mpr ⟨(show ∀ w ∈ wo_a5_Jxc12de_init_da8c8, goodWord w = true by decide +kernel), (List.forall_mem_append.mpr ⟨gk_a4_Jxa1e45_init_da8c8, (show ∀ w ∈ u_ws RJx4a65c TJx4a65c 3, goodWord w = true by decide +kernel)⟩)⟩)⟩
set_option maxHeartbeats 4000000 in
set_option maxRecDepth 100000 in
theorem a5_Jxc12de_init_da8c8 (l : Launch) (hst : l.stackTraces = false) (D : va_G) (e0 : kE) (q16 : Nat)  : kI l yJxc12de_init_da8c8 wk_a5_Jxc12de_init_da8c8 2 40 0 0 D kStr e0 [] [(q16, .inr (4, [.int 0, .null, .int 0]))] [.ref q16] (fun v w t => v = none ∧ w = [(q16, .inr (4, [.int 0, .null, .int 0]))] ∧ t = []) := by
  refine k_ofI (cc := cJxc12de_init_da8c8) (maxL := 1) (ret := none) (by decide) rfl (Nat.le_of_ble_eq_true rfl) ?_
  intro p e s m args below meth c A ls hx hb hr hts hown hlocks hml hin hh hl
  have hown : s.vm.findClass RJxc12de = some m.cls := hown
  have hl : lv_has ls 1 [(0, .ref q16)] := hl
  have hin : meth.name = "<init>" := hin
  refine lv_aload_n hx hb dJxc12de_init_da8c8_0 rfl (lv_at hl 0 rfl) ?_
  refine k_callI (wr := [(q16, .inr (4, [.int 0, .null, .int 0]))]) (rest := []) (own := RJxc12de) ⟨hx, hb, hml, hown, hts⟩ (a4_Jxa1e45_init_da8c8 l hst D e0 q16 ) (cwI 0 hts gi_a5_Jxc12de_init_da8c8_0 rfl rfl rfl (hts _ (wo_a5_Jxc12de_init_da8c8_in _ (List.mem_of_getElem? (i := 0) rfl))) (hts _ (wo_a5_Jxc12de_init_da8c8_in _ (List.mem_of_getElem? (i := 1) rfl))) (hts _ (wo_a5_Jxc12de_init_da8c8_in _ (List.mem_of_getElem? (i := 2) rfl))) rfl (by decide +kernel) ⟨Nat.le_of_ble_eq_true rfl, Nat.le_of_ble_eq_true rfl⟩) hh [] [0] [] rfl rfl rfl rfl (by decide) rfl rfl hl rfl (Nat.le_of_ble_eq_true rfl) dJxc12de_init_da8c8_1 ⟨Nat.le_of_ble_eq_true rfl, (Nat.le_of_ble_eq_true rfl)⟩ (fun v w ty1 H locs hp hh => ?_)
  obtain ⟨rfl, rfl, rfl⟩ := hp
  have hh : kH D kStr e0 A s H [(q16, .inr (4, [.int 0, .null, .int 0]))] [] _ := hh
  refine W.eq (g2 := F0 m 4 ls []) (by first | rfl | decide) ?_
  refine lv_aload_n hx hb dJxc12de_init_da8c8_4 rfl (lv_at hl 0 rfl) ?_
  refine lv_iconst (v := 0) hx hb dJxc12de_init_da8c8_5 (by decide) ?_
  refine k_put (C := RJx4a65c) (T := TJx4a65c) (N := 3) (ci := 4) (v := .int 0) (ws' := [(q16, .inr (4, [.int 0, .null, .int 0]))]) hx hb hts ws_a5_Jxc12de_init_da8c8_1 tyJx4a65c tyJx4a65c_ok nmJx4a65c hown hh 0 rfl rfl 0 (by decide) (hts _ (wo_a5_Jxc12de_init_da8c8_in _ (List.mem_of_getElem? (i := 3) rfl))) rfl rfl rfl (Nat.le_of_ble_eq_true rfl) dJxc12de_init_da8c8_6 rfl (fun H locs hh => ?_)
  exact k_endV hx hb hr hlocks hh ⟨rfl, rfl, rfl⟩ [0] [] rfl rfl rfl (Nat.le_of_ble_eq_true rfl) (Nat.le_of_ble_eq_true rfl) dJxc12de_init_da8c8_9
def wo_a6_Jx4a65c_init_da8c8 : List Cond := [Cond.initialized RJxc12de, Cond.methodLink RJx4a65c 1 yJxc12de_init_da8c8, Cond.instanceMethod yJxc12de_init_da8c8, Cond.fieldLink RJx4a65c 39 "java/util/ArrayList" "DEFAULTCAPACITY_EMPTY_ELEMENTDATA" "[Ljava/lang/Object;", Cond.fieldLink RJx4a65c 9 "java/util/ArrayList" "elementData" "[Ljava/lang/Object;"]
def wk_a6_Jx4a65c_init_da8c8 : List Cond := Cond.code yJx4a65c_init_da8c8 cJx4a65c_init_da8c8 1 none :: (wo_a6_Jx4a65c_init_da8c8 ++ ((wk_a5_Jxc12de_init_da8c8) ++ (u_ws RJx4a65c TJx4a65c 3)))
theorem wo_a6_Jx4a65c_init_da8c8_in : ∀ w ∈ wo_a6_Jx4a65c_init_da8c8, w ∈ wk_a6_Jx4a65c_init_da8c8 := fun w h => List.mem_cons_of_mem _ (List.mem_append_left _ h)
theorem gi_a6_Jx4a65c_init_da8c8_0 : GoodIn wk_a6_Jx4a65c_init_da8c8 (wk_a5_Jxc12de_init_da8c8) := fun w h => ⟨List.mem_cons_of_mem _ (List.mem_append_right _ (List.mem_append_left _ h)), good_of_word (gk_a5_Jxc12de_init_da8c8 w h)⟩
theorem ws_a6_Jx4a65c_init_da8c8_1 : ∀ w ∈ u_ws RJx4a65c TJx4a65c 3, w ∈ wk_a6_Jx4a65c_init_da8c8 := fun w h => List.mem_cons_of_mem _ (List.mem_append_right _ (List.mem_append_right _ h))
theorem gk_a6_Jx4a65c_init_da8c8 : ∀ w ∈ wk_a6_Jx4a65c_init_da8c8, goodWord w = true := List.forall_mem_cons.mpr ⟨rfl, (List.forall_mem_append.mpr ⟨(show ∀ w ∈ wo_a6_Jx4a65c_init_da8c8, goodWord w = true by decide +kernel), (List.forall_mem_append.mpr ⟨gk_a5_Jxc12de_init_da8c8, (show ∀ w ∈ u_ws RJx4a65c TJx4a65c 3, goodWord w = true by decide +kernel)⟩)⟩)⟩
set_option maxHeartbeats 4000000 in
set_option maxRecDepth 100000 in
theorem a6_Jx4a65c_init_da8c8 (l : Launch) (hst : l.stackTraces = false) (D : va_G) (e0 : kE) (q16 : Nat)  : kI l yJx4a65c_init_da8c8 wk_a6_Jx4a65c_init_da8c8 3 60 0 0 D kStr e0 [] [(q16, .inr (4, [.int 0, .null, .int 0]))] [.ref q16] (fun v w t => v = none ∧ w = [(q16, .inr (4, [.int 0, .ref e0.1, .int 0]))] ∧ t = []) := by
  refine k_ofI (cc := cJx4a65c_init_da8c8) (maxL := 1) (ret := none) (by decide) rfl (Nat.le_of_ble_eq_true rfl) ?_
  intro p e s m args below meth c A ls hx hb hr hts hown hlocks hml hin hh hl
  have hown : s.vm.findClass RJx4a65c = some m.cls := hown
  have hl : lv_has ls 1 [(0, .ref q16)] := hl
  have hin : meth.name = "<init>" := hin
  refine lv_aload_n hx hb dJx4a65c_init_da8c8_0 rfl (lv_at hl 0 rfl) ?_
  refine k_callI (wr := []) (rest := []) (own := RJx4a65c) ⟨hx, hb, hml, hown, hts⟩ (a5_Jxc12de_init_da8c8 l hst D e0 q16 ) (cwI 0 hts gi_a6_Jx4a65c_init_da8c8_0 rfl rfl rfl (hts _ (wo_a6_Jx4a65c_init_da8c8_in _ (List.mem_of_getElem? (i := 0) rfl))) (hts _ (wo_a6_Jx4a65c_init_da8c8_in _ (List.mem_of_getElem? (i := 1) rfl))) (hts _ (wo_a6_Jx4a65c_init_da8c8_in _ (List.mem_of_getElem? (i := 2) rfl))) rfl (by decide +kernel) ⟨Nat.le_of_ble_eq_true rfl, Nat.le_of_ble_eq_true rfl⟩) hh [0] [] [] rfl rfl rfl rfl (by decide) rfl rfl hl rfl (Nat.le_of_ble_eq_true rfl) dJx4a65c_init_da8c8_1 ⟨Nat.le_of_ble_eq_true rfl, (Nat.le_of_ble_eq_true rfl)⟩ (fun v w ty1 H locs hp hh => ?_)
  obtain ⟨rfl, rfl, rfl⟩ := hp
  have hh : kH D kStr e0 A s H [(q16, .inr (4, [.int 0, .null, .int 0]))] [] _ := hh
  refine W.eq (g2 := F0 m 4 ls []) (by first | rfl | decide) ?_
  refine lv_aload_n hx hb dJx4a65c_init_da8c8_4 rfl (lv_at hl 0 rfl) ?_
  refine va_gets hx hb hh.2.2.2.2.2.2.2.1 hh.2.2.2.1 hown (hts _ (wo_a6_Jx4a65c_init_da8c8_in _ (List.mem_of_getElem? (i := 3) rfl))) (fun _ h => h) dJx4a65c_init_da8c8_5 ?_
  refine k_put (C := RJx4a65c) (T := TJx4a65c) (N := 3) (ci := 4) (v := .ref e0.1) (ws' := [(q16, .inr (4, [.int 0, .ref e0.1, .int 0]))]) hx hb hts ws_a6_Jx4a65c_init_da8c8_1 tyJx4a65c tyJx4a65c_ok nmJx4a65c hown hh 0 rfl rfl 1 (by decide) (hts _ (wo_a6_Jx4a65c_init_da8c8_in _ (List.mem_of_getElem? (i := 4) rfl))) rfl rfl rfl (Nat.le_of_ble_eq_true rfl) dJx4a65c_init_da8c8_8 rfl (fun H locs hh => ?_)
  exact k_endV hx hb hr hlocks hh ⟨rfl, rfl, rfl⟩ [0] [] rfl rfl rfl (Nat.le_of_ble_eq_true rfl) (Nat.le_of_ble_eq_true rfl) dJx4a65c_init_da8c8_11
def wo_a7_X11_init : List Cond := [Cond.methodLink RX11 10 objectInit, Cond.instanceMethod objectInit, Cond.code objectInit ⟨#[0xb1]⟩ 1 none, Cond.classLink RX11 16 RJx4a65c, Cond.instantiable RJx4a65c 3, Cond.initialized RJx4a65c, Cond.methodLink RX11 18 yJx4a65c_init_da8c8, Cond.instanceMethod yJx4a65c_init_da8c8, Cond.fieldLink RX11 19 "SegueworksModel" "reels" "Ljava/util/ArrayList;", Cond.fieldLink RX11 25 "SegueworksModel" "pieces" "Ljava/util/ArrayList;", Cond.fieldLink RX11 28 "SegueworksModel" "items" "Ljava/util/ArrayList;", Cond.fieldLink RX11 31 "SegueworksModel" "lacquers" "Ljava/util/ArrayList;", Cond.fieldLink RX11 34 "SegueworksModel" "fathers" "Ljava/util/ArrayList;", Cond.fieldLink RX11 37 "SegueworksModel" "mothers" "Ljava/util/ArrayList;", Cond.fieldLink RX11 40 "SegueworksModel" "stampers" "Ljava/util/ArrayList;", Cond.fieldLink RX11 43 "SegueworksModel" "editions" "Ljava/util/ArrayList;", Cond.fieldLink RX11 46 "SegueworksModel" "thrown" "I"]
def wk_a7_X11_init : List Cond := Cond.code yX11_init cX11_init 1 none :: (wo_a7_X11_init ++ ((u_ws RJx4a65c TJx4a65c 3) ++ ((wk_a6_Jx4a65c_init_da8c8) ++ (u_ws RX11 TX11 11))))
theorem wo_a7_X11_init_in : ∀ w ∈ wo_a7_X11_init, w ∈ wk_a7_X11_init := fun w h => List.mem_cons_of_mem _ (List.mem_append_left _ h)
theorem ws_a7_X11_init_0 : ∀ w ∈ u_ws RJx4a65c TJx4a65c 3, w ∈ wk_a7_X11_init := fun w h => List.mem_cons_of_mem _ (List.mem_append_right _ (List.mem_append_left _ h))
theorem gi_a7_X11_init_1 : GoodIn wk_a7_X11_init (wk_a6_Jx4a65c_init_da8c8) := fun w h => ⟨List.mem_cons_of_mem _ (List.mem_append_right _ (List.mem_append_right _ (List.mem_append_left _ h))), good_of_word (gk_a6_Jx4a65c_init_da8c8 w h)⟩
theorem ws_a7_X11_init_2 : ∀ w ∈ u_ws RX11 TX11 11, w ∈ wk_a7_X11_init := fun w h => List.mem_cons_of_mem _ (List.mem_append_right _ (List.mem_append_right _ (List.mem_append_right _ h)))
theorem gk_a7_X11_init : ∀ w ∈ wk_a7_X11_init, goodWord w = true := List.forall_mem_cons.mpr ⟨rfl, (List.forall_mem_append.mpr ⟨(show ∀ w ∈ wo_a7_X11_init, goodWord w = true by decide +kernel), (List.forall_mem_append.mpr ⟨(show ∀ w ∈ u_ws RJx4a65c TJx4a65c 3, goodWord w = true by decide +kernel), (List.forall_mem_append.mpr ⟨gk_a6_Jx4a65c_init_da8c8, (show ∀ w ∈ u_ws RX11 TX11 11, goodWord w = true by decide +kernel)⟩)⟩)⟩)⟩
set_option maxHeartbeats 4000000 in
set_option maxRecDepth 100000 in
theorem a7_X11_init (l : Launch) (hst : l.stackTraces = false) (D : va_G) (e0 : kE) (q15 : Nat)  : kI l yX11_init wk_a7_X11_init 4 80 8 24 D kStr e0 [] [(q15, .inr (16, [.int 0, .null, .null, .null, .null, .null, .null, .null, .null, .int 0, .int 0]))] [.ref q15] (fun v w t => ∃ (q16 : Nat), ∃ (q17 : Nat), ∃ (q18 : Nat), ∃ (q19 : Nat), ∃ (q20 : Nat), ∃ (q21 : Nat), ∃ (q22 : Nat), ∃ (q23 : Nat), v = none ∧ w = [(q15, .inr (16, [.int 0, .ref q16, .ref q17, .ref q18, .ref q19, .ref q20, .ref q21, .ref q22, .ref q23, .int 0, .int 0])), (q17, .inr (4, [.int 0, .ref e0.1, .int 0])), (q18, .inr (4, [.int 0, .ref e0.1, .int 0]))] ∧ t = []) := by
  refine k_ofI (cc := cX11_init) (maxL := 1) (ret := none) (by decide) rfl (Nat.le_of_ble_eq_true rfl) ?_
  intro p e s m args below meth c A ls hx hb hr hts hown hlocks hml hin hh hl
  have hown : s.vm.findClass RX11 = some m.cls := hown
  have hl : lv_has ls 1 [(0, .ref q15)] := hl
  have hin : meth.name = "<init>" := hin
  refine lv_aload_n hx hb dX11_init_0 rfl (lv_at hl 0 rfl) ?_
  refine W.objInit hx hb hown (hts _ (wo_a7_X11_init_in _ (List.mem_of_getElem? (i := 0) rfl))) (hts _ (wo_a7_X11_init_in _ (List.mem_of_getElem? (i := 1) rfl))) (hts _ (wo_a7_X11_init_in _ (List.mem_of_getElem? (i := 2) rfl))) rfl (by rw [hml]; exact hl.1) rfl dX11_init_1 (Nat.le_of_ble_eq_true rfl) (Nat.le_of_ble_eq_true rfl) ?_
  refine W.eq (g2 := F0 m 4 ls []) rfl ?_
  refine lv_aload_n hx hb dX11_init_4 rfl (lv_at hl 0 rfl) ?_
  refine k_new (C := RJx4a65c) (T := TJx4a65c) (N := 3) (ci := 4) (fs := [.int 0, .null, .int 0]) hx hb hts ws_a7_X11_init_0 tyJx4a65c tyJx4a65c_ok hown (hts _ (wo_a7_X11_init_in _ (List.mem_of_getElem? (i := 3) rfl))) (hts _ (wo_a7_X11_init_in _ (List.mem_of_getElem? (i := 4) rfl))) (hts _ (wo_a7_X11_init_in _ (List.mem_of_getElem? (i := 5) rfl))) hh rfl (fun j hj => by rcases (show j = 0 ∨ j = 1 ∨ j = 2 by omega) with rfl | rfl | rfl <;> rfl) (Nat.le_of_ble_eq_true rfl) (Nat.le_of_ble_eq_true rfl) dX11_init_5 (fun q16 H hh => ?_)
  have hh : kH D kStr e0 A s H [(q15, .inr (16, [.int 0, .null, .null, .null, .null, .null, .null, .null, .null, .int 0, .int 0])), (q16, .inr (4, [.int 0, .null, .int 0]))] [] _ := hh
  refine lv_dup hx hb dX11_init_8 rfl ?_
  refine k_callI (wr := [(q15, .inr (16, [.int 0, .null, .null, .null, .null, .null, .null, .null, .null, .int 0, .int 0]))]) (rest := [.ref q16, .ref q15]) (own := RX11) ⟨hx, hb, hml, hown, hts⟩ (a6_Jx4a65c_init_da8c8 l hst D e0 q16 ) (cwI 0 hts gi_a7_X11_init_1 rfl rfl rfl (hts _ (wo_a7_X11_init_in _ (List.mem_of_getElem? (i := 5) rfl))) (hts _ (wo_a7_X11_init_in _ (List.mem_of_getElem? (i := 6) rfl))) (hts _ (wo_a7_X11_init_in _ (List.mem_of_getElem? (i := 7) rfl))) rfl (by decide +kernel) ⟨Nat.le_of_ble_eq_true rfl, Nat.le_of_ble_eq_true rfl⟩) hh [1] [0] [] rfl rfl rfl rfl (by decide) rfl rfl hl rfl (Nat.le_of_ble_eq_true rfl) dX11_init_9 ⟨Nat.le_of_ble_eq_true rfl, (Nat.le_of_ble_eq_true rfl)⟩ (fun v w ty1 H locs hp hh => ?_)
  obtain ⟨rfl, rfl, rfl⟩ := hp
  have hh : kH D kStr e0 A s H [(q15, .inr (16, [.int 0, .null, .null, .null, .null, .null, .null, .null, .null, .int 0, .int 0])), (q16, .inr (4, [.int 0, .ref e0.1, .int 0]))] [] _ := hh
  refine W.eq (g2 := F0 m 12 ls [.ref q16, .ref q15]) (by first | rfl | decide) ?_
  refine k_putF (C := RX11) (T := TX11) (N := 11) (ci := 16) (v := .ref q16) (ws' := [(q15, .inr (16, [.int 0, .ref q16, .null, .null, .null, .null, .null, .null, .null, .int 0, .int 0])), (q16, .inr (4, [.int 0, .ref e0.1, .int 0]))]) hx hb hts ws_a7_X11_init_2 tyX11 tyX11_ok nmX11 hown hh 0 rfl rfl 1 (by decide) (hts _ (wo_a7_X11_init_in _ (List.mem_of_getElem? (i := 8) rfl))) rfl hin rfl rfl rfl (Nat.le_of_ble_eq_true rfl) dX11_init_12 rfl (fun H locs hh => ?_)
  refine lv_aload_n hx hb dX11_init_15 rfl (lv_at hl 0 rfl) ?_
  refine k_new (C := RJx4a65c) (T := TJx4a65c) (N := 3) (ci := 4) (fs := [.int 0, .null, .int 0]) hx hb hts ws_a7_X11_init_0 tyJx4a65c tyJx4a65c_ok hown (hts _ (wo_a7_X11_init_in _ (List.mem_of_getElem? (i := 3) rfl))) (hts _ (wo_a7_X11_init_in _ (List.mem_of_getElem? (i := 4) rfl))) (hts _ (wo_a7_X11_init_in _ (List.mem_of_getElem? (i := 5) rfl))) hh rfl (fun j hj => by rcases (show j = 0 ∨ j = 1 ∨ j = 2 by omega) with rfl | rfl | rfl <;> rfl) (Nat.le_of_ble_eq_true rfl) (Nat.le_of_ble_eq_true rfl) dX11_init_16 (fun q17 H hh => ?_)
  have hh : kH D kStr e0 A s H [(q15, .inr (16, [.int 0, .ref q16, .null, .null, .null, .null, .null, .null, .null, .int 0, .int 0])), (q16, .inr (4, [.int 0, .ref e0.1, .int 0])), (q17, .inr (4, [.int 0, .null, .int 0]))] [] _ := hh
  refine lv_dup hx hb dX11_init_19 rfl ?_
  refine k_callI (wr := [(q15, .inr (16, [.int 0, .ref q16, .null, .null, .null, .null, .null, .null, .null, .int 0, .int 0])), (q16, .inr (4, [.int 0, .ref e0.1, .int 0]))]) (rest := [.ref q17, .ref q15]) (own := RX11) ⟨hx, hb, hml, hown, hts⟩ (a6_Jx4a65c_init_da8c8 l hst D e0 q17 ) (cwI 0 hts gi_a7_X11_init_1 rfl rfl rfl (hts _ (wo_a7_X11_init_in _ (List.mem_of_getElem? (i := 5) rfl))) (hts _ (wo_a7_X11_init_in _ (List.mem_of_getElem? (i := 6) rfl))) (hts _ (wo_a7_X11_init_in _ (List.mem_of_getElem? (i := 7) rfl))) rfl (by decide +kernel) ⟨Nat.le_of_ble_eq_true rfl, Nat.le_of_ble_eq_true rfl⟩) hh [2] [0, 1] [] rfl rfl rfl rfl (by decide) rfl rfl hl rfl (Nat.le_of_ble_eq_true rfl) dX11_init_20 ⟨Nat.le_of_ble_eq_true rfl, (Nat.le_of_ble_eq_true rfl)⟩ (fun v w ty1 H locs hp hh => ?_)
  obtain ⟨rfl, rfl, rfl⟩ := hp
  have hh : kH D kStr e0 A s H [(q15, .inr (16, [.int 0, .ref q16, .null, .null, .null, .null, .null, .null, .null, .int 0, .int 0])), (q16, .inr (4, [.int 0, .ref e0.1, .int 0])), (q17, .inr (4, [.int 0, .ref e0.1, .int 0]))] [] _ := hh
  refine W.eq (g2 := F0 m 23 ls [.ref q17, .ref q15]) (by first | rfl | decide) ?_
  refine k_putF (C := RX11) (T := TX11) (N := 11) (ci := 16) (v := .ref q17) (ws' := [(q15, .inr (16, [.int 0, .ref q16, .ref q17, .null, .null, .null, .null, .null, .null, .int 0, .int 0])), (q16, .inr (4, [.int 0, .ref e0.1, .int 0])), (q17, .inr (4, [.int 0, .ref e0.1, .int 0]))]) hx hb hts ws_a7_X11_init_2 tyX11 tyX11_ok nmX11 hown hh 0 rfl rfl 2 (by decide) (hts _ (wo_a7_X11_init_in _ (List.mem_of_getElem? (i := 9) rfl))) rfl hin rfl rfl rfl (Nat.le_of_ble_eq_true rfl) dX11_init_23 rfl (fun H locs hh => ?_)
  refine lv_aload_n hx hb dX11_init_26 rfl (lv_at hl 0 rfl) ?_
  refine k_new (C := RJx4a65c) (T := TJx4a65c) (N := 3) (ci := 4) (fs := [.int 0, .null, .int 0]) hx hb hts ws_a7_X11_init_0 tyJx4a65c tyJx4a65c_ok hown (hts _ (wo_a7_X11_init_in _ (List.mem_of_getElem? (i := 3) rfl))) (hts _ (wo_a7_X11_init_in _ (List.mem_of_getElem? (i := 4) rfl))) (hts _ (wo_a7_X11_init_in _ (List.mem_of_getElem? (i := 5) rfl))) hh rfl (fun j hj => by rcases (show j = 0 ∨ j = 1 ∨ j = 2 by omega) with rfl | rfl | rfl <;> rfl) (Nat.le_of_ble_eq_true rfl) (Nat.le_of_ble_eq_true rfl) dX11_init_27 (fun q18 H hh => ?_)
  have hh : kH D kStr e0 A s H [(q15, .inr (16, [.int 0, .ref q16, .ref q17, .null, .null, .null, .null, .null, .null, .int 0, .int 0])), (q16, .inr (4, [.int 0, .ref e0.1, .int 0])), (q17, .inr (4, [.int 0, .ref e0.1, .int 0])), (q18, .inr (4, [.int 0, .null, .int 0]))] [] _ := hh
  refine lv_dup hx hb dX11_init_30 rfl ?_
  refine k_callI (wr := [(q15, .inr (16, [.int 0, .ref q16, .ref q17, .null, .null, .null, .null, .null, .null, .int 0, .int 0])), (q16, .inr (4, [.int 0, .ref e0.1, .int 0])), (q17, .inr (4, [.int 0, .ref e0.1, .int 0]))]) (rest := [.ref q18, .ref q15]) (own := RX11) ⟨hx, hb, hml, hown, hts⟩ (a6_Jx4a65c_init_da8c8 l hst D e0 q18 ) (cwI 0 hts gi_a7_X11_init_1 rfl rfl rfl (hts _ (wo_a7_X11_init_in _ (List.mem_of_getElem? (i := 5) rfl))) (hts _ (wo_a7_X11_init_in _ (List.mem_of_getElem? (i := 6) rfl))) (hts _ (wo_a7_X11_init_in _ (List.mem_of_getElem? (i := 7) rfl))) rfl (by decide +kernel) ⟨Nat.le_of_ble_eq_true rfl, Nat.le_of_ble_eq_true rfl⟩) hh [3] [0, 1, 2] [] rfl rfl rfl rfl (by decide) rfl rfl hl rfl (Nat.le_of_ble_eq_true rfl) dX11_init_31 ⟨Nat.le_of_ble_eq_true rfl, (Nat.le_of_ble_eq_true rfl)⟩ (fun v w ty1 H locs hp hh => ?_)
  obtain ⟨rfl, rfl, rfl⟩ := hp
  have hh : kH D kStr e0 A s H [(q15, .inr (16, [.int 0, .ref q16, .ref q17, .null, .null, .null, .null, .null, .null, .int 0, .int 0])), (q16, .inr (4, [.int 0, .ref e0.1, .int 0])), (q17, .inr (4, [.int 0, .ref e0.1, .int 0])), (q18, .inr (4, [.int 0, .ref e0.1, .int 0]))] [] _ := hh
  refine W.eq (g2 := F0 m 34 ls [.ref q18, .ref q15]) (by first | rfl | decide) ?_
  refine k_putF (C := RX11) (T := TX11) (N := 11) (ci := 16) (v := .ref q18) (ws' := [(q15, .inr (16, [.int 0, .ref q16, .ref q17, .ref q18, .null, .null, .null, .null, .null, .int 0, .int 0])), (q16, .inr (4, [.int 0, .ref e0.1, .int 0])), (q17, .inr (4, [.int 0, .ref e0.1, .int 0])), (q18, .inr (4, [.int 0, .ref e0.1, .int 0]))]) hx hb hts ws_a7_X11_init_2 tyX11 tyX11_ok nmX11 hown hh 0 rfl rfl 3 (by decide) (hts _ (wo_a7_X11_init_in _ (List.mem_of_getElem? (i := 10) rfl))) rfl hin rfl rfl rfl (Nat.le_of_ble_eq_true rfl) dX11_init_34 rfl (fun H locs hh => ?_)
  refine lv_aload_n hx hb dX11_init_37 rfl (lv_at hl 0 rfl) ?_
  refine k_new (C := RJx4a65c) (T := TJx4a65c) (N := 3) (ci := 4) (fs := [.int 0, .null, .int 0]) hx hb hts ws_a7_X11_init_0 tyJx4a65c tyJx4a65c_ok hown (hts _ (wo_a7_X11_init_in _ (List.mem_of_getElem? (i := 3) rfl))) (hts _ (wo_a7_X11_init_in _ (List.mem_of_getElem? (i := 4) rfl))) (hts _ (wo_a7_X11_init_in _ (List.mem_of_getElem? (i := 5) rfl))) hh rfl (fun j hj => by rcases (show j = 0 ∨ j = 1 ∨ j = 2 by omega) with rfl | rfl | rfl <;> rfl) (Nat.le_of_ble_eq_true rfl) (Nat.le_of_ble_eq_true rfl) dX11_init_38 (fun q19 H hh => ?_)
  have hh : kH D kStr e0 A s H [(q15, .inr (16, [.int 0, .ref q16, .ref q17, .ref q18, .null, .null, .null, .null, .null, .int 0, .int 0])), (q16, .inr (4, [.int 0, .ref e0.1, .int 0])), (q17, .inr (4, [.int 0, .ref e0.1, .int 0])), (q18, .inr (4, [.int 0, .ref e0.1, .int 0])), (q19, .inr (4, [.int 0, .null, .int 0]))] [] _ := hh
  refine lv_dup hx hb dX11_init_41 rfl ?_
  refine k_callI (wr := [(q15, .inr (16, [.int 0, .ref q16, .ref q17, .ref q18, .null, .null, .null, .null, .null, .int 0, .int 0])), (q16, .inr (4, [.int 0, .ref e0.1, .int 0])), (q17, .inr (4, [.int 0, .ref e0.1, .int 0])), (q18, .inr (4, [.int 0, .ref e0.1, .int 0]))]) (rest := [.ref q19, .ref q15]) (own := RX11) ⟨hx, hb, hml, hown, hts⟩ (a6_Jx4a65c_init_da8c8 l hst D e0 q19 ) (cwI 0 hts gi_a7_X11_init_1 rfl rfl rfl (hts _ (wo_a7_X11_init_in _ (List.mem_of_getElem? (i := 5) rfl))) (hts _ (wo_a7_X11_init_in _ (List.mem_of_getElem? (i := 6) rfl))) (hts _ (wo_a7_X11_init_in _ (List.mem_of_getElem? (i := 7) rfl))) rfl (by decide +kernel) ⟨Nat.le_of_ble_eq_true rfl, Nat.le_of_ble_eq_true rfl⟩) hh [4] [0, 1, 2, 3] [] rfl rfl rfl rfl (by decide) rfl rfl hl rfl (Nat.le_of_ble_eq_true rfl) dX11_init_42 ⟨Nat.le_of_ble_eq_true rfl, (Nat.le_of_ble_eq_true rfl)⟩ (fun v w ty1 H locs hp hh => ?_)
  obtain ⟨rfl, rfl, rfl⟩ := hp
  have hh : kH D kStr e0 A s H [(q15, .inr (16, [.int 0, .ref q16, .ref q17, .ref q18, .null, .null, .null, .null, .null, .int 0, .int 0])), (q16, .inr (4, [.int 0, .ref e0.1, .int 0])), (q17, .inr (4, [.int 0, .ref e0.1, .int 0])), (q18, .inr (4, [.int 0, .ref e0.1, .int 0])), (q19, .inr (4, [.int 0, .ref e0.1, .int 0]))] [] _ := hh
  refine W.eq (g2 := F0 m 45 ls [.ref q19, .ref q15]) (by first | rfl | decide) ?_
  refine k_putF (C := RX11) (T := TX11) (N := 11) (ci := 16) (v := .ref q19) (ws' := [(q15, .inr (16, [.int 0, .ref q16, .ref q17, .ref q18, .ref q19, .null, .null, .null, .null, .int 0, .int 0])), (q16, .inr (4, [.int 0, .ref e0.1, .int 0])), (q17, .inr (4, [.int 0, .ref e0.1, .int 0])), (q18, .inr (4, [.int 0, .ref e0.1, .int 0])), (q19, .inr (4, [.int 0, .ref e0.1, .int 0]))]) hx hb hts ws_a7_X11_init_2 tyX11 tyX11_ok nmX11 hown hh 0 rfl rfl 4 (by decide) (hts _ (wo_a7_X11_init_in _ (List.mem_of_getElem? (i := 11) rfl))) rfl hin rfl rfl rfl (Nat.le_of_ble_eq_true rfl) dX11_init_45 rfl (fun H locs hh => ?_)
  refine lv_aload_n hx hb dX11_init_48 rfl (lv_at hl 0 rfl) ?_
  refine k_new (C := RJx4a65c) (T := TJx4a65c) (N := 3) (ci := 4) (fs := [.int 0, .null, .int 0]) hx hb hts ws_a7_X11_init_0 tyJx4a65c tyJx4a65c_ok hown (hts _ (wo_a7_X11_init_in _ (List.mem_of_getElem? (i := 3) rfl))) (hts _ (wo_a7_X11_init_in _ (List.mem_of_getElem? (i := 4) rfl))) (hts _ (wo_a7_X11_init_in _ (List.mem_of_getElem? (i := 5) rfl))) hh rfl (fun j hj => by rcases (show j = 0 ∨ j = 1 ∨ j = 2 by omega) with rfl | rfl | rfl <;> rfl) (Nat.le_of_ble_eq_true rfl) (Nat.le_of_ble_eq_true rfl) dX11_init_49 (fun q20 H hh => ?_)
  have hh : kH D kStr e0 A s H [(q15, .inr (16, [.int 0, .ref q16, .ref q17, .ref q18, .ref q19, .null, .null, .null, .null, .int 0, .int 0])), (q16, .inr (4, [.int 0, .ref e0.1, .int 0])), (q17, .inr (4, [.int 0, .ref e0.1, .int 0])), (q18, .inr (4, [.int 0, .ref e0.1, .int 0])), (q19, .inr (4, [.int 0, .ref e0.1, .int 0])), (q20, .inr (4, [.int 0, .null, .int 0]))] [] _ := hh
  refine lv_dup hx hb dX11_init_52 rfl ?_
  refine k_callI (wr := [(q15, .inr (16, [.int 0, .ref q16, .ref q17, .ref q18, .ref q19, .null, .null, .null, .null, .int 0, .int 0])), (q16, .inr (4, [.int 0, .ref e0.1, .int 0])), (q17, .inr (4, [.int 0, .ref e0.1, .int 0])), (q18, .inr (4, [.int 0, .ref e0.1, .int 0])), (q19, .inr (4, [.int 0, .ref e0.1, .int 0]))]) (rest := [.ref q20, .ref q15]) (own := RX11) ⟨hx, hb, hml, hown, hts⟩ (a6_Jx4a65c_init_da8c8 l hst D e0 q20 ) (cwI 0 hts gi_a7_X11_init_1 rfl rfl rfl (hts _ (wo_a7_X11_init_in _ (List.mem_of_getElem? (i := 5) rfl))) (hts _ (wo_a7_X11_init_in _ (List.mem_of_getElem? (i := 6) rfl))) (hts _ (wo_a7_X11_init_in _ (List.mem_of_getElem? (i := 7) rfl))) rfl (by decide +kernel) ⟨Nat.le_of_ble_eq_true rfl, Nat.le_of_ble_eq_true rfl⟩) hh [5] [0, 1, 2, 3, 4] [] rfl rfl rfl rfl (by decide) rfl rfl hl rfl (Nat.le_of_ble_eq_true rfl) dX11_init_53 ⟨Nat.le_of_ble_eq_true rfl, (Nat.le_of_ble_eq_true rfl)⟩ (fun v w ty1 H locs hp hh => ?_)
  obtain ⟨rfl, rfl, rfl⟩ := hp
  have hh : kH D kStr e0 A s H [(q15, .inr (16, [.int 0, .ref q16, .ref q17, .ref q18, .ref q19, .null, .null, .null, .null, .int 0, .int 0])), (q16, .inr (4, [.int 0, .ref e0.1, .int 0])), (q17, .inr (4, [.int 0, .ref e0.1, .int 0])), (q18, .inr (4, [.int 0, .ref e0.1, .int 0])), (q19, .inr (4, [.int 0, .ref e0.1, .int 0])), (q20, .inr (4, [.int 0, .ref e0.1, .int 0]))] [] _ := hh
  refine W.eq (g2 := F0 m 56 ls [.ref q20, .ref q15]) (by first | rfl | decide) ?_
  refine k_putF (C := RX11) (T := TX11) (N := 11) (ci := 16) (v := .ref q20) (ws' := [(q15, .inr (16, [.int 0, .ref q16, .ref q17, .ref q18, .ref q19, .ref q20, .null, .null, .null, .int 0, .int 0])), (q16, .inr (4, [.int 0, .ref e0.1, .int 0])), (q17, .inr (4, [.int 0, .ref e0.1, .int 0])), (q18, .inr (4, [.int 0, .ref e0.1, .int 0])), (q19, .inr (4, [.int 0, .ref e0.1, .int 0])), (q20, .inr (4, [.int 0, .ref e0.1, .int 0]))]) hx hb hts ws_a7_X11_init_2 tyX11 tyX11_ok nmX11 hown hh 0 rfl rfl 5 (by decide) (hts _ (wo_a7_X11_init_in _ (List.mem_of_getElem? (i := 12) rfl))) rfl hin rfl rfl rfl (Nat.le_of_ble_eq_true rfl) dX11_init_56 rfl (fun H locs hh => ?_)
  refine lv_aload_n hx hb dX11_init_59 rfl (lv_at hl 0 rfl) ?_
  refine k_new (C := RJx4a65c) (T := TJx4a65c) (N := 3) (ci := 4) (fs := [.int 0, .null, .int 0]) hx hb hts ws_a7_X11_init_0 tyJx4a65c tyJx4a65c_ok hown (hts _ (wo_a7_X11_init_in _ (List.mem_of_getElem? (i := 3) rfl))) (hts _ (wo_a7_X11_init_in _ (List.mem_of_getElem? (i := 4) rfl))) (hts _ (wo_a7_X11_init_in _ (List.mem_of_getElem? (i := 5) rfl))) hh rfl (fun j hj => by rcases (show j = 0 ∨ j = 1 ∨ j = 2 by omega) with rfl | rfl | rfl <;> rfl) (Nat.le_of_ble_eq_true rfl) (Nat.le_of_ble_eq_true rfl) dX11_init_60 (fun q21 H hh => ?_)
  have hh : kH D kStr e0 A s H [(q15, .inr (16, [.int 0, .ref q16, .ref q17, .ref q18, .ref q19, .ref q20, .null, .null, .null, .int 0, .int 0])), (q16, .inr (4, [.int 0, .ref e0.1, .int 0])), (q17, .inr (4, [.int 0, .ref e0.1, .int 0])), (q18, .inr (4, [.int 0, .ref e0.1, .int 0])), (q19, .inr (4, [.int 0, .ref e0.1, .int 0])), (q20, .inr (4, [.int 0, .ref e0.1, .int 0])), (q21, .inr (4, [.int 0, .null, .int 0]))] [] _ := hh
  refine lv_dup hx hb dX11_init_63 rfl ?_
  refine k_callI (wr := [(q15, .inr (16, [.int 0, .ref q16, .ref q17, .ref q18, .ref q19, .ref q20, .null, .null, .null, .int 0, .int 0])), (q16, .inr (4, [.int 0, .ref e0.1, .int 0])), (q17, .inr (4, [.int 0, .ref e0.1, .int 0])), (q18, .inr (4, [.int 0, .ref e0.1, .int 0])), (q19, .inr (4, [.int 0, .ref e0.1, .int 0])), (q20, .inr (4, [.int 0, .ref e0.1, .int 0]))]) (rest := [.ref q21, .ref q15]) (own := RX11) ⟨hx, hb, hml, hown, hts⟩ (a6_Jx4a65c_init_da8c8 l hst D e0 q21 ) (cwI 0 hts gi_a7_X11_init_1 rfl rfl rfl (hts _ (wo_a7_X11_init_in _ (List.mem_of_getElem? (i := 5) rfl))) (hts _ (wo_a7_X11_init_in _ (List.mem_of_getElem? (i := 6) rfl))) (hts _ (wo_a7_X11_init_in _ (List.mem_of_getElem? (i := 7) rfl))) rfl (by decide +kernel) ⟨Nat.le_of_ble_eq_true rfl, Nat.le_of_ble_eq_true rfl⟩) hh [6] [0, 1, 2, 3, 4, 5] [] rfl rfl rfl rfl (by decide) rfl rfl hl rfl (Nat.le_of_ble_eq_true rfl) dX11_init_64 ⟨Nat.le_of_ble_eq_true rfl, (Nat.le_of_ble_eq_true rfl)⟩ (fun v w ty1 H locs hp hh => ?_)
  obtain ⟨rfl, rfl, rfl⟩ := hp
  have hh : kH D kStr e0 A s H [(q15, .inr (16, [.int 0, .ref q16, .ref q17, .ref q18, .ref q19, .ref q20, .null, .null, .null, .int 0, .int 0])), (q16, .inr (4, [.int 0, .ref e0.1, .int 0])), (q17, .inr (4, [.int 0, .ref e0.1, .int 0])), (q18, .inr (4, [.int 0, .ref e0.1, .int 0])), (q19, .inr (4, [.int 0, .ref e0.1, .int 0])), (q20, .inr (4, [.int 0, .ref e0.1, .int 0])), (q21, .inr (4, [.int 0, .ref e0.1, .int 0]))] [] _ := hh
  refine W.eq (g2 := F0 m 67 ls [.ref q21, .ref q15]) (by first | rfl | decide) ?_
  refine k_putF (C := RX11) (T := TX11) (N := 11) (ci := 16) (v := .ref q21) (ws' := [(q15, .inr (16, [.int 0, .ref q16, .ref q17, .ref q18, .ref q19, .ref q20, .ref q21, .null, .null, .int 0, .int 0])), (q16, .inr (4, [.int 0, .ref e0.1, .int 0])), (q17, .inr (4, [.int 0, .ref e0.1, .int 0])), (q18, .inr (4, [.int 0, .ref e0.1, .int 0])), (q19, .inr (4, [.int 0, .ref e0.1, .int 0])), (q20, .inr (4, [.int 0, .ref e0.1, .int 0])), (q21, .inr (4, [.int 0, .ref e0.1, .int 0]))]) hx hb hts ws_a7_X11_init_2 tyX11 tyX11_ok nmX11 hown hh 0 rfl rfl 6 (by decide) (hts _ (wo_a7_X11_init_in _ (List.mem_of_getElem? (i := 13) rfl))) rfl hin rfl rfl rfl (Nat.le_of_ble_eq_true rfl) dX11_init_67 rfl (fun H locs hh => ?_)
  refine lv_aload_n hx hb dX11_init_70 rfl (lv_at hl 0 rfl) ?_
  refine k_new (C := RJx4a65c) (T := TJx4a65c) (N := 3) (ci := 4) (fs := [.int 0, .null, .int 0]) hx hb hts ws_a7_X11_init_0 tyJx4a65c tyJx4a65c_ok hown (hts _ (wo_a7_X11_init_in _ (List.mem_of_getElem? (i := 3) rfl))) (hts _ (wo_a7_X11_init_in _ (List.mem_of_getElem? (i := 4) rfl))) (hts _ (wo_a7_X11_init_in _ (List.mem_of_getElem? (i := 5) rfl))) hh rfl (fun j hj => by rcases (show j = 0 ∨ j = 1 ∨ j = 2 by omega) with rfl | rfl | rfl <;> rfl) (Nat.le_of_ble_eq_true rfl) (Nat.le_of_ble_eq_true rfl) dX11_init_71 (fun q22 H hh => ?_)
  have hh : kH D kStr e0 A s H [(q15, .inr (16, [.int 0, .ref q16, .ref q17, .ref q18, .ref q19, .ref q20, .ref q21, .null, .null, .int 0, .int 0])), (q16, .inr (4, [.int 0, .ref e0.1, .int 0])), (q17, .inr (4, [.int 0, .ref e0.1, .int 0])), (q18, .inr (4, [.int 0, .ref e0.1, .int 0])), (q19, .inr (4, [.int 0, .ref e0.1, .int 0])), (q20, .inr (4, [.int 0, .ref e0.1, .int 0])), (q21, .inr (4, [.int 0, .ref e0.1, .int 0])), (q22, .inr (4, [.int 0, .null, .int 0]))] [] _ := hh
  refine lv_dup hx hb dX11_init_74 rfl ?_
  refine k_callI (wr := [(q15, .inr (16, [.int 0, .ref q16, .ref q17, .ref q18, .ref q19, .ref q20, .ref q21, .null, .null, .int 0, .int 0])), (q16, .inr (4, [.int 0, .ref e0.1, .int 0])), (q17, .inr (4, [.int 0, .ref e0.1, .int 0])), (q18, .inr (4, [.int 0, .ref e0.1, .int 0])), (q19, .inr (4, [.int 0, .ref e0.1, .int 0])), (q20, .inr (4, [.int 0, .ref e0.1, .int 0])), (q21, .inr (4, [.int 0, .ref e0.1, .int 0]))]) (rest := [.ref q22, .ref q15]) (own := RX11) ⟨hx, hb, hml, hown, hts⟩ (a6_Jx4a65c_init_da8c8 l hst D e0 q22 ) (cwI 0 hts gi_a7_X11_init_1 rfl rfl rfl (hts _ (wo_a7_X11_init_in _ (List.mem_of_getElem? (i := 5) rfl))) (hts _ (wo_a7_X11_init_in _ (List.mem_of_getElem? (i := 6) rfl))) (hts _ (wo_a7_X11_init_in _ (List.mem_of_getElem? (i := 7) rfl))) rfl (by decide +kernel) ⟨Nat.le_of_ble_eq_true rfl, Nat.le_of_ble_eq_true rfl⟩) hh [7] [0, 1, 2, 3, 4, 5, 6] [] rfl rfl rfl rfl (by decide) rfl rfl hl rfl (Nat.le_of_ble_eq_true rfl) dX11_init_75 ⟨Nat.le_of_ble_eq_true rfl, (Nat.le_of_ble_eq_true rfl)⟩ (fun v w ty1 H locs hp hh => ?_)
  obtain ⟨rfl, rfl, rfl⟩ := hp
  have hh : kH D kStr e0 A s H [(q15, .inr (16, [.int 0, .ref q16, .ref q17, .ref q18, .ref q19, .ref q20, .ref q21, .null, .null, .int 0, .int 0])), (q16, .inr (4, [.int 0, .ref e0.1, .int 0])), (q17, .inr (4, [.int 0, .ref e0.1, .int 0])), (q18, .inr (4, [.int 0, .ref e0.1, .int 0])), (q19, .inr (4, [.int 0, .ref e0.1, .int 0])), (q20, .inr (4, [.int 0, .ref e0.1, .int 0])), (q21, .inr (4, [.int 0, .ref e0.1, .int 0])), (q22, .inr (4, [.int 0, .ref e0.1, .int 0]))] [] _ := hh
  refine W.eq (g2 := F0 m 78 ls [.ref q22, .ref q15]) (by first | rfl | decide) ?_
  refine k_putF (C := RX11) (T := TX11) (N := 11) (ci := 16) (v := .ref q22) (ws' := [(q15, .inr (16, [.int 0, .ref q16, .ref q17, .ref q18, .ref q19, .ref q20, .ref q21, .ref q22, .null, .int 0, .int 0])), (q16, .inr (4, [.int 0, .ref e0.1, .int 0])), (q17, .inr (4, [.int 0, .ref e0.1, .int 0])), (q18, .inr (4, [.int 0, .ref e0.1, .int 0])), (q19, .inr (4, [.int 0, .ref e0.1, .int 0])), (q20, .inr (4, [.int 0, .ref e0.1, .int 0])), (q21, .inr (4, [.int 0, .ref e0.1, .int 0])), (q22, .inr (4, [.int 0, .ref e0.1, .int 0]))]) hx hb hts ws_a7_X11_init_2 tyX11 tyX11_ok nmX11 hown hh 0 rfl rfl 7 (by decide) (hts _ (wo_a7_X11_init_in _ (List.mem_of_getElem? (i := 14) rfl))) rfl hin rfl rfl rfl (Nat.le_of_ble_eq_true rfl) dX11_init_78 rfl (fun H locs hh => ?_)
  refine lv_aload_n hx hb dX11_init_81 rfl (lv_at hl 0 rfl) ?_
  refine k_new (C := RJx4a65c) (T := TJx4a65c) (N := 3) (ci := 4) (fs := [.int 0, .null, .int 0]) hx hb hts ws_a7_X11_init_0 tyJx4a65c tyJx4a65c_ok hown (hts _ (wo_a7_X11_init_in _ (List.mem_of_getElem? (i := 3) rfl))) (hts _ (wo_a7_X11_init_in _ (List.mem_of_getElem? (i := 4) rfl))) (hts _ (wo_a7_X11_init_in _ (List.mem_of_getElem? (i := 5) rfl))) hh rfl (fun j hj => by rcases (show j = 0 ∨ j = 1 ∨ j = 2 by omega) with rfl | rfl | rfl <;> rfl) (Nat.le_of_ble_eq_true rfl) (Nat.le_of_ble_eq_true rfl) dX11_init_82 (fun q23 H hh => ?_)
  have hh : kH D kStr e0 A s H [(q15, .inr (16, [.int 0, .ref q16, .ref q17, .ref q18, .ref q19, .ref q20, .ref q21, .ref q22, .null, .int 0, .int 0])), (q16, .inr (4, [.int 0, .ref e0.1, .int 0])), (q17, .inr (4, [.int 0, .ref e0.1, .int 0])), (q18, .inr (4, [.int 0, .ref e0.1, .int 0])), (q19, .inr (4, [.int 0, .ref e0.1, .int 0])), (q20, .inr (4, [.int 0, .ref e0.1, .int 0])), (q21, .inr (4, [.int 0, .ref e0.1, .int 0])), (q22, .inr (4, [.int 0, .ref e0.1, .int 0])), (q23, .inr (4, [.int 0, .null, .int 0]))] [] _ := hh
  refine lv_dup hx hb dX11_init_85 rfl ?_
  refine k_callI (wr := [(q15, .inr (16, [.int 0, .ref q16, .ref q17, .ref q18, .ref q19, .ref q20, .ref q21, .ref q22, .null, .int 0, .int 0])), (q16, .inr (4, [.int 0, .ref e0.1, .int 0])), (q17, .inr (4, [.int 0, .ref e0.1, .int 0])), (q18, .inr (4, [.int 0, .ref e0.1, .int 0])), (q19, .inr (4, [.int 0, .ref e0.1, .int 0])), (q20, .inr (4, [.int 0, .ref e0.1, .int 0])), (q21, .inr (4, [.int 0, .ref e0.1, .int 0])), (q22, .inr (4, [.int 0, .ref e0.1, .int 0]))]) (rest := [.ref q23, .ref q15]) (own := RX11) ⟨hx, hb, hml, hown, hts⟩ (a6_Jx4a65c_init_da8c8 l hst D e0 q23 ) (cwI 0 hts gi_a7_X11_init_1 rfl rfl rfl (hts _ (wo_a7_X11_init_in _ (List.mem_of_getElem? (i := 5) rfl))) (hts _ (wo_a7_X11_init_in _ (List.mem_of_getElem? (i := 6) rfl))) (hts _ (wo_a7_X11_init_in _ (List.mem_of_getElem? (i := 7) rfl))) rfl (by decide +kernel) ⟨Nat.le_of_ble_eq_true rfl, Nat.le_of_ble_eq_true rfl⟩) hh [8] [0, 1, 2, 3, 4, 5, 6, 7] [] rfl rfl rfl rfl (by decide) rfl rfl hl rfl (Nat.le_of_ble_eq_true rfl) dX11_init_86 ⟨Nat.le_of_ble_eq_true rfl, (Nat.le_of_ble_eq_true rfl)⟩ (fun v w ty1 H locs hp hh => ?_)
  obtain ⟨rfl, rfl, rfl⟩ := hp
  have hh : kH D kStr e0 A s H [(q15, .inr (16, [.int 0, .ref q16, .ref q17, .ref q18, .ref q19, .ref q20, .ref q21, .ref q22, .null, .int 0, .int 0])), (q16, .inr (4, [.int 0, .ref e0.1, .int 0])), (q17, .inr (4, [.int 0, .ref e0.1, .int 0])), (q18, .inr (4, [.int 0, .ref e0.1, .int 0])), (q19, .inr (4, [.int 0, .ref e0.1, .int 0])), (q20, .inr (4, [.int 0, .ref e0.1, .int 0])), (q21, .inr (4, [.int 0, .ref e0.1, .int 0])), (q22, .inr (4, [.int 0, .ref e0.1, .int 0])), (q23, .inr (4, [.int 0, .ref e0.1, .int 0]))] [] _ := hh
  refine W.eq (g2 := F0 m 89 ls [.ref q23, .ref q15]) (by first | rfl | decide) ?_
  refine k_putF (C := RX11) (T := TX11) (N := 11) (ci := 16) (v := .ref q23) (ws' := [(q15, .inr (16, [.int 0, .ref q16, .ref q17, .ref q18, .ref q19, .ref q20, .ref q21, .ref q22, .ref q23, .int 0, .int 0])), (q16, .inr (4, [.int 0, .ref e0.1, .int 0])), (q17, .inr (4, [.int 0, .ref e0.1, .int 0])), (q18, .inr (4, [.int 0, .ref e0.1, .int 0])), (q19, .inr (4, [.int 0, .ref e0.1, .int 0])), (q20, .inr (4, [.int 0, .ref e0.1, .int 0])), (q21, .inr (4, [.int 0, .ref e0.1, .int 0])), (q22, .inr (4, [.int 0, .ref e0.1, .int 0])), (q23, .inr (4, [.int 0, .ref e0.1, .int 0]))]) hx hb hts ws_a7_X11_init_2 tyX11 tyX11_ok nmX11 hown hh 0 rfl rfl 8 (by decide) (hts _ (wo_a7_X11_init_in _ (List.mem_of_getElem? (i := 15) rfl))) rfl hin rfl rfl rfl (Nat.le_of_ble_eq_true rfl) dX11_init_89 rfl (fun H locs hh => ?_)
  refine lv_aload_n hx hb dX11_init_92 rfl (lv_at hl 0 rfl) ?_
  refine lv_iconst (v := 0) hx hb dX11_init_93 (by decide) ?_
  refine k_put (C := RX11) (T := TX11) (N := 11) (ci := 16) (v := .int 0) (ws' := [(q15, .inr (16, [.int 0, .ref q16, .ref q17, .ref q18, .ref q19, .ref q20, .ref q21, .ref q22, .ref q23, .int 0, .int 0])), (q16, .inr (4, [.int 0, .ref e0.1, .int 0])), (q17, .inr (4, [.int 0, .ref e0.1, .int 0])), (q18, .inr (4, [.int 0, .ref e0.1, .int 0])), (q19, .inr (4, [.int 0, .ref e0.1, .int 0])), (q20, .inr (4, [.int 0, .ref e0.1, .int 0])), (q21, .inr (4, [.int 0, .ref e0.1, .int 0])), (q22, .inr (4, [.int 0, .ref e0.1, .int 0])), (q23, .inr (4, [.int 0, .ref e0.1, .int 0]))]) hx hb hts ws_a7_X11_init_2 tyX11 tyX11_ok nmX11 hown hh 0 rfl rfl 0 (by decide) (hts _ (wo_a7_X11_init_in _ (List.mem_of_getElem? (i := 16) rfl))) rfl rfl rfl (Nat.le_of_ble_eq_true rfl) dX11_init_94 rfl (fun H locs hh => ?_)
  exact k_endV hx hb hr hlocks hh ⟨q16, q17, q18, q19, q20, q21, q22, q23, rfl, rfl, rfl⟩ [0, 2, 3] [] rfl rfl rfl (Nat.le_of_ble_eq_true rfl) (Nat.le_of_ble_eq_true rfl) dX11_init_97
def wo_a8_X6_needRange : List Cond := []
def wk_a8_X6_needRange : List Cond := Cond.code yX6_needRange cX6_needRange 3 none :: wo_a8_X6_needRange
theorem wo_a8_X6_needRange_in : ∀ w ∈ wo_a8_X6_needRange, w ∈ wk_a8_X6_needRange := fun w h => List.mem_cons_of_mem _ h
theorem gk_a8_X6_needRange : ∀ w ∈ wk_a8_X6_needRange, goodWord w = true := List.forall_mem_cons.mpr ⟨rfl, (show ∀ w ∈ wo_a8_X6_needRange, goodWord w = true by decide +kernel)⟩
set_option maxHeartbeats 4000000 in
set_option maxRecDepth 100000 in
theorem a8_X6_needRange (l : Launch) (hst : l.stackTraces = false) (D : va_G) (e0 : kE)   : kM l yX6_needRange wk_a8_X6_needRange 0 0 0 0 D kStr e0 [] [] [.int 187, .int 1, .int 200] (fun v w t => v = none ∧ w = [] ∧ t = []) (fun _ => False) := by
  refine k_of (cc := cX6_needRange) (maxL := 3) (ret := none) (by decide) rfl (Nat.le_of_ble_eq_true rfl) ?_
  intro p e s m args below meth c A ls hx hb hr hts hown hlocks hml hex hh hl
  have hown : s.vm.findClass RX6 = some m.cls := hown
  have hl : lv_has ls 3 [(0, .int 187), (1, .int 1), (2, .int 200)] := hl
  refine lv_iload_n hx hb dX6_needRange_0 rfl (lv_at hl 0 rfl) ?_
  refine lv_iload_n hx hb dX6_needRange_1 rfl (lv_at hl 1 rfl) ?_
  refine lv_icmp_lt (tgt := 10) hx hb dX6_needRange_2 (by decide) (fun c_2 => absurd c_2 (by decide)) (fun _ => ?_)
  refine lv_iload_n hx hb dX6_needRange_5 rfl (lv_at hl 0 rfl) ?_
  refine lv_iload_n hx hb dX6_needRange_6 rfl (lv_at hl 2 rfl) ?_
  refine lv_icmp_le (tgt := 21) hx hb dX6_needRange_7 (by decide) (fun _ => ?_) (fun c_7 => absurd (by decide) c_7)
  exact k_endv hx hb hr hlocks hh ⟨rfl, rfl, rfl⟩ [] [] rfl rfl rfl (Nat.le_of_ble_eq_true rfl) (Nat.le_of_ble_eq_true rfl) dX6_needRange_21
def wo_a9_X6_needPieceRoom : List Cond := [Cond.fieldLink RX6 340 "Segueworks" "pieceCount" "I"]
def wk_a9_X6_needPieceRoom : List Cond := Cond.code yX6_needPieceRoom cX6_needPieceRoom 1 none :: (wo_a9_X6_needPieceRoom ++ (u_ws RX6 TX6 8))
theorem wo_a9_X6_needPieceRoom_in : ∀ w ∈ wo_a9_X6_needPieceRoom, w ∈ wk_a9_X6_needPieceRoom := fun w h => List.mem_cons_of_mem _ (List.mem_append_left _ h)
theorem ws_a9_X6_needPieceRoom_0 : ∀ w ∈ u_ws RX6 TX6 8, w ∈ wk_a9_X6_needPieceRoom := fun w h => List.mem_cons_of_mem _ (List.mem_append_right _ h)
theorem gk_a9_X6_needPieceRoom : ∀ w ∈ wk_a9_X6_needPieceRoom, goodWord w = true := List.forall_mem_cons.mpr ⟨rfl, (List.forall_mem_append.mpr ⟨(show ∀ w ∈ wo_a9_X6_needPieceRoom, goodWord w = true by decide +kernel), (show ∀ w ∈ u_ws RX6 TX6 8, goodWord w = true by decide +kernel)⟩)⟩
set_option maxHeartbeats 4000000 in
set_option maxRecDepth 100000 in
theorem a9_X6_needPieceRoom (l : Launch) (hst : l.stackTraces = false) (D : va_G) (e0 : kE) (q1 : Nat) (q2 : Nat) (q3 : Nat) (q4 : Nat) (q5 : Nat) (q6 : Nat)  : kM l yX6_needPieceRoom wk_a9_X6_needPieceRoom 0 0 0 0 D kStr e0 [] [(q1, .inr (11, [.ref q2, .int 0, .ref q3, .int 0, .ref q4, .ref q5, .ref q6, .int 0]))] [.ref q1] (fun v w t => v = none ∧ w = [(q1, .inr (11, [.ref q2, .int 0, .ref q3, .int 0, .ref q4, .ref q5, .ref q6, .int 0]))] ∧ t = []) (fun _ => False) := by
  refine k_of (cc := cX6_needPieceRoom) (maxL := 1) (ret := none) (by decide) rfl (Nat.le_of_ble_eq_true rfl) ?_
  intro p e s m args below meth c A ls hx hb hr hts hown hlocks hml hex hh hl
  have hown : s.vm.findClass RX6 = some m.cls := hown
  have hl : lv_has ls 1 [(0, .ref q1)] := hl
  refine lv_aload_n hx hb dX6_needPieceRoom_0 rfl (lv_at hl 0 rfl) ?_
  refine k_get (C := RX6) (T := TX6) (N := 8) (ci := 11) (v := .int 0) hx hb hts ws_a9_X6_needPieceRoom_0 hown hh 0 rfl rfl 3 (by decide) (hts _ (wo_a9_X6_needPieceRoom_in _ (List.mem_of_getElem? (i := 0) rfl))) rfl dX6_needPieceRoom_1 ?_
  refine lv_bipush (v := 24) hx hb dX6_needPieceRoom_4 (by decide) ?_
  refine lv_icmp_lt (tgt := 20) hx hb dX6_needPieceRoom_6 (by decide) (fun _ => ?_) (fun c_6 => absurd (by decide) c_6)
  exact k_endv hx hb hr hlocks hh ⟨rfl, rfl, rfl⟩ [0] [] rfl rfl rfl (Nat.le_of_ble_eq_true rfl) (Nat.le_of_ble_eq_true rfl) dX6_needPieceRoom_20
def wo_a10_X2_init : List Cond := [Cond.methodLink RX2 3 objectInit, Cond.instanceMethod objectInit, Cond.code objectInit ⟨#[0xb1]⟩ 1 none, Cond.fieldLink RX2 9 "Segueworks$Piece" "kind" "C", Cond.fieldLink RX2 15 "Segueworks$Piece" "source" "[I", Cond.fieldLink RX2 19 "Segueworks$Piece" "second" "[I", Cond.fieldLink RX2 22 "Segueworks$Piece" "setting" "I", Cond.fieldLink RX2 26 "Segueworks$Piece" "setting2" "I", Cond.fieldLink RX2 29 "Segueworks$Piece" "release" "I", Cond.arrayClass .int, Cond.fieldLink RX2 32 "Segueworks$Piece" "samples" "[I", Cond.fieldLink RX2 35 "Segueworks$Piece" "carries" "[I"]
def wk_a10_X2_init : List Cond := Cond.code yX2_init cX2_init 8 none :: (wo_a10_X2_init ++ (u_ws RX2 TX2 9))
theorem wo_a10_X2_init_in : ∀ w ∈ wo_a10_X2_init, w ∈ wk_a10_X2_init := fun w h => List.mem_cons_of_mem _ (List.mem_append_left _ h)
theorem ws_a10_X2_init_0 : ∀ w ∈ u_ws RX2 TX2 9, w ∈ wk_a10_X2_init := fun w h => List.mem_cons_of_mem _ (List.mem_append_right _ h)
theorem gk_a10_X2_init : ∀ w ∈ wk_a10_X2_init, goodWord w = true := List.forall_mem_cons.mpr ⟨rfl, (List.forall_mem_append.mpr ⟨(show ∀ w ∈ wo_a10_X2_init, goodWord w = true by decide +kernel), (show ∀ w ∈ u_ws RX2 TX2 9, goodWord w = true by decide +kernel)⟩)⟩
set_option maxHeartbeats 4000000 in
set_option maxRecDepth 100000 in
theorem a10_X2_init (l : Launch) (hst : l.stackTraces = false) (D : va_G) (e0 : kE) (q29 : Nat)  : kI l yX2_init wk_a10_X2_init 1 20 2 187 D kStr e0 [] [(q29, .inr (7, [.int 0, .null, .null, .null, .int 0, .int 0, .int 0, .null, .int 0]))] [.ref q29, .int 115, .int 187, .null, .null, .int 0, .int 0, .int 0] (fun v w t => ∃ (q30 : Nat), ∃ (q32 : Nat), ∃ (y31 : ClassId), ∃ (y33 : ClassId), v = none ∧ w = [(q29, .inr (7, [.int 115, .ref q30, .null, .null, .int 0, .int 0, .int 0, .ref q32, .int 0])), (q30, .inl (y31, 187, .inl (fun _ => 0))), (q32, .inl (y33, 0, .inl (fun _ => 0)))] ∧ t = [(y31, .int), (y33, .int)]) := by
  refine k_ofI (cc := cX2_init) (maxL := 8) (ret := none) (by decide) rfl (Nat.le_of_ble_eq_true rfl) ?_
  intro p e s m args below meth c A ls hx hb hr hts hown hlocks hml hin hh hl
  have hown : s.vm.findClass RX2 = some m.cls := hown
  have hl : lv_has ls 8 [(0, .ref q29), (1, .int 115), (2, .int 187), (3, .null), (4, .null), (5, .int 0), (6, .int 0), (7, .int 0)] := hl
  have hin : meth.name = "<init>" := hin
  refine lv_aload_n hx hb dX2_init_0 rfl (lv_at hl 0 rfl) ?_
  refine W.objInit hx hb hown (hts _ (wo_a10_X2_init_in _ (List.mem_of_getElem? (i := 0) rfl))) (hts _ (wo_a10_X2_init_in _ (List.mem_of_getElem? (i := 1) rfl))) (hts _ (wo_a10_X2_init_in _ (List.mem_of_getElem? (i := 2) rfl))) rfl (by rw [hml]; exact hl.1) rfl dX2_init_1 (Nat.le_of_ble_eq_true rfl) (Nat.le_of_ble_eq_true rfl) ?_
  refine W.eq (g2 := F0 m 4 ls []) rfl ?_
  refine lv_aload_n hx hb dX2_init_4 rfl (lv_at hl 0 rfl) ?_
  refine lv_iload_n hx hb dX2_init_5 rfl (lv_at hl 1 rfl) ?_
  refine k_putF (C := RX2) (T := TX2) (N := 9) (ci := 7) (v := .int 115) (ws' := [(q29, .inr (7, [.int 115, .null, .null, .null, .int 0, .int 0, .int 0, .null, .int 0]))]) hx hb hts ws_a10_X2_init_0 tyX2 tyX2_ok nmX2 hown hh 0 rfl rfl 0 (by decide) (hts _ (wo_a10_X2_init_in _ (List.mem_of_getElem? (i := 3) rfl))) rfl hin rfl rfl rfl (Nat.le_of_ble_eq_true rfl) dX2_init_6 rfl (fun H locs hh => ?_)
  refine lv_aload_n hx hb dX2_init_9 rfl (lv_at hl 0 rfl) ?_
  refine lv_aload_nN hx hb dX2_init_10 rfl (lv_at hl 3 rfl) ?_
  refine k_putF (C := RX2) (T := TX2) (N := 9) (ci := 7) (v := .null) (ws' := [(q29, .inr (7, [.int 115, .null, .null, .null, .int 0, .int 0, .int 0, .null, .int 0]))]) hx hb hts ws_a10_X2_init_0 tyX2 tyX2_ok nmX2 hown hh 0 rfl rfl 2 (by decide) (hts _ (wo_a10_X2_init_in _ (List.mem_of_getElem? (i := 4) rfl))) rfl hin rfl rfl rfl (Nat.le_of_ble_eq_true rfl) dX2_init_11 rfl (fun H locs hh => ?_)
  refine lv_aload_n hx hb dX2_init_14 rfl (lv_at hl 0 rfl) ?_
  refine lv_aloadN hx hb dX2_init_15 (lv_at hl 4 rfl) ?_
  refine k_putF (C := RX2) (T := TX2) (N := 9) (ci := 7) (v := .null) (ws' := [(q29, .inr (7, [.int 115, .null, .null, .null, .int 0, .int 0, .int 0, .null, .int 0]))]) hx hb hts ws_a10_X2_init_0 tyX2 tyX2_ok nmX2 hown hh 0 rfl rfl 3 (by decide) (hts _ (wo_a10_X2_init_in _ (List.mem_of_getElem? (i := 5) rfl))) rfl hin rfl rfl rfl (Nat.le_of_ble_eq_true rfl) dX2_init_17 rfl (fun H locs hh => ?_)
  refine lv_aload_n hx hb dX2_init_20 rfl (lv_at hl 0 rfl) ?_
  refine lv_iload hx hb dX2_init_21 (lv_at hl 5 rfl) ?_
  refine k_putF (C := RX2) (T := TX2) (N := 9) (ci := 7) (v := .int 0) (ws' := [(q29, .inr (7, [.int 115, .null, .null, .null, .int 0, .int 0, .int 0, .null, .int 0]))]) hx hb hts ws_a10_X2_init_0 tyX2 tyX2_ok nmX2 hown hh 0 rfl rfl 4 (by decide) (hts _ (wo_a10_X2_init_in _ (List.mem_of_getElem? (i := 6) rfl))) rfl hin rfl rfl rfl (Nat.le_of_ble_eq_true rfl) dX2_init_23 rfl (fun H locs hh => ?_)
  refine lv_aload_n hx hb dX2_init_26 rfl (lv_at hl 0 rfl) ?_
  refine lv_iload hx hb dX2_init_27 (lv_at hl 6 rfl) ?_
  refine k_putF (C := RX2) (T := TX2) (N := 9) (ci := 7) (v := .int 0) (ws' := [(q29, .inr (7, [.int 115, .null, .null, .null, .int 0, .int 0, .int 0, .null, .int 0]))]) hx hb hts ws_a10_X2_init_0 tyX2 tyX2_ok nmX2 hown hh 0 rfl rfl 5 (by decide) (hts _ (wo_a10_X2_init_in _ (List.mem_of_getElem? (i := 7) rfl))) rfl hin rfl rfl rfl (Nat.le_of_ble_eq_true rfl) dX2_init_29 rfl (fun H locs hh => ?_)
  refine lv_aload_n hx hb dX2_init_32 rfl (lv_at hl 0 rfl) ?_
  refine lv_iload hx hb dX2_init_33 (lv_at hl 7 rfl) ?_
  refine k_putF (C := RX2) (T := TX2) (N := 9) (ci := 7) (v := .int 0) (ws' := [(q29, .inr (7, [.int 115, .null, .null, .null, .int 0, .int 0, .int 0, .null, .int 0]))]) hx hb hts ws_a10_X2_init_0 tyX2 tyX2_ok nmX2 hown hh 0 rfl rfl 6 (by decide) (hts _ (wo_a10_X2_init_in _ (List.mem_of_getElem? (i := 8) rfl))) rfl hin rfl rfl rfl (Nat.le_of_ble_eq_true rfl) dX2_init_35 rfl (fun H locs hh => ?_)
  refine lv_aload_n hx hb dX2_init_38 rfl (lv_at hl 0 rfl) ?_
  refine lv_iload_n hx hb dX2_init_39 rfl (lv_at hl 2 rfl) ?_
  refine k_newa (atype := .int) (ty := .int) (N' := 187) (a0 := (187, .inl (fun _ => 0))) hx hb (hts _ (wo_a10_X2_init_in _ (List.mem_of_getElem? (i := 9) rfl))) rfl hh (fun cA => rfl) (by decide) (by decide) (Nat.le_of_ble_eq_true rfl) (Nat.le_of_ble_eq_true rfl) (Nat.le_of_ble_eq_true rfl) dX2_init_40 (fun q30 y31 H hh => ?_)
  have hh : kH D kStr e0 A s H [(q29, .inr (7, [.int 115, .null, .null, .null, .int 0, .int 0, .int 0, .null, .int 0])), (q30, .inl (y31, 187, .inl (fun _ => 0)))] [(y31, .int)] _ := hh
  refine k_putF (C := RX2) (T := TX2) (N := 9) (ci := 7) (v := .ref q30) (ws' := [(q29, .inr (7, [.int 115, .ref q30, .null, .null, .int 0, .int 0, .int 0, .null, .int 0])), (q30, .inl (y31, 187, .inl (fun _ => 0)))]) hx hb hts ws_a10_X2_init_0 tyX2 tyX2_ok nmX2 hown hh 0 rfl rfl 1 (by decide) (hts _ (wo_a10_X2_init_in _ (List.mem_of_getElem? (i := 10) rfl))) rfl hin rfl rfl rfl (Nat.le_of_ble_eq_true rfl) dX2_init_42 rfl (fun H locs hh => ?_)
  refine lv_aload_n hx hb dX2_init_45 rfl (lv_at hl 0 rfl) ?_
  refine lv_iload_n hx hb dX2_init_46 rfl (lv_at hl 1 rfl) ?_
  refine lv_bipush (v := 108) hx hb dX2_init_47 (by decide) ?_
  refine lv_icmp_eq (tgt := 58) hx hb dX2_init_49 (by decide) (fun c_49 => absurd c_49 (by decide)) (fun _ => ?_)
  refine lv_iload_n hx hb dX2_init_52 rfl (lv_at hl 1 rfl) ?_
  refine lv_bipush (v := 100) hx hb dX2_init_53 (by decide) ?_
  refine lv_icmp_ne (tgt := 62) hx hb dX2_init_55 (by decide) (fun _ => ?_) (fun c_55 => absurd c_55 (by decide))
  refine lv_iconst (v := 0) hx hb dX2_init_62 (by decide) ?_
  refine k_newa (atype := .int) (ty := .int) (N' := 0) (a0 := (0, .inl (fun _ => 0))) hx hb (hts _ (wo_a10_X2_init_in _ (List.mem_of_getElem? (i := 9) rfl))) rfl hh (fun cA => rfl) (by decide) (by decide) (Nat.le_of_ble_eq_true rfl) (Nat.le_of_ble_eq_true rfl) (Nat.le_of_ble_eq_true rfl) dX2_init_63 (fun q32 y33 H hh => ?_)
  have hh : kH D kStr e0 A s H [(q29, .inr (7, [.int 115, .ref q30, .null, .null, .int 0, .int 0, .int 0, .null, .int 0])), (q30, .inl (y31, 187, .inl (fun _ => 0))), (q32, .inl (y33, 0, .inl (fun _ => 0)))] [(y31, .int), (y33, .int)] _ := hh
  refine k_putF (C := RX2) (T := TX2) (N := 9) (ci := 7) (v := .ref q32) (ws' := [(q29, .inr (7, [.int 115, .ref q30, .null, .null, .int 0, .int 0, .int 0, .ref q32, .int 0])), (q30, .inl (y31, 187, .inl (fun _ => 0))), (q32, .inl (y33, 0, .inl (fun _ => 0)))]) hx hb hts ws_a10_X2_init_0 tyX2 tyX2_ok nmX2 hown hh 0 rfl rfl 7 (by decide) (hts _ (wo_a10_X2_init_in _ (List.mem_of_getElem? (i := 11) rfl))) rfl hin rfl rfl rfl (Nat.le_of_ble_eq_true rfl) dX2_init_65 rfl (fun H locs hh => ?_)
  exact k_endV hx hb hr hlocks hh ⟨q30, q32, y31, y33, rfl, rfl, rfl⟩ [0, 1, 2] [0, 1] rfl rfl rfl (Nat.le_of_ble_eq_true rfl) (Nat.le_of_ble_eq_true rfl) dX2_init_68
def wo_a12_X2_widthOf : List Cond := [Cond.methodLink RX2 51 Lib.Math.abs.name, Cond.static Lib.Math.abs.name, Cond.initialized "java/lang/Math", Cond.code Lib.Math.abs.name Lib.Math.abs.code 1 (some .int)]
def wk_a12_X2_widthOf : List Cond := Cond.code yX2_widthOf cX2_widthOf 1 (some .int) :: wo_a12_X2_widthOf
theorem wo_a12_X2_widthOf_in : ∀ w ∈ wo_a12_X2_widthOf, w ∈ wk_a12_X2_widthOf := fun w h => List.mem_cons_of_mem _ h
theorem gk_a12_X2_widthOf : ∀ w ∈ wk_a12_X2_widthOf, goodWord w = true := List.forall_mem_cons.mpr ⟨rfl, (show ∀ w ∈ wo_a12_X2_widthOf, goodWord w = true by decide +kernel)⟩
set_option maxHeartbeats 4000000 in
set_option maxRecDepth 100000 in
theorem a12_X2_widthOf (l : Launch) (hst : l.stackTraces = false) (D : va_G) (e0 : kE)   : kM l yX2_widthOf wk_a12_X2_widthOf 1 29 0 0 D kStr e0 [] [] [.int 0] (fun v w t => v = some (.int 2) ∧ w = [] ∧ t = []) (fun _ => False) := by
  refine k_of (cc := cX2_widthOf) (maxL := 1) (ret := (some .int)) (by decide) rfl (Nat.le_of_ble_eq_true rfl) ?_
  intro p e s m args below meth c A ls hx hb hr hts hown hlocks hml hex hh hl
  have hown : s.vm.findClass RX2 = some m.cls := hown
  have hl : lv_has ls 1 [(0, .int 0)] := hl
  refine lv_iconst (v := 2) hx hb dX2_widthOf_0 (by decide) ?_
  refine lv_iload_n hx hb dX2_widthOf_1 rfl (lv_at hl 0 rfl) ?_
  refine va_mabs hx hb (by rw [hml]; exact hl.1.symm) hown (hts _ (wo_a12_X2_widthOf_in _ (List.mem_of_getElem? (i := 0) rfl))) (hts _ (wo_a12_X2_widthOf_in _ (List.mem_of_getElem? (i := 1) rfl))) (hts _ (wo_a12_X2_widthOf_in _ (List.mem_of_getElem? (i := 2) rfl))) (hts _ (wo_a12_X2_widthOf_in _ (List.mem_of_getElem? (i := 3) rfl))) (Nat.le_of_ble_eq_true rfl) (Nat.le_of_ble_eq_true rfl) (Nat.le_of_ble_eq_true rfl) (Nat.le_of_ble_eq_true rfl) dX2_widthOf_2 ?_
  refine W.eq (g2 := F0 m 5 ls [.int 0, .int 2]) (by first | rfl | decide) ?_
  refine lv_sipush (v := 4096) hx hb dX2_widthOf_5 (by decide) ?_
  refine lv_idiv hx hb dX2_widthOf_8 (by decide) ?_
  refine W.eq (g2 := F0 m 9 ls [.int 0, .int 2]) (by first | rfl | decide) ?_
  refine lv_iadd hx hb dX2_widthOf_9 ?_
  refine W.eq (g2 := F0 m 10 ls [.int 2]) (by first | rfl | decide) ?_
  exact k_endi hx hb hr hlocks hh ⟨rfl, rfl, rfl⟩ [] [] rfl rfl rfl (Nat.le_of_ble_eq_true rfl) (Nat.le_of_ble_eq_true rfl) dX2_widthOf_10
def wo_a11_X2_fill : List Cond := [Cond.fieldLink RX2 32 "Segueworks$Piece" "samples" "[I", Cond.fieldLink RX2 35 "Segueworks$Piece" "carries" "[I", Cond.fieldLink RX2 45 "Segueworks$Piece" "width" "I"]
def wk_a11_X2_fill : List Cond := Cond.code yX2_fill cX2_fill 2 none :: (wo_a11_X2_fill ++ ((u_ws RX2 TX2 9) ++ ((wsV RX2 42 RX2 yX2_workedOut wk_c_wo_s) ++ (va_wsS RX2 48 yX2_widthOf wk_a12_X2_widthOf))))
theorem wo_a11_X2_fill_in : ∀ w ∈ wo_a11_X2_fill, w ∈ wk_a11_X2_fill := fun w h => List.mem_cons_of_mem _ (List.mem_append_left _ h)
theorem ws_a11_X2_fill_0 : ∀ w ∈ u_ws RX2 TX2 9, w ∈ wk_a11_X2_fill := fun w h => List.mem_cons_of_mem _ (List.mem_append_right _ (List.mem_append_left _ h))
theorem gi_a11_X2_fill_1 : GoodIn wk_a11_X2_fill (wsV RX2 42 RX2 yX2_workedOut wk_c_wo_s) := fun w h => ⟨List.mem_cons_of_mem _ (List.mem_append_right _ (List.mem_append_right _ (List.mem_append_left _ h))), good_of_word (kg_V gk_c_wo_s w h)⟩
theorem gi_a11_X2_fill_2 : GoodIn wk_a11_X2_fill (va_wsS RX2 48 yX2_widthOf wk_a12_X2_widthOf) := fun w h => ⟨List.mem_cons_of_mem _ (List.mem_append_right _ (List.mem_append_right _ (List.mem_append_right _ h))), good_of_word (kg_S gk_a12_X2_widthOf w h)⟩
theorem gk_a11_X2_fill : ∀ w ∈ wk_a11_X2_fill, goodWord w = true := List.forall_mem_cons.mpr ⟨rfl, (List.forall_mem_append.mpr ⟨(show ∀ w ∈ wo_a11_X2_fill, goodWord w = true by decide +kernel), (List.forall_mem_append.mpr ⟨(show ∀ w ∈ u_ws RX2 TX2 9, goodWord w = true by decide +kernel), (List.forall_mem_append.mpr ⟨(kg_V gk_c_wo_s), (kg_S gk_a12_X2_widthOf)⟩)⟩)⟩)⟩
set_option maxHeartbeats 4000000 in
set_option maxRecDepth 100000 in
theorem lp_a11_X2_fill (l : Launch) (hst : l.stackTraces = false) {p : Program} {e : Env} {s : State} {m : MethodId} {args : Array Value} {below : List Frame} {meth : Method} {c : Code} {Q : State → Prop} {A : Nat → Prop} (hx : p.tables.exec = Jvm.exec) (hb : c.code = cX2_fill) (hts : ∀ w ∈ wk_a11_X2_fill, w.before args s = true) (hown : s.vm.findClass RX2 = some m.cls) (hml : c.maxLocals = 2) (D : va_G) (e0 : kE) (q29 : Nat) (q30 : Nat) (q31 : Nat) (y32 : ClassId) (y33 : ClassId)  (kk : ∀ (H : Heap) (locs : List Loc) (ls : Array Slot), kH D kStr e0 A s H [(q29, .inr (7, [.int 115, .ref q30, .null, .null, .int 0, .int 0, .int 0, .ref q31, .int (nI (2 * 187))])), (q30, .inl (y32, 187, .inl (fun _ => 0))), (q31, .inl (y33, 0, .inl (fun _ => 0)))] [(y32, .int), (y33, .int)] locs → lv_has ls 2 [(1, .int (nI 187)), (0, .ref q29)] → W p l e (kRm 2 49 0 0) s m args below meth c H locs 0 0 Q (F0 m 66 ls [])) : ∀ (k i : Nat) (H : Heap) (locs : List Loc) (ls : Array Slot), k + i = 187 → kH D kStr e0 A s H [(q29, .inr (7, [.int 115, .ref q30, .null, .null, .int 0, .int 0, .int 0, .ref q31, .int (nI (2 * i))])), (q30, .inl (y32, 187, .inl (fun _ => 0))), (q31, .inl (y33, 0, .inl (fun _ => 0)))] [(y32, .int), (y33, .int)] locs → lv_has ls 2 [(1, .int (nI i)), (0, .ref q29)] → W p l e (kRm 2 49 0 0) s m args below meth c H locs 0 0 Q (F0 m 2 ls []) := by
  intro k
  induction k with
  | zero =>
    intro i H locs ls hi0 hh hl
    obtain rfl : i = 187 := by omega
    have hh : kH D kStr e0 A s H [(q29, .inr (7, [.int 115, .ref q30, .null, .null, .int 0, .int 0, .int 0, .ref q31, .int (nI (2 * 187))])), (q30, .inl (y32, 187, .inl (fun _ => 0))), (q31, .inl (y33, 0, .inl (fun _ => 0)))] [(y32, .int), (y33, .int)] _ := hh
    have hl : lv_has ls 2 [(1, .int (nI 187)), (0, .ref q29)] := hl
    refine lv_iload_n hx hb dX2_fill_2 rfl (lv_at hl 0 rfl) ?_
    refine lv_aload_n hx hb dX2_fill_3 rfl (lv_at hl 1 rfl) ?_
    refine k_get (C := RX2) (T := TX2) (N := 9) (ci := 7) (v := .ref q30) hx hb hts ws_a11_X2_fill_0 hown hh 0 rfl rfl 1 (by decide) (hts _ (wo_a11_X2_fill_in _ (List.mem_of_getElem? (i := 0) rfl))) rfl dX2_fill_4 ?_
    refine k_alen (v := 187) hx hb hh 1 0 rfl rfl rfl dX2_fill_7 ?_
    refine lv_icmp_ge (tgt := 66) hx hb dX2_fill_8 (by decide) (fun _ => ?_) (fun c_8 => absurd ((show (187 : Int32) ≤ nI 187 by decide)) c_8)
    exact kk _ _ _ hh (lv_sub hl [0, 1] rfl)
  | succ k ih =>
    intro i H locs ls hi0 hh hl
    have hi : i < 187 := by omega
    refine lv_iload_n hx hb dX2_fill_2 rfl (lv_at hl 0 rfl) ?_
    refine lv_aload_n hx hb dX2_fill_3 rfl (lv_at hl 1 rfl) ?_
    refine k_get (C := RX2) (T := TX2) (N := 9) (ci := 7) (v := .ref q30) hx hb hts ws_a11_X2_fill_0 hown hh 0 rfl rfl 1 (by decide) (hts _ (wo_a11_X2_fill_in _ (List.mem_of_getElem? (i := 0) rfl))) rfl dX2_fill_4 ?_
    refine k_alen (v := 187) hx hb hh 1 0 rfl rfl rfl dX2_fill_7 ?_
    refine lv_icmp_ge (tgt := 66) hx hb dX2_fill_8 (by decide) (fun c_8 => absurd c_8 ((show ¬ (187 : Int32) ≤ nI i from nI_ge (b := 187) hi (by omega)))) (fun _ => ?_)
    refine lv_iload_n hx hb dX2_fill_11 rfl (lv_at hl 0 rfl) ?_
    refine lv_aload_n hx hb dX2_fill_12 rfl (lv_at hl 1 rfl) ?_
    refine k_get (C := RX2) (T := TX2) (N := 9) (ci := 7) (v := .ref q31) hx hb hts ws_a11_X2_fill_0 hown hh 0 rfl rfl 7 (by decide) (hts _ (wo_a11_X2_fill_in _ (List.mem_of_getElem? (i := 1) rfl))) rfl dX2_fill_13 ?_
    refine k_alen (v := 0) hx hb hh 2 1 rfl rfl rfl dX2_fill_16 ?_
    refine lv_icmp_ge (tgt := 31) hx hb dX2_fill_17 (by decide) (fun _ => ?_) (fun c_17 => absurd (nI_pos' (by omega)) c_17)
    refine lv_aload_n hx hb dX2_fill_31 rfl (lv_at hl 1 rfl) ?_
    refine k_get (C := RX2) (T := TX2) (N := 9) (ci := 7) (v := .ref q30) hx hb hts ws_a11_X2_fill_0 hown hh 0 rfl rfl 1 (by decide) (hts _ (wo_a11_X2_fill_in _ (List.mem_of_getElem? (i := 0) rfl))) rfl dX2_fill_32 ?_
    refine lv_iload_n hx hb dX2_fill_35 rfl (lv_at hl 0 rfl) ?_
    refine lv_aload_n hx hb dX2_fill_36 rfl (lv_at hl 1 rfl) ?_
    refine lv_iload_n hx hb dX2_fill_37 rfl (lv_at hl 0 rfl) ?_
    refine k_callV (C := RX2) (T := TX2) (N := 9) (ci := 7) (q0 := 0) (wr := [(q30, .inl (y32, 187, .inl (fun _ => 0))), (q31, .inl (y33, 0, .inl (fun _ => 0)))]) (rest := [.int (nI i), .ref q30]) (own := RX2) ⟨hx, hb, hml, hown, hts⟩ (c_wo_s l hst D e0 q29 q30 q31 ((nI (2 * i))) ((nI i)) ) (cwV 1 hts gi_a11_X2_fill_1 rfl rfl rfl (by decide +kernel) ⟨Nat.le_of_ble_eq_true rfl, Nat.le_of_ble_eq_true rfl⟩) hh rfl rfl [0] [1, 2] [] rfl rfl rfl rfl (by decide) rfl rfl hl rfl (Nat.le_of_ble_eq_true rfl) dX2_fill_38 ⟨Nat.le_of_ble_eq_true rfl, (Nat.le_of_ble_eq_true rfl)⟩ (fun _ _ _ _ _ h => h.elim) (fun v w ty1 H locs hp hh => ?_)
    obtain ⟨rfl, rfl, rfl⟩ := hp
    have hh : kH D kStr e0 A s H [(q30, .inl (y32, 187, .inl (fun _ => 0))), (q31, .inl (y33, 0, .inl (fun _ => 0))), (q29, .inr (7, [.int 115, .ref q30, .null, .null, .int 0, .int 0, .int 0, .ref q31, .int (nI (2 * i))]))] [(y32, .int), (y33, .int)] _ := hh
    refine W.eq (g2 := F0 m 41 ls [.int 0, .int (nI i), .ref q30]) (by first | rfl | decide) ?_
    refine k_iast0 hx hb hh 0 0 rfl rfl (vp_in_nI hi (by decide)) dX2_fill_41 (fun H locs hh => ?_)
    refine lv_aload_n hx hb dX2_fill_42 rfl (lv_at hl 1 rfl) ?_
    refine lv_dup hx hb dX2_fill_43 rfl ?_
    refine k_get (C := RX2) (T := TX2) (N := 9) (ci := 7) (v := .int (nI (2 * i))) hx hb hts ws_a11_X2_fill_0 hown hh 2 rfl rfl 8 (by decide) (hts _ (wo_a11_X2_fill_in _ (List.mem_of_getElem? (i := 2) rfl))) rfl dX2_fill_44 ?_
    refine lv_aload_n hx hb dX2_fill_47 rfl (lv_at hl 1 rfl) ?_
    refine k_get (C := RX2) (T := TX2) (N := 9) (ci := 7) (v := .ref q30) hx hb hts ws_a11_X2_fill_0 hown hh 2 rfl rfl 1 (by decide) (hts _ (wo_a11_X2_fill_in _ (List.mem_of_getElem? (i := 0) rfl))) rfl dX2_fill_48 ?_
    refine lv_iload_n hx hb dX2_fill_51 rfl (lv_at hl 0 rfl) ?_
    refine k_iald (v := 0) hx hb hh 0 0 rfl rfl (vp_in_nI hi (by decide)) rfl dX2_fill_52 ?_
    refine k_callS (wr := [(q30, .inl (y32, 187, .inl (fun _ => 0))), (q31, .inl (y33, 0, .inl (fun _ => 0))), (q29, .inr (7, [.int 115, .ref q30, .null, .null, .int 0, .int 0, .int 0, .ref q31, .int (nI (2 * i))]))]) (rest := [.int (nI (2 * i)), .ref q29]) (own := RX2) ⟨hx, hb, hml, hown, hts⟩ (a12_X2_widthOf l hst D e0  ) (va_cwS 1 hts gi_a11_X2_fill_2 rfl rfl rfl (by decide +kernel) ⟨Nat.le_of_ble_eq_true rfl, Nat.le_of_ble_eq_true rfl⟩) hh [] [0, 1, 2] [] rfl rfl rfl rfl (by decide) rfl rfl hl rfl (Nat.le_of_ble_eq_true rfl) dX2_fill_53 ⟨Nat.le_of_ble_eq_true rfl, (Nat.le_of_ble_eq_true rfl)⟩ (fun _ _ _ _ _ h => h.elim) (fun v w ty1 H locs hp hh => ?_)
    obtain ⟨rfl, rfl, rfl⟩ := hp
    have hh : kH D kStr e0 A s H [(q30, .inl (y32, 187, .inl (fun _ => 0))), (q31, .inl (y33, 0, .inl (fun _ => 0))), (q29, .inr (7, [.int 115, .ref q30, .null, .null, .int 0, .int 0, .int 0, .ref q31, .int (nI (2 * i))]))] [(y32, .int), (y33, .int)] _ := hh
    refine W.eq (g2 := F0 m 56 ls [.int 2, .int (nI (2 * i)), .ref q29]) (by first | rfl | decide) ?_
    refine lv_iadd hx hb dX2_fill_56 ?_
    refine W.eq (g2 := F0 m 57 ls [.int (nI (2 * (i + 1))), .ref q29]) (congrArg (fun z9 : Int32 => F0 m 57 ls (.int z9 :: [.ref q29])) (show (nI (2 * i)) + 2 = (nI (2 * (i + 1))) from nI_add (2 * i) 2)) ?_
    refine k_put (C := RX2) (T := TX2) (N := 9) (ci := 7) (v := .int (nI (2 * (i + 1)))) (ws' := [(q30, .inl (y32, 187, .inl (fun _ => 0))), (q31, .inl (y33, 0, .inl (fun _ => 0))), (q29, .inr (7, [.int 115, .ref q30, .null, .null, .int 0, .int 0, .int 0, .ref q31, .int (nI (2 * (i + 1)))]))]) hx hb hts ws_a11_X2_fill_0 tyX2 tyX2_ok nmX2 hown hh 2 rfl rfl 8 (by decide) (hts _ (wo_a11_X2_fill_in _ (List.mem_of_getElem? (i := 2) rfl))) rfl rfl rfl (Nat.le_of_ble_eq_true rfl) dX2_fill_57 rfl (fun H locs hh => ?_)
    refine lv_iinc (v := (nI (i + 1))) (lv' := [(1, .int (nI (i + 1))), (0, .ref q29)]) hx hb dX2_fill_60 hl (k := 0) rfl (nI_1 i) (by decide) rfl (fun ls hl => ?_)
    refine lv_goto (tgt := 2) hx hb dX2_fill_63 (by decide) ?_
    exact ih (i + 1) _ _ _ (by omega) (hh.sub [2, 0, 1] [0, 1] rfl rfl rfl) (lv_sub hl [0, 1] rfl)
set_option maxHeartbeats 4000000 in
set_option maxRecDepth 100000 in
theorem a11_X2_fill (l : Launch) (hst : l.stackTraces = false) (D : va_G) (e0 : kE) (q29 : Nat) (q30 : Nat) (q31 : Nat) (y32 : ClassId) (y33 : ClassId)  : kM l yX2_fill wk_a11_X2_fill 2 49 0 0 D kStr e0 [(y32, .int), (y33, .int)] [(q29, .inr (7, [.int 115, .ref q30, .null, .null, .int 0, .int 0, .int 0, .ref q31, .int 0])), (q30, .inl (y32, 187, .inl (fun _ => 0))), (q31, .inl (y33, 0, .inl (fun _ => 0)))] [.ref q29] (fun v w t => v = none ∧ w = [(q29, .inr (7, [.int 115, .ref q30, .null, .null, .int 0, .int 0, .int 0, .ref q31, .int 374])), (q30, .inl (y32, 187, .inl (fun _ => 0))), (q31, .inl (y33, 0, .inl (fun _ => 0)))] ∧ t = [(y32, .int), (y33, .int)]) (fun _ => False) := by
  refine k_of (cc := cX2_fill) (maxL := 2) (ret := none) (by decide) rfl (Nat.le_of_ble_eq_true rfl) ?_
  intro p e s m args below meth c A ls hx hb hr hts hown hlocks hml hex hh hl
  have hown : s.vm.findClass RX2 = some m.cls := hown
  have hl : lv_has ls 2 [(0, .ref q29)] := hl
  refine lv_iconst (v := 0) hx hb dX2_fill_0 (by decide) ?_
  refine lv_istore_n (lv' := [(1, .int 0), (0, .ref q29)]) hx hb dX2_fill_1 rfl hl (by decide) rfl (fun ls hl => ?_)
  refine lp_a11_X2_fill l hst hx hb hts hown hml D e0 q29 q30 q31 y32 y33  (fun H locs ls hh hl => ?_) 187 0 _ _ _ (by omega) (hh.sub [0, 1, 2] [0, 1] rfl rfl rfl) (lv_sub hl [0, 1] rfl)
  have hh : kH D kStr e0 A s H [(q29, .inr (7, [.int 115, .ref q30, .null, .null, .int 0, .int 0, .int 0, .ref q31, .int 374])), (q30, .inl (y32, 187, .inl (fun _ => 0))), (q31, .inl (y33, 0, .inl (fun _ => 0)))] [(y32, .int), (y33, .int)] _ := hh
  have hl : lv_has ls 2 [(1, .int (nI 187)), (0, .ref q29)] := hl
  exact k_endv hx hb hr hlocks hh ⟨rfl, rfl, rfl⟩ [0, 1, 2] [0, 1] rfl rfl rfl (Nat.le_of_ble_eq_true rfl) (Nat.le_of_ble_eq_true rfl) dX2_fill_66
def wo_a13_X6_keep : List Cond := [Cond.fieldLink RX6 17 "Segueworks" "pieces" "[LSegueworks$Piece;", Cond.fieldLink RX6 340 "Segueworks" "pieceCount" "I"]
def wk_a13_X6_keep : List Cond := Cond.code yX6_keep cX6_keep 2 (some .int) :: (wo_a13_X6_keep ++ ((wsV RX6 366 RX2 yX2_fill wk_a11_X2_fill) ++ (u_ws RX6 TX6 8)))
theorem wo_a13_X6_keep_in : ∀ w ∈ wo_a13_X6_keep, w ∈ wk_a13_X6_keep := fun w h => List.mem_cons_of_mem _ (List.mem_append_left _ h)
theorem gi_a13_X6_keep_0 : GoodIn wk_a13_X6_keep (wsV RX6 366 RX2 yX2_fill wk_a11_X2_fill) := fun w h => ⟨List.mem_cons_of_mem _ (List.mem_append_right _ (List.mem_append_left _ h)), good_of_word (kg_V gk_a11_X2_fill w h)⟩
theorem ws_a13_X6_keep_1 : ∀ w ∈ u_ws RX6 TX6 8, w ∈ wk_a13_X6_keep := fun w h => List.mem_cons_of_mem _ (List.mem_append_right _ (List.mem_append_right _ h))
theorem gk_a13_X6_keep : ∀ w ∈ wk_a13_X6_keep, goodWord w = true := List.forall_mem_cons.mpr ⟨rfl, (List.forall_mem_append.mpr ⟨(show ∀ w ∈ wo_a13_X6_keep, goodWord w = true by decide +kernel), (List.forall_mem_append.mpr ⟨(kg_V gk_a11_X2_fill), (show ∀ w ∈ u_ws RX6 TX6 8, goodWord w = true by decide +kernel)⟩)⟩)⟩
set_option maxHeartbeats 4000000 in
set_option maxRecDepth 100000 in
theorem a13_X6_keep (l : Launch) (hst : l.stackTraces = false) (D : va_G) (e0 : kE) (q1 : Nat) (q29 : Nat) (q2 : Nat) (q3 : Nat) (q4 : Nat) (q5 : Nat) (q6 : Nat) (q30 : Nat) (q31 : Nat) (y7 : ClassId) (y32 : ClassId) (y33 : ClassId)  : kM l yX6_keep wk_a13_X6_keep 3 70 0 0 D kStr e0 [(y7, .object "Segueworks$Piece"), (y32, .int), (y33, .int)] [(q1, .inr (11, [.ref q2, .int 0, .ref q3, .int 0, .ref q4, .ref q5, .ref q6, .int 0])), (q29, .inr (7, [.int 115, .ref q30, .null, .null, .int 0, .int 0, .int 0, .ref q31, .int 0])), (q3, .inl (y7, 24, .inr (.inr (.inr (.inr (fun _ => none)))))), (q30, .inl (y32, 187, .inl (fun _ => 0))), (q31, .inl (y33, 0, .inl (fun _ => 0)))] [.ref q1, .ref q29] (fun v w t => v = some (.int 0) ∧ w = [(q1, .inr (11, [.ref q2, .int 0, .ref q3, .int 1, .ref q4, .ref q5, .ref q6, .int 0])), (q29, .inr (7, [.int 115, .ref q30, .null, .null, .int 0, .int 0, .int 0, .ref q31, .int 374])), (q3, .inl (y7, 24, .inr (.inr (.inr (.inr (va_up ((fun _ => none)) (0 : Int32).toNatClampNeg (some q29))))))), (q30, .inl (y32, 187, .inl (fun _ => 0))), (q31, .inl (y33, 0, .inl (fun _ => 0)))] ∧ t = [(y7, .object "Segueworks$Piece"), (y32, .int), (y33, .int)]) (fun _ => False) := by
  refine k_of (cc := cX6_keep) (maxL := 2) (ret := (some .int)) (by decide) rfl (Nat.le_of_ble_eq_true rfl) ?_
  intro p e s m args below meth c A ls hx hb hr hts hown hlocks hml hex hh hl
  have hown : s.vm.findClass RX6 = some m.cls := hown
  have hl : lv_has ls 2 [(0, .ref q1), (1, .ref q29)] := hl
  refine lv_aload_n hx hb dX6_keep_0 rfl (lv_at hl 1 rfl) ?_
  refine k_callV (C := RX2) (T := TX2) (N := 9) (ci := 7) (q0 := 1) (wr := [(q1, .inr (11, [.ref q2, .int 0, .ref q3, .int 0, .ref q4, .ref q5, .ref q6, .int 0])), (q3, .inl (y7, 24, .inr (.inr (.inr (.inr (fun _ => none))))))]) (rest := []) (own := RX6) ⟨hx, hb, hml, hown, hts⟩ (a11_X2_fill l hst D e0 q29 q30 q31 y32 y33 ) (cwV 0 hts gi_a13_X6_keep_0 rfl rfl rfl (by decide +kernel) ⟨Nat.le_of_ble_eq_true rfl, Nat.le_of_ble_eq_true rfl⟩) hh rfl rfl [1, 3, 4] [0, 2] [1, 2] rfl rfl rfl rfl (by decide) rfl rfl hl rfl (Nat.le_of_ble_eq_true rfl) dX6_keep_1 ⟨Nat.le_of_ble_eq_true rfl, (Nat.le_of_ble_eq_true rfl)⟩ (fun _ _ _ _ _ h => h.elim) (fun v w ty1 H locs hp hh => ?_)
  obtain ⟨rfl, rfl, rfl⟩ := hp
  have hh : kH D kStr e0 A s H [(q1, .inr (11, [.ref q2, .int 0, .ref q3, .int 0, .ref q4, .ref q5, .ref q6, .int 0])), (q3, .inl (y7, 24, .inr (.inr (.inr (.inr (fun _ => none)))))), (q29, .inr (7, [.int 115, .ref q30, .null, .null, .int 0, .int 0, .int 0, .ref q31, .int 374])), (q30, .inl (y32, 187, .inl (fun _ => 0))), (q31, .inl (y33, 0, .inl (fun _ => 0)))] [(y7, .object "Segueworks$Piece"), (y32, .int), (y33, .int), (y32, .int), (y33, .int)] _ := hh
  refine W.eq (g2 := F0 m 4 ls []) (by first | rfl | decide) ?_
  refine lv_aload_n hx hb dX6_keep_4 rfl (lv_at hl 0 rfl) ?_
  refine k_get (C := RX6) (T := TX6) (N := 8) (ci := 11) (v := .ref q3) hx hb hts ws_a13_X6_keep_1 hown hh 0 rfl rfl 2 (by decide) (hts _ (wo_a13_X6_keep_in _ (List.mem_of_getElem? (i := 0) rfl))) rfl dX6_keep_5 ?_
  refine lv_aload_n hx hb dX6_keep_8 rfl (lv_at hl 0 rfl) ?_
  refine k_get (C := RX6) (T := TX6) (N := 8) (ci := 11) (v := .int 0) hx hb hts ws_a13_X6_keep_1 hown hh 0 rfl rfl 3 (by decide) (hts _ (wo_a13_X6_keep_in _ (List.mem_of_getElem? (i := 1) rfl))) rfl dX6_keep_9 ?_
  refine lv_aload_n hx hb dX6_keep_12 rfl (lv_at hl 1 rfl) ?_
  refine k_astq (ws' := [(q1, .inr (11, [.ref q2, .int 0, .ref q3, .int 0, .ref q4, .ref q5, .ref q6, .int 0])), (q3, .inl (y7, 24, .inr (.inr (.inr (.inr (va_up ((fun _ => none)) (0 : Int32).toNatClampNeg (some q29))))))), (q29, .inr (7, [.int 115, .ref q30, .null, .null, .int 0, .int 0, .int 0, .ref q31, .int 374])), (q30, .inl (y32, 187, .inl (fun _ => 0))), (q31, .inl (y33, 0, .inl (fun _ => 0)))]) hx hb hh 1 0 2 7 rfl rfl rfl rfl (by unfold vp_in; decide) dX6_keep_13 rfl (fun H locs hh => ?_)
  refine lv_aload_n hx hb dX6_keep_14 rfl (lv_at hl 0 rfl) ?_
  refine lv_dup hx hb dX6_keep_15 rfl ?_
  refine k_get (C := RX6) (T := TX6) (N := 8) (ci := 11) (v := .int 0) hx hb hts ws_a13_X6_keep_1 hown hh 0 rfl rfl 3 (by decide) (hts _ (wo_a13_X6_keep_in _ (List.mem_of_getElem? (i := 1) rfl))) rfl dX6_keep_16 ?_
  refine lv_iconst (v := 1) hx hb dX6_keep_19 (by decide) ?_
  refine lv_iadd hx hb dX6_keep_20 ?_
  refine W.eq (g2 := F0 m 21 ls [.int 1, .ref q1]) (by first | rfl | decide) ?_
  refine k_put (C := RX6) (T := TX6) (N := 8) (ci := 11) (v := .int 1) (ws' := [(q1, .inr (11, [.ref q2, .int 0, .ref q3, .int 1, .ref q4, .ref q5, .ref q6, .int 0])), (q3, .inl (y7, 24, .inr (.inr (.inr (.inr (va_up ((fun _ => none)) (0 : Int32).toNatClampNeg (some q29))))))), (q29, .inr (7, [.int 115, .ref q30, .null, .null, .int 0, .int 0, .int 0, .ref q31, .int 374])), (q30, .inl (y32, 187, .inl (fun _ => 0))), (q31, .inl (y33, 0, .inl (fun _ => 0)))]) hx hb hts ws_a13_X6_keep_1 tyX6 tyX6_ok nmX6 hown hh 0 rfl rfl 3 (by decide) (hts _ (wo_a13_X6_keep_in _ (List.mem_of_getElem? (i := 1) rfl))) rfl rfl rfl (Nat.le_of_ble_eq_true rfl) dX6_keep_21 rfl (fun H locs hh => ?_)
  refine lv_aload_n hx hb dX6_keep_24 rfl (lv_at hl 0 rfl) ?_
  refine k_get (C := RX6) (T := TX6) (N := 8) (ci := 11) (v := .int 1) hx hb hts ws_a13_X6_keep_1 hown hh 0 rfl rfl 3 (by decide) (hts _ (wo_a13_X6_keep_in _ (List.mem_of_getElem? (i := 1) rfl))) rfl dX6_keep_25 ?_
  refine lv_iconst (v := 1) hx hb dX6_keep_28 (by decide) ?_
  refine lv_isub hx hb dX6_keep_29 ?_
  refine W.eq (g2 := F0 m 30 ls [.int 0]) (by first | rfl | decide) ?_
  exact k_endi hx hb hr hlocks hh ⟨rfl, rfl, rfl⟩ [0, 2, 1, 3, 4] [0, 1, 2] rfl rfl rfl (Nat.le_of_ble_eq_true rfl) (Nat.le_of_ble_eq_true rfl) dX6_keep_30
def wo_a14_X6_silence : List Cond := [Cond.classLink RX6 15 RX2, Cond.instantiable RX2 9, Cond.initialized RX2, Cond.methodLink RX6 92 yX2_init, Cond.instanceMethod yX2_init]
def wk_a14_X6_silence : List Cond := Cond.code yX6_silence cX6_silence 2 (some .int) :: (wo_a14_X6_silence ++ ((va_wsS RX6 57 yX6_needRange wk_a8_X6_needRange) ++ ((wsV RX6 85 RX6 yX6_needPieceRoom wk_a9_X6_needPieceRoom) ++ ((u_ws RX2 TX2 9) ++ ((wk_a10_X2_init) ++ (wsV RX6 95 RX6 yX6_keep wk_a13_X6_keep))))))
theorem wo_a14_X6_silence_in : ∀ w ∈ wo_a14_X6_silence, w ∈ wk_a14_X6_silence := fun w h => List.mem_cons_of_mem _ (List.mem_append_left _ h)
theorem gi_a14_X6_silence_0 : GoodIn wk_a14_X6_silence (va_wsS RX6 57 yX6_needRange wk_a8_X6_needRange) := fun w h => ⟨List.mem_cons_of_mem _ (List.mem_append_right _ (List.mem_append_left _ h)), good_of_word (kg_S gk_a8_X6_needRange w h)⟩
theorem gi_a14_X6_silence_1 : GoodIn wk_a14_X6_silence (wsV RX6 85 RX6 yX6_needPieceRoom wk_a9_X6_needPieceRoom) := fun w h => ⟨List.mem_cons_of_mem _ (List.mem_append_right _ (List.mem_append_right _ (List.mem_append_left _ h))), good_of_word (kg_V gk_a9_X6_needPieceRoom w h)⟩
theorem ws_a14_X6_silence_2 : ∀ w ∈ u_ws RX2 TX2 9, w ∈ wk_a14_X6_silence := fun w h => List.mem_cons_of_mem _ (List.mem_append_right _ (List.mem_append_right _ (List.mem_append_right _ (List.mem_append_left _ h))))
theorem gi_a14_X6_silence_3 : GoodIn wk_a14_X6_silence (wk_a10_X2_init) := fun w h => ⟨List.mem_cons_of_mem _ (List.mem_append_right _ (List.mem_append_right _ (List.mem_append_right _ (List.mem_append_right _ (List.mem_append_left _ h))))), good_of_word (gk_a10_X2_init w h)⟩
theorem gi_a14_X6_silence_4 : GoodIn wk_a14_X6_silence (wsV RX6 95 RX6 yX6_keep wk_a13_X6_keep) := fun w h => ⟨List.mem_cons_of_mem _ (List.mem_append_right _ (List.mem_append_right _ (List.mem_append_right _ (List.mem_append_right _ (List.mem_append_right _ h))))), good_of_word (kg_V gk_a13_X6_keep w h)⟩
theorem gk_a14_X6_silence : ∀ w ∈ wk_a14_X6_silence, goodWord w = true := List.forall_mem_cons.mpr ⟨rfl, (List.forall_mem_append.mpr ⟨(show ∀ w ∈ wo_a14_X6_silence, goodWord w = true by decide +kernel), (List.forall_mem_append.mpr ⟨(kg_S gk_a8_X6_needRange), (List.forall_mem_append.mpr ⟨(kg_V gk_a9_X6_needPieceRoom), (List.forall_mem_append.mpr ⟨(show ∀ w ∈ u_ws RX2 TX2 9, goodWord w = true by decide +kernel), (List.forall_mem_append.mpr ⟨gk_a10_X2_init, (kg_V gk_a13_X6_keep)⟩)⟩)⟩)⟩)⟩)⟩
set_option maxHeartbeats 4000000 in
set_option maxRecDepth 100000 in
theorem a14_X6_silence (l : Launch) (hst : l.stackTraces = false) (D : va_G) (e0 : kE) (q1 : Nat) (q2 : Nat) (q3 : Nat) (q4 : Nat) (q5 : Nat) (q6 : Nat) (y7 : ClassId)  : kM l yX6_silence wk_a14_X6_silence 4 91 3 196 D kStr e0 [(y7, .object "Segueworks$Piece")] [(q1, .inr (11, [.ref q2, .int 0, .ref q3, .int 0, .ref q4, .ref q5, .ref q6, .int 0])), (q3, .inl (y7, 24, .inr (.inr (.inr (.inr (fun _ => none))))))] [.ref q1, .int 187] (fun v w t => ∃ (q29 : Nat), ∃ (q30 : Nat), ∃ (q31 : Nat), ∃ (y32 : ClassId), v = some (.int 0) ∧ w = [(q1, .inr (11, [.ref q2, .int 0, .ref q3, .int 1, .ref q4, .ref q5, .ref q6, .int 0])), (q3, .inl (y7, 24, .inr (.inr (.inr (.inr (va_up ((fun _ => none)) (0 : Int32).toNatClampNeg (some q29))))))), (q29, .inr (7, [.int 115, .ref q30, .null, .null, .int 0, .int 0, .int 0, .ref q31, .int 374])), (q30, .inl (y32, 187, .inl (fun _ => 0)))] ∧ t = [(y7, .object "Segueworks$Piece"), (y32, .int)]) (fun _ => False) := by
  refine k_of (cc := cX6_silence) (maxL := 2) (ret := (some .int)) (by decide) rfl (Nat.le_of_ble_eq_true rfl) ?_
  intro p e s m args below meth c A ls hx hb hr hts hown hlocks hml hex hh hl
  have hown : s.vm.findClass RX6 = some m.cls := hown
  have hl : lv_has ls 2 [(0, .ref q1), (1, .int 187)] := hl
  refine lv_iload_n hx hb dX6_silence_0 rfl (lv_at hl 1 rfl) ?_
  refine lv_iconst (v := 1) hx hb dX6_silence_1 (by decide) ?_
  refine lv_sipush (v := 200) hx hb dX6_silence_2 (by decide) ?_
  refine k_callS (wr := [(q1, .inr (11, [.ref q2, .int 0, .ref q3, .int 0, .ref q4, .ref q5, .ref q6, .int 0])), (q3, .inl (y7, 24, .inr (.inr (.inr (.inr (fun _ => none))))))]) (rest := []) (own := RX6) ⟨hx, hb, hml, hown, hts⟩ (a8_X6_needRange l hst D e0  ) (va_cwS 3 hts gi_a14_X6_silence_0 rfl rfl rfl (by decide +kernel) ⟨Nat.le_of_ble_eq_true rfl, Nat.le_of_ble_eq_true rfl⟩) hh [] [0, 1] [] rfl rfl rfl rfl (by decide) rfl rfl hl rfl (Nat.le_of_ble_eq_true rfl) dX6_silence_5 ⟨Nat.le_of_ble_eq_true rfl, (Nat.le_of_ble_eq_true rfl)⟩ (fun _ _ _ _ _ h => h.elim) (fun v w ty1 H locs hp hh => ?_)
  obtain ⟨rfl, rfl, rfl⟩ := hp
  have hh : kH D kStr e0 A s H [(q1, .inr (11, [.ref q2, .int 0, .ref q3, .int 0, .ref q4, .ref q5, .ref q6, .int 0])), (q3, .inl (y7, 24, .inr (.inr (.inr (.inr (fun _ => none))))))] [(y7, .object "Segueworks$Piece")] _ := hh
  refine W.eq (g2 := F0 m 8 ls []) (by first | rfl | decide) ?_
  refine lv_aload_n hx hb dX6_silence_8 rfl (lv_at hl 0 rfl) ?_
  refine k_callV (C := RX6) (T := TX6) (N := 8) (ci := 11) (q0 := 0) (wr := [(q3, .inl (y7, 24, .inr (.inr (.inr (.inr (fun _ => none))))))]) (rest := []) (own := RX6) ⟨hx, hb, hml, hown, hts⟩ (a9_X6_needPieceRoom l hst D e0 q1 q2 q3 q4 q5 q6 ) (cwV 0 hts gi_a14_X6_silence_1 rfl rfl rfl (by decide +kernel) ⟨Nat.le_of_ble_eq_true rfl, Nat.le_of_ble_eq_true rfl⟩) hh rfl rfl [0] [1] [] rfl rfl rfl rfl (by decide) rfl rfl hl rfl (Nat.le_of_ble_eq_true rfl) dX6_silence_9 ⟨Nat.le_of_ble_eq_true rfl, (Nat.le_of_ble_eq_true rfl)⟩ (fun _ _ _ _ _ h => h.elim) (fun v w ty1 H locs hp hh => ?_)
  obtain ⟨rfl, rfl, rfl⟩ := hp
  have hh : kH D kStr e0 A s H [(q3, .inl (y7, 24, .inr (.inr (.inr (.inr (fun _ => none)))))), (q1, .inr (11, [.ref q2, .int 0, .ref q3, .int 0, .ref q4, .ref q5, .ref q6, .int 0]))] [(y7, .object "Segueworks$Piece")] _ := hh
  refine W.eq (g2 := F0 m 12 ls []) (by first | rfl | decide) ?_
  refine lv_aload_n hx hb dX6_silence_12 rfl (lv_at hl 0 rfl) ?_
  refine k_new (C := RX2) (T := TX2) (N := 9) (ci := 7) (fs := [.int 0, .null, .null, .null, .int 0, .int 0, .int 0, .null, .int 0]) hx hb hts ws_a14_X6_silence_2 tyX2 tyX2_ok hown (hts _ (wo_a14_X6_silence_in _ (List.mem_of_getElem? (i := 0) rfl))) (hts _ (wo_a14_X6_silence_in _ (List.mem_of_getElem? (i := 1) rfl))) (hts _ (wo_a14_X6_silence_in _ (List.mem_of_getElem? (i := 2) rfl))) hh rfl (fun j hj => by rcases (show j = 0 ∨ j = 1 ∨ j = 2 ∨ j = 3 ∨ j = 4 ∨ j = 5 ∨ j = 6 ∨ j = 7 ∨ j = 8 by omega) with rfl | rfl | rfl | rfl | rfl | rfl | rfl | rfl | rfl <;> rfl) (Nat.le_of_ble_eq_true rfl) (Nat.le_of_ble_eq_true rfl) dX6_silence_13 (fun q29 H hh => ?_)
  have hh : kH D kStr e0 A s H [(q3, .inl (y7, 24, .inr (.inr (.inr (.inr (fun _ => none)))))), (q1, .inr (11, [.ref q2, .int 0, .ref q3, .int 0, .ref q4, .ref q5, .ref q6, .int 0])), (q29, .inr (7, [.int 0, .null, .null, .null, .int 0, .int 0, .int 0, .null, .int 0]))] [(y7, .object "Segueworks$Piece")] _ := hh
  refine lv_dup hx hb dX6_silence_16 rfl ?_
  refine lv_bipush (v := 115) hx hb dX6_silence_17 (by decide) ?_
  refine lv_iload_n hx hb dX6_silence_19 rfl (lv_at hl 1 rfl) ?_
  refine lv_null hx hb dX6_silence_20 ?_
  refine lv_null hx hb dX6_silence_21 ?_
  refine lv_iconst (v := 0) hx hb dX6_silence_22 (by decide) ?_
  refine lv_iconst (v := 0) hx hb dX6_silence_23 (by decide) ?_
  refine lv_iconst (v := 0) hx hb dX6_silence_24 (by decide) ?_
  refine k_callI (wr := [(q3, .inl (y7, 24, .inr (.inr (.inr (.inr (fun _ => none)))))), (q1, .inr (11, [.ref q2, .int 0, .ref q3, .int 0, .ref q4, .ref q5, .ref q6, .int 0]))]) (rest := [.ref q29, .ref q1]) (own := RX6) ⟨hx, hb, hml, hown, hts⟩ (a10_X2_init l hst D e0 q29 ) (cwI 7 hts gi_a14_X6_silence_3 rfl rfl rfl (hts _ (wo_a14_X6_silence_in _ (List.mem_of_getElem? (i := 2) rfl))) (hts _ (wo_a14_X6_silence_in _ (List.mem_of_getElem? (i := 3) rfl))) (hts _ (wo_a14_X6_silence_in _ (List.mem_of_getElem? (i := 4) rfl))) rfl (by decide +kernel) ⟨Nat.le_of_ble_eq_true rfl, Nat.le_of_ble_eq_true rfl⟩) hh [2] [0, 1] [] rfl rfl rfl rfl (by decide) rfl rfl hl rfl (Nat.le_of_ble_eq_true rfl) dX6_silence_25 ⟨Nat.le_of_ble_eq_true rfl, (Nat.le_of_ble_eq_true rfl)⟩ (fun v w ty1 H locs hp hh => ?_)
  obtain ⟨q30, q31, y32, y33, rfl, rfl, rfl⟩ := hp
  have hh : kH D kStr e0 A s H [(q3, .inl (y7, 24, .inr (.inr (.inr (.inr (fun _ => none)))))), (q1, .inr (11, [.ref q2, .int 0, .ref q3, .int 0, .ref q4, .ref q5, .ref q6, .int 0])), (q29, .inr (7, [.int 115, .ref q30, .null, .null, .int 0, .int 0, .int 0, .ref q31, .int 0])), (q30, .inl (y32, 187, .inl (fun _ => 0))), (q31, .inl (y33, 0, .inl (fun _ => 0)))] [(y7, .object "Segueworks$Piece"), (y32, .int), (y33, .int)] _ := hh
  refine W.eq (g2 := F0 m 28 ls [.ref q29, .ref q1]) (by first | rfl | decide) ?_
  refine k_callV (C := RX6) (T := TX6) (N := 8) (ci := 11) (q0 := 1) (wr := []) (rest := []) (own := RX6) ⟨hx, hb, hml, hown, hts⟩ (a13_X6_keep l hst D e0 q1 q29 q2 q3 q4 q5 q6 q30 q31 y7 y32 y33 ) (cwV 1 hts gi_a14_X6_silence_4 rfl rfl rfl (by decide +kernel) ⟨Nat.le_of_ble_eq_true rfl, Nat.le_of_ble_eq_true rfl⟩) hh rfl rfl [1, 2, 0, 3, 4] [] [0, 1, 2] rfl rfl rfl rfl (by decide) rfl rfl hl rfl (Nat.le_of_ble_eq_true rfl) dX6_silence_28 ⟨Nat.le_of_ble_eq_true rfl, (Nat.le_of_ble_eq_true rfl)⟩ (fun _ _ _ _ _ h => h.elim) (fun v w ty1 H locs hp hh => ?_)
  obtain ⟨rfl, rfl, rfl⟩ := hp
  have hh : kH D kStr e0 A s H [(q1, .inr (11, [.ref q2, .int 0, .ref q3, .int 1, .ref q4, .ref q5, .ref q6, .int 0])), (q29, .inr (7, [.int 115, .ref q30, .null, .null, .int 0, .int 0, .int 0, .ref q31, .int 374])), (q3, .inl (y7, 24, .inr (.inr (.inr (.inr (va_up ((fun _ => none)) (0 : Int32).toNatClampNeg (some q29))))))), (q30, .inl (y32, 187, .inl (fun _ => 0))), (q31, .inl (y33, 0, .inl (fun _ => 0)))] [(y7, .object "Segueworks$Piece"), (y32, .int), (y33, .int), (y7, .object "Segueworks$Piece"), (y32, .int), (y33, .int)] _ := hh
  refine W.eq (g2 := F0 m 31 ls [.int 0]) (by first | rfl | decide) ?_
  exact k_endi hx hb hr hlocks hh ⟨q29, q30, q31, y32, rfl, rfl, rfl⟩ [0, 2, 1, 3] [0, 1] rfl rfl rfl (Nat.le_of_ble_eq_true rfl) (Nat.le_of_ble_eq_true rfl) dX6_silence_31
def wo_a15_L_silence : List Cond := []
def wk_a15_L_silence : List Cond := Cond.codeWith yL_silence cL_silence 4 (some .int) [(0, 9, 12, 21), (0, 9, 15, 13)] :: (wo_a15_L_silence ++ (wsV RL 35 RX6 yX6_silence wk_a14_X6_silence))
theorem wo_a15_L_silence_in : ∀ w ∈ wo_a15_L_silence, w ∈ wk_a15_L_silence := fun w h => List.mem_cons_of_mem _ (List.mem_append_left _ h)
theorem gi_a15_L_silence_0 : GoodIn wk_a15_L_silence (wsV RL 35 RX6 yX6_silence wk_a14_X6_silence) := fun w h => ⟨List.mem_cons_of_mem _ (List.mem_append_right _ h), good_of_word (kg_V gk_a14_X6_silence w h)⟩
theorem gk_a15_L_silence : ∀ w ∈ wk_a15_L_silence, goodWord w = true := List.forall_mem_cons.mpr ⟨rfl, (List.forall_mem_append.mpr ⟨(show ∀ w ∈ wo_a15_L_silence, goodWord w = true by decide +kernel), (kg_V gk_a14_X6_silence)⟩)⟩
set_option maxHeartbeats 4000000 in
set_option maxRecDepth 100000 in
theorem a15_L_silence (l : Launch) (hst : l.stackTraces = false) (D : va_G) (e0 : kE) (q1 : Nat) (q24 : Nat) (q2 : Nat) (q3 : Nat) (q4 : Nat) (q5 : Nat) (q6 : Nat) (y25 : ClassId) (f28 : Nat → Int64) (y7 : ClassId)  : kM l yL_silence wk_a15_L_silence 5 112 3 196 D kStr e0 [(y7, .object "Segueworks$Piece"), (y25, .long)] [(q1, .inr (11, [.ref q2, .int 0, .ref q3, .int 0, .ref q4, .ref q5, .ref q6, .int 0])), (q24, .inl (y25, 1, .inr (.inl f28))), (q3, .inl (y7, 24, .inr (.inr (.inr (.inr (fun _ => none))))))] [.ref q1, .int 187, .ref q24] (fun v w t => ∃ (q29 : Nat), ∃ (q30 : Nat), ∃ (q31 : Nat), ∃ (y32 : ClassId), v = some (.int 0) ∧ w = [(q1, .inr (11, [.ref q2, .int 0, .ref q3, .int 1, .ref q4, .ref q5, .ref q6, .int 0])), (q24, .inl (y25, 1, .inr (.inl (vp_updL (f28) (0 : Int32).toNatClampNeg 0)))), (q3, .inl (y7, 24, .inr (.inr (.inr (.inr (va_up ((fun _ => none)) (0 : Int32).toNatClampNeg (some q29))))))), (q29, .inr (7, [.int 115, .ref q30, .null, .null, .int 0, .int 0, .int 0, .ref q31, .int 374])), (q30, .inl (y32, 187, .inl (fun _ => 0)))] ∧ t = [(y25, .long), (y7, .object "Segueworks$Piece"), (y32, .int)]) (fun _ => False) := by
  refine k_ofX (cc := cL_silence) (maxL := 4) (ret := (some .int)) (hhs := [(0, 9, 12, 21), (0, 9, 15, 13)]) (by decide) rfl (Nat.le_of_ble_eq_true rfl) ?_
  intro p e s m args below meth c A ls hx hb hr hts hown hlocks hml hex hh hl
  have hown : s.vm.findClass RL = some m.cls := hown
  have hl : lv_has ls 4 [(0, .ref q1), (1, .int 187), (2, .ref q24)] := hl
  refine lv_aload_n hx hb dL_silence_0 rfl (lv_at hl 2 rfl) ?_
  refine lv_iconst (v := 0) hx hb dL_silence_1 (by decide) ?_
  refine lv_aload_n hx hb dL_silence_2 rfl (lv_at hl 0 rfl) ?_
  refine lv_iload_n hx hb dL_silence_3 rfl (lv_at hl 1 rfl) ?_
  refine k_callV (C := RX6) (T := TX6) (N := 8) (ci := 11) (q0 := 0) (wr := [(q24, .inl (y25, 1, .inr (.inl f28)))]) (rest := [.int 0, .ref q24]) (own := RL) ⟨hx, hb, hml, hown, hts⟩ (a14_X6_silence l hst D e0 q1 q2 q3 q4 q5 q6 y7 ) (cwV 1 hts gi_a15_L_silence_0 rfl rfl rfl (by decide +kernel) ⟨Nat.le_of_ble_eq_true rfl, Nat.le_of_ble_eq_true rfl⟩) hh rfl rfl [0, 2] [1] [0] rfl rfl rfl rfl (by decide) rfl rfl hl rfl (Nat.le_of_ble_eq_true rfl) dL_silence_4 ⟨Nat.le_of_ble_eq_true rfl, (Nat.le_of_ble_eq_true rfl)⟩ (fun _ _ _ _ _ h => h.elim) (fun v w ty1 H locs hp hh => ?_)
  obtain ⟨q29, q30, q31, y32, rfl, rfl, rfl⟩ := hp
  have hh : kH D kStr e0 A s H [(q24, .inl (y25, 1, .inr (.inl f28))), (q1, .inr (11, [.ref q2, .int 0, .ref q3, .int 1, .ref q4, .ref q5, .ref q6, .int 0])), (q3, .inl (y7, 24, .inr (.inr (.inr (.inr (va_up ((fun _ => none)) (0 : Int32).toNatClampNeg (some q29))))))), (q29, .inr (7, [.int 115, .ref q30, .null, .null, .int 0, .int 0, .int 0, .ref q31, .int 374])), (q30, .inl (y32, 187, .inl (fun _ => 0)))] [(y7, .object "Segueworks$Piece"), (y25, .long), (y7, .object "Segueworks$Piece"), (y32, .int)] _ := hh
  refine W.eq (g2 := F0 m 7 ls [.int 0, .int 0, .ref q24]) (by first | rfl | decide) ?_
  refine lv_i2l (v := 0) hx hb dL_silence_7 (by decide) ?_
  refine k_last (ws' := [(q24, .inl (y25, 1, .inr (.inl (vp_updL (f28) (0 : Int32).toNatClampNeg 0)))), (q1, .inr (11, [.ref q2, .int 0, .ref q3, .int 1, .ref q4, .ref q5, .ref q6, .int 0])), (q3, .inl (y7, 24, .inr (.inr (.inr (.inr (va_up ((fun _ => none)) (0 : Int32).toNatClampNeg (some q29))))))), (q29, .inr (7, [.int 115, .ref q30, .null, .null, .int 0, .int 0, .int 0, .ref q31, .int 374])), (q30, .inl (y32, 187, .inl (fun _ => 0)))]) hx hb hh 0 1 rfl rfl (by unfold vp_in; decide) dL_silence_8 rfl (fun H locs hh => ?_)
  refine lv_goto (tgt := 18) hx hb dL_silence_9 (by decide) ?_
  refine lv_iconst (v := 0) hx hb dL_silence_18 (by decide) ?_
  exact k_endi hx hb hr hlocks hh ⟨q29, q30, q31, y32, rfl, rfl, rfl⟩ [1, 0, 2, 3, 4] [1, 0, 3] rfl rfl rfl (Nat.le_of_ble_eq_true rfl) (Nat.le_of_ble_eq_true rfl) dL_silence_19
def wo_a16_X11_in : List Cond := []
def wk_a16_X11_in : List Cond := Cond.code yX11_in cX11_in 6 (some .boolean) :: wo_a16_X11_in
theorem wo_a16_X11_in_in : ∀ w ∈ wo_a16_X11_in, w ∈ wk_a16_X11_in := fun w h => List.mem_cons_of_mem _ h
theorem gk_a16_X11_in : ∀ w ∈ wk_a16_X11_in, goodWord w = true := List.forall_mem_cons.mpr ⟨rfl, (show ∀ w ∈ wo_a16_X11_in, goodWord w = true by decide +kernel)⟩
set_option maxHeartbeats 4000000 in
set_option maxRecDepth 100000 in
theorem a16_X11_in (l : Launch) (hst : l.stackTraces = false) (D : va_G) (e0 : kE)   : kM l yX11_in wk_a16_X11_in 0 0 0 0 D kStr e0 [] [] [.long 187, .long 1, .long 200] (fun v w t => v = some (.int 1) ∧ w = [] ∧ t = []) (fun _ => False) := by
  refine k_of (cc := cX11_in) (maxL := 6) (ret := (some .boolean)) (by decide) rfl (Nat.le_of_ble_eq_true rfl) ?_
  intro p e s m args below meth c A ls hx hb hr hts hown hlocks hml hex hh hl
  have hown : s.vm.findClass RX11 = some m.cls := hown
  have hl : lv_has ls 6 [(0, .long 187), (2, .long 1), (4, .long 200)] := hl
  refine lv_lload_n hx hb dX11_in_0 rfl (lv_at hl 0 rfl) ?_
  refine lv_lload_n hx hb dX11_in_1 rfl (lv_at hl 1 rfl) ?_
  refine W.lcmp hx hb dX11_in_2 ?_
  refine W.eq (g2 := F0 m 3 ls [.int 1]) (by rw [show lg_cmp (187 : Int64) (1 : Int64) = 1 from by decide]) ?_
  refine lv_if_lt (tgt := 17) hx hb dX11_in_3 (by decide) (fun c_3 => absurd c_3 (by decide)) (fun _ => ?_)
  refine lv_lload_n hx hb dX11_in_6 rfl (lv_at hl 0 rfl) ?_
  refine lv_lload hx hb dX11_in_7 (lv_at hl 2 rfl) ?_
  refine W.lcmp hx hb dX11_in_9 ?_
  refine W.eq (g2 := F0 m 10 ls [.int (-1)]) (by rw [show lg_cmp (187 : Int64) (200 : Int64) = (-1) from by decide]) ?_
  refine lv_if_gt (tgt := 17) hx hb dX11_in_10 (by decide) (fun c_10 => absurd c_10 (by decide)) (fun _ => ?_)
  refine lv_iconst (v := 1) hx hb dX11_in_13 (by decide) ?_
  refine lv_goto (tgt := 18) hx hb dX11_in_14 (by decide) ?_
  exact k_endz (ty := .boolean) (by decide) hx hb hr hlocks hh ⟨rfl, rfl, rfl⟩ [] [] rfl rfl rfl (Nat.le_of_ble_eq_true rfl) (Nat.le_of_ble_eq_true rfl) dX11_in_18
def wo_a17_Jx4a65c_size_8abf5 : List Cond := [Cond.fieldLink RJx4a65c 48 "java/util/ArrayList" "size" "I"]
def wk_a17_Jx4a65c_size_8abf5 : List Cond := Cond.code yJx4a65c_size_8abf5 cJx4a65c_size_8abf5 1 (some .int) :: (wo_a17_Jx4a65c_size_8abf5 ++ (u_ws RJx4a65c TJx4a65c 3))
theorem wo_a17_Jx4a65c_size_8abf5_in : ∀ w ∈ wo_a17_Jx4a65c_size_8abf5, w ∈ wk_a17_Jx4a65c_size_8abf5 := fun w h => List.mem_cons_of_mem _ (List.mem_append_left _ h)
theorem ws_a17_Jx4a65c_size_8abf5_0 : ∀ w ∈ u_ws RJx4a65c TJx4a65c 3, w ∈ wk_a17_Jx4a65c_size_8abf5 := fun w h => List.mem_cons_of_mem _ (List.mem_append_right _ h)
theorem gk_a17_Jx4a65c_size_8abf5 : ∀ w ∈ wk_a17_Jx4a65c_size_8abf5, goodWord w = true := List.forall_mem_cons.mpr ⟨rfl, (List.forall_mem_append.mpr ⟨(show ∀ w ∈ wo_a17_Jx4a65c_size_8abf5, goodWord w = true by decide +kernel), (show ∀ w ∈ u_ws RJx4a65c TJx4a65c 3, goodWord w = true by decide +kernel)⟩)⟩
set_option maxHeartbeats 4000000 in
set_option maxRecDepth 100000 in
theorem a17_Jx4a65c_size_8abf5 (l : Launch) (hst : l.stackTraces = false) (D : va_G) (e0 : kE) (q17 : Nat)  : kM l yJx4a65c_size_8abf5 wk_a17_Jx4a65c_size_8abf5 0 0 0 0 D kStr e0 [] [(q17, .inr (4, [.int 0, .ref e0.1, .int 0]))] [.ref q17] (fun v w t => v = some (.int 0) ∧ w = [(q17, .inr (4, [.int 0, .ref e0.1, .int 0]))] ∧ t = []) (fun _ => False) := by
  refine k_of (cc := cJx4a65c_size_8abf5) (maxL := 1) (ret := (some .int)) (by decide) rfl (Nat.le_of_ble_eq_true rfl) ?_
  intro p e s m args below meth c A ls hx hb hr hts hown hlocks hml hex hh hl
  have hown : s.vm.findClass RJx4a65c = some m.cls := hown
  have hl : lv_has ls 1 [(0, .ref q17)] := hl
  refine lv_aload_n hx hb dJx4a65c_size_8abf5_0 rfl (lv_at hl 0 rfl) ?_
  refine k_get (C := RJx4a65c) (T := TJx4a65c) (N := 3) (ci := 4) (v := .int 0) hx hb hts ws_a17_Jx4a65c_size_8abf5_0 hown hh 0 rfl rfl 2 (by decide) (hts _ (wo_a17_Jx4a65c_size_8abf5_in _ (List.mem_of_getElem? (i := 0) rfl))) rfl dJx4a65c_size_8abf5_1 ?_
  exact k_endi hx hb hr hlocks hh ⟨rfl, rfl, rfl⟩ [0] [] rfl rfl rfl (Nat.le_of_ble_eq_true rfl) (Nat.le_of_ble_eq_true rfl) dJx4a65c_size_8abf5_4
def wo_a18_X9_init : List Cond := [Cond.methodLink RX9 1 objectInit, Cond.instanceMethod objectInit, Cond.code objectInit ⟨#[0xb1]⟩ 1 none, Cond.fieldLink RX9 7 "SegueworksModel$Piece" "kind" "C", Cond.fieldLink RX9 13 "SegueworksModel$Piece" "row" "[I"]
def wk_a18_X9_init : List Cond := Cond.code yX9_init cX9_init 3 none :: (wo_a18_X9_init ++ (u_ws RX9 TX9 2))
theorem wo_a18_X9_init_in : ∀ w ∈ wo_a18_X9_init, w ∈ wk_a18_X9_init := fun w h => List.mem_cons_of_mem _ (List.mem_append_left _ h)
theorem ws_a18_X9_init_0 : ∀ w ∈ u_ws RX9 TX9 2, w ∈ wk_a18_X9_init := fun w h => List.mem_cons_of_mem _ (List.mem_append_right _ h)
theorem gk_a18_X9_init : ∀ w ∈ wk_a18_X9_init, goodWord w = true := List.forall_mem_cons.mpr ⟨rfl, (List.forall_mem_append.mpr ⟨(show ∀ w ∈ wo_a18_X9_init, goodWord w = true by decide +kernel), (show ∀ w ∈ u_ws RX9 TX9 2, goodWord w = true by decide +kernel)⟩)⟩
set_option maxHeartbeats 4000000 in
set_option maxRecDepth 100000 in
theorem a18_X9_init (l : Launch) (hst : l.stackTraces = false) (D : va_G) (e0 : kE) (q35 : Nat) (q33 : Nat)  : kI l yX9_init wk_a18_X9_init 1 20 0 0 D kStr e0 [] [(q35, .inr (14, [.int 0, .null]))] [.ref q35, .int 115, .ref q33] (fun v w t => v = none ∧ w = [(q35, .inr (14, [.int 115, .ref q33]))] ∧ t = []) := by
  refine k_ofI (cc := cX9_init) (maxL := 3) (ret := none) (by decide) rfl (Nat.le_of_ble_eq_true rfl) ?_
  intro p e s m args below meth c A ls hx hb hr hts hown hlocks hml hin hh hl
  have hown : s.vm.findClass RX9 = some m.cls := hown
  have hl : lv_has ls 3 [(0, .ref q35), (1, .int 115), (2, .ref q33)] := hl
  have hin : meth.name = "<init>" := hin
  refine lv_aload_n hx hb dX9_init_0 rfl (lv_at hl 0 rfl) ?_
  refine W.objInit hx hb hown (hts _ (wo_a18_X9_init_in _ (List.mem_of_getElem? (i := 0) rfl))) (hts _ (wo_a18_X9_init_in _ (List.mem_of_getElem? (i := 1) rfl))) (hts _ (wo_a18_X9_init_in _ (List.mem_of_getElem? (i := 2) rfl))) rfl (by rw [hml]; exact hl.1) rfl dX9_init_1 (Nat.le_of_ble_eq_true rfl) (Nat.le_of_ble_eq_true rfl) ?_
  refine W.eq (g2 := F0 m 4 ls []) rfl ?_
  refine lv_aload_n hx hb dX9_init_4 rfl (lv_at hl 0 rfl) ?_
  refine lv_iload_n hx hb dX9_init_5 rfl (lv_at hl 1 rfl) ?_
  refine k_putF (C := RX9) (T := TX9) (N := 2) (ci := 14) (v := .int 115) (ws' := [(q35, .inr (14, [.int 115, .null]))]) hx hb hts ws_a18_X9_init_0 tyX9 tyX9_ok nmX9 hown hh 0 rfl rfl 0 (by decide) (hts _ (wo_a18_X9_init_in _ (List.mem_of_getElem? (i := 3) rfl))) rfl hin rfl rfl rfl (Nat.le_of_ble_eq_true rfl) dX9_init_6 rfl (fun H locs hh => ?_)
  refine lv_aload_n hx hb dX9_init_9 rfl (lv_at hl 0 rfl) ?_
  refine lv_aload_n hx hb dX9_init_10 rfl (lv_at hl 2 rfl) ?_
  refine k_putF (C := RX9) (T := TX9) (N := 2) (ci := 14) (v := .ref q33) (ws' := [(q35, .inr (14, [.int 115, .ref q33]))]) hx hb hts ws_a18_X9_init_0 tyX9 tyX9_ok nmX9 hown hh 0 rfl rfl 1 (by decide) (hts _ (wo_a18_X9_init_in _ (List.mem_of_getElem? (i := 4) rfl))) rfl hin rfl rfl rfl (Nat.le_of_ble_eq_true rfl) dX9_init_11 rfl (fun H locs hh => ?_)
  exact k_endV hx hb hr hlocks hh ⟨rfl, rfl, rfl⟩ [0] [] rfl rfl rfl (Nat.le_of_ble_eq_true rfl) (Nat.le_of_ble_eq_true rfl) dX9_init_14
def wo_a19_Jx4a65c_grow_92f84 : List Cond := [Cond.fieldLink RJx4a65c 9 "java/util/ArrayList" "elementData" "[Ljava/lang/Object;", Cond.fieldLink RJx4a65c 39 "java/util/ArrayList" "DEFAULTCAPACITY_EMPTY_ELEMENTDATA" "[Ljava/lang/Object;", Cond.methodLink RJx4a65c 79 Lib.Math.max.name, Cond.static Lib.Math.max.name, Cond.initialized "java/lang/Math", Cond.code Lib.Math.max.name Lib.Math.max.code 2 (some .int), Cond.classLink RJx4a65c 7 "java/lang/Object"]
def wk_a19_Jx4a65c_grow_92f84 : List Cond := Cond.code yJx4a65c_grow_92f84 cJx4a65c_grow_92f84 4 (some (.array (.object "java/lang/Object"))) :: (wo_a19_Jx4a65c_grow_92f84 ++ (u_ws RJx4a65c TJx4a65c 3))
theorem wo_a19_Jx4a65c_grow_92f84_in : ∀ w ∈ wo_a19_Jx4a65c_grow_92f84, w ∈ wk_a19_Jx4a65c_grow_92f84 := fun w h => List.mem_cons_of_mem _ (List.mem_append_left _ h)
theorem ws_a19_Jx4a65c_grow_92f84_0 : ∀ w ∈ u_ws RJx4a65c TJx4a65c 3, w ∈ wk_a19_Jx4a65c_grow_92f84 := fun w h => List.mem_cons_of_mem _ (List.mem_append_right _ h)
theorem gk_a19_Jx4a65c_grow_92f84 : ∀ w ∈ wk_a19_Jx4a65c_grow_92f84, goodWord w = true := List.forall_mem_cons.mpr ⟨rfl, (List.forall_mem_append.mpr ⟨(show ∀ w ∈ wo_a19_Jx4a65c_grow_92f84, goodWord w = true by decide +kernel), (show ∀ w ∈ u_ws RJx4a65c TJx4a65c 3, goodWord w = true by decide +kernel)⟩)⟩
set_option maxHeartbeats 4000000 in
set_option maxRecDepth 100000 in
theorem a19_Jx4a65c_grow_92f84 (l : Launch) (hst : l.stackTraces = false) (D : va_G) (e0 : kE) (q17 : Nat)  : kM l yJx4a65c_grow_92f84 wk_a19_Jx4a65c_grow_92f84 1 29 1 10 D kStr e0 [] [(q17, .inr (4, [.int 1, .ref e0.1, .int 0]))] [.ref q17, .int 1] (fun v w t => ∃ (q36 : Nat), ∃ (y37 : ClassId), v = some (.ref q36) ∧ w = [(q17, .inr (4, [.int 1, .ref q36, .int 0])), (q36, .inl (y37, 10, .inr (.inr (.inr (.inr (fun _ => none))))))] ∧ t = [(y37, .object "java/lang/Object")]) (fun _ => False) := by
  refine k_of (cc := cJx4a65c_grow_92f84) (maxL := 4) (ret := (some (.array (.object "java/lang/Object")))) (by decide) rfl (Nat.le_of_ble_eq_true rfl) ?_
  intro p e s m args below meth c A ls hx hb hr hts hown hlocks hml hex hh hl
  have hown : s.vm.findClass RJx4a65c = some m.cls := hown
  have hl : lv_has ls 4 [(0, .ref q17), (1, .int 1)] := hl
  refine lv_aload_n hx hb dJx4a65c_grow_92f84_0 rfl (lv_at hl 0 rfl) ?_
  refine k_get (C := RJx4a65c) (T := TJx4a65c) (N := 3) (ci := 4) (v := .ref e0.1) hx hb hts ws_a19_Jx4a65c_grow_92f84_0 hown hh 0 rfl rfl 1 (by decide) (hts _ (wo_a19_Jx4a65c_grow_92f84_in _ (List.mem_of_getElem? (i := 0) rfl))) rfl dJx4a65c_grow_92f84_1 ?_
  refine va_tlen (v := 0) hx hb hh.2.2.2.2.2.2.2.2.1 hh.2.2.2.1 (by decide) dJx4a65c_grow_92f84_4 ?_
  refine lv_istore_n (lv' := [(2, .int 0), (0, .ref q17), (1, .int 1)]) hx hb dJx4a65c_grow_92f84_5 rfl hl (by decide) rfl (fun ls hl => ?_)
  refine lv_iload_n hx hb dJx4a65c_grow_92f84_6 rfl (lv_at hl 0 rfl) ?_
  refine lv_if_gt (tgt := 20) hx hb dJx4a65c_grow_92f84_7 (by decide) (fun c_7 => absurd c_7 (by decide)) (fun _ => ?_)
  refine lv_aload_n hx hb dJx4a65c_grow_92f84_10 rfl (lv_at hl 1 rfl) ?_
  refine k_get (C := RJx4a65c) (T := TJx4a65c) (N := 3) (ci := 4) (v := .ref e0.1) hx hb hts ws_a19_Jx4a65c_grow_92f84_0 hown hh 0 rfl rfl 1 (by decide) (hts _ (wo_a19_Jx4a65c_grow_92f84_in _ (List.mem_of_getElem? (i := 0) rfl))) rfl dJx4a65c_grow_92f84_11 ?_
  refine va_gets hx hb hh.2.2.2.2.2.2.2.1 hh.2.2.2.1 hown (hts _ (wo_a19_Jx4a65c_grow_92f84_in _ (List.mem_of_getElem? (i := 1) rfl))) (fun _ h => h) dJx4a65c_grow_92f84_14 ?_
  refine lv_acmp_eq (rx := some e0.1) (ry := some e0.1) (tgt := 45) hx hb dJx4a65c_grow_92f84_17 (by decide) (fun _ => ?_) (fun c => absurd rfl c)
  refine lv_aload_n hx hb dJx4a65c_grow_92f84_45 rfl (lv_at hl 1 rfl) ?_
  refine lv_bipush (v := 10) hx hb dJx4a65c_grow_92f84_46 (by decide) ?_
  refine lv_iload_n hx hb dJx4a65c_grow_92f84_48 rfl (lv_at hl 2 rfl) ?_
  refine va_mmax hx hb (by rw [hml]; exact hl.1.symm) hown (hts _ (wo_a19_Jx4a65c_grow_92f84_in _ (List.mem_of_getElem? (i := 2) rfl))) (hts _ (wo_a19_Jx4a65c_grow_92f84_in _ (List.mem_of_getElem? (i := 3) rfl))) (hts _ (wo_a19_Jx4a65c_grow_92f84_in _ (List.mem_of_getElem? (i := 4) rfl))) (hts _ (wo_a19_Jx4a65c_grow_92f84_in _ (List.mem_of_getElem? (i := 5) rfl))) (Nat.le_of_ble_eq_true rfl) (Nat.le_of_ble_eq_true rfl) (Nat.le_of_ble_eq_true rfl) (Nat.le_of_ble_eq_true rfl) dJx4a65c_grow_92f84_49 ?_
  refine W.eq (g2 := F0 m 52 ls [.int 10, .ref q17]) (by first | rfl | decide) ?_
  refine k_newq (C := "java/lang/Object") (N' := 10) hx hb hown (hts _ (wo_a19_Jx4a65c_grow_92f84_in _ (List.mem_of_getElem? (i := 6) rfl))) (by decide) hh (by decide) (by decide) (Nat.le_of_ble_eq_true rfl) (Nat.le_of_ble_eq_true rfl) (Nat.le_of_ble_eq_true rfl) dJx4a65c_grow_92f84_52 (fun q36 y37 H hh => ?_)
  have hh : kH D kStr e0 A s H [(q17, .inr (4, [.int 1, .ref e0.1, .int 0])), (q36, .inl (y37, 10, .inr (.inr (.inr (.inr (fun _ => none))))))] [(y37, .object "java/lang/Object")] _ := hh
  refine lv_dup_x1 hx hb dJx4a65c_grow_92f84_55 rfl rfl ?_
  refine k_put (C := RJx4a65c) (T := TJx4a65c) (N := 3) (ci := 4) (v := .ref q36) (ws' := [(q17, .inr (4, [.int 1, .ref q36, .int 0])), (q36, .inl (y37, 10, .inr (.inr (.inr (.inr (fun _ => none))))))]) hx hb hts ws_a19_Jx4a65c_grow_92f84_0 tyJx4a65c tyJx4a65c_ok nmJx4a65c hown hh 0 rfl rfl 1 (by decide) (hts _ (wo_a19_Jx4a65c_grow_92f84_in _ (List.mem_of_getElem? (i := 0) rfl))) rfl rfl rfl (Nat.le_of_ble_eq_true rfl) dJx4a65c_grow_92f84_56 rfl (fun H locs hh => ?_)
  exact k_enda (by first | exact Or.inl ⟨_, rfl⟩ | exact Or.inr ⟨_, rfl⟩) (by first | exact Or.inr ⟨_, rfl⟩ | exact Or.inl rfl) hx hb hr hlocks hh ⟨q36, y37, rfl, rfl, rfl⟩ [0, 1] [0] rfl rfl rfl (Nat.le_of_ble_eq_true rfl) (Nat.le_of_ble_eq_true rfl) dJx4a65c_grow_92f84_59
def wo_a20_Jx4a65c_grow_d5877 : List Cond := [Cond.fieldLink RJx4a65c 48 "java/util/ArrayList" "size" "I"]
def wk_a20_Jx4a65c_grow_d5877 : List Cond := Cond.code yJx4a65c_grow_d5877 cJx4a65c_grow_d5877 1 (some (.array (.object "java/lang/Object"))) :: (wo_a20_Jx4a65c_grow_d5877 ++ ((u_ws RJx4a65c TJx4a65c 3) ++ (wsV RJx4a65c 69 RJx4a65c yJx4a65c_grow_92f84 wk_a19_Jx4a65c_grow_92f84)))
theorem wo_a20_Jx4a65c_grow_d5877_in : ∀ w ∈ wo_a20_Jx4a65c_grow_d5877, w ∈ wk_a20_Jx4a65c_grow_d5877 := fun w h => List.mem_cons_of_mem _ (List.mem_append_left _ h)
theorem ws_a20_Jx4a65c_grow_d5877_0 : ∀ w ∈ u_ws RJx4a65c TJx4a65c 3, w ∈ wk_a20_Jx4a65c_grow_d5877 := fun w h => List.mem_cons_of_mem _ (List.mem_append_right _ (List.mem_append_left _ h))
theorem gi_a20_Jx4a65c_grow_d5877_1 : GoodIn wk_a20_Jx4a65c_grow_d5877 (wsV RJx4a65c 69 RJx4a65c yJx4a65c_grow_92f84 wk_a19_Jx4a65c_grow_92f84) := fun w h => ⟨List.mem_cons_of_mem _ (List.mem_append_right _ (List.mem_append_right _ h)), good_of_word (kg_V gk_a19_Jx4a65c_grow_92f84 w h)⟩
theorem gk_a20_Jx4a65c_grow_d5877 : ∀ w ∈ wk_a20_Jx4a65c_grow_d5877, goodWord w = true := List.forall_mem_cons.mpr ⟨rfl, (List.forall_mem_append.mpr ⟨(show ∀ w ∈ wo_a20_Jx4a65c_grow_d5877, goodWord w = true by decide +kernel), (List.forall_mem_append.mpr ⟨(show ∀ w ∈ u_ws RJx4a65c TJx4a65c 3, goodWord w = true by decide +kernel), (kg_V gk_a19_Jx4a65c_grow_92f84)⟩)⟩)⟩
set_option maxHeartbeats 4000000 in
set_option maxRecDepth 100000 in
theorem a20_Jx4a65c_grow_d5877 (l : Launch) (hst : l.stackTraces = false) (D : va_G) (e0 : kE) (q17 : Nat)  : kM l yJx4a65c_grow_d5877 wk_a20_Jx4a65c_grow_d5877 2 52 1 10 D kStr e0 [] [(q17, .inr (4, [.int 1, .ref e0.1, .int 0]))] [.ref q17] (fun v w t => ∃ (q36 : Nat), ∃ (y37 : ClassId), v = some (.ref q36) ∧ w = [(q17, .inr (4, [.int 1, .ref q36, .int 0])), (q36, .inl (y37, 10, .inr (.inr (.inr (.inr (fun _ => none))))))] ∧ t = [(y37, .object "java/lang/Object")]) (fun _ => False) := by
  refine k_of (cc := cJx4a65c_grow_d5877) (maxL := 1) (ret := (some (.array (.object "java/lang/Object")))) (by decide) rfl (Nat.le_of_ble_eq_true rfl) ?_
  intro p e s m args below meth c A ls hx hb hr hts hown hlocks hml hex hh hl
  have hown : s.vm.findClass RJx4a65c = some m.cls := hown
  have hl : lv_has ls 1 [(0, .ref q17)] := hl
  refine lv_aload_n hx hb dJx4a65c_grow_d5877_0 rfl (lv_at hl 0 rfl) ?_
  refine lv_aload_n hx hb dJx4a65c_grow_d5877_1 rfl (lv_at hl 0 rfl) ?_
  refine k_get (C := RJx4a65c) (T := TJx4a65c) (N := 3) (ci := 4) (v := .int 0) hx hb hts ws_a20_Jx4a65c_grow_d5877_0 hown hh 0 rfl rfl 2 (by decide) (hts _ (wo_a20_Jx4a65c_grow_d5877_in _ (List.mem_of_getElem? (i := 0) rfl))) rfl dJx4a65c_grow_d5877_2 ?_
  refine lv_iconst (v := 1) hx hb dJx4a65c_grow_d5877_5 (by decide) ?_
  refine lv_iadd hx hb dJx4a65c_grow_d5877_6 ?_
  refine W.eq (g2 := F0 m 7 ls [.int 1, .ref q17]) (by first | rfl | decide) ?_
  refine k_callV (C := RJx4a65c) (T := TJx4a65c) (N := 3) (ci := 4) (q0 := 0) (wr := []) (rest := []) (own := RJx4a65c) ⟨hx, hb, hml, hown, hts⟩ (a19_Jx4a65c_grow_92f84 l hst D e0 q17 ) (cwV 1 hts gi_a20_Jx4a65c_grow_d5877_1 rfl rfl rfl (by decide +kernel) ⟨Nat.le_of_ble_eq_true rfl, Nat.le_of_ble_eq_true rfl⟩) hh rfl rfl [0] [] [] rfl rfl rfl rfl (by decide) rfl rfl hl rfl (Nat.le_of_ble_eq_true rfl) dJx4a65c_grow_d5877_7 ⟨Nat.le_of_ble_eq_true rfl, (Nat.le_of_ble_eq_true rfl)⟩ (fun _ _ _ _ _ h => h.elim) (fun v w ty1 H locs hp hh => ?_)
  obtain ⟨q36, y37, rfl, rfl, rfl⟩ := hp
  have hh : kH D kStr e0 A s H [(q17, .inr (4, [.int 1, .ref q36, .int 0])), (q36, .inl (y37, 10, .inr (.inr (.inr (.inr (fun _ => none))))))] [(y37, .object "java/lang/Object")] _ := hh
  refine W.eq (g2 := F0 m 10 ls [.ref q36]) (by first | rfl | decide) ?_
  exact k_enda (by first | exact Or.inl ⟨_, rfl⟩ | exact Or.inr ⟨_, rfl⟩) (by first | exact Or.inr ⟨_, rfl⟩ | exact Or.inl rfl) hx hb hr hlocks hh ⟨q36, y37, rfl, rfl, rfl⟩ [0, 1] [0] rfl rfl rfl (Nat.le_of_ble_eq_true rfl) (Nat.le_of_ble_eq_true rfl) dJx4a65c_grow_d5877_10
def wo_a21_Jx4a65c_add_72be8 : List Cond := [Cond.fieldLink RJx4a65c 48 "java/util/ArrayList" "size" "I"]
def wk_a21_Jx4a65c_add_72be8 : List Cond := Cond.code yJx4a65c_add_72be8 cJx4a65c_add_72be8 4 none :: (wo_a21_Jx4a65c_add_72be8 ++ ((wsV RJx4a65c 129 RJx4a65c yJx4a65c_grow_d5877 wk_a20_Jx4a65c_grow_d5877) ++ (u_ws RJx4a65c TJx4a65c 3)))
theorem wo_a21_Jx4a65c_add_72be8_in : ∀ w ∈ wo_a21_Jx4a65c_add_72be8, w ∈ wk_a21_Jx4a65c_add_72be8 := fun w h => List.mem_cons_of_mem _ (List.mem_append_left _ h)
theorem gi_a21_Jx4a65c_add_72be8_0 : GoodIn wk_a21_Jx4a65c_add_72be8 (wsV RJx4a65c 129 RJx4a65c yJx4a65c_grow_d5877 wk_a20_Jx4a65c_grow_d5877) := fun w h => ⟨List.mem_cons_of_mem _ (List.mem_append_right _ (List.mem_append_left _ h)), good_of_word (kg_V gk_a20_Jx4a65c_grow_d5877 w h)⟩
theorem ws_a21_Jx4a65c_add_72be8_1 : ∀ w ∈ u_ws RJx4a65c TJx4a65c 3, w ∈ wk_a21_Jx4a65c_add_72be8 := fun w h => List.mem_cons_of_mem _ (List.mem_append_right _ (List.mem_append_right _ h))
theorem gk_a21_Jx4a65c_add_72be8 : ∀ w ∈ wk_a21_Jx4a65c_add_72be8, goodWord w = true := List.forall_mem_cons.mpr ⟨rfl, (List.forall_mem_append.mpr ⟨(show ∀ w ∈ wo_a21_Jx4a65c_add_72be8, goodWord w = true by decide +kernel), (List.forall_mem_append.mpr ⟨(kg_V gk_a20_Jx4a65c_grow_d5877), (show ∀ w ∈ u_ws RJx4a65c TJx4a65c 3, goodWord w = true by decide +kernel)⟩)⟩)⟩
set_option maxHeartbeats 4000000 in
set_option maxRecDepth 100000 in
theorem a21_Jx4a65c_add_72be8 (l : Launch) (hst : l.stackTraces = false) (D : va_G) (e0 : kE) (q17 : Nat) (q35 : Nat) (q33 : Nat)  : kM l yJx4a65c_add_72be8 wk_a21_Jx4a65c_add_72be8 3 72 1 10 D kStr e0 [] [(q17, .inr (4, [.int 1, .ref e0.1, .int 0])), (q35, .inr (14, [.int 115, .ref q33]))] [.ref q17, .ref q35, .ref e0.1, .int 0] (fun v w t => ∃ (q36 : Nat), ∃ (y37 : ClassId), v = none ∧ w = [(q17, .inr (4, [.int 1, .ref q36, .int 1])), (q35, .inr (14, [.int 115, .ref q33])), (q36, .inl (y37, 10, .inr (.inr (.inr (.inr (va_up ((fun _ => none)) (0 : Int32).toNatClampNeg (some q35)))))))] ∧ t = [(y37, .object "java/lang/Object")]) (fun _ => False) := by
  refine k_of (cc := cJx4a65c_add_72be8) (maxL := 4) (ret := none) (by decide) rfl (Nat.le_of_ble_eq_true rfl) ?_
  intro p e s m args below meth c A ls hx hb hr hts hown hlocks hml hex hh hl
  have hown : s.vm.findClass RJx4a65c = some m.cls := hown
  have hl : lv_has ls 4 [(0, .ref q17), (1, .ref q35), (2, .ref e0.1), (3, .int 0)] := hl
  refine lv_iload_n hx hb dJx4a65c_add_72be8_0 rfl (lv_at hl 3 rfl) ?_
  refine lv_aload_n hx hb dJx4a65c_add_72be8_1 rfl (lv_at hl 2 rfl) ?_
  refine va_tlen (v := 0) hx hb hh.2.2.2.2.2.2.2.2.1 hh.2.2.2.1 (by decide) dJx4a65c_add_72be8_2 ?_
  refine lv_icmp_ne (tgt := 11) hx hb dJx4a65c_add_72be8_3 (by decide) (fun c_3 => absurd (by decide) c_3) (fun _ => ?_)
  refine lv_aload_n hx hb dJx4a65c_add_72be8_6 rfl (lv_at hl 0 rfl) ?_
  refine k_callV (C := RJx4a65c) (T := TJx4a65c) (N := 3) (ci := 4) (q0 := 0) (wr := [(q35, .inr (14, [.int 115, .ref q33]))]) (rest := []) (own := RJx4a65c) ⟨hx, hb, hml, hown, hts⟩ (a20_Jx4a65c_grow_d5877 l hst D e0 q17 ) (cwV 0 hts gi_a21_Jx4a65c_add_72be8_0 rfl rfl rfl (by decide +kernel) ⟨Nat.le_of_ble_eq_true rfl, Nat.le_of_ble_eq_true rfl⟩) hh rfl rfl [0] [1] [] rfl rfl rfl rfl (by decide) rfl rfl hl rfl (Nat.le_of_ble_eq_true rfl) dJx4a65c_add_72be8_7 ⟨Nat.le_of_ble_eq_true rfl, (Nat.le_of_ble_eq_true rfl)⟩ (fun _ _ _ _ _ h => h.elim) (fun v w ty1 H locs hp hh => ?_)
  obtain ⟨q36, y37, rfl, rfl, rfl⟩ := hp
  have hh : kH D kStr e0 A s H [(q35, .inr (14, [.int 115, .ref q33])), (q17, .inr (4, [.int 1, .ref q36, .int 0])), (q36, .inl (y37, 10, .inr (.inr (.inr (.inr (fun _ => none))))))] [(y37, .object "java/lang/Object")] _ := hh
  refine W.eq (g2 := F0 m 10 ls [.ref q36]) (by first | rfl | decide) ?_
  refine lv_astore_n (lv' := [(2, .ref q36), (0, .ref q17), (1, .ref q35), (3, .int 0)]) hx hb dJx4a65c_add_72be8_10 rfl hl (by decide) rfl (fun ls hl => ?_)
  refine lv_aload_n hx hb dJx4a65c_add_72be8_11 rfl (lv_at hl 0 rfl) ?_
  refine lv_iload_n hx hb dJx4a65c_add_72be8_12 rfl (lv_at hl 3 rfl) ?_
  refine lv_aload_n hx hb dJx4a65c_add_72be8_13 rfl (lv_at hl 2 rfl) ?_
  refine k_astO (C := RX9) (T := TX9) (N := 2) (ws' := [(q35, .inr (14, [.int 115, .ref q33])), (q17, .inr (4, [.int 1, .ref q36, .int 0])), (q36, .inl (y37, 10, .inr (.inr (.inr (.inr (va_up ((fun _ => none)) (0 : Int32).toNatClampNeg (some q35)))))))]) hx hb hh 2 0 0 14 (by decide) rfl rfl rfl rfl (by unfold vp_in; decide) dJx4a65c_add_72be8_14 rfl (fun H locs hh => ?_)
  refine lv_aload_n hx hb dJx4a65c_add_72be8_15 rfl (lv_at hl 1 rfl) ?_
  refine lv_iload_n hx hb dJx4a65c_add_72be8_16 rfl (lv_at hl 3 rfl) ?_
  refine lv_iconst (v := 1) hx hb dJx4a65c_add_72be8_17 (by decide) ?_
  refine lv_iadd hx hb dJx4a65c_add_72be8_18 ?_
  refine W.eq (g2 := F0 m 19 ls [.int 1, .ref q17]) (by first | rfl | decide) ?_
  refine k_put (C := RJx4a65c) (T := TJx4a65c) (N := 3) (ci := 4) (v := .int 1) (ws' := [(q35, .inr (14, [.int 115, .ref q33])), (q17, .inr (4, [.int 1, .ref q36, .int 1])), (q36, .inl (y37, 10, .inr (.inr (.inr (.inr (va_up ((fun _ => none)) (0 : Int32).toNatClampNeg (some q35)))))))]) hx hb hts ws_a21_Jx4a65c_add_72be8_1 tyJx4a65c tyJx4a65c_ok nmJx4a65c hown hh 1 rfl rfl 2 (by decide) (hts _ (wo_a21_Jx4a65c_add_72be8_in _ (List.mem_of_getElem? (i := 0) rfl))) rfl rfl rfl (Nat.le_of_ble_eq_true rfl) dJx4a65c_add_72be8_19 rfl (fun H locs hh => ?_)
  exact k_endv hx hb hr hlocks hh ⟨q36, y37, rfl, rfl, rfl⟩ [1, 0, 2] [0] rfl rfl rfl (Nat.le_of_ble_eq_true rfl) (Nat.le_of_ble_eq_true rfl) dJx4a65c_add_72be8_22
def wo_a22_Jx4a65c_add_9ea2d : List Cond := [Cond.sameField "java/util/ArrayList" "java/util/AbstractList" "modCount" "I", Cond.fieldLink RJx4a65c 63 "java/util/ArrayList" "modCount" "I", Cond.fieldLink RJx4a65c 9 "java/util/ArrayList" "elementData" "[Ljava/lang/Object;", Cond.fieldLink RJx4a65c 48 "java/util/ArrayList" "size" "I"]
def wk_a22_Jx4a65c_add_9ea2d : List Cond := Cond.code yJx4a65c_add_9ea2d cJx4a65c_add_9ea2d 2 (some .boolean) :: (wo_a22_Jx4a65c_add_9ea2d ++ ((u_ws RJx4a65c TJx4a65c 3) ++ (wsV RJx4a65c 131 RJx4a65c yJx4a65c_add_72be8 wk_a21_Jx4a65c_add_72be8)))
theorem wo_a22_Jx4a65c_add_9ea2d_in : ∀ w ∈ wo_a22_Jx4a65c_add_9ea2d, w ∈ wk_a22_Jx4a65c_add_9ea2d := fun w h => List.mem_cons_of_mem _ (List.mem_append_left _ h)
theorem ws_a22_Jx4a65c_add_9ea2d_0 : ∀ w ∈ u_ws RJx4a65c TJx4a65c 3, w ∈ wk_a22_Jx4a65c_add_9ea2d := fun w h => List.mem_cons_of_mem _ (List.mem_append_right _ (List.mem_append_left _ h))
theorem gi_a22_Jx4a65c_add_9ea2d_1 : GoodIn wk_a22_Jx4a65c_add_9ea2d (wsV RJx4a65c 131 RJx4a65c yJx4a65c_add_72be8 wk_a21_Jx4a65c_add_72be8) := fun w h => ⟨List.mem_cons_of_mem _ (List.mem_append_right _ (List.mem_append_right _ h)), good_of_word (kg_V gk_a21_Jx4a65c_add_72be8 w h)⟩
theorem gk_a22_Jx4a65c_add_9ea2d : ∀ w ∈ wk_a22_Jx4a65c_add_9ea2d, goodWord w = true := List.forall_mem_cons.mpr ⟨rfl, (List.forall_mem_append.mpr ⟨(show ∀ w ∈ wo_a22_Jx4a65c_add_9ea2d, goodWord w = true by decide +kernel), (List.forall_mem_append.mpr ⟨(show ∀ w ∈ u_ws RJx4a65c TJx4a65c 3, goodWord w = true by decide +kernel), (kg_V gk_a21_Jx4a65c_add_72be8)⟩)⟩)⟩
set_option maxHeartbeats 4000000 in
set_option maxRecDepth 100000 in
theorem a22_Jx4a65c_add_9ea2d (l : Launch) (hst : l.stackTraces = false) (D : va_G) (e0 : kE) (q17 : Nat) (q35 : Nat) (q33 : Nat)  : kM l yJx4a65c_add_9ea2d wk_a22_Jx4a65c_add_9ea2d 4 95 1 10 D kStr e0 [] [(q17, .inr (4, [.int 0, .ref e0.1, .int 0])), (q35, .inr (14, [.int 115, .ref q33]))] [.ref q17, .ref q35] (fun v w t => ∃ (q36 : Nat), ∃ (y37 : ClassId), v = some (.int 1) ∧ w = [(q17, .inr (4, [.int 1, .ref q36, .int 1])), (q35, .inr (14, [.int 115, .ref q33])), (q36, .inl (y37, 10, .inr (.inr (.inr (.inr (va_up ((fun _ => none)) (0 : Int32).toNatClampNeg (some q35)))))))] ∧ t = [(y37, .object "java/lang/Object")]) (fun _ => False) := by
  refine k_of (cc := cJx4a65c_add_9ea2d) (maxL := 2) (ret := (some .boolean)) (by decide) rfl (Nat.le_of_ble_eq_true rfl) ?_
  intro p e s m args below meth c A ls hx hb hr hts hown hlocks hml hex hh hl
  have hown : s.vm.findClass RJx4a65c = some m.cls := hown
  have hl : lv_has ls 2 [(0, .ref q17), (1, .ref q35)] := hl
  refine lv_aload_n hx hb dJx4a65c_add_9ea2d_0 rfl (lv_at hl 0 rfl) ?_
  refine lv_dup hx hb dJx4a65c_add_9ea2d_1 rfl ?_
  refine k_getR (ref := "java/util/ArrayList") (C := RJx4a65c) (T := TJx4a65c) (N := 3) (ci := 4) (v := .int 0) hx hb hts ws_a22_Jx4a65c_add_9ea2d_0 hown hh 0 rfl rfl 0 (by decide) (hts _ (wo_a22_Jx4a65c_add_9ea2d_in _ (List.mem_of_getElem? (i := 1) rfl))) (u_same (hts _ (wo_a22_Jx4a65c_add_9ea2d_in _ (List.mem_of_getElem? (i := 0) rfl)))) rfl dJx4a65c_add_9ea2d_2 ?_
  refine lv_iconst (v := 1) hx hb dJx4a65c_add_9ea2d_5 (by decide) ?_
  refine lv_iadd hx hb dJx4a65c_add_9ea2d_6 ?_
  refine W.eq (g2 := F0 m 7 ls [.int 1, .ref q17]) (by first | rfl | decide) ?_
  refine k_putR (ref := "java/util/ArrayList") (C := RJx4a65c) (T := TJx4a65c) (N := 3) (ci := 4) (v := .int 1) (ws' := [(q17, .inr (4, [.int 1, .ref e0.1, .int 0])), (q35, .inr (14, [.int 115, .ref q33]))]) hx hb hts ws_a22_Jx4a65c_add_9ea2d_0 tyJx4a65c tyJx4a65c_ok nmJx4a65c hown hh 0 rfl rfl 0 (by decide) (hts _ (wo_a22_Jx4a65c_add_9ea2d_in _ (List.mem_of_getElem? (i := 1) rfl))) (u_same (hts _ (wo_a22_Jx4a65c_add_9ea2d_in _ (List.mem_of_getElem? (i := 0) rfl)))) rfl rfl rfl (Nat.le_of_ble_eq_true rfl) dJx4a65c_add_9ea2d_7 rfl (fun H locs hh => ?_)
  refine lv_aload_n hx hb dJx4a65c_add_9ea2d_10 rfl (lv_at hl 0 rfl) ?_
  refine lv_aload_n hx hb dJx4a65c_add_9ea2d_11 rfl (lv_at hl 1 rfl) ?_
  refine lv_aload_n hx hb dJx4a65c_add_9ea2d_12 rfl (lv_at hl 0 rfl) ?_
  refine k_get (C := RJx4a65c) (T := TJx4a65c) (N := 3) (ci := 4) (v := .ref e0.1) hx hb hts ws_a22_Jx4a65c_add_9ea2d_0 hown hh 0 rfl rfl 1 (by decide) (hts _ (wo_a22_Jx4a65c_add_9ea2d_in _ (List.mem_of_getElem? (i := 2) rfl))) rfl dJx4a65c_add_9ea2d_13 ?_
  refine lv_aload_n hx hb dJx4a65c_add_9ea2d_16 rfl (lv_at hl 0 rfl) ?_
  refine k_get (C := RJx4a65c) (T := TJx4a65c) (N := 3) (ci := 4) (v := .int 0) hx hb hts ws_a22_Jx4a65c_add_9ea2d_0 hown hh 0 rfl rfl 2 (by decide) (hts _ (wo_a22_Jx4a65c_add_9ea2d_in _ (List.mem_of_getElem? (i := 3) rfl))) rfl dJx4a65c_add_9ea2d_17 ?_
  refine k_callV (C := RJx4a65c) (T := TJx4a65c) (N := 3) (ci := 4) (q0 := 0) (wr := []) (rest := []) (own := RJx4a65c) ⟨hx, hb, hml, hown, hts⟩ (a21_Jx4a65c_add_72be8 l hst D e0 q17 q35 q33 ) (cwV 3 hts gi_a22_Jx4a65c_add_9ea2d_1 rfl rfl rfl (by decide +kernel) ⟨Nat.le_of_ble_eq_true rfl, Nat.le_of_ble_eq_true rfl⟩) hh rfl rfl [0, 1] [] [] rfl rfl rfl rfl (by decide) rfl rfl hl rfl (Nat.le_of_ble_eq_true rfl) dJx4a65c_add_9ea2d_20 ⟨Nat.le_of_ble_eq_true rfl, (Nat.le_of_ble_eq_true rfl)⟩ (fun _ _ _ _ _ h => h.elim) (fun v w ty1 H locs hp hh => ?_)
  obtain ⟨q36, y37, rfl, rfl, rfl⟩ := hp
  have hh : kH D kStr e0 A s H [(q17, .inr (4, [.int 1, .ref q36, .int 1])), (q35, .inr (14, [.int 115, .ref q33])), (q36, .inl (y37, 10, .inr (.inr (.inr (.inr (va_up ((fun _ => none)) (0 : Int32).toNatClampNeg (some q35)))))))] [(y37, .object "java/lang/Object")] _ := hh
  refine W.eq (g2 := F0 m 23 ls []) (by first | rfl | decide) ?_
  refine lv_iconst (v := 1) hx hb dJx4a65c_add_9ea2d_23 (by decide) ?_
  exact k_endz (ty := .boolean) (by decide) hx hb hr hlocks hh ⟨q36, y37, rfl, rfl, rfl⟩ [0, 1, 2] [0] rfl rfl rfl (Nat.le_of_ble_eq_true rfl) (Nat.le_of_ble_eq_true rfl) dJx4a65c_add_9ea2d_24
def wo_a23_Jx4a65c_size_8abf5 : List Cond := [Cond.fieldLink RJx4a65c 48 "java/util/ArrayList" "size" "I"]
def wk_a23_Jx4a65c_size_8abf5 : List Cond := Cond.code yJx4a65c_size_8abf5 cJx4a65c_size_8abf5 1 (some .int) :: (wo_a23_Jx4a65c_size_8abf5 ++ (u_ws RJx4a65c TJx4a65c 3))
theorem wo_a23_Jx4a65c_size_8abf5_in : ∀ w ∈ wo_a23_Jx4a65c_size_8abf5, w ∈ wk_a23_Jx4a65c_size_8abf5 := fun w h => List.mem_cons_of_mem _ (List.mem_append_left _ h)
theorem ws_a23_Jx4a65c_size_8abf5_0 : ∀ w ∈ u_ws RJx4a65c TJx4a65c 3, w ∈ wk_a23_Jx4a65c_size_8abf5 := fun w h => List.mem_cons_of_mem _ (List.mem_append_right _ h)
theorem gk_a23_Jx4a65c_size_8abf5 : ∀ w ∈ wk_a23_Jx4a65c_size_8abf5, goodWord w = true := List.forall_mem_cons.mpr ⟨rfl, (List.forall_mem_append.mpr ⟨(show ∀ w ∈ wo_a23_Jx4a65c_size_8abf5, goodWord w = true by decide +kernel), (show ∀ w ∈ u_ws RJx4a65c TJx4a65c 3, goodWord w = true by decide +kernel)⟩)⟩
set_option maxHeartbeats 4000000 in
set_option maxRecDepth 100000 in
theorem a23_Jx4a65c_size_8abf5 (l : Launch) (hst : l.stackTraces = false) (D : va_G) (e0 : kE) (q17 : Nat) (q36 : Nat)  : kM l yJx4a65c_size_8abf5 wk_a23_Jx4a65c_size_8abf5 0 0 0 0 D kStr e0 [] [(q17, .inr (4, [.int 1, .ref q36, .int 1]))] [.ref q17] (fun v w t => v = some (.int 1) ∧ w = [(q17, .inr (4, [.int 1, .ref q36, .int 1]))] ∧ t = []) (fun _ => False) := by
  refine k_of (cc := cJx4a65c_size_8abf5) (maxL := 1) (ret := (some .int)) (by decide) rfl (Nat.le_of_ble_eq_true rfl) ?_
  intro p e s m args below meth c A ls hx hb hr hts hown hlocks hml hex hh hl
  have hown : s.vm.findClass RJx4a65c = some m.cls := hown
  have hl : lv_has ls 1 [(0, .ref q17)] := hl
  refine lv_aload_n hx hb dJx4a65c_size_8abf5_0 rfl (lv_at hl 0 rfl) ?_
  refine k_get (C := RJx4a65c) (T := TJx4a65c) (N := 3) (ci := 4) (v := .int 1) hx hb hts ws_a23_Jx4a65c_size_8abf5_0 hown hh 0 rfl rfl 2 (by decide) (hts _ (wo_a23_Jx4a65c_size_8abf5_in _ (List.mem_of_getElem? (i := 0) rfl))) rfl dJx4a65c_size_8abf5_1 ?_
  exact k_endi hx hb hr hlocks hh ⟨rfl, rfl, rfl⟩ [0] [] rfl rfl rfl (Nat.le_of_ble_eq_true rfl) (Nat.le_of_ble_eq_true rfl) dJx4a65c_size_8abf5_4
def wo_a25_X11_held : List Cond := [Cond.methodLink RX11 1 Lib.Math.min.name, Cond.static Lib.Math.min.name, Cond.initialized "java/lang/Math", Cond.code Lib.Math.min.name Lib.Math.min.code 2 (some .int), Cond.methodLink RX11 7 Lib.Math.max.name, Cond.static Lib.Math.max.name, Cond.code Lib.Math.max.name Lib.Math.max.code 2 (some .int)]
def wk_a25_X11_held : List Cond := Cond.code yX11_held cX11_held 1 (some .int) :: wo_a25_X11_held
theorem wo_a25_X11_held_in : ∀ w ∈ wo_a25_X11_held, w ∈ wk_a25_X11_held := fun w h => List.mem_cons_of_mem _ h
theorem gk_a25_X11_held : ∀ w ∈ wk_a25_X11_held, goodWord w = true := List.forall_mem_cons.mpr ⟨rfl, (show ∀ w ∈ wo_a25_X11_held, goodWord w = true by decide +kernel)⟩
set_option maxHeartbeats 4000000 in
set_option maxRecDepth 100000 in
theorem a25_X11_held (l : Launch) (hst : l.stackTraces = false) (D : va_G) (e0 : kE)   : kM l yX11_held wk_a25_X11_held 1 29 0 0 D kStr e0 [] [] [.int 0] (fun v w t => v = some (.int 0) ∧ w = [] ∧ t = []) (fun _ => False) := by
  refine k_of (cc := cX11_held) (maxL := 1) (ret := (some .int)) (by decide) rfl (Nat.le_of_ble_eq_true rfl) ?_
  intro p e s m args below meth c A ls hx hb hr hts hown hlocks hml hex hh hl
  have hown : s.vm.findClass RX11 = some m.cls := hown
  have hl : lv_has ls 1 [(0, .int 0)] := hl
  refine lv_sipush (v := (-32768)) hx hb dX11_held_0 (by decide) ?_
  refine lv_sipush (v := 32767) hx hb dX11_held_3 (by decide) ?_
  refine lv_iload_n hx hb dX11_held_6 rfl (lv_at hl 0 rfl) ?_
  refine va_mmin hx hb (by rw [hml]; exact hl.1.symm) hown (hts _ (wo_a25_X11_held_in _ (List.mem_of_getElem? (i := 0) rfl))) (hts _ (wo_a25_X11_held_in _ (List.mem_of_getElem? (i := 1) rfl))) (hts _ (wo_a25_X11_held_in _ (List.mem_of_getElem? (i := 2) rfl))) (hts _ (wo_a25_X11_held_in _ (List.mem_of_getElem? (i := 3) rfl))) (Nat.le_of_ble_eq_true rfl) (Nat.le_of_ble_eq_true rfl) (Nat.le_of_ble_eq_true rfl) (Nat.le_of_ble_eq_true rfl) dX11_held_7 ?_
  refine W.eq (g2 := F0 m 10 ls [.int 0, .int (-32768)]) (by first | rfl | decide) ?_
  refine va_mmax hx hb (by rw [hml]; exact hl.1.symm) hown (hts _ (wo_a25_X11_held_in _ (List.mem_of_getElem? (i := 4) rfl))) (hts _ (wo_a25_X11_held_in _ (List.mem_of_getElem? (i := 5) rfl))) (hts _ (wo_a25_X11_held_in _ (List.mem_of_getElem? (i := 2) rfl))) (hts _ (wo_a25_X11_held_in _ (List.mem_of_getElem? (i := 6) rfl))) (Nat.le_of_ble_eq_true rfl) (Nat.le_of_ble_eq_true rfl) (Nat.le_of_ble_eq_true rfl) (Nat.le_of_ble_eq_true rfl) dX11_held_10 ?_
  refine W.eq (g2 := F0 m 13 ls [.int 0]) (by first | rfl | decide) ?_
  exact k_endi hx hb hr hlocks hh ⟨rfl, rfl, rfl⟩ [] [] rfl rfl rfl (Nat.le_of_ble_eq_true rfl) (Nat.le_of_ble_eq_true rfl) dX11_held_13
def wo_a24_X11_adds : List Cond := [Cond.fieldLink RX11 46 "SegueworksModel" "thrown" "I", Cond.fieldLink RX11 25 "SegueworksModel" "pieces" "Ljava/util/ArrayList;", Cond.classLink RX11 84 RX9, Cond.instantiable RX9 2, Cond.initialized RX9, Cond.methodLink RX11 94 yX9_init, Cond.instanceMethod yX9_init]
def wk_a24_X11_adds : List Cond := Cond.code yX11_adds cX11_adds 5 (some .int) :: (wo_a24_X11_adds ++ ((u_ws RX11 TX11 11) ++ ((wsV RX11 50 RJx4a65c yJx4a65c_size_8abf5 wk_a17_Jx4a65c_size_8abf5) ++ ((u_ws RX9 TX9 2) ++ ((wk_a18_X9_init) ++ ((wsV RX11 58 RJx4a65c yJx4a65c_add_9ea2d wk_a22_Jx4a65c_add_9ea2d) ++ ((wsV RX11 50 RJx4a65c yJx4a65c_size_8abf5 wk_a23_Jx4a65c_size_8abf5) ++ (va_wsS RX11 90 yX11_held wk_a25_X11_held))))))))
theorem wo_a24_X11_adds_in : ∀ w ∈ wo_a24_X11_adds, w ∈ wk_a24_X11_adds := fun w h => List.mem_cons_of_mem _ (List.mem_append_left _ h)
theorem ws_a24_X11_adds_0 : ∀ w ∈ u_ws RX11 TX11 11, w ∈ wk_a24_X11_adds := fun w h => List.mem_cons_of_mem _ (List.mem_append_right _ (List.mem_append_left _ h))
theorem gi_a24_X11_adds_1 : GoodIn wk_a24_X11_adds (wsV RX11 50 RJx4a65c yJx4a65c_size_8abf5 wk_a17_Jx4a65c_size_8abf5) := fun w h => ⟨List.mem_cons_of_mem _ (List.mem_append_right _ (List.mem_append_right _ (List.mem_append_left _ h))), good_of_word (kg_V gk_a17_Jx4a65c_size_8abf5 w h)⟩
theorem ws_a24_X11_adds_2 : ∀ w ∈ u_ws RX9 TX9 2, w ∈ wk_a24_X11_adds := fun w h => List.mem_cons_of_mem _ (List.mem_append_right _ (List.mem_append_right _ (List.mem_append_right _ (List.mem_append_left _ h))))
theorem gi_a24_X11_adds_3 : GoodIn wk_a24_X11_adds (wk_a18_X9_init) := fun w h => ⟨List.mem_cons_of_mem _ (List.mem_append_right _ (List.mem_append_right _ (List.mem_append_right _ (List.mem_append_right _ (List.mem_append_left _ h))))), good_of_word (gk_a18_X9_init w h)⟩
theorem gi_a24_X11_adds_4 : GoodIn wk_a24_X11_adds (wsV RX11 58 RJx4a65c yJx4a65c_add_9ea2d wk_a22_Jx4a65c_add_9ea2d) := fun w h => ⟨List.mem_cons_of_mem _ (List.mem_append_right _ (List.mem_append_right _ (List.mem_append_right _ (List.mem_append_right _ (List.mem_append_right _ (List.mem_append_left _ h)))))), good_of_word (kg_V gk_a22_Jx4a65c_add_9ea2d w h)⟩
theorem gi_a24_X11_adds_5 : GoodIn wk_a24_X11_adds (wsV RX11 50 RJx4a65c yJx4a65c_size_8abf5 wk_a23_Jx4a65c_size_8abf5) := fun w h => ⟨List.mem_cons_of_mem _ (List.mem_append_right _ (List.mem_append_right _ (List.mem_append_right _ (List.mem_append_right _ (List.mem_append_right _ (List.mem_append_right _ (List.mem_append_left _ h))))))), good_of_word (kg_V gk_a23_Jx4a65c_size_8abf5 w h)⟩
theorem gi_a24_X11_adds_6 : GoodIn wk_a24_X11_adds (va_wsS RX11 90 yX11_held wk_a25_X11_held) := fun w h => ⟨List.mem_cons_of_mem _ (List.mem_append_right _ (List.mem_append_right _ (List.mem_append_right _ (List.mem_append_right _ (List.mem_append_right _ (List.mem_append_right _ (List.mem_append_right _ h))))))), good_of_word (kg_S gk_a25_X11_held w h)⟩
theorem gk_a24_X11_adds : ∀ w ∈ wk_a24_X11_adds, goodWord w = true := List.forall_mem_cons.mpr ⟨rfl, (List.forall_mem_append.mpr ⟨(show ∀ w ∈ wo_a24_X11_adds, goodWord w = true by decide +kernel), (List.forall_mem_append.mpr ⟨(show ∀ w ∈ u_ws RX11 TX11 11, goodWord w = true by decide +kernel), (List.forall_mem_append.mpr ⟨(kg_V gk_a17_Jx4a65c_size_8abf5), (List.forall_mem_append.mpr ⟨(show ∀ w ∈ u_ws RX9 TX9 2, goodWord w = true by decide +kernel), (List.forall_mem_append.mpr ⟨gk_a18_X9_init, (List.forall_mem_append.mpr ⟨(kg_V gk_a22_Jx4a65c_add_9ea2d), (List.forall_mem_append.mpr ⟨(kg_V gk_a23_Jx4a65c_size_8abf5), (kg_S gk_a25_X11_held)⟩)⟩)⟩)⟩)⟩)⟩)⟩)⟩
set_option maxHeartbeats 4000000 in
set_option maxRecDepth 100000 in
theorem lp_a24_X11_adds (l : Launch) (hst : l.stackTraces = false) {p : Program} {e : Env} {s : State} {m : MethodId} {args : Array Value} {below : List Frame} {meth : Method} {c : Code} {Q : State → Prop} {A : Nat → Prop} (hx : p.tables.exec = Jvm.exec) (hb : c.code = cX11_adds) (hts : ∀ w ∈ wk_a24_X11_adds, w.before args s = true) (hown : s.vm.findClass RX11 = some m.cls) (hml : c.maxLocals = 5) (D : va_G) (e0 : kE) (q15 : Nat) (q16 : Nat) (q17 : Nat) (q18 : Nat) (q19 : Nat) (q20 : Nat) (q21 : Nat) (q22 : Nat) (q23 : Nat) (q33 : Nat) (y34 : ClassId)  (kk : ∀ (H : Heap) (locs : List Loc) (ls : Array Slot), kH D kStr e0 A s H [(q15, .inr (16, [.int 0, .ref q16, .ref q17, .ref q18, .ref q19, .ref q20, .ref q21, .ref q22, .ref q23, .int 0, .int 0])), (q33, .inl (y34, 187, .inl (fun _ => 0))), (q17, .inr (4, [.int 0, .ref e0.1, .int 0]))] [(y34, .int)] locs → lv_has ls 5 [(4, .int (nI 187)), (0, .ref q15), (1, .int 115), (2, .ref q33), (3, .int 2)] → W p l e (kRm 5 116 2 12) s m args below meth c H locs 0 0 Q (F0 m 71 ls [])) : ∀ (k i : Nat) (H : Heap) (locs : List Loc) (ls : Array Slot), k + i = 187 → kH D kStr e0 A s H [(q15, .inr (16, [.int 0, .ref q16, .ref q17, .ref q18, .ref q19, .ref q20, .ref q21, .ref q22, .ref q23, .int 0, .int 0])), (q33, .inl (y34, 187, .inl (fun _ => 0))), (q17, .inr (4, [.int 0, .ref e0.1, .int 0]))] [(y34, .int)] locs → lv_has ls 5 [(4, .int (nI i)), (0, .ref q15), (1, .int 115), (2, .ref q33), (3, .int 2)] → W p l e (kRm 5 116 2 12) s m args below meth c H locs 0 0 Q (F0 m 47 ls []) := by
  intro k
  induction k with
  | zero =>
    intro i H locs ls hi0 hh hl
    obtain rfl : i = 187 := by omega
    have hh : kH D kStr e0 A s H [(q15, .inr (16, [.int 0, .ref q16, .ref q17, .ref q18, .ref q19, .ref q20, .ref q21, .ref q22, .ref q23, .int 0, .int 0])), (q33, .inl (y34, 187, .inl (fun _ => 0))), (q17, .inr (4, [.int 0, .ref e0.1, .int 0]))] [(y34, .int)] _ := hh
    have hl : lv_has ls 5 [(4, .int (nI 187)), (0, .ref q15), (1, .int 115), (2, .ref q33), (3, .int 2)] := hl
    refine lv_iload hx hb dX11_adds_47 (lv_at hl 0 rfl) ?_
    refine lv_aload_n hx hb dX11_adds_49 rfl (lv_at hl 3 rfl) ?_
    refine k_alen (v := 187) hx hb hh 1 0 rfl rfl rfl dX11_adds_50 ?_
    refine lv_icmp_ge (tgt := 71) hx hb dX11_adds_51 (by decide) (fun _ => ?_) (fun c_51 => absurd ((show (187 : Int32) ≤ nI 187 by decide)) c_51)
    exact kk _ _ _ hh (lv_sub hl [0, 1, 2, 3, 4] rfl)
  | succ k ih =>
    intro i H locs ls hi0 hh hl
    have hi : i < 187 := by omega
    refine lv_iload hx hb dX11_adds_47 (lv_at hl 0 rfl) ?_
    refine lv_aload_n hx hb dX11_adds_49 rfl (lv_at hl 3 rfl) ?_
    refine k_alen (v := 187) hx hb hh 1 0 rfl rfl rfl dX11_adds_50 ?_
    refine lv_icmp_ge (tgt := 71) hx hb dX11_adds_51 (by decide) (fun c_51 => absurd c_51 ((show ¬ (187 : Int32) ≤ nI i from nI_ge (b := 187) hi (by omega)))) (fun _ => ?_)
    refine lv_aload_n hx hb dX11_adds_54 rfl (lv_at hl 3 rfl) ?_
    refine lv_iload hx hb dX11_adds_55 (lv_at hl 0 rfl) ?_
    refine lv_aload_n hx hb dX11_adds_57 rfl (lv_at hl 3 rfl) ?_
    refine lv_iload hx hb dX11_adds_58 (lv_at hl 0 rfl) ?_
    refine k_iald (v := 0) hx hb hh 1 0 rfl rfl (vp_in_nI hi (by decide)) rfl dX11_adds_60 ?_
    refine k_callS (wr := [(q15, .inr (16, [.int 0, .ref q16, .ref q17, .ref q18, .ref q19, .ref q20, .ref q21, .ref q22, .ref q23, .int 0, .int 0])), (q33, .inl (y34, 187, .inl (fun _ => 0))), (q17, .inr (4, [.int 0, .ref e0.1, .int 0]))]) (rest := [.int (nI i), .ref q33]) (own := RX11) ⟨hx, hb, hml, hown, hts⟩ (a25_X11_held l hst D e0  ) (va_cwS 1 hts gi_a24_X11_adds_6 rfl rfl rfl (by decide +kernel) ⟨Nat.le_of_ble_eq_true rfl, Nat.le_of_ble_eq_true rfl⟩) hh [] [0, 1, 2] [] rfl rfl rfl rfl (by decide) rfl rfl hl rfl (Nat.le_of_ble_eq_true rfl) dX11_adds_61 ⟨Nat.le_of_ble_eq_true rfl, (Nat.le_of_ble_eq_true rfl)⟩ (fun _ _ _ _ _ h => h.elim) (fun v w ty1 H locs hp hh => ?_)
    obtain ⟨rfl, rfl, rfl⟩ := hp
    have hh : kH D kStr e0 A s H [(q15, .inr (16, [.int 0, .ref q16, .ref q17, .ref q18, .ref q19, .ref q20, .ref q21, .ref q22, .ref q23, .int 0, .int 0])), (q33, .inl (y34, 187, .inl (fun _ => 0))), (q17, .inr (4, [.int 0, .ref e0.1, .int 0]))] [(y34, .int)] _ := hh
    refine W.eq (g2 := F0 m 64 ls [.int 0, .int (nI i), .ref q33]) (by first | rfl | decide) ?_
    refine k_iast0 hx hb hh 1 0 rfl rfl (vp_in_nI hi (by decide)) dX11_adds_64 (fun H locs hh => ?_)
    refine lv_iinc (v := (nI (i + 1))) (lv' := [(4, .int (nI (i + 1))), (0, .ref q15), (1, .int 115), (2, .ref q33), (3, .int 2)]) hx hb dX11_adds_65 hl (k := 0) rfl (nI_1 i) (by decide) rfl (fun ls hl => ?_)
    refine lv_goto (tgt := 47) hx hb dX11_adds_68 (by decide) ?_
    exact ih (i + 1) _ _ _ (by omega) (hh.sub [0, 1, 2] [0] rfl rfl rfl) (lv_sub hl [0, 1, 2, 3, 4] rfl)
set_option maxHeartbeats 4000000 in
set_option maxRecDepth 100000 in
theorem a24_X11_adds (l : Launch) (hst : l.stackTraces = false) (D : va_G) (e0 : kE) (q15 : Nat) (q33 : Nat) (q16 : Nat) (q17 : Nat) (q18 : Nat) (q19 : Nat) (q20 : Nat) (q21 : Nat) (q22 : Nat) (q23 : Nat) (y34 : ClassId)  : kM l yX11_adds wk_a24_X11_adds 5 116 2 12 D kStr e0 [(y34, .int)] [(q15, .inr (16, [.int 0, .ref q16, .ref q17, .ref q18, .ref q19, .ref q20, .ref q21, .ref q22, .ref q23, .int 0, .int 0])), (q33, .inl (y34, 187, .inl (fun _ => 0))), (q17, .inr (4, [.int 0, .ref e0.1, .int 0]))] [.ref q15, .int 115, .ref q33, .int 2] (fun v w t => ∃ (q36 : Nat), ∃ (y37 : ClassId), ∃ (q35 : Nat), v = some (.int 0) ∧ w = [(q15, .inr (16, [.int 0, .ref q16, .ref q17, .ref q18, .ref q19, .ref q20, .ref q21, .ref q22, .ref q23, .int 0, .int 0])), (q33, .inl (y34, 187, .inl (fun _ => 0))), (q17, .inr (4, [.int 1, .ref q36, .int 1])), (q36, .inl (y37, 10, .inr (.inr (.inr (.inr (va_up ((fun _ => none)) (0 : Int32).toNatClampNeg (some q35))))))), (q35, .inr (14, [.int 115, .ref q33]))] ∧ t = [(y34, .int), (y37, .object "java/lang/Object")]) (fun _ => False) := by
  refine k_of (cc := cX11_adds) (maxL := 5) (ret := (some .int)) (by decide) rfl (Nat.le_of_ble_eq_true rfl) ?_
  intro p e s m args below meth c A ls hx hb hr hts hown hlocks hml hex hh hl
  have hown : s.vm.findClass RX11 = some m.cls := hown
  have hl : lv_has ls 5 [(0, .ref q15), (1, .int 115), (2, .ref q33), (3, .int 2)] := hl
  refine lv_aload_n hx hb dX11_adds_0 rfl (lv_at hl 0 rfl) ?_
  refine lv_aload_n hx hb dX11_adds_1 rfl (lv_at hl 0 rfl) ?_
  refine k_get (C := RX11) (T := TX11) (N := 11) (ci := 16) (v := .int 0) hx hb hts ws_a24_X11_adds_0 hown hh 0 rfl rfl 0 (by decide) (hts _ (wo_a24_X11_adds_in _ (List.mem_of_getElem? (i := 0) rfl))) rfl dX11_adds_2 ?_
  refine lv_if_le (tgt := 15) hx hb dX11_adds_5 (by decide) (fun _ => ?_) (fun c_5 => absurd (by decide) c_5)
  refine lv_aload_n hx hb dX11_adds_15 rfl (lv_at hl 0 rfl) ?_
  refine k_get (C := RX11) (T := TX11) (N := 11) (ci := 16) (v := .ref q17) hx hb hts ws_a24_X11_adds_0 hown hh 0 rfl rfl 2 (by decide) (hts _ (wo_a24_X11_adds_in _ (List.mem_of_getElem? (i := 1) rfl))) rfl dX11_adds_16 ?_
  refine k_callV (C := RJx4a65c) (T := TJx4a65c) (N := 3) (ci := 4) (q0 := 2) (wr := [(q15, .inr (16, [.int 0, .ref q16, .ref q17, .ref q18, .ref q19, .ref q20, .ref q21, .ref q22, .ref q23, .int 0, .int 0])), (q33, .inl (y34, 187, .inl (fun _ => 0)))]) (rest := [.ref q15]) (own := RX11) ⟨hx, hb, hml, hown, hts⟩ (a17_Jx4a65c_size_8abf5 l hst D e0 q17 ) (cwV 0 hts gi_a24_X11_adds_1 rfl rfl rfl (by decide +kernel) ⟨Nat.le_of_ble_eq_true rfl, Nat.le_of_ble_eq_true rfl⟩) hh rfl rfl [2] [0, 1] [] rfl rfl rfl rfl (by decide) rfl rfl hl rfl (Nat.le_of_ble_eq_true rfl) dX11_adds_19 ⟨Nat.le_of_ble_eq_true rfl, (Nat.le_of_ble_eq_true rfl)⟩ (fun _ _ _ _ _ h => h.elim) (fun v w ty1 H locs hp hh => ?_)
  obtain ⟨rfl, rfl, rfl⟩ := hp
  have hh : kH D kStr e0 A s H [(q15, .inr (16, [.int 0, .ref q16, .ref q17, .ref q18, .ref q19, .ref q20, .ref q21, .ref q22, .ref q23, .int 0, .int 0])), (q33, .inl (y34, 187, .inl (fun _ => 0))), (q17, .inr (4, [.int 0, .ref e0.1, .int 0]))] [(y34, .int)] _ := hh
  refine W.eq (g2 := F0 m 22 ls [.int 0, .ref q15]) (by first | rfl | decide) ?_
  refine lv_bipush (v := 24) hx hb dX11_adds_22 (by decide) ?_
  refine lv_icmp_ne (tgt := 31) hx hb dX11_adds_24 (by decide) (fun _ => ?_) (fun c_24 => absurd c_24 (by decide))
  refine lv_iconst (v := 0) hx hb dX11_adds_31 (by decide) ?_
  refine k_put (C := RX11) (T := TX11) (N := 11) (ci := 16) (v := .int 0) (ws' := [(q15, .inr (16, [.int 0, .ref q16, .ref q17, .ref q18, .ref q19, .ref q20, .ref q21, .ref q22, .ref q23, .int 0, .int 0])), (q33, .inl (y34, 187, .inl (fun _ => 0))), (q17, .inr (4, [.int 0, .ref e0.1, .int 0]))]) hx hb hts ws_a24_X11_adds_0 tyX11 tyX11_ok nmX11 hown hh 0 rfl rfl 0 (by decide) (hts _ (wo_a24_X11_adds_in _ (List.mem_of_getElem? (i := 0) rfl))) rfl rfl rfl (Nat.le_of_ble_eq_true rfl) dX11_adds_32 rfl (fun H locs hh => ?_)
  refine lv_aload_n hx hb dX11_adds_35 rfl (lv_at hl 0 rfl) ?_
  refine k_get (C := RX11) (T := TX11) (N := 11) (ci := 16) (v := .int 0) hx hb hts ws_a24_X11_adds_0 hown hh 0 rfl rfl 0 (by decide) (hts _ (wo_a24_X11_adds_in _ (List.mem_of_getElem? (i := 0) rfl))) rfl dX11_adds_36 ?_
  refine lv_if_le (tgt := 44) hx hb dX11_adds_39 (by decide) (fun _ => ?_) (fun c_39 => absurd (by decide) c_39)
  refine lv_iconst (v := 0) hx hb dX11_adds_44 (by decide) ?_
  refine lv_istore (lv' := [(4, .int 0), (0, .ref q15), (1, .int 115), (2, .ref q33), (3, .int 2)]) hx hb dX11_adds_45 hl (by decide) rfl (fun ls hl => ?_)
  refine lp_a24_X11_adds l hst hx hb hts hown hml D e0 q15 q16 q17 q18 q19 q20 q21 q22 q23 q33 y34  (fun H locs ls hh hl => ?_) 187 0 _ _ _ (by omega) (hh.sub [0, 1, 2] [0] rfl rfl rfl) (lv_sub hl [0, 1, 2, 3, 4] rfl)
  have hh : kH D kStr e0 A s H [(q15, .inr (16, [.int 0, .ref q16, .ref q17, .ref q18, .ref q19, .ref q20, .ref q21, .ref q22, .ref q23, .int 0, .int 0])), (q33, .inl (y34, 187, .inl (fun _ => 0))), (q17, .inr (4, [.int 0, .ref e0.1, .int 0]))] [(y34, .int)] _ := hh
  have hl : lv_has ls 5 [(4, .int (nI 187)), (0, .ref q15), (1, .int 115), (2, .ref q33), (3, .int 2)] := hl
  refine lv_aload_n hx hb dX11_adds_71 rfl (lv_at hl 1 rfl) ?_
  refine k_get (C := RX11) (T := TX11) (N := 11) (ci := 16) (v := .ref q17) hx hb hts ws_a24_X11_adds_0 hown hh 0 rfl rfl 2 (by decide) (hts _ (wo_a24_X11_adds_in _ (List.mem_of_getElem? (i := 1) rfl))) rfl dX11_adds_72 ?_
  refine k_new (C := RX9) (T := TX9) (N := 2) (ci := 14) (fs := [.int 0, .null]) hx hb hts ws_a24_X11_adds_2 tyX9 tyX9_ok hown (hts _ (wo_a24_X11_adds_in _ (List.mem_of_getElem? (i := 2) rfl))) (hts _ (wo_a24_X11_adds_in _ (List.mem_of_getElem? (i := 3) rfl))) (hts _ (wo_a24_X11_adds_in _ (List.mem_of_getElem? (i := 4) rfl))) hh rfl (fun j hj => by rcases (show j = 0 ∨ j = 1 by omega) with rfl | rfl <;> rfl) (Nat.le_of_ble_eq_true rfl) (Nat.le_of_ble_eq_true rfl) dX11_adds_75 (fun q35 H hh => ?_)
  have hh : kH D kStr e0 A s H [(q15, .inr (16, [.int 0, .ref q16, .ref q17, .ref q18, .ref q19, .ref q20, .ref q21, .ref q22, .ref q23, .int 0, .int 0])), (q33, .inl (y34, 187, .inl (fun _ => 0))), (q17, .inr (4, [.int 0, .ref e0.1, .int 0])), (q35, .inr (14, [.int 0, .null]))] [(y34, .int)] _ := hh
  refine lv_dup hx hb dX11_adds_78 rfl ?_
  refine lv_iload_n hx hb dX11_adds_79 rfl (lv_at hl 2 rfl) ?_
  refine lv_aload_n hx hb dX11_adds_80 rfl (lv_at hl 3 rfl) ?_
  refine k_callI (wr := [(q15, .inr (16, [.int 0, .ref q16, .ref q17, .ref q18, .ref q19, .ref q20, .ref q21, .ref q22, .ref q23, .int 0, .int 0])), (q33, .inl (y34, 187, .inl (fun _ => 0))), (q17, .inr (4, [.int 0, .ref e0.1, .int 0]))]) (rest := [.ref q35, .ref q17]) (own := RX11) ⟨hx, hb, hml, hown, hts⟩ (a18_X9_init l hst D e0 q35 q33 ) (cwI 2 hts gi_a24_X11_adds_3 rfl rfl rfl (hts _ (wo_a24_X11_adds_in _ (List.mem_of_getElem? (i := 4) rfl))) (hts _ (wo_a24_X11_adds_in _ (List.mem_of_getElem? (i := 5) rfl))) (hts _ (wo_a24_X11_adds_in _ (List.mem_of_getElem? (i := 6) rfl))) rfl (by decide +kernel) ⟨Nat.le_of_ble_eq_true rfl, Nat.le_of_ble_eq_true rfl⟩) hh [3] [0, 1, 2] [] rfl rfl rfl rfl (by decide) rfl rfl hl rfl (Nat.le_of_ble_eq_true rfl) dX11_adds_81 ⟨Nat.le_of_ble_eq_true rfl, (Nat.le_of_ble_eq_true rfl)⟩ (fun v w ty1 H locs hp hh => ?_)
  obtain ⟨rfl, rfl, rfl⟩ := hp
  have hh : kH D kStr e0 A s H [(q15, .inr (16, [.int 0, .ref q16, .ref q17, .ref q18, .ref q19, .ref q20, .ref q21, .ref q22, .ref q23, .int 0, .int 0])), (q33, .inl (y34, 187, .inl (fun _ => 0))), (q17, .inr (4, [.int 0, .ref e0.1, .int 0])), (q35, .inr (14, [.int 115, .ref q33]))] [(y34, .int)] _ := hh
  refine W.eq (g2 := F0 m 84 ls [.ref q35, .ref q17]) (by first | rfl | decide) ?_
  refine k_callV (C := RJx4a65c) (T := TJx4a65c) (N := 3) (ci := 4) (q0 := 2) (wr := [(q15, .inr (16, [.int 0, .ref q16, .ref q17, .ref q18, .ref q19, .ref q20, .ref q21, .ref q22, .ref q23, .int 0, .int 0])), (q33, .inl (y34, 187, .inl (fun _ => 0)))]) (rest := []) (own := RX11) ⟨hx, hb, hml, hown, hts⟩ (a22_Jx4a65c_add_9ea2d l hst D e0 q17 q35 q33 ) (cwV 1 hts gi_a24_X11_adds_4 rfl rfl rfl (by decide +kernel) ⟨Nat.le_of_ble_eq_true rfl, Nat.le_of_ble_eq_true rfl⟩) hh rfl rfl [2, 3] [0, 1] [] rfl rfl rfl rfl (by decide) rfl rfl hl rfl (Nat.le_of_ble_eq_true rfl) dX11_adds_84 ⟨Nat.le_of_ble_eq_true rfl, (Nat.le_of_ble_eq_true rfl)⟩ (fun _ _ _ _ _ h => h.elim) (fun v w ty1 H locs hp hh => ?_)
  obtain ⟨q36, y37, rfl, rfl, rfl⟩ := hp
  have hh : kH D kStr e0 A s H [(q15, .inr (16, [.int 0, .ref q16, .ref q17, .ref q18, .ref q19, .ref q20, .ref q21, .ref q22, .ref q23, .int 0, .int 0])), (q33, .inl (y34, 187, .inl (fun _ => 0))), (q17, .inr (4, [.int 1, .ref q36, .int 1])), (q35, .inr (14, [.int 115, .ref q33])), (q36, .inl (y37, 10, .inr (.inr (.inr (.inr (va_up ((fun _ => none)) (0 : Int32).toNatClampNeg (some q35)))))))] [(y34, .int), (y37, .object "java/lang/Object")] _ := hh
  refine W.eq (g2 := F0 m 87 ls [.int 1]) (by first | rfl | decide) ?_
  refine lv_pop hx hb dX11_adds_87 rfl ?_
  refine lv_aload_n hx hb dX11_adds_88 rfl (lv_at hl 1 rfl) ?_
  refine k_get (C := RX11) (T := TX11) (N := 11) (ci := 16) (v := .ref q17) hx hb hts ws_a24_X11_adds_0 hown hh 0 rfl rfl 2 (by decide) (hts _ (wo_a24_X11_adds_in _ (List.mem_of_getElem? (i := 1) rfl))) rfl dX11_adds_89 ?_
  refine k_callV (C := RJx4a65c) (T := TJx4a65c) (N := 3) (ci := 4) (q0 := 2) (wr := [(q15, .inr (16, [.int 0, .ref q16, .ref q17, .ref q18, .ref q19, .ref q20, .ref q21, .ref q22, .ref q23, .int 0, .int 0])), (q33, .inl (y34, 187, .inl (fun _ => 0))), (q35, .inr (14, [.int 115, .ref q33])), (q36, .inl (y37, 10, .inr (.inr (.inr (.inr (va_up ((fun _ => none)) (0 : Int32).toNatClampNeg (some q35)))))))]) (rest := []) (own := RX11) ⟨hx, hb, hml, hown, hts⟩ (a23_Jx4a65c_size_8abf5 l hst D e0 q17 q36 ) (cwV 0 hts gi_a24_X11_adds_5 rfl rfl rfl (by decide +kernel) ⟨Nat.le_of_ble_eq_true rfl, Nat.le_of_ble_eq_true rfl⟩) hh rfl rfl [2] [0, 1, 3, 4] [] rfl rfl rfl rfl (by decide) rfl rfl hl rfl (Nat.le_of_ble_eq_true rfl) dX11_adds_92 ⟨Nat.le_of_ble_eq_true rfl, (Nat.le_of_ble_eq_true rfl)⟩ (fun _ _ _ _ _ h => h.elim) (fun v w ty1 H locs hp hh => ?_)
  obtain ⟨rfl, rfl, rfl⟩ := hp
  have hh : kH D kStr e0 A s H [(q15, .inr (16, [.int 0, .ref q16, .ref q17, .ref q18, .ref q19, .ref q20, .ref q21, .ref q22, .ref q23, .int 0, .int 0])), (q33, .inl (y34, 187, .inl (fun _ => 0))), (q35, .inr (14, [.int 115, .ref q33])), (q36, .inl (y37, 10, .inr (.inr (.inr (.inr (va_up ((fun _ => none)) (0 : Int32).toNatClampNeg (some q35))))))), (q17, .inr (4, [.int 1, .ref q36, .int 1]))] [(y34, .int), (y37, .object "java/lang/Object")] _ := hh
  refine W.eq (g2 := F0 m 95 ls [.int 1]) (by first | rfl | decide) ?_
  refine lv_iconst (v := 1) hx hb dX11_adds_95 (by decide) ?_
  refine lv_isub hx hb dX11_adds_96 ?_
  refine W.eq (g2 := F0 m 97 ls [.int 0]) (by first | rfl | decide) ?_
  exact k_endi hx hb hr hlocks hh ⟨q36, y37, q35, rfl, rfl, rfl⟩ [0, 1, 4, 3, 2] [0, 1] rfl rfl rfl (Nat.le_of_ble_eq_true rfl) (Nat.le_of_ble_eq_true rfl) dX11_adds_97
def wo_a26_X11_silence : List Cond := [Cond.constantLong RX11 80 200, Cond.fieldLink RX11 46 "SegueworksModel" "thrown" "I", Cond.arrayClass .int]
def wk_a26_X11_silence : List Cond := Cond.code yX11_silence cX11_silence 2 (some .int) :: (wo_a26_X11_silence ++ ((va_wsS RX11 54 yX11_in wk_a16_X11_in) ++ ((u_ws RX11 TX11 11) ++ (wsV RX11 100 RX11 yX11_adds wk_a24_X11_adds))))
theorem wo_a26_X11_silence_in : ∀ w ∈ wo_a26_X11_silence, w ∈ wk_a26_X11_silence := fun w h => List.mem_cons_of_mem _ (List.mem_append_left _ h)
theorem gi_a26_X11_silence_0 : GoodIn wk_a26_X11_silence (va_wsS RX11 54 yX11_in wk_a16_X11_in) := fun w h => ⟨List.mem_cons_of_mem _ (List.mem_append_right _ (List.mem_append_left _ h)), good_of_word (kg_S gk_a16_X11_in w h)⟩
theorem ws_a26_X11_silence_1 : ∀ w ∈ u_ws RX11 TX11 11, w ∈ wk_a26_X11_silence := fun w h => List.mem_cons_of_mem _ (List.mem_append_right _ (List.mem_append_right _ (List.mem_append_left _ h)))
theorem gi_a26_X11_silence_2 : GoodIn wk_a26_X11_silence (wsV RX11 100 RX11 yX11_adds wk_a24_X11_adds) := fun w h => ⟨List.mem_cons_of_mem _ (List.mem_append_right _ (List.mem_append_right _ (List.mem_append_right _ h))), good_of_word (kg_V gk_a24_X11_adds w h)⟩
theorem gk_a26_X11_silence : ∀ w ∈ wk_a26_X11_silence, goodWord w = true := List.forall_mem_cons.mpr ⟨rfl, (List.forall_mem_append.mpr ⟨(show ∀ w ∈ wo_a26_X11_silence, goodWord w = true by decide +kernel), (List.forall_mem_append.mpr ⟨(kg_S gk_a16_X11_in), (List.forall_mem_append.mpr ⟨(show ∀ w ∈ u_ws RX11 TX11 11, goodWord w = true by decide +kernel), (kg_V gk_a24_X11_adds)⟩)⟩)⟩)⟩
set_option maxHeartbeats 4000000 in
set_option maxRecDepth 100000 in
theorem a26_X11_silence (l : Launch) (hst : l.stackTraces = false) (D : va_G) (e0 : kE) (q15 : Nat) (q16 : Nat) (q17 : Nat) (q18 : Nat) (q19 : Nat) (q20 : Nat) (q21 : Nat) (q22 : Nat) (q23 : Nat)  : kM l yX11_silence wk_a26_X11_silence 6 140 3 199 D kStr e0 [] [(q15, .inr (16, [.int 0, .ref q16, .ref q17, .ref q18, .ref q19, .ref q20, .ref q21, .ref q22, .ref q23, .int 0, .int 0])), (q17, .inr (4, [.int 0, .ref e0.1, .int 0]))] [.ref q15, .int 187] (fun v w t => ∃ (q35 : Nat), ∃ (y36 : ClassId), ∃ (q37 : Nat), ∃ (q33 : Nat), ∃ (y34 : ClassId), v = some (.int 0) ∧ w = [(q15, .inr (16, [.int 0, .ref q16, .ref q17, .ref q18, .ref q19, .ref q20, .ref q21, .ref q22, .ref q23, .int 0, .int 0])), (q17, .inr (4, [.int 1, .ref q35, .int 1])), (q35, .inl (y36, 10, .inr (.inr (.inr (.inr (va_up ((fun _ => none)) (0 : Int32).toNatClampNeg (some q37))))))), (q37, .inr (14, [.int 115, .ref q33])), (q33, .inl (y34, 187, .inl (fun _ => 0)))] ∧ t = [(y36, .object "java/lang/Object"), (y34, .int)]) (fun _ => False) := by
  refine k_of (cc := cX11_silence) (maxL := 2) (ret := (some .int)) (by decide) rfl (Nat.le_of_ble_eq_true rfl) ?_
  intro p e s m args below meth c A ls hx hb hr hts hown hlocks hml hex hh hl
  have hown : s.vm.findClass RX11 = some m.cls := hown
  have hl : lv_has ls 2 [(0, .ref q15), (1, .int 187)] := hl
  refine lv_aload_n hx hb dX11_silence_0 rfl (lv_at hl 0 rfl) ?_
  refine lv_iload_n hx hb dX11_silence_1 rfl (lv_at hl 1 rfl) ?_
  refine lv_i2l (v := 187) hx hb dX11_silence_2 (by decide) ?_
  refine lv_lconst (v := 1) hx hb dX11_silence_3 (by decide) ?_
  refine lv_ldc2 (v := 200) hx hb hown (hts _ (wo_a26_X11_silence_in _ (List.mem_of_getElem? (i := 0) rfl))) dX11_silence_4 ?_
  refine k_callS (wr := [(q15, .inr (16, [.int 0, .ref q16, .ref q17, .ref q18, .ref q19, .ref q20, .ref q21, .ref q22, .ref q23, .int 0, .int 0])), (q17, .inr (4, [.int 0, .ref e0.1, .int 0]))]) (rest := [.ref q15]) (own := RX11) ⟨hx, hb, hml, hown, hts⟩ (a16_X11_in l hst D e0  ) (va_cwS 3 hts gi_a26_X11_silence_0 rfl rfl rfl (by decide +kernel) ⟨Nat.le_of_ble_eq_true rfl, Nat.le_of_ble_eq_true rfl⟩) hh [] [0, 1] [] rfl rfl rfl rfl (by decide) rfl rfl hl rfl (Nat.le_of_ble_eq_true rfl) dX11_silence_7 ⟨Nat.le_of_ble_eq_true rfl, (Nat.le_of_ble_eq_true rfl)⟩ (fun _ _ _ _ _ h => h.elim) (fun v w ty1 H locs hp hh => ?_)
  obtain ⟨rfl, rfl, rfl⟩ := hp
  have hh : kH D kStr e0 A s H [(q15, .inr (16, [.int 0, .ref q16, .ref q17, .ref q18, .ref q19, .ref q20, .ref q21, .ref q22, .ref q23, .int 0, .int 0])), (q17, .inr (4, [.int 0, .ref e0.1, .int 0]))] [] _ := hh
  refine W.eq (g2 := F0 m 10 ls [.int 1, .ref q15]) (by first | rfl | decide) ?_
  refine lv_if_eq (tgt := 17) hx hb dX11_silence_10 (by decide) (fun c_10 => absurd c_10 (by decide)) (fun _ => ?_)
  refine lv_iconst (v := 0) hx hb dX11_silence_13 (by decide) ?_
  refine lv_goto (tgt := 18) hx hb dX11_silence_14 (by decide) ?_
  refine k_put (C := RX11) (T := TX11) (N := 11) (ci := 16) (v := .int 0) (ws' := [(q15, .inr (16, [.int 0, .ref q16, .ref q17, .ref q18, .ref q19, .ref q20, .ref q21, .ref q22, .ref q23, .int 0, .int 0])), (q17, .inr (4, [.int 0, .ref e0.1, .int 0]))]) hx hb hts ws_a26_X11_silence_1 tyX11 tyX11_ok nmX11 hown hh 0 rfl rfl 0 (by decide) (hts _ (wo_a26_X11_silence_in _ (List.mem_of_getElem? (i := 1) rfl))) rfl rfl rfl (Nat.le_of_ble_eq_true rfl) dX11_silence_18 rfl (fun H locs hh => ?_)
  refine lv_aload_n hx hb dX11_silence_21 rfl (lv_at hl 0 rfl) ?_
  refine lv_bipush (v := 115) hx hb dX11_silence_22 (by decide) ?_
  refine lv_aload_n hx hb dX11_silence_24 rfl (lv_at hl 0 rfl) ?_
  refine k_get (C := RX11) (T := TX11) (N := 11) (ci := 16) (v := .int 0) hx hb hts ws_a26_X11_silence_1 hown hh 0 rfl rfl 0 (by decide) (hts _ (wo_a26_X11_silence_in _ (List.mem_of_getElem? (i := 1) rfl))) rfl dX11_silence_25 ?_
  refine lv_if_le (tgt := 35) hx hb dX11_silence_28 (by decide) (fun _ => ?_) (fun c_28 => absurd (by decide) c_28)
  refine lv_iload_n hx hb dX11_silence_35 rfl (lv_at hl 1 rfl) ?_
  refine k_newa (atype := .int) (ty := .int) (N' := 187) (a0 := (187, .inl (fun _ => 0))) hx hb (hts _ (wo_a26_X11_silence_in _ (List.mem_of_getElem? (i := 2) rfl))) rfl hh (fun cA => rfl) (by decide) (by decide) (Nat.le_of_ble_eq_true rfl) (Nat.le_of_ble_eq_true rfl) (Nat.le_of_ble_eq_true rfl) dX11_silence_36 (fun q33 y34 H hh => ?_)
  have hh : kH D kStr e0 A s H [(q15, .inr (16, [.int 0, .ref q16, .ref q17, .ref q18, .ref q19, .ref q20, .ref q21, .ref q22, .ref q23, .int 0, .int 0])), (q17, .inr (4, [.int 0, .ref e0.1, .int 0])), (q33, .inl (y34, 187, .inl (fun _ => 0)))] [(y34, .int)] _ := hh
  refine lv_iconst (v := 2) hx hb dX11_silence_38 (by decide) ?_
  refine k_callV (C := RX11) (T := TX11) (N := 11) (ci := 16) (q0 := 0) (wr := []) (rest := []) (own := RX11) ⟨hx, hb, hml, hown, hts⟩ (a24_X11_adds l hst D e0 q15 q33 q16 q17 q18 q19 q20 q21 q22 q23 y34 ) (cwV 3 hts gi_a26_X11_silence_2 rfl rfl rfl (by decide +kernel) ⟨Nat.le_of_ble_eq_true rfl, Nat.le_of_ble_eq_true rfl⟩) hh rfl rfl [0, 2, 1] [] [0] rfl rfl rfl rfl (by decide) rfl rfl hl rfl (Nat.le_of_ble_eq_true rfl) dX11_silence_39 ⟨Nat.le_of_ble_eq_true rfl, (Nat.le_of_ble_eq_true rfl)⟩ (fun _ _ _ _ _ h => h.elim) (fun v w ty1 H locs hp hh => ?_)
  obtain ⟨q35, y36, q37, rfl, rfl, rfl⟩ := hp
  have hh : kH D kStr e0 A s H [(q15, .inr (16, [.int 0, .ref q16, .ref q17, .ref q18, .ref q19, .ref q20, .ref q21, .ref q22, .ref q23, .int 0, .int 0])), (q33, .inl (y34, 187, .inl (fun _ => 0))), (q17, .inr (4, [.int 1, .ref q35, .int 1])), (q35, .inl (y36, 10, .inr (.inr (.inr (.inr (va_up ((fun _ => none)) (0 : Int32).toNatClampNeg (some q37))))))), (q37, .inr (14, [.int 115, .ref q33]))] [(y34, .int), (y34, .int), (y36, .object "java/lang/Object")] _ := hh
  refine W.eq (g2 := F0 m 42 ls [.int 0]) (by first | rfl | decide) ?_
  exact k_endi hx hb hr hlocks hh ⟨q35, y36, q37, q33, y34, rfl, rfl, rfl⟩ [0, 2, 3, 4, 1] [2, 0] rfl rfl rfl (Nat.le_of_ble_eq_true rfl) (Nat.le_of_ble_eq_true rfl) dX11_silence_42
def wo_a27_X11_thrown : List Cond := [Cond.fieldLink RX11 46 "SegueworksModel" "thrown" "I"]
def wk_a27_X11_thrown : List Cond := Cond.code yX11_thrown cX11_thrown 1 (some .int) :: (wo_a27_X11_thrown ++ (u_ws RX11 TX11 11))
theorem wo_a27_X11_thrown_in : ∀ w ∈ wo_a27_X11_thrown, w ∈ wk_a27_X11_thrown := fun w h => List.mem_cons_of_mem _ (List.mem_append_left _ h)
theorem ws_a27_X11_thrown_0 : ∀ w ∈ u_ws RX11 TX11 11, w ∈ wk_a27_X11_thrown := fun w h => List.mem_cons_of_mem _ (List.mem_append_right _ h)
theorem gk_a27_X11_thrown : ∀ w ∈ wk_a27_X11_thrown, goodWord w = true := List.forall_mem_cons.mpr ⟨rfl, (List.forall_mem_append.mpr ⟨(show ∀ w ∈ wo_a27_X11_thrown, goodWord w = true by decide +kernel), (show ∀ w ∈ u_ws RX11 TX11 11, goodWord w = true by decide +kernel)⟩)⟩
set_option maxHeartbeats 4000000 in
set_option maxRecDepth 100000 in
theorem a27_X11_thrown (l : Launch) (hst : l.stackTraces = false) (D : va_G) (e0 : kE) (q15 : Nat) (q16 : Nat) (q17 : Nat) (q18 : Nat) (q19 : Nat) (q20 : Nat) (q21 : Nat) (q22 : Nat) (q23 : Nat)  : kM l yX11_thrown wk_a27_X11_thrown 0 0 0 0 D kStr e0 [] [(q15, .inr (16, [.int 0, .ref q16, .ref q17, .ref q18, .ref q19, .ref q20, .ref q21, .ref q22, .ref q23, .int 0, .int 0]))] [.ref q15] (fun v w t => v = some (.int 0) ∧ w = [(q15, .inr (16, [.int 0, .ref q16, .ref q17, .ref q18, .ref q19, .ref q20, .ref q21, .ref q22, .ref q23, .int 0, .int 0]))] ∧ t = []) (fun _ => False) := by
  refine k_of (cc := cX11_thrown) (maxL := 1) (ret := (some .int)) (by decide) rfl (Nat.le_of_ble_eq_true rfl) ?_
  intro p e s m args below meth c A ls hx hb hr hts hown hlocks hml hex hh hl
  have hown : s.vm.findClass RX11 = some m.cls := hown
  have hl : lv_has ls 1 [(0, .ref q15)] := hl
  refine lv_aload_n hx hb dX11_thrown_0 rfl (lv_at hl 0 rfl) ?_
  refine k_get (C := RX11) (T := TX11) (N := 11) (ci := 16) (v := .int 0) hx hb hts ws_a27_X11_thrown_0 hown hh 0 rfl rfl 0 (by decide) (hts _ (wo_a27_X11_thrown_in _ (List.mem_of_getElem? (i := 0) rfl))) rfl dX11_thrown_1 ?_
  exact k_endi hx hb hr hlocks hh ⟨rfl, rfl, rfl⟩ [0] [] rfl rfl rfl (Nat.le_of_ble_eq_true rfl) (Nat.le_of_ble_eq_true rfl) dX11_thrown_4
def wo_a28_X6_needIndex : List Cond := []
def wk_a28_X6_needIndex : List Cond := Cond.code yX6_needIndex cX6_needIndex 2 none :: wo_a28_X6_needIndex
theorem wo_a28_X6_needIndex_in : ∀ w ∈ wo_a28_X6_needIndex, w ∈ wk_a28_X6_needIndex := fun w h => List.mem_cons_of_mem _ h
theorem gk_a28_X6_needIndex : ∀ w ∈ wk_a28_X6_needIndex, goodWord w = true := List.forall_mem_cons.mpr ⟨rfl, (show ∀ w ∈ wo_a28_X6_needIndex, goodWord w = true by decide +kernel)⟩
set_option maxHeartbeats 4000000 in
set_option maxRecDepth 100000 in
theorem a28_X6_needIndex (l : Launch) (hst : l.stackTraces = false) (D : va_G) (e0 : kE)   : kM l yX6_needIndex wk_a28_X6_needIndex 0 0 0 0 D kStr e0 [] [] [.int 0, .int 1] (fun v w t => v = none ∧ w = [] ∧ t = []) (fun _ => False) := by
  refine k_of (cc := cX6_needIndex) (maxL := 2) (ret := none) (by decide) rfl (Nat.le_of_ble_eq_true rfl) ?_
  intro p e s m args below meth c A ls hx hb hr hts hown hlocks hml hex hh hl
  have hown : s.vm.findClass RX6 = some m.cls := hown
  have hl : lv_has ls 2 [(0, .int 0), (1, .int 1)] := hl
  refine lv_iload_n hx hb dX6_needIndex_0 rfl (lv_at hl 0 rfl) ?_
  refine lv_if_lt (tgt := 9) hx hb dX6_needIndex_1 (by decide) (fun c_1 => absurd c_1 (by decide)) (fun _ => ?_)
  refine lv_iload_n hx hb dX6_needIndex_4 rfl (lv_at hl 0 rfl) ?_
  refine lv_iload_n hx hb dX6_needIndex_5 rfl (lv_at hl 1 rfl) ?_
  refine lv_icmp_lt (tgt := 20) hx hb dX6_needIndex_6 (by decide) (fun _ => ?_) (fun c_6 => absurd (by decide) c_6)
  exact k_endv hx hb hr hlocks hh ⟨rfl, rfl, rfl⟩ [] [] rfl rfl rfl (Nat.le_of_ble_eq_true rfl) (Nat.le_of_ble_eq_true rfl) dX6_needIndex_20
def wo_a29_X6_knownPiece : List Cond := [Cond.fieldLink RX6 340 "Segueworks" "pieceCount" "I", Cond.fieldLink RX6 17 "Segueworks" "pieces" "[LSegueworks$Piece;"]
def wk_a29_X6_knownPiece : List Cond := Cond.code yX6_knownPiece cX6_knownPiece 2 (some (.object "Segueworks$Piece")) :: (wo_a29_X6_knownPiece ++ ((u_ws RX6 TX6 8) ++ (va_wsS RX6 193 yX6_needIndex wk_a28_X6_needIndex)))
theorem wo_a29_X6_knownPiece_in : ∀ w ∈ wo_a29_X6_knownPiece, w ∈ wk_a29_X6_knownPiece := fun w h => List.mem_cons_of_mem _ (List.mem_append_left _ h)
theorem ws_a29_X6_knownPiece_0 : ∀ w ∈ u_ws RX6 TX6 8, w ∈ wk_a29_X6_knownPiece := fun w h => List.mem_cons_of_mem _ (List.mem_append_right _ (List.mem_append_left _ h))
theorem gi_a29_X6_knownPiece_1 : GoodIn wk_a29_X6_knownPiece (va_wsS RX6 193 yX6_needIndex wk_a28_X6_needIndex) := fun w h => ⟨List.mem_cons_of_mem _ (List.mem_append_right _ (List.mem_append_right _ h)), good_of_word (kg_S gk_a28_X6_needIndex w h)⟩
theorem gk_a29_X6_knownPiece : ∀ w ∈ wk_a29_X6_knownPiece, goodWord w = true := List.forall_mem_cons.mpr ⟨rfl, (List.forall_mem_append.mpr ⟨(show ∀ w ∈ wo_a29_X6_knownPiece, goodWord w = true by decide +kernel), (List.forall_mem_append.mpr ⟨(show ∀ w ∈ u_ws RX6 TX6 8, goodWord w = true by decide +kernel), (kg_S gk_a28_X6_needIndex)⟩)⟩)⟩
set_option maxHeartbeats 4000000 in
set_option maxRecDepth 100000 in
theorem a29_X6_knownPiece (l : Launch) (hst : l.stackTraces = false) (D : va_G) (e0 : kE) (q1 : Nat) (q2 : Nat) (q3 : Nat) (q4 : Nat) (q5 : Nat) (q6 : Nat) (y7 : ClassId) (q29 : Nat)  : kM l yX6_knownPiece wk_a29_X6_knownPiece 1 21 0 0 D kStr e0 [(y7, .object "Segueworks$Piece")] [(q1, .inr (11, [.ref q2, .int 0, .ref q3, .int 1, .ref q4, .ref q5, .ref q6, .int 0])), (q3, .inl (y7, 24, .inr (.inr (.inr (.inr (va_up ((fun _ => none)) (0 : Int32).toNatClampNeg (some q29)))))))] [.ref q1, .int 0] (fun v w t => v = some (.ref q29) ∧ w = [(q1, .inr (11, [.ref q2, .int 0, .ref q3, .int 1, .ref q4, .ref q5, .ref q6, .int 0])), (q3, .inl (y7, 24, .inr (.inr (.inr (.inr (va_up ((fun _ => none)) (0 : Int32).toNatClampNeg (some q29)))))))] ∧ t = [(y7, .object "Segueworks$Piece")]) (fun _ => False) := by
  refine k_of (cc := cX6_knownPiece) (maxL := 2) (ret := (some (.object "Segueworks$Piece"))) (by decide) rfl (Nat.le_of_ble_eq_true rfl) ?_
  intro p e s m args below meth c A ls hx hb hr hts hown hlocks hml hex hh hl
  have hown : s.vm.findClass RX6 = some m.cls := hown
  have hl : lv_has ls 2 [(0, .ref q1), (1, .int 0)] := hl
  refine lv_iload_n hx hb dX6_knownPiece_0 rfl (lv_at hl 1 rfl) ?_
  refine lv_aload_n hx hb dX6_knownPiece_1 rfl (lv_at hl 0 rfl) ?_
  refine k_get (C := RX6) (T := TX6) (N := 8) (ci := 11) (v := .int 1) hx hb hts ws_a29_X6_knownPiece_0 hown hh 0 rfl rfl 3 (by decide) (hts _ (wo_a29_X6_knownPiece_in _ (List.mem_of_getElem? (i := 0) rfl))) rfl dX6_knownPiece_2 ?_
  refine k_callS (wr := [(q1, .inr (11, [.ref q2, .int 0, .ref q3, .int 1, .ref q4, .ref q5, .ref q6, .int 0])), (q3, .inl (y7, 24, .inr (.inr (.inr (.inr (va_up ((fun _ => none)) (0 : Int32).toNatClampNeg (some q29)))))))]) (rest := []) (own := RX6) ⟨hx, hb, hml, hown, hts⟩ (a28_X6_needIndex l hst D e0  ) (va_cwS 2 hts gi_a29_X6_knownPiece_1 rfl rfl rfl (by decide +kernel) ⟨Nat.le_of_ble_eq_true rfl, Nat.le_of_ble_eq_true rfl⟩) hh [] [0, 1] [] rfl rfl rfl rfl (by decide) rfl rfl hl rfl (Nat.le_of_ble_eq_true rfl) dX6_knownPiece_5 ⟨Nat.le_of_ble_eq_true rfl, (Nat.le_of_ble_eq_true rfl)⟩ (fun _ _ _ _ _ h => h.elim) (fun v w ty1 H locs hp hh => ?_)
  obtain ⟨rfl, rfl, rfl⟩ := hp
  have hh : kH D kStr e0 A s H [(q1, .inr (11, [.ref q2, .int 0, .ref q3, .int 1, .ref q4, .ref q5, .ref q6, .int 0])), (q3, .inl (y7, 24, .inr (.inr (.inr (.inr (va_up ((fun _ => none)) (0 : Int32).toNatClampNeg (some q29)))))))] [(y7, .object "Segueworks$Piece")] _ := hh
  refine W.eq (g2 := F0 m 8 ls []) (by first | rfl | decide) ?_
  refine lv_aload_n hx hb dX6_knownPiece_8 rfl (lv_at hl 0 rfl) ?_
  refine k_get (C := RX6) (T := TX6) (N := 8) (ci := 11) (v := .ref q3) hx hb hts ws_a29_X6_knownPiece_0 hown hh 0 rfl rfl 2 (by decide) (hts _ (wo_a29_X6_knownPiece_in _ (List.mem_of_getElem? (i := 1) rfl))) rfl dX6_knownPiece_9 ?_
  refine lv_iload_n hx hb dX6_knownPiece_12 rfl (lv_at hl 1 rfl) ?_
  refine k_aldq (v := q29) hx hb hh 1 0 rfl rfl (by unfold vp_in; decide) (by first | rfl | simp [va_up]) dX6_knownPiece_13 ?_
  exact k_enda (by first | exact Or.inl ⟨_, rfl⟩ | exact Or.inr ⟨_, rfl⟩) (by first | exact Or.inr ⟨_, rfl⟩ | exact Or.inl rfl) hx hb hr hlocks hh ⟨rfl, rfl, rfl⟩ [0, 1] [0] rfl rfl rfl (Nat.le_of_ble_eq_true rfl) (Nat.le_of_ble_eq_true rfl) dX6_knownPiece_14
def wo_a30_X6_needRange : List Cond := []
def wk_a30_X6_needRange : List Cond := Cond.code yX6_needRange cX6_needRange 3 none :: wo_a30_X6_needRange
theorem wo_a30_X6_needRange_in : ∀ w ∈ wo_a30_X6_needRange, w ∈ wk_a30_X6_needRange := fun w h => List.mem_cons_of_mem _ h
theorem gk_a30_X6_needRange : ∀ w ∈ wk_a30_X6_needRange, goodWord w = true := List.forall_mem_cons.mpr ⟨rfl, (show ∀ w ∈ wo_a30_X6_needRange, goodWord w = true by decide +kernel)⟩
set_option maxHeartbeats 4000000 in
set_option maxRecDepth 100000 in
theorem a30_X6_needRange (l : Launch) (hst : l.stackTraces = false) (D : va_G) (e0 : kE)   : kM l yX6_needRange wk_a30_X6_needRange 0 0 0 0 D kStr e0 [] [] [.int 0, .int 0, .int 187] (fun v w t => v = none ∧ w = [] ∧ t = []) (fun _ => False) := by
  refine k_of (cc := cX6_needRange) (maxL := 3) (ret := none) (by decide) rfl (Nat.le_of_ble_eq_true rfl) ?_
  intro p e s m args below meth c A ls hx hb hr hts hown hlocks hml hex hh hl
  have hown : s.vm.findClass RX6 = some m.cls := hown
  have hl : lv_has ls 3 [(0, .int 0), (1, .int 0), (2, .int 187)] := hl
  refine lv_iload_n hx hb dX6_needRange_0 rfl (lv_at hl 0 rfl) ?_
  refine lv_iload_n hx hb dX6_needRange_1 rfl (lv_at hl 1 rfl) ?_
  refine lv_icmp_lt (tgt := 10) hx hb dX6_needRange_2 (by decide) (fun c_2 => absurd c_2 (by decide)) (fun _ => ?_)
  refine lv_iload_n hx hb dX6_needRange_5 rfl (lv_at hl 0 rfl) ?_
  refine lv_iload_n hx hb dX6_needRange_6 rfl (lv_at hl 2 rfl) ?_
  refine lv_icmp_le (tgt := 21) hx hb dX6_needRange_7 (by decide) (fun _ => ?_) (fun c_7 => absurd (by decide) c_7)
  exact k_endv hx hb hr hlocks hh ⟨rfl, rfl, rfl⟩ [] [] rfl rfl rfl (Nat.le_of_ble_eq_true rfl) (Nat.le_of_ble_eq_true rfl) dX6_needRange_21
def wo_a31_X6_needPieceLength : List Cond := []
def wk_a31_X6_needPieceLength : List Cond := Cond.code yX6_needPieceLength cX6_needPieceLength 1 none :: wo_a31_X6_needPieceLength
theorem wo_a31_X6_needPieceLength_in : ∀ w ∈ wo_a31_X6_needPieceLength, w ∈ wk_a31_X6_needPieceLength := fun w h => List.mem_cons_of_mem _ h
theorem gk_a31_X6_needPieceLength : ∀ w ∈ wk_a31_X6_needPieceLength, goodWord w = true := List.forall_mem_cons.mpr ⟨rfl, (show ∀ w ∈ wo_a31_X6_needPieceLength, goodWord w = true by decide +kernel)⟩
set_option maxHeartbeats 4000000 in
set_option maxRecDepth 100000 in
theorem a31_X6_needPieceLength (l : Launch) (hst : l.stackTraces = false) (D : va_G) (e0 : kE)   : kM l yX6_needPieceLength wk_a31_X6_needPieceLength 0 0 0 0 D kStr e0 [] [] [.int 374] (fun v w t => v = none ∧ w = [] ∧ t = []) (fun _ => False) := by
  refine k_of (cc := cX6_needPieceLength) (maxL := 1) (ret := none) (by decide) rfl (Nat.le_of_ble_eq_true rfl) ?_
  intro p e s m args below meth c A ls hx hb hr hts hown hlocks hml hex hh hl
  have hown : s.vm.findClass RX6 = some m.cls := hown
  have hl : lv_has ls 1 [(0, .int 374)] := hl
  refine lv_iload_n hx hb dX6_needPieceLength_0 rfl (lv_at hl 0 rfl) ?_
  refine lv_sipush (v := 800) hx hb dX6_needPieceLength_1 (by decide) ?_
  refine lv_icmp_le (tgt := 18) hx hb dX6_needPieceLength_4 (by decide) (fun _ => ?_) (fun c_4 => absurd (by decide) c_4)
  exact k_endv hx hb hr hlocks hh ⟨rfl, rfl, rfl⟩ [] [] rfl rfl rfl (Nat.le_of_ble_eq_true rfl) (Nat.le_of_ble_eq_true rfl) dX6_needPieceLength_18
def wo_a32_X6_needPieceRoom : List Cond := [Cond.fieldLink RX6 340 "Segueworks" "pieceCount" "I"]
def wk_a32_X6_needPieceRoom : List Cond := Cond.code yX6_needPieceRoom cX6_needPieceRoom 1 none :: (wo_a32_X6_needPieceRoom ++ (u_ws RX6 TX6 8))
theorem wo_a32_X6_needPieceRoom_in : ∀ w ∈ wo_a32_X6_needPieceRoom, w ∈ wk_a32_X6_needPieceRoom := fun w h => List.mem_cons_of_mem _ (List.mem_append_left _ h)
theorem ws_a32_X6_needPieceRoom_0 : ∀ w ∈ u_ws RX6 TX6 8, w ∈ wk_a32_X6_needPieceRoom := fun w h => List.mem_cons_of_mem _ (List.mem_append_right _ h)
theorem gk_a32_X6_needPieceRoom : ∀ w ∈ wk_a32_X6_needPieceRoom, goodWord w = true := List.forall_mem_cons.mpr ⟨rfl, (List.forall_mem_append.mpr ⟨(show ∀ w ∈ wo_a32_X6_needPieceRoom, goodWord w = true by decide +kernel), (show ∀ w ∈ u_ws RX6 TX6 8, goodWord w = true by decide +kernel)⟩)⟩
set_option maxHeartbeats 4000000 in
set_option maxRecDepth 100000 in
theorem a32_X6_needPieceRoom (l : Launch) (hst : l.stackTraces = false) (D : va_G) (e0 : kE) (q1 : Nat) (q2 : Nat) (q3 : Nat) (q4 : Nat) (q5 : Nat) (q6 : Nat)  : kM l yX6_needPieceRoom wk_a32_X6_needPieceRoom 0 0 0 0 D kStr e0 [] [(q1, .inr (11, [.ref q2, .int 0, .ref q3, .int 1, .ref q4, .ref q5, .ref q6, .int 0]))] [.ref q1] (fun v w t => v = none ∧ w = [(q1, .inr (11, [.ref q2, .int 0, .ref q3, .int 1, .ref q4, .ref q5, .ref q6, .int 0]))] ∧ t = []) (fun _ => False) := by
  refine k_of (cc := cX6_needPieceRoom) (maxL := 1) (ret := none) (by decide) rfl (Nat.le_of_ble_eq_true rfl) ?_
  intro p e s m args below meth c A ls hx hb hr hts hown hlocks hml hex hh hl
  have hown : s.vm.findClass RX6 = some m.cls := hown
  have hl : lv_has ls 1 [(0, .ref q1)] := hl
  refine lv_aload_n hx hb dX6_needPieceRoom_0 rfl (lv_at hl 0 rfl) ?_
  refine k_get (C := RX6) (T := TX6) (N := 8) (ci := 11) (v := .int 1) hx hb hts ws_a32_X6_needPieceRoom_0 hown hh 0 rfl rfl 3 (by decide) (hts _ (wo_a32_X6_needPieceRoom_in _ (List.mem_of_getElem? (i := 0) rfl))) rfl dX6_needPieceRoom_1 ?_
  refine lv_bipush (v := 24) hx hb dX6_needPieceRoom_4 (by decide) ?_
  refine lv_icmp_lt (tgt := 20) hx hb dX6_needPieceRoom_6 (by decide) (fun _ => ?_) (fun c_6 => absurd (by decide) c_6)
  exact k_endv hx hb hr hlocks hh ⟨rfl, rfl, rfl⟩ [0] [] rfl rfl rfl (Nat.le_of_ble_eq_true rfl) (Nat.le_of_ble_eq_true rfl) dX6_needPieceRoom_20
def wo_a33_X2_init : List Cond := [Cond.methodLink RX2 3 objectInit, Cond.instanceMethod objectInit, Cond.code objectInit ⟨#[0xb1]⟩ 1 none, Cond.fieldLink RX2 9 "Segueworks$Piece" "kind" "C", Cond.fieldLink RX2 15 "Segueworks$Piece" "source" "[I", Cond.fieldLink RX2 19 "Segueworks$Piece" "second" "[I", Cond.fieldLink RX2 22 "Segueworks$Piece" "setting" "I", Cond.fieldLink RX2 26 "Segueworks$Piece" "setting2" "I", Cond.fieldLink RX2 29 "Segueworks$Piece" "release" "I", Cond.arrayClass .int, Cond.fieldLink RX2 32 "Segueworks$Piece" "samples" "[I", Cond.fieldLink RX2 35 "Segueworks$Piece" "carries" "[I"]
def wk_a33_X2_init : List Cond := Cond.code yX2_init cX2_init 8 none :: (wo_a33_X2_init ++ (u_ws RX2 TX2 9))
theorem wo_a33_X2_init_in : ∀ w ∈ wo_a33_X2_init, w ∈ wk_a33_X2_init := fun w h => List.mem_cons_of_mem _ (List.mem_append_left _ h)
theorem ws_a33_X2_init_0 : ∀ w ∈ u_ws RX2 TX2 9, w ∈ wk_a33_X2_init := fun w h => List.mem_cons_of_mem _ (List.mem_append_right _ h)
theorem gk_a33_X2_init : ∀ w ∈ wk_a33_X2_init, goodWord w = true := List.forall_mem_cons.mpr ⟨rfl, (List.forall_mem_append.mpr ⟨(show ∀ w ∈ wo_a33_X2_init, goodWord w = true by decide +kernel), (show ∀ w ∈ u_ws RX2 TX2 9, goodWord w = true by decide +kernel)⟩)⟩
set_option maxHeartbeats 4000000 in
set_option maxRecDepth 100000 in
theorem a33_X2_init (l : Launch) (hst : l.stackTraces = false) (D : va_G) (e0 : kE) (q39 : Nat) (q30 : Nat)  : kI l yX2_init wk_a33_X2_init 1 20 2 374 D kStr e0 [] [(q39, .inr (7, [.int 0, .null, .null, .null, .int 0, .int 0, .int 0, .null, .int 0]))] [.ref q39, .int 120, .int 374, .ref q30, .ref q30, .int 0, .int 0, .int 0] (fun v w t => ∃ (q40 : Nat), ∃ (q42 : Nat), ∃ (y41 : ClassId), ∃ (y43 : ClassId), v = none ∧ w = [(q39, .inr (7, [.int 120, .ref q40, .ref q30, .ref q30, .int 0, .int 0, .int 0, .ref q42, .int 0])), (q40, .inl (y41, 374, .inl (fun _ => 0))), (q42, .inl (y43, 0, .inl (fun _ => 0)))] ∧ t = [(y41, .int), (y43, .int)]) := by
  refine k_ofI (cc := cX2_init) (maxL := 8) (ret := none) (by decide) rfl (Nat.le_of_ble_eq_true rfl) ?_
  intro p e s m args below meth c A ls hx hb hr hts hown hlocks hml hin hh hl
  have hown : s.vm.findClass RX2 = some m.cls := hown
  have hl : lv_has ls 8 [(0, .ref q39), (1, .int 120), (2, .int 374), (3, .ref q30), (4, .ref q30), (5, .int 0), (6, .int 0), (7, .int 0)] := hl
  have hin : meth.name = "<init>" := hin
  refine lv_aload_n hx hb dX2_init_0 rfl (lv_at hl 0 rfl) ?_
  refine W.objInit hx hb hown (hts _ (wo_a33_X2_init_in _ (List.mem_of_getElem? (i := 0) rfl))) (hts _ (wo_a33_X2_init_in _ (List.mem_of_getElem? (i := 1) rfl))) (hts _ (wo_a33_X2_init_in _ (List.mem_of_getElem? (i := 2) rfl))) rfl (by rw [hml]; exact hl.1) rfl dX2_init_1 (Nat.le_of_ble_eq_true rfl) (Nat.le_of_ble_eq_true rfl) ?_
  refine W.eq (g2 := F0 m 4 ls []) rfl ?_
  refine lv_aload_n hx hb dX2_init_4 rfl (lv_at hl 0 rfl) ?_
  refine lv_iload_n hx hb dX2_init_5 rfl (lv_at hl 1 rfl) ?_
  refine k_putF (C := RX2) (T := TX2) (N := 9) (ci := 7) (v := .int 120) (ws' := [(q39, .inr (7, [.int 120, .null, .null, .null, .int 0, .int 0, .int 0, .null, .int 0]))]) hx hb hts ws_a33_X2_init_0 tyX2 tyX2_ok nmX2 hown hh 0 rfl rfl 0 (by decide) (hts _ (wo_a33_X2_init_in _ (List.mem_of_getElem? (i := 3) rfl))) rfl hin rfl rfl rfl (Nat.le_of_ble_eq_true rfl) dX2_init_6 rfl (fun H locs hh => ?_)
  refine lv_aload_n hx hb dX2_init_9 rfl (lv_at hl 0 rfl) ?_
  refine lv_aload_n hx hb dX2_init_10 rfl (lv_at hl 3 rfl) ?_
  refine k_putF (C := RX2) (T := TX2) (N := 9) (ci := 7) (v := .ref q30) (ws' := [(q39, .inr (7, [.int 120, .null, .ref q30, .null, .int 0, .int 0, .int 0, .null, .int 0]))]) hx hb hts ws_a33_X2_init_0 tyX2 tyX2_ok nmX2 hown hh 0 rfl rfl 2 (by decide) (hts _ (wo_a33_X2_init_in _ (List.mem_of_getElem? (i := 4) rfl))) rfl hin rfl rfl rfl (Nat.le_of_ble_eq_true rfl) dX2_init_11 rfl (fun H locs hh => ?_)
  refine lv_aload_n hx hb dX2_init_14 rfl (lv_at hl 0 rfl) ?_
  refine lv_aload hx hb dX2_init_15 (lv_at hl 4 rfl) ?_
  refine k_putF (C := RX2) (T := TX2) (N := 9) (ci := 7) (v := .ref q30) (ws' := [(q39, .inr (7, [.int 120, .null, .ref q30, .ref q30, .int 0, .int 0, .int 0, .null, .int 0]))]) hx hb hts ws_a33_X2_init_0 tyX2 tyX2_ok nmX2 hown hh 0 rfl rfl 3 (by decide) (hts _ (wo_a33_X2_init_in _ (List.mem_of_getElem? (i := 5) rfl))) rfl hin rfl rfl rfl (Nat.le_of_ble_eq_true rfl) dX2_init_17 rfl (fun H locs hh => ?_)
  refine lv_aload_n hx hb dX2_init_20 rfl (lv_at hl 0 rfl) ?_
  refine lv_iload hx hb dX2_init_21 (lv_at hl 5 rfl) ?_
  refine k_putF (C := RX2) (T := TX2) (N := 9) (ci := 7) (v := .int 0) (ws' := [(q39, .inr (7, [.int 120, .null, .ref q30, .ref q30, .int 0, .int 0, .int 0, .null, .int 0]))]) hx hb hts ws_a33_X2_init_0 tyX2 tyX2_ok nmX2 hown hh 0 rfl rfl 4 (by decide) (hts _ (wo_a33_X2_init_in _ (List.mem_of_getElem? (i := 6) rfl))) rfl hin rfl rfl rfl (Nat.le_of_ble_eq_true rfl) dX2_init_23 rfl (fun H locs hh => ?_)
  refine lv_aload_n hx hb dX2_init_26 rfl (lv_at hl 0 rfl) ?_
  refine lv_iload hx hb dX2_init_27 (lv_at hl 6 rfl) ?_
  refine k_putF (C := RX2) (T := TX2) (N := 9) (ci := 7) (v := .int 0) (ws' := [(q39, .inr (7, [.int 120, .null, .ref q30, .ref q30, .int 0, .int 0, .int 0, .null, .int 0]))]) hx hb hts ws_a33_X2_init_0 tyX2 tyX2_ok nmX2 hown hh 0 rfl rfl 5 (by decide) (hts _ (wo_a33_X2_init_in _ (List.mem_of_getElem? (i := 7) rfl))) rfl hin rfl rfl rfl (Nat.le_of_ble_eq_true rfl) dX2_init_29 rfl (fun H locs hh => ?_)
  refine lv_aload_n hx hb dX2_init_32 rfl (lv_at hl 0 rfl) ?_
  refine lv_iload hx hb dX2_init_33 (lv_at hl 7 rfl) ?_
  refine k_putF (C := RX2) (T := TX2) (N := 9) (ci := 7) (v := .int 0) (ws' := [(q39, .inr (7, [.int 120, .null, .ref q30, .ref q30, .int 0, .int 0, .int 0, .null, .int 0]))]) hx hb hts ws_a33_X2_init_0 tyX2 tyX2_ok nmX2 hown hh 0 rfl rfl 6 (by decide) (hts _ (wo_a33_X2_init_in _ (List.mem_of_getElem? (i := 8) rfl))) rfl hin rfl rfl rfl (Nat.le_of_ble_eq_true rfl) dX2_init_35 rfl (fun H locs hh => ?_)
  refine lv_aload_n hx hb dX2_init_38 rfl (lv_at hl 0 rfl) ?_
  refine lv_iload_n hx hb dX2_init_39 rfl (lv_at hl 2 rfl) ?_
  refine k_newa (atype := .int) (ty := .int) (N' := 374) (a0 := (374, .inl (fun _ => 0))) hx hb (hts _ (wo_a33_X2_init_in _ (List.mem_of_getElem? (i := 9) rfl))) rfl hh (fun cA => rfl) (by decide) (by decide) (Nat.le_of_ble_eq_true rfl) (Nat.le_of_ble_eq_true rfl) (Nat.le_of_ble_eq_true rfl) dX2_init_40 (fun q40 y41 H hh => ?_)
  have hh : kH D kStr e0 A s H [(q39, .inr (7, [.int 120, .null, .ref q30, .ref q30, .int 0, .int 0, .int 0, .null, .int 0])), (q40, .inl (y41, 374, .inl (fun _ => 0)))] [(y41, .int)] _ := hh
  refine k_putF (C := RX2) (T := TX2) (N := 9) (ci := 7) (v := .ref q40) (ws' := [(q39, .inr (7, [.int 120, .ref q40, .ref q30, .ref q30, .int 0, .int 0, .int 0, .null, .int 0])), (q40, .inl (y41, 374, .inl (fun _ => 0)))]) hx hb hts ws_a33_X2_init_0 tyX2 tyX2_ok nmX2 hown hh 0 rfl rfl 1 (by decide) (hts _ (wo_a33_X2_init_in _ (List.mem_of_getElem? (i := 10) rfl))) rfl hin rfl rfl rfl (Nat.le_of_ble_eq_true rfl) dX2_init_42 rfl (fun H locs hh => ?_)
  refine lv_aload_n hx hb dX2_init_45 rfl (lv_at hl 0 rfl) ?_
  refine lv_iload_n hx hb dX2_init_46 rfl (lv_at hl 1 rfl) ?_
  refine lv_bipush (v := 108) hx hb dX2_init_47 (by decide) ?_
  refine lv_icmp_eq (tgt := 58) hx hb dX2_init_49 (by decide) (fun c_49 => absurd c_49 (by decide)) (fun _ => ?_)
  refine lv_iload_n hx hb dX2_init_52 rfl (lv_at hl 1 rfl) ?_
  refine lv_bipush (v := 100) hx hb dX2_init_53 (by decide) ?_
  refine lv_icmp_ne (tgt := 62) hx hb dX2_init_55 (by decide) (fun _ => ?_) (fun c_55 => absurd c_55 (by decide))
  refine lv_iconst (v := 0) hx hb dX2_init_62 (by decide) ?_
  refine k_newa (atype := .int) (ty := .int) (N' := 0) (a0 := (0, .inl (fun _ => 0))) hx hb (hts _ (wo_a33_X2_init_in _ (List.mem_of_getElem? (i := 9) rfl))) rfl hh (fun cA => rfl) (by decide) (by decide) (Nat.le_of_ble_eq_true rfl) (Nat.le_of_ble_eq_true rfl) (Nat.le_of_ble_eq_true rfl) dX2_init_63 (fun q42 y43 H hh => ?_)
  have hh : kH D kStr e0 A s H [(q39, .inr (7, [.int 120, .ref q40, .ref q30, .ref q30, .int 0, .int 0, .int 0, .null, .int 0])), (q40, .inl (y41, 374, .inl (fun _ => 0))), (q42, .inl (y43, 0, .inl (fun _ => 0)))] [(y41, .int), (y43, .int)] _ := hh
  refine k_putF (C := RX2) (T := TX2) (N := 9) (ci := 7) (v := .ref q42) (ws' := [(q39, .inr (7, [.int 120, .ref q40, .ref q30, .ref q30, .int 0, .int 0, .int 0, .ref q42, .int 0])), (q40, .inl (y41, 374, .inl (fun _ => 0))), (q42, .inl (y43, 0, .inl (fun _ => 0)))]) hx hb hts ws_a33_X2_init_0 tyX2 tyX2_ok nmX2 hown hh 0 rfl rfl 7 (by decide) (hts _ (wo_a33_X2_init_in _ (List.mem_of_getElem? (i := 11) rfl))) rfl hin rfl rfl rfl (Nat.le_of_ble_eq_true rfl) dX2_init_65 rfl (fun H locs hh => ?_)
  exact k_endV hx hb hr hlocks hh ⟨q40, q42, y41, y43, rfl, rfl, rfl⟩ [0, 1, 2] [0, 1] rfl rfl rfl (Nat.le_of_ble_eq_true rfl) (Nat.le_of_ble_eq_true rfl) dX2_init_68
def wo_a34_X2_fill : List Cond := [Cond.fieldLink RX2 32 "Segueworks$Piece" "samples" "[I", Cond.fieldLink RX2 35 "Segueworks$Piece" "carries" "[I", Cond.fieldLink RX2 45 "Segueworks$Piece" "width" "I"]
def wk_a34_X2_fill : List Cond := Cond.code yX2_fill cX2_fill 2 none :: (wo_a34_X2_fill ++ ((u_ws RX2 TX2 9) ++ ((wsV RX2 42 RX2 yX2_workedOut wk_c_wo_x_187) ++ (va_wsS RX2 48 yX2_widthOf wk_a12_X2_widthOf))))
theorem wo_a34_X2_fill_in : ∀ w ∈ wo_a34_X2_fill, w ∈ wk_a34_X2_fill := fun w h => List.mem_cons_of_mem _ (List.mem_append_left _ h)
theorem ws_a34_X2_fill_0 : ∀ w ∈ u_ws RX2 TX2 9, w ∈ wk_a34_X2_fill := fun w h => List.mem_cons_of_mem _ (List.mem_append_right _ (List.mem_append_left _ h))
theorem gi_a34_X2_fill_1 : GoodIn wk_a34_X2_fill (wsV RX2 42 RX2 yX2_workedOut wk_c_wo_x_187) := fun w h => ⟨List.mem_cons_of_mem _ (List.mem_append_right _ (List.mem_append_right _ (List.mem_append_left _ h))), good_of_word (kg_V gk_c_wo_x_187 w h)⟩
theorem gi_a34_X2_fill_2 : GoodIn wk_a34_X2_fill (va_wsS RX2 48 yX2_widthOf wk_a12_X2_widthOf) := fun w h => ⟨List.mem_cons_of_mem _ (List.mem_append_right _ (List.mem_append_right _ (List.mem_append_right _ h))), good_of_word (kg_S gk_a12_X2_widthOf w h)⟩
theorem gk_a34_X2_fill : ∀ w ∈ wk_a34_X2_fill, goodWord w = true := List.forall_mem_cons.mpr ⟨rfl, (List.forall_mem_append.mpr ⟨(show ∀ w ∈ wo_a34_X2_fill, goodWord w = true by decide +kernel), (List.forall_mem_append.mpr ⟨(show ∀ w ∈ u_ws RX2 TX2 9, goodWord w = true by decide +kernel), (List.forall_mem_append.mpr ⟨(kg_V gk_c_wo_x_187), (kg_S gk_a12_X2_widthOf)⟩)⟩)⟩)⟩
set_option maxHeartbeats 4000000 in
set_option maxRecDepth 100000 in
theorem lp_a34_X2_fill (l : Launch) (hst : l.stackTraces = false) {p : Program} {e : Env} {s : State} {m : MethodId} {args : Array Value} {below : List Frame} {meth : Method} {c : Code} {Q : State → Prop} {A : Nat → Prop} (hx : p.tables.exec = Jvm.exec) (hb : c.code = cX2_fill) (hts : ∀ w ∈ wk_a34_X2_fill, w.before args s = true) (hown : s.vm.findClass RX2 = some m.cls) (hml : c.maxLocals = 2) (D : va_G) (e0 : kE) (q39 : Nat) (q40 : Nat) (q30 : Nat) (q41 : Nat) (y42 : ClassId) (y32 : ClassId) (y43 : ClassId)  (kk : ∀ (H : Heap) (locs : List Loc) (ls : Array Slot), kH D kStr e0 A s H [(q39, .inr (7, [.int 120, .ref q40, .ref q30, .ref q30, .int 0, .int 0, .int 0, .ref q41, .int (nI (2 * 374))])), (q40, .inl (y42, 374, .inl (fun _ => 0))), (q30, .inl (y32, 187, .inl (fun _ => 0))), (q41, .inl (y43, 0, .inl (fun _ => 0)))] [(y32, .int), (y42, .int), (y43, .int)] locs → lv_has ls 2 [(1, .int (nI 374)), (0, .ref q39)] → W p l e (kRm 2 49 0 0) s m args below meth c H locs 0 0 Q (F0 m 66 ls [])) : ∀ (k i : Nat) (H : Heap) (locs : List Loc) (ls : Array Slot), k + i = 374 → kH D kStr e0 A s H [(q39, .inr (7, [.int 120, .ref q40, .ref q30, .ref q30, .int 0, .int 0, .int 0, .ref q41, .int (nI (2 * i))])), (q40, .inl (y42, 374, .inl (fun _ => 0))), (q30, .inl (y32, 187, .inl (fun _ => 0))), (q41, .inl (y43, 0, .inl (fun _ => 0)))] [(y32, .int), (y42, .int), (y43, .int)] locs → lv_has ls 2 [(1, .int (nI i)), (0, .ref q39)] → W p l e (kRm 2 49 0 0) s m args below meth c H locs 0 0 Q (F0 m 2 ls []) := by
  intro k
  induction k with
  | zero =>
    intro i H locs ls hi0 hh hl
    obtain rfl : i = 374 := by omega
    have hh : kH D kStr e0 A s H [(q39, .inr (7, [.int 120, .ref q40, .ref q30, .ref q30, .int 0, .int 0, .int 0, .ref q41, .int (nI (2 * 374))])), (q40, .inl (y42, 374, .inl (fun _ => 0))), (q30, .inl (y32, 187, .inl (fun _ => 0))), (q41, .inl (y43, 0, .inl (fun _ => 0)))] [(y32, .int), (y42, .int), (y43, .int)] _ := hh
    have hl : lv_has ls 2 [(1, .int (nI 374)), (0, .ref q39)] := hl
    refine lv_iload_n hx hb dX2_fill_2 rfl (lv_at hl 0 rfl) ?_
    refine lv_aload_n hx hb dX2_fill_3 rfl (lv_at hl 1 rfl) ?_
    refine k_get (C := RX2) (T := TX2) (N := 9) (ci := 7) (v := .ref q40) hx hb hts ws_a34_X2_fill_0 hown hh 0 rfl rfl 1 (by decide) (hts _ (wo_a34_X2_fill_in _ (List.mem_of_getElem? (i := 0) rfl))) rfl dX2_fill_4 ?_
    refine k_alen (v := 374) hx hb hh 1 1 rfl rfl rfl dX2_fill_7 ?_
    refine lv_icmp_ge (tgt := 66) hx hb dX2_fill_8 (by decide) (fun _ => ?_) (fun c_8 => absurd ((show (374 : Int32) ≤ nI 374 by decide)) c_8)
    exact kk _ _ _ hh (lv_sub hl [0, 1] rfl)
  | succ k ih =>
    intro i H locs ls hi0 hh hl
    have hi : i < 374 := by omega
    refine lv_iload_n hx hb dX2_fill_2 rfl (lv_at hl 0 rfl) ?_
    refine lv_aload_n hx hb dX2_fill_3 rfl (lv_at hl 1 rfl) ?_
    refine k_get (C := RX2) (T := TX2) (N := 9) (ci := 7) (v := .ref q40) hx hb hts ws_a34_X2_fill_0 hown hh 0 rfl rfl 1 (by decide) (hts _ (wo_a34_X2_fill_in _ (List.mem_of_getElem? (i := 0) rfl))) rfl dX2_fill_4 ?_
    refine k_alen (v := 374) hx hb hh 1 1 rfl rfl rfl dX2_fill_7 ?_
    refine lv_icmp_ge (tgt := 66) hx hb dX2_fill_8 (by decide) (fun c_8 => absurd c_8 ((show ¬ (374 : Int32) ≤ nI i from nI_ge (b := 374) hi (by omega)))) (fun _ => ?_)
    refine lv_iload_n hx hb dX2_fill_11 rfl (lv_at hl 0 rfl) ?_
    refine lv_aload_n hx hb dX2_fill_12 rfl (lv_at hl 1 rfl) ?_
    refine k_get (C := RX2) (T := TX2) (N := 9) (ci := 7) (v := .ref q41) hx hb hts ws_a34_X2_fill_0 hown hh 0 rfl rfl 7 (by decide) (hts _ (wo_a34_X2_fill_in _ (List.mem_of_getElem? (i := 1) rfl))) rfl dX2_fill_13 ?_
    refine k_alen (v := 0) hx hb hh 3 2 rfl rfl rfl dX2_fill_16 ?_
    refine lv_icmp_ge (tgt := 31) hx hb dX2_fill_17 (by decide) (fun _ => ?_) (fun c_17 => absurd (nI_pos' (by omega)) c_17)
    refine lv_aload_n hx hb dX2_fill_31 rfl (lv_at hl 1 rfl) ?_
    refine k_get (C := RX2) (T := TX2) (N := 9) (ci := 7) (v := .ref q40) hx hb hts ws_a34_X2_fill_0 hown hh 0 rfl rfl 1 (by decide) (hts _ (wo_a34_X2_fill_in _ (List.mem_of_getElem? (i := 0) rfl))) rfl dX2_fill_32 ?_
    refine lv_iload_n hx hb dX2_fill_35 rfl (lv_at hl 0 rfl) ?_
    refine lv_aload_n hx hb dX2_fill_36 rfl (lv_at hl 1 rfl) ?_
    refine lv_iload_n hx hb dX2_fill_37 rfl (lv_at hl 0 rfl) ?_
    refine k_callV (C := RX2) (T := TX2) (N := 9) (ci := 7) (q0 := 0) (wr := [(q40, .inl (y42, 374, .inl (fun _ => 0))), (q41, .inl (y43, 0, .inl (fun _ => 0)))]) (rest := [.int (nI i), .ref q40]) (own := RX2) ⟨hx, hb, hml, hown, hts⟩ (c_wo_x_187 l hst D e0 q39 q40 q41 ((nI (2 * i))) q30 y32 i hi) (cwV 1 hts gi_a34_X2_fill_1 rfl rfl rfl (by decide +kernel) ⟨Nat.le_of_ble_eq_true rfl, Nat.le_of_ble_eq_true rfl⟩) hh rfl rfl [0, 2] [1, 3] [0] rfl rfl rfl rfl (by decide) rfl rfl hl rfl (Nat.le_of_ble_eq_true rfl) dX2_fill_38 ⟨Nat.le_of_ble_eq_true rfl, (Nat.le_of_ble_eq_true rfl)⟩ (fun _ _ _ _ _ h => h.elim) (fun v w ty1 H locs hp hh => ?_)
    obtain ⟨rfl, rfl, rfl⟩ := hp
    have hh : kH D kStr e0 A s H [(q40, .inl (y42, 374, .inl (fun _ => 0))), (q41, .inl (y43, 0, .inl (fun _ => 0))), (q39, .inr (7, [.int 120, .ref q40, .ref q30, .ref q30, .int 0, .int 0, .int 0, .ref q41, .int (nI (2 * i))])), (q30, .inl (y32, 187, .inl (fun _ => 0)))] [(y32, .int), (y42, .int), (y43, .int), (y32, .int)] _ := hh
    refine W.eq (g2 := F0 m 41 ls [.int 0, .int (nI i), .ref q40]) (by first | rfl | decide) ?_
    refine k_iast0 hx hb hh 0 1 rfl rfl (vp_in_nI hi (by decide)) dX2_fill_41 (fun H locs hh => ?_)
    refine lv_aload_n hx hb dX2_fill_42 rfl (lv_at hl 1 rfl) ?_
    refine lv_dup hx hb dX2_fill_43 rfl ?_
    refine k_get (C := RX2) (T := TX2) (N := 9) (ci := 7) (v := .int (nI (2 * i))) hx hb hts ws_a34_X2_fill_0 hown hh 2 rfl rfl 8 (by decide) (hts _ (wo_a34_X2_fill_in _ (List.mem_of_getElem? (i := 2) rfl))) rfl dX2_fill_44 ?_
    refine lv_aload_n hx hb dX2_fill_47 rfl (lv_at hl 1 rfl) ?_
    refine k_get (C := RX2) (T := TX2) (N := 9) (ci := 7) (v := .ref q40) hx hb hts ws_a34_X2_fill_0 hown hh 2 rfl rfl 1 (by decide) (hts _ (wo_a34_X2_fill_in _ (List.mem_of_getElem? (i := 0) rfl))) rfl dX2_fill_48 ?_
    refine lv_iload_n hx hb dX2_fill_51 rfl (lv_at hl 0 rfl) ?_
    refine k_iald (v := 0) hx hb hh 0 1 rfl rfl (vp_in_nI hi (by decide)) rfl dX2_fill_52 ?_
    refine k_callS (wr := [(q40, .inl (y42, 374, .inl (fun _ => 0))), (q41, .inl (y43, 0, .inl (fun _ => 0))), (q39, .inr (7, [.int 120, .ref q40, .ref q30, .ref q30, .int 0, .int 0, .int 0, .ref q41, .int (nI (2 * i))])), (q30, .inl (y32, 187, .inl (fun _ => 0)))]) (rest := [.int (nI (2 * i)), .ref q39]) (own := RX2) ⟨hx, hb, hml, hown, hts⟩ (a12_X2_widthOf l hst D e0  ) (va_cwS 1 hts gi_a34_X2_fill_2 rfl rfl rfl (by decide +kernel) ⟨Nat.le_of_ble_eq_true rfl, Nat.le_of_ble_eq_true rfl⟩) hh [] [0, 1, 2, 3] [] rfl rfl rfl rfl (by decide) rfl rfl hl rfl (Nat.le_of_ble_eq_true rfl) dX2_fill_53 ⟨Nat.le_of_ble_eq_true rfl, (Nat.le_of_ble_eq_true rfl)⟩ (fun _ _ _ _ _ h => h.elim) (fun v w ty1 H locs hp hh => ?_)
    obtain ⟨rfl, rfl, rfl⟩ := hp
    have hh : kH D kStr e0 A s H [(q40, .inl (y42, 374, .inl (fun _ => 0))), (q41, .inl (y43, 0, .inl (fun _ => 0))), (q39, .inr (7, [.int 120, .ref q40, .ref q30, .ref q30, .int 0, .int 0, .int 0, .ref q41, .int (nI (2 * i))])), (q30, .inl (y32, 187, .inl (fun _ => 0)))] [(y32, .int), (y42, .int), (y43, .int), (y32, .int)] _ := hh
    refine W.eq (g2 := F0 m 56 ls [.int 2, .int (nI (2 * i)), .ref q39]) (by first | rfl | decide) ?_
    refine lv_iadd hx hb dX2_fill_56 ?_
    refine W.eq (g2 := F0 m 57 ls [.int (nI (2 * (i + 1))), .ref q39]) (congrArg (fun z9 : Int32 => F0 m 57 ls (.int z9 :: [.ref q39])) (show (nI (2 * i)) + 2 = (nI (2 * (i + 1))) from nI_add (2 * i) 2)) ?_
    refine k_put (C := RX2) (T := TX2) (N := 9) (ci := 7) (v := .int (nI (2 * (i + 1)))) (ws' := [(q40, .inl (y42, 374, .inl (fun _ => 0))), (q41, .inl (y43, 0, .inl (fun _ => 0))), (q39, .inr (7, [.int 120, .ref q40, .ref q30, .ref q30, .int 0, .int 0, .int 0, .ref q41, .int (nI (2 * (i + 1)))])), (q30, .inl (y32, 187, .inl (fun _ => 0)))]) hx hb hts ws_a34_X2_fill_0 tyX2 tyX2_ok nmX2 hown hh 2 rfl rfl 8 (by decide) (hts _ (wo_a34_X2_fill_in _ (List.mem_of_getElem? (i := 2) rfl))) rfl rfl rfl (Nat.le_of_ble_eq_true rfl) dX2_fill_57 rfl (fun H locs hh => ?_)
    refine lv_iinc (v := (nI (i + 1))) (lv' := [(1, .int (nI (i + 1))), (0, .ref q39)]) hx hb dX2_fill_60 hl (k := 0) rfl (nI_1 i) (by decide) rfl (fun ls hl => ?_)
    refine lv_goto (tgt := 2) hx hb dX2_fill_63 (by decide) ?_
    exact ih (i + 1) _ _ _ (by omega) (hh.sub [2, 0, 3, 1] [0, 1, 2] rfl rfl rfl) (lv_sub hl [0, 1] rfl)
set_option maxHeartbeats 4000000 in
set_option maxRecDepth 100000 in
theorem a34_X2_fill (l : Launch) (hst : l.stackTraces = false) (D : va_G) (e0 : kE) (q39 : Nat) (q40 : Nat) (q30 : Nat) (q41 : Nat) (y42 : ClassId) (y32 : ClassId) (y43 : ClassId)  : kM l yX2_fill wk_a34_X2_fill 2 49 0 0 D kStr e0 [(y32, .int), (y42, .int), (y43, .int)] [(q39, .inr (7, [.int 120, .ref q40, .ref q30, .ref q30, .int 0, .int 0, .int 0, .ref q41, .int 0])), (q40, .inl (y42, 374, .inl (fun _ => 0))), (q30, .inl (y32, 187, .inl (fun _ => 0))), (q41, .inl (y43, 0, .inl (fun _ => 0)))] [.ref q39] (fun v w t => v = none ∧ w = [(q39, .inr (7, [.int 120, .ref q40, .ref q30, .ref q30, .int 0, .int 0, .int 0, .ref q41, .int 748])), (q40, .inl (y42, 374, .inl (fun _ => 0))), (q30, .inl (y32, 187, .inl (fun _ => 0))), (q41, .inl (y43, 0, .inl (fun _ => 0)))] ∧ t = [(y42, .int), (y32, .int), (y43, .int)]) (fun _ => False) := by
  refine k_of (cc := cX2_fill) (maxL := 2) (ret := none) (by decide) rfl (Nat.le_of_ble_eq_true rfl) ?_
  intro p e s m args below meth c A ls hx hb hr hts hown hlocks hml hex hh hl
  have hown : s.vm.findClass RX2 = some m.cls := hown
  have hl : lv_has ls 2 [(0, .ref q39)] := hl
  refine lv_iconst (v := 0) hx hb dX2_fill_0 (by decide) ?_
  refine lv_istore_n (lv' := [(1, .int 0), (0, .ref q39)]) hx hb dX2_fill_1 rfl hl (by decide) rfl (fun ls hl => ?_)
  refine lp_a34_X2_fill l hst hx hb hts hown hml D e0 q39 q40 q30 q41 y42 y32 y43  (fun H locs ls hh hl => ?_) 374 0 _ _ _ (by omega) (hh.sub [0, 1, 2, 3] [0, 1, 2] rfl rfl rfl) (lv_sub hl [0, 1] rfl)
  have hh : kH D kStr e0 A s H [(q39, .inr (7, [.int 120, .ref q40, .ref q30, .ref q30, .int 0, .int 0, .int 0, .ref q41, .int 748])), (q40, .inl (y42, 374, .inl (fun _ => 0))), (q30, .inl (y32, 187, .inl (fun _ => 0))), (q41, .inl (y43, 0, .inl (fun _ => 0)))] [(y32, .int), (y42, .int), (y43, .int)] _ := hh
  have hl : lv_has ls 2 [(1, .int (nI 374)), (0, .ref q39)] := hl
  exact k_endv hx hb hr hlocks hh ⟨rfl, rfl, rfl⟩ [0, 1, 2, 3] [1, 0, 2] rfl rfl rfl (Nat.le_of_ble_eq_true rfl) (Nat.le_of_ble_eq_true rfl) dX2_fill_66
def wo_a35_X6_keep : List Cond := [Cond.fieldLink RX6 17 "Segueworks" "pieces" "[LSegueworks$Piece;", Cond.fieldLink RX6 340 "Segueworks" "pieceCount" "I"]
def wk_a35_X6_keep : List Cond := Cond.code yX6_keep cX6_keep 2 (some .int) :: (wo_a35_X6_keep ++ ((wsV RX6 366 RX2 yX2_fill wk_a34_X2_fill) ++ (u_ws RX6 TX6 8)))
theorem wo_a35_X6_keep_in : ∀ w ∈ wo_a35_X6_keep, w ∈ wk_a35_X6_keep := fun w h => List.mem_cons_of_mem _ (List.mem_append_left _ h)
theorem gi_a35_X6_keep_0 : GoodIn wk_a35_X6_keep (wsV RX6 366 RX2 yX2_fill wk_a34_X2_fill) := fun w h => ⟨List.mem_cons_of_mem _ (List.mem_append_right _ (List.mem_append_left _ h)), good_of_word (kg_V gk_a34_X2_fill w h)⟩
theorem ws_a35_X6_keep_1 : ∀ w ∈ u_ws RX6 TX6 8, w ∈ wk_a35_X6_keep := fun w h => List.mem_cons_of_mem _ (List.mem_append_right _ (List.mem_append_right _ h))
theorem gk_a35_X6_keep : ∀ w ∈ wk_a35_X6_keep, goodWord w = true := List.forall_mem_cons.mpr ⟨rfl, (List.forall_mem_append.mpr ⟨(show ∀ w ∈ wo_a35_X6_keep, goodWord w = true by decide +kernel), (List.forall_mem_append.mpr ⟨(kg_V gk_a34_X2_fill), (show ∀ w ∈ u_ws RX6 TX6 8, goodWord w = true by decide +kernel)⟩)⟩)⟩
set_option maxHeartbeats 4000000 in
set_option maxRecDepth 100000 in
theorem a35_X6_keep (l : Launch) (hst : l.stackTraces = false) (D : va_G) (e0 : kE) (q1 : Nat) (q39 : Nat) (q2 : Nat) (q3 : Nat) (q4 : Nat) (q5 : Nat) (q6 : Nat) (q40 : Nat) (q30 : Nat) (q41 : Nat) (y7 : ClassId) (q29 : Nat) (y42 : ClassId) (y32 : ClassId) (y43 : ClassId)  : kM l yX6_keep wk_a35_X6_keep 3 70 0 0 D kStr e0 [(y7, .object "Segueworks$Piece"), (y32, .int), (y42, .int), (y43, .int)] [(q1, .inr (11, [.ref q2, .int 0, .ref q3, .int 1, .ref q4, .ref q5, .ref q6, .int 0])), (q39, .inr (7, [.int 120, .ref q40, .ref q30, .ref q30, .int 0, .int 0, .int 0, .ref q41, .int 0])), (q3, .inl (y7, 24, .inr (.inr (.inr (.inr (va_up ((fun _ => none)) (0 : Int32).toNatClampNeg (some q29))))))), (q40, .inl (y42, 374, .inl (fun _ => 0))), (q30, .inl (y32, 187, .inl (fun _ => 0))), (q41, .inl (y43, 0, .inl (fun _ => 0)))] [.ref q1, .ref q39] (fun v w t => v = some (.int 1) ∧ w = [(q1, .inr (11, [.ref q2, .int 0, .ref q3, .int 2, .ref q4, .ref q5, .ref q6, .int 0])), (q39, .inr (7, [.int 120, .ref q40, .ref q30, .ref q30, .int 0, .int 0, .int 0, .ref q41, .int 748])), (q3, .inl (y7, 24, .inr (.inr (.inr (.inr (va_up ((va_up ((fun _ => none)) (0 : Int32).toNatClampNeg (some q29))) (1 : Int32).toNatClampNeg (some q39))))))), (q40, .inl (y42, 374, .inl (fun _ => 0))), (q30, .inl (y32, 187, .inl (fun _ => 0))), (q41, .inl (y43, 0, .inl (fun _ => 0)))] ∧ t = [(y7, .object "Segueworks$Piece"), (y42, .int), (y32, .int), (y43, .int)]) (fun _ => False) := by
  refine k_of (cc := cX6_keep) (maxL := 2) (ret := (some .int)) (by decide) rfl (Nat.le_of_ble_eq_true rfl) ?_
  intro p e s m args below meth c A ls hx hb hr hts hown hlocks hml hex hh hl
  have hown : s.vm.findClass RX6 = some m.cls := hown
  have hl : lv_has ls 2 [(0, .ref q1), (1, .ref q39)] := hl
  refine lv_aload_n hx hb dX6_keep_0 rfl (lv_at hl 1 rfl) ?_
  refine k_callV (C := RX2) (T := TX2) (N := 9) (ci := 7) (q0 := 1) (wr := [(q1, .inr (11, [.ref q2, .int 0, .ref q3, .int 1, .ref q4, .ref q5, .ref q6, .int 0])), (q3, .inl (y7, 24, .inr (.inr (.inr (.inr (va_up ((fun _ => none)) (0 : Int32).toNatClampNeg (some q29)))))))]) (rest := []) (own := RX6) ⟨hx, hb, hml, hown, hts⟩ (a34_X2_fill l hst D e0 q39 q40 q30 q41 y42 y32 y43 ) (cwV 0 hts gi_a35_X6_keep_0 rfl rfl rfl (by decide +kernel) ⟨Nat.le_of_ble_eq_true rfl, Nat.le_of_ble_eq_true rfl⟩) hh rfl rfl [1, 3, 4, 5] [0, 2] [1, 2, 3] rfl rfl rfl rfl (by decide) rfl rfl hl rfl (Nat.le_of_ble_eq_true rfl) dX6_keep_1 ⟨Nat.le_of_ble_eq_true rfl, (Nat.le_of_ble_eq_true rfl)⟩ (fun _ _ _ _ _ h => h.elim) (fun v w ty1 H locs hp hh => ?_)
  obtain ⟨rfl, rfl, rfl⟩ := hp
  have hh : kH D kStr e0 A s H [(q1, .inr (11, [.ref q2, .int 0, .ref q3, .int 1, .ref q4, .ref q5, .ref q6, .int 0])), (q3, .inl (y7, 24, .inr (.inr (.inr (.inr (va_up ((fun _ => none)) (0 : Int32).toNatClampNeg (some q29))))))), (q39, .inr (7, [.int 120, .ref q40, .ref q30, .ref q30, .int 0, .int 0, .int 0, .ref q41, .int 748])), (q40, .inl (y42, 374, .inl (fun _ => 0))), (q30, .inl (y32, 187, .inl (fun _ => 0))), (q41, .inl (y43, 0, .inl (fun _ => 0)))] [(y7, .object "Segueworks$Piece"), (y32, .int), (y42, .int), (y43, .int), (y42, .int), (y32, .int), (y43, .int)] _ := hh
  refine W.eq (g2 := F0 m 4 ls []) (by first | rfl | decide) ?_
  refine lv_aload_n hx hb dX6_keep_4 rfl (lv_at hl 0 rfl) ?_
  refine k_get (C := RX6) (T := TX6) (N := 8) (ci := 11) (v := .ref q3) hx hb hts ws_a35_X6_keep_1 hown hh 0 rfl rfl 2 (by decide) (hts _ (wo_a35_X6_keep_in _ (List.mem_of_getElem? (i := 0) rfl))) rfl dX6_keep_5 ?_
  refine lv_aload_n hx hb dX6_keep_8 rfl (lv_at hl 0 rfl) ?_
  refine k_get (C := RX6) (T := TX6) (N := 8) (ci := 11) (v := .int 1) hx hb hts ws_a35_X6_keep_1 hown hh 0 rfl rfl 3 (by decide) (hts _ (wo_a35_X6_keep_in _ (List.mem_of_getElem? (i := 1) rfl))) rfl dX6_keep_9 ?_
  refine lv_aload_n hx hb dX6_keep_12 rfl (lv_at hl 1 rfl) ?_
  refine k_astq (ws' := [(q1, .inr (11, [.ref q2, .int 0, .ref q3, .int 1, .ref q4, .ref q5, .ref q6, .int 0])), (q3, .inl (y7, 24, .inr (.inr (.inr (.inr (va_up ((va_up ((fun _ => none)) (0 : Int32).toNatClampNeg (some q29))) (1 : Int32).toNatClampNeg (some q39))))))), (q39, .inr (7, [.int 120, .ref q40, .ref q30, .ref q30, .int 0, .int 0, .int 0, .ref q41, .int 748])), (q40, .inl (y42, 374, .inl (fun _ => 0))), (q30, .inl (y32, 187, .inl (fun _ => 0))), (q41, .inl (y43, 0, .inl (fun _ => 0)))]) hx hb hh 1 0 2 7 rfl rfl rfl rfl (by unfold vp_in; decide) dX6_keep_13 rfl (fun H locs hh => ?_)
  refine lv_aload_n hx hb dX6_keep_14 rfl (lv_at hl 0 rfl) ?_
  refine lv_dup hx hb dX6_keep_15 rfl ?_
  refine k_get (C := RX6) (T := TX6) (N := 8) (ci := 11) (v := .int 1) hx hb hts ws_a35_X6_keep_1 hown hh 0 rfl rfl 3 (by decide) (hts _ (wo_a35_X6_keep_in _ (List.mem_of_getElem? (i := 1) rfl))) rfl dX6_keep_16 ?_
  refine lv_iconst (v := 1) hx hb dX6_keep_19 (by decide) ?_
  refine lv_iadd hx hb dX6_keep_20 ?_
  refine W.eq (g2 := F0 m 21 ls [.int 2, .ref q1]) (by first | rfl | decide) ?_
  refine k_put (C := RX6) (T := TX6) (N := 8) (ci := 11) (v := .int 2) (ws' := [(q1, .inr (11, [.ref q2, .int 0, .ref q3, .int 2, .ref q4, .ref q5, .ref q6, .int 0])), (q3, .inl (y7, 24, .inr (.inr (.inr (.inr (va_up ((va_up ((fun _ => none)) (0 : Int32).toNatClampNeg (some q29))) (1 : Int32).toNatClampNeg (some q39))))))), (q39, .inr (7, [.int 120, .ref q40, .ref q30, .ref q30, .int 0, .int 0, .int 0, .ref q41, .int 748])), (q40, .inl (y42, 374, .inl (fun _ => 0))), (q30, .inl (y32, 187, .inl (fun _ => 0))), (q41, .inl (y43, 0, .inl (fun _ => 0)))]) hx hb hts ws_a35_X6_keep_1 tyX6 tyX6_ok nmX6 hown hh 0 rfl rfl 3 (by decide) (hts _ (wo_a35_X6_keep_in _ (List.mem_of_getElem? (i := 1) rfl))) rfl rfl rfl (Nat.le_of_ble_eq_true rfl) dX6_keep_21 rfl (fun H locs hh => ?_)
  refine lv_aload_n hx hb dX6_keep_24 rfl (lv_at hl 0 rfl) ?_
  refine k_get (C := RX6) (T := TX6) (N := 8) (ci := 11) (v := .int 2) hx hb hts ws_a35_X6_keep_1 hown hh 0 rfl rfl 3 (by decide) (hts _ (wo_a35_X6_keep_in _ (List.mem_of_getElem? (i := 1) rfl))) rfl dX6_keep_25 ?_
  refine lv_iconst (v := 1) hx hb dX6_keep_28 (by decide) ?_
  refine lv_isub hx hb dX6_keep_29 ?_
  refine W.eq (g2 := F0 m 30 ls [.int 1]) (by first | rfl | decide) ?_
  exact k_endi hx hb hr hlocks hh ⟨rfl, rfl, rfl⟩ [0, 2, 1, 3, 4, 5] [0, 2, 1, 3] rfl rfl rfl (Nat.le_of_ble_eq_true rfl) (Nat.le_of_ble_eq_true rfl) dX6_keep_30
def wo_a36_X6_splice : List Cond := [Cond.fieldLink RX6 103 "Segueworks$Piece" "samples" "[I", Cond.methodLink RX6 104 Lib.Math.min.name, Cond.static Lib.Math.min.name, Cond.initialized "java/lang/Math", Cond.code Lib.Math.min.name Lib.Math.min.code 2 (some .int), Cond.classLink RX6 15 RX2, Cond.instantiable RX2 9, Cond.initialized RX2, Cond.methodLink RX6 92 yX2_init, Cond.instanceMethod yX2_init]
def wk_a36_X6_splice : List Cond := Cond.code yX6_splice cX6_splice 7 (some .int) :: (wo_a36_X6_splice ++ ((wsV RX6 99 RX6 yX6_knownPiece wk_a29_X6_knownPiece) ++ ((u_ws RX2 TX2 9) ++ ((va_wsS RX6 57 yX6_needRange wk_a30_X6_needRange) ++ ((va_wsS RX6 110 yX6_needPieceLength wk_a31_X6_needPieceLength) ++ ((wsV RX6 85 RX6 yX6_needPieceRoom wk_a32_X6_needPieceRoom) ++ ((wk_a33_X2_init) ++ (wsV RX6 95 RX6 yX6_keep wk_a35_X6_keep))))))))
theorem wo_a36_X6_splice_in : ∀ w ∈ wo_a36_X6_splice, w ∈ wk_a36_X6_splice := fun w h => List.mem_cons_of_mem _ (List.mem_append_left _ h)
theorem gi_a36_X6_splice_0 : GoodIn wk_a36_X6_splice (wsV RX6 99 RX6 yX6_knownPiece wk_a29_X6_knownPiece) := fun w h => ⟨List.mem_cons_of_mem _ (List.mem_append_right _ (List.mem_append_left _ h)), good_of_word (kg_V gk_a29_X6_knownPiece w h)⟩
theorem ws_a36_X6_splice_1 : ∀ w ∈ u_ws RX2 TX2 9, w ∈ wk_a36_X6_splice := fun w h => List.mem_cons_of_mem _ (List.mem_append_right _ (List.mem_append_right _ (List.mem_append_left _ h)))
theorem gi_a36_X6_splice_2 : GoodIn wk_a36_X6_splice (va_wsS RX6 57 yX6_needRange wk_a30_X6_needRange) := fun w h => ⟨List.mem_cons_of_mem _ (List.mem_append_right _ (List.mem_append_right _ (List.mem_append_right _ (List.mem_append_left _ h)))), good_of_word (kg_S gk_a30_X6_needRange w h)⟩
theorem gi_a36_X6_splice_3 : GoodIn wk_a36_X6_splice (va_wsS RX6 110 yX6_needPieceLength wk_a31_X6_needPieceLength) := fun w h => ⟨List.mem_cons_of_mem _ (List.mem_append_right _ (List.mem_append_right _ (List.mem_append_right _ (List.mem_append_right _ (List.mem_append_left _ h))))), good_of_word (kg_S gk_a31_X6_needPieceLength w h)⟩
theorem gi_a36_X6_splice_4 : GoodIn wk_a36_X6_splice (wsV RX6 85 RX6 yX6_needPieceRoom wk_a32_X6_needPieceRoom) := fun w h => ⟨List.mem_cons_of_mem _ (List.mem_append_right _ (List.mem_append_right _ (List.mem_append_right _ (List.mem_append_right _ (List.mem_append_right _ (List.mem_append_left _ h)))))), good_of_word (kg_V gk_a32_X6_needPieceRoom w h)⟩
theorem gi_a36_X6_splice_5 : GoodIn wk_a36_X6_splice (wk_a33_X2_init) := fun w h => ⟨List.mem_cons_of_mem _ (List.mem_append_right _ (List.mem_append_right _ (List.mem_append_right _ (List.mem_append_right _ (List.mem_append_right _ (List.mem_append_right _ (List.mem_append_left _ h))))))), good_of_word (gk_a33_X2_init w h)⟩
theorem gi_a36_X6_splice_6 : GoodIn wk_a36_X6_splice (wsV RX6 95 RX6 yX6_keep wk_a35_X6_keep) := fun w h => ⟨List.mem_cons_of_mem _ (List.mem_append_right _ (List.mem_append_right _ (List.mem_append_right _ (List.mem_append_right _ (List.mem_append_right _ (List.mem_append_right _ (List.mem_append_right _ h))))))), good_of_word (kg_V gk_a35_X6_keep w h)⟩
theorem gk_a36_X6_splice : ∀ w ∈ wk_a36_X6_splice, goodWord w = true := List.forall_mem_cons.mpr ⟨rfl, (List.forall_mem_append.mpr ⟨(show ∀ w ∈ wo_a36_X6_splice, goodWord w = true by decide +kernel), (List.forall_mem_append.mpr ⟨(kg_V gk_a29_X6_knownPiece), (List.forall_mem_append.mpr ⟨(show ∀ w ∈ u_ws RX2 TX2 9, goodWord w = true by decide +kernel), (List.forall_mem_append.mpr ⟨(kg_S gk_a30_X6_needRange), (List.forall_mem_append.mpr ⟨(kg_S gk_a31_X6_needPieceLength), (List.forall_mem_append.mpr ⟨(kg_V gk_a32_X6_needPieceRoom), (List.forall_mem_append.mpr ⟨gk_a33_X2_init, (kg_V gk_a35_X6_keep)⟩)⟩)⟩)⟩)⟩)⟩)⟩)⟩
set_option maxHeartbeats 4000000 in
set_option maxRecDepth 100000 in
theorem a36_X6_splice (l : Launch) (hst : l.stackTraces = false) (D : va_G) (e0 : kE) (q1 : Nat) (q2 : Nat) (q3 : Nat) (q4 : Nat) (q5 : Nat) (q6 : Nat) (y7 : ClassId) (q29 : Nat) (q30 : Nat) (q31 : Nat) (y32 : ClassId)  : kM l yX6_splice wk_a36_X6_splice 4 91 3 383 D kStr e0 [(y7, .object "Segueworks$Piece"), (y32, .int)] [(q1, .inr (11, [.ref q2, .int 0, .ref q3, .int 1, .ref q4, .ref q5, .ref q6, .int 0])), (q3, .inl (y7, 24, .inr (.inr (.inr (.inr (va_up ((fun _ => none)) (0 : Int32).toNatClampNeg (some q29))))))), (q29, .inr (7, [.int 115, .ref q30, .null, .null, .int 0, .int 0, .int 0, .ref q31, .int 374])), (q30, .inl (y32, 187, .inl (fun _ => 0)))] [.ref q1, .int 0, .int 0, .int 0] (fun v w t => ∃ (q39 : Nat), ∃ (q40 : Nat), ∃ (q41 : Nat), ∃ (y42 : ClassId), v = some (.int 1) ∧ w = [(q1, .inr (11, [.ref q2, .int 0, .ref q3, .int 2, .ref q4, .ref q5, .ref q6, .int 0])), (q3, .inl (y7, 24, .inr (.inr (.inr (.inr (va_up ((va_up ((fun _ => none)) (0 : Int32).toNatClampNeg (some q29))) (1 : Int32).toNatClampNeg (some q39))))))), (q29, .inr (7, [.int 115, .ref q30, .null, .null, .int 0, .int 0, .int 0, .ref q31, .int 374])), (q30, .inl (y32, 187, .inl (fun _ => 0))), (q39, .inr (7, [.int 120, .ref q40, .ref q30, .ref q30, .int 0, .int 0, .int 0, .ref q41, .int 748])), (q40, .inl (y42, 374, .inl (fun _ => 0)))] ∧ t = [(y7, .object "Segueworks$Piece"), (y32, .int), (y42, .int)]) (fun _ => False) := by
  refine k_of (cc := cX6_splice) (maxL := 7) (ret := (some .int)) (by decide) rfl (Nat.le_of_ble_eq_true rfl) ?_
  intro p e s m args below meth c A ls hx hb hr hts hown hlocks hml hex hh hl
  have hown : s.vm.findClass RX6 = some m.cls := hown
  have hl : lv_has ls 7 [(0, .ref q1), (1, .int 0), (2, .int 0), (3, .int 0)] := hl
  refine lv_aload_n hx hb dX6_splice_0 rfl (lv_at hl 0 rfl) ?_
  refine lv_iload_n hx hb dX6_splice_1 rfl (lv_at hl 1 rfl) ?_
  refine k_callV (C := RX6) (T := TX6) (N := 8) (ci := 11) (q0 := 0) (wr := [(q29, .inr (7, [.int 115, .ref q30, .null, .null, .int 0, .int 0, .int 0, .ref q31, .int 374])), (q30, .inl (y32, 187, .inl (fun _ => 0)))]) (rest := []) (own := RX6) ⟨hx, hb, hml, hown, hts⟩ (a29_X6_knownPiece l hst D e0 q1 q2 q3 q4 q5 q6 y7 q29 ) (cwV 1 hts gi_a36_X6_splice_0 rfl rfl rfl (by decide +kernel) ⟨Nat.le_of_ble_eq_true rfl, Nat.le_of_ble_eq_true rfl⟩) hh rfl rfl [0, 1] [2, 3] [0] rfl rfl rfl rfl (by decide) rfl rfl hl rfl (Nat.le_of_ble_eq_true rfl) dX6_splice_2 ⟨Nat.le_of_ble_eq_true rfl, (Nat.le_of_ble_eq_true rfl)⟩ (fun _ _ _ _ _ h => h.elim) (fun v w ty1 H locs hp hh => ?_)
  obtain ⟨rfl, rfl, rfl⟩ := hp
  have hh : kH D kStr e0 A s H [(q29, .inr (7, [.int 115, .ref q30, .null, .null, .int 0, .int 0, .int 0, .ref q31, .int 374])), (q30, .inl (y32, 187, .inl (fun _ => 0))), (q1, .inr (11, [.ref q2, .int 0, .ref q3, .int 1, .ref q4, .ref q5, .ref q6, .int 0])), (q3, .inl (y7, 24, .inr (.inr (.inr (.inr (va_up ((fun _ => none)) (0 : Int32).toNatClampNeg (some q29)))))))] [(y7, .object "Segueworks$Piece"), (y32, .int), (y7, .object "Segueworks$Piece")] _ := hh
  refine W.eq (g2 := F0 m 5 ls [.ref q29]) (by first | rfl | decide) ?_
  refine k_get (C := RX2) (T := TX2) (N := 9) (ci := 7) (v := .ref q30) hx hb hts ws_a36_X6_splice_1 hown hh 0 rfl rfl 1 (by decide) (hts _ (wo_a36_X6_splice_in _ (List.mem_of_getElem? (i := 0) rfl))) rfl dX6_splice_5 ?_
  refine lv_astore (lv' := [(4, .ref q30), (0, .ref q1), (1, .int 0), (2, .int 0), (3, .int 0)]) hx hb dX6_splice_8 hl (by decide) rfl (fun ls hl => ?_)
  refine lv_aload_n hx hb dX6_splice_10 rfl (lv_at hl 1 rfl) ?_
  refine lv_iload_n hx hb dX6_splice_11 rfl (lv_at hl 3 rfl) ?_
  refine k_callV (C := RX6) (T := TX6) (N := 8) (ci := 11) (q0 := 2) (wr := [(q29, .inr (7, [.int 115, .ref q30, .null, .null, .int 0, .int 0, .int 0, .ref q31, .int 374])), (q30, .inl (y32, 187, .inl (fun _ => 0)))]) (rest := []) (own := RX6) ⟨hx, hb, hml, hown, hts⟩ (a29_X6_knownPiece l hst D e0 q1 q2 q3 q4 q5 q6 y7 q29 ) (cwV 1 hts gi_a36_X6_splice_0 rfl rfl rfl (by decide +kernel) ⟨Nat.le_of_ble_eq_true rfl, Nat.le_of_ble_eq_true rfl⟩) hh rfl rfl [2, 3] [0, 1] [0] rfl rfl rfl rfl (by decide) rfl rfl hl rfl (Nat.le_of_ble_eq_true rfl) dX6_splice_12 ⟨Nat.le_of_ble_eq_true rfl, (Nat.le_of_ble_eq_true rfl)⟩ (fun _ _ _ _ _ h => h.elim) (fun v w ty1 H locs hp hh => ?_)
  obtain ⟨rfl, rfl, rfl⟩ := hp
  have hh : kH D kStr e0 A s H [(q29, .inr (7, [.int 115, .ref q30, .null, .null, .int 0, .int 0, .int 0, .ref q31, .int 374])), (q30, .inl (y32, 187, .inl (fun _ => 0))), (q1, .inr (11, [.ref q2, .int 0, .ref q3, .int 1, .ref q4, .ref q5, .ref q6, .int 0])), (q3, .inl (y7, 24, .inr (.inr (.inr (.inr (va_up ((fun _ => none)) (0 : Int32).toNatClampNeg (some q29)))))))] [(y7, .object "Segueworks$Piece"), (y32, .int), (y7, .object "Segueworks$Piece"), (y7, .object "Segueworks$Piece")] _ := hh
  refine W.eq (g2 := F0 m 15 ls [.ref q29]) (by first | rfl | decide) ?_
  refine k_get (C := RX2) (T := TX2) (N := 9) (ci := 7) (v := .ref q30) hx hb hts ws_a36_X6_splice_1 hown hh 0 rfl rfl 1 (by decide) (hts _ (wo_a36_X6_splice_in _ (List.mem_of_getElem? (i := 0) rfl))) rfl dX6_splice_15 ?_
  refine lv_astore (lv' := [(5, .ref q30), (4, .ref q30), (0, .ref q1), (1, .int 0), (2, .int 0), (3, .int 0)]) hx hb dX6_splice_18 hl (by decide) rfl (fun ls hl => ?_)
  refine lv_iload_n hx hb dX6_splice_20 rfl (lv_at hl 5 rfl) ?_
  refine lv_iconst (v := 0) hx hb dX6_splice_21 (by decide) ?_
  refine lv_aload hx hb dX6_splice_22 (lv_at hl 1 rfl) ?_
  refine k_alen (v := 187) hx hb hh 1 1 rfl rfl rfl dX6_splice_24 ?_
  refine lv_aload hx hb dX6_splice_25 (lv_at hl 0 rfl) ?_
  refine k_alen (v := 187) hx hb hh 1 1 rfl rfl rfl dX6_splice_27 ?_
  refine va_mmin hx hb (by rw [hml]; exact hl.1.symm) hown (hts _ (wo_a36_X6_splice_in _ (List.mem_of_getElem? (i := 1) rfl))) (hts _ (wo_a36_X6_splice_in _ (List.mem_of_getElem? (i := 2) rfl))) (hts _ (wo_a36_X6_splice_in _ (List.mem_of_getElem? (i := 3) rfl))) (hts _ (wo_a36_X6_splice_in _ (List.mem_of_getElem? (i := 4) rfl))) (Nat.le_of_ble_eq_true rfl) (Nat.le_of_ble_eq_true rfl) (Nat.le_of_ble_eq_true rfl) (Nat.le_of_ble_eq_true rfl) dX6_splice_28 ?_
  refine W.eq (g2 := F0 m 31 ls [.int 187, .int 0, .int 0]) (by first | rfl | decide) ?_
  refine k_callS (wr := [(q29, .inr (7, [.int 115, .ref q30, .null, .null, .int 0, .int 0, .int 0, .ref q31, .int 374])), (q30, .inl (y32, 187, .inl (fun _ => 0))), (q1, .inr (11, [.ref q2, .int 0, .ref q3, .int 1, .ref q4, .ref q5, .ref q6, .int 0])), (q3, .inl (y7, 24, .inr (.inr (.inr (.inr (va_up ((fun _ => none)) (0 : Int32).toNatClampNeg (some q29)))))))]) (rest := []) (own := RX6) ⟨hx, hb, hml, hown, hts⟩ (a30_X6_needRange l hst D e0  ) (va_cwS 3 hts gi_a36_X6_splice_2 rfl rfl rfl (by decide +kernel) ⟨Nat.le_of_ble_eq_true rfl, Nat.le_of_ble_eq_true rfl⟩) hh [] [0, 1, 2, 3] [] rfl rfl rfl rfl (by decide) rfl rfl hl rfl (Nat.le_of_ble_eq_true rfl) dX6_splice_31 ⟨Nat.le_of_ble_eq_true rfl, (Nat.le_of_ble_eq_true rfl)⟩ (fun _ _ _ _ _ h => h.elim) (fun v w ty1 H locs hp hh => ?_)
  obtain ⟨rfl, rfl, rfl⟩ := hp
  have hh : kH D kStr e0 A s H [(q29, .inr (7, [.int 115, .ref q30, .null, .null, .int 0, .int 0, .int 0, .ref q31, .int 374])), (q30, .inl (y32, 187, .inl (fun _ => 0))), (q1, .inr (11, [.ref q2, .int 0, .ref q3, .int 1, .ref q4, .ref q5, .ref q6, .int 0])), (q3, .inl (y7, 24, .inr (.inr (.inr (.inr (va_up ((fun _ => none)) (0 : Int32).toNatClampNeg (some q29)))))))] [(y7, .object "Segueworks$Piece"), (y32, .int), (y7, .object "Segueworks$Piece"), (y7, .object "Segueworks$Piece")] _ := hh
  refine W.eq (g2 := F0 m 34 ls []) (by first | rfl | decide) ?_
  refine lv_aload hx hb dX6_splice_34 (lv_at hl 1 rfl) ?_
  refine k_alen (v := 187) hx hb hh 1 1 rfl rfl rfl dX6_splice_36 ?_
  refine lv_aload hx hb dX6_splice_37 (lv_at hl 0 rfl) ?_
  refine k_alen (v := 187) hx hb hh 1 1 rfl rfl rfl dX6_splice_39 ?_
  refine lv_iadd hx hb dX6_splice_40 ?_
  refine W.eq (g2 := F0 m 41 ls [.int 374]) (by first | rfl | decide) ?_
  refine lv_iload_n hx hb dX6_splice_41 rfl (lv_at hl 5 rfl) ?_
  refine lv_isub hx hb dX6_splice_42 ?_
  refine W.eq (g2 := F0 m 43 ls [.int 374]) (by first | rfl | decide) ?_
  refine lv_istore (lv' := [(6, .int 374), (5, .ref q30), (4, .ref q30), (0, .ref q1), (1, .int 0), (2, .int 0), (3, .int 0)]) hx hb dX6_splice_43 hl (by decide) rfl (fun ls hl => ?_)
  refine lv_iload hx hb dX6_splice_45 (lv_at hl 0 rfl) ?_
  refine k_callS (wr := [(q29, .inr (7, [.int 115, .ref q30, .null, .null, .int 0, .int 0, .int 0, .ref q31, .int 374])), (q30, .inl (y32, 187, .inl (fun _ => 0))), (q1, .inr (11, [.ref q2, .int 0, .ref q3, .int 1, .ref q4, .ref q5, .ref q6, .int 0])), (q3, .inl (y7, 24, .inr (.inr (.inr (.inr (va_up ((fun _ => none)) (0 : Int32).toNatClampNeg (some q29)))))))]) (rest := []) (own := RX6) ⟨hx, hb, hml, hown, hts⟩ (a31_X6_needPieceLength l hst D e0  ) (va_cwS 1 hts gi_a36_X6_splice_3 rfl rfl rfl (by decide +kernel) ⟨Nat.le_of_ble_eq_true rfl, Nat.le_of_ble_eq_true rfl⟩) hh [] [0, 1, 2, 3] [] rfl rfl rfl rfl (by decide) rfl rfl hl rfl (Nat.le_of_ble_eq_true rfl) dX6_splice_47 ⟨Nat.le_of_ble_eq_true rfl, (Nat.le_of_ble_eq_true rfl)⟩ (fun _ _ _ _ _ h => h.elim) (fun v w ty1 H locs hp hh => ?_)
  obtain ⟨rfl, rfl, rfl⟩ := hp
  have hh : kH D kStr e0 A s H [(q29, .inr (7, [.int 115, .ref q30, .null, .null, .int 0, .int 0, .int 0, .ref q31, .int 374])), (q30, .inl (y32, 187, .inl (fun _ => 0))), (q1, .inr (11, [.ref q2, .int 0, .ref q3, .int 1, .ref q4, .ref q5, .ref q6, .int 0])), (q3, .inl (y7, 24, .inr (.inr (.inr (.inr (va_up ((fun _ => none)) (0 : Int32).toNatClampNeg (some q29)))))))] [(y7, .object "Segueworks$Piece"), (y32, .int), (y7, .object "Segueworks$Piece"), (y7, .object "Segueworks$Piece")] _ := hh
  refine W.eq (g2 := F0 m 50 ls []) (by first | rfl | decide) ?_
  refine lv_aload_n hx hb dX6_splice_50 rfl (lv_at hl 3 rfl) ?_
  refine k_callV (C := RX6) (T := TX6) (N := 8) (ci := 11) (q0 := 2) (wr := [(q29, .inr (7, [.int 115, .ref q30, .null, .null, .int 0, .int 0, .int 0, .ref q31, .int 374])), (q30, .inl (y32, 187, .inl (fun _ => 0))), (q3, .inl (y7, 24, .inr (.inr (.inr (.inr (va_up ((fun _ => none)) (0 : Int32).toNatClampNeg (some q29)))))))]) (rest := []) (own := RX6) ⟨hx, hb, hml, hown, hts⟩ (a32_X6_needPieceRoom l hst D e0 q1 q2 q3 q4 q5 q6 ) (cwV 0 hts gi_a36_X6_splice_4 rfl rfl rfl (by decide +kernel) ⟨Nat.le_of_ble_eq_true rfl, Nat.le_of_ble_eq_true rfl⟩) hh rfl rfl [2] [0, 1, 3] [] rfl rfl rfl rfl (by decide) rfl rfl hl rfl (Nat.le_of_ble_eq_true rfl) dX6_splice_51 ⟨Nat.le_of_ble_eq_true rfl, (Nat.le_of_ble_eq_true rfl)⟩ (fun _ _ _ _ _ h => h.elim) (fun v w ty1 H locs hp hh => ?_)
  obtain ⟨rfl, rfl, rfl⟩ := hp
  have hh : kH D kStr e0 A s H [(q29, .inr (7, [.int 115, .ref q30, .null, .null, .int 0, .int 0, .int 0, .ref q31, .int 374])), (q30, .inl (y32, 187, .inl (fun _ => 0))), (q3, .inl (y7, 24, .inr (.inr (.inr (.inr (va_up ((fun _ => none)) (0 : Int32).toNatClampNeg (some q29))))))), (q1, .inr (11, [.ref q2, .int 0, .ref q3, .int 1, .ref q4, .ref q5, .ref q6, .int 0]))] [(y7, .object "Segueworks$Piece"), (y32, .int), (y7, .object "Segueworks$Piece"), (y7, .object "Segueworks$Piece")] _ := hh
  refine W.eq (g2 := F0 m 54 ls []) (by first | rfl | decide) ?_
  refine lv_aload_n hx hb dX6_splice_54 rfl (lv_at hl 3 rfl) ?_
  refine k_new (C := RX2) (T := TX2) (N := 9) (ci := 7) (fs := [.int 0, .null, .null, .null, .int 0, .int 0, .int 0, .null, .int 0]) hx hb hts ws_a36_X6_splice_1 tyX2 tyX2_ok hown (hts _ (wo_a36_X6_splice_in _ (List.mem_of_getElem? (i := 5) rfl))) (hts _ (wo_a36_X6_splice_in _ (List.mem_of_getElem? (i := 6) rfl))) (hts _ (wo_a36_X6_splice_in _ (List.mem_of_getElem? (i := 7) rfl))) hh rfl (fun j hj => by rcases (show j = 0 ∨ j = 1 ∨ j = 2 ∨ j = 3 ∨ j = 4 ∨ j = 5 ∨ j = 6 ∨ j = 7 ∨ j = 8 by omega) with rfl | rfl | rfl | rfl | rfl | rfl | rfl | rfl | rfl <;> rfl) (Nat.le_of_ble_eq_true rfl) (Nat.le_of_ble_eq_true rfl) dX6_splice_55 (fun q39 H hh => ?_)
  have hh : kH D kStr e0 A s H [(q29, .inr (7, [.int 115, .ref q30, .null, .null, .int 0, .int 0, .int 0, .ref q31, .int 374])), (q30, .inl (y32, 187, .inl (fun _ => 0))), (q3, .inl (y7, 24, .inr (.inr (.inr (.inr (va_up ((fun _ => none)) (0 : Int32).toNatClampNeg (some q29))))))), (q1, .inr (11, [.ref q2, .int 0, .ref q3, .int 1, .ref q4, .ref q5, .ref q6, .int 0])), (q39, .inr (7, [.int 0, .null, .null, .null, .int 0, .int 0, .int 0, .null, .int 0]))] [(y7, .object "Segueworks$Piece"), (y32, .int), (y7, .object "Segueworks$Piece"), (y7, .object "Segueworks$Piece")] _ := hh
  refine lv_dup hx hb dX6_splice_58 rfl ?_
  refine lv_bipush (v := 120) hx hb dX6_splice_59 (by decide) ?_
  refine lv_iload hx hb dX6_splice_61 (lv_at hl 0 rfl) ?_
  refine lv_aload hx hb dX6_splice_63 (lv_at hl 2 rfl) ?_
  refine lv_aload hx hb dX6_splice_65 (lv_at hl 1 rfl) ?_
  refine lv_iload_n hx hb dX6_splice_67 rfl (lv_at hl 6 rfl) ?_
  refine lv_iconst (v := 0) hx hb dX6_splice_68 (by decide) ?_
  refine lv_iconst (v := 0) hx hb dX6_splice_69 (by decide) ?_
  refine k_callI (wr := [(q29, .inr (7, [.int 115, .ref q30, .null, .null, .int 0, .int 0, .int 0, .ref q31, .int 374])), (q30, .inl (y32, 187, .inl (fun _ => 0))), (q3, .inl (y7, 24, .inr (.inr (.inr (.inr (va_up ((fun _ => none)) (0 : Int32).toNatClampNeg (some q29))))))), (q1, .inr (11, [.ref q2, .int 0, .ref q3, .int 1, .ref q4, .ref q5, .ref q6, .int 0]))]) (rest := [.ref q39, .ref q1]) (own := RX6) ⟨hx, hb, hml, hown, hts⟩ (a33_X2_init l hst D e0 q39 q30 ) (cwI 7 hts gi_a36_X6_splice_5 rfl rfl rfl (hts _ (wo_a36_X6_splice_in _ (List.mem_of_getElem? (i := 7) rfl))) (hts _ (wo_a36_X6_splice_in _ (List.mem_of_getElem? (i := 8) rfl))) (hts _ (wo_a36_X6_splice_in _ (List.mem_of_getElem? (i := 9) rfl))) rfl (by decide +kernel) ⟨Nat.le_of_ble_eq_true rfl, Nat.le_of_ble_eq_true rfl⟩) hh [4] [0, 1, 2, 3] [] rfl rfl rfl rfl (by decide) rfl rfl hl rfl (Nat.le_of_ble_eq_true rfl) dX6_splice_70 ⟨Nat.le_of_ble_eq_true rfl, (Nat.le_of_ble_eq_true rfl)⟩ (fun v w ty1 H locs hp hh => ?_)
  obtain ⟨q40, q41, y42, y43, rfl, rfl, rfl⟩ := hp
  have hh : kH D kStr e0 A s H [(q29, .inr (7, [.int 115, .ref q30, .null, .null, .int 0, .int 0, .int 0, .ref q31, .int 374])), (q30, .inl (y32, 187, .inl (fun _ => 0))), (q3, .inl (y7, 24, .inr (.inr (.inr (.inr (va_up ((fun _ => none)) (0 : Int32).toNatClampNeg (some q29))))))), (q1, .inr (11, [.ref q2, .int 0, .ref q3, .int 1, .ref q4, .ref q5, .ref q6, .int 0])), (q39, .inr (7, [.int 120, .ref q40, .ref q30, .ref q30, .int 0, .int 0, .int 0, .ref q41, .int 0])), (q40, .inl (y42, 374, .inl (fun _ => 0))), (q41, .inl (y43, 0, .inl (fun _ => 0)))] [(y7, .object "Segueworks$Piece"), (y32, .int), (y7, .object "Segueworks$Piece"), (y7, .object "Segueworks$Piece"), (y42, .int), (y43, .int)] _ := hh
  refine W.eq (g2 := F0 m 73 ls [.ref q39, .ref q1]) (by first | rfl | decide) ?_
  refine k_callV (C := RX6) (T := TX6) (N := 8) (ci := 11) (q0 := 3) (wr := [(q29, .inr (7, [.int 115, .ref q30, .null, .null, .int 0, .int 0, .int 0, .ref q31, .int 374]))]) (rest := []) (own := RX6) ⟨hx, hb, hml, hown, hts⟩ (a35_X6_keep l hst D e0 q1 q39 q2 q3 q4 q5 q6 q40 q30 q41 y7 q29 y42 y32 y43 ) (cwV 1 hts gi_a36_X6_splice_6 rfl rfl rfl (by decide +kernel) ⟨Nat.le_of_ble_eq_true rfl, Nat.le_of_ble_eq_true rfl⟩) hh rfl rfl [3, 4, 2, 5, 1, 6] [0] [0, 1, 4, 5] rfl rfl rfl rfl (by decide) rfl rfl hl rfl (Nat.le_of_ble_eq_true rfl) dX6_splice_73 ⟨Nat.le_of_ble_eq_true rfl, (Nat.le_of_ble_eq_true rfl)⟩ (fun _ _ _ _ _ h => h.elim) (fun v w ty1 H locs hp hh => ?_)
  obtain ⟨rfl, rfl, rfl⟩ := hp
  have hh : kH D kStr e0 A s H [(q29, .inr (7, [.int 115, .ref q30, .null, .null, .int 0, .int 0, .int 0, .ref q31, .int 374])), (q1, .inr (11, [.ref q2, .int 0, .ref q3, .int 2, .ref q4, .ref q5, .ref q6, .int 0])), (q39, .inr (7, [.int 120, .ref q40, .ref q30, .ref q30, .int 0, .int 0, .int 0, .ref q41, .int 748])), (q3, .inl (y7, 24, .inr (.inr (.inr (.inr (va_up ((va_up ((fun _ => none)) (0 : Int32).toNatClampNeg (some q29))) (1 : Int32).toNatClampNeg (some q39))))))), (q40, .inl (y42, 374, .inl (fun _ => 0))), (q30, .inl (y32, 187, .inl (fun _ => 0))), (q41, .inl (y43, 0, .inl (fun _ => 0)))] [(y7, .object "Segueworks$Piece"), (y32, .int), (y7, .object "Segueworks$Piece"), (y7, .object "Segueworks$Piece"), (y42, .int), (y43, .int), (y7, .object "Segueworks$Piece"), (y42, .int), (y32, .int), (y43, .int)] _ := hh
  refine W.eq (g2 := F0 m 76 ls [.int 1]) (by first | rfl | decide) ?_
  exact k_endi hx hb hr hlocks hh ⟨q39, q40, q41, y42, rfl, rfl, rfl⟩ [1, 3, 0, 5, 2, 4] [0, 1, 4] rfl rfl rfl (Nat.le_of_ble_eq_true rfl) (Nat.le_of_ble_eq_true rfl) dX6_splice_76
