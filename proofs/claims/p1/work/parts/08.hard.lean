theorem dX5_init_0 : decode cX5_init 0 = .ok (.aload_n 0, 1) := by decide +kernel
theorem dX5_init_1 : decode cX5_init 1 = .ok (.invokespecial 3, 3) := by decide +kernel
theorem dX5_init_4 : decode cX5_init 4 = .ok (.aload_n 0, 1) := by decide +kernel
theorem dX5_init_5 : decode cX5_init 5 = .ok (.sipush 200, 3) := by decide +kernel
theorem dX5_init_8 : decode cX5_init 8 = .ok (.newarray .int, 2) := by decide +kernel
theorem dX5_init_10 : decode cX5_init 10 = .ok (.putfield 9, 3) := by decide +kernel
theorem dX5_init_13 : decode cX5_init 13 = .ok (.return_, 1) := by decide +kernel
theorem dX6_reel_0 : decode cX6_reel 0 = .ok (.aload_n 0, 1) := by decide +kernel
theorem dX6_reel_1 : decode cX6_reel 1 = .ok (.getfield 41, 3) := by decide +kernel
theorem dX6_reel_4 : decode cX6_reel 4 = .ok (.bipush 6, 2) := by decide +kernel
theorem dX6_reel_6 : decode cX6_reel 6 = .ok (.if_icmp .lt 13, 3) := by decide +kernel
theorem dX6_reel_19 : decode cX6_reel 19 = .ok (.aload_n 0, 1) := by decide +kernel
theorem dX6_reel_20 : decode cX6_reel 20 = .ok (.getfield 11, 3) := by decide +kernel
theorem dX6_reel_23 : decode cX6_reel 23 = .ok (.aload_n 0, 1) := by decide +kernel
theorem dX6_reel_24 : decode cX6_reel 24 = .ok (.getfield 41, 3) := by decide +kernel
theorem dX6_reel_27 : decode cX6_reel 27 = .ok (.new 9, 3) := by decide +kernel
theorem dX6_reel_30 : decode cX6_reel 30 = .ok (.dup, 1) := by decide +kernel
theorem dX6_reel_31 : decode cX6_reel 31 = .ok (.invokespecial 52, 3) := by decide +kernel
theorem dX6_reel_34 : decode cX6_reel 34 = .ok (.aastore, 1) := by decide +kernel
theorem dX6_reel_35 : decode cX6_reel 35 = .ok (.aload_n 0, 1) := by decide +kernel
theorem dX6_reel_36 : decode cX6_reel 36 = .ok (.dup, 1) := by decide +kernel
theorem dX6_reel_37 : decode cX6_reel 37 = .ok (.getfield 41, 3) := by decide +kernel
theorem dX6_reel_40 : decode cX6_reel 40 = .ok (.iconst 1, 1) := by decide +kernel
theorem dX6_reel_41 : decode cX6_reel 41 = .ok (.iadd, 1) := by decide +kernel
theorem dX6_reel_42 : decode cX6_reel 42 = .ok (.putfield 41, 3) := by decide +kernel
theorem dX6_reel_45 : decode cX6_reel 45 = .ok (.aload_n 0, 1) := by decide +kernel
theorem dX6_reel_46 : decode cX6_reel 46 = .ok (.getfield 41, 3) := by decide +kernel
theorem dX6_reel_49 : decode cX6_reel 49 = .ok (.iconst 1, 1) := by decide +kernel
theorem dX6_reel_50 : decode cX6_reel 50 = .ok (.isub, 1) := by decide +kernel
theorem dX6_reel_51 : decode cX6_reel 51 = .ok (.ireturn, 1) := by decide +kernel
theorem dX6_silence_0 : decode cX6_silence 0 = .ok (.iload_n 1, 1) := by decide +kernel
theorem dX6_silence_1 : decode cX6_silence 1 = .ok (.iconst 1, 1) := by decide +kernel
theorem dX6_silence_2 : decode cX6_silence 2 = .ok (.sipush 200, 3) := by decide +kernel
theorem dX6_silence_5 : decode cX6_silence 5 = .ok (.invokestatic 57, 3) := by decide +kernel
theorem dX11_reel_0 : decode cX11_reel 0 = .ok (.aload_n 0, 1) := by decide +kernel
theorem dX11_reel_1 : decode cX11_reel 1 = .ok (.aload_n 0, 1) := by decide +kernel
theorem dX11_reel_2 : decode cX11_reel 2 = .ok (.getfield 19, 3) := by decide +kernel
theorem dX11_reel_5 : decode cX11_reel 5 = .ok (.invokevirtual 50, 3) := by decide +kernel
theorem dX11_reel_8 : decode cX11_reel 8 = .ok (.bipush 6, 2) := by decide +kernel
theorem dX11_reel_10 : decode cX11_reel 10 = .ok (.if_icmp .ne 7, 3) := by decide +kernel
theorem dX11_reel_17 : decode cX11_reel 17 = .ok (.iconst 0, 1) := by decide +kernel
theorem dX11_reel_18 : decode cX11_reel 18 = .ok (.putfield 46, 3) := by decide +kernel
theorem dX11_reel_21 : decode cX11_reel 21 = .ok (.aload_n 0, 1) := by decide +kernel
theorem dX11_reel_22 : decode cX11_reel 22 = .ok (.getfield 46, 3) := by decide +kernel
theorem dX11_reel_25 : decode cX11_reel 25 = .ok (.ifCond .le 5, 3) := by decide +kernel
theorem dX11_reel_30 : decode cX11_reel 30 = .ok (.aload_n 0, 1) := by decide +kernel
theorem dX11_reel_31 : decode cX11_reel 31 = .ok (.getfield 19, 3) := by decide +kernel
theorem dX11_reel_34 : decode cX11_reel 34 = .ok (.new 16, 3) := by decide +kernel
theorem dX11_reel_37 : decode cX11_reel 37 = .ok (.dup, 1) := by decide +kernel
theorem dX11_reel_38 : decode cX11_reel 38 = .ok (.invokespecial 18, 3) := by decide +kernel
theorem dX11_reel_41 : decode cX11_reel 41 = .ok (.invokevirtual 58, 3) := by decide +kernel
theorem dX11_reel_44 : decode cX11_reel 44 = .ok (.pop, 1) := by decide +kernel
theorem dX11_reel_45 : decode cX11_reel 45 = .ok (.aload_n 0, 1) := by decide +kernel
theorem dX11_reel_46 : decode cX11_reel 46 = .ok (.getfield 19, 3) := by decide +kernel
theorem dX11_reel_49 : decode cX11_reel 49 = .ok (.invokevirtual 50, 3) := by decide +kernel
theorem dX11_reel_52 : decode cX11_reel 52 = .ok (.iconst 1, 1) := by decide +kernel
theorem dX11_reel_53 : decode cX11_reel 53 = .ok (.isub, 1) := by decide +kernel
theorem dX11_reel_54 : decode cX11_reel 54 = .ok (.ireturn, 1) := by decide +kernel
theorem dX11_adds_0 : decode cX11_adds 0 = .ok (.aload_n 0, 1) := by decide +kernel
theorem dX11_adds_1 : decode cX11_adds 1 = .ok (.aload_n 0, 1) := by decide +kernel
theorem dX11_adds_2 : decode cX11_adds 2 = .ok (.getfield 46, 3) := by decide +kernel
theorem dX11_adds_5 : decode cX11_adds 5 = .ok (.ifCond .le 10, 3) := by decide +kernel
theorem dX11_adds_8 : decode cX11_adds 8 = .ok (.aload_n 0, 1) := by decide +kernel
theorem dX11_adds_9 : decode cX11_adds 9 = .ok (.getfield 46, 3) := by decide +kernel
theorem dX11_adds_12 : decode cX11_adds 12 = .ok (.goto 20, 3) := by decide +kernel
theorem dX11_adds_32 : decode cX11_adds 32 = .ok (.putfield 46, 3) := by decide +kernel
theorem dX11_adds_35 : decode cX11_adds 35 = .ok (.aload_n 0, 1) := by decide +kernel
theorem dX11_adds_36 : decode cX11_adds 36 = .ok (.getfield 46, 3) := by decide +kernel
theorem dX11_adds_39 : decode cX11_adds 39 = .ok (.ifCond .le 5, 3) := by decide +kernel
theorem dX11_adds_42 : decode cX11_adds 42 = .ok (.iconst 0, 1) := by decide +kernel
theorem dX11_adds_43 : decode cX11_adds 43 = .ok (.ireturn, 1) := by decide +kernel
theorem dX11_silence_0 : decode cX11_silence 0 = .ok (.aload_n 0, 1) := by decide +kernel
theorem dX11_silence_1 : decode cX11_silence 1 = .ok (.iload_n 1, 1) := by decide +kernel
theorem dX11_silence_2 : decode cX11_silence 2 = .ok (.i2l, 1) := by decide +kernel
theorem dX11_silence_3 : decode cX11_silence 3 = .ok (.lconst 1, 1) := by decide +kernel
theorem dX11_silence_4 : decode cX11_silence 4 = .ok (.ldc2_w 80, 3) := by decide +kernel
theorem dX11_silence_7 : decode cX11_silence 7 = .ok (.invokestatic 54, 3) := by decide +kernel
theorem dX11_silence_10 : decode cX11_silence 10 = .ok (.ifCond .eq 7, 3) := by decide +kernel
theorem dX11_silence_17 : decode cX11_silence 17 = .ok (.iconst 1, 1) := by decide +kernel
theorem dX11_silence_18 : decode cX11_silence 18 = .ok (.putfield 46, 3) := by decide +kernel
theorem dX11_silence_21 : decode cX11_silence 21 = .ok (.aload_n 0, 1) := by decide +kernel
theorem dX11_silence_22 : decode cX11_silence 22 = .ok (.bipush 115, 2) := by decide +kernel
theorem dX11_silence_24 : decode cX11_silence 24 = .ok (.aload_n 0, 1) := by decide +kernel
theorem dX11_silence_25 : decode cX11_silence 25 = .ok (.getfield 46, 3) := by decide +kernel
theorem dX11_silence_28 : decode cX11_silence 28 = .ok (.ifCond .le 7, 3) := by decide +kernel
theorem dX11_silence_31 : decode cX11_silence 31 = .ok (.iconst 0, 1) := by decide +kernel
theorem dX11_silence_32 : decode cX11_silence 32 = .ok (.goto 4, 3) := by decide +kernel
theorem dX11_silence_36 : decode cX11_silence 36 = .ok (.newarray .int, 2) := by decide +kernel
theorem dX11_silence_38 : decode cX11_silence 38 = .ok (.iconst 2, 1) := by decide +kernel
theorem dX11_silence_39 : decode cX11_silence 39 = .ok (.invokevirtual 100, 3) := by decide +kernel
theorem dX11_silence_42 : decode cX11_silence 42 = .ok (.ireturn, 1) := by decide +kernel
theorem dX11_sidesOf_0 : decode cX11_sidesOf 0 = .ok (.new 16, 3) := by decide +kernel
theorem dX11_sidesOf_3 : decode cX11_sidesOf 3 = .ok (.dup, 1) := by decide +kernel
theorem dX11_sidesOf_4 : decode cX11_sidesOf 4 = .ok (.invokespecial 18, 3) := by decide +kernel
theorem dX11_sidesOf_7 : decode cX11_sidesOf 7 = .ok (.astore_n 2, 1) := by decide +kernel
theorem dX11_sidesOf_8 : decode cX11_sidesOf 8 = .ok (.iconst 0, 1) := by decide +kernel
theorem dX11_sidesOf_9 : decode cX11_sidesOf 9 = .ok (.istore_n 3, 1) := by decide +kernel
theorem dX11_sidesOf_10 : decode cX11_sidesOf 10 = .ok (.iload_n 3, 1) := by decide +kernel
theorem dX11_sidesOf_11 : decode cX11_sidesOf 11 = .ok (.aload_n 0, 1) := by decide +kernel
theorem dX11_sidesOf_12 : decode cX11_sidesOf 12 = .ok (.getfield 28, 3) := by decide +kernel
theorem dX11_sidesOf_15 : decode cX11_sidesOf 15 = .ok (.invokevirtual 50, 3) := by decide +kernel
theorem dX11_sidesOf_18 : decode cX11_sidesOf 18 = .ok (.if_icmp .ge 67, 3) := by decide +kernel
theorem dX11_sidesOf_85 : decode cX11_sidesOf 85 = .ok (.aload_n 2, 1) := by decide +kernel
theorem dX11_sidesOf_86 : decode cX11_sidesOf 86 = .ok (.iload_n 3, 1) := by decide +kernel
theorem dX11_sidesOf_87 : decode cX11_sidesOf 87 = .ok (.invokestatic 74, 3) := by decide +kernel
theorem dX11_sidesOf_90 : decode cX11_sidesOf 90 = .ok (.invokevirtual 58, 3) := by decide +kernel
theorem dX11_sidesOf_93 : decode cX11_sidesOf 93 = .ok (.pop, 1) := by decide +kernel
theorem dX11_sidesOf_94 : decode cX11_sidesOf 94 = .ok (.aload_n 2, 1) := by decide +kernel
theorem dX11_sidesOf_95 : decode cX11_sidesOf 95 = .ok (.areturn, 1) := by decide +kernel
theorem dX11_noSides_0 : decode cX11_noSides 0 = .ok (.aload_n 0, 1) := by decide +kernel
theorem dX11_noSides_1 : decode cX11_noSides 1 = .ok (.iload_n 1, 1) := by decide +kernel
theorem dX11_noSides_2 : decode cX11_noSides 2 = .ok (.i2l, 1) := by decide +kernel
theorem dX11_noSides_3 : decode cX11_noSides 3 = .ok (.lconst 1, 1) := by decide +kernel
theorem dX11_noSides_4 : decode cX11_noSides 4 = .ok (.ldc2_w 181, 3) := by decide +kernel
theorem dX11_noSides_7 : decode cX11_noSides 7 = .ok (.invokestatic 54, 3) := by decide +kernel
theorem dX11_noSides_10 : decode cX11_noSides 10 = .ok (.ifCond .ne 7, 3) := by decide +kernel
theorem dX11_noSides_13 : decode cX11_noSides 13 = .ok (.iload_n 2, 1) := by decide +kernel
theorem dX11_noSides_14 : decode cX11_noSides 14 = .ok (.goto 18, 3) := by decide +kernel
theorem dX11_noSides_17 : decode cX11_noSides 17 = .ok (.aload_n 0, 1) := by decide +kernel
theorem dX11_noSides_18 : decode cX11_noSides 18 = .ok (.iload_n 1, 1) := by decide +kernel
theorem dX11_noSides_19 : decode cX11_noSides 19 = .ok (.invokevirtual 183, 3) := by decide +kernel
theorem dX11_noSides_22 : decode cX11_noSides 22 = .ok (.ifnonnull 9, 3) := by decide +kernel
theorem dX11_noSides_31 : decode cX11_noSides 31 = .ok (.iconst 0, 1) := by decide +kernel
theorem dX11_noSides_32 : decode cX11_noSides 32 = .ok (.putfield 46, 3) := by decide +kernel
theorem dX11_noSides_35 : decode cX11_noSides 35 = .ok (.aload_n 0, 1) := by decide +kernel
theorem dX11_noSides_36 : decode cX11_noSides 36 = .ok (.getfield 46, 3) := by decide +kernel
theorem dX11_noSides_39 : decode cX11_noSides 39 = .ok (.ifCond .le 7, 3) := by decide +kernel
theorem dX11_noSides_42 : decode cX11_noSides 42 = .ok (.iconst 1, 1) := by decide +kernel
theorem dX11_noSides_43 : decode cX11_noSides 43 = .ok (.goto 4, 3) := by decide +kernel
theorem dX11_noSides_46 : decode cX11_noSides 46 = .ok (.iconst 0, 1) := by decide +kernel
theorem dX11_noSides_47 : decode cX11_noSides 47 = .ok (.ireturn, 1) := by decide +kernel
theorem dX11_sides_0 : decode cX11_sides 0 = .ok (.aload_n 0, 1) := by decide +kernel
theorem dX11_sides_1 : decode cX11_sides 1 = .ok (.iload_n 1, 1) := by decide +kernel
theorem dX11_sides_2 : decode cX11_sides 2 = .ok (.iconst 1, 1) := by decide +kernel
theorem dX11_sides_3 : decode cX11_sides 3 = .ok (.invokevirtual 187, 3) := by decide +kernel
theorem dX11_sides_6 : decode cX11_sides 6 = .ok (.ifCond .eq 7, 3) := by decide +kernel
theorem dX11_sides_9 : decode cX11_sides 9 = .ok (.iconst 0, 1) := by decide +kernel
theorem dX11_sides_10 : decode cX11_sides 10 = .ok (.goto 13, 3) := by decide +kernel
theorem dX11_sides_13 : decode cX11_sides 13 = .ok (.aload_n 0, 1) := by decide +kernel
theorem dX11_sides_14 : decode cX11_sides 14 = .ok (.iload_n 1, 1) := by decide +kernel
theorem dX11_sides_15 : decode cX11_sides 15 = .ok (.invokevirtual 183, 3) := by decide +kernel
theorem dX11_sides_18 : decode cX11_sides 18 = .ok (.invokevirtual 50, 3) := by decide +kernel
theorem dX11_sides_21 : decode cX11_sides 21 = .ok (.iconst 1, 1) := by decide +kernel
theorem dX11_sides_22 : decode cX11_sides 22 = .ok (.isub, 1) := by decide +kernel
theorem dX11_sides_23 : decode cX11_sides 23 = .ok (.ireturn, 1) := by decide +kernel
theorem dX11_engrave_0 : decode cX11_engrave 0 = .ok (.aload_n 0, 1) := by decide +kernel
theorem dX11_engrave_1 : decode cX11_engrave 1 = .ok (.iload_n 2, 1) := by decide +kernel
theorem dX11_engrave_2 : decode cX11_engrave 2 = .ok (.iconst 1, 1) := by decide +kernel
theorem dX11_engrave_3 : decode cX11_engrave 3 = .ok (.invokevirtual 187, 3) := by decide +kernel
theorem dX11_engrave_6 : decode cX11_engrave 6 = .ok (.ifCond .eq 5, 3) := by decide +kernel
theorem dX11_engrave_9 : decode cX11_engrave 9 = .ok (.iconst 0, 1) := by decide +kernel
theorem dX11_engrave_10 : decode cX11_engrave 10 = .ok (.ireturn, 1) := by decide +kernel
theorem dX11_engrave_11 : decode cX11_engrave 11 = .ok (.aload_n 0, 1) := by decide +kernel
theorem dX11_engrave_12 : decode cX11_engrave 12 = .ok (.iload_n 2, 1) := by decide +kernel
theorem dX11_engrave_13 : decode cX11_engrave 13 = .ok (.invokevirtual 183, 3) := by decide +kernel
theorem dX11_engrave_16 : decode cX11_engrave 16 = .ok (.astore_n 3, 1) := by decide +kernel
theorem dX11_engrave_17 : decode cX11_engrave 17 = .ok (.aload_n 0, 1) := by decide +kernel
theorem dX11_engrave_18 : decode cX11_engrave 18 = .ok (.iload_n 1, 1) := by decide +kernel
theorem dX11_engrave_19 : decode cX11_engrave 19 = .ok (.i2l, 1) := by decide +kernel
theorem dX11_engrave_20 : decode cX11_engrave 20 = .ok (.lconst 0, 1) := by decide +kernel
theorem dX11_engrave_21 : decode cX11_engrave 21 = .ok (.aload_n 3, 1) := by decide +kernel
theorem dX11_engrave_22 : decode cX11_engrave 22 = .ok (.invokevirtual 50, 3) := by decide +kernel
theorem dX11_engrave_25 : decode cX11_engrave 25 = .ok (.iconst 2, 1) := by decide +kernel
theorem dX11_engrave_26 : decode cX11_engrave 26 = .ok (.isub, 1) := by decide +kernel
theorem dX11_engrave_27 : decode cX11_engrave 27 = .ok (.i2l, 1) := by decide +kernel
theorem dX11_engrave_28 : decode cX11_engrave 28 = .ok (.invokestatic 54, 3) := by decide +kernel
theorem dX11_engrave_31 : decode cX11_engrave 31 = .ok (.ifCond .ne 7, 3) := by decide +kernel
theorem dX11_engrave_34 : decode cX11_engrave 34 = .ok (.iconst 3, 1) := by decide +kernel
theorem dX11_engrave_35 : decode cX11_engrave 35 = .ok (.goto 20, 3) := by decide +kernel
theorem dX11_engrave_55 : decode cX11_engrave 55 = .ok (.putfield 46, 3) := by decide +kernel
theorem dX11_engrave_58 : decode cX11_engrave 58 = .ok (.aload_n 0, 1) := by decide +kernel
theorem dX11_engrave_59 : decode cX11_engrave 59 = .ok (.getfield 46, 3) := by decide +kernel
theorem dX11_engrave_62 : decode cX11_engrave 62 = .ok (.ifCond .le 5, 3) := by decide +kernel
theorem dX11_engrave_65 : decode cX11_engrave 65 = .ok (.iconst 0, 1) := by decide +kernel
theorem dX11_engrave_66 : decode cX11_engrave 66 = .ok (.ireturn, 1) := by decide +kernel
theorem dX11_shuffled_0 : decode cX11_shuffled 0 = .ok (.aload_n 0, 1) := by decide +kernel
theorem dX11_shuffled_1 : decode cX11_shuffled 1 = .ok (.iload_n 1, 1) := by decide +kernel
theorem dX11_shuffled_2 : decode cX11_shuffled 2 = .ok (.i2l, 1) := by decide +kernel
theorem dX11_shuffled_3 : decode cX11_shuffled 3 = .ok (.lconst 1, 1) := by decide +kernel
theorem dX11_shuffled_4 : decode cX11_shuffled 4 = .ok (.ldc2_w 128, 3) := by decide +kernel
theorem dX11_shuffled_7 : decode cX11_shuffled 7 = .ok (.invokestatic 54, 3) := by decide +kernel
theorem dX11_shuffled_10 : decode cX11_shuffled 10 = .ok (.ifCond .eq 7, 3) := by decide +kernel
theorem dX11_shuffled_13 : decode cX11_shuffled 13 = .ok (.iconst 0, 1) := by decide +kernel
theorem dX11_shuffled_14 : decode cX11_shuffled 14 = .ok (.goto 4, 3) := by decide +kernel
theorem dX11_shuffled_17 : decode cX11_shuffled 17 = .ok (.iconst 1, 1) := by decide +kernel
theorem dX11_shuffled_18 : decode cX11_shuffled 18 = .ok (.putfield 46, 3) := by decide +kernel
theorem dX11_shuffled_21 : decode cX11_shuffled 21 = .ok (.aload_n 0, 1) := by decide +kernel
theorem dX11_shuffled_22 : decode cX11_shuffled 22 = .ok (.getfield 46, 3) := by decide +kernel
theorem dX11_shuffled_25 : decode cX11_shuffled 25 = .ok (.ifCond .le 5, 3) := by decide +kernel
theorem dX11_shuffled_28 : decode cX11_shuffled 28 = .ok (.iconst 0, 1) := by decide +kernel
theorem dX11_shuffled_29 : decode cX11_shuffled 29 = .ok (.ireturn, 1) := by decide +kernel
theorem dX11_shuffled_30 : decode cX11_shuffled 30 = .ok (.new 16, 3) := by decide +kernel
theorem dX11_shuffled_33 : decode cX11_shuffled 33 = .ok (.dup, 1) := by decide +kernel
theorem dX11_shuffled_34 : decode cX11_shuffled 34 = .ok (.invokespecial 18, 3) := by decide +kernel
theorem dX11_shuffled_37 : decode cX11_shuffled 37 = .ok (.astore_n 3, 1) := by decide +kernel
theorem dX11_shuffled_38 : decode cX11_shuffled 38 = .ok (.iconst 0, 1) := by decide +kernel
theorem dX11_shuffled_39 : decode cX11_shuffled 39 = .ok (.istore 4, 2) := by decide +kernel
theorem dX11_shuffled_41 : decode cX11_shuffled 41 = .ok (.iload 4, 2) := by decide +kernel
theorem dX11_shuffled_43 : decode cX11_shuffled 43 = .ok (.aload_n 0, 1) := by decide +kernel
theorem dX11_shuffled_44 : decode cX11_shuffled 44 = .ok (.getfield 28, 3) := by decide +kernel
theorem dX11_shuffled_47 : decode cX11_shuffled 47 = .ok (.invokevirtual 50, 3) := by decide +kernel
theorem dX11_shuffled_50 : decode cX11_shuffled 50 = .ok (.if_icmp .ge 24, 3) := by decide +kernel
theorem dX11_shuffled_74 : decode cX11_shuffled 74 = .ok (.iload_n 1, 1) := by decide +kernel
theorem dX11_shuffled_75 : decode cX11_shuffled 75 = .ok (.i2l, 1) := by decide +kernel
theorem dX11_shuffled_76 : decode cX11_shuffled 76 = .ok (.lstore 4, 2) := by decide +kernel
theorem dX11_shuffled_78 : decode cX11_shuffled 78 = .ok (.aload_n 3, 1) := by decide +kernel
theorem dX11_shuffled_79 : decode cX11_shuffled 79 = .ok (.invokevirtual 50, 3) := by decide +kernel
theorem dX11_shuffled_82 : decode cX11_shuffled 82 = .ok (.iconst 1, 1) := by decide +kernel
theorem dX11_shuffled_83 : decode cX11_shuffled 83 = .ok (.isub, 1) := by decide +kernel
theorem dX11_shuffled_84 : decode cX11_shuffled 84 = .ok (.istore 6, 2) := by decide +kernel
theorem dX11_shuffled_86 : decode cX11_shuffled 86 = .ok (.iload 6, 2) := by decide +kernel
theorem dX11_shuffled_88 : decode cX11_shuffled 88 = .ok (.ifCond .le 74, 3) := by decide +kernel
theorem dX11_shuffled_162 : decode cX11_shuffled 162 = .ok (.new 16, 3) := by decide +kernel
theorem dX11_shuffled_165 : decode cX11_shuffled 165 = .ok (.dup, 1) := by decide +kernel
theorem dX11_shuffled_166 : decode cX11_shuffled 166 = .ok (.invokespecial 18, 3) := by decide +kernel
theorem dX11_shuffled_169 : decode cX11_shuffled 169 = .ok (.astore 6, 2) := by decide +kernel
theorem dX11_shuffled_171 : decode cX11_shuffled 171 = .ok (.aload_n 3, 1) := by decide +kernel
theorem dX11_shuffled_172 : decode cX11_shuffled 172 = .ok (.invokevirtual 262, 3) := by decide +kernel
theorem dX11_shuffled_175 : decode cX11_shuffled 175 = .ok (.astore 7, 2) := by decide +kernel
theorem dX11_shuffled_177 : decode cX11_shuffled 177 = .ok (.aload 7, 2) := by decide +kernel
theorem dX11_shuffled_179 : decode cX11_shuffled 179 = .ok (.invokeinterface 266 1, 5) := by decide +kernel
theorem dX11_shuffled_184 : decode cX11_shuffled 184 = .ok (.ifCond .eq 53, 3) := by decide +kernel
theorem dX11_shuffled_237 : decode cX11_shuffled 237 = .ok (.aload_n 0, 1) := by decide +kernel
theorem dX11_shuffled_238 : decode cX11_shuffled 238 = .ok (.iload_n 2, 1) := by decide +kernel
theorem dX11_shuffled_239 : decode cX11_shuffled 239 = .ok (.i2l, 1) := by decide +kernel
theorem dX11_shuffled_240 : decode cX11_shuffled 240 = .ok (.lconst 0, 1) := by decide +kernel
theorem dX11_shuffled_241 : decode cX11_shuffled 241 = .ok (.aload 6, 2) := by decide +kernel
theorem dX11_shuffled_243 : decode cX11_shuffled 243 = .ok (.invokevirtual 50, 3) := by decide +kernel
theorem dX11_shuffled_246 : decode cX11_shuffled 246 = .ok (.iconst 1, 1) := by decide +kernel
theorem dX11_shuffled_247 : decode cX11_shuffled 247 = .ok (.isub, 1) := by decide +kernel
theorem dX11_shuffled_248 : decode cX11_shuffled 248 = .ok (.i2l, 1) := by decide +kernel
theorem dX11_shuffled_249 : decode cX11_shuffled 249 = .ok (.invokestatic 54, 3) := by decide +kernel
theorem dX11_shuffled_252 : decode cX11_shuffled 252 = .ok (.ifCond .eq 7, 3) := by decide +kernel
theorem dX11_shuffled_259 : decode cX11_shuffled 259 = .ok (.iconst 2, 1) := by decide +kernel
theorem dX11_shuffled_260 : decode cX11_shuffled 260 = .ok (.putfield 46, 3) := by decide +kernel
theorem dX11_shuffled_263 : decode cX11_shuffled 263 = .ok (.aload_n 0, 1) := by decide +kernel
theorem dX11_shuffled_264 : decode cX11_shuffled 264 = .ok (.getfield 46, 3) := by decide +kernel
theorem dX11_shuffled_267 : decode cX11_shuffled 267 = .ok (.ifCond .le 7, 3) := by decide +kernel
theorem dX11_shuffled_270 : decode cX11_shuffled 270 = .ok (.iconst 0, 1) := by decide +kernel
theorem dX11_shuffled_271 : decode cX11_shuffled 271 = .ok (.goto 15, 3) := by decide +kernel
theorem dX11_shuffled_286 : decode cX11_shuffled 286 = .ok (.ireturn, 1) := by decide +kernel
theorem dX11_checksum_0 : decode cX11_checksum 0 = .ok (.aload_n 0, 1) := by decide +kernel
theorem dX11_checksum_1 : decode cX11_checksum 1 = .ok (.iconst 0, 1) := by decide +kernel
theorem dX11_checksum_2 : decode cX11_checksum 2 = .ok (.putfield 46, 3) := by decide +kernel
theorem dX11_checksum_5 : decode cX11_checksum 5 = .ok (.ldc2_w 275, 3) := by decide +kernel
theorem dX11_checksum_8 : decode cX11_checksum 8 = .ok (.lstore_n 1, 1) := by decide +kernel
theorem dX11_checksum_9 : decode cX11_checksum 9 = .ok (.aload_n 0, 1) := by decide +kernel
theorem dX11_checksum_10 : decode cX11_checksum 10 = .ok (.getfield 25, 3) := by decide +kernel
theorem dX11_checksum_13 : decode cX11_checksum 13 = .ok (.invokevirtual 262, 3) := by decide +kernel
theorem dX11_checksum_16 : decode cX11_checksum 16 = .ok (.astore_n 3, 1) := by decide +kernel
theorem dX11_checksum_17 : decode cX11_checksum 17 = .ok (.aload_n 3, 1) := by decide +kernel
theorem dX11_checksum_18 : decode cX11_checksum 18 = .ok (.invokeinterface 266 1, 5) := by decide +kernel
theorem dX11_checksum_23 : decode cX11_checksum 23 = .ok (.ifCond .eq 53, 3) := by decide +kernel
theorem dX11_checksum_76 : decode cX11_checksum 76 = .ok (.aload_n 0, 1) := by decide +kernel
theorem dX11_checksum_77 : decode cX11_checksum 77 = .ok (.getfield 28, 3) := by decide +kernel
theorem dX11_checksum_80 : decode cX11_checksum 80 = .ok (.invokevirtual 262, 3) := by decide +kernel
theorem dX11_checksum_83 : decode cX11_checksum 83 = .ok (.astore_n 3, 1) := by decide +kernel
theorem dX11_checksum_84 : decode cX11_checksum 84 = .ok (.aload_n 3, 1) := by decide +kernel
theorem dX11_checksum_85 : decode cX11_checksum 85 = .ok (.invokeinterface 266 1, 5) := by decide +kernel
theorem dX11_checksum_90 : decode cX11_checksum 90 = .ok (.ifCond .eq 30, 3) := by decide +kernel
theorem dX11_checksum_120 : decode cX11_checksum 120 = .ok (.aload_n 0, 1) := by decide +kernel
theorem dX11_checksum_121 : decode cX11_checksum 121 = .ok (.getfield 31, 3) := by decide +kernel
theorem dX11_checksum_124 : decode cX11_checksum 124 = .ok (.invokevirtual 262, 3) := by decide +kernel
theorem dX11_checksum_127 : decode cX11_checksum 127 = .ok (.astore_n 3, 1) := by decide +kernel
theorem dX11_checksum_128 : decode cX11_checksum 128 = .ok (.aload_n 3, 1) := by decide +kernel
theorem dX11_checksum_129 : decode cX11_checksum 129 = .ok (.invokeinterface 266 1, 5) := by decide +kernel
theorem dX11_checksum_134 : decode cX11_checksum 134 = .ok (.ifCond .eq 30, 3) := by decide +kernel
theorem dX11_checksum_164 : decode cX11_checksum 164 = .ok (.aload_n 0, 1) := by decide +kernel
theorem dX11_checksum_165 : decode cX11_checksum 165 = .ok (.getfield 40, 3) := by decide +kernel
theorem dX11_checksum_168 : decode cX11_checksum 168 = .ok (.invokevirtual 262, 3) := by decide +kernel
theorem dX11_checksum_171 : decode cX11_checksum 171 = .ok (.astore_n 3, 1) := by decide +kernel
theorem dX11_checksum_172 : decode cX11_checksum 172 = .ok (.aload_n 3, 1) := by decide +kernel
theorem dX11_checksum_173 : decode cX11_checksum 173 = .ok (.invokeinterface 266 1, 5) := by decide +kernel
theorem dX11_checksum_178 : decode cX11_checksum 178 = .ok (.ifCond .eq 30, 3) := by decide +kernel
theorem dX11_checksum_208 : decode cX11_checksum 208 = .ok (.aload_n 0, 1) := by decide +kernel
theorem dX11_checksum_209 : decode cX11_checksum 209 = .ok (.getfield 43, 3) := by decide +kernel
theorem dX11_checksum_212 : decode cX11_checksum 212 = .ok (.invokevirtual 262, 3) := by decide +kernel
theorem dX11_checksum_215 : decode cX11_checksum 215 = .ok (.astore_n 3, 1) := by decide +kernel
theorem dX11_checksum_216 : decode cX11_checksum 216 = .ok (.aload_n 3, 1) := by decide +kernel
theorem dX11_checksum_217 : decode cX11_checksum 217 = .ok (.invokeinterface 266 1, 5) := by decide +kernel
theorem dX11_checksum_222 : decode cX11_checksum 222 = .ok (.ifCond .eq 31, 3) := by decide +kernel
theorem dX11_checksum_253 : decode cX11_checksum 253 = .ok (.lload_n 1, 1) := by decide +kernel
theorem dX11_checksum_254 : decode cX11_checksum 254 = .ok (.lreturn, 1) := by decide +kernel
theorem dJ6_valueOf_2dffe_0 : decode cJ6_valueOf_2dffe 0 = .ok (.iload_n 0, 1) := by decide +kernel
theorem dJ6_valueOf_2dffe_1 : decode cJ6_valueOf_2dffe 1 = .ok (.bipush (-128), 2) := by decide +kernel
theorem dJ6_valueOf_2dffe_3 : decode cJ6_valueOf_2dffe 3 = .ok (.if_icmp .lt 20, 3) := by decide +kernel
theorem dJ6_valueOf_2dffe_6 : decode cJ6_valueOf_2dffe 6 = .ok (.iload_n 0, 1) := by decide +kernel
theorem dJ6_valueOf_2dffe_7 : decode cJ6_valueOf_2dffe 7 = .ok (.getstatic 191, 3) := by decide +kernel
theorem dJ6_valueOf_2dffe_10 : decode cJ6_valueOf_2dffe 10 = .ok (.if_icmp .gt 13, 3) := by decide +kernel
theorem dJ6_valueOf_2dffe_13 : decode cJ6_valueOf_2dffe 13 = .ok (.getstatic 195, 3) := by decide +kernel
theorem dJ6_valueOf_2dffe_16 : decode cJ6_valueOf_2dffe 16 = .ok (.iload_n 0, 1) := by decide +kernel
theorem dJ6_valueOf_2dffe_17 : decode cJ6_valueOf_2dffe 17 = .ok (.sipush 128, 3) := by decide +kernel
theorem dJ6_valueOf_2dffe_20 : decode cJ6_valueOf_2dffe 20 = .ok (.iadd, 1) := by decide +kernel
theorem dJ6_valueOf_2dffe_21 : decode cJ6_valueOf_2dffe 21 = .ok (.aaload, 1) := by decide +kernel
theorem dJ6_valueOf_2dffe_22 : decode cJ6_valueOf_2dffe 22 = .ok (.areturn, 1) := by decide +kernel
theorem dJx35411_init_45d68_0 : decode cJx35411_init_45d68 0 = .ok (.aload_n 0, 1) := by decide +kernel
theorem dJx35411_init_45d68_1 : decode cJx35411_init_45d68 1 = .ok (.aload_n 1, 1) := by decide +kernel
theorem dJx35411_init_45d68_2 : decode cJx35411_init_45d68 2 = .ok (.putfield 1, 3) := by decide +kernel
theorem dJx35411_init_45d68_5 : decode cJx35411_init_45d68 5 = .ok (.aload_n 0, 1) := by decide +kernel
theorem dJx35411_init_45d68_6 : decode cJx35411_init_45d68 6 = .ok (.invokespecial 7, 3) := by decide +kernel
theorem dJx35411_init_45d68_9 : decode cJx35411_init_45d68 9 = .ok (.aload_n 0, 1) := by decide +kernel
theorem dJx35411_init_45d68_10 : decode cJx35411_init_45d68 10 = .ok (.iconst (-1), 1) := by decide +kernel
theorem dJx35411_init_45d68_11 : decode cJx35411_init_45d68 11 = .ok (.putfield 13, 3) := by decide +kernel
theorem dJx35411_init_45d68_14 : decode cJx35411_init_45d68 14 = .ok (.aload_n 0, 1) := by decide +kernel
theorem dJx35411_init_45d68_15 : decode cJx35411_init_45d68 15 = .ok (.aload_n 0, 1) := by decide +kernel
theorem dJx35411_init_45d68_16 : decode cJx35411_init_45d68 16 = .ok (.getfield 1, 3) := by decide +kernel
theorem dJx35411_init_45d68_19 : decode cJx35411_init_45d68 19 = .ok (.getfield 17, 3) := by decide +kernel
theorem dJx35411_init_45d68_22 : decode cJx35411_init_45d68 22 = .ok (.putfield 22, 3) := by decide +kernel
theorem dJx35411_init_45d68_25 : decode cJx35411_init_45d68 25 = .ok (.return_, 1) := by decide +kernel
theorem dJx35411_hasNext_aae02_0 : decode cJx35411_hasNext_aae02 0 = .ok (.aload_n 0, 1) := by decide +kernel
theorem dJx35411_hasNext_aae02_1 : decode cJx35411_hasNext_aae02 1 = .ok (.getfield 25, 3) := by decide +kernel
theorem dJx35411_hasNext_aae02_4 : decode cJx35411_hasNext_aae02 4 = .ok (.aload_n 0, 1) := by decide +kernel
theorem dJx35411_hasNext_aae02_5 : decode cJx35411_hasNext_aae02 5 = .ok (.getfield 1, 3) := by decide +kernel
theorem dJx35411_hasNext_aae02_8 : decode cJx35411_hasNext_aae02 8 = .ok (.getfield 28, 3) := by decide +kernel
theorem dJx35411_hasNext_aae02_11 : decode cJx35411_hasNext_aae02 11 = .ok (.if_icmp .eq 7, 3) := by decide +kernel
theorem dJx35411_hasNext_aae02_18 : decode cJx35411_hasNext_aae02 18 = .ok (.iconst 0, 1) := by decide +kernel
theorem dJx35411_hasNext_aae02_19 : decode cJx35411_hasNext_aae02 19 = .ok (.ireturn, 1) := by decide +kernel
theorem dJx4a65c_grow_92f84_0 : decode cJx4a65c_grow_92f84 0 = .ok (.aload_n 0, 1) := by decide +kernel
theorem dJx4a65c_grow_92f84_1 : decode cJx4a65c_grow_92f84 1 = .ok (.getfield 9, 3) := by decide +kernel
theorem dJx4a65c_grow_92f84_4 : decode cJx4a65c_grow_92f84 4 = .ok (.arraylength, 1) := by decide +kernel
theorem dJx4a65c_grow_92f84_5 : decode cJx4a65c_grow_92f84 5 = .ok (.istore_n 2, 1) := by decide +kernel
theorem dJx4a65c_grow_92f84_6 : decode cJx4a65c_grow_92f84 6 = .ok (.iload_n 2, 1) := by decide +kernel
theorem dJx4a65c_grow_92f84_7 : decode cJx4a65c_grow_92f84 7 = .ok (.ifCond .gt 13, 3) := by decide +kernel
theorem dJx4a65c_grow_92f84_10 : decode cJx4a65c_grow_92f84 10 = .ok (.aload_n 0, 1) := by decide +kernel
theorem dJx4a65c_grow_92f84_11 : decode cJx4a65c_grow_92f84 11 = .ok (.getfield 9, 3) := by decide +kernel
theorem dJx4a65c_grow_92f84_14 : decode cJx4a65c_grow_92f84 14 = .ok (.getstatic 39, 3) := by decide +kernel
theorem dJx4a65c_grow_92f84_17 : decode cJx4a65c_grow_92f84 17 = .ok (.if_acmp .eq 28, 3) := by decide +kernel
theorem dJx4a65c_grow_92f84_45 : decode cJx4a65c_grow_92f84 45 = .ok (.aload_n 0, 1) := by decide +kernel
theorem dJx4a65c_grow_92f84_46 : decode cJx4a65c_grow_92f84 46 = .ok (.bipush 10, 2) := by decide +kernel
theorem dJx4a65c_grow_92f84_48 : decode cJx4a65c_grow_92f84 48 = .ok (.iload_n 1, 1) := by decide +kernel
theorem dJx4a65c_grow_92f84_49 : decode cJx4a65c_grow_92f84 49 = .ok (.invokestatic 79, 3) := by decide +kernel
theorem dJx4a65c_grow_92f84_52 : decode cJx4a65c_grow_92f84 52 = .ok (.anewarray 7, 3) := by decide +kernel
theorem dJx4a65c_grow_92f84_55 : decode cJx4a65c_grow_92f84 55 = .ok (.dup_x1, 1) := by decide +kernel
theorem dJx4a65c_grow_92f84_56 : decode cJx4a65c_grow_92f84 56 = .ok (.putfield 9, 3) := by decide +kernel
theorem dJx4a65c_grow_92f84_59 : decode cJx4a65c_grow_92f84 59 = .ok (.areturn, 1) := by decide +kernel
theorem dJx4a65c_grow_d5877_0 : decode cJx4a65c_grow_d5877 0 = .ok (.aload_n 0, 1) := by decide +kernel
theorem dJx4a65c_grow_d5877_1 : decode cJx4a65c_grow_d5877 1 = .ok (.aload_n 0, 1) := by decide +kernel
theorem dJx4a65c_grow_d5877_2 : decode cJx4a65c_grow_d5877 2 = .ok (.getfield 48, 3) := by decide +kernel
theorem dJx4a65c_grow_d5877_5 : decode cJx4a65c_grow_d5877 5 = .ok (.iconst 1, 1) := by decide +kernel
theorem dJx4a65c_grow_d5877_6 : decode cJx4a65c_grow_d5877 6 = .ok (.iadd, 1) := by decide +kernel
theorem dJx4a65c_grow_d5877_7 : decode cJx4a65c_grow_d5877 7 = .ok (.invokevirtual 69, 3) := by decide +kernel
theorem dJx4a65c_grow_d5877_10 : decode cJx4a65c_grow_d5877 10 = .ok (.areturn, 1) := by decide +kernel
theorem dJx4a65c_add_72be8_0 : decode cJx4a65c_add_72be8 0 = .ok (.iload_n 3, 1) := by decide +kernel
theorem dJx4a65c_add_72be8_1 : decode cJx4a65c_add_72be8 1 = .ok (.aload_n 2, 1) := by decide +kernel
theorem dJx4a65c_add_72be8_2 : decode cJx4a65c_add_72be8 2 = .ok (.arraylength, 1) := by decide +kernel
theorem dJx4a65c_add_72be8_3 : decode cJx4a65c_add_72be8 3 = .ok (.if_icmp .ne 8, 3) := by decide +kernel
theorem dJx4a65c_add_72be8_6 : decode cJx4a65c_add_72be8 6 = .ok (.aload_n 0, 1) := by decide +kernel
theorem dJx4a65c_add_72be8_7 : decode cJx4a65c_add_72be8 7 = .ok (.invokevirtual 129, 3) := by decide +kernel
theorem dJx4a65c_add_72be8_10 : decode cJx4a65c_add_72be8 10 = .ok (.astore_n 2, 1) := by decide +kernel
theorem dJx4a65c_add_72be8_11 : decode cJx4a65c_add_72be8 11 = .ok (.aload_n 2, 1) := by decide +kernel
theorem dJx4a65c_add_72be8_12 : decode cJx4a65c_add_72be8 12 = .ok (.iload_n 3, 1) := by decide +kernel
theorem dJx4a65c_add_72be8_13 : decode cJx4a65c_add_72be8 13 = .ok (.aload_n 1, 1) := by decide +kernel
theorem dJx4a65c_add_72be8_14 : decode cJx4a65c_add_72be8 14 = .ok (.aastore, 1) := by decide +kernel
theorem dJx4a65c_add_72be8_15 : decode cJx4a65c_add_72be8 15 = .ok (.aload_n 0, 1) := by decide +kernel
theorem dJx4a65c_add_72be8_16 : decode cJx4a65c_add_72be8 16 = .ok (.iload_n 3, 1) := by decide +kernel
theorem dJx4a65c_add_72be8_17 : decode cJx4a65c_add_72be8 17 = .ok (.iconst 1, 1) := by decide +kernel
theorem dJx4a65c_add_72be8_18 : decode cJx4a65c_add_72be8 18 = .ok (.iadd, 1) := by decide +kernel
theorem dJx4a65c_add_72be8_19 : decode cJx4a65c_add_72be8 19 = .ok (.putfield 48, 3) := by decide +kernel
theorem dJx4a65c_add_72be8_22 : decode cJx4a65c_add_72be8 22 = .ok (.return_, 1) := by decide +kernel
theorem dJx4a65c_add_9ea2d_0 : decode cJx4a65c_add_9ea2d 0 = .ok (.aload_n 0, 1) := by decide +kernel
theorem dJx4a65c_add_9ea2d_1 : decode cJx4a65c_add_9ea2d 1 = .ok (.dup, 1) := by decide +kernel
theorem dJx4a65c_add_9ea2d_2 : decode cJx4a65c_add_9ea2d 2 = .ok (.getfield 63, 3) := by decide +kernel
theorem dJx4a65c_add_9ea2d_5 : decode cJx4a65c_add_9ea2d 5 = .ok (.iconst 1, 1) := by decide +kernel
theorem dJx4a65c_add_9ea2d_6 : decode cJx4a65c_add_9ea2d 6 = .ok (.iadd, 1) := by decide +kernel
theorem dJx4a65c_add_9ea2d_7 : decode cJx4a65c_add_9ea2d 7 = .ok (.putfield 63, 3) := by decide +kernel
theorem dJx4a65c_add_9ea2d_10 : decode cJx4a65c_add_9ea2d 10 = .ok (.aload_n 0, 1) := by decide +kernel
theorem dJx4a65c_add_9ea2d_11 : decode cJx4a65c_add_9ea2d 11 = .ok (.aload_n 1, 1) := by decide +kernel
theorem dJx4a65c_add_9ea2d_12 : decode cJx4a65c_add_9ea2d 12 = .ok (.aload_n 0, 1) := by decide +kernel
theorem dJx4a65c_add_9ea2d_13 : decode cJx4a65c_add_9ea2d 13 = .ok (.getfield 9, 3) := by decide +kernel
theorem dJx4a65c_add_9ea2d_16 : decode cJx4a65c_add_9ea2d 16 = .ok (.aload_n 0, 1) := by decide +kernel
theorem dJx4a65c_add_9ea2d_17 : decode cJx4a65c_add_9ea2d 17 = .ok (.getfield 48, 3) := by decide +kernel
theorem dJx4a65c_add_9ea2d_20 : decode cJx4a65c_add_9ea2d 20 = .ok (.invokevirtual 131, 3) := by decide +kernel
theorem dJx4a65c_add_9ea2d_23 : decode cJx4a65c_add_9ea2d 23 = .ok (.iconst 1, 1) := by decide +kernel
theorem dJx4a65c_add_9ea2d_24 : decode cJx4a65c_add_9ea2d 24 = .ok (.ireturn, 1) := by decide +kernel
theorem dJx4a65c_iterator_32c93_0 : decode cJx4a65c_iterator_32c93 0 = .ok (.new 267, 3) := by decide +kernel
theorem dJx4a65c_iterator_32c93_3 : decode cJx4a65c_iterator_32c93 3 = .ok (.dup, 1) := by decide +kernel
theorem dJx4a65c_iterator_32c93_4 : decode cJx4a65c_iterator_32c93 4 = .ok (.aload_n 0, 1) := by decide +kernel
theorem dJx4a65c_iterator_32c93_5 : decode cJx4a65c_iterator_32c93 5 = .ok (.invokespecial 269, 3) := by decide +kernel
theorem dJx4a65c_iterator_32c93_8 : decode cJx4a65c_iterator_32c93 8 = .ok (.areturn, 1) := by decide +kernel
def wo_c_valueOf0 : List Cond := [Cond.fieldLink RJ6 191 "java/lang/Integer$IntegerCache" "high" "I", Cond.fieldLink RJ6 195 "java/lang/Integer$IntegerCache" "cache" "[Ljava/lang/Integer;"]
def wk_c_valueOf0 : List Cond := Cond.code yJ6_valueOf_2dffe cJ6_valueOf_2dffe 1 (some (.object "java/lang/Integer")) :: wo_c_valueOf0
theorem wo_c_valueOf0_in : ∀ w ∈ wo_c_valueOf0, w ∈ wk_c_valueOf0 := fun w h => List.mem_cons_of_mem _ h
theorem gk_c_valueOf0 : ∀ w ∈ wk_c_valueOf0, goodWord w = true := List.forall_mem_cons.mpr ⟨rfl, (show ∀ w ∈ wo_c_valueOf0, goodWord w = true by decide +kernel)⟩
set_option maxHeartbeats 4000000 in
set_option maxRecDepth 100000 in
theorem c_valueOf0 (l : Launch) (hst : l.stackTraces = false) (D : va_G) (e0 : kE)   : kM l yJ6_valueOf_2dffe wk_c_valueOf0 0 0 0 0 D kStr e0 [] [] [.int 0] (fun v w t => v = some (.ref e0.2.2) ∧ w = [] ∧ t = []) (fun _ => False) := by
  refine k_of (cc := cJ6_valueOf_2dffe) (maxL := 1) (ret := (some (.object "java/lang/Integer"))) (by decide) rfl (Nat.le_of_ble_eq_true rfl) ?_
  intro p e s m args below meth c A ls hx hb hr hts hown hlocks hml hex hh hl
  have hown : s.vm.findClass RJ6 = some m.cls := hown
  have hl : lv_has ls 1 [(0, .int 0)] := hl
  refine lv_iload_n hx hb dJ6_valueOf_2dffe_0 rfl (lv_at hl 0 rfl) ?_
  refine lv_bipush (v := (-128)) hx hb dJ6_valueOf_2dffe_1 (by decide) ?_
  refine lv_icmp_lt (tgt := 23) hx hb dJ6_valueOf_2dffe_3 (by decide) (fun c_3 => absurd c_3 (by decide)) (fun _ => ?_)
  refine lv_iload_n hx hb dJ6_valueOf_2dffe_6 rfl (lv_at hl 0 rfl) ?_
  refine va_gets (v := .int 127) hx hb hh.2.2.2.2.2.2.2.2.2.2.2.2.2.2.2.2.2.1 hh.2.2.2.1 hown (hts _ (wo_c_valueOf0_in _ (List.mem_of_getElem? (i := 0) rfl))) (fun _ h => h) dJ6_valueOf_2dffe_7 ?_
  refine lv_icmp_gt (tgt := 23) hx hb dJ6_valueOf_2dffe_10 (by decide) (fun c_10 => absurd c_10 (by decide)) (fun _ => ?_)
  refine va_gets (v := .ref e0.2.1) hx hb hh.2.2.2.2.2.2.2.2.2.2.2.2.2.2.2.2.2.2.1 hh.2.2.2.1 hown (hts _ (wo_c_valueOf0_in _ (List.mem_of_getElem? (i := 1) rfl))) (fun _ h => h) dJ6_valueOf_2dffe_13 ?_
  refine lv_iload_n hx hb dJ6_valueOf_2dffe_16 rfl (lv_at hl 0 rfl) ?_
  refine lv_sipush (v := 128) hx hb dJ6_valueOf_2dffe_17 (by decide) ?_
  refine lv_iadd hx hb dJ6_valueOf_2dffe_20 ?_
  refine W.eq (g2 := F0 m 21 ls [.int 128, .ref e0.2.1]) (by first | rfl | decide) ?_
  obtain ⟨f9, hf9, hT9⟩ := hh.2.2.2.2.2.2.2.2.2.2.2.2.2.2.2.2.2.2.2.1
  refine vb_tq (v := .ref e0.2.2) hx hb hT9 hh.2.2.2.1 (by unfold vp_in; decide) (by exact hf9) dJ6_valueOf_2dffe_21 ?_
  exact k_enda (by first | exact Or.inl ⟨_, rfl⟩ | exact Or.inr ⟨_, rfl⟩) (by first | exact Or.inr ⟨_, rfl⟩ | exact Or.inl rfl) hx hb hr hlocks hh ⟨rfl, rfl, rfl⟩ [] [] rfl rfl rfl (Nat.le_of_ble_eq_true rfl) (Nat.le_of_ble_eq_true rfl) dJ6_valueOf_2dffe_22
def wo_c_Jx35411_init_45d68 : List Cond := [Cond.fieldLink RJx35411 1 "java/util/ArrayList$Itr" "this$0" "Ljava/util/ArrayList;", Cond.methodLink RJx35411 7 objectInit, Cond.instanceMethod objectInit, Cond.code objectInit ⟨#[0xb1]⟩ 1 none, Cond.fieldLink RJx35411 13 "java/util/ArrayList$Itr" "lastRet" "I", Cond.sameField "java/util/ArrayList" "java/util/AbstractList" "modCount" "I", Cond.fieldLink RJx35411 17 "java/util/ArrayList" "modCount" "I", Cond.fieldLink RJx35411 22 "java/util/ArrayList$Itr" "expectedModCount" "I"]
def wk_c_Jx35411_init_45d68 : List Cond := Cond.code yJx35411_init_45d68 cJx35411_init_45d68 2 none :: (wo_c_Jx35411_init_45d68 ++ ((u_ws RJx35411 TJx35411 4) ++ (u_ws RJx4a65c TJx4a65c 3)))
theorem wo_c_Jx35411_init_45d68_in : ∀ w ∈ wo_c_Jx35411_init_45d68, w ∈ wk_c_Jx35411_init_45d68 := fun w h => List.mem_cons_of_mem _ (List.mem_append_left _ h)
theorem ws_c_Jx35411_init_45d68_0 : ∀ w ∈ u_ws RJx35411 TJx35411 4, w ∈ wk_c_Jx35411_init_45d68 := fun w h => List.mem_cons_of_mem _ (List.mem_append_right _ (List.mem_append_left _ h))
theorem ws_c_Jx35411_init_45d68_1 : ∀ w ∈ u_ws RJx4a65c TJx4a65c 3, w ∈ wk_c_Jx35411_init_45d68 := fun w h => List.mem_cons_of_mem _ (List.mem_append_right _ (List.mem_append_right _ h))
theorem gk_c_Jx35411_init_45d68 : ∀ w ∈ wk_c_Jx35411_init_45d68, goodWord w = true := List.forall_mem_cons.mpr ⟨rfl, (List.forall_mem_append.mpr ⟨(show ∀ w ∈ wo_c_Jx35411_init_45d68, goodWord w = true by decide +kernel), (List.forall_mem_append.mpr ⟨(show ∀ w ∈ u_ws RJx35411 TJx35411 4, goodWord w = true by decide +kernel), (show ∀ w ∈ u_ws RJx4a65c TJx4a65c 3, goodWord w = true by decide +kernel)⟩)⟩)⟩
set_option maxHeartbeats 4000000 in
set_option maxRecDepth 100000 in
theorem c_Jx35411_init_45d68 (l : Launch) (hst : l.stackTraces = false) (D : va_G) (e0 : kE) (pa : Nat) (pz : Nat) (pz1 : Int32) (pz2 : Value) (pz3 : Int32)  : kI l yJx35411_init_45d68 wk_c_Jx35411_init_45d68 1 20 0 0 D kStr e0 [] [(pa, .inr (3, [.int 0, .int 0, .int 0, .null])), (pz, .inr (4, [.int pz1, pz2, .int pz3]))] [.ref pa, .ref pz] (fun v w t => v = none ∧ w = [(pa, .inr (3, [.int 0, .int (-1), .int pz1, .ref pz])), (pz, .inr (4, [.int pz1, pz2, .int pz3]))] ∧ t = []) := by
  refine k_ofI (cc := cJx35411_init_45d68) (maxL := 2) (ret := none) (by decide) rfl (Nat.le_of_ble_eq_true rfl) ?_
  intro p e s m args below meth c A ls hx hb hr hts hown hlocks hml hin hh hl
  have hown : s.vm.findClass RJx35411 = some m.cls := hown
  have hl : lv_has ls 2 [(0, .ref pa), (1, .ref pz)] := hl
  have hin : meth.name = "<init>" := hin
  refine lv_aload_n hx hb dJx35411_init_45d68_0 rfl (lv_at hl 0 rfl) ?_
  refine lv_aload_n hx hb dJx35411_init_45d68_1 rfl (lv_at hl 1 rfl) ?_
  refine k_putF (C := RJx35411) (T := TJx35411) (N := 4) (ci := 3) (v := .ref pz) (ws' := [(pa, .inr (3, [.int 0, .int 0, .int 0, .ref pz])), (pz, .inr (4, [.int pz1, pz2, .int pz3]))]) hx hb hts ws_c_Jx35411_init_45d68_0 tyJx35411 tyJx35411_ok nmJx35411 hown hh 0 rfl rfl 3 (by decide) (hts _ (wo_c_Jx35411_init_45d68_in _ (List.mem_of_getElem? (i := 0) rfl))) rfl hin rfl rfl rfl (Nat.le_of_ble_eq_true rfl) dJx35411_init_45d68_2 rfl (fun H locs hh => ?_)
  refine lv_aload_n hx hb dJx35411_init_45d68_5 rfl (lv_at hl 0 rfl) ?_
  refine W.objInit hx hb hown (hts _ (wo_c_Jx35411_init_45d68_in _ (List.mem_of_getElem? (i := 1) rfl))) (hts _ (wo_c_Jx35411_init_45d68_in _ (List.mem_of_getElem? (i := 2) rfl))) (hts _ (wo_c_Jx35411_init_45d68_in _ (List.mem_of_getElem? (i := 3) rfl))) rfl (by rw [hml]; exact hl.1) rfl dJx35411_init_45d68_6 (Nat.le_of_ble_eq_true rfl) (Nat.le_of_ble_eq_true rfl) ?_
  refine W.eq (g2 := F0 m 9 ls []) rfl ?_
  refine lv_aload_n hx hb dJx35411_init_45d68_9 rfl (lv_at hl 0 rfl) ?_
  refine lv_iconst (v := (-1)) hx hb dJx35411_init_45d68_10 (by decide) ?_
  refine k_put (C := RJx35411) (T := TJx35411) (N := 4) (ci := 3) (v := .int (-1)) (ws' := [(pa, .inr (3, [.int 0, .int (-1), .int 0, .ref pz])), (pz, .inr (4, [.int pz1, pz2, .int pz3]))]) hx hb hts ws_c_Jx35411_init_45d68_0 tyJx35411 tyJx35411_ok nmJx35411 hown hh 0 rfl rfl 1 (by decide) (hts _ (wo_c_Jx35411_init_45d68_in _ (List.mem_of_getElem? (i := 4) rfl))) rfl rfl rfl (Nat.le_of_ble_eq_true rfl) dJx35411_init_45d68_11 rfl (fun H locs hh => ?_)
  refine lv_aload_n hx hb dJx35411_init_45d68_14 rfl (lv_at hl 0 rfl) ?_
  refine lv_aload_n hx hb dJx35411_init_45d68_15 rfl (lv_at hl 0 rfl) ?_
  refine k_get (C := RJx35411) (T := TJx35411) (N := 4) (ci := 3) (v := .ref pz) hx hb hts ws_c_Jx35411_init_45d68_0 hown hh 0 rfl rfl 3 (by decide) (hts _ (wo_c_Jx35411_init_45d68_in _ (List.mem_of_getElem? (i := 0) rfl))) rfl dJx35411_init_45d68_16 ?_
  refine k_getR (ref := "java/util/ArrayList") (C := RJx4a65c) (T := TJx4a65c) (N := 3) (ci := 4) (v := .int pz1) hx hb hts ws_c_Jx35411_init_45d68_1 hown hh 1 rfl rfl 0 (by decide) (hts _ (wo_c_Jx35411_init_45d68_in _ (List.mem_of_getElem? (i := 6) rfl))) (u_same (hts _ (wo_c_Jx35411_init_45d68_in _ (List.mem_of_getElem? (i := 5) rfl)))) rfl dJx35411_init_45d68_19 ?_
  refine k_put (C := RJx35411) (T := TJx35411) (N := 4) (ci := 3) (v := .int pz1) (ws' := [(pa, .inr (3, [.int 0, .int (-1), .int pz1, .ref pz])), (pz, .inr (4, [.int pz1, pz2, .int pz3]))]) hx hb hts ws_c_Jx35411_init_45d68_0 tyJx35411 tyJx35411_ok nmJx35411 hown hh 0 rfl rfl 2 (by decide) (hts _ (wo_c_Jx35411_init_45d68_in _ (List.mem_of_getElem? (i := 7) rfl))) rfl rfl rfl (Nat.le_of_ble_eq_true rfl) dJx35411_init_45d68_22 rfl (fun H locs hh => ?_)
  exact k_endV hx hb hr hlocks hh ⟨rfl, rfl, rfl⟩ [0, 1] [] rfl rfl rfl (Nat.le_of_ble_eq_true rfl) (Nat.le_of_ble_eq_true rfl) dJx35411_init_45d68_25
def wo_c_iterator : List Cond := [Cond.classLink RJx4a65c 267 RJx35411, Cond.instantiable RJx35411 4, Cond.initialized RJx35411, Cond.methodLink RJx4a65c 269 yJx35411_init_45d68, Cond.instanceMethod yJx35411_init_45d68]
def wk_c_iterator : List Cond := Cond.code yJx4a65c_iterator_32c93 cJx4a65c_iterator_32c93 1 (some (.object "java/util/Iterator")) :: (wo_c_iterator ++ ((u_ws RJx35411 TJx35411 4) ++ (wk_c_Jx35411_init_45d68)))
theorem wo_c_iterator_in : ∀ w ∈ wo_c_iterator, w ∈ wk_c_iterator := fun w h => List.mem_cons_of_mem _ (List.mem_append_left _ h)
theorem ws_c_iterator_0 : ∀ w ∈ u_ws RJx35411 TJx35411 4, w ∈ wk_c_iterator := fun w h => List.mem_cons_of_mem _ (List.mem_append_right _ (List.mem_append_left _ h))
theorem gi_c_iterator_1 : GoodIn wk_c_iterator (wk_c_Jx35411_init_45d68) := fun w h => ⟨List.mem_cons_of_mem _ (List.mem_append_right _ (List.mem_append_right _ h)), good_of_word (gk_c_Jx35411_init_45d68 w h)⟩
theorem gk_c_iterator : ∀ w ∈ wk_c_iterator, goodWord w = true := List.forall_mem_cons.mpr ⟨rfl, (List.forall_mem_append.mpr ⟨(show ∀ w ∈ wo_c_iterator, goodWord w = true by decide +kernel), (List.forall_mem_append.mpr ⟨(show ∀ w ∈ u_ws RJx35411 TJx35411 4, goodWord w = true by decide +kernel), gk_c_Jx35411_init_45d68⟩)⟩)⟩
set_option maxHeartbeats 4000000 in
set_option maxRecDepth 100000 in
theorem c_iterator (l : Launch) (hst : l.stackTraces = false) (D : va_G) (e0 : kE) (pz : Nat) (pz1 : Int32) (pz2 : Value) (pz3 : Int32)  : kM l yJx4a65c_iterator_32c93 wk_c_iterator 2 41 1 4 D kStr e0 [] [(pz, .inr (4, [.int pz1, pz2, .int pz3]))] [.ref pz] (fun v w t => ∃ (q1 : Nat), v = some (.ref q1) ∧ w = [(pz, .inr (4, [.int pz1, pz2, .int pz3])), (q1, .inr (3, [.int 0, .int (-1), .int pz1, .ref pz]))] ∧ t = []) (fun _ => False) := by
  refine k_of (cc := cJx4a65c_iterator_32c93) (maxL := 1) (ret := (some (.object "java/util/Iterator"))) (by decide) rfl (Nat.le_of_ble_eq_true rfl) ?_
  intro p e s m args below meth c A ls hx hb hr hts hown hlocks hml hex hh hl
  have hown : s.vm.findClass RJx4a65c = some m.cls := hown
  have hl : lv_has ls 1 [(0, .ref pz)] := hl
  refine k_new (C := RJx35411) (T := TJx35411) (N := 4) (ci := 3) (fs := [.int 0, .int 0, .int 0, .null]) hx hb hts ws_c_iterator_0 tyJx35411 tyJx35411_ok hown (hts _ (wo_c_iterator_in _ (List.mem_of_getElem? (i := 0) rfl))) (hts _ (wo_c_iterator_in _ (List.mem_of_getElem? (i := 1) rfl))) (hts _ (wo_c_iterator_in _ (List.mem_of_getElem? (i := 2) rfl))) hh rfl (fun j hj => by rcases (show j = 0 ∨ j = 1 ∨ j = 2 ∨ j = 3 by omega) with rfl | rfl | rfl | rfl <;> rfl) (Nat.le_of_ble_eq_true rfl) (Nat.le_of_ble_eq_true rfl) dJx4a65c_iterator_32c93_0 (fun q1 H hh => ?_)
  have hh : kH D kStr e0 A s H [(pz, .inr (4, [.int pz1, pz2, .int pz3])), (q1, .inr (3, [.int 0, .int 0, .int 0, .null]))] [] _ := hh
  refine lv_dup hx hb dJx4a65c_iterator_32c93_3 rfl ?_
  refine lv_aload_n hx hb dJx4a65c_iterator_32c93_4 rfl (lv_at hl 0 rfl) ?_
  refine k_callI (wr := []) (rest := [.ref q1]) (own := RJx4a65c) ⟨hx, hb, hml, hown, hts⟩ (c_Jx35411_init_45d68 l hst D e0 q1 pz pz1 pz2 pz3 ) (cwI 1 hts gi_c_iterator_1 rfl rfl rfl (hts _ (wo_c_iterator_in _ (List.mem_of_getElem? (i := 2) rfl))) (hts _ (wo_c_iterator_in _ (List.mem_of_getElem? (i := 3) rfl))) (hts _ (wo_c_iterator_in _ (List.mem_of_getElem? (i := 4) rfl))) rfl (by decide +kernel) ⟨Nat.le_of_ble_eq_true rfl, Nat.le_of_ble_eq_true rfl⟩) hh [1, 0] [] [] rfl rfl rfl rfl (by decide) rfl rfl hl rfl (Nat.le_of_ble_eq_true rfl) dJx4a65c_iterator_32c93_5 ⟨Nat.le_of_ble_eq_true rfl, (Nat.le_of_ble_eq_true rfl)⟩ (fun v w ty1 H locs hp hh => ?_)
  obtain ⟨rfl, rfl, rfl⟩ := hp
  have hh : kH D kStr e0 A s H [(q1, .inr (3, [.int 0, .int (-1), .int pz1, .ref pz])), (pz, .inr (4, [.int pz1, pz2, .int pz3]))] [] _ := hh
  refine W.eq (g2 := F0 m 8 ls [.ref q1]) (by first | rfl | decide) ?_
  exact k_enda (by first | exact Or.inl ⟨_, rfl⟩ | exact Or.inr ⟨_, rfl⟩) (by first | exact Or.inr ⟨_, rfl⟩ | exact Or.inl rfl) hx hb hr hlocks hh ⟨q1, rfl, rfl, rfl⟩ [1, 0] [] rfl rfl rfl (Nat.le_of_ble_eq_true rfl) (Nat.le_of_ble_eq_true rfl) dJx4a65c_iterator_32c93_8
def wo_c_hasNext : List Cond := [Cond.fieldLink RJx35411 25 "java/util/ArrayList$Itr" "cursor" "I", Cond.fieldLink RJx35411 1 "java/util/ArrayList$Itr" "this$0" "Ljava/util/ArrayList;"]
def wk_c_hasNext : List Cond := Cond.code yJx35411_hasNext_aae02 cJx35411_hasNext_aae02 1 (some .boolean) :: (wo_c_hasNext ++ ((u_ws RJx35411 TJx35411 4) ++ (u_ws RJx4a65c TJx4a65c 3)))
theorem wo_c_hasNext_in : ∀ w ∈ wo_c_hasNext, w ∈ wk_c_hasNext := fun w h => List.mem_cons_of_mem _ (List.mem_append_left _ h)
theorem ws_c_hasNext_0 : ∀ w ∈ u_ws RJx35411 TJx35411 4, w ∈ wk_c_hasNext := fun w h => List.mem_cons_of_mem _ (List.mem_append_right _ (List.mem_append_left _ h))
theorem ws_c_hasNext_1 : ∀ w ∈ u_ws RJx4a65c TJx4a65c 3, w ∈ wk_c_hasNext := fun w h => List.mem_cons_of_mem _ (List.mem_append_right _ (List.mem_append_right _ h))
theorem gk_c_hasNext : ∀ w ∈ wk_c_hasNext, goodWord w = true := List.forall_mem_cons.mpr ⟨rfl, (List.forall_mem_append.mpr ⟨(show ∀ w ∈ wo_c_hasNext, goodWord w = true by decide +kernel), (List.forall_mem_append.mpr ⟨(show ∀ w ∈ u_ws RJx35411 TJx35411 4, goodWord w = true by decide +kernel), (show ∀ w ∈ u_ws RJx4a65c TJx4a65c 3, goodWord w = true by decide +kernel)⟩)⟩)⟩
set_option maxHeartbeats 4000000 in
set_option maxRecDepth 100000 in
theorem c_hasNext (l : Launch) (hst : l.stackTraces = false) (D : va_G) (e0 : kE) (pa : Nat) (pi1 : Int32) (pi2 : Int32) (pz : Nat) (pz1 : Int32) (pz2 : Value)  : kI l yJx35411_hasNext_aae02 wk_c_hasNext 0 0 0 0 D kStr e0 [] [(pa, .inr (3, [.int 0, .int pi1, .int pi2, .ref pz])), (pz, .inr (4, [.int pz1, pz2, .int 0]))] [.ref pa] (fun v w t => v = some (.int 0) ∧ w = [(pa, .inr (3, [.int 0, .int pi1, .int pi2, .ref pz])), (pz, .inr (4, [.int pz1, pz2, .int 0]))] ∧ t = []) := by
  refine k_ofI (cc := cJx35411_hasNext_aae02) (maxL := 1) (ret := (some .boolean)) (by decide) rfl (Nat.le_of_ble_eq_true rfl) ?_
  intro p e s m args below meth c A ls hx hb hr hts hown hlocks hml hex hh hl
  have hown : s.vm.findClass RJx35411 = some m.cls := hown
  have hl : lv_has ls 1 [(0, .ref pa)] := hl
  refine lv_aload_n hx hb dJx35411_hasNext_aae02_0 rfl (lv_at hl 0 rfl) ?_
  refine k_get (C := RJx35411) (T := TJx35411) (N := 4) (ci := 3) (v := .int 0) hx hb hts ws_c_hasNext_0 hown hh 0 rfl rfl 0 (by decide) (hts _ (wo_c_hasNext_in _ (List.mem_of_getElem? (i := 0) rfl))) rfl dJx35411_hasNext_aae02_1 ?_
  refine lv_aload_n hx hb dJx35411_hasNext_aae02_4 rfl (lv_at hl 0 rfl) ?_
  refine k_get (C := RJx35411) (T := TJx35411) (N := 4) (ci := 3) (v := .ref pz) hx hb hts ws_c_hasNext_0 hown hh 0 rfl rfl 3 (by decide) (hts _ (wo_c_hasNext_in _ (List.mem_of_getElem? (i := 1) rfl))) rfl dJx35411_hasNext_aae02_5 ?_
  refine k_getN (host := "java/util/ArrayList") (C := RJx4a65c) (T := TJx4a65c) (N := 3) (ci := 4) (v := .int 0) hx hb hts ws_c_hasNext_1 hown hh 1 rfl rfl 2 (by decide) (kNest_word hh) rfl dJx35411_hasNext_aae02_8 ?_
  refine lv_icmp_eq (tgt := 18) hx hb dJx35411_hasNext_aae02_11 (by decide) (fun _ => ?_) (fun c_11 => absurd (by decide) c_11)
  refine lv_iconst (v := 0) hx hb dJx35411_hasNext_aae02_18 (by decide) ?_
  exact k_endZ hx hb hr hlocks (by decide) hh ⟨rfl, rfl, rfl⟩ [0, 1] [] rfl rfl rfl (Nat.le_of_ble_eq_true rfl) (Nat.le_of_ble_eq_true rfl) dJx35411_hasNext_aae02_19
def wo_c_grow1 : List Cond := [Cond.fieldLink RJx4a65c 9 "java/util/ArrayList" "elementData" "[Ljava/lang/Object;", Cond.fieldLink RJx4a65c 39 "java/util/ArrayList" "DEFAULTCAPACITY_EMPTY_ELEMENTDATA" "[Ljava/lang/Object;", Cond.methodLink RJx4a65c 79 Lib.Math.max.name, Cond.static Lib.Math.max.name, Cond.initialized "java/lang/Math", Cond.code Lib.Math.max.name Lib.Math.max.code 2 (some .int), Cond.classLink RJx4a65c 7 "java/lang/Object"]
def wk_c_grow1 : List Cond := Cond.code yJx4a65c_grow_92f84 cJx4a65c_grow_92f84 4 (some (.array (.object "java/lang/Object"))) :: (wo_c_grow1 ++ (u_ws RJx4a65c TJx4a65c 3))
theorem wo_c_grow1_in : ∀ w ∈ wo_c_grow1, w ∈ wk_c_grow1 := fun w h => List.mem_cons_of_mem _ (List.mem_append_left _ h)
theorem ws_c_grow1_0 : ∀ w ∈ u_ws RJx4a65c TJx4a65c 3, w ∈ wk_c_grow1 := fun w h => List.mem_cons_of_mem _ (List.mem_append_right _ h)
theorem gk_c_grow1 : ∀ w ∈ wk_c_grow1, goodWord w = true := List.forall_mem_cons.mpr ⟨rfl, (List.forall_mem_append.mpr ⟨(show ∀ w ∈ wo_c_grow1, goodWord w = true by decide +kernel), (show ∀ w ∈ u_ws RJx4a65c TJx4a65c 3, goodWord w = true by decide +kernel)⟩)⟩
set_option maxHeartbeats 4000000 in
set_option maxRecDepth 100000 in
theorem c_grow1 (l : Launch) (hst : l.stackTraces = false) (D : va_G) (e0 : kE) (pz : Nat) (pz1 : Int32)  : kM l yJx4a65c_grow_92f84 wk_c_grow1 1 29 1 10 D kStr e0 [] [(pz, .inr (4, [.int pz1, .ref e0.1, .int 0]))] [.ref pz, .int 1] (fun v w t => ∃ (q1 : Nat), ∃ (y2 : ClassId), v = some (.ref q1) ∧ w = [(pz, .inr (4, [.int pz1, .ref q1, .int 0])), (q1, .inl (y2, 10, .inr (.inr (.inr (.inr (fun _ => none))))))] ∧ t = [(y2, .object "java/lang/Object")]) (fun _ => False) := by
  refine k_of (cc := cJx4a65c_grow_92f84) (maxL := 4) (ret := (some (.array (.object "java/lang/Object")))) (by decide) rfl (Nat.le_of_ble_eq_true rfl) ?_
  intro p e s m args below meth c A ls hx hb hr hts hown hlocks hml hex hh hl
  have hown : s.vm.findClass RJx4a65c = some m.cls := hown
  have hl : lv_has ls 4 [(0, .ref pz), (1, .int 1)] := hl
  refine lv_aload_n hx hb dJx4a65c_grow_92f84_0 rfl (lv_at hl 0 rfl) ?_
  refine k_get (C := RJx4a65c) (T := TJx4a65c) (N := 3) (ci := 4) (v := .ref e0.1) hx hb hts ws_c_grow1_0 hown hh 0 rfl rfl 1 (by decide) (hts _ (wo_c_grow1_in _ (List.mem_of_getElem? (i := 0) rfl))) rfl dJx4a65c_grow_92f84_1 ?_
  refine va_tlen (v := 0) hx hb hh.2.2.2.2.2.2.2.2.1 hh.2.2.2.1 (by decide) dJx4a65c_grow_92f84_4 ?_
  refine lv_istore_n (lv' := [(2, .int 0), (0, .ref pz), (1, .int 1)]) hx hb dJx4a65c_grow_92f84_5 rfl hl (by decide) rfl (fun ls hl => ?_)
  refine lv_iload_n hx hb dJx4a65c_grow_92f84_6 rfl (lv_at hl 0 rfl) ?_
  refine lv_if_gt (tgt := 20) hx hb dJx4a65c_grow_92f84_7 (by decide) (fun c_7 => absurd c_7 (by decide)) (fun _ => ?_)
  refine lv_aload_n hx hb dJx4a65c_grow_92f84_10 rfl (lv_at hl 1 rfl) ?_
  refine k_get (C := RJx4a65c) (T := TJx4a65c) (N := 3) (ci := 4) (v := .ref e0.1) hx hb hts ws_c_grow1_0 hown hh 0 rfl rfl 1 (by decide) (hts _ (wo_c_grow1_in _ (List.mem_of_getElem? (i := 0) rfl))) rfl dJx4a65c_grow_92f84_11 ?_
  refine va_gets hx hb hh.2.2.2.2.2.2.2.1 hh.2.2.2.1 hown (hts _ (wo_c_grow1_in _ (List.mem_of_getElem? (i := 1) rfl))) (fun _ h => h) dJx4a65c_grow_92f84_14 ?_
  refine lv_acmp_eq (rx := some e0.1) (ry := some e0.1) (tgt := 45) hx hb dJx4a65c_grow_92f84_17 (by decide) (fun _ => ?_) (fun c => absurd rfl c)
  refine lv_aload_n hx hb dJx4a65c_grow_92f84_45 rfl (lv_at hl 1 rfl) ?_
  refine lv_bipush (v := 10) hx hb dJx4a65c_grow_92f84_46 (by decide) ?_
  refine lv_iload_n hx hb dJx4a65c_grow_92f84_48 rfl (lv_at hl 2 rfl) ?_
  refine va_mmax hx hb (by rw [hml]; exact hl.1.symm) hown (hts _ (wo_c_grow1_in _ (List.mem_of_getElem? (i := 2) rfl))) (hts _ (wo_c_grow1_in _ (List.mem_of_getElem? (i := 3) rfl))) (hts _ (wo_c_grow1_in _ (List.mem_of_getElem? (i := 4) rfl))) (hts _ (wo_c_grow1_in _ (List.mem_of_getElem? (i := 5) rfl))) (Nat.le_of_ble_eq_true rfl) (Nat.le_of_ble_eq_true rfl) (Nat.le_of_ble_eq_true rfl) (Nat.le_of_ble_eq_true rfl) dJx4a65c_grow_92f84_49 ?_
  refine W.eq (g2 := F0 m 52 ls [.int 10, .ref pz]) (by first | rfl | decide) ?_
  refine k_newq (C := "java/lang/Object") (N' := 10) hx hb hown (hts _ (wo_c_grow1_in _ (List.mem_of_getElem? (i := 6) rfl))) (by decide) hh (by decide) (by decide) (Nat.le_of_ble_eq_true rfl) (Nat.le_of_ble_eq_true rfl) (Nat.le_of_ble_eq_true rfl) dJx4a65c_grow_92f84_52 (fun q1 y2 H hh => ?_)
  have hh : kH D kStr e0 A s H [(pz, .inr (4, [.int pz1, .ref e0.1, .int 0])), (q1, .inl (y2, 10, .inr (.inr (.inr (.inr (fun _ => none))))))] [(y2, .object "java/lang/Object")] _ := hh
  refine lv_dup_x1 hx hb dJx4a65c_grow_92f84_55 rfl rfl ?_
  refine k_put (C := RJx4a65c) (T := TJx4a65c) (N := 3) (ci := 4) (v := .ref q1) (ws' := [(pz, .inr (4, [.int pz1, .ref q1, .int 0])), (q1, .inl (y2, 10, .inr (.inr (.inr (.inr (fun _ => none))))))]) hx hb hts ws_c_grow1_0 tyJx4a65c tyJx4a65c_ok nmJx4a65c hown hh 0 rfl rfl 1 (by decide) (hts _ (wo_c_grow1_in _ (List.mem_of_getElem? (i := 0) rfl))) rfl rfl rfl (Nat.le_of_ble_eq_true rfl) dJx4a65c_grow_92f84_56 rfl (fun H locs hh => ?_)
  exact k_enda (by first | exact Or.inl ⟨_, rfl⟩ | exact Or.inr ⟨_, rfl⟩) (by first | exact Or.inr ⟨_, rfl⟩ | exact Or.inl rfl) hx hb hr hlocks hh ⟨q1, y2, rfl, rfl, rfl⟩ [0, 1] [0] rfl rfl rfl (Nat.le_of_ble_eq_true rfl) (Nat.le_of_ble_eq_true rfl) dJx4a65c_grow_92f84_59
def wo_c_grow0 : List Cond := [Cond.fieldLink RJx4a65c 48 "java/util/ArrayList" "size" "I"]
def wk_c_grow0 : List Cond := Cond.code yJx4a65c_grow_d5877 cJx4a65c_grow_d5877 1 (some (.array (.object "java/lang/Object"))) :: (wo_c_grow0 ++ ((u_ws RJx4a65c TJx4a65c 3) ++ (wsV RJx4a65c 69 RJx4a65c yJx4a65c_grow_92f84 wk_c_grow1)))
theorem wo_c_grow0_in : ∀ w ∈ wo_c_grow0, w ∈ wk_c_grow0 := fun w h => List.mem_cons_of_mem _ (List.mem_append_left _ h)
theorem ws_c_grow0_0 : ∀ w ∈ u_ws RJx4a65c TJx4a65c 3, w ∈ wk_c_grow0 := fun w h => List.mem_cons_of_mem _ (List.mem_append_right _ (List.mem_append_left _ h))
theorem gi_c_grow0_1 : GoodIn wk_c_grow0 (wsV RJx4a65c 69 RJx4a65c yJx4a65c_grow_92f84 wk_c_grow1) := fun w h => ⟨List.mem_cons_of_mem _ (List.mem_append_right _ (List.mem_append_right _ h)), good_of_word (kg_V gk_c_grow1 w h)⟩
theorem gk_c_grow0 : ∀ w ∈ wk_c_grow0, goodWord w = true := List.forall_mem_cons.mpr ⟨rfl, (List.forall_mem_append.mpr ⟨(show ∀ w ∈ wo_c_grow0, goodWord w = true by decide +kernel), (List.forall_mem_append.mpr ⟨(show ∀ w ∈ u_ws RJx4a65c TJx4a65c 3, goodWord w = true by decide +kernel), (kg_V gk_c_grow1)⟩)⟩)⟩
set_option maxHeartbeats 4000000 in
set_option maxRecDepth 100000 in
theorem c_grow0 (l : Launch) (hst : l.stackTraces = false) (D : va_G) (e0 : kE) (pz : Nat) (pz1 : Int32)  : kM l yJx4a65c_grow_d5877 wk_c_grow0 2 52 1 10 D kStr e0 [] [(pz, .inr (4, [.int pz1, .ref e0.1, .int 0]))] [.ref pz] (fun v w t => ∃ (q1 : Nat), ∃ (y2 : ClassId), v = some (.ref q1) ∧ w = [(pz, .inr (4, [.int pz1, .ref q1, .int 0])), (q1, .inl (y2, 10, .inr (.inr (.inr (.inr (fun _ => none))))))] ∧ t = [(y2, .object "java/lang/Object")]) (fun _ => False) := by
  refine k_of (cc := cJx4a65c_grow_d5877) (maxL := 1) (ret := (some (.array (.object "java/lang/Object")))) (by decide) rfl (Nat.le_of_ble_eq_true rfl) ?_
  intro p e s m args below meth c A ls hx hb hr hts hown hlocks hml hex hh hl
  have hown : s.vm.findClass RJx4a65c = some m.cls := hown
  have hl : lv_has ls 1 [(0, .ref pz)] := hl
  refine lv_aload_n hx hb dJx4a65c_grow_d5877_0 rfl (lv_at hl 0 rfl) ?_
  refine lv_aload_n hx hb dJx4a65c_grow_d5877_1 rfl (lv_at hl 0 rfl) ?_
  refine k_get (C := RJx4a65c) (T := TJx4a65c) (N := 3) (ci := 4) (v := .int 0) hx hb hts ws_c_grow0_0 hown hh 0 rfl rfl 2 (by decide) (hts _ (wo_c_grow0_in _ (List.mem_of_getElem? (i := 0) rfl))) rfl dJx4a65c_grow_d5877_2 ?_
  refine lv_iconst (v := 1) hx hb dJx4a65c_grow_d5877_5 (by decide) ?_
  refine lv_iadd hx hb dJx4a65c_grow_d5877_6 ?_
  refine W.eq (g2 := F0 m 7 ls [.int 1, .ref pz]) (by first | rfl | decide) ?_
  refine k_callV (C := RJx4a65c) (T := TJx4a65c) (N := 3) (ci := 4) (q0 := 0) (wr := []) (rest := []) (own := RJx4a65c) ⟨hx, hb, hml, hown, hts⟩ (c_grow1 l hst D e0 pz pz1 ) (cwV 1 hts gi_c_grow0_1 rfl rfl rfl (by decide +kernel) ⟨Nat.le_of_ble_eq_true rfl, Nat.le_of_ble_eq_true rfl⟩) hh rfl rfl [0] [] [] rfl rfl rfl rfl (by decide) rfl rfl hl rfl (Nat.le_of_ble_eq_true rfl) dJx4a65c_grow_d5877_7 ⟨Nat.le_of_ble_eq_true rfl, (Nat.le_of_ble_eq_true rfl)⟩ (fun _ _ _ _ _ h => h.elim) (fun v w ty1 H locs hp hh => ?_)
  obtain ⟨q1, y2, rfl, rfl, rfl⟩ := hp
  have hh : kH D kStr e0 A s H [(pz, .inr (4, [.int pz1, .ref q1, .int 0])), (q1, .inl (y2, 10, .inr (.inr (.inr (.inr (fun _ => none))))))] [(y2, .object "java/lang/Object")] _ := hh
  refine W.eq (g2 := F0 m 10 ls [.ref q1]) (by first | rfl | decide) ?_
  exact k_enda (by first | exact Or.inl ⟨_, rfl⟩ | exact Or.inr ⟨_, rfl⟩) (by first | exact Or.inr ⟨_, rfl⟩ | exact Or.inl rfl) hx hb hr hlocks hh ⟨q1, y2, rfl, rfl, rfl⟩ [0, 1] [0] rfl rfl rfl (Nat.le_of_ble_eq_true rfl) (Nat.le_of_ble_eq_true rfl) dJx4a65c_grow_d5877_10
def wo_c_add3_I : List Cond := [Cond.fieldLink RJx4a65c 48 "java/util/ArrayList" "size" "I"]
def wk_c_add3_I : List Cond := Cond.code yJx4a65c_add_72be8 cJx4a65c_add_72be8 4 none :: (wo_c_add3_I ++ ((wsV RJx4a65c 129 RJx4a65c yJx4a65c_grow_d5877 wk_c_grow0) ++ (u_ws RJx4a65c TJx4a65c 3)))
theorem wo_c_add3_I_in : ∀ w ∈ wo_c_add3_I, w ∈ wk_c_add3_I := fun w h => List.mem_cons_of_mem _ (List.mem_append_left _ h)
theorem gi_c_add3_I_0 : GoodIn wk_c_add3_I (wsV RJx4a65c 129 RJx4a65c yJx4a65c_grow_d5877 wk_c_grow0) := fun w h => ⟨List.mem_cons_of_mem _ (List.mem_append_right _ (List.mem_append_left _ h)), good_of_word (kg_V gk_c_grow0 w h)⟩
theorem ws_c_add3_I_1 : ∀ w ∈ u_ws RJx4a65c TJx4a65c 3, w ∈ wk_c_add3_I := fun w h => List.mem_cons_of_mem _ (List.mem_append_right _ (List.mem_append_right _ h))
theorem gk_c_add3_I : ∀ w ∈ wk_c_add3_I, goodWord w = true := List.forall_mem_cons.mpr ⟨rfl, (List.forall_mem_append.mpr ⟨(show ∀ w ∈ wo_c_add3_I, goodWord w = true by decide +kernel), (List.forall_mem_append.mpr ⟨(kg_V gk_c_grow0), (show ∀ w ∈ u_ws RJx4a65c TJx4a65c 3, goodWord w = true by decide +kernel)⟩)⟩)⟩
set_option maxHeartbeats 4000000 in
set_option maxRecDepth 100000 in
theorem c_add3_I (l : Launch) (hst : l.stackTraces = false) (D : va_G) (e0 : kE) (pz : Nat) (pz1 : Int32)  : kM l yJx4a65c_add_72be8 wk_c_add3_I 3 72 1 10 D kStr e0 [] [(pz, .inr (4, [.int pz1, .ref e0.1, .int 0]))] [.ref pz, .ref e0.2.2, .ref e0.1, .int 0] (fun v w t => ∃ (q1 : Nat), ∃ (y2 : ClassId), v = none ∧ w = [(pz, .inr (4, [.int pz1, .ref q1, .int 1])), (q1, .inl (y2, 10, .inr (.inr (.inr (.inr (va_up ((fun _ => none)) (0 : Int32).toNatClampNeg (some e0.2.2)))))))] ∧ t = [(y2, .object "java/lang/Object")]) (fun _ => False) := by
  refine k_of (cc := cJx4a65c_add_72be8) (maxL := 4) (ret := none) (by decide) rfl (Nat.le_of_ble_eq_true rfl) ?_
  intro p e s m args below meth c A ls hx hb hr hts hown hlocks hml hex hh hl
  have hown : s.vm.findClass RJx4a65c = some m.cls := hown
  have hl : lv_has ls 4 [(0, .ref pz), (1, .ref e0.2.2), (2, .ref e0.1), (3, .int 0)] := hl
  refine lv_iload_n hx hb dJx4a65c_add_72be8_0 rfl (lv_at hl 3 rfl) ?_
  refine lv_aload_n hx hb dJx4a65c_add_72be8_1 rfl (lv_at hl 2 rfl) ?_
  refine va_tlen (v := 0) hx hb hh.2.2.2.2.2.2.2.2.1 hh.2.2.2.1 (by decide) dJx4a65c_add_72be8_2 ?_
  refine lv_icmp_ne (tgt := 11) hx hb dJx4a65c_add_72be8_3 (by decide) (fun c_3 => absurd (by decide) c_3) (fun _ => ?_)
  refine lv_aload_n hx hb dJx4a65c_add_72be8_6 rfl (lv_at hl 0 rfl) ?_
  refine k_callV (C := RJx4a65c) (T := TJx4a65c) (N := 3) (ci := 4) (q0 := 0) (wr := []) (rest := []) (own := RJx4a65c) ⟨hx, hb, hml, hown, hts⟩ (c_grow0 l hst D e0 pz pz1 ) (cwV 0 hts gi_c_add3_I_0 rfl rfl rfl (by decide +kernel) ⟨Nat.le_of_ble_eq_true rfl, Nat.le_of_ble_eq_true rfl⟩) hh rfl rfl [0] [] [] rfl rfl rfl rfl (by decide) rfl rfl hl rfl (Nat.le_of_ble_eq_true rfl) dJx4a65c_add_72be8_7 ⟨Nat.le_of_ble_eq_true rfl, (Nat.le_of_ble_eq_true rfl)⟩ (fun _ _ _ _ _ h => h.elim) (fun v w ty1 H locs hp hh => ?_)
  obtain ⟨q1, y2, rfl, rfl, rfl⟩ := hp
  have hh : kH D kStr e0 A s H [(pz, .inr (4, [.int pz1, .ref q1, .int 0])), (q1, .inl (y2, 10, .inr (.inr (.inr (.inr (fun _ => none))))))] [(y2, .object "java/lang/Object")] _ := hh
  refine W.eq (g2 := F0 m 10 ls [.ref q1]) (by first | rfl | decide) ?_
  refine lv_astore_n (lv' := [(2, .ref q1), (0, .ref pz), (1, .ref e0.2.2), (3, .int 0)]) hx hb dJx4a65c_add_72be8_10 rfl hl (by decide) rfl (fun ls hl => ?_)
  refine lv_aload_n hx hb dJx4a65c_add_72be8_11 rfl (lv_at hl 0 rfl) ?_
  refine lv_iload_n hx hb dJx4a65c_add_72be8_12 rfl (lv_at hl 3 rfl) ?_
  refine lv_aload_n hx hb dJx4a65c_add_72be8_13 rfl (lv_at hl 2 rfl) ?_
  refine k_astI (ws' := [(pz, .inr (4, [.int pz1, .ref q1, .int 0])), (q1, .inl (y2, 10, .inr (.inr (.inr (.inr (va_up ((fun _ => none)) (0 : Int32).toNatClampNeg (some e0.2.2)))))))]) hx hb hh 1 0 rfl rfl (by unfold vp_in; decide) dJx4a65c_add_72be8_14 rfl (fun H locs hh => ?_)
  refine lv_aload_n hx hb dJx4a65c_add_72be8_15 rfl (lv_at hl 1 rfl) ?_
  refine lv_iload_n hx hb dJx4a65c_add_72be8_16 rfl (lv_at hl 3 rfl) ?_
  refine lv_iconst (v := 1) hx hb dJx4a65c_add_72be8_17 (by decide) ?_
  refine lv_iadd hx hb dJx4a65c_add_72be8_18 ?_
  refine W.eq (g2 := F0 m 19 ls [.int 1, .ref pz]) (by first | rfl | decide) ?_
  refine k_put (C := RJx4a65c) (T := TJx4a65c) (N := 3) (ci := 4) (v := .int 1) (ws' := [(pz, .inr (4, [.int pz1, .ref q1, .int 1])), (q1, .inl (y2, 10, .inr (.inr (.inr (.inr (va_up ((fun _ => none)) (0 : Int32).toNatClampNeg (some e0.2.2)))))))]) hx hb hts ws_c_add3_I_1 tyJx4a65c tyJx4a65c_ok nmJx4a65c hown hh 0 rfl rfl 2 (by decide) (hts _ (wo_c_add3_I_in _ (List.mem_of_getElem? (i := 0) rfl))) rfl rfl rfl (Nat.le_of_ble_eq_true rfl) dJx4a65c_add_72be8_19 rfl (fun H locs hh => ?_)
  exact k_endv hx hb hr hlocks hh ⟨q1, y2, rfl, rfl, rfl⟩ [0, 1] [0] rfl rfl rfl (Nat.le_of_ble_eq_true rfl) (Nat.le_of_ble_eq_true rfl) dJx4a65c_add_72be8_22
def wo_c_add_I : List Cond := [Cond.sameField "java/util/ArrayList" "java/util/AbstractList" "modCount" "I", Cond.fieldLink RJx4a65c 63 "java/util/ArrayList" "modCount" "I", Cond.fieldLink RJx4a65c 9 "java/util/ArrayList" "elementData" "[Ljava/lang/Object;", Cond.fieldLink RJx4a65c 48 "java/util/ArrayList" "size" "I"]
def wk_c_add_I : List Cond := Cond.code yJx4a65c_add_9ea2d cJx4a65c_add_9ea2d 2 (some .boolean) :: (wo_c_add_I ++ ((u_ws RJx4a65c TJx4a65c 3) ++ (wsV RJx4a65c 131 RJx4a65c yJx4a65c_add_72be8 wk_c_add3_I)))
theorem wo_c_add_I_in : ∀ w ∈ wo_c_add_I, w ∈ wk_c_add_I := fun w h => List.mem_cons_of_mem _ (List.mem_append_left _ h)
theorem ws_c_add_I_0 : ∀ w ∈ u_ws RJx4a65c TJx4a65c 3, w ∈ wk_c_add_I := fun w h => List.mem_cons_of_mem _ (List.mem_append_right _ (List.mem_append_left _ h))
theorem gi_c_add_I_1 : GoodIn wk_c_add_I (wsV RJx4a65c 131 RJx4a65c yJx4a65c_add_72be8 wk_c_add3_I) := fun w h => ⟨List.mem_cons_of_mem _ (List.mem_append_right _ (List.mem_append_right _ h)), good_of_word (kg_V gk_c_add3_I w h)⟩
theorem gk_c_add_I : ∀ w ∈ wk_c_add_I, goodWord w = true := List.forall_mem_cons.mpr ⟨rfl, (List.forall_mem_append.mpr ⟨(show ∀ w ∈ wo_c_add_I, goodWord w = true by decide +kernel), (List.forall_mem_append.mpr ⟨(show ∀ w ∈ u_ws RJx4a65c TJx4a65c 3, goodWord w = true by decide +kernel), (kg_V gk_c_add3_I)⟩)⟩)⟩
set_option maxHeartbeats 4000000 in
set_option maxRecDepth 100000 in
theorem c_add_I (l : Launch) (hst : l.stackTraces = false) (D : va_G) (e0 : kE) (pz : Nat)  : kM l yJx4a65c_add_9ea2d wk_c_add_I 4 95 1 10 D kStr e0 [] [(pz, .inr (4, [.int 0, .ref e0.1, .int 0]))] [.ref pz, .ref e0.2.2] (fun v w t => ∃ (q1 : Nat), ∃ (y2 : ClassId), v = some (.int 1) ∧ w = [(pz, .inr (4, [.int 1, .ref q1, .int 1])), (q1, .inl (y2, 10, .inr (.inr (.inr (.inr (va_up ((fun _ => none)) (0 : Int32).toNatClampNeg (some e0.2.2)))))))] ∧ t = [(y2, .object "java/lang/Object")]) (fun _ => False) := by
  refine k_of (cc := cJx4a65c_add_9ea2d) (maxL := 2) (ret := (some .boolean)) (by decide) rfl (Nat.le_of_ble_eq_true rfl) ?_
  intro p e s m args below meth c A ls hx hb hr hts hown hlocks hml hex hh hl
  have hown : s.vm.findClass RJx4a65c = some m.cls := hown
  have hl : lv_has ls 2 [(0, .ref pz), (1, .ref e0.2.2)] := hl
  refine lv_aload_n hx hb dJx4a65c_add_9ea2d_0 rfl (lv_at hl 0 rfl) ?_
  refine lv_dup hx hb dJx4a65c_add_9ea2d_1 rfl ?_
  refine k_getR (ref := "java/util/ArrayList") (C := RJx4a65c) (T := TJx4a65c) (N := 3) (ci := 4) (v := .int 0) hx hb hts ws_c_add_I_0 hown hh 0 rfl rfl 0 (by decide) (hts _ (wo_c_add_I_in _ (List.mem_of_getElem? (i := 1) rfl))) (u_same (hts _ (wo_c_add_I_in _ (List.mem_of_getElem? (i := 0) rfl)))) rfl dJx4a65c_add_9ea2d_2 ?_
  refine lv_iconst (v := 1) hx hb dJx4a65c_add_9ea2d_5 (by decide) ?_
  refine lv_iadd hx hb dJx4a65c_add_9ea2d_6 ?_
  refine W.eq (g2 := F0 m 7 ls [.int 1, .ref pz]) (by first | rfl | decide) ?_
  refine k_putR (ref := "java/util/ArrayList") (C := RJx4a65c) (T := TJx4a65c) (N := 3) (ci := 4) (v := .int 1) (ws' := [(pz, .inr (4, [.int 1, .ref e0.1, .int 0]))]) hx hb hts ws_c_add_I_0 tyJx4a65c tyJx4a65c_ok nmJx4a65c hown hh 0 rfl rfl 0 (by decide) (hts _ (wo_c_add_I_in _ (List.mem_of_getElem? (i := 1) rfl))) (u_same (hts _ (wo_c_add_I_in _ (List.mem_of_getElem? (i := 0) rfl)))) rfl rfl rfl (Nat.le_of_ble_eq_true rfl) dJx4a65c_add_9ea2d_7 rfl (fun H locs hh => ?_)
  refine lv_aload_n hx hb dJx4a65c_add_9ea2d_10 rfl (lv_at hl 0 rfl) ?_
  refine lv_aload_n hx hb dJx4a65c_add_9ea2d_11 rfl (lv_at hl 1 rfl) ?_
  refine lv_aload_n hx hb dJx4a65c_add_9ea2d_12 rfl (lv_at hl 0 rfl) ?_
  refine k_get (C := RJx4a65c) (T := TJx4a65c) (N := 3) (ci := 4) (v := .ref e0.1) hx hb hts ws_c_add_I_0 hown hh 0 rfl rfl 1 (by decide) (hts _ (wo_c_add_I_in _ (List.mem_of_getElem? (i := 2) rfl))) rfl dJx4a65c_add_9ea2d_13 ?_
  refine lv_aload_n hx hb dJx4a65c_add_9ea2d_16 rfl (lv_at hl 0 rfl) ?_
  refine k_get (C := RJx4a65c) (T := TJx4a65c) (N := 3) (ci := 4) (v := .int 0) hx hb hts ws_c_add_I_0 hown hh 0 rfl rfl 2 (by decide) (hts _ (wo_c_add_I_in _ (List.mem_of_getElem? (i := 3) rfl))) rfl dJx4a65c_add_9ea2d_17 ?_
  refine k_callV (C := RJx4a65c) (T := TJx4a65c) (N := 3) (ci := 4) (q0 := 0) (wr := []) (rest := []) (own := RJx4a65c) ⟨hx, hb, hml, hown, hts⟩ (c_add3_I l hst D e0 pz 1 ) (cwV 3 hts gi_c_add_I_1 rfl rfl rfl (by decide +kernel) ⟨Nat.le_of_ble_eq_true rfl, Nat.le_of_ble_eq_true rfl⟩) hh rfl rfl [0] [] [] rfl rfl rfl rfl (by decide) rfl rfl hl rfl (Nat.le_of_ble_eq_true rfl) dJx4a65c_add_9ea2d_20 ⟨Nat.le_of_ble_eq_true rfl, (Nat.le_of_ble_eq_true rfl)⟩ (fun _ _ _ _ _ h => h.elim) (fun v w ty1 H locs hp hh => ?_)
  obtain ⟨q1, y2, rfl, rfl, rfl⟩ := hp
  have hh : kH D kStr e0 A s H [(pz, .inr (4, [.int 1, .ref q1, .int 1])), (q1, .inl (y2, 10, .inr (.inr (.inr (.inr (va_up ((fun _ => none)) (0 : Int32).toNatClampNeg (some e0.2.2)))))))] [(y2, .object "java/lang/Object")] _ := hh
  refine W.eq (g2 := F0 m 23 ls []) (by first | rfl | decide) ?_
  refine lv_iconst (v := 1) hx hb dJx4a65c_add_9ea2d_23 (by decide) ?_
  exact k_endz (ty := .boolean) (by decide) hx hb hr hlocks hh ⟨q1, y2, rfl, rfl, rfl⟩ [0, 1] [0] rfl rfl rfl (Nat.le_of_ble_eq_true rfl) (Nat.le_of_ble_eq_true rfl) dJx4a65c_add_9ea2d_24
def wo_c_add3_L : List Cond := [Cond.fieldLink RJx4a65c 48 "java/util/ArrayList" "size" "I"]
def wk_c_add3_L : List Cond := Cond.code yJx4a65c_add_72be8 cJx4a65c_add_72be8 4 none :: (wo_c_add3_L ++ ((wsV RJx4a65c 129 RJx4a65c yJx4a65c_grow_d5877 wk_c_grow0) ++ (u_ws RJx4a65c TJx4a65c 3)))
theorem wo_c_add3_L_in : ∀ w ∈ wo_c_add3_L, w ∈ wk_c_add3_L := fun w h => List.mem_cons_of_mem _ (List.mem_append_left _ h)
theorem gi_c_add3_L_0 : GoodIn wk_c_add3_L (wsV RJx4a65c 129 RJx4a65c yJx4a65c_grow_d5877 wk_c_grow0) := fun w h => ⟨List.mem_cons_of_mem _ (List.mem_append_right _ (List.mem_append_left _ h)), good_of_word (kg_V gk_c_grow0 w h)⟩
theorem ws_c_add3_L_1 : ∀ w ∈ u_ws RJx4a65c TJx4a65c 3, w ∈ wk_c_add3_L := fun w h => List.mem_cons_of_mem _ (List.mem_append_right _ (List.mem_append_right _ h))
theorem gk_c_add3_L : ∀ w ∈ wk_c_add3_L, goodWord w = true := List.forall_mem_cons.mpr ⟨rfl, (List.forall_mem_append.mpr ⟨(show ∀ w ∈ wo_c_add3_L, goodWord w = true by decide +kernel), (List.forall_mem_append.mpr ⟨(kg_V gk_c_grow0), (show ∀ w ∈ u_ws RJx4a65c TJx4a65c 3, goodWord w = true by decide +kernel)⟩)⟩)⟩
set_option maxHeartbeats 4000000 in
set_option maxRecDepth 100000 in
theorem c_add3_L (l : Launch) (hst : l.stackTraces = false) (D : va_G) (e0 : kE) (pz : Nat) (pz1 : Int32) (py : Nat) (py3 : Int32) (py4 : Value) (py5 : Int32)  : kM l yJx4a65c_add_72be8 wk_c_add3_L 3 72 1 10 D kStr e0 [] [(pz, .inr (4, [.int pz1, .ref e0.1, .int 0])), (py, .inr (4, [.int py3, py4, .int py5]))] [.ref pz, .ref py, .ref e0.1, .int 0] (fun v w t => ∃ (q1 : Nat), ∃ (y2 : ClassId), v = none ∧ w = [(pz, .inr (4, [.int pz1, .ref q1, .int 1])), (q1, .inl (y2, 10, .inr (.inr (.inr (.inr (va_up ((fun _ => none)) (0 : Int32).toNatClampNeg (some py))))))), (py, .inr (4, [.int py3, py4, .int py5]))] ∧ t = [(y2, .object "java/lang/Object")]) (fun _ => False) := by
  refine k_of (cc := cJx4a65c_add_72be8) (maxL := 4) (ret := none) (by decide) rfl (Nat.le_of_ble_eq_true rfl) ?_
  intro p e s m args below meth c A ls hx hb hr hts hown hlocks hml hex hh hl
  have hown : s.vm.findClass RJx4a65c = some m.cls := hown
  have hl : lv_has ls 4 [(0, .ref pz), (1, .ref py), (2, .ref e0.1), (3, .int 0)] := hl
  refine lv_iload_n hx hb dJx4a65c_add_72be8_0 rfl (lv_at hl 3 rfl) ?_
  refine lv_aload_n hx hb dJx4a65c_add_72be8_1 rfl (lv_at hl 2 rfl) ?_
  refine va_tlen (v := 0) hx hb hh.2.2.2.2.2.2.2.2.1 hh.2.2.2.1 (by decide) dJx4a65c_add_72be8_2 ?_
  refine lv_icmp_ne (tgt := 11) hx hb dJx4a65c_add_72be8_3 (by decide) (fun c_3 => absurd (by decide) c_3) (fun _ => ?_)
  refine lv_aload_n hx hb dJx4a65c_add_72be8_6 rfl (lv_at hl 0 rfl) ?_
  refine k_callV (C := RJx4a65c) (T := TJx4a65c) (N := 3) (ci := 4) (q0 := 0) (wr := [(py, .inr (4, [.int py3, py4, .int py5]))]) (rest := []) (own := RJx4a65c) ⟨hx, hb, hml, hown, hts⟩ (c_grow0 l hst D e0 pz pz1 ) (cwV 0 hts gi_c_add3_L_0 rfl rfl rfl (by decide +kernel) ⟨Nat.le_of_ble_eq_true rfl, Nat.le_of_ble_eq_true rfl⟩) hh rfl rfl [0] [1] [] rfl rfl rfl rfl (by decide) rfl rfl hl rfl (Nat.le_of_ble_eq_true rfl) dJx4a65c_add_72be8_7 ⟨Nat.le_of_ble_eq_true rfl, (Nat.le_of_ble_eq_true rfl)⟩ (fun _ _ _ _ _ h => h.elim) (fun v w ty1 H locs hp hh => ?_)
  obtain ⟨q1, y2, rfl, rfl, rfl⟩ := hp
  have hh : kH D kStr e0 A s H [(py, .inr (4, [.int py3, py4, .int py5])), (pz, .inr (4, [.int pz1, .ref q1, .int 0])), (q1, .inl (y2, 10, .inr (.inr (.inr (.inr (fun _ => none))))))] [(y2, .object "java/lang/Object")] _ := hh
  refine W.eq (g2 := F0 m 10 ls [.ref q1]) (by first | rfl | decide) ?_
  refine lv_astore_n (lv' := [(2, .ref q1), (0, .ref pz), (1, .ref py), (3, .int 0)]) hx hb dJx4a65c_add_72be8_10 rfl hl (by decide) rfl (fun ls hl => ?_)
  refine lv_aload_n hx hb dJx4a65c_add_72be8_11 rfl (lv_at hl 0 rfl) ?_
  refine lv_iload_n hx hb dJx4a65c_add_72be8_12 rfl (lv_at hl 3 rfl) ?_
  refine lv_aload_n hx hb dJx4a65c_add_72be8_13 rfl (lv_at hl 2 rfl) ?_
  refine k_astO (C := RJx4a65c) (T := TJx4a65c) (N := 3) (ws' := [(py, .inr (4, [.int py3, py4, .int py5])), (pz, .inr (4, [.int pz1, .ref q1, .int 0])), (q1, .inl (y2, 10, .inr (.inr (.inr (.inr (va_up ((fun _ => none)) (0 : Int32).toNatClampNeg (some py)))))))]) hx hb hh 2 0 0 4 (by decide) rfl rfl rfl rfl (by unfold vp_in; decide) dJx4a65c_add_72be8_14 rfl (fun H locs hh => ?_)
  refine lv_aload_n hx hb dJx4a65c_add_72be8_15 rfl (lv_at hl 1 rfl) ?_
  refine lv_iload_n hx hb dJx4a65c_add_72be8_16 rfl (lv_at hl 3 rfl) ?_
  refine lv_iconst (v := 1) hx hb dJx4a65c_add_72be8_17 (by decide) ?_
  refine lv_iadd hx hb dJx4a65c_add_72be8_18 ?_
  refine W.eq (g2 := F0 m 19 ls [.int 1, .ref pz]) (by first | rfl | decide) ?_
  refine k_put (C := RJx4a65c) (T := TJx4a65c) (N := 3) (ci := 4) (v := .int 1) (ws' := [(py, .inr (4, [.int py3, py4, .int py5])), (pz, .inr (4, [.int pz1, .ref q1, .int 1])), (q1, .inl (y2, 10, .inr (.inr (.inr (.inr (va_up ((fun _ => none)) (0 : Int32).toNatClampNeg (some py)))))))]) hx hb hts ws_c_add3_L_1 tyJx4a65c tyJx4a65c_ok nmJx4a65c hown hh 1 rfl rfl 2 (by decide) (hts _ (wo_c_add3_L_in _ (List.mem_of_getElem? (i := 0) rfl))) rfl rfl rfl (Nat.le_of_ble_eq_true rfl) dJx4a65c_add_72be8_19 rfl (fun H locs hh => ?_)
  exact k_endv hx hb hr hlocks hh ⟨q1, y2, rfl, rfl, rfl⟩ [1, 2, 0] [0] rfl rfl rfl (Nat.le_of_ble_eq_true rfl) (Nat.le_of_ble_eq_true rfl) dJx4a65c_add_72be8_22
def wo_c_add_L : List Cond := [Cond.sameField "java/util/ArrayList" "java/util/AbstractList" "modCount" "I", Cond.fieldLink RJx4a65c 63 "java/util/ArrayList" "modCount" "I", Cond.fieldLink RJx4a65c 9 "java/util/ArrayList" "elementData" "[Ljava/lang/Object;", Cond.fieldLink RJx4a65c 48 "java/util/ArrayList" "size" "I"]
def wk_c_add_L : List Cond := Cond.code yJx4a65c_add_9ea2d cJx4a65c_add_9ea2d 2 (some .boolean) :: (wo_c_add_L ++ ((u_ws RJx4a65c TJx4a65c 3) ++ (wsV RJx4a65c 131 RJx4a65c yJx4a65c_add_72be8 wk_c_add3_L)))
theorem wo_c_add_L_in : ∀ w ∈ wo_c_add_L, w ∈ wk_c_add_L := fun w h => List.mem_cons_of_mem _ (List.mem_append_left _ h)
theorem ws_c_add_L_0 : ∀ w ∈ u_ws RJx4a65c TJx4a65c 3, w ∈ wk_c_add_L := fun w h => List.mem_cons_of_mem _ (List.mem_append_right _ (List.mem_append_left _ h))
theorem gi_c_add_L_1 : GoodIn wk_c_add_L (wsV RJx4a65c 131 RJx4a65c yJx4a65c_add_72be8 wk_c_add3_L) := fun w h => ⟨List.mem_cons_of_mem _ (List.mem_append_right _ (List.mem_append_right _ h)), good_of_word (kg_V gk_c_add3_L w h)⟩
theorem gk_c_add_L : ∀ w ∈ wk_c_add_L, goodWord w = true := List.forall_mem_cons.mpr ⟨rfl, (List.forall_mem_append.mpr ⟨(show ∀ w ∈ wo_c_add_L, goodWord w = true by decide +kernel), (List.forall_mem_append.mpr ⟨(show ∀ w ∈ u_ws RJx4a65c TJx4a65c 3, goodWord w = true by decide +kernel), (kg_V gk_c_add3_L)⟩)⟩)⟩
set_option maxHeartbeats 4000000 in
set_option maxRecDepth 100000 in
theorem c_add_L (l : Launch) (hst : l.stackTraces = false) (D : va_G) (e0 : kE) (pz : Nat) (py : Nat) (py3 : Int32) (py4 : Value) (py5 : Int32)  : kM l yJx4a65c_add_9ea2d wk_c_add_L 4 95 1 10 D kStr e0 [] [(pz, .inr (4, [.int 0, .ref e0.1, .int 0])), (py, .inr (4, [.int py3, py4, .int py5]))] [.ref pz, .ref py] (fun v w t => ∃ (q1 : Nat), ∃ (y2 : ClassId), v = some (.int 1) ∧ w = [(pz, .inr (4, [.int 1, .ref q1, .int 1])), (q1, .inl (y2, 10, .inr (.inr (.inr (.inr (va_up ((fun _ => none)) (0 : Int32).toNatClampNeg (some py))))))), (py, .inr (4, [.int py3, py4, .int py5]))] ∧ t = [(y2, .object "java/lang/Object")]) (fun _ => False) := by
  refine k_of (cc := cJx4a65c_add_9ea2d) (maxL := 2) (ret := (some .boolean)) (by decide) rfl (Nat.le_of_ble_eq_true rfl) ?_
  intro p e s m args below meth c A ls hx hb hr hts hown hlocks hml hex hh hl
  have hown : s.vm.findClass RJx4a65c = some m.cls := hown
  have hl : lv_has ls 2 [(0, .ref pz), (1, .ref py)] := hl
  refine lv_aload_n hx hb dJx4a65c_add_9ea2d_0 rfl (lv_at hl 0 rfl) ?_
  refine lv_dup hx hb dJx4a65c_add_9ea2d_1 rfl ?_
  refine k_getR (ref := "java/util/ArrayList") (C := RJx4a65c) (T := TJx4a65c) (N := 3) (ci := 4) (v := .int 0) hx hb hts ws_c_add_L_0 hown hh 0 rfl rfl 0 (by decide) (hts _ (wo_c_add_L_in _ (List.mem_of_getElem? (i := 1) rfl))) (u_same (hts _ (wo_c_add_L_in _ (List.mem_of_getElem? (i := 0) rfl)))) rfl dJx4a65c_add_9ea2d_2 ?_
  refine lv_iconst (v := 1) hx hb dJx4a65c_add_9ea2d_5 (by decide) ?_
  refine lv_iadd hx hb dJx4a65c_add_9ea2d_6 ?_
  refine W.eq (g2 := F0 m 7 ls [.int 1, .ref pz]) (by first | rfl | decide) ?_
  refine k_putR (ref := "java/util/ArrayList") (C := RJx4a65c) (T := TJx4a65c) (N := 3) (ci := 4) (v := .int 1) (ws' := [(pz, .inr (4, [.int 1, .ref e0.1, .int 0])), (py, .inr (4, [.int py3, py4, .int py5]))]) hx hb hts ws_c_add_L_0 tyJx4a65c tyJx4a65c_ok nmJx4a65c hown hh 0 rfl rfl 0 (by decide) (hts _ (wo_c_add_L_in _ (List.mem_of_getElem? (i := 1) rfl))) (u_same (hts _ (wo_c_add_L_in _ (List.mem_of_getElem? (i := 0) rfl)))) rfl rfl rfl (Nat.le_of_ble_eq_true rfl) dJx4a65c_add_9ea2d_7 rfl (fun H locs hh => ?_)
  refine lv_aload_n hx hb dJx4a65c_add_9ea2d_10 rfl (lv_at hl 0 rfl) ?_
  refine lv_aload_n hx hb dJx4a65c_add_9ea2d_11 rfl (lv_at hl 1 rfl) ?_
  refine lv_aload_n hx hb dJx4a65c_add_9ea2d_12 rfl (lv_at hl 0 rfl) ?_
  refine k_get (C := RJx4a65c) (T := TJx4a65c) (N := 3) (ci := 4) (v := .ref e0.1) hx hb hts ws_c_add_L_0 hown hh 0 rfl rfl 1 (by decide) (hts _ (wo_c_add_L_in _ (List.mem_of_getElem? (i := 2) rfl))) rfl dJx4a65c_add_9ea2d_13 ?_
  refine lv_aload_n hx hb dJx4a65c_add_9ea2d_16 rfl (lv_at hl 0 rfl) ?_
  refine k_get (C := RJx4a65c) (T := TJx4a65c) (N := 3) (ci := 4) (v := .int 0) hx hb hts ws_c_add_L_0 hown hh 0 rfl rfl 2 (by decide) (hts _ (wo_c_add_L_in _ (List.mem_of_getElem? (i := 3) rfl))) rfl dJx4a65c_add_9ea2d_17 ?_
  refine k_callV (C := RJx4a65c) (T := TJx4a65c) (N := 3) (ci := 4) (q0 := 0) (wr := []) (rest := []) (own := RJx4a65c) ⟨hx, hb, hml, hown, hts⟩ (c_add3_L l hst D e0 pz 1 py py3 py4 py5 ) (cwV 3 hts gi_c_add_L_1 rfl rfl rfl (by decide +kernel) ⟨Nat.le_of_ble_eq_true rfl, Nat.le_of_ble_eq_true rfl⟩) hh rfl rfl [0, 1] [] [] rfl rfl rfl rfl (by decide) rfl rfl hl rfl (Nat.le_of_ble_eq_true rfl) dJx4a65c_add_9ea2d_20 ⟨Nat.le_of_ble_eq_true rfl, (Nat.le_of_ble_eq_true rfl)⟩ (fun _ _ _ _ _ h => h.elim) (fun v w ty1 H locs hp hh => ?_)
  obtain ⟨q1, y2, rfl, rfl, rfl⟩ := hp
  have hh : kH D kStr e0 A s H [(pz, .inr (4, [.int 1, .ref q1, .int 1])), (q1, .inl (y2, 10, .inr (.inr (.inr (.inr (va_up ((fun _ => none)) (0 : Int32).toNatClampNeg (some py))))))), (py, .inr (4, [.int py3, py4, .int py5]))] [(y2, .object "java/lang/Object")] _ := hh
  refine W.eq (g2 := F0 m 23 ls []) (by first | rfl | decide) ?_
  refine lv_iconst (v := 1) hx hb dJx4a65c_add_9ea2d_23 (by decide) ?_
  exact k_endz (ty := .boolean) (by decide) hx hb hr hlocks hh ⟨q1, y2, rfl, rfl, rfl⟩ [0, 1, 2] [0] rfl rfl rfl (Nat.le_of_ble_eq_true rfl) (Nat.le_of_ble_eq_true rfl) dJx4a65c_add_9ea2d_24
def wo_c_add3_P : List Cond := [Cond.fieldLink RJx4a65c 48 "java/util/ArrayList" "size" "I"]
def wk_c_add3_P : List Cond := Cond.code yJx4a65c_add_72be8 cJx4a65c_add_72be8 4 none :: (wo_c_add3_P ++ ((wsV RJx4a65c 129 RJx4a65c yJx4a65c_grow_d5877 wk_c_grow0) ++ (u_ws RJx4a65c TJx4a65c 3)))
theorem wo_c_add3_P_in : ∀ w ∈ wo_c_add3_P, w ∈ wk_c_add3_P := fun w h => List.mem_cons_of_mem _ (List.mem_append_left _ h)
theorem gi_c_add3_P_0 : GoodIn wk_c_add3_P (wsV RJx4a65c 129 RJx4a65c yJx4a65c_grow_d5877 wk_c_grow0) := fun w h => ⟨List.mem_cons_of_mem _ (List.mem_append_right _ (List.mem_append_left _ h)), good_of_word (kg_V gk_c_grow0 w h)⟩
theorem ws_c_add3_P_1 : ∀ w ∈ u_ws RJx4a65c TJx4a65c 3, w ∈ wk_c_add3_P := fun w h => List.mem_cons_of_mem _ (List.mem_append_right _ (List.mem_append_right _ h))
theorem gk_c_add3_P : ∀ w ∈ wk_c_add3_P, goodWord w = true := List.forall_mem_cons.mpr ⟨rfl, (List.forall_mem_append.mpr ⟨(show ∀ w ∈ wo_c_add3_P, goodWord w = true by decide +kernel), (List.forall_mem_append.mpr ⟨(kg_V gk_c_grow0), (show ∀ w ∈ u_ws RJx4a65c TJx4a65c 3, goodWord w = true by decide +kernel)⟩)⟩)⟩
set_option maxHeartbeats 4000000 in
set_option maxRecDepth 100000 in
theorem c_add3_P (l : Launch) (hst : l.stackTraces = false) (D : va_G) (e0 : kE) (pz : Nat) (pz1 : Int32) (py : Nat) (py3 : Int32) (py4 : Value)  : kM l yJx4a65c_add_72be8 wk_c_add3_P 3 72 1 10 D kStr e0 [] [(pz, .inr (4, [.int pz1, .ref e0.1, .int 0])), (py, .inr (14, [.int py3, py4]))] [.ref pz, .ref py, .ref e0.1, .int 0] (fun v w t => ∃ (q1 : Nat), ∃ (y2 : ClassId), v = none ∧ w = [(pz, .inr (4, [.int pz1, .ref q1, .int 1])), (q1, .inl (y2, 10, .inr (.inr (.inr (.inr (va_up ((fun _ => none)) (0 : Int32).toNatClampNeg (some py))))))), (py, .inr (14, [.int py3, py4]))] ∧ t = [(y2, .object "java/lang/Object")]) (fun _ => False) := by
  refine k_of (cc := cJx4a65c_add_72be8) (maxL := 4) (ret := none) (by decide) rfl (Nat.le_of_ble_eq_true rfl) ?_
  intro p e s m args below meth c A ls hx hb hr hts hown hlocks hml hex hh hl
  have hown : s.vm.findClass RJx4a65c = some m.cls := hown
  have hl : lv_has ls 4 [(0, .ref pz), (1, .ref py), (2, .ref e0.1), (3, .int 0)] := hl
  refine lv_iload_n hx hb dJx4a65c_add_72be8_0 rfl (lv_at hl 3 rfl) ?_
  refine lv_aload_n hx hb dJx4a65c_add_72be8_1 rfl (lv_at hl 2 rfl) ?_
  refine va_tlen (v := 0) hx hb hh.2.2.2.2.2.2.2.2.1 hh.2.2.2.1 (by decide) dJx4a65c_add_72be8_2 ?_
  refine lv_icmp_ne (tgt := 11) hx hb dJx4a65c_add_72be8_3 (by decide) (fun c_3 => absurd (by decide) c_3) (fun _ => ?_)
  refine lv_aload_n hx hb dJx4a65c_add_72be8_6 rfl (lv_at hl 0 rfl) ?_
  refine k_callV (C := RJx4a65c) (T := TJx4a65c) (N := 3) (ci := 4) (q0 := 0) (wr := [(py, .inr (14, [.int py3, py4]))]) (rest := []) (own := RJx4a65c) ⟨hx, hb, hml, hown, hts⟩ (c_grow0 l hst D e0 pz pz1 ) (cwV 0 hts gi_c_add3_P_0 rfl rfl rfl (by decide +kernel) ⟨Nat.le_of_ble_eq_true rfl, Nat.le_of_ble_eq_true rfl⟩) hh rfl rfl [0] [1] [] rfl rfl rfl rfl (by decide) rfl rfl hl rfl (Nat.le_of_ble_eq_true rfl) dJx4a65c_add_72be8_7 ⟨Nat.le_of_ble_eq_true rfl, (Nat.le_of_ble_eq_true rfl)⟩ (fun _ _ _ _ _ h => h.elim) (fun v w ty1 H locs hp hh => ?_)
  obtain ⟨q1, y2, rfl, rfl, rfl⟩ := hp
  have hh : kH D kStr e0 A s H [(py, .inr (14, [.int py3, py4])), (pz, .inr (4, [.int pz1, .ref q1, .int 0])), (q1, .inl (y2, 10, .inr (.inr (.inr (.inr (fun _ => none))))))] [(y2, .object "java/lang/Object")] _ := hh
  refine W.eq (g2 := F0 m 10 ls [.ref q1]) (by first | rfl | decide) ?_
  refine lv_astore_n (lv' := [(2, .ref q1), (0, .ref pz), (1, .ref py), (3, .int 0)]) hx hb dJx4a65c_add_72be8_10 rfl hl (by decide) rfl (fun ls hl => ?_)
  refine lv_aload_n hx hb dJx4a65c_add_72be8_11 rfl (lv_at hl 0 rfl) ?_
  refine lv_iload_n hx hb dJx4a65c_add_72be8_12 rfl (lv_at hl 3 rfl) ?_
  refine lv_aload_n hx hb dJx4a65c_add_72be8_13 rfl (lv_at hl 2 rfl) ?_
  refine k_astO (C := RX9) (T := TX9) (N := 2) (ws' := [(py, .inr (14, [.int py3, py4])), (pz, .inr (4, [.int pz1, .ref q1, .int 0])), (q1, .inl (y2, 10, .inr (.inr (.inr (.inr (va_up ((fun _ => none)) (0 : Int32).toNatClampNeg (some py)))))))]) hx hb hh 2 0 0 14 (by decide) rfl rfl rfl rfl (by unfold vp_in; decide) dJx4a65c_add_72be8_14 rfl (fun H locs hh => ?_)
  refine lv_aload_n hx hb dJx4a65c_add_72be8_15 rfl (lv_at hl 1 rfl) ?_
  refine lv_iload_n hx hb dJx4a65c_add_72be8_16 rfl (lv_at hl 3 rfl) ?_
  refine lv_iconst (v := 1) hx hb dJx4a65c_add_72be8_17 (by decide) ?_
  refine lv_iadd hx hb dJx4a65c_add_72be8_18 ?_
  refine W.eq (g2 := F0 m 19 ls [.int 1, .ref pz]) (by first | rfl | decide) ?_
  refine k_put (C := RJx4a65c) (T := TJx4a65c) (N := 3) (ci := 4) (v := .int 1) (ws' := [(py, .inr (14, [.int py3, py4])), (pz, .inr (4, [.int pz1, .ref q1, .int 1])), (q1, .inl (y2, 10, .inr (.inr (.inr (.inr (va_up ((fun _ => none)) (0 : Int32).toNatClampNeg (some py)))))))]) hx hb hts ws_c_add3_P_1 tyJx4a65c tyJx4a65c_ok nmJx4a65c hown hh 1 rfl rfl 2 (by decide) (hts _ (wo_c_add3_P_in _ (List.mem_of_getElem? (i := 0) rfl))) rfl rfl rfl (Nat.le_of_ble_eq_true rfl) dJx4a65c_add_72be8_19 rfl (fun H locs hh => ?_)
  exact k_endv hx hb hr hlocks hh ⟨q1, y2, rfl, rfl, rfl⟩ [1, 2, 0] [0] rfl rfl rfl (Nat.le_of_ble_eq_true rfl) (Nat.le_of_ble_eq_true rfl) dJx4a65c_add_72be8_22
def wo_c_add_P : List Cond := [Cond.sameField "java/util/ArrayList" "java/util/AbstractList" "modCount" "I", Cond.fieldLink RJx4a65c 63 "java/util/ArrayList" "modCount" "I", Cond.fieldLink RJx4a65c 9 "java/util/ArrayList" "elementData" "[Ljava/lang/Object;", Cond.fieldLink RJx4a65c 48 "java/util/ArrayList" "size" "I"]
def wk_c_add_P : List Cond := Cond.code yJx4a65c_add_9ea2d cJx4a65c_add_9ea2d 2 (some .boolean) :: (wo_c_add_P ++ ((u_ws RJx4a65c TJx4a65c 3) ++ (wsV RJx4a65c 131 RJx4a65c yJx4a65c_add_72be8 wk_c_add3_P)))
theorem wo_c_add_P_in : ∀ w ∈ wo_c_add_P, w ∈ wk_c_add_P := fun w h => List.mem_cons_of_mem _ (List.mem_append_left _ h)
theorem ws_c_add_P_0 : ∀ w ∈ u_ws RJx4a65c TJx4a65c 3, w ∈ wk_c_add_P := fun w h => List.mem_cons_of_mem _ (List.mem_append_right _ (List.mem_append_left _ h))
theorem gi_c_add_P_1 : GoodIn wk_c_add_P (wsV RJx4a65c 131 RJx4a65c yJx4a65c_add_72be8 wk_c_add3_P) := fun w h => ⟨List.mem_cons_of_mem _ (List.mem_append_right _ (List.mem_append_right _ h)), good_of_word (kg_V gk_c_add3_P w h)⟩
theorem gk_c_add_P : ∀ w ∈ wk_c_add_P, goodWord w = true := List.forall_mem_cons.mpr ⟨rfl, (List.forall_mem_append.mpr ⟨(show ∀ w ∈ wo_c_add_P, goodWord w = true by decide +kernel), (List.forall_mem_append.mpr ⟨(show ∀ w ∈ u_ws RJx4a65c TJx4a65c 3, goodWord w = true by decide +kernel), (kg_V gk_c_add3_P)⟩)⟩)⟩
set_option maxHeartbeats 4000000 in
set_option maxRecDepth 100000 in
theorem c_add_P (l : Launch) (hst : l.stackTraces = false) (D : va_G) (e0 : kE) (pz : Nat) (py : Nat) (py3 : Int32) (py4 : Value)  : kM l yJx4a65c_add_9ea2d wk_c_add_P 4 95 1 10 D kStr e0 [] [(pz, .inr (4, [.int 0, .ref e0.1, .int 0])), (py, .inr (14, [.int py3, py4]))] [.ref pz, .ref py] (fun v w t => ∃ (q1 : Nat), ∃ (y2 : ClassId), v = some (.int 1) ∧ w = [(pz, .inr (4, [.int 1, .ref q1, .int 1])), (q1, .inl (y2, 10, .inr (.inr (.inr (.inr (va_up ((fun _ => none)) (0 : Int32).toNatClampNeg (some py))))))), (py, .inr (14, [.int py3, py4]))] ∧ t = [(y2, .object "java/lang/Object")]) (fun _ => False) := by
  refine k_of (cc := cJx4a65c_add_9ea2d) (maxL := 2) (ret := (some .boolean)) (by decide) rfl (Nat.le_of_ble_eq_true rfl) ?_
  intro p e s m args below meth c A ls hx hb hr hts hown hlocks hml hex hh hl
  have hown : s.vm.findClass RJx4a65c = some m.cls := hown
  have hl : lv_has ls 2 [(0, .ref pz), (1, .ref py)] := hl
  refine lv_aload_n hx hb dJx4a65c_add_9ea2d_0 rfl (lv_at hl 0 rfl) ?_
  refine lv_dup hx hb dJx4a65c_add_9ea2d_1 rfl ?_
  refine k_getR (ref := "java/util/ArrayList") (C := RJx4a65c) (T := TJx4a65c) (N := 3) (ci := 4) (v := .int 0) hx hb hts ws_c_add_P_0 hown hh 0 rfl rfl 0 (by decide) (hts _ (wo_c_add_P_in _ (List.mem_of_getElem? (i := 1) rfl))) (u_same (hts _ (wo_c_add_P_in _ (List.mem_of_getElem? (i := 0) rfl)))) rfl dJx4a65c_add_9ea2d_2 ?_
  refine lv_iconst (v := 1) hx hb dJx4a65c_add_9ea2d_5 (by decide) ?_
  refine lv_iadd hx hb dJx4a65c_add_9ea2d_6 ?_
  refine W.eq (g2 := F0 m 7 ls [.int 1, .ref pz]) (by first | rfl | decide) ?_
  refine k_putR (ref := "java/util/ArrayList") (C := RJx4a65c) (T := TJx4a65c) (N := 3) (ci := 4) (v := .int 1) (ws' := [(pz, .inr (4, [.int 1, .ref e0.1, .int 0])), (py, .inr (14, [.int py3, py4]))]) hx hb hts ws_c_add_P_0 tyJx4a65c tyJx4a65c_ok nmJx4a65c hown hh 0 rfl rfl 0 (by decide) (hts _ (wo_c_add_P_in _ (List.mem_of_getElem? (i := 1) rfl))) (u_same (hts _ (wo_c_add_P_in _ (List.mem_of_getElem? (i := 0) rfl)))) rfl rfl rfl (Nat.le_of_ble_eq_true rfl) dJx4a65c_add_9ea2d_7 rfl (fun H locs hh => ?_)
  refine lv_aload_n hx hb dJx4a65c_add_9ea2d_10 rfl (lv_at hl 0 rfl) ?_
  refine lv_aload_n hx hb dJx4a65c_add_9ea2d_11 rfl (lv_at hl 1 rfl) ?_
  refine lv_aload_n hx hb dJx4a65c_add_9ea2d_12 rfl (lv_at hl 0 rfl) ?_
  refine k_get (C := RJx4a65c) (T := TJx4a65c) (N := 3) (ci := 4) (v := .ref e0.1) hx hb hts ws_c_add_P_0 hown hh 0 rfl rfl 1 (by decide) (hts _ (wo_c_add_P_in _ (List.mem_of_getElem? (i := 2) rfl))) rfl dJx4a65c_add_9ea2d_13 ?_
  refine lv_aload_n hx hb dJx4a65c_add_9ea2d_16 rfl (lv_at hl 0 rfl) ?_
  refine k_get (C := RJx4a65c) (T := TJx4a65c) (N := 3) (ci := 4) (v := .int 0) hx hb hts ws_c_add_P_0 hown hh 0 rfl rfl 2 (by decide) (hts _ (wo_c_add_P_in _ (List.mem_of_getElem? (i := 3) rfl))) rfl dJx4a65c_add_9ea2d_17 ?_
  refine k_callV (C := RJx4a65c) (T := TJx4a65c) (N := 3) (ci := 4) (q0 := 0) (wr := []) (rest := []) (own := RJx4a65c) ⟨hx, hb, hml, hown, hts⟩ (c_add3_P l hst D e0 pz 1 py py3 py4 ) (cwV 3 hts gi_c_add_P_1 rfl rfl rfl (by decide +kernel) ⟨Nat.le_of_ble_eq_true rfl, Nat.le_of_ble_eq_true rfl⟩) hh rfl rfl [0, 1] [] [] rfl rfl rfl rfl (by decide) rfl rfl hl rfl (Nat.le_of_ble_eq_true rfl) dJx4a65c_add_9ea2d_20 ⟨Nat.le_of_ble_eq_true rfl, (Nat.le_of_ble_eq_true rfl)⟩ (fun _ _ _ _ _ h => h.elim) (fun v w ty1 H locs hp hh => ?_)
  obtain ⟨q1, y2, rfl, rfl, rfl⟩ := hp
  have hh : kH D kStr e0 A s H [(pz, .inr (4, [.int 1, .ref q1, .int 1])), (q1, .inl (y2, 10, .inr (.inr (.inr (.inr (va_up ((fun _ => none)) (0 : Int32).toNatClampNeg (some py))))))), (py, .inr (14, [.int py3, py4]))] [(y2, .object "java/lang/Object")] _ := hh
  refine W.eq (g2 := F0 m 23 ls []) (by first | rfl | decide) ?_
  refine lv_iconst (v := 1) hx hb dJx4a65c_add_9ea2d_23 (by decide) ?_
  exact k_endz (ty := .boolean) (by decide) hx hb hr hlocks hh ⟨q1, y2, rfl, rfl, rfl⟩ [0, 1, 2] [0] rfl rfl rfl (Nat.le_of_ble_eq_true rfl) (Nat.le_of_ble_eq_true rfl) dJx4a65c_add_9ea2d_24
def wo_c_X11_sidesOf : List Cond := [Cond.classLink RX11 16 RJx4a65c, Cond.instantiable RJx4a65c 3, Cond.initialized RJx4a65c, Cond.methodLink RX11 18 yJx4a65c_init_da8c8, Cond.instanceMethod yJx4a65c_init_da8c8, Cond.fieldLink RX11 28 "SegueworksModel" "items" "Ljava/util/ArrayList;"]
def wk_c_X11_sidesOf : List Cond := Cond.code yX11_sidesOf cX11_sidesOf 5 (some (.object "java/util/ArrayList")) :: (wo_c_X11_sidesOf ++ ((u_ws RJx4a65c TJx4a65c 3) ++ ((wk_c_Jx4a65c_init_da8c8) ++ ((u_ws RX11 TX11 11) ++ ((wsV RX11 50 RJx4a65c yJx4a65c_size_8abf5 wk_c_size) ++ ((va_wsS RX11 74 yJ6_valueOf_2dffe wk_c_valueOf0) ++ (wsV RX11 58 RJx4a65c yJx4a65c_add_9ea2d wk_c_add_I)))))))
theorem wo_c_X11_sidesOf_in : ∀ w ∈ wo_c_X11_sidesOf, w ∈ wk_c_X11_sidesOf := fun w h => List.mem_cons_of_mem _ (List.mem_append_left _ h)
theorem ws_c_X11_sidesOf_0 : ∀ w ∈ u_ws RJx4a65c TJx4a65c 3, w ∈ wk_c_X11_sidesOf := fun w h => List.mem_cons_of_mem _ (List.mem_append_right _ (List.mem_append_left _ h))
theorem gi_c_X11_sidesOf_1 : GoodIn wk_c_X11_sidesOf (wk_c_Jx4a65c_init_da8c8) := fun w h => ⟨List.mem_cons_of_mem _ (List.mem_append_right _ (List.mem_append_right _ (List.mem_append_left _ h))), good_of_word (gk_c_Jx4a65c_init_da8c8 w h)⟩
theorem ws_c_X11_sidesOf_2 : ∀ w ∈ u_ws RX11 TX11 11, w ∈ wk_c_X11_sidesOf := fun w h => List.mem_cons_of_mem _ (List.mem_append_right _ (List.mem_append_right _ (List.mem_append_right _ (List.mem_append_left _ h))))
theorem gi_c_X11_sidesOf_3 : GoodIn wk_c_X11_sidesOf (wsV RX11 50 RJx4a65c yJx4a65c_size_8abf5 wk_c_size) := fun w h => ⟨List.mem_cons_of_mem _ (List.mem_append_right _ (List.mem_append_right _ (List.mem_append_right _ (List.mem_append_right _ (List.mem_append_left _ h))))), good_of_word (kg_V gk_c_size w h)⟩
theorem gi_c_X11_sidesOf_4 : GoodIn wk_c_X11_sidesOf (va_wsS RX11 74 yJ6_valueOf_2dffe wk_c_valueOf0) := fun w h => ⟨List.mem_cons_of_mem _ (List.mem_append_right _ (List.mem_append_right _ (List.mem_append_right _ (List.mem_append_right _ (List.mem_append_right _ (List.mem_append_left _ h)))))), good_of_word (kg_S gk_c_valueOf0 w h)⟩
theorem gi_c_X11_sidesOf_5 : GoodIn wk_c_X11_sidesOf (wsV RX11 58 RJx4a65c yJx4a65c_add_9ea2d wk_c_add_I) := fun w h => ⟨List.mem_cons_of_mem _ (List.mem_append_right _ (List.mem_append_right _ (List.mem_append_right _ (List.mem_append_right _ (List.mem_append_right _ (List.mem_append_right _ h)))))), good_of_word (kg_V gk_c_add_I w h)⟩
theorem gk_c_X11_sidesOf : ∀ w ∈ wk_c_X11_sidesOf, goodWord w = true := List.forall_mem_cons.mpr ⟨rfl, (List.forall_mem_append.mpr ⟨(show ∀ w ∈ wo_c_X11_sidesOf, goodWord w = true by decide +kernel), (List.forall_mem_append.mpr ⟨(show ∀ w ∈ u_ws RJx4a65c TJx4a65c 3, goodWord w = true by decide +kernel), (List.forall_mem_append.mpr ⟨gk_c_Jx4a65c_init_da8c8, (List.forall_mem_append.mpr ⟨(show ∀ w ∈ u_ws RX11 TX11 11, goodWord w = true by decide +kernel), (List.forall_mem_append.mpr ⟨(kg_V gk_c_size), (List.forall_mem_append.mpr ⟨(kg_S gk_c_valueOf0), (kg_V gk_c_add_I)⟩)⟩)⟩)⟩)⟩)⟩)⟩
set_option maxHeartbeats 4000000 in
set_option maxRecDepth 100000 in
theorem c_X11_sidesOf (l : Launch) (hst : l.stackTraces = false) (D : va_G) (e0 : kE) (pa : Nat) (pt : Int32) (pr : Nat) (pp : Nat) (pi : Nat) (pl : Nat) (pf : Nat) (pm : Nat) (ps : Nat) (pe : Nat) (a1 : Int32)  : kM l yX11_sidesOf wk_c_X11_sidesOf 5 116 2 13 D kStr e0 [] [(pa, .inr (16, [.int pt, .ref pr, .ref pp, .ref pi, .ref pl, .ref pf, .ref pm, .ref ps, .ref pe, .int 0, .int 0])), (pi, .inr (4, [.int 0, .ref e0.1, .int 0]))] [.ref pa, .int a1] (fun v w t => ∃ (q1 : Nat), ∃ (q2 : Nat), v = some (.ref q1) ∧ w = [(pa, .inr (16, [.int pt, .ref pr, .ref pp, .ref pi, .ref pl, .ref pf, .ref pm, .ref ps, .ref pe, .int 0, .int 0])), (pi, .inr (4, [.int 0, .ref e0.1, .int 0])), (q1, .inr (4, [.int 1, .ref q2, .int 1]))] ∧ t = []) (fun _ => False) := by
  refine k_of (cc := cX11_sidesOf) (maxL := 5) (ret := (some (.object "java/util/ArrayList"))) (by decide) rfl (Nat.le_of_ble_eq_true rfl) ?_
  intro p e s m args below meth c A ls hx hb hr hts hown hlocks hml hex hh hl
  have hown : s.vm.findClass RX11 = some m.cls := hown
  have hl : lv_has ls 5 [(0, .ref pa), (1, .int a1)] := hl
  refine k_new (C := RJx4a65c) (T := TJx4a65c) (N := 3) (ci := 4) (fs := [.int 0, .null, .int 0]) hx hb hts ws_c_X11_sidesOf_0 tyJx4a65c tyJx4a65c_ok hown (hts _ (wo_c_X11_sidesOf_in _ (List.mem_of_getElem? (i := 0) rfl))) (hts _ (wo_c_X11_sidesOf_in _ (List.mem_of_getElem? (i := 1) rfl))) (hts _ (wo_c_X11_sidesOf_in _ (List.mem_of_getElem? (i := 2) rfl))) hh rfl (fun j hj => by rcases (show j = 0 ∨ j = 1 ∨ j = 2 by omega) with rfl | rfl | rfl <;> rfl) (Nat.le_of_ble_eq_true rfl) (Nat.le_of_ble_eq_true rfl) dX11_sidesOf_0 (fun q1 H hh => ?_)
  have hh : kH D kStr e0 A s H [(pa, .inr (16, [.int pt, .ref pr, .ref pp, .ref pi, .ref pl, .ref pf, .ref pm, .ref ps, .ref pe, .int 0, .int 0])), (pi, .inr (4, [.int 0, .ref e0.1, .int 0])), (q1, .inr (4, [.int 0, .null, .int 0]))] [] _ := hh
  refine lv_dup hx hb dX11_sidesOf_3 rfl ?_
  refine k_callI (wr := [(pa, .inr (16, [.int pt, .ref pr, .ref pp, .ref pi, .ref pl, .ref pf, .ref pm, .ref ps, .ref pe, .int 0, .int 0])), (pi, .inr (4, [.int 0, .ref e0.1, .int 0]))]) (rest := [.ref q1]) (own := RX11) ⟨hx, hb, hml, hown, hts⟩ (c_Jx4a65c_init_da8c8 l hst D e0 q1 ) (cwI 0 hts gi_c_X11_sidesOf_1 rfl rfl rfl (hts _ (wo_c_X11_sidesOf_in _ (List.mem_of_getElem? (i := 2) rfl))) (hts _ (wo_c_X11_sidesOf_in _ (List.mem_of_getElem? (i := 3) rfl))) (hts _ (wo_c_X11_sidesOf_in _ (List.mem_of_getElem? (i := 4) rfl))) rfl (by decide +kernel) ⟨Nat.le_of_ble_eq_true rfl, Nat.le_of_ble_eq_true rfl⟩) hh [2] [0, 1] [] rfl rfl rfl rfl (by decide) rfl rfl hl rfl (Nat.le_of_ble_eq_true rfl) dX11_sidesOf_4 ⟨Nat.le_of_ble_eq_true rfl, (Nat.le_of_ble_eq_true rfl)⟩ (fun v w ty1 H locs hp hh => ?_)
  obtain ⟨rfl, rfl, rfl⟩ := hp
  have hh : kH D kStr e0 A s H [(pa, .inr (16, [.int pt, .ref pr, .ref pp, .ref pi, .ref pl, .ref pf, .ref pm, .ref ps, .ref pe, .int 0, .int 0])), (pi, .inr (4, [.int 0, .ref e0.1, .int 0])), (q1, .inr (4, [.int 0, .ref e0.1, .int 0]))] [] _ := hh
  refine W.eq (g2 := F0 m 7 ls [.ref q1]) (by first | rfl | decide) ?_
  refine lv_astore_n (lv' := [(2, .ref q1), (0, .ref pa), (1, .int a1)]) hx hb dX11_sidesOf_7 rfl hl (by decide) rfl (fun ls hl => ?_)
  refine lv_iconst (v := 0) hx hb dX11_sidesOf_8 (by decide) ?_
  refine lv_istore_n (lv' := [(3, .int 0), (2, .ref q1), (0, .ref pa), (1, .int a1)]) hx hb dX11_sidesOf_9 rfl hl (by decide) rfl (fun ls hl => ?_)
  refine lv_iload_n hx hb dX11_sidesOf_10 rfl (lv_at hl 0 rfl) ?_
  refine lv_aload_n hx hb dX11_sidesOf_11 rfl (lv_at hl 2 rfl) ?_
  refine k_get (C := RX11) (T := TX11) (N := 11) (ci := 16) (v := .ref pi) hx hb hts ws_c_X11_sidesOf_2 hown hh 0 rfl rfl 3 (by decide) (hts _ (wo_c_X11_sidesOf_in _ (List.mem_of_getElem? (i := 5) rfl))) rfl dX11_sidesOf_12 ?_
  refine k_callV (C := RJx4a65c) (T := TJx4a65c) (N := 3) (ci := 4) (q0 := 1) (wr := [(pa, .inr (16, [.int pt, .ref pr, .ref pp, .ref pi, .ref pl, .ref pf, .ref pm, .ref ps, .ref pe, .int 0, .int 0])), (q1, .inr (4, [.int 0, .ref e0.1, .int 0]))]) (rest := [.int 0]) (own := RX11) ⟨hx, hb, hml, hown, hts⟩ (c_size l hst D e0 pi 0 (.ref e0.1) 0 ) (cwV 0 hts gi_c_X11_sidesOf_3 rfl rfl rfl (by decide +kernel) ⟨Nat.le_of_ble_eq_true rfl, Nat.le_of_ble_eq_true rfl⟩) hh rfl rfl [1] [0, 2] [] rfl rfl rfl rfl (by decide) rfl rfl hl rfl (Nat.le_of_ble_eq_true rfl) dX11_sidesOf_15 ⟨Nat.le_of_ble_eq_true rfl, (Nat.le_of_ble_eq_true rfl)⟩ (fun _ _ _ _ _ h => h.elim) (fun v w ty1 H locs hp hh => ?_)
  obtain ⟨rfl, rfl, rfl⟩ := hp
  have hh : kH D kStr e0 A s H [(pa, .inr (16, [.int pt, .ref pr, .ref pp, .ref pi, .ref pl, .ref pf, .ref pm, .ref ps, .ref pe, .int 0, .int 0])), (q1, .inr (4, [.int 0, .ref e0.1, .int 0])), (pi, .inr (4, [.int 0, .ref e0.1, .int 0]))] [] _ := hh
  refine W.eq (g2 := F0 m 18 ls [.int 0, .int 0]) (by first | rfl | decide) ?_
  refine lv_icmp_ge (tgt := 85) hx hb dX11_sidesOf_18 (by decide) (fun _ => ?_) (fun c_18 => absurd (by decide) c_18)
  refine lv_aload_n hx hb dX11_sidesOf_85 rfl (lv_at hl 1 rfl) ?_
  refine lv_iload_n hx hb dX11_sidesOf_86 rfl (lv_at hl 0 rfl) ?_
  refine k_callS (wr := [(pa, .inr (16, [.int pt, .ref pr, .ref pp, .ref pi, .ref pl, .ref pf, .ref pm, .ref ps, .ref pe, .int 0, .int 0])), (q1, .inr (4, [.int 0, .ref e0.1, .int 0])), (pi, .inr (4, [.int 0, .ref e0.1, .int 0]))]) (rest := [.ref q1]) (own := RX11) ⟨hx, hb, hml, hown, hts⟩ (c_valueOf0 l hst D e0  ) (va_cwS 1 hts gi_c_X11_sidesOf_4 rfl rfl rfl (by decide +kernel) ⟨Nat.le_of_ble_eq_true rfl, Nat.le_of_ble_eq_true rfl⟩) hh [] [0, 1, 2] [] rfl rfl rfl rfl (by decide) rfl rfl hl rfl (Nat.le_of_ble_eq_true rfl) dX11_sidesOf_87 ⟨Nat.le_of_ble_eq_true rfl, (Nat.le_of_ble_eq_true rfl)⟩ (fun _ _ _ _ _ h => h.elim) (fun v w ty1 H locs hp hh => ?_)
  obtain ⟨rfl, rfl, rfl⟩ := hp
  have hh : kH D kStr e0 A s H [(pa, .inr (16, [.int pt, .ref pr, .ref pp, .ref pi, .ref pl, .ref pf, .ref pm, .ref ps, .ref pe, .int 0, .int 0])), (q1, .inr (4, [.int 0, .ref e0.1, .int 0])), (pi, .inr (4, [.int 0, .ref e0.1, .int 0]))] [] _ := hh
  refine W.eq (g2 := F0 m 90 ls [.ref e0.2.2, .ref q1]) (by first | rfl | decide) ?_
  refine k_callV (C := RJx4a65c) (T := TJx4a65c) (N := 3) (ci := 4) (q0 := 1) (wr := [(pa, .inr (16, [.int pt, .ref pr, .ref pp, .ref pi, .ref pl, .ref pf, .ref pm, .ref ps, .ref pe, .int 0, .int 0])), (pi, .inr (4, [.int 0, .ref e0.1, .int 0]))]) (rest := []) (own := RX11) ⟨hx, hb, hml, hown, hts⟩ (c_add_I l hst D e0 q1 ) (cwV 1 hts gi_c_X11_sidesOf_5 rfl rfl rfl (by decide +kernel) ⟨Nat.le_of_ble_eq_true rfl, Nat.le_of_ble_eq_true rfl⟩) hh rfl rfl [1] [0, 2] [] rfl rfl rfl rfl (by decide) rfl rfl hl rfl (Nat.le_of_ble_eq_true rfl) dX11_sidesOf_90 ⟨Nat.le_of_ble_eq_true rfl, (Nat.le_of_ble_eq_true rfl)⟩ (fun _ _ _ _ _ h => h.elim) (fun v w ty1 H locs hp hh => ?_)
  obtain ⟨q2, y3, rfl, rfl, rfl⟩ := hp
  have hh : kH D kStr e0 A s H [(pa, .inr (16, [.int pt, .ref pr, .ref pp, .ref pi, .ref pl, .ref pf, .ref pm, .ref ps, .ref pe, .int 0, .int 0])), (pi, .inr (4, [.int 0, .ref e0.1, .int 0])), (q1, .inr (4, [.int 1, .ref q2, .int 1])), (q2, .inl (y3, 10, .inr (.inr (.inr (.inr (va_up ((fun _ => none)) (0 : Int32).toNatClampNeg (some e0.2.2)))))))] [(y3, .object "java/lang/Object")] _ := hh
  refine W.eq (g2 := F0 m 93 ls [.int 1]) (by first | rfl | decide) ?_
  refine lv_pop hx hb dX11_sidesOf_93 rfl ?_
  refine lv_aload_n hx hb dX11_sidesOf_94 rfl (lv_at hl 1 rfl) ?_
  exact k_enda (by first | exact Or.inl ⟨_, rfl⟩ | exact Or.inr ⟨_, rfl⟩) (by first | exact Or.inr ⟨_, rfl⟩ | exact Or.inl rfl) hx hb hr hlocks hh ⟨q1, q2, rfl, rfl, rfl⟩ [0, 1, 2] [] rfl rfl rfl (Nat.le_of_ble_eq_true rfl) (Nat.le_of_ble_eq_true rfl) dX11_sidesOf_95
def wo_c_X11_noSides : List Cond := [Cond.constantLong RX11 181 99999, Cond.fieldLink RX11 46 "SegueworksModel" "thrown" "I"]
def wk_c_X11_noSides : List Cond := Cond.code yX11_noSides cX11_noSides 3 (some .boolean) :: (wo_c_X11_noSides ++ ((va_wsS RX11 54 yX11_in wk_c_X11_in_t) ++ ((wsV RX11 183 RX11 yX11_sidesOf wk_c_X11_sidesOf) ++ (u_ws RX11 TX11 11))))
theorem wo_c_X11_noSides_in : ∀ w ∈ wo_c_X11_noSides, w ∈ wk_c_X11_noSides := fun w h => List.mem_cons_of_mem _ (List.mem_append_left _ h)
theorem gi_c_X11_noSides_0 : GoodIn wk_c_X11_noSides (va_wsS RX11 54 yX11_in wk_c_X11_in_t) := fun w h => ⟨List.mem_cons_of_mem _ (List.mem_append_right _ (List.mem_append_left _ h)), good_of_word (kg_S gk_c_X11_in_t w h)⟩
theorem gi_c_X11_noSides_1 : GoodIn wk_c_X11_noSides (wsV RX11 183 RX11 yX11_sidesOf wk_c_X11_sidesOf) := fun w h => ⟨List.mem_cons_of_mem _ (List.mem_append_right _ (List.mem_append_right _ (List.mem_append_left _ h))), good_of_word (kg_V gk_c_X11_sidesOf w h)⟩
theorem ws_c_X11_noSides_2 : ∀ w ∈ u_ws RX11 TX11 11, w ∈ wk_c_X11_noSides := fun w h => List.mem_cons_of_mem _ (List.mem_append_right _ (List.mem_append_right _ (List.mem_append_right _ h)))
theorem gk_c_X11_noSides : ∀ w ∈ wk_c_X11_noSides, goodWord w = true := List.forall_mem_cons.mpr ⟨rfl, (List.forall_mem_append.mpr ⟨(show ∀ w ∈ wo_c_X11_noSides, goodWord w = true by decide +kernel), (List.forall_mem_append.mpr ⟨(kg_S gk_c_X11_in_t), (List.forall_mem_append.mpr ⟨(kg_V gk_c_X11_sidesOf), (show ∀ w ∈ u_ws RX11 TX11 11, goodWord w = true by decide +kernel)⟩)⟩)⟩)⟩
set_option maxHeartbeats 4000000 in
set_option maxRecDepth 100000 in
theorem c_X11_noSides (l : Launch) (hst : l.stackTraces = false) (D : va_G) (e0 : kE) (pa : Nat) (pt : Int32) (pr : Nat) (pp : Nat) (pi : Nat) (pl : Nat) (pf : Nat) (pm : Nat) (ps : Nat) (pe : Nat) (a1 : Int32) (h : 1 ≤ a1 ∧ a1 ≤ 99999) : kM l yX11_noSides wk_c_X11_noSides 6 140 2 13 D kStr e0 [] [(pa, .inr (16, [.int pt, .ref pr, .ref pp, .ref pi, .ref pl, .ref pf, .ref pm, .ref ps, .ref pe, .int 0, .int 0])), (pi, .inr (4, [.int 0, .ref e0.1, .int 0]))] [.ref pa, .int a1, .int 1] (fun v w t => v = some (.int 0) ∧ w = [(pa, .inr (16, [.int 0, .ref pr, .ref pp, .ref pi, .ref pl, .ref pf, .ref pm, .ref ps, .ref pe, .int 0, .int 0])), (pi, .inr (4, [.int 0, .ref e0.1, .int 0]))] ∧ t = []) (fun _ => False) := by
  refine k_of (cc := cX11_noSides) (maxL := 3) (ret := (some .boolean)) (by decide) rfl (Nat.le_of_ble_eq_true rfl) ?_
  intro p e s m args below meth c A ls hx hb hr hts hown hlocks hml hex hh hl
  have hown : s.vm.findClass RX11 = some m.cls := hown
  have hl : lv_has ls 3 [(0, .ref pa), (1, .int a1), (2, .int 1)] := hl
  refine lv_aload_n hx hb dX11_noSides_0 rfl (lv_at hl 0 rfl) ?_
  refine lv_iload_n hx hb dX11_noSides_1 rfl (lv_at hl 1 rfl) ?_
  refine lv_i2l (v := (Int32.toInt64 a1)) hx hb dX11_noSides_2 rfl ?_
  refine lv_lconst (v := 1) hx hb dX11_noSides_3 (by decide) ?_
  refine lv_ldc2 (v := 99999) hx hb hown (hts _ (wo_c_X11_noSides_in _ (List.mem_of_getElem? (i := 0) rfl))) dX11_noSides_4 ?_
  refine k_callS (wr := [(pa, .inr (16, [.int pt, .ref pr, .ref pp, .ref pi, .ref pl, .ref pf, .ref pm, .ref ps, .ref pe, .int 0, .int 0])), (pi, .inr (4, [.int 0, .ref e0.1, .int 0]))]) (rest := [.ref pa]) (own := RX11) ⟨hx, hb, hml, hown, hts⟩ (c_X11_in_t l hst D e0 ((Int32.toInt64 a1)) 1 99999 (k_rngT (by decide) (by decide) h)) (va_cwS 3 hts gi_c_X11_noSides_0 rfl rfl rfl (by decide +kernel) ⟨Nat.le_of_ble_eq_true rfl, Nat.le_of_ble_eq_true rfl⟩) hh [] [0, 1] [] rfl rfl rfl rfl (by decide) rfl rfl hl rfl (Nat.le_of_ble_eq_true rfl) dX11_noSides_7 ⟨Nat.le_of_ble_eq_true rfl, (Nat.le_of_ble_eq_true rfl)⟩ (fun _ _ _ _ _ h => h.elim) (fun v w ty1 H locs hp hh => ?_)
  obtain ⟨rfl, rfl, rfl⟩ := hp
  have hh : kH D kStr e0 A s H [(pa, .inr (16, [.int pt, .ref pr, .ref pp, .ref pi, .ref pl, .ref pf, .ref pm, .ref ps, .ref pe, .int 0, .int 0])), (pi, .inr (4, [.int 0, .ref e0.1, .int 0]))] [] _ := hh
  refine W.eq (g2 := F0 m 10 ls [.int 1, .ref pa]) (by first | rfl | decide) ?_
  refine lv_if_ne (tgt := 17) hx hb dX11_noSides_10 (by decide) (fun _ => ?_) (fun c_10 => absurd c_10 (by decide))
  refine lv_aload_n hx hb dX11_noSides_17 rfl (lv_at hl 0 rfl) ?_
  refine lv_iload_n hx hb dX11_noSides_18 rfl (lv_at hl 1 rfl) ?_
  refine k_callV (C := RX11) (T := TX11) (N := 11) (ci := 16) (q0 := 0) (wr := []) (rest := [.ref pa]) (own := RX11) ⟨hx, hb, hml, hown, hts⟩ (c_X11_sidesOf l hst D e0 pa pt pr pp pi pl pf pm ps pe a1 ) (cwV 1 hts gi_c_X11_noSides_1 rfl rfl rfl (by decide +kernel) ⟨Nat.le_of_ble_eq_true rfl, Nat.le_of_ble_eq_true rfl⟩) hh rfl rfl [0, 1] [] [] rfl rfl rfl rfl (by decide) rfl rfl hl rfl (Nat.le_of_ble_eq_true rfl) dX11_noSides_19 ⟨Nat.le_of_ble_eq_true rfl, (Nat.le_of_ble_eq_true rfl)⟩ (fun _ _ _ _ _ h => h.elim) (fun v w ty1 H locs hp hh => ?_)
  obtain ⟨q1, q2, rfl, rfl, rfl⟩ := hp
  have hh : kH D kStr e0 A s H [(pa, .inr (16, [.int pt, .ref pr, .ref pp, .ref pi, .ref pl, .ref pf, .ref pm, .ref ps, .ref pe, .int 0, .int 0])), (pi, .inr (4, [.int 0, .ref e0.1, .int 0])), (q1, .inr (4, [.int 1, .ref q2, .int 1]))] [] _ := hh
  refine W.eq (g2 := F0 m 22 ls [.ref q1, .ref pa]) (by first | rfl | decide) ?_
  refine lv_ifnonnull (tgt := 31) hx hb dX11_noSides_22 (by decide) ?_
  refine lv_iconst (v := 0) hx hb dX11_noSides_31 (by decide) ?_
  refine k_put (C := RX11) (T := TX11) (N := 11) (ci := 16) (v := .int 0) (ws' := [(pa, .inr (16, [.int 0, .ref pr, .ref pp, .ref pi, .ref pl, .ref pf, .ref pm, .ref ps, .ref pe, .int 0, .int 0])), (pi, .inr (4, [.int 0, .ref e0.1, .int 0])), (q1, .inr (4, [.int 1, .ref q2, .int 1]))]) hx hb hts ws_c_X11_noSides_2 tyX11 tyX11_ok nmX11 hown hh 0 rfl rfl 0 (by decide) (hts _ (wo_c_X11_noSides_in _ (List.mem_of_getElem? (i := 1) rfl))) rfl rfl rfl (Nat.le_of_ble_eq_true rfl) dX11_noSides_32 rfl (fun H locs hh => ?_)
  refine lv_aload_n hx hb dX11_noSides_35 rfl (lv_at hl 0 rfl) ?_
  refine k_get (C := RX11) (T := TX11) (N := 11) (ci := 16) (v := .int 0) hx hb hts ws_c_X11_noSides_2 hown hh 0 rfl rfl 0 (by decide) (hts _ (wo_c_X11_noSides_in _ (List.mem_of_getElem? (i := 1) rfl))) rfl dX11_noSides_36 ?_
  refine lv_if_le (tgt := 46) hx hb dX11_noSides_39 (by decide) (fun _ => ?_) (fun c_39 => absurd (by decide) c_39)
  refine lv_iconst (v := 0) hx hb dX11_noSides_46 (by decide) ?_
  exact k_endz (ty := .boolean) (by decide) hx hb hr hlocks hh ⟨rfl, rfl, rfl⟩ [0, 1] [] rfl rfl rfl (Nat.le_of_ble_eq_true rfl) (Nat.le_of_ble_eq_true rfl) dX11_noSides_47
def wo_c_X11_noSides_bad : List Cond := [Cond.constantLong RX11 181 99999, Cond.fieldLink RX11 46 "SegueworksModel" "thrown" "I"]
def wk_c_X11_noSides_bad : List Cond := Cond.code yX11_noSides cX11_noSides 3 (some .boolean) :: (wo_c_X11_noSides_bad ++ ((va_wsS RX11 54 yX11_in wk_c_X11_in_f) ++ (u_ws RX11 TX11 11)))
theorem wo_c_X11_noSides_bad_in : ∀ w ∈ wo_c_X11_noSides_bad, w ∈ wk_c_X11_noSides_bad := fun w h => List.mem_cons_of_mem _ (List.mem_append_left _ h)
theorem gi_c_X11_noSides_bad_0 : GoodIn wk_c_X11_noSides_bad (va_wsS RX11 54 yX11_in wk_c_X11_in_f) := fun w h => ⟨List.mem_cons_of_mem _ (List.mem_append_right _ (List.mem_append_left _ h)), good_of_word (kg_S gk_c_X11_in_f w h)⟩
theorem ws_c_X11_noSides_bad_1 : ∀ w ∈ u_ws RX11 TX11 11, w ∈ wk_c_X11_noSides_bad := fun w h => List.mem_cons_of_mem _ (List.mem_append_right _ (List.mem_append_right _ h))
theorem gk_c_X11_noSides_bad : ∀ w ∈ wk_c_X11_noSides_bad, goodWord w = true := List.forall_mem_cons.mpr ⟨rfl, (List.forall_mem_append.mpr ⟨(show ∀ w ∈ wo_c_X11_noSides_bad, goodWord w = true by decide +kernel), (List.forall_mem_append.mpr ⟨(kg_S gk_c_X11_in_f), (show ∀ w ∈ u_ws RX11 TX11 11, goodWord w = true by decide +kernel)⟩)⟩)⟩
set_option maxHeartbeats 4000000 in
set_option maxRecDepth 100000 in
theorem c_X11_noSides_bad (l : Launch) (hst : l.stackTraces = false) (D : va_G) (e0 : kE) (pa : Nat) (pt : Int32) (pr : Nat) (pp : Nat) (pi : Nat) (pl : Nat) (pf : Nat) (pm : Nat) (ps : Nat) (pe : Nat) (a1 : Int32) (h : ¬ (1 ≤ a1 ∧ a1 ≤ 99999)) : kM l yX11_noSides wk_c_X11_noSides_bad 1 25 0 0 D kStr e0 [] [(pa, .inr (16, [.int pt, .ref pr, .ref pp, .ref pi, .ref pl, .ref pf, .ref pm, .ref ps, .ref pe, .int 0, .int 0]))] [.ref pa, .int a1, .int 1] (fun v w t => v = some (.int 1) ∧ w = [(pa, .inr (16, [.int 1, .ref pr, .ref pp, .ref pi, .ref pl, .ref pf, .ref pm, .ref ps, .ref pe, .int 0, .int 0]))] ∧ t = []) (fun _ => False) := by
  refine k_of (cc := cX11_noSides) (maxL := 3) (ret := (some .boolean)) (by decide) rfl (Nat.le_of_ble_eq_true rfl) ?_
  intro p e s m args below meth c A ls hx hb hr hts hown hlocks hml hex hh hl
  have hown : s.vm.findClass RX11 = some m.cls := hown
  have hl : lv_has ls 3 [(0, .ref pa), (1, .int a1), (2, .int 1)] := hl
  refine lv_aload_n hx hb dX11_noSides_0 rfl (lv_at hl 0 rfl) ?_
  refine lv_iload_n hx hb dX11_noSides_1 rfl (lv_at hl 1 rfl) ?_
  refine lv_i2l (v := (Int32.toInt64 a1)) hx hb dX11_noSides_2 rfl ?_
  refine lv_lconst (v := 1) hx hb dX11_noSides_3 (by decide) ?_
  refine lv_ldc2 (v := 99999) hx hb hown (hts _ (wo_c_X11_noSides_bad_in _ (List.mem_of_getElem? (i := 0) rfl))) dX11_noSides_4 ?_
  refine k_callS (wr := [(pa, .inr (16, [.int pt, .ref pr, .ref pp, .ref pi, .ref pl, .ref pf, .ref pm, .ref ps, .ref pe, .int 0, .int 0]))]) (rest := [.ref pa]) (own := RX11) ⟨hx, hb, hml, hown, hts⟩ (c_X11_in_f l hst D e0 ((Int32.toInt64 a1)) 1 99999 (k_rngF (by decide) (by decide) h)) (va_cwS 3 hts gi_c_X11_noSides_bad_0 rfl rfl rfl (by decide +kernel) ⟨Nat.le_of_ble_eq_true rfl, Nat.le_of_ble_eq_true rfl⟩) hh [] [0] [] rfl rfl rfl rfl (by decide) rfl rfl hl rfl (Nat.le_of_ble_eq_true rfl) dX11_noSides_7 ⟨Nat.le_of_ble_eq_true rfl, (Nat.le_of_ble_eq_true rfl)⟩ (fun _ _ _ _ _ h => h.elim) (fun v w ty1 H locs hp hh => ?_)
  obtain ⟨rfl, rfl, rfl⟩ := hp
  have hh : kH D kStr e0 A s H [(pa, .inr (16, [.int pt, .ref pr, .ref pp, .ref pi, .ref pl, .ref pf, .ref pm, .ref ps, .ref pe, .int 0, .int 0]))] [] _ := hh
  refine W.eq (g2 := F0 m 10 ls [.int 0, .ref pa]) (by first | rfl | decide) ?_
  refine lv_if_ne (tgt := 17) hx hb dX11_noSides_10 (by decide) (fun c_10 => absurd (by decide) c_10) (fun _ => ?_)
  refine lv_iload_n hx hb dX11_noSides_13 rfl (lv_at hl 2 rfl) ?_
  refine lv_goto (tgt := 32) hx hb dX11_noSides_14 (by decide) ?_
  refine k_put (C := RX11) (T := TX11) (N := 11) (ci := 16) (v := .int 1) (ws' := [(pa, .inr (16, [.int 1, .ref pr, .ref pp, .ref pi, .ref pl, .ref pf, .ref pm, .ref ps, .ref pe, .int 0, .int 0]))]) hx hb hts ws_c_X11_noSides_bad_1 tyX11 tyX11_ok nmX11 hown hh 0 rfl rfl 0 (by decide) (hts _ (wo_c_X11_noSides_bad_in _ (List.mem_of_getElem? (i := 1) rfl))) rfl rfl rfl (Nat.le_of_ble_eq_true rfl) dX11_noSides_32 rfl (fun H locs hh => ?_)
  refine lv_aload_n hx hb dX11_noSides_35 rfl (lv_at hl 0 rfl) ?_
  refine k_get (C := RX11) (T := TX11) (N := 11) (ci := 16) (v := .int 1) hx hb hts ws_c_X11_noSides_bad_1 hown hh 0 rfl rfl 0 (by decide) (hts _ (wo_c_X11_noSides_bad_in _ (List.mem_of_getElem? (i := 1) rfl))) rfl dX11_noSides_36 ?_
  refine lv_if_le (tgt := 46) hx hb dX11_noSides_39 (by decide) (fun c_39 => absurd c_39 (by decide)) (fun _ => ?_)
  refine lv_iconst (v := 1) hx hb dX11_noSides_42 (by decide) ?_
  refine lv_goto (tgt := 47) hx hb dX11_noSides_43 (by decide) ?_
  exact k_endz (ty := .boolean) (by decide) hx hb hr hlocks hh ⟨rfl, rfl, rfl⟩ [0] [] rfl rfl rfl (Nat.le_of_ble_eq_true rfl) (Nat.le_of_ble_eq_true rfl) dX11_noSides_47
def wo_c_X11_sides : List Cond := []
def wk_c_X11_sides : List Cond := Cond.code yX11_sides cX11_sides 2 (some .int) :: (wo_c_X11_sides ++ ((wsV RX11 187 RX11 yX11_noSides wk_c_X11_noSides) ++ ((wsV RX11 183 RX11 yX11_sidesOf wk_c_X11_sidesOf) ++ (wsV RX11 50 RJx4a65c yJx4a65c_size_8abf5 wk_c_size))))
theorem wo_c_X11_sides_in : ∀ w ∈ wo_c_X11_sides, w ∈ wk_c_X11_sides := fun w h => List.mem_cons_of_mem _ (List.mem_append_left _ h)
theorem gi_c_X11_sides_0 : GoodIn wk_c_X11_sides (wsV RX11 187 RX11 yX11_noSides wk_c_X11_noSides) := fun w h => ⟨List.mem_cons_of_mem _ (List.mem_append_right _ (List.mem_append_left _ h)), good_of_word (kg_V gk_c_X11_noSides w h)⟩
theorem gi_c_X11_sides_1 : GoodIn wk_c_X11_sides (wsV RX11 183 RX11 yX11_sidesOf wk_c_X11_sidesOf) := fun w h => ⟨List.mem_cons_of_mem _ (List.mem_append_right _ (List.mem_append_right _ (List.mem_append_left _ h))), good_of_word (kg_V gk_c_X11_sidesOf w h)⟩
theorem gi_c_X11_sides_2 : GoodIn wk_c_X11_sides (wsV RX11 50 RJx4a65c yJx4a65c_size_8abf5 wk_c_size) := fun w h => ⟨List.mem_cons_of_mem _ (List.mem_append_right _ (List.mem_append_right _ (List.mem_append_right _ h))), good_of_word (kg_V gk_c_size w h)⟩
theorem gk_c_X11_sides : ∀ w ∈ wk_c_X11_sides, goodWord w = true := List.forall_mem_cons.mpr ⟨rfl, (List.forall_mem_append.mpr ⟨(show ∀ w ∈ wo_c_X11_sides, goodWord w = true by decide +kernel), (List.forall_mem_append.mpr ⟨(kg_V gk_c_X11_noSides), (List.forall_mem_append.mpr ⟨(kg_V gk_c_X11_sidesOf), (kg_V gk_c_size)⟩)⟩)⟩)⟩
set_option maxHeartbeats 4000000 in
set_option maxRecDepth 100000 in
theorem c_X11_sides (l : Launch) (hst : l.stackTraces = false) (D : va_G) (e0 : kE) (pa : Nat) (pt : Int32) (pr : Nat) (pp : Nat) (pi : Nat) (pl : Nat) (pf : Nat) (pm : Nat) (ps : Nat) (pe : Nat) (a1 : Int32) (h : 1 ≤ a1 ∧ a1 ≤ 99999) : kM l yX11_sides wk_c_X11_sides 7 162 4 26 D kStr e0 [] [(pa, .inr (16, [.int pt, .ref pr, .ref pp, .ref pi, .ref pl, .ref pf, .ref pm, .ref ps, .ref pe, .int 0, .int 0])), (pi, .inr (4, [.int 0, .ref e0.1, .int 0]))] [.ref pa, .int a1] (fun v w t => v = some (.int 0) ∧ w = [(pa, .inr (16, [.int 0, .ref pr, .ref pp, .ref pi, .ref pl, .ref pf, .ref pm, .ref ps, .ref pe, .int 0, .int 0]))] ∧ t = []) (fun _ => False) := by
  refine k_of (cc := cX11_sides) (maxL := 2) (ret := (some .int)) (by decide) rfl (Nat.le_of_ble_eq_true rfl) ?_
  intro p e s m args below meth c A ls hx hb hr hts hown hlocks hml hex hh hl
  have hown : s.vm.findClass RX11 = some m.cls := hown
  have hl : lv_has ls 2 [(0, .ref pa), (1, .int a1)] := hl
  refine lv_aload_n hx hb dX11_sides_0 rfl (lv_at hl 0 rfl) ?_
  refine lv_iload_n hx hb dX11_sides_1 rfl (lv_at hl 1 rfl) ?_
  refine lv_iconst (v := 1) hx hb dX11_sides_2 (by decide) ?_
  refine k_callV (C := RX11) (T := TX11) (N := 11) (ci := 16) (q0 := 0) (wr := []) (rest := []) (own := RX11) ⟨hx, hb, hml, hown, hts⟩ (c_X11_noSides l hst D e0 pa pt pr pp pi pl pf pm ps pe a1 h) (cwV 2 hts gi_c_X11_sides_0 rfl rfl rfl (by decide +kernel) ⟨Nat.le_of_ble_eq_true rfl, Nat.le_of_ble_eq_true rfl⟩) hh rfl rfl [0, 1] [] [] rfl rfl rfl rfl (by decide) rfl rfl hl rfl (Nat.le_of_ble_eq_true rfl) dX11_sides_3 ⟨Nat.le_of_ble_eq_true rfl, (Nat.le_of_ble_eq_true rfl)⟩ (fun _ _ _ _ _ h => h.elim) (fun v w ty1 H locs hp hh => ?_)
  obtain ⟨rfl, rfl, rfl⟩ := hp
  have hh : kH D kStr e0 A s H [(pa, .inr (16, [.int 0, .ref pr, .ref pp, .ref pi, .ref pl, .ref pf, .ref pm, .ref ps, .ref pe, .int 0, .int 0])), (pi, .inr (4, [.int 0, .ref e0.1, .int 0]))] [] _ := hh
  refine W.eq (g2 := F0 m 6 ls [.int 0]) (by first | rfl | decide) ?_
  refine lv_if_eq (tgt := 13) hx hb dX11_sides_6 (by decide) (fun _ => ?_) (fun c_6 => absurd (by decide) c_6)
  refine lv_aload_n hx hb dX11_sides_13 rfl (lv_at hl 0 rfl) ?_
  refine lv_iload_n hx hb dX11_sides_14 rfl (lv_at hl 1 rfl) ?_
  refine k_callV (C := RX11) (T := TX11) (N := 11) (ci := 16) (q0 := 0) (wr := []) (rest := []) (own := RX11) ⟨hx, hb, hml, hown, hts⟩ (c_X11_sidesOf l hst D e0 pa 0 pr pp pi pl pf pm ps pe a1 ) (cwV 1 hts gi_c_X11_sides_1 rfl rfl rfl (by decide +kernel) ⟨Nat.le_of_ble_eq_true rfl, Nat.le_of_ble_eq_true rfl⟩) hh rfl rfl [0, 1] [] [] rfl rfl rfl rfl (by decide) rfl rfl hl rfl (Nat.le_of_ble_eq_true rfl) dX11_sides_15 ⟨Nat.le_of_ble_eq_true rfl, (Nat.le_of_ble_eq_true rfl)⟩ (fun _ _ _ _ _ h => h.elim) (fun v w ty1 H locs hp hh => ?_)
  obtain ⟨q1, q2, rfl, rfl, rfl⟩ := hp
  have hh : kH D kStr e0 A s H [(pa, .inr (16, [.int 0, .ref pr, .ref pp, .ref pi, .ref pl, .ref pf, .ref pm, .ref ps, .ref pe, .int 0, .int 0])), (pi, .inr (4, [.int 0, .ref e0.1, .int 0])), (q1, .inr (4, [.int 1, .ref q2, .int 1]))] [] _ := hh
  refine W.eq (g2 := F0 m 18 ls [.ref q1]) (by first | rfl | decide) ?_
  refine k_callV (C := RJx4a65c) (T := TJx4a65c) (N := 3) (ci := 4) (q0 := 2) (wr := [(pa, .inr (16, [.int 0, .ref pr, .ref pp, .ref pi, .ref pl, .ref pf, .ref pm, .ref ps, .ref pe, .int 0, .int 0])), (pi, .inr (4, [.int 0, .ref e0.1, .int 0]))]) (rest := []) (own := RX11) ⟨hx, hb, hml, hown, hts⟩ (c_size l hst D e0 q1 1 (.ref q2) 1 ) (cwV 0 hts gi_c_X11_sides_2 rfl rfl rfl (by decide +kernel) ⟨Nat.le_of_ble_eq_true rfl, Nat.le_of_ble_eq_true rfl⟩) hh rfl rfl [2] [0, 1] [] rfl rfl rfl rfl (by decide) rfl rfl hl rfl (Nat.le_of_ble_eq_true rfl) dX11_sides_18 ⟨Nat.le_of_ble_eq_true rfl, (Nat.le_of_ble_eq_true rfl)⟩ (fun _ _ _ _ _ h => h.elim) (fun v w ty1 H locs hp hh => ?_)
  obtain ⟨rfl, rfl, rfl⟩ := hp
  have hh : kH D kStr e0 A s H [(pa, .inr (16, [.int 0, .ref pr, .ref pp, .ref pi, .ref pl, .ref pf, .ref pm, .ref ps, .ref pe, .int 0, .int 0])), (pi, .inr (4, [.int 0, .ref e0.1, .int 0])), (q1, .inr (4, [.int 1, .ref q2, .int 1]))] [] _ := hh
  refine W.eq (g2 := F0 m 21 ls [.int 1]) (by first | rfl | decide) ?_
  refine lv_iconst (v := 1) hx hb dX11_sides_21 (by decide) ?_
  refine lv_isub hx hb dX11_sides_22 ?_
  refine W.eq (g2 := F0 m 23 ls [.int 0]) (by first | rfl | decide) ?_
  exact k_endi hx hb hr hlocks hh ⟨rfl, rfl, rfl⟩ [0] [] rfl rfl rfl (Nat.le_of_ble_eq_true rfl) (Nat.le_of_ble_eq_true rfl) dX11_sides_23
def wo_c_X11_sides_bad : List Cond := []
def wk_c_X11_sides_bad : List Cond := Cond.code yX11_sides cX11_sides 2 (some .int) :: (wo_c_X11_sides_bad ++ (wsV RX11 187 RX11 yX11_noSides wk_c_X11_noSides_bad))
theorem wo_c_X11_sides_bad_in : ∀ w ∈ wo_c_X11_sides_bad, w ∈ wk_c_X11_sides_bad := fun w h => List.mem_cons_of_mem _ (List.mem_append_left _ h)
theorem gi_c_X11_sides_bad_0 : GoodIn wk_c_X11_sides_bad (wsV RX11 187 RX11 yX11_noSides wk_c_X11_noSides_bad) := fun w h => ⟨List.mem_cons_of_mem _ (List.mem_append_right _ h), good_of_word (kg_V gk_c_X11_noSides_bad w h)⟩
theorem gk_c_X11_sides_bad : ∀ w ∈ wk_c_X11_sides_bad, goodWord w = true := List.forall_mem_cons.mpr ⟨rfl, (List.forall_mem_append.mpr ⟨(show ∀ w ∈ wo_c_X11_sides_bad, goodWord w = true by decide +kernel), (kg_V gk_c_X11_noSides_bad)⟩)⟩
set_option maxHeartbeats 4000000 in
set_option maxRecDepth 100000 in
theorem c_X11_sides_bad (l : Launch) (hst : l.stackTraces = false) (D : va_G) (e0 : kE) (pa : Nat) (pt : Int32) (pr : Nat) (pp : Nat) (pi : Nat) (pl : Nat) (pf : Nat) (pm : Nat) (ps : Nat) (pe : Nat) (a1 : Int32) (h : ¬ (1 ≤ a1 ∧ a1 ≤ 99999)) : kM l yX11_sides wk_c_X11_sides_bad 2 47 0 0 D kStr e0 [] [(pa, .inr (16, [.int pt, .ref pr, .ref pp, .ref pi, .ref pl, .ref pf, .ref pm, .ref ps, .ref pe, .int 0, .int 0]))] [.ref pa, .int a1] (fun v w t => v = some (.int 0) ∧ w = [(pa, .inr (16, [.int 1, .ref pr, .ref pp, .ref pi, .ref pl, .ref pf, .ref pm, .ref ps, .ref pe, .int 0, .int 0]))] ∧ t = []) (fun _ => False) := by
  refine k_of (cc := cX11_sides) (maxL := 2) (ret := (some .int)) (by decide) rfl (Nat.le_of_ble_eq_true rfl) ?_
  intro p e s m args below meth c A ls hx hb hr hts hown hlocks hml hex hh hl
  have hown : s.vm.findClass RX11 = some m.cls := hown
  have hl : lv_has ls 2 [(0, .ref pa), (1, .int a1)] := hl
  refine lv_aload_n hx hb dX11_sides_0 rfl (lv_at hl 0 rfl) ?_
  refine lv_iload_n hx hb dX11_sides_1 rfl (lv_at hl 1 rfl) ?_
  refine lv_iconst (v := 1) hx hb dX11_sides_2 (by decide) ?_
  refine k_callV (C := RX11) (T := TX11) (N := 11) (ci := 16) (q0 := 0) (wr := []) (rest := []) (own := RX11) ⟨hx, hb, hml, hown, hts⟩ (c_X11_noSides_bad l hst D e0 pa pt pr pp pi pl pf pm ps pe a1 h) (cwV 2 hts gi_c_X11_sides_bad_0 rfl rfl rfl (by decide +kernel) ⟨Nat.le_of_ble_eq_true rfl, Nat.le_of_ble_eq_true rfl⟩) hh rfl rfl [0] [] [] rfl rfl rfl rfl (by decide) rfl rfl hl rfl (Nat.le_of_ble_eq_true rfl) dX11_sides_3 ⟨Nat.le_of_ble_eq_true rfl, (Nat.le_of_ble_eq_true rfl)⟩ (fun _ _ _ _ _ h => h.elim) (fun v w ty1 H locs hp hh => ?_)
  obtain ⟨rfl, rfl, rfl⟩ := hp
  have hh : kH D kStr e0 A s H [(pa, .inr (16, [.int 1, .ref pr, .ref pp, .ref pi, .ref pl, .ref pf, .ref pm, .ref ps, .ref pe, .int 0, .int 0]))] [] _ := hh
  refine W.eq (g2 := F0 m 6 ls [.int 1]) (by first | rfl | decide) ?_
  refine lv_if_eq (tgt := 13) hx hb dX11_sides_6 (by decide) (fun c_6 => absurd c_6 (by decide)) (fun _ => ?_)
  refine lv_iconst (v := 0) hx hb dX11_sides_9 (by decide) ?_
  refine lv_goto (tgt := 23) hx hb dX11_sides_10 (by decide) ?_
  exact k_endi hx hb hr hlocks hh ⟨rfl, rfl, rfl⟩ [0] [] rfl rfl rfl (Nat.le_of_ble_eq_true rfl) (Nat.le_of_ble_eq_true rfl) dX11_sides_23
def wo_c_X11_engrave : List Cond := [Cond.fieldLink RX11 46 "SegueworksModel" "thrown" "I"]
def wk_c_X11_engrave : List Cond := Cond.code yX11_engrave cX11_engrave 9 (some .int) :: (wo_c_X11_engrave ++ ((wsV RX11 187 RX11 yX11_noSides wk_c_X11_noSides) ++ ((wsV RX11 183 RX11 yX11_sidesOf wk_c_X11_sidesOf) ++ ((wsV RX11 50 RJx4a65c yJx4a65c_size_8abf5 wk_c_size) ++ ((va_wsS RX11 54 yX11_in wk_c_X11_in_f) ++ (u_ws RX11 TX11 11))))))
theorem wo_c_X11_engrave_in : ∀ w ∈ wo_c_X11_engrave, w ∈ wk_c_X11_engrave := fun w h => List.mem_cons_of_mem _ (List.mem_append_left _ h)
theorem gi_c_X11_engrave_0 : GoodIn wk_c_X11_engrave (wsV RX11 187 RX11 yX11_noSides wk_c_X11_noSides) := fun w h => ⟨List.mem_cons_of_mem _ (List.mem_append_right _ (List.mem_append_left _ h)), good_of_word (kg_V gk_c_X11_noSides w h)⟩
theorem gi_c_X11_engrave_1 : GoodIn wk_c_X11_engrave (wsV RX11 183 RX11 yX11_sidesOf wk_c_X11_sidesOf) := fun w h => ⟨List.mem_cons_of_mem _ (List.mem_append_right _ (List.mem_append_right _ (List.mem_append_left _ h))), good_of_word (kg_V gk_c_X11_sidesOf w h)⟩
theorem gi_c_X11_engrave_2 : GoodIn wk_c_X11_engrave (wsV RX11 50 RJx4a65c yJx4a65c_size_8abf5 wk_c_size) := fun w h => ⟨List.mem_cons_of_mem _ (List.mem_append_right _ (List.mem_append_right _ (List.mem_append_right _ (List.mem_append_left _ h)))), good_of_word (kg_V gk_c_size w h)⟩
theorem gi_c_X11_engrave_3 : GoodIn wk_c_X11_engrave (va_wsS RX11 54 yX11_in wk_c_X11_in_f) := fun w h => ⟨List.mem_cons_of_mem _ (List.mem_append_right _ (List.mem_append_right _ (List.mem_append_right _ (List.mem_append_right _ (List.mem_append_left _ h))))), good_of_word (kg_S gk_c_X11_in_f w h)⟩
theorem ws_c_X11_engrave_4 : ∀ w ∈ u_ws RX11 TX11 11, w ∈ wk_c_X11_engrave := fun w h => List.mem_cons_of_mem _ (List.mem_append_right _ (List.mem_append_right _ (List.mem_append_right _ (List.mem_append_right _ (List.mem_append_right _ h)))))
theorem gk_c_X11_engrave : ∀ w ∈ wk_c_X11_engrave, goodWord w = true := List.forall_mem_cons.mpr ⟨rfl, (List.forall_mem_append.mpr ⟨(show ∀ w ∈ wo_c_X11_engrave, goodWord w = true by decide +kernel), (List.forall_mem_append.mpr ⟨(kg_V gk_c_X11_noSides), (List.forall_mem_append.mpr ⟨(kg_V gk_c_X11_sidesOf), (List.forall_mem_append.mpr ⟨(kg_V gk_c_size), (List.forall_mem_append.mpr ⟨(kg_S gk_c_X11_in_f), (show ∀ w ∈ u_ws RX11 TX11 11, goodWord w = true by decide +kernel)⟩)⟩)⟩)⟩)⟩)⟩
set_option maxHeartbeats 4000000 in
set_option maxRecDepth 100000 in
theorem c_X11_engrave (l : Launch) (hst : l.stackTraces = false) (D : va_G) (e0 : kE) (pa : Nat) (pt : Int32) (pr : Nat) (pp : Nat) (pi : Nat) (pl : Nat) (pf : Nat) (pm : Nat) (ps : Nat) (pe : Nat) (a1 : Int32) (a2 : Int32) (h : 1 ≤ a2 ∧ a2 ≤ 99999) : kM l yX11_engrave wk_c_X11_engrave 7 162 4 26 D kStr e0 [] [(pa, .inr (16, [.int pt, .ref pr, .ref pp, .ref pi, .ref pl, .ref pf, .ref pm, .ref ps, .ref pe, .int 0, .int 0])), (pi, .inr (4, [.int 0, .ref e0.1, .int 0]))] [.ref pa, .int a1, .int a2] (fun v w t => v = some (.int 0) ∧ w = [(pa, .inr (16, [.int 3, .ref pr, .ref pp, .ref pi, .ref pl, .ref pf, .ref pm, .ref ps, .ref pe, .int 0, .int 0]))] ∧ t = []) (fun _ => False) := by
  refine k_of (cc := cX11_engrave) (maxL := 9) (ret := (some .int)) (by decide) rfl (Nat.le_of_ble_eq_true rfl) ?_
  intro p e s m args below meth c A ls hx hb hr hts hown hlocks hml hex hh hl
  have hown : s.vm.findClass RX11 = some m.cls := hown
  have hl : lv_has ls 9 [(0, .ref pa), (1, .int a1), (2, .int a2)] := hl
  refine lv_aload_n hx hb dX11_engrave_0 rfl (lv_at hl 0 rfl) ?_
  refine lv_iload_n hx hb dX11_engrave_1 rfl (lv_at hl 2 rfl) ?_
  refine lv_iconst (v := 1) hx hb dX11_engrave_2 (by decide) ?_
  refine k_callV (C := RX11) (T := TX11) (N := 11) (ci := 16) (q0 := 0) (wr := []) (rest := []) (own := RX11) ⟨hx, hb, hml, hown, hts⟩ (c_X11_noSides l hst D e0 pa pt pr pp pi pl pf pm ps pe a2 h) (cwV 2 hts gi_c_X11_engrave_0 rfl rfl rfl (by decide +kernel) ⟨Nat.le_of_ble_eq_true rfl, Nat.le_of_ble_eq_true rfl⟩) hh rfl rfl [0, 1] [] [] rfl rfl rfl rfl (by decide) rfl rfl hl rfl (Nat.le_of_ble_eq_true rfl) dX11_engrave_3 ⟨Nat.le_of_ble_eq_true rfl, (Nat.le_of_ble_eq_true rfl)⟩ (fun _ _ _ _ _ h => h.elim) (fun v w ty1 H locs hp hh => ?_)
  obtain ⟨rfl, rfl, rfl⟩ := hp
  have hh : kH D kStr e0 A s H [(pa, .inr (16, [.int 0, .ref pr, .ref pp, .ref pi, .ref pl, .ref pf, .ref pm, .ref ps, .ref pe, .int 0, .int 0])), (pi, .inr (4, [.int 0, .ref e0.1, .int 0]))] [] _ := hh
  refine W.eq (g2 := F0 m 6 ls [.int 0]) (by first | rfl | decide) ?_
  refine lv_if_eq (tgt := 11) hx hb dX11_engrave_6 (by decide) (fun _ => ?_) (fun c_6 => absurd (by decide) c_6)
  refine lv_aload_n hx hb dX11_engrave_11 rfl (lv_at hl 0 rfl) ?_
  refine lv_iload_n hx hb dX11_engrave_12 rfl (lv_at hl 2 rfl) ?_
  refine k_callV (C := RX11) (T := TX11) (N := 11) (ci := 16) (q0 := 0) (wr := []) (rest := []) (own := RX11) ⟨hx, hb, hml, hown, hts⟩ (c_X11_sidesOf l hst D e0 pa 0 pr pp pi pl pf pm ps pe a2 ) (cwV 1 hts gi_c_X11_engrave_1 rfl rfl rfl (by decide +kernel) ⟨Nat.le_of_ble_eq_true rfl, Nat.le_of_ble_eq_true rfl⟩) hh rfl rfl [0, 1] [] [] rfl rfl rfl rfl (by decide) rfl rfl hl rfl (Nat.le_of_ble_eq_true rfl) dX11_engrave_13 ⟨Nat.le_of_ble_eq_true rfl, (Nat.le_of_ble_eq_true rfl)⟩ (fun _ _ _ _ _ h => h.elim) (fun v w ty1 H locs hp hh => ?_)
  obtain ⟨q1, q2, rfl, rfl, rfl⟩ := hp
  have hh : kH D kStr e0 A s H [(pa, .inr (16, [.int 0, .ref pr, .ref pp, .ref pi, .ref pl, .ref pf, .ref pm, .ref ps, .ref pe, .int 0, .int 0])), (pi, .inr (4, [.int 0, .ref e0.1, .int 0])), (q1, .inr (4, [.int 1, .ref q2, .int 1]))] [] _ := hh
  refine W.eq (g2 := F0 m 16 ls [.ref q1]) (by first | rfl | decide) ?_
  refine lv_astore_n (lv' := [(3, .ref q1), (0, .ref pa), (1, .int a1), (2, .int a2)]) hx hb dX11_engrave_16 rfl hl (by decide) rfl (fun ls hl => ?_)
  refine lv_aload_n hx hb dX11_engrave_17 rfl (lv_at hl 1 rfl) ?_
  refine lv_iload_n hx hb dX11_engrave_18 rfl (lv_at hl 2 rfl) ?_
  refine lv_i2l (v := (Int32.toInt64 a1)) hx hb dX11_engrave_19 rfl ?_
  refine lv_lconst (v := 0) hx hb dX11_engrave_20 (by decide) ?_
  refine lv_aload_n hx hb dX11_engrave_21 rfl (lv_at hl 0 rfl) ?_
  refine k_callV (C := RJx4a65c) (T := TJx4a65c) (N := 3) (ci := 4) (q0 := 2) (wr := [(pa, .inr (16, [.int 0, .ref pr, .ref pp, .ref pi, .ref pl, .ref pf, .ref pm, .ref ps, .ref pe, .int 0, .int 0])), (pi, .inr (4, [.int 0, .ref e0.1, .int 0]))]) (rest := [.long 0, .long (Int32.toInt64 a1), .ref pa]) (own := RX11) ⟨hx, hb, hml, hown, hts⟩ (c_size l hst D e0 q1 1 (.ref q2) 1 ) (cwV 0 hts gi_c_X11_engrave_2 rfl rfl rfl (by decide +kernel) ⟨Nat.le_of_ble_eq_true rfl, Nat.le_of_ble_eq_true rfl⟩) hh rfl rfl [2] [0, 1] [] rfl rfl rfl rfl (by decide) rfl rfl hl rfl (Nat.le_of_ble_eq_true rfl) dX11_engrave_22 ⟨Nat.le_of_ble_eq_true rfl, (Nat.le_of_ble_eq_true rfl)⟩ (fun _ _ _ _ _ h => h.elim) (fun v w ty1 H locs hp hh => ?_)
  obtain ⟨rfl, rfl, rfl⟩ := hp
  have hh : kH D kStr e0 A s H [(pa, .inr (16, [.int 0, .ref pr, .ref pp, .ref pi, .ref pl, .ref pf, .ref pm, .ref ps, .ref pe, .int 0, .int 0])), (pi, .inr (4, [.int 0, .ref e0.1, .int 0])), (q1, .inr (4, [.int 1, .ref q2, .int 1]))] [] _ := hh
  refine W.eq (g2 := F0 m 25 ls [.int 1, .long 0, .long (Int32.toInt64 a1), .ref pa]) (by first | rfl | decide) ?_
  refine lv_iconst (v := 2) hx hb dX11_engrave_25 (by decide) ?_
  refine lv_isub hx hb dX11_engrave_26 ?_
  refine W.eq (g2 := F0 m 27 ls [.int (-1), .long 0, .long (Int32.toInt64 a1), .ref pa]) (by first | rfl | decide) ?_
  refine lv_i2l (v := (-1)) hx hb dX11_engrave_27 (by decide) ?_
  refine k_callS (wr := [(pa, .inr (16, [.int 0, .ref pr, .ref pp, .ref pi, .ref pl, .ref pf, .ref pm, .ref ps, .ref pe, .int 0, .int 0])), (pi, .inr (4, [.int 0, .ref e0.1, .int 0])), (q1, .inr (4, [.int 1, .ref q2, .int 1]))]) (rest := [.ref pa]) (own := RX11) ⟨hx, hb, hml, hown, hts⟩ (c_X11_in_f l hst D e0 ((Int32.toInt64 a1)) 0 (-1) (k_empty _)) (va_cwS 3 hts gi_c_X11_engrave_3 rfl rfl rfl (by decide +kernel) ⟨Nat.le_of_ble_eq_true rfl, Nat.le_of_ble_eq_true rfl⟩) hh [] [0, 1, 2] [] rfl rfl rfl rfl (by decide) rfl rfl hl rfl (Nat.le_of_ble_eq_true rfl) dX11_engrave_28 ⟨Nat.le_of_ble_eq_true rfl, (Nat.le_of_ble_eq_true rfl)⟩ (fun _ _ _ _ _ h => h.elim) (fun v w ty1 H locs hp hh => ?_)
  obtain ⟨rfl, rfl, rfl⟩ := hp
  have hh : kH D kStr e0 A s H [(pa, .inr (16, [.int 0, .ref pr, .ref pp, .ref pi, .ref pl, .ref pf, .ref pm, .ref ps, .ref pe, .int 0, .int 0])), (pi, .inr (4, [.int 0, .ref e0.1, .int 0])), (q1, .inr (4, [.int 1, .ref q2, .int 1]))] [] _ := hh
  refine W.eq (g2 := F0 m 31 ls [.int 0, .ref pa]) (by first | rfl | decide) ?_
  refine lv_if_ne (tgt := 38) hx hb dX11_engrave_31 (by decide) (fun c_31 => absurd (by decide) c_31) (fun _ => ?_)
  refine lv_iconst (v := 3) hx hb dX11_engrave_34 (by decide) ?_
  refine lv_goto (tgt := 55) hx hb dX11_engrave_35 (by decide) ?_
  refine k_put (C := RX11) (T := TX11) (N := 11) (ci := 16) (v := .int 3) (ws' := [(pa, .inr (16, [.int 3, .ref pr, .ref pp, .ref pi, .ref pl, .ref pf, .ref pm, .ref ps, .ref pe, .int 0, .int 0])), (pi, .inr (4, [.int 0, .ref e0.1, .int 0])), (q1, .inr (4, [.int 1, .ref q2, .int 1]))]) hx hb hts ws_c_X11_engrave_4 tyX11 tyX11_ok nmX11 hown hh 0 rfl rfl 0 (by decide) (hts _ (wo_c_X11_engrave_in _ (List.mem_of_getElem? (i := 0) rfl))) rfl rfl rfl (Nat.le_of_ble_eq_true rfl) dX11_engrave_55 rfl (fun H locs hh => ?_)
  refine lv_aload_n hx hb dX11_engrave_58 rfl (lv_at hl 1 rfl) ?_
  refine k_get (C := RX11) (T := TX11) (N := 11) (ci := 16) (v := .int 3) hx hb hts ws_c_X11_engrave_4 hown hh 0 rfl rfl 0 (by decide) (hts _ (wo_c_X11_engrave_in _ (List.mem_of_getElem? (i := 0) rfl))) rfl dX11_engrave_59 ?_
  refine lv_if_le (tgt := 67) hx hb dX11_engrave_62 (by decide) (fun c_62 => absurd c_62 (by decide)) (fun _ => ?_)
  refine lv_iconst (v := 0) hx hb dX11_engrave_65 (by decide) ?_
  exact k_endi hx hb hr hlocks hh ⟨rfl, rfl, rfl⟩ [0] [] rfl rfl rfl (Nat.le_of_ble_eq_true rfl) (Nat.le_of_ble_eq_true rfl) dX11_engrave_66
def wo_c_X11_engrave_bad : List Cond := []
def wk_c_X11_engrave_bad : List Cond := Cond.code yX11_engrave cX11_engrave 9 (some .int) :: (wo_c_X11_engrave_bad ++ (wsV RX11 187 RX11 yX11_noSides wk_c_X11_noSides_bad))
theorem wo_c_X11_engrave_bad_in : ∀ w ∈ wo_c_X11_engrave_bad, w ∈ wk_c_X11_engrave_bad := fun w h => List.mem_cons_of_mem _ (List.mem_append_left _ h)
theorem gi_c_X11_engrave_bad_0 : GoodIn wk_c_X11_engrave_bad (wsV RX11 187 RX11 yX11_noSides wk_c_X11_noSides_bad) := fun w h => ⟨List.mem_cons_of_mem _ (List.mem_append_right _ h), good_of_word (kg_V gk_c_X11_noSides_bad w h)⟩
theorem gk_c_X11_engrave_bad : ∀ w ∈ wk_c_X11_engrave_bad, goodWord w = true := List.forall_mem_cons.mpr ⟨rfl, (List.forall_mem_append.mpr ⟨(show ∀ w ∈ wo_c_X11_engrave_bad, goodWord w = true by decide +kernel), (kg_V gk_c_X11_noSides_bad)⟩)⟩
set_option maxHeartbeats 4000000 in
set_option maxRecDepth 100000 in
theorem c_X11_engrave_bad (l : Launch) (hst : l.stackTraces = false) (D : va_G) (e0 : kE) (pa : Nat) (pt : Int32) (pr : Nat) (pp : Nat) (pi : Nat) (pl : Nat) (pf : Nat) (pm : Nat) (ps : Nat) (pe : Nat) (a1 : Int32) (a2 : Int32) (h : ¬ (1 ≤ a2 ∧ a2 ≤ 99999)) : kM l yX11_engrave wk_c_X11_engrave_bad 2 47 0 0 D kStr e0 [] [(pa, .inr (16, [.int pt, .ref pr, .ref pp, .ref pi, .ref pl, .ref pf, .ref pm, .ref ps, .ref pe, .int 0, .int 0]))] [.ref pa, .int a1, .int a2] (fun v w t => v = some (.int 0) ∧ w = [(pa, .inr (16, [.int 1, .ref pr, .ref pp, .ref pi, .ref pl, .ref pf, .ref pm, .ref ps, .ref pe, .int 0, .int 0]))] ∧ t = []) (fun _ => False) := by
  refine k_of (cc := cX11_engrave) (maxL := 9) (ret := (some .int)) (by decide) rfl (Nat.le_of_ble_eq_true rfl) ?_
  intro p e s m args below meth c A ls hx hb hr hts hown hlocks hml hex hh hl
  have hown : s.vm.findClass RX11 = some m.cls := hown
  have hl : lv_has ls 9 [(0, .ref pa), (1, .int a1), (2, .int a2)] := hl
  refine lv_aload_n hx hb dX11_engrave_0 rfl (lv_at hl 0 rfl) ?_
  refine lv_iload_n hx hb dX11_engrave_1 rfl (lv_at hl 2 rfl) ?_
  refine lv_iconst (v := 1) hx hb dX11_engrave_2 (by decide) ?_
  refine k_callV (C := RX11) (T := TX11) (N := 11) (ci := 16) (q0 := 0) (wr := []) (rest := []) (own := RX11) ⟨hx, hb, hml, hown, hts⟩ (c_X11_noSides_bad l hst D e0 pa pt pr pp pi pl pf pm ps pe a2 h) (cwV 2 hts gi_c_X11_engrave_bad_0 rfl rfl rfl (by decide +kernel) ⟨Nat.le_of_ble_eq_true rfl, Nat.le_of_ble_eq_true rfl⟩) hh rfl rfl [0] [] [] rfl rfl rfl rfl (by decide) rfl rfl hl rfl (Nat.le_of_ble_eq_true rfl) dX11_engrave_3 ⟨Nat.le_of_ble_eq_true rfl, (Nat.le_of_ble_eq_true rfl)⟩ (fun _ _ _ _ _ h => h.elim) (fun v w ty1 H locs hp hh => ?_)
  obtain ⟨rfl, rfl, rfl⟩ := hp
  have hh : kH D kStr e0 A s H [(pa, .inr (16, [.int 1, .ref pr, .ref pp, .ref pi, .ref pl, .ref pf, .ref pm, .ref ps, .ref pe, .int 0, .int 0]))] [] _ := hh
  refine W.eq (g2 := F0 m 6 ls [.int 1]) (by first | rfl | decide) ?_
  refine lv_if_eq (tgt := 11) hx hb dX11_engrave_6 (by decide) (fun c_6 => absurd c_6 (by decide)) (fun _ => ?_)
  refine lv_iconst (v := 0) hx hb dX11_engrave_9 (by decide) ?_
  exact k_endi hx hb hr hlocks hh ⟨rfl, rfl, rfl⟩ [0] [] rfl rfl rfl (Nat.le_of_ble_eq_true rfl) (Nat.le_of_ble_eq_true rfl) dX11_engrave_10
def wo_c_X11_shuffled : List Cond := [Cond.constantLong RX11 128 2147483646, Cond.fieldLink RX11 46 "SegueworksModel" "thrown" "I", Cond.classLink RX11 16 RJx4a65c, Cond.instantiable RJx4a65c 3, Cond.initialized RJx4a65c, Cond.methodLink RX11 18 yJx4a65c_init_da8c8, Cond.instanceMethod yJx4a65c_init_da8c8, Cond.fieldLink RX11 28 "SegueworksModel" "items" "Ljava/util/ArrayList;"]
def wk_c_X11_shuffled : List Cond := Cond.code yX11_shuffled cX11_shuffled 10 (some .int) :: (wo_c_X11_shuffled ++ ((va_wsS RX11 54 yX11_in wk_c_X11_in_t) ++ ((u_ws RX11 TX11 11) ++ ((u_ws RJx4a65c TJx4a65c 3) ++ ((wk_c_Jx4a65c_init_da8c8) ++ ((wsV RX11 50 RJx4a65c yJx4a65c_size_8abf5 wk_c_size) ++ ((wsV RX11 262 RJx4a65c yJx4a65c_iterator_32c93 wk_c_iterator) ++ ((va_wsF RX11 266 RJx35411 kHN yJx35411_hasNext_aae02 wk_c_hasNext) ++ (va_wsS RX11 54 yX11_in wk_c_X11_in_f)))))))))
theorem wo_c_X11_shuffled_in : ∀ w ∈ wo_c_X11_shuffled, w ∈ wk_c_X11_shuffled := fun w h => List.mem_cons_of_mem _ (List.mem_append_left _ h)
theorem gi_c_X11_shuffled_0 : GoodIn wk_c_X11_shuffled (va_wsS RX11 54 yX11_in wk_c_X11_in_t) := fun w h => ⟨List.mem_cons_of_mem _ (List.mem_append_right _ (List.mem_append_left _ h)), good_of_word (kg_S gk_c_X11_in_t w h)⟩
theorem ws_c_X11_shuffled_1 : ∀ w ∈ u_ws RX11 TX11 11, w ∈ wk_c_X11_shuffled := fun w h => List.mem_cons_of_mem _ (List.mem_append_right _ (List.mem_append_right _ (List.mem_append_left _ h)))
theorem ws_c_X11_shuffled_2 : ∀ w ∈ u_ws RJx4a65c TJx4a65c 3, w ∈ wk_c_X11_shuffled := fun w h => List.mem_cons_of_mem _ (List.mem_append_right _ (List.mem_append_right _ (List.mem_append_right _ (List.mem_append_left _ h))))
theorem gi_c_X11_shuffled_3 : GoodIn wk_c_X11_shuffled (wk_c_Jx4a65c_init_da8c8) := fun w h => ⟨List.mem_cons_of_mem _ (List.mem_append_right _ (List.mem_append_right _ (List.mem_append_right _ (List.mem_append_right _ (List.mem_append_left _ h))))), good_of_word (gk_c_Jx4a65c_init_da8c8 w h)⟩
theorem gi_c_X11_shuffled_4 : GoodIn wk_c_X11_shuffled (wsV RX11 50 RJx4a65c yJx4a65c_size_8abf5 wk_c_size) := fun w h => ⟨List.mem_cons_of_mem _ (List.mem_append_right _ (List.mem_append_right _ (List.mem_append_right _ (List.mem_append_right _ (List.mem_append_right _ (List.mem_append_left _ h)))))), good_of_word (kg_V gk_c_size w h)⟩
theorem gi_c_X11_shuffled_5 : GoodIn wk_c_X11_shuffled (wsV RX11 262 RJx4a65c yJx4a65c_iterator_32c93 wk_c_iterator) := fun w h => ⟨List.mem_cons_of_mem _ (List.mem_append_right _ (List.mem_append_right _ (List.mem_append_right _ (List.mem_append_right _ (List.mem_append_right _ (List.mem_append_right _ (List.mem_append_left _ h))))))), good_of_word (kg_V gk_c_iterator w h)⟩
theorem gi_c_X11_shuffled_6 : GoodIn wk_c_X11_shuffled (va_wsF RX11 266 RJx35411 kHN yJx35411_hasNext_aae02 wk_c_hasNext) := fun w h => ⟨List.mem_cons_of_mem _ (List.mem_append_right _ (List.mem_append_right _ (List.mem_append_right _ (List.mem_append_right _ (List.mem_append_right _ (List.mem_append_right _ (List.mem_append_right _ (List.mem_append_left _ h)))))))), good_of_word (kg_F gk_c_hasNext w h)⟩
theorem gi_c_X11_shuffled_7 : GoodIn wk_c_X11_shuffled (va_wsS RX11 54 yX11_in wk_c_X11_in_f) := fun w h => ⟨List.mem_cons_of_mem _ (List.mem_append_right _ (List.mem_append_right _ (List.mem_append_right _ (List.mem_append_right _ (List.mem_append_right _ (List.mem_append_right _ (List.mem_append_right _ (List.mem_append_right _ h)))))))), good_of_word (kg_S gk_c_X11_in_f w h)⟩
theorem gk_c_X11_shuffled : ∀ w ∈ wk_c_X11_shuffled, goodWord w = true := List.forall_mem_cons.mpr ⟨rfl, (List.forall_mem_append.mpr ⟨(show ∀ w ∈ wo_c_X11_shuffled, goodWord w = true by decide +kernel), (List.forall_mem_append.mpr ⟨(kg_S gk_c_X11_in_t), (List.forall_mem_append.mpr ⟨(show ∀ w ∈ u_ws RX11 TX11 11, goodWord w = true by decide +kernel), (List.forall_mem_append.mpr ⟨(show ∀ w ∈ u_ws RJx4a65c TJx4a65c 3, goodWord w = true by decide +kernel), (List.forall_mem_append.mpr ⟨gk_c_Jx4a65c_init_da8c8, (List.forall_mem_append.mpr ⟨(kg_V gk_c_size), (List.forall_mem_append.mpr ⟨(kg_V gk_c_iterator), (List.forall_mem_append.mpr ⟨(kg_F gk_c_hasNext), (kg_S gk_c_X11_in_f)⟩)⟩)⟩)⟩)⟩)⟩)⟩)⟩)⟩
set_option maxHeartbeats 4000000 in
set_option maxRecDepth 100000 in
theorem c_X11_shuffled (l : Launch) (hst : l.stackTraces = false) (D : va_G) (e0 : kE) (pa : Nat) (pt : Int32) (pr : Nat) (pp : Nat) (pi : Nat) (pl : Nat) (pf : Nat) (pm : Nat) (ps : Nat) (pe : Nat) (a1 : Int32) (a2 : Int32) (h : 1 ≤ a1 ∧ a1 ≤ 2147483646) : kM l yX11_shuffled wk_c_X11_shuffled 4 80 3 10 D kStr e0 [] [(pa, .inr (16, [.int pt, .ref pr, .ref pp, .ref pi, .ref pl, .ref pf, .ref pm, .ref ps, .ref pe, .int 0, .int 0])), (pi, .inr (4, [.int 0, .ref e0.1, .int 0]))] [.ref pa, .int a1, .int a2] (fun v w t => v = some (.int 0) ∧ w = [(pa, .inr (16, [.int 2, .ref pr, .ref pp, .ref pi, .ref pl, .ref pf, .ref pm, .ref ps, .ref pe, .int 0, .int 0]))] ∧ t = []) (fun _ => False) := by
  refine k_of (cc := cX11_shuffled) (maxL := 10) (ret := (some .int)) (by decide) rfl (Nat.le_of_ble_eq_true rfl) ?_
  intro p e s m args below meth c A ls hx hb hr hts hown hlocks hml hex hh hl
  have hown : s.vm.findClass RX11 = some m.cls := hown
  have hl : lv_has ls 10 [(0, .ref pa), (1, .int a1), (2, .int a2)] := hl
  refine lv_aload_n hx hb dX11_shuffled_0 rfl (lv_at hl 0 rfl) ?_
  refine lv_iload_n hx hb dX11_shuffled_1 rfl (lv_at hl 1 rfl) ?_
  refine lv_i2l (v := (Int32.toInt64 a1)) hx hb dX11_shuffled_2 rfl ?_
  refine lv_lconst (v := 1) hx hb dX11_shuffled_3 (by decide) ?_
  refine lv_ldc2 (v := 2147483646) hx hb hown (hts _ (wo_c_X11_shuffled_in _ (List.mem_of_getElem? (i := 0) rfl))) dX11_shuffled_4 ?_
  refine k_callS (wr := [(pa, .inr (16, [.int pt, .ref pr, .ref pp, .ref pi, .ref pl, .ref pf, .ref pm, .ref ps, .ref pe, .int 0, .int 0])), (pi, .inr (4, [.int 0, .ref e0.1, .int 0]))]) (rest := [.ref pa]) (own := RX11) ⟨hx, hb, hml, hown, hts⟩ (c_X11_in_t l hst D e0 ((Int32.toInt64 a1)) 1 2147483646 (k_rngT (by decide) (by decide) h)) (va_cwS 3 hts gi_c_X11_shuffled_0 rfl rfl rfl (by decide +kernel) ⟨Nat.le_of_ble_eq_true rfl, Nat.le_of_ble_eq_true rfl⟩) hh [] [0, 1] [] rfl rfl rfl rfl (by decide) rfl rfl hl rfl (Nat.le_of_ble_eq_true rfl) dX11_shuffled_7 ⟨Nat.le_of_ble_eq_true rfl, (Nat.le_of_ble_eq_true rfl)⟩ (fun _ _ _ _ _ h => h.elim) (fun v w ty1 H locs hp hh => ?_)
  obtain ⟨rfl, rfl, rfl⟩ := hp
  have hh : kH D kStr e0 A s H [(pa, .inr (16, [.int pt, .ref pr, .ref pp, .ref pi, .ref pl, .ref pf, .ref pm, .ref ps, .ref pe, .int 0, .int 0])), (pi, .inr (4, [.int 0, .ref e0.1, .int 0]))] [] _ := hh
  refine W.eq (g2 := F0 m 10 ls [.int 1, .ref pa]) (by first | rfl | decide) ?_
  refine lv_if_eq (tgt := 17) hx hb dX11_shuffled_10 (by decide) (fun c_10 => absurd c_10 (by decide)) (fun _ => ?_)
  refine lv_iconst (v := 0) hx hb dX11_shuffled_13 (by decide) ?_
  refine lv_goto (tgt := 18) hx hb dX11_shuffled_14 (by decide) ?_
  refine k_put (C := RX11) (T := TX11) (N := 11) (ci := 16) (v := .int 0) (ws' := [(pa, .inr (16, [.int 0, .ref pr, .ref pp, .ref pi, .ref pl, .ref pf, .ref pm, .ref ps, .ref pe, .int 0, .int 0])), (pi, .inr (4, [.int 0, .ref e0.1, .int 0]))]) hx hb hts ws_c_X11_shuffled_1 tyX11 tyX11_ok nmX11 hown hh 0 rfl rfl 0 (by decide) (hts _ (wo_c_X11_shuffled_in _ (List.mem_of_getElem? (i := 1) rfl))) rfl rfl rfl (Nat.le_of_ble_eq_true rfl) dX11_shuffled_18 rfl (fun H locs hh => ?_)
  refine lv_aload_n hx hb dX11_shuffled_21 rfl (lv_at hl 0 rfl) ?_
  refine k_get (C := RX11) (T := TX11) (N := 11) (ci := 16) (v := .int 0) hx hb hts ws_c_X11_shuffled_1 hown hh 0 rfl rfl 0 (by decide) (hts _ (wo_c_X11_shuffled_in _ (List.mem_of_getElem? (i := 1) rfl))) rfl dX11_shuffled_22 ?_
  refine lv_if_le (tgt := 30) hx hb dX11_shuffled_25 (by decide) (fun _ => ?_) (fun c_25 => absurd (by decide) c_25)
  refine k_new (C := RJx4a65c) (T := TJx4a65c) (N := 3) (ci := 4) (fs := [.int 0, .null, .int 0]) hx hb hts ws_c_X11_shuffled_2 tyJx4a65c tyJx4a65c_ok hown (hts _ (wo_c_X11_shuffled_in _ (List.mem_of_getElem? (i := 2) rfl))) (hts _ (wo_c_X11_shuffled_in _ (List.mem_of_getElem? (i := 3) rfl))) (hts _ (wo_c_X11_shuffled_in _ (List.mem_of_getElem? (i := 4) rfl))) hh rfl (fun j hj => by rcases (show j = 0 ∨ j = 1 ∨ j = 2 by omega) with rfl | rfl | rfl <;> rfl) (Nat.le_of_ble_eq_true rfl) (Nat.le_of_ble_eq_true rfl) dX11_shuffled_30 (fun q1 H hh => ?_)
  have hh : kH D kStr e0 A s H [(pa, .inr (16, [.int 0, .ref pr, .ref pp, .ref pi, .ref pl, .ref pf, .ref pm, .ref ps, .ref pe, .int 0, .int 0])), (pi, .inr (4, [.int 0, .ref e0.1, .int 0])), (q1, .inr (4, [.int 0, .null, .int 0]))] [] _ := hh
  refine lv_dup hx hb dX11_shuffled_33 rfl ?_
  refine k_callI (wr := [(pa, .inr (16, [.int 0, .ref pr, .ref pp, .ref pi, .ref pl, .ref pf, .ref pm, .ref ps, .ref pe, .int 0, .int 0])), (pi, .inr (4, [.int 0, .ref e0.1, .int 0]))]) (rest := [.ref q1]) (own := RX11) ⟨hx, hb, hml, hown, hts⟩ (c_Jx4a65c_init_da8c8 l hst D e0 q1 ) (cwI 0 hts gi_c_X11_shuffled_3 rfl rfl rfl (hts _ (wo_c_X11_shuffled_in _ (List.mem_of_getElem? (i := 4) rfl))) (hts _ (wo_c_X11_shuffled_in _ (List.mem_of_getElem? (i := 5) rfl))) (hts _ (wo_c_X11_shuffled_in _ (List.mem_of_getElem? (i := 6) rfl))) rfl (by decide +kernel) ⟨Nat.le_of_ble_eq_true rfl, Nat.le_of_ble_eq_true rfl⟩) hh [2] [0, 1] [] rfl rfl rfl rfl (by decide) rfl rfl hl rfl (Nat.le_of_ble_eq_true rfl) dX11_shuffled_34 ⟨Nat.le_of_ble_eq_true rfl, (Nat.le_of_ble_eq_true rfl)⟩ (fun v w ty1 H locs hp hh => ?_)
  obtain ⟨rfl, rfl, rfl⟩ := hp
  have hh : kH D kStr e0 A s H [(pa, .inr (16, [.int 0, .ref pr, .ref pp, .ref pi, .ref pl, .ref pf, .ref pm, .ref ps, .ref pe, .int 0, .int 0])), (pi, .inr (4, [.int 0, .ref e0.1, .int 0])), (q1, .inr (4, [.int 0, .ref e0.1, .int 0]))] [] _ := hh
  refine W.eq (g2 := F0 m 37 ls [.ref q1]) (by first | rfl | decide) ?_
  refine lv_astore_n (lv' := [(3, .ref q1), (0, .ref pa), (1, .int a1), (2, .int a2)]) hx hb dX11_shuffled_37 rfl hl (by decide) rfl (fun ls hl => ?_)
  refine lv_iconst (v := 0) hx hb dX11_shuffled_38 (by decide) ?_
  refine lv_istore (lv' := [(4, .int 0), (3, .ref q1), (0, .ref pa), (1, .int a1), (2, .int a2)]) hx hb dX11_shuffled_39 hl (by decide) rfl (fun ls hl => ?_)
  refine lv_iload hx hb dX11_shuffled_41 (lv_at hl 0 rfl) ?_
  refine lv_aload_n hx hb dX11_shuffled_43 rfl (lv_at hl 2 rfl) ?_
  refine k_get (C := RX11) (T := TX11) (N := 11) (ci := 16) (v := .ref pi) hx hb hts ws_c_X11_shuffled_1 hown hh 0 rfl rfl 3 (by decide) (hts _ (wo_c_X11_shuffled_in _ (List.mem_of_getElem? (i := 7) rfl))) rfl dX11_shuffled_44 ?_
  refine k_callV (C := RJx4a65c) (T := TJx4a65c) (N := 3) (ci := 4) (q0 := 1) (wr := [(pa, .inr (16, [.int 0, .ref pr, .ref pp, .ref pi, .ref pl, .ref pf, .ref pm, .ref ps, .ref pe, .int 0, .int 0])), (q1, .inr (4, [.int 0, .ref e0.1, .int 0]))]) (rest := [.int 0]) (own := RX11) ⟨hx, hb, hml, hown, hts⟩ (c_size l hst D e0 pi 0 (.ref e0.1) 0 ) (cwV 0 hts gi_c_X11_shuffled_4 rfl rfl rfl (by decide +kernel) ⟨Nat.le_of_ble_eq_true rfl, Nat.le_of_ble_eq_true rfl⟩) hh rfl rfl [1] [0, 2] [] rfl rfl rfl rfl (by decide) rfl rfl hl rfl (Nat.le_of_ble_eq_true rfl) dX11_shuffled_47 ⟨Nat.le_of_ble_eq_true rfl, (Nat.le_of_ble_eq_true rfl)⟩ (fun _ _ _ _ _ h => h.elim) (fun v w ty1 H locs hp hh => ?_)
  obtain ⟨rfl, rfl, rfl⟩ := hp
  have hh : kH D kStr e0 A s H [(pa, .inr (16, [.int 0, .ref pr, .ref pp, .ref pi, .ref pl, .ref pf, .ref pm, .ref ps, .ref pe, .int 0, .int 0])), (q1, .inr (4, [.int 0, .ref e0.1, .int 0])), (pi, .inr (4, [.int 0, .ref e0.1, .int 0]))] [] _ := hh
  refine W.eq (g2 := F0 m 50 ls [.int 0, .int 0]) (by first | rfl | decide) ?_
  refine lv_icmp_ge (tgt := 74) hx hb dX11_shuffled_50 (by decide) (fun _ => ?_) (fun c_50 => absurd (by decide) c_50)
  refine lv_iload_n hx hb dX11_shuffled_74 rfl (lv_at hl 3 rfl) ?_
  refine lv_i2l (v := (Int32.toInt64 a1)) hx hb dX11_shuffled_75 rfl ?_
  refine lv_lstore (lv' := [(4, .long (Int32.toInt64 a1)), (3, .ref q1), (0, .ref pa), (1, .int a1), (2, .int a2)]) hx hb dX11_shuffled_76 hl (by decide) rfl (fun ls hl => ?_)
  refine lv_aload_n hx hb dX11_shuffled_78 rfl (lv_at hl 1 rfl) ?_
  refine k_callV (C := RJx4a65c) (T := TJx4a65c) (N := 3) (ci := 4) (q0 := 1) (wr := [(pa, .inr (16, [.int 0, .ref pr, .ref pp, .ref pi, .ref pl, .ref pf, .ref pm, .ref ps, .ref pe, .int 0, .int 0])), (pi, .inr (4, [.int 0, .ref e0.1, .int 0]))]) (rest := []) (own := RX11) ⟨hx, hb, hml, hown, hts⟩ (c_size l hst D e0 q1 0 (.ref e0.1) 0 ) (cwV 0 hts gi_c_X11_shuffled_4 rfl rfl rfl (by decide +kernel) ⟨Nat.le_of_ble_eq_true rfl, Nat.le_of_ble_eq_true rfl⟩) hh rfl rfl [1] [0, 2] [] rfl rfl rfl rfl (by decide) rfl rfl hl rfl (Nat.le_of_ble_eq_true rfl) dX11_shuffled_79 ⟨Nat.le_of_ble_eq_true rfl, (Nat.le_of_ble_eq_true rfl)⟩ (fun _ _ _ _ _ h => h.elim) (fun v w ty1 H locs hp hh => ?_)
  obtain ⟨rfl, rfl, rfl⟩ := hp
  have hh : kH D kStr e0 A s H [(pa, .inr (16, [.int 0, .ref pr, .ref pp, .ref pi, .ref pl, .ref pf, .ref pm, .ref ps, .ref pe, .int 0, .int 0])), (pi, .inr (4, [.int 0, .ref e0.1, .int 0])), (q1, .inr (4, [.int 0, .ref e0.1, .int 0]))] [] _ := hh
  refine W.eq (g2 := F0 m 82 ls [.int 0]) (by first | rfl | decide) ?_
  refine lv_iconst (v := 1) hx hb dX11_shuffled_82 (by decide) ?_
  refine lv_isub hx hb dX11_shuffled_83 ?_
  refine W.eq (g2 := F0 m 84 ls [.int (-1)]) (by first | rfl | decide) ?_
  refine lv_istore (lv' := [(6, .int (-1)), (4, .long (Int32.toInt64 a1)), (3, .ref q1), (0, .ref pa), (1, .int a1), (2, .int a2)]) hx hb dX11_shuffled_84 hl (by decide) rfl (fun ls hl => ?_)
  refine lv_iload hx hb dX11_shuffled_86 (lv_at hl 0 rfl) ?_
  refine lv_if_le (tgt := 162) hx hb dX11_shuffled_88 (by decide) (fun _ => ?_) (fun c_88 => absurd (by decide) c_88)
  refine k_new (C := RJx4a65c) (T := TJx4a65c) (N := 3) (ci := 4) (fs := [.int 0, .null, .int 0]) hx hb hts ws_c_X11_shuffled_2 tyJx4a65c tyJx4a65c_ok hown (hts _ (wo_c_X11_shuffled_in _ (List.mem_of_getElem? (i := 2) rfl))) (hts _ (wo_c_X11_shuffled_in _ (List.mem_of_getElem? (i := 3) rfl))) (hts _ (wo_c_X11_shuffled_in _ (List.mem_of_getElem? (i := 4) rfl))) hh rfl (fun j hj => by rcases (show j = 0 ∨ j = 1 ∨ j = 2 by omega) with rfl | rfl | rfl <;> rfl) (Nat.le_of_ble_eq_true rfl) (Nat.le_of_ble_eq_true rfl) dX11_shuffled_162 (fun q2 H hh => ?_)
  have hh : kH D kStr e0 A s H [(pa, .inr (16, [.int 0, .ref pr, .ref pp, .ref pi, .ref pl, .ref pf, .ref pm, .ref ps, .ref pe, .int 0, .int 0])), (pi, .inr (4, [.int 0, .ref e0.1, .int 0])), (q1, .inr (4, [.int 0, .ref e0.1, .int 0])), (q2, .inr (4, [.int 0, .null, .int 0]))] [] _ := hh
  refine lv_dup hx hb dX11_shuffled_165 rfl ?_
  refine k_callI (wr := [(pa, .inr (16, [.int 0, .ref pr, .ref pp, .ref pi, .ref pl, .ref pf, .ref pm, .ref ps, .ref pe, .int 0, .int 0])), (pi, .inr (4, [.int 0, .ref e0.1, .int 0])), (q1, .inr (4, [.int 0, .ref e0.1, .int 0]))]) (rest := [.ref q2]) (own := RX11) ⟨hx, hb, hml, hown, hts⟩ (c_Jx4a65c_init_da8c8 l hst D e0 q2 ) (cwI 0 hts gi_c_X11_shuffled_3 rfl rfl rfl (hts _ (wo_c_X11_shuffled_in _ (List.mem_of_getElem? (i := 4) rfl))) (hts _ (wo_c_X11_shuffled_in _ (List.mem_of_getElem? (i := 5) rfl))) (hts _ (wo_c_X11_shuffled_in _ (List.mem_of_getElem? (i := 6) rfl))) rfl (by decide +kernel) ⟨Nat.le_of_ble_eq_true rfl, Nat.le_of_ble_eq_true rfl⟩) hh [3] [0, 1, 2] [] rfl rfl rfl rfl (by decide) rfl rfl hl rfl (Nat.le_of_ble_eq_true rfl) dX11_shuffled_166 ⟨Nat.le_of_ble_eq_true rfl, (Nat.le_of_ble_eq_true rfl)⟩ (fun v w ty1 H locs hp hh => ?_)
  obtain ⟨rfl, rfl, rfl⟩ := hp
  have hh : kH D kStr e0 A s H [(pa, .inr (16, [.int 0, .ref pr, .ref pp, .ref pi, .ref pl, .ref pf, .ref pm, .ref ps, .ref pe, .int 0, .int 0])), (pi, .inr (4, [.int 0, .ref e0.1, .int 0])), (q1, .inr (4, [.int 0, .ref e0.1, .int 0])), (q2, .inr (4, [.int 0, .ref e0.1, .int 0]))] [] _ := hh
  refine W.eq (g2 := F0 m 169 ls [.ref q2]) (by first | rfl | decide) ?_
  refine lv_astore (lv' := [(6, .ref q2), (4, .long (Int32.toInt64 a1)), (3, .ref q1), (0, .ref pa), (1, .int a1), (2, .int a2)]) hx hb dX11_shuffled_169 hl (by decide) rfl (fun ls hl => ?_)
  refine lv_aload_n hx hb dX11_shuffled_171 rfl (lv_at hl 2 rfl) ?_
  refine k_callV (C := RJx4a65c) (T := TJx4a65c) (N := 3) (ci := 4) (q0 := 2) (wr := [(pa, .inr (16, [.int 0, .ref pr, .ref pp, .ref pi, .ref pl, .ref pf, .ref pm, .ref ps, .ref pe, .int 0, .int 0])), (pi, .inr (4, [.int 0, .ref e0.1, .int 0])), (q2, .inr (4, [.int 0, .ref e0.1, .int 0]))]) (rest := []) (own := RX11) ⟨hx, hb, hml, hown, hts⟩ (c_iterator l hst D e0 q1 0 (.ref e0.1) 0 ) (cwV 0 hts gi_c_X11_shuffled_5 rfl rfl rfl (by decide +kernel) ⟨Nat.le_of_ble_eq_true rfl, Nat.le_of_ble_eq_true rfl⟩) hh rfl rfl [2] [0, 1, 3] [] rfl rfl rfl rfl (by decide) rfl rfl hl rfl (Nat.le_of_ble_eq_true rfl) dX11_shuffled_172 ⟨Nat.le_of_ble_eq_true rfl, (Nat.le_of_ble_eq_true rfl)⟩ (fun _ _ _ _ _ h => h.elim) (fun v w ty1 H locs hp hh => ?_)
  obtain ⟨q3, rfl, rfl, rfl⟩ := hp
  have hh : kH D kStr e0 A s H [(pa, .inr (16, [.int 0, .ref pr, .ref pp, .ref pi, .ref pl, .ref pf, .ref pm, .ref ps, .ref pe, .int 0, .int 0])), (pi, .inr (4, [.int 0, .ref e0.1, .int 0])), (q2, .inr (4, [.int 0, .ref e0.1, .int 0])), (q1, .inr (4, [.int 0, .ref e0.1, .int 0])), (q3, .inr (3, [.int 0, .int (-1), .int 0, .ref q1]))] [] _ := hh
  refine W.eq (g2 := F0 m 175 ls [.ref q3]) (by first | rfl | decide) ?_
  refine lv_astore (lv' := [(7, .ref q3), (6, .ref q2), (4, .long (Int32.toInt64 a1)), (3, .ref q1), (0, .ref pa), (1, .int a1), (2, .int a2)]) hx hb dX11_shuffled_175 hl (by decide) rfl (fun ls hl => ?_)
  refine lv_aload hx hb dX11_shuffled_177 (lv_at hl 0 rfl) ?_
  refine k_callF (C := RJx35411) (T := TJx35411) (N := 4) (ci := 3) (q0 := 4) (x := kHN) (wr := [(pa, .inr (16, [.int 0, .ref pr, .ref pp, .ref pi, .ref pl, .ref pf, .ref pm, .ref ps, .ref pe, .int 0, .int 0])), (pi, .inr (4, [.int 0, .ref e0.1, .int 0])), (q2, .inr (4, [.int 0, .ref e0.1, .int 0]))]) (rest := []) (own := RX11) ⟨hx, hb, hml, hown, hts⟩ (c_hasNext l hst D e0 q3 (-1) 0 q1 0 (.ref e0.1) ) (va_cwF 0 hts gi_c_X11_shuffled_6 rfl rfl rfl hh.2.2.2.2.2.2.2.2.2.2.2.2.2.1 (by decide +kernel) ⟨Nat.le_of_ble_eq_true rfl, Nat.le_of_ble_eq_true rfl⟩) hh rfl rfl [4, 3] [0, 1, 2] [] rfl rfl rfl rfl (by decide) rfl rfl hl rfl (Nat.le_of_ble_eq_true rfl) dX11_shuffled_179 ⟨Nat.le_of_ble_eq_true rfl, (Nat.le_of_ble_eq_true rfl)⟩ (fun v w ty1 H locs hp hh => ?_)
  obtain ⟨rfl, rfl, rfl⟩ := hp
  have hh : kH D kStr e0 A s H [(pa, .inr (16, [.int 0, .ref pr, .ref pp, .ref pi, .ref pl, .ref pf, .ref pm, .ref ps, .ref pe, .int 0, .int 0])), (pi, .inr (4, [.int 0, .ref e0.1, .int 0])), (q2, .inr (4, [.int 0, .ref e0.1, .int 0])), (q3, .inr (3, [.int 0, .int (-1), .int 0, .ref q1])), (q1, .inr (4, [.int 0, .ref e0.1, .int 0]))] [] _ := hh
  refine W.eq (g2 := F0 m 184 ls [.int 0]) (by first | rfl | decide) ?_
  refine lv_if_eq (tgt := 237) hx hb dX11_shuffled_184 (by decide) (fun _ => ?_) (fun c_184 => absurd (by decide) c_184)
  refine lv_aload_n hx hb dX11_shuffled_237 rfl (lv_at hl 4 rfl) ?_
  refine lv_iload_n hx hb dX11_shuffled_238 rfl (lv_at hl 6 rfl) ?_
  refine lv_i2l (v := (Int32.toInt64 a2)) hx hb dX11_shuffled_239 rfl ?_
  refine lv_lconst (v := 0) hx hb dX11_shuffled_240 (by decide) ?_
  refine lv_aload hx hb dX11_shuffled_241 (lv_at hl 1 rfl) ?_
  refine k_callV (C := RJx4a65c) (T := TJx4a65c) (N := 3) (ci := 4) (q0 := 2) (wr := [(pa, .inr (16, [.int 0, .ref pr, .ref pp, .ref pi, .ref pl, .ref pf, .ref pm, .ref ps, .ref pe, .int 0, .int 0])), (pi, .inr (4, [.int 0, .ref e0.1, .int 0])), (q3, .inr (3, [.int 0, .int (-1), .int 0, .ref q1])), (q1, .inr (4, [.int 0, .ref e0.1, .int 0]))]) (rest := [.long 0, .long (Int32.toInt64 a2), .ref pa]) (own := RX11) ⟨hx, hb, hml, hown, hts⟩ (c_size l hst D e0 q2 0 (.ref e0.1) 0 ) (cwV 0 hts gi_c_X11_shuffled_4 rfl rfl rfl (by decide +kernel) ⟨Nat.le_of_ble_eq_true rfl, Nat.le_of_ble_eq_true rfl⟩) hh rfl rfl [2] [0, 1, 3, 4] [] rfl rfl rfl rfl (by decide) rfl rfl hl rfl (Nat.le_of_ble_eq_true rfl) dX11_shuffled_243 ⟨Nat.le_of_ble_eq_true rfl, (Nat.le_of_ble_eq_true rfl)⟩ (fun _ _ _ _ _ h => h.elim) (fun v w ty1 H locs hp hh => ?_)
  obtain ⟨rfl, rfl, rfl⟩ := hp
  have hh : kH D kStr e0 A s H [(pa, .inr (16, [.int 0, .ref pr, .ref pp, .ref pi, .ref pl, .ref pf, .ref pm, .ref ps, .ref pe, .int 0, .int 0])), (pi, .inr (4, [.int 0, .ref e0.1, .int 0])), (q3, .inr (3, [.int 0, .int (-1), .int 0, .ref q1])), (q1, .inr (4, [.int 0, .ref e0.1, .int 0])), (q2, .inr (4, [.int 0, .ref e0.1, .int 0]))] [] _ := hh
  refine W.eq (g2 := F0 m 246 ls [.int 0, .long 0, .long (Int32.toInt64 a2), .ref pa]) (by first | rfl | decide) ?_
  refine lv_iconst (v := 1) hx hb dX11_shuffled_246 (by decide) ?_
  refine lv_isub hx hb dX11_shuffled_247 ?_
  refine W.eq (g2 := F0 m 248 ls [.int (-1), .long 0, .long (Int32.toInt64 a2), .ref pa]) (by first | rfl | decide) ?_
  refine lv_i2l (v := (-1)) hx hb dX11_shuffled_248 (by decide) ?_
  refine k_callS (wr := [(pa, .inr (16, [.int 0, .ref pr, .ref pp, .ref pi, .ref pl, .ref pf, .ref pm, .ref ps, .ref pe, .int 0, .int 0])), (pi, .inr (4, [.int 0, .ref e0.1, .int 0])), (q3, .inr (3, [.int 0, .int (-1), .int 0, .ref q1])), (q1, .inr (4, [.int 0, .ref e0.1, .int 0])), (q2, .inr (4, [.int 0, .ref e0.1, .int 0]))]) (rest := [.ref pa]) (own := RX11) ⟨hx, hb, hml, hown, hts⟩ (c_X11_in_f l hst D e0 ((Int32.toInt64 a2)) 0 (-1) (k_empty _)) (va_cwS 3 hts gi_c_X11_shuffled_7 rfl rfl rfl (by decide +kernel) ⟨Nat.le_of_ble_eq_true rfl, Nat.le_of_ble_eq_true rfl⟩) hh [] [0, 1, 2, 3, 4] [] rfl rfl rfl rfl (by decide) rfl rfl hl rfl (Nat.le_of_ble_eq_true rfl) dX11_shuffled_249 ⟨Nat.le_of_ble_eq_true rfl, (Nat.le_of_ble_eq_true rfl)⟩ (fun _ _ _ _ _ h => h.elim) (fun v w ty1 H locs hp hh => ?_)
  obtain ⟨rfl, rfl, rfl⟩ := hp
  have hh : kH D kStr e0 A s H [(pa, .inr (16, [.int 0, .ref pr, .ref pp, .ref pi, .ref pl, .ref pf, .ref pm, .ref ps, .ref pe, .int 0, .int 0])), (pi, .inr (4, [.int 0, .ref e0.1, .int 0])), (q3, .inr (3, [.int 0, .int (-1), .int 0, .ref q1])), (q1, .inr (4, [.int 0, .ref e0.1, .int 0])), (q2, .inr (4, [.int 0, .ref e0.1, .int 0]))] [] _ := hh
  refine W.eq (g2 := F0 m 252 ls [.int 0, .ref pa]) (by first | rfl | decide) ?_
  refine lv_if_eq (tgt := 259) hx hb dX11_shuffled_252 (by decide) (fun _ => ?_) (fun c_252 => absurd (by decide) c_252)
  refine lv_iconst (v := 2) hx hb dX11_shuffled_259 (by decide) ?_
  refine k_put (C := RX11) (T := TX11) (N := 11) (ci := 16) (v := .int 2) (ws' := [(pa, .inr (16, [.int 2, .ref pr, .ref pp, .ref pi, .ref pl, .ref pf, .ref pm, .ref ps, .ref pe, .int 0, .int 0])), (pi, .inr (4, [.int 0, .ref e0.1, .int 0])), (q3, .inr (3, [.int 0, .int (-1), .int 0, .ref q1])), (q1, .inr (4, [.int 0, .ref e0.1, .int 0])), (q2, .inr (4, [.int 0, .ref e0.1, .int 0]))]) hx hb hts ws_c_X11_shuffled_1 tyX11 tyX11_ok nmX11 hown hh 0 rfl rfl 0 (by decide) (hts _ (wo_c_X11_shuffled_in _ (List.mem_of_getElem? (i := 1) rfl))) rfl rfl rfl (Nat.le_of_ble_eq_true rfl) dX11_shuffled_260 rfl (fun H locs hh => ?_)
  refine lv_aload_n hx hb dX11_shuffled_263 rfl (lv_at hl 4 rfl) ?_
  refine k_get (C := RX11) (T := TX11) (N := 11) (ci := 16) (v := .int 2) hx hb hts ws_c_X11_shuffled_1 hown hh 0 rfl rfl 0 (by decide) (hts _ (wo_c_X11_shuffled_in _ (List.mem_of_getElem? (i := 1) rfl))) rfl dX11_shuffled_264 ?_
  refine lv_if_le (tgt := 274) hx hb dX11_shuffled_267 (by decide) (fun c_267 => absurd c_267 (by decide)) (fun _ => ?_)
  refine lv_iconst (v := 0) hx hb dX11_shuffled_270 (by decide) ?_
  refine lv_goto (tgt := 286) hx hb dX11_shuffled_271 (by decide) ?_
  exact k_endi hx hb hr hlocks hh ⟨rfl, rfl, rfl⟩ [0] [] rfl rfl rfl (Nat.le_of_ble_eq_true rfl) (Nat.le_of_ble_eq_true rfl) dX11_shuffled_286
def wo_c_X11_shuffled_bad : List Cond := [Cond.constantLong RX11 128 2147483646, Cond.fieldLink RX11 46 "SegueworksModel" "thrown" "I"]
def wk_c_X11_shuffled_bad : List Cond := Cond.code yX11_shuffled cX11_shuffled 10 (some .int) :: (wo_c_X11_shuffled_bad ++ ((va_wsS RX11 54 yX11_in wk_c_X11_in_f) ++ (u_ws RX11 TX11 11)))
theorem wo_c_X11_shuffled_bad_in : ∀ w ∈ wo_c_X11_shuffled_bad, w ∈ wk_c_X11_shuffled_bad := fun w h => List.mem_cons_of_mem _ (List.mem_append_left _ h)
theorem gi_c_X11_shuffled_bad_0 : GoodIn wk_c_X11_shuffled_bad (va_wsS RX11 54 yX11_in wk_c_X11_in_f) := fun w h => ⟨List.mem_cons_of_mem _ (List.mem_append_right _ (List.mem_append_left _ h)), good_of_word (kg_S gk_c_X11_in_f w h)⟩
theorem ws_c_X11_shuffled_bad_1 : ∀ w ∈ u_ws RX11 TX11 11, w ∈ wk_c_X11_shuffled_bad := fun w h => List.mem_cons_of_mem _ (List.mem_append_right _ (List.mem_append_right _ h))
theorem gk_c_X11_shuffled_bad : ∀ w ∈ wk_c_X11_shuffled_bad, goodWord w = true := List.forall_mem_cons.mpr ⟨rfl, (List.forall_mem_append.mpr ⟨(show ∀ w ∈ wo_c_X11_shuffled_bad, goodWord w = true by decide +kernel), (List.forall_mem_append.mpr ⟨(kg_S gk_c_X11_in_f), (show ∀ w ∈ u_ws RX11 TX11 11, goodWord w = true by decide +kernel)⟩)⟩)⟩
set_option maxHeartbeats 4000000 in
set_option maxRecDepth 100000 in
theorem c_X11_shuffled_bad (l : Launch) (hst : l.stackTraces = false) (D : va_G) (e0 : kE) (pa : Nat) (pt : Int32) (pr : Nat) (pp : Nat) (pi : Nat) (pl : Nat) (pf : Nat) (pm : Nat) (ps : Nat) (pe : Nat) (a1 : Int32) (a2 : Int32) (h : ¬ (1 ≤ a1 ∧ a1 ≤ 2147483646)) : kM l yX11_shuffled wk_c_X11_shuffled_bad 1 25 0 0 D kStr e0 [] [(pa, .inr (16, [.int pt, .ref pr, .ref pp, .ref pi, .ref pl, .ref pf, .ref pm, .ref ps, .ref pe, .int 0, .int 0]))] [.ref pa, .int a1, .int a2] (fun v w t => v = some (.int 0) ∧ w = [(pa, .inr (16, [.int 1, .ref pr, .ref pp, .ref pi, .ref pl, .ref pf, .ref pm, .ref ps, .ref pe, .int 0, .int 0]))] ∧ t = []) (fun _ => False) := by
  refine k_of (cc := cX11_shuffled) (maxL := 10) (ret := (some .int)) (by decide) rfl (Nat.le_of_ble_eq_true rfl) ?_
  intro p e s m args below meth c A ls hx hb hr hts hown hlocks hml hex hh hl
  have hown : s.vm.findClass RX11 = some m.cls := hown
  have hl : lv_has ls 10 [(0, .ref pa), (1, .int a1), (2, .int a2)] := hl
  refine lv_aload_n hx hb dX11_shuffled_0 rfl (lv_at hl 0 rfl) ?_
  refine lv_iload_n hx hb dX11_shuffled_1 rfl (lv_at hl 1 rfl) ?_
  refine lv_i2l (v := (Int32.toInt64 a1)) hx hb dX11_shuffled_2 rfl ?_
  refine lv_lconst (v := 1) hx hb dX11_shuffled_3 (by decide) ?_
  refine lv_ldc2 (v := 2147483646) hx hb hown (hts _ (wo_c_X11_shuffled_bad_in _ (List.mem_of_getElem? (i := 0) rfl))) dX11_shuffled_4 ?_
  refine k_callS (wr := [(pa, .inr (16, [.int pt, .ref pr, .ref pp, .ref pi, .ref pl, .ref pf, .ref pm, .ref ps, .ref pe, .int 0, .int 0]))]) (rest := [.ref pa]) (own := RX11) ⟨hx, hb, hml, hown, hts⟩ (c_X11_in_f l hst D e0 ((Int32.toInt64 a1)) 1 2147483646 (k_rngF (by decide) (by decide) h)) (va_cwS 3 hts gi_c_X11_shuffled_bad_0 rfl rfl rfl (by decide +kernel) ⟨Nat.le_of_ble_eq_true rfl, Nat.le_of_ble_eq_true rfl⟩) hh [] [0] [] rfl rfl rfl rfl (by decide) rfl rfl hl rfl (Nat.le_of_ble_eq_true rfl) dX11_shuffled_7 ⟨Nat.le_of_ble_eq_true rfl, (Nat.le_of_ble_eq_true rfl)⟩ (fun _ _ _ _ _ h => h.elim) (fun v w ty1 H locs hp hh => ?_)
  obtain ⟨rfl, rfl, rfl⟩ := hp
  have hh : kH D kStr e0 A s H [(pa, .inr (16, [.int pt, .ref pr, .ref pp, .ref pi, .ref pl, .ref pf, .ref pm, .ref ps, .ref pe, .int 0, .int 0]))] [] _ := hh
  refine W.eq (g2 := F0 m 10 ls [.int 0, .ref pa]) (by first | rfl | decide) ?_
  refine lv_if_eq (tgt := 17) hx hb dX11_shuffled_10 (by decide) (fun _ => ?_) (fun c_10 => absurd (by decide) c_10)
  refine lv_iconst (v := 1) hx hb dX11_shuffled_17 (by decide) ?_
  refine k_put (C := RX11) (T := TX11) (N := 11) (ci := 16) (v := .int 1) (ws' := [(pa, .inr (16, [.int 1, .ref pr, .ref pp, .ref pi, .ref pl, .ref pf, .ref pm, .ref ps, .ref pe, .int 0, .int 0]))]) hx hb hts ws_c_X11_shuffled_bad_1 tyX11 tyX11_ok nmX11 hown hh 0 rfl rfl 0 (by decide) (hts _ (wo_c_X11_shuffled_bad_in _ (List.mem_of_getElem? (i := 1) rfl))) rfl rfl rfl (Nat.le_of_ble_eq_true rfl) dX11_shuffled_18 rfl (fun H locs hh => ?_)
  refine lv_aload_n hx hb dX11_shuffled_21 rfl (lv_at hl 0 rfl) ?_
  refine k_get (C := RX11) (T := TX11) (N := 11) (ci := 16) (v := .int 1) hx hb hts ws_c_X11_shuffled_bad_1 hown hh 0 rfl rfl 0 (by decide) (hts _ (wo_c_X11_shuffled_bad_in _ (List.mem_of_getElem? (i := 1) rfl))) rfl dX11_shuffled_22 ?_
  refine lv_if_le (tgt := 30) hx hb dX11_shuffled_25 (by decide) (fun c_25 => absurd c_25 (by decide)) (fun _ => ?_)
  refine lv_iconst (v := 0) hx hb dX11_shuffled_28 (by decide) ?_
  exact k_endi hx hb hr hlocks hh ⟨rfl, rfl, rfl⟩ [0] [] rfl rfl rfl (Nat.le_of_ble_eq_true rfl) (Nat.le_of_ble_eq_true rfl) dX11_shuffled_29
def wo_c_X11_checksum : List Cond := [Cond.fieldLink RX11 46 "SegueworksModel" "thrown" "I", Cond.constantLong RX11 275 7, Cond.fieldLink RX11 25 "SegueworksModel" "pieces" "Ljava/util/ArrayList;", Cond.fieldLink RX11 28 "SegueworksModel" "items" "Ljava/util/ArrayList;", Cond.fieldLink RX11 31 "SegueworksModel" "lacquers" "Ljava/util/ArrayList;", Cond.fieldLink RX11 40 "SegueworksModel" "stampers" "Ljava/util/ArrayList;", Cond.fieldLink RX11 43 "SegueworksModel" "editions" "Ljava/util/ArrayList;"]
def wk_c_X11_checksum : List Cond := Cond.code yX11_checksum cX11_checksum 5 (some .long) :: (wo_c_X11_checksum ++ ((u_ws RX11 TX11 11) ++ ((wsV RX11 262 RJx4a65c yJx4a65c_iterator_32c93 wk_c_iterator) ++ (va_wsF RX11 266 RJx35411 kHN yJx35411_hasNext_aae02 wk_c_hasNext))))
theorem wo_c_X11_checksum_in : ∀ w ∈ wo_c_X11_checksum, w ∈ wk_c_X11_checksum := fun w h => List.mem_cons_of_mem _ (List.mem_append_left _ h)
theorem ws_c_X11_checksum_0 : ∀ w ∈ u_ws RX11 TX11 11, w ∈ wk_c_X11_checksum := fun w h => List.mem_cons_of_mem _ (List.mem_append_right _ (List.mem_append_left _ h))
theorem gi_c_X11_checksum_1 : GoodIn wk_c_X11_checksum (wsV RX11 262 RJx4a65c yJx4a65c_iterator_32c93 wk_c_iterator) := fun w h => ⟨List.mem_cons_of_mem _ (List.mem_append_right _ (List.mem_append_right _ (List.mem_append_left _ h))), good_of_word (kg_V gk_c_iterator w h)⟩
theorem gi_c_X11_checksum_2 : GoodIn wk_c_X11_checksum (va_wsF RX11 266 RJx35411 kHN yJx35411_hasNext_aae02 wk_c_hasNext) := fun w h => ⟨List.mem_cons_of_mem _ (List.mem_append_right _ (List.mem_append_right _ (List.mem_append_right _ h))), good_of_word (kg_F gk_c_hasNext w h)⟩
theorem gk_c_X11_checksum : ∀ w ∈ wk_c_X11_checksum, goodWord w = true := List.forall_mem_cons.mpr ⟨rfl, (List.forall_mem_append.mpr ⟨(show ∀ w ∈ wo_c_X11_checksum, goodWord w = true by decide +kernel), (List.forall_mem_append.mpr ⟨(show ∀ w ∈ u_ws RX11 TX11 11, goodWord w = true by decide +kernel), (List.forall_mem_append.mpr ⟨(kg_V gk_c_iterator), (kg_F gk_c_hasNext)⟩)⟩)⟩)⟩
set_option maxHeartbeats 4000000 in
set_option maxRecDepth 100000 in
theorem c_X11_checksum (l : Launch) (hst : l.stackTraces = false) (D : va_G) (e0 : kE) (pa : Nat) (pt : Int32) (pr : Nat) (pp : Nat) (pi : Nat) (pl : Nat) (pf : Nat) (pm : Nat) (ps : Nat) (pe : Nat)  : kM l yX11_checksum wk_c_X11_checksum 3 61 5 20 D kStr e0 [] [(pa, .inr (16, [.int pt, .ref pr, .ref pp, .ref pi, .ref pl, .ref pf, .ref pm, .ref ps, .ref pe, .int 0, .int 0])), (pp, .inr (4, [.int 0, .ref e0.1, .int 0])), (pi, .inr (4, [.int 0, .ref e0.1, .int 0])), (pl, .inr (4, [.int 0, .ref e0.1, .int 0])), (ps, .inr (4, [.int 0, .ref e0.1, .int 0])), (pe, .inr (4, [.int 0, .ref e0.1, .int 0]))] [.ref pa] (fun v w t => v = some (.long 7) ∧ w = [(pa, .inr (16, [.int 0, .ref pr, .ref pp, .ref pi, .ref pl, .ref pf, .ref pm, .ref ps, .ref pe, .int 0, .int 0]))] ∧ t = []) (fun _ => False) := by
  refine k_of (cc := cX11_checksum) (maxL := 5) (ret := (some .long)) (by decide) rfl (Nat.le_of_ble_eq_true rfl) ?_
  intro p e s m args below meth c A ls hx hb hr hts hown hlocks hml hex hh hl
  have hown : s.vm.findClass RX11 = some m.cls := hown
  have hl : lv_has ls 5 [(0, .ref pa)] := hl
  refine lv_aload_n hx hb dX11_checksum_0 rfl (lv_at hl 0 rfl) ?_
  refine lv_iconst (v := 0) hx hb dX11_checksum_1 (by decide) ?_
  refine k_put (C := RX11) (T := TX11) (N := 11) (ci := 16) (v := .int 0) (ws' := [(pa, .inr (16, [.int 0, .ref pr, .ref pp, .ref pi, .ref pl, .ref pf, .ref pm, .ref ps, .ref pe, .int 0, .int 0])), (pp, .inr (4, [.int 0, .ref e0.1, .int 0])), (pi, .inr (4, [.int 0, .ref e0.1, .int 0])), (pl, .inr (4, [.int 0, .ref e0.1, .int 0])), (ps, .inr (4, [.int 0, .ref e0.1, .int 0])), (pe, .inr (4, [.int 0, .ref e0.1, .int 0]))]) hx hb hts ws_c_X11_checksum_0 tyX11 tyX11_ok nmX11 hown hh 0 rfl rfl 0 (by decide) (hts _ (wo_c_X11_checksum_in _ (List.mem_of_getElem? (i := 0) rfl))) rfl rfl rfl (Nat.le_of_ble_eq_true rfl) dX11_checksum_2 rfl (fun H locs hh => ?_)
  refine lv_ldc2 (v := 7) hx hb hown (hts _ (wo_c_X11_checksum_in _ (List.mem_of_getElem? (i := 1) rfl))) dX11_checksum_5 ?_
  refine lv_lstore_n (lv' := [(1, .long 7), (0, .ref pa)]) hx hb dX11_checksum_8 rfl hl (by decide) rfl (fun ls hl => ?_)
  refine lv_aload_n hx hb dX11_checksum_9 rfl (lv_at hl 1 rfl) ?_
  refine k_get (C := RX11) (T := TX11) (N := 11) (ci := 16) (v := .ref pp) hx hb hts ws_c_X11_checksum_0 hown hh 0 rfl rfl 2 (by decide) (hts _ (wo_c_X11_checksum_in _ (List.mem_of_getElem? (i := 2) rfl))) rfl dX11_checksum_10 ?_
  refine k_callV (C := RJx4a65c) (T := TJx4a65c) (N := 3) (ci := 4) (q0 := 1) (wr := [(pa, .inr (16, [.int 0, .ref pr, .ref pp, .ref pi, .ref pl, .ref pf, .ref pm, .ref ps, .ref pe, .int 0, .int 0])), (pi, .inr (4, [.int 0, .ref e0.1, .int 0])), (pl, .inr (4, [.int 0, .ref e0.1, .int 0])), (ps, .inr (4, [.int 0, .ref e0.1, .int 0])), (pe, .inr (4, [.int 0, .ref e0.1, .int 0]))]) (rest := []) (own := RX11) ⟨hx, hb, hml, hown, hts⟩ (c_iterator l hst D e0 pp 0 (.ref e0.1) 0 ) (cwV 0 hts gi_c_X11_checksum_1 rfl rfl rfl (by decide +kernel) ⟨Nat.le_of_ble_eq_true rfl, Nat.le_of_ble_eq_true rfl⟩) hh rfl rfl [1] [0, 2, 3, 4, 5] [] rfl rfl rfl rfl (by decide) rfl rfl hl rfl (Nat.le_of_ble_eq_true rfl) dX11_checksum_13 ⟨Nat.le_of_ble_eq_true rfl, (Nat.le_of_ble_eq_true rfl)⟩ (fun _ _ _ _ _ h => h.elim) (fun v w ty1 H locs hp hh => ?_)
  obtain ⟨q1, rfl, rfl, rfl⟩ := hp
  have hh : kH D kStr e0 A s H [(pa, .inr (16, [.int 0, .ref pr, .ref pp, .ref pi, .ref pl, .ref pf, .ref pm, .ref ps, .ref pe, .int 0, .int 0])), (pi, .inr (4, [.int 0, .ref e0.1, .int 0])), (pl, .inr (4, [.int 0, .ref e0.1, .int 0])), (ps, .inr (4, [.int 0, .ref e0.1, .int 0])), (pe, .inr (4, [.int 0, .ref e0.1, .int 0])), (pp, .inr (4, [.int 0, .ref e0.1, .int 0])), (q1, .inr (3, [.int 0, .int (-1), .int 0, .ref pp]))] [] _ := hh
  refine W.eq (g2 := F0 m 16 ls [.ref q1]) (by first | rfl | decide) ?_
  refine lv_astore_n (lv' := [(3, .ref q1), (1, .long 7), (0, .ref pa)]) hx hb dX11_checksum_16 rfl hl (by decide) rfl (fun ls hl => ?_)
  refine lv_aload_n hx hb dX11_checksum_17 rfl (lv_at hl 0 rfl) ?_
  refine k_callF (C := RJx35411) (T := TJx35411) (N := 4) (ci := 3) (q0 := 6) (x := kHN) (wr := [(pa, .inr (16, [.int 0, .ref pr, .ref pp, .ref pi, .ref pl, .ref pf, .ref pm, .ref ps, .ref pe, .int 0, .int 0])), (pi, .inr (4, [.int 0, .ref e0.1, .int 0])), (pl, .inr (4, [.int 0, .ref e0.1, .int 0])), (ps, .inr (4, [.int 0, .ref e0.1, .int 0])), (pe, .inr (4, [.int 0, .ref e0.1, .int 0]))]) (rest := []) (own := RX11) ⟨hx, hb, hml, hown, hts⟩ (c_hasNext l hst D e0 q1 (-1) 0 pp 0 (.ref e0.1) ) (va_cwF 0 hts gi_c_X11_checksum_2 rfl rfl rfl hh.2.2.2.2.2.2.2.2.2.2.2.2.2.1 (by decide +kernel) ⟨Nat.le_of_ble_eq_true rfl, Nat.le_of_ble_eq_true rfl⟩) hh rfl rfl [6, 5] [0, 1, 2, 3, 4] [] rfl rfl rfl rfl (by decide) rfl rfl hl rfl (Nat.le_of_ble_eq_true rfl) dX11_checksum_18 ⟨Nat.le_of_ble_eq_true rfl, (Nat.le_of_ble_eq_true rfl)⟩ (fun v w ty1 H locs hp hh => ?_)
  obtain ⟨rfl, rfl, rfl⟩ := hp
  have hh : kH D kStr e0 A s H [(pa, .inr (16, [.int 0, .ref pr, .ref pp, .ref pi, .ref pl, .ref pf, .ref pm, .ref ps, .ref pe, .int 0, .int 0])), (pi, .inr (4, [.int 0, .ref e0.1, .int 0])), (pl, .inr (4, [.int 0, .ref e0.1, .int 0])), (ps, .inr (4, [.int 0, .ref e0.1, .int 0])), (pe, .inr (4, [.int 0, .ref e0.1, .int 0])), (q1, .inr (3, [.int 0, .int (-1), .int 0, .ref pp])), (pp, .inr (4, [.int 0, .ref e0.1, .int 0]))] [] _ := hh
  refine W.eq (g2 := F0 m 23 ls [.int 0]) (by first | rfl | decide) ?_
  refine lv_if_eq (tgt := 76) hx hb dX11_checksum_23 (by decide) (fun _ => ?_) (fun c_23 => absurd (by decide) c_23)
  refine lv_aload_n hx hb dX11_checksum_76 rfl (lv_at hl 2 rfl) ?_
  refine k_get (C := RX11) (T := TX11) (N := 11) (ci := 16) (v := .ref pi) hx hb hts ws_c_X11_checksum_0 hown hh 0 rfl rfl 3 (by decide) (hts _ (wo_c_X11_checksum_in _ (List.mem_of_getElem? (i := 3) rfl))) rfl dX11_checksum_77 ?_
  refine k_callV (C := RJx4a65c) (T := TJx4a65c) (N := 3) (ci := 4) (q0 := 1) (wr := [(pa, .inr (16, [.int 0, .ref pr, .ref pp, .ref pi, .ref pl, .ref pf, .ref pm, .ref ps, .ref pe, .int 0, .int 0])), (pl, .inr (4, [.int 0, .ref e0.1, .int 0])), (ps, .inr (4, [.int 0, .ref e0.1, .int 0])), (pe, .inr (4, [.int 0, .ref e0.1, .int 0])), (q1, .inr (3, [.int 0, .int (-1), .int 0, .ref pp])), (pp, .inr (4, [.int 0, .ref e0.1, .int 0]))]) (rest := []) (own := RX11) ⟨hx, hb, hml, hown, hts⟩ (c_iterator l hst D e0 pi 0 (.ref e0.1) 0 ) (cwV 0 hts gi_c_X11_checksum_1 rfl rfl rfl (by decide +kernel) ⟨Nat.le_of_ble_eq_true rfl, Nat.le_of_ble_eq_true rfl⟩) hh rfl rfl [1] [0, 2, 3, 4, 5, 6] [] rfl rfl rfl rfl (by decide) rfl rfl hl rfl (Nat.le_of_ble_eq_true rfl) dX11_checksum_80 ⟨Nat.le_of_ble_eq_true rfl, (Nat.le_of_ble_eq_true rfl)⟩ (fun _ _ _ _ _ h => h.elim) (fun v w ty1 H locs hp hh => ?_)
  obtain ⟨q2, rfl, rfl, rfl⟩ := hp
  have hh : kH D kStr e0 A s H [(pa, .inr (16, [.int 0, .ref pr, .ref pp, .ref pi, .ref pl, .ref pf, .ref pm, .ref ps, .ref pe, .int 0, .int 0])), (pl, .inr (4, [.int 0, .ref e0.1, .int 0])), (ps, .inr (4, [.int 0, .ref e0.1, .int 0])), (pe, .inr (4, [.int 0, .ref e0.1, .int 0])), (q1, .inr (3, [.int 0, .int (-1), .int 0, .ref pp])), (pp, .inr (4, [.int 0, .ref e0.1, .int 0])), (pi, .inr (4, [.int 0, .ref e0.1, .int 0])), (q2, .inr (3, [.int 0, .int (-1), .int 0, .ref pi]))] [] _ := hh
  refine W.eq (g2 := F0 m 83 ls [.ref q2]) (by first | rfl | decide) ?_
  refine lv_astore_n (lv' := [(3, .ref q2), (1, .long 7), (0, .ref pa)]) hx hb dX11_checksum_83 rfl hl (by decide) rfl (fun ls hl => ?_)
  refine lv_aload_n hx hb dX11_checksum_84 rfl (lv_at hl 0 rfl) ?_
  refine k_callF (C := RJx35411) (T := TJx35411) (N := 4) (ci := 3) (q0 := 7) (x := kHN) (wr := [(pa, .inr (16, [.int 0, .ref pr, .ref pp, .ref pi, .ref pl, .ref pf, .ref pm, .ref ps, .ref pe, .int 0, .int 0])), (pl, .inr (4, [.int 0, .ref e0.1, .int 0])), (ps, .inr (4, [.int 0, .ref e0.1, .int 0])), (pe, .inr (4, [.int 0, .ref e0.1, .int 0])), (q1, .inr (3, [.int 0, .int (-1), .int 0, .ref pp])), (pp, .inr (4, [.int 0, .ref e0.1, .int 0]))]) (rest := []) (own := RX11) ⟨hx, hb, hml, hown, hts⟩ (c_hasNext l hst D e0 q2 (-1) 0 pi 0 (.ref e0.1) ) (va_cwF 0 hts gi_c_X11_checksum_2 rfl rfl rfl hh.2.2.2.2.2.2.2.2.2.2.2.2.2.1 (by decide +kernel) ⟨Nat.le_of_ble_eq_true rfl, Nat.le_of_ble_eq_true rfl⟩) hh rfl rfl [7, 6] [0, 1, 2, 3, 4, 5] [] rfl rfl rfl rfl (by decide) rfl rfl hl rfl (Nat.le_of_ble_eq_true rfl) dX11_checksum_85 ⟨Nat.le_of_ble_eq_true rfl, (Nat.le_of_ble_eq_true rfl)⟩ (fun v w ty1 H locs hp hh => ?_)
  obtain ⟨rfl, rfl, rfl⟩ := hp
  have hh : kH D kStr e0 A s H [(pa, .inr (16, [.int 0, .ref pr, .ref pp, .ref pi, .ref pl, .ref pf, .ref pm, .ref ps, .ref pe, .int 0, .int 0])), (pl, .inr (4, [.int 0, .ref e0.1, .int 0])), (ps, .inr (4, [.int 0, .ref e0.1, .int 0])), (pe, .inr (4, [.int 0, .ref e0.1, .int 0])), (q1, .inr (3, [.int 0, .int (-1), .int 0, .ref pp])), (pp, .inr (4, [.int 0, .ref e0.1, .int 0])), (q2, .inr (3, [.int 0, .int (-1), .int 0, .ref pi])), (pi, .inr (4, [.int 0, .ref e0.1, .int 0]))] [] _ := hh
  refine W.eq (g2 := F0 m 90 ls [.int 0]) (by first | rfl | decide) ?_
  refine lv_if_eq (tgt := 120) hx hb dX11_checksum_90 (by decide) (fun _ => ?_) (fun c_90 => absurd (by decide) c_90)
  refine lv_aload_n hx hb dX11_checksum_120 rfl (lv_at hl 2 rfl) ?_
  refine k_get (C := RX11) (T := TX11) (N := 11) (ci := 16) (v := .ref pl) hx hb hts ws_c_X11_checksum_0 hown hh 0 rfl rfl 4 (by decide) (hts _ (wo_c_X11_checksum_in _ (List.mem_of_getElem? (i := 4) rfl))) rfl dX11_checksum_121 ?_
  refine k_callV (C := RJx4a65c) (T := TJx4a65c) (N := 3) (ci := 4) (q0 := 1) (wr := [(pa, .inr (16, [.int 0, .ref pr, .ref pp, .ref pi, .ref pl, .ref pf, .ref pm, .ref ps, .ref pe, .int 0, .int 0])), (ps, .inr (4, [.int 0, .ref e0.1, .int 0])), (pe, .inr (4, [.int 0, .ref e0.1, .int 0])), (q1, .inr (3, [.int 0, .int (-1), .int 0, .ref pp])), (pp, .inr (4, [.int 0, .ref e0.1, .int 0])), (q2, .inr (3, [.int 0, .int (-1), .int 0, .ref pi])), (pi, .inr (4, [.int 0, .ref e0.1, .int 0]))]) (rest := []) (own := RX11) ⟨hx, hb, hml, hown, hts⟩ (c_iterator l hst D e0 pl 0 (.ref e0.1) 0 ) (cwV 0 hts gi_c_X11_checksum_1 rfl rfl rfl (by decide +kernel) ⟨Nat.le_of_ble_eq_true rfl, Nat.le_of_ble_eq_true rfl⟩) hh rfl rfl [1] [0, 2, 3, 4, 5, 6, 7] [] rfl rfl rfl rfl (by decide) rfl rfl hl rfl (Nat.le_of_ble_eq_true rfl) dX11_checksum_124 ⟨Nat.le_of_ble_eq_true rfl, (Nat.le_of_ble_eq_true rfl)⟩ (fun _ _ _ _ _ h => h.elim) (fun v w ty1 H locs hp hh => ?_)
  obtain ⟨q3, rfl, rfl, rfl⟩ := hp
  have hh : kH D kStr e0 A s H [(pa, .inr (16, [.int 0, .ref pr, .ref pp, .ref pi, .ref pl, .ref pf, .ref pm, .ref ps, .ref pe, .int 0, .int 0])), (ps, .inr (4, [.int 0, .ref e0.1, .int 0])), (pe, .inr (4, [.int 0, .ref e0.1, .int 0])), (q1, .inr (3, [.int 0, .int (-1), .int 0, .ref pp])), (pp, .inr (4, [.int 0, .ref e0.1, .int 0])), (q2, .inr (3, [.int 0, .int (-1), .int 0, .ref pi])), (pi, .inr (4, [.int 0, .ref e0.1, .int 0])), (pl, .inr (4, [.int 0, .ref e0.1, .int 0])), (q3, .inr (3, [.int 0, .int (-1), .int 0, .ref pl]))] [] _ := hh
  refine W.eq (g2 := F0 m 127 ls [.ref q3]) (by first | rfl | decide) ?_
  refine lv_astore_n (lv' := [(3, .ref q3), (1, .long 7), (0, .ref pa)]) hx hb dX11_checksum_127 rfl hl (by decide) rfl (fun ls hl => ?_)
  refine lv_aload_n hx hb dX11_checksum_128 rfl (lv_at hl 0 rfl) ?_
  refine k_callF (C := RJx35411) (T := TJx35411) (N := 4) (ci := 3) (q0 := 8) (x := kHN) (wr := [(pa, .inr (16, [.int 0, .ref pr, .ref pp, .ref pi, .ref pl, .ref pf, .ref pm, .ref ps, .ref pe, .int 0, .int 0])), (ps, .inr (4, [.int 0, .ref e0.1, .int 0])), (pe, .inr (4, [.int 0, .ref e0.1, .int 0])), (q1, .inr (3, [.int 0, .int (-1), .int 0, .ref pp])), (pp, .inr (4, [.int 0, .ref e0.1, .int 0])), (q2, .inr (3, [.int 0, .int (-1), .int 0, .ref pi])), (pi, .inr (4, [.int 0, .ref e0.1, .int 0]))]) (rest := []) (own := RX11) ⟨hx, hb, hml, hown, hts⟩ (c_hasNext l hst D e0 q3 (-1) 0 pl 0 (.ref e0.1) ) (va_cwF 0 hts gi_c_X11_checksum_2 rfl rfl rfl hh.2.2.2.2.2.2.2.2.2.2.2.2.2.1 (by decide +kernel) ⟨Nat.le_of_ble_eq_true rfl, Nat.le_of_ble_eq_true rfl⟩) hh rfl rfl [8, 7] [0, 1, 2, 3, 4, 5, 6] [] rfl rfl rfl rfl (by decide) rfl rfl hl rfl (Nat.le_of_ble_eq_true rfl) dX11_checksum_129 ⟨Nat.le_of_ble_eq_true rfl, (Nat.le_of_ble_eq_true rfl)⟩ (fun v w ty1 H locs hp hh => ?_)
  obtain ⟨rfl, rfl, rfl⟩ := hp
  have hh : kH D kStr e0 A s H [(pa, .inr (16, [.int 0, .ref pr, .ref pp, .ref pi, .ref pl, .ref pf, .ref pm, .ref ps, .ref pe, .int 0, .int 0])), (ps, .inr (4, [.int 0, .ref e0.1, .int 0])), (pe, .inr (4, [.int 0, .ref e0.1, .int 0])), (q1, .inr (3, [.int 0, .int (-1), .int 0, .ref pp])), (pp, .inr (4, [.int 0, .ref e0.1, .int 0])), (q2, .inr (3, [.int 0, .int (-1), .int 0, .ref pi])), (pi, .inr (4, [.int 0, .ref e0.1, .int 0])), (q3, .inr (3, [.int 0, .int (-1), .int 0, .ref pl])), (pl, .inr (4, [.int 0, .ref e0.1, .int 0]))] [] _ := hh
  refine W.eq (g2 := F0 m 134 ls [.int 0]) (by first | rfl | decide) ?_
  refine lv_if_eq (tgt := 164) hx hb dX11_checksum_134 (by decide) (fun _ => ?_) (fun c_134 => absurd (by decide) c_134)
  refine lv_aload_n hx hb dX11_checksum_164 rfl (lv_at hl 2 rfl) ?_
  refine k_get (C := RX11) (T := TX11) (N := 11) (ci := 16) (v := .ref ps) hx hb hts ws_c_X11_checksum_0 hown hh 0 rfl rfl 7 (by decide) (hts _ (wo_c_X11_checksum_in _ (List.mem_of_getElem? (i := 5) rfl))) rfl dX11_checksum_165 ?_
  refine k_callV (C := RJx4a65c) (T := TJx4a65c) (N := 3) (ci := 4) (q0 := 1) (wr := [(pa, .inr (16, [.int 0, .ref pr, .ref pp, .ref pi, .ref pl, .ref pf, .ref pm, .ref ps, .ref pe, .int 0, .int 0])), (pe, .inr (4, [.int 0, .ref e0.1, .int 0])), (q1, .inr (3, [.int 0, .int (-1), .int 0, .ref pp])), (pp, .inr (4, [.int 0, .ref e0.1, .int 0])), (q2, .inr (3, [.int 0, .int (-1), .int 0, .ref pi])), (pi, .inr (4, [.int 0, .ref e0.1, .int 0])), (q3, .inr (3, [.int 0, .int (-1), .int 0, .ref pl])), (pl, .inr (4, [.int 0, .ref e0.1, .int 0]))]) (rest := []) (own := RX11) ⟨hx, hb, hml, hown, hts⟩ (c_iterator l hst D e0 ps 0 (.ref e0.1) 0 ) (cwV 0 hts gi_c_X11_checksum_1 rfl rfl rfl (by decide +kernel) ⟨Nat.le_of_ble_eq_true rfl, Nat.le_of_ble_eq_true rfl⟩) hh rfl rfl [1] [0, 2, 3, 4, 5, 6, 7, 8] [] rfl rfl rfl rfl (by decide) rfl rfl hl rfl (Nat.le_of_ble_eq_true rfl) dX11_checksum_168 ⟨Nat.le_of_ble_eq_true rfl, (Nat.le_of_ble_eq_true rfl)⟩ (fun _ _ _ _ _ h => h.elim) (fun v w ty1 H locs hp hh => ?_)
  obtain ⟨q4, rfl, rfl, rfl⟩ := hp
  have hh : kH D kStr e0 A s H [(pa, .inr (16, [.int 0, .ref pr, .ref pp, .ref pi, .ref pl, .ref pf, .ref pm, .ref ps, .ref pe, .int 0, .int 0])), (pe, .inr (4, [.int 0, .ref e0.1, .int 0])), (q1, .inr (3, [.int 0, .int (-1), .int 0, .ref pp])), (pp, .inr (4, [.int 0, .ref e0.1, .int 0])), (q2, .inr (3, [.int 0, .int (-1), .int 0, .ref pi])), (pi, .inr (4, [.int 0, .ref e0.1, .int 0])), (q3, .inr (3, [.int 0, .int (-1), .int 0, .ref pl])), (pl, .inr (4, [.int 0, .ref e0.1, .int 0])), (ps, .inr (4, [.int 0, .ref e0.1, .int 0])), (q4, .inr (3, [.int 0, .int (-1), .int 0, .ref ps]))] [] _ := hh
  refine W.eq (g2 := F0 m 171 ls [.ref q4]) (by first | rfl | decide) ?_
  refine lv_astore_n (lv' := [(3, .ref q4), (1, .long 7), (0, .ref pa)]) hx hb dX11_checksum_171 rfl hl (by decide) rfl (fun ls hl => ?_)
  refine lv_aload_n hx hb dX11_checksum_172 rfl (lv_at hl 0 rfl) ?_
  refine k_callF (C := RJx35411) (T := TJx35411) (N := 4) (ci := 3) (q0 := 9) (x := kHN) (wr := [(pa, .inr (16, [.int 0, .ref pr, .ref pp, .ref pi, .ref pl, .ref pf, .ref pm, .ref ps, .ref pe, .int 0, .int 0])), (pe, .inr (4, [.int 0, .ref e0.1, .int 0])), (q1, .inr (3, [.int 0, .int (-1), .int 0, .ref pp])), (pp, .inr (4, [.int 0, .ref e0.1, .int 0])), (q2, .inr (3, [.int 0, .int (-1), .int 0, .ref pi])), (pi, .inr (4, [.int 0, .ref e0.1, .int 0])), (q3, .inr (3, [.int 0, .int (-1), .int 0, .ref pl])), (pl, .inr (4, [.int 0, .ref e0.1, .int 0]))]) (rest := []) (own := RX11) ⟨hx, hb, hml, hown, hts⟩ (c_hasNext l hst D e0 q4 (-1) 0 ps 0 (.ref e0.1) ) (va_cwF 0 hts gi_c_X11_checksum_2 rfl rfl rfl hh.2.2.2.2.2.2.2.2.2.2.2.2.2.1 (by decide +kernel) ⟨Nat.le_of_ble_eq_true rfl, Nat.le_of_ble_eq_true rfl⟩) hh rfl rfl [9, 8] [0, 1, 2, 3, 4, 5, 6, 7] [] rfl rfl rfl rfl (by decide) rfl rfl hl rfl (Nat.le_of_ble_eq_true rfl) dX11_checksum_173 ⟨Nat.le_of_ble_eq_true rfl, (Nat.le_of_ble_eq_true rfl)⟩ (fun v w ty1 H locs hp hh => ?_)
  obtain ⟨rfl, rfl, rfl⟩ := hp
  have hh : kH D kStr e0 A s H [(pa, .inr (16, [.int 0, .ref pr, .ref pp, .ref pi, .ref pl, .ref pf, .ref pm, .ref ps, .ref pe, .int 0, .int 0])), (pe, .inr (4, [.int 0, .ref e0.1, .int 0])), (q1, .inr (3, [.int 0, .int (-1), .int 0, .ref pp])), (pp, .inr (4, [.int 0, .ref e0.1, .int 0])), (q2, .inr (3, [.int 0, .int (-1), .int 0, .ref pi])), (pi, .inr (4, [.int 0, .ref e0.1, .int 0])), (q3, .inr (3, [.int 0, .int (-1), .int 0, .ref pl])), (pl, .inr (4, [.int 0, .ref e0.1, .int 0])), (q4, .inr (3, [.int 0, .int (-1), .int 0, .ref ps])), (ps, .inr (4, [.int 0, .ref e0.1, .int 0]))] [] _ := hh
  refine W.eq (g2 := F0 m 178 ls [.int 0]) (by first | rfl | decide) ?_
  refine lv_if_eq (tgt := 208) hx hb dX11_checksum_178 (by decide) (fun _ => ?_) (fun c_178 => absurd (by decide) c_178)
  refine lv_aload_n hx hb dX11_checksum_208 rfl (lv_at hl 2 rfl) ?_
  refine k_get (C := RX11) (T := TX11) (N := 11) (ci := 16) (v := .ref pe) hx hb hts ws_c_X11_checksum_0 hown hh 0 rfl rfl 8 (by decide) (hts _ (wo_c_X11_checksum_in _ (List.mem_of_getElem? (i := 6) rfl))) rfl dX11_checksum_209 ?_
  refine k_callV (C := RJx4a65c) (T := TJx4a65c) (N := 3) (ci := 4) (q0 := 1) (wr := [(pa, .inr (16, [.int 0, .ref pr, .ref pp, .ref pi, .ref pl, .ref pf, .ref pm, .ref ps, .ref pe, .int 0, .int 0])), (q1, .inr (3, [.int 0, .int (-1), .int 0, .ref pp])), (pp, .inr (4, [.int 0, .ref e0.1, .int 0])), (q2, .inr (3, [.int 0, .int (-1), .int 0, .ref pi])), (pi, .inr (4, [.int 0, .ref e0.1, .int 0])), (q3, .inr (3, [.int 0, .int (-1), .int 0, .ref pl])), (pl, .inr (4, [.int 0, .ref e0.1, .int 0])), (q4, .inr (3, [.int 0, .int (-1), .int 0, .ref ps])), (ps, .inr (4, [.int 0, .ref e0.1, .int 0]))]) (rest := []) (own := RX11) ⟨hx, hb, hml, hown, hts⟩ (c_iterator l hst D e0 pe 0 (.ref e0.1) 0 ) (cwV 0 hts gi_c_X11_checksum_1 rfl rfl rfl (by decide +kernel) ⟨Nat.le_of_ble_eq_true rfl, Nat.le_of_ble_eq_true rfl⟩) hh rfl rfl [1] [0, 2, 3, 4, 5, 6, 7, 8, 9] [] rfl rfl rfl rfl (by decide) rfl rfl hl rfl (Nat.le_of_ble_eq_true rfl) dX11_checksum_212 ⟨Nat.le_of_ble_eq_true rfl, (Nat.le_of_ble_eq_true rfl)⟩ (fun _ _ _ _ _ h => h.elim) (fun v w ty1 H locs hp hh => ?_)
  obtain ⟨q5, rfl, rfl, rfl⟩ := hp
  have hh : kH D kStr e0 A s H [(pa, .inr (16, [.int 0, .ref pr, .ref pp, .ref pi, .ref pl, .ref pf, .ref pm, .ref ps, .ref pe, .int 0, .int 0])), (q1, .inr (3, [.int 0, .int (-1), .int 0, .ref pp])), (pp, .inr (4, [.int 0, .ref e0.1, .int 0])), (q2, .inr (3, [.int 0, .int (-1), .int 0, .ref pi])), (pi, .inr (4, [.int 0, .ref e0.1, .int 0])), (q3, .inr (3, [.int 0, .int (-1), .int 0, .ref pl])), (pl, .inr (4, [.int 0, .ref e0.1, .int 0])), (q4, .inr (3, [.int 0, .int (-1), .int 0, .ref ps])), (ps, .inr (4, [.int 0, .ref e0.1, .int 0])), (pe, .inr (4, [.int 0, .ref e0.1, .int 0])), (q5, .inr (3, [.int 0, .int (-1), .int 0, .ref pe]))] [] _ := hh
  refine W.eq (g2 := F0 m 215 ls [.ref q5]) (by first | rfl | decide) ?_
  refine lv_astore_n (lv' := [(3, .ref q5), (1, .long 7), (0, .ref pa)]) hx hb dX11_checksum_215 rfl hl (by decide) rfl (fun ls hl => ?_)
  refine lv_aload_n hx hb dX11_checksum_216 rfl (lv_at hl 0 rfl) ?_
  refine k_callF (C := RJx35411) (T := TJx35411) (N := 4) (ci := 3) (q0 := 10) (x := kHN) (wr := [(pa, .inr (16, [.int 0, .ref pr, .ref pp, .ref pi, .ref pl, .ref pf, .ref pm, .ref ps, .ref pe, .int 0, .int 0])), (q1, .inr (3, [.int 0, .int (-1), .int 0, .ref pp])), (pp, .inr (4, [.int 0, .ref e0.1, .int 0])), (q2, .inr (3, [.int 0, .int (-1), .int 0, .ref pi])), (pi, .inr (4, [.int 0, .ref e0.1, .int 0])), (q3, .inr (3, [.int 0, .int (-1), .int 0, .ref pl])), (pl, .inr (4, [.int 0, .ref e0.1, .int 0])), (q4, .inr (3, [.int 0, .int (-1), .int 0, .ref ps])), (ps, .inr (4, [.int 0, .ref e0.1, .int 0]))]) (rest := []) (own := RX11) ⟨hx, hb, hml, hown, hts⟩ (c_hasNext l hst D e0 q5 (-1) 0 pe 0 (.ref e0.1) ) (va_cwF 0 hts gi_c_X11_checksum_2 rfl rfl rfl hh.2.2.2.2.2.2.2.2.2.2.2.2.2.1 (by decide +kernel) ⟨Nat.le_of_ble_eq_true rfl, Nat.le_of_ble_eq_true rfl⟩) hh rfl rfl [10, 9] [0, 1, 2, 3, 4, 5, 6, 7, 8] [] rfl rfl rfl rfl (by decide) rfl rfl hl rfl (Nat.le_of_ble_eq_true rfl) dX11_checksum_217 ⟨Nat.le_of_ble_eq_true rfl, (Nat.le_of_ble_eq_true rfl)⟩ (fun v w ty1 H locs hp hh => ?_)
  obtain ⟨rfl, rfl, rfl⟩ := hp
  have hh : kH D kStr e0 A s H [(pa, .inr (16, [.int 0, .ref pr, .ref pp, .ref pi, .ref pl, .ref pf, .ref pm, .ref ps, .ref pe, .int 0, .int 0])), (q1, .inr (3, [.int 0, .int (-1), .int 0, .ref pp])), (pp, .inr (4, [.int 0, .ref e0.1, .int 0])), (q2, .inr (3, [.int 0, .int (-1), .int 0, .ref pi])), (pi, .inr (4, [.int 0, .ref e0.1, .int 0])), (q3, .inr (3, [.int 0, .int (-1), .int 0, .ref pl])), (pl, .inr (4, [.int 0, .ref e0.1, .int 0])), (q4, .inr (3, [.int 0, .int (-1), .int 0, .ref ps])), (ps, .inr (4, [.int 0, .ref e0.1, .int 0])), (q5, .inr (3, [.int 0, .int (-1), .int 0, .ref pe])), (pe, .inr (4, [.int 0, .ref e0.1, .int 0]))] [] _ := hh
  refine W.eq (g2 := F0 m 222 ls [.int 0]) (by first | rfl | decide) ?_
  refine lv_if_eq (tgt := 253) hx hb dX11_checksum_222 (by decide) (fun _ => ?_) (fun c_222 => absurd (by decide) c_222)
  refine lv_lload_n hx hb dX11_checksum_253 rfl (lv_at hl 1 rfl) ?_
  exact k_endl hx hb hr hlocks hh ⟨rfl, rfl, rfl⟩ [0] [] rfl rfl rfl (Nat.le_of_ble_eq_true rfl) (Nat.le_of_ble_eq_true rfl) dX11_checksum_254
def wo_c_X11_reel : List Cond := [Cond.fieldLink RX11 19 "SegueworksModel" "reels" "Ljava/util/ArrayList;", Cond.fieldLink RX11 46 "SegueworksModel" "thrown" "I", Cond.classLink RX11 16 RJx4a65c, Cond.instantiable RJx4a65c 3, Cond.initialized RJx4a65c, Cond.methodLink RX11 18 yJx4a65c_init_da8c8, Cond.instanceMethod yJx4a65c_init_da8c8]
def wk_c_X11_reel : List Cond := Cond.code yX11_reel cX11_reel 1 (some .int) :: (wo_c_X11_reel ++ ((u_ws RX11 TX11 11) ++ ((wsV RX11 50 RJx4a65c yJx4a65c_size_8abf5 wk_c_size) ++ ((u_ws RJx4a65c TJx4a65c 3) ++ ((wk_c_Jx4a65c_init_da8c8) ++ (wsV RX11 58 RJx4a65c yJx4a65c_add_9ea2d wk_c_add_L))))))
theorem wo_c_X11_reel_in : ∀ w ∈ wo_c_X11_reel, w ∈ wk_c_X11_reel := fun w h => List.mem_cons_of_mem _ (List.mem_append_left _ h)
theorem ws_c_X11_reel_0 : ∀ w ∈ u_ws RX11 TX11 11, w ∈ wk_c_X11_reel := fun w h => List.mem_cons_of_mem _ (List.mem_append_right _ (List.mem_append_left _ h))
theorem gi_c_X11_reel_1 : GoodIn wk_c_X11_reel (wsV RX11 50 RJx4a65c yJx4a65c_size_8abf5 wk_c_size) := fun w h => ⟨List.mem_cons_of_mem _ (List.mem_append_right _ (List.mem_append_right _ (List.mem_append_left _ h))), good_of_word (kg_V gk_c_size w h)⟩
theorem ws_c_X11_reel_2 : ∀ w ∈ u_ws RJx4a65c TJx4a65c 3, w ∈ wk_c_X11_reel := fun w h => List.mem_cons_of_mem _ (List.mem_append_right _ (List.mem_append_right _ (List.mem_append_right _ (List.mem_append_left _ h))))
theorem gi_c_X11_reel_3 : GoodIn wk_c_X11_reel (wk_c_Jx4a65c_init_da8c8) := fun w h => ⟨List.mem_cons_of_mem _ (List.mem_append_right _ (List.mem_append_right _ (List.mem_append_right _ (List.mem_append_right _ (List.mem_append_left _ h))))), good_of_word (gk_c_Jx4a65c_init_da8c8 w h)⟩
theorem gi_c_X11_reel_4 : GoodIn wk_c_X11_reel (wsV RX11 58 RJx4a65c yJx4a65c_add_9ea2d wk_c_add_L) := fun w h => ⟨List.mem_cons_of_mem _ (List.mem_append_right _ (List.mem_append_right _ (List.mem_append_right _ (List.mem_append_right _ (List.mem_append_right _ h))))), good_of_word (kg_V gk_c_add_L w h)⟩
theorem gk_c_X11_reel : ∀ w ∈ wk_c_X11_reel, goodWord w = true := List.forall_mem_cons.mpr ⟨rfl, (List.forall_mem_append.mpr ⟨(show ∀ w ∈ wo_c_X11_reel, goodWord w = true by decide +kernel), (List.forall_mem_append.mpr ⟨(show ∀ w ∈ u_ws RX11 TX11 11, goodWord w = true by decide +kernel), (List.forall_mem_append.mpr ⟨(kg_V gk_c_size), (List.forall_mem_append.mpr ⟨(show ∀ w ∈ u_ws RJx4a65c TJx4a65c 3, goodWord w = true by decide +kernel), (List.forall_mem_append.mpr ⟨gk_c_Jx4a65c_init_da8c8, (kg_V gk_c_add_L)⟩)⟩)⟩)⟩)⟩)⟩
set_option maxHeartbeats 4000000 in
set_option maxRecDepth 100000 in
theorem c_X11_reel (l : Launch) (hst : l.stackTraces = false) (D : va_G) (e0 : kE) (pa : Nat) (pt : Int32) (pr : Nat) (pp : Nat) (pi : Nat) (pl : Nat) (pf : Nat) (pm : Nat) (ps : Nat) (pe : Nat)  : kM l yX11_reel wk_c_X11_reel 5 116 2 13 D kStr e0 [] [(pa, .inr (16, [.int pt, .ref pr, .ref pp, .ref pi, .ref pl, .ref pf, .ref pm, .ref ps, .ref pe, .int 0, .int 0])), (pr, .inr (4, [.int 0, .ref e0.1, .int 0]))] [.ref pa] (fun v w t => v = some (.int 0) ∧ w = [(pa, .inr (16, [.int 0, .ref pr, .ref pp, .ref pi, .ref pl, .ref pf, .ref pm, .ref ps, .ref pe, .int 0, .int 0]))] ∧ t = []) (fun _ => False) := by
  refine k_of (cc := cX11_reel) (maxL := 1) (ret := (some .int)) (by decide) rfl (Nat.le_of_ble_eq_true rfl) ?_
  intro p e s m args below meth c A ls hx hb hr hts hown hlocks hml hex hh hl
  have hown : s.vm.findClass RX11 = some m.cls := hown
  have hl : lv_has ls 1 [(0, .ref pa)] := hl
  refine lv_aload_n hx hb dX11_reel_0 rfl (lv_at hl 0 rfl) ?_
  refine lv_aload_n hx hb dX11_reel_1 rfl (lv_at hl 0 rfl) ?_
  refine k_get (C := RX11) (T := TX11) (N := 11) (ci := 16) (v := .ref pr) hx hb hts ws_c_X11_reel_0 hown hh 0 rfl rfl 1 (by decide) (hts _ (wo_c_X11_reel_in _ (List.mem_of_getElem? (i := 0) rfl))) rfl dX11_reel_2 ?_
  refine k_callV (C := RJx4a65c) (T := TJx4a65c) (N := 3) (ci := 4) (q0 := 1) (wr := [(pa, .inr (16, [.int pt, .ref pr, .ref pp, .ref pi, .ref pl, .ref pf, .ref pm, .ref ps, .ref pe, .int 0, .int 0]))]) (rest := [.ref pa]) (own := RX11) ⟨hx, hb, hml, hown, hts⟩ (c_size l hst D e0 pr 0 (.ref e0.1) 0 ) (cwV 0 hts gi_c_X11_reel_1 rfl rfl rfl (by decide +kernel) ⟨Nat.le_of_ble_eq_true rfl, Nat.le_of_ble_eq_true rfl⟩) hh rfl rfl [1] [0] [] rfl rfl rfl rfl (by decide) rfl rfl hl rfl (Nat.le_of_ble_eq_true rfl) dX11_reel_5 ⟨Nat.le_of_ble_eq_true rfl, (Nat.le_of_ble_eq_true rfl)⟩ (fun _ _ _ _ _ h => h.elim) (fun v w ty1 H locs hp hh => ?_)
  obtain ⟨rfl, rfl, rfl⟩ := hp
  have hh : kH D kStr e0 A s H [(pa, .inr (16, [.int pt, .ref pr, .ref pp, .ref pi, .ref pl, .ref pf, .ref pm, .ref ps, .ref pe, .int 0, .int 0])), (pr, .inr (4, [.int 0, .ref e0.1, .int 0]))] [] _ := hh
  refine W.eq (g2 := F0 m 8 ls [.int 0, .ref pa]) (by first | rfl | decide) ?_
  refine lv_bipush (v := 6) hx hb dX11_reel_8 (by decide) ?_
  refine lv_icmp_ne (tgt := 17) hx hb dX11_reel_10 (by decide) (fun _ => ?_) (fun c_10 => absurd c_10 (by decide))
  refine lv_iconst (v := 0) hx hb dX11_reel_17 (by decide) ?_
  refine k_put (C := RX11) (T := TX11) (N := 11) (ci := 16) (v := .int 0) (ws' := [(pa, .inr (16, [.int 0, .ref pr, .ref pp, .ref pi, .ref pl, .ref pf, .ref pm, .ref ps, .ref pe, .int 0, .int 0])), (pr, .inr (4, [.int 0, .ref e0.1, .int 0]))]) hx hb hts ws_c_X11_reel_0 tyX11 tyX11_ok nmX11 hown hh 0 rfl rfl 0 (by decide) (hts _ (wo_c_X11_reel_in _ (List.mem_of_getElem? (i := 1) rfl))) rfl rfl rfl (Nat.le_of_ble_eq_true rfl) dX11_reel_18 rfl (fun H locs hh => ?_)
  refine lv_aload_n hx hb dX11_reel_21 rfl (lv_at hl 0 rfl) ?_
  refine k_get (C := RX11) (T := TX11) (N := 11) (ci := 16) (v := .int 0) hx hb hts ws_c_X11_reel_0 hown hh 0 rfl rfl 0 (by decide) (hts _ (wo_c_X11_reel_in _ (List.mem_of_getElem? (i := 1) rfl))) rfl dX11_reel_22 ?_
  refine lv_if_le (tgt := 30) hx hb dX11_reel_25 (by decide) (fun _ => ?_) (fun c_25 => absurd (by decide) c_25)
  refine lv_aload_n hx hb dX11_reel_30 rfl (lv_at hl 0 rfl) ?_
  refine k_get (C := RX11) (T := TX11) (N := 11) (ci := 16) (v := .ref pr) hx hb hts ws_c_X11_reel_0 hown hh 0 rfl rfl 1 (by decide) (hts _ (wo_c_X11_reel_in _ (List.mem_of_getElem? (i := 0) rfl))) rfl dX11_reel_31 ?_
  refine k_new (C := RJx4a65c) (T := TJx4a65c) (N := 3) (ci := 4) (fs := [.int 0, .null, .int 0]) hx hb hts ws_c_X11_reel_2 tyJx4a65c tyJx4a65c_ok hown (hts _ (wo_c_X11_reel_in _ (List.mem_of_getElem? (i := 2) rfl))) (hts _ (wo_c_X11_reel_in _ (List.mem_of_getElem? (i := 3) rfl))) (hts _ (wo_c_X11_reel_in _ (List.mem_of_getElem? (i := 4) rfl))) hh rfl (fun j hj => by rcases (show j = 0 ∨ j = 1 ∨ j = 2 by omega) with rfl | rfl | rfl <;> rfl) (Nat.le_of_ble_eq_true rfl) (Nat.le_of_ble_eq_true rfl) dX11_reel_34 (fun q1 H hh => ?_)
  have hh : kH D kStr e0 A s H [(pa, .inr (16, [.int 0, .ref pr, .ref pp, .ref pi, .ref pl, .ref pf, .ref pm, .ref ps, .ref pe, .int 0, .int 0])), (pr, .inr (4, [.int 0, .ref e0.1, .int 0])), (q1, .inr (4, [.int 0, .null, .int 0]))] [] _ := hh
  refine lv_dup hx hb dX11_reel_37 rfl ?_
  refine k_callI (wr := [(pa, .inr (16, [.int 0, .ref pr, .ref pp, .ref pi, .ref pl, .ref pf, .ref pm, .ref ps, .ref pe, .int 0, .int 0])), (pr, .inr (4, [.int 0, .ref e0.1, .int 0]))]) (rest := [.ref q1, .ref pr]) (own := RX11) ⟨hx, hb, hml, hown, hts⟩ (c_Jx4a65c_init_da8c8 l hst D e0 q1 ) (cwI 0 hts gi_c_X11_reel_3 rfl rfl rfl (hts _ (wo_c_X11_reel_in _ (List.mem_of_getElem? (i := 4) rfl))) (hts _ (wo_c_X11_reel_in _ (List.mem_of_getElem? (i := 5) rfl))) (hts _ (wo_c_X11_reel_in _ (List.mem_of_getElem? (i := 6) rfl))) rfl (by decide +kernel) ⟨Nat.le_of_ble_eq_true rfl, Nat.le_of_ble_eq_true rfl⟩) hh [2] [0, 1] [] rfl rfl rfl rfl (by decide) rfl rfl hl rfl (Nat.le_of_ble_eq_true rfl) dX11_reel_38 ⟨Nat.le_of_ble_eq_true rfl, (Nat.le_of_ble_eq_true rfl)⟩ (fun v w ty1 H locs hp hh => ?_)
  obtain ⟨rfl, rfl, rfl⟩ := hp
  have hh : kH D kStr e0 A s H [(pa, .inr (16, [.int 0, .ref pr, .ref pp, .ref pi, .ref pl, .ref pf, .ref pm, .ref ps, .ref pe, .int 0, .int 0])), (pr, .inr (4, [.int 0, .ref e0.1, .int 0])), (q1, .inr (4, [.int 0, .ref e0.1, .int 0]))] [] _ := hh
  refine W.eq (g2 := F0 m 41 ls [.ref q1, .ref pr]) (by first | rfl | decide) ?_
  refine k_callV (C := RJx4a65c) (T := TJx4a65c) (N := 3) (ci := 4) (q0 := 1) (wr := [(pa, .inr (16, [.int 0, .ref pr, .ref pp, .ref pi, .ref pl, .ref pf, .ref pm, .ref ps, .ref pe, .int 0, .int 0]))]) (rest := []) (own := RX11) ⟨hx, hb, hml, hown, hts⟩ (c_add_L l hst D e0 pr q1 0 (.ref e0.1) 0 ) (cwV 1 hts gi_c_X11_reel_4 rfl rfl rfl (by decide +kernel) ⟨Nat.le_of_ble_eq_true rfl, Nat.le_of_ble_eq_true rfl⟩) hh rfl rfl [1, 2] [0] [] rfl rfl rfl rfl (by decide) rfl rfl hl rfl (Nat.le_of_ble_eq_true rfl) dX11_reel_41 ⟨Nat.le_of_ble_eq_true rfl, (Nat.le_of_ble_eq_true rfl)⟩ (fun _ _ _ _ _ h => h.elim) (fun v w ty1 H locs hp hh => ?_)
  obtain ⟨q2, y3, rfl, rfl, rfl⟩ := hp
  have hh : kH D kStr e0 A s H [(pa, .inr (16, [.int 0, .ref pr, .ref pp, .ref pi, .ref pl, .ref pf, .ref pm, .ref ps, .ref pe, .int 0, .int 0])), (pr, .inr (4, [.int 1, .ref q2, .int 1])), (q2, .inl (y3, 10, .inr (.inr (.inr (.inr (va_up ((fun _ => none)) (0 : Int32).toNatClampNeg (some q1))))))), (q1, .inr (4, [.int 0, .ref e0.1, .int 0]))] [(y3, .object "java/lang/Object")] _ := hh
  refine W.eq (g2 := F0 m 44 ls [.int 1]) (by first | rfl | decide) ?_
  refine lv_pop hx hb dX11_reel_44 rfl ?_
  refine lv_aload_n hx hb dX11_reel_45 rfl (lv_at hl 0 rfl) ?_
  refine k_get (C := RX11) (T := TX11) (N := 11) (ci := 16) (v := .ref pr) hx hb hts ws_c_X11_reel_0 hown hh 0 rfl rfl 1 (by decide) (hts _ (wo_c_X11_reel_in _ (List.mem_of_getElem? (i := 0) rfl))) rfl dX11_reel_46 ?_
  refine k_callV (C := RJx4a65c) (T := TJx4a65c) (N := 3) (ci := 4) (q0 := 1) (wr := [(pa, .inr (16, [.int 0, .ref pr, .ref pp, .ref pi, .ref pl, .ref pf, .ref pm, .ref ps, .ref pe, .int 0, .int 0])), (q2, .inl (y3, 10, .inr (.inr (.inr (.inr (va_up ((fun _ => none)) (0 : Int32).toNatClampNeg (some q1))))))), (q1, .inr (4, [.int 0, .ref e0.1, .int 0]))]) (rest := []) (own := RX11) ⟨hx, hb, hml, hown, hts⟩ (c_size l hst D e0 pr 1 (.ref q2) 1 ) (cwV 0 hts gi_c_X11_reel_1 rfl rfl rfl (by decide +kernel) ⟨Nat.le_of_ble_eq_true rfl, Nat.le_of_ble_eq_true rfl⟩) hh rfl rfl [1] [0, 2, 3] [] rfl rfl rfl rfl (by decide) rfl rfl hl rfl (Nat.le_of_ble_eq_true rfl) dX11_reel_49 ⟨Nat.le_of_ble_eq_true rfl, (Nat.le_of_ble_eq_true rfl)⟩ (fun _ _ _ _ _ h => h.elim) (fun v w ty1 H locs hp hh => ?_)
  obtain ⟨rfl, rfl, rfl⟩ := hp
  have hh : kH D kStr e0 A s H [(pa, .inr (16, [.int 0, .ref pr, .ref pp, .ref pi, .ref pl, .ref pf, .ref pm, .ref ps, .ref pe, .int 0, .int 0])), (q2, .inl (y3, 10, .inr (.inr (.inr (.inr (va_up ((fun _ => none)) (0 : Int32).toNatClampNeg (some q1))))))), (q1, .inr (4, [.int 0, .ref e0.1, .int 0])), (pr, .inr (4, [.int 1, .ref q2, .int 1]))] [(y3, .object "java/lang/Object")] _ := hh
  refine W.eq (g2 := F0 m 52 ls [.int 1]) (by first | rfl | decide) ?_
  refine lv_iconst (v := 1) hx hb dX11_reel_52 (by decide) ?_
  refine lv_isub hx hb dX11_reel_53 ?_
  refine W.eq (g2 := F0 m 54 ls [.int 0]) (by first | rfl | decide) ?_
  exact k_endi hx hb hr hlocks hh ⟨rfl, rfl, rfl⟩ [0] [] rfl rfl rfl (Nat.le_of_ble_eq_true rfl) (Nat.le_of_ble_eq_true rfl) dX11_reel_54
def wo_c_X5_init : List Cond := [Cond.methodLink RX5 3 objectInit, Cond.instanceMethod objectInit, Cond.code objectInit ⟨#[0xb1]⟩ 1 none, Cond.arrayClass .int, Cond.fieldLink RX5 9 "Segueworks$Reel" "samples" "[I"]
def wk_c_X5_init : List Cond := Cond.code yX5_init cX5_init 1 none :: (wo_c_X5_init ++ (u_ws RX5 TX5 2))
theorem wo_c_X5_init_in : ∀ w ∈ wo_c_X5_init, w ∈ wk_c_X5_init := fun w h => List.mem_cons_of_mem _ (List.mem_append_left _ h)
theorem ws_c_X5_init_0 : ∀ w ∈ u_ws RX5 TX5 2, w ∈ wk_c_X5_init := fun w h => List.mem_cons_of_mem _ (List.mem_append_right _ h)
theorem gk_c_X5_init : ∀ w ∈ wk_c_X5_init, goodWord w = true := List.forall_mem_cons.mpr ⟨rfl, (List.forall_mem_append.mpr ⟨(show ∀ w ∈ wo_c_X5_init, goodWord w = true by decide +kernel), (show ∀ w ∈ u_ws RX5 TX5 2, goodWord w = true by decide +kernel)⟩)⟩
set_option maxHeartbeats 4000000 in
set_option maxRecDepth 100000 in
theorem c_X5_init (l : Launch) (hst : l.stackTraces = false) (D : va_G) (e0 : kE) (pa : Nat)  : kI l yX5_init wk_c_X5_init 1 20 1 200 D kStr e0 [] [(pa, .inr (10, [.null, .int 0]))] [.ref pa] (fun v w t => ∃ (q1 : Nat), v = none ∧ w = [(pa, .inr (10, [.ref q1, .int 0]))] ∧ t = []) := by
  refine k_ofI (cc := cX5_init) (maxL := 1) (ret := none) (by decide) rfl (Nat.le_of_ble_eq_true rfl) ?_
  intro p e s m args below meth c A ls hx hb hr hts hown hlocks hml hin hh hl
  have hown : s.vm.findClass RX5 = some m.cls := hown
  have hl : lv_has ls 1 [(0, .ref pa)] := hl
  have hin : meth.name = "<init>" := hin
  refine lv_aload_n hx hb dX5_init_0 rfl (lv_at hl 0 rfl) ?_
  refine W.objInit hx hb hown (hts _ (wo_c_X5_init_in _ (List.mem_of_getElem? (i := 0) rfl))) (hts _ (wo_c_X5_init_in _ (List.mem_of_getElem? (i := 1) rfl))) (hts _ (wo_c_X5_init_in _ (List.mem_of_getElem? (i := 2) rfl))) rfl (by rw [hml]; exact hl.1) rfl dX5_init_1 (Nat.le_of_ble_eq_true rfl) (Nat.le_of_ble_eq_true rfl) ?_
  refine W.eq (g2 := F0 m 4 ls []) rfl ?_
  refine lv_aload_n hx hb dX5_init_4 rfl (lv_at hl 0 rfl) ?_
  refine lv_sipush (v := 200) hx hb dX5_init_5 (by decide) ?_
  refine k_newa (atype := .int) (ty := .int) (N' := 200) (a0 := (200, .inl (fun _ => 0))) hx hb (hts _ (wo_c_X5_init_in _ (List.mem_of_getElem? (i := 3) rfl))) rfl hh (fun cA => rfl) (by decide) (by decide) (Nat.le_of_ble_eq_true rfl) (Nat.le_of_ble_eq_true rfl) (Nat.le_of_ble_eq_true rfl) dX5_init_8 (fun q1 y2 H hh => ?_)
  have hh : kH D kStr e0 A s H [(pa, .inr (10, [.null, .int 0])), (q1, .inl (y2, 200, .inl (fun _ => 0)))] [(y2, .int)] _ := hh
  refine k_putF (C := RX5) (T := TX5) (N := 2) (ci := 10) (v := .ref q1) (ws' := [(pa, .inr (10, [.ref q1, .int 0])), (q1, .inl (y2, 200, .inl (fun _ => 0)))]) hx hb hts ws_c_X5_init_0 tyX5 tyX5_ok nmX5 hown hh 0 rfl rfl 0 (by decide) (hts _ (wo_c_X5_init_in _ (List.mem_of_getElem? (i := 4) rfl))) rfl hin rfl rfl rfl (Nat.le_of_ble_eq_true rfl) dX5_init_10 rfl (fun H locs hh => ?_)
  exact k_endV hx hb hr hlocks hh ⟨q1, rfl, rfl, rfl⟩ [0] [] rfl rfl rfl (Nat.le_of_ble_eq_true rfl) (Nat.le_of_ble_eq_true rfl) dX5_init_13
def wo_c_X6_reel : List Cond := [Cond.fieldLink RX6 41 "Segueworks" "reelCount" "I", Cond.fieldLink RX6 11 "Segueworks" "reels" "[LSegueworks$Reel;", Cond.classLink RX6 9 RX5, Cond.instantiable RX5 2, Cond.initialized RX5, Cond.methodLink RX6 52 yX5_init, Cond.instanceMethod yX5_init]
def wk_c_X6_reel : List Cond := Cond.code yX6_reel cX6_reel 1 (some .int) :: (wo_c_X6_reel ++ ((u_ws RX6 TX6 8) ++ ((u_ws RX5 TX5 2) ++ (wk_c_X5_init))))
theorem wo_c_X6_reel_in : ∀ w ∈ wo_c_X6_reel, w ∈ wk_c_X6_reel := fun w h => List.mem_cons_of_mem _ (List.mem_append_left _ h)
theorem ws_c_X6_reel_0 : ∀ w ∈ u_ws RX6 TX6 8, w ∈ wk_c_X6_reel := fun w h => List.mem_cons_of_mem _ (List.mem_append_right _ (List.mem_append_left _ h))
theorem ws_c_X6_reel_1 : ∀ w ∈ u_ws RX5 TX5 2, w ∈ wk_c_X6_reel := fun w h => List.mem_cons_of_mem _ (List.mem_append_right _ (List.mem_append_right _ (List.mem_append_left _ h)))
theorem gi_c_X6_reel_2 : GoodIn wk_c_X6_reel (wk_c_X5_init) := fun w h => ⟨List.mem_cons_of_mem _ (List.mem_append_right _ (List.mem_append_right _ (List.mem_append_right _ h))), good_of_word (gk_c_X5_init w h)⟩
theorem gk_c_X6_reel : ∀ w ∈ wk_c_X6_reel, goodWord w = true := List.forall_mem_cons.mpr ⟨rfl, (List.forall_mem_append.mpr ⟨(show ∀ w ∈ wo_c_X6_reel, goodWord w = true by decide +kernel), (List.forall_mem_append.mpr ⟨(show ∀ w ∈ u_ws RX6 TX6 8, goodWord w = true by decide +kernel), (List.forall_mem_append.mpr ⟨(show ∀ w ∈ u_ws RX5 TX5 2, goodWord w = true by decide +kernel), gk_c_X5_init⟩)⟩)⟩)⟩
set_option maxHeartbeats 4000000 in
set_option maxRecDepth 100000 in
theorem c_X6_reel (l : Launch) (hst : l.stackTraces = false) (D : va_G) (e0 : kE) (pa : Nat) (prl : Nat) (ppc : Nat) (ppg : Nat) (ppl : Nat) (ped : Nat) (py9 : ClassId) (pf9 : Nat → Option Nat)  : kM l yX6_reel wk_c_X6_reel 2 40 2 202 D kStr e0 [(py9, .object "Segueworks$Reel")] [(pa, .inr (11, [.ref prl, .int 0, .ref ppc, .int 0, .ref ppg, .ref ppl, .ref ped, .int 0])), (prl, .inl (py9, 6, .inr (.inr (.inr (.inr pf9)))))] [.ref pa] (fun v w t => v = some (.int 0) ∧ w = [(pa, .inr (11, [.ref prl, .int 1, .ref ppc, .int 0, .ref ppg, .ref ppl, .ref ped, .int 0]))] ∧ t = []) (fun _ => False) := by
  refine k_of (cc := cX6_reel) (maxL := 1) (ret := (some .int)) (by decide) rfl (Nat.le_of_ble_eq_true rfl) ?_
  intro p e s m args below meth c A ls hx hb hr hts hown hlocks hml hex hh hl
  have hown : s.vm.findClass RX6 = some m.cls := hown
  have hl : lv_has ls 1 [(0, .ref pa)] := hl
  refine lv_aload_n hx hb dX6_reel_0 rfl (lv_at hl 0 rfl) ?_
  refine k_get (C := RX6) (T := TX6) (N := 8) (ci := 11) (v := .int 0) hx hb hts ws_c_X6_reel_0 hown hh 0 rfl rfl 1 (by decide) (hts _ (wo_c_X6_reel_in _ (List.mem_of_getElem? (i := 0) rfl))) rfl dX6_reel_1 ?_
  refine lv_bipush (v := 6) hx hb dX6_reel_4 (by decide) ?_
  refine lv_icmp_lt (tgt := 19) hx hb dX6_reel_6 (by decide) (fun _ => ?_) (fun c_6 => absurd (by decide) c_6)
  refine lv_aload_n hx hb dX6_reel_19 rfl (lv_at hl 0 rfl) ?_
  refine k_get (C := RX6) (T := TX6) (N := 8) (ci := 11) (v := .ref prl) hx hb hts ws_c_X6_reel_0 hown hh 0 rfl rfl 0 (by decide) (hts _ (wo_c_X6_reel_in _ (List.mem_of_getElem? (i := 1) rfl))) rfl dX6_reel_20 ?_
  refine lv_aload_n hx hb dX6_reel_23 rfl (lv_at hl 0 rfl) ?_
  refine k_get (C := RX6) (T := TX6) (N := 8) (ci := 11) (v := .int 0) hx hb hts ws_c_X6_reel_0 hown hh 0 rfl rfl 1 (by decide) (hts _ (wo_c_X6_reel_in _ (List.mem_of_getElem? (i := 0) rfl))) rfl dX6_reel_24 ?_
  refine k_new (C := RX5) (T := TX5) (N := 2) (ci := 10) (fs := [.null, .int 0]) hx hb hts ws_c_X6_reel_1 tyX5 tyX5_ok hown (hts _ (wo_c_X6_reel_in _ (List.mem_of_getElem? (i := 2) rfl))) (hts _ (wo_c_X6_reel_in _ (List.mem_of_getElem? (i := 3) rfl))) (hts _ (wo_c_X6_reel_in _ (List.mem_of_getElem? (i := 4) rfl))) hh rfl (fun j hj => by rcases (show j = 0 ∨ j = 1 by omega) with rfl | rfl <;> rfl) (Nat.le_of_ble_eq_true rfl) (Nat.le_of_ble_eq_true rfl) dX6_reel_27 (fun q1 H hh => ?_)
  have hh : kH D kStr e0 A s H [(pa, .inr (11, [.ref prl, .int 0, .ref ppc, .int 0, .ref ppg, .ref ppl, .ref ped, .int 0])), (prl, .inl (py9, 6, .inr (.inr (.inr (.inr pf9))))), (q1, .inr (10, [.null, .int 0]))] [(py9, .object "Segueworks$Reel")] _ := hh
  refine lv_dup hx hb dX6_reel_30 rfl ?_
  refine k_callI (wr := [(pa, .inr (11, [.ref prl, .int 0, .ref ppc, .int 0, .ref ppg, .ref ppl, .ref ped, .int 0])), (prl, .inl (py9, 6, .inr (.inr (.inr (.inr pf9)))))]) (rest := [.ref q1, .int 0, .ref prl]) (own := RX6) ⟨hx, hb, hml, hown, hts⟩ (c_X5_init l hst D e0 q1 ) (cwI 0 hts gi_c_X6_reel_2 rfl rfl rfl (hts _ (wo_c_X6_reel_in _ (List.mem_of_getElem? (i := 4) rfl))) (hts _ (wo_c_X6_reel_in _ (List.mem_of_getElem? (i := 5) rfl))) (hts _ (wo_c_X6_reel_in _ (List.mem_of_getElem? (i := 6) rfl))) rfl (by decide +kernel) ⟨Nat.le_of_ble_eq_true rfl, Nat.le_of_ble_eq_true rfl⟩) hh [2] [0, 1] [] rfl rfl rfl rfl (by decide) rfl rfl hl rfl (Nat.le_of_ble_eq_true rfl) dX6_reel_31 ⟨Nat.le_of_ble_eq_true rfl, (Nat.le_of_ble_eq_true rfl)⟩ (fun v w ty1 H locs hp hh => ?_)
  obtain ⟨q2, rfl, rfl, rfl⟩ := hp
  have hh : kH D kStr e0 A s H [(pa, .inr (11, [.ref prl, .int 0, .ref ppc, .int 0, .ref ppg, .ref ppl, .ref ped, .int 0])), (prl, .inl (py9, 6, .inr (.inr (.inr (.inr pf9))))), (q1, .inr (10, [.ref q2, .int 0]))] [(py9, .object "Segueworks$Reel")] _ := hh
  refine W.eq (g2 := F0 m 34 ls [.ref q1, .int 0, .ref prl]) (by first | rfl | decide) ?_
  refine k_astq (ws' := [(pa, .inr (11, [.ref prl, .int 0, .ref ppc, .int 0, .ref ppg, .ref ppl, .ref ped, .int 0])), (prl, .inl (py9, 6, .inr (.inr (.inr (.inr (va_up (pf9) (0 : Int32).toNatClampNeg (some q1))))))), (q1, .inr (10, [.ref q2, .int 0]))]) hx hb hh 1 0 2 10 rfl rfl rfl rfl (by unfold vp_in; decide) dX6_reel_34 rfl (fun H locs hh => ?_)
  refine lv_aload_n hx hb dX6_reel_35 rfl (lv_at hl 0 rfl) ?_
  refine lv_dup hx hb dX6_reel_36 rfl ?_
  refine k_get (C := RX6) (T := TX6) (N := 8) (ci := 11) (v := .int 0) hx hb hts ws_c_X6_reel_0 hown hh 0 rfl rfl 1 (by decide) (hts _ (wo_c_X6_reel_in _ (List.mem_of_getElem? (i := 0) rfl))) rfl dX6_reel_37 ?_
  refine lv_iconst (v := 1) hx hb dX6_reel_40 (by decide) ?_
  refine lv_iadd hx hb dX6_reel_41 ?_
  refine W.eq (g2 := F0 m 42 ls [.int 1, .ref pa]) (by first | rfl | decide) ?_
  refine k_put (C := RX6) (T := TX6) (N := 8) (ci := 11) (v := .int 1) (ws' := [(pa, .inr (11, [.ref prl, .int 1, .ref ppc, .int 0, .ref ppg, .ref ppl, .ref ped, .int 0])), (prl, .inl (py9, 6, .inr (.inr (.inr (.inr (va_up (pf9) (0 : Int32).toNatClampNeg (some q1))))))), (q1, .inr (10, [.ref q2, .int 0]))]) hx hb hts ws_c_X6_reel_0 tyX6 tyX6_ok nmX6 hown hh 0 rfl rfl 1 (by decide) (hts _ (wo_c_X6_reel_in _ (List.mem_of_getElem? (i := 0) rfl))) rfl rfl rfl (Nat.le_of_ble_eq_true rfl) dX6_reel_42 rfl (fun H locs hh => ?_)
  refine lv_aload_n hx hb dX6_reel_45 rfl (lv_at hl 0 rfl) ?_
  refine k_get (C := RX6) (T := TX6) (N := 8) (ci := 11) (v := .int 1) hx hb hts ws_c_X6_reel_0 hown hh 0 rfl rfl 1 (by decide) (hts _ (wo_c_X6_reel_in _ (List.mem_of_getElem? (i := 0) rfl))) rfl dX6_reel_46 ?_
  refine lv_iconst (v := 1) hx hb dX6_reel_49 (by decide) ?_
  refine lv_isub hx hb dX6_reel_50 ?_
  refine W.eq (g2 := F0 m 51 ls [.int 0]) (by first | rfl | decide) ?_
  exact k_endi hx hb hr hlocks hh ⟨rfl, rfl, rfl⟩ [0] [] rfl rfl rfl (Nat.le_of_ble_eq_true rfl) (Nat.le_of_ble_eq_true rfl) dX6_reel_51
def wo_c_X6_silence_bad : List Cond := []
def wk_c_X6_silence_bad : List Cond := Cond.code yX6_silence cX6_silence 2 (some .int) :: (wo_c_X6_silence_bad ++ (va_wsS RX6 57 yX6_needRange wk_c_X6_needRange_bad))
theorem wo_c_X6_silence_bad_in : ∀ w ∈ wo_c_X6_silence_bad, w ∈ wk_c_X6_silence_bad := fun w h => List.mem_cons_of_mem _ (List.mem_append_left _ h)
theorem gi_c_X6_silence_bad_0 : GoodIn wk_c_X6_silence_bad (va_wsS RX6 57 yX6_needRange wk_c_X6_needRange_bad) := fun w h => ⟨List.mem_cons_of_mem _ (List.mem_append_right _ h), good_of_word (kg_S gk_c_X6_needRange_bad w h)⟩
theorem gk_c_X6_silence_bad : ∀ w ∈ wk_c_X6_silence_bad, goodWord w = true := List.forall_mem_cons.mpr ⟨rfl, (List.forall_mem_append.mpr ⟨(show ∀ w ∈ wo_c_X6_silence_bad, goodWord w = true by decide +kernel), (kg_S gk_c_X6_needRange_bad)⟩)⟩
set_option maxHeartbeats 4000000 in
set_option maxRecDepth 100000 in
theorem c_X6_silence_bad (l : Launch) (hst : l.stackTraces = false) (D : va_G) (e0 : kE) (pa : Nat) (prl : Nat) (ppc : Nat) (ppg : Nat) (ppl : Nat) (ped : Nat) (a1 : Int32) (h : ¬ (1 ≤ a1 ∧ a1 ≤ 200)) : kM l yX6_silence wk_c_X6_silence_bad 7 122 1 6 D kStr e0 [] [(pa, .inr (11, [.ref prl, .int 0, .ref ppc, .int 0, .ref ppg, .ref ppl, .ref ped, .int 0]))] [.ref pa, .int a1] (fun _ _ _ => False) (fun E => E = "java/lang/IllegalArgumentException") := by
  refine k_of (cc := cX6_silence) (maxL := 2) (ret := (some .int)) (by decide) rfl (Nat.le_of_ble_eq_true rfl) ?_
  intro p e s m args below meth c A ls hx hb hr hts hown hlocks hml hex hh hl
  have hown : s.vm.findClass RX6 = some m.cls := hown
  have hl : lv_has ls 2 [(0, .ref pa), (1, .int a1)] := hl
  refine lv_iload_n hx hb dX6_silence_0 rfl (lv_at hl 1 rfl) ?_
  refine lv_iconst (v := 1) hx hb dX6_silence_1 (by decide) ?_
  refine lv_sipush (v := 200) hx hb dX6_silence_2 (by decide) ?_
  refine k_callS (wr := [(pa, .inr (11, [.ref prl, .int 0, .ref ppc, .int 0, .ref ppg, .ref ppl, .ref ped, .int 0]))]) (rest := []) (own := RX6) ⟨hx, hb, hml, hown, hts⟩ (c_X6_needRange_bad l hst D e0 a1 1 200 h) (va_cwS 3 hts gi_c_X6_silence_bad_0 rfl rfl rfl (by decide +kernel) ⟨Nat.le_of_ble_eq_true rfl, Nat.le_of_ble_eq_true rfl⟩) hh [] [0] [] rfl rfl rfl rfl (by decide) rfl rfl hl rfl (Nat.le_of_ble_eq_true rfl) dX6_silence_5 ⟨Nat.le_of_ble_eq_true rfl, (Nat.le_of_ble_eq_true rfl)⟩ (fun E ce q9 H locs hE hh hq hv hcl => ?_) (fun _ _ _ _ _ h _ => h.elim)
  exact k_out hex hlocks hE hh hq hv hcl (Nat.le_of_ble_eq_true rfl) (Nat.le_of_ble_eq_true rfl)
def wo_c_X11_adds_bad : List Cond := [Cond.fieldLink RX11 46 "SegueworksModel" "thrown" "I"]
def wk_c_X11_adds_bad : List Cond := Cond.code yX11_adds cX11_adds 5 (some .int) :: (wo_c_X11_adds_bad ++ (u_ws RX11 TX11 11))
theorem wo_c_X11_adds_bad_in : ∀ w ∈ wo_c_X11_adds_bad, w ∈ wk_c_X11_adds_bad := fun w h => List.mem_cons_of_mem _ (List.mem_append_left _ h)
theorem ws_c_X11_adds_bad_0 : ∀ w ∈ u_ws RX11 TX11 11, w ∈ wk_c_X11_adds_bad := fun w h => List.mem_cons_of_mem _ (List.mem_append_right _ h)
theorem gk_c_X11_adds_bad : ∀ w ∈ wk_c_X11_adds_bad, goodWord w = true := List.forall_mem_cons.mpr ⟨rfl, (List.forall_mem_append.mpr ⟨(show ∀ w ∈ wo_c_X11_adds_bad, goodWord w = true by decide +kernel), (show ∀ w ∈ u_ws RX11 TX11 11, goodWord w = true by decide +kernel)⟩)⟩
set_option maxHeartbeats 4000000 in
set_option maxRecDepth 100000 in
theorem c_X11_adds_bad (l : Launch) (hst : l.stackTraces = false) (D : va_G) (e0 : kE) (pa : Nat) (pr : Nat) (pp : Nat) (pi : Nat) (pl : Nat) (pf : Nat) (pm : Nat) (ps : Nat) (pe : Nat) (a1 : Int32) (pw : Nat) (a3 : Int32)  : kM l yX11_adds wk_c_X11_adds_bad 0 0 0 0 D kStr e0 [] [(pa, .inr (16, [.int 1, .ref pr, .ref pp, .ref pi, .ref pl, .ref pf, .ref pm, .ref ps, .ref pe, .int 0, .int 0]))] [.ref pa, .int a1, .ref pw, .int a3] (fun v w t => v = some (.int 0) ∧ w = [(pa, .inr (16, [.int 1, .ref pr, .ref pp, .ref pi, .ref pl, .ref pf, .ref pm, .ref ps, .ref pe, .int 0, .int 0]))] ∧ t = []) (fun _ => False) := by
  refine k_of (cc := cX11_adds) (maxL := 5) (ret := (some .int)) (by decide) rfl (Nat.le_of_ble_eq_true rfl) ?_
  intro p e s m args below meth c A ls hx hb hr hts hown hlocks hml hex hh hl
  have hown : s.vm.findClass RX11 = some m.cls := hown
  have hl : lv_has ls 5 [(0, .ref pa), (1, .int a1), (2, .ref pw), (3, .int a3)] := hl
  refine lv_aload_n hx hb dX11_adds_0 rfl (lv_at hl 0 rfl) ?_
  refine lv_aload_n hx hb dX11_adds_1 rfl (lv_at hl 0 rfl) ?_
  refine k_get (C := RX11) (T := TX11) (N := 11) (ci := 16) (v := .int 1) hx hb hts ws_c_X11_adds_bad_0 hown hh 0 rfl rfl 0 (by decide) (hts _ (wo_c_X11_adds_bad_in _ (List.mem_of_getElem? (i := 0) rfl))) rfl dX11_adds_2 ?_
  refine lv_if_le (tgt := 15) hx hb dX11_adds_5 (by decide) (fun c_5 => absurd c_5 (by decide)) (fun _ => ?_)
  refine lv_aload_n hx hb dX11_adds_8 rfl (lv_at hl 0 rfl) ?_
  refine k_get (C := RX11) (T := TX11) (N := 11) (ci := 16) (v := .int 1) hx hb hts ws_c_X11_adds_bad_0 hown hh 0 rfl rfl 0 (by decide) (hts _ (wo_c_X11_adds_bad_in _ (List.mem_of_getElem? (i := 0) rfl))) rfl dX11_adds_9 ?_
  refine lv_goto (tgt := 32) hx hb dX11_adds_12 (by decide) ?_
  refine k_put (C := RX11) (T := TX11) (N := 11) (ci := 16) (v := .int 1) (ws' := [(pa, .inr (16, [.int 1, .ref pr, .ref pp, .ref pi, .ref pl, .ref pf, .ref pm, .ref ps, .ref pe, .int 0, .int 0]))]) hx hb hts ws_c_X11_adds_bad_0 tyX11 tyX11_ok nmX11 hown hh 0 rfl rfl 0 (by decide) (hts _ (wo_c_X11_adds_bad_in _ (List.mem_of_getElem? (i := 0) rfl))) rfl rfl rfl (Nat.le_of_ble_eq_true rfl) dX11_adds_32 rfl (fun H locs hh => ?_)
  refine lv_aload_n hx hb dX11_adds_35 rfl (lv_at hl 0 rfl) ?_
  refine k_get (C := RX11) (T := TX11) (N := 11) (ci := 16) (v := .int 1) hx hb hts ws_c_X11_adds_bad_0 hown hh 0 rfl rfl 0 (by decide) (hts _ (wo_c_X11_adds_bad_in _ (List.mem_of_getElem? (i := 0) rfl))) rfl dX11_adds_36 ?_
  refine lv_if_le (tgt := 44) hx hb dX11_adds_39 (by decide) (fun c_39 => absurd c_39 (by decide)) (fun _ => ?_)
  refine lv_iconst (v := 0) hx hb dX11_adds_42 (by decide) ?_
  exact k_endi hx hb hr hlocks hh ⟨rfl, rfl, rfl⟩ [0] [] rfl rfl rfl (Nat.le_of_ble_eq_true rfl) (Nat.le_of_ble_eq_true rfl) dX11_adds_43
def wo_c_X11_silence_bad : List Cond := [Cond.constantLong RX11 80 200, Cond.fieldLink RX11 46 "SegueworksModel" "thrown" "I", Cond.arrayClass .int]
def wk_c_X11_silence_bad : List Cond := Cond.code yX11_silence cX11_silence 2 (some .int) :: (wo_c_X11_silence_bad ++ ((va_wsS RX11 54 yX11_in wk_c_X11_in_f) ++ ((u_ws RX11 TX11 11) ++ (wsV RX11 100 RX11 yX11_adds wk_c_X11_adds_bad))))
theorem wo_c_X11_silence_bad_in : ∀ w ∈ wo_c_X11_silence_bad, w ∈ wk_c_X11_silence_bad := fun w h => List.mem_cons_of_mem _ (List.mem_append_left _ h)
theorem gi_c_X11_silence_bad_0 : GoodIn wk_c_X11_silence_bad (va_wsS RX11 54 yX11_in wk_c_X11_in_f) := fun w h => ⟨List.mem_cons_of_mem _ (List.mem_append_right _ (List.mem_append_left _ h)), good_of_word (kg_S gk_c_X11_in_f w h)⟩
theorem ws_c_X11_silence_bad_1 : ∀ w ∈ u_ws RX11 TX11 11, w ∈ wk_c_X11_silence_bad := fun w h => List.mem_cons_of_mem _ (List.mem_append_right _ (List.mem_append_right _ (List.mem_append_left _ h)))
theorem gi_c_X11_silence_bad_2 : GoodIn wk_c_X11_silence_bad (wsV RX11 100 RX11 yX11_adds wk_c_X11_adds_bad) := fun w h => ⟨List.mem_cons_of_mem _ (List.mem_append_right _ (List.mem_append_right _ (List.mem_append_right _ h))), good_of_word (kg_V gk_c_X11_adds_bad w h)⟩
theorem gk_c_X11_silence_bad : ∀ w ∈ wk_c_X11_silence_bad, goodWord w = true := List.forall_mem_cons.mpr ⟨rfl, (List.forall_mem_append.mpr ⟨(show ∀ w ∈ wo_c_X11_silence_bad, goodWord w = true by decide +kernel), (List.forall_mem_append.mpr ⟨(kg_S gk_c_X11_in_f), (List.forall_mem_append.mpr ⟨(show ∀ w ∈ u_ws RX11 TX11 11, goodWord w = true by decide +kernel), (kg_V gk_c_X11_adds_bad)⟩)⟩)⟩)⟩
set_option maxHeartbeats 4000000 in
set_option maxRecDepth 100000 in
theorem c_X11_silence_bad (l : Launch) (hst : l.stackTraces = false) (D : va_G) (e0 : kE) (pa : Nat) (pt : Int32) (pr : Nat) (pp : Nat) (pi : Nat) (pl : Nat) (pf : Nat) (pm : Nat) (ps : Nat) (pe : Nat) (a1 : Int32) (h : ¬ (1 ≤ a1 ∧ a1 ≤ 200)) : kM l yX11_silence wk_c_X11_silence_bad 1 25 1 0 D kStr e0 [] [(pa, .inr (16, [.int pt, .ref pr, .ref pp, .ref pi, .ref pl, .ref pf, .ref pm, .ref ps, .ref pe, .int 0, .int 0]))] [.ref pa, .int a1] (fun v w t => v = some (.int 0) ∧ w = [(pa, .inr (16, [.int 1, .ref pr, .ref pp, .ref pi, .ref pl, .ref pf, .ref pm, .ref ps, .ref pe, .int 0, .int 0]))] ∧ t = []) (fun _ => False) := by
  refine k_of (cc := cX11_silence) (maxL := 2) (ret := (some .int)) (by decide) rfl (Nat.le_of_ble_eq_true rfl) ?_
  intro p e s m args below meth c A ls hx hb hr hts hown hlocks hml hex hh hl
  have hown : s.vm.findClass RX11 = some m.cls := hown
  have hl : lv_has ls 2 [(0, .ref pa), (1, .int a1)] := hl
  refine lv_aload_n hx hb dX11_silence_0 rfl (lv_at hl 0 rfl) ?_
  refine lv_iload_n hx hb dX11_silence_1 rfl (lv_at hl 1 rfl) ?_
  refine lv_i2l (v := (Int32.toInt64 a1)) hx hb dX11_silence_2 rfl ?_
  refine lv_lconst (v := 1) hx hb dX11_silence_3 (by decide) ?_
  refine lv_ldc2 (v := 200) hx hb hown (hts _ (wo_c_X11_silence_bad_in _ (List.mem_of_getElem? (i := 0) rfl))) dX11_silence_4 ?_
  refine k_callS (wr := [(pa, .inr (16, [.int pt, .ref pr, .ref pp, .ref pi, .ref pl, .ref pf, .ref pm, .ref ps, .ref pe, .int 0, .int 0]))]) (rest := [.ref pa]) (own := RX11) ⟨hx, hb, hml, hown, hts⟩ (c_X11_in_f l hst D e0 ((Int32.toInt64 a1)) 1 200 (k_rngF (by decide) (by decide) h)) (va_cwS 3 hts gi_c_X11_silence_bad_0 rfl rfl rfl (by decide +kernel) ⟨Nat.le_of_ble_eq_true rfl, Nat.le_of_ble_eq_true rfl⟩) hh [] [0] [] rfl rfl rfl rfl (by decide) rfl rfl hl rfl (Nat.le_of_ble_eq_true rfl) dX11_silence_7 ⟨Nat.le_of_ble_eq_true rfl, (Nat.le_of_ble_eq_true rfl)⟩ (fun _ _ _ _ _ h => h.elim) (fun v w ty1 H locs hp hh => ?_)
  obtain ⟨rfl, rfl, rfl⟩ := hp
  have hh : kH D kStr e0 A s H [(pa, .inr (16, [.int pt, .ref pr, .ref pp, .ref pi, .ref pl, .ref pf, .ref pm, .ref ps, .ref pe, .int 0, .int 0]))] [] _ := hh
  refine W.eq (g2 := F0 m 10 ls [.int 0, .ref pa]) (by first | rfl | decide) ?_
  refine lv_if_eq (tgt := 17) hx hb dX11_silence_10 (by decide) (fun _ => ?_) (fun c_10 => absurd (by decide) c_10)
  refine lv_iconst (v := 1) hx hb dX11_silence_17 (by decide) ?_
  refine k_put (C := RX11) (T := TX11) (N := 11) (ci := 16) (v := .int 1) (ws' := [(pa, .inr (16, [.int 1, .ref pr, .ref pp, .ref pi, .ref pl, .ref pf, .ref pm, .ref ps, .ref pe, .int 0, .int 0]))]) hx hb hts ws_c_X11_silence_bad_1 tyX11 tyX11_ok nmX11 hown hh 0 rfl rfl 0 (by decide) (hts _ (wo_c_X11_silence_bad_in _ (List.mem_of_getElem? (i := 1) rfl))) rfl rfl rfl (Nat.le_of_ble_eq_true rfl) dX11_silence_18 rfl (fun H locs hh => ?_)
  refine lv_aload_n hx hb dX11_silence_21 rfl (lv_at hl 0 rfl) ?_
  refine lv_bipush (v := 115) hx hb dX11_silence_22 (by decide) ?_
  refine lv_aload_n hx hb dX11_silence_24 rfl (lv_at hl 0 rfl) ?_
  refine k_get (C := RX11) (T := TX11) (N := 11) (ci := 16) (v := .int 1) hx hb hts ws_c_X11_silence_bad_1 hown hh 0 rfl rfl 0 (by decide) (hts _ (wo_c_X11_silence_bad_in _ (List.mem_of_getElem? (i := 1) rfl))) rfl dX11_silence_25 ?_
  refine lv_if_le (tgt := 35) hx hb dX11_silence_28 (by decide) (fun c_28 => absurd c_28 (by decide)) (fun _ => ?_)
  refine lv_iconst (v := 0) hx hb dX11_silence_31 (by decide) ?_
  refine lv_goto (tgt := 36) hx hb dX11_silence_32 (by decide) ?_
  refine k_newa (atype := .int) (ty := .int) (N' := 0) (a0 := (0, .inl (fun _ => 0))) hx hb (hts _ (wo_c_X11_silence_bad_in _ (List.mem_of_getElem? (i := 2) rfl))) rfl hh (fun cA => rfl) (by decide) (by decide) (Nat.le_of_ble_eq_true rfl) (Nat.le_of_ble_eq_true rfl) (Nat.le_of_ble_eq_true rfl) dX11_silence_36 (fun q1 y2 H hh => ?_)
  have hh : kH D kStr e0 A s H [(pa, .inr (16, [.int 1, .ref pr, .ref pp, .ref pi, .ref pl, .ref pf, .ref pm, .ref ps, .ref pe, .int 0, .int 0])), (q1, .inl (y2, 0, .inl (fun _ => 0)))] [(y2, .int)] _ := hh
  refine lv_iconst (v := 2) hx hb dX11_silence_38 (by decide) ?_
  refine k_callV (C := RX11) (T := TX11) (N := 11) (ci := 16) (q0 := 0) (wr := [(q1, .inl (y2, 0, .inl (fun _ => 0)))]) (rest := []) (own := RX11) ⟨hx, hb, hml, hown, hts⟩ (c_X11_adds_bad l hst D e0 pa pr pp pi pl pf pm ps pe 115 q1 2 ) (cwV 3 hts gi_c_X11_silence_bad_2 rfl rfl rfl (by decide +kernel) ⟨Nat.le_of_ble_eq_true rfl, Nat.le_of_ble_eq_true rfl⟩) hh rfl rfl [0] [1] [] rfl rfl rfl rfl (by decide) rfl rfl hl rfl (Nat.le_of_ble_eq_true rfl) dX11_silence_39 ⟨Nat.le_of_ble_eq_true rfl, (Nat.le_of_ble_eq_true rfl)⟩ (fun _ _ _ _ _ h => h.elim) (fun v w ty1 H locs hp hh => ?_)
  obtain ⟨rfl, rfl, rfl⟩ := hp
  have hh : kH D kStr e0 A s H [(q1, .inl (y2, 0, .inl (fun _ => 0))), (pa, .inr (16, [.int 1, .ref pr, .ref pp, .ref pi, .ref pl, .ref pf, .ref pm, .ref ps, .ref pe, .int 0, .int 0]))] [(y2, .int)] _ := hh
  refine W.eq (g2 := F0 m 42 ls [.int 0]) (by first | rfl | decide) ?_
  exact k_endi hx hb hr hlocks hh ⟨rfl, rfl, rfl⟩ [1] [] rfl rfl rfl (Nat.le_of_ble_eq_true rfl) (Nat.le_of_ble_eq_true rfl) dX11_silence_42
