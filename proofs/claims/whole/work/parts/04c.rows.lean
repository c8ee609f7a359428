theorem dX1_init_0 : decode cX1_init 0 = .ok (.aload_n 0, 1) := by decide +kernel
theorem dX1_init_1 : decode cX1_init 1 = .ok (.invokespecial 3, 3) := by decide +kernel
theorem dX1_init_4 : decode cX1_init 4 = .ok (.aload_n 0, 1) := by decide +kernel
theorem dX1_init_5 : decode cX1_init 5 = .ok (.iload_n 1, 1) := by decide +kernel
theorem dX1_init_6 : decode cX1_init 6 = .ok (.putfield 9, 3) := by decide +kernel
theorem dX1_init_9 : decode cX1_init 9 = .ok (.aload_n 0, 1) := by decide +kernel
theorem dX1_init_10 : decode cX1_init 10 = .ok (.aload_n 2, 1) := by decide +kernel
theorem dX1_init_11 : decode cX1_init 11 = .ok (.putfield 15, 3) := by decide +kernel
theorem dX1_init_14 : decode cX1_init 14 = .ok (.aload_n 0, 1) := by decide +kernel
theorem dX1_init_15 : decode cX1_init 15 = .ok (.iload_n 3, 1) := by decide +kernel
theorem dX1_init_16 : decode cX1_init 16 = .ok (.putfield 19, 3) := by decide +kernel
theorem dX1_init_19 : decode cX1_init 19 = .ok (.aload_n 0, 1) := by decide +kernel
theorem dX1_init_20 : decode cX1_init 20 = .ok (.bipush 8, 2) := by decide +kernel
theorem dX1_init_22 : decode cX1_init 22 = .ok (.newarray .int, 2) := by decide +kernel
theorem dX1_init_24 : decode cX1_init 24 = .ok (.putfield 22, 3) := by decide +kernel
theorem dX1_init_27 : decode cX1_init 27 = .ok (.return_, 1) := by decide +kernel
theorem dX1_fullLength_0 : decode cX1_fullLength 0 = .ok (.aload_n 0, 1) := by decide +kernel
theorem dX1_fullLength_1 : decode cX1_fullLength 1 = .ok (.getfield 19, 3) := by decide +kernel
theorem dX1_fullLength_4 : decode cX1_fullLength 4 = .ok (.aload_n 0, 1) := by decide +kernel
theorem dX1_fullLength_5 : decode cX1_fullLength 5 = .ok (.getfield 15, 3) := by decide +kernel
theorem dX1_fullLength_8 : decode cX1_fullLength 8 = .ok (.getfield 26, 3) := by decide +kernel
theorem dX1_fullLength_11 : decode cX1_fullLength 11 = .ok (.arraylength, 1) := by decide +kernel
theorem dX1_fullLength_12 : decode cX1_fullLength 12 = .ok (.iadd, 1) := by decide +kernel
theorem dX1_fullLength_13 : decode cX1_fullLength 13 = .ok (.ireturn, 1) := by decide +kernel
theorem dX4_append_0 : decode cX4_append 0 = .ok (.aload_n 0, 1) := by decide +kernel
theorem dX4_append_1 : decode cX4_append 1 = .ok (.getfield 11, 3) := by decide +kernel
theorem dX4_append_4 : decode cX4_append 4 = .ok (.aload_n 0, 1) := by decide +kernel
theorem dX4_append_5 : decode cX4_append 5 = .ok (.getfield 27, 3) := by decide +kernel
theorem dX4_append_8 : decode cX4_append 8 = .ok (.aload_n 1, 1) := by decide +kernel
theorem dX4_append_9 : decode cX4_append 9 = .ok (.aastore, 1) := by decide +kernel
theorem dX4_append_10 : decode cX4_append 10 = .ok (.aload_n 0, 1) := by decide +kernel
theorem dX4_append_11 : decode cX4_append 11 = .ok (.dup, 1) := by decide +kernel
theorem dX4_append_12 : decode cX4_append 12 = .ok (.getfield 27, 3) := by decide +kernel
theorem dX4_append_15 : decode cX4_append 15 = .ok (.iconst 1, 1) := by decide +kernel
theorem dX4_append_16 : decode cX4_append 16 = .ok (.iadd, 1) := by decide +kernel
theorem dX4_append_17 : decode cX4_append 17 = .ok (.putfield 27, 3) := by decide +kernel
theorem dX4_append_20 : decode cX4_append 20 = .ok (.aload_n 0, 1) := by decide +kernel
theorem dX4_append_21 : decode cX4_append 21 = .ok (.aload_n 1, 1) := by decide +kernel
theorem dX4_append_22 : decode cX4_append 22 = .ok (.invokevirtual 31, 3) := by decide +kernel
theorem dX4_append_25 : decode cX4_append 25 = .ok (.return_, 1) := by decide +kernel
theorem dX4_write_0 : decode cX4_write 0 = .ok (.aload_n 1, 1) := by decide +kernel
theorem dX4_write_1 : decode cX4_write 1 = .ok (.getfield 38, 3) := by decide +kernel
theorem dX4_write_4 : decode cX4_write 4 = .ok (.getfield 42, 3) := by decide +kernel
theorem dX4_write_7 : decode cX4_write 7 = .ok (.astore_n 2, 1) := by decide +kernel
theorem dX4_write_8 : decode cX4_write 8 = .ok (.aload_n 0, 1) := by decide +kernel
theorem dX4_write_9 : decode cX4_write 9 = .ok (.getfield 35, 3) := by decide +kernel
theorem dX4_write_12 : decode cX4_write 12 = .ok (.aload_n 1, 1) := by decide +kernel
theorem dX4_write_13 : decode cX4_write 13 = .ok (.invokevirtual 47, 3) := by decide +kernel
theorem dX4_write_16 : decode cX4_write 16 = .ok (.iadd, 1) := by decide +kernel
theorem dX4_write_17 : decode cX4_write 17 = .ok (.aload_n 0, 1) := by decide +kernel
theorem dX4_write_18 : decode cX4_write 18 = .ok (.getfield 17, 3) := by decide +kernel
theorem dX4_write_21 : decode cX4_write 21 = .ok (.arraylength, 1) := by decide +kernel
theorem dX4_write_22 : decode cX4_write 22 = .ok (.if_icmp .le 4, 3) := by decide +kernel
theorem dX4_write_26 : decode cX4_write 26 = .ok (.iconst 0, 1) := by decide +kernel
theorem dX4_write_27 : decode cX4_write 27 = .ok (.istore_n 3, 1) := by decide +kernel
theorem dX4_write_28 : decode cX4_write 28 = .ok (.iload_n 3, 1) := by decide +kernel
theorem dX4_write_29 : decode cX4_write 29 = .ok (.aload_n 1, 1) := by decide +kernel
theorem dX4_write_30 : decode cX4_write 30 = .ok (.getfield 51, 3) := by decide +kernel
theorem dX4_write_33 : decode cX4_write 33 = .ok (.if_icmp .ge 21, 3) := by decide +kernel
theorem dX4_write_54 : decode cX4_write 54 = .ok (.aload_n 2, 1) := by decide +kernel
theorem dX4_write_55 : decode cX4_write 55 = .ok (.iconst 0, 1) := by decide +kernel
theorem dX4_write_56 : decode cX4_write 56 = .ok (.aload_n 0, 1) := by decide +kernel
theorem dX4_write_57 : decode cX4_write 57 = .ok (.getfield 17, 3) := by decide +kernel
theorem dX4_write_60 : decode cX4_write 60 = .ok (.aload_n 0, 1) := by decide +kernel
theorem dX4_write_61 : decode cX4_write 61 = .ok (.getfield 35, 3) := by decide +kernel
theorem dX4_write_64 : decode cX4_write 64 = .ok (.aload_n 1, 1) := by decide +kernel
theorem dX4_write_65 : decode cX4_write 65 = .ok (.getfield 51, 3) := by decide +kernel
theorem dX4_write_68 : decode cX4_write 68 = .ok (.iadd, 1) := by decide +kernel
theorem dX4_write_69 : decode cX4_write 69 = .ok (.aload_n 2, 1) := by decide +kernel
theorem dX4_write_70 : decode cX4_write 70 = .ok (.arraylength, 1) := by decide +kernel
theorem dX4_write_71 : decode cX4_write 71 = .ok (.invokestatic 54, 3) := by decide +kernel
theorem dX4_write_74 : decode cX4_write 74 = .ok (.aload_n 0, 1) := by decide +kernel
theorem dX4_write_75 : decode cX4_write 75 = .ok (.dup, 1) := by decide +kernel
theorem dX4_write_76 : decode cX4_write 76 = .ok (.getfield 35, 3) := by decide +kernel
theorem dX4_write_79 : decode cX4_write 79 = .ok (.aload_n 1, 1) := by decide +kernel
theorem dX4_write_80 : decode cX4_write 80 = .ok (.invokevirtual 47, 3) := by decide +kernel
theorem dX4_write_83 : decode cX4_write 83 = .ok (.iadd, 1) := by decide +kernel
theorem dX4_write_84 : decode cX4_write 84 = .ok (.putfield 35, 3) := by decide +kernel
theorem dX4_write_87 : decode cX4_write 87 = .ok (.return_, 1) := by decide +kernel
theorem dX6_add_0 : decode cX6_add 0 = .ok (.aload_n 0, 1) := by decide +kernel
theorem dX6_add_1 : decode cX6_add 1 = .ok (.iload_n 1, 1) := by decide +kernel
theorem dX6_add_2 : decode cX6_add 2 = .ok (.invokevirtual 99, 3) := by decide +kernel
theorem dX6_add_5 : decode cX6_add 5 = .ok (.astore_n 3, 1) := by decide +kernel
theorem dX6_add_6 : decode cX6_add 6 = .ok (.iload_n 2, 1) := by decide +kernel
theorem dX6_add_7 : decode cX6_add 7 = .ok (.iconst 0, 1) := by decide +kernel
theorem dX6_add_8 : decode cX6_add 8 = .ok (.bipush 100, 2) := by decide +kernel
theorem dX6_add_10 : decode cX6_add 10 = .ok (.invokestatic 57, 3) := by decide +kernel
theorem dX6_add_13 : decode cX6_add 13 = .ok (.aload_n 0, 1) := by decide +kernel
theorem dX6_add_14 : decode cX6_add 14 = .ok (.getfield 24, 3) := by decide +kernel
theorem dX6_add_17 : decode cX6_add 17 = .ok (.getfield 129, 3) := by decide +kernel
theorem dX6_add_20 : decode cX6_add 20 = .ok (.iload_n 2, 1) := by decide +kernel
theorem dX6_add_21 : decode cX6_add 21 = .ok (.iadd, 1) := by decide +kernel
theorem dX6_add_22 : decode cX6_add 22 = .ok (.aload_n 3, 1) := by decide +kernel
theorem dX6_add_23 : decode cX6_add 23 = .ok (.getfield 103, 3) := by decide +kernel
theorem dX6_add_26 : decode cX6_add 26 = .ok (.arraylength, 1) := by decide +kernel
theorem dX6_add_27 : decode cX6_add 27 = .ok (.iadd, 1) := by decide +kernel
theorem dX6_add_28 : decode cX6_add 28 = .ok (.invokestatic 130, 3) := by decide +kernel
theorem dX6_add_31 : decode cX6_add 31 = .ok (.aload_n 0, 1) := by decide +kernel
theorem dX6_add_32 : decode cX6_add 32 = .ok (.getfield 24, 3) := by decide +kernel
theorem dX6_add_35 : decode cX6_add 35 = .ok (.getfield 133, 3) := by decide +kernel
theorem dX6_add_38 : decode cX6_add 38 = .ok (.bipush 12, 2) := by decide +kernel
theorem dX6_add_40 : decode cX6_add 40 = .ok (.if_icmp .lt 13, 3) := by decide +kernel
theorem dX6_add_53 : decode cX6_add 53 = .ok (.aload_n 0, 1) := by decide +kernel
theorem dX6_add_54 : decode cX6_add 54 = .ok (.getfield 24, 3) := by decide +kernel
theorem dX6_add_57 : decode cX6_add 57 = .ok (.new 138, 3) := by decide +kernel
theorem dX6_add_60 : decode cX6_add 60 = .ok (.dup, 1) := by decide +kernel
theorem dX6_add_61 : decode cX6_add 61 = .ok (.iload_n 1, 1) := by decide +kernel
theorem dX6_add_62 : decode cX6_add 62 = .ok (.aload_n 3, 1) := by decide +kernel
theorem dX6_add_63 : decode cX6_add 63 = .ok (.iload_n 2, 1) := by decide +kernel
theorem dX6_add_64 : decode cX6_add 64 = .ok (.invokespecial 140, 3) := by decide +kernel
theorem dX6_add_67 : decode cX6_add 67 = .ok (.invokevirtual 143, 3) := by decide +kernel
theorem dX6_add_70 : decode cX6_add 70 = .ok (.aload_n 0, 1) := by decide +kernel
theorem dX6_add_71 : decode cX6_add 71 = .ok (.getfield 24, 3) := by decide +kernel
theorem dX6_add_74 : decode cX6_add 74 = .ok (.getfield 133, 3) := by decide +kernel
theorem dX6_add_77 : decode cX6_add 77 = .ok (.iconst 1, 1) := by decide +kernel
theorem dX6_add_78 : decode cX6_add 78 = .ok (.isub, 1) := by decide +kernel
theorem dX6_add_79 : decode cX6_add 79 = .ok (.ireturn, 1) := by decide +kernel
theorem dX6_needProgramLength_0 : decode cX6_needProgramLength 0 = .ok (.iload_n 0, 1) := by decide +kernel
theorem dX6_needProgramLength_1 : decode cX6_needProgramLength 1 = .ok (.sipush 3000, 3) := by decide +kernel
theorem dX6_needProgramLength_4 : decode cX6_needProgramLength 4 = .ok (.if_icmp .le 14, 3) := by decide +kernel
theorem dX6_needProgramLength_18 : decode cX6_needProgramLength 18 = .ok (.return_, 1) := by decide +kernel
theorem dX8_init_0 : decode cX8_init 0 = .ok (.aload_n 0, 1) := by decide +kernel
theorem dX8_init_1 : decode cX8_init 1 = .ok (.invokespecial 1, 3) := by decide +kernel
theorem dX8_init_4 : decode cX8_init 4 = .ok (.aload_n 0, 1) := by decide +kernel
theorem dX8_init_5 : decode cX8_init 5 = .ok (.bipush 8, 2) := by decide +kernel
theorem dX8_init_7 : decode cX8_init 7 = .ok (.newarray .int, 2) := by decide +kernel
theorem dX8_init_9 : decode cX8_init 9 = .ok (.putfield 7, 3) := by decide +kernel
theorem dX8_init_12 : decode cX8_init 12 = .ok (.aload_n 0, 1) := by decide +kernel
theorem dX8_init_13 : decode cX8_init 13 = .ok (.iload_n 1, 1) := by decide +kernel
theorem dX8_init_14 : decode cX8_init 14 = .ok (.putfield 13, 3) := by decide +kernel
theorem dX8_init_17 : decode cX8_init 17 = .ok (.aload_n 0, 1) := by decide +kernel
theorem dX8_init_18 : decode cX8_init 18 = .ok (.iload_n 2, 1) := by decide +kernel
theorem dX8_init_19 : decode cX8_init 19 = .ok (.putfield 17, 3) := by decide +kernel
theorem dX8_init_22 : decode cX8_init 22 = .ok (.return_, 1) := by decide +kernel
theorem dX11_noPiece_0 : decode cX11_noPiece 0 = .ok (.aload_n 0, 1) := by decide +kernel
theorem dX11_noPiece_1 : decode cX11_noPiece 1 = .ok (.iload_n 1, 1) := by decide +kernel
theorem dX11_noPiece_2 : decode cX11_noPiece 2 = .ok (.i2l, 1) := by decide +kernel
theorem dX11_noPiece_3 : decode cX11_noPiece 3 = .ok (.lconst 0, 1) := by decide +kernel
theorem dX11_noPiece_4 : decode cX11_noPiece 4 = .ok (.aload_n 0, 1) := by decide +kernel
theorem dX11_noPiece_5 : decode cX11_noPiece 5 = .ok (.getfield 25, 3) := by decide +kernel
theorem dX11_noPiece_8 : decode cX11_noPiece 8 = .ok (.invokevirtual 50, 3) := by decide +kernel
theorem dX11_noPiece_11 : decode cX11_noPiece 11 = .ok (.iconst 1, 1) := by decide +kernel
theorem dX11_noPiece_12 : decode cX11_noPiece 12 = .ok (.isub, 1) := by decide +kernel
theorem dX11_noPiece_13 : decode cX11_noPiece 13 = .ok (.i2l, 1) := by decide +kernel
theorem dX11_noPiece_14 : decode cX11_noPiece 14 = .ok (.invokestatic 54, 3) := by decide +kernel
theorem dX11_noPiece_17 : decode cX11_noPiece 17 = .ok (.ifCond .eq 7, 3) := by decide +kernel
theorem dX11_noPiece_20 : decode cX11_noPiece 20 = .ok (.iconst 0, 1) := by decide +kernel
theorem dX11_noPiece_21 : decode cX11_noPiece 21 = .ok (.goto 4, 3) := by decide +kernel
theorem dX11_noPiece_25 : decode cX11_noPiece 25 = .ok (.putfield 46, 3) := by decide +kernel
theorem dX11_noPiece_28 : decode cX11_noPiece 28 = .ok (.aload_n 0, 1) := by decide +kernel
theorem dX11_noPiece_29 : decode cX11_noPiece 29 = .ok (.getfield 46, 3) := by decide +kernel
theorem dX11_noPiece_32 : decode cX11_noPiece 32 = .ok (.ifCond .le 7, 3) := by decide +kernel
theorem dX11_noPiece_39 : decode cX11_noPiece 39 = .ok (.iconst 0, 1) := by decide +kernel
theorem dX11_noPiece_40 : decode cX11_noPiece 40 = .ok (.ireturn, 1) := by decide +kernel
theorem dX11_together_0 : decode cX11_together 0 = .ok (.iconst 0, 1) := by decide +kernel
theorem dX11_together_1 : decode cX11_together 1 = .ok (.istore_n 3, 1) := by decide +kernel
theorem dX11_together_2 : decode cX11_together 2 = .ok (.iload_n 1, 1) := by decide +kernel
theorem dX11_together_3 : decode cX11_together 3 = .ok (.istore 4, 2) := by decide +kernel
theorem dX11_together_5 : decode cX11_together 5 = .ok (.iload 4, 2) := by decide +kernel
theorem dX11_together_7 : decode cX11_together 7 = .ok (.iload_n 2, 1) := by decide +kernel
theorem dX11_together_8 : decode cX11_together 8 = .ok (.if_icmp .ge 48, 3) := by decide +kernel
theorem dX11_together_11 : decode cX11_together 11 = .ok (.iload_n 3, 1) := by decide +kernel
theorem dX11_together_12 : decode cX11_together 12 = .ok (.aload_n 0, 1) := by decide +kernel
theorem dX11_together_13 : decode cX11_together 13 = .ok (.getfield 28, 3) := by decide +kernel
theorem dX11_together_16 : decode cX11_together 16 = .ok (.iload 4, 2) := by decide +kernel
theorem dX11_together_18 : decode cX11_together 18 = .ok (.invokevirtual 70, 3) := by decide +kernel
theorem dX11_together_21 : decode cX11_together 21 = .ok (.checkcast 145, 3) := by decide +kernel
theorem dX11_together_24 : decode cX11_together 24 = .ok (.getfield 147, 3) := by decide +kernel
theorem dX11_together_27 : decode cX11_together 27 = .ok (.aload_n 0, 1) := by decide +kernel
theorem dX11_together_28 : decode cX11_together 28 = .ok (.aload_n 0, 1) := by decide +kernel
theorem dX11_together_29 : decode cX11_together 29 = .ok (.getfield 28, 3) := by decide +kernel
theorem dX11_together_32 : decode cX11_together 32 = .ok (.iload 4, 2) := by decide +kernel
theorem dX11_together_34 : decode cX11_together 34 = .ok (.invokevirtual 70, 3) := by decide +kernel
theorem dX11_together_37 : decode cX11_together 37 = .ok (.checkcast 145, 3) := by decide +kernel
theorem dX11_together_40 : decode cX11_together 40 = .ok (.getfield 150, 3) := by decide +kernel
theorem dX11_together_43 : decode cX11_together 43 = .ok (.invokevirtual 104, 3) := by decide +kernel
theorem dX11_together_46 : decode cX11_together 46 = .ok (.arraylength, 1) := by decide +kernel
theorem dX11_together_47 : decode cX11_together 47 = .ok (.iadd, 1) := by decide +kernel
theorem dX11_together_48 : decode cX11_together 48 = .ok (.iadd, 1) := by decide +kernel
theorem dX11_together_49 : decode cX11_together 49 = .ok (.istore_n 3, 1) := by decide +kernel
theorem dX11_together_50 : decode cX11_together 50 = .ok (.iinc 4 1, 3) := by decide +kernel
theorem dX11_together_53 : decode cX11_together 53 = .ok (.goto (-48), 3) := by decide +kernel
theorem dX11_together_56 : decode cX11_together 56 = .ok (.iload_n 3, 1) := by decide +kernel
theorem dX11_together_57 : decode cX11_together 57 = .ok (.newarray .int, 2) := by decide +kernel
theorem dX11_together_59 : decode cX11_together 59 = .ok (.astore 4, 2) := by decide +kernel
theorem dX11_together_61 : decode cX11_together 61 = .ok (.iconst 0, 1) := by decide +kernel
theorem dX11_together_62 : decode cX11_together 62 = .ok (.istore 5, 2) := by decide +kernel
theorem dX11_together_64 : decode cX11_together 64 = .ok (.iload_n 1, 1) := by decide +kernel
theorem dX11_together_65 : decode cX11_together 65 = .ok (.istore 6, 2) := by decide +kernel
theorem dX11_together_67 : decode cX11_together 67 = .ok (.iload 6, 2) := by decide +kernel
theorem dX11_together_69 : decode cX11_together 69 = .ok (.iload_n 2, 1) := by decide +kernel
theorem dX11_together_70 : decode cX11_together 70 = .ok (.if_icmp .ge 80, 3) := by decide +kernel
theorem dX11_together_73 : decode cX11_together 73 = .ok (.aload_n 0, 1) := by decide +kernel
theorem dX11_together_74 : decode cX11_together 74 = .ok (.aload_n 0, 1) := by decide +kernel
theorem dX11_together_75 : decode cX11_together 75 = .ok (.getfield 28, 3) := by decide +kernel
theorem dX11_together_78 : decode cX11_together 78 = .ok (.iload 6, 2) := by decide +kernel
theorem dX11_together_80 : decode cX11_together 80 = .ok (.invokevirtual 70, 3) := by decide +kernel
theorem dX11_together_83 : decode cX11_together 83 = .ok (.checkcast 145, 3) := by decide +kernel
theorem dX11_together_86 : decode cX11_together 86 = .ok (.getfield 150, 3) := by decide +kernel
theorem dX11_together_89 : decode cX11_together 89 = .ok (.invokevirtual 104, 3) := by decide +kernel
theorem dX11_together_92 : decode cX11_together 92 = .ok (.astore 7, 2) := by decide +kernel
theorem dX11_together_94 : decode cX11_together 94 = .ok (.iload 5, 2) := by decide +kernel
theorem dX11_together_96 : decode cX11_together 96 = .ok (.aload_n 0, 1) := by decide +kernel
theorem dX11_together_97 : decode cX11_together 97 = .ok (.getfield 28, 3) := by decide +kernel
theorem dX11_together_100 : decode cX11_together 100 = .ok (.iload 6, 2) := by decide +kernel
theorem dX11_together_102 : decode cX11_together 102 = .ok (.invokevirtual 70, 3) := by decide +kernel
theorem dX11_together_105 : decode cX11_together 105 = .ok (.checkcast 145, 3) := by decide +kernel
theorem dX11_together_108 : decode cX11_together 108 = .ok (.getfield 147, 3) := by decide +kernel
theorem dX11_together_111 : decode cX11_together 111 = .ok (.iadd, 1) := by decide +kernel
theorem dX11_together_112 : decode cX11_together 112 = .ok (.istore 5, 2) := by decide +kernel
theorem dX11_together_114 : decode cX11_together 114 = .ok (.iconst 0, 1) := by decide +kernel
theorem dX11_together_115 : decode cX11_together 115 = .ok (.istore 8, 2) := by decide +kernel
theorem dX11_together_117 : decode cX11_together 117 = .ok (.iload 8, 2) := by decide +kernel
theorem dX11_together_119 : decode cX11_together 119 = .ok (.aload 7, 2) := by decide +kernel
theorem dX11_together_121 : decode cX11_together 121 = .ok (.arraylength, 1) := by decide +kernel
theorem dX11_together_122 : decode cX11_together 122 = .ok (.if_icmp .ge 22, 3) := by decide +kernel
theorem dX11_together_125 : decode cX11_together 125 = .ok (.aload 4, 2) := by decide +kernel
theorem dX11_together_127 : decode cX11_together 127 = .ok (.iload 5, 2) := by decide +kernel
theorem dX11_together_129 : decode cX11_together 129 = .ok (.aload 7, 2) := by decide +kernel
theorem dX11_together_131 : decode cX11_together 131 = .ok (.iload 8, 2) := by decide +kernel
theorem dX11_together_133 : decode cX11_together 133 = .ok (.iaload, 1) := by decide +kernel
theorem dX11_together_134 : decode cX11_together 134 = .ok (.iastore, 1) := by decide +kernel
theorem dX11_together_135 : decode cX11_together 135 = .ok (.iinc 5 1, 3) := by decide +kernel
theorem dX11_together_138 : decode cX11_together 138 = .ok (.iinc 8 1, 3) := by decide +kernel
theorem dX11_together_141 : decode cX11_together 141 = .ok (.goto (-24), 3) := by decide +kernel
theorem dX11_together_144 : decode cX11_together 144 = .ok (.iinc 6 1, 3) := by decide +kernel
theorem dX11_together_147 : decode cX11_together 147 = .ok (.goto (-80), 3) := by decide +kernel
theorem dX11_together_150 : decode cX11_together 150 = .ok (.aload 4, 2) := by decide +kernel
theorem dX11_together_152 : decode cX11_together 152 = .ok (.areturn, 1) := by decide +kernel
theorem dX11_program_0 : decode cX11_program 0 = .ok (.aload_n 0, 1) := by decide +kernel
theorem dX11_program_1 : decode cX11_program 1 = .ok (.iconst 0, 1) := by decide +kernel
theorem dX11_program_2 : decode cX11_program 2 = .ok (.aload_n 0, 1) := by decide +kernel
theorem dX11_program_3 : decode cX11_program 3 = .ok (.getfield 28, 3) := by decide +kernel
theorem dX11_program_6 : decode cX11_program 6 = .ok (.invokevirtual 50, 3) := by decide +kernel
theorem dX11_program_9 : decode cX11_program 9 = .ok (.invokevirtual 153, 3) := by decide +kernel
theorem dX11_program_12 : decode cX11_program 12 = .ok (.areturn, 1) := by decide +kernel
theorem dX11_add_0 : decode cX11_add 0 = .ok (.aload_n 0, 1) := by decide +kernel
theorem dX11_add_1 : decode cX11_add 1 = .ok (.iload_n 1, 1) := by decide +kernel
theorem dX11_add_2 : decode cX11_add 2 = .ok (.invokevirtual 108, 3) := by decide +kernel
theorem dX11_add_5 : decode cX11_add 5 = .ok (.ifCond .eq 5, 3) := by decide +kernel
theorem dX11_add_10 : decode cX11_add 10 = .ok (.aload_n 0, 1) := by decide +kernel
theorem dX11_add_11 : decode cX11_add 11 = .ok (.invokevirtual 157, 3) := by decide +kernel
theorem dX11_add_14 : decode cX11_add 14 = .ok (.arraylength, 1) := by decide +kernel
theorem dX11_add_15 : decode cX11_add 15 = .ok (.i2l, 1) := by decide +kernel
theorem dX11_add_16 : decode cX11_add 16 = .ok (.iload_n 2, 1) := by decide +kernel
theorem dX11_add_17 : decode cX11_add 17 = .ok (.i2l, 1) := by decide +kernel
theorem dX11_add_18 : decode cX11_add 18 = .ok (.ladd, 1) := by decide +kernel
theorem dX11_add_19 : decode cX11_add 19 = .ok (.aload_n 0, 1) := by decide +kernel
theorem dX11_add_20 : decode cX11_add 20 = .ok (.iload_n 1, 1) := by decide +kernel
theorem dX11_add_21 : decode cX11_add 21 = .ok (.invokevirtual 104, 3) := by decide +kernel
theorem dX11_add_24 : decode cX11_add 24 = .ok (.arraylength, 1) := by decide +kernel
theorem dX11_add_25 : decode cX11_add 25 = .ok (.i2l, 1) := by decide +kernel
theorem dX11_add_26 : decode cX11_add 26 = .ok (.ladd, 1) := by decide +kernel
theorem dX11_add_27 : decode cX11_add 27 = .ok (.ldc2_w 161, 3) := by decide +kernel
theorem dX11_add_30 : decode cX11_add 30 = .ok (.lcmp, 1) := by decide +kernel
theorem dX11_add_31 : decode cX11_add 31 = .ok (.ifCond .le 7, 3) := by decide +kernel
theorem dX11_add_38 : decode cX11_add 38 = .ok (.iconst 0, 1) := by decide +kernel
theorem dX11_add_39 : decode cX11_add 39 = .ok (.istore_n 3, 1) := by decide +kernel
theorem dX11_add_40 : decode cX11_add 40 = .ok (.aload_n 0, 1) := by decide +kernel
theorem dX11_add_41 : decode cX11_add 41 = .ok (.iload_n 2, 1) := by decide +kernel
theorem dX11_add_42 : decode cX11_add 42 = .ok (.i2l, 1) := by decide +kernel
theorem dX11_add_43 : decode cX11_add 43 = .ok (.lconst 0, 1) := by decide +kernel
theorem dX11_add_44 : decode cX11_add 44 = .ok (.ldc2_w 163, 3) := by decide +kernel
theorem dX11_add_47 : decode cX11_add 47 = .ok (.invokestatic 54, 3) := by decide +kernel
theorem dX11_add_50 : decode cX11_add 50 = .ok (.ifCond .ne 7, 3) := by decide +kernel
theorem dX11_add_57 : decode cX11_add 57 = .ok (.iload_n 3, 1) := by decide +kernel
theorem dX11_add_58 : decode cX11_add 58 = .ok (.ifCond .eq 7, 3) := by decide +kernel
theorem dX11_add_65 : decode cX11_add 65 = .ok (.aload_n 0, 1) := by decide +kernel
theorem dX11_add_66 : decode cX11_add 66 = .ok (.getfield 28, 3) := by decide +kernel
theorem dX11_add_69 : decode cX11_add 69 = .ok (.invokevirtual 50, 3) := by decide +kernel
theorem dX11_add_72 : decode cX11_add 72 = .ok (.bipush 12, 2) := by decide +kernel
theorem dX11_add_74 : decode cX11_add 74 = .ok (.if_icmp .ne 7, 3) := by decide +kernel
theorem dX11_add_81 : decode cX11_add 81 = .ok (.iconst 0, 1) := by decide +kernel
theorem dX11_add_82 : decode cX11_add 82 = .ok (.putfield 46, 3) := by decide +kernel
theorem dX11_add_85 : decode cX11_add 85 = .ok (.aload_n 0, 1) := by decide +kernel
theorem dX11_add_86 : decode cX11_add 86 = .ok (.getfield 46, 3) := by decide +kernel
theorem dX11_add_89 : decode cX11_add 89 = .ok (.ifCond .le 5, 3) := by decide +kernel
theorem dX11_add_94 : decode cX11_add 94 = .ok (.aload_n 0, 1) := by decide +kernel
theorem dX11_add_95 : decode cX11_add 95 = .ok (.getfield 28, 3) := by decide +kernel
theorem dX11_add_98 : decode cX11_add 98 = .ok (.new 145, 3) := by decide +kernel
theorem dX11_add_101 : decode cX11_add 101 = .ok (.dup, 1) := by decide +kernel
theorem dX11_add_102 : decode cX11_add 102 = .ok (.iload_n 1, 1) := by decide +kernel
theorem dX11_add_103 : decode cX11_add 103 = .ok (.iload_n 2, 1) := by decide +kernel
theorem dX11_add_104 : decode cX11_add 104 = .ok (.invokespecial 165, 3) := by decide +kernel
theorem dX11_add_107 : decode cX11_add 107 = .ok (.invokevirtual 58, 3) := by decide +kernel
theorem dX11_add_110 : decode cX11_add 110 = .ok (.pop, 1) := by decide +kernel
theorem dX11_add_111 : decode cX11_add 111 = .ok (.aload_n 0, 1) := by decide +kernel
theorem dX11_add_112 : decode cX11_add 112 = .ok (.getfield 28, 3) := by decide +kernel
theorem dX11_add_115 : decode cX11_add 115 = .ok (.invokevirtual 50, 3) := by decide +kernel
theorem dX11_add_118 : decode cX11_add 118 = .ok (.iconst 1, 1) := by decide +kernel
theorem dX11_add_119 : decode cX11_add 119 = .ok (.isub, 1) := by decide +kernel
theorem dX11_add_120 : decode cX11_add 120 = .ok (.ireturn, 1) := by decide +kernel
theorem dL_add_0 : decode cL_add 0 = .ok (.aload_n 3, 1) := by decide +kernel
theorem dL_add_1 : decode cL_add 1 = .ok (.iconst 0, 1) := by decide +kernel
theorem dL_add_2 : decode cL_add 2 = .ok (.aload_n 0, 1) := by decide +kernel
theorem dL_add_3 : decode cL_add 3 = .ok (.iload_n 1, 1) := by decide +kernel
theorem dL_add_4 : decode cL_add 4 = .ok (.iload_n 2, 1) := by decide +kernel
theorem dL_add_5 : decode cL_add 5 = .ok (.invokevirtual 76, 3) := by decide +kernel
theorem dL_add_8 : decode cL_add 8 = .ok (.i2l, 1) := by decide +kernel
theorem dL_add_9 : decode cL_add 9 = .ok (.lastore, 1) := by decide +kernel
theorem dL_add_10 : decode cL_add 10 = .ok (.goto 19, 3) := by decide +kernel
theorem dL_add_29 : decode cL_add 29 = .ok (.iconst 0, 1) := by decide +kernel
theorem dL_add_30 : decode cL_add 30 = .ok (.ireturn, 1) := by decide +kernel
def wo_a73_X6_needIndex : List Cond := []
def wk_a73_X6_needIndex : List Cond := Cond.code yX6_needIndex cX6_needIndex 2 none :: wo_a73_X6_needIndex
theorem wo_a73_X6_needIndex_in : ∀ w ∈ wo_a73_X6_needIndex, w ∈ wk_a73_X6_needIndex := fun w h => List.mem_cons_of_mem _ h
theorem gk_a73_X6_needIndex : ∀ w ∈ wk_a73_X6_needIndex, goodWord w = true := List.forall_mem_cons.mpr ⟨rfl, (show ∀ w ∈ wo_a73_X6_needIndex, goodWord w = true by decide +kernel)⟩
set_option maxHeartbeats 4000000 in
set_option maxRecDepth 100000 in
theorem a73_X6_needIndex (l : Launch) (hst : l.stackTraces = false) (D : va_G) (e0 : kE)   : kM l yX6_needIndex wk_a73_X6_needIndex 0 0 0 0 D kStr e0 [] [] [.int 2, .int 3] (fun v w t => v = none ∧ w = [] ∧ t = []) (fun _ => False) := by
  refine k_of (cc := cX6_needIndex) (maxL := 2) (ret := none) (by decide) rfl (Nat.le_of_ble_eq_true rfl) ?_
  intro p e s m args below meth c A ls hx hb hr hts hown hlocks hml hex hh hl
  have hown : s.vm.findClass RX6 = some m.cls := hown
  have hl : lv_has ls 2 [(0, .int 2), (1, .int 3)] := hl
  refine lv_iload_n hx hb dX6_needIndex_0 rfl (lv_at hl 0 rfl) ?_
  refine lv_if_lt (tgt := 9) hx hb dX6_needIndex_1 (by decide) (fun c_1 => absurd c_1 (by decide)) (fun _ => ?_)
  refine lv_iload_n hx hb dX6_needIndex_4 rfl (lv_at hl 0 rfl) ?_
  refine lv_iload_n hx hb dX6_needIndex_5 rfl (lv_at hl 1 rfl) ?_
  refine lv_icmp_lt (tgt := 20) hx hb dX6_needIndex_6 (by decide) (fun _ => ?_) (fun c_6 => absurd (by decide) c_6)
  exact k_endv hx hb hr hlocks hh ⟨rfl, rfl, rfl⟩ [] [] rfl rfl rfl (Nat.le_of_ble_eq_true rfl) (Nat.le_of_ble_eq_true rfl) dX6_needIndex_20
def wo_a74_X6_knownPiece : List Cond := [Cond.fieldLink RX6 340 "Segueworks" "pieceCount" "I", Cond.fieldLink RX6 17 "Segueworks" "pieces" "[LSegueworks$Piece;"]
def wk_a74_X6_knownPiece : List Cond := Cond.code yX6_knownPiece cX6_knownPiece 2 (some (.object "Segueworks$Piece")) :: (wo_a74_X6_knownPiece ++ ((u_ws RX6 TX6 8) ++ (va_wsS RX6 193 yX6_needIndex wk_a73_X6_needIndex)))
theorem wo_a74_X6_knownPiece_in : ∀ w ∈ wo_a74_X6_knownPiece, w ∈ wk_a74_X6_knownPiece := fun w h => List.mem_cons_of_mem _ (List.mem_append_left _ h)
theorem ws_a74_X6_knownPiece_0 : ∀ w ∈ u_ws RX6 TX6 8, w ∈ wk_a74_X6_knownPiece := fun w h => List.mem_cons_of_mem _ (List.mem_append_right _ (List.mem_append_left _ h))
theorem gi_a74_X6_knownPiece_1 : GoodIn wk_a74_X6_knownPiece (va_wsS RX6 193 yX6_needIndex wk_a73_X6_needIndex) := fun w h => ⟨List.mem_cons_of_mem _ (List.mem_append_right _ (List.mem_append_right _ h)), good_of_word (kg_S gk_a73_X6_needIndex w h)⟩
theorem gk_a74_X6_knownPiece : ∀ w ∈ wk_a74_X6_knownPiece, goodWord w = true := List.forall_mem_cons.mpr ⟨rfl, (List.forall_mem_append.mpr ⟨(show ∀ w ∈ wo_a74_X6_knownPiece, goodWord w = true by decide +kernel), (List.forall_mem_append.mpr ⟨(show ∀ w ∈ u_ws RX6 TX6 8, goodWord w = true by decide +kernel), (kg_S gk_a73_X6_needIndex)⟩)⟩)⟩
set_option maxHeartbeats 4000000 in
set_option maxRecDepth 100000 in
theorem a74_X6_knownPiece (l : Launch) (hst : l.stackTraces = false) (D : va_G) (e0 : kE) (q1 : Nat) (q2 : Nat) (q3 : Nat) (q4 : Nat) (q5 : Nat) (q6 : Nat) (y7 : ClassId) (q29 : Nat) (q39 : Nat) (q47 : Nat)  : kM l yX6_knownPiece wk_a74_X6_knownPiece 1 21 0 0 D kStr e0 [(y7, .object "Segueworks$Piece")] [(q1, .inr (11, [.ref q2, .int 0, .ref q3, .int 3, .ref q4, .ref q5, .ref q6, .int 0])), (q3, .inl (y7, 24, .inr (.inr (.inr (.inr (va_up ((va_up ((va_up ((fun _ => none)) (0 : Int32).toNatClampNeg (some q29))) (1 : Int32).toNatClampNeg (some q39))) (2 : Int32).toNatClampNeg (some q47)))))))] [.ref q1, .int 2] (fun v w t => v = some (.ref q47) ∧ w = [(q1, .inr (11, [.ref q2, .int 0, .ref q3, .int 3, .ref q4, .ref q5, .ref q6, .int 0])), (q3, .inl (y7, 24, .inr (.inr (.inr (.inr (va_up ((va_up ((va_up ((fun _ => none)) (0 : Int32).toNatClampNeg (some q29))) (1 : Int32).toNatClampNeg (some q39))) (2 : Int32).toNatClampNeg (some q47)))))))] ∧ t = [(y7, .object "Segueworks$Piece")]) (fun _ => False) := by
  refine k_of (cc := cX6_knownPiece) (maxL := 2) (ret := (some (.object "Segueworks$Piece"))) (by decide) rfl (Nat.le_of_ble_eq_true rfl) ?_
  intro p e s m args below meth c A ls hx hb hr hts hown hlocks hml hex hh hl
  have hown : s.vm.findClass RX6 = some m.cls := hown
  have hl : lv_has ls 2 [(0, .ref q1), (1, .int 2)] := hl
  refine lv_iload_n hx hb dX6_knownPiece_0 rfl (lv_at hl 1 rfl) ?_
  refine lv_aload_n hx hb dX6_knownPiece_1 rfl (lv_at hl 0 rfl) ?_
  refine k_get (C := RX6) (T := TX6) (N := 8) (ci := 11) (v := .int 3) hx hb hts ws_a74_X6_knownPiece_0 hown hh 0 rfl rfl 3 (by decide) (hts _ (wo_a74_X6_knownPiece_in _ (List.mem_of_getElem? (i := 0) rfl))) rfl dX6_knownPiece_2 ?_
  refine k_callS (wr := [(q1, .inr (11, [.ref q2, .int 0, .ref q3, .int 3, .ref q4, .ref q5, .ref q6, .int 0])), (q3, .inl (y7, 24, .inr (.inr (.inr (.inr (va_up ((va_up ((va_up ((fun _ => none)) (0 : Int32).toNatClampNeg (some q29))) (1 : Int32).toNatClampNeg (some q39))) (2 : Int32).toNatClampNeg (some q47)))))))]) (rest := []) (own := RX6) ⟨hx, hb, hml, hown, hts⟩ (a73_X6_needIndex l hst D e0  ) (va_cwS 2 hts gi_a74_X6_knownPiece_1 rfl rfl rfl (by decide +kernel) ⟨Nat.le_of_ble_eq_true rfl, Nat.le_of_ble_eq_true rfl⟩) hh [] [0, 1] [] rfl rfl rfl rfl (by decide) rfl rfl hl rfl (Nat.le_of_ble_eq_true rfl) dX6_knownPiece_5 ⟨Nat.le_of_ble_eq_true rfl, (Nat.le_of_ble_eq_true rfl)⟩ (fun _ _ _ _ _ h => h.elim) (fun v w ty1 H locs hp hh => ?_)
  obtain ⟨rfl, rfl, rfl⟩ := hp
  have hh : kH D kStr e0 A s H [(q1, .inr (11, [.ref q2, .int 0, .ref q3, .int 3, .ref q4, .ref q5, .ref q6, .int 0])), (q3, .inl (y7, 24, .inr (.inr (.inr (.inr (va_up ((va_up ((va_up ((fun _ => none)) (0 : Int32).toNatClampNeg (some q29))) (1 : Int32).toNatClampNeg (some q39))) (2 : Int32).toNatClampNeg (some q47)))))))] [(y7, .object "Segueworks$Piece")] _ := hh
  refine W.eq (g2 := F0 m 8 ls []) (by first | rfl | decide) ?_
  refine lv_aload_n hx hb dX6_knownPiece_8 rfl (lv_at hl 0 rfl) ?_
  refine k_get (C := RX6) (T := TX6) (N := 8) (ci := 11) (v := .ref q3) hx hb hts ws_a74_X6_knownPiece_0 hown hh 0 rfl rfl 2 (by decide) (hts _ (wo_a74_X6_knownPiece_in _ (List.mem_of_getElem? (i := 1) rfl))) rfl dX6_knownPiece_9 ?_
  refine lv_iload_n hx hb dX6_knownPiece_12 rfl (lv_at hl 1 rfl) ?_
  refine k_aldq (v := q47) hx hb hh 1 0 rfl rfl (by unfold vp_in; decide) (by first | rfl | simp [va_up]) dX6_knownPiece_13 ?_
  exact k_enda (by first | exact Or.inl ⟨_, rfl⟩ | exact Or.inr ⟨_, rfl⟩) (by first | exact Or.inr ⟨_, rfl⟩ | exact Or.inl rfl) hx hb hr hlocks hh ⟨rfl, rfl, rfl⟩ [0, 1] [0] rfl rfl rfl (Nat.le_of_ble_eq_true rfl) (Nat.le_of_ble_eq_true rfl) dX6_knownPiece_14
def wo_a75_X6_needRange : List Cond := []
def wk_a75_X6_needRange : List Cond := Cond.code yX6_needRange cX6_needRange 3 none :: wo_a75_X6_needRange
theorem wo_a75_X6_needRange_in : ∀ w ∈ wo_a75_X6_needRange, w ∈ wk_a75_X6_needRange := fun w h => List.mem_cons_of_mem _ h
theorem gk_a75_X6_needRange : ∀ w ∈ wk_a75_X6_needRange, goodWord w = true := List.forall_mem_cons.mpr ⟨rfl, (show ∀ w ∈ wo_a75_X6_needRange, goodWord w = true by decide +kernel)⟩
set_option maxHeartbeats 4000000 in
set_option maxRecDepth 100000 in
theorem a75_X6_needRange (l : Launch) (hst : l.stackTraces = false) (D : va_G) (e0 : kE)   : kM l yX6_needRange wk_a75_X6_needRange 0 0 0 0 D kStr e0 [] [] [.int 0, .int 0, .int 100] (fun v w t => v = none ∧ w = [] ∧ t = []) (fun _ => False) := by
  refine k_of (cc := cX6_needRange) (maxL := 3) (ret := none) (by decide) rfl (Nat.le_of_ble_eq_true rfl) ?_
  intro p e s m args below meth c A ls hx hb hr hts hown hlocks hml hex hh hl
  have hown : s.vm.findClass RX6 = some m.cls := hown
  have hl : lv_has ls 3 [(0, .int 0), (1, .int 0), (2, .int 100)] := hl
  refine lv_iload_n hx hb dX6_needRange_0 rfl (lv_at hl 0 rfl) ?_
  refine lv_iload_n hx hb dX6_needRange_1 rfl (lv_at hl 1 rfl) ?_
  refine lv_icmp_lt (tgt := 10) hx hb dX6_needRange_2 (by decide) (fun c_2 => absurd c_2 (by decide)) (fun _ => ?_)
  refine lv_iload_n hx hb dX6_needRange_5 rfl (lv_at hl 0 rfl) ?_
  refine lv_iload_n hx hb dX6_needRange_6 rfl (lv_at hl 2 rfl) ?_
  refine lv_icmp_le (tgt := 21) hx hb dX6_needRange_7 (by decide) (fun _ => ?_) (fun c_7 => absurd (by decide) c_7)
  exact k_endv hx hb hr hlocks hh ⟨rfl, rfl, rfl⟩ [] [] rfl rfl rfl (Nat.le_of_ble_eq_true rfl) (Nat.le_of_ble_eq_true rfl) dX6_needRange_21
def wo_a76_X6_needProgramLength : List Cond := []
def wk_a76_X6_needProgramLength : List Cond := Cond.code yX6_needProgramLength cX6_needProgramLength 1 none :: wo_a76_X6_needProgramLength
theorem wo_a76_X6_needProgramLength_in : ∀ w ∈ wo_a76_X6_needProgramLength, w ∈ wk_a76_X6_needProgramLength := fun w h => List.mem_cons_of_mem _ h
theorem gk_a76_X6_needProgramLength : ∀ w ∈ wk_a76_X6_needProgramLength, goodWord w = true := List.forall_mem_cons.mpr ⟨rfl, (show ∀ w ∈ wo_a76_X6_needProgramLength, goodWord w = true by decide +kernel)⟩
set_option maxHeartbeats 4000000 in
set_option maxRecDepth 100000 in
theorem a76_X6_needProgramLength (l : Launch) (hst : l.stackTraces = false) (D : va_G) (e0 : kE)   : kM l yX6_needProgramLength wk_a76_X6_needProgramLength 0 0 0 0 D kStr e0 [] [] [.int 748] (fun v w t => v = none ∧ w = [] ∧ t = []) (fun _ => False) := by
  refine k_of (cc := cX6_needProgramLength) (maxL := 1) (ret := none) (by decide) rfl (Nat.le_of_ble_eq_true rfl) ?_
  intro p e s m args below meth c A ls hx hb hr hts hown hlocks hml hex hh hl
  have hown : s.vm.findClass RX6 = some m.cls := hown
  have hl : lv_has ls 1 [(0, .int 748)] := hl
  refine lv_iload_n hx hb dX6_needProgramLength_0 rfl (lv_at hl 0 rfl) ?_
  refine lv_sipush (v := 3000) hx hb dX6_needProgramLength_1 (by decide) ?_
  refine lv_icmp_le (tgt := 18) hx hb dX6_needProgramLength_4 (by decide) (fun _ => ?_) (fun c_4 => absurd (by decide) c_4)
  exact k_endv hx hb hr hlocks hh ⟨rfl, rfl, rfl⟩ [] [] rfl rfl rfl (Nat.le_of_ble_eq_true rfl) (Nat.le_of_ble_eq_true rfl) dX6_needProgramLength_18
def wo_a77_X1_init : List Cond := [Cond.methodLink RX1 3 objectInit, Cond.instanceMethod objectInit, Cond.code objectInit ⟨#[0xb1]⟩ 1 none, Cond.fieldLink RX1 9 "Segueworks$Item" "pieceNumber" "I", Cond.fieldLink RX1 15 "Segueworks$Item" "piece" "LSegueworks$Piece;", Cond.fieldLink RX1 19 "Segueworks$Item" "gap" "I", Cond.arrayClass .int, Cond.fieldLink RX1 22 "Segueworks$Item" "hundredths" "[I"]
def wk_a77_X1_init : List Cond := Cond.code yX1_init cX1_init 4 none :: (wo_a77_X1_init ++ (u_ws RX1 TX1 6))
theorem wo_a77_X1_init_in : ∀ w ∈ wo_a77_X1_init, w ∈ wk_a77_X1_init := fun w h => List.mem_cons_of_mem _ (List.mem_append_left _ h)
theorem ws_a77_X1_init_0 : ∀ w ∈ u_ws RX1 TX1 6, w ∈ wk_a77_X1_init := fun w h => List.mem_cons_of_mem _ (List.mem_append_right _ h)
theorem gk_a77_X1_init : ∀ w ∈ wk_a77_X1_init, goodWord w = true := List.forall_mem_cons.mpr ⟨rfl, (List.forall_mem_append.mpr ⟨(show ∀ w ∈ wo_a77_X1_init, goodWord w = true by decide +kernel), (show ∀ w ∈ u_ws RX1 TX1 6, goodWord w = true by decide +kernel)⟩)⟩
set_option maxHeartbeats 4000000 in
set_option maxRecDepth 100000 in
theorem a77_X1_init (l : Launch) (hst : l.stackTraces = false) (D : va_G) (e0 : kE) (q55 : Nat) (q47 : Nat)  : kI l yX1_init wk_a77_X1_init 1 20 1 8 D kStr e0 [] [(q55, .inr (6, [.int 0, .null, .int 0, .int 0, .null, .int 0]))] [.ref q55, .int 2, .ref q47, .int 0] (fun v w t => ∃ (q56 : Nat), v = none ∧ w = [(q55, .inr (6, [.int 2, .ref q47, .int 0, .int 0, .ref q56, .int 0]))] ∧ t = []) := by
  refine k_ofI (cc := cX1_init) (maxL := 4) (ret := none) (by decide) rfl (Nat.le_of_ble_eq_true rfl) ?_
  intro p e s m args below meth c A ls hx hb hr hts hown hlocks hml hin hh hl
  have hown : s.vm.findClass RX1 = some m.cls := hown
  have hl : lv_has ls 4 [(0, .ref q55), (1, .int 2), (2, .ref q47), (3, .int 0)] := hl
  have hin : meth.name = "<init>" := hin
  refine lv_aload_n hx hb dX1_init_0 rfl (lv_at hl 0 rfl) ?_
  refine W.objInit hx hb hown (hts _ (wo_a77_X1_init_in _ (List.mem_of_getElem? (i := 0) rfl))) (hts _ (wo_a77_X1_init_in _ (List.mem_of_getElem? (i := 1) rfl))) (hts _ (wo_a77_X1_init_in _ (List.mem_of_getElem? (i := 2) rfl))) rfl (by rw [hml]; exact hl.1) rfl dX1_init_1 (Nat.le_of_ble_eq_true rfl) (Nat.le_of_ble_eq_true rfl) ?_
  refine W.eq (g2 := F0 m 4 ls []) rfl ?_
  refine lv_aload_n hx hb dX1_init_4 rfl (lv_at hl 0 rfl) ?_
  refine lv_iload_n hx hb dX1_init_5 rfl (lv_at hl 1 rfl) ?_
  refine k_put (C := RX1) (T := TX1) (N := 6) (ci := 6) (v := .int 2) (ws' := [(q55, .inr (6, [.int 2, .null, .int 0, .int 0, .null, .int 0]))]) hx hb hts ws_a77_X1_init_0 tyX1 tyX1_ok nmX1 hown hh 0 rfl rfl 0 (by decide) (hts _ (wo_a77_X1_init_in _ (List.mem_of_getElem? (i := 3) rfl))) rfl rfl rfl (Nat.le_of_ble_eq_true rfl) dX1_init_6 rfl (fun H locs hh => ?_)
  refine lv_aload_n hx hb dX1_init_9 rfl (lv_at hl 0 rfl) ?_
  refine lv_aload_n hx hb dX1_init_10 rfl (lv_at hl 2 rfl) ?_
  refine k_put (C := RX1) (T := TX1) (N := 6) (ci := 6) (v := .ref q47) (ws' := [(q55, .inr (6, [.int 2, .ref q47, .int 0, .int 0, .null, .int 0]))]) hx hb hts ws_a77_X1_init_0 tyX1 tyX1_ok nmX1 hown hh 0 rfl rfl 1 (by decide) (hts _ (wo_a77_X1_init_in _ (List.mem_of_getElem? (i := 4) rfl))) rfl rfl rfl (Nat.le_of_ble_eq_true rfl) dX1_init_11 rfl (fun H locs hh => ?_)
  refine lv_aload_n hx hb dX1_init_14 rfl (lv_at hl 0 rfl) ?_
  refine lv_iload_n hx hb dX1_init_15 rfl (lv_at hl 3 rfl) ?_
  refine k_putF (C := RX1) (T := TX1) (N := 6) (ci := 6) (v := .int 0) (ws' := [(q55, .inr (6, [.int 2, .ref q47, .int 0, .int 0, .null, .int 0]))]) hx hb hts ws_a77_X1_init_0 tyX1 tyX1_ok nmX1 hown hh 0 rfl rfl 2 (by decide) (hts _ (wo_a77_X1_init_in _ (List.mem_of_getElem? (i := 5) rfl))) rfl hin rfl rfl rfl (Nat.le_of_ble_eq_true rfl) dX1_init_16 rfl (fun H locs hh => ?_)
  refine lv_aload_n hx hb dX1_init_19 rfl (lv_at hl 0 rfl) ?_
  refine lv_bipush (v := 8) hx hb dX1_init_20 (by decide) ?_
  refine k_newa (atype := .int) (ty := .int) (N' := 8) (a0 := (8, .inl (fun _ => 0))) hx hb (hts _ (wo_a77_X1_init_in _ (List.mem_of_getElem? (i := 6) rfl))) rfl hh (fun cA => rfl) (by decide) (by decide) (Nat.le_of_ble_eq_true rfl) (Nat.le_of_ble_eq_true rfl) (Nat.le_of_ble_eq_true rfl) dX1_init_22 (fun q56 y57 H hh => ?_)
  have hh : kH D kStr e0 A s H [(q55, .inr (6, [.int 2, .ref q47, .int 0, .int 0, .null, .int 0])), (q56, .inl (y57, 8, .inl (fun _ => 0)))] [(y57, .int)] _ := hh
  refine k_putF (C := RX1) (T := TX1) (N := 6) (ci := 6) (v := .ref q56) (ws' := [(q55, .inr (6, [.int 2, .ref q47, .int 0, .int 0, .ref q56, .int 0])), (q56, .inl (y57, 8, .inl (fun _ => 0)))]) hx hb hts ws_a77_X1_init_0 tyX1 tyX1_ok nmX1 hown hh 0 rfl rfl 4 (by decide) (hts _ (wo_a77_X1_init_in _ (List.mem_of_getElem? (i := 7) rfl))) rfl hin rfl rfl rfl (Nat.le_of_ble_eq_true rfl) dX1_init_24 rfl (fun H locs hh => ?_)
  exact k_endV hx hb hr hlocks hh ⟨q56, rfl, rfl, rfl⟩ [0] [] rfl rfl rfl (Nat.le_of_ble_eq_true rfl) (Nat.le_of_ble_eq_true rfl) dX1_init_27
def wo_a78_X1_fullLength : List Cond := [Cond.fieldLink RX1 19 "Segueworks$Item" "gap" "I", Cond.fieldLink RX1 15 "Segueworks$Item" "piece" "LSegueworks$Piece;", Cond.fieldLink RX1 26 "Segueworks$Piece" "samples" "[I"]
def wk_a78_X1_fullLength : List Cond := Cond.code yX1_fullLength cX1_fullLength 1 (some .int) :: (wo_a78_X1_fullLength ++ ((u_ws RX1 TX1 6) ++ (u_ws RX2 TX2 9)))
theorem wo_a78_X1_fullLength_in : ∀ w ∈ wo_a78_X1_fullLength, w ∈ wk_a78_X1_fullLength := fun w h => List.mem_cons_of_mem _ (List.mem_append_left _ h)
theorem ws_a78_X1_fullLength_0 : ∀ w ∈ u_ws RX1 TX1 6, w ∈ wk_a78_X1_fullLength := fun w h => List.mem_cons_of_mem _ (List.mem_append_right _ (List.mem_append_left _ h))
theorem ws_a78_X1_fullLength_1 : ∀ w ∈ u_ws RX2 TX2 9, w ∈ wk_a78_X1_fullLength := fun w h => List.mem_cons_of_mem _ (List.mem_append_right _ (List.mem_append_right _ h))
theorem gk_a78_X1_fullLength : ∀ w ∈ wk_a78_X1_fullLength, goodWord w = true := List.forall_mem_cons.mpr ⟨rfl, (List.forall_mem_append.mpr ⟨(show ∀ w ∈ wo_a78_X1_fullLength, goodWord w = true by decide +kernel), (List.forall_mem_append.mpr ⟨(show ∀ w ∈ u_ws RX1 TX1 6, goodWord w = true by decide +kernel), (show ∀ w ∈ u_ws RX2 TX2 9, goodWord w = true by decide +kernel)⟩)⟩)⟩
set_option maxHeartbeats 4000000 in
set_option maxRecDepth 100000 in
theorem a78_X1_fullLength (l : Launch) (hst : l.stackTraces = false) (D : va_G) (e0 : kE) (q55 : Nat) (q47 : Nat) (q56 : Nat) (q48 : Nat) (q40 : Nat) (q49 : Nat) (y50 : ClassId)  : kM l yX1_fullLength wk_a78_X1_fullLength 0 0 0 0 D kStr e0 [(y50, .int)] [(q55, .inr (6, [.int 2, .ref q47, .int 0, .int 0, .ref q56, .int 0])), (q47, .inr (7, [.int 120, .ref q48, .ref q40, .ref q40, .int 0, .int 0, .int 0, .ref q49, .int 1496])), (q48, .inl (y50, 748, .inl (fun _ => 0)))] [.ref q55] (fun v w t => v = some (.int 748) ∧ w = [(q55, .inr (6, [.int 2, .ref q47, .int 0, .int 0, .ref q56, .int 0])), (q47, .inr (7, [.int 120, .ref q48, .ref q40, .ref q40, .int 0, .int 0, .int 0, .ref q49, .int 1496])), (q48, .inl (y50, 748, .inl (fun _ => 0)))] ∧ t = [(y50, .int)]) (fun _ => False) := by
  refine k_of (cc := cX1_fullLength) (maxL := 1) (ret := (some .int)) (by decide) rfl (Nat.le_of_ble_eq_true rfl) ?_
  intro p e s m args below meth c A ls hx hb hr hts hown hlocks hml hex hh hl
  have hown : s.vm.findClass RX1 = some m.cls := hown
  have hl : lv_has ls 1 [(0, .ref q55)] := hl
  refine lv_aload_n hx hb dX1_fullLength_0 rfl (lv_at hl 0 rfl) ?_
  refine k_get (C := RX1) (T := TX1) (N := 6) (ci := 6) (v := .int 0) hx hb hts ws_a78_X1_fullLength_0 hown hh 0 rfl rfl 2 (by decide) (hts _ (wo_a78_X1_fullLength_in _ (List.mem_of_getElem? (i := 0) rfl))) rfl dX1_fullLength_1 ?_
  refine lv_aload_n hx hb dX1_fullLength_4 rfl (lv_at hl 0 rfl) ?_
  refine k_get (C := RX1) (T := TX1) (N := 6) (ci := 6) (v := .ref q47) hx hb hts ws_a78_X1_fullLength_0 hown hh 0 rfl rfl 1 (by decide) (hts _ (wo_a78_X1_fullLength_in _ (List.mem_of_getElem? (i := 1) rfl))) rfl dX1_fullLength_5 ?_
  refine k_get (C := RX2) (T := TX2) (N := 9) (ci := 7) (v := .ref q48) hx hb hts ws_a78_X1_fullLength_1 hown hh 1 rfl rfl 1 (by decide) (hts _ (wo_a78_X1_fullLength_in _ (List.mem_of_getElem? (i := 2) rfl))) rfl dX1_fullLength_8 ?_
  refine k_alen (v := 748) hx hb hh 2 0 rfl rfl rfl dX1_fullLength_11 ?_
  refine lv_iadd hx hb dX1_fullLength_12 ?_
  refine W.eq (g2 := F0 m 13 ls [.int 748]) (by first | rfl | decide) ?_
  exact k_endi hx hb hr hlocks hh ⟨rfl, rfl, rfl⟩ [0, 1, 2] [0] rfl rfl rfl (Nat.le_of_ble_eq_true rfl) (Nat.le_of_ble_eq_true rfl) dX1_fullLength_13
def wo_a79_X4_write : List Cond := [Cond.fieldLink RX4 38 "Segueworks$Item" "piece" "LSegueworks$Piece;", Cond.fieldLink RX4 42 "Segueworks$Piece" "samples" "[I", Cond.fieldLink RX4 35 "Segueworks$Program" "length" "I", Cond.fieldLink RX4 17 "Segueworks$Program" "row" "[I", Cond.fieldLink RX4 51 "Segueworks$Item" "gap" "I", Cond.methodLink RX4 54 arraycopyName, Cond.native arraycopyName, Cond.static arraycopyName, Cond.initialized "java/lang/System"]
def wk_a79_X4_write : List Cond := Cond.code yX4_write cX4_write 4 none :: (wo_a79_X4_write ++ ((u_ws RX1 TX1 6) ++ ((u_ws RX2 TX2 9) ++ ((u_ws RX4 TX4 6) ++ (wsV RX4 47 RX1 yX1_fullLength wk_a78_X1_fullLength)))))
theorem wo_a79_X4_write_in : ∀ w ∈ wo_a79_X4_write, w ∈ wk_a79_X4_write := fun w h => List.mem_cons_of_mem _ (List.mem_append_left _ h)
theorem ws_a79_X4_write_0 : ∀ w ∈ u_ws RX1 TX1 6, w ∈ wk_a79_X4_write := fun w h => List.mem_cons_of_mem _ (List.mem_append_right _ (List.mem_append_left _ h))
theorem ws_a79_X4_write_1 : ∀ w ∈ u_ws RX2 TX2 9, w ∈ wk_a79_X4_write := fun w h => List.mem_cons_of_mem _ (List.mem_append_right _ (List.mem_append_right _ (List.mem_append_left _ h)))
theorem ws_a79_X4_write_2 : ∀ w ∈ u_ws RX4 TX4 6, w ∈ wk_a79_X4_write := fun w h => List.mem_cons_of_mem _ (List.mem_append_right _ (List.mem_append_right _ (List.mem_append_right _ (List.mem_append_left _ h))))
theorem gi_a79_X4_write_3 : GoodIn wk_a79_X4_write (wsV RX4 47 RX1 yX1_fullLength wk_a78_X1_fullLength) := fun w h => ⟨List.mem_cons_of_mem _ (List.mem_append_right _ (List.mem_append_right _ (List.mem_append_right _ (List.mem_append_right _ h)))), good_of_word (kg_V gk_a78_X1_fullLength w h)⟩
theorem gk_a79_X4_write : ∀ w ∈ wk_a79_X4_write, goodWord w = true := List.forall_mem_cons.mpr ⟨rfl, (List.forall_mem_append.mpr ⟨(show ∀ w ∈ wo_a79_X4_write, goodWord w = true by decide +kernel), (List.forall_mem_append.mpr ⟨(show ∀ w ∈ u_ws RX1 TX1 6, goodWord w = true by decide +kernel), (List.forall_mem_append.mpr ⟨(show ∀ w ∈ u_ws RX2 TX2 9, goodWord w = true by decide +kernel), (List.forall_mem_append.mpr ⟨(show ∀ w ∈ u_ws RX4 TX4 6, goodWord w = true by decide +kernel), (kg_V gk_a78_X1_fullLength)⟩)⟩)⟩)⟩)⟩
set_option maxHeartbeats 4000000 in
set_option maxRecDepth 100000 in
theorem a79_X4_write (l : Launch) (hst : l.stackTraces = false) (D : va_G) (e0 : kE) (q4 : Nat) (q55 : Nat) (q8 : Nat) (q9 : Nat) (q10 : Nat) (q11 : Nat) (q47 : Nat) (q56 : Nat) (y13 : ClassId) (q48 : Nat) (q40 : Nat) (q49 : Nat) (y50 : ClassId)  : kM l yX4_write wk_a79_X4_write 1 60 0 0 D kStr e0 [(y13, .int), (y50, .int)] [(q4, .inr (9, [.ref q8, .int 1, .ref q9, .int 0, .ref q10, .ref q11])), (q55, .inr (6, [.int 2, .ref q47, .int 0, .int 0, .ref q56, .int 0])), (q9, .inl (y13, 3000, .inl (fun _ => 0))), (q47, .inr (7, [.int 120, .ref q48, .ref q40, .ref q40, .int 0, .int 0, .int 0, .ref q49, .int 1496])), (q48, .inl (y50, 748, .inl (fun _ => 0)))] [.ref q4, .ref q55] (fun v w t => v = none ∧ w = [(q4, .inr (9, [.ref q8, .int 1, .ref q9, .int 748, .ref q10, .ref q11])), (q55, .inr (6, [.int 2, .ref q47, .int 0, .int 0, .ref q56, .int 0])), (q9, .inl (y13, 3000, .inl (fun _ => 0))), (q47, .inr (7, [.int 120, .ref q48, .ref q40, .ref q40, .int 0, .int 0, .int 0, .ref q49, .int 1496])), (q48, .inl (y50, 748, .inl (fun _ => 0)))] ∧ t = [(y13, .int), (y50, .int)]) (fun _ => False) := by
  refine k_of (cc := cX4_write) (maxL := 4) (ret := none) (by decide) rfl (Nat.le_of_ble_eq_true rfl) ?_
  intro p e s m args below meth c A ls hx hb hr hts hown hlocks hml hex hh hl
  have hown : s.vm.findClass RX4 = some m.cls := hown
  have hl : lv_has ls 4 [(0, .ref q4), (1, .ref q55)] := hl
  refine lv_aload_n hx hb dX4_write_0 rfl (lv_at hl 1 rfl) ?_
  refine k_get (C := RX1) (T := TX1) (N := 6) (ci := 6) (v := .ref q47) hx hb hts ws_a79_X4_write_0 hown hh 1 rfl rfl 1 (by decide) (hts _ (wo_a79_X4_write_in _ (List.mem_of_getElem? (i := 0) rfl))) rfl dX4_write_1 ?_
  refine k_get (C := RX2) (T := TX2) (N := 9) (ci := 7) (v := .ref q48) hx hb hts ws_a79_X4_write_1 hown hh 3 rfl rfl 1 (by decide) (hts _ (wo_a79_X4_write_in _ (List.mem_of_getElem? (i := 1) rfl))) rfl dX4_write_4 ?_
  refine lv_astore_n (lv' := [(2, .ref q48), (0, .ref q4), (1, .ref q55)]) hx hb dX4_write_7 rfl hl (by decide) rfl (fun ls hl => ?_)
  refine lv_aload_n hx hb dX4_write_8 rfl (lv_at hl 1 rfl) ?_
  refine k_get (C := RX4) (T := TX4) (N := 6) (ci := 9) (v := .int 0) hx hb hts ws_a79_X4_write_2 hown hh 0 rfl rfl 3 (by decide) (hts _ (wo_a79_X4_write_in _ (List.mem_of_getElem? (i := 2) rfl))) rfl dX4_write_9 ?_
  refine lv_aload_n hx hb dX4_write_12 rfl (lv_at hl 2 rfl) ?_
  refine k_callV (C := RX1) (T := TX1) (N := 6) (ci := 6) (q0 := 1) (wr := [(q4, .inr (9, [.ref q8, .int 1, .ref q9, .int 0, .ref q10, .ref q11])), (q9, .inl (y13, 3000, .inl (fun _ => 0)))]) (rest := [.int 0]) (own := RX4) ⟨hx, hb, hml, hown, hts⟩ (a78_X1_fullLength l hst D e0 q55 q47 q56 q48 q40 q49 y50 ) (cwV 0 hts gi_a79_X4_write_3 rfl rfl rfl (by decide +kernel) ⟨Nat.le_of_ble_eq_true rfl, Nat.le_of_ble_eq_true rfl⟩) hh rfl rfl [1, 3, 4] [0, 2] [1] rfl rfl rfl rfl (by decide) rfl rfl hl rfl (Nat.le_of_ble_eq_true rfl) dX4_write_13 ⟨Nat.le_of_ble_eq_true rfl, (Nat.le_of_ble_eq_true rfl)⟩ (fun _ _ _ _ _ h => h.elim) (fun v w ty1 H locs hp hh => ?_)
  obtain ⟨rfl, rfl, rfl⟩ := hp
  have hh : kH D kStr e0 A s H [(q4, .inr (9, [.ref q8, .int 1, .ref q9, .int 0, .ref q10, .ref q11])), (q9, .inl (y13, 3000, .inl (fun _ => 0))), (q55, .inr (6, [.int 2, .ref q47, .int 0, .int 0, .ref q56, .int 0])), (q47, .inr (7, [.int 120, .ref q48, .ref q40, .ref q40, .int 0, .int 0, .int 0, .ref q49, .int 1496])), (q48, .inl (y50, 748, .inl (fun _ => 0)))] [(y13, .int), (y50, .int), (y50, .int)] _ := hh
  refine W.eq (g2 := F0 m 16 ls [.int 748, .int 0]) (by first | rfl | decide) ?_
  refine lv_iadd hx hb dX4_write_16 ?_
  refine W.eq (g2 := F0 m 17 ls [.int 748]) (by first | rfl | decide) ?_
  refine lv_aload_n hx hb dX4_write_17 rfl (lv_at hl 1 rfl) ?_
  refine k_get (C := RX4) (T := TX4) (N := 6) (ci := 9) (v := .ref q9) hx hb hts ws_a79_X4_write_2 hown hh 0 rfl rfl 2 (by decide) (hts _ (wo_a79_X4_write_in _ (List.mem_of_getElem? (i := 3) rfl))) rfl dX4_write_18 ?_
  refine k_alen (v := 3000) hx hb hh 1 0 rfl rfl rfl dX4_write_21 ?_
  refine lv_icmp_le (tgt := 26) hx hb dX4_write_22 (by decide) (fun _ => ?_) (fun c_22 => absurd (by decide) c_22)
  refine lv_iconst (v := 0) hx hb dX4_write_26 (by decide) ?_
  refine lv_istore_n (lv' := [(3, .int 0), (2, .ref q48), (0, .ref q4), (1, .ref q55)]) hx hb dX4_write_27 rfl hl (by decide) rfl (fun ls hl => ?_)
  refine lv_iload_n hx hb dX4_write_28 rfl (lv_at hl 0 rfl) ?_
  refine lv_aload_n hx hb dX4_write_29 rfl (lv_at hl 3 rfl) ?_
  refine k_get (C := RX1) (T := TX1) (N := 6) (ci := 6) (v := .int 0) hx hb hts ws_a79_X4_write_0 hown hh 2 rfl rfl 2 (by decide) (hts _ (wo_a79_X4_write_in _ (List.mem_of_getElem? (i := 4) rfl))) rfl dX4_write_30 ?_
  refine lv_icmp_ge (tgt := 54) hx hb dX4_write_33 (by decide) (fun _ => ?_) (fun c_33 => absurd (by decide) c_33)
  refine lv_aload_n hx hb dX4_write_54 rfl (lv_at hl 1 rfl) ?_
  refine lv_iconst (v := 0) hx hb dX4_write_55 (by decide) ?_
  refine lv_aload_n hx hb dX4_write_56 rfl (lv_at hl 2 rfl) ?_
  refine k_get (C := RX4) (T := TX4) (N := 6) (ci := 9) (v := .ref q9) hx hb hts ws_a79_X4_write_2 hown hh 0 rfl rfl 2 (by decide) (hts _ (wo_a79_X4_write_in _ (List.mem_of_getElem? (i := 3) rfl))) rfl dX4_write_57 ?_
  refine lv_aload_n hx hb dX4_write_60 rfl (lv_at hl 2 rfl) ?_
  refine k_get (C := RX4) (T := TX4) (N := 6) (ci := 9) (v := .int 0) hx hb hts ws_a79_X4_write_2 hown hh 0 rfl rfl 3 (by decide) (hts _ (wo_a79_X4_write_in _ (List.mem_of_getElem? (i := 2) rfl))) rfl dX4_write_61 ?_
  refine lv_aload_n hx hb dX4_write_64 rfl (lv_at hl 3 rfl) ?_
  refine k_get (C := RX1) (T := TX1) (N := 6) (ci := 6) (v := .int 0) hx hb hts ws_a79_X4_write_0 hown hh 2 rfl rfl 2 (by decide) (hts _ (wo_a79_X4_write_in _ (List.mem_of_getElem? (i := 4) rfl))) rfl dX4_write_65 ?_
  refine lv_iadd hx hb dX4_write_68 ?_
  refine W.eq (g2 := F0 m 69 ls [.int 0, .ref q9, .int 0, .ref q48]) (by first | rfl | decide) ?_
  refine lv_aload_n hx hb dX4_write_69 rfl (lv_at hl 1 rfl) ?_
  refine k_alen (v := 748) hx hb hh 4 1 rfl rfl rfl dX4_write_70 ?_
  refine k_cpy0 hx hb (by rw [hml]; exact hl.1.symm) hown (hts _ (wo_a79_X4_write_in _ (List.mem_of_getElem? (i := 5) rfl))) (hts _ (wo_a79_X4_write_in _ (List.mem_of_getElem? (i := 6) rfl))) (hts _ (wo_a79_X4_write_in _ (List.mem_of_getElem? (i := 7) rfl))) (hts _ (wo_a79_X4_write_in _ (List.mem_of_getElem? (i := 8) rfl))) hh 4 1 1 0 rfl rfl rfl rfl rfl (by decide) (by decide) (by decide) (by decide) (by decide) (fun _ _ => rfl) (Nat.le_of_ble_eq_true rfl) (by decide) dX4_write_71 (fun H locs hh => ?_)
  refine W.eq (g2 := F0 m 74 ls []) rfl ?_
  refine lv_aload_n hx hb dX4_write_74 rfl (lv_at hl 2 rfl) ?_
  refine lv_dup hx hb dX4_write_75 rfl ?_
  refine k_get (C := RX4) (T := TX4) (N := 6) (ci := 9) (v := .int 0) hx hb hts ws_a79_X4_write_2 hown hh 0 rfl rfl 3 (by decide) (hts _ (wo_a79_X4_write_in _ (List.mem_of_getElem? (i := 2) rfl))) rfl dX4_write_76 ?_
  refine lv_aload_n hx hb dX4_write_79 rfl (lv_at hl 3 rfl) ?_
  refine k_callV (C := RX1) (T := TX1) (N := 6) (ci := 6) (q0 := 2) (wr := [(q4, .inr (9, [.ref q8, .int 1, .ref q9, .int 0, .ref q10, .ref q11])), (q9, .inl (y13, 3000, .inl (fun _ => 0)))]) (rest := [.int 0, .ref q4]) (own := RX4) ⟨hx, hb, hml, hown, hts⟩ (a78_X1_fullLength l hst D e0 q55 q47 q56 q48 q40 q49 y50 ) (cwV 0 hts gi_a79_X4_write_3 rfl rfl rfl (by decide +kernel) ⟨Nat.le_of_ble_eq_true rfl, Nat.le_of_ble_eq_true rfl⟩) hh rfl rfl [2, 3, 4] [0, 1] [1] rfl rfl rfl rfl (by decide) rfl rfl hl rfl (Nat.le_of_ble_eq_true rfl) dX4_write_80 ⟨Nat.le_of_ble_eq_true rfl, (Nat.le_of_ble_eq_true rfl)⟩ (fun _ _ _ _ _ h => h.elim) (fun v w ty1 H locs hp hh => ?_)
  obtain ⟨rfl, rfl, rfl⟩ := hp
  have hh : kH D kStr e0 A s H [(q4, .inr (9, [.ref q8, .int 1, .ref q9, .int 0, .ref q10, .ref q11])), (q9, .inl (y13, 3000, .inl (fun _ => 0))), (q55, .inr (6, [.int 2, .ref q47, .int 0, .int 0, .ref q56, .int 0])), (q47, .inr (7, [.int 120, .ref q48, .ref q40, .ref q40, .int 0, .int 0, .int 0, .ref q49, .int 1496])), (q48, .inl (y50, 748, .inl (fun _ => 0)))] [(y13, .int), (y50, .int), (y50, .int), (y50, .int)] _ := hh
  refine W.eq (g2 := F0 m 83 ls [.int 748, .int 0, .ref q4]) (by first | rfl | decide) ?_
  refine lv_iadd hx hb dX4_write_83 ?_
  refine W.eq (g2 := F0 m 84 ls [.int 748, .ref q4]) (by first | rfl | decide) ?_
  refine k_put (C := RX4) (T := TX4) (N := 6) (ci := 9) (v := .int 748) (ws' := [(q4, .inr (9, [.ref q8, .int 1, .ref q9, .int 748, .ref q10, .ref q11])), (q9, .inl (y13, 3000, .inl (fun _ => 0))), (q55, .inr (6, [.int 2, .ref q47, .int 0, .int 0, .ref q56, .int 0])), (q47, .inr (7, [.int 120, .ref q48, .ref q40, .ref q40, .int 0, .int 0, .int 0, .ref q49, .int 1496])), (q48, .inl (y50, 748, .inl (fun _ => 0)))]) hx hb hts ws_a79_X4_write_2 tyX4 tyX4_ok nmX4 hown hh 0 rfl rfl 3 (by decide) (hts _ (wo_a79_X4_write_in _ (List.mem_of_getElem? (i := 2) rfl))) rfl rfl rfl (Nat.le_of_ble_eq_true rfl) dX4_write_84 rfl (fun H locs hh => ?_)
  exact k_endv hx hb hr hlocks hh ⟨rfl, rfl, rfl⟩ [0, 2, 1, 3, 4] [0, 1] rfl rfl rfl (Nat.le_of_ble_eq_true rfl) (Nat.le_of_ble_eq_true rfl) dX4_write_87
def wo_a80_X4_append : List Cond := [Cond.fieldLink RX4 11 "Segueworks$Program" "items" "[LSegueworks$Item;", Cond.fieldLink RX4 27 "Segueworks$Program" "count" "I"]
def wk_a80_X4_append : List Cond := Cond.code yX4_append cX4_append 2 none :: (wo_a80_X4_append ++ ((u_ws RX4 TX4 6) ++ (wsV RX4 31 RX4 yX4_write wk_a79_X4_write)))
theorem wo_a80_X4_append_in : ∀ w ∈ wo_a80_X4_append, w ∈ wk_a80_X4_append := fun w h => List.mem_cons_of_mem _ (List.mem_append_left _ h)
theorem ws_a80_X4_append_0 : ∀ w ∈ u_ws RX4 TX4 6, w ∈ wk_a80_X4_append := fun w h => List.mem_cons_of_mem _ (List.mem_append_right _ (List.mem_append_left _ h))
theorem gi_a80_X4_append_1 : GoodIn wk_a80_X4_append (wsV RX4 31 RX4 yX4_write wk_a79_X4_write) := fun w h => ⟨List.mem_cons_of_mem _ (List.mem_append_right _ (List.mem_append_right _ h)), good_of_word (kg_V gk_a79_X4_write w h)⟩
theorem gk_a80_X4_append : ∀ w ∈ wk_a80_X4_append, goodWord w = true := List.forall_mem_cons.mpr ⟨rfl, (List.forall_mem_append.mpr ⟨(show ∀ w ∈ wo_a80_X4_append, goodWord w = true by decide +kernel), (List.forall_mem_append.mpr ⟨(show ∀ w ∈ u_ws RX4 TX4 6, goodWord w = true by decide +kernel), (kg_V gk_a79_X4_write)⟩)⟩)⟩
set_option maxHeartbeats 4000000 in
set_option maxRecDepth 100000 in
theorem a80_X4_append (l : Launch) (hst : l.stackTraces = false) (D : va_G) (e0 : kE) (q4 : Nat) (q55 : Nat) (q8 : Nat) (q9 : Nat) (q10 : Nat) (q11 : Nat) (q47 : Nat) (q56 : Nat) (y12 : ClassId) (y13 : ClassId) (q48 : Nat) (q40 : Nat) (q49 : Nat) (y50 : ClassId)  : kM l yX4_append wk_a80_X4_append 2 83 0 0 D kStr e0 [(y12, .object "Segueworks$Item"), (y13, .int), (y50, .int)] [(q4, .inr (9, [.ref q8, .int 0, .ref q9, .int 0, .ref q10, .ref q11])), (q55, .inr (6, [.int 2, .ref q47, .int 0, .int 0, .ref q56, .int 0])), (q8, .inl (y12, 12, .inr (.inr (.inr (.inr (fun _ => none)))))), (q9, .inl (y13, 3000, .inl (fun _ => 0))), (q47, .inr (7, [.int 120, .ref q48, .ref q40, .ref q40, .int 0, .int 0, .int 0, .ref q49, .int 1496])), (q48, .inl (y50, 748, .inl (fun _ => 0)))] [.ref q4, .ref q55] (fun v w t => v = none ∧ w = [(q4, .inr (9, [.ref q8, .int 1, .ref q9, .int 748, .ref q10, .ref q11])), (q55, .inr (6, [.int 2, .ref q47, .int 0, .int 0, .ref q56, .int 0])), (q8, .inl (y12, 12, .inr (.inr (.inr (.inr (va_up ((fun _ => none)) (0 : Int32).toNatClampNeg (some q55))))))), (q9, .inl (y13, 3000, .inl (fun _ => 0))), (q47, .inr (7, [.int 120, .ref q48, .ref q40, .ref q40, .int 0, .int 0, .int 0, .ref q49, .int 1496])), (q48, .inl (y50, 748, .inl (fun _ => 0)))] ∧ t = [(y12, .object "Segueworks$Item"), (y13, .int), (y50, .int)]) (fun _ => False) := by
  refine k_of (cc := cX4_append) (maxL := 2) (ret := none) (by decide) rfl (Nat.le_of_ble_eq_true rfl) ?_
  intro p e s m args below meth c A ls hx hb hr hts hown hlocks hml hex hh hl
  have hown : s.vm.findClass RX4 = some m.cls := hown
  have hl : lv_has ls 2 [(0, .ref q4), (1, .ref q55)] := hl
  refine lv_aload_n hx hb dX4_append_0 rfl (lv_at hl 0 rfl) ?_
  refine k_get (C := RX4) (T := TX4) (N := 6) (ci := 9) (v := .ref q8) hx hb hts ws_a80_X4_append_0 hown hh 0 rfl rfl 0 (by decide) (hts _ (wo_a80_X4_append_in _ (List.mem_of_getElem? (i := 0) rfl))) rfl dX4_append_1 ?_
  refine lv_aload_n hx hb dX4_append_4 rfl (lv_at hl 0 rfl) ?_
  refine k_get (C := RX4) (T := TX4) (N := 6) (ci := 9) (v := .int 0) hx hb hts ws_a80_X4_append_0 hown hh 0 rfl rfl 1 (by decide) (hts _ (wo_a80_X4_append_in _ (List.mem_of_getElem? (i := 1) rfl))) rfl dX4_append_5 ?_
  refine lv_aload_n hx hb dX4_append_8 rfl (lv_at hl 1 rfl) ?_
  refine k_astq (ws' := [(q4, .inr (9, [.ref q8, .int 0, .ref q9, .int 0, .ref q10, .ref q11])), (q55, .inr (6, [.int 2, .ref q47, .int 0, .int 0, .ref q56, .int 0])), (q8, .inl (y12, 12, .inr (.inr (.inr (.inr (va_up ((fun _ => none)) (0 : Int32).toNatClampNeg (some q55))))))), (q9, .inl (y13, 3000, .inl (fun _ => 0))), (q47, .inr (7, [.int 120, .ref q48, .ref q40, .ref q40, .int 0, .int 0, .int 0, .ref q49, .int 1496])), (q48, .inl (y50, 748, .inl (fun _ => 0)))]) hx hb hh 2 0 1 6 rfl rfl rfl rfl (by unfold vp_in; decide) dX4_append_9 rfl (fun H locs hh => ?_)
  refine lv_aload_n hx hb dX4_append_10 rfl (lv_at hl 0 rfl) ?_
  refine lv_dup hx hb dX4_append_11 rfl ?_
  refine k_get (C := RX4) (T := TX4) (N := 6) (ci := 9) (v := .int 0) hx hb hts ws_a80_X4_append_0 hown hh 0 rfl rfl 1 (by decide) (hts _ (wo_a80_X4_append_in _ (List.mem_of_getElem? (i := 1) rfl))) rfl dX4_append_12 ?_
  refine lv_iconst (v := 1) hx hb dX4_append_15 (by decide) ?_
  refine lv_iadd hx hb dX4_append_16 ?_
  refine W.eq (g2 := F0 m 17 ls [.int 1, .ref q4]) (by first | rfl | decide) ?_
  refine k_put (C := RX4) (T := TX4) (N := 6) (ci := 9) (v := .int 1) (ws' := [(q4, .inr (9, [.ref q8, .int 1, .ref q9, .int 0, .ref q10, .ref q11])), (q55, .inr (6, [.int 2, .ref q47, .int 0, .int 0, .ref q56, .int 0])), (q8, .inl (y12, 12, .inr (.inr (.inr (.inr (va_up ((fun _ => none)) (0 : Int32).toNatClampNeg (some q55))))))), (q9, .inl (y13, 3000, .inl (fun _ => 0))), (q47, .inr (7, [.int 120, .ref q48, .ref q40, .ref q40, .int 0, .int 0, .int 0, .ref q49, .int 1496])), (q48, .inl (y50, 748, .inl (fun _ => 0)))]) hx hb hts ws_a80_X4_append_0 tyX4 tyX4_ok nmX4 hown hh 0 rfl rfl 1 (by decide) (hts _ (wo_a80_X4_append_in _ (List.mem_of_getElem? (i := 1) rfl))) rfl rfl rfl (Nat.le_of_ble_eq_true rfl) dX4_append_17 rfl (fun H locs hh => ?_)
  refine lv_aload_n hx hb dX4_append_20 rfl (lv_at hl 0 rfl) ?_
  refine lv_aload_n hx hb dX4_append_21 rfl (lv_at hl 1 rfl) ?_
  refine k_callV (C := RX4) (T := TX4) (N := 6) (ci := 9) (q0 := 0) (wr := [(q8, .inl (y12, 12, .inr (.inr (.inr (.inr (va_up ((fun _ => none)) (0 : Int32).toNatClampNeg (some q55)))))))]) (rest := []) (own := RX4) ⟨hx, hb, hml, hown, hts⟩ (a79_X4_write l hst D e0 q4 q55 q8 q9 q10 q11 q47 q56 y13 q48 q40 q49 y50 ) (cwV 1 hts gi_a80_X4_append_1 rfl rfl rfl (by decide +kernel) ⟨Nat.le_of_ble_eq_true rfl, Nat.le_of_ble_eq_true rfl⟩) hh rfl rfl [0, 1, 3, 4, 5] [2] [1, 2] rfl rfl rfl rfl (by decide) rfl rfl hl rfl (Nat.le_of_ble_eq_true rfl) dX4_append_22 ⟨Nat.le_of_ble_eq_true rfl, (Nat.le_of_ble_eq_true rfl)⟩ (fun _ _ _ _ _ h => h.elim) (fun v w ty1 H locs hp hh => ?_)
  obtain ⟨rfl, rfl, rfl⟩ := hp
  have hh : kH D kStr e0 A s H [(q8, .inl (y12, 12, .inr (.inr (.inr (.inr (va_up ((fun _ => none)) (0 : Int32).toNatClampNeg (some q55))))))), (q4, .inr (9, [.ref q8, .int 1, .ref q9, .int 748, .ref q10, .ref q11])), (q55, .inr (6, [.int 2, .ref q47, .int 0, .int 0, .ref q56, .int 0])), (q9, .inl (y13, 3000, .inl (fun _ => 0))), (q47, .inr (7, [.int 120, .ref q48, .ref q40, .ref q40, .int 0, .int 0, .int 0, .ref q49, .int 1496])), (q48, .inl (y50, 748, .inl (fun _ => 0)))] [(y12, .object "Segueworks$Item"), (y13, .int), (y50, .int), (y13, .int), (y50, .int)] _ := hh
  refine W.eq (g2 := F0 m 25 ls []) (by first | rfl | decide) ?_
  exact k_endv hx hb hr hlocks hh ⟨rfl, rfl, rfl⟩ [1, 2, 0, 3, 4, 5] [0, 1, 2] rfl rfl rfl (Nat.le_of_ble_eq_true rfl) (Nat.le_of_ble_eq_true rfl) dX4_append_25
def wo_a81_X6_add : List Cond := [Cond.fieldLink RX6 24 "Segueworks" "program" "LSegueworks$Program;", Cond.fieldLink RX6 129 "Segueworks$Program" "length" "I", Cond.fieldLink RX6 103 "Segueworks$Piece" "samples" "[I", Cond.fieldLink RX6 133 "Segueworks$Program" "count" "I", Cond.classLink RX6 138 RX1, Cond.instantiable RX1 6, Cond.initialized RX1, Cond.methodLink RX6 140 yX1_init, Cond.instanceMethod yX1_init]
def wk_a81_X6_add : List Cond := Cond.code yX6_add cX6_add 4 (some .int) :: (wo_a81_X6_add ++ ((wsV RX6 99 RX6 yX6_knownPiece wk_a74_X6_knownPiece) ++ ((va_wsS RX6 57 yX6_needRange wk_a75_X6_needRange) ++ ((u_ws RX6 TX6 8) ++ ((u_ws RX4 TX4 6) ++ ((u_ws RX2 TX2 9) ++ ((va_wsS RX6 130 yX6_needProgramLength wk_a76_X6_needProgramLength) ++ ((u_ws RX1 TX1 6) ++ ((wk_a77_X1_init) ++ (wsV RX6 143 RX4 yX4_append wk_a80_X4_append))))))))))
theorem wo_a81_X6_add_in : ∀ w ∈ wo_a81_X6_add, w ∈ wk_a81_X6_add := fun w h => List.mem_cons_of_mem _ (List.mem_append_left _ h)
theorem gi_a81_X6_add_0 : GoodIn wk_a81_X6_add (wsV RX6 99 RX6 yX6_knownPiece wk_a74_X6_knownPiece) := fun w h => ⟨List.mem_cons_of_mem _ (List.mem_append_right _ (List.mem_append_left _ h)), good_of_word (kg_V gk_a74_X6_knownPiece w h)⟩
theorem gi_a81_X6_add_1 : GoodIn wk_a81_X6_add (va_wsS RX6 57 yX6_needRange wk_a75_X6_needRange) := fun w h => ⟨List.mem_cons_of_mem _ (List.mem_append_right _ (List.mem_append_right _ (List.mem_append_left _ h))), good_of_word (kg_S gk_a75_X6_needRange w h)⟩
theorem ws_a81_X6_add_2 : ∀ w ∈ u_ws RX6 TX6 8, w ∈ wk_a81_X6_add := fun w h => List.mem_cons_of_mem _ (List.mem_append_right _ (List.mem_append_right _ (List.mem_append_right _ (List.mem_append_left _ h))))
theorem ws_a81_X6_add_3 : ∀ w ∈ u_ws RX4 TX4 6, w ∈ wk_a81_X6_add := fun w h => List.mem_cons_of_mem _ (List.mem_append_right _ (List.mem_append_right _ (List.mem_append_right _ (List.mem_append_right _ (List.mem_append_left _ h)))))
theorem ws_a81_X6_add_4 : ∀ w ∈ u_ws RX2 TX2 9, w ∈ wk_a81_X6_add := fun w h => List.mem_cons_of_mem _ (List.mem_append_right _ (List.mem_append_right _ (List.mem_append_right _ (List.mem_append_right _ (List.mem_append_right _ (List.mem_append_left _ h))))))
theorem gi_a81_X6_add_5 : GoodIn wk_a81_X6_add (va_wsS RX6 130 yX6_needProgramLength wk_a76_X6_needProgramLength) := fun w h => ⟨List.mem_cons_of_mem _ (List.mem_append_right _ (List.mem_append_right _ (List.mem_append_right _ (List.mem_append_right _ (List.mem_append_right _ (List.mem_append_right _ (List.mem_append_left _ h))))))), good_of_word (kg_S gk_a76_X6_needProgramLength w h)⟩
theorem ws_a81_X6_add_6 : ∀ w ∈ u_ws RX1 TX1 6, w ∈ wk_a81_X6_add := fun w h => List.mem_cons_of_mem _ (List.mem_append_right _ (List.mem_append_right _ (List.mem_append_right _ (List.mem_append_right _ (List.mem_append_right _ (List.mem_append_right _ (List.mem_append_right _ (List.mem_append_left _ h))))))))
theorem gi_a81_X6_add_7 : GoodIn wk_a81_X6_add (wk_a77_X1_init) := fun w h => ⟨List.mem_cons_of_mem _ (List.mem_append_right _ (List.mem_append_right _ (List.mem_append_right _ (List.mem_append_right _ (List.mem_append_right _ (List.mem_append_right _ (List.mem_append_right _ (List.mem_append_right _ (List.mem_append_left _ h))))))))), good_of_word (gk_a77_X1_init w h)⟩
theorem gi_a81_X6_add_8 : GoodIn wk_a81_X6_add (wsV RX6 143 RX4 yX4_append wk_a80_X4_append) := fun w h => ⟨List.mem_cons_of_mem _ (List.mem_append_right _ (List.mem_append_right _ (List.mem_append_right _ (List.mem_append_right _ (List.mem_append_right _ (List.mem_append_right _ (List.mem_append_right _ (List.mem_append_right _ (List.mem_append_right _ h))))))))), good_of_word (kg_V gk_a80_X4_append w h)⟩
theorem gk_a81_X6_add : ∀ w ∈ wk_a81_X6_add, goodWord w = true := List.forall_mem_cons.mpr ⟨rfl, (List.forall_mem_append.mpr ⟨(show ∀ w ∈ wo_a81_X6_add, goodWord w = true by decide +kernel), (List.forall_mem_append.mpr ⟨(kg_V gk_a74_X6_knownPiece), (List.forall_mem_append.mpr ⟨(kg_S gk_a75_X6_needRange), (List.forall_mem_append.mpr ⟨(show ∀ w ∈ u_ws RX6 TX6 8, goodWord w = true by decide +kernel), (List.forall_mem_append.mpr ⟨(show ∀ w ∈ u_ws RX4 TX4 6, goodWord w = true by decide +kernel), (List.forall_mem_append.mpr ⟨(show ∀ w ∈ u_ws RX2 TX2 9, goodWord w = true by decide +kernel), (List.forall_mem_append.mpr ⟨(kg_S gk_a76_X6_needProgramLength), (List.forall_mem_append.mpr ⟨(show ∀ w ∈ u_ws RX1 TX1 6, goodWord w = true by decide +kernel), (List.forall_mem_append.mpr ⟨gk_a77_X1_init, (kg_V gk_a80_X4_append)⟩)⟩)⟩)⟩)⟩)⟩)⟩)⟩)⟩)⟩
set_option maxHeartbeats 4000000 in
set_option maxRecDepth 100000 in
theorem a81_X6_add (l : Launch) (hst : l.stackTraces = false) (D : va_G) (e0 : kE) (q1 : Nat) (q2 : Nat) (q3 : Nat) (q4 : Nat) (q5 : Nat) (q6 : Nat) (y7 : ClassId) (q29 : Nat) (q39 : Nat) (q47 : Nat) (q8 : Nat) (q9 : Nat) (q10 : Nat) (q11 : Nat) (q48 : Nat) (q40 : Nat) (q49 : Nat) (y12 : ClassId) (y13 : ClassId) (y50 : ClassId)  : kM l yX6_add wk_a81_X6_add 3 104 2 14 D kStr e0 [(y7, .object "Segueworks$Piece"), (y12, .object "Segueworks$Item"), (y13, .int), (y50, .int)] [(q1, .inr (11, [.ref q2, .int 0, .ref q3, .int 3, .ref q4, .ref q5, .ref q6, .int 0])), (q3, .inl (y7, 24, .inr (.inr (.inr (.inr (va_up ((va_up ((va_up ((fun _ => none)) (0 : Int32).toNatClampNeg (some q29))) (1 : Int32).toNatClampNeg (some q39))) (2 : Int32).toNatClampNeg (some q47))))))), (q4, .inr (9, [.ref q8, .int 0, .ref q9, .int 0, .ref q10, .ref q11])), (q47, .inr (7, [.int 120, .ref q48, .ref q40, .ref q40, .int 0, .int 0, .int 0, .ref q49, .int 1496])), (q8, .inl (y12, 12, .inr (.inr (.inr (.inr (fun _ => none)))))), (q9, .inl (y13, 3000, .inl (fun _ => 0))), (q48, .inl (y50, 748, .inl (fun _ => 0)))] [.ref q1, .int 2, .int 0] (fun v w t => ∃ (q55 : Nat), ∃ (q56 : Nat), v = some (.int 0) ∧ w = [(q1, .inr (11, [.ref q2, .int 0, .ref q3, .int 3, .ref q4, .ref q5, .ref q6, .int 0])), (q3, .inl (y7, 24, .inr (.inr (.inr (.inr (va_up ((va_up ((va_up ((fun _ => none)) (0 : Int32).toNatClampNeg (some q29))) (1 : Int32).toNatClampNeg (some q39))) (2 : Int32).toNatClampNeg (some q47))))))), (q4, .inr (9, [.ref q8, .int 1, .ref q9, .int 748, .ref q10, .ref q11])), (q47, .inr (7, [.int 120, .ref q48, .ref q40, .ref q40, .int 0, .int 0, .int 0, .ref q49, .int 1496])), (q8, .inl (y12, 12, .inr (.inr (.inr (.inr (va_up ((fun _ => none)) (0 : Int32).toNatClampNeg (some q55))))))), (q9, .inl (y13, 3000, .inl (fun _ => 0))), (q48, .inl (y50, 748, .inl (fun _ => 0))), (q55, .inr (6, [.int 2, .ref q47, .int 0, .int 0, .ref q56, .int 0]))] ∧ t = [(y7, .object "Segueworks$Piece"), (y12, .object "Segueworks$Item"), (y13, .int), (y50, .int)]) (fun _ => False) := by
  refine k_of (cc := cX6_add) (maxL := 4) (ret := (some .int)) (by decide) rfl (Nat.le_of_ble_eq_true rfl) ?_
  intro p e s m args below meth c A ls hx hb hr hts hown hlocks hml hex hh hl
  have hown : s.vm.findClass RX6 = some m.cls := hown
  have hl : lv_has ls 4 [(0, .ref q1), (1, .int 2), (2, .int 0)] := hl
  refine lv_aload_n hx hb dX6_add_0 rfl (lv_at hl 0 rfl) ?_
  refine lv_iload_n hx hb dX6_add_1 rfl (lv_at hl 1 rfl) ?_
  refine k_callV (C := RX6) (T := TX6) (N := 8) (ci := 11) (q0 := 0) (wr := [(q4, .inr (9, [.ref q8, .int 0, .ref q9, .int 0, .ref q10, .ref q11])), (q47, .inr (7, [.int 120, .ref q48, .ref q40, .ref q40, .int 0, .int 0, .int 0, .ref q49, .int 1496])), (q8, .inl (y12, 12, .inr (.inr (.inr (.inr (fun _ => none)))))), (q9, .inl (y13, 3000, .inl (fun _ => 0))), (q48, .inl (y50, 748, .inl (fun _ => 0)))]) (rest := []) (own := RX6) ⟨hx, hb, hml, hown, hts⟩ (a74_X6_knownPiece l hst D e0 q1 q2 q3 q4 q5 q6 y7 q29 q39 q47 ) (cwV 1 hts gi_a81_X6_add_0 rfl rfl rfl (by decide +kernel) ⟨Nat.le_of_ble_eq_true rfl, Nat.le_of_ble_eq_true rfl⟩) hh rfl rfl [0, 1] [2, 3, 4, 5, 6] [0] rfl rfl rfl rfl (by decide) rfl rfl hl rfl (Nat.le_of_ble_eq_true rfl) dX6_add_2 ⟨Nat.le_of_ble_eq_true rfl, (Nat.le_of_ble_eq_true rfl)⟩ (fun _ _ _ _ _ h => h.elim) (fun v w ty1 H locs hp hh => ?_)
  obtain ⟨rfl, rfl, rfl⟩ := hp
  have hh : kH D kStr e0 A s H [(q4, .inr (9, [.ref q8, .int 0, .ref q9, .int 0, .ref q10, .ref q11])), (q47, .inr (7, [.int 120, .ref q48, .ref q40, .ref q40, .int 0, .int 0, .int 0, .ref q49, .int 1496])), (q8, .inl (y12, 12, .inr (.inr (.inr (.inr (fun _ => none)))))), (q9, .inl (y13, 3000, .inl (fun _ => 0))), (q48, .inl (y50, 748, .inl (fun _ => 0))), (q1, .inr (11, [.ref q2, .int 0, .ref q3, .int 3, .ref q4, .ref q5, .ref q6, .int 0])), (q3, .inl (y7, 24, .inr (.inr (.inr (.inr (va_up ((va_up ((va_up ((fun _ => none)) (0 : Int32).toNatClampNeg (some q29))) (1 : Int32).toNatClampNeg (some q39))) (2 : Int32).toNatClampNeg (some q47)))))))] [(y7, .object "Segueworks$Piece"), (y12, .object "Segueworks$Item"), (y13, .int), (y50, .int), (y7, .object "Segueworks$Piece")] _ := hh
  refine W.eq (g2 := F0 m 5 ls [.ref q47]) (by first | rfl | decide) ?_
  refine lv_astore_n (lv' := [(3, .ref q47), (0, .ref q1), (1, .int 2), (2, .int 0)]) hx hb dX6_add_5 rfl hl (by decide) rfl (fun ls hl => ?_)
  refine lv_iload_n hx hb dX6_add_6 rfl (lv_at hl 3 rfl) ?_
  refine lv_iconst (v := 0) hx hb dX6_add_7 (by decide) ?_
  refine lv_bipush (v := 100) hx hb dX6_add_8 (by decide) ?_
  refine k_callS (wr := [(q4, .inr (9, [.ref q8, .int 0, .ref q9, .int 0, .ref q10, .ref q11])), (q47, .inr (7, [.int 120, .ref q48, .ref q40, .ref q40, .int 0, .int 0, .int 0, .ref q49, .int 1496])), (q8, .inl (y12, 12, .inr (.inr (.inr (.inr (fun _ => none)))))), (q9, .inl (y13, 3000, .inl (fun _ => 0))), (q48, .inl (y50, 748, .inl (fun _ => 0))), (q1, .inr (11, [.ref q2, .int 0, .ref q3, .int 3, .ref q4, .ref q5, .ref q6, .int 0])), (q3, .inl (y7, 24, .inr (.inr (.inr (.inr (va_up ((va_up ((va_up ((fun _ => none)) (0 : Int32).toNatClampNeg (some q29))) (1 : Int32).toNatClampNeg (some q39))) (2 : Int32).toNatClampNeg (some q47)))))))]) (rest := []) (own := RX6) ⟨hx, hb, hml, hown, hts⟩ (a75_X6_needRange l hst D e0  ) (va_cwS 3 hts gi_a81_X6_add_1 rfl rfl rfl (by decide +kernel) ⟨Nat.le_of_ble_eq_true rfl, Nat.le_of_ble_eq_true rfl⟩) hh [] [0, 1, 2, 3, 4, 5, 6] [] rfl rfl rfl rfl (by decide) rfl rfl hl rfl (Nat.le_of_ble_eq_true rfl) dX6_add_10 ⟨Nat.le_of_ble_eq_true rfl, (Nat.le_of_ble_eq_true rfl)⟩ (fun _ _ _ _ _ h => h.elim) (fun v w ty1 H locs hp hh => ?_)
  obtain ⟨rfl, rfl, rfl⟩ := hp
  have hh : kH D kStr e0 A s H [(q4, .inr (9, [.ref q8, .int 0, .ref q9, .int 0, .ref q10, .ref q11])), (q47, .inr (7, [.int 120, .ref q48, .ref q40, .ref q40, .int 0, .int 0, .int 0, .ref q49, .int 1496])), (q8, .inl (y12, 12, .inr (.inr (.inr (.inr (fun _ => none)))))), (q9, .inl (y13, 3000, .inl (fun _ => 0))), (q48, .inl (y50, 748, .inl (fun _ => 0))), (q1, .inr (11, [.ref q2, .int 0, .ref q3, .int 3, .ref q4, .ref q5, .ref q6, .int 0])), (q3, .inl (y7, 24, .inr (.inr (.inr (.inr (va_up ((va_up ((va_up ((fun _ => none)) (0 : Int32).toNatClampNeg (some q29))) (1 : Int32).toNatClampNeg (some q39))) (2 : Int32).toNatClampNeg (some q47)))))))] [(y7, .object "Segueworks$Piece"), (y12, .object "Segueworks$Item"), (y13, .int), (y50, .int), (y7, .object "Segueworks$Piece")] _ := hh
  refine W.eq (g2 := F0 m 13 ls []) (by first | rfl | decide) ?_
  refine lv_aload_n hx hb dX6_add_13 rfl (lv_at hl 1 rfl) ?_
  refine k_get (C := RX6) (T := TX6) (N := 8) (ci := 11) (v := .ref q4) hx hb hts ws_a81_X6_add_2 hown hh 5 rfl rfl 4 (by decide) (hts _ (wo_a81_X6_add_in _ (List.mem_of_getElem? (i := 0) rfl))) rfl dX6_add_14 ?_
  refine k_get (C := RX4) (T := TX4) (N := 6) (ci := 9) (v := .int 0) hx hb hts ws_a81_X6_add_3 hown hh 0 rfl rfl 3 (by decide) (hts _ (wo_a81_X6_add_in _ (List.mem_of_getElem? (i := 1) rfl))) rfl dX6_add_17 ?_
  refine lv_iload_n hx hb dX6_add_20 rfl (lv_at hl 3 rfl) ?_
  refine lv_iadd hx hb dX6_add_21 ?_
  refine W.eq (g2 := F0 m 22 ls [.int 0]) (by first | rfl | decide) ?_
  refine lv_aload_n hx hb dX6_add_22 rfl (lv_at hl 0 rfl) ?_
  refine k_get (C := RX2) (T := TX2) (N := 9) (ci := 7) (v := .ref q48) hx hb hts ws_a81_X6_add_4 hown hh 1 rfl rfl 1 (by decide) (hts _ (wo_a81_X6_add_in _ (List.mem_of_getElem? (i := 2) rfl))) rfl dX6_add_23 ?_
  refine k_alen (v := 748) hx hb hh 4 3 rfl rfl rfl dX6_add_26 ?_
  refine lv_iadd hx hb dX6_add_27 ?_
  refine W.eq (g2 := F0 m 28 ls [.int 748]) (by first | rfl | decide) ?_
  refine k_callS (wr := [(q4, .inr (9, [.ref q8, .int 0, .ref q9, .int 0, .ref q10, .ref q11])), (q47, .inr (7, [.int 120, .ref q48, .ref q40, .ref q40, .int 0, .int 0, .int 0, .ref q49, .int 1496])), (q8, .inl (y12, 12, .inr (.inr (.inr (.inr (fun _ => none)))))), (q9, .inl (y13, 3000, .inl (fun _ => 0))), (q48, .inl (y50, 748, .inl (fun _ => 0))), (q1, .inr (11, [.ref q2, .int 0, .ref q3, .int 3, .ref q4, .ref q5, .ref q6, .int 0])), (q3, .inl (y7, 24, .inr (.inr (.inr (.inr (va_up ((va_up ((va_up ((fun _ => none)) (0 : Int32).toNatClampNeg (some q29))) (1 : Int32).toNatClampNeg (some q39))) (2 : Int32).toNatClampNeg (some q47)))))))]) (rest := []) (own := RX6) ⟨hx, hb, hml, hown, hts⟩ (a76_X6_needProgramLength l hst D e0  ) (va_cwS 1 hts gi_a81_X6_add_5 rfl rfl rfl (by decide +kernel) ⟨Nat.le_of_ble_eq_true rfl, Nat.le_of_ble_eq_true rfl⟩) hh [] [0, 1, 2, 3, 4, 5, 6] [] rfl rfl rfl rfl (by decide) rfl rfl hl rfl (Nat.le_of_ble_eq_true rfl) dX6_add_28 ⟨Nat.le_of_ble_eq_true rfl, (Nat.le_of_ble_eq_true rfl)⟩ (fun _ _ _ _ _ h => h.elim) (fun v w ty1 H locs hp hh => ?_)
  obtain ⟨rfl, rfl, rfl⟩ := hp
  have hh : kH D kStr e0 A s H [(q4, .inr (9, [.ref q8, .int 0, .ref q9, .int 0, .ref q10, .ref q11])), (q47, .inr (7, [.int 120, .ref q48, .ref q40, .ref q40, .int 0, .int 0, .int 0, .ref q49, .int 1496])), (q8, .inl (y12, 12, .inr (.inr (.inr (.inr (fun _ => none)))))), (q9, .inl (y13, 3000, .inl (fun _ => 0))), (q48, .inl (y50, 748, .inl (fun _ => 0))), (q1, .inr (11, [.ref q2, .int 0, .ref q3, .int 3, .ref q4, .ref q5, .ref q6, .int 0])), (q3, .inl (y7, 24, .inr (.inr (.inr (.inr (va_up ((va_up ((va_up ((fun _ => none)) (0 : Int32).toNatClampNeg (some q29))) (1 : Int32).toNatClampNeg (some q39))) (2 : Int32).toNatClampNeg (some q47)))))))] [(y7, .object "Segueworks$Piece"), (y12, .object "Segueworks$Item"), (y13, .int), (y50, .int), (y7, .object "Segueworks$Piece")] _ := hh
  refine W.eq (g2 := F0 m 31 ls []) (by first | rfl | decide) ?_
  refine lv_aload_n hx hb dX6_add_31 rfl (lv_at hl 1 rfl) ?_
  refine k_get (C := RX6) (T := TX6) (N := 8) (ci := 11) (v := .ref q4) hx hb hts ws_a81_X6_add_2 hown hh 5 rfl rfl 4 (by decide) (hts _ (wo_a81_X6_add_in _ (List.mem_of_getElem? (i := 0) rfl))) rfl dX6_add_32 ?_
  refine k_get (C := RX4) (T := TX4) (N := 6) (ci := 9) (v := .int 0) hx hb hts ws_a81_X6_add_3 hown hh 0 rfl rfl 1 (by decide) (hts _ (wo_a81_X6_add_in _ (List.mem_of_getElem? (i := 3) rfl))) rfl dX6_add_35 ?_
  refine lv_bipush (v := 12) hx hb dX6_add_38 (by decide) ?_
  refine lv_icmp_lt (tgt := 53) hx hb dX6_add_40 (by decide) (fun _ => ?_) (fun c_40 => absurd (by decide) c_40)
  refine lv_aload_n hx hb dX6_add_53 rfl (lv_at hl 1 rfl) ?_
  refine k_get (C := RX6) (T := TX6) (N := 8) (ci := 11) (v := .ref q4) hx hb hts ws_a81_X6_add_2 hown hh 5 rfl rfl 4 (by decide) (hts _ (wo_a81_X6_add_in _ (List.mem_of_getElem? (i := 0) rfl))) rfl dX6_add_54 ?_
  refine k_new (C := RX1) (T := TX1) (N := 6) (ci := 6) (fs := [.int 0, .null, .int 0, .int 0, .null, .int 0]) hx hb hts ws_a81_X6_add_6 tyX1 tyX1_ok hown (hts _ (wo_a81_X6_add_in _ (List.mem_of_getElem? (i := 4) rfl))) (hts _ (wo_a81_X6_add_in _ (List.mem_of_getElem? (i := 5) rfl))) (hts _ (wo_a81_X6_add_in _ (List.mem_of_getElem? (i := 6) rfl))) hh rfl (fun j hj => by rcases (show j = 0 ∨ j = 1 ∨ j = 2 ∨ j = 3 ∨ j = 4 ∨ j = 5 by omega) with rfl | rfl | rfl | rfl | rfl | rfl <;> rfl) (Nat.le_of_ble_eq_true rfl) (Nat.le_of_ble_eq_true rfl) dX6_add_57 (fun q55 H hh => ?_)
  have hh : kH D kStr e0 A s H [(q4, .inr (9, [.ref q8, .int 0, .ref q9, .int 0, .ref q10, .ref q11])), (q47, .inr (7, [.int 120, .ref q48, .ref q40, .ref q40, .int 0, .int 0, .int 0, .ref q49, .int 1496])), (q8, .inl (y12, 12, .inr (.inr (.inr (.inr (fun _ => none)))))), (q9, .inl (y13, 3000, .inl (fun _ => 0))), (q48, .inl (y50, 748, .inl (fun _ => 0))), (q1, .inr (11, [.ref q2, .int 0, .ref q3, .int 3, .ref q4, .ref q5, .ref q6, .int 0])), (q3, .inl (y7, 24, .inr (.inr (.inr (.inr (va_up ((va_up ((va_up ((fun _ => none)) (0 : Int32).toNatClampNeg (some q29))) (1 : Int32).toNatClampNeg (some q39))) (2 : Int32).toNatClampNeg (some q47))))))), (q55, .inr (6, [.int 0, .null, .int 0, .int 0, .null, .int 0]))] [(y7, .object "Segueworks$Piece"), (y12, .object "Segueworks$Item"), (y13, .int), (y50, .int), (y7, .object "Segueworks$Piece")] _ := hh
  refine lv_dup hx hb dX6_add_60 rfl ?_
  refine lv_iload_n hx hb dX6_add_61 rfl (lv_at hl 2 rfl) ?_
  refine lv_aload_n hx hb dX6_add_62 rfl (lv_at hl 0 rfl) ?_
  refine lv_iload_n hx hb dX6_add_63 rfl (lv_at hl 3 rfl) ?_
  refine k_callI (wr := [(q4, .inr (9, [.ref q8, .int 0, .ref q9, .int 0, .ref q10, .ref q11])), (q47, .inr (7, [.int 120, .ref q48, .ref q40, .ref q40, .int 0, .int 0, .int 0, .ref q49, .int 1496])), (q8, .inl (y12, 12, .inr (.inr (.inr (.inr (fun _ => none)))))), (q9, .inl (y13, 3000, .inl (fun _ => 0))), (q48, .inl (y50, 748, .inl (fun _ => 0))), (q1, .inr (11, [.ref q2, .int 0, .ref q3, .int 3, .ref q4, .ref q5, .ref q6, .int 0])), (q3, .inl (y7, 24, .inr (.inr (.inr (.inr (va_up ((va_up ((va_up ((fun _ => none)) (0 : Int32).toNatClampNeg (some q29))) (1 : Int32).toNatClampNeg (some q39))) (2 : Int32).toNatClampNeg (some q47)))))))]) (rest := [.ref q55, .ref q4]) (own := RX6) ⟨hx, hb, hml, hown, hts⟩ (a77_X1_init l hst D e0 q55 q47 ) (cwI 3 hts gi_a81_X6_add_7 rfl rfl rfl (hts _ (wo_a81_X6_add_in _ (List.mem_of_getElem? (i := 6) rfl))) (hts _ (wo_a81_X6_add_in _ (List.mem_of_getElem? (i := 7) rfl))) (hts _ (wo_a81_X6_add_in _ (List.mem_of_getElem? (i := 8) rfl))) rfl (by decide +kernel) ⟨Nat.le_of_ble_eq_true rfl, Nat.le_of_ble_eq_true rfl⟩) hh [7] [0, 1, 2, 3, 4, 5, 6] [] rfl rfl rfl rfl (by decide) rfl rfl hl rfl (Nat.le_of_ble_eq_true rfl) dX6_add_64 ⟨Nat.le_of_ble_eq_true rfl, (Nat.le_of_ble_eq_true rfl)⟩ (fun v w ty1 H locs hp hh => ?_)
  obtain ⟨q56, rfl, rfl, rfl⟩ := hp
  have hh : kH D kStr e0 A s H [(q4, .inr (9, [.ref q8, .int 0, .ref q9, .int 0, .ref q10, .ref q11])), (q47, .inr (7, [.int 120, .ref q48, .ref q40, .ref q40, .int 0, .int 0, .int 0, .ref q49, .int 1496])), (q8, .inl (y12, 12, .inr (.inr (.inr (.inr (fun _ => none)))))), (q9, .inl (y13, 3000, .inl (fun _ => 0))), (q48, .inl (y50, 748, .inl (fun _ => 0))), (q1, .inr (11, [.ref q2, .int 0, .ref q3, .int 3, .ref q4, .ref q5, .ref q6, .int 0])), (q3, .inl (y7, 24, .inr (.inr (.inr (.inr (va_up ((va_up ((va_up ((fun _ => none)) (0 : Int32).toNatClampNeg (some q29))) (1 : Int32).toNatClampNeg (some q39))) (2 : Int32).toNatClampNeg (some q47))))))), (q55, .inr (6, [.int 2, .ref q47, .int 0, .int 0, .ref q56, .int 0]))] [(y7, .object "Segueworks$Piece"), (y12, .object "Segueworks$Item"), (y13, .int), (y50, .int), (y7, .object "Segueworks$Piece")] _ := hh
  refine W.eq (g2 := F0 m 67 ls [.ref q55, .ref q4]) (by first | rfl | decide) ?_
  refine k_callV (C := RX4) (T := TX4) (N := 6) (ci := 9) (q0 := 0) (wr := [(q1, .inr (11, [.ref q2, .int 0, .ref q3, .int 3, .ref q4, .ref q5, .ref q6, .int 0])), (q3, .inl (y7, 24, .inr (.inr (.inr (.inr (va_up ((va_up ((va_up ((fun _ => none)) (0 : Int32).toNatClampNeg (some q29))) (1 : Int32).toNatClampNeg (some q39))) (2 : Int32).toNatClampNeg (some q47)))))))]) (rest := []) (own := RX6) ⟨hx, hb, hml, hown, hts⟩ (a80_X4_append l hst D e0 q4 q55 q8 q9 q10 q11 q47 q56 y12 y13 q48 q40 q49 y50 ) (cwV 1 hts gi_a81_X6_add_8 rfl rfl rfl (by decide +kernel) ⟨Nat.le_of_ble_eq_true rfl, Nat.le_of_ble_eq_true rfl⟩) hh rfl rfl [0, 7, 2, 3, 1, 4] [5, 6] [1, 2, 3] rfl rfl rfl rfl (by decide) rfl rfl hl rfl (Nat.le_of_ble_eq_true rfl) dX6_add_67 ⟨Nat.le_of_ble_eq_true rfl, (Nat.le_of_ble_eq_true rfl)⟩ (fun _ _ _ _ _ h => h.elim) (fun v w ty1 H locs hp hh => ?_)
  obtain ⟨rfl, rfl, rfl⟩ := hp
  have hh : kH D kStr e0 A s H [(q1, .inr (11, [.ref q2, .int 0, .ref q3, .int 3, .ref q4, .ref q5, .ref q6, .int 0])), (q3, .inl (y7, 24, .inr (.inr (.inr (.inr (va_up ((va_up ((va_up ((fun _ => none)) (0 : Int32).toNatClampNeg (some q29))) (1 : Int32).toNatClampNeg (some q39))) (2 : Int32).toNatClampNeg (some q47))))))), (q4, .inr (9, [.ref q8, .int 1, .ref q9, .int 748, .ref q10, .ref q11])), (q55, .inr (6, [.int 2, .ref q47, .int 0, .int 0, .ref q56, .int 0])), (q8, .inl (y12, 12, .inr (.inr (.inr (.inr (va_up ((fun _ => none)) (0 : Int32).toNatClampNeg (some q55))))))), (q9, .inl (y13, 3000, .inl (fun _ => 0))), (q47, .inr (7, [.int 120, .ref q48, .ref q40, .ref q40, .int 0, .int 0, .int 0, .ref q49, .int 1496])), (q48, .inl (y50, 748, .inl (fun _ => 0)))] [(y7, .object "Segueworks$Piece"), (y12, .object "Segueworks$Item"), (y13, .int), (y50, .int), (y7, .object "Segueworks$Piece"), (y12, .object "Segueworks$Item"), (y13, .int), (y50, .int)] _ := hh
  refine W.eq (g2 := F0 m 70 ls []) (by first | rfl | decide) ?_
  refine lv_aload_n hx hb dX6_add_70 rfl (lv_at hl 1 rfl) ?_
  refine k_get (C := RX6) (T := TX6) (N := 8) (ci := 11) (v := .ref q4) hx hb hts ws_a81_X6_add_2 hown hh 0 rfl rfl 4 (by decide) (hts _ (wo_a81_X6_add_in _ (List.mem_of_getElem? (i := 0) rfl))) rfl dX6_add_71 ?_
  refine k_get (C := RX4) (T := TX4) (N := 6) (ci := 9) (v := .int 1) hx hb hts ws_a81_X6_add_3 hown hh 2 rfl rfl 1 (by decide) (hts _ (wo_a81_X6_add_in _ (List.mem_of_getElem? (i := 3) rfl))) rfl dX6_add_74 ?_
  refine lv_iconst (v := 1) hx hb dX6_add_77 (by decide) ?_
  refine lv_isub hx hb dX6_add_78 ?_
  refine W.eq (g2 := F0 m 79 ls [.int 0]) (by first | rfl | decide) ?_
  exact k_endi hx hb hr hlocks hh ⟨q55, q56, rfl, rfl, rfl⟩ [0, 1, 2, 6, 4, 5, 7, 3] [0, 1, 2, 3] rfl rfl rfl (Nat.le_of_ble_eq_true rfl) (Nat.le_of_ble_eq_true rfl) dX6_add_79
def wo_a82_L_add : List Cond := []
def wk_a82_L_add : List Cond := Cond.codeWith yL_add cL_add 5 (some .int) [(0, 10, 13, 19), (0, 10, 17, 21), (0, 10, 21, 41), (0, 10, 25, 13)] :: (wo_a82_L_add ++ (wsV RL 76 RX6 yX6_add wk_a81_X6_add))
theorem wo_a82_L_add_in : ∀ w ∈ wo_a82_L_add, w ∈ wk_a82_L_add := fun w h => List.mem_cons_of_mem _ (List.mem_append_left _ h)
theorem gi_a82_L_add_0 : GoodIn wk_a82_L_add (wsV RL 76 RX6 yX6_add wk_a81_X6_add) := fun w h => ⟨List.mem_cons_of_mem _ (List.mem_append_right _ h), good_of_word (kg_V gk_a81_X6_add w h)⟩
theorem gk_a82_L_add : ∀ w ∈ wk_a82_L_add, goodWord w = true := List.forall_mem_cons.mpr ⟨rfl, (List.forall_mem_append.mpr ⟨(show ∀ w ∈ wo_a82_L_add, goodWord w = true by decide +kernel), (kg_V gk_a81_X6_add)⟩)⟩
set_option maxHeartbeats 4000000 in
set_option maxRecDepth 100000 in
theorem a82_L_add (l : Launch) (hst : l.stackTraces = false) (D : va_G) (e0 : kE) (q1 : Nat) (q24 : Nat) (q2 : Nat) (q3 : Nat) (q4 : Nat) (q5 : Nat) (q6 : Nat) (y25 : ClassId) (f54 : Nat → Int64) (y7 : ClassId) (q29 : Nat) (q39 : Nat) (q47 : Nat) (q8 : Nat) (q9 : Nat) (q10 : Nat) (q11 : Nat) (q48 : Nat) (q40 : Nat) (q49 : Nat) (y12 : ClassId) (y13 : ClassId) (y50 : ClassId)  : kM l yL_add wk_a82_L_add 4 127 2 14 D kStr e0 [(y7, .object "Segueworks$Piece"), (y12, .object "Segueworks$Item"), (y13, .int), (y25, .long), (y50, .int)] [(q1, .inr (11, [.ref q2, .int 0, .ref q3, .int 3, .ref q4, .ref q5, .ref q6, .int 0])), (q24, .inl (y25, 1, .inr (.inl f54))), (q3, .inl (y7, 24, .inr (.inr (.inr (.inr (va_up ((va_up ((va_up ((fun _ => none)) (0 : Int32).toNatClampNeg (some q29))) (1 : Int32).toNatClampNeg (some q39))) (2 : Int32).toNatClampNeg (some q47))))))), (q4, .inr (9, [.ref q8, .int 0, .ref q9, .int 0, .ref q10, .ref q11])), (q47, .inr (7, [.int 120, .ref q48, .ref q40, .ref q40, .int 0, .int 0, .int 0, .ref q49, .int 1496])), (q8, .inl (y12, 12, .inr (.inr (.inr (.inr (fun _ => none)))))), (q9, .inl (y13, 3000, .inl (fun _ => 0))), (q48, .inl (y50, 748, .inl (fun _ => 0)))] [.ref q1, .int 2, .int 0, .ref q24] (fun v w t => ∃ (q55 : Nat), ∃ (q56 : Nat), v = some (.int 0) ∧ w = [(q1, .inr (11, [.ref q2, .int 0, .ref q3, .int 3, .ref q4, .ref q5, .ref q6, .int 0])), (q24, .inl (y25, 1, .inr (.inl (vp_updL (f54) (0 : Int32).toNatClampNeg 0)))), (q3, .inl (y7, 24, .inr (.inr (.inr (.inr (va_up ((va_up ((va_up ((fun _ => none)) (0 : Int32).toNatClampNeg (some q29))) (1 : Int32).toNatClampNeg (some q39))) (2 : Int32).toNatClampNeg (some q47))))))), (q4, .inr (9, [.ref q8, .int 1, .ref q9, .int 748, .ref q10, .ref q11])), (q47, .inr (7, [.int 120, .ref q48, .ref q40, .ref q40, .int 0, .int 0, .int 0, .ref q49, .int 1496])), (q8, .inl (y12, 12, .inr (.inr (.inr (.inr (va_up ((fun _ => none)) (0 : Int32).toNatClampNeg (some q55))))))), (q9, .inl (y13, 3000, .inl (fun _ => 0))), (q48, .inl (y50, 748, .inl (fun _ => 0))), (q55, .inr (6, [.int 2, .ref q47, .int 0, .int 0, .ref q56, .int 0]))] ∧ t = [(y25, .long), (y7, .object "Segueworks$Piece"), (y12, .object "Segueworks$Item"), (y13, .int), (y50, .int)]) (fun _ => False) := by
  refine k_ofX (cc := cL_add) (maxL := 5) (ret := (some .int)) (hhs := [(0, 10, 13, 19), (0, 10, 17, 21), (0, 10, 21, 41), (0, 10, 25, 13)]) (by decide) rfl (Nat.le_of_ble_eq_true rfl) ?_
  intro p e s m args below meth c A ls hx hb hr hts hown hlocks hml hex hh hl
  have hown : s.vm.findClass RL = some m.cls := hown
  have hl : lv_has ls 5 [(0, .ref q1), (1, .int 2), (2, .int 0), (3, .ref q24)] := hl
  refine lv_aload_n hx hb dL_add_0 rfl (lv_at hl 3 rfl) ?_
  refine lv_iconst (v := 0) hx hb dL_add_1 (by decide) ?_
  refine lv_aload_n hx hb dL_add_2 rfl (lv_at hl 0 rfl) ?_
  refine lv_iload_n hx hb dL_add_3 rfl (lv_at hl 1 rfl) ?_
  refine lv_iload_n hx hb dL_add_4 rfl (lv_at hl 2 rfl) ?_
  refine k_callV (C := RX6) (T := TX6) (N := 8) (ci := 11) (q0 := 0) (wr := [(q24, .inl (y25, 1, .inr (.inl f54)))]) (rest := [.int 0, .ref q24]) (own := RL) ⟨hx, hb, hml, hown, hts⟩ (a81_X6_add l hst D e0 q1 q2 q3 q4 q5 q6 y7 q29 q39 q47 q8 q9 q10 q11 q48 q40 q49 y12 y13 y50 ) (cwV 2 hts gi_a82_L_add_0 rfl rfl rfl (by decide +kernel) ⟨Nat.le_of_ble_eq_true rfl, Nat.le_of_ble_eq_true rfl⟩) hh rfl rfl [0, 2, 3, 4, 5, 6, 7] [1] [0, 1, 2, 4] rfl rfl rfl rfl (by decide) rfl rfl hl rfl (Nat.le_of_ble_eq_true rfl) dL_add_5 ⟨Nat.le_of_ble_eq_true rfl, (Nat.le_of_ble_eq_true rfl)⟩ (fun _ _ _ _ _ h => h.elim) (fun v w ty1 H locs hp hh => ?_)
  obtain ⟨q55, q56, rfl, rfl, rfl⟩ := hp
  have hh : kH D kStr e0 A s H [(q24, .inl (y25, 1, .inr (.inl f54))), (q1, .inr (11, [.ref q2, .int 0, .ref q3, .int 3, .ref q4, .ref q5, .ref q6, .int 0])), (q3, .inl (y7, 24, .inr (.inr (.inr (.inr (va_up ((va_up ((va_up ((fun _ => none)) (0 : Int32).toNatClampNeg (some q29))) (1 : Int32).toNatClampNeg (some q39))) (2 : Int32).toNatClampNeg (some q47))))))), (q4, .inr (9, [.ref q8, .int 1, .ref q9, .int 748, .ref q10, .ref q11])), (q47, .inr (7, [.int 120, .ref q48, .ref q40, .ref q40, .int 0, .int 0, .int 0, .ref q49, .int 1496])), (q8, .inl (y12, 12, .inr (.inr (.inr (.inr (va_up ((fun _ => none)) (0 : Int32).toNatClampNeg (some q55))))))), (q9, .inl (y13, 3000, .inl (fun _ => 0))), (q48, .inl (y50, 748, .inl (fun _ => 0))), (q55, .inr (6, [.int 2, .ref q47, .int 0, .int 0, .ref q56, .int 0]))] [(y7, .object "Segueworks$Piece"), (y12, .object "Segueworks$Item"), (y13, .int), (y25, .long), (y50, .int), (y7, .object "Segueworks$Piece"), (y12, .object "Segueworks$Item"), (y13, .int), (y50, .int)] _ := hh
  refine W.eq (g2 := F0 m 8 ls [.int 0, .int 0, .ref q24]) (by first | rfl | decide) ?_
  refine lv_i2l (v := 0) hx hb dL_add_8 (by decide) ?_
  refine k_last (ws' := [(q24, .inl (y25, 1, .inr (.inl (vp_updL (f54) (0 : Int32).toNatClampNeg 0)))), (q1, .inr (11, [.ref q2, .int 0, .ref q3, .int 3, .ref q4, .ref q5, .ref q6, .int 0])), (q3, .inl (y7, 24, .inr (.inr (.inr (.inr (va_up ((va_up ((va_up ((fun _ => none)) (0 : Int32).toNatClampNeg (some q29))) (1 : Int32).toNatClampNeg (some q39))) (2 : Int32).toNatClampNeg (some q47))))))), (q4, .inr (9, [.ref q8, .int 1, .ref q9, .int 748, .ref q10, .ref q11])), (q47, .inr (7, [.int 120, .ref q48, .ref q40, .ref q40, .int 0, .int 0, .int 0, .ref q49, .int 1496])), (q8, .inl (y12, 12, .inr (.inr (.inr (.inr (va_up ((fun _ => none)) (0 : Int32).toNatClampNeg (some q55))))))), (q9, .inl (y13, 3000, .inl (fun _ => 0))), (q48, .inl (y50, 748, .inl (fun _ => 0))), (q55, .inr (6, [.int 2, .ref q47, .int 0, .int 0, .ref q56, .int 0]))]) hx hb hh 0 3 rfl rfl (by unfold vp_in; decide) dL_add_9 rfl (fun H locs hh => ?_)
  refine lv_goto (tgt := 29) hx hb dL_add_10 (by decide) ?_
  refine lv_iconst (v := 0) hx hb dL_add_29 (by decide) ?_
  exact k_endi hx hb hr hlocks hh ⟨q55, q56, rfl, rfl, rfl⟩ [1, 0, 2, 3, 4, 5, 6, 7, 8] [3, 0, 1, 2, 4] rfl rfl rfl (Nat.le_of_ble_eq_true rfl) (Nat.le_of_ble_eq_true rfl) dL_add_30
def wo_a83_X11_in : List Cond := []
def wk_a83_X11_in : List Cond := Cond.code yX11_in cX11_in 6 (some .boolean) :: wo_a83_X11_in
theorem wo_a83_X11_in_in : ∀ w ∈ wo_a83_X11_in, w ∈ wk_a83_X11_in := fun w h => List.mem_cons_of_mem _ h
theorem gk_a83_X11_in : ∀ w ∈ wk_a83_X11_in, goodWord w = true := List.forall_mem_cons.mpr ⟨rfl, (show ∀ w ∈ wo_a83_X11_in, goodWord w = true by decide +kernel)⟩
set_option maxHeartbeats 4000000 in
set_option maxRecDepth 100000 in
theorem a83_X11_in (l : Launch) (hst : l.stackTraces = false) (D : va_G) (e0 : kE)   : kM l yX11_in wk_a83_X11_in 0 0 0 0 D kStr e0 [] [] [.long 2, .long 0, .long 2] (fun v w t => v = some (.int 1) ∧ w = [] ∧ t = []) (fun _ => False) := by
  refine k_of (cc := cX11_in) (maxL := 6) (ret := (some .boolean)) (by decide) rfl (Nat.le_of_ble_eq_true rfl) ?_
  intro p e s m args below meth c A ls hx hb hr hts hown hlocks hml hex hh hl
  have hown : s.vm.findClass RX11 = some m.cls := hown
  have hl : lv_has ls 6 [(0, .long 2), (2, .long 0), (4, .long 2)] := hl
  refine lv_lload_n hx hb dX11_in_0 rfl (lv_at hl 0 rfl) ?_
  refine lv_lload_n hx hb dX11_in_1 rfl (lv_at hl 1 rfl) ?_
  refine W.lcmp hx hb dX11_in_2 ?_
  refine W.eq (g2 := F0 m 3 ls [.int 1]) (by rw [show lg_cmp (2 : Int64) (0 : Int64) = 1 from by decide]) ?_
  refine lv_if_lt (tgt := 17) hx hb dX11_in_3 (by decide) (fun c_3 => absurd c_3 (by decide)) (fun _ => ?_)
  refine lv_lload_n hx hb dX11_in_6 rfl (lv_at hl 0 rfl) ?_
  refine lv_lload hx hb dX11_in_7 (lv_at hl 2 rfl) ?_
  refine W.lcmp hx hb dX11_in_9 ?_
  refine W.eq (g2 := F0 m 10 ls [.int 0]) (by rw [show lg_cmp (2 : Int64) (2 : Int64) = 0 from by decide]) ?_
  refine lv_if_gt (tgt := 17) hx hb dX11_in_10 (by decide) (fun c_10 => absurd c_10 (by decide)) (fun _ => ?_)
  refine lv_iconst (v := 1) hx hb dX11_in_13 (by decide) ?_
  refine lv_goto (tgt := 18) hx hb dX11_in_14 (by decide) ?_
  exact k_endz (ty := .boolean) (by decide) hx hb hr hlocks hh ⟨rfl, rfl, rfl⟩ [] [] rfl rfl rfl (Nat.le_of_ble_eq_true rfl) (Nat.le_of_ble_eq_true rfl) dX11_in_18
def wo_a84_X11_noPiece : List Cond := [Cond.fieldLink RX11 25 "SegueworksModel" "pieces" "Ljava/util/ArrayList;", Cond.fieldLink RX11 46 "SegueworksModel" "thrown" "I"]
def wk_a84_X11_noPiece : List Cond := Cond.code yX11_noPiece cX11_noPiece 2 (some .boolean) :: (wo_a84_X11_noPiece ++ ((u_ws RX11 TX11 11) ++ ((wsV RX11 50 RJx4a65c yJx4a65c_size_8abf5 wk_a70_Jx4a65c_size_8abf5) ++ (va_wsS RX11 54 yX11_in wk_a83_X11_in))))
theorem wo_a84_X11_noPiece_in : ∀ w ∈ wo_a84_X11_noPiece, w ∈ wk_a84_X11_noPiece := fun w h => List.mem_cons_of_mem _ (List.mem_append_left _ h)
theorem ws_a84_X11_noPiece_0 : ∀ w ∈ u_ws RX11 TX11 11, w ∈ wk_a84_X11_noPiece := fun w h => List.mem_cons_of_mem _ (List.mem_append_right _ (List.mem_append_left _ h))
theorem gi_a84_X11_noPiece_1 : GoodIn wk_a84_X11_noPiece (wsV RX11 50 RJx4a65c yJx4a65c_size_8abf5 wk_a70_Jx4a65c_size_8abf5) := fun w h => ⟨List.mem_cons_of_mem _ (List.mem_append_right _ (List.mem_append_right _ (List.mem_append_left _ h))), good_of_word (kg_V gk_a70_Jx4a65c_size_8abf5 w h)⟩
theorem gi_a84_X11_noPiece_2 : GoodIn wk_a84_X11_noPiece (va_wsS RX11 54 yX11_in wk_a83_X11_in) := fun w h => ⟨List.mem_cons_of_mem _ (List.mem_append_right _ (List.mem_append_right _ (List.mem_append_right _ h))), good_of_word (kg_S gk_a83_X11_in w h)⟩
theorem gk_a84_X11_noPiece : ∀ w ∈ wk_a84_X11_noPiece, goodWord w = true := List.forall_mem_cons.mpr ⟨rfl, (List.forall_mem_append.mpr ⟨(show ∀ w ∈ wo_a84_X11_noPiece, goodWord w = true by decide +kernel), (List.forall_mem_append.mpr ⟨(show ∀ w ∈ u_ws RX11 TX11 11, goodWord w = true by decide +kernel), (List.forall_mem_append.mpr ⟨(kg_V gk_a70_Jx4a65c_size_8abf5), (kg_S gk_a83_X11_in)⟩)⟩)⟩)⟩
set_option maxHeartbeats 4000000 in
set_option maxRecDepth 100000 in
theorem a84_X11_noPiece (l : Launch) (hst : l.stackTraces = false) (D : va_G) (e0 : kE) (q15 : Nat) (q16 : Nat) (q17 : Nat) (q18 : Nat) (q19 : Nat) (q20 : Nat) (q21 : Nat) (q22 : Nat) (q23 : Nat) (q33 : Nat)  : kM l yX11_noPiece wk_a84_X11_noPiece 1 25 0 0 D kStr e0 [] [(q15, .inr (16, [.int 0, .ref q16, .ref q17, .ref q18, .ref q19, .ref q20, .ref q21, .ref q22, .ref q23, .int 0, .int 0])), (q17, .inr (4, [.int 3, .ref q33, .int 3]))] [.ref q15, .int 2] (fun v w t => v = some (.int 0) ∧ w = [(q15, .inr (16, [.int 0, .ref q16, .ref q17, .ref q18, .ref q19, .ref q20, .ref q21, .ref q22, .ref q23, .int 0, .int 0])), (q17, .inr (4, [.int 3, .ref q33, .int 3]))] ∧ t = []) (fun _ => False) := by
  refine k_of (cc := cX11_noPiece) (maxL := 2) (ret := (some .boolean)) (by decide) rfl (Nat.le_of_ble_eq_true rfl) ?_
  intro p e s m args below meth c A ls hx hb hr hts hown hlocks hml hex hh hl
  have hown : s.vm.findClass RX11 = some m.cls := hown
  have hl : lv_has ls 2 [(0, .ref q15), (1, .int 2)] := hl
  refine lv_aload_n hx hb dX11_noPiece_0 rfl (lv_at hl 0 rfl) ?_
  refine lv_iload_n hx hb dX11_noPiece_1 rfl (lv_at hl 1 rfl) ?_
  refine lv_i2l (v := 2) hx hb dX11_noPiece_2 (by decide) ?_
  refine lv_lconst (v := 0) hx hb dX11_noPiece_3 (by decide) ?_
  refine lv_aload_n hx hb dX11_noPiece_4 rfl (lv_at hl 0 rfl) ?_
  refine k_get (C := RX11) (T := TX11) (N := 11) (ci := 16) (v := .ref q17) hx hb hts ws_a84_X11_noPiece_0 hown hh 0 rfl rfl 2 (by decide) (hts _ (wo_a84_X11_noPiece_in _ (List.mem_of_getElem? (i := 0) rfl))) rfl dX11_noPiece_5 ?_
  refine k_callV (C := RJx4a65c) (T := TJx4a65c) (N := 3) (ci := 4) (q0 := 1) (wr := [(q15, .inr (16, [.int 0, .ref q16, .ref q17, .ref q18, .ref q19, .ref q20, .ref q21, .ref q22, .ref q23, .int 0, .int 0]))]) (rest := [.long 0, .long 2, .ref q15]) (own := RX11) ⟨hx, hb, hml, hown, hts⟩ (a70_Jx4a65c_size_8abf5 l hst D e0 q17 q33 ) (cwV 0 hts gi_a84_X11_noPiece_1 rfl rfl rfl (by decide +kernel) ⟨Nat.le_of_ble_eq_true rfl, Nat.le_of_ble_eq_true rfl⟩) hh rfl rfl [1] [0] [] rfl rfl rfl rfl (by decide) rfl rfl hl rfl (Nat.le_of_ble_eq_true rfl) dX11_noPiece_8 ⟨Nat.le_of_ble_eq_true rfl, (Nat.le_of_ble_eq_true rfl)⟩ (fun _ _ _ _ _ h => h.elim) (fun v w ty1 H locs hp hh => ?_)
  obtain ⟨rfl, rfl, rfl⟩ := hp
  have hh : kH D kStr e0 A s H [(q15, .inr (16, [.int 0, .ref q16, .ref q17, .ref q18, .ref q19, .ref q20, .ref q21, .ref q22, .ref q23, .int 0, .int 0])), (q17, .inr (4, [.int 3, .ref q33, .int 3]))] [] _ := hh
  refine W.eq (g2 := F0 m 11 ls [.int 3, .long 0, .long 2, .ref q15]) (by first | rfl | decide) ?_
  refine lv_iconst (v := 1) hx hb dX11_noPiece_11 (by decide) ?_
  refine lv_isub hx hb dX11_noPiece_12 ?_
  refine W.eq (g2 := F0 m 13 ls [.int 2, .long 0, .long 2, .ref q15]) (by first | rfl | decide) ?_
  refine lv_i2l (v := 2) hx hb dX11_noPiece_13 (by decide) ?_
  refine k_callS (wr := [(q15, .inr (16, [.int 0, .ref q16, .ref q17, .ref q18, .ref q19, .ref q20, .ref q21, .ref q22, .ref q23, .int 0, .int 0])), (q17, .inr (4, [.int 3, .ref q33, .int 3]))]) (rest := [.ref q15]) (own := RX11) ⟨hx, hb, hml, hown, hts⟩ (a83_X11_in l hst D e0  ) (va_cwS 3 hts gi_a84_X11_noPiece_2 rfl rfl rfl (by decide +kernel) ⟨Nat.le_of_ble_eq_true rfl, Nat.le_of_ble_eq_true rfl⟩) hh [] [0, 1] [] rfl rfl rfl rfl (by decide) rfl rfl hl rfl (Nat.le_of_ble_eq_true rfl) dX11_noPiece_14 ⟨Nat.le_of_ble_eq_true rfl, (Nat.le_of_ble_eq_true rfl)⟩ (fun _ _ _ _ _ h => h.elim) (fun v w ty1 H locs hp hh => ?_)
  obtain ⟨rfl, rfl, rfl⟩ := hp
  have hh : kH D kStr e0 A s H [(q15, .inr (16, [.int 0, .ref q16, .ref q17, .ref q18, .ref q19, .ref q20, .ref q21, .ref q22, .ref q23, .int 0, .int 0])), (q17, .inr (4, [.int 3, .ref q33, .int 3]))] [] _ := hh
  refine W.eq (g2 := F0 m 17 ls [.int 1, .ref q15]) (by first | rfl | decide) ?_
  refine lv_if_eq (tgt := 24) hx hb dX11_noPiece_17 (by decide) (fun c_17 => absurd c_17 (by decide)) (fun _ => ?_)
  refine lv_iconst (v := 0) hx hb dX11_noPiece_20 (by decide) ?_
  refine lv_goto (tgt := 25) hx hb dX11_noPiece_21 (by decide) ?_
  refine k_put (C := RX11) (T := TX11) (N := 11) (ci := 16) (v := .int 0) (ws' := [(q15, .inr (16, [.int 0, .ref q16, .ref q17, .ref q18, .ref q19, .ref q20, .ref q21, .ref q22, .ref q23, .int 0, .int 0])), (q17, .inr (4, [.int 3, .ref q33, .int 3]))]) hx hb hts ws_a84_X11_noPiece_0 tyX11 tyX11_ok nmX11 hown hh 0 rfl rfl 0 (by decide) (hts _ (wo_a84_X11_noPiece_in _ (List.mem_of_getElem? (i := 1) rfl))) rfl rfl rfl (Nat.le_of_ble_eq_true rfl) dX11_noPiece_25 rfl (fun H locs hh => ?_)
  refine lv_aload_n hx hb dX11_noPiece_28 rfl (lv_at hl 0 rfl) ?_
  refine k_get (C := RX11) (T := TX11) (N := 11) (ci := 16) (v := .int 0) hx hb hts ws_a84_X11_noPiece_0 hown hh 0 rfl rfl 0 (by decide) (hts _ (wo_a84_X11_noPiece_in _ (List.mem_of_getElem? (i := 1) rfl))) rfl dX11_noPiece_29 ?_
  refine lv_if_le (tgt := 39) hx hb dX11_noPiece_32 (by decide) (fun _ => ?_) (fun c_32 => absurd (by decide) c_32)
  refine lv_iconst (v := 0) hx hb dX11_noPiece_39 (by decide) ?_
  exact k_endz (ty := .boolean) (by decide) hx hb hr hlocks hh ⟨rfl, rfl, rfl⟩ [0, 1] [] rfl rfl rfl (Nat.le_of_ble_eq_true rfl) (Nat.le_of_ble_eq_true rfl) dX11_noPiece_40
def wo_a85_X11_together : List Cond := [Cond.arrayClass .int]
def wk_a85_X11_together : List Cond := Cond.code yX11_together cX11_together 9 (some (.array .int)) :: wo_a85_X11_together
theorem wo_a85_X11_together_in : ∀ w ∈ wo_a85_X11_together, w ∈ wk_a85_X11_together := fun w h => List.mem_cons_of_mem _ h
theorem gk_a85_X11_together : ∀ w ∈ wk_a85_X11_together, goodWord w = true := List.forall_mem_cons.mpr ⟨rfl, (show ∀ w ∈ wo_a85_X11_together, goodWord w = true by decide +kernel)⟩
set_option maxHeartbeats 4000000 in
set_option maxRecDepth 100000 in
theorem a85_X11_together (l : Launch) (hst : l.stackTraces = false) (D : va_G) (e0 : kE) (q15 : Nat)  : kM l yX11_together wk_a85_X11_together 0 0 1 0 D kStr e0 [] [] [.ref q15, .int 0, .int 0] (fun v w t => ∃ (q57 : Nat), ∃ (y58 : ClassId), v = some (.ref q57) ∧ w = [(q57, .inl (y58, 0, .inl (fun _ => 0)))] ∧ t = [(y58, .int)]) (fun _ => False) := by
  refine k_of (cc := cX11_together) (maxL := 9) (ret := (some (.array .int))) (by decide) rfl (Nat.le_of_ble_eq_true rfl) ?_
  intro p e s m args below meth c A ls hx hb hr hts hown hlocks hml hex hh hl
  have hown : s.vm.findClass RX11 = some m.cls := hown
  have hl : lv_has ls 9 [(0, .ref q15), (1, .int 0), (2, .int 0)] := hl
  refine lv_iconst (v := 0) hx hb dX11_together_0 (by decide) ?_
  refine lv_istore_n (lv' := [(3, .int 0), (0, .ref q15), (1, .int 0), (2, .int 0)]) hx hb dX11_together_1 rfl hl (by decide) rfl (fun ls hl => ?_)
  refine lv_iload_n hx hb dX11_together_2 rfl (lv_at hl 2 rfl) ?_
  refine lv_istore (lv' := [(4, .int 0), (3, .int 0), (0, .ref q15), (1, .int 0), (2, .int 0)]) hx hb dX11_together_3 hl (by decide) rfl (fun ls hl => ?_)
  refine lv_iload hx hb dX11_together_5 (lv_at hl 0 rfl) ?_
  refine lv_iload_n hx hb dX11_together_7 rfl (lv_at hl 4 rfl) ?_
  refine lv_icmp_ge (tgt := 56) hx hb dX11_together_8 (by decide) (fun _ => ?_) (fun c_8 => absurd (by decide) c_8)
  refine lv_iload_n hx hb dX11_together_56 rfl (lv_at hl 1 rfl) ?_
  refine k_newa (atype := .int) (ty := .int) (N' := 0) (a0 := (0, .inl (fun _ => 0))) hx hb (hts _ (wo_a85_X11_together_in _ (List.mem_of_getElem? (i := 0) rfl))) rfl hh (fun cA => rfl) (by decide) (by decide) (Nat.le_of_ble_eq_true rfl) (Nat.le_of_ble_eq_true rfl) (Nat.le_of_ble_eq_true rfl) dX11_together_57 (fun q57 y58 H hh => ?_)
  have hh : kH D kStr e0 A s H [(q57, .inl (y58, 0, .inl (fun _ => 0)))] [(y58, .int)] _ := hh
  refine lv_astore (lv' := [(4, .ref q57), (3, .int 0), (0, .ref q15), (1, .int 0), (2, .int 0)]) hx hb dX11_together_59 hl (by decide) rfl (fun ls hl => ?_)
  refine lv_iconst (v := 0) hx hb dX11_together_61 (by decide) ?_
  refine lv_istore (lv' := [(5, .int 0), (4, .ref q57), (3, .int 0), (0, .ref q15), (1, .int 0), (2, .int 0)]) hx hb dX11_together_62 hl (by decide) rfl (fun ls hl => ?_)
  refine lv_iload_n hx hb dX11_together_64 rfl (lv_at hl 4 rfl) ?_
  refine lv_istore (lv' := [(6, .int 0), (5, .int 0), (4, .ref q57), (3, .int 0), (0, .ref q15), (1, .int 0), (2, .int 0)]) hx hb dX11_together_65 hl (by decide) rfl (fun ls hl => ?_)
  refine lv_iload hx hb dX11_together_67 (lv_at hl 0 rfl) ?_
  refine lv_iload_n hx hb dX11_together_69 rfl (lv_at hl 6 rfl) ?_
  refine lv_icmp_ge (tgt := 150) hx hb dX11_together_70 (by decide) (fun _ => ?_) (fun c_70 => absurd (by decide) c_70)
  refine lv_aload hx hb dX11_together_150 (lv_at hl 2 rfl) ?_
  exact k_enda (by first | exact Or.inl ⟨_, rfl⟩ | exact Or.inr ⟨_, rfl⟩) (by first | exact Or.inr ⟨_, rfl⟩ | exact Or.inl rfl) hx hb hr hlocks hh ⟨q57, y58, rfl, rfl, rfl⟩ [0] [0] rfl rfl rfl (Nat.le_of_ble_eq_true rfl) (Nat.le_of_ble_eq_true rfl) dX11_together_152
def wo_a86_X11_program : List Cond := [Cond.fieldLink RX11 28 "SegueworksModel" "items" "Ljava/util/ArrayList;"]
def wk_a86_X11_program : List Cond := Cond.code yX11_program cX11_program 1 (some (.array .int)) :: (wo_a86_X11_program ++ ((u_ws RX11 TX11 11) ++ ((wsV RX11 50 RJx4a65c yJx4a65c_size_8abf5 wk_a17_Jx4a65c_size_8abf5) ++ (wsV RX11 153 RX11 yX11_together wk_a85_X11_together))))
theorem wo_a86_X11_program_in : ∀ w ∈ wo_a86_X11_program, w ∈ wk_a86_X11_program := fun w h => List.mem_cons_of_mem _ (List.mem_append_left _ h)
theorem ws_a86_X11_program_0 : ∀ w ∈ u_ws RX11 TX11 11, w ∈ wk_a86_X11_program := fun w h => List.mem_cons_of_mem _ (List.mem_append_right _ (List.mem_append_left _ h))
theorem gi_a86_X11_program_1 : GoodIn wk_a86_X11_program (wsV RX11 50 RJx4a65c yJx4a65c_size_8abf5 wk_a17_Jx4a65c_size_8abf5) := fun w h => ⟨List.mem_cons_of_mem _ (List.mem_append_right _ (List.mem_append_right _ (List.mem_append_left _ h))), good_of_word (kg_V gk_a17_Jx4a65c_size_8abf5 w h)⟩
theorem gi_a86_X11_program_2 : GoodIn wk_a86_X11_program (wsV RX11 153 RX11 yX11_together wk_a85_X11_together) := fun w h => ⟨List.mem_cons_of_mem _ (List.mem_append_right _ (List.mem_append_right _ (List.mem_append_right _ h))), good_of_word (kg_V gk_a85_X11_together w h)⟩
theorem gk_a86_X11_program : ∀ w ∈ wk_a86_X11_program, goodWord w = true := List.forall_mem_cons.mpr ⟨rfl, (List.forall_mem_append.mpr ⟨(show ∀ w ∈ wo_a86_X11_program, goodWord w = true by decide +kernel), (List.forall_mem_append.mpr ⟨(show ∀ w ∈ u_ws RX11 TX11 11, goodWord w = true by decide +kernel), (List.forall_mem_append.mpr ⟨(kg_V gk_a17_Jx4a65c_size_8abf5), (kg_V gk_a85_X11_together)⟩)⟩)⟩)⟩
set_option maxHeartbeats 4000000 in
set_option maxRecDepth 100000 in
theorem a86_X11_program (l : Launch) (hst : l.stackTraces = false) (D : va_G) (e0 : kE) (q15 : Nat) (q16 : Nat) (q17 : Nat) (q18 : Nat) (q19 : Nat) (q20 : Nat) (q21 : Nat) (q22 : Nat) (q23 : Nat)  : kM l yX11_program wk_a86_X11_program 1 28 1 0 D kStr e0 [] [(q15, .inr (16, [.int 0, .ref q16, .ref q17, .ref q18, .ref q19, .ref q20, .ref q21, .ref q22, .ref q23, .int 0, .int 0])), (q18, .inr (4, [.int 0, .ref e0.1, .int 0]))] [.ref q15] (fun v w t => ∃ (q57 : Nat), ∃ (y58 : ClassId), v = some (.ref q57) ∧ w = [(q15, .inr (16, [.int 0, .ref q16, .ref q17, .ref q18, .ref q19, .ref q20, .ref q21, .ref q22, .ref q23, .int 0, .int 0])), (q18, .inr (4, [.int 0, .ref e0.1, .int 0])), (q57, .inl (y58, 0, .inl (fun _ => 0)))] ∧ t = [(y58, .int)]) (fun _ => False) := by
  refine k_of (cc := cX11_program) (maxL := 1) (ret := (some (.array .int))) (by decide) rfl (Nat.le_of_ble_eq_true rfl) ?_
  intro p e s m args below meth c A ls hx hb hr hts hown hlocks hml hex hh hl
  have hown : s.vm.findClass RX11 = some m.cls := hown
  have hl : lv_has ls 1 [(0, .ref q15)] := hl
  refine lv_aload_n hx hb dX11_program_0 rfl (lv_at hl 0 rfl) ?_
  refine lv_iconst (v := 0) hx hb dX11_program_1 (by decide) ?_
  refine lv_aload_n hx hb dX11_program_2 rfl (lv_at hl 0 rfl) ?_
  refine k_get (C := RX11) (T := TX11) (N := 11) (ci := 16) (v := .ref q18) hx hb hts ws_a86_X11_program_0 hown hh 0 rfl rfl 3 (by decide) (hts _ (wo_a86_X11_program_in _ (List.mem_of_getElem? (i := 0) rfl))) rfl dX11_program_3 ?_
  refine k_callV (C := RJx4a65c) (T := TJx4a65c) (N := 3) (ci := 4) (q0 := 1) (wr := [(q15, .inr (16, [.int 0, .ref q16, .ref q17, .ref q18, .ref q19, .ref q20, .ref q21, .ref q22, .ref q23, .int 0, .int 0]))]) (rest := [.int 0, .ref q15]) (own := RX11) ⟨hx, hb, hml, hown, hts⟩ (a17_Jx4a65c_size_8abf5 l hst D e0 q18 ) (cwV 0 hts gi_a86_X11_program_1 rfl rfl rfl (by decide +kernel) ⟨Nat.le_of_ble_eq_true rfl, Nat.le_of_ble_eq_true rfl⟩) hh rfl rfl [1] [0] [] rfl rfl rfl rfl (by decide) rfl rfl hl rfl (Nat.le_of_ble_eq_true rfl) dX11_program_6 ⟨Nat.le_of_ble_eq_true rfl, (Nat.le_of_ble_eq_true rfl)⟩ (fun _ _ _ _ _ h => h.elim) (fun v w ty1 H locs hp hh => ?_)
  obtain ⟨rfl, rfl, rfl⟩ := hp
  have hh : kH D kStr e0 A s H [(q15, .inr (16, [.int 0, .ref q16, .ref q17, .ref q18, .ref q19, .ref q20, .ref q21, .ref q22, .ref q23, .int 0, .int 0])), (q18, .inr (4, [.int 0, .ref e0.1, .int 0]))] [] _ := hh
  refine W.eq (g2 := F0 m 9 ls [.int 0, .int 0, .ref q15]) (by first | rfl | decide) ?_
  refine k_callV (C := RX11) (T := TX11) (N := 11) (ci := 16) (q0 := 0) (wr := [(q15, .inr (16, [.int 0, .ref q16, .ref q17, .ref q18, .ref q19, .ref q20, .ref q21, .ref q22, .ref q23, .int 0, .int 0])), (q18, .inr (4, [.int 0, .ref e0.1, .int 0]))]) (rest := []) (own := RX11) ⟨hx, hb, hml, hown, hts⟩ (a85_X11_together l hst D e0 q15 ) (cwV 2 hts gi_a86_X11_program_2 rfl rfl rfl (by decide +kernel) ⟨Nat.le_of_ble_eq_true rfl, Nat.le_of_ble_eq_true rfl⟩) hh rfl rfl [] [0, 1] [] rfl rfl rfl rfl (by decide) rfl rfl hl rfl (Nat.le_of_ble_eq_true rfl) dX11_program_9 ⟨Nat.le_of_ble_eq_true rfl, (Nat.le_of_ble_eq_true rfl)⟩ (fun _ _ _ _ _ h => h.elim) (fun v w ty1 H locs hp hh => ?_)
  obtain ⟨q57, y58, rfl, rfl, rfl⟩ := hp
  have hh : kH D kStr e0 A s H [(q15, .inr (16, [.int 0, .ref q16, .ref q17, .ref q18, .ref q19, .ref q20, .ref q21, .ref q22, .ref q23, .int 0, .int 0])), (q18, .inr (4, [.int 0, .ref e0.1, .int 0])), (q57, .inl (y58, 0, .inl (fun _ => 0)))] [(y58, .int)] _ := hh
  refine W.eq (g2 := F0 m 12 ls [.ref q57]) (by first | rfl | decide) ?_
  exact k_enda (by first | exact Or.inl ⟨_, rfl⟩ | exact Or.inr ⟨_, rfl⟩) (by first | exact Or.inr ⟨_, rfl⟩ | exact Or.inl rfl) hx hb hr hlocks hh ⟨q57, y58, rfl, rfl, rfl⟩ [0, 1, 2] [0] rfl rfl rfl (Nat.le_of_ble_eq_true rfl) (Nat.le_of_ble_eq_true rfl) dX11_program_12
def wo_a87_J3_checkIndex_8e157 : List Cond := []
def wk_a87_J3_checkIndex_8e157 : List Cond := Cond.code yJ3_checkIndex_8e157 cJ3_checkIndex_8e157 3 (some .int) :: wo_a87_J3_checkIndex_8e157
theorem wo_a87_J3_checkIndex_8e157_in : ∀ w ∈ wo_a87_J3_checkIndex_8e157, w ∈ wk_a87_J3_checkIndex_8e157 := fun w h => List.mem_cons_of_mem _ h
theorem gk_a87_J3_checkIndex_8e157 : ∀ w ∈ wk_a87_J3_checkIndex_8e157, goodWord w = true := List.forall_mem_cons.mpr ⟨rfl, (show ∀ w ∈ wo_a87_J3_checkIndex_8e157, goodWord w = true by decide +kernel)⟩
set_option maxHeartbeats 4000000 in
set_option maxRecDepth 100000 in
theorem a87_J3_checkIndex_8e157 (l : Launch) (hst : l.stackTraces = false) (D : va_G) (e0 : kE)   : kM l yJ3_checkIndex_8e157 wk_a87_J3_checkIndex_8e157 0 0 0 0 D kStr e0 [] [] [.int 2, .int 3, .null] (fun v w t => v = some (.int 2) ∧ w = [] ∧ t = []) (fun _ => False) := by
  refine k_of (cc := cJ3_checkIndex_8e157) (maxL := 3) (ret := (some .int)) (by decide) rfl (Nat.le_of_ble_eq_true rfl) ?_
  intro p e s m args below meth c A ls hx hb hr hts hown hlocks hml hex hh hl
  have hown : s.vm.findClass RJ3 = some m.cls := hown
  have hl : lv_has ls 3 [(0, .int 2), (1, .int 3), (2, .null)] := hl
  refine lv_iload_n hx hb dJ3_checkIndex_8e157_0 rfl (lv_at hl 0 rfl) ?_
  refine lv_if_lt (tgt := 9) hx hb dJ3_checkIndex_8e157_1 (by decide) (fun c_1 => absurd c_1 (by decide)) (fun _ => ?_)
  refine lv_iload_n hx hb dJ3_checkIndex_8e157_4 rfl (lv_at hl 0 rfl) ?_
  refine lv_iload_n hx hb dJ3_checkIndex_8e157_5 rfl (lv_at hl 1 rfl) ?_
  refine lv_icmp_lt (tgt := 16) hx hb dJ3_checkIndex_8e157_6 (by decide) (fun _ => ?_) (fun c_6 => absurd (by decide) c_6)
  refine lv_iload_n hx hb dJ3_checkIndex_8e157_16 rfl (lv_at hl 0 rfl) ?_
  exact k_endi hx hb hr hlocks hh ⟨rfl, rfl, rfl⟩ [] [] rfl rfl rfl (Nat.le_of_ble_eq_true rfl) (Nat.le_of_ble_eq_true rfl) dJ3_checkIndex_8e157_17
def wo_a88_J15_checkIndex_7cf53 : List Cond := []
def wk_a88_J15_checkIndex_7cf53 : List Cond := Cond.code yJ15_checkIndex_7cf53 cJ15_checkIndex_7cf53 2 (some .int) :: (wo_a88_J15_checkIndex_7cf53 ++ (va_wsS RJ15 105 yJ3_checkIndex_8e157 wk_a87_J3_checkIndex_8e157))
theorem wo_a88_J15_checkIndex_7cf53_in : ∀ w ∈ wo_a88_J15_checkIndex_7cf53, w ∈ wk_a88_J15_checkIndex_7cf53 := fun w h => List.mem_cons_of_mem _ (List.mem_append_left _ h)
theorem gi_a88_J15_checkIndex_7cf53_0 : GoodIn wk_a88_J15_checkIndex_7cf53 (va_wsS RJ15 105 yJ3_checkIndex_8e157 wk_a87_J3_checkIndex_8e157) := fun w h => ⟨List.mem_cons_of_mem _ (List.mem_append_right _ h), good_of_word (kg_S gk_a87_J3_checkIndex_8e157 w h)⟩
theorem gk_a88_J15_checkIndex_7cf53 : ∀ w ∈ wk_a88_J15_checkIndex_7cf53, goodWord w = true := List.forall_mem_cons.mpr ⟨rfl, (List.forall_mem_append.mpr ⟨(show ∀ w ∈ wo_a88_J15_checkIndex_7cf53, goodWord w = true by decide +kernel), (kg_S gk_a87_J3_checkIndex_8e157)⟩)⟩
set_option maxHeartbeats 4000000 in
set_option maxRecDepth 100000 in
theorem a88_J15_checkIndex_7cf53 (l : Launch) (hst : l.stackTraces = false) (D : va_G) (e0 : kE)   : kM l yJ15_checkIndex_7cf53 wk_a88_J15_checkIndex_7cf53 1 22 0 0 D kStr e0 [] [] [.int 2, .int 3] (fun v w t => v = some (.int 2) ∧ w = [] ∧ t = []) (fun _ => False) := by
  refine k_of (cc := cJ15_checkIndex_7cf53) (maxL := 2) (ret := (some .int)) (by decide) rfl (Nat.le_of_ble_eq_true rfl) ?_
  intro p e s m args below meth c A ls hx hb hr hts hown hlocks hml hex hh hl
  have hown : s.vm.findClass RJ15 = some m.cls := hown
  have hl : lv_has ls 2 [(0, .int 2), (1, .int 3)] := hl
  refine lv_iload_n hx hb dJ15_checkIndex_7cf53_0 rfl (lv_at hl 0 rfl) ?_
  refine lv_iload_n hx hb dJ15_checkIndex_7cf53_1 rfl (lv_at hl 1 rfl) ?_
  refine lv_null hx hb dJ15_checkIndex_7cf53_2 ?_
  refine k_callS (wr := []) (rest := []) (own := RJ15) ⟨hx, hb, hml, hown, hts⟩ (a87_J3_checkIndex_8e157 l hst D e0  ) (va_cwS 3 hts gi_a88_J15_checkIndex_7cf53_0 rfl rfl rfl (by decide +kernel) ⟨Nat.le_of_ble_eq_true rfl, Nat.le_of_ble_eq_true rfl⟩) hh [] [] [] rfl rfl rfl rfl (by decide) rfl rfl hl rfl (Nat.le_of_ble_eq_true rfl) dJ15_checkIndex_7cf53_3 ⟨Nat.le_of_ble_eq_true rfl, (Nat.le_of_ble_eq_true rfl)⟩ (fun _ _ _ _ _ h => h.elim) (fun v w ty1 H locs hp hh => ?_)
  obtain ⟨rfl, rfl, rfl⟩ := hp
  have hh : kH D kStr e0 A s H [] [] _ := hh
  refine W.eq (g2 := F0 m 6 ls [.int 2]) (by first | rfl | decide) ?_
  exact k_endi hx hb hr hlocks hh ⟨rfl, rfl, rfl⟩ [] [] rfl rfl rfl (Nat.le_of_ble_eq_true rfl) (Nat.le_of_ble_eq_true rfl) dJ15_checkIndex_7cf53_6
def wo_a89_Jx4a65c_elementData_915e3 : List Cond := [Cond.fieldLink RJx4a65c 9 "java/util/ArrayList" "elementData" "[Ljava/lang/Object;"]
def wk_a89_Jx4a65c_elementData_915e3 : List Cond := Cond.code yJx4a65c_elementData_915e3 cJx4a65c_elementData_915e3 2 (some (.object "java/lang/Object")) :: (wo_a89_Jx4a65c_elementData_915e3 ++ (u_ws RJx4a65c TJx4a65c 3))
theorem wo_a89_Jx4a65c_elementData_915e3_in : ∀ w ∈ wo_a89_Jx4a65c_elementData_915e3, w ∈ wk_a89_Jx4a65c_elementData_915e3 := fun w h => List.mem_cons_of_mem _ (List.mem_append_left _ h)
theorem ws_a89_Jx4a65c_elementData_915e3_0 : ∀ w ∈ u_ws RJx4a65c TJx4a65c 3, w ∈ wk_a89_Jx4a65c_elementData_915e3 := fun w h => List.mem_cons_of_mem _ (List.mem_append_right _ h)
theorem gk_a89_Jx4a65c_elementData_915e3 : ∀ w ∈ wk_a89_Jx4a65c_elementData_915e3, goodWord w = true := List.forall_mem_cons.mpr ⟨rfl, (List.forall_mem_append.mpr ⟨(show ∀ w ∈ wo_a89_Jx4a65c_elementData_915e3, goodWord w = true by decide +kernel), (show ∀ w ∈ u_ws RJx4a65c TJx4a65c 3, goodWord w = true by decide +kernel)⟩)⟩
set_option maxHeartbeats 4000000 in
set_option maxRecDepth 100000 in
theorem a89_Jx4a65c_elementData_915e3 (l : Launch) (hst : l.stackTraces = false) (D : va_G) (e0 : kE) (q17 : Nat) (q33 : Nat) (y34 : ClassId) (q35 : Nat) (q43 : Nat) (q51 : Nat)  : kM l yJx4a65c_elementData_915e3 wk_a89_Jx4a65c_elementData_915e3 0 0 0 0 D kStr e0 [(y34, .object "java/lang/Object")] [(q17, .inr (4, [.int 3, .ref q33, .int 3])), (q33, .inl (y34, 10, .inr (.inr (.inr (.inr (va_up ((va_up ((va_up ((fun _ => none)) (0 : Int32).toNatClampNeg (some q35))) (1 : Int32).toNatClampNeg (some q43))) (2 : Int32).toNatClampNeg (some q51)))))))] [.ref q17, .int 2] (fun v w t => v = some (.ref q51) ∧ w = [(q17, .inr (4, [.int 3, .ref q33, .int 3])), (q33, .inl (y34, 10, .inr (.inr (.inr (.inr (va_up ((va_up ((va_up ((fun _ => none)) (0 : Int32).toNatClampNeg (some q35))) (1 : Int32).toNatClampNeg (some q43))) (2 : Int32).toNatClampNeg (some q51)))))))] ∧ t = [(y34, .object "java/lang/Object")]) (fun _ => False) := by
  refine k_of (cc := cJx4a65c_elementData_915e3) (maxL := 2) (ret := (some (.object "java/lang/Object"))) (by decide) rfl (Nat.le_of_ble_eq_true rfl) ?_
  intro p e s m args below meth c A ls hx hb hr hts hown hlocks hml hex hh hl
  have hown : s.vm.findClass RJx4a65c = some m.cls := hown
  have hl : lv_has ls 2 [(0, .ref q17), (1, .int 2)] := hl
  refine lv_aload_n hx hb dJx4a65c_elementData_915e3_0 rfl (lv_at hl 0 rfl) ?_
  refine k_get (C := RJx4a65c) (T := TJx4a65c) (N := 3) (ci := 4) (v := .ref q33) hx hb hts ws_a89_Jx4a65c_elementData_915e3_0 hown hh 0 rfl rfl 1 (by decide) (hts _ (wo_a89_Jx4a65c_elementData_915e3_in _ (List.mem_of_getElem? (i := 0) rfl))) rfl dJx4a65c_elementData_915e3_1 ?_
  refine lv_iload_n hx hb dJx4a65c_elementData_915e3_4 rfl (lv_at hl 1 rfl) ?_
  refine k_aldq (v := q51) hx hb hh 1 0 rfl rfl (by unfold vp_in; decide) (by first | rfl | simp [va_up]) dJx4a65c_elementData_915e3_5 ?_
  exact k_enda (by first | exact Or.inl ⟨_, rfl⟩ | exact Or.inr ⟨_, rfl⟩) (by first | exact Or.inr ⟨_, rfl⟩ | exact Or.inl rfl) hx hb hr hlocks hh ⟨rfl, rfl, rfl⟩ [0, 1] [0] rfl rfl rfl (Nat.le_of_ble_eq_true rfl) (Nat.le_of_ble_eq_true rfl) dJx4a65c_elementData_915e3_6
def wo_a90_Jx4a65c_get_915e3 : List Cond := [Cond.fieldLink RJx4a65c 48 "java/util/ArrayList" "size" "I"]
def wk_a90_Jx4a65c_get_915e3 : List Cond := Cond.code yJx4a65c_get_915e3 cJx4a65c_get_915e3 2 (some (.object "java/lang/Object")) :: (wo_a90_Jx4a65c_get_915e3 ++ ((u_ws RJx4a65c TJx4a65c 3) ++ ((va_wsS RJx4a65c 118 yJ15_checkIndex_7cf53 wk_a88_J15_checkIndex_7cf53) ++ (wsV RJx4a65c 123 RJx4a65c yJx4a65c_elementData_915e3 wk_a89_Jx4a65c_elementData_915e3))))
theorem wo_a90_Jx4a65c_get_915e3_in : ∀ w ∈ wo_a90_Jx4a65c_get_915e3, w ∈ wk_a90_Jx4a65c_get_915e3 := fun w h => List.mem_cons_of_mem _ (List.mem_append_left _ h)
theorem ws_a90_Jx4a65c_get_915e3_0 : ∀ w ∈ u_ws RJx4a65c TJx4a65c 3, w ∈ wk_a90_Jx4a65c_get_915e3 := fun w h => List.mem_cons_of_mem _ (List.mem_append_right _ (List.mem_append_left _ h))
theorem gi_a90_Jx4a65c_get_915e3_1 : GoodIn wk_a90_Jx4a65c_get_915e3 (va_wsS RJx4a65c 118 yJ15_checkIndex_7cf53 wk_a88_J15_checkIndex_7cf53) := fun w h => ⟨List.mem_cons_of_mem _ (List.mem_append_right _ (List.mem_append_right _ (List.mem_append_left _ h))), good_of_word (kg_S gk_a88_J15_checkIndex_7cf53 w h)⟩
theorem gi_a90_Jx4a65c_get_915e3_2 : GoodIn wk_a90_Jx4a65c_get_915e3 (wsV RJx4a65c 123 RJx4a65c yJx4a65c_elementData_915e3 wk_a89_Jx4a65c_elementData_915e3) := fun w h => ⟨List.mem_cons_of_mem _ (List.mem_append_right _ (List.mem_append_right _ (List.mem_append_right _ h))), good_of_word (kg_V gk_a89_Jx4a65c_elementData_915e3 w h)⟩
theorem gk_a90_Jx4a65c_get_915e3 : ∀ w ∈ wk_a90_Jx4a65c_get_915e3, goodWord w = true := List.forall_mem_cons.mpr ⟨rfl, (List.forall_mem_append.mpr ⟨(show ∀ w ∈ wo_a90_Jx4a65c_get_915e3, goodWord w = true by decide +kernel), (List.forall_mem_append.mpr ⟨(show ∀ w ∈ u_ws RJx4a65c TJx4a65c 3, goodWord w = true by decide +kernel), (List.forall_mem_append.mpr ⟨(kg_S gk_a88_J15_checkIndex_7cf53), (kg_V gk_a89_Jx4a65c_elementData_915e3)⟩)⟩)⟩)⟩
set_option maxHeartbeats 4000000 in
set_option maxRecDepth 100000 in
theorem a90_Jx4a65c_get_915e3 (l : Launch) (hst : l.stackTraces = false) (D : va_G) (e0 : kE) (q17 : Nat) (q33 : Nat) (y34 : ClassId) (q35 : Nat) (q43 : Nat) (q51 : Nat)  : kM l yJx4a65c_get_915e3 wk_a90_Jx4a65c_get_915e3 2 43 0 0 D kStr e0 [(y34, .object "java/lang/Object")] [(q17, .inr (4, [.int 3, .ref q33, .int 3])), (q33, .inl (y34, 10, .inr (.inr (.inr (.inr (va_up ((va_up ((va_up ((fun _ => none)) (0 : Int32).toNatClampNeg (some q35))) (1 : Int32).toNatClampNeg (some q43))) (2 : Int32).toNatClampNeg (some q51)))))))] [.ref q17, .int 2] (fun v w t => v = some (.ref q51) ∧ w = [(q17, .inr (4, [.int 3, .ref q33, .int 3])), (q33, .inl (y34, 10, .inr (.inr (.inr (.inr (va_up ((va_up ((va_up ((fun _ => none)) (0 : Int32).toNatClampNeg (some q35))) (1 : Int32).toNatClampNeg (some q43))) (2 : Int32).toNatClampNeg (some q51)))))))] ∧ t = [(y34, .object "java/lang/Object")]) (fun _ => False) := by
  refine k_of (cc := cJx4a65c_get_915e3) (maxL := 2) (ret := (some (.object "java/lang/Object"))) (by decide) rfl (Nat.le_of_ble_eq_true rfl) ?_
  intro p e s m args below meth c A ls hx hb hr hts hown hlocks hml hex hh hl
  have hown : s.vm.findClass RJx4a65c = some m.cls := hown
  have hl : lv_has ls 2 [(0, .ref q17), (1, .int 2)] := hl
  refine lv_iload_n hx hb dJx4a65c_get_915e3_0 rfl (lv_at hl 1 rfl) ?_
  refine lv_aload_n hx hb dJx4a65c_get_915e3_1 rfl (lv_at hl 0 rfl) ?_
  refine k_get (C := RJx4a65c) (T := TJx4a65c) (N := 3) (ci := 4) (v := .int 3) hx hb hts ws_a90_Jx4a65c_get_915e3_0 hown hh 0 rfl rfl 2 (by decide) (hts _ (wo_a90_Jx4a65c_get_915e3_in _ (List.mem_of_getElem? (i := 0) rfl))) rfl dJx4a65c_get_915e3_2 ?_
  refine k_callS (wr := [(q17, .inr (4, [.int 3, .ref q33, .int 3])), (q33, .inl (y34, 10, .inr (.inr (.inr (.inr (va_up ((va_up ((va_up ((fun _ => none)) (0 : Int32).toNatClampNeg (some q35))) (1 : Int32).toNatClampNeg (some q43))) (2 : Int32).toNatClampNeg (some q51)))))))]) (rest := []) (own := RJx4a65c) ⟨hx, hb, hml, hown, hts⟩ (a88_J15_checkIndex_7cf53 l hst D e0  ) (va_cwS 2 hts gi_a90_Jx4a65c_get_915e3_1 rfl rfl rfl (by decide +kernel) ⟨Nat.le_of_ble_eq_true rfl, Nat.le_of_ble_eq_true rfl⟩) hh [] [0, 1] [] rfl rfl rfl rfl (by decide) rfl rfl hl rfl (Nat.le_of_ble_eq_true rfl) dJx4a65c_get_915e3_5 ⟨Nat.le_of_ble_eq_true rfl, (Nat.le_of_ble_eq_true rfl)⟩ (fun _ _ _ _ _ h => h.elim) (fun v w ty1 H locs hp hh => ?_)
  obtain ⟨rfl, rfl, rfl⟩ := hp
  have hh : kH D kStr e0 A s H [(q17, .inr (4, [.int 3, .ref q33, .int 3])), (q33, .inl (y34, 10, .inr (.inr (.inr (.inr (va_up ((va_up ((va_up ((fun _ => none)) (0 : Int32).toNatClampNeg (some q35))) (1 : Int32).toNatClampNeg (some q43))) (2 : Int32).toNatClampNeg (some q51)))))))] [(y34, .object "java/lang/Object")] _ := hh
  refine W.eq (g2 := F0 m 8 ls [.int 2]) (by first | rfl | decide) ?_
  refine lv_pop hx hb dJx4a65c_get_915e3_8 rfl ?_
  refine lv_aload_n hx hb dJx4a65c_get_915e3_9 rfl (lv_at hl 0 rfl) ?_
  refine lv_iload_n hx hb dJx4a65c_get_915e3_10 rfl (lv_at hl 1 rfl) ?_
  refine k_callV (C := RJx4a65c) (T := TJx4a65c) (N := 3) (ci := 4) (q0 := 0) (wr := []) (rest := []) (own := RJx4a65c) ⟨hx, hb, hml, hown, hts⟩ (a89_Jx4a65c_elementData_915e3 l hst D e0 q17 q33 y34 q35 q43 q51 ) (cwV 1 hts gi_a90_Jx4a65c_get_915e3_2 rfl rfl rfl (by decide +kernel) ⟨Nat.le_of_ble_eq_true rfl, Nat.le_of_ble_eq_true rfl⟩) hh rfl rfl [0, 1] [] [0] rfl rfl rfl rfl (by decide) rfl rfl hl rfl (Nat.le_of_ble_eq_true rfl) dJx4a65c_get_915e3_11 ⟨Nat.le_of_ble_eq_true rfl, (Nat.le_of_ble_eq_true rfl)⟩ (fun _ _ _ _ _ h => h.elim) (fun v w ty1 H locs hp hh => ?_)
  obtain ⟨rfl, rfl, rfl⟩ := hp
  have hh : kH D kStr e0 A s H [(q17, .inr (4, [.int 3, .ref q33, .int 3])), (q33, .inl (y34, 10, .inr (.inr (.inr (.inr (va_up ((va_up ((va_up ((fun _ => none)) (0 : Int32).toNatClampNeg (some q35))) (1 : Int32).toNatClampNeg (some q43))) (2 : Int32).toNatClampNeg (some q51)))))))] [(y34, .object "java/lang/Object"), (y34, .object "java/lang/Object")] _ := hh
  refine W.eq (g2 := F0 m 14 ls [.ref q51]) (by first | rfl | decide) ?_
  exact k_enda (by first | exact Or.inl ⟨_, rfl⟩ | exact Or.inr ⟨_, rfl⟩) (by first | exact Or.inr ⟨_, rfl⟩ | exact Or.inl rfl) hx hb hr hlocks hh ⟨rfl, rfl, rfl⟩ [0, 1] [0] rfl rfl rfl (Nat.le_of_ble_eq_true rfl) (Nat.le_of_ble_eq_true rfl) dJx4a65c_get_915e3_14
def wo_a91_X11_rowOf : List Cond := [Cond.fieldLink RX11 25 "SegueworksModel" "pieces" "Ljava/util/ArrayList;", Cond.classLink RX11 84 RX9]
def wk_a91_X11_rowOf : List Cond := Cond.code yX11_rowOf cX11_rowOf 2 (some (.array .int)) :: (wo_a91_X11_rowOf ++ ((u_ws RX11 TX11 11) ++ ((wsV RX11 70 RJx4a65c yJx4a65c_get_915e3 wk_a90_Jx4a65c_get_915e3) ++ (u_ws RX9 TX9 2))))
theorem wo_a91_X11_rowOf_in : ∀ w ∈ wo_a91_X11_rowOf, w ∈ wk_a91_X11_rowOf := fun w h => List.mem_cons_of_mem _ (List.mem_append_left _ h)
theorem ws_a91_X11_rowOf_0 : ∀ w ∈ u_ws RX11 TX11 11, w ∈ wk_a91_X11_rowOf := fun w h => List.mem_cons_of_mem _ (List.mem_append_right _ (List.mem_append_left _ h))
theorem gi_a91_X11_rowOf_1 : GoodIn wk_a91_X11_rowOf (wsV RX11 70 RJx4a65c yJx4a65c_get_915e3 wk_a90_Jx4a65c_get_915e3) := fun w h => ⟨List.mem_cons_of_mem _ (List.mem_append_right _ (List.mem_append_right _ (List.mem_append_left _ h))), good_of_word (kg_V gk_a90_Jx4a65c_get_915e3 w h)⟩
theorem ws_a91_X11_rowOf_2 : ∀ w ∈ u_ws RX9 TX9 2, w ∈ wk_a91_X11_rowOf := fun w h => List.mem_cons_of_mem _ (List.mem_append_right _ (List.mem_append_right _ (List.mem_append_right _ h)))
theorem gk_a91_X11_rowOf : ∀ w ∈ wk_a91_X11_rowOf, goodWord w = true := List.forall_mem_cons.mpr ⟨rfl, (List.forall_mem_append.mpr ⟨(show ∀ w ∈ wo_a91_X11_rowOf, goodWord w = true by decide +kernel), (List.forall_mem_append.mpr ⟨(show ∀ w ∈ u_ws RX11 TX11 11, goodWord w = true by decide +kernel), (List.forall_mem_append.mpr ⟨(kg_V gk_a90_Jx4a65c_get_915e3), (show ∀ w ∈ u_ws RX9 TX9 2, goodWord w = true by decide +kernel)⟩)⟩)⟩)⟩
set_option maxHeartbeats 4000000 in
set_option maxRecDepth 100000 in
theorem a91_X11_rowOf (l : Launch) (hst : l.stackTraces = false) (D : va_G) (e0 : kE) (q15 : Nat) (q16 : Nat) (q17 : Nat) (q18 : Nat) (q19 : Nat) (q20 : Nat) (q21 : Nat) (q22 : Nat) (q23 : Nat) (q33 : Nat) (y34 : ClassId) (q35 : Nat) (q43 : Nat) (q51 : Nat) (q52 : Nat)  : kM l yX11_rowOf wk_a91_X11_rowOf 3 64 0 0 D kStr e0 [(y34, .object "java/lang/Object")] [(q15, .inr (16, [.int 0, .ref q16, .ref q17, .ref q18, .ref q19, .ref q20, .ref q21, .ref q22, .ref q23, .int 0, .int 0])), (q17, .inr (4, [.int 3, .ref q33, .int 3])), (q33, .inl (y34, 10, .inr (.inr (.inr (.inr (va_up ((va_up ((va_up ((fun _ => none)) (0 : Int32).toNatClampNeg (some q35))) (1 : Int32).toNatClampNeg (some q43))) (2 : Int32).toNatClampNeg (some q51))))))), (q51, .inr (14, [.int 120, .ref q52]))] [.ref q15, .int 2] (fun v w t => v = some (.ref q52) ∧ w = [(q15, .inr (16, [.int 0, .ref q16, .ref q17, .ref q18, .ref q19, .ref q20, .ref q21, .ref q22, .ref q23, .int 0, .int 0])), (q17, .inr (4, [.int 3, .ref q33, .int 3])), (q33, .inl (y34, 10, .inr (.inr (.inr (.inr (va_up ((va_up ((va_up ((fun _ => none)) (0 : Int32).toNatClampNeg (some q35))) (1 : Int32).toNatClampNeg (some q43))) (2 : Int32).toNatClampNeg (some q51))))))), (q51, .inr (14, [.int 120, .ref q52]))] ∧ t = [(y34, .object "java/lang/Object")]) (fun _ => False) := by
  refine k_of (cc := cX11_rowOf) (maxL := 2) (ret := (some (.array .int))) (by decide) rfl (Nat.le_of_ble_eq_true rfl) ?_
  intro p e s m args below meth c A ls hx hb hr hts hown hlocks hml hex hh hl
  have hown : s.vm.findClass RX11 = some m.cls := hown
  have hl : lv_has ls 2 [(0, .ref q15), (1, .int 2)] := hl
  refine lv_aload_n hx hb dX11_rowOf_0 rfl (lv_at hl 0 rfl) ?_
  refine k_get (C := RX11) (T := TX11) (N := 11) (ci := 16) (v := .ref q17) hx hb hts ws_a91_X11_rowOf_0 hown hh 0 rfl rfl 2 (by decide) (hts _ (wo_a91_X11_rowOf_in _ (List.mem_of_getElem? (i := 0) rfl))) rfl dX11_rowOf_1 ?_
  refine lv_iload_n hx hb dX11_rowOf_4 rfl (lv_at hl 1 rfl) ?_
  refine k_callV (C := RJx4a65c) (T := TJx4a65c) (N := 3) (ci := 4) (q0 := 1) (wr := [(q15, .inr (16, [.int 0, .ref q16, .ref q17, .ref q18, .ref q19, .ref q20, .ref q21, .ref q22, .ref q23, .int 0, .int 0])), (q51, .inr (14, [.int 120, .ref q52]))]) (rest := []) (own := RX11) ⟨hx, hb, hml, hown, hts⟩ (a90_Jx4a65c_get_915e3 l hst D e0 q17 q33 y34 q35 q43 q51 ) (cwV 1 hts gi_a91_X11_rowOf_1 rfl rfl rfl (by decide +kernel) ⟨Nat.le_of_ble_eq_true rfl, Nat.le_of_ble_eq_true rfl⟩) hh rfl rfl [1, 2] [0, 3] [0] rfl rfl rfl rfl (by decide) rfl rfl hl rfl (Nat.le_of_ble_eq_true rfl) dX11_rowOf_5 ⟨Nat.le_of_ble_eq_true rfl, (Nat.le_of_ble_eq_true rfl)⟩ (fun _ _ _ _ _ h => h.elim) (fun v w ty1 H locs hp hh => ?_)
  obtain ⟨rfl, rfl, rfl⟩ := hp
  have hh : kH D kStr e0 A s H [(q15, .inr (16, [.int 0, .ref q16, .ref q17, .ref q18, .ref q19, .ref q20, .ref q21, .ref q22, .ref q23, .int 0, .int 0])), (q51, .inr (14, [.int 120, .ref q52])), (q17, .inr (4, [.int 3, .ref q33, .int 3])), (q33, .inl (y34, 10, .inr (.inr (.inr (.inr (va_up ((va_up ((va_up ((fun _ => none)) (0 : Int32).toNatClampNeg (some q35))) (1 : Int32).toNatClampNeg (some q43))) (2 : Int32).toNatClampNeg (some q51)))))))] [(y34, .object "java/lang/Object"), (y34, .object "java/lang/Object")] _ := hh
  refine W.eq (g2 := F0 m 8 ls [.ref q51]) (by first | rfl | decide) ?_
  refine k_castS (C := RX9) (T := TX9) (N := 2) (ci := 14) hx hb hown (hts _ (wo_a91_X11_rowOf_in _ (List.mem_of_getElem? (i := 1) rfl))) hh 1 rfl rfl dX11_rowOf_8 ?_
  refine k_getN (host := RX11) (C := RX9) (T := TX9) (N := 2) (ci := 14) (v := .ref q52) hx hb hts ws_a91_X11_rowOf_2 hown hh 1 rfl rfl 1 (by decide) (kNest_word hh (q := (86, "SegueworksModel$Piece", "row", "[I")) (by decide)) rfl dX11_rowOf_11 ?_
  exact k_enda (by first | exact Or.inl ⟨_, rfl⟩ | exact Or.inr ⟨_, rfl⟩) (by first | exact Or.inr ⟨_, rfl⟩ | exact Or.inl rfl) hx hb hr hlocks hh ⟨rfl, rfl, rfl⟩ [0, 2, 3, 1] [0] rfl rfl rfl (Nat.le_of_ble_eq_true rfl) (Nat.le_of_ble_eq_true rfl) dX11_rowOf_14
def wo_a92_X11_in : List Cond := []
def wk_a92_X11_in : List Cond := Cond.code yX11_in cX11_in 6 (some .boolean) :: wo_a92_X11_in
theorem wo_a92_X11_in_in : ∀ w ∈ wo_a92_X11_in, w ∈ wk_a92_X11_in := fun w h => List.mem_cons_of_mem _ h
theorem gk_a92_X11_in : ∀ w ∈ wk_a92_X11_in, goodWord w = true := List.forall_mem_cons.mpr ⟨rfl, (show ∀ w ∈ wo_a92_X11_in, goodWord w = true by decide +kernel)⟩
set_option maxHeartbeats 4000000 in
set_option maxRecDepth 100000 in
theorem a92_X11_in (l : Launch) (hst : l.stackTraces = false) (D : va_G) (e0 : kE)   : kM l yX11_in wk_a92_X11_in 0 0 0 0 D kStr e0 [] [] [.long 0, .long 0, .long 100] (fun v w t => v = some (.int 1) ∧ w = [] ∧ t = []) (fun _ => False) := by
  refine k_of (cc := cX11_in) (maxL := 6) (ret := (some .boolean)) (by decide) rfl (Nat.le_of_ble_eq_true rfl) ?_
  intro p e s m args below meth c A ls hx hb hr hts hown hlocks hml hex hh hl
  have hown : s.vm.findClass RX11 = some m.cls := hown
  have hl : lv_has ls 6 [(0, .long 0), (2, .long 0), (4, .long 100)] := hl
  refine lv_lload_n hx hb dX11_in_0 rfl (lv_at hl 0 rfl) ?_
  refine lv_lload_n hx hb dX11_in_1 rfl (lv_at hl 1 rfl) ?_
  refine W.lcmp hx hb dX11_in_2 ?_
  refine W.eq (g2 := F0 m 3 ls [.int 0]) (by rw [show lg_cmp (0 : Int64) (0 : Int64) = 0 from by decide]) ?_
  refine lv_if_lt (tgt := 17) hx hb dX11_in_3 (by decide) (fun c_3 => absurd c_3 (by decide)) (fun _ => ?_)
  refine lv_lload_n hx hb dX11_in_6 rfl (lv_at hl 0 rfl) ?_
  refine lv_lload hx hb dX11_in_7 (lv_at hl 2 rfl) ?_
  refine W.lcmp hx hb dX11_in_9 ?_
  refine W.eq (g2 := F0 m 10 ls [.int (-1)]) (by rw [show lg_cmp (0 : Int64) (100 : Int64) = (-1) from by decide]) ?_
  refine lv_if_gt (tgt := 17) hx hb dX11_in_10 (by decide) (fun c_10 => absurd c_10 (by decide)) (fun _ => ?_)
  refine lv_iconst (v := 1) hx hb dX11_in_13 (by decide) ?_
  refine lv_goto (tgt := 18) hx hb dX11_in_14 (by decide) ?_
  exact k_endz (ty := .boolean) (by decide) hx hb hr hlocks hh ⟨rfl, rfl, rfl⟩ [] [] rfl rfl rfl (Nat.le_of_ble_eq_true rfl) (Nat.le_of_ble_eq_true rfl) dX11_in_18
def wo_a93_X8_init : List Cond := [Cond.methodLink RX8 1 objectInit, Cond.instanceMethod objectInit, Cond.code objectInit ⟨#[0xb1]⟩ 1 none, Cond.arrayClass .int, Cond.fieldLink RX8 7 "SegueworksModel$Item" "splits" "[I", Cond.fieldLink RX8 13 "SegueworksModel$Item" "piece" "I", Cond.fieldLink RX8 17 "SegueworksModel$Item" "gap" "I"]
def wk_a93_X8_init : List Cond := Cond.code yX8_init cX8_init 3 none :: (wo_a93_X8_init ++ (u_ws RX8 TX8 5))
theorem wo_a93_X8_init_in : ∀ w ∈ wo_a93_X8_init, w ∈ wk_a93_X8_init := fun w h => List.mem_cons_of_mem _ (List.mem_append_left _ h)
theorem ws_a93_X8_init_0 : ∀ w ∈ u_ws RX8 TX8 5, w ∈ wk_a93_X8_init := fun w h => List.mem_cons_of_mem _ (List.mem_append_right _ h)
theorem gk_a93_X8_init : ∀ w ∈ wk_a93_X8_init, goodWord w = true := List.forall_mem_cons.mpr ⟨rfl, (List.forall_mem_append.mpr ⟨(show ∀ w ∈ wo_a93_X8_init, goodWord w = true by decide +kernel), (show ∀ w ∈ u_ws RX8 TX8 5, goodWord w = true by decide +kernel)⟩)⟩
set_option maxHeartbeats 4000000 in
set_option maxRecDepth 100000 in
theorem a93_X8_init (l : Launch) (hst : l.stackTraces = false) (D : va_G) (e0 : kE) (q59 : Nat)  : kI l yX8_init wk_a93_X8_init 1 20 1 8 D kStr e0 [] [(q59, .inr (13, [.int 0, .int 0, .int 0, .null, .int 0]))] [.ref q59, .int 2, .int 0] (fun v w t => ∃ (q60 : Nat), v = none ∧ w = [(q59, .inr (13, [.int 2, .int 0, .int 0, .ref q60, .int 0]))] ∧ t = []) := by
  refine k_ofI (cc := cX8_init) (maxL := 3) (ret := none) (by decide) rfl (Nat.le_of_ble_eq_true rfl) ?_
  intro p e s m args below meth c A ls hx hb hr hts hown hlocks hml hin hh hl
  have hown : s.vm.findClass RX8 = some m.cls := hown
  have hl : lv_has ls 3 [(0, .ref q59), (1, .int 2), (2, .int 0)] := hl
  have hin : meth.name = "<init>" := hin
  refine lv_aload_n hx hb dX8_init_0 rfl (lv_at hl 0 rfl) ?_
  refine W.objInit hx hb hown (hts _ (wo_a93_X8_init_in _ (List.mem_of_getElem? (i := 0) rfl))) (hts _ (wo_a93_X8_init_in _ (List.mem_of_getElem? (i := 1) rfl))) (hts _ (wo_a93_X8_init_in _ (List.mem_of_getElem? (i := 2) rfl))) rfl (by rw [hml]; exact hl.1) rfl dX8_init_1 (Nat.le_of_ble_eq_true rfl) (Nat.le_of_ble_eq_true rfl) ?_
  refine W.eq (g2 := F0 m 4 ls []) rfl ?_
  refine lv_aload_n hx hb dX8_init_4 rfl (lv_at hl 0 rfl) ?_
  refine lv_bipush (v := 8) hx hb dX8_init_5 (by decide) ?_
  refine k_newa (atype := .int) (ty := .int) (N' := 8) (a0 := (8, .inl (fun _ => 0))) hx hb (hts _ (wo_a93_X8_init_in _ (List.mem_of_getElem? (i := 3) rfl))) rfl hh (fun cA => rfl) (by decide) (by decide) (Nat.le_of_ble_eq_true rfl) (Nat.le_of_ble_eq_true rfl) (Nat.le_of_ble_eq_true rfl) dX8_init_7 (fun q60 y61 H hh => ?_)
  have hh : kH D kStr e0 A s H [(q59, .inr (13, [.int 0, .int 0, .int 0, .null, .int 0])), (q60, .inl (y61, 8, .inl (fun _ => 0)))] [(y61, .int)] _ := hh
  refine k_putF (C := RX8) (T := TX8) (N := 5) (ci := 13) (v := .ref q60) (ws' := [(q59, .inr (13, [.int 0, .int 0, .int 0, .ref q60, .int 0])), (q60, .inl (y61, 8, .inl (fun _ => 0)))]) hx hb hts ws_a93_X8_init_0 tyX8 tyX8_ok nmX8 hown hh 0 rfl rfl 3 (by decide) (hts _ (wo_a93_X8_init_in _ (List.mem_of_getElem? (i := 4) rfl))) rfl hin rfl rfl rfl (Nat.le_of_ble_eq_true rfl) dX8_init_9 rfl (fun H locs hh => ?_)
  refine lv_aload_n hx hb dX8_init_12 rfl (lv_at hl 0 rfl) ?_
  refine lv_iload_n hx hb dX8_init_13 rfl (lv_at hl 1 rfl) ?_
  refine k_put (C := RX8) (T := TX8) (N := 5) (ci := 13) (v := .int 2) (ws' := [(q59, .inr (13, [.int 2, .int 0, .int 0, .ref q60, .int 0])), (q60, .inl (y61, 8, .inl (fun _ => 0)))]) hx hb hts ws_a93_X8_init_0 tyX8 tyX8_ok nmX8 hown hh 0 rfl rfl 0 (by decide) (hts _ (wo_a93_X8_init_in _ (List.mem_of_getElem? (i := 5) rfl))) rfl rfl rfl (Nat.le_of_ble_eq_true rfl) dX8_init_14 rfl (fun H locs hh => ?_)
  refine lv_aload_n hx hb dX8_init_17 rfl (lv_at hl 0 rfl) ?_
  refine lv_iload_n hx hb dX8_init_18 rfl (lv_at hl 2 rfl) ?_
  refine k_putF (C := RX8) (T := TX8) (N := 5) (ci := 13) (v := .int 0) (ws' := [(q59, .inr (13, [.int 2, .int 0, .int 0, .ref q60, .int 0])), (q60, .inl (y61, 8, .inl (fun _ => 0)))]) hx hb hts ws_a93_X8_init_0 tyX8 tyX8_ok nmX8 hown hh 0 rfl rfl 1 (by decide) (hts _ (wo_a93_X8_init_in _ (List.mem_of_getElem? (i := 6) rfl))) rfl hin rfl rfl rfl (Nat.le_of_ble_eq_true rfl) dX8_init_19 rfl (fun H locs hh => ?_)
  exact k_endV hx hb hr hlocks hh ⟨q60, rfl, rfl, rfl⟩ [0] [] rfl rfl rfl (Nat.le_of_ble_eq_true rfl) (Nat.le_of_ble_eq_true rfl) dX8_init_22
def wo_a94_Jx4a65c_add_72be8 : List Cond := [Cond.fieldLink RJx4a65c 48 "java/util/ArrayList" "size" "I"]
def wk_a94_Jx4a65c_add_72be8 : List Cond := Cond.code yJx4a65c_add_72be8 cJx4a65c_add_72be8 4 none :: (wo_a94_Jx4a65c_add_72be8 ++ ((wsV RJx4a65c 129 RJx4a65c yJx4a65c_grow_d5877 wk_a20_Jx4a65c_grow_d5877) ++ (u_ws RJx4a65c TJx4a65c 3)))
theorem wo_a94_Jx4a65c_add_72be8_in : ∀ w ∈ wo_a94_Jx4a65c_add_72be8, w ∈ wk_a94_Jx4a65c_add_72be8 := fun w h => List.mem_cons_of_mem _ (List.mem_append_left _ h)
theorem gi_a94_Jx4a65c_add_72be8_0 : GoodIn wk_a94_Jx4a65c_add_72be8 (wsV RJx4a65c 129 RJx4a65c yJx4a65c_grow_d5877 wk_a20_Jx4a65c_grow_d5877) := fun w h => ⟨List.mem_cons_of_mem _ (List.mem_append_right _ (List.mem_append_left _ h)), good_of_word (kg_V gk_a20_Jx4a65c_grow_d5877 w h)⟩
theorem ws_a94_Jx4a65c_add_72be8_1 : ∀ w ∈ u_ws RJx4a65c TJx4a65c 3, w ∈ wk_a94_Jx4a65c_add_72be8 := fun w h => List.mem_cons_of_mem _ (List.mem_append_right _ (List.mem_append_right _ h))
theorem gk_a94_Jx4a65c_add_72be8 : ∀ w ∈ wk_a94_Jx4a65c_add_72be8, goodWord w = true := List.forall_mem_cons.mpr ⟨rfl, (List.forall_mem_append.mpr ⟨(show ∀ w ∈ wo_a94_Jx4a65c_add_72be8, goodWord w = true by decide +kernel), (List.forall_mem_append.mpr ⟨(kg_V gk_a20_Jx4a65c_grow_d5877), (show ∀ w ∈ u_ws RJx4a65c TJx4a65c 3, goodWord w = true by decide +kernel)⟩)⟩)⟩
set_option maxHeartbeats 4000000 in
set_option maxRecDepth 100000 in
theorem a94_Jx4a65c_add_72be8 (l : Launch) (hst : l.stackTraces = false) (D : va_G) (e0 : kE) (q18 : Nat) (q59 : Nat) (q60 : Nat)  : kM l yJx4a65c_add_72be8 wk_a94_Jx4a65c_add_72be8 3 72 1 10 D kStr e0 [] [(q18, .inr (4, [.int 1, .ref e0.1, .int 0])), (q59, .inr (13, [.int 2, .int 0, .int 0, .ref q60, .int 0]))] [.ref q18, .ref q59, .ref e0.1, .int 0] (fun v w t => ∃ (q61 : Nat), ∃ (y62 : ClassId), v = none ∧ w = [(q18, .inr (4, [.int 1, .ref q61, .int 1])), (q59, .inr (13, [.int 2, .int 0, .int 0, .ref q60, .int 0])), (q61, .inl (y62, 10, .inr (.inr (.inr (.inr (va_up ((fun _ => none)) (0 : Int32).toNatClampNeg (some q59)))))))] ∧ t = [(y62, .object "java/lang/Object")]) (fun _ => False) := by
  refine k_of (cc := cJx4a65c_add_72be8) (maxL := 4) (ret := none) (by decide) rfl (Nat.le_of_ble_eq_true rfl) ?_
  intro p e s m args below meth c A ls hx hb hr hts hown hlocks hml hex hh hl
  have hown : s.vm.findClass RJx4a65c = some m.cls := hown
  have hl : lv_has ls 4 [(0, .ref q18), (1, .ref q59), (2, .ref e0.1), (3, .int 0)] := hl
  refine lv_iload_n hx hb dJx4a65c_add_72be8_0 rfl (lv_at hl 3 rfl) ?_
  refine lv_aload_n hx hb dJx4a65c_add_72be8_1 rfl (lv_at hl 2 rfl) ?_
  refine va_tlen (v := 0) hx hb hh.2.2.2.2.2.2.2.2.1 hh.2.2.2.1 (by decide) dJx4a65c_add_72be8_2 ?_
  refine lv_icmp_ne (tgt := 11) hx hb dJx4a65c_add_72be8_3 (by decide) (fun c_3 => absurd (by decide) c_3) (fun _ => ?_)
  refine lv_aload_n hx hb dJx4a65c_add_72be8_6 rfl (lv_at hl 0 rfl) ?_
  refine k_callV (C := RJx4a65c) (T := TJx4a65c) (N := 3) (ci := 4) (q0 := 0) (wr := [(q59, .inr (13, [.int 2, .int 0, .int 0, .ref q60, .int 0]))]) (rest := []) (own := RJx4a65c) ⟨hx, hb, hml, hown, hts⟩ (a20_Jx4a65c_grow_d5877 l hst D e0 q18 ) (cwV 0 hts gi_a94_Jx4a65c_add_72be8_0 rfl rfl rfl (by decide +kernel) ⟨Nat.le_of_ble_eq_true rfl, Nat.le_of_ble_eq_true rfl⟩) hh rfl rfl [0] [1] [] rfl rfl rfl rfl (by decide) rfl rfl hl rfl (Nat.le_of_ble_eq_true rfl) dJx4a65c_add_72be8_7 ⟨Nat.le_of_ble_eq_true rfl, (Nat.le_of_ble_eq_true rfl)⟩ (fun _ _ _ _ _ h => h.elim) (fun v w ty1 H locs hp hh => ?_)
  obtain ⟨q61, y62, rfl, rfl, rfl⟩ := hp
  have hh : kH D kStr e0 A s H [(q59, .inr (13, [.int 2, .int 0, .int 0, .ref q60, .int 0])), (q18, .inr (4, [.int 1, .ref q61, .int 0])), (q61, .inl (y62, 10, .inr (.inr (.inr (.inr (fun _ => none))))))] [(y62, .object "java/lang/Object")] _ := hh
  refine W.eq (g2 := F0 m 10 ls [.ref q61]) (by first | rfl | decide) ?_
  refine lv_astore_n (lv' := [(2, .ref q61), (0, .ref q18), (1, .ref q59), (3, .int 0)]) hx hb dJx4a65c_add_72be8_10 rfl hl (by decide) rfl (fun ls hl => ?_)
  refine lv_aload_n hx hb dJx4a65c_add_72be8_11 rfl (lv_at hl 0 rfl) ?_
  refine lv_iload_n hx hb dJx4a65c_add_72be8_12 rfl (lv_at hl 3 rfl) ?_
  refine lv_aload_n hx hb dJx4a65c_add_72be8_13 rfl (lv_at hl 2 rfl) ?_
  refine k_astO (C := RX8) (T := TX8) (N := 5) (ws' := [(q59, .inr (13, [.int 2, .int 0, .int 0, .ref q60, .int 0])), (q18, .inr (4, [.int 1, .ref q61, .int 0])), (q61, .inl (y62, 10, .inr (.inr (.inr (.inr (va_up ((fun _ => none)) (0 : Int32).toNatClampNeg (some q59)))))))]) hx hb hh 2 0 0 13 (by decide) rfl rfl rfl rfl (by unfold vp_in; decide) dJx4a65c_add_72be8_14 rfl (fun H locs hh => ?_)
  refine lv_aload_n hx hb dJx4a65c_add_72be8_15 rfl (lv_at hl 1 rfl) ?_
  refine lv_iload_n hx hb dJx4a65c_add_72be8_16 rfl (lv_at hl 3 rfl) ?_
  refine lv_iconst (v := 1) hx hb dJx4a65c_add_72be8_17 (by decide) ?_
  refine lv_iadd hx hb dJx4a65c_add_72be8_18 ?_
  refine W.eq (g2 := F0 m 19 ls [.int 1, .ref q18]) (by first | rfl | decide) ?_
  refine k_put (C := RJx4a65c) (T := TJx4a65c) (N := 3) (ci := 4) (v := .int 1) (ws' := [(q59, .inr (13, [.int 2, .int 0, .int 0, .ref q60, .int 0])), (q18, .inr (4, [.int 1, .ref q61, .int 1])), (q61, .inl (y62, 10, .inr (.inr (.inr (.inr (va_up ((fun _ => none)) (0 : Int32).toNatClampNeg (some q59)))))))]) hx hb hts ws_a94_Jx4a65c_add_72be8_1 tyJx4a65c tyJx4a65c_ok nmJx4a65c hown hh 1 rfl rfl 2 (by decide) (hts _ (wo_a94_Jx4a65c_add_72be8_in _ (List.mem_of_getElem? (i := 0) rfl))) rfl rfl rfl (Nat.le_of_ble_eq_true rfl) dJx4a65c_add_72be8_19 rfl (fun H locs hh => ?_)
  exact k_endv hx hb hr hlocks hh ⟨q61, y62, rfl, rfl, rfl⟩ [1, 0, 2] [0] rfl rfl rfl (Nat.le_of_ble_eq_true rfl) (Nat.le_of_ble_eq_true rfl) dJx4a65c_add_72be8_22
def wo_a95_Jx4a65c_add_9ea2d : List Cond := [Cond.sameField "java/util/ArrayList" "java/util/AbstractList" "modCount" "I", Cond.fieldLink RJx4a65c 63 "java/util/ArrayList" "modCount" "I", Cond.fieldLink RJx4a65c 9 "java/util/ArrayList" "elementData" "[Ljava/lang/Object;", Cond.fieldLink RJx4a65c 48 "java/util/ArrayList" "size" "I"]
def wk_a95_Jx4a65c_add_9ea2d : List Cond := Cond.code yJx4a65c_add_9ea2d cJx4a65c_add_9ea2d 2 (some .boolean) :: (wo_a95_Jx4a65c_add_9ea2d ++ ((u_ws RJx4a65c TJx4a65c 3) ++ (wsV RJx4a65c 131 RJx4a65c yJx4a65c_add_72be8 wk_a94_Jx4a65c_add_72be8)))
theorem wo_a95_Jx4a65c_add_9ea2d_in : ∀ w ∈ wo_a95_Jx4a65c_add_9ea2d, w ∈ wk_a95_Jx4a65c_add_9ea2d := fun w h => List.mem_cons_of_mem _ (List.mem_append_left _ h)
theorem ws_a95_Jx4a65c_add_9ea2d_0 : ∀ w ∈ u_ws RJx4a65c TJx4a65c 3, w ∈ wk_a95_Jx4a65c_add_9ea2d := fun w h => List.mem_cons_of_mem _ (List.mem_append_right _ (List.mem_append_left _ h))
theorem gi_a95_Jx4a65c_add_9ea2d_1 : GoodIn wk_a95_Jx4a65c_add_9ea2d (wsV RJx4a65c 131 RJx4a65c yJx4a65c_add_72be8 wk_a94_Jx4a65c_add_72be8) := fun w h => ⟨List.mem_cons_of_mem _ (List.mem_append_right _ (List.mem_append_right _ h)), good_of_word (kg_V gk_a94_Jx4a65c_add_72be8 w h)⟩
theorem gk_a95_Jx4a65c_add_9ea2d : ∀ w ∈ wk_a95_Jx4a65c_add_9ea2d, goodWord w = true := List.forall_mem_cons.mpr ⟨rfl, (List.forall_mem_append.mpr ⟨(show ∀ w ∈ wo_a95_Jx4a65c_add_9ea2d, goodWord w = true by decide +kernel), (List.forall_mem_append.mpr ⟨(show ∀ w ∈ u_ws RJx4a65c TJx4a65c 3, goodWord w = true by decide +kernel), (kg_V gk_a94_Jx4a65c_add_72be8)⟩)⟩)⟩
set_option maxHeartbeats 4000000 in
set_option maxRecDepth 100000 in
theorem a95_Jx4a65c_add_9ea2d (l : Launch) (hst : l.stackTraces = false) (D : va_G) (e0 : kE) (q18 : Nat) (q59 : Nat) (q60 : Nat)  : kM l yJx4a65c_add_9ea2d wk_a95_Jx4a65c_add_9ea2d 4 95 1 10 D kStr e0 [] [(q18, .inr (4, [.int 0, .ref e0.1, .int 0])), (q59, .inr (13, [.int 2, .int 0, .int 0, .ref q60, .int 0]))] [.ref q18, .ref q59] (fun v w t => ∃ (q61 : Nat), ∃ (y62 : ClassId), v = some (.int 1) ∧ w = [(q18, .inr (4, [.int 1, .ref q61, .int 1])), (q59, .inr (13, [.int 2, .int 0, .int 0, .ref q60, .int 0])), (q61, .inl (y62, 10, .inr (.inr (.inr (.inr (va_up ((fun _ => none)) (0 : Int32).toNatClampNeg (some q59)))))))] ∧ t = [(y62, .object "java/lang/Object")]) (fun _ => False) := by
  refine k_of (cc := cJx4a65c_add_9ea2d) (maxL := 2) (ret := (some .boolean)) (by decide) rfl (Nat.le_of_ble_eq_true rfl) ?_
  intro p e s m args below meth c A ls hx hb hr hts hown hlocks hml hex hh hl
  have hown : s.vm.findClass RJx4a65c = some m.cls := hown
  have hl : lv_has ls 2 [(0, .ref q18), (1, .ref q59)] := hl
  refine lv_aload_n hx hb dJx4a65c_add_9ea2d_0 rfl (lv_at hl 0 rfl) ?_
  refine lv_dup hx hb dJx4a65c_add_9ea2d_1 rfl ?_
  refine k_getR (ref := "java/util/ArrayList") (C := RJx4a65c) (T := TJx4a65c) (N := 3) (ci := 4) (v := .int 0) hx hb hts ws_a95_Jx4a65c_add_9ea2d_0 hown hh 0 rfl rfl 0 (by decide) (hts _ (wo_a95_Jx4a65c_add_9ea2d_in _ (List.mem_of_getElem? (i := 1) rfl))) (u_same (hts _ (wo_a95_Jx4a65c_add_9ea2d_in _ (List.mem_of_getElem? (i := 0) rfl)))) rfl dJx4a65c_add_9ea2d_2 ?_
  refine lv_iconst (v := 1) hx hb dJx4a65c_add_9ea2d_5 (by decide) ?_
  refine lv_iadd hx hb dJx4a65c_add_9ea2d_6 ?_
  refine W.eq (g2 := F0 m 7 ls [.int 1, .ref q18]) (by first | rfl | decide) ?_
  refine k_putR (ref := "java/util/ArrayList") (C := RJx4a65c) (T := TJx4a65c) (N := 3) (ci := 4) (v := .int 1) (ws' := [(q18, .inr (4, [.int 1, .ref e0.1, .int 0])), (q59, .inr (13, [.int 2, .int 0, .int 0, .ref q60, .int 0]))]) hx hb hts ws_a95_Jx4a65c_add_9ea2d_0 tyJx4a65c tyJx4a65c_ok nmJx4a65c hown hh 0 rfl rfl 0 (by decide) (hts _ (wo_a95_Jx4a65c_add_9ea2d_in _ (List.mem_of_getElem? (i := 1) rfl))) (u_same (hts _ (wo_a95_Jx4a65c_add_9ea2d_in _ (List.mem_of_getElem? (i := 0) rfl)))) rfl rfl rfl (Nat.le_of_ble_eq_true rfl) dJx4a65c_add_9ea2d_7 rfl (fun H locs hh => ?_)
  refine lv_aload_n hx hb dJx4a65c_add_9ea2d_10 rfl (lv_at hl 0 rfl) ?_
  refine lv_aload_n hx hb dJx4a65c_add_9ea2d_11 rfl (lv_at hl 1 rfl) ?_
  refine lv_aload_n hx hb dJx4a65c_add_9ea2d_12 rfl (lv_at hl 0 rfl) ?_
  refine k_get (C := RJx4a65c) (T := TJx4a65c) (N := 3) (ci := 4) (v := .ref e0.1) hx hb hts ws_a95_Jx4a65c_add_9ea2d_0 hown hh 0 rfl rfl 1 (by decide) (hts _ (wo_a95_Jx4a65c_add_9ea2d_in _ (List.mem_of_getElem? (i := 2) rfl))) rfl dJx4a65c_add_9ea2d_13 ?_
  refine lv_aload_n hx hb dJx4a65c_add_9ea2d_16 rfl (lv_at hl 0 rfl) ?_
  refine k_get (C := RJx4a65c) (T := TJx4a65c) (N := 3) (ci := 4) (v := .int 0) hx hb hts ws_a95_Jx4a65c_add_9ea2d_0 hown hh 0 rfl rfl 2 (by decide) (hts _ (wo_a95_Jx4a65c_add_9ea2d_in _ (List.mem_of_getElem? (i := 3) rfl))) rfl dJx4a65c_add_9ea2d_17 ?_
  refine k_callV (C := RJx4a65c) (T := TJx4a65c) (N := 3) (ci := 4) (q0 := 0) (wr := []) (rest := []) (own := RJx4a65c) ⟨hx, hb, hml, hown, hts⟩ (a94_Jx4a65c_add_72be8 l hst D e0 q18 q59 q60 ) (cwV 3 hts gi_a95_Jx4a65c_add_9ea2d_1 rfl rfl rfl (by decide +kernel) ⟨Nat.le_of_ble_eq_true rfl, Nat.le_of_ble_eq_true rfl⟩) hh rfl rfl [0, 1] [] [] rfl rfl rfl rfl (by decide) rfl rfl hl rfl (Nat.le_of_ble_eq_true rfl) dJx4a65c_add_9ea2d_20 ⟨Nat.le_of_ble_eq_true rfl, (Nat.le_of_ble_eq_true rfl)⟩ (fun _ _ _ _ _ h => h.elim) (fun v w ty1 H locs hp hh => ?_)
  obtain ⟨q61, y62, rfl, rfl, rfl⟩ := hp
  have hh : kH D kStr e0 A s H [(q18, .inr (4, [.int 1, .ref q61, .int 1])), (q59, .inr (13, [.int 2, .int 0, .int 0, .ref q60, .int 0])), (q61, .inl (y62, 10, .inr (.inr (.inr (.inr (va_up ((fun _ => none)) (0 : Int32).toNatClampNeg (some q59)))))))] [(y62, .object "java/lang/Object")] _ := hh
  refine W.eq (g2 := F0 m 23 ls []) (by first | rfl | decide) ?_
  refine lv_iconst (v := 1) hx hb dJx4a65c_add_9ea2d_23 (by decide) ?_
  exact k_endz (ty := .boolean) (by decide) hx hb hr hlocks hh ⟨q61, y62, rfl, rfl, rfl⟩ [0, 1, 2] [0] rfl rfl rfl (Nat.le_of_ble_eq_true rfl) (Nat.le_of_ble_eq_true rfl) dJx4a65c_add_9ea2d_24
def wo_a96_X11_add : List Cond := [Cond.constantLong RX11 161 3000, Cond.constantLong RX11 163 100, Cond.fieldLink RX11 28 "SegueworksModel" "items" "Ljava/util/ArrayList;", Cond.fieldLink RX11 46 "SegueworksModel" "thrown" "I", Cond.classLink RX11 145 RX8, Cond.instantiable RX8 5, Cond.initialized RX8, Cond.methodLink RX11 165 yX8_init, Cond.instanceMethod yX8_init]
def wk_a96_X11_add : List Cond := Cond.code yX11_add cX11_add 4 (some .int) :: (wo_a96_X11_add ++ ((wsV RX11 108 RX11 yX11_noPiece wk_a84_X11_noPiece) ++ ((wsV RX11 157 RX11 yX11_program wk_a86_X11_program) ++ ((wsV RX11 104 RX11 yX11_rowOf wk_a91_X11_rowOf) ++ ((va_wsS RX11 54 yX11_in wk_a92_X11_in) ++ ((u_ws RX11 TX11 11) ++ ((wsV RX11 50 RJx4a65c yJx4a65c_size_8abf5 wk_a17_Jx4a65c_size_8abf5) ++ ((u_ws RX8 TX8 5) ++ ((wk_a93_X8_init) ++ ((wsV RX11 58 RJx4a65c yJx4a65c_add_9ea2d wk_a95_Jx4a65c_add_9ea2d) ++ (wsV RX11 50 RJx4a65c yJx4a65c_size_8abf5 wk_a23_Jx4a65c_size_8abf5)))))))))))
theorem wo_a96_X11_add_in : ∀ w ∈ wo_a96_X11_add, w ∈ wk_a96_X11_add := fun w h => List.mem_cons_of_mem _ (List.mem_append_left _ h)
theorem gi_a96_X11_add_0 : GoodIn wk_a96_X11_add (wsV RX11 108 RX11 yX11_noPiece wk_a84_X11_noPiece) := fun w h => ⟨List.mem_cons_of_mem _ (List.mem_append_right _ (List.mem_append_left _ h)), good_of_word (kg_V gk_a84_X11_noPiece w h)⟩
theorem gi_a96_X11_add_1 : GoodIn wk_a96_X11_add (wsV RX11 157 RX11 yX11_program wk_a86_X11_program) := fun w h => ⟨List.mem_cons_of_mem _ (List.mem_append_right _ (List.mem_append_right _ (List.mem_append_left _ h))), good_of_word (kg_V gk_a86_X11_program w h)⟩
theorem gi_a96_X11_add_2 : GoodIn wk_a96_X11_add (wsV RX11 104 RX11 yX11_rowOf wk_a91_X11_rowOf) := fun w h => ⟨List.mem_cons_of_mem _ (List.mem_append_right _ (List.mem_append_right _ (List.mem_append_right _ (List.mem_append_left _ h)))), good_of_word (kg_V gk_a91_X11_rowOf w h)⟩
theorem gi_a96_X11_add_3 : GoodIn wk_a96_X11_add (va_wsS RX11 54 yX11_in wk_a92_X11_in) := fun w h => ⟨List.mem_cons_of_mem _ (List.mem_append_right _ (List.mem_append_right _ (List.mem_append_right _ (List.mem_append_right _ (List.mem_append_left _ h))))), good_of_word (kg_S gk_a92_X11_in w h)⟩
theorem ws_a96_X11_add_4 : ∀ w ∈ u_ws RX11 TX11 11, w ∈ wk_a96_X11_add := fun w h => List.mem_cons_of_mem _ (List.mem_append_right _ (List.mem_append_right _ (List.mem_append_right _ (List.mem_append_right _ (List.mem_append_right _ (List.mem_append_left _ h))))))
theorem gi_a96_X11_add_5 : GoodIn wk_a96_X11_add (wsV RX11 50 RJx4a65c yJx4a65c_size_8abf5 wk_a17_Jx4a65c_size_8abf5) := fun w h => ⟨List.mem_cons_of_mem _ (List.mem_append_right _ (List.mem_append_right _ (List.mem_append_right _ (List.mem_append_right _ (List.mem_append_right _ (List.mem_append_right _ (List.mem_append_left _ h))))))), good_of_word (kg_V gk_a17_Jx4a65c_size_8abf5 w h)⟩
theorem ws_a96_X11_add_6 : ∀ w ∈ u_ws RX8 TX8 5, w ∈ wk_a96_X11_add := fun w h => List.mem_cons_of_mem _ (List.mem_append_right _ (List.mem_append_right _ (List.mem_append_right _ (List.mem_append_right _ (List.mem_append_right _ (List.mem_append_right _ (List.mem_append_right _ (List.mem_append_left _ h))))))))
theorem gi_a96_X11_add_7 : GoodIn wk_a96_X11_add (wk_a93_X8_init) := fun w h => ⟨List.mem_cons_of_mem _ (List.mem_append_right _ (List.mem_append_right _ (List.mem_append_right _ (List.mem_append_right _ (List.mem_append_right _ (List.mem_append_right _ (List.mem_append_right _ (List.mem_append_right _ (List.mem_append_left _ h))))))))), good_of_word (gk_a93_X8_init w h)⟩
theorem gi_a96_X11_add_8 : GoodIn wk_a96_X11_add (wsV RX11 58 RJx4a65c yJx4a65c_add_9ea2d wk_a95_Jx4a65c_add_9ea2d) := fun w h => ⟨List.mem_cons_of_mem _ (List.mem_append_right _ (List.mem_append_right _ (List.mem_append_right _ (List.mem_append_right _ (List.mem_append_right _ (List.mem_append_right _ (List.mem_append_right _ (List.mem_append_right _ (List.mem_append_right _ (List.mem_append_left _ h)))))))))), good_of_word (kg_V gk_a95_Jx4a65c_add_9ea2d w h)⟩
theorem gi_a96_X11_add_9 : GoodIn wk_a96_X11_add (wsV RX11 50 RJx4a65c yJx4a65c_size_8abf5 wk_a23_Jx4a65c_size_8abf5) := fun w h => ⟨List.mem_cons_of_mem _ (List.mem_append_right _ (List.mem_append_right _ (List.mem_append_right _ (List.mem_append_right _ (List.mem_append_right _ (List.mem_append_right _ (List.mem_append_right _ (List.mem_append_right _ (List.mem_append_right _ (List.mem_append_right _ h)))))))))), good_of_word (kg_V gk_a23_Jx4a65c_size_8abf5 w h)⟩
theorem gk_a96_X11_add : ∀ w ∈ wk_a96_X11_add, goodWord w = true := List.forall_mem_cons.mpr ⟨rfl, (List.forall_mem_append.mpr ⟨(show ∀ w ∈ wo_a96_X11_add, goodWord w = true by decide +kernel), (List.forall_mem_append.mpr ⟨(kg_V gk_a84_X11_noPiece), (List.forall_mem_append.mpr ⟨(kg_V gk_a86_X11_program), (List.forall_mem_append.mpr ⟨(kg_V gk_a91_X11_rowOf), (List.forall_mem_append.mpr ⟨(kg_S gk_a92_X11_in), (List.forall_mem_append.mpr ⟨(show ∀ w ∈ u_ws RX11 TX11 11, goodWord w = true by decide +kernel), (List.forall_mem_append.mpr ⟨(kg_V gk_a17_Jx4a65c_size_8abf5), (List.forall_mem_append.mpr ⟨(show ∀ w ∈ u_ws RX8 TX8 5, goodWord w = true by decide +kernel), (List.forall_mem_append.mpr ⟨gk_a93_X8_init, (List.forall_mem_append.mpr ⟨(kg_V gk_a95_Jx4a65c_add_9ea2d), (kg_V gk_a23_Jx4a65c_size_8abf5)⟩)⟩)⟩)⟩)⟩)⟩)⟩)⟩)⟩)⟩)⟩
set_option maxHeartbeats 4000000 in
set_option maxRecDepth 100000 in
theorem a96_X11_add (l : Launch) (hst : l.stackTraces = false) (D : va_G) (e0 : kE) (q15 : Nat) (q16 : Nat) (q17 : Nat) (q18 : Nat) (q19 : Nat) (q20 : Nat) (q21 : Nat) (q22 : Nat) (q23 : Nat) (q33 : Nat) (y34 : ClassId) (q35 : Nat) (q43 : Nat) (q51 : Nat) (q52 : Nat) (y53 : ClassId)  : kM l yX11_add wk_a96_X11_add 5 116 4 23 D kStr e0 [(y34, .object "java/lang/Object"), (y53, .int)] [(q15, .inr (16, [.int 0, .ref q16, .ref q17, .ref q18, .ref q19, .ref q20, .ref q21, .ref q22, .ref q23, .int 0, .int 0])), (q17, .inr (4, [.int 3, .ref q33, .int 3])), (q18, .inr (4, [.int 0, .ref e0.1, .int 0])), (q33, .inl (y34, 10, .inr (.inr (.inr (.inr (va_up ((va_up ((va_up ((fun _ => none)) (0 : Int32).toNatClampNeg (some q35))) (1 : Int32).toNatClampNeg (some q43))) (2 : Int32).toNatClampNeg (some q51))))))), (q51, .inr (14, [.int 120, .ref q52])), (q52, .inl (y53, 748, .inl (fun _ => 0)))] [.ref q15, .int 2, .int 0] (fun v w t => ∃ (q61 : Nat), ∃ (y62 : ClassId), ∃ (q59 : Nat), ∃ (q60 : Nat), v = some (.int 0) ∧ w = [(q15, .inr (16, [.int 0, .ref q16, .ref q17, .ref q18, .ref q19, .ref q20, .ref q21, .ref q22, .ref q23, .int 0, .int 0])), (q17, .inr (4, [.int 3, .ref q33, .int 3])), (q18, .inr (4, [.int 1, .ref q61, .int 1])), (q33, .inl (y34, 10, .inr (.inr (.inr (.inr (va_up ((va_up ((va_up ((fun _ => none)) (0 : Int32).toNatClampNeg (some q35))) (1 : Int32).toNatClampNeg (some q43))) (2 : Int32).toNatClampNeg (some q51))))))), (q51, .inr (14, [.int 120, .ref q52])), (q52, .inl (y53, 748, .inl (fun _ => 0))), (q61, .inl (y62, 10, .inr (.inr (.inr (.inr (va_up ((fun _ => none)) (0 : Int32).toNatClampNeg (some q59))))))), (q59, .inr (13, [.int 2, .int 0, .int 0, .ref q60, .int 0]))] ∧ t = [(y34, .object "java/lang/Object"), (y53, .int), (y62, .object "java/lang/Object")]) (fun _ => False) := by
  refine k_of (cc := cX11_add) (maxL := 4) (ret := (some .int)) (by decide) rfl (Nat.le_of_ble_eq_true rfl) ?_
  intro p e s m args below meth c A ls hx hb hr hts hown hlocks hml hex hh hl
  have hown : s.vm.findClass RX11 = some m.cls := hown
  have hl : lv_has ls 4 [(0, .ref q15), (1, .int 2), (2, .int 0)] := hl
  refine lv_aload_n hx hb dX11_add_0 rfl (lv_at hl 0 rfl) ?_
  refine lv_iload_n hx hb dX11_add_1 rfl (lv_at hl 1 rfl) ?_
  refine k_callV (C := RX11) (T := TX11) (N := 11) (ci := 16) (q0 := 0) (wr := [(q18, .inr (4, [.int 0, .ref e0.1, .int 0])), (q33, .inl (y34, 10, .inr (.inr (.inr (.inr (va_up ((va_up ((va_up ((fun _ => none)) (0 : Int32).toNatClampNeg (some q35))) (1 : Int32).toNatClampNeg (some q43))) (2 : Int32).toNatClampNeg (some q51))))))), (q51, .inr (14, [.int 120, .ref q52])), (q52, .inl (y53, 748, .inl (fun _ => 0)))]) (rest := []) (own := RX11) ⟨hx, hb, hml, hown, hts⟩ (a84_X11_noPiece l hst D e0 q15 q16 q17 q18 q19 q20 q21 q22 q23 q33 ) (cwV 1 hts gi_a96_X11_add_0 rfl rfl rfl (by decide +kernel) ⟨Nat.le_of_ble_eq_true rfl, Nat.le_of_ble_eq_true rfl⟩) hh rfl rfl [0, 1] [2, 3, 4, 5] [] rfl rfl rfl rfl (by decide) rfl rfl hl rfl (Nat.le_of_ble_eq_true rfl) dX11_add_2 ⟨Nat.le_of_ble_eq_true rfl, (Nat.le_of_ble_eq_true rfl)⟩ (fun _ _ _ _ _ h => h.elim) (fun v w ty1 H locs hp hh => ?_)
  obtain ⟨rfl, rfl, rfl⟩ := hp
  have hh : kH D kStr e0 A s H [(q18, .inr (4, [.int 0, .ref e0.1, .int 0])), (q33, .inl (y34, 10, .inr (.inr (.inr (.inr (va_up ((va_up ((va_up ((fun _ => none)) (0 : Int32).toNatClampNeg (some q35))) (1 : Int32).toNatClampNeg (some q43))) (2 : Int32).toNatClampNeg (some q51))))))), (q51, .inr (14, [.int 120, .ref q52])), (q52, .inl (y53, 748, .inl (fun _ => 0))), (q15, .inr (16, [.int 0, .ref q16, .ref q17, .ref q18, .ref q19, .ref q20, .ref q21, .ref q22, .ref q23, .int 0, .int 0])), (q17, .inr (4, [.int 3, .ref q33, .int 3]))] [(y34, .object "java/lang/Object"), (y53, .int)] _ := hh
  refine W.eq (g2 := F0 m 5 ls [.int 0]) (by first | rfl | decide) ?_
  refine lv_if_eq (tgt := 10) hx hb dX11_add_5 (by decide) (fun _ => ?_) (fun c_5 => absurd (by decide) c_5)
  refine lv_aload_n hx hb dX11_add_10 rfl (lv_at hl 0 rfl) ?_
  refine k_callV (C := RX11) (T := TX11) (N := 11) (ci := 16) (q0 := 4) (wr := [(q33, .inl (y34, 10, .inr (.inr (.inr (.inr (va_up ((va_up ((va_up ((fun _ => none)) (0 : Int32).toNatClampNeg (some q35))) (1 : Int32).toNatClampNeg (some q43))) (2 : Int32).toNatClampNeg (some q51))))))), (q51, .inr (14, [.int 120, .ref q52])), (q52, .inl (y53, 748, .inl (fun _ => 0))), (q17, .inr (4, [.int 3, .ref q33, .int 3]))]) (rest := []) (own := RX11) ⟨hx, hb, hml, hown, hts⟩ (a86_X11_program l hst D e0 q15 q16 q17 q18 q19 q20 q21 q22 q23 ) (cwV 0 hts gi_a96_X11_add_1 rfl rfl rfl (by decide +kernel) ⟨Nat.le_of_ble_eq_true rfl, Nat.le_of_ble_eq_true rfl⟩) hh rfl rfl [4, 0] [1, 2, 3, 5] [] rfl rfl rfl rfl (by decide) rfl rfl hl rfl (Nat.le_of_ble_eq_true rfl) dX11_add_11 ⟨Nat.le_of_ble_eq_true rfl, (Nat.le_of_ble_eq_true rfl)⟩ (fun _ _ _ _ _ h => h.elim) (fun v w ty1 H locs hp hh => ?_)
  obtain ⟨q57, y58, rfl, rfl, rfl⟩ := hp
  have hh : kH D kStr e0 A s H [(q33, .inl (y34, 10, .inr (.inr (.inr (.inr (va_up ((va_up ((va_up ((fun _ => none)) (0 : Int32).toNatClampNeg (some q35))) (1 : Int32).toNatClampNeg (some q43))) (2 : Int32).toNatClampNeg (some q51))))))), (q51, .inr (14, [.int 120, .ref q52])), (q52, .inl (y53, 748, .inl (fun _ => 0))), (q17, .inr (4, [.int 3, .ref q33, .int 3])), (q15, .inr (16, [.int 0, .ref q16, .ref q17, .ref q18, .ref q19, .ref q20, .ref q21, .ref q22, .ref q23, .int 0, .int 0])), (q18, .inr (4, [.int 0, .ref e0.1, .int 0])), (q57, .inl (y58, 0, .inl (fun _ => 0)))] [(y34, .object "java/lang/Object"), (y53, .int), (y58, .int)] _ := hh
  refine W.eq (g2 := F0 m 14 ls [.ref q57]) (by first | rfl | decide) ?_
  refine k_alen (v := 0) hx hb hh 6 2 rfl rfl rfl dX11_add_14 ?_
  refine lv_i2l (v := 0) hx hb dX11_add_15 (by decide) ?_
  refine lv_iload_n hx hb dX11_add_16 rfl (lv_at hl 2 rfl) ?_
  refine lv_i2l (v := 0) hx hb dX11_add_17 (by decide) ?_
  refine lv_ladd hx hb dX11_add_18 ?_
  refine W.eq (g2 := F0 m 19 ls [.long 0]) (by first | rfl | decide) ?_
  refine lv_aload_n hx hb dX11_add_19 rfl (lv_at hl 0 rfl) ?_
  refine lv_iload_n hx hb dX11_add_20 rfl (lv_at hl 1 rfl) ?_
  refine k_callV (C := RX11) (T := TX11) (N := 11) (ci := 16) (q0 := 4) (wr := [(q52, .inl (y53, 748, .inl (fun _ => 0))), (q18, .inr (4, [.int 0, .ref e0.1, .int 0])), (q57, .inl (y58, 0, .inl (fun _ => 0)))]) (rest := [.long 0]) (own := RX11) ⟨hx, hb, hml, hown, hts⟩ (a91_X11_rowOf l hst D e0 q15 q16 q17 q18 q19 q20 q21 q22 q23 q33 y34 q35 q43 q51 q52 ) (cwV 1 hts gi_a96_X11_add_2 rfl rfl rfl (by decide +kernel) ⟨Nat.le_of_ble_eq_true rfl, Nat.le_of_ble_eq_true rfl⟩) hh rfl rfl [4, 3, 0, 1] [2, 5, 6] [0] rfl rfl rfl rfl (by decide) rfl rfl hl rfl (Nat.le_of_ble_eq_true rfl) dX11_add_21 ⟨Nat.le_of_ble_eq_true rfl, (Nat.le_of_ble_eq_true rfl)⟩ (fun _ _ _ _ _ h => h.elim) (fun v w ty1 H locs hp hh => ?_)
  obtain ⟨rfl, rfl, rfl⟩ := hp
  have hh : kH D kStr e0 A s H [(q52, .inl (y53, 748, .inl (fun _ => 0))), (q18, .inr (4, [.int 0, .ref e0.1, .int 0])), (q57, .inl (y58, 0, .inl (fun _ => 0))), (q15, .inr (16, [.int 0, .ref q16, .ref q17, .ref q18, .ref q19, .ref q20, .ref q21, .ref q22, .ref q23, .int 0, .int 0])), (q17, .inr (4, [.int 3, .ref q33, .int 3])), (q33, .inl (y34, 10, .inr (.inr (.inr (.inr (va_up ((va_up ((va_up ((fun _ => none)) (0 : Int32).toNatClampNeg (some q35))) (1 : Int32).toNatClampNeg (some q43))) (2 : Int32).toNatClampNeg (some q51))))))), (q51, .inr (14, [.int 120, .ref q52]))] [(y34, .object "java/lang/Object"), (y53, .int), (y58, .int), (y34, .object "java/lang/Object")] _ := hh
  refine W.eq (g2 := F0 m 24 ls [.ref q52, .long 0]) (by first | rfl | decide) ?_
  refine k_alen (v := 748) hx hb hh 0 1 rfl rfl rfl dX11_add_24 ?_
  refine lv_i2l (v := 748) hx hb dX11_add_25 (by decide) ?_
  refine lv_ladd hx hb dX11_add_26 ?_
  refine W.eq (g2 := F0 m 27 ls [.long 748]) (by first | rfl | decide) ?_
  refine lv_ldc2 (v := 3000) hx hb hown (hts _ (wo_a96_X11_add_in _ (List.mem_of_getElem? (i := 0) rfl))) dX11_add_27 ?_
  refine W.lcmp hx hb dX11_add_30 ?_
  refine W.eq (g2 := F0 m 31 ls [.int (-1)]) (by rw [show lg_cmp (748 : Int64) (3000 : Int64) = (-1) from by decide]) ?_
  refine lv_if_le (tgt := 38) hx hb dX11_add_31 (by decide) (fun _ => ?_) (fun c_31 => absurd (by decide) c_31)
  refine lv_iconst (v := 0) hx hb dX11_add_38 (by decide) ?_
  refine lv_istore_n (lv' := [(3, .int 0), (0, .ref q15), (1, .int 2), (2, .int 0)]) hx hb dX11_add_39 rfl hl (by decide) rfl (fun ls hl => ?_)
  refine lv_aload_n hx hb dX11_add_40 rfl (lv_at hl 1 rfl) ?_
  refine lv_iload_n hx hb dX11_add_41 rfl (lv_at hl 3 rfl) ?_
  refine lv_i2l (v := 0) hx hb dX11_add_42 (by decide) ?_
  refine lv_lconst (v := 0) hx hb dX11_add_43 (by decide) ?_
  refine lv_ldc2 (v := 100) hx hb hown (hts _ (wo_a96_X11_add_in _ (List.mem_of_getElem? (i := 1) rfl))) dX11_add_44 ?_
  refine k_callS (wr := [(q52, .inl (y53, 748, .inl (fun _ => 0))), (q18, .inr (4, [.int 0, .ref e0.1, .int 0])), (q57, .inl (y58, 0, .inl (fun _ => 0))), (q15, .inr (16, [.int 0, .ref q16, .ref q17, .ref q18, .ref q19, .ref q20, .ref q21, .ref q22, .ref q23, .int 0, .int 0])), (q17, .inr (4, [.int 3, .ref q33, .int 3])), (q33, .inl (y34, 10, .inr (.inr (.inr (.inr (va_up ((va_up ((va_up ((fun _ => none)) (0 : Int32).toNatClampNeg (some q35))) (1 : Int32).toNatClampNeg (some q43))) (2 : Int32).toNatClampNeg (some q51))))))), (q51, .inr (14, [.int 120, .ref q52]))]) (rest := [.ref q15]) (own := RX11) ⟨hx, hb, hml, hown, hts⟩ (a92_X11_in l hst D e0  ) (va_cwS 3 hts gi_a96_X11_add_3 rfl rfl rfl (by decide +kernel) ⟨Nat.le_of_ble_eq_true rfl, Nat.le_of_ble_eq_true rfl⟩) hh [] [0, 1, 2, 3, 4, 5, 6] [] rfl rfl rfl rfl (by decide) rfl rfl hl rfl (Nat.le_of_ble_eq_true rfl) dX11_add_47 ⟨Nat.le_of_ble_eq_true rfl, (Nat.le_of_ble_eq_true rfl)⟩ (fun _ _ _ _ _ h => h.elim) (fun v w ty1 H locs hp hh => ?_)
  obtain ⟨rfl, rfl, rfl⟩ := hp
  have hh : kH D kStr e0 A s H [(q52, .inl (y53, 748, .inl (fun _ => 0))), (q18, .inr (4, [.int 0, .ref e0.1, .int 0])), (q57, .inl (y58, 0, .inl (fun _ => 0))), (q15, .inr (16, [.int 0, .ref q16, .ref q17, .ref q18, .ref q19, .ref q20, .ref q21, .ref q22, .ref q23, .int 0, .int 0])), (q17, .inr (4, [.int 3, .ref q33, .int 3])), (q33, .inl (y34, 10, .inr (.inr (.inr (.inr (va_up ((va_up ((va_up ((fun _ => none)) (0 : Int32).toNatClampNeg (some q35))) (1 : Int32).toNatClampNeg (some q43))) (2 : Int32).toNatClampNeg (some q51))))))), (q51, .inr (14, [.int 120, .ref q52]))] [(y34, .object "java/lang/Object"), (y53, .int), (y58, .int), (y34, .object "java/lang/Object")] _ := hh
  refine W.eq (g2 := F0 m 50 ls [.int 1, .ref q15]) (by first | rfl | decide) ?_
  refine lv_if_ne (tgt := 57) hx hb dX11_add_50 (by decide) (fun _ => ?_) (fun c_50 => absurd c_50 (by decide))
  refine lv_iload_n hx hb dX11_add_57 rfl (lv_at hl 0 rfl) ?_
  refine lv_if_eq (tgt := 65) hx hb dX11_add_58 (by decide) (fun _ => ?_) (fun c_58 => absurd (by decide) c_58)
  refine lv_aload_n hx hb dX11_add_65 rfl (lv_at hl 1 rfl) ?_
  refine k_get (C := RX11) (T := TX11) (N := 11) (ci := 16) (v := .ref q18) hx hb hts ws_a96_X11_add_4 hown hh 3 rfl rfl 3 (by decide) (hts _ (wo_a96_X11_add_in _ (List.mem_of_getElem? (i := 2) rfl))) rfl dX11_add_66 ?_
  refine k_callV (C := RJx4a65c) (T := TJx4a65c) (N := 3) (ci := 4) (q0 := 1) (wr := [(q52, .inl (y53, 748, .inl (fun _ => 0))), (q57, .inl (y58, 0, .inl (fun _ => 0))), (q15, .inr (16, [.int 0, .ref q16, .ref q17, .ref q18, .ref q19, .ref q20, .ref q21, .ref q22, .ref q23, .int 0, .int 0])), (q17, .inr (4, [.int 3, .ref q33, .int 3])), (q33, .inl (y34, 10, .inr (.inr (.inr (.inr (va_up ((va_up ((va_up ((fun _ => none)) (0 : Int32).toNatClampNeg (some q35))) (1 : Int32).toNatClampNeg (some q43))) (2 : Int32).toNatClampNeg (some q51))))))), (q51, .inr (14, [.int 120, .ref q52]))]) (rest := [.ref q15]) (own := RX11) ⟨hx, hb, hml, hown, hts⟩ (a17_Jx4a65c_size_8abf5 l hst D e0 q18 ) (cwV 0 hts gi_a96_X11_add_5 rfl rfl rfl (by decide +kernel) ⟨Nat.le_of_ble_eq_true rfl, Nat.le_of_ble_eq_true rfl⟩) hh rfl rfl [1] [0, 2, 3, 4, 5, 6] [] rfl rfl rfl rfl (by decide) rfl rfl hl rfl (Nat.le_of_ble_eq_true rfl) dX11_add_69 ⟨Nat.le_of_ble_eq_true rfl, (Nat.le_of_ble_eq_true rfl)⟩ (fun _ _ _ _ _ h => h.elim) (fun v w ty1 H locs hp hh => ?_)
  obtain ⟨rfl, rfl, rfl⟩ := hp
  have hh : kH D kStr e0 A s H [(q52, .inl (y53, 748, .inl (fun _ => 0))), (q57, .inl (y58, 0, .inl (fun _ => 0))), (q15, .inr (16, [.int 0, .ref q16, .ref q17, .ref q18, .ref q19, .ref q20, .ref q21, .ref q22, .ref q23, .int 0, .int 0])), (q17, .inr (4, [.int 3, .ref q33, .int 3])), (q33, .inl (y34, 10, .inr (.inr (.inr (.inr (va_up ((va_up ((va_up ((fun _ => none)) (0 : Int32).toNatClampNeg (some q35))) (1 : Int32).toNatClampNeg (some q43))) (2 : Int32).toNatClampNeg (some q51))))))), (q51, .inr (14, [.int 120, .ref q52])), (q18, .inr (4, [.int 0, .ref e0.1, .int 0]))] [(y34, .object "java/lang/Object"), (y53, .int), (y58, .int), (y34, .object "java/lang/Object")] _ := hh
  refine W.eq (g2 := F0 m 72 ls [.int 0, .ref q15]) (by first | rfl | decide) ?_
  refine lv_bipush (v := 12) hx hb dX11_add_72 (by decide) ?_
  refine lv_icmp_ne (tgt := 81) hx hb dX11_add_74 (by decide) (fun _ => ?_) (fun c_74 => absurd c_74 (by decide))
  refine lv_iconst (v := 0) hx hb dX11_add_81 (by decide) ?_
  refine k_put (C := RX11) (T := TX11) (N := 11) (ci := 16) (v := .int 0) (ws' := [(q52, .inl (y53, 748, .inl (fun _ => 0))), (q57, .inl (y58, 0, .inl (fun _ => 0))), (q15, .inr (16, [.int 0, .ref q16, .ref q17, .ref q18, .ref q19, .ref q20, .ref q21, .ref q22, .ref q23, .int 0, .int 0])), (q17, .inr (4, [.int 3, .ref q33, .int 3])), (q33, .inl (y34, 10, .inr (.inr (.inr (.inr (va_up ((va_up ((va_up ((fun _ => none)) (0 : Int32).toNatClampNeg (some q35))) (1 : Int32).toNatClampNeg (some q43))) (2 : Int32).toNatClampNeg (some q51))))))), (q51, .inr (14, [.int 120, .ref q52])), (q18, .inr (4, [.int 0, .ref e0.1, .int 0]))]) hx hb hts ws_a96_X11_add_4 tyX11 tyX11_ok nmX11 hown hh 2 rfl rfl 0 (by decide) (hts _ (wo_a96_X11_add_in _ (List.mem_of_getElem? (i := 3) rfl))) rfl rfl rfl (Nat.le_of_ble_eq_true rfl) dX11_add_82 rfl (fun H locs hh => ?_)
  refine lv_aload_n hx hb dX11_add_85 rfl (lv_at hl 1 rfl) ?_
  refine k_get (C := RX11) (T := TX11) (N := 11) (ci := 16) (v := .int 0) hx hb hts ws_a96_X11_add_4 hown hh 2 rfl rfl 0 (by decide) (hts _ (wo_a96_X11_add_in _ (List.mem_of_getElem? (i := 3) rfl))) rfl dX11_add_86 ?_
  refine lv_if_le (tgt := 94) hx hb dX11_add_89 (by decide) (fun _ => ?_) (fun c_89 => absurd (by decide) c_89)
  refine lv_aload_n hx hb dX11_add_94 rfl (lv_at hl 1 rfl) ?_
  refine k_get (C := RX11) (T := TX11) (N := 11) (ci := 16) (v := .ref q18) hx hb hts ws_a96_X11_add_4 hown hh 2 rfl rfl 3 (by decide) (hts _ (wo_a96_X11_add_in _ (List.mem_of_getElem? (i := 2) rfl))) rfl dX11_add_95 ?_
  refine k_new (C := RX8) (T := TX8) (N := 5) (ci := 13) (fs := [.int 0, .int 0, .int 0, .null, .int 0]) hx hb hts ws_a96_X11_add_6 tyX8 tyX8_ok hown (hts _ (wo_a96_X11_add_in _ (List.mem_of_getElem? (i := 4) rfl))) (hts _ (wo_a96_X11_add_in _ (List.mem_of_getElem? (i := 5) rfl))) (hts _ (wo_a96_X11_add_in _ (List.mem_of_getElem? (i := 6) rfl))) hh rfl (fun j hj => by rcases (show j = 0 ∨ j = 1 ∨ j = 2 ∨ j = 3 ∨ j = 4 by omega) with rfl | rfl | rfl | rfl | rfl <;> rfl) (Nat.le_of_ble_eq_true rfl) (Nat.le_of_ble_eq_true rfl) dX11_add_98 (fun q59 H hh => ?_)
  have hh : kH D kStr e0 A s H [(q52, .inl (y53, 748, .inl (fun _ => 0))), (q57, .inl (y58, 0, .inl (fun _ => 0))), (q15, .inr (16, [.int 0, .ref q16, .ref q17, .ref q18, .ref q19, .ref q20, .ref q21, .ref q22, .ref q23, .int 0, .int 0])), (q17, .inr (4, [.int 3, .ref q33, .int 3])), (q33, .inl (y34, 10, .inr (.inr (.inr (.inr (va_up ((va_up ((va_up ((fun _ => none)) (0 : Int32).toNatClampNeg (some q35))) (1 : Int32).toNatClampNeg (some q43))) (2 : Int32).toNatClampNeg (some q51))))))), (q51, .inr (14, [.int 120, .ref q52])), (q18, .inr (4, [.int 0, .ref e0.1, .int 0])), (q59, .inr (13, [.int 0, .int 0, .int 0, .null, .int 0]))] [(y34, .object "java/lang/Object"), (y53, .int), (y58, .int), (y34, .object "java/lang/Object")] _ := hh
  refine lv_dup hx hb dX11_add_101 rfl ?_
  refine lv_iload_n hx hb dX11_add_102 rfl (lv_at hl 2 rfl) ?_
  refine lv_iload_n hx hb dX11_add_103 rfl (lv_at hl 3 rfl) ?_
  refine k_callI (wr := [(q52, .inl (y53, 748, .inl (fun _ => 0))), (q57, .inl (y58, 0, .inl (fun _ => 0))), (q15, .inr (16, [.int 0, .ref q16, .ref q17, .ref q18, .ref q19, .ref q20, .ref q21, .ref q22, .ref q23, .int 0, .int 0])), (q17, .inr (4, [.int 3, .ref q33, .int 3])), (q33, .inl (y34, 10, .inr (.inr (.inr (.inr (va_up ((va_up ((va_up ((fun _ => none)) (0 : Int32).toNatClampNeg (some q35))) (1 : Int32).toNatClampNeg (some q43))) (2 : Int32).toNatClampNeg (some q51))))))), (q51, .inr (14, [.int 120, .ref q52])), (q18, .inr (4, [.int 0, .ref e0.1, .int 0]))]) (rest := [.ref q59, .ref q18]) (own := RX11) ⟨hx, hb, hml, hown, hts⟩ (a93_X8_init l hst D e0 q59 ) (cwI 2 hts gi_a96_X11_add_7 rfl rfl rfl (hts _ (wo_a96_X11_add_in _ (List.mem_of_getElem? (i := 6) rfl))) (hts _ (wo_a96_X11_add_in _ (List.mem_of_getElem? (i := 7) rfl))) (hts _ (wo_a96_X11_add_in _ (List.mem_of_getElem? (i := 8) rfl))) rfl (by decide +kernel) ⟨Nat.le_of_ble_eq_true rfl, Nat.le_of_ble_eq_true rfl⟩) hh [7] [0, 1, 2, 3, 4, 5, 6] [] rfl rfl rfl rfl (by decide) rfl rfl hl rfl (Nat.le_of_ble_eq_true rfl) dX11_add_104 ⟨Nat.le_of_ble_eq_true rfl, (Nat.le_of_ble_eq_true rfl)⟩ (fun v w ty1 H locs hp hh => ?_)
  obtain ⟨q60, rfl, rfl, rfl⟩ := hp
  have hh : kH D kStr e0 A s H [(q52, .inl (y53, 748, .inl (fun _ => 0))), (q57, .inl (y58, 0, .inl (fun _ => 0))), (q15, .inr (16, [.int 0, .ref q16, .ref q17, .ref q18, .ref q19, .ref q20, .ref q21, .ref q22, .ref q23, .int 0, .int 0])), (q17, .inr (4, [.int 3, .ref q33, .int 3])), (q33, .inl (y34, 10, .inr (.inr (.inr (.inr (va_up ((va_up ((va_up ((fun _ => none)) (0 : Int32).toNatClampNeg (some q35))) (1 : Int32).toNatClampNeg (some q43))) (2 : Int32).toNatClampNeg (some q51))))))), (q51, .inr (14, [.int 120, .ref q52])), (q18, .inr (4, [.int 0, .ref e0.1, .int 0])), (q59, .inr (13, [.int 2, .int 0, .int 0, .ref q60, .int 0]))] [(y34, .object "java/lang/Object"), (y53, .int), (y58, .int), (y34, .object "java/lang/Object")] _ := hh
  refine W.eq (g2 := F0 m 107 ls [.ref q59, .ref q18]) (by first | rfl | decide) ?_
  refine k_callV (C := RJx4a65c) (T := TJx4a65c) (N := 3) (ci := 4) (q0 := 6) (wr := [(q52, .inl (y53, 748, .inl (fun _ => 0))), (q57, .inl (y58, 0, .inl (fun _ => 0))), (q15, .inr (16, [.int 0, .ref q16, .ref q17, .ref q18, .ref q19, .ref q20, .ref q21, .ref q22, .ref q23, .int 0, .int 0])), (q17, .inr (4, [.int 3, .ref q33, .int 3])), (q33, .inl (y34, 10, .inr (.inr (.inr (.inr (va_up ((va_up ((va_up ((fun _ => none)) (0 : Int32).toNatClampNeg (some q35))) (1 : Int32).toNatClampNeg (some q43))) (2 : Int32).toNatClampNeg (some q51))))))), (q51, .inr (14, [.int 120, .ref q52]))]) (rest := []) (own := RX11) ⟨hx, hb, hml, hown, hts⟩ (a95_Jx4a65c_add_9ea2d l hst D e0 q18 q59 q60 ) (cwV 1 hts gi_a96_X11_add_8 rfl rfl rfl (by decide +kernel) ⟨Nat.le_of_ble_eq_true rfl, Nat.le_of_ble_eq_true rfl⟩) hh rfl rfl [6, 7] [0, 1, 2, 3, 4, 5] [] rfl rfl rfl rfl (by decide) rfl rfl hl rfl (Nat.le_of_ble_eq_true rfl) dX11_add_107 ⟨Nat.le_of_ble_eq_true rfl, (Nat.le_of_ble_eq_true rfl)⟩ (fun _ _ _ _ _ h => h.elim) (fun v w ty1 H locs hp hh => ?_)
  obtain ⟨q61, y62, rfl, rfl, rfl⟩ := hp
  have hh : kH D kStr e0 A s H [(q52, .inl (y53, 748, .inl (fun _ => 0))), (q57, .inl (y58, 0, .inl (fun _ => 0))), (q15, .inr (16, [.int 0, .ref q16, .ref q17, .ref q18, .ref q19, .ref q20, .ref q21, .ref q22, .ref q23, .int 0, .int 0])), (q17, .inr (4, [.int 3, .ref q33, .int 3])), (q33, .inl (y34, 10, .inr (.inr (.inr (.inr (va_up ((va_up ((va_up ((fun _ => none)) (0 : Int32).toNatClampNeg (some q35))) (1 : Int32).toNatClampNeg (some q43))) (2 : Int32).toNatClampNeg (some q51))))))), (q51, .inr (14, [.int 120, .ref q52])), (q18, .inr (4, [.int 1, .ref q61, .int 1])), (q59, .inr (13, [.int 2, .int 0, .int 0, .ref q60, .int 0])), (q61, .inl (y62, 10, .inr (.inr (.inr (.inr (va_up ((fun _ => none)) (0 : Int32).toNatClampNeg (some q59)))))))] [(y34, .object "java/lang/Object"), (y53, .int), (y58, .int), (y34, .object "java/lang/Object"), (y62, .object "java/lang/Object")] _ := hh
  refine W.eq (g2 := F0 m 110 ls [.int 1]) (by first | rfl | decide) ?_
  refine lv_pop hx hb dX11_add_110 rfl ?_
  refine lv_aload_n hx hb dX11_add_111 rfl (lv_at hl 1 rfl) ?_
  refine k_get (C := RX11) (T := TX11) (N := 11) (ci := 16) (v := .ref q18) hx hb hts ws_a96_X11_add_4 hown hh 2 rfl rfl 3 (by decide) (hts _ (wo_a96_X11_add_in _ (List.mem_of_getElem? (i := 2) rfl))) rfl dX11_add_112 ?_
  refine k_callV (C := RJx4a65c) (T := TJx4a65c) (N := 3) (ci := 4) (q0 := 6) (wr := [(q52, .inl (y53, 748, .inl (fun _ => 0))), (q57, .inl (y58, 0, .inl (fun _ => 0))), (q15, .inr (16, [.int 0, .ref q16, .ref q17, .ref q18, .ref q19, .ref q20, .ref q21, .ref q22, .ref q23, .int 0, .int 0])), (q17, .inr (4, [.int 3, .ref q33, .int 3])), (q33, .inl (y34, 10, .inr (.inr (.inr (.inr (va_up ((va_up ((va_up ((fun _ => none)) (0 : Int32).toNatClampNeg (some q35))) (1 : Int32).toNatClampNeg (some q43))) (2 : Int32).toNatClampNeg (some q51))))))), (q51, .inr (14, [.int 120, .ref q52])), (q59, .inr (13, [.int 2, .int 0, .int 0, .ref q60, .int 0])), (q61, .inl (y62, 10, .inr (.inr (.inr (.inr (va_up ((fun _ => none)) (0 : Int32).toNatClampNeg (some q59)))))))]) (rest := []) (own := RX11) ⟨hx, hb, hml, hown, hts⟩ (a23_Jx4a65c_size_8abf5 l hst D e0 q18 q61 ) (cwV 0 hts gi_a96_X11_add_9 rfl rfl rfl (by decide +kernel) ⟨Nat.le_of_ble_eq_true rfl, Nat.le_of_ble_eq_true rfl⟩) hh rfl rfl [6] [0, 1, 2, 3, 4, 5, 7, 8] [] rfl rfl rfl rfl (by decide) rfl rfl hl rfl (Nat.le_of_ble_eq_true rfl) dX11_add_115 ⟨Nat.le_of_ble_eq_true rfl, (Nat.le_of_ble_eq_true rfl)⟩ (fun _ _ _ _ _ h => h.elim) (fun v w ty1 H locs hp hh => ?_)
  obtain ⟨rfl, rfl, rfl⟩ := hp
  have hh : kH D kStr e0 A s H [(q52, .inl (y53, 748, .inl (fun _ => 0))), (q57, .inl (y58, 0, .inl (fun _ => 0))), (q15, .inr (16, [.int 0, .ref q16, .ref q17, .ref q18, .ref q19, .ref q20, .ref q21, .ref q22, .ref q23, .int 0, .int 0])), (q17, .inr (4, [.int 3, .ref q33, .int 3])), (q33, .inl (y34, 10, .inr (.inr (.inr (.inr (va_up ((va_up ((va_up ((fun _ => none)) (0 : Int32).toNatClampNeg (some q35))) (1 : Int32).toNatClampNeg (some q43))) (2 : Int32).toNatClampNeg (some q51))))))), (q51, .inr (14, [.int 120, .ref q52])), (q59, .inr (13, [.int 2, .int 0, .int 0, .ref q60, .int 0])), (q61, .inl (y62, 10, .inr (.inr (.inr (.inr (va_up ((fun _ => none)) (0 : Int32).toNatClampNeg (some q59))))))), (q18, .inr (4, [.int 1, .ref q61, .int 1]))] [(y34, .object "java/lang/Object"), (y53, .int), (y58, .int), (y34, .object "java/lang/Object"), (y62, .object "java/lang/Object")] _ := hh
  refine W.eq (g2 := F0 m 118 ls [.int 1]) (by first | rfl | decide) ?_
  refine lv_iconst (v := 1) hx hb dX11_add_118 (by decide) ?_
  refine lv_isub hx hb dX11_add_119 ?_
  refine W.eq (g2 := F0 m 120 ls [.int 0]) (by first | rfl | decide) ?_
  exact k_endi hx hb hr hlocks hh ⟨q61, y62, q59, q60, rfl, rfl, rfl⟩ [2, 3, 8, 4, 5, 0, 7, 6] [0, 1, 4] rfl rfl rfl (Nat.le_of_ble_eq_true rfl) (Nat.le_of_ble_eq_true rfl) dX11_add_120
def wo_a97_X6_needProgramLength : List Cond := []
def wk_a97_X6_needProgramLength : List Cond := Cond.code yX6_needProgramLength cX6_needProgramLength 1 none :: wo_a97_X6_needProgramLength
theorem wo_a97_X6_needProgramLength_in : ∀ w ∈ wo_a97_X6_needProgramLength, w ∈ wk_a97_X6_needProgramLength := fun w h => List.mem_cons_of_mem _ h
theorem gk_a97_X6_needProgramLength : ∀ w ∈ wk_a97_X6_needProgramLength, goodWord w = true := List.forall_mem_cons.mpr ⟨rfl, (show ∀ w ∈ wo_a97_X6_needProgramLength, goodWord w = true by decide +kernel)⟩
set_option maxHeartbeats 4000000 in
set_option maxRecDepth 100000 in
theorem a97_X6_needProgramLength (l : Launch) (hst : l.stackTraces = false) (D : va_G) (e0 : kE)   : kM l yX6_needProgramLength wk_a97_X6_needProgramLength 0 0 0 0 D kStr e0 [] [] [.int 1496] (fun v w t => v = none ∧ w = [] ∧ t = []) (fun _ => False) := by
  refine k_of (cc := cX6_needProgramLength) (maxL := 1) (ret := none) (by decide) rfl (Nat.le_of_ble_eq_true rfl) ?_
  intro p e s m args below meth c A ls hx hb hr hts hown hlocks hml hex hh hl
  have hown : s.vm.findClass RX6 = some m.cls := hown
  have hl : lv_has ls 1 [(0, .int 1496)] := hl
  refine lv_iload_n hx hb dX6_needProgramLength_0 rfl (lv_at hl 0 rfl) ?_
  refine lv_sipush (v := 3000) hx hb dX6_needProgramLength_1 (by decide) ?_
  refine lv_icmp_le (tgt := 18) hx hb dX6_needProgramLength_4 (by decide) (fun _ => ?_) (fun c_4 => absurd (by decide) c_4)
  exact k_endv hx hb hr hlocks hh ⟨rfl, rfl, rfl⟩ [] [] rfl rfl rfl (Nat.le_of_ble_eq_true rfl) (Nat.le_of_ble_eq_true rfl) dX6_needProgramLength_18
def wo_a98_X4_write : List Cond := [Cond.fieldLink RX4 38 "Segueworks$Item" "piece" "LSegueworks$Piece;", Cond.fieldLink RX4 42 "Segueworks$Piece" "samples" "[I", Cond.fieldLink RX4 35 "Segueworks$Program" "length" "I", Cond.fieldLink RX4 17 "Segueworks$Program" "row" "[I", Cond.fieldLink RX4 51 "Segueworks$Item" "gap" "I", Cond.methodLink RX4 54 arraycopyName, Cond.native arraycopyName, Cond.static arraycopyName, Cond.initialized "java/lang/System"]
def wk_a98_X4_write : List Cond := Cond.code yX4_write cX4_write 4 none :: (wo_a98_X4_write ++ ((u_ws RX1 TX1 6) ++ ((u_ws RX2 TX2 9) ++ ((u_ws RX4 TX4 6) ++ (wsV RX4 47 RX1 yX1_fullLength wk_a78_X1_fullLength)))))
theorem wo_a98_X4_write_in : ∀ w ∈ wo_a98_X4_write, w ∈ wk_a98_X4_write := fun w h => List.mem_cons_of_mem _ (List.mem_append_left _ h)
theorem ws_a98_X4_write_0 : ∀ w ∈ u_ws RX1 TX1 6, w ∈ wk_a98_X4_write := fun w h => List.mem_cons_of_mem _ (List.mem_append_right _ (List.mem_append_left _ h))
theorem ws_a98_X4_write_1 : ∀ w ∈ u_ws RX2 TX2 9, w ∈ wk_a98_X4_write := fun w h => List.mem_cons_of_mem _ (List.mem_append_right _ (List.mem_append_right _ (List.mem_append_left _ h)))
theorem ws_a98_X4_write_2 : ∀ w ∈ u_ws RX4 TX4 6, w ∈ wk_a98_X4_write := fun w h => List.mem_cons_of_mem _ (List.mem_append_right _ (List.mem_append_right _ (List.mem_append_right _ (List.mem_append_left _ h))))
theorem gi_a98_X4_write_3 : GoodIn wk_a98_X4_write (wsV RX4 47 RX1 yX1_fullLength wk_a78_X1_fullLength) := fun w h => ⟨List.mem_cons_of_mem _ (List.mem_append_right _ (List.mem_append_right _ (List.mem_append_right _ (List.mem_append_right _ h)))), good_of_word (kg_V gk_a78_X1_fullLength w h)⟩
theorem gk_a98_X4_write : ∀ w ∈ wk_a98_X4_write, goodWord w = true := List.forall_mem_cons.mpr ⟨rfl, (List.forall_mem_append.mpr ⟨(show ∀ w ∈ wo_a98_X4_write, goodWord w = true by decide +kernel), (List.forall_mem_append.mpr ⟨(show ∀ w ∈ u_ws RX1 TX1 6, goodWord w = true by decide +kernel), (List.forall_mem_append.mpr ⟨(show ∀ w ∈ u_ws RX2 TX2 9, goodWord w = true by decide +kernel), (List.forall_mem_append.mpr ⟨(show ∀ w ∈ u_ws RX4 TX4 6, goodWord w = true by decide +kernel), (kg_V gk_a78_X1_fullLength)⟩)⟩)⟩)⟩)⟩
set_option maxHeartbeats 4000000 in
set_option maxRecDepth 100000 in
theorem a98_X4_write (l : Launch) (hst : l.stackTraces = false) (D : va_G) (e0 : kE) (q4 : Nat) (q62 : Nat) (q8 : Nat) (q9 : Nat) (q10 : Nat) (q11 : Nat) (q47 : Nat) (q63 : Nat) (y13 : ClassId) (q48 : Nat) (q40 : Nat) (q49 : Nat) (y50 : ClassId)  : kM l yX4_write wk_a98_X4_write 1 60 0 0 D kStr e0 [(y13, .int), (y50, .int)] [(q4, .inr (9, [.ref q8, .int 2, .ref q9, .int 748, .ref q10, .ref q11])), (q62, .inr (6, [.int 2, .ref q47, .int 0, .int 0, .ref q63, .int 0])), (q9, .inl (y13, 3000, .inl (fun _ => 0))), (q47, .inr (7, [.int 120, .ref q48, .ref q40, .ref q40, .int 0, .int 0, .int 0, .ref q49, .int 1496])), (q48, .inl (y50, 748, .inl (fun _ => 0)))] [.ref q4, .ref q62] (fun v w t => v = none ∧ w = [(q4, .inr (9, [.ref q8, .int 2, .ref q9, .int 1496, .ref q10, .ref q11])), (q62, .inr (6, [.int 2, .ref q47, .int 0, .int 0, .ref q63, .int 0])), (q9, .inl (y13, 3000, .inl (fun _ => 0))), (q47, .inr (7, [.int 120, .ref q48, .ref q40, .ref q40, .int 0, .int 0, .int 0, .ref q49, .int 1496])), (q48, .inl (y50, 748, .inl (fun _ => 0)))] ∧ t = [(y13, .int), (y50, .int)]) (fun _ => False) := by
  refine k_of (cc := cX4_write) (maxL := 4) (ret := none) (by decide) rfl (Nat.le_of_ble_eq_true rfl) ?_
  intro p e s m args below meth c A ls hx hb hr hts hown hlocks hml hex hh hl
  have hown : s.vm.findClass RX4 = some m.cls := hown
  have hl : lv_has ls 4 [(0, .ref q4), (1, .ref q62)] := hl
  refine lv_aload_n hx hb dX4_write_0 rfl (lv_at hl 1 rfl) ?_
  refine k_get (C := RX1) (T := TX1) (N := 6) (ci := 6) (v := .ref q47) hx hb hts ws_a98_X4_write_0 hown hh 1 rfl rfl 1 (by decide) (hts _ (wo_a98_X4_write_in _ (List.mem_of_getElem? (i := 0) rfl))) rfl dX4_write_1 ?_
  refine k_get (C := RX2) (T := TX2) (N := 9) (ci := 7) (v := .ref q48) hx hb hts ws_a98_X4_write_1 hown hh 3 rfl rfl 1 (by decide) (hts _ (wo_a98_X4_write_in _ (List.mem_of_getElem? (i := 1) rfl))) rfl dX4_write_4 ?_
  refine lv_astore_n (lv' := [(2, .ref q48), (0, .ref q4), (1, .ref q62)]) hx hb dX4_write_7 rfl hl (by decide) rfl (fun ls hl => ?_)
  refine lv_aload_n hx hb dX4_write_8 rfl (lv_at hl 1 rfl) ?_
  refine k_get (C := RX4) (T := TX4) (N := 6) (ci := 9) (v := .int 748) hx hb hts ws_a98_X4_write_2 hown hh 0 rfl rfl 3 (by decide) (hts _ (wo_a98_X4_write_in _ (List.mem_of_getElem? (i := 2) rfl))) rfl dX4_write_9 ?_
  refine lv_aload_n hx hb dX4_write_12 rfl (lv_at hl 2 rfl) ?_
  refine k_callV (C := RX1) (T := TX1) (N := 6) (ci := 6) (q0 := 1) (wr := [(q4, .inr (9, [.ref q8, .int 2, .ref q9, .int 748, .ref q10, .ref q11])), (q9, .inl (y13, 3000, .inl (fun _ => 0)))]) (rest := [.int 748]) (own := RX4) ⟨hx, hb, hml, hown, hts⟩ (a78_X1_fullLength l hst D e0 q62 q47 q63 q48 q40 q49 y50 ) (cwV 0 hts gi_a98_X4_write_3 rfl rfl rfl (by decide +kernel) ⟨Nat.le_of_ble_eq_true rfl, Nat.le_of_ble_eq_true rfl⟩) hh rfl rfl [1, 3, 4] [0, 2] [1] rfl rfl rfl rfl (by decide) rfl rfl hl rfl (Nat.le_of_ble_eq_true rfl) dX4_write_13 ⟨Nat.le_of_ble_eq_true rfl, (Nat.le_of_ble_eq_true rfl)⟩ (fun _ _ _ _ _ h => h.elim) (fun v w ty1 H locs hp hh => ?_)
  obtain ⟨rfl, rfl, rfl⟩ := hp
  have hh : kH D kStr e0 A s H [(q4, .inr (9, [.ref q8, .int 2, .ref q9, .int 748, .ref q10, .ref q11])), (q9, .inl (y13, 3000, .inl (fun _ => 0))), (q62, .inr (6, [.int 2, .ref q47, .int 0, .int 0, .ref q63, .int 0])), (q47, .inr (7, [.int 120, .ref q48, .ref q40, .ref q40, .int 0, .int 0, .int 0, .ref q49, .int 1496])), (q48, .inl (y50, 748, .inl (fun _ => 0)))] [(y13, .int), (y50, .int), (y50, .int)] _ := hh
  refine W.eq (g2 := F0 m 16 ls [.int 748, .int 748]) (by first | rfl | decide) ?_
  refine lv_iadd hx hb dX4_write_16 ?_
  refine W.eq (g2 := F0 m 17 ls [.int 1496]) (by first | rfl | decide) ?_
  refine lv_aload_n hx hb dX4_write_17 rfl (lv_at hl 1 rfl) ?_
  refine k_get (C := RX4) (T := TX4) (N := 6) (ci := 9) (v := .ref q9) hx hb hts ws_a98_X4_write_2 hown hh 0 rfl rfl 2 (by decide) (hts _ (wo_a98_X4_write_in _ (List.mem_of_getElem? (i := 3) rfl))) rfl dX4_write_18 ?_
  refine k_alen (v := 3000) hx hb hh 1 0 rfl rfl rfl dX4_write_21 ?_
  refine lv_icmp_le (tgt := 26) hx hb dX4_write_22 (by decide) (fun _ => ?_) (fun c_22 => absurd (by decide) c_22)
  refine lv_iconst (v := 0) hx hb dX4_write_26 (by decide) ?_
  refine lv_istore_n (lv' := [(3, .int 0), (2, .ref q48), (0, .ref q4), (1, .ref q62)]) hx hb dX4_write_27 rfl hl (by decide) rfl (fun ls hl => ?_)
  refine lv_iload_n hx hb dX4_write_28 rfl (lv_at hl 0 rfl) ?_
  refine lv_aload_n hx hb dX4_write_29 rfl (lv_at hl 3 rfl) ?_
  refine k_get (C := RX1) (T := TX1) (N := 6) (ci := 6) (v := .int 0) hx hb hts ws_a98_X4_write_0 hown hh 2 rfl rfl 2 (by decide) (hts _ (wo_a98_X4_write_in _ (List.mem_of_getElem? (i := 4) rfl))) rfl dX4_write_30 ?_
  refine lv_icmp_ge (tgt := 54) hx hb dX4_write_33 (by decide) (fun _ => ?_) (fun c_33 => absurd (by decide) c_33)
  refine lv_aload_n hx hb dX4_write_54 rfl (lv_at hl 1 rfl) ?_
  refine lv_iconst (v := 0) hx hb dX4_write_55 (by decide) ?_
  refine lv_aload_n hx hb dX4_write_56 rfl (lv_at hl 2 rfl) ?_
  refine k_get (C := RX4) (T := TX4) (N := 6) (ci := 9) (v := .ref q9) hx hb hts ws_a98_X4_write_2 hown hh 0 rfl rfl 2 (by decide) (hts _ (wo_a98_X4_write_in _ (List.mem_of_getElem? (i := 3) rfl))) rfl dX4_write_57 ?_
  refine lv_aload_n hx hb dX4_write_60 rfl (lv_at hl 2 rfl) ?_
  refine k_get (C := RX4) (T := TX4) (N := 6) (ci := 9) (v := .int 748) hx hb hts ws_a98_X4_write_2 hown hh 0 rfl rfl 3 (by decide) (hts _ (wo_a98_X4_write_in _ (List.mem_of_getElem? (i := 2) rfl))) rfl dX4_write_61 ?_
  refine lv_aload_n hx hb dX4_write_64 rfl (lv_at hl 3 rfl) ?_
  refine k_get (C := RX1) (T := TX1) (N := 6) (ci := 6) (v := .int 0) hx hb hts ws_a98_X4_write_0 hown hh 2 rfl rfl 2 (by decide) (hts _ (wo_a98_X4_write_in _ (List.mem_of_getElem? (i := 4) rfl))) rfl dX4_write_65 ?_
  refine lv_iadd hx hb dX4_write_68 ?_
  refine W.eq (g2 := F0 m 69 ls [.int 748, .ref q9, .int 0, .ref q48]) (by first | rfl | decide) ?_
  refine lv_aload_n hx hb dX4_write_69 rfl (lv_at hl 1 rfl) ?_
  refine k_alen (v := 748) hx hb hh 4 1 rfl rfl rfl dX4_write_70 ?_
  refine k_cpy0 hx hb (by rw [hml]; exact hl.1.symm) hown (hts _ (wo_a98_X4_write_in _ (List.mem_of_getElem? (i := 5) rfl))) (hts _ (wo_a98_X4_write_in _ (List.mem_of_getElem? (i := 6) rfl))) (hts _ (wo_a98_X4_write_in _ (List.mem_of_getElem? (i := 7) rfl))) (hts _ (wo_a98_X4_write_in _ (List.mem_of_getElem? (i := 8) rfl))) hh 4 1 1 0 rfl rfl rfl rfl rfl (by decide) (by decide) (by decide) (by decide) (by decide) (fun _ _ => rfl) (Nat.le_of_ble_eq_true rfl) (by decide) dX4_write_71 (fun H locs hh => ?_)
  refine W.eq (g2 := F0 m 74 ls []) rfl ?_
  refine lv_aload_n hx hb dX4_write_74 rfl (lv_at hl 2 rfl) ?_
  refine lv_dup hx hb dX4_write_75 rfl ?_
  refine k_get (C := RX4) (T := TX4) (N := 6) (ci := 9) (v := .int 748) hx hb hts ws_a98_X4_write_2 hown hh 0 rfl rfl 3 (by decide) (hts _ (wo_a98_X4_write_in _ (List.mem_of_getElem? (i := 2) rfl))) rfl dX4_write_76 ?_
  refine lv_aload_n hx hb dX4_write_79 rfl (lv_at hl 3 rfl) ?_
  refine k_callV (C := RX1) (T := TX1) (N := 6) (ci := 6) (q0 := 2) (wr := [(q4, .inr (9, [.ref q8, .int 2, .ref q9, .int 748, .ref q10, .ref q11])), (q9, .inl (y13, 3000, .inl (fun _ => 0)))]) (rest := [.int 748, .ref q4]) (own := RX4) ⟨hx, hb, hml, hown, hts⟩ (a78_X1_fullLength l hst D e0 q62 q47 q63 q48 q40 q49 y50 ) (cwV 0 hts gi_a98_X4_write_3 rfl rfl rfl (by decide +kernel) ⟨Nat.le_of_ble_eq_true rfl, Nat.le_of_ble_eq_true rfl⟩) hh rfl rfl [2, 3, 4] [0, 1] [1] rfl rfl rfl rfl (by decide) rfl rfl hl rfl (Nat.le_of_ble_eq_true rfl) dX4_write_80 ⟨Nat.le_of_ble_eq_true rfl, (Nat.le_of_ble_eq_true rfl)⟩ (fun _ _ _ _ _ h => h.elim) (fun v w ty1 H locs hp hh => ?_)
  obtain ⟨rfl, rfl, rfl⟩ := hp
  have hh : kH D kStr e0 A s H [(q4, .inr (9, [.ref q8, .int 2, .ref q9, .int 748, .ref q10, .ref q11])), (q9, .inl (y13, 3000, .inl (fun _ => 0))), (q62, .inr (6, [.int 2, .ref q47, .int 0, .int 0, .ref q63, .int 0])), (q47, .inr (7, [.int 120, .ref q48, .ref q40, .ref q40, .int 0, .int 0, .int 0, .ref q49, .int 1496])), (q48, .inl (y50, 748, .inl (fun _ => 0)))] [(y13, .int), (y50, .int), (y50, .int), (y50, .int)] _ := hh
  refine W.eq (g2 := F0 m 83 ls [.int 748, .int 748, .ref q4]) (by first | rfl | decide) ?_
  refine lv_iadd hx hb dX4_write_83 ?_
  refine W.eq (g2 := F0 m 84 ls [.int 1496, .ref q4]) (by first | rfl | decide) ?_
  refine k_put (C := RX4) (T := TX4) (N := 6) (ci := 9) (v := .int 1496) (ws' := [(q4, .inr (9, [.ref q8, .int 2, .ref q9, .int 1496, .ref q10, .ref q11])), (q9, .inl (y13, 3000, .inl (fun _ => 0))), (q62, .inr (6, [.int 2, .ref q47, .int 0, .int 0, .ref q63, .int 0])), (q47, .inr (7, [.int 120, .ref q48, .ref q40, .ref q40, .int 0, .int 0, .int 0, .ref q49, .int 1496])), (q48, .inl (y50, 748, .inl (fun _ => 0)))]) hx hb hts ws_a98_X4_write_2 tyX4 tyX4_ok nmX4 hown hh 0 rfl rfl 3 (by decide) (hts _ (wo_a98_X4_write_in _ (List.mem_of_getElem? (i := 2) rfl))) rfl rfl rfl (Nat.le_of_ble_eq_true rfl) dX4_write_84 rfl (fun H locs hh => ?_)
  exact k_endv hx hb hr hlocks hh ⟨rfl, rfl, rfl⟩ [0, 2, 1, 3, 4] [0, 1] rfl rfl rfl (Nat.le_of_ble_eq_true rfl) (Nat.le_of_ble_eq_true rfl) dX4_write_87
def wo_a99_X4_append : List Cond := [Cond.fieldLink RX4 11 "Segueworks$Program" "items" "[LSegueworks$Item;", Cond.fieldLink RX4 27 "Segueworks$Program" "count" "I"]
def wk_a99_X4_append : List Cond := Cond.code yX4_append cX4_append 2 none :: (wo_a99_X4_append ++ ((u_ws RX4 TX4 6) ++ (wsV RX4 31 RX4 yX4_write wk_a98_X4_write)))
theorem wo_a99_X4_append_in : ∀ w ∈ wo_a99_X4_append, w ∈ wk_a99_X4_append := fun w h => List.mem_cons_of_mem _ (List.mem_append_left _ h)
theorem ws_a99_X4_append_0 : ∀ w ∈ u_ws RX4 TX4 6, w ∈ wk_a99_X4_append := fun w h => List.mem_cons_of_mem _ (List.mem_append_right _ (List.mem_append_left _ h))
theorem gi_a99_X4_append_1 : GoodIn wk_a99_X4_append (wsV RX4 31 RX4 yX4_write wk_a98_X4_write) := fun w h => ⟨List.mem_cons_of_mem _ (List.mem_append_right _ (List.mem_append_right _ h)), good_of_word (kg_V gk_a98_X4_write w h)⟩
theorem gk_a99_X4_append : ∀ w ∈ wk_a99_X4_append, goodWord w = true := List.forall_mem_cons.mpr ⟨rfl, (List.forall_mem_append.mpr ⟨(show ∀ w ∈ wo_a99_X4_append, goodWord w = true by decide +kernel), (List.forall_mem_append.mpr ⟨(show ∀ w ∈ u_ws RX4 TX4 6, goodWord w = true by decide +kernel), (kg_V gk_a98_X4_write)⟩)⟩)⟩
set_option maxHeartbeats 4000000 in
set_option maxRecDepth 100000 in
theorem a99_X4_append (l : Launch) (hst : l.stackTraces = false) (D : va_G) (e0 : kE) (q4 : Nat) (q62 : Nat) (q8 : Nat) (q9 : Nat) (q10 : Nat) (q11 : Nat) (q47 : Nat) (q63 : Nat) (y12 : ClassId) (q55 : Nat) (y13 : ClassId) (q48 : Nat) (q40 : Nat) (q49 : Nat) (y50 : ClassId)  : kM l yX4_append wk_a99_X4_append 2 83 0 0 D kStr e0 [(y12, .object "Segueworks$Item"), (y13, .int), (y50, .int)] [(q4, .inr (9, [.ref q8, .int 1, .ref q9, .int 748, .ref q10, .ref q11])), (q62, .inr (6, [.int 2, .ref q47, .int 0, .int 0, .ref q63, .int 0])), (q8, .inl (y12, 12, .inr (.inr (.inr (.inr (va_up ((fun _ => none)) (0 : Int32).toNatClampNeg (some q55))))))), (q9, .inl (y13, 3000, .inl (fun _ => 0))), (q47, .inr (7, [.int 120, .ref q48, .ref q40, .ref q40, .int 0, .int 0, .int 0, .ref q49, .int 1496])), (q48, .inl (y50, 748, .inl (fun _ => 0)))] [.ref q4, .ref q62] (fun v w t => v = none ∧ w = [(q4, .inr (9, [.ref q8, .int 2, .ref q9, .int 1496, .ref q10, .ref q11])), (q62, .inr (6, [.int 2, .ref q47, .int 0, .int 0, .ref q63, .int 0])), (q8, .inl (y12, 12, .inr (.inr (.inr (.inr (va_up ((va_up ((fun _ => none)) (0 : Int32).toNatClampNeg (some q55))) (1 : Int32).toNatClampNeg (some q62))))))), (q9, .inl (y13, 3000, .inl (fun _ => 0))), (q47, .inr (7, [.int 120, .ref q48, .ref q40, .ref q40, .int 0, .int 0, .int 0, .ref q49, .int 1496])), (q48, .inl (y50, 748, .inl (fun _ => 0)))] ∧ t = [(y12, .object "Segueworks$Item"), (y13, .int), (y50, .int)]) (fun _ => False) := by
  refine k_of (cc := cX4_append) (maxL := 2) (ret := none) (by decide) rfl (Nat.le_of_ble_eq_true rfl) ?_
  intro p e s m args below meth c A ls hx hb hr hts hown hlocks hml hex hh hl
  have hown : s.vm.findClass RX4 = some m.cls := hown
  have hl : lv_has ls 2 [(0, .ref q4), (1, .ref q62)] := hl
  refine lv_aload_n hx hb dX4_append_0 rfl (lv_at hl 0 rfl) ?_
  refine k_get (C := RX4) (T := TX4) (N := 6) (ci := 9) (v := .ref q8) hx hb hts ws_a99_X4_append_0 hown hh 0 rfl rfl 0 (by decide) (hts _ (wo_a99_X4_append_in _ (List.mem_of_getElem? (i := 0) rfl))) rfl dX4_append_1 ?_
  refine lv_aload_n hx hb dX4_append_4 rfl (lv_at hl 0 rfl) ?_
  refine k_get (C := RX4) (T := TX4) (N := 6) (ci := 9) (v := .int 1) hx hb hts ws_a99_X4_append_0 hown hh 0 rfl rfl 1 (by decide) (hts _ (wo_a99_X4_append_in _ (List.mem_of_getElem? (i := 1) rfl))) rfl dX4_append_5 ?_
  refine lv_aload_n hx hb dX4_append_8 rfl (lv_at hl 1 rfl) ?_
  refine k_astq (ws' := [(q4, .inr (9, [.ref q8, .int 1, .ref q9, .int 748, .ref q10, .ref q11])), (q62, .inr (6, [.int 2, .ref q47, .int 0, .int 0, .ref q63, .int 0])), (q8, .inl (y12, 12, .inr (.inr (.inr (.inr (va_up ((va_up ((fun _ => none)) (0 : Int32).toNatClampNeg (some q55))) (1 : Int32).toNatClampNeg (some q62))))))), (q9, .inl (y13, 3000, .inl (fun _ => 0))), (q47, .inr (7, [.int 120, .ref q48, .ref q40, .ref q40, .int 0, .int 0, .int 0, .ref q49, .int 1496])), (q48, .inl (y50, 748, .inl (fun _ => 0)))]) hx hb hh 2 0 1 6 rfl rfl rfl rfl (by unfold vp_in; decide) dX4_append_9 rfl (fun H locs hh => ?_)
  refine lv_aload_n hx hb dX4_append_10 rfl (lv_at hl 0 rfl) ?_
  refine lv_dup hx hb dX4_append_11 rfl ?_
  refine k_get (C := RX4) (T := TX4) (N := 6) (ci := 9) (v := .int 1) hx hb hts ws_a99_X4_append_0 hown hh 0 rfl rfl 1 (by decide) (hts _ (wo_a99_X4_append_in _ (List.mem_of_getElem? (i := 1) rfl))) rfl dX4_append_12 ?_
  refine lv_iconst (v := 1) hx hb dX4_append_15 (by decide) ?_
  refine lv_iadd hx hb dX4_append_16 ?_
  refine W.eq (g2 := F0 m 17 ls [.int 2, .ref q4]) (by first | rfl | decide) ?_
  refine k_put (C := RX4) (T := TX4) (N := 6) (ci := 9) (v := .int 2) (ws' := [(q4, .inr (9, [.ref q8, .int 2, .ref q9, .int 748, .ref q10, .ref q11])), (q62, .inr (6, [.int 2, .ref q47, .int 0, .int 0, .ref q63, .int 0])), (q8, .inl (y12, 12, .inr (.inr (.inr (.inr (va_up ((va_up ((fun _ => none)) (0 : Int32).toNatClampNeg (some q55))) (1 : Int32).toNatClampNeg (some q62))))))), (q9, .inl (y13, 3000, .inl (fun _ => 0))), (q47, .inr (7, [.int 120, .ref q48, .ref q40, .ref q40, .int 0, .int 0, .int 0, .ref q49, .int 1496])), (q48, .inl (y50, 748, .inl (fun _ => 0)))]) hx hb hts ws_a99_X4_append_0 tyX4 tyX4_ok nmX4 hown hh 0 rfl rfl 1 (by decide) (hts _ (wo_a99_X4_append_in _ (List.mem_of_getElem? (i := 1) rfl))) rfl rfl rfl (Nat.le_of_ble_eq_true rfl) dX4_append_17 rfl (fun H locs hh => ?_)
  refine lv_aload_n hx hb dX4_append_20 rfl (lv_at hl 0 rfl) ?_
  refine lv_aload_n hx hb dX4_append_21 rfl (lv_at hl 1 rfl) ?_
  refine k_callV (C := RX4) (T := TX4) (N := 6) (ci := 9) (q0 := 0) (wr := [(q8, .inl (y12, 12, .inr (.inr (.inr (.inr (va_up ((va_up ((fun _ => none)) (0 : Int32).toNatClampNeg (some q55))) (1 : Int32).toNatClampNeg (some q62)))))))]) (rest := []) (own := RX4) ⟨hx, hb, hml, hown, hts⟩ (a98_X4_write l hst D e0 q4 q62 q8 q9 q10 q11 q47 q63 y13 q48 q40 q49 y50 ) (cwV 1 hts gi_a99_X4_append_1 rfl rfl rfl (by decide +kernel) ⟨Nat.le_of_ble_eq_true rfl, Nat.le_of_ble_eq_true rfl⟩) hh rfl rfl [0, 1, 3, 4, 5] [2] [1, 2] rfl rfl rfl rfl (by decide) rfl rfl hl rfl (Nat.le_of_ble_eq_true rfl) dX4_append_22 ⟨Nat.le_of_ble_eq_true rfl, (Nat.le_of_ble_eq_true rfl)⟩ (fun _ _ _ _ _ h => h.elim) (fun v w ty1 H locs hp hh => ?_)
  obtain ⟨rfl, rfl, rfl⟩ := hp
  have hh : kH D kStr e0 A s H [(q8, .inl (y12, 12, .inr (.inr (.inr (.inr (va_up ((va_up ((fun _ => none)) (0 : Int32).toNatClampNeg (some q55))) (1 : Int32).toNatClampNeg (some q62))))))), (q4, .inr (9, [.ref q8, .int 2, .ref q9, .int 1496, .ref q10, .ref q11])), (q62, .inr (6, [.int 2, .ref q47, .int 0, .int 0, .ref q63, .int 0])), (q9, .inl (y13, 3000, .inl (fun _ => 0))), (q47, .inr (7, [.int 120, .ref q48, .ref q40, .ref q40, .int 0, .int 0, .int 0, .ref q49, .int 1496])), (q48, .inl (y50, 748, .inl (fun _ => 0)))] [(y12, .object "Segueworks$Item"), (y13, .int), (y50, .int), (y13, .int), (y50, .int)] _ := hh
  refine W.eq (g2 := F0 m 25 ls []) (by first | rfl | decide) ?_
  exact k_endv hx hb hr hlocks hh ⟨rfl, rfl, rfl⟩ [1, 2, 0, 3, 4, 5] [0, 1, 2] rfl rfl rfl (Nat.le_of_ble_eq_true rfl) (Nat.le_of_ble_eq_true rfl) dX4_append_25
def wo_a100_X6_add : List Cond := [Cond.fieldLink RX6 24 "Segueworks" "program" "LSegueworks$Program;", Cond.fieldLink RX6 129 "Segueworks$Program" "length" "I", Cond.fieldLink RX6 103 "Segueworks$Piece" "samples" "[I", Cond.fieldLink RX6 133 "Segueworks$Program" "count" "I", Cond.classLink RX6 138 RX1, Cond.instantiable RX1 6, Cond.initialized RX1, Cond.methodLink RX6 140 yX1_init, Cond.instanceMethod yX1_init]
def wk_a100_X6_add : List Cond := Cond.code yX6_add cX6_add 4 (some .int) :: (wo_a100_X6_add ++ ((wsV RX6 99 RX6 yX6_knownPiece wk_a74_X6_knownPiece) ++ ((va_wsS RX6 57 yX6_needRange wk_a75_X6_needRange) ++ ((u_ws RX6 TX6 8) ++ ((u_ws RX4 TX4 6) ++ ((u_ws RX2 TX2 9) ++ ((va_wsS RX6 130 yX6_needProgramLength wk_a97_X6_needProgramLength) ++ ((u_ws RX1 TX1 6) ++ ((wk_a77_X1_init) ++ (wsV RX6 143 RX4 yX4_append wk_a99_X4_append))))))))))
theorem wo_a100_X6_add_in : ∀ w ∈ wo_a100_X6_add, w ∈ wk_a100_X6_add := fun w h => List.mem_cons_of_mem _ (List.mem_append_left _ h)
theorem gi_a100_X6_add_0 : GoodIn wk_a100_X6_add (wsV RX6 99 RX6 yX6_knownPiece wk_a74_X6_knownPiece) := fun w h => ⟨List.mem_cons_of_mem _ (List.mem_append_right _ (List.mem_append_left _ h)), good_of_word (kg_V gk_a74_X6_knownPiece w h)⟩
theorem gi_a100_X6_add_1 : GoodIn wk_a100_X6_add (va_wsS RX6 57 yX6_needRange wk_a75_X6_needRange) := fun w h => ⟨List.mem_cons_of_mem _ (List.mem_append_right _ (List.mem_append_right _ (List.mem_append_left _ h))), good_of_word (kg_S gk_a75_X6_needRange w h)⟩
theorem ws_a100_X6_add_2 : ∀ w ∈ u_ws RX6 TX6 8, w ∈ wk_a100_X6_add := fun w h => List.mem_cons_of_mem _ (List.mem_append_right _ (List.mem_append_right _ (List.mem_append_right _ (List.mem_append_left _ h))))
theorem ws_a100_X6_add_3 : ∀ w ∈ u_ws RX4 TX4 6, w ∈ wk_a100_X6_add := fun w h => List.mem_cons_of_mem _ (List.mem_append_right _ (List.mem_append_right _ (List.mem_append_right _ (List.mem_append_right _ (List.mem_append_left _ h)))))
theorem ws_a100_X6_add_4 : ∀ w ∈ u_ws RX2 TX2 9, w ∈ wk_a100_X6_add := fun w h => List.mem_cons_of_mem _ (List.mem_append_right _ (List.mem_append_right _ (List.mem_append_right _ (List.mem_append_right _ (List.mem_append_right _ (List.mem_append_left _ h))))))
theorem gi_a100_X6_add_5 : GoodIn wk_a100_X6_add (va_wsS RX6 130 yX6_needProgramLength wk_a97_X6_needProgramLength) := fun w h => ⟨List.mem_cons_of_mem _ (List.mem_append_right _ (List.mem_append_right _ (List.mem_append_right _ (List.mem_append_right _ (List.mem_append_right _ (List.mem_append_right _ (List.mem_append_left _ h))))))), good_of_word (kg_S gk_a97_X6_needProgramLength w h)⟩
theorem ws_a100_X6_add_6 : ∀ w ∈ u_ws RX1 TX1 6, w ∈ wk_a100_X6_add := fun w h => List.mem_cons_of_mem _ (List.mem_append_right _ (List.mem_append_right _ (List.mem_append_right _ (List.mem_append_right _ (List.mem_append_right _ (List.mem_append_right _ (List.mem_append_right _ (List.mem_append_left _ h))))))))
theorem gi_a100_X6_add_7 : GoodIn wk_a100_X6_add (wk_a77_X1_init) := fun w h => ⟨List.mem_cons_of_mem _ (List.mem_append_right _ (List.mem_append_right _ (List.mem_append_right _ (List.mem_append_right _ (List.mem_append_right _ (List.mem_append_right _ (List.mem_append_right _ (List.mem_append_right _ (List.mem_append_left _ h))))))))), good_of_word (gk_a77_X1_init w h)⟩
theorem gi_a100_X6_add_8 : GoodIn wk_a100_X6_add (wsV RX6 143 RX4 yX4_append wk_a99_X4_append) := fun w h => ⟨List.mem_cons_of_mem _ (List.mem_append_right _ (List.mem_append_right _ (List.mem_append_right _ (List.mem_append_right _ (List.mem_append_right _ (List.mem_append_right _ (List.mem_append_right _ (List.mem_append_right _ (List.mem_append_right _ h))))))))), good_of_word (kg_V gk_a99_X4_append w h)⟩
theorem gk_a100_X6_add : ∀ w ∈ wk_a100_X6_add, goodWord w = true := List.forall_mem_cons.mpr ⟨rfl, (List.forall_mem_append.mpr ⟨(show ∀ w ∈ wo_a100_X6_add, goodWord w = true by decide +kernel), (List.forall_mem_append.mpr ⟨(kg_V gk_a74_X6_knownPiece), (List.forall_mem_append.mpr ⟨(kg_S gk_a75_X6_needRange), (List.forall_mem_append.mpr ⟨(show ∀ w ∈ u_ws RX6 TX6 8, goodWord w = true by decide +kernel), (List.forall_mem_append.mpr ⟨(show ∀ w ∈ u_ws RX4 TX4 6, goodWord w = true by decide +kernel), (List.forall_mem_append.mpr ⟨(show ∀ w ∈ u_ws RX2 TX2 9, goodWord w = true by decide +kernel), (List.forall_mem_append.mpr ⟨(kg_S gk_a97_X6_needProgramLength), (List.forall_mem_append.mpr ⟨(show ∀ w ∈ u_ws RX1 TX1 6, goodWord w = true by decide +kernel), (List.forall_mem_append.mpr ⟨gk_a77_X1_init, (kg_V gk_a99_X4_append)⟩)⟩)⟩)⟩)⟩)⟩)⟩)⟩)⟩)⟩
set_option maxHeartbeats 4000000 in
set_option maxRecDepth 100000 in
theorem a100_X6_add (l : Launch) (hst : l.stackTraces = false) (D : va_G) (e0 : kE) (q1 : Nat) (q2 : Nat) (q3 : Nat) (q4 : Nat) (q5 : Nat) (q6 : Nat) (y7 : ClassId) (q29 : Nat) (q39 : Nat) (q47 : Nat) (q8 : Nat) (q9 : Nat) (q10 : Nat) (q11 : Nat) (q48 : Nat) (q40 : Nat) (q49 : Nat) (y12 : ClassId) (q55 : Nat) (y13 : ClassId) (y50 : ClassId)  : kM l yX6_add wk_a100_X6_add 3 104 2 14 D kStr e0 [(y7, .object "Segueworks$Piece"), (y12, .object "Segueworks$Item"), (y13, .int), (y50, .int)] [(q1, .inr (11, [.ref q2, .int 0, .ref q3, .int 3, .ref q4, .ref q5, .ref q6, .int 0])), (q3, .inl (y7, 24, .inr (.inr (.inr (.inr (va_up ((va_up ((va_up ((fun _ => none)) (0 : Int32).toNatClampNeg (some q29))) (1 : Int32).toNatClampNeg (some q39))) (2 : Int32).toNatClampNeg (some q47))))))), (q4, .inr (9, [.ref q8, .int 1, .ref q9, .int 748, .ref q10, .ref q11])), (q47, .inr (7, [.int 120, .ref q48, .ref q40, .ref q40, .int 0, .int 0, .int 0, .ref q49, .int 1496])), (q8, .inl (y12, 12, .inr (.inr (.inr (.inr (va_up ((fun _ => none)) (0 : Int32).toNatClampNeg (some q55))))))), (q9, .inl (y13, 3000, .inl (fun _ => 0))), (q48, .inl (y50, 748, .inl (fun _ => 0)))] [.ref q1, .int 2, .int 0] (fun v w t => ∃ (q62 : Nat), ∃ (q63 : Nat), v = some (.int 1) ∧ w = [(q1, .inr (11, [.ref q2, .int 0, .ref q3, .int 3, .ref q4, .ref q5, .ref q6, .int 0])), (q3, .inl (y7, 24, .inr (.inr (.inr (.inr (va_up ((va_up ((va_up ((fun _ => none)) (0 : Int32).toNatClampNeg (some q29))) (1 : Int32).toNatClampNeg (some q39))) (2 : Int32).toNatClampNeg (some q47))))))), (q4, .inr (9, [.ref q8, .int 2, .ref q9, .int 1496, .ref q10, .ref q11])), (q47, .inr (7, [.int 120, .ref q48, .ref q40, .ref q40, .int 0, .int 0, .int 0, .ref q49, .int 1496])), (q8, .inl (y12, 12, .inr (.inr (.inr (.inr (va_up ((va_up ((fun _ => none)) (0 : Int32).toNatClampNeg (some q55))) (1 : Int32).toNatClampNeg (some q62))))))), (q9, .inl (y13, 3000, .inl (fun _ => 0))), (q48, .inl (y50, 748, .inl (fun _ => 0))), (q62, .inr (6, [.int 2, .ref q47, .int 0, .int 0, .ref q63, .int 0]))] ∧ t = [(y7, .object "Segueworks$Piece"), (y12, .object "Segueworks$Item"), (y13, .int), (y50, .int)]) (fun _ => False) := by
  refine k_of (cc := cX6_add) (maxL := 4) (ret := (some .int)) (by decide) rfl (Nat.le_of_ble_eq_true rfl) ?_
  intro p e s m args below meth c A ls hx hb hr hts hown hlocks hml hex hh hl
  have hown : s.vm.findClass RX6 = some m.cls := hown
  have hl : lv_has ls 4 [(0, .ref q1), (1, .int 2), (2, .int 0)] := hl
  refine lv_aload_n hx hb dX6_add_0 rfl (lv_at hl 0 rfl) ?_
  refine lv_iload_n hx hb dX6_add_1 rfl (lv_at hl 1 rfl) ?_
  refine k_callV (C := RX6) (T := TX6) (N := 8) (ci := 11) (q0 := 0) (wr := [(q4, .inr (9, [.ref q8, .int 1, .ref q9, .int 748, .ref q10, .ref q11])), (q47, .inr (7, [.int 120, .ref q48, .ref q40, .ref q40, .int 0, .int 0, .int 0, .ref q49, .int 1496])), (q8, .inl (y12, 12, .inr (.inr (.inr (.inr (va_up ((fun _ => none)) (0 : Int32).toNatClampNeg (some q55))))))), (q9, .inl (y13, 3000, .inl (fun _ => 0))), (q48, .inl (y50, 748, .inl (fun _ => 0)))]) (rest := []) (own := RX6) ⟨hx, hb, hml, hown, hts⟩ (a74_X6_knownPiece l hst D e0 q1 q2 q3 q4 q5 q6 y7 q29 q39 q47 ) (cwV 1 hts gi_a100_X6_add_0 rfl rfl rfl (by decide +kernel) ⟨Nat.le_of_ble_eq_true rfl, Nat.le_of_ble_eq_true rfl⟩) hh rfl rfl [0, 1] [2, 3, 4, 5, 6] [0] rfl rfl rfl rfl (by decide) rfl rfl hl rfl (Nat.le_of_ble_eq_true rfl) dX6_add_2 ⟨Nat.le_of_ble_eq_true rfl, (Nat.le_of_ble_eq_true rfl)⟩ (fun _ _ _ _ _ h => h.elim) (fun v w ty1 H locs hp hh => ?_)
  obtain ⟨rfl, rfl, rfl⟩ := hp
  have hh : kH D kStr e0 A s H [(q4, .inr (9, [.ref q8, .int 1, .ref q9, .int 748, .ref q10, .ref q11])), (q47, .inr (7, [.int 120, .ref q48, .ref q40, .ref q40, .int 0, .int 0, .int 0, .ref q49, .int 1496])), (q8, .inl (y12, 12, .inr (.inr (.inr (.inr (va_up ((fun _ => none)) (0 : Int32).toNatClampNeg (some q55))))))), (q9, .inl (y13, 3000, .inl (fun _ => 0))), (q48, .inl (y50, 748, .inl (fun _ => 0))), (q1, .inr (11, [.ref q2, .int 0, .ref q3, .int 3, .ref q4, .ref q5, .ref q6, .int 0])), (q3, .inl (y7, 24, .inr (.inr (.inr (.inr (va_up ((va_up ((va_up ((fun _ => none)) (0 : Int32).toNatClampNeg (some q29))) (1 : Int32).toNatClampNeg (some q39))) (2 : Int32).toNatClampNeg (some q47)))))))] [(y7, .object "Segueworks$Piece"), (y12, .object "Segueworks$Item"), (y13, .int), (y50, .int), (y7, .object "Segueworks$Piece")] _ := hh
  refine W.eq (g2 := F0 m 5 ls [.ref q47]) (by first | rfl | decide) ?_
  refine lv_astore_n (lv' := [(3, .ref q47), (0, .ref q1), (1, .int 2), (2, .int 0)]) hx hb dX6_add_5 rfl hl (by decide) rfl (fun ls hl => ?_)
  refine lv_iload_n hx hb dX6_add_6 rfl (lv_at hl 3 rfl) ?_
  refine lv_iconst (v := 0) hx hb dX6_add_7 (by decide) ?_
  refine lv_bipush (v := 100) hx hb dX6_add_8 (by decide) ?_
  refine k_callS (wr := [(q4, .inr (9, [.ref q8, .int 1, .ref q9, .int 748, .ref q10, .ref q11])), (q47, .inr (7, [.int 120, .ref q48, .ref q40, .ref q40, .int 0, .int 0, .int 0, .ref q49, .int 1496])), (q8, .inl (y12, 12, .inr (.inr (.inr (.inr (va_up ((fun _ => none)) (0 : Int32).toNatClampNeg (some q55))))))), (q9, .inl (y13, 3000, .inl (fun _ => 0))), (q48, .inl (y50, 748, .inl (fun _ => 0))), (q1, .inr (11, [.ref q2, .int 0, .ref q3, .int 3, .ref q4, .ref q5, .ref q6, .int 0])), (q3, .inl (y7, 24, .inr (.inr (.inr (.inr (va_up ((va_up ((va_up ((fun _ => none)) (0 : Int32).toNatClampNeg (some q29))) (1 : Int32).toNatClampNeg (some q39))) (2 : Int32).toNatClampNeg (some q47)))))))]) (rest := []) (own := RX6) ⟨hx, hb, hml, hown, hts⟩ (a75_X6_needRange l hst D e0  ) (va_cwS 3 hts gi_a100_X6_add_1 rfl rfl rfl (by decide +kernel) ⟨Nat.le_of_ble_eq_true rfl, Nat.le_of_ble_eq_true rfl⟩) hh [] [0, 1, 2, 3, 4, 5, 6] [] rfl rfl rfl rfl (by decide) rfl rfl hl rfl (Nat.le_of_ble_eq_true rfl) dX6_add_10 ⟨Nat.le_of_ble_eq_true rfl, (Nat.le_of_ble_eq_true rfl)⟩ (fun _ _ _ _ _ h => h.elim) (fun v w ty1 H locs hp hh => ?_)
  obtain ⟨rfl, rfl, rfl⟩ := hp
  have hh : kH D kStr e0 A s H [(q4, .inr (9, [.ref q8, .int 1, .ref q9, .int 748, .ref q10, .ref q11])), (q47, .inr (7, [.int 120, .ref q48, .ref q40, .ref q40, .int 0, .int 0, .int 0, .ref q49, .int 1496])), (q8, .inl (y12, 12, .inr (.inr (.inr (.inr (va_up ((fun _ => none)) (0 : Int32).toNatClampNeg (some q55))))))), (q9, .inl (y13, 3000, .inl (fun _ => 0))), (q48, .inl (y50, 748, .inl (fun _ => 0))), (q1, .inr (11, [.ref q2, .int 0, .ref q3, .int 3, .ref q4, .ref q5, .ref q6, .int 0])), (q3, .inl (y7, 24, .inr (.inr (.inr (.inr (va_up ((va_up ((va_up ((fun _ => none)) (0 : Int32).toNatClampNeg (some q29))) (1 : Int32).toNatClampNeg (some q39))) (2 : Int32).toNatClampNeg (some q47)))))))] [(y7, .object "Segueworks$Piece"), (y12, .object "Segueworks$Item"), (y13, .int), (y50, .int), (y7, .object "Segueworks$Piece")] _ := hh
  refine W.eq (g2 := F0 m 13 ls []) (by first | rfl | decide) ?_
  refine lv_aload_n hx hb dX6_add_13 rfl (lv_at hl 1 rfl) ?_
  refine k_get (C := RX6) (T := TX6) (N := 8) (ci := 11) (v := .ref q4) hx hb hts ws_a100_X6_add_2 hown hh 5 rfl rfl 4 (by decide) (hts _ (wo_a100_X6_add_in _ (List.mem_of_getElem? (i := 0) rfl))) rfl dX6_add_14 ?_
  refine k_get (C := RX4) (T := TX4) (N := 6) (ci := 9) (v := .int 748) hx hb hts ws_a100_X6_add_3 hown hh 0 rfl rfl 3 (by decide) (hts _ (wo_a100_X6_add_in _ (List.mem_of_getElem? (i := 1) rfl))) rfl dX6_add_17 ?_
  refine lv_iload_n hx hb dX6_add_20 rfl (lv_at hl 3 rfl) ?_
  refine lv_iadd hx hb dX6_add_21 ?_
  refine W.eq (g2 := F0 m 22 ls [.int 748]) (by first | rfl | decide) ?_
  refine lv_aload_n hx hb dX6_add_22 rfl (lv_at hl 0 rfl) ?_
  refine k_get (C := RX2) (T := TX2) (N := 9) (ci := 7) (v := .ref q48) hx hb hts ws_a100_X6_add_4 hown hh 1 rfl rfl 1 (by decide) (hts _ (wo_a100_X6_add_in _ (List.mem_of_getElem? (i := 2) rfl))) rfl dX6_add_23 ?_
  refine k_alen (v := 748) hx hb hh 4 3 rfl rfl rfl dX6_add_26 ?_
  refine lv_iadd hx hb dX6_add_27 ?_
  refine W.eq (g2 := F0 m 28 ls [.int 1496]) (by first | rfl | decide) ?_
  refine k_callS (wr := [(q4, .inr (9, [.ref q8, .int 1, .ref q9, .int 748, .ref q10, .ref q11])), (q47, .inr (7, [.int 120, .ref q48, .ref q40, .ref q40, .int 0, .int 0, .int 0, .ref q49, .int 1496])), (q8, .inl (y12, 12, .inr (.inr (.inr (.inr (va_up ((fun _ => none)) (0 : Int32).toNatClampNeg (some q55))))))), (q9, .inl (y13, 3000, .inl (fun _ => 0))), (q48, .inl (y50, 748, .inl (fun _ => 0))), (q1, .inr (11, [.ref q2, .int 0, .ref q3, .int 3, .ref q4, .ref q5, .ref q6, .int 0])), (q3, .inl (y7, 24, .inr (.inr (.inr (.inr (va_up ((va_up ((va_up ((fun _ => none)) (0 : Int32).toNatClampNeg (some q29))) (1 : Int32).toNatClampNeg (some q39))) (2 : Int32).toNatClampNeg (some q47)))))))]) (rest := []) (own := RX6) ⟨hx, hb, hml, hown, hts⟩ (a97_X6_needProgramLength l hst D e0  ) (va_cwS 1 hts gi_a100_X6_add_5 rfl rfl rfl (by decide +kernel) ⟨Nat.le_of_ble_eq_true rfl, Nat.le_of_ble_eq_true rfl⟩) hh [] [0, 1, 2, 3, 4, 5, 6] [] rfl rfl rfl rfl (by decide) rfl rfl hl rfl (Nat.le_of_ble_eq_true rfl) dX6_add_28 ⟨Nat.le_of_ble_eq_true rfl, (Nat.le_of_ble_eq_true rfl)⟩ (fun _ _ _ _ _ h => h.elim) (fun v w ty1 H locs hp hh => ?_)
  obtain ⟨rfl, rfl, rfl⟩ := hp
  have hh : kH D kStr e0 A s H [(q4, .inr (9, [.ref q8, .int 1, .ref q9, .int 748, .ref q10, .ref q11])), (q47, .inr (7, [.int 120, .ref q48, .ref q40, .ref q40, .int 0, .int 0, .int 0, .ref q49, .int 1496])), (q8, .inl (y12, 12, .inr (.inr (.inr (.inr (va_up ((fun _ => none)) (0 : Int32).toNatClampNeg (some q55))))))), (q9, .inl (y13, 3000, .inl (fun _ => 0))), (q48, .inl (y50, 748, .inl (fun _ => 0))), (q1, .inr (11, [.ref q2, .int 0, .ref q3, .int 3, .ref q4, .ref q5, .ref q6, .int 0])), (q3, .inl (y7, 24, .inr (.inr (.inr (.inr (va_up ((va_up ((va_up ((fun _ => none)) (0 : Int32).toNatClampNeg (some q29))) (1 : Int32).toNatClampNeg (some q39))) (2 : Int32).toNatClampNeg (some q47)))))))] [(y7, .object "Segueworks$Piece"), (y12, .object "Segueworks$Item"), (y13, .int), (y50, .int), (y7, .object "Segueworks$Piece")] _ := hh
  refine W.eq (g2 := F0 m 31 ls []) (by first | rfl | decide) ?_
  refine lv_aload_n hx hb dX6_add_31 rfl (lv_at hl 1 rfl) ?_
  refine k_get (C := RX6) (T := TX6) (N := 8) (ci := 11) (v := .ref q4) hx hb hts ws_a100_X6_add_2 hown hh 5 rfl rfl 4 (by decide) (hts _ (wo_a100_X6_add_in _ (List.mem_of_getElem? (i := 0) rfl))) rfl dX6_add_32 ?_
  refine k_get (C := RX4) (T := TX4) (N := 6) (ci := 9) (v := .int 1) hx hb hts ws_a100_X6_add_3 hown hh 0 rfl rfl 1 (by decide) (hts _ (wo_a100_X6_add_in _ (List.mem_of_getElem? (i := 3) rfl))) rfl dX6_add_35 ?_
  refine lv_bipush (v := 12) hx hb dX6_add_38 (by decide) ?_
  refine lv_icmp_lt (tgt := 53) hx hb dX6_add_40 (by decide) (fun _ => ?_) (fun c_40 => absurd (by decide) c_40)
  refine lv_aload_n hx hb dX6_add_53 rfl (lv_at hl 1 rfl) ?_
  refine k_get (C := RX6) (T := TX6) (N := 8) (ci := 11) (v := .ref q4) hx hb hts ws_a100_X6_add_2 hown hh 5 rfl rfl 4 (by decide) (hts _ (wo_a100_X6_add_in _ (List.mem_of_getElem? (i := 0) rfl))) rfl dX6_add_54 ?_
  refine k_new (C := RX1) (T := TX1) (N := 6) (ci := 6) (fs := [.int 0, .null, .int 0, .int 0, .null, .int 0]) hx hb hts ws_a100_X6_add_6 tyX1 tyX1_ok hown (hts _ (wo_a100_X6_add_in _ (List.mem_of_getElem? (i := 4) rfl))) (hts _ (wo_a100_X6_add_in _ (List.mem_of_getElem? (i := 5) rfl))) (hts _ (wo_a100_X6_add_in _ (List.mem_of_getElem? (i := 6) rfl))) hh rfl (fun j hj => by rcases (show j = 0 ∨ j = 1 ∨ j = 2 ∨ j = 3 ∨ j = 4 ∨ j = 5 by omega) with rfl | rfl | rfl | rfl | rfl | rfl <;> rfl) (Nat.le_of_ble_eq_true rfl) (Nat.le_of_ble_eq_true rfl) dX6_add_57 (fun q62 H hh => ?_)
  have hh : kH D kStr e0 A s H [(q4, .inr (9, [.ref q8, .int 1, .ref q9, .int 748, .ref q10, .ref q11])), (q47, .inr (7, [.int 120, .ref q48, .ref q40, .ref q40, .int 0, .int 0, .int 0, .ref q49, .int 1496])), (q8, .inl (y12, 12, .inr (.inr (.inr (.inr (va_up ((fun _ => none)) (0 : Int32).toNatClampNeg (some q55))))))), (q9, .inl (y13, 3000, .inl (fun _ => 0))), (q48, .inl (y50, 748, .inl (fun _ => 0))), (q1, .inr (11, [.ref q2, .int 0, .ref q3, .int 3, .ref q4, .ref q5, .ref q6, .int 0])), (q3, .inl (y7, 24, .inr (.inr (.inr (.inr (va_up ((va_up ((va_up ((fun _ => none)) (0 : Int32).toNatClampNeg (some q29))) (1 : Int32).toNatClampNeg (some q39))) (2 : Int32).toNatClampNeg (some q47))))))), (q62, .inr (6, [.int 0, .null, .int 0, .int 0, .null, .int 0]))] [(y7, .object "Segueworks$Piece"), (y12, .object "Segueworks$Item"), (y13, .int), (y50, .int), (y7, .object "Segueworks$Piece")] _ := hh
  refine lv_dup hx hb dX6_add_60 rfl ?_
  refine lv_iload_n hx hb dX6_add_61 rfl (lv_at hl 2 rfl) ?_
  refine lv_aload_n hx hb dX6_add_62 rfl (lv_at hl 0 rfl) ?_
  refine lv_iload_n hx hb dX6_add_63 rfl (lv_at hl 3 rfl) ?_
  refine k_callI (wr := [(q4, .inr (9, [.ref q8, .int 1, .ref q9, .int 748, .ref q10, .ref q11])), (q47, .inr (7, [.int 120, .ref q48, .ref q40, .ref q40, .int 0, .int 0, .int 0, .ref q49, .int 1496])), (q8, .inl (y12, 12, .inr (.inr (.inr (.inr (va_up ((fun _ => none)) (0 : Int32).toNatClampNeg (some q55))))))), (q9, .inl (y13, 3000, .inl (fun _ => 0))), (q48, .inl (y50, 748, .inl (fun _ => 0))), (q1, .inr (11, [.ref q2, .int 0, .ref q3, .int 3, .ref q4, .ref q5, .ref q6, .int 0])), (q3, .inl (y7, 24, .inr (.inr (.inr (.inr (va_up ((va_up ((va_up ((fun _ => none)) (0 : Int32).toNatClampNeg (some q29))) (1 : Int32).toNatClampNeg (some q39))) (2 : Int32).toNatClampNeg (some q47)))))))]) (rest := [.ref q62, .ref q4]) (own := RX6) ⟨hx, hb, hml, hown, hts⟩ (a77_X1_init l hst D e0 q62 q47 ) (cwI 3 hts gi_a100_X6_add_7 rfl rfl rfl (hts _ (wo_a100_X6_add_in _ (List.mem_of_getElem? (i := 6) rfl))) (hts _ (wo_a100_X6_add_in _ (List.mem_of_getElem? (i := 7) rfl))) (hts _ (wo_a100_X6_add_in _ (List.mem_of_getElem? (i := 8) rfl))) rfl (by decide +kernel) ⟨Nat.le_of_ble_eq_true rfl, Nat.le_of_ble_eq_true rfl⟩) hh [7] [0, 1, 2, 3, 4, 5, 6] [] rfl rfl rfl rfl (by decide) rfl rfl hl rfl (Nat.le_of_ble_eq_true rfl) dX6_add_64 ⟨Nat.le_of_ble_eq_true rfl, (Nat.le_of_ble_eq_true rfl)⟩ (fun v w ty1 H locs hp hh => ?_)
  obtain ⟨q63, rfl, rfl, rfl⟩ := hp
  have hh : kH D kStr e0 A s H [(q4, .inr (9, [.ref q8, .int 1, .ref q9, .int 748, .ref q10, .ref q11])), (q47, .inr (7, [.int 120, .ref q48, .ref q40, .ref q40, .int 0, .int 0, .int 0, .ref q49, .int 1496])), (q8, .inl (y12, 12, .inr (.inr (.inr (.inr (va_up ((fun _ => none)) (0 : Int32).toNatClampNeg (some q55))))))), (q9, .inl (y13, 3000, .inl (fun _ => 0))), (q48, .inl (y50, 748, .inl (fun _ => 0))), (q1, .inr (11, [.ref q2, .int 0, .ref q3, .int 3, .ref q4, .ref q5, .ref q6, .int 0])), (q3, .inl (y7, 24, .inr (.inr (.inr (.inr (va_up ((va_up ((va_up ((fun _ => none)) (0 : Int32).toNatClampNeg (some q29))) (1 : Int32).toNatClampNeg (some q39))) (2 : Int32).toNatClampNeg (some q47))))))), (q62, .inr (6, [.int 2, .ref q47, .int 0, .int 0, .ref q63, .int 0]))] [(y7, .object "Segueworks$Piece"), (y12, .object "Segueworks$Item"), (y13, .int), (y50, .int), (y7, .object "Segueworks$Piece")] _ := hh
  refine W.eq (g2 := F0 m 67 ls [.ref q62, .ref q4]) (by first | rfl | decide) ?_
  refine k_callV (C := RX4) (T := TX4) (N := 6) (ci := 9) (q0 := 0) (wr := [(q1, .inr (11, [.ref q2, .int 0, .ref q3, .int 3, .ref q4, .ref q5, .ref q6, .int 0])), (q3, .inl (y7, 24, .inr (.inr (.inr (.inr (va_up ((va_up ((va_up ((fun _ => none)) (0 : Int32).toNatClampNeg (some q29))) (1 : Int32).toNatClampNeg (some q39))) (2 : Int32).toNatClampNeg (some q47)))))))]) (rest := []) (own := RX6) ⟨hx, hb, hml, hown, hts⟩ (a99_X4_append l hst D e0 q4 q62 q8 q9 q10 q11 q47 q63 y12 q55 y13 q48 q40 q49 y50 ) (cwV 1 hts gi_a100_X6_add_8 rfl rfl rfl (by decide +kernel) ⟨Nat.le_of_ble_eq_true rfl, Nat.le_of_ble_eq_true rfl⟩) hh rfl rfl [0, 7, 2, 3, 1, 4] [5, 6] [1, 2, 3] rfl rfl rfl rfl (by decide) rfl rfl hl rfl (Nat.le_of_ble_eq_true rfl) dX6_add_67 ⟨Nat.le_of_ble_eq_true rfl, (Nat.le_of_ble_eq_true rfl)⟩ (fun _ _ _ _ _ h => h.elim) (fun v w ty1 H locs hp hh => ?_)
  obtain ⟨rfl, rfl, rfl⟩ := hp
  have hh : kH D kStr e0 A s H [(q1, .inr (11, [.ref q2, .int 0, .ref q3, .int 3, .ref q4, .ref q5, .ref q6, .int 0])), (q3, .inl (y7, 24, .inr (.inr (.inr (.inr (va_up ((va_up ((va_up ((fun _ => none)) (0 : Int32).toNatClampNeg (some q29))) (1 : Int32).toNatClampNeg (some q39))) (2 : Int32).toNatClampNeg (some q47))))))), (q4, .inr (9, [.ref q8, .int 2, .ref q9, .int 1496, .ref q10, .ref q11])), (q62, .inr (6, [.int 2, .ref q47, .int 0, .int 0, .ref q63, .int 0])), (q8, .inl (y12, 12, .inr (.inr (.inr (.inr (va_up ((va_up ((fun _ => none)) (0 : Int32).toNatClampNeg (some q55))) (1 : Int32).toNatClampNeg (some q62))))))), (q9, .inl (y13, 3000, .inl (fun _ => 0))), (q47, .inr (7, [.int 120, .ref q48, .ref q40, .ref q40, .int 0, .int 0, .int 0, .ref q49, .int 1496])), (q48, .inl (y50, 748, .inl (fun _ => 0)))] [(y7, .object "Segueworks$Piece"), (y12, .object "Segueworks$Item"), (y13, .int), (y50, .int), (y7, .object "Segueworks$Piece"), (y12, .object "Segueworks$Item"), (y13, .int), (y50, .int)] _ := hh
  refine W.eq (g2 := F0 m 70 ls []) (by first | rfl | decide) ?_
  refine lv_aload_n hx hb dX6_add_70 rfl (lv_at hl 1 rfl) ?_
  refine k_get (C := RX6) (T := TX6) (N := 8) (ci := 11) (v := .ref q4) hx hb hts ws_a100_X6_add_2 hown hh 0 rfl rfl 4 (by decide) (hts _ (wo_a100_X6_add_in _ (List.mem_of_getElem? (i := 0) rfl))) rfl dX6_add_71 ?_
  refine k_get (C := RX4) (T := TX4) (N := 6) (ci := 9) (v := .int 2) hx hb hts ws_a100_X6_add_3 hown hh 2 rfl rfl 1 (by decide) (hts _ (wo_a100_X6_add_in _ (List.mem_of_getElem? (i := 3) rfl))) rfl dX6_add_74 ?_
  refine lv_iconst (v := 1) hx hb dX6_add_77 (by decide) ?_
  refine lv_isub hx hb dX6_add_78 ?_
  refine W.eq (g2 := F0 m 79 ls [.int 1]) (by first | rfl | decide) ?_
  exact k_endi hx hb hr hlocks hh ⟨q62, q63, rfl, rfl, rfl⟩ [0, 1, 2, 6, 4, 5, 7, 3] [0, 1, 2, 3] rfl rfl rfl (Nat.le_of_ble_eq_true rfl) (Nat.le_of_ble_eq_true rfl) dX6_add_79
def wo_a101_L_add : List Cond := []
def wk_a101_L_add : List Cond := Cond.codeWith yL_add cL_add 5 (some .int) [(0, 10, 13, 19), (0, 10, 17, 21), (0, 10, 21, 41), (0, 10, 25, 13)] :: (wo_a101_L_add ++ (wsV RL 76 RX6 yX6_add wk_a100_X6_add))
theorem wo_a101_L_add_in : ∀ w ∈ wo_a101_L_add, w ∈ wk_a101_L_add := fun w h => List.mem_cons_of_mem _ (List.mem_append_left _ h)
theorem gi_a101_L_add_0 : GoodIn wk_a101_L_add (wsV RL 76 RX6 yX6_add wk_a100_X6_add) := fun w h => ⟨List.mem_cons_of_mem _ (List.mem_append_right _ h), good_of_word (kg_V gk_a100_X6_add w h)⟩
theorem gk_a101_L_add : ∀ w ∈ wk_a101_L_add, goodWord w = true := List.forall_mem_cons.mpr ⟨rfl, (List.forall_mem_append.mpr ⟨(show ∀ w ∈ wo_a101_L_add, goodWord w = true by decide +kernel), (kg_V gk_a100_X6_add)⟩)⟩
set_option maxHeartbeats 4000000 in
set_option maxRecDepth 100000 in
theorem a101_L_add (l : Launch) (hst : l.stackTraces = false) (D : va_G) (e0 : kE) (q1 : Nat) (q24 : Nat) (q2 : Nat) (q3 : Nat) (q4 : Nat) (q5 : Nat) (q6 : Nat) (y25 : ClassId) (f61 : Nat → Int64) (y7 : ClassId) (q29 : Nat) (q39 : Nat) (q47 : Nat) (q8 : Nat) (q9 : Nat) (q10 : Nat) (q11 : Nat) (q48 : Nat) (q40 : Nat) (q49 : Nat) (y12 : ClassId) (q55 : Nat) (y13 : ClassId) (y50 : ClassId)  : kM l yL_add wk_a101_L_add 4 127 2 14 D kStr e0 [(y7, .object "Segueworks$Piece"), (y12, .object "Segueworks$Item"), (y13, .int), (y25, .long), (y50, .int)] [(q1, .inr (11, [.ref q2, .int 0, .ref q3, .int 3, .ref q4, .ref q5, .ref q6, .int 0])), (q24, .inl (y25, 1, .inr (.inl f61))), (q3, .inl (y7, 24, .inr (.inr (.inr (.inr (va_up ((va_up ((va_up ((fun _ => none)) (0 : Int32).toNatClampNeg (some q29))) (1 : Int32).toNatClampNeg (some q39))) (2 : Int32).toNatClampNeg (some q47))))))), (q4, .inr (9, [.ref q8, .int 1, .ref q9, .int 748, .ref q10, .ref q11])), (q47, .inr (7, [.int 120, .ref q48, .ref q40, .ref q40, .int 0, .int 0, .int 0, .ref q49, .int 1496])), (q8, .inl (y12, 12, .inr (.inr (.inr (.inr (va_up ((fun _ => none)) (0 : Int32).toNatClampNeg (some q55))))))), (q9, .inl (y13, 3000, .inl (fun _ => 0))), (q48, .inl (y50, 748, .inl (fun _ => 0)))] [.ref q1, .int 2, .int 0, .ref q24] (fun v w t => ∃ (q62 : Nat), ∃ (q63 : Nat), v = some (.int 0) ∧ w = [(q1, .inr (11, [.ref q2, .int 0, .ref q3, .int 3, .ref q4, .ref q5, .ref q6, .int 0])), (q24, .inl (y25, 1, .inr (.inl (vp_updL (f61) (0 : Int32).toNatClampNeg 1)))), (q3, .inl (y7, 24, .inr (.inr (.inr (.inr (va_up ((va_up ((va_up ((fun _ => none)) (0 : Int32).toNatClampNeg (some q29))) (1 : Int32).toNatClampNeg (some q39))) (2 : Int32).toNatClampNeg (some q47))))))), (q4, .inr (9, [.ref q8, .int 2, .ref q9, .int 1496, .ref q10, .ref q11])), (q47, .inr (7, [.int 120, .ref q48, .ref q40, .ref q40, .int 0, .int 0, .int 0, .ref q49, .int 1496])), (q8, .inl (y12, 12, .inr (.inr (.inr (.inr (va_up ((va_up ((fun _ => none)) (0 : Int32).toNatClampNeg (some q55))) (1 : Int32).toNatClampNeg (some q62))))))), (q9, .inl (y13, 3000, .inl (fun _ => 0))), (q48, .inl (y50, 748, .inl (fun _ => 0))), (q62, .inr (6, [.int 2, .ref q47, .int 0, .int 0, .ref q63, .int 0]))] ∧ t = [(y25, .long), (y7, .object "Segueworks$Piece"), (y12, .object "Segueworks$Item"), (y13, .int), (y50, .int)]) (fun _ => False) := by
  refine k_ofX (cc := cL_add) (maxL := 5) (ret := (some .int)) (hhs := [(0, 10, 13, 19), (0, 10, 17, 21), (0, 10, 21, 41), (0, 10, 25, 13)]) (by decide) rfl (Nat.le_of_ble_eq_true rfl) ?_
  intro p e s m args below meth c A ls hx hb hr hts hown hlocks hml hex hh hl
  have hown : s.vm.findClass RL = some m.cls := hown
  have hl : lv_has ls 5 [(0, .ref q1), (1, .int 2), (2, .int 0), (3, .ref q24)] := hl
  refine lv_aload_n hx hb dL_add_0 rfl (lv_at hl 3 rfl) ?_
  refine lv_iconst (v := 0) hx hb dL_add_1 (by decide) ?_
  refine lv_aload_n hx hb dL_add_2 rfl (lv_at hl 0 rfl) ?_
  refine lv_iload_n hx hb dL_add_3 rfl (lv_at hl 1 rfl) ?_
  refine lv_iload_n hx hb dL_add_4 rfl (lv_at hl 2 rfl) ?_
  refine k_callV (C := RX6) (T := TX6) (N := 8) (ci := 11) (q0 := 0) (wr := [(q24, .inl (y25, 1, .inr (.inl f61)))]) (rest := [.int 0, .ref q24]) (own := RL) ⟨hx, hb, hml, hown, hts⟩ (a100_X6_add l hst D e0 q1 q2 q3 q4 q5 q6 y7 q29 q39 q47 q8 q9 q10 q11 q48 q40 q49 y12 q55 y13 y50 ) (cwV 2 hts gi_a101_L_add_0 rfl rfl rfl (by decide +kernel) ⟨Nat.le_of_ble_eq_true rfl, Nat.le_of_ble_eq_true rfl⟩) hh rfl rfl [0, 2, 3, 4, 5, 6, 7] [1] [0, 1, 2, 4] rfl rfl rfl rfl (by decide) rfl rfl hl rfl (Nat.le_of_ble_eq_true rfl) dL_add_5 ⟨Nat.le_of_ble_eq_true rfl, (Nat.le_of_ble_eq_true rfl)⟩ (fun _ _ _ _ _ h => h.elim) (fun v w ty1 H locs hp hh => ?_)
  obtain ⟨q62, q63, rfl, rfl, rfl⟩ := hp
  have hh : kH D kStr e0 A s H [(q24, .inl (y25, 1, .inr (.inl f61))), (q1, .inr (11, [.ref q2, .int 0, .ref q3, .int 3, .ref q4, .ref q5, .ref q6, .int 0])), (q3, .inl (y7, 24, .inr (.inr (.inr (.inr (va_up ((va_up ((va_up ((fun _ => none)) (0 : Int32).toNatClampNeg (some q29))) (1 : Int32).toNatClampNeg (some q39))) (2 : Int32).toNatClampNeg (some q47))))))), (q4, .inr (9, [.ref q8, .int 2, .ref q9, .int 1496, .ref q10, .ref q11])), (q47, .inr (7, [.int 120, .ref q48, .ref q40, .ref q40, .int 0, .int 0, .int 0, .ref q49, .int 1496])), (q8, .inl (y12, 12, .inr (.inr (.inr (.inr (va_up ((va_up ((fun _ => none)) (0 : Int32).toNatClampNeg (some q55))) (1 : Int32).toNatClampNeg (some q62))))))), (q9, .inl (y13, 3000, .inl (fun _ => 0))), (q48, .inl (y50, 748, .inl (fun _ => 0))), (q62, .inr (6, [.int 2, .ref q47, .int 0, .int 0, .ref q63, .int 0]))] [(y7, .object "Segueworks$Piece"), (y12, .object "Segueworks$Item"), (y13, .int), (y25, .long), (y50, .int), (y7, .object "Segueworks$Piece"), (y12, .object "Segueworks$Item"), (y13, .int), (y50, .int)] _ := hh
  refine W.eq (g2 := F0 m 8 ls [.int 1, .int 0, .ref q24]) (by first | rfl | decide) ?_
  refine lv_i2l (v := 1) hx hb dL_add_8 (by decide) ?_
  refine k_last (ws' := [(q24, .inl (y25, 1, .inr (.inl (vp_updL (f61) (0 : Int32).toNatClampNeg 1)))), (q1, .inr (11, [.ref q2, .int 0, .ref q3, .int 3, .ref q4, .ref q5, .ref q6, .int 0])), (q3, .inl (y7, 24, .inr (.inr (.inr (.inr (va_up ((va_up ((va_up ((fun _ => none)) (0 : Int32).toNatClampNeg (some q29))) (1 : Int32).toNatClampNeg (some q39))) (2 : Int32).toNatClampNeg (some q47))))))), (q4, .inr (9, [.ref q8, .int 2, .ref q9, .int 1496, .ref q10, .ref q11])), (q47, .inr (7, [.int 120, .ref q48, .ref q40, .ref q40, .int 0, .int 0, .int 0, .ref q49, .int 1496])), (q8, .inl (y12, 12, .inr (.inr (.inr (.inr (va_up ((va_up ((fun _ => none)) (0 : Int32).toNatClampNeg (some q55))) (1 : Int32).toNatClampNeg (some q62))))))), (q9, .inl (y13, 3000, .inl (fun _ => 0))), (q48, .inl (y50, 748, .inl (fun _ => 0))), (q62, .inr (6, [.int 2, .ref q47, .int 0, .int 0, .ref q63, .int 0]))]) hx hb hh 0 3 rfl rfl (by unfold vp_in; decide) dL_add_9 rfl (fun H locs hh => ?_)
  refine lv_goto (tgt := 29) hx hb dL_add_10 (by decide) ?_
  refine lv_iconst (v := 0) hx hb dL_add_29 (by decide) ?_
  exact k_endi hx hb hr hlocks hh ⟨q62, q63, rfl, rfl, rfl⟩ [1, 0, 2, 3, 4, 5, 6, 7, 8] [3, 0, 1, 2, 4] rfl rfl rfl (Nat.le_of_ble_eq_true rfl) (Nat.le_of_ble_eq_true rfl) dL_add_30
def wo_a102_X11_together : List Cond := [Cond.fieldLink RX11 28 "SegueworksModel" "items" "Ljava/util/ArrayList;", Cond.classLink RX11 145 RX8, Cond.arrayClass .int]
def wk_a102_X11_together : List Cond := Cond.code yX11_together cX11_together 9 (some (.array .int)) :: (wo_a102_X11_together ++ ((u_ws RX11 TX11 11) ++ ((wsV RX11 70 RJx4a65c yJx4a65c_get_915e3 wk_a42_Jx4a65c_get_915e3) ++ ((u_ws RX8 TX8 5) ++ (wsV RX11 104 RX11 yX11_rowOf wk_a91_X11_rowOf)))))
theorem wo_a102_X11_together_in : ∀ w ∈ wo_a102_X11_together, w ∈ wk_a102_X11_together := fun w h => List.mem_cons_of_mem _ (List.mem_append_left _ h)
theorem ws_a102_X11_together_0 : ∀ w ∈ u_ws RX11 TX11 11, w ∈ wk_a102_X11_together := fun w h => List.mem_cons_of_mem _ (List.mem_append_right _ (List.mem_append_left _ h))
theorem gi_a102_X11_together_1 : GoodIn wk_a102_X11_together (wsV RX11 70 RJx4a65c yJx4a65c_get_915e3 wk_a42_Jx4a65c_get_915e3) := fun w h => ⟨List.mem_cons_of_mem _ (List.mem_append_right _ (List.mem_append_right _ (List.mem_append_left _ h))), good_of_word (kg_V gk_a42_Jx4a65c_get_915e3 w h)⟩
theorem ws_a102_X11_together_2 : ∀ w ∈ u_ws RX8 TX8 5, w ∈ wk_a102_X11_together := fun w h => List.mem_cons_of_mem _ (List.mem_append_right _ (List.mem_append_right _ (List.mem_append_right _ (List.mem_append_left _ h))))
theorem gi_a102_X11_together_3 : GoodIn wk_a102_X11_together (wsV RX11 104 RX11 yX11_rowOf wk_a91_X11_rowOf) := fun w h => ⟨List.mem_cons_of_mem _ (List.mem_append_right _ (List.mem_append_right _ (List.mem_append_right _ (List.mem_append_right _ h)))), good_of_word (kg_V gk_a91_X11_rowOf w h)⟩
theorem gk_a102_X11_together : ∀ w ∈ wk_a102_X11_together, goodWord w = true := List.forall_mem_cons.mpr ⟨rfl, (List.forall_mem_append.mpr ⟨(show ∀ w ∈ wo_a102_X11_together, goodWord w = true by decide +kernel), (List.forall_mem_append.mpr ⟨(show ∀ w ∈ u_ws RX11 TX11 11, goodWord w = true by decide +kernel), (List.forall_mem_append.mpr ⟨(kg_V gk_a42_Jx4a65c_get_915e3), (List.forall_mem_append.mpr ⟨(show ∀ w ∈ u_ws RX8 TX8 5, goodWord w = true by decide +kernel), (kg_V gk_a91_X11_rowOf)⟩)⟩)⟩)⟩)⟩
set_option maxHeartbeats 4000000 in
set_option maxRecDepth 100000 in
theorem lp_a102_X11_together (l : Launch) (hst : l.stackTraces = false) {p : Program} {e : Env} {s : State} {m : MethodId} {args : Array Value} {below : List Frame} {meth : Method} {c : Code} {Q : State → Prop} {A : Nat → Prop} (hx : p.tables.exec = Jvm.exec) (hb : c.code = cX11_together) (hts : ∀ w ∈ wk_a102_X11_together, w.before args s = true) (hown : s.vm.findClass RX11 = some m.cls) (hml : c.maxLocals = 9) (D : va_G) (e0 : kE) (q59 : Nat) (q60 : Nat) (q52 : Nat) (y53 : ClassId) (q64 : Nat) (y65 : ClassId) (q15 : Nat) (q16 : Nat) (q17 : Nat) (q18 : Nat) (q19 : Nat) (q20 : Nat) (q21 : Nat) (q22 : Nat) (q23 : Nat) (q33 : Nat) (y34 : ClassId) (q35 : Nat) (q43 : Nat) (q51 : Nat) (q57 : Nat) (y58 : ClassId) (a0 : Nat) (v6 : Int32) (ha : a0 + 748 ≤ 748) (kk : ∀ (H : Heap) (locs : List Loc) (ls : Array Slot), kH D kStr e0 A s H [(q59, .inr (13, [.int 2, .int 0, .int 0, .ref q60, .int 0])), (q52, .inl (y53, 748, .inl (fun _ => 0))), (q64, .inl (y65, 748, .inl (fun _ => 0))), (q15, .inr (16, [.int 0, .ref q16, .ref q17, .ref q18, .ref q19, .ref q20, .ref q21, .ref q22, .ref q23, .int 0, .int 0])), (q17, .inr (4, [.int 3, .ref q33, .int 3])), (q33, .inl (y34, 10, .inr (.inr (.inr (.inr (va_up ((va_up ((va_up ((fun _ => none)) (0 : Int32).toNatClampNeg (some q35))) (1 : Int32).toNatClampNeg (some q43))) (2 : Int32).toNatClampNeg (some q51))))))), (q51, .inr (14, [.int 120, .ref q52])), (q18, .inr (4, [.int 1, .ref q57, .int 1])), (q57, .inl (y58, 10, .inr (.inr (.inr (.inr (va_up ((fun _ => none)) (0 : Int32).toNatClampNeg (some q59)))))))] [(y34, .object "java/lang/Object"), (y53, .int), (y58, .object "java/lang/Object"), (y65, .int)] locs → lv_has ls 9 [(8, .int (nI 748)), (5, .int (nI (a0 + 748))), (7, .ref q52), (6, .int v6), (4, .ref q64), (3, .int 748), (0, .ref q15), (1, .int 0), (2, .int 1)] → W p l e (kRm 4 85 1 748) s m args below meth c H locs 1 748 Q (F0 m 144 ls [])) : ∀ (k i : Nat) (H : Heap) (locs : List Loc) (ls : Array Slot), k + i = 748 → kH D kStr e0 A s H [(q59, .inr (13, [.int 2, .int 0, .int 0, .ref q60, .int 0])), (q52, .inl (y53, 748, .inl (fun _ => 0))), (q64, .inl (y65, 748, .inl (fun _ => 0))), (q15, .inr (16, [.int 0, .ref q16, .ref q17, .ref q18, .ref q19, .ref q20, .ref q21, .ref q22, .ref q23, .int 0, .int 0])), (q17, .inr (4, [.int 3, .ref q33, .int 3])), (q33, .inl (y34, 10, .inr (.inr (.inr (.inr (va_up ((va_up ((va_up ((fun _ => none)) (0 : Int32).toNatClampNeg (some q35))) (1 : Int32).toNatClampNeg (some q43))) (2 : Int32).toNatClampNeg (some q51))))))), (q51, .inr (14, [.int 120, .ref q52])), (q18, .inr (4, [.int 1, .ref q57, .int 1])), (q57, .inl (y58, 10, .inr (.inr (.inr (.inr (va_up ((fun _ => none)) (0 : Int32).toNatClampNeg (some q59)))))))] [(y34, .object "java/lang/Object"), (y53, .int), (y58, .object "java/lang/Object"), (y65, .int)] locs → lv_has ls 9 [(8, .int (nI i)), (5, .int (nI (a0 + i))), (7, .ref q52), (6, .int v6), (4, .ref q64), (3, .int 748), (0, .ref q15), (1, .int 0), (2, .int 1)] → W p l e (kRm 4 85 1 748) s m args below meth c H locs 1 748 Q (F0 m 117 ls []) := by
  intro k
  induction k with
  | zero =>
    intro i H locs ls hi0 hh hl
    obtain rfl : i = 748 := by omega
    have hh : kH D kStr e0 A s H [(q59, .inr (13, [.int 2, .int 0, .int 0, .ref q60, .int 0])), (q52, .inl (y53, 748, .inl (fun _ => 0))), (q64, .inl (y65, 748, .inl (fun _ => 0))), (q15, .inr (16, [.int 0, .ref q16, .ref q17, .ref q18, .ref q19, .ref q20, .ref q21, .ref q22, .ref q23, .int 0, .int 0])), (q17, .inr (4, [.int 3, .ref q33, .int 3])), (q33, .inl (y34, 10, .inr (.inr (.inr (.inr (va_up ((va_up ((va_up ((fun _ => none)) (0 : Int32).toNatClampNeg (some q35))) (1 : Int32).toNatClampNeg (some q43))) (2 : Int32).toNatClampNeg (some q51))))))), (q51, .inr (14, [.int 120, .ref q52])), (q18, .inr (4, [.int 1, .ref q57, .int 1])), (q57, .inl (y58, 10, .inr (.inr (.inr (.inr (va_up ((fun _ => none)) (0 : Int32).toNatClampNeg (some q59)))))))] [(y34, .object "java/lang/Object"), (y53, .int), (y58, .object "java/lang/Object"), (y65, .int)] _ := hh
    have hl : lv_has ls 9 [(8, .int (nI 748)), (5, .int (nI (a0 + 748))), (7, .ref q52), (6, .int v6), (4, .ref q64), (3, .int 748), (0, .ref q15), (1, .int 0), (2, .int 1)] := hl
    refine lv_iload hx hb dX11_together_117 (lv_at hl 0 rfl) ?_
    refine lv_aload hx hb dX11_together_119 (lv_at hl 2 rfl) ?_
    refine k_alen (v := 748) hx hb hh 1 1 rfl rfl rfl dX11_together_121 ?_
    refine lv_icmp_ge (tgt := 144) hx hb dX11_together_122 (by decide) (fun _ => ?_) (fun c_122 => absurd ((show (748 : Int32) ≤ nI 748 by decide)) c_122)
    exact kk _ _ _ hh (lv_sub hl [0, 1, 2, 3, 4, 5, 6, 7, 8] rfl)
  | succ k ih =>
    intro i H locs ls hi0 hh hl
    have hi : i < 748 := by omega
    refine lv_iload hx hb dX11_together_117 (lv_at hl 0 rfl) ?_
    refine lv_aload hx hb dX11_together_119 (lv_at hl 2 rfl) ?_
    refine k_alen (v := 748) hx hb hh 1 1 rfl rfl rfl dX11_together_121 ?_
    refine lv_icmp_ge (tgt := 144) hx hb dX11_together_122 (by decide) (fun c_122 => absurd c_122 ((show ¬ (748 : Int32) ≤ nI i from nI_ge (b := 748) hi (by omega)))) (fun _ => ?_)
    refine lv_aload hx hb dX11_together_125 (lv_at hl 4 rfl) ?_
    refine lv_iload hx hb dX11_together_127 (lv_at hl 1 rfl) ?_
    refine lv_aload hx hb dX11_together_129 (lv_at hl 2 rfl) ?_
    refine lv_iload hx hb dX11_together_131 (lv_at hl 0 rfl) ?_
    refine k_iald (v := 0) hx hb hh 1 1 rfl rfl (vp_in_nI hi (by decide)) rfl dX11_together_133 ?_
    refine k_iast0 hx hb hh 2 3 rfl rfl (vp_in_nI (show a0 + i < 748 by omega) (by decide)) dX11_together_134 (fun H locs hh => ?_)
    refine lv_iinc (v := (nI (a0 + (i + 1)))) (lv' := [(5, .int (nI (a0 + (i + 1)))), (8, .int (nI i)), (7, .ref q52), (6, .int v6), (4, .ref q64), (3, .int 748), (0, .ref q15), (1, .int 0), (2, .int 1)]) hx hb dX11_together_135 hl (k := 1) rfl (nI_1 (a0 + i)) (by decide) rfl (fun ls hl => ?_)
    refine lv_iinc (v := (nI (i + 1))) (lv' := [(8, .int (nI (i + 1))), (5, .int (nI (a0 + (i + 1)))), (7, .ref q52), (6, .int v6), (4, .ref q64), (3, .int 748), (0, .ref q15), (1, .int 0), (2, .int 1)]) hx hb dX11_together_138 hl (k := 1) rfl (nI_1 i) (by decide) rfl (fun ls hl => ?_)
    refine lv_goto (tgt := 117) hx hb dX11_together_141 (by decide) ?_
    exact ih (i + 1) _ _ _ (by omega) (hh.sub [0, 1, 2, 3, 4, 5, 6, 7, 8] [0, 1, 2, 3] rfl rfl rfl) (lv_sub hl [0, 1, 2, 3, 4, 5, 6, 7, 8] rfl)
set_option maxHeartbeats 4000000 in
set_option maxRecDepth 100000 in
theorem a102_X11_together (l : Launch) (hst : l.stackTraces = false) (D : va_G) (e0 : kE) (q15 : Nat) (q16 : Nat) (q17 : Nat) (q18 : Nat) (q19 : Nat) (q20 : Nat) (q21 : Nat) (q22 : Nat) (q23 : Nat) (q33 : Nat) (q57 : Nat) (y34 : ClassId) (q35 : Nat) (q43 : Nat) (q51 : Nat) (y58 : ClassId) (q59 : Nat) (q52 : Nat) (q60 : Nat) (y53 : ClassId)  : kM l yX11_together wk_a102_X11_together 4 85 1 748 D kStr e0 [(y34, .object "java/lang/Object"), (y53, .int), (y58, .object "java/lang/Object")] [(q15, .inr (16, [.int 0, .ref q16, .ref q17, .ref q18, .ref q19, .ref q20, .ref q21, .ref q22, .ref q23, .int 0, .int 0])), (q17, .inr (4, [.int 3, .ref q33, .int 3])), (q18, .inr (4, [.int 1, .ref q57, .int 1])), (q33, .inl (y34, 10, .inr (.inr (.inr (.inr (va_up ((va_up ((va_up ((fun _ => none)) (0 : Int32).toNatClampNeg (some q35))) (1 : Int32).toNatClampNeg (some q43))) (2 : Int32).toNatClampNeg (some q51))))))), (q57, .inl (y58, 10, .inr (.inr (.inr (.inr (va_up ((fun _ => none)) (0 : Int32).toNatClampNeg (some q59))))))), (q51, .inr (14, [.int 120, .ref q52])), (q59, .inr (13, [.int 2, .int 0, .int 0, .ref q60, .int 0])), (q52, .inl (y53, 748, .inl (fun _ => 0)))] [.ref q15, .int 0, .int 1] (fun v w t => ∃ (q64 : Nat), ∃ (y65 : ClassId), v = some (.ref q64) ∧ w = [(q15, .inr (16, [.int 0, .ref q16, .ref q17, .ref q18, .ref q19, .ref q20, .ref q21, .ref q22, .ref q23, .int 0, .int 0])), (q17, .inr (4, [.int 3, .ref q33, .int 3])), (q18, .inr (4, [.int 1, .ref q57, .int 1])), (q33, .inl (y34, 10, .inr (.inr (.inr (.inr (va_up ((va_up ((va_up ((fun _ => none)) (0 : Int32).toNatClampNeg (some q35))) (1 : Int32).toNatClampNeg (some q43))) (2 : Int32).toNatClampNeg (some q51))))))), (q57, .inl (y58, 10, .inr (.inr (.inr (.inr (va_up ((fun _ => none)) (0 : Int32).toNatClampNeg (some q59))))))), (q51, .inr (14, [.int 120, .ref q52])), (q59, .inr (13, [.int 2, .int 0, .int 0, .ref q60, .int 0])), (q52, .inl (y53, 748, .inl (fun _ => 0))), (q64, .inl (y65, 748, .inl (fun _ => 0)))] ∧ t = [(y34, .object "java/lang/Object"), (y58, .object "java/lang/Object"), (y53, .int), (y65, .int)]) (fun _ => False) := by
  refine k_of (cc := cX11_together) (maxL := 9) (ret := (some (.array .int))) (by decide) rfl (Nat.le_of_ble_eq_true rfl) ?_
  intro p e s m args below meth c A ls hx hb hr hts hown hlocks hml hex hh hl
  have hown : s.vm.findClass RX11 = some m.cls := hown
  have hl : lv_has ls 9 [(0, .ref q15), (1, .int 0), (2, .int 1)] := hl
  refine lv_iconst (v := 0) hx hb dX11_together_0 (by decide) ?_
  refine lv_istore_n (lv' := [(3, .int 0), (0, .ref q15), (1, .int 0), (2, .int 1)]) hx hb dX11_together_1 rfl hl (by decide) rfl (fun ls hl => ?_)
  refine lv_iload_n hx hb dX11_together_2 rfl (lv_at hl 2 rfl) ?_
  refine lv_istore (lv' := [(4, .int 0), (3, .int 0), (0, .ref q15), (1, .int 0), (2, .int 1)]) hx hb dX11_together_3 hl (by decide) rfl (fun ls hl => ?_)
  refine lv_iload hx hb dX11_together_5 (lv_at hl 0 rfl) ?_
  refine lv_iload_n hx hb dX11_together_7 rfl (lv_at hl 4 rfl) ?_
  refine lv_icmp_ge (tgt := 56) hx hb dX11_together_8 (by decide) (fun c_8 => absurd c_8 (by decide)) (fun _ => ?_)
  refine lv_iload_n hx hb dX11_together_11 rfl (lv_at hl 1 rfl) ?_
  refine lv_aload_n hx hb dX11_together_12 rfl (lv_at hl 2 rfl) ?_
  refine k_get (C := RX11) (T := TX11) (N := 11) (ci := 16) (v := .ref q18) hx hb hts ws_a102_X11_together_0 hown hh 0 rfl rfl 3 (by decide) (hts _ (wo_a102_X11_together_in _ (List.mem_of_getElem? (i := 0) rfl))) rfl dX11_together_13 ?_
  refine lv_iload hx hb dX11_together_16 (lv_at hl 0 rfl) ?_
  refine k_callV (C := RJx4a65c) (T := TJx4a65c) (N := 3) (ci := 4) (q0 := 2) (wr := [(q15, .inr (16, [.int 0, .ref q16, .ref q17, .ref q18, .ref q19, .ref q20, .ref q21, .ref q22, .ref q23, .int 0, .int 0])), (q17, .inr (4, [.int 3, .ref q33, .int 3])), (q33, .inl (y34, 10, .inr (.inr (.inr (.inr (va_up ((va_up ((va_up ((fun _ => none)) (0 : Int32).toNatClampNeg (some q35))) (1 : Int32).toNatClampNeg (some q43))) (2 : Int32).toNatClampNeg (some q51))))))), (q51, .inr (14, [.int 120, .ref q52])), (q59, .inr (13, [.int 2, .int 0, .int 0, .ref q60, .int 0])), (q52, .inl (y53, 748, .inl (fun _ => 0)))]) (rest := [.int 0]) (own := RX11) ⟨hx, hb, hml, hown, hts⟩ (a42_Jx4a65c_get_915e3 l hst D e0 q18 q57 y58 q59 ) (cwV 1 hts gi_a102_X11_together_1 rfl rfl rfl (by decide +kernel) ⟨Nat.le_of_ble_eq_true rfl, Nat.le_of_ble_eq_true rfl⟩) hh rfl rfl [2, 4] [0, 1, 3, 5, 6, 7] [2] rfl rfl rfl rfl (by decide) rfl rfl hl rfl (Nat.le_of_ble_eq_true rfl) dX11_together_18 ⟨Nat.le_of_ble_eq_true rfl, (Nat.le_of_ble_eq_true rfl)⟩ (fun _ _ _ _ _ h => h.elim) (fun v w ty1 H locs hp hh => ?_)
  obtain ⟨rfl, rfl, rfl⟩ := hp
  have hh : kH D kStr e0 A s H [(q15, .inr (16, [.int 0, .ref q16, .ref q17, .ref q18, .ref q19, .ref q20, .ref q21, .ref q22, .ref q23, .int 0, .int 0])), (q17, .inr (4, [.int 3, .ref q33, .int 3])), (q33, .inl (y34, 10, .inr (.inr (.inr (.inr (va_up ((va_up ((va_up ((fun _ => none)) (0 : Int32).toNatClampNeg (some q35))) (1 : Int32).toNatClampNeg (some q43))) (2 : Int32).toNatClampNeg (some q51))))))), (q51, .inr (14, [.int 120, .ref q52])), (q59, .inr (13, [.int 2, .int 0, .int 0, .ref q60, .int 0])), (q52, .inl (y53, 748, .inl (fun _ => 0))), (q18, .inr (4, [.int 1, .ref q57, .int 1])), (q57, .inl (y58, 10, .inr (.inr (.inr (.inr (va_up ((fun _ => none)) (0 : Int32).toNatClampNeg (some q59)))))))] [(y34, .object "java/lang/Object"), (y53, .int), (y58, .object "java/lang/Object"), (y58, .object "java/lang/Object")] _ := hh
  refine W.eq (g2 := F0 m 21 ls [.ref q59, .int 0]) (by first | rfl | decide) ?_
  refine k_castS (C := RX8) (T := TX8) (N := 5) (ci := 13) hx hb hown (hts _ (wo_a102_X11_together_in _ (List.mem_of_getElem? (i := 1) rfl))) hh 4 rfl rfl dX11_together_21 ?_
  refine k_getN (host := RX11) (C := RX8) (T := TX8) (N := 5) (ci := 13) (v := .int 0) hx hb hts ws_a102_X11_together_2 hown hh 4 rfl rfl 1 (by decide) (kNest_word hh (q := (147, "SegueworksModel$Item", "gap", "I")) (by decide)) rfl dX11_together_24 ?_
  refine lv_aload_n hx hb dX11_together_27 rfl (lv_at hl 2 rfl) ?_
  refine lv_aload_n hx hb dX11_together_28 rfl (lv_at hl 2 rfl) ?_
  refine k_get (C := RX11) (T := TX11) (N := 11) (ci := 16) (v := .ref q18) hx hb hts ws_a102_X11_together_0 hown hh 0 rfl rfl 3 (by decide) (hts _ (wo_a102_X11_together_in _ (List.mem_of_getElem? (i := 0) rfl))) rfl dX11_together_29 ?_
  refine lv_iload hx hb dX11_together_32 (lv_at hl 0 rfl) ?_
  refine k_callV (C := RJx4a65c) (T := TJx4a65c) (N := 3) (ci := 4) (q0 := 6) (wr := [(q15, .inr (16, [.int 0, .ref q16, .ref q17, .ref q18, .ref q19, .ref q20, .ref q21, .ref q22, .ref q23, .int 0, .int 0])), (q17, .inr (4, [.int 3, .ref q33, .int 3])), (q33, .inl (y34, 10, .inr (.inr (.inr (.inr (va_up ((va_up ((va_up ((fun _ => none)) (0 : Int32).toNatClampNeg (some q35))) (1 : Int32).toNatClampNeg (some q43))) (2 : Int32).toNatClampNeg (some q51))))))), (q51, .inr (14, [.int 120, .ref q52])), (q59, .inr (13, [.int 2, .int 0, .int 0, .ref q60, .int 0])), (q52, .inl (y53, 748, .inl (fun _ => 0)))]) (rest := [.ref q15, .int 0, .int 0]) (own := RX11) ⟨hx, hb, hml, hown, hts⟩ (a42_Jx4a65c_get_915e3 l hst D e0 q18 q57 y58 q59 ) (cwV 1 hts gi_a102_X11_together_1 rfl rfl rfl (by decide +kernel) ⟨Nat.le_of_ble_eq_true rfl, Nat.le_of_ble_eq_true rfl⟩) hh rfl rfl [6, 7] [0, 1, 2, 3, 4, 5] [2] rfl rfl rfl rfl (by decide) rfl rfl hl rfl (Nat.le_of_ble_eq_true rfl) dX11_together_34 ⟨Nat.le_of_ble_eq_true rfl, (Nat.le_of_ble_eq_true rfl)⟩ (fun _ _ _ _ _ h => h.elim) (fun v w ty1 H locs hp hh => ?_)
  obtain ⟨rfl, rfl, rfl⟩ := hp
  have hh : kH D kStr e0 A s H [(q15, .inr (16, [.int 0, .ref q16, .ref q17, .ref q18, .ref q19, .ref q20, .ref q21, .ref q22, .ref q23, .int 0, .int 0])), (q17, .inr (4, [.int 3, .ref q33, .int 3])), (q33, .inl (y34, 10, .inr (.inr (.inr (.inr (va_up ((va_up ((va_up ((fun _ => none)) (0 : Int32).toNatClampNeg (some q35))) (1 : Int32).toNatClampNeg (some q43))) (2 : Int32).toNatClampNeg (some q51))))))), (q51, .inr (14, [.int 120, .ref q52])), (q59, .inr (13, [.int 2, .int 0, .int 0, .ref q60, .int 0])), (q52, .inl (y53, 748, .inl (fun _ => 0))), (q18, .inr (4, [.int 1, .ref q57, .int 1])), (q57, .inl (y58, 10, .inr (.inr (.inr (.inr (va_up ((fun _ => none)) (0 : Int32).toNatClampNeg (some q59)))))))] [(y34, .object "java/lang/Object"), (y53, .int), (y58, .object "java/lang/Object"), (y58, .object "java/lang/Object"), (y58, .object "java/lang/Object")] _ := hh
  refine W.eq (g2 := F0 m 37 ls [.ref q59, .ref q15, .int 0, .int 0]) (by first | rfl | decide) ?_
  refine k_castS (C := RX8) (T := TX8) (N := 5) (ci := 13) hx hb hown (hts _ (wo_a102_X11_together_in _ (List.mem_of_getElem? (i := 1) rfl))) hh 4 rfl rfl dX11_together_37 ?_
  refine k_getN (host := RX11) (C := RX8) (T := TX8) (N := 5) (ci := 13) (v := .int 2) hx hb hts ws_a102_X11_together_2 hown hh 4 rfl rfl 0 (by decide) (kNest_word hh (q := (150, "SegueworksModel$Item", "piece", "I")) (by decide)) rfl dX11_together_40 ?_
  refine k_callV (C := RX11) (T := TX11) (N := 11) (ci := 16) (q0 := 0) (wr := [(q59, .inr (13, [.int 2, .int 0, .int 0, .ref q60, .int 0])), (q52, .inl (y53, 748, .inl (fun _ => 0))), (q18, .inr (4, [.int 1, .ref q57, .int 1])), (q57, .inl (y58, 10, .inr (.inr (.inr (.inr (va_up ((fun _ => none)) (0 : Int32).toNatClampNeg (some q59)))))))]) (rest := [.int 0, .int 0]) (own := RX11) ⟨hx, hb, hml, hown, hts⟩ (a91_X11_rowOf l hst D e0 q15 q16 q17 q18 q19 q20 q21 q22 q23 q33 y34 q35 q43 q51 q52 ) (cwV 1 hts gi_a102_X11_together_3 rfl rfl rfl (by decide +kernel) ⟨Nat.le_of_ble_eq_true rfl, Nat.le_of_ble_eq_true rfl⟩) hh rfl rfl [0, 1, 2, 3] [4, 5, 6, 7] [0] rfl rfl rfl rfl (by decide) rfl rfl hl rfl (Nat.le_of_ble_eq_true rfl) dX11_together_43 ⟨Nat.le_of_ble_eq_true rfl, (Nat.le_of_ble_eq_true rfl)⟩ (fun _ _ _ _ _ h => h.elim) (fun v w ty1 H locs hp hh => ?_)
  obtain ⟨rfl, rfl, rfl⟩ := hp
  have hh : kH D kStr e0 A s H [(q59, .inr (13, [.int 2, .int 0, .int 0, .ref q60, .int 0])), (q52, .inl (y53, 748, .inl (fun _ => 0))), (q18, .inr (4, [.int 1, .ref q57, .int 1])), (q57, .inl (y58, 10, .inr (.inr (.inr (.inr (va_up ((fun _ => none)) (0 : Int32).toNatClampNeg (some q59))))))), (q15, .inr (16, [.int 0, .ref q16, .ref q17, .ref q18, .ref q19, .ref q20, .ref q21, .ref q22, .ref q23, .int 0, .int 0])), (q17, .inr (4, [.int 3, .ref q33, .int 3])), (q33, .inl (y34, 10, .inr (.inr (.inr (.inr (va_up ((va_up ((va_up ((fun _ => none)) (0 : Int32).toNatClampNeg (some q35))) (1 : Int32).toNatClampNeg (some q43))) (2 : Int32).toNatClampNeg (some q51))))))), (q51, .inr (14, [.int 120, .ref q52]))] [(y34, .object "java/lang/Object"), (y53, .int), (y58, .object "java/lang/Object"), (y58, .object "java/lang/Object"), (y58, .object "java/lang/Object"), (y34, .object "java/lang/Object")] _ := hh
  refine W.eq (g2 := F0 m 46 ls [.ref q52, .int 0, .int 0]) (by first | rfl | decide) ?_
  refine k_alen (v := 748) hx hb hh 1 1 rfl rfl rfl dX11_together_46 ?_
  refine lv_iadd hx hb dX11_together_47 ?_
  refine W.eq (g2 := F0 m 48 ls [.int 748, .int 0]) (by first | rfl | decide) ?_
  refine lv_iadd hx hb dX11_together_48 ?_
  refine W.eq (g2 := F0 m 49 ls [.int 748]) (by first | rfl | decide) ?_
  refine lv_istore_n (lv' := [(3, .int 748), (4, .int 0), (0, .ref q15), (1, .int 0), (2, .int 1)]) hx hb dX11_together_49 rfl hl (by decide) rfl (fun ls hl => ?_)
  refine lv_iinc (v := 1) (lv' := [(4, .int 1), (3, .int 748), (0, .ref q15), (1, .int 0), (2, .int 1)]) hx hb dX11_together_50 hl (k := 1) rfl (by first | rfl | decide) (by decide) rfl (fun ls hl => ?_)
  refine lv_goto (tgt := 5) hx hb dX11_together_53 (by decide) ?_
  refine lv_iload hx hb dX11_together_5 (lv_at hl 0 rfl) ?_
  refine lv_iload_n hx hb dX11_together_7 rfl (lv_at hl 4 rfl) ?_
  refine lv_icmp_ge (tgt := 56) hx hb dX11_together_8 (by decide) (fun _ => ?_) (fun c_8 => absurd (by decide) c_8)
  refine lv_iload_n hx hb dX11_together_56 rfl (lv_at hl 1 rfl) ?_
  refine k_newa (atype := .int) (ty := .int) (N' := 748) (a0 := (748, .inl (fun _ => 0))) hx hb (hts _ (wo_a102_X11_together_in _ (List.mem_of_getElem? (i := 2) rfl))) rfl hh (fun cA => rfl) (by decide) (by decide) (Nat.le_of_ble_eq_true rfl) (Nat.le_of_ble_eq_true rfl) (Nat.le_of_ble_eq_true rfl) dX11_together_57 (fun q64 y65 H hh => ?_)
  have hh : kH D kStr e0 A s H [(q59, .inr (13, [.int 2, .int 0, .int 0, .ref q60, .int 0])), (q52, .inl (y53, 748, .inl (fun _ => 0))), (q18, .inr (4, [.int 1, .ref q57, .int 1])), (q57, .inl (y58, 10, .inr (.inr (.inr (.inr (va_up ((fun _ => none)) (0 : Int32).toNatClampNeg (some q59))))))), (q15, .inr (16, [.int 0, .ref q16, .ref q17, .ref q18, .ref q19, .ref q20, .ref q21, .ref q22, .ref q23, .int 0, .int 0])), (q17, .inr (4, [.int 3, .ref q33, .int 3])), (q33, .inl (y34, 10, .inr (.inr (.inr (.inr (va_up ((va_up ((va_up ((fun _ => none)) (0 : Int32).toNatClampNeg (some q35))) (1 : Int32).toNatClampNeg (some q43))) (2 : Int32).toNatClampNeg (some q51))))))), (q51, .inr (14, [.int 120, .ref q52])), (q64, .inl (y65, 748, .inl (fun _ => 0)))] [(y34, .object "java/lang/Object"), (y53, .int), (y58, .object "java/lang/Object"), (y58, .object "java/lang/Object"), (y58, .object "java/lang/Object"), (y34, .object "java/lang/Object"), (y65, .int)] _ := hh
  refine lv_astore (lv' := [(4, .ref q64), (3, .int 748), (0, .ref q15), (1, .int 0), (2, .int 1)]) hx hb dX11_together_59 hl (by decide) rfl (fun ls hl => ?_)
  refine lv_iconst (v := 0) hx hb dX11_together_61 (by decide) ?_
  refine lv_istore (lv' := [(5, .int 0), (4, .ref q64), (3, .int 748), (0, .ref q15), (1, .int 0), (2, .int 1)]) hx hb dX11_together_62 hl (by decide) rfl (fun ls hl => ?_)
  refine lv_iload_n hx hb dX11_together_64 rfl (lv_at hl 4 rfl) ?_
  refine lv_istore (lv' := [(6, .int 0), (5, .int 0), (4, .ref q64), (3, .int 748), (0, .ref q15), (1, .int 0), (2, .int 1)]) hx hb dX11_together_65 hl (by decide) rfl (fun ls hl => ?_)
  refine lv_iload hx hb dX11_together_67 (lv_at hl 0 rfl) ?_
  refine lv_iload_n hx hb dX11_together_69 rfl (lv_at hl 6 rfl) ?_
  refine lv_icmp_ge (tgt := 150) hx hb dX11_together_70 (by decide) (fun c_70 => absurd c_70 (by decide)) (fun _ => ?_)
  refine lv_aload_n hx hb dX11_together_73 rfl (lv_at hl 4 rfl) ?_
  refine lv_aload_n hx hb dX11_together_74 rfl (lv_at hl 4 rfl) ?_
  refine k_get (C := RX11) (T := TX11) (N := 11) (ci := 16) (v := .ref q18) hx hb hts ws_a102_X11_together_0 hown hh 4 rfl rfl 3 (by decide) (hts _ (wo_a102_X11_together_in _ (List.mem_of_getElem? (i := 0) rfl))) rfl dX11_together_75 ?_
  refine lv_iload hx hb dX11_together_78 (lv_at hl 0 rfl) ?_
  refine k_callV (C := RJx4a65c) (T := TJx4a65c) (N := 3) (ci := 4) (q0 := 2) (wr := [(q59, .inr (13, [.int 2, .int 0, .int 0, .ref q60, .int 0])), (q52, .inl (y53, 748, .inl (fun _ => 0))), (q15, .inr (16, [.int 0, .ref q16, .ref q17, .ref q18, .ref q19, .ref q20, .ref q21, .ref q22, .ref q23, .int 0, .int 0])), (q17, .inr (4, [.int 3, .ref q33, .int 3])), (q33, .inl (y34, 10, .inr (.inr (.inr (.inr (va_up ((va_up ((va_up ((fun _ => none)) (0 : Int32).toNatClampNeg (some q35))) (1 : Int32).toNatClampNeg (some q43))) (2 : Int32).toNatClampNeg (some q51))))))), (q51, .inr (14, [.int 120, .ref q52])), (q64, .inl (y65, 748, .inl (fun _ => 0)))]) (rest := [.ref q15]) (own := RX11) ⟨hx, hb, hml, hown, hts⟩ (a42_Jx4a65c_get_915e3 l hst D e0 q18 q57 y58 q59 ) (cwV 1 hts gi_a102_X11_together_1 rfl rfl rfl (by decide +kernel) ⟨Nat.le_of_ble_eq_true rfl, Nat.le_of_ble_eq_true rfl⟩) hh rfl rfl [2, 3] [0, 1, 4, 5, 6, 7, 8] [2] rfl rfl rfl rfl (by decide) rfl rfl hl rfl (Nat.le_of_ble_eq_true rfl) dX11_together_80 ⟨Nat.le_of_ble_eq_true rfl, (Nat.le_of_ble_eq_true rfl)⟩ (fun _ _ _ _ _ h => h.elim) (fun v w ty1 H locs hp hh => ?_)
  obtain ⟨rfl, rfl, rfl⟩ := hp
  have hh : kH D kStr e0 A s H [(q59, .inr (13, [.int 2, .int 0, .int 0, .ref q60, .int 0])), (q52, .inl (y53, 748, .inl (fun _ => 0))), (q15, .inr (16, [.int 0, .ref q16, .ref q17, .ref q18, .ref q19, .ref q20, .ref q21, .ref q22, .ref q23, .int 0, .int 0])), (q17, .inr (4, [.int 3, .ref q33, .int 3])), (q33, .inl (y34, 10, .inr (.inr (.inr (.inr (va_up ((va_up ((va_up ((fun _ => none)) (0 : Int32).toNatClampNeg (some q35))) (1 : Int32).toNatClampNeg (some q43))) (2 : Int32).toNatClampNeg (some q51))))))), (q51, .inr (14, [.int 120, .ref q52])), (q64, .inl (y65, 748, .inl (fun _ => 0))), (q18, .inr (4, [.int 1, .ref q57, .int 1])), (q57, .inl (y58, 10, .inr (.inr (.inr (.inr (va_up ((fun _ => none)) (0 : Int32).toNatClampNeg (some q59)))))))] [(y34, .object "java/lang/Object"), (y53, .int), (y58, .object "java/lang/Object"), (y58, .object "java/lang/Object"), (y58, .object "java/lang/Object"), (y34, .object "java/lang/Object"), (y65, .int), (y58, .object "java/lang/Object")] _ := hh
  refine W.eq (g2 := F0 m 83 ls [.ref q59, .ref q15]) (by first | rfl | decide) ?_
  refine k_castS (C := RX8) (T := TX8) (N := 5) (ci := 13) hx hb hown (hts _ (wo_a102_X11_together_in _ (List.mem_of_getElem? (i := 1) rfl))) hh 0 rfl rfl dX11_together_83 ?_
  refine k_getN (host := RX11) (C := RX8) (T := TX8) (N := 5) (ci := 13) (v := .int 2) hx hb hts ws_a102_X11_together_2 hown hh 0 rfl rfl 0 (by decide) (kNest_word hh (q := (150, "SegueworksModel$Item", "piece", "I")) (by decide)) rfl dX11_together_86 ?_
  refine k_callV (C := RX11) (T := TX11) (N := 11) (ci := 16) (q0 := 2) (wr := [(q59, .inr (13, [.int 2, .int 0, .int 0, .ref q60, .int 0])), (q52, .inl (y53, 748, .inl (fun _ => 0))), (q64, .inl (y65, 748, .inl (fun _ => 0))), (q18, .inr (4, [.int 1, .ref q57, .int 1])), (q57, .inl (y58, 10, .inr (.inr (.inr (.inr (va_up ((fun _ => none)) (0 : Int32).toNatClampNeg (some q59)))))))]) (rest := []) (own := RX11) ⟨hx, hb, hml, hown, hts⟩ (a91_X11_rowOf l hst D e0 q15 q16 q17 q18 q19 q20 q21 q22 q23 q33 y34 q35 q43 q51 q52 ) (cwV 1 hts gi_a102_X11_together_3 rfl rfl rfl (by decide +kernel) ⟨Nat.le_of_ble_eq_true rfl, Nat.le_of_ble_eq_true rfl⟩) hh rfl rfl [2, 3, 4, 5] [0, 1, 6, 7, 8] [0] rfl rfl rfl rfl (by decide) rfl rfl hl rfl (Nat.le_of_ble_eq_true rfl) dX11_together_89 ⟨Nat.le_of_ble_eq_true rfl, (Nat.le_of_ble_eq_true rfl)⟩ (fun _ _ _ _ _ h => h.elim) (fun v w ty1 H locs hp hh => ?_)
  obtain ⟨rfl, rfl, rfl⟩ := hp
  have hh : kH D kStr e0 A s H [(q59, .inr (13, [.int 2, .int 0, .int 0, .ref q60, .int 0])), (q52, .inl (y53, 748, .inl (fun _ => 0))), (q64, .inl (y65, 748, .inl (fun _ => 0))), (q18, .inr (4, [.int 1, .ref q57, .int 1])), (q57, .inl (y58, 10, .inr (.inr (.inr (.inr (va_up ((fun _ => none)) (0 : Int32).toNatClampNeg (some q59))))))), (q15, .inr (16, [.int 0, .ref q16, .ref q17, .ref q18, .ref q19, .ref q20, .ref q21, .ref q22, .ref q23, .int 0, .int 0])), (q17, .inr (4, [.int 3, .ref q33, .int 3])), (q33, .inl (y34, 10, .inr (.inr (.inr (.inr (va_up ((va_up ((va_up ((fun _ => none)) (0 : Int32).toNatClampNeg (some q35))) (1 : Int32).toNatClampNeg (some q43))) (2 : Int32).toNatClampNeg (some q51))))))), (q51, .inr (14, [.int 120, .ref q52]))] [(y34, .object "java/lang/Object"), (y53, .int), (y58, .object "java/lang/Object"), (y58, .object "java/lang/Object"), (y58, .object "java/lang/Object"), (y34, .object "java/lang/Object"), (y65, .int), (y58, .object "java/lang/Object"), (y34, .object "java/lang/Object")] _ := hh
  refine W.eq (g2 := F0 m 92 ls [.ref q52]) (by first | rfl | decide) ?_
  refine lv_astore (lv' := [(7, .ref q52), (6, .int 0), (5, .int 0), (4, .ref q64), (3, .int 748), (0, .ref q15), (1, .int 0), (2, .int 1)]) hx hb dX11_together_92 hl (by decide) rfl (fun ls hl => ?_)
  refine lv_iload hx hb dX11_together_94 (lv_at hl 2 rfl) ?_
  refine lv_aload_n hx hb dX11_together_96 rfl (lv_at hl 5 rfl) ?_
  refine k_get (C := RX11) (T := TX11) (N := 11) (ci := 16) (v := .ref q18) hx hb hts ws_a102_X11_together_0 hown hh 5 rfl rfl 3 (by decide) (hts _ (wo_a102_X11_together_in _ (List.mem_of_getElem? (i := 0) rfl))) rfl dX11_together_97 ?_
  refine lv_iload hx hb dX11_together_100 (lv_at hl 1 rfl) ?_
  refine k_callV (C := RJx4a65c) (T := TJx4a65c) (N := 3) (ci := 4) (q0 := 3) (wr := [(q59, .inr (13, [.int 2, .int 0, .int 0, .ref q60, .int 0])), (q52, .inl (y53, 748, .inl (fun _ => 0))), (q64, .inl (y65, 748, .inl (fun _ => 0))), (q15, .inr (16, [.int 0, .ref q16, .ref q17, .ref q18, .ref q19, .ref q20, .ref q21, .ref q22, .ref q23, .int 0, .int 0])), (q17, .inr (4, [.int 3, .ref q33, .int 3])), (q33, .inl (y34, 10, .inr (.inr (.inr (.inr (va_up ((va_up ((va_up ((fun _ => none)) (0 : Int32).toNatClampNeg (some q35))) (1 : Int32).toNatClampNeg (some q43))) (2 : Int32).toNatClampNeg (some q51))))))), (q51, .inr (14, [.int 120, .ref q52]))]) (rest := [.int 0]) (own := RX11) ⟨hx, hb, hml, hown, hts⟩ (a42_Jx4a65c_get_915e3 l hst D e0 q18 q57 y58 q59 ) (cwV 1 hts gi_a102_X11_together_1 rfl rfl rfl (by decide +kernel) ⟨Nat.le_of_ble_eq_true rfl, Nat.le_of_ble_eq_true rfl⟩) hh rfl rfl [3, 4] [0, 1, 2, 5, 6, 7, 8] [2] rfl rfl rfl rfl (by decide) rfl rfl hl rfl (Nat.le_of_ble_eq_true rfl) dX11_together_102 ⟨Nat.le_of_ble_eq_true rfl, (Nat.le_of_ble_eq_true rfl)⟩ (fun _ _ _ _ _ h => h.elim) (fun v w ty1 H locs hp hh => ?_)
  obtain ⟨rfl, rfl, rfl⟩ := hp
  have hh : kH D kStr e0 A s H [(q59, .inr (13, [.int 2, .int 0, .int 0, .ref q60, .int 0])), (q52, .inl (y53, 748, .inl (fun _ => 0))), (q64, .inl (y65, 748, .inl (fun _ => 0))), (q15, .inr (16, [.int 0, .ref q16, .ref q17, .ref q18, .ref q19, .ref q20, .ref q21, .ref q22, .ref q23, .int 0, .int 0])), (q17, .inr (4, [.int 3, .ref q33, .int 3])), (q33, .inl (y34, 10, .inr (.inr (.inr (.inr (va_up ((va_up ((va_up ((fun _ => none)) (0 : Int32).toNatClampNeg (some q35))) (1 : Int32).toNatClampNeg (some q43))) (2 : Int32).toNatClampNeg (some q51))))))), (q51, .inr (14, [.int 120, .ref q52])), (q18, .inr (4, [.int 1, .ref q57, .int 1])), (q57, .inl (y58, 10, .inr (.inr (.inr (.inr (va_up ((fun _ => none)) (0 : Int32).toNatClampNeg (some q59)))))))] [(y34, .object "java/lang/Object"), (y53, .int), (y58, .object "java/lang/Object"), (y58, .object "java/lang/Object"), (y58, .object "java/lang/Object"), (y34, .object "java/lang/Object"), (y65, .int), (y58, .object "java/lang/Object"), (y34, .object "java/lang/Object"), (y58, .object "java/lang/Object")] _ := hh
  refine W.eq (g2 := F0 m 105 ls [.ref q59, .int 0]) (by first | rfl | decide) ?_
  refine k_castS (C := RX8) (T := TX8) (N := 5) (ci := 13) hx hb hown (hts _ (wo_a102_X11_together_in _ (List.mem_of_getElem? (i := 1) rfl))) hh 0 rfl rfl dX11_together_105 ?_
  refine k_getN (host := RX11) (C := RX8) (T := TX8) (N := 5) (ci := 13) (v := .int 0) hx hb hts ws_a102_X11_together_2 hown hh 0 rfl rfl 1 (by decide) (kNest_word hh (q := (147, "SegueworksModel$Item", "gap", "I")) (by decide)) rfl dX11_together_108 ?_
  refine lv_iadd hx hb dX11_together_111 ?_
  refine W.eq (g2 := F0 m 112 ls [.int 0]) (by first | rfl | decide) ?_
  refine lv_istore (lv' := [(5, .int 0), (7, .ref q52), (6, .int 0), (4, .ref q64), (3, .int 748), (0, .ref q15), (1, .int 0), (2, .int 1)]) hx hb dX11_together_112 hl (by decide) rfl (fun ls hl => ?_)
  refine lv_iconst (v := 0) hx hb dX11_together_114 (by decide) ?_
  refine lv_istore (lv' := [(8, .int 0), (5, .int 0), (7, .ref q52), (6, .int 0), (4, .ref q64), (3, .int 748), (0, .ref q15), (1, .int 0), (2, .int 1)]) hx hb dX11_together_115 hl (by decide) rfl (fun ls hl => ?_)
  refine lp_a102_X11_together l hst hx hb hts hown hml D e0 q59 q60 q52 y53 q64 y65 q15 q16 q17 q18 q19 q20 q21 q22 q23 q33 y34 q35 q43 q51 q57 y58 0 0 (by decide) (fun H locs ls hh hl => ?_) 748 0 _ _ _ (by omega) (hh.sub [0, 1, 2, 3, 4, 5, 6, 7, 8] [0, 1, 2, 6] rfl rfl rfl) (lv_sub hl [0, 1, 2, 3, 4, 5, 6, 7, 8] rfl)
  have hh : kH D kStr e0 A s H [(q59, .inr (13, [.int 2, .int 0, .int 0, .ref q60, .int 0])), (q52, .inl (y53, 748, .inl (fun _ => 0))), (q64, .inl (y65, 748, .inl (fun _ => 0))), (q15, .inr (16, [.int 0, .ref q16, .ref q17, .ref q18, .ref q19, .ref q20, .ref q21, .ref q22, .ref q23, .int 0, .int 0])), (q17, .inr (4, [.int 3, .ref q33, .int 3])), (q33, .inl (y34, 10, .inr (.inr (.inr (.inr (va_up ((va_up ((va_up ((fun _ => none)) (0 : Int32).toNatClampNeg (some q35))) (1 : Int32).toNatClampNeg (some q43))) (2 : Int32).toNatClampNeg (some q51))))))), (q51, .inr (14, [.int 120, .ref q52])), (q18, .inr (4, [.int 1, .ref q57, .int 1])), (q57, .inl (y58, 10, .inr (.inr (.inr (.inr (va_up ((fun _ => none)) (0 : Int32).toNatClampNeg (some q59)))))))] [(y34, .object "java/lang/Object"), (y53, .int), (y58, .object "java/lang/Object"), (y65, .int)] _ := hh
  have hl : lv_has ls 9 [(8, .int (nI 748)), (5, .int 748), (7, .ref q52), (6, .int 0), (4, .ref q64), (3, .int 748), (0, .ref q15), (1, .int 0), (2, .int 1)] := hl
  refine lv_iinc (v := 1) (lv' := [(6, .int 1), (8, .int (nI 748)), (5, .int 748), (7, .ref q52), (4, .ref q64), (3, .int 748), (0, .ref q15), (1, .int 0), (2, .int 1)]) hx hb dX11_together_144 hl (k := 3) rfl (by first | rfl | decide) (by decide) rfl (fun ls hl => ?_)
  refine lv_goto (tgt := 67) hx hb dX11_together_147 (by decide) ?_
  refine lv_iload hx hb dX11_together_67 (lv_at hl 0 rfl) ?_
  refine lv_iload_n hx hb dX11_together_69 rfl (lv_at hl 8 rfl) ?_
  refine lv_icmp_ge (tgt := 150) hx hb dX11_together_70 (by decide) (fun _ => ?_) (fun c_70 => absurd (by decide) c_70)
  refine lv_aload hx hb dX11_together_150 (lv_at hl 4 rfl) ?_
  exact k_enda (by first | exact Or.inl ⟨_, rfl⟩ | exact Or.inr ⟨_, rfl⟩) (by first | exact Or.inr ⟨_, rfl⟩ | exact Or.inl rfl) hx hb hr hlocks hh ⟨q64, y65, rfl, rfl, rfl⟩ [3, 4, 7, 5, 8, 6, 0, 1, 2] [0, 2, 1, 3] rfl rfl rfl (Nat.le_of_ble_eq_true rfl) (Nat.le_of_ble_eq_true rfl) dX11_together_152
def wo_a103_X11_program : List Cond := [Cond.fieldLink RX11 28 "SegueworksModel" "items" "Ljava/util/ArrayList;"]
def wk_a103_X11_program : List Cond := Cond.code yX11_program cX11_program 1 (some (.array .int)) :: (wo_a103_X11_program ++ ((u_ws RX11 TX11 11) ++ ((wsV RX11 50 RJx4a65c yJx4a65c_size_8abf5 wk_a23_Jx4a65c_size_8abf5) ++ (wsV RX11 153 RX11 yX11_together wk_a102_X11_together))))
theorem wo_a103_X11_program_in : ∀ w ∈ wo_a103_X11_program, w ∈ wk_a103_X11_program := fun w h => List.mem_cons_of_mem _ (List.mem_append_left _ h)
theorem ws_a103_X11_program_0 : ∀ w ∈ u_ws RX11 TX11 11, w ∈ wk_a103_X11_program := fun w h => List.mem_cons_of_mem _ (List.mem_append_right _ (List.mem_append_left _ h))
theorem gi_a103_X11_program_1 : GoodIn wk_a103_X11_program (wsV RX11 50 RJx4a65c yJx4a65c_size_8abf5 wk_a23_Jx4a65c_size_8abf5) := fun w h => ⟨List.mem_cons_of_mem _ (List.mem_append_right _ (List.mem_append_right _ (List.mem_append_left _ h))), good_of_word (kg_V gk_a23_Jx4a65c_size_8abf5 w h)⟩
theorem gi_a103_X11_program_2 : GoodIn wk_a103_X11_program (wsV RX11 153 RX11 yX11_together wk_a102_X11_together) := fun w h => ⟨List.mem_cons_of_mem _ (List.mem_append_right _ (List.mem_append_right _ (List.mem_append_right _ h))), good_of_word (kg_V gk_a102_X11_together w h)⟩
theorem gk_a103_X11_program : ∀ w ∈ wk_a103_X11_program, goodWord w = true := List.forall_mem_cons.mpr ⟨rfl, (List.forall_mem_append.mpr ⟨(show ∀ w ∈ wo_a103_X11_program, goodWord w = true by decide +kernel), (List.forall_mem_append.mpr ⟨(show ∀ w ∈ u_ws RX11 TX11 11, goodWord w = true by decide +kernel), (List.forall_mem_append.mpr ⟨(kg_V gk_a23_Jx4a65c_size_8abf5), (kg_V gk_a102_X11_together)⟩)⟩)⟩)⟩
set_option maxHeartbeats 4000000 in
set_option maxRecDepth 100000 in
theorem a103_X11_program (l : Launch) (hst : l.stackTraces = false) (D : va_G) (e0 : kE) (q15 : Nat) (q16 : Nat) (q17 : Nat) (q18 : Nat) (q19 : Nat) (q20 : Nat) (q21 : Nat) (q22 : Nat) (q23 : Nat) (q33 : Nat) (q57 : Nat) (y34 : ClassId) (q35 : Nat) (q43 : Nat) (q51 : Nat) (y58 : ClassId) (q59 : Nat) (q52 : Nat) (q60 : Nat) (y53 : ClassId)  : kM l yX11_program wk_a103_X11_program 5 113 1 748 D kStr e0 [(y34, .object "java/lang/Object"), (y53, .int), (y58, .object "java/lang/Object")] [(q15, .inr (16, [.int 0, .ref q16, .ref q17, .ref q18, .ref q19, .ref q20, .ref q21, .ref q22, .ref q23, .int 0, .int 0])), (q17, .inr (4, [.int 3, .ref q33, .int 3])), (q18, .inr (4, [.int 1, .ref q57, .int 1])), (q33, .inl (y34, 10, .inr (.inr (.inr (.inr (va_up ((va_up ((va_up ((fun _ => none)) (0 : Int32).toNatClampNeg (some q35))) (1 : Int32).toNatClampNeg (some q43))) (2 : Int32).toNatClampNeg (some q51))))))), (q57, .inl (y58, 10, .inr (.inr (.inr (.inr (va_up ((fun _ => none)) (0 : Int32).toNatClampNeg (some q59))))))), (q51, .inr (14, [.int 120, .ref q52])), (q59, .inr (13, [.int 2, .int 0, .int 0, .ref q60, .int 0])), (q52, .inl (y53, 748, .inl (fun _ => 0)))] [.ref q15] (fun v w t => ∃ (q64 : Nat), ∃ (y65 : ClassId), v = some (.ref q64) ∧ w = [(q15, .inr (16, [.int 0, .ref q16, .ref q17, .ref q18, .ref q19, .ref q20, .ref q21, .ref q22, .ref q23, .int 0, .int 0])), (q17, .inr (4, [.int 3, .ref q33, .int 3])), (q18, .inr (4, [.int 1, .ref q57, .int 1])), (q33, .inl (y34, 10, .inr (.inr (.inr (.inr (va_up ((va_up ((va_up ((fun _ => none)) (0 : Int32).toNatClampNeg (some q35))) (1 : Int32).toNatClampNeg (some q43))) (2 : Int32).toNatClampNeg (some q51))))))), (q57, .inl (y58, 10, .inr (.inr (.inr (.inr (va_up ((fun _ => none)) (0 : Int32).toNatClampNeg (some q59))))))), (q51, .inr (14, [.int 120, .ref q52])), (q59, .inr (13, [.int 2, .int 0, .int 0, .ref q60, .int 0])), (q52, .inl (y53, 748, .inl (fun _ => 0))), (q64, .inl (y65, 748, .inl (fun _ => 0)))] ∧ t = [(y34, .object "java/lang/Object"), (y58, .object "java/lang/Object"), (y53, .int), (y65, .int)]) (fun _ => False) := by
  refine k_of (cc := cX11_program) (maxL := 1) (ret := (some (.array .int))) (by decide) rfl (Nat.le_of_ble_eq_true rfl) ?_
  intro p e s m args below meth c A ls hx hb hr hts hown hlocks hml hex hh hl
  have hown : s.vm.findClass RX11 = some m.cls := hown
  have hl : lv_has ls 1 [(0, .ref q15)] := hl
  refine lv_aload_n hx hb dX11_program_0 rfl (lv_at hl 0 rfl) ?_
  refine lv_iconst (v := 0) hx hb dX11_program_1 (by decide) ?_
  refine lv_aload_n hx hb dX11_program_2 rfl (lv_at hl 0 rfl) ?_
  refine k_get (C := RX11) (T := TX11) (N := 11) (ci := 16) (v := .ref q18) hx hb hts ws_a103_X11_program_0 hown hh 0 rfl rfl 3 (by decide) (hts _ (wo_a103_X11_program_in _ (List.mem_of_getElem? (i := 0) rfl))) rfl dX11_program_3 ?_
  refine k_callV (C := RJx4a65c) (T := TJx4a65c) (N := 3) (ci := 4) (q0 := 2) (wr := [(q15, .inr (16, [.int 0, .ref q16, .ref q17, .ref q18, .ref q19, .ref q20, .ref q21, .ref q22, .ref q23, .int 0, .int 0])), (q17, .inr (4, [.int 3, .ref q33, .int 3])), (q33, .inl (y34, 10, .inr (.inr (.inr (.inr (va_up ((va_up ((va_up ((fun _ => none)) (0 : Int32).toNatClampNeg (some q35))) (1 : Int32).toNatClampNeg (some q43))) (2 : Int32).toNatClampNeg (some q51))))))), (q57, .inl (y58, 10, .inr (.inr (.inr (.inr (va_up ((fun _ => none)) (0 : Int32).toNatClampNeg (some q59))))))), (q51, .inr (14, [.int 120, .ref q52])), (q59, .inr (13, [.int 2, .int 0, .int 0, .ref q60, .int 0])), (q52, .inl (y53, 748, .inl (fun _ => 0)))]) (rest := [.int 0, .ref q15]) (own := RX11) ⟨hx, hb, hml, hown, hts⟩ (a23_Jx4a65c_size_8abf5 l hst D e0 q18 q57 ) (cwV 0 hts gi_a103_X11_program_1 rfl rfl rfl (by decide +kernel) ⟨Nat.le_of_ble_eq_true rfl, Nat.le_of_ble_eq_true rfl⟩) hh rfl rfl [2] [0, 1, 3, 4, 5, 6, 7] [] rfl rfl rfl rfl (by decide) rfl rfl hl rfl (Nat.le_of_ble_eq_true rfl) dX11_program_6 ⟨Nat.le_of_ble_eq_true rfl, (Nat.le_of_ble_eq_true rfl)⟩ (fun _ _ _ _ _ h => h.elim) (fun v w ty1 H locs hp hh => ?_)
  obtain ⟨rfl, rfl, rfl⟩ := hp
  have hh : kH D kStr e0 A s H [(q15, .inr (16, [.int 0, .ref q16, .ref q17, .ref q18, .ref q19, .ref q20, .ref q21, .ref q22, .ref q23, .int 0, .int 0])), (q17, .inr (4, [.int 3, .ref q33, .int 3])), (q33, .inl (y34, 10, .inr (.inr (.inr (.inr (va_up ((va_up ((va_up ((fun _ => none)) (0 : Int32).toNatClampNeg (some q35))) (1 : Int32).toNatClampNeg (some q43))) (2 : Int32).toNatClampNeg (some q51))))))), (q57, .inl (y58, 10, .inr (.inr (.inr (.inr (va_up ((fun _ => none)) (0 : Int32).toNatClampNeg (some q59))))))), (q51, .inr (14, [.int 120, .ref q52])), (q59, .inr (13, [.int 2, .int 0, .int 0, .ref q60, .int 0])), (q52, .inl (y53, 748, .inl (fun _ => 0))), (q18, .inr (4, [.int 1, .ref q57, .int 1]))] [(y34, .object "java/lang/Object"), (y53, .int), (y58, .object "java/lang/Object")] _ := hh
  refine W.eq (g2 := F0 m 9 ls [.int 1, .int 0, .ref q15]) (by first | rfl | decide) ?_
  refine k_callV (C := RX11) (T := TX11) (N := 11) (ci := 16) (q0 := 0) (wr := []) (rest := []) (own := RX11) ⟨hx, hb, hml, hown, hts⟩ (a102_X11_together l hst D e0 q15 q16 q17 q18 q19 q20 q21 q22 q23 q33 q57 y34 q35 q43 q51 y58 q59 q52 q60 y53 ) (cwV 2 hts gi_a103_X11_program_2 rfl rfl rfl (by decide +kernel) ⟨Nat.le_of_ble_eq_true rfl, Nat.le_of_ble_eq_true rfl⟩) hh rfl rfl [0, 1, 7, 2, 3, 4, 5, 6] [] [0, 1, 2] rfl rfl rfl rfl (by decide) rfl rfl hl rfl (Nat.le_of_ble_eq_true rfl) dX11_program_9 ⟨Nat.le_of_ble_eq_true rfl, (Nat.le_of_ble_eq_true rfl)⟩ (fun _ _ _ _ _ h => h.elim) (fun v w ty1 H locs hp hh => ?_)
  obtain ⟨q64, y65, rfl, rfl, rfl⟩ := hp
  have hh : kH D kStr e0 A s H [(q15, .inr (16, [.int 0, .ref q16, .ref q17, .ref q18, .ref q19, .ref q20, .ref q21, .ref q22, .ref q23, .int 0, .int 0])), (q17, .inr (4, [.int 3, .ref q33, .int 3])), (q18, .inr (4, [.int 1, .ref q57, .int 1])), (q33, .inl (y34, 10, .inr (.inr (.inr (.inr (va_up ((va_up ((va_up ((fun _ => none)) (0 : Int32).toNatClampNeg (some q35))) (1 : Int32).toNatClampNeg (some q43))) (2 : Int32).toNatClampNeg (some q51))))))), (q57, .inl (y58, 10, .inr (.inr (.inr (.inr (va_up ((fun _ => none)) (0 : Int32).toNatClampNeg (some q59))))))), (q51, .inr (14, [.int 120, .ref q52])), (q59, .inr (13, [.int 2, .int 0, .int 0, .ref q60, .int 0])), (q52, .inl (y53, 748, .inl (fun _ => 0))), (q64, .inl (y65, 748, .inl (fun _ => 0)))] [(y34, .object "java/lang/Object"), (y53, .int), (y58, .object "java/lang/Object"), (y34, .object "java/lang/Object"), (y58, .object "java/lang/Object"), (y53, .int), (y65, .int)] _ := hh
  refine W.eq (g2 := F0 m 12 ls [.ref q64]) (by first | rfl | decide) ?_
  exact k_enda (by first | exact Or.inl ⟨_, rfl⟩ | exact Or.inr ⟨_, rfl⟩) (by first | exact Or.inr ⟨_, rfl⟩ | exact Or.inl rfl) hx hb hr hlocks hh ⟨q64, y65, rfl, rfl, rfl⟩ [0, 1, 2, 3, 4, 5, 6, 7, 8] [0, 2, 1, 6] rfl rfl rfl (Nat.le_of_ble_eq_true rfl) (Nat.le_of_ble_eq_true rfl) dX11_program_12
def wo_a104_Jx4a65c_add_72be8 : List Cond := [Cond.fieldLink RJx4a65c 48 "java/util/ArrayList" "size" "I"]
def wk_a104_Jx4a65c_add_72be8 : List Cond := Cond.code yJx4a65c_add_72be8 cJx4a65c_add_72be8 4 none :: (wo_a104_Jx4a65c_add_72be8 ++ (u_ws RJx4a65c TJx4a65c 3))
theorem wo_a104_Jx4a65c_add_72be8_in : ∀ w ∈ wo_a104_Jx4a65c_add_72be8, w ∈ wk_a104_Jx4a65c_add_72be8 := fun w h => List.mem_cons_of_mem _ (List.mem_append_left _ h)
theorem ws_a104_Jx4a65c_add_72be8_0 : ∀ w ∈ u_ws RJx4a65c TJx4a65c 3, w ∈ wk_a104_Jx4a65c_add_72be8 := fun w h => List.mem_cons_of_mem _ (List.mem_append_right _ h)
theorem gk_a104_Jx4a65c_add_72be8 : ∀ w ∈ wk_a104_Jx4a65c_add_72be8, goodWord w = true := List.forall_mem_cons.mpr ⟨rfl, (List.forall_mem_append.mpr ⟨(show ∀ w ∈ wo_a104_Jx4a65c_add_72be8, goodWord w = true by decide +kernel), (show ∀ w ∈ u_ws RJx4a65c TJx4a65c 3, goodWord w = true by decide +kernel)⟩)⟩
set_option maxHeartbeats 4000000 in
set_option maxRecDepth 100000 in
theorem a104_Jx4a65c_add_72be8 (l : Launch) (hst : l.stackTraces = false) (D : va_G) (e0 : kE) (q18 : Nat) (q66 : Nat) (q57 : Nat) (q67 : Nat) (y58 : ClassId) (q59 : Nat)  : kM l yJx4a65c_add_72be8 wk_a104_Jx4a65c_add_72be8 0 0 0 0 D kStr e0 [(y58, .object "java/lang/Object")] [(q18, .inr (4, [.int 2, .ref q57, .int 1])), (q66, .inr (13, [.int 2, .int 0, .int 0, .ref q67, .int 0])), (q57, .inl (y58, 10, .inr (.inr (.inr (.inr (va_up ((fun _ => none)) (0 : Int32).toNatClampNeg (some q59)))))))] [.ref q18, .ref q66, .ref q57, .int 1] (fun v w t => v = none ∧ w = [(q18, .inr (4, [.int 2, .ref q57, .int 2])), (q66, .inr (13, [.int 2, .int 0, .int 0, .ref q67, .int 0])), (q57, .inl (y58, 10, .inr (.inr (.inr (.inr (va_up ((va_up ((fun _ => none)) (0 : Int32).toNatClampNeg (some q59))) (1 : Int32).toNatClampNeg (some q66)))))))] ∧ t = [(y58, .object "java/lang/Object")]) (fun _ => False) := by
  refine k_of (cc := cJx4a65c_add_72be8) (maxL := 4) (ret := none) (by decide) rfl (Nat.le_of_ble_eq_true rfl) ?_
  intro p e s m args below meth c A ls hx hb hr hts hown hlocks hml hex hh hl
  have hown : s.vm.findClass RJx4a65c = some m.cls := hown
  have hl : lv_has ls 4 [(0, .ref q18), (1, .ref q66), (2, .ref q57), (3, .int 1)] := hl
  refine lv_iload_n hx hb dJx4a65c_add_72be8_0 rfl (lv_at hl 3 rfl) ?_
  refine lv_aload_n hx hb dJx4a65c_add_72be8_1 rfl (lv_at hl 2 rfl) ?_
  refine k_alen (v := 10) hx hb hh 2 0 rfl rfl rfl dJx4a65c_add_72be8_2 ?_
  refine lv_icmp_ne (tgt := 11) hx hb dJx4a65c_add_72be8_3 (by decide) (fun _ => ?_) (fun c_3 => absurd c_3 (by decide))
  refine lv_aload_n hx hb dJx4a65c_add_72be8_11 rfl (lv_at hl 2 rfl) ?_
  refine lv_iload_n hx hb dJx4a65c_add_72be8_12 rfl (lv_at hl 3 rfl) ?_
  refine lv_aload_n hx hb dJx4a65c_add_72be8_13 rfl (lv_at hl 1 rfl) ?_
  refine k_astO (C := RX8) (T := TX8) (N := 5) (ws' := [(q18, .inr (4, [.int 2, .ref q57, .int 1])), (q66, .inr (13, [.int 2, .int 0, .int 0, .ref q67, .int 0])), (q57, .inl (y58, 10, .inr (.inr (.inr (.inr (va_up ((va_up ((fun _ => none)) (0 : Int32).toNatClampNeg (some q59))) (1 : Int32).toNatClampNeg (some q66)))))))]) hx hb hh 2 0 1 13 (by decide) rfl rfl rfl rfl (by unfold vp_in; decide) dJx4a65c_add_72be8_14 rfl (fun H locs hh => ?_)
  refine lv_aload_n hx hb dJx4a65c_add_72be8_15 rfl (lv_at hl 0 rfl) ?_
  refine lv_iload_n hx hb dJx4a65c_add_72be8_16 rfl (lv_at hl 3 rfl) ?_
  refine lv_iconst (v := 1) hx hb dJx4a65c_add_72be8_17 (by decide) ?_
  refine lv_iadd hx hb dJx4a65c_add_72be8_18 ?_
  refine W.eq (g2 := F0 m 19 ls [.int 2, .ref q18]) (by first | rfl | decide) ?_
  refine k_put (C := RJx4a65c) (T := TJx4a65c) (N := 3) (ci := 4) (v := .int 2) (ws' := [(q18, .inr (4, [.int 2, .ref q57, .int 2])), (q66, .inr (13, [.int 2, .int 0, .int 0, .ref q67, .int 0])), (q57, .inl (y58, 10, .inr (.inr (.inr (.inr (va_up ((va_up ((fun _ => none)) (0 : Int32).toNatClampNeg (some q59))) (1 : Int32).toNatClampNeg (some q66)))))))]) hx hb hts ws_a104_Jx4a65c_add_72be8_0 tyJx4a65c tyJx4a65c_ok nmJx4a65c hown hh 0 rfl rfl 2 (by decide) (hts _ (wo_a104_Jx4a65c_add_72be8_in _ (List.mem_of_getElem? (i := 0) rfl))) rfl rfl rfl (Nat.le_of_ble_eq_true rfl) dJx4a65c_add_72be8_19 rfl (fun H locs hh => ?_)
  exact k_endv hx hb hr hlocks hh ⟨rfl, rfl, rfl⟩ [0, 1, 2] [0] rfl rfl rfl (Nat.le_of_ble_eq_true rfl) (Nat.le_of_ble_eq_true rfl) dJx4a65c_add_72be8_22
def wo_a105_Jx4a65c_add_9ea2d : List Cond := [Cond.sameField "java/util/ArrayList" "java/util/AbstractList" "modCount" "I", Cond.fieldLink RJx4a65c 63 "java/util/ArrayList" "modCount" "I", Cond.fieldLink RJx4a65c 9 "java/util/ArrayList" "elementData" "[Ljava/lang/Object;", Cond.fieldLink RJx4a65c 48 "java/util/ArrayList" "size" "I"]
def wk_a105_Jx4a65c_add_9ea2d : List Cond := Cond.code yJx4a65c_add_9ea2d cJx4a65c_add_9ea2d 2 (some .boolean) :: (wo_a105_Jx4a65c_add_9ea2d ++ ((u_ws RJx4a65c TJx4a65c 3) ++ (wsV RJx4a65c 131 RJx4a65c yJx4a65c_add_72be8 wk_a104_Jx4a65c_add_72be8)))
theorem wo_a105_Jx4a65c_add_9ea2d_in : ∀ w ∈ wo_a105_Jx4a65c_add_9ea2d, w ∈ wk_a105_Jx4a65c_add_9ea2d := fun w h => List.mem_cons_of_mem _ (List.mem_append_left _ h)
theorem ws_a105_Jx4a65c_add_9ea2d_0 : ∀ w ∈ u_ws RJx4a65c TJx4a65c 3, w ∈ wk_a105_Jx4a65c_add_9ea2d := fun w h => List.mem_cons_of_mem _ (List.mem_append_right _ (List.mem_append_left _ h))
theorem gi_a105_Jx4a65c_add_9ea2d_1 : GoodIn wk_a105_Jx4a65c_add_9ea2d (wsV RJx4a65c 131 RJx4a65c yJx4a65c_add_72be8 wk_a104_Jx4a65c_add_72be8) := fun w h => ⟨List.mem_cons_of_mem _ (List.mem_append_right _ (List.mem_append_right _ h)), good_of_word (kg_V gk_a104_Jx4a65c_add_72be8 w h)⟩
theorem gk_a105_Jx4a65c_add_9ea2d : ∀ w ∈ wk_a105_Jx4a65c_add_9ea2d, goodWord w = true := List.forall_mem_cons.mpr ⟨rfl, (List.forall_mem_append.mpr ⟨(show ∀ w ∈ wo_a105_Jx4a65c_add_9ea2d, goodWord w = true by decide +kernel), (List.forall_mem_append.mpr ⟨(show ∀ w ∈ u_ws RJx4a65c TJx4a65c 3, goodWord w = true by decide +kernel), (kg_V gk_a104_Jx4a65c_add_72be8)⟩)⟩)⟩
set_option maxHeartbeats 4000000 in
set_option maxRecDepth 100000 in
theorem a105_Jx4a65c_add_9ea2d (l : Launch) (hst : l.stackTraces = false) (D : va_G) (e0 : kE) (q18 : Nat) (q66 : Nat) (q57 : Nat) (q67 : Nat) (y58 : ClassId) (q59 : Nat)  : kM l yJx4a65c_add_9ea2d wk_a105_Jx4a65c_add_9ea2d 1 23 0 0 D kStr e0 [(y58, .object "java/lang/Object")] [(q18, .inr (4, [.int 1, .ref q57, .int 1])), (q66, .inr (13, [.int 2, .int 0, .int 0, .ref q67, .int 0])), (q57, .inl (y58, 10, .inr (.inr (.inr (.inr (va_up ((fun _ => none)) (0 : Int32).toNatClampNeg (some q59)))))))] [.ref q18, .ref q66] (fun v w t => v = some (.int 1) ∧ w = [(q18, .inr (4, [.int 2, .ref q57, .int 2])), (q66, .inr (13, [.int 2, .int 0, .int 0, .ref q67, .int 0])), (q57, .inl (y58, 10, .inr (.inr (.inr (.inr (va_up ((va_up ((fun _ => none)) (0 : Int32).toNatClampNeg (some q59))) (1 : Int32).toNatClampNeg (some q66)))))))] ∧ t = [(y58, .object "java/lang/Object")]) (fun _ => False) := by
  refine k_of (cc := cJx4a65c_add_9ea2d) (maxL := 2) (ret := (some .boolean)) (by decide) rfl (Nat.le_of_ble_eq_true rfl) ?_
  intro p e s m args below meth c A ls hx hb hr hts hown hlocks hml hex hh hl
  have hown : s.vm.findClass RJx4a65c = some m.cls := hown
  have hl : lv_has ls 2 [(0, .ref q18), (1, .ref q66)] := hl
  refine lv_aload_n hx hb dJx4a65c_add_9ea2d_0 rfl (lv_at hl 0 rfl) ?_
  refine lv_dup hx hb dJx4a65c_add_9ea2d_1 rfl ?_
  refine k_getR (ref := "java/util/ArrayList") (C := RJx4a65c) (T := TJx4a65c) (N := 3) (ci := 4) (v := .int 1) hx hb hts ws_a105_Jx4a65c_add_9ea2d_0 hown hh 0 rfl rfl 0 (by decide) (hts _ (wo_a105_Jx4a65c_add_9ea2d_in _ (List.mem_of_getElem? (i := 1) rfl))) (u_same (hts _ (wo_a105_Jx4a65c_add_9ea2d_in _ (List.mem_of_getElem? (i := 0) rfl)))) rfl dJx4a65c_add_9ea2d_2 ?_
  refine lv_iconst (v := 1) hx hb dJx4a65c_add_9ea2d_5 (by decide) ?_
  refine lv_iadd hx hb dJx4a65c_add_9ea2d_6 ?_
  refine W.eq (g2 := F0 m 7 ls [.int 2, .ref q18]) (by first | rfl | decide) ?_
  refine k_putR (ref := "java/util/ArrayList") (C := RJx4a65c) (T := TJx4a65c) (N := 3) (ci := 4) (v := .int 2) (ws' := [(q18, .inr (4, [.int 2, .ref q57, .int 1])), (q66, .inr (13, [.int 2, .int 0, .int 0, .ref q67, .int 0])), (q57, .inl (y58, 10, .inr (.inr (.inr (.inr (va_up ((fun _ => none)) (0 : Int32).toNatClampNeg (some q59)))))))]) hx hb hts ws_a105_Jx4a65c_add_9ea2d_0 tyJx4a65c tyJx4a65c_ok nmJx4a65c hown hh 0 rfl rfl 0 (by decide) (hts _ (wo_a105_Jx4a65c_add_9ea2d_in _ (List.mem_of_getElem? (i := 1) rfl))) (u_same (hts _ (wo_a105_Jx4a65c_add_9ea2d_in _ (List.mem_of_getElem? (i := 0) rfl)))) rfl rfl rfl (Nat.le_of_ble_eq_true rfl) dJx4a65c_add_9ea2d_7 rfl (fun H locs hh => ?_)
  refine lv_aload_n hx hb dJx4a65c_add_9ea2d_10 rfl (lv_at hl 0 rfl) ?_
  refine lv_aload_n hx hb dJx4a65c_add_9ea2d_11 rfl (lv_at hl 1 rfl) ?_
  refine lv_aload_n hx hb dJx4a65c_add_9ea2d_12 rfl (lv_at hl 0 rfl) ?_
  refine k_get (C := RJx4a65c) (T := TJx4a65c) (N := 3) (ci := 4) (v := .ref q57) hx hb hts ws_a105_Jx4a65c_add_9ea2d_0 hown hh 0 rfl rfl 1 (by decide) (hts _ (wo_a105_Jx4a65c_add_9ea2d_in _ (List.mem_of_getElem? (i := 2) rfl))) rfl dJx4a65c_add_9ea2d_13 ?_
  refine lv_aload_n hx hb dJx4a65c_add_9ea2d_16 rfl (lv_at hl 0 rfl) ?_
  refine k_get (C := RJx4a65c) (T := TJx4a65c) (N := 3) (ci := 4) (v := .int 1) hx hb hts ws_a105_Jx4a65c_add_9ea2d_0 hown hh 0 rfl rfl 2 (by decide) (hts _ (wo_a105_Jx4a65c_add_9ea2d_in _ (List.mem_of_getElem? (i := 3) rfl))) rfl dJx4a65c_add_9ea2d_17 ?_
  refine k_callV (C := RJx4a65c) (T := TJx4a65c) (N := 3) (ci := 4) (q0 := 0) (wr := []) (rest := []) (own := RJx4a65c) ⟨hx, hb, hml, hown, hts⟩ (a104_Jx4a65c_add_72be8 l hst D e0 q18 q66 q57 q67 y58 q59 ) (cwV 3 hts gi_a105_Jx4a65c_add_9ea2d_1 rfl rfl rfl (by decide +kernel) ⟨Nat.le_of_ble_eq_true rfl, Nat.le_of_ble_eq_true rfl⟩) hh rfl rfl [0, 1, 2] [] [0] rfl rfl rfl rfl (by decide) rfl rfl hl rfl (Nat.le_of_ble_eq_true rfl) dJx4a65c_add_9ea2d_20 ⟨Nat.le_of_ble_eq_true rfl, (Nat.le_of_ble_eq_true rfl)⟩ (fun _ _ _ _ _ h => h.elim) (fun v w ty1 H locs hp hh => ?_)
  obtain ⟨rfl, rfl, rfl⟩ := hp
  have hh : kH D kStr e0 A s H [(q18, .inr (4, [.int 2, .ref q57, .int 2])), (q66, .inr (13, [.int 2, .int 0, .int 0, .ref q67, .int 0])), (q57, .inl (y58, 10, .inr (.inr (.inr (.inr (va_up ((va_up ((fun _ => none)) (0 : Int32).toNatClampNeg (some q59))) (1 : Int32).toNatClampNeg (some q66)))))))] [(y58, .object "java/lang/Object"), (y58, .object "java/lang/Object")] _ := hh
  refine W.eq (g2 := F0 m 23 ls []) (by first | rfl | decide) ?_
  refine lv_iconst (v := 1) hx hb dJx4a65c_add_9ea2d_23 (by decide) ?_
  exact k_endz (ty := .boolean) (by decide) hx hb hr hlocks hh ⟨rfl, rfl, rfl⟩ [0, 1, 2] [0] rfl rfl rfl (Nat.le_of_ble_eq_true rfl) (Nat.le_of_ble_eq_true rfl) dJx4a65c_add_9ea2d_24
