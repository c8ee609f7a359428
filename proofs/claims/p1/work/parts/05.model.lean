theorem dX11_in_0 : decode cX11_in 0 = .ok (.lload_n 0, 1) := by decide +kernel
theorem dX11_in_1 : decode cX11_in 1 = .ok (.lload_n 2, 1) := by decide +kernel
theorem dX11_in_2 : decode cX11_in 2 = .ok (.lcmp, 1) := by decide +kernel
theorem dX11_in_3 : decode cX11_in 3 = .ok (.ifCond .lt 14, 3) := by decide +kernel
theorem dX11_in_6 : decode cX11_in 6 = .ok (.lload_n 0, 1) := by decide +kernel
theorem dX11_in_7 : decode cX11_in 7 = .ok (.lload 4, 2) := by decide +kernel
theorem dX11_in_9 : decode cX11_in 9 = .ok (.lcmp, 1) := by decide +kernel
theorem dX11_in_10 : decode cX11_in 10 = .ok (.ifCond .gt 7, 3) := by decide +kernel
theorem dX11_in_13 : decode cX11_in 13 = .ok (.iconst 1, 1) := by decide +kernel
theorem dX11_in_14 : decode cX11_in 14 = .ok (.goto 4, 3) := by decide +kernel
theorem dX11_in_17 : decode cX11_in 17 = .ok (.iconst 0, 1) := by decide +kernel
theorem dX11_in_18 : decode cX11_in 18 = .ok (.ireturn, 1) := by decide +kernel
theorem dX11_thrown_0 : decode cX11_thrown 0 = .ok (.aload_n 0, 1) := by decide +kernel
theorem dX11_thrown_1 : decode cX11_thrown 1 = .ok (.getfield 46, 3) := by decide +kernel
theorem dX11_thrown_4 : decode cX11_thrown 4 = .ok (.ireturn, 1) := by decide +kernel
theorem dX11_noReel_0 : decode cX11_noReel 0 = .ok (.aload_n 0, 1) := by decide +kernel
theorem dX11_noReel_1 : decode cX11_noReel 1 = .ok (.iload_n 1, 1) := by decide +kernel
theorem dX11_noReel_2 : decode cX11_noReel 2 = .ok (.i2l, 1) := by decide +kernel
theorem dX11_noReel_3 : decode cX11_noReel 3 = .ok (.lconst 0, 1) := by decide +kernel
theorem dX11_noReel_4 : decode cX11_noReel 4 = .ok (.aload_n 0, 1) := by decide +kernel
theorem dX11_noReel_5 : decode cX11_noReel 5 = .ok (.getfield 19, 3) := by decide +kernel
theorem dX11_noReel_8 : decode cX11_noReel 8 = .ok (.invokevirtual 50, 3) := by decide +kernel
theorem dX11_noReel_11 : decode cX11_noReel 11 = .ok (.iconst 1, 1) := by decide +kernel
theorem dX11_noReel_12 : decode cX11_noReel 12 = .ok (.isub, 1) := by decide +kernel
theorem dX11_noReel_13 : decode cX11_noReel 13 = .ok (.i2l, 1) := by decide +kernel
theorem dX11_noReel_14 : decode cX11_noReel 14 = .ok (.invokestatic 54, 3) := by decide +kernel
theorem dX11_noReel_17 : decode cX11_noReel 17 = .ok (.ifCond .eq 7, 3) := by decide +kernel
theorem dX11_noReel_24 : decode cX11_noReel 24 = .ok (.iconst 1, 1) := by decide +kernel
theorem dX11_noReel_25 : decode cX11_noReel 25 = .ok (.putfield 46, 3) := by decide +kernel
theorem dX11_noReel_28 : decode cX11_noReel 28 = .ok (.aload_n 0, 1) := by decide +kernel
theorem dX11_noReel_29 : decode cX11_noReel 29 = .ok (.getfield 46, 3) := by decide +kernel
theorem dX11_noReel_32 : decode cX11_noReel 32 = .ok (.ifCond .le 7, 3) := by decide +kernel
theorem dX11_noReel_35 : decode cX11_noReel 35 = .ok (.iconst 1, 1) := by decide +kernel
theorem dX11_noReel_36 : decode cX11_noReel 36 = .ok (.goto 4, 3) := by decide +kernel
theorem dX11_noReel_40 : decode cX11_noReel 40 = .ok (.ireturn, 1) := by decide +kernel
theorem dX11_sample_0 : decode cX11_sample 0 = .ok (.aload_n 0, 1) := by decide +kernel
theorem dX11_sample_1 : decode cX11_sample 1 = .ok (.iload_n 1, 1) := by decide +kernel
theorem dX11_sample_2 : decode cX11_sample 2 = .ok (.invokevirtual 62, 3) := by decide +kernel
theorem dX11_sample_5 : decode cX11_sample 5 = .ok (.ifCond .eq 5, 3) := by decide +kernel
theorem dX11_sample_8 : decode cX11_sample 8 = .ok (.iconst 0, 1) := by decide +kernel
theorem dX11_sample_9 : decode cX11_sample 9 = .ok (.ireturn, 1) := by decide +kernel
theorem dX11_wave_0 : decode cX11_wave 0 = .ok (.aload_n 0, 1) := by decide +kernel
theorem dX11_wave_1 : decode cX11_wave 1 = .ok (.iload_n 1, 1) := by decide +kernel
theorem dX11_wave_2 : decode cX11_wave 2 = .ok (.invokevirtual 62, 3) := by decide +kernel
theorem dX11_wave_5 : decode cX11_wave 5 = .ok (.ifCond .eq 5, 3) := by decide +kernel
theorem dX11_wave_8 : decode cX11_wave 8 = .ok (.iconst 0, 1) := by decide +kernel
theorem dX11_wave_9 : decode cX11_wave 9 = .ok (.ireturn, 1) := by decide +kernel
theorem dX11_reelLength_0 : decode cX11_reelLength 0 = .ok (.aload_n 0, 1) := by decide +kernel
theorem dX11_reelLength_1 : decode cX11_reelLength 1 = .ok (.iload_n 1, 1) := by decide +kernel
theorem dX11_reelLength_2 : decode cX11_reelLength 2 = .ok (.invokevirtual 62, 3) := by decide +kernel
theorem dX11_reelLength_5 : decode cX11_reelLength 5 = .ok (.ifCond .eq 7, 3) := by decide +kernel
theorem dX11_reelLength_8 : decode cX11_reelLength 8 = .ok (.iconst 0, 1) := by decide +kernel
theorem dX11_reelLength_9 : decode cX11_reelLength 9 = .ok (.goto 17, 3) := by decide +kernel
theorem dX11_reelLength_26 : decode cX11_reelLength 26 = .ok (.ireturn, 1) := by decide +kernel
theorem dX11_noPiece_0 : decode cX11_noPiece 0 = .ok (.aload_n 0, 1) := by decide +kernel
theorem dX11_noPiece_1 : decode cX11_noPiece 1 = .ok (.iload_n 1, 1) := by decide +kernel
theorem dX11_noPiece_2 : decode cX11_noPiece 2 = .ok (.i2l, 1) := by decide +kernel
theorem dX11_noPiece_3 : decode cX11_noPiece 3 = .ok (.lconst 0, 1) := by decide +kernel
theorem dX11_noPiece_4 : decode cX11_noPiece 4 = .ok (.aload_n 0, 1) := by decide +kernel
theorem dX11_noPiece_5 : decode cX11_noPiece 5 = .ok (.getfield 25, 3) := by decide +kernel
theorem dX11_noPiece_8 : decode cX11_noPiece 8 = .ok (.invokevirtual 50, 3) := by decide +kernel
theorem dX11_noPiece_11 : decode cX11_noPiece 11 = .ok (.iconst 1, 1) := by decide +kernel
theorem dX11_noPiece_12 : decode cX11_noPiece 12 = .ok (.isub, 1) := by decide +kernel
theorem dX11_noPiece_13 : decode cX11_noPiece 13 = .ok (.i2l, 1) := by decide +kernel
theorem dX11_noPiece_14 : decode cX11_noPiece 14 = .ok (.invokestatic 54, 3) := by decide +kernel
theorem dX11_noPiece_17 : decode cX11_noPiece 17 = .ok (.ifCond .eq 7, 3) := by decide +kernel
theorem dX11_noPiece_24 : decode cX11_noPiece 24 = .ok (.iconst 1, 1) := by decide +kernel
theorem dX11_noPiece_25 : decode cX11_noPiece 25 = .ok (.putfield 46, 3) := by decide +kernel
theorem dX11_noPiece_28 : decode cX11_noPiece 28 = .ok (.aload_n 0, 1) := by decide +kernel
theorem dX11_noPiece_29 : decode cX11_noPiece 29 = .ok (.getfield 46, 3) := by decide +kernel
theorem dX11_noPiece_32 : decode cX11_noPiece 32 = .ok (.ifCond .le 7, 3) := by decide +kernel
theorem dX11_noPiece_35 : decode cX11_noPiece 35 = .ok (.iconst 1, 1) := by decide +kernel
theorem dX11_noPiece_36 : decode cX11_noPiece 36 = .ok (.goto 4, 3) := by decide +kernel
theorem dX11_noPiece_40 : decode cX11_noPiece 40 = .ok (.ireturn, 1) := by decide +kernel
theorem dX11_cut_0 : decode cX11_cut 0 = .ok (.aload_n 0, 1) := by decide +kernel
theorem dX11_cut_1 : decode cX11_cut 1 = .ok (.iload_n 1, 1) := by decide +kernel
theorem dX11_cut_2 : decode cX11_cut 2 = .ok (.invokevirtual 62, 3) := by decide +kernel
theorem dX11_cut_5 : decode cX11_cut 5 = .ok (.ifCond .eq 5, 3) := by decide +kernel
theorem dX11_cut_8 : decode cX11_cut 8 = .ok (.iconst 0, 1) := by decide +kernel
theorem dX11_cut_9 : decode cX11_cut 9 = .ok (.ireturn, 1) := by decide +kernel
theorem dX11_splice_0 : decode cX11_splice 0 = .ok (.aload_n 0, 1) := by decide +kernel
theorem dX11_splice_1 : decode cX11_splice 1 = .ok (.iload_n 1, 1) := by decide +kernel
theorem dX11_splice_2 : decode cX11_splice 2 = .ok (.i2l, 1) := by decide +kernel
theorem dX11_splice_3 : decode cX11_splice 3 = .ok (.lconst 0, 1) := by decide +kernel
theorem dX11_splice_4 : decode cX11_splice 4 = .ok (.aload_n 0, 1) := by decide +kernel
theorem dX11_splice_5 : decode cX11_splice 5 = .ok (.getfield 25, 3) := by decide +kernel
theorem dX11_splice_8 : decode cX11_splice 8 = .ok (.invokevirtual 50, 3) := by decide +kernel
theorem dX11_splice_11 : decode cX11_splice 11 = .ok (.iconst 1, 1) := by decide +kernel
theorem dX11_splice_12 : decode cX11_splice 12 = .ok (.isub, 1) := by decide +kernel
theorem dX11_splice_13 : decode cX11_splice 13 = .ok (.i2l, 1) := by decide +kernel
theorem dX11_splice_14 : decode cX11_splice 14 = .ok (.invokestatic 54, 3) := by decide +kernel
theorem dX11_splice_17 : decode cX11_splice 17 = .ok (.ifCond .eq 26, 3) := by decide +kernel
theorem dX11_splice_43 : decode cX11_splice 43 = .ok (.iconst 1, 1) := by decide +kernel
theorem dX11_splice_44 : decode cX11_splice 44 = .ok (.putfield 46, 3) := by decide +kernel
theorem dX11_splice_47 : decode cX11_splice 47 = .ok (.aload_n 0, 1) := by decide +kernel
theorem dX11_splice_48 : decode cX11_splice 48 = .ok (.getfield 46, 3) := by decide +kernel
theorem dX11_splice_51 : decode cX11_splice 51 = .ok (.ifCond .le 5, 3) := by decide +kernel
theorem dX11_splice_54 : decode cX11_splice 54 = .ok (.iconst 0, 1) := by decide +kernel
theorem dX11_splice_55 : decode cX11_splice 55 = .ok (.ireturn, 1) := by decide +kernel
theorem dX11_gain_0 : decode cX11_gain 0 = .ok (.aload_n 0, 1) := by decide +kernel
theorem dX11_gain_1 : decode cX11_gain 1 = .ok (.iload_n 1, 1) := by decide +kernel
theorem dX11_gain_2 : decode cX11_gain 2 = .ok (.invokevirtual 108, 3) := by decide +kernel
theorem dX11_gain_5 : decode cX11_gain 5 = .ok (.ifCond .eq 5, 3) := by decide +kernel
theorem dX11_gain_8 : decode cX11_gain 8 = .ok (.iconst 0, 1) := by decide +kernel
theorem dX11_gain_9 : decode cX11_gain 9 = .ok (.ireturn, 1) := by decide +kernel
theorem dX11_back_0 : decode cX11_back 0 = .ok (.aload_n 0, 1) := by decide +kernel
theorem dX11_back_1 : decode cX11_back 1 = .ok (.iload_n 1, 1) := by decide +kernel
theorem dX11_back_2 : decode cX11_back 2 = .ok (.invokevirtual 108, 3) := by decide +kernel
theorem dX11_back_5 : decode cX11_back 5 = .ok (.ifCond .eq 5, 3) := by decide +kernel
theorem dX11_back_8 : decode cX11_back 8 = .ok (.iconst 0, 1) := by decide +kernel
theorem dX11_back_9 : decode cX11_back 9 = .ok (.ireturn, 1) := by decide +kernel
theorem dX11_limit_0 : decode cX11_limit 0 = .ok (.aload_n 0, 1) := by decide +kernel
theorem dX11_limit_1 : decode cX11_limit 1 = .ok (.iload_n 1, 1) := by decide +kernel
theorem dX11_limit_2 : decode cX11_limit 2 = .ok (.invokevirtual 108, 3) := by decide +kernel
theorem dX11_limit_5 : decode cX11_limit 5 = .ok (.ifCond .eq 5, 3) := by decide +kernel
theorem dX11_limit_8 : decode cX11_limit 8 = .ok (.iconst 0, 1) := by decide +kernel
theorem dX11_limit_9 : decode cX11_limit 9 = .ok (.ireturn, 1) := by decide +kernel
theorem dX11_resample_0 : decode cX11_resample 0 = .ok (.aload_n 0, 1) := by decide +kernel
theorem dX11_resample_1 : decode cX11_resample 1 = .ok (.iload_n 1, 1) := by decide +kernel
theorem dX11_resample_2 : decode cX11_resample 2 = .ok (.invokevirtual 108, 3) := by decide +kernel
theorem dX11_resample_5 : decode cX11_resample 5 = .ok (.ifCond .eq 5, 3) := by decide +kernel
theorem dX11_resample_8 : decode cX11_resample 8 = .ok (.iconst 0, 1) := by decide +kernel
theorem dX11_resample_9 : decode cX11_resample 9 = .ok (.ireturn, 1) := by decide +kernel
theorem dX11_dither_0 : decode cX11_dither 0 = .ok (.aload_n 0, 1) := by decide +kernel
theorem dX11_dither_1 : decode cX11_dither 1 = .ok (.iload_n 1, 1) := by decide +kernel
theorem dX11_dither_2 : decode cX11_dither 2 = .ok (.invokevirtual 108, 3) := by decide +kernel
theorem dX11_dither_5 : decode cX11_dither 5 = .ok (.ifCond .eq 5, 3) := by decide +kernel
theorem dX11_dither_8 : decode cX11_dither 8 = .ok (.iconst 0, 1) := by decide +kernel
theorem dX11_dither_9 : decode cX11_dither 9 = .ok (.ireturn, 1) := by decide +kernel
theorem dX11_kindOf_0 : decode cX11_kindOf 0 = .ok (.aload_n 0, 1) := by decide +kernel
theorem dX11_kindOf_1 : decode cX11_kindOf 1 = .ok (.iload_n 1, 1) := by decide +kernel
theorem dX11_kindOf_2 : decode cX11_kindOf 2 = .ok (.invokevirtual 108, 3) := by decide +kernel
theorem dX11_kindOf_5 : decode cX11_kindOf 5 = .ok (.ifCond .eq 8, 3) := by decide +kernel
theorem dX11_kindOf_8 : decode cX11_kindOf 8 = .ok (.bipush 32, 2) := by decide +kernel
theorem dX11_kindOf_10 : decode cX11_kindOf 10 = .ok (.goto 17, 3) := by decide +kernel
theorem dX11_kindOf_27 : decode cX11_kindOf 27 = .ok (.ireturn, 1) := by decide +kernel
theorem dX11_lengthOf_0 : decode cX11_lengthOf 0 = .ok (.aload_n 0, 1) := by decide +kernel
theorem dX11_lengthOf_1 : decode cX11_lengthOf 1 = .ok (.iload_n 1, 1) := by decide +kernel
theorem dX11_lengthOf_2 : decode cX11_lengthOf 2 = .ok (.invokevirtual 108, 3) := by decide +kernel
theorem dX11_lengthOf_5 : decode cX11_lengthOf 5 = .ok (.ifCond .eq 7, 3) := by decide +kernel
theorem dX11_lengthOf_8 : decode cX11_lengthOf 8 = .ok (.iconst 0, 1) := by decide +kernel
theorem dX11_lengthOf_9 : decode cX11_lengthOf 9 = .ok (.goto 9, 3) := by decide +kernel
theorem dX11_lengthOf_18 : decode cX11_lengthOf 18 = .ok (.ireturn, 1) := by decide +kernel
theorem dX11_sampleOf_0 : decode cX11_sampleOf 0 = .ok (.aload_n 0, 1) := by decide +kernel
theorem dX11_sampleOf_1 : decode cX11_sampleOf 1 = .ok (.iload_n 1, 1) := by decide +kernel
theorem dX11_sampleOf_2 : decode cX11_sampleOf 2 = .ok (.invokevirtual 108, 3) := by decide +kernel
theorem dX11_sampleOf_5 : decode cX11_sampleOf 5 = .ok (.ifCond .eq 5, 3) := by decide +kernel
theorem dX11_sampleOf_8 : decode cX11_sampleOf 8 = .ok (.iconst 0, 1) := by decide +kernel
theorem dX11_sampleOf_9 : decode cX11_sampleOf 9 = .ok (.ireturn, 1) := by decide +kernel
theorem dX11_loudness_0 : decode cX11_loudness 0 = .ok (.aload_n 0, 1) := by decide +kernel
theorem dX11_loudness_1 : decode cX11_loudness 1 = .ok (.iload_n 1, 1) := by decide +kernel
theorem dX11_loudness_2 : decode cX11_loudness 2 = .ok (.invokevirtual 108, 3) := by decide +kernel
theorem dX11_loudness_5 : decode cX11_loudness 5 = .ok (.ifCond .eq 5, 3) := by decide +kernel
theorem dX11_loudness_8 : decode cX11_loudness 8 = .ok (.iconst 0, 1) := by decide +kernel
theorem dX11_loudness_9 : decode cX11_loudness 9 = .ok (.ireturn, 1) := by decide +kernel
theorem dX11_peak_0 : decode cX11_peak 0 = .ok (.aload_n 0, 1) := by decide +kernel
theorem dX11_peak_1 : decode cX11_peak 1 = .ok (.iload_n 1, 1) := by decide +kernel
theorem dX11_peak_2 : decode cX11_peak 2 = .ok (.invokevirtual 108, 3) := by decide +kernel
theorem dX11_peak_5 : decode cX11_peak 5 = .ok (.ifCond .eq 5, 3) := by decide +kernel
theorem dX11_peak_8 : decode cX11_peak 8 = .ok (.iconst 0, 1) := by decide +kernel
theorem dX11_peak_9 : decode cX11_peak 9 = .ok (.ireturn, 1) := by decide +kernel
theorem dX11_noItem_0 : decode cX11_noItem 0 = .ok (.aload_n 0, 1) := by decide +kernel
theorem dX11_noItem_1 : decode cX11_noItem 1 = .ok (.iload_n 1, 1) := by decide +kernel
theorem dX11_noItem_2 : decode cX11_noItem 2 = .ok (.i2l, 1) := by decide +kernel
theorem dX11_noItem_3 : decode cX11_noItem 3 = .ok (.lconst 0, 1) := by decide +kernel
theorem dX11_noItem_4 : decode cX11_noItem 4 = .ok (.aload_n 0, 1) := by decide +kernel
theorem dX11_noItem_5 : decode cX11_noItem 5 = .ok (.getfield 28, 3) := by decide +kernel
theorem dX11_noItem_8 : decode cX11_noItem 8 = .ok (.invokevirtual 50, 3) := by decide +kernel
theorem dX11_noItem_11 : decode cX11_noItem 11 = .ok (.iconst 1, 1) := by decide +kernel
theorem dX11_noItem_12 : decode cX11_noItem 12 = .ok (.isub, 1) := by decide +kernel
theorem dX11_noItem_13 : decode cX11_noItem 13 = .ok (.i2l, 1) := by decide +kernel
theorem dX11_noItem_14 : decode cX11_noItem 14 = .ok (.invokestatic 54, 3) := by decide +kernel
theorem dX11_noItem_17 : decode cX11_noItem 17 = .ok (.ifCond .eq 7, 3) := by decide +kernel
theorem dX11_noItem_24 : decode cX11_noItem 24 = .ok (.iconst 1, 1) := by decide +kernel
theorem dX11_noItem_25 : decode cX11_noItem 25 = .ok (.putfield 46, 3) := by decide +kernel
theorem dX11_noItem_28 : decode cX11_noItem 28 = .ok (.aload_n 0, 1) := by decide +kernel
theorem dX11_noItem_29 : decode cX11_noItem 29 = .ok (.getfield 46, 3) := by decide +kernel
theorem dX11_noItem_32 : decode cX11_noItem 32 = .ok (.ifCond .le 7, 3) := by decide +kernel
theorem dX11_noItem_35 : decode cX11_noItem 35 = .ok (.iconst 1, 1) := by decide +kernel
theorem dX11_noItem_36 : decode cX11_noItem 36 = .ok (.goto 4, 3) := by decide +kernel
theorem dX11_noItem_40 : decode cX11_noItem 40 = .ok (.ireturn, 1) := by decide +kernel
theorem dX11_together_0 : decode cX11_together 0 = .ok (.iconst 0, 1) := by decide +kernel
theorem dX11_together_1 : decode cX11_together 1 = .ok (.istore_n 3, 1) := by decide +kernel
theorem dX11_together_2 : decode cX11_together 2 = .ok (.iload_n 1, 1) := by decide +kernel
theorem dX11_together_3 : decode cX11_together 3 = .ok (.istore 4, 2) := by decide +kernel
theorem dX11_together_5 : decode cX11_together 5 = .ok (.iload 4, 2) := by decide +kernel
theorem dX11_together_7 : decode cX11_together 7 = .ok (.iload_n 2, 1) := by decide +kernel
theorem dX11_together_8 : decode cX11_together 8 = .ok (.if_icmp .ge 48, 3) := by decide +kernel
theorem dX11_together_56 : decode cX11_together 56 = .ok (.iload_n 3, 1) := by decide +kernel
theorem dX11_together_57 : decode cX11_together 57 = .ok (.newarray .int, 2) := by decide +kernel
theorem dX11_together_59 : decode cX11_together 59 = .ok (.astore 4, 2) := by decide +kernel
theorem dX11_together_61 : decode cX11_together 61 = .ok (.iconst 0, 1) := by decide +kernel
theorem dX11_together_62 : decode cX11_together 62 = .ok (.istore 5, 2) := by decide +kernel
theorem dX11_together_64 : decode cX11_together 64 = .ok (.iload_n 1, 1) := by decide +kernel
theorem dX11_together_65 : decode cX11_together 65 = .ok (.istore 6, 2) := by decide +kernel
theorem dX11_together_67 : decode cX11_together 67 = .ok (.iload 6, 2) := by decide +kernel
theorem dX11_together_69 : decode cX11_together 69 = .ok (.iload_n 2, 1) := by decide +kernel
theorem dX11_together_70 : decode cX11_together 70 = .ok (.if_icmp .ge 80, 3) := by decide +kernel
theorem dX11_together_150 : decode cX11_together 150 = .ok (.aload 4, 2) := by decide +kernel
theorem dX11_together_152 : decode cX11_together 152 = .ok (.areturn, 1) := by decide +kernel
theorem dX11_program_0 : decode cX11_program 0 = .ok (.aload_n 0, 1) := by decide +kernel
theorem dX11_program_1 : decode cX11_program 1 = .ok (.iconst 0, 1) := by decide +kernel
theorem dX11_program_2 : decode cX11_program 2 = .ok (.aload_n 0, 1) := by decide +kernel
theorem dX11_program_3 : decode cX11_program 3 = .ok (.getfield 28, 3) := by decide +kernel
theorem dX11_program_6 : decode cX11_program 6 = .ok (.invokevirtual 50, 3) := by decide +kernel
theorem dX11_program_9 : decode cX11_program 9 = .ok (.invokevirtual 153, 3) := by decide +kernel
theorem dX11_program_12 : decode cX11_program 12 = .ok (.areturn, 1) := by decide +kernel
theorem dX11_add_0 : decode cX11_add 0 = .ok (.aload_n 0, 1) := by decide +kernel
theorem dX11_add_1 : decode cX11_add 1 = .ok (.iload_n 1, 1) := by decide +kernel
theorem dX11_add_2 : decode cX11_add 2 = .ok (.invokevirtual 108, 3) := by decide +kernel
theorem dX11_add_5 : decode cX11_add 5 = .ok (.ifCond .eq 5, 3) := by decide +kernel
theorem dX11_add_8 : decode cX11_add 8 = .ok (.iconst 0, 1) := by decide +kernel
theorem dX11_add_9 : decode cX11_add 9 = .ok (.ireturn, 1) := by decide +kernel
theorem dX11_lock_0 : decode cX11_lock 0 = .ok (.aload_n 0, 1) := by decide +kernel
theorem dX11_lock_1 : decode cX11_lock 1 = .ok (.iload_n 1, 1) := by decide +kernel
theorem dX11_lock_2 : decode cX11_lock 2 = .ok (.invokevirtual 168, 3) := by decide +kernel
theorem dX11_lock_5 : decode cX11_lock 5 = .ok (.ifCond .eq 5, 3) := by decide +kernel
theorem dX11_lock_8 : decode cX11_lock 8 = .ok (.iconst 0, 1) := by decide +kernel
theorem dX11_lock_9 : decode cX11_lock 9 = .ok (.ireturn, 1) := by decide +kernel
theorem dX11_replace_0 : decode cX11_replace 0 = .ok (.aload_n 0, 1) := by decide +kernel
theorem dX11_replace_1 : decode cX11_replace 1 = .ok (.iload_n 1, 1) := by decide +kernel
theorem dX11_replace_2 : decode cX11_replace 2 = .ok (.i2l, 1) := by decide +kernel
theorem dX11_replace_3 : decode cX11_replace 3 = .ok (.lconst 0, 1) := by decide +kernel
theorem dX11_replace_4 : decode cX11_replace 4 = .ok (.aload_n 0, 1) := by decide +kernel
theorem dX11_replace_5 : decode cX11_replace 5 = .ok (.getfield 28, 3) := by decide +kernel
theorem dX11_replace_8 : decode cX11_replace 8 = .ok (.invokevirtual 50, 3) := by decide +kernel
theorem dX11_replace_11 : decode cX11_replace 11 = .ok (.iconst 1, 1) := by decide +kernel
theorem dX11_replace_12 : decode cX11_replace 12 = .ok (.isub, 1) := by decide +kernel
theorem dX11_replace_13 : decode cX11_replace 13 = .ok (.i2l, 1) := by decide +kernel
theorem dX11_replace_14 : decode cX11_replace 14 = .ok (.invokestatic 54, 3) := by decide +kernel
theorem dX11_replace_17 : decode cX11_replace 17 = .ok (.ifCond .eq 26, 3) := by decide +kernel
theorem dX11_replace_43 : decode cX11_replace 43 = .ok (.iconst 1, 1) := by decide +kernel
theorem dX11_replace_44 : decode cX11_replace 44 = .ok (.putfield 46, 3) := by decide +kernel
theorem dX11_replace_47 : decode cX11_replace 47 = .ok (.aload_n 0, 1) := by decide +kernel
theorem dX11_replace_48 : decode cX11_replace 48 = .ok (.getfield 46, 3) := by decide +kernel
theorem dX11_replace_51 : decode cX11_replace 51 = .ok (.ifCond .le 5, 3) := by decide +kernel
theorem dX11_replace_54 : decode cX11_replace 54 = .ok (.iconst 0, 1) := by decide +kernel
theorem dX11_replace_55 : decode cX11_replace 55 = .ok (.ireturn, 1) := by decide +kernel
theorem dX11_startOf_0 : decode cX11_startOf 0 = .ok (.aload_n 0, 1) := by decide +kernel
theorem dX11_startOf_1 : decode cX11_startOf 1 = .ok (.iload_n 1, 1) := by decide +kernel
theorem dX11_startOf_2 : decode cX11_startOf 2 = .ok (.invokevirtual 168, 3) := by decide +kernel
theorem dX11_startOf_5 : decode cX11_startOf 5 = .ok (.ifCond .eq 7, 3) := by decide +kernel
theorem dX11_startOf_8 : decode cX11_startOf 8 = .ok (.iconst 0, 1) := by decide +kernel
theorem dX11_startOf_9 : decode cX11_startOf 9 = .ok (.goto 25, 3) := by decide +kernel
theorem dX11_startOf_34 : decode cX11_startOf 34 = .ok (.ireturn, 1) := by decide +kernel
theorem dX11_programLength_0 : decode cX11_programLength 0 = .ok (.aload_n 0, 1) := by decide +kernel
theorem dX11_programLength_1 : decode cX11_programLength 1 = .ok (.iconst 0, 1) := by decide +kernel
theorem dX11_programLength_2 : decode cX11_programLength 2 = .ok (.putfield 46, 3) := by decide +kernel
theorem dX11_programLength_5 : decode cX11_programLength 5 = .ok (.aload_n 0, 1) := by decide +kernel
theorem dX11_programLength_6 : decode cX11_programLength 6 = .ok (.invokevirtual 157, 3) := by decide +kernel
theorem dX11_programLength_9 : decode cX11_programLength 9 = .ok (.arraylength, 1) := by decide +kernel
theorem dX11_programLength_10 : decode cX11_programLength 10 = .ok (.ireturn, 1) := by decide +kernel
theorem dX11_heard_0 : decode cX11_heard 0 = .ok (.aload_n 0, 1) := by decide +kernel
theorem dX11_heard_1 : decode cX11_heard 1 = .ok (.invokevirtual 157, 3) := by decide +kernel
theorem dX11_heard_4 : decode cX11_heard 4 = .ok (.astore_n 2, 1) := by decide +kernel
theorem dX11_heard_5 : decode cX11_heard 5 = .ok (.aload_n 0, 1) := by decide +kernel
theorem dX11_heard_6 : decode cX11_heard 6 = .ok (.iload_n 1, 1) := by decide +kernel
theorem dX11_heard_7 : decode cX11_heard 7 = .ok (.i2l, 1) := by decide +kernel
theorem dX11_heard_8 : decode cX11_heard 8 = .ok (.lconst 0, 1) := by decide +kernel
theorem dX11_heard_9 : decode cX11_heard 9 = .ok (.aload_n 2, 1) := by decide +kernel
theorem dX11_heard_10 : decode cX11_heard 10 = .ok (.arraylength, 1) := by decide +kernel
theorem dX11_heard_11 : decode cX11_heard 11 = .ok (.iconst 1, 1) := by decide +kernel
theorem dX11_heard_12 : decode cX11_heard 12 = .ok (.isub, 1) := by decide +kernel
theorem dX11_heard_13 : decode cX11_heard 13 = .ok (.i2l, 1) := by decide +kernel
theorem dX11_heard_14 : decode cX11_heard 14 = .ok (.invokestatic 54, 3) := by decide +kernel
theorem dX11_heard_17 : decode cX11_heard 17 = .ok (.ifCond .eq 7, 3) := by decide +kernel
theorem dX11_heard_24 : decode cX11_heard 24 = .ok (.iconst 1, 1) := by decide +kernel
theorem dX11_heard_25 : decode cX11_heard 25 = .ok (.putfield 46, 3) := by decide +kernel
theorem dX11_heard_28 : decode cX11_heard 28 = .ok (.aload_n 0, 1) := by decide +kernel
theorem dX11_heard_29 : decode cX11_heard 29 = .ok (.getfield 46, 3) := by decide +kernel
theorem dX11_heard_32 : decode cX11_heard 32 = .ok (.ifCond .le 7, 3) := by decide +kernel
theorem dX11_heard_35 : decode cX11_heard 35 = .ok (.iconst 0, 1) := by decide +kernel
theorem dX11_heard_36 : decode cX11_heard 36 = .ok (.goto 6, 3) := by decide +kernel
theorem dX11_heard_42 : decode cX11_heard 42 = .ok (.ireturn, 1) := by decide +kernel
theorem dX11_sideOf_0 : decode cX11_sideOf 0 = .ok (.aload_n 0, 1) := by decide +kernel
theorem dX11_sideOf_1 : decode cX11_sideOf 1 = .ok (.iload_n 1, 1) := by decide +kernel
theorem dX11_sideOf_2 : decode cX11_sideOf 2 = .ok (.invokevirtual 168, 3) := by decide +kernel
theorem dX11_sideOf_5 : decode cX11_sideOf 5 = .ok (.ifCond .ne 12, 3) := by decide +kernel
theorem dX11_sideOf_17 : decode cX11_sideOf 17 = .ok (.iconst 0, 1) := by decide +kernel
theorem dX11_sideOf_18 : decode cX11_sideOf 18 = .ok (.ireturn, 1) := by decide +kernel
theorem dX11_noPlate_0 : decode cX11_noPlate 0 = .ok (.aload_n 0, 1) := by decide +kernel
theorem dX11_noPlate_1 : decode cX11_noPlate 1 = .ok (.iload_n 2, 1) := by decide +kernel
theorem dX11_noPlate_2 : decode cX11_noPlate 2 = .ok (.i2l, 1) := by decide +kernel
theorem dX11_noPlate_3 : decode cX11_noPlate 3 = .ok (.lconst 0, 1) := by decide +kernel
theorem dX11_noPlate_4 : decode cX11_noPlate 4 = .ok (.aload_n 1, 1) := by decide +kernel
theorem dX11_noPlate_5 : decode cX11_noPlate 5 = .ok (.invokevirtual 50, 3) := by decide +kernel
theorem dX11_noPlate_8 : decode cX11_noPlate 8 = .ok (.iconst 1, 1) := by decide +kernel
theorem dX11_noPlate_9 : decode cX11_noPlate 9 = .ok (.isub, 1) := by decide +kernel
theorem dX11_noPlate_10 : decode cX11_noPlate 10 = .ok (.i2l, 1) := by decide +kernel
theorem dX11_noPlate_11 : decode cX11_noPlate 11 = .ok (.invokestatic 54, 3) := by decide +kernel
theorem dX11_noPlate_14 : decode cX11_noPlate 14 = .ok (.ifCond .eq 7, 3) := by decide +kernel
theorem dX11_noPlate_21 : decode cX11_noPlate 21 = .ok (.iconst 1, 1) := by decide +kernel
theorem dX11_noPlate_22 : decode cX11_noPlate 22 = .ok (.putfield 46, 3) := by decide +kernel
theorem dX11_noPlate_25 : decode cX11_noPlate 25 = .ok (.aload_n 0, 1) := by decide +kernel
theorem dX11_noPlate_26 : decode cX11_noPlate 26 = .ok (.getfield 46, 3) := by decide +kernel
theorem dX11_noPlate_29 : decode cX11_noPlate 29 = .ok (.ifCond .le 7, 3) := by decide +kernel
theorem dX11_noPlate_32 : decode cX11_noPlate 32 = .ok (.iconst 1, 1) := by decide +kernel
theorem dX11_noPlate_33 : decode cX11_noPlate 33 = .ok (.goto 4, 3) := by decide +kernel
theorem dX11_noPlate_37 : decode cX11_noPlate 37 = .ok (.ireturn, 1) := by decide +kernel
theorem dX11_failedAt_0 : decode cX11_failedAt 0 = .ok (.aload_n 0, 1) := by decide +kernel
theorem dX11_failedAt_1 : decode cX11_failedAt 1 = .ok (.aload_n 0, 1) := by decide +kernel
theorem dX11_failedAt_2 : decode cX11_failedAt 2 = .ok (.getfield 31, 3) := by decide +kernel
theorem dX11_failedAt_5 : decode cX11_failedAt 5 = .ok (.iload_n 1, 1) := by decide +kernel
theorem dX11_failedAt_6 : decode cX11_failedAt 6 = .ok (.invokevirtual 196, 3) := by decide +kernel
theorem dX11_failedAt_9 : decode cX11_failedAt 9 = .ok (.ifCond .eq 7, 3) := by decide +kernel
theorem dX11_failedAt_12 : decode cX11_failedAt 12 = .ok (.iconst 0, 1) := by decide +kernel
theorem dX11_failedAt_13 : decode cX11_failedAt 13 = .ok (.goto 17, 3) := by decide +kernel
theorem dX11_failedAt_30 : decode cX11_failedAt 30 = .ok (.ireturn, 1) := by decide +kernel
theorem dX11_gives_0 : decode cX11_gives 0 = .ok (.aload_n 0, 1) := by decide +kernel
theorem dX11_gives_1 : decode cX11_gives 1 = .ok (.aload_n 1, 1) := by decide +kernel
theorem dX11_gives_2 : decode cX11_gives 2 = .ok (.iload_n 2, 1) := by decide +kernel
theorem dX11_gives_3 : decode cX11_gives 3 = .ok (.invokevirtual 196, 3) := by decide +kernel
theorem dX11_gives_6 : decode cX11_gives 6 = .ok (.ifCond .eq 5, 3) := by decide +kernel
theorem dX11_gives_9 : decode cX11_gives 9 = .ok (.iconst 0, 1) := by decide +kernel
theorem dX11_gives_10 : decode cX11_gives 10 = .ok (.ireturn, 1) := by decide +kernel
theorem dX11_father_0 : decode cX11_father 0 = .ok (.aload_n 0, 1) := by decide +kernel
theorem dX11_father_1 : decode cX11_father 1 = .ok (.aload_n 0, 1) := by decide +kernel
theorem dX11_father_2 : decode cX11_father 2 = .ok (.getfield 31, 3) := by decide +kernel
theorem dX11_father_5 : decode cX11_father 5 = .ok (.iload_n 1, 1) := by decide +kernel
theorem dX11_father_6 : decode cX11_father 6 = .ok (.iconst 1, 1) := by decide +kernel
theorem dX11_father_7 : decode cX11_father 7 = .ok (.aload_n 0, 1) := by decide +kernel
theorem dX11_father_8 : decode cX11_father 8 = .ok (.getfield 34, 3) := by decide +kernel
theorem dX11_father_11 : decode cX11_father 11 = .ok (.invokevirtual 206, 3) := by decide +kernel
theorem dX11_father_14 : decode cX11_father 14 = .ok (.ireturn, 1) := by decide +kernel
theorem dX11_mother_0 : decode cX11_mother 0 = .ok (.aload_n 0, 1) := by decide +kernel
theorem dX11_mother_1 : decode cX11_mother 1 = .ok (.aload_n 0, 1) := by decide +kernel
theorem dX11_mother_2 : decode cX11_mother 2 = .ok (.getfield 34, 3) := by decide +kernel
theorem dX11_mother_5 : decode cX11_mother 5 = .ok (.iload_n 1, 1) := by decide +kernel
theorem dX11_mother_6 : decode cX11_mother 6 = .ok (.iconst 3, 1) := by decide +kernel
theorem dX11_mother_7 : decode cX11_mother 7 = .ok (.aload_n 0, 1) := by decide +kernel
theorem dX11_mother_8 : decode cX11_mother 8 = .ok (.getfield 37, 3) := by decide +kernel
theorem dX11_mother_11 : decode cX11_mother 11 = .ok (.invokevirtual 206, 3) := by decide +kernel
theorem dX11_mother_14 : decode cX11_mother 14 = .ok (.ireturn, 1) := by decide +kernel
theorem dX11_stamper_0 : decode cX11_stamper 0 = .ok (.aload_n 0, 1) := by decide +kernel
theorem dX11_stamper_1 : decode cX11_stamper 1 = .ok (.aload_n 0, 1) := by decide +kernel
theorem dX11_stamper_2 : decode cX11_stamper 2 = .ok (.getfield 37, 3) := by decide +kernel
theorem dX11_stamper_5 : decode cX11_stamper 5 = .ok (.iload_n 1, 1) := by decide +kernel
theorem dX11_stamper_6 : decode cX11_stamper 6 = .ok (.iconst 4, 1) := by decide +kernel
theorem dX11_stamper_7 : decode cX11_stamper 7 = .ok (.aload_n 0, 1) := by decide +kernel
theorem dX11_stamper_8 : decode cX11_stamper 8 = .ok (.getfield 40, 3) := by decide +kernel
theorem dX11_stamper_11 : decode cX11_stamper 11 = .ok (.invokevirtual 206, 3) := by decide +kernel
theorem dX11_stamper_14 : decode cX11_stamper 14 = .ok (.ireturn, 1) := by decide +kernel
theorem dX11_press_0 : decode cX11_press 0 = .ok (.aload_n 0, 1) := by decide +kernel
theorem dX11_press_1 : decode cX11_press 1 = .ok (.aload_n 0, 1) := by decide +kernel
theorem dX11_press_2 : decode cX11_press 2 = .ok (.getfield 40, 3) := by decide +kernel
theorem dX11_press_5 : decode cX11_press 5 = .ok (.iload_n 1, 1) := by decide +kernel
theorem dX11_press_6 : decode cX11_press 6 = .ok (.invokevirtual 196, 3) := by decide +kernel
theorem dX11_press_9 : decode cX11_press 9 = .ok (.ifCond .eq 5, 3) := by decide +kernel
theorem dX11_press_12 : decode cX11_press 12 = .ok (.iconst 0, 1) := by decide +kernel
theorem dX11_press_13 : decode cX11_press 13 = .ok (.ireturn, 1) := by decide +kernel
theorem dX11_noEdition_0 : decode cX11_noEdition 0 = .ok (.aload_n 0, 1) := by decide +kernel
theorem dX11_noEdition_1 : decode cX11_noEdition 1 = .ok (.iload_n 1, 1) := by decide +kernel
theorem dX11_noEdition_2 : decode cX11_noEdition 2 = .ok (.i2l, 1) := by decide +kernel
theorem dX11_noEdition_3 : decode cX11_noEdition 3 = .ok (.lconst 0, 1) := by decide +kernel
theorem dX11_noEdition_4 : decode cX11_noEdition 4 = .ok (.aload_n 0, 1) := by decide +kernel
theorem dX11_noEdition_5 : decode cX11_noEdition 5 = .ok (.getfield 43, 3) := by decide +kernel
theorem dX11_noEdition_8 : decode cX11_noEdition 8 = .ok (.invokevirtual 50, 3) := by decide +kernel
theorem dX11_noEdition_11 : decode cX11_noEdition 11 = .ok (.iconst 1, 1) := by decide +kernel
theorem dX11_noEdition_12 : decode cX11_noEdition 12 = .ok (.isub, 1) := by decide +kernel
theorem dX11_noEdition_13 : decode cX11_noEdition 13 = .ok (.i2l, 1) := by decide +kernel
theorem dX11_noEdition_14 : decode cX11_noEdition 14 = .ok (.invokestatic 54, 3) := by decide +kernel
theorem dX11_noEdition_17 : decode cX11_noEdition 17 = .ok (.ifCond .eq 7, 3) := by decide +kernel
theorem dX11_noEdition_24 : decode cX11_noEdition 24 = .ok (.iconst 1, 1) := by decide +kernel
theorem dX11_noEdition_25 : decode cX11_noEdition 25 = .ok (.putfield 46, 3) := by decide +kernel
theorem dX11_noEdition_28 : decode cX11_noEdition 28 = .ok (.aload_n 0, 1) := by decide +kernel
theorem dX11_noEdition_29 : decode cX11_noEdition 29 = .ok (.getfield 46, 3) := by decide +kernel
theorem dX11_noEdition_32 : decode cX11_noEdition 32 = .ok (.ifCond .le 7, 3) := by decide +kernel
theorem dX11_noEdition_35 : decode cX11_noEdition 35 = .ok (.iconst 1, 1) := by decide +kernel
theorem dX11_noEdition_36 : decode cX11_noEdition 36 = .ok (.goto 4, 3) := by decide +kernel
theorem dX11_noEdition_40 : decode cX11_noEdition 40 = .ok (.ireturn, 1) := by decide +kernel
theorem dX11_noEditions_0 : decode cX11_noEditions 0 = .ok (.aload_n 0, 1) := by decide +kernel
theorem dX11_noEditions_1 : decode cX11_noEditions 1 = .ok (.iload_n 1, 1) := by decide +kernel
theorem dX11_noEditions_2 : decode cX11_noEditions 2 = .ok (.i2l, 1) := by decide +kernel
theorem dX11_noEditions_3 : decode cX11_noEditions 3 = .ok (.lconst 0, 1) := by decide +kernel
theorem dX11_noEditions_4 : decode cX11_noEditions 4 = .ok (.aload_n 0, 1) := by decide +kernel
theorem dX11_noEditions_5 : decode cX11_noEditions 5 = .ok (.getfield 43, 3) := by decide +kernel
theorem dX11_noEditions_8 : decode cX11_noEditions 8 = .ok (.invokevirtual 50, 3) := by decide +kernel
theorem dX11_noEditions_11 : decode cX11_noEditions 11 = .ok (.iconst 1, 1) := by decide +kernel
theorem dX11_noEditions_12 : decode cX11_noEditions 12 = .ok (.isub, 1) := by decide +kernel
theorem dX11_noEditions_13 : decode cX11_noEditions 13 = .ok (.i2l, 1) := by decide +kernel
theorem dX11_noEditions_14 : decode cX11_noEditions 14 = .ok (.invokestatic 54, 3) := by decide +kernel
theorem dX11_noEditions_17 : decode cX11_noEditions 17 = .ok (.ifCond .eq 26, 3) := by decide +kernel
theorem dX11_noEditions_43 : decode cX11_noEditions 43 = .ok (.iconst 1, 1) := by decide +kernel
theorem dX11_noEditions_44 : decode cX11_noEditions 44 = .ok (.putfield 46, 3) := by decide +kernel
theorem dX11_noEditions_47 : decode cX11_noEditions 47 = .ok (.aload_n 0, 1) := by decide +kernel
theorem dX11_noEditions_48 : decode cX11_noEditions 48 = .ok (.getfield 46, 3) := by decide +kernel
theorem dX11_noEditions_51 : decode cX11_noEditions 51 = .ok (.ifCond .le 7, 3) := by decide +kernel
theorem dX11_noEditions_54 : decode cX11_noEditions 54 = .ok (.iconst 1, 1) := by decide +kernel
theorem dX11_noEditions_55 : decode cX11_noEditions 55 = .ok (.goto 4, 3) := by decide +kernel
theorem dX11_noEditions_59 : decode cX11_noEditions 59 = .ok (.ireturn, 1) := by decide +kernel
theorem dX11_edition_0 : decode cX11_edition 0 = .ok (.aload_n 0, 1) := by decide +kernel
theorem dX11_edition_1 : decode cX11_edition 1 = .ok (.iload_n 1, 1) := by decide +kernel
theorem dX11_edition_2 : decode cX11_edition 2 = .ok (.i2l, 1) := by decide +kernel
theorem dX11_edition_3 : decode cX11_edition 3 = .ok (.ldc2_w 218, 3) := by decide +kernel
theorem dX11_edition_6 : decode cX11_edition 6 = .ok (.ldc2_w 220, 3) := by decide +kernel
theorem dX11_edition_9 : decode cX11_edition 9 = .ok (.invokestatic 54, 3) := by decide +kernel
theorem dX11_edition_12 : decode cX11_edition 12 = .ok (.ifCond .ne 7, 3) := by decide +kernel
theorem dX11_edition_15 : decode cX11_edition 15 = .ok (.iconst 1, 1) := by decide +kernel
theorem dX11_edition_16 : decode cX11_edition 16 = .ok (.goto 33, 3) := by decide +kernel
theorem dX11_edition_19 : decode cX11_edition 19 = .ok (.aload_n 0, 1) := by decide +kernel
theorem dX11_edition_20 : decode cX11_edition 20 = .ok (.getfield 28, 3) := by decide +kernel
theorem dX11_edition_23 : decode cX11_edition 23 = .ok (.invokevirtual 222, 3) := by decide +kernel
theorem dX11_edition_26 : decode cX11_edition 26 = .ok (.ifCond .eq 7, 3) := by decide +kernel
theorem dX11_edition_29 : decode cX11_edition 29 = .ok (.iconst 2, 1) := by decide +kernel
theorem dX11_edition_30 : decode cX11_edition 30 = .ok (.goto 19, 3) := by decide +kernel
theorem dX11_edition_49 : decode cX11_edition 49 = .ok (.putfield 46, 3) := by decide +kernel
theorem dX11_edition_52 : decode cX11_edition 52 = .ok (.aload_n 0, 1) := by decide +kernel
theorem dX11_edition_53 : decode cX11_edition 53 = .ok (.getfield 46, 3) := by decide +kernel
theorem dX11_edition_56 : decode cX11_edition 56 = .ok (.ifCond .le 5, 3) := by decide +kernel
theorem dX11_edition_59 : decode cX11_edition 59 = .ok (.iconst 0, 1) := by decide +kernel
theorem dX11_edition_60 : decode cX11_edition 60 = .ok (.ireturn, 1) := by decide +kernel
theorem dX11_editionAt_0 : decode cX11_editionAt 0 = .ok (.aload_n 0, 1) := by decide +kernel
theorem dX11_editionAt_1 : decode cX11_editionAt 1 = .ok (.iload_n 1, 1) := by decide +kernel
theorem dX11_editionAt_2 : decode cX11_editionAt 2 = .ok (.invokevirtual 231, 3) := by decide +kernel
theorem dX11_editionAt_5 : decode cX11_editionAt 5 = .ok (.ifCond .eq 5, 3) := by decide +kernel
theorem dX11_editionAt_8 : decode cX11_editionAt 8 = .ok (.iconst 0, 1) := by decide +kernel
theorem dX11_editionAt_9 : decode cX11_editionAt 9 = .ok (.ireturn, 1) := by decide +kernel
theorem dX11_sum_0 : decode cX11_sum 0 = .ok (.aload_n 0, 1) := by decide +kernel
theorem dX11_sum_1 : decode cX11_sum 1 = .ok (.iload_n 1, 1) := by decide +kernel
theorem dX11_sum_2 : decode cX11_sum 2 = .ok (.invokevirtual 231, 3) := by decide +kernel
theorem dX11_sum_5 : decode cX11_sum 5 = .ok (.ifCond .eq 5, 3) := by decide +kernel
theorem dX11_sum_8 : decode cX11_sum 8 = .ok (.iconst 0, 1) := by decide +kernel
theorem dX11_sum_9 : decode cX11_sum 9 = .ok (.ireturn, 1) := by decide +kernel
theorem dX11_match_0 : decode cX11_match 0 = .ok (.aload_n 0, 1) := by decide +kernel
theorem dX11_match_1 : decode cX11_match 1 = .ok (.iload_n 1, 1) := by decide +kernel
theorem dX11_match_2 : decode cX11_match 2 = .ok (.iload_n 2, 1) := by decide +kernel
theorem dX11_match_3 : decode cX11_match 3 = .ok (.invokevirtual 242, 3) := by decide +kernel
theorem dX11_match_6 : decode cX11_match 6 = .ok (.ifCond .eq 5, 3) := by decide +kernel
theorem dX11_match_9 : decode cX11_match 9 = .ok (.iconst 0, 1) := by decide +kernel
theorem dX11_match_10 : decode cX11_match 10 = .ok (.ireturn, 1) := by decide +kernel
theorem dX11_difference_0 : decode cX11_difference 0 = .ok (.aload_n 0, 1) := by decide +kernel
theorem dX11_difference_1 : decode cX11_difference 1 = .ok (.iload_n 1, 1) := by decide +kernel
theorem dX11_difference_2 : decode cX11_difference 2 = .ok (.iload_n 2, 1) := by decide +kernel
theorem dX11_difference_3 : decode cX11_difference 3 = .ok (.invokevirtual 242, 3) := by decide +kernel
theorem dX11_difference_6 : decode cX11_difference 6 = .ok (.ifCond .eq 6, 3) := by decide +kernel
theorem dX11_difference_9 : decode cX11_difference 9 = .ok (.bipush 32, 2) := by decide +kernel
theorem dX11_difference_11 : decode cX11_difference 11 = .ok (.ireturn, 1) := by decide +kernel
theorem dX11_differsAt_0 : decode cX11_differsAt 0 = .ok (.aload_n 0, 1) := by decide +kernel
theorem dX11_differsAt_1 : decode cX11_differsAt 1 = .ok (.iload_n 1, 1) := by decide +kernel
theorem dX11_differsAt_2 : decode cX11_differsAt 2 = .ok (.iload_n 2, 1) := by decide +kernel
theorem dX11_differsAt_3 : decode cX11_differsAt 3 = .ok (.invokevirtual 242, 3) := by decide +kernel
theorem dX11_differsAt_6 : decode cX11_differsAt 6 = .ok (.ifCond .eq 5, 3) := by decide +kernel
theorem dX11_differsAt_9 : decode cX11_differsAt 9 = .ok (.iconst 0, 1) := by decide +kernel
theorem dX11_differsAt_10 : decode cX11_differsAt 10 = .ok (.ireturn, 1) := by decide +kernel
theorem dX11_damage_0 : decode cX11_damage 0 = .ok (.aload_n 0, 1) := by decide +kernel
theorem dX11_damage_1 : decode cX11_damage 1 = .ok (.iload_n 1, 1) := by decide +kernel
theorem dX11_damage_2 : decode cX11_damage 2 = .ok (.invokevirtual 231, 3) := by decide +kernel
theorem dX11_damage_5 : decode cX11_damage 5 = .ok (.ifCond .eq 5, 3) := by decide +kernel
theorem dX11_damage_8 : decode cX11_damage 8 = .ok (.iconst 0, 1) := by decide +kernel
theorem dX11_damage_9 : decode cX11_damage 9 = .ok (.ireturn, 1) := by decide +kernel
theorem dX11_repair_0 : decode cX11_repair 0 = .ok (.aload_n 0, 1) := by decide +kernel
theorem dX11_repair_1 : decode cX11_repair 1 = .ok (.iload_n 1, 1) := by decide +kernel
theorem dX11_repair_2 : decode cX11_repair 2 = .ok (.iload_n 2, 1) := by decide +kernel
theorem dX11_repair_3 : decode cX11_repair 3 = .ok (.invokevirtual 242, 3) := by decide +kernel
theorem dX11_repair_6 : decode cX11_repair 6 = .ok (.ifCond .eq 5, 3) := by decide +kernel
theorem dX11_repair_9 : decode cX11_repair 9 = .ok (.iconst 0, 1) := by decide +kernel
theorem dX11_repair_10 : decode cX11_repair 10 = .ok (.ireturn, 1) := by decide +kernel
theorem dX11_padding_0 : decode cX11_padding 0 = .ok (.aload_n 0, 1) := by decide +kernel
theorem dX11_padding_1 : decode cX11_padding 1 = .ok (.iload_n 1, 1) := by decide +kernel
theorem dX11_padding_2 : decode cX11_padding 2 = .ok (.invokevirtual 108, 3) := by decide +kernel
theorem dX11_padding_5 : decode cX11_padding 5 = .ok (.ifCond .eq 5, 3) := by decide +kernel
theorem dX11_padding_8 : decode cX11_padding 8 = .ok (.iconst 0, 1) := by decide +kernel
theorem dX11_padding_9 : decode cX11_padding 9 = .ok (.ireturn, 1) := by decide +kernel
theorem dX11_split_0 : decode cX11_split 0 = .ok (.aload_n 0, 1) := by decide +kernel
theorem dX11_split_1 : decode cX11_split 1 = .ok (.iload_n 1, 1) := by decide +kernel
theorem dX11_split_2 : decode cX11_split 2 = .ok (.invokevirtual 168, 3) := by decide +kernel
theorem dX11_split_5 : decode cX11_split 5 = .ok (.ifCond .eq 5, 3) := by decide +kernel
theorem dX11_split_8 : decode cX11_split 8 = .ok (.iconst 0, 1) := by decide +kernel
theorem dX11_split_9 : decode cX11_split 9 = .ok (.ireturn, 1) := by decide +kernel
theorem dX11_play_0 : decode cX11_play 0 = .ok (.aload_n 0, 1) := by decide +kernel
theorem dX11_play_1 : decode cX11_play 1 = .ok (.iload_n 1, 1) := by decide +kernel
theorem dX11_play_2 : decode cX11_play 2 = .ok (.invokevirtual 168, 3) := by decide +kernel
theorem dX11_play_5 : decode cX11_play 5 = .ok (.ifCond .eq 5, 3) := by decide +kernel
theorem dX11_play_8 : decode cX11_play 8 = .ok (.iconst 0, 1) := by decide +kernel
theorem dX11_play_9 : decode cX11_play 9 = .ok (.ireturn, 1) := by decide +kernel
theorem dX11_earned_0 : decode cX11_earned 0 = .ok (.aload_n 0, 1) := by decide +kernel
theorem dX11_earned_1 : decode cX11_earned 1 = .ok (.iload_n 1, 1) := by decide +kernel
theorem dX11_earned_2 : decode cX11_earned 2 = .ok (.i2l, 1) := by decide +kernel
theorem dX11_earned_3 : decode cX11_earned 3 = .ok (.lconst 0, 1) := by decide +kernel
theorem dX11_earned_4 : decode cX11_earned 4 = .ok (.ldc2_w 275, 3) := by decide +kernel
theorem dX11_earned_7 : decode cX11_earned 7 = .ok (.invokestatic 54, 3) := by decide +kernel
theorem dX11_earned_10 : decode cX11_earned 10 = .ok (.ifCond .eq 19, 3) := by decide +kernel
theorem dX11_earned_13 : decode cX11_earned 13 = .ok (.iload_n 2, 1) := by decide +kernel
theorem dX11_earned_14 : decode cX11_earned 14 = .ok (.i2l, 1) := by decide +kernel
theorem dX11_earned_15 : decode cX11_earned 15 = .ok (.lconst 1, 1) := by decide +kernel
theorem dX11_earned_16 : decode cX11_earned 16 = .ok (.ldc2_w 288, 3) := by decide +kernel
theorem dX11_earned_19 : decode cX11_earned 19 = .ok (.invokestatic 54, 3) := by decide +kernel
theorem dX11_earned_22 : decode cX11_earned 22 = .ok (.ifCond .eq 7, 3) := by decide +kernel
theorem dX11_earned_25 : decode cX11_earned 25 = .ok (.iconst 0, 1) := by decide +kernel
theorem dX11_earned_26 : decode cX11_earned 26 = .ok (.goto 4, 3) := by decide +kernel
theorem dX11_earned_29 : decode cX11_earned 29 = .ok (.iconst 1, 1) := by decide +kernel
theorem dX11_earned_30 : decode cX11_earned 30 = .ok (.putfield 46, 3) := by decide +kernel
theorem dX11_earned_33 : decode cX11_earned 33 = .ok (.lconst 0, 1) := by decide +kernel
theorem dX11_earned_34 : decode cX11_earned 34 = .ok (.lstore_n 3, 1) := by decide +kernel
theorem dX11_earned_35 : decode cX11_earned 35 = .ok (.iconst 0, 1) := by decide +kernel
theorem dX11_earned_36 : decode cX11_earned 36 = .ok (.istore 5, 2) := by decide +kernel
theorem dX11_earned_38 : decode cX11_earned 38 = .ok (.iload 5, 2) := by decide +kernel
theorem dX11_earned_40 : decode cX11_earned 40 = .ok (.aload_n 0, 1) := by decide +kernel
theorem dX11_earned_41 : decode cX11_earned 41 = .ok (.getfield 28, 3) := by decide +kernel
theorem dX11_earned_44 : decode cX11_earned 44 = .ok (.invokevirtual 50, 3) := by decide +kernel
theorem dX11_earned_47 : decode cX11_earned 47 = .ok (.if_icmp .ge 61, 3) := by decide +kernel
theorem dX11_earned_108 : decode cX11_earned 108 = .ok (.lload_n 3, 1) := by decide +kernel
theorem dX11_earned_109 : decode cX11_earned 109 = .ok (.lreturn, 1) := by decide +kernel
theorem dX11_vote_0 : decode cX11_vote 0 = .ok (.aload_n 0, 1) := by decide +kernel
theorem dX11_vote_1 : decode cX11_vote 1 = .ok (.iload_n 1, 1) := by decide +kernel
theorem dX11_vote_2 : decode cX11_vote 2 = .ok (.invokevirtual 231, 3) := by decide +kernel
theorem dX11_vote_5 : decode cX11_vote 5 = .ok (.ifCond .eq 5, 3) := by decide +kernel
theorem dX11_vote_8 : decode cX11_vote 8 = .ok (.iconst 0, 1) := by decide +kernel
theorem dX11_vote_9 : decode cX11_vote 9 = .ok (.ireturn, 1) := by decide +kernel
theorem dX11_favourite_0 : decode cX11_favourite 0 = .ok (.iconst (-1), 1) := by decide +kernel
theorem dX11_favourite_1 : decode cX11_favourite 1 = .ok (.istore_n 1, 1) := by decide +kernel
theorem dX11_favourite_2 : decode cX11_favourite 2 = .ok (.iconst 0, 1) := by decide +kernel
theorem dX11_favourite_3 : decode cX11_favourite 3 = .ok (.istore_n 2, 1) := by decide +kernel
theorem dX11_favourite_4 : decode cX11_favourite 4 = .ok (.iload_n 2, 1) := by decide +kernel
theorem dX11_favourite_5 : decode cX11_favourite 5 = .ok (.aload_n 0, 1) := by decide +kernel
theorem dX11_favourite_6 : decode cX11_favourite 6 = .ok (.getfield 43, 3) := by decide +kernel
theorem dX11_favourite_9 : decode cX11_favourite 9 = .ok (.invokevirtual 50, 3) := by decide +kernel
theorem dX11_favourite_12 : decode cX11_favourite 12 = .ok (.if_icmp .ge 91, 3) := by decide +kernel
theorem dX11_favourite_103 : decode cX11_favourite 103 = .ok (.aload_n 0, 1) := by decide +kernel
theorem dX11_favourite_104 : decode cX11_favourite 104 = .ok (.iload_n 1, 1) := by decide +kernel
theorem dX11_favourite_105 : decode cX11_favourite 105 = .ok (.ifCond .ge 7, 3) := by decide +kernel
theorem dX11_favourite_108 : decode cX11_favourite 108 = .ok (.iconst 1, 1) := by decide +kernel
theorem dX11_favourite_109 : decode cX11_favourite 109 = .ok (.goto 4, 3) := by decide +kernel
theorem dX11_favourite_113 : decode cX11_favourite 113 = .ok (.putfield 46, 3) := by decide +kernel
theorem dX11_favourite_116 : decode cX11_favourite 116 = .ok (.iconst 0, 1) := by decide +kernel
theorem dX11_favourite_117 : decode cX11_favourite 117 = .ok (.iload_n 1, 1) := by decide +kernel
theorem dX11_favourite_118 : decode cX11_favourite 118 = .ok (.invokestatic 7, 3) := by decide +kernel
theorem dX11_favourite_121 : decode cX11_favourite 121 = .ok (.ireturn, 1) := by decide +kernel
theorem dX11_goodShare_0 : decode cX11_goodShare 0 = .ok (.aload_n 0, 1) := by decide +kernel
theorem dX11_goodShare_1 : decode cX11_goodShare 1 = .ok (.aload_n 0, 1) := by decide +kernel
theorem dX11_goodShare_2 : decode cX11_goodShare 2 = .ok (.getfield 212, 3) := by decide +kernel
theorem dX11_goodShare_5 : decode cX11_goodShare 5 = .ok (.ifCond .ne 7, 3) := by decide +kernel
theorem dX11_goodShare_8 : decode cX11_goodShare 8 = .ok (.iconst 1, 1) := by decide +kernel
theorem dX11_goodShare_9 : decode cX11_goodShare 9 = .ok (.goto 4, 3) := by decide +kernel
theorem dX11_goodShare_13 : decode cX11_goodShare 13 = .ok (.putfield 46, 3) := by decide +kernel
theorem dX11_goodShare_16 : decode cX11_goodShare 16 = .ok (.aload_n 0, 1) := by decide +kernel
theorem dX11_goodShare_17 : decode cX11_goodShare 17 = .ok (.getfield 46, 3) := by decide +kernel
theorem dX11_goodShare_20 : decode cX11_goodShare 20 = .ok (.ifCond .le 7, 3) := by decide +kernel
theorem dX11_goodShare_23 : decode cX11_goodShare 23 = .ok (.fconst 0, 1) := by decide +kernel
theorem dX11_goodShare_24 : decode cX11_goodShare 24 = .ok (.goto 14, 3) := by decide +kernel
theorem dX11_goodShare_38 : decode cX11_goodShare 38 = .ok (.freturn, 1) := by decide +kernel
theorem dX11_meanMark_0 : decode cX11_meanMark 0 = .ok (.aload_n 0, 1) := by decide +kernel
theorem dX11_meanMark_1 : decode cX11_meanMark 1 = .ok (.iload_n 1, 1) := by decide +kernel
theorem dX11_meanMark_2 : decode cX11_meanMark 2 = .ok (.invokevirtual 231, 3) := by decide +kernel
theorem dX11_meanMark_5 : decode cX11_meanMark 5 = .ok (.ifCond .eq 5, 3) := by decide +kernel
theorem dX11_meanMark_8 : decode cX11_meanMark 8 = .ok (.dconst 0, 1) := by decide +kernel
theorem dX11_meanMark_9 : decode cX11_meanMark 9 = .ok (.dreturn, 1) := by decide +kernel
theorem dX11_isTrue_0 : decode cX11_isTrue 0 = .ok (.aload_n 0, 1) := by decide +kernel
theorem dX11_isTrue_1 : decode cX11_isTrue 1 = .ok (.iconst 0, 1) := by decide +kernel
theorem dX11_isTrue_2 : decode cX11_isTrue 2 = .ok (.putfield 46, 3) := by decide +kernel
theorem dX11_isTrue_5 : decode cX11_isTrue 5 = .ok (.iconst 1, 1) := by decide +kernel
theorem dX11_isTrue_6 : decode cX11_isTrue 6 = .ok (.ireturn, 1) := by decide +kernel
theorem dJx4a65c_size_8abf5_0 : decode cJx4a65c_size_8abf5 0 = .ok (.aload_n 0, 1) := by decide +kernel
theorem dJx4a65c_size_8abf5_1 : decode cJx4a65c_size_8abf5 1 = .ok (.getfield 48, 3) := by decide +kernel
theorem dJx4a65c_size_8abf5_4 : decode cJx4a65c_size_8abf5 4 = .ok (.ireturn, 1) := by decide +kernel
theorem dJx4a65c_isEmpty_aae02_0 : decode cJx4a65c_isEmpty_aae02 0 = .ok (.aload_n 0, 1) := by decide +kernel
theorem dJx4a65c_isEmpty_aae02_1 : decode cJx4a65c_isEmpty_aae02 1 = .ok (.getfield 48, 3) := by decide +kernel
theorem dJx4a65c_isEmpty_aae02_4 : decode cJx4a65c_isEmpty_aae02 4 = .ok (.ifCond .ne 7, 3) := by decide +kernel
theorem dJx4a65c_isEmpty_aae02_7 : decode cJx4a65c_isEmpty_aae02 7 = .ok (.iconst 1, 1) := by decide +kernel
theorem dJx4a65c_isEmpty_aae02_8 : decode cJx4a65c_isEmpty_aae02 8 = .ok (.goto 4, 3) := by decide +kernel
theorem dJx4a65c_isEmpty_aae02_12 : decode cJx4a65c_isEmpty_aae02 12 = .ok (.ireturn, 1) := by decide +kernel
def wo_c_X11_in_t : List Cond := []
def wk_c_X11_in_t : List Cond := Cond.code yX11_in cX11_in 6 (some .boolean) :: wo_c_X11_in_t
theorem wo_c_X11_in_t_in : ∀ w ∈ wo_c_X11_in_t, w ∈ wk_c_X11_in_t := fun w h => List.mem_cons_of_mem _ h
theorem gk_c_X11_in_t : ∀ w ∈ wk_c_X11_in_t, goodWord w = true := List.forall_mem_cons.mpr ⟨rfl, (show ∀ w ∈ wo_c_X11_in_t, goodWord w = true by decide +kernel)⟩
set_option maxHeartbeats 4000000 in
set_option maxRecDepth 100000 in
theorem c_X11_in_t (l : Launch) (hst : l.stackTraces = false) (D : va_G) (e0 : kE) (pv : Int64) (pw : Int64) (px9 : Int64) (h : pw ≤ pv ∧ pv ≤ px9) : kM l yX11_in wk_c_X11_in_t 0 0 0 0 D kStr e0 [] [] [.long pv, .long pw, .long px9] (fun v w t => v = some (.int 1) ∧ w = [] ∧ t = []) (fun _ => False) := by
  refine k_of (cc := cX11_in) (maxL := 6) (ret := (some .boolean)) (by decide) rfl (Nat.le_of_ble_eq_true rfl) ?_
  intro p e s m args below meth c A ls hx hb hr hts hown hlocks hml hex hh hl
  have hown : s.vm.findClass RX11 = some m.cls := hown
  have hl : lv_has ls 6 [(0, .long pv), (2, .long pw), (4, .long px9)] := hl
  refine lv_lload_n hx hb dX11_in_0 rfl (lv_at hl 0 rfl) ?_
  refine lv_lload_n hx hb dX11_in_1 rfl (lv_at hl 1 rfl) ?_
  refine W.lcmp hx hb dX11_in_2 ?_
  refine lv_if_lt (tgt := 17) hx hb dX11_in_3 (by decide) (fun c_3 => absurd c_3 (fun q => absurd h.1 (Int64.not_le.mpr ((lg_cmp_lt _ _).mp q)))) (fun _ => ?_)
  refine lv_lload_n hx hb dX11_in_6 rfl (lv_at hl 0 rfl) ?_
  refine lv_lload hx hb dX11_in_7 (lv_at hl 2 rfl) ?_
  refine W.lcmp hx hb dX11_in_9 ?_
  refine lv_if_gt (tgt := 17) hx hb dX11_in_10 (by decide) (fun c_10 => absurd c_10 (fun q => absurd h.2 (Int64.not_le.mpr ((lg_cmp_gt _ _).mp q)))) (fun _ => ?_)
  refine lv_iconst (v := 1) hx hb dX11_in_13 (by decide) ?_
  refine lv_goto (tgt := 18) hx hb dX11_in_14 (by decide) ?_
  exact k_endz (ty := .boolean) (by decide) hx hb hr hlocks hh ⟨rfl, rfl, rfl⟩ [] [] rfl rfl rfl (Nat.le_of_ble_eq_true rfl) (Nat.le_of_ble_eq_true rfl) dX11_in_18
def wo_c_X11_in_f : List Cond := []
def wk_c_X11_in_f : List Cond := Cond.code yX11_in cX11_in 6 (some .boolean) :: wo_c_X11_in_f
theorem wo_c_X11_in_f_in : ∀ w ∈ wo_c_X11_in_f, w ∈ wk_c_X11_in_f := fun w h => List.mem_cons_of_mem _ h
theorem gk_c_X11_in_f : ∀ w ∈ wk_c_X11_in_f, goodWord w = true := List.forall_mem_cons.mpr ⟨rfl, (show ∀ w ∈ wo_c_X11_in_f, goodWord w = true by decide +kernel)⟩
set_option maxHeartbeats 4000000 in
set_option maxRecDepth 100000 in
theorem c_X11_in_f (l : Launch) (hst : l.stackTraces = false) (D : va_G) (e0 : kE) (pv : Int64) (pw : Int64) (px9 : Int64) (h : ¬ (pw ≤ pv ∧ pv ≤ px9)) : kM l yX11_in wk_c_X11_in_f 0 0 0 0 D kStr e0 [] [] [.long pv, .long pw, .long px9] (fun v w t => v = some (.int 0) ∧ w = [] ∧ t = []) (fun _ => False) := by
  refine k_of (cc := cX11_in) (maxL := 6) (ret := (some .boolean)) (by decide) rfl (Nat.le_of_ble_eq_true rfl) ?_
  intro p e s m args below meth c A ls hx hb hr hts hown hlocks hml hex hh hl
  have hown : s.vm.findClass RX11 = some m.cls := hown
  have hl : lv_has ls 6 [(0, .long pv), (2, .long pw), (4, .long px9)] := hl
  refine lv_lload_n hx hb dX11_in_0 rfl (lv_at hl 0 rfl) ?_
  refine lv_lload_n hx hb dX11_in_1 rfl (lv_at hl 1 rfl) ?_
  refine W.lcmp hx hb dX11_in_2 ?_
  refine lv_if_lt (tgt := 17) hx hb dX11_in_3 (by decide) (fun c_3 => ?_) (fun c_3 => ?_)
  · refine lv_iconst (v := 0) hx hb dX11_in_17 (by decide) ?_
    exact k_endz (ty := .boolean) (by decide) hx hb hr hlocks hh ⟨rfl, rfl, rfl⟩ [] [] rfl rfl rfl (Nat.le_of_ble_eq_true rfl) (Nat.le_of_ble_eq_true rfl) dX11_in_18
  · refine lv_lload_n hx hb dX11_in_6 rfl (lv_at hl 0 rfl) ?_
    refine lv_lload hx hb dX11_in_7 (lv_at hl 2 rfl) ?_
    refine W.lcmp hx hb dX11_in_9 ?_
    refine lv_if_gt (tgt := 17) hx hb dX11_in_10 (by decide) (fun _ => ?_) (fun c_10 => absurd (k_in_f h c_3) c_10)
    refine lv_iconst (v := 0) hx hb dX11_in_17 (by decide) ?_
    exact k_endz (ty := .boolean) (by decide) hx hb hr hlocks hh ⟨rfl, rfl, rfl⟩ [] [] rfl rfl rfl (Nat.le_of_ble_eq_true rfl) (Nat.le_of_ble_eq_true rfl) dX11_in_18
def wo_c_size : List Cond := [Cond.fieldLink RJx4a65c 48 "java/util/ArrayList" "size" "I"]
def wk_c_size : List Cond := Cond.code yJx4a65c_size_8abf5 cJx4a65c_size_8abf5 1 (some .int) :: (wo_c_size ++ (u_ws RJx4a65c TJx4a65c 3))
theorem wo_c_size_in : ∀ w ∈ wo_c_size, w ∈ wk_c_size := fun w h => List.mem_cons_of_mem _ (List.mem_append_left _ h)
theorem ws_c_size_0 : ∀ w ∈ u_ws RJx4a65c TJx4a65c 3, w ∈ wk_c_size := fun w h => List.mem_cons_of_mem _ (List.mem_append_right _ h)
theorem gk_c_size : ∀ w ∈ wk_c_size, goodWord w = true := List.forall_mem_cons.mpr ⟨rfl, (List.forall_mem_append.mpr ⟨(show ∀ w ∈ wo_c_size, goodWord w = true by decide +kernel), (show ∀ w ∈ u_ws RJx4a65c TJx4a65c 3, goodWord w = true by decide +kernel)⟩)⟩
set_option maxHeartbeats 4000000 in
set_option maxRecDepth 100000 in
theorem c_size (l : Launch) (hst : l.stackTraces = false) (D : va_G) (e0 : kE) (pz : Nat) (pz1 : Int32) (pz2 : Value) (pz3 : Int32)  : kM l yJx4a65c_size_8abf5 wk_c_size 0 0 0 0 D kStr e0 [] [(pz, .inr (4, [.int pz1, pz2, .int pz3]))] [.ref pz] (fun v w t => v = some (.int pz3) ∧ w = [(pz, .inr (4, [.int pz1, pz2, .int pz3]))] ∧ t = []) (fun _ => False) := by
  refine k_of (cc := cJx4a65c_size_8abf5) (maxL := 1) (ret := (some .int)) (by decide) rfl (Nat.le_of_ble_eq_true rfl) ?_
  intro p e s m args below meth c A ls hx hb hr hts hown hlocks hml hex hh hl
  have hown : s.vm.findClass RJx4a65c = some m.cls := hown
  have hl : lv_has ls 1 [(0, .ref pz)] := hl
  refine lv_aload_n hx hb dJx4a65c_size_8abf5_0 rfl (lv_at hl 0 rfl) ?_
  refine k_get (C := RJx4a65c) (T := TJx4a65c) (N := 3) (ci := 4) (v := .int pz3) hx hb hts ws_c_size_0 hown hh 0 rfl rfl 2 (by decide) (hts _ (wo_c_size_in _ (List.mem_of_getElem? (i := 0) rfl))) rfl dJx4a65c_size_8abf5_1 ?_
  exact k_endi hx hb hr hlocks hh ⟨rfl, rfl, rfl⟩ [0] [] rfl rfl rfl (Nat.le_of_ble_eq_true rfl) (Nat.le_of_ble_eq_true rfl) dJx4a65c_size_8abf5_4
def wo_c_isEmpty : List Cond := [Cond.fieldLink RJx4a65c 48 "java/util/ArrayList" "size" "I"]
def wk_c_isEmpty : List Cond := Cond.code yJx4a65c_isEmpty_aae02 cJx4a65c_isEmpty_aae02 1 (some .boolean) :: (wo_c_isEmpty ++ (u_ws RJx4a65c TJx4a65c 3))
theorem wo_c_isEmpty_in : ∀ w ∈ wo_c_isEmpty, w ∈ wk_c_isEmpty := fun w h => List.mem_cons_of_mem _ (List.mem_append_left _ h)
theorem ws_c_isEmpty_0 : ∀ w ∈ u_ws RJx4a65c TJx4a65c 3, w ∈ wk_c_isEmpty := fun w h => List.mem_cons_of_mem _ (List.mem_append_right _ h)
theorem gk_c_isEmpty : ∀ w ∈ wk_c_isEmpty, goodWord w = true := List.forall_mem_cons.mpr ⟨rfl, (List.forall_mem_append.mpr ⟨(show ∀ w ∈ wo_c_isEmpty, goodWord w = true by decide +kernel), (show ∀ w ∈ u_ws RJx4a65c TJx4a65c 3, goodWord w = true by decide +kernel)⟩)⟩
set_option maxHeartbeats 4000000 in
set_option maxRecDepth 100000 in
theorem c_isEmpty (l : Launch) (hst : l.stackTraces = false) (D : va_G) (e0 : kE) (pz : Nat) (pz1 : Int32) (pz2 : Value)  : kM l yJx4a65c_isEmpty_aae02 wk_c_isEmpty 0 0 0 0 D kStr e0 [] [(pz, .inr (4, [.int pz1, pz2, .int 0]))] [.ref pz] (fun v w t => v = some (.int 1) ∧ w = [(pz, .inr (4, [.int pz1, pz2, .int 0]))] ∧ t = []) (fun _ => False) := by
  refine k_of (cc := cJx4a65c_isEmpty_aae02) (maxL := 1) (ret := (some .boolean)) (by decide) rfl (Nat.le_of_ble_eq_true rfl) ?_
  intro p e s m args below meth c A ls hx hb hr hts hown hlocks hml hex hh hl
  have hown : s.vm.findClass RJx4a65c = some m.cls := hown
  have hl : lv_has ls 1 [(0, .ref pz)] := hl
  refine lv_aload_n hx hb dJx4a65c_isEmpty_aae02_0 rfl (lv_at hl 0 rfl) ?_
  refine k_get (C := RJx4a65c) (T := TJx4a65c) (N := 3) (ci := 4) (v := .int 0) hx hb hts ws_c_isEmpty_0 hown hh 0 rfl rfl 2 (by decide) (hts _ (wo_c_isEmpty_in _ (List.mem_of_getElem? (i := 0) rfl))) rfl dJx4a65c_isEmpty_aae02_1 ?_
  refine lv_if_ne (tgt := 11) hx hb dJx4a65c_isEmpty_aae02_4 (by decide) (fun c_4 => absurd (by decide) c_4) (fun _ => ?_)
  refine lv_iconst (v := 1) hx hb dJx4a65c_isEmpty_aae02_7 (by decide) ?_
  refine lv_goto (tgt := 12) hx hb dJx4a65c_isEmpty_aae02_8 (by decide) ?_
  exact k_endz (ty := .boolean) (by decide) hx hb hr hlocks hh ⟨rfl, rfl, rfl⟩ [0] [] rfl rfl rfl (Nat.le_of_ble_eq_true rfl) (Nat.le_of_ble_eq_true rfl) dJx4a65c_isEmpty_aae02_12
def wo_c_X11_noReel : List Cond := [Cond.fieldLink RX11 19 "SegueworksModel" "reels" "Ljava/util/ArrayList;", Cond.fieldLink RX11 46 "SegueworksModel" "thrown" "I"]
def wk_c_X11_noReel : List Cond := Cond.code yX11_noReel cX11_noReel 2 (some .boolean) :: (wo_c_X11_noReel ++ ((u_ws RX11 TX11 11) ++ ((wsV RX11 50 RJx4a65c yJx4a65c_size_8abf5 wk_c_size) ++ (va_wsS RX11 54 yX11_in wk_c_X11_in_f))))
theorem wo_c_X11_noReel_in : ∀ w ∈ wo_c_X11_noReel, w ∈ wk_c_X11_noReel := fun w h => List.mem_cons_of_mem _ (List.mem_append_left _ h)
theorem ws_c_X11_noReel_0 : ∀ w ∈ u_ws RX11 TX11 11, w ∈ wk_c_X11_noReel := fun w h => List.mem_cons_of_mem _ (List.mem_append_right _ (List.mem_append_left _ h))
theorem gi_c_X11_noReel_1 : GoodIn wk_c_X11_noReel (wsV RX11 50 RJx4a65c yJx4a65c_size_8abf5 wk_c_size) := fun w h => ⟨List.mem_cons_of_mem _ (List.mem_append_right _ (List.mem_append_right _ (List.mem_append_left _ h))), good_of_word (kg_V gk_c_size w h)⟩
theorem gi_c_X11_noReel_2 : GoodIn wk_c_X11_noReel (va_wsS RX11 54 yX11_in wk_c_X11_in_f) := fun w h => ⟨List.mem_cons_of_mem _ (List.mem_append_right _ (List.mem_append_right _ (List.mem_append_right _ h))), good_of_word (kg_S gk_c_X11_in_f w h)⟩
theorem gk_c_X11_noReel : ∀ w ∈ wk_c_X11_noReel, goodWord w = true := List.forall_mem_cons.mpr ⟨rfl, (List.forall_mem_append.mpr ⟨(show ∀ w ∈ wo_c_X11_noReel, goodWord w = true by decide +kernel), (List.forall_mem_append.mpr ⟨(show ∀ w ∈ u_ws RX11 TX11 11, goodWord w = true by decide +kernel), (List.forall_mem_append.mpr ⟨(kg_V gk_c_size), (kg_S gk_c_X11_in_f)⟩)⟩)⟩)⟩
set_option maxHeartbeats 4000000 in
set_option maxRecDepth 100000 in
theorem c_X11_noReel (l : Launch) (hst : l.stackTraces = false) (D : va_G) (e0 : kE) (pa : Nat) (pt : Int32) (pr : Nat) (pp : Nat) (pi : Nat) (pl : Nat) (pf : Nat) (pm : Nat) (ps : Nat) (pe : Nat) (a1 : Int32)  : kM l yX11_noReel wk_c_X11_noReel 1 25 0 0 D kStr e0 [] [(pa, .inr (16, [.int pt, .ref pr, .ref pp, .ref pi, .ref pl, .ref pf, .ref pm, .ref ps, .ref pe, .int 0, .int 0])), (pr, .inr (4, [.int 0, .ref e0.1, .int 0]))] [.ref pa, .int a1] (fun v w t => v = some (.int 1) ∧ w = [(pa, .inr (16, [.int 1, .ref pr, .ref pp, .ref pi, .ref pl, .ref pf, .ref pm, .ref ps, .ref pe, .int 0, .int 0]))] ∧ t = []) (fun _ => False) := by
  refine k_of (cc := cX11_noReel) (maxL := 2) (ret := (some .boolean)) (by decide) rfl (Nat.le_of_ble_eq_true rfl) ?_
  intro p e s m args below meth c A ls hx hb hr hts hown hlocks hml hex hh hl
  have hown : s.vm.findClass RX11 = some m.cls := hown
  have hl : lv_has ls 2 [(0, .ref pa), (1, .int a1)] := hl
  refine lv_aload_n hx hb dX11_noReel_0 rfl (lv_at hl 0 rfl) ?_
  refine lv_iload_n hx hb dX11_noReel_1 rfl (lv_at hl 1 rfl) ?_
  refine lv_i2l (v := (Int32.toInt64 a1)) hx hb dX11_noReel_2 rfl ?_
  refine lv_lconst (v := 0) hx hb dX11_noReel_3 (by decide) ?_
  refine lv_aload_n hx hb dX11_noReel_4 rfl (lv_at hl 0 rfl) ?_
  refine k_get (C := RX11) (T := TX11) (N := 11) (ci := 16) (v := .ref pr) hx hb hts ws_c_X11_noReel_0 hown hh 0 rfl rfl 1 (by decide) (hts _ (wo_c_X11_noReel_in _ (List.mem_of_getElem? (i := 0) rfl))) rfl dX11_noReel_5 ?_
  refine k_callV (C := RJx4a65c) (T := TJx4a65c) (N := 3) (ci := 4) (q0 := 1) (wr := [(pa, .inr (16, [.int pt, .ref pr, .ref pp, .ref pi, .ref pl, .ref pf, .ref pm, .ref ps, .ref pe, .int 0, .int 0]))]) (rest := [.long 0, .long (Int32.toInt64 a1), .ref pa]) (own := RX11) ⟨hx, hb, hml, hown, hts⟩ (c_size l hst D e0 pr 0 (.ref e0.1) 0 ) (cwV 0 hts gi_c_X11_noReel_1 rfl rfl rfl (by decide +kernel) ⟨Nat.le_of_ble_eq_true rfl, Nat.le_of_ble_eq_true rfl⟩) hh rfl rfl [1] [0] [] rfl rfl rfl rfl (by decide) rfl rfl hl rfl (Nat.le_of_ble_eq_true rfl) dX11_noReel_8 ⟨Nat.le_of_ble_eq_true rfl, (Nat.le_of_ble_eq_true rfl)⟩ (fun _ _ _ _ _ h => h.elim) (fun v w ty1 H locs hp hh => ?_)
  obtain ⟨rfl, rfl, rfl⟩ := hp
  have hh : kH D kStr e0 A s H [(pa, .inr (16, [.int pt, .ref pr, .ref pp, .ref pi, .ref pl, .ref pf, .ref pm, .ref ps, .ref pe, .int 0, .int 0])), (pr, .inr (4, [.int 0, .ref e0.1, .int 0]))] [] _ := hh
  refine W.eq (g2 := F0 m 11 ls [.int 0, .long 0, .long (Int32.toInt64 a1), .ref pa]) (by first | rfl | decide) ?_
  refine lv_iconst (v := 1) hx hb dX11_noReel_11 (by decide) ?_
  refine lv_isub hx hb dX11_noReel_12 ?_
  refine W.eq (g2 := F0 m 13 ls [.int (-1), .long 0, .long (Int32.toInt64 a1), .ref pa]) (by first | rfl | decide) ?_
  refine lv_i2l (v := (-1)) hx hb dX11_noReel_13 (by decide) ?_
  refine k_callS (wr := [(pa, .inr (16, [.int pt, .ref pr, .ref pp, .ref pi, .ref pl, .ref pf, .ref pm, .ref ps, .ref pe, .int 0, .int 0])), (pr, .inr (4, [.int 0, .ref e0.1, .int 0]))]) (rest := [.ref pa]) (own := RX11) ⟨hx, hb, hml, hown, hts⟩ (c_X11_in_f l hst D e0 ((Int32.toInt64 a1)) 0 (-1) (k_empty _)) (va_cwS 3 hts gi_c_X11_noReel_2 rfl rfl rfl (by decide +kernel) ⟨Nat.le_of_ble_eq_true rfl, Nat.le_of_ble_eq_true rfl⟩) hh [] [0, 1] [] rfl rfl rfl rfl (by decide) rfl rfl hl rfl (Nat.le_of_ble_eq_true rfl) dX11_noReel_14 ⟨Nat.le_of_ble_eq_true rfl, (Nat.le_of_ble_eq_true rfl)⟩ (fun _ _ _ _ _ h => h.elim) (fun v w ty1 H locs hp hh => ?_)
  obtain ⟨rfl, rfl, rfl⟩ := hp
  have hh : kH D kStr e0 A s H [(pa, .inr (16, [.int pt, .ref pr, .ref pp, .ref pi, .ref pl, .ref pf, .ref pm, .ref ps, .ref pe, .int 0, .int 0])), (pr, .inr (4, [.int 0, .ref e0.1, .int 0]))] [] _ := hh
  refine W.eq (g2 := F0 m 17 ls [.int 0, .ref pa]) (by first | rfl | decide) ?_
  refine lv_if_eq (tgt := 24) hx hb dX11_noReel_17 (by decide) (fun _ => ?_) (fun c_17 => absurd (by decide) c_17)
  refine lv_iconst (v := 1) hx hb dX11_noReel_24 (by decide) ?_
  refine k_put (C := RX11) (T := TX11) (N := 11) (ci := 16) (v := .int 1) (ws' := [(pa, .inr (16, [.int 1, .ref pr, .ref pp, .ref pi, .ref pl, .ref pf, .ref pm, .ref ps, .ref pe, .int 0, .int 0])), (pr, .inr (4, [.int 0, .ref e0.1, .int 0]))]) hx hb hts ws_c_X11_noReel_0 tyX11 tyX11_ok nmX11 hown hh 0 rfl rfl 0 (by decide) (hts _ (wo_c_X11_noReel_in _ (List.mem_of_getElem? (i := 1) rfl))) rfl rfl rfl (Nat.le_of_ble_eq_true rfl) dX11_noReel_25 rfl (fun H locs hh => ?_)
  refine lv_aload_n hx hb dX11_noReel_28 rfl (lv_at hl 0 rfl) ?_
  refine k_get (C := RX11) (T := TX11) (N := 11) (ci := 16) (v := .int 1) hx hb hts ws_c_X11_noReel_0 hown hh 0 rfl rfl 0 (by decide) (hts _ (wo_c_X11_noReel_in _ (List.mem_of_getElem? (i := 1) rfl))) rfl dX11_noReel_29 ?_
  refine lv_if_le (tgt := 39) hx hb dX11_noReel_32 (by decide) (fun c_32 => absurd c_32 (by decide)) (fun _ => ?_)
  refine lv_iconst (v := 1) hx hb dX11_noReel_35 (by decide) ?_
  refine lv_goto (tgt := 40) hx hb dX11_noReel_36 (by decide) ?_
  exact k_endz (ty := .boolean) (by decide) hx hb hr hlocks hh ⟨rfl, rfl, rfl⟩ [0] [] rfl rfl rfl (Nat.le_of_ble_eq_true rfl) (Nat.le_of_ble_eq_true rfl) dX11_noReel_40
def wo_c_X11_noPiece : List Cond := [Cond.fieldLink RX11 25 "SegueworksModel" "pieces" "Ljava/util/ArrayList;", Cond.fieldLink RX11 46 "SegueworksModel" "thrown" "I"]
def wk_c_X11_noPiece : List Cond := Cond.code yX11_noPiece cX11_noPiece 2 (some .boolean) :: (wo_c_X11_noPiece ++ ((u_ws RX11 TX11 11) ++ ((wsV RX11 50 RJx4a65c yJx4a65c_size_8abf5 wk_c_size) ++ (va_wsS RX11 54 yX11_in wk_c_X11_in_f))))
theorem wo_c_X11_noPiece_in : ∀ w ∈ wo_c_X11_noPiece, w ∈ wk_c_X11_noPiece := fun w h => List.mem_cons_of_mem _ (List.mem_append_left _ h)
theorem ws_c_X11_noPiece_0 : ∀ w ∈ u_ws RX11 TX11 11, w ∈ wk_c_X11_noPiece := fun w h => List.mem_cons_of_mem _ (List.mem_append_right _ (List.mem_append_left _ h))
theorem gi_c_X11_noPiece_1 : GoodIn wk_c_X11_noPiece (wsV RX11 50 RJx4a65c yJx4a65c_size_8abf5 wk_c_size) := fun w h => ⟨List.mem_cons_of_mem _ (List.mem_append_right _ (List.mem_append_right _ (List.mem_append_left _ h))), good_of_word (kg_V gk_c_size w h)⟩
theorem gi_c_X11_noPiece_2 : GoodIn wk_c_X11_noPiece (va_wsS RX11 54 yX11_in wk_c_X11_in_f) := fun w h => ⟨List.mem_cons_of_mem _ (List.mem_append_right _ (List.mem_append_right _ (List.mem_append_right _ h))), good_of_word (kg_S gk_c_X11_in_f w h)⟩
theorem gk_c_X11_noPiece : ∀ w ∈ wk_c_X11_noPiece, goodWord w = true := List.forall_mem_cons.mpr ⟨rfl, (List.forall_mem_append.mpr ⟨(show ∀ w ∈ wo_c_X11_noPiece, goodWord w = true by decide +kernel), (List.forall_mem_append.mpr ⟨(show ∀ w ∈ u_ws RX11 TX11 11, goodWord w = true by decide +kernel), (List.forall_mem_append.mpr ⟨(kg_V gk_c_size), (kg_S gk_c_X11_in_f)⟩)⟩)⟩)⟩
set_option maxHeartbeats 4000000 in
set_option maxRecDepth 100000 in
theorem c_X11_noPiece (l : Launch) (hst : l.stackTraces = false) (D : va_G) (e0 : kE) (pa : Nat) (pt : Int32) (pr : Nat) (pp : Nat) (pi : Nat) (pl : Nat) (pf : Nat) (pm : Nat) (ps : Nat) (pe : Nat) (a1 : Int32)  : kM l yX11_noPiece wk_c_X11_noPiece 1 25 0 0 D kStr e0 [] [(pa, .inr (16, [.int pt, .ref pr, .ref pp, .ref pi, .ref pl, .ref pf, .ref pm, .ref ps, .ref pe, .int 0, .int 0])), (pp, .inr (4, [.int 0, .ref e0.1, .int 0]))] [.ref pa, .int a1] (fun v w t => v = some (.int 1) ∧ w = [(pa, .inr (16, [.int 1, .ref pr, .ref pp, .ref pi, .ref pl, .ref pf, .ref pm, .ref ps, .ref pe, .int 0, .int 0]))] ∧ t = []) (fun _ => False) := by
  refine k_of (cc := cX11_noPiece) (maxL := 2) (ret := (some .boolean)) (by decide) rfl (Nat.le_of_ble_eq_true rfl) ?_
  intro p e s m args below meth c A ls hx hb hr hts hown hlocks hml hex hh hl
  have hown : s.vm.findClass RX11 = some m.cls := hown
  have hl : lv_has ls 2 [(0, .ref pa), (1, .int a1)] := hl
  refine lv_aload_n hx hb dX11_noPiece_0 rfl (lv_at hl 0 rfl) ?_
  refine lv_iload_n hx hb dX11_noPiece_1 rfl (lv_at hl 1 rfl) ?_
  refine lv_i2l (v := (Int32.toInt64 a1)) hx hb dX11_noPiece_2 rfl ?_
  refine lv_lconst (v := 0) hx hb dX11_noPiece_3 (by decide) ?_
  refine lv_aload_n hx hb dX11_noPiece_4 rfl (lv_at hl 0 rfl) ?_
  refine k_get (C := RX11) (T := TX11) (N := 11) (ci := 16) (v := .ref pp) hx hb hts ws_c_X11_noPiece_0 hown hh 0 rfl rfl 2 (by decide) (hts _ (wo_c_X11_noPiece_in _ (List.mem_of_getElem? (i := 0) rfl))) rfl dX11_noPiece_5 ?_
  refine k_callV (C := RJx4a65c) (T := TJx4a65c) (N := 3) (ci := 4) (q0 := 1) (wr := [(pa, .inr (16, [.int pt, .ref pr, .ref pp, .ref pi, .ref pl, .ref pf, .ref pm, .ref ps, .ref pe, .int 0, .int 0]))]) (rest := [.long 0, .long (Int32.toInt64 a1), .ref pa]) (own := RX11) ⟨hx, hb, hml, hown, hts⟩ (c_size l hst D e0 pp 0 (.ref e0.1) 0 ) (cwV 0 hts gi_c_X11_noPiece_1 rfl rfl rfl (by decide +kernel) ⟨Nat.le_of_ble_eq_true rfl, Nat.le_of_ble_eq_true rfl⟩) hh rfl rfl [1] [0] [] rfl rfl rfl rfl (by decide) rfl rfl hl rfl (Nat.le_of_ble_eq_true rfl) dX11_noPiece_8 ⟨Nat.le_of_ble_eq_true rfl, (Nat.le_of_ble_eq_true rfl)⟩ (fun _ _ _ _ _ h => h.elim) (fun v w ty1 H locs hp hh => ?_)
  obtain ⟨rfl, rfl, rfl⟩ := hp
  have hh : kH D kStr e0 A s H [(pa, .inr (16, [.int pt, .ref pr, .ref pp, .ref pi, .ref pl, .ref pf, .ref pm, .ref ps, .ref pe, .int 0, .int 0])), (pp, .inr (4, [.int 0, .ref e0.1, .int 0]))] [] _ := hh
  refine W.eq (g2 := F0 m 11 ls [.int 0, .long 0, .long (Int32.toInt64 a1), .ref pa]) (by first | rfl | decide) ?_
  refine lv_iconst (v := 1) hx hb dX11_noPiece_11 (by decide) ?_
  refine lv_isub hx hb dX11_noPiece_12 ?_
  refine W.eq (g2 := F0 m 13 ls [.int (-1), .long 0, .long (Int32.toInt64 a1), .ref pa]) (by first | rfl | decide) ?_
  refine lv_i2l (v := (-1)) hx hb dX11_noPiece_13 (by decide) ?_
  refine k_callS (wr := [(pa, .inr (16, [.int pt, .ref pr, .ref pp, .ref pi, .ref pl, .ref pf, .ref pm, .ref ps, .ref pe, .int 0, .int 0])), (pp, .inr (4, [.int 0, .ref e0.1, .int 0]))]) (rest := [.ref pa]) (own := RX11) ⟨hx, hb, hml, hown, hts⟩ (c_X11_in_f l hst D e0 ((Int32.toInt64 a1)) 0 (-1) (k_empty _)) (va_cwS 3 hts gi_c_X11_noPiece_2 rfl rfl rfl (by decide +kernel) ⟨Nat.le_of_ble_eq_true rfl, Nat.le_of_ble_eq_true rfl⟩) hh [] [0, 1] [] rfl rfl rfl rfl (by decide) rfl rfl hl rfl (Nat.le_of_ble_eq_true rfl) dX11_noPiece_14 ⟨Nat.le_of_ble_eq_true rfl, (Nat.le_of_ble_eq_true rfl)⟩ (fun _ _ _ _ _ h => h.elim) (fun v w ty1 H locs hp hh => ?_)
  obtain ⟨rfl, rfl, rfl⟩ := hp
  have hh : kH D kStr e0 A s H [(pa, .inr (16, [.int pt, .ref pr, .ref pp, .ref pi, .ref pl, .ref pf, .ref pm, .ref ps, .ref pe, .int 0, .int 0])), (pp, .inr (4, [.int 0, .ref e0.1, .int 0]))] [] _ := hh
  refine W.eq (g2 := F0 m 17 ls [.int 0, .ref pa]) (by first | rfl | decide) ?_
  refine lv_if_eq (tgt := 24) hx hb dX11_noPiece_17 (by decide) (fun _ => ?_) (fun c_17 => absurd (by decide) c_17)
  refine lv_iconst (v := 1) hx hb dX11_noPiece_24 (by decide) ?_
  refine k_put (C := RX11) (T := TX11) (N := 11) (ci := 16) (v := .int 1) (ws' := [(pa, .inr (16, [.int 1, .ref pr, .ref pp, .ref pi, .ref pl, .ref pf, .ref pm, .ref ps, .ref pe, .int 0, .int 0])), (pp, .inr (4, [.int 0, .ref e0.1, .int 0]))]) hx hb hts ws_c_X11_noPiece_0 tyX11 tyX11_ok nmX11 hown hh 0 rfl rfl 0 (by decide) (hts _ (wo_c_X11_noPiece_in _ (List.mem_of_getElem? (i := 1) rfl))) rfl rfl rfl (Nat.le_of_ble_eq_true rfl) dX11_noPiece_25 rfl (fun H locs hh => ?_)
  refine lv_aload_n hx hb dX11_noPiece_28 rfl (lv_at hl 0 rfl) ?_
  refine k_get (C := RX11) (T := TX11) (N := 11) (ci := 16) (v := .int 1) hx hb hts ws_c_X11_noPiece_0 hown hh 0 rfl rfl 0 (by decide) (hts _ (wo_c_X11_noPiece_in _ (List.mem_of_getElem? (i := 1) rfl))) rfl dX11_noPiece_29 ?_
  refine lv_if_le (tgt := 39) hx hb dX11_noPiece_32 (by decide) (fun c_32 => absurd c_32 (by decide)) (fun _ => ?_)
  refine lv_iconst (v := 1) hx hb dX11_noPiece_35 (by decide) ?_
  refine lv_goto (tgt := 40) hx hb dX11_noPiece_36 (by decide) ?_
  exact k_endz (ty := .boolean) (by decide) hx hb hr hlocks hh ⟨rfl, rfl, rfl⟩ [0] [] rfl rfl rfl (Nat.le_of_ble_eq_true rfl) (Nat.le_of_ble_eq_true rfl) dX11_noPiece_40
def wo_c_X11_noItem : List Cond := [Cond.fieldLink RX11 28 "SegueworksModel" "items" "Ljava/util/ArrayList;", Cond.fieldLink RX11 46 "SegueworksModel" "thrown" "I"]
def wk_c_X11_noItem : List Cond := Cond.code yX11_noItem cX11_noItem 2 (some .boolean) :: (wo_c_X11_noItem ++ ((u_ws RX11 TX11 11) ++ ((wsV RX11 50 RJx4a65c yJx4a65c_size_8abf5 wk_c_size) ++ (va_wsS RX11 54 yX11_in wk_c_X11_in_f))))
theorem wo_c_X11_noItem_in : ∀ w ∈ wo_c_X11_noItem, w ∈ wk_c_X11_noItem := fun w h => List.mem_cons_of_mem _ (List.mem_append_left _ h)
theorem ws_c_X11_noItem_0 : ∀ w ∈ u_ws RX11 TX11 11, w ∈ wk_c_X11_noItem := fun w h => List.mem_cons_of_mem _ (List.mem_append_right _ (List.mem_append_left _ h))
theorem gi_c_X11_noItem_1 : GoodIn wk_c_X11_noItem (wsV RX11 50 RJx4a65c yJx4a65c_size_8abf5 wk_c_size) := fun w h => ⟨List.mem_cons_of_mem _ (List.mem_append_right _ (List.mem_append_right _ (List.mem_append_left _ h))), good_of_word (kg_V gk_c_size w h)⟩
theorem gi_c_X11_noItem_2 : GoodIn wk_c_X11_noItem (va_wsS RX11 54 yX11_in wk_c_X11_in_f) := fun w h => ⟨List.mem_cons_of_mem _ (List.mem_append_right _ (List.mem_append_right _ (List.mem_append_right _ h))), good_of_word (kg_S gk_c_X11_in_f w h)⟩
theorem gk_c_X11_noItem : ∀ w ∈ wk_c_X11_noItem, goodWord w = true := List.forall_mem_cons.mpr ⟨rfl, (List.forall_mem_append.mpr ⟨(show ∀ w ∈ wo_c_X11_noItem, goodWord w = true by decide +kernel), (List.forall_mem_append.mpr ⟨(show ∀ w ∈ u_ws RX11 TX11 11, goodWord w = true by decide +kernel), (List.forall_mem_append.mpr ⟨(kg_V gk_c_size), (kg_S gk_c_X11_in_f)⟩)⟩)⟩)⟩
set_option maxHeartbeats 4000000 in
set_option maxRecDepth 100000 in
theorem c_X11_noItem (l : Launch) (hst : l.stackTraces = false) (D : va_G) (e0 : kE) (pa : Nat) (pt : Int32) (pr : Nat) (pp : Nat) (pi : Nat) (pl : Nat) (pf : Nat) (pm : Nat) (ps : Nat) (pe : Nat) (a1 : Int32)  : kM l yX11_noItem wk_c_X11_noItem 1 25 0 0 D kStr e0 [] [(pa, .inr (16, [.int pt, .ref pr, .ref pp, .ref pi, .ref pl, .ref pf, .ref pm, .ref ps, .ref pe, .int 0, .int 0])), (pi, .inr (4, [.int 0, .ref e0.1, .int 0]))] [.ref pa, .int a1] (fun v w t => v = some (.int 1) ∧ w = [(pa, .inr (16, [.int 1, .ref pr, .ref pp, .ref pi, .ref pl, .ref pf, .ref pm, .ref ps, .ref pe, .int 0, .int 0]))] ∧ t = []) (fun _ => False) := by
  refine k_of (cc := cX11_noItem) (maxL := 2) (ret := (some .boolean)) (by decide) rfl (Nat.le_of_ble_eq_true rfl) ?_
  intro p e s m args below meth c A ls hx hb hr hts hown hlocks hml hex hh hl
  have hown : s.vm.findClass RX11 = some m.cls := hown
  have hl : lv_has ls 2 [(0, .ref pa), (1, .int a1)] := hl
  refine lv_aload_n hx hb dX11_noItem_0 rfl (lv_at hl 0 rfl) ?_
  refine lv_iload_n hx hb dX11_noItem_1 rfl (lv_at hl 1 rfl) ?_
  refine lv_i2l (v := (Int32.toInt64 a1)) hx hb dX11_noItem_2 rfl ?_
  refine lv_lconst (v := 0) hx hb dX11_noItem_3 (by decide) ?_
  refine lv_aload_n hx hb dX11_noItem_4 rfl (lv_at hl 0 rfl) ?_
  refine k_get (C := RX11) (T := TX11) (N := 11) (ci := 16) (v := .ref pi) hx hb hts ws_c_X11_noItem_0 hown hh 0 rfl rfl 3 (by decide) (hts _ (wo_c_X11_noItem_in _ (List.mem_of_getElem? (i := 0) rfl))) rfl dX11_noItem_5 ?_
  refine k_callV (C := RJx4a65c) (T := TJx4a65c) (N := 3) (ci := 4) (q0 := 1) (wr := [(pa, .inr (16, [.int pt, .ref pr, .ref pp, .ref pi, .ref pl, .ref pf, .ref pm, .ref ps, .ref pe, .int 0, .int 0]))]) (rest := [.long 0, .long (Int32.toInt64 a1), .ref pa]) (own := RX11) ⟨hx, hb, hml, hown, hts⟩ (c_size l hst D e0 pi 0 (.ref e0.1) 0 ) (cwV 0 hts gi_c_X11_noItem_1 rfl rfl rfl (by decide +kernel) ⟨Nat.le_of_ble_eq_true rfl, Nat.le_of_ble_eq_true rfl⟩) hh rfl rfl [1] [0] [] rfl rfl rfl rfl (by decide) rfl rfl hl rfl (Nat.le_of_ble_eq_true rfl) dX11_noItem_8 ⟨Nat.le_of_ble_eq_true rfl, (Nat.le_of_ble_eq_true rfl)⟩ (fun _ _ _ _ _ h => h.elim) (fun v w ty1 H locs hp hh => ?_)
  obtain ⟨rfl, rfl, rfl⟩ := hp
  have hh : kH D kStr e0 A s H [(pa, .inr (16, [.int pt, .ref pr, .ref pp, .ref pi, .ref pl, .ref pf, .ref pm, .ref ps, .ref pe, .int 0, .int 0])), (pi, .inr (4, [.int 0, .ref e0.1, .int 0]))] [] _ := hh
  refine W.eq (g2 := F0 m 11 ls [.int 0, .long 0, .long (Int32.toInt64 a1), .ref pa]) (by first | rfl | decide) ?_
  refine lv_iconst (v := 1) hx hb dX11_noItem_11 (by decide) ?_
  refine lv_isub hx hb dX11_noItem_12 ?_
  refine W.eq (g2 := F0 m 13 ls [.int (-1), .long 0, .long (Int32.toInt64 a1), .ref pa]) (by first | rfl | decide) ?_
  refine lv_i2l (v := (-1)) hx hb dX11_noItem_13 (by decide) ?_
  refine k_callS (wr := [(pa, .inr (16, [.int pt, .ref pr, .ref pp, .ref pi, .ref pl, .ref pf, .ref pm, .ref ps, .ref pe, .int 0, .int 0])), (pi, .inr (4, [.int 0, .ref e0.1, .int 0]))]) (rest := [.ref pa]) (own := RX11) ⟨hx, hb, hml, hown, hts⟩ (c_X11_in_f l hst D e0 ((Int32.toInt64 a1)) 0 (-1) (k_empty _)) (va_cwS 3 hts gi_c_X11_noItem_2 rfl rfl rfl (by decide +kernel) ⟨Nat.le_of_ble_eq_true rfl, Nat.le_of_ble_eq_true rfl⟩) hh [] [0, 1] [] rfl rfl rfl rfl (by decide) rfl rfl hl rfl (Nat.le_of_ble_eq_true rfl) dX11_noItem_14 ⟨Nat.le_of_ble_eq_true rfl, (Nat.le_of_ble_eq_true rfl)⟩ (fun _ _ _ _ _ h => h.elim) (fun v w ty1 H locs hp hh => ?_)
  obtain ⟨rfl, rfl, rfl⟩ := hp
  have hh : kH D kStr e0 A s H [(pa, .inr (16, [.int pt, .ref pr, .ref pp, .ref pi, .ref pl, .ref pf, .ref pm, .ref ps, .ref pe, .int 0, .int 0])), (pi, .inr (4, [.int 0, .ref e0.1, .int 0]))] [] _ := hh
  refine W.eq (g2 := F0 m 17 ls [.int 0, .ref pa]) (by first | rfl | decide) ?_
  refine lv_if_eq (tgt := 24) hx hb dX11_noItem_17 (by decide) (fun _ => ?_) (fun c_17 => absurd (by decide) c_17)
  refine lv_iconst (v := 1) hx hb dX11_noItem_24 (by decide) ?_
  refine k_put (C := RX11) (T := TX11) (N := 11) (ci := 16) (v := .int 1) (ws' := [(pa, .inr (16, [.int 1, .ref pr, .ref pp, .ref pi, .ref pl, .ref pf, .ref pm, .ref ps, .ref pe, .int 0, .int 0])), (pi, .inr (4, [.int 0, .ref e0.1, .int 0]))]) hx hb hts ws_c_X11_noItem_0 tyX11 tyX11_ok nmX11 hown hh 0 rfl rfl 0 (by decide) (hts _ (wo_c_X11_noItem_in _ (List.mem_of_getElem? (i := 1) rfl))) rfl rfl rfl (Nat.le_of_ble_eq_true rfl) dX11_noItem_25 rfl (fun H locs hh => ?_)
  refine lv_aload_n hx hb dX11_noItem_28 rfl (lv_at hl 0 rfl) ?_
  refine k_get (C := RX11) (T := TX11) (N := 11) (ci := 16) (v := .int 1) hx hb hts ws_c_X11_noItem_0 hown hh 0 rfl rfl 0 (by decide) (hts _ (wo_c_X11_noItem_in _ (List.mem_of_getElem? (i := 1) rfl))) rfl dX11_noItem_29 ?_
  refine lv_if_le (tgt := 39) hx hb dX11_noItem_32 (by decide) (fun c_32 => absurd c_32 (by decide)) (fun _ => ?_)
  refine lv_iconst (v := 1) hx hb dX11_noItem_35 (by decide) ?_
  refine lv_goto (tgt := 40) hx hb dX11_noItem_36 (by decide) ?_
  exact k_endz (ty := .boolean) (by decide) hx hb hr hlocks hh ⟨rfl, rfl, rfl⟩ [0] [] rfl rfl rfl (Nat.le_of_ble_eq_true rfl) (Nat.le_of_ble_eq_true rfl) dX11_noItem_40
def wo_c_X11_noEdition : List Cond := [Cond.fieldLink RX11 43 "SegueworksModel" "editions" "Ljava/util/ArrayList;", Cond.fieldLink RX11 46 "SegueworksModel" "thrown" "I"]
def wk_c_X11_noEdition : List Cond := Cond.code yX11_noEdition cX11_noEdition 2 (some .boolean) :: (wo_c_X11_noEdition ++ ((u_ws RX11 TX11 11) ++ ((wsV RX11 50 RJx4a65c yJx4a65c_size_8abf5 wk_c_size) ++ (va_wsS RX11 54 yX11_in wk_c_X11_in_f))))
theorem wo_c_X11_noEdition_in : ∀ w ∈ wo_c_X11_noEdition, w ∈ wk_c_X11_noEdition := fun w h => List.mem_cons_of_mem _ (List.mem_append_left _ h)
theorem ws_c_X11_noEdition_0 : ∀ w ∈ u_ws RX11 TX11 11, w ∈ wk_c_X11_noEdition := fun w h => List.mem_cons_of_mem _ (List.mem_append_right _ (List.mem_append_left _ h))
theorem gi_c_X11_noEdition_1 : GoodIn wk_c_X11_noEdition (wsV RX11 50 RJx4a65c yJx4a65c_size_8abf5 wk_c_size) := fun w h => ⟨List.mem_cons_of_mem _ (List.mem_append_right _ (List.mem_append_right _ (List.mem_append_left _ h))), good_of_word (kg_V gk_c_size w h)⟩
theorem gi_c_X11_noEdition_2 : GoodIn wk_c_X11_noEdition (va_wsS RX11 54 yX11_in wk_c_X11_in_f) := fun w h => ⟨List.mem_cons_of_mem _ (List.mem_append_right _ (List.mem_append_right _ (List.mem_append_right _ h))), good_of_word (kg_S gk_c_X11_in_f w h)⟩
theorem gk_c_X11_noEdition : ∀ w ∈ wk_c_X11_noEdition, goodWord w = true := List.forall_mem_cons.mpr ⟨rfl, (List.forall_mem_append.mpr ⟨(show ∀ w ∈ wo_c_X11_noEdition, goodWord w = true by decide +kernel), (List.forall_mem_append.mpr ⟨(show ∀ w ∈ u_ws RX11 TX11 11, goodWord w = true by decide +kernel), (List.forall_mem_append.mpr ⟨(kg_V gk_c_size), (kg_S gk_c_X11_in_f)⟩)⟩)⟩)⟩
set_option maxHeartbeats 4000000 in
set_option maxRecDepth 100000 in
theorem c_X11_noEdition (l : Launch) (hst : l.stackTraces = false) (D : va_G) (e0 : kE) (pa : Nat) (pt : Int32) (pr : Nat) (pp : Nat) (pi : Nat) (pl : Nat) (pf : Nat) (pm : Nat) (ps : Nat) (pe : Nat) (a1 : Int32)  : kM l yX11_noEdition wk_c_X11_noEdition 1 25 0 0 D kStr e0 [] [(pa, .inr (16, [.int pt, .ref pr, .ref pp, .ref pi, .ref pl, .ref pf, .ref pm, .ref ps, .ref pe, .int 0, .int 0])), (pe, .inr (4, [.int 0, .ref e0.1, .int 0]))] [.ref pa, .int a1] (fun v w t => v = some (.int 1) ∧ w = [(pa, .inr (16, [.int 1, .ref pr, .ref pp, .ref pi, .ref pl, .ref pf, .ref pm, .ref ps, .ref pe, .int 0, .int 0]))] ∧ t = []) (fun _ => False) := by
  refine k_of (cc := cX11_noEdition) (maxL := 2) (ret := (some .boolean)) (by decide) rfl (Nat.le_of_ble_eq_true rfl) ?_
  intro p e s m args below meth c A ls hx hb hr hts hown hlocks hml hex hh hl
  have hown : s.vm.findClass RX11 = some m.cls := hown
  have hl : lv_has ls 2 [(0, .ref pa), (1, .int a1)] := hl
  refine lv_aload_n hx hb dX11_noEdition_0 rfl (lv_at hl 0 rfl) ?_
  refine lv_iload_n hx hb dX11_noEdition_1 rfl (lv_at hl 1 rfl) ?_
  refine lv_i2l (v := (Int32.toInt64 a1)) hx hb dX11_noEdition_2 rfl ?_
  refine lv_lconst (v := 0) hx hb dX11_noEdition_3 (by decide) ?_
  refine lv_aload_n hx hb dX11_noEdition_4 rfl (lv_at hl 0 rfl) ?_
  refine k_get (C := RX11) (T := TX11) (N := 11) (ci := 16) (v := .ref pe) hx hb hts ws_c_X11_noEdition_0 hown hh 0 rfl rfl 8 (by decide) (hts _ (wo_c_X11_noEdition_in _ (List.mem_of_getElem? (i := 0) rfl))) rfl dX11_noEdition_5 ?_
  refine k_callV (C := RJx4a65c) (T := TJx4a65c) (N := 3) (ci := 4) (q0 := 1) (wr := [(pa, .inr (16, [.int pt, .ref pr, .ref pp, .ref pi, .ref pl, .ref pf, .ref pm, .ref ps, .ref pe, .int 0, .int 0]))]) (rest := [.long 0, .long (Int32.toInt64 a1), .ref pa]) (own := RX11) ⟨hx, hb, hml, hown, hts⟩ (c_size l hst D e0 pe 0 (.ref e0.1) 0 ) (cwV 0 hts gi_c_X11_noEdition_1 rfl rfl rfl (by decide +kernel) ⟨Nat.le_of_ble_eq_true rfl, Nat.le_of_ble_eq_true rfl⟩) hh rfl rfl [1] [0] [] rfl rfl rfl rfl (by decide) rfl rfl hl rfl (Nat.le_of_ble_eq_true rfl) dX11_noEdition_8 ⟨Nat.le_of_ble_eq_true rfl, (Nat.le_of_ble_eq_true rfl)⟩ (fun _ _ _ _ _ h => h.elim) (fun v w ty1 H locs hp hh => ?_)
  obtain ⟨rfl, rfl, rfl⟩ := hp
  have hh : kH D kStr e0 A s H [(pa, .inr (16, [.int pt, .ref pr, .ref pp, .ref pi, .ref pl, .ref pf, .ref pm, .ref ps, .ref pe, .int 0, .int 0])), (pe, .inr (4, [.int 0, .ref e0.1, .int 0]))] [] _ := hh
  refine W.eq (g2 := F0 m 11 ls [.int 0, .long 0, .long (Int32.toInt64 a1), .ref pa]) (by first | rfl | decide) ?_
  refine lv_iconst (v := 1) hx hb dX11_noEdition_11 (by decide) ?_
  refine lv_isub hx hb dX11_noEdition_12 ?_
  refine W.eq (g2 := F0 m 13 ls [.int (-1), .long 0, .long (Int32.toInt64 a1), .ref pa]) (by first | rfl | decide) ?_
  refine lv_i2l (v := (-1)) hx hb dX11_noEdition_13 (by decide) ?_
  refine k_callS (wr := [(pa, .inr (16, [.int pt, .ref pr, .ref pp, .ref pi, .ref pl, .ref pf, .ref pm, .ref ps, .ref pe, .int 0, .int 0])), (pe, .inr (4, [.int 0, .ref e0.1, .int 0]))]) (rest := [.ref pa]) (own := RX11) ⟨hx, hb, hml, hown, hts⟩ (c_X11_in_f l hst D e0 ((Int32.toInt64 a1)) 0 (-1) (k_empty _)) (va_cwS 3 hts gi_c_X11_noEdition_2 rfl rfl rfl (by decide +kernel) ⟨Nat.le_of_ble_eq_true rfl, Nat.le_of_ble_eq_true rfl⟩) hh [] [0, 1] [] rfl rfl rfl rfl (by decide) rfl rfl hl rfl (Nat.le_of_ble_eq_true rfl) dX11_noEdition_14 ⟨Nat.le_of_ble_eq_true rfl, (Nat.le_of_ble_eq_true rfl)⟩ (fun _ _ _ _ _ h => h.elim) (fun v w ty1 H locs hp hh => ?_)
  obtain ⟨rfl, rfl, rfl⟩ := hp
  have hh : kH D kStr e0 A s H [(pa, .inr (16, [.int pt, .ref pr, .ref pp, .ref pi, .ref pl, .ref pf, .ref pm, .ref ps, .ref pe, .int 0, .int 0])), (pe, .inr (4, [.int 0, .ref e0.1, .int 0]))] [] _ := hh
  refine W.eq (g2 := F0 m 17 ls [.int 0, .ref pa]) (by first | rfl | decide) ?_
  refine lv_if_eq (tgt := 24) hx hb dX11_noEdition_17 (by decide) (fun _ => ?_) (fun c_17 => absurd (by decide) c_17)
  refine lv_iconst (v := 1) hx hb dX11_noEdition_24 (by decide) ?_
  refine k_put (C := RX11) (T := TX11) (N := 11) (ci := 16) (v := .int 1) (ws' := [(pa, .inr (16, [.int 1, .ref pr, .ref pp, .ref pi, .ref pl, .ref pf, .ref pm, .ref ps, .ref pe, .int 0, .int 0])), (pe, .inr (4, [.int 0, .ref e0.1, .int 0]))]) hx hb hts ws_c_X11_noEdition_0 tyX11 tyX11_ok nmX11 hown hh 0 rfl rfl 0 (by decide) (hts _ (wo_c_X11_noEdition_in _ (List.mem_of_getElem? (i := 1) rfl))) rfl rfl rfl (Nat.le_of_ble_eq_true rfl) dX11_noEdition_25 rfl (fun H locs hh => ?_)
  refine lv_aload_n hx hb dX11_noEdition_28 rfl (lv_at hl 0 rfl) ?_
  refine k_get (C := RX11) (T := TX11) (N := 11) (ci := 16) (v := .int 1) hx hb hts ws_c_X11_noEdition_0 hown hh 0 rfl rfl 0 (by decide) (hts _ (wo_c_X11_noEdition_in _ (List.mem_of_getElem? (i := 1) rfl))) rfl dX11_noEdition_29 ?_
  refine lv_if_le (tgt := 39) hx hb dX11_noEdition_32 (by decide) (fun c_32 => absurd c_32 (by decide)) (fun _ => ?_)
  refine lv_iconst (v := 1) hx hb dX11_noEdition_35 (by decide) ?_
  refine lv_goto (tgt := 40) hx hb dX11_noEdition_36 (by decide) ?_
  exact k_endz (ty := .boolean) (by decide) hx hb hr hlocks hh ⟨rfl, rfl, rfl⟩ [0] [] rfl rfl rfl (Nat.le_of_ble_eq_true rfl) (Nat.le_of_ble_eq_true rfl) dX11_noEdition_40
def wo_c_X11_noEditions : List Cond := [Cond.fieldLink RX11 43 "SegueworksModel" "editions" "Ljava/util/ArrayList;", Cond.fieldLink RX11 46 "SegueworksModel" "thrown" "I"]
def wk_c_X11_noEditions : List Cond := Cond.code yX11_noEditions cX11_noEditions 3 (some .boolean) :: (wo_c_X11_noEditions ++ ((u_ws RX11 TX11 11) ++ ((wsV RX11 50 RJx4a65c yJx4a65c_size_8abf5 wk_c_size) ++ (va_wsS RX11 54 yX11_in wk_c_X11_in_f))))
theorem wo_c_X11_noEditions_in : ∀ w ∈ wo_c_X11_noEditions, w ∈ wk_c_X11_noEditions := fun w h => List.mem_cons_of_mem _ (List.mem_append_left _ h)
theorem ws_c_X11_noEditions_0 : ∀ w ∈ u_ws RX11 TX11 11, w ∈ wk_c_X11_noEditions := fun w h => List.mem_cons_of_mem _ (List.mem_append_right _ (List.mem_append_left _ h))
theorem gi_c_X11_noEditions_1 : GoodIn wk_c_X11_noEditions (wsV RX11 50 RJx4a65c yJx4a65c_size_8abf5 wk_c_size) := fun w h => ⟨List.mem_cons_of_mem _ (List.mem_append_right _ (List.mem_append_right _ (List.mem_append_left _ h))), good_of_word (kg_V gk_c_size w h)⟩
theorem gi_c_X11_noEditions_2 : GoodIn wk_c_X11_noEditions (va_wsS RX11 54 yX11_in wk_c_X11_in_f) := fun w h => ⟨List.mem_cons_of_mem _ (List.mem_append_right _ (List.mem_append_right _ (List.mem_append_right _ h))), good_of_word (kg_S gk_c_X11_in_f w h)⟩
theorem gk_c_X11_noEditions : ∀ w ∈ wk_c_X11_noEditions, goodWord w = true := List.forall_mem_cons.mpr ⟨rfl, (List.forall_mem_append.mpr ⟨(show ∀ w ∈ wo_c_X11_noEditions, goodWord w = true by decide +kernel), (List.forall_mem_append.mpr ⟨(show ∀ w ∈ u_ws RX11 TX11 11, goodWord w = true by decide +kernel), (List.forall_mem_append.mpr ⟨(kg_V gk_c_size), (kg_S gk_c_X11_in_f)⟩)⟩)⟩)⟩
set_option maxHeartbeats 4000000 in
set_option maxRecDepth 100000 in
theorem c_X11_noEditions (l : Launch) (hst : l.stackTraces = false) (D : va_G) (e0 : kE) (pa : Nat) (pt : Int32) (pr : Nat) (pp : Nat) (pi : Nat) (pl : Nat) (pf : Nat) (pm : Nat) (ps : Nat) (pe : Nat) (a1 : Int32) (a2 : Int32)  : kM l yX11_noEditions wk_c_X11_noEditions 1 25 0 0 D kStr e0 [] [(pa, .inr (16, [.int pt, .ref pr, .ref pp, .ref pi, .ref pl, .ref pf, .ref pm, .ref ps, .ref pe, .int 0, .int 0])), (pe, .inr (4, [.int 0, .ref e0.1, .int 0]))] [.ref pa, .int a1, .int a2] (fun v w t => v = some (.int 1) ∧ w = [(pa, .inr (16, [.int 1, .ref pr, .ref pp, .ref pi, .ref pl, .ref pf, .ref pm, .ref ps, .ref pe, .int 0, .int 0]))] ∧ t = []) (fun _ => False) := by
  refine k_of (cc := cX11_noEditions) (maxL := 3) (ret := (some .boolean)) (by decide) rfl (Nat.le_of_ble_eq_true rfl) ?_
  intro p e s m args below meth c A ls hx hb hr hts hown hlocks hml hex hh hl
  have hown : s.vm.findClass RX11 = some m.cls := hown
  have hl : lv_has ls 3 [(0, .ref pa), (1, .int a1), (2, .int a2)] := hl
  refine lv_aload_n hx hb dX11_noEditions_0 rfl (lv_at hl 0 rfl) ?_
  refine lv_iload_n hx hb dX11_noEditions_1 rfl (lv_at hl 1 rfl) ?_
  refine lv_i2l (v := (Int32.toInt64 a1)) hx hb dX11_noEditions_2 rfl ?_
  refine lv_lconst (v := 0) hx hb dX11_noEditions_3 (by decide) ?_
  refine lv_aload_n hx hb dX11_noEditions_4 rfl (lv_at hl 0 rfl) ?_
  refine k_get (C := RX11) (T := TX11) (N := 11) (ci := 16) (v := .ref pe) hx hb hts ws_c_X11_noEditions_0 hown hh 0 rfl rfl 8 (by decide) (hts _ (wo_c_X11_noEditions_in _ (List.mem_of_getElem? (i := 0) rfl))) rfl dX11_noEditions_5 ?_
  refine k_callV (C := RJx4a65c) (T := TJx4a65c) (N := 3) (ci := 4) (q0 := 1) (wr := [(pa, .inr (16, [.int pt, .ref pr, .ref pp, .ref pi, .ref pl, .ref pf, .ref pm, .ref ps, .ref pe, .int 0, .int 0]))]) (rest := [.long 0, .long (Int32.toInt64 a1), .ref pa]) (own := RX11) ⟨hx, hb, hml, hown, hts⟩ (c_size l hst D e0 pe 0 (.ref e0.1) 0 ) (cwV 0 hts gi_c_X11_noEditions_1 rfl rfl rfl (by decide +kernel) ⟨Nat.le_of_ble_eq_true rfl, Nat.le_of_ble_eq_true rfl⟩) hh rfl rfl [1] [0] [] rfl rfl rfl rfl (by decide) rfl rfl hl rfl (Nat.le_of_ble_eq_true rfl) dX11_noEditions_8 ⟨Nat.le_of_ble_eq_true rfl, (Nat.le_of_ble_eq_true rfl)⟩ (fun _ _ _ _ _ h => h.elim) (fun v w ty1 H locs hp hh => ?_)
  obtain ⟨rfl, rfl, rfl⟩ := hp
  have hh : kH D kStr e0 A s H [(pa, .inr (16, [.int pt, .ref pr, .ref pp, .ref pi, .ref pl, .ref pf, .ref pm, .ref ps, .ref pe, .int 0, .int 0])), (pe, .inr (4, [.int 0, .ref e0.1, .int 0]))] [] _ := hh
  refine W.eq (g2 := F0 m 11 ls [.int 0, .long 0, .long (Int32.toInt64 a1), .ref pa]) (by first | rfl | decide) ?_
  refine lv_iconst (v := 1) hx hb dX11_noEditions_11 (by decide) ?_
  refine lv_isub hx hb dX11_noEditions_12 ?_
  refine W.eq (g2 := F0 m 13 ls [.int (-1), .long 0, .long (Int32.toInt64 a1), .ref pa]) (by first | rfl | decide) ?_
  refine lv_i2l (v := (-1)) hx hb dX11_noEditions_13 (by decide) ?_
  refine k_callS (wr := [(pa, .inr (16, [.int pt, .ref pr, .ref pp, .ref pi, .ref pl, .ref pf, .ref pm, .ref ps, .ref pe, .int 0, .int 0])), (pe, .inr (4, [.int 0, .ref e0.1, .int 0]))]) (rest := [.ref pa]) (own := RX11) ⟨hx, hb, hml, hown, hts⟩ (c_X11_in_f l hst D e0 ((Int32.toInt64 a1)) 0 (-1) (k_empty _)) (va_cwS 3 hts gi_c_X11_noEditions_2 rfl rfl rfl (by decide +kernel) ⟨Nat.le_of_ble_eq_true rfl, Nat.le_of_ble_eq_true rfl⟩) hh [] [0, 1] [] rfl rfl rfl rfl (by decide) rfl rfl hl rfl (Nat.le_of_ble_eq_true rfl) dX11_noEditions_14 ⟨Nat.le_of_ble_eq_true rfl, (Nat.le_of_ble_eq_true rfl)⟩ (fun _ _ _ _ _ h => h.elim) (fun v w ty1 H locs hp hh => ?_)
  obtain ⟨rfl, rfl, rfl⟩ := hp
  have hh : kH D kStr e0 A s H [(pa, .inr (16, [.int pt, .ref pr, .ref pp, .ref pi, .ref pl, .ref pf, .ref pm, .ref ps, .ref pe, .int 0, .int 0])), (pe, .inr (4, [.int 0, .ref e0.1, .int 0]))] [] _ := hh
  refine W.eq (g2 := F0 m 17 ls [.int 0, .ref pa]) (by first | rfl | decide) ?_
  refine lv_if_eq (tgt := 43) hx hb dX11_noEditions_17 (by decide) (fun _ => ?_) (fun c_17 => absurd (by decide) c_17)
  refine lv_iconst (v := 1) hx hb dX11_noEditions_43 (by decide) ?_
  refine k_put (C := RX11) (T := TX11) (N := 11) (ci := 16) (v := .int 1) (ws' := [(pa, .inr (16, [.int 1, .ref pr, .ref pp, .ref pi, .ref pl, .ref pf, .ref pm, .ref ps, .ref pe, .int 0, .int 0])), (pe, .inr (4, [.int 0, .ref e0.1, .int 0]))]) hx hb hts ws_c_X11_noEditions_0 tyX11 tyX11_ok nmX11 hown hh 0 rfl rfl 0 (by decide) (hts _ (wo_c_X11_noEditions_in _ (List.mem_of_getElem? (i := 1) rfl))) rfl rfl rfl (Nat.le_of_ble_eq_true rfl) dX11_noEditions_44 rfl (fun H locs hh => ?_)
  refine lv_aload_n hx hb dX11_noEditions_47 rfl (lv_at hl 0 rfl) ?_
  refine k_get (C := RX11) (T := TX11) (N := 11) (ci := 16) (v := .int 1) hx hb hts ws_c_X11_noEditions_0 hown hh 0 rfl rfl 0 (by decide) (hts _ (wo_c_X11_noEditions_in _ (List.mem_of_getElem? (i := 1) rfl))) rfl dX11_noEditions_48 ?_
  refine lv_if_le (tgt := 58) hx hb dX11_noEditions_51 (by decide) (fun c_51 => absurd c_51 (by decide)) (fun _ => ?_)
  refine lv_iconst (v := 1) hx hb dX11_noEditions_54 (by decide) ?_
  refine lv_goto (tgt := 59) hx hb dX11_noEditions_55 (by decide) ?_
  exact k_endz (ty := .boolean) (by decide) hx hb hr hlocks hh ⟨rfl, rfl, rfl⟩ [0] [] rfl rfl rfl (Nat.le_of_ble_eq_true rfl) (Nat.le_of_ble_eq_true rfl) dX11_noEditions_59
def wo_c_X11_noPlate : List Cond := [Cond.fieldLink RX11 46 "SegueworksModel" "thrown" "I"]
def wk_c_X11_noPlate : List Cond := Cond.code yX11_noPlate cX11_noPlate 3 (some .boolean) :: (wo_c_X11_noPlate ++ ((wsV RX11 50 RJx4a65c yJx4a65c_size_8abf5 wk_c_size) ++ ((va_wsS RX11 54 yX11_in wk_c_X11_in_f) ++ (u_ws RX11 TX11 11))))
theorem wo_c_X11_noPlate_in : ∀ w ∈ wo_c_X11_noPlate, w ∈ wk_c_X11_noPlate := fun w h => List.mem_cons_of_mem _ (List.mem_append_left _ h)
theorem gi_c_X11_noPlate_0 : GoodIn wk_c_X11_noPlate (wsV RX11 50 RJx4a65c yJx4a65c_size_8abf5 wk_c_size) := fun w h => ⟨List.mem_cons_of_mem _ (List.mem_append_right _ (List.mem_append_left _ h)), good_of_word (kg_V gk_c_size w h)⟩
theorem gi_c_X11_noPlate_1 : GoodIn wk_c_X11_noPlate (va_wsS RX11 54 yX11_in wk_c_X11_in_f) := fun w h => ⟨List.mem_cons_of_mem _ (List.mem_append_right _ (List.mem_append_right _ (List.mem_append_left _ h))), good_of_word (kg_S gk_c_X11_in_f w h)⟩
theorem ws_c_X11_noPlate_2 : ∀ w ∈ u_ws RX11 TX11 11, w ∈ wk_c_X11_noPlate := fun w h => List.mem_cons_of_mem _ (List.mem_append_right _ (List.mem_append_right _ (List.mem_append_right _ h)))
theorem gk_c_X11_noPlate : ∀ w ∈ wk_c_X11_noPlate, goodWord w = true := List.forall_mem_cons.mpr ⟨rfl, (List.forall_mem_append.mpr ⟨(show ∀ w ∈ wo_c_X11_noPlate, goodWord w = true by decide +kernel), (List.forall_mem_append.mpr ⟨(kg_V gk_c_size), (List.forall_mem_append.mpr ⟨(kg_S gk_c_X11_in_f), (show ∀ w ∈ u_ws RX11 TX11 11, goodWord w = true by decide +kernel)⟩)⟩)⟩)⟩
set_option maxHeartbeats 4000000 in
set_option maxRecDepth 100000 in
theorem c_X11_noPlate (l : Launch) (hst : l.stackTraces = false) (D : va_G) (e0 : kE) (pa : Nat) (pt : Int32) (pr : Nat) (pp : Nat) (pi : Nat) (pl : Nat) (pf : Nat) (pm : Nat) (ps : Nat) (pe : Nat) (pz : Nat) (a1 : Int32)  : kM l yX11_noPlate wk_c_X11_noPlate 1 25 0 0 D kStr e0 [] [(pa, .inr (16, [.int pt, .ref pr, .ref pp, .ref pi, .ref pl, .ref pf, .ref pm, .ref ps, .ref pe, .int 0, .int 0])), (pz, .inr (4, [.int 0, .ref e0.1, .int 0]))] [.ref pa, .ref pz, .int a1] (fun v w t => v = some (.int 1) ∧ w = [(pa, .inr (16, [.int 1, .ref pr, .ref pp, .ref pi, .ref pl, .ref pf, .ref pm, .ref ps, .ref pe, .int 0, .int 0]))] ∧ t = []) (fun _ => False) := by
  refine k_of (cc := cX11_noPlate) (maxL := 3) (ret := (some .boolean)) (by decide) rfl (Nat.le_of_ble_eq_true rfl) ?_
  intro p e s m args below meth c A ls hx hb hr hts hown hlocks hml hex hh hl
  have hown : s.vm.findClass RX11 = some m.cls := hown
  have hl : lv_has ls 3 [(0, .ref pa), (1, .ref pz), (2, .int a1)] := hl
  refine lv_aload_n hx hb dX11_noPlate_0 rfl (lv_at hl 0 rfl) ?_
  refine lv_iload_n hx hb dX11_noPlate_1 rfl (lv_at hl 2 rfl) ?_
  refine lv_i2l (v := (Int32.toInt64 a1)) hx hb dX11_noPlate_2 rfl ?_
  refine lv_lconst (v := 0) hx hb dX11_noPlate_3 (by decide) ?_
  refine lv_aload_n hx hb dX11_noPlate_4 rfl (lv_at hl 1 rfl) ?_
  refine k_callV (C := RJx4a65c) (T := TJx4a65c) (N := 3) (ci := 4) (q0 := 1) (wr := [(pa, .inr (16, [.int pt, .ref pr, .ref pp, .ref pi, .ref pl, .ref pf, .ref pm, .ref ps, .ref pe, .int 0, .int 0]))]) (rest := [.long 0, .long (Int32.toInt64 a1), .ref pa]) (own := RX11) ⟨hx, hb, hml, hown, hts⟩ (c_size l hst D e0 pz 0 (.ref e0.1) 0 ) (cwV 0 hts gi_c_X11_noPlate_0 rfl rfl rfl (by decide +kernel) ⟨Nat.le_of_ble_eq_true rfl, Nat.le_of_ble_eq_true rfl⟩) hh rfl rfl [1] [0] [] rfl rfl rfl rfl (by decide) rfl rfl hl rfl (Nat.le_of_ble_eq_true rfl) dX11_noPlate_5 ⟨Nat.le_of_ble_eq_true rfl, (Nat.le_of_ble_eq_true rfl)⟩ (fun _ _ _ _ _ h => h.elim) (fun v w ty1 H locs hp hh => ?_)
  obtain ⟨rfl, rfl, rfl⟩ := hp
  have hh : kH D kStr e0 A s H [(pa, .inr (16, [.int pt, .ref pr, .ref pp, .ref pi, .ref pl, .ref pf, .ref pm, .ref ps, .ref pe, .int 0, .int 0])), (pz, .inr (4, [.int 0, .ref e0.1, .int 0]))] [] _ := hh
  refine W.eq (g2 := F0 m 8 ls [.int 0, .long 0, .long (Int32.toInt64 a1), .ref pa]) (by first | rfl | decide) ?_
  refine lv_iconst (v := 1) hx hb dX11_noPlate_8 (by decide) ?_
  refine lv_isub hx hb dX11_noPlate_9 ?_
  refine W.eq (g2 := F0 m 10 ls [.int (-1), .long 0, .long (Int32.toInt64 a1), .ref pa]) (by first | rfl | decide) ?_
  refine lv_i2l (v := (-1)) hx hb dX11_noPlate_10 (by decide) ?_
  refine k_callS (wr := [(pa, .inr (16, [.int pt, .ref pr, .ref pp, .ref pi, .ref pl, .ref pf, .ref pm, .ref ps, .ref pe, .int 0, .int 0])), (pz, .inr (4, [.int 0, .ref e0.1, .int 0]))]) (rest := [.ref pa]) (own := RX11) ⟨hx, hb, hml, hown, hts⟩ (c_X11_in_f l hst D e0 ((Int32.toInt64 a1)) 0 (-1) (k_empty _)) (va_cwS 3 hts gi_c_X11_noPlate_1 rfl rfl rfl (by decide +kernel) ⟨Nat.le_of_ble_eq_true rfl, Nat.le_of_ble_eq_true rfl⟩) hh [] [0, 1] [] rfl rfl rfl rfl (by decide) rfl rfl hl rfl (Nat.le_of_ble_eq_true rfl) dX11_noPlate_11 ⟨Nat.le_of_ble_eq_true rfl, (Nat.le_of_ble_eq_true rfl)⟩ (fun _ _ _ _ _ h => h.elim) (fun v w ty1 H locs hp hh => ?_)
  obtain ⟨rfl, rfl, rfl⟩ := hp
  have hh : kH D kStr e0 A s H [(pa, .inr (16, [.int pt, .ref pr, .ref pp, .ref pi, .ref pl, .ref pf, .ref pm, .ref ps, .ref pe, .int 0, .int 0])), (pz, .inr (4, [.int 0, .ref e0.1, .int 0]))] [] _ := hh
  refine W.eq (g2 := F0 m 14 ls [.int 0, .ref pa]) (by first | rfl | decide) ?_
  refine lv_if_eq (tgt := 21) hx hb dX11_noPlate_14 (by decide) (fun _ => ?_) (fun c_14 => absurd (by decide) c_14)
  refine lv_iconst (v := 1) hx hb dX11_noPlate_21 (by decide) ?_
  refine k_put (C := RX11) (T := TX11) (N := 11) (ci := 16) (v := .int 1) (ws' := [(pa, .inr (16, [.int 1, .ref pr, .ref pp, .ref pi, .ref pl, .ref pf, .ref pm, .ref ps, .ref pe, .int 0, .int 0])), (pz, .inr (4, [.int 0, .ref e0.1, .int 0]))]) hx hb hts ws_c_X11_noPlate_2 tyX11 tyX11_ok nmX11 hown hh 0 rfl rfl 0 (by decide) (hts _ (wo_c_X11_noPlate_in _ (List.mem_of_getElem? (i := 0) rfl))) rfl rfl rfl (Nat.le_of_ble_eq_true rfl) dX11_noPlate_22 rfl (fun H locs hh => ?_)
  refine lv_aload_n hx hb dX11_noPlate_25 rfl (lv_at hl 0 rfl) ?_
  refine k_get (C := RX11) (T := TX11) (N := 11) (ci := 16) (v := .int 1) hx hb hts ws_c_X11_noPlate_2 hown hh 0 rfl rfl 0 (by decide) (hts _ (wo_c_X11_noPlate_in _ (List.mem_of_getElem? (i := 0) rfl))) rfl dX11_noPlate_26 ?_
  refine lv_if_le (tgt := 36) hx hb dX11_noPlate_29 (by decide) (fun c_29 => absurd c_29 (by decide)) (fun _ => ?_)
  refine lv_iconst (v := 1) hx hb dX11_noPlate_32 (by decide) ?_
  refine lv_goto (tgt := 37) hx hb dX11_noPlate_33 (by decide) ?_
  exact k_endz (ty := .boolean) (by decide) hx hb hr hlocks hh ⟨rfl, rfl, rfl⟩ [0] [] rfl rfl rfl (Nat.le_of_ble_eq_true rfl) (Nat.le_of_ble_eq_true rfl) dX11_noPlate_37
def wo_c_X11_sample : List Cond := []
def wk_c_X11_sample : List Cond := Cond.code yX11_sample cX11_sample 3 (some .int) :: (wo_c_X11_sample ++ (wsV RX11 62 RX11 yX11_noReel wk_c_X11_noReel))
theorem wo_c_X11_sample_in : ∀ w ∈ wo_c_X11_sample, w ∈ wk_c_X11_sample := fun w h => List.mem_cons_of_mem _ (List.mem_append_left _ h)
theorem gi_c_X11_sample_0 : GoodIn wk_c_X11_sample (wsV RX11 62 RX11 yX11_noReel wk_c_X11_noReel) := fun w h => ⟨List.mem_cons_of_mem _ (List.mem_append_right _ h), good_of_word (kg_V gk_c_X11_noReel w h)⟩
theorem gk_c_X11_sample : ∀ w ∈ wk_c_X11_sample, goodWord w = true := List.forall_mem_cons.mpr ⟨rfl, (List.forall_mem_append.mpr ⟨(show ∀ w ∈ wo_c_X11_sample, goodWord w = true by decide +kernel), (kg_V gk_c_X11_noReel)⟩)⟩
set_option maxHeartbeats 4000000 in
set_option maxRecDepth 100000 in
theorem c_X11_sample (l : Launch) (hst : l.stackTraces = false) (D : va_G) (e0 : kE) (pa : Nat) (pt : Int32) (pr : Nat) (pp : Nat) (pi : Nat) (pl : Nat) (pf : Nat) (pm : Nat) (ps : Nat) (pe : Nat) (a1 : Int32) (a2 : Int32)  : kM l yX11_sample wk_c_X11_sample 2 46 0 0 D kStr e0 [] [(pa, .inr (16, [.int pt, .ref pr, .ref pp, .ref pi, .ref pl, .ref pf, .ref pm, .ref ps, .ref pe, .int 0, .int 0])), (pr, .inr (4, [.int 0, .ref e0.1, .int 0]))] [.ref pa, .int a1, .int a2] (fun v w t => v = some (.int 0) ∧ w = [(pa, .inr (16, [.int 1, .ref pr, .ref pp, .ref pi, .ref pl, .ref pf, .ref pm, .ref ps, .ref pe, .int 0, .int 0]))] ∧ t = []) (fun _ => False) := by
  refine k_of (cc := cX11_sample) (maxL := 3) (ret := (some .int)) (by decide) rfl (Nat.le_of_ble_eq_true rfl) ?_
  intro p e s m args below meth c A ls hx hb hr hts hown hlocks hml hex hh hl
  have hown : s.vm.findClass RX11 = some m.cls := hown
  have hl : lv_has ls 3 [(0, .ref pa), (1, .int a1), (2, .int a2)] := hl
  refine lv_aload_n hx hb dX11_sample_0 rfl (lv_at hl 0 rfl) ?_
  refine lv_iload_n hx hb dX11_sample_1 rfl (lv_at hl 1 rfl) ?_
  refine k_callV (C := RX11) (T := TX11) (N := 11) (ci := 16) (q0 := 0) (wr := []) (rest := []) (own := RX11) ⟨hx, hb, hml, hown, hts⟩ (c_X11_noReel l hst D e0 pa pt pr pp pi pl pf pm ps pe a1 ) (cwV 1 hts gi_c_X11_sample_0 rfl rfl rfl (by decide +kernel) ⟨Nat.le_of_ble_eq_true rfl, Nat.le_of_ble_eq_true rfl⟩) hh rfl rfl [0, 1] [] [] rfl rfl rfl rfl (by decide) rfl rfl hl rfl (Nat.le_of_ble_eq_true rfl) dX11_sample_2 ⟨Nat.le_of_ble_eq_true rfl, (Nat.le_of_ble_eq_true rfl)⟩ (fun _ _ _ _ _ h => h.elim) (fun v w ty1 H locs hp hh => ?_)
  obtain ⟨rfl, rfl, rfl⟩ := hp
  have hh : kH D kStr e0 A s H [(pa, .inr (16, [.int 1, .ref pr, .ref pp, .ref pi, .ref pl, .ref pf, .ref pm, .ref ps, .ref pe, .int 0, .int 0]))] [] _ := hh
  refine W.eq (g2 := F0 m 5 ls [.int 1]) (by first | rfl | decide) ?_
  refine lv_if_eq (tgt := 10) hx hb dX11_sample_5 (by decide) (fun c_5 => absurd c_5 (by decide)) (fun _ => ?_)
  refine lv_iconst (v := 0) hx hb dX11_sample_8 (by decide) ?_
  exact k_endi hx hb hr hlocks hh ⟨rfl, rfl, rfl⟩ [0] [] rfl rfl rfl (Nat.le_of_ble_eq_true rfl) (Nat.le_of_ble_eq_true rfl) dX11_sample_9
def wo_c_X11_wave : List Cond := []
def wk_c_X11_wave : List Cond := Cond.code yX11_wave cX11_wave 7 (some .int) :: (wo_c_X11_wave ++ (wsV RX11 62 RX11 yX11_noReel wk_c_X11_noReel))
theorem wo_c_X11_wave_in : ∀ w ∈ wo_c_X11_wave, w ∈ wk_c_X11_wave := fun w h => List.mem_cons_of_mem _ (List.mem_append_left _ h)
theorem gi_c_X11_wave_0 : GoodIn wk_c_X11_wave (wsV RX11 62 RX11 yX11_noReel wk_c_X11_noReel) := fun w h => ⟨List.mem_cons_of_mem _ (List.mem_append_right _ h), good_of_word (kg_V gk_c_X11_noReel w h)⟩
theorem gk_c_X11_wave : ∀ w ∈ wk_c_X11_wave, goodWord w = true := List.forall_mem_cons.mpr ⟨rfl, (List.forall_mem_append.mpr ⟨(show ∀ w ∈ wo_c_X11_wave, goodWord w = true by decide +kernel), (kg_V gk_c_X11_noReel)⟩)⟩
set_option maxHeartbeats 4000000 in
set_option maxRecDepth 100000 in
theorem c_X11_wave (l : Launch) (hst : l.stackTraces = false) (D : va_G) (e0 : kE) (pa : Nat) (pt : Int32) (pr : Nat) (pp : Nat) (pi : Nat) (pl : Nat) (pf : Nat) (pm : Nat) (ps : Nat) (pe : Nat) (a1 : Int32) (a2 : Int32) (a3 : Int32) (a4 : Int32)  : kM l yX11_wave wk_c_X11_wave 2 46 0 0 D kStr e0 [] [(pa, .inr (16, [.int pt, .ref pr, .ref pp, .ref pi, .ref pl, .ref pf, .ref pm, .ref ps, .ref pe, .int 0, .int 0])), (pr, .inr (4, [.int 0, .ref e0.1, .int 0]))] [.ref pa, .int a1, .int a2, .int a3, .int a4] (fun v w t => v = some (.int 0) ∧ w = [(pa, .inr (16, [.int 1, .ref pr, .ref pp, .ref pi, .ref pl, .ref pf, .ref pm, .ref ps, .ref pe, .int 0, .int 0]))] ∧ t = []) (fun _ => False) := by
  refine k_of (cc := cX11_wave) (maxL := 7) (ret := (some .int)) (by decide) rfl (Nat.le_of_ble_eq_true rfl) ?_
  intro p e s m args below meth c A ls hx hb hr hts hown hlocks hml hex hh hl
  have hown : s.vm.findClass RX11 = some m.cls := hown
  have hl : lv_has ls 7 [(0, .ref pa), (1, .int a1), (2, .int a2), (3, .int a3), (4, .int a4)] := hl
  refine lv_aload_n hx hb dX11_wave_0 rfl (lv_at hl 0 rfl) ?_
  refine lv_iload_n hx hb dX11_wave_1 rfl (lv_at hl 1 rfl) ?_
  refine k_callV (C := RX11) (T := TX11) (N := 11) (ci := 16) (q0 := 0) (wr := []) (rest := []) (own := RX11) ⟨hx, hb, hml, hown, hts⟩ (c_X11_noReel l hst D e0 pa pt pr pp pi pl pf pm ps pe a1 ) (cwV 1 hts gi_c_X11_wave_0 rfl rfl rfl (by decide +kernel) ⟨Nat.le_of_ble_eq_true rfl, Nat.le_of_ble_eq_true rfl⟩) hh rfl rfl [0, 1] [] [] rfl rfl rfl rfl (by decide) rfl rfl hl rfl (Nat.le_of_ble_eq_true rfl) dX11_wave_2 ⟨Nat.le_of_ble_eq_true rfl, (Nat.le_of_ble_eq_true rfl)⟩ (fun _ _ _ _ _ h => h.elim) (fun v w ty1 H locs hp hh => ?_)
  obtain ⟨rfl, rfl, rfl⟩ := hp
  have hh : kH D kStr e0 A s H [(pa, .inr (16, [.int 1, .ref pr, .ref pp, .ref pi, .ref pl, .ref pf, .ref pm, .ref ps, .ref pe, .int 0, .int 0]))] [] _ := hh
  refine W.eq (g2 := F0 m 5 ls [.int 1]) (by first | rfl | decide) ?_
  refine lv_if_eq (tgt := 10) hx hb dX11_wave_5 (by decide) (fun c_5 => absurd c_5 (by decide)) (fun _ => ?_)
  refine lv_iconst (v := 0) hx hb dX11_wave_8 (by decide) ?_
  exact k_endi hx hb hr hlocks hh ⟨rfl, rfl, rfl⟩ [0] [] rfl rfl rfl (Nat.le_of_ble_eq_true rfl) (Nat.le_of_ble_eq_true rfl) dX11_wave_9
def wo_c_X11_reelLength : List Cond := []
def wk_c_X11_reelLength : List Cond := Cond.code yX11_reelLength cX11_reelLength 2 (some .int) :: (wo_c_X11_reelLength ++ (wsV RX11 62 RX11 yX11_noReel wk_c_X11_noReel))
theorem wo_c_X11_reelLength_in : ∀ w ∈ wo_c_X11_reelLength, w ∈ wk_c_X11_reelLength := fun w h => List.mem_cons_of_mem _ (List.mem_append_left _ h)
theorem gi_c_X11_reelLength_0 : GoodIn wk_c_X11_reelLength (wsV RX11 62 RX11 yX11_noReel wk_c_X11_noReel) := fun w h => ⟨List.mem_cons_of_mem _ (List.mem_append_right _ h), good_of_word (kg_V gk_c_X11_noReel w h)⟩
theorem gk_c_X11_reelLength : ∀ w ∈ wk_c_X11_reelLength, goodWord w = true := List.forall_mem_cons.mpr ⟨rfl, (List.forall_mem_append.mpr ⟨(show ∀ w ∈ wo_c_X11_reelLength, goodWord w = true by decide +kernel), (kg_V gk_c_X11_noReel)⟩)⟩
set_option maxHeartbeats 4000000 in
set_option maxRecDepth 100000 in
theorem c_X11_reelLength (l : Launch) (hst : l.stackTraces = false) (D : va_G) (e0 : kE) (pa : Nat) (pt : Int32) (pr : Nat) (pp : Nat) (pi : Nat) (pl : Nat) (pf : Nat) (pm : Nat) (ps : Nat) (pe : Nat) (a1 : Int32)  : kM l yX11_reelLength wk_c_X11_reelLength 2 46 0 0 D kStr e0 [] [(pa, .inr (16, [.int pt, .ref pr, .ref pp, .ref pi, .ref pl, .ref pf, .ref pm, .ref ps, .ref pe, .int 0, .int 0])), (pr, .inr (4, [.int 0, .ref e0.1, .int 0]))] [.ref pa, .int a1] (fun v w t => v = some (.int 0) ∧ w = [(pa, .inr (16, [.int 1, .ref pr, .ref pp, .ref pi, .ref pl, .ref pf, .ref pm, .ref ps, .ref pe, .int 0, .int 0]))] ∧ t = []) (fun _ => False) := by
  refine k_of (cc := cX11_reelLength) (maxL := 2) (ret := (some .int)) (by decide) rfl (Nat.le_of_ble_eq_true rfl) ?_
  intro p e s m args below meth c A ls hx hb hr hts hown hlocks hml hex hh hl
  have hown : s.vm.findClass RX11 = some m.cls := hown
  have hl : lv_has ls 2 [(0, .ref pa), (1, .int a1)] := hl
  refine lv_aload_n hx hb dX11_reelLength_0 rfl (lv_at hl 0 rfl) ?_
  refine lv_iload_n hx hb dX11_reelLength_1 rfl (lv_at hl 1 rfl) ?_
  refine k_callV (C := RX11) (T := TX11) (N := 11) (ci := 16) (q0 := 0) (wr := []) (rest := []) (own := RX11) ⟨hx, hb, hml, hown, hts⟩ (c_X11_noReel l hst D e0 pa pt pr pp pi pl pf pm ps pe a1 ) (cwV 1 hts gi_c_X11_reelLength_0 rfl rfl rfl (by decide +kernel) ⟨Nat.le_of_ble_eq_true rfl, Nat.le_of_ble_eq_true rfl⟩) hh rfl rfl [0, 1] [] [] rfl rfl rfl rfl (by decide) rfl rfl hl rfl (Nat.le_of_ble_eq_true rfl) dX11_reelLength_2 ⟨Nat.le_of_ble_eq_true rfl, (Nat.le_of_ble_eq_true rfl)⟩ (fun _ _ _ _ _ h => h.elim) (fun v w ty1 H locs hp hh => ?_)
  obtain ⟨rfl, rfl, rfl⟩ := hp
  have hh : kH D kStr e0 A s H [(pa, .inr (16, [.int 1, .ref pr, .ref pp, .ref pi, .ref pl, .ref pf, .ref pm, .ref ps, .ref pe, .int 0, .int 0]))] [] _ := hh
  refine W.eq (g2 := F0 m 5 ls [.int 1]) (by first | rfl | decide) ?_
  refine lv_if_eq (tgt := 12) hx hb dX11_reelLength_5 (by decide) (fun c_5 => absurd c_5 (by decide)) (fun _ => ?_)
  refine lv_iconst (v := 0) hx hb dX11_reelLength_8 (by decide) ?_
  refine lv_goto (tgt := 26) hx hb dX11_reelLength_9 (by decide) ?_
  exact k_endi hx hb hr hlocks hh ⟨rfl, rfl, rfl⟩ [0] [] rfl rfl rfl (Nat.le_of_ble_eq_true rfl) (Nat.le_of_ble_eq_true rfl) dX11_reelLength_26
def wo_c_X11_cut : List Cond := []
def wk_c_X11_cut : List Cond := Cond.code yX11_cut cX11_cut 8 (some .int) :: (wo_c_X11_cut ++ (wsV RX11 62 RX11 yX11_noReel wk_c_X11_noReel))
theorem wo_c_X11_cut_in : ∀ w ∈ wo_c_X11_cut, w ∈ wk_c_X11_cut := fun w h => List.mem_cons_of_mem _ (List.mem_append_left _ h)
theorem gi_c_X11_cut_0 : GoodIn wk_c_X11_cut (wsV RX11 62 RX11 yX11_noReel wk_c_X11_noReel) := fun w h => ⟨List.mem_cons_of_mem _ (List.mem_append_right _ h), good_of_word (kg_V gk_c_X11_noReel w h)⟩
theorem gk_c_X11_cut : ∀ w ∈ wk_c_X11_cut, goodWord w = true := List.forall_mem_cons.mpr ⟨rfl, (List.forall_mem_append.mpr ⟨(show ∀ w ∈ wo_c_X11_cut, goodWord w = true by decide +kernel), (kg_V gk_c_X11_noReel)⟩)⟩
set_option maxHeartbeats 4000000 in
set_option maxRecDepth 100000 in
theorem c_X11_cut (l : Launch) (hst : l.stackTraces = false) (D : va_G) (e0 : kE) (pa : Nat) (pt : Int32) (pr : Nat) (pp : Nat) (pi : Nat) (pl : Nat) (pf : Nat) (pm : Nat) (ps : Nat) (pe : Nat) (a1 : Int32) (a2 : Int32) (a3 : Int32)  : kM l yX11_cut wk_c_X11_cut 2 46 0 0 D kStr e0 [] [(pa, .inr (16, [.int pt, .ref pr, .ref pp, .ref pi, .ref pl, .ref pf, .ref pm, .ref ps, .ref pe, .int 0, .int 0])), (pr, .inr (4, [.int 0, .ref e0.1, .int 0]))] [.ref pa, .int a1, .int a2, .int a3] (fun v w t => v = some (.int 0) ∧ w = [(pa, .inr (16, [.int 1, .ref pr, .ref pp, .ref pi, .ref pl, .ref pf, .ref pm, .ref ps, .ref pe, .int 0, .int 0]))] ∧ t = []) (fun _ => False) := by
  refine k_of (cc := cX11_cut) (maxL := 8) (ret := (some .int)) (by decide) rfl (Nat.le_of_ble_eq_true rfl) ?_
  intro p e s m args below meth c A ls hx hb hr hts hown hlocks hml hex hh hl
  have hown : s.vm.findClass RX11 = some m.cls := hown
  have hl : lv_has ls 8 [(0, .ref pa), (1, .int a1), (2, .int a2), (3, .int a3)] := hl
  refine lv_aload_n hx hb dX11_cut_0 rfl (lv_at hl 0 rfl) ?_
  refine lv_iload_n hx hb dX11_cut_1 rfl (lv_at hl 1 rfl) ?_
  refine k_callV (C := RX11) (T := TX11) (N := 11) (ci := 16) (q0 := 0) (wr := []) (rest := []) (own := RX11) ⟨hx, hb, hml, hown, hts⟩ (c_X11_noReel l hst D e0 pa pt pr pp pi pl pf pm ps pe a1 ) (cwV 1 hts gi_c_X11_cut_0 rfl rfl rfl (by decide +kernel) ⟨Nat.le_of_ble_eq_true rfl, Nat.le_of_ble_eq_true rfl⟩) hh rfl rfl [0, 1] [] [] rfl rfl rfl rfl (by decide) rfl rfl hl rfl (Nat.le_of_ble_eq_true rfl) dX11_cut_2 ⟨Nat.le_of_ble_eq_true rfl, (Nat.le_of_ble_eq_true rfl)⟩ (fun _ _ _ _ _ h => h.elim) (fun v w ty1 H locs hp hh => ?_)
  obtain ⟨rfl, rfl, rfl⟩ := hp
  have hh : kH D kStr e0 A s H [(pa, .inr (16, [.int 1, .ref pr, .ref pp, .ref pi, .ref pl, .ref pf, .ref pm, .ref ps, .ref pe, .int 0, .int 0]))] [] _ := hh
  refine W.eq (g2 := F0 m 5 ls [.int 1]) (by first | rfl | decide) ?_
  refine lv_if_eq (tgt := 10) hx hb dX11_cut_5 (by decide) (fun c_5 => absurd c_5 (by decide)) (fun _ => ?_)
  refine lv_iconst (v := 0) hx hb dX11_cut_8 (by decide) ?_
  exact k_endi hx hb hr hlocks hh ⟨rfl, rfl, rfl⟩ [0] [] rfl rfl rfl (Nat.le_of_ble_eq_true rfl) (Nat.le_of_ble_eq_true rfl) dX11_cut_9
def wo_c_X11_gain : List Cond := []
def wk_c_X11_gain : List Cond := Cond.code yX11_gain cX11_gain 5 (some .int) :: (wo_c_X11_gain ++ (wsV RX11 108 RX11 yX11_noPiece wk_c_X11_noPiece))
theorem wo_c_X11_gain_in : ∀ w ∈ wo_c_X11_gain, w ∈ wk_c_X11_gain := fun w h => List.mem_cons_of_mem _ (List.mem_append_left _ h)
theorem gi_c_X11_gain_0 : GoodIn wk_c_X11_gain (wsV RX11 108 RX11 yX11_noPiece wk_c_X11_noPiece) := fun w h => ⟨List.mem_cons_of_mem _ (List.mem_append_right _ h), good_of_word (kg_V gk_c_X11_noPiece w h)⟩
theorem gk_c_X11_gain : ∀ w ∈ wk_c_X11_gain, goodWord w = true := List.forall_mem_cons.mpr ⟨rfl, (List.forall_mem_append.mpr ⟨(show ∀ w ∈ wo_c_X11_gain, goodWord w = true by decide +kernel), (kg_V gk_c_X11_noPiece)⟩)⟩
set_option maxHeartbeats 4000000 in
set_option maxRecDepth 100000 in
theorem c_X11_gain (l : Launch) (hst : l.stackTraces = false) (D : va_G) (e0 : kE) (pa : Nat) (pt : Int32) (pr : Nat) (pp : Nat) (pi : Nat) (pl : Nat) (pf : Nat) (pm : Nat) (ps : Nat) (pe : Nat) (a1 : Int32) (a2 : Int32)  : kM l yX11_gain wk_c_X11_gain 2 46 0 0 D kStr e0 [] [(pa, .inr (16, [.int pt, .ref pr, .ref pp, .ref pi, .ref pl, .ref pf, .ref pm, .ref ps, .ref pe, .int 0, .int 0])), (pp, .inr (4, [.int 0, .ref e0.1, .int 0]))] [.ref pa, .int a1, .int a2] (fun v w t => v = some (.int 0) ∧ w = [(pa, .inr (16, [.int 1, .ref pr, .ref pp, .ref pi, .ref pl, .ref pf, .ref pm, .ref ps, .ref pe, .int 0, .int 0]))] ∧ t = []) (fun _ => False) := by
  refine k_of (cc := cX11_gain) (maxL := 5) (ret := (some .int)) (by decide) rfl (Nat.le_of_ble_eq_true rfl) ?_
  intro p e s m args below meth c A ls hx hb hr hts hown hlocks hml hex hh hl
  have hown : s.vm.findClass RX11 = some m.cls := hown
  have hl : lv_has ls 5 [(0, .ref pa), (1, .int a1), (2, .int a2)] := hl
  refine lv_aload_n hx hb dX11_gain_0 rfl (lv_at hl 0 rfl) ?_
  refine lv_iload_n hx hb dX11_gain_1 rfl (lv_at hl 1 rfl) ?_
  refine k_callV (C := RX11) (T := TX11) (N := 11) (ci := 16) (q0 := 0) (wr := []) (rest := []) (own := RX11) ⟨hx, hb, hml, hown, hts⟩ (c_X11_noPiece l hst D e0 pa pt pr pp pi pl pf pm ps pe a1 ) (cwV 1 hts gi_c_X11_gain_0 rfl rfl rfl (by decide +kernel) ⟨Nat.le_of_ble_eq_true rfl, Nat.le_of_ble_eq_true rfl⟩) hh rfl rfl [0, 1] [] [] rfl rfl rfl rfl (by decide) rfl rfl hl rfl (Nat.le_of_ble_eq_true rfl) dX11_gain_2 ⟨Nat.le_of_ble_eq_true rfl, (Nat.le_of_ble_eq_true rfl)⟩ (fun _ _ _ _ _ h => h.elim) (fun v w ty1 H locs hp hh => ?_)
  obtain ⟨rfl, rfl, rfl⟩ := hp
  have hh : kH D kStr e0 A s H [(pa, .inr (16, [.int 1, .ref pr, .ref pp, .ref pi, .ref pl, .ref pf, .ref pm, .ref ps, .ref pe, .int 0, .int 0]))] [] _ := hh
  refine W.eq (g2 := F0 m 5 ls [.int 1]) (by first | rfl | decide) ?_
  refine lv_if_eq (tgt := 10) hx hb dX11_gain_5 (by decide) (fun c_5 => absurd c_5 (by decide)) (fun _ => ?_)
  refine lv_iconst (v := 0) hx hb dX11_gain_8 (by decide) ?_
  exact k_endi hx hb hr hlocks hh ⟨rfl, rfl, rfl⟩ [0] [] rfl rfl rfl (Nat.le_of_ble_eq_true rfl) (Nat.le_of_ble_eq_true rfl) dX11_gain_9
def wo_c_X11_back : List Cond := []
def wk_c_X11_back : List Cond := Cond.code yX11_back cX11_back 4 (some .int) :: (wo_c_X11_back ++ (wsV RX11 108 RX11 yX11_noPiece wk_c_X11_noPiece))
theorem wo_c_X11_back_in : ∀ w ∈ wo_c_X11_back, w ∈ wk_c_X11_back := fun w h => List.mem_cons_of_mem _ (List.mem_append_left _ h)
theorem gi_c_X11_back_0 : GoodIn wk_c_X11_back (wsV RX11 108 RX11 yX11_noPiece wk_c_X11_noPiece) := fun w h => ⟨List.mem_cons_of_mem _ (List.mem_append_right _ h), good_of_word (kg_V gk_c_X11_noPiece w h)⟩
theorem gk_c_X11_back : ∀ w ∈ wk_c_X11_back, goodWord w = true := List.forall_mem_cons.mpr ⟨rfl, (List.forall_mem_append.mpr ⟨(show ∀ w ∈ wo_c_X11_back, goodWord w = true by decide +kernel), (kg_V gk_c_X11_noPiece)⟩)⟩
set_option maxHeartbeats 4000000 in
set_option maxRecDepth 100000 in
theorem c_X11_back (l : Launch) (hst : l.stackTraces = false) (D : va_G) (e0 : kE) (pa : Nat) (pt : Int32) (pr : Nat) (pp : Nat) (pi : Nat) (pl : Nat) (pf : Nat) (pm : Nat) (ps : Nat) (pe : Nat) (a1 : Int32)  : kM l yX11_back wk_c_X11_back 2 46 0 0 D kStr e0 [] [(pa, .inr (16, [.int pt, .ref pr, .ref pp, .ref pi, .ref pl, .ref pf, .ref pm, .ref ps, .ref pe, .int 0, .int 0])), (pp, .inr (4, [.int 0, .ref e0.1, .int 0]))] [.ref pa, .int a1] (fun v w t => v = some (.int 0) ∧ w = [(pa, .inr (16, [.int 1, .ref pr, .ref pp, .ref pi, .ref pl, .ref pf, .ref pm, .ref ps, .ref pe, .int 0, .int 0]))] ∧ t = []) (fun _ => False) := by
  refine k_of (cc := cX11_back) (maxL := 4) (ret := (some .int)) (by decide) rfl (Nat.le_of_ble_eq_true rfl) ?_
  intro p e s m args below meth c A ls hx hb hr hts hown hlocks hml hex hh hl
  have hown : s.vm.findClass RX11 = some m.cls := hown
  have hl : lv_has ls 4 [(0, .ref pa), (1, .int a1)] := hl
  refine lv_aload_n hx hb dX11_back_0 rfl (lv_at hl 0 rfl) ?_
  refine lv_iload_n hx hb dX11_back_1 rfl (lv_at hl 1 rfl) ?_
  refine k_callV (C := RX11) (T := TX11) (N := 11) (ci := 16) (q0 := 0) (wr := []) (rest := []) (own := RX11) ⟨hx, hb, hml, hown, hts⟩ (c_X11_noPiece l hst D e0 pa pt pr pp pi pl pf pm ps pe a1 ) (cwV 1 hts gi_c_X11_back_0 rfl rfl rfl (by decide +kernel) ⟨Nat.le_of_ble_eq_true rfl, Nat.le_of_ble_eq_true rfl⟩) hh rfl rfl [0, 1] [] [] rfl rfl rfl rfl (by decide) rfl rfl hl rfl (Nat.le_of_ble_eq_true rfl) dX11_back_2 ⟨Nat.le_of_ble_eq_true rfl, (Nat.le_of_ble_eq_true rfl)⟩ (fun _ _ _ _ _ h => h.elim) (fun v w ty1 H locs hp hh => ?_)
  obtain ⟨rfl, rfl, rfl⟩ := hp
  have hh : kH D kStr e0 A s H [(pa, .inr (16, [.int 1, .ref pr, .ref pp, .ref pi, .ref pl, .ref pf, .ref pm, .ref ps, .ref pe, .int 0, .int 0]))] [] _ := hh
  refine W.eq (g2 := F0 m 5 ls [.int 1]) (by first | rfl | decide) ?_
  refine lv_if_eq (tgt := 10) hx hb dX11_back_5 (by decide) (fun c_5 => absurd c_5 (by decide)) (fun _ => ?_)
  refine lv_iconst (v := 0) hx hb dX11_back_8 (by decide) ?_
  exact k_endi hx hb hr hlocks hh ⟨rfl, rfl, rfl⟩ [0] [] rfl rfl rfl (Nat.le_of_ble_eq_true rfl) (Nat.le_of_ble_eq_true rfl) dX11_back_9
def wo_c_X11_limit : List Cond := []
def wk_c_X11_limit : List Cond := Cond.code yX11_limit cX11_limit 10 (some .int) :: (wo_c_X11_limit ++ (wsV RX11 108 RX11 yX11_noPiece wk_c_X11_noPiece))
theorem wo_c_X11_limit_in : ∀ w ∈ wo_c_X11_limit, w ∈ wk_c_X11_limit := fun w h => List.mem_cons_of_mem _ (List.mem_append_left _ h)
theorem gi_c_X11_limit_0 : GoodIn wk_c_X11_limit (wsV RX11 108 RX11 yX11_noPiece wk_c_X11_noPiece) := fun w h => ⟨List.mem_cons_of_mem _ (List.mem_append_right _ h), good_of_word (kg_V gk_c_X11_noPiece w h)⟩
theorem gk_c_X11_limit : ∀ w ∈ wk_c_X11_limit, goodWord w = true := List.forall_mem_cons.mpr ⟨rfl, (List.forall_mem_append.mpr ⟨(show ∀ w ∈ wo_c_X11_limit, goodWord w = true by decide +kernel), (kg_V gk_c_X11_noPiece)⟩)⟩
set_option maxHeartbeats 4000000 in
set_option maxRecDepth 100000 in
theorem c_X11_limit (l : Launch) (hst : l.stackTraces = false) (D : va_G) (e0 : kE) (pa : Nat) (pt : Int32) (pr : Nat) (pp : Nat) (pi : Nat) (pl : Nat) (pf : Nat) (pm : Nat) (ps : Nat) (pe : Nat) (a1 : Int32) (a2 : Int32) (a3 : Int32) (a4 : Int32)  : kM l yX11_limit wk_c_X11_limit 2 46 0 0 D kStr e0 [] [(pa, .inr (16, [.int pt, .ref pr, .ref pp, .ref pi, .ref pl, .ref pf, .ref pm, .ref ps, .ref pe, .int 0, .int 0])), (pp, .inr (4, [.int 0, .ref e0.1, .int 0]))] [.ref pa, .int a1, .int a2, .int a3, .int a4] (fun v w t => v = some (.int 0) ∧ w = [(pa, .inr (16, [.int 1, .ref pr, .ref pp, .ref pi, .ref pl, .ref pf, .ref pm, .ref ps, .ref pe, .int 0, .int 0]))] ∧ t = []) (fun _ => False) := by
  refine k_of (cc := cX11_limit) (maxL := 10) (ret := (some .int)) (by decide) rfl (Nat.le_of_ble_eq_true rfl) ?_
  intro p e s m args below meth c A ls hx hb hr hts hown hlocks hml hex hh hl
  have hown : s.vm.findClass RX11 = some m.cls := hown
  have hl : lv_has ls 10 [(0, .ref pa), (1, .int a1), (2, .int a2), (3, .int a3), (4, .int a4)] := hl
  refine lv_aload_n hx hb dX11_limit_0 rfl (lv_at hl 0 rfl) ?_
  refine lv_iload_n hx hb dX11_limit_1 rfl (lv_at hl 1 rfl) ?_
  refine k_callV (C := RX11) (T := TX11) (N := 11) (ci := 16) (q0 := 0) (wr := []) (rest := []) (own := RX11) ⟨hx, hb, hml, hown, hts⟩ (c_X11_noPiece l hst D e0 pa pt pr pp pi pl pf pm ps pe a1 ) (cwV 1 hts gi_c_X11_limit_0 rfl rfl rfl (by decide +kernel) ⟨Nat.le_of_ble_eq_true rfl, Nat.le_of_ble_eq_true rfl⟩) hh rfl rfl [0, 1] [] [] rfl rfl rfl rfl (by decide) rfl rfl hl rfl (Nat.le_of_ble_eq_true rfl) dX11_limit_2 ⟨Nat.le_of_ble_eq_true rfl, (Nat.le_of_ble_eq_true rfl)⟩ (fun _ _ _ _ _ h => h.elim) (fun v w ty1 H locs hp hh => ?_)
  obtain ⟨rfl, rfl, rfl⟩ := hp
  have hh : kH D kStr e0 A s H [(pa, .inr (16, [.int 1, .ref pr, .ref pp, .ref pi, .ref pl, .ref pf, .ref pm, .ref ps, .ref pe, .int 0, .int 0]))] [] _ := hh
  refine W.eq (g2 := F0 m 5 ls [.int 1]) (by first | rfl | decide) ?_
  refine lv_if_eq (tgt := 10) hx hb dX11_limit_5 (by decide) (fun c_5 => absurd c_5 (by decide)) (fun _ => ?_)
  refine lv_iconst (v := 0) hx hb dX11_limit_8 (by decide) ?_
  exact k_endi hx hb hr hlocks hh ⟨rfl, rfl, rfl⟩ [0] [] rfl rfl rfl (Nat.le_of_ble_eq_true rfl) (Nat.le_of_ble_eq_true rfl) dX11_limit_9
def wo_c_X11_resample : List Cond := []
def wk_c_X11_resample : List Cond := Cond.code yX11_resample cX11_resample 11 (some .int) :: (wo_c_X11_resample ++ (wsV RX11 108 RX11 yX11_noPiece wk_c_X11_noPiece))
theorem wo_c_X11_resample_in : ∀ w ∈ wo_c_X11_resample, w ∈ wk_c_X11_resample := fun w h => List.mem_cons_of_mem _ (List.mem_append_left _ h)
theorem gi_c_X11_resample_0 : GoodIn wk_c_X11_resample (wsV RX11 108 RX11 yX11_noPiece wk_c_X11_noPiece) := fun w h => ⟨List.mem_cons_of_mem _ (List.mem_append_right _ h), good_of_word (kg_V gk_c_X11_noPiece w h)⟩
theorem gk_c_X11_resample : ∀ w ∈ wk_c_X11_resample, goodWord w = true := List.forall_mem_cons.mpr ⟨rfl, (List.forall_mem_append.mpr ⟨(show ∀ w ∈ wo_c_X11_resample, goodWord w = true by decide +kernel), (kg_V gk_c_X11_noPiece)⟩)⟩
set_option maxHeartbeats 4000000 in
set_option maxRecDepth 100000 in
theorem c_X11_resample (l : Launch) (hst : l.stackTraces = false) (D : va_G) (e0 : kE) (pa : Nat) (pt : Int32) (pr : Nat) (pp : Nat) (pi : Nat) (pl : Nat) (pf : Nat) (pm : Nat) (ps : Nat) (pe : Nat) (a1 : Int32) (a2 : Int32) (a3 : Int32)  : kM l yX11_resample wk_c_X11_resample 2 46 0 0 D kStr e0 [] [(pa, .inr (16, [.int pt, .ref pr, .ref pp, .ref pi, .ref pl, .ref pf, .ref pm, .ref ps, .ref pe, .int 0, .int 0])), (pp, .inr (4, [.int 0, .ref e0.1, .int 0]))] [.ref pa, .int a1, .int a2, .int a3] (fun v w t => v = some (.int 0) ∧ w = [(pa, .inr (16, [.int 1, .ref pr, .ref pp, .ref pi, .ref pl, .ref pf, .ref pm, .ref ps, .ref pe, .int 0, .int 0]))] ∧ t = []) (fun _ => False) := by
  refine k_of (cc := cX11_resample) (maxL := 11) (ret := (some .int)) (by decide) rfl (Nat.le_of_ble_eq_true rfl) ?_
  intro p e s m args below meth c A ls hx hb hr hts hown hlocks hml hex hh hl
  have hown : s.vm.findClass RX11 = some m.cls := hown
  have hl : lv_has ls 11 [(0, .ref pa), (1, .int a1), (2, .int a2), (3, .int a3)] := hl
  refine lv_aload_n hx hb dX11_resample_0 rfl (lv_at hl 0 rfl) ?_
  refine lv_iload_n hx hb dX11_resample_1 rfl (lv_at hl 1 rfl) ?_
  refine k_callV (C := RX11) (T := TX11) (N := 11) (ci := 16) (q0 := 0) (wr := []) (rest := []) (own := RX11) ⟨hx, hb, hml, hown, hts⟩ (c_X11_noPiece l hst D e0 pa pt pr pp pi pl pf pm ps pe a1 ) (cwV 1 hts gi_c_X11_resample_0 rfl rfl rfl (by decide +kernel) ⟨Nat.le_of_ble_eq_true rfl, Nat.le_of_ble_eq_true rfl⟩) hh rfl rfl [0, 1] [] [] rfl rfl rfl rfl (by decide) rfl rfl hl rfl (Nat.le_of_ble_eq_true rfl) dX11_resample_2 ⟨Nat.le_of_ble_eq_true rfl, (Nat.le_of_ble_eq_true rfl)⟩ (fun _ _ _ _ _ h => h.elim) (fun v w ty1 H locs hp hh => ?_)
  obtain ⟨rfl, rfl, rfl⟩ := hp
  have hh : kH D kStr e0 A s H [(pa, .inr (16, [.int 1, .ref pr, .ref pp, .ref pi, .ref pl, .ref pf, .ref pm, .ref ps, .ref pe, .int 0, .int 0]))] [] _ := hh
  refine W.eq (g2 := F0 m 5 ls [.int 1]) (by first | rfl | decide) ?_
  refine lv_if_eq (tgt := 10) hx hb dX11_resample_5 (by decide) (fun c_5 => absurd c_5 (by decide)) (fun _ => ?_)
  refine lv_iconst (v := 0) hx hb dX11_resample_8 (by decide) ?_
  exact k_endi hx hb hr hlocks hh ⟨rfl, rfl, rfl⟩ [0] [] rfl rfl rfl (Nat.le_of_ble_eq_true rfl) (Nat.le_of_ble_eq_true rfl) dX11_resample_9
def wo_c_X11_dither : List Cond := []
def wk_c_X11_dither : List Cond := Cond.code yX11_dither cX11_dither 7 (some .int) :: (wo_c_X11_dither ++ (wsV RX11 108 RX11 yX11_noPiece wk_c_X11_noPiece))
theorem wo_c_X11_dither_in : ∀ w ∈ wo_c_X11_dither, w ∈ wk_c_X11_dither := fun w h => List.mem_cons_of_mem _ (List.mem_append_left _ h)
theorem gi_c_X11_dither_0 : GoodIn wk_c_X11_dither (wsV RX11 108 RX11 yX11_noPiece wk_c_X11_noPiece) := fun w h => ⟨List.mem_cons_of_mem _ (List.mem_append_right _ h), good_of_word (kg_V gk_c_X11_noPiece w h)⟩
theorem gk_c_X11_dither : ∀ w ∈ wk_c_X11_dither, goodWord w = true := List.forall_mem_cons.mpr ⟨rfl, (List.forall_mem_append.mpr ⟨(show ∀ w ∈ wo_c_X11_dither, goodWord w = true by decide +kernel), (kg_V gk_c_X11_noPiece)⟩)⟩
set_option maxHeartbeats 4000000 in
set_option maxRecDepth 100000 in
theorem c_X11_dither (l : Launch) (hst : l.stackTraces = false) (D : va_G) (e0 : kE) (pa : Nat) (pt : Int32) (pr : Nat) (pp : Nat) (pi : Nat) (pl : Nat) (pf : Nat) (pm : Nat) (ps : Nat) (pe : Nat) (a1 : Int32) (a2 : Int32)  : kM l yX11_dither wk_c_X11_dither 2 46 0 0 D kStr e0 [] [(pa, .inr (16, [.int pt, .ref pr, .ref pp, .ref pi, .ref pl, .ref pf, .ref pm, .ref ps, .ref pe, .int 0, .int 0])), (pp, .inr (4, [.int 0, .ref e0.1, .int 0]))] [.ref pa, .int a1, .int a2] (fun v w t => v = some (.int 0) ∧ w = [(pa, .inr (16, [.int 1, .ref pr, .ref pp, .ref pi, .ref pl, .ref pf, .ref pm, .ref ps, .ref pe, .int 0, .int 0]))] ∧ t = []) (fun _ => False) := by
  refine k_of (cc := cX11_dither) (maxL := 7) (ret := (some .int)) (by decide) rfl (Nat.le_of_ble_eq_true rfl) ?_
  intro p e s m args below meth c A ls hx hb hr hts hown hlocks hml hex hh hl
  have hown : s.vm.findClass RX11 = some m.cls := hown
  have hl : lv_has ls 7 [(0, .ref pa), (1, .int a1), (2, .int a2)] := hl
  refine lv_aload_n hx hb dX11_dither_0 rfl (lv_at hl 0 rfl) ?_
  refine lv_iload_n hx hb dX11_dither_1 rfl (lv_at hl 1 rfl) ?_
  refine k_callV (C := RX11) (T := TX11) (N := 11) (ci := 16) (q0 := 0) (wr := []) (rest := []) (own := RX11) ⟨hx, hb, hml, hown, hts⟩ (c_X11_noPiece l hst D e0 pa pt pr pp pi pl pf pm ps pe a1 ) (cwV 1 hts gi_c_X11_dither_0 rfl rfl rfl (by decide +kernel) ⟨Nat.le_of_ble_eq_true rfl, Nat.le_of_ble_eq_true rfl⟩) hh rfl rfl [0, 1] [] [] rfl rfl rfl rfl (by decide) rfl rfl hl rfl (Nat.le_of_ble_eq_true rfl) dX11_dither_2 ⟨Nat.le_of_ble_eq_true rfl, (Nat.le_of_ble_eq_true rfl)⟩ (fun _ _ _ _ _ h => h.elim) (fun v w ty1 H locs hp hh => ?_)
  obtain ⟨rfl, rfl, rfl⟩ := hp
  have hh : kH D kStr e0 A s H [(pa, .inr (16, [.int 1, .ref pr, .ref pp, .ref pi, .ref pl, .ref pf, .ref pm, .ref ps, .ref pe, .int 0, .int 0]))] [] _ := hh
  refine W.eq (g2 := F0 m 5 ls [.int 1]) (by first | rfl | decide) ?_
  refine lv_if_eq (tgt := 10) hx hb dX11_dither_5 (by decide) (fun c_5 => absurd c_5 (by decide)) (fun _ => ?_)
  refine lv_iconst (v := 0) hx hb dX11_dither_8 (by decide) ?_
  exact k_endi hx hb hr hlocks hh ⟨rfl, rfl, rfl⟩ [0] [] rfl rfl rfl (Nat.le_of_ble_eq_true rfl) (Nat.le_of_ble_eq_true rfl) dX11_dither_9
def wo_c_X11_kindOf : List Cond := []
def wk_c_X11_kindOf : List Cond := Cond.code yX11_kindOf cX11_kindOf 2 (some .char) :: (wo_c_X11_kindOf ++ (wsV RX11 108 RX11 yX11_noPiece wk_c_X11_noPiece))
theorem wo_c_X11_kindOf_in : ∀ w ∈ wo_c_X11_kindOf, w ∈ wk_c_X11_kindOf := fun w h => List.mem_cons_of_mem _ (List.mem_append_left _ h)
theorem gi_c_X11_kindOf_0 : GoodIn wk_c_X11_kindOf (wsV RX11 108 RX11 yX11_noPiece wk_c_X11_noPiece) := fun w h => ⟨List.mem_cons_of_mem _ (List.mem_append_right _ h), good_of_word (kg_V gk_c_X11_noPiece w h)⟩
theorem gk_c_X11_kindOf : ∀ w ∈ wk_c_X11_kindOf, goodWord w = true := List.forall_mem_cons.mpr ⟨rfl, (List.forall_mem_append.mpr ⟨(show ∀ w ∈ wo_c_X11_kindOf, goodWord w = true by decide +kernel), (kg_V gk_c_X11_noPiece)⟩)⟩
set_option maxHeartbeats 4000000 in
set_option maxRecDepth 100000 in
theorem c_X11_kindOf (l : Launch) (hst : l.stackTraces = false) (D : va_G) (e0 : kE) (pa : Nat) (pt : Int32) (pr : Nat) (pp : Nat) (pi : Nat) (pl : Nat) (pf : Nat) (pm : Nat) (ps : Nat) (pe : Nat) (a1 : Int32)  : kM l yX11_kindOf wk_c_X11_kindOf 2 46 0 0 D kStr e0 [] [(pa, .inr (16, [.int pt, .ref pr, .ref pp, .ref pi, .ref pl, .ref pf, .ref pm, .ref ps, .ref pe, .int 0, .int 0])), (pp, .inr (4, [.int 0, .ref e0.1, .int 0]))] [.ref pa, .int a1] (fun v w t => v = some (.int 32) ∧ w = [(pa, .inr (16, [.int 1, .ref pr, .ref pp, .ref pi, .ref pl, .ref pf, .ref pm, .ref ps, .ref pe, .int 0, .int 0]))] ∧ t = []) (fun _ => False) := by
  refine k_of (cc := cX11_kindOf) (maxL := 2) (ret := (some .char)) (by decide) rfl (Nat.le_of_ble_eq_true rfl) ?_
  intro p e s m args below meth c A ls hx hb hr hts hown hlocks hml hex hh hl
  have hown : s.vm.findClass RX11 = some m.cls := hown
  have hl : lv_has ls 2 [(0, .ref pa), (1, .int a1)] := hl
  refine lv_aload_n hx hb dX11_kindOf_0 rfl (lv_at hl 0 rfl) ?_
  refine lv_iload_n hx hb dX11_kindOf_1 rfl (lv_at hl 1 rfl) ?_
  refine k_callV (C := RX11) (T := TX11) (N := 11) (ci := 16) (q0 := 0) (wr := []) (rest := []) (own := RX11) ⟨hx, hb, hml, hown, hts⟩ (c_X11_noPiece l hst D e0 pa pt pr pp pi pl pf pm ps pe a1 ) (cwV 1 hts gi_c_X11_kindOf_0 rfl rfl rfl (by decide +kernel) ⟨Nat.le_of_ble_eq_true rfl, Nat.le_of_ble_eq_true rfl⟩) hh rfl rfl [0, 1] [] [] rfl rfl rfl rfl (by decide) rfl rfl hl rfl (Nat.le_of_ble_eq_true rfl) dX11_kindOf_2 ⟨Nat.le_of_ble_eq_true rfl, (Nat.le_of_ble_eq_true rfl)⟩ (fun _ _ _ _ _ h => h.elim) (fun v w ty1 H locs hp hh => ?_)
  obtain ⟨rfl, rfl, rfl⟩ := hp
  have hh : kH D kStr e0 A s H [(pa, .inr (16, [.int 1, .ref pr, .ref pp, .ref pi, .ref pl, .ref pf, .ref pm, .ref ps, .ref pe, .int 0, .int 0]))] [] _ := hh
  refine W.eq (g2 := F0 m 5 ls [.int 1]) (by first | rfl | decide) ?_
  refine lv_if_eq (tgt := 13) hx hb dX11_kindOf_5 (by decide) (fun c_5 => absurd c_5 (by decide)) (fun _ => ?_)
  refine lv_bipush (v := 32) hx hb dX11_kindOf_8 (by decide) ?_
  refine lv_goto (tgt := 27) hx hb dX11_kindOf_10 (by decide) ?_
  exact k_endz (ty := .char) (by decide) hx hb hr hlocks hh ⟨rfl, rfl, rfl⟩ [0] [] rfl rfl rfl (Nat.le_of_ble_eq_true rfl) (Nat.le_of_ble_eq_true rfl) dX11_kindOf_27
def wo_c_X11_lengthOf : List Cond := []
def wk_c_X11_lengthOf : List Cond := Cond.code yX11_lengthOf cX11_lengthOf 2 (some .int) :: (wo_c_X11_lengthOf ++ (wsV RX11 108 RX11 yX11_noPiece wk_c_X11_noPiece))
theorem wo_c_X11_lengthOf_in : ∀ w ∈ wo_c_X11_lengthOf, w ∈ wk_c_X11_lengthOf := fun w h => List.mem_cons_of_mem _ (List.mem_append_left _ h)
theorem gi_c_X11_lengthOf_0 : GoodIn wk_c_X11_lengthOf (wsV RX11 108 RX11 yX11_noPiece wk_c_X11_noPiece) := fun w h => ⟨List.mem_cons_of_mem _ (List.mem_append_right _ h), good_of_word (kg_V gk_c_X11_noPiece w h)⟩
theorem gk_c_X11_lengthOf : ∀ w ∈ wk_c_X11_lengthOf, goodWord w = true := List.forall_mem_cons.mpr ⟨rfl, (List.forall_mem_append.mpr ⟨(show ∀ w ∈ wo_c_X11_lengthOf, goodWord w = true by decide +kernel), (kg_V gk_c_X11_noPiece)⟩)⟩
set_option maxHeartbeats 4000000 in
set_option maxRecDepth 100000 in
theorem c_X11_lengthOf (l : Launch) (hst : l.stackTraces = false) (D : va_G) (e0 : kE) (pa : Nat) (pt : Int32) (pr : Nat) (pp : Nat) (pi : Nat) (pl : Nat) (pf : Nat) (pm : Nat) (ps : Nat) (pe : Nat) (a1 : Int32)  : kM l yX11_lengthOf wk_c_X11_lengthOf 2 46 0 0 D kStr e0 [] [(pa, .inr (16, [.int pt, .ref pr, .ref pp, .ref pi, .ref pl, .ref pf, .ref pm, .ref ps, .ref pe, .int 0, .int 0])), (pp, .inr (4, [.int 0, .ref e0.1, .int 0]))] [.ref pa, .int a1] (fun v w t => v = some (.int 0) ∧ w = [(pa, .inr (16, [.int 1, .ref pr, .ref pp, .ref pi, .ref pl, .ref pf, .ref pm, .ref ps, .ref pe, .int 0, .int 0]))] ∧ t = []) (fun _ => False) := by
  refine k_of (cc := cX11_lengthOf) (maxL := 2) (ret := (some .int)) (by decide) rfl (Nat.le_of_ble_eq_true rfl) ?_
  intro p e s m args below meth c A ls hx hb hr hts hown hlocks hml hex hh hl
  have hown : s.vm.findClass RX11 = some m.cls := hown
  have hl : lv_has ls 2 [(0, .ref pa), (1, .int a1)] := hl
  refine lv_aload_n hx hb dX11_lengthOf_0 rfl (lv_at hl 0 rfl) ?_
  refine lv_iload_n hx hb dX11_lengthOf_1 rfl (lv_at hl 1 rfl) ?_
  refine k_callV (C := RX11) (T := TX11) (N := 11) (ci := 16) (q0 := 0) (wr := []) (rest := []) (own := RX11) ⟨hx, hb, hml, hown, hts⟩ (c_X11_noPiece l hst D e0 pa pt pr pp pi pl pf pm ps pe a1 ) (cwV 1 hts gi_c_X11_lengthOf_0 rfl rfl rfl (by decide +kernel) ⟨Nat.le_of_ble_eq_true rfl, Nat.le_of_ble_eq_true rfl⟩) hh rfl rfl [0, 1] [] [] rfl rfl rfl rfl (by decide) rfl rfl hl rfl (Nat.le_of_ble_eq_true rfl) dX11_lengthOf_2 ⟨Nat.le_of_ble_eq_true rfl, (Nat.le_of_ble_eq_true rfl)⟩ (fun _ _ _ _ _ h => h.elim) (fun v w ty1 H locs hp hh => ?_)
  obtain ⟨rfl, rfl, rfl⟩ := hp
  have hh : kH D kStr e0 A s H [(pa, .inr (16, [.int 1, .ref pr, .ref pp, .ref pi, .ref pl, .ref pf, .ref pm, .ref ps, .ref pe, .int 0, .int 0]))] [] _ := hh
  refine W.eq (g2 := F0 m 5 ls [.int 1]) (by first | rfl | decide) ?_
  refine lv_if_eq (tgt := 12) hx hb dX11_lengthOf_5 (by decide) (fun c_5 => absurd c_5 (by decide)) (fun _ => ?_)
  refine lv_iconst (v := 0) hx hb dX11_lengthOf_8 (by decide) ?_
  refine lv_goto (tgt := 18) hx hb dX11_lengthOf_9 (by decide) ?_
  exact k_endi hx hb hr hlocks hh ⟨rfl, rfl, rfl⟩ [0] [] rfl rfl rfl (Nat.le_of_ble_eq_true rfl) (Nat.le_of_ble_eq_true rfl) dX11_lengthOf_18
def wo_c_X11_sampleOf : List Cond := []
def wk_c_X11_sampleOf : List Cond := Cond.code yX11_sampleOf cX11_sampleOf 3 (some .int) :: (wo_c_X11_sampleOf ++ (wsV RX11 108 RX11 yX11_noPiece wk_c_X11_noPiece))
theorem wo_c_X11_sampleOf_in : ∀ w ∈ wo_c_X11_sampleOf, w ∈ wk_c_X11_sampleOf := fun w h => List.mem_cons_of_mem _ (List.mem_append_left _ h)
theorem gi_c_X11_sampleOf_0 : GoodIn wk_c_X11_sampleOf (wsV RX11 108 RX11 yX11_noPiece wk_c_X11_noPiece) := fun w h => ⟨List.mem_cons_of_mem _ (List.mem_append_right _ h), good_of_word (kg_V gk_c_X11_noPiece w h)⟩
theorem gk_c_X11_sampleOf : ∀ w ∈ wk_c_X11_sampleOf, goodWord w = true := List.forall_mem_cons.mpr ⟨rfl, (List.forall_mem_append.mpr ⟨(show ∀ w ∈ wo_c_X11_sampleOf, goodWord w = true by decide +kernel), (kg_V gk_c_X11_noPiece)⟩)⟩
set_option maxHeartbeats 4000000 in
set_option maxRecDepth 100000 in
theorem c_X11_sampleOf (l : Launch) (hst : l.stackTraces = false) (D : va_G) (e0 : kE) (pa : Nat) (pt : Int32) (pr : Nat) (pp : Nat) (pi : Nat) (pl : Nat) (pf : Nat) (pm : Nat) (ps : Nat) (pe : Nat) (a1 : Int32) (a2 : Int32)  : kM l yX11_sampleOf wk_c_X11_sampleOf 2 46 0 0 D kStr e0 [] [(pa, .inr (16, [.int pt, .ref pr, .ref pp, .ref pi, .ref pl, .ref pf, .ref pm, .ref ps, .ref pe, .int 0, .int 0])), (pp, .inr (4, [.int 0, .ref e0.1, .int 0]))] [.ref pa, .int a1, .int a2] (fun v w t => v = some (.int 0) ∧ w = [(pa, .inr (16, [.int 1, .ref pr, .ref pp, .ref pi, .ref pl, .ref pf, .ref pm, .ref ps, .ref pe, .int 0, .int 0]))] ∧ t = []) (fun _ => False) := by
  refine k_of (cc := cX11_sampleOf) (maxL := 3) (ret := (some .int)) (by decide) rfl (Nat.le_of_ble_eq_true rfl) ?_
  intro p e s m args below meth c A ls hx hb hr hts hown hlocks hml hex hh hl
  have hown : s.vm.findClass RX11 = some m.cls := hown
  have hl : lv_has ls 3 [(0, .ref pa), (1, .int a1), (2, .int a2)] := hl
  refine lv_aload_n hx hb dX11_sampleOf_0 rfl (lv_at hl 0 rfl) ?_
  refine lv_iload_n hx hb dX11_sampleOf_1 rfl (lv_at hl 1 rfl) ?_
  refine k_callV (C := RX11) (T := TX11) (N := 11) (ci := 16) (q0 := 0) (wr := []) (rest := []) (own := RX11) ⟨hx, hb, hml, hown, hts⟩ (c_X11_noPiece l hst D e0 pa pt pr pp pi pl pf pm ps pe a1 ) (cwV 1 hts gi_c_X11_sampleOf_0 rfl rfl rfl (by decide +kernel) ⟨Nat.le_of_ble_eq_true rfl, Nat.le_of_ble_eq_true rfl⟩) hh rfl rfl [0, 1] [] [] rfl rfl rfl rfl (by decide) rfl rfl hl rfl (Nat.le_of_ble_eq_true rfl) dX11_sampleOf_2 ⟨Nat.le_of_ble_eq_true rfl, (Nat.le_of_ble_eq_true rfl)⟩ (fun _ _ _ _ _ h => h.elim) (fun v w ty1 H locs hp hh => ?_)
  obtain ⟨rfl, rfl, rfl⟩ := hp
  have hh : kH D kStr e0 A s H [(pa, .inr (16, [.int 1, .ref pr, .ref pp, .ref pi, .ref pl, .ref pf, .ref pm, .ref ps, .ref pe, .int 0, .int 0]))] [] _ := hh
  refine W.eq (g2 := F0 m 5 ls [.int 1]) (by first | rfl | decide) ?_
  refine lv_if_eq (tgt := 10) hx hb dX11_sampleOf_5 (by decide) (fun c_5 => absurd c_5 (by decide)) (fun _ => ?_)
  refine lv_iconst (v := 0) hx hb dX11_sampleOf_8 (by decide) ?_
  exact k_endi hx hb hr hlocks hh ⟨rfl, rfl, rfl⟩ [0] [] rfl rfl rfl (Nat.le_of_ble_eq_true rfl) (Nat.le_of_ble_eq_true rfl) dX11_sampleOf_9
def wo_c_X11_loudness : List Cond := []
def wk_c_X11_loudness : List Cond := Cond.code yX11_loudness cX11_loudness 11 (some .int) :: (wo_c_X11_loudness ++ (wsV RX11 108 RX11 yX11_noPiece wk_c_X11_noPiece))
theorem wo_c_X11_loudness_in : ∀ w ∈ wo_c_X11_loudness, w ∈ wk_c_X11_loudness := fun w h => List.mem_cons_of_mem _ (List.mem_append_left _ h)
theorem gi_c_X11_loudness_0 : GoodIn wk_c_X11_loudness (wsV RX11 108 RX11 yX11_noPiece wk_c_X11_noPiece) := fun w h => ⟨List.mem_cons_of_mem _ (List.mem_append_right _ h), good_of_word (kg_V gk_c_X11_noPiece w h)⟩
theorem gk_c_X11_loudness : ∀ w ∈ wk_c_X11_loudness, goodWord w = true := List.forall_mem_cons.mpr ⟨rfl, (List.forall_mem_append.mpr ⟨(show ∀ w ∈ wo_c_X11_loudness, goodWord w = true by decide +kernel), (kg_V gk_c_X11_noPiece)⟩)⟩
set_option maxHeartbeats 4000000 in
set_option maxRecDepth 100000 in
theorem c_X11_loudness (l : Launch) (hst : l.stackTraces = false) (D : va_G) (e0 : kE) (pa : Nat) (pt : Int32) (pr : Nat) (pp : Nat) (pi : Nat) (pl : Nat) (pf : Nat) (pm : Nat) (ps : Nat) (pe : Nat) (a1 : Int32)  : kM l yX11_loudness wk_c_X11_loudness 2 46 0 0 D kStr e0 [] [(pa, .inr (16, [.int pt, .ref pr, .ref pp, .ref pi, .ref pl, .ref pf, .ref pm, .ref ps, .ref pe, .int 0, .int 0])), (pp, .inr (4, [.int 0, .ref e0.1, .int 0]))] [.ref pa, .int a1] (fun v w t => v = some (.int 0) ∧ w = [(pa, .inr (16, [.int 1, .ref pr, .ref pp, .ref pi, .ref pl, .ref pf, .ref pm, .ref ps, .ref pe, .int 0, .int 0]))] ∧ t = []) (fun _ => False) := by
  refine k_of (cc := cX11_loudness) (maxL := 11) (ret := (some .int)) (by decide) rfl (Nat.le_of_ble_eq_true rfl) ?_
  intro p e s m args below meth c A ls hx hb hr hts hown hlocks hml hex hh hl
  have hown : s.vm.findClass RX11 = some m.cls := hown
  have hl : lv_has ls 11 [(0, .ref pa), (1, .int a1)] := hl
  refine lv_aload_n hx hb dX11_loudness_0 rfl (lv_at hl 0 rfl) ?_
  refine lv_iload_n hx hb dX11_loudness_1 rfl (lv_at hl 1 rfl) ?_
  refine k_callV (C := RX11) (T := TX11) (N := 11) (ci := 16) (q0 := 0) (wr := []) (rest := []) (own := RX11) ⟨hx, hb, hml, hown, hts⟩ (c_X11_noPiece l hst D e0 pa pt pr pp pi pl pf pm ps pe a1 ) (cwV 1 hts gi_c_X11_loudness_0 rfl rfl rfl (by decide +kernel) ⟨Nat.le_of_ble_eq_true rfl, Nat.le_of_ble_eq_true rfl⟩) hh rfl rfl [0, 1] [] [] rfl rfl rfl rfl (by decide) rfl rfl hl rfl (Nat.le_of_ble_eq_true rfl) dX11_loudness_2 ⟨Nat.le_of_ble_eq_true rfl, (Nat.le_of_ble_eq_true rfl)⟩ (fun _ _ _ _ _ h => h.elim) (fun v w ty1 H locs hp hh => ?_)
  obtain ⟨rfl, rfl, rfl⟩ := hp
  have hh : kH D kStr e0 A s H [(pa, .inr (16, [.int 1, .ref pr, .ref pp, .ref pi, .ref pl, .ref pf, .ref pm, .ref ps, .ref pe, .int 0, .int 0]))] [] _ := hh
  refine W.eq (g2 := F0 m 5 ls [.int 1]) (by first | rfl | decide) ?_
  refine lv_if_eq (tgt := 10) hx hb dX11_loudness_5 (by decide) (fun c_5 => absurd c_5 (by decide)) (fun _ => ?_)
  refine lv_iconst (v := 0) hx hb dX11_loudness_8 (by decide) ?_
  exact k_endi hx hb hr hlocks hh ⟨rfl, rfl, rfl⟩ [0] [] rfl rfl rfl (Nat.le_of_ble_eq_true rfl) (Nat.le_of_ble_eq_true rfl) dX11_loudness_9
def wo_c_X11_peak : List Cond := []
def wk_c_X11_peak : List Cond := Cond.code yX11_peak cX11_peak 5 (some .int) :: (wo_c_X11_peak ++ (wsV RX11 108 RX11 yX11_noPiece wk_c_X11_noPiece))
theorem wo_c_X11_peak_in : ∀ w ∈ wo_c_X11_peak, w ∈ wk_c_X11_peak := fun w h => List.mem_cons_of_mem _ (List.mem_append_left _ h)
theorem gi_c_X11_peak_0 : GoodIn wk_c_X11_peak (wsV RX11 108 RX11 yX11_noPiece wk_c_X11_noPiece) := fun w h => ⟨List.mem_cons_of_mem _ (List.mem_append_right _ h), good_of_word (kg_V gk_c_X11_noPiece w h)⟩
theorem gk_c_X11_peak : ∀ w ∈ wk_c_X11_peak, goodWord w = true := List.forall_mem_cons.mpr ⟨rfl, (List.forall_mem_append.mpr ⟨(show ∀ w ∈ wo_c_X11_peak, goodWord w = true by decide +kernel), (kg_V gk_c_X11_noPiece)⟩)⟩
set_option maxHeartbeats 4000000 in
set_option maxRecDepth 100000 in
theorem c_X11_peak (l : Launch) (hst : l.stackTraces = false) (D : va_G) (e0 : kE) (pa : Nat) (pt : Int32) (pr : Nat) (pp : Nat) (pi : Nat) (pl : Nat) (pf : Nat) (pm : Nat) (ps : Nat) (pe : Nat) (a1 : Int32)  : kM l yX11_peak wk_c_X11_peak 2 46 0 0 D kStr e0 [] [(pa, .inr (16, [.int pt, .ref pr, .ref pp, .ref pi, .ref pl, .ref pf, .ref pm, .ref ps, .ref pe, .int 0, .int 0])), (pp, .inr (4, [.int 0, .ref e0.1, .int 0]))] [.ref pa, .int a1] (fun v w t => v = some (.int 0) ∧ w = [(pa, .inr (16, [.int 1, .ref pr, .ref pp, .ref pi, .ref pl, .ref pf, .ref pm, .ref ps, .ref pe, .int 0, .int 0]))] ∧ t = []) (fun _ => False) := by
  refine k_of (cc := cX11_peak) (maxL := 5) (ret := (some .int)) (by decide) rfl (Nat.le_of_ble_eq_true rfl) ?_
  intro p e s m args below meth c A ls hx hb hr hts hown hlocks hml hex hh hl
  have hown : s.vm.findClass RX11 = some m.cls := hown
  have hl : lv_has ls 5 [(0, .ref pa), (1, .int a1)] := hl
  refine lv_aload_n hx hb dX11_peak_0 rfl (lv_at hl 0 rfl) ?_
  refine lv_iload_n hx hb dX11_peak_1 rfl (lv_at hl 1 rfl) ?_
  refine k_callV (C := RX11) (T := TX11) (N := 11) (ci := 16) (q0 := 0) (wr := []) (rest := []) (own := RX11) ⟨hx, hb, hml, hown, hts⟩ (c_X11_noPiece l hst D e0 pa pt pr pp pi pl pf pm ps pe a1 ) (cwV 1 hts gi_c_X11_peak_0 rfl rfl rfl (by decide +kernel) ⟨Nat.le_of_ble_eq_true rfl, Nat.le_of_ble_eq_true rfl⟩) hh rfl rfl [0, 1] [] [] rfl rfl rfl rfl (by decide) rfl rfl hl rfl (Nat.le_of_ble_eq_true rfl) dX11_peak_2 ⟨Nat.le_of_ble_eq_true rfl, (Nat.le_of_ble_eq_true rfl)⟩ (fun _ _ _ _ _ h => h.elim) (fun v w ty1 H locs hp hh => ?_)
  obtain ⟨rfl, rfl, rfl⟩ := hp
  have hh : kH D kStr e0 A s H [(pa, .inr (16, [.int 1, .ref pr, .ref pp, .ref pi, .ref pl, .ref pf, .ref pm, .ref ps, .ref pe, .int 0, .int 0]))] [] _ := hh
  refine W.eq (g2 := F0 m 5 ls [.int 1]) (by first | rfl | decide) ?_
  refine lv_if_eq (tgt := 10) hx hb dX11_peak_5 (by decide) (fun c_5 => absurd c_5 (by decide)) (fun _ => ?_)
  refine lv_iconst (v := 0) hx hb dX11_peak_8 (by decide) ?_
  exact k_endi hx hb hr hlocks hh ⟨rfl, rfl, rfl⟩ [0] [] rfl rfl rfl (Nat.le_of_ble_eq_true rfl) (Nat.le_of_ble_eq_true rfl) dX11_peak_9
def wo_c_X11_add : List Cond := []
def wk_c_X11_add : List Cond := Cond.code yX11_add cX11_add 4 (some .int) :: (wo_c_X11_add ++ (wsV RX11 108 RX11 yX11_noPiece wk_c_X11_noPiece))
theorem wo_c_X11_add_in : ∀ w ∈ wo_c_X11_add, w ∈ wk_c_X11_add := fun w h => List.mem_cons_of_mem _ (List.mem_append_left _ h)
theorem gi_c_X11_add_0 : GoodIn wk_c_X11_add (wsV RX11 108 RX11 yX11_noPiece wk_c_X11_noPiece) := fun w h => ⟨List.mem_cons_of_mem _ (List.mem_append_right _ h), good_of_word (kg_V gk_c_X11_noPiece w h)⟩
theorem gk_c_X11_add : ∀ w ∈ wk_c_X11_add, goodWord w = true := List.forall_mem_cons.mpr ⟨rfl, (List.forall_mem_append.mpr ⟨(show ∀ w ∈ wo_c_X11_add, goodWord w = true by decide +kernel), (kg_V gk_c_X11_noPiece)⟩)⟩
set_option maxHeartbeats 4000000 in
set_option maxRecDepth 100000 in
theorem c_X11_add (l : Launch) (hst : l.stackTraces = false) (D : va_G) (e0 : kE) (pa : Nat) (pt : Int32) (pr : Nat) (pp : Nat) (pi : Nat) (pl : Nat) (pf : Nat) (pm : Nat) (ps : Nat) (pe : Nat) (a1 : Int32) (a2 : Int32)  : kM l yX11_add wk_c_X11_add 2 46 0 0 D kStr e0 [] [(pa, .inr (16, [.int pt, .ref pr, .ref pp, .ref pi, .ref pl, .ref pf, .ref pm, .ref ps, .ref pe, .int 0, .int 0])), (pp, .inr (4, [.int 0, .ref e0.1, .int 0]))] [.ref pa, .int a1, .int a2] (fun v w t => v = some (.int 0) ∧ w = [(pa, .inr (16, [.int 1, .ref pr, .ref pp, .ref pi, .ref pl, .ref pf, .ref pm, .ref ps, .ref pe, .int 0, .int 0]))] ∧ t = []) (fun _ => False) := by
  refine k_of (cc := cX11_add) (maxL := 4) (ret := (some .int)) (by decide) rfl (Nat.le_of_ble_eq_true rfl) ?_
  intro p e s m args below meth c A ls hx hb hr hts hown hlocks hml hex hh hl
  have hown : s.vm.findClass RX11 = some m.cls := hown
  have hl : lv_has ls 4 [(0, .ref pa), (1, .int a1), (2, .int a2)] := hl
  refine lv_aload_n hx hb dX11_add_0 rfl (lv_at hl 0 rfl) ?_
  refine lv_iload_n hx hb dX11_add_1 rfl (lv_at hl 1 rfl) ?_
  refine k_callV (C := RX11) (T := TX11) (N := 11) (ci := 16) (q0 := 0) (wr := []) (rest := []) (own := RX11) ⟨hx, hb, hml, hown, hts⟩ (c_X11_noPiece l hst D e0 pa pt pr pp pi pl pf pm ps pe a1 ) (cwV 1 hts gi_c_X11_add_0 rfl rfl rfl (by decide +kernel) ⟨Nat.le_of_ble_eq_true rfl, Nat.le_of_ble_eq_true rfl⟩) hh rfl rfl [0, 1] [] [] rfl rfl rfl rfl (by decide) rfl rfl hl rfl (Nat.le_of_ble_eq_true rfl) dX11_add_2 ⟨Nat.le_of_ble_eq_true rfl, (Nat.le_of_ble_eq_true rfl)⟩ (fun _ _ _ _ _ h => h.elim) (fun v w ty1 H locs hp hh => ?_)
  obtain ⟨rfl, rfl, rfl⟩ := hp
  have hh : kH D kStr e0 A s H [(pa, .inr (16, [.int 1, .ref pr, .ref pp, .ref pi, .ref pl, .ref pf, .ref pm, .ref ps, .ref pe, .int 0, .int 0]))] [] _ := hh
  refine W.eq (g2 := F0 m 5 ls [.int 1]) (by first | rfl | decide) ?_
  refine lv_if_eq (tgt := 10) hx hb dX11_add_5 (by decide) (fun c_5 => absurd c_5 (by decide)) (fun _ => ?_)
  refine lv_iconst (v := 0) hx hb dX11_add_8 (by decide) ?_
  exact k_endi hx hb hr hlocks hh ⟨rfl, rfl, rfl⟩ [0] [] rfl rfl rfl (Nat.le_of_ble_eq_true rfl) (Nat.le_of_ble_eq_true rfl) dX11_add_9
def wo_c_X11_padding : List Cond := []
def wk_c_X11_padding : List Cond := Cond.code yX11_padding cX11_padding 5 (some .int) :: (wo_c_X11_padding ++ (wsV RX11 108 RX11 yX11_noPiece wk_c_X11_noPiece))
theorem wo_c_X11_padding_in : ∀ w ∈ wo_c_X11_padding, w ∈ wk_c_X11_padding := fun w h => List.mem_cons_of_mem _ (List.mem_append_left _ h)
theorem gi_c_X11_padding_0 : GoodIn wk_c_X11_padding (wsV RX11 108 RX11 yX11_noPiece wk_c_X11_noPiece) := fun w h => ⟨List.mem_cons_of_mem _ (List.mem_append_right _ h), good_of_word (kg_V gk_c_X11_noPiece w h)⟩
theorem gk_c_X11_padding : ∀ w ∈ wk_c_X11_padding, goodWord w = true := List.forall_mem_cons.mpr ⟨rfl, (List.forall_mem_append.mpr ⟨(show ∀ w ∈ wo_c_X11_padding, goodWord w = true by decide +kernel), (kg_V gk_c_X11_noPiece)⟩)⟩
set_option maxHeartbeats 4000000 in
set_option maxRecDepth 100000 in
theorem c_X11_padding (l : Launch) (hst : l.stackTraces = false) (D : va_G) (e0 : kE) (pa : Nat) (pt : Int32) (pr : Nat) (pp : Nat) (pi : Nat) (pl : Nat) (pf : Nat) (pm : Nat) (ps : Nat) (pe : Nat) (a1 : Int32) (a2 : Int32) (a3 : Int32)  : kM l yX11_padding wk_c_X11_padding 2 46 0 0 D kStr e0 [] [(pa, .inr (16, [.int pt, .ref pr, .ref pp, .ref pi, .ref pl, .ref pf, .ref pm, .ref ps, .ref pe, .int 0, .int 0])), (pp, .inr (4, [.int 0, .ref e0.1, .int 0]))] [.ref pa, .int a1, .int a2, .int a3] (fun v w t => v = some (.int 0) ∧ w = [(pa, .inr (16, [.int 1, .ref pr, .ref pp, .ref pi, .ref pl, .ref pf, .ref pm, .ref ps, .ref pe, .int 0, .int 0]))] ∧ t = []) (fun _ => False) := by
  refine k_of (cc := cX11_padding) (maxL := 5) (ret := (some .int)) (by decide) rfl (Nat.le_of_ble_eq_true rfl) ?_
  intro p e s m args below meth c A ls hx hb hr hts hown hlocks hml hex hh hl
  have hown : s.vm.findClass RX11 = some m.cls := hown
  have hl : lv_has ls 5 [(0, .ref pa), (1, .int a1), (2, .int a2), (3, .int a3)] := hl
  refine lv_aload_n hx hb dX11_padding_0 rfl (lv_at hl 0 rfl) ?_
  refine lv_iload_n hx hb dX11_padding_1 rfl (lv_at hl 1 rfl) ?_
  refine k_callV (C := RX11) (T := TX11) (N := 11) (ci := 16) (q0 := 0) (wr := []) (rest := []) (own := RX11) ⟨hx, hb, hml, hown, hts⟩ (c_X11_noPiece l hst D e0 pa pt pr pp pi pl pf pm ps pe a1 ) (cwV 1 hts gi_c_X11_padding_0 rfl rfl rfl (by decide +kernel) ⟨Nat.le_of_ble_eq_true rfl, Nat.le_of_ble_eq_true rfl⟩) hh rfl rfl [0, 1] [] [] rfl rfl rfl rfl (by decide) rfl rfl hl rfl (Nat.le_of_ble_eq_true rfl) dX11_padding_2 ⟨Nat.le_of_ble_eq_true rfl, (Nat.le_of_ble_eq_true rfl)⟩ (fun _ _ _ _ _ h => h.elim) (fun v w ty1 H locs hp hh => ?_)
  obtain ⟨rfl, rfl, rfl⟩ := hp
  have hh : kH D kStr e0 A s H [(pa, .inr (16, [.int 1, .ref pr, .ref pp, .ref pi, .ref pl, .ref pf, .ref pm, .ref ps, .ref pe, .int 0, .int 0]))] [] _ := hh
  refine W.eq (g2 := F0 m 5 ls [.int 1]) (by first | rfl | decide) ?_
  refine lv_if_eq (tgt := 10) hx hb dX11_padding_5 (by decide) (fun c_5 => absurd c_5 (by decide)) (fun _ => ?_)
  refine lv_iconst (v := 0) hx hb dX11_padding_8 (by decide) ?_
  exact k_endi hx hb hr hlocks hh ⟨rfl, rfl, rfl⟩ [0] [] rfl rfl rfl (Nat.le_of_ble_eq_true rfl) (Nat.le_of_ble_eq_true rfl) dX11_padding_9
def wo_c_X11_splice : List Cond := [Cond.fieldLink RX11 25 "SegueworksModel" "pieces" "Ljava/util/ArrayList;", Cond.fieldLink RX11 46 "SegueworksModel" "thrown" "I"]
def wk_c_X11_splice : List Cond := Cond.code yX11_splice cX11_splice 10 (some .int) :: (wo_c_X11_splice ++ ((u_ws RX11 TX11 11) ++ ((wsV RX11 50 RJx4a65c yJx4a65c_size_8abf5 wk_c_size) ++ (va_wsS RX11 54 yX11_in wk_c_X11_in_f))))
theorem wo_c_X11_splice_in : ∀ w ∈ wo_c_X11_splice, w ∈ wk_c_X11_splice := fun w h => List.mem_cons_of_mem _ (List.mem_append_left _ h)
theorem ws_c_X11_splice_0 : ∀ w ∈ u_ws RX11 TX11 11, w ∈ wk_c_X11_splice := fun w h => List.mem_cons_of_mem _ (List.mem_append_right _ (List.mem_append_left _ h))
theorem gi_c_X11_splice_1 : GoodIn wk_c_X11_splice (wsV RX11 50 RJx4a65c yJx4a65c_size_8abf5 wk_c_size) := fun w h => ⟨List.mem_cons_of_mem _ (List.mem_append_right _ (List.mem_append_right _ (List.mem_append_left _ h))), good_of_word (kg_V gk_c_size w h)⟩
theorem gi_c_X11_splice_2 : GoodIn wk_c_X11_splice (va_wsS RX11 54 yX11_in wk_c_X11_in_f) := fun w h => ⟨List.mem_cons_of_mem _ (List.mem_append_right _ (List.mem_append_right _ (List.mem_append_right _ h))), good_of_word (kg_S gk_c_X11_in_f w h)⟩
theorem gk_c_X11_splice : ∀ w ∈ wk_c_X11_splice, goodWord w = true := List.forall_mem_cons.mpr ⟨rfl, (List.forall_mem_append.mpr ⟨(show ∀ w ∈ wo_c_X11_splice, goodWord w = true by decide +kernel), (List.forall_mem_append.mpr ⟨(show ∀ w ∈ u_ws RX11 TX11 11, goodWord w = true by decide +kernel), (List.forall_mem_append.mpr ⟨(kg_V gk_c_size), (kg_S gk_c_X11_in_f)⟩)⟩)⟩)⟩
set_option maxHeartbeats 4000000 in
set_option maxRecDepth 100000 in
theorem c_X11_splice (l : Launch) (hst : l.stackTraces = false) (D : va_G) (e0 : kE) (pa : Nat) (pt : Int32) (pr : Nat) (pp : Nat) (pi : Nat) (pl : Nat) (pf : Nat) (pm : Nat) (ps : Nat) (pe : Nat) (a1 : Int32) (a2 : Int32) (a3 : Int32)  : kM l yX11_splice wk_c_X11_splice 1 25 0 0 D kStr e0 [] [(pa, .inr (16, [.int pt, .ref pr, .ref pp, .ref pi, .ref pl, .ref pf, .ref pm, .ref ps, .ref pe, .int 0, .int 0])), (pp, .inr (4, [.int 0, .ref e0.1, .int 0]))] [.ref pa, .int a1, .int a2, .int a3] (fun v w t => v = some (.int 0) ∧ w = [(pa, .inr (16, [.int 1, .ref pr, .ref pp, .ref pi, .ref pl, .ref pf, .ref pm, .ref ps, .ref pe, .int 0, .int 0]))] ∧ t = []) (fun _ => False) := by
  refine k_of (cc := cX11_splice) (maxL := 10) (ret := (some .int)) (by decide) rfl (Nat.le_of_ble_eq_true rfl) ?_
  intro p e s m args below meth c A ls hx hb hr hts hown hlocks hml hex hh hl
  have hown : s.vm.findClass RX11 = some m.cls := hown
  have hl : lv_has ls 10 [(0, .ref pa), (1, .int a1), (2, .int a2), (3, .int a3)] := hl
  refine lv_aload_n hx hb dX11_splice_0 rfl (lv_at hl 0 rfl) ?_
  refine lv_iload_n hx hb dX11_splice_1 rfl (lv_at hl 1 rfl) ?_
  refine lv_i2l (v := (Int32.toInt64 a1)) hx hb dX11_splice_2 rfl ?_
  refine lv_lconst (v := 0) hx hb dX11_splice_3 (by decide) ?_
  refine lv_aload_n hx hb dX11_splice_4 rfl (lv_at hl 0 rfl) ?_
  refine k_get (C := RX11) (T := TX11) (N := 11) (ci := 16) (v := .ref pp) hx hb hts ws_c_X11_splice_0 hown hh 0 rfl rfl 2 (by decide) (hts _ (wo_c_X11_splice_in _ (List.mem_of_getElem? (i := 0) rfl))) rfl dX11_splice_5 ?_
  refine k_callV (C := RJx4a65c) (T := TJx4a65c) (N := 3) (ci := 4) (q0 := 1) (wr := [(pa, .inr (16, [.int pt, .ref pr, .ref pp, .ref pi, .ref pl, .ref pf, .ref pm, .ref ps, .ref pe, .int 0, .int 0]))]) (rest := [.long 0, .long (Int32.toInt64 a1), .ref pa]) (own := RX11) ⟨hx, hb, hml, hown, hts⟩ (c_size l hst D e0 pp 0 (.ref e0.1) 0 ) (cwV 0 hts gi_c_X11_splice_1 rfl rfl rfl (by decide +kernel) ⟨Nat.le_of_ble_eq_true rfl, Nat.le_of_ble_eq_true rfl⟩) hh rfl rfl [1] [0] [] rfl rfl rfl rfl (by decide) rfl rfl hl rfl (Nat.le_of_ble_eq_true rfl) dX11_splice_8 ⟨Nat.le_of_ble_eq_true rfl, (Nat.le_of_ble_eq_true rfl)⟩ (fun _ _ _ _ _ h => h.elim) (fun v w ty1 H locs hp hh => ?_)
  obtain ⟨rfl, rfl, rfl⟩ := hp
  have hh : kH D kStr e0 A s H [(pa, .inr (16, [.int pt, .ref pr, .ref pp, .ref pi, .ref pl, .ref pf, .ref pm, .ref ps, .ref pe, .int 0, .int 0])), (pp, .inr (4, [.int 0, .ref e0.1, .int 0]))] [] _ := hh
  refine W.eq (g2 := F0 m 11 ls [.int 0, .long 0, .long (Int32.toInt64 a1), .ref pa]) (by first | rfl | decide) ?_
  refine lv_iconst (v := 1) hx hb dX11_splice_11 (by decide) ?_
  refine lv_isub hx hb dX11_splice_12 ?_
  refine W.eq (g2 := F0 m 13 ls [.int (-1), .long 0, .long (Int32.toInt64 a1), .ref pa]) (by first | rfl | decide) ?_
  refine lv_i2l (v := (-1)) hx hb dX11_splice_13 (by decide) ?_
  refine k_callS (wr := [(pa, .inr (16, [.int pt, .ref pr, .ref pp, .ref pi, .ref pl, .ref pf, .ref pm, .ref ps, .ref pe, .int 0, .int 0])), (pp, .inr (4, [.int 0, .ref e0.1, .int 0]))]) (rest := [.ref pa]) (own := RX11) ⟨hx, hb, hml, hown, hts⟩ (c_X11_in_f l hst D e0 ((Int32.toInt64 a1)) 0 (-1) (k_empty _)) (va_cwS 3 hts gi_c_X11_splice_2 rfl rfl rfl (by decide +kernel) ⟨Nat.le_of_ble_eq_true rfl, Nat.le_of_ble_eq_true rfl⟩) hh [] [0, 1] [] rfl rfl rfl rfl (by decide) rfl rfl hl rfl (Nat.le_of_ble_eq_true rfl) dX11_splice_14 ⟨Nat.le_of_ble_eq_true rfl, (Nat.le_of_ble_eq_true rfl)⟩ (fun _ _ _ _ _ h => h.elim) (fun v w ty1 H locs hp hh => ?_)
  obtain ⟨rfl, rfl, rfl⟩ := hp
  have hh : kH D kStr e0 A s H [(pa, .inr (16, [.int pt, .ref pr, .ref pp, .ref pi, .ref pl, .ref pf, .ref pm, .ref ps, .ref pe, .int 0, .int 0])), (pp, .inr (4, [.int 0, .ref e0.1, .int 0]))] [] _ := hh
  refine W.eq (g2 := F0 m 17 ls [.int 0, .ref pa]) (by first | rfl | decide) ?_
  refine lv_if_eq (tgt := 43) hx hb dX11_splice_17 (by decide) (fun _ => ?_) (fun c_17 => absurd (by decide) c_17)
  refine lv_iconst (v := 1) hx hb dX11_splice_43 (by decide) ?_
  refine k_put (C := RX11) (T := TX11) (N := 11) (ci := 16) (v := .int 1) (ws' := [(pa, .inr (16, [.int 1, .ref pr, .ref pp, .ref pi, .ref pl, .ref pf, .ref pm, .ref ps, .ref pe, .int 0, .int 0])), (pp, .inr (4, [.int 0, .ref e0.1, .int 0]))]) hx hb hts ws_c_X11_splice_0 tyX11 tyX11_ok nmX11 hown hh 0 rfl rfl 0 (by decide) (hts _ (wo_c_X11_splice_in _ (List.mem_of_getElem? (i := 1) rfl))) rfl rfl rfl (Nat.le_of_ble_eq_true rfl) dX11_splice_44 rfl (fun H locs hh => ?_)
  refine lv_aload_n hx hb dX11_splice_47 rfl (lv_at hl 0 rfl) ?_
  refine k_get (C := RX11) (T := TX11) (N := 11) (ci := 16) (v := .int 1) hx hb hts ws_c_X11_splice_0 hown hh 0 rfl rfl 0 (by decide) (hts _ (wo_c_X11_splice_in _ (List.mem_of_getElem? (i := 1) rfl))) rfl dX11_splice_48 ?_
  refine lv_if_le (tgt := 56) hx hb dX11_splice_51 (by decide) (fun c_51 => absurd c_51 (by decide)) (fun _ => ?_)
  refine lv_iconst (v := 0) hx hb dX11_splice_54 (by decide) ?_
  exact k_endi hx hb hr hlocks hh ⟨rfl, rfl, rfl⟩ [0] [] rfl rfl rfl (Nat.le_of_ble_eq_true rfl) (Nat.le_of_ble_eq_true rfl) dX11_splice_55
def wo_c_X11_lock : List Cond := []
def wk_c_X11_lock : List Cond := Cond.code yX11_lock cX11_lock 4 (some .boolean) :: (wo_c_X11_lock ++ (wsV RX11 168 RX11 yX11_noItem wk_c_X11_noItem))
theorem wo_c_X11_lock_in : ∀ w ∈ wo_c_X11_lock, w ∈ wk_c_X11_lock := fun w h => List.mem_cons_of_mem _ (List.mem_append_left _ h)
theorem gi_c_X11_lock_0 : GoodIn wk_c_X11_lock (wsV RX11 168 RX11 yX11_noItem wk_c_X11_noItem) := fun w h => ⟨List.mem_cons_of_mem _ (List.mem_append_right _ h), good_of_word (kg_V gk_c_X11_noItem w h)⟩
theorem gk_c_X11_lock : ∀ w ∈ wk_c_X11_lock, goodWord w = true := List.forall_mem_cons.mpr ⟨rfl, (List.forall_mem_append.mpr ⟨(show ∀ w ∈ wo_c_X11_lock, goodWord w = true by decide +kernel), (kg_V gk_c_X11_noItem)⟩)⟩
set_option maxHeartbeats 4000000 in
set_option maxRecDepth 100000 in
theorem c_X11_lock (l : Launch) (hst : l.stackTraces = false) (D : va_G) (e0 : kE) (pa : Nat) (pt : Int32) (pr : Nat) (pp : Nat) (pi : Nat) (pl : Nat) (pf : Nat) (pm : Nat) (ps : Nat) (pe : Nat) (a1 : Int32) (a2 : Int32)  : kM l yX11_lock wk_c_X11_lock 2 46 0 0 D kStr e0 [] [(pa, .inr (16, [.int pt, .ref pr, .ref pp, .ref pi, .ref pl, .ref pf, .ref pm, .ref ps, .ref pe, .int 0, .int 0])), (pi, .inr (4, [.int 0, .ref e0.1, .int 0]))] [.ref pa, .int a1, .int a2] (fun v w t => v = some (.int 0) ∧ w = [(pa, .inr (16, [.int 1, .ref pr, .ref pp, .ref pi, .ref pl, .ref pf, .ref pm, .ref ps, .ref pe, .int 0, .int 0]))] ∧ t = []) (fun _ => False) := by
  refine k_of (cc := cX11_lock) (maxL := 4) (ret := (some .boolean)) (by decide) rfl (Nat.le_of_ble_eq_true rfl) ?_
  intro p e s m args below meth c A ls hx hb hr hts hown hlocks hml hex hh hl
  have hown : s.vm.findClass RX11 = some m.cls := hown
  have hl : lv_has ls 4 [(0, .ref pa), (1, .int a1), (2, .int a2)] := hl
  refine lv_aload_n hx hb dX11_lock_0 rfl (lv_at hl 0 rfl) ?_
  refine lv_iload_n hx hb dX11_lock_1 rfl (lv_at hl 1 rfl) ?_
  refine k_callV (C := RX11) (T := TX11) (N := 11) (ci := 16) (q0 := 0) (wr := []) (rest := []) (own := RX11) ⟨hx, hb, hml, hown, hts⟩ (c_X11_noItem l hst D e0 pa pt pr pp pi pl pf pm ps pe a1 ) (cwV 1 hts gi_c_X11_lock_0 rfl rfl rfl (by decide +kernel) ⟨Nat.le_of_ble_eq_true rfl, Nat.le_of_ble_eq_true rfl⟩) hh rfl rfl [0, 1] [] [] rfl rfl rfl rfl (by decide) rfl rfl hl rfl (Nat.le_of_ble_eq_true rfl) dX11_lock_2 ⟨Nat.le_of_ble_eq_true rfl, (Nat.le_of_ble_eq_true rfl)⟩ (fun _ _ _ _ _ h => h.elim) (fun v w ty1 H locs hp hh => ?_)
  obtain ⟨rfl, rfl, rfl⟩ := hp
  have hh : kH D kStr e0 A s H [(pa, .inr (16, [.int 1, .ref pr, .ref pp, .ref pi, .ref pl, .ref pf, .ref pm, .ref ps, .ref pe, .int 0, .int 0]))] [] _ := hh
  refine W.eq (g2 := F0 m 5 ls [.int 1]) (by first | rfl | decide) ?_
  refine lv_if_eq (tgt := 10) hx hb dX11_lock_5 (by decide) (fun c_5 => absurd c_5 (by decide)) (fun _ => ?_)
  refine lv_iconst (v := 0) hx hb dX11_lock_8 (by decide) ?_
  exact k_endz (ty := .boolean) (by decide) hx hb hr hlocks hh ⟨rfl, rfl, rfl⟩ [0] [] rfl rfl rfl (Nat.le_of_ble_eq_true rfl) (Nat.le_of_ble_eq_true rfl) dX11_lock_9
def wo_c_X11_replace : List Cond := [Cond.fieldLink RX11 28 "SegueworksModel" "items" "Ljava/util/ArrayList;", Cond.fieldLink RX11 46 "SegueworksModel" "thrown" "I"]
def wk_c_X11_replace : List Cond := Cond.code yX11_replace cX11_replace 4 (some .int) :: (wo_c_X11_replace ++ ((u_ws RX11 TX11 11) ++ ((wsV RX11 50 RJx4a65c yJx4a65c_size_8abf5 wk_c_size) ++ (va_wsS RX11 54 yX11_in wk_c_X11_in_f))))
theorem wo_c_X11_replace_in : ∀ w ∈ wo_c_X11_replace, w ∈ wk_c_X11_replace := fun w h => List.mem_cons_of_mem _ (List.mem_append_left _ h)
theorem ws_c_X11_replace_0 : ∀ w ∈ u_ws RX11 TX11 11, w ∈ wk_c_X11_replace := fun w h => List.mem_cons_of_mem _ (List.mem_append_right _ (List.mem_append_left _ h))
theorem gi_c_X11_replace_1 : GoodIn wk_c_X11_replace (wsV RX11 50 RJx4a65c yJx4a65c_size_8abf5 wk_c_size) := fun w h => ⟨List.mem_cons_of_mem _ (List.mem_append_right _ (List.mem_append_right _ (List.mem_append_left _ h))), good_of_word (kg_V gk_c_size w h)⟩
theorem gi_c_X11_replace_2 : GoodIn wk_c_X11_replace (va_wsS RX11 54 yX11_in wk_c_X11_in_f) := fun w h => ⟨List.mem_cons_of_mem _ (List.mem_append_right _ (List.mem_append_right _ (List.mem_append_right _ h))), good_of_word (kg_S gk_c_X11_in_f w h)⟩
theorem gk_c_X11_replace : ∀ w ∈ wk_c_X11_replace, goodWord w = true := List.forall_mem_cons.mpr ⟨rfl, (List.forall_mem_append.mpr ⟨(show ∀ w ∈ wo_c_X11_replace, goodWord w = true by decide +kernel), (List.forall_mem_append.mpr ⟨(show ∀ w ∈ u_ws RX11 TX11 11, goodWord w = true by decide +kernel), (List.forall_mem_append.mpr ⟨(kg_V gk_c_size), (kg_S gk_c_X11_in_f)⟩)⟩)⟩)⟩
set_option maxHeartbeats 4000000 in
set_option maxRecDepth 100000 in
theorem c_X11_replace (l : Launch) (hst : l.stackTraces = false) (D : va_G) (e0 : kE) (pa : Nat) (pt : Int32) (pr : Nat) (pp : Nat) (pi : Nat) (pl : Nat) (pf : Nat) (pm : Nat) (ps : Nat) (pe : Nat) (a1 : Int32) (a2 : Int32)  : kM l yX11_replace wk_c_X11_replace 1 25 0 0 D kStr e0 [] [(pa, .inr (16, [.int pt, .ref pr, .ref pp, .ref pi, .ref pl, .ref pf, .ref pm, .ref ps, .ref pe, .int 0, .int 0])), (pi, .inr (4, [.int 0, .ref e0.1, .int 0]))] [.ref pa, .int a1, .int a2] (fun v w t => v = some (.int 0) ∧ w = [(pa, .inr (16, [.int 1, .ref pr, .ref pp, .ref pi, .ref pl, .ref pf, .ref pm, .ref ps, .ref pe, .int 0, .int 0]))] ∧ t = []) (fun _ => False) := by
  refine k_of (cc := cX11_replace) (maxL := 4) (ret := (some .int)) (by decide) rfl (Nat.le_of_ble_eq_true rfl) ?_
  intro p e s m args below meth c A ls hx hb hr hts hown hlocks hml hex hh hl
  have hown : s.vm.findClass RX11 = some m.cls := hown
  have hl : lv_has ls 4 [(0, .ref pa), (1, .int a1), (2, .int a2)] := hl
  refine lv_aload_n hx hb dX11_replace_0 rfl (lv_at hl 0 rfl) ?_
  refine lv_iload_n hx hb dX11_replace_1 rfl (lv_at hl 1 rfl) ?_
  refine lv_i2l (v := (Int32.toInt64 a1)) hx hb dX11_replace_2 rfl ?_
  refine lv_lconst (v := 0) hx hb dX11_replace_3 (by decide) ?_
  refine lv_aload_n hx hb dX11_replace_4 rfl (lv_at hl 0 rfl) ?_
  refine k_get (C := RX11) (T := TX11) (N := 11) (ci := 16) (v := .ref pi) hx hb hts ws_c_X11_replace_0 hown hh 0 rfl rfl 3 (by decide) (hts _ (wo_c_X11_replace_in _ (List.mem_of_getElem? (i := 0) rfl))) rfl dX11_replace_5 ?_
  refine k_callV (C := RJx4a65c) (T := TJx4a65c) (N := 3) (ci := 4) (q0 := 1) (wr := [(pa, .inr (16, [.int pt, .ref pr, .ref pp, .ref pi, .ref pl, .ref pf, .ref pm, .ref ps, .ref pe, .int 0, .int 0]))]) (rest := [.long 0, .long (Int32.toInt64 a1), .ref pa]) (own := RX11) ⟨hx, hb, hml, hown, hts⟩ (c_size l hst D e0 pi 0 (.ref e0.1) 0 ) (cwV 0 hts gi_c_X11_replace_1 rfl rfl rfl (by decide +kernel) ⟨Nat.le_of_ble_eq_true rfl, Nat.le_of_ble_eq_true rfl⟩) hh rfl rfl [1] [0] [] rfl rfl rfl rfl (by decide) rfl rfl hl rfl (Nat.le_of_ble_eq_true rfl) dX11_replace_8 ⟨Nat.le_of_ble_eq_true rfl, (Nat.le_of_ble_eq_true rfl)⟩ (fun _ _ _ _ _ h => h.elim) (fun v w ty1 H locs hp hh => ?_)
  obtain ⟨rfl, rfl, rfl⟩ := hp
  have hh : kH D kStr e0 A s H [(pa, .inr (16, [.int pt, .ref pr, .ref pp, .ref pi, .ref pl, .ref pf, .ref pm, .ref ps, .ref pe, .int 0, .int 0])), (pi, .inr (4, [.int 0, .ref e0.1, .int 0]))] [] _ := hh
  refine W.eq (g2 := F0 m 11 ls [.int 0, .long 0, .long (Int32.toInt64 a1), .ref pa]) (by first | rfl | decide) ?_
  refine lv_iconst (v := 1) hx hb dX11_replace_11 (by decide) ?_
  refine lv_isub hx hb dX11_replace_12 ?_
  refine W.eq (g2 := F0 m 13 ls [.int (-1), .long 0, .long (Int32.toInt64 a1), .ref pa]) (by first | rfl | decide) ?_
  refine lv_i2l (v := (-1)) hx hb dX11_replace_13 (by decide) ?_
  refine k_callS (wr := [(pa, .inr (16, [.int pt, .ref pr, .ref pp, .ref pi, .ref pl, .ref pf, .ref pm, .ref ps, .ref pe, .int 0, .int 0])), (pi, .inr (4, [.int 0, .ref e0.1, .int 0]))]) (rest := [.ref pa]) (own := RX11) ⟨hx, hb, hml, hown, hts⟩ (c_X11_in_f l hst D e0 ((Int32.toInt64 a1)) 0 (-1) (k_empty _)) (va_cwS 3 hts gi_c_X11_replace_2 rfl rfl rfl (by decide +kernel) ⟨Nat.le_of_ble_eq_true rfl, Nat.le_of_ble_eq_true rfl⟩) hh [] [0, 1] [] rfl rfl rfl rfl (by decide) rfl rfl hl rfl (Nat.le_of_ble_eq_true rfl) dX11_replace_14 ⟨Nat.le_of_ble_eq_true rfl, (Nat.le_of_ble_eq_true rfl)⟩ (fun _ _ _ _ _ h => h.elim) (fun v w ty1 H locs hp hh => ?_)
  obtain ⟨rfl, rfl, rfl⟩ := hp
  have hh : kH D kStr e0 A s H [(pa, .inr (16, [.int pt, .ref pr, .ref pp, .ref pi, .ref pl, .ref pf, .ref pm, .ref ps, .ref pe, .int 0, .int 0])), (pi, .inr (4, [.int 0, .ref e0.1, .int 0]))] [] _ := hh
  refine W.eq (g2 := F0 m 17 ls [.int 0, .ref pa]) (by first | rfl | decide) ?_
  refine lv_if_eq (tgt := 43) hx hb dX11_replace_17 (by decide) (fun _ => ?_) (fun c_17 => absurd (by decide) c_17)
  refine lv_iconst (v := 1) hx hb dX11_replace_43 (by decide) ?_
  refine k_put (C := RX11) (T := TX11) (N := 11) (ci := 16) (v := .int 1) (ws' := [(pa, .inr (16, [.int 1, .ref pr, .ref pp, .ref pi, .ref pl, .ref pf, .ref pm, .ref ps, .ref pe, .int 0, .int 0])), (pi, .inr (4, [.int 0, .ref e0.1, .int 0]))]) hx hb hts ws_c_X11_replace_0 tyX11 tyX11_ok nmX11 hown hh 0 rfl rfl 0 (by decide) (hts _ (wo_c_X11_replace_in _ (List.mem_of_getElem? (i := 1) rfl))) rfl rfl rfl (Nat.le_of_ble_eq_true rfl) dX11_replace_44 rfl (fun H locs hh => ?_)
  refine lv_aload_n hx hb dX11_replace_47 rfl (lv_at hl 0 rfl) ?_
  refine k_get (C := RX11) (T := TX11) (N := 11) (ci := 16) (v := .int 1) hx hb hts ws_c_X11_replace_0 hown hh 0 rfl rfl 0 (by decide) (hts _ (wo_c_X11_replace_in _ (List.mem_of_getElem? (i := 1) rfl))) rfl dX11_replace_48 ?_
  refine lv_if_le (tgt := 56) hx hb dX11_replace_51 (by decide) (fun c_51 => absurd c_51 (by decide)) (fun _ => ?_)
  refine lv_iconst (v := 0) hx hb dX11_replace_54 (by decide) ?_
  exact k_endi hx hb hr hlocks hh ⟨rfl, rfl, rfl⟩ [0] [] rfl rfl rfl (Nat.le_of_ble_eq_true rfl) (Nat.le_of_ble_eq_true rfl) dX11_replace_55
def wo_c_X11_startOf : List Cond := []
def wk_c_X11_startOf : List Cond := Cond.code yX11_startOf cX11_startOf 2 (some .int) :: (wo_c_X11_startOf ++ (wsV RX11 168 RX11 yX11_noItem wk_c_X11_noItem))
theorem wo_c_X11_startOf_in : ∀ w ∈ wo_c_X11_startOf, w ∈ wk_c_X11_startOf := fun w h => List.mem_cons_of_mem _ (List.mem_append_left _ h)
theorem gi_c_X11_startOf_0 : GoodIn wk_c_X11_startOf (wsV RX11 168 RX11 yX11_noItem wk_c_X11_noItem) := fun w h => ⟨List.mem_cons_of_mem _ (List.mem_append_right _ h), good_of_word (kg_V gk_c_X11_noItem w h)⟩
theorem gk_c_X11_startOf : ∀ w ∈ wk_c_X11_startOf, goodWord w = true := List.forall_mem_cons.mpr ⟨rfl, (List.forall_mem_append.mpr ⟨(show ∀ w ∈ wo_c_X11_startOf, goodWord w = true by decide +kernel), (kg_V gk_c_X11_noItem)⟩)⟩
set_option maxHeartbeats 4000000 in
set_option maxRecDepth 100000 in
theorem c_X11_startOf (l : Launch) (hst : l.stackTraces = false) (D : va_G) (e0 : kE) (pa : Nat) (pt : Int32) (pr : Nat) (pp : Nat) (pi : Nat) (pl : Nat) (pf : Nat) (pm : Nat) (ps : Nat) (pe : Nat) (a1 : Int32)  : kM l yX11_startOf wk_c_X11_startOf 2 46 0 0 D kStr e0 [] [(pa, .inr (16, [.int pt, .ref pr, .ref pp, .ref pi, .ref pl, .ref pf, .ref pm, .ref ps, .ref pe, .int 0, .int 0])), (pi, .inr (4, [.int 0, .ref e0.1, .int 0]))] [.ref pa, .int a1] (fun v w t => v = some (.int 0) ∧ w = [(pa, .inr (16, [.int 1, .ref pr, .ref pp, .ref pi, .ref pl, .ref pf, .ref pm, .ref ps, .ref pe, .int 0, .int 0]))] ∧ t = []) (fun _ => False) := by
  refine k_of (cc := cX11_startOf) (maxL := 2) (ret := (some .int)) (by decide) rfl (Nat.le_of_ble_eq_true rfl) ?_
  intro p e s m args below meth c A ls hx hb hr hts hown hlocks hml hex hh hl
  have hown : s.vm.findClass RX11 = some m.cls := hown
  have hl : lv_has ls 2 [(0, .ref pa), (1, .int a1)] := hl
  refine lv_aload_n hx hb dX11_startOf_0 rfl (lv_at hl 0 rfl) ?_
  refine lv_iload_n hx hb dX11_startOf_1 rfl (lv_at hl 1 rfl) ?_
  refine k_callV (C := RX11) (T := TX11) (N := 11) (ci := 16) (q0 := 0) (wr := []) (rest := []) (own := RX11) ⟨hx, hb, hml, hown, hts⟩ (c_X11_noItem l hst D e0 pa pt pr pp pi pl pf pm ps pe a1 ) (cwV 1 hts gi_c_X11_startOf_0 rfl rfl rfl (by decide +kernel) ⟨Nat.le_of_ble_eq_true rfl, Nat.le_of_ble_eq_true rfl⟩) hh rfl rfl [0, 1] [] [] rfl rfl rfl rfl (by decide) rfl rfl hl rfl (Nat.le_of_ble_eq_true rfl) dX11_startOf_2 ⟨Nat.le_of_ble_eq_true rfl, (Nat.le_of_ble_eq_true rfl)⟩ (fun _ _ _ _ _ h => h.elim) (fun v w ty1 H locs hp hh => ?_)
  obtain ⟨rfl, rfl, rfl⟩ := hp
  have hh : kH D kStr e0 A s H [(pa, .inr (16, [.int 1, .ref pr, .ref pp, .ref pi, .ref pl, .ref pf, .ref pm, .ref ps, .ref pe, .int 0, .int 0]))] [] _ := hh
  refine W.eq (g2 := F0 m 5 ls [.int 1]) (by first | rfl | decide) ?_
  refine lv_if_eq (tgt := 12) hx hb dX11_startOf_5 (by decide) (fun c_5 => absurd c_5 (by decide)) (fun _ => ?_)
  refine lv_iconst (v := 0) hx hb dX11_startOf_8 (by decide) ?_
  refine lv_goto (tgt := 34) hx hb dX11_startOf_9 (by decide) ?_
  exact k_endi hx hb hr hlocks hh ⟨rfl, rfl, rfl⟩ [0] [] rfl rfl rfl (Nat.le_of_ble_eq_true rfl) (Nat.le_of_ble_eq_true rfl) dX11_startOf_34
def wo_c_X11_sideOf : List Cond := []
def wk_c_X11_sideOf : List Cond := Cond.code yX11_sideOf cX11_sideOf 4 (some .int) :: (wo_c_X11_sideOf ++ (wsV RX11 168 RX11 yX11_noItem wk_c_X11_noItem))
theorem wo_c_X11_sideOf_in : ∀ w ∈ wo_c_X11_sideOf, w ∈ wk_c_X11_sideOf := fun w h => List.mem_cons_of_mem _ (List.mem_append_left _ h)
theorem gi_c_X11_sideOf_0 : GoodIn wk_c_X11_sideOf (wsV RX11 168 RX11 yX11_noItem wk_c_X11_noItem) := fun w h => ⟨List.mem_cons_of_mem _ (List.mem_append_right _ h), good_of_word (kg_V gk_c_X11_noItem w h)⟩
theorem gk_c_X11_sideOf : ∀ w ∈ wk_c_X11_sideOf, goodWord w = true := List.forall_mem_cons.mpr ⟨rfl, (List.forall_mem_append.mpr ⟨(show ∀ w ∈ wo_c_X11_sideOf, goodWord w = true by decide +kernel), (kg_V gk_c_X11_noItem)⟩)⟩
set_option maxHeartbeats 4000000 in
set_option maxRecDepth 100000 in
theorem c_X11_sideOf (l : Launch) (hst : l.stackTraces = false) (D : va_G) (e0 : kE) (pa : Nat) (pt : Int32) (pr : Nat) (pp : Nat) (pi : Nat) (pl : Nat) (pf : Nat) (pm : Nat) (ps : Nat) (pe : Nat) (a1 : Int32) (a2 : Int32)  : kM l yX11_sideOf wk_c_X11_sideOf 2 46 0 0 D kStr e0 [] [(pa, .inr (16, [.int pt, .ref pr, .ref pp, .ref pi, .ref pl, .ref pf, .ref pm, .ref ps, .ref pe, .int 0, .int 0])), (pi, .inr (4, [.int 0, .ref e0.1, .int 0]))] [.ref pa, .int a1, .int a2] (fun v w t => v = some (.int 0) ∧ w = [(pa, .inr (16, [.int 1, .ref pr, .ref pp, .ref pi, .ref pl, .ref pf, .ref pm, .ref ps, .ref pe, .int 0, .int 0]))] ∧ t = []) (fun _ => False) := by
  refine k_of (cc := cX11_sideOf) (maxL := 4) (ret := (some .int)) (by decide) rfl (Nat.le_of_ble_eq_true rfl) ?_
  intro p e s m args below meth c A ls hx hb hr hts hown hlocks hml hex hh hl
  have hown : s.vm.findClass RX11 = some m.cls := hown
  have hl : lv_has ls 4 [(0, .ref pa), (1, .int a1), (2, .int a2)] := hl
  refine lv_aload_n hx hb dX11_sideOf_0 rfl (lv_at hl 0 rfl) ?_
  refine lv_iload_n hx hb dX11_sideOf_1 rfl (lv_at hl 1 rfl) ?_
  refine k_callV (C := RX11) (T := TX11) (N := 11) (ci := 16) (q0 := 0) (wr := []) (rest := []) (own := RX11) ⟨hx, hb, hml, hown, hts⟩ (c_X11_noItem l hst D e0 pa pt pr pp pi pl pf pm ps pe a1 ) (cwV 1 hts gi_c_X11_sideOf_0 rfl rfl rfl (by decide +kernel) ⟨Nat.le_of_ble_eq_true rfl, Nat.le_of_ble_eq_true rfl⟩) hh rfl rfl [0, 1] [] [] rfl rfl rfl rfl (by decide) rfl rfl hl rfl (Nat.le_of_ble_eq_true rfl) dX11_sideOf_2 ⟨Nat.le_of_ble_eq_true rfl, (Nat.le_of_ble_eq_true rfl)⟩ (fun _ _ _ _ _ h => h.elim) (fun v w ty1 H locs hp hh => ?_)
  obtain ⟨rfl, rfl, rfl⟩ := hp
  have hh : kH D kStr e0 A s H [(pa, .inr (16, [.int 1, .ref pr, .ref pp, .ref pi, .ref pl, .ref pf, .ref pm, .ref ps, .ref pe, .int 0, .int 0]))] [] _ := hh
  refine W.eq (g2 := F0 m 5 ls [.int 1]) (by first | rfl | decide) ?_
  refine lv_if_ne (tgt := 17) hx hb dX11_sideOf_5 (by decide) (fun _ => ?_) (fun c_5 => absurd c_5 (by decide))
  refine lv_iconst (v := 0) hx hb dX11_sideOf_17 (by decide) ?_
  exact k_endi hx hb hr hlocks hh ⟨rfl, rfl, rfl⟩ [0] [] rfl rfl rfl (Nat.le_of_ble_eq_true rfl) (Nat.le_of_ble_eq_true rfl) dX11_sideOf_18
def wo_c_X11_split : List Cond := []
def wk_c_X11_split : List Cond := Cond.code yX11_split cX11_split 6 (some .int) :: (wo_c_X11_split ++ (wsV RX11 168 RX11 yX11_noItem wk_c_X11_noItem))
theorem wo_c_X11_split_in : ∀ w ∈ wo_c_X11_split, w ∈ wk_c_X11_split := fun w h => List.mem_cons_of_mem _ (List.mem_append_left _ h)
theorem gi_c_X11_split_0 : GoodIn wk_c_X11_split (wsV RX11 168 RX11 yX11_noItem wk_c_X11_noItem) := fun w h => ⟨List.mem_cons_of_mem _ (List.mem_append_right _ h), good_of_word (kg_V gk_c_X11_noItem w h)⟩
theorem gk_c_X11_split : ∀ w ∈ wk_c_X11_split, goodWord w = true := List.forall_mem_cons.mpr ⟨rfl, (List.forall_mem_append.mpr ⟨(show ∀ w ∈ wo_c_X11_split, goodWord w = true by decide +kernel), (kg_V gk_c_X11_noItem)⟩)⟩
set_option maxHeartbeats 4000000 in
set_option maxRecDepth 100000 in
theorem c_X11_split (l : Launch) (hst : l.stackTraces = false) (D : va_G) (e0 : kE) (pa : Nat) (pt : Int32) (pr : Nat) (pp : Nat) (pi : Nat) (pl : Nat) (pf : Nat) (pm : Nat) (ps : Nat) (pe : Nat) (a1 : Int32) (a2 : Int32) (a3 : Int32)  : kM l yX11_split wk_c_X11_split 2 46 0 0 D kStr e0 [] [(pa, .inr (16, [.int pt, .ref pr, .ref pp, .ref pi, .ref pl, .ref pf, .ref pm, .ref ps, .ref pe, .int 0, .int 0])), (pi, .inr (4, [.int 0, .ref e0.1, .int 0]))] [.ref pa, .int a1, .int a2, .int a3] (fun v w t => v = some (.int 0) ∧ w = [(pa, .inr (16, [.int 1, .ref pr, .ref pp, .ref pi, .ref pl, .ref pf, .ref pm, .ref ps, .ref pe, .int 0, .int 0]))] ∧ t = []) (fun _ => False) := by
  refine k_of (cc := cX11_split) (maxL := 6) (ret := (some .int)) (by decide) rfl (Nat.le_of_ble_eq_true rfl) ?_
  intro p e s m args below meth c A ls hx hb hr hts hown hlocks hml hex hh hl
  have hown : s.vm.findClass RX11 = some m.cls := hown
  have hl : lv_has ls 6 [(0, .ref pa), (1, .int a1), (2, .int a2), (3, .int a3)] := hl
  refine lv_aload_n hx hb dX11_split_0 rfl (lv_at hl 0 rfl) ?_
  refine lv_iload_n hx hb dX11_split_1 rfl (lv_at hl 1 rfl) ?_
  refine k_callV (C := RX11) (T := TX11) (N := 11) (ci := 16) (q0 := 0) (wr := []) (rest := []) (own := RX11) ⟨hx, hb, hml, hown, hts⟩ (c_X11_noItem l hst D e0 pa pt pr pp pi pl pf pm ps pe a1 ) (cwV 1 hts gi_c_X11_split_0 rfl rfl rfl (by decide +kernel) ⟨Nat.le_of_ble_eq_true rfl, Nat.le_of_ble_eq_true rfl⟩) hh rfl rfl [0, 1] [] [] rfl rfl rfl rfl (by decide) rfl rfl hl rfl (Nat.le_of_ble_eq_true rfl) dX11_split_2 ⟨Nat.le_of_ble_eq_true rfl, (Nat.le_of_ble_eq_true rfl)⟩ (fun _ _ _ _ _ h => h.elim) (fun v w ty1 H locs hp hh => ?_)
  obtain ⟨rfl, rfl, rfl⟩ := hp
  have hh : kH D kStr e0 A s H [(pa, .inr (16, [.int 1, .ref pr, .ref pp, .ref pi, .ref pl, .ref pf, .ref pm, .ref ps, .ref pe, .int 0, .int 0]))] [] _ := hh
  refine W.eq (g2 := F0 m 5 ls [.int 1]) (by first | rfl | decide) ?_
  refine lv_if_eq (tgt := 10) hx hb dX11_split_5 (by decide) (fun c_5 => absurd c_5 (by decide)) (fun _ => ?_)
  refine lv_iconst (v := 0) hx hb dX11_split_8 (by decide) ?_
  exact k_endi hx hb hr hlocks hh ⟨rfl, rfl, rfl⟩ [0] [] rfl rfl rfl (Nat.le_of_ble_eq_true rfl) (Nat.le_of_ble_eq_true rfl) dX11_split_9
def wo_c_X11_play : List Cond := []
def wk_c_X11_play : List Cond := Cond.code yX11_play cX11_play 3 (some .int) :: (wo_c_X11_play ++ (wsV RX11 168 RX11 yX11_noItem wk_c_X11_noItem))
theorem wo_c_X11_play_in : ∀ w ∈ wo_c_X11_play, w ∈ wk_c_X11_play := fun w h => List.mem_cons_of_mem _ (List.mem_append_left _ h)
theorem gi_c_X11_play_0 : GoodIn wk_c_X11_play (wsV RX11 168 RX11 yX11_noItem wk_c_X11_noItem) := fun w h => ⟨List.mem_cons_of_mem _ (List.mem_append_right _ h), good_of_word (kg_V gk_c_X11_noItem w h)⟩
theorem gk_c_X11_play : ∀ w ∈ wk_c_X11_play, goodWord w = true := List.forall_mem_cons.mpr ⟨rfl, (List.forall_mem_append.mpr ⟨(show ∀ w ∈ wo_c_X11_play, goodWord w = true by decide +kernel), (kg_V gk_c_X11_noItem)⟩)⟩
set_option maxHeartbeats 4000000 in
set_option maxRecDepth 100000 in
theorem c_X11_play (l : Launch) (hst : l.stackTraces = false) (D : va_G) (e0 : kE) (pa : Nat) (pt : Int32) (pr : Nat) (pp : Nat) (pi : Nat) (pl : Nat) (pf : Nat) (pm : Nat) (ps : Nat) (pe : Nat) (a1 : Int32) (a2 : Int32)  : kM l yX11_play wk_c_X11_play 2 46 0 0 D kStr e0 [] [(pa, .inr (16, [.int pt, .ref pr, .ref pp, .ref pi, .ref pl, .ref pf, .ref pm, .ref ps, .ref pe, .int 0, .int 0])), (pi, .inr (4, [.int 0, .ref e0.1, .int 0]))] [.ref pa, .int a1, .int a2] (fun v w t => v = some (.int 0) ∧ w = [(pa, .inr (16, [.int 1, .ref pr, .ref pp, .ref pi, .ref pl, .ref pf, .ref pm, .ref ps, .ref pe, .int 0, .int 0]))] ∧ t = []) (fun _ => False) := by
  refine k_of (cc := cX11_play) (maxL := 3) (ret := (some .int)) (by decide) rfl (Nat.le_of_ble_eq_true rfl) ?_
  intro p e s m args below meth c A ls hx hb hr hts hown hlocks hml hex hh hl
  have hown : s.vm.findClass RX11 = some m.cls := hown
  have hl : lv_has ls 3 [(0, .ref pa), (1, .int a1), (2, .int a2)] := hl
  refine lv_aload_n hx hb dX11_play_0 rfl (lv_at hl 0 rfl) ?_
  refine lv_iload_n hx hb dX11_play_1 rfl (lv_at hl 1 rfl) ?_
  refine k_callV (C := RX11) (T := TX11) (N := 11) (ci := 16) (q0 := 0) (wr := []) (rest := []) (own := RX11) ⟨hx, hb, hml, hown, hts⟩ (c_X11_noItem l hst D e0 pa pt pr pp pi pl pf pm ps pe a1 ) (cwV 1 hts gi_c_X11_play_0 rfl rfl rfl (by decide +kernel) ⟨Nat.le_of_ble_eq_true rfl, Nat.le_of_ble_eq_true rfl⟩) hh rfl rfl [0, 1] [] [] rfl rfl rfl rfl (by decide) rfl rfl hl rfl (Nat.le_of_ble_eq_true rfl) dX11_play_2 ⟨Nat.le_of_ble_eq_true rfl, (Nat.le_of_ble_eq_true rfl)⟩ (fun _ _ _ _ _ h => h.elim) (fun v w ty1 H locs hp hh => ?_)
  obtain ⟨rfl, rfl, rfl⟩ := hp
  have hh : kH D kStr e0 A s H [(pa, .inr (16, [.int 1, .ref pr, .ref pp, .ref pi, .ref pl, .ref pf, .ref pm, .ref ps, .ref pe, .int 0, .int 0]))] [] _ := hh
  refine W.eq (g2 := F0 m 5 ls [.int 1]) (by first | rfl | decide) ?_
  refine lv_if_eq (tgt := 10) hx hb dX11_play_5 (by decide) (fun c_5 => absurd c_5 (by decide)) (fun _ => ?_)
  refine lv_iconst (v := 0) hx hb dX11_play_8 (by decide) ?_
  exact k_endi hx hb hr hlocks hh ⟨rfl, rfl, rfl⟩ [0] [] rfl rfl rfl (Nat.le_of_ble_eq_true rfl) (Nat.le_of_ble_eq_true rfl) dX11_play_9
def wo_c_X11_editionAt : List Cond := []
def wk_c_X11_editionAt : List Cond := Cond.code yX11_editionAt cX11_editionAt 4 (some .int) :: (wo_c_X11_editionAt ++ (wsV RX11 231 RX11 yX11_noEdition wk_c_X11_noEdition))
theorem wo_c_X11_editionAt_in : ∀ w ∈ wo_c_X11_editionAt, w ∈ wk_c_X11_editionAt := fun w h => List.mem_cons_of_mem _ (List.mem_append_left _ h)
theorem gi_c_X11_editionAt_0 : GoodIn wk_c_X11_editionAt (wsV RX11 231 RX11 yX11_noEdition wk_c_X11_noEdition) := fun w h => ⟨List.mem_cons_of_mem _ (List.mem_append_right _ h), good_of_word (kg_V gk_c_X11_noEdition w h)⟩
theorem gk_c_X11_editionAt : ∀ w ∈ wk_c_X11_editionAt, goodWord w = true := List.forall_mem_cons.mpr ⟨rfl, (List.forall_mem_append.mpr ⟨(show ∀ w ∈ wo_c_X11_editionAt, goodWord w = true by decide +kernel), (kg_V gk_c_X11_noEdition)⟩)⟩
set_option maxHeartbeats 4000000 in
set_option maxRecDepth 100000 in
theorem c_X11_editionAt (l : Launch) (hst : l.stackTraces = false) (D : va_G) (e0 : kE) (pa : Nat) (pt : Int32) (pr : Nat) (pp : Nat) (pi : Nat) (pl : Nat) (pf : Nat) (pm : Nat) (ps : Nat) (pe : Nat) (a1 : Int32) (a2 : Int32)  : kM l yX11_editionAt wk_c_X11_editionAt 2 46 0 0 D kStr e0 [] [(pa, .inr (16, [.int pt, .ref pr, .ref pp, .ref pi, .ref pl, .ref pf, .ref pm, .ref ps, .ref pe, .int 0, .int 0])), (pe, .inr (4, [.int 0, .ref e0.1, .int 0]))] [.ref pa, .int a1, .int a2] (fun v w t => v = some (.int 0) ∧ w = [(pa, .inr (16, [.int 1, .ref pr, .ref pp, .ref pi, .ref pl, .ref pf, .ref pm, .ref ps, .ref pe, .int 0, .int 0]))] ∧ t = []) (fun _ => False) := by
  refine k_of (cc := cX11_editionAt) (maxL := 4) (ret := (some .int)) (by decide) rfl (Nat.le_of_ble_eq_true rfl) ?_
  intro p e s m args below meth c A ls hx hb hr hts hown hlocks hml hex hh hl
  have hown : s.vm.findClass RX11 = some m.cls := hown
  have hl : lv_has ls 4 [(0, .ref pa), (1, .int a1), (2, .int a2)] := hl
  refine lv_aload_n hx hb dX11_editionAt_0 rfl (lv_at hl 0 rfl) ?_
  refine lv_iload_n hx hb dX11_editionAt_1 rfl (lv_at hl 1 rfl) ?_
  refine k_callV (C := RX11) (T := TX11) (N := 11) (ci := 16) (q0 := 0) (wr := []) (rest := []) (own := RX11) ⟨hx, hb, hml, hown, hts⟩ (c_X11_noEdition l hst D e0 pa pt pr pp pi pl pf pm ps pe a1 ) (cwV 1 hts gi_c_X11_editionAt_0 rfl rfl rfl (by decide +kernel) ⟨Nat.le_of_ble_eq_true rfl, Nat.le_of_ble_eq_true rfl⟩) hh rfl rfl [0, 1] [] [] rfl rfl rfl rfl (by decide) rfl rfl hl rfl (Nat.le_of_ble_eq_true rfl) dX11_editionAt_2 ⟨Nat.le_of_ble_eq_true rfl, (Nat.le_of_ble_eq_true rfl)⟩ (fun _ _ _ _ _ h => h.elim) (fun v w ty1 H locs hp hh => ?_)
  obtain ⟨rfl, rfl, rfl⟩ := hp
  have hh : kH D kStr e0 A s H [(pa, .inr (16, [.int 1, .ref pr, .ref pp, .ref pi, .ref pl, .ref pf, .ref pm, .ref ps, .ref pe, .int 0, .int 0]))] [] _ := hh
  refine W.eq (g2 := F0 m 5 ls [.int 1]) (by first | rfl | decide) ?_
  refine lv_if_eq (tgt := 10) hx hb dX11_editionAt_5 (by decide) (fun c_5 => absurd c_5 (by decide)) (fun _ => ?_)
  refine lv_iconst (v := 0) hx hb dX11_editionAt_8 (by decide) ?_
  exact k_endi hx hb hr hlocks hh ⟨rfl, rfl, rfl⟩ [0] [] rfl rfl rfl (Nat.le_of_ble_eq_true rfl) (Nat.le_of_ble_eq_true rfl) dX11_editionAt_9
def wo_c_X11_sum : List Cond := []
def wk_c_X11_sum : List Cond := Cond.code yX11_sum cX11_sum 3 (some .int) :: (wo_c_X11_sum ++ (wsV RX11 231 RX11 yX11_noEdition wk_c_X11_noEdition))
theorem wo_c_X11_sum_in : ∀ w ∈ wo_c_X11_sum, w ∈ wk_c_X11_sum := fun w h => List.mem_cons_of_mem _ (List.mem_append_left _ h)
theorem gi_c_X11_sum_0 : GoodIn wk_c_X11_sum (wsV RX11 231 RX11 yX11_noEdition wk_c_X11_noEdition) := fun w h => ⟨List.mem_cons_of_mem _ (List.mem_append_right _ h), good_of_word (kg_V gk_c_X11_noEdition w h)⟩
theorem gk_c_X11_sum : ∀ w ∈ wk_c_X11_sum, goodWord w = true := List.forall_mem_cons.mpr ⟨rfl, (List.forall_mem_append.mpr ⟨(show ∀ w ∈ wo_c_X11_sum, goodWord w = true by decide +kernel), (kg_V gk_c_X11_noEdition)⟩)⟩
set_option maxHeartbeats 4000000 in
set_option maxRecDepth 100000 in
theorem c_X11_sum (l : Launch) (hst : l.stackTraces = false) (D : va_G) (e0 : kE) (pa : Nat) (pt : Int32) (pr : Nat) (pp : Nat) (pi : Nat) (pl : Nat) (pf : Nat) (pm : Nat) (ps : Nat) (pe : Nat) (a1 : Int32) (a2 : Int32)  : kM l yX11_sum wk_c_X11_sum 2 46 0 0 D kStr e0 [] [(pa, .inr (16, [.int pt, .ref pr, .ref pp, .ref pi, .ref pl, .ref pf, .ref pm, .ref ps, .ref pe, .int 0, .int 0])), (pe, .inr (4, [.int 0, .ref e0.1, .int 0]))] [.ref pa, .int a1, .int a2] (fun v w t => v = some (.int 0) ∧ w = [(pa, .inr (16, [.int 1, .ref pr, .ref pp, .ref pi, .ref pl, .ref pf, .ref pm, .ref ps, .ref pe, .int 0, .int 0]))] ∧ t = []) (fun _ => False) := by
  refine k_of (cc := cX11_sum) (maxL := 3) (ret := (some .int)) (by decide) rfl (Nat.le_of_ble_eq_true rfl) ?_
  intro p e s m args below meth c A ls hx hb hr hts hown hlocks hml hex hh hl
  have hown : s.vm.findClass RX11 = some m.cls := hown
  have hl : lv_has ls 3 [(0, .ref pa), (1, .int a1), (2, .int a2)] := hl
  refine lv_aload_n hx hb dX11_sum_0 rfl (lv_at hl 0 rfl) ?_
  refine lv_iload_n hx hb dX11_sum_1 rfl (lv_at hl 1 rfl) ?_
  refine k_callV (C := RX11) (T := TX11) (N := 11) (ci := 16) (q0 := 0) (wr := []) (rest := []) (own := RX11) ⟨hx, hb, hml, hown, hts⟩ (c_X11_noEdition l hst D e0 pa pt pr pp pi pl pf pm ps pe a1 ) (cwV 1 hts gi_c_X11_sum_0 rfl rfl rfl (by decide +kernel) ⟨Nat.le_of_ble_eq_true rfl, Nat.le_of_ble_eq_true rfl⟩) hh rfl rfl [0, 1] [] [] rfl rfl rfl rfl (by decide) rfl rfl hl rfl (Nat.le_of_ble_eq_true rfl) dX11_sum_2 ⟨Nat.le_of_ble_eq_true rfl, (Nat.le_of_ble_eq_true rfl)⟩ (fun _ _ _ _ _ h => h.elim) (fun v w ty1 H locs hp hh => ?_)
  obtain ⟨rfl, rfl, rfl⟩ := hp
  have hh : kH D kStr e0 A s H [(pa, .inr (16, [.int 1, .ref pr, .ref pp, .ref pi, .ref pl, .ref pf, .ref pm, .ref ps, .ref pe, .int 0, .int 0]))] [] _ := hh
  refine W.eq (g2 := F0 m 5 ls [.int 1]) (by first | rfl | decide) ?_
  refine lv_if_eq (tgt := 10) hx hb dX11_sum_5 (by decide) (fun c_5 => absurd c_5 (by decide)) (fun _ => ?_)
  refine lv_iconst (v := 0) hx hb dX11_sum_8 (by decide) ?_
  exact k_endi hx hb hr hlocks hh ⟨rfl, rfl, rfl⟩ [0] [] rfl rfl rfl (Nat.le_of_ble_eq_true rfl) (Nat.le_of_ble_eq_true rfl) dX11_sum_9
def wo_c_X11_damage : List Cond := []
def wk_c_X11_damage : List Cond := Cond.code yX11_damage cX11_damage 7 (some .int) :: (wo_c_X11_damage ++ (wsV RX11 231 RX11 yX11_noEdition wk_c_X11_noEdition))
theorem wo_c_X11_damage_in : ∀ w ∈ wo_c_X11_damage, w ∈ wk_c_X11_damage := fun w h => List.mem_cons_of_mem _ (List.mem_append_left _ h)
theorem gi_c_X11_damage_0 : GoodIn wk_c_X11_damage (wsV RX11 231 RX11 yX11_noEdition wk_c_X11_noEdition) := fun w h => ⟨List.mem_cons_of_mem _ (List.mem_append_right _ h), good_of_word (kg_V gk_c_X11_noEdition w h)⟩
theorem gk_c_X11_damage : ∀ w ∈ wk_c_X11_damage, goodWord w = true := List.forall_mem_cons.mpr ⟨rfl, (List.forall_mem_append.mpr ⟨(show ∀ w ∈ wo_c_X11_damage, goodWord w = true by decide +kernel), (kg_V gk_c_X11_noEdition)⟩)⟩
set_option maxHeartbeats 4000000 in
set_option maxRecDepth 100000 in
theorem c_X11_damage (l : Launch) (hst : l.stackTraces = false) (D : va_G) (e0 : kE) (pa : Nat) (pt : Int32) (pr : Nat) (pp : Nat) (pi : Nat) (pl : Nat) (pf : Nat) (pm : Nat) (ps : Nat) (pe : Nat) (a1 : Int32) (a2 : Int32) (a3 : Int32)  : kM l yX11_damage wk_c_X11_damage 2 46 0 0 D kStr e0 [] [(pa, .inr (16, [.int pt, .ref pr, .ref pp, .ref pi, .ref pl, .ref pf, .ref pm, .ref ps, .ref pe, .int 0, .int 0])), (pe, .inr (4, [.int 0, .ref e0.1, .int 0]))] [.ref pa, .int a1, .int a2, .int a3] (fun v w t => v = some (.int 0) ∧ w = [(pa, .inr (16, [.int 1, .ref pr, .ref pp, .ref pi, .ref pl, .ref pf, .ref pm, .ref ps, .ref pe, .int 0, .int 0]))] ∧ t = []) (fun _ => False) := by
  refine k_of (cc := cX11_damage) (maxL := 7) (ret := (some .int)) (by decide) rfl (Nat.le_of_ble_eq_true rfl) ?_
  intro p e s m args below meth c A ls hx hb hr hts hown hlocks hml hex hh hl
  have hown : s.vm.findClass RX11 = some m.cls := hown
  have hl : lv_has ls 7 [(0, .ref pa), (1, .int a1), (2, .int a2), (3, .int a3)] := hl
  refine lv_aload_n hx hb dX11_damage_0 rfl (lv_at hl 0 rfl) ?_
  refine lv_iload_n hx hb dX11_damage_1 rfl (lv_at hl 1 rfl) ?_
  refine k_callV (C := RX11) (T := TX11) (N := 11) (ci := 16) (q0 := 0) (wr := []) (rest := []) (own := RX11) ⟨hx, hb, hml, hown, hts⟩ (c_X11_noEdition l hst D e0 pa pt pr pp pi pl pf pm ps pe a1 ) (cwV 1 hts gi_c_X11_damage_0 rfl rfl rfl (by decide +kernel) ⟨Nat.le_of_ble_eq_true rfl, Nat.le_of_ble_eq_true rfl⟩) hh rfl rfl [0, 1] [] [] rfl rfl rfl rfl (by decide) rfl rfl hl rfl (Nat.le_of_ble_eq_true rfl) dX11_damage_2 ⟨Nat.le_of_ble_eq_true rfl, (Nat.le_of_ble_eq_true rfl)⟩ (fun _ _ _ _ _ h => h.elim) (fun v w ty1 H locs hp hh => ?_)
  obtain ⟨rfl, rfl, rfl⟩ := hp
  have hh : kH D kStr e0 A s H [(pa, .inr (16, [.int 1, .ref pr, .ref pp, .ref pi, .ref pl, .ref pf, .ref pm, .ref ps, .ref pe, .int 0, .int 0]))] [] _ := hh
  refine W.eq (g2 := F0 m 5 ls [.int 1]) (by first | rfl | decide) ?_
  refine lv_if_eq (tgt := 10) hx hb dX11_damage_5 (by decide) (fun c_5 => absurd c_5 (by decide)) (fun _ => ?_)
  refine lv_iconst (v := 0) hx hb dX11_damage_8 (by decide) ?_
  exact k_endi hx hb hr hlocks hh ⟨rfl, rfl, rfl⟩ [0] [] rfl rfl rfl (Nat.le_of_ble_eq_true rfl) (Nat.le_of_ble_eq_true rfl) dX11_damage_9
def wo_c_X11_vote : List Cond := []
def wk_c_X11_vote : List Cond := Cond.code yX11_vote cX11_vote 4 (some .int) :: (wo_c_X11_vote ++ (wsV RX11 231 RX11 yX11_noEdition wk_c_X11_noEdition))
theorem wo_c_X11_vote_in : ∀ w ∈ wo_c_X11_vote, w ∈ wk_c_X11_vote := fun w h => List.mem_cons_of_mem _ (List.mem_append_left _ h)
theorem gi_c_X11_vote_0 : GoodIn wk_c_X11_vote (wsV RX11 231 RX11 yX11_noEdition wk_c_X11_noEdition) := fun w h => ⟨List.mem_cons_of_mem _ (List.mem_append_right _ h), good_of_word (kg_V gk_c_X11_noEdition w h)⟩
theorem gk_c_X11_vote : ∀ w ∈ wk_c_X11_vote, goodWord w = true := List.forall_mem_cons.mpr ⟨rfl, (List.forall_mem_append.mpr ⟨(show ∀ w ∈ wo_c_X11_vote, goodWord w = true by decide +kernel), (kg_V gk_c_X11_noEdition)⟩)⟩
set_option maxHeartbeats 4000000 in
set_option maxRecDepth 100000 in
theorem c_X11_vote (l : Launch) (hst : l.stackTraces = false) (D : va_G) (e0 : kE) (pa : Nat) (pt : Int32) (pr : Nat) (pp : Nat) (pi : Nat) (pl : Nat) (pf : Nat) (pm : Nat) (ps : Nat) (pe : Nat) (a1 : Int32) (a2 : Int32) (a3 : Int32)  : kM l yX11_vote wk_c_X11_vote 2 46 0 0 D kStr e0 [] [(pa, .inr (16, [.int pt, .ref pr, .ref pp, .ref pi, .ref pl, .ref pf, .ref pm, .ref ps, .ref pe, .int 0, .int 0])), (pe, .inr (4, [.int 0, .ref e0.1, .int 0]))] [.ref pa, .int a1, .int a2, .int a3] (fun v w t => v = some (.int 0) ∧ w = [(pa, .inr (16, [.int 1, .ref pr, .ref pp, .ref pi, .ref pl, .ref pf, .ref pm, .ref ps, .ref pe, .int 0, .int 0]))] ∧ t = []) (fun _ => False) := by
  refine k_of (cc := cX11_vote) (maxL := 4) (ret := (some .int)) (by decide) rfl (Nat.le_of_ble_eq_true rfl) ?_
  intro p e s m args below meth c A ls hx hb hr hts hown hlocks hml hex hh hl
  have hown : s.vm.findClass RX11 = some m.cls := hown
  have hl : lv_has ls 4 [(0, .ref pa), (1, .int a1), (2, .int a2), (3, .int a3)] := hl
  refine lv_aload_n hx hb dX11_vote_0 rfl (lv_at hl 0 rfl) ?_
  refine lv_iload_n hx hb dX11_vote_1 rfl (lv_at hl 1 rfl) ?_
  refine k_callV (C := RX11) (T := TX11) (N := 11) (ci := 16) (q0 := 0) (wr := []) (rest := []) (own := RX11) ⟨hx, hb, hml, hown, hts⟩ (c_X11_noEdition l hst D e0 pa pt pr pp pi pl pf pm ps pe a1 ) (cwV 1 hts gi_c_X11_vote_0 rfl rfl rfl (by decide +kernel) ⟨Nat.le_of_ble_eq_true rfl, Nat.le_of_ble_eq_true rfl⟩) hh rfl rfl [0, 1] [] [] rfl rfl rfl rfl (by decide) rfl rfl hl rfl (Nat.le_of_ble_eq_true rfl) dX11_vote_2 ⟨Nat.le_of_ble_eq_true rfl, (Nat.le_of_ble_eq_true rfl)⟩ (fun _ _ _ _ _ h => h.elim) (fun v w ty1 H locs hp hh => ?_)
  obtain ⟨rfl, rfl, rfl⟩ := hp
  have hh : kH D kStr e0 A s H [(pa, .inr (16, [.int 1, .ref pr, .ref pp, .ref pi, .ref pl, .ref pf, .ref pm, .ref ps, .ref pe, .int 0, .int 0]))] [] _ := hh
  refine W.eq (g2 := F0 m 5 ls [.int 1]) (by first | rfl | decide) ?_
  refine lv_if_eq (tgt := 10) hx hb dX11_vote_5 (by decide) (fun c_5 => absurd c_5 (by decide)) (fun _ => ?_)
  refine lv_iconst (v := 0) hx hb dX11_vote_8 (by decide) ?_
  exact k_endi hx hb hr hlocks hh ⟨rfl, rfl, rfl⟩ [0] [] rfl rfl rfl (Nat.le_of_ble_eq_true rfl) (Nat.le_of_ble_eq_true rfl) dX11_vote_9
def wo_c_X11_meanMark : List Cond := []
def wk_c_X11_meanMark : List Cond := Cond.code yX11_meanMark cX11_meanMark 3 (some .double) :: (wo_c_X11_meanMark ++ (wsV RX11 231 RX11 yX11_noEdition wk_c_X11_noEdition))
theorem wo_c_X11_meanMark_in : ∀ w ∈ wo_c_X11_meanMark, w ∈ wk_c_X11_meanMark := fun w h => List.mem_cons_of_mem _ (List.mem_append_left _ h)
theorem gi_c_X11_meanMark_0 : GoodIn wk_c_X11_meanMark (wsV RX11 231 RX11 yX11_noEdition wk_c_X11_noEdition) := fun w h => ⟨List.mem_cons_of_mem _ (List.mem_append_right _ h), good_of_word (kg_V gk_c_X11_noEdition w h)⟩
theorem gk_c_X11_meanMark : ∀ w ∈ wk_c_X11_meanMark, goodWord w = true := List.forall_mem_cons.mpr ⟨rfl, (List.forall_mem_append.mpr ⟨(show ∀ w ∈ wo_c_X11_meanMark, goodWord w = true by decide +kernel), (kg_V gk_c_X11_noEdition)⟩)⟩
set_option maxHeartbeats 4000000 in
set_option maxRecDepth 100000 in
theorem c_X11_meanMark (l : Launch) (hst : l.stackTraces = false) (D : va_G) (e0 : kE) (pa : Nat) (pt : Int32) (pr : Nat) (pp : Nat) (pi : Nat) (pl : Nat) (pf : Nat) (pm : Nat) (ps : Nat) (pe : Nat) (a1 : Int32)  : kM l yX11_meanMark wk_c_X11_meanMark 2 46 0 0 D kStr e0 [] [(pa, .inr (16, [.int pt, .ref pr, .ref pp, .ref pi, .ref pl, .ref pf, .ref pm, .ref ps, .ref pe, .int 0, .int 0])), (pe, .inr (4, [.int 0, .ref e0.1, .int 0]))] [.ref pa, .int a1] (fun v w t => v = some (.double 0) ∧ w = [(pa, .inr (16, [.int 1, .ref pr, .ref pp, .ref pi, .ref pl, .ref pf, .ref pm, .ref ps, .ref pe, .int 0, .int 0]))] ∧ t = []) (fun _ => False) := by
  refine k_of (cc := cX11_meanMark) (maxL := 3) (ret := (some .double)) (by decide) rfl (Nat.le_of_ble_eq_true rfl) ?_
  intro p e s m args below meth c A ls hx hb hr hts hown hlocks hml hex hh hl
  have hown : s.vm.findClass RX11 = some m.cls := hown
  have hl : lv_has ls 3 [(0, .ref pa), (1, .int a1)] := hl
  refine lv_aload_n hx hb dX11_meanMark_0 rfl (lv_at hl 0 rfl) ?_
  refine lv_iload_n hx hb dX11_meanMark_1 rfl (lv_at hl 1 rfl) ?_
  refine k_callV (C := RX11) (T := TX11) (N := 11) (ci := 16) (q0 := 0) (wr := []) (rest := []) (own := RX11) ⟨hx, hb, hml, hown, hts⟩ (c_X11_noEdition l hst D e0 pa pt pr pp pi pl pf pm ps pe a1 ) (cwV 1 hts gi_c_X11_meanMark_0 rfl rfl rfl (by decide +kernel) ⟨Nat.le_of_ble_eq_true rfl, Nat.le_of_ble_eq_true rfl⟩) hh rfl rfl [0, 1] [] [] rfl rfl rfl rfl (by decide) rfl rfl hl rfl (Nat.le_of_ble_eq_true rfl) dX11_meanMark_2 ⟨Nat.le_of_ble_eq_true rfl, (Nat.le_of_ble_eq_true rfl)⟩ (fun _ _ _ _ _ h => h.elim) (fun v w ty1 H locs hp hh => ?_)
  obtain ⟨rfl, rfl, rfl⟩ := hp
  have hh : kH D kStr e0 A s H [(pa, .inr (16, [.int 1, .ref pr, .ref pp, .ref pi, .ref pl, .ref pf, .ref pm, .ref ps, .ref pe, .int 0, .int 0]))] [] _ := hh
  refine W.eq (g2 := F0 m 5 ls [.int 1]) (by first | rfl | decide) ?_
  refine lv_if_eq (tgt := 10) hx hb dX11_meanMark_5 (by decide) (fun c_5 => absurd c_5 (by decide)) (fun _ => ?_)
  refine lv_dconst0 hx hb dX11_meanMark_8 ?_
  exact k_endd hx hb hr hlocks hh ⟨rfl, rfl, rfl⟩ [0] [] rfl rfl rfl (Nat.le_of_ble_eq_true rfl) (Nat.le_of_ble_eq_true rfl) dX11_meanMark_9
def wo_c_X11_match : List Cond := []
def wk_c_X11_match : List Cond := Cond.code yX11_match cX11_match 4 (some .int) :: (wo_c_X11_match ++ (wsV RX11 242 RX11 yX11_noEditions wk_c_X11_noEditions))
theorem wo_c_X11_match_in : ∀ w ∈ wo_c_X11_match, w ∈ wk_c_X11_match := fun w h => List.mem_cons_of_mem _ (List.mem_append_left _ h)
theorem gi_c_X11_match_0 : GoodIn wk_c_X11_match (wsV RX11 242 RX11 yX11_noEditions wk_c_X11_noEditions) := fun w h => ⟨List.mem_cons_of_mem _ (List.mem_append_right _ h), good_of_word (kg_V gk_c_X11_noEditions w h)⟩
theorem gk_c_X11_match : ∀ w ∈ wk_c_X11_match, goodWord w = true := List.forall_mem_cons.mpr ⟨rfl, (List.forall_mem_append.mpr ⟨(show ∀ w ∈ wo_c_X11_match, goodWord w = true by decide +kernel), (kg_V gk_c_X11_noEditions)⟩)⟩
set_option maxHeartbeats 4000000 in
set_option maxRecDepth 100000 in
theorem c_X11_match (l : Launch) (hst : l.stackTraces = false) (D : va_G) (e0 : kE) (pa : Nat) (pt : Int32) (pr : Nat) (pp : Nat) (pi : Nat) (pl : Nat) (pf : Nat) (pm : Nat) (ps : Nat) (pe : Nat) (a1 : Int32) (a2 : Int32)  : kM l yX11_match wk_c_X11_match 2 47 0 0 D kStr e0 [] [(pa, .inr (16, [.int pt, .ref pr, .ref pp, .ref pi, .ref pl, .ref pf, .ref pm, .ref ps, .ref pe, .int 0, .int 0])), (pe, .inr (4, [.int 0, .ref e0.1, .int 0]))] [.ref pa, .int a1, .int a2] (fun v w t => v = some (.int 0) ∧ w = [(pa, .inr (16, [.int 1, .ref pr, .ref pp, .ref pi, .ref pl, .ref pf, .ref pm, .ref ps, .ref pe, .int 0, .int 0]))] ∧ t = []) (fun _ => False) := by
  refine k_of (cc := cX11_match) (maxL := 4) (ret := (some .int)) (by decide) rfl (Nat.le_of_ble_eq_true rfl) ?_
  intro p e s m args below meth c A ls hx hb hr hts hown hlocks hml hex hh hl
  have hown : s.vm.findClass RX11 = some m.cls := hown
  have hl : lv_has ls 4 [(0, .ref pa), (1, .int a1), (2, .int a2)] := hl
  refine lv_aload_n hx hb dX11_match_0 rfl (lv_at hl 0 rfl) ?_
  refine lv_iload_n hx hb dX11_match_1 rfl (lv_at hl 1 rfl) ?_
  refine lv_iload_n hx hb dX11_match_2 rfl (lv_at hl 2 rfl) ?_
  refine k_callV (C := RX11) (T := TX11) (N := 11) (ci := 16) (q0 := 0) (wr := []) (rest := []) (own := RX11) ⟨hx, hb, hml, hown, hts⟩ (c_X11_noEditions l hst D e0 pa pt pr pp pi pl pf pm ps pe a1 a2 ) (cwV 2 hts gi_c_X11_match_0 rfl rfl rfl (by decide +kernel) ⟨Nat.le_of_ble_eq_true rfl, Nat.le_of_ble_eq_true rfl⟩) hh rfl rfl [0, 1] [] [] rfl rfl rfl rfl (by decide) rfl rfl hl rfl (Nat.le_of_ble_eq_true rfl) dX11_match_3 ⟨Nat.le_of_ble_eq_true rfl, (Nat.le_of_ble_eq_true rfl)⟩ (fun _ _ _ _ _ h => h.elim) (fun v w ty1 H locs hp hh => ?_)
  obtain ⟨rfl, rfl, rfl⟩ := hp
  have hh : kH D kStr e0 A s H [(pa, .inr (16, [.int 1, .ref pr, .ref pp, .ref pi, .ref pl, .ref pf, .ref pm, .ref ps, .ref pe, .int 0, .int 0]))] [] _ := hh
  refine W.eq (g2 := F0 m 6 ls [.int 1]) (by first | rfl | decide) ?_
  refine lv_if_eq (tgt := 11) hx hb dX11_match_6 (by decide) (fun c_6 => absurd c_6 (by decide)) (fun _ => ?_)
  refine lv_iconst (v := 0) hx hb dX11_match_9 (by decide) ?_
  exact k_endi hx hb hr hlocks hh ⟨rfl, rfl, rfl⟩ [0] [] rfl rfl rfl (Nat.le_of_ble_eq_true rfl) (Nat.le_of_ble_eq_true rfl) dX11_match_10
def wo_c_X11_difference : List Cond := []
def wk_c_X11_difference : List Cond := Cond.code yX11_difference cX11_difference 7 (some .char) :: (wo_c_X11_difference ++ (wsV RX11 242 RX11 yX11_noEditions wk_c_X11_noEditions))
theorem wo_c_X11_difference_in : ∀ w ∈ wo_c_X11_difference, w ∈ wk_c_X11_difference := fun w h => List.mem_cons_of_mem _ (List.mem_append_left _ h)
theorem gi_c_X11_difference_0 : GoodIn wk_c_X11_difference (wsV RX11 242 RX11 yX11_noEditions wk_c_X11_noEditions) := fun w h => ⟨List.mem_cons_of_mem _ (List.mem_append_right _ h), good_of_word (kg_V gk_c_X11_noEditions w h)⟩
theorem gk_c_X11_difference : ∀ w ∈ wk_c_X11_difference, goodWord w = true := List.forall_mem_cons.mpr ⟨rfl, (List.forall_mem_append.mpr ⟨(show ∀ w ∈ wo_c_X11_difference, goodWord w = true by decide +kernel), (kg_V gk_c_X11_noEditions)⟩)⟩
set_option maxHeartbeats 4000000 in
set_option maxRecDepth 100000 in
theorem c_X11_difference (l : Launch) (hst : l.stackTraces = false) (D : va_G) (e0 : kE) (pa : Nat) (pt : Int32) (pr : Nat) (pp : Nat) (pi : Nat) (pl : Nat) (pf : Nat) (pm : Nat) (ps : Nat) (pe : Nat) (a1 : Int32) (a2 : Int32)  : kM l yX11_difference wk_c_X11_difference 2 47 0 0 D kStr e0 [] [(pa, .inr (16, [.int pt, .ref pr, .ref pp, .ref pi, .ref pl, .ref pf, .ref pm, .ref ps, .ref pe, .int 0, .int 0])), (pe, .inr (4, [.int 0, .ref e0.1, .int 0]))] [.ref pa, .int a1, .int a2] (fun v w t => v = some (.int 32) ∧ w = [(pa, .inr (16, [.int 1, .ref pr, .ref pp, .ref pi, .ref pl, .ref pf, .ref pm, .ref ps, .ref pe, .int 0, .int 0]))] ∧ t = []) (fun _ => False) := by
  refine k_of (cc := cX11_difference) (maxL := 7) (ret := (some .char)) (by decide) rfl (Nat.le_of_ble_eq_true rfl) ?_
  intro p e s m args below meth c A ls hx hb hr hts hown hlocks hml hex hh hl
  have hown : s.vm.findClass RX11 = some m.cls := hown
  have hl : lv_has ls 7 [(0, .ref pa), (1, .int a1), (2, .int a2)] := hl
  refine lv_aload_n hx hb dX11_difference_0 rfl (lv_at hl 0 rfl) ?_
  refine lv_iload_n hx hb dX11_difference_1 rfl (lv_at hl 1 rfl) ?_
  refine lv_iload_n hx hb dX11_difference_2 rfl (lv_at hl 2 rfl) ?_
  refine k_callV (C := RX11) (T := TX11) (N := 11) (ci := 16) (q0 := 0) (wr := []) (rest := []) (own := RX11) ⟨hx, hb, hml, hown, hts⟩ (c_X11_noEditions l hst D e0 pa pt pr pp pi pl pf pm ps pe a1 a2 ) (cwV 2 hts gi_c_X11_difference_0 rfl rfl rfl (by decide +kernel) ⟨Nat.le_of_ble_eq_true rfl, Nat.le_of_ble_eq_true rfl⟩) hh rfl rfl [0, 1] [] [] rfl rfl rfl rfl (by decide) rfl rfl hl rfl (Nat.le_of_ble_eq_true rfl) dX11_difference_3 ⟨Nat.le_of_ble_eq_true rfl, (Nat.le_of_ble_eq_true rfl)⟩ (fun _ _ _ _ _ h => h.elim) (fun v w ty1 H locs hp hh => ?_)
  obtain ⟨rfl, rfl, rfl⟩ := hp
  have hh : kH D kStr e0 A s H [(pa, .inr (16, [.int 1, .ref pr, .ref pp, .ref pi, .ref pl, .ref pf, .ref pm, .ref ps, .ref pe, .int 0, .int 0]))] [] _ := hh
  refine W.eq (g2 := F0 m 6 ls [.int 1]) (by first | rfl | decide) ?_
  refine lv_if_eq (tgt := 12) hx hb dX11_difference_6 (by decide) (fun c_6 => absurd c_6 (by decide)) (fun _ => ?_)
  refine lv_bipush (v := 32) hx hb dX11_difference_9 (by decide) ?_
  exact k_endz (ty := .char) (by decide) hx hb hr hlocks hh ⟨rfl, rfl, rfl⟩ [0] [] rfl rfl rfl (Nat.le_of_ble_eq_true rfl) (Nat.le_of_ble_eq_true rfl) dX11_difference_11
def wo_c_X11_differsAt : List Cond := []
def wk_c_X11_differsAt : List Cond := Cond.code yX11_differsAt cX11_differsAt 7 (some .int) :: (wo_c_X11_differsAt ++ (wsV RX11 242 RX11 yX11_noEditions wk_c_X11_noEditions))
theorem wo_c_X11_differsAt_in : ∀ w ∈ wo_c_X11_differsAt, w ∈ wk_c_X11_differsAt := fun w h => List.mem_cons_of_mem _ (List.mem_append_left _ h)
theorem gi_c_X11_differsAt_0 : GoodIn wk_c_X11_differsAt (wsV RX11 242 RX11 yX11_noEditions wk_c_X11_noEditions) := fun w h => ⟨List.mem_cons_of_mem _ (List.mem_append_right _ h), good_of_word (kg_V gk_c_X11_noEditions w h)⟩
theorem gk_c_X11_differsAt : ∀ w ∈ wk_c_X11_differsAt, goodWord w = true := List.forall_mem_cons.mpr ⟨rfl, (List.forall_mem_append.mpr ⟨(show ∀ w ∈ wo_c_X11_differsAt, goodWord w = true by decide +kernel), (kg_V gk_c_X11_noEditions)⟩)⟩
set_option maxHeartbeats 4000000 in
set_option maxRecDepth 100000 in
theorem c_X11_differsAt (l : Launch) (hst : l.stackTraces = false) (D : va_G) (e0 : kE) (pa : Nat) (pt : Int32) (pr : Nat) (pp : Nat) (pi : Nat) (pl : Nat) (pf : Nat) (pm : Nat) (ps : Nat) (pe : Nat) (a1 : Int32) (a2 : Int32)  : kM l yX11_differsAt wk_c_X11_differsAt 2 47 0 0 D kStr e0 [] [(pa, .inr (16, [.int pt, .ref pr, .ref pp, .ref pi, .ref pl, .ref pf, .ref pm, .ref ps, .ref pe, .int 0, .int 0])), (pe, .inr (4, [.int 0, .ref e0.1, .int 0]))] [.ref pa, .int a1, .int a2] (fun v w t => v = some (.int 0) ∧ w = [(pa, .inr (16, [.int 1, .ref pr, .ref pp, .ref pi, .ref pl, .ref pf, .ref pm, .ref ps, .ref pe, .int 0, .int 0]))] ∧ t = []) (fun _ => False) := by
  refine k_of (cc := cX11_differsAt) (maxL := 7) (ret := (some .int)) (by decide) rfl (Nat.le_of_ble_eq_true rfl) ?_
  intro p e s m args below meth c A ls hx hb hr hts hown hlocks hml hex hh hl
  have hown : s.vm.findClass RX11 = some m.cls := hown
  have hl : lv_has ls 7 [(0, .ref pa), (1, .int a1), (2, .int a2)] := hl
  refine lv_aload_n hx hb dX11_differsAt_0 rfl (lv_at hl 0 rfl) ?_
  refine lv_iload_n hx hb dX11_differsAt_1 rfl (lv_at hl 1 rfl) ?_
  refine lv_iload_n hx hb dX11_differsAt_2 rfl (lv_at hl 2 rfl) ?_
  refine k_callV (C := RX11) (T := TX11) (N := 11) (ci := 16) (q0 := 0) (wr := []) (rest := []) (own := RX11) ⟨hx, hb, hml, hown, hts⟩ (c_X11_noEditions l hst D e0 pa pt pr pp pi pl pf pm ps pe a1 a2 ) (cwV 2 hts gi_c_X11_differsAt_0 rfl rfl rfl (by decide +kernel) ⟨Nat.le_of_ble_eq_true rfl, Nat.le_of_ble_eq_true rfl⟩) hh rfl rfl [0, 1] [] [] rfl rfl rfl rfl (by decide) rfl rfl hl rfl (Nat.le_of_ble_eq_true rfl) dX11_differsAt_3 ⟨Nat.le_of_ble_eq_true rfl, (Nat.le_of_ble_eq_true rfl)⟩ (fun _ _ _ _ _ h => h.elim) (fun v w ty1 H locs hp hh => ?_)
  obtain ⟨rfl, rfl, rfl⟩ := hp
  have hh : kH D kStr e0 A s H [(pa, .inr (16, [.int 1, .ref pr, .ref pp, .ref pi, .ref pl, .ref pf, .ref pm, .ref ps, .ref pe, .int 0, .int 0]))] [] _ := hh
  refine W.eq (g2 := F0 m 6 ls [.int 1]) (by first | rfl | decide) ?_
  refine lv_if_eq (tgt := 11) hx hb dX11_differsAt_6 (by decide) (fun c_6 => absurd c_6 (by decide)) (fun _ => ?_)
  refine lv_iconst (v := 0) hx hb dX11_differsAt_9 (by decide) ?_
  exact k_endi hx hb hr hlocks hh ⟨rfl, rfl, rfl⟩ [0] [] rfl rfl rfl (Nat.le_of_ble_eq_true rfl) (Nat.le_of_ble_eq_true rfl) dX11_differsAt_10
def wo_c_X11_repair : List Cond := []
def wk_c_X11_repair : List Cond := Cond.code yX11_repair cX11_repair 8 (some .int) :: (wo_c_X11_repair ++ (wsV RX11 242 RX11 yX11_noEditions wk_c_X11_noEditions))
theorem wo_c_X11_repair_in : ∀ w ∈ wo_c_X11_repair, w ∈ wk_c_X11_repair := fun w h => List.mem_cons_of_mem _ (List.mem_append_left _ h)
theorem gi_c_X11_repair_0 : GoodIn wk_c_X11_repair (wsV RX11 242 RX11 yX11_noEditions wk_c_X11_noEditions) := fun w h => ⟨List.mem_cons_of_mem _ (List.mem_append_right _ h), good_of_word (kg_V gk_c_X11_noEditions w h)⟩
theorem gk_c_X11_repair : ∀ w ∈ wk_c_X11_repair, goodWord w = true := List.forall_mem_cons.mpr ⟨rfl, (List.forall_mem_append.mpr ⟨(show ∀ w ∈ wo_c_X11_repair, goodWord w = true by decide +kernel), (kg_V gk_c_X11_noEditions)⟩)⟩
set_option maxHeartbeats 4000000 in
set_option maxRecDepth 100000 in
theorem c_X11_repair (l : Launch) (hst : l.stackTraces = false) (D : va_G) (e0 : kE) (pa : Nat) (pt : Int32) (pr : Nat) (pp : Nat) (pi : Nat) (pl : Nat) (pf : Nat) (pm : Nat) (ps : Nat) (pe : Nat) (a1 : Int32) (a2 : Int32)  : kM l yX11_repair wk_c_X11_repair 2 47 0 0 D kStr e0 [] [(pa, .inr (16, [.int pt, .ref pr, .ref pp, .ref pi, .ref pl, .ref pf, .ref pm, .ref ps, .ref pe, .int 0, .int 0])), (pe, .inr (4, [.int 0, .ref e0.1, .int 0]))] [.ref pa, .int a1, .int a2] (fun v w t => v = some (.int 0) ∧ w = [(pa, .inr (16, [.int 1, .ref pr, .ref pp, .ref pi, .ref pl, .ref pf, .ref pm, .ref ps, .ref pe, .int 0, .int 0]))] ∧ t = []) (fun _ => False) := by
  refine k_of (cc := cX11_repair) (maxL := 8) (ret := (some .int)) (by decide) rfl (Nat.le_of_ble_eq_true rfl) ?_
  intro p e s m args below meth c A ls hx hb hr hts hown hlocks hml hex hh hl
  have hown : s.vm.findClass RX11 = some m.cls := hown
  have hl : lv_has ls 8 [(0, .ref pa), (1, .int a1), (2, .int a2)] := hl
  refine lv_aload_n hx hb dX11_repair_0 rfl (lv_at hl 0 rfl) ?_
  refine lv_iload_n hx hb dX11_repair_1 rfl (lv_at hl 1 rfl) ?_
  refine lv_iload_n hx hb dX11_repair_2 rfl (lv_at hl 2 rfl) ?_
  refine k_callV (C := RX11) (T := TX11) (N := 11) (ci := 16) (q0 := 0) (wr := []) (rest := []) (own := RX11) ⟨hx, hb, hml, hown, hts⟩ (c_X11_noEditions l hst D e0 pa pt pr pp pi pl pf pm ps pe a1 a2 ) (cwV 2 hts gi_c_X11_repair_0 rfl rfl rfl (by decide +kernel) ⟨Nat.le_of_ble_eq_true rfl, Nat.le_of_ble_eq_true rfl⟩) hh rfl rfl [0, 1] [] [] rfl rfl rfl rfl (by decide) rfl rfl hl rfl (Nat.le_of_ble_eq_true rfl) dX11_repair_3 ⟨Nat.le_of_ble_eq_true rfl, (Nat.le_of_ble_eq_true rfl)⟩ (fun _ _ _ _ _ h => h.elim) (fun v w ty1 H locs hp hh => ?_)
  obtain ⟨rfl, rfl, rfl⟩ := hp
  have hh : kH D kStr e0 A s H [(pa, .inr (16, [.int 1, .ref pr, .ref pp, .ref pi, .ref pl, .ref pf, .ref pm, .ref ps, .ref pe, .int 0, .int 0]))] [] _ := hh
  refine W.eq (g2 := F0 m 6 ls [.int 1]) (by first | rfl | decide) ?_
  refine lv_if_eq (tgt := 11) hx hb dX11_repair_6 (by decide) (fun c_6 => absurd c_6 (by decide)) (fun _ => ?_)
  refine lv_iconst (v := 0) hx hb dX11_repair_9 (by decide) ?_
  exact k_endi hx hb hr hlocks hh ⟨rfl, rfl, rfl⟩ [0] [] rfl rfl rfl (Nat.le_of_ble_eq_true rfl) (Nat.le_of_ble_eq_true rfl) dX11_repair_10
def wo_c_X11_failedAt : List Cond := [Cond.fieldLink RX11 31 "SegueworksModel" "lacquers" "Ljava/util/ArrayList;"]
def wk_c_X11_failedAt : List Cond := Cond.code yX11_failedAt cX11_failedAt 2 (some .int) :: (wo_c_X11_failedAt ++ ((u_ws RX11 TX11 11) ++ (wsV RX11 196 RX11 yX11_noPlate wk_c_X11_noPlate)))
theorem wo_c_X11_failedAt_in : ∀ w ∈ wo_c_X11_failedAt, w ∈ wk_c_X11_failedAt := fun w h => List.mem_cons_of_mem _ (List.mem_append_left _ h)
theorem ws_c_X11_failedAt_0 : ∀ w ∈ u_ws RX11 TX11 11, w ∈ wk_c_X11_failedAt := fun w h => List.mem_cons_of_mem _ (List.mem_append_right _ (List.mem_append_left _ h))
theorem gi_c_X11_failedAt_1 : GoodIn wk_c_X11_failedAt (wsV RX11 196 RX11 yX11_noPlate wk_c_X11_noPlate) := fun w h => ⟨List.mem_cons_of_mem _ (List.mem_append_right _ (List.mem_append_right _ h)), good_of_word (kg_V gk_c_X11_noPlate w h)⟩
theorem gk_c_X11_failedAt : ∀ w ∈ wk_c_X11_failedAt, goodWord w = true := List.forall_mem_cons.mpr ⟨rfl, (List.forall_mem_append.mpr ⟨(show ∀ w ∈ wo_c_X11_failedAt, goodWord w = true by decide +kernel), (List.forall_mem_append.mpr ⟨(show ∀ w ∈ u_ws RX11 TX11 11, goodWord w = true by decide +kernel), (kg_V gk_c_X11_noPlate)⟩)⟩)⟩
set_option maxHeartbeats 4000000 in
set_option maxRecDepth 100000 in
theorem c_X11_failedAt (l : Launch) (hst : l.stackTraces = false) (D : va_G) (e0 : kE) (pa : Nat) (pt : Int32) (pr : Nat) (pp : Nat) (pi : Nat) (pl : Nat) (pf : Nat) (pm : Nat) (ps : Nat) (pe : Nat) (a1 : Int32)  : kM l yX11_failedAt wk_c_X11_failedAt 2 47 0 0 D kStr e0 [] [(pa, .inr (16, [.int pt, .ref pr, .ref pp, .ref pi, .ref pl, .ref pf, .ref pm, .ref ps, .ref pe, .int 0, .int 0])), (pl, .inr (4, [.int 0, .ref e0.1, .int 0]))] [.ref pa, .int a1] (fun v w t => v = some (.int 0) ∧ w = [(pa, .inr (16, [.int 1, .ref pr, .ref pp, .ref pi, .ref pl, .ref pf, .ref pm, .ref ps, .ref pe, .int 0, .int 0]))] ∧ t = []) (fun _ => False) := by
  refine k_of (cc := cX11_failedAt) (maxL := 2) (ret := (some .int)) (by decide) rfl (Nat.le_of_ble_eq_true rfl) ?_
  intro p e s m args below meth c A ls hx hb hr hts hown hlocks hml hex hh hl
  have hown : s.vm.findClass RX11 = some m.cls := hown
  have hl : lv_has ls 2 [(0, .ref pa), (1, .int a1)] := hl
  refine lv_aload_n hx hb dX11_failedAt_0 rfl (lv_at hl 0 rfl) ?_
  refine lv_aload_n hx hb dX11_failedAt_1 rfl (lv_at hl 0 rfl) ?_
  refine k_get (C := RX11) (T := TX11) (N := 11) (ci := 16) (v := .ref pl) hx hb hts ws_c_X11_failedAt_0 hown hh 0 rfl rfl 4 (by decide) (hts _ (wo_c_X11_failedAt_in _ (List.mem_of_getElem? (i := 0) rfl))) rfl dX11_failedAt_2 ?_
  refine lv_iload_n hx hb dX11_failedAt_5 rfl (lv_at hl 1 rfl) ?_
  refine k_callV (C := RX11) (T := TX11) (N := 11) (ci := 16) (q0 := 0) (wr := []) (rest := []) (own := RX11) ⟨hx, hb, hml, hown, hts⟩ (c_X11_noPlate l hst D e0 pa pt pr pp pi pl pf pm ps pe pl a1 ) (cwV 2 hts gi_c_X11_failedAt_1 rfl rfl rfl (by decide +kernel) ⟨Nat.le_of_ble_eq_true rfl, Nat.le_of_ble_eq_true rfl⟩) hh rfl rfl [0, 1] [] [] rfl rfl rfl rfl (by decide) rfl rfl hl rfl (Nat.le_of_ble_eq_true rfl) dX11_failedAt_6 ⟨Nat.le_of_ble_eq_true rfl, (Nat.le_of_ble_eq_true rfl)⟩ (fun _ _ _ _ _ h => h.elim) (fun v w ty1 H locs hp hh => ?_)
  obtain ⟨rfl, rfl, rfl⟩ := hp
  have hh : kH D kStr e0 A s H [(pa, .inr (16, [.int 1, .ref pr, .ref pp, .ref pi, .ref pl, .ref pf, .ref pm, .ref ps, .ref pe, .int 0, .int 0]))] [] _ := hh
  refine W.eq (g2 := F0 m 9 ls [.int 1]) (by first | rfl | decide) ?_
  refine lv_if_eq (tgt := 16) hx hb dX11_failedAt_9 (by decide) (fun c_9 => absurd c_9 (by decide)) (fun _ => ?_)
  refine lv_iconst (v := 0) hx hb dX11_failedAt_12 (by decide) ?_
  refine lv_goto (tgt := 30) hx hb dX11_failedAt_13 (by decide) ?_
  exact k_endi hx hb hr hlocks hh ⟨rfl, rfl, rfl⟩ [0] [] rfl rfl rfl (Nat.le_of_ble_eq_true rfl) (Nat.le_of_ble_eq_true rfl) dX11_failedAt_30
def wo_c_X11_press : List Cond := [Cond.fieldLink RX11 40 "SegueworksModel" "stampers" "Ljava/util/ArrayList;"]
def wk_c_X11_press : List Cond := Cond.code yX11_press cX11_press 6 (some .int) :: (wo_c_X11_press ++ ((u_ws RX11 TX11 11) ++ (wsV RX11 196 RX11 yX11_noPlate wk_c_X11_noPlate)))
theorem wo_c_X11_press_in : ∀ w ∈ wo_c_X11_press, w ∈ wk_c_X11_press := fun w h => List.mem_cons_of_mem _ (List.mem_append_left _ h)
theorem ws_c_X11_press_0 : ∀ w ∈ u_ws RX11 TX11 11, w ∈ wk_c_X11_press := fun w h => List.mem_cons_of_mem _ (List.mem_append_right _ (List.mem_append_left _ h))
theorem gi_c_X11_press_1 : GoodIn wk_c_X11_press (wsV RX11 196 RX11 yX11_noPlate wk_c_X11_noPlate) := fun w h => ⟨List.mem_cons_of_mem _ (List.mem_append_right _ (List.mem_append_right _ h)), good_of_word (kg_V gk_c_X11_noPlate w h)⟩
theorem gk_c_X11_press : ∀ w ∈ wk_c_X11_press, goodWord w = true := List.forall_mem_cons.mpr ⟨rfl, (List.forall_mem_append.mpr ⟨(show ∀ w ∈ wo_c_X11_press, goodWord w = true by decide +kernel), (List.forall_mem_append.mpr ⟨(show ∀ w ∈ u_ws RX11 TX11 11, goodWord w = true by decide +kernel), (kg_V gk_c_X11_noPlate)⟩)⟩)⟩
set_option maxHeartbeats 4000000 in
set_option maxRecDepth 100000 in
theorem c_X11_press (l : Launch) (hst : l.stackTraces = false) (D : va_G) (e0 : kE) (pa : Nat) (pt : Int32) (pr : Nat) (pp : Nat) (pi : Nat) (pl : Nat) (pf : Nat) (pm : Nat) (ps : Nat) (pe : Nat) (a1 : Int32) (a2 : Int32)  : kM l yX11_press wk_c_X11_press 2 47 0 0 D kStr e0 [] [(pa, .inr (16, [.int pt, .ref pr, .ref pp, .ref pi, .ref pl, .ref pf, .ref pm, .ref ps, .ref pe, .int 0, .int 0])), (ps, .inr (4, [.int 0, .ref e0.1, .int 0]))] [.ref pa, .int a1, .int a2] (fun v w t => v = some (.int 0) ∧ w = [(pa, .inr (16, [.int 1, .ref pr, .ref pp, .ref pi, .ref pl, .ref pf, .ref pm, .ref ps, .ref pe, .int 0, .int 0]))] ∧ t = []) (fun _ => False) := by
  refine k_of (cc := cX11_press) (maxL := 6) (ret := (some .int)) (by decide) rfl (Nat.le_of_ble_eq_true rfl) ?_
  intro p e s m args below meth c A ls hx hb hr hts hown hlocks hml hex hh hl
  have hown : s.vm.findClass RX11 = some m.cls := hown
  have hl : lv_has ls 6 [(0, .ref pa), (1, .int a1), (2, .int a2)] := hl
  refine lv_aload_n hx hb dX11_press_0 rfl (lv_at hl 0 rfl) ?_
  refine lv_aload_n hx hb dX11_press_1 rfl (lv_at hl 0 rfl) ?_
  refine k_get (C := RX11) (T := TX11) (N := 11) (ci := 16) (v := .ref ps) hx hb hts ws_c_X11_press_0 hown hh 0 rfl rfl 7 (by decide) (hts _ (wo_c_X11_press_in _ (List.mem_of_getElem? (i := 0) rfl))) rfl dX11_press_2 ?_
  refine lv_iload_n hx hb dX11_press_5 rfl (lv_at hl 1 rfl) ?_
  refine k_callV (C := RX11) (T := TX11) (N := 11) (ci := 16) (q0 := 0) (wr := []) (rest := []) (own := RX11) ⟨hx, hb, hml, hown, hts⟩ (c_X11_noPlate l hst D e0 pa pt pr pp pi pl pf pm ps pe ps a1 ) (cwV 2 hts gi_c_X11_press_1 rfl rfl rfl (by decide +kernel) ⟨Nat.le_of_ble_eq_true rfl, Nat.le_of_ble_eq_true rfl⟩) hh rfl rfl [0, 1] [] [] rfl rfl rfl rfl (by decide) rfl rfl hl rfl (Nat.le_of_ble_eq_true rfl) dX11_press_6 ⟨Nat.le_of_ble_eq_true rfl, (Nat.le_of_ble_eq_true rfl)⟩ (fun _ _ _ _ _ h => h.elim) (fun v w ty1 H locs hp hh => ?_)
  obtain ⟨rfl, rfl, rfl⟩ := hp
  have hh : kH D kStr e0 A s H [(pa, .inr (16, [.int 1, .ref pr, .ref pp, .ref pi, .ref pl, .ref pf, .ref pm, .ref ps, .ref pe, .int 0, .int 0]))] [] _ := hh
  refine W.eq (g2 := F0 m 9 ls [.int 1]) (by first | rfl | decide) ?_
  refine lv_if_eq (tgt := 14) hx hb dX11_press_9 (by decide) (fun c_9 => absurd c_9 (by decide)) (fun _ => ?_)
  refine lv_iconst (v := 0) hx hb dX11_press_12 (by decide) ?_
  exact k_endi hx hb hr hlocks hh ⟨rfl, rfl, rfl⟩ [0] [] rfl rfl rfl (Nat.le_of_ble_eq_true rfl) (Nat.le_of_ble_eq_true rfl) dX11_press_13
def wo_c_X11_gives : List Cond := []
def wk_c_X11_gives : List Cond := Cond.code yX11_gives cX11_gives 6 (some .int) :: (wo_c_X11_gives ++ (wsV RX11 196 RX11 yX11_noPlate wk_c_X11_noPlate))
theorem wo_c_X11_gives_in : ∀ w ∈ wo_c_X11_gives, w ∈ wk_c_X11_gives := fun w h => List.mem_cons_of_mem _ (List.mem_append_left _ h)
theorem gi_c_X11_gives_0 : GoodIn wk_c_X11_gives (wsV RX11 196 RX11 yX11_noPlate wk_c_X11_noPlate) := fun w h => ⟨List.mem_cons_of_mem _ (List.mem_append_right _ h), good_of_word (kg_V gk_c_X11_noPlate w h)⟩
theorem gk_c_X11_gives : ∀ w ∈ wk_c_X11_gives, goodWord w = true := List.forall_mem_cons.mpr ⟨rfl, (List.forall_mem_append.mpr ⟨(show ∀ w ∈ wo_c_X11_gives, goodWord w = true by decide +kernel), (kg_V gk_c_X11_noPlate)⟩)⟩
set_option maxHeartbeats 4000000 in
set_option maxRecDepth 100000 in
theorem c_X11_gives (l : Launch) (hst : l.stackTraces = false) (D : va_G) (e0 : kE) (pa : Nat) (pt : Int32) (pr : Nat) (pp : Nat) (pi : Nat) (pl : Nat) (pf : Nat) (pm : Nat) (ps : Nat) (pe : Nat) (pz : Nat) (a1 : Int32) (a2 : Int32) (pz9 : Nat)  : kM l yX11_gives wk_c_X11_gives 2 47 0 0 D kStr e0 [] [(pa, .inr (16, [.int pt, .ref pr, .ref pp, .ref pi, .ref pl, .ref pf, .ref pm, .ref ps, .ref pe, .int 0, .int 0])), (pz, .inr (4, [.int 0, .ref e0.1, .int 0]))] [.ref pa, .ref pz, .int a1, .int a2, .ref pz9] (fun v w t => v = some (.int 0) ∧ w = [(pa, .inr (16, [.int 1, .ref pr, .ref pp, .ref pi, .ref pl, .ref pf, .ref pm, .ref ps, .ref pe, .int 0, .int 0]))] ∧ t = []) (fun _ => False) := by
  refine k_of (cc := cX11_gives) (maxL := 6) (ret := (some .int)) (by decide) rfl (Nat.le_of_ble_eq_true rfl) ?_
  intro p e s m args below meth c A ls hx hb hr hts hown hlocks hml hex hh hl
  have hown : s.vm.findClass RX11 = some m.cls := hown
  have hl : lv_has ls 6 [(0, .ref pa), (1, .ref pz), (2, .int a1), (3, .int a2), (4, .ref pz9)] := hl
  refine lv_aload_n hx hb dX11_gives_0 rfl (lv_at hl 0 rfl) ?_
  refine lv_aload_n hx hb dX11_gives_1 rfl (lv_at hl 1 rfl) ?_
  refine lv_iload_n hx hb dX11_gives_2 rfl (lv_at hl 2 rfl) ?_
  refine k_callV (C := RX11) (T := TX11) (N := 11) (ci := 16) (q0 := 0) (wr := []) (rest := []) (own := RX11) ⟨hx, hb, hml, hown, hts⟩ (c_X11_noPlate l hst D e0 pa pt pr pp pi pl pf pm ps pe pz a1 ) (cwV 2 hts gi_c_X11_gives_0 rfl rfl rfl (by decide +kernel) ⟨Nat.le_of_ble_eq_true rfl, Nat.le_of_ble_eq_true rfl⟩) hh rfl rfl [0, 1] [] [] rfl rfl rfl rfl (by decide) rfl rfl hl rfl (Nat.le_of_ble_eq_true rfl) dX11_gives_3 ⟨Nat.le_of_ble_eq_true rfl, (Nat.le_of_ble_eq_true rfl)⟩ (fun _ _ _ _ _ h => h.elim) (fun v w ty1 H locs hp hh => ?_)
  obtain ⟨rfl, rfl, rfl⟩ := hp
  have hh : kH D kStr e0 A s H [(pa, .inr (16, [.int 1, .ref pr, .ref pp, .ref pi, .ref pl, .ref pf, .ref pm, .ref ps, .ref pe, .int 0, .int 0]))] [] _ := hh
  refine W.eq (g2 := F0 m 6 ls [.int 1]) (by first | rfl | decide) ?_
  refine lv_if_eq (tgt := 11) hx hb dX11_gives_6 (by decide) (fun c_6 => absurd c_6 (by decide)) (fun _ => ?_)
  refine lv_iconst (v := 0) hx hb dX11_gives_9 (by decide) ?_
  exact k_endi hx hb hr hlocks hh ⟨rfl, rfl, rfl⟩ [0] [] rfl rfl rfl (Nat.le_of_ble_eq_true rfl) (Nat.le_of_ble_eq_true rfl) dX11_gives_10
def wo_c_X11_father : List Cond := [Cond.fieldLink RX11 31 "SegueworksModel" "lacquers" "Ljava/util/ArrayList;", Cond.fieldLink RX11 34 "SegueworksModel" "fathers" "Ljava/util/ArrayList;"]
def wk_c_X11_father : List Cond := Cond.code yX11_father cX11_father 2 (some .int) :: (wo_c_X11_father ++ ((u_ws RX11 TX11 11) ++ (wsV RX11 206 RX11 yX11_gives wk_c_X11_gives)))
theorem wo_c_X11_father_in : ∀ w ∈ wo_c_X11_father, w ∈ wk_c_X11_father := fun w h => List.mem_cons_of_mem _ (List.mem_append_left _ h)
theorem ws_c_X11_father_0 : ∀ w ∈ u_ws RX11 TX11 11, w ∈ wk_c_X11_father := fun w h => List.mem_cons_of_mem _ (List.mem_append_right _ (List.mem_append_left _ h))
theorem gi_c_X11_father_1 : GoodIn wk_c_X11_father (wsV RX11 206 RX11 yX11_gives wk_c_X11_gives) := fun w h => ⟨List.mem_cons_of_mem _ (List.mem_append_right _ (List.mem_append_right _ h)), good_of_word (kg_V gk_c_X11_gives w h)⟩
theorem gk_c_X11_father : ∀ w ∈ wk_c_X11_father, goodWord w = true := List.forall_mem_cons.mpr ⟨rfl, (List.forall_mem_append.mpr ⟨(show ∀ w ∈ wo_c_X11_father, goodWord w = true by decide +kernel), (List.forall_mem_append.mpr ⟨(show ∀ w ∈ u_ws RX11 TX11 11, goodWord w = true by decide +kernel), (kg_V gk_c_X11_gives)⟩)⟩)⟩
set_option maxHeartbeats 4000000 in
set_option maxRecDepth 100000 in
theorem c_X11_father (l : Launch) (hst : l.stackTraces = false) (D : va_G) (e0 : kE) (pa : Nat) (pt : Int32) (pr : Nat) (pp : Nat) (pi : Nat) (pl : Nat) (pf : Nat) (pm : Nat) (ps : Nat) (pe : Nat) (a1 : Int32)  : kM l yX11_father wk_c_X11_father 3 72 0 0 D kStr e0 [] [(pa, .inr (16, [.int pt, .ref pr, .ref pp, .ref pi, .ref pl, .ref pf, .ref pm, .ref ps, .ref pe, .int 0, .int 0])), (pl, .inr (4, [.int 0, .ref e0.1, .int 0]))] [.ref pa, .int a1] (fun v w t => v = some (.int 0) ∧ w = [(pa, .inr (16, [.int 1, .ref pr, .ref pp, .ref pi, .ref pl, .ref pf, .ref pm, .ref ps, .ref pe, .int 0, .int 0]))] ∧ t = []) (fun _ => False) := by
  refine k_of (cc := cX11_father) (maxL := 2) (ret := (some .int)) (by decide) rfl (Nat.le_of_ble_eq_true rfl) ?_
  intro p e s m args below meth c A ls hx hb hr hts hown hlocks hml hex hh hl
  have hown : s.vm.findClass RX11 = some m.cls := hown
  have hl : lv_has ls 2 [(0, .ref pa), (1, .int a1)] := hl
  refine lv_aload_n hx hb dX11_father_0 rfl (lv_at hl 0 rfl) ?_
  refine lv_aload_n hx hb dX11_father_1 rfl (lv_at hl 0 rfl) ?_
  refine k_get (C := RX11) (T := TX11) (N := 11) (ci := 16) (v := .ref pl) hx hb hts ws_c_X11_father_0 hown hh 0 rfl rfl 4 (by decide) (hts _ (wo_c_X11_father_in _ (List.mem_of_getElem? (i := 0) rfl))) rfl dX11_father_2 ?_
  refine lv_iload_n hx hb dX11_father_5 rfl (lv_at hl 1 rfl) ?_
  refine lv_iconst (v := 1) hx hb dX11_father_6 (by decide) ?_
  refine lv_aload_n hx hb dX11_father_7 rfl (lv_at hl 0 rfl) ?_
  refine k_get (C := RX11) (T := TX11) (N := 11) (ci := 16) (v := .ref pf) hx hb hts ws_c_X11_father_0 hown hh 0 rfl rfl 5 (by decide) (hts _ (wo_c_X11_father_in _ (List.mem_of_getElem? (i := 1) rfl))) rfl dX11_father_8 ?_
  refine k_callV (C := RX11) (T := TX11) (N := 11) (ci := 16) (q0 := 0) (wr := []) (rest := []) (own := RX11) ⟨hx, hb, hml, hown, hts⟩ (c_X11_gives l hst D e0 pa pt pr pp pi pl pf pm ps pe pl a1 1 pf ) (cwV 4 hts gi_c_X11_father_1 rfl rfl rfl (by decide +kernel) ⟨Nat.le_of_ble_eq_true rfl, Nat.le_of_ble_eq_true rfl⟩) hh rfl rfl [0, 1] [] [] rfl rfl rfl rfl (by decide) rfl rfl hl rfl (Nat.le_of_ble_eq_true rfl) dX11_father_11 ⟨Nat.le_of_ble_eq_true rfl, (Nat.le_of_ble_eq_true rfl)⟩ (fun _ _ _ _ _ h => h.elim) (fun v w ty1 H locs hp hh => ?_)
  obtain ⟨rfl, rfl, rfl⟩ := hp
  have hh : kH D kStr e0 A s H [(pa, .inr (16, [.int 1, .ref pr, .ref pp, .ref pi, .ref pl, .ref pf, .ref pm, .ref ps, .ref pe, .int 0, .int 0]))] [] _ := hh
  refine W.eq (g2 := F0 m 14 ls [.int 0]) (by first | rfl | decide) ?_
  exact k_endi hx hb hr hlocks hh ⟨rfl, rfl, rfl⟩ [0] [] rfl rfl rfl (Nat.le_of_ble_eq_true rfl) (Nat.le_of_ble_eq_true rfl) dX11_father_14
def wo_c_X11_mother : List Cond := [Cond.fieldLink RX11 34 "SegueworksModel" "fathers" "Ljava/util/ArrayList;", Cond.fieldLink RX11 37 "SegueworksModel" "mothers" "Ljava/util/ArrayList;"]
def wk_c_X11_mother : List Cond := Cond.code yX11_mother cX11_mother 2 (some .int) :: (wo_c_X11_mother ++ ((u_ws RX11 TX11 11) ++ (wsV RX11 206 RX11 yX11_gives wk_c_X11_gives)))
theorem wo_c_X11_mother_in : ∀ w ∈ wo_c_X11_mother, w ∈ wk_c_X11_mother := fun w h => List.mem_cons_of_mem _ (List.mem_append_left _ h)
theorem ws_c_X11_mother_0 : ∀ w ∈ u_ws RX11 TX11 11, w ∈ wk_c_X11_mother := fun w h => List.mem_cons_of_mem _ (List.mem_append_right _ (List.mem_append_left _ h))
theorem gi_c_X11_mother_1 : GoodIn wk_c_X11_mother (wsV RX11 206 RX11 yX11_gives wk_c_X11_gives) := fun w h => ⟨List.mem_cons_of_mem _ (List.mem_append_right _ (List.mem_append_right _ h)), good_of_word (kg_V gk_c_X11_gives w h)⟩
theorem gk_c_X11_mother : ∀ w ∈ wk_c_X11_mother, goodWord w = true := List.forall_mem_cons.mpr ⟨rfl, (List.forall_mem_append.mpr ⟨(show ∀ w ∈ wo_c_X11_mother, goodWord w = true by decide +kernel), (List.forall_mem_append.mpr ⟨(show ∀ w ∈ u_ws RX11 TX11 11, goodWord w = true by decide +kernel), (kg_V gk_c_X11_gives)⟩)⟩)⟩
set_option maxHeartbeats 4000000 in
set_option maxRecDepth 100000 in
theorem c_X11_mother (l : Launch) (hst : l.stackTraces = false) (D : va_G) (e0 : kE) (pa : Nat) (pt : Int32) (pr : Nat) (pp : Nat) (pi : Nat) (pl : Nat) (pf : Nat) (pm : Nat) (ps : Nat) (pe : Nat) (a1 : Int32)  : kM l yX11_mother wk_c_X11_mother 3 72 0 0 D kStr e0 [] [(pa, .inr (16, [.int pt, .ref pr, .ref pp, .ref pi, .ref pl, .ref pf, .ref pm, .ref ps, .ref pe, .int 0, .int 0])), (pf, .inr (4, [.int 0, .ref e0.1, .int 0]))] [.ref pa, .int a1] (fun v w t => v = some (.int 0) ∧ w = [(pa, .inr (16, [.int 1, .ref pr, .ref pp, .ref pi, .ref pl, .ref pf, .ref pm, .ref ps, .ref pe, .int 0, .int 0]))] ∧ t = []) (fun _ => False) := by
  refine k_of (cc := cX11_mother) (maxL := 2) (ret := (some .int)) (by decide) rfl (Nat.le_of_ble_eq_true rfl) ?_
  intro p e s m args below meth c A ls hx hb hr hts hown hlocks hml hex hh hl
  have hown : s.vm.findClass RX11 = some m.cls := hown
  have hl : lv_has ls 2 [(0, .ref pa), (1, .int a1)] := hl
  refine lv_aload_n hx hb dX11_mother_0 rfl (lv_at hl 0 rfl) ?_
  refine lv_aload_n hx hb dX11_mother_1 rfl (lv_at hl 0 rfl) ?_
  refine k_get (C := RX11) (T := TX11) (N := 11) (ci := 16) (v := .ref pf) hx hb hts ws_c_X11_mother_0 hown hh 0 rfl rfl 5 (by decide) (hts _ (wo_c_X11_mother_in _ (List.mem_of_getElem? (i := 0) rfl))) rfl dX11_mother_2 ?_
  refine lv_iload_n hx hb dX11_mother_5 rfl (lv_at hl 1 rfl) ?_
  refine lv_iconst (v := 3) hx hb dX11_mother_6 (by decide) ?_
  refine lv_aload_n hx hb dX11_mother_7 rfl (lv_at hl 0 rfl) ?_
  refine k_get (C := RX11) (T := TX11) (N := 11) (ci := 16) (v := .ref pm) hx hb hts ws_c_X11_mother_0 hown hh 0 rfl rfl 6 (by decide) (hts _ (wo_c_X11_mother_in _ (List.mem_of_getElem? (i := 1) rfl))) rfl dX11_mother_8 ?_
  refine k_callV (C := RX11) (T := TX11) (N := 11) (ci := 16) (q0 := 0) (wr := []) (rest := []) (own := RX11) ⟨hx, hb, hml, hown, hts⟩ (c_X11_gives l hst D e0 pa pt pr pp pi pl pf pm ps pe pf a1 3 pm ) (cwV 4 hts gi_c_X11_mother_1 rfl rfl rfl (by decide +kernel) ⟨Nat.le_of_ble_eq_true rfl, Nat.le_of_ble_eq_true rfl⟩) hh rfl rfl [0, 1] [] [] rfl rfl rfl rfl (by decide) rfl rfl hl rfl (Nat.le_of_ble_eq_true rfl) dX11_mother_11 ⟨Nat.le_of_ble_eq_true rfl, (Nat.le_of_ble_eq_true rfl)⟩ (fun _ _ _ _ _ h => h.elim) (fun v w ty1 H locs hp hh => ?_)
  obtain ⟨rfl, rfl, rfl⟩ := hp
  have hh : kH D kStr e0 A s H [(pa, .inr (16, [.int 1, .ref pr, .ref pp, .ref pi, .ref pl, .ref pf, .ref pm, .ref ps, .ref pe, .int 0, .int 0]))] [] _ := hh
  refine W.eq (g2 := F0 m 14 ls [.int 0]) (by first | rfl | decide) ?_
  exact k_endi hx hb hr hlocks hh ⟨rfl, rfl, rfl⟩ [0] [] rfl rfl rfl (Nat.le_of_ble_eq_true rfl) (Nat.le_of_ble_eq_true rfl) dX11_mother_14
def wo_c_X11_stamper : List Cond := [Cond.fieldLink RX11 37 "SegueworksModel" "mothers" "Ljava/util/ArrayList;", Cond.fieldLink RX11 40 "SegueworksModel" "stampers" "Ljava/util/ArrayList;"]
def wk_c_X11_stamper : List Cond := Cond.code yX11_stamper cX11_stamper 2 (some .int) :: (wo_c_X11_stamper ++ ((u_ws RX11 TX11 11) ++ (wsV RX11 206 RX11 yX11_gives wk_c_X11_gives)))
theorem wo_c_X11_stamper_in : ∀ w ∈ wo_c_X11_stamper, w ∈ wk_c_X11_stamper := fun w h => List.mem_cons_of_mem _ (List.mem_append_left _ h)
theorem ws_c_X11_stamper_0 : ∀ w ∈ u_ws RX11 TX11 11, w ∈ wk_c_X11_stamper := fun w h => List.mem_cons_of_mem _ (List.mem_append_right _ (List.mem_append_left _ h))
theorem gi_c_X11_stamper_1 : GoodIn wk_c_X11_stamper (wsV RX11 206 RX11 yX11_gives wk_c_X11_gives) := fun w h => ⟨List.mem_cons_of_mem _ (List.mem_append_right _ (List.mem_append_right _ h)), good_of_word (kg_V gk_c_X11_gives w h)⟩
theorem gk_c_X11_stamper : ∀ w ∈ wk_c_X11_stamper, goodWord w = true := List.forall_mem_cons.mpr ⟨rfl, (List.forall_mem_append.mpr ⟨(show ∀ w ∈ wo_c_X11_stamper, goodWord w = true by decide +kernel), (List.forall_mem_append.mpr ⟨(show ∀ w ∈ u_ws RX11 TX11 11, goodWord w = true by decide +kernel), (kg_V gk_c_X11_gives)⟩)⟩)⟩
set_option maxHeartbeats 4000000 in
set_option maxRecDepth 100000 in
theorem c_X11_stamper (l : Launch) (hst : l.stackTraces = false) (D : va_G) (e0 : kE) (pa : Nat) (pt : Int32) (pr : Nat) (pp : Nat) (pi : Nat) (pl : Nat) (pf : Nat) (pm : Nat) (ps : Nat) (pe : Nat) (a1 : Int32)  : kM l yX11_stamper wk_c_X11_stamper 3 72 0 0 D kStr e0 [] [(pa, .inr (16, [.int pt, .ref pr, .ref pp, .ref pi, .ref pl, .ref pf, .ref pm, .ref ps, .ref pe, .int 0, .int 0])), (pm, .inr (4, [.int 0, .ref e0.1, .int 0]))] [.ref pa, .int a1] (fun v w t => v = some (.int 0) ∧ w = [(pa, .inr (16, [.int 1, .ref pr, .ref pp, .ref pi, .ref pl, .ref pf, .ref pm, .ref ps, .ref pe, .int 0, .int 0]))] ∧ t = []) (fun _ => False) := by
  refine k_of (cc := cX11_stamper) (maxL := 2) (ret := (some .int)) (by decide) rfl (Nat.le_of_ble_eq_true rfl) ?_
  intro p e s m args below meth c A ls hx hb hr hts hown hlocks hml hex hh hl
  have hown : s.vm.findClass RX11 = some m.cls := hown
  have hl : lv_has ls 2 [(0, .ref pa), (1, .int a1)] := hl
  refine lv_aload_n hx hb dX11_stamper_0 rfl (lv_at hl 0 rfl) ?_
  refine lv_aload_n hx hb dX11_stamper_1 rfl (lv_at hl 0 rfl) ?_
  refine k_get (C := RX11) (T := TX11) (N := 11) (ci := 16) (v := .ref pm) hx hb hts ws_c_X11_stamper_0 hown hh 0 rfl rfl 6 (by decide) (hts _ (wo_c_X11_stamper_in _ (List.mem_of_getElem? (i := 0) rfl))) rfl dX11_stamper_2 ?_
  refine lv_iload_n hx hb dX11_stamper_5 rfl (lv_at hl 1 rfl) ?_
  refine lv_iconst (v := 4) hx hb dX11_stamper_6 (by decide) ?_
  refine lv_aload_n hx hb dX11_stamper_7 rfl (lv_at hl 0 rfl) ?_
  refine k_get (C := RX11) (T := TX11) (N := 11) (ci := 16) (v := .ref ps) hx hb hts ws_c_X11_stamper_0 hown hh 0 rfl rfl 7 (by decide) (hts _ (wo_c_X11_stamper_in _ (List.mem_of_getElem? (i := 1) rfl))) rfl dX11_stamper_8 ?_
  refine k_callV (C := RX11) (T := TX11) (N := 11) (ci := 16) (q0 := 0) (wr := []) (rest := []) (own := RX11) ⟨hx, hb, hml, hown, hts⟩ (c_X11_gives l hst D e0 pa pt pr pp pi pl pf pm ps pe pm a1 4 ps ) (cwV 4 hts gi_c_X11_stamper_1 rfl rfl rfl (by decide +kernel) ⟨Nat.le_of_ble_eq_true rfl, Nat.le_of_ble_eq_true rfl⟩) hh rfl rfl [0, 1] [] [] rfl rfl rfl rfl (by decide) rfl rfl hl rfl (Nat.le_of_ble_eq_true rfl) dX11_stamper_11 ⟨Nat.le_of_ble_eq_true rfl, (Nat.le_of_ble_eq_true rfl)⟩ (fun _ _ _ _ _ h => h.elim) (fun v w ty1 H locs hp hh => ?_)
  obtain ⟨rfl, rfl, rfl⟩ := hp
  have hh : kH D kStr e0 A s H [(pa, .inr (16, [.int 1, .ref pr, .ref pp, .ref pi, .ref pl, .ref pf, .ref pm, .ref ps, .ref pe, .int 0, .int 0]))] [] _ := hh
  refine W.eq (g2 := F0 m 14 ls [.int 0]) (by first | rfl | decide) ?_
  exact k_endi hx hb hr hlocks hh ⟨rfl, rfl, rfl⟩ [0] [] rfl rfl rfl (Nat.le_of_ble_eq_true rfl) (Nat.le_of_ble_eq_true rfl) dX11_stamper_14
def wo_c_X11_together : List Cond := [Cond.arrayClass .int]
def wk_c_X11_together : List Cond := Cond.code yX11_together cX11_together 9 (some (.array .int)) :: wo_c_X11_together
theorem wo_c_X11_together_in : ∀ w ∈ wo_c_X11_together, w ∈ wk_c_X11_together := fun w h => List.mem_cons_of_mem _ h
theorem gk_c_X11_together : ∀ w ∈ wk_c_X11_together, goodWord w = true := List.forall_mem_cons.mpr ⟨rfl, (show ∀ w ∈ wo_c_X11_together, goodWord w = true by decide +kernel)⟩
set_option maxHeartbeats 4000000 in
set_option maxRecDepth 100000 in
theorem c_X11_together (l : Launch) (hst : l.stackTraces = false) (D : va_G) (e0 : kE) (pa : Nat) (pt : Int32) (pr : Nat) (pp : Nat) (pi : Nat) (pl : Nat) (pf : Nat) (pm : Nat) (ps : Nat) (pe : Nat)  : kM l yX11_together wk_c_X11_together 0 0 1 0 D kStr e0 [] [(pa, .inr (16, [.int pt, .ref pr, .ref pp, .ref pi, .ref pl, .ref pf, .ref pm, .ref ps, .ref pe, .int 0, .int 0])), (pi, .inr (4, [.int 0, .ref e0.1, .int 0]))] [.ref pa, .int 0, .int 0] (fun v w t => ∃ (q1 : Nat), ∃ (y2 : ClassId), v = some (.ref q1) ∧ w = [(pa, .inr (16, [.int pt, .ref pr, .ref pp, .ref pi, .ref pl, .ref pf, .ref pm, .ref ps, .ref pe, .int 0, .int 0])), (pi, .inr (4, [.int 0, .ref e0.1, .int 0])), (q1, .inl (y2, 0, .inl (fun _ => 0)))] ∧ t = [(y2, .int)]) (fun _ => False) := by
  refine k_of (cc := cX11_together) (maxL := 9) (ret := (some (.array .int))) (by decide) rfl (Nat.le_of_ble_eq_true rfl) ?_
  intro p e s m args below meth c A ls hx hb hr hts hown hlocks hml hex hh hl
  have hown : s.vm.findClass RX11 = some m.cls := hown
  have hl : lv_has ls 9 [(0, .ref pa), (1, .int 0), (2, .int 0)] := hl
  refine lv_iconst (v := 0) hx hb dX11_together_0 (by decide) ?_
  refine lv_istore_n (lv' := [(3, .int 0), (0, .ref pa), (1, .int 0), (2, .int 0)]) hx hb dX11_together_1 rfl hl (by decide) rfl (fun ls hl => ?_)
  refine lv_iload_n hx hb dX11_together_2 rfl (lv_at hl 2 rfl) ?_
  refine lv_istore (lv' := [(4, .int 0), (3, .int 0), (0, .ref pa), (1, .int 0), (2, .int 0)]) hx hb dX11_together_3 hl (by decide) rfl (fun ls hl => ?_)
  refine lv_iload hx hb dX11_together_5 (lv_at hl 0 rfl) ?_
  refine lv_iload_n hx hb dX11_together_7 rfl (lv_at hl 4 rfl) ?_
  refine lv_icmp_ge (tgt := 56) hx hb dX11_together_8 (by decide) (fun _ => ?_) (fun c_8 => absurd (by decide) c_8)
  refine lv_iload_n hx hb dX11_together_56 rfl (lv_at hl 1 rfl) ?_
  refine k_newa (atype := .int) (ty := .int) (N' := 0) (a0 := (0, .inl (fun _ => 0))) hx hb (hts _ (wo_c_X11_together_in _ (List.mem_of_getElem? (i := 0) rfl))) rfl hh (fun cA => rfl) (by decide) (by decide) (Nat.le_of_ble_eq_true rfl) (Nat.le_of_ble_eq_true rfl) (Nat.le_of_ble_eq_true rfl) dX11_together_57 (fun q1 y2 H hh => ?_)
  have hh : kH D kStr e0 A s H [(pa, .inr (16, [.int pt, .ref pr, .ref pp, .ref pi, .ref pl, .ref pf, .ref pm, .ref ps, .ref pe, .int 0, .int 0])), (pi, .inr (4, [.int 0, .ref e0.1, .int 0])), (q1, .inl (y2, 0, .inl (fun _ => 0)))] [(y2, .int)] _ := hh
  refine lv_astore (lv' := [(4, .ref q1), (3, .int 0), (0, .ref pa), (1, .int 0), (2, .int 0)]) hx hb dX11_together_59 hl (by decide) rfl (fun ls hl => ?_)
  refine lv_iconst (v := 0) hx hb dX11_together_61 (by decide) ?_
  refine lv_istore (lv' := [(5, .int 0), (4, .ref q1), (3, .int 0), (0, .ref pa), (1, .int 0), (2, .int 0)]) hx hb dX11_together_62 hl (by decide) rfl (fun ls hl => ?_)
  refine lv_iload_n hx hb dX11_together_64 rfl (lv_at hl 4 rfl) ?_
  refine lv_istore (lv' := [(6, .int 0), (5, .int 0), (4, .ref q1), (3, .int 0), (0, .ref pa), (1, .int 0), (2, .int 0)]) hx hb dX11_together_65 hl (by decide) rfl (fun ls hl => ?_)
  refine lv_iload hx hb dX11_together_67 (lv_at hl 0 rfl) ?_
  refine lv_iload_n hx hb dX11_together_69 rfl (lv_at hl 6 rfl) ?_
  refine lv_icmp_ge (tgt := 150) hx hb dX11_together_70 (by decide) (fun _ => ?_) (fun c_70 => absurd (by decide) c_70)
  refine lv_aload hx hb dX11_together_150 (lv_at hl 2 rfl) ?_
  exact k_enda (by first | exact Or.inl ⟨_, rfl⟩ | exact Or.inr ⟨_, rfl⟩) (by first | exact Or.inr ⟨_, rfl⟩ | exact Or.inl rfl) hx hb hr hlocks hh ⟨q1, y2, rfl, rfl, rfl⟩ [0, 1, 2] [0] rfl rfl rfl (Nat.le_of_ble_eq_true rfl) (Nat.le_of_ble_eq_true rfl) dX11_together_152
def wo_c_X11_program : List Cond := [Cond.fieldLink RX11 28 "SegueworksModel" "items" "Ljava/util/ArrayList;"]
def wk_c_X11_program : List Cond := Cond.code yX11_program cX11_program 1 (some (.array .int)) :: (wo_c_X11_program ++ ((u_ws RX11 TX11 11) ++ ((wsV RX11 50 RJx4a65c yJx4a65c_size_8abf5 wk_c_size) ++ (wsV RX11 153 RX11 yX11_together wk_c_X11_together))))
theorem wo_c_X11_program_in : ∀ w ∈ wo_c_X11_program, w ∈ wk_c_X11_program := fun w h => List.mem_cons_of_mem _ (List.mem_append_left _ h)
theorem ws_c_X11_program_0 : ∀ w ∈ u_ws RX11 TX11 11, w ∈ wk_c_X11_program := fun w h => List.mem_cons_of_mem _ (List.mem_append_right _ (List.mem_append_left _ h))
theorem gi_c_X11_program_1 : GoodIn wk_c_X11_program (wsV RX11 50 RJx4a65c yJx4a65c_size_8abf5 wk_c_size) := fun w h => ⟨List.mem_cons_of_mem _ (List.mem_append_right _ (List.mem_append_right _ (List.mem_append_left _ h))), good_of_word (kg_V gk_c_size w h)⟩
theorem gi_c_X11_program_2 : GoodIn wk_c_X11_program (wsV RX11 153 RX11 yX11_together wk_c_X11_together) := fun w h => ⟨List.mem_cons_of_mem _ (List.mem_append_right _ (List.mem_append_right _ (List.mem_append_right _ h))), good_of_word (kg_V gk_c_X11_together w h)⟩
theorem gk_c_X11_program : ∀ w ∈ wk_c_X11_program, goodWord w = true := List.forall_mem_cons.mpr ⟨rfl, (List.forall_mem_append.mpr ⟨(show ∀ w ∈ wo_c_X11_program, goodWord w = true by decide +kernel), (List.forall_mem_append.mpr ⟨(show ∀ w ∈ u_ws RX11 TX11 11, goodWord w = true by decide +kernel), (List.forall_mem_append.mpr ⟨(kg_V gk_c_size), (kg_V gk_c_X11_together)⟩)⟩)⟩)⟩
set_option maxHeartbeats 4000000 in
set_option maxRecDepth 100000 in
theorem c_X11_program (l : Launch) (hst : l.stackTraces = false) (D : va_G) (e0 : kE) (pa : Nat) (pt : Int32) (pr : Nat) (pp : Nat) (pi : Nat) (pl : Nat) (pf : Nat) (pm : Nat) (ps : Nat) (pe : Nat)  : kM l yX11_program wk_c_X11_program 1 28 1 0 D kStr e0 [] [(pa, .inr (16, [.int pt, .ref pr, .ref pp, .ref pi, .ref pl, .ref pf, .ref pm, .ref ps, .ref pe, .int 0, .int 0])), (pi, .inr (4, [.int 0, .ref e0.1, .int 0]))] [.ref pa] (fun v w t => ∃ (q1 : Nat), ∃ (y2 : ClassId), v = some (.ref q1) ∧ w = [(pa, .inr (16, [.int pt, .ref pr, .ref pp, .ref pi, .ref pl, .ref pf, .ref pm, .ref ps, .ref pe, .int 0, .int 0])), (pi, .inr (4, [.int 0, .ref e0.1, .int 0])), (q1, .inl (y2, 0, .inl (fun _ => 0)))] ∧ t = [(y2, .int)]) (fun _ => False) := by
  refine k_of (cc := cX11_program) (maxL := 1) (ret := (some (.array .int))) (by decide) rfl (Nat.le_of_ble_eq_true rfl) ?_
  intro p e s m args below meth c A ls hx hb hr hts hown hlocks hml hex hh hl
  have hown : s.vm.findClass RX11 = some m.cls := hown
  have hl : lv_has ls 1 [(0, .ref pa)] := hl
  refine lv_aload_n hx hb dX11_program_0 rfl (lv_at hl 0 rfl) ?_
  refine lv_iconst (v := 0) hx hb dX11_program_1 (by decide) ?_
  refine lv_aload_n hx hb dX11_program_2 rfl (lv_at hl 0 rfl) ?_
  refine k_get (C := RX11) (T := TX11) (N := 11) (ci := 16) (v := .ref pi) hx hb hts ws_c_X11_program_0 hown hh 0 rfl rfl 3 (by decide) (hts _ (wo_c_X11_program_in _ (List.mem_of_getElem? (i := 0) rfl))) rfl dX11_program_3 ?_
  refine k_callV (C := RJx4a65c) (T := TJx4a65c) (N := 3) (ci := 4) (q0 := 1) (wr := [(pa, .inr (16, [.int pt, .ref pr, .ref pp, .ref pi, .ref pl, .ref pf, .ref pm, .ref ps, .ref pe, .int 0, .int 0]))]) (rest := [.int 0, .ref pa]) (own := RX11) ⟨hx, hb, hml, hown, hts⟩ (c_size l hst D e0 pi 0 (.ref e0.1) 0 ) (cwV 0 hts gi_c_X11_program_1 rfl rfl rfl (by decide +kernel) ⟨Nat.le_of_ble_eq_true rfl, Nat.le_of_ble_eq_true rfl⟩) hh rfl rfl [1] [0] [] rfl rfl rfl rfl (by decide) rfl rfl hl rfl (Nat.le_of_ble_eq_true rfl) dX11_program_6 ⟨Nat.le_of_ble_eq_true rfl, (Nat.le_of_ble_eq_true rfl)⟩ (fun _ _ _ _ _ h => h.elim) (fun v w ty1 H locs hp hh => ?_)
  obtain ⟨rfl, rfl, rfl⟩ := hp
  have hh : kH D kStr e0 A s H [(pa, .inr (16, [.int pt, .ref pr, .ref pp, .ref pi, .ref pl, .ref pf, .ref pm, .ref ps, .ref pe, .int 0, .int 0])), (pi, .inr (4, [.int 0, .ref e0.1, .int 0]))] [] _ := hh
  refine W.eq (g2 := F0 m 9 ls [.int 0, .int 0, .ref pa]) (by first | rfl | decide) ?_
  refine k_callV (C := RX11) (T := TX11) (N := 11) (ci := 16) (q0 := 0) (wr := []) (rest := []) (own := RX11) ⟨hx, hb, hml, hown, hts⟩ (c_X11_together l hst D e0 pa pt pr pp pi pl pf pm ps pe ) (cwV 2 hts gi_c_X11_program_2 rfl rfl rfl (by decide +kernel) ⟨Nat.le_of_ble_eq_true rfl, Nat.le_of_ble_eq_true rfl⟩) hh rfl rfl [0, 1] [] [] rfl rfl rfl rfl (by decide) rfl rfl hl rfl (Nat.le_of_ble_eq_true rfl) dX11_program_9 ⟨Nat.le_of_ble_eq_true rfl, (Nat.le_of_ble_eq_true rfl)⟩ (fun _ _ _ _ _ h => h.elim) (fun v w ty1 H locs hp hh => ?_)
  obtain ⟨q1, y2, rfl, rfl, rfl⟩ := hp
  have hh : kH D kStr e0 A s H [(pa, .inr (16, [.int pt, .ref pr, .ref pp, .ref pi, .ref pl, .ref pf, .ref pm, .ref ps, .ref pe, .int 0, .int 0])), (pi, .inr (4, [.int 0, .ref e0.1, .int 0])), (q1, .inl (y2, 0, .inl (fun _ => 0)))] [(y2, .int)] _ := hh
  refine W.eq (g2 := F0 m 12 ls [.ref q1]) (by first | rfl | decide) ?_
  exact k_enda (by first | exact Or.inl ⟨_, rfl⟩ | exact Or.inr ⟨_, rfl⟩) (by first | exact Or.inr ⟨_, rfl⟩ | exact Or.inl rfl) hx hb hr hlocks hh ⟨q1, y2, rfl, rfl, rfl⟩ [0, 1, 2] [0] rfl rfl rfl (Nat.le_of_ble_eq_true rfl) (Nat.le_of_ble_eq_true rfl) dX11_program_12
def wo_c_X11_programLength : List Cond := [Cond.fieldLink RX11 46 "SegueworksModel" "thrown" "I"]
def wk_c_X11_programLength : List Cond := Cond.code yX11_programLength cX11_programLength 1 (some .int) :: (wo_c_X11_programLength ++ ((u_ws RX11 TX11 11) ++ (wsV RX11 157 RX11 yX11_program wk_c_X11_program)))
theorem wo_c_X11_programLength_in : ∀ w ∈ wo_c_X11_programLength, w ∈ wk_c_X11_programLength := fun w h => List.mem_cons_of_mem _ (List.mem_append_left _ h)
theorem ws_c_X11_programLength_0 : ∀ w ∈ u_ws RX11 TX11 11, w ∈ wk_c_X11_programLength := fun w h => List.mem_cons_of_mem _ (List.mem_append_right _ (List.mem_append_left _ h))
theorem gi_c_X11_programLength_1 : GoodIn wk_c_X11_programLength (wsV RX11 157 RX11 yX11_program wk_c_X11_program) := fun w h => ⟨List.mem_cons_of_mem _ (List.mem_append_right _ (List.mem_append_right _ h)), good_of_word (kg_V gk_c_X11_program w h)⟩
theorem gk_c_X11_programLength : ∀ w ∈ wk_c_X11_programLength, goodWord w = true := List.forall_mem_cons.mpr ⟨rfl, (List.forall_mem_append.mpr ⟨(show ∀ w ∈ wo_c_X11_programLength, goodWord w = true by decide +kernel), (List.forall_mem_append.mpr ⟨(show ∀ w ∈ u_ws RX11 TX11 11, goodWord w = true by decide +kernel), (kg_V gk_c_X11_program)⟩)⟩)⟩
set_option maxHeartbeats 4000000 in
set_option maxRecDepth 100000 in
theorem c_X11_programLength (l : Launch) (hst : l.stackTraces = false) (D : va_G) (e0 : kE) (pa : Nat) (pt : Int32) (pr : Nat) (pp : Nat) (pi : Nat) (pl : Nat) (pf : Nat) (pm : Nat) (ps : Nat) (pe : Nat)  : kM l yX11_programLength wk_c_X11_programLength 2 48 1 0 D kStr e0 [] [(pa, .inr (16, [.int pt, .ref pr, .ref pp, .ref pi, .ref pl, .ref pf, .ref pm, .ref ps, .ref pe, .int 0, .int 0])), (pi, .inr (4, [.int 0, .ref e0.1, .int 0]))] [.ref pa] (fun v w t => v = some (.int 0) ∧ w = [(pa, .inr (16, [.int 0, .ref pr, .ref pp, .ref pi, .ref pl, .ref pf, .ref pm, .ref ps, .ref pe, .int 0, .int 0]))] ∧ t = []) (fun _ => False) := by
  refine k_of (cc := cX11_programLength) (maxL := 1) (ret := (some .int)) (by decide) rfl (Nat.le_of_ble_eq_true rfl) ?_
  intro p e s m args below meth c A ls hx hb hr hts hown hlocks hml hex hh hl
  have hown : s.vm.findClass RX11 = some m.cls := hown
  have hl : lv_has ls 1 [(0, .ref pa)] := hl
  refine lv_aload_n hx hb dX11_programLength_0 rfl (lv_at hl 0 rfl) ?_
  refine lv_iconst (v := 0) hx hb dX11_programLength_1 (by decide) ?_
  refine k_put (C := RX11) (T := TX11) (N := 11) (ci := 16) (v := .int 0) (ws' := [(pa, .inr (16, [.int 0, .ref pr, .ref pp, .ref pi, .ref pl, .ref pf, .ref pm, .ref ps, .ref pe, .int 0, .int 0])), (pi, .inr (4, [.int 0, .ref e0.1, .int 0]))]) hx hb hts ws_c_X11_programLength_0 tyX11 tyX11_ok nmX11 hown hh 0 rfl rfl 0 (by decide) (hts _ (wo_c_X11_programLength_in _ (List.mem_of_getElem? (i := 0) rfl))) rfl rfl rfl (Nat.le_of_ble_eq_true rfl) dX11_programLength_2 rfl (fun H locs hh => ?_)
  refine lv_aload_n hx hb dX11_programLength_5 rfl (lv_at hl 0 rfl) ?_
  refine k_callV (C := RX11) (T := TX11) (N := 11) (ci := 16) (q0 := 0) (wr := []) (rest := []) (own := RX11) ⟨hx, hb, hml, hown, hts⟩ (c_X11_program l hst D e0 pa 0 pr pp pi pl pf pm ps pe ) (cwV 0 hts gi_c_X11_programLength_1 rfl rfl rfl (by decide +kernel) ⟨Nat.le_of_ble_eq_true rfl, Nat.le_of_ble_eq_true rfl⟩) hh rfl rfl [0, 1] [] [] rfl rfl rfl rfl (by decide) rfl rfl hl rfl (Nat.le_of_ble_eq_true rfl) dX11_programLength_6 ⟨Nat.le_of_ble_eq_true rfl, (Nat.le_of_ble_eq_true rfl)⟩ (fun _ _ _ _ _ h => h.elim) (fun v w ty1 H locs hp hh => ?_)
  obtain ⟨q1, y2, rfl, rfl, rfl⟩ := hp
  have hh : kH D kStr e0 A s H [(pa, .inr (16, [.int 0, .ref pr, .ref pp, .ref pi, .ref pl, .ref pf, .ref pm, .ref ps, .ref pe, .int 0, .int 0])), (pi, .inr (4, [.int 0, .ref e0.1, .int 0])), (q1, .inl (y2, 0, .inl (fun _ => 0)))] [(y2, .int)] _ := hh
  refine W.eq (g2 := F0 m 9 ls [.ref q1]) (by first | rfl | decide) ?_
  refine k_alen (v := 0) hx hb hh 2 0 rfl rfl rfl dX11_programLength_9 ?_
  exact k_endi hx hb hr hlocks hh ⟨rfl, rfl, rfl⟩ [0] [] rfl rfl rfl (Nat.le_of_ble_eq_true rfl) (Nat.le_of_ble_eq_true rfl) dX11_programLength_10
def wo_c_X11_heard : List Cond := [Cond.fieldLink RX11 46 "SegueworksModel" "thrown" "I"]
def wk_c_X11_heard : List Cond := Cond.code yX11_heard cX11_heard 3 (some .int) :: (wo_c_X11_heard ++ ((wsV RX11 157 RX11 yX11_program wk_c_X11_program) ++ ((va_wsS RX11 54 yX11_in wk_c_X11_in_f) ++ (u_ws RX11 TX11 11))))
theorem wo_c_X11_heard_in : ∀ w ∈ wo_c_X11_heard, w ∈ wk_c_X11_heard := fun w h => List.mem_cons_of_mem _ (List.mem_append_left _ h)
theorem gi_c_X11_heard_0 : GoodIn wk_c_X11_heard (wsV RX11 157 RX11 yX11_program wk_c_X11_program) := fun w h => ⟨List.mem_cons_of_mem _ (List.mem_append_right _ (List.mem_append_left _ h)), good_of_word (kg_V gk_c_X11_program w h)⟩
theorem gi_c_X11_heard_1 : GoodIn wk_c_X11_heard (va_wsS RX11 54 yX11_in wk_c_X11_in_f) := fun w h => ⟨List.mem_cons_of_mem _ (List.mem_append_right _ (List.mem_append_right _ (List.mem_append_left _ h))), good_of_word (kg_S gk_c_X11_in_f w h)⟩
theorem ws_c_X11_heard_2 : ∀ w ∈ u_ws RX11 TX11 11, w ∈ wk_c_X11_heard := fun w h => List.mem_cons_of_mem _ (List.mem_append_right _ (List.mem_append_right _ (List.mem_append_right _ h)))
theorem gk_c_X11_heard : ∀ w ∈ wk_c_X11_heard, goodWord w = true := List.forall_mem_cons.mpr ⟨rfl, (List.forall_mem_append.mpr ⟨(show ∀ w ∈ wo_c_X11_heard, goodWord w = true by decide +kernel), (List.forall_mem_append.mpr ⟨(kg_V gk_c_X11_program), (List.forall_mem_append.mpr ⟨(kg_S gk_c_X11_in_f), (show ∀ w ∈ u_ws RX11 TX11 11, goodWord w = true by decide +kernel)⟩)⟩)⟩)⟩
set_option maxHeartbeats 4000000 in
set_option maxRecDepth 100000 in
theorem c_X11_heard (l : Launch) (hst : l.stackTraces = false) (D : va_G) (e0 : kE) (pa : Nat) (pt : Int32) (pr : Nat) (pp : Nat) (pi : Nat) (pl : Nat) (pf : Nat) (pm : Nat) (ps : Nat) (pe : Nat) (a1 : Int32)  : kM l yX11_heard wk_c_X11_heard 2 48 1 0 D kStr e0 [] [(pa, .inr (16, [.int pt, .ref pr, .ref pp, .ref pi, .ref pl, .ref pf, .ref pm, .ref ps, .ref pe, .int 0, .int 0])), (pi, .inr (4, [.int 0, .ref e0.1, .int 0]))] [.ref pa, .int a1] (fun v w t => v = some (.int 0) ∧ w = [(pa, .inr (16, [.int 1, .ref pr, .ref pp, .ref pi, .ref pl, .ref pf, .ref pm, .ref ps, .ref pe, .int 0, .int 0]))] ∧ t = []) (fun _ => False) := by
  refine k_of (cc := cX11_heard) (maxL := 3) (ret := (some .int)) (by decide) rfl (Nat.le_of_ble_eq_true rfl) ?_
  intro p e s m args below meth c A ls hx hb hr hts hown hlocks hml hex hh hl
  have hown : s.vm.findClass RX11 = some m.cls := hown
  have hl : lv_has ls 3 [(0, .ref pa), (1, .int a1)] := hl
  refine lv_aload_n hx hb dX11_heard_0 rfl (lv_at hl 0 rfl) ?_
  refine k_callV (C := RX11) (T := TX11) (N := 11) (ci := 16) (q0 := 0) (wr := []) (rest := []) (own := RX11) ⟨hx, hb, hml, hown, hts⟩ (c_X11_program l hst D e0 pa pt pr pp pi pl pf pm ps pe ) (cwV 0 hts gi_c_X11_heard_0 rfl rfl rfl (by decide +kernel) ⟨Nat.le_of_ble_eq_true rfl, Nat.le_of_ble_eq_true rfl⟩) hh rfl rfl [0, 1] [] [] rfl rfl rfl rfl (by decide) rfl rfl hl rfl (Nat.le_of_ble_eq_true rfl) dX11_heard_1 ⟨Nat.le_of_ble_eq_true rfl, (Nat.le_of_ble_eq_true rfl)⟩ (fun _ _ _ _ _ h => h.elim) (fun v w ty1 H locs hp hh => ?_)
  obtain ⟨q1, y2, rfl, rfl, rfl⟩ := hp
  have hh : kH D kStr e0 A s H [(pa, .inr (16, [.int pt, .ref pr, .ref pp, .ref pi, .ref pl, .ref pf, .ref pm, .ref ps, .ref pe, .int 0, .int 0])), (pi, .inr (4, [.int 0, .ref e0.1, .int 0])), (q1, .inl (y2, 0, .inl (fun _ => 0)))] [(y2, .int)] _ := hh
  refine W.eq (g2 := F0 m 4 ls [.ref q1]) (by first | rfl | decide) ?_
  refine lv_astore_n (lv' := [(2, .ref q1), (0, .ref pa), (1, .int a1)]) hx hb dX11_heard_4 rfl hl (by decide) rfl (fun ls hl => ?_)
  refine lv_aload_n hx hb dX11_heard_5 rfl (lv_at hl 1 rfl) ?_
  refine lv_iload_n hx hb dX11_heard_6 rfl (lv_at hl 2 rfl) ?_
  refine lv_i2l (v := (Int32.toInt64 a1)) hx hb dX11_heard_7 rfl ?_
  refine lv_lconst (v := 0) hx hb dX11_heard_8 (by decide) ?_
  refine lv_aload_n hx hb dX11_heard_9 rfl (lv_at hl 0 rfl) ?_
  refine k_alen (v := 0) hx hb hh 2 0 rfl rfl rfl dX11_heard_10 ?_
  refine lv_iconst (v := 1) hx hb dX11_heard_11 (by decide) ?_
  refine lv_isub hx hb dX11_heard_12 ?_
  refine W.eq (g2 := F0 m 13 ls [.int (-1), .long 0, .long (Int32.toInt64 a1), .ref pa]) (by first | rfl | decide) ?_
  refine lv_i2l (v := (-1)) hx hb dX11_heard_13 (by decide) ?_
  refine k_callS (wr := [(pa, .inr (16, [.int pt, .ref pr, .ref pp, .ref pi, .ref pl, .ref pf, .ref pm, .ref ps, .ref pe, .int 0, .int 0])), (pi, .inr (4, [.int 0, .ref e0.1, .int 0])), (q1, .inl (y2, 0, .inl (fun _ => 0)))]) (rest := [.ref pa]) (own := RX11) ⟨hx, hb, hml, hown, hts⟩ (c_X11_in_f l hst D e0 ((Int32.toInt64 a1)) 0 (-1) (k_empty _)) (va_cwS 3 hts gi_c_X11_heard_1 rfl rfl rfl (by decide +kernel) ⟨Nat.le_of_ble_eq_true rfl, Nat.le_of_ble_eq_true rfl⟩) hh [] [0, 1, 2] [] rfl rfl rfl rfl (by decide) rfl rfl hl rfl (Nat.le_of_ble_eq_true rfl) dX11_heard_14 ⟨Nat.le_of_ble_eq_true rfl, (Nat.le_of_ble_eq_true rfl)⟩ (fun _ _ _ _ _ h => h.elim) (fun v w ty1 H locs hp hh => ?_)
  obtain ⟨rfl, rfl, rfl⟩ := hp
  have hh : kH D kStr e0 A s H [(pa, .inr (16, [.int pt, .ref pr, .ref pp, .ref pi, .ref pl, .ref pf, .ref pm, .ref ps, .ref pe, .int 0, .int 0])), (pi, .inr (4, [.int 0, .ref e0.1, .int 0])), (q1, .inl (y2, 0, .inl (fun _ => 0)))] [(y2, .int)] _ := hh
  refine W.eq (g2 := F0 m 17 ls [.int 0, .ref pa]) (by first | rfl | decide) ?_
  refine lv_if_eq (tgt := 24) hx hb dX11_heard_17 (by decide) (fun _ => ?_) (fun c_17 => absurd (by decide) c_17)
  refine lv_iconst (v := 1) hx hb dX11_heard_24 (by decide) ?_
  refine k_put (C := RX11) (T := TX11) (N := 11) (ci := 16) (v := .int 1) (ws' := [(pa, .inr (16, [.int 1, .ref pr, .ref pp, .ref pi, .ref pl, .ref pf, .ref pm, .ref ps, .ref pe, .int 0, .int 0])), (pi, .inr (4, [.int 0, .ref e0.1, .int 0])), (q1, .inl (y2, 0, .inl (fun _ => 0)))]) hx hb hts ws_c_X11_heard_2 tyX11 tyX11_ok nmX11 hown hh 0 rfl rfl 0 (by decide) (hts _ (wo_c_X11_heard_in _ (List.mem_of_getElem? (i := 0) rfl))) rfl rfl rfl (Nat.le_of_ble_eq_true rfl) dX11_heard_25 rfl (fun H locs hh => ?_)
  refine lv_aload_n hx hb dX11_heard_28 rfl (lv_at hl 1 rfl) ?_
  refine k_get (C := RX11) (T := TX11) (N := 11) (ci := 16) (v := .int 1) hx hb hts ws_c_X11_heard_2 hown hh 0 rfl rfl 0 (by decide) (hts _ (wo_c_X11_heard_in _ (List.mem_of_getElem? (i := 0) rfl))) rfl dX11_heard_29 ?_
  refine lv_if_le (tgt := 39) hx hb dX11_heard_32 (by decide) (fun c_32 => absurd c_32 (by decide)) (fun _ => ?_)
  refine lv_iconst (v := 0) hx hb dX11_heard_35 (by decide) ?_
  refine lv_goto (tgt := 42) hx hb dX11_heard_36 (by decide) ?_
  exact k_endi hx hb hr hlocks hh ⟨rfl, rfl, rfl⟩ [0] [] rfl rfl rfl (Nat.le_of_ble_eq_true rfl) (Nat.le_of_ble_eq_true rfl) dX11_heard_42
def wo_c_X11_edition : List Cond := [Cond.constantLong RX11 218 (-30), Cond.constantLong RX11 220 30, Cond.fieldLink RX11 28 "SegueworksModel" "items" "Ljava/util/ArrayList;", Cond.fieldLink RX11 46 "SegueworksModel" "thrown" "I"]
def wk_c_X11_edition : List Cond := Cond.code yX11_edition cX11_edition 5 (some .int) :: (wo_c_X11_edition ++ ((va_wsS RX11 54 yX11_in wk_c_X11_in_t) ++ ((u_ws RX11 TX11 11) ++ (wsV RX11 222 RJx4a65c yJx4a65c_isEmpty_aae02 wk_c_isEmpty))))
theorem wo_c_X11_edition_in : ∀ w ∈ wo_c_X11_edition, w ∈ wk_c_X11_edition := fun w h => List.mem_cons_of_mem _ (List.mem_append_left _ h)
theorem gi_c_X11_edition_0 : GoodIn wk_c_X11_edition (va_wsS RX11 54 yX11_in wk_c_X11_in_t) := fun w h => ⟨List.mem_cons_of_mem _ (List.mem_append_right _ (List.mem_append_left _ h)), good_of_word (kg_S gk_c_X11_in_t w h)⟩
theorem ws_c_X11_edition_1 : ∀ w ∈ u_ws RX11 TX11 11, w ∈ wk_c_X11_edition := fun w h => List.mem_cons_of_mem _ (List.mem_append_right _ (List.mem_append_right _ (List.mem_append_left _ h)))
theorem gi_c_X11_edition_2 : GoodIn wk_c_X11_edition (wsV RX11 222 RJx4a65c yJx4a65c_isEmpty_aae02 wk_c_isEmpty) := fun w h => ⟨List.mem_cons_of_mem _ (List.mem_append_right _ (List.mem_append_right _ (List.mem_append_right _ h))), good_of_word (kg_V gk_c_isEmpty w h)⟩
theorem gk_c_X11_edition : ∀ w ∈ wk_c_X11_edition, goodWord w = true := List.forall_mem_cons.mpr ⟨rfl, (List.forall_mem_append.mpr ⟨(show ∀ w ∈ wo_c_X11_edition, goodWord w = true by decide +kernel), (List.forall_mem_append.mpr ⟨(kg_S gk_c_X11_in_t), (List.forall_mem_append.mpr ⟨(show ∀ w ∈ u_ws RX11 TX11 11, goodWord w = true by decide +kernel), (kg_V gk_c_isEmpty)⟩)⟩)⟩)⟩
set_option maxHeartbeats 4000000 in
set_option maxRecDepth 100000 in
theorem c_X11_edition (l : Launch) (hst : l.stackTraces = false) (D : va_G) (e0 : kE) (pa : Nat) (pt : Int32) (pr : Nat) (pp : Nat) (pi : Nat) (pl : Nat) (pf : Nat) (pm : Nat) (ps : Nat) (pe : Nat) (a1 : Int32) (h : -30 ≤ a1 ∧ a1 ≤ 30) : kM l yX11_edition wk_c_X11_edition 1 25 0 0 D kStr e0 [] [(pa, .inr (16, [.int pt, .ref pr, .ref pp, .ref pi, .ref pl, .ref pf, .ref pm, .ref ps, .ref pe, .int 0, .int 0])), (pi, .inr (4, [.int 0, .ref e0.1, .int 0]))] [.ref pa, .int a1] (fun v w t => v = some (.int 0) ∧ w = [(pa, .inr (16, [.int 2, .ref pr, .ref pp, .ref pi, .ref pl, .ref pf, .ref pm, .ref ps, .ref pe, .int 0, .int 0]))] ∧ t = []) (fun _ => False) := by
  refine k_of (cc := cX11_edition) (maxL := 5) (ret := (some .int)) (by decide) rfl (Nat.le_of_ble_eq_true rfl) ?_
  intro p e s m args below meth c A ls hx hb hr hts hown hlocks hml hex hh hl
  have hown : s.vm.findClass RX11 = some m.cls := hown
  have hl : lv_has ls 5 [(0, .ref pa), (1, .int a1)] := hl
  refine lv_aload_n hx hb dX11_edition_0 rfl (lv_at hl 0 rfl) ?_
  refine lv_iload_n hx hb dX11_edition_1 rfl (lv_at hl 1 rfl) ?_
  refine lv_i2l (v := (Int32.toInt64 a1)) hx hb dX11_edition_2 rfl ?_
  refine lv_ldc2 (v := (-30)) hx hb hown (hts _ (wo_c_X11_edition_in _ (List.mem_of_getElem? (i := 0) rfl))) dX11_edition_3 ?_
  refine lv_ldc2 (v := 30) hx hb hown (hts _ (wo_c_X11_edition_in _ (List.mem_of_getElem? (i := 1) rfl))) dX11_edition_6 ?_
  refine k_callS (wr := [(pa, .inr (16, [.int pt, .ref pr, .ref pp, .ref pi, .ref pl, .ref pf, .ref pm, .ref ps, .ref pe, .int 0, .int 0])), (pi, .inr (4, [.int 0, .ref e0.1, .int 0]))]) (rest := [.ref pa]) (own := RX11) ⟨hx, hb, hml, hown, hts⟩ (c_X11_in_t l hst D e0 ((Int32.toInt64 a1)) (-30) 30 (k_rngT (by decide) (by decide) h)) (va_cwS 3 hts gi_c_X11_edition_0 rfl rfl rfl (by decide +kernel) ⟨Nat.le_of_ble_eq_true rfl, Nat.le_of_ble_eq_true rfl⟩) hh [] [0, 1] [] rfl rfl rfl rfl (by decide) rfl rfl hl rfl (Nat.le_of_ble_eq_true rfl) dX11_edition_9 ⟨Nat.le_of_ble_eq_true rfl, (Nat.le_of_ble_eq_true rfl)⟩ (fun _ _ _ _ _ h => h.elim) (fun v w ty1 H locs hp hh => ?_)
  obtain ⟨rfl, rfl, rfl⟩ := hp
  have hh : kH D kStr e0 A s H [(pa, .inr (16, [.int pt, .ref pr, .ref pp, .ref pi, .ref pl, .ref pf, .ref pm, .ref ps, .ref pe, .int 0, .int 0])), (pi, .inr (4, [.int 0, .ref e0.1, .int 0]))] [] _ := hh
  refine W.eq (g2 := F0 m 12 ls [.int 1, .ref pa]) (by first | rfl | decide) ?_
  refine lv_if_ne (tgt := 19) hx hb dX11_edition_12 (by decide) (fun _ => ?_) (fun c_12 => absurd c_12 (by decide))
  refine lv_aload_n hx hb dX11_edition_19 rfl (lv_at hl 0 rfl) ?_
  refine k_get (C := RX11) (T := TX11) (N := 11) (ci := 16) (v := .ref pi) hx hb hts ws_c_X11_edition_1 hown hh 0 rfl rfl 3 (by decide) (hts _ (wo_c_X11_edition_in _ (List.mem_of_getElem? (i := 2) rfl))) rfl dX11_edition_20 ?_
  refine k_callV (C := RJx4a65c) (T := TJx4a65c) (N := 3) (ci := 4) (q0 := 1) (wr := [(pa, .inr (16, [.int pt, .ref pr, .ref pp, .ref pi, .ref pl, .ref pf, .ref pm, .ref ps, .ref pe, .int 0, .int 0]))]) (rest := [.ref pa]) (own := RX11) ⟨hx, hb, hml, hown, hts⟩ (c_isEmpty l hst D e0 pi 0 (.ref e0.1) ) (cwV 0 hts gi_c_X11_edition_2 rfl rfl rfl (by decide +kernel) ⟨Nat.le_of_ble_eq_true rfl, Nat.le_of_ble_eq_true rfl⟩) hh rfl rfl [1] [0] [] rfl rfl rfl rfl (by decide) rfl rfl hl rfl (Nat.le_of_ble_eq_true rfl) dX11_edition_23 ⟨Nat.le_of_ble_eq_true rfl, (Nat.le_of_ble_eq_true rfl)⟩ (fun _ _ _ _ _ h => h.elim) (fun v w ty1 H locs hp hh => ?_)
  obtain ⟨rfl, rfl, rfl⟩ := hp
  have hh : kH D kStr e0 A s H [(pa, .inr (16, [.int pt, .ref pr, .ref pp, .ref pi, .ref pl, .ref pf, .ref pm, .ref ps, .ref pe, .int 0, .int 0])), (pi, .inr (4, [.int 0, .ref e0.1, .int 0]))] [] _ := hh
  refine W.eq (g2 := F0 m 26 ls [.int 1, .ref pa]) (by first | rfl | decide) ?_
  refine lv_if_eq (tgt := 33) hx hb dX11_edition_26 (by decide) (fun c_26 => absurd c_26 (by decide)) (fun _ => ?_)
  refine lv_iconst (v := 2) hx hb dX11_edition_29 (by decide) ?_
  refine lv_goto (tgt := 49) hx hb dX11_edition_30 (by decide) ?_
  refine k_put (C := RX11) (T := TX11) (N := 11) (ci := 16) (v := .int 2) (ws' := [(pa, .inr (16, [.int 2, .ref pr, .ref pp, .ref pi, .ref pl, .ref pf, .ref pm, .ref ps, .ref pe, .int 0, .int 0])), (pi, .inr (4, [.int 0, .ref e0.1, .int 0]))]) hx hb hts ws_c_X11_edition_1 tyX11 tyX11_ok nmX11 hown hh 0 rfl rfl 0 (by decide) (hts _ (wo_c_X11_edition_in _ (List.mem_of_getElem? (i := 3) rfl))) rfl rfl rfl (Nat.le_of_ble_eq_true rfl) dX11_edition_49 rfl (fun H locs hh => ?_)
  refine lv_aload_n hx hb dX11_edition_52 rfl (lv_at hl 0 rfl) ?_
  refine k_get (C := RX11) (T := TX11) (N := 11) (ci := 16) (v := .int 2) hx hb hts ws_c_X11_edition_1 hown hh 0 rfl rfl 0 (by decide) (hts _ (wo_c_X11_edition_in _ (List.mem_of_getElem? (i := 3) rfl))) rfl dX11_edition_53 ?_
  refine lv_if_le (tgt := 61) hx hb dX11_edition_56 (by decide) (fun c_56 => absurd c_56 (by decide)) (fun _ => ?_)
  refine lv_iconst (v := 0) hx hb dX11_edition_59 (by decide) ?_
  exact k_endi hx hb hr hlocks hh ⟨rfl, rfl, rfl⟩ [0] [] rfl rfl rfl (Nat.le_of_ble_eq_true rfl) (Nat.le_of_ble_eq_true rfl) dX11_edition_60
def wo_c_X11_edition_bad : List Cond := [Cond.constantLong RX11 218 (-30), Cond.constantLong RX11 220 30, Cond.fieldLink RX11 46 "SegueworksModel" "thrown" "I"]
def wk_c_X11_edition_bad : List Cond := Cond.code yX11_edition cX11_edition 5 (some .int) :: (wo_c_X11_edition_bad ++ ((va_wsS RX11 54 yX11_in wk_c_X11_in_f) ++ (u_ws RX11 TX11 11)))
theorem wo_c_X11_edition_bad_in : ∀ w ∈ wo_c_X11_edition_bad, w ∈ wk_c_X11_edition_bad := fun w h => List.mem_cons_of_mem _ (List.mem_append_left _ h)
theorem gi_c_X11_edition_bad_0 : GoodIn wk_c_X11_edition_bad (va_wsS RX11 54 yX11_in wk_c_X11_in_f) := fun w h => ⟨List.mem_cons_of_mem _ (List.mem_append_right _ (List.mem_append_left _ h)), good_of_word (kg_S gk_c_X11_in_f w h)⟩
theorem ws_c_X11_edition_bad_1 : ∀ w ∈ u_ws RX11 TX11 11, w ∈ wk_c_X11_edition_bad := fun w h => List.mem_cons_of_mem _ (List.mem_append_right _ (List.mem_append_right _ h))
theorem gk_c_X11_edition_bad : ∀ w ∈ wk_c_X11_edition_bad, goodWord w = true := List.forall_mem_cons.mpr ⟨rfl, (List.forall_mem_append.mpr ⟨(show ∀ w ∈ wo_c_X11_edition_bad, goodWord w = true by decide +kernel), (List.forall_mem_append.mpr ⟨(kg_S gk_c_X11_in_f), (show ∀ w ∈ u_ws RX11 TX11 11, goodWord w = true by decide +kernel)⟩)⟩)⟩
set_option maxHeartbeats 4000000 in
set_option maxRecDepth 100000 in
theorem c_X11_edition_bad (l : Launch) (hst : l.stackTraces = false) (D : va_G) (e0 : kE) (pa : Nat) (pt : Int32) (pr : Nat) (pp : Nat) (pi : Nat) (pl : Nat) (pf : Nat) (pm : Nat) (ps : Nat) (pe : Nat) (a1 : Int32) (h : ¬ (-30 ≤ a1 ∧ a1 ≤ 30)) : kM l yX11_edition wk_c_X11_edition_bad 1 25 0 0 D kStr e0 [] [(pa, .inr (16, [.int pt, .ref pr, .ref pp, .ref pi, .ref pl, .ref pf, .ref pm, .ref ps, .ref pe, .int 0, .int 0]))] [.ref pa, .int a1] (fun v w t => v = some (.int 0) ∧ w = [(pa, .inr (16, [.int 1, .ref pr, .ref pp, .ref pi, .ref pl, .ref pf, .ref pm, .ref ps, .ref pe, .int 0, .int 0]))] ∧ t = []) (fun _ => False) := by
  refine k_of (cc := cX11_edition) (maxL := 5) (ret := (some .int)) (by decide) rfl (Nat.le_of_ble_eq_true rfl) ?_
  intro p e s m args below meth c A ls hx hb hr hts hown hlocks hml hex hh hl
  have hown : s.vm.findClass RX11 = some m.cls := hown
  have hl : lv_has ls 5 [(0, .ref pa), (1, .int a1)] := hl
  refine lv_aload_n hx hb dX11_edition_0 rfl (lv_at hl 0 rfl) ?_
  refine lv_iload_n hx hb dX11_edition_1 rfl (lv_at hl 1 rfl) ?_
  refine lv_i2l (v := (Int32.toInt64 a1)) hx hb dX11_edition_2 rfl ?_
  refine lv_ldc2 (v := (-30)) hx hb hown (hts _ (wo_c_X11_edition_bad_in _ (List.mem_of_getElem? (i := 0) rfl))) dX11_edition_3 ?_
  refine lv_ldc2 (v := 30) hx hb hown (hts _ (wo_c_X11_edition_bad_in _ (List.mem_of_getElem? (i := 1) rfl))) dX11_edition_6 ?_
  refine k_callS (wr := [(pa, .inr (16, [.int pt, .ref pr, .ref pp, .ref pi, .ref pl, .ref pf, .ref pm, .ref ps, .ref pe, .int 0, .int 0]))]) (rest := [.ref pa]) (own := RX11) ⟨hx, hb, hml, hown, hts⟩ (c_X11_in_f l hst D e0 ((Int32.toInt64 a1)) (-30) 30 (k_rngF (by decide) (by decide) h)) (va_cwS 3 hts gi_c_X11_edition_bad_0 rfl rfl rfl (by decide +kernel) ⟨Nat.le_of_ble_eq_true rfl, Nat.le_of_ble_eq_true rfl⟩) hh [] [0] [] rfl rfl rfl rfl (by decide) rfl rfl hl rfl (Nat.le_of_ble_eq_true rfl) dX11_edition_9 ⟨Nat.le_of_ble_eq_true rfl, (Nat.le_of_ble_eq_true rfl)⟩ (fun _ _ _ _ _ h => h.elim) (fun v w ty1 H locs hp hh => ?_)
  obtain ⟨rfl, rfl, rfl⟩ := hp
  have hh : kH D kStr e0 A s H [(pa, .inr (16, [.int pt, .ref pr, .ref pp, .ref pi, .ref pl, .ref pf, .ref pm, .ref ps, .ref pe, .int 0, .int 0]))] [] _ := hh
  refine W.eq (g2 := F0 m 12 ls [.int 0, .ref pa]) (by first | rfl | decide) ?_
  refine lv_if_ne (tgt := 19) hx hb dX11_edition_12 (by decide) (fun c_12 => absurd (by decide) c_12) (fun _ => ?_)
  refine lv_iconst (v := 1) hx hb dX11_edition_15 (by decide) ?_
  refine lv_goto (tgt := 49) hx hb dX11_edition_16 (by decide) ?_
  refine k_put (C := RX11) (T := TX11) (N := 11) (ci := 16) (v := .int 1) (ws' := [(pa, .inr (16, [.int 1, .ref pr, .ref pp, .ref pi, .ref pl, .ref pf, .ref pm, .ref ps, .ref pe, .int 0, .int 0]))]) hx hb hts ws_c_X11_edition_bad_1 tyX11 tyX11_ok nmX11 hown hh 0 rfl rfl 0 (by decide) (hts _ (wo_c_X11_edition_bad_in _ (List.mem_of_getElem? (i := 2) rfl))) rfl rfl rfl (Nat.le_of_ble_eq_true rfl) dX11_edition_49 rfl (fun H locs hh => ?_)
  refine lv_aload_n hx hb dX11_edition_52 rfl (lv_at hl 0 rfl) ?_
  refine k_get (C := RX11) (T := TX11) (N := 11) (ci := 16) (v := .int 1) hx hb hts ws_c_X11_edition_bad_1 hown hh 0 rfl rfl 0 (by decide) (hts _ (wo_c_X11_edition_bad_in _ (List.mem_of_getElem? (i := 2) rfl))) rfl dX11_edition_53 ?_
  refine lv_if_le (tgt := 61) hx hb dX11_edition_56 (by decide) (fun c_56 => absurd c_56 (by decide)) (fun _ => ?_)
  refine lv_iconst (v := 0) hx hb dX11_edition_59 (by decide) ?_
  exact k_endi hx hb hr hlocks hh ⟨rfl, rfl, rfl⟩ [0] [] rfl rfl rfl (Nat.le_of_ble_eq_true rfl) (Nat.le_of_ble_eq_true rfl) dX11_edition_60
def wo_c_X11_earned : List Cond := [Cond.constantLong RX11 275 7, Cond.constantLong RX11 288 999, Cond.fieldLink RX11 46 "SegueworksModel" "thrown" "I", Cond.fieldLink RX11 28 "SegueworksModel" "items" "Ljava/util/ArrayList;"]
def wk_c_X11_earned : List Cond := Cond.code yX11_earned cX11_earned 6 (some .long) :: (wo_c_X11_earned ++ ((va_wsS RX11 54 yX11_in wk_c_X11_in_t) ++ ((u_ws RX11 TX11 11) ++ (wsV RX11 50 RJx4a65c yJx4a65c_size_8abf5 wk_c_size))))
theorem wo_c_X11_earned_in : ∀ w ∈ wo_c_X11_earned, w ∈ wk_c_X11_earned := fun w h => List.mem_cons_of_mem _ (List.mem_append_left _ h)
theorem gi_c_X11_earned_0 : GoodIn wk_c_X11_earned (va_wsS RX11 54 yX11_in wk_c_X11_in_t) := fun w h => ⟨List.mem_cons_of_mem _ (List.mem_append_right _ (List.mem_append_left _ h)), good_of_word (kg_S gk_c_X11_in_t w h)⟩
theorem ws_c_X11_earned_1 : ∀ w ∈ u_ws RX11 TX11 11, w ∈ wk_c_X11_earned := fun w h => List.mem_cons_of_mem _ (List.mem_append_right _ (List.mem_append_right _ (List.mem_append_left _ h)))
theorem gi_c_X11_earned_2 : GoodIn wk_c_X11_earned (wsV RX11 50 RJx4a65c yJx4a65c_size_8abf5 wk_c_size) := fun w h => ⟨List.mem_cons_of_mem _ (List.mem_append_right _ (List.mem_append_right _ (List.mem_append_right _ h))), good_of_word (kg_V gk_c_size w h)⟩
theorem gk_c_X11_earned : ∀ w ∈ wk_c_X11_earned, goodWord w = true := List.forall_mem_cons.mpr ⟨rfl, (List.forall_mem_append.mpr ⟨(show ∀ w ∈ wo_c_X11_earned, goodWord w = true by decide +kernel), (List.forall_mem_append.mpr ⟨(kg_S gk_c_X11_in_t), (List.forall_mem_append.mpr ⟨(show ∀ w ∈ u_ws RX11 TX11 11, goodWord w = true by decide +kernel), (kg_V gk_c_size)⟩)⟩)⟩)⟩
set_option maxHeartbeats 4000000 in
set_option maxRecDepth 100000 in
theorem c_X11_earned (l : Launch) (hst : l.stackTraces = false) (D : va_G) (e0 : kE) (pa : Nat) (pt : Int32) (pr : Nat) (pp : Nat) (pi : Nat) (pl : Nat) (pf : Nat) (pm : Nat) (ps : Nat) (pe : Nat) (a1 : Int32) (a2 : Int32) (h : 0 ≤ a1 ∧ a1 ≤ 7) (h2 : 1 ≤ a2 ∧ a2 ≤ 999) : kM l yX11_earned wk_c_X11_earned 1 25 0 0 D kStr e0 [] [(pa, .inr (16, [.int pt, .ref pr, .ref pp, .ref pi, .ref pl, .ref pf, .ref pm, .ref ps, .ref pe, .int 0, .int 0])), (pi, .inr (4, [.int 0, .ref e0.1, .int 0]))] [.ref pa, .int a1, .int a2] (fun v w t => v = some (.long 0) ∧ w = [(pa, .inr (16, [.int 0, .ref pr, .ref pp, .ref pi, .ref pl, .ref pf, .ref pm, .ref ps, .ref pe, .int 0, .int 0]))] ∧ t = []) (fun _ => False) := by
  refine k_of (cc := cX11_earned) (maxL := 6) (ret := (some .long)) (by decide) rfl (Nat.le_of_ble_eq_true rfl) ?_
  intro p e s m args below meth c A ls hx hb hr hts hown hlocks hml hex hh hl
  have hown : s.vm.findClass RX11 = some m.cls := hown
  have hl : lv_has ls 6 [(0, .ref pa), (1, .int a1), (2, .int a2)] := hl
  refine lv_aload_n hx hb dX11_earned_0 rfl (lv_at hl 0 rfl) ?_
  refine lv_iload_n hx hb dX11_earned_1 rfl (lv_at hl 1 rfl) ?_
  refine lv_i2l (v := (Int32.toInt64 a1)) hx hb dX11_earned_2 rfl ?_
  refine lv_lconst (v := 0) hx hb dX11_earned_3 (by decide) ?_
  refine lv_ldc2 (v := 7) hx hb hown (hts _ (wo_c_X11_earned_in _ (List.mem_of_getElem? (i := 0) rfl))) dX11_earned_4 ?_
  refine k_callS (wr := [(pa, .inr (16, [.int pt, .ref pr, .ref pp, .ref pi, .ref pl, .ref pf, .ref pm, .ref ps, .ref pe, .int 0, .int 0])), (pi, .inr (4, [.int 0, .ref e0.1, .int 0]))]) (rest := [.ref pa]) (own := RX11) ⟨hx, hb, hml, hown, hts⟩ (c_X11_in_t l hst D e0 ((Int32.toInt64 a1)) 0 7 (k_rngT (by decide) (by decide) h)) (va_cwS 3 hts gi_c_X11_earned_0 rfl rfl rfl (by decide +kernel) ⟨Nat.le_of_ble_eq_true rfl, Nat.le_of_ble_eq_true rfl⟩) hh [] [0, 1] [] rfl rfl rfl rfl (by decide) rfl rfl hl rfl (Nat.le_of_ble_eq_true rfl) dX11_earned_7 ⟨Nat.le_of_ble_eq_true rfl, (Nat.le_of_ble_eq_true rfl)⟩ (fun _ _ _ _ _ h => h.elim) (fun v w ty1 H locs hp hh => ?_)
  obtain ⟨rfl, rfl, rfl⟩ := hp
  have hh : kH D kStr e0 A s H [(pa, .inr (16, [.int pt, .ref pr, .ref pp, .ref pi, .ref pl, .ref pf, .ref pm, .ref ps, .ref pe, .int 0, .int 0])), (pi, .inr (4, [.int 0, .ref e0.1, .int 0]))] [] _ := hh
  refine W.eq (g2 := F0 m 10 ls [.int 1, .ref pa]) (by first | rfl | decide) ?_
  refine lv_if_eq (tgt := 29) hx hb dX11_earned_10 (by decide) (fun c_10 => absurd c_10 (by decide)) (fun _ => ?_)
  refine lv_iload_n hx hb dX11_earned_13 rfl (lv_at hl 2 rfl) ?_
  refine lv_i2l (v := (Int32.toInt64 a2)) hx hb dX11_earned_14 rfl ?_
  refine lv_lconst (v := 1) hx hb dX11_earned_15 (by decide) ?_
  refine lv_ldc2 (v := 999) hx hb hown (hts _ (wo_c_X11_earned_in _ (List.mem_of_getElem? (i := 1) rfl))) dX11_earned_16 ?_
  refine k_callS (wr := [(pa, .inr (16, [.int pt, .ref pr, .ref pp, .ref pi, .ref pl, .ref pf, .ref pm, .ref ps, .ref pe, .int 0, .int 0])), (pi, .inr (4, [.int 0, .ref e0.1, .int 0]))]) (rest := [.ref pa]) (own := RX11) ⟨hx, hb, hml, hown, hts⟩ (c_X11_in_t l hst D e0 ((Int32.toInt64 a2)) 1 999 (k_rngT (by decide) (by decide) h2)) (va_cwS 3 hts gi_c_X11_earned_0 rfl rfl rfl (by decide +kernel) ⟨Nat.le_of_ble_eq_true rfl, Nat.le_of_ble_eq_true rfl⟩) hh [] [0, 1] [] rfl rfl rfl rfl (by decide) rfl rfl hl rfl (Nat.le_of_ble_eq_true rfl) dX11_earned_19 ⟨Nat.le_of_ble_eq_true rfl, (Nat.le_of_ble_eq_true rfl)⟩ (fun _ _ _ _ _ h => h.elim) (fun v w ty1 H locs hp hh => ?_)
  obtain ⟨rfl, rfl, rfl⟩ := hp
  have hh : kH D kStr e0 A s H [(pa, .inr (16, [.int pt, .ref pr, .ref pp, .ref pi, .ref pl, .ref pf, .ref pm, .ref ps, .ref pe, .int 0, .int 0])), (pi, .inr (4, [.int 0, .ref e0.1, .int 0]))] [] _ := hh
  refine W.eq (g2 := F0 m 22 ls [.int 1, .ref pa]) (by first | rfl | decide) ?_
  refine lv_if_eq (tgt := 29) hx hb dX11_earned_22 (by decide) (fun c_22 => absurd c_22 (by decide)) (fun _ => ?_)
  refine lv_iconst (v := 0) hx hb dX11_earned_25 (by decide) ?_
  refine lv_goto (tgt := 30) hx hb dX11_earned_26 (by decide) ?_
  refine k_put (C := RX11) (T := TX11) (N := 11) (ci := 16) (v := .int 0) (ws' := [(pa, .inr (16, [.int 0, .ref pr, .ref pp, .ref pi, .ref pl, .ref pf, .ref pm, .ref ps, .ref pe, .int 0, .int 0])), (pi, .inr (4, [.int 0, .ref e0.1, .int 0]))]) hx hb hts ws_c_X11_earned_1 tyX11 tyX11_ok nmX11 hown hh 0 rfl rfl 0 (by decide) (hts _ (wo_c_X11_earned_in _ (List.mem_of_getElem? (i := 2) rfl))) rfl rfl rfl (Nat.le_of_ble_eq_true rfl) dX11_earned_30 rfl (fun H locs hh => ?_)
  refine lv_lconst (v := 0) hx hb dX11_earned_33 (by decide) ?_
  refine lv_lstore_n (lv' := [(3, .long 0), (0, .ref pa), (1, .int a1), (2, .int a2)]) hx hb dX11_earned_34 rfl hl (by decide) rfl (fun ls hl => ?_)
  refine lv_iconst (v := 0) hx hb dX11_earned_35 (by decide) ?_
  refine lv_istore (lv' := [(5, .int 0), (3, .long 0), (0, .ref pa), (1, .int a1), (2, .int a2)]) hx hb dX11_earned_36 hl (by decide) rfl (fun ls hl => ?_)
  refine lv_iload hx hb dX11_earned_38 (lv_at hl 0 rfl) ?_
  refine lv_aload_n hx hb dX11_earned_40 rfl (lv_at hl 2 rfl) ?_
  refine k_get (C := RX11) (T := TX11) (N := 11) (ci := 16) (v := .ref pi) hx hb hts ws_c_X11_earned_1 hown hh 0 rfl rfl 3 (by decide) (hts _ (wo_c_X11_earned_in _ (List.mem_of_getElem? (i := 3) rfl))) rfl dX11_earned_41 ?_
  refine k_callV (C := RJx4a65c) (T := TJx4a65c) (N := 3) (ci := 4) (q0 := 1) (wr := [(pa, .inr (16, [.int 0, .ref pr, .ref pp, .ref pi, .ref pl, .ref pf, .ref pm, .ref ps, .ref pe, .int 0, .int 0]))]) (rest := [.int 0]) (own := RX11) ⟨hx, hb, hml, hown, hts⟩ (c_size l hst D e0 pi 0 (.ref e0.1) 0 ) (cwV 0 hts gi_c_X11_earned_2 rfl rfl rfl (by decide +kernel) ⟨Nat.le_of_ble_eq_true rfl, Nat.le_of_ble_eq_true rfl⟩) hh rfl rfl [1] [0] [] rfl rfl rfl rfl (by decide) rfl rfl hl rfl (Nat.le_of_ble_eq_true rfl) dX11_earned_44 ⟨Nat.le_of_ble_eq_true rfl, (Nat.le_of_ble_eq_true rfl)⟩ (fun _ _ _ _ _ h => h.elim) (fun v w ty1 H locs hp hh => ?_)
  obtain ⟨rfl, rfl, rfl⟩ := hp
  have hh : kH D kStr e0 A s H [(pa, .inr (16, [.int 0, .ref pr, .ref pp, .ref pi, .ref pl, .ref pf, .ref pm, .ref ps, .ref pe, .int 0, .int 0])), (pi, .inr (4, [.int 0, .ref e0.1, .int 0]))] [] _ := hh
  refine W.eq (g2 := F0 m 47 ls [.int 0, .int 0]) (by first | rfl | decide) ?_
  refine lv_icmp_ge (tgt := 108) hx hb dX11_earned_47 (by decide) (fun _ => ?_) (fun c_47 => absurd (by decide) c_47)
  refine lv_lload_n hx hb dX11_earned_108 rfl (lv_at hl 1 rfl) ?_
  exact k_endl hx hb hr hlocks hh ⟨rfl, rfl, rfl⟩ [0] [] rfl rfl rfl (Nat.le_of_ble_eq_true rfl) (Nat.le_of_ble_eq_true rfl) dX11_earned_109
def wo_c_X11_earned_bad1 : List Cond := [Cond.constantLong RX11 275 7, Cond.fieldLink RX11 46 "SegueworksModel" "thrown" "I", Cond.fieldLink RX11 28 "SegueworksModel" "items" "Ljava/util/ArrayList;"]
def wk_c_X11_earned_bad1 : List Cond := Cond.code yX11_earned cX11_earned 6 (some .long) :: (wo_c_X11_earned_bad1 ++ ((va_wsS RX11 54 yX11_in wk_c_X11_in_f) ++ ((u_ws RX11 TX11 11) ++ (wsV RX11 50 RJx4a65c yJx4a65c_size_8abf5 wk_c_size))))
theorem wo_c_X11_earned_bad1_in : ∀ w ∈ wo_c_X11_earned_bad1, w ∈ wk_c_X11_earned_bad1 := fun w h => List.mem_cons_of_mem _ (List.mem_append_left _ h)
theorem gi_c_X11_earned_bad1_0 : GoodIn wk_c_X11_earned_bad1 (va_wsS RX11 54 yX11_in wk_c_X11_in_f) := fun w h => ⟨List.mem_cons_of_mem _ (List.mem_append_right _ (List.mem_append_left _ h)), good_of_word (kg_S gk_c_X11_in_f w h)⟩
theorem ws_c_X11_earned_bad1_1 : ∀ w ∈ u_ws RX11 TX11 11, w ∈ wk_c_X11_earned_bad1 := fun w h => List.mem_cons_of_mem _ (List.mem_append_right _ (List.mem_append_right _ (List.mem_append_left _ h)))
theorem gi_c_X11_earned_bad1_2 : GoodIn wk_c_X11_earned_bad1 (wsV RX11 50 RJx4a65c yJx4a65c_size_8abf5 wk_c_size) := fun w h => ⟨List.mem_cons_of_mem _ (List.mem_append_right _ (List.mem_append_right _ (List.mem_append_right _ h))), good_of_word (kg_V gk_c_size w h)⟩
theorem gk_c_X11_earned_bad1 : ∀ w ∈ wk_c_X11_earned_bad1, goodWord w = true := List.forall_mem_cons.mpr ⟨rfl, (List.forall_mem_append.mpr ⟨(show ∀ w ∈ wo_c_X11_earned_bad1, goodWord w = true by decide +kernel), (List.forall_mem_append.mpr ⟨(kg_S gk_c_X11_in_f), (List.forall_mem_append.mpr ⟨(show ∀ w ∈ u_ws RX11 TX11 11, goodWord w = true by decide +kernel), (kg_V gk_c_size)⟩)⟩)⟩)⟩
set_option maxHeartbeats 4000000 in
set_option maxRecDepth 100000 in
theorem c_X11_earned_bad1 (l : Launch) (hst : l.stackTraces = false) (D : va_G) (e0 : kE) (pa : Nat) (pt : Int32) (pr : Nat) (pp : Nat) (pi : Nat) (pl : Nat) (pf : Nat) (pm : Nat) (ps : Nat) (pe : Nat) (a1 : Int32) (a2 : Int32) (h : ¬ (0 ≤ a1 ∧ a1 ≤ 7)) : kM l yX11_earned wk_c_X11_earned_bad1 1 25 0 0 D kStr e0 [] [(pa, .inr (16, [.int pt, .ref pr, .ref pp, .ref pi, .ref pl, .ref pf, .ref pm, .ref ps, .ref pe, .int 0, .int 0])), (pi, .inr (4, [.int 0, .ref e0.1, .int 0]))] [.ref pa, .int a1, .int a2] (fun v w t => v = some (.long 0) ∧ w = [(pa, .inr (16, [.int 1, .ref pr, .ref pp, .ref pi, .ref pl, .ref pf, .ref pm, .ref ps, .ref pe, .int 0, .int 0]))] ∧ t = []) (fun _ => False) := by
  refine k_of (cc := cX11_earned) (maxL := 6) (ret := (some .long)) (by decide) rfl (Nat.le_of_ble_eq_true rfl) ?_
  intro p e s m args below meth c A ls hx hb hr hts hown hlocks hml hex hh hl
  have hown : s.vm.findClass RX11 = some m.cls := hown
  have hl : lv_has ls 6 [(0, .ref pa), (1, .int a1), (2, .int a2)] := hl
  refine lv_aload_n hx hb dX11_earned_0 rfl (lv_at hl 0 rfl) ?_
  refine lv_iload_n hx hb dX11_earned_1 rfl (lv_at hl 1 rfl) ?_
  refine lv_i2l (v := (Int32.toInt64 a1)) hx hb dX11_earned_2 rfl ?_
  refine lv_lconst (v := 0) hx hb dX11_earned_3 (by decide) ?_
  refine lv_ldc2 (v := 7) hx hb hown (hts _ (wo_c_X11_earned_bad1_in _ (List.mem_of_getElem? (i := 0) rfl))) dX11_earned_4 ?_
  refine k_callS (wr := [(pa, .inr (16, [.int pt, .ref pr, .ref pp, .ref pi, .ref pl, .ref pf, .ref pm, .ref ps, .ref pe, .int 0, .int 0])), (pi, .inr (4, [.int 0, .ref e0.1, .int 0]))]) (rest := [.ref pa]) (own := RX11) ⟨hx, hb, hml, hown, hts⟩ (c_X11_in_f l hst D e0 ((Int32.toInt64 a1)) 0 7 (k_rngF (by decide) (by decide) h)) (va_cwS 3 hts gi_c_X11_earned_bad1_0 rfl rfl rfl (by decide +kernel) ⟨Nat.le_of_ble_eq_true rfl, Nat.le_of_ble_eq_true rfl⟩) hh [] [0, 1] [] rfl rfl rfl rfl (by decide) rfl rfl hl rfl (Nat.le_of_ble_eq_true rfl) dX11_earned_7 ⟨Nat.le_of_ble_eq_true rfl, (Nat.le_of_ble_eq_true rfl)⟩ (fun _ _ _ _ _ h => h.elim) (fun v w ty1 H locs hp hh => ?_)
  obtain ⟨rfl, rfl, rfl⟩ := hp
  have hh : kH D kStr e0 A s H [(pa, .inr (16, [.int pt, .ref pr, .ref pp, .ref pi, .ref pl, .ref pf, .ref pm, .ref ps, .ref pe, .int 0, .int 0])), (pi, .inr (4, [.int 0, .ref e0.1, .int 0]))] [] _ := hh
  refine W.eq (g2 := F0 m 10 ls [.int 0, .ref pa]) (by first | rfl | decide) ?_
  refine lv_if_eq (tgt := 29) hx hb dX11_earned_10 (by decide) (fun _ => ?_) (fun c_10 => absurd (by decide) c_10)
  refine lv_iconst (v := 1) hx hb dX11_earned_29 (by decide) ?_
  refine k_put (C := RX11) (T := TX11) (N := 11) (ci := 16) (v := .int 1) (ws' := [(pa, .inr (16, [.int 1, .ref pr, .ref pp, .ref pi, .ref pl, .ref pf, .ref pm, .ref ps, .ref pe, .int 0, .int 0])), (pi, .inr (4, [.int 0, .ref e0.1, .int 0]))]) hx hb hts ws_c_X11_earned_bad1_1 tyX11 tyX11_ok nmX11 hown hh 0 rfl rfl 0 (by decide) (hts _ (wo_c_X11_earned_bad1_in _ (List.mem_of_getElem? (i := 1) rfl))) rfl rfl rfl (Nat.le_of_ble_eq_true rfl) dX11_earned_30 rfl (fun H locs hh => ?_)
  refine lv_lconst (v := 0) hx hb dX11_earned_33 (by decide) ?_
  refine lv_lstore_n (lv' := [(3, .long 0), (0, .ref pa), (1, .int a1), (2, .int a2)]) hx hb dX11_earned_34 rfl hl (by decide) rfl (fun ls hl => ?_)
  refine lv_iconst (v := 0) hx hb dX11_earned_35 (by decide) ?_
  refine lv_istore (lv' := [(5, .int 0), (3, .long 0), (0, .ref pa), (1, .int a1), (2, .int a2)]) hx hb dX11_earned_36 hl (by decide) rfl (fun ls hl => ?_)
  refine lv_iload hx hb dX11_earned_38 (lv_at hl 0 rfl) ?_
  refine lv_aload_n hx hb dX11_earned_40 rfl (lv_at hl 2 rfl) ?_
  refine k_get (C := RX11) (T := TX11) (N := 11) (ci := 16) (v := .ref pi) hx hb hts ws_c_X11_earned_bad1_1 hown hh 0 rfl rfl 3 (by decide) (hts _ (wo_c_X11_earned_bad1_in _ (List.mem_of_getElem? (i := 2) rfl))) rfl dX11_earned_41 ?_
  refine k_callV (C := RJx4a65c) (T := TJx4a65c) (N := 3) (ci := 4) (q0 := 1) (wr := [(pa, .inr (16, [.int 1, .ref pr, .ref pp, .ref pi, .ref pl, .ref pf, .ref pm, .ref ps, .ref pe, .int 0, .int 0]))]) (rest := [.int 0]) (own := RX11) ⟨hx, hb, hml, hown, hts⟩ (c_size l hst D e0 pi 0 (.ref e0.1) 0 ) (cwV 0 hts gi_c_X11_earned_bad1_2 rfl rfl rfl (by decide +kernel) ⟨Nat.le_of_ble_eq_true rfl, Nat.le_of_ble_eq_true rfl⟩) hh rfl rfl [1] [0] [] rfl rfl rfl rfl (by decide) rfl rfl hl rfl (Nat.le_of_ble_eq_true rfl) dX11_earned_44 ⟨Nat.le_of_ble_eq_true rfl, (Nat.le_of_ble_eq_true rfl)⟩ (fun _ _ _ _ _ h => h.elim) (fun v w ty1 H locs hp hh => ?_)
  obtain ⟨rfl, rfl, rfl⟩ := hp
  have hh : kH D kStr e0 A s H [(pa, .inr (16, [.int 1, .ref pr, .ref pp, .ref pi, .ref pl, .ref pf, .ref pm, .ref ps, .ref pe, .int 0, .int 0])), (pi, .inr (4, [.int 0, .ref e0.1, .int 0]))] [] _ := hh
  refine W.eq (g2 := F0 m 47 ls [.int 0, .int 0]) (by first | rfl | decide) ?_
  refine lv_icmp_ge (tgt := 108) hx hb dX11_earned_47 (by decide) (fun _ => ?_) (fun c_47 => absurd (by decide) c_47)
  refine lv_lload_n hx hb dX11_earned_108 rfl (lv_at hl 1 rfl) ?_
  exact k_endl hx hb hr hlocks hh ⟨rfl, rfl, rfl⟩ [0] [] rfl rfl rfl (Nat.le_of_ble_eq_true rfl) (Nat.le_of_ble_eq_true rfl) dX11_earned_109
def wo_c_X11_earned_bad2 : List Cond := [Cond.constantLong RX11 275 7, Cond.constantLong RX11 288 999, Cond.fieldLink RX11 46 "SegueworksModel" "thrown" "I", Cond.fieldLink RX11 28 "SegueworksModel" "items" "Ljava/util/ArrayList;"]
def wk_c_X11_earned_bad2 : List Cond := Cond.code yX11_earned cX11_earned 6 (some .long) :: (wo_c_X11_earned_bad2 ++ ((va_wsS RX11 54 yX11_in wk_c_X11_in_t) ++ ((va_wsS RX11 54 yX11_in wk_c_X11_in_f) ++ ((u_ws RX11 TX11 11) ++ (wsV RX11 50 RJx4a65c yJx4a65c_size_8abf5 wk_c_size)))))
theorem wo_c_X11_earned_bad2_in : ∀ w ∈ wo_c_X11_earned_bad2, w ∈ wk_c_X11_earned_bad2 := fun w h => List.mem_cons_of_mem _ (List.mem_append_left _ h)
theorem gi_c_X11_earned_bad2_0 : GoodIn wk_c_X11_earned_bad2 (va_wsS RX11 54 yX11_in wk_c_X11_in_t) := fun w h => ⟨List.mem_cons_of_mem _ (List.mem_append_right _ (List.mem_append_left _ h)), good_of_word (kg_S gk_c_X11_in_t w h)⟩
theorem gi_c_X11_earned_bad2_1 : GoodIn wk_c_X11_earned_bad2 (va_wsS RX11 54 yX11_in wk_c_X11_in_f) := fun w h => ⟨List.mem_cons_of_mem _ (List.mem_append_right _ (List.mem_append_right _ (List.mem_append_left _ h))), good_of_word (kg_S gk_c_X11_in_f w h)⟩
theorem ws_c_X11_earned_bad2_2 : ∀ w ∈ u_ws RX11 TX11 11, w ∈ wk_c_X11_earned_bad2 := fun w h => List.mem_cons_of_mem _ (List.mem_append_right _ (List.mem_append_right _ (List.mem_append_right _ (List.mem_append_left _ h))))
theorem gi_c_X11_earned_bad2_3 : GoodIn wk_c_X11_earned_bad2 (wsV RX11 50 RJx4a65c yJx4a65c_size_8abf5 wk_c_size) := fun w h => ⟨List.mem_cons_of_mem _ (List.mem_append_right _ (List.mem_append_right _ (List.mem_append_right _ (List.mem_append_right _ h)))), good_of_word (kg_V gk_c_size w h)⟩
theorem gk_c_X11_earned_bad2 : ∀ w ∈ wk_c_X11_earned_bad2, goodWord w = true := List.forall_mem_cons.mpr ⟨rfl, (List.forall_mem_append.mpr ⟨(show ∀ w ∈ wo_c_X11_earned_bad2, goodWord w = true by decide +kernel), (List.forall_mem_append.mpr ⟨(kg_S gk_c_X11_in_t), (List.forall_mem_append.mpr ⟨(kg_S gk_c_X11_in_f), (List.forall_mem_append.mpr ⟨(show ∀ w ∈ u_ws RX11 TX11 11, goodWord w = true by decide +kernel), (kg_V gk_c_size)⟩)⟩)⟩)⟩)⟩
set_option maxHeartbeats 4000000 in
set_option maxRecDepth 100000 in
theorem c_X11_earned_bad2 (l : Launch) (hst : l.stackTraces = false) (D : va_G) (e0 : kE) (pa : Nat) (pt : Int32) (pr : Nat) (pp : Nat) (pi : Nat) (pl : Nat) (pf : Nat) (pm : Nat) (ps : Nat) (pe : Nat) (a1 : Int32) (a2 : Int32) (h : 0 ≤ a1 ∧ a1 ≤ 7) (h2 : ¬ (1 ≤ a2 ∧ a2 ≤ 999)) : kM l yX11_earned wk_c_X11_earned_bad2 1 25 0 0 D kStr e0 [] [(pa, .inr (16, [.int pt, .ref pr, .ref pp, .ref pi, .ref pl, .ref pf, .ref pm, .ref ps, .ref pe, .int 0, .int 0])), (pi, .inr (4, [.int 0, .ref e0.1, .int 0]))] [.ref pa, .int a1, .int a2] (fun v w t => v = some (.long 0) ∧ w = [(pa, .inr (16, [.int 1, .ref pr, .ref pp, .ref pi, .ref pl, .ref pf, .ref pm, .ref ps, .ref pe, .int 0, .int 0]))] ∧ t = []) (fun _ => False) := by
  refine k_of (cc := cX11_earned) (maxL := 6) (ret := (some .long)) (by decide) rfl (Nat.le_of_ble_eq_true rfl) ?_
  intro p e s m args below meth c A ls hx hb hr hts hown hlocks hml hex hh hl
  have hown : s.vm.findClass RX11 = some m.cls := hown
  have hl : lv_has ls 6 [(0, .ref pa), (1, .int a1), (2, .int a2)] := hl
  refine lv_aload_n hx hb dX11_earned_0 rfl (lv_at hl 0 rfl) ?_
  refine lv_iload_n hx hb dX11_earned_1 rfl (lv_at hl 1 rfl) ?_
  refine lv_i2l (v := (Int32.toInt64 a1)) hx hb dX11_earned_2 rfl ?_
  refine lv_lconst (v := 0) hx hb dX11_earned_3 (by decide) ?_
  refine lv_ldc2 (v := 7) hx hb hown (hts _ (wo_c_X11_earned_bad2_in _ (List.mem_of_getElem? (i := 0) rfl))) dX11_earned_4 ?_
  refine k_callS (wr := [(pa, .inr (16, [.int pt, .ref pr, .ref pp, .ref pi, .ref pl, .ref pf, .ref pm, .ref ps, .ref pe, .int 0, .int 0])), (pi, .inr (4, [.int 0, .ref e0.1, .int 0]))]) (rest := [.ref pa]) (own := RX11) ⟨hx, hb, hml, hown, hts⟩ (c_X11_in_t l hst D e0 ((Int32.toInt64 a1)) 0 7 (k_rngT (by decide) (by decide) h)) (va_cwS 3 hts gi_c_X11_earned_bad2_0 rfl rfl rfl (by decide +kernel) ⟨Nat.le_of_ble_eq_true rfl, Nat.le_of_ble_eq_true rfl⟩) hh [] [0, 1] [] rfl rfl rfl rfl (by decide) rfl rfl hl rfl (Nat.le_of_ble_eq_true rfl) dX11_earned_7 ⟨Nat.le_of_ble_eq_true rfl, (Nat.le_of_ble_eq_true rfl)⟩ (fun _ _ _ _ _ h => h.elim) (fun v w ty1 H locs hp hh => ?_)
  obtain ⟨rfl, rfl, rfl⟩ := hp
  have hh : kH D kStr e0 A s H [(pa, .inr (16, [.int pt, .ref pr, .ref pp, .ref pi, .ref pl, .ref pf, .ref pm, .ref ps, .ref pe, .int 0, .int 0])), (pi, .inr (4, [.int 0, .ref e0.1, .int 0]))] [] _ := hh
  refine W.eq (g2 := F0 m 10 ls [.int 1, .ref pa]) (by first | rfl | decide) ?_
  refine lv_if_eq (tgt := 29) hx hb dX11_earned_10 (by decide) (fun c_10 => absurd c_10 (by decide)) (fun _ => ?_)
  refine lv_iload_n hx hb dX11_earned_13 rfl (lv_at hl 2 rfl) ?_
  refine lv_i2l (v := (Int32.toInt64 a2)) hx hb dX11_earned_14 rfl ?_
  refine lv_lconst (v := 1) hx hb dX11_earned_15 (by decide) ?_
  refine lv_ldc2 (v := 999) hx hb hown (hts _ (wo_c_X11_earned_bad2_in _ (List.mem_of_getElem? (i := 1) rfl))) dX11_earned_16 ?_
  refine k_callS (wr := [(pa, .inr (16, [.int pt, .ref pr, .ref pp, .ref pi, .ref pl, .ref pf, .ref pm, .ref ps, .ref pe, .int 0, .int 0])), (pi, .inr (4, [.int 0, .ref e0.1, .int 0]))]) (rest := [.ref pa]) (own := RX11) ⟨hx, hb, hml, hown, hts⟩ (c_X11_in_f l hst D e0 ((Int32.toInt64 a2)) 1 999 (k_rngF (by decide) (by decide) h2)) (va_cwS 3 hts gi_c_X11_earned_bad2_1 rfl rfl rfl (by decide +kernel) ⟨Nat.le_of_ble_eq_true rfl, Nat.le_of_ble_eq_true rfl⟩) hh [] [0, 1] [] rfl rfl rfl rfl (by decide) rfl rfl hl rfl (Nat.le_of_ble_eq_true rfl) dX11_earned_19 ⟨Nat.le_of_ble_eq_true rfl, (Nat.le_of_ble_eq_true rfl)⟩ (fun _ _ _ _ _ h => h.elim) (fun v w ty1 H locs hp hh => ?_)
  obtain ⟨rfl, rfl, rfl⟩ := hp
  have hh : kH D kStr e0 A s H [(pa, .inr (16, [.int pt, .ref pr, .ref pp, .ref pi, .ref pl, .ref pf, .ref pm, .ref ps, .ref pe, .int 0, .int 0])), (pi, .inr (4, [.int 0, .ref e0.1, .int 0]))] [] _ := hh
  refine W.eq (g2 := F0 m 22 ls [.int 0, .ref pa]) (by first | rfl | decide) ?_
  refine lv_if_eq (tgt := 29) hx hb dX11_earned_22 (by decide) (fun _ => ?_) (fun c_22 => absurd (by decide) c_22)
  refine lv_iconst (v := 1) hx hb dX11_earned_29 (by decide) ?_
  refine k_put (C := RX11) (T := TX11) (N := 11) (ci := 16) (v := .int 1) (ws' := [(pa, .inr (16, [.int 1, .ref pr, .ref pp, .ref pi, .ref pl, .ref pf, .ref pm, .ref ps, .ref pe, .int 0, .int 0])), (pi, .inr (4, [.int 0, .ref e0.1, .int 0]))]) hx hb hts ws_c_X11_earned_bad2_2 tyX11 tyX11_ok nmX11 hown hh 0 rfl rfl 0 (by decide) (hts _ (wo_c_X11_earned_bad2_in _ (List.mem_of_getElem? (i := 2) rfl))) rfl rfl rfl (Nat.le_of_ble_eq_true rfl) dX11_earned_30 rfl (fun H locs hh => ?_)
  refine lv_lconst (v := 0) hx hb dX11_earned_33 (by decide) ?_
  refine lv_lstore_n (lv' := [(3, .long 0), (0, .ref pa), (1, .int a1), (2, .int a2)]) hx hb dX11_earned_34 rfl hl (by decide) rfl (fun ls hl => ?_)
  refine lv_iconst (v := 0) hx hb dX11_earned_35 (by decide) ?_
  refine lv_istore (lv' := [(5, .int 0), (3, .long 0), (0, .ref pa), (1, .int a1), (2, .int a2)]) hx hb dX11_earned_36 hl (by decide) rfl (fun ls hl => ?_)
  refine lv_iload hx hb dX11_earned_38 (lv_at hl 0 rfl) ?_
  refine lv_aload_n hx hb dX11_earned_40 rfl (lv_at hl 2 rfl) ?_
  refine k_get (C := RX11) (T := TX11) (N := 11) (ci := 16) (v := .ref pi) hx hb hts ws_c_X11_earned_bad2_2 hown hh 0 rfl rfl 3 (by decide) (hts _ (wo_c_X11_earned_bad2_in _ (List.mem_of_getElem? (i := 3) rfl))) rfl dX11_earned_41 ?_
  refine k_callV (C := RJx4a65c) (T := TJx4a65c) (N := 3) (ci := 4) (q0 := 1) (wr := [(pa, .inr (16, [.int 1, .ref pr, .ref pp, .ref pi, .ref pl, .ref pf, .ref pm, .ref ps, .ref pe, .int 0, .int 0]))]) (rest := [.int 0]) (own := RX11) ⟨hx, hb, hml, hown, hts⟩ (c_size l hst D e0 pi 0 (.ref e0.1) 0 ) (cwV 0 hts gi_c_X11_earned_bad2_3 rfl rfl rfl (by decide +kernel) ⟨Nat.le_of_ble_eq_true rfl, Nat.le_of_ble_eq_true rfl⟩) hh rfl rfl [1] [0] [] rfl rfl rfl rfl (by decide) rfl rfl hl rfl (Nat.le_of_ble_eq_true rfl) dX11_earned_44 ⟨Nat.le_of_ble_eq_true rfl, (Nat.le_of_ble_eq_true rfl)⟩ (fun _ _ _ _ _ h => h.elim) (fun v w ty1 H locs hp hh => ?_)
  obtain ⟨rfl, rfl, rfl⟩ := hp
  have hh : kH D kStr e0 A s H [(pa, .inr (16, [.int 1, .ref pr, .ref pp, .ref pi, .ref pl, .ref pf, .ref pm, .ref ps, .ref pe, .int 0, .int 0])), (pi, .inr (4, [.int 0, .ref e0.1, .int 0]))] [] _ := hh
  refine W.eq (g2 := F0 m 47 ls [.int 0, .int 0]) (by first | rfl | decide) ?_
  refine lv_icmp_ge (tgt := 108) hx hb dX11_earned_47 (by decide) (fun _ => ?_) (fun c_47 => absurd (by decide) c_47)
  refine lv_lload_n hx hb dX11_earned_108 rfl (lv_at hl 1 rfl) ?_
  exact k_endl hx hb hr hlocks hh ⟨rfl, rfl, rfl⟩ [0] [] rfl rfl rfl (Nat.le_of_ble_eq_true rfl) (Nat.le_of_ble_eq_true rfl) dX11_earned_109
def wo_c_X11_favourite : List Cond := [Cond.fieldLink RX11 43 "SegueworksModel" "editions" "Ljava/util/ArrayList;", Cond.fieldLink RX11 46 "SegueworksModel" "thrown" "I", Cond.methodLink RX11 7 Lib.Math.max.name, Cond.static Lib.Math.max.name, Cond.initialized "java/lang/Math", Cond.code Lib.Math.max.name Lib.Math.max.code 2 (some .int)]
def wk_c_X11_favourite : List Cond := Cond.code yX11_favourite cX11_favourite 5 (some .int) :: (wo_c_X11_favourite ++ ((u_ws RX11 TX11 11) ++ (wsV RX11 50 RJx4a65c yJx4a65c_size_8abf5 wk_c_size)))
theorem wo_c_X11_favourite_in : ∀ w ∈ wo_c_X11_favourite, w ∈ wk_c_X11_favourite := fun w h => List.mem_cons_of_mem _ (List.mem_append_left _ h)
theorem ws_c_X11_favourite_0 : ∀ w ∈ u_ws RX11 TX11 11, w ∈ wk_c_X11_favourite := fun w h => List.mem_cons_of_mem _ (List.mem_append_right _ (List.mem_append_left _ h))
theorem gi_c_X11_favourite_1 : GoodIn wk_c_X11_favourite (wsV RX11 50 RJx4a65c yJx4a65c_size_8abf5 wk_c_size) := fun w h => ⟨List.mem_cons_of_mem _ (List.mem_append_right _ (List.mem_append_right _ h)), good_of_word (kg_V gk_c_size w h)⟩
theorem gk_c_X11_favourite : ∀ w ∈ wk_c_X11_favourite, goodWord w = true := List.forall_mem_cons.mpr ⟨rfl, (List.forall_mem_append.mpr ⟨(show ∀ w ∈ wo_c_X11_favourite, goodWord w = true by decide +kernel), (List.forall_mem_append.mpr ⟨(show ∀ w ∈ u_ws RX11 TX11 11, goodWord w = true by decide +kernel), (kg_V gk_c_size)⟩)⟩)⟩
set_option maxHeartbeats 4000000 in
set_option maxRecDepth 100000 in
theorem c_X11_favourite (l : Launch) (hst : l.stackTraces = false) (D : va_G) (e0 : kE) (pa : Nat) (pt : Int32) (pr : Nat) (pp : Nat) (pi : Nat) (pl : Nat) (pf : Nat) (pm : Nat) (ps : Nat) (pe : Nat)  : kM l yX11_favourite wk_c_X11_favourite 1 29 0 0 D kStr e0 [] [(pa, .inr (16, [.int pt, .ref pr, .ref pp, .ref pi, .ref pl, .ref pf, .ref pm, .ref ps, .ref pe, .int 0, .int 0])), (pe, .inr (4, [.int 0, .ref e0.1, .int 0]))] [.ref pa] (fun v w t => v = some (.int 0) ∧ w = [(pa, .inr (16, [.int 1, .ref pr, .ref pp, .ref pi, .ref pl, .ref pf, .ref pm, .ref ps, .ref pe, .int 0, .int 0]))] ∧ t = []) (fun _ => False) := by
  refine k_of (cc := cX11_favourite) (maxL := 5) (ret := (some .int)) (by decide) rfl (Nat.le_of_ble_eq_true rfl) ?_
  intro p e s m args below meth c A ls hx hb hr hts hown hlocks hml hex hh hl
  have hown : s.vm.findClass RX11 = some m.cls := hown
  have hl : lv_has ls 5 [(0, .ref pa)] := hl
  refine lv_iconst (v := (-1)) hx hb dX11_favourite_0 (by decide) ?_
  refine lv_istore_n (lv' := [(1, .int (-1)), (0, .ref pa)]) hx hb dX11_favourite_1 rfl hl (by decide) rfl (fun ls hl => ?_)
  refine lv_iconst (v := 0) hx hb dX11_favourite_2 (by decide) ?_
  refine lv_istore_n (lv' := [(2, .int 0), (1, .int (-1)), (0, .ref pa)]) hx hb dX11_favourite_3 rfl hl (by decide) rfl (fun ls hl => ?_)
  refine lv_iload_n hx hb dX11_favourite_4 rfl (lv_at hl 0 rfl) ?_
  refine lv_aload_n hx hb dX11_favourite_5 rfl (lv_at hl 2 rfl) ?_
  refine k_get (C := RX11) (T := TX11) (N := 11) (ci := 16) (v := .ref pe) hx hb hts ws_c_X11_favourite_0 hown hh 0 rfl rfl 8 (by decide) (hts _ (wo_c_X11_favourite_in _ (List.mem_of_getElem? (i := 0) rfl))) rfl dX11_favourite_6 ?_
  refine k_callV (C := RJx4a65c) (T := TJx4a65c) (N := 3) (ci := 4) (q0 := 1) (wr := [(pa, .inr (16, [.int pt, .ref pr, .ref pp, .ref pi, .ref pl, .ref pf, .ref pm, .ref ps, .ref pe, .int 0, .int 0]))]) (rest := [.int 0]) (own := RX11) ⟨hx, hb, hml, hown, hts⟩ (c_size l hst D e0 pe 0 (.ref e0.1) 0 ) (cwV 0 hts gi_c_X11_favourite_1 rfl rfl rfl (by decide +kernel) ⟨Nat.le_of_ble_eq_true rfl, Nat.le_of_ble_eq_true rfl⟩) hh rfl rfl [1] [0] [] rfl rfl rfl rfl (by decide) rfl rfl hl rfl (Nat.le_of_ble_eq_true rfl) dX11_favourite_9 ⟨Nat.le_of_ble_eq_true rfl, (Nat.le_of_ble_eq_true rfl)⟩ (fun _ _ _ _ _ h => h.elim) (fun v w ty1 H locs hp hh => ?_)
  obtain ⟨rfl, rfl, rfl⟩ := hp
  have hh : kH D kStr e0 A s H [(pa, .inr (16, [.int pt, .ref pr, .ref pp, .ref pi, .ref pl, .ref pf, .ref pm, .ref ps, .ref pe, .int 0, .int 0])), (pe, .inr (4, [.int 0, .ref e0.1, .int 0]))] [] _ := hh
  refine W.eq (g2 := F0 m 12 ls [.int 0, .int 0]) (by first | rfl | decide) ?_
  refine lv_icmp_ge (tgt := 103) hx hb dX11_favourite_12 (by decide) (fun _ => ?_) (fun c_12 => absurd (by decide) c_12)
  refine lv_aload_n hx hb dX11_favourite_103 rfl (lv_at hl 2 rfl) ?_
  refine lv_iload_n hx hb dX11_favourite_104 rfl (lv_at hl 1 rfl) ?_
  refine lv_if_ge (tgt := 112) hx hb dX11_favourite_105 (by decide) (fun c_105 => absurd c_105 (by decide)) (fun _ => ?_)
  refine lv_iconst (v := 1) hx hb dX11_favourite_108 (by decide) ?_
  refine lv_goto (tgt := 113) hx hb dX11_favourite_109 (by decide) ?_
  refine k_put (C := RX11) (T := TX11) (N := 11) (ci := 16) (v := .int 1) (ws' := [(pa, .inr (16, [.int 1, .ref pr, .ref pp, .ref pi, .ref pl, .ref pf, .ref pm, .ref ps, .ref pe, .int 0, .int 0])), (pe, .inr (4, [.int 0, .ref e0.1, .int 0]))]) hx hb hts ws_c_X11_favourite_0 tyX11 tyX11_ok nmX11 hown hh 0 rfl rfl 0 (by decide) (hts _ (wo_c_X11_favourite_in _ (List.mem_of_getElem? (i := 1) rfl))) rfl rfl rfl (Nat.le_of_ble_eq_true rfl) dX11_favourite_113 rfl (fun H locs hh => ?_)
  refine lv_iconst (v := 0) hx hb dX11_favourite_116 (by decide) ?_
  refine lv_iload_n hx hb dX11_favourite_117 rfl (lv_at hl 1 rfl) ?_
  refine va_mmax hx hb (by rw [hml]; exact hl.1.symm) hown (hts _ (wo_c_X11_favourite_in _ (List.mem_of_getElem? (i := 2) rfl))) (hts _ (wo_c_X11_favourite_in _ (List.mem_of_getElem? (i := 3) rfl))) (hts _ (wo_c_X11_favourite_in _ (List.mem_of_getElem? (i := 4) rfl))) (hts _ (wo_c_X11_favourite_in _ (List.mem_of_getElem? (i := 5) rfl))) (Nat.le_of_ble_eq_true rfl) (Nat.le_of_ble_eq_true rfl) (Nat.le_of_ble_eq_true rfl) (Nat.le_of_ble_eq_true rfl) dX11_favourite_118 ?_
  refine W.eq (g2 := F0 m 121 ls [.int 0]) (by first | rfl | decide) ?_
  exact k_endi hx hb hr hlocks hh ⟨rfl, rfl, rfl⟩ [0] [] rfl rfl rfl (Nat.le_of_ble_eq_true rfl) (Nat.le_of_ble_eq_true rfl) dX11_favourite_121
def wo_c_X11_goodShare : List Cond := [Cond.fieldLink RX11 212 "SegueworksModel" "pressed" "I", Cond.fieldLink RX11 46 "SegueworksModel" "thrown" "I"]
def wk_c_X11_goodShare : List Cond := Cond.code yX11_goodShare cX11_goodShare 1 (some .float) :: (wo_c_X11_goodShare ++ (u_ws RX11 TX11 11))
theorem wo_c_X11_goodShare_in : ∀ w ∈ wo_c_X11_goodShare, w ∈ wk_c_X11_goodShare := fun w h => List.mem_cons_of_mem _ (List.mem_append_left _ h)
theorem ws_c_X11_goodShare_0 : ∀ w ∈ u_ws RX11 TX11 11, w ∈ wk_c_X11_goodShare := fun w h => List.mem_cons_of_mem _ (List.mem_append_right _ h)
theorem gk_c_X11_goodShare : ∀ w ∈ wk_c_X11_goodShare, goodWord w = true := List.forall_mem_cons.mpr ⟨rfl, (List.forall_mem_append.mpr ⟨(show ∀ w ∈ wo_c_X11_goodShare, goodWord w = true by decide +kernel), (show ∀ w ∈ u_ws RX11 TX11 11, goodWord w = true by decide +kernel)⟩)⟩
set_option maxHeartbeats 4000000 in
set_option maxRecDepth 100000 in
theorem c_X11_goodShare (l : Launch) (hst : l.stackTraces = false) (D : va_G) (e0 : kE) (pa : Nat) (pt : Int32) (pr : Nat) (pp : Nat) (pi : Nat) (pl : Nat) (pf : Nat) (pm : Nat) (ps : Nat) (pe : Nat)  : kM l yX11_goodShare wk_c_X11_goodShare 0 0 0 0 D kStr e0 [] [(pa, .inr (16, [.int pt, .ref pr, .ref pp, .ref pi, .ref pl, .ref pf, .ref pm, .ref ps, .ref pe, .int 0, .int 0]))] [.ref pa] (fun v w t => v = some (.float 0) ∧ w = [(pa, .inr (16, [.int 1, .ref pr, .ref pp, .ref pi, .ref pl, .ref pf, .ref pm, .ref ps, .ref pe, .int 0, .int 0]))] ∧ t = []) (fun _ => False) := by
  refine k_of (cc := cX11_goodShare) (maxL := 1) (ret := (some .float)) (by decide) rfl (Nat.le_of_ble_eq_true rfl) ?_
  intro p e s m args below meth c A ls hx hb hr hts hown hlocks hml hex hh hl
  have hown : s.vm.findClass RX11 = some m.cls := hown
  have hl : lv_has ls 1 [(0, .ref pa)] := hl
  refine lv_aload_n hx hb dX11_goodShare_0 rfl (lv_at hl 0 rfl) ?_
  refine lv_aload_n hx hb dX11_goodShare_1 rfl (lv_at hl 0 rfl) ?_
  refine k_get (C := RX11) (T := TX11) (N := 11) (ci := 16) (v := .int 0) hx hb hts ws_c_X11_goodShare_0 hown hh 0 rfl rfl 9 (by decide) (hts _ (wo_c_X11_goodShare_in _ (List.mem_of_getElem? (i := 0) rfl))) rfl dX11_goodShare_2 ?_
  refine lv_if_ne (tgt := 12) hx hb dX11_goodShare_5 (by decide) (fun c_5 => absurd (by decide) c_5) (fun _ => ?_)
  refine lv_iconst (v := 1) hx hb dX11_goodShare_8 (by decide) ?_
  refine lv_goto (tgt := 13) hx hb dX11_goodShare_9 (by decide) ?_
  refine k_put (C := RX11) (T := TX11) (N := 11) (ci := 16) (v := .int 1) (ws' := [(pa, .inr (16, [.int 1, .ref pr, .ref pp, .ref pi, .ref pl, .ref pf, .ref pm, .ref ps, .ref pe, .int 0, .int 0]))]) hx hb hts ws_c_X11_goodShare_0 tyX11 tyX11_ok nmX11 hown hh 0 rfl rfl 0 (by decide) (hts _ (wo_c_X11_goodShare_in _ (List.mem_of_getElem? (i := 1) rfl))) rfl rfl rfl (Nat.le_of_ble_eq_true rfl) dX11_goodShare_13 rfl (fun H locs hh => ?_)
  refine lv_aload_n hx hb dX11_goodShare_16 rfl (lv_at hl 0 rfl) ?_
  refine k_get (C := RX11) (T := TX11) (N := 11) (ci := 16) (v := .int 1) hx hb hts ws_c_X11_goodShare_0 hown hh 0 rfl rfl 0 (by decide) (hts _ (wo_c_X11_goodShare_in _ (List.mem_of_getElem? (i := 1) rfl))) rfl dX11_goodShare_17 ?_
  refine lv_if_le (tgt := 27) hx hb dX11_goodShare_20 (by decide) (fun c_20 => absurd c_20 (by decide)) (fun _ => ?_)
  refine lv_fconst0 hx hb dX11_goodShare_23 ?_
  refine lv_goto (tgt := 38) hx hb dX11_goodShare_24 (by decide) ?_
  exact k_endf hx hb hr hlocks hh ⟨rfl, rfl, rfl⟩ [0] [] rfl rfl rfl (Nat.le_of_ble_eq_true rfl) (Nat.le_of_ble_eq_true rfl) dX11_goodShare_38
def wo_c_X11_isTrue : List Cond := [Cond.fieldLink RX11 46 "SegueworksModel" "thrown" "I"]
def wk_c_X11_isTrue : List Cond := Cond.code yX11_isTrue cX11_isTrue 1 (some .boolean) :: (wo_c_X11_isTrue ++ (u_ws RX11 TX11 11))
theorem wo_c_X11_isTrue_in : ∀ w ∈ wo_c_X11_isTrue, w ∈ wk_c_X11_isTrue := fun w h => List.mem_cons_of_mem _ (List.mem_append_left _ h)
theorem ws_c_X11_isTrue_0 : ∀ w ∈ u_ws RX11 TX11 11, w ∈ wk_c_X11_isTrue := fun w h => List.mem_cons_of_mem _ (List.mem_append_right _ h)
theorem gk_c_X11_isTrue : ∀ w ∈ wk_c_X11_isTrue, goodWord w = true := List.forall_mem_cons.mpr ⟨rfl, (List.forall_mem_append.mpr ⟨(show ∀ w ∈ wo_c_X11_isTrue, goodWord w = true by decide +kernel), (show ∀ w ∈ u_ws RX11 TX11 11, goodWord w = true by decide +kernel)⟩)⟩
set_option maxHeartbeats 4000000 in
set_option maxRecDepth 100000 in
theorem c_X11_isTrue (l : Launch) (hst : l.stackTraces = false) (D : va_G) (e0 : kE) (pa : Nat) (pt : Int32) (pr : Nat) (pp : Nat) (pi : Nat) (pl : Nat) (pf : Nat) (pm : Nat) (ps : Nat) (pe : Nat)  : kM l yX11_isTrue wk_c_X11_isTrue 0 0 0 0 D kStr e0 [] [(pa, .inr (16, [.int pt, .ref pr, .ref pp, .ref pi, .ref pl, .ref pf, .ref pm, .ref ps, .ref pe, .int 0, .int 0]))] [.ref pa] (fun v w t => v = some (.int 1) ∧ w = [(pa, .inr (16, [.int 0, .ref pr, .ref pp, .ref pi, .ref pl, .ref pf, .ref pm, .ref ps, .ref pe, .int 0, .int 0]))] ∧ t = []) (fun _ => False) := by
  refine k_of (cc := cX11_isTrue) (maxL := 1) (ret := (some .boolean)) (by decide) rfl (Nat.le_of_ble_eq_true rfl) ?_
  intro p e s m args below meth c A ls hx hb hr hts hown hlocks hml hex hh hl
  have hown : s.vm.findClass RX11 = some m.cls := hown
  have hl : lv_has ls 1 [(0, .ref pa)] := hl
  refine lv_aload_n hx hb dX11_isTrue_0 rfl (lv_at hl 0 rfl) ?_
  refine lv_iconst (v := 0) hx hb dX11_isTrue_1 (by decide) ?_
  refine k_put (C := RX11) (T := TX11) (N := 11) (ci := 16) (v := .int 0) (ws' := [(pa, .inr (16, [.int 0, .ref pr, .ref pp, .ref pi, .ref pl, .ref pf, .ref pm, .ref ps, .ref pe, .int 0, .int 0]))]) hx hb hts ws_c_X11_isTrue_0 tyX11 tyX11_ok nmX11 hown hh 0 rfl rfl 0 (by decide) (hts _ (wo_c_X11_isTrue_in _ (List.mem_of_getElem? (i := 0) rfl))) rfl rfl rfl (Nat.le_of_ble_eq_true rfl) dX11_isTrue_2 rfl (fun H locs hh => ?_)
  refine lv_iconst (v := 1) hx hb dX11_isTrue_5 (by decide) ?_
  exact k_endz (ty := .boolean) (by decide) hx hb hr hlocks hh ⟨rfl, rfl, rfl⟩ [0] [] rfl rfl rfl (Nat.le_of_ble_eq_true rfl) (Nat.le_of_ble_eq_true rfl) dX11_isTrue_6
def wo_c_X11_thrown : List Cond := [Cond.fieldLink RX11 46 "SegueworksModel" "thrown" "I"]
def wk_c_X11_thrown : List Cond := Cond.code yX11_thrown cX11_thrown 1 (some .int) :: (wo_c_X11_thrown ++ (u_ws RX11 TX11 11))
theorem wo_c_X11_thrown_in : ∀ w ∈ wo_c_X11_thrown, w ∈ wk_c_X11_thrown := fun w h => List.mem_cons_of_mem _ (List.mem_append_left _ h)
theorem ws_c_X11_thrown_0 : ∀ w ∈ u_ws RX11 TX11 11, w ∈ wk_c_X11_thrown := fun w h => List.mem_cons_of_mem _ (List.mem_append_right _ h)
theorem gk_c_X11_thrown : ∀ w ∈ wk_c_X11_thrown, goodWord w = true := List.forall_mem_cons.mpr ⟨rfl, (List.forall_mem_append.mpr ⟨(show ∀ w ∈ wo_c_X11_thrown, goodWord w = true by decide +kernel), (show ∀ w ∈ u_ws RX11 TX11 11, goodWord w = true by decide +kernel)⟩)⟩
set_option maxHeartbeats 4000000 in
set_option maxRecDepth 100000 in
theorem c_X11_thrown (l : Launch) (hst : l.stackTraces = false) (D : va_G) (e0 : kE) (pa : Nat) (pt : Int32) (pr : Nat) (pp : Nat) (pi : Nat) (pl : Nat) (pf : Nat) (pm : Nat) (ps : Nat) (pe : Nat)  : kM l yX11_thrown wk_c_X11_thrown 0 0 0 0 D kStr e0 [] [(pa, .inr (16, [.int pt, .ref pr, .ref pp, .ref pi, .ref pl, .ref pf, .ref pm, .ref ps, .ref pe, .int 0, .int 0]))] [.ref pa] (fun v w t => v = some (.int pt) ∧ w = [(pa, .inr (16, [.int pt, .ref pr, .ref pp, .ref pi, .ref pl, .ref pf, .ref pm, .ref ps, .ref pe, .int 0, .int 0]))] ∧ t = []) (fun _ => False) := by
  refine k_of (cc := cX11_thrown) (maxL := 1) (ret := (some .int)) (by decide) rfl (Nat.le_of_ble_eq_true rfl) ?_
  intro p e s m args below meth c A ls hx hb hr hts hown hlocks hml hex hh hl
  have hown : s.vm.findClass RX11 = some m.cls := hown
  have hl : lv_has ls 1 [(0, .ref pa)] := hl
  refine lv_aload_n hx hb dX11_thrown_0 rfl (lv_at hl 0 rfl) ?_
  refine k_get (C := RX11) (T := TX11) (N := 11) (ci := 16) (v := .int pt) hx hb hts ws_c_X11_thrown_0 hown hh 0 rfl rfl 0 (by decide) (hts _ (wo_c_X11_thrown_in _ (List.mem_of_getElem? (i := 0) rfl))) rfl dX11_thrown_1 ?_
  exact k_endi hx hb hr hlocks hh ⟨rfl, rfl, rfl⟩ [0] [] rfl rfl rfl (Nat.le_of_ble_eq_true rfl) (Nat.le_of_ble_eq_true rfl) dX11_thrown_4
