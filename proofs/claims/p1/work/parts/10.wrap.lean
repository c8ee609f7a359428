theorem dL_reel_0 : decode cL_reel 0 = .ok (.aload_n 1, 1) := by decide +kernel
theorem dL_reel_1 : decode cL_reel 1 = .ok (.iconst 0, 1) := by decide +kernel
theorem dL_reel_2 : decode cL_reel 2 = .ok (.aload_n 0, 1) := by decide +kernel
theorem dL_reel_3 : decode cL_reel 3 = .ok (.invokevirtual 7, 3) := by decide +kernel
theorem dL_reel_6 : decode cL_reel 6 = .ok (.i2l, 1) := by decide +kernel
theorem dL_reel_7 : decode cL_reel 7 = .ok (.lastore, 1) := by decide +kernel
theorem dL_reel_8 : decode cL_reel 8 = .ok (.goto 6, 3) := by decide +kernel
theorem dL_reel_14 : decode cL_reel 14 = .ok (.iconst 0, 1) := by decide +kernel
theorem dL_reel_15 : decode cL_reel 15 = .ok (.ireturn, 1) := by decide +kernel
theorem dL_sample_0 : decode cL_sample 0 = .ok (.aload_n 3, 1) := by decide +kernel
theorem dL_sample_1 : decode cL_sample 1 = .ok (.iconst 0, 1) := by decide +kernel
theorem dL_sample_2 : decode cL_sample 2 = .ok (.aload_n 0, 1) := by decide +kernel
theorem dL_sample_3 : decode cL_sample 3 = .ok (.iload_n 1, 1) := by decide +kernel
theorem dL_sample_4 : decode cL_sample 4 = .ok (.iload_n 2, 1) := by decide +kernel
theorem dL_sample_5 : decode cL_sample 5 = .ok (.invokevirtual 15, 3) := by decide +kernel
theorem dL_sample_13 : decode cL_sample 13 = .ok (.astore 4, 2) := by decide +kernel
theorem dL_sample_15 : decode cL_sample 15 = .ok (.iconst 1, 1) := by decide +kernel
theorem dL_sample_16 : decode cL_sample 16 = .ok (.ireturn, 1) := by decide +kernel
theorem dL_wave_0 : decode cL_wave 0 = .ok (.aload 5, 2) := by decide +kernel
theorem dL_wave_2 : decode cL_wave 2 = .ok (.iconst 0, 1) := by decide +kernel
theorem dL_wave_3 : decode cL_wave 3 = .ok (.aload_n 0, 1) := by decide +kernel
theorem dL_wave_4 : decode cL_wave 4 = .ok (.iload_n 1, 1) := by decide +kernel
theorem dL_wave_5 : decode cL_wave 5 = .ok (.iload_n 2, 1) := by decide +kernel
theorem dL_wave_6 : decode cL_wave 6 = .ok (.iload_n 3, 1) := by decide +kernel
theorem dL_wave_7 : decode cL_wave 7 = .ok (.iload 4, 2) := by decide +kernel
theorem dL_wave_9 : decode cL_wave 9 = .ok (.invokevirtual 23, 3) := by decide +kernel
theorem dL_wave_17 : decode cL_wave 17 = .ok (.astore 6, 2) := by decide +kernel
theorem dL_wave_19 : decode cL_wave 19 = .ok (.iconst 1, 1) := by decide +kernel
theorem dL_wave_20 : decode cL_wave 20 = .ok (.ireturn, 1) := by decide +kernel
theorem dL_reelLength_0 : decode cL_reelLength 0 = .ok (.aload_n 2, 1) := by decide +kernel
theorem dL_reelLength_1 : decode cL_reelLength 1 = .ok (.iconst 0, 1) := by decide +kernel
theorem dL_reelLength_2 : decode cL_reelLength 2 = .ok (.aload_n 0, 1) := by decide +kernel
theorem dL_reelLength_3 : decode cL_reelLength 3 = .ok (.iload_n 1, 1) := by decide +kernel
theorem dL_reelLength_4 : decode cL_reelLength 4 = .ok (.invokevirtual 27, 3) := by decide +kernel
theorem dL_reelLength_12 : decode cL_reelLength 12 = .ok (.astore_n 3, 1) := by decide +kernel
theorem dL_reelLength_13 : decode cL_reelLength 13 = .ok (.iconst 1, 1) := by decide +kernel
theorem dL_reelLength_14 : decode cL_reelLength 14 = .ok (.ireturn, 1) := by decide +kernel
theorem dL_cut_0 : decode cL_cut 0 = .ok (.aload 4, 2) := by decide +kernel
theorem dL_cut_2 : decode cL_cut 2 = .ok (.iconst 0, 1) := by decide +kernel
theorem dL_cut_3 : decode cL_cut 3 = .ok (.aload_n 0, 1) := by decide +kernel
theorem dL_cut_4 : decode cL_cut 4 = .ok (.iload_n 1, 1) := by decide +kernel
theorem dL_cut_5 : decode cL_cut 5 = .ok (.iload_n 2, 1) := by decide +kernel
theorem dL_cut_6 : decode cL_cut 6 = .ok (.iload_n 3, 1) := by decide +kernel
theorem dL_cut_7 : decode cL_cut 7 = .ok (.invokevirtual 31, 3) := by decide +kernel
theorem dL_cut_15 : decode cL_cut 15 = .ok (.astore 5, 2) := by decide +kernel
theorem dL_cut_17 : decode cL_cut 17 = .ok (.iconst 1, 1) := by decide +kernel
theorem dL_cut_18 : decode cL_cut 18 = .ok (.ireturn, 1) := by decide +kernel
theorem dL_silence_0 : decode cL_silence 0 = .ok (.aload_n 2, 1) := by decide +kernel
theorem dL_silence_1 : decode cL_silence 1 = .ok (.iconst 0, 1) := by decide +kernel
theorem dL_silence_2 : decode cL_silence 2 = .ok (.aload_n 0, 1) := by decide +kernel
theorem dL_silence_3 : decode cL_silence 3 = .ok (.iload_n 1, 1) := by decide +kernel
theorem dL_silence_4 : decode cL_silence 4 = .ok (.invokevirtual 35, 3) := by decide +kernel
theorem dL_silence_7 : decode cL_silence 7 = .ok (.i2l, 1) := by decide +kernel
theorem dL_silence_8 : decode cL_silence 8 = .ok (.lastore, 1) := by decide +kernel
theorem dL_silence_9 : decode cL_silence 9 = .ok (.goto 9, 3) := by decide +kernel
theorem dL_silence_12 : decode cL_silence 12 = .ok (.astore_n 3, 1) := by decide +kernel
theorem dL_silence_13 : decode cL_silence 13 = .ok (.iconst 1, 1) := by decide +kernel
theorem dL_silence_14 : decode cL_silence 14 = .ok (.ireturn, 1) := by decide +kernel
theorem dL_silence_18 : decode cL_silence 18 = .ok (.iconst 0, 1) := by decide +kernel
theorem dL_silence_19 : decode cL_silence 19 = .ok (.ireturn, 1) := by decide +kernel
theorem dL_splice_0 : decode cL_splice 0 = .ok (.aload 4, 2) := by decide +kernel
theorem dL_splice_2 : decode cL_splice 2 = .ok (.iconst 0, 1) := by decide +kernel
theorem dL_splice_3 : decode cL_splice 3 = .ok (.aload_n 0, 1) := by decide +kernel
theorem dL_splice_4 : decode cL_splice 4 = .ok (.iload_n 1, 1) := by decide +kernel
theorem dL_splice_5 : decode cL_splice 5 = .ok (.iload_n 2, 1) := by decide +kernel
theorem dL_splice_6 : decode cL_splice 6 = .ok (.iload_n 3, 1) := by decide +kernel
theorem dL_splice_7 : decode cL_splice 7 = .ok (.invokevirtual 38, 3) := by decide +kernel
theorem dL_splice_15 : decode cL_splice 15 = .ok (.astore 5, 2) := by decide +kernel
theorem dL_splice_17 : decode cL_splice 17 = .ok (.iconst 1, 1) := by decide +kernel
theorem dL_splice_18 : decode cL_splice 18 = .ok (.ireturn, 1) := by decide +kernel
theorem dL_gain_0 : decode cL_gain 0 = .ok (.aload_n 3, 1) := by decide +kernel
theorem dL_gain_1 : decode cL_gain 1 = .ok (.iconst 0, 1) := by decide +kernel
theorem dL_gain_2 : decode cL_gain 2 = .ok (.aload_n 0, 1) := by decide +kernel
theorem dL_gain_3 : decode cL_gain 3 = .ok (.iload_n 1, 1) := by decide +kernel
theorem dL_gain_4 : decode cL_gain 4 = .ok (.iload_n 2, 1) := by decide +kernel
theorem dL_gain_5 : decode cL_gain 5 = .ok (.invokevirtual 43, 3) := by decide +kernel
theorem dL_gain_13 : decode cL_gain 13 = .ok (.astore 4, 2) := by decide +kernel
theorem dL_gain_15 : decode cL_gain 15 = .ok (.iconst 1, 1) := by decide +kernel
theorem dL_gain_16 : decode cL_gain 16 = .ok (.ireturn, 1) := by decide +kernel
theorem dL_back_0 : decode cL_back 0 = .ok (.aload_n 2, 1) := by decide +kernel
theorem dL_back_1 : decode cL_back 1 = .ok (.iconst 0, 1) := by decide +kernel
theorem dL_back_2 : decode cL_back 2 = .ok (.aload_n 0, 1) := by decide +kernel
theorem dL_back_3 : decode cL_back 3 = .ok (.iload_n 1, 1) := by decide +kernel
theorem dL_back_4 : decode cL_back 4 = .ok (.invokevirtual 46, 3) := by decide +kernel
theorem dL_back_12 : decode cL_back 12 = .ok (.astore_n 3, 1) := by decide +kernel
theorem dL_back_13 : decode cL_back 13 = .ok (.iconst 1, 1) := by decide +kernel
theorem dL_back_14 : decode cL_back 14 = .ok (.ireturn, 1) := by decide +kernel
theorem dL_limit_0 : decode cL_limit 0 = .ok (.aload 5, 2) := by decide +kernel
theorem dL_limit_2 : decode cL_limit 2 = .ok (.iconst 0, 1) := by decide +kernel
theorem dL_limit_3 : decode cL_limit 3 = .ok (.aload_n 0, 1) := by decide +kernel
theorem dL_limit_4 : decode cL_limit 4 = .ok (.iload_n 1, 1) := by decide +kernel
theorem dL_limit_5 : decode cL_limit 5 = .ok (.iload_n 2, 1) := by decide +kernel
theorem dL_limit_6 : decode cL_limit 6 = .ok (.iload_n 3, 1) := by decide +kernel
theorem dL_limit_7 : decode cL_limit 7 = .ok (.iload 4, 2) := by decide +kernel
theorem dL_limit_9 : decode cL_limit 9 = .ok (.invokevirtual 49, 3) := by decide +kernel
theorem dL_limit_17 : decode cL_limit 17 = .ok (.astore 6, 2) := by decide +kernel
theorem dL_limit_19 : decode cL_limit 19 = .ok (.iconst 1, 1) := by decide +kernel
theorem dL_limit_20 : decode cL_limit 20 = .ok (.ireturn, 1) := by decide +kernel
theorem dL_resample_0 : decode cL_resample 0 = .ok (.aload 4, 2) := by decide +kernel
theorem dL_resample_2 : decode cL_resample 2 = .ok (.iconst 0, 1) := by decide +kernel
theorem dL_resample_3 : decode cL_resample 3 = .ok (.aload_n 0, 1) := by decide +kernel
theorem dL_resample_4 : decode cL_resample 4 = .ok (.iload_n 1, 1) := by decide +kernel
theorem dL_resample_5 : decode cL_resample 5 = .ok (.iload_n 2, 1) := by decide +kernel
theorem dL_resample_6 : decode cL_resample 6 = .ok (.iload_n 3, 1) := by decide +kernel
theorem dL_resample_7 : decode cL_resample 7 = .ok (.invokevirtual 52, 3) := by decide +kernel
theorem dL_resample_15 : decode cL_resample 15 = .ok (.astore 5, 2) := by decide +kernel
theorem dL_resample_17 : decode cL_resample 17 = .ok (.iconst 1, 1) := by decide +kernel
theorem dL_resample_18 : decode cL_resample 18 = .ok (.ireturn, 1) := by decide +kernel
theorem dL_dither_0 : decode cL_dither 0 = .ok (.aload_n 3, 1) := by decide +kernel
theorem dL_dither_1 : decode cL_dither 1 = .ok (.iconst 0, 1) := by decide +kernel
theorem dL_dither_2 : decode cL_dither 2 = .ok (.aload_n 0, 1) := by decide +kernel
theorem dL_dither_3 : decode cL_dither 3 = .ok (.iload_n 1, 1) := by decide +kernel
theorem dL_dither_4 : decode cL_dither 4 = .ok (.iload_n 2, 1) := by decide +kernel
theorem dL_dither_5 : decode cL_dither 5 = .ok (.invokevirtual 55, 3) := by decide +kernel
theorem dL_dither_13 : decode cL_dither 13 = .ok (.astore 4, 2) := by decide +kernel
theorem dL_dither_15 : decode cL_dither 15 = .ok (.iconst 1, 1) := by decide +kernel
theorem dL_dither_16 : decode cL_dither 16 = .ok (.ireturn, 1) := by decide +kernel
theorem dL_kindOf_0 : decode cL_kindOf 0 = .ok (.aload_n 2, 1) := by decide +kernel
theorem dL_kindOf_1 : decode cL_kindOf 1 = .ok (.iconst 0, 1) := by decide +kernel
theorem dL_kindOf_2 : decode cL_kindOf 2 = .ok (.aload_n 0, 1) := by decide +kernel
theorem dL_kindOf_3 : decode cL_kindOf 3 = .ok (.iload_n 1, 1) := by decide +kernel
theorem dL_kindOf_4 : decode cL_kindOf 4 = .ok (.invokevirtual 58, 3) := by decide +kernel
theorem dL_kindOf_12 : decode cL_kindOf 12 = .ok (.astore_n 3, 1) := by decide +kernel
theorem dL_kindOf_13 : decode cL_kindOf 13 = .ok (.iconst 1, 1) := by decide +kernel
theorem dL_kindOf_14 : decode cL_kindOf 14 = .ok (.ireturn, 1) := by decide +kernel
theorem dL_lengthOf_0 : decode cL_lengthOf 0 = .ok (.aload_n 2, 1) := by decide +kernel
theorem dL_lengthOf_1 : decode cL_lengthOf 1 = .ok (.iconst 0, 1) := by decide +kernel
theorem dL_lengthOf_2 : decode cL_lengthOf 2 = .ok (.aload_n 0, 1) := by decide +kernel
theorem dL_lengthOf_3 : decode cL_lengthOf 3 = .ok (.iload_n 1, 1) := by decide +kernel
theorem dL_lengthOf_4 : decode cL_lengthOf 4 = .ok (.invokevirtual 62, 3) := by decide +kernel
theorem dL_lengthOf_12 : decode cL_lengthOf 12 = .ok (.astore_n 3, 1) := by decide +kernel
theorem dL_lengthOf_13 : decode cL_lengthOf 13 = .ok (.iconst 1, 1) := by decide +kernel
theorem dL_lengthOf_14 : decode cL_lengthOf 14 = .ok (.ireturn, 1) := by decide +kernel
theorem dL_sampleOf_0 : decode cL_sampleOf 0 = .ok (.aload_n 3, 1) := by decide +kernel
theorem dL_sampleOf_1 : decode cL_sampleOf 1 = .ok (.iconst 0, 1) := by decide +kernel
theorem dL_sampleOf_2 : decode cL_sampleOf 2 = .ok (.aload_n 0, 1) := by decide +kernel
theorem dL_sampleOf_3 : decode cL_sampleOf 3 = .ok (.iload_n 1, 1) := by decide +kernel
theorem dL_sampleOf_4 : decode cL_sampleOf 4 = .ok (.iload_n 2, 1) := by decide +kernel
theorem dL_sampleOf_5 : decode cL_sampleOf 5 = .ok (.invokevirtual 65, 3) := by decide +kernel
theorem dL_sampleOf_13 : decode cL_sampleOf 13 = .ok (.astore 4, 2) := by decide +kernel
theorem dL_sampleOf_15 : decode cL_sampleOf 15 = .ok (.iconst 1, 1) := by decide +kernel
theorem dL_sampleOf_16 : decode cL_sampleOf 16 = .ok (.ireturn, 1) := by decide +kernel
theorem dL_loudness_0 : decode cL_loudness 0 = .ok (.aload_n 2, 1) := by decide +kernel
theorem dL_loudness_1 : decode cL_loudness 1 = .ok (.iconst 0, 1) := by decide +kernel
theorem dL_loudness_2 : decode cL_loudness 2 = .ok (.aload_n 0, 1) := by decide +kernel
theorem dL_loudness_3 : decode cL_loudness 3 = .ok (.iload_n 1, 1) := by decide +kernel
theorem dL_loudness_4 : decode cL_loudness 4 = .ok (.invokevirtual 70, 3) := by decide +kernel
theorem dL_loudness_12 : decode cL_loudness 12 = .ok (.astore_n 3, 1) := by decide +kernel
theorem dL_loudness_13 : decode cL_loudness 13 = .ok (.iconst 1, 1) := by decide +kernel
theorem dL_loudness_14 : decode cL_loudness 14 = .ok (.ireturn, 1) := by decide +kernel
theorem dL_peak_0 : decode cL_peak 0 = .ok (.aload_n 2, 1) := by decide +kernel
theorem dL_peak_1 : decode cL_peak 1 = .ok (.iconst 0, 1) := by decide +kernel
theorem dL_peak_2 : decode cL_peak 2 = .ok (.aload_n 0, 1) := by decide +kernel
theorem dL_peak_3 : decode cL_peak 3 = .ok (.iload_n 1, 1) := by decide +kernel
theorem dL_peak_4 : decode cL_peak 4 = .ok (.invokevirtual 73, 3) := by decide +kernel
theorem dL_peak_12 : decode cL_peak 12 = .ok (.astore_n 3, 1) := by decide +kernel
theorem dL_peak_13 : decode cL_peak 13 = .ok (.iconst 1, 1) := by decide +kernel
theorem dL_peak_14 : decode cL_peak 14 = .ok (.ireturn, 1) := by decide +kernel
theorem dL_add_0 : decode cL_add 0 = .ok (.aload_n 3, 1) := by decide +kernel
theorem dL_add_1 : decode cL_add 1 = .ok (.iconst 0, 1) := by decide +kernel
theorem dL_add_2 : decode cL_add 2 = .ok (.aload_n 0, 1) := by decide +kernel
theorem dL_add_3 : decode cL_add 3 = .ok (.iload_n 1, 1) := by decide +kernel
theorem dL_add_4 : decode cL_add 4 = .ok (.iload_n 2, 1) := by decide +kernel
theorem dL_add_5 : decode cL_add 5 = .ok (.invokevirtual 76, 3) := by decide +kernel
theorem dL_add_13 : decode cL_add 13 = .ok (.astore 4, 2) := by decide +kernel
theorem dL_add_15 : decode cL_add 15 = .ok (.iconst 1, 1) := by decide +kernel
theorem dL_add_16 : decode cL_add 16 = .ok (.ireturn, 1) := by decide +kernel
theorem dL_lock_0 : decode cL_lock 0 = .ok (.aload_n 3, 1) := by decide +kernel
theorem dL_lock_1 : decode cL_lock 1 = .ok (.iconst 0, 1) := by decide +kernel
theorem dL_lock_2 : decode cL_lock 2 = .ok (.aload_n 0, 1) := by decide +kernel
theorem dL_lock_3 : decode cL_lock 3 = .ok (.iload_n 1, 1) := by decide +kernel
theorem dL_lock_4 : decode cL_lock 4 = .ok (.iload_n 2, 1) := by decide +kernel
theorem dL_lock_5 : decode cL_lock 5 = .ok (.invokevirtual 79, 3) := by decide +kernel
theorem dL_lock_20 : decode cL_lock 20 = .ok (.astore 4, 2) := by decide +kernel
theorem dL_lock_22 : decode cL_lock 22 = .ok (.iconst 1, 1) := by decide +kernel
theorem dL_lock_23 : decode cL_lock 23 = .ok (.ireturn, 1) := by decide +kernel
theorem dL_replace_0 : decode cL_replace 0 = .ok (.aload_n 3, 1) := by decide +kernel
theorem dL_replace_1 : decode cL_replace 1 = .ok (.iconst 0, 1) := by decide +kernel
theorem dL_replace_2 : decode cL_replace 2 = .ok (.aload_n 0, 1) := by decide +kernel
theorem dL_replace_3 : decode cL_replace 3 = .ok (.iload_n 1, 1) := by decide +kernel
theorem dL_replace_4 : decode cL_replace 4 = .ok (.iload_n 2, 1) := by decide +kernel
theorem dL_replace_5 : decode cL_replace 5 = .ok (.invokevirtual 83, 3) := by decide +kernel
theorem dL_replace_13 : decode cL_replace 13 = .ok (.astore 4, 2) := by decide +kernel
theorem dL_replace_15 : decode cL_replace 15 = .ok (.iconst 1, 1) := by decide +kernel
theorem dL_replace_16 : decode cL_replace 16 = .ok (.ireturn, 1) := by decide +kernel
theorem dL_startOf_0 : decode cL_startOf 0 = .ok (.aload_n 2, 1) := by decide +kernel
theorem dL_startOf_1 : decode cL_startOf 1 = .ok (.iconst 0, 1) := by decide +kernel
theorem dL_startOf_2 : decode cL_startOf 2 = .ok (.aload_n 0, 1) := by decide +kernel
theorem dL_startOf_3 : decode cL_startOf 3 = .ok (.iload_n 1, 1) := by decide +kernel
theorem dL_startOf_4 : decode cL_startOf 4 = .ok (.invokevirtual 86, 3) := by decide +kernel
theorem dL_startOf_12 : decode cL_startOf 12 = .ok (.astore_n 3, 1) := by decide +kernel
theorem dL_startOf_13 : decode cL_startOf 13 = .ok (.iconst 1, 1) := by decide +kernel
theorem dL_startOf_14 : decode cL_startOf 14 = .ok (.ireturn, 1) := by decide +kernel
theorem dL_heard_0 : decode cL_heard 0 = .ok (.aload_n 2, 1) := by decide +kernel
theorem dL_heard_1 : decode cL_heard 1 = .ok (.iconst 0, 1) := by decide +kernel
theorem dL_heard_2 : decode cL_heard 2 = .ok (.aload_n 0, 1) := by decide +kernel
theorem dL_heard_3 : decode cL_heard 3 = .ok (.iload_n 1, 1) := by decide +kernel
theorem dL_heard_4 : decode cL_heard 4 = .ok (.invokevirtual 89, 3) := by decide +kernel
theorem dL_heard_12 : decode cL_heard 12 = .ok (.astore_n 3, 1) := by decide +kernel
theorem dL_heard_13 : decode cL_heard 13 = .ok (.iconst 1, 1) := by decide +kernel
theorem dL_heard_14 : decode cL_heard 14 = .ok (.ireturn, 1) := by decide +kernel
theorem dL_sides_0 : decode cL_sides 0 = .ok (.aload_n 2, 1) := by decide +kernel
theorem dL_sides_1 : decode cL_sides 1 = .ok (.iconst 0, 1) := by decide +kernel
theorem dL_sides_2 : decode cL_sides 2 = .ok (.aload_n 0, 1) := by decide +kernel
theorem dL_sides_3 : decode cL_sides 3 = .ok (.iload_n 1, 1) := by decide +kernel
theorem dL_sides_4 : decode cL_sides 4 = .ok (.invokevirtual 92, 3) := by decide +kernel
theorem dL_sides_7 : decode cL_sides 7 = .ok (.i2l, 1) := by decide +kernel
theorem dL_sides_8 : decode cL_sides 8 = .ok (.lastore, 1) := by decide +kernel
theorem dL_sides_9 : decode cL_sides 9 = .ok (.goto 9, 3) := by decide +kernel
theorem dL_sides_12 : decode cL_sides 12 = .ok (.astore_n 3, 1) := by decide +kernel
theorem dL_sides_13 : decode cL_sides 13 = .ok (.iconst 1, 1) := by decide +kernel
theorem dL_sides_14 : decode cL_sides 14 = .ok (.ireturn, 1) := by decide +kernel
theorem dL_sides_18 : decode cL_sides 18 = .ok (.iconst 0, 1) := by decide +kernel
theorem dL_sides_19 : decode cL_sides 19 = .ok (.ireturn, 1) := by decide +kernel
theorem dL_sideOf_0 : decode cL_sideOf 0 = .ok (.aload_n 3, 1) := by decide +kernel
theorem dL_sideOf_1 : decode cL_sideOf 1 = .ok (.iconst 0, 1) := by decide +kernel
theorem dL_sideOf_2 : decode cL_sideOf 2 = .ok (.aload_n 0, 1) := by decide +kernel
theorem dL_sideOf_3 : decode cL_sideOf 3 = .ok (.iload_n 1, 1) := by decide +kernel
theorem dL_sideOf_4 : decode cL_sideOf 4 = .ok (.iload_n 2, 1) := by decide +kernel
theorem dL_sideOf_5 : decode cL_sideOf 5 = .ok (.invokevirtual 95, 3) := by decide +kernel
theorem dL_sideOf_13 : decode cL_sideOf 13 = .ok (.astore 4, 2) := by decide +kernel
theorem dL_sideOf_15 : decode cL_sideOf 15 = .ok (.iconst 1, 1) := by decide +kernel
theorem dL_sideOf_16 : decode cL_sideOf 16 = .ok (.ireturn, 1) := by decide +kernel
theorem dL_engrave_0 : decode cL_engrave 0 = .ok (.aload_n 3, 1) := by decide +kernel
theorem dL_engrave_1 : decode cL_engrave 1 = .ok (.iconst 0, 1) := by decide +kernel
theorem dL_engrave_2 : decode cL_engrave 2 = .ok (.aload_n 0, 1) := by decide +kernel
theorem dL_engrave_3 : decode cL_engrave 3 = .ok (.iload_n 1, 1) := by decide +kernel
theorem dL_engrave_4 : decode cL_engrave 4 = .ok (.iload_n 2, 1) := by decide +kernel
theorem dL_engrave_5 : decode cL_engrave 5 = .ok (.invokevirtual 98, 3) := by decide +kernel
theorem dL_engrave_13 : decode cL_engrave 13 = .ok (.astore 4, 2) := by decide +kernel
theorem dL_engrave_15 : decode cL_engrave 15 = .ok (.iconst 1, 1) := by decide +kernel
theorem dL_engrave_16 : decode cL_engrave 16 = .ok (.ireturn, 1) := by decide +kernel
theorem dL_engrave_21 : decode cL_engrave 21 = .ok (.astore 4, 2) := by decide +kernel
theorem dL_engrave_23 : decode cL_engrave 23 = .ok (.iconst 3, 1) := by decide +kernel
theorem dL_engrave_24 : decode cL_engrave 24 = .ok (.ireturn, 1) := by decide +kernel
theorem dL_failedAt_0 : decode cL_failedAt 0 = .ok (.aload_n 2, 1) := by decide +kernel
theorem dL_failedAt_1 : decode cL_failedAt 1 = .ok (.iconst 0, 1) := by decide +kernel
theorem dL_failedAt_2 : decode cL_failedAt 2 = .ok (.aload_n 0, 1) := by decide +kernel
theorem dL_failedAt_3 : decode cL_failedAt 3 = .ok (.iload_n 1, 1) := by decide +kernel
theorem dL_failedAt_4 : decode cL_failedAt 4 = .ok (.invokevirtual 101, 3) := by decide +kernel
theorem dL_failedAt_12 : decode cL_failedAt 12 = .ok (.astore_n 3, 1) := by decide +kernel
theorem dL_failedAt_13 : decode cL_failedAt 13 = .ok (.iconst 1, 1) := by decide +kernel
theorem dL_failedAt_14 : decode cL_failedAt 14 = .ok (.ireturn, 1) := by decide +kernel
theorem dL_father_0 : decode cL_father 0 = .ok (.aload_n 2, 1) := by decide +kernel
theorem dL_father_1 : decode cL_father 1 = .ok (.iconst 0, 1) := by decide +kernel
theorem dL_father_2 : decode cL_father 2 = .ok (.aload_n 0, 1) := by decide +kernel
theorem dL_father_3 : decode cL_father 3 = .ok (.iload_n 1, 1) := by decide +kernel
theorem dL_father_4 : decode cL_father 4 = .ok (.invokevirtual 104, 3) := by decide +kernel
theorem dL_father_12 : decode cL_father 12 = .ok (.astore_n 3, 1) := by decide +kernel
theorem dL_father_13 : decode cL_father 13 = .ok (.iconst 1, 1) := by decide +kernel
theorem dL_father_14 : decode cL_father 14 = .ok (.ireturn, 1) := by decide +kernel
theorem dL_mother_0 : decode cL_mother 0 = .ok (.aload_n 2, 1) := by decide +kernel
theorem dL_mother_1 : decode cL_mother 1 = .ok (.iconst 0, 1) := by decide +kernel
theorem dL_mother_2 : decode cL_mother 2 = .ok (.aload_n 0, 1) := by decide +kernel
theorem dL_mother_3 : decode cL_mother 3 = .ok (.iload_n 1, 1) := by decide +kernel
theorem dL_mother_4 : decode cL_mother 4 = .ok (.invokevirtual 107, 3) := by decide +kernel
theorem dL_mother_12 : decode cL_mother 12 = .ok (.astore_n 3, 1) := by decide +kernel
theorem dL_mother_13 : decode cL_mother 13 = .ok (.iconst 1, 1) := by decide +kernel
theorem dL_mother_14 : decode cL_mother 14 = .ok (.ireturn, 1) := by decide +kernel
theorem dL_stamper_0 : decode cL_stamper 0 = .ok (.aload_n 2, 1) := by decide +kernel
theorem dL_stamper_1 : decode cL_stamper 1 = .ok (.iconst 0, 1) := by decide +kernel
theorem dL_stamper_2 : decode cL_stamper 2 = .ok (.aload_n 0, 1) := by decide +kernel
theorem dL_stamper_3 : decode cL_stamper 3 = .ok (.iload_n 1, 1) := by decide +kernel
theorem dL_stamper_4 : decode cL_stamper 4 = .ok (.invokevirtual 110, 3) := by decide +kernel
theorem dL_stamper_12 : decode cL_stamper 12 = .ok (.astore_n 3, 1) := by decide +kernel
theorem dL_stamper_13 : decode cL_stamper 13 = .ok (.iconst 1, 1) := by decide +kernel
theorem dL_stamper_14 : decode cL_stamper 14 = .ok (.ireturn, 1) := by decide +kernel
theorem dL_press_0 : decode cL_press 0 = .ok (.aload_n 3, 1) := by decide +kernel
theorem dL_press_1 : decode cL_press 1 = .ok (.iconst 0, 1) := by decide +kernel
theorem dL_press_2 : decode cL_press 2 = .ok (.aload_n 0, 1) := by decide +kernel
theorem dL_press_3 : decode cL_press 3 = .ok (.iload_n 1, 1) := by decide +kernel
theorem dL_press_4 : decode cL_press 4 = .ok (.iload_n 2, 1) := by decide +kernel
theorem dL_press_5 : decode cL_press 5 = .ok (.invokevirtual 113, 3) := by decide +kernel
theorem dL_press_13 : decode cL_press 13 = .ok (.astore 4, 2) := by decide +kernel
theorem dL_press_15 : decode cL_press 15 = .ok (.iconst 1, 1) := by decide +kernel
theorem dL_press_16 : decode cL_press 16 = .ok (.ireturn, 1) := by decide +kernel
theorem dL_edition_0 : decode cL_edition 0 = .ok (.aload_n 2, 1) := by decide +kernel
theorem dL_edition_1 : decode cL_edition 1 = .ok (.iconst 0, 1) := by decide +kernel
theorem dL_edition_2 : decode cL_edition 2 = .ok (.aload_n 0, 1) := by decide +kernel
theorem dL_edition_3 : decode cL_edition 3 = .ok (.iload_n 1, 1) := by decide +kernel
theorem dL_edition_4 : decode cL_edition 4 = .ok (.invokevirtual 116, 3) := by decide +kernel
theorem dL_edition_12 : decode cL_edition 12 = .ok (.astore_n 3, 1) := by decide +kernel
theorem dL_edition_13 : decode cL_edition 13 = .ok (.iconst 1, 1) := by decide +kernel
theorem dL_edition_14 : decode cL_edition 14 = .ok (.ireturn, 1) := by decide +kernel
theorem dL_edition_15 : decode cL_edition 15 = .ok (.astore_n 3, 1) := by decide +kernel
theorem dL_edition_16 : decode cL_edition 16 = .ok (.iconst 2, 1) := by decide +kernel
theorem dL_edition_17 : decode cL_edition 17 = .ok (.ireturn, 1) := by decide +kernel
theorem dL_editionAt_0 : decode cL_editionAt 0 = .ok (.aload_n 3, 1) := by decide +kernel
theorem dL_editionAt_1 : decode cL_editionAt 1 = .ok (.iconst 0, 1) := by decide +kernel
theorem dL_editionAt_2 : decode cL_editionAt 2 = .ok (.aload_n 0, 1) := by decide +kernel
theorem dL_editionAt_3 : decode cL_editionAt 3 = .ok (.iload_n 1, 1) := by decide +kernel
theorem dL_editionAt_4 : decode cL_editionAt 4 = .ok (.iload_n 2, 1) := by decide +kernel
theorem dL_editionAt_5 : decode cL_editionAt 5 = .ok (.invokevirtual 119, 3) := by decide +kernel
theorem dL_editionAt_13 : decode cL_editionAt 13 = .ok (.astore 4, 2) := by decide +kernel
theorem dL_editionAt_15 : decode cL_editionAt 15 = .ok (.iconst 1, 1) := by decide +kernel
theorem dL_editionAt_16 : decode cL_editionAt 16 = .ok (.ireturn, 1) := by decide +kernel
theorem dL_sum_0 : decode cL_sum 0 = .ok (.aload_n 3, 1) := by decide +kernel
theorem dL_sum_1 : decode cL_sum 1 = .ok (.iconst 0, 1) := by decide +kernel
theorem dL_sum_2 : decode cL_sum 2 = .ok (.aload_n 0, 1) := by decide +kernel
theorem dL_sum_3 : decode cL_sum 3 = .ok (.iload_n 1, 1) := by decide +kernel
theorem dL_sum_4 : decode cL_sum 4 = .ok (.iload_n 2, 1) := by decide +kernel
theorem dL_sum_5 : decode cL_sum 5 = .ok (.invokevirtual 122, 3) := by decide +kernel
theorem dL_sum_13 : decode cL_sum 13 = .ok (.astore 4, 2) := by decide +kernel
theorem dL_sum_15 : decode cL_sum 15 = .ok (.iconst 1, 1) := by decide +kernel
theorem dL_sum_16 : decode cL_sum 16 = .ok (.ireturn, 1) := by decide +kernel
theorem dL_match_0 : decode cL_match 0 = .ok (.aload_n 3, 1) := by decide +kernel
theorem dL_match_1 : decode cL_match 1 = .ok (.iconst 0, 1) := by decide +kernel
theorem dL_match_2 : decode cL_match 2 = .ok (.aload_n 0, 1) := by decide +kernel
theorem dL_match_3 : decode cL_match 3 = .ok (.iload_n 1, 1) := by decide +kernel
theorem dL_match_4 : decode cL_match 4 = .ok (.iload_n 2, 1) := by decide +kernel
theorem dL_match_5 : decode cL_match 5 = .ok (.invokevirtual 125, 3) := by decide +kernel
theorem dL_match_13 : decode cL_match 13 = .ok (.astore 4, 2) := by decide +kernel
theorem dL_match_15 : decode cL_match 15 = .ok (.iconst 1, 1) := by decide +kernel
theorem dL_match_16 : decode cL_match 16 = .ok (.ireturn, 1) := by decide +kernel
theorem dL_difference_0 : decode cL_difference 0 = .ok (.aload_n 3, 1) := by decide +kernel
theorem dL_difference_1 : decode cL_difference 1 = .ok (.iconst 0, 1) := by decide +kernel
theorem dL_difference_2 : decode cL_difference 2 = .ok (.aload_n 0, 1) := by decide +kernel
theorem dL_difference_3 : decode cL_difference 3 = .ok (.iload_n 1, 1) := by decide +kernel
theorem dL_difference_4 : decode cL_difference 4 = .ok (.iload_n 2, 1) := by decide +kernel
theorem dL_difference_5 : decode cL_difference 5 = .ok (.invokevirtual 128, 3) := by decide +kernel
theorem dL_difference_13 : decode cL_difference 13 = .ok (.astore 4, 2) := by decide +kernel
theorem dL_difference_15 : decode cL_difference 15 = .ok (.iconst 1, 1) := by decide +kernel
theorem dL_difference_16 : decode cL_difference 16 = .ok (.ireturn, 1) := by decide +kernel
theorem dL_differsAt_0 : decode cL_differsAt 0 = .ok (.aload_n 3, 1) := by decide +kernel
theorem dL_differsAt_1 : decode cL_differsAt 1 = .ok (.iconst 0, 1) := by decide +kernel
theorem dL_differsAt_2 : decode cL_differsAt 2 = .ok (.aload_n 0, 1) := by decide +kernel
theorem dL_differsAt_3 : decode cL_differsAt 3 = .ok (.iload_n 1, 1) := by decide +kernel
theorem dL_differsAt_4 : decode cL_differsAt 4 = .ok (.iload_n 2, 1) := by decide +kernel
theorem dL_differsAt_5 : decode cL_differsAt 5 = .ok (.invokevirtual 132, 3) := by decide +kernel
theorem dL_differsAt_13 : decode cL_differsAt 13 = .ok (.astore 4, 2) := by decide +kernel
theorem dL_differsAt_15 : decode cL_differsAt 15 = .ok (.iconst 1, 1) := by decide +kernel
theorem dL_differsAt_16 : decode cL_differsAt 16 = .ok (.ireturn, 1) := by decide +kernel
theorem dL_damage_0 : decode cL_damage 0 = .ok (.aload 4, 2) := by decide +kernel
theorem dL_damage_2 : decode cL_damage 2 = .ok (.iconst 0, 1) := by decide +kernel
theorem dL_damage_3 : decode cL_damage 3 = .ok (.aload_n 0, 1) := by decide +kernel
theorem dL_damage_4 : decode cL_damage 4 = .ok (.iload_n 1, 1) := by decide +kernel
theorem dL_damage_5 : decode cL_damage 5 = .ok (.iload_n 2, 1) := by decide +kernel
theorem dL_damage_6 : decode cL_damage 6 = .ok (.iload_n 3, 1) := by decide +kernel
theorem dL_damage_7 : decode cL_damage 7 = .ok (.invokevirtual 135, 3) := by decide +kernel
theorem dL_damage_15 : decode cL_damage 15 = .ok (.astore 5, 2) := by decide +kernel
theorem dL_damage_17 : decode cL_damage 17 = .ok (.iconst 1, 1) := by decide +kernel
theorem dL_damage_18 : decode cL_damage 18 = .ok (.ireturn, 1) := by decide +kernel
theorem dL_repair_0 : decode cL_repair 0 = .ok (.aload_n 3, 1) := by decide +kernel
theorem dL_repair_1 : decode cL_repair 1 = .ok (.iconst 0, 1) := by decide +kernel
theorem dL_repair_2 : decode cL_repair 2 = .ok (.aload_n 0, 1) := by decide +kernel
theorem dL_repair_3 : decode cL_repair 3 = .ok (.iload_n 1, 1) := by decide +kernel
theorem dL_repair_4 : decode cL_repair 4 = .ok (.iload_n 2, 1) := by decide +kernel
theorem dL_repair_5 : decode cL_repair 5 = .ok (.invokevirtual 138, 3) := by decide +kernel
theorem dL_repair_13 : decode cL_repair 13 = .ok (.astore 4, 2) := by decide +kernel
theorem dL_repair_15 : decode cL_repair 15 = .ok (.iconst 1, 1) := by decide +kernel
theorem dL_repair_16 : decode cL_repair 16 = .ok (.ireturn, 1) := by decide +kernel
theorem dL_padding_0 : decode cL_padding 0 = .ok (.aload 4, 2) := by decide +kernel
theorem dL_padding_2 : decode cL_padding 2 = .ok (.iconst 0, 1) := by decide +kernel
theorem dL_padding_3 : decode cL_padding 3 = .ok (.aload_n 0, 1) := by decide +kernel
theorem dL_padding_4 : decode cL_padding 4 = .ok (.iload_n 1, 1) := by decide +kernel
theorem dL_padding_5 : decode cL_padding 5 = .ok (.iload_n 2, 1) := by decide +kernel
theorem dL_padding_6 : decode cL_padding 6 = .ok (.iload_n 3, 1) := by decide +kernel
theorem dL_padding_7 : decode cL_padding 7 = .ok (.invokevirtual 141, 3) := by decide +kernel
theorem dL_padding_15 : decode cL_padding 15 = .ok (.astore 5, 2) := by decide +kernel
theorem dL_padding_17 : decode cL_padding 17 = .ok (.iconst 1, 1) := by decide +kernel
theorem dL_padding_18 : decode cL_padding 18 = .ok (.ireturn, 1) := by decide +kernel
theorem dL_shuffled_0 : decode cL_shuffled 0 = .ok (.aload_n 3, 1) := by decide +kernel
theorem dL_shuffled_1 : decode cL_shuffled 1 = .ok (.iconst 0, 1) := by decide +kernel
theorem dL_shuffled_2 : decode cL_shuffled 2 = .ok (.aload_n 0, 1) := by decide +kernel
theorem dL_shuffled_3 : decode cL_shuffled 3 = .ok (.iload_n 1, 1) := by decide +kernel
theorem dL_shuffled_4 : decode cL_shuffled 4 = .ok (.iload_n 2, 1) := by decide +kernel
theorem dL_shuffled_5 : decode cL_shuffled 5 = .ok (.invokevirtual 144, 3) := by decide +kernel
theorem dL_shuffled_13 : decode cL_shuffled 13 = .ok (.astore 4, 2) := by decide +kernel
theorem dL_shuffled_15 : decode cL_shuffled 15 = .ok (.iconst 1, 1) := by decide +kernel
theorem dL_shuffled_16 : decode cL_shuffled 16 = .ok (.ireturn, 1) := by decide +kernel
theorem dL_shuffled_17 : decode cL_shuffled 17 = .ok (.astore 4, 2) := by decide +kernel
theorem dL_shuffled_19 : decode cL_shuffled 19 = .ok (.iconst 2, 1) := by decide +kernel
theorem dL_shuffled_20 : decode cL_shuffled 20 = .ok (.ireturn, 1) := by decide +kernel
theorem dL_split_0 : decode cL_split 0 = .ok (.aload 4, 2) := by decide +kernel
theorem dL_split_2 : decode cL_split 2 = .ok (.iconst 0, 1) := by decide +kernel
theorem dL_split_3 : decode cL_split 3 = .ok (.aload_n 0, 1) := by decide +kernel
theorem dL_split_4 : decode cL_split 4 = .ok (.iload_n 1, 1) := by decide +kernel
theorem dL_split_5 : decode cL_split 5 = .ok (.iload_n 2, 1) := by decide +kernel
theorem dL_split_6 : decode cL_split 6 = .ok (.iload_n 3, 1) := by decide +kernel
theorem dL_split_7 : decode cL_split 7 = .ok (.invokevirtual 147, 3) := by decide +kernel
theorem dL_split_15 : decode cL_split 15 = .ok (.astore 5, 2) := by decide +kernel
theorem dL_split_17 : decode cL_split 17 = .ok (.iconst 1, 1) := by decide +kernel
theorem dL_split_18 : decode cL_split 18 = .ok (.ireturn, 1) := by decide +kernel
theorem dL_play_0 : decode cL_play 0 = .ok (.aload_n 3, 1) := by decide +kernel
theorem dL_play_1 : decode cL_play 1 = .ok (.iconst 0, 1) := by decide +kernel
theorem dL_play_2 : decode cL_play 2 = .ok (.aload_n 0, 1) := by decide +kernel
theorem dL_play_3 : decode cL_play 3 = .ok (.iload_n 1, 1) := by decide +kernel
theorem dL_play_4 : decode cL_play 4 = .ok (.iload_n 2, 1) := by decide +kernel
theorem dL_play_5 : decode cL_play 5 = .ok (.invokevirtual 150, 3) := by decide +kernel
theorem dL_play_13 : decode cL_play 13 = .ok (.astore 4, 2) := by decide +kernel
theorem dL_play_15 : decode cL_play 15 = .ok (.iconst 1, 1) := by decide +kernel
theorem dL_play_16 : decode cL_play 16 = .ok (.ireturn, 1) := by decide +kernel
theorem dL_earned_0 : decode cL_earned 0 = .ok (.aload_n 3, 1) := by decide +kernel
theorem dL_earned_1 : decode cL_earned 1 = .ok (.iconst 0, 1) := by decide +kernel
theorem dL_earned_2 : decode cL_earned 2 = .ok (.aload_n 0, 1) := by decide +kernel
theorem dL_earned_3 : decode cL_earned 3 = .ok (.iload_n 1, 1) := by decide +kernel
theorem dL_earned_4 : decode cL_earned 4 = .ok (.iload_n 2, 1) := by decide +kernel
theorem dL_earned_5 : decode cL_earned 5 = .ok (.invokevirtual 153, 3) := by decide +kernel
theorem dL_earned_8 : decode cL_earned 8 = .ok (.lastore, 1) := by decide +kernel
theorem dL_earned_9 : decode cL_earned 9 = .ok (.goto 7, 3) := by decide +kernel
theorem dL_earned_12 : decode cL_earned 12 = .ok (.astore 4, 2) := by decide +kernel
theorem dL_earned_14 : decode cL_earned 14 = .ok (.iconst 1, 1) := by decide +kernel
theorem dL_earned_15 : decode cL_earned 15 = .ok (.ireturn, 1) := by decide +kernel
theorem dL_earned_16 : decode cL_earned 16 = .ok (.iconst 0, 1) := by decide +kernel
theorem dL_earned_17 : decode cL_earned 17 = .ok (.ireturn, 1) := by decide +kernel
theorem dL_vote_0 : decode cL_vote 0 = .ok (.aload 4, 2) := by decide +kernel
theorem dL_vote_2 : decode cL_vote 2 = .ok (.iconst 0, 1) := by decide +kernel
theorem dL_vote_3 : decode cL_vote 3 = .ok (.aload_n 0, 1) := by decide +kernel
theorem dL_vote_4 : decode cL_vote 4 = .ok (.iload_n 1, 1) := by decide +kernel
theorem dL_vote_5 : decode cL_vote 5 = .ok (.iload_n 2, 1) := by decide +kernel
theorem dL_vote_6 : decode cL_vote 6 = .ok (.iload_n 3, 1) := by decide +kernel
theorem dL_vote_7 : decode cL_vote 7 = .ok (.invokevirtual 157, 3) := by decide +kernel
theorem dL_vote_15 : decode cL_vote 15 = .ok (.astore 5, 2) := by decide +kernel
theorem dL_vote_17 : decode cL_vote 17 = .ok (.iconst 1, 1) := by decide +kernel
theorem dL_vote_18 : decode cL_vote 18 = .ok (.ireturn, 1) := by decide +kernel
theorem dL_favourite_0 : decode cL_favourite 0 = .ok (.aload_n 1, 1) := by decide +kernel
theorem dL_favourite_1 : decode cL_favourite 1 = .ok (.iconst 0, 1) := by decide +kernel
theorem dL_favourite_2 : decode cL_favourite 2 = .ok (.aload_n 0, 1) := by decide +kernel
theorem dL_favourite_3 : decode cL_favourite 3 = .ok (.invokevirtual 160, 3) := by decide +kernel
theorem dL_favourite_11 : decode cL_favourite 11 = .ok (.astore_n 2, 1) := by decide +kernel
theorem dL_favourite_12 : decode cL_favourite 12 = .ok (.iconst 1, 1) := by decide +kernel
theorem dL_favourite_13 : decode cL_favourite 13 = .ok (.ireturn, 1) := by decide +kernel
theorem dL_goodShare_0 : decode cL_goodShare 0 = .ok (.aload_n 1, 1) := by decide +kernel
theorem dL_goodShare_1 : decode cL_goodShare 1 = .ok (.iconst 0, 1) := by decide +kernel
theorem dL_goodShare_2 : decode cL_goodShare 2 = .ok (.aload_n 0, 1) := by decide +kernel
theorem dL_goodShare_3 : decode cL_goodShare 3 = .ok (.invokevirtual 163, 3) := by decide +kernel
theorem dL_goodShare_11 : decode cL_goodShare 11 = .ok (.astore_n 2, 1) := by decide +kernel
theorem dL_goodShare_12 : decode cL_goodShare 12 = .ok (.iconst 1, 1) := by decide +kernel
theorem dL_goodShare_13 : decode cL_goodShare 13 = .ok (.ireturn, 1) := by decide +kernel
theorem dL_meanMark_0 : decode cL_meanMark 0 = .ok (.aload_n 2, 1) := by decide +kernel
theorem dL_meanMark_1 : decode cL_meanMark 1 = .ok (.iconst 0, 1) := by decide +kernel
theorem dL_meanMark_2 : decode cL_meanMark 2 = .ok (.aload_n 0, 1) := by decide +kernel
theorem dL_meanMark_3 : decode cL_meanMark 3 = .ok (.iload_n 1, 1) := by decide +kernel
theorem dL_meanMark_4 : decode cL_meanMark 4 = .ok (.invokevirtual 169, 3) := by decide +kernel
theorem dL_meanMark_11 : decode cL_meanMark 11 = .ok (.astore_n 3, 1) := by decide +kernel
theorem dL_meanMark_12 : decode cL_meanMark 12 = .ok (.iconst 1, 1) := by decide +kernel
theorem dL_meanMark_13 : decode cL_meanMark 13 = .ok (.ireturn, 1) := by decide +kernel
def wo_c_L_sample : List Cond := [Cond.classLink RL 19 "java/lang/IndexOutOfBoundsException"]
def wk_c_L_sample : List Cond := Cond.codeWith yL_sample cL_sample 5 (some .int) [(0, 10, 13, 19), (0, 10, 17, 21), (0, 10, 21, 13)] :: (wo_c_L_sample ++ (wsV RL 15 RX6 yX6_sample wk_c_X6_sample))
theorem wo_c_L_sample_in : ∀ w ∈ wo_c_L_sample, w ∈ wk_c_L_sample := fun w h => List.mem_cons_of_mem _ (List.mem_append_left _ h)
theorem gi_c_L_sample_0 : GoodIn wk_c_L_sample (wsV RL 15 RX6 yX6_sample wk_c_X6_sample) := fun w h => ⟨List.mem_cons_of_mem _ (List.mem_append_right _ h), good_of_word (kg_V gk_c_X6_sample w h)⟩
theorem gk_c_L_sample : ∀ w ∈ wk_c_L_sample, goodWord w = true := List.forall_mem_cons.mpr ⟨rfl, (List.forall_mem_append.mpr ⟨(show ∀ w ∈ wo_c_L_sample, goodWord w = true by decide +kernel), (kg_V gk_c_X6_sample)⟩)⟩
set_option maxHeartbeats 4000000 in
set_option maxRecDepth 100000 in
theorem c_L_sample (l : Launch) (hst : l.stackTraces = false) (D : va_G) (e0 : kE) (pa : Nat) (prl : Nat) (ppc : Nat) (ppg : Nat) (ppl : Nat) (ped : Nat) (a1 : Int32) (a2 : Int32) (po : Nat) (py1 : ClassId) (pof : Nat → Int64)  : kM l yL_sample wk_c_L_sample 9 165 1 6 D kStr e0 [(py1, .long)] [(pa, .inr (11, [.ref prl, .int 0, .ref ppc, .int 0, .ref ppg, .ref ppl, .ref ped, .int 0])), (po, .inl (py1, 1, .inr (.inl pof)))] [.ref pa, .int a1, .int a2, .ref po] (fun v w t => v = some (.int 1) ∧ w = [(po, .inl (py1, 1, .inr (.inl pof)))] ∧ t = [(py1, .long)]) (fun _ => False) := by
  refine k_ofX (cc := cL_sample) (maxL := 5) (ret := (some .int)) (hhs := [(0, 10, 13, 19), (0, 10, 17, 21), (0, 10, 21, 13)]) (by decide) rfl (Nat.le_of_ble_eq_true rfl) ?_
  intro p e s m args below meth c A ls hx hb hr hts hown hlocks hml hex hh hl
  have hown : s.vm.findClass RL = some m.cls := hown
  have hl : lv_has ls 5 [(0, .ref pa), (1, .int a1), (2, .int a2), (3, .ref po)] := hl
  refine lv_aload_n hx hb dL_sample_0 rfl (lv_at hl 3 rfl) ?_
  refine lv_iconst (v := 0) hx hb dL_sample_1 (by decide) ?_
  refine lv_aload_n hx hb dL_sample_2 rfl (lv_at hl 0 rfl) ?_
  refine lv_iload_n hx hb dL_sample_3 rfl (lv_at hl 1 rfl) ?_
  refine lv_iload_n hx hb dL_sample_4 rfl (lv_at hl 2 rfl) ?_
  refine k_callV (C := RX6) (T := TX6) (N := 8) (ci := 11) (q0 := 0) (wr := [(po, .inl (py1, 1, .inr (.inl pof)))]) (rest := [.int 0, .ref po]) (own := RL) ⟨hx, hb, hml, hown, hts⟩ (c_X6_sample l hst D e0 pa prl ppc ppg ppl ped a1 a2 ) (cwV 2 hts gi_c_L_sample_0 rfl rfl rfl (by decide +kernel) ⟨Nat.le_of_ble_eq_true rfl, Nat.le_of_ble_eq_true rfl⟩) hh rfl rfl [0] [1] [] rfl rfl rfl rfl (by decide) rfl rfl hl rfl (Nat.le_of_ble_eq_true rfl) dL_sample_5 ⟨Nat.le_of_ble_eq_true rfl, (Nat.le_of_ble_eq_true rfl)⟩ (fun E ce q9 H locs hE hh hq hv hcl => ?_) (fun _ _ _ _ _ h _ => h.elim)
  refine k_catch (own := RL) (name := "java/lang/IndexOutOfBoundsException") hown hex [] ⟨0, 10, 13, 19⟩ [⟨0, 10, 17, 21⟩, ⟨0, 10, 21, 13⟩] rfl (fun z hz => by simp at hz) (by decide) (by decide) (hts _ (wo_c_L_sample_in _ (List.mem_of_getElem? (i := 0) rfl))) hE (by decide) hh hq hv hcl ?_
  refine W.eq (g2 := F0 m 13 ls [.ref q9]) rfl ?_
  refine lv_astore (lv' := [(4, .ref q9), (0, .ref pa), (1, .int a1), (2, .int a2), (3, .ref po)]) hx hb dL_sample_13 hl (by decide) rfl (fun ls hl => ?_)
  refine lv_iconst (v := 1) hx hb dL_sample_15 (by decide) ?_
  exact k_endi hx hb hr hlocks hh ⟨rfl, rfl, rfl⟩ [0] [0] rfl rfl rfl (Nat.le_of_ble_eq_true rfl) (Nat.le_of_ble_eq_true rfl) dL_sample_16
def wo_c_L_wave : List Cond := [Cond.classLink RL 19 "java/lang/IndexOutOfBoundsException"]
def wk_c_L_wave : List Cond := Cond.codeWith yL_wave cL_wave 7 (some .int) [(0, 14, 17, 19), (0, 14, 21, 21), (0, 14, 25, 13)] :: (wo_c_L_wave ++ (wsV RL 23 RX6 yX6_wave wk_c_X6_wave))
theorem wo_c_L_wave_in : ∀ w ∈ wo_c_L_wave, w ∈ wk_c_L_wave := fun w h => List.mem_cons_of_mem _ (List.mem_append_left _ h)
theorem gi_c_L_wave_0 : GoodIn wk_c_L_wave (wsV RL 23 RX6 yX6_wave wk_c_X6_wave) := fun w h => ⟨List.mem_cons_of_mem _ (List.mem_append_right _ h), good_of_word (kg_V gk_c_X6_wave w h)⟩
theorem gk_c_L_wave : ∀ w ∈ wk_c_L_wave, goodWord w = true := List.forall_mem_cons.mpr ⟨rfl, (List.forall_mem_append.mpr ⟨(show ∀ w ∈ wo_c_L_wave, goodWord w = true by decide +kernel), (kg_V gk_c_X6_wave)⟩)⟩
set_option maxHeartbeats 4000000 in
set_option maxRecDepth 100000 in
theorem c_L_wave (l : Launch) (hst : l.stackTraces = false) (D : va_G) (e0 : kE) (pa : Nat) (prl : Nat) (ppc : Nat) (ppg : Nat) (ppl : Nat) (ped : Nat) (a1 : Int32) (a2 : Int32) (a3 : Int32) (a4 : Int32) (po : Nat) (py1 : ClassId) (pof : Nat → Int64)  : kM l yL_wave wk_c_L_wave 9 167 1 6 D kStr e0 [(py1, .long)] [(pa, .inr (11, [.ref prl, .int 0, .ref ppc, .int 0, .ref ppg, .ref ppl, .ref ped, .int 0])), (po, .inl (py1, 1, .inr (.inl pof)))] [.ref pa, .int a1, .int a2, .int a3, .int a4, .ref po] (fun v w t => v = some (.int 1) ∧ w = [(po, .inl (py1, 1, .inr (.inl pof)))] ∧ t = [(py1, .long)]) (fun _ => False) := by
  refine k_ofX (cc := cL_wave) (maxL := 7) (ret := (some .int)) (hhs := [(0, 14, 17, 19), (0, 14, 21, 21), (0, 14, 25, 13)]) (by decide) rfl (Nat.le_of_ble_eq_true rfl) ?_
  intro p e s m args below meth c A ls hx hb hr hts hown hlocks hml hex hh hl
  have hown : s.vm.findClass RL = some m.cls := hown
  have hl : lv_has ls 7 [(0, .ref pa), (1, .int a1), (2, .int a2), (3, .int a3), (4, .int a4), (5, .ref po)] := hl
  refine lv_aload hx hb dL_wave_0 (lv_at hl 5 rfl) ?_
  refine lv_iconst (v := 0) hx hb dL_wave_2 (by decide) ?_
  refine lv_aload_n hx hb dL_wave_3 rfl (lv_at hl 0 rfl) ?_
  refine lv_iload_n hx hb dL_wave_4 rfl (lv_at hl 1 rfl) ?_
  refine lv_iload_n hx hb dL_wave_5 rfl (lv_at hl 2 rfl) ?_
  refine lv_iload_n hx hb dL_wave_6 rfl (lv_at hl 3 rfl) ?_
  refine lv_iload hx hb dL_wave_7 (lv_at hl 4 rfl) ?_
  refine k_callV (C := RX6) (T := TX6) (N := 8) (ci := 11) (q0 := 0) (wr := [(po, .inl (py1, 1, .inr (.inl pof)))]) (rest := [.int 0, .ref po]) (own := RL) ⟨hx, hb, hml, hown, hts⟩ (c_X6_wave l hst D e0 pa prl ppc ppg ppl ped a1 a2 a3 a4 ) (cwV 4 hts gi_c_L_wave_0 rfl rfl rfl (by decide +kernel) ⟨Nat.le_of_ble_eq_true rfl, Nat.le_of_ble_eq_true rfl⟩) hh rfl rfl [0] [1] [] rfl rfl rfl rfl (by decide) rfl rfl hl rfl (Nat.le_of_ble_eq_true rfl) dL_wave_9 ⟨Nat.le_of_ble_eq_true rfl, (Nat.le_of_ble_eq_true rfl)⟩ (fun E ce q9 H locs hE hh hq hv hcl => ?_) (fun _ _ _ _ _ h _ => h.elim)
  refine k_catch (own := RL) (name := "java/lang/IndexOutOfBoundsException") hown hex [] ⟨0, 14, 17, 19⟩ [⟨0, 14, 21, 21⟩, ⟨0, 14, 25, 13⟩] rfl (fun z hz => by simp at hz) (by decide) (by decide) (hts _ (wo_c_L_wave_in _ (List.mem_of_getElem? (i := 0) rfl))) hE (by decide) hh hq hv hcl ?_
  refine W.eq (g2 := F0 m 17 ls [.ref q9]) rfl ?_
  refine lv_astore (lv' := [(6, .ref q9), (0, .ref pa), (1, .int a1), (2, .int a2), (3, .int a3), (4, .int a4), (5, .ref po)]) hx hb dL_wave_17 hl (by decide) rfl (fun ls hl => ?_)
  refine lv_iconst (v := 1) hx hb dL_wave_19 (by decide) ?_
  exact k_endi hx hb hr hlocks hh ⟨rfl, rfl, rfl⟩ [0] [0] rfl rfl rfl (Nat.le_of_ble_eq_true rfl) (Nat.le_of_ble_eq_true rfl) dL_wave_20
def wo_c_L_reelLength : List Cond := [Cond.classLink RL 19 "java/lang/IndexOutOfBoundsException"]
def wk_c_L_reelLength : List Cond := Cond.codeWith yL_reelLength cL_reelLength 4 (some .int) [(0, 9, 12, 19)] :: (wo_c_L_reelLength ++ (wsV RL 27 RX6 yX6_reelLength wk_c_X6_reelLength))
theorem wo_c_L_reelLength_in : ∀ w ∈ wo_c_L_reelLength, w ∈ wk_c_L_reelLength := fun w h => List.mem_cons_of_mem _ (List.mem_append_left _ h)
theorem gi_c_L_reelLength_0 : GoodIn wk_c_L_reelLength (wsV RL 27 RX6 yX6_reelLength wk_c_X6_reelLength) := fun w h => ⟨List.mem_cons_of_mem _ (List.mem_append_right _ h), good_of_word (kg_V gk_c_X6_reelLength w h)⟩
theorem gk_c_L_reelLength : ∀ w ∈ wk_c_L_reelLength, goodWord w = true := List.forall_mem_cons.mpr ⟨rfl, (List.forall_mem_append.mpr ⟨(show ∀ w ∈ wo_c_L_reelLength, goodWord w = true by decide +kernel), (kg_V gk_c_X6_reelLength)⟩)⟩
set_option maxHeartbeats 4000000 in
set_option maxRecDepth 100000 in
theorem c_L_reelLength (l : Launch) (hst : l.stackTraces = false) (D : va_G) (e0 : kE) (pa : Nat) (prl : Nat) (ppc : Nat) (ppg : Nat) (ppl : Nat) (ped : Nat) (a1 : Int32) (po : Nat) (py1 : ClassId) (pof : Nat → Int64)  : kM l yL_reelLength wk_c_L_reelLength 9 163 1 6 D kStr e0 [(py1, .long)] [(pa, .inr (11, [.ref prl, .int 0, .ref ppc, .int 0, .ref ppg, .ref ppl, .ref ped, .int 0])), (po, .inl (py1, 1, .inr (.inl pof)))] [.ref pa, .int a1, .ref po] (fun v w t => v = some (.int 1) ∧ w = [(po, .inl (py1, 1, .inr (.inl pof)))] ∧ t = [(py1, .long)]) (fun _ => False) := by
  refine k_ofX (cc := cL_reelLength) (maxL := 4) (ret := (some .int)) (hhs := [(0, 9, 12, 19)]) (by decide) rfl (Nat.le_of_ble_eq_true rfl) ?_
  intro p e s m args below meth c A ls hx hb hr hts hown hlocks hml hex hh hl
  have hown : s.vm.findClass RL = some m.cls := hown
  have hl : lv_has ls 4 [(0, .ref pa), (1, .int a1), (2, .ref po)] := hl
  refine lv_aload_n hx hb dL_reelLength_0 rfl (lv_at hl 2 rfl) ?_
  refine lv_iconst (v := 0) hx hb dL_reelLength_1 (by decide) ?_
  refine lv_aload_n hx hb dL_reelLength_2 rfl (lv_at hl 0 rfl) ?_
  refine lv_iload_n hx hb dL_reelLength_3 rfl (lv_at hl 1 rfl) ?_
  refine k_callV (C := RX6) (T := TX6) (N := 8) (ci := 11) (q0 := 0) (wr := [(po, .inl (py1, 1, .inr (.inl pof)))]) (rest := [.int 0, .ref po]) (own := RL) ⟨hx, hb, hml, hown, hts⟩ (c_X6_reelLength l hst D e0 pa prl ppc ppg ppl ped a1 ) (cwV 1 hts gi_c_L_reelLength_0 rfl rfl rfl (by decide +kernel) ⟨Nat.le_of_ble_eq_true rfl, Nat.le_of_ble_eq_true rfl⟩) hh rfl rfl [0] [1] [] rfl rfl rfl rfl (by decide) rfl rfl hl rfl (Nat.le_of_ble_eq_true rfl) dL_reelLength_4 ⟨Nat.le_of_ble_eq_true rfl, (Nat.le_of_ble_eq_true rfl)⟩ (fun E ce q9 H locs hE hh hq hv hcl => ?_) (fun _ _ _ _ _ h _ => h.elim)
  refine k_catch (own := RL) (name := "java/lang/IndexOutOfBoundsException") hown hex [] ⟨0, 9, 12, 19⟩ [] rfl (fun z hz => by simp at hz) (by decide) (by decide) (hts _ (wo_c_L_reelLength_in _ (List.mem_of_getElem? (i := 0) rfl))) hE (by decide) hh hq hv hcl ?_
  refine W.eq (g2 := F0 m 12 ls [.ref q9]) rfl ?_
  refine lv_astore_n (lv' := [(3, .ref q9), (0, .ref pa), (1, .int a1), (2, .ref po)]) hx hb dL_reelLength_12 rfl hl (by decide) rfl (fun ls hl => ?_)
  refine lv_iconst (v := 1) hx hb dL_reelLength_13 (by decide) ?_
  exact k_endi hx hb hr hlocks hh ⟨rfl, rfl, rfl⟩ [0] [0] rfl rfl rfl (Nat.le_of_ble_eq_true rfl) (Nat.le_of_ble_eq_true rfl) dL_reelLength_14
def wo_c_L_cut : List Cond := [Cond.classLink RL 19 "java/lang/IndexOutOfBoundsException"]
def wk_c_L_cut : List Cond := Cond.codeWith yL_cut cL_cut 6 (some .int) [(0, 12, 15, 19), (0, 12, 19, 21), (0, 12, 23, 13)] :: (wo_c_L_cut ++ (wsV RL 31 RX6 yX6_cut wk_c_X6_cut))
theorem wo_c_L_cut_in : ∀ w ∈ wo_c_L_cut, w ∈ wk_c_L_cut := fun w h => List.mem_cons_of_mem _ (List.mem_append_left _ h)
theorem gi_c_L_cut_0 : GoodIn wk_c_L_cut (wsV RL 31 RX6 yX6_cut wk_c_X6_cut) := fun w h => ⟨List.mem_cons_of_mem _ (List.mem_append_right _ h), good_of_word (kg_V gk_c_X6_cut w h)⟩
theorem gk_c_L_cut : ∀ w ∈ wk_c_L_cut, goodWord w = true := List.forall_mem_cons.mpr ⟨rfl, (List.forall_mem_append.mpr ⟨(show ∀ w ∈ wo_c_L_cut, goodWord w = true by decide +kernel), (kg_V gk_c_X6_cut)⟩)⟩
set_option maxHeartbeats 4000000 in
set_option maxRecDepth 100000 in
theorem c_L_cut (l : Launch) (hst : l.stackTraces = false) (D : va_G) (e0 : kE) (pa : Nat) (prl : Nat) (ppc : Nat) (ppg : Nat) (ppl : Nat) (ped : Nat) (a1 : Int32) (a2 : Int32) (a3 : Int32) (po : Nat) (py1 : ClassId) (pof : Nat → Int64)  : kM l yL_cut wk_c_L_cut 9 166 1 6 D kStr e0 [(py1, .long)] [(pa, .inr (11, [.ref prl, .int 0, .ref ppc, .int 0, .ref ppg, .ref ppl, .ref ped, .int 0])), (po, .inl (py1, 1, .inr (.inl pof)))] [.ref pa, .int a1, .int a2, .int a3, .ref po] (fun v w t => v = some (.int 1) ∧ w = [(po, .inl (py1, 1, .inr (.inl pof)))] ∧ t = [(py1, .long)]) (fun _ => False) := by
  refine k_ofX (cc := cL_cut) (maxL := 6) (ret := (some .int)) (hhs := [(0, 12, 15, 19), (0, 12, 19, 21), (0, 12, 23, 13)]) (by decide) rfl (Nat.le_of_ble_eq_true rfl) ?_
  intro p e s m args below meth c A ls hx hb hr hts hown hlocks hml hex hh hl
  have hown : s.vm.findClass RL = some m.cls := hown
  have hl : lv_has ls 6 [(0, .ref pa), (1, .int a1), (2, .int a2), (3, .int a3), (4, .ref po)] := hl
  refine lv_aload hx hb dL_cut_0 (lv_at hl 4 rfl) ?_
  refine lv_iconst (v := 0) hx hb dL_cut_2 (by decide) ?_
  refine lv_aload_n hx hb dL_cut_3 rfl (lv_at hl 0 rfl) ?_
  refine lv_iload_n hx hb dL_cut_4 rfl (lv_at hl 1 rfl) ?_
  refine lv_iload_n hx hb dL_cut_5 rfl (lv_at hl 2 rfl) ?_
  refine lv_iload_n hx hb dL_cut_6 rfl (lv_at hl 3 rfl) ?_
  refine k_callV (C := RX6) (T := TX6) (N := 8) (ci := 11) (q0 := 0) (wr := [(po, .inl (py1, 1, .inr (.inl pof)))]) (rest := [.int 0, .ref po]) (own := RL) ⟨hx, hb, hml, hown, hts⟩ (c_X6_cut l hst D e0 pa prl ppc ppg ppl ped a1 a2 a3 ) (cwV 3 hts gi_c_L_cut_0 rfl rfl rfl (by decide +kernel) ⟨Nat.le_of_ble_eq_true rfl, Nat.le_of_ble_eq_true rfl⟩) hh rfl rfl [0] [1] [] rfl rfl rfl rfl (by decide) rfl rfl hl rfl (Nat.le_of_ble_eq_true rfl) dL_cut_7 ⟨Nat.le_of_ble_eq_true rfl, (Nat.le_of_ble_eq_true rfl)⟩ (fun E ce q9 H locs hE hh hq hv hcl => ?_) (fun _ _ _ _ _ h _ => h.elim)
  refine k_catch (own := RL) (name := "java/lang/IndexOutOfBoundsException") hown hex [] ⟨0, 12, 15, 19⟩ [⟨0, 12, 19, 21⟩, ⟨0, 12, 23, 13⟩] rfl (fun z hz => by simp at hz) (by decide) (by decide) (hts _ (wo_c_L_cut_in _ (List.mem_of_getElem? (i := 0) rfl))) hE (by decide) hh hq hv hcl ?_
  refine W.eq (g2 := F0 m 15 ls [.ref q9]) rfl ?_
  refine lv_astore (lv' := [(5, .ref q9), (0, .ref pa), (1, .int a1), (2, .int a2), (3, .int a3), (4, .ref po)]) hx hb dL_cut_15 hl (by decide) rfl (fun ls hl => ?_)
  refine lv_iconst (v := 1) hx hb dL_cut_17 (by decide) ?_
  exact k_endi hx hb hr hlocks hh ⟨rfl, rfl, rfl⟩ [0] [0] rfl rfl rfl (Nat.le_of_ble_eq_true rfl) (Nat.le_of_ble_eq_true rfl) dL_cut_18
def wo_c_L_splice : List Cond := [Cond.classLink RL 19 "java/lang/IndexOutOfBoundsException"]
def wk_c_L_splice : List Cond := Cond.codeWith yL_splice cL_splice 6 (some .int) [(0, 12, 15, 19), (0, 12, 19, 21), (0, 12, 23, 41), (0, 12, 27, 13)] :: (wo_c_L_splice ++ (wsV RL 38 RX6 yX6_splice wk_c_X6_splice))
theorem wo_c_L_splice_in : ∀ w ∈ wo_c_L_splice, w ∈ wk_c_L_splice := fun w h => List.mem_cons_of_mem _ (List.mem_append_left _ h)
theorem gi_c_L_splice_0 : GoodIn wk_c_L_splice (wsV RL 38 RX6 yX6_splice wk_c_X6_splice) := fun w h => ⟨List.mem_cons_of_mem _ (List.mem_append_right _ h), good_of_word (kg_V gk_c_X6_splice w h)⟩
theorem gk_c_L_splice : ∀ w ∈ wk_c_L_splice, goodWord w = true := List.forall_mem_cons.mpr ⟨rfl, (List.forall_mem_append.mpr ⟨(show ∀ w ∈ wo_c_L_splice, goodWord w = true by decide +kernel), (kg_V gk_c_X6_splice)⟩)⟩
set_option maxHeartbeats 4000000 in
set_option maxRecDepth 100000 in
theorem c_L_splice (l : Launch) (hst : l.stackTraces = false) (D : va_G) (e0 : kE) (pa : Nat) (prl : Nat) (ppc : Nat) (ppg : Nat) (ppl : Nat) (ped : Nat) (a1 : Int32) (a2 : Int32) (a3 : Int32) (po : Nat) (py1 : ClassId) (pof : Nat → Int64)  : kM l yL_splice wk_c_L_splice 9 168 1 6 D kStr e0 [(py1, .long)] [(pa, .inr (11, [.ref prl, .int 0, .ref ppc, .int 0, .ref ppg, .ref ppl, .ref ped, .int 0])), (po, .inl (py1, 1, .inr (.inl pof)))] [.ref pa, .int a1, .int a2, .int a3, .ref po] (fun v w t => v = some (.int 1) ∧ w = [(po, .inl (py1, 1, .inr (.inl pof)))] ∧ t = [(py1, .long)]) (fun _ => False) := by
  refine k_ofX (cc := cL_splice) (maxL := 6) (ret := (some .int)) (hhs := [(0, 12, 15, 19), (0, 12, 19, 21), (0, 12, 23, 41), (0, 12, 27, 13)]) (by decide) rfl (Nat.le_of_ble_eq_true rfl) ?_
  intro p e s m args below meth c A ls hx hb hr hts hown hlocks hml hex hh hl
  have hown : s.vm.findClass RL = some m.cls := hown
  have hl : lv_has ls 6 [(0, .ref pa), (1, .int a1), (2, .int a2), (3, .int a3), (4, .ref po)] := hl
  refine lv_aload hx hb dL_splice_0 (lv_at hl 4 rfl) ?_
  refine lv_iconst (v := 0) hx hb dL_splice_2 (by decide) ?_
  refine lv_aload_n hx hb dL_splice_3 rfl (lv_at hl 0 rfl) ?_
  refine lv_iload_n hx hb dL_splice_4 rfl (lv_at hl 1 rfl) ?_
  refine lv_iload_n hx hb dL_splice_5 rfl (lv_at hl 2 rfl) ?_
  refine lv_iload_n hx hb dL_splice_6 rfl (lv_at hl 3 rfl) ?_
  refine k_callV (C := RX6) (T := TX6) (N := 8) (ci := 11) (q0 := 0) (wr := [(po, .inl (py1, 1, .inr (.inl pof)))]) (rest := [.int 0, .ref po]) (own := RL) ⟨hx, hb, hml, hown, hts⟩ (c_X6_splice l hst D e0 pa prl ppc ppg ppl ped a1 a2 a3 ) (cwV 3 hts gi_c_L_splice_0 rfl rfl rfl (by decide +kernel) ⟨Nat.le_of_ble_eq_true rfl, Nat.le_of_ble_eq_true rfl⟩) hh rfl rfl [0] [1] [] rfl rfl rfl rfl (by decide) rfl rfl hl rfl (Nat.le_of_ble_eq_true rfl) dL_splice_7 ⟨Nat.le_of_ble_eq_true rfl, (Nat.le_of_ble_eq_true rfl)⟩ (fun E ce q9 H locs hE hh hq hv hcl => ?_) (fun _ _ _ _ _ h _ => h.elim)
  refine k_catch (own := RL) (name := "java/lang/IndexOutOfBoundsException") hown hex [] ⟨0, 12, 15, 19⟩ [⟨0, 12, 19, 21⟩, ⟨0, 12, 23, 41⟩, ⟨0, 12, 27, 13⟩] rfl (fun z hz => by simp at hz) (by decide) (by decide) (hts _ (wo_c_L_splice_in _ (List.mem_of_getElem? (i := 0) rfl))) hE (by decide) hh hq hv hcl ?_
  refine W.eq (g2 := F0 m 15 ls [.ref q9]) rfl ?_
  refine lv_astore (lv' := [(5, .ref q9), (0, .ref pa), (1, .int a1), (2, .int a2), (3, .int a3), (4, .ref po)]) hx hb dL_splice_15 hl (by decide) rfl (fun ls hl => ?_)
  refine lv_iconst (v := 1) hx hb dL_splice_17 (by decide) ?_
  exact k_endi hx hb hr hlocks hh ⟨rfl, rfl, rfl⟩ [0] [0] rfl rfl rfl (Nat.le_of_ble_eq_true rfl) (Nat.le_of_ble_eq_true rfl) dL_splice_18
def wo_c_L_gain : List Cond := [Cond.classLink RL 19 "java/lang/IndexOutOfBoundsException"]
def wk_c_L_gain : List Cond := Cond.codeWith yL_gain cL_gain 5 (some .int) [(0, 10, 13, 19), (0, 10, 17, 21), (0, 10, 21, 13)] :: (wo_c_L_gain ++ (wsV RL 43 RX6 yX6_gain wk_c_X6_gain))
theorem wo_c_L_gain_in : ∀ w ∈ wo_c_L_gain, w ∈ wk_c_L_gain := fun w h => List.mem_cons_of_mem _ (List.mem_append_left _ h)
theorem gi_c_L_gain_0 : GoodIn wk_c_L_gain (wsV RL 43 RX6 yX6_gain wk_c_X6_gain) := fun w h => ⟨List.mem_cons_of_mem _ (List.mem_append_right _ h), good_of_word (kg_V gk_c_X6_gain w h)⟩
theorem gk_c_L_gain : ∀ w ∈ wk_c_L_gain, goodWord w = true := List.forall_mem_cons.mpr ⟨rfl, (List.forall_mem_append.mpr ⟨(show ∀ w ∈ wo_c_L_gain, goodWord w = true by decide +kernel), (kg_V gk_c_X6_gain)⟩)⟩
set_option maxHeartbeats 4000000 in
set_option maxRecDepth 100000 in
theorem c_L_gain (l : Launch) (hst : l.stackTraces = false) (D : va_G) (e0 : kE) (pa : Nat) (prl : Nat) (ppc : Nat) (ppg : Nat) (ppl : Nat) (ped : Nat) (a1 : Int32) (a2 : Int32) (po : Nat) (py1 : ClassId) (pof : Nat → Int64)  : kM l yL_gain wk_c_L_gain 9 165 1 6 D kStr e0 [(py1, .long)] [(pa, .inr (11, [.ref prl, .int 0, .ref ppc, .int 0, .ref ppg, .ref ppl, .ref ped, .int 0])), (po, .inl (py1, 1, .inr (.inl pof)))] [.ref pa, .int a1, .int a2, .ref po] (fun v w t => v = some (.int 1) ∧ w = [(po, .inl (py1, 1, .inr (.inl pof)))] ∧ t = [(py1, .long)]) (fun _ => False) := by
  refine k_ofX (cc := cL_gain) (maxL := 5) (ret := (some .int)) (hhs := [(0, 10, 13, 19), (0, 10, 17, 21), (0, 10, 21, 13)]) (by decide) rfl (Nat.le_of_ble_eq_true rfl) ?_
  intro p e s m args below meth c A ls hx hb hr hts hown hlocks hml hex hh hl
  have hown : s.vm.findClass RL = some m.cls := hown
  have hl : lv_has ls 5 [(0, .ref pa), (1, .int a1), (2, .int a2), (3, .ref po)] := hl
  refine lv_aload_n hx hb dL_gain_0 rfl (lv_at hl 3 rfl) ?_
  refine lv_iconst (v := 0) hx hb dL_gain_1 (by decide) ?_
  refine lv_aload_n hx hb dL_gain_2 rfl (lv_at hl 0 rfl) ?_
  refine lv_iload_n hx hb dL_gain_3 rfl (lv_at hl 1 rfl) ?_
  refine lv_iload_n hx hb dL_gain_4 rfl (lv_at hl 2 rfl) ?_
  refine k_callV (C := RX6) (T := TX6) (N := 8) (ci := 11) (q0 := 0) (wr := [(po, .inl (py1, 1, .inr (.inl pof)))]) (rest := [.int 0, .ref po]) (own := RL) ⟨hx, hb, hml, hown, hts⟩ (c_X6_gain l hst D e0 pa prl ppc ppg ppl ped a1 a2 ) (cwV 2 hts gi_c_L_gain_0 rfl rfl rfl (by decide +kernel) ⟨Nat.le_of_ble_eq_true rfl, Nat.le_of_ble_eq_true rfl⟩) hh rfl rfl [0] [1] [] rfl rfl rfl rfl (by decide) rfl rfl hl rfl (Nat.le_of_ble_eq_true rfl) dL_gain_5 ⟨Nat.le_of_ble_eq_true rfl, (Nat.le_of_ble_eq_true rfl)⟩ (fun E ce q9 H locs hE hh hq hv hcl => ?_) (fun _ _ _ _ _ h _ => h.elim)
  refine k_catch (own := RL) (name := "java/lang/IndexOutOfBoundsException") hown hex [] ⟨0, 10, 13, 19⟩ [⟨0, 10, 17, 21⟩, ⟨0, 10, 21, 13⟩] rfl (fun z hz => by simp at hz) (by decide) (by decide) (hts _ (wo_c_L_gain_in _ (List.mem_of_getElem? (i := 0) rfl))) hE (by decide) hh hq hv hcl ?_
  refine W.eq (g2 := F0 m 13 ls [.ref q9]) rfl ?_
  refine lv_astore (lv' := [(4, .ref q9), (0, .ref pa), (1, .int a1), (2, .int a2), (3, .ref po)]) hx hb dL_gain_13 hl (by decide) rfl (fun ls hl => ?_)
  refine lv_iconst (v := 1) hx hb dL_gain_15 (by decide) ?_
  exact k_endi hx hb hr hlocks hh ⟨rfl, rfl, rfl⟩ [0] [0] rfl rfl rfl (Nat.le_of_ble_eq_true rfl) (Nat.le_of_ble_eq_true rfl) dL_gain_16
def wo_c_L_back : List Cond := [Cond.classLink RL 19 "java/lang/IndexOutOfBoundsException"]
def wk_c_L_back : List Cond := Cond.codeWith yL_back cL_back 4 (some .int) [(0, 9, 12, 19), (0, 9, 15, 13)] :: (wo_c_L_back ++ (wsV RL 46 RX6 yX6_back wk_c_X6_back))
theorem wo_c_L_back_in : ∀ w ∈ wo_c_L_back, w ∈ wk_c_L_back := fun w h => List.mem_cons_of_mem _ (List.mem_append_left _ h)
theorem gi_c_L_back_0 : GoodIn wk_c_L_back (wsV RL 46 RX6 yX6_back wk_c_X6_back) := fun w h => ⟨List.mem_cons_of_mem _ (List.mem_append_right _ h), good_of_word (kg_V gk_c_X6_back w h)⟩
theorem gk_c_L_back : ∀ w ∈ wk_c_L_back, goodWord w = true := List.forall_mem_cons.mpr ⟨rfl, (List.forall_mem_append.mpr ⟨(show ∀ w ∈ wo_c_L_back, goodWord w = true by decide +kernel), (kg_V gk_c_X6_back)⟩)⟩
set_option maxHeartbeats 4000000 in
set_option maxRecDepth 100000 in
theorem c_L_back (l : Launch) (hst : l.stackTraces = false) (D : va_G) (e0 : kE) (pa : Nat) (prl : Nat) (ppc : Nat) (ppg : Nat) (ppl : Nat) (ped : Nat) (a1 : Int32) (po : Nat) (py1 : ClassId) (pof : Nat → Int64)  : kM l yL_back wk_c_L_back 9 164 1 6 D kStr e0 [(py1, .long)] [(pa, .inr (11, [.ref prl, .int 0, .ref ppc, .int 0, .ref ppg, .ref ppl, .ref ped, .int 0])), (po, .inl (py1, 1, .inr (.inl pof)))] [.ref pa, .int a1, .ref po] (fun v w t => v = some (.int 1) ∧ w = [(po, .inl (py1, 1, .inr (.inl pof)))] ∧ t = [(py1, .long)]) (fun _ => False) := by
  refine k_ofX (cc := cL_back) (maxL := 4) (ret := (some .int)) (hhs := [(0, 9, 12, 19), (0, 9, 15, 13)]) (by decide) rfl (Nat.le_of_ble_eq_true rfl) ?_
  intro p e s m args below meth c A ls hx hb hr hts hown hlocks hml hex hh hl
  have hown : s.vm.findClass RL = some m.cls := hown
  have hl : lv_has ls 4 [(0, .ref pa), (1, .int a1), (2, .ref po)] := hl
  refine lv_aload_n hx hb dL_back_0 rfl (lv_at hl 2 rfl) ?_
  refine lv_iconst (v := 0) hx hb dL_back_1 (by decide) ?_
  refine lv_aload_n hx hb dL_back_2 rfl (lv_at hl 0 rfl) ?_
  refine lv_iload_n hx hb dL_back_3 rfl (lv_at hl 1 rfl) ?_
  refine k_callV (C := RX6) (T := TX6) (N := 8) (ci := 11) (q0 := 0) (wr := [(po, .inl (py1, 1, .inr (.inl pof)))]) (rest := [.int 0, .ref po]) (own := RL) ⟨hx, hb, hml, hown, hts⟩ (c_X6_back l hst D e0 pa prl ppc ppg ppl ped a1 ) (cwV 1 hts gi_c_L_back_0 rfl rfl rfl (by decide +kernel) ⟨Nat.le_of_ble_eq_true rfl, Nat.le_of_ble_eq_true rfl⟩) hh rfl rfl [0] [1] [] rfl rfl rfl rfl (by decide) rfl rfl hl rfl (Nat.le_of_ble_eq_true rfl) dL_back_4 ⟨Nat.le_of_ble_eq_true rfl, (Nat.le_of_ble_eq_true rfl)⟩ (fun E ce q9 H locs hE hh hq hv hcl => ?_) (fun _ _ _ _ _ h _ => h.elim)
  refine k_catch (own := RL) (name := "java/lang/IndexOutOfBoundsException") hown hex [] ⟨0, 9, 12, 19⟩ [⟨0, 9, 15, 13⟩] rfl (fun z hz => by simp at hz) (by decide) (by decide) (hts _ (wo_c_L_back_in _ (List.mem_of_getElem? (i := 0) rfl))) hE (by decide) hh hq hv hcl ?_
  refine W.eq (g2 := F0 m 12 ls [.ref q9]) rfl ?_
  refine lv_astore_n (lv' := [(3, .ref q9), (0, .ref pa), (1, .int a1), (2, .ref po)]) hx hb dL_back_12 rfl hl (by decide) rfl (fun ls hl => ?_)
  refine lv_iconst (v := 1) hx hb dL_back_13 (by decide) ?_
  exact k_endi hx hb hr hlocks hh ⟨rfl, rfl, rfl⟩ [0] [0] rfl rfl rfl (Nat.le_of_ble_eq_true rfl) (Nat.le_of_ble_eq_true rfl) dL_back_14
def wo_c_L_limit : List Cond := [Cond.classLink RL 19 "java/lang/IndexOutOfBoundsException"]
def wk_c_L_limit : List Cond := Cond.codeWith yL_limit cL_limit 7 (some .int) [(0, 14, 17, 19), (0, 14, 21, 21), (0, 14, 25, 13)] :: (wo_c_L_limit ++ (wsV RL 49 RX6 yX6_limit wk_c_X6_limit))
theorem wo_c_L_limit_in : ∀ w ∈ wo_c_L_limit, w ∈ wk_c_L_limit := fun w h => List.mem_cons_of_mem _ (List.mem_append_left _ h)
theorem gi_c_L_limit_0 : GoodIn wk_c_L_limit (wsV RL 49 RX6 yX6_limit wk_c_X6_limit) := fun w h => ⟨List.mem_cons_of_mem _ (List.mem_append_right _ h), good_of_word (kg_V gk_c_X6_limit w h)⟩
theorem gk_c_L_limit : ∀ w ∈ wk_c_L_limit, goodWord w = true := List.forall_mem_cons.mpr ⟨rfl, (List.forall_mem_append.mpr ⟨(show ∀ w ∈ wo_c_L_limit, goodWord w = true by decide +kernel), (kg_V gk_c_X6_limit)⟩)⟩
set_option maxHeartbeats 4000000 in
set_option maxRecDepth 100000 in
theorem c_L_limit (l : Launch) (hst : l.stackTraces = false) (D : va_G) (e0 : kE) (pa : Nat) (prl : Nat) (ppc : Nat) (ppg : Nat) (ppl : Nat) (ped : Nat) (a1 : Int32) (a2 : Int32) (a3 : Int32) (a4 : Int32) (po : Nat) (py1 : ClassId) (pof : Nat → Int64)  : kM l yL_limit wk_c_L_limit 9 167 1 6 D kStr e0 [(py1, .long)] [(pa, .inr (11, [.ref prl, .int 0, .ref ppc, .int 0, .ref ppg, .ref ppl, .ref ped, .int 0])), (po, .inl (py1, 1, .inr (.inl pof)))] [.ref pa, .int a1, .int a2, .int a3, .int a4, .ref po] (fun v w t => v = some (.int 1) ∧ w = [(po, .inl (py1, 1, .inr (.inl pof)))] ∧ t = [(py1, .long)]) (fun _ => False) := by
  refine k_ofX (cc := cL_limit) (maxL := 7) (ret := (some .int)) (hhs := [(0, 14, 17, 19), (0, 14, 21, 21), (0, 14, 25, 13)]) (by decide) rfl (Nat.le_of_ble_eq_true rfl) ?_
  intro p e s m args below meth c A ls hx hb hr hts hown hlocks hml hex hh hl
  have hown : s.vm.findClass RL = some m.cls := hown
  have hl : lv_has ls 7 [(0, .ref pa), (1, .int a1), (2, .int a2), (3, .int a3), (4, .int a4), (5, .ref po)] := hl
  refine lv_aload hx hb dL_limit_0 (lv_at hl 5 rfl) ?_
  refine lv_iconst (v := 0) hx hb dL_limit_2 (by decide) ?_
  refine lv_aload_n hx hb dL_limit_3 rfl (lv_at hl 0 rfl) ?_
  refine lv_iload_n hx hb dL_limit_4 rfl (lv_at hl 1 rfl) ?_
  refine lv_iload_n hx hb dL_limit_5 rfl (lv_at hl 2 rfl) ?_
  refine lv_iload_n hx hb dL_limit_6 rfl (lv_at hl 3 rfl) ?_
  refine lv_iload hx hb dL_limit_7 (lv_at hl 4 rfl) ?_
  refine k_callV (C := RX6) (T := TX6) (N := 8) (ci := 11) (q0 := 0) (wr := [(po, .inl (py1, 1, .inr (.inl pof)))]) (rest := [.int 0, .ref po]) (own := RL) ⟨hx, hb, hml, hown, hts⟩ (c_X6_limit l hst D e0 pa prl ppc ppg ppl ped a1 a2 a3 a4 ) (cwV 4 hts gi_c_L_limit_0 rfl rfl rfl (by decide +kernel) ⟨Nat.le_of_ble_eq_true rfl, Nat.le_of_ble_eq_true rfl⟩) hh rfl rfl [0] [1] [] rfl rfl rfl rfl (by decide) rfl rfl hl rfl (Nat.le_of_ble_eq_true rfl) dL_limit_9 ⟨Nat.le_of_ble_eq_true rfl, (Nat.le_of_ble_eq_true rfl)⟩ (fun E ce q9 H locs hE hh hq hv hcl => ?_) (fun _ _ _ _ _ h _ => h.elim)
  refine k_catch (own := RL) (name := "java/lang/IndexOutOfBoundsException") hown hex [] ⟨0, 14, 17, 19⟩ [⟨0, 14, 21, 21⟩, ⟨0, 14, 25, 13⟩] rfl (fun z hz => by simp at hz) (by decide) (by decide) (hts _ (wo_c_L_limit_in _ (List.mem_of_getElem? (i := 0) rfl))) hE (by decide) hh hq hv hcl ?_
  refine W.eq (g2 := F0 m 17 ls [.ref q9]) rfl ?_
  refine lv_astore (lv' := [(6, .ref q9), (0, .ref pa), (1, .int a1), (2, .int a2), (3, .int a3), (4, .int a4), (5, .ref po)]) hx hb dL_limit_17 hl (by decide) rfl (fun ls hl => ?_)
  refine lv_iconst (v := 1) hx hb dL_limit_19 (by decide) ?_
  exact k_endi hx hb hr hlocks hh ⟨rfl, rfl, rfl⟩ [0] [0] rfl rfl rfl (Nat.le_of_ble_eq_true rfl) (Nat.le_of_ble_eq_true rfl) dL_limit_20
def wo_c_L_resample : List Cond := [Cond.classLink RL 19 "java/lang/IndexOutOfBoundsException"]
def wk_c_L_resample : List Cond := Cond.codeWith yL_resample cL_resample 6 (some .int) [(0, 12, 15, 19), (0, 12, 19, 21), (0, 12, 23, 41), (0, 12, 27, 13)] :: (wo_c_L_resample ++ (wsV RL 52 RX6 yX6_resample wk_c_X6_resample))
theorem wo_c_L_resample_in : ∀ w ∈ wo_c_L_resample, w ∈ wk_c_L_resample := fun w h => List.mem_cons_of_mem _ (List.mem_append_left _ h)
theorem gi_c_L_resample_0 : GoodIn wk_c_L_resample (wsV RL 52 RX6 yX6_resample wk_c_X6_resample) := fun w h => ⟨List.mem_cons_of_mem _ (List.mem_append_right _ h), good_of_word (kg_V gk_c_X6_resample w h)⟩
theorem gk_c_L_resample : ∀ w ∈ wk_c_L_resample, goodWord w = true := List.forall_mem_cons.mpr ⟨rfl, (List.forall_mem_append.mpr ⟨(show ∀ w ∈ wo_c_L_resample, goodWord w = true by decide +kernel), (kg_V gk_c_X6_resample)⟩)⟩
set_option maxHeartbeats 4000000 in
set_option maxRecDepth 100000 in
theorem c_L_resample (l : Launch) (hst : l.stackTraces = false) (D : va_G) (e0 : kE) (pa : Nat) (prl : Nat) (ppc : Nat) (ppg : Nat) (ppl : Nat) (ped : Nat) (a1 : Int32) (a2 : Int32) (a3 : Int32) (po : Nat) (py1 : ClassId) (pof : Nat → Int64)  : kM l yL_resample wk_c_L_resample 9 167 1 6 D kStr e0 [(py1, .long)] [(pa, .inr (11, [.ref prl, .int 0, .ref ppc, .int 0, .ref ppg, .ref ppl, .ref ped, .int 0])), (po, .inl (py1, 1, .inr (.inl pof)))] [.ref pa, .int a1, .int a2, .int a3, .ref po] (fun v w t => v = some (.int 1) ∧ w = [(po, .inl (py1, 1, .inr (.inl pof)))] ∧ t = [(py1, .long)]) (fun _ => False) := by
  refine k_ofX (cc := cL_resample) (maxL := 6) (ret := (some .int)) (hhs := [(0, 12, 15, 19), (0, 12, 19, 21), (0, 12, 23, 41), (0, 12, 27, 13)]) (by decide) rfl (Nat.le_of_ble_eq_true rfl) ?_
  intro p e s m args below meth c A ls hx hb hr hts hown hlocks hml hex hh hl
  have hown : s.vm.findClass RL = some m.cls := hown
  have hl : lv_has ls 6 [(0, .ref pa), (1, .int a1), (2, .int a2), (3, .int a3), (4, .ref po)] := hl
  refine lv_aload hx hb dL_resample_0 (lv_at hl 4 rfl) ?_
  refine lv_iconst (v := 0) hx hb dL_resample_2 (by decide) ?_
  refine lv_aload_n hx hb dL_resample_3 rfl (lv_at hl 0 rfl) ?_
  refine lv_iload_n hx hb dL_resample_4 rfl (lv_at hl 1 rfl) ?_
  refine lv_iload_n hx hb dL_resample_5 rfl (lv_at hl 2 rfl) ?_
  refine lv_iload_n hx hb dL_resample_6 rfl (lv_at hl 3 rfl) ?_
  refine k_callV (C := RX6) (T := TX6) (N := 8) (ci := 11) (q0 := 0) (wr := [(po, .inl (py1, 1, .inr (.inl pof)))]) (rest := [.int 0, .ref po]) (own := RL) ⟨hx, hb, hml, hown, hts⟩ (c_X6_resample l hst D e0 pa prl ppc ppg ppl ped a1 a2 a3 ) (cwV 3 hts gi_c_L_resample_0 rfl rfl rfl (by decide +kernel) ⟨Nat.le_of_ble_eq_true rfl, Nat.le_of_ble_eq_true rfl⟩) hh rfl rfl [0] [1] [] rfl rfl rfl rfl (by decide) rfl rfl hl rfl (Nat.le_of_ble_eq_true rfl) dL_resample_7 ⟨Nat.le_of_ble_eq_true rfl, (Nat.le_of_ble_eq_true rfl)⟩ (fun E ce q9 H locs hE hh hq hv hcl => ?_) (fun _ _ _ _ _ h _ => h.elim)
  refine k_catch (own := RL) (name := "java/lang/IndexOutOfBoundsException") hown hex [] ⟨0, 12, 15, 19⟩ [⟨0, 12, 19, 21⟩, ⟨0, 12, 23, 41⟩, ⟨0, 12, 27, 13⟩] rfl (fun z hz => by simp at hz) (by decide) (by decide) (hts _ (wo_c_L_resample_in _ (List.mem_of_getElem? (i := 0) rfl))) hE (by decide) hh hq hv hcl ?_
  refine W.eq (g2 := F0 m 15 ls [.ref q9]) rfl ?_
  refine lv_astore (lv' := [(5, .ref q9), (0, .ref pa), (1, .int a1), (2, .int a2), (3, .int a3), (4, .ref po)]) hx hb dL_resample_15 hl (by decide) rfl (fun ls hl => ?_)
  refine lv_iconst (v := 1) hx hb dL_resample_17 (by decide) ?_
  exact k_endi hx hb hr hlocks hh ⟨rfl, rfl, rfl⟩ [0] [0] rfl rfl rfl (Nat.le_of_ble_eq_true rfl) (Nat.le_of_ble_eq_true rfl) dL_resample_18
def wo_c_L_dither : List Cond := [Cond.classLink RL 19 "java/lang/IndexOutOfBoundsException"]
def wk_c_L_dither : List Cond := Cond.codeWith yL_dither cL_dither 5 (some .int) [(0, 10, 13, 19), (0, 10, 17, 21), (0, 10, 21, 13)] :: (wo_c_L_dither ++ (wsV RL 55 RX6 yX6_dither wk_c_X6_dither))
theorem wo_c_L_dither_in : ∀ w ∈ wo_c_L_dither, w ∈ wk_c_L_dither := fun w h => List.mem_cons_of_mem _ (List.mem_append_left _ h)
theorem gi_c_L_dither_0 : GoodIn wk_c_L_dither (wsV RL 55 RX6 yX6_dither wk_c_X6_dither) := fun w h => ⟨List.mem_cons_of_mem _ (List.mem_append_right _ h), good_of_word (kg_V gk_c_X6_dither w h)⟩
theorem gk_c_L_dither : ∀ w ∈ wk_c_L_dither, goodWord w = true := List.forall_mem_cons.mpr ⟨rfl, (List.forall_mem_append.mpr ⟨(show ∀ w ∈ wo_c_L_dither, goodWord w = true by decide +kernel), (kg_V gk_c_X6_dither)⟩)⟩
set_option maxHeartbeats 4000000 in
set_option maxRecDepth 100000 in
theorem c_L_dither (l : Launch) (hst : l.stackTraces = false) (D : va_G) (e0 : kE) (pa : Nat) (prl : Nat) (ppc : Nat) (ppg : Nat) (ppl : Nat) (ped : Nat) (a1 : Int32) (a2 : Int32) (po : Nat) (py1 : ClassId) (pof : Nat → Int64)  : kM l yL_dither wk_c_L_dither 9 165 1 6 D kStr e0 [(py1, .long)] [(pa, .inr (11, [.ref prl, .int 0, .ref ppc, .int 0, .ref ppg, .ref ppl, .ref ped, .int 0])), (po, .inl (py1, 1, .inr (.inl pof)))] [.ref pa, .int a1, .int a2, .ref po] (fun v w t => v = some (.int 1) ∧ w = [(po, .inl (py1, 1, .inr (.inl pof)))] ∧ t = [(py1, .long)]) (fun _ => False) := by
  refine k_ofX (cc := cL_dither) (maxL := 5) (ret := (some .int)) (hhs := [(0, 10, 13, 19), (0, 10, 17, 21), (0, 10, 21, 13)]) (by decide) rfl (Nat.le_of_ble_eq_true rfl) ?_
  intro p e s m args below meth c A ls hx hb hr hts hown hlocks hml hex hh hl
  have hown : s.vm.findClass RL = some m.cls := hown
  have hl : lv_has ls 5 [(0, .ref pa), (1, .int a1), (2, .int a2), (3, .ref po)] := hl
  refine lv_aload_n hx hb dL_dither_0 rfl (lv_at hl 3 rfl) ?_
  refine lv_iconst (v := 0) hx hb dL_dither_1 (by decide) ?_
  refine lv_aload_n hx hb dL_dither_2 rfl (lv_at hl 0 rfl) ?_
  refine lv_iload_n hx hb dL_dither_3 rfl (lv_at hl 1 rfl) ?_
  refine lv_iload_n hx hb dL_dither_4 rfl (lv_at hl 2 rfl) ?_
  refine k_callV (C := RX6) (T := TX6) (N := 8) (ci := 11) (q0 := 0) (wr := [(po, .inl (py1, 1, .inr (.inl pof)))]) (rest := [.int 0, .ref po]) (own := RL) ⟨hx, hb, hml, hown, hts⟩ (c_X6_dither l hst D e0 pa prl ppc ppg ppl ped a1 a2 ) (cwV 2 hts gi_c_L_dither_0 rfl rfl rfl (by decide +kernel) ⟨Nat.le_of_ble_eq_true rfl, Nat.le_of_ble_eq_true rfl⟩) hh rfl rfl [0] [1] [] rfl rfl rfl rfl (by decide) rfl rfl hl rfl (Nat.le_of_ble_eq_true rfl) dL_dither_5 ⟨Nat.le_of_ble_eq_true rfl, (Nat.le_of_ble_eq_true rfl)⟩ (fun E ce q9 H locs hE hh hq hv hcl => ?_) (fun _ _ _ _ _ h _ => h.elim)
  refine k_catch (own := RL) (name := "java/lang/IndexOutOfBoundsException") hown hex [] ⟨0, 10, 13, 19⟩ [⟨0, 10, 17, 21⟩, ⟨0, 10, 21, 13⟩] rfl (fun z hz => by simp at hz) (by decide) (by decide) (hts _ (wo_c_L_dither_in _ (List.mem_of_getElem? (i := 0) rfl))) hE (by decide) hh hq hv hcl ?_
  refine W.eq (g2 := F0 m 13 ls [.ref q9]) rfl ?_
  refine lv_astore (lv' := [(4, .ref q9), (0, .ref pa), (1, .int a1), (2, .int a2), (3, .ref po)]) hx hb dL_dither_13 hl (by decide) rfl (fun ls hl => ?_)
  refine lv_iconst (v := 1) hx hb dL_dither_15 (by decide) ?_
  exact k_endi hx hb hr hlocks hh ⟨rfl, rfl, rfl⟩ [0] [0] rfl rfl rfl (Nat.le_of_ble_eq_true rfl) (Nat.le_of_ble_eq_true rfl) dL_dither_16
def wo_c_L_kindOf : List Cond := [Cond.classLink RL 19 "java/lang/IndexOutOfBoundsException"]
def wk_c_L_kindOf : List Cond := Cond.codeWith yL_kindOf cL_kindOf 4 (some .int) [(0, 9, 12, 19)] :: (wo_c_L_kindOf ++ (wsV RL 58 RX6 yX6_kindOf wk_c_X6_kindOf))
theorem wo_c_L_kindOf_in : ∀ w ∈ wo_c_L_kindOf, w ∈ wk_c_L_kindOf := fun w h => List.mem_cons_of_mem _ (List.mem_append_left _ h)
theorem gi_c_L_kindOf_0 : GoodIn wk_c_L_kindOf (wsV RL 58 RX6 yX6_kindOf wk_c_X6_kindOf) := fun w h => ⟨List.mem_cons_of_mem _ (List.mem_append_right _ h), good_of_word (kg_V gk_c_X6_kindOf w h)⟩
theorem gk_c_L_kindOf : ∀ w ∈ wk_c_L_kindOf, goodWord w = true := List.forall_mem_cons.mpr ⟨rfl, (List.forall_mem_append.mpr ⟨(show ∀ w ∈ wo_c_L_kindOf, goodWord w = true by decide +kernel), (kg_V gk_c_X6_kindOf)⟩)⟩
set_option maxHeartbeats 4000000 in
set_option maxRecDepth 100000 in
theorem c_L_kindOf (l : Launch) (hst : l.stackTraces = false) (D : va_G) (e0 : kE) (pa : Nat) (prl : Nat) (ppc : Nat) (ppg : Nat) (ppl : Nat) (ped : Nat) (a1 : Int32) (po : Nat) (py1 : ClassId) (pof : Nat → Int64)  : kM l yL_kindOf wk_c_L_kindOf 9 163 1 6 D kStr e0 [(py1, .long)] [(pa, .inr (11, [.ref prl, .int 0, .ref ppc, .int 0, .ref ppg, .ref ppl, .ref ped, .int 0])), (po, .inl (py1, 1, .inr (.inl pof)))] [.ref pa, .int a1, .ref po] (fun v w t => v = some (.int 1) ∧ w = [(po, .inl (py1, 1, .inr (.inl pof)))] ∧ t = [(py1, .long)]) (fun _ => False) := by
  refine k_ofX (cc := cL_kindOf) (maxL := 4) (ret := (some .int)) (hhs := [(0, 9, 12, 19)]) (by decide) rfl (Nat.le_of_ble_eq_true rfl) ?_
  intro p e s m args below meth c A ls hx hb hr hts hown hlocks hml hex hh hl
  have hown : s.vm.findClass RL = some m.cls := hown
  have hl : lv_has ls 4 [(0, .ref pa), (1, .int a1), (2, .ref po)] := hl
  refine lv_aload_n hx hb dL_kindOf_0 rfl (lv_at hl 2 rfl) ?_
  refine lv_iconst (v := 0) hx hb dL_kindOf_1 (by decide) ?_
  refine lv_aload_n hx hb dL_kindOf_2 rfl (lv_at hl 0 rfl) ?_
  refine lv_iload_n hx hb dL_kindOf_3 rfl (lv_at hl 1 rfl) ?_
  refine k_callV (C := RX6) (T := TX6) (N := 8) (ci := 11) (q0 := 0) (wr := [(po, .inl (py1, 1, .inr (.inl pof)))]) (rest := [.int 0, .ref po]) (own := RL) ⟨hx, hb, hml, hown, hts⟩ (c_X6_kindOf l hst D e0 pa prl ppc ppg ppl ped a1 ) (cwV 1 hts gi_c_L_kindOf_0 rfl rfl rfl (by decide +kernel) ⟨Nat.le_of_ble_eq_true rfl, Nat.le_of_ble_eq_true rfl⟩) hh rfl rfl [0] [1] [] rfl rfl rfl rfl (by decide) rfl rfl hl rfl (Nat.le_of_ble_eq_true rfl) dL_kindOf_4 ⟨Nat.le_of_ble_eq_true rfl, (Nat.le_of_ble_eq_true rfl)⟩ (fun E ce q9 H locs hE hh hq hv hcl => ?_) (fun _ _ _ _ _ h _ => h.elim)
  refine k_catch (own := RL) (name := "java/lang/IndexOutOfBoundsException") hown hex [] ⟨0, 9, 12, 19⟩ [] rfl (fun z hz => by simp at hz) (by decide) (by decide) (hts _ (wo_c_L_kindOf_in _ (List.mem_of_getElem? (i := 0) rfl))) hE (by decide) hh hq hv hcl ?_
  refine W.eq (g2 := F0 m 12 ls [.ref q9]) rfl ?_
  refine lv_astore_n (lv' := [(3, .ref q9), (0, .ref pa), (1, .int a1), (2, .ref po)]) hx hb dL_kindOf_12 rfl hl (by decide) rfl (fun ls hl => ?_)
  refine lv_iconst (v := 1) hx hb dL_kindOf_13 (by decide) ?_
  exact k_endi hx hb hr hlocks hh ⟨rfl, rfl, rfl⟩ [0] [0] rfl rfl rfl (Nat.le_of_ble_eq_true rfl) (Nat.le_of_ble_eq_true rfl) dL_kindOf_14
def wo_c_L_lengthOf : List Cond := [Cond.classLink RL 19 "java/lang/IndexOutOfBoundsException"]
def wk_c_L_lengthOf : List Cond := Cond.codeWith yL_lengthOf cL_lengthOf 4 (some .int) [(0, 9, 12, 19)] :: (wo_c_L_lengthOf ++ (wsV RL 62 RX6 yX6_lengthOf wk_c_X6_lengthOf))
theorem wo_c_L_lengthOf_in : ∀ w ∈ wo_c_L_lengthOf, w ∈ wk_c_L_lengthOf := fun w h => List.mem_cons_of_mem _ (List.mem_append_left _ h)
theorem gi_c_L_lengthOf_0 : GoodIn wk_c_L_lengthOf (wsV RL 62 RX6 yX6_lengthOf wk_c_X6_lengthOf) := fun w h => ⟨List.mem_cons_of_mem _ (List.mem_append_right _ h), good_of_word (kg_V gk_c_X6_lengthOf w h)⟩
theorem gk_c_L_lengthOf : ∀ w ∈ wk_c_L_lengthOf, goodWord w = true := List.forall_mem_cons.mpr ⟨rfl, (List.forall_mem_append.mpr ⟨(show ∀ w ∈ wo_c_L_lengthOf, goodWord w = true by decide +kernel), (kg_V gk_c_X6_lengthOf)⟩)⟩
set_option maxHeartbeats 4000000 in
set_option maxRecDepth 100000 in
theorem c_L_lengthOf (l : Launch) (hst : l.stackTraces = false) (D : va_G) (e0 : kE) (pa : Nat) (prl : Nat) (ppc : Nat) (ppg : Nat) (ppl : Nat) (ped : Nat) (a1 : Int32) (po : Nat) (py1 : ClassId) (pof : Nat → Int64)  : kM l yL_lengthOf wk_c_L_lengthOf 9 163 1 6 D kStr e0 [(py1, .long)] [(pa, .inr (11, [.ref prl, .int 0, .ref ppc, .int 0, .ref ppg, .ref ppl, .ref ped, .int 0])), (po, .inl (py1, 1, .inr (.inl pof)))] [.ref pa, .int a1, .ref po] (fun v w t => v = some (.int 1) ∧ w = [(po, .inl (py1, 1, .inr (.inl pof)))] ∧ t = [(py1, .long)]) (fun _ => False) := by
  refine k_ofX (cc := cL_lengthOf) (maxL := 4) (ret := (some .int)) (hhs := [(0, 9, 12, 19)]) (by decide) rfl (Nat.le_of_ble_eq_true rfl) ?_
  intro p e s m args below meth c A ls hx hb hr hts hown hlocks hml hex hh hl
  have hown : s.vm.findClass RL = some m.cls := hown
  have hl : lv_has ls 4 [(0, .ref pa), (1, .int a1), (2, .ref po)] := hl
  refine lv_aload_n hx hb dL_lengthOf_0 rfl (lv_at hl 2 rfl) ?_
  refine lv_iconst (v := 0) hx hb dL_lengthOf_1 (by decide) ?_
  refine lv_aload_n hx hb dL_lengthOf_2 rfl (lv_at hl 0 rfl) ?_
  refine lv_iload_n hx hb dL_lengthOf_3 rfl (lv_at hl 1 rfl) ?_
  refine k_callV (C := RX6) (T := TX6) (N := 8) (ci := 11) (q0 := 0) (wr := [(po, .inl (py1, 1, .inr (.inl pof)))]) (rest := [.int 0, .ref po]) (own := RL) ⟨hx, hb, hml, hown, hts⟩ (c_X6_lengthOf l hst D e0 pa prl ppc ppg ppl ped a1 ) (cwV 1 hts gi_c_L_lengthOf_0 rfl rfl rfl (by decide +kernel) ⟨Nat.le_of_ble_eq_true rfl, Nat.le_of_ble_eq_true rfl⟩) hh rfl rfl [0] [1] [] rfl rfl rfl rfl (by decide) rfl rfl hl rfl (Nat.le_of_ble_eq_true rfl) dL_lengthOf_4 ⟨Nat.le_of_ble_eq_true rfl, (Nat.le_of_ble_eq_true rfl)⟩ (fun E ce q9 H locs hE hh hq hv hcl => ?_) (fun _ _ _ _ _ h _ => h.elim)
  refine k_catch (own := RL) (name := "java/lang/IndexOutOfBoundsException") hown hex [] ⟨0, 9, 12, 19⟩ [] rfl (fun z hz => by simp at hz) (by decide) (by decide) (hts _ (wo_c_L_lengthOf_in _ (List.mem_of_getElem? (i := 0) rfl))) hE (by decide) hh hq hv hcl ?_
  refine W.eq (g2 := F0 m 12 ls [.ref q9]) rfl ?_
  refine lv_astore_n (lv' := [(3, .ref q9), (0, .ref pa), (1, .int a1), (2, .ref po)]) hx hb dL_lengthOf_12 rfl hl (by decide) rfl (fun ls hl => ?_)
  refine lv_iconst (v := 1) hx hb dL_lengthOf_13 (by decide) ?_
  exact k_endi hx hb hr hlocks hh ⟨rfl, rfl, rfl⟩ [0] [0] rfl rfl rfl (Nat.le_of_ble_eq_true rfl) (Nat.le_of_ble_eq_true rfl) dL_lengthOf_14
def wo_c_L_sampleOf : List Cond := [Cond.classLink RL 19 "java/lang/IndexOutOfBoundsException"]
def wk_c_L_sampleOf : List Cond := Cond.codeWith yL_sampleOf cL_sampleOf 5 (some .int) [(0, 10, 13, 19), (0, 10, 17, 68)] :: (wo_c_L_sampleOf ++ (wsV RL 65 RX6 yX6_sampleOf wk_c_X6_sampleOf))
theorem wo_c_L_sampleOf_in : ∀ w ∈ wo_c_L_sampleOf, w ∈ wk_c_L_sampleOf := fun w h => List.mem_cons_of_mem _ (List.mem_append_left _ h)
theorem gi_c_L_sampleOf_0 : GoodIn wk_c_L_sampleOf (wsV RL 65 RX6 yX6_sampleOf wk_c_X6_sampleOf) := fun w h => ⟨List.mem_cons_of_mem _ (List.mem_append_right _ h), good_of_word (kg_V gk_c_X6_sampleOf w h)⟩
theorem gk_c_L_sampleOf : ∀ w ∈ wk_c_L_sampleOf, goodWord w = true := List.forall_mem_cons.mpr ⟨rfl, (List.forall_mem_append.mpr ⟨(show ∀ w ∈ wo_c_L_sampleOf, goodWord w = true by decide +kernel), (kg_V gk_c_X6_sampleOf)⟩)⟩
set_option maxHeartbeats 4000000 in
set_option maxRecDepth 100000 in
theorem c_L_sampleOf (l : Launch) (hst : l.stackTraces = false) (D : va_G) (e0 : kE) (pa : Nat) (prl : Nat) (ppc : Nat) (ppg : Nat) (ppl : Nat) (ped : Nat) (a1 : Int32) (a2 : Int32) (po : Nat) (py1 : ClassId) (pof : Nat → Int64)  : kM l yL_sampleOf wk_c_L_sampleOf 9 165 1 6 D kStr e0 [(py1, .long)] [(pa, .inr (11, [.ref prl, .int 0, .ref ppc, .int 0, .ref ppg, .ref ppl, .ref ped, .int 0])), (po, .inl (py1, 1, .inr (.inl pof)))] [.ref pa, .int a1, .int a2, .ref po] (fun v w t => v = some (.int 1) ∧ w = [(po, .inl (py1, 1, .inr (.inl pof)))] ∧ t = [(py1, .long)]) (fun _ => False) := by
  refine k_ofX (cc := cL_sampleOf) (maxL := 5) (ret := (some .int)) (hhs := [(0, 10, 13, 19), (0, 10, 17, 68)]) (by decide) rfl (Nat.le_of_ble_eq_true rfl) ?_
  intro p e s m args below meth c A ls hx hb hr hts hown hlocks hml hex hh hl
  have hown : s.vm.findClass RL = some m.cls := hown
  have hl : lv_has ls 5 [(0, .ref pa), (1, .int a1), (2, .int a2), (3, .ref po)] := hl
  refine lv_aload_n hx hb dL_sampleOf_0 rfl (lv_at hl 3 rfl) ?_
  refine lv_iconst (v := 0) hx hb dL_sampleOf_1 (by decide) ?_
  refine lv_aload_n hx hb dL_sampleOf_2 rfl (lv_at hl 0 rfl) ?_
  refine lv_iload_n hx hb dL_sampleOf_3 rfl (lv_at hl 1 rfl) ?_
  refine lv_iload_n hx hb dL_sampleOf_4 rfl (lv_at hl 2 rfl) ?_
  refine k_callV (C := RX6) (T := TX6) (N := 8) (ci := 11) (q0 := 0) (wr := [(po, .inl (py1, 1, .inr (.inl pof)))]) (rest := [.int 0, .ref po]) (own := RL) ⟨hx, hb, hml, hown, hts⟩ (c_X6_sampleOf l hst D e0 pa prl ppc ppg ppl ped a1 a2 ) (cwV 2 hts gi_c_L_sampleOf_0 rfl rfl rfl (by decide +kernel) ⟨Nat.le_of_ble_eq_true rfl, Nat.le_of_ble_eq_true rfl⟩) hh rfl rfl [0] [1] [] rfl rfl rfl rfl (by decide) rfl rfl hl rfl (Nat.le_of_ble_eq_true rfl) dL_sampleOf_5 ⟨Nat.le_of_ble_eq_true rfl, (Nat.le_of_ble_eq_true rfl)⟩ (fun E ce q9 H locs hE hh hq hv hcl => ?_) (fun _ _ _ _ _ h _ => h.elim)
  refine k_catch (own := RL) (name := "java/lang/IndexOutOfBoundsException") hown hex [] ⟨0, 10, 13, 19⟩ [⟨0, 10, 17, 68⟩] rfl (fun z hz => by simp at hz) (by decide) (by decide) (hts _ (wo_c_L_sampleOf_in _ (List.mem_of_getElem? (i := 0) rfl))) hE (by decide) hh hq hv hcl ?_
  refine W.eq (g2 := F0 m 13 ls [.ref q9]) rfl ?_
  refine lv_astore (lv' := [(4, .ref q9), (0, .ref pa), (1, .int a1), (2, .int a2), (3, .ref po)]) hx hb dL_sampleOf_13 hl (by decide) rfl (fun ls hl => ?_)
  refine lv_iconst (v := 1) hx hb dL_sampleOf_15 (by decide) ?_
  exact k_endi hx hb hr hlocks hh ⟨rfl, rfl, rfl⟩ [0] [0] rfl rfl rfl (Nat.le_of_ble_eq_true rfl) (Nat.le_of_ble_eq_true rfl) dL_sampleOf_16
def wo_c_L_loudness : List Cond := [Cond.classLink RL 19 "java/lang/IndexOutOfBoundsException"]
def wk_c_L_loudness : List Cond := Cond.codeWith yL_loudness cL_loudness 4 (some .int) [(0, 9, 12, 19)] :: (wo_c_L_loudness ++ (wsV RL 70 RX6 yX6_loudness wk_c_X6_loudness))
theorem wo_c_L_loudness_in : ∀ w ∈ wo_c_L_loudness, w ∈ wk_c_L_loudness := fun w h => List.mem_cons_of_mem _ (List.mem_append_left _ h)
theorem gi_c_L_loudness_0 : GoodIn wk_c_L_loudness (wsV RL 70 RX6 yX6_loudness wk_c_X6_loudness) := fun w h => ⟨List.mem_cons_of_mem _ (List.mem_append_right _ h), good_of_word (kg_V gk_c_X6_loudness w h)⟩
theorem gk_c_L_loudness : ∀ w ∈ wk_c_L_loudness, goodWord w = true := List.forall_mem_cons.mpr ⟨rfl, (List.forall_mem_append.mpr ⟨(show ∀ w ∈ wo_c_L_loudness, goodWord w = true by decide +kernel), (kg_V gk_c_X6_loudness)⟩)⟩
set_option maxHeartbeats 4000000 in
set_option maxRecDepth 100000 in
theorem c_L_loudness (l : Launch) (hst : l.stackTraces = false) (D : va_G) (e0 : kE) (pa : Nat) (prl : Nat) (ppc : Nat) (ppg : Nat) (ppl : Nat) (ped : Nat) (a1 : Int32) (po : Nat) (py1 : ClassId) (pof : Nat → Int64)  : kM l yL_loudness wk_c_L_loudness 9 163 1 6 D kStr e0 [(py1, .long)] [(pa, .inr (11, [.ref prl, .int 0, .ref ppc, .int 0, .ref ppg, .ref ppl, .ref ped, .int 0])), (po, .inl (py1, 1, .inr (.inl pof)))] [.ref pa, .int a1, .ref po] (fun v w t => v = some (.int 1) ∧ w = [(po, .inl (py1, 1, .inr (.inl pof)))] ∧ t = [(py1, .long)]) (fun _ => False) := by
  refine k_ofX (cc := cL_loudness) (maxL := 4) (ret := (some .int)) (hhs := [(0, 9, 12, 19)]) (by decide) rfl (Nat.le_of_ble_eq_true rfl) ?_
  intro p e s m args below meth c A ls hx hb hr hts hown hlocks hml hex hh hl
  have hown : s.vm.findClass RL = some m.cls := hown
  have hl : lv_has ls 4 [(0, .ref pa), (1, .int a1), (2, .ref po)] := hl
  refine lv_aload_n hx hb dL_loudness_0 rfl (lv_at hl 2 rfl) ?_
  refine lv_iconst (v := 0) hx hb dL_loudness_1 (by decide) ?_
  refine lv_aload_n hx hb dL_loudness_2 rfl (lv_at hl 0 rfl) ?_
  refine lv_iload_n hx hb dL_loudness_3 rfl (lv_at hl 1 rfl) ?_
  refine k_callV (C := RX6) (T := TX6) (N := 8) (ci := 11) (q0 := 0) (wr := [(po, .inl (py1, 1, .inr (.inl pof)))]) (rest := [.int 0, .ref po]) (own := RL) ⟨hx, hb, hml, hown, hts⟩ (c_X6_loudness l hst D e0 pa prl ppc ppg ppl ped a1 ) (cwV 1 hts gi_c_L_loudness_0 rfl rfl rfl (by decide +kernel) ⟨Nat.le_of_ble_eq_true rfl, Nat.le_of_ble_eq_true rfl⟩) hh rfl rfl [0] [1] [] rfl rfl rfl rfl (by decide) rfl rfl hl rfl (Nat.le_of_ble_eq_true rfl) dL_loudness_4 ⟨Nat.le_of_ble_eq_true rfl, (Nat.le_of_ble_eq_true rfl)⟩ (fun E ce q9 H locs hE hh hq hv hcl => ?_) (fun _ _ _ _ _ h _ => h.elim)
  refine k_catch (own := RL) (name := "java/lang/IndexOutOfBoundsException") hown hex [] ⟨0, 9, 12, 19⟩ [] rfl (fun z hz => by simp at hz) (by decide) (by decide) (hts _ (wo_c_L_loudness_in _ (List.mem_of_getElem? (i := 0) rfl))) hE (by decide) hh hq hv hcl ?_
  refine W.eq (g2 := F0 m 12 ls [.ref q9]) rfl ?_
  refine lv_astore_n (lv' := [(3, .ref q9), (0, .ref pa), (1, .int a1), (2, .ref po)]) hx hb dL_loudness_12 rfl hl (by decide) rfl (fun ls hl => ?_)
  refine lv_iconst (v := 1) hx hb dL_loudness_13 (by decide) ?_
  exact k_endi hx hb hr hlocks hh ⟨rfl, rfl, rfl⟩ [0] [0] rfl rfl rfl (Nat.le_of_ble_eq_true rfl) (Nat.le_of_ble_eq_true rfl) dL_loudness_14
def wo_c_L_peak : List Cond := [Cond.classLink RL 19 "java/lang/IndexOutOfBoundsException"]
def wk_c_L_peak : List Cond := Cond.codeWith yL_peak cL_peak 4 (some .int) [(0, 9, 12, 19)] :: (wo_c_L_peak ++ (wsV RL 73 RX6 yX6_peak wk_c_X6_peak))
theorem wo_c_L_peak_in : ∀ w ∈ wo_c_L_peak, w ∈ wk_c_L_peak := fun w h => List.mem_cons_of_mem _ (List.mem_append_left _ h)
theorem gi_c_L_peak_0 : GoodIn wk_c_L_peak (wsV RL 73 RX6 yX6_peak wk_c_X6_peak) := fun w h => ⟨List.mem_cons_of_mem _ (List.mem_append_right _ h), good_of_word (kg_V gk_c_X6_peak w h)⟩
theorem gk_c_L_peak : ∀ w ∈ wk_c_L_peak, goodWord w = true := List.forall_mem_cons.mpr ⟨rfl, (List.forall_mem_append.mpr ⟨(show ∀ w ∈ wo_c_L_peak, goodWord w = true by decide +kernel), (kg_V gk_c_X6_peak)⟩)⟩
set_option maxHeartbeats 4000000 in
set_option maxRecDepth 100000 in
theorem c_L_peak (l : Launch) (hst : l.stackTraces = false) (D : va_G) (e0 : kE) (pa : Nat) (prl : Nat) (ppc : Nat) (ppg : Nat) (ppl : Nat) (ped : Nat) (a1 : Int32) (po : Nat) (py1 : ClassId) (pof : Nat → Int64)  : kM l yL_peak wk_c_L_peak 9 163 1 6 D kStr e0 [(py1, .long)] [(pa, .inr (11, [.ref prl, .int 0, .ref ppc, .int 0, .ref ppg, .ref ppl, .ref ped, .int 0])), (po, .inl (py1, 1, .inr (.inl pof)))] [.ref pa, .int a1, .ref po] (fun v w t => v = some (.int 1) ∧ w = [(po, .inl (py1, 1, .inr (.inl pof)))] ∧ t = [(py1, .long)]) (fun _ => False) := by
  refine k_ofX (cc := cL_peak) (maxL := 4) (ret := (some .int)) (hhs := [(0, 9, 12, 19)]) (by decide) rfl (Nat.le_of_ble_eq_true rfl) ?_
  intro p e s m args below meth c A ls hx hb hr hts hown hlocks hml hex hh hl
  have hown : s.vm.findClass RL = some m.cls := hown
  have hl : lv_has ls 4 [(0, .ref pa), (1, .int a1), (2, .ref po)] := hl
  refine lv_aload_n hx hb dL_peak_0 rfl (lv_at hl 2 rfl) ?_
  refine lv_iconst (v := 0) hx hb dL_peak_1 (by decide) ?_
  refine lv_aload_n hx hb dL_peak_2 rfl (lv_at hl 0 rfl) ?_
  refine lv_iload_n hx hb dL_peak_3 rfl (lv_at hl 1 rfl) ?_
  refine k_callV (C := RX6) (T := TX6) (N := 8) (ci := 11) (q0 := 0) (wr := [(po, .inl (py1, 1, .inr (.inl pof)))]) (rest := [.int 0, .ref po]) (own := RL) ⟨hx, hb, hml, hown, hts⟩ (c_X6_peak l hst D e0 pa prl ppc ppg ppl ped a1 ) (cwV 1 hts gi_c_L_peak_0 rfl rfl rfl (by decide +kernel) ⟨Nat.le_of_ble_eq_true rfl, Nat.le_of_ble_eq_true rfl⟩) hh rfl rfl [0] [1] [] rfl rfl rfl rfl (by decide) rfl rfl hl rfl (Nat.le_of_ble_eq_true rfl) dL_peak_4 ⟨Nat.le_of_ble_eq_true rfl, (Nat.le_of_ble_eq_true rfl)⟩ (fun E ce q9 H locs hE hh hq hv hcl => ?_) (fun _ _ _ _ _ h _ => h.elim)
  refine k_catch (own := RL) (name := "java/lang/IndexOutOfBoundsException") hown hex [] ⟨0, 9, 12, 19⟩ [] rfl (fun z hz => by simp at hz) (by decide) (by decide) (hts _ (wo_c_L_peak_in _ (List.mem_of_getElem? (i := 0) rfl))) hE (by decide) hh hq hv hcl ?_
  refine W.eq (g2 := F0 m 12 ls [.ref q9]) rfl ?_
  refine lv_astore_n (lv' := [(3, .ref q9), (0, .ref pa), (1, .int a1), (2, .ref po)]) hx hb dL_peak_12 rfl hl (by decide) rfl (fun ls hl => ?_)
  refine lv_iconst (v := 1) hx hb dL_peak_13 (by decide) ?_
  exact k_endi hx hb hr hlocks hh ⟨rfl, rfl, rfl⟩ [0] [0] rfl rfl rfl (Nat.le_of_ble_eq_true rfl) (Nat.le_of_ble_eq_true rfl) dL_peak_14
def wo_c_L_add : List Cond := [Cond.classLink RL 19 "java/lang/IndexOutOfBoundsException"]
def wk_c_L_add : List Cond := Cond.codeWith yL_add cL_add 5 (some .int) [(0, 10, 13, 19), (0, 10, 17, 21), (0, 10, 21, 41), (0, 10, 25, 13)] :: (wo_c_L_add ++ (wsV RL 76 RX6 yX6_add wk_c_X6_add))
theorem wo_c_L_add_in : ∀ w ∈ wo_c_L_add, w ∈ wk_c_L_add := fun w h => List.mem_cons_of_mem _ (List.mem_append_left _ h)
theorem gi_c_L_add_0 : GoodIn wk_c_L_add (wsV RL 76 RX6 yX6_add wk_c_X6_add) := fun w h => ⟨List.mem_cons_of_mem _ (List.mem_append_right _ h), good_of_word (kg_V gk_c_X6_add w h)⟩
theorem gk_c_L_add : ∀ w ∈ wk_c_L_add, goodWord w = true := List.forall_mem_cons.mpr ⟨rfl, (List.forall_mem_append.mpr ⟨(show ∀ w ∈ wo_c_L_add, goodWord w = true by decide +kernel), (kg_V gk_c_X6_add)⟩)⟩
set_option maxHeartbeats 4000000 in
set_option maxRecDepth 100000 in
theorem c_L_add (l : Launch) (hst : l.stackTraces = false) (D : va_G) (e0 : kE) (pa : Nat) (prl : Nat) (ppc : Nat) (ppg : Nat) (ppl : Nat) (ped : Nat) (a1 : Int32) (a2 : Int32) (po : Nat) (py1 : ClassId) (pof : Nat → Int64)  : kM l yL_add wk_c_L_add 9 165 1 6 D kStr e0 [(py1, .long)] [(pa, .inr (11, [.ref prl, .int 0, .ref ppc, .int 0, .ref ppg, .ref ppl, .ref ped, .int 0])), (po, .inl (py1, 1, .inr (.inl pof)))] [.ref pa, .int a1, .int a2, .ref po] (fun v w t => v = some (.int 1) ∧ w = [(po, .inl (py1, 1, .inr (.inl pof)))] ∧ t = [(py1, .long)]) (fun _ => False) := by
  refine k_ofX (cc := cL_add) (maxL := 5) (ret := (some .int)) (hhs := [(0, 10, 13, 19), (0, 10, 17, 21), (0, 10, 21, 41), (0, 10, 25, 13)]) (by decide) rfl (Nat.le_of_ble_eq_true rfl) ?_
  intro p e s m args below meth c A ls hx hb hr hts hown hlocks hml hex hh hl
  have hown : s.vm.findClass RL = some m.cls := hown
  have hl : lv_has ls 5 [(0, .ref pa), (1, .int a1), (2, .int a2), (3, .ref po)] := hl
  refine lv_aload_n hx hb dL_add_0 rfl (lv_at hl 3 rfl) ?_
  refine lv_iconst (v := 0) hx hb dL_add_1 (by decide) ?_
  refine lv_aload_n hx hb dL_add_2 rfl (lv_at hl 0 rfl) ?_
  refine lv_iload_n hx hb dL_add_3 rfl (lv_at hl 1 rfl) ?_
  refine lv_iload_n hx hb dL_add_4 rfl (lv_at hl 2 rfl) ?_
  refine k_callV (C := RX6) (T := TX6) (N := 8) (ci := 11) (q0 := 0) (wr := [(po, .inl (py1, 1, .inr (.inl pof)))]) (rest := [.int 0, .ref po]) (own := RL) ⟨hx, hb, hml, hown, hts⟩ (c_X6_add l hst D e0 pa prl ppc ppg ppl ped a1 a2 ) (cwV 2 hts gi_c_L_add_0 rfl rfl rfl (by decide +kernel) ⟨Nat.le_of_ble_eq_true rfl, Nat.le_of_ble_eq_true rfl⟩) hh rfl rfl [0] [1] [] rfl rfl rfl rfl (by decide) rfl rfl hl rfl (Nat.le_of_ble_eq_true rfl) dL_add_5 ⟨Nat.le_of_ble_eq_true rfl, (Nat.le_of_ble_eq_true rfl)⟩ (fun E ce q9 H locs hE hh hq hv hcl => ?_) (fun _ _ _ _ _ h _ => h.elim)
  refine k_catch (own := RL) (name := "java/lang/IndexOutOfBoundsException") hown hex [] ⟨0, 10, 13, 19⟩ [⟨0, 10, 17, 21⟩, ⟨0, 10, 21, 41⟩, ⟨0, 10, 25, 13⟩] rfl (fun z hz => by simp at hz) (by decide) (by decide) (hts _ (wo_c_L_add_in _ (List.mem_of_getElem? (i := 0) rfl))) hE (by decide) hh hq hv hcl ?_
  refine W.eq (g2 := F0 m 13 ls [.ref q9]) rfl ?_
  refine lv_astore (lv' := [(4, .ref q9), (0, .ref pa), (1, .int a1), (2, .int a2), (3, .ref po)]) hx hb dL_add_13 hl (by decide) rfl (fun ls hl => ?_)
  refine lv_iconst (v := 1) hx hb dL_add_15 (by decide) ?_
  exact k_endi hx hb hr hlocks hh ⟨rfl, rfl, rfl⟩ [0] [0] rfl rfl rfl (Nat.le_of_ble_eq_true rfl) (Nat.le_of_ble_eq_true rfl) dL_add_16
def wo_c_L_padding : List Cond := [Cond.classLink RL 19 "java/lang/IndexOutOfBoundsException"]
def wk_c_L_padding : List Cond := Cond.codeWith yL_padding cL_padding 6 (some .int) [(0, 12, 15, 19), (0, 12, 19, 21)] :: (wo_c_L_padding ++ (wsV RL 141 RX6 yX6_padding wk_c_X6_padding))
theorem wo_c_L_padding_in : ∀ w ∈ wo_c_L_padding, w ∈ wk_c_L_padding := fun w h => List.mem_cons_of_mem _ (List.mem_append_left _ h)
theorem gi_c_L_padding_0 : GoodIn wk_c_L_padding (wsV RL 141 RX6 yX6_padding wk_c_X6_padding) := fun w h => ⟨List.mem_cons_of_mem _ (List.mem_append_right _ h), good_of_word (kg_V gk_c_X6_padding w h)⟩
theorem gk_c_L_padding : ∀ w ∈ wk_c_L_padding, goodWord w = true := List.forall_mem_cons.mpr ⟨rfl, (List.forall_mem_append.mpr ⟨(show ∀ w ∈ wo_c_L_padding, goodWord w = true by decide +kernel), (kg_V gk_c_X6_padding)⟩)⟩
set_option maxHeartbeats 4000000 in
set_option maxRecDepth 100000 in
theorem c_L_padding (l : Launch) (hst : l.stackTraces = false) (D : va_G) (e0 : kE) (pa : Nat) (prl : Nat) (ppc : Nat) (ppg : Nat) (ppl : Nat) (ped : Nat) (a1 : Int32) (a2 : Int32) (a3 : Int32) (po : Nat) (py1 : ClassId) (pof : Nat → Int64)  : kM l yL_padding wk_c_L_padding 9 167 1 6 D kStr e0 [(py1, .long)] [(pa, .inr (11, [.ref prl, .int 0, .ref ppc, .int 0, .ref ppg, .ref ppl, .ref ped, .int 0])), (po, .inl (py1, 1, .inr (.inl pof)))] [.ref pa, .int a1, .int a2, .int a3, .ref po] (fun v w t => v = some (.int 1) ∧ w = [(po, .inl (py1, 1, .inr (.inl pof)))] ∧ t = [(py1, .long)]) (fun _ => False) := by
  refine k_ofX (cc := cL_padding) (maxL := 6) (ret := (some .int)) (hhs := [(0, 12, 15, 19), (0, 12, 19, 21)]) (by decide) rfl (Nat.le_of_ble_eq_true rfl) ?_
  intro p e s m args below meth c A ls hx hb hr hts hown hlocks hml hex hh hl
  have hown : s.vm.findClass RL = some m.cls := hown
  have hl : lv_has ls 6 [(0, .ref pa), (1, .int a1), (2, .int a2), (3, .int a3), (4, .ref po)] := hl
  refine lv_aload hx hb dL_padding_0 (lv_at hl 4 rfl) ?_
  refine lv_iconst (v := 0) hx hb dL_padding_2 (by decide) ?_
  refine lv_aload_n hx hb dL_padding_3 rfl (lv_at hl 0 rfl) ?_
  refine lv_iload_n hx hb dL_padding_4 rfl (lv_at hl 1 rfl) ?_
  refine lv_iload_n hx hb dL_padding_5 rfl (lv_at hl 2 rfl) ?_
  refine lv_iload_n hx hb dL_padding_6 rfl (lv_at hl 3 rfl) ?_
  refine k_callV (C := RX6) (T := TX6) (N := 8) (ci := 11) (q0 := 0) (wr := [(po, .inl (py1, 1, .inr (.inl pof)))]) (rest := [.int 0, .ref po]) (own := RL) ⟨hx, hb, hml, hown, hts⟩ (c_X6_padding l hst D e0 pa prl ppc ppg ppl ped a1 a2 a3 ) (cwV 3 hts gi_c_L_padding_0 rfl rfl rfl (by decide +kernel) ⟨Nat.le_of_ble_eq_true rfl, Nat.le_of_ble_eq_true rfl⟩) hh rfl rfl [0] [1] [] rfl rfl rfl rfl (by decide) rfl rfl hl rfl (Nat.le_of_ble_eq_true rfl) dL_padding_7 ⟨Nat.le_of_ble_eq_true rfl, (Nat.le_of_ble_eq_true rfl)⟩ (fun E ce q9 H locs hE hh hq hv hcl => ?_) (fun _ _ _ _ _ h _ => h.elim)
  refine k_catch (own := RL) (name := "java/lang/IndexOutOfBoundsException") hown hex [] ⟨0, 12, 15, 19⟩ [⟨0, 12, 19, 21⟩] rfl (fun z hz => by simp at hz) (by decide) (by decide) (hts _ (wo_c_L_padding_in _ (List.mem_of_getElem? (i := 0) rfl))) hE (by decide) hh hq hv hcl ?_
  refine W.eq (g2 := F0 m 15 ls [.ref q9]) rfl ?_
  refine lv_astore (lv' := [(5, .ref q9), (0, .ref pa), (1, .int a1), (2, .int a2), (3, .int a3), (4, .ref po)]) hx hb dL_padding_15 hl (by decide) rfl (fun ls hl => ?_)
  refine lv_iconst (v := 1) hx hb dL_padding_17 (by decide) ?_
  exact k_endi hx hb hr hlocks hh ⟨rfl, rfl, rfl⟩ [0] [0] rfl rfl rfl (Nat.le_of_ble_eq_true rfl) (Nat.le_of_ble_eq_true rfl) dL_padding_18
def wo_c_L_editionAt : List Cond := [Cond.classLink RL 19 "java/lang/IndexOutOfBoundsException"]
def wk_c_L_editionAt : List Cond := Cond.codeWith yL_editionAt cL_editionAt 5 (some .int) [(0, 10, 13, 19), (0, 10, 17, 68), (0, 10, 21, 41)] :: (wo_c_L_editionAt ++ (wsV RL 119 RX6 yX6_editionAt wk_c_X6_editionAt))
theorem wo_c_L_editionAt_in : ∀ w ∈ wo_c_L_editionAt, w ∈ wk_c_L_editionAt := fun w h => List.mem_cons_of_mem _ (List.mem_append_left _ h)
theorem gi_c_L_editionAt_0 : GoodIn wk_c_L_editionAt (wsV RL 119 RX6 yX6_editionAt wk_c_X6_editionAt) := fun w h => ⟨List.mem_cons_of_mem _ (List.mem_append_right _ h), good_of_word (kg_V gk_c_X6_editionAt w h)⟩
theorem gk_c_L_editionAt : ∀ w ∈ wk_c_L_editionAt, goodWord w = true := List.forall_mem_cons.mpr ⟨rfl, (List.forall_mem_append.mpr ⟨(show ∀ w ∈ wo_c_L_editionAt, goodWord w = true by decide +kernel), (kg_V gk_c_X6_editionAt)⟩)⟩
set_option maxHeartbeats 4000000 in
set_option maxRecDepth 100000 in
theorem c_L_editionAt (l : Launch) (hst : l.stackTraces = false) (D : va_G) (e0 : kE) (pa : Nat) (prl : Nat) (ppc : Nat) (ppg : Nat) (ppl : Nat) (ped : Nat) (a1 : Int32) (a2 : Int32) (po : Nat) (py1 : ClassId) (pof : Nat → Int64)  : kM l yL_editionAt wk_c_L_editionAt 9 165 1 6 D kStr e0 [(py1, .long)] [(pa, .inr (11, [.ref prl, .int 0, .ref ppc, .int 0, .ref ppg, .ref ppl, .ref ped, .int 0])), (po, .inl (py1, 1, .inr (.inl pof)))] [.ref pa, .int a1, .int a2, .ref po] (fun v w t => v = some (.int 1) ∧ w = [(po, .inl (py1, 1, .inr (.inl pof)))] ∧ t = [(py1, .long)]) (fun _ => False) := by
  refine k_ofX (cc := cL_editionAt) (maxL := 5) (ret := (some .int)) (hhs := [(0, 10, 13, 19), (0, 10, 17, 68), (0, 10, 21, 41)]) (by decide) rfl (Nat.le_of_ble_eq_true rfl) ?_
  intro p e s m args below meth c A ls hx hb hr hts hown hlocks hml hex hh hl
  have hown : s.vm.findClass RL = some m.cls := hown
  have hl : lv_has ls 5 [(0, .ref pa), (1, .int a1), (2, .int a2), (3, .ref po)] := hl
  refine lv_aload_n hx hb dL_editionAt_0 rfl (lv_at hl 3 rfl) ?_
  refine lv_iconst (v := 0) hx hb dL_editionAt_1 (by decide) ?_
  refine lv_aload_n hx hb dL_editionAt_2 rfl (lv_at hl 0 rfl) ?_
  refine lv_iload_n hx hb dL_editionAt_3 rfl (lv_at hl 1 rfl) ?_
  refine lv_iload_n hx hb dL_editionAt_4 rfl (lv_at hl 2 rfl) ?_
  refine k_callV (C := RX6) (T := TX6) (N := 8) (ci := 11) (q0 := 0) (wr := [(po, .inl (py1, 1, .inr (.inl pof)))]) (rest := [.int 0, .ref po]) (own := RL) ⟨hx, hb, hml, hown, hts⟩ (c_X6_editionAt l hst D e0 pa prl ppc ppg ppl ped a1 a2 ) (cwV 2 hts gi_c_L_editionAt_0 rfl rfl rfl (by decide +kernel) ⟨Nat.le_of_ble_eq_true rfl, Nat.le_of_ble_eq_true rfl⟩) hh rfl rfl [0] [1] [] rfl rfl rfl rfl (by decide) rfl rfl hl rfl (Nat.le_of_ble_eq_true rfl) dL_editionAt_5 ⟨Nat.le_of_ble_eq_true rfl, (Nat.le_of_ble_eq_true rfl)⟩ (fun E ce q9 H locs hE hh hq hv hcl => ?_) (fun _ _ _ _ _ h _ => h.elim)
  refine k_catch (own := RL) (name := "java/lang/IndexOutOfBoundsException") hown hex [] ⟨0, 10, 13, 19⟩ [⟨0, 10, 17, 68⟩, ⟨0, 10, 21, 41⟩] rfl (fun z hz => by simp at hz) (by decide) (by decide) (hts _ (wo_c_L_editionAt_in _ (List.mem_of_getElem? (i := 0) rfl))) hE (by decide) hh hq hv hcl ?_
  refine W.eq (g2 := F0 m 13 ls [.ref q9]) rfl ?_
  refine lv_astore (lv' := [(4, .ref q9), (0, .ref pa), (1, .int a1), (2, .int a2), (3, .ref po)]) hx hb dL_editionAt_13 hl (by decide) rfl (fun ls hl => ?_)
  refine lv_iconst (v := 1) hx hb dL_editionAt_15 (by decide) ?_
  exact k_endi hx hb hr hlocks hh ⟨rfl, rfl, rfl⟩ [0] [0] rfl rfl rfl (Nat.le_of_ble_eq_true rfl) (Nat.le_of_ble_eq_true rfl) dL_editionAt_16
def wo_c_L_sum : List Cond := [Cond.classLink RL 19 "java/lang/IndexOutOfBoundsException"]
def wk_c_L_sum : List Cond := Cond.codeWith yL_sum cL_sum 5 (some .int) [(0, 10, 13, 19), (0, 10, 17, 21)] :: (wo_c_L_sum ++ (wsV RL 122 RX6 yX6_sum wk_c_X6_sum))
theorem wo_c_L_sum_in : ∀ w ∈ wo_c_L_sum, w ∈ wk_c_L_sum := fun w h => List.mem_cons_of_mem _ (List.mem_append_left _ h)
theorem gi_c_L_sum_0 : GoodIn wk_c_L_sum (wsV RL 122 RX6 yX6_sum wk_c_X6_sum) := fun w h => ⟨List.mem_cons_of_mem _ (List.mem_append_right _ h), good_of_word (kg_V gk_c_X6_sum w h)⟩
theorem gk_c_L_sum : ∀ w ∈ wk_c_L_sum, goodWord w = true := List.forall_mem_cons.mpr ⟨rfl, (List.forall_mem_append.mpr ⟨(show ∀ w ∈ wo_c_L_sum, goodWord w = true by decide +kernel), (kg_V gk_c_X6_sum)⟩)⟩
set_option maxHeartbeats 4000000 in
set_option maxRecDepth 100000 in
theorem c_L_sum (l : Launch) (hst : l.stackTraces = false) (D : va_G) (e0 : kE) (pa : Nat) (prl : Nat) (ppc : Nat) (ppg : Nat) (ppl : Nat) (ped : Nat) (a1 : Int32) (a2 : Int32) (po : Nat) (py1 : ClassId) (pof : Nat → Int64)  : kM l yL_sum wk_c_L_sum 9 165 1 6 D kStr e0 [(py1, .long)] [(pa, .inr (11, [.ref prl, .int 0, .ref ppc, .int 0, .ref ppg, .ref ppl, .ref ped, .int 0])), (po, .inl (py1, 1, .inr (.inl pof)))] [.ref pa, .int a1, .int a2, .ref po] (fun v w t => v = some (.int 1) ∧ w = [(po, .inl (py1, 1, .inr (.inl pof)))] ∧ t = [(py1, .long)]) (fun _ => False) := by
  refine k_ofX (cc := cL_sum) (maxL := 5) (ret := (some .int)) (hhs := [(0, 10, 13, 19), (0, 10, 17, 21)]) (by decide) rfl (Nat.le_of_ble_eq_true rfl) ?_
  intro p e s m args below meth c A ls hx hb hr hts hown hlocks hml hex hh hl
  have hown : s.vm.findClass RL = some m.cls := hown
  have hl : lv_has ls 5 [(0, .ref pa), (1, .int a1), (2, .int a2), (3, .ref po)] := hl
  refine lv_aload_n hx hb dL_sum_0 rfl (lv_at hl 3 rfl) ?_
  refine lv_iconst (v := 0) hx hb dL_sum_1 (by decide) ?_
  refine lv_aload_n hx hb dL_sum_2 rfl (lv_at hl 0 rfl) ?_
  refine lv_iload_n hx hb dL_sum_3 rfl (lv_at hl 1 rfl) ?_
  refine lv_iload_n hx hb dL_sum_4 rfl (lv_at hl 2 rfl) ?_
  refine k_callV (C := RX6) (T := TX6) (N := 8) (ci := 11) (q0 := 0) (wr := [(po, .inl (py1, 1, .inr (.inl pof)))]) (rest := [.int 0, .ref po]) (own := RL) ⟨hx, hb, hml, hown, hts⟩ (c_X6_sum l hst D e0 pa prl ppc ppg ppl ped a1 a2 ) (cwV 2 hts gi_c_L_sum_0 rfl rfl rfl (by decide +kernel) ⟨Nat.le_of_ble_eq_true rfl, Nat.le_of_ble_eq_true rfl⟩) hh rfl rfl [0] [1] [] rfl rfl rfl rfl (by decide) rfl rfl hl rfl (Nat.le_of_ble_eq_true rfl) dL_sum_5 ⟨Nat.le_of_ble_eq_true rfl, (Nat.le_of_ble_eq_true rfl)⟩ (fun E ce q9 H locs hE hh hq hv hcl => ?_) (fun _ _ _ _ _ h _ => h.elim)
  refine k_catch (own := RL) (name := "java/lang/IndexOutOfBoundsException") hown hex [] ⟨0, 10, 13, 19⟩ [⟨0, 10, 17, 21⟩] rfl (fun z hz => by simp at hz) (by decide) (by decide) (hts _ (wo_c_L_sum_in _ (List.mem_of_getElem? (i := 0) rfl))) hE (by decide) hh hq hv hcl ?_
  refine W.eq (g2 := F0 m 13 ls [.ref q9]) rfl ?_
  refine lv_astore (lv' := [(4, .ref q9), (0, .ref pa), (1, .int a1), (2, .int a2), (3, .ref po)]) hx hb dL_sum_13 hl (by decide) rfl (fun ls hl => ?_)
  refine lv_iconst (v := 1) hx hb dL_sum_15 (by decide) ?_
  exact k_endi hx hb hr hlocks hh ⟨rfl, rfl, rfl⟩ [0] [0] rfl rfl rfl (Nat.le_of_ble_eq_true rfl) (Nat.le_of_ble_eq_true rfl) dL_sum_16
def wo_c_L_match : List Cond := [Cond.classLink RL 19 "java/lang/IndexOutOfBoundsException"]
def wk_c_L_match : List Cond := Cond.codeWith yL_match cL_match 5 (some .int) [(0, 10, 13, 19), (0, 10, 17, 68)] :: (wo_c_L_match ++ (wsV RL 125 RX6 yX6_match wk_c_X6_match))
theorem wo_c_L_match_in : ∀ w ∈ wo_c_L_match, w ∈ wk_c_L_match := fun w h => List.mem_cons_of_mem _ (List.mem_append_left _ h)
theorem gi_c_L_match_0 : GoodIn wk_c_L_match (wsV RL 125 RX6 yX6_match wk_c_X6_match) := fun w h => ⟨List.mem_cons_of_mem _ (List.mem_append_right _ h), good_of_word (kg_V gk_c_X6_match w h)⟩
theorem gk_c_L_match : ∀ w ∈ wk_c_L_match, goodWord w = true := List.forall_mem_cons.mpr ⟨rfl, (List.forall_mem_append.mpr ⟨(show ∀ w ∈ wo_c_L_match, goodWord w = true by decide +kernel), (kg_V gk_c_X6_match)⟩)⟩
set_option maxHeartbeats 4000000 in
set_option maxRecDepth 100000 in
theorem c_L_match (l : Launch) (hst : l.stackTraces = false) (D : va_G) (e0 : kE) (pa : Nat) (prl : Nat) (ppc : Nat) (ppg : Nat) (ppl : Nat) (ped : Nat) (a1 : Int32) (a2 : Int32) (po : Nat) (py1 : ClassId) (pof : Nat → Int64)  : kM l yL_match wk_c_L_match 9 164 1 6 D kStr e0 [(py1, .long)] [(pa, .inr (11, [.ref prl, .int 0, .ref ppc, .int 0, .ref ppg, .ref ppl, .ref ped, .int 0])), (po, .inl (py1, 1, .inr (.inl pof)))] [.ref pa, .int a1, .int a2, .ref po] (fun v w t => v = some (.int 1) ∧ w = [(po, .inl (py1, 1, .inr (.inl pof)))] ∧ t = [(py1, .long)]) (fun _ => False) := by
  refine k_ofX (cc := cL_match) (maxL := 5) (ret := (some .int)) (hhs := [(0, 10, 13, 19), (0, 10, 17, 68)]) (by decide) rfl (Nat.le_of_ble_eq_true rfl) ?_
  intro p e s m args below meth c A ls hx hb hr hts hown hlocks hml hex hh hl
  have hown : s.vm.findClass RL = some m.cls := hown
  have hl : lv_has ls 5 [(0, .ref pa), (1, .int a1), (2, .int a2), (3, .ref po)] := hl
  refine lv_aload_n hx hb dL_match_0 rfl (lv_at hl 3 rfl) ?_
  refine lv_iconst (v := 0) hx hb dL_match_1 (by decide) ?_
  refine lv_aload_n hx hb dL_match_2 rfl (lv_at hl 0 rfl) ?_
  refine lv_iload_n hx hb dL_match_3 rfl (lv_at hl 1 rfl) ?_
  refine lv_iload_n hx hb dL_match_4 rfl (lv_at hl 2 rfl) ?_
  refine k_callV (C := RX6) (T := TX6) (N := 8) (ci := 11) (q0 := 0) (wr := [(po, .inl (py1, 1, .inr (.inl pof)))]) (rest := [.int 0, .ref po]) (own := RL) ⟨hx, hb, hml, hown, hts⟩ (c_X6_match l hst D e0 pa prl ppc ppg ppl ped a1 a2 ) (cwV 2 hts gi_c_L_match_0 rfl rfl rfl (by decide +kernel) ⟨Nat.le_of_ble_eq_true rfl, Nat.le_of_ble_eq_true rfl⟩) hh rfl rfl [0] [1] [] rfl rfl rfl rfl (by decide) rfl rfl hl rfl (Nat.le_of_ble_eq_true rfl) dL_match_5 ⟨Nat.le_of_ble_eq_true rfl, (Nat.le_of_ble_eq_true rfl)⟩ (fun E ce q9 H locs hE hh hq hv hcl => ?_) (fun _ _ _ _ _ h _ => h.elim)
  refine k_catch (own := RL) (name := "java/lang/IndexOutOfBoundsException") hown hex [] ⟨0, 10, 13, 19⟩ [⟨0, 10, 17, 68⟩] rfl (fun z hz => by simp at hz) (by decide) (by decide) (hts _ (wo_c_L_match_in _ (List.mem_of_getElem? (i := 0) rfl))) hE (by decide) hh hq hv hcl ?_
  refine W.eq (g2 := F0 m 13 ls [.ref q9]) rfl ?_
  refine lv_astore (lv' := [(4, .ref q9), (0, .ref pa), (1, .int a1), (2, .int a2), (3, .ref po)]) hx hb dL_match_13 hl (by decide) rfl (fun ls hl => ?_)
  refine lv_iconst (v := 1) hx hb dL_match_15 (by decide) ?_
  exact k_endi hx hb hr hlocks hh ⟨rfl, rfl, rfl⟩ [0] [0] rfl rfl rfl (Nat.le_of_ble_eq_true rfl) (Nat.le_of_ble_eq_true rfl) dL_match_16
def wo_c_L_difference : List Cond := [Cond.classLink RL 19 "java/lang/IndexOutOfBoundsException"]
def wk_c_L_difference : List Cond := Cond.codeWith yL_difference cL_difference 5 (some .int) [(0, 10, 13, 19)] :: (wo_c_L_difference ++ (wsV RL 128 RX6 yX6_difference wk_c_X6_difference))
theorem wo_c_L_difference_in : ∀ w ∈ wo_c_L_difference, w ∈ wk_c_L_difference := fun w h => List.mem_cons_of_mem _ (List.mem_append_left _ h)
theorem gi_c_L_difference_0 : GoodIn wk_c_L_difference (wsV RL 128 RX6 yX6_difference wk_c_X6_difference) := fun w h => ⟨List.mem_cons_of_mem _ (List.mem_append_right _ h), good_of_word (kg_V gk_c_X6_difference w h)⟩
theorem gk_c_L_difference : ∀ w ∈ wk_c_L_difference, goodWord w = true := List.forall_mem_cons.mpr ⟨rfl, (List.forall_mem_append.mpr ⟨(show ∀ w ∈ wo_c_L_difference, goodWord w = true by decide +kernel), (kg_V gk_c_X6_difference)⟩)⟩
set_option maxHeartbeats 4000000 in
set_option maxRecDepth 100000 in
theorem c_L_difference (l : Launch) (hst : l.stackTraces = false) (D : va_G) (e0 : kE) (pa : Nat) (prl : Nat) (ppc : Nat) (ppg : Nat) (ppl : Nat) (ped : Nat) (a1 : Int32) (a2 : Int32) (po : Nat) (py1 : ClassId) (pof : Nat → Int64)  : kM l yL_difference wk_c_L_difference 9 164 1 6 D kStr e0 [(py1, .long)] [(pa, .inr (11, [.ref prl, .int 0, .ref ppc, .int 0, .ref ppg, .ref ppl, .ref ped, .int 0])), (po, .inl (py1, 1, .inr (.inl pof)))] [.ref pa, .int a1, .int a2, .ref po] (fun v w t => v = some (.int 1) ∧ w = [(po, .inl (py1, 1, .inr (.inl pof)))] ∧ t = [(py1, .long)]) (fun _ => False) := by
  refine k_ofX (cc := cL_difference) (maxL := 5) (ret := (some .int)) (hhs := [(0, 10, 13, 19)]) (by decide) rfl (Nat.le_of_ble_eq_true rfl) ?_
  intro p e s m args below meth c A ls hx hb hr hts hown hlocks hml hex hh hl
  have hown : s.vm.findClass RL = some m.cls := hown
  have hl : lv_has ls 5 [(0, .ref pa), (1, .int a1), (2, .int a2), (3, .ref po)] := hl
  refine lv_aload_n hx hb dL_difference_0 rfl (lv_at hl 3 rfl) ?_
  refine lv_iconst (v := 0) hx hb dL_difference_1 (by decide) ?_
  refine lv_aload_n hx hb dL_difference_2 rfl (lv_at hl 0 rfl) ?_
  refine lv_iload_n hx hb dL_difference_3 rfl (lv_at hl 1 rfl) ?_
  refine lv_iload_n hx hb dL_difference_4 rfl (lv_at hl 2 rfl) ?_
  refine k_callV (C := RX6) (T := TX6) (N := 8) (ci := 11) (q0 := 0) (wr := [(po, .inl (py1, 1, .inr (.inl pof)))]) (rest := [.int 0, .ref po]) (own := RL) ⟨hx, hb, hml, hown, hts⟩ (c_X6_difference l hst D e0 pa prl ppc ppg ppl ped a1 a2 ) (cwV 2 hts gi_c_L_difference_0 rfl rfl rfl (by decide +kernel) ⟨Nat.le_of_ble_eq_true rfl, Nat.le_of_ble_eq_true rfl⟩) hh rfl rfl [0] [1] [] rfl rfl rfl rfl (by decide) rfl rfl hl rfl (Nat.le_of_ble_eq_true rfl) dL_difference_5 ⟨Nat.le_of_ble_eq_true rfl, (Nat.le_of_ble_eq_true rfl)⟩ (fun E ce q9 H locs hE hh hq hv hcl => ?_) (fun _ _ _ _ _ h _ => h.elim)
  refine k_catch (own := RL) (name := "java/lang/IndexOutOfBoundsException") hown hex [] ⟨0, 10, 13, 19⟩ [] rfl (fun z hz => by simp at hz) (by decide) (by decide) (hts _ (wo_c_L_difference_in _ (List.mem_of_getElem? (i := 0) rfl))) hE (by decide) hh hq hv hcl ?_
  refine W.eq (g2 := F0 m 13 ls [.ref q9]) rfl ?_
  refine lv_astore (lv' := [(4, .ref q9), (0, .ref pa), (1, .int a1), (2, .int a2), (3, .ref po)]) hx hb dL_difference_13 hl (by decide) rfl (fun ls hl => ?_)
  refine lv_iconst (v := 1) hx hb dL_difference_15 (by decide) ?_
  exact k_endi hx hb hr hlocks hh ⟨rfl, rfl, rfl⟩ [0] [0] rfl rfl rfl (Nat.le_of_ble_eq_true rfl) (Nat.le_of_ble_eq_true rfl) dL_difference_16
def wo_c_L_differsAt : List Cond := [Cond.classLink RL 19 "java/lang/IndexOutOfBoundsException"]
def wk_c_L_differsAt : List Cond := Cond.codeWith yL_differsAt cL_differsAt 5 (some .int) [(0, 10, 13, 19), (0, 10, 17, 68)] :: (wo_c_L_differsAt ++ (wsV RL 132 RX6 yX6_differsAt wk_c_X6_differsAt))
theorem wo_c_L_differsAt_in : ∀ w ∈ wo_c_L_differsAt, w ∈ wk_c_L_differsAt := fun w h => List.mem_cons_of_mem _ (List.mem_append_left _ h)
theorem gi_c_L_differsAt_0 : GoodIn wk_c_L_differsAt (wsV RL 132 RX6 yX6_differsAt wk_c_X6_differsAt) := fun w h => ⟨List.mem_cons_of_mem _ (List.mem_append_right _ h), good_of_word (kg_V gk_c_X6_differsAt w h)⟩
theorem gk_c_L_differsAt : ∀ w ∈ wk_c_L_differsAt, goodWord w = true := List.forall_mem_cons.mpr ⟨rfl, (List.forall_mem_append.mpr ⟨(show ∀ w ∈ wo_c_L_differsAt, goodWord w = true by decide +kernel), (kg_V gk_c_X6_differsAt)⟩)⟩
set_option maxHeartbeats 4000000 in
set_option maxRecDepth 100000 in
theorem c_L_differsAt (l : Launch) (hst : l.stackTraces = false) (D : va_G) (e0 : kE) (pa : Nat) (prl : Nat) (ppc : Nat) (ppg : Nat) (ppl : Nat) (ped : Nat) (a1 : Int32) (a2 : Int32) (po : Nat) (py1 : ClassId) (pof : Nat → Int64)  : kM l yL_differsAt wk_c_L_differsAt 9 167 1 6 D kStr e0 [(py1, .long)] [(pa, .inr (11, [.ref prl, .int 0, .ref ppc, .int 0, .ref ppg, .ref ppl, .ref ped, .int 0])), (po, .inl (py1, 1, .inr (.inl pof)))] [.ref pa, .int a1, .int a2, .ref po] (fun v w t => v = some (.int 1) ∧ w = [(po, .inl (py1, 1, .inr (.inl pof)))] ∧ t = [(py1, .long)]) (fun _ => False) := by
  refine k_ofX (cc := cL_differsAt) (maxL := 5) (ret := (some .int)) (hhs := [(0, 10, 13, 19), (0, 10, 17, 68)]) (by decide) rfl (Nat.le_of_ble_eq_true rfl) ?_
  intro p e s m args below meth c A ls hx hb hr hts hown hlocks hml hex hh hl
  have hown : s.vm.findClass RL = some m.cls := hown
  have hl : lv_has ls 5 [(0, .ref pa), (1, .int a1), (2, .int a2), (3, .ref po)] := hl
  refine lv_aload_n hx hb dL_differsAt_0 rfl (lv_at hl 3 rfl) ?_
  refine lv_iconst (v := 0) hx hb dL_differsAt_1 (by decide) ?_
  refine lv_aload_n hx hb dL_differsAt_2 rfl (lv_at hl 0 rfl) ?_
  refine lv_iload_n hx hb dL_differsAt_3 rfl (lv_at hl 1 rfl) ?_
  refine lv_iload_n hx hb dL_differsAt_4 rfl (lv_at hl 2 rfl) ?_
  refine k_callV (C := RX6) (T := TX6) (N := 8) (ci := 11) (q0 := 0) (wr := [(po, .inl (py1, 1, .inr (.inl pof)))]) (rest := [.int 0, .ref po]) (own := RL) ⟨hx, hb, hml, hown, hts⟩ (c_X6_differsAt l hst D e0 pa prl ppc ppg ppl ped a1 a2 ) (cwV 2 hts gi_c_L_differsAt_0 rfl rfl rfl (by decide +kernel) ⟨Nat.le_of_ble_eq_true rfl, Nat.le_of_ble_eq_true rfl⟩) hh rfl rfl [0] [1] [] rfl rfl rfl rfl (by decide) rfl rfl hl rfl (Nat.le_of_ble_eq_true rfl) dL_differsAt_5 ⟨Nat.le_of_ble_eq_true rfl, (Nat.le_of_ble_eq_true rfl)⟩ (fun E ce q9 H locs hE hh hq hv hcl => ?_) (fun _ _ _ _ _ h _ => h.elim)
  refine k_catch (own := RL) (name := "java/lang/IndexOutOfBoundsException") hown hex [] ⟨0, 10, 13, 19⟩ [⟨0, 10, 17, 68⟩] rfl (fun z hz => by simp at hz) (by decide) (by decide) (hts _ (wo_c_L_differsAt_in _ (List.mem_of_getElem? (i := 0) rfl))) hE (by decide) hh hq hv hcl ?_
  refine W.eq (g2 := F0 m 13 ls [.ref q9]) rfl ?_
  refine lv_astore (lv' := [(4, .ref q9), (0, .ref pa), (1, .int a1), (2, .int a2), (3, .ref po)]) hx hb dL_differsAt_13 hl (by decide) rfl (fun ls hl => ?_)
  refine lv_iconst (v := 1) hx hb dL_differsAt_15 (by decide) ?_
  exact k_endi hx hb hr hlocks hh ⟨rfl, rfl, rfl⟩ [0] [0] rfl rfl rfl (Nat.le_of_ble_eq_true rfl) (Nat.le_of_ble_eq_true rfl) dL_differsAt_16
def wo_c_L_damage : List Cond := [Cond.classLink RL 19 "java/lang/IndexOutOfBoundsException"]
def wk_c_L_damage : List Cond := Cond.codeWith yL_damage cL_damage 6 (some .int) [(0, 12, 15, 19), (0, 12, 19, 21)] :: (wo_c_L_damage ++ (wsV RL 135 RX6 yX6_damage wk_c_X6_damage))
theorem wo_c_L_damage_in : ∀ w ∈ wo_c_L_damage, w ∈ wk_c_L_damage := fun w h => List.mem_cons_of_mem _ (List.mem_append_left _ h)
theorem gi_c_L_damage_0 : GoodIn wk_c_L_damage (wsV RL 135 RX6 yX6_damage wk_c_X6_damage) := fun w h => ⟨List.mem_cons_of_mem _ (List.mem_append_right _ h), good_of_word (kg_V gk_c_X6_damage w h)⟩
theorem gk_c_L_damage : ∀ w ∈ wk_c_L_damage, goodWord w = true := List.forall_mem_cons.mpr ⟨rfl, (List.forall_mem_append.mpr ⟨(show ∀ w ∈ wo_c_L_damage, goodWord w = true by decide +kernel), (kg_V gk_c_X6_damage)⟩)⟩
set_option maxHeartbeats 4000000 in
set_option maxRecDepth 100000 in
theorem c_L_damage (l : Launch) (hst : l.stackTraces = false) (D : va_G) (e0 : kE) (pa : Nat) (prl : Nat) (ppc : Nat) (ppg : Nat) (ppl : Nat) (ped : Nat) (a1 : Int32) (a2 : Int32) (a3 : Int32) (po : Nat) (py1 : ClassId) (pof : Nat → Int64)  : kM l yL_damage wk_c_L_damage 9 166 1 6 D kStr e0 [(py1, .long)] [(pa, .inr (11, [.ref prl, .int 0, .ref ppc, .int 0, .ref ppg, .ref ppl, .ref ped, .int 0])), (po, .inl (py1, 1, .inr (.inl pof)))] [.ref pa, .int a1, .int a2, .int a3, .ref po] (fun v w t => v = some (.int 1) ∧ w = [(po, .inl (py1, 1, .inr (.inl pof)))] ∧ t = [(py1, .long)]) (fun _ => False) := by
  refine k_ofX (cc := cL_damage) (maxL := 6) (ret := (some .int)) (hhs := [(0, 12, 15, 19), (0, 12, 19, 21)]) (by decide) rfl (Nat.le_of_ble_eq_true rfl) ?_
  intro p e s m args below meth c A ls hx hb hr hts hown hlocks hml hex hh hl
  have hown : s.vm.findClass RL = some m.cls := hown
  have hl : lv_has ls 6 [(0, .ref pa), (1, .int a1), (2, .int a2), (3, .int a3), (4, .ref po)] := hl
  refine lv_aload hx hb dL_damage_0 (lv_at hl 4 rfl) ?_
  refine lv_iconst (v := 0) hx hb dL_damage_2 (by decide) ?_
  refine lv_aload_n hx hb dL_damage_3 rfl (lv_at hl 0 rfl) ?_
  refine lv_iload_n hx hb dL_damage_4 rfl (lv_at hl 1 rfl) ?_
  refine lv_iload_n hx hb dL_damage_5 rfl (lv_at hl 2 rfl) ?_
  refine lv_iload_n hx hb dL_damage_6 rfl (lv_at hl 3 rfl) ?_
  refine k_callV (C := RX6) (T := TX6) (N := 8) (ci := 11) (q0 := 0) (wr := [(po, .inl (py1, 1, .inr (.inl pof)))]) (rest := [.int 0, .ref po]) (own := RL) ⟨hx, hb, hml, hown, hts⟩ (c_X6_damage l hst D e0 pa prl ppc ppg ppl ped a1 a2 a3 ) (cwV 3 hts gi_c_L_damage_0 rfl rfl rfl (by decide +kernel) ⟨Nat.le_of_ble_eq_true rfl, Nat.le_of_ble_eq_true rfl⟩) hh rfl rfl [0] [1] [] rfl rfl rfl rfl (by decide) rfl rfl hl rfl (Nat.le_of_ble_eq_true rfl) dL_damage_7 ⟨Nat.le_of_ble_eq_true rfl, (Nat.le_of_ble_eq_true rfl)⟩ (fun E ce q9 H locs hE hh hq hv hcl => ?_) (fun _ _ _ _ _ h _ => h.elim)
  refine k_catch (own := RL) (name := "java/lang/IndexOutOfBoundsException") hown hex [] ⟨0, 12, 15, 19⟩ [⟨0, 12, 19, 21⟩] rfl (fun z hz => by simp at hz) (by decide) (by decide) (hts _ (wo_c_L_damage_in _ (List.mem_of_getElem? (i := 0) rfl))) hE (by decide) hh hq hv hcl ?_
  refine W.eq (g2 := F0 m 15 ls [.ref q9]) rfl ?_
  refine lv_astore (lv' := [(5, .ref q9), (0, .ref pa), (1, .int a1), (2, .int a2), (3, .int a3), (4, .ref po)]) hx hb dL_damage_15 hl (by decide) rfl (fun ls hl => ?_)
  refine lv_iconst (v := 1) hx hb dL_damage_17 (by decide) ?_
  exact k_endi hx hb hr hlocks hh ⟨rfl, rfl, rfl⟩ [0] [0] rfl rfl rfl (Nat.le_of_ble_eq_true rfl) (Nat.le_of_ble_eq_true rfl) dL_damage_18
def wo_c_L_repair : List Cond := [Cond.classLink RL 19 "java/lang/IndexOutOfBoundsException"]
def wk_c_L_repair : List Cond := Cond.codeWith yL_repair cL_repair 5 (some .int) [(0, 10, 13, 19), (0, 10, 17, 68)] :: (wo_c_L_repair ++ (wsV RL 138 RX6 yX6_repair wk_c_X6_repair))
theorem wo_c_L_repair_in : ∀ w ∈ wo_c_L_repair, w ∈ wk_c_L_repair := fun w h => List.mem_cons_of_mem _ (List.mem_append_left _ h)
theorem gi_c_L_repair_0 : GoodIn wk_c_L_repair (wsV RL 138 RX6 yX6_repair wk_c_X6_repair) := fun w h => ⟨List.mem_cons_of_mem _ (List.mem_append_right _ h), good_of_word (kg_V gk_c_X6_repair w h)⟩
theorem gk_c_L_repair : ∀ w ∈ wk_c_L_repair, goodWord w = true := List.forall_mem_cons.mpr ⟨rfl, (List.forall_mem_append.mpr ⟨(show ∀ w ∈ wo_c_L_repair, goodWord w = true by decide +kernel), (kg_V gk_c_X6_repair)⟩)⟩
set_option maxHeartbeats 4000000 in
set_option maxRecDepth 100000 in
theorem c_L_repair (l : Launch) (hst : l.stackTraces = false) (D : va_G) (e0 : kE) (pa : Nat) (prl : Nat) (ppc : Nat) (ppg : Nat) (ppl : Nat) (ped : Nat) (a1 : Int32) (a2 : Int32) (po : Nat) (py1 : ClassId) (pof : Nat → Int64)  : kM l yL_repair wk_c_L_repair 9 167 1 6 D kStr e0 [(py1, .long)] [(pa, .inr (11, [.ref prl, .int 0, .ref ppc, .int 0, .ref ppg, .ref ppl, .ref ped, .int 0])), (po, .inl (py1, 1, .inr (.inl pof)))] [.ref pa, .int a1, .int a2, .ref po] (fun v w t => v = some (.int 1) ∧ w = [(po, .inl (py1, 1, .inr (.inl pof)))] ∧ t = [(py1, .long)]) (fun _ => False) := by
  refine k_ofX (cc := cL_repair) (maxL := 5) (ret := (some .int)) (hhs := [(0, 10, 13, 19), (0, 10, 17, 68)]) (by decide) rfl (Nat.le_of_ble_eq_true rfl) ?_
  intro p e s m args below meth c A ls hx hb hr hts hown hlocks hml hex hh hl
  have hown : s.vm.findClass RL = some m.cls := hown
  have hl : lv_has ls 5 [(0, .ref pa), (1, .int a1), (2, .int a2), (3, .ref po)] := hl
  refine lv_aload_n hx hb dL_repair_0 rfl (lv_at hl 3 rfl) ?_
  refine lv_iconst (v := 0) hx hb dL_repair_1 (by decide) ?_
  refine lv_aload_n hx hb dL_repair_2 rfl (lv_at hl 0 rfl) ?_
  refine lv_iload_n hx hb dL_repair_3 rfl (lv_at hl 1 rfl) ?_
  refine lv_iload_n hx hb dL_repair_4 rfl (lv_at hl 2 rfl) ?_
  refine k_callV (C := RX6) (T := TX6) (N := 8) (ci := 11) (q0 := 0) (wr := [(po, .inl (py1, 1, .inr (.inl pof)))]) (rest := [.int 0, .ref po]) (own := RL) ⟨hx, hb, hml, hown, hts⟩ (c_X6_repair l hst D e0 pa prl ppc ppg ppl ped a1 a2 ) (cwV 2 hts gi_c_L_repair_0 rfl rfl rfl (by decide +kernel) ⟨Nat.le_of_ble_eq_true rfl, Nat.le_of_ble_eq_true rfl⟩) hh rfl rfl [0] [1] [] rfl rfl rfl rfl (by decide) rfl rfl hl rfl (Nat.le_of_ble_eq_true rfl) dL_repair_5 ⟨Nat.le_of_ble_eq_true rfl, (Nat.le_of_ble_eq_true rfl)⟩ (fun E ce q9 H locs hE hh hq hv hcl => ?_) (fun _ _ _ _ _ h _ => h.elim)
  refine k_catch (own := RL) (name := "java/lang/IndexOutOfBoundsException") hown hex [] ⟨0, 10, 13, 19⟩ [⟨0, 10, 17, 68⟩] rfl (fun z hz => by simp at hz) (by decide) (by decide) (hts _ (wo_c_L_repair_in _ (List.mem_of_getElem? (i := 0) rfl))) hE (by decide) hh hq hv hcl ?_
  refine W.eq (g2 := F0 m 13 ls [.ref q9]) rfl ?_
  refine lv_astore (lv' := [(4, .ref q9), (0, .ref pa), (1, .int a1), (2, .int a2), (3, .ref po)]) hx hb dL_repair_13 hl (by decide) rfl (fun ls hl => ?_)
  refine lv_iconst (v := 1) hx hb dL_repair_15 (by decide) ?_
  exact k_endi hx hb hr hlocks hh ⟨rfl, rfl, rfl⟩ [0] [0] rfl rfl rfl (Nat.le_of_ble_eq_true rfl) (Nat.le_of_ble_eq_true rfl) dL_repair_16
def wo_c_L_vote : List Cond := [Cond.classLink RL 19 "java/lang/IndexOutOfBoundsException"]
def wk_c_L_vote : List Cond := Cond.codeWith yL_vote cL_vote 6 (some .int) [(0, 12, 15, 19), (0, 12, 19, 21)] :: (wo_c_L_vote ++ (wsV RL 157 RX6 yX6_vote wk_c_X6_vote))
theorem wo_c_L_vote_in : ∀ w ∈ wo_c_L_vote, w ∈ wk_c_L_vote := fun w h => List.mem_cons_of_mem _ (List.mem_append_left _ h)
theorem gi_c_L_vote_0 : GoodIn wk_c_L_vote (wsV RL 157 RX6 yX6_vote wk_c_X6_vote) := fun w h => ⟨List.mem_cons_of_mem _ (List.mem_append_right _ h), good_of_word (kg_V gk_c_X6_vote w h)⟩
theorem gk_c_L_vote : ∀ w ∈ wk_c_L_vote, goodWord w = true := List.forall_mem_cons.mpr ⟨rfl, (List.forall_mem_append.mpr ⟨(show ∀ w ∈ wo_c_L_vote, goodWord w = true by decide +kernel), (kg_V gk_c_X6_vote)⟩)⟩
set_option maxHeartbeats 4000000 in
set_option maxRecDepth 100000 in
theorem c_L_vote (l : Launch) (hst : l.stackTraces = false) (D : va_G) (e0 : kE) (pa : Nat) (prl : Nat) (ppc : Nat) (ppg : Nat) (ppl : Nat) (ped : Nat) (a1 : Int32) (a2 : Int32) (a3 : Int32) (po : Nat) (py1 : ClassId) (pof : Nat → Int64)  : kM l yL_vote wk_c_L_vote 9 166 1 6 D kStr e0 [(py1, .long)] [(pa, .inr (11, [.ref prl, .int 0, .ref ppc, .int 0, .ref ppg, .ref ppl, .ref ped, .int 0])), (po, .inl (py1, 1, .inr (.inl pof)))] [.ref pa, .int a1, .int a2, .int a3, .ref po] (fun v w t => v = some (.int 1) ∧ w = [(po, .inl (py1, 1, .inr (.inl pof)))] ∧ t = [(py1, .long)]) (fun _ => False) := by
  refine k_ofX (cc := cL_vote) (maxL := 6) (ret := (some .int)) (hhs := [(0, 12, 15, 19), (0, 12, 19, 21)]) (by decide) rfl (Nat.le_of_ble_eq_true rfl) ?_
  intro p e s m args below meth c A ls hx hb hr hts hown hlocks hml hex hh hl
  have hown : s.vm.findClass RL = some m.cls := hown
  have hl : lv_has ls 6 [(0, .ref pa), (1, .int a1), (2, .int a2), (3, .int a3), (4, .ref po)] := hl
  refine lv_aload hx hb dL_vote_0 (lv_at hl 4 rfl) ?_
  refine lv_iconst (v := 0) hx hb dL_vote_2 (by decide) ?_
  refine lv_aload_n hx hb dL_vote_3 rfl (lv_at hl 0 rfl) ?_
  refine lv_iload_n hx hb dL_vote_4 rfl (lv_at hl 1 rfl) ?_
  refine lv_iload_n hx hb dL_vote_5 rfl (lv_at hl 2 rfl) ?_
  refine lv_iload_n hx hb dL_vote_6 rfl (lv_at hl 3 rfl) ?_
  refine k_callV (C := RX6) (T := TX6) (N := 8) (ci := 11) (q0 := 0) (wr := [(po, .inl (py1, 1, .inr (.inl pof)))]) (rest := [.int 0, .ref po]) (own := RL) ⟨hx, hb, hml, hown, hts⟩ (c_X6_vote l hst D e0 pa prl ppc ppg ppl ped a1 a2 a3 ) (cwV 3 hts gi_c_L_vote_0 rfl rfl rfl (by decide +kernel) ⟨Nat.le_of_ble_eq_true rfl, Nat.le_of_ble_eq_true rfl⟩) hh rfl rfl [0] [1] [] rfl rfl rfl rfl (by decide) rfl rfl hl rfl (Nat.le_of_ble_eq_true rfl) dL_vote_7 ⟨Nat.le_of_ble_eq_true rfl, (Nat.le_of_ble_eq_true rfl)⟩ (fun E ce q9 H locs hE hh hq hv hcl => ?_) (fun _ _ _ _ _ h _ => h.elim)
  refine k_catch (own := RL) (name := "java/lang/IndexOutOfBoundsException") hown hex [] ⟨0, 12, 15, 19⟩ [⟨0, 12, 19, 21⟩] rfl (fun z hz => by simp at hz) (by decide) (by decide) (hts _ (wo_c_L_vote_in _ (List.mem_of_getElem? (i := 0) rfl))) hE (by decide) hh hq hv hcl ?_
  refine W.eq (g2 := F0 m 15 ls [.ref q9]) rfl ?_
  refine lv_astore (lv' := [(5, .ref q9), (0, .ref pa), (1, .int a1), (2, .int a2), (3, .int a3), (4, .ref po)]) hx hb dL_vote_15 hl (by decide) rfl (fun ls hl => ?_)
  refine lv_iconst (v := 1) hx hb dL_vote_17 (by decide) ?_
  exact k_endi hx hb hr hlocks hh ⟨rfl, rfl, rfl⟩ [0] [0] rfl rfl rfl (Nat.le_of_ble_eq_true rfl) (Nat.le_of_ble_eq_true rfl) dL_vote_18
def wo_c_L_favourite : List Cond := [Cond.classLink RL 68 "java/util/NoSuchElementException"]
def wk_c_L_favourite : List Cond := Cond.codeWith yL_favourite cL_favourite 3 (some .int) [(0, 8, 11, 68)] :: (wo_c_L_favourite ++ (wsV RL 160 RX6 yX6_favourite wk_c_X6_favourite))
theorem wo_c_L_favourite_in : ∀ w ∈ wo_c_L_favourite, w ∈ wk_c_L_favourite := fun w h => List.mem_cons_of_mem _ (List.mem_append_left _ h)
theorem gi_c_L_favourite_0 : GoodIn wk_c_L_favourite (wsV RL 160 RX6 yX6_favourite wk_c_X6_favourite) := fun w h => ⟨List.mem_cons_of_mem _ (List.mem_append_right _ h), good_of_word (kg_V gk_c_X6_favourite w h)⟩
theorem gk_c_L_favourite : ∀ w ∈ wk_c_L_favourite, goodWord w = true := List.forall_mem_cons.mpr ⟨rfl, (List.forall_mem_append.mpr ⟨(show ∀ w ∈ wo_c_L_favourite, goodWord w = true by decide +kernel), (kg_V gk_c_X6_favourite)⟩)⟩
set_option maxHeartbeats 4000000 in
set_option maxRecDepth 100000 in
theorem c_L_favourite (l : Launch) (hst : l.stackTraces = false) (D : va_G) (e0 : kE) (pa : Nat) (prl : Nat) (ppc : Nat) (ppg : Nat) (ppl : Nat) (ped : Nat) (po : Nat) (py1 : ClassId) (pof : Nat → Int64)  : kM l yL_favourite wk_c_L_favourite 7 122 2 12 D kStr e0 [(py1, .long)] [(pa, .inr (11, [.ref prl, .int 0, .ref ppc, .int 0, .ref ppg, .ref ppl, .ref ped, .int 0])), (po, .inl (py1, 1, .inr (.inl pof)))] [.ref pa, .ref po] (fun v w t => v = some (.int 1) ∧ w = [(po, .inl (py1, 1, .inr (.inl pof)))] ∧ t = [(py1, .long)]) (fun _ => False) := by
  refine k_ofX (cc := cL_favourite) (maxL := 3) (ret := (some .int)) (hhs := [(0, 8, 11, 68)]) (by decide) rfl (Nat.le_of_ble_eq_true rfl) ?_
  intro p e s m args below meth c A ls hx hb hr hts hown hlocks hml hex hh hl
  have hown : s.vm.findClass RL = some m.cls := hown
  have hl : lv_has ls 3 [(0, .ref pa), (1, .ref po)] := hl
  refine lv_aload_n hx hb dL_favourite_0 rfl (lv_at hl 1 rfl) ?_
  refine lv_iconst (v := 0) hx hb dL_favourite_1 (by decide) ?_
  refine lv_aload_n hx hb dL_favourite_2 rfl (lv_at hl 0 rfl) ?_
  refine k_callV (C := RX6) (T := TX6) (N := 8) (ci := 11) (q0 := 0) (wr := [(po, .inl (py1, 1, .inr (.inl pof)))]) (rest := [.int 0, .ref po]) (own := RL) ⟨hx, hb, hml, hown, hts⟩ (c_X6_favourite l hst D e0 pa prl ppc ppg ppl ped ) (cwV 0 hts gi_c_L_favourite_0 rfl rfl rfl (by decide +kernel) ⟨Nat.le_of_ble_eq_true rfl, Nat.le_of_ble_eq_true rfl⟩) hh rfl rfl [0] [1] [] rfl rfl rfl rfl (by decide) rfl rfl hl rfl (Nat.le_of_ble_eq_true rfl) dL_favourite_3 ⟨Nat.le_of_ble_eq_true rfl, (Nat.le_of_ble_eq_true rfl)⟩ (fun E ce q9 H locs hE hh hq hv hcl => ?_) (fun _ _ _ _ _ h _ => h.elim)
  refine k_catch (own := RL) (name := "java/util/NoSuchElementException") hown hex [] ⟨0, 8, 11, 68⟩ [] rfl (fun z hz => by simp at hz) (by decide) (by decide) (hts _ (wo_c_L_favourite_in _ (List.mem_of_getElem? (i := 0) rfl))) hE (by decide) hh hq hv hcl ?_
  refine W.eq (g2 := F0 m 11 ls [.ref q9]) rfl ?_
  refine lv_astore_n (lv' := [(2, .ref q9), (0, .ref pa), (1, .ref po)]) hx hb dL_favourite_11 rfl hl (by decide) rfl (fun ls hl => ?_)
  refine lv_iconst (v := 1) hx hb dL_favourite_12 (by decide) ?_
  exact k_endi hx hb hr hlocks hh ⟨rfl, rfl, rfl⟩ [0] [0] rfl rfl rfl (Nat.le_of_ble_eq_true rfl) (Nat.le_of_ble_eq_true rfl) dL_favourite_13
def wo_c_L_meanMark : List Cond := [Cond.classLink RL 19 "java/lang/IndexOutOfBoundsException"]
def wk_c_L_meanMark : List Cond := Cond.codeWith yL_meanMark cL_meanMark 4 (some .int) [(0, 8, 11, 19), (0, 8, 14, 167)] :: (wo_c_L_meanMark ++ (wsV RL 169 RX6 yX6_meanMark wk_c_X6_meanMark))
theorem wo_c_L_meanMark_in : ∀ w ∈ wo_c_L_meanMark, w ∈ wk_c_L_meanMark := fun w h => List.mem_cons_of_mem _ (List.mem_append_left _ h)
theorem gi_c_L_meanMark_0 : GoodIn wk_c_L_meanMark (wsV RL 169 RX6 yX6_meanMark wk_c_X6_meanMark) := fun w h => ⟨List.mem_cons_of_mem _ (List.mem_append_right _ h), good_of_word (kg_V gk_c_X6_meanMark w h)⟩
theorem gk_c_L_meanMark : ∀ w ∈ wk_c_L_meanMark, goodWord w = true := List.forall_mem_cons.mpr ⟨rfl, (List.forall_mem_append.mpr ⟨(show ∀ w ∈ wo_c_L_meanMark, goodWord w = true by decide +kernel), (kg_V gk_c_X6_meanMark)⟩)⟩
set_option maxHeartbeats 4000000 in
set_option maxRecDepth 100000 in
theorem c_L_meanMark (l : Launch) (hst : l.stackTraces = false) (D : va_G) (e0 : kE) (pa : Nat) (prl : Nat) (ppc : Nat) (ppg : Nat) (ppl : Nat) (ped : Nat) (a1 : Int32) (po : Nat) (py1 : ClassId) (pof : Nat → UInt64)  : kM l yL_meanMark wk_c_L_meanMark 9 164 1 6 D kStr e0 [(py1, .double)] [(pa, .inr (11, [.ref prl, .int 0, .ref ppc, .int 0, .ref ppg, .ref ppl, .ref ped, .int 0])), (po, .inl (py1, 1, .inr (.inr (.inr (.inl pof)))))] [.ref pa, .int a1, .ref po] (fun v w t => v = some (.int 1) ∧ w = [(po, .inl (py1, 1, .inr (.inr (.inr (.inl pof)))))] ∧ t = [(py1, .double)]) (fun _ => False) := by
  refine k_ofX (cc := cL_meanMark) (maxL := 4) (ret := (some .int)) (hhs := [(0, 8, 11, 19), (0, 8, 14, 167)]) (by decide) rfl (Nat.le_of_ble_eq_true rfl) ?_
  intro p e s m args below meth c A ls hx hb hr hts hown hlocks hml hex hh hl
  have hown : s.vm.findClass RL = some m.cls := hown
  have hl : lv_has ls 4 [(0, .ref pa), (1, .int a1), (2, .ref po)] := hl
  refine lv_aload_n hx hb dL_meanMark_0 rfl (lv_at hl 2 rfl) ?_
  refine lv_iconst (v := 0) hx hb dL_meanMark_1 (by decide) ?_
  refine lv_aload_n hx hb dL_meanMark_2 rfl (lv_at hl 0 rfl) ?_
  refine lv_iload_n hx hb dL_meanMark_3 rfl (lv_at hl 1 rfl) ?_
  refine k_callV (C := RX6) (T := TX6) (N := 8) (ci := 11) (q0 := 0) (wr := [(po, .inl (py1, 1, .inr (.inr (.inr (.inl pof)))))]) (rest := [.int 0, .ref po]) (own := RL) ⟨hx, hb, hml, hown, hts⟩ (c_X6_meanMark l hst D e0 pa prl ppc ppg ppl ped a1 ) (cwV 1 hts gi_c_L_meanMark_0 rfl rfl rfl (by decide +kernel) ⟨Nat.le_of_ble_eq_true rfl, Nat.le_of_ble_eq_true rfl⟩) hh rfl rfl [0] [1] [] rfl rfl rfl rfl (by decide) rfl rfl hl rfl (Nat.le_of_ble_eq_true rfl) dL_meanMark_4 ⟨Nat.le_of_ble_eq_true rfl, (Nat.le_of_ble_eq_true rfl)⟩ (fun E ce q9 H locs hE hh hq hv hcl => ?_) (fun _ _ _ _ _ h _ => h.elim)
  refine k_catch (own := RL) (name := "java/lang/IndexOutOfBoundsException") hown hex [] ⟨0, 8, 11, 19⟩ [⟨0, 8, 14, 167⟩] rfl (fun z hz => by simp at hz) (by decide) (by decide) (hts _ (wo_c_L_meanMark_in _ (List.mem_of_getElem? (i := 0) rfl))) hE (by decide) hh hq hv hcl ?_
  refine W.eq (g2 := F0 m 11 ls [.ref q9]) rfl ?_
  refine lv_astore_n (lv' := [(3, .ref q9), (0, .ref pa), (1, .int a1), (2, .ref po)]) hx hb dL_meanMark_11 rfl hl (by decide) rfl (fun ls hl => ?_)
  refine lv_iconst (v := 1) hx hb dL_meanMark_12 (by decide) ?_
  exact k_endi hx hb hr hlocks hh ⟨rfl, rfl, rfl⟩ [0] [0] rfl rfl rfl (Nat.le_of_ble_eq_true rfl) (Nat.le_of_ble_eq_true rfl) dL_meanMark_13
def wo_c_L_goodShare : List Cond := [Cond.classLink RL 167 "java/lang/ArithmeticException"]
def wk_c_L_goodShare : List Cond := Cond.codeWith yL_goodShare cL_goodShare 3 (some .int) [(0, 8, 11, 167)] :: (wo_c_L_goodShare ++ (wsV RL 163 RX6 yX6_goodShare wk_c_X6_goodShare))
theorem wo_c_L_goodShare_in : ∀ w ∈ wo_c_L_goodShare, w ∈ wk_c_L_goodShare := fun w h => List.mem_cons_of_mem _ (List.mem_append_left _ h)
theorem gi_c_L_goodShare_0 : GoodIn wk_c_L_goodShare (wsV RL 163 RX6 yX6_goodShare wk_c_X6_goodShare) := fun w h => ⟨List.mem_cons_of_mem _ (List.mem_append_right _ h), good_of_word (kg_V gk_c_X6_goodShare w h)⟩
theorem gk_c_L_goodShare : ∀ w ∈ wk_c_L_goodShare, goodWord w = true := List.forall_mem_cons.mpr ⟨rfl, (List.forall_mem_append.mpr ⟨(show ∀ w ∈ wo_c_L_goodShare, goodWord w = true by decide +kernel), (kg_V gk_c_X6_goodShare)⟩)⟩
set_option maxHeartbeats 4000000 in
set_option maxRecDepth 100000 in
theorem c_L_goodShare (l : Launch) (hst : l.stackTraces = false) (D : va_G) (e0 : kE) (pa : Nat) (prl : Nat) (ppc : Nat) (ppg : Nat) (ppl : Nat) (ped : Nat) (pl1 : Nat) (pl2 : Nat) (pl3 : Nat) (pl4 : Nat) (pl5 : Nat) (po : Nat) (py1 : ClassId) (pof : Nat → UInt64)  : kM l yL_goodShare wk_c_L_goodShare 7 120 2 12 D kStr e0 [(py1, .double)] [(pa, .inr (11, [.ref prl, .int 0, .ref ppc, .int 0, .ref ppg, .ref ppl, .ref ped, .int 0])), (ppl, .inr (8, [.ref pl1, .ref pl2, .int 0, .ref pl3, .int 0, .ref pl4, .int 0, .ref pl5, .int 0, .int 0, .int 0])), (po, .inl (py1, 1, .inr (.inr (.inr (.inl pof)))))] [.ref pa, .ref po] (fun v w t => v = some (.int 1) ∧ w = [(po, .inl (py1, 1, .inr (.inr (.inr (.inl pof)))))] ∧ t = [(py1, .double)]) (fun _ => False) := by
  refine k_ofX (cc := cL_goodShare) (maxL := 3) (ret := (some .int)) (hhs := [(0, 8, 11, 167)]) (by decide) rfl (Nat.le_of_ble_eq_true rfl) ?_
  intro p e s m args below meth c A ls hx hb hr hts hown hlocks hml hex hh hl
  have hown : s.vm.findClass RL = some m.cls := hown
  have hl : lv_has ls 3 [(0, .ref pa), (1, .ref po)] := hl
  refine lv_aload_n hx hb dL_goodShare_0 rfl (lv_at hl 1 rfl) ?_
  refine lv_iconst (v := 0) hx hb dL_goodShare_1 (by decide) ?_
  refine lv_aload_n hx hb dL_goodShare_2 rfl (lv_at hl 0 rfl) ?_
  refine k_callV (C := RX6) (T := TX6) (N := 8) (ci := 11) (q0 := 0) (wr := [(po, .inl (py1, 1, .inr (.inr (.inr (.inl pof)))))]) (rest := [.int 0, .ref po]) (own := RL) ⟨hx, hb, hml, hown, hts⟩ (c_X6_goodShare l hst D e0 pa prl ppc ppg ppl ped pl1 pl2 pl3 pl4 pl5 ) (cwV 0 hts gi_c_L_goodShare_0 rfl rfl rfl (by decide +kernel) ⟨Nat.le_of_ble_eq_true rfl, Nat.le_of_ble_eq_true rfl⟩) hh rfl rfl [0, 1] [2] [] rfl rfl rfl rfl (by decide) rfl rfl hl rfl (Nat.le_of_ble_eq_true rfl) dL_goodShare_3 ⟨Nat.le_of_ble_eq_true rfl, (Nat.le_of_ble_eq_true rfl)⟩ (fun E ce q9 H locs hE hh hq hv hcl => ?_) (fun _ _ _ _ _ h _ => h.elim)
  refine k_catch (own := RL) (name := "java/lang/ArithmeticException") hown hex [] ⟨0, 8, 11, 167⟩ [] rfl (fun z hz => by simp at hz) (by decide) (by decide) (hts _ (wo_c_L_goodShare_in _ (List.mem_of_getElem? (i := 0) rfl))) hE (by decide) hh hq hv hcl ?_
  refine W.eq (g2 := F0 m 11 ls [.ref q9]) rfl ?_
  refine lv_astore_n (lv' := [(2, .ref q9), (0, .ref pa), (1, .ref po)]) hx hb dL_goodShare_11 rfl hl (by decide) rfl (fun ls hl => ?_)
  refine lv_iconst (v := 1) hx hb dL_goodShare_12 (by decide) ?_
  exact k_endi hx hb hr hlocks hh ⟨rfl, rfl, rfl⟩ [0] [0] rfl rfl rfl (Nat.le_of_ble_eq_true rfl) (Nat.le_of_ble_eq_true rfl) dL_goodShare_13
def wo_c_L_lock : List Cond := [Cond.classLink RL 19 "java/lang/IndexOutOfBoundsException"]
def wk_c_L_lock : List Cond := Cond.codeWith yL_lock cL_lock 5 (some .int) [(0, 17, 20, 19)] :: (wo_c_L_lock ++ (wsV RL 79 RX6 yX6_lock wk_c_X6_lock))
theorem wo_c_L_lock_in : ∀ w ∈ wo_c_L_lock, w ∈ wk_c_L_lock := fun w h => List.mem_cons_of_mem _ (List.mem_append_left _ h)
theorem gi_c_L_lock_0 : GoodIn wk_c_L_lock (wsV RL 79 RX6 yX6_lock wk_c_X6_lock) := fun w h => ⟨List.mem_cons_of_mem _ (List.mem_append_right _ h), good_of_word (kg_V gk_c_X6_lock w h)⟩
theorem gk_c_L_lock : ∀ w ∈ wk_c_L_lock, goodWord w = true := List.forall_mem_cons.mpr ⟨rfl, (List.forall_mem_append.mpr ⟨(show ∀ w ∈ wo_c_L_lock, goodWord w = true by decide +kernel), (kg_V gk_c_X6_lock)⟩)⟩
set_option maxHeartbeats 4000000 in
set_option maxRecDepth 100000 in
theorem c_L_lock (l : Launch) (hst : l.stackTraces = false) (D : va_G) (e0 : kE) (pa : Nat) (prl : Nat) (ppc : Nat) (ppg : Nat) (ppl : Nat) (ped : Nat) (pg1 : Nat) (pg2 : Nat) (pg3 : Nat) (pg4 : Nat) (a1 : Int32) (a2 : Int32) (po : Nat) (py1 : ClassId) (pof : Nat → Int64)  : kM l yL_lock wk_c_L_lock 9 166 1 6 D kStr e0 [(py1, .long)] [(pa, .inr (11, [.ref prl, .int 0, .ref ppc, .int 0, .ref ppg, .ref ppl, .ref ped, .int 0])), (ppg, .inr (9, [.ref pg1, .int 0, .ref pg2, .int 0, .ref pg3, .ref pg4])), (po, .inl (py1, 1, .inr (.inl pof)))] [.ref pa, .int a1, .int a2, .ref po] (fun v w t => v = some (.int 1) ∧ w = [(po, .inl (py1, 1, .inr (.inl pof)))] ∧ t = [(py1, .long)]) (fun _ => False) := by
  refine k_ofX (cc := cL_lock) (maxL := 5) (ret := (some .int)) (hhs := [(0, 17, 20, 19)]) (by decide) rfl (Nat.le_of_ble_eq_true rfl) ?_
  intro p e s m args below meth c A ls hx hb hr hts hown hlocks hml hex hh hl
  have hown : s.vm.findClass RL = some m.cls := hown
  have hl : lv_has ls 5 [(0, .ref pa), (1, .int a1), (2, .int a2), (3, .ref po)] := hl
  refine lv_aload_n hx hb dL_lock_0 rfl (lv_at hl 3 rfl) ?_
  refine lv_iconst (v := 0) hx hb dL_lock_1 (by decide) ?_
  refine lv_aload_n hx hb dL_lock_2 rfl (lv_at hl 0 rfl) ?_
  refine lv_iload_n hx hb dL_lock_3 rfl (lv_at hl 1 rfl) ?_
  refine lv_iload_n hx hb dL_lock_4 rfl (lv_at hl 2 rfl) ?_
  refine k_callV (C := RX6) (T := TX6) (N := 8) (ci := 11) (q0 := 0) (wr := [(po, .inl (py1, 1, .inr (.inl pof)))]) (rest := [.int 0, .ref po]) (own := RL) ⟨hx, hb, hml, hown, hts⟩ (c_X6_lock l hst D e0 pa prl ppc ppg ppl ped pg1 pg2 pg3 pg4 a1 a2 ) (cwV 2 hts gi_c_L_lock_0 rfl rfl rfl (by decide +kernel) ⟨Nat.le_of_ble_eq_true rfl, Nat.le_of_ble_eq_true rfl⟩) hh rfl rfl [0, 1] [2] [] rfl rfl rfl rfl (by decide) rfl rfl hl rfl (Nat.le_of_ble_eq_true rfl) dL_lock_5 ⟨Nat.le_of_ble_eq_true rfl, (Nat.le_of_ble_eq_true rfl)⟩ (fun E ce q9 H locs hE hh hq hv hcl => ?_) (fun _ _ _ _ _ h _ => h.elim)
  refine k_catch (own := RL) (name := "java/lang/IndexOutOfBoundsException") hown hex [] ⟨0, 17, 20, 19⟩ [] rfl (fun z hz => by simp at hz) (by decide) (by decide) (hts _ (wo_c_L_lock_in _ (List.mem_of_getElem? (i := 0) rfl))) hE (by decide) hh hq hv hcl ?_
  refine W.eq (g2 := F0 m 20 ls [.ref q9]) rfl ?_
  refine lv_astore (lv' := [(4, .ref q9), (0, .ref pa), (1, .int a1), (2, .int a2), (3, .ref po)]) hx hb dL_lock_20 hl (by decide) rfl (fun ls hl => ?_)
  refine lv_iconst (v := 1) hx hb dL_lock_22 (by decide) ?_
  exact k_endi hx hb hr hlocks hh ⟨rfl, rfl, rfl⟩ [0] [0] rfl rfl rfl (Nat.le_of_ble_eq_true rfl) (Nat.le_of_ble_eq_true rfl) dL_lock_23
def wo_c_L_replace : List Cond := [Cond.classLink RL 19 "java/lang/IndexOutOfBoundsException"]
def wk_c_L_replace : List Cond := Cond.codeWith yL_replace cL_replace 5 (some .int) [(0, 10, 13, 19), (0, 10, 17, 41)] :: (wo_c_L_replace ++ (wsV RL 83 RX6 yX6_replace wk_c_X6_replace))
theorem wo_c_L_replace_in : ∀ w ∈ wo_c_L_replace, w ∈ wk_c_L_replace := fun w h => List.mem_cons_of_mem _ (List.mem_append_left _ h)
theorem gi_c_L_replace_0 : GoodIn wk_c_L_replace (wsV RL 83 RX6 yX6_replace wk_c_X6_replace) := fun w h => ⟨List.mem_cons_of_mem _ (List.mem_append_right _ h), good_of_word (kg_V gk_c_X6_replace w h)⟩
theorem gk_c_L_replace : ∀ w ∈ wk_c_L_replace, goodWord w = true := List.forall_mem_cons.mpr ⟨rfl, (List.forall_mem_append.mpr ⟨(show ∀ w ∈ wo_c_L_replace, goodWord w = true by decide +kernel), (kg_V gk_c_X6_replace)⟩)⟩
set_option maxHeartbeats 4000000 in
set_option maxRecDepth 100000 in
theorem c_L_replace (l : Launch) (hst : l.stackTraces = false) (D : va_G) (e0 : kE) (pa : Nat) (prl : Nat) (ppc : Nat) (ppg : Nat) (ppl : Nat) (ped : Nat) (pg1 : Nat) (pg2 : Nat) (pg3 : Nat) (pg4 : Nat) (a1 : Int32) (a2 : Int32) (po : Nat) (py1 : ClassId) (pof : Nat → Int64)  : kM l yL_replace wk_c_L_replace 9 167 1 6 D kStr e0 [(py1, .long)] [(pa, .inr (11, [.ref prl, .int 0, .ref ppc, .int 0, .ref ppg, .ref ppl, .ref ped, .int 0])), (ppg, .inr (9, [.ref pg1, .int 0, .ref pg2, .int 0, .ref pg3, .ref pg4])), (po, .inl (py1, 1, .inr (.inl pof)))] [.ref pa, .int a1, .int a2, .ref po] (fun v w t => v = some (.int 1) ∧ w = [(po, .inl (py1, 1, .inr (.inl pof)))] ∧ t = [(py1, .long)]) (fun _ => False) := by
  refine k_ofX (cc := cL_replace) (maxL := 5) (ret := (some .int)) (hhs := [(0, 10, 13, 19), (0, 10, 17, 41)]) (by decide) rfl (Nat.le_of_ble_eq_true rfl) ?_
  intro p e s m args below meth c A ls hx hb hr hts hown hlocks hml hex hh hl
  have hown : s.vm.findClass RL = some m.cls := hown
  have hl : lv_has ls 5 [(0, .ref pa), (1, .int a1), (2, .int a2), (3, .ref po)] := hl
  refine lv_aload_n hx hb dL_replace_0 rfl (lv_at hl 3 rfl) ?_
  refine lv_iconst (v := 0) hx hb dL_replace_1 (by decide) ?_
  refine lv_aload_n hx hb dL_replace_2 rfl (lv_at hl 0 rfl) ?_
  refine lv_iload_n hx hb dL_replace_3 rfl (lv_at hl 1 rfl) ?_
  refine lv_iload_n hx hb dL_replace_4 rfl (lv_at hl 2 rfl) ?_
  refine k_callV (C := RX6) (T := TX6) (N := 8) (ci := 11) (q0 := 0) (wr := [(po, .inl (py1, 1, .inr (.inl pof)))]) (rest := [.int 0, .ref po]) (own := RL) ⟨hx, hb, hml, hown, hts⟩ (c_X6_replace l hst D e0 pa prl ppc ppg ppl ped pg1 pg2 pg3 pg4 a1 a2 ) (cwV 2 hts gi_c_L_replace_0 rfl rfl rfl (by decide +kernel) ⟨Nat.le_of_ble_eq_true rfl, Nat.le_of_ble_eq_true rfl⟩) hh rfl rfl [0, 1] [2] [] rfl rfl rfl rfl (by decide) rfl rfl hl rfl (Nat.le_of_ble_eq_true rfl) dL_replace_5 ⟨Nat.le_of_ble_eq_true rfl, (Nat.le_of_ble_eq_true rfl)⟩ (fun E ce q9 H locs hE hh hq hv hcl => ?_) (fun _ _ _ _ _ h _ => h.elim)
  refine k_catch (own := RL) (name := "java/lang/IndexOutOfBoundsException") hown hex [] ⟨0, 10, 13, 19⟩ [⟨0, 10, 17, 41⟩] rfl (fun z hz => by simp at hz) (by decide) (by decide) (hts _ (wo_c_L_replace_in _ (List.mem_of_getElem? (i := 0) rfl))) hE (by decide) hh hq hv hcl ?_
  refine W.eq (g2 := F0 m 13 ls [.ref q9]) rfl ?_
  refine lv_astore (lv' := [(4, .ref q9), (0, .ref pa), (1, .int a1), (2, .int a2), (3, .ref po)]) hx hb dL_replace_13 hl (by decide) rfl (fun ls hl => ?_)
  refine lv_iconst (v := 1) hx hb dL_replace_15 (by decide) ?_
  exact k_endi hx hb hr hlocks hh ⟨rfl, rfl, rfl⟩ [0] [0] rfl rfl rfl (Nat.le_of_ble_eq_true rfl) (Nat.le_of_ble_eq_true rfl) dL_replace_16
def wo_c_L_startOf : List Cond := [Cond.classLink RL 19 "java/lang/IndexOutOfBoundsException"]
def wk_c_L_startOf : List Cond := Cond.codeWith yL_startOf cL_startOf 4 (some .int) [(0, 9, 12, 19)] :: (wo_c_L_startOf ++ (wsV RL 86 RX6 yX6_startOf wk_c_X6_startOf))
theorem wo_c_L_startOf_in : ∀ w ∈ wo_c_L_startOf, w ∈ wk_c_L_startOf := fun w h => List.mem_cons_of_mem _ (List.mem_append_left _ h)
theorem gi_c_L_startOf_0 : GoodIn wk_c_L_startOf (wsV RL 86 RX6 yX6_startOf wk_c_X6_startOf) := fun w h => ⟨List.mem_cons_of_mem _ (List.mem_append_right _ h), good_of_word (kg_V gk_c_X6_startOf w h)⟩
theorem gk_c_L_startOf : ∀ w ∈ wk_c_L_startOf, goodWord w = true := List.forall_mem_cons.mpr ⟨rfl, (List.forall_mem_append.mpr ⟨(show ∀ w ∈ wo_c_L_startOf, goodWord w = true by decide +kernel), (kg_V gk_c_X6_startOf)⟩)⟩
set_option maxHeartbeats 4000000 in
set_option maxRecDepth 100000 in
theorem c_L_startOf (l : Launch) (hst : l.stackTraces = false) (D : va_G) (e0 : kE) (pa : Nat) (prl : Nat) (ppc : Nat) (ppg : Nat) (ppl : Nat) (ped : Nat) (pg1 : Nat) (pg2 : Nat) (pg3 : Nat) (pg4 : Nat) (a1 : Int32) (po : Nat) (py1 : ClassId) (pof : Nat → Int64)  : kM l yL_startOf wk_c_L_startOf 9 164 1 6 D kStr e0 [(py1, .long)] [(pa, .inr (11, [.ref prl, .int 0, .ref ppc, .int 0, .ref ppg, .ref ppl, .ref ped, .int 0])), (ppg, .inr (9, [.ref pg1, .int 0, .ref pg2, .int 0, .ref pg3, .ref pg4])), (po, .inl (py1, 1, .inr (.inl pof)))] [.ref pa, .int a1, .ref po] (fun v w t => v = some (.int 1) ∧ w = [(po, .inl (py1, 1, .inr (.inl pof)))] ∧ t = [(py1, .long)]) (fun _ => False) := by
  refine k_ofX (cc := cL_startOf) (maxL := 4) (ret := (some .int)) (hhs := [(0, 9, 12, 19)]) (by decide) rfl (Nat.le_of_ble_eq_true rfl) ?_
  intro p e s m args below meth c A ls hx hb hr hts hown hlocks hml hex hh hl
  have hown : s.vm.findClass RL = some m.cls := hown
  have hl : lv_has ls 4 [(0, .ref pa), (1, .int a1), (2, .ref po)] := hl
  refine lv_aload_n hx hb dL_startOf_0 rfl (lv_at hl 2 rfl) ?_
  refine lv_iconst (v := 0) hx hb dL_startOf_1 (by decide) ?_
  refine lv_aload_n hx hb dL_startOf_2 rfl (lv_at hl 0 rfl) ?_
  refine lv_iload_n hx hb dL_startOf_3 rfl (lv_at hl 1 rfl) ?_
  refine k_callV (C := RX6) (T := TX6) (N := 8) (ci := 11) (q0 := 0) (wr := [(po, .inl (py1, 1, .inr (.inl pof)))]) (rest := [.int 0, .ref po]) (own := RL) ⟨hx, hb, hml, hown, hts⟩ (c_X6_startOf l hst D e0 pa prl ppc ppg ppl ped pg1 pg2 pg3 pg4 a1 ) (cwV 1 hts gi_c_L_startOf_0 rfl rfl rfl (by decide +kernel) ⟨Nat.le_of_ble_eq_true rfl, Nat.le_of_ble_eq_true rfl⟩) hh rfl rfl [0, 1] [2] [] rfl rfl rfl rfl (by decide) rfl rfl hl rfl (Nat.le_of_ble_eq_true rfl) dL_startOf_4 ⟨Nat.le_of_ble_eq_true rfl, (Nat.le_of_ble_eq_true rfl)⟩ (fun E ce q9 H locs hE hh hq hv hcl => ?_) (fun _ _ _ _ _ h _ => h.elim)
  refine k_catch (own := RL) (name := "java/lang/IndexOutOfBoundsException") hown hex [] ⟨0, 9, 12, 19⟩ [] rfl (fun z hz => by simp at hz) (by decide) (by decide) (hts _ (wo_c_L_startOf_in _ (List.mem_of_getElem? (i := 0) rfl))) hE (by decide) hh hq hv hcl ?_
  refine W.eq (g2 := F0 m 12 ls [.ref q9]) rfl ?_
  refine lv_astore_n (lv' := [(3, .ref q9), (0, .ref pa), (1, .int a1), (2, .ref po)]) hx hb dL_startOf_12 rfl hl (by decide) rfl (fun ls hl => ?_)
  refine lv_iconst (v := 1) hx hb dL_startOf_13 (by decide) ?_
  exact k_endi hx hb hr hlocks hh ⟨rfl, rfl, rfl⟩ [0] [0] rfl rfl rfl (Nat.le_of_ble_eq_true rfl) (Nat.le_of_ble_eq_true rfl) dL_startOf_14
def wo_c_L_sideOf : List Cond := [Cond.classLink RL 19 "java/lang/IndexOutOfBoundsException"]
def wk_c_L_sideOf : List Cond := Cond.codeWith yL_sideOf cL_sideOf 5 (some .int) [(0, 10, 13, 19), (0, 10, 17, 21), (0, 10, 21, 41)] :: (wo_c_L_sideOf ++ (wsV RL 95 RX6 yX6_sideOf wk_c_X6_sideOf))
theorem wo_c_L_sideOf_in : ∀ w ∈ wo_c_L_sideOf, w ∈ wk_c_L_sideOf := fun w h => List.mem_cons_of_mem _ (List.mem_append_left _ h)
theorem gi_c_L_sideOf_0 : GoodIn wk_c_L_sideOf (wsV RL 95 RX6 yX6_sideOf wk_c_X6_sideOf) := fun w h => ⟨List.mem_cons_of_mem _ (List.mem_append_right _ h), good_of_word (kg_V gk_c_X6_sideOf w h)⟩
theorem gk_c_L_sideOf : ∀ w ∈ wk_c_L_sideOf, goodWord w = true := List.forall_mem_cons.mpr ⟨rfl, (List.forall_mem_append.mpr ⟨(show ∀ w ∈ wo_c_L_sideOf, goodWord w = true by decide +kernel), (kg_V gk_c_X6_sideOf)⟩)⟩
set_option maxHeartbeats 4000000 in
set_option maxRecDepth 100000 in
theorem c_L_sideOf (l : Launch) (hst : l.stackTraces = false) (D : va_G) (e0 : kE) (pa : Nat) (prl : Nat) (ppc : Nat) (ppg : Nat) (ppl : Nat) (ped : Nat) (pg1 : Nat) (pg2 : Nat) (pg3 : Nat) (pg4 : Nat) (a1 : Int32) (a2 : Int32) (po : Nat) (py1 : ClassId) (pof : Nat → Int64)  : kM l yL_sideOf wk_c_L_sideOf 9 164 1 6 D kStr e0 [(py1, .long)] [(pa, .inr (11, [.ref prl, .int 0, .ref ppc, .int 0, .ref ppg, .ref ppl, .ref ped, .int 0])), (ppg, .inr (9, [.ref pg1, .int 0, .ref pg2, .int 0, .ref pg3, .ref pg4])), (po, .inl (py1, 1, .inr (.inl pof)))] [.ref pa, .int a1, .int a2, .ref po] (fun v w t => v = some (.int 1) ∧ w = [(po, .inl (py1, 1, .inr (.inl pof)))] ∧ t = [(py1, .long)]) (fun _ => False) := by
  refine k_ofX (cc := cL_sideOf) (maxL := 5) (ret := (some .int)) (hhs := [(0, 10, 13, 19), (0, 10, 17, 21), (0, 10, 21, 41)]) (by decide) rfl (Nat.le_of_ble_eq_true rfl) ?_
  intro p e s m args below meth c A ls hx hb hr hts hown hlocks hml hex hh hl
  have hown : s.vm.findClass RL = some m.cls := hown
  have hl : lv_has ls 5 [(0, .ref pa), (1, .int a1), (2, .int a2), (3, .ref po)] := hl
  refine lv_aload_n hx hb dL_sideOf_0 rfl (lv_at hl 3 rfl) ?_
  refine lv_iconst (v := 0) hx hb dL_sideOf_1 (by decide) ?_
  refine lv_aload_n hx hb dL_sideOf_2 rfl (lv_at hl 0 rfl) ?_
  refine lv_iload_n hx hb dL_sideOf_3 rfl (lv_at hl 1 rfl) ?_
  refine lv_iload_n hx hb dL_sideOf_4 rfl (lv_at hl 2 rfl) ?_
  refine k_callV (C := RX6) (T := TX6) (N := 8) (ci := 11) (q0 := 0) (wr := [(po, .inl (py1, 1, .inr (.inl pof)))]) (rest := [.int 0, .ref po]) (own := RL) ⟨hx, hb, hml, hown, hts⟩ (c_X6_sideOf l hst D e0 pa prl ppc ppg ppl ped pg1 pg2 pg3 pg4 a1 a2 ) (cwV 2 hts gi_c_L_sideOf_0 rfl rfl rfl (by decide +kernel) ⟨Nat.le_of_ble_eq_true rfl, Nat.le_of_ble_eq_true rfl⟩) hh rfl rfl [0, 1] [2] [] rfl rfl rfl rfl (by decide) rfl rfl hl rfl (Nat.le_of_ble_eq_true rfl) dL_sideOf_5 ⟨Nat.le_of_ble_eq_true rfl, (Nat.le_of_ble_eq_true rfl)⟩ (fun E ce q9 H locs hE hh hq hv hcl => ?_) (fun _ _ _ _ _ h _ => h.elim)
  refine k_catch (own := RL) (name := "java/lang/IndexOutOfBoundsException") hown hex [] ⟨0, 10, 13, 19⟩ [⟨0, 10, 17, 21⟩, ⟨0, 10, 21, 41⟩] rfl (fun z hz => by simp at hz) (by decide) (by decide) (hts _ (wo_c_L_sideOf_in _ (List.mem_of_getElem? (i := 0) rfl))) hE (by decide) hh hq hv hcl ?_
  refine W.eq (g2 := F0 m 13 ls [.ref q9]) rfl ?_
  refine lv_astore (lv' := [(4, .ref q9), (0, .ref pa), (1, .int a1), (2, .int a2), (3, .ref po)]) hx hb dL_sideOf_13 hl (by decide) rfl (fun ls hl => ?_)
  refine lv_iconst (v := 1) hx hb dL_sideOf_15 (by decide) ?_
  exact k_endi hx hb hr hlocks hh ⟨rfl, rfl, rfl⟩ [0] [0] rfl rfl rfl (Nat.le_of_ble_eq_true rfl) (Nat.le_of_ble_eq_true rfl) dL_sideOf_16
def wo_c_L_split : List Cond := [Cond.classLink RL 19 "java/lang/IndexOutOfBoundsException"]
def wk_c_L_split : List Cond := Cond.codeWith yL_split cL_split 6 (some .int) [(0, 12, 15, 19), (0, 12, 19, 21), (0, 12, 23, 41)] :: (wo_c_L_split ++ (wsV RL 147 RX6 yX6_split wk_c_X6_split))
theorem wo_c_L_split_in : ∀ w ∈ wo_c_L_split, w ∈ wk_c_L_split := fun w h => List.mem_cons_of_mem _ (List.mem_append_left _ h)
theorem gi_c_L_split_0 : GoodIn wk_c_L_split (wsV RL 147 RX6 yX6_split wk_c_X6_split) := fun w h => ⟨List.mem_cons_of_mem _ (List.mem_append_right _ h), good_of_word (kg_V gk_c_X6_split w h)⟩
theorem gk_c_L_split : ∀ w ∈ wk_c_L_split, goodWord w = true := List.forall_mem_cons.mpr ⟨rfl, (List.forall_mem_append.mpr ⟨(show ∀ w ∈ wo_c_L_split, goodWord w = true by decide +kernel), (kg_V gk_c_X6_split)⟩)⟩
set_option maxHeartbeats 4000000 in
set_option maxRecDepth 100000 in
theorem c_L_split (l : Launch) (hst : l.stackTraces = false) (D : va_G) (e0 : kE) (pa : Nat) (prl : Nat) (ppc : Nat) (ppg : Nat) (ppl : Nat) (ped : Nat) (pg1 : Nat) (pg2 : Nat) (pg3 : Nat) (pg4 : Nat) (a1 : Int32) (a2 : Int32) (a3 : Int32) (po : Nat) (py1 : ClassId) (pof : Nat → Int64)  : kM l yL_split wk_c_L_split 9 167 1 6 D kStr e0 [(py1, .long)] [(pa, .inr (11, [.ref prl, .int 0, .ref ppc, .int 0, .ref ppg, .ref ppl, .ref ped, .int 0])), (ppg, .inr (9, [.ref pg1, .int 0, .ref pg2, .int 0, .ref pg3, .ref pg4])), (po, .inl (py1, 1, .inr (.inl pof)))] [.ref pa, .int a1, .int a2, .int a3, .ref po] (fun v w t => v = some (.int 1) ∧ w = [(po, .inl (py1, 1, .inr (.inl pof)))] ∧ t = [(py1, .long)]) (fun _ => False) := by
  refine k_ofX (cc := cL_split) (maxL := 6) (ret := (some .int)) (hhs := [(0, 12, 15, 19), (0, 12, 19, 21), (0, 12, 23, 41)]) (by decide) rfl (Nat.le_of_ble_eq_true rfl) ?_
  intro p e s m args below meth c A ls hx hb hr hts hown hlocks hml hex hh hl
  have hown : s.vm.findClass RL = some m.cls := hown
  have hl : lv_has ls 6 [(0, .ref pa), (1, .int a1), (2, .int a2), (3, .int a3), (4, .ref po)] := hl
  refine lv_aload hx hb dL_split_0 (lv_at hl 4 rfl) ?_
  refine lv_iconst (v := 0) hx hb dL_split_2 (by decide) ?_
  refine lv_aload_n hx hb dL_split_3 rfl (lv_at hl 0 rfl) ?_
  refine lv_iload_n hx hb dL_split_4 rfl (lv_at hl 1 rfl) ?_
  refine lv_iload_n hx hb dL_split_5 rfl (lv_at hl 2 rfl) ?_
  refine lv_iload_n hx hb dL_split_6 rfl (lv_at hl 3 rfl) ?_
  refine k_callV (C := RX6) (T := TX6) (N := 8) (ci := 11) (q0 := 0) (wr := [(po, .inl (py1, 1, .inr (.inl pof)))]) (rest := [.int 0, .ref po]) (own := RL) ⟨hx, hb, hml, hown, hts⟩ (c_X6_split l hst D e0 pa prl ppc ppg ppl ped pg1 pg2 pg3 pg4 a1 a2 a3 ) (cwV 3 hts gi_c_L_split_0 rfl rfl rfl (by decide +kernel) ⟨Nat.le_of_ble_eq_true rfl, Nat.le_of_ble_eq_true rfl⟩) hh rfl rfl [0, 1] [2] [] rfl rfl rfl rfl (by decide) rfl rfl hl rfl (Nat.le_of_ble_eq_true rfl) dL_split_7 ⟨Nat.le_of_ble_eq_true rfl, (Nat.le_of_ble_eq_true rfl)⟩ (fun E ce q9 H locs hE hh hq hv hcl => ?_) (fun _ _ _ _ _ h _ => h.elim)
  refine k_catch (own := RL) (name := "java/lang/IndexOutOfBoundsException") hown hex [] ⟨0, 12, 15, 19⟩ [⟨0, 12, 19, 21⟩, ⟨0, 12, 23, 41⟩] rfl (fun z hz => by simp at hz) (by decide) (by decide) (hts _ (wo_c_L_split_in _ (List.mem_of_getElem? (i := 0) rfl))) hE (by decide) hh hq hv hcl ?_
  refine W.eq (g2 := F0 m 15 ls [.ref q9]) rfl ?_
  refine lv_astore (lv' := [(5, .ref q9), (0, .ref pa), (1, .int a1), (2, .int a2), (3, .int a3), (4, .ref po)]) hx hb dL_split_15 hl (by decide) rfl (fun ls hl => ?_)
  refine lv_iconst (v := 1) hx hb dL_split_17 (by decide) ?_
  exact k_endi hx hb hr hlocks hh ⟨rfl, rfl, rfl⟩ [0] [0] rfl rfl rfl (Nat.le_of_ble_eq_true rfl) (Nat.le_of_ble_eq_true rfl) dL_split_18
def wo_c_L_play : List Cond := [Cond.classLink RL 19 "java/lang/IndexOutOfBoundsException"]
def wk_c_L_play : List Cond := Cond.codeWith yL_play cL_play 5 (some .int) [(0, 10, 13, 19), (0, 10, 17, 21)] :: (wo_c_L_play ++ (wsV RL 150 RX6 yX6_play wk_c_X6_play))
theorem wo_c_L_play_in : ∀ w ∈ wo_c_L_play, w ∈ wk_c_L_play := fun w h => List.mem_cons_of_mem _ (List.mem_append_left _ h)
theorem gi_c_L_play_0 : GoodIn wk_c_L_play (wsV RL 150 RX6 yX6_play wk_c_X6_play) := fun w h => ⟨List.mem_cons_of_mem _ (List.mem_append_right _ h), good_of_word (kg_V gk_c_X6_play w h)⟩
theorem gk_c_L_play : ∀ w ∈ wk_c_L_play, goodWord w = true := List.forall_mem_cons.mpr ⟨rfl, (List.forall_mem_append.mpr ⟨(show ∀ w ∈ wo_c_L_play, goodWord w = true by decide +kernel), (kg_V gk_c_X6_play)⟩)⟩
set_option maxHeartbeats 4000000 in
set_option maxRecDepth 100000 in
theorem c_L_play (l : Launch) (hst : l.stackTraces = false) (D : va_G) (e0 : kE) (pa : Nat) (prl : Nat) (ppc : Nat) (ppg : Nat) (ppl : Nat) (ped : Nat) (pg1 : Nat) (pg2 : Nat) (pg3 : Nat) (pg4 : Nat) (a1 : Int32) (a2 : Int32) (po : Nat) (py1 : ClassId) (pof : Nat → Int64)  : kM l yL_play wk_c_L_play 9 165 1 6 D kStr e0 [(py1, .long)] [(pa, .inr (11, [.ref prl, .int 0, .ref ppc, .int 0, .ref ppg, .ref ppl, .ref ped, .int 0])), (ppg, .inr (9, [.ref pg1, .int 0, .ref pg2, .int 0, .ref pg3, .ref pg4])), (po, .inl (py1, 1, .inr (.inl pof)))] [.ref pa, .int a1, .int a2, .ref po] (fun v w t => v = some (.int 1) ∧ w = [(po, .inl (py1, 1, .inr (.inl pof)))] ∧ t = [(py1, .long)]) (fun _ => False) := by
  refine k_ofX (cc := cL_play) (maxL := 5) (ret := (some .int)) (hhs := [(0, 10, 13, 19), (0, 10, 17, 21)]) (by decide) rfl (Nat.le_of_ble_eq_true rfl) ?_
  intro p e s m args below meth c A ls hx hb hr hts hown hlocks hml hex hh hl
  have hown : s.vm.findClass RL = some m.cls := hown
  have hl : lv_has ls 5 [(0, .ref pa), (1, .int a1), (2, .int a2), (3, .ref po)] := hl
  refine lv_aload_n hx hb dL_play_0 rfl (lv_at hl 3 rfl) ?_
  refine lv_iconst (v := 0) hx hb dL_play_1 (by decide) ?_
  refine lv_aload_n hx hb dL_play_2 rfl (lv_at hl 0 rfl) ?_
  refine lv_iload_n hx hb dL_play_3 rfl (lv_at hl 1 rfl) ?_
  refine lv_iload_n hx hb dL_play_4 rfl (lv_at hl 2 rfl) ?_
  refine k_callV (C := RX6) (T := TX6) (N := 8) (ci := 11) (q0 := 0) (wr := [(po, .inl (py1, 1, .inr (.inl pof)))]) (rest := [.int 0, .ref po]) (own := RL) ⟨hx, hb, hml, hown, hts⟩ (c_X6_play l hst D e0 pa prl ppc ppg ppl ped pg1 pg2 pg3 pg4 a1 a2 ) (cwV 2 hts gi_c_L_play_0 rfl rfl rfl (by decide +kernel) ⟨Nat.le_of_ble_eq_true rfl, Nat.le_of_ble_eq_true rfl⟩) hh rfl rfl [0, 1] [2] [] rfl rfl rfl rfl (by decide) rfl rfl hl rfl (Nat.le_of_ble_eq_true rfl) dL_play_5 ⟨Nat.le_of_ble_eq_true rfl, (Nat.le_of_ble_eq_true rfl)⟩ (fun E ce q9 H locs hE hh hq hv hcl => ?_) (fun _ _ _ _ _ h _ => h.elim)
  refine k_catch (own := RL) (name := "java/lang/IndexOutOfBoundsException") hown hex [] ⟨0, 10, 13, 19⟩ [⟨0, 10, 17, 21⟩] rfl (fun z hz => by simp at hz) (by decide) (by decide) (hts _ (wo_c_L_play_in _ (List.mem_of_getElem? (i := 0) rfl))) hE (by decide) hh hq hv hcl ?_
  refine W.eq (g2 := F0 m 13 ls [.ref q9]) rfl ?_
  refine lv_astore (lv' := [(4, .ref q9), (0, .ref pa), (1, .int a1), (2, .int a2), (3, .ref po)]) hx hb dL_play_13 hl (by decide) rfl (fun ls hl => ?_)
  refine lv_iconst (v := 1) hx hb dL_play_15 (by decide) ?_
  exact k_endi hx hb hr hlocks hh ⟨rfl, rfl, rfl⟩ [0] [0] rfl rfl rfl (Nat.le_of_ble_eq_true rfl) (Nat.le_of_ble_eq_true rfl) dL_play_16
def wo_c_L_heard : List Cond := [Cond.classLink RL 68 "java/util/NoSuchElementException"]
def wk_c_L_heard : List Cond := Cond.codeWith yL_heard cL_heard 4 (some .int) [(0, 9, 12, 68)] :: (wo_c_L_heard ++ (wsV RL 89 RX6 yX6_heard wk_c_X6_heard))
theorem wo_c_L_heard_in : ∀ w ∈ wo_c_L_heard, w ∈ wk_c_L_heard := fun w h => List.mem_cons_of_mem _ (List.mem_append_left _ h)
theorem gi_c_L_heard_0 : GoodIn wk_c_L_heard (wsV RL 89 RX6 yX6_heard wk_c_X6_heard) := fun w h => ⟨List.mem_cons_of_mem _ (List.mem_append_right _ h), good_of_word (kg_V gk_c_X6_heard w h)⟩
theorem gk_c_L_heard : ∀ w ∈ wk_c_L_heard, goodWord w = true := List.forall_mem_cons.mpr ⟨rfl, (List.forall_mem_append.mpr ⟨(show ∀ w ∈ wo_c_L_heard, goodWord w = true by decide +kernel), (kg_V gk_c_X6_heard)⟩)⟩
set_option maxHeartbeats 4000000 in
set_option maxRecDepth 100000 in
theorem c_L_heard (l : Launch) (hst : l.stackTraces = false) (D : va_G) (e0 : kE) (pa : Nat) (prl : Nat) (ppc : Nat) (ppg : Nat) (ppl : Nat) (ped : Nat) (pg1 : Nat) (pg2 : Nat) (pg3 : Nat) (pg4 : Nat) (a1 : Int32) (po : Nat) (py1 : ClassId) (pof : Nat → Int64)  : kM l yL_heard wk_c_L_heard 8 142 1 6 D kStr e0 [(py1, .long)] [(pa, .inr (11, [.ref prl, .int 0, .ref ppc, .int 0, .ref ppg, .ref ppl, .ref ped, .int 0])), (ppg, .inr (9, [.ref pg1, .int 0, .ref pg2, .int 0, .ref pg3, .ref pg4])), (po, .inl (py1, 1, .inr (.inl pof)))] [.ref pa, .int a1, .ref po] (fun v w t => v = some (.int 1) ∧ w = [(po, .inl (py1, 1, .inr (.inl pof)))] ∧ t = [(py1, .long)]) (fun _ => False) := by
  refine k_ofX (cc := cL_heard) (maxL := 4) (ret := (some .int)) (hhs := [(0, 9, 12, 68)]) (by decide) rfl (Nat.le_of_ble_eq_true rfl) ?_
  intro p e s m args below meth c A ls hx hb hr hts hown hlocks hml hex hh hl
  have hown : s.vm.findClass RL = some m.cls := hown
  have hl : lv_has ls 4 [(0, .ref pa), (1, .int a1), (2, .ref po)] := hl
  refine lv_aload_n hx hb dL_heard_0 rfl (lv_at hl 2 rfl) ?_
  refine lv_iconst (v := 0) hx hb dL_heard_1 (by decide) ?_
  refine lv_aload_n hx hb dL_heard_2 rfl (lv_at hl 0 rfl) ?_
  refine lv_iload_n hx hb dL_heard_3 rfl (lv_at hl 1 rfl) ?_
  refine k_callV (C := RX6) (T := TX6) (N := 8) (ci := 11) (q0 := 0) (wr := [(po, .inl (py1, 1, .inr (.inl pof)))]) (rest := [.int 0, .ref po]) (own := RL) ⟨hx, hb, hml, hown, hts⟩ (c_X6_heard l hst D e0 pa prl ppc ppg ppl ped pg1 pg2 pg3 pg4 a1 ) (cwV 1 hts gi_c_L_heard_0 rfl rfl rfl (by decide +kernel) ⟨Nat.le_of_ble_eq_true rfl, Nat.le_of_ble_eq_true rfl⟩) hh rfl rfl [0, 1] [2] [] rfl rfl rfl rfl (by decide) rfl rfl hl rfl (Nat.le_of_ble_eq_true rfl) dL_heard_4 ⟨Nat.le_of_ble_eq_true rfl, (Nat.le_of_ble_eq_true rfl)⟩ (fun E ce q9 H locs hE hh hq hv hcl => ?_) (fun _ _ _ _ _ h _ => h.elim)
  refine k_catch (own := RL) (name := "java/util/NoSuchElementException") hown hex [] ⟨0, 9, 12, 68⟩ [] rfl (fun z hz => by simp at hz) (by decide) (by decide) (hts _ (wo_c_L_heard_in _ (List.mem_of_getElem? (i := 0) rfl))) hE (by decide) hh hq hv hcl ?_
  refine W.eq (g2 := F0 m 12 ls [.ref q9]) rfl ?_
  refine lv_astore_n (lv' := [(3, .ref q9), (0, .ref pa), (1, .int a1), (2, .ref po)]) hx hb dL_heard_12 rfl hl (by decide) rfl (fun ls hl => ?_)
  refine lv_iconst (v := 1) hx hb dL_heard_13 (by decide) ?_
  exact k_endi hx hb hr hlocks hh ⟨rfl, rfl, rfl⟩ [0] [0] rfl rfl rfl (Nat.le_of_ble_eq_true rfl) (Nat.le_of_ble_eq_true rfl) dL_heard_14
def wo_c_L_failedAt : List Cond := [Cond.classLink RL 19 "java/lang/IndexOutOfBoundsException"]
def wk_c_L_failedAt : List Cond := Cond.codeWith yL_failedAt cL_failedAt 4 (some .int) [(0, 9, 12, 19)] :: (wo_c_L_failedAt ++ (wsV RL 101 RX6 yX6_failedAt wk_c_X6_failedAt))
theorem wo_c_L_failedAt_in : ∀ w ∈ wo_c_L_failedAt, w ∈ wk_c_L_failedAt := fun w h => List.mem_cons_of_mem _ (List.mem_append_left _ h)
theorem gi_c_L_failedAt_0 : GoodIn wk_c_L_failedAt (wsV RL 101 RX6 yX6_failedAt wk_c_X6_failedAt) := fun w h => ⟨List.mem_cons_of_mem _ (List.mem_append_right _ h), good_of_word (kg_V gk_c_X6_failedAt w h)⟩
theorem gk_c_L_failedAt : ∀ w ∈ wk_c_L_failedAt, goodWord w = true := List.forall_mem_cons.mpr ⟨rfl, (List.forall_mem_append.mpr ⟨(show ∀ w ∈ wo_c_L_failedAt, goodWord w = true by decide +kernel), (kg_V gk_c_X6_failedAt)⟩)⟩
set_option maxHeartbeats 4000000 in
set_option maxRecDepth 100000 in
theorem c_L_failedAt (l : Launch) (hst : l.stackTraces = false) (D : va_G) (e0 : kE) (pa : Nat) (prl : Nat) (ppc : Nat) (ppg : Nat) (ppl : Nat) (ped : Nat) (pl1 : Nat) (pl2 : Nat) (pl3 : Nat) (pl4 : Nat) (pl5 : Nat) (a1 : Int32) (po : Nat) (py1 : ClassId) (pof : Nat → Int64)  : kM l yL_failedAt wk_c_L_failedAt 8 142 1 6 D kStr e0 [(py1, .long)] [(pa, .inr (11, [.ref prl, .int 0, .ref ppc, .int 0, .ref ppg, .ref ppl, .ref ped, .int 0])), (ppl, .inr (8, [.ref pl1, .ref pl2, .int 0, .ref pl3, .int 0, .ref pl4, .int 0, .ref pl5, .int 0, .int 0, .int 0])), (po, .inl (py1, 1, .inr (.inl pof)))] [.ref pa, .int a1, .ref po] (fun v w t => v = some (.int 1) ∧ w = [(po, .inl (py1, 1, .inr (.inl pof)))] ∧ t = [(py1, .long)]) (fun _ => False) := by
  refine k_ofX (cc := cL_failedAt) (maxL := 4) (ret := (some .int)) (hhs := [(0, 9, 12, 19)]) (by decide) rfl (Nat.le_of_ble_eq_true rfl) ?_
  intro p e s m args below meth c A ls hx hb hr hts hown hlocks hml hex hh hl
  have hown : s.vm.findClass RL = some m.cls := hown
  have hl : lv_has ls 4 [(0, .ref pa), (1, .int a1), (2, .ref po)] := hl
  refine lv_aload_n hx hb dL_failedAt_0 rfl (lv_at hl 2 rfl) ?_
  refine lv_iconst (v := 0) hx hb dL_failedAt_1 (by decide) ?_
  refine lv_aload_n hx hb dL_failedAt_2 rfl (lv_at hl 0 rfl) ?_
  refine lv_iload_n hx hb dL_failedAt_3 rfl (lv_at hl 1 rfl) ?_
  refine k_callV (C := RX6) (T := TX6) (N := 8) (ci := 11) (q0 := 0) (wr := [(po, .inl (py1, 1, .inr (.inl pof)))]) (rest := [.int 0, .ref po]) (own := RL) ⟨hx, hb, hml, hown, hts⟩ (c_X6_failedAt l hst D e0 pa prl ppc ppg ppl ped pl1 pl2 pl3 pl4 pl5 a1 ) (cwV 1 hts gi_c_L_failedAt_0 rfl rfl rfl (by decide +kernel) ⟨Nat.le_of_ble_eq_true rfl, Nat.le_of_ble_eq_true rfl⟩) hh rfl rfl [0, 1] [2] [] rfl rfl rfl rfl (by decide) rfl rfl hl rfl (Nat.le_of_ble_eq_true rfl) dL_failedAt_4 ⟨Nat.le_of_ble_eq_true rfl, (Nat.le_of_ble_eq_true rfl)⟩ (fun E ce q9 H locs hE hh hq hv hcl => ?_) (fun _ _ _ _ _ h _ => h.elim)
  refine k_catch (own := RL) (name := "java/lang/IndexOutOfBoundsException") hown hex [] ⟨0, 9, 12, 19⟩ [] rfl (fun z hz => by simp at hz) (by decide) (by decide) (hts _ (wo_c_L_failedAt_in _ (List.mem_of_getElem? (i := 0) rfl))) hE (by decide) hh hq hv hcl ?_
  refine W.eq (g2 := F0 m 12 ls [.ref q9]) rfl ?_
  refine lv_astore_n (lv' := [(3, .ref q9), (0, .ref pa), (1, .int a1), (2, .ref po)]) hx hb dL_failedAt_12 rfl hl (by decide) rfl (fun ls hl => ?_)
  refine lv_iconst (v := 1) hx hb dL_failedAt_13 (by decide) ?_
  exact k_endi hx hb hr hlocks hh ⟨rfl, rfl, rfl⟩ [0] [0] rfl rfl rfl (Nat.le_of_ble_eq_true rfl) (Nat.le_of_ble_eq_true rfl) dL_failedAt_14
def wo_c_L_father : List Cond := [Cond.classLink RL 19 "java/lang/IndexOutOfBoundsException"]
def wk_c_L_father : List Cond := Cond.codeWith yL_father cL_father 4 (some .int) [(0, 9, 12, 19), (0, 9, 15, 41)] :: (wo_c_L_father ++ (wsV RL 104 RX6 yX6_father wk_c_X6_father))
theorem wo_c_L_father_in : ∀ w ∈ wo_c_L_father, w ∈ wk_c_L_father := fun w h => List.mem_cons_of_mem _ (List.mem_append_left _ h)
theorem gi_c_L_father_0 : GoodIn wk_c_L_father (wsV RL 104 RX6 yX6_father wk_c_X6_father) := fun w h => ⟨List.mem_cons_of_mem _ (List.mem_append_right _ h), good_of_word (kg_V gk_c_X6_father w h)⟩
theorem gk_c_L_father : ∀ w ∈ wk_c_L_father, goodWord w = true := List.forall_mem_cons.mpr ⟨rfl, (List.forall_mem_append.mpr ⟨(show ∀ w ∈ wo_c_L_father, goodWord w = true by decide +kernel), (kg_V gk_c_X6_father)⟩)⟩
set_option maxHeartbeats 4000000 in
set_option maxRecDepth 100000 in
theorem c_L_father (l : Launch) (hst : l.stackTraces = false) (D : va_G) (e0 : kE) (pa : Nat) (prl : Nat) (ppc : Nat) (ppg : Nat) (ppl : Nat) (ped : Nat) (pl1 : Nat) (pl2 : Nat) (pl3 : Nat) (pl4 : Nat) (pl5 : Nat) (a1 : Int32) (po : Nat) (py1 : ClassId) (pof : Nat → Int64)  : kM l yL_father wk_c_L_father 8 142 1 6 D kStr e0 [(py1, .long)] [(pa, .inr (11, [.ref prl, .int 0, .ref ppc, .int 0, .ref ppg, .ref ppl, .ref ped, .int 0])), (ppl, .inr (8, [.ref pl1, .ref pl2, .int 0, .ref pl3, .int 0, .ref pl4, .int 0, .ref pl5, .int 0, .int 0, .int 0])), (po, .inl (py1, 1, .inr (.inl pof)))] [.ref pa, .int a1, .ref po] (fun v w t => v = some (.int 1) ∧ w = [(po, .inl (py1, 1, .inr (.inl pof)))] ∧ t = [(py1, .long)]) (fun _ => False) := by
  refine k_ofX (cc := cL_father) (maxL := 4) (ret := (some .int)) (hhs := [(0, 9, 12, 19), (0, 9, 15, 41)]) (by decide) rfl (Nat.le_of_ble_eq_true rfl) ?_
  intro p e s m args below meth c A ls hx hb hr hts hown hlocks hml hex hh hl
  have hown : s.vm.findClass RL = some m.cls := hown
  have hl : lv_has ls 4 [(0, .ref pa), (1, .int a1), (2, .ref po)] := hl
  refine lv_aload_n hx hb dL_father_0 rfl (lv_at hl 2 rfl) ?_
  refine lv_iconst (v := 0) hx hb dL_father_1 (by decide) ?_
  refine lv_aload_n hx hb dL_father_2 rfl (lv_at hl 0 rfl) ?_
  refine lv_iload_n hx hb dL_father_3 rfl (lv_at hl 1 rfl) ?_
  refine k_callV (C := RX6) (T := TX6) (N := 8) (ci := 11) (q0 := 0) (wr := [(po, .inl (py1, 1, .inr (.inl pof)))]) (rest := [.int 0, .ref po]) (own := RL) ⟨hx, hb, hml, hown, hts⟩ (c_X6_father l hst D e0 pa prl ppc ppg ppl ped pl1 pl2 pl3 pl4 pl5 a1 ) (cwV 1 hts gi_c_L_father_0 rfl rfl rfl (by decide +kernel) ⟨Nat.le_of_ble_eq_true rfl, Nat.le_of_ble_eq_true rfl⟩) hh rfl rfl [0, 1] [2] [] rfl rfl rfl rfl (by decide) rfl rfl hl rfl (Nat.le_of_ble_eq_true rfl) dL_father_4 ⟨Nat.le_of_ble_eq_true rfl, (Nat.le_of_ble_eq_true rfl)⟩ (fun E ce q9 H locs hE hh hq hv hcl => ?_) (fun _ _ _ _ _ h _ => h.elim)
  refine k_catch (own := RL) (name := "java/lang/IndexOutOfBoundsException") hown hex [] ⟨0, 9, 12, 19⟩ [⟨0, 9, 15, 41⟩] rfl (fun z hz => by simp at hz) (by decide) (by decide) (hts _ (wo_c_L_father_in _ (List.mem_of_getElem? (i := 0) rfl))) hE (by decide) hh hq hv hcl ?_
  refine W.eq (g2 := F0 m 12 ls [.ref q9]) rfl ?_
  refine lv_astore_n (lv' := [(3, .ref q9), (0, .ref pa), (1, .int a1), (2, .ref po)]) hx hb dL_father_12 rfl hl (by decide) rfl (fun ls hl => ?_)
  refine lv_iconst (v := 1) hx hb dL_father_13 (by decide) ?_
  exact k_endi hx hb hr hlocks hh ⟨rfl, rfl, rfl⟩ [0] [0] rfl rfl rfl (Nat.le_of_ble_eq_true rfl) (Nat.le_of_ble_eq_true rfl) dL_father_14
def wo_c_L_mother : List Cond := [Cond.classLink RL 19 "java/lang/IndexOutOfBoundsException"]
def wk_c_L_mother : List Cond := Cond.codeWith yL_mother cL_mother 4 (some .int) [(0, 9, 12, 19), (0, 9, 15, 13)] :: (wo_c_L_mother ++ (wsV RL 107 RX6 yX6_mother wk_c_X6_mother))
theorem wo_c_L_mother_in : ∀ w ∈ wo_c_L_mother, w ∈ wk_c_L_mother := fun w h => List.mem_cons_of_mem _ (List.mem_append_left _ h)
theorem gi_c_L_mother_0 : GoodIn wk_c_L_mother (wsV RL 107 RX6 yX6_mother wk_c_X6_mother) := fun w h => ⟨List.mem_cons_of_mem _ (List.mem_append_right _ h), good_of_word (kg_V gk_c_X6_mother w h)⟩
theorem gk_c_L_mother : ∀ w ∈ wk_c_L_mother, goodWord w = true := List.forall_mem_cons.mpr ⟨rfl, (List.forall_mem_append.mpr ⟨(show ∀ w ∈ wo_c_L_mother, goodWord w = true by decide +kernel), (kg_V gk_c_X6_mother)⟩)⟩
set_option maxHeartbeats 4000000 in
set_option maxRecDepth 100000 in
theorem c_L_mother (l : Launch) (hst : l.stackTraces = false) (D : va_G) (e0 : kE) (pa : Nat) (prl : Nat) (ppc : Nat) (ppg : Nat) (ppl : Nat) (ped : Nat) (pl1 : Nat) (pl2 : Nat) (pl3 : Nat) (pl4 : Nat) (pl5 : Nat) (a1 : Int32) (po : Nat) (py1 : ClassId) (pof : Nat → Int64)  : kM l yL_mother wk_c_L_mother 8 142 1 6 D kStr e0 [(py1, .long)] [(pa, .inr (11, [.ref prl, .int 0, .ref ppc, .int 0, .ref ppg, .ref ppl, .ref ped, .int 0])), (ppl, .inr (8, [.ref pl1, .ref pl2, .int 0, .ref pl3, .int 0, .ref pl4, .int 0, .ref pl5, .int 0, .int 0, .int 0])), (po, .inl (py1, 1, .inr (.inl pof)))] [.ref pa, .int a1, .ref po] (fun v w t => v = some (.int 1) ∧ w = [(po, .inl (py1, 1, .inr (.inl pof)))] ∧ t = [(py1, .long)]) (fun _ => False) := by
  refine k_ofX (cc := cL_mother) (maxL := 4) (ret := (some .int)) (hhs := [(0, 9, 12, 19), (0, 9, 15, 13)]) (by decide) rfl (Nat.le_of_ble_eq_true rfl) ?_
  intro p e s m args below meth c A ls hx hb hr hts hown hlocks hml hex hh hl
  have hown : s.vm.findClass RL = some m.cls := hown
  have hl : lv_has ls 4 [(0, .ref pa), (1, .int a1), (2, .ref po)] := hl
  refine lv_aload_n hx hb dL_mother_0 rfl (lv_at hl 2 rfl) ?_
  refine lv_iconst (v := 0) hx hb dL_mother_1 (by decide) ?_
  refine lv_aload_n hx hb dL_mother_2 rfl (lv_at hl 0 rfl) ?_
  refine lv_iload_n hx hb dL_mother_3 rfl (lv_at hl 1 rfl) ?_
  refine k_callV (C := RX6) (T := TX6) (N := 8) (ci := 11) (q0 := 0) (wr := [(po, .inl (py1, 1, .inr (.inl pof)))]) (rest := [.int 0, .ref po]) (own := RL) ⟨hx, hb, hml, hown, hts⟩ (c_X6_mother l hst D e0 pa prl ppc ppg ppl ped pl1 pl2 pl3 pl4 pl5 a1 ) (cwV 1 hts gi_c_L_mother_0 rfl rfl rfl (by decide +kernel) ⟨Nat.le_of_ble_eq_true rfl, Nat.le_of_ble_eq_true rfl⟩) hh rfl rfl [0, 1] [2] [] rfl rfl rfl rfl (by decide) rfl rfl hl rfl (Nat.le_of_ble_eq_true rfl) dL_mother_4 ⟨Nat.le_of_ble_eq_true rfl, (Nat.le_of_ble_eq_true rfl)⟩ (fun E ce q9 H locs hE hh hq hv hcl => ?_) (fun _ _ _ _ _ h _ => h.elim)
  refine k_catch (own := RL) (name := "java/lang/IndexOutOfBoundsException") hown hex [] ⟨0, 9, 12, 19⟩ [⟨0, 9, 15, 13⟩] rfl (fun z hz => by simp at hz) (by decide) (by decide) (hts _ (wo_c_L_mother_in _ (List.mem_of_getElem? (i := 0) rfl))) hE (by decide) hh hq hv hcl ?_
  refine W.eq (g2 := F0 m 12 ls [.ref q9]) rfl ?_
  refine lv_astore_n (lv' := [(3, .ref q9), (0, .ref pa), (1, .int a1), (2, .ref po)]) hx hb dL_mother_12 rfl hl (by decide) rfl (fun ls hl => ?_)
  refine lv_iconst (v := 1) hx hb dL_mother_13 (by decide) ?_
  exact k_endi hx hb hr hlocks hh ⟨rfl, rfl, rfl⟩ [0] [0] rfl rfl rfl (Nat.le_of_ble_eq_true rfl) (Nat.le_of_ble_eq_true rfl) dL_mother_14
def wo_c_L_stamper : List Cond := [Cond.classLink RL 19 "java/lang/IndexOutOfBoundsException"]
def wk_c_L_stamper : List Cond := Cond.codeWith yL_stamper cL_stamper 4 (some .int) [(0, 9, 12, 19), (0, 9, 15, 13)] :: (wo_c_L_stamper ++ (wsV RL 110 RX6 yX6_stamper wk_c_X6_stamper))
theorem wo_c_L_stamper_in : ∀ w ∈ wo_c_L_stamper, w ∈ wk_c_L_stamper := fun w h => List.mem_cons_of_mem _ (List.mem_append_left _ h)
theorem gi_c_L_stamper_0 : GoodIn wk_c_L_stamper (wsV RL 110 RX6 yX6_stamper wk_c_X6_stamper) := fun w h => ⟨List.mem_cons_of_mem _ (List.mem_append_right _ h), good_of_word (kg_V gk_c_X6_stamper w h)⟩
theorem gk_c_L_stamper : ∀ w ∈ wk_c_L_stamper, goodWord w = true := List.forall_mem_cons.mpr ⟨rfl, (List.forall_mem_append.mpr ⟨(show ∀ w ∈ wo_c_L_stamper, goodWord w = true by decide +kernel), (kg_V gk_c_X6_stamper)⟩)⟩
set_option maxHeartbeats 4000000 in
set_option maxRecDepth 100000 in
theorem c_L_stamper (l : Launch) (hst : l.stackTraces = false) (D : va_G) (e0 : kE) (pa : Nat) (prl : Nat) (ppc : Nat) (ppg : Nat) (ppl : Nat) (ped : Nat) (pl1 : Nat) (pl2 : Nat) (pl3 : Nat) (pl4 : Nat) (pl5 : Nat) (a1 : Int32) (po : Nat) (py1 : ClassId) (pof : Nat → Int64)  : kM l yL_stamper wk_c_L_stamper 8 142 1 6 D kStr e0 [(py1, .long)] [(pa, .inr (11, [.ref prl, .int 0, .ref ppc, .int 0, .ref ppg, .ref ppl, .ref ped, .int 0])), (ppl, .inr (8, [.ref pl1, .ref pl2, .int 0, .ref pl3, .int 0, .ref pl4, .int 0, .ref pl5, .int 0, .int 0, .int 0])), (po, .inl (py1, 1, .inr (.inl pof)))] [.ref pa, .int a1, .ref po] (fun v w t => v = some (.int 1) ∧ w = [(po, .inl (py1, 1, .inr (.inl pof)))] ∧ t = [(py1, .long)]) (fun _ => False) := by
  refine k_ofX (cc := cL_stamper) (maxL := 4) (ret := (some .int)) (hhs := [(0, 9, 12, 19), (0, 9, 15, 13)]) (by decide) rfl (Nat.le_of_ble_eq_true rfl) ?_
  intro p e s m args below meth c A ls hx hb hr hts hown hlocks hml hex hh hl
  have hown : s.vm.findClass RL = some m.cls := hown
  have hl : lv_has ls 4 [(0, .ref pa), (1, .int a1), (2, .ref po)] := hl
  refine lv_aload_n hx hb dL_stamper_0 rfl (lv_at hl 2 rfl) ?_
  refine lv_iconst (v := 0) hx hb dL_stamper_1 (by decide) ?_
  refine lv_aload_n hx hb dL_stamper_2 rfl (lv_at hl 0 rfl) ?_
  refine lv_iload_n hx hb dL_stamper_3 rfl (lv_at hl 1 rfl) ?_
  refine k_callV (C := RX6) (T := TX6) (N := 8) (ci := 11) (q0 := 0) (wr := [(po, .inl (py1, 1, .inr (.inl pof)))]) (rest := [.int 0, .ref po]) (own := RL) ⟨hx, hb, hml, hown, hts⟩ (c_X6_stamper l hst D e0 pa prl ppc ppg ppl ped pl1 pl2 pl3 pl4 pl5 a1 ) (cwV 1 hts gi_c_L_stamper_0 rfl rfl rfl (by decide +kernel) ⟨Nat.le_of_ble_eq_true rfl, Nat.le_of_ble_eq_true rfl⟩) hh rfl rfl [0, 1] [2] [] rfl rfl rfl rfl (by decide) rfl rfl hl rfl (Nat.le_of_ble_eq_true rfl) dL_stamper_4 ⟨Nat.le_of_ble_eq_true rfl, (Nat.le_of_ble_eq_true rfl)⟩ (fun E ce q9 H locs hE hh hq hv hcl => ?_) (fun _ _ _ _ _ h _ => h.elim)
  refine k_catch (own := RL) (name := "java/lang/IndexOutOfBoundsException") hown hex [] ⟨0, 9, 12, 19⟩ [⟨0, 9, 15, 13⟩] rfl (fun z hz => by simp at hz) (by decide) (by decide) (hts _ (wo_c_L_stamper_in _ (List.mem_of_getElem? (i := 0) rfl))) hE (by decide) hh hq hv hcl ?_
  refine W.eq (g2 := F0 m 12 ls [.ref q9]) rfl ?_
  refine lv_astore_n (lv' := [(3, .ref q9), (0, .ref pa), (1, .int a1), (2, .ref po)]) hx hb dL_stamper_12 rfl hl (by decide) rfl (fun ls hl => ?_)
  refine lv_iconst (v := 1) hx hb dL_stamper_13 (by decide) ?_
  exact k_endi hx hb hr hlocks hh ⟨rfl, rfl, rfl⟩ [0] [0] rfl rfl rfl (Nat.le_of_ble_eq_true rfl) (Nat.le_of_ble_eq_true rfl) dL_stamper_14
def wo_c_L_press : List Cond := [Cond.classLink RL 19 "java/lang/IndexOutOfBoundsException"]
def wk_c_L_press : List Cond := Cond.codeWith yL_press cL_press 5 (some .int) [(0, 10, 13, 19), (0, 10, 17, 21), (0, 10, 21, 13)] :: (wo_c_L_press ++ (wsV RL 113 RX6 yX6_press wk_c_X6_press))
theorem wo_c_L_press_in : ∀ w ∈ wo_c_L_press, w ∈ wk_c_L_press := fun w h => List.mem_cons_of_mem _ (List.mem_append_left _ h)
theorem gi_c_L_press_0 : GoodIn wk_c_L_press (wsV RL 113 RX6 yX6_press wk_c_X6_press) := fun w h => ⟨List.mem_cons_of_mem _ (List.mem_append_right _ h), good_of_word (kg_V gk_c_X6_press w h)⟩
theorem gk_c_L_press : ∀ w ∈ wk_c_L_press, goodWord w = true := List.forall_mem_cons.mpr ⟨rfl, (List.forall_mem_append.mpr ⟨(show ∀ w ∈ wo_c_L_press, goodWord w = true by decide +kernel), (kg_V gk_c_X6_press)⟩)⟩
set_option maxHeartbeats 4000000 in
set_option maxRecDepth 100000 in
theorem c_L_press (l : Launch) (hst : l.stackTraces = false) (D : va_G) (e0 : kE) (pa : Nat) (prl : Nat) (ppc : Nat) (ppg : Nat) (ppl : Nat) (ped : Nat) (pl1 : Nat) (pl2 : Nat) (pl3 : Nat) (pl4 : Nat) (pl5 : Nat) (a1 : Int32) (a2 : Int32) (po : Nat) (py1 : ClassId) (pof : Nat → Int64)  : kM l yL_press wk_c_L_press 8 143 1 6 D kStr e0 [(py1, .long)] [(pa, .inr (11, [.ref prl, .int 0, .ref ppc, .int 0, .ref ppg, .ref ppl, .ref ped, .int 0])), (ppl, .inr (8, [.ref pl1, .ref pl2, .int 0, .ref pl3, .int 0, .ref pl4, .int 0, .ref pl5, .int 0, .int 0, .int 0])), (po, .inl (py1, 1, .inr (.inl pof)))] [.ref pa, .int a1, .int a2, .ref po] (fun v w t => v = some (.int 1) ∧ w = [(po, .inl (py1, 1, .inr (.inl pof)))] ∧ t = [(py1, .long)]) (fun _ => False) := by
  refine k_ofX (cc := cL_press) (maxL := 5) (ret := (some .int)) (hhs := [(0, 10, 13, 19), (0, 10, 17, 21), (0, 10, 21, 13)]) (by decide) rfl (Nat.le_of_ble_eq_true rfl) ?_
  intro p e s m args below meth c A ls hx hb hr hts hown hlocks hml hex hh hl
  have hown : s.vm.findClass RL = some m.cls := hown
  have hl : lv_has ls 5 [(0, .ref pa), (1, .int a1), (2, .int a2), (3, .ref po)] := hl
  refine lv_aload_n hx hb dL_press_0 rfl (lv_at hl 3 rfl) ?_
  refine lv_iconst (v := 0) hx hb dL_press_1 (by decide) ?_
  refine lv_aload_n hx hb dL_press_2 rfl (lv_at hl 0 rfl) ?_
  refine lv_iload_n hx hb dL_press_3 rfl (lv_at hl 1 rfl) ?_
  refine lv_iload_n hx hb dL_press_4 rfl (lv_at hl 2 rfl) ?_
  refine k_callV (C := RX6) (T := TX6) (N := 8) (ci := 11) (q0 := 0) (wr := [(po, .inl (py1, 1, .inr (.inl pof)))]) (rest := [.int 0, .ref po]) (own := RL) ⟨hx, hb, hml, hown, hts⟩ (c_X6_press l hst D e0 pa prl ppc ppg ppl ped pl1 pl2 pl3 pl4 pl5 a1 a2 ) (cwV 2 hts gi_c_L_press_0 rfl rfl rfl (by decide +kernel) ⟨Nat.le_of_ble_eq_true rfl, Nat.le_of_ble_eq_true rfl⟩) hh rfl rfl [0, 1] [2] [] rfl rfl rfl rfl (by decide) rfl rfl hl rfl (Nat.le_of_ble_eq_true rfl) dL_press_5 ⟨Nat.le_of_ble_eq_true rfl, (Nat.le_of_ble_eq_true rfl)⟩ (fun E ce q9 H locs hE hh hq hv hcl => ?_) (fun _ _ _ _ _ h _ => h.elim)
  refine k_catch (own := RL) (name := "java/lang/IndexOutOfBoundsException") hown hex [] ⟨0, 10, 13, 19⟩ [⟨0, 10, 17, 21⟩, ⟨0, 10, 21, 13⟩] rfl (fun z hz => by simp at hz) (by decide) (by decide) (hts _ (wo_c_L_press_in _ (List.mem_of_getElem? (i := 0) rfl))) hE (by decide) hh hq hv hcl ?_
  refine W.eq (g2 := F0 m 13 ls [.ref q9]) rfl ?_
  refine lv_astore (lv' := [(4, .ref q9), (0, .ref pa), (1, .int a1), (2, .int a2), (3, .ref po)]) hx hb dL_press_13 hl (by decide) rfl (fun ls hl => ?_)
  refine lv_iconst (v := 1) hx hb dL_press_15 (by decide) ?_
  exact k_endi hx hb hr hlocks hh ⟨rfl, rfl, rfl⟩ [0] [0] rfl rfl rfl (Nat.le_of_ble_eq_true rfl) (Nat.le_of_ble_eq_true rfl) dL_press_16
def wo_c_L_sides : List Cond := []
def wk_c_L_sides : List Cond := Cond.codeWith yL_sides cL_sides 4 (some .int) [(0, 9, 12, 21), (0, 9, 15, 41)] :: (wo_c_L_sides ++ (wsV RL 92 RX6 yX6_sides wk_c_X6_sides))
theorem wo_c_L_sides_in : ∀ w ∈ wo_c_L_sides, w ∈ wk_c_L_sides := fun w h => List.mem_cons_of_mem _ (List.mem_append_left _ h)
theorem gi_c_L_sides_0 : GoodIn wk_c_L_sides (wsV RL 92 RX6 yX6_sides wk_c_X6_sides) := fun w h => ⟨List.mem_cons_of_mem _ (List.mem_append_right _ h), good_of_word (kg_V gk_c_X6_sides w h)⟩
theorem gk_c_L_sides : ∀ w ∈ wk_c_L_sides, goodWord w = true := List.forall_mem_cons.mpr ⟨rfl, (List.forall_mem_append.mpr ⟨(show ∀ w ∈ wo_c_L_sides, goodWord w = true by decide +kernel), (kg_V gk_c_X6_sides)⟩)⟩
set_option maxHeartbeats 4000000 in
set_option maxRecDepth 100000 in
theorem c_L_sides (l : Launch) (hst : l.stackTraces = false) (D : va_G) (e0 : kE) (pa : Nat) (prl : Nat) (ppc : Nat) (ppg : Nat) (ppl : Nat) (ped : Nat) (pg1 : Nat) (pg2 : Nat) (pg3 : Nat) (pg4 : Nat) (a1 : Int32) (po : Nat) (py1 : ClassId) (pof : Nat → Int64) (h : 1 ≤ a1 ∧ a1 ≤ 99999) : kM l yL_sides wk_c_L_sides 3 68 0 0 D kStr e0 [(py1, .long)] [(pa, .inr (11, [.ref prl, .int 0, .ref ppc, .int 0, .ref ppg, .ref ppl, .ref ped, .int 0])), (ppg, .inr (9, [.ref pg1, .int 0, .ref pg2, .int 0, .ref pg3, .ref pg4])), (po, .inl (py1, 1, .inr (.inl pof)))] [.ref pa, .int a1, .ref po] (fun v w t => v = some (.int 0) ∧ w = [(po, .inl (py1, 1, .inr (.inl (vp_updL (pof) (0 : Int32).toNatClampNeg 0))))] ∧ t = [(py1, .long)]) (fun _ => False) := by
  refine k_ofX (cc := cL_sides) (maxL := 4) (ret := (some .int)) (hhs := [(0, 9, 12, 21), (0, 9, 15, 41)]) (by decide) rfl (Nat.le_of_ble_eq_true rfl) ?_
  intro p e s m args below meth c A ls hx hb hr hts hown hlocks hml hex hh hl
  have hown : s.vm.findClass RL = some m.cls := hown
  have hl : lv_has ls 4 [(0, .ref pa), (1, .int a1), (2, .ref po)] := hl
  refine lv_aload_n hx hb dL_sides_0 rfl (lv_at hl 2 rfl) ?_
  refine lv_iconst (v := 0) hx hb dL_sides_1 (by decide) ?_
  refine lv_aload_n hx hb dL_sides_2 rfl (lv_at hl 0 rfl) ?_
  refine lv_iload_n hx hb dL_sides_3 rfl (lv_at hl 1 rfl) ?_
  refine k_callV (C := RX6) (T := TX6) (N := 8) (ci := 11) (q0 := 0) (wr := [(po, .inl (py1, 1, .inr (.inl pof)))]) (rest := [.int 0, .ref po]) (own := RL) ⟨hx, hb, hml, hown, hts⟩ (c_X6_sides l hst D e0 pa prl ppc ppg ppl ped pg1 pg2 pg3 pg4 a1 h) (cwV 1 hts gi_c_L_sides_0 rfl rfl rfl (by decide +kernel) ⟨Nat.le_of_ble_eq_true rfl, Nat.le_of_ble_eq_true rfl⟩) hh rfl rfl [0, 1] [2] [] rfl rfl rfl rfl (by decide) rfl rfl hl rfl (Nat.le_of_ble_eq_true rfl) dL_sides_4 ⟨Nat.le_of_ble_eq_true rfl, (Nat.le_of_ble_eq_true rfl)⟩ (fun _ _ _ _ _ h => h.elim) (fun v w ty1 H locs hp hh => ?_)
  obtain ⟨rfl, rfl, rfl⟩ := hp
  have hh : kH D kStr e0 A s H [(po, .inl (py1, 1, .inr (.inl pof)))] [(py1, .long)] _ := hh
  refine W.eq (g2 := F0 m 7 ls [.int 0, .int 0, .ref po]) (by first | rfl | decide) ?_
  refine lv_i2l (v := 0) hx hb dL_sides_7 (by decide) ?_
  refine k_last (ws' := [(po, .inl (py1, 1, .inr (.inl (vp_updL (pof) (0 : Int32).toNatClampNeg 0))))]) hx hb hh 0 0 rfl rfl (by unfold vp_in; decide) dL_sides_8 rfl (fun H locs hh => ?_)
  refine lv_goto (tgt := 18) hx hb dL_sides_9 (by decide) ?_
  refine lv_iconst (v := 0) hx hb dL_sides_18 (by decide) ?_
  exact k_endi hx hb hr hlocks hh ⟨rfl, rfl, rfl⟩ [0] [0] rfl rfl rfl (Nat.le_of_ble_eq_true rfl) (Nat.le_of_ble_eq_true rfl) dL_sides_19
def wo_c_L_sides_bad : List Cond := [Cond.classLink RL 21 "java/lang/IllegalArgumentException"]
def wk_c_L_sides_bad : List Cond := Cond.codeWith yL_sides cL_sides 4 (some .int) [(0, 9, 12, 21), (0, 9, 15, 41)] :: (wo_c_L_sides_bad ++ (wsV RL 92 RX6 yX6_sides wk_c_X6_sides_bad))
theorem wo_c_L_sides_bad_in : ∀ w ∈ wo_c_L_sides_bad, w ∈ wk_c_L_sides_bad := fun w h => List.mem_cons_of_mem _ (List.mem_append_left _ h)
theorem gi_c_L_sides_bad_0 : GoodIn wk_c_L_sides_bad (wsV RL 92 RX6 yX6_sides wk_c_X6_sides_bad) := fun w h => ⟨List.mem_cons_of_mem _ (List.mem_append_right _ h), good_of_word (kg_V gk_c_X6_sides_bad w h)⟩
theorem gk_c_L_sides_bad : ∀ w ∈ wk_c_L_sides_bad, goodWord w = true := List.forall_mem_cons.mpr ⟨rfl, (List.forall_mem_append.mpr ⟨(show ∀ w ∈ wo_c_L_sides_bad, goodWord w = true by decide +kernel), (kg_V gk_c_X6_sides_bad)⟩)⟩
set_option maxHeartbeats 4000000 in
set_option maxRecDepth 100000 in
theorem c_L_sides_bad (l : Launch) (hst : l.stackTraces = false) (D : va_G) (e0 : kE) (pa : Nat) (prl : Nat) (ppc : Nat) (ppg : Nat) (ppl : Nat) (ped : Nat) (pg1 : Nat) (pg2 : Nat) (pg3 : Nat) (pg4 : Nat) (a1 : Int32) (po : Nat) (py1 : ClassId) (pof : Nat → Int64) (h : ¬ (1 ≤ a1 ∧ a1 ≤ 99999)) : kM l yL_sides wk_c_L_sides_bad 9 165 1 6 D kStr e0 [(py1, .long)] [(pa, .inr (11, [.ref prl, .int 0, .ref ppc, .int 0, .ref ppg, .ref ppl, .ref ped, .int 0])), (ppg, .inr (9, [.ref pg1, .int 0, .ref pg2, .int 0, .ref pg3, .ref pg4])), (po, .inl (py1, 1, .inr (.inl pof)))] [.ref pa, .int a1, .ref po] (fun v w t => v = some (.int 1) ∧ w = [(po, .inl (py1, 1, .inr (.inl pof)))] ∧ t = [(py1, .long)]) (fun _ => False) := by
  refine k_ofX (cc := cL_sides) (maxL := 4) (ret := (some .int)) (hhs := [(0, 9, 12, 21), (0, 9, 15, 41)]) (by decide) rfl (Nat.le_of_ble_eq_true rfl) ?_
  intro p e s m args below meth c A ls hx hb hr hts hown hlocks hml hex hh hl
  have hown : s.vm.findClass RL = some m.cls := hown
  have hl : lv_has ls 4 [(0, .ref pa), (1, .int a1), (2, .ref po)] := hl
  refine lv_aload_n hx hb dL_sides_0 rfl (lv_at hl 2 rfl) ?_
  refine lv_iconst (v := 0) hx hb dL_sides_1 (by decide) ?_
  refine lv_aload_n hx hb dL_sides_2 rfl (lv_at hl 0 rfl) ?_
  refine lv_iload_n hx hb dL_sides_3 rfl (lv_at hl 1 rfl) ?_
  refine k_callV (C := RX6) (T := TX6) (N := 8) (ci := 11) (q0 := 0) (wr := [(po, .inl (py1, 1, .inr (.inl pof)))]) (rest := [.int 0, .ref po]) (own := RL) ⟨hx, hb, hml, hown, hts⟩ (c_X6_sides_bad l hst D e0 pa prl ppc ppg ppl ped pg1 pg2 pg3 pg4 a1 h) (cwV 1 hts gi_c_L_sides_bad_0 rfl rfl rfl (by decide +kernel) ⟨Nat.le_of_ble_eq_true rfl, Nat.le_of_ble_eq_true rfl⟩) hh rfl rfl [0, 1] [2] [] rfl rfl rfl rfl (by decide) rfl rfl hl rfl (Nat.le_of_ble_eq_true rfl) dL_sides_4 ⟨Nat.le_of_ble_eq_true rfl, (Nat.le_of_ble_eq_true rfl)⟩ (fun E ce q9 H locs hE hh hq hv hcl => ?_) (fun _ _ _ _ _ h _ => h.elim)
  refine k_catch (own := RL) (name := "java/lang/IllegalArgumentException") hown hex [] ⟨0, 9, 12, 21⟩ [⟨0, 9, 15, 41⟩] rfl (fun z hz => by simp at hz) (by decide) (by decide) (hts _ (wo_c_L_sides_bad_in _ (List.mem_of_getElem? (i := 0) rfl))) hE (by decide) hh hq hv hcl ?_
  refine W.eq (g2 := F0 m 12 ls [.ref q9]) rfl ?_
  refine lv_astore_n (lv' := [(3, .ref q9), (0, .ref pa), (1, .int a1), (2, .ref po)]) hx hb dL_sides_12 rfl hl (by decide) rfl (fun ls hl => ?_)
  refine lv_iconst (v := 1) hx hb dL_sides_13 (by decide) ?_
  exact k_endi hx hb hr hlocks hh ⟨rfl, rfl, rfl⟩ [0] [0] rfl rfl rfl (Nat.le_of_ble_eq_true rfl) (Nat.le_of_ble_eq_true rfl) dL_sides_14
def wo_c_L_engrave : List Cond := [Cond.classLink RL 21 "java/lang/IllegalArgumentException", Cond.classLink RL 41 "java/lang/UnsupportedOperationException", Cond.classLink RL 68 "java/util/NoSuchElementException"]
def wk_c_L_engrave : List Cond := Cond.codeWith yL_engrave cL_engrave 5 (some .int) [(0, 10, 13, 21), (0, 10, 17, 41), (0, 10, 21, 68), (0, 10, 25, 13)] :: (wo_c_L_engrave ++ (wsV RL 98 RX6 yX6_engrave wk_c_X6_engrave))
theorem wo_c_L_engrave_in : ∀ w ∈ wo_c_L_engrave, w ∈ wk_c_L_engrave := fun w h => List.mem_cons_of_mem _ (List.mem_append_left _ h)
theorem gi_c_L_engrave_0 : GoodIn wk_c_L_engrave (wsV RL 98 RX6 yX6_engrave wk_c_X6_engrave) := fun w h => ⟨List.mem_cons_of_mem _ (List.mem_append_right _ h), good_of_word (kg_V gk_c_X6_engrave w h)⟩
theorem gk_c_L_engrave : ∀ w ∈ wk_c_L_engrave, goodWord w = true := List.forall_mem_cons.mpr ⟨rfl, (List.forall_mem_append.mpr ⟨(show ∀ w ∈ wo_c_L_engrave, goodWord w = true by decide +kernel), (kg_V gk_c_X6_engrave)⟩)⟩
set_option maxHeartbeats 4000000 in
set_option maxRecDepth 100000 in
theorem c_L_engrave (l : Launch) (hst : l.stackTraces = false) (D : va_G) (e0 : kE) (pa : Nat) (prl : Nat) (ppc : Nat) (ppg : Nat) (ppl : Nat) (ped : Nat) (pg1 : Nat) (pg2 : Nat) (pg3 : Nat) (pg4 : Nat) (a1 : Int32) (a2 : Int32) (po : Nat) (py1 : ClassId) (pof : Nat → Int64) (h : 1 ≤ a2 ∧ a2 ≤ 99999) : kM l yL_engrave wk_c_L_engrave 8 146 1 6 D kStr e0 [(py1, .long)] [(pa, .inr (11, [.ref prl, .int 0, .ref ppc, .int 0, .ref ppg, .ref ppl, .ref ped, .int 0])), (ppg, .inr (9, [.ref pg1, .int 0, .ref pg2, .int 0, .ref pg3, .ref pg4])), (po, .inl (py1, 1, .inr (.inl pof)))] [.ref pa, .int a1, .int a2, .ref po] (fun v w t => v = some (.int 3) ∧ w = [(po, .inl (py1, 1, .inr (.inl pof)))] ∧ t = [(py1, .long)]) (fun _ => False) := by
  refine k_ofX (cc := cL_engrave) (maxL := 5) (ret := (some .int)) (hhs := [(0, 10, 13, 21), (0, 10, 17, 41), (0, 10, 21, 68), (0, 10, 25, 13)]) (by decide) rfl (Nat.le_of_ble_eq_true rfl) ?_
  intro p e s m args below meth c A ls hx hb hr hts hown hlocks hml hex hh hl
  have hown : s.vm.findClass RL = some m.cls := hown
  have hl : lv_has ls 5 [(0, .ref pa), (1, .int a1), (2, .int a2), (3, .ref po)] := hl
  refine lv_aload_n hx hb dL_engrave_0 rfl (lv_at hl 3 rfl) ?_
  refine lv_iconst (v := 0) hx hb dL_engrave_1 (by decide) ?_
  refine lv_aload_n hx hb dL_engrave_2 rfl (lv_at hl 0 rfl) ?_
  refine lv_iload_n hx hb dL_engrave_3 rfl (lv_at hl 1 rfl) ?_
  refine lv_iload_n hx hb dL_engrave_4 rfl (lv_at hl 2 rfl) ?_
  refine k_callV (C := RX6) (T := TX6) (N := 8) (ci := 11) (q0 := 0) (wr := [(po, .inl (py1, 1, .inr (.inl pof)))]) (rest := [.int 0, .ref po]) (own := RL) ⟨hx, hb, hml, hown, hts⟩ (c_X6_engrave l hst D e0 pa prl ppc ppg ppl ped pg1 pg2 pg3 pg4 a1 a2 h) (cwV 2 hts gi_c_L_engrave_0 rfl rfl rfl (by decide +kernel) ⟨Nat.le_of_ble_eq_true rfl, Nat.le_of_ble_eq_true rfl⟩) hh rfl rfl [0, 1] [2] [] rfl rfl rfl rfl (by decide) rfl rfl hl rfl (Nat.le_of_ble_eq_true rfl) dL_engrave_5 ⟨Nat.le_of_ble_eq_true rfl, (Nat.le_of_ble_eq_true rfl)⟩ (fun E ce q9 H locs hE hh hq hv hcl => ?_) (fun _ _ _ _ _ h _ => h.elim)
  refine k_catch (own := RL) (name := "java/util/NoSuchElementException") hown hex [⟨0, 10, 13, 21⟩, ⟨0, 10, 17, 41⟩] ⟨0, 10, 21, 68⟩ [⟨0, 10, 25, 13⟩] rfl (fun z hz => by simp only [List.mem_cons, List.not_mem_nil, or_false] at hz; rcases hz with rfl | rfl <;> first | (exact ⟨by decide, _, (hts _ (wo_c_L_engrave_in _ (List.mem_of_getElem? (i := 0) rfl))), by rw [hE]; decide⟩) | (exact ⟨by decide, _, (hts _ (wo_c_L_engrave_in _ (List.mem_of_getElem? (i := 1) rfl))), by rw [hE]; decide⟩)) (by decide) (by decide) (hts _ (wo_c_L_engrave_in _ (List.mem_of_getElem? (i := 2) rfl))) hE (by decide) hh hq hv hcl ?_
  refine W.eq (g2 := F0 m 21 ls [.ref q9]) rfl ?_
  refine lv_astore (lv' := [(4, .ref q9), (0, .ref pa), (1, .int a1), (2, .int a2), (3, .ref po)]) hx hb dL_engrave_21 hl (by decide) rfl (fun ls hl => ?_)
  refine lv_iconst (v := 3) hx hb dL_engrave_23 (by decide) ?_
  exact k_endi hx hb hr hlocks hh ⟨rfl, rfl, rfl⟩ [0] [0] rfl rfl rfl (Nat.le_of_ble_eq_true rfl) (Nat.le_of_ble_eq_true rfl) dL_engrave_24
def wo_c_L_engrave_bad : List Cond := [Cond.classLink RL 21 "java/lang/IllegalArgumentException"]
def wk_c_L_engrave_bad : List Cond := Cond.codeWith yL_engrave cL_engrave 5 (some .int) [(0, 10, 13, 21), (0, 10, 17, 41), (0, 10, 21, 68), (0, 10, 25, 13)] :: (wo_c_L_engrave_bad ++ (wsV RL 98 RX6 yX6_engrave wk_c_X6_engrave_bad))
theorem wo_c_L_engrave_bad_in : ∀ w ∈ wo_c_L_engrave_bad, w ∈ wk_c_L_engrave_bad := fun w h => List.mem_cons_of_mem _ (List.mem_append_left _ h)
theorem gi_c_L_engrave_bad_0 : GoodIn wk_c_L_engrave_bad (wsV RL 98 RX6 yX6_engrave wk_c_X6_engrave_bad) := fun w h => ⟨List.mem_cons_of_mem _ (List.mem_append_right _ h), good_of_word (kg_V gk_c_X6_engrave_bad w h)⟩
theorem gk_c_L_engrave_bad : ∀ w ∈ wk_c_L_engrave_bad, goodWord w = true := List.forall_mem_cons.mpr ⟨rfl, (List.forall_mem_append.mpr ⟨(show ∀ w ∈ wo_c_L_engrave_bad, goodWord w = true by decide +kernel), (kg_V gk_c_X6_engrave_bad)⟩)⟩
set_option maxHeartbeats 4000000 in
set_option maxRecDepth 100000 in
theorem c_L_engrave_bad (l : Launch) (hst : l.stackTraces = false) (D : va_G) (e0 : kE) (pa : Nat) (prl : Nat) (ppc : Nat) (ppg : Nat) (ppl : Nat) (ped : Nat) (pg1 : Nat) (pg2 : Nat) (pg3 : Nat) (pg4 : Nat) (a1 : Int32) (a2 : Int32) (po : Nat) (py1 : ClassId) (pof : Nat → Int64) (h : ¬ (1 ≤ a2 ∧ a2 ≤ 99999)) : kM l yL_engrave wk_c_L_engrave_bad 9 169 1 6 D kStr e0 [(py1, .long)] [(pa, .inr (11, [.ref prl, .int 0, .ref ppc, .int 0, .ref ppg, .ref ppl, .ref ped, .int 0])), (ppg, .inr (9, [.ref pg1, .int 0, .ref pg2, .int 0, .ref pg3, .ref pg4])), (po, .inl (py1, 1, .inr (.inl pof)))] [.ref pa, .int a1, .int a2, .ref po] (fun v w t => v = some (.int 1) ∧ w = [(po, .inl (py1, 1, .inr (.inl pof)))] ∧ t = [(py1, .long)]) (fun _ => False) := by
  refine k_ofX (cc := cL_engrave) (maxL := 5) (ret := (some .int)) (hhs := [(0, 10, 13, 21), (0, 10, 17, 41), (0, 10, 21, 68), (0, 10, 25, 13)]) (by decide) rfl (Nat.le_of_ble_eq_true rfl) ?_
  intro p e s m args below meth c A ls hx hb hr hts hown hlocks hml hex hh hl
  have hown : s.vm.findClass RL = some m.cls := hown
  have hl : lv_has ls 5 [(0, .ref pa), (1, .int a1), (2, .int a2), (3, .ref po)] := hl
  refine lv_aload_n hx hb dL_engrave_0 rfl (lv_at hl 3 rfl) ?_
  refine lv_iconst (v := 0) hx hb dL_engrave_1 (by decide) ?_
  refine lv_aload_n hx hb dL_engrave_2 rfl (lv_at hl 0 rfl) ?_
  refine lv_iload_n hx hb dL_engrave_3 rfl (lv_at hl 1 rfl) ?_
  refine lv_iload_n hx hb dL_engrave_4 rfl (lv_at hl 2 rfl) ?_
  refine k_callV (C := RX6) (T := TX6) (N := 8) (ci := 11) (q0 := 0) (wr := [(po, .inl (py1, 1, .inr (.inl pof)))]) (rest := [.int 0, .ref po]) (own := RL) ⟨hx, hb, hml, hown, hts⟩ (c_X6_engrave_bad l hst D e0 pa prl ppc ppg ppl ped pg1 pg2 pg3 pg4 a1 a2 h) (cwV 2 hts gi_c_L_engrave_bad_0 rfl rfl rfl (by decide +kernel) ⟨Nat.le_of_ble_eq_true rfl, Nat.le_of_ble_eq_true rfl⟩) hh rfl rfl [0, 1] [2] [] rfl rfl rfl rfl (by decide) rfl rfl hl rfl (Nat.le_of_ble_eq_true rfl) dL_engrave_5 ⟨Nat.le_of_ble_eq_true rfl, (Nat.le_of_ble_eq_true rfl)⟩ (fun E ce q9 H locs hE hh hq hv hcl => ?_) (fun _ _ _ _ _ h _ => h.elim)
  refine k_catch (own := RL) (name := "java/lang/IllegalArgumentException") hown hex [] ⟨0, 10, 13, 21⟩ [⟨0, 10, 17, 41⟩, ⟨0, 10, 21, 68⟩, ⟨0, 10, 25, 13⟩] rfl (fun z hz => by simp at hz) (by decide) (by decide) (hts _ (wo_c_L_engrave_bad_in _ (List.mem_of_getElem? (i := 0) rfl))) hE (by decide) hh hq hv hcl ?_
  refine W.eq (g2 := F0 m 13 ls [.ref q9]) rfl ?_
  refine lv_astore (lv' := [(4, .ref q9), (0, .ref pa), (1, .int a1), (2, .int a2), (3, .ref po)]) hx hb dL_engrave_13 hl (by decide) rfl (fun ls hl => ?_)
  refine lv_iconst (v := 1) hx hb dL_engrave_15 (by decide) ?_
  exact k_endi hx hb hr hlocks hh ⟨rfl, rfl, rfl⟩ [0] [0] rfl rfl rfl (Nat.le_of_ble_eq_true rfl) (Nat.le_of_ble_eq_true rfl) dL_engrave_16
def wo_c_L_edition : List Cond := [Cond.classLink RL 21 "java/lang/IllegalArgumentException", Cond.classLink RL 41 "java/lang/UnsupportedOperationException"]
def wk_c_L_edition : List Cond := Cond.codeWith yL_edition cL_edition 4 (some .int) [(0, 9, 12, 21), (0, 9, 15, 41), (0, 9, 18, 13)] :: (wo_c_L_edition ++ (wsV RL 116 RX6 yX6_edition wk_c_X6_edition))
theorem wo_c_L_edition_in : ∀ w ∈ wo_c_L_edition, w ∈ wk_c_L_edition := fun w h => List.mem_cons_of_mem _ (List.mem_append_left _ h)
theorem gi_c_L_edition_0 : GoodIn wk_c_L_edition (wsV RL 116 RX6 yX6_edition wk_c_X6_edition) := fun w h => ⟨List.mem_cons_of_mem _ (List.mem_append_right _ h), good_of_word (kg_V gk_c_X6_edition w h)⟩
theorem gk_c_L_edition : ∀ w ∈ wk_c_L_edition, goodWord w = true := List.forall_mem_cons.mpr ⟨rfl, (List.forall_mem_append.mpr ⟨(show ∀ w ∈ wo_c_L_edition, goodWord w = true by decide +kernel), (kg_V gk_c_X6_edition)⟩)⟩
set_option maxHeartbeats 4000000 in
set_option maxRecDepth 100000 in
theorem c_L_edition (l : Launch) (hst : l.stackTraces = false) (D : va_G) (e0 : kE) (pa : Nat) (prl : Nat) (ppc : Nat) (ppg : Nat) (ppl : Nat) (ped : Nat) (pg1 : Nat) (pg2 : Nat) (pg3 : Nat) (pg4 : Nat) (a1 : Int32) (po : Nat) (py1 : ClassId) (pof : Nat → Int64) (h : -30 ≤ a1 ∧ a1 ≤ 30) : kM l yL_edition wk_c_L_edition 7 122 2 12 D kStr e0 [(py1, .long)] [(pa, .inr (11, [.ref prl, .int 0, .ref ppc, .int 0, .ref ppg, .ref ppl, .ref ped, .int 0])), (ppg, .inr (9, [.ref pg1, .int 0, .ref pg2, .int 0, .ref pg3, .ref pg4])), (po, .inl (py1, 1, .inr (.inl pof)))] [.ref pa, .int a1, .ref po] (fun v w t => v = some (.int 2) ∧ w = [(po, .inl (py1, 1, .inr (.inl pof)))] ∧ t = [(py1, .long)]) (fun _ => False) := by
  refine k_ofX (cc := cL_edition) (maxL := 4) (ret := (some .int)) (hhs := [(0, 9, 12, 21), (0, 9, 15, 41), (0, 9, 18, 13)]) (by decide) rfl (Nat.le_of_ble_eq_true rfl) ?_
  intro p e s m args below meth c A ls hx hb hr hts hown hlocks hml hex hh hl
  have hown : s.vm.findClass RL = some m.cls := hown
  have hl : lv_has ls 4 [(0, .ref pa), (1, .int a1), (2, .ref po)] := hl
  refine lv_aload_n hx hb dL_edition_0 rfl (lv_at hl 2 rfl) ?_
  refine lv_iconst (v := 0) hx hb dL_edition_1 (by decide) ?_
  refine lv_aload_n hx hb dL_edition_2 rfl (lv_at hl 0 rfl) ?_
  refine lv_iload_n hx hb dL_edition_3 rfl (lv_at hl 1 rfl) ?_
  refine k_callV (C := RX6) (T := TX6) (N := 8) (ci := 11) (q0 := 0) (wr := [(po, .inl (py1, 1, .inr (.inl pof)))]) (rest := [.int 0, .ref po]) (own := RL) ⟨hx, hb, hml, hown, hts⟩ (c_X6_edition l hst D e0 pa prl ppc ppg ppl ped pg1 pg2 pg3 pg4 a1 h) (cwV 1 hts gi_c_L_edition_0 rfl rfl rfl (by decide +kernel) ⟨Nat.le_of_ble_eq_true rfl, Nat.le_of_ble_eq_true rfl⟩) hh rfl rfl [0, 1] [2] [] rfl rfl rfl rfl (by decide) rfl rfl hl rfl (Nat.le_of_ble_eq_true rfl) dL_edition_4 ⟨Nat.le_of_ble_eq_true rfl, (Nat.le_of_ble_eq_true rfl)⟩ (fun E ce q9 H locs hE hh hq hv hcl => ?_) (fun _ _ _ _ _ h _ => h.elim)
  refine k_catch (own := RL) (name := "java/lang/UnsupportedOperationException") hown hex [⟨0, 9, 12, 21⟩] ⟨0, 9, 15, 41⟩ [⟨0, 9, 18, 13⟩] rfl (fun z hz => by obtain rfl := List.mem_singleton.mp hz; exact ⟨by decide, _, (hts _ (wo_c_L_edition_in _ (List.mem_of_getElem? (i := 0) rfl))), by rw [hE]; decide⟩) (by decide) (by decide) (hts _ (wo_c_L_edition_in _ (List.mem_of_getElem? (i := 1) rfl))) hE (by decide) hh hq hv hcl ?_
  refine W.eq (g2 := F0 m 15 ls [.ref q9]) rfl ?_
  refine lv_astore_n (lv' := [(3, .ref q9), (0, .ref pa), (1, .int a1), (2, .ref po)]) hx hb dL_edition_15 rfl hl (by decide) rfl (fun ls hl => ?_)
  refine lv_iconst (v := 2) hx hb dL_edition_16 (by decide) ?_
  exact k_endi hx hb hr hlocks hh ⟨rfl, rfl, rfl⟩ [0] [0] rfl rfl rfl (Nat.le_of_ble_eq_true rfl) (Nat.le_of_ble_eq_true rfl) dL_edition_17
def wo_c_L_edition_bad : List Cond := [Cond.classLink RL 21 "java/lang/IllegalArgumentException"]
def wk_c_L_edition_bad : List Cond := Cond.codeWith yL_edition cL_edition 4 (some .int) [(0, 9, 12, 21), (0, 9, 15, 41), (0, 9, 18, 13)] :: (wo_c_L_edition_bad ++ (wsV RL 116 RX6 yX6_edition wk_c_X6_edition_bad))
theorem wo_c_L_edition_bad_in : ∀ w ∈ wo_c_L_edition_bad, w ∈ wk_c_L_edition_bad := fun w h => List.mem_cons_of_mem _ (List.mem_append_left _ h)
theorem gi_c_L_edition_bad_0 : GoodIn wk_c_L_edition_bad (wsV RL 116 RX6 yX6_edition wk_c_X6_edition_bad) := fun w h => ⟨List.mem_cons_of_mem _ (List.mem_append_right _ h), good_of_word (kg_V gk_c_X6_edition_bad w h)⟩
theorem gk_c_L_edition_bad : ∀ w ∈ wk_c_L_edition_bad, goodWord w = true := List.forall_mem_cons.mpr ⟨rfl, (List.forall_mem_append.mpr ⟨(show ∀ w ∈ wo_c_L_edition_bad, goodWord w = true by decide +kernel), (kg_V gk_c_X6_edition_bad)⟩)⟩
set_option maxHeartbeats 4000000 in
set_option maxRecDepth 100000 in
theorem c_L_edition_bad (l : Launch) (hst : l.stackTraces = false) (D : va_G) (e0 : kE) (pa : Nat) (prl : Nat) (ppc : Nat) (ppg : Nat) (ppl : Nat) (ped : Nat) (a1 : Int32) (po : Nat) (py1 : ClassId) (pof : Nat → Int64) (h : ¬ (-30 ≤ a1 ∧ a1 ≤ 30)) : kM l yL_edition wk_c_L_edition_bad 8 144 1 6 D kStr e0 [(py1, .long)] [(pa, .inr (11, [.ref prl, .int 0, .ref ppc, .int 0, .ref ppg, .ref ppl, .ref ped, .int 0])), (po, .inl (py1, 1, .inr (.inl pof)))] [.ref pa, .int a1, .ref po] (fun v w t => v = some (.int 1) ∧ w = [(po, .inl (py1, 1, .inr (.inl pof)))] ∧ t = [(py1, .long)]) (fun _ => False) := by
  refine k_ofX (cc := cL_edition) (maxL := 4) (ret := (some .int)) (hhs := [(0, 9, 12, 21), (0, 9, 15, 41), (0, 9, 18, 13)]) (by decide) rfl (Nat.le_of_ble_eq_true rfl) ?_
  intro p e s m args below meth c A ls hx hb hr hts hown hlocks hml hex hh hl
  have hown : s.vm.findClass RL = some m.cls := hown
  have hl : lv_has ls 4 [(0, .ref pa), (1, .int a1), (2, .ref po)] := hl
  refine lv_aload_n hx hb dL_edition_0 rfl (lv_at hl 2 rfl) ?_
  refine lv_iconst (v := 0) hx hb dL_edition_1 (by decide) ?_
  refine lv_aload_n hx hb dL_edition_2 rfl (lv_at hl 0 rfl) ?_
  refine lv_iload_n hx hb dL_edition_3 rfl (lv_at hl 1 rfl) ?_
  refine k_callV (C := RX6) (T := TX6) (N := 8) (ci := 11) (q0 := 0) (wr := [(po, .inl (py1, 1, .inr (.inl pof)))]) (rest := [.int 0, .ref po]) (own := RL) ⟨hx, hb, hml, hown, hts⟩ (c_X6_edition_bad l hst D e0 pa prl ppc ppg ppl ped a1 h) (cwV 1 hts gi_c_L_edition_bad_0 rfl rfl rfl (by decide +kernel) ⟨Nat.le_of_ble_eq_true rfl, Nat.le_of_ble_eq_true rfl⟩) hh rfl rfl [0] [1] [] rfl rfl rfl rfl (by decide) rfl rfl hl rfl (Nat.le_of_ble_eq_true rfl) dL_edition_4 ⟨Nat.le_of_ble_eq_true rfl, (Nat.le_of_ble_eq_true rfl)⟩ (fun E ce q9 H locs hE hh hq hv hcl => ?_) (fun _ _ _ _ _ h _ => h.elim)
  refine k_catch (own := RL) (name := "java/lang/IllegalArgumentException") hown hex [] ⟨0, 9, 12, 21⟩ [⟨0, 9, 15, 41⟩, ⟨0, 9, 18, 13⟩] rfl (fun z hz => by simp at hz) (by decide) (by decide) (hts _ (wo_c_L_edition_bad_in _ (List.mem_of_getElem? (i := 0) rfl))) hE (by decide) hh hq hv hcl ?_
  refine W.eq (g2 := F0 m 12 ls [.ref q9]) rfl ?_
  refine lv_astore_n (lv' := [(3, .ref q9), (0, .ref pa), (1, .int a1), (2, .ref po)]) hx hb dL_edition_12 rfl hl (by decide) rfl (fun ls hl => ?_)
  refine lv_iconst (v := 1) hx hb dL_edition_13 (by decide) ?_
  exact k_endi hx hb hr hlocks hh ⟨rfl, rfl, rfl⟩ [0] [0] rfl rfl rfl (Nat.le_of_ble_eq_true rfl) (Nat.le_of_ble_eq_true rfl) dL_edition_14
def wo_c_L_shuffled : List Cond := [Cond.classLink RL 21 "java/lang/IllegalArgumentException", Cond.classLink RL 68 "java/util/NoSuchElementException"]
def wk_c_L_shuffled : List Cond := Cond.codeWith yL_shuffled cL_shuffled 5 (some .int) [(0, 10, 13, 21), (0, 10, 17, 68)] :: (wo_c_L_shuffled ++ (wsV RL 144 RX6 yX6_shuffled wk_c_X6_shuffled))
theorem wo_c_L_shuffled_in : ∀ w ∈ wo_c_L_shuffled, w ∈ wk_c_L_shuffled := fun w h => List.mem_cons_of_mem _ (List.mem_append_left _ h)
theorem gi_c_L_shuffled_0 : GoodIn wk_c_L_shuffled (wsV RL 144 RX6 yX6_shuffled wk_c_X6_shuffled) := fun w h => ⟨List.mem_cons_of_mem _ (List.mem_append_right _ h), good_of_word (kg_V gk_c_X6_shuffled w h)⟩
theorem gk_c_L_shuffled : ∀ w ∈ wk_c_L_shuffled, goodWord w = true := List.forall_mem_cons.mpr ⟨rfl, (List.forall_mem_append.mpr ⟨(show ∀ w ∈ wo_c_L_shuffled, goodWord w = true by decide +kernel), (kg_V gk_c_X6_shuffled)⟩)⟩
set_option maxHeartbeats 4000000 in
set_option maxRecDepth 100000 in
theorem c_L_shuffled (l : Launch) (hst : l.stackTraces = false) (D : va_G) (e0 : kE) (pa : Nat) (prl : Nat) (ppc : Nat) (ppg : Nat) (ppl : Nat) (ped : Nat) (pg1 : Nat) (pg2 : Nat) (pg3 : Nat) (pg4 : Nat) (a1 : Int32) (a2 : Int32) (po : Nat) (py1 : ClassId) (pof : Nat → Int64) (h : 1 ≤ a1 ∧ a1 ≤ 2147483646) : kM l yL_shuffled wk_c_L_shuffled 8 143 1 6 D kStr e0 [(py1, .long)] [(pa, .inr (11, [.ref prl, .int 0, .ref ppc, .int 0, .ref ppg, .ref ppl, .ref ped, .int 0])), (ppg, .inr (9, [.ref pg1, .int 0, .ref pg2, .int 0, .ref pg3, .ref pg4])), (po, .inl (py1, 1, .inr (.inl pof)))] [.ref pa, .int a1, .int a2, .ref po] (fun v w t => v = some (.int 2) ∧ w = [(po, .inl (py1, 1, .inr (.inl pof)))] ∧ t = [(py1, .long)]) (fun _ => False) := by
  refine k_ofX (cc := cL_shuffled) (maxL := 5) (ret := (some .int)) (hhs := [(0, 10, 13, 21), (0, 10, 17, 68)]) (by decide) rfl (Nat.le_of_ble_eq_true rfl) ?_
  intro p e s m args below meth c A ls hx hb hr hts hown hlocks hml hex hh hl
  have hown : s.vm.findClass RL = some m.cls := hown
  have hl : lv_has ls 5 [(0, .ref pa), (1, .int a1), (2, .int a2), (3, .ref po)] := hl
  refine lv_aload_n hx hb dL_shuffled_0 rfl (lv_at hl 3 rfl) ?_
  refine lv_iconst (v := 0) hx hb dL_shuffled_1 (by decide) ?_
  refine lv_aload_n hx hb dL_shuffled_2 rfl (lv_at hl 0 rfl) ?_
  refine lv_iload_n hx hb dL_shuffled_3 rfl (lv_at hl 1 rfl) ?_
  refine lv_iload_n hx hb dL_shuffled_4 rfl (lv_at hl 2 rfl) ?_
  refine k_callV (C := RX6) (T := TX6) (N := 8) (ci := 11) (q0 := 0) (wr := [(po, .inl (py1, 1, .inr (.inl pof)))]) (rest := [.int 0, .ref po]) (own := RL) ⟨hx, hb, hml, hown, hts⟩ (c_X6_shuffled l hst D e0 pa prl ppc ppg ppl ped pg1 pg2 pg3 pg4 a1 a2 h) (cwV 2 hts gi_c_L_shuffled_0 rfl rfl rfl (by decide +kernel) ⟨Nat.le_of_ble_eq_true rfl, Nat.le_of_ble_eq_true rfl⟩) hh rfl rfl [0, 1] [2] [] rfl rfl rfl rfl (by decide) rfl rfl hl rfl (Nat.le_of_ble_eq_true rfl) dL_shuffled_5 ⟨Nat.le_of_ble_eq_true rfl, (Nat.le_of_ble_eq_true rfl)⟩ (fun E ce q9 H locs hE hh hq hv hcl => ?_) (fun _ _ _ _ _ h _ => h.elim)
  refine k_catch (own := RL) (name := "java/util/NoSuchElementException") hown hex [⟨0, 10, 13, 21⟩] ⟨0, 10, 17, 68⟩ [] rfl (fun z hz => by obtain rfl := List.mem_singleton.mp hz; exact ⟨by decide, _, (hts _ (wo_c_L_shuffled_in _ (List.mem_of_getElem? (i := 0) rfl))), by rw [hE]; decide⟩) (by decide) (by decide) (hts _ (wo_c_L_shuffled_in _ (List.mem_of_getElem? (i := 1) rfl))) hE (by decide) hh hq hv hcl ?_
  refine W.eq (g2 := F0 m 17 ls [.ref q9]) rfl ?_
  refine lv_astore (lv' := [(4, .ref q9), (0, .ref pa), (1, .int a1), (2, .int a2), (3, .ref po)]) hx hb dL_shuffled_17 hl (by decide) rfl (fun ls hl => ?_)
  refine lv_iconst (v := 2) hx hb dL_shuffled_19 (by decide) ?_
  exact k_endi hx hb hr hlocks hh ⟨rfl, rfl, rfl⟩ [0] [0] rfl rfl rfl (Nat.le_of_ble_eq_true rfl) (Nat.le_of_ble_eq_true rfl) dL_shuffled_20
def wo_c_L_shuffled_bad : List Cond := [Cond.classLink RL 21 "java/lang/IllegalArgumentException"]
def wk_c_L_shuffled_bad : List Cond := Cond.codeWith yL_shuffled cL_shuffled 5 (some .int) [(0, 10, 13, 21), (0, 10, 17, 68)] :: (wo_c_L_shuffled_bad ++ (wsV RL 144 RX6 yX6_shuffled wk_c_X6_shuffled_bad))
theorem wo_c_L_shuffled_bad_in : ∀ w ∈ wo_c_L_shuffled_bad, w ∈ wk_c_L_shuffled_bad := fun w h => List.mem_cons_of_mem _ (List.mem_append_left _ h)
theorem gi_c_L_shuffled_bad_0 : GoodIn wk_c_L_shuffled_bad (wsV RL 144 RX6 yX6_shuffled wk_c_X6_shuffled_bad) := fun w h => ⟨List.mem_cons_of_mem _ (List.mem_append_right _ h), good_of_word (kg_V gk_c_X6_shuffled_bad w h)⟩
theorem gk_c_L_shuffled_bad : ∀ w ∈ wk_c_L_shuffled_bad, goodWord w = true := List.forall_mem_cons.mpr ⟨rfl, (List.forall_mem_append.mpr ⟨(show ∀ w ∈ wo_c_L_shuffled_bad, goodWord w = true by decide +kernel), (kg_V gk_c_X6_shuffled_bad)⟩)⟩
set_option maxHeartbeats 4000000 in
set_option maxRecDepth 100000 in
theorem c_L_shuffled_bad (l : Launch) (hst : l.stackTraces = false) (D : va_G) (e0 : kE) (pa : Nat) (prl : Nat) (ppc : Nat) (ppg : Nat) (ppl : Nat) (ped : Nat) (a1 : Int32) (a2 : Int32) (po : Nat) (py1 : ClassId) (pof : Nat → Int64) (h : ¬ (1 ≤ a1 ∧ a1 ≤ 2147483646)) : kM l yL_shuffled wk_c_L_shuffled_bad 8 144 1 6 D kStr e0 [(py1, .long)] [(pa, .inr (11, [.ref prl, .int 0, .ref ppc, .int 0, .ref ppg, .ref ppl, .ref ped, .int 0])), (po, .inl (py1, 1, .inr (.inl pof)))] [.ref pa, .int a1, .int a2, .ref po] (fun v w t => v = some (.int 1) ∧ w = [(po, .inl (py1, 1, .inr (.inl pof)))] ∧ t = [(py1, .long)]) (fun _ => False) := by
  refine k_ofX (cc := cL_shuffled) (maxL := 5) (ret := (some .int)) (hhs := [(0, 10, 13, 21), (0, 10, 17, 68)]) (by decide) rfl (Nat.le_of_ble_eq_true rfl) ?_
  intro p e s m args below meth c A ls hx hb hr hts hown hlocks hml hex hh hl
  have hown : s.vm.findClass RL = some m.cls := hown
  have hl : lv_has ls 5 [(0, .ref pa), (1, .int a1), (2, .int a2), (3, .ref po)] := hl
  refine lv_aload_n hx hb dL_shuffled_0 rfl (lv_at hl 3 rfl) ?_
  refine lv_iconst (v := 0) hx hb dL_shuffled_1 (by decide) ?_
  refine lv_aload_n hx hb dL_shuffled_2 rfl (lv_at hl 0 rfl) ?_
  refine lv_iload_n hx hb dL_shuffled_3 rfl (lv_at hl 1 rfl) ?_
  refine lv_iload_n hx hb dL_shuffled_4 rfl (lv_at hl 2 rfl) ?_
  refine k_callV (C := RX6) (T := TX6) (N := 8) (ci := 11) (q0 := 0) (wr := [(po, .inl (py1, 1, .inr (.inl pof)))]) (rest := [.int 0, .ref po]) (own := RL) ⟨hx, hb, hml, hown, hts⟩ (c_X6_shuffled_bad l hst D e0 pa prl ppc ppg ppl ped a1 a2 h) (cwV 2 hts gi_c_L_shuffled_bad_0 rfl rfl rfl (by decide +kernel) ⟨Nat.le_of_ble_eq_true rfl, Nat.le_of_ble_eq_true rfl⟩) hh rfl rfl [0] [1] [] rfl rfl rfl rfl (by decide) rfl rfl hl rfl (Nat.le_of_ble_eq_true rfl) dL_shuffled_5 ⟨Nat.le_of_ble_eq_true rfl, (Nat.le_of_ble_eq_true rfl)⟩ (fun E ce q9 H locs hE hh hq hv hcl => ?_) (fun _ _ _ _ _ h _ => h.elim)
  refine k_catch (own := RL) (name := "java/lang/IllegalArgumentException") hown hex [] ⟨0, 10, 13, 21⟩ [⟨0, 10, 17, 68⟩] rfl (fun z hz => by simp at hz) (by decide) (by decide) (hts _ (wo_c_L_shuffled_bad_in _ (List.mem_of_getElem? (i := 0) rfl))) hE (by decide) hh hq hv hcl ?_
  refine W.eq (g2 := F0 m 13 ls [.ref q9]) rfl ?_
  refine lv_astore (lv' := [(4, .ref q9), (0, .ref pa), (1, .int a1), (2, .int a2), (3, .ref po)]) hx hb dL_shuffled_13 hl (by decide) rfl (fun ls hl => ?_)
  refine lv_iconst (v := 1) hx hb dL_shuffled_15 (by decide) ?_
  exact k_endi hx hb hr hlocks hh ⟨rfl, rfl, rfl⟩ [0] [0] rfl rfl rfl (Nat.le_of_ble_eq_true rfl) (Nat.le_of_ble_eq_true rfl) dL_shuffled_16
def wo_c_L_earned : List Cond := []
def wk_c_L_earned : List Cond := Cond.codeWith yL_earned cL_earned 5 (some .int) [(0, 9, 12, 21)] :: (wo_c_L_earned ++ (wsV RL 153 RX6 yX6_earned wk_c_X6_earned))
theorem wo_c_L_earned_in : ∀ w ∈ wo_c_L_earned, w ∈ wk_c_L_earned := fun w h => List.mem_cons_of_mem _ (List.mem_append_left _ h)
theorem gi_c_L_earned_0 : GoodIn wk_c_L_earned (wsV RL 153 RX6 yX6_earned wk_c_X6_earned) := fun w h => ⟨List.mem_cons_of_mem _ (List.mem_append_right _ h), good_of_word (kg_V gk_c_X6_earned w h)⟩
theorem gk_c_L_earned : ∀ w ∈ wk_c_L_earned, goodWord w = true := List.forall_mem_cons.mpr ⟨rfl, (List.forall_mem_append.mpr ⟨(show ∀ w ∈ wo_c_L_earned, goodWord w = true by decide +kernel), (kg_V gk_c_X6_earned)⟩)⟩
set_option maxHeartbeats 4000000 in
set_option maxRecDepth 100000 in
theorem c_L_earned (l : Launch) (hst : l.stackTraces = false) (D : va_G) (e0 : kE) (pa : Nat) (prl : Nat) (ppc : Nat) (ppg : Nat) (ppl : Nat) (ped : Nat) (pg1 : Nat) (pg2 : Nat) (pg3 : Nat) (pg4 : Nat) (a1 : Int32) (a2 : Int32) (po : Nat) (py1 : ClassId) (pof : Nat → Int64) (h : 0 ≤ a1 ∧ a1 ≤ 7) (h2 : 1 ≤ a2 ∧ a2 ≤ 999) : kM l yL_earned wk_c_L_earned 2 48 0 0 D kStr e0 [(py1, .long)] [(pa, .inr (11, [.ref prl, .int 0, .ref ppc, .int 0, .ref ppg, .ref ppl, .ref ped, .int 0])), (ppg, .inr (9, [.ref pg1, .int 0, .ref pg2, .int 0, .ref pg3, .ref pg4])), (po, .inl (py1, 1, .inr (.inl pof)))] [.ref pa, .int a1, .int a2, .ref po] (fun v w t => v = some (.int 0) ∧ w = [(po, .inl (py1, 1, .inr (.inl (vp_updL (pof) (0 : Int32).toNatClampNeg 0))))] ∧ t = [(py1, .long)]) (fun _ => False) := by
  refine k_ofX (cc := cL_earned) (maxL := 5) (ret := (some .int)) (hhs := [(0, 9, 12, 21)]) (by decide) rfl (Nat.le_of_ble_eq_true rfl) ?_
  intro p e s m args below meth c A ls hx hb hr hts hown hlocks hml hex hh hl
  have hown : s.vm.findClass RL = some m.cls := hown
  have hl : lv_has ls 5 [(0, .ref pa), (1, .int a1), (2, .int a2), (3, .ref po)] := hl
  refine lv_aload_n hx hb dL_earned_0 rfl (lv_at hl 3 rfl) ?_
  refine lv_iconst (v := 0) hx hb dL_earned_1 (by decide) ?_
  refine lv_aload_n hx hb dL_earned_2 rfl (lv_at hl 0 rfl) ?_
  refine lv_iload_n hx hb dL_earned_3 rfl (lv_at hl 1 rfl) ?_
  refine lv_iload_n hx hb dL_earned_4 rfl (lv_at hl 2 rfl) ?_
  refine k_callV (C := RX6) (T := TX6) (N := 8) (ci := 11) (q0 := 0) (wr := [(po, .inl (py1, 1, .inr (.inl pof)))]) (rest := [.int 0, .ref po]) (own := RL) ⟨hx, hb, hml, hown, hts⟩ (c_X6_earned l hst D e0 pa prl ppc ppg ppl ped pg1 pg2 pg3 pg4 a1 a2 h h2) (cwV 2 hts gi_c_L_earned_0 rfl rfl rfl (by decide +kernel) ⟨Nat.le_of_ble_eq_true rfl, Nat.le_of_ble_eq_true rfl⟩) hh rfl rfl [0, 1] [2] [] rfl rfl rfl rfl (by decide) rfl rfl hl rfl (Nat.le_of_ble_eq_true rfl) dL_earned_5 ⟨Nat.le_of_ble_eq_true rfl, (Nat.le_of_ble_eq_true rfl)⟩ (fun _ _ _ _ _ h => h.elim) (fun v w ty1 H locs hp hh => ?_)
  obtain ⟨rfl, rfl, rfl⟩ := hp
  have hh : kH D kStr e0 A s H [(po, .inl (py1, 1, .inr (.inl pof)))] [(py1, .long)] _ := hh
  refine W.eq (g2 := F0 m 8 ls [.long 0, .int 0, .ref po]) (by first | rfl | decide) ?_
  refine k_last (ws' := [(po, .inl (py1, 1, .inr (.inl (vp_updL (pof) (0 : Int32).toNatClampNeg 0))))]) hx hb hh 0 0 rfl rfl (by unfold vp_in; decide) dL_earned_8 rfl (fun H locs hh => ?_)
  refine lv_goto (tgt := 16) hx hb dL_earned_9 (by decide) ?_
  refine lv_iconst (v := 0) hx hb dL_earned_16 (by decide) ?_
  exact k_endi hx hb hr hlocks hh ⟨rfl, rfl, rfl⟩ [0] [0] rfl rfl rfl (Nat.le_of_ble_eq_true rfl) (Nat.le_of_ble_eq_true rfl) dL_earned_17
def wo_c_L_reel : List Cond := []
def wk_c_L_reel : List Cond := Cond.codeWith yL_reel cL_reel 3 (some .int) [(0, 8, 11, 13)] :: (wo_c_L_reel ++ (wsV RL 7 RX6 yX6_reel wk_c_X6_reel))
theorem wo_c_L_reel_in : ∀ w ∈ wo_c_L_reel, w ∈ wk_c_L_reel := fun w h => List.mem_cons_of_mem _ (List.mem_append_left _ h)
theorem gi_c_L_reel_0 : GoodIn wk_c_L_reel (wsV RL 7 RX6 yX6_reel wk_c_X6_reel) := fun w h => ⟨List.mem_cons_of_mem _ (List.mem_append_right _ h), good_of_word (kg_V gk_c_X6_reel w h)⟩
theorem gk_c_L_reel : ∀ w ∈ wk_c_L_reel, goodWord w = true := List.forall_mem_cons.mpr ⟨rfl, (List.forall_mem_append.mpr ⟨(show ∀ w ∈ wo_c_L_reel, goodWord w = true by decide +kernel), (kg_V gk_c_X6_reel)⟩)⟩
set_option maxHeartbeats 4000000 in
set_option maxRecDepth 100000 in
theorem c_L_reel (l : Launch) (hst : l.stackTraces = false) (D : va_G) (e0 : kE) (pa : Nat) (prl : Nat) (ppc : Nat) (ppg : Nat) (ppl : Nat) (ped : Nat) (py9 : ClassId) (pf9 : Nat → Option Nat) (po : Nat) (py1 : ClassId) (pof : Nat → Int64)  : kM l yL_reel wk_c_L_reel 3 60 2 202 D kStr e0 [(py9, .object "Segueworks$Reel"), (py1, .long)] [(pa, .inr (11, [.ref prl, .int 0, .ref ppc, .int 0, .ref ppg, .ref ppl, .ref ped, .int 0])), (prl, .inl (py9, 6, .inr (.inr (.inr (.inr pf9))))), (po, .inl (py1, 1, .inr (.inl pof)))] [.ref pa, .ref po] (fun v w t => v = some (.int 0) ∧ w = [(po, .inl (py1, 1, .inr (.inl (vp_updL (pof) (0 : Int32).toNatClampNeg 0))))] ∧ t = [(py1, .long)]) (fun _ => False) := by
  refine k_ofX (cc := cL_reel) (maxL := 3) (ret := (some .int)) (hhs := [(0, 8, 11, 13)]) (by decide) rfl (Nat.le_of_ble_eq_true rfl) ?_
  intro p e s m args below meth c A ls hx hb hr hts hown hlocks hml hex hh hl
  have hown : s.vm.findClass RL = some m.cls := hown
  have hl : lv_has ls 3 [(0, .ref pa), (1, .ref po)] := hl
  refine lv_aload_n hx hb dL_reel_0 rfl (lv_at hl 1 rfl) ?_
  refine lv_iconst (v := 0) hx hb dL_reel_1 (by decide) ?_
  refine lv_aload_n hx hb dL_reel_2 rfl (lv_at hl 0 rfl) ?_
  refine k_callV (C := RX6) (T := TX6) (N := 8) (ci := 11) (q0 := 0) (wr := [(po, .inl (py1, 1, .inr (.inl pof)))]) (rest := [.int 0, .ref po]) (own := RL) ⟨hx, hb, hml, hown, hts⟩ (c_X6_reel l hst D e0 pa prl ppc ppg ppl ped py9 pf9 ) (cwV 0 hts gi_c_L_reel_0 rfl rfl rfl (by decide +kernel) ⟨Nat.le_of_ble_eq_true rfl, Nat.le_of_ble_eq_true rfl⟩) hh rfl rfl [0, 1] [2] [0] rfl rfl rfl rfl (by decide) rfl rfl hl rfl (Nat.le_of_ble_eq_true rfl) dL_reel_3 ⟨Nat.le_of_ble_eq_true rfl, (Nat.le_of_ble_eq_true rfl)⟩ (fun _ _ _ _ _ h => h.elim) (fun v w ty1 H locs hp hh => ?_)
  obtain ⟨rfl, rfl, rfl⟩ := hp
  have hh : kH D kStr e0 A s H [(po, .inl (py1, 1, .inr (.inl pof))), (pa, .inr (11, [.ref prl, .int 1, .ref ppc, .int 0, .ref ppg, .ref ppl, .ref ped, .int 0]))] [(py9, .object "Segueworks$Reel"), (py1, .long)] _ := hh
  refine W.eq (g2 := F0 m 6 ls [.int 0, .int 0, .ref po]) (by first | rfl | decide) ?_
  refine lv_i2l (v := 0) hx hb dL_reel_6 (by decide) ?_
  refine k_last (ws' := [(po, .inl (py1, 1, .inr (.inl (vp_updL (pof) (0 : Int32).toNatClampNeg 0)))), (pa, .inr (11, [.ref prl, .int 1, .ref ppc, .int 0, .ref ppg, .ref ppl, .ref ped, .int 0]))]) hx hb hh 0 1 rfl rfl (by unfold vp_in; decide) dL_reel_7 rfl (fun H locs hh => ?_)
  refine lv_goto (tgt := 14) hx hb dL_reel_8 (by decide) ?_
  refine lv_iconst (v := 0) hx hb dL_reel_14 (by decide) ?_
  exact k_endi hx hb hr hlocks hh ⟨rfl, rfl, rfl⟩ [0] [1] rfl rfl rfl (Nat.le_of_ble_eq_true rfl) (Nat.le_of_ble_eq_true rfl) dL_reel_15
def wo_c_L_silence : List Cond := []
def wk_c_L_silence : List Cond := Cond.codeWith yL_silence cL_silence 4 (some .int) [(0, 9, 12, 21), (0, 9, 15, 13)] :: (wo_c_L_silence ++ (wsV RL 35 RX6 yX6_silence wk_c_X6_silence))
theorem wo_c_L_silence_in : ∀ w ∈ wo_c_L_silence, w ∈ wk_c_L_silence := fun w h => List.mem_cons_of_mem _ (List.mem_append_left _ h)
theorem gi_c_L_silence_0 : GoodIn wk_c_L_silence (wsV RL 35 RX6 yX6_silence wk_c_X6_silence) := fun w h => ⟨List.mem_cons_of_mem _ (List.mem_append_right _ h), good_of_word (kg_V gk_c_X6_silence w h)⟩
theorem gk_c_L_silence : ∀ w ∈ wk_c_L_silence, goodWord w = true := List.forall_mem_cons.mpr ⟨rfl, (List.forall_mem_append.mpr ⟨(show ∀ w ∈ wo_c_L_silence, goodWord w = true by decide +kernel), (kg_V gk_c_X6_silence)⟩)⟩
set_option maxHeartbeats 4000000 in
set_option maxRecDepth 100000 in
theorem c_L_silence (l : Launch) (hst : l.stackTraces = false) (D : va_G) (e0 : kE) (pa : Nat) (prl : Nat) (ppc : Nat) (ppg : Nat) (ppl : Nat) (ped : Nat) (py9 : ClassId) (pf7 : Nat → Option Nat) (n : Nat) (po : Nat) (py1 : ClassId) (pof : Nat → Int64) (hn1 : 1 ≤ n) (hn : n ≤ 200) : kM l yL_silence wk_c_L_silence 6 263 3 209 D kStr e0 [(py9, .object "Segueworks$Piece"), (py1, .long)] [(pa, .inr (11, [.ref prl, .int 0, .ref ppc, .int 0, .ref ppg, .ref ppl, .ref ped, .int 0])), (ppc, .inl (py9, 24, .inr (.inr (.inr (.inr pf7))))), (po, .inl (py1, 1, .inr (.inl pof)))] [.ref pa, .int (nI n), .ref po] (fun v w t => v = some (.int 0) ∧ w = [(po, .inl (py1, 1, .inr (.inl (vp_updL (pof) (0 : Int32).toNatClampNeg 0))))] ∧ t = [(py1, .long)]) (fun _ => False) := by
  refine k_ofX (cc := cL_silence) (maxL := 4) (ret := (some .int)) (hhs := [(0, 9, 12, 21), (0, 9, 15, 13)]) (by decide) rfl (Nat.le_of_ble_eq_true rfl) ?_
  intro p e s m args below meth c A ls hx hb hr hts hown hlocks hml hex hh hl
  have hown : s.vm.findClass RL = some m.cls := hown
  have hl : lv_has ls 4 [(0, .ref pa), (1, .int (nI n)), (2, .ref po)] := hl
  refine lv_aload_n hx hb dL_silence_0 rfl (lv_at hl 2 rfl) ?_
  refine lv_iconst (v := 0) hx hb dL_silence_1 (by decide) ?_
  refine lv_aload_n hx hb dL_silence_2 rfl (lv_at hl 0 rfl) ?_
  refine lv_iload_n hx hb dL_silence_3 rfl (lv_at hl 1 rfl) ?_
  refine k_callV (C := RX6) (T := TX6) (N := 8) (ci := 11) (q0 := 0) (wr := [(po, .inl (py1, 1, .inr (.inl pof)))]) (rest := [.int 0, .ref po]) (own := RL) ⟨hx, hb, hml, hown, hts⟩ (c_X6_silence l hst D e0 pa prl ppc ppg ppl ped py9 pf7 n hn1 hn) (cwV 1 hts gi_c_L_silence_0 rfl rfl rfl (by decide +kernel) ⟨Nat.le_of_ble_eq_true rfl, Nat.le_of_ble_eq_true rfl⟩) hh rfl rfl [0, 1] [2] [0] rfl rfl rfl rfl (by decide) rfl rfl hl rfl (Nat.le_of_ble_eq_true rfl) dL_silence_4 ⟨Nat.le_of_ble_eq_true rfl, (Nat.le_of_ble_eq_true rfl)⟩ (fun _ _ _ _ _ h => h.elim) (fun v w ty1 H locs hp hh => ?_)
  obtain ⟨rfl, rfl, rfl⟩ := hp
  have hh : kH D kStr e0 A s H [(po, .inl (py1, 1, .inr (.inl pof)))] [(py9, .object "Segueworks$Piece"), (py1, .long)] _ := hh
  refine W.eq (g2 := F0 m 7 ls [.int 0, .int 0, .ref po]) (by first | rfl | decide) ?_
  refine lv_i2l (v := 0) hx hb dL_silence_7 (by decide) ?_
  refine k_last (ws' := [(po, .inl (py1, 1, .inr (.inl (vp_updL (pof) (0 : Int32).toNatClampNeg 0))))]) hx hb hh 0 1 rfl rfl (by unfold vp_in; decide) dL_silence_8 rfl (fun H locs hh => ?_)
  refine lv_goto (tgt := 18) hx hb dL_silence_9 (by decide) ?_
  refine lv_iconst (v := 0) hx hb dL_silence_18 (by decide) ?_
  exact k_endi hx hb hr hlocks hh ⟨rfl, rfl, rfl⟩ [0] [1] rfl rfl rfl (Nat.le_of_ble_eq_true rfl) (Nat.le_of_ble_eq_true rfl) dL_silence_19
def wo_c_L_silence_bad : List Cond := [Cond.classLink RL 21 "java/lang/IllegalArgumentException"]
def wk_c_L_silence_bad : List Cond := Cond.codeWith yL_silence cL_silence 4 (some .int) [(0, 9, 12, 21), (0, 9, 15, 13)] :: (wo_c_L_silence_bad ++ (wsV RL 35 RX6 yX6_silence wk_c_X6_silence_bad))
theorem wo_c_L_silence_bad_in : ∀ w ∈ wo_c_L_silence_bad, w ∈ wk_c_L_silence_bad := fun w h => List.mem_cons_of_mem _ (List.mem_append_left _ h)
theorem gi_c_L_silence_bad_0 : GoodIn wk_c_L_silence_bad (wsV RL 35 RX6 yX6_silence wk_c_X6_silence_bad) := fun w h => ⟨List.mem_cons_of_mem _ (List.mem_append_right _ h), good_of_word (kg_V gk_c_X6_silence_bad w h)⟩
theorem gk_c_L_silence_bad : ∀ w ∈ wk_c_L_silence_bad, goodWord w = true := List.forall_mem_cons.mpr ⟨rfl, (List.forall_mem_append.mpr ⟨(show ∀ w ∈ wo_c_L_silence_bad, goodWord w = true by decide +kernel), (kg_V gk_c_X6_silence_bad)⟩)⟩
set_option maxHeartbeats 4000000 in
set_option maxRecDepth 100000 in
theorem c_L_silence_bad (l : Launch) (hst : l.stackTraces = false) (D : va_G) (e0 : kE) (pa : Nat) (prl : Nat) (ppc : Nat) (ppg : Nat) (ppl : Nat) (ped : Nat) (a1 : Int32) (po : Nat) (py1 : ClassId) (pof : Nat → Int64) (h : ¬ (1 ≤ a1 ∧ a1 ≤ 200)) : kM l yL_silence wk_c_L_silence_bad 8 143 1 6 D kStr e0 [(py1, .long)] [(pa, .inr (11, [.ref prl, .int 0, .ref ppc, .int 0, .ref ppg, .ref ppl, .ref ped, .int 0])), (po, .inl (py1, 1, .inr (.inl pof)))] [.ref pa, .int a1, .ref po] (fun v w t => v = some (.int 1) ∧ w = [(po, .inl (py1, 1, .inr (.inl pof)))] ∧ t = [(py1, .long)]) (fun _ => False) := by
  refine k_ofX (cc := cL_silence) (maxL := 4) (ret := (some .int)) (hhs := [(0, 9, 12, 21), (0, 9, 15, 13)]) (by decide) rfl (Nat.le_of_ble_eq_true rfl) ?_
  intro p e s m args below meth c A ls hx hb hr hts hown hlocks hml hex hh hl
  have hown : s.vm.findClass RL = some m.cls := hown
  have hl : lv_has ls 4 [(0, .ref pa), (1, .int a1), (2, .ref po)] := hl
  refine lv_aload_n hx hb dL_silence_0 rfl (lv_at hl 2 rfl) ?_
  refine lv_iconst (v := 0) hx hb dL_silence_1 (by decide) ?_
  refine lv_aload_n hx hb dL_silence_2 rfl (lv_at hl 0 rfl) ?_
  refine lv_iload_n hx hb dL_silence_3 rfl (lv_at hl 1 rfl) ?_
  refine k_callV (C := RX6) (T := TX6) (N := 8) (ci := 11) (q0 := 0) (wr := [(po, .inl (py1, 1, .inr (.inl pof)))]) (rest := [.int 0, .ref po]) (own := RL) ⟨hx, hb, hml, hown, hts⟩ (c_X6_silence_bad l hst D e0 pa prl ppc ppg ppl ped a1 h) (cwV 1 hts gi_c_L_silence_bad_0 rfl rfl rfl (by decide +kernel) ⟨Nat.le_of_ble_eq_true rfl, Nat.le_of_ble_eq_true rfl⟩) hh rfl rfl [0] [1] [] rfl rfl rfl rfl (by decide) rfl rfl hl rfl (Nat.le_of_ble_eq_true rfl) dL_silence_4 ⟨Nat.le_of_ble_eq_true rfl, (Nat.le_of_ble_eq_true rfl)⟩ (fun E ce q9 H locs hE hh hq hv hcl => ?_) (fun _ _ _ _ _ h _ => h.elim)
  refine k_catch (own := RL) (name := "java/lang/IllegalArgumentException") hown hex [] ⟨0, 9, 12, 21⟩ [⟨0, 9, 15, 13⟩] rfl (fun z hz => by simp at hz) (by decide) (by decide) (hts _ (wo_c_L_silence_bad_in _ (List.mem_of_getElem? (i := 0) rfl))) hE (by decide) hh hq hv hcl ?_
  refine W.eq (g2 := F0 m 12 ls [.ref q9]) rfl ?_
  refine lv_astore_n (lv' := [(3, .ref q9), (0, .ref pa), (1, .int a1), (2, .ref po)]) hx hb dL_silence_12 rfl hl (by decide) rfl (fun ls hl => ?_)
  refine lv_iconst (v := 1) hx hb dL_silence_13 (by decide) ?_
  exact k_endi hx hb hr hlocks hh ⟨rfl, rfl, rfl⟩ [0] [0] rfl rfl rfl (Nat.le_of_ble_eq_true rfl) (Nat.le_of_ble_eq_true rfl) dL_silence_14
def wo_c_L_earned_bad1 : List Cond := [Cond.classLink RL 21 "java/lang/IllegalArgumentException"]
def wk_c_L_earned_bad1 : List Cond := Cond.codeWith yL_earned cL_earned 5 (some .int) [(0, 9, 12, 21)] :: (wo_c_L_earned_bad1 ++ (wsV RL 153 RX6 yX6_earned wk_c_X6_earned_bad1))
theorem wo_c_L_earned_bad1_in : ∀ w ∈ wo_c_L_earned_bad1, w ∈ wk_c_L_earned_bad1 := fun w h => List.mem_cons_of_mem _ (List.mem_append_left _ h)
theorem gi_c_L_earned_bad1_0 : GoodIn wk_c_L_earned_bad1 (wsV RL 153 RX6 yX6_earned wk_c_X6_earned_bad1) := fun w h => ⟨List.mem_cons_of_mem _ (List.mem_append_right _ h), good_of_word (kg_V gk_c_X6_earned_bad1 w h)⟩
theorem gk_c_L_earned_bad1 : ∀ w ∈ wk_c_L_earned_bad1, goodWord w = true := List.forall_mem_cons.mpr ⟨rfl, (List.forall_mem_append.mpr ⟨(show ∀ w ∈ wo_c_L_earned_bad1, goodWord w = true by decide +kernel), (kg_V gk_c_X6_earned_bad1)⟩)⟩
set_option maxHeartbeats 4000000 in
set_option maxRecDepth 100000 in
theorem c_L_earned_bad1 (l : Launch) (hst : l.stackTraces = false) (D : va_G) (e0 : kE) (pa : Nat) (prl : Nat) (ppc : Nat) (ppg : Nat) (ppl : Nat) (ped : Nat) (a1 : Int32) (a2 : Int32) (po : Nat) (py1 : ClassId) (pof : Nat → Int64) (h : ¬ (0 ≤ a1 ∧ a1 ≤ 7)) : kM l yL_earned wk_c_L_earned_bad1 8 148 1 6 D kStr e0 [(py1, .long)] [(pa, .inr (11, [.ref prl, .int 0, .ref ppc, .int 0, .ref ppg, .ref ppl, .ref ped, .int 0])), (po, .inl (py1, 1, .inr (.inl pof)))] [.ref pa, .int a1, .int a2, .ref po] (fun v w t => v = some (.int 1) ∧ w = [(po, .inl (py1, 1, .inr (.inl pof)))] ∧ t = [(py1, .long)]) (fun _ => False) := by
  refine k_ofX (cc := cL_earned) (maxL := 5) (ret := (some .int)) (hhs := [(0, 9, 12, 21)]) (by decide) rfl (Nat.le_of_ble_eq_true rfl) ?_
  intro p e s m args below meth c A ls hx hb hr hts hown hlocks hml hex hh hl
  have hown : s.vm.findClass RL = some m.cls := hown
  have hl : lv_has ls 5 [(0, .ref pa), (1, .int a1), (2, .int a2), (3, .ref po)] := hl
  refine lv_aload_n hx hb dL_earned_0 rfl (lv_at hl 3 rfl) ?_
  refine lv_iconst (v := 0) hx hb dL_earned_1 (by decide) ?_
  refine lv_aload_n hx hb dL_earned_2 rfl (lv_at hl 0 rfl) ?_
  refine lv_iload_n hx hb dL_earned_3 rfl (lv_at hl 1 rfl) ?_
  refine lv_iload_n hx hb dL_earned_4 rfl (lv_at hl 2 rfl) ?_
  refine k_callV (C := RX6) (T := TX6) (N := 8) (ci := 11) (q0 := 0) (wr := [(po, .inl (py1, 1, .inr (.inl pof)))]) (rest := [.int 0, .ref po]) (own := RL) ⟨hx, hb, hml, hown, hts⟩ (c_X6_earned_bad1 l hst D e0 pa prl ppc ppg ppl ped a1 a2 h) (cwV 2 hts gi_c_L_earned_bad1_0 rfl rfl rfl (by decide +kernel) ⟨Nat.le_of_ble_eq_true rfl, Nat.le_of_ble_eq_true rfl⟩) hh rfl rfl [0] [1] [] rfl rfl rfl rfl (by decide) rfl rfl hl rfl (Nat.le_of_ble_eq_true rfl) dL_earned_5 ⟨Nat.le_of_ble_eq_true rfl, (Nat.le_of_ble_eq_true rfl)⟩ (fun E ce q9 H locs hE hh hq hv hcl => ?_) (fun _ _ _ _ _ h _ => h.elim)
  refine k_catch (own := RL) (name := "java/lang/IllegalArgumentException") hown hex [] ⟨0, 9, 12, 21⟩ [] rfl (fun z hz => by simp at hz) (by decide) (by decide) (hts _ (wo_c_L_earned_bad1_in _ (List.mem_of_getElem? (i := 0) rfl))) hE (by decide) hh hq hv hcl ?_
  refine W.eq (g2 := F0 m 12 ls [.ref q9]) rfl ?_
  refine lv_astore (lv' := [(4, .ref q9), (0, .ref pa), (1, .int a1), (2, .int a2), (3, .ref po)]) hx hb dL_earned_12 hl (by decide) rfl (fun ls hl => ?_)
  refine lv_iconst (v := 1) hx hb dL_earned_14 (by decide) ?_
  exact k_endi hx hb hr hlocks hh ⟨rfl, rfl, rfl⟩ [0] [0] rfl rfl rfl (Nat.le_of_ble_eq_true rfl) (Nat.le_of_ble_eq_true rfl) dL_earned_15
def wo_c_L_earned_bad2 : List Cond := [Cond.classLink RL 21 "java/lang/IllegalArgumentException"]
def wk_c_L_earned_bad2 : List Cond := Cond.codeWith yL_earned cL_earned 5 (some .int) [(0, 9, 12, 21)] :: (wo_c_L_earned_bad2 ++ (wsV RL 153 RX6 yX6_earned wk_c_X6_earned_bad2))
theorem wo_c_L_earned_bad2_in : ∀ w ∈ wo_c_L_earned_bad2, w ∈ wk_c_L_earned_bad2 := fun w h => List.mem_cons_of_mem _ (List.mem_append_left _ h)
theorem gi_c_L_earned_bad2_0 : GoodIn wk_c_L_earned_bad2 (wsV RL 153 RX6 yX6_earned wk_c_X6_earned_bad2) := fun w h => ⟨List.mem_cons_of_mem _ (List.mem_append_right _ h), good_of_word (kg_V gk_c_X6_earned_bad2 w h)⟩
theorem gk_c_L_earned_bad2 : ∀ w ∈ wk_c_L_earned_bad2, goodWord w = true := List.forall_mem_cons.mpr ⟨rfl, (List.forall_mem_append.mpr ⟨(show ∀ w ∈ wo_c_L_earned_bad2, goodWord w = true by decide +kernel), (kg_V gk_c_X6_earned_bad2)⟩)⟩
set_option maxHeartbeats 4000000 in
set_option maxRecDepth 100000 in
theorem c_L_earned_bad2 (l : Launch) (hst : l.stackTraces = false) (D : va_G) (e0 : kE) (pa : Nat) (prl : Nat) (ppc : Nat) (ppg : Nat) (ppl : Nat) (ped : Nat) (a1 : Int32) (a2 : Int32) (po : Nat) (py1 : ClassId) (pof : Nat → Int64) (h : 0 ≤ a1 ∧ a1 ≤ 7) (h2 : ¬ (1 ≤ a2 ∧ a2 ≤ 999)) : kM l yL_earned wk_c_L_earned_bad2 8 148 1 6 D kStr e0 [(py1, .long)] [(pa, .inr (11, [.ref prl, .int 0, .ref ppc, .int 0, .ref ppg, .ref ppl, .ref ped, .int 0])), (po, .inl (py1, 1, .inr (.inl pof)))] [.ref pa, .int a1, .int a2, .ref po] (fun v w t => v = some (.int 1) ∧ w = [(po, .inl (py1, 1, .inr (.inl pof)))] ∧ t = [(py1, .long)]) (fun _ => False) := by
  refine k_ofX (cc := cL_earned) (maxL := 5) (ret := (some .int)) (hhs := [(0, 9, 12, 21)]) (by decide) rfl (Nat.le_of_ble_eq_true rfl) ?_
  intro p e s m args below meth c A ls hx hb hr hts hown hlocks hml hex hh hl
  have hown : s.vm.findClass RL = some m.cls := hown
  have hl : lv_has ls 5 [(0, .ref pa), (1, .int a1), (2, .int a2), (3, .ref po)] := hl
  refine lv_aload_n hx hb dL_earned_0 rfl (lv_at hl 3 rfl) ?_
  refine lv_iconst (v := 0) hx hb dL_earned_1 (by decide) ?_
  refine lv_aload_n hx hb dL_earned_2 rfl (lv_at hl 0 rfl) ?_
  refine lv_iload_n hx hb dL_earned_3 rfl (lv_at hl 1 rfl) ?_
  refine lv_iload_n hx hb dL_earned_4 rfl (lv_at hl 2 rfl) ?_
  refine k_callV (C := RX6) (T := TX6) (N := 8) (ci := 11) (q0 := 0) (wr := [(po, .inl (py1, 1, .inr (.inl pof)))]) (rest := [.int 0, .ref po]) (own := RL) ⟨hx, hb, hml, hown, hts⟩ (c_X6_earned_bad2 l hst D e0 pa prl ppc ppg ppl ped a1 a2 h h2) (cwV 2 hts gi_c_L_earned_bad2_0 rfl rfl rfl (by decide +kernel) ⟨Nat.le_of_ble_eq_true rfl, Nat.le_of_ble_eq_true rfl⟩) hh rfl rfl [0] [1] [] rfl rfl rfl rfl (by decide) rfl rfl hl rfl (Nat.le_of_ble_eq_true rfl) dL_earned_5 ⟨Nat.le_of_ble_eq_true rfl, (Nat.le_of_ble_eq_true rfl)⟩ (fun E ce q9 H locs hE hh hq hv hcl => ?_) (fun _ _ _ _ _ h _ => h.elim)
  refine k_catch (own := RL) (name := "java/lang/IllegalArgumentException") hown hex [] ⟨0, 9, 12, 21⟩ [] rfl (fun z hz => by simp at hz) (by decide) (by decide) (hts _ (wo_c_L_earned_bad2_in _ (List.mem_of_getElem? (i := 0) rfl))) hE (by decide) hh hq hv hcl ?_
  refine W.eq (g2 := F0 m 12 ls [.ref q9]) rfl ?_
  refine lv_astore (lv' := [(4, .ref q9), (0, .ref pa), (1, .int a1), (2, .int a2), (3, .ref po)]) hx hb dL_earned_12 hl (by decide) rfl (fun ls hl => ?_)
  refine lv_iconst (v := 1) hx hb dL_earned_14 (by decide) ?_
  exact k_endi hx hb hr hlocks hh ⟨rfl, rfl, rfl⟩ [0] [0] rfl rfl rfl (Nat.le_of_ble_eq_true rfl) (Nat.le_of_ble_eq_true rfl) dL_earned_15
