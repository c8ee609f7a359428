theorem dX4_takeSides_0 : decode cX4_takeSides 0 = .ok (.iconst 0, 1) := by decide +kernel
theorem dX4_takeSides_1 : decode cX4_takeSides 1 = .ok (.istore_n 2, 1) := by decide +kernel
theorem dX4_takeSides_2 : decode cX4_takeSides 2 = .ok (.iconst 0, 1) := by decide +kernel
theorem dX4_takeSides_3 : decode cX4_takeSides 3 = .ok (.istore_n 3, 1) := by decide +kernel
theorem dX4_takeSides_4 : decode cX4_takeSides 4 = .ok (.iconst 0, 1) := by decide +kernel
theorem dX4_takeSides_5 : decode cX4_takeSides 5 = .ok (.istore 4, 2) := by decide +kernel
theorem dX4_takeSides_7 : decode cX4_takeSides 7 = .ok (.iload 4, 2) := by decide +kernel
theorem dX4_takeSides_9 : decode cX4_takeSides 9 = .ok (.aload_n 0, 1) := by decide +kernel
theorem dX4_takeSides_10 : decode cX4_takeSides 10 = .ok (.getfield 27, 3) := by decide +kernel
theorem dX4_takeSides_13 : decode cX4_takeSides 13 = .ok (.if_icmp .ge 66, 3) := by decide +kernel
theorem dX4_takeSides_79 : decode cX4_takeSides 79 = .ok (.iload_n 2, 1) := by decide +kernel
theorem dX4_takeSides_80 : decode cX4_takeSides 80 = .ok (.ireturn, 1) := by decide +kernel
theorem dX4_stands_0 : decode cX4_stands 0 = .ok (.iconst 0, 1) := by decide +kernel
theorem dX4_stands_1 : decode cX4_stands 1 = .ok (.istore_n 1, 1) := by decide +kernel
theorem dX4_stands_2 : decode cX4_stands 2 = .ok (.iconst 0, 1) := by decide +kernel
theorem dX4_stands_3 : decode cX4_stands 3 = .ok (.istore_n 2, 1) := by decide +kernel
theorem dX4_stands_4 : decode cX4_stands 4 = .ok (.iload_n 2, 1) := by decide +kernel
theorem dX4_stands_5 : decode cX4_stands 5 = .ok (.aload_n 0, 1) := by decide +kernel
theorem dX4_stands_6 : decode cX4_stands 6 = .ok (.getfield 27, 3) := by decide +kernel
theorem dX4_stands_9 : decode cX4_stands 9 = .ok (.if_icmp .ge 43, 3) := by decide +kernel
theorem dX4_stands_52 : decode cX4_stands 52 = .ok (.iload_n 1, 1) := by decide +kernel
theorem dX4_stands_53 : decode cX4_stands 53 = .ok (.aload_n 0, 1) := by decide +kernel
theorem dX4_stands_54 : decode cX4_stands 54 = .ok (.getfield 35, 3) := by decide +kernel
theorem dX4_stands_57 : decode cX4_stands 57 = .ok (.if_icmp .ne 7, 3) := by decide +kernel
theorem dX4_stands_60 : decode cX4_stands 60 = .ok (.iconst 1, 1) := by decide +kernel
theorem dX4_stands_61 : decode cX4_stands 61 = .ok (.goto 4, 3) := by decide +kernel
theorem dX4_stands_65 : decode cX4_stands 65 = .ok (.ireturn, 1) := by decide +kernel
theorem dX6_sample_0 : decode cX6_sample 0 = .ok (.aload_n 0, 1) := by decide +kernel
theorem dX6_sample_1 : decode cX6_sample 1 = .ok (.iload_n 1, 1) := by decide +kernel
theorem dX6_sample_2 : decode cX6_sample 2 = .ok (.invokevirtual 53, 3) := by decide +kernel
theorem dX6_wave_0 : decode cX6_wave 0 = .ok (.aload_n 0, 1) := by decide +kernel
theorem dX6_wave_1 : decode cX6_wave 1 = .ok (.iload_n 1, 1) := by decide +kernel
theorem dX6_wave_2 : decode cX6_wave 2 = .ok (.invokevirtual 53, 3) := by decide +kernel
theorem dX6_reelLength_0 : decode cX6_reelLength 0 = .ok (.aload_n 0, 1) := by decide +kernel
theorem dX6_reelLength_1 : decode cX6_reelLength 1 = .ok (.iload_n 1, 1) := by decide +kernel
theorem dX6_reelLength_2 : decode cX6_reelLength 2 = .ok (.invokevirtual 53, 3) := by decide +kernel
theorem dX6_cut_0 : decode cX6_cut 0 = .ok (.aload_n 0, 1) := by decide +kernel
theorem dX6_cut_1 : decode cX6_cut 1 = .ok (.iload_n 1, 1) := by decide +kernel
theorem dX6_cut_2 : decode cX6_cut 2 = .ok (.invokevirtual 53, 3) := by decide +kernel
theorem dX6_splice_0 : decode cX6_splice 0 = .ok (.aload_n 0, 1) := by decide +kernel
theorem dX6_splice_1 : decode cX6_splice 1 = .ok (.iload_n 1, 1) := by decide +kernel
theorem dX6_splice_2 : decode cX6_splice 2 = .ok (.invokevirtual 99, 3) := by decide +kernel
theorem dX6_gain_0 : decode cX6_gain 0 = .ok (.aload_n 0, 1) := by decide +kernel
theorem dX6_gain_1 : decode cX6_gain 1 = .ok (.iload_n 1, 1) := by decide +kernel
theorem dX6_gain_2 : decode cX6_gain 2 = .ok (.invokevirtual 99, 3) := by decide +kernel
theorem dX6_back_0 : decode cX6_back 0 = .ok (.aload_n 0, 1) := by decide +kernel
theorem dX6_back_1 : decode cX6_back 1 = .ok (.iload_n 1, 1) := by decide +kernel
theorem dX6_back_2 : decode cX6_back 2 = .ok (.invokevirtual 99, 3) := by decide +kernel
theorem dX6_limit_0 : decode cX6_limit 0 = .ok (.aload_n 0, 1) := by decide +kernel
theorem dX6_limit_1 : decode cX6_limit 1 = .ok (.iload_n 1, 1) := by decide +kernel
theorem dX6_limit_2 : decode cX6_limit 2 = .ok (.invokevirtual 99, 3) := by decide +kernel
theorem dX6_resample_0 : decode cX6_resample 0 = .ok (.aload_n 0, 1) := by decide +kernel
theorem dX6_resample_1 : decode cX6_resample 1 = .ok (.iload_n 1, 1) := by decide +kernel
theorem dX6_resample_2 : decode cX6_resample 2 = .ok (.invokevirtual 99, 3) := by decide +kernel
theorem dX6_dither_0 : decode cX6_dither 0 = .ok (.aload_n 0, 1) := by decide +kernel
theorem dX6_dither_1 : decode cX6_dither 1 = .ok (.iload_n 1, 1) := by decide +kernel
theorem dX6_dither_2 : decode cX6_dither 2 = .ok (.invokevirtual 99, 3) := by decide +kernel
theorem dX6_kindOf_0 : decode cX6_kindOf 0 = .ok (.aload_n 0, 1) := by decide +kernel
theorem dX6_kindOf_1 : decode cX6_kindOf 1 = .ok (.iload_n 1, 1) := by decide +kernel
theorem dX6_kindOf_2 : decode cX6_kindOf 2 = .ok (.invokevirtual 99, 3) := by decide +kernel
theorem dX6_lengthOf_0 : decode cX6_lengthOf 0 = .ok (.aload_n 0, 1) := by decide +kernel
theorem dX6_lengthOf_1 : decode cX6_lengthOf 1 = .ok (.iload_n 1, 1) := by decide +kernel
theorem dX6_lengthOf_2 : decode cX6_lengthOf 2 = .ok (.invokevirtual 99, 3) := by decide +kernel
theorem dX6_sampleOf_0 : decode cX6_sampleOf 0 = .ok (.aload_n 0, 1) := by decide +kernel
theorem dX6_sampleOf_1 : decode cX6_sampleOf 1 = .ok (.iload_n 1, 1) := by decide +kernel
theorem dX6_sampleOf_2 : decode cX6_sampleOf 2 = .ok (.invokevirtual 99, 3) := by decide +kernel
theorem dX6_loudness_0 : decode cX6_loudness 0 = .ok (.aload_n 0, 1) := by decide +kernel
theorem dX6_loudness_1 : decode cX6_loudness 1 = .ok (.iload_n 1, 1) := by decide +kernel
theorem dX6_loudness_2 : decode cX6_loudness 2 = .ok (.invokevirtual 99, 3) := by decide +kernel
theorem dX6_peak_0 : decode cX6_peak 0 = .ok (.aload_n 0, 1) := by decide +kernel
theorem dX6_peak_1 : decode cX6_peak 1 = .ok (.iload_n 1, 1) := by decide +kernel
theorem dX6_peak_2 : decode cX6_peak 2 = .ok (.invokevirtual 99, 3) := by decide +kernel
theorem dX6_add_0 : decode cX6_add 0 = .ok (.aload_n 0, 1) := by decide +kernel
theorem dX6_add_1 : decode cX6_add 1 = .ok (.iload_n 1, 1) := by decide +kernel
theorem dX6_add_2 : decode cX6_add 2 = .ok (.invokevirtual 99, 3) := by decide +kernel
theorem dX6_lock_0 : decode cX6_lock 0 = .ok (.aload_n 0, 1) := by decide +kernel
theorem dX6_lock_1 : decode cX6_lock 1 = .ok (.iload_n 1, 1) := by decide +kernel
theorem dX6_lock_2 : decode cX6_lock 2 = .ok (.invokevirtual 147, 3) := by decide +kernel
theorem dX6_replace_0 : decode cX6_replace 0 = .ok (.aload_n 0, 1) := by decide +kernel
theorem dX6_replace_1 : decode cX6_replace 1 = .ok (.iload_n 1, 1) := by decide +kernel
theorem dX6_replace_2 : decode cX6_replace 2 = .ok (.invokevirtual 147, 3) := by decide +kernel
theorem dX6_startOf_0 : decode cX6_startOf 0 = .ok (.aload_n 0, 1) := by decide +kernel
theorem dX6_startOf_1 : decode cX6_startOf 1 = .ok (.iload_n 1, 1) := by decide +kernel
theorem dX6_startOf_2 : decode cX6_startOf 2 = .ok (.invokevirtual 147, 3) := by decide +kernel
theorem dX6_programLength_0 : decode cX6_programLength 0 = .ok (.aload_n 0, 1) := by decide +kernel
theorem dX6_programLength_1 : decode cX6_programLength 1 = .ok (.getfield 24, 3) := by decide +kernel
theorem dX6_programLength_4 : decode cX6_programLength 4 = .ok (.getfield 129, 3) := by decide +kernel
theorem dX6_programLength_7 : decode cX6_programLength 7 = .ok (.ireturn, 1) := by decide +kernel
theorem dX6_heard_0 : decode cX6_heard 0 = .ok (.iload_n 1, 1) := by decide +kernel
theorem dX6_heard_1 : decode cX6_heard 1 = .ok (.aload_n 0, 1) := by decide +kernel
theorem dX6_heard_2 : decode cX6_heard 2 = .ok (.getfield 24, 3) := by decide +kernel
theorem dX6_heard_5 : decode cX6_heard 5 = .ok (.getfield 129, 3) := by decide +kernel
theorem dX6_heard_8 : decode cX6_heard 8 = .ok (.invokestatic 118, 3) := by decide +kernel
theorem dX6_sides_0 : decode cX6_sides 0 = .ok (.aload_n 0, 1) := by decide +kernel
theorem dX6_sides_1 : decode cX6_sides 1 = .ok (.iload_n 1, 1) := by decide +kernel
theorem dX6_sides_2 : decode cX6_sides 2 = .ok (.invokevirtual 175, 3) := by decide +kernel
theorem dX6_sides_5 : decode cX6_sides 5 = .ok (.ireturn, 1) := by decide +kernel
theorem dX6_sideOf_0 : decode cX6_sideOf 0 = .ok (.aload_n 0, 1) := by decide +kernel
theorem dX6_sideOf_1 : decode cX6_sideOf 1 = .ok (.iload_n 1, 1) := by decide +kernel
theorem dX6_sideOf_2 : decode cX6_sideOf 2 = .ok (.invokevirtual 147, 3) := by decide +kernel
theorem dX6_engrave_0 : decode cX6_engrave 0 = .ok (.aload_n 0, 1) := by decide +kernel
theorem dX6_engrave_1 : decode cX6_engrave 1 = .ok (.iload_n 2, 1) := by decide +kernel
theorem dX6_engrave_2 : decode cX6_engrave 2 = .ok (.invokevirtual 175, 3) := by decide +kernel
theorem dX6_engrave_5 : decode cX6_engrave 5 = .ok (.istore_n 3, 1) := by decide +kernel
theorem dX6_engrave_6 : decode cX6_engrave 6 = .ok (.iload_n 1, 1) := by decide +kernel
theorem dX6_engrave_7 : decode cX6_engrave 7 = .ok (.iload_n 3, 1) := by decide +kernel
theorem dX6_engrave_8 : decode cX6_engrave 8 = .ok (.invokestatic 118, 3) := by decide +kernel
theorem dX6_failedAt_0 : decode cX6_failedAt 0 = .ok (.iload_n 1, 1) := by decide +kernel
theorem dX6_failedAt_1 : decode cX6_failedAt 1 = .ok (.aload_n 0, 1) := by decide +kernel
theorem dX6_failedAt_2 : decode cX6_failedAt 2 = .ok (.getfield 31, 3) := by decide +kernel
theorem dX6_failedAt_5 : decode cX6_failedAt 5 = .ok (.getfield 181, 3) := by decide +kernel
theorem dX6_failedAt_8 : decode cX6_failedAt 8 = .ok (.invokestatic 193, 3) := by decide +kernel
theorem dX6_father_0 : decode cX6_father 0 = .ok (.iload_n 1, 1) := by decide +kernel
theorem dX6_father_1 : decode cX6_father 1 = .ok (.aload_n 0, 1) := by decide +kernel
theorem dX6_father_2 : decode cX6_father 2 = .ok (.getfield 31, 3) := by decide +kernel
theorem dX6_father_5 : decode cX6_father 5 = .ok (.getfield 181, 3) := by decide +kernel
theorem dX6_father_8 : decode cX6_father 8 = .ok (.invokestatic 193, 3) := by decide +kernel
theorem dX6_mother_0 : decode cX6_mother 0 = .ok (.iload_n 1, 1) := by decide +kernel
theorem dX6_mother_1 : decode cX6_mother 1 = .ok (.aload_n 0, 1) := by decide +kernel
theorem dX6_mother_2 : decode cX6_mother 2 = .ok (.getfield 31, 3) := by decide +kernel
theorem dX6_mother_5 : decode cX6_mother 5 = .ok (.getfield 208, 3) := by decide +kernel
theorem dX6_mother_8 : decode cX6_mother 8 = .ok (.invokestatic 193, 3) := by decide +kernel
theorem dX6_stamper_0 : decode cX6_stamper 0 = .ok (.iload_n 1, 1) := by decide +kernel
theorem dX6_stamper_1 : decode cX6_stamper 1 = .ok (.aload_n 0, 1) := by decide +kernel
theorem dX6_stamper_2 : decode cX6_stamper 2 = .ok (.getfield 31, 3) := by decide +kernel
theorem dX6_stamper_5 : decode cX6_stamper 5 = .ok (.getfield 216, 3) := by decide +kernel
theorem dX6_stamper_8 : decode cX6_stamper 8 = .ok (.invokestatic 193, 3) := by decide +kernel
theorem dX6_press_0 : decode cX6_press 0 = .ok (.iload_n 1, 1) := by decide +kernel
theorem dX6_press_1 : decode cX6_press 1 = .ok (.aload_n 0, 1) := by decide +kernel
theorem dX6_press_2 : decode cX6_press 2 = .ok (.getfield 31, 3) := by decide +kernel
theorem dX6_press_5 : decode cX6_press 5 = .ok (.getfield 224, 3) := by decide +kernel
theorem dX6_press_8 : decode cX6_press 8 = .ok (.invokestatic 193, 3) := by decide +kernel
theorem dX6_edition_0 : decode cX6_edition 0 = .ok (.iload_n 1, 1) := by decide +kernel
theorem dX6_edition_1 : decode cX6_edition 1 = .ok (.bipush (-30), 2) := by decide +kernel
theorem dX6_edition_3 : decode cX6_edition 3 = .ok (.bipush 30, 2) := by decide +kernel
theorem dX6_edition_5 : decode cX6_edition 5 = .ok (.invokestatic 57, 3) := by decide +kernel
theorem dX6_edition_8 : decode cX6_edition 8 = .ok (.aload_n 0, 1) := by decide +kernel
theorem dX6_edition_9 : decode cX6_edition 9 = .ok (.getfield 24, 3) := by decide +kernel
theorem dX6_edition_12 : decode cX6_edition 12 = .ok (.getfield 133, 3) := by decide +kernel
theorem dX6_edition_15 : decode cX6_edition 15 = .ok (.ifCond .ne 13, 3) := by decide +kernel
theorem dX6_edition_18 : decode cX6_edition 18 = .ok (.new 203, 3) := by decide +kernel
theorem dX6_edition_21 : decode cX6_edition 21 = .ok (.dup, 1) := by decide +kernel
theorem dX6_edition_22 : decode cX6_edition 22 = .ok (.ldc 235, 2) := by decide +kernel
theorem dX6_edition_24 : decode cX6_edition 24 = .ok (.invokespecial 207, 3) := by decide +kernel
theorem dX6_edition_27 : decode cX6_edition 27 = .ok (.athrow, 1) := by decide +kernel
theorem dX6_editionAt_0 : decode cX6_editionAt 0 = .ok (.aload_n 0, 1) := by decide +kernel
theorem dX6_editionAt_1 : decode cX6_editionAt 1 = .ok (.iload_n 1, 1) := by decide +kernel
theorem dX6_editionAt_2 : decode cX6_editionAt 2 = .ok (.invokevirtual 248, 3) := by decide +kernel
theorem dX6_sum_0 : decode cX6_sum 0 = .ok (.aload_n 0, 1) := by decide +kernel
theorem dX6_sum_1 : decode cX6_sum 1 = .ok (.iload_n 1, 1) := by decide +kernel
theorem dX6_sum_2 : decode cX6_sum 2 = .ok (.invokevirtual 248, 3) := by decide +kernel
theorem dX6_match_0 : decode cX6_match 0 = .ok (.aload_n 0, 1) := by decide +kernel
theorem dX6_match_1 : decode cX6_match 1 = .ok (.iload_n 1, 1) := by decide +kernel
theorem dX6_match_2 : decode cX6_match 2 = .ok (.invokevirtual 248, 3) := by decide +kernel
theorem dX6_difference_0 : decode cX6_difference 0 = .ok (.aload_n 0, 1) := by decide +kernel
theorem dX6_difference_1 : decode cX6_difference 1 = .ok (.iload_n 1, 1) := by decide +kernel
theorem dX6_difference_2 : decode cX6_difference 2 = .ok (.invokevirtual 248, 3) := by decide +kernel
theorem dX6_differsAt_0 : decode cX6_differsAt 0 = .ok (.aload_n 0, 1) := by decide +kernel
theorem dX6_differsAt_1 : decode cX6_differsAt 1 = .ok (.iload_n 1, 1) := by decide +kernel
theorem dX6_differsAt_2 : decode cX6_differsAt 2 = .ok (.invokevirtual 248, 3) := by decide +kernel
theorem dX6_damage_0 : decode cX6_damage 0 = .ok (.aload_n 0, 1) := by decide +kernel
theorem dX6_damage_1 : decode cX6_damage 1 = .ok (.iload_n 1, 1) := by decide +kernel
theorem dX6_damage_2 : decode cX6_damage 2 = .ok (.invokevirtual 248, 3) := by decide +kernel
theorem dX6_repair_0 : decode cX6_repair 0 = .ok (.aload_n 0, 1) := by decide +kernel
theorem dX6_repair_1 : decode cX6_repair 1 = .ok (.iload_n 1, 1) := by decide +kernel
theorem dX6_repair_2 : decode cX6_repair 2 = .ok (.invokevirtual 248, 3) := by decide +kernel
theorem dX6_padding_0 : decode cX6_padding 0 = .ok (.aload_n 0, 1) := by decide +kernel
theorem dX6_padding_1 : decode cX6_padding 1 = .ok (.iload_n 1, 1) := by decide +kernel
theorem dX6_padding_2 : decode cX6_padding 2 = .ok (.invokevirtual 99, 3) := by decide +kernel
theorem dX6_shuffled_0 : decode cX6_shuffled 0 = .ok (.iload_n 1, 1) := by decide +kernel
theorem dX6_shuffled_1 : decode cX6_shuffled 1 = .ok (.iconst 1, 1) := by decide +kernel
theorem dX6_shuffled_2 : decode cX6_shuffled 2 = .ok (.ldc 113, 2) := by decide +kernel
theorem dX6_shuffled_4 : decode cX6_shuffled 4 = .ok (.invokestatic 57, 3) := by decide +kernel
theorem dX6_shuffled_7 : decode cX6_shuffled 7 = .ok (.iload_n 2, 1) := by decide +kernel
theorem dX6_shuffled_8 : decode cX6_shuffled 8 = .ok (.aload_n 0, 1) := by decide +kernel
theorem dX6_shuffled_9 : decode cX6_shuffled 9 = .ok (.getfield 24, 3) := by decide +kernel
theorem dX6_shuffled_12 : decode cX6_shuffled 12 = .ok (.getfield 133, 3) := by decide +kernel
theorem dX6_shuffled_15 : decode cX6_shuffled 15 = .ok (.invokestatic 118, 3) := by decide +kernel
theorem dX6_split_0 : decode cX6_split 0 = .ok (.aload_n 0, 1) := by decide +kernel
theorem dX6_split_1 : decode cX6_split 1 = .ok (.iload_n 1, 1) := by decide +kernel
theorem dX6_split_2 : decode cX6_split 2 = .ok (.invokevirtual 147, 3) := by decide +kernel
theorem dX6_play_0 : decode cX6_play 0 = .ok (.aload_n 0, 1) := by decide +kernel
theorem dX6_play_1 : decode cX6_play 1 = .ok (.iload_n 1, 1) := by decide +kernel
theorem dX6_play_2 : decode cX6_play 2 = .ok (.invokevirtual 147, 3) := by decide +kernel
theorem dX6_earned_0 : decode cX6_earned 0 = .ok (.iload_n 1, 1) := by decide +kernel
theorem dX6_earned_1 : decode cX6_earned 1 = .ok (.iconst 0, 1) := by decide +kernel
theorem dX6_earned_2 : decode cX6_earned 2 = .ok (.bipush 7, 2) := by decide +kernel
theorem dX6_earned_4 : decode cX6_earned 4 = .ok (.invokestatic 57, 3) := by decide +kernel
theorem dX6_earned_7 : decode cX6_earned 7 = .ok (.iload_n 2, 1) := by decide +kernel
theorem dX6_earned_8 : decode cX6_earned 8 = .ok (.iconst 1, 1) := by decide +kernel
theorem dX6_earned_9 : decode cX6_earned 9 = .ok (.sipush 999, 3) := by decide +kernel
theorem dX6_earned_12 : decode cX6_earned 12 = .ok (.invokestatic 57, 3) := by decide +kernel
theorem dX6_earned_15 : decode cX6_earned 15 = .ok (.lconst 0, 1) := by decide +kernel
theorem dX6_earned_16 : decode cX6_earned 16 = .ok (.lstore_n 3, 1) := by decide +kernel
theorem dX6_earned_17 : decode cX6_earned 17 = .ok (.iconst 0, 1) := by decide +kernel
theorem dX6_earned_18 : decode cX6_earned 18 = .ok (.istore 5, 2) := by decide +kernel
theorem dX6_earned_20 : decode cX6_earned 20 = .ok (.iload 5, 2) := by decide +kernel
theorem dX6_earned_22 : decode cX6_earned 22 = .ok (.aload_n 0, 1) := by decide +kernel
theorem dX6_earned_23 : decode cX6_earned 23 = .ok (.getfield 24, 3) := by decide +kernel
theorem dX6_earned_26 : decode cX6_earned 26 = .ok (.getfield 133, 3) := by decide +kernel
theorem dX6_earned_29 : decode cX6_earned 29 = .ok (.if_icmp .ge 46, 3) := by decide +kernel
theorem dX6_earned_75 : decode cX6_earned 75 = .ok (.lload_n 3, 1) := by decide +kernel
theorem dX6_earned_76 : decode cX6_earned 76 = .ok (.lreturn, 1) := by decide +kernel
theorem dX6_vote_0 : decode cX6_vote 0 = .ok (.aload_n 0, 1) := by decide +kernel
theorem dX6_vote_1 : decode cX6_vote 1 = .ok (.iload_n 1, 1) := by decide +kernel
theorem dX6_vote_2 : decode cX6_vote 2 = .ok (.invokevirtual 248, 3) := by decide +kernel
theorem dX6_favourite_0 : decode cX6_favourite 0 = .ok (.iconst (-1), 1) := by decide +kernel
theorem dX6_favourite_1 : decode cX6_favourite 1 = .ok (.istore_n 1, 1) := by decide +kernel
theorem dX6_favourite_2 : decode cX6_favourite 2 = .ok (.iconst 0, 1) := by decide +kernel
theorem dX6_favourite_3 : decode cX6_favourite 3 = .ok (.istore_n 2, 1) := by decide +kernel
theorem dX6_favourite_4 : decode cX6_favourite 4 = .ok (.iload_n 2, 1) := by decide +kernel
theorem dX6_favourite_5 : decode cX6_favourite 5 = .ok (.aload_n 0, 1) := by decide +kernel
theorem dX6_favourite_6 : decode cX6_favourite 6 = .ok (.getfield 237, 3) := by decide +kernel
theorem dX6_favourite_9 : decode cX6_favourite 9 = .ok (.if_icmp .ge 45, 3) := by decide +kernel
theorem dX6_favourite_54 : decode cX6_favourite 54 = .ok (.iload_n 1, 1) := by decide +kernel
theorem dX6_favourite_55 : decode cX6_favourite 55 = .ok (.ifCond .ge 14, 3) := by decide +kernel
theorem dX6_favourite_58 : decode cX6_favourite 58 = .ok (.new 273, 3) := by decide +kernel
theorem dX6_favourite_61 : decode cX6_favourite 61 = .ok (.dup, 1) := by decide +kernel
theorem dX6_favourite_62 : decode cX6_favourite 62 = .ok (.ldc_w 320, 3) := by decide +kernel
theorem dX6_favourite_65 : decode cX6_favourite 65 = .ok (.invokespecial 277, 3) := by decide +kernel
theorem dX6_favourite_68 : decode cX6_favourite 68 = .ok (.athrow, 1) := by decide +kernel
theorem dX6_goodShare_0 : decode cX6_goodShare 0 = .ok (.aload_n 0, 1) := by decide +kernel
theorem dX6_goodShare_1 : decode cX6_goodShare 1 = .ok (.getfield 31, 3) := by decide +kernel
theorem dX6_goodShare_4 : decode cX6_goodShare 4 = .ok (.getfield 322, 3) := by decide +kernel
theorem dX6_goodShare_7 : decode cX6_goodShare 7 = .ok (.ifCond .ne 14, 3) := by decide +kernel
theorem dX6_goodShare_10 : decode cX6_goodShare 10 = .ok (.new 325, 3) := by decide +kernel
theorem dX6_goodShare_13 : decode cX6_goodShare 13 = .ok (.dup, 1) := by decide +kernel
theorem dX6_goodShare_14 : decode cX6_goodShare 14 = .ok (.ldc_w 327, 3) := by decide +kernel
theorem dX6_goodShare_17 : decode cX6_goodShare 17 = .ok (.invokespecial 329, 3) := by decide +kernel
theorem dX6_goodShare_20 : decode cX6_goodShare 20 = .ok (.athrow, 1) := by decide +kernel
theorem dX6_meanMark_0 : decode cX6_meanMark 0 = .ok (.aload_n 0, 1) := by decide +kernel
theorem dX6_meanMark_1 : decode cX6_meanMark 1 = .ok (.iload_n 1, 1) := by decide +kernel
theorem dX6_meanMark_2 : decode cX6_meanMark 2 = .ok (.invokevirtual 248, 3) := by decide +kernel
theorem dX6_checksum_0 : decode cX6_checksum 0 = .ok (.ldc2_w 338, 3) := by decide +kernel
theorem dX6_checksum_3 : decode cX6_checksum 3 = .ok (.lstore_n 1, 1) := by decide +kernel
theorem dX6_checksum_4 : decode cX6_checksum 4 = .ok (.iconst 0, 1) := by decide +kernel
theorem dX6_checksum_5 : decode cX6_checksum 5 = .ok (.istore_n 3, 1) := by decide +kernel
theorem dX6_checksum_6 : decode cX6_checksum 6 = .ok (.iload_n 3, 1) := by decide +kernel
theorem dX6_checksum_7 : decode cX6_checksum 7 = .ok (.aload_n 0, 1) := by decide +kernel
theorem dX6_checksum_8 : decode cX6_checksum 8 = .ok (.getfield 340, 3) := by decide +kernel
theorem dX6_checksum_11 : decode cX6_checksum 11 = .ok (.if_icmp .ge 47, 3) := by decide +kernel
theorem dX6_checksum_58 : decode cX6_checksum 58 = .ok (.iconst 0, 1) := by decide +kernel
theorem dX6_checksum_59 : decode cX6_checksum 59 = .ok (.istore_n 3, 1) := by decide +kernel
theorem dX6_checksum_60 : decode cX6_checksum 60 = .ok (.iload_n 3, 1) := by decide +kernel
theorem dX6_checksum_61 : decode cX6_checksum 61 = .ok (.aload_n 0, 1) := by decide +kernel
theorem dX6_checksum_62 : decode cX6_checksum 62 = .ok (.getfield 24, 3) := by decide +kernel
theorem dX6_checksum_65 : decode cX6_checksum 65 = .ok (.getfield 133, 3) := by decide +kernel
theorem dX6_checksum_68 : decode cX6_checksum 68 = .ok (.if_icmp .ge 29, 3) := by decide +kernel
theorem dX6_checksum_97 : decode cX6_checksum 97 = .ok (.iconst 0, 1) := by decide +kernel
theorem dX6_checksum_98 : decode cX6_checksum 98 = .ok (.istore_n 3, 1) := by decide +kernel
theorem dX6_checksum_99 : decode cX6_checksum 99 = .ok (.iload_n 3, 1) := by decide +kernel
theorem dX6_checksum_100 : decode cX6_checksum 100 = .ok (.aload_n 0, 1) := by decide +kernel
theorem dX6_checksum_101 : decode cX6_checksum 101 = .ok (.getfield 31, 3) := by decide +kernel
theorem dX6_checksum_104 : decode cX6_checksum 104 = .ok (.getfield 181, 3) := by decide +kernel
theorem dX6_checksum_107 : decode cX6_checksum 107 = .ok (.if_icmp .ge 26, 3) := by decide +kernel
theorem dX6_checksum_133 : decode cX6_checksum 133 = .ok (.iconst 0, 1) := by decide +kernel
theorem dX6_checksum_134 : decode cX6_checksum 134 = .ok (.istore_n 3, 1) := by decide +kernel
theorem dX6_checksum_135 : decode cX6_checksum 135 = .ok (.iload_n 3, 1) := by decide +kernel
theorem dX6_checksum_136 : decode cX6_checksum 136 = .ok (.aload_n 0, 1) := by decide +kernel
theorem dX6_checksum_137 : decode cX6_checksum 137 = .ok (.getfield 31, 3) := by decide +kernel
theorem dX6_checksum_140 : decode cX6_checksum 140 = .ok (.getfield 224, 3) := by decide +kernel
theorem dX6_checksum_143 : decode cX6_checksum 143 = .ok (.if_icmp .ge 26, 3) := by decide +kernel
theorem dX6_checksum_169 : decode cX6_checksum 169 = .ok (.iconst 0, 1) := by decide +kernel
theorem dX6_checksum_170 : decode cX6_checksum 170 = .ok (.istore_n 3, 1) := by decide +kernel
theorem dX6_checksum_171 : decode cX6_checksum 171 = .ok (.iload_n 3, 1) := by decide +kernel
theorem dX6_checksum_172 : decode cX6_checksum 172 = .ok (.aload_n 0, 1) := by decide +kernel
theorem dX6_checksum_173 : decode cX6_checksum 173 = .ok (.getfield 237, 3) := by decide +kernel
theorem dX6_checksum_176 : decode cX6_checksum 176 = .ok (.if_icmp .ge 27, 3) := by decide +kernel
theorem dX6_checksum_203 : decode cX6_checksum 203 = .ok (.lload_n 1, 1) := by decide +kernel
theorem dX6_checksum_204 : decode cX6_checksum 204 = .ok (.lreturn, 1) := by decide +kernel
theorem dX6_isTrue_0 : decode cX6_isTrue 0 = .ok (.iconst 0, 1) := by decide +kernel
theorem dX6_isTrue_1 : decode cX6_isTrue 1 = .ok (.istore_n 1, 1) := by decide +kernel
theorem dX6_isTrue_2 : decode cX6_isTrue 2 = .ok (.iload_n 1, 1) := by decide +kernel
theorem dX6_isTrue_3 : decode cX6_isTrue 3 = .ok (.aload_n 0, 1) := by decide +kernel
theorem dX6_isTrue_4 : decode cX6_isTrue 4 = .ok (.getfield 340, 3) := by decide +kernel
theorem dX6_isTrue_7 : decode cX6_isTrue 7 = .ok (.if_icmp .ge 23, 3) := by decide +kernel
theorem dX6_isTrue_30 : decode cX6_isTrue 30 = .ok (.iconst 0, 1) := by decide +kernel
theorem dX6_isTrue_31 : decode cX6_isTrue 31 = .ok (.istore_n 1, 1) := by decide +kernel
theorem dX6_isTrue_32 : decode cX6_isTrue 32 = .ok (.iload_n 1, 1) := by decide +kernel
theorem dX6_isTrue_33 : decode cX6_isTrue 33 = .ok (.aload_n 0, 1) := by decide +kernel
theorem dX6_isTrue_34 : decode cX6_isTrue 34 = .ok (.getfield 237, 3) := by decide +kernel
theorem dX6_isTrue_37 : decode cX6_isTrue 37 = .ok (.if_icmp .ge 44, 3) := by decide +kernel
theorem dX6_isTrue_81 : decode cX6_isTrue 81 = .ok (.aload_n 0, 1) := by decide +kernel
theorem dX6_isTrue_82 : decode cX6_isTrue 82 = .ok (.getfield 24, 3) := by decide +kernel
theorem dX6_isTrue_85 : decode cX6_isTrue 85 = .ok (.invokevirtual 353, 3) := by decide +kernel
theorem dX6_isTrue_88 : decode cX6_isTrue 88 = .ok (.ireturn, 1) := by decide +kernel
theorem dX6_needIndex_0 : decode cX6_needIndex 0 = .ok (.iload_n 0, 1) := by decide +kernel
theorem dX6_needIndex_1 : decode cX6_needIndex 1 = .ok (.ifCond .lt 8, 3) := by decide +kernel
theorem dX6_needIndex_4 : decode cX6_needIndex 4 = .ok (.iload_n 0, 1) := by decide +kernel
theorem dX6_needIndex_5 : decode cX6_needIndex 5 = .ok (.iload_n 1, 1) := by decide +kernel
theorem dX6_needIndex_6 : decode cX6_needIndex 6 = .ok (.if_icmp .lt 14, 3) := by decide +kernel
theorem dX6_needIndex_9 : decode cX6_needIndex 9 = .ok (.new 75, 3) := by decide +kernel
theorem dX6_needIndex_12 : decode cX6_needIndex 12 = .ok (.dup, 1) := by decide +kernel
theorem dX6_needIndex_13 : decode cX6_needIndex 13 = .ok (.ldc_w 354, 3) := by decide +kernel
theorem dX6_needIndex_16 : decode cX6_needIndex 16 = .ok (.invokespecial 79, 3) := by decide +kernel
theorem dX6_needIndex_19 : decode cX6_needIndex 19 = .ok (.athrow, 1) := by decide +kernel
theorem dX6_needElement_0 : decode cX6_needElement 0 = .ok (.iload_n 0, 1) := by decide +kernel
theorem dX6_needElement_1 : decode cX6_needElement 1 = .ok (.ifCond .lt 8, 3) := by decide +kernel
theorem dX6_needElement_4 : decode cX6_needElement 4 = .ok (.iload_n 0, 1) := by decide +kernel
theorem dX6_needElement_5 : decode cX6_needElement 5 = .ok (.iload_n 1, 1) := by decide +kernel
theorem dX6_needElement_6 : decode cX6_needElement 6 = .ok (.if_icmp .lt 14, 3) := by decide +kernel
theorem dX6_needElement_9 : decode cX6_needElement 9 = .ok (.new 273, 3) := by decide +kernel
theorem dX6_needElement_12 : decode cX6_needElement 12 = .ok (.dup, 1) := by decide +kernel
theorem dX6_needElement_13 : decode cX6_needElement 13 = .ok (.ldc_w 356, 3) := by decide +kernel
theorem dX6_needElement_16 : decode cX6_needElement 16 = .ok (.invokespecial 277, 3) := by decide +kernel
theorem dX6_needElement_19 : decode cX6_needElement 19 = .ok (.athrow, 1) := by decide +kernel
theorem dX6_needRange_0 : decode cX6_needRange 0 = .ok (.iload_n 0, 1) := by decide +kernel
theorem dX6_needRange_1 : decode cX6_needRange 1 = .ok (.iload_n 1, 1) := by decide +kernel
theorem dX6_needRange_2 : decode cX6_needRange 2 = .ok (.if_icmp .lt 8, 3) := by decide +kernel
theorem dX6_needRange_5 : decode cX6_needRange 5 = .ok (.iload_n 0, 1) := by decide +kernel
theorem dX6_needRange_6 : decode cX6_needRange 6 = .ok (.iload_n 2, 1) := by decide +kernel
theorem dX6_needRange_7 : decode cX6_needRange 7 = .ok (.if_icmp .le 14, 3) := by decide +kernel
theorem dX6_needRange_10 : decode cX6_needRange 10 = .ok (.new 80, 3) := by decide +kernel
theorem dX6_needRange_13 : decode cX6_needRange 13 = .ok (.dup, 1) := by decide +kernel
theorem dX6_needRange_14 : decode cX6_needRange 14 = .ok (.ldc_w 358, 3) := by decide +kernel
theorem dX6_needRange_17 : decode cX6_needRange 17 = .ok (.invokespecial 84, 3) := by decide +kernel
theorem dX6_needRange_20 : decode cX6_needRange 20 = .ok (.athrow, 1) := by decide +kernel
theorem dX6_needRange_21 : decode cX6_needRange 21 = .ok (.return_, 1) := by decide +kernel
theorem dX6_knownReel_0 : decode cX6_knownReel 0 = .ok (.iload_n 1, 1) := by decide +kernel
theorem dX6_knownReel_1 : decode cX6_knownReel 1 = .ok (.aload_n 0, 1) := by decide +kernel
theorem dX6_knownReel_2 : decode cX6_knownReel 2 = .ok (.getfield 41, 3) := by decide +kernel
theorem dX6_knownReel_5 : decode cX6_knownReel 5 = .ok (.invokestatic 193, 3) := by decide +kernel
theorem dX6_knownPiece_0 : decode cX6_knownPiece 0 = .ok (.iload_n 1, 1) := by decide +kernel
theorem dX6_knownPiece_1 : decode cX6_knownPiece 1 = .ok (.aload_n 0, 1) := by decide +kernel
theorem dX6_knownPiece_2 : decode cX6_knownPiece 2 = .ok (.getfield 340, 3) := by decide +kernel
theorem dX6_knownPiece_5 : decode cX6_knownPiece 5 = .ok (.invokestatic 193, 3) := by decide +kernel
theorem dX6_knownItem_0 : decode cX6_knownItem 0 = .ok (.iload_n 1, 1) := by decide +kernel
theorem dX6_knownItem_1 : decode cX6_knownItem 1 = .ok (.aload_n 0, 1) := by decide +kernel
theorem dX6_knownItem_2 : decode cX6_knownItem 2 = .ok (.getfield 24, 3) := by decide +kernel
theorem dX6_knownItem_5 : decode cX6_knownItem 5 = .ok (.getfield 133, 3) := by decide +kernel
theorem dX6_knownItem_8 : decode cX6_knownItem 8 = .ok (.invokestatic 193, 3) := by decide +kernel
theorem dX6_knownEdition_0 : decode cX6_knownEdition 0 = .ok (.iload_n 1, 1) := by decide +kernel
theorem dX6_knownEdition_1 : decode cX6_knownEdition 1 = .ok (.aload_n 0, 1) := by decide +kernel
theorem dX6_knownEdition_2 : decode cX6_knownEdition 2 = .ok (.getfield 237, 3) := by decide +kernel
theorem dX6_knownEdition_5 : decode cX6_knownEdition 5 = .ok (.invokestatic 193, 3) := by decide +kernel
theorem dX6_fittedSides_0 : decode cX6_fittedSides 0 = .ok (.iload_n 1, 1) := by decide +kernel
theorem dX6_fittedSides_1 : decode cX6_fittedSides 1 = .ok (.iconst 1, 1) := by decide +kernel
theorem dX6_fittedSides_2 : decode cX6_fittedSides 2 = .ok (.ldc_w 369, 3) := by decide +kernel
theorem dX6_fittedSides_5 : decode cX6_fittedSides 5 = .ok (.invokestatic 57, 3) := by decide +kernel
theorem dX6_fittedSides_8 : decode cX6_fittedSides 8 = .ok (.aload_n 0, 1) := by decide +kernel
theorem dX6_fittedSides_9 : decode cX6_fittedSides 9 = .ok (.getfield 24, 3) := by decide +kernel
theorem dX6_fittedSides_12 : decode cX6_fittedSides 12 = .ok (.iload_n 1, 1) := by decide +kernel
theorem dX6_fittedSides_13 : decode cX6_fittedSides 13 = .ok (.invokevirtual 370, 3) := by decide +kernel
theorem dX6_fittedSides_16 : decode cX6_fittedSides 16 = .ok (.istore_n 2, 1) := by decide +kernel
theorem dX6_fittedSides_17 : decode cX6_fittedSides 17 = .ok (.iload_n 2, 1) := by decide +kernel
theorem dX6_fittedSides_18 : decode cX6_fittedSides 18 = .ok (.ifCond .ge 14, 3) := by decide +kernel
theorem dX6_fittedSides_32 : decode cX6_fittedSides 32 = .ok (.iload_n 2, 1) := by decide +kernel
theorem dX6_fittedSides_33 : decode cX6_fittedSides 33 = .ok (.ireturn, 1) := by decide +kernel
set_option maxRecDepth 100000 in
theorem kgd_75_79 : ∀ w ∈ Cond.classLink RX6 75 "java/lang/IndexOutOfBoundsException" :: Cond.initialized "java/lang/IndexOutOfBoundsException" :: vx_atS RX6 79 "java/lang/IndexOutOfBoundsException" ["java/lang/RuntimeException", "java/lang/Exception"], vx_ot w = true := by decide +kernel
set_option maxRecDepth 100000 in
theorem kgd_273_277 : ∀ w ∈ Cond.classLink RX6 273 "java/util/NoSuchElementException" :: Cond.initialized "java/util/NoSuchElementException" :: kn_at 277, vx_ot w = true := by decide +kernel
set_option maxRecDepth 100000 in
theorem kgd_80_84 : ∀ w ∈ Cond.classLink RX6 80 "java/lang/IllegalArgumentException" :: Cond.initialized "java/lang/IllegalArgumentException" :: vx_atS RX6 84 "java/lang/IllegalArgumentException" ["java/lang/RuntimeException", "java/lang/Exception"], vx_ot w = true := by decide +kernel
set_option maxRecDepth 100000 in
theorem kgd_203_207 : ∀ w ∈ Cond.classLink RX6 203 "java/lang/UnsupportedOperationException" :: Cond.initialized "java/lang/UnsupportedOperationException" :: vx_atS RX6 207 "java/lang/UnsupportedOperationException" ["java/lang/RuntimeException", "java/lang/Exception"], vx_ot w = true := by decide +kernel
set_option maxRecDepth 100000 in
theorem kgd_325_329 : ∀ w ∈ Cond.classLink RX6 325 "java/lang/ArithmeticException" :: Cond.initialized "java/lang/ArithmeticException" :: vx_atS RX6 329 "java/lang/ArithmeticException" ["java/lang/RuntimeException", "java/lang/Exception"], vx_ot w = true := by decide +kernel
def wo_c_X6_needIndex : List Cond := [Cond.classLink RX6 75 "java/lang/IndexOutOfBoundsException", Cond.initialized "java/lang/IndexOutOfBoundsException"]
def wk_c_X6_needIndex : List Cond := Cond.code yX6_needIndex cX6_needIndex 2 none :: (wo_c_X6_needIndex ++ ((vx_atS RX6 79 "java/lang/IndexOutOfBoundsException" ["java/lang/RuntimeException", "java/lang/Exception"]).filter goodWord))
theorem wo_c_X6_needIndex_in : ∀ w ∈ wo_c_X6_needIndex, w ∈ wk_c_X6_needIndex := fun w h => List.mem_cons_of_mem _ (List.mem_append_left _ h)
theorem wt_c_X6_needIndex_0 {D : va_G} {e0 : kE} {A : Nat → Prop} {s : State} {args : Array Value} {H : Heap} {wv : va_W} {tys : List (ClassId × FieldType)} {locs : List Loc} (hts : ∀ w ∈ wk_c_X6_needIndex, w.before args s = true) (hh : kH D kStr e0 A s H wv tys locs) : ∀ w ∈ vx_atS RX6 79 "java/lang/IndexOutOfBoundsException" ["java/lang/RuntimeException", "java/lang/Exception"], w.before args s = true :=
  vx_hat (B := [Cond.castable "java/lang/IndexOutOfBoundsException" "java/lang/IndexOutOfBoundsException", Cond.declares (Bundle.initS "java/lang/RuntimeException"), Cond.declares (Bundle.initS "java/lang/Exception"), Cond.declares (Bundle.initS Bundle.tN)]) (fun w h => hts w (List.mem_cons_of_mem _ (List.mem_append_right _ h))) (by decide +kernel) (vx_c (hh.2.2.2.2.2.2.2.2.2.1 "java/lang/IndexOutOfBoundsException" (by decide)).word (vx_c (kD_word hh (by decide)) (vx_c (kD_word hh (by decide)) (vx_c (kD_word hh (by decide)) vx_n))))
theorem gk_c_X6_needIndex : ∀ w ∈ wk_c_X6_needIndex, goodWord w = true := List.forall_mem_cons.mpr ⟨rfl, (List.forall_mem_append.mpr ⟨(show ∀ w ∈ wo_c_X6_needIndex, goodWord w = true by decide +kernel), (fun w h => (List.mem_filter.mp h).2)⟩)⟩
set_option maxHeartbeats 4000000 in
set_option maxRecDepth 100000 in
/-- needIndex(v, 0) throws -/
theorem c_X6_needIndex (l : Launch) (hst : l.stackTraces = false) (D : va_G) (e0 : kE) (pv : Int32)  : kM l yX6_needIndex wk_c_X6_needIndex 6 100 1 6 D kStr e0 [] [] [.int pv, .int 0] (fun _ _ _ => False) (fun E => E = "java/lang/IndexOutOfBoundsException") := by
  refine k_of (cc := cX6_needIndex) (maxL := 2) (ret := none) (by decide) rfl (Nat.le_of_ble_eq_true rfl) ?_
  intro p e s m args below meth c A ls hx hb hr hts hown hlocks hml hex hh hl
  have hown : s.vm.findClass RX6 = some m.cls := hown
  have hl : lv_has ls 2 [(0, .int pv), (1, .int 0)] := hl
  refine lv_iload_n hx hb dX6_needIndex_0 rfl (lv_at hl 0 rfl) ?_
  refine lv_if_lt (tgt := 9) hx hb dX6_needIndex_1 (by decide) (fun c_1 => ?_) (fun c_1 => ?_)
  · exact k_throwW (text := "there is no such number") (cls := "java/lang/IndexOutOfBoundsException") (names := ["java/lang/RuntimeException", "java/lang/Exception"]) hx hb hst hown (by decide) (by decide) (hts _ (wo_c_X6_needIndex_in _ (List.mem_of_getElem? (i := 0) rfl))) (hts _ (wo_c_X6_needIndex_in _ (List.mem_of_getElem? (i := 1) rfl))) (wt_c_X6_needIndex_0 hts hh) kgd_75_79 hh (by decide) hml hl dX6_needIndex_9 dX6_needIndex_12 dX6_needIndex_13 dX6_needIndex_16 dX6_needIndex_19 hex (Nat.le_of_ble_eq_true rfl) (Nat.le_of_ble_eq_true rfl) (Nat.le_of_ble_eq_true rfl) (Nat.le_of_ble_eq_true rfl) hlocks rfl (Nat.le_of_ble_eq_true rfl) (Nat.le_of_ble_eq_true rfl)
  · refine lv_iload_n hx hb dX6_needIndex_4 rfl (lv_at hl 0 rfl) ?_
    refine lv_iload_n hx hb dX6_needIndex_5 rfl (lv_at hl 1 rfl) ?_
    refine lv_icmp_lt (tgt := 20) hx hb dX6_needIndex_6 (by decide) (fun c_6 => absurd c_6 (c_1)) (fun _ => ?_)
    exact k_throwW (text := "there is no such number") (cls := "java/lang/IndexOutOfBoundsException") (names := ["java/lang/RuntimeException", "java/lang/Exception"]) hx hb hst hown (by decide) (by decide) (hts _ (wo_c_X6_needIndex_in _ (List.mem_of_getElem? (i := 0) rfl))) (hts _ (wo_c_X6_needIndex_in _ (List.mem_of_getElem? (i := 1) rfl))) (wt_c_X6_needIndex_0 hts hh) kgd_75_79 hh (by decide) hml hl dX6_needIndex_9 dX6_needIndex_12 dX6_needIndex_13 dX6_needIndex_16 dX6_needIndex_19 hex (Nat.le_of_ble_eq_true rfl) (Nat.le_of_ble_eq_true rfl) (Nat.le_of_ble_eq_true rfl) (Nat.le_of_ble_eq_true rfl) hlocks rfl (Nat.le_of_ble_eq_true rfl) (Nat.le_of_ble_eq_true rfl)
def wo_c_X6_needElement : List Cond := [Cond.classLink RX6 273 "java/util/NoSuchElementException", Cond.initialized "java/util/NoSuchElementException"]
def wk_c_X6_needElement : List Cond := Cond.code yX6_needElement cX6_needElement 2 none :: (wo_c_X6_needElement ++ ((kn_at 277).filter goodWord))
theorem wo_c_X6_needElement_in : ∀ w ∈ wo_c_X6_needElement, w ∈ wk_c_X6_needElement := fun w h => List.mem_cons_of_mem _ (List.mem_append_left _ h)
theorem wt_c_X6_needElement_0 {D : va_G} {e0 : kE} {A : Nat → Prop} {s : State} {args : Array Value} {H : Heap} {wv : va_W} {tys : List (ClassId × FieldType)} {locs : List Loc} (hts : ∀ w ∈ wk_c_X6_needElement, w.before args s = true) (hh : kH D kStr e0 A s H wv tys locs) : ∀ w ∈ kn_at 277, w.before args s = true :=
  vx_hat (B := [Cond.castable "java/util/NoSuchElementException" "java/util/NoSuchElementException", Cond.declares (Bundle.initS "java/lang/RuntimeException"), Cond.declares (Bundle.initS "java/lang/Exception"), Cond.declares (Bundle.initS Bundle.tN)]) (fun w h => hts w (List.mem_cons_of_mem _ (List.mem_append_right _ h))) (by decide +kernel) (vx_c (hh.2.2.2.2.2.2.2.2.2.1 "java/util/NoSuchElementException" (by decide)).word (vx_c (kD_word hh (by decide)) (vx_c (kD_word hh (by decide)) (vx_c (kD_word hh (by decide)) vx_n))))
theorem gk_c_X6_needElement : ∀ w ∈ wk_c_X6_needElement, goodWord w = true := List.forall_mem_cons.mpr ⟨rfl, (List.forall_mem_append.mpr ⟨(show ∀ w ∈ wo_c_X6_needElement, goodWord w = true by decide +kernel), (fun w h => (List.mem_filter.mp h).2)⟩)⟩
set_option maxHeartbeats 4000000 in
set_option maxRecDepth 100000 in
theorem c_X6_needElement (l : Launch) (hst : l.stackTraces = false) (D : va_G) (e0 : kE) (pv : Int32)  : kM l yX6_needElement wk_c_X6_needElement 6 100 1 6 D kStr e0 [] [] [.int pv, .int 0] (fun _ _ _ => False) (fun E => E = "java/util/NoSuchElementException") := by
  refine k_of (cc := cX6_needElement) (maxL := 2) (ret := none) (by decide) rfl (Nat.le_of_ble_eq_true rfl) ?_
  intro p e s m args below meth c A ls hx hb hr hts hown hlocks hml hex hh hl
  have hown : s.vm.findClass RX6 = some m.cls := hown
  have hl : lv_has ls 2 [(0, .int pv), (1, .int 0)] := hl
  refine lv_iload_n hx hb dX6_needElement_0 rfl (lv_at hl 0 rfl) ?_
  refine lv_if_lt (tgt := 9) hx hb dX6_needElement_1 (by decide) (fun c_1 => ?_) (fun c_1 => ?_)
  · exact k_throwN (text := "there is none there") (ic := 277) hx hb hst hown (hts _ (wo_c_X6_needElement_in _ (List.mem_of_getElem? (i := 0) rfl))) (hts _ (wo_c_X6_needElement_in _ (List.mem_of_getElem? (i := 1) rfl))) (wt_c_X6_needElement_0 hts hh) kgd_273_277 hh (by decide) hml hl dX6_needElement_9 dX6_needElement_12 dX6_needElement_13 dX6_needElement_16 dX6_needElement_19 hex (Nat.le_of_ble_eq_true rfl) (Nat.le_of_ble_eq_true rfl) (Nat.le_of_ble_eq_true rfl) (Nat.le_of_ble_eq_true rfl) hlocks rfl (Nat.le_of_ble_eq_true rfl) (Nat.le_of_ble_eq_true rfl)
  · refine lv_iload_n hx hb dX6_needElement_4 rfl (lv_at hl 0 rfl) ?_
    refine lv_iload_n hx hb dX6_needElement_5 rfl (lv_at hl 1 rfl) ?_
    refine lv_icmp_lt (tgt := 20) hx hb dX6_needElement_6 (by decide) (fun c_6 => absurd c_6 (c_1)) (fun _ => ?_)
    exact k_throwN (text := "there is none there") (ic := 277) hx hb hst hown (hts _ (wo_c_X6_needElement_in _ (List.mem_of_getElem? (i := 0) rfl))) (hts _ (wo_c_X6_needElement_in _ (List.mem_of_getElem? (i := 1) rfl))) (wt_c_X6_needElement_0 hts hh) kgd_273_277 hh (by decide) hml hl dX6_needElement_9 dX6_needElement_12 dX6_needElement_13 dX6_needElement_16 dX6_needElement_19 hex (Nat.le_of_ble_eq_true rfl) (Nat.le_of_ble_eq_true rfl) (Nat.le_of_ble_eq_true rfl) (Nat.le_of_ble_eq_true rfl) hlocks rfl (Nat.le_of_ble_eq_true rfl) (Nat.le_of_ble_eq_true rfl)
def wo_c_X6_needRange_ok : List Cond := []
def wk_c_X6_needRange_ok : List Cond := Cond.code yX6_needRange cX6_needRange 3 none :: wo_c_X6_needRange_ok
theorem wo_c_X6_needRange_ok_in : ∀ w ∈ wo_c_X6_needRange_ok, w ∈ wk_c_X6_needRange_ok := fun w h => List.mem_cons_of_mem _ h
theorem gk_c_X6_needRange_ok : ∀ w ∈ wk_c_X6_needRange_ok, goodWord w = true := List.forall_mem_cons.mpr ⟨rfl, (show ∀ w ∈ wo_c_X6_needRange_ok, goodWord w = true by decide +kernel)⟩
set_option maxHeartbeats 4000000 in
set_option maxRecDepth 100000 in
theorem c_X6_needRange_ok (l : Launch) (hst : l.stackTraces = false) (D : va_G) (e0 : kE) (pv : Int32) (pm : Int32) (pn : Int32) (h : pm ≤ pv ∧ pv ≤ pn) : kM l yX6_needRange wk_c_X6_needRange_ok 0 0 0 0 D kStr e0 [] [] [.int pv, .int pm, .int pn] (fun v w t => v = none ∧ w = [] ∧ t = []) (fun _ => False) := by
  refine k_of (cc := cX6_needRange) (maxL := 3) (ret := none) (by decide) rfl (Nat.le_of_ble_eq_true rfl) ?_
  intro p e s m args below meth c A ls hx hb hr hts hown hlocks hml hex hh hl
  have hown : s.vm.findClass RX6 = some m.cls := hown
  have hl : lv_has ls 3 [(0, .int pv), (1, .int pm), (2, .int pn)] := hl
  refine lv_iload_n hx hb dX6_needRange_0 rfl (lv_at hl 0 rfl) ?_
  refine lv_iload_n hx hb dX6_needRange_1 rfl (lv_at hl 1 rfl) ?_
  refine lv_icmp_lt (tgt := 10) hx hb dX6_needRange_2 (by decide) (fun c_2 => absurd c_2 (fun h9 => absurd h.1 (Int32.not_le.mpr h9))) (fun _ => ?_)
  refine lv_iload_n hx hb dX6_needRange_5 rfl (lv_at hl 0 rfl) ?_
  refine lv_iload_n hx hb dX6_needRange_6 rfl (lv_at hl 2 rfl) ?_
  refine lv_icmp_le (tgt := 21) hx hb dX6_needRange_7 (by decide) (fun _ => ?_) (fun c_7 => absurd (h.2) c_7)
  exact k_endv hx hb hr hlocks hh ⟨rfl, rfl, rfl⟩ [] [] rfl rfl rfl (Nat.le_of_ble_eq_true rfl) (Nat.le_of_ble_eq_true rfl) dX6_needRange_21
def wo_c_X6_needRange_bad : List Cond := [Cond.classLink RX6 80 "java/lang/IllegalArgumentException", Cond.initialized "java/lang/IllegalArgumentException"]
def wk_c_X6_needRange_bad : List Cond := Cond.code yX6_needRange cX6_needRange 3 none :: (wo_c_X6_needRange_bad ++ ((vx_atS RX6 84 "java/lang/IllegalArgumentException" ["java/lang/RuntimeException", "java/lang/Exception"]).filter goodWord))
theorem wo_c_X6_needRange_bad_in : ∀ w ∈ wo_c_X6_needRange_bad, w ∈ wk_c_X6_needRange_bad := fun w h => List.mem_cons_of_mem _ (List.mem_append_left _ h)
theorem wt_c_X6_needRange_bad_0 {D : va_G} {e0 : kE} {A : Nat → Prop} {s : State} {args : Array Value} {H : Heap} {wv : va_W} {tys : List (ClassId × FieldType)} {locs : List Loc} (hts : ∀ w ∈ wk_c_X6_needRange_bad, w.before args s = true) (hh : kH D kStr e0 A s H wv tys locs) : ∀ w ∈ vx_atS RX6 84 "java/lang/IllegalArgumentException" ["java/lang/RuntimeException", "java/lang/Exception"], w.before args s = true :=
  vx_hat (B := [Cond.castable "java/lang/IllegalArgumentException" "java/lang/IllegalArgumentException", Cond.declares (Bundle.initS "java/lang/RuntimeException"), Cond.declares (Bundle.initS "java/lang/Exception"), Cond.declares (Bundle.initS Bundle.tN)]) (fun w h => hts w (List.mem_cons_of_mem _ (List.mem_append_right _ h))) (by decide +kernel) (vx_c (hh.2.2.2.2.2.2.2.2.2.1 "java/lang/IllegalArgumentException" (by decide)).word (vx_c (kD_word hh (by decide)) (vx_c (kD_word hh (by decide)) (vx_c (kD_word hh (by decide)) vx_n))))
theorem gk_c_X6_needRange_bad : ∀ w ∈ wk_c_X6_needRange_bad, goodWord w = true := List.forall_mem_cons.mpr ⟨rfl, (List.forall_mem_append.mpr ⟨(show ∀ w ∈ wo_c_X6_needRange_bad, goodWord w = true by decide +kernel), (fun w h => (List.mem_filter.mp h).2)⟩)⟩
set_option maxHeartbeats 4000000 in
set_option maxRecDepth 100000 in
theorem c_X6_needRange_bad (l : Launch) (hst : l.stackTraces = false) (D : va_G) (e0 : kE) (pv : Int32) (pm : Int32) (pn : Int32) (h : ¬ (pm ≤ pv ∧ pv ≤ pn)) : kM l yX6_needRange wk_c_X6_needRange_bad 6 100 1 6 D kStr e0 [] [] [.int pv, .int pm, .int pn] (fun _ _ _ => False) (fun E => E = "java/lang/IllegalArgumentException") := by
  refine k_of (cc := cX6_needRange) (maxL := 3) (ret := none) (by decide) rfl (Nat.le_of_ble_eq_true rfl) ?_
  intro p e s m args below meth c A ls hx hb hr hts hown hlocks hml hex hh hl
  have hown : s.vm.findClass RX6 = some m.cls := hown
  have hl : lv_has ls 3 [(0, .int pv), (1, .int pm), (2, .int pn)] := hl
  refine lv_iload_n hx hb dX6_needRange_0 rfl (lv_at hl 0 rfl) ?_
  refine lv_iload_n hx hb dX6_needRange_1 rfl (lv_at hl 1 rfl) ?_
  refine lv_icmp_lt (tgt := 10) hx hb dX6_needRange_2 (by decide) (fun c_2 => ?_) (fun c_2 => ?_)
  · exact k_throwW (text := "a number is out of range") (cls := "java/lang/IllegalArgumentException") (names := ["java/lang/RuntimeException", "java/lang/Exception"]) hx hb hst hown (by decide) (by decide) (hts _ (wo_c_X6_needRange_bad_in _ (List.mem_of_getElem? (i := 0) rfl))) (hts _ (wo_c_X6_needRange_bad_in _ (List.mem_of_getElem? (i := 1) rfl))) (wt_c_X6_needRange_bad_0 hts hh) kgd_80_84 hh (by decide) hml hl dX6_needRange_10 dX6_needRange_13 dX6_needRange_14 dX6_needRange_17 dX6_needRange_20 hex (Nat.le_of_ble_eq_true rfl) (Nat.le_of_ble_eq_true rfl) (Nat.le_of_ble_eq_true rfl) (Nat.le_of_ble_eq_true rfl) hlocks rfl (Nat.le_of_ble_eq_true rfl) (Nat.le_of_ble_eq_true rfl)
  · refine lv_iload_n hx hb dX6_needRange_5 rfl (lv_at hl 0 rfl) ?_
    refine lv_iload_n hx hb dX6_needRange_6 rfl (lv_at hl 2 rfl) ?_
    refine lv_icmp_le (tgt := 21) hx hb dX6_needRange_7 (by decide) (fun c_7 => absurd c_7 (fun h9 => h ⟨Int32.not_lt.mp c_2, h9⟩)) (fun _ => ?_)
    exact k_throwW (text := "a number is out of range") (cls := "java/lang/IllegalArgumentException") (names := ["java/lang/RuntimeException", "java/lang/Exception"]) hx hb hst hown (by decide) (by decide) (hts _ (wo_c_X6_needRange_bad_in _ (List.mem_of_getElem? (i := 0) rfl))) (hts _ (wo_c_X6_needRange_bad_in _ (List.mem_of_getElem? (i := 1) rfl))) (wt_c_X6_needRange_bad_0 hts hh) kgd_80_84 hh (by decide) hml hl dX6_needRange_10 dX6_needRange_13 dX6_needRange_14 dX6_needRange_17 dX6_needRange_20 hex (Nat.le_of_ble_eq_true rfl) (Nat.le_of_ble_eq_true rfl) (Nat.le_of_ble_eq_true rfl) (Nat.le_of_ble_eq_true rfl) hlocks rfl (Nat.le_of_ble_eq_true rfl) (Nat.le_of_ble_eq_true rfl)
def wo_c_X6_knownReel : List Cond := [Cond.fieldLink RX6 41 "Segueworks" "reelCount" "I"]
def wk_c_X6_knownReel : List Cond := Cond.code yX6_knownReel cX6_knownReel 2 (some (.object "Segueworks$Reel")) :: (wo_c_X6_knownReel ++ ((u_ws RX6 TX6 8) ++ (va_wsS RX6 193 yX6_needIndex wk_c_X6_needIndex)))
theorem wo_c_X6_knownReel_in : ∀ w ∈ wo_c_X6_knownReel, w ∈ wk_c_X6_knownReel := fun w h => List.mem_cons_of_mem _ (List.mem_append_left _ h)
theorem ws_c_X6_knownReel_0 : ∀ w ∈ u_ws RX6 TX6 8, w ∈ wk_c_X6_knownReel := fun w h => List.mem_cons_of_mem _ (List.mem_append_right _ (List.mem_append_left _ h))
theorem gi_c_X6_knownReel_1 : GoodIn wk_c_X6_knownReel (va_wsS RX6 193 yX6_needIndex wk_c_X6_needIndex) := fun w h => ⟨List.mem_cons_of_mem _ (List.mem_append_right _ (List.mem_append_right _ h)), good_of_word (kg_S gk_c_X6_needIndex w h)⟩
theorem gk_c_X6_knownReel : ∀ w ∈ wk_c_X6_knownReel, goodWord w = true := List.forall_mem_cons.mpr ⟨rfl, (List.forall_mem_append.mpr ⟨(show ∀ w ∈ wo_c_X6_knownReel, goodWord w = true by decide +kernel), (List.forall_mem_append.mpr ⟨(show ∀ w ∈ u_ws RX6 TX6 8, goodWord w = true by decide +kernel), (kg_S gk_c_X6_needIndex)⟩)⟩)⟩
set_option maxHeartbeats 4000000 in
set_option maxRecDepth 100000 in
theorem c_X6_knownReel (l : Launch) (hst : l.stackTraces = false) (D : va_G) (e0 : kE) (pa : Nat) (prl : Nat) (ppc : Nat) (ppg : Nat) (ppl : Nat) (ped : Nat) (a1 : Int32)  : kM l yX6_knownReel wk_c_X6_knownReel 7 121 1 6 D kStr e0 [] [(pa, .inr (11, [.ref prl, .int 0, .ref ppc, .int 0, .ref ppg, .ref ppl, .ref ped, .int 0]))] [.ref pa, .int a1] (fun _ _ _ => False) (fun E => E = "java/lang/IndexOutOfBoundsException") := by
  refine k_of (cc := cX6_knownReel) (maxL := 2) (ret := (some (.object "Segueworks$Reel"))) (by decide) rfl (Nat.le_of_ble_eq_true rfl) ?_
  intro p e s m args below meth c A ls hx hb hr hts hown hlocks hml hex hh hl
  have hown : s.vm.findClass RX6 = some m.cls := hown
  have hl : lv_has ls 2 [(0, .ref pa), (1, .int a1)] := hl
  refine lv_iload_n hx hb dX6_knownReel_0 rfl (lv_at hl 1 rfl) ?_
  refine lv_aload_n hx hb dX6_knownReel_1 rfl (lv_at hl 0 rfl) ?_
  refine k_get (C := RX6) (T := TX6) (N := 8) (ci := 11) (v := .int 0) hx hb hts ws_c_X6_knownReel_0 hown hh 0 rfl rfl 1 (by decide) (hts _ (wo_c_X6_knownReel_in _ (List.mem_of_getElem? (i := 0) rfl))) rfl dX6_knownReel_2 ?_
  refine k_callS (wr := [(pa, .inr (11, [.ref prl, .int 0, .ref ppc, .int 0, .ref ppg, .ref ppl, .ref ped, .int 0]))]) (rest := []) (own := RX6) ⟨hx, hb, hml, hown, hts⟩ (c_X6_needIndex l hst D e0 a1 ) (va_cwS 2 hts gi_c_X6_knownReel_1 rfl rfl rfl (by decide +kernel) ⟨Nat.le_of_ble_eq_true rfl, Nat.le_of_ble_eq_true rfl⟩) hh [] [0] [] rfl rfl rfl rfl (by decide) rfl rfl hl rfl (Nat.le_of_ble_eq_true rfl) dX6_knownReel_5 ⟨Nat.le_of_ble_eq_true rfl, (Nat.le_of_ble_eq_true rfl)⟩ (fun E ce q9 H locs hE hh hq hv hcl => ?_) (fun _ _ _ _ _ h _ => h.elim)
  exact k_out hex hlocks hE hh hq hv hcl (Nat.le_of_ble_eq_true rfl) (Nat.le_of_ble_eq_true rfl)
def wo_c_X6_knownPiece : List Cond := [Cond.fieldLink RX6 340 "Segueworks" "pieceCount" "I"]
def wk_c_X6_knownPiece : List Cond := Cond.code yX6_knownPiece cX6_knownPiece 2 (some (.object "Segueworks$Piece")) :: (wo_c_X6_knownPiece ++ ((u_ws RX6 TX6 8) ++ (va_wsS RX6 193 yX6_needIndex wk_c_X6_needIndex)))
theorem wo_c_X6_knownPiece_in : ∀ w ∈ wo_c_X6_knownPiece, w ∈ wk_c_X6_knownPiece := fun w h => List.mem_cons_of_mem _ (List.mem_append_left _ h)
theorem ws_c_X6_knownPiece_0 : ∀ w ∈ u_ws RX6 TX6 8, w ∈ wk_c_X6_knownPiece := fun w h => List.mem_cons_of_mem _ (List.mem_append_right _ (List.mem_append_left _ h))
theorem gi_c_X6_knownPiece_1 : GoodIn wk_c_X6_knownPiece (va_wsS RX6 193 yX6_needIndex wk_c_X6_needIndex) := fun w h => ⟨List.mem_cons_of_mem _ (List.mem_append_right _ (List.mem_append_right _ h)), good_of_word (kg_S gk_c_X6_needIndex w h)⟩
theorem gk_c_X6_knownPiece : ∀ w ∈ wk_c_X6_knownPiece, goodWord w = true := List.forall_mem_cons.mpr ⟨rfl, (List.forall_mem_append.mpr ⟨(show ∀ w ∈ wo_c_X6_knownPiece, goodWord w = true by decide +kernel), (List.forall_mem_append.mpr ⟨(show ∀ w ∈ u_ws RX6 TX6 8, goodWord w = true by decide +kernel), (kg_S gk_c_X6_needIndex)⟩)⟩)⟩
set_option maxHeartbeats 4000000 in
set_option maxRecDepth 100000 in
theorem c_X6_knownPiece (l : Launch) (hst : l.stackTraces = false) (D : va_G) (e0 : kE) (pa : Nat) (prl : Nat) (ppc : Nat) (ppg : Nat) (ppl : Nat) (ped : Nat) (a1 : Int32)  : kM l yX6_knownPiece wk_c_X6_knownPiece 7 121 1 6 D kStr e0 [] [(pa, .inr (11, [.ref prl, .int 0, .ref ppc, .int 0, .ref ppg, .ref ppl, .ref ped, .int 0]))] [.ref pa, .int a1] (fun _ _ _ => False) (fun E => E = "java/lang/IndexOutOfBoundsException") := by
  refine k_of (cc := cX6_knownPiece) (maxL := 2) (ret := (some (.object "Segueworks$Piece"))) (by decide) rfl (Nat.le_of_ble_eq_true rfl) ?_
  intro p e s m args below meth c A ls hx hb hr hts hown hlocks hml hex hh hl
  have hown : s.vm.findClass RX6 = some m.cls := hown
  have hl : lv_has ls 2 [(0, .ref pa), (1, .int a1)] := hl
  refine lv_iload_n hx hb dX6_knownPiece_0 rfl (lv_at hl 1 rfl) ?_
  refine lv_aload_n hx hb dX6_knownPiece_1 rfl (lv_at hl 0 rfl) ?_
  refine k_get (C := RX6) (T := TX6) (N := 8) (ci := 11) (v := .int 0) hx hb hts ws_c_X6_knownPiece_0 hown hh 0 rfl rfl 3 (by decide) (hts _ (wo_c_X6_knownPiece_in _ (List.mem_of_getElem? (i := 0) rfl))) rfl dX6_knownPiece_2 ?_
  refine k_callS (wr := [(pa, .inr (11, [.ref prl, .int 0, .ref ppc, .int 0, .ref ppg, .ref ppl, .ref ped, .int 0]))]) (rest := []) (own := RX6) ⟨hx, hb, hml, hown, hts⟩ (c_X6_needIndex l hst D e0 a1 ) (va_cwS 2 hts gi_c_X6_knownPiece_1 rfl rfl rfl (by decide +kernel) ⟨Nat.le_of_ble_eq_true rfl, Nat.le_of_ble_eq_true rfl⟩) hh [] [0] [] rfl rfl rfl rfl (by decide) rfl rfl hl rfl (Nat.le_of_ble_eq_true rfl) dX6_knownPiece_5 ⟨Nat.le_of_ble_eq_true rfl, (Nat.le_of_ble_eq_true rfl)⟩ (fun E ce q9 H locs hE hh hq hv hcl => ?_) (fun _ _ _ _ _ h _ => h.elim)
  exact k_out hex hlocks hE hh hq hv hcl (Nat.le_of_ble_eq_true rfl) (Nat.le_of_ble_eq_true rfl)
def wo_c_X6_knownEdition : List Cond := [Cond.fieldLink RX6 237 "Segueworks" "editionCount" "I"]
def wk_c_X6_knownEdition : List Cond := Cond.code yX6_knownEdition cX6_knownEdition 2 (some (.object "Segueworks$Edition")) :: (wo_c_X6_knownEdition ++ ((u_ws RX6 TX6 8) ++ (va_wsS RX6 193 yX6_needIndex wk_c_X6_needIndex)))
theorem wo_c_X6_knownEdition_in : ∀ w ∈ wo_c_X6_knownEdition, w ∈ wk_c_X6_knownEdition := fun w h => List.mem_cons_of_mem _ (List.mem_append_left _ h)
theorem ws_c_X6_knownEdition_0 : ∀ w ∈ u_ws RX6 TX6 8, w ∈ wk_c_X6_knownEdition := fun w h => List.mem_cons_of_mem _ (List.mem_append_right _ (List.mem_append_left _ h))
theorem gi_c_X6_knownEdition_1 : GoodIn wk_c_X6_knownEdition (va_wsS RX6 193 yX6_needIndex wk_c_X6_needIndex) := fun w h => ⟨List.mem_cons_of_mem _ (List.mem_append_right _ (List.mem_append_right _ h)), good_of_word (kg_S gk_c_X6_needIndex w h)⟩
theorem gk_c_X6_knownEdition : ∀ w ∈ wk_c_X6_knownEdition, goodWord w = true := List.forall_mem_cons.mpr ⟨rfl, (List.forall_mem_append.mpr ⟨(show ∀ w ∈ wo_c_X6_knownEdition, goodWord w = true by decide +kernel), (List.forall_mem_append.mpr ⟨(show ∀ w ∈ u_ws RX6 TX6 8, goodWord w = true by decide +kernel), (kg_S gk_c_X6_needIndex)⟩)⟩)⟩
set_option maxHeartbeats 4000000 in
set_option maxRecDepth 100000 in
theorem c_X6_knownEdition (l : Launch) (hst : l.stackTraces = false) (D : va_G) (e0 : kE) (pa : Nat) (prl : Nat) (ppc : Nat) (ppg : Nat) (ppl : Nat) (ped : Nat) (a1 : Int32)  : kM l yX6_knownEdition wk_c_X6_knownEdition 7 121 1 6 D kStr e0 [] [(pa, .inr (11, [.ref prl, .int 0, .ref ppc, .int 0, .ref ppg, .ref ppl, .ref ped, .int 0]))] [.ref pa, .int a1] (fun _ _ _ => False) (fun E => E = "java/lang/IndexOutOfBoundsException") := by
  refine k_of (cc := cX6_knownEdition) (maxL := 2) (ret := (some (.object "Segueworks$Edition"))) (by decide) rfl (Nat.le_of_ble_eq_true rfl) ?_
  intro p e s m args below meth c A ls hx hb hr hts hown hlocks hml hex hh hl
  have hown : s.vm.findClass RX6 = some m.cls := hown
  have hl : lv_has ls 2 [(0, .ref pa), (1, .int a1)] := hl
  refine lv_iload_n hx hb dX6_knownEdition_0 rfl (lv_at hl 1 rfl) ?_
  refine lv_aload_n hx hb dX6_knownEdition_1 rfl (lv_at hl 0 rfl) ?_
  refine k_get (C := RX6) (T := TX6) (N := 8) (ci := 11) (v := .int 0) hx hb hts ws_c_X6_knownEdition_0 hown hh 0 rfl rfl 7 (by decide) (hts _ (wo_c_X6_knownEdition_in _ (List.mem_of_getElem? (i := 0) rfl))) rfl dX6_knownEdition_2 ?_
  refine k_callS (wr := [(pa, .inr (11, [.ref prl, .int 0, .ref ppc, .int 0, .ref ppg, .ref ppl, .ref ped, .int 0]))]) (rest := []) (own := RX6) ⟨hx, hb, hml, hown, hts⟩ (c_X6_needIndex l hst D e0 a1 ) (va_cwS 2 hts gi_c_X6_knownEdition_1 rfl rfl rfl (by decide +kernel) ⟨Nat.le_of_ble_eq_true rfl, Nat.le_of_ble_eq_true rfl⟩) hh [] [0] [] rfl rfl rfl rfl (by decide) rfl rfl hl rfl (Nat.le_of_ble_eq_true rfl) dX6_knownEdition_5 ⟨Nat.le_of_ble_eq_true rfl, (Nat.le_of_ble_eq_true rfl)⟩ (fun E ce q9 H locs hE hh hq hv hcl => ?_) (fun _ _ _ _ _ h _ => h.elim)
  exact k_out hex hlocks hE hh hq hv hcl (Nat.le_of_ble_eq_true rfl) (Nat.le_of_ble_eq_true rfl)
def wo_c_X6_knownItem : List Cond := [Cond.fieldLink RX6 24 "Segueworks" "program" "LSegueworks$Program;", Cond.fieldLink RX6 133 "Segueworks$Program" "count" "I"]
def wk_c_X6_knownItem : List Cond := Cond.code yX6_knownItem cX6_knownItem 2 (some (.object "Segueworks$Item")) :: (wo_c_X6_knownItem ++ ((u_ws RX6 TX6 8) ++ ((u_ws RX4 TX4 6) ++ (va_wsS RX6 193 yX6_needIndex wk_c_X6_needIndex))))
theorem wo_c_X6_knownItem_in : ∀ w ∈ wo_c_X6_knownItem, w ∈ wk_c_X6_knownItem := fun w h => List.mem_cons_of_mem _ (List.mem_append_left _ h)
theorem ws_c_X6_knownItem_0 : ∀ w ∈ u_ws RX6 TX6 8, w ∈ wk_c_X6_knownItem := fun w h => List.mem_cons_of_mem _ (List.mem_append_right _ (List.mem_append_left _ h))
theorem ws_c_X6_knownItem_1 : ∀ w ∈ u_ws RX4 TX4 6, w ∈ wk_c_X6_knownItem := fun w h => List.mem_cons_of_mem _ (List.mem_append_right _ (List.mem_append_right _ (List.mem_append_left _ h)))
theorem gi_c_X6_knownItem_2 : GoodIn wk_c_X6_knownItem (va_wsS RX6 193 yX6_needIndex wk_c_X6_needIndex) := fun w h => ⟨List.mem_cons_of_mem _ (List.mem_append_right _ (List.mem_append_right _ (List.mem_append_right _ h))), good_of_word (kg_S gk_c_X6_needIndex w h)⟩
theorem gk_c_X6_knownItem : ∀ w ∈ wk_c_X6_knownItem, goodWord w = true := List.forall_mem_cons.mpr ⟨rfl, (List.forall_mem_append.mpr ⟨(show ∀ w ∈ wo_c_X6_knownItem, goodWord w = true by decide +kernel), (List.forall_mem_append.mpr ⟨(show ∀ w ∈ u_ws RX6 TX6 8, goodWord w = true by decide +kernel), (List.forall_mem_append.mpr ⟨(show ∀ w ∈ u_ws RX4 TX4 6, goodWord w = true by decide +kernel), (kg_S gk_c_X6_needIndex)⟩)⟩)⟩)⟩
set_option maxHeartbeats 4000000 in
set_option maxRecDepth 100000 in
theorem c_X6_knownItem (l : Launch) (hst : l.stackTraces = false) (D : va_G) (e0 : kE) (pa : Nat) (prl : Nat) (ppc : Nat) (ppg : Nat) (ppl : Nat) (ped : Nat) (pg1 : Nat) (pg2 : Nat) (pg3 : Nat) (pg4 : Nat) (a1 : Int32)  : kM l yX6_knownItem wk_c_X6_knownItem 7 121 1 6 D kStr e0 [] [(pa, .inr (11, [.ref prl, .int 0, .ref ppc, .int 0, .ref ppg, .ref ppl, .ref ped, .int 0])), (ppg, .inr (9, [.ref pg1, .int 0, .ref pg2, .int 0, .ref pg3, .ref pg4]))] [.ref pa, .int a1] (fun _ _ _ => False) (fun E => E = "java/lang/IndexOutOfBoundsException") := by
  refine k_of (cc := cX6_knownItem) (maxL := 2) (ret := (some (.object "Segueworks$Item"))) (by decide) rfl (Nat.le_of_ble_eq_true rfl) ?_
  intro p e s m args below meth c A ls hx hb hr hts hown hlocks hml hex hh hl
  have hown : s.vm.findClass RX6 = some m.cls := hown
  have hl : lv_has ls 2 [(0, .ref pa), (1, .int a1)] := hl
  refine lv_iload_n hx hb dX6_knownItem_0 rfl (lv_at hl 1 rfl) ?_
  refine lv_aload_n hx hb dX6_knownItem_1 rfl (lv_at hl 0 rfl) ?_
  refine k_get (C := RX6) (T := TX6) (N := 8) (ci := 11) (v := .ref ppg) hx hb hts ws_c_X6_knownItem_0 hown hh 0 rfl rfl 4 (by decide) (hts _ (wo_c_X6_knownItem_in _ (List.mem_of_getElem? (i := 0) rfl))) rfl dX6_knownItem_2 ?_
  refine k_get (C := RX4) (T := TX4) (N := 6) (ci := 9) (v := .int 0) hx hb hts ws_c_X6_knownItem_1 hown hh 1 rfl rfl 1 (by decide) (hts _ (wo_c_X6_knownItem_in _ (List.mem_of_getElem? (i := 1) rfl))) rfl dX6_knownItem_5 ?_
  refine k_callS (wr := [(pa, .inr (11, [.ref prl, .int 0, .ref ppc, .int 0, .ref ppg, .ref ppl, .ref ped, .int 0])), (ppg, .inr (9, [.ref pg1, .int 0, .ref pg2, .int 0, .ref pg3, .ref pg4]))]) (rest := []) (own := RX6) ⟨hx, hb, hml, hown, hts⟩ (c_X6_needIndex l hst D e0 a1 ) (va_cwS 2 hts gi_c_X6_knownItem_2 rfl rfl rfl (by decide +kernel) ⟨Nat.le_of_ble_eq_true rfl, Nat.le_of_ble_eq_true rfl⟩) hh [] [0, 1] [] rfl rfl rfl rfl (by decide) rfl rfl hl rfl (Nat.le_of_ble_eq_true rfl) dX6_knownItem_8 ⟨Nat.le_of_ble_eq_true rfl, (Nat.le_of_ble_eq_true rfl)⟩ (fun E ce q9 H locs hE hh hq hv hcl => ?_) (fun _ _ _ _ _ h _ => h.elim)
  exact k_out hex hlocks hE hh hq hv hcl (Nat.le_of_ble_eq_true rfl) (Nat.le_of_ble_eq_true rfl)
def wo_c_X6_sample : List Cond := []
def wk_c_X6_sample : List Cond := Cond.code yX6_sample cX6_sample 4 (some .int) :: (wo_c_X6_sample ++ (wsV RX6 53 RX6 yX6_knownReel wk_c_X6_knownReel))
theorem wo_c_X6_sample_in : ∀ w ∈ wo_c_X6_sample, w ∈ wk_c_X6_sample := fun w h => List.mem_cons_of_mem _ (List.mem_append_left _ h)
theorem gi_c_X6_sample_0 : GoodIn wk_c_X6_sample (wsV RX6 53 RX6 yX6_knownReel wk_c_X6_knownReel) := fun w h => ⟨List.mem_cons_of_mem _ (List.mem_append_right _ h), good_of_word (kg_V gk_c_X6_knownReel w h)⟩
theorem gk_c_X6_sample : ∀ w ∈ wk_c_X6_sample, goodWord w = true := List.forall_mem_cons.mpr ⟨rfl, (List.forall_mem_append.mpr ⟨(show ∀ w ∈ wo_c_X6_sample, goodWord w = true by decide +kernel), (kg_V gk_c_X6_knownReel)⟩)⟩
set_option maxHeartbeats 4000000 in
set_option maxRecDepth 100000 in
theorem c_X6_sample (l : Launch) (hst : l.stackTraces = false) (D : va_G) (e0 : kE) (pa : Nat) (prl : Nat) (ppc : Nat) (ppg : Nat) (ppl : Nat) (ped : Nat) (a1 : Int32) (a2 : Int32)  : kM l yX6_sample wk_c_X6_sample 8 142 1 6 D kStr e0 [] [(pa, .inr (11, [.ref prl, .int 0, .ref ppc, .int 0, .ref ppg, .ref ppl, .ref ped, .int 0]))] [.ref pa, .int a1, .int a2] (fun _ _ _ => False) (fun E => E = "java/lang/IndexOutOfBoundsException") := by
  refine k_of (cc := cX6_sample) (maxL := 4) (ret := (some .int)) (by decide) rfl (Nat.le_of_ble_eq_true rfl) ?_
  intro p e s m args below meth c A ls hx hb hr hts hown hlocks hml hex hh hl
  have hown : s.vm.findClass RX6 = some m.cls := hown
  have hl : lv_has ls 4 [(0, .ref pa), (1, .int a1), (2, .int a2)] := hl
  refine lv_aload_n hx hb dX6_sample_0 rfl (lv_at hl 0 rfl) ?_
  refine lv_iload_n hx hb dX6_sample_1 rfl (lv_at hl 1 rfl) ?_
  refine k_callV (C := RX6) (T := TX6) (N := 8) (ci := 11) (q0 := 0) (wr := []) (rest := []) (own := RX6) ⟨hx, hb, hml, hown, hts⟩ (c_X6_knownReel l hst D e0 pa prl ppc ppg ppl ped a1 ) (cwV 1 hts gi_c_X6_sample_0 rfl rfl rfl (by decide +kernel) ⟨Nat.le_of_ble_eq_true rfl, Nat.le_of_ble_eq_true rfl⟩) hh rfl rfl [0] [] [] rfl rfl rfl rfl (by decide) rfl rfl hl rfl (Nat.le_of_ble_eq_true rfl) dX6_sample_2 ⟨Nat.le_of_ble_eq_true rfl, (Nat.le_of_ble_eq_true rfl)⟩ (fun E ce q9 H locs hE hh hq hv hcl => ?_) (fun _ _ _ _ _ h _ => h.elim)
  exact k_out hex hlocks hE hh hq hv hcl (Nat.le_of_ble_eq_true rfl) (Nat.le_of_ble_eq_true rfl)
def wo_c_X6_wave : List Cond := []
def wk_c_X6_wave : List Cond := Cond.code yX6_wave cX6_wave 6 (some .int) :: (wo_c_X6_wave ++ (wsV RX6 53 RX6 yX6_knownReel wk_c_X6_knownReel))
theorem wo_c_X6_wave_in : ∀ w ∈ wo_c_X6_wave, w ∈ wk_c_X6_wave := fun w h => List.mem_cons_of_mem _ (List.mem_append_left _ h)
theorem gi_c_X6_wave_0 : GoodIn wk_c_X6_wave (wsV RX6 53 RX6 yX6_knownReel wk_c_X6_knownReel) := fun w h => ⟨List.mem_cons_of_mem _ (List.mem_append_right _ h), good_of_word (kg_V gk_c_X6_knownReel w h)⟩
theorem gk_c_X6_wave : ∀ w ∈ wk_c_X6_wave, goodWord w = true := List.forall_mem_cons.mpr ⟨rfl, (List.forall_mem_append.mpr ⟨(show ∀ w ∈ wo_c_X6_wave, goodWord w = true by decide +kernel), (kg_V gk_c_X6_knownReel)⟩)⟩
set_option maxHeartbeats 4000000 in
set_option maxRecDepth 100000 in
theorem c_X6_wave (l : Launch) (hst : l.stackTraces = false) (D : va_G) (e0 : kE) (pa : Nat) (prl : Nat) (ppc : Nat) (ppg : Nat) (ppl : Nat) (ped : Nat) (a1 : Int32) (a2 : Int32) (a3 : Int32) (a4 : Int32)  : kM l yX6_wave wk_c_X6_wave 8 142 1 6 D kStr e0 [] [(pa, .inr (11, [.ref prl, .int 0, .ref ppc, .int 0, .ref ppg, .ref ppl, .ref ped, .int 0]))] [.ref pa, .int a1, .int a2, .int a3, .int a4] (fun _ _ _ => False) (fun E => E = "java/lang/IndexOutOfBoundsException") := by
  refine k_of (cc := cX6_wave) (maxL := 6) (ret := (some .int)) (by decide) rfl (Nat.le_of_ble_eq_true rfl) ?_
  intro p e s m args below meth c A ls hx hb hr hts hown hlocks hml hex hh hl
  have hown : s.vm.findClass RX6 = some m.cls := hown
  have hl : lv_has ls 6 [(0, .ref pa), (1, .int a1), (2, .int a2), (3, .int a3), (4, .int a4)] := hl
  refine lv_aload_n hx hb dX6_wave_0 rfl (lv_at hl 0 rfl) ?_
  refine lv_iload_n hx hb dX6_wave_1 rfl (lv_at hl 1 rfl) ?_
  refine k_callV (C := RX6) (T := TX6) (N := 8) (ci := 11) (q0 := 0) (wr := []) (rest := []) (own := RX6) ⟨hx, hb, hml, hown, hts⟩ (c_X6_knownReel l hst D e0 pa prl ppc ppg ppl ped a1 ) (cwV 1 hts gi_c_X6_wave_0 rfl rfl rfl (by decide +kernel) ⟨Nat.le_of_ble_eq_true rfl, Nat.le_of_ble_eq_true rfl⟩) hh rfl rfl [0] [] [] rfl rfl rfl rfl (by decide) rfl rfl hl rfl (Nat.le_of_ble_eq_true rfl) dX6_wave_2 ⟨Nat.le_of_ble_eq_true rfl, (Nat.le_of_ble_eq_true rfl)⟩ (fun E ce q9 H locs hE hh hq hv hcl => ?_) (fun _ _ _ _ _ h _ => h.elim)
  exact k_out hex hlocks hE hh hq hv hcl (Nat.le_of_ble_eq_true rfl) (Nat.le_of_ble_eq_true rfl)
def wo_c_X6_reelLength : List Cond := []
def wk_c_X6_reelLength : List Cond := Cond.code yX6_reelLength cX6_reelLength 2 (some .int) :: (wo_c_X6_reelLength ++ (wsV RX6 53 RX6 yX6_knownReel wk_c_X6_knownReel))
theorem wo_c_X6_reelLength_in : ∀ w ∈ wo_c_X6_reelLength, w ∈ wk_c_X6_reelLength := fun w h => List.mem_cons_of_mem _ (List.mem_append_left _ h)
theorem gi_c_X6_reelLength_0 : GoodIn wk_c_X6_reelLength (wsV RX6 53 RX6 yX6_knownReel wk_c_X6_knownReel) := fun w h => ⟨List.mem_cons_of_mem _ (List.mem_append_right _ h), good_of_word (kg_V gk_c_X6_knownReel w h)⟩
theorem gk_c_X6_reelLength : ∀ w ∈ wk_c_X6_reelLength, goodWord w = true := List.forall_mem_cons.mpr ⟨rfl, (List.forall_mem_append.mpr ⟨(show ∀ w ∈ wo_c_X6_reelLength, goodWord w = true by decide +kernel), (kg_V gk_c_X6_knownReel)⟩)⟩
set_option maxHeartbeats 4000000 in
set_option maxRecDepth 100000 in
theorem c_X6_reelLength (l : Launch) (hst : l.stackTraces = false) (D : va_G) (e0 : kE) (pa : Nat) (prl : Nat) (ppc : Nat) (ppg : Nat) (ppl : Nat) (ped : Nat) (a1 : Int32)  : kM l yX6_reelLength wk_c_X6_reelLength 8 142 1 6 D kStr e0 [] [(pa, .inr (11, [.ref prl, .int 0, .ref ppc, .int 0, .ref ppg, .ref ppl, .ref ped, .int 0]))] [.ref pa, .int a1] (fun _ _ _ => False) (fun E => E = "java/lang/IndexOutOfBoundsException") := by
  refine k_of (cc := cX6_reelLength) (maxL := 2) (ret := (some .int)) (by decide) rfl (Nat.le_of_ble_eq_true rfl) ?_
  intro p e s m args below meth c A ls hx hb hr hts hown hlocks hml hex hh hl
  have hown : s.vm.findClass RX6 = some m.cls := hown
  have hl : lv_has ls 2 [(0, .ref pa), (1, .int a1)] := hl
  refine lv_aload_n hx hb dX6_reelLength_0 rfl (lv_at hl 0 rfl) ?_
  refine lv_iload_n hx hb dX6_reelLength_1 rfl (lv_at hl 1 rfl) ?_
  refine k_callV (C := RX6) (T := TX6) (N := 8) (ci := 11) (q0 := 0) (wr := []) (rest := []) (own := RX6) ⟨hx, hb, hml, hown, hts⟩ (c_X6_knownReel l hst D e0 pa prl ppc ppg ppl ped a1 ) (cwV 1 hts gi_c_X6_reelLength_0 rfl rfl rfl (by decide +kernel) ⟨Nat.le_of_ble_eq_true rfl, Nat.le_of_ble_eq_true rfl⟩) hh rfl rfl [0] [] [] rfl rfl rfl rfl (by decide) rfl rfl hl rfl (Nat.le_of_ble_eq_true rfl) dX6_reelLength_2 ⟨Nat.le_of_ble_eq_true rfl, (Nat.le_of_ble_eq_true rfl)⟩ (fun E ce q9 H locs hE hh hq hv hcl => ?_) (fun _ _ _ _ _ h _ => h.elim)
  exact k_out hex hlocks hE hh hq hv hcl (Nat.le_of_ble_eq_true rfl) (Nat.le_of_ble_eq_true rfl)
def wo_c_X6_cut : List Cond := []
def wk_c_X6_cut : List Cond := Cond.code yX6_cut cX6_cut 5 (some .int) :: (wo_c_X6_cut ++ (wsV RX6 53 RX6 yX6_knownReel wk_c_X6_knownReel))
theorem wo_c_X6_cut_in : ∀ w ∈ wo_c_X6_cut, w ∈ wk_c_X6_cut := fun w h => List.mem_cons_of_mem _ (List.mem_append_left _ h)
theorem gi_c_X6_cut_0 : GoodIn wk_c_X6_cut (wsV RX6 53 RX6 yX6_knownReel wk_c_X6_knownReel) := fun w h => ⟨List.mem_cons_of_mem _ (List.mem_append_right _ h), good_of_word (kg_V gk_c_X6_knownReel w h)⟩
theorem gk_c_X6_cut : ∀ w ∈ wk_c_X6_cut, goodWord w = true := List.forall_mem_cons.mpr ⟨rfl, (List.forall_mem_append.mpr ⟨(show ∀ w ∈ wo_c_X6_cut, goodWord w = true by decide +kernel), (kg_V gk_c_X6_knownReel)⟩)⟩
set_option maxHeartbeats 4000000 in
set_option maxRecDepth 100000 in
theorem c_X6_cut (l : Launch) (hst : l.stackTraces = false) (D : va_G) (e0 : kE) (pa : Nat) (prl : Nat) (ppc : Nat) (ppg : Nat) (ppl : Nat) (ped : Nat) (a1 : Int32) (a2 : Int32) (a3 : Int32)  : kM l yX6_cut wk_c_X6_cut 8 142 1 6 D kStr e0 [] [(pa, .inr (11, [.ref prl, .int 0, .ref ppc, .int 0, .ref ppg, .ref ppl, .ref ped, .int 0]))] [.ref pa, .int a1, .int a2, .int a3] (fun _ _ _ => False) (fun E => E = "java/lang/IndexOutOfBoundsException") := by
  refine k_of (cc := cX6_cut) (maxL := 5) (ret := (some .int)) (by decide) rfl (Nat.le_of_ble_eq_true rfl) ?_
  intro p e s m args below meth c A ls hx hb hr hts hown hlocks hml hex hh hl
  have hown : s.vm.findClass RX6 = some m.cls := hown
  have hl : lv_has ls 5 [(0, .ref pa), (1, .int a1), (2, .int a2), (3, .int a3)] := hl
  refine lv_aload_n hx hb dX6_cut_0 rfl (lv_at hl 0 rfl) ?_
  refine lv_iload_n hx hb dX6_cut_1 rfl (lv_at hl 1 rfl) ?_
  refine k_callV (C := RX6) (T := TX6) (N := 8) (ci := 11) (q0 := 0) (wr := []) (rest := []) (own := RX6) ⟨hx, hb, hml, hown, hts⟩ (c_X6_knownReel l hst D e0 pa prl ppc ppg ppl ped a1 ) (cwV 1 hts gi_c_X6_cut_0 rfl rfl rfl (by decide +kernel) ⟨Nat.le_of_ble_eq_true rfl, Nat.le_of_ble_eq_true rfl⟩) hh rfl rfl [0] [] [] rfl rfl rfl rfl (by decide) rfl rfl hl rfl (Nat.le_of_ble_eq_true rfl) dX6_cut_2 ⟨Nat.le_of_ble_eq_true rfl, (Nat.le_of_ble_eq_true rfl)⟩ (fun E ce q9 H locs hE hh hq hv hcl => ?_) (fun _ _ _ _ _ h _ => h.elim)
  exact k_out hex hlocks hE hh hq hv hcl (Nat.le_of_ble_eq_true rfl) (Nat.le_of_ble_eq_true rfl)
def wo_c_X6_splice : List Cond := []
def wk_c_X6_splice : List Cond := Cond.code yX6_splice cX6_splice 7 (some .int) :: (wo_c_X6_splice ++ (wsV RX6 99 RX6 yX6_knownPiece wk_c_X6_knownPiece))
theorem wo_c_X6_splice_in : ∀ w ∈ wo_c_X6_splice, w ∈ wk_c_X6_splice := fun w h => List.mem_cons_of_mem _ (List.mem_append_left _ h)
theorem gi_c_X6_splice_0 : GoodIn wk_c_X6_splice (wsV RX6 99 RX6 yX6_knownPiece wk_c_X6_knownPiece) := fun w h => ⟨List.mem_cons_of_mem _ (List.mem_append_right _ h), good_of_word (kg_V gk_c_X6_knownPiece w h)⟩
theorem gk_c_X6_splice : ∀ w ∈ wk_c_X6_splice, goodWord w = true := List.forall_mem_cons.mpr ⟨rfl, (List.forall_mem_append.mpr ⟨(show ∀ w ∈ wo_c_X6_splice, goodWord w = true by decide +kernel), (kg_V gk_c_X6_knownPiece)⟩)⟩
set_option maxHeartbeats 4000000 in
set_option maxRecDepth 100000 in
theorem c_X6_splice (l : Launch) (hst : l.stackTraces = false) (D : va_G) (e0 : kE) (pa : Nat) (prl : Nat) (ppc : Nat) (ppg : Nat) (ppl : Nat) (ped : Nat) (a1 : Int32) (a2 : Int32) (a3 : Int32)  : kM l yX6_splice wk_c_X6_splice 8 142 1 6 D kStr e0 [] [(pa, .inr (11, [.ref prl, .int 0, .ref ppc, .int 0, .ref ppg, .ref ppl, .ref ped, .int 0]))] [.ref pa, .int a1, .int a2, .int a3] (fun _ _ _ => False) (fun E => E = "java/lang/IndexOutOfBoundsException") := by
  refine k_of (cc := cX6_splice) (maxL := 7) (ret := (some .int)) (by decide) rfl (Nat.le_of_ble_eq_true rfl) ?_
  intro p e s m args below meth c A ls hx hb hr hts hown hlocks hml hex hh hl
  have hown : s.vm.findClass RX6 = some m.cls := hown
  have hl : lv_has ls 7 [(0, .ref pa), (1, .int a1), (2, .int a2), (3, .int a3)] := hl
  refine lv_aload_n hx hb dX6_splice_0 rfl (lv_at hl 0 rfl) ?_
  refine lv_iload_n hx hb dX6_splice_1 rfl (lv_at hl 1 rfl) ?_
  refine k_callV (C := RX6) (T := TX6) (N := 8) (ci := 11) (q0 := 0) (wr := []) (rest := []) (own := RX6) ⟨hx, hb, hml, hown, hts⟩ (c_X6_knownPiece l hst D e0 pa prl ppc ppg ppl ped a1 ) (cwV 1 hts gi_c_X6_splice_0 rfl rfl rfl (by decide +kernel) ⟨Nat.le_of_ble_eq_true rfl, Nat.le_of_ble_eq_true rfl⟩) hh rfl rfl [0] [] [] rfl rfl rfl rfl (by decide) rfl rfl hl rfl (Nat.le_of_ble_eq_true rfl) dX6_splice_2 ⟨Nat.le_of_ble_eq_true rfl, (Nat.le_of_ble_eq_true rfl)⟩ (fun E ce q9 H locs hE hh hq hv hcl => ?_) (fun _ _ _ _ _ h _ => h.elim)
  exact k_out hex hlocks hE hh hq hv hcl (Nat.le_of_ble_eq_true rfl) (Nat.le_of_ble_eq_true rfl)
def wo_c_X6_gain : List Cond := []
def wk_c_X6_gain : List Cond := Cond.code yX6_gain cX6_gain 4 (some .int) :: (wo_c_X6_gain ++ (wsV RX6 99 RX6 yX6_knownPiece wk_c_X6_knownPiece))
theorem wo_c_X6_gain_in : ∀ w ∈ wo_c_X6_gain, w ∈ wk_c_X6_gain := fun w h => List.mem_cons_of_mem _ (List.mem_append_left _ h)
theorem gi_c_X6_gain_0 : GoodIn wk_c_X6_gain (wsV RX6 99 RX6 yX6_knownPiece wk_c_X6_knownPiece) := fun w h => ⟨List.mem_cons_of_mem _ (List.mem_append_right _ h), good_of_word (kg_V gk_c_X6_knownPiece w h)⟩
theorem gk_c_X6_gain : ∀ w ∈ wk_c_X6_gain, goodWord w = true := List.forall_mem_cons.mpr ⟨rfl, (List.forall_mem_append.mpr ⟨(show ∀ w ∈ wo_c_X6_gain, goodWord w = true by decide +kernel), (kg_V gk_c_X6_knownPiece)⟩)⟩
set_option maxHeartbeats 4000000 in
set_option maxRecDepth 100000 in
theorem c_X6_gain (l : Launch) (hst : l.stackTraces = false) (D : va_G) (e0 : kE) (pa : Nat) (prl : Nat) (ppc : Nat) (ppg : Nat) (ppl : Nat) (ped : Nat) (a1 : Int32) (a2 : Int32)  : kM l yX6_gain wk_c_X6_gain 8 142 1 6 D kStr e0 [] [(pa, .inr (11, [.ref prl, .int 0, .ref ppc, .int 0, .ref ppg, .ref ppl, .ref ped, .int 0]))] [.ref pa, .int a1, .int a2] (fun _ _ _ => False) (fun E => E = "java/lang/IndexOutOfBoundsException") := by
  refine k_of (cc := cX6_gain) (maxL := 4) (ret := (some .int)) (by decide) rfl (Nat.le_of_ble_eq_true rfl) ?_
  intro p e s m args below meth c A ls hx hb hr hts hown hlocks hml hex hh hl
  have hown : s.vm.findClass RX6 = some m.cls := hown
  have hl : lv_has ls 4 [(0, .ref pa), (1, .int a1), (2, .int a2)] := hl
  refine lv_aload_n hx hb dX6_gain_0 rfl (lv_at hl 0 rfl) ?_
  refine lv_iload_n hx hb dX6_gain_1 rfl (lv_at hl 1 rfl) ?_
  refine k_callV (C := RX6) (T := TX6) (N := 8) (ci := 11) (q0 := 0) (wr := []) (rest := []) (own := RX6) ⟨hx, hb, hml, hown, hts⟩ (c_X6_knownPiece l hst D e0 pa prl ppc ppg ppl ped a1 ) (cwV 1 hts gi_c_X6_gain_0 rfl rfl rfl (by decide +kernel) ⟨Nat.le_of_ble_eq_true rfl, Nat.le_of_ble_eq_true rfl⟩) hh rfl rfl [0] [] [] rfl rfl rfl rfl (by decide) rfl rfl hl rfl (Nat.le_of_ble_eq_true rfl) dX6_gain_2 ⟨Nat.le_of_ble_eq_true rfl, (Nat.le_of_ble_eq_true rfl)⟩ (fun E ce q9 H locs hE hh hq hv hcl => ?_) (fun _ _ _ _ _ h _ => h.elim)
  exact k_out hex hlocks hE hh hq hv hcl (Nat.le_of_ble_eq_true rfl) (Nat.le_of_ble_eq_true rfl)
def wo_c_X6_back : List Cond := []
def wk_c_X6_back : List Cond := Cond.code yX6_back cX6_back 3 (some .int) :: (wo_c_X6_back ++ (wsV RX6 99 RX6 yX6_knownPiece wk_c_X6_knownPiece))
theorem wo_c_X6_back_in : ∀ w ∈ wo_c_X6_back, w ∈ wk_c_X6_back := fun w h => List.mem_cons_of_mem _ (List.mem_append_left _ h)
theorem gi_c_X6_back_0 : GoodIn wk_c_X6_back (wsV RX6 99 RX6 yX6_knownPiece wk_c_X6_knownPiece) := fun w h => ⟨List.mem_cons_of_mem _ (List.mem_append_right _ h), good_of_word (kg_V gk_c_X6_knownPiece w h)⟩
theorem gk_c_X6_back : ∀ w ∈ wk_c_X6_back, goodWord w = true := List.forall_mem_cons.mpr ⟨rfl, (List.forall_mem_append.mpr ⟨(show ∀ w ∈ wo_c_X6_back, goodWord w = true by decide +kernel), (kg_V gk_c_X6_knownPiece)⟩)⟩
set_option maxHeartbeats 4000000 in
set_option maxRecDepth 100000 in
theorem c_X6_back (l : Launch) (hst : l.stackTraces = false) (D : va_G) (e0 : kE) (pa : Nat) (prl : Nat) (ppc : Nat) (ppg : Nat) (ppl : Nat) (ped : Nat) (a1 : Int32)  : kM l yX6_back wk_c_X6_back 8 142 1 6 D kStr e0 [] [(pa, .inr (11, [.ref prl, .int 0, .ref ppc, .int 0, .ref ppg, .ref ppl, .ref ped, .int 0]))] [.ref pa, .int a1] (fun _ _ _ => False) (fun E => E = "java/lang/IndexOutOfBoundsException") := by
  refine k_of (cc := cX6_back) (maxL := 3) (ret := (some .int)) (by decide) rfl (Nat.le_of_ble_eq_true rfl) ?_
  intro p e s m args below meth c A ls hx hb hr hts hown hlocks hml hex hh hl
  have hown : s.vm.findClass RX6 = some m.cls := hown
  have hl : lv_has ls 3 [(0, .ref pa), (1, .int a1)] := hl
  refine lv_aload_n hx hb dX6_back_0 rfl (lv_at hl 0 rfl) ?_
  refine lv_iload_n hx hb dX6_back_1 rfl (lv_at hl 1 rfl) ?_
  refine k_callV (C := RX6) (T := TX6) (N := 8) (ci := 11) (q0 := 0) (wr := []) (rest := []) (own := RX6) ⟨hx, hb, hml, hown, hts⟩ (c_X6_knownPiece l hst D e0 pa prl ppc ppg ppl ped a1 ) (cwV 1 hts gi_c_X6_back_0 rfl rfl rfl (by decide +kernel) ⟨Nat.le_of_ble_eq_true rfl, Nat.le_of_ble_eq_true rfl⟩) hh rfl rfl [0] [] [] rfl rfl rfl rfl (by decide) rfl rfl hl rfl (Nat.le_of_ble_eq_true rfl) dX6_back_2 ⟨Nat.le_of_ble_eq_true rfl, (Nat.le_of_ble_eq_true rfl)⟩ (fun E ce q9 H locs hE hh hq hv hcl => ?_) (fun _ _ _ _ _ h _ => h.elim)
  exact k_out hex hlocks hE hh hq hv hcl (Nat.le_of_ble_eq_true rfl) (Nat.le_of_ble_eq_true rfl)
def wo_c_X6_limit : List Cond := []
def wk_c_X6_limit : List Cond := Cond.code yX6_limit cX6_limit 6 (some .int) :: (wo_c_X6_limit ++ (wsV RX6 99 RX6 yX6_knownPiece wk_c_X6_knownPiece))
theorem wo_c_X6_limit_in : ∀ w ∈ wo_c_X6_limit, w ∈ wk_c_X6_limit := fun w h => List.mem_cons_of_mem _ (List.mem_append_left _ h)
theorem gi_c_X6_limit_0 : GoodIn wk_c_X6_limit (wsV RX6 99 RX6 yX6_knownPiece wk_c_X6_knownPiece) := fun w h => ⟨List.mem_cons_of_mem _ (List.mem_append_right _ h), good_of_word (kg_V gk_c_X6_knownPiece w h)⟩
theorem gk_c_X6_limit : ∀ w ∈ wk_c_X6_limit, goodWord w = true := List.forall_mem_cons.mpr ⟨rfl, (List.forall_mem_append.mpr ⟨(show ∀ w ∈ wo_c_X6_limit, goodWord w = true by decide +kernel), (kg_V gk_c_X6_knownPiece)⟩)⟩
set_option maxHeartbeats 4000000 in
set_option maxRecDepth 100000 in
theorem c_X6_limit (l : Launch) (hst : l.stackTraces = false) (D : va_G) (e0 : kE) (pa : Nat) (prl : Nat) (ppc : Nat) (ppg : Nat) (ppl : Nat) (ped : Nat) (a1 : Int32) (a2 : Int32) (a3 : Int32) (a4 : Int32)  : kM l yX6_limit wk_c_X6_limit 8 142 1 6 D kStr e0 [] [(pa, .inr (11, [.ref prl, .int 0, .ref ppc, .int 0, .ref ppg, .ref ppl, .ref ped, .int 0]))] [.ref pa, .int a1, .int a2, .int a3, .int a4] (fun _ _ _ => False) (fun E => E = "java/lang/IndexOutOfBoundsException") := by
  refine k_of (cc := cX6_limit) (maxL := 6) (ret := (some .int)) (by decide) rfl (Nat.le_of_ble_eq_true rfl) ?_
  intro p e s m args below meth c A ls hx hb hr hts hown hlocks hml hex hh hl
  have hown : s.vm.findClass RX6 = some m.cls := hown
  have hl : lv_has ls 6 [(0, .ref pa), (1, .int a1), (2, .int a2), (3, .int a3), (4, .int a4)] := hl
  refine lv_aload_n hx hb dX6_limit_0 rfl (lv_at hl 0 rfl) ?_
  refine lv_iload_n hx hb dX6_limit_1 rfl (lv_at hl 1 rfl) ?_
  refine k_callV (C := RX6) (T := TX6) (N := 8) (ci := 11) (q0 := 0) (wr := []) (rest := []) (own := RX6) ⟨hx, hb, hml, hown, hts⟩ (c_X6_knownPiece l hst D e0 pa prl ppc ppg ppl ped a1 ) (cwV 1 hts gi_c_X6_limit_0 rfl rfl rfl (by decide +kernel) ⟨Nat.le_of_ble_eq_true rfl, Nat.le_of_ble_eq_true rfl⟩) hh rfl rfl [0] [] [] rfl rfl rfl rfl (by decide) rfl rfl hl rfl (Nat.le_of_ble_eq_true rfl) dX6_limit_2 ⟨Nat.le_of_ble_eq_true rfl, (Nat.le_of_ble_eq_true rfl)⟩ (fun E ce q9 H locs hE hh hq hv hcl => ?_) (fun _ _ _ _ _ h _ => h.elim)
  exact k_out hex hlocks hE hh hq hv hcl (Nat.le_of_ble_eq_true rfl) (Nat.le_of_ble_eq_true rfl)
def wo_c_X6_resample : List Cond := []
def wk_c_X6_resample : List Cond := Cond.code yX6_resample cX6_resample 6 (some .int) :: (wo_c_X6_resample ++ (wsV RX6 99 RX6 yX6_knownPiece wk_c_X6_knownPiece))
theorem wo_c_X6_resample_in : ∀ w ∈ wo_c_X6_resample, w ∈ wk_c_X6_resample := fun w h => List.mem_cons_of_mem _ (List.mem_append_left _ h)
theorem gi_c_X6_resample_0 : GoodIn wk_c_X6_resample (wsV RX6 99 RX6 yX6_knownPiece wk_c_X6_knownPiece) := fun w h => ⟨List.mem_cons_of_mem _ (List.mem_append_right _ h), good_of_word (kg_V gk_c_X6_knownPiece w h)⟩
theorem gk_c_X6_resample : ∀ w ∈ wk_c_X6_resample, goodWord w = true := List.forall_mem_cons.mpr ⟨rfl, (List.forall_mem_append.mpr ⟨(show ∀ w ∈ wo_c_X6_resample, goodWord w = true by decide +kernel), (kg_V gk_c_X6_knownPiece)⟩)⟩
set_option maxHeartbeats 4000000 in
set_option maxRecDepth 100000 in
theorem c_X6_resample (l : Launch) (hst : l.stackTraces = false) (D : va_G) (e0 : kE) (pa : Nat) (prl : Nat) (ppc : Nat) (ppg : Nat) (ppl : Nat) (ped : Nat) (a1 : Int32) (a2 : Int32) (a3 : Int32)  : kM l yX6_resample wk_c_X6_resample 8 142 1 6 D kStr e0 [] [(pa, .inr (11, [.ref prl, .int 0, .ref ppc, .int 0, .ref ppg, .ref ppl, .ref ped, .int 0]))] [.ref pa, .int a1, .int a2, .int a3] (fun _ _ _ => False) (fun E => E = "java/lang/IndexOutOfBoundsException") := by
  refine k_of (cc := cX6_resample) (maxL := 6) (ret := (some .int)) (by decide) rfl (Nat.le_of_ble_eq_true rfl) ?_
  intro p e s m args below meth c A ls hx hb hr hts hown hlocks hml hex hh hl
  have hown : s.vm.findClass RX6 = some m.cls := hown
  have hl : lv_has ls 6 [(0, .ref pa), (1, .int a1), (2, .int a2), (3, .int a3)] := hl
  refine lv_aload_n hx hb dX6_resample_0 rfl (lv_at hl 0 rfl) ?_
  refine lv_iload_n hx hb dX6_resample_1 rfl (lv_at hl 1 rfl) ?_
  refine k_callV (C := RX6) (T := TX6) (N := 8) (ci := 11) (q0 := 0) (wr := []) (rest := []) (own := RX6) ⟨hx, hb, hml, hown, hts⟩ (c_X6_knownPiece l hst D e0 pa prl ppc ppg ppl ped a1 ) (cwV 1 hts gi_c_X6_resample_0 rfl rfl rfl (by decide +kernel) ⟨Nat.le_of_ble_eq_true rfl, Nat.le_of_ble_eq_true rfl⟩) hh rfl rfl [0] [] [] rfl rfl rfl rfl (by decide) rfl rfl hl rfl (Nat.le_of_ble_eq_true rfl) dX6_resample_2 ⟨Nat.le_of_ble_eq_true rfl, (Nat.le_of_ble_eq_true rfl)⟩ (fun E ce q9 H locs hE hh hq hv hcl => ?_) (fun _ _ _ _ _ h _ => h.elim)
  exact k_out hex hlocks hE hh hq hv hcl (Nat.le_of_ble_eq_true rfl) (Nat.le_of_ble_eq_true rfl)
def wo_c_X6_dither : List Cond := []
def wk_c_X6_dither : List Cond := Cond.code yX6_dither cX6_dither 4 (some .int) :: (wo_c_X6_dither ++ (wsV RX6 99 RX6 yX6_knownPiece wk_c_X6_knownPiece))
theorem wo_c_X6_dither_in : ∀ w ∈ wo_c_X6_dither, w ∈ wk_c_X6_dither := fun w h => List.mem_cons_of_mem _ (List.mem_append_left _ h)
theorem gi_c_X6_dither_0 : GoodIn wk_c_X6_dither (wsV RX6 99 RX6 yX6_knownPiece wk_c_X6_knownPiece) := fun w h => ⟨List.mem_cons_of_mem _ (List.mem_append_right _ h), good_of_word (kg_V gk_c_X6_knownPiece w h)⟩
theorem gk_c_X6_dither : ∀ w ∈ wk_c_X6_dither, goodWord w = true := List.forall_mem_cons.mpr ⟨rfl, (List.forall_mem_append.mpr ⟨(show ∀ w ∈ wo_c_X6_dither, goodWord w = true by decide +kernel), (kg_V gk_c_X6_knownPiece)⟩)⟩
set_option maxHeartbeats 4000000 in
set_option maxRecDepth 100000 in
theorem c_X6_dither (l : Launch) (hst : l.stackTraces = false) (D : va_G) (e0 : kE) (pa : Nat) (prl : Nat) (ppc : Nat) (ppg : Nat) (ppl : Nat) (ped : Nat) (a1 : Int32) (a2 : Int32)  : kM l yX6_dither wk_c_X6_dither 8 142 1 6 D kStr e0 [] [(pa, .inr (11, [.ref prl, .int 0, .ref ppc, .int 0, .ref ppg, .ref ppl, .ref ped, .int 0]))] [.ref pa, .int a1, .int a2] (fun _ _ _ => False) (fun E => E = "java/lang/IndexOutOfBoundsException") := by
  refine k_of (cc := cX6_dither) (maxL := 4) (ret := (some .int)) (by decide) rfl (Nat.le_of_ble_eq_true rfl) ?_
  intro p e s m args below meth c A ls hx hb hr hts hown hlocks hml hex hh hl
  have hown : s.vm.findClass RX6 = some m.cls := hown
  have hl : lv_has ls 4 [(0, .ref pa), (1, .int a1), (2, .int a2)] := hl
  refine lv_aload_n hx hb dX6_dither_0 rfl (lv_at hl 0 rfl) ?_
  refine lv_iload_n hx hb dX6_dither_1 rfl (lv_at hl 1 rfl) ?_
  refine k_callV (C := RX6) (T := TX6) (N := 8) (ci := 11) (q0 := 0) (wr := []) (rest := []) (own := RX6) ⟨hx, hb, hml, hown, hts⟩ (c_X6_knownPiece l hst D e0 pa prl ppc ppg ppl ped a1 ) (cwV 1 hts gi_c_X6_dither_0 rfl rfl rfl (by decide +kernel) ⟨Nat.le_of_ble_eq_true rfl, Nat.le_of_ble_eq_true rfl⟩) hh rfl rfl [0] [] [] rfl rfl rfl rfl (by decide) rfl rfl hl rfl (Nat.le_of_ble_eq_true rfl) dX6_dither_2 ⟨Nat.le_of_ble_eq_true rfl, (Nat.le_of_ble_eq_true rfl)⟩ (fun E ce q9 H locs hE hh hq hv hcl => ?_) (fun _ _ _ _ _ h _ => h.elim)
  exact k_out hex hlocks hE hh hq hv hcl (Nat.le_of_ble_eq_true rfl) (Nat.le_of_ble_eq_true rfl)
def wo_c_X6_kindOf : List Cond := []
def wk_c_X6_kindOf : List Cond := Cond.code yX6_kindOf cX6_kindOf 2 (some .char) :: (wo_c_X6_kindOf ++ (wsV RX6 99 RX6 yX6_knownPiece wk_c_X6_knownPiece))
theorem wo_c_X6_kindOf_in : ∀ w ∈ wo_c_X6_kindOf, w ∈ wk_c_X6_kindOf := fun w h => List.mem_cons_of_mem _ (List.mem_append_left _ h)
theorem gi_c_X6_kindOf_0 : GoodIn wk_c_X6_kindOf (wsV RX6 99 RX6 yX6_knownPiece wk_c_X6_knownPiece) := fun w h => ⟨List.mem_cons_of_mem _ (List.mem_append_right _ h), good_of_word (kg_V gk_c_X6_knownPiece w h)⟩
theorem gk_c_X6_kindOf : ∀ w ∈ wk_c_X6_kindOf, goodWord w = true := List.forall_mem_cons.mpr ⟨rfl, (List.forall_mem_append.mpr ⟨(show ∀ w ∈ wo_c_X6_kindOf, goodWord w = true by decide +kernel), (kg_V gk_c_X6_knownPiece)⟩)⟩
set_option maxHeartbeats 4000000 in
set_option maxRecDepth 100000 in
theorem c_X6_kindOf (l : Launch) (hst : l.stackTraces = false) (D : va_G) (e0 : kE) (pa : Nat) (prl : Nat) (ppc : Nat) (ppg : Nat) (ppl : Nat) (ped : Nat) (a1 : Int32)  : kM l yX6_kindOf wk_c_X6_kindOf 8 142 1 6 D kStr e0 [] [(pa, .inr (11, [.ref prl, .int 0, .ref ppc, .int 0, .ref ppg, .ref ppl, .ref ped, .int 0]))] [.ref pa, .int a1] (fun _ _ _ => False) (fun E => E = "java/lang/IndexOutOfBoundsException") := by
  refine k_of (cc := cX6_kindOf) (maxL := 2) (ret := (some .char)) (by decide) rfl (Nat.le_of_ble_eq_true rfl) ?_
  intro p e s m args below meth c A ls hx hb hr hts hown hlocks hml hex hh hl
  have hown : s.vm.findClass RX6 = some m.cls := hown
  have hl : lv_has ls 2 [(0, .ref pa), (1, .int a1)] := hl
  refine lv_aload_n hx hb dX6_kindOf_0 rfl (lv_at hl 0 rfl) ?_
  refine lv_iload_n hx hb dX6_kindOf_1 rfl (lv_at hl 1 rfl) ?_
  refine k_callV (C := RX6) (T := TX6) (N := 8) (ci := 11) (q0 := 0) (wr := []) (rest := []) (own := RX6) ⟨hx, hb, hml, hown, hts⟩ (c_X6_knownPiece l hst D e0 pa prl ppc ppg ppl ped a1 ) (cwV 1 hts gi_c_X6_kindOf_0 rfl rfl rfl (by decide +kernel) ⟨Nat.le_of_ble_eq_true rfl, Nat.le_of_ble_eq_true rfl⟩) hh rfl rfl [0] [] [] rfl rfl rfl rfl (by decide) rfl rfl hl rfl (Nat.le_of_ble_eq_true rfl) dX6_kindOf_2 ⟨Nat.le_of_ble_eq_true rfl, (Nat.le_of_ble_eq_true rfl)⟩ (fun E ce q9 H locs hE hh hq hv hcl => ?_) (fun _ _ _ _ _ h _ => h.elim)
  exact k_out hex hlocks hE hh hq hv hcl (Nat.le_of_ble_eq_true rfl) (Nat.le_of_ble_eq_true rfl)
def wo_c_X6_lengthOf : List Cond := []
def wk_c_X6_lengthOf : List Cond := Cond.code yX6_lengthOf cX6_lengthOf 2 (some .int) :: (wo_c_X6_lengthOf ++ (wsV RX6 99 RX6 yX6_knownPiece wk_c_X6_knownPiece))
theorem wo_c_X6_lengthOf_in : ∀ w ∈ wo_c_X6_lengthOf, w ∈ wk_c_X6_lengthOf := fun w h => List.mem_cons_of_mem _ (List.mem_append_left _ h)
theorem gi_c_X6_lengthOf_0 : GoodIn wk_c_X6_lengthOf (wsV RX6 99 RX6 yX6_knownPiece wk_c_X6_knownPiece) := fun w h => ⟨List.mem_cons_of_mem _ (List.mem_append_right _ h), good_of_word (kg_V gk_c_X6_knownPiece w h)⟩
theorem gk_c_X6_lengthOf : ∀ w ∈ wk_c_X6_lengthOf, goodWord w = true := List.forall_mem_cons.mpr ⟨rfl, (List.forall_mem_append.mpr ⟨(show ∀ w ∈ wo_c_X6_lengthOf, goodWord w = true by decide +kernel), (kg_V gk_c_X6_knownPiece)⟩)⟩
set_option maxHeartbeats 4000000 in
set_option maxRecDepth 100000 in
theorem c_X6_lengthOf (l : Launch) (hst : l.stackTraces = false) (D : va_G) (e0 : kE) (pa : Nat) (prl : Nat) (ppc : Nat) (ppg : Nat) (ppl : Nat) (ped : Nat) (a1 : Int32)  : kM l yX6_lengthOf wk_c_X6_lengthOf 8 142 1 6 D kStr e0 [] [(pa, .inr (11, [.ref prl, .int 0, .ref ppc, .int 0, .ref ppg, .ref ppl, .ref ped, .int 0]))] [.ref pa, .int a1] (fun _ _ _ => False) (fun E => E = "java/lang/IndexOutOfBoundsException") := by
  refine k_of (cc := cX6_lengthOf) (maxL := 2) (ret := (some .int)) (by decide) rfl (Nat.le_of_ble_eq_true rfl) ?_
  intro p e s m args below meth c A ls hx hb hr hts hown hlocks hml hex hh hl
  have hown : s.vm.findClass RX6 = some m.cls := hown
  have hl : lv_has ls 2 [(0, .ref pa), (1, .int a1)] := hl
  refine lv_aload_n hx hb dX6_lengthOf_0 rfl (lv_at hl 0 rfl) ?_
  refine lv_iload_n hx hb dX6_lengthOf_1 rfl (lv_at hl 1 rfl) ?_
  refine k_callV (C := RX6) (T := TX6) (N := 8) (ci := 11) (q0 := 0) (wr := []) (rest := []) (own := RX6) ⟨hx, hb, hml, hown, hts⟩ (c_X6_knownPiece l hst D e0 pa prl ppc ppg ppl ped a1 ) (cwV 1 hts gi_c_X6_lengthOf_0 rfl rfl rfl (by decide +kernel) ⟨Nat.le_of_ble_eq_true rfl, Nat.le_of_ble_eq_true rfl⟩) hh rfl rfl [0] [] [] rfl rfl rfl rfl (by decide) rfl rfl hl rfl (Nat.le_of_ble_eq_true rfl) dX6_lengthOf_2 ⟨Nat.le_of_ble_eq_true rfl, (Nat.le_of_ble_eq_true rfl)⟩ (fun E ce q9 H locs hE hh hq hv hcl => ?_) (fun _ _ _ _ _ h _ => h.elim)
  exact k_out hex hlocks hE hh hq hv hcl (Nat.le_of_ble_eq_true rfl) (Nat.le_of_ble_eq_true rfl)
def wo_c_X6_sampleOf : List Cond := []
def wk_c_X6_sampleOf : List Cond := Cond.code yX6_sampleOf cX6_sampleOf 4 (some .int) :: (wo_c_X6_sampleOf ++ (wsV RX6 99 RX6 yX6_knownPiece wk_c_X6_knownPiece))
theorem wo_c_X6_sampleOf_in : ∀ w ∈ wo_c_X6_sampleOf, w ∈ wk_c_X6_sampleOf := fun w h => List.mem_cons_of_mem _ (List.mem_append_left _ h)
theorem gi_c_X6_sampleOf_0 : GoodIn wk_c_X6_sampleOf (wsV RX6 99 RX6 yX6_knownPiece wk_c_X6_knownPiece) := fun w h => ⟨List.mem_cons_of_mem _ (List.mem_append_right _ h), good_of_word (kg_V gk_c_X6_knownPiece w h)⟩
theorem gk_c_X6_sampleOf : ∀ w ∈ wk_c_X6_sampleOf, goodWord w = true := List.forall_mem_cons.mpr ⟨rfl, (List.forall_mem_append.mpr ⟨(show ∀ w ∈ wo_c_X6_sampleOf, goodWord w = true by decide +kernel), (kg_V gk_c_X6_knownPiece)⟩)⟩
set_option maxHeartbeats 4000000 in
set_option maxRecDepth 100000 in
theorem c_X6_sampleOf (l : Launch) (hst : l.stackTraces = false) (D : va_G) (e0 : kE) (pa : Nat) (prl : Nat) (ppc : Nat) (ppg : Nat) (ppl : Nat) (ped : Nat) (a1 : Int32) (a2 : Int32)  : kM l yX6_sampleOf wk_c_X6_sampleOf 8 142 1 6 D kStr e0 [] [(pa, .inr (11, [.ref prl, .int 0, .ref ppc, .int 0, .ref ppg, .ref ppl, .ref ped, .int 0]))] [.ref pa, .int a1, .int a2] (fun _ _ _ => False) (fun E => E = "java/lang/IndexOutOfBoundsException") := by
  refine k_of (cc := cX6_sampleOf) (maxL := 4) (ret := (some .int)) (by decide) rfl (Nat.le_of_ble_eq_true rfl) ?_
  intro p e s m args below meth c A ls hx hb hr hts hown hlocks hml hex hh hl
  have hown : s.vm.findClass RX6 = some m.cls := hown
  have hl : lv_has ls 4 [(0, .ref pa), (1, .int a1), (2, .int a2)] := hl
  refine lv_aload_n hx hb dX6_sampleOf_0 rfl (lv_at hl 0 rfl) ?_
  refine lv_iload_n hx hb dX6_sampleOf_1 rfl (lv_at hl 1 rfl) ?_
  refine k_callV (C := RX6) (T := TX6) (N := 8) (ci := 11) (q0 := 0) (wr := []) (rest := []) (own := RX6) ⟨hx, hb, hml, hown, hts⟩ (c_X6_knownPiece l hst D e0 pa prl ppc ppg ppl ped a1 ) (cwV 1 hts gi_c_X6_sampleOf_0 rfl rfl rfl (by decide +kernel) ⟨Nat.le_of_ble_eq_true rfl, Nat.le_of_ble_eq_true rfl⟩) hh rfl rfl [0] [] [] rfl rfl rfl rfl (by decide) rfl rfl hl rfl (Nat.le_of_ble_eq_true rfl) dX6_sampleOf_2 ⟨Nat.le_of_ble_eq_true rfl, (Nat.le_of_ble_eq_true rfl)⟩ (fun E ce q9 H locs hE hh hq hv hcl => ?_) (fun _ _ _ _ _ h _ => h.elim)
  exact k_out hex hlocks hE hh hq hv hcl (Nat.le_of_ble_eq_true rfl) (Nat.le_of_ble_eq_true rfl)
def wo_c_X6_loudness : List Cond := []
def wk_c_X6_loudness : List Cond := Cond.code yX6_loudness cX6_loudness 2 (some .int) :: (wo_c_X6_loudness ++ (wsV RX6 99 RX6 yX6_knownPiece wk_c_X6_knownPiece))
theorem wo_c_X6_loudness_in : ∀ w ∈ wo_c_X6_loudness, w ∈ wk_c_X6_loudness := fun w h => List.mem_cons_of_mem _ (List.mem_append_left _ h)
theorem gi_c_X6_loudness_0 : GoodIn wk_c_X6_loudness (wsV RX6 99 RX6 yX6_knownPiece wk_c_X6_knownPiece) := fun w h => ⟨List.mem_cons_of_mem _ (List.mem_append_right _ h), good_of_word (kg_V gk_c_X6_knownPiece w h)⟩
theorem gk_c_X6_loudness : ∀ w ∈ wk_c_X6_loudness, goodWord w = true := List.forall_mem_cons.mpr ⟨rfl, (List.forall_mem_append.mpr ⟨(show ∀ w ∈ wo_c_X6_loudness, goodWord w = true by decide +kernel), (kg_V gk_c_X6_knownPiece)⟩)⟩
set_option maxHeartbeats 4000000 in
set_option maxRecDepth 100000 in
theorem c_X6_loudness (l : Launch) (hst : l.stackTraces = false) (D : va_G) (e0 : kE) (pa : Nat) (prl : Nat) (ppc : Nat) (ppg : Nat) (ppl : Nat) (ped : Nat) (a1 : Int32)  : kM l yX6_loudness wk_c_X6_loudness 8 142 1 6 D kStr e0 [] [(pa, .inr (11, [.ref prl, .int 0, .ref ppc, .int 0, .ref ppg, .ref ppl, .ref ped, .int 0]))] [.ref pa, .int a1] (fun _ _ _ => False) (fun E => E = "java/lang/IndexOutOfBoundsException") := by
  refine k_of (cc := cX6_loudness) (maxL := 2) (ret := (some .int)) (by decide) rfl (Nat.le_of_ble_eq_true rfl) ?_
  intro p e s m args below meth c A ls hx hb hr hts hown hlocks hml hex hh hl
  have hown : s.vm.findClass RX6 = some m.cls := hown
  have hl : lv_has ls 2 [(0, .ref pa), (1, .int a1)] := hl
  refine lv_aload_n hx hb dX6_loudness_0 rfl (lv_at hl 0 rfl) ?_
  refine lv_iload_n hx hb dX6_loudness_1 rfl (lv_at hl 1 rfl) ?_
  refine k_callV (C := RX6) (T := TX6) (N := 8) (ci := 11) (q0 := 0) (wr := []) (rest := []) (own := RX6) ⟨hx, hb, hml, hown, hts⟩ (c_X6_knownPiece l hst D e0 pa prl ppc ppg ppl ped a1 ) (cwV 1 hts gi_c_X6_loudness_0 rfl rfl rfl (by decide +kernel) ⟨Nat.le_of_ble_eq_true rfl, Nat.le_of_ble_eq_true rfl⟩) hh rfl rfl [0] [] [] rfl rfl rfl rfl (by decide) rfl rfl hl rfl (Nat.le_of_ble_eq_true rfl) dX6_loudness_2 ⟨Nat.le_of_ble_eq_true rfl, (Nat.le_of_ble_eq_true rfl)⟩ (fun E ce q9 H locs hE hh hq hv hcl => ?_) (fun _ _ _ _ _ h _ => h.elim)
  exact k_out hex hlocks hE hh hq hv hcl (Nat.le_of_ble_eq_true rfl) (Nat.le_of_ble_eq_true rfl)
def wo_c_X6_peak : List Cond := []
def wk_c_X6_peak : List Cond := Cond.code yX6_peak cX6_peak 2 (some .int) :: (wo_c_X6_peak ++ (wsV RX6 99 RX6 yX6_knownPiece wk_c_X6_knownPiece))
theorem wo_c_X6_peak_in : ∀ w ∈ wo_c_X6_peak, w ∈ wk_c_X6_peak := fun w h => List.mem_cons_of_mem _ (List.mem_append_left _ h)
theorem gi_c_X6_peak_0 : GoodIn wk_c_X6_peak (wsV RX6 99 RX6 yX6_knownPiece wk_c_X6_knownPiece) := fun w h => ⟨List.mem_cons_of_mem _ (List.mem_append_right _ h), good_of_word (kg_V gk_c_X6_knownPiece w h)⟩
theorem gk_c_X6_peak : ∀ w ∈ wk_c_X6_peak, goodWord w = true := List.forall_mem_cons.mpr ⟨rfl, (List.forall_mem_append.mpr ⟨(show ∀ w ∈ wo_c_X6_peak, goodWord w = true by decide +kernel), (kg_V gk_c_X6_knownPiece)⟩)⟩
set_option maxHeartbeats 4000000 in
set_option maxRecDepth 100000 in
theorem c_X6_peak (l : Launch) (hst : l.stackTraces = false) (D : va_G) (e0 : kE) (pa : Nat) (prl : Nat) (ppc : Nat) (ppg : Nat) (ppl : Nat) (ped : Nat) (a1 : Int32)  : kM l yX6_peak wk_c_X6_peak 8 142 1 6 D kStr e0 [] [(pa, .inr (11, [.ref prl, .int 0, .ref ppc, .int 0, .ref ppg, .ref ppl, .ref ped, .int 0]))] [.ref pa, .int a1] (fun _ _ _ => False) (fun E => E = "java/lang/IndexOutOfBoundsException") := by
  refine k_of (cc := cX6_peak) (maxL := 2) (ret := (some .int)) (by decide) rfl (Nat.le_of_ble_eq_true rfl) ?_
  intro p e s m args below meth c A ls hx hb hr hts hown hlocks hml hex hh hl
  have hown : s.vm.findClass RX6 = some m.cls := hown
  have hl : lv_has ls 2 [(0, .ref pa), (1, .int a1)] := hl
  refine lv_aload_n hx hb dX6_peak_0 rfl (lv_at hl 0 rfl) ?_
  refine lv_iload_n hx hb dX6_peak_1 rfl (lv_at hl 1 rfl) ?_
  refine k_callV (C := RX6) (T := TX6) (N := 8) (ci := 11) (q0 := 0) (wr := []) (rest := []) (own := RX6) ⟨hx, hb, hml, hown, hts⟩ (c_X6_knownPiece l hst D e0 pa prl ppc ppg ppl ped a1 ) (cwV 1 hts gi_c_X6_peak_0 rfl rfl rfl (by decide +kernel) ⟨Nat.le_of_ble_eq_true rfl, Nat.le_of_ble_eq_true rfl⟩) hh rfl rfl [0] [] [] rfl rfl rfl rfl (by decide) rfl rfl hl rfl (Nat.le_of_ble_eq_true rfl) dX6_peak_2 ⟨Nat.le_of_ble_eq_true rfl, (Nat.le_of_ble_eq_true rfl)⟩ (fun E ce q9 H locs hE hh hq hv hcl => ?_) (fun _ _ _ _ _ h _ => h.elim)
  exact k_out hex hlocks hE hh hq hv hcl (Nat.le_of_ble_eq_true rfl) (Nat.le_of_ble_eq_true rfl)
def wo_c_X6_add : List Cond := []
def wk_c_X6_add : List Cond := Cond.code yX6_add cX6_add 4 (some .int) :: (wo_c_X6_add ++ (wsV RX6 99 RX6 yX6_knownPiece wk_c_X6_knownPiece))
theorem wo_c_X6_add_in : ∀ w ∈ wo_c_X6_add, w ∈ wk_c_X6_add := fun w h => List.mem_cons_of_mem _ (List.mem_append_left _ h)
theorem gi_c_X6_add_0 : GoodIn wk_c_X6_add (wsV RX6 99 RX6 yX6_knownPiece wk_c_X6_knownPiece) := fun w h => ⟨List.mem_cons_of_mem _ (List.mem_append_right _ h), good_of_word (kg_V gk_c_X6_knownPiece w h)⟩
theorem gk_c_X6_add : ∀ w ∈ wk_c_X6_add, goodWord w = true := List.forall_mem_cons.mpr ⟨rfl, (List.forall_mem_append.mpr ⟨(show ∀ w ∈ wo_c_X6_add, goodWord w = true by decide +kernel), (kg_V gk_c_X6_knownPiece)⟩)⟩
set_option maxHeartbeats 4000000 in
set_option maxRecDepth 100000 in
theorem c_X6_add (l : Launch) (hst : l.stackTraces = false) (D : va_G) (e0 : kE) (pa : Nat) (prl : Nat) (ppc : Nat) (ppg : Nat) (ppl : Nat) (ped : Nat) (a1 : Int32) (a2 : Int32)  : kM l yX6_add wk_c_X6_add 8 142 1 6 D kStr e0 [] [(pa, .inr (11, [.ref prl, .int 0, .ref ppc, .int 0, .ref ppg, .ref ppl, .ref ped, .int 0]))] [.ref pa, .int a1, .int a2] (fun _ _ _ => False) (fun E => E = "java/lang/IndexOutOfBoundsException") := by
  refine k_of (cc := cX6_add) (maxL := 4) (ret := (some .int)) (by decide) rfl (Nat.le_of_ble_eq_true rfl) ?_
  intro p e s m args below meth c A ls hx hb hr hts hown hlocks hml hex hh hl
  have hown : s.vm.findClass RX6 = some m.cls := hown
  have hl : lv_has ls 4 [(0, .ref pa), (1, .int a1), (2, .int a2)] := hl
  refine lv_aload_n hx hb dX6_add_0 rfl (lv_at hl 0 rfl) ?_
  refine lv_iload_n hx hb dX6_add_1 rfl (lv_at hl 1 rfl) ?_
  refine k_callV (C := RX6) (T := TX6) (N := 8) (ci := 11) (q0 := 0) (wr := []) (rest := []) (own := RX6) ⟨hx, hb, hml, hown, hts⟩ (c_X6_knownPiece l hst D e0 pa prl ppc ppg ppl ped a1 ) (cwV 1 hts gi_c_X6_add_0 rfl rfl rfl (by decide +kernel) ⟨Nat.le_of_ble_eq_true rfl, Nat.le_of_ble_eq_true rfl⟩) hh rfl rfl [0] [] [] rfl rfl rfl rfl (by decide) rfl rfl hl rfl (Nat.le_of_ble_eq_true rfl) dX6_add_2 ⟨Nat.le_of_ble_eq_true rfl, (Nat.le_of_ble_eq_true rfl)⟩ (fun E ce q9 H locs hE hh hq hv hcl => ?_) (fun _ _ _ _ _ h _ => h.elim)
  exact k_out hex hlocks hE hh hq hv hcl (Nat.le_of_ble_eq_true rfl) (Nat.le_of_ble_eq_true rfl)
def wo_c_X6_padding : List Cond := []
def wk_c_X6_padding : List Cond := Cond.code yX6_padding cX6_padding 6 (some .int) :: (wo_c_X6_padding ++ (wsV RX6 99 RX6 yX6_knownPiece wk_c_X6_knownPiece))
theorem wo_c_X6_padding_in : ∀ w ∈ wo_c_X6_padding, w ∈ wk_c_X6_padding := fun w h => List.mem_cons_of_mem _ (List.mem_append_left _ h)
theorem gi_c_X6_padding_0 : GoodIn wk_c_X6_padding (wsV RX6 99 RX6 yX6_knownPiece wk_c_X6_knownPiece) := fun w h => ⟨List.mem_cons_of_mem _ (List.mem_append_right _ h), good_of_word (kg_V gk_c_X6_knownPiece w h)⟩
theorem gk_c_X6_padding : ∀ w ∈ wk_c_X6_padding, goodWord w = true := List.forall_mem_cons.mpr ⟨rfl, (List.forall_mem_append.mpr ⟨(show ∀ w ∈ wo_c_X6_padding, goodWord w = true by decide +kernel), (kg_V gk_c_X6_knownPiece)⟩)⟩
set_option maxHeartbeats 4000000 in
set_option maxRecDepth 100000 in
theorem c_X6_padding (l : Launch) (hst : l.stackTraces = false) (D : va_G) (e0 : kE) (pa : Nat) (prl : Nat) (ppc : Nat) (ppg : Nat) (ppl : Nat) (ped : Nat) (a1 : Int32) (a2 : Int32) (a3 : Int32)  : kM l yX6_padding wk_c_X6_padding 8 142 1 6 D kStr e0 [] [(pa, .inr (11, [.ref prl, .int 0, .ref ppc, .int 0, .ref ppg, .ref ppl, .ref ped, .int 0]))] [.ref pa, .int a1, .int a2, .int a3] (fun _ _ _ => False) (fun E => E = "java/lang/IndexOutOfBoundsException") := by
  refine k_of (cc := cX6_padding) (maxL := 6) (ret := (some .int)) (by decide) rfl (Nat.le_of_ble_eq_true rfl) ?_
  intro p e s m args below meth c A ls hx hb hr hts hown hlocks hml hex hh hl
  have hown : s.vm.findClass RX6 = some m.cls := hown
  have hl : lv_has ls 6 [(0, .ref pa), (1, .int a1), (2, .int a2), (3, .int a3)] := hl
  refine lv_aload_n hx hb dX6_padding_0 rfl (lv_at hl 0 rfl) ?_
  refine lv_iload_n hx hb dX6_padding_1 rfl (lv_at hl 1 rfl) ?_
  refine k_callV (C := RX6) (T := TX6) (N := 8) (ci := 11) (q0 := 0) (wr := []) (rest := []) (own := RX6) ⟨hx, hb, hml, hown, hts⟩ (c_X6_knownPiece l hst D e0 pa prl ppc ppg ppl ped a1 ) (cwV 1 hts gi_c_X6_padding_0 rfl rfl rfl (by decide +kernel) ⟨Nat.le_of_ble_eq_true rfl, Nat.le_of_ble_eq_true rfl⟩) hh rfl rfl [0] [] [] rfl rfl rfl rfl (by decide) rfl rfl hl rfl (Nat.le_of_ble_eq_true rfl) dX6_padding_2 ⟨Nat.le_of_ble_eq_true rfl, (Nat.le_of_ble_eq_true rfl)⟩ (fun E ce q9 H locs hE hh hq hv hcl => ?_) (fun _ _ _ _ _ h _ => h.elim)
  exact k_out hex hlocks hE hh hq hv hcl (Nat.le_of_ble_eq_true rfl) (Nat.le_of_ble_eq_true rfl)
def wo_c_X6_editionAt : List Cond := []
def wk_c_X6_editionAt : List Cond := Cond.code yX6_editionAt cX6_editionAt 4 (some .int) :: (wo_c_X6_editionAt ++ (wsV RX6 248 RX6 yX6_knownEdition wk_c_X6_knownEdition))
theorem wo_c_X6_editionAt_in : ∀ w ∈ wo_c_X6_editionAt, w ∈ wk_c_X6_editionAt := fun w h => List.mem_cons_of_mem _ (List.mem_append_left _ h)
theorem gi_c_X6_editionAt_0 : GoodIn wk_c_X6_editionAt (wsV RX6 248 RX6 yX6_knownEdition wk_c_X6_knownEdition) := fun w h => ⟨List.mem_cons_of_mem _ (List.mem_append_right _ h), good_of_word (kg_V gk_c_X6_knownEdition w h)⟩
theorem gk_c_X6_editionAt : ∀ w ∈ wk_c_X6_editionAt, goodWord w = true := List.forall_mem_cons.mpr ⟨rfl, (List.forall_mem_append.mpr ⟨(show ∀ w ∈ wo_c_X6_editionAt, goodWord w = true by decide +kernel), (kg_V gk_c_X6_knownEdition)⟩)⟩
set_option maxHeartbeats 4000000 in
set_option maxRecDepth 100000 in
theorem c_X6_editionAt (l : Launch) (hst : l.stackTraces = false) (D : va_G) (e0 : kE) (pa : Nat) (prl : Nat) (ppc : Nat) (ppg : Nat) (ppl : Nat) (ped : Nat) (a1 : Int32) (a2 : Int32)  : kM l yX6_editionAt wk_c_X6_editionAt 8 142 1 6 D kStr e0 [] [(pa, .inr (11, [.ref prl, .int 0, .ref ppc, .int 0, .ref ppg, .ref ppl, .ref ped, .int 0]))] [.ref pa, .int a1, .int a2] (fun _ _ _ => False) (fun E => E = "java/lang/IndexOutOfBoundsException") := by
  refine k_of (cc := cX6_editionAt) (maxL := 4) (ret := (some .int)) (by decide) rfl (Nat.le_of_ble_eq_true rfl) ?_
  intro p e s m args below meth c A ls hx hb hr hts hown hlocks hml hex hh hl
  have hown : s.vm.findClass RX6 = some m.cls := hown
  have hl : lv_has ls 4 [(0, .ref pa), (1, .int a1), (2, .int a2)] := hl
  refine lv_aload_n hx hb dX6_editionAt_0 rfl (lv_at hl 0 rfl) ?_
  refine lv_iload_n hx hb dX6_editionAt_1 rfl (lv_at hl 1 rfl) ?_
  refine k_callV (C := RX6) (T := TX6) (N := 8) (ci := 11) (q0 := 0) (wr := []) (rest := []) (own := RX6) ⟨hx, hb, hml, hown, hts⟩ (c_X6_knownEdition l hst D e0 pa prl ppc ppg ppl ped a1 ) (cwV 1 hts gi_c_X6_editionAt_0 rfl rfl rfl (by decide +kernel) ⟨Nat.le_of_ble_eq_true rfl, Nat.le_of_ble_eq_true rfl⟩) hh rfl rfl [0] [] [] rfl rfl rfl rfl (by decide) rfl rfl hl rfl (Nat.le_of_ble_eq_true rfl) dX6_editionAt_2 ⟨Nat.le_of_ble_eq_true rfl, (Nat.le_of_ble_eq_true rfl)⟩ (fun E ce q9 H locs hE hh hq hv hcl => ?_) (fun _ _ _ _ _ h _ => h.elim)
  exact k_out hex hlocks hE hh hq hv hcl (Nat.le_of_ble_eq_true rfl) (Nat.le_of_ble_eq_true rfl)
def wo_c_X6_sum : List Cond := []
def wk_c_X6_sum : List Cond := Cond.code yX6_sum cX6_sum 4 (some .int) :: (wo_c_X6_sum ++ (wsV RX6 248 RX6 yX6_knownEdition wk_c_X6_knownEdition))
theorem wo_c_X6_sum_in : ∀ w ∈ wo_c_X6_sum, w ∈ wk_c_X6_sum := fun w h => List.mem_cons_of_mem _ (List.mem_append_left _ h)
theorem gi_c_X6_sum_0 : GoodIn wk_c_X6_sum (wsV RX6 248 RX6 yX6_knownEdition wk_c_X6_knownEdition) := fun w h => ⟨List.mem_cons_of_mem _ (List.mem_append_right _ h), good_of_word (kg_V gk_c_X6_knownEdition w h)⟩
theorem gk_c_X6_sum : ∀ w ∈ wk_c_X6_sum, goodWord w = true := List.forall_mem_cons.mpr ⟨rfl, (List.forall_mem_append.mpr ⟨(show ∀ w ∈ wo_c_X6_sum, goodWord w = true by decide +kernel), (kg_V gk_c_X6_knownEdition)⟩)⟩
set_option maxHeartbeats 4000000 in
set_option maxRecDepth 100000 in
theorem c_X6_sum (l : Launch) (hst : l.stackTraces = false) (D : va_G) (e0 : kE) (pa : Nat) (prl : Nat) (ppc : Nat) (ppg : Nat) (ppl : Nat) (ped : Nat) (a1 : Int32) (a2 : Int32)  : kM l yX6_sum wk_c_X6_sum 8 142 1 6 D kStr e0 [] [(pa, .inr (11, [.ref prl, .int 0, .ref ppc, .int 0, .ref ppg, .ref ppl, .ref ped, .int 0]))] [.ref pa, .int a1, .int a2] (fun _ _ _ => False) (fun E => E = "java/lang/IndexOutOfBoundsException") := by
  refine k_of (cc := cX6_sum) (maxL := 4) (ret := (some .int)) (by decide) rfl (Nat.le_of_ble_eq_true rfl) ?_
  intro p e s m args below meth c A ls hx hb hr hts hown hlocks hml hex hh hl
  have hown : s.vm.findClass RX6 = some m.cls := hown
  have hl : lv_has ls 4 [(0, .ref pa), (1, .int a1), (2, .int a2)] := hl
  refine lv_aload_n hx hb dX6_sum_0 rfl (lv_at hl 0 rfl) ?_
  refine lv_iload_n hx hb dX6_sum_1 rfl (lv_at hl 1 rfl) ?_
  refine k_callV (C := RX6) (T := TX6) (N := 8) (ci := 11) (q0 := 0) (wr := []) (rest := []) (own := RX6) ⟨hx, hb, hml, hown, hts⟩ (c_X6_knownEdition l hst D e0 pa prl ppc ppg ppl ped a1 ) (cwV 1 hts gi_c_X6_sum_0 rfl rfl rfl (by decide +kernel) ⟨Nat.le_of_ble_eq_true rfl, Nat.le_of_ble_eq_true rfl⟩) hh rfl rfl [0] [] [] rfl rfl rfl rfl (by decide) rfl rfl hl rfl (Nat.le_of_ble_eq_true rfl) dX6_sum_2 ⟨Nat.le_of_ble_eq_true rfl, (Nat.le_of_ble_eq_true rfl)⟩ (fun E ce q9 H locs hE hh hq hv hcl => ?_) (fun _ _ _ _ _ h _ => h.elim)
  exact k_out hex hlocks hE hh hq hv hcl (Nat.le_of_ble_eq_true rfl) (Nat.le_of_ble_eq_true rfl)
def wo_c_X6_match : List Cond := []
def wk_c_X6_match : List Cond := Cond.code yX6_match cX6_match 3 (some .int) :: (wo_c_X6_match ++ (wsV RX6 248 RX6 yX6_knownEdition wk_c_X6_knownEdition))
theorem wo_c_X6_match_in : ∀ w ∈ wo_c_X6_match, w ∈ wk_c_X6_match := fun w h => List.mem_cons_of_mem _ (List.mem_append_left _ h)
theorem gi_c_X6_match_0 : GoodIn wk_c_X6_match (wsV RX6 248 RX6 yX6_knownEdition wk_c_X6_knownEdition) := fun w h => ⟨List.mem_cons_of_mem _ (List.mem_append_right _ h), good_of_word (kg_V gk_c_X6_knownEdition w h)⟩
theorem gk_c_X6_match : ∀ w ∈ wk_c_X6_match, goodWord w = true := List.forall_mem_cons.mpr ⟨rfl, (List.forall_mem_append.mpr ⟨(show ∀ w ∈ wo_c_X6_match, goodWord w = true by decide +kernel), (kg_V gk_c_X6_knownEdition)⟩)⟩
set_option maxHeartbeats 4000000 in
set_option maxRecDepth 100000 in
theorem c_X6_match (l : Launch) (hst : l.stackTraces = false) (D : va_G) (e0 : kE) (pa : Nat) (prl : Nat) (ppc : Nat) (ppg : Nat) (ppl : Nat) (ped : Nat) (a1 : Int32) (a2 : Int32)  : kM l yX6_match wk_c_X6_match 8 142 1 6 D kStr e0 [] [(pa, .inr (11, [.ref prl, .int 0, .ref ppc, .int 0, .ref ppg, .ref ppl, .ref ped, .int 0]))] [.ref pa, .int a1, .int a2] (fun _ _ _ => False) (fun E => E = "java/lang/IndexOutOfBoundsException") := by
  refine k_of (cc := cX6_match) (maxL := 3) (ret := (some .int)) (by decide) rfl (Nat.le_of_ble_eq_true rfl) ?_
  intro p e s m args below meth c A ls hx hb hr hts hown hlocks hml hex hh hl
  have hown : s.vm.findClass RX6 = some m.cls := hown
  have hl : lv_has ls 3 [(0, .ref pa), (1, .int a1), (2, .int a2)] := hl
  refine lv_aload_n hx hb dX6_match_0 rfl (lv_at hl 0 rfl) ?_
  refine lv_iload_n hx hb dX6_match_1 rfl (lv_at hl 1 rfl) ?_
  refine k_callV (C := RX6) (T := TX6) (N := 8) (ci := 11) (q0 := 0) (wr := []) (rest := []) (own := RX6) ⟨hx, hb, hml, hown, hts⟩ (c_X6_knownEdition l hst D e0 pa prl ppc ppg ppl ped a1 ) (cwV 1 hts gi_c_X6_match_0 rfl rfl rfl (by decide +kernel) ⟨Nat.le_of_ble_eq_true rfl, Nat.le_of_ble_eq_true rfl⟩) hh rfl rfl [0] [] [] rfl rfl rfl rfl (by decide) rfl rfl hl rfl (Nat.le_of_ble_eq_true rfl) dX6_match_2 ⟨Nat.le_of_ble_eq_true rfl, (Nat.le_of_ble_eq_true rfl)⟩ (fun E ce q9 H locs hE hh hq hv hcl => ?_) (fun _ _ _ _ _ h _ => h.elim)
  exact k_out hex hlocks hE hh hq hv hcl (Nat.le_of_ble_eq_true rfl) (Nat.le_of_ble_eq_true rfl)
def wo_c_X6_difference : List Cond := []
def wk_c_X6_difference : List Cond := Cond.code yX6_difference cX6_difference 3 (some .char) :: (wo_c_X6_difference ++ (wsV RX6 248 RX6 yX6_knownEdition wk_c_X6_knownEdition))
theorem wo_c_X6_difference_in : ∀ w ∈ wo_c_X6_difference, w ∈ wk_c_X6_difference := fun w h => List.mem_cons_of_mem _ (List.mem_append_left _ h)
theorem gi_c_X6_difference_0 : GoodIn wk_c_X6_difference (wsV RX6 248 RX6 yX6_knownEdition wk_c_X6_knownEdition) := fun w h => ⟨List.mem_cons_of_mem _ (List.mem_append_right _ h), good_of_word (kg_V gk_c_X6_knownEdition w h)⟩
theorem gk_c_X6_difference : ∀ w ∈ wk_c_X6_difference, goodWord w = true := List.forall_mem_cons.mpr ⟨rfl, (List.forall_mem_append.mpr ⟨(show ∀ w ∈ wo_c_X6_difference, goodWord w = true by decide +kernel), (kg_V gk_c_X6_knownEdition)⟩)⟩
set_option maxHeartbeats 4000000 in
set_option maxRecDepth 100000 in
theorem c_X6_difference (l : Launch) (hst : l.stackTraces = false) (D : va_G) (e0 : kE) (pa : Nat) (prl : Nat) (ppc : Nat) (ppg : Nat) (ppl : Nat) (ped : Nat) (a1 : Int32) (a2 : Int32)  : kM l yX6_difference wk_c_X6_difference 8 142 1 6 D kStr e0 [] [(pa, .inr (11, [.ref prl, .int 0, .ref ppc, .int 0, .ref ppg, .ref ppl, .ref ped, .int 0]))] [.ref pa, .int a1, .int a2] (fun _ _ _ => False) (fun E => E = "java/lang/IndexOutOfBoundsException") := by
  refine k_of (cc := cX6_difference) (maxL := 3) (ret := (some .char)) (by decide) rfl (Nat.le_of_ble_eq_true rfl) ?_
  intro p e s m args below meth c A ls hx hb hr hts hown hlocks hml hex hh hl
  have hown : s.vm.findClass RX6 = some m.cls := hown
  have hl : lv_has ls 3 [(0, .ref pa), (1, .int a1), (2, .int a2)] := hl
  refine lv_aload_n hx hb dX6_difference_0 rfl (lv_at hl 0 rfl) ?_
  refine lv_iload_n hx hb dX6_difference_1 rfl (lv_at hl 1 rfl) ?_
  refine k_callV (C := RX6) (T := TX6) (N := 8) (ci := 11) (q0 := 0) (wr := []) (rest := []) (own := RX6) ⟨hx, hb, hml, hown, hts⟩ (c_X6_knownEdition l hst D e0 pa prl ppc ppg ppl ped a1 ) (cwV 1 hts gi_c_X6_difference_0 rfl rfl rfl (by decide +kernel) ⟨Nat.le_of_ble_eq_true rfl, Nat.le_of_ble_eq_true rfl⟩) hh rfl rfl [0] [] [] rfl rfl rfl rfl (by decide) rfl rfl hl rfl (Nat.le_of_ble_eq_true rfl) dX6_difference_2 ⟨Nat.le_of_ble_eq_true rfl, (Nat.le_of_ble_eq_true rfl)⟩ (fun E ce q9 H locs hE hh hq hv hcl => ?_) (fun _ _ _ _ _ h _ => h.elim)
  exact k_out hex hlocks hE hh hq hv hcl (Nat.le_of_ble_eq_true rfl) (Nat.le_of_ble_eq_true rfl)
def wo_c_X6_differsAt : List Cond := []
def wk_c_X6_differsAt : List Cond := Cond.code yX6_differsAt cX6_differsAt 6 (some .int) :: (wo_c_X6_differsAt ++ (wsV RX6 248 RX6 yX6_knownEdition wk_c_X6_knownEdition))
theorem wo_c_X6_differsAt_in : ∀ w ∈ wo_c_X6_differsAt, w ∈ wk_c_X6_differsAt := fun w h => List.mem_cons_of_mem _ (List.mem_append_left _ h)
theorem gi_c_X6_differsAt_0 : GoodIn wk_c_X6_differsAt (wsV RX6 248 RX6 yX6_knownEdition wk_c_X6_knownEdition) := fun w h => ⟨List.mem_cons_of_mem _ (List.mem_append_right _ h), good_of_word (kg_V gk_c_X6_knownEdition w h)⟩
theorem gk_c_X6_differsAt : ∀ w ∈ wk_c_X6_differsAt, goodWord w = true := List.forall_mem_cons.mpr ⟨rfl, (List.forall_mem_append.mpr ⟨(show ∀ w ∈ wo_c_X6_differsAt, goodWord w = true by decide +kernel), (kg_V gk_c_X6_knownEdition)⟩)⟩
set_option maxHeartbeats 4000000 in
set_option maxRecDepth 100000 in
theorem c_X6_differsAt (l : Launch) (hst : l.stackTraces = false) (D : va_G) (e0 : kE) (pa : Nat) (prl : Nat) (ppc : Nat) (ppg : Nat) (ppl : Nat) (ped : Nat) (a1 : Int32) (a2 : Int32)  : kM l yX6_differsAt wk_c_X6_differsAt 8 142 1 6 D kStr e0 [] [(pa, .inr (11, [.ref prl, .int 0, .ref ppc, .int 0, .ref ppg, .ref ppl, .ref ped, .int 0]))] [.ref pa, .int a1, .int a2] (fun _ _ _ => False) (fun E => E = "java/lang/IndexOutOfBoundsException") := by
  refine k_of (cc := cX6_differsAt) (maxL := 6) (ret := (some .int)) (by decide) rfl (Nat.le_of_ble_eq_true rfl) ?_
  intro p e s m args below meth c A ls hx hb hr hts hown hlocks hml hex hh hl
  have hown : s.vm.findClass RX6 = some m.cls := hown
  have hl : lv_has ls 6 [(0, .ref pa), (1, .int a1), (2, .int a2)] := hl
  refine lv_aload_n hx hb dX6_differsAt_0 rfl (lv_at hl 0 rfl) ?_
  refine lv_iload_n hx hb dX6_differsAt_1 rfl (lv_at hl 1 rfl) ?_
  refine k_callV (C := RX6) (T := TX6) (N := 8) (ci := 11) (q0 := 0) (wr := []) (rest := []) (own := RX6) ⟨hx, hb, hml, hown, hts⟩ (c_X6_knownEdition l hst D e0 pa prl ppc ppg ppl ped a1 ) (cwV 1 hts gi_c_X6_differsAt_0 rfl rfl rfl (by decide +kernel) ⟨Nat.le_of_ble_eq_true rfl, Nat.le_of_ble_eq_true rfl⟩) hh rfl rfl [0] [] [] rfl rfl rfl rfl (by decide) rfl rfl hl rfl (Nat.le_of_ble_eq_true rfl) dX6_differsAt_2 ⟨Nat.le_of_ble_eq_true rfl, (Nat.le_of_ble_eq_true rfl)⟩ (fun E ce q9 H locs hE hh hq hv hcl => ?_) (fun _ _ _ _ _ h _ => h.elim)
  exact k_out hex hlocks hE hh hq hv hcl (Nat.le_of_ble_eq_true rfl) (Nat.le_of_ble_eq_true rfl)
def wo_c_X6_damage : List Cond := []
def wk_c_X6_damage : List Cond := Cond.code yX6_damage cX6_damage 5 (some .int) :: (wo_c_X6_damage ++ (wsV RX6 248 RX6 yX6_knownEdition wk_c_X6_knownEdition))
theorem wo_c_X6_damage_in : ∀ w ∈ wo_c_X6_damage, w ∈ wk_c_X6_damage := fun w h => List.mem_cons_of_mem _ (List.mem_append_left _ h)
theorem gi_c_X6_damage_0 : GoodIn wk_c_X6_damage (wsV RX6 248 RX6 yX6_knownEdition wk_c_X6_knownEdition) := fun w h => ⟨List.mem_cons_of_mem _ (List.mem_append_right _ h), good_of_word (kg_V gk_c_X6_knownEdition w h)⟩
theorem gk_c_X6_damage : ∀ w ∈ wk_c_X6_damage, goodWord w = true := List.forall_mem_cons.mpr ⟨rfl, (List.forall_mem_append.mpr ⟨(show ∀ w ∈ wo_c_X6_damage, goodWord w = true by decide +kernel), (kg_V gk_c_X6_knownEdition)⟩)⟩
set_option maxHeartbeats 4000000 in
set_option maxRecDepth 100000 in
theorem c_X6_damage (l : Launch) (hst : l.stackTraces = false) (D : va_G) (e0 : kE) (pa : Nat) (prl : Nat) (ppc : Nat) (ppg : Nat) (ppl : Nat) (ped : Nat) (a1 : Int32) (a2 : Int32) (a3 : Int32)  : kM l yX6_damage wk_c_X6_damage 8 142 1 6 D kStr e0 [] [(pa, .inr (11, [.ref prl, .int 0, .ref ppc, .int 0, .ref ppg, .ref ppl, .ref ped, .int 0]))] [.ref pa, .int a1, .int a2, .int a3] (fun _ _ _ => False) (fun E => E = "java/lang/IndexOutOfBoundsException") := by
  refine k_of (cc := cX6_damage) (maxL := 5) (ret := (some .int)) (by decide) rfl (Nat.le_of_ble_eq_true rfl) ?_
  intro p e s m args below meth c A ls hx hb hr hts hown hlocks hml hex hh hl
  have hown : s.vm.findClass RX6 = some m.cls := hown
  have hl : lv_has ls 5 [(0, .ref pa), (1, .int a1), (2, .int a2), (3, .int a3)] := hl
  refine lv_aload_n hx hb dX6_damage_0 rfl (lv_at hl 0 rfl) ?_
  refine lv_iload_n hx hb dX6_damage_1 rfl (lv_at hl 1 rfl) ?_
  refine k_callV (C := RX6) (T := TX6) (N := 8) (ci := 11) (q0 := 0) (wr := []) (rest := []) (own := RX6) ⟨hx, hb, hml, hown, hts⟩ (c_X6_knownEdition l hst D e0 pa prl ppc ppg ppl ped a1 ) (cwV 1 hts gi_c_X6_damage_0 rfl rfl rfl (by decide +kernel) ⟨Nat.le_of_ble_eq_true rfl, Nat.le_of_ble_eq_true rfl⟩) hh rfl rfl [0] [] [] rfl rfl rfl rfl (by decide) rfl rfl hl rfl (Nat.le_of_ble_eq_true rfl) dX6_damage_2 ⟨Nat.le_of_ble_eq_true rfl, (Nat.le_of_ble_eq_true rfl)⟩ (fun E ce q9 H locs hE hh hq hv hcl => ?_) (fun _ _ _ _ _ h _ => h.elim)
  exact k_out hex hlocks hE hh hq hv hcl (Nat.le_of_ble_eq_true rfl) (Nat.le_of_ble_eq_true rfl)
def wo_c_X6_repair : List Cond := []
def wk_c_X6_repair : List Cond := Cond.code yX6_repair cX6_repair 6 (some .int) :: (wo_c_X6_repair ++ (wsV RX6 248 RX6 yX6_knownEdition wk_c_X6_knownEdition))
theorem wo_c_X6_repair_in : ∀ w ∈ wo_c_X6_repair, w ∈ wk_c_X6_repair := fun w h => List.mem_cons_of_mem _ (List.mem_append_left _ h)
theorem gi_c_X6_repair_0 : GoodIn wk_c_X6_repair (wsV RX6 248 RX6 yX6_knownEdition wk_c_X6_knownEdition) := fun w h => ⟨List.mem_cons_of_mem _ (List.mem_append_right _ h), good_of_word (kg_V gk_c_X6_knownEdition w h)⟩
theorem gk_c_X6_repair : ∀ w ∈ wk_c_X6_repair, goodWord w = true := List.forall_mem_cons.mpr ⟨rfl, (List.forall_mem_append.mpr ⟨(show ∀ w ∈ wo_c_X6_repair, goodWord w = true by decide +kernel), (kg_V gk_c_X6_knownEdition)⟩)⟩
set_option maxHeartbeats 4000000 in
set_option maxRecDepth 100000 in
theorem c_X6_repair (l : Launch) (hst : l.stackTraces = false) (D : va_G) (e0 : kE) (pa : Nat) (prl : Nat) (ppc : Nat) (ppg : Nat) (ppl : Nat) (ped : Nat) (a1 : Int32) (a2 : Int32)  : kM l yX6_repair wk_c_X6_repair 8 142 1 6 D kStr e0 [] [(pa, .inr (11, [.ref prl, .int 0, .ref ppc, .int 0, .ref ppg, .ref ppl, .ref ped, .int 0]))] [.ref pa, .int a1, .int a2] (fun _ _ _ => False) (fun E => E = "java/lang/IndexOutOfBoundsException") := by
  refine k_of (cc := cX6_repair) (maxL := 6) (ret := (some .int)) (by decide) rfl (Nat.le_of_ble_eq_true rfl) ?_
  intro p e s m args below meth c A ls hx hb hr hts hown hlocks hml hex hh hl
  have hown : s.vm.findClass RX6 = some m.cls := hown
  have hl : lv_has ls 6 [(0, .ref pa), (1, .int a1), (2, .int a2)] := hl
  refine lv_aload_n hx hb dX6_repair_0 rfl (lv_at hl 0 rfl) ?_
  refine lv_iload_n hx hb dX6_repair_1 rfl (lv_at hl 1 rfl) ?_
  refine k_callV (C := RX6) (T := TX6) (N := 8) (ci := 11) (q0 := 0) (wr := []) (rest := []) (own := RX6) ⟨hx, hb, hml, hown, hts⟩ (c_X6_knownEdition l hst D e0 pa prl ppc ppg ppl ped a1 ) (cwV 1 hts gi_c_X6_repair_0 rfl rfl rfl (by decide +kernel) ⟨Nat.le_of_ble_eq_true rfl, Nat.le_of_ble_eq_true rfl⟩) hh rfl rfl [0] [] [] rfl rfl rfl rfl (by decide) rfl rfl hl rfl (Nat.le_of_ble_eq_true rfl) dX6_repair_2 ⟨Nat.le_of_ble_eq_true rfl, (Nat.le_of_ble_eq_true rfl)⟩ (fun E ce q9 H locs hE hh hq hv hcl => ?_) (fun _ _ _ _ _ h _ => h.elim)
  exact k_out hex hlocks hE hh hq hv hcl (Nat.le_of_ble_eq_true rfl) (Nat.le_of_ble_eq_true rfl)
def wo_c_X6_vote : List Cond := []
def wk_c_X6_vote : List Cond := Cond.code yX6_vote cX6_vote 5 (some .int) :: (wo_c_X6_vote ++ (wsV RX6 248 RX6 yX6_knownEdition wk_c_X6_knownEdition))
theorem wo_c_X6_vote_in : ∀ w ∈ wo_c_X6_vote, w ∈ wk_c_X6_vote := fun w h => List.mem_cons_of_mem _ (List.mem_append_left _ h)
theorem gi_c_X6_vote_0 : GoodIn wk_c_X6_vote (wsV RX6 248 RX6 yX6_knownEdition wk_c_X6_knownEdition) := fun w h => ⟨List.mem_cons_of_mem _ (List.mem_append_right _ h), good_of_word (kg_V gk_c_X6_knownEdition w h)⟩
theorem gk_c_X6_vote : ∀ w ∈ wk_c_X6_vote, goodWord w = true := List.forall_mem_cons.mpr ⟨rfl, (List.forall_mem_append.mpr ⟨(show ∀ w ∈ wo_c_X6_vote, goodWord w = true by decide +kernel), (kg_V gk_c_X6_knownEdition)⟩)⟩
set_option maxHeartbeats 4000000 in
set_option maxRecDepth 100000 in
theorem c_X6_vote (l : Launch) (hst : l.stackTraces = false) (D : va_G) (e0 : kE) (pa : Nat) (prl : Nat) (ppc : Nat) (ppg : Nat) (ppl : Nat) (ped : Nat) (a1 : Int32) (a2 : Int32) (a3 : Int32)  : kM l yX6_vote wk_c_X6_vote 8 142 1 6 D kStr e0 [] [(pa, .inr (11, [.ref prl, .int 0, .ref ppc, .int 0, .ref ppg, .ref ppl, .ref ped, .int 0]))] [.ref pa, .int a1, .int a2, .int a3] (fun _ _ _ => False) (fun E => E = "java/lang/IndexOutOfBoundsException") := by
  refine k_of (cc := cX6_vote) (maxL := 5) (ret := (some .int)) (by decide) rfl (Nat.le_of_ble_eq_true rfl) ?_
  intro p e s m args below meth c A ls hx hb hr hts hown hlocks hml hex hh hl
  have hown : s.vm.findClass RX6 = some m.cls := hown
  have hl : lv_has ls 5 [(0, .ref pa), (1, .int a1), (2, .int a2), (3, .int a3)] := hl
  refine lv_aload_n hx hb dX6_vote_0 rfl (lv_at hl 0 rfl) ?_
  refine lv_iload_n hx hb dX6_vote_1 rfl (lv_at hl 1 rfl) ?_
  refine k_callV (C := RX6) (T := TX6) (N := 8) (ci := 11) (q0 := 0) (wr := []) (rest := []) (own := RX6) ⟨hx, hb, hml, hown, hts⟩ (c_X6_knownEdition l hst D e0 pa prl ppc ppg ppl ped a1 ) (cwV 1 hts gi_c_X6_vote_0 rfl rfl rfl (by decide +kernel) ⟨Nat.le_of_ble_eq_true rfl, Nat.le_of_ble_eq_true rfl⟩) hh rfl rfl [0] [] [] rfl rfl rfl rfl (by decide) rfl rfl hl rfl (Nat.le_of_ble_eq_true rfl) dX6_vote_2 ⟨Nat.le_of_ble_eq_true rfl, (Nat.le_of_ble_eq_true rfl)⟩ (fun E ce q9 H locs hE hh hq hv hcl => ?_) (fun _ _ _ _ _ h _ => h.elim)
  exact k_out hex hlocks hE hh hq hv hcl (Nat.le_of_ble_eq_true rfl) (Nat.le_of_ble_eq_true rfl)
def wo_c_X6_meanMark : List Cond := []
def wk_c_X6_meanMark : List Cond := Cond.code yX6_meanMark cX6_meanMark 3 (some .double) :: (wo_c_X6_meanMark ++ (wsV RX6 248 RX6 yX6_knownEdition wk_c_X6_knownEdition))
theorem wo_c_X6_meanMark_in : ∀ w ∈ wo_c_X6_meanMark, w ∈ wk_c_X6_meanMark := fun w h => List.mem_cons_of_mem _ (List.mem_append_left _ h)
theorem gi_c_X6_meanMark_0 : GoodIn wk_c_X6_meanMark (wsV RX6 248 RX6 yX6_knownEdition wk_c_X6_knownEdition) := fun w h => ⟨List.mem_cons_of_mem _ (List.mem_append_right _ h), good_of_word (kg_V gk_c_X6_knownEdition w h)⟩
theorem gk_c_X6_meanMark : ∀ w ∈ wk_c_X6_meanMark, goodWord w = true := List.forall_mem_cons.mpr ⟨rfl, (List.forall_mem_append.mpr ⟨(show ∀ w ∈ wo_c_X6_meanMark, goodWord w = true by decide +kernel), (kg_V gk_c_X6_knownEdition)⟩)⟩
set_option maxHeartbeats 4000000 in
set_option maxRecDepth 100000 in
theorem c_X6_meanMark (l : Launch) (hst : l.stackTraces = false) (D : va_G) (e0 : kE) (pa : Nat) (prl : Nat) (ppc : Nat) (ppg : Nat) (ppl : Nat) (ped : Nat) (a1 : Int32)  : kM l yX6_meanMark wk_c_X6_meanMark 8 142 1 6 D kStr e0 [] [(pa, .inr (11, [.ref prl, .int 0, .ref ppc, .int 0, .ref ppg, .ref ppl, .ref ped, .int 0]))] [.ref pa, .int a1] (fun _ _ _ => False) (fun E => E = "java/lang/IndexOutOfBoundsException") := by
  refine k_of (cc := cX6_meanMark) (maxL := 3) (ret := (some .double)) (by decide) rfl (Nat.le_of_ble_eq_true rfl) ?_
  intro p e s m args below meth c A ls hx hb hr hts hown hlocks hml hex hh hl
  have hown : s.vm.findClass RX6 = some m.cls := hown
  have hl : lv_has ls 3 [(0, .ref pa), (1, .int a1)] := hl
  refine lv_aload_n hx hb dX6_meanMark_0 rfl (lv_at hl 0 rfl) ?_
  refine lv_iload_n hx hb dX6_meanMark_1 rfl (lv_at hl 1 rfl) ?_
  refine k_callV (C := RX6) (T := TX6) (N := 8) (ci := 11) (q0 := 0) (wr := []) (rest := []) (own := RX6) ⟨hx, hb, hml, hown, hts⟩ (c_X6_knownEdition l hst D e0 pa prl ppc ppg ppl ped a1 ) (cwV 1 hts gi_c_X6_meanMark_0 rfl rfl rfl (by decide +kernel) ⟨Nat.le_of_ble_eq_true rfl, Nat.le_of_ble_eq_true rfl⟩) hh rfl rfl [0] [] [] rfl rfl rfl rfl (by decide) rfl rfl hl rfl (Nat.le_of_ble_eq_true rfl) dX6_meanMark_2 ⟨Nat.le_of_ble_eq_true rfl, (Nat.le_of_ble_eq_true rfl)⟩ (fun E ce q9 H locs hE hh hq hv hcl => ?_) (fun _ _ _ _ _ h _ => h.elim)
  exact k_out hex hlocks hE hh hq hv hcl (Nat.le_of_ble_eq_true rfl) (Nat.le_of_ble_eq_true rfl)
def wo_c_X6_lock : List Cond := []
def wk_c_X6_lock : List Cond := Cond.code yX6_lock cX6_lock 5 (some .boolean) :: (wo_c_X6_lock ++ (wsV RX6 147 RX6 yX6_knownItem wk_c_X6_knownItem))
theorem wo_c_X6_lock_in : ∀ w ∈ wo_c_X6_lock, w ∈ wk_c_X6_lock := fun w h => List.mem_cons_of_mem _ (List.mem_append_left _ h)
theorem gi_c_X6_lock_0 : GoodIn wk_c_X6_lock (wsV RX6 147 RX6 yX6_knownItem wk_c_X6_knownItem) := fun w h => ⟨List.mem_cons_of_mem _ (List.mem_append_right _ h), good_of_word (kg_V gk_c_X6_knownItem w h)⟩
theorem gk_c_X6_lock : ∀ w ∈ wk_c_X6_lock, goodWord w = true := List.forall_mem_cons.mpr ⟨rfl, (List.forall_mem_append.mpr ⟨(show ∀ w ∈ wo_c_X6_lock, goodWord w = true by decide +kernel), (kg_V gk_c_X6_knownItem)⟩)⟩
set_option maxHeartbeats 4000000 in
set_option maxRecDepth 100000 in
theorem c_X6_lock (l : Launch) (hst : l.stackTraces = false) (D : va_G) (e0 : kE) (pa : Nat) (prl : Nat) (ppc : Nat) (ppg : Nat) (ppl : Nat) (ped : Nat) (pg1 : Nat) (pg2 : Nat) (pg3 : Nat) (pg4 : Nat) (a1 : Int32) (a2 : Int32)  : kM l yX6_lock wk_c_X6_lock 8 142 1 6 D kStr e0 [] [(pa, .inr (11, [.ref prl, .int 0, .ref ppc, .int 0, .ref ppg, .ref ppl, .ref ped, .int 0])), (ppg, .inr (9, [.ref pg1, .int 0, .ref pg2, .int 0, .ref pg3, .ref pg4]))] [.ref pa, .int a1, .int a2] (fun _ _ _ => False) (fun E => E = "java/lang/IndexOutOfBoundsException") := by
  refine k_of (cc := cX6_lock) (maxL := 5) (ret := (some .boolean)) (by decide) rfl (Nat.le_of_ble_eq_true rfl) ?_
  intro p e s m args below meth c A ls hx hb hr hts hown hlocks hml hex hh hl
  have hown : s.vm.findClass RX6 = some m.cls := hown
  have hl : lv_has ls 5 [(0, .ref pa), (1, .int a1), (2, .int a2)] := hl
  refine lv_aload_n hx hb dX6_lock_0 rfl (lv_at hl 0 rfl) ?_
  refine lv_iload_n hx hb dX6_lock_1 rfl (lv_at hl 1 rfl) ?_
  refine k_callV (C := RX6) (T := TX6) (N := 8) (ci := 11) (q0 := 0) (wr := []) (rest := []) (own := RX6) ⟨hx, hb, hml, hown, hts⟩ (c_X6_knownItem l hst D e0 pa prl ppc ppg ppl ped pg1 pg2 pg3 pg4 a1 ) (cwV 1 hts gi_c_X6_lock_0 rfl rfl rfl (by decide +kernel) ⟨Nat.le_of_ble_eq_true rfl, Nat.le_of_ble_eq_true rfl⟩) hh rfl rfl [0, 1] [] [] rfl rfl rfl rfl (by decide) rfl rfl hl rfl (Nat.le_of_ble_eq_true rfl) dX6_lock_2 ⟨Nat.le_of_ble_eq_true rfl, (Nat.le_of_ble_eq_true rfl)⟩ (fun E ce q9 H locs hE hh hq hv hcl => ?_) (fun _ _ _ _ _ h _ => h.elim)
  exact k_out hex hlocks hE hh hq hv hcl (Nat.le_of_ble_eq_true rfl) (Nat.le_of_ble_eq_true rfl)
def wo_c_X6_replace : List Cond := []
def wk_c_X6_replace : List Cond := Cond.code yX6_replace cX6_replace 6 (some .int) :: (wo_c_X6_replace ++ (wsV RX6 147 RX6 yX6_knownItem wk_c_X6_knownItem))
theorem wo_c_X6_replace_in : ∀ w ∈ wo_c_X6_replace, w ∈ wk_c_X6_replace := fun w h => List.mem_cons_of_mem _ (List.mem_append_left _ h)
theorem gi_c_X6_replace_0 : GoodIn wk_c_X6_replace (wsV RX6 147 RX6 yX6_knownItem wk_c_X6_knownItem) := fun w h => ⟨List.mem_cons_of_mem _ (List.mem_append_right _ h), good_of_word (kg_V gk_c_X6_knownItem w h)⟩
theorem gk_c_X6_replace : ∀ w ∈ wk_c_X6_replace, goodWord w = true := List.forall_mem_cons.mpr ⟨rfl, (List.forall_mem_append.mpr ⟨(show ∀ w ∈ wo_c_X6_replace, goodWord w = true by decide +kernel), (kg_V gk_c_X6_knownItem)⟩)⟩
set_option maxHeartbeats 4000000 in
set_option maxRecDepth 100000 in
theorem c_X6_replace (l : Launch) (hst : l.stackTraces = false) (D : va_G) (e0 : kE) (pa : Nat) (prl : Nat) (ppc : Nat) (ppg : Nat) (ppl : Nat) (ped : Nat) (pg1 : Nat) (pg2 : Nat) (pg3 : Nat) (pg4 : Nat) (a1 : Int32) (a2 : Int32)  : kM l yX6_replace wk_c_X6_replace 8 142 1 6 D kStr e0 [] [(pa, .inr (11, [.ref prl, .int 0, .ref ppc, .int 0, .ref ppg, .ref ppl, .ref ped, .int 0])), (ppg, .inr (9, [.ref pg1, .int 0, .ref pg2, .int 0, .ref pg3, .ref pg4]))] [.ref pa, .int a1, .int a2] (fun _ _ _ => False) (fun E => E = "java/lang/IndexOutOfBoundsException") := by
  refine k_of (cc := cX6_replace) (maxL := 6) (ret := (some .int)) (by decide) rfl (Nat.le_of_ble_eq_true rfl) ?_
  intro p e s m args below meth c A ls hx hb hr hts hown hlocks hml hex hh hl
  have hown : s.vm.findClass RX6 = some m.cls := hown
  have hl : lv_has ls 6 [(0, .ref pa), (1, .int a1), (2, .int a2)] := hl
  refine lv_aload_n hx hb dX6_replace_0 rfl (lv_at hl 0 rfl) ?_
  refine lv_iload_n hx hb dX6_replace_1 rfl (lv_at hl 1 rfl) ?_
  refine k_callV (C := RX6) (T := TX6) (N := 8) (ci := 11) (q0 := 0) (wr := []) (rest := []) (own := RX6) ⟨hx, hb, hml, hown, hts⟩ (c_X6_knownItem l hst D e0 pa prl ppc ppg ppl ped pg1 pg2 pg3 pg4 a1 ) (cwV 1 hts gi_c_X6_replace_0 rfl rfl rfl (by decide +kernel) ⟨Nat.le_of_ble_eq_true rfl, Nat.le_of_ble_eq_true rfl⟩) hh rfl rfl [0, 1] [] [] rfl rfl rfl rfl (by decide) rfl rfl hl rfl (Nat.le_of_ble_eq_true rfl) dX6_replace_2 ⟨Nat.le_of_ble_eq_true rfl, (Nat.le_of_ble_eq_true rfl)⟩ (fun E ce q9 H locs hE hh hq hv hcl => ?_) (fun _ _ _ _ _ h _ => h.elim)
  exact k_out hex hlocks hE hh hq hv hcl (Nat.le_of_ble_eq_true rfl) (Nat.le_of_ble_eq_true rfl)
def wo_c_X6_startOf : List Cond := []
def wk_c_X6_startOf : List Cond := Cond.code yX6_startOf cX6_startOf 3 (some .int) :: (wo_c_X6_startOf ++ (wsV RX6 147 RX6 yX6_knownItem wk_c_X6_knownItem))
theorem wo_c_X6_startOf_in : ∀ w ∈ wo_c_X6_startOf, w ∈ wk_c_X6_startOf := fun w h => List.mem_cons_of_mem _ (List.mem_append_left _ h)
theorem gi_c_X6_startOf_0 : GoodIn wk_c_X6_startOf (wsV RX6 147 RX6 yX6_knownItem wk_c_X6_knownItem) := fun w h => ⟨List.mem_cons_of_mem _ (List.mem_append_right _ h), good_of_word (kg_V gk_c_X6_knownItem w h)⟩
theorem gk_c_X6_startOf : ∀ w ∈ wk_c_X6_startOf, goodWord w = true := List.forall_mem_cons.mpr ⟨rfl, (List.forall_mem_append.mpr ⟨(show ∀ w ∈ wo_c_X6_startOf, goodWord w = true by decide +kernel), (kg_V gk_c_X6_knownItem)⟩)⟩
set_option maxHeartbeats 4000000 in
set_option maxRecDepth 100000 in
theorem c_X6_startOf (l : Launch) (hst : l.stackTraces = false) (D : va_G) (e0 : kE) (pa : Nat) (prl : Nat) (ppc : Nat) (ppg : Nat) (ppl : Nat) (ped : Nat) (pg1 : Nat) (pg2 : Nat) (pg3 : Nat) (pg4 : Nat) (a1 : Int32)  : kM l yX6_startOf wk_c_X6_startOf 8 142 1 6 D kStr e0 [] [(pa, .inr (11, [.ref prl, .int 0, .ref ppc, .int 0, .ref ppg, .ref ppl, .ref ped, .int 0])), (ppg, .inr (9, [.ref pg1, .int 0, .ref pg2, .int 0, .ref pg3, .ref pg4]))] [.ref pa, .int a1] (fun _ _ _ => False) (fun E => E = "java/lang/IndexOutOfBoundsException") := by
  refine k_of (cc := cX6_startOf) (maxL := 3) (ret := (some .int)) (by decide) rfl (Nat.le_of_ble_eq_true rfl) ?_
  intro p e s m args below meth c A ls hx hb hr hts hown hlocks hml hex hh hl
  have hown : s.vm.findClass RX6 = some m.cls := hown
  have hl : lv_has ls 3 [(0, .ref pa), (1, .int a1)] := hl
  refine lv_aload_n hx hb dX6_startOf_0 rfl (lv_at hl 0 rfl) ?_
  refine lv_iload_n hx hb dX6_startOf_1 rfl (lv_at hl 1 rfl) ?_
  refine k_callV (C := RX6) (T := TX6) (N := 8) (ci := 11) (q0 := 0) (wr := []) (rest := []) (own := RX6) ⟨hx, hb, hml, hown, hts⟩ (c_X6_knownItem l hst D e0 pa prl ppc ppg ppl ped pg1 pg2 pg3 pg4 a1 ) (cwV 1 hts gi_c_X6_startOf_0 rfl rfl rfl (by decide +kernel) ⟨Nat.le_of_ble_eq_true rfl, Nat.le_of_ble_eq_true rfl⟩) hh rfl rfl [0, 1] [] [] rfl rfl rfl rfl (by decide) rfl rfl hl rfl (Nat.le_of_ble_eq_true rfl) dX6_startOf_2 ⟨Nat.le_of_ble_eq_true rfl, (Nat.le_of_ble_eq_true rfl)⟩ (fun E ce q9 H locs hE hh hq hv hcl => ?_) (fun _ _ _ _ _ h _ => h.elim)
  exact k_out hex hlocks hE hh hq hv hcl (Nat.le_of_ble_eq_true rfl) (Nat.le_of_ble_eq_true rfl)
def wo_c_X6_sideOf : List Cond := []
def wk_c_X6_sideOf : List Cond := Cond.code yX6_sideOf cX6_sideOf 3 (some .int) :: (wo_c_X6_sideOf ++ (wsV RX6 147 RX6 yX6_knownItem wk_c_X6_knownItem))
theorem wo_c_X6_sideOf_in : ∀ w ∈ wo_c_X6_sideOf, w ∈ wk_c_X6_sideOf := fun w h => List.mem_cons_of_mem _ (List.mem_append_left _ h)
theorem gi_c_X6_sideOf_0 : GoodIn wk_c_X6_sideOf (wsV RX6 147 RX6 yX6_knownItem wk_c_X6_knownItem) := fun w h => ⟨List.mem_cons_of_mem _ (List.mem_append_right _ h), good_of_word (kg_V gk_c_X6_knownItem w h)⟩
theorem gk_c_X6_sideOf : ∀ w ∈ wk_c_X6_sideOf, goodWord w = true := List.forall_mem_cons.mpr ⟨rfl, (List.forall_mem_append.mpr ⟨(show ∀ w ∈ wo_c_X6_sideOf, goodWord w = true by decide +kernel), (kg_V gk_c_X6_knownItem)⟩)⟩
set_option maxHeartbeats 4000000 in
set_option maxRecDepth 100000 in
theorem c_X6_sideOf (l : Launch) (hst : l.stackTraces = false) (D : va_G) (e0 : kE) (pa : Nat) (prl : Nat) (ppc : Nat) (ppg : Nat) (ppl : Nat) (ped : Nat) (pg1 : Nat) (pg2 : Nat) (pg3 : Nat) (pg4 : Nat) (a1 : Int32) (a2 : Int32)  : kM l yX6_sideOf wk_c_X6_sideOf 8 142 1 6 D kStr e0 [] [(pa, .inr (11, [.ref prl, .int 0, .ref ppc, .int 0, .ref ppg, .ref ppl, .ref ped, .int 0])), (ppg, .inr (9, [.ref pg1, .int 0, .ref pg2, .int 0, .ref pg3, .ref pg4]))] [.ref pa, .int a1, .int a2] (fun _ _ _ => False) (fun E => E = "java/lang/IndexOutOfBoundsException") := by
  refine k_of (cc := cX6_sideOf) (maxL := 3) (ret := (some .int)) (by decide) rfl (Nat.le_of_ble_eq_true rfl) ?_
  intro p e s m args below meth c A ls hx hb hr hts hown hlocks hml hex hh hl
  have hown : s.vm.findClass RX6 = some m.cls := hown
  have hl : lv_has ls 3 [(0, .ref pa), (1, .int a1), (2, .int a2)] := hl
  refine lv_aload_n hx hb dX6_sideOf_0 rfl (lv_at hl 0 rfl) ?_
  refine lv_iload_n hx hb dX6_sideOf_1 rfl (lv_at hl 1 rfl) ?_
  refine k_callV (C := RX6) (T := TX6) (N := 8) (ci := 11) (q0 := 0) (wr := []) (rest := []) (own := RX6) ⟨hx, hb, hml, hown, hts⟩ (c_X6_knownItem l hst D e0 pa prl ppc ppg ppl ped pg1 pg2 pg3 pg4 a1 ) (cwV 1 hts gi_c_X6_sideOf_0 rfl rfl rfl (by decide +kernel) ⟨Nat.le_of_ble_eq_true rfl, Nat.le_of_ble_eq_true rfl⟩) hh rfl rfl [0, 1] [] [] rfl rfl rfl rfl (by decide) rfl rfl hl rfl (Nat.le_of_ble_eq_true rfl) dX6_sideOf_2 ⟨Nat.le_of_ble_eq_true rfl, (Nat.le_of_ble_eq_true rfl)⟩ (fun E ce q9 H locs hE hh hq hv hcl => ?_) (fun _ _ _ _ _ h _ => h.elim)
  exact k_out hex hlocks hE hh hq hv hcl (Nat.le_of_ble_eq_true rfl) (Nat.le_of_ble_eq_true rfl)
def wo_c_X6_split : List Cond := []
def wk_c_X6_split : List Cond := Cond.code yX6_split cX6_split 6 (some .int) :: (wo_c_X6_split ++ (wsV RX6 147 RX6 yX6_knownItem wk_c_X6_knownItem))
theorem wo_c_X6_split_in : ∀ w ∈ wo_c_X6_split, w ∈ wk_c_X6_split := fun w h => List.mem_cons_of_mem _ (List.mem_append_left _ h)
theorem gi_c_X6_split_0 : GoodIn wk_c_X6_split (wsV RX6 147 RX6 yX6_knownItem wk_c_X6_knownItem) := fun w h => ⟨List.mem_cons_of_mem _ (List.mem_append_right _ h), good_of_word (kg_V gk_c_X6_knownItem w h)⟩
theorem gk_c_X6_split : ∀ w ∈ wk_c_X6_split, goodWord w = true := List.forall_mem_cons.mpr ⟨rfl, (List.forall_mem_append.mpr ⟨(show ∀ w ∈ wo_c_X6_split, goodWord w = true by decide +kernel), (kg_V gk_c_X6_knownItem)⟩)⟩
set_option maxHeartbeats 4000000 in
set_option maxRecDepth 100000 in
theorem c_X6_split (l : Launch) (hst : l.stackTraces = false) (D : va_G) (e0 : kE) (pa : Nat) (prl : Nat) (ppc : Nat) (ppg : Nat) (ppl : Nat) (ped : Nat) (pg1 : Nat) (pg2 : Nat) (pg3 : Nat) (pg4 : Nat) (a1 : Int32) (a2 : Int32) (a3 : Int32)  : kM l yX6_split wk_c_X6_split 8 142 1 6 D kStr e0 [] [(pa, .inr (11, [.ref prl, .int 0, .ref ppc, .int 0, .ref ppg, .ref ppl, .ref ped, .int 0])), (ppg, .inr (9, [.ref pg1, .int 0, .ref pg2, .int 0, .ref pg3, .ref pg4]))] [.ref pa, .int a1, .int a2, .int a3] (fun _ _ _ => False) (fun E => E = "java/lang/IndexOutOfBoundsException") := by
  refine k_of (cc := cX6_split) (maxL := 6) (ret := (some .int)) (by decide) rfl (Nat.le_of_ble_eq_true rfl) ?_
  intro p e s m args below meth c A ls hx hb hr hts hown hlocks hml hex hh hl
  have hown : s.vm.findClass RX6 = some m.cls := hown
  have hl : lv_has ls 6 [(0, .ref pa), (1, .int a1), (2, .int a2), (3, .int a3)] := hl
  refine lv_aload_n hx hb dX6_split_0 rfl (lv_at hl 0 rfl) ?_
  refine lv_iload_n hx hb dX6_split_1 rfl (lv_at hl 1 rfl) ?_
  refine k_callV (C := RX6) (T := TX6) (N := 8) (ci := 11) (q0 := 0) (wr := []) (rest := []) (own := RX6) ⟨hx, hb, hml, hown, hts⟩ (c_X6_knownItem l hst D e0 pa prl ppc ppg ppl ped pg1 pg2 pg3 pg4 a1 ) (cwV 1 hts gi_c_X6_split_0 rfl rfl rfl (by decide +kernel) ⟨Nat.le_of_ble_eq_true rfl, Nat.le_of_ble_eq_true rfl⟩) hh rfl rfl [0, 1] [] [] rfl rfl rfl rfl (by decide) rfl rfl hl rfl (Nat.le_of_ble_eq_true rfl) dX6_split_2 ⟨Nat.le_of_ble_eq_true rfl, (Nat.le_of_ble_eq_true rfl)⟩ (fun E ce q9 H locs hE hh hq hv hcl => ?_) (fun _ _ _ _ _ h _ => h.elim)
  exact k_out hex hlocks hE hh hq hv hcl (Nat.le_of_ble_eq_true rfl) (Nat.le_of_ble_eq_true rfl)
def wo_c_X6_play : List Cond := []
def wk_c_X6_play : List Cond := Cond.code yX6_play cX6_play 4 (some .int) :: (wo_c_X6_play ++ (wsV RX6 147 RX6 yX6_knownItem wk_c_X6_knownItem))
theorem wo_c_X6_play_in : ∀ w ∈ wo_c_X6_play, w ∈ wk_c_X6_play := fun w h => List.mem_cons_of_mem _ (List.mem_append_left _ h)
theorem gi_c_X6_play_0 : GoodIn wk_c_X6_play (wsV RX6 147 RX6 yX6_knownItem wk_c_X6_knownItem) := fun w h => ⟨List.mem_cons_of_mem _ (List.mem_append_right _ h), good_of_word (kg_V gk_c_X6_knownItem w h)⟩
theorem gk_c_X6_play : ∀ w ∈ wk_c_X6_play, goodWord w = true := List.forall_mem_cons.mpr ⟨rfl, (List.forall_mem_append.mpr ⟨(show ∀ w ∈ wo_c_X6_play, goodWord w = true by decide +kernel), (kg_V gk_c_X6_knownItem)⟩)⟩
set_option maxHeartbeats 4000000 in
set_option maxRecDepth 100000 in
theorem c_X6_play (l : Launch) (hst : l.stackTraces = false) (D : va_G) (e0 : kE) (pa : Nat) (prl : Nat) (ppc : Nat) (ppg : Nat) (ppl : Nat) (ped : Nat) (pg1 : Nat) (pg2 : Nat) (pg3 : Nat) (pg4 : Nat) (a1 : Int32) (a2 : Int32)  : kM l yX6_play wk_c_X6_play 8 142 1 6 D kStr e0 [] [(pa, .inr (11, [.ref prl, .int 0, .ref ppc, .int 0, .ref ppg, .ref ppl, .ref ped, .int 0])), (ppg, .inr (9, [.ref pg1, .int 0, .ref pg2, .int 0, .ref pg3, .ref pg4]))] [.ref pa, .int a1, .int a2] (fun _ _ _ => False) (fun E => E = "java/lang/IndexOutOfBoundsException") := by
  refine k_of (cc := cX6_play) (maxL := 4) (ret := (some .int)) (by decide) rfl (Nat.le_of_ble_eq_true rfl) ?_
  intro p e s m args below meth c A ls hx hb hr hts hown hlocks hml hex hh hl
  have hown : s.vm.findClass RX6 = some m.cls := hown
  have hl : lv_has ls 4 [(0, .ref pa), (1, .int a1), (2, .int a2)] := hl
  refine lv_aload_n hx hb dX6_play_0 rfl (lv_at hl 0 rfl) ?_
  refine lv_iload_n hx hb dX6_play_1 rfl (lv_at hl 1 rfl) ?_
  refine k_callV (C := RX6) (T := TX6) (N := 8) (ci := 11) (q0 := 0) (wr := []) (rest := []) (own := RX6) ⟨hx, hb, hml, hown, hts⟩ (c_X6_knownItem l hst D e0 pa prl ppc ppg ppl ped pg1 pg2 pg3 pg4 a1 ) (cwV 1 hts gi_c_X6_play_0 rfl rfl rfl (by decide +kernel) ⟨Nat.le_of_ble_eq_true rfl, Nat.le_of_ble_eq_true rfl⟩) hh rfl rfl [0, 1] [] [] rfl rfl rfl rfl (by decide) rfl rfl hl rfl (Nat.le_of_ble_eq_true rfl) dX6_play_2 ⟨Nat.le_of_ble_eq_true rfl, (Nat.le_of_ble_eq_true rfl)⟩ (fun E ce q9 H locs hE hh hq hv hcl => ?_) (fun _ _ _ _ _ h _ => h.elim)
  exact k_out hex hlocks hE hh hq hv hcl (Nat.le_of_ble_eq_true rfl) (Nat.le_of_ble_eq_true rfl)
def wo_c_X6_failedAt : List Cond := [Cond.fieldLink RX6 31 "Segueworks" "plant" "LSegueworks$Plant;", Cond.fieldLink RX6 181 "Segueworks$Plant" "lacquerCount" "I"]
def wk_c_X6_failedAt : List Cond := Cond.code yX6_failedAt cX6_failedAt 2 (some .int) :: (wo_c_X6_failedAt ++ ((u_ws RX6 TX6 8) ++ ((u_ws RX3 TX3 11) ++ (va_wsS RX6 193 yX6_needIndex wk_c_X6_needIndex))))
theorem wo_c_X6_failedAt_in : ∀ w ∈ wo_c_X6_failedAt, w ∈ wk_c_X6_failedAt := fun w h => List.mem_cons_of_mem _ (List.mem_append_left _ h)
theorem ws_c_X6_failedAt_0 : ∀ w ∈ u_ws RX6 TX6 8, w ∈ wk_c_X6_failedAt := fun w h => List.mem_cons_of_mem _ (List.mem_append_right _ (List.mem_append_left _ h))
theorem ws_c_X6_failedAt_1 : ∀ w ∈ u_ws RX3 TX3 11, w ∈ wk_c_X6_failedAt := fun w h => List.mem_cons_of_mem _ (List.mem_append_right _ (List.mem_append_right _ (List.mem_append_left _ h)))
theorem gi_c_X6_failedAt_2 : GoodIn wk_c_X6_failedAt (va_wsS RX6 193 yX6_needIndex wk_c_X6_needIndex) := fun w h => ⟨List.mem_cons_of_mem _ (List.mem_append_right _ (List.mem_append_right _ (List.mem_append_right _ h))), good_of_word (kg_S gk_c_X6_needIndex w h)⟩
theorem gk_c_X6_failedAt : ∀ w ∈ wk_c_X6_failedAt, goodWord w = true := List.forall_mem_cons.mpr ⟨rfl, (List.forall_mem_append.mpr ⟨(show ∀ w ∈ wo_c_X6_failedAt, goodWord w = true by decide +kernel), (List.forall_mem_append.mpr ⟨(show ∀ w ∈ u_ws RX6 TX6 8, goodWord w = true by decide +kernel), (List.forall_mem_append.mpr ⟨(show ∀ w ∈ u_ws RX3 TX3 11, goodWord w = true by decide +kernel), (kg_S gk_c_X6_needIndex)⟩)⟩)⟩)⟩
set_option maxHeartbeats 4000000 in
set_option maxRecDepth 100000 in
theorem c_X6_failedAt (l : Launch) (hst : l.stackTraces = false) (D : va_G) (e0 : kE) (pa : Nat) (prl : Nat) (ppc : Nat) (ppg : Nat) (ppl : Nat) (ped : Nat) (pl1 : Nat) (pl2 : Nat) (pl3 : Nat) (pl4 : Nat) (pl5 : Nat) (a1 : Int32)  : kM l yX6_failedAt wk_c_X6_failedAt 7 121 1 6 D kStr e0 [] [(pa, .inr (11, [.ref prl, .int 0, .ref ppc, .int 0, .ref ppg, .ref ppl, .ref ped, .int 0])), (ppl, .inr (8, [.ref pl1, .ref pl2, .int 0, .ref pl3, .int 0, .ref pl4, .int 0, .ref pl5, .int 0, .int 0, .int 0]))] [.ref pa, .int a1] (fun _ _ _ => False) (fun E => E = "java/lang/IndexOutOfBoundsException") := by
  refine k_of (cc := cX6_failedAt) (maxL := 2) (ret := (some .int)) (by decide) rfl (Nat.le_of_ble_eq_true rfl) ?_
  intro p e s m args below meth c A ls hx hb hr hts hown hlocks hml hex hh hl
  have hown : s.vm.findClass RX6 = some m.cls := hown
  have hl : lv_has ls 2 [(0, .ref pa), (1, .int a1)] := hl
  refine lv_iload_n hx hb dX6_failedAt_0 rfl (lv_at hl 1 rfl) ?_
  refine lv_aload_n hx hb dX6_failedAt_1 rfl (lv_at hl 0 rfl) ?_
  refine k_get (C := RX6) (T := TX6) (N := 8) (ci := 11) (v := .ref ppl) hx hb hts ws_c_X6_failedAt_0 hown hh 0 rfl rfl 5 (by decide) (hts _ (wo_c_X6_failedAt_in _ (List.mem_of_getElem? (i := 0) rfl))) rfl dX6_failedAt_2 ?_
  refine k_get (C := RX3) (T := TX3) (N := 11) (ci := 8) (v := .int 0) hx hb hts ws_c_X6_failedAt_1 hown hh 1 rfl rfl 2 (by decide) (hts _ (wo_c_X6_failedAt_in _ (List.mem_of_getElem? (i := 1) rfl))) rfl dX6_failedAt_5 ?_
  refine k_callS (wr := [(pa, .inr (11, [.ref prl, .int 0, .ref ppc, .int 0, .ref ppg, .ref ppl, .ref ped, .int 0])), (ppl, .inr (8, [.ref pl1, .ref pl2, .int 0, .ref pl3, .int 0, .ref pl4, .int 0, .ref pl5, .int 0, .int 0, .int 0]))]) (rest := []) (own := RX6) ⟨hx, hb, hml, hown, hts⟩ (c_X6_needIndex l hst D e0 a1 ) (va_cwS 2 hts gi_c_X6_failedAt_2 rfl rfl rfl (by decide +kernel) ⟨Nat.le_of_ble_eq_true rfl, Nat.le_of_ble_eq_true rfl⟩) hh [] [0, 1] [] rfl rfl rfl rfl (by decide) rfl rfl hl rfl (Nat.le_of_ble_eq_true rfl) dX6_failedAt_8 ⟨Nat.le_of_ble_eq_true rfl, (Nat.le_of_ble_eq_true rfl)⟩ (fun E ce q9 H locs hE hh hq hv hcl => ?_) (fun _ _ _ _ _ h _ => h.elim)
  exact k_out hex hlocks hE hh hq hv hcl (Nat.le_of_ble_eq_true rfl) (Nat.le_of_ble_eq_true rfl)
def wo_c_X6_father : List Cond := [Cond.fieldLink RX6 31 "Segueworks" "plant" "LSegueworks$Plant;", Cond.fieldLink RX6 181 "Segueworks$Plant" "lacquerCount" "I"]
def wk_c_X6_father : List Cond := Cond.code yX6_father cX6_father 2 (some .int) :: (wo_c_X6_father ++ ((u_ws RX6 TX6 8) ++ ((u_ws RX3 TX3 11) ++ (va_wsS RX6 193 yX6_needIndex wk_c_X6_needIndex))))
theorem wo_c_X6_father_in : ∀ w ∈ wo_c_X6_father, w ∈ wk_c_X6_father := fun w h => List.mem_cons_of_mem _ (List.mem_append_left _ h)
theorem ws_c_X6_father_0 : ∀ w ∈ u_ws RX6 TX6 8, w ∈ wk_c_X6_father := fun w h => List.mem_cons_of_mem _ (List.mem_append_right _ (List.mem_append_left _ h))
theorem ws_c_X6_father_1 : ∀ w ∈ u_ws RX3 TX3 11, w ∈ wk_c_X6_father := fun w h => List.mem_cons_of_mem _ (List.mem_append_right _ (List.mem_append_right _ (List.mem_append_left _ h)))
theorem gi_c_X6_father_2 : GoodIn wk_c_X6_father (va_wsS RX6 193 yX6_needIndex wk_c_X6_needIndex) := fun w h => ⟨List.mem_cons_of_mem _ (List.mem_append_right _ (List.mem_append_right _ (List.mem_append_right _ h))), good_of_word (kg_S gk_c_X6_needIndex w h)⟩
theorem gk_c_X6_father : ∀ w ∈ wk_c_X6_father, goodWord w = true := List.forall_mem_cons.mpr ⟨rfl, (List.forall_mem_append.mpr ⟨(show ∀ w ∈ wo_c_X6_father, goodWord w = true by decide +kernel), (List.forall_mem_append.mpr ⟨(show ∀ w ∈ u_ws RX6 TX6 8, goodWord w = true by decide +kernel), (List.forall_mem_append.mpr ⟨(show ∀ w ∈ u_ws RX3 TX3 11, goodWord w = true by decide +kernel), (kg_S gk_c_X6_needIndex)⟩)⟩)⟩)⟩
set_option maxHeartbeats 4000000 in
set_option maxRecDepth 100000 in
theorem c_X6_father (l : Launch) (hst : l.stackTraces = false) (D : va_G) (e0 : kE) (pa : Nat) (prl : Nat) (ppc : Nat) (ppg : Nat) (ppl : Nat) (ped : Nat) (pl1 : Nat) (pl2 : Nat) (pl3 : Nat) (pl4 : Nat) (pl5 : Nat) (a1 : Int32)  : kM l yX6_father wk_c_X6_father 7 121 1 6 D kStr e0 [] [(pa, .inr (11, [.ref prl, .int 0, .ref ppc, .int 0, .ref ppg, .ref ppl, .ref ped, .int 0])), (ppl, .inr (8, [.ref pl1, .ref pl2, .int 0, .ref pl3, .int 0, .ref pl4, .int 0, .ref pl5, .int 0, .int 0, .int 0]))] [.ref pa, .int a1] (fun _ _ _ => False) (fun E => E = "java/lang/IndexOutOfBoundsException") := by
  refine k_of (cc := cX6_father) (maxL := 2) (ret := (some .int)) (by decide) rfl (Nat.le_of_ble_eq_true rfl) ?_
  intro p e s m args below meth c A ls hx hb hr hts hown hlocks hml hex hh hl
  have hown : s.vm.findClass RX6 = some m.cls := hown
  have hl : lv_has ls 2 [(0, .ref pa), (1, .int a1)] := hl
  refine lv_iload_n hx hb dX6_father_0 rfl (lv_at hl 1 rfl) ?_
  refine lv_aload_n hx hb dX6_father_1 rfl (lv_at hl 0 rfl) ?_
  refine k_get (C := RX6) (T := TX6) (N := 8) (ci := 11) (v := .ref ppl) hx hb hts ws_c_X6_father_0 hown hh 0 rfl rfl 5 (by decide) (hts _ (wo_c_X6_father_in _ (List.mem_of_getElem? (i := 0) rfl))) rfl dX6_father_2 ?_
  refine k_get (C := RX3) (T := TX3) (N := 11) (ci := 8) (v := .int 0) hx hb hts ws_c_X6_father_1 hown hh 1 rfl rfl 2 (by decide) (hts _ (wo_c_X6_father_in _ (List.mem_of_getElem? (i := 1) rfl))) rfl dX6_father_5 ?_
  refine k_callS (wr := [(pa, .inr (11, [.ref prl, .int 0, .ref ppc, .int 0, .ref ppg, .ref ppl, .ref ped, .int 0])), (ppl, .inr (8, [.ref pl1, .ref pl2, .int 0, .ref pl3, .int 0, .ref pl4, .int 0, .ref pl5, .int 0, .int 0, .int 0]))]) (rest := []) (own := RX6) ⟨hx, hb, hml, hown, hts⟩ (c_X6_needIndex l hst D e0 a1 ) (va_cwS 2 hts gi_c_X6_father_2 rfl rfl rfl (by decide +kernel) ⟨Nat.le_of_ble_eq_true rfl, Nat.le_of_ble_eq_true rfl⟩) hh [] [0, 1] [] rfl rfl rfl rfl (by decide) rfl rfl hl rfl (Nat.le_of_ble_eq_true rfl) dX6_father_8 ⟨Nat.le_of_ble_eq_true rfl, (Nat.le_of_ble_eq_true rfl)⟩ (fun E ce q9 H locs hE hh hq hv hcl => ?_) (fun _ _ _ _ _ h _ => h.elim)
  exact k_out hex hlocks hE hh hq hv hcl (Nat.le_of_ble_eq_true rfl) (Nat.le_of_ble_eq_true rfl)
def wo_c_X6_mother : List Cond := [Cond.fieldLink RX6 31 "Segueworks" "plant" "LSegueworks$Plant;", Cond.fieldLink RX6 208 "Segueworks$Plant" "fatherCount" "I"]
def wk_c_X6_mother : List Cond := Cond.code yX6_mother cX6_mother 2 (some .int) :: (wo_c_X6_mother ++ ((u_ws RX6 TX6 8) ++ ((u_ws RX3 TX3 11) ++ (va_wsS RX6 193 yX6_needIndex wk_c_X6_needIndex))))
theorem wo_c_X6_mother_in : ∀ w ∈ wo_c_X6_mother, w ∈ wk_c_X6_mother := fun w h => List.mem_cons_of_mem _ (List.mem_append_left _ h)
theorem ws_c_X6_mother_0 : ∀ w ∈ u_ws RX6 TX6 8, w ∈ wk_c_X6_mother := fun w h => List.mem_cons_of_mem _ (List.mem_append_right _ (List.mem_append_left _ h))
theorem ws_c_X6_mother_1 : ∀ w ∈ u_ws RX3 TX3 11, w ∈ wk_c_X6_mother := fun w h => List.mem_cons_of_mem _ (List.mem_append_right _ (List.mem_append_right _ (List.mem_append_left _ h)))
theorem gi_c_X6_mother_2 : GoodIn wk_c_X6_mother (va_wsS RX6 193 yX6_needIndex wk_c_X6_needIndex) := fun w h => ⟨List.mem_cons_of_mem _ (List.mem_append_right _ (List.mem_append_right _ (List.mem_append_right _ h))), good_of_word (kg_S gk_c_X6_needIndex w h)⟩
theorem gk_c_X6_mother : ∀ w ∈ wk_c_X6_mother, goodWord w = true := List.forall_mem_cons.mpr ⟨rfl, (List.forall_mem_append.mpr ⟨(show ∀ w ∈ wo_c_X6_mother, goodWord w = true by decide +kernel), (List.forall_mem_append.mpr ⟨(show ∀ w ∈ u_ws RX6 TX6 8, goodWord w = true by decide +kernel), (List.forall_mem_append.mpr ⟨(show ∀ w ∈ u_ws RX3 TX3 11, goodWord w = true by decide +kernel), (kg_S gk_c_X6_needIndex)⟩)⟩)⟩)⟩
set_option maxHeartbeats 4000000 in
set_option maxRecDepth 100000 in
theorem c_X6_mother (l : Launch) (hst : l.stackTraces = false) (D : va_G) (e0 : kE) (pa : Nat) (prl : Nat) (ppc : Nat) (ppg : Nat) (ppl : Nat) (ped : Nat) (pl1 : Nat) (pl2 : Nat) (pl3 : Nat) (pl4 : Nat) (pl5 : Nat) (a1 : Int32)  : kM l yX6_mother wk_c_X6_mother 7 121 1 6 D kStr e0 [] [(pa, .inr (11, [.ref prl, .int 0, .ref ppc, .int 0, .ref ppg, .ref ppl, .ref ped, .int 0])), (ppl, .inr (8, [.ref pl1, .ref pl2, .int 0, .ref pl3, .int 0, .ref pl4, .int 0, .ref pl5, .int 0, .int 0, .int 0]))] [.ref pa, .int a1] (fun _ _ _ => False) (fun E => E = "java/lang/IndexOutOfBoundsException") := by
  refine k_of (cc := cX6_mother) (maxL := 2) (ret := (some .int)) (by decide) rfl (Nat.le_of_ble_eq_true rfl) ?_
  intro p e s m args below meth c A ls hx hb hr hts hown hlocks hml hex hh hl
  have hown : s.vm.findClass RX6 = some m.cls := hown
  have hl : lv_has ls 2 [(0, .ref pa), (1, .int a1)] := hl
  refine lv_iload_n hx hb dX6_mother_0 rfl (lv_at hl 1 rfl) ?_
  refine lv_aload_n hx hb dX6_mother_1 rfl (lv_at hl 0 rfl) ?_
  refine k_get (C := RX6) (T := TX6) (N := 8) (ci := 11) (v := .ref ppl) hx hb hts ws_c_X6_mother_0 hown hh 0 rfl rfl 5 (by decide) (hts _ (wo_c_X6_mother_in _ (List.mem_of_getElem? (i := 0) rfl))) rfl dX6_mother_2 ?_
  refine k_get (C := RX3) (T := TX3) (N := 11) (ci := 8) (v := .int 0) hx hb hts ws_c_X6_mother_1 hown hh 1 rfl rfl 4 (by decide) (hts _ (wo_c_X6_mother_in _ (List.mem_of_getElem? (i := 1) rfl))) rfl dX6_mother_5 ?_
  refine k_callS (wr := [(pa, .inr (11, [.ref prl, .int 0, .ref ppc, .int 0, .ref ppg, .ref ppl, .ref ped, .int 0])), (ppl, .inr (8, [.ref pl1, .ref pl2, .int 0, .ref pl3, .int 0, .ref pl4, .int 0, .ref pl5, .int 0, .int 0, .int 0]))]) (rest := []) (own := RX6) ⟨hx, hb, hml, hown, hts⟩ (c_X6_needIndex l hst D e0 a1 ) (va_cwS 2 hts gi_c_X6_mother_2 rfl rfl rfl (by decide +kernel) ⟨Nat.le_of_ble_eq_true rfl, Nat.le_of_ble_eq_true rfl⟩) hh [] [0, 1] [] rfl rfl rfl rfl (by decide) rfl rfl hl rfl (Nat.le_of_ble_eq_true rfl) dX6_mother_8 ⟨Nat.le_of_ble_eq_true rfl, (Nat.le_of_ble_eq_true rfl)⟩ (fun E ce q9 H locs hE hh hq hv hcl => ?_) (fun _ _ _ _ _ h _ => h.elim)
  exact k_out hex hlocks hE hh hq hv hcl (Nat.le_of_ble_eq_true rfl) (Nat.le_of_ble_eq_true rfl)
def wo_c_X6_stamper : List Cond := [Cond.fieldLink RX6 31 "Segueworks" "plant" "LSegueworks$Plant;", Cond.fieldLink RX6 216 "Segueworks$Plant" "motherCount" "I"]
def wk_c_X6_stamper : List Cond := Cond.code yX6_stamper cX6_stamper 2 (some .int) :: (wo_c_X6_stamper ++ ((u_ws RX6 TX6 8) ++ ((u_ws RX3 TX3 11) ++ (va_wsS RX6 193 yX6_needIndex wk_c_X6_needIndex))))
theorem wo_c_X6_stamper_in : ∀ w ∈ wo_c_X6_stamper, w ∈ wk_c_X6_stamper := fun w h => List.mem_cons_of_mem _ (List.mem_append_left _ h)
theorem ws_c_X6_stamper_0 : ∀ w ∈ u_ws RX6 TX6 8, w ∈ wk_c_X6_stamper := fun w h => List.mem_cons_of_mem _ (List.mem_append_right _ (List.mem_append_left _ h))
theorem ws_c_X6_stamper_1 : ∀ w ∈ u_ws RX3 TX3 11, w ∈ wk_c_X6_stamper := fun w h => List.mem_cons_of_mem _ (List.mem_append_right _ (List.mem_append_right _ (List.mem_append_left _ h)))
theorem gi_c_X6_stamper_2 : GoodIn wk_c_X6_stamper (va_wsS RX6 193 yX6_needIndex wk_c_X6_needIndex) := fun w h => ⟨List.mem_cons_of_mem _ (List.mem_append_right _ (List.mem_append_right _ (List.mem_append_right _ h))), good_of_word (kg_S gk_c_X6_needIndex w h)⟩
theorem gk_c_X6_stamper : ∀ w ∈ wk_c_X6_stamper, goodWord w = true := List.forall_mem_cons.mpr ⟨rfl, (List.forall_mem_append.mpr ⟨(show ∀ w ∈ wo_c_X6_stamper, goodWord w = true by decide +kernel), (List.forall_mem_append.mpr ⟨(show ∀ w ∈ u_ws RX6 TX6 8, goodWord w = true by decide +kernel), (List.forall_mem_append.mpr ⟨(show ∀ w ∈ u_ws RX3 TX3 11, goodWord w = true by decide +kernel), (kg_S gk_c_X6_needIndex)⟩)⟩)⟩)⟩
set_option maxHeartbeats 4000000 in
set_option maxRecDepth 100000 in
theorem c_X6_stamper (l : Launch) (hst : l.stackTraces = false) (D : va_G) (e0 : kE) (pa : Nat) (prl : Nat) (ppc : Nat) (ppg : Nat) (ppl : Nat) (ped : Nat) (pl1 : Nat) (pl2 : Nat) (pl3 : Nat) (pl4 : Nat) (pl5 : Nat) (a1 : Int32)  : kM l yX6_stamper wk_c_X6_stamper 7 121 1 6 D kStr e0 [] [(pa, .inr (11, [.ref prl, .int 0, .ref ppc, .int 0, .ref ppg, .ref ppl, .ref ped, .int 0])), (ppl, .inr (8, [.ref pl1, .ref pl2, .int 0, .ref pl3, .int 0, .ref pl4, .int 0, .ref pl5, .int 0, .int 0, .int 0]))] [.ref pa, .int a1] (fun _ _ _ => False) (fun E => E = "java/lang/IndexOutOfBoundsException") := by
  refine k_of (cc := cX6_stamper) (maxL := 2) (ret := (some .int)) (by decide) rfl (Nat.le_of_ble_eq_true rfl) ?_
  intro p e s m args below meth c A ls hx hb hr hts hown hlocks hml hex hh hl
  have hown : s.vm.findClass RX6 = some m.cls := hown
  have hl : lv_has ls 2 [(0, .ref pa), (1, .int a1)] := hl
  refine lv_iload_n hx hb dX6_stamper_0 rfl (lv_at hl 1 rfl) ?_
  refine lv_aload_n hx hb dX6_stamper_1 rfl (lv_at hl 0 rfl) ?_
  refine k_get (C := RX6) (T := TX6) (N := 8) (ci := 11) (v := .ref ppl) hx hb hts ws_c_X6_stamper_0 hown hh 0 rfl rfl 5 (by decide) (hts _ (wo_c_X6_stamper_in _ (List.mem_of_getElem? (i := 0) rfl))) rfl dX6_stamper_2 ?_
  refine k_get (C := RX3) (T := TX3) (N := 11) (ci := 8) (v := .int 0) hx hb hts ws_c_X6_stamper_1 hown hh 1 rfl rfl 6 (by decide) (hts _ (wo_c_X6_stamper_in _ (List.mem_of_getElem? (i := 1) rfl))) rfl dX6_stamper_5 ?_
  refine k_callS (wr := [(pa, .inr (11, [.ref prl, .int 0, .ref ppc, .int 0, .ref ppg, .ref ppl, .ref ped, .int 0])), (ppl, .inr (8, [.ref pl1, .ref pl2, .int 0, .ref pl3, .int 0, .ref pl4, .int 0, .ref pl5, .int 0, .int 0, .int 0]))]) (rest := []) (own := RX6) ⟨hx, hb, hml, hown, hts⟩ (c_X6_needIndex l hst D e0 a1 ) (va_cwS 2 hts gi_c_X6_stamper_2 rfl rfl rfl (by decide +kernel) ⟨Nat.le_of_ble_eq_true rfl, Nat.le_of_ble_eq_true rfl⟩) hh [] [0, 1] [] rfl rfl rfl rfl (by decide) rfl rfl hl rfl (Nat.le_of_ble_eq_true rfl) dX6_stamper_8 ⟨Nat.le_of_ble_eq_true rfl, (Nat.le_of_ble_eq_true rfl)⟩ (fun E ce q9 H locs hE hh hq hv hcl => ?_) (fun _ _ _ _ _ h _ => h.elim)
  exact k_out hex hlocks hE hh hq hv hcl (Nat.le_of_ble_eq_true rfl) (Nat.le_of_ble_eq_true rfl)
def wo_c_X6_press : List Cond := [Cond.fieldLink RX6 31 "Segueworks" "plant" "LSegueworks$Plant;", Cond.fieldLink RX6 224 "Segueworks$Plant" "stamperCount" "I"]
def wk_c_X6_press : List Cond := Cond.code yX6_press cX6_press 3 (some .int) :: (wo_c_X6_press ++ ((u_ws RX6 TX6 8) ++ ((u_ws RX3 TX3 11) ++ (va_wsS RX6 193 yX6_needIndex wk_c_X6_needIndex))))
theorem wo_c_X6_press_in : ∀ w ∈ wo_c_X6_press, w ∈ wk_c_X6_press := fun w h => List.mem_cons_of_mem _ (List.mem_append_left _ h)
theorem ws_c_X6_press_0 : ∀ w ∈ u_ws RX6 TX6 8, w ∈ wk_c_X6_press := fun w h => List.mem_cons_of_mem _ (List.mem_append_right _ (List.mem_append_left _ h))
theorem ws_c_X6_press_1 : ∀ w ∈ u_ws RX3 TX3 11, w ∈ wk_c_X6_press := fun w h => List.mem_cons_of_mem _ (List.mem_append_right _ (List.mem_append_right _ (List.mem_append_left _ h)))
theorem gi_c_X6_press_2 : GoodIn wk_c_X6_press (va_wsS RX6 193 yX6_needIndex wk_c_X6_needIndex) := fun w h => ⟨List.mem_cons_of_mem _ (List.mem_append_right _ (List.mem_append_right _ (List.mem_append_right _ h))), good_of_word (kg_S gk_c_X6_needIndex w h)⟩
theorem gk_c_X6_press : ∀ w ∈ wk_c_X6_press, goodWord w = true := List.forall_mem_cons.mpr ⟨rfl, (List.forall_mem_append.mpr ⟨(show ∀ w ∈ wo_c_X6_press, goodWord w = true by decide +kernel), (List.forall_mem_append.mpr ⟨(show ∀ w ∈ u_ws RX6 TX6 8, goodWord w = true by decide +kernel), (List.forall_mem_append.mpr ⟨(show ∀ w ∈ u_ws RX3 TX3 11, goodWord w = true by decide +kernel), (kg_S gk_c_X6_needIndex)⟩)⟩)⟩)⟩
set_option maxHeartbeats 4000000 in
set_option maxRecDepth 100000 in
theorem c_X6_press (l : Launch) (hst : l.stackTraces = false) (D : va_G) (e0 : kE) (pa : Nat) (prl : Nat) (ppc : Nat) (ppg : Nat) (ppl : Nat) (ped : Nat) (pl1 : Nat) (pl2 : Nat) (pl3 : Nat) (pl4 : Nat) (pl5 : Nat) (a1 : Int32) (a2 : Int32)  : kM l yX6_press wk_c_X6_press 7 121 1 6 D kStr e0 [] [(pa, .inr (11, [.ref prl, .int 0, .ref ppc, .int 0, .ref ppg, .ref ppl, .ref ped, .int 0])), (ppl, .inr (8, [.ref pl1, .ref pl2, .int 0, .ref pl3, .int 0, .ref pl4, .int 0, .ref pl5, .int 0, .int 0, .int 0]))] [.ref pa, .int a1, .int a2] (fun _ _ _ => False) (fun E => E = "java/lang/IndexOutOfBoundsException") := by
  refine k_of (cc := cX6_press) (maxL := 3) (ret := (some .int)) (by decide) rfl (Nat.le_of_ble_eq_true rfl) ?_
  intro p e s m args below meth c A ls hx hb hr hts hown hlocks hml hex hh hl
  have hown : s.vm.findClass RX6 = some m.cls := hown
  have hl : lv_has ls 3 [(0, .ref pa), (1, .int a1), (2, .int a2)] := hl
  refine lv_iload_n hx hb dX6_press_0 rfl (lv_at hl 1 rfl) ?_
  refine lv_aload_n hx hb dX6_press_1 rfl (lv_at hl 0 rfl) ?_
  refine k_get (C := RX6) (T := TX6) (N := 8) (ci := 11) (v := .ref ppl) hx hb hts ws_c_X6_press_0 hown hh 0 rfl rfl 5 (by decide) (hts _ (wo_c_X6_press_in _ (List.mem_of_getElem? (i := 0) rfl))) rfl dX6_press_2 ?_
  refine k_get (C := RX3) (T := TX3) (N := 11) (ci := 8) (v := .int 0) hx hb hts ws_c_X6_press_1 hown hh 1 rfl rfl 8 (by decide) (hts _ (wo_c_X6_press_in _ (List.mem_of_getElem? (i := 1) rfl))) rfl dX6_press_5 ?_
  refine k_callS (wr := [(pa, .inr (11, [.ref prl, .int 0, .ref ppc, .int 0, .ref ppg, .ref ppl, .ref ped, .int 0])), (ppl, .inr (8, [.ref pl1, .ref pl2, .int 0, .ref pl3, .int 0, .ref pl4, .int 0, .ref pl5, .int 0, .int 0, .int 0]))]) (rest := []) (own := RX6) ⟨hx, hb, hml, hown, hts⟩ (c_X6_needIndex l hst D e0 a1 ) (va_cwS 2 hts gi_c_X6_press_2 rfl rfl rfl (by decide +kernel) ⟨Nat.le_of_ble_eq_true rfl, Nat.le_of_ble_eq_true rfl⟩) hh [] [0, 1] [] rfl rfl rfl rfl (by decide) rfl rfl hl rfl (Nat.le_of_ble_eq_true rfl) dX6_press_8 ⟨Nat.le_of_ble_eq_true rfl, (Nat.le_of_ble_eq_true rfl)⟩ (fun E ce q9 H locs hE hh hq hv hcl => ?_) (fun _ _ _ _ _ h _ => h.elim)
  exact k_out hex hlocks hE hh hq hv hcl (Nat.le_of_ble_eq_true rfl) (Nat.le_of_ble_eq_true rfl)
def wo_c_X6_heard : List Cond := [Cond.fieldLink RX6 24 "Segueworks" "program" "LSegueworks$Program;", Cond.fieldLink RX6 129 "Segueworks$Program" "length" "I"]
def wk_c_X6_heard : List Cond := Cond.code yX6_heard cX6_heard 2 (some .int) :: (wo_c_X6_heard ++ ((u_ws RX6 TX6 8) ++ ((u_ws RX4 TX4 6) ++ (va_wsS RX6 118 yX6_needElement wk_c_X6_needElement))))
theorem wo_c_X6_heard_in : ∀ w ∈ wo_c_X6_heard, w ∈ wk_c_X6_heard := fun w h => List.mem_cons_of_mem _ (List.mem_append_left _ h)
theorem ws_c_X6_heard_0 : ∀ w ∈ u_ws RX6 TX6 8, w ∈ wk_c_X6_heard := fun w h => List.mem_cons_of_mem _ (List.mem_append_right _ (List.mem_append_left _ h))
theorem ws_c_X6_heard_1 : ∀ w ∈ u_ws RX4 TX4 6, w ∈ wk_c_X6_heard := fun w h => List.mem_cons_of_mem _ (List.mem_append_right _ (List.mem_append_right _ (List.mem_append_left _ h)))
theorem gi_c_X6_heard_2 : GoodIn wk_c_X6_heard (va_wsS RX6 118 yX6_needElement wk_c_X6_needElement) := fun w h => ⟨List.mem_cons_of_mem _ (List.mem_append_right _ (List.mem_append_right _ (List.mem_append_right _ h))), good_of_word (kg_S gk_c_X6_needElement w h)⟩
theorem gk_c_X6_heard : ∀ w ∈ wk_c_X6_heard, goodWord w = true := List.forall_mem_cons.mpr ⟨rfl, (List.forall_mem_append.mpr ⟨(show ∀ w ∈ wo_c_X6_heard, goodWord w = true by decide +kernel), (List.forall_mem_append.mpr ⟨(show ∀ w ∈ u_ws RX6 TX6 8, goodWord w = true by decide +kernel), (List.forall_mem_append.mpr ⟨(show ∀ w ∈ u_ws RX4 TX4 6, goodWord w = true by decide +kernel), (kg_S gk_c_X6_needElement)⟩)⟩)⟩)⟩
set_option maxHeartbeats 4000000 in
set_option maxRecDepth 100000 in
theorem c_X6_heard (l : Launch) (hst : l.stackTraces = false) (D : va_G) (e0 : kE) (pa : Nat) (prl : Nat) (ppc : Nat) (ppg : Nat) (ppl : Nat) (ped : Nat) (pg1 : Nat) (pg2 : Nat) (pg3 : Nat) (pg4 : Nat) (a1 : Int32)  : kM l yX6_heard wk_c_X6_heard 7 121 1 6 D kStr e0 [] [(pa, .inr (11, [.ref prl, .int 0, .ref ppc, .int 0, .ref ppg, .ref ppl, .ref ped, .int 0])), (ppg, .inr (9, [.ref pg1, .int 0, .ref pg2, .int 0, .ref pg3, .ref pg4]))] [.ref pa, .int a1] (fun _ _ _ => False) (fun E => E = "java/util/NoSuchElementException") := by
  refine k_of (cc := cX6_heard) (maxL := 2) (ret := (some .int)) (by decide) rfl (Nat.le_of_ble_eq_true rfl) ?_
  intro p e s m args below meth c A ls hx hb hr hts hown hlocks hml hex hh hl
  have hown : s.vm.findClass RX6 = some m.cls := hown
  have hl : lv_has ls 2 [(0, .ref pa), (1, .int a1)] := hl
  refine lv_iload_n hx hb dX6_heard_0 rfl (lv_at hl 1 rfl) ?_
  refine lv_aload_n hx hb dX6_heard_1 rfl (lv_at hl 0 rfl) ?_
  refine k_get (C := RX6) (T := TX6) (N := 8) (ci := 11) (v := .ref ppg) hx hb hts ws_c_X6_heard_0 hown hh 0 rfl rfl 4 (by decide) (hts _ (wo_c_X6_heard_in _ (List.mem_of_getElem? (i := 0) rfl))) rfl dX6_heard_2 ?_
  refine k_get (C := RX4) (T := TX4) (N := 6) (ci := 9) (v := .int 0) hx hb hts ws_c_X6_heard_1 hown hh 1 rfl rfl 3 (by decide) (hts _ (wo_c_X6_heard_in _ (List.mem_of_getElem? (i := 1) rfl))) rfl dX6_heard_5 ?_
  refine k_callS (wr := [(pa, .inr (11, [.ref prl, .int 0, .ref ppc, .int 0, .ref ppg, .ref ppl, .ref ped, .int 0])), (ppg, .inr (9, [.ref pg1, .int 0, .ref pg2, .int 0, .ref pg3, .ref pg4]))]) (rest := []) (own := RX6) ⟨hx, hb, hml, hown, hts⟩ (c_X6_needElement l hst D e0 a1 ) (va_cwS 2 hts gi_c_X6_heard_2 rfl rfl rfl (by decide +kernel) ⟨Nat.le_of_ble_eq_true rfl, Nat.le_of_ble_eq_true rfl⟩) hh [] [0, 1] [] rfl rfl rfl rfl (by decide) rfl rfl hl rfl (Nat.le_of_ble_eq_true rfl) dX6_heard_8 ⟨Nat.le_of_ble_eq_true rfl, (Nat.le_of_ble_eq_true rfl)⟩ (fun E ce q9 H locs hE hh hq hv hcl => ?_) (fun _ _ _ _ _ h _ => h.elim)
  exact k_out hex hlocks hE hh hq hv hcl (Nat.le_of_ble_eq_true rfl) (Nat.le_of_ble_eq_true rfl)
def wo_c_X6_programLength : List Cond := [Cond.fieldLink RX6 24 "Segueworks" "program" "LSegueworks$Program;", Cond.fieldLink RX6 129 "Segueworks$Program" "length" "I"]
def wk_c_X6_programLength : List Cond := Cond.code yX6_programLength cX6_programLength 1 (some .int) :: (wo_c_X6_programLength ++ ((u_ws RX6 TX6 8) ++ (u_ws RX4 TX4 6)))
theorem wo_c_X6_programLength_in : ∀ w ∈ wo_c_X6_programLength, w ∈ wk_c_X6_programLength := fun w h => List.mem_cons_of_mem _ (List.mem_append_left _ h)
theorem ws_c_X6_programLength_0 : ∀ w ∈ u_ws RX6 TX6 8, w ∈ wk_c_X6_programLength := fun w h => List.mem_cons_of_mem _ (List.mem_append_right _ (List.mem_append_left _ h))
theorem ws_c_X6_programLength_1 : ∀ w ∈ u_ws RX4 TX4 6, w ∈ wk_c_X6_programLength := fun w h => List.mem_cons_of_mem _ (List.mem_append_right _ (List.mem_append_right _ h))
theorem gk_c_X6_programLength : ∀ w ∈ wk_c_X6_programLength, goodWord w = true := List.forall_mem_cons.mpr ⟨rfl, (List.forall_mem_append.mpr ⟨(show ∀ w ∈ wo_c_X6_programLength, goodWord w = true by decide +kernel), (List.forall_mem_append.mpr ⟨(show ∀ w ∈ u_ws RX6 TX6 8, goodWord w = true by decide +kernel), (show ∀ w ∈ u_ws RX4 TX4 6, goodWord w = true by decide +kernel)⟩)⟩)⟩
set_option maxHeartbeats 4000000 in
set_option maxRecDepth 100000 in
theorem c_X6_programLength (l : Launch) (hst : l.stackTraces = false) (D : va_G) (e0 : kE) (pa : Nat) (prl : Nat) (ppc : Nat) (ppg : Nat) (ppl : Nat) (ped : Nat) (pg1 : Nat) (pg2 : Nat) (pg3 : Nat) (pg4 : Nat)  : kM l yX6_programLength wk_c_X6_programLength 0 0 0 0 D kStr e0 [] [(pa, .inr (11, [.ref prl, .int 0, .ref ppc, .int 0, .ref ppg, .ref ppl, .ref ped, .int 0])), (ppg, .inr (9, [.ref pg1, .int 0, .ref pg2, .int 0, .ref pg3, .ref pg4]))] [.ref pa] (fun v w t => v = some (.int 0) ∧ w = [] ∧ t = []) (fun _ => False) := by
  refine k_of (cc := cX6_programLength) (maxL := 1) (ret := (some .int)) (by decide) rfl (Nat.le_of_ble_eq_true rfl) ?_
  intro p e s m args below meth c A ls hx hb hr hts hown hlocks hml hex hh hl
  have hown : s.vm.findClass RX6 = some m.cls := hown
  have hl : lv_has ls 1 [(0, .ref pa)] := hl
  refine lv_aload_n hx hb dX6_programLength_0 rfl (lv_at hl 0 rfl) ?_
  refine k_get (C := RX6) (T := TX6) (N := 8) (ci := 11) (v := .ref ppg) hx hb hts ws_c_X6_programLength_0 hown hh 0 rfl rfl 4 (by decide) (hts _ (wo_c_X6_programLength_in _ (List.mem_of_getElem? (i := 0) rfl))) rfl dX6_programLength_1 ?_
  refine k_get (C := RX4) (T := TX4) (N := 6) (ci := 9) (v := .int 0) hx hb hts ws_c_X6_programLength_1 hown hh 1 rfl rfl 3 (by decide) (hts _ (wo_c_X6_programLength_in _ (List.mem_of_getElem? (i := 1) rfl))) rfl dX6_programLength_4 ?_
  exact k_endi hx hb hr hlocks hh ⟨rfl, rfl, rfl⟩ [] [] rfl rfl rfl (Nat.le_of_ble_eq_true rfl) (Nat.le_of_ble_eq_true rfl) dX6_programLength_7
def wo_c_X4_takeSides : List Cond := [Cond.fieldLink RX4 27 "Segueworks$Program" "count" "I"]
def wk_c_X4_takeSides : List Cond := Cond.code yX4_takeSides cX4_takeSides 6 (some .int) :: (wo_c_X4_takeSides ++ (u_ws RX4 TX4 6))
theorem wo_c_X4_takeSides_in : ∀ w ∈ wo_c_X4_takeSides, w ∈ wk_c_X4_takeSides := fun w h => List.mem_cons_of_mem _ (List.mem_append_left _ h)
theorem ws_c_X4_takeSides_0 : ∀ w ∈ u_ws RX4 TX4 6, w ∈ wk_c_X4_takeSides := fun w h => List.mem_cons_of_mem _ (List.mem_append_right _ h)
theorem gk_c_X4_takeSides : ∀ w ∈ wk_c_X4_takeSides, goodWord w = true := List.forall_mem_cons.mpr ⟨rfl, (List.forall_mem_append.mpr ⟨(show ∀ w ∈ wo_c_X4_takeSides, goodWord w = true by decide +kernel), (show ∀ w ∈ u_ws RX4 TX4 6, goodWord w = true by decide +kernel)⟩)⟩
set_option maxHeartbeats 4000000 in
set_option maxRecDepth 100000 in
theorem c_X4_takeSides (l : Launch) (hst : l.stackTraces = false) (D : va_G) (e0 : kE) (ppg : Nat) (pg1 : Nat) (pg2 : Nat) (pg3 : Nat) (pg4 : Nat) (a1 : Int32)  : kM l yX4_takeSides wk_c_X4_takeSides 0 0 0 0 D kStr e0 [] [(ppg, .inr (9, [.ref pg1, .int 0, .ref pg2, .int 0, .ref pg3, .ref pg4]))] [.ref ppg, .int a1] (fun v w t => v = some (.int 0) ∧ w = [] ∧ t = []) (fun _ => False) := by
  refine k_of (cc := cX4_takeSides) (maxL := 6) (ret := (some .int)) (by decide) rfl (Nat.le_of_ble_eq_true rfl) ?_
  intro p e s m args below meth c A ls hx hb hr hts hown hlocks hml hex hh hl
  have hown : s.vm.findClass RX4 = some m.cls := hown
  have hl : lv_has ls 6 [(0, .ref ppg), (1, .int a1)] := hl
  refine lv_iconst (v := 0) hx hb dX4_takeSides_0 (by decide) ?_
  refine lv_istore_n (lv' := [(2, .int 0), (0, .ref ppg), (1, .int a1)]) hx hb dX4_takeSides_1 rfl hl (by decide) rfl (fun ls hl => ?_)
  refine lv_iconst (v := 0) hx hb dX4_takeSides_2 (by decide) ?_
  refine lv_istore_n (lv' := [(3, .int 0), (2, .int 0), (0, .ref ppg), (1, .int a1)]) hx hb dX4_takeSides_3 rfl hl (by decide) rfl (fun ls hl => ?_)
  refine lv_iconst (v := 0) hx hb dX4_takeSides_4 (by decide) ?_
  refine lv_istore (lv' := [(4, .int 0), (3, .int 0), (2, .int 0), (0, .ref ppg), (1, .int a1)]) hx hb dX4_takeSides_5 hl (by decide) rfl (fun ls hl => ?_)
  refine lv_iload hx hb dX4_takeSides_7 (lv_at hl 0 rfl) ?_
  refine lv_aload_n hx hb dX4_takeSides_9 rfl (lv_at hl 3 rfl) ?_
  refine k_get (C := RX4) (T := TX4) (N := 6) (ci := 9) (v := .int 0) hx hb hts ws_c_X4_takeSides_0 hown hh 0 rfl rfl 1 (by decide) (hts _ (wo_c_X4_takeSides_in _ (List.mem_of_getElem? (i := 0) rfl))) rfl dX4_takeSides_10 ?_
  refine lv_icmp_ge (tgt := 79) hx hb dX4_takeSides_13 (by decide) (fun _ => ?_) (fun c_13 => absurd (by decide) c_13)
  refine lv_iload_n hx hb dX4_takeSides_79 rfl (lv_at hl 2 rfl) ?_
  exact k_endi hx hb hr hlocks hh ⟨rfl, rfl, rfl⟩ [] [] rfl rfl rfl (Nat.le_of_ble_eq_true rfl) (Nat.le_of_ble_eq_true rfl) dX4_takeSides_80
def wo_c_X6_fittedSides : List Cond := [Cond.constant RX6 369 99999, Cond.fieldLink RX6 24 "Segueworks" "program" "LSegueworks$Program;"]
def wk_c_X6_fittedSides : List Cond := Cond.code yX6_fittedSides cX6_fittedSides 3 (some .int) :: (wo_c_X6_fittedSides ++ ((va_wsS RX6 57 yX6_needRange wk_c_X6_needRange_ok) ++ ((u_ws RX6 TX6 8) ++ (wsV RX6 370 RX4 yX4_takeSides wk_c_X4_takeSides))))
theorem wo_c_X6_fittedSides_in : ∀ w ∈ wo_c_X6_fittedSides, w ∈ wk_c_X6_fittedSides := fun w h => List.mem_cons_of_mem _ (List.mem_append_left _ h)
theorem gi_c_X6_fittedSides_0 : GoodIn wk_c_X6_fittedSides (va_wsS RX6 57 yX6_needRange wk_c_X6_needRange_ok) := fun w h => ⟨List.mem_cons_of_mem _ (List.mem_append_right _ (List.mem_append_left _ h)), good_of_word (kg_S gk_c_X6_needRange_ok w h)⟩
theorem ws_c_X6_fittedSides_1 : ∀ w ∈ u_ws RX6 TX6 8, w ∈ wk_c_X6_fittedSides := fun w h => List.mem_cons_of_mem _ (List.mem_append_right _ (List.mem_append_right _ (List.mem_append_left _ h)))
theorem gi_c_X6_fittedSides_2 : GoodIn wk_c_X6_fittedSides (wsV RX6 370 RX4 yX4_takeSides wk_c_X4_takeSides) := fun w h => ⟨List.mem_cons_of_mem _ (List.mem_append_right _ (List.mem_append_right _ (List.mem_append_right _ h))), good_of_word (kg_V gk_c_X4_takeSides w h)⟩
theorem gk_c_X6_fittedSides : ∀ w ∈ wk_c_X6_fittedSides, goodWord w = true := List.forall_mem_cons.mpr ⟨rfl, (List.forall_mem_append.mpr ⟨(show ∀ w ∈ wo_c_X6_fittedSides, goodWord w = true by decide +kernel), (List.forall_mem_append.mpr ⟨(kg_S gk_c_X6_needRange_ok), (List.forall_mem_append.mpr ⟨(show ∀ w ∈ u_ws RX6 TX6 8, goodWord w = true by decide +kernel), (kg_V gk_c_X4_takeSides)⟩)⟩)⟩)⟩
set_option maxHeartbeats 4000000 in
set_option maxRecDepth 100000 in
theorem c_X6_fittedSides (l : Launch) (hst : l.stackTraces = false) (D : va_G) (e0 : kE) (pa : Nat) (prl : Nat) (ppc : Nat) (ppg : Nat) (ppl : Nat) (ped : Nat) (pg1 : Nat) (pg2 : Nat) (pg3 : Nat) (pg4 : Nat) (a1 : Int32) (h : 1 ≤ a1 ∧ a1 ≤ 99999) : kM l yX6_fittedSides wk_c_X6_fittedSides 1 25 0 0 D kStr e0 [] [(pa, .inr (11, [.ref prl, .int 0, .ref ppc, .int 0, .ref ppg, .ref ppl, .ref ped, .int 0])), (ppg, .inr (9, [.ref pg1, .int 0, .ref pg2, .int 0, .ref pg3, .ref pg4]))] [.ref pa, .int a1] (fun v w t => v = some (.int 0) ∧ w = [] ∧ t = []) (fun _ => False) := by
  refine k_of (cc := cX6_fittedSides) (maxL := 3) (ret := (some .int)) (by decide) rfl (Nat.le_of_ble_eq_true rfl) ?_
  intro p e s m args below meth c A ls hx hb hr hts hown hlocks hml hex hh hl
  have hown : s.vm.findClass RX6 = some m.cls := hown
  have hl : lv_has ls 3 [(0, .ref pa), (1, .int a1)] := hl
  refine lv_iload_n hx hb dX6_fittedSides_0 rfl (lv_at hl 1 rfl) ?_
  refine lv_iconst (v := 1) hx hb dX6_fittedSides_1 (by decide) ?_
  refine lv_ldcw (v := 99999) hx hb hown (hts _ (wo_c_X6_fittedSides_in _ (List.mem_of_getElem? (i := 0) rfl))) dX6_fittedSides_2 ?_
  refine k_callS (wr := [(pa, .inr (11, [.ref prl, .int 0, .ref ppc, .int 0, .ref ppg, .ref ppl, .ref ped, .int 0])), (ppg, .inr (9, [.ref pg1, .int 0, .ref pg2, .int 0, .ref pg3, .ref pg4]))]) (rest := []) (own := RX6) ⟨hx, hb, hml, hown, hts⟩ (c_X6_needRange_ok l hst D e0 a1 1 99999 h) (va_cwS 3 hts gi_c_X6_fittedSides_0 rfl rfl rfl (by decide +kernel) ⟨Nat.le_of_ble_eq_true rfl, Nat.le_of_ble_eq_true rfl⟩) hh [] [0, 1] [] rfl rfl rfl rfl (by decide) rfl rfl hl rfl (Nat.le_of_ble_eq_true rfl) dX6_fittedSides_5 ⟨Nat.le_of_ble_eq_true rfl, (Nat.le_of_ble_eq_true rfl)⟩ (fun _ _ _ _ _ h => h.elim) (fun v w ty1 H locs hp hh => ?_)
  obtain ⟨rfl, rfl, rfl⟩ := hp
  have hh : kH D kStr e0 A s H [(pa, .inr (11, [.ref prl, .int 0, .ref ppc, .int 0, .ref ppg, .ref ppl, .ref ped, .int 0])), (ppg, .inr (9, [.ref pg1, .int 0, .ref pg2, .int 0, .ref pg3, .ref pg4]))] [] _ := hh
  refine W.eq (g2 := F0 m 8 ls []) (by first | rfl | decide) ?_
  refine lv_aload_n hx hb dX6_fittedSides_8 rfl (lv_at hl 0 rfl) ?_
  refine k_get (C := RX6) (T := TX6) (N := 8) (ci := 11) (v := .ref ppg) hx hb hts ws_c_X6_fittedSides_1 hown hh 0 rfl rfl 4 (by decide) (hts _ (wo_c_X6_fittedSides_in _ (List.mem_of_getElem? (i := 1) rfl))) rfl dX6_fittedSides_9 ?_
  refine lv_iload_n hx hb dX6_fittedSides_12 rfl (lv_at hl 1 rfl) ?_
  refine k_callV (C := RX4) (T := TX4) (N := 6) (ci := 9) (q0 := 1) (wr := [(pa, .inr (11, [.ref prl, .int 0, .ref ppc, .int 0, .ref ppg, .ref ppl, .ref ped, .int 0]))]) (rest := []) (own := RX6) ⟨hx, hb, hml, hown, hts⟩ (c_X4_takeSides l hst D e0 ppg pg1 pg2 pg3 pg4 a1 ) (cwV 1 hts gi_c_X6_fittedSides_2 rfl rfl rfl (by decide +kernel) ⟨Nat.le_of_ble_eq_true rfl, Nat.le_of_ble_eq_true rfl⟩) hh rfl rfl [1] [0] [] rfl rfl rfl rfl (by decide) rfl rfl hl rfl (Nat.le_of_ble_eq_true rfl) dX6_fittedSides_13 ⟨Nat.le_of_ble_eq_true rfl, (Nat.le_of_ble_eq_true rfl)⟩ (fun _ _ _ _ _ h => h.elim) (fun v w ty1 H locs hp hh => ?_)
  obtain ⟨rfl, rfl, rfl⟩ := hp
  have hh : kH D kStr e0 A s H [(pa, .inr (11, [.ref prl, .int 0, .ref ppc, .int 0, .ref ppg, .ref ppl, .ref ped, .int 0]))] [] _ := hh
  refine W.eq (g2 := F0 m 16 ls [.int 0]) (by first | rfl | decide) ?_
  refine lv_istore_n (lv' := [(2, .int 0), (0, .ref pa), (1, .int a1)]) hx hb dX6_fittedSides_16 rfl hl (by decide) rfl (fun ls hl => ?_)
  refine lv_iload_n hx hb dX6_fittedSides_17 rfl (lv_at hl 0 rfl) ?_
  refine lv_if_ge (tgt := 32) hx hb dX6_fittedSides_18 (by decide) (fun _ => ?_) (fun c_18 => absurd (by decide) c_18)
  refine lv_iload_n hx hb dX6_fittedSides_32 rfl (lv_at hl 0 rfl) ?_
  exact k_endi hx hb hr hlocks hh ⟨rfl, rfl, rfl⟩ [] [] rfl rfl rfl (Nat.le_of_ble_eq_true rfl) (Nat.le_of_ble_eq_true rfl) dX6_fittedSides_33
def wo_c_X6_fittedSides_bad : List Cond := [Cond.constant RX6 369 99999]
def wk_c_X6_fittedSides_bad : List Cond := Cond.code yX6_fittedSides cX6_fittedSides 3 (some .int) :: (wo_c_X6_fittedSides_bad ++ (va_wsS RX6 57 yX6_needRange wk_c_X6_needRange_bad))
theorem wo_c_X6_fittedSides_bad_in : ∀ w ∈ wo_c_X6_fittedSides_bad, w ∈ wk_c_X6_fittedSides_bad := fun w h => List.mem_cons_of_mem _ (List.mem_append_left _ h)
theorem gi_c_X6_fittedSides_bad_0 : GoodIn wk_c_X6_fittedSides_bad (va_wsS RX6 57 yX6_needRange wk_c_X6_needRange_bad) := fun w h => ⟨List.mem_cons_of_mem _ (List.mem_append_right _ h), good_of_word (kg_S gk_c_X6_needRange_bad w h)⟩
theorem gk_c_X6_fittedSides_bad : ∀ w ∈ wk_c_X6_fittedSides_bad, goodWord w = true := List.forall_mem_cons.mpr ⟨rfl, (List.forall_mem_append.mpr ⟨(show ∀ w ∈ wo_c_X6_fittedSides_bad, goodWord w = true by decide +kernel), (kg_S gk_c_X6_needRange_bad)⟩)⟩
set_option maxHeartbeats 4000000 in
set_option maxRecDepth 100000 in
theorem c_X6_fittedSides_bad (l : Launch) (hst : l.stackTraces = false) (D : va_G) (e0 : kE) (pa : Nat) (prl : Nat) (ppc : Nat) (ppg : Nat) (ppl : Nat) (ped : Nat) (pg1 : Nat) (pg2 : Nat) (pg3 : Nat) (pg4 : Nat) (a1 : Int32) (h : ¬ (1 ≤ a1 ∧ a1 ≤ 99999)) : kM l yX6_fittedSides wk_c_X6_fittedSides_bad 7 122 1 6 D kStr e0 [] [(pa, .inr (11, [.ref prl, .int 0, .ref ppc, .int 0, .ref ppg, .ref ppl, .ref ped, .int 0])), (ppg, .inr (9, [.ref pg1, .int 0, .ref pg2, .int 0, .ref pg3, .ref pg4]))] [.ref pa, .int a1] (fun _ _ _ => False) (fun E => E = "java/lang/IllegalArgumentException") := by
  refine k_of (cc := cX6_fittedSides) (maxL := 3) (ret := (some .int)) (by decide) rfl (Nat.le_of_ble_eq_true rfl) ?_
  intro p e s m args below meth c A ls hx hb hr hts hown hlocks hml hex hh hl
  have hown : s.vm.findClass RX6 = some m.cls := hown
  have hl : lv_has ls 3 [(0, .ref pa), (1, .int a1)] := hl
  refine lv_iload_n hx hb dX6_fittedSides_0 rfl (lv_at hl 1 rfl) ?_
  refine lv_iconst (v := 1) hx hb dX6_fittedSides_1 (by decide) ?_
  refine lv_ldcw (v := 99999) hx hb hown (hts _ (wo_c_X6_fittedSides_bad_in _ (List.mem_of_getElem? (i := 0) rfl))) dX6_fittedSides_2 ?_
  refine k_callS (wr := [(pa, .inr (11, [.ref prl, .int 0, .ref ppc, .int 0, .ref ppg, .ref ppl, .ref ped, .int 0])), (ppg, .inr (9, [.ref pg1, .int 0, .ref pg2, .int 0, .ref pg3, .ref pg4]))]) (rest := []) (own := RX6) ⟨hx, hb, hml, hown, hts⟩ (c_X6_needRange_bad l hst D e0 a1 1 99999 h) (va_cwS 3 hts gi_c_X6_fittedSides_bad_0 rfl rfl rfl (by decide +kernel) ⟨Nat.le_of_ble_eq_true rfl, Nat.le_of_ble_eq_true rfl⟩) hh [] [0, 1] [] rfl rfl rfl rfl (by decide) rfl rfl hl rfl (Nat.le_of_ble_eq_true rfl) dX6_fittedSides_5 ⟨Nat.le_of_ble_eq_true rfl, (Nat.le_of_ble_eq_true rfl)⟩ (fun E ce q9 H locs hE hh hq hv hcl => ?_) (fun _ _ _ _ _ h _ => h.elim)
  exact k_out hex hlocks hE hh hq hv hcl (Nat.le_of_ble_eq_true rfl) (Nat.le_of_ble_eq_true rfl)
def wo_c_X6_sides : List Cond := []
def wk_c_X6_sides : List Cond := Cond.code yX6_sides cX6_sides 2 (some .int) :: (wo_c_X6_sides ++ (wsV RX6 175 RX6 yX6_fittedSides wk_c_X6_fittedSides))
theorem wo_c_X6_sides_in : ∀ w ∈ wo_c_X6_sides, w ∈ wk_c_X6_sides := fun w h => List.mem_cons_of_mem _ (List.mem_append_left _ h)
theorem gi_c_X6_sides_0 : GoodIn wk_c_X6_sides (wsV RX6 175 RX6 yX6_fittedSides wk_c_X6_fittedSides) := fun w h => ⟨List.mem_cons_of_mem _ (List.mem_append_right _ h), good_of_word (kg_V gk_c_X6_fittedSides w h)⟩
theorem gk_c_X6_sides : ∀ w ∈ wk_c_X6_sides, goodWord w = true := List.forall_mem_cons.mpr ⟨rfl, (List.forall_mem_append.mpr ⟨(show ∀ w ∈ wo_c_X6_sides, goodWord w = true by decide +kernel), (kg_V gk_c_X6_fittedSides)⟩)⟩
set_option maxHeartbeats 4000000 in
set_option maxRecDepth 100000 in
theorem c_X6_sides (l : Launch) (hst : l.stackTraces = false) (D : va_G) (e0 : kE) (pa : Nat) (prl : Nat) (ppc : Nat) (ppg : Nat) (ppl : Nat) (ped : Nat) (pg1 : Nat) (pg2 : Nat) (pg3 : Nat) (pg4 : Nat) (a1 : Int32) (h : 1 ≤ a1 ∧ a1 ≤ 99999) : kM l yX6_sides wk_c_X6_sides 2 47 0 0 D kStr e0 [] [(pa, .inr (11, [.ref prl, .int 0, .ref ppc, .int 0, .ref ppg, .ref ppl, .ref ped, .int 0])), (ppg, .inr (9, [.ref pg1, .int 0, .ref pg2, .int 0, .ref pg3, .ref pg4]))] [.ref pa, .int a1] (fun v w t => v = some (.int 0) ∧ w = [] ∧ t = []) (fun _ => False) := by
  refine k_of (cc := cX6_sides) (maxL := 2) (ret := (some .int)) (by decide) rfl (Nat.le_of_ble_eq_true rfl) ?_
  intro p e s m args below meth c A ls hx hb hr hts hown hlocks hml hex hh hl
  have hown : s.vm.findClass RX6 = some m.cls := hown
  have hl : lv_has ls 2 [(0, .ref pa), (1, .int a1)] := hl
  refine lv_aload_n hx hb dX6_sides_0 rfl (lv_at hl 0 rfl) ?_
  refine lv_iload_n hx hb dX6_sides_1 rfl (lv_at hl 1 rfl) ?_
  refine k_callV (C := RX6) (T := TX6) (N := 8) (ci := 11) (q0 := 0) (wr := []) (rest := []) (own := RX6) ⟨hx, hb, hml, hown, hts⟩ (c_X6_fittedSides l hst D e0 pa prl ppc ppg ppl ped pg1 pg2 pg3 pg4 a1 h) (cwV 1 hts gi_c_X6_sides_0 rfl rfl rfl (by decide +kernel) ⟨Nat.le_of_ble_eq_true rfl, Nat.le_of_ble_eq_true rfl⟩) hh rfl rfl [0, 1] [] [] rfl rfl rfl rfl (by decide) rfl rfl hl rfl (Nat.le_of_ble_eq_true rfl) dX6_sides_2 ⟨Nat.le_of_ble_eq_true rfl, (Nat.le_of_ble_eq_true rfl)⟩ (fun _ _ _ _ _ h => h.elim) (fun v w ty1 H locs hp hh => ?_)
  obtain ⟨rfl, rfl, rfl⟩ := hp
  have hh : kH D kStr e0 A s H [] [] _ := hh
  refine W.eq (g2 := F0 m 5 ls [.int 0]) (by first | rfl | decide) ?_
  exact k_endi hx hb hr hlocks hh ⟨rfl, rfl, rfl⟩ [] [] rfl rfl rfl (Nat.le_of_ble_eq_true rfl) (Nat.le_of_ble_eq_true rfl) dX6_sides_5
def wo_c_X6_sides_bad : List Cond := []
def wk_c_X6_sides_bad : List Cond := Cond.code yX6_sides cX6_sides 2 (some .int) :: (wo_c_X6_sides_bad ++ (wsV RX6 175 RX6 yX6_fittedSides wk_c_X6_fittedSides_bad))
theorem wo_c_X6_sides_bad_in : ∀ w ∈ wo_c_X6_sides_bad, w ∈ wk_c_X6_sides_bad := fun w h => List.mem_cons_of_mem _ (List.mem_append_left _ h)
theorem gi_c_X6_sides_bad_0 : GoodIn wk_c_X6_sides_bad (wsV RX6 175 RX6 yX6_fittedSides wk_c_X6_fittedSides_bad) := fun w h => ⟨List.mem_cons_of_mem _ (List.mem_append_right _ h), good_of_word (kg_V gk_c_X6_fittedSides_bad w h)⟩
theorem gk_c_X6_sides_bad : ∀ w ∈ wk_c_X6_sides_bad, goodWord w = true := List.forall_mem_cons.mpr ⟨rfl, (List.forall_mem_append.mpr ⟨(show ∀ w ∈ wo_c_X6_sides_bad, goodWord w = true by decide +kernel), (kg_V gk_c_X6_fittedSides_bad)⟩)⟩
set_option maxHeartbeats 4000000 in
set_option maxRecDepth 100000 in
theorem c_X6_sides_bad (l : Launch) (hst : l.stackTraces = false) (D : va_G) (e0 : kE) (pa : Nat) (prl : Nat) (ppc : Nat) (ppg : Nat) (ppl : Nat) (ped : Nat) (pg1 : Nat) (pg2 : Nat) (pg3 : Nat) (pg4 : Nat) (a1 : Int32) (h : ¬ (1 ≤ a1 ∧ a1 ≤ 99999)) : kM l yX6_sides wk_c_X6_sides_bad 8 144 1 6 D kStr e0 [] [(pa, .inr (11, [.ref prl, .int 0, .ref ppc, .int 0, .ref ppg, .ref ppl, .ref ped, .int 0])), (ppg, .inr (9, [.ref pg1, .int 0, .ref pg2, .int 0, .ref pg3, .ref pg4]))] [.ref pa, .int a1] (fun _ _ _ => False) (fun E => E = "java/lang/IllegalArgumentException") := by
  refine k_of (cc := cX6_sides) (maxL := 2) (ret := (some .int)) (by decide) rfl (Nat.le_of_ble_eq_true rfl) ?_
  intro p e s m args below meth c A ls hx hb hr hts hown hlocks hml hex hh hl
  have hown : s.vm.findClass RX6 = some m.cls := hown
  have hl : lv_has ls 2 [(0, .ref pa), (1, .int a1)] := hl
  refine lv_aload_n hx hb dX6_sides_0 rfl (lv_at hl 0 rfl) ?_
  refine lv_iload_n hx hb dX6_sides_1 rfl (lv_at hl 1 rfl) ?_
  refine k_callV (C := RX6) (T := TX6) (N := 8) (ci := 11) (q0 := 0) (wr := []) (rest := []) (own := RX6) ⟨hx, hb, hml, hown, hts⟩ (c_X6_fittedSides_bad l hst D e0 pa prl ppc ppg ppl ped pg1 pg2 pg3 pg4 a1 h) (cwV 1 hts gi_c_X6_sides_bad_0 rfl rfl rfl (by decide +kernel) ⟨Nat.le_of_ble_eq_true rfl, Nat.le_of_ble_eq_true rfl⟩) hh rfl rfl [0, 1] [] [] rfl rfl rfl rfl (by decide) rfl rfl hl rfl (Nat.le_of_ble_eq_true rfl) dX6_sides_2 ⟨Nat.le_of_ble_eq_true rfl, (Nat.le_of_ble_eq_true rfl)⟩ (fun E ce q9 H locs hE hh hq hv hcl => ?_) (fun _ _ _ _ _ h _ => h.elim)
  exact k_out hex hlocks hE hh hq hv hcl (Nat.le_of_ble_eq_true rfl) (Nat.le_of_ble_eq_true rfl)
def wo_c_X6_engrave : List Cond := []
def wk_c_X6_engrave : List Cond := Cond.code yX6_engrave cX6_engrave 6 (some .int) :: (wo_c_X6_engrave ++ ((wsV RX6 175 RX6 yX6_fittedSides wk_c_X6_fittedSides) ++ (va_wsS RX6 118 yX6_needElement wk_c_X6_needElement)))
theorem wo_c_X6_engrave_in : ∀ w ∈ wo_c_X6_engrave, w ∈ wk_c_X6_engrave := fun w h => List.mem_cons_of_mem _ (List.mem_append_left _ h)
theorem gi_c_X6_engrave_0 : GoodIn wk_c_X6_engrave (wsV RX6 175 RX6 yX6_fittedSides wk_c_X6_fittedSides) := fun w h => ⟨List.mem_cons_of_mem _ (List.mem_append_right _ (List.mem_append_left _ h)), good_of_word (kg_V gk_c_X6_fittedSides w h)⟩
theorem gi_c_X6_engrave_1 : GoodIn wk_c_X6_engrave (va_wsS RX6 118 yX6_needElement wk_c_X6_needElement) := fun w h => ⟨List.mem_cons_of_mem _ (List.mem_append_right _ (List.mem_append_right _ h)), good_of_word (kg_S gk_c_X6_needElement w h)⟩
theorem gk_c_X6_engrave : ∀ w ∈ wk_c_X6_engrave, goodWord w = true := List.forall_mem_cons.mpr ⟨rfl, (List.forall_mem_append.mpr ⟨(show ∀ w ∈ wo_c_X6_engrave, goodWord w = true by decide +kernel), (List.forall_mem_append.mpr ⟨(kg_V gk_c_X6_fittedSides), (kg_S gk_c_X6_needElement)⟩)⟩)⟩
set_option maxHeartbeats 4000000 in
set_option maxRecDepth 100000 in
theorem c_X6_engrave (l : Launch) (hst : l.stackTraces = false) (D : va_G) (e0 : kE) (pa : Nat) (prl : Nat) (ppc : Nat) (ppg : Nat) (ppl : Nat) (ped : Nat) (pg1 : Nat) (pg2 : Nat) (pg3 : Nat) (pg4 : Nat) (a1 : Int32) (a2 : Int32) (h : 1 ≤ a2 ∧ a2 ≤ 99999) : kM l yX6_engrave wk_c_X6_engrave 7 121 1 6 D kStr e0 [] [(pa, .inr (11, [.ref prl, .int 0, .ref ppc, .int 0, .ref ppg, .ref ppl, .ref ped, .int 0])), (ppg, .inr (9, [.ref pg1, .int 0, .ref pg2, .int 0, .ref pg3, .ref pg4]))] [.ref pa, .int a1, .int a2] (fun _ _ _ => False) (fun E => E = "java/util/NoSuchElementException") := by
  refine k_of (cc := cX6_engrave) (maxL := 6) (ret := (some .int)) (by decide) rfl (Nat.le_of_ble_eq_true rfl) ?_
  intro p e s m args below meth c A ls hx hb hr hts hown hlocks hml hex hh hl
  have hown : s.vm.findClass RX6 = some m.cls := hown
  have hl : lv_has ls 6 [(0, .ref pa), (1, .int a1), (2, .int a2)] := hl
  refine lv_aload_n hx hb dX6_engrave_0 rfl (lv_at hl 0 rfl) ?_
  refine lv_iload_n hx hb dX6_engrave_1 rfl (lv_at hl 2 rfl) ?_
  refine k_callV (C := RX6) (T := TX6) (N := 8) (ci := 11) (q0 := 0) (wr := []) (rest := []) (own := RX6) ⟨hx, hb, hml, hown, hts⟩ (c_X6_fittedSides l hst D e0 pa prl ppc ppg ppl ped pg1 pg2 pg3 pg4 a2 h) (cwV 1 hts gi_c_X6_engrave_0 rfl rfl rfl (by decide +kernel) ⟨Nat.le_of_ble_eq_true rfl, Nat.le_of_ble_eq_true rfl⟩) hh rfl rfl [0, 1] [] [] rfl rfl rfl rfl (by decide) rfl rfl hl rfl (Nat.le_of_ble_eq_true rfl) dX6_engrave_2 ⟨Nat.le_of_ble_eq_true rfl, (Nat.le_of_ble_eq_true rfl)⟩ (fun _ _ _ _ _ h => h.elim) (fun v w ty1 H locs hp hh => ?_)
  obtain ⟨rfl, rfl, rfl⟩ := hp
  have hh : kH D kStr e0 A s H [] [] _ := hh
  refine W.eq (g2 := F0 m 5 ls [.int 0]) (by first | rfl | decide) ?_
  refine lv_istore_n (lv' := [(3, .int 0), (0, .ref pa), (1, .int a1), (2, .int a2)]) hx hb dX6_engrave_5 rfl hl (by decide) rfl (fun ls hl => ?_)
  refine lv_iload_n hx hb dX6_engrave_6 rfl (lv_at hl 2 rfl) ?_
  refine lv_iload_n hx hb dX6_engrave_7 rfl (lv_at hl 0 rfl) ?_
  refine k_callS (wr := []) (rest := []) (own := RX6) ⟨hx, hb, hml, hown, hts⟩ (c_X6_needElement l hst D e0 a1 ) (va_cwS 2 hts gi_c_X6_engrave_1 rfl rfl rfl (by decide +kernel) ⟨Nat.le_of_ble_eq_true rfl, Nat.le_of_ble_eq_true rfl⟩) hh [] [] [] rfl rfl rfl rfl (by decide) rfl rfl hl rfl (Nat.le_of_ble_eq_true rfl) dX6_engrave_8 ⟨Nat.le_of_ble_eq_true rfl, (Nat.le_of_ble_eq_true rfl)⟩ (fun E ce q9 H locs hE hh hq hv hcl => ?_) (fun _ _ _ _ _ h _ => h.elim)
  exact k_out hex hlocks hE hh hq hv hcl (Nat.le_of_ble_eq_true rfl) (Nat.le_of_ble_eq_true rfl)
def wo_c_X6_engrave_bad : List Cond := []
def wk_c_X6_engrave_bad : List Cond := Cond.code yX6_engrave cX6_engrave 6 (some .int) :: (wo_c_X6_engrave_bad ++ (wsV RX6 175 RX6 yX6_fittedSides wk_c_X6_fittedSides_bad))
theorem wo_c_X6_engrave_bad_in : ∀ w ∈ wo_c_X6_engrave_bad, w ∈ wk_c_X6_engrave_bad := fun w h => List.mem_cons_of_mem _ (List.mem_append_left _ h)
theorem gi_c_X6_engrave_bad_0 : GoodIn wk_c_X6_engrave_bad (wsV RX6 175 RX6 yX6_fittedSides wk_c_X6_fittedSides_bad) := fun w h => ⟨List.mem_cons_of_mem _ (List.mem_append_right _ h), good_of_word (kg_V gk_c_X6_fittedSides_bad w h)⟩
theorem gk_c_X6_engrave_bad : ∀ w ∈ wk_c_X6_engrave_bad, goodWord w = true := List.forall_mem_cons.mpr ⟨rfl, (List.forall_mem_append.mpr ⟨(show ∀ w ∈ wo_c_X6_engrave_bad, goodWord w = true by decide +kernel), (kg_V gk_c_X6_fittedSides_bad)⟩)⟩
set_option maxHeartbeats 4000000 in
set_option maxRecDepth 100000 in
theorem c_X6_engrave_bad (l : Launch) (hst : l.stackTraces = false) (D : va_G) (e0 : kE) (pa : Nat) (prl : Nat) (ppc : Nat) (ppg : Nat) (ppl : Nat) (ped : Nat) (pg1 : Nat) (pg2 : Nat) (pg3 : Nat) (pg4 : Nat) (a1 : Int32) (a2 : Int32) (h : ¬ (1 ≤ a2 ∧ a2 ≤ 99999)) : kM l yX6_engrave wk_c_X6_engrave_bad 8 144 1 6 D kStr e0 [] [(pa, .inr (11, [.ref prl, .int 0, .ref ppc, .int 0, .ref ppg, .ref ppl, .ref ped, .int 0])), (ppg, .inr (9, [.ref pg1, .int 0, .ref pg2, .int 0, .ref pg3, .ref pg4]))] [.ref pa, .int a1, .int a2] (fun _ _ _ => False) (fun E => E = "java/lang/IllegalArgumentException") := by
  refine k_of (cc := cX6_engrave) (maxL := 6) (ret := (some .int)) (by decide) rfl (Nat.le_of_ble_eq_true rfl) ?_
  intro p e s m args below meth c A ls hx hb hr hts hown hlocks hml hex hh hl
  have hown : s.vm.findClass RX6 = some m.cls := hown
  have hl : lv_has ls 6 [(0, .ref pa), (1, .int a1), (2, .int a2)] := hl
  refine lv_aload_n hx hb dX6_engrave_0 rfl (lv_at hl 0 rfl) ?_
  refine lv_iload_n hx hb dX6_engrave_1 rfl (lv_at hl 2 rfl) ?_
  refine k_callV (C := RX6) (T := TX6) (N := 8) (ci := 11) (q0 := 0) (wr := []) (rest := []) (own := RX6) ⟨hx, hb, hml, hown, hts⟩ (c_X6_fittedSides_bad l hst D e0 pa prl ppc ppg ppl ped pg1 pg2 pg3 pg4 a2 h) (cwV 1 hts gi_c_X6_engrave_bad_0 rfl rfl rfl (by decide +kernel) ⟨Nat.le_of_ble_eq_true rfl, Nat.le_of_ble_eq_true rfl⟩) hh rfl rfl [0, 1] [] [] rfl rfl rfl rfl (by decide) rfl rfl hl rfl (Nat.le_of_ble_eq_true rfl) dX6_engrave_2 ⟨Nat.le_of_ble_eq_true rfl, (Nat.le_of_ble_eq_true rfl)⟩ (fun E ce q9 H locs hE hh hq hv hcl => ?_) (fun _ _ _ _ _ h _ => h.elim)
  exact k_out hex hlocks hE hh hq hv hcl (Nat.le_of_ble_eq_true rfl) (Nat.le_of_ble_eq_true rfl)
def wo_c_X6_edition : List Cond := [Cond.fieldLink RX6 24 "Segueworks" "program" "LSegueworks$Program;", Cond.fieldLink RX6 133 "Segueworks$Program" "count" "I", Cond.classLink RX6 203 "java/lang/UnsupportedOperationException", Cond.initialized "java/lang/UnsupportedOperationException"]
def wk_c_X6_edition : List Cond := Cond.code yX6_edition cX6_edition 3 (some .int) :: (wo_c_X6_edition ++ ((va_wsS RX6 57 yX6_needRange wk_c_X6_needRange_ok) ++ ((u_ws RX6 TX6 8) ++ ((u_ws RX4 TX4 6) ++ ((vx_atS RX6 207 "java/lang/UnsupportedOperationException" ["java/lang/RuntimeException", "java/lang/Exception"]).filter goodWord)))))
theorem wo_c_X6_edition_in : ∀ w ∈ wo_c_X6_edition, w ∈ wk_c_X6_edition := fun w h => List.mem_cons_of_mem _ (List.mem_append_left _ h)
theorem gi_c_X6_edition_0 : GoodIn wk_c_X6_edition (va_wsS RX6 57 yX6_needRange wk_c_X6_needRange_ok) := fun w h => ⟨List.mem_cons_of_mem _ (List.mem_append_right _ (List.mem_append_left _ h)), good_of_word (kg_S gk_c_X6_needRange_ok w h)⟩
theorem ws_c_X6_edition_1 : ∀ w ∈ u_ws RX6 TX6 8, w ∈ wk_c_X6_edition := fun w h => List.mem_cons_of_mem _ (List.mem_append_right _ (List.mem_append_right _ (List.mem_append_left _ h)))
theorem ws_c_X6_edition_2 : ∀ w ∈ u_ws RX4 TX4 6, w ∈ wk_c_X6_edition := fun w h => List.mem_cons_of_mem _ (List.mem_append_right _ (List.mem_append_right _ (List.mem_append_right _ (List.mem_append_left _ h))))
theorem wt_c_X6_edition_3 {D : va_G} {e0 : kE} {A : Nat → Prop} {s : State} {args : Array Value} {H : Heap} {wv : va_W} {tys : List (ClassId × FieldType)} {locs : List Loc} (hts : ∀ w ∈ wk_c_X6_edition, w.before args s = true) (hh : kH D kStr e0 A s H wv tys locs) : ∀ w ∈ vx_atS RX6 207 "java/lang/UnsupportedOperationException" ["java/lang/RuntimeException", "java/lang/Exception"], w.before args s = true :=
  vx_hat (B := [Cond.castable "java/lang/UnsupportedOperationException" "java/lang/UnsupportedOperationException", Cond.declares (Bundle.initS "java/lang/RuntimeException"), Cond.declares (Bundle.initS "java/lang/Exception"), Cond.declares (Bundle.initS Bundle.tN)]) (fun w h => hts w (List.mem_cons_of_mem _ (List.mem_append_right _ (List.mem_append_right _ (List.mem_append_right _ (List.mem_append_right _ h)))))) (by decide +kernel) (vx_c (hh.2.2.2.2.2.2.2.2.2.1 "java/lang/UnsupportedOperationException" (by decide)).word (vx_c (kD_word hh (by decide)) (vx_c (kD_word hh (by decide)) (vx_c (kD_word hh (by decide)) vx_n))))
theorem gk_c_X6_edition : ∀ w ∈ wk_c_X6_edition, goodWord w = true := List.forall_mem_cons.mpr ⟨rfl, (List.forall_mem_append.mpr ⟨(show ∀ w ∈ wo_c_X6_edition, goodWord w = true by decide +kernel), (List.forall_mem_append.mpr ⟨(kg_S gk_c_X6_needRange_ok), (List.forall_mem_append.mpr ⟨(show ∀ w ∈ u_ws RX6 TX6 8, goodWord w = true by decide +kernel), (List.forall_mem_append.mpr ⟨(show ∀ w ∈ u_ws RX4 TX4 6, goodWord w = true by decide +kernel), (fun w h => (List.mem_filter.mp h).2)⟩)⟩)⟩)⟩)⟩
set_option maxHeartbeats 4000000 in
set_option maxRecDepth 100000 in
theorem c_X6_edition (l : Launch) (hst : l.stackTraces = false) (D : va_G) (e0 : kE) (pa : Nat) (prl : Nat) (ppc : Nat) (ppg : Nat) (ppl : Nat) (ped : Nat) (pg1 : Nat) (pg2 : Nat) (pg3 : Nat) (pg4 : Nat) (a1 : Int32) (h : -30 ≤ a1 ∧ a1 ≤ 30) : kM l yX6_edition wk_c_X6_edition 6 100 2 12 D kStr e0 [] [(pa, .inr (11, [.ref prl, .int 0, .ref ppc, .int 0, .ref ppg, .ref ppl, .ref ped, .int 0])), (ppg, .inr (9, [.ref pg1, .int 0, .ref pg2, .int 0, .ref pg3, .ref pg4]))] [.ref pa, .int a1] (fun _ _ _ => False) (fun E => E = "java/lang/UnsupportedOperationException") := by
  refine k_of (cc := cX6_edition) (maxL := 3) (ret := (some .int)) (by decide) rfl (Nat.le_of_ble_eq_true rfl) ?_
  intro p e s m args below meth c A ls hx hb hr hts hown hlocks hml hex hh hl
  have hown : s.vm.findClass RX6 = some m.cls := hown
  have hl : lv_has ls 3 [(0, .ref pa), (1, .int a1)] := hl
  refine lv_iload_n hx hb dX6_edition_0 rfl (lv_at hl 1 rfl) ?_
  refine lv_bipush (v := (-30)) hx hb dX6_edition_1 (by decide) ?_
  refine lv_bipush (v := 30) hx hb dX6_edition_3 (by decide) ?_
  refine k_callS (wr := [(pa, .inr (11, [.ref prl, .int 0, .ref ppc, .int 0, .ref ppg, .ref ppl, .ref ped, .int 0])), (ppg, .inr (9, [.ref pg1, .int 0, .ref pg2, .int 0, .ref pg3, .ref pg4]))]) (rest := []) (own := RX6) ⟨hx, hb, hml, hown, hts⟩ (c_X6_needRange_ok l hst D e0 a1 (-30) 30 h) (va_cwS 3 hts gi_c_X6_edition_0 rfl rfl rfl (by decide +kernel) ⟨Nat.le_of_ble_eq_true rfl, Nat.le_of_ble_eq_true rfl⟩) hh [] [0, 1] [] rfl rfl rfl rfl (by decide) rfl rfl hl rfl (Nat.le_of_ble_eq_true rfl) dX6_edition_5 ⟨Nat.le_of_ble_eq_true rfl, (Nat.le_of_ble_eq_true rfl)⟩ (fun _ _ _ _ _ h => h.elim) (fun v w ty1 H locs hp hh => ?_)
  obtain ⟨rfl, rfl, rfl⟩ := hp
  have hh : kH D kStr e0 A s H [(pa, .inr (11, [.ref prl, .int 0, .ref ppc, .int 0, .ref ppg, .ref ppl, .ref ped, .int 0])), (ppg, .inr (9, [.ref pg1, .int 0, .ref pg2, .int 0, .ref pg3, .ref pg4]))] [] _ := hh
  refine W.eq (g2 := F0 m 8 ls []) (by first | rfl | decide) ?_
  refine lv_aload_n hx hb dX6_edition_8 rfl (lv_at hl 0 rfl) ?_
  refine k_get (C := RX6) (T := TX6) (N := 8) (ci := 11) (v := .ref ppg) hx hb hts ws_c_X6_edition_1 hown hh 0 rfl rfl 4 (by decide) (hts _ (wo_c_X6_edition_in _ (List.mem_of_getElem? (i := 0) rfl))) rfl dX6_edition_9 ?_
  refine k_get (C := RX4) (T := TX4) (N := 6) (ci := 9) (v := .int 0) hx hb hts ws_c_X6_edition_2 hown hh 1 rfl rfl 1 (by decide) (hts _ (wo_c_X6_edition_in _ (List.mem_of_getElem? (i := 1) rfl))) rfl dX6_edition_12 ?_
  refine lv_if_ne (tgt := 28) hx hb dX6_edition_15 (by decide) (fun c_15 => absurd (by decide) c_15) (fun _ => ?_)
  exact k_throw (text := "the program has no items") (cls := "java/lang/UnsupportedOperationException") (names := ["java/lang/RuntimeException", "java/lang/Exception"]) hx hb hst hown (by decide) (by decide) (hts _ (wo_c_X6_edition_in _ (List.mem_of_getElem? (i := 2) rfl))) (hts _ (wo_c_X6_edition_in _ (List.mem_of_getElem? (i := 3) rfl))) (wt_c_X6_edition_3 hts hh) kgd_203_207 hh (by decide) hml hl dX6_edition_18 dX6_edition_21 dX6_edition_22 dX6_edition_24 dX6_edition_27 hex (Nat.le_of_ble_eq_true rfl) (Nat.le_of_ble_eq_true rfl) (Nat.le_of_ble_eq_true rfl) (Nat.le_of_ble_eq_true rfl) hlocks rfl (Nat.le_of_ble_eq_true rfl) (Nat.le_of_ble_eq_true rfl)
def wo_c_X6_edition_bad : List Cond := []
def wk_c_X6_edition_bad : List Cond := Cond.code yX6_edition cX6_edition 3 (some .int) :: (wo_c_X6_edition_bad ++ (va_wsS RX6 57 yX6_needRange wk_c_X6_needRange_bad))
theorem wo_c_X6_edition_bad_in : ∀ w ∈ wo_c_X6_edition_bad, w ∈ wk_c_X6_edition_bad := fun w h => List.mem_cons_of_mem _ (List.mem_append_left _ h)
theorem gi_c_X6_edition_bad_0 : GoodIn wk_c_X6_edition_bad (va_wsS RX6 57 yX6_needRange wk_c_X6_needRange_bad) := fun w h => ⟨List.mem_cons_of_mem _ (List.mem_append_right _ h), good_of_word (kg_S gk_c_X6_needRange_bad w h)⟩
theorem gk_c_X6_edition_bad : ∀ w ∈ wk_c_X6_edition_bad, goodWord w = true := List.forall_mem_cons.mpr ⟨rfl, (List.forall_mem_append.mpr ⟨(show ∀ w ∈ wo_c_X6_edition_bad, goodWord w = true by decide +kernel), (kg_S gk_c_X6_needRange_bad)⟩)⟩
set_option maxHeartbeats 4000000 in
set_option maxRecDepth 100000 in
theorem c_X6_edition_bad (l : Launch) (hst : l.stackTraces = false) (D : va_G) (e0 : kE) (pa : Nat) (prl : Nat) (ppc : Nat) (ppg : Nat) (ppl : Nat) (ped : Nat) (a1 : Int32) (h : ¬ (-30 ≤ a1 ∧ a1 ≤ 30)) : kM l yX6_edition wk_c_X6_edition_bad 7 122 1 6 D kStr e0 [] [(pa, .inr (11, [.ref prl, .int 0, .ref ppc, .int 0, .ref ppg, .ref ppl, .ref ped, .int 0]))] [.ref pa, .int a1] (fun _ _ _ => False) (fun E => E = "java/lang/IllegalArgumentException") := by
  refine k_of (cc := cX6_edition) (maxL := 3) (ret := (some .int)) (by decide) rfl (Nat.le_of_ble_eq_true rfl) ?_
  intro p e s m args below meth c A ls hx hb hr hts hown hlocks hml hex hh hl
  have hown : s.vm.findClass RX6 = some m.cls := hown
  have hl : lv_has ls 3 [(0, .ref pa), (1, .int a1)] := hl
  refine lv_iload_n hx hb dX6_edition_0 rfl (lv_at hl 1 rfl) ?_
  refine lv_bipush (v := (-30)) hx hb dX6_edition_1 (by decide) ?_
  refine lv_bipush (v := 30) hx hb dX6_edition_3 (by decide) ?_
  refine k_callS (wr := [(pa, .inr (11, [.ref prl, .int 0, .ref ppc, .int 0, .ref ppg, .ref ppl, .ref ped, .int 0]))]) (rest := []) (own := RX6) ⟨hx, hb, hml, hown, hts⟩ (c_X6_needRange_bad l hst D e0 a1 (-30) 30 h) (va_cwS 3 hts gi_c_X6_edition_bad_0 rfl rfl rfl (by decide +kernel) ⟨Nat.le_of_ble_eq_true rfl, Nat.le_of_ble_eq_true rfl⟩) hh [] [0] [] rfl rfl rfl rfl (by decide) rfl rfl hl rfl (Nat.le_of_ble_eq_true rfl) dX6_edition_5 ⟨Nat.le_of_ble_eq_true rfl, (Nat.le_of_ble_eq_true rfl)⟩ (fun E ce q9 H locs hE hh hq hv hcl => ?_) (fun _ _ _ _ _ h _ => h.elim)
  exact k_out hex hlocks hE hh hq hv hcl (Nat.le_of_ble_eq_true rfl) (Nat.le_of_ble_eq_true rfl)
def wo_c_X6_shuffled : List Cond := [Cond.constant RX6 113 2147483646, Cond.fieldLink RX6 24 "Segueworks" "program" "LSegueworks$Program;", Cond.fieldLink RX6 133 "Segueworks$Program" "count" "I"]
def wk_c_X6_shuffled : List Cond := Cond.code yX6_shuffled cX6_shuffled 3 (some .int) :: (wo_c_X6_shuffled ++ ((va_wsS RX6 57 yX6_needRange wk_c_X6_needRange_ok) ++ ((u_ws RX6 TX6 8) ++ ((u_ws RX4 TX4 6) ++ (va_wsS RX6 118 yX6_needElement wk_c_X6_needElement)))))
theorem wo_c_X6_shuffled_in : ∀ w ∈ wo_c_X6_shuffled, w ∈ wk_c_X6_shuffled := fun w h => List.mem_cons_of_mem _ (List.mem_append_left _ h)
theorem gi_c_X6_shuffled_0 : GoodIn wk_c_X6_shuffled (va_wsS RX6 57 yX6_needRange wk_c_X6_needRange_ok) := fun w h => ⟨List.mem_cons_of_mem _ (List.mem_append_right _ (List.mem_append_left _ h)), good_of_word (kg_S gk_c_X6_needRange_ok w h)⟩
theorem ws_c_X6_shuffled_1 : ∀ w ∈ u_ws RX6 TX6 8, w ∈ wk_c_X6_shuffled := fun w h => List.mem_cons_of_mem _ (List.mem_append_right _ (List.mem_append_right _ (List.mem_append_left _ h)))
theorem ws_c_X6_shuffled_2 : ∀ w ∈ u_ws RX4 TX4 6, w ∈ wk_c_X6_shuffled := fun w h => List.mem_cons_of_mem _ (List.mem_append_right _ (List.mem_append_right _ (List.mem_append_right _ (List.mem_append_left _ h))))
theorem gi_c_X6_shuffled_3 : GoodIn wk_c_X6_shuffled (va_wsS RX6 118 yX6_needElement wk_c_X6_needElement) := fun w h => ⟨List.mem_cons_of_mem _ (List.mem_append_right _ (List.mem_append_right _ (List.mem_append_right _ (List.mem_append_right _ h)))), good_of_word (kg_S gk_c_X6_needElement w h)⟩
theorem gk_c_X6_shuffled : ∀ w ∈ wk_c_X6_shuffled, goodWord w = true := List.forall_mem_cons.mpr ⟨rfl, (List.forall_mem_append.mpr ⟨(show ∀ w ∈ wo_c_X6_shuffled, goodWord w = true by decide +kernel), (List.forall_mem_append.mpr ⟨(kg_S gk_c_X6_needRange_ok), (List.forall_mem_append.mpr ⟨(show ∀ w ∈ u_ws RX6 TX6 8, goodWord w = true by decide +kernel), (List.forall_mem_append.mpr ⟨(show ∀ w ∈ u_ws RX4 TX4 6, goodWord w = true by decide +kernel), (kg_S gk_c_X6_needElement)⟩)⟩)⟩)⟩)⟩
set_option maxHeartbeats 4000000 in
set_option maxRecDepth 100000 in
theorem c_X6_shuffled (l : Launch) (hst : l.stackTraces = false) (D : va_G) (e0 : kE) (pa : Nat) (prl : Nat) (ppc : Nat) (ppg : Nat) (ppl : Nat) (ped : Nat) (pg1 : Nat) (pg2 : Nat) (pg3 : Nat) (pg4 : Nat) (a1 : Int32) (a2 : Int32) (h : 1 ≤ a1 ∧ a1 ≤ 2147483646) : kM l yX6_shuffled wk_c_X6_shuffled 7 121 1 6 D kStr e0 [] [(pa, .inr (11, [.ref prl, .int 0, .ref ppc, .int 0, .ref ppg, .ref ppl, .ref ped, .int 0])), (ppg, .inr (9, [.ref pg1, .int 0, .ref pg2, .int 0, .ref pg3, .ref pg4]))] [.ref pa, .int a1, .int a2] (fun _ _ _ => False) (fun E => E = "java/util/NoSuchElementException") := by
  refine k_of (cc := cX6_shuffled) (maxL := 3) (ret := (some .int)) (by decide) rfl (Nat.le_of_ble_eq_true rfl) ?_
  intro p e s m args below meth c A ls hx hb hr hts hown hlocks hml hex hh hl
  have hown : s.vm.findClass RX6 = some m.cls := hown
  have hl : lv_has ls 3 [(0, .ref pa), (1, .int a1), (2, .int a2)] := hl
  refine lv_iload_n hx hb dX6_shuffled_0 rfl (lv_at hl 1 rfl) ?_
  refine lv_iconst (v := 1) hx hb dX6_shuffled_1 (by decide) ?_
  refine lv_ldc (v := 2147483646) hx hb hown (hts _ (wo_c_X6_shuffled_in _ (List.mem_of_getElem? (i := 0) rfl))) dX6_shuffled_2 ?_
  refine k_callS (wr := [(pa, .inr (11, [.ref prl, .int 0, .ref ppc, .int 0, .ref ppg, .ref ppl, .ref ped, .int 0])), (ppg, .inr (9, [.ref pg1, .int 0, .ref pg2, .int 0, .ref pg3, .ref pg4]))]) (rest := []) (own := RX6) ⟨hx, hb, hml, hown, hts⟩ (c_X6_needRange_ok l hst D e0 a1 1 2147483646 h) (va_cwS 3 hts gi_c_X6_shuffled_0 rfl rfl rfl (by decide +kernel) ⟨Nat.le_of_ble_eq_true rfl, Nat.le_of_ble_eq_true rfl⟩) hh [] [0, 1] [] rfl rfl rfl rfl (by decide) rfl rfl hl rfl (Nat.le_of_ble_eq_true rfl) dX6_shuffled_4 ⟨Nat.le_of_ble_eq_true rfl, (Nat.le_of_ble_eq_true rfl)⟩ (fun _ _ _ _ _ h => h.elim) (fun v w ty1 H locs hp hh => ?_)
  obtain ⟨rfl, rfl, rfl⟩ := hp
  have hh : kH D kStr e0 A s H [(pa, .inr (11, [.ref prl, .int 0, .ref ppc, .int 0, .ref ppg, .ref ppl, .ref ped, .int 0])), (ppg, .inr (9, [.ref pg1, .int 0, .ref pg2, .int 0, .ref pg3, .ref pg4]))] [] _ := hh
  refine W.eq (g2 := F0 m 7 ls []) (by first | rfl | decide) ?_
  refine lv_iload_n hx hb dX6_shuffled_7 rfl (lv_at hl 2 rfl) ?_
  refine lv_aload_n hx hb dX6_shuffled_8 rfl (lv_at hl 0 rfl) ?_
  refine k_get (C := RX6) (T := TX6) (N := 8) (ci := 11) (v := .ref ppg) hx hb hts ws_c_X6_shuffled_1 hown hh 0 rfl rfl 4 (by decide) (hts _ (wo_c_X6_shuffled_in _ (List.mem_of_getElem? (i := 1) rfl))) rfl dX6_shuffled_9 ?_
  refine k_get (C := RX4) (T := TX4) (N := 6) (ci := 9) (v := .int 0) hx hb hts ws_c_X6_shuffled_2 hown hh 1 rfl rfl 1 (by decide) (hts _ (wo_c_X6_shuffled_in _ (List.mem_of_getElem? (i := 2) rfl))) rfl dX6_shuffled_12 ?_
  refine k_callS (wr := [(pa, .inr (11, [.ref prl, .int 0, .ref ppc, .int 0, .ref ppg, .ref ppl, .ref ped, .int 0])), (ppg, .inr (9, [.ref pg1, .int 0, .ref pg2, .int 0, .ref pg3, .ref pg4]))]) (rest := []) (own := RX6) ⟨hx, hb, hml, hown, hts⟩ (c_X6_needElement l hst D e0 a2 ) (va_cwS 2 hts gi_c_X6_shuffled_3 rfl rfl rfl (by decide +kernel) ⟨Nat.le_of_ble_eq_true rfl, Nat.le_of_ble_eq_true rfl⟩) hh [] [0, 1] [] rfl rfl rfl rfl (by decide) rfl rfl hl rfl (Nat.le_of_ble_eq_true rfl) dX6_shuffled_15 ⟨Nat.le_of_ble_eq_true rfl, (Nat.le_of_ble_eq_true rfl)⟩ (fun E ce q9 H locs hE hh hq hv hcl => ?_) (fun _ _ _ _ _ h _ => h.elim)
  exact k_out hex hlocks hE hh hq hv hcl (Nat.le_of_ble_eq_true rfl) (Nat.le_of_ble_eq_true rfl)
def wo_c_X6_shuffled_bad : List Cond := [Cond.constant RX6 113 2147483646]
def wk_c_X6_shuffled_bad : List Cond := Cond.code yX6_shuffled cX6_shuffled 3 (some .int) :: (wo_c_X6_shuffled_bad ++ (va_wsS RX6 57 yX6_needRange wk_c_X6_needRange_bad))
theorem wo_c_X6_shuffled_bad_in : ∀ w ∈ wo_c_X6_shuffled_bad, w ∈ wk_c_X6_shuffled_bad := fun w h => List.mem_cons_of_mem _ (List.mem_append_left _ h)
theorem gi_c_X6_shuffled_bad_0 : GoodIn wk_c_X6_shuffled_bad (va_wsS RX6 57 yX6_needRange wk_c_X6_needRange_bad) := fun w h => ⟨List.mem_cons_of_mem _ (List.mem_append_right _ h), good_of_word (kg_S gk_c_X6_needRange_bad w h)⟩
theorem gk_c_X6_shuffled_bad : ∀ w ∈ wk_c_X6_shuffled_bad, goodWord w = true := List.forall_mem_cons.mpr ⟨rfl, (List.forall_mem_append.mpr ⟨(show ∀ w ∈ wo_c_X6_shuffled_bad, goodWord w = true by decide +kernel), (kg_S gk_c_X6_needRange_bad)⟩)⟩
set_option maxHeartbeats 4000000 in
set_option maxRecDepth 100000 in
theorem c_X6_shuffled_bad (l : Launch) (hst : l.stackTraces = false) (D : va_G) (e0 : kE) (pa : Nat) (prl : Nat) (ppc : Nat) (ppg : Nat) (ppl : Nat) (ped : Nat) (a1 : Int32) (a2 : Int32) (h : ¬ (1 ≤ a1 ∧ a1 ≤ 2147483646)) : kM l yX6_shuffled wk_c_X6_shuffled_bad 7 122 1 6 D kStr e0 [] [(pa, .inr (11, [.ref prl, .int 0, .ref ppc, .int 0, .ref ppg, .ref ppl, .ref ped, .int 0]))] [.ref pa, .int a1, .int a2] (fun _ _ _ => False) (fun E => E = "java/lang/IllegalArgumentException") := by
  refine k_of (cc := cX6_shuffled) (maxL := 3) (ret := (some .int)) (by decide) rfl (Nat.le_of_ble_eq_true rfl) ?_
  intro p e s m args below meth c A ls hx hb hr hts hown hlocks hml hex hh hl
  have hown : s.vm.findClass RX6 = some m.cls := hown
  have hl : lv_has ls 3 [(0, .ref pa), (1, .int a1), (2, .int a2)] := hl
  refine lv_iload_n hx hb dX6_shuffled_0 rfl (lv_at hl 1 rfl) ?_
  refine lv_iconst (v := 1) hx hb dX6_shuffled_1 (by decide) ?_
  refine lv_ldc (v := 2147483646) hx hb hown (hts _ (wo_c_X6_shuffled_bad_in _ (List.mem_of_getElem? (i := 0) rfl))) dX6_shuffled_2 ?_
  refine k_callS (wr := [(pa, .inr (11, [.ref prl, .int 0, .ref ppc, .int 0, .ref ppg, .ref ppl, .ref ped, .int 0]))]) (rest := []) (own := RX6) ⟨hx, hb, hml, hown, hts⟩ (c_X6_needRange_bad l hst D e0 a1 1 2147483646 h) (va_cwS 3 hts gi_c_X6_shuffled_bad_0 rfl rfl rfl (by decide +kernel) ⟨Nat.le_of_ble_eq_true rfl, Nat.le_of_ble_eq_true rfl⟩) hh [] [0] [] rfl rfl rfl rfl (by decide) rfl rfl hl rfl (Nat.le_of_ble_eq_true rfl) dX6_shuffled_4 ⟨Nat.le_of_ble_eq_true rfl, (Nat.le_of_ble_eq_true rfl)⟩ (fun E ce q9 H locs hE hh hq hv hcl => ?_) (fun _ _ _ _ _ h _ => h.elim)
  exact k_out hex hlocks hE hh hq hv hcl (Nat.le_of_ble_eq_true rfl) (Nat.le_of_ble_eq_true rfl)
def wo_c_X6_earned : List Cond := [Cond.fieldLink RX6 24 "Segueworks" "program" "LSegueworks$Program;", Cond.fieldLink RX6 133 "Segueworks$Program" "count" "I"]
def wk_c_X6_earned : List Cond := Cond.code yX6_earned cX6_earned 7 (some .long) :: (wo_c_X6_earned ++ ((va_wsS RX6 57 yX6_needRange wk_c_X6_needRange_ok) ++ ((u_ws RX6 TX6 8) ++ (u_ws RX4 TX4 6))))
theorem wo_c_X6_earned_in : ∀ w ∈ wo_c_X6_earned, w ∈ wk_c_X6_earned := fun w h => List.mem_cons_of_mem _ (List.mem_append_left _ h)
theorem gi_c_X6_earned_0 : GoodIn wk_c_X6_earned (va_wsS RX6 57 yX6_needRange wk_c_X6_needRange_ok) := fun w h => ⟨List.mem_cons_of_mem _ (List.mem_append_right _ (List.mem_append_left _ h)), good_of_word (kg_S gk_c_X6_needRange_ok w h)⟩
theorem ws_c_X6_earned_1 : ∀ w ∈ u_ws RX6 TX6 8, w ∈ wk_c_X6_earned := fun w h => List.mem_cons_of_mem _ (List.mem_append_right _ (List.mem_append_right _ (List.mem_append_left _ h)))
theorem ws_c_X6_earned_2 : ∀ w ∈ u_ws RX4 TX4 6, w ∈ wk_c_X6_earned := fun w h => List.mem_cons_of_mem _ (List.mem_append_right _ (List.mem_append_right _ (List.mem_append_right _ h)))
theorem gk_c_X6_earned : ∀ w ∈ wk_c_X6_earned, goodWord w = true := List.forall_mem_cons.mpr ⟨rfl, (List.forall_mem_append.mpr ⟨(show ∀ w ∈ wo_c_X6_earned, goodWord w = true by decide +kernel), (List.forall_mem_append.mpr ⟨(kg_S gk_c_X6_needRange_ok), (List.forall_mem_append.mpr ⟨(show ∀ w ∈ u_ws RX6 TX6 8, goodWord w = true by decide +kernel), (show ∀ w ∈ u_ws RX4 TX4 6, goodWord w = true by decide +kernel)⟩)⟩)⟩)⟩
set_option maxHeartbeats 4000000 in
set_option maxRecDepth 100000 in
theorem c_X6_earned (l : Launch) (hst : l.stackTraces = false) (D : va_G) (e0 : kE) (pa : Nat) (prl : Nat) (ppc : Nat) (ppg : Nat) (ppl : Nat) (ped : Nat) (pg1 : Nat) (pg2 : Nat) (pg3 : Nat) (pg4 : Nat) (a1 : Int32) (a2 : Int32) (h : 0 ≤ a1 ∧ a1 ≤ 7) (h2 : 1 ≤ a2 ∧ a2 ≤ 999) : kM l yX6_earned wk_c_X6_earned 1 22 0 0 D kStr e0 [] [(pa, .inr (11, [.ref prl, .int 0, .ref ppc, .int 0, .ref ppg, .ref ppl, .ref ped, .int 0])), (ppg, .inr (9, [.ref pg1, .int 0, .ref pg2, .int 0, .ref pg3, .ref pg4]))] [.ref pa, .int a1, .int a2] (fun v w t => v = some (.long 0) ∧ w = [] ∧ t = []) (fun _ => False) := by
  refine k_of (cc := cX6_earned) (maxL := 7) (ret := (some .long)) (by decide) rfl (Nat.le_of_ble_eq_true rfl) ?_
  intro p e s m args below meth c A ls hx hb hr hts hown hlocks hml hex hh hl
  have hown : s.vm.findClass RX6 = some m.cls := hown
  have hl : lv_has ls 7 [(0, .ref pa), (1, .int a1), (2, .int a2)] := hl
  refine lv_iload_n hx hb dX6_earned_0 rfl (lv_at hl 1 rfl) ?_
  refine lv_iconst (v := 0) hx hb dX6_earned_1 (by decide) ?_
  refine lv_bipush (v := 7) hx hb dX6_earned_2 (by decide) ?_
  refine k_callS (wr := [(pa, .inr (11, [.ref prl, .int 0, .ref ppc, .int 0, .ref ppg, .ref ppl, .ref ped, .int 0])), (ppg, .inr (9, [.ref pg1, .int 0, .ref pg2, .int 0, .ref pg3, .ref pg4]))]) (rest := []) (own := RX6) ⟨hx, hb, hml, hown, hts⟩ (c_X6_needRange_ok l hst D e0 a1 0 7 h) (va_cwS 3 hts gi_c_X6_earned_0 rfl rfl rfl (by decide +kernel) ⟨Nat.le_of_ble_eq_true rfl, Nat.le_of_ble_eq_true rfl⟩) hh [] [0, 1] [] rfl rfl rfl rfl (by decide) rfl rfl hl rfl (Nat.le_of_ble_eq_true rfl) dX6_earned_4 ⟨Nat.le_of_ble_eq_true rfl, (Nat.le_of_ble_eq_true rfl)⟩ (fun _ _ _ _ _ h => h.elim) (fun v w ty1 H locs hp hh => ?_)
  obtain ⟨rfl, rfl, rfl⟩ := hp
  have hh : kH D kStr e0 A s H [(pa, .inr (11, [.ref prl, .int 0, .ref ppc, .int 0, .ref ppg, .ref ppl, .ref ped, .int 0])), (ppg, .inr (9, [.ref pg1, .int 0, .ref pg2, .int 0, .ref pg3, .ref pg4]))] [] _ := hh
  refine W.eq (g2 := F0 m 7 ls []) (by first | rfl | decide) ?_
  refine lv_iload_n hx hb dX6_earned_7 rfl (lv_at hl 2 rfl) ?_
  refine lv_iconst (v := 1) hx hb dX6_earned_8 (by decide) ?_
  refine lv_sipush (v := 999) hx hb dX6_earned_9 (by decide) ?_
  refine k_callS (wr := [(pa, .inr (11, [.ref prl, .int 0, .ref ppc, .int 0, .ref ppg, .ref ppl, .ref ped, .int 0])), (ppg, .inr (9, [.ref pg1, .int 0, .ref pg2, .int 0, .ref pg3, .ref pg4]))]) (rest := []) (own := RX6) ⟨hx, hb, hml, hown, hts⟩ (c_X6_needRange_ok l hst D e0 a2 1 999 h2) (va_cwS 3 hts gi_c_X6_earned_0 rfl rfl rfl (by decide +kernel) ⟨Nat.le_of_ble_eq_true rfl, Nat.le_of_ble_eq_true rfl⟩) hh [] [0, 1] [] rfl rfl rfl rfl (by decide) rfl rfl hl rfl (Nat.le_of_ble_eq_true rfl) dX6_earned_12 ⟨Nat.le_of_ble_eq_true rfl, (Nat.le_of_ble_eq_true rfl)⟩ (fun _ _ _ _ _ h => h.elim) (fun v w ty1 H locs hp hh => ?_)
  obtain ⟨rfl, rfl, rfl⟩ := hp
  have hh : kH D kStr e0 A s H [(pa, .inr (11, [.ref prl, .int 0, .ref ppc, .int 0, .ref ppg, .ref ppl, .ref ped, .int 0])), (ppg, .inr (9, [.ref pg1, .int 0, .ref pg2, .int 0, .ref pg3, .ref pg4]))] [] _ := hh
  refine W.eq (g2 := F0 m 15 ls []) (by first | rfl | decide) ?_
  refine lv_lconst (v := 0) hx hb dX6_earned_15 (by decide) ?_
  refine lv_lstore_n (lv' := [(3, .long 0), (0, .ref pa), (1, .int a1), (2, .int a2)]) hx hb dX6_earned_16 rfl hl (by decide) rfl (fun ls hl => ?_)
  refine lv_iconst (v := 0) hx hb dX6_earned_17 (by decide) ?_
  refine lv_istore (lv' := [(5, .int 0), (3, .long 0), (0, .ref pa), (1, .int a1), (2, .int a2)]) hx hb dX6_earned_18 hl (by decide) rfl (fun ls hl => ?_)
  refine lv_iload hx hb dX6_earned_20 (lv_at hl 0 rfl) ?_
  refine lv_aload_n hx hb dX6_earned_22 rfl (lv_at hl 2 rfl) ?_
  refine k_get (C := RX6) (T := TX6) (N := 8) (ci := 11) (v := .ref ppg) hx hb hts ws_c_X6_earned_1 hown hh 0 rfl rfl 4 (by decide) (hts _ (wo_c_X6_earned_in _ (List.mem_of_getElem? (i := 0) rfl))) rfl dX6_earned_23 ?_
  refine k_get (C := RX4) (T := TX4) (N := 6) (ci := 9) (v := .int 0) hx hb hts ws_c_X6_earned_2 hown hh 1 rfl rfl 1 (by decide) (hts _ (wo_c_X6_earned_in _ (List.mem_of_getElem? (i := 1) rfl))) rfl dX6_earned_26 ?_
  refine lv_icmp_ge (tgt := 75) hx hb dX6_earned_29 (by decide) (fun _ => ?_) (fun c_29 => absurd (by decide) c_29)
  refine lv_lload_n hx hb dX6_earned_75 rfl (lv_at hl 1 rfl) ?_
  exact k_endl hx hb hr hlocks hh ⟨rfl, rfl, rfl⟩ [] [] rfl rfl rfl (Nat.le_of_ble_eq_true rfl) (Nat.le_of_ble_eq_true rfl) dX6_earned_76
def wo_c_X6_earned_bad1 : List Cond := []
def wk_c_X6_earned_bad1 : List Cond := Cond.code yX6_earned cX6_earned 7 (some .long) :: (wo_c_X6_earned_bad1 ++ (va_wsS RX6 57 yX6_needRange wk_c_X6_needRange_bad))
theorem wo_c_X6_earned_bad1_in : ∀ w ∈ wo_c_X6_earned_bad1, w ∈ wk_c_X6_earned_bad1 := fun w h => List.mem_cons_of_mem _ (List.mem_append_left _ h)
theorem gi_c_X6_earned_bad1_0 : GoodIn wk_c_X6_earned_bad1 (va_wsS RX6 57 yX6_needRange wk_c_X6_needRange_bad) := fun w h => ⟨List.mem_cons_of_mem _ (List.mem_append_right _ h), good_of_word (kg_S gk_c_X6_needRange_bad w h)⟩
theorem gk_c_X6_earned_bad1 : ∀ w ∈ wk_c_X6_earned_bad1, goodWord w = true := List.forall_mem_cons.mpr ⟨rfl, (List.forall_mem_append.mpr ⟨(show ∀ w ∈ wo_c_X6_earned_bad1, goodWord w = true by decide +kernel), (kg_S gk_c_X6_needRange_bad)⟩)⟩
set_option maxHeartbeats 4000000 in
set_option maxRecDepth 100000 in
theorem c_X6_earned_bad1 (l : Launch) (hst : l.stackTraces = false) (D : va_G) (e0 : kE) (pa : Nat) (prl : Nat) (ppc : Nat) (ppg : Nat) (ppl : Nat) (ped : Nat) (a1 : Int32) (a2 : Int32) (h : ¬ (0 ≤ a1 ∧ a1 ≤ 7)) : kM l yX6_earned wk_c_X6_earned_bad1 7 122 1 6 D kStr e0 [] [(pa, .inr (11, [.ref prl, .int 0, .ref ppc, .int 0, .ref ppg, .ref ppl, .ref ped, .int 0]))] [.ref pa, .int a1, .int a2] (fun _ _ _ => False) (fun E => E = "java/lang/IllegalArgumentException") := by
  refine k_of (cc := cX6_earned) (maxL := 7) (ret := (some .long)) (by decide) rfl (Nat.le_of_ble_eq_true rfl) ?_
  intro p e s m args below meth c A ls hx hb hr hts hown hlocks hml hex hh hl
  have hown : s.vm.findClass RX6 = some m.cls := hown
  have hl : lv_has ls 7 [(0, .ref pa), (1, .int a1), (2, .int a2)] := hl
  refine lv_iload_n hx hb dX6_earned_0 rfl (lv_at hl 1 rfl) ?_
  refine lv_iconst (v := 0) hx hb dX6_earned_1 (by decide) ?_
  refine lv_bipush (v := 7) hx hb dX6_earned_2 (by decide) ?_
  refine k_callS (wr := [(pa, .inr (11, [.ref prl, .int 0, .ref ppc, .int 0, .ref ppg, .ref ppl, .ref ped, .int 0]))]) (rest := []) (own := RX6) ⟨hx, hb, hml, hown, hts⟩ (c_X6_needRange_bad l hst D e0 a1 0 7 h) (va_cwS 3 hts gi_c_X6_earned_bad1_0 rfl rfl rfl (by decide +kernel) ⟨Nat.le_of_ble_eq_true rfl, Nat.le_of_ble_eq_true rfl⟩) hh [] [0] [] rfl rfl rfl rfl (by decide) rfl rfl hl rfl (Nat.le_of_ble_eq_true rfl) dX6_earned_4 ⟨Nat.le_of_ble_eq_true rfl, (Nat.le_of_ble_eq_true rfl)⟩ (fun E ce q9 H locs hE hh hq hv hcl => ?_) (fun _ _ _ _ _ h _ => h.elim)
  exact k_out hex hlocks hE hh hq hv hcl (Nat.le_of_ble_eq_true rfl) (Nat.le_of_ble_eq_true rfl)
def wo_c_X6_earned_bad2 : List Cond := []
def wk_c_X6_earned_bad2 : List Cond := Cond.code yX6_earned cX6_earned 7 (some .long) :: (wo_c_X6_earned_bad2 ++ ((va_wsS RX6 57 yX6_needRange wk_c_X6_needRange_ok) ++ (va_wsS RX6 57 yX6_needRange wk_c_X6_needRange_bad)))
theorem wo_c_X6_earned_bad2_in : ∀ w ∈ wo_c_X6_earned_bad2, w ∈ wk_c_X6_earned_bad2 := fun w h => List.mem_cons_of_mem _ (List.mem_append_left _ h)
theorem gi_c_X6_earned_bad2_0 : GoodIn wk_c_X6_earned_bad2 (va_wsS RX6 57 yX6_needRange wk_c_X6_needRange_ok) := fun w h => ⟨List.mem_cons_of_mem _ (List.mem_append_right _ (List.mem_append_left _ h)), good_of_word (kg_S gk_c_X6_needRange_ok w h)⟩
theorem gi_c_X6_earned_bad2_1 : GoodIn wk_c_X6_earned_bad2 (va_wsS RX6 57 yX6_needRange wk_c_X6_needRange_bad) := fun w h => ⟨List.mem_cons_of_mem _ (List.mem_append_right _ (List.mem_append_right _ h)), good_of_word (kg_S gk_c_X6_needRange_bad w h)⟩
theorem gk_c_X6_earned_bad2 : ∀ w ∈ wk_c_X6_earned_bad2, goodWord w = true := List.forall_mem_cons.mpr ⟨rfl, (List.forall_mem_append.mpr ⟨(show ∀ w ∈ wo_c_X6_earned_bad2, goodWord w = true by decide +kernel), (List.forall_mem_append.mpr ⟨(kg_S gk_c_X6_needRange_ok), (kg_S gk_c_X6_needRange_bad)⟩)⟩)⟩
set_option maxHeartbeats 4000000 in
set_option maxRecDepth 100000 in
theorem c_X6_earned_bad2 (l : Launch) (hst : l.stackTraces = false) (D : va_G) (e0 : kE) (pa : Nat) (prl : Nat) (ppc : Nat) (ppg : Nat) (ppl : Nat) (ped : Nat) (a1 : Int32) (a2 : Int32) (h : 0 ≤ a1 ∧ a1 ≤ 7) (h2 : ¬ (1 ≤ a2 ∧ a2 ≤ 999)) : kM l yX6_earned wk_c_X6_earned_bad2 7 122 1 6 D kStr e0 [] [(pa, .inr (11, [.ref prl, .int 0, .ref ppc, .int 0, .ref ppg, .ref ppl, .ref ped, .int 0]))] [.ref pa, .int a1, .int a2] (fun _ _ _ => False) (fun E => E = "java/lang/IllegalArgumentException") := by
  refine k_of (cc := cX6_earned) (maxL := 7) (ret := (some .long)) (by decide) rfl (Nat.le_of_ble_eq_true rfl) ?_
  intro p e s m args below meth c A ls hx hb hr hts hown hlocks hml hex hh hl
  have hown : s.vm.findClass RX6 = some m.cls := hown
  have hl : lv_has ls 7 [(0, .ref pa), (1, .int a1), (2, .int a2)] := hl
  refine lv_iload_n hx hb dX6_earned_0 rfl (lv_at hl 1 rfl) ?_
  refine lv_iconst (v := 0) hx hb dX6_earned_1 (by decide) ?_
  refine lv_bipush (v := 7) hx hb dX6_earned_2 (by decide) ?_
  refine k_callS (wr := [(pa, .inr (11, [.ref prl, .int 0, .ref ppc, .int 0, .ref ppg, .ref ppl, .ref ped, .int 0]))]) (rest := []) (own := RX6) ⟨hx, hb, hml, hown, hts⟩ (c_X6_needRange_ok l hst D e0 a1 0 7 h) (va_cwS 3 hts gi_c_X6_earned_bad2_0 rfl rfl rfl (by decide +kernel) ⟨Nat.le_of_ble_eq_true rfl, Nat.le_of_ble_eq_true rfl⟩) hh [] [0] [] rfl rfl rfl rfl (by decide) rfl rfl hl rfl (Nat.le_of_ble_eq_true rfl) dX6_earned_4 ⟨Nat.le_of_ble_eq_true rfl, (Nat.le_of_ble_eq_true rfl)⟩ (fun _ _ _ _ _ h => h.elim) (fun v w ty1 H locs hp hh => ?_)
  obtain ⟨rfl, rfl, rfl⟩ := hp
  have hh : kH D kStr e0 A s H [(pa, .inr (11, [.ref prl, .int 0, .ref ppc, .int 0, .ref ppg, .ref ppl, .ref ped, .int 0]))] [] _ := hh
  refine W.eq (g2 := F0 m 7 ls []) (by first | rfl | decide) ?_
  refine lv_iload_n hx hb dX6_earned_7 rfl (lv_at hl 2 rfl) ?_
  refine lv_iconst (v := 1) hx hb dX6_earned_8 (by decide) ?_
  refine lv_sipush (v := 999) hx hb dX6_earned_9 (by decide) ?_
  refine k_callS (wr := [(pa, .inr (11, [.ref prl, .int 0, .ref ppc, .int 0, .ref ppg, .ref ppl, .ref ped, .int 0]))]) (rest := []) (own := RX6) ⟨hx, hb, hml, hown, hts⟩ (c_X6_needRange_bad l hst D e0 a2 1 999 h2) (va_cwS 3 hts gi_c_X6_earned_bad2_1 rfl rfl rfl (by decide +kernel) ⟨Nat.le_of_ble_eq_true rfl, Nat.le_of_ble_eq_true rfl⟩) hh [] [0] [] rfl rfl rfl rfl (by decide) rfl rfl hl rfl (Nat.le_of_ble_eq_true rfl) dX6_earned_12 ⟨Nat.le_of_ble_eq_true rfl, (Nat.le_of_ble_eq_true rfl)⟩ (fun E ce q9 H locs hE hh hq hv hcl => ?_) (fun _ _ _ _ _ h _ => h.elim)
  exact k_out hex hlocks hE hh hq hv hcl (Nat.le_of_ble_eq_true rfl) (Nat.le_of_ble_eq_true rfl)
def wo_c_X6_favourite : List Cond := [Cond.fieldLink RX6 237 "Segueworks" "editionCount" "I", Cond.classLink RX6 273 "java/util/NoSuchElementException", Cond.initialized "java/util/NoSuchElementException"]
def wk_c_X6_favourite : List Cond := Cond.code yX6_favourite cX6_favourite 3 (some .int) :: (wo_c_X6_favourite ++ ((u_ws RX6 TX6 8) ++ ((kn_at 277).filter goodWord)))
theorem wo_c_X6_favourite_in : ∀ w ∈ wo_c_X6_favourite, w ∈ wk_c_X6_favourite := fun w h => List.mem_cons_of_mem _ (List.mem_append_left _ h)
theorem ws_c_X6_favourite_0 : ∀ w ∈ u_ws RX6 TX6 8, w ∈ wk_c_X6_favourite := fun w h => List.mem_cons_of_mem _ (List.mem_append_right _ (List.mem_append_left _ h))
theorem wt_c_X6_favourite_1 {D : va_G} {e0 : kE} {A : Nat → Prop} {s : State} {args : Array Value} {H : Heap} {wv : va_W} {tys : List (ClassId × FieldType)} {locs : List Loc} (hts : ∀ w ∈ wk_c_X6_favourite, w.before args s = true) (hh : kH D kStr e0 A s H wv tys locs) : ∀ w ∈ kn_at 277, w.before args s = true :=
  vx_hat (B := [Cond.castable "java/util/NoSuchElementException" "java/util/NoSuchElementException", Cond.declares (Bundle.initS "java/lang/RuntimeException"), Cond.declares (Bundle.initS "java/lang/Exception"), Cond.declares (Bundle.initS Bundle.tN)]) (fun w h => hts w (List.mem_cons_of_mem _ (List.mem_append_right _ (List.mem_append_right _ h)))) (by decide +kernel) (vx_c (hh.2.2.2.2.2.2.2.2.2.1 "java/util/NoSuchElementException" (by decide)).word (vx_c (kD_word hh (by decide)) (vx_c (kD_word hh (by decide)) (vx_c (kD_word hh (by decide)) vx_n))))
theorem gk_c_X6_favourite : ∀ w ∈ wk_c_X6_favourite, goodWord w = true := List.forall_mem_cons.mpr ⟨rfl, (List.forall_mem_append.mpr ⟨(show ∀ w ∈ wo_c_X6_favourite, goodWord w = true by decide +kernel), (List.forall_mem_append.mpr ⟨(show ∀ w ∈ u_ws RX6 TX6 8, goodWord w = true by decide +kernel), (fun w h => (List.mem_filter.mp h).2)⟩)⟩)⟩
set_option maxHeartbeats 4000000 in
set_option maxRecDepth 100000 in
theorem c_X6_favourite (l : Launch) (hst : l.stackTraces = false) (D : va_G) (e0 : kE) (pa : Nat) (prl : Nat) (ppc : Nat) (ppg : Nat) (ppl : Nat) (ped : Nat)  : kM l yX6_favourite wk_c_X6_favourite 6 100 2 12 D kStr e0 [] [(pa, .inr (11, [.ref prl, .int 0, .ref ppc, .int 0, .ref ppg, .ref ppl, .ref ped, .int 0]))] [.ref pa] (fun _ _ _ => False) (fun E => E = "java/util/NoSuchElementException") := by
  refine k_of (cc := cX6_favourite) (maxL := 3) (ret := (some .int)) (by decide) rfl (Nat.le_of_ble_eq_true rfl) ?_
  intro p e s m args below meth c A ls hx hb hr hts hown hlocks hml hex hh hl
  have hown : s.vm.findClass RX6 = some m.cls := hown
  have hl : lv_has ls 3 [(0, .ref pa)] := hl
  refine lv_iconst (v := (-1)) hx hb dX6_favourite_0 (by decide) ?_
  refine lv_istore_n (lv' := [(1, .int (-1)), (0, .ref pa)]) hx hb dX6_favourite_1 rfl hl (by decide) rfl (fun ls hl => ?_)
  refine lv_iconst (v := 0) hx hb dX6_favourite_2 (by decide) ?_
  refine lv_istore_n (lv' := [(2, .int 0), (1, .int (-1)), (0, .ref pa)]) hx hb dX6_favourite_3 rfl hl (by decide) rfl (fun ls hl => ?_)
  refine lv_iload_n hx hb dX6_favourite_4 rfl (lv_at hl 0 rfl) ?_
  refine lv_aload_n hx hb dX6_favourite_5 rfl (lv_at hl 2 rfl) ?_
  refine k_get (C := RX6) (T := TX6) (N := 8) (ci := 11) (v := .int 0) hx hb hts ws_c_X6_favourite_0 hown hh 0 rfl rfl 7 (by decide) (hts _ (wo_c_X6_favourite_in _ (List.mem_of_getElem? (i := 0) rfl))) rfl dX6_favourite_6 ?_
  refine lv_icmp_ge (tgt := 54) hx hb dX6_favourite_9 (by decide) (fun _ => ?_) (fun c_9 => absurd (by decide) c_9)
  refine lv_iload_n hx hb dX6_favourite_54 rfl (lv_at hl 1 rfl) ?_
  refine lv_if_ge (tgt := 69) hx hb dX6_favourite_55 (by decide) (fun c_55 => absurd c_55 (by decide)) (fun _ => ?_)
  exact k_throwN (text := "no edition has marks") (ic := 277) hx hb hst hown (hts _ (wo_c_X6_favourite_in _ (List.mem_of_getElem? (i := 1) rfl))) (hts _ (wo_c_X6_favourite_in _ (List.mem_of_getElem? (i := 2) rfl))) (wt_c_X6_favourite_1 hts hh) kgd_273_277 hh (by decide) hml hl dX6_favourite_58 dX6_favourite_61 dX6_favourite_62 dX6_favourite_65 dX6_favourite_68 hex (Nat.le_of_ble_eq_true rfl) (Nat.le_of_ble_eq_true rfl) (Nat.le_of_ble_eq_true rfl) (Nat.le_of_ble_eq_true rfl) hlocks rfl (Nat.le_of_ble_eq_true rfl) (Nat.le_of_ble_eq_true rfl)
def wo_c_X6_goodShare : List Cond := [Cond.fieldLink RX6 31 "Segueworks" "plant" "LSegueworks$Plant;", Cond.fieldLink RX6 322 "Segueworks$Plant" "pressedAll" "I", Cond.classLink RX6 325 "java/lang/ArithmeticException", Cond.initialized "java/lang/ArithmeticException"]
def wk_c_X6_goodShare : List Cond := Cond.code yX6_goodShare cX6_goodShare 1 (some .float) :: (wo_c_X6_goodShare ++ ((u_ws RX6 TX6 8) ++ ((u_ws RX3 TX3 11) ++ ((vx_atS RX6 329 "java/lang/ArithmeticException" ["java/lang/RuntimeException", "java/lang/Exception"]).filter goodWord))))
theorem wo_c_X6_goodShare_in : ∀ w ∈ wo_c_X6_goodShare, w ∈ wk_c_X6_goodShare := fun w h => List.mem_cons_of_mem _ (List.mem_append_left _ h)
theorem ws_c_X6_goodShare_0 : ∀ w ∈ u_ws RX6 TX6 8, w ∈ wk_c_X6_goodShare := fun w h => List.mem_cons_of_mem _ (List.mem_append_right _ (List.mem_append_left _ h))
theorem ws_c_X6_goodShare_1 : ∀ w ∈ u_ws RX3 TX3 11, w ∈ wk_c_X6_goodShare := fun w h => List.mem_cons_of_mem _ (List.mem_append_right _ (List.mem_append_right _ (List.mem_append_left _ h)))
theorem wt_c_X6_goodShare_2 {D : va_G} {e0 : kE} {A : Nat → Prop} {s : State} {args : Array Value} {H : Heap} {wv : va_W} {tys : List (ClassId × FieldType)} {locs : List Loc} (hts : ∀ w ∈ wk_c_X6_goodShare, w.before args s = true) (hh : kH D kStr e0 A s H wv tys locs) : ∀ w ∈ vx_atS RX6 329 "java/lang/ArithmeticException" ["java/lang/RuntimeException", "java/lang/Exception"], w.before args s = true :=
  vx_hat (B := [Cond.castable "java/lang/ArithmeticException" "java/lang/ArithmeticException", Cond.declares (Bundle.initS "java/lang/RuntimeException"), Cond.declares (Bundle.initS "java/lang/Exception"), Cond.declares (Bundle.initS Bundle.tN)]) (fun w h => hts w (List.mem_cons_of_mem _ (List.mem_append_right _ (List.mem_append_right _ (List.mem_append_right _ h))))) (by decide +kernel) (vx_c (hh.2.2.2.2.2.2.2.2.2.1 "java/lang/ArithmeticException" (by decide)).word (vx_c (kD_word hh (by decide)) (vx_c (kD_word hh (by decide)) (vx_c (kD_word hh (by decide)) vx_n))))
theorem gk_c_X6_goodShare : ∀ w ∈ wk_c_X6_goodShare, goodWord w = true := List.forall_mem_cons.mpr ⟨rfl, (List.forall_mem_append.mpr ⟨(show ∀ w ∈ wo_c_X6_goodShare, goodWord w = true by decide +kernel), (List.forall_mem_append.mpr ⟨(show ∀ w ∈ u_ws RX6 TX6 8, goodWord w = true by decide +kernel), (List.forall_mem_append.mpr ⟨(show ∀ w ∈ u_ws RX3 TX3 11, goodWord w = true by decide +kernel), (fun w h => (List.mem_filter.mp h).2)⟩)⟩)⟩)⟩
set_option maxHeartbeats 4000000 in
set_option maxRecDepth 100000 in
theorem c_X6_goodShare (l : Launch) (hst : l.stackTraces = false) (D : va_G) (e0 : kE) (pa : Nat) (prl : Nat) (ppc : Nat) (ppg : Nat) (ppl : Nat) (ped : Nat) (pl1 : Nat) (pl2 : Nat) (pl3 : Nat) (pl4 : Nat) (pl5 : Nat)  : kM l yX6_goodShare wk_c_X6_goodShare 6 100 2 12 D kStr e0 [] [(pa, .inr (11, [.ref prl, .int 0, .ref ppc, .int 0, .ref ppg, .ref ppl, .ref ped, .int 0])), (ppl, .inr (8, [.ref pl1, .ref pl2, .int 0, .ref pl3, .int 0, .ref pl4, .int 0, .ref pl5, .int 0, .int 0, .int 0]))] [.ref pa] (fun _ _ _ => False) (fun E => E = "java/lang/ArithmeticException") := by
  refine k_of (cc := cX6_goodShare) (maxL := 1) (ret := (some .float)) (by decide) rfl (Nat.le_of_ble_eq_true rfl) ?_
  intro p e s m args below meth c A ls hx hb hr hts hown hlocks hml hex hh hl
  have hown : s.vm.findClass RX6 = some m.cls := hown
  have hl : lv_has ls 1 [(0, .ref pa)] := hl
  refine lv_aload_n hx hb dX6_goodShare_0 rfl (lv_at hl 0 rfl) ?_
  refine k_get (C := RX6) (T := TX6) (N := 8) (ci := 11) (v := .ref ppl) hx hb hts ws_c_X6_goodShare_0 hown hh 0 rfl rfl 5 (by decide) (hts _ (wo_c_X6_goodShare_in _ (List.mem_of_getElem? (i := 0) rfl))) rfl dX6_goodShare_1 ?_
  refine k_get (C := RX3) (T := TX3) (N := 11) (ci := 8) (v := .int 0) hx hb hts ws_c_X6_goodShare_1 hown hh 1 rfl rfl 10 (by decide) (hts _ (wo_c_X6_goodShare_in _ (List.mem_of_getElem? (i := 1) rfl))) rfl dX6_goodShare_4 ?_
  refine lv_if_ne (tgt := 21) hx hb dX6_goodShare_7 (by decide) (fun c_7 => absurd (by decide) c_7) (fun _ => ?_)
  exact k_throwW (text := "no disc was pressed") (cls := "java/lang/ArithmeticException") (names := ["java/lang/RuntimeException", "java/lang/Exception"]) hx hb hst hown (by decide) (by decide) (hts _ (wo_c_X6_goodShare_in _ (List.mem_of_getElem? (i := 2) rfl))) (hts _ (wo_c_X6_goodShare_in _ (List.mem_of_getElem? (i := 3) rfl))) (wt_c_X6_goodShare_2 hts hh) kgd_325_329 hh (by decide) hml hl dX6_goodShare_10 dX6_goodShare_13 dX6_goodShare_14 dX6_goodShare_17 dX6_goodShare_20 hex (Nat.le_of_ble_eq_true rfl) (Nat.le_of_ble_eq_true rfl) (Nat.le_of_ble_eq_true rfl) (Nat.le_of_ble_eq_true rfl) hlocks rfl (Nat.le_of_ble_eq_true rfl) (Nat.le_of_ble_eq_true rfl)
def wo_c_X6_checksum : List Cond := [Cond.constantLong RX6 338 7, Cond.fieldLink RX6 340 "Segueworks" "pieceCount" "I", Cond.fieldLink RX6 24 "Segueworks" "program" "LSegueworks$Program;", Cond.fieldLink RX6 133 "Segueworks$Program" "count" "I", Cond.fieldLink RX6 31 "Segueworks" "plant" "LSegueworks$Plant;", Cond.fieldLink RX6 181 "Segueworks$Plant" "lacquerCount" "I", Cond.fieldLink RX6 224 "Segueworks$Plant" "stamperCount" "I", Cond.fieldLink RX6 237 "Segueworks" "editionCount" "I"]
def wk_c_X6_checksum : List Cond := Cond.code yX6_checksum cX6_checksum 5 (some .long) :: (wo_c_X6_checksum ++ ((u_ws RX6 TX6 8) ++ ((u_ws RX4 TX4 6) ++ (u_ws RX3 TX3 11))))
theorem wo_c_X6_checksum_in : ∀ w ∈ wo_c_X6_checksum, w ∈ wk_c_X6_checksum := fun w h => List.mem_cons_of_mem _ (List.mem_append_left _ h)
theorem ws_c_X6_checksum_0 : ∀ w ∈ u_ws RX6 TX6 8, w ∈ wk_c_X6_checksum := fun w h => List.mem_cons_of_mem _ (List.mem_append_right _ (List.mem_append_left _ h))
theorem ws_c_X6_checksum_1 : ∀ w ∈ u_ws RX4 TX4 6, w ∈ wk_c_X6_checksum := fun w h => List.mem_cons_of_mem _ (List.mem_append_right _ (List.mem_append_right _ (List.mem_append_left _ h)))
theorem ws_c_X6_checksum_2 : ∀ w ∈ u_ws RX3 TX3 11, w ∈ wk_c_X6_checksum := fun w h => List.mem_cons_of_mem _ (List.mem_append_right _ (List.mem_append_right _ (List.mem_append_right _ h)))
theorem gk_c_X6_checksum : ∀ w ∈ wk_c_X6_checksum, goodWord w = true := List.forall_mem_cons.mpr ⟨rfl, (List.forall_mem_append.mpr ⟨(show ∀ w ∈ wo_c_X6_checksum, goodWord w = true by decide +kernel), (List.forall_mem_append.mpr ⟨(show ∀ w ∈ u_ws RX6 TX6 8, goodWord w = true by decide +kernel), (List.forall_mem_append.mpr ⟨(show ∀ w ∈ u_ws RX4 TX4 6, goodWord w = true by decide +kernel), (show ∀ w ∈ u_ws RX3 TX3 11, goodWord w = true by decide +kernel)⟩)⟩)⟩)⟩
set_option maxHeartbeats 4000000 in
set_option maxRecDepth 100000 in
theorem c_X6_checksum (l : Launch) (hst : l.stackTraces = false) (D : va_G) (e0 : kE) (pa : Nat) (prl : Nat) (ppc : Nat) (ppg : Nat) (ppl : Nat) (ped : Nat) (pg1 : Nat) (pg2 : Nat) (pg3 : Nat) (pg4 : Nat) (pl1 : Nat) (pl2 : Nat) (pl3 : Nat) (pl4 : Nat) (pl5 : Nat)  : kM l yX6_checksum wk_c_X6_checksum 0 0 0 0 D kStr e0 [] [(pa, .inr (11, [.ref prl, .int 0, .ref ppc, .int 0, .ref ppg, .ref ppl, .ref ped, .int 0])), (ppg, .inr (9, [.ref pg1, .int 0, .ref pg2, .int 0, .ref pg3, .ref pg4])), (ppl, .inr (8, [.ref pl1, .ref pl2, .int 0, .ref pl3, .int 0, .ref pl4, .int 0, .ref pl5, .int 0, .int 0, .int 0]))] [.ref pa] (fun v w t => v = some (.long 7) ∧ w = [] ∧ t = []) (fun _ => False) := by
  refine k_of (cc := cX6_checksum) (maxL := 5) (ret := (some .long)) (by decide) rfl (Nat.le_of_ble_eq_true rfl) ?_
  intro p e s m args below meth c A ls hx hb hr hts hown hlocks hml hex hh hl
  have hown : s.vm.findClass RX6 = some m.cls := hown
  have hl : lv_has ls 5 [(0, .ref pa)] := hl
  refine lv_ldc2 (v := 7) hx hb hown (hts _ (wo_c_X6_checksum_in _ (List.mem_of_getElem? (i := 0) rfl))) dX6_checksum_0 ?_
  refine lv_lstore_n (lv' := [(1, .long 7), (0, .ref pa)]) hx hb dX6_checksum_3 rfl hl (by decide) rfl (fun ls hl => ?_)
  refine lv_iconst (v := 0) hx hb dX6_checksum_4 (by decide) ?_
  refine lv_istore_n (lv' := [(3, .int 0), (1, .long 7), (0, .ref pa)]) hx hb dX6_checksum_5 rfl hl (by decide) rfl (fun ls hl => ?_)
  refine lv_iload_n hx hb dX6_checksum_6 rfl (lv_at hl 0 rfl) ?_
  refine lv_aload_n hx hb dX6_checksum_7 rfl (lv_at hl 2 rfl) ?_
  refine k_get (C := RX6) (T := TX6) (N := 8) (ci := 11) (v := .int 0) hx hb hts ws_c_X6_checksum_0 hown hh 0 rfl rfl 3 (by decide) (hts _ (wo_c_X6_checksum_in _ (List.mem_of_getElem? (i := 1) rfl))) rfl dX6_checksum_8 ?_
  refine lv_icmp_ge (tgt := 58) hx hb dX6_checksum_11 (by decide) (fun _ => ?_) (fun c_11 => absurd (by decide) c_11)
  refine lv_iconst (v := 0) hx hb dX6_checksum_58 (by decide) ?_
  refine lv_istore_n (lv' := [(3, .int 0), (1, .long 7), (0, .ref pa)]) hx hb dX6_checksum_59 rfl hl (by decide) rfl (fun ls hl => ?_)
  refine lv_iload_n hx hb dX6_checksum_60 rfl (lv_at hl 0 rfl) ?_
  refine lv_aload_n hx hb dX6_checksum_61 rfl (lv_at hl 2 rfl) ?_
  refine k_get (C := RX6) (T := TX6) (N := 8) (ci := 11) (v := .ref ppg) hx hb hts ws_c_X6_checksum_0 hown hh 0 rfl rfl 4 (by decide) (hts _ (wo_c_X6_checksum_in _ (List.mem_of_getElem? (i := 2) rfl))) rfl dX6_checksum_62 ?_
  refine k_get (C := RX4) (T := TX4) (N := 6) (ci := 9) (v := .int 0) hx hb hts ws_c_X6_checksum_1 hown hh 1 rfl rfl 1 (by decide) (hts _ (wo_c_X6_checksum_in _ (List.mem_of_getElem? (i := 3) rfl))) rfl dX6_checksum_65 ?_
  refine lv_icmp_ge (tgt := 97) hx hb dX6_checksum_68 (by decide) (fun _ => ?_) (fun c_68 => absurd (by decide) c_68)
  refine lv_iconst (v := 0) hx hb dX6_checksum_97 (by decide) ?_
  refine lv_istore_n (lv' := [(3, .int 0), (1, .long 7), (0, .ref pa)]) hx hb dX6_checksum_98 rfl hl (by decide) rfl (fun ls hl => ?_)
  refine lv_iload_n hx hb dX6_checksum_99 rfl (lv_at hl 0 rfl) ?_
  refine lv_aload_n hx hb dX6_checksum_100 rfl (lv_at hl 2 rfl) ?_
  refine k_get (C := RX6) (T := TX6) (N := 8) (ci := 11) (v := .ref ppl) hx hb hts ws_c_X6_checksum_0 hown hh 0 rfl rfl 5 (by decide) (hts _ (wo_c_X6_checksum_in _ (List.mem_of_getElem? (i := 4) rfl))) rfl dX6_checksum_101 ?_
  refine k_get (C := RX3) (T := TX3) (N := 11) (ci := 8) (v := .int 0) hx hb hts ws_c_X6_checksum_2 hown hh 2 rfl rfl 2 (by decide) (hts _ (wo_c_X6_checksum_in _ (List.mem_of_getElem? (i := 5) rfl))) rfl dX6_checksum_104 ?_
  refine lv_icmp_ge (tgt := 133) hx hb dX6_checksum_107 (by decide) (fun _ => ?_) (fun c_107 => absurd (by decide) c_107)
  refine lv_iconst (v := 0) hx hb dX6_checksum_133 (by decide) ?_
  refine lv_istore_n (lv' := [(3, .int 0), (1, .long 7), (0, .ref pa)]) hx hb dX6_checksum_134 rfl hl (by decide) rfl (fun ls hl => ?_)
  refine lv_iload_n hx hb dX6_checksum_135 rfl (lv_at hl 0 rfl) ?_
  refine lv_aload_n hx hb dX6_checksum_136 rfl (lv_at hl 2 rfl) ?_
  refine k_get (C := RX6) (T := TX6) (N := 8) (ci := 11) (v := .ref ppl) hx hb hts ws_c_X6_checksum_0 hown hh 0 rfl rfl 5 (by decide) (hts _ (wo_c_X6_checksum_in _ (List.mem_of_getElem? (i := 4) rfl))) rfl dX6_checksum_137 ?_
  refine k_get (C := RX3) (T := TX3) (N := 11) (ci := 8) (v := .int 0) hx hb hts ws_c_X6_checksum_2 hown hh 2 rfl rfl 8 (by decide) (hts _ (wo_c_X6_checksum_in _ (List.mem_of_getElem? (i := 6) rfl))) rfl dX6_checksum_140 ?_
  refine lv_icmp_ge (tgt := 169) hx hb dX6_checksum_143 (by decide) (fun _ => ?_) (fun c_143 => absurd (by decide) c_143)
  refine lv_iconst (v := 0) hx hb dX6_checksum_169 (by decide) ?_
  refine lv_istore_n (lv' := [(3, .int 0), (1, .long 7), (0, .ref pa)]) hx hb dX6_checksum_170 rfl hl (by decide) rfl (fun ls hl => ?_)
  refine lv_iload_n hx hb dX6_checksum_171 rfl (lv_at hl 0 rfl) ?_
  refine lv_aload_n hx hb dX6_checksum_172 rfl (lv_at hl 2 rfl) ?_
  refine k_get (C := RX6) (T := TX6) (N := 8) (ci := 11) (v := .int 0) hx hb hts ws_c_X6_checksum_0 hown hh 0 rfl rfl 7 (by decide) (hts _ (wo_c_X6_checksum_in _ (List.mem_of_getElem? (i := 7) rfl))) rfl dX6_checksum_173 ?_
  refine lv_icmp_ge (tgt := 203) hx hb dX6_checksum_176 (by decide) (fun _ => ?_) (fun c_176 => absurd (by decide) c_176)
  refine lv_lload_n hx hb dX6_checksum_203 rfl (lv_at hl 1 rfl) ?_
  exact k_endl hx hb hr hlocks hh ⟨rfl, rfl, rfl⟩ [] [] rfl rfl rfl (Nat.le_of_ble_eq_true rfl) (Nat.le_of_ble_eq_true rfl) dX6_checksum_204
def wo_c_X4_stands : List Cond := [Cond.fieldLink RX4 27 "Segueworks$Program" "count" "I", Cond.fieldLink RX4 35 "Segueworks$Program" "length" "I"]
def wk_c_X4_stands : List Cond := Cond.code yX4_stands cX4_stands 4 (some .boolean) :: (wo_c_X4_stands ++ (u_ws RX4 TX4 6))
theorem wo_c_X4_stands_in : ∀ w ∈ wo_c_X4_stands, w ∈ wk_c_X4_stands := fun w h => List.mem_cons_of_mem _ (List.mem_append_left _ h)
theorem ws_c_X4_stands_0 : ∀ w ∈ u_ws RX4 TX4 6, w ∈ wk_c_X4_stands := fun w h => List.mem_cons_of_mem _ (List.mem_append_right _ h)
theorem gk_c_X4_stands : ∀ w ∈ wk_c_X4_stands, goodWord w = true := List.forall_mem_cons.mpr ⟨rfl, (List.forall_mem_append.mpr ⟨(show ∀ w ∈ wo_c_X4_stands, goodWord w = true by decide +kernel), (show ∀ w ∈ u_ws RX4 TX4 6, goodWord w = true by decide +kernel)⟩)⟩
set_option maxHeartbeats 4000000 in
set_option maxRecDepth 100000 in
theorem c_X4_stands (l : Launch) (hst : l.stackTraces = false) (D : va_G) (e0 : kE) (ppg : Nat) (pg1 : Nat) (pg2 : Nat) (pg3 : Nat) (pg4 : Nat)  : kM l yX4_stands wk_c_X4_stands 0 0 0 0 D kStr e0 [] [(ppg, .inr (9, [.ref pg1, .int 0, .ref pg2, .int 0, .ref pg3, .ref pg4]))] [.ref ppg] (fun v w t => v = some (.int 1) ∧ w = [(ppg, .inr (9, [.ref pg1, .int 0, .ref pg2, .int 0, .ref pg3, .ref pg4]))] ∧ t = []) (fun _ => False) := by
  refine k_of (cc := cX4_stands) (maxL := 4) (ret := (some .boolean)) (by decide) rfl (Nat.le_of_ble_eq_true rfl) ?_
  intro p e s m args below meth c A ls hx hb hr hts hown hlocks hml hex hh hl
  have hown : s.vm.findClass RX4 = some m.cls := hown
  have hl : lv_has ls 4 [(0, .ref ppg)] := hl
  refine lv_iconst (v := 0) hx hb dX4_stands_0 (by decide) ?_
  refine lv_istore_n (lv' := [(1, .int 0), (0, .ref ppg)]) hx hb dX4_stands_1 rfl hl (by decide) rfl (fun ls hl => ?_)
  refine lv_iconst (v := 0) hx hb dX4_stands_2 (by decide) ?_
  refine lv_istore_n (lv' := [(2, .int 0), (1, .int 0), (0, .ref ppg)]) hx hb dX4_stands_3 rfl hl (by decide) rfl (fun ls hl => ?_)
  refine lv_iload_n hx hb dX4_stands_4 rfl (lv_at hl 0 rfl) ?_
  refine lv_aload_n hx hb dX4_stands_5 rfl (lv_at hl 2 rfl) ?_
  refine k_get (C := RX4) (T := TX4) (N := 6) (ci := 9) (v := .int 0) hx hb hts ws_c_X4_stands_0 hown hh 0 rfl rfl 1 (by decide) (hts _ (wo_c_X4_stands_in _ (List.mem_of_getElem? (i := 0) rfl))) rfl dX4_stands_6 ?_
  refine lv_icmp_ge (tgt := 52) hx hb dX4_stands_9 (by decide) (fun _ => ?_) (fun c_9 => absurd (by decide) c_9)
  refine lv_iload_n hx hb dX4_stands_52 rfl (lv_at hl 1 rfl) ?_
  refine lv_aload_n hx hb dX4_stands_53 rfl (lv_at hl 2 rfl) ?_
  refine k_get (C := RX4) (T := TX4) (N := 6) (ci := 9) (v := .int 0) hx hb hts ws_c_X4_stands_0 hown hh 0 rfl rfl 3 (by decide) (hts _ (wo_c_X4_stands_in _ (List.mem_of_getElem? (i := 1) rfl))) rfl dX4_stands_54 ?_
  refine lv_icmp_ne (tgt := 64) hx hb dX4_stands_57 (by decide) (fun c_57 => absurd (by decide) c_57) (fun _ => ?_)
  refine lv_iconst (v := 1) hx hb dX4_stands_60 (by decide) ?_
  refine lv_goto (tgt := 65) hx hb dX4_stands_61 (by decide) ?_
  exact k_endz (ty := .boolean) (by decide) hx hb hr hlocks hh ⟨rfl, rfl, rfl⟩ [0] [] rfl rfl rfl (Nat.le_of_ble_eq_true rfl) (Nat.le_of_ble_eq_true rfl) dX4_stands_65
def wo_c_X6_isTrue : List Cond := [Cond.fieldLink RX6 340 "Segueworks" "pieceCount" "I", Cond.fieldLink RX6 237 "Segueworks" "editionCount" "I", Cond.fieldLink RX6 24 "Segueworks" "program" "LSegueworks$Program;"]
def wk_c_X6_isTrue : List Cond := Cond.code yX6_isTrue cX6_isTrue 2 (some .boolean) :: (wo_c_X6_isTrue ++ ((u_ws RX6 TX6 8) ++ (wsV RX6 353 RX4 yX4_stands wk_c_X4_stands)))
theorem wo_c_X6_isTrue_in : ∀ w ∈ wo_c_X6_isTrue, w ∈ wk_c_X6_isTrue := fun w h => List.mem_cons_of_mem _ (List.mem_append_left _ h)
theorem ws_c_X6_isTrue_0 : ∀ w ∈ u_ws RX6 TX6 8, w ∈ wk_c_X6_isTrue := fun w h => List.mem_cons_of_mem _ (List.mem_append_right _ (List.mem_append_left _ h))
theorem gi_c_X6_isTrue_1 : GoodIn wk_c_X6_isTrue (wsV RX6 353 RX4 yX4_stands wk_c_X4_stands) := fun w h => ⟨List.mem_cons_of_mem _ (List.mem_append_right _ (List.mem_append_right _ h)), good_of_word (kg_V gk_c_X4_stands w h)⟩
theorem gk_c_X6_isTrue : ∀ w ∈ wk_c_X6_isTrue, goodWord w = true := List.forall_mem_cons.mpr ⟨rfl, (List.forall_mem_append.mpr ⟨(show ∀ w ∈ wo_c_X6_isTrue, goodWord w = true by decide +kernel), (List.forall_mem_append.mpr ⟨(show ∀ w ∈ u_ws RX6 TX6 8, goodWord w = true by decide +kernel), (kg_V gk_c_X4_stands)⟩)⟩)⟩
set_option maxHeartbeats 4000000 in
set_option maxRecDepth 100000 in
theorem c_X6_isTrue (l : Launch) (hst : l.stackTraces = false) (D : va_G) (e0 : kE) (pa : Nat) (prl : Nat) (ppc : Nat) (ppg : Nat) (ppl : Nat) (ped : Nat) (pg1 : Nat) (pg2 : Nat) (pg3 : Nat) (pg4 : Nat)  : kM l yX6_isTrue wk_c_X6_isTrue 1 23 0 0 D kStr e0 [] [(pa, .inr (11, [.ref prl, .int 0, .ref ppc, .int 0, .ref ppg, .ref ppl, .ref ped, .int 0])), (ppg, .inr (9, [.ref pg1, .int 0, .ref pg2, .int 0, .ref pg3, .ref pg4]))] [.ref pa] (fun v w t => v = some (.int 1) ∧ w = [] ∧ t = []) (fun _ => False) := by
  refine k_of (cc := cX6_isTrue) (maxL := 2) (ret := (some .boolean)) (by decide) rfl (Nat.le_of_ble_eq_true rfl) ?_
  intro p e s m args below meth c A ls hx hb hr hts hown hlocks hml hex hh hl
  have hown : s.vm.findClass RX6 = some m.cls := hown
  have hl : lv_has ls 2 [(0, .ref pa)] := hl
  refine lv_iconst (v := 0) hx hb dX6_isTrue_0 (by decide) ?_
  refine lv_istore_n (lv' := [(1, .int 0), (0, .ref pa)]) hx hb dX6_isTrue_1 rfl hl (by decide) rfl (fun ls hl => ?_)
  refine lv_iload_n hx hb dX6_isTrue_2 rfl (lv_at hl 0 rfl) ?_
  refine lv_aload_n hx hb dX6_isTrue_3 rfl (lv_at hl 1 rfl) ?_
  refine k_get (C := RX6) (T := TX6) (N := 8) (ci := 11) (v := .int 0) hx hb hts ws_c_X6_isTrue_0 hown hh 0 rfl rfl 3 (by decide) (hts _ (wo_c_X6_isTrue_in _ (List.mem_of_getElem? (i := 0) rfl))) rfl dX6_isTrue_4 ?_
  refine lv_icmp_ge (tgt := 30) hx hb dX6_isTrue_7 (by decide) (fun _ => ?_) (fun c_7 => absurd (by decide) c_7)
  refine lv_iconst (v := 0) hx hb dX6_isTrue_30 (by decide) ?_
  refine lv_istore_n (lv' := [(1, .int 0), (0, .ref pa)]) hx hb dX6_isTrue_31 rfl hl (by decide) rfl (fun ls hl => ?_)
  refine lv_iload_n hx hb dX6_isTrue_32 rfl (lv_at hl 0 rfl) ?_
  refine lv_aload_n hx hb dX6_isTrue_33 rfl (lv_at hl 1 rfl) ?_
  refine k_get (C := RX6) (T := TX6) (N := 8) (ci := 11) (v := .int 0) hx hb hts ws_c_X6_isTrue_0 hown hh 0 rfl rfl 7 (by decide) (hts _ (wo_c_X6_isTrue_in _ (List.mem_of_getElem? (i := 1) rfl))) rfl dX6_isTrue_34 ?_
  refine lv_icmp_ge (tgt := 81) hx hb dX6_isTrue_37 (by decide) (fun _ => ?_) (fun c_37 => absurd (by decide) c_37)
  refine lv_aload_n hx hb dX6_isTrue_81 rfl (lv_at hl 1 rfl) ?_
  refine k_get (C := RX6) (T := TX6) (N := 8) (ci := 11) (v := .ref ppg) hx hb hts ws_c_X6_isTrue_0 hown hh 0 rfl rfl 4 (by decide) (hts _ (wo_c_X6_isTrue_in _ (List.mem_of_getElem? (i := 2) rfl))) rfl dX6_isTrue_82 ?_
  refine k_callV (C := RX4) (T := TX4) (N := 6) (ci := 9) (q0 := 1) (wr := [(pa, .inr (11, [.ref prl, .int 0, .ref ppc, .int 0, .ref ppg, .ref ppl, .ref ped, .int 0]))]) (rest := []) (own := RX6) ⟨hx, hb, hml, hown, hts⟩ (c_X4_stands l hst D e0 ppg pg1 pg2 pg3 pg4 ) (cwV 0 hts gi_c_X6_isTrue_1 rfl rfl rfl (by decide +kernel) ⟨Nat.le_of_ble_eq_true rfl, Nat.le_of_ble_eq_true rfl⟩) hh rfl rfl [1] [0] [] rfl rfl rfl rfl (by decide) rfl rfl hl rfl (Nat.le_of_ble_eq_true rfl) dX6_isTrue_85 ⟨Nat.le_of_ble_eq_true rfl, (Nat.le_of_ble_eq_true rfl)⟩ (fun _ _ _ _ _ h => h.elim) (fun v w ty1 H locs hp hh => ?_)
  obtain ⟨rfl, rfl, rfl⟩ := hp
  have hh : kH D kStr e0 A s H [(pa, .inr (11, [.ref prl, .int 0, .ref ppc, .int 0, .ref ppg, .ref ppl, .ref ped, .int 0])), (ppg, .inr (9, [.ref pg1, .int 0, .ref pg2, .int 0, .ref pg3, .ref pg4]))] [] _ := hh
  refine W.eq (g2 := F0 m 88 ls [.int 1]) (by first | rfl | decide) ?_
  exact k_endz (ty := .boolean) (by decide) hx hb hr hlocks hh ⟨rfl, rfl, rfl⟩ [] [] rfl rfl rfl (Nat.le_of_ble_eq_true rfl) (Nat.le_of_ble_eq_true rfl) dX6_isTrue_88
