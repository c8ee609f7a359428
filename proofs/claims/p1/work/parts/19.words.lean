theorem kt_0 : ∀ w ∈ k2_sels lw_privs, w ∈ lw_tbl := fun w h => List.mem_append_left _ h
theorem kt_1 : ∀ w ∈ tables_1_1, w ∈ lw_tbl := fun w h => List.mem_append_right _ (List.mem_append_left _ h)
theorem kt_2 : ∀ w ∈ tables_1_2, w ∈ lw_tbl := fun w h => List.mem_append_right _ (List.mem_append_right _ (List.mem_append_left _ h))
theorem kt_3 : ∀ w ∈ tables_1_3, w ∈ lw_tbl := fun w h => List.mem_append_right _ (List.mem_append_right _ (List.mem_append_right _ (List.mem_append_left _ h)))
theorem kt_4 : ∀ w ∈ tables_1_4, w ∈ lw_tbl := fun w h => List.mem_append_right _ (List.mem_append_right _ (List.mem_append_right _ (List.mem_append_right _ (List.mem_append_left _ h))))
theorem kt_5 : ∀ w ∈ tables_1_5, w ∈ lw_tbl := fun w h => List.mem_append_right _ (List.mem_append_right _ (List.mem_append_right _ (List.mem_append_right _ (List.mem_append_right _ (List.mem_append_left _ h)))))
theorem kt_6 : ∀ w ∈ tables_1_6, w ∈ lw_tbl := fun w h => List.mem_append_right _ (List.mem_append_right _ (List.mem_append_right _ (List.mem_append_right _ (List.mem_append_right _ (List.mem_append_right _ (List.mem_append_left _ h))))))
theorem kt_7 : ∀ w ∈ tables_1_7, w ∈ lw_tbl := fun w h => List.mem_append_right _ (List.mem_append_right _ (List.mem_append_right _ (List.mem_append_right _ (List.mem_append_right _ (List.mem_append_right _ (List.mem_append_right _ (List.mem_append_left _ h)))))))
theorem kt_8 : ∀ w ∈ tables_1_8, w ∈ lw_tbl := fun w h => List.mem_append_right _ (List.mem_append_right _ (List.mem_append_right _ (List.mem_append_right _ (List.mem_append_right _ (List.mem_append_right _ (List.mem_append_right _ (List.mem_append_right _ h)))))))
theorem tw_0 : Cond.classLink RX6 75 "java/lang/IndexOutOfBoundsException" ∈ lw_tbl := kt_2 _ (by decide +kernel)
theorem tw_1 : Cond.initialized "java/lang/IndexOutOfBoundsException" ∈ lw_tbl := kt_1 _ (by decide +kernel)
theorem tw_2 : Cond.code yX6_needIndex cX6_needIndex 2 none ∈ lw_tbl := kt_2 _ (by decide +kernel)
theorem tw_3 : Cond.classLink RX6 273 "java/util/NoSuchElementException" ∈ lw_tbl := kt_3 _ (by decide +kernel)
theorem tw_4 : Cond.initialized "java/util/NoSuchElementException" ∈ lw_tbl := kt_1 _ (by decide +kernel)
theorem tw_5 : Cond.code yX6_needElement cX6_needElement 2 none ∈ lw_tbl := kt_3 _ (by decide +kernel)
theorem tw_6 : Cond.code yX6_needRange cX6_needRange 3 none ∈ lw_tbl := kt_2 _ (by decide +kernel)
theorem tw_7 : Cond.classLink RX6 80 "java/lang/IllegalArgumentException" ∈ lw_tbl := kt_2 _ (by decide +kernel)
theorem tw_8 : Cond.initialized "java/lang/IllegalArgumentException" ∈ lw_tbl := kt_1 _ (by decide +kernel)
theorem tw_9 : Cond.methodLink RX6 193 yX6_needIndex ∈ lw_tbl := kt_2 _ (by decide +kernel)
theorem tw_10 : Cond.static yX6_needIndex ∈ lw_tbl := kt_2 _ (by decide +kernel)
theorem tw_11 : Cond.initialized yX6_needIndex.cls ∈ lw_tbl := kt_1 _ (by decide +kernel)
theorem tw_12 : Cond.fieldLink RX6 41 "Segueworks" "reelCount" "I" ∈ lw_tbl := kt_1 _ (by decide +kernel)
theorem tw_13 : Cond.code yX6_knownReel cX6_knownReel 2 (some (.object "Segueworks$Reel")) ∈ lw_tbl := kt_2 _ (by decide +kernel)
theorem tw_14 : Cond.fieldLink RX6 340 "Segueworks" "pieceCount" "I" ∈ lw_tbl := kt_1 _ (by decide +kernel)
theorem tw_15 : Cond.code yX6_knownPiece cX6_knownPiece 2 (some (.object "Segueworks$Piece")) ∈ lw_tbl := kt_3 _ (by decide +kernel)
theorem tw_16 : Cond.fieldLink RX6 237 "Segueworks" "editionCount" "I" ∈ lw_tbl := kt_1 _ (by decide +kernel)
theorem tw_17 : Cond.code yX6_knownEdition cX6_knownEdition 2 (some (.object "Segueworks$Edition")) ∈ lw_tbl := kt_4 _ (by decide +kernel)
theorem tw_18 : Cond.fieldLink RX6 24 "Segueworks" "program" "LSegueworks$Program;" ∈ lw_tbl := kt_1 _ (by decide +kernel)
theorem tw_19 : Cond.fieldLink RX6 133 "Segueworks$Program" "count" "I" ∈ lw_tbl := kt_1 _ (by decide +kernel)
theorem tw_20 : Cond.code yX6_knownItem cX6_knownItem 2 (some (.object "Segueworks$Item")) ∈ lw_tbl := kt_3 _ (by decide +kernel)
theorem tw_21 : Cond.methodLink RX6 53 yX6_knownReel ∈ lw_tbl := kt_2 _ (by decide +kernel)
theorem tw_22 : Cond.instanceMethod yX6_knownReel ∈ lw_tbl := kt_2 _ (by decide +kernel)
theorem tw_23 : Cond.selects RX6 yX6_knownReel yX6_knownReel ∈ lw_tbl := kt_0 _ (by decide +kernel)
theorem tw_24 : Cond.initialized RX6 ∈ lw_tbl := kt_1 _ (by decide +kernel)
theorem tw_25 : Cond.code yX6_sample cX6_sample 4 (some .int) ∈ lw_tbl := kt_2 _ (by decide +kernel)
theorem tw_26 : Cond.code yX6_wave cX6_wave 6 (some .int) ∈ lw_tbl := kt_2 _ (by decide +kernel)
theorem tw_27 : Cond.code yX6_reelLength cX6_reelLength 2 (some .int) ∈ lw_tbl := kt_2 _ (by decide +kernel)
theorem tw_28 : Cond.code yX6_cut cX6_cut 5 (some .int) ∈ lw_tbl := kt_2 _ (by decide +kernel)
theorem tw_29 : Cond.methodLink RX6 99 yX6_knownPiece ∈ lw_tbl := kt_3 _ (by decide +kernel)
theorem tw_30 : Cond.instanceMethod yX6_knownPiece ∈ lw_tbl := kt_3 _ (by decide +kernel)
theorem tw_31 : Cond.selects RX6 yX6_knownPiece yX6_knownPiece ∈ lw_tbl := kt_0 _ (by decide +kernel)
theorem tw_32 : Cond.code yX6_splice cX6_splice 7 (some .int) ∈ lw_tbl := kt_3 _ (by decide +kernel)
theorem tw_33 : Cond.code yX6_gain cX6_gain 4 (some .int) ∈ lw_tbl := kt_3 _ (by decide +kernel)
theorem tw_34 : Cond.code yX6_back cX6_back 3 (some .int) ∈ lw_tbl := kt_3 _ (by decide +kernel)
theorem tw_35 : Cond.code yX6_limit cX6_limit 6 (some .int) ∈ lw_tbl := kt_3 _ (by decide +kernel)
theorem tw_36 : Cond.code yX6_resample cX6_resample 6 (some .int) ∈ lw_tbl := kt_3 _ (by decide +kernel)
theorem tw_37 : Cond.code yX6_dither cX6_dither 4 (some .int) ∈ lw_tbl := kt_3 _ (by decide +kernel)
theorem tw_38 : Cond.code yX6_kindOf cX6_kindOf 2 (some .char) ∈ lw_tbl := kt_3 _ (by decide +kernel)
theorem tw_39 : Cond.code yX6_lengthOf cX6_lengthOf 2 (some .int) ∈ lw_tbl := kt_3 _ (by decide +kernel)
theorem tw_40 : Cond.code yX6_sampleOf cX6_sampleOf 4 (some .int) ∈ lw_tbl := kt_3 _ (by decide +kernel)
theorem tw_41 : Cond.code yX6_loudness cX6_loudness 2 (some .int) ∈ lw_tbl := kt_3 _ (by decide +kernel)
theorem tw_42 : Cond.code yX6_peak cX6_peak 2 (some .int) ∈ lw_tbl := kt_3 _ (by decide +kernel)
theorem tw_43 : Cond.code yX6_add cX6_add 4 (some .int) ∈ lw_tbl := kt_3 _ (by decide +kernel)
theorem tw_44 : Cond.code yX6_padding cX6_padding 6 (some .int) ∈ lw_tbl := kt_5 _ (by decide +kernel)
theorem tw_45 : Cond.methodLink RX6 248 yX6_knownEdition ∈ lw_tbl := kt_4 _ (by decide +kernel)
theorem tw_46 : Cond.instanceMethod yX6_knownEdition ∈ lw_tbl := kt_4 _ (by decide +kernel)
theorem tw_47 : Cond.selects RX6 yX6_knownEdition yX6_knownEdition ∈ lw_tbl := kt_0 _ (by decide +kernel)
theorem tw_48 : Cond.code yX6_editionAt cX6_editionAt 4 (some .int) ∈ lw_tbl := kt_4 _ (by decide +kernel)
theorem tw_49 : Cond.code yX6_sum cX6_sum 4 (some .int) ∈ lw_tbl := kt_4 _ (by decide +kernel)
theorem tw_50 : Cond.code yX6_match cX6_match 3 (some .int) ∈ lw_tbl := kt_4 _ (by decide +kernel)
theorem tw_51 : Cond.code yX6_difference cX6_difference 3 (some .char) ∈ lw_tbl := kt_4 _ (by decide +kernel)
theorem tw_52 : Cond.code yX6_differsAt cX6_differsAt 6 (some .int) ∈ lw_tbl := kt_4 _ (by decide +kernel)
theorem tw_53 : Cond.code yX6_damage cX6_damage 5 (some .int) ∈ lw_tbl := kt_5 _ (by decide +kernel)
theorem tw_54 : Cond.code yX6_repair cX6_repair 6 (some .int) ∈ lw_tbl := kt_5 _ (by decide +kernel)
theorem tw_55 : Cond.code yX6_vote cX6_vote 5 (some .int) ∈ lw_tbl := kt_5 _ (by decide +kernel)
theorem tw_56 : Cond.code yX6_meanMark cX6_meanMark 3 (some .double) ∈ lw_tbl := kt_5 _ (by decide +kernel)
theorem tw_57 : Cond.methodLink RX6 147 yX6_knownItem ∈ lw_tbl := kt_3 _ (by decide +kernel)
theorem tw_58 : Cond.instanceMethod yX6_knownItem ∈ lw_tbl := kt_3 _ (by decide +kernel)
theorem tw_59 : Cond.selects RX6 yX6_knownItem yX6_knownItem ∈ lw_tbl := kt_0 _ (by decide +kernel)
theorem tw_60 : Cond.code yX6_lock cX6_lock 5 (some .boolean) ∈ lw_tbl := kt_3 _ (by decide +kernel)
theorem tw_61 : Cond.code yX6_replace cX6_replace 6 (some .int) ∈ lw_tbl := kt_4 _ (by decide +kernel)
theorem tw_62 : Cond.code yX6_startOf cX6_startOf 3 (some .int) ∈ lw_tbl := kt_4 _ (by decide +kernel)
theorem tw_63 : Cond.code yX6_sideOf cX6_sideOf 3 (some .int) ∈ lw_tbl := kt_4 _ (by decide +kernel)
theorem tw_64 : Cond.code yX6_split cX6_split 6 (some .int) ∈ lw_tbl := kt_5 _ (by decide +kernel)
theorem tw_65 : Cond.code yX6_play cX6_play 4 (some .int) ∈ lw_tbl := kt_5 _ (by decide +kernel)
theorem tw_66 : Cond.fieldLink RX6 31 "Segueworks" "plant" "LSegueworks$Plant;" ∈ lw_tbl := kt_1 _ (by decide +kernel)
theorem tw_67 : Cond.fieldLink RX6 181 "Segueworks$Plant" "lacquerCount" "I" ∈ lw_tbl := kt_1 _ (by decide +kernel)
theorem tw_68 : Cond.code yX6_failedAt cX6_failedAt 2 (some .int) ∈ lw_tbl := kt_4 _ (by decide +kernel)
theorem tw_69 : Cond.code yX6_father cX6_father 2 (some .int) ∈ lw_tbl := kt_4 _ (by decide +kernel)
theorem tw_70 : Cond.fieldLink RX6 208 "Segueworks$Plant" "fatherCount" "I" ∈ lw_tbl := kt_1 _ (by decide +kernel)
theorem tw_71 : Cond.code yX6_mother cX6_mother 2 (some .int) ∈ lw_tbl := kt_4 _ (by decide +kernel)
theorem tw_72 : Cond.fieldLink RX6 216 "Segueworks$Plant" "motherCount" "I" ∈ lw_tbl := kt_1 _ (by decide +kernel)
theorem tw_73 : Cond.code yX6_stamper cX6_stamper 2 (some .int) ∈ lw_tbl := kt_4 _ (by decide +kernel)
theorem tw_74 : Cond.fieldLink RX6 224 "Segueworks$Plant" "stamperCount" "I" ∈ lw_tbl := kt_1 _ (by decide +kernel)
theorem tw_75 : Cond.code yX6_press cX6_press 3 (some .int) ∈ lw_tbl := kt_4 _ (by decide +kernel)
theorem tw_76 : Cond.methodLink RX6 118 yX6_needElement ∈ lw_tbl := kt_3 _ (by decide +kernel)
theorem tw_77 : Cond.static yX6_needElement ∈ lw_tbl := kt_3 _ (by decide +kernel)
theorem tw_78 : Cond.initialized yX6_needElement.cls ∈ lw_tbl := kt_1 _ (by decide +kernel)
theorem tw_79 : Cond.fieldLink RX6 129 "Segueworks$Program" "length" "I" ∈ lw_tbl := kt_1 _ (by decide +kernel)
theorem tw_80 : Cond.code yX6_heard cX6_heard 2 (some .int) ∈ lw_tbl := kt_4 _ (by decide +kernel)
theorem tw_81 : Cond.code yX6_programLength cX6_programLength 1 (some .int) ∈ lw_tbl := kt_1 _ (by decide +kernel)
theorem tw_82 : Cond.fieldLink RX4 27 "Segueworks$Program" "count" "I" ∈ lw_tbl := kt_1 _ (by decide +kernel)
theorem tw_83 : Cond.code yX4_takeSides cX4_takeSides 6 (some .int) ∈ lw_tbl := kt_4 _ (by decide +kernel)
theorem tw_84 : Cond.methodLink RX6 57 yX6_needRange ∈ lw_tbl := kt_2 _ (by decide +kernel)
theorem tw_85 : Cond.static yX6_needRange ∈ lw_tbl := kt_2 _ (by decide +kernel)
theorem tw_86 : Cond.initialized yX6_needRange.cls ∈ lw_tbl := kt_1 _ (by decide +kernel)
theorem tw_87 : Cond.methodLink RX6 370 yX4_takeSides ∈ lw_tbl := kt_4 _ (by decide +kernel)
theorem tw_88 : Cond.instanceMethod yX4_takeSides ∈ lw_tbl := kt_4 _ (by decide +kernel)
theorem tw_89 : Cond.selects RX4 yX4_takeSides yX4_takeSides ∈ lw_tbl := kt_4 _ (by decide +kernel)
theorem tw_90 : Cond.initialized RX4 ∈ lw_tbl := kt_1 _ (by decide +kernel)
theorem tw_91 : Cond.constant RX6 369 99999 ∈ lw_tbl := kt_4 _ (by decide +kernel)
theorem tw_92 : Cond.code yX6_fittedSides cX6_fittedSides 3 (some .int) ∈ lw_tbl := kt_4 _ (by decide +kernel)
theorem tw_93 : Cond.methodLink RX6 175 yX6_fittedSides ∈ lw_tbl := kt_4 _ (by decide +kernel)
theorem tw_94 : Cond.instanceMethod yX6_fittedSides ∈ lw_tbl := kt_4 _ (by decide +kernel)
theorem tw_95 : Cond.selects RX6 yX6_fittedSides yX6_fittedSides ∈ lw_tbl := kt_0 _ (by decide +kernel)
theorem tw_96 : Cond.code yX6_sides cX6_sides 2 (some .int) ∈ lw_tbl := kt_4 _ (by decide +kernel)
theorem tw_97 : Cond.code yX6_engrave cX6_engrave 6 (some .int) ∈ lw_tbl := kt_4 _ (by decide +kernel)
theorem tw_98 : Cond.classLink RX6 203 "java/lang/UnsupportedOperationException" ∈ lw_tbl := kt_3 _ (by decide +kernel)
theorem tw_99 : Cond.initialized "java/lang/UnsupportedOperationException" ∈ lw_tbl := kt_1 _ (by decide +kernel)
theorem tw_100 : Cond.code yX6_edition cX6_edition 3 (some .int) ∈ lw_tbl := kt_4 _ (by decide +kernel)
theorem tw_101 : Cond.constant RX6 113 2147483646 ∈ lw_tbl := kt_3 _ (by decide +kernel)
theorem tw_102 : Cond.code yX6_shuffled cX6_shuffled 3 (some .int) ∈ lw_tbl := kt_5 _ (by decide +kernel)
theorem tw_103 : Cond.code yX6_earned cX6_earned 7 (some .long) ∈ lw_tbl := kt_5 _ (by decide +kernel)
theorem tw_104 : Cond.code yX6_favourite cX6_favourite 3 (some .int) ∈ lw_tbl := kt_5 _ (by decide +kernel)
theorem tw_105 : Cond.fieldLink RX6 322 "Segueworks$Plant" "pressedAll" "I" ∈ lw_tbl := kt_1 _ (by decide +kernel)
theorem tw_106 : Cond.classLink RX6 325 "java/lang/ArithmeticException" ∈ lw_tbl := kt_5 _ (by decide +kernel)
theorem tw_107 : Cond.initialized "java/lang/ArithmeticException" ∈ lw_tbl := kt_1 _ (by decide +kernel)
theorem tw_108 : Cond.code yX6_goodShare cX6_goodShare 1 (some .float) ∈ lw_tbl := kt_5 _ (by decide +kernel)
theorem tw_109 : Cond.constantLong RX6 338 7 ∈ lw_tbl := kt_1 _ (by decide +kernel)
theorem tw_110 : Cond.code yX6_checksum cX6_checksum 5 (some .long) ∈ lw_tbl := kt_1 _ (by decide +kernel)
theorem tw_111 : Cond.fieldLink RX4 35 "Segueworks$Program" "length" "I" ∈ lw_tbl := kt_1 _ (by decide +kernel)
theorem tw_112 : Cond.code yX4_stands cX4_stands 4 (some .boolean) ∈ lw_tbl := kt_2 _ (by decide +kernel)
theorem tw_113 : Cond.methodLink RX6 353 yX4_stands ∈ lw_tbl := kt_1 _ (by decide +kernel)
theorem tw_114 : Cond.instanceMethod yX4_stands ∈ lw_tbl := kt_1 _ (by decide +kernel)
theorem tw_115 : Cond.selects RX4 yX4_stands yX4_stands ∈ lw_tbl := kt_1 _ (by decide +kernel)
theorem tw_116 : Cond.code yX6_isTrue cX6_isTrue 2 (some .boolean) ∈ lw_tbl := kt_1 _ (by decide +kernel)
theorem tw_117 : Cond.code yX11_in cX11_in 6 (some .boolean) ∈ lw_tbl := kt_6 _ (by decide +kernel)
theorem tw_118 : Cond.fieldLink RJx4a65c 48 "java/util/ArrayList" "size" "I" ∈ lw_tbl := kt_5 _ (by decide +kernel)
theorem tw_119 : Cond.code yJx4a65c_size_8abf5 cJx4a65c_size_8abf5 1 (some .int) ∈ lw_tbl := kt_5 _ (by decide +kernel)
theorem tw_120 : Cond.code yJx4a65c_isEmpty_aae02 cJx4a65c_isEmpty_aae02 1 (some .boolean) ∈ lw_tbl := kt_7 _ (by decide +kernel)
theorem tw_121 : Cond.methodLink RX11 50 yJx4a65c_size_8abf5 ∈ lw_tbl := kt_5 _ (by decide +kernel)
theorem tw_122 : Cond.instanceMethod yJx4a65c_size_8abf5 ∈ lw_tbl := kt_5 _ (by decide +kernel)
theorem tw_123 : Cond.selects RJx4a65c yJx4a65c_size_8abf5 yJx4a65c_size_8abf5 ∈ lw_tbl := kt_5 _ (by decide +kernel)
theorem tw_124 : Cond.initialized RJx4a65c ∈ lw_tbl := kt_1 _ (by decide +kernel)
theorem tw_125 : Cond.methodLink RX11 54 yX11_in ∈ lw_tbl := kt_6 _ (by decide +kernel)
theorem tw_126 : Cond.static yX11_in ∈ lw_tbl := kt_6 _ (by decide +kernel)
theorem tw_127 : Cond.initialized yX11_in.cls ∈ lw_tbl := kt_1 _ (by decide +kernel)
theorem tw_128 : Cond.fieldLink RX11 19 "SegueworksModel" "reels" "Ljava/util/ArrayList;" ∈ lw_tbl := kt_5 _ (by decide +kernel)
theorem tw_129 : Cond.fieldLink RX11 46 "SegueworksModel" "thrown" "I" ∈ lw_tbl := kt_5 _ (by decide +kernel)
theorem tw_130 : Cond.code yX11_noReel cX11_noReel 2 (some .boolean) ∈ lw_tbl := kt_6 _ (by decide +kernel)
theorem tw_131 : Cond.fieldLink RX11 25 "SegueworksModel" "pieces" "Ljava/util/ArrayList;" ∈ lw_tbl := kt_5 _ (by decide +kernel)
theorem tw_132 : Cond.code yX11_noPiece cX11_noPiece 2 (some .boolean) ∈ lw_tbl := kt_6 _ (by decide +kernel)
theorem tw_133 : Cond.fieldLink RX11 28 "SegueworksModel" "items" "Ljava/util/ArrayList;" ∈ lw_tbl := kt_5 _ (by decide +kernel)
theorem tw_134 : Cond.code yX11_noItem cX11_noItem 2 (some .boolean) ∈ lw_tbl := kt_6 _ (by decide +kernel)
theorem tw_135 : Cond.fieldLink RX11 43 "SegueworksModel" "editions" "Ljava/util/ArrayList;" ∈ lw_tbl := kt_5 _ (by decide +kernel)
theorem tw_136 : Cond.code yX11_noEdition cX11_noEdition 2 (some .boolean) ∈ lw_tbl := kt_7 _ (by decide +kernel)
theorem tw_137 : Cond.code yX11_noEditions cX11_noEditions 3 (some .boolean) ∈ lw_tbl := kt_7 _ (by decide +kernel)
theorem tw_138 : Cond.code yX11_noPlate cX11_noPlate 3 (some .boolean) ∈ lw_tbl := kt_7 _ (by decide +kernel)
theorem tw_139 : Cond.methodLink RX11 62 yX11_noReel ∈ lw_tbl := kt_6 _ (by decide +kernel)
theorem tw_140 : Cond.instanceMethod yX11_noReel ∈ lw_tbl := kt_6 _ (by decide +kernel)
theorem tw_141 : Cond.selects RX11 yX11_noReel yX11_noReel ∈ lw_tbl := kt_0 _ (by decide +kernel)
theorem tw_142 : Cond.initialized RX11 ∈ lw_tbl := kt_1 _ (by decide +kernel)
theorem tw_143 : Cond.code yX11_sample cX11_sample 3 (some .int) ∈ lw_tbl := kt_6 _ (by decide +kernel)
theorem tw_144 : Cond.code yX11_wave cX11_wave 7 (some .int) ∈ lw_tbl := kt_6 _ (by decide +kernel)
theorem tw_145 : Cond.code yX11_reelLength cX11_reelLength 2 (some .int) ∈ lw_tbl := kt_6 _ (by decide +kernel)
theorem tw_146 : Cond.code yX11_cut cX11_cut 8 (some .int) ∈ lw_tbl := kt_6 _ (by decide +kernel)
theorem tw_147 : Cond.methodLink RX11 108 yX11_noPiece ∈ lw_tbl := kt_6 _ (by decide +kernel)
theorem tw_148 : Cond.instanceMethod yX11_noPiece ∈ lw_tbl := kt_6 _ (by decide +kernel)
theorem tw_149 : Cond.selects RX11 yX11_noPiece yX11_noPiece ∈ lw_tbl := kt_0 _ (by decide +kernel)
theorem tw_150 : Cond.code yX11_gain cX11_gain 5 (some .int) ∈ lw_tbl := kt_6 _ (by decide +kernel)
theorem tw_151 : Cond.code yX11_back cX11_back 4 (some .int) ∈ lw_tbl := kt_6 _ (by decide +kernel)
theorem tw_152 : Cond.code yX11_limit cX11_limit 10 (some .int) ∈ lw_tbl := kt_6 _ (by decide +kernel)
theorem tw_153 : Cond.code yX11_resample cX11_resample 11 (some .int) ∈ lw_tbl := kt_6 _ (by decide +kernel)
theorem tw_154 : Cond.code yX11_dither cX11_dither 7 (some .int) ∈ lw_tbl := kt_6 _ (by decide +kernel)
theorem tw_155 : Cond.code yX11_kindOf cX11_kindOf 2 (some .char) ∈ lw_tbl := kt_6 _ (by decide +kernel)
theorem tw_156 : Cond.code yX11_lengthOf cX11_lengthOf 2 (some .int) ∈ lw_tbl := kt_6 _ (by decide +kernel)
theorem tw_157 : Cond.code yX11_sampleOf cX11_sampleOf 3 (some .int) ∈ lw_tbl := kt_6 _ (by decide +kernel)
theorem tw_158 : Cond.code yX11_loudness cX11_loudness 11 (some .int) ∈ lw_tbl := kt_6 _ (by decide +kernel)
theorem tw_159 : Cond.code yX11_peak cX11_peak 5 (some .int) ∈ lw_tbl := kt_6 _ (by decide +kernel)
theorem tw_160 : Cond.code yX11_add cX11_add 4 (some .int) ∈ lw_tbl := kt_6 _ (by decide +kernel)
theorem tw_161 : Cond.code yX11_padding cX11_padding 5 (some .int) ∈ lw_tbl := kt_7 _ (by decide +kernel)
theorem tw_162 : Cond.code yX11_splice cX11_splice 10 (some .int) ∈ lw_tbl := kt_6 _ (by decide +kernel)
theorem tw_163 : Cond.methodLink RX11 168 yX11_noItem ∈ lw_tbl := kt_6 _ (by decide +kernel)
theorem tw_164 : Cond.instanceMethod yX11_noItem ∈ lw_tbl := kt_6 _ (by decide +kernel)
theorem tw_165 : Cond.selects RX11 yX11_noItem yX11_noItem ∈ lw_tbl := kt_0 _ (by decide +kernel)
theorem tw_166 : Cond.code yX11_lock cX11_lock 4 (some .boolean) ∈ lw_tbl := kt_6 _ (by decide +kernel)
theorem tw_167 : Cond.code yX11_replace cX11_replace 4 (some .int) ∈ lw_tbl := kt_6 _ (by decide +kernel)
theorem tw_168 : Cond.code yX11_startOf cX11_startOf 2 (some .int) ∈ lw_tbl := kt_6 _ (by decide +kernel)
theorem tw_169 : Cond.code yX11_sideOf cX11_sideOf 4 (some .int) ∈ lw_tbl := kt_7 _ (by decide +kernel)
theorem tw_170 : Cond.code yX11_split cX11_split 6 (some .int) ∈ lw_tbl := kt_8 _ (by decide +kernel)
theorem tw_171 : Cond.code yX11_play cX11_play 3 (some .int) ∈ lw_tbl := kt_8 _ (by decide +kernel)
theorem tw_172 : Cond.methodLink RX11 231 yX11_noEdition ∈ lw_tbl := kt_7 _ (by decide +kernel)
theorem tw_173 : Cond.instanceMethod yX11_noEdition ∈ lw_tbl := kt_7 _ (by decide +kernel)
theorem tw_174 : Cond.selects RX11 yX11_noEdition yX11_noEdition ∈ lw_tbl := kt_0 _ (by decide +kernel)
theorem tw_175 : Cond.code yX11_editionAt cX11_editionAt 4 (some .int) ∈ lw_tbl := kt_7 _ (by decide +kernel)
theorem tw_176 : Cond.code yX11_sum cX11_sum 3 (some .int) ∈ lw_tbl := kt_7 _ (by decide +kernel)
theorem tw_177 : Cond.code yX11_damage cX11_damage 7 (some .int) ∈ lw_tbl := kt_7 _ (by decide +kernel)
theorem tw_178 : Cond.code yX11_vote cX11_vote 4 (some .int) ∈ lw_tbl := kt_8 _ (by decide +kernel)
theorem tw_179 : Cond.code yX11_meanMark cX11_meanMark 3 (some .double) ∈ lw_tbl := kt_8 _ (by decide +kernel)
theorem tw_180 : Cond.methodLink RX11 242 yX11_noEditions ∈ lw_tbl := kt_7 _ (by decide +kernel)
theorem tw_181 : Cond.instanceMethod yX11_noEditions ∈ lw_tbl := kt_7 _ (by decide +kernel)
theorem tw_182 : Cond.selects RX11 yX11_noEditions yX11_noEditions ∈ lw_tbl := kt_0 _ (by decide +kernel)
theorem tw_183 : Cond.code yX11_match cX11_match 4 (some .int) ∈ lw_tbl := kt_7 _ (by decide +kernel)
theorem tw_184 : Cond.code yX11_difference cX11_difference 7 (some .char) ∈ lw_tbl := kt_7 _ (by decide +kernel)
theorem tw_185 : Cond.code yX11_differsAt cX11_differsAt 7 (some .int) ∈ lw_tbl := kt_7 _ (by decide +kernel)
theorem tw_186 : Cond.code yX11_repair cX11_repair 8 (some .int) ∈ lw_tbl := kt_7 _ (by decide +kernel)
theorem tw_187 : Cond.methodLink RX11 196 yX11_noPlate ∈ lw_tbl := kt_7 _ (by decide +kernel)
theorem tw_188 : Cond.instanceMethod yX11_noPlate ∈ lw_tbl := kt_7 _ (by decide +kernel)
theorem tw_189 : Cond.selects RX11 yX11_noPlate yX11_noPlate ∈ lw_tbl := kt_0 _ (by decide +kernel)
theorem tw_190 : Cond.fieldLink RX11 31 "SegueworksModel" "lacquers" "Ljava/util/ArrayList;" ∈ lw_tbl := kt_5 _ (by decide +kernel)
theorem tw_191 : Cond.code yX11_failedAt cX11_failedAt 2 (some .int) ∈ lw_tbl := kt_7 _ (by decide +kernel)
theorem tw_192 : Cond.fieldLink RX11 40 "SegueworksModel" "stampers" "Ljava/util/ArrayList;" ∈ lw_tbl := kt_5 _ (by decide +kernel)
theorem tw_193 : Cond.code yX11_press cX11_press 6 (some .int) ∈ lw_tbl := kt_7 _ (by decide +kernel)
theorem tw_194 : Cond.code yX11_gives cX11_gives 6 (some .int) ∈ lw_tbl := kt_7 _ (by decide +kernel)
theorem tw_195 : Cond.methodLink RX11 206 yX11_gives ∈ lw_tbl := kt_7 _ (by decide +kernel)
theorem tw_196 : Cond.instanceMethod yX11_gives ∈ lw_tbl := kt_7 _ (by decide +kernel)
theorem tw_197 : Cond.selects RX11 yX11_gives yX11_gives ∈ lw_tbl := kt_0 _ (by decide +kernel)
theorem tw_198 : Cond.fieldLink RX11 34 "SegueworksModel" "fathers" "Ljava/util/ArrayList;" ∈ lw_tbl := kt_5 _ (by decide +kernel)
theorem tw_199 : Cond.code yX11_father cX11_father 2 (some .int) ∈ lw_tbl := kt_7 _ (by decide +kernel)
theorem tw_200 : Cond.fieldLink RX11 37 "SegueworksModel" "mothers" "Ljava/util/ArrayList;" ∈ lw_tbl := kt_5 _ (by decide +kernel)
theorem tw_201 : Cond.code yX11_mother cX11_mother 2 (some .int) ∈ lw_tbl := kt_7 _ (by decide +kernel)
theorem tw_202 : Cond.code yX11_stamper cX11_stamper 2 (some .int) ∈ lw_tbl := kt_7 _ (by decide +kernel)
theorem tw_203 : Cond.arrayClass .int ∈ lw_tbl := kt_1 _ (by decide +kernel)
theorem tw_204 : Cond.code yX11_together cX11_together 9 (some (.array .int)) ∈ lw_tbl := kt_6 _ (by decide +kernel)
theorem tw_205 : Cond.methodLink RX11 153 yX11_together ∈ lw_tbl := kt_6 _ (by decide +kernel)
theorem tw_206 : Cond.instanceMethod yX11_together ∈ lw_tbl := kt_6 _ (by decide +kernel)
theorem tw_207 : Cond.selects RX11 yX11_together yX11_together ∈ lw_tbl := kt_0 _ (by decide +kernel)
theorem tw_208 : Cond.code yX11_program cX11_program 1 (some (.array .int)) ∈ lw_tbl := kt_6 _ (by decide +kernel)
theorem tw_209 : Cond.methodLink RX11 157 yX11_program ∈ lw_tbl := kt_6 _ (by decide +kernel)
theorem tw_210 : Cond.instanceMethod yX11_program ∈ lw_tbl := kt_6 _ (by decide +kernel)
theorem tw_211 : Cond.selects RX11 yX11_program yX11_program ∈ lw_tbl := kt_0 _ (by decide +kernel)
theorem tw_212 : Cond.code yX11_programLength cX11_programLength 1 (some .int) ∈ lw_tbl := kt_7 _ (by decide +kernel)
theorem tw_213 : Cond.code yX11_heard cX11_heard 3 (some .int) ∈ lw_tbl := kt_7 _ (by decide +kernel)
theorem tw_214 : Cond.methodLink RX11 222 yJx4a65c_isEmpty_aae02 ∈ lw_tbl := kt_7 _ (by decide +kernel)
theorem tw_215 : Cond.instanceMethod yJx4a65c_isEmpty_aae02 ∈ lw_tbl := kt_7 _ (by decide +kernel)
theorem tw_216 : Cond.selects RJx4a65c yJx4a65c_isEmpty_aae02 yJx4a65c_isEmpty_aae02 ∈ lw_tbl := kt_7 _ (by decide +kernel)
theorem tw_217 : Cond.constantLong RX11 218 (-30) ∈ lw_tbl := kt_7 _ (by decide +kernel)
theorem tw_218 : Cond.constantLong RX11 220 30 ∈ lw_tbl := kt_7 _ (by decide +kernel)
theorem tw_219 : Cond.code yX11_edition cX11_edition 5 (some .int) ∈ lw_tbl := kt_7 _ (by decide +kernel)
theorem tw_220 : Cond.constantLong RX11 275 7 ∈ lw_tbl := kt_8 _ (by decide +kernel)
theorem tw_221 : Cond.constantLong RX11 288 999 ∈ lw_tbl := kt_8 _ (by decide +kernel)
theorem tw_222 : Cond.code yX11_earned cX11_earned 6 (some .long) ∈ lw_tbl := kt_8 _ (by decide +kernel)
theorem tw_223 : Cond.methodLink RX11 7 Lib.Math.max.name ∈ lw_tbl := kt_6 _ (by decide +kernel)
theorem tw_224 : Cond.static Lib.Math.max.name ∈ lw_tbl := kt_1 _ (by decide +kernel)
theorem tw_225 : Cond.initialized "java/lang/Math" ∈ lw_tbl := kt_1 _ (by decide +kernel)
theorem tw_226 : Cond.code Lib.Math.max.name Lib.Math.max.code 2 (some .int) ∈ lw_tbl := kt_1 _ (by decide +kernel)
theorem tw_227 : Cond.code yX11_favourite cX11_favourite 5 (some .int) ∈ lw_tbl := kt_8 _ (by decide +kernel)
theorem tw_228 : Cond.fieldLink RX11 212 "SegueworksModel" "pressed" "I" ∈ lw_tbl := kt_5 _ (by decide +kernel)
theorem tw_229 : Cond.code yX11_goodShare cX11_goodShare 1 (some .float) ∈ lw_tbl := kt_8 _ (by decide +kernel)
theorem tw_230 : Cond.code yX11_isTrue cX11_isTrue 1 (some .boolean) ∈ lw_tbl := kt_8 _ (by decide +kernel)
theorem tw_231 : Cond.code yX11_thrown cX11_thrown 1 (some .int) ∈ lw_tbl := kt_5 _ (by decide +kernel)
theorem tw_232 : Cond.methodLink RJxa1e45 1 objectInit ∈ lw_tbl := kt_5 _ (by decide +kernel)
theorem tw_233 : Cond.instanceMethod objectInit ∈ lw_tbl := kt_1 _ (by decide +kernel)
theorem tw_234 : Cond.code objectInit ⟨#[0xb1]⟩ 1 none ∈ lw_tbl := kt_1 _ (by decide +kernel)
theorem tw_235 : Cond.code yJxa1e45_init_da8c8 cJxa1e45_init_da8c8 1 none ∈ lw_tbl := kt_5 _ (by decide +kernel)
theorem tw_236 : Cond.initialized RJxa1e45 ∈ lw_tbl := kt_1 _ (by decide +kernel)
theorem tw_237 : Cond.methodLink RJxc12de 1 yJxa1e45_init_da8c8 ∈ lw_tbl := kt_5 _ (by decide +kernel)
theorem tw_238 : Cond.instanceMethod yJxa1e45_init_da8c8 ∈ lw_tbl := kt_5 _ (by decide +kernel)
theorem tw_239 : Cond.fieldLink RJxc12de 7 "java/util/AbstractList" "modCount" "I" ∈ lw_tbl := kt_5 _ (by decide +kernel)
theorem tw_240 : Cond.code yJxc12de_init_da8c8 cJxc12de_init_da8c8 1 none ∈ lw_tbl := kt_5 _ (by decide +kernel)
theorem tw_241 : Cond.initialized RJxc12de ∈ lw_tbl := kt_1 _ (by decide +kernel)
theorem tw_242 : Cond.methodLink RJx4a65c 1 yJxc12de_init_da8c8 ∈ lw_tbl := kt_5 _ (by decide +kernel)
theorem tw_243 : Cond.instanceMethod yJxc12de_init_da8c8 ∈ lw_tbl := kt_5 _ (by decide +kernel)
theorem tw_244 : Cond.fieldLink RJx4a65c 39 "java/util/ArrayList" "DEFAULTCAPACITY_EMPTY_ELEMENTDATA" "[Ljava/lang/Object;" ∈ lw_tbl := kt_5 _ (by decide +kernel)
theorem tw_245 : Cond.fieldLink RJx4a65c 9 "java/util/ArrayList" "elementData" "[Ljava/lang/Object;" ∈ lw_tbl := kt_5 _ (by decide +kernel)
theorem tw_246 : Cond.code yJx4a65c_init_da8c8 cJx4a65c_init_da8c8 1 none ∈ lw_tbl := kt_5 _ (by decide +kernel)
theorem tw_264 : Cond.fieldLink RX6 11 "Segueworks" "reels" "[LSegueworks$Reel;" ∈ lw_tbl := kt_1 _ (by decide +kernel)
theorem tw_266 : Cond.fieldLink RX6 17 "Segueworks" "pieces" "[LSegueworks$Piece;" ∈ lw_tbl := kt_1 _ (by decide +kernel)
theorem tw_280 : Cond.classLink RX11 16 RJx4a65c ∈ lw_tbl := kt_5 _ (by decide +kernel)
theorem tw_281 : Cond.instantiable RJx4a65c 3 ∈ lw_tbl := kt_5 _ (by decide +kernel)
theorem tw_282 : Cond.methodLink RX11 18 yJx4a65c_init_da8c8 ∈ lw_tbl := kt_5 _ (by decide +kernel)
theorem tw_283 : Cond.instanceMethod yJx4a65c_init_da8c8 ∈ lw_tbl := kt_5 _ (by decide +kernel)
theorem tw_285 : Cond.fieldLink RJ6 191 "java/lang/Integer$IntegerCache" "high" "I" ∈ lw_tbl := kt_6 _ (by decide +kernel)
theorem tw_286 : Cond.fieldLink RJ6 195 "java/lang/Integer$IntegerCache" "cache" "[Ljava/lang/Integer;" ∈ lw_tbl := kt_6 _ (by decide +kernel)
theorem tw_287 : Cond.code yJ6_valueOf_2dffe cJ6_valueOf_2dffe 1 (some (.object "java/lang/Integer")) ∈ lw_tbl := kt_6 _ (by decide +kernel)
theorem tw_288 : Cond.fieldLink RJx35411 1 "java/util/ArrayList$Itr" "this$0" "Ljava/util/ArrayList;" ∈ lw_tbl := kt_7 _ (by decide +kernel)
theorem tw_289 : Cond.methodLink RJx35411 7 objectInit ∈ lw_tbl := kt_7 _ (by decide +kernel)
theorem tw_290 : Cond.fieldLink RJx35411 13 "java/util/ArrayList$Itr" "lastRet" "I" ∈ lw_tbl := kt_7 _ (by decide +kernel)
theorem tw_291 : Cond.sameField "java/util/ArrayList" "java/util/AbstractList" "modCount" "I" ∈ lw_tbl := by first | exact kt_1 _ (by decide +kernel) | exact kt_2 _ (by decide +kernel) | exact kt_3 _ (by decide +kernel) | exact kt_4 _ (by decide +kernel) | exact kt_5 _ (by decide +kernel) | exact kt_6 _ (by decide +kernel) | exact kt_7 _ (by decide +kernel) | exact kt_8 _ (by decide +kernel) | exact kt_0 _ (by decide +kernel)
theorem tw_292 : Cond.fieldLink RJx35411 17 "java/util/ArrayList" "modCount" "I" ∈ lw_tbl := kt_5 _ (by decide +kernel)
theorem tw_293 : Cond.fieldLink RJx35411 22 "java/util/ArrayList$Itr" "expectedModCount" "I" ∈ lw_tbl := kt_7 _ (by decide +kernel)
theorem tw_294 : Cond.code yJx35411_init_45d68 cJx35411_init_45d68 2 none ∈ lw_tbl := kt_7 _ (by decide +kernel)
theorem tw_295 : Cond.classLink RJx4a65c 267 RJx35411 ∈ lw_tbl := kt_7 _ (by decide +kernel)
theorem tw_296 : Cond.instantiable RJx35411 4 ∈ lw_tbl := kt_7 _ (by decide +kernel)
theorem tw_297 : Cond.initialized RJx35411 ∈ lw_tbl := kt_1 _ (by decide +kernel)
theorem tw_298 : Cond.methodLink RJx4a65c 269 yJx35411_init_45d68 ∈ lw_tbl := kt_7 _ (by decide +kernel)
theorem tw_299 : Cond.instanceMethod yJx35411_init_45d68 ∈ lw_tbl := kt_7 _ (by decide +kernel)
theorem tw_300 : Cond.code yJx4a65c_iterator_32c93 cJx4a65c_iterator_32c93 1 (some (.object "java/util/Iterator")) ∈ lw_tbl := kt_7 _ (by decide +kernel)
theorem tw_301 : Cond.fieldLink RJx35411 25 "java/util/ArrayList$Itr" "cursor" "I" ∈ lw_tbl := kt_7 _ (by decide +kernel)
theorem tw_302 : Cond.code yJx35411_hasNext_aae02 cJx35411_hasNext_aae02 1 (some .boolean) ∈ lw_tbl := kt_7 _ (by decide +kernel)
theorem tw_303 : Cond.methodLink RJx4a65c 79 Lib.Math.max.name ∈ lw_tbl := kt_6 _ (by decide +kernel)
theorem tw_304 : Cond.classLink RJx4a65c 7 "java/lang/Object" ∈ lw_tbl := kt_6 _ (by decide +kernel)
theorem tw_305 : Cond.code yJx4a65c_grow_92f84 cJx4a65c_grow_92f84 4 (some (.array (.object "java/lang/Object"))) ∈ lw_tbl := kt_5 _ (by decide +kernel)
theorem tw_306 : Cond.methodLink RJx4a65c 69 yJx4a65c_grow_92f84 ∈ lw_tbl := kt_5 _ (by decide +kernel)
theorem tw_307 : Cond.instanceMethod yJx4a65c_grow_92f84 ∈ lw_tbl := kt_5 _ (by decide +kernel)
theorem tw_308 : Cond.selects RJx4a65c yJx4a65c_grow_92f84 yJx4a65c_grow_92f84 ∈ lw_tbl := kt_0 _ (by decide +kernel)
theorem tw_309 : Cond.code yJx4a65c_grow_d5877 cJx4a65c_grow_d5877 1 (some (.array (.object "java/lang/Object"))) ∈ lw_tbl := kt_5 _ (by decide +kernel)
theorem tw_310 : Cond.methodLink RJx4a65c 129 yJx4a65c_grow_d5877 ∈ lw_tbl := kt_5 _ (by decide +kernel)
theorem tw_311 : Cond.instanceMethod yJx4a65c_grow_d5877 ∈ lw_tbl := kt_5 _ (by decide +kernel)
theorem tw_312 : Cond.selects RJx4a65c yJx4a65c_grow_d5877 yJx4a65c_grow_d5877 ∈ lw_tbl := kt_0 _ (by decide +kernel)
theorem tw_313 : Cond.code yJx4a65c_add_72be8 cJx4a65c_add_72be8 4 none ∈ lw_tbl := kt_5 _ (by decide +kernel)
theorem tw_314 : Cond.methodLink RJx4a65c 131 yJx4a65c_add_72be8 ∈ lw_tbl := kt_5 _ (by decide +kernel)
theorem tw_315 : Cond.instanceMethod yJx4a65c_add_72be8 ∈ lw_tbl := kt_5 _ (by decide +kernel)
theorem tw_316 : Cond.selects RJx4a65c yJx4a65c_add_72be8 yJx4a65c_add_72be8 ∈ lw_tbl := kt_0 _ (by decide +kernel)
theorem tw_317 : Cond.fieldLink RJx4a65c 63 "java/util/ArrayList" "modCount" "I" ∈ lw_tbl := kt_5 _ (by decide +kernel)
theorem tw_318 : Cond.code yJx4a65c_add_9ea2d cJx4a65c_add_9ea2d 2 (some .boolean) ∈ lw_tbl := kt_5 _ (by decide +kernel)
theorem tw_319 : Cond.methodLink RX11 74 yJ6_valueOf_2dffe ∈ lw_tbl := kt_6 _ (by decide +kernel)
theorem tw_320 : Cond.static yJ6_valueOf_2dffe ∈ lw_tbl := kt_6 _ (by decide +kernel)
theorem tw_321 : Cond.initialized yJ6_valueOf_2dffe.cls ∈ lw_tbl := kt_1 _ (by decide +kernel)
theorem tw_322 : Cond.methodLink RX11 58 yJx4a65c_add_9ea2d ∈ lw_tbl := kt_5 _ (by decide +kernel)
theorem tw_323 : Cond.instanceMethod yJx4a65c_add_9ea2d ∈ lw_tbl := kt_5 _ (by decide +kernel)
theorem tw_324 : Cond.selects RJx4a65c yJx4a65c_add_9ea2d yJx4a65c_add_9ea2d ∈ lw_tbl := kt_5 _ (by decide +kernel)
theorem tw_325 : Cond.code yX11_sidesOf cX11_sidesOf 5 (some (.object "java/util/ArrayList")) ∈ lw_tbl := kt_7 _ (by decide +kernel)
theorem tw_326 : Cond.methodLink RX11 183 yX11_sidesOf ∈ lw_tbl := kt_7 _ (by decide +kernel)
theorem tw_327 : Cond.instanceMethod yX11_sidesOf ∈ lw_tbl := kt_7 _ (by decide +kernel)
theorem tw_328 : Cond.selects RX11 yX11_sidesOf yX11_sidesOf ∈ lw_tbl := kt_0 _ (by decide +kernel)
theorem tw_329 : Cond.constantLong RX11 181 99999 ∈ lw_tbl := kt_7 _ (by decide +kernel)
theorem tw_330 : Cond.code yX11_noSides cX11_noSides 3 (some .boolean) ∈ lw_tbl := kt_7 _ (by decide +kernel)
theorem tw_331 : Cond.methodLink RX11 187 yX11_noSides ∈ lw_tbl := kt_7 _ (by decide +kernel)
theorem tw_332 : Cond.instanceMethod yX11_noSides ∈ lw_tbl := kt_7 _ (by decide +kernel)
theorem tw_333 : Cond.selects RX11 yX11_noSides yX11_noSides ∈ lw_tbl := kt_0 _ (by decide +kernel)
theorem tw_334 : Cond.code yX11_sides cX11_sides 2 (some .int) ∈ lw_tbl := kt_7 _ (by decide +kernel)
theorem tw_335 : Cond.code yX11_engrave cX11_engrave 9 (some .int) ∈ lw_tbl := kt_7 _ (by decide +kernel)
theorem tw_336 : Cond.methodLink RX11 262 yJx4a65c_iterator_32c93 ∈ lw_tbl := kt_7 _ (by decide +kernel)
theorem tw_337 : Cond.instanceMethod yJx4a65c_iterator_32c93 ∈ lw_tbl := kt_7 _ (by decide +kernel)
theorem tw_338 : Cond.selects RJx4a65c yJx4a65c_iterator_32c93 yJx4a65c_iterator_32c93 ∈ lw_tbl := kt_7 _ (by decide +kernel)
theorem tw_339 : Cond.methodLink RX11 266 kHN ∈ lw_tbl := kt_7 _ (by decide +kernel)
theorem tw_340 : Cond.selects RJx35411 kHN yJx35411_hasNext_aae02 ∈ lw_tbl := kt_7 _ (by decide +kernel)
theorem tw_341 : Cond.instanceMethod yJx35411_hasNext_aae02 ∈ lw_tbl := kt_7 _ (by decide +kernel)
theorem tw_342 : Cond.initialized yJx35411_hasNext_aae02.cls ∈ lw_tbl := kt_1 _ (by decide +kernel)
theorem tw_343 : Cond.constantLong RX11 128 2147483646 ∈ lw_tbl := kt_6 _ (by decide +kernel)
theorem tw_344 : Cond.code yX11_shuffled cX11_shuffled 10 (some .int) ∈ lw_tbl := kt_7 _ (by decide +kernel)
theorem tw_345 : Cond.code yX11_checksum cX11_checksum 5 (some .long) ∈ lw_tbl := kt_8 _ (by decide +kernel)
theorem tw_346 : Cond.code yX11_reel cX11_reel 1 (some .int) ∈ lw_tbl := kt_5 _ (by decide +kernel)
theorem tw_347 : Cond.methodLink RX5 3 objectInit ∈ lw_tbl := kt_2 _ (by decide +kernel)
theorem tw_348 : Cond.fieldLink RX5 9 "Segueworks$Reel" "samples" "[I" ∈ lw_tbl := kt_2 _ (by decide +kernel)
theorem tw_349 : Cond.code yX5_init cX5_init 1 none ∈ lw_tbl := kt_2 _ (by decide +kernel)
theorem tw_350 : Cond.classLink RX6 9 RX5 ∈ lw_tbl := kt_1 _ (by decide +kernel)
theorem tw_351 : Cond.instantiable RX5 2 ∈ lw_tbl := kt_2 _ (by decide +kernel)
theorem tw_352 : Cond.initialized RX5 ∈ lw_tbl := kt_1 _ (by decide +kernel)
theorem tw_353 : Cond.methodLink RX6 52 yX5_init ∈ lw_tbl := kt_2 _ (by decide +kernel)
theorem tw_354 : Cond.instanceMethod yX5_init ∈ lw_tbl := kt_2 _ (by decide +kernel)
theorem tw_355 : Cond.code yX6_reel cX6_reel 1 (some .int) ∈ lw_tbl := kt_2 _ (by decide +kernel)
theorem tw_356 : Cond.code yX6_silence cX6_silence 2 (some .int) ∈ lw_tbl := kt_3 _ (by decide +kernel)
theorem tw_357 : Cond.code yX11_adds cX11_adds 5 (some .int) ∈ lw_tbl := kt_6 _ (by decide +kernel)
theorem tw_358 : Cond.methodLink RX11 100 yX11_adds ∈ lw_tbl := kt_6 _ (by decide +kernel)
theorem tw_359 : Cond.instanceMethod yX11_adds ∈ lw_tbl := kt_6 _ (by decide +kernel)
theorem tw_360 : Cond.selects RX11 yX11_adds yX11_adds ∈ lw_tbl := kt_0 _ (by decide +kernel)
theorem tw_361 : Cond.constantLong RX11 80 200 ∈ lw_tbl := kt_6 _ (by decide +kernel)
theorem tw_362 : Cond.code yX11_silence cX11_silence 2 (some .int) ∈ lw_tbl := kt_6 _ (by decide +kernel)
theorem tw_363 : Cond.methodLink RX2 51 Lib.Math.abs.name ∈ lw_tbl := kt_3 _ (by decide +kernel)
theorem tw_364 : Cond.static Lib.Math.abs.name ∈ lw_tbl := kt_3 _ (by decide +kernel)
theorem tw_365 : Cond.code Lib.Math.abs.name Lib.Math.abs.code 1 (some .int) ∈ lw_tbl := kt_3 _ (by decide +kernel)
theorem tw_366 : Cond.code yX2_widthOf cX2_widthOf 1 (some .int) ∈ lw_tbl := kt_3 _ (by decide +kernel)
theorem tw_367 : Cond.methodLink RX11 1 Lib.Math.min.name ∈ lw_tbl := kt_6 _ (by decide +kernel)
theorem tw_368 : Cond.static Lib.Math.min.name ∈ lw_tbl := kt_1 _ (by decide +kernel)
theorem tw_369 : Cond.code Lib.Math.min.name Lib.Math.min.code 2 (some .int) ∈ lw_tbl := kt_1 _ (by decide +kernel)
theorem tw_370 : Cond.code yX11_held cX11_held 1 (some .int) ∈ lw_tbl := kt_6 _ (by decide +kernel)
theorem tw_371 : Cond.methodLink RX2 3 objectInit ∈ lw_tbl := kt_2 _ (by decide +kernel)
theorem tw_372 : Cond.fieldLink RX2 9 "Segueworks$Piece" "kind" "C" ∈ lw_tbl := kt_2 _ (by decide +kernel)
theorem tw_373 : Cond.fieldLink RX2 15 "Segueworks$Piece" "source" "[I" ∈ lw_tbl := kt_2 _ (by decide +kernel)
theorem tw_374 : Cond.fieldLink RX2 19 "Segueworks$Piece" "second" "[I" ∈ lw_tbl := kt_2 _ (by decide +kernel)
theorem tw_375 : Cond.fieldLink RX2 22 "Segueworks$Piece" "setting" "I" ∈ lw_tbl := kt_2 _ (by decide +kernel)
theorem tw_376 : Cond.fieldLink RX2 26 "Segueworks$Piece" "setting2" "I" ∈ lw_tbl := kt_2 _ (by decide +kernel)
theorem tw_377 : Cond.fieldLink RX2 29 "Segueworks$Piece" "release" "I" ∈ lw_tbl := kt_2 _ (by decide +kernel)
theorem tw_378 : Cond.fieldLink RX2 32 "Segueworks$Piece" "samples" "[I" ∈ lw_tbl := kt_2 _ (by decide +kernel)
theorem tw_379 : Cond.fieldLink RX2 35 "Segueworks$Piece" "carries" "[I" ∈ lw_tbl := kt_2 _ (by decide +kernel)
theorem tw_380 : Cond.code yX2_init cX2_init 8 none ∈ lw_tbl := kt_2 _ (by decide +kernel)
theorem tw_381 : Cond.code yX2_workedOut cX2_workedOut 2 (some .int) ∈ lw_tbl := kt_1 _ (by decide +kernel)
theorem tw_382 : Cond.methodLink RX2 42 yX2_workedOut ∈ lw_tbl := kt_1 _ (by decide +kernel)
theorem tw_383 : Cond.instanceMethod yX2_workedOut ∈ lw_tbl := kt_1 _ (by decide +kernel)
theorem tw_384 : Cond.selects RX2 yX2_workedOut yX2_workedOut ∈ lw_tbl := kt_0 _ (by decide +kernel)
theorem tw_385 : Cond.initialized RX2 ∈ lw_tbl := kt_1 _ (by decide +kernel)
theorem tw_386 : Cond.methodLink RX2 48 yX2_widthOf ∈ lw_tbl := kt_3 _ (by decide +kernel)
theorem tw_387 : Cond.static yX2_widthOf ∈ lw_tbl := kt_3 _ (by decide +kernel)
theorem tw_388 : Cond.initialized yX2_widthOf.cls ∈ lw_tbl := kt_1 _ (by decide +kernel)
theorem tw_389 : Cond.fieldLink RX2 45 "Segueworks$Piece" "width" "I" ∈ lw_tbl := kt_2 _ (by decide +kernel)
theorem tw_390 : Cond.code yX2_fill cX2_fill 2 none ∈ lw_tbl := kt_3 _ (by decide +kernel)
theorem tw_391 : Cond.methodLink RX6 366 yX2_fill ∈ lw_tbl := kt_3 _ (by decide +kernel)
theorem tw_392 : Cond.instanceMethod yX2_fill ∈ lw_tbl := kt_3 _ (by decide +kernel)
theorem tw_393 : Cond.selects RX2 yX2_fill yX2_fill ∈ lw_tbl := kt_3 _ (by decide +kernel)
theorem tw_394 : Cond.code yX6_keep cX6_keep 2 (some .int) ∈ lw_tbl := kt_3 _ (by decide +kernel)
theorem tw_395 : Cond.code yX6_needPieceRoom cX6_needPieceRoom 1 none ∈ lw_tbl := kt_2 _ (by decide +kernel)
theorem tw_396 : Cond.methodLink RX6 85 yX6_needPieceRoom ∈ lw_tbl := kt_2 _ (by decide +kernel)
theorem tw_397 : Cond.instanceMethod yX6_needPieceRoom ∈ lw_tbl := kt_2 _ (by decide +kernel)
theorem tw_398 : Cond.selects RX6 yX6_needPieceRoom yX6_needPieceRoom ∈ lw_tbl := kt_0 _ (by decide +kernel)
theorem tw_399 : Cond.methodLink RX6 95 yX6_keep ∈ lw_tbl := kt_3 _ (by decide +kernel)
theorem tw_400 : Cond.instanceMethod yX6_keep ∈ lw_tbl := kt_3 _ (by decide +kernel)
theorem tw_401 : Cond.selects RX6 yX6_keep yX6_keep ∈ lw_tbl := kt_0 _ (by decide +kernel)
theorem tw_402 : Cond.classLink RX6 15 RX2 ∈ lw_tbl := kt_1 _ (by decide +kernel)
theorem tw_403 : Cond.instantiable RX2 9 ∈ lw_tbl := kt_1 _ (by decide +kernel)
theorem tw_404 : Cond.methodLink RX6 92 yX2_init ∈ lw_tbl := kt_2 _ (by decide +kernel)
theorem tw_405 : Cond.instanceMethod yX2_init ∈ lw_tbl := kt_2 _ (by decide +kernel)
theorem tw_406 : Cond.methodLink RX9 1 objectInit ∈ lw_tbl := kt_6 _ (by decide +kernel)
theorem tw_407 : Cond.fieldLink RX9 7 "SegueworksModel$Piece" "kind" "C" ∈ lw_tbl := kt_6 _ (by decide +kernel)
theorem tw_408 : Cond.fieldLink RX9 13 "SegueworksModel$Piece" "row" "[I" ∈ lw_tbl := kt_6 _ (by decide +kernel)
theorem tw_409 : Cond.code yX9_init cX9_init 3 none ∈ lw_tbl := kt_6 _ (by decide +kernel)
theorem tw_410 : Cond.methodLink RX11 90 yX11_held ∈ lw_tbl := kt_6 _ (by decide +kernel)
theorem tw_411 : Cond.static yX11_held ∈ lw_tbl := kt_6 _ (by decide +kernel)
theorem tw_412 : Cond.initialized yX11_held.cls ∈ lw_tbl := kt_1 _ (by decide +kernel)
theorem tw_413 : Cond.classLink RX11 84 RX9 ∈ lw_tbl := kt_6 _ (by decide +kernel)
theorem tw_414 : Cond.instantiable RX9 2 ∈ lw_tbl := kt_6 _ (by decide +kernel)
theorem tw_415 : Cond.initialized RX9 ∈ lw_tbl := kt_1 _ (by decide +kernel)
theorem tw_416 : Cond.methodLink RX11 94 yX9_init ∈ lw_tbl := kt_6 _ (by decide +kernel)
theorem tw_417 : Cond.instanceMethod yX9_init ∈ lw_tbl := kt_6 _ (by decide +kernel)
theorem tw_418 : Cond.methodLink RL 15 yX6_sample ∈ lw_tbl := kt_2 _ (by decide +kernel)
theorem tw_419 : Cond.instanceMethod yX6_sample ∈ lw_tbl := kt_2 _ (by decide +kernel)
theorem tw_420 : Cond.selects RX6 yX6_sample yX6_sample ∈ lw_tbl := kt_2 _ (by decide +kernel)
theorem tw_421 : Cond.classLink RL 19 "java/lang/IndexOutOfBoundsException" ∈ lw_tbl := kt_2 _ (by decide +kernel)
theorem tw_422 : Cond.codeWith yL_sample cL_sample 5 (some .int) [(0, 10, 13, 19), (0, 10, 17, 21), (0, 10, 21, 13)] ∈ lw_tbl := kt_2 _ (by decide +kernel)
theorem tw_423 : Cond.methodLink RL 23 yX6_wave ∈ lw_tbl := kt_2 _ (by decide +kernel)
theorem tw_424 : Cond.instanceMethod yX6_wave ∈ lw_tbl := kt_2 _ (by decide +kernel)
theorem tw_425 : Cond.selects RX6 yX6_wave yX6_wave ∈ lw_tbl := kt_2 _ (by decide +kernel)
theorem tw_426 : Cond.codeWith yL_wave cL_wave 7 (some .int) [(0, 14, 17, 19), (0, 14, 21, 21), (0, 14, 25, 13)] ∈ lw_tbl := kt_2 _ (by decide +kernel)
theorem tw_427 : Cond.methodLink RL 27 yX6_reelLength ∈ lw_tbl := kt_2 _ (by decide +kernel)
theorem tw_428 : Cond.instanceMethod yX6_reelLength ∈ lw_tbl := kt_2 _ (by decide +kernel)
theorem tw_429 : Cond.selects RX6 yX6_reelLength yX6_reelLength ∈ lw_tbl := kt_2 _ (by decide +kernel)
theorem tw_430 : Cond.codeWith yL_reelLength cL_reelLength 4 (some .int) [(0, 9, 12, 19)] ∈ lw_tbl := kt_2 _ (by decide +kernel)
theorem tw_431 : Cond.methodLink RL 31 yX6_cut ∈ lw_tbl := kt_2 _ (by decide +kernel)
theorem tw_432 : Cond.instanceMethod yX6_cut ∈ lw_tbl := kt_2 _ (by decide +kernel)
theorem tw_433 : Cond.selects RX6 yX6_cut yX6_cut ∈ lw_tbl := kt_2 _ (by decide +kernel)
theorem tw_434 : Cond.codeWith yL_cut cL_cut 6 (some .int) [(0, 12, 15, 19), (0, 12, 19, 21), (0, 12, 23, 13)] ∈ lw_tbl := kt_2 _ (by decide +kernel)
theorem tw_435 : Cond.methodLink RL 38 yX6_splice ∈ lw_tbl := kt_3 _ (by decide +kernel)
theorem tw_436 : Cond.instanceMethod yX6_splice ∈ lw_tbl := kt_3 _ (by decide +kernel)
theorem tw_437 : Cond.selects RX6 yX6_splice yX6_splice ∈ lw_tbl := kt_3 _ (by decide +kernel)
theorem tw_438 : Cond.codeWith yL_splice cL_splice 6 (some .int) [(0, 12, 15, 19), (0, 12, 19, 21), (0, 12, 23, 41), (0, 12, 27, 13)] ∈ lw_tbl := kt_3 _ (by decide +kernel)
theorem tw_439 : Cond.methodLink RL 43 yX6_gain ∈ lw_tbl := kt_3 _ (by decide +kernel)
theorem tw_440 : Cond.instanceMethod yX6_gain ∈ lw_tbl := kt_3 _ (by decide +kernel)
theorem tw_441 : Cond.selects RX6 yX6_gain yX6_gain ∈ lw_tbl := kt_3 _ (by decide +kernel)
theorem tw_442 : Cond.codeWith yL_gain cL_gain 5 (some .int) [(0, 10, 13, 19), (0, 10, 17, 21), (0, 10, 21, 13)] ∈ lw_tbl := kt_3 _ (by decide +kernel)
theorem tw_443 : Cond.methodLink RL 46 yX6_back ∈ lw_tbl := kt_3 _ (by decide +kernel)
theorem tw_444 : Cond.instanceMethod yX6_back ∈ lw_tbl := kt_3 _ (by decide +kernel)
theorem tw_445 : Cond.selects RX6 yX6_back yX6_back ∈ lw_tbl := kt_3 _ (by decide +kernel)
theorem tw_446 : Cond.codeWith yL_back cL_back 4 (some .int) [(0, 9, 12, 19), (0, 9, 15, 13)] ∈ lw_tbl := kt_3 _ (by decide +kernel)
theorem tw_447 : Cond.methodLink RL 49 yX6_limit ∈ lw_tbl := kt_3 _ (by decide +kernel)
theorem tw_448 : Cond.instanceMethod yX6_limit ∈ lw_tbl := kt_3 _ (by decide +kernel)
theorem tw_449 : Cond.selects RX6 yX6_limit yX6_limit ∈ lw_tbl := kt_3 _ (by decide +kernel)
theorem tw_450 : Cond.codeWith yL_limit cL_limit 7 (some .int) [(0, 14, 17, 19), (0, 14, 21, 21), (0, 14, 25, 13)] ∈ lw_tbl := kt_3 _ (by decide +kernel)
theorem tw_451 : Cond.methodLink RL 52 yX6_resample ∈ lw_tbl := kt_3 _ (by decide +kernel)
theorem tw_452 : Cond.instanceMethod yX6_resample ∈ lw_tbl := kt_3 _ (by decide +kernel)
theorem tw_453 : Cond.selects RX6 yX6_resample yX6_resample ∈ lw_tbl := kt_3 _ (by decide +kernel)
theorem tw_454 : Cond.codeWith yL_resample cL_resample 6 (some .int) [(0, 12, 15, 19), (0, 12, 19, 21), (0, 12, 23, 41), (0, 12, 27, 13)] ∈ lw_tbl := kt_3 _ (by decide +kernel)
theorem tw_455 : Cond.methodLink RL 55 yX6_dither ∈ lw_tbl := kt_3 _ (by decide +kernel)
theorem tw_456 : Cond.instanceMethod yX6_dither ∈ lw_tbl := kt_3 _ (by decide +kernel)
theorem tw_457 : Cond.selects RX6 yX6_dither yX6_dither ∈ lw_tbl := kt_3 _ (by decide +kernel)
theorem tw_458 : Cond.codeWith yL_dither cL_dither 5 (some .int) [(0, 10, 13, 19), (0, 10, 17, 21), (0, 10, 21, 13)] ∈ lw_tbl := kt_3 _ (by decide +kernel)
theorem tw_459 : Cond.methodLink RL 58 yX6_kindOf ∈ lw_tbl := kt_3 _ (by decide +kernel)
theorem tw_460 : Cond.instanceMethod yX6_kindOf ∈ lw_tbl := kt_3 _ (by decide +kernel)
theorem tw_461 : Cond.selects RX6 yX6_kindOf yX6_kindOf ∈ lw_tbl := kt_3 _ (by decide +kernel)
theorem tw_462 : Cond.codeWith yL_kindOf cL_kindOf 4 (some .int) [(0, 9, 12, 19)] ∈ lw_tbl := kt_3 _ (by decide +kernel)
theorem tw_463 : Cond.methodLink RL 62 yX6_lengthOf ∈ lw_tbl := kt_3 _ (by decide +kernel)
theorem tw_464 : Cond.instanceMethod yX6_lengthOf ∈ lw_tbl := kt_3 _ (by decide +kernel)
theorem tw_465 : Cond.selects RX6 yX6_lengthOf yX6_lengthOf ∈ lw_tbl := kt_3 _ (by decide +kernel)
theorem tw_466 : Cond.codeWith yL_lengthOf cL_lengthOf 4 (some .int) [(0, 9, 12, 19)] ∈ lw_tbl := kt_3 _ (by decide +kernel)
theorem tw_467 : Cond.methodLink RL 65 yX6_sampleOf ∈ lw_tbl := kt_3 _ (by decide +kernel)
theorem tw_468 : Cond.instanceMethod yX6_sampleOf ∈ lw_tbl := kt_3 _ (by decide +kernel)
theorem tw_469 : Cond.selects RX6 yX6_sampleOf yX6_sampleOf ∈ lw_tbl := kt_3 _ (by decide +kernel)
theorem tw_470 : Cond.codeWith yL_sampleOf cL_sampleOf 5 (some .int) [(0, 10, 13, 19), (0, 10, 17, 68)] ∈ lw_tbl := kt_3 _ (by decide +kernel)
theorem tw_471 : Cond.methodLink RL 70 yX6_loudness ∈ lw_tbl := kt_3 _ (by decide +kernel)
theorem tw_472 : Cond.instanceMethod yX6_loudness ∈ lw_tbl := kt_3 _ (by decide +kernel)
theorem tw_473 : Cond.selects RX6 yX6_loudness yX6_loudness ∈ lw_tbl := kt_3 _ (by decide +kernel)
theorem tw_474 : Cond.codeWith yL_loudness cL_loudness 4 (some .int) [(0, 9, 12, 19)] ∈ lw_tbl := kt_3 _ (by decide +kernel)
theorem tw_475 : Cond.methodLink RL 73 yX6_peak ∈ lw_tbl := kt_3 _ (by decide +kernel)
theorem tw_476 : Cond.instanceMethod yX6_peak ∈ lw_tbl := kt_3 _ (by decide +kernel)
theorem tw_477 : Cond.selects RX6 yX6_peak yX6_peak ∈ lw_tbl := kt_3 _ (by decide +kernel)
theorem tw_478 : Cond.codeWith yL_peak cL_peak 4 (some .int) [(0, 9, 12, 19)] ∈ lw_tbl := kt_3 _ (by decide +kernel)
theorem tw_479 : Cond.methodLink RL 76 yX6_add ∈ lw_tbl := kt_3 _ (by decide +kernel)
theorem tw_480 : Cond.instanceMethod yX6_add ∈ lw_tbl := kt_3 _ (by decide +kernel)
theorem tw_481 : Cond.selects RX6 yX6_add yX6_add ∈ lw_tbl := kt_3 _ (by decide +kernel)
theorem tw_482 : Cond.codeWith yL_add cL_add 5 (some .int) [(0, 10, 13, 19), (0, 10, 17, 21), (0, 10, 21, 41), (0, 10, 25, 13)] ∈ lw_tbl := kt_3 _ (by decide +kernel)
theorem tw_483 : Cond.methodLink RL 141 yX6_padding ∈ lw_tbl := kt_5 _ (by decide +kernel)
theorem tw_484 : Cond.instanceMethod yX6_padding ∈ lw_tbl := kt_5 _ (by decide +kernel)
theorem tw_485 : Cond.selects RX6 yX6_padding yX6_padding ∈ lw_tbl := kt_5 _ (by decide +kernel)
theorem tw_486 : Cond.codeWith yL_padding cL_padding 6 (some .int) [(0, 12, 15, 19), (0, 12, 19, 21)] ∈ lw_tbl := kt_5 _ (by decide +kernel)
theorem tw_487 : Cond.methodLink RL 119 yX6_editionAt ∈ lw_tbl := kt_4 _ (by decide +kernel)
theorem tw_488 : Cond.instanceMethod yX6_editionAt ∈ lw_tbl := kt_4 _ (by decide +kernel)
theorem tw_489 : Cond.selects RX6 yX6_editionAt yX6_editionAt ∈ lw_tbl := kt_4 _ (by decide +kernel)
theorem tw_490 : Cond.codeWith yL_editionAt cL_editionAt 5 (some .int) [(0, 10, 13, 19), (0, 10, 17, 68), (0, 10, 21, 41)] ∈ lw_tbl := kt_4 _ (by decide +kernel)
theorem tw_491 : Cond.methodLink RL 122 yX6_sum ∈ lw_tbl := kt_4 _ (by decide +kernel)
theorem tw_492 : Cond.instanceMethod yX6_sum ∈ lw_tbl := kt_4 _ (by decide +kernel)
theorem tw_493 : Cond.selects RX6 yX6_sum yX6_sum ∈ lw_tbl := kt_4 _ (by decide +kernel)
theorem tw_494 : Cond.codeWith yL_sum cL_sum 5 (some .int) [(0, 10, 13, 19), (0, 10, 17, 21)] ∈ lw_tbl := kt_4 _ (by decide +kernel)
theorem tw_495 : Cond.methodLink RL 125 yX6_match ∈ lw_tbl := kt_4 _ (by decide +kernel)
theorem tw_496 : Cond.instanceMethod yX6_match ∈ lw_tbl := kt_4 _ (by decide +kernel)
theorem tw_497 : Cond.selects RX6 yX6_match yX6_match ∈ lw_tbl := kt_4 _ (by decide +kernel)
theorem tw_498 : Cond.codeWith yL_match cL_match 5 (some .int) [(0, 10, 13, 19), (0, 10, 17, 68)] ∈ lw_tbl := kt_4 _ (by decide +kernel)
theorem tw_499 : Cond.methodLink RL 128 yX6_difference ∈ lw_tbl := kt_4 _ (by decide +kernel)
theorem tw_500 : Cond.instanceMethod yX6_difference ∈ lw_tbl := kt_4 _ (by decide +kernel)
theorem tw_501 : Cond.selects RX6 yX6_difference yX6_difference ∈ lw_tbl := kt_4 _ (by decide +kernel)
theorem tw_502 : Cond.codeWith yL_difference cL_difference 5 (some .int) [(0, 10, 13, 19)] ∈ lw_tbl := kt_4 _ (by decide +kernel)
theorem tw_503 : Cond.methodLink RL 132 yX6_differsAt ∈ lw_tbl := kt_4 _ (by decide +kernel)
theorem tw_504 : Cond.instanceMethod yX6_differsAt ∈ lw_tbl := kt_4 _ (by decide +kernel)
theorem tw_505 : Cond.selects RX6 yX6_differsAt yX6_differsAt ∈ lw_tbl := kt_4 _ (by decide +kernel)
theorem tw_506 : Cond.codeWith yL_differsAt cL_differsAt 5 (some .int) [(0, 10, 13, 19), (0, 10, 17, 68)] ∈ lw_tbl := kt_4 _ (by decide +kernel)
theorem tw_507 : Cond.methodLink RL 135 yX6_damage ∈ lw_tbl := kt_4 _ (by decide +kernel)
theorem tw_508 : Cond.instanceMethod yX6_damage ∈ lw_tbl := kt_4 _ (by decide +kernel)
theorem tw_509 : Cond.selects RX6 yX6_damage yX6_damage ∈ lw_tbl := kt_4 _ (by decide +kernel)
theorem tw_510 : Cond.codeWith yL_damage cL_damage 6 (some .int) [(0, 12, 15, 19), (0, 12, 19, 21)] ∈ lw_tbl := kt_4 _ (by decide +kernel)
theorem tw_511 : Cond.methodLink RL 138 yX6_repair ∈ lw_tbl := kt_5 _ (by decide +kernel)
theorem tw_512 : Cond.instanceMethod yX6_repair ∈ lw_tbl := kt_5 _ (by decide +kernel)
theorem tw_513 : Cond.selects RX6 yX6_repair yX6_repair ∈ lw_tbl := kt_5 _ (by decide +kernel)
theorem tw_514 : Cond.codeWith yL_repair cL_repair 5 (some .int) [(0, 10, 13, 19), (0, 10, 17, 68)] ∈ lw_tbl := kt_5 _ (by decide +kernel)
theorem tw_515 : Cond.methodLink RL 157 yX6_vote ∈ lw_tbl := kt_5 _ (by decide +kernel)
theorem tw_516 : Cond.instanceMethod yX6_vote ∈ lw_tbl := kt_5 _ (by decide +kernel)
theorem tw_517 : Cond.selects RX6 yX6_vote yX6_vote ∈ lw_tbl := kt_5 _ (by decide +kernel)
theorem tw_518 : Cond.codeWith yL_vote cL_vote 6 (some .int) [(0, 12, 15, 19), (0, 12, 19, 21)] ∈ lw_tbl := kt_5 _ (by decide +kernel)
theorem tw_519 : Cond.methodLink RL 160 yX6_favourite ∈ lw_tbl := kt_5 _ (by decide +kernel)
theorem tw_520 : Cond.instanceMethod yX6_favourite ∈ lw_tbl := kt_5 _ (by decide +kernel)
theorem tw_521 : Cond.selects RX6 yX6_favourite yX6_favourite ∈ lw_tbl := kt_5 _ (by decide +kernel)
theorem tw_522 : Cond.classLink RL 68 "java/util/NoSuchElementException" ∈ lw_tbl := kt_3 _ (by decide +kernel)
theorem tw_523 : Cond.codeWith yL_favourite cL_favourite 3 (some .int) [(0, 8, 11, 68)] ∈ lw_tbl := kt_5 _ (by decide +kernel)
theorem tw_524 : Cond.methodLink RL 169 yX6_meanMark ∈ lw_tbl := kt_5 _ (by decide +kernel)
theorem tw_525 : Cond.instanceMethod yX6_meanMark ∈ lw_tbl := kt_5 _ (by decide +kernel)
theorem tw_526 : Cond.selects RX6 yX6_meanMark yX6_meanMark ∈ lw_tbl := kt_5 _ (by decide +kernel)
theorem tw_527 : Cond.codeWith yL_meanMark cL_meanMark 4 (some .int) [(0, 8, 11, 19), (0, 8, 14, 167)] ∈ lw_tbl := kt_5 _ (by decide +kernel)
theorem tw_528 : Cond.methodLink RL 163 yX6_goodShare ∈ lw_tbl := kt_5 _ (by decide +kernel)
theorem tw_529 : Cond.instanceMethod yX6_goodShare ∈ lw_tbl := kt_5 _ (by decide +kernel)
theorem tw_530 : Cond.selects RX6 yX6_goodShare yX6_goodShare ∈ lw_tbl := kt_5 _ (by decide +kernel)
theorem tw_531 : Cond.classLink RL 167 "java/lang/ArithmeticException" ∈ lw_tbl := kt_5 _ (by decide +kernel)
theorem tw_532 : Cond.codeWith yL_goodShare cL_goodShare 3 (some .int) [(0, 8, 11, 167)] ∈ lw_tbl := kt_5 _ (by decide +kernel)
theorem tw_533 : Cond.methodLink RL 79 yX6_lock ∈ lw_tbl := kt_3 _ (by decide +kernel)
theorem tw_534 : Cond.instanceMethod yX6_lock ∈ lw_tbl := kt_3 _ (by decide +kernel)
theorem tw_535 : Cond.selects RX6 yX6_lock yX6_lock ∈ lw_tbl := kt_3 _ (by decide +kernel)
theorem tw_536 : Cond.codeWith yL_lock cL_lock 5 (some .int) [(0, 17, 20, 19)] ∈ lw_tbl := kt_3 _ (by decide +kernel)
theorem tw_537 : Cond.methodLink RL 83 yX6_replace ∈ lw_tbl := kt_4 _ (by decide +kernel)
theorem tw_538 : Cond.instanceMethod yX6_replace ∈ lw_tbl := kt_4 _ (by decide +kernel)
theorem tw_539 : Cond.selects RX6 yX6_replace yX6_replace ∈ lw_tbl := kt_4 _ (by decide +kernel)
theorem tw_540 : Cond.codeWith yL_replace cL_replace 5 (some .int) [(0, 10, 13, 19), (0, 10, 17, 41)] ∈ lw_tbl := kt_4 _ (by decide +kernel)
theorem tw_541 : Cond.methodLink RL 86 yX6_startOf ∈ lw_tbl := kt_4 _ (by decide +kernel)
theorem tw_542 : Cond.instanceMethod yX6_startOf ∈ lw_tbl := kt_4 _ (by decide +kernel)
theorem tw_543 : Cond.selects RX6 yX6_startOf yX6_startOf ∈ lw_tbl := kt_4 _ (by decide +kernel)
theorem tw_544 : Cond.codeWith yL_startOf cL_startOf 4 (some .int) [(0, 9, 12, 19)] ∈ lw_tbl := kt_4 _ (by decide +kernel)
theorem tw_545 : Cond.methodLink RL 95 yX6_sideOf ∈ lw_tbl := kt_4 _ (by decide +kernel)
theorem tw_546 : Cond.instanceMethod yX6_sideOf ∈ lw_tbl := kt_4 _ (by decide +kernel)
theorem tw_547 : Cond.selects RX6 yX6_sideOf yX6_sideOf ∈ lw_tbl := kt_4 _ (by decide +kernel)
theorem tw_548 : Cond.codeWith yL_sideOf cL_sideOf 5 (some .int) [(0, 10, 13, 19), (0, 10, 17, 21), (0, 10, 21, 41)] ∈ lw_tbl := kt_4 _ (by decide +kernel)
theorem tw_549 : Cond.methodLink RL 147 yX6_split ∈ lw_tbl := kt_5 _ (by decide +kernel)
theorem tw_550 : Cond.instanceMethod yX6_split ∈ lw_tbl := kt_5 _ (by decide +kernel)
theorem tw_551 : Cond.selects RX6 yX6_split yX6_split ∈ lw_tbl := kt_5 _ (by decide +kernel)
theorem tw_552 : Cond.codeWith yL_split cL_split 6 (some .int) [(0, 12, 15, 19), (0, 12, 19, 21), (0, 12, 23, 41)] ∈ lw_tbl := kt_5 _ (by decide +kernel)
theorem tw_553 : Cond.methodLink RL 150 yX6_play ∈ lw_tbl := kt_5 _ (by decide +kernel)
theorem tw_554 : Cond.instanceMethod yX6_play ∈ lw_tbl := kt_5 _ (by decide +kernel)
theorem tw_555 : Cond.selects RX6 yX6_play yX6_play ∈ lw_tbl := kt_5 _ (by decide +kernel)
theorem tw_556 : Cond.codeWith yL_play cL_play 5 (some .int) [(0, 10, 13, 19), (0, 10, 17, 21)] ∈ lw_tbl := kt_5 _ (by decide +kernel)
theorem tw_557 : Cond.methodLink RL 89 yX6_heard ∈ lw_tbl := kt_4 _ (by decide +kernel)
theorem tw_558 : Cond.instanceMethod yX6_heard ∈ lw_tbl := kt_4 _ (by decide +kernel)
theorem tw_559 : Cond.selects RX6 yX6_heard yX6_heard ∈ lw_tbl := kt_4 _ (by decide +kernel)
theorem tw_560 : Cond.codeWith yL_heard cL_heard 4 (some .int) [(0, 9, 12, 68)] ∈ lw_tbl := kt_4 _ (by decide +kernel)
theorem tw_561 : Cond.methodLink RL 101 yX6_failedAt ∈ lw_tbl := kt_4 _ (by decide +kernel)
theorem tw_562 : Cond.instanceMethod yX6_failedAt ∈ lw_tbl := kt_4 _ (by decide +kernel)
theorem tw_563 : Cond.selects RX6 yX6_failedAt yX6_failedAt ∈ lw_tbl := kt_4 _ (by decide +kernel)
theorem tw_564 : Cond.codeWith yL_failedAt cL_failedAt 4 (some .int) [(0, 9, 12, 19)] ∈ lw_tbl := kt_4 _ (by decide +kernel)
theorem tw_565 : Cond.methodLink RL 104 yX6_father ∈ lw_tbl := kt_4 _ (by decide +kernel)
theorem tw_566 : Cond.instanceMethod yX6_father ∈ lw_tbl := kt_4 _ (by decide +kernel)
theorem tw_567 : Cond.selects RX6 yX6_father yX6_father ∈ lw_tbl := kt_4 _ (by decide +kernel)
theorem tw_568 : Cond.codeWith yL_father cL_father 4 (some .int) [(0, 9, 12, 19), (0, 9, 15, 41)] ∈ lw_tbl := kt_4 _ (by decide +kernel)
theorem tw_569 : Cond.methodLink RL 107 yX6_mother ∈ lw_tbl := kt_4 _ (by decide +kernel)
theorem tw_570 : Cond.instanceMethod yX6_mother ∈ lw_tbl := kt_4 _ (by decide +kernel)
theorem tw_571 : Cond.selects RX6 yX6_mother yX6_mother ∈ lw_tbl := kt_4 _ (by decide +kernel)
theorem tw_572 : Cond.codeWith yL_mother cL_mother 4 (some .int) [(0, 9, 12, 19), (0, 9, 15, 13)] ∈ lw_tbl := kt_4 _ (by decide +kernel)
theorem tw_573 : Cond.methodLink RL 110 yX6_stamper ∈ lw_tbl := kt_4 _ (by decide +kernel)
theorem tw_574 : Cond.instanceMethod yX6_stamper ∈ lw_tbl := kt_4 _ (by decide +kernel)
theorem tw_575 : Cond.selects RX6 yX6_stamper yX6_stamper ∈ lw_tbl := kt_4 _ (by decide +kernel)
theorem tw_576 : Cond.codeWith yL_stamper cL_stamper 4 (some .int) [(0, 9, 12, 19), (0, 9, 15, 13)] ∈ lw_tbl := kt_4 _ (by decide +kernel)
theorem tw_577 : Cond.methodLink RL 113 yX6_press ∈ lw_tbl := kt_4 _ (by decide +kernel)
theorem tw_578 : Cond.instanceMethod yX6_press ∈ lw_tbl := kt_4 _ (by decide +kernel)
theorem tw_579 : Cond.selects RX6 yX6_press yX6_press ∈ lw_tbl := kt_4 _ (by decide +kernel)
theorem tw_580 : Cond.codeWith yL_press cL_press 5 (some .int) [(0, 10, 13, 19), (0, 10, 17, 21), (0, 10, 21, 13)] ∈ lw_tbl := kt_4 _ (by decide +kernel)
theorem tw_581 : Cond.methodLink RL 92 yX6_sides ∈ lw_tbl := kt_4 _ (by decide +kernel)
theorem tw_582 : Cond.instanceMethod yX6_sides ∈ lw_tbl := kt_4 _ (by decide +kernel)
theorem tw_583 : Cond.selects RX6 yX6_sides yX6_sides ∈ lw_tbl := kt_4 _ (by decide +kernel)
theorem tw_584 : Cond.codeWith yL_sides cL_sides 4 (some .int) [(0, 9, 12, 21), (0, 9, 15, 41)] ∈ lw_tbl := kt_4 _ (by decide +kernel)
theorem tw_585 : Cond.classLink RL 21 "java/lang/IllegalArgumentException" ∈ lw_tbl := kt_2 _ (by decide +kernel)
theorem tw_586 : Cond.methodLink RL 98 yX6_engrave ∈ lw_tbl := kt_4 _ (by decide +kernel)
theorem tw_587 : Cond.instanceMethod yX6_engrave ∈ lw_tbl := kt_4 _ (by decide +kernel)
theorem tw_588 : Cond.selects RX6 yX6_engrave yX6_engrave ∈ lw_tbl := kt_4 _ (by decide +kernel)
theorem tw_589 : Cond.classLink RL 41 "java/lang/UnsupportedOperationException" ∈ lw_tbl := kt_3 _ (by decide +kernel)
theorem tw_590 : Cond.codeWith yL_engrave cL_engrave 5 (some .int) [(0, 10, 13, 21), (0, 10, 17, 41), (0, 10, 21, 68), (0, 10, 25, 13)] ∈ lw_tbl := kt_4 _ (by decide +kernel)
theorem tw_591 : Cond.methodLink RL 116 yX6_edition ∈ lw_tbl := kt_4 _ (by decide +kernel)
theorem tw_592 : Cond.instanceMethod yX6_edition ∈ lw_tbl := kt_4 _ (by decide +kernel)
theorem tw_593 : Cond.selects RX6 yX6_edition yX6_edition ∈ lw_tbl := kt_4 _ (by decide +kernel)
theorem tw_594 : Cond.codeWith yL_edition cL_edition 4 (some .int) [(0, 9, 12, 21), (0, 9, 15, 41), (0, 9, 18, 13)] ∈ lw_tbl := kt_4 _ (by decide +kernel)
theorem tw_595 : Cond.methodLink RL 144 yX6_shuffled ∈ lw_tbl := kt_5 _ (by decide +kernel)
theorem tw_596 : Cond.instanceMethod yX6_shuffled ∈ lw_tbl := kt_5 _ (by decide +kernel)
theorem tw_597 : Cond.selects RX6 yX6_shuffled yX6_shuffled ∈ lw_tbl := kt_5 _ (by decide +kernel)
theorem tw_598 : Cond.codeWith yL_shuffled cL_shuffled 5 (some .int) [(0, 10, 13, 21), (0, 10, 17, 68)] ∈ lw_tbl := kt_5 _ (by decide +kernel)
theorem tw_599 : Cond.methodLink RL 153 yX6_earned ∈ lw_tbl := kt_5 _ (by decide +kernel)
theorem tw_600 : Cond.instanceMethod yX6_earned ∈ lw_tbl := kt_5 _ (by decide +kernel)
theorem tw_601 : Cond.selects RX6 yX6_earned yX6_earned ∈ lw_tbl := kt_5 _ (by decide +kernel)
theorem tw_602 : Cond.codeWith yL_earned cL_earned 5 (some .int) [(0, 9, 12, 21)] ∈ lw_tbl := kt_5 _ (by decide +kernel)
theorem tw_603 : Cond.methodLink RL 7 yX6_reel ∈ lw_tbl := kt_2 _ (by decide +kernel)
theorem tw_604 : Cond.instanceMethod yX6_reel ∈ lw_tbl := kt_2 _ (by decide +kernel)
theorem tw_605 : Cond.selects RX6 yX6_reel yX6_reel ∈ lw_tbl := kt_2 _ (by decide +kernel)
theorem tw_606 : Cond.codeWith yL_reel cL_reel 3 (some .int) [(0, 8, 11, 13)] ∈ lw_tbl := kt_2 _ (by decide +kernel)
theorem tw_607 : Cond.methodLink RL 35 yX6_silence ∈ lw_tbl := kt_3 _ (by decide +kernel)
theorem tw_608 : Cond.instanceMethod yX6_silence ∈ lw_tbl := kt_3 _ (by decide +kernel)
theorem tw_609 : Cond.selects RX6 yX6_silence yX6_silence ∈ lw_tbl := kt_3 _ (by decide +kernel)
theorem tw_610 : Cond.codeWith yL_silence cL_silence 4 (some .int) [(0, 9, 12, 21), (0, 9, 15, 13)] ∈ lw_tbl := kt_3 _ (by decide +kernel)
theorem tw_611 : Cond.methodLink RL 186 yL_sample ∈ lw_tbl := kt_2 _ (by decide +kernel)
theorem tw_612 : Cond.static yL_sample ∈ lw_tbl := kt_2 _ (by decide +kernel)
theorem tw_613 : Cond.initialized yL_sample.cls ∈ lw_tbl := kt_1 _ (by decide +kernel)
theorem tw_614 : Cond.methodLink RL 189 yX11_sample ∈ lw_tbl := kt_6 _ (by decide +kernel)
theorem tw_615 : Cond.instanceMethod yX11_sample ∈ lw_tbl := kt_6 _ (by decide +kernel)
theorem tw_616 : Cond.selects RX11 yX11_sample yX11_sample ∈ lw_tbl := kt_6 _ (by decide +kernel)
theorem tw_617 : Cond.methodLink RL 183 yX11_thrown ∈ lw_tbl := kt_5 _ (by decide +kernel)
theorem tw_618 : Cond.instanceMethod yX11_thrown ∈ lw_tbl := kt_5 _ (by decide +kernel)
theorem tw_619 : Cond.selects RX11 yX11_thrown yX11_thrown ∈ lw_tbl := kt_5 _ (by decide +kernel)
theorem tw_620 : Cond.methodLink RL 190 yL_wave ∈ lw_tbl := kt_2 _ (by decide +kernel)
theorem tw_621 : Cond.static yL_wave ∈ lw_tbl := kt_2 _ (by decide +kernel)
theorem tw_622 : Cond.initialized yL_wave.cls ∈ lw_tbl := kt_1 _ (by decide +kernel)
theorem tw_623 : Cond.methodLink RL 193 yX11_wave ∈ lw_tbl := kt_6 _ (by decide +kernel)
theorem tw_624 : Cond.instanceMethod yX11_wave ∈ lw_tbl := kt_6 _ (by decide +kernel)
theorem tw_625 : Cond.selects RX11 yX11_wave yX11_wave ∈ lw_tbl := kt_6 _ (by decide +kernel)
theorem tw_626 : Cond.methodLink RL 194 yL_reelLength ∈ lw_tbl := kt_2 _ (by decide +kernel)
theorem tw_627 : Cond.static yL_reelLength ∈ lw_tbl := kt_2 _ (by decide +kernel)
theorem tw_628 : Cond.initialized yL_reelLength.cls ∈ lw_tbl := kt_1 _ (by decide +kernel)
theorem tw_629 : Cond.methodLink RL 197 yX11_reelLength ∈ lw_tbl := kt_6 _ (by decide +kernel)
theorem tw_630 : Cond.instanceMethod yX11_reelLength ∈ lw_tbl := kt_6 _ (by decide +kernel)
theorem tw_631 : Cond.selects RX11 yX11_reelLength yX11_reelLength ∈ lw_tbl := kt_6 _ (by decide +kernel)
theorem tw_632 : Cond.methodLink RL 198 yL_cut ∈ lw_tbl := kt_2 _ (by decide +kernel)
theorem tw_633 : Cond.static yL_cut ∈ lw_tbl := kt_2 _ (by decide +kernel)
theorem tw_634 : Cond.initialized yL_cut.cls ∈ lw_tbl := kt_1 _ (by decide +kernel)
theorem tw_635 : Cond.methodLink RL 201 yX11_cut ∈ lw_tbl := kt_6 _ (by decide +kernel)
theorem tw_636 : Cond.instanceMethod yX11_cut ∈ lw_tbl := kt_6 _ (by decide +kernel)
theorem tw_637 : Cond.selects RX11 yX11_cut yX11_cut ∈ lw_tbl := kt_6 _ (by decide +kernel)
theorem tw_638 : Cond.methodLink RL 205 yL_splice ∈ lw_tbl := kt_3 _ (by decide +kernel)
theorem tw_639 : Cond.static yL_splice ∈ lw_tbl := kt_3 _ (by decide +kernel)
theorem tw_640 : Cond.initialized yL_splice.cls ∈ lw_tbl := kt_1 _ (by decide +kernel)
theorem tw_641 : Cond.methodLink RL 207 yX11_splice ∈ lw_tbl := kt_6 _ (by decide +kernel)
theorem tw_642 : Cond.instanceMethod yX11_splice ∈ lw_tbl := kt_6 _ (by decide +kernel)
theorem tw_643 : Cond.selects RX11 yX11_splice yX11_splice ∈ lw_tbl := kt_6 _ (by decide +kernel)
theorem tw_644 : Cond.methodLink RL 208 yL_gain ∈ lw_tbl := kt_3 _ (by decide +kernel)
theorem tw_645 : Cond.static yL_gain ∈ lw_tbl := kt_3 _ (by decide +kernel)
theorem tw_646 : Cond.initialized yL_gain.cls ∈ lw_tbl := kt_1 _ (by decide +kernel)
theorem tw_647 : Cond.methodLink RL 210 yX11_gain ∈ lw_tbl := kt_6 _ (by decide +kernel)
theorem tw_648 : Cond.instanceMethod yX11_gain ∈ lw_tbl := kt_6 _ (by decide +kernel)
theorem tw_649 : Cond.selects RX11 yX11_gain yX11_gain ∈ lw_tbl := kt_6 _ (by decide +kernel)
theorem tw_650 : Cond.methodLink RL 211 yL_back ∈ lw_tbl := kt_3 _ (by decide +kernel)
theorem tw_651 : Cond.static yL_back ∈ lw_tbl := kt_3 _ (by decide +kernel)
theorem tw_652 : Cond.initialized yL_back.cls ∈ lw_tbl := kt_1 _ (by decide +kernel)
theorem tw_653 : Cond.methodLink RL 213 yX11_back ∈ lw_tbl := kt_6 _ (by decide +kernel)
theorem tw_654 : Cond.instanceMethod yX11_back ∈ lw_tbl := kt_6 _ (by decide +kernel)
theorem tw_655 : Cond.selects RX11 yX11_back yX11_back ∈ lw_tbl := kt_6 _ (by decide +kernel)
theorem tw_656 : Cond.methodLink RL 214 yL_limit ∈ lw_tbl := kt_3 _ (by decide +kernel)
theorem tw_657 : Cond.static yL_limit ∈ lw_tbl := kt_3 _ (by decide +kernel)
theorem tw_658 : Cond.initialized yL_limit.cls ∈ lw_tbl := kt_1 _ (by decide +kernel)
theorem tw_659 : Cond.methodLink RL 216 yX11_limit ∈ lw_tbl := kt_6 _ (by decide +kernel)
theorem tw_660 : Cond.instanceMethod yX11_limit ∈ lw_tbl := kt_6 _ (by decide +kernel)
theorem tw_661 : Cond.selects RX11 yX11_limit yX11_limit ∈ lw_tbl := kt_6 _ (by decide +kernel)
theorem tw_662 : Cond.methodLink RL 217 yL_resample ∈ lw_tbl := kt_3 _ (by decide +kernel)
theorem tw_663 : Cond.static yL_resample ∈ lw_tbl := kt_3 _ (by decide +kernel)
theorem tw_664 : Cond.initialized yL_resample.cls ∈ lw_tbl := kt_1 _ (by decide +kernel)
theorem tw_665 : Cond.methodLink RL 219 yX11_resample ∈ lw_tbl := kt_6 _ (by decide +kernel)
theorem tw_666 : Cond.instanceMethod yX11_resample ∈ lw_tbl := kt_6 _ (by decide +kernel)
theorem tw_667 : Cond.selects RX11 yX11_resample yX11_resample ∈ lw_tbl := kt_6 _ (by decide +kernel)
theorem tw_668 : Cond.methodLink RL 220 yL_dither ∈ lw_tbl := kt_3 _ (by decide +kernel)
theorem tw_669 : Cond.static yL_dither ∈ lw_tbl := kt_3 _ (by decide +kernel)
theorem tw_670 : Cond.initialized yL_dither.cls ∈ lw_tbl := kt_1 _ (by decide +kernel)
theorem tw_671 : Cond.methodLink RL 222 yX11_dither ∈ lw_tbl := kt_6 _ (by decide +kernel)
theorem tw_672 : Cond.instanceMethod yX11_dither ∈ lw_tbl := kt_6 _ (by decide +kernel)
theorem tw_673 : Cond.selects RX11 yX11_dither yX11_dither ∈ lw_tbl := kt_6 _ (by decide +kernel)
theorem tw_674 : Cond.methodLink RL 223 yL_kindOf ∈ lw_tbl := kt_3 _ (by decide +kernel)
theorem tw_675 : Cond.static yL_kindOf ∈ lw_tbl := kt_3 _ (by decide +kernel)
theorem tw_676 : Cond.initialized yL_kindOf.cls ∈ lw_tbl := kt_1 _ (by decide +kernel)
theorem tw_677 : Cond.methodLink RL 225 yX11_kindOf ∈ lw_tbl := kt_6 _ (by decide +kernel)
theorem tw_678 : Cond.instanceMethod yX11_kindOf ∈ lw_tbl := kt_6 _ (by decide +kernel)
theorem tw_679 : Cond.selects RX11 yX11_kindOf yX11_kindOf ∈ lw_tbl := kt_6 _ (by decide +kernel)
theorem tw_680 : Cond.methodLink RL 226 yL_lengthOf ∈ lw_tbl := kt_3 _ (by decide +kernel)
theorem tw_681 : Cond.static yL_lengthOf ∈ lw_tbl := kt_3 _ (by decide +kernel)
theorem tw_682 : Cond.initialized yL_lengthOf.cls ∈ lw_tbl := kt_1 _ (by decide +kernel)
theorem tw_683 : Cond.methodLink RL 228 yX11_lengthOf ∈ lw_tbl := kt_6 _ (by decide +kernel)
theorem tw_684 : Cond.instanceMethod yX11_lengthOf ∈ lw_tbl := kt_6 _ (by decide +kernel)
theorem tw_685 : Cond.selects RX11 yX11_lengthOf yX11_lengthOf ∈ lw_tbl := kt_6 _ (by decide +kernel)
theorem tw_686 : Cond.methodLink RL 229 yL_sampleOf ∈ lw_tbl := kt_3 _ (by decide +kernel)
theorem tw_687 : Cond.static yL_sampleOf ∈ lw_tbl := kt_3 _ (by decide +kernel)
theorem tw_688 : Cond.initialized yL_sampleOf.cls ∈ lw_tbl := kt_1 _ (by decide +kernel)
theorem tw_689 : Cond.methodLink RL 231 yX11_sampleOf ∈ lw_tbl := kt_6 _ (by decide +kernel)
theorem tw_690 : Cond.instanceMethod yX11_sampleOf ∈ lw_tbl := kt_6 _ (by decide +kernel)
theorem tw_691 : Cond.selects RX11 yX11_sampleOf yX11_sampleOf ∈ lw_tbl := kt_6 _ (by decide +kernel)
theorem tw_692 : Cond.methodLink RL 232 yL_loudness ∈ lw_tbl := kt_3 _ (by decide +kernel)
theorem tw_693 : Cond.static yL_loudness ∈ lw_tbl := kt_3 _ (by decide +kernel)
theorem tw_694 : Cond.initialized yL_loudness.cls ∈ lw_tbl := kt_1 _ (by decide +kernel)
theorem tw_695 : Cond.methodLink RL 234 yX11_loudness ∈ lw_tbl := kt_6 _ (by decide +kernel)
theorem tw_696 : Cond.instanceMethod yX11_loudness ∈ lw_tbl := kt_6 _ (by decide +kernel)
theorem tw_697 : Cond.selects RX11 yX11_loudness yX11_loudness ∈ lw_tbl := kt_6 _ (by decide +kernel)
theorem tw_698 : Cond.methodLink RL 235 yL_peak ∈ lw_tbl := kt_3 _ (by decide +kernel)
theorem tw_699 : Cond.static yL_peak ∈ lw_tbl := kt_3 _ (by decide +kernel)
theorem tw_700 : Cond.initialized yL_peak.cls ∈ lw_tbl := kt_1 _ (by decide +kernel)
theorem tw_701 : Cond.methodLink RL 237 yX11_peak ∈ lw_tbl := kt_6 _ (by decide +kernel)
theorem tw_702 : Cond.instanceMethod yX11_peak ∈ lw_tbl := kt_6 _ (by decide +kernel)
theorem tw_703 : Cond.selects RX11 yX11_peak yX11_peak ∈ lw_tbl := kt_6 _ (by decide +kernel)
theorem tw_704 : Cond.methodLink RL 238 yL_add ∈ lw_tbl := kt_3 _ (by decide +kernel)
theorem tw_705 : Cond.static yL_add ∈ lw_tbl := kt_3 _ (by decide +kernel)
theorem tw_706 : Cond.initialized yL_add.cls ∈ lw_tbl := kt_1 _ (by decide +kernel)
theorem tw_707 : Cond.methodLink RL 240 yX11_add ∈ lw_tbl := kt_6 _ (by decide +kernel)
theorem tw_708 : Cond.instanceMethod yX11_add ∈ lw_tbl := kt_6 _ (by decide +kernel)
theorem tw_709 : Cond.selects RX11 yX11_add yX11_add ∈ lw_tbl := kt_6 _ (by decide +kernel)
theorem tw_710 : Cond.methodLink RL 245 yL_replace ∈ lw_tbl := kt_3 _ (by decide +kernel)
theorem tw_711 : Cond.static yL_replace ∈ lw_tbl := kt_4 _ (by decide +kernel)
theorem tw_712 : Cond.initialized yL_replace.cls ∈ lw_tbl := kt_1 _ (by decide +kernel)
theorem tw_713 : Cond.methodLink RL 247 yX11_replace ∈ lw_tbl := kt_6 _ (by decide +kernel)
theorem tw_714 : Cond.instanceMethod yX11_replace ∈ lw_tbl := kt_6 _ (by decide +kernel)
theorem tw_715 : Cond.selects RX11 yX11_replace yX11_replace ∈ lw_tbl := kt_6 _ (by decide +kernel)
theorem tw_716 : Cond.methodLink RL 248 yL_startOf ∈ lw_tbl := kt_4 _ (by decide +kernel)
theorem tw_717 : Cond.static yL_startOf ∈ lw_tbl := kt_4 _ (by decide +kernel)
theorem tw_718 : Cond.initialized yL_startOf.cls ∈ lw_tbl := kt_1 _ (by decide +kernel)
theorem tw_719 : Cond.methodLink RL 250 yX11_startOf ∈ lw_tbl := kt_6 _ (by decide +kernel)
theorem tw_720 : Cond.instanceMethod yX11_startOf ∈ lw_tbl := kt_6 _ (by decide +kernel)
theorem tw_721 : Cond.selects RX11 yX11_startOf yX11_startOf ∈ lw_tbl := kt_6 _ (by decide +kernel)
theorem tw_722 : Cond.methodLink RL 255 yL_heard ∈ lw_tbl := kt_4 _ (by decide +kernel)
theorem tw_723 : Cond.static yL_heard ∈ lw_tbl := kt_4 _ (by decide +kernel)
theorem tw_724 : Cond.initialized yL_heard.cls ∈ lw_tbl := kt_1 _ (by decide +kernel)
theorem tw_725 : Cond.methodLink RL 257 yX11_heard ∈ lw_tbl := kt_7 _ (by decide +kernel)
theorem tw_726 : Cond.instanceMethod yX11_heard ∈ lw_tbl := kt_7 _ (by decide +kernel)
theorem tw_727 : Cond.selects RX11 yX11_heard yX11_heard ∈ lw_tbl := kt_7 _ (by decide +kernel)
theorem tw_728 : Cond.methodLink RL 261 yL_sideOf ∈ lw_tbl := kt_4 _ (by decide +kernel)
theorem tw_729 : Cond.static yL_sideOf ∈ lw_tbl := kt_4 _ (by decide +kernel)
theorem tw_730 : Cond.initialized yL_sideOf.cls ∈ lw_tbl := kt_1 _ (by decide +kernel)
theorem tw_731 : Cond.methodLink RL 263 yX11_sideOf ∈ lw_tbl := kt_7 _ (by decide +kernel)
theorem tw_732 : Cond.instanceMethod yX11_sideOf ∈ lw_tbl := kt_7 _ (by decide +kernel)
theorem tw_733 : Cond.selects RX11 yX11_sideOf yX11_sideOf ∈ lw_tbl := kt_7 _ (by decide +kernel)
theorem tw_734 : Cond.methodLink RL 267 yL_failedAt ∈ lw_tbl := kt_4 _ (by decide +kernel)
theorem tw_735 : Cond.static yL_failedAt ∈ lw_tbl := kt_4 _ (by decide +kernel)
theorem tw_736 : Cond.initialized yL_failedAt.cls ∈ lw_tbl := kt_1 _ (by decide +kernel)
theorem tw_737 : Cond.methodLink RL 269 yX11_failedAt ∈ lw_tbl := kt_7 _ (by decide +kernel)
theorem tw_738 : Cond.instanceMethod yX11_failedAt ∈ lw_tbl := kt_7 _ (by decide +kernel)
theorem tw_739 : Cond.selects RX11 yX11_failedAt yX11_failedAt ∈ lw_tbl := kt_7 _ (by decide +kernel)
theorem tw_740 : Cond.methodLink RL 270 yL_father ∈ lw_tbl := kt_4 _ (by decide +kernel)
theorem tw_741 : Cond.static yL_father ∈ lw_tbl := kt_4 _ (by decide +kernel)
theorem tw_742 : Cond.initialized yL_father.cls ∈ lw_tbl := kt_1 _ (by decide +kernel)
theorem tw_743 : Cond.methodLink RL 272 yX11_father ∈ lw_tbl := kt_7 _ (by decide +kernel)
theorem tw_744 : Cond.instanceMethod yX11_father ∈ lw_tbl := kt_7 _ (by decide +kernel)
theorem tw_745 : Cond.selects RX11 yX11_father yX11_father ∈ lw_tbl := kt_7 _ (by decide +kernel)
theorem tw_746 : Cond.methodLink RL 273 yL_mother ∈ lw_tbl := kt_4 _ (by decide +kernel)
theorem tw_747 : Cond.static yL_mother ∈ lw_tbl := kt_4 _ (by decide +kernel)
theorem tw_748 : Cond.initialized yL_mother.cls ∈ lw_tbl := kt_1 _ (by decide +kernel)
theorem tw_749 : Cond.methodLink RL 275 yX11_mother ∈ lw_tbl := kt_7 _ (by decide +kernel)
theorem tw_750 : Cond.instanceMethod yX11_mother ∈ lw_tbl := kt_7 _ (by decide +kernel)
theorem tw_751 : Cond.selects RX11 yX11_mother yX11_mother ∈ lw_tbl := kt_7 _ (by decide +kernel)
theorem tw_752 : Cond.methodLink RL 276 yL_stamper ∈ lw_tbl := kt_4 _ (by decide +kernel)
theorem tw_753 : Cond.static yL_stamper ∈ lw_tbl := kt_4 _ (by decide +kernel)
theorem tw_754 : Cond.initialized yL_stamper.cls ∈ lw_tbl := kt_1 _ (by decide +kernel)
theorem tw_755 : Cond.methodLink RL 278 yX11_stamper ∈ lw_tbl := kt_7 _ (by decide +kernel)
theorem tw_756 : Cond.instanceMethod yX11_stamper ∈ lw_tbl := kt_7 _ (by decide +kernel)
theorem tw_757 : Cond.selects RX11 yX11_stamper yX11_stamper ∈ lw_tbl := kt_7 _ (by decide +kernel)
theorem tw_758 : Cond.methodLink RL 279 yL_press ∈ lw_tbl := kt_4 _ (by decide +kernel)
theorem tw_759 : Cond.static yL_press ∈ lw_tbl := kt_4 _ (by decide +kernel)
theorem tw_760 : Cond.initialized yL_press.cls ∈ lw_tbl := kt_1 _ (by decide +kernel)
theorem tw_761 : Cond.methodLink RL 281 yX11_press ∈ lw_tbl := kt_7 _ (by decide +kernel)
theorem tw_762 : Cond.instanceMethod yX11_press ∈ lw_tbl := kt_7 _ (by decide +kernel)
theorem tw_763 : Cond.selects RX11 yX11_press yX11_press ∈ lw_tbl := kt_7 _ (by decide +kernel)
theorem tw_764 : Cond.methodLink RL 285 yL_editionAt ∈ lw_tbl := kt_4 _ (by decide +kernel)
theorem tw_765 : Cond.static yL_editionAt ∈ lw_tbl := kt_4 _ (by decide +kernel)
theorem tw_766 : Cond.initialized yL_editionAt.cls ∈ lw_tbl := kt_1 _ (by decide +kernel)
theorem tw_767 : Cond.methodLink RL 287 yX11_editionAt ∈ lw_tbl := kt_7 _ (by decide +kernel)
theorem tw_768 : Cond.instanceMethod yX11_editionAt ∈ lw_tbl := kt_7 _ (by decide +kernel)
theorem tw_769 : Cond.selects RX11 yX11_editionAt yX11_editionAt ∈ lw_tbl := kt_7 _ (by decide +kernel)
theorem tw_770 : Cond.methodLink RL 288 yL_sum ∈ lw_tbl := kt_4 _ (by decide +kernel)
theorem tw_771 : Cond.static yL_sum ∈ lw_tbl := kt_4 _ (by decide +kernel)
theorem tw_772 : Cond.initialized yL_sum.cls ∈ lw_tbl := kt_1 _ (by decide +kernel)
theorem tw_773 : Cond.methodLink RL 290 yX11_sum ∈ lw_tbl := kt_7 _ (by decide +kernel)
theorem tw_774 : Cond.instanceMethod yX11_sum ∈ lw_tbl := kt_7 _ (by decide +kernel)
theorem tw_775 : Cond.selects RX11 yX11_sum yX11_sum ∈ lw_tbl := kt_7 _ (by decide +kernel)
theorem tw_776 : Cond.methodLink RL 291 yL_match ∈ lw_tbl := kt_4 _ (by decide +kernel)
theorem tw_777 : Cond.static yL_match ∈ lw_tbl := kt_4 _ (by decide +kernel)
theorem tw_778 : Cond.initialized yL_match.cls ∈ lw_tbl := kt_1 _ (by decide +kernel)
theorem tw_779 : Cond.methodLink RL 293 yX11_match ∈ lw_tbl := kt_7 _ (by decide +kernel)
theorem tw_780 : Cond.instanceMethod yX11_match ∈ lw_tbl := kt_7 _ (by decide +kernel)
theorem tw_781 : Cond.selects RX11 yX11_match yX11_match ∈ lw_tbl := kt_7 _ (by decide +kernel)
theorem tw_782 : Cond.methodLink RL 294 yL_difference ∈ lw_tbl := kt_4 _ (by decide +kernel)
theorem tw_783 : Cond.static yL_difference ∈ lw_tbl := kt_4 _ (by decide +kernel)
theorem tw_784 : Cond.initialized yL_difference.cls ∈ lw_tbl := kt_1 _ (by decide +kernel)
theorem tw_785 : Cond.methodLink RL 296 yX11_difference ∈ lw_tbl := kt_7 _ (by decide +kernel)
theorem tw_786 : Cond.instanceMethod yX11_difference ∈ lw_tbl := kt_7 _ (by decide +kernel)
theorem tw_787 : Cond.selects RX11 yX11_difference yX11_difference ∈ lw_tbl := kt_7 _ (by decide +kernel)
theorem tw_788 : Cond.methodLink RL 297 yL_differsAt ∈ lw_tbl := kt_4 _ (by decide +kernel)
theorem tw_789 : Cond.static yL_differsAt ∈ lw_tbl := kt_4 _ (by decide +kernel)
theorem tw_790 : Cond.initialized yL_differsAt.cls ∈ lw_tbl := kt_1 _ (by decide +kernel)
theorem tw_791 : Cond.methodLink RL 299 yX11_differsAt ∈ lw_tbl := kt_7 _ (by decide +kernel)
theorem tw_792 : Cond.instanceMethod yX11_differsAt ∈ lw_tbl := kt_7 _ (by decide +kernel)
theorem tw_793 : Cond.selects RX11 yX11_differsAt yX11_differsAt ∈ lw_tbl := kt_7 _ (by decide +kernel)
theorem tw_794 : Cond.methodLink RL 300 yL_damage ∈ lw_tbl := kt_4 _ (by decide +kernel)
theorem tw_795 : Cond.static yL_damage ∈ lw_tbl := kt_4 _ (by decide +kernel)
theorem tw_796 : Cond.initialized yL_damage.cls ∈ lw_tbl := kt_1 _ (by decide +kernel)
theorem tw_797 : Cond.methodLink RL 302 yX11_damage ∈ lw_tbl := kt_7 _ (by decide +kernel)
theorem tw_798 : Cond.instanceMethod yX11_damage ∈ lw_tbl := kt_7 _ (by decide +kernel)
theorem tw_799 : Cond.selects RX11 yX11_damage yX11_damage ∈ lw_tbl := kt_7 _ (by decide +kernel)
theorem tw_800 : Cond.methodLink RL 303 yL_repair ∈ lw_tbl := kt_5 _ (by decide +kernel)
theorem tw_801 : Cond.static yL_repair ∈ lw_tbl := kt_5 _ (by decide +kernel)
theorem tw_802 : Cond.initialized yL_repair.cls ∈ lw_tbl := kt_1 _ (by decide +kernel)
theorem tw_803 : Cond.methodLink RL 305 yX11_repair ∈ lw_tbl := kt_7 _ (by decide +kernel)
theorem tw_804 : Cond.instanceMethod yX11_repair ∈ lw_tbl := kt_7 _ (by decide +kernel)
theorem tw_805 : Cond.selects RX11 yX11_repair yX11_repair ∈ lw_tbl := kt_7 _ (by decide +kernel)
theorem tw_806 : Cond.methodLink RL 306 yL_padding ∈ lw_tbl := kt_5 _ (by decide +kernel)
theorem tw_807 : Cond.static yL_padding ∈ lw_tbl := kt_5 _ (by decide +kernel)
theorem tw_808 : Cond.initialized yL_padding.cls ∈ lw_tbl := kt_1 _ (by decide +kernel)
theorem tw_809 : Cond.methodLink RL 308 yX11_padding ∈ lw_tbl := kt_7 _ (by decide +kernel)
theorem tw_810 : Cond.instanceMethod yX11_padding ∈ lw_tbl := kt_7 _ (by decide +kernel)
theorem tw_811 : Cond.selects RX11 yX11_padding yX11_padding ∈ lw_tbl := kt_7 _ (by decide +kernel)
theorem tw_812 : Cond.methodLink RL 312 yL_split ∈ lw_tbl := kt_5 _ (by decide +kernel)
theorem tw_813 : Cond.static yL_split ∈ lw_tbl := kt_5 _ (by decide +kernel)
theorem tw_814 : Cond.initialized yL_split.cls ∈ lw_tbl := kt_1 _ (by decide +kernel)
theorem tw_815 : Cond.methodLink RL 314 yX11_split ∈ lw_tbl := kt_7 _ (by decide +kernel)
theorem tw_816 : Cond.instanceMethod yX11_split ∈ lw_tbl := kt_7 _ (by decide +kernel)
theorem tw_817 : Cond.selects RX11 yX11_split yX11_split ∈ lw_tbl := kt_8 _ (by decide +kernel)
theorem tw_818 : Cond.methodLink RL 315 yL_play ∈ lw_tbl := kt_5 _ (by decide +kernel)
theorem tw_819 : Cond.static yL_play ∈ lw_tbl := kt_5 _ (by decide +kernel)
theorem tw_820 : Cond.initialized yL_play.cls ∈ lw_tbl := kt_1 _ (by decide +kernel)
theorem tw_821 : Cond.methodLink RL 317 yX11_play ∈ lw_tbl := kt_8 _ (by decide +kernel)
theorem tw_822 : Cond.instanceMethod yX11_play ∈ lw_tbl := kt_8 _ (by decide +kernel)
theorem tw_823 : Cond.selects RX11 yX11_play yX11_play ∈ lw_tbl := kt_8 _ (by decide +kernel)
theorem tw_824 : Cond.methodLink RL 321 yL_vote ∈ lw_tbl := kt_5 _ (by decide +kernel)
theorem tw_825 : Cond.static yL_vote ∈ lw_tbl := kt_5 _ (by decide +kernel)
theorem tw_826 : Cond.initialized yL_vote.cls ∈ lw_tbl := kt_1 _ (by decide +kernel)
theorem tw_827 : Cond.methodLink RL 323 yX11_vote ∈ lw_tbl := kt_8 _ (by decide +kernel)
theorem tw_828 : Cond.instanceMethod yX11_vote ∈ lw_tbl := kt_8 _ (by decide +kernel)
theorem tw_829 : Cond.selects RX11 yX11_vote yX11_vote ∈ lw_tbl := kt_8 _ (by decide +kernel)
theorem tw_830 : Cond.methodLink RL 324 yL_favourite ∈ lw_tbl := kt_5 _ (by decide +kernel)
theorem tw_831 : Cond.static yL_favourite ∈ lw_tbl := kt_5 _ (by decide +kernel)
theorem tw_832 : Cond.initialized yL_favourite.cls ∈ lw_tbl := kt_1 _ (by decide +kernel)
theorem tw_833 : Cond.methodLink RL 326 yX11_favourite ∈ lw_tbl := kt_8 _ (by decide +kernel)
theorem tw_834 : Cond.instanceMethod yX11_favourite ∈ lw_tbl := kt_8 _ (by decide +kernel)
theorem tw_835 : Cond.selects RX11 yX11_favourite yX11_favourite ∈ lw_tbl := kt_8 _ (by decide +kernel)
theorem tw_836 : Cond.methodLink RL 327 yL_goodShare ∈ lw_tbl := kt_5 _ (by decide +kernel)
theorem tw_837 : Cond.static yL_goodShare ∈ lw_tbl := kt_5 _ (by decide +kernel)
theorem tw_838 : Cond.initialized yL_goodShare.cls ∈ lw_tbl := kt_1 _ (by decide +kernel)
theorem tw_839 : Cond.methodLink RL 330 yX11_goodShare ∈ lw_tbl := kt_8 _ (by decide +kernel)
theorem tw_840 : Cond.instanceMethod yX11_goodShare ∈ lw_tbl := kt_8 _ (by decide +kernel)
theorem tw_841 : Cond.selects RX11 yX11_goodShare yX11_goodShare ∈ lw_tbl := kt_8 _ (by decide +kernel)
theorem tw_842 : Cond.methodLink RL 331 yL_meanMark ∈ lw_tbl := kt_5 _ (by decide +kernel)
theorem tw_843 : Cond.static yL_meanMark ∈ lw_tbl := kt_5 _ (by decide +kernel)
theorem tw_844 : Cond.initialized yL_meanMark.cls ∈ lw_tbl := kt_1 _ (by decide +kernel)
theorem tw_845 : Cond.methodLink RL 334 yX11_meanMark ∈ lw_tbl := kt_8 _ (by decide +kernel)
theorem tw_846 : Cond.instanceMethod yX11_meanMark ∈ lw_tbl := kt_8 _ (by decide +kernel)
theorem tw_847 : Cond.selects RX11 yX11_meanMark yX11_meanMark ∈ lw_tbl := kt_8 _ (by decide +kernel)
theorem tw_848 : Cond.methodLink RL 241 yL_lock ∈ lw_tbl := kt_3 _ (by decide +kernel)
theorem tw_849 : Cond.static yL_lock ∈ lw_tbl := kt_3 _ (by decide +kernel)
theorem tw_850 : Cond.initialized yL_lock.cls ∈ lw_tbl := kt_1 _ (by decide +kernel)
theorem tw_851 : Cond.methodLink RL 244 yX11_lock ∈ lw_tbl := kt_6 _ (by decide +kernel)
theorem tw_852 : Cond.instanceMethod yX11_lock ∈ lw_tbl := kt_6 _ (by decide +kernel)
theorem tw_853 : Cond.selects RX11 yX11_lock yX11_lock ∈ lw_tbl := kt_6 _ (by decide +kernel)
theorem tw_854 : Cond.methodLink RL 251 yX6_programLength ∈ lw_tbl := kt_1 _ (by decide +kernel)
theorem tw_855 : Cond.instanceMethod yX6_programLength ∈ lw_tbl := kt_1 _ (by decide +kernel)
theorem tw_856 : Cond.selects RX6 yX6_programLength yX6_programLength ∈ lw_tbl := kt_1 _ (by decide +kernel)
theorem tw_857 : Cond.methodLink RL 254 yX11_programLength ∈ lw_tbl := kt_6 _ (by decide +kernel)
theorem tw_858 : Cond.instanceMethod yX11_programLength ∈ lw_tbl := kt_7 _ (by decide +kernel)
theorem tw_859 : Cond.selects RX11 yX11_programLength yX11_programLength ∈ lw_tbl := kt_7 _ (by decide +kernel)
theorem tw_860 : Cond.methodLink RL 340 yX6_isTrue ∈ lw_tbl := kt_1 _ (by decide +kernel)
theorem tw_861 : Cond.instanceMethod yX6_isTrue ∈ lw_tbl := kt_1 _ (by decide +kernel)
theorem tw_862 : Cond.selects RX6 yX6_isTrue yX6_isTrue ∈ lw_tbl := kt_1 _ (by decide +kernel)
theorem tw_863 : Cond.methodLink RL 344 yX11_isTrue ∈ lw_tbl := kt_8 _ (by decide +kernel)
theorem tw_864 : Cond.instanceMethod yX11_isTrue ∈ lw_tbl := kt_8 _ (by decide +kernel)
theorem tw_865 : Cond.selects RX11 yX11_isTrue yX11_isTrue ∈ lw_tbl := kt_8 _ (by decide +kernel)
theorem tw_866 : Cond.methodLink RL 282 yL_edition ∈ lw_tbl := kt_4 _ (by decide +kernel)
theorem tw_867 : Cond.static yL_edition ∈ lw_tbl := kt_4 _ (by decide +kernel)
theorem tw_868 : Cond.initialized yL_edition.cls ∈ lw_tbl := kt_1 _ (by decide +kernel)
theorem tw_869 : Cond.methodLink RL 284 yX11_edition ∈ lw_tbl := kt_7 _ (by decide +kernel)
theorem tw_870 : Cond.instanceMethod yX11_edition ∈ lw_tbl := kt_7 _ (by decide +kernel)
theorem tw_871 : Cond.selects RX11 yX11_edition yX11_edition ∈ lw_tbl := kt_7 _ (by decide +kernel)
theorem tw_872 : Cond.methodLink RL 318 yL_earned ∈ lw_tbl := kt_5 _ (by decide +kernel)
theorem tw_873 : Cond.static yL_earned ∈ lw_tbl := kt_5 _ (by decide +kernel)
theorem tw_874 : Cond.initialized yL_earned.cls ∈ lw_tbl := kt_1 _ (by decide +kernel)
theorem tw_875 : Cond.methodLink RL 320 yX11_earned ∈ lw_tbl := kt_8 _ (by decide +kernel)
theorem tw_876 : Cond.instanceMethod yX11_earned ∈ lw_tbl := kt_8 _ (by decide +kernel)
theorem tw_877 : Cond.selects RX11 yX11_earned yX11_earned ∈ lw_tbl := kt_8 _ (by decide +kernel)
theorem tw_878 : Cond.methodLink RL 177 yL_reel ∈ lw_tbl := kt_2 _ (by decide +kernel)
theorem tw_879 : Cond.static yL_reel ∈ lw_tbl := kt_2 _ (by decide +kernel)
theorem tw_880 : Cond.initialized yL_reel.cls ∈ lw_tbl := kt_1 _ (by decide +kernel)
theorem tw_881 : Cond.methodLink RL 182 yX11_reel ∈ lw_tbl := kt_5 _ (by decide +kernel)
theorem tw_882 : Cond.instanceMethod yX11_reel ∈ lw_tbl := kt_5 _ (by decide +kernel)
theorem tw_883 : Cond.selects RX11 yX11_reel yX11_reel ∈ lw_tbl := kt_5 _ (by decide +kernel)
theorem tw_884 : Cond.methodLink RL 202 yL_silence ∈ lw_tbl := kt_3 _ (by decide +kernel)
theorem tw_885 : Cond.static yL_silence ∈ lw_tbl := kt_3 _ (by decide +kernel)
theorem tw_886 : Cond.initialized yL_silence.cls ∈ lw_tbl := kt_1 _ (by decide +kernel)
theorem tw_887 : Cond.methodLink RL 204 yX11_silence ∈ lw_tbl := kt_6 _ (by decide +kernel)
theorem tw_888 : Cond.instanceMethod yX11_silence ∈ lw_tbl := kt_6 _ (by decide +kernel)
theorem tw_889 : Cond.selects RX11 yX11_silence yX11_silence ∈ lw_tbl := kt_6 _ (by decide +kernel)
theorem tw_890 : Cond.methodLink RL 258 yL_sides ∈ lw_tbl := kt_4 _ (by decide +kernel)
theorem tw_891 : Cond.static yL_sides ∈ lw_tbl := kt_4 _ (by decide +kernel)
theorem tw_892 : Cond.initialized yL_sides.cls ∈ lw_tbl := kt_1 _ (by decide +kernel)
theorem tw_893 : Cond.methodLink RL 260 yX11_sides ∈ lw_tbl := kt_7 _ (by decide +kernel)
theorem tw_894 : Cond.instanceMethod yX11_sides ∈ lw_tbl := kt_7 _ (by decide +kernel)
theorem tw_895 : Cond.selects RX11 yX11_sides yX11_sides ∈ lw_tbl := kt_7 _ (by decide +kernel)
theorem tw_896 : Cond.methodLink RL 264 yL_engrave ∈ lw_tbl := kt_4 _ (by decide +kernel)
theorem tw_897 : Cond.static yL_engrave ∈ lw_tbl := kt_4 _ (by decide +kernel)
theorem tw_898 : Cond.initialized yL_engrave.cls ∈ lw_tbl := kt_1 _ (by decide +kernel)
theorem tw_899 : Cond.methodLink RL 266 yX11_engrave ∈ lw_tbl := kt_7 _ (by decide +kernel)
theorem tw_900 : Cond.instanceMethod yX11_engrave ∈ lw_tbl := kt_7 _ (by decide +kernel)
theorem tw_901 : Cond.selects RX11 yX11_engrave yX11_engrave ∈ lw_tbl := kt_7 _ (by decide +kernel)
theorem tw_902 : Cond.methodLink RL 309 yL_shuffled ∈ lw_tbl := kt_5 _ (by decide +kernel)
theorem tw_903 : Cond.static yL_shuffled ∈ lw_tbl := kt_5 _ (by decide +kernel)
theorem tw_904 : Cond.initialized yL_shuffled.cls ∈ lw_tbl := kt_1 _ (by decide +kernel)
theorem tw_905 : Cond.methodLink RL 311 yX11_shuffled ∈ lw_tbl := kt_7 _ (by decide +kernel)
theorem tw_906 : Cond.instanceMethod yX11_shuffled ∈ lw_tbl := kt_7 _ (by decide +kernel)
theorem tw_907 : Cond.selects RX11 yX11_shuffled yX11_shuffled ∈ lw_tbl := kt_7 _ (by decide +kernel)
theorem tw_908 : Cond.methodLink RL 335 yX6_checksum ∈ lw_tbl := kt_1 _ (by decide +kernel)
theorem tw_909 : Cond.instanceMethod yX6_checksum ∈ lw_tbl := kt_1 _ (by decide +kernel)
theorem tw_910 : Cond.selects RX6 yX6_checksum yX6_checksum ∈ lw_tbl := kt_1 _ (by decide +kernel)
theorem tw_911 : Cond.methodLink RL 339 yX11_checksum ∈ lw_tbl := kt_8 _ (by decide +kernel)
theorem tw_912 : Cond.instanceMethod yX11_checksum ∈ lw_tbl := kt_8 _ (by decide +kernel)
theorem tw_913 : Cond.selects RX11 yX11_checksum yX11_checksum ∈ lw_tbl := kt_8 _ (by decide +kernel)
theorem tl_Jx35411 : ∀ w ∈ u_ws RJx35411 TJx35411 4, w ∈ lw_tbl := by first | exact fun w h => kt_1 w ((by decide +kernel : ∀ w ∈ u_ws RJx35411 TJx35411 4, w ∈ tables_1_1) w h) | exact fun w h => kt_2 w ((by decide +kernel : ∀ w ∈ u_ws RJx35411 TJx35411 4, w ∈ tables_1_2) w h) | exact fun w h => kt_3 w ((by decide +kernel : ∀ w ∈ u_ws RJx35411 TJx35411 4, w ∈ tables_1_3) w h) | exact fun w h => kt_4 w ((by decide +kernel : ∀ w ∈ u_ws RJx35411 TJx35411 4, w ∈ tables_1_4) w h) | exact fun w h => kt_5 w ((by decide +kernel : ∀ w ∈ u_ws RJx35411 TJx35411 4, w ∈ tables_1_5) w h) | exact fun w h => kt_6 w ((by decide +kernel : ∀ w ∈ u_ws RJx35411 TJx35411 4, w ∈ tables_1_6) w h) | exact fun w h => kt_7 w ((by decide +kernel : ∀ w ∈ u_ws RJx35411 TJx35411 4, w ∈ tables_1_7) w h) | exact fun w h => kt_8 w ((by decide +kernel : ∀ w ∈ u_ws RJx35411 TJx35411 4, w ∈ tables_1_8) w h) | decide +kernel
theorem tl_Jx4a65c : ∀ w ∈ u_ws RJx4a65c TJx4a65c 3, w ∈ lw_tbl := by first | exact fun w h => kt_1 w ((by decide +kernel : ∀ w ∈ u_ws RJx4a65c TJx4a65c 3, w ∈ tables_1_1) w h) | exact fun w h => kt_2 w ((by decide +kernel : ∀ w ∈ u_ws RJx4a65c TJx4a65c 3, w ∈ tables_1_2) w h) | exact fun w h => kt_3 w ((by decide +kernel : ∀ w ∈ u_ws RJx4a65c TJx4a65c 3, w ∈ tables_1_3) w h) | exact fun w h => kt_4 w ((by decide +kernel : ∀ w ∈ u_ws RJx4a65c TJx4a65c 3, w ∈ tables_1_4) w h) | exact fun w h => kt_5 w ((by decide +kernel : ∀ w ∈ u_ws RJx4a65c TJx4a65c 3, w ∈ tables_1_5) w h) | exact fun w h => kt_6 w ((by decide +kernel : ∀ w ∈ u_ws RJx4a65c TJx4a65c 3, w ∈ tables_1_6) w h) | exact fun w h => kt_7 w ((by decide +kernel : ∀ w ∈ u_ws RJx4a65c TJx4a65c 3, w ∈ tables_1_7) w h) | exact fun w h => kt_8 w ((by decide +kernel : ∀ w ∈ u_ws RJx4a65c TJx4a65c 3, w ∈ tables_1_8) w h) | decide +kernel
theorem tl_X11 : ∀ w ∈ u_ws RX11 TX11 11, w ∈ lw_tbl := by first | exact fun w h => kt_1 w ((by decide +kernel : ∀ w ∈ u_ws RX11 TX11 11, w ∈ tables_1_1) w h) | exact fun w h => kt_2 w ((by decide +kernel : ∀ w ∈ u_ws RX11 TX11 11, w ∈ tables_1_2) w h) | exact fun w h => kt_3 w ((by decide +kernel : ∀ w ∈ u_ws RX11 TX11 11, w ∈ tables_1_3) w h) | exact fun w h => kt_4 w ((by decide +kernel : ∀ w ∈ u_ws RX11 TX11 11, w ∈ tables_1_4) w h) | exact fun w h => kt_5 w ((by decide +kernel : ∀ w ∈ u_ws RX11 TX11 11, w ∈ tables_1_5) w h) | exact fun w h => kt_6 w ((by decide +kernel : ∀ w ∈ u_ws RX11 TX11 11, w ∈ tables_1_6) w h) | exact fun w h => kt_7 w ((by decide +kernel : ∀ w ∈ u_ws RX11 TX11 11, w ∈ tables_1_7) w h) | exact fun w h => kt_8 w ((by decide +kernel : ∀ w ∈ u_ws RX11 TX11 11, w ∈ tables_1_8) w h) | decide +kernel
theorem tl_X2 : ∀ w ∈ u_ws RX2 TX2 9, w ∈ lw_tbl := by first | exact fun w h => kt_1 w ((by decide +kernel : ∀ w ∈ u_ws RX2 TX2 9, w ∈ tables_1_1) w h) | exact fun w h => kt_2 w ((by decide +kernel : ∀ w ∈ u_ws RX2 TX2 9, w ∈ tables_1_2) w h) | exact fun w h => kt_3 w ((by decide +kernel : ∀ w ∈ u_ws RX2 TX2 9, w ∈ tables_1_3) w h) | exact fun w h => kt_4 w ((by decide +kernel : ∀ w ∈ u_ws RX2 TX2 9, w ∈ tables_1_4) w h) | exact fun w h => kt_5 w ((by decide +kernel : ∀ w ∈ u_ws RX2 TX2 9, w ∈ tables_1_5) w h) | exact fun w h => kt_6 w ((by decide +kernel : ∀ w ∈ u_ws RX2 TX2 9, w ∈ tables_1_6) w h) | exact fun w h => kt_7 w ((by decide +kernel : ∀ w ∈ u_ws RX2 TX2 9, w ∈ tables_1_7) w h) | exact fun w h => kt_8 w ((by decide +kernel : ∀ w ∈ u_ws RX2 TX2 9, w ∈ tables_1_8) w h) | decide +kernel
theorem tl_X3 : ∀ w ∈ u_ws RX3 TX3 11, w ∈ lw_tbl := by first | exact fun w h => kt_1 w ((by decide +kernel : ∀ w ∈ u_ws RX3 TX3 11, w ∈ tables_1_1) w h) | exact fun w h => kt_2 w ((by decide +kernel : ∀ w ∈ u_ws RX3 TX3 11, w ∈ tables_1_2) w h) | exact fun w h => kt_3 w ((by decide +kernel : ∀ w ∈ u_ws RX3 TX3 11, w ∈ tables_1_3) w h) | exact fun w h => kt_4 w ((by decide +kernel : ∀ w ∈ u_ws RX3 TX3 11, w ∈ tables_1_4) w h) | exact fun w h => kt_5 w ((by decide +kernel : ∀ w ∈ u_ws RX3 TX3 11, w ∈ tables_1_5) w h) | exact fun w h => kt_6 w ((by decide +kernel : ∀ w ∈ u_ws RX3 TX3 11, w ∈ tables_1_6) w h) | exact fun w h => kt_7 w ((by decide +kernel : ∀ w ∈ u_ws RX3 TX3 11, w ∈ tables_1_7) w h) | exact fun w h => kt_8 w ((by decide +kernel : ∀ w ∈ u_ws RX3 TX3 11, w ∈ tables_1_8) w h) | decide +kernel
theorem tl_X4 : ∀ w ∈ u_ws RX4 TX4 6, w ∈ lw_tbl := by first | exact fun w h => kt_1 w ((by decide +kernel : ∀ w ∈ u_ws RX4 TX4 6, w ∈ tables_1_1) w h) | exact fun w h => kt_2 w ((by decide +kernel : ∀ w ∈ u_ws RX4 TX4 6, w ∈ tables_1_2) w h) | exact fun w h => kt_3 w ((by decide +kernel : ∀ w ∈ u_ws RX4 TX4 6, w ∈ tables_1_3) w h) | exact fun w h => kt_4 w ((by decide +kernel : ∀ w ∈ u_ws RX4 TX4 6, w ∈ tables_1_4) w h) | exact fun w h => kt_5 w ((by decide +kernel : ∀ w ∈ u_ws RX4 TX4 6, w ∈ tables_1_5) w h) | exact fun w h => kt_6 w ((by decide +kernel : ∀ w ∈ u_ws RX4 TX4 6, w ∈ tables_1_6) w h) | exact fun w h => kt_7 w ((by decide +kernel : ∀ w ∈ u_ws RX4 TX4 6, w ∈ tables_1_7) w h) | exact fun w h => kt_8 w ((by decide +kernel : ∀ w ∈ u_ws RX4 TX4 6, w ∈ tables_1_8) w h) | decide +kernel
theorem tl_X5 : ∀ w ∈ u_ws RX5 TX5 2, w ∈ lw_tbl := by first | exact fun w h => kt_1 w ((by decide +kernel : ∀ w ∈ u_ws RX5 TX5 2, w ∈ tables_1_1) w h) | exact fun w h => kt_2 w ((by decide +kernel : ∀ w ∈ u_ws RX5 TX5 2, w ∈ tables_1_2) w h) | exact fun w h => kt_3 w ((by decide +kernel : ∀ w ∈ u_ws RX5 TX5 2, w ∈ tables_1_3) w h) | exact fun w h => kt_4 w ((by decide +kernel : ∀ w ∈ u_ws RX5 TX5 2, w ∈ tables_1_4) w h) | exact fun w h => kt_5 w ((by decide +kernel : ∀ w ∈ u_ws RX5 TX5 2, w ∈ tables_1_5) w h) | exact fun w h => kt_6 w ((by decide +kernel : ∀ w ∈ u_ws RX5 TX5 2, w ∈ tables_1_6) w h) | exact fun w h => kt_7 w ((by decide +kernel : ∀ w ∈ u_ws RX5 TX5 2, w ∈ tables_1_7) w h) | exact fun w h => kt_8 w ((by decide +kernel : ∀ w ∈ u_ws RX5 TX5 2, w ∈ tables_1_8) w h) | decide +kernel
theorem tl_X6 : ∀ w ∈ u_ws RX6 TX6 8, w ∈ lw_tbl := by first | exact fun w h => kt_1 w ((by decide +kernel : ∀ w ∈ u_ws RX6 TX6 8, w ∈ tables_1_1) w h) | exact fun w h => kt_2 w ((by decide +kernel : ∀ w ∈ u_ws RX6 TX6 8, w ∈ tables_1_2) w h) | exact fun w h => kt_3 w ((by decide +kernel : ∀ w ∈ u_ws RX6 TX6 8, w ∈ tables_1_3) w h) | exact fun w h => kt_4 w ((by decide +kernel : ∀ w ∈ u_ws RX6 TX6 8, w ∈ tables_1_4) w h) | exact fun w h => kt_5 w ((by decide +kernel : ∀ w ∈ u_ws RX6 TX6 8, w ∈ tables_1_5) w h) | exact fun w h => kt_6 w ((by decide +kernel : ∀ w ∈ u_ws RX6 TX6 8, w ∈ tables_1_6) w h) | exact fun w h => kt_7 w ((by decide +kernel : ∀ w ∈ u_ws RX6 TX6 8, w ∈ tables_1_7) w h) | exact fun w h => kt_8 w ((by decide +kernel : ∀ w ∈ u_ws RX6 TX6 8, w ∈ tables_1_8) w h) | decide +kernel
theorem tl_X9 : ∀ w ∈ u_ws RX9 TX9 2, w ∈ lw_tbl := by first | exact fun w h => kt_1 w ((by decide +kernel : ∀ w ∈ u_ws RX9 TX9 2, w ∈ tables_1_1) w h) | exact fun w h => kt_2 w ((by decide +kernel : ∀ w ∈ u_ws RX9 TX9 2, w ∈ tables_1_2) w h) | exact fun w h => kt_3 w ((by decide +kernel : ∀ w ∈ u_ws RX9 TX9 2, w ∈ tables_1_3) w h) | exact fun w h => kt_4 w ((by decide +kernel : ∀ w ∈ u_ws RX9 TX9 2, w ∈ tables_1_4) w h) | exact fun w h => kt_5 w ((by decide +kernel : ∀ w ∈ u_ws RX9 TX9 2, w ∈ tables_1_5) w h) | exact fun w h => kt_6 w ((by decide +kernel : ∀ w ∈ u_ws RX9 TX9 2, w ∈ tables_1_6) w h) | exact fun w h => kt_7 w ((by decide +kernel : ∀ w ∈ u_ws RX9 TX9 2, w ∈ tables_1_7) w h) | exact fun w h => kt_8 w ((by decide +kernel : ∀ w ∈ u_ws RX9 TX9 2, w ∈ tables_1_8) w h) | decide +kernel
theorem tt_79 : ∀ w ∈ (vx_atS RX6 79 "java/lang/IndexOutOfBoundsException" ["java/lang/RuntimeException", "java/lang/Exception"]).filter goodWord, w ∈ lw_tbl := by decide +kernel
theorem tt_84 : ∀ w ∈ (vx_atS RX6 84 "java/lang/IllegalArgumentException" ["java/lang/RuntimeException", "java/lang/Exception"]).filter goodWord, w ∈ lw_tbl := by decide +kernel
theorem tt_207 : ∀ w ∈ (vx_atS RX6 207 "java/lang/UnsupportedOperationException" ["java/lang/RuntimeException", "java/lang/Exception"]).filter goodWord, w ∈ lw_tbl := by decide +kernel
theorem tt_277 : ∀ w ∈ (kn_at 277).filter goodWord, w ∈ lw_tbl := by decide +kernel
theorem tt_329 : ∀ w ∈ (vx_atS RX6 329 "java/lang/ArithmeticException" ["java/lang/RuntimeException", "java/lang/Exception"]).filter goodWord, w ∈ lw_tbl := by decide +kernel
theorem tk_own_c_X6_needIndex : ∀ w ∈ wo_c_X6_needIndex, w ∈ lw_tbl := (List.forall_mem_cons.mpr ⟨tw_0, (List.forall_mem_cons.mpr ⟨tw_1, (fun _ h => absurd h List.not_mem_nil)⟩)⟩)
theorem tk_c_X6_needIndex : ∀ w ∈ wk_c_X6_needIndex, w ∈ lw_tbl := List.forall_mem_cons.mpr ⟨tw_2, (List.forall_mem_append.mpr ⟨(tk_own_c_X6_needIndex), tt_79⟩)⟩
theorem tk_own_c_X6_knownReel : ∀ w ∈ wo_c_X6_knownReel, w ∈ lw_tbl := (List.forall_mem_cons.mpr ⟨tw_12, (fun _ h => absurd h List.not_mem_nil)⟩)
theorem tk_c_X6_knownReel : ∀ w ∈ wk_c_X6_knownReel, w ∈ lw_tbl := List.forall_mem_cons.mpr ⟨tw_13, (List.forall_mem_append.mpr ⟨(tk_own_c_X6_knownReel), (List.forall_mem_append.mpr ⟨tl_X6, (List.forall_mem_append.mpr ⟨(List.forall_mem_cons.mpr ⟨tw_9, (List.forall_mem_cons.mpr ⟨tw_10, (List.forall_mem_cons.mpr ⟨tw_11, (fun _ h => absurd h List.not_mem_nil)⟩)⟩)⟩), tk_c_X6_needIndex⟩)⟩)⟩)⟩
theorem tk_own_c_X6_sample : ∀ w ∈ wo_c_X6_sample, w ∈ lw_tbl := (fun _ h => absurd h List.not_mem_nil)
theorem tk_c_X6_sample : ∀ w ∈ wk_c_X6_sample, w ∈ lw_tbl := List.forall_mem_cons.mpr ⟨tw_25, (List.forall_mem_append.mpr ⟨(tk_own_c_X6_sample), (List.forall_mem_append.mpr ⟨(List.forall_mem_cons.mpr ⟨tw_21, (List.forall_mem_cons.mpr ⟨tw_22, (List.forall_mem_cons.mpr ⟨tw_23, (List.forall_mem_cons.mpr ⟨tw_24, (fun _ h => absurd h List.not_mem_nil)⟩)⟩)⟩)⟩), tk_c_X6_knownReel⟩)⟩)⟩
theorem tk_own_c_L_sample : ∀ w ∈ wo_c_L_sample, w ∈ lw_tbl := (List.forall_mem_cons.mpr ⟨tw_421, (fun _ h => absurd h List.not_mem_nil)⟩)
theorem tk_c_L_sample : ∀ w ∈ wk_c_L_sample, w ∈ lw_tbl := List.forall_mem_cons.mpr ⟨tw_422, (List.forall_mem_append.mpr ⟨(tk_own_c_L_sample), (List.forall_mem_append.mpr ⟨(List.forall_mem_cons.mpr ⟨tw_418, (List.forall_mem_cons.mpr ⟨tw_419, (List.forall_mem_cons.mpr ⟨tw_420, (List.forall_mem_cons.mpr ⟨tw_24, (fun _ h => absurd h List.not_mem_nil)⟩)⟩)⟩)⟩), tk_c_X6_sample⟩)⟩)⟩
theorem tk_own_c_size : ∀ w ∈ wo_c_size, w ∈ lw_tbl := (List.forall_mem_cons.mpr ⟨tw_118, (fun _ h => absurd h List.not_mem_nil)⟩)
theorem tk_c_size : ∀ w ∈ wk_c_size, w ∈ lw_tbl := List.forall_mem_cons.mpr ⟨tw_119, (List.forall_mem_append.mpr ⟨(tk_own_c_size), tl_Jx4a65c⟩)⟩
theorem tk_own_c_X11_in_f : ∀ w ∈ wo_c_X11_in_f, w ∈ lw_tbl := (fun _ h => absurd h List.not_mem_nil)
theorem tk_c_X11_in_f : ∀ w ∈ wk_c_X11_in_f, w ∈ lw_tbl := List.forall_mem_cons.mpr ⟨tw_117, (tk_own_c_X11_in_f)⟩
theorem tk_own_c_X11_noReel : ∀ w ∈ wo_c_X11_noReel, w ∈ lw_tbl := (List.forall_mem_cons.mpr ⟨tw_128, (List.forall_mem_cons.mpr ⟨tw_129, (fun _ h => absurd h List.not_mem_nil)⟩)⟩)
theorem tk_c_X11_noReel : ∀ w ∈ wk_c_X11_noReel, w ∈ lw_tbl := List.forall_mem_cons.mpr ⟨tw_130, (List.forall_mem_append.mpr ⟨(tk_own_c_X11_noReel), (List.forall_mem_append.mpr ⟨tl_X11, (List.forall_mem_append.mpr ⟨(List.forall_mem_append.mpr ⟨(List.forall_mem_cons.mpr ⟨tw_121, (List.forall_mem_cons.mpr ⟨tw_122, (List.forall_mem_cons.mpr ⟨tw_123, (List.forall_mem_cons.mpr ⟨tw_124, (fun _ h => absurd h List.not_mem_nil)⟩)⟩)⟩)⟩), tk_c_size⟩), (List.forall_mem_append.mpr ⟨(List.forall_mem_cons.mpr ⟨tw_125, (List.forall_mem_cons.mpr ⟨tw_126, (List.forall_mem_cons.mpr ⟨tw_127, (fun _ h => absurd h List.not_mem_nil)⟩)⟩)⟩), tk_c_X11_in_f⟩)⟩)⟩)⟩)⟩
theorem tk_own_c_X11_sample : ∀ w ∈ wo_c_X11_sample, w ∈ lw_tbl := (fun _ h => absurd h List.not_mem_nil)
theorem tk_c_X11_sample : ∀ w ∈ wk_c_X11_sample, w ∈ lw_tbl := List.forall_mem_cons.mpr ⟨tw_143, (List.forall_mem_append.mpr ⟨(tk_own_c_X11_sample), (List.forall_mem_append.mpr ⟨(List.forall_mem_cons.mpr ⟨tw_139, (List.forall_mem_cons.mpr ⟨tw_140, (List.forall_mem_cons.mpr ⟨tw_141, (List.forall_mem_cons.mpr ⟨tw_142, (fun _ h => absurd h List.not_mem_nil)⟩)⟩)⟩)⟩), tk_c_X11_noReel⟩)⟩)⟩
theorem tk_own_c_X11_thrown : ∀ w ∈ wo_c_X11_thrown, w ∈ lw_tbl := (List.forall_mem_cons.mpr ⟨tw_129, (fun _ h => absurd h List.not_mem_nil)⟩)
theorem tk_c_X11_thrown : ∀ w ∈ wk_c_X11_thrown, w ∈ lw_tbl := List.forall_mem_cons.mpr ⟨tw_231, (List.forall_mem_append.mpr ⟨(tk_own_c_X11_thrown), tl_X11⟩)⟩
theorem tk_own_c_X6_wave : ∀ w ∈ wo_c_X6_wave, w ∈ lw_tbl := (fun _ h => absurd h List.not_mem_nil)
theorem tk_c_X6_wave : ∀ w ∈ wk_c_X6_wave, w ∈ lw_tbl := List.forall_mem_cons.mpr ⟨tw_26, (List.forall_mem_append.mpr ⟨(tk_own_c_X6_wave), (List.forall_mem_append.mpr ⟨(List.forall_mem_cons.mpr ⟨tw_21, (List.forall_mem_cons.mpr ⟨tw_22, (List.forall_mem_cons.mpr ⟨tw_23, (List.forall_mem_cons.mpr ⟨tw_24, (fun _ h => absurd h List.not_mem_nil)⟩)⟩)⟩)⟩), tk_c_X6_knownReel⟩)⟩)⟩
theorem tk_own_c_L_wave : ∀ w ∈ wo_c_L_wave, w ∈ lw_tbl := (List.forall_mem_cons.mpr ⟨tw_421, (fun _ h => absurd h List.not_mem_nil)⟩)
theorem tk_c_L_wave : ∀ w ∈ wk_c_L_wave, w ∈ lw_tbl := List.forall_mem_cons.mpr ⟨tw_426, (List.forall_mem_append.mpr ⟨(tk_own_c_L_wave), (List.forall_mem_append.mpr ⟨(List.forall_mem_cons.mpr ⟨tw_423, (List.forall_mem_cons.mpr ⟨tw_424, (List.forall_mem_cons.mpr ⟨tw_425, (List.forall_mem_cons.mpr ⟨tw_24, (fun _ h => absurd h List.not_mem_nil)⟩)⟩)⟩)⟩), tk_c_X6_wave⟩)⟩)⟩
theorem tk_own_c_X11_wave : ∀ w ∈ wo_c_X11_wave, w ∈ lw_tbl := (fun _ h => absurd h List.not_mem_nil)
theorem tk_c_X11_wave : ∀ w ∈ wk_c_X11_wave, w ∈ lw_tbl := List.forall_mem_cons.mpr ⟨tw_144, (List.forall_mem_append.mpr ⟨(tk_own_c_X11_wave), (List.forall_mem_append.mpr ⟨(List.forall_mem_cons.mpr ⟨tw_139, (List.forall_mem_cons.mpr ⟨tw_140, (List.forall_mem_cons.mpr ⟨tw_141, (List.forall_mem_cons.mpr ⟨tw_142, (fun _ h => absurd h List.not_mem_nil)⟩)⟩)⟩)⟩), tk_c_X11_noReel⟩)⟩)⟩
theorem tk_own_c_X6_reelLength : ∀ w ∈ wo_c_X6_reelLength, w ∈ lw_tbl := (fun _ h => absurd h List.not_mem_nil)
theorem tk_c_X6_reelLength : ∀ w ∈ wk_c_X6_reelLength, w ∈ lw_tbl := List.forall_mem_cons.mpr ⟨tw_27, (List.forall_mem_append.mpr ⟨(tk_own_c_X6_reelLength), (List.forall_mem_append.mpr ⟨(List.forall_mem_cons.mpr ⟨tw_21, (List.forall_mem_cons.mpr ⟨tw_22, (List.forall_mem_cons.mpr ⟨tw_23, (List.forall_mem_cons.mpr ⟨tw_24, (fun _ h => absurd h List.not_mem_nil)⟩)⟩)⟩)⟩), tk_c_X6_knownReel⟩)⟩)⟩
theorem tk_own_c_L_reelLength : ∀ w ∈ wo_c_L_reelLength, w ∈ lw_tbl := (List.forall_mem_cons.mpr ⟨tw_421, (fun _ h => absurd h List.not_mem_nil)⟩)
theorem tk_c_L_reelLength : ∀ w ∈ wk_c_L_reelLength, w ∈ lw_tbl := List.forall_mem_cons.mpr ⟨tw_430, (List.forall_mem_append.mpr ⟨(tk_own_c_L_reelLength), (List.forall_mem_append.mpr ⟨(List.forall_mem_cons.mpr ⟨tw_427, (List.forall_mem_cons.mpr ⟨tw_428, (List.forall_mem_cons.mpr ⟨tw_429, (List.forall_mem_cons.mpr ⟨tw_24, (fun _ h => absurd h List.not_mem_nil)⟩)⟩)⟩)⟩), tk_c_X6_reelLength⟩)⟩)⟩
theorem tk_own_c_X11_reelLength : ∀ w ∈ wo_c_X11_reelLength, w ∈ lw_tbl := (fun _ h => absurd h List.not_mem_nil)
theorem tk_c_X11_reelLength : ∀ w ∈ wk_c_X11_reelLength, w ∈ lw_tbl := List.forall_mem_cons.mpr ⟨tw_145, (List.forall_mem_append.mpr ⟨(tk_own_c_X11_reelLength), (List.forall_mem_append.mpr ⟨(List.forall_mem_cons.mpr ⟨tw_139, (List.forall_mem_cons.mpr ⟨tw_140, (List.forall_mem_cons.mpr ⟨tw_141, (List.forall_mem_cons.mpr ⟨tw_142, (fun _ h => absurd h List.not_mem_nil)⟩)⟩)⟩)⟩), tk_c_X11_noReel⟩)⟩)⟩
theorem tk_own_c_X6_cut : ∀ w ∈ wo_c_X6_cut, w ∈ lw_tbl := (fun _ h => absurd h List.not_mem_nil)
theorem tk_c_X6_cut : ∀ w ∈ wk_c_X6_cut, w ∈ lw_tbl := List.forall_mem_cons.mpr ⟨tw_28, (List.forall_mem_append.mpr ⟨(tk_own_c_X6_cut), (List.forall_mem_append.mpr ⟨(List.forall_mem_cons.mpr ⟨tw_21, (List.forall_mem_cons.mpr ⟨tw_22, (List.forall_mem_cons.mpr ⟨tw_23, (List.forall_mem_cons.mpr ⟨tw_24, (fun _ h => absurd h List.not_mem_nil)⟩)⟩)⟩)⟩), tk_c_X6_knownReel⟩)⟩)⟩
theorem tk_own_c_L_cut : ∀ w ∈ wo_c_L_cut, w ∈ lw_tbl := (List.forall_mem_cons.mpr ⟨tw_421, (fun _ h => absurd h List.not_mem_nil)⟩)
theorem tk_c_L_cut : ∀ w ∈ wk_c_L_cut, w ∈ lw_tbl := List.forall_mem_cons.mpr ⟨tw_434, (List.forall_mem_append.mpr ⟨(tk_own_c_L_cut), (List.forall_mem_append.mpr ⟨(List.forall_mem_cons.mpr ⟨tw_431, (List.forall_mem_cons.mpr ⟨tw_432, (List.forall_mem_cons.mpr ⟨tw_433, (List.forall_mem_cons.mpr ⟨tw_24, (fun _ h => absurd h List.not_mem_nil)⟩)⟩)⟩)⟩), tk_c_X6_cut⟩)⟩)⟩
theorem tk_own_c_X11_cut : ∀ w ∈ wo_c_X11_cut, w ∈ lw_tbl := (fun _ h => absurd h List.not_mem_nil)
theorem tk_c_X11_cut : ∀ w ∈ wk_c_X11_cut, w ∈ lw_tbl := List.forall_mem_cons.mpr ⟨tw_146, (List.forall_mem_append.mpr ⟨(tk_own_c_X11_cut), (List.forall_mem_append.mpr ⟨(List.forall_mem_cons.mpr ⟨tw_139, (List.forall_mem_cons.mpr ⟨tw_140, (List.forall_mem_cons.mpr ⟨tw_141, (List.forall_mem_cons.mpr ⟨tw_142, (fun _ h => absurd h List.not_mem_nil)⟩)⟩)⟩)⟩), tk_c_X11_noReel⟩)⟩)⟩
theorem tk_own_c_X6_knownPiece : ∀ w ∈ wo_c_X6_knownPiece, w ∈ lw_tbl := (List.forall_mem_cons.mpr ⟨tw_14, (fun _ h => absurd h List.not_mem_nil)⟩)
theorem tk_c_X6_knownPiece : ∀ w ∈ wk_c_X6_knownPiece, w ∈ lw_tbl := List.forall_mem_cons.mpr ⟨tw_15, (List.forall_mem_append.mpr ⟨(tk_own_c_X6_knownPiece), (List.forall_mem_append.mpr ⟨tl_X6, (List.forall_mem_append.mpr ⟨(List.forall_mem_cons.mpr ⟨tw_9, (List.forall_mem_cons.mpr ⟨tw_10, (List.forall_mem_cons.mpr ⟨tw_11, (fun _ h => absurd h List.not_mem_nil)⟩)⟩)⟩), tk_c_X6_needIndex⟩)⟩)⟩)⟩
theorem tk_own_c_X6_splice : ∀ w ∈ wo_c_X6_splice, w ∈ lw_tbl := (fun _ h => absurd h List.not_mem_nil)
theorem tk_c_X6_splice : ∀ w ∈ wk_c_X6_splice, w ∈ lw_tbl := List.forall_mem_cons.mpr ⟨tw_32, (List.forall_mem_append.mpr ⟨(tk_own_c_X6_splice), (List.forall_mem_append.mpr ⟨(List.forall_mem_cons.mpr ⟨tw_29, (List.forall_mem_cons.mpr ⟨tw_30, (List.forall_mem_cons.mpr ⟨tw_31, (List.forall_mem_cons.mpr ⟨tw_24, (fun _ h => absurd h List.not_mem_nil)⟩)⟩)⟩)⟩), tk_c_X6_knownPiece⟩)⟩)⟩
theorem tk_own_c_L_splice : ∀ w ∈ wo_c_L_splice, w ∈ lw_tbl := (List.forall_mem_cons.mpr ⟨tw_421, (fun _ h => absurd h List.not_mem_nil)⟩)
theorem tk_c_L_splice : ∀ w ∈ wk_c_L_splice, w ∈ lw_tbl := List.forall_mem_cons.mpr ⟨tw_438, (List.forall_mem_append.mpr ⟨(tk_own_c_L_splice), (List.forall_mem_append.mpr ⟨(List.forall_mem_cons.mpr ⟨tw_435, (List.forall_mem_cons.mpr ⟨tw_436, (List.forall_mem_cons.mpr ⟨tw_437, (List.forall_mem_cons.mpr ⟨tw_24, (fun _ h => absurd h List.not_mem_nil)⟩)⟩)⟩)⟩), tk_c_X6_splice⟩)⟩)⟩
theorem tk_own_c_X11_splice : ∀ w ∈ wo_c_X11_splice, w ∈ lw_tbl := (List.forall_mem_cons.mpr ⟨tw_131, (List.forall_mem_cons.mpr ⟨tw_129, (fun _ h => absurd h List.not_mem_nil)⟩)⟩)
theorem tk_c_X11_splice : ∀ w ∈ wk_c_X11_splice, w ∈ lw_tbl := List.forall_mem_cons.mpr ⟨tw_162, (List.forall_mem_append.mpr ⟨(tk_own_c_X11_splice), (List.forall_mem_append.mpr ⟨tl_X11, (List.forall_mem_append.mpr ⟨(List.forall_mem_append.mpr ⟨(List.forall_mem_cons.mpr ⟨tw_121, (List.forall_mem_cons.mpr ⟨tw_122, (List.forall_mem_cons.mpr ⟨tw_123, (List.forall_mem_cons.mpr ⟨tw_124, (fun _ h => absurd h List.not_mem_nil)⟩)⟩)⟩)⟩), tk_c_size⟩), (List.forall_mem_append.mpr ⟨(List.forall_mem_cons.mpr ⟨tw_125, (List.forall_mem_cons.mpr ⟨tw_126, (List.forall_mem_cons.mpr ⟨tw_127, (fun _ h => absurd h List.not_mem_nil)⟩)⟩)⟩), tk_c_X11_in_f⟩)⟩)⟩)⟩)⟩
theorem tk_own_c_X6_gain : ∀ w ∈ wo_c_X6_gain, w ∈ lw_tbl := (fun _ h => absurd h List.not_mem_nil)
theorem tk_c_X6_gain : ∀ w ∈ wk_c_X6_gain, w ∈ lw_tbl := List.forall_mem_cons.mpr ⟨tw_33, (List.forall_mem_append.mpr ⟨(tk_own_c_X6_gain), (List.forall_mem_append.mpr ⟨(List.forall_mem_cons.mpr ⟨tw_29, (List.forall_mem_cons.mpr ⟨tw_30, (List.forall_mem_cons.mpr ⟨tw_31, (List.forall_mem_cons.mpr ⟨tw_24, (fun _ h => absurd h List.not_mem_nil)⟩)⟩)⟩)⟩), tk_c_X6_knownPiece⟩)⟩)⟩
theorem tk_own_c_L_gain : ∀ w ∈ wo_c_L_gain, w ∈ lw_tbl := (List.forall_mem_cons.mpr ⟨tw_421, (fun _ h => absurd h List.not_mem_nil)⟩)
theorem tk_c_L_gain : ∀ w ∈ wk_c_L_gain, w ∈ lw_tbl := List.forall_mem_cons.mpr ⟨tw_442, (List.forall_mem_append.mpr ⟨(tk_own_c_L_gain), (List.forall_mem_append.mpr ⟨(List.forall_mem_cons.mpr ⟨tw_439, (List.forall_mem_cons.mpr ⟨tw_440, (List.forall_mem_cons.mpr ⟨tw_441, (List.forall_mem_cons.mpr ⟨tw_24, (fun _ h => absurd h List.not_mem_nil)⟩)⟩)⟩)⟩), tk_c_X6_gain⟩)⟩)⟩
theorem tk_own_c_X11_noPiece : ∀ w ∈ wo_c_X11_noPiece, w ∈ lw_tbl := (List.forall_mem_cons.mpr ⟨tw_131, (List.forall_mem_cons.mpr ⟨tw_129, (fun _ h => absurd h List.not_mem_nil)⟩)⟩)
theorem tk_c_X11_noPiece : ∀ w ∈ wk_c_X11_noPiece, w ∈ lw_tbl := List.forall_mem_cons.mpr ⟨tw_132, (List.forall_mem_append.mpr ⟨(tk_own_c_X11_noPiece), (List.forall_mem_append.mpr ⟨tl_X11, (List.forall_mem_append.mpr ⟨(List.forall_mem_append.mpr ⟨(List.forall_mem_cons.mpr ⟨tw_121, (List.forall_mem_cons.mpr ⟨tw_122, (List.forall_mem_cons.mpr ⟨tw_123, (List.forall_mem_cons.mpr ⟨tw_124, (fun _ h => absurd h List.not_mem_nil)⟩)⟩)⟩)⟩), tk_c_size⟩), (List.forall_mem_append.mpr ⟨(List.forall_mem_cons.mpr ⟨tw_125, (List.forall_mem_cons.mpr ⟨tw_126, (List.forall_mem_cons.mpr ⟨tw_127, (fun _ h => absurd h List.not_mem_nil)⟩)⟩)⟩), tk_c_X11_in_f⟩)⟩)⟩)⟩)⟩
theorem tk_own_c_X11_gain : ∀ w ∈ wo_c_X11_gain, w ∈ lw_tbl := (fun _ h => absurd h List.not_mem_nil)
theorem tk_c_X11_gain : ∀ w ∈ wk_c_X11_gain, w ∈ lw_tbl := List.forall_mem_cons.mpr ⟨tw_150, (List.forall_mem_append.mpr ⟨(tk_own_c_X11_gain), (List.forall_mem_append.mpr ⟨(List.forall_mem_cons.mpr ⟨tw_147, (List.forall_mem_cons.mpr ⟨tw_148, (List.forall_mem_cons.mpr ⟨tw_149, (List.forall_mem_cons.mpr ⟨tw_142, (fun _ h => absurd h List.not_mem_nil)⟩)⟩)⟩)⟩), tk_c_X11_noPiece⟩)⟩)⟩
theorem tk_own_c_X6_back : ∀ w ∈ wo_c_X6_back, w ∈ lw_tbl := (fun _ h => absurd h List.not_mem_nil)
theorem tk_c_X6_back : ∀ w ∈ wk_c_X6_back, w ∈ lw_tbl := List.forall_mem_cons.mpr ⟨tw_34, (List.forall_mem_append.mpr ⟨(tk_own_c_X6_back), (List.forall_mem_append.mpr ⟨(List.forall_mem_cons.mpr ⟨tw_29, (List.forall_mem_cons.mpr ⟨tw_30, (List.forall_mem_cons.mpr ⟨tw_31, (List.forall_mem_cons.mpr ⟨tw_24, (fun _ h => absurd h List.not_mem_nil)⟩)⟩)⟩)⟩), tk_c_X6_knownPiece⟩)⟩)⟩
theorem tk_own_c_L_back : ∀ w ∈ wo_c_L_back, w ∈ lw_tbl := (List.forall_mem_cons.mpr ⟨tw_421, (fun _ h => absurd h List.not_mem_nil)⟩)
theorem tk_c_L_back : ∀ w ∈ wk_c_L_back, w ∈ lw_tbl := List.forall_mem_cons.mpr ⟨tw_446, (List.forall_mem_append.mpr ⟨(tk_own_c_L_back), (List.forall_mem_append.mpr ⟨(List.forall_mem_cons.mpr ⟨tw_443, (List.forall_mem_cons.mpr ⟨tw_444, (List.forall_mem_cons.mpr ⟨tw_445, (List.forall_mem_cons.mpr ⟨tw_24, (fun _ h => absurd h List.not_mem_nil)⟩)⟩)⟩)⟩), tk_c_X6_back⟩)⟩)⟩
theorem tk_own_c_X11_back : ∀ w ∈ wo_c_X11_back, w ∈ lw_tbl := (fun _ h => absurd h List.not_mem_nil)
theorem tk_c_X11_back : ∀ w ∈ wk_c_X11_back, w ∈ lw_tbl := List.forall_mem_cons.mpr ⟨tw_151, (List.forall_mem_append.mpr ⟨(tk_own_c_X11_back), (List.forall_mem_append.mpr ⟨(List.forall_mem_cons.mpr ⟨tw_147, (List.forall_mem_cons.mpr ⟨tw_148, (List.forall_mem_cons.mpr ⟨tw_149, (List.forall_mem_cons.mpr ⟨tw_142, (fun _ h => absurd h List.not_mem_nil)⟩)⟩)⟩)⟩), tk_c_X11_noPiece⟩)⟩)⟩
theorem tk_own_c_X6_limit : ∀ w ∈ wo_c_X6_limit, w ∈ lw_tbl := (fun _ h => absurd h List.not_mem_nil)
theorem tk_c_X6_limit : ∀ w ∈ wk_c_X6_limit, w ∈ lw_tbl := List.forall_mem_cons.mpr ⟨tw_35, (List.forall_mem_append.mpr ⟨(tk_own_c_X6_limit), (List.forall_mem_append.mpr ⟨(List.forall_mem_cons.mpr ⟨tw_29, (List.forall_mem_cons.mpr ⟨tw_30, (List.forall_mem_cons.mpr ⟨tw_31, (List.forall_mem_cons.mpr ⟨tw_24, (fun _ h => absurd h List.not_mem_nil)⟩)⟩)⟩)⟩), tk_c_X6_knownPiece⟩)⟩)⟩
theorem tk_own_c_L_limit : ∀ w ∈ wo_c_L_limit, w ∈ lw_tbl := (List.forall_mem_cons.mpr ⟨tw_421, (fun _ h => absurd h List.not_mem_nil)⟩)
theorem tk_c_L_limit : ∀ w ∈ wk_c_L_limit, w ∈ lw_tbl := List.forall_mem_cons.mpr ⟨tw_450, (List.forall_mem_append.mpr ⟨(tk_own_c_L_limit), (List.forall_mem_append.mpr ⟨(List.forall_mem_cons.mpr ⟨tw_447, (List.forall_mem_cons.mpr ⟨tw_448, (List.forall_mem_cons.mpr ⟨tw_449, (List.forall_mem_cons.mpr ⟨tw_24, (fun _ h => absurd h List.not_mem_nil)⟩)⟩)⟩)⟩), tk_c_X6_limit⟩)⟩)⟩
theorem tk_own_c_X11_limit : ∀ w ∈ wo_c_X11_limit, w ∈ lw_tbl := (fun _ h => absurd h List.not_mem_nil)
theorem tk_c_X11_limit : ∀ w ∈ wk_c_X11_limit, w ∈ lw_tbl := List.forall_mem_cons.mpr ⟨tw_152, (List.forall_mem_append.mpr ⟨(tk_own_c_X11_limit), (List.forall_mem_append.mpr ⟨(List.forall_mem_cons.mpr ⟨tw_147, (List.forall_mem_cons.mpr ⟨tw_148, (List.forall_mem_cons.mpr ⟨tw_149, (List.forall_mem_cons.mpr ⟨tw_142, (fun _ h => absurd h List.not_mem_nil)⟩)⟩)⟩)⟩), tk_c_X11_noPiece⟩)⟩)⟩
theorem tk_own_c_X6_resample : ∀ w ∈ wo_c_X6_resample, w ∈ lw_tbl := (fun _ h => absurd h List.not_mem_nil)
theorem tk_c_X6_resample : ∀ w ∈ wk_c_X6_resample, w ∈ lw_tbl := List.forall_mem_cons.mpr ⟨tw_36, (List.forall_mem_append.mpr ⟨(tk_own_c_X6_resample), (List.forall_mem_append.mpr ⟨(List.forall_mem_cons.mpr ⟨tw_29, (List.forall_mem_cons.mpr ⟨tw_30, (List.forall_mem_cons.mpr ⟨tw_31, (List.forall_mem_cons.mpr ⟨tw_24, (fun _ h => absurd h List.not_mem_nil)⟩)⟩)⟩)⟩), tk_c_X6_knownPiece⟩)⟩)⟩
theorem tk_own_c_L_resample : ∀ w ∈ wo_c_L_resample, w ∈ lw_tbl := (List.forall_mem_cons.mpr ⟨tw_421, (fun _ h => absurd h List.not_mem_nil)⟩)
theorem tk_c_L_resample : ∀ w ∈ wk_c_L_resample, w ∈ lw_tbl := List.forall_mem_cons.mpr ⟨tw_454, (List.forall_mem_append.mpr ⟨(tk_own_c_L_resample), (List.forall_mem_append.mpr ⟨(List.forall_mem_cons.mpr ⟨tw_451, (List.forall_mem_cons.mpr ⟨tw_452, (List.forall_mem_cons.mpr ⟨tw_453, (List.forall_mem_cons.mpr ⟨tw_24, (fun _ h => absurd h List.not_mem_nil)⟩)⟩)⟩)⟩), tk_c_X6_resample⟩)⟩)⟩
theorem tk_own_c_X11_resample : ∀ w ∈ wo_c_X11_resample, w ∈ lw_tbl := (fun _ h => absurd h List.not_mem_nil)
theorem tk_c_X11_resample : ∀ w ∈ wk_c_X11_resample, w ∈ lw_tbl := List.forall_mem_cons.mpr ⟨tw_153, (List.forall_mem_append.mpr ⟨(tk_own_c_X11_resample), (List.forall_mem_append.mpr ⟨(List.forall_mem_cons.mpr ⟨tw_147, (List.forall_mem_cons.mpr ⟨tw_148, (List.forall_mem_cons.mpr ⟨tw_149, (List.forall_mem_cons.mpr ⟨tw_142, (fun _ h => absurd h List.not_mem_nil)⟩)⟩)⟩)⟩), tk_c_X11_noPiece⟩)⟩)⟩
theorem tk_own_c_X6_dither : ∀ w ∈ wo_c_X6_dither, w ∈ lw_tbl := (fun _ h => absurd h List.not_mem_nil)
theorem tk_c_X6_dither : ∀ w ∈ wk_c_X6_dither, w ∈ lw_tbl := List.forall_mem_cons.mpr ⟨tw_37, (List.forall_mem_append.mpr ⟨(tk_own_c_X6_dither), (List.forall_mem_append.mpr ⟨(List.forall_mem_cons.mpr ⟨tw_29, (List.forall_mem_cons.mpr ⟨tw_30, (List.forall_mem_cons.mpr ⟨tw_31, (List.forall_mem_cons.mpr ⟨tw_24, (fun _ h => absurd h List.not_mem_nil)⟩)⟩)⟩)⟩), tk_c_X6_knownPiece⟩)⟩)⟩
theorem tk_own_c_L_dither : ∀ w ∈ wo_c_L_dither, w ∈ lw_tbl := (List.forall_mem_cons.mpr ⟨tw_421, (fun _ h => absurd h List.not_mem_nil)⟩)
theorem tk_c_L_dither : ∀ w ∈ wk_c_L_dither, w ∈ lw_tbl := List.forall_mem_cons.mpr ⟨tw_458, (List.forall_mem_append.mpr ⟨(tk_own_c_L_dither), (List.forall_mem_append.mpr ⟨(List.forall_mem_cons.mpr ⟨tw_455, (List.forall_mem_cons.mpr ⟨tw_456, (List.forall_mem_cons.mpr ⟨tw_457, (List.forall_mem_cons.mpr ⟨tw_24, (fun _ h => absurd h List.not_mem_nil)⟩)⟩)⟩)⟩), tk_c_X6_dither⟩)⟩)⟩
theorem tk_own_c_X11_dither : ∀ w ∈ wo_c_X11_dither, w ∈ lw_tbl := (fun _ h => absurd h List.not_mem_nil)
theorem tk_c_X11_dither : ∀ w ∈ wk_c_X11_dither, w ∈ lw_tbl := List.forall_mem_cons.mpr ⟨tw_154, (List.forall_mem_append.mpr ⟨(tk_own_c_X11_dither), (List.forall_mem_append.mpr ⟨(List.forall_mem_cons.mpr ⟨tw_147, (List.forall_mem_cons.mpr ⟨tw_148, (List.forall_mem_cons.mpr ⟨tw_149, (List.forall_mem_cons.mpr ⟨tw_142, (fun _ h => absurd h List.not_mem_nil)⟩)⟩)⟩)⟩), tk_c_X11_noPiece⟩)⟩)⟩
theorem tk_own_c_X6_kindOf : ∀ w ∈ wo_c_X6_kindOf, w ∈ lw_tbl := (fun _ h => absurd h List.not_mem_nil)
theorem tk_c_X6_kindOf : ∀ w ∈ wk_c_X6_kindOf, w ∈ lw_tbl := List.forall_mem_cons.mpr ⟨tw_38, (List.forall_mem_append.mpr ⟨(tk_own_c_X6_kindOf), (List.forall_mem_append.mpr ⟨(List.forall_mem_cons.mpr ⟨tw_29, (List.forall_mem_cons.mpr ⟨tw_30, (List.forall_mem_cons.mpr ⟨tw_31, (List.forall_mem_cons.mpr ⟨tw_24, (fun _ h => absurd h List.not_mem_nil)⟩)⟩)⟩)⟩), tk_c_X6_knownPiece⟩)⟩)⟩
theorem tk_own_c_L_kindOf : ∀ w ∈ wo_c_L_kindOf, w ∈ lw_tbl := (List.forall_mem_cons.mpr ⟨tw_421, (fun _ h => absurd h List.not_mem_nil)⟩)
theorem tk_c_L_kindOf : ∀ w ∈ wk_c_L_kindOf, w ∈ lw_tbl := List.forall_mem_cons.mpr ⟨tw_462, (List.forall_mem_append.mpr ⟨(tk_own_c_L_kindOf), (List.forall_mem_append.mpr ⟨(List.forall_mem_cons.mpr ⟨tw_459, (List.forall_mem_cons.mpr ⟨tw_460, (List.forall_mem_cons.mpr ⟨tw_461, (List.forall_mem_cons.mpr ⟨tw_24, (fun _ h => absurd h List.not_mem_nil)⟩)⟩)⟩)⟩), tk_c_X6_kindOf⟩)⟩)⟩
theorem tk_own_c_X11_kindOf : ∀ w ∈ wo_c_X11_kindOf, w ∈ lw_tbl := (fun _ h => absurd h List.not_mem_nil)
theorem tk_c_X11_kindOf : ∀ w ∈ wk_c_X11_kindOf, w ∈ lw_tbl := List.forall_mem_cons.mpr ⟨tw_155, (List.forall_mem_append.mpr ⟨(tk_own_c_X11_kindOf), (List.forall_mem_append.mpr ⟨(List.forall_mem_cons.mpr ⟨tw_147, (List.forall_mem_cons.mpr ⟨tw_148, (List.forall_mem_cons.mpr ⟨tw_149, (List.forall_mem_cons.mpr ⟨tw_142, (fun _ h => absurd h List.not_mem_nil)⟩)⟩)⟩)⟩), tk_c_X11_noPiece⟩)⟩)⟩
theorem tk_own_c_X6_lengthOf : ∀ w ∈ wo_c_X6_lengthOf, w ∈ lw_tbl := (fun _ h => absurd h List.not_mem_nil)
theorem tk_c_X6_lengthOf : ∀ w ∈ wk_c_X6_lengthOf, w ∈ lw_tbl := List.forall_mem_cons.mpr ⟨tw_39, (List.forall_mem_append.mpr ⟨(tk_own_c_X6_lengthOf), (List.forall_mem_append.mpr ⟨(List.forall_mem_cons.mpr ⟨tw_29, (List.forall_mem_cons.mpr ⟨tw_30, (List.forall_mem_cons.mpr ⟨tw_31, (List.forall_mem_cons.mpr ⟨tw_24, (fun _ h => absurd h List.not_mem_nil)⟩)⟩)⟩)⟩), tk_c_X6_knownPiece⟩)⟩)⟩
theorem tk_own_c_L_lengthOf : ∀ w ∈ wo_c_L_lengthOf, w ∈ lw_tbl := (List.forall_mem_cons.mpr ⟨tw_421, (fun _ h => absurd h List.not_mem_nil)⟩)
theorem tk_c_L_lengthOf : ∀ w ∈ wk_c_L_lengthOf, w ∈ lw_tbl := List.forall_mem_cons.mpr ⟨tw_466, (List.forall_mem_append.mpr ⟨(tk_own_c_L_lengthOf), (List.forall_mem_append.mpr ⟨(List.forall_mem_cons.mpr ⟨tw_463, (List.forall_mem_cons.mpr ⟨tw_464, (List.forall_mem_cons.mpr ⟨tw_465, (List.forall_mem_cons.mpr ⟨tw_24, (fun _ h => absurd h List.not_mem_nil)⟩)⟩)⟩)⟩), tk_c_X6_lengthOf⟩)⟩)⟩
theorem tk_own_c_X11_lengthOf : ∀ w ∈ wo_c_X11_lengthOf, w ∈ lw_tbl := (fun _ h => absurd h List.not_mem_nil)
theorem tk_c_X11_lengthOf : ∀ w ∈ wk_c_X11_lengthOf, w ∈ lw_tbl := List.forall_mem_cons.mpr ⟨tw_156, (List.forall_mem_append.mpr ⟨(tk_own_c_X11_lengthOf), (List.forall_mem_append.mpr ⟨(List.forall_mem_cons.mpr ⟨tw_147, (List.forall_mem_cons.mpr ⟨tw_148, (List.forall_mem_cons.mpr ⟨tw_149, (List.forall_mem_cons.mpr ⟨tw_142, (fun _ h => absurd h List.not_mem_nil)⟩)⟩)⟩)⟩), tk_c_X11_noPiece⟩)⟩)⟩
theorem tk_own_c_X6_sampleOf : ∀ w ∈ wo_c_X6_sampleOf, w ∈ lw_tbl := (fun _ h => absurd h List.not_mem_nil)
theorem tk_c_X6_sampleOf : ∀ w ∈ wk_c_X6_sampleOf, w ∈ lw_tbl := List.forall_mem_cons.mpr ⟨tw_40, (List.forall_mem_append.mpr ⟨(tk_own_c_X6_sampleOf), (List.forall_mem_append.mpr ⟨(List.forall_mem_cons.mpr ⟨tw_29, (List.forall_mem_cons.mpr ⟨tw_30, (List.forall_mem_cons.mpr ⟨tw_31, (List.forall_mem_cons.mpr ⟨tw_24, (fun _ h => absurd h List.not_mem_nil)⟩)⟩)⟩)⟩), tk_c_X6_knownPiece⟩)⟩)⟩
theorem tk_own_c_L_sampleOf : ∀ w ∈ wo_c_L_sampleOf, w ∈ lw_tbl := (List.forall_mem_cons.mpr ⟨tw_421, (fun _ h => absurd h List.not_mem_nil)⟩)
theorem tk_c_L_sampleOf : ∀ w ∈ wk_c_L_sampleOf, w ∈ lw_tbl := List.forall_mem_cons.mpr ⟨tw_470, (List.forall_mem_append.mpr ⟨(tk_own_c_L_sampleOf), (List.forall_mem_append.mpr ⟨(List.forall_mem_cons.mpr ⟨tw_467, (List.forall_mem_cons.mpr ⟨tw_468, (List.forall_mem_cons.mpr ⟨tw_469, (List.forall_mem_cons.mpr ⟨tw_24, (fun _ h => absurd h List.not_mem_nil)⟩)⟩)⟩)⟩), tk_c_X6_sampleOf⟩)⟩)⟩
theorem tk_own_c_X11_sampleOf : ∀ w ∈ wo_c_X11_sampleOf, w ∈ lw_tbl := (fun _ h => absurd h List.not_mem_nil)
theorem tk_c_X11_sampleOf : ∀ w ∈ wk_c_X11_sampleOf, w ∈ lw_tbl := List.forall_mem_cons.mpr ⟨tw_157, (List.forall_mem_append.mpr ⟨(tk_own_c_X11_sampleOf), (List.forall_mem_append.mpr ⟨(List.forall_mem_cons.mpr ⟨tw_147, (List.forall_mem_cons.mpr ⟨tw_148, (List.forall_mem_cons.mpr ⟨tw_149, (List.forall_mem_cons.mpr ⟨tw_142, (fun _ h => absurd h List.not_mem_nil)⟩)⟩)⟩)⟩), tk_c_X11_noPiece⟩)⟩)⟩
theorem tk_own_c_X6_loudness : ∀ w ∈ wo_c_X6_loudness, w ∈ lw_tbl := (fun _ h => absurd h List.not_mem_nil)
theorem tk_c_X6_loudness : ∀ w ∈ wk_c_X6_loudness, w ∈ lw_tbl := List.forall_mem_cons.mpr ⟨tw_41, (List.forall_mem_append.mpr ⟨(tk_own_c_X6_loudness), (List.forall_mem_append.mpr ⟨(List.forall_mem_cons.mpr ⟨tw_29, (List.forall_mem_cons.mpr ⟨tw_30, (List.forall_mem_cons.mpr ⟨tw_31, (List.forall_mem_cons.mpr ⟨tw_24, (fun _ h => absurd h List.not_mem_nil)⟩)⟩)⟩)⟩), tk_c_X6_knownPiece⟩)⟩)⟩
theorem tk_own_c_L_loudness : ∀ w ∈ wo_c_L_loudness, w ∈ lw_tbl := (List.forall_mem_cons.mpr ⟨tw_421, (fun _ h => absurd h List.not_mem_nil)⟩)
theorem tk_c_L_loudness : ∀ w ∈ wk_c_L_loudness, w ∈ lw_tbl := List.forall_mem_cons.mpr ⟨tw_474, (List.forall_mem_append.mpr ⟨(tk_own_c_L_loudness), (List.forall_mem_append.mpr ⟨(List.forall_mem_cons.mpr ⟨tw_471, (List.forall_mem_cons.mpr ⟨tw_472, (List.forall_mem_cons.mpr ⟨tw_473, (List.forall_mem_cons.mpr ⟨tw_24, (fun _ h => absurd h List.not_mem_nil)⟩)⟩)⟩)⟩), tk_c_X6_loudness⟩)⟩)⟩
theorem tk_own_c_X11_loudness : ∀ w ∈ wo_c_X11_loudness, w ∈ lw_tbl := (fun _ h => absurd h List.not_mem_nil)
theorem tk_c_X11_loudness : ∀ w ∈ wk_c_X11_loudness, w ∈ lw_tbl := List.forall_mem_cons.mpr ⟨tw_158, (List.forall_mem_append.mpr ⟨(tk_own_c_X11_loudness), (List.forall_mem_append.mpr ⟨(List.forall_mem_cons.mpr ⟨tw_147, (List.forall_mem_cons.mpr ⟨tw_148, (List.forall_mem_cons.mpr ⟨tw_149, (List.forall_mem_cons.mpr ⟨tw_142, (fun _ h => absurd h List.not_mem_nil)⟩)⟩)⟩)⟩), tk_c_X11_noPiece⟩)⟩)⟩
theorem tk_own_c_X6_peak : ∀ w ∈ wo_c_X6_peak, w ∈ lw_tbl := (fun _ h => absurd h List.not_mem_nil)
theorem tk_c_X6_peak : ∀ w ∈ wk_c_X6_peak, w ∈ lw_tbl := List.forall_mem_cons.mpr ⟨tw_42, (List.forall_mem_append.mpr ⟨(tk_own_c_X6_peak), (List.forall_mem_append.mpr ⟨(List.forall_mem_cons.mpr ⟨tw_29, (List.forall_mem_cons.mpr ⟨tw_30, (List.forall_mem_cons.mpr ⟨tw_31, (List.forall_mem_cons.mpr ⟨tw_24, (fun _ h => absurd h List.not_mem_nil)⟩)⟩)⟩)⟩), tk_c_X6_knownPiece⟩)⟩)⟩
theorem tk_own_c_L_peak : ∀ w ∈ wo_c_L_peak, w ∈ lw_tbl := (List.forall_mem_cons.mpr ⟨tw_421, (fun _ h => absurd h List.not_mem_nil)⟩)
theorem tk_c_L_peak : ∀ w ∈ wk_c_L_peak, w ∈ lw_tbl := List.forall_mem_cons.mpr ⟨tw_478, (List.forall_mem_append.mpr ⟨(tk_own_c_L_peak), (List.forall_mem_append.mpr ⟨(List.forall_mem_cons.mpr ⟨tw_475, (List.forall_mem_cons.mpr ⟨tw_476, (List.forall_mem_cons.mpr ⟨tw_477, (List.forall_mem_cons.mpr ⟨tw_24, (fun _ h => absurd h List.not_mem_nil)⟩)⟩)⟩)⟩), tk_c_X6_peak⟩)⟩)⟩
theorem tk_own_c_X11_peak : ∀ w ∈ wo_c_X11_peak, w ∈ lw_tbl := (fun _ h => absurd h List.not_mem_nil)
theorem tk_c_X11_peak : ∀ w ∈ wk_c_X11_peak, w ∈ lw_tbl := List.forall_mem_cons.mpr ⟨tw_159, (List.forall_mem_append.mpr ⟨(tk_own_c_X11_peak), (List.forall_mem_append.mpr ⟨(List.forall_mem_cons.mpr ⟨tw_147, (List.forall_mem_cons.mpr ⟨tw_148, (List.forall_mem_cons.mpr ⟨tw_149, (List.forall_mem_cons.mpr ⟨tw_142, (fun _ h => absurd h List.not_mem_nil)⟩)⟩)⟩)⟩), tk_c_X11_noPiece⟩)⟩)⟩
theorem tk_own_c_X6_add : ∀ w ∈ wo_c_X6_add, w ∈ lw_tbl := (fun _ h => absurd h List.not_mem_nil)
theorem tk_c_X6_add : ∀ w ∈ wk_c_X6_add, w ∈ lw_tbl := List.forall_mem_cons.mpr ⟨tw_43, (List.forall_mem_append.mpr ⟨(tk_own_c_X6_add), (List.forall_mem_append.mpr ⟨(List.forall_mem_cons.mpr ⟨tw_29, (List.forall_mem_cons.mpr ⟨tw_30, (List.forall_mem_cons.mpr ⟨tw_31, (List.forall_mem_cons.mpr ⟨tw_24, (fun _ h => absurd h List.not_mem_nil)⟩)⟩)⟩)⟩), tk_c_X6_knownPiece⟩)⟩)⟩
theorem tk_own_c_L_add : ∀ w ∈ wo_c_L_add, w ∈ lw_tbl := (List.forall_mem_cons.mpr ⟨tw_421, (fun _ h => absurd h List.not_mem_nil)⟩)
theorem tk_c_L_add : ∀ w ∈ wk_c_L_add, w ∈ lw_tbl := List.forall_mem_cons.mpr ⟨tw_482, (List.forall_mem_append.mpr ⟨(tk_own_c_L_add), (List.forall_mem_append.mpr ⟨(List.forall_mem_cons.mpr ⟨tw_479, (List.forall_mem_cons.mpr ⟨tw_480, (List.forall_mem_cons.mpr ⟨tw_481, (List.forall_mem_cons.mpr ⟨tw_24, (fun _ h => absurd h List.not_mem_nil)⟩)⟩)⟩)⟩), tk_c_X6_add⟩)⟩)⟩
theorem tk_own_c_X11_add : ∀ w ∈ wo_c_X11_add, w ∈ lw_tbl := (fun _ h => absurd h List.not_mem_nil)
theorem tk_c_X11_add : ∀ w ∈ wk_c_X11_add, w ∈ lw_tbl := List.forall_mem_cons.mpr ⟨tw_160, (List.forall_mem_append.mpr ⟨(tk_own_c_X11_add), (List.forall_mem_append.mpr ⟨(List.forall_mem_cons.mpr ⟨tw_147, (List.forall_mem_cons.mpr ⟨tw_148, (List.forall_mem_cons.mpr ⟨tw_149, (List.forall_mem_cons.mpr ⟨tw_142, (fun _ h => absurd h List.not_mem_nil)⟩)⟩)⟩)⟩), tk_c_X11_noPiece⟩)⟩)⟩
theorem tk_own_c_X6_knownItem : ∀ w ∈ wo_c_X6_knownItem, w ∈ lw_tbl := (List.forall_mem_cons.mpr ⟨tw_18, (List.forall_mem_cons.mpr ⟨tw_19, (fun _ h => absurd h List.not_mem_nil)⟩)⟩)
theorem tk_c_X6_knownItem : ∀ w ∈ wk_c_X6_knownItem, w ∈ lw_tbl := List.forall_mem_cons.mpr ⟨tw_20, (List.forall_mem_append.mpr ⟨(tk_own_c_X6_knownItem), (List.forall_mem_append.mpr ⟨tl_X6, (List.forall_mem_append.mpr ⟨tl_X4, (List.forall_mem_append.mpr ⟨(List.forall_mem_cons.mpr ⟨tw_9, (List.forall_mem_cons.mpr ⟨tw_10, (List.forall_mem_cons.mpr ⟨tw_11, (fun _ h => absurd h List.not_mem_nil)⟩)⟩)⟩), tk_c_X6_needIndex⟩)⟩)⟩)⟩)⟩
theorem tk_own_c_X6_replace : ∀ w ∈ wo_c_X6_replace, w ∈ lw_tbl := (fun _ h => absurd h List.not_mem_nil)
theorem tk_c_X6_replace : ∀ w ∈ wk_c_X6_replace, w ∈ lw_tbl := List.forall_mem_cons.mpr ⟨tw_61, (List.forall_mem_append.mpr ⟨(tk_own_c_X6_replace), (List.forall_mem_append.mpr ⟨(List.forall_mem_cons.mpr ⟨tw_57, (List.forall_mem_cons.mpr ⟨tw_58, (List.forall_mem_cons.mpr ⟨tw_59, (List.forall_mem_cons.mpr ⟨tw_24, (fun _ h => absurd h List.not_mem_nil)⟩)⟩)⟩)⟩), tk_c_X6_knownItem⟩)⟩)⟩
theorem tk_own_c_L_replace : ∀ w ∈ wo_c_L_replace, w ∈ lw_tbl := (List.forall_mem_cons.mpr ⟨tw_421, (fun _ h => absurd h List.not_mem_nil)⟩)
theorem tk_c_L_replace : ∀ w ∈ wk_c_L_replace, w ∈ lw_tbl := List.forall_mem_cons.mpr ⟨tw_540, (List.forall_mem_append.mpr ⟨(tk_own_c_L_replace), (List.forall_mem_append.mpr ⟨(List.forall_mem_cons.mpr ⟨tw_537, (List.forall_mem_cons.mpr ⟨tw_538, (List.forall_mem_cons.mpr ⟨tw_539, (List.forall_mem_cons.mpr ⟨tw_24, (fun _ h => absurd h List.not_mem_nil)⟩)⟩)⟩)⟩), tk_c_X6_replace⟩)⟩)⟩
theorem tk_own_c_X11_replace : ∀ w ∈ wo_c_X11_replace, w ∈ lw_tbl := (List.forall_mem_cons.mpr ⟨tw_133, (List.forall_mem_cons.mpr ⟨tw_129, (fun _ h => absurd h List.not_mem_nil)⟩)⟩)
theorem tk_c_X11_replace : ∀ w ∈ wk_c_X11_replace, w ∈ lw_tbl := List.forall_mem_cons.mpr ⟨tw_167, (List.forall_mem_append.mpr ⟨(tk_own_c_X11_replace), (List.forall_mem_append.mpr ⟨tl_X11, (List.forall_mem_append.mpr ⟨(List.forall_mem_append.mpr ⟨(List.forall_mem_cons.mpr ⟨tw_121, (List.forall_mem_cons.mpr ⟨tw_122, (List.forall_mem_cons.mpr ⟨tw_123, (List.forall_mem_cons.mpr ⟨tw_124, (fun _ h => absurd h List.not_mem_nil)⟩)⟩)⟩)⟩), tk_c_size⟩), (List.forall_mem_append.mpr ⟨(List.forall_mem_cons.mpr ⟨tw_125, (List.forall_mem_cons.mpr ⟨tw_126, (List.forall_mem_cons.mpr ⟨tw_127, (fun _ h => absurd h List.not_mem_nil)⟩)⟩)⟩), tk_c_X11_in_f⟩)⟩)⟩)⟩)⟩
theorem tk_own_c_X6_startOf : ∀ w ∈ wo_c_X6_startOf, w ∈ lw_tbl := (fun _ h => absurd h List.not_mem_nil)
theorem tk_c_X6_startOf : ∀ w ∈ wk_c_X6_startOf, w ∈ lw_tbl := List.forall_mem_cons.mpr ⟨tw_62, (List.forall_mem_append.mpr ⟨(tk_own_c_X6_startOf), (List.forall_mem_append.mpr ⟨(List.forall_mem_cons.mpr ⟨tw_57, (List.forall_mem_cons.mpr ⟨tw_58, (List.forall_mem_cons.mpr ⟨tw_59, (List.forall_mem_cons.mpr ⟨tw_24, (fun _ h => absurd h List.not_mem_nil)⟩)⟩)⟩)⟩), tk_c_X6_knownItem⟩)⟩)⟩
theorem tk_own_c_L_startOf : ∀ w ∈ wo_c_L_startOf, w ∈ lw_tbl := (List.forall_mem_cons.mpr ⟨tw_421, (fun _ h => absurd h List.not_mem_nil)⟩)
theorem tk_c_L_startOf : ∀ w ∈ wk_c_L_startOf, w ∈ lw_tbl := List.forall_mem_cons.mpr ⟨tw_544, (List.forall_mem_append.mpr ⟨(tk_own_c_L_startOf), (List.forall_mem_append.mpr ⟨(List.forall_mem_cons.mpr ⟨tw_541, (List.forall_mem_cons.mpr ⟨tw_542, (List.forall_mem_cons.mpr ⟨tw_543, (List.forall_mem_cons.mpr ⟨tw_24, (fun _ h => absurd h List.not_mem_nil)⟩)⟩)⟩)⟩), tk_c_X6_startOf⟩)⟩)⟩
theorem tk_own_c_X11_noItem : ∀ w ∈ wo_c_X11_noItem, w ∈ lw_tbl := (List.forall_mem_cons.mpr ⟨tw_133, (List.forall_mem_cons.mpr ⟨tw_129, (fun _ h => absurd h List.not_mem_nil)⟩)⟩)
theorem tk_c_X11_noItem : ∀ w ∈ wk_c_X11_noItem, w ∈ lw_tbl := List.forall_mem_cons.mpr ⟨tw_134, (List.forall_mem_append.mpr ⟨(tk_own_c_X11_noItem), (List.forall_mem_append.mpr ⟨tl_X11, (List.forall_mem_append.mpr ⟨(List.forall_mem_append.mpr ⟨(List.forall_mem_cons.mpr ⟨tw_121, (List.forall_mem_cons.mpr ⟨tw_122, (List.forall_mem_cons.mpr ⟨tw_123, (List.forall_mem_cons.mpr ⟨tw_124, (fun _ h => absurd h List.not_mem_nil)⟩)⟩)⟩)⟩), tk_c_size⟩), (List.forall_mem_append.mpr ⟨(List.forall_mem_cons.mpr ⟨tw_125, (List.forall_mem_cons.mpr ⟨tw_126, (List.forall_mem_cons.mpr ⟨tw_127, (fun _ h => absurd h List.not_mem_nil)⟩)⟩)⟩), tk_c_X11_in_f⟩)⟩)⟩)⟩)⟩
theorem tk_own_c_X11_startOf : ∀ w ∈ wo_c_X11_startOf, w ∈ lw_tbl := (fun _ h => absurd h List.not_mem_nil)
theorem tk_c_X11_startOf : ∀ w ∈ wk_c_X11_startOf, w ∈ lw_tbl := List.forall_mem_cons.mpr ⟨tw_168, (List.forall_mem_append.mpr ⟨(tk_own_c_X11_startOf), (List.forall_mem_append.mpr ⟨(List.forall_mem_cons.mpr ⟨tw_163, (List.forall_mem_cons.mpr ⟨tw_164, (List.forall_mem_cons.mpr ⟨tw_165, (List.forall_mem_cons.mpr ⟨tw_142, (fun _ h => absurd h List.not_mem_nil)⟩)⟩)⟩)⟩), tk_c_X11_noItem⟩)⟩)⟩
theorem tk_own_c_X6_needElement : ∀ w ∈ wo_c_X6_needElement, w ∈ lw_tbl := (List.forall_mem_cons.mpr ⟨tw_3, (List.forall_mem_cons.mpr ⟨tw_4, (fun _ h => absurd h List.not_mem_nil)⟩)⟩)
theorem tk_c_X6_needElement : ∀ w ∈ wk_c_X6_needElement, w ∈ lw_tbl := List.forall_mem_cons.mpr ⟨tw_5, (List.forall_mem_append.mpr ⟨(tk_own_c_X6_needElement), tt_277⟩)⟩
theorem tk_own_c_X6_heard : ∀ w ∈ wo_c_X6_heard, w ∈ lw_tbl := (List.forall_mem_cons.mpr ⟨tw_18, (List.forall_mem_cons.mpr ⟨tw_79, (fun _ h => absurd h List.not_mem_nil)⟩)⟩)
theorem tk_c_X6_heard : ∀ w ∈ wk_c_X6_heard, w ∈ lw_tbl := List.forall_mem_cons.mpr ⟨tw_80, (List.forall_mem_append.mpr ⟨(tk_own_c_X6_heard), (List.forall_mem_append.mpr ⟨tl_X6, (List.forall_mem_append.mpr ⟨tl_X4, (List.forall_mem_append.mpr ⟨(List.forall_mem_cons.mpr ⟨tw_76, (List.forall_mem_cons.mpr ⟨tw_77, (List.forall_mem_cons.mpr ⟨tw_78, (fun _ h => absurd h List.not_mem_nil)⟩)⟩)⟩), tk_c_X6_needElement⟩)⟩)⟩)⟩)⟩
theorem tk_own_c_L_heard : ∀ w ∈ wo_c_L_heard, w ∈ lw_tbl := (List.forall_mem_cons.mpr ⟨tw_522, (fun _ h => absurd h List.not_mem_nil)⟩)
theorem tk_c_L_heard : ∀ w ∈ wk_c_L_heard, w ∈ lw_tbl := List.forall_mem_cons.mpr ⟨tw_560, (List.forall_mem_append.mpr ⟨(tk_own_c_L_heard), (List.forall_mem_append.mpr ⟨(List.forall_mem_cons.mpr ⟨tw_557, (List.forall_mem_cons.mpr ⟨tw_558, (List.forall_mem_cons.mpr ⟨tw_559, (List.forall_mem_cons.mpr ⟨tw_24, (fun _ h => absurd h List.not_mem_nil)⟩)⟩)⟩)⟩), tk_c_X6_heard⟩)⟩)⟩
theorem tk_own_c_X11_together : ∀ w ∈ wo_c_X11_together, w ∈ lw_tbl := (List.forall_mem_cons.mpr ⟨tw_203, (fun _ h => absurd h List.not_mem_nil)⟩)
theorem tk_c_X11_together : ∀ w ∈ wk_c_X11_together, w ∈ lw_tbl := List.forall_mem_cons.mpr ⟨tw_204, (tk_own_c_X11_together)⟩
theorem tk_own_c_X11_program : ∀ w ∈ wo_c_X11_program, w ∈ lw_tbl := (List.forall_mem_cons.mpr ⟨tw_133, (fun _ h => absurd h List.not_mem_nil)⟩)
theorem tk_c_X11_program : ∀ w ∈ wk_c_X11_program, w ∈ lw_tbl := List.forall_mem_cons.mpr ⟨tw_208, (List.forall_mem_append.mpr ⟨(tk_own_c_X11_program), (List.forall_mem_append.mpr ⟨tl_X11, (List.forall_mem_append.mpr ⟨(List.forall_mem_append.mpr ⟨(List.forall_mem_cons.mpr ⟨tw_121, (List.forall_mem_cons.mpr ⟨tw_122, (List.forall_mem_cons.mpr ⟨tw_123, (List.forall_mem_cons.mpr ⟨tw_124, (fun _ h => absurd h List.not_mem_nil)⟩)⟩)⟩)⟩), tk_c_size⟩), (List.forall_mem_append.mpr ⟨(List.forall_mem_cons.mpr ⟨tw_205, (List.forall_mem_cons.mpr ⟨tw_206, (List.forall_mem_cons.mpr ⟨tw_207, (List.forall_mem_cons.mpr ⟨tw_142, (fun _ h => absurd h List.not_mem_nil)⟩)⟩)⟩)⟩), tk_c_X11_together⟩)⟩)⟩)⟩)⟩
theorem tk_own_c_X11_heard : ∀ w ∈ wo_c_X11_heard, w ∈ lw_tbl := (List.forall_mem_cons.mpr ⟨tw_129, (fun _ h => absurd h List.not_mem_nil)⟩)
theorem tk_c_X11_heard : ∀ w ∈ wk_c_X11_heard, w ∈ lw_tbl := List.forall_mem_cons.mpr ⟨tw_213, (List.forall_mem_append.mpr ⟨(tk_own_c_X11_heard), (List.forall_mem_append.mpr ⟨(List.forall_mem_append.mpr ⟨(List.forall_mem_cons.mpr ⟨tw_209, (List.forall_mem_cons.mpr ⟨tw_210, (List.forall_mem_cons.mpr ⟨tw_211, (List.forall_mem_cons.mpr ⟨tw_142, (fun _ h => absurd h List.not_mem_nil)⟩)⟩)⟩)⟩), tk_c_X11_program⟩), (List.forall_mem_append.mpr ⟨(List.forall_mem_append.mpr ⟨(List.forall_mem_cons.mpr ⟨tw_125, (List.forall_mem_cons.mpr ⟨tw_126, (List.forall_mem_cons.mpr ⟨tw_127, (fun _ h => absurd h List.not_mem_nil)⟩)⟩)⟩), tk_c_X11_in_f⟩), tl_X11⟩)⟩)⟩)⟩
theorem tk_own_c_X6_sideOf : ∀ w ∈ wo_c_X6_sideOf, w ∈ lw_tbl := (fun _ h => absurd h List.not_mem_nil)
theorem tk_c_X6_sideOf : ∀ w ∈ wk_c_X6_sideOf, w ∈ lw_tbl := List.forall_mem_cons.mpr ⟨tw_63, (List.forall_mem_append.mpr ⟨(tk_own_c_X6_sideOf), (List.forall_mem_append.mpr ⟨(List.forall_mem_cons.mpr ⟨tw_57, (List.forall_mem_cons.mpr ⟨tw_58, (List.forall_mem_cons.mpr ⟨tw_59, (List.forall_mem_cons.mpr ⟨tw_24, (fun _ h => absurd h List.not_mem_nil)⟩)⟩)⟩)⟩), tk_c_X6_knownItem⟩)⟩)⟩
theorem tk_own_c_L_sideOf : ∀ w ∈ wo_c_L_sideOf, w ∈ lw_tbl := (List.forall_mem_cons.mpr ⟨tw_421, (fun _ h => absurd h List.not_mem_nil)⟩)
theorem tk_c_L_sideOf : ∀ w ∈ wk_c_L_sideOf, w ∈ lw_tbl := List.forall_mem_cons.mpr ⟨tw_548, (List.forall_mem_append.mpr ⟨(tk_own_c_L_sideOf), (List.forall_mem_append.mpr ⟨(List.forall_mem_cons.mpr ⟨tw_545, (List.forall_mem_cons.mpr ⟨tw_546, (List.forall_mem_cons.mpr ⟨tw_547, (List.forall_mem_cons.mpr ⟨tw_24, (fun _ h => absurd h List.not_mem_nil)⟩)⟩)⟩)⟩), tk_c_X6_sideOf⟩)⟩)⟩
theorem tk_own_c_X11_sideOf : ∀ w ∈ wo_c_X11_sideOf, w ∈ lw_tbl := (fun _ h => absurd h List.not_mem_nil)
theorem tk_c_X11_sideOf : ∀ w ∈ wk_c_X11_sideOf, w ∈ lw_tbl := List.forall_mem_cons.mpr ⟨tw_169, (List.forall_mem_append.mpr ⟨(tk_own_c_X11_sideOf), (List.forall_mem_append.mpr ⟨(List.forall_mem_cons.mpr ⟨tw_163, (List.forall_mem_cons.mpr ⟨tw_164, (List.forall_mem_cons.mpr ⟨tw_165, (List.forall_mem_cons.mpr ⟨tw_142, (fun _ h => absurd h List.not_mem_nil)⟩)⟩)⟩)⟩), tk_c_X11_noItem⟩)⟩)⟩
theorem tk_own_c_X6_failedAt : ∀ w ∈ wo_c_X6_failedAt, w ∈ lw_tbl := (List.forall_mem_cons.mpr ⟨tw_66, (List.forall_mem_cons.mpr ⟨tw_67, (fun _ h => absurd h List.not_mem_nil)⟩)⟩)
theorem tk_c_X6_failedAt : ∀ w ∈ wk_c_X6_failedAt, w ∈ lw_tbl := List.forall_mem_cons.mpr ⟨tw_68, (List.forall_mem_append.mpr ⟨(tk_own_c_X6_failedAt), (List.forall_mem_append.mpr ⟨tl_X6, (List.forall_mem_append.mpr ⟨tl_X3, (List.forall_mem_append.mpr ⟨(List.forall_mem_cons.mpr ⟨tw_9, (List.forall_mem_cons.mpr ⟨tw_10, (List.forall_mem_cons.mpr ⟨tw_11, (fun _ h => absurd h List.not_mem_nil)⟩)⟩)⟩), tk_c_X6_needIndex⟩)⟩)⟩)⟩)⟩
theorem tk_own_c_L_failedAt : ∀ w ∈ wo_c_L_failedAt, w ∈ lw_tbl := (List.forall_mem_cons.mpr ⟨tw_421, (fun _ h => absurd h List.not_mem_nil)⟩)
theorem tk_c_L_failedAt : ∀ w ∈ wk_c_L_failedAt, w ∈ lw_tbl := List.forall_mem_cons.mpr ⟨tw_564, (List.forall_mem_append.mpr ⟨(tk_own_c_L_failedAt), (List.forall_mem_append.mpr ⟨(List.forall_mem_cons.mpr ⟨tw_561, (List.forall_mem_cons.mpr ⟨tw_562, (List.forall_mem_cons.mpr ⟨tw_563, (List.forall_mem_cons.mpr ⟨tw_24, (fun _ h => absurd h List.not_mem_nil)⟩)⟩)⟩)⟩), tk_c_X6_failedAt⟩)⟩)⟩
theorem tk_own_c_X11_noPlate : ∀ w ∈ wo_c_X11_noPlate, w ∈ lw_tbl := (List.forall_mem_cons.mpr ⟨tw_129, (fun _ h => absurd h List.not_mem_nil)⟩)
theorem tk_c_X11_noPlate : ∀ w ∈ wk_c_X11_noPlate, w ∈ lw_tbl := List.forall_mem_cons.mpr ⟨tw_138, (List.forall_mem_append.mpr ⟨(tk_own_c_X11_noPlate), (List.forall_mem_append.mpr ⟨(List.forall_mem_append.mpr ⟨(List.forall_mem_cons.mpr ⟨tw_121, (List.forall_mem_cons.mpr ⟨tw_122, (List.forall_mem_cons.mpr ⟨tw_123, (List.forall_mem_cons.mpr ⟨tw_124, (fun _ h => absurd h List.not_mem_nil)⟩)⟩)⟩)⟩), tk_c_size⟩), (List.forall_mem_append.mpr ⟨(List.forall_mem_append.mpr ⟨(List.forall_mem_cons.mpr ⟨tw_125, (List.forall_mem_cons.mpr ⟨tw_126, (List.forall_mem_cons.mpr ⟨tw_127, (fun _ h => absurd h List.not_mem_nil)⟩)⟩)⟩), tk_c_X11_in_f⟩), tl_X11⟩)⟩)⟩)⟩
theorem tk_own_c_X11_failedAt : ∀ w ∈ wo_c_X11_failedAt, w ∈ lw_tbl := (List.forall_mem_cons.mpr ⟨tw_190, (fun _ h => absurd h List.not_mem_nil)⟩)
theorem tk_c_X11_failedAt : ∀ w ∈ wk_c_X11_failedAt, w ∈ lw_tbl := List.forall_mem_cons.mpr ⟨tw_191, (List.forall_mem_append.mpr ⟨(tk_own_c_X11_failedAt), (List.forall_mem_append.mpr ⟨tl_X11, (List.forall_mem_append.mpr ⟨(List.forall_mem_cons.mpr ⟨tw_187, (List.forall_mem_cons.mpr ⟨tw_188, (List.forall_mem_cons.mpr ⟨tw_189, (List.forall_mem_cons.mpr ⟨tw_142, (fun _ h => absurd h List.not_mem_nil)⟩)⟩)⟩)⟩), tk_c_X11_noPlate⟩)⟩)⟩)⟩
theorem tk_own_c_X6_father : ∀ w ∈ wo_c_X6_father, w ∈ lw_tbl := (List.forall_mem_cons.mpr ⟨tw_66, (List.forall_mem_cons.mpr ⟨tw_67, (fun _ h => absurd h List.not_mem_nil)⟩)⟩)
theorem tk_c_X6_father : ∀ w ∈ wk_c_X6_father, w ∈ lw_tbl := List.forall_mem_cons.mpr ⟨tw_69, (List.forall_mem_append.mpr ⟨(tk_own_c_X6_father), (List.forall_mem_append.mpr ⟨tl_X6, (List.forall_mem_append.mpr ⟨tl_X3, (List.forall_mem_append.mpr ⟨(List.forall_mem_cons.mpr ⟨tw_9, (List.forall_mem_cons.mpr ⟨tw_10, (List.forall_mem_cons.mpr ⟨tw_11, (fun _ h => absurd h List.not_mem_nil)⟩)⟩)⟩), tk_c_X6_needIndex⟩)⟩)⟩)⟩)⟩
theorem tk_own_c_L_father : ∀ w ∈ wo_c_L_father, w ∈ lw_tbl := (List.forall_mem_cons.mpr ⟨tw_421, (fun _ h => absurd h List.not_mem_nil)⟩)
theorem tk_c_L_father : ∀ w ∈ wk_c_L_father, w ∈ lw_tbl := List.forall_mem_cons.mpr ⟨tw_568, (List.forall_mem_append.mpr ⟨(tk_own_c_L_father), (List.forall_mem_append.mpr ⟨(List.forall_mem_cons.mpr ⟨tw_565, (List.forall_mem_cons.mpr ⟨tw_566, (List.forall_mem_cons.mpr ⟨tw_567, (List.forall_mem_cons.mpr ⟨tw_24, (fun _ h => absurd h List.not_mem_nil)⟩)⟩)⟩)⟩), tk_c_X6_father⟩)⟩)⟩
theorem tk_own_c_X11_gives : ∀ w ∈ wo_c_X11_gives, w ∈ lw_tbl := (fun _ h => absurd h List.not_mem_nil)
theorem tk_c_X11_gives : ∀ w ∈ wk_c_X11_gives, w ∈ lw_tbl := List.forall_mem_cons.mpr ⟨tw_194, (List.forall_mem_append.mpr ⟨(tk_own_c_X11_gives), (List.forall_mem_append.mpr ⟨(List.forall_mem_cons.mpr ⟨tw_187, (List.forall_mem_cons.mpr ⟨tw_188, (List.forall_mem_cons.mpr ⟨tw_189, (List.forall_mem_cons.mpr ⟨tw_142, (fun _ h => absurd h List.not_mem_nil)⟩)⟩)⟩)⟩), tk_c_X11_noPlate⟩)⟩)⟩
theorem tk_own_c_X11_father : ∀ w ∈ wo_c_X11_father, w ∈ lw_tbl := (List.forall_mem_cons.mpr ⟨tw_190, (List.forall_mem_cons.mpr ⟨tw_198, (fun _ h => absurd h List.not_mem_nil)⟩)⟩)
theorem tk_c_X11_father : ∀ w ∈ wk_c_X11_father, w ∈ lw_tbl := List.forall_mem_cons.mpr ⟨tw_199, (List.forall_mem_append.mpr ⟨(tk_own_c_X11_father), (List.forall_mem_append.mpr ⟨tl_X11, (List.forall_mem_append.mpr ⟨(List.forall_mem_cons.mpr ⟨tw_195, (List.forall_mem_cons.mpr ⟨tw_196, (List.forall_mem_cons.mpr ⟨tw_197, (List.forall_mem_cons.mpr ⟨tw_142, (fun _ h => absurd h List.not_mem_nil)⟩)⟩)⟩)⟩), tk_c_X11_gives⟩)⟩)⟩)⟩
theorem tk_own_c_X6_mother : ∀ w ∈ wo_c_X6_mother, w ∈ lw_tbl := (List.forall_mem_cons.mpr ⟨tw_66, (List.forall_mem_cons.mpr ⟨tw_70, (fun _ h => absurd h List.not_mem_nil)⟩)⟩)
theorem tk_c_X6_mother : ∀ w ∈ wk_c_X6_mother, w ∈ lw_tbl := List.forall_mem_cons.mpr ⟨tw_71, (List.forall_mem_append.mpr ⟨(tk_own_c_X6_mother), (List.forall_mem_append.mpr ⟨tl_X6, (List.forall_mem_append.mpr ⟨tl_X3, (List.forall_mem_append.mpr ⟨(List.forall_mem_cons.mpr ⟨tw_9, (List.forall_mem_cons.mpr ⟨tw_10, (List.forall_mem_cons.mpr ⟨tw_11, (fun _ h => absurd h List.not_mem_nil)⟩)⟩)⟩), tk_c_X6_needIndex⟩)⟩)⟩)⟩)⟩
theorem tk_own_c_L_mother : ∀ w ∈ wo_c_L_mother, w ∈ lw_tbl := (List.forall_mem_cons.mpr ⟨tw_421, (fun _ h => absurd h List.not_mem_nil)⟩)
theorem tk_c_L_mother : ∀ w ∈ wk_c_L_mother, w ∈ lw_tbl := List.forall_mem_cons.mpr ⟨tw_572, (List.forall_mem_append.mpr ⟨(tk_own_c_L_mother), (List.forall_mem_append.mpr ⟨(List.forall_mem_cons.mpr ⟨tw_569, (List.forall_mem_cons.mpr ⟨tw_570, (List.forall_mem_cons.mpr ⟨tw_571, (List.forall_mem_cons.mpr ⟨tw_24, (fun _ h => absurd h List.not_mem_nil)⟩)⟩)⟩)⟩), tk_c_X6_mother⟩)⟩)⟩
theorem tk_own_c_X11_mother : ∀ w ∈ wo_c_X11_mother, w ∈ lw_tbl := (List.forall_mem_cons.mpr ⟨tw_198, (List.forall_mem_cons.mpr ⟨tw_200, (fun _ h => absurd h List.not_mem_nil)⟩)⟩)
theorem tk_c_X11_mother : ∀ w ∈ wk_c_X11_mother, w ∈ lw_tbl := List.forall_mem_cons.mpr ⟨tw_201, (List.forall_mem_append.mpr ⟨(tk_own_c_X11_mother), (List.forall_mem_append.mpr ⟨tl_X11, (List.forall_mem_append.mpr ⟨(List.forall_mem_cons.mpr ⟨tw_195, (List.forall_mem_cons.mpr ⟨tw_196, (List.forall_mem_cons.mpr ⟨tw_197, (List.forall_mem_cons.mpr ⟨tw_142, (fun _ h => absurd h List.not_mem_nil)⟩)⟩)⟩)⟩), tk_c_X11_gives⟩)⟩)⟩)⟩
theorem tk_own_c_X6_stamper : ∀ w ∈ wo_c_X6_stamper, w ∈ lw_tbl := (List.forall_mem_cons.mpr ⟨tw_66, (List.forall_mem_cons.mpr ⟨tw_72, (fun _ h => absurd h List.not_mem_nil)⟩)⟩)
theorem tk_c_X6_stamper : ∀ w ∈ wk_c_X6_stamper, w ∈ lw_tbl := List.forall_mem_cons.mpr ⟨tw_73, (List.forall_mem_append.mpr ⟨(tk_own_c_X6_stamper), (List.forall_mem_append.mpr ⟨tl_X6, (List.forall_mem_append.mpr ⟨tl_X3, (List.forall_mem_append.mpr ⟨(List.forall_mem_cons.mpr ⟨tw_9, (List.forall_mem_cons.mpr ⟨tw_10, (List.forall_mem_cons.mpr ⟨tw_11, (fun _ h => absurd h List.not_mem_nil)⟩)⟩)⟩), tk_c_X6_needIndex⟩)⟩)⟩)⟩)⟩
theorem tk_own_c_L_stamper : ∀ w ∈ wo_c_L_stamper, w ∈ lw_tbl := (List.forall_mem_cons.mpr ⟨tw_421, (fun _ h => absurd h List.not_mem_nil)⟩)
theorem tk_c_L_stamper : ∀ w ∈ wk_c_L_stamper, w ∈ lw_tbl := List.forall_mem_cons.mpr ⟨tw_576, (List.forall_mem_append.mpr ⟨(tk_own_c_L_stamper), (List.forall_mem_append.mpr ⟨(List.forall_mem_cons.mpr ⟨tw_573, (List.forall_mem_cons.mpr ⟨tw_574, (List.forall_mem_cons.mpr ⟨tw_575, (List.forall_mem_cons.mpr ⟨tw_24, (fun _ h => absurd h List.not_mem_nil)⟩)⟩)⟩)⟩), tk_c_X6_stamper⟩)⟩)⟩
theorem tk_own_c_X11_stamper : ∀ w ∈ wo_c_X11_stamper, w ∈ lw_tbl := (List.forall_mem_cons.mpr ⟨tw_200, (List.forall_mem_cons.mpr ⟨tw_192, (fun _ h => absurd h List.not_mem_nil)⟩)⟩)
theorem tk_c_X11_stamper : ∀ w ∈ wk_c_X11_stamper, w ∈ lw_tbl := List.forall_mem_cons.mpr ⟨tw_202, (List.forall_mem_append.mpr ⟨(tk_own_c_X11_stamper), (List.forall_mem_append.mpr ⟨tl_X11, (List.forall_mem_append.mpr ⟨(List.forall_mem_cons.mpr ⟨tw_195, (List.forall_mem_cons.mpr ⟨tw_196, (List.forall_mem_cons.mpr ⟨tw_197, (List.forall_mem_cons.mpr ⟨tw_142, (fun _ h => absurd h List.not_mem_nil)⟩)⟩)⟩)⟩), tk_c_X11_gives⟩)⟩)⟩)⟩
theorem tk_own_c_X6_press : ∀ w ∈ wo_c_X6_press, w ∈ lw_tbl := (List.forall_mem_cons.mpr ⟨tw_66, (List.forall_mem_cons.mpr ⟨tw_74, (fun _ h => absurd h List.not_mem_nil)⟩)⟩)
theorem tk_c_X6_press : ∀ w ∈ wk_c_X6_press, w ∈ lw_tbl := List.forall_mem_cons.mpr ⟨tw_75, (List.forall_mem_append.mpr ⟨(tk_own_c_X6_press), (List.forall_mem_append.mpr ⟨tl_X6, (List.forall_mem_append.mpr ⟨tl_X3, (List.forall_mem_append.mpr ⟨(List.forall_mem_cons.mpr ⟨tw_9, (List.forall_mem_cons.mpr ⟨tw_10, (List.forall_mem_cons.mpr ⟨tw_11, (fun _ h => absurd h List.not_mem_nil)⟩)⟩)⟩), tk_c_X6_needIndex⟩)⟩)⟩)⟩)⟩
theorem tk_own_c_L_press : ∀ w ∈ wo_c_L_press, w ∈ lw_tbl := (List.forall_mem_cons.mpr ⟨tw_421, (fun _ h => absurd h List.not_mem_nil)⟩)
theorem tk_c_L_press : ∀ w ∈ wk_c_L_press, w ∈ lw_tbl := List.forall_mem_cons.mpr ⟨tw_580, (List.forall_mem_append.mpr ⟨(tk_own_c_L_press), (List.forall_mem_append.mpr ⟨(List.forall_mem_cons.mpr ⟨tw_577, (List.forall_mem_cons.mpr ⟨tw_578, (List.forall_mem_cons.mpr ⟨tw_579, (List.forall_mem_cons.mpr ⟨tw_24, (fun _ h => absurd h List.not_mem_nil)⟩)⟩)⟩)⟩), tk_c_X6_press⟩)⟩)⟩
theorem tk_own_c_X11_press : ∀ w ∈ wo_c_X11_press, w ∈ lw_tbl := (List.forall_mem_cons.mpr ⟨tw_192, (fun _ h => absurd h List.not_mem_nil)⟩)
theorem tk_c_X11_press : ∀ w ∈ wk_c_X11_press, w ∈ lw_tbl := List.forall_mem_cons.mpr ⟨tw_193, (List.forall_mem_append.mpr ⟨(tk_own_c_X11_press), (List.forall_mem_append.mpr ⟨tl_X11, (List.forall_mem_append.mpr ⟨(List.forall_mem_cons.mpr ⟨tw_187, (List.forall_mem_cons.mpr ⟨tw_188, (List.forall_mem_cons.mpr ⟨tw_189, (List.forall_mem_cons.mpr ⟨tw_142, (fun _ h => absurd h List.not_mem_nil)⟩)⟩)⟩)⟩), tk_c_X11_noPlate⟩)⟩)⟩)⟩
theorem tk_own_c_X6_knownEdition : ∀ w ∈ wo_c_X6_knownEdition, w ∈ lw_tbl := (List.forall_mem_cons.mpr ⟨tw_16, (fun _ h => absurd h List.not_mem_nil)⟩)
theorem tk_c_X6_knownEdition : ∀ w ∈ wk_c_X6_knownEdition, w ∈ lw_tbl := List.forall_mem_cons.mpr ⟨tw_17, (List.forall_mem_append.mpr ⟨(tk_own_c_X6_knownEdition), (List.forall_mem_append.mpr ⟨tl_X6, (List.forall_mem_append.mpr ⟨(List.forall_mem_cons.mpr ⟨tw_9, (List.forall_mem_cons.mpr ⟨tw_10, (List.forall_mem_cons.mpr ⟨tw_11, (fun _ h => absurd h List.not_mem_nil)⟩)⟩)⟩), tk_c_X6_needIndex⟩)⟩)⟩)⟩
theorem tk_own_c_X6_editionAt : ∀ w ∈ wo_c_X6_editionAt, w ∈ lw_tbl := (fun _ h => absurd h List.not_mem_nil)
theorem tk_c_X6_editionAt : ∀ w ∈ wk_c_X6_editionAt, w ∈ lw_tbl := List.forall_mem_cons.mpr ⟨tw_48, (List.forall_mem_append.mpr ⟨(tk_own_c_X6_editionAt), (List.forall_mem_append.mpr ⟨(List.forall_mem_cons.mpr ⟨tw_45, (List.forall_mem_cons.mpr ⟨tw_46, (List.forall_mem_cons.mpr ⟨tw_47, (List.forall_mem_cons.mpr ⟨tw_24, (fun _ h => absurd h List.not_mem_nil)⟩)⟩)⟩)⟩), tk_c_X6_knownEdition⟩)⟩)⟩
theorem tk_own_c_L_editionAt : ∀ w ∈ wo_c_L_editionAt, w ∈ lw_tbl := (List.forall_mem_cons.mpr ⟨tw_421, (fun _ h => absurd h List.not_mem_nil)⟩)
theorem tk_c_L_editionAt : ∀ w ∈ wk_c_L_editionAt, w ∈ lw_tbl := List.forall_mem_cons.mpr ⟨tw_490, (List.forall_mem_append.mpr ⟨(tk_own_c_L_editionAt), (List.forall_mem_append.mpr ⟨(List.forall_mem_cons.mpr ⟨tw_487, (List.forall_mem_cons.mpr ⟨tw_488, (List.forall_mem_cons.mpr ⟨tw_489, (List.forall_mem_cons.mpr ⟨tw_24, (fun _ h => absurd h List.not_mem_nil)⟩)⟩)⟩)⟩), tk_c_X6_editionAt⟩)⟩)⟩
theorem tk_own_c_X11_noEdition : ∀ w ∈ wo_c_X11_noEdition, w ∈ lw_tbl := (List.forall_mem_cons.mpr ⟨tw_135, (List.forall_mem_cons.mpr ⟨tw_129, (fun _ h => absurd h List.not_mem_nil)⟩)⟩)
theorem tk_c_X11_noEdition : ∀ w ∈ wk_c_X11_noEdition, w ∈ lw_tbl := List.forall_mem_cons.mpr ⟨tw_136, (List.forall_mem_append.mpr ⟨(tk_own_c_X11_noEdition), (List.forall_mem_append.mpr ⟨tl_X11, (List.forall_mem_append.mpr ⟨(List.forall_mem_append.mpr ⟨(List.forall_mem_cons.mpr ⟨tw_121, (List.forall_mem_cons.mpr ⟨tw_122, (List.forall_mem_cons.mpr ⟨tw_123, (List.forall_mem_cons.mpr ⟨tw_124, (fun _ h => absurd h List.not_mem_nil)⟩)⟩)⟩)⟩), tk_c_size⟩), (List.forall_mem_append.mpr ⟨(List.forall_mem_cons.mpr ⟨tw_125, (List.forall_mem_cons.mpr ⟨tw_126, (List.forall_mem_cons.mpr ⟨tw_127, (fun _ h => absurd h List.not_mem_nil)⟩)⟩)⟩), tk_c_X11_in_f⟩)⟩)⟩)⟩)⟩
theorem tk_own_c_X11_editionAt : ∀ w ∈ wo_c_X11_editionAt, w ∈ lw_tbl := (fun _ h => absurd h List.not_mem_nil)
theorem tk_c_X11_editionAt : ∀ w ∈ wk_c_X11_editionAt, w ∈ lw_tbl := List.forall_mem_cons.mpr ⟨tw_175, (List.forall_mem_append.mpr ⟨(tk_own_c_X11_editionAt), (List.forall_mem_append.mpr ⟨(List.forall_mem_cons.mpr ⟨tw_172, (List.forall_mem_cons.mpr ⟨tw_173, (List.forall_mem_cons.mpr ⟨tw_174, (List.forall_mem_cons.mpr ⟨tw_142, (fun _ h => absurd h List.not_mem_nil)⟩)⟩)⟩)⟩), tk_c_X11_noEdition⟩)⟩)⟩
theorem tk_own_c_X6_sum : ∀ w ∈ wo_c_X6_sum, w ∈ lw_tbl := (fun _ h => absurd h List.not_mem_nil)
theorem tk_c_X6_sum : ∀ w ∈ wk_c_X6_sum, w ∈ lw_tbl := List.forall_mem_cons.mpr ⟨tw_49, (List.forall_mem_append.mpr ⟨(tk_own_c_X6_sum), (List.forall_mem_append.mpr ⟨(List.forall_mem_cons.mpr ⟨tw_45, (List.forall_mem_cons.mpr ⟨tw_46, (List.forall_mem_cons.mpr ⟨tw_47, (List.forall_mem_cons.mpr ⟨tw_24, (fun _ h => absurd h List.not_mem_nil)⟩)⟩)⟩)⟩), tk_c_X6_knownEdition⟩)⟩)⟩
theorem tk_own_c_L_sum : ∀ w ∈ wo_c_L_sum, w ∈ lw_tbl := (List.forall_mem_cons.mpr ⟨tw_421, (fun _ h => absurd h List.not_mem_nil)⟩)
theorem tk_c_L_sum : ∀ w ∈ wk_c_L_sum, w ∈ lw_tbl := List.forall_mem_cons.mpr ⟨tw_494, (List.forall_mem_append.mpr ⟨(tk_own_c_L_sum), (List.forall_mem_append.mpr ⟨(List.forall_mem_cons.mpr ⟨tw_491, (List.forall_mem_cons.mpr ⟨tw_492, (List.forall_mem_cons.mpr ⟨tw_493, (List.forall_mem_cons.mpr ⟨tw_24, (fun _ h => absurd h List.not_mem_nil)⟩)⟩)⟩)⟩), tk_c_X6_sum⟩)⟩)⟩
theorem tk_own_c_X11_sum : ∀ w ∈ wo_c_X11_sum, w ∈ lw_tbl := (fun _ h => absurd h List.not_mem_nil)
theorem tk_c_X11_sum : ∀ w ∈ wk_c_X11_sum, w ∈ lw_tbl := List.forall_mem_cons.mpr ⟨tw_176, (List.forall_mem_append.mpr ⟨(tk_own_c_X11_sum), (List.forall_mem_append.mpr ⟨(List.forall_mem_cons.mpr ⟨tw_172, (List.forall_mem_cons.mpr ⟨tw_173, (List.forall_mem_cons.mpr ⟨tw_174, (List.forall_mem_cons.mpr ⟨tw_142, (fun _ h => absurd h List.not_mem_nil)⟩)⟩)⟩)⟩), tk_c_X11_noEdition⟩)⟩)⟩
theorem tk_own_c_X6_match : ∀ w ∈ wo_c_X6_match, w ∈ lw_tbl := (fun _ h => absurd h List.not_mem_nil)
theorem tk_c_X6_match : ∀ w ∈ wk_c_X6_match, w ∈ lw_tbl := List.forall_mem_cons.mpr ⟨tw_50, (List.forall_mem_append.mpr ⟨(tk_own_c_X6_match), (List.forall_mem_append.mpr ⟨(List.forall_mem_cons.mpr ⟨tw_45, (List.forall_mem_cons.mpr ⟨tw_46, (List.forall_mem_cons.mpr ⟨tw_47, (List.forall_mem_cons.mpr ⟨tw_24, (fun _ h => absurd h List.not_mem_nil)⟩)⟩)⟩)⟩), tk_c_X6_knownEdition⟩)⟩)⟩
theorem tk_own_c_L_match : ∀ w ∈ wo_c_L_match, w ∈ lw_tbl := (List.forall_mem_cons.mpr ⟨tw_421, (fun _ h => absurd h List.not_mem_nil)⟩)
theorem tk_c_L_match : ∀ w ∈ wk_c_L_match, w ∈ lw_tbl := List.forall_mem_cons.mpr ⟨tw_498, (List.forall_mem_append.mpr ⟨(tk_own_c_L_match), (List.forall_mem_append.mpr ⟨(List.forall_mem_cons.mpr ⟨tw_495, (List.forall_mem_cons.mpr ⟨tw_496, (List.forall_mem_cons.mpr ⟨tw_497, (List.forall_mem_cons.mpr ⟨tw_24, (fun _ h => absurd h List.not_mem_nil)⟩)⟩)⟩)⟩), tk_c_X6_match⟩)⟩)⟩
theorem tk_own_c_X11_noEditions : ∀ w ∈ wo_c_X11_noEditions, w ∈ lw_tbl := (List.forall_mem_cons.mpr ⟨tw_135, (List.forall_mem_cons.mpr ⟨tw_129, (fun _ h => absurd h List.not_mem_nil)⟩)⟩)
theorem tk_c_X11_noEditions : ∀ w ∈ wk_c_X11_noEditions, w ∈ lw_tbl := List.forall_mem_cons.mpr ⟨tw_137, (List.forall_mem_append.mpr ⟨(tk_own_c_X11_noEditions), (List.forall_mem_append.mpr ⟨tl_X11, (List.forall_mem_append.mpr ⟨(List.forall_mem_append.mpr ⟨(List.forall_mem_cons.mpr ⟨tw_121, (List.forall_mem_cons.mpr ⟨tw_122, (List.forall_mem_cons.mpr ⟨tw_123, (List.forall_mem_cons.mpr ⟨tw_124, (fun _ h => absurd h List.not_mem_nil)⟩)⟩)⟩)⟩), tk_c_size⟩), (List.forall_mem_append.mpr ⟨(List.forall_mem_cons.mpr ⟨tw_125, (List.forall_mem_cons.mpr ⟨tw_126, (List.forall_mem_cons.mpr ⟨tw_127, (fun _ h => absurd h List.not_mem_nil)⟩)⟩)⟩), tk_c_X11_in_f⟩)⟩)⟩)⟩)⟩
theorem tk_own_c_X11_match : ∀ w ∈ wo_c_X11_match, w ∈ lw_tbl := (fun _ h => absurd h List.not_mem_nil)
theorem tk_c_X11_match : ∀ w ∈ wk_c_X11_match, w ∈ lw_tbl := List.forall_mem_cons.mpr ⟨tw_183, (List.forall_mem_append.mpr ⟨(tk_own_c_X11_match), (List.forall_mem_append.mpr ⟨(List.forall_mem_cons.mpr ⟨tw_180, (List.forall_mem_cons.mpr ⟨tw_181, (List.forall_mem_cons.mpr ⟨tw_182, (List.forall_mem_cons.mpr ⟨tw_142, (fun _ h => absurd h List.not_mem_nil)⟩)⟩)⟩)⟩), tk_c_X11_noEditions⟩)⟩)⟩
theorem tk_own_c_X6_difference : ∀ w ∈ wo_c_X6_difference, w ∈ lw_tbl := (fun _ h => absurd h List.not_mem_nil)
theorem tk_c_X6_difference : ∀ w ∈ wk_c_X6_difference, w ∈ lw_tbl := List.forall_mem_cons.mpr ⟨tw_51, (List.forall_mem_append.mpr ⟨(tk_own_c_X6_difference), (List.forall_mem_append.mpr ⟨(List.forall_mem_cons.mpr ⟨tw_45, (List.forall_mem_cons.mpr ⟨tw_46, (List.forall_mem_cons.mpr ⟨tw_47, (List.forall_mem_cons.mpr ⟨tw_24, (fun _ h => absurd h List.not_mem_nil)⟩)⟩)⟩)⟩), tk_c_X6_knownEdition⟩)⟩)⟩
theorem tk_own_c_L_difference : ∀ w ∈ wo_c_L_difference, w ∈ lw_tbl := (List.forall_mem_cons.mpr ⟨tw_421, (fun _ h => absurd h List.not_mem_nil)⟩)
theorem tk_c_L_difference : ∀ w ∈ wk_c_L_difference, w ∈ lw_tbl := List.forall_mem_cons.mpr ⟨tw_502, (List.forall_mem_append.mpr ⟨(tk_own_c_L_difference), (List.forall_mem_append.mpr ⟨(List.forall_mem_cons.mpr ⟨tw_499, (List.forall_mem_cons.mpr ⟨tw_500, (List.forall_mem_cons.mpr ⟨tw_501, (List.forall_mem_cons.mpr ⟨tw_24, (fun _ h => absurd h List.not_mem_nil)⟩)⟩)⟩)⟩), tk_c_X6_difference⟩)⟩)⟩
theorem tk_own_c_X11_difference : ∀ w ∈ wo_c_X11_difference, w ∈ lw_tbl := (fun _ h => absurd h List.not_mem_nil)
theorem tk_c_X11_difference : ∀ w ∈ wk_c_X11_difference, w ∈ lw_tbl := List.forall_mem_cons.mpr ⟨tw_184, (List.forall_mem_append.mpr ⟨(tk_own_c_X11_difference), (List.forall_mem_append.mpr ⟨(List.forall_mem_cons.mpr ⟨tw_180, (List.forall_mem_cons.mpr ⟨tw_181, (List.forall_mem_cons.mpr ⟨tw_182, (List.forall_mem_cons.mpr ⟨tw_142, (fun _ h => absurd h List.not_mem_nil)⟩)⟩)⟩)⟩), tk_c_X11_noEditions⟩)⟩)⟩
theorem tk_own_c_X6_differsAt : ∀ w ∈ wo_c_X6_differsAt, w ∈ lw_tbl := (fun _ h => absurd h List.not_mem_nil)
theorem tk_c_X6_differsAt : ∀ w ∈ wk_c_X6_differsAt, w ∈ lw_tbl := List.forall_mem_cons.mpr ⟨tw_52, (List.forall_mem_append.mpr ⟨(tk_own_c_X6_differsAt), (List.forall_mem_append.mpr ⟨(List.forall_mem_cons.mpr ⟨tw_45, (List.forall_mem_cons.mpr ⟨tw_46, (List.forall_mem_cons.mpr ⟨tw_47, (List.forall_mem_cons.mpr ⟨tw_24, (fun _ h => absurd h List.not_mem_nil)⟩)⟩)⟩)⟩), tk_c_X6_knownEdition⟩)⟩)⟩
theorem tk_own_c_L_differsAt : ∀ w ∈ wo_c_L_differsAt, w ∈ lw_tbl := (List.forall_mem_cons.mpr ⟨tw_421, (fun _ h => absurd h List.not_mem_nil)⟩)
theorem tk_c_L_differsAt : ∀ w ∈ wk_c_L_differsAt, w ∈ lw_tbl := List.forall_mem_cons.mpr ⟨tw_506, (List.forall_mem_append.mpr ⟨(tk_own_c_L_differsAt), (List.forall_mem_append.mpr ⟨(List.forall_mem_cons.mpr ⟨tw_503, (List.forall_mem_cons.mpr ⟨tw_504, (List.forall_mem_cons.mpr ⟨tw_505, (List.forall_mem_cons.mpr ⟨tw_24, (fun _ h => absurd h List.not_mem_nil)⟩)⟩)⟩)⟩), tk_c_X6_differsAt⟩)⟩)⟩
theorem tk_own_c_X11_differsAt : ∀ w ∈ wo_c_X11_differsAt, w ∈ lw_tbl := (fun _ h => absurd h List.not_mem_nil)
theorem tk_c_X11_differsAt : ∀ w ∈ wk_c_X11_differsAt, w ∈ lw_tbl := List.forall_mem_cons.mpr ⟨tw_185, (List.forall_mem_append.mpr ⟨(tk_own_c_X11_differsAt), (List.forall_mem_append.mpr ⟨(List.forall_mem_cons.mpr ⟨tw_180, (List.forall_mem_cons.mpr ⟨tw_181, (List.forall_mem_cons.mpr ⟨tw_182, (List.forall_mem_cons.mpr ⟨tw_142, (fun _ h => absurd h List.not_mem_nil)⟩)⟩)⟩)⟩), tk_c_X11_noEditions⟩)⟩)⟩
theorem tk_own_c_X6_damage : ∀ w ∈ wo_c_X6_damage, w ∈ lw_tbl := (fun _ h => absurd h List.not_mem_nil)
theorem tk_c_X6_damage : ∀ w ∈ wk_c_X6_damage, w ∈ lw_tbl := List.forall_mem_cons.mpr ⟨tw_53, (List.forall_mem_append.mpr ⟨(tk_own_c_X6_damage), (List.forall_mem_append.mpr ⟨(List.forall_mem_cons.mpr ⟨tw_45, (List.forall_mem_cons.mpr ⟨tw_46, (List.forall_mem_cons.mpr ⟨tw_47, (List.forall_mem_cons.mpr ⟨tw_24, (fun _ h => absurd h List.not_mem_nil)⟩)⟩)⟩)⟩), tk_c_X6_knownEdition⟩)⟩)⟩
theorem tk_own_c_L_damage : ∀ w ∈ wo_c_L_damage, w ∈ lw_tbl := (List.forall_mem_cons.mpr ⟨tw_421, (fun _ h => absurd h List.not_mem_nil)⟩)
theorem tk_c_L_damage : ∀ w ∈ wk_c_L_damage, w ∈ lw_tbl := List.forall_mem_cons.mpr ⟨tw_510, (List.forall_mem_append.mpr ⟨(tk_own_c_L_damage), (List.forall_mem_append.mpr ⟨(List.forall_mem_cons.mpr ⟨tw_507, (List.forall_mem_cons.mpr ⟨tw_508, (List.forall_mem_cons.mpr ⟨tw_509, (List.forall_mem_cons.mpr ⟨tw_24, (fun _ h => absurd h List.not_mem_nil)⟩)⟩)⟩)⟩), tk_c_X6_damage⟩)⟩)⟩
theorem tk_own_c_X11_damage : ∀ w ∈ wo_c_X11_damage, w ∈ lw_tbl := (fun _ h => absurd h List.not_mem_nil)
theorem tk_c_X11_damage : ∀ w ∈ wk_c_X11_damage, w ∈ lw_tbl := List.forall_mem_cons.mpr ⟨tw_177, (List.forall_mem_append.mpr ⟨(tk_own_c_X11_damage), (List.forall_mem_append.mpr ⟨(List.forall_mem_cons.mpr ⟨tw_172, (List.forall_mem_cons.mpr ⟨tw_173, (List.forall_mem_cons.mpr ⟨tw_174, (List.forall_mem_cons.mpr ⟨tw_142, (fun _ h => absurd h List.not_mem_nil)⟩)⟩)⟩)⟩), tk_c_X11_noEdition⟩)⟩)⟩
theorem tk_own_c_X6_repair : ∀ w ∈ wo_c_X6_repair, w ∈ lw_tbl := (fun _ h => absurd h List.not_mem_nil)
theorem tk_c_X6_repair : ∀ w ∈ wk_c_X6_repair, w ∈ lw_tbl := List.forall_mem_cons.mpr ⟨tw_54, (List.forall_mem_append.mpr ⟨(tk_own_c_X6_repair), (List.forall_mem_append.mpr ⟨(List.forall_mem_cons.mpr ⟨tw_45, (List.forall_mem_cons.mpr ⟨tw_46, (List.forall_mem_cons.mpr ⟨tw_47, (List.forall_mem_cons.mpr ⟨tw_24, (fun _ h => absurd h List.not_mem_nil)⟩)⟩)⟩)⟩), tk_c_X6_knownEdition⟩)⟩)⟩
theorem tk_own_c_L_repair : ∀ w ∈ wo_c_L_repair, w ∈ lw_tbl := (List.forall_mem_cons.mpr ⟨tw_421, (fun _ h => absurd h List.not_mem_nil)⟩)
theorem tk_c_L_repair : ∀ w ∈ wk_c_L_repair, w ∈ lw_tbl := List.forall_mem_cons.mpr ⟨tw_514, (List.forall_mem_append.mpr ⟨(tk_own_c_L_repair), (List.forall_mem_append.mpr ⟨(List.forall_mem_cons.mpr ⟨tw_511, (List.forall_mem_cons.mpr ⟨tw_512, (List.forall_mem_cons.mpr ⟨tw_513, (List.forall_mem_cons.mpr ⟨tw_24, (fun _ h => absurd h List.not_mem_nil)⟩)⟩)⟩)⟩), tk_c_X6_repair⟩)⟩)⟩
theorem tk_own_c_X11_repair : ∀ w ∈ wo_c_X11_repair, w ∈ lw_tbl := (fun _ h => absurd h List.not_mem_nil)
theorem tk_c_X11_repair : ∀ w ∈ wk_c_X11_repair, w ∈ lw_tbl := List.forall_mem_cons.mpr ⟨tw_186, (List.forall_mem_append.mpr ⟨(tk_own_c_X11_repair), (List.forall_mem_append.mpr ⟨(List.forall_mem_cons.mpr ⟨tw_180, (List.forall_mem_cons.mpr ⟨tw_181, (List.forall_mem_cons.mpr ⟨tw_182, (List.forall_mem_cons.mpr ⟨tw_142, (fun _ h => absurd h List.not_mem_nil)⟩)⟩)⟩)⟩), tk_c_X11_noEditions⟩)⟩)⟩
theorem tk_own_c_X6_padding : ∀ w ∈ wo_c_X6_padding, w ∈ lw_tbl := (fun _ h => absurd h List.not_mem_nil)
theorem tk_c_X6_padding : ∀ w ∈ wk_c_X6_padding, w ∈ lw_tbl := List.forall_mem_cons.mpr ⟨tw_44, (List.forall_mem_append.mpr ⟨(tk_own_c_X6_padding), (List.forall_mem_append.mpr ⟨(List.forall_mem_cons.mpr ⟨tw_29, (List.forall_mem_cons.mpr ⟨tw_30, (List.forall_mem_cons.mpr ⟨tw_31, (List.forall_mem_cons.mpr ⟨tw_24, (fun _ h => absurd h List.not_mem_nil)⟩)⟩)⟩)⟩), tk_c_X6_knownPiece⟩)⟩)⟩
theorem tk_own_c_L_padding : ∀ w ∈ wo_c_L_padding, w ∈ lw_tbl := (List.forall_mem_cons.mpr ⟨tw_421, (fun _ h => absurd h List.not_mem_nil)⟩)
theorem tk_c_L_padding : ∀ w ∈ wk_c_L_padding, w ∈ lw_tbl := List.forall_mem_cons.mpr ⟨tw_486, (List.forall_mem_append.mpr ⟨(tk_own_c_L_padding), (List.forall_mem_append.mpr ⟨(List.forall_mem_cons.mpr ⟨tw_483, (List.forall_mem_cons.mpr ⟨tw_484, (List.forall_mem_cons.mpr ⟨tw_485, (List.forall_mem_cons.mpr ⟨tw_24, (fun _ h => absurd h List.not_mem_nil)⟩)⟩)⟩)⟩), tk_c_X6_padding⟩)⟩)⟩
theorem tk_own_c_X11_padding : ∀ w ∈ wo_c_X11_padding, w ∈ lw_tbl := (fun _ h => absurd h List.not_mem_nil)
theorem tk_c_X11_padding : ∀ w ∈ wk_c_X11_padding, w ∈ lw_tbl := List.forall_mem_cons.mpr ⟨tw_161, (List.forall_mem_append.mpr ⟨(tk_own_c_X11_padding), (List.forall_mem_append.mpr ⟨(List.forall_mem_cons.mpr ⟨tw_147, (List.forall_mem_cons.mpr ⟨tw_148, (List.forall_mem_cons.mpr ⟨tw_149, (List.forall_mem_cons.mpr ⟨tw_142, (fun _ h => absurd h List.not_mem_nil)⟩)⟩)⟩)⟩), tk_c_X11_noPiece⟩)⟩)⟩
theorem tk_own_c_X6_split : ∀ w ∈ wo_c_X6_split, w ∈ lw_tbl := (fun _ h => absurd h List.not_mem_nil)
theorem tk_c_X6_split : ∀ w ∈ wk_c_X6_split, w ∈ lw_tbl := List.forall_mem_cons.mpr ⟨tw_64, (List.forall_mem_append.mpr ⟨(tk_own_c_X6_split), (List.forall_mem_append.mpr ⟨(List.forall_mem_cons.mpr ⟨tw_57, (List.forall_mem_cons.mpr ⟨tw_58, (List.forall_mem_cons.mpr ⟨tw_59, (List.forall_mem_cons.mpr ⟨tw_24, (fun _ h => absurd h List.not_mem_nil)⟩)⟩)⟩)⟩), tk_c_X6_knownItem⟩)⟩)⟩
theorem tk_own_c_L_split : ∀ w ∈ wo_c_L_split, w ∈ lw_tbl := (List.forall_mem_cons.mpr ⟨tw_421, (fun _ h => absurd h List.not_mem_nil)⟩)
theorem tk_c_L_split : ∀ w ∈ wk_c_L_split, w ∈ lw_tbl := List.forall_mem_cons.mpr ⟨tw_552, (List.forall_mem_append.mpr ⟨(tk_own_c_L_split), (List.forall_mem_append.mpr ⟨(List.forall_mem_cons.mpr ⟨tw_549, (List.forall_mem_cons.mpr ⟨tw_550, (List.forall_mem_cons.mpr ⟨tw_551, (List.forall_mem_cons.mpr ⟨tw_24, (fun _ h => absurd h List.not_mem_nil)⟩)⟩)⟩)⟩), tk_c_X6_split⟩)⟩)⟩
theorem tk_own_c_X11_split : ∀ w ∈ wo_c_X11_split, w ∈ lw_tbl := (fun _ h => absurd h List.not_mem_nil)
theorem tk_c_X11_split : ∀ w ∈ wk_c_X11_split, w ∈ lw_tbl := List.forall_mem_cons.mpr ⟨tw_170, (List.forall_mem_append.mpr ⟨(tk_own_c_X11_split), (List.forall_mem_append.mpr ⟨(List.forall_mem_cons.mpr ⟨tw_163, (List.forall_mem_cons.mpr ⟨tw_164, (List.forall_mem_cons.mpr ⟨tw_165, (List.forall_mem_cons.mpr ⟨tw_142, (fun _ h => absurd h List.not_mem_nil)⟩)⟩)⟩)⟩), tk_c_X11_noItem⟩)⟩)⟩
theorem tk_own_c_X6_play : ∀ w ∈ wo_c_X6_play, w ∈ lw_tbl := (fun _ h => absurd h List.not_mem_nil)
theorem tk_c_X6_play : ∀ w ∈ wk_c_X6_play, w ∈ lw_tbl := List.forall_mem_cons.mpr ⟨tw_65, (List.forall_mem_append.mpr ⟨(tk_own_c_X6_play), (List.forall_mem_append.mpr ⟨(List.forall_mem_cons.mpr ⟨tw_57, (List.forall_mem_cons.mpr ⟨tw_58, (List.forall_mem_cons.mpr ⟨tw_59, (List.forall_mem_cons.mpr ⟨tw_24, (fun _ h => absurd h List.not_mem_nil)⟩)⟩)⟩)⟩), tk_c_X6_knownItem⟩)⟩)⟩
theorem tk_own_c_L_play : ∀ w ∈ wo_c_L_play, w ∈ lw_tbl := (List.forall_mem_cons.mpr ⟨tw_421, (fun _ h => absurd h List.not_mem_nil)⟩)
theorem tk_c_L_play : ∀ w ∈ wk_c_L_play, w ∈ lw_tbl := List.forall_mem_cons.mpr ⟨tw_556, (List.forall_mem_append.mpr ⟨(tk_own_c_L_play), (List.forall_mem_append.mpr ⟨(List.forall_mem_cons.mpr ⟨tw_553, (List.forall_mem_cons.mpr ⟨tw_554, (List.forall_mem_cons.mpr ⟨tw_555, (List.forall_mem_cons.mpr ⟨tw_24, (fun _ h => absurd h List.not_mem_nil)⟩)⟩)⟩)⟩), tk_c_X6_play⟩)⟩)⟩
theorem tk_own_c_X11_play : ∀ w ∈ wo_c_X11_play, w ∈ lw_tbl := (fun _ h => absurd h List.not_mem_nil)
theorem tk_c_X11_play : ∀ w ∈ wk_c_X11_play, w ∈ lw_tbl := List.forall_mem_cons.mpr ⟨tw_171, (List.forall_mem_append.mpr ⟨(tk_own_c_X11_play), (List.forall_mem_append.mpr ⟨(List.forall_mem_cons.mpr ⟨tw_163, (List.forall_mem_cons.mpr ⟨tw_164, (List.forall_mem_cons.mpr ⟨tw_165, (List.forall_mem_cons.mpr ⟨tw_142, (fun _ h => absurd h List.not_mem_nil)⟩)⟩)⟩)⟩), tk_c_X11_noItem⟩)⟩)⟩
theorem tk_own_c_X6_vote : ∀ w ∈ wo_c_X6_vote, w ∈ lw_tbl := (fun _ h => absurd h List.not_mem_nil)
theorem tk_c_X6_vote : ∀ w ∈ wk_c_X6_vote, w ∈ lw_tbl := List.forall_mem_cons.mpr ⟨tw_55, (List.forall_mem_append.mpr ⟨(tk_own_c_X6_vote), (List.forall_mem_append.mpr ⟨(List.forall_mem_cons.mpr ⟨tw_45, (List.forall_mem_cons.mpr ⟨tw_46, (List.forall_mem_cons.mpr ⟨tw_47, (List.forall_mem_cons.mpr ⟨tw_24, (fun _ h => absurd h List.not_mem_nil)⟩)⟩)⟩)⟩), tk_c_X6_knownEdition⟩)⟩)⟩
theorem tk_own_c_L_vote : ∀ w ∈ wo_c_L_vote, w ∈ lw_tbl := (List.forall_mem_cons.mpr ⟨tw_421, (fun _ h => absurd h List.not_mem_nil)⟩)
theorem tk_c_L_vote : ∀ w ∈ wk_c_L_vote, w ∈ lw_tbl := List.forall_mem_cons.mpr ⟨tw_518, (List.forall_mem_append.mpr ⟨(tk_own_c_L_vote), (List.forall_mem_append.mpr ⟨(List.forall_mem_cons.mpr ⟨tw_515, (List.forall_mem_cons.mpr ⟨tw_516, (List.forall_mem_cons.mpr ⟨tw_517, (List.forall_mem_cons.mpr ⟨tw_24, (fun _ h => absurd h List.not_mem_nil)⟩)⟩)⟩)⟩), tk_c_X6_vote⟩)⟩)⟩
theorem tk_own_c_X11_vote : ∀ w ∈ wo_c_X11_vote, w ∈ lw_tbl := (fun _ h => absurd h List.not_mem_nil)
theorem tk_c_X11_vote : ∀ w ∈ wk_c_X11_vote, w ∈ lw_tbl := List.forall_mem_cons.mpr ⟨tw_178, (List.forall_mem_append.mpr ⟨(tk_own_c_X11_vote), (List.forall_mem_append.mpr ⟨(List.forall_mem_cons.mpr ⟨tw_172, (List.forall_mem_cons.mpr ⟨tw_173, (List.forall_mem_cons.mpr ⟨tw_174, (List.forall_mem_cons.mpr ⟨tw_142, (fun _ h => absurd h List.not_mem_nil)⟩)⟩)⟩)⟩), tk_c_X11_noEdition⟩)⟩)⟩
theorem tk_own_c_X6_favourite : ∀ w ∈ wo_c_X6_favourite, w ∈ lw_tbl := (List.forall_mem_cons.mpr ⟨tw_16, (List.forall_mem_cons.mpr ⟨tw_3, (List.forall_mem_cons.mpr ⟨tw_4, (fun _ h => absurd h List.not_mem_nil)⟩)⟩)⟩)
theorem tk_c_X6_favourite : ∀ w ∈ wk_c_X6_favourite, w ∈ lw_tbl := List.forall_mem_cons.mpr ⟨tw_104, (List.forall_mem_append.mpr ⟨(tk_own_c_X6_favourite), (List.forall_mem_append.mpr ⟨tl_X6, tt_277⟩)⟩)⟩
theorem tk_own_c_L_favourite : ∀ w ∈ wo_c_L_favourite, w ∈ lw_tbl := (List.forall_mem_cons.mpr ⟨tw_522, (fun _ h => absurd h List.not_mem_nil)⟩)
theorem tk_c_L_favourite : ∀ w ∈ wk_c_L_favourite, w ∈ lw_tbl := List.forall_mem_cons.mpr ⟨tw_523, (List.forall_mem_append.mpr ⟨(tk_own_c_L_favourite), (List.forall_mem_append.mpr ⟨(List.forall_mem_cons.mpr ⟨tw_519, (List.forall_mem_cons.mpr ⟨tw_520, (List.forall_mem_cons.mpr ⟨tw_521, (List.forall_mem_cons.mpr ⟨tw_24, (fun _ h => absurd h List.not_mem_nil)⟩)⟩)⟩)⟩), tk_c_X6_favourite⟩)⟩)⟩
theorem tk_own_c_X11_favourite : ∀ w ∈ wo_c_X11_favourite, w ∈ lw_tbl := (List.forall_mem_cons.mpr ⟨tw_135, (List.forall_mem_cons.mpr ⟨tw_129, (List.forall_mem_cons.mpr ⟨tw_223, (List.forall_mem_cons.mpr ⟨tw_224, (List.forall_mem_cons.mpr ⟨tw_225, (List.forall_mem_cons.mpr ⟨tw_226, (fun _ h => absurd h List.not_mem_nil)⟩)⟩)⟩)⟩)⟩)⟩)
theorem tk_c_X11_favourite : ∀ w ∈ wk_c_X11_favourite, w ∈ lw_tbl := List.forall_mem_cons.mpr ⟨tw_227, (List.forall_mem_append.mpr ⟨(tk_own_c_X11_favourite), (List.forall_mem_append.mpr ⟨tl_X11, (List.forall_mem_append.mpr ⟨(List.forall_mem_cons.mpr ⟨tw_121, (List.forall_mem_cons.mpr ⟨tw_122, (List.forall_mem_cons.mpr ⟨tw_123, (List.forall_mem_cons.mpr ⟨tw_124, (fun _ h => absurd h List.not_mem_nil)⟩)⟩)⟩)⟩), tk_c_size⟩)⟩)⟩)⟩
theorem tk_own_c_X6_goodShare : ∀ w ∈ wo_c_X6_goodShare, w ∈ lw_tbl := (List.forall_mem_cons.mpr ⟨tw_66, (List.forall_mem_cons.mpr ⟨tw_105, (List.forall_mem_cons.mpr ⟨tw_106, (List.forall_mem_cons.mpr ⟨tw_107, (fun _ h => absurd h List.not_mem_nil)⟩)⟩)⟩)⟩)
theorem tk_c_X6_goodShare : ∀ w ∈ wk_c_X6_goodShare, w ∈ lw_tbl := List.forall_mem_cons.mpr ⟨tw_108, (List.forall_mem_append.mpr ⟨(tk_own_c_X6_goodShare), (List.forall_mem_append.mpr ⟨tl_X6, (List.forall_mem_append.mpr ⟨tl_X3, tt_329⟩)⟩)⟩)⟩
theorem tk_own_c_L_goodShare : ∀ w ∈ wo_c_L_goodShare, w ∈ lw_tbl := (List.forall_mem_cons.mpr ⟨tw_531, (fun _ h => absurd h List.not_mem_nil)⟩)
theorem tk_c_L_goodShare : ∀ w ∈ wk_c_L_goodShare, w ∈ lw_tbl := List.forall_mem_cons.mpr ⟨tw_532, (List.forall_mem_append.mpr ⟨(tk_own_c_L_goodShare), (List.forall_mem_append.mpr ⟨(List.forall_mem_cons.mpr ⟨tw_528, (List.forall_mem_cons.mpr ⟨tw_529, (List.forall_mem_cons.mpr ⟨tw_530, (List.forall_mem_cons.mpr ⟨tw_24, (fun _ h => absurd h List.not_mem_nil)⟩)⟩)⟩)⟩), tk_c_X6_goodShare⟩)⟩)⟩
theorem tk_own_c_X11_goodShare : ∀ w ∈ wo_c_X11_goodShare, w ∈ lw_tbl := (List.forall_mem_cons.mpr ⟨tw_228, (List.forall_mem_cons.mpr ⟨tw_129, (fun _ h => absurd h List.not_mem_nil)⟩)⟩)
theorem tk_c_X11_goodShare : ∀ w ∈ wk_c_X11_goodShare, w ∈ lw_tbl := List.forall_mem_cons.mpr ⟨tw_229, (List.forall_mem_append.mpr ⟨(tk_own_c_X11_goodShare), tl_X11⟩)⟩
theorem tk_own_c_X6_meanMark : ∀ w ∈ wo_c_X6_meanMark, w ∈ lw_tbl := (fun _ h => absurd h List.not_mem_nil)
theorem tk_c_X6_meanMark : ∀ w ∈ wk_c_X6_meanMark, w ∈ lw_tbl := List.forall_mem_cons.mpr ⟨tw_56, (List.forall_mem_append.mpr ⟨(tk_own_c_X6_meanMark), (List.forall_mem_append.mpr ⟨(List.forall_mem_cons.mpr ⟨tw_45, (List.forall_mem_cons.mpr ⟨tw_46, (List.forall_mem_cons.mpr ⟨tw_47, (List.forall_mem_cons.mpr ⟨tw_24, (fun _ h => absurd h List.not_mem_nil)⟩)⟩)⟩)⟩), tk_c_X6_knownEdition⟩)⟩)⟩
theorem tk_own_c_L_meanMark : ∀ w ∈ wo_c_L_meanMark, w ∈ lw_tbl := (List.forall_mem_cons.mpr ⟨tw_421, (fun _ h => absurd h List.not_mem_nil)⟩)
theorem tk_c_L_meanMark : ∀ w ∈ wk_c_L_meanMark, w ∈ lw_tbl := List.forall_mem_cons.mpr ⟨tw_527, (List.forall_mem_append.mpr ⟨(tk_own_c_L_meanMark), (List.forall_mem_append.mpr ⟨(List.forall_mem_cons.mpr ⟨tw_524, (List.forall_mem_cons.mpr ⟨tw_525, (List.forall_mem_cons.mpr ⟨tw_526, (List.forall_mem_cons.mpr ⟨tw_24, (fun _ h => absurd h List.not_mem_nil)⟩)⟩)⟩)⟩), tk_c_X6_meanMark⟩)⟩)⟩
theorem tk_own_c_X11_meanMark : ∀ w ∈ wo_c_X11_meanMark, w ∈ lw_tbl := (fun _ h => absurd h List.not_mem_nil)
theorem tk_c_X11_meanMark : ∀ w ∈ wk_c_X11_meanMark, w ∈ lw_tbl := List.forall_mem_cons.mpr ⟨tw_179, (List.forall_mem_append.mpr ⟨(tk_own_c_X11_meanMark), (List.forall_mem_append.mpr ⟨(List.forall_mem_cons.mpr ⟨tw_172, (List.forall_mem_cons.mpr ⟨tw_173, (List.forall_mem_cons.mpr ⟨tw_174, (List.forall_mem_cons.mpr ⟨tw_142, (fun _ h => absurd h List.not_mem_nil)⟩)⟩)⟩)⟩), tk_c_X11_noEdition⟩)⟩)⟩
theorem tk_own_c_X6_lock : ∀ w ∈ wo_c_X6_lock, w ∈ lw_tbl := (fun _ h => absurd h List.not_mem_nil)
theorem tk_c_X6_lock : ∀ w ∈ wk_c_X6_lock, w ∈ lw_tbl := List.forall_mem_cons.mpr ⟨tw_60, (List.forall_mem_append.mpr ⟨(tk_own_c_X6_lock), (List.forall_mem_append.mpr ⟨(List.forall_mem_cons.mpr ⟨tw_57, (List.forall_mem_cons.mpr ⟨tw_58, (List.forall_mem_cons.mpr ⟨tw_59, (List.forall_mem_cons.mpr ⟨tw_24, (fun _ h => absurd h List.not_mem_nil)⟩)⟩)⟩)⟩), tk_c_X6_knownItem⟩)⟩)⟩
theorem tk_own_c_L_lock : ∀ w ∈ wo_c_L_lock, w ∈ lw_tbl := (List.forall_mem_cons.mpr ⟨tw_421, (fun _ h => absurd h List.not_mem_nil)⟩)
theorem tk_c_L_lock : ∀ w ∈ wk_c_L_lock, w ∈ lw_tbl := List.forall_mem_cons.mpr ⟨tw_536, (List.forall_mem_append.mpr ⟨(tk_own_c_L_lock), (List.forall_mem_append.mpr ⟨(List.forall_mem_cons.mpr ⟨tw_533, (List.forall_mem_cons.mpr ⟨tw_534, (List.forall_mem_cons.mpr ⟨tw_535, (List.forall_mem_cons.mpr ⟨tw_24, (fun _ h => absurd h List.not_mem_nil)⟩)⟩)⟩)⟩), tk_c_X6_lock⟩)⟩)⟩
theorem tk_own_c_X11_lock : ∀ w ∈ wo_c_X11_lock, w ∈ lw_tbl := (fun _ h => absurd h List.not_mem_nil)
theorem tk_c_X11_lock : ∀ w ∈ wk_c_X11_lock, w ∈ lw_tbl := List.forall_mem_cons.mpr ⟨tw_166, (List.forall_mem_append.mpr ⟨(tk_own_c_X11_lock), (List.forall_mem_append.mpr ⟨(List.forall_mem_cons.mpr ⟨tw_163, (List.forall_mem_cons.mpr ⟨tw_164, (List.forall_mem_cons.mpr ⟨tw_165, (List.forall_mem_cons.mpr ⟨tw_142, (fun _ h => absurd h List.not_mem_nil)⟩)⟩)⟩)⟩), tk_c_X11_noItem⟩)⟩)⟩
theorem tk_own_c_X6_programLength : ∀ w ∈ wo_c_X6_programLength, w ∈ lw_tbl := (List.forall_mem_cons.mpr ⟨tw_18, (List.forall_mem_cons.mpr ⟨tw_79, (fun _ h => absurd h List.not_mem_nil)⟩)⟩)
theorem tk_c_X6_programLength : ∀ w ∈ wk_c_X6_programLength, w ∈ lw_tbl := List.forall_mem_cons.mpr ⟨tw_81, (List.forall_mem_append.mpr ⟨(tk_own_c_X6_programLength), (List.forall_mem_append.mpr ⟨tl_X6, tl_X4⟩)⟩)⟩
theorem tk_own_c_X11_programLength : ∀ w ∈ wo_c_X11_programLength, w ∈ lw_tbl := (List.forall_mem_cons.mpr ⟨tw_129, (fun _ h => absurd h List.not_mem_nil)⟩)
theorem tk_c_X11_programLength : ∀ w ∈ wk_c_X11_programLength, w ∈ lw_tbl := List.forall_mem_cons.mpr ⟨tw_212, (List.forall_mem_append.mpr ⟨(tk_own_c_X11_programLength), (List.forall_mem_append.mpr ⟨tl_X11, (List.forall_mem_append.mpr ⟨(List.forall_mem_cons.mpr ⟨tw_209, (List.forall_mem_cons.mpr ⟨tw_210, (List.forall_mem_cons.mpr ⟨tw_211, (List.forall_mem_cons.mpr ⟨tw_142, (fun _ h => absurd h List.not_mem_nil)⟩)⟩)⟩)⟩), tk_c_X11_program⟩)⟩)⟩)⟩
theorem tk_own_c_X4_stands : ∀ w ∈ wo_c_X4_stands, w ∈ lw_tbl := (List.forall_mem_cons.mpr ⟨tw_82, (List.forall_mem_cons.mpr ⟨tw_111, (fun _ h => absurd h List.not_mem_nil)⟩)⟩)
theorem tk_c_X4_stands : ∀ w ∈ wk_c_X4_stands, w ∈ lw_tbl := List.forall_mem_cons.mpr ⟨tw_112, (List.forall_mem_append.mpr ⟨(tk_own_c_X4_stands), tl_X4⟩)⟩
theorem tk_own_c_X6_isTrue : ∀ w ∈ wo_c_X6_isTrue, w ∈ lw_tbl := (List.forall_mem_cons.mpr ⟨tw_14, (List.forall_mem_cons.mpr ⟨tw_16, (List.forall_mem_cons.mpr ⟨tw_18, (fun _ h => absurd h List.not_mem_nil)⟩)⟩)⟩)
theorem tk_c_X6_isTrue : ∀ w ∈ wk_c_X6_isTrue, w ∈ lw_tbl := List.forall_mem_cons.mpr ⟨tw_116, (List.forall_mem_append.mpr ⟨(tk_own_c_X6_isTrue), (List.forall_mem_append.mpr ⟨tl_X6, (List.forall_mem_append.mpr ⟨(List.forall_mem_cons.mpr ⟨tw_113, (List.forall_mem_cons.mpr ⟨tw_114, (List.forall_mem_cons.mpr ⟨tw_115, (List.forall_mem_cons.mpr ⟨tw_90, (fun _ h => absurd h List.not_mem_nil)⟩)⟩)⟩)⟩), tk_c_X4_stands⟩)⟩)⟩)⟩
theorem tk_own_c_X11_isTrue : ∀ w ∈ wo_c_X11_isTrue, w ∈ lw_tbl := (List.forall_mem_cons.mpr ⟨tw_129, (fun _ h => absurd h List.not_mem_nil)⟩)
theorem tk_c_X11_isTrue : ∀ w ∈ wk_c_X11_isTrue, w ∈ lw_tbl := List.forall_mem_cons.mpr ⟨tw_230, (List.forall_mem_append.mpr ⟨(tk_own_c_X11_isTrue), tl_X11⟩)⟩
theorem tk_own_c_X6_needRange_ok : ∀ w ∈ wo_c_X6_needRange_ok, w ∈ lw_tbl := (fun _ h => absurd h List.not_mem_nil)
theorem tk_c_X6_needRange_ok : ∀ w ∈ wk_c_X6_needRange_ok, w ∈ lw_tbl := List.forall_mem_cons.mpr ⟨tw_6, (tk_own_c_X6_needRange_ok)⟩
theorem tk_own_c_X6_edition : ∀ w ∈ wo_c_X6_edition, w ∈ lw_tbl := (List.forall_mem_cons.mpr ⟨tw_18, (List.forall_mem_cons.mpr ⟨tw_19, (List.forall_mem_cons.mpr ⟨tw_98, (List.forall_mem_cons.mpr ⟨tw_99, (fun _ h => absurd h List.not_mem_nil)⟩)⟩)⟩)⟩)
theorem tk_c_X6_edition : ∀ w ∈ wk_c_X6_edition, w ∈ lw_tbl := List.forall_mem_cons.mpr ⟨tw_100, (List.forall_mem_append.mpr ⟨(tk_own_c_X6_edition), (List.forall_mem_append.mpr ⟨(List.forall_mem_append.mpr ⟨(List.forall_mem_cons.mpr ⟨tw_84, (List.forall_mem_cons.mpr ⟨tw_85, (List.forall_mem_cons.mpr ⟨tw_86, (fun _ h => absurd h List.not_mem_nil)⟩)⟩)⟩), tk_c_X6_needRange_ok⟩), (List.forall_mem_append.mpr ⟨tl_X6, (List.forall_mem_append.mpr ⟨tl_X4, tt_207⟩)⟩)⟩)⟩)⟩
theorem tk_own_c_L_edition : ∀ w ∈ wo_c_L_edition, w ∈ lw_tbl := (List.forall_mem_cons.mpr ⟨tw_585, (List.forall_mem_cons.mpr ⟨tw_589, (fun _ h => absurd h List.not_mem_nil)⟩)⟩)
theorem tk_c_L_edition : ∀ w ∈ wk_c_L_edition, w ∈ lw_tbl := List.forall_mem_cons.mpr ⟨tw_594, (List.forall_mem_append.mpr ⟨(tk_own_c_L_edition), (List.forall_mem_append.mpr ⟨(List.forall_mem_cons.mpr ⟨tw_591, (List.forall_mem_cons.mpr ⟨tw_592, (List.forall_mem_cons.mpr ⟨tw_593, (List.forall_mem_cons.mpr ⟨tw_24, (fun _ h => absurd h List.not_mem_nil)⟩)⟩)⟩)⟩), tk_c_X6_edition⟩)⟩)⟩
theorem tk_own_c_X11_in_t : ∀ w ∈ wo_c_X11_in_t, w ∈ lw_tbl := (fun _ h => absurd h List.not_mem_nil)
theorem tk_c_X11_in_t : ∀ w ∈ wk_c_X11_in_t, w ∈ lw_tbl := List.forall_mem_cons.mpr ⟨tw_117, (tk_own_c_X11_in_t)⟩
theorem tk_own_c_isEmpty : ∀ w ∈ wo_c_isEmpty, w ∈ lw_tbl := (List.forall_mem_cons.mpr ⟨tw_118, (fun _ h => absurd h List.not_mem_nil)⟩)
theorem tk_c_isEmpty : ∀ w ∈ wk_c_isEmpty, w ∈ lw_tbl := List.forall_mem_cons.mpr ⟨tw_120, (List.forall_mem_append.mpr ⟨(tk_own_c_isEmpty), tl_Jx4a65c⟩)⟩
theorem tk_own_c_X11_edition : ∀ w ∈ wo_c_X11_edition, w ∈ lw_tbl := (List.forall_mem_cons.mpr ⟨tw_217, (List.forall_mem_cons.mpr ⟨tw_218, (List.forall_mem_cons.mpr ⟨tw_133, (List.forall_mem_cons.mpr ⟨tw_129, (fun _ h => absurd h List.not_mem_nil)⟩)⟩)⟩)⟩)
theorem tk_c_X11_edition : ∀ w ∈ wk_c_X11_edition, w ∈ lw_tbl := List.forall_mem_cons.mpr ⟨tw_219, (List.forall_mem_append.mpr ⟨(tk_own_c_X11_edition), (List.forall_mem_append.mpr ⟨(List.forall_mem_append.mpr ⟨(List.forall_mem_cons.mpr ⟨tw_125, (List.forall_mem_cons.mpr ⟨tw_126, (List.forall_mem_cons.mpr ⟨tw_127, (fun _ h => absurd h List.not_mem_nil)⟩)⟩)⟩), tk_c_X11_in_t⟩), (List.forall_mem_append.mpr ⟨tl_X11, (List.forall_mem_append.mpr ⟨(List.forall_mem_cons.mpr ⟨tw_214, (List.forall_mem_cons.mpr ⟨tw_215, (List.forall_mem_cons.mpr ⟨tw_216, (List.forall_mem_cons.mpr ⟨tw_124, (fun _ h => absurd h List.not_mem_nil)⟩)⟩)⟩)⟩), tk_c_isEmpty⟩)⟩)⟩)⟩)⟩
theorem tk_own_c_X6_needRange_bad : ∀ w ∈ wo_c_X6_needRange_bad, w ∈ lw_tbl := (List.forall_mem_cons.mpr ⟨tw_7, (List.forall_mem_cons.mpr ⟨tw_8, (fun _ h => absurd h List.not_mem_nil)⟩)⟩)
theorem tk_c_X6_needRange_bad : ∀ w ∈ wk_c_X6_needRange_bad, w ∈ lw_tbl := List.forall_mem_cons.mpr ⟨tw_6, (List.forall_mem_append.mpr ⟨(tk_own_c_X6_needRange_bad), tt_84⟩)⟩
theorem tk_own_c_X6_edition_bad : ∀ w ∈ wo_c_X6_edition_bad, w ∈ lw_tbl := (fun _ h => absurd h List.not_mem_nil)
theorem tk_c_X6_edition_bad : ∀ w ∈ wk_c_X6_edition_bad, w ∈ lw_tbl := List.forall_mem_cons.mpr ⟨tw_100, (List.forall_mem_append.mpr ⟨(tk_own_c_X6_edition_bad), (List.forall_mem_append.mpr ⟨(List.forall_mem_cons.mpr ⟨tw_84, (List.forall_mem_cons.mpr ⟨tw_85, (List.forall_mem_cons.mpr ⟨tw_86, (fun _ h => absurd h List.not_mem_nil)⟩)⟩)⟩), tk_c_X6_needRange_bad⟩)⟩)⟩
theorem tk_own_c_L_edition_bad : ∀ w ∈ wo_c_L_edition_bad, w ∈ lw_tbl := (List.forall_mem_cons.mpr ⟨tw_585, (fun _ h => absurd h List.not_mem_nil)⟩)
theorem tk_c_L_edition_bad : ∀ w ∈ wk_c_L_edition_bad, w ∈ lw_tbl := List.forall_mem_cons.mpr ⟨tw_594, (List.forall_mem_append.mpr ⟨(tk_own_c_L_edition_bad), (List.forall_mem_append.mpr ⟨(List.forall_mem_cons.mpr ⟨tw_591, (List.forall_mem_cons.mpr ⟨tw_592, (List.forall_mem_cons.mpr ⟨tw_593, (List.forall_mem_cons.mpr ⟨tw_24, (fun _ h => absurd h List.not_mem_nil)⟩)⟩)⟩)⟩), tk_c_X6_edition_bad⟩)⟩)⟩
theorem tk_own_c_X11_edition_bad : ∀ w ∈ wo_c_X11_edition_bad, w ∈ lw_tbl := (List.forall_mem_cons.mpr ⟨tw_217, (List.forall_mem_cons.mpr ⟨tw_218, (List.forall_mem_cons.mpr ⟨tw_129, (fun _ h => absurd h List.not_mem_nil)⟩)⟩)⟩)
theorem tk_c_X11_edition_bad : ∀ w ∈ wk_c_X11_edition_bad, w ∈ lw_tbl := List.forall_mem_cons.mpr ⟨tw_219, (List.forall_mem_append.mpr ⟨(tk_own_c_X11_edition_bad), (List.forall_mem_append.mpr ⟨(List.forall_mem_append.mpr ⟨(List.forall_mem_cons.mpr ⟨tw_125, (List.forall_mem_cons.mpr ⟨tw_126, (List.forall_mem_cons.mpr ⟨tw_127, (fun _ h => absurd h List.not_mem_nil)⟩)⟩)⟩), tk_c_X11_in_f⟩), tl_X11⟩)⟩)⟩
theorem tk_own_c_X6_earned : ∀ w ∈ wo_c_X6_earned, w ∈ lw_tbl := (List.forall_mem_cons.mpr ⟨tw_18, (List.forall_mem_cons.mpr ⟨tw_19, (fun _ h => absurd h List.not_mem_nil)⟩)⟩)
theorem tk_c_X6_earned : ∀ w ∈ wk_c_X6_earned, w ∈ lw_tbl := List.forall_mem_cons.mpr ⟨tw_103, (List.forall_mem_append.mpr ⟨(tk_own_c_X6_earned), (List.forall_mem_append.mpr ⟨(List.forall_mem_append.mpr ⟨(List.forall_mem_cons.mpr ⟨tw_84, (List.forall_mem_cons.mpr ⟨tw_85, (List.forall_mem_cons.mpr ⟨tw_86, (fun _ h => absurd h List.not_mem_nil)⟩)⟩)⟩), tk_c_X6_needRange_ok⟩), (List.forall_mem_append.mpr ⟨tl_X6, tl_X4⟩)⟩)⟩)⟩
theorem tk_own_c_L_earned : ∀ w ∈ wo_c_L_earned, w ∈ lw_tbl := (fun _ h => absurd h List.not_mem_nil)
theorem tk_c_L_earned : ∀ w ∈ wk_c_L_earned, w ∈ lw_tbl := List.forall_mem_cons.mpr ⟨tw_602, (List.forall_mem_append.mpr ⟨(tk_own_c_L_earned), (List.forall_mem_append.mpr ⟨(List.forall_mem_cons.mpr ⟨tw_599, (List.forall_mem_cons.mpr ⟨tw_600, (List.forall_mem_cons.mpr ⟨tw_601, (List.forall_mem_cons.mpr ⟨tw_24, (fun _ h => absurd h List.not_mem_nil)⟩)⟩)⟩)⟩), tk_c_X6_earned⟩)⟩)⟩
theorem tk_own_c_X11_earned : ∀ w ∈ wo_c_X11_earned, w ∈ lw_tbl := (List.forall_mem_cons.mpr ⟨tw_220, (List.forall_mem_cons.mpr ⟨tw_221, (List.forall_mem_cons.mpr ⟨tw_129, (List.forall_mem_cons.mpr ⟨tw_133, (fun _ h => absurd h List.not_mem_nil)⟩)⟩)⟩)⟩)
theorem tk_c_X11_earned : ∀ w ∈ wk_c_X11_earned, w ∈ lw_tbl := List.forall_mem_cons.mpr ⟨tw_222, (List.forall_mem_append.mpr ⟨(tk_own_c_X11_earned), (List.forall_mem_append.mpr ⟨(List.forall_mem_append.mpr ⟨(List.forall_mem_cons.mpr ⟨tw_125, (List.forall_mem_cons.mpr ⟨tw_126, (List.forall_mem_cons.mpr ⟨tw_127, (fun _ h => absurd h List.not_mem_nil)⟩)⟩)⟩), tk_c_X11_in_t⟩), (List.forall_mem_append.mpr ⟨tl_X11, (List.forall_mem_append.mpr ⟨(List.forall_mem_cons.mpr ⟨tw_121, (List.forall_mem_cons.mpr ⟨tw_122, (List.forall_mem_cons.mpr ⟨tw_123, (List.forall_mem_cons.mpr ⟨tw_124, (fun _ h => absurd h List.not_mem_nil)⟩)⟩)⟩)⟩), tk_c_size⟩)⟩)⟩)⟩)⟩
theorem tk_own_c_X6_earned_bad1 : ∀ w ∈ wo_c_X6_earned_bad1, w ∈ lw_tbl := (fun _ h => absurd h List.not_mem_nil)
theorem tk_c_X6_earned_bad1 : ∀ w ∈ wk_c_X6_earned_bad1, w ∈ lw_tbl := List.forall_mem_cons.mpr ⟨tw_103, (List.forall_mem_append.mpr ⟨(tk_own_c_X6_earned_bad1), (List.forall_mem_append.mpr ⟨(List.forall_mem_cons.mpr ⟨tw_84, (List.forall_mem_cons.mpr ⟨tw_85, (List.forall_mem_cons.mpr ⟨tw_86, (fun _ h => absurd h List.not_mem_nil)⟩)⟩)⟩), tk_c_X6_needRange_bad⟩)⟩)⟩
theorem tk_own_c_L_earned_bad1 : ∀ w ∈ wo_c_L_earned_bad1, w ∈ lw_tbl := (List.forall_mem_cons.mpr ⟨tw_585, (fun _ h => absurd h List.not_mem_nil)⟩)
theorem tk_c_L_earned_bad1 : ∀ w ∈ wk_c_L_earned_bad1, w ∈ lw_tbl := List.forall_mem_cons.mpr ⟨tw_602, (List.forall_mem_append.mpr ⟨(tk_own_c_L_earned_bad1), (List.forall_mem_append.mpr ⟨(List.forall_mem_cons.mpr ⟨tw_599, (List.forall_mem_cons.mpr ⟨tw_600, (List.forall_mem_cons.mpr ⟨tw_601, (List.forall_mem_cons.mpr ⟨tw_24, (fun _ h => absurd h List.not_mem_nil)⟩)⟩)⟩)⟩), tk_c_X6_earned_bad1⟩)⟩)⟩
theorem tk_own_c_X11_earned_bad1 : ∀ w ∈ wo_c_X11_earned_bad1, w ∈ lw_tbl := (List.forall_mem_cons.mpr ⟨tw_220, (List.forall_mem_cons.mpr ⟨tw_129, (List.forall_mem_cons.mpr ⟨tw_133, (fun _ h => absurd h List.not_mem_nil)⟩)⟩)⟩)
theorem tk_c_X11_earned_bad1 : ∀ w ∈ wk_c_X11_earned_bad1, w ∈ lw_tbl := List.forall_mem_cons.mpr ⟨tw_222, (List.forall_mem_append.mpr ⟨(tk_own_c_X11_earned_bad1), (List.forall_mem_append.mpr ⟨(List.forall_mem_append.mpr ⟨(List.forall_mem_cons.mpr ⟨tw_125, (List.forall_mem_cons.mpr ⟨tw_126, (List.forall_mem_cons.mpr ⟨tw_127, (fun _ h => absurd h List.not_mem_nil)⟩)⟩)⟩), tk_c_X11_in_f⟩), (List.forall_mem_append.mpr ⟨tl_X11, (List.forall_mem_append.mpr ⟨(List.forall_mem_cons.mpr ⟨tw_121, (List.forall_mem_cons.mpr ⟨tw_122, (List.forall_mem_cons.mpr ⟨tw_123, (List.forall_mem_cons.mpr ⟨tw_124, (fun _ h => absurd h List.not_mem_nil)⟩)⟩)⟩)⟩), tk_c_size⟩)⟩)⟩)⟩)⟩
theorem tk_own_c_X6_earned_bad2 : ∀ w ∈ wo_c_X6_earned_bad2, w ∈ lw_tbl := (fun _ h => absurd h List.not_mem_nil)
theorem tk_c_X6_earned_bad2 : ∀ w ∈ wk_c_X6_earned_bad2, w ∈ lw_tbl := List.forall_mem_cons.mpr ⟨tw_103, (List.forall_mem_append.mpr ⟨(tk_own_c_X6_earned_bad2), (List.forall_mem_append.mpr ⟨(List.forall_mem_append.mpr ⟨(List.forall_mem_cons.mpr ⟨tw_84, (List.forall_mem_cons.mpr ⟨tw_85, (List.forall_mem_cons.mpr ⟨tw_86, (fun _ h => absurd h List.not_mem_nil)⟩)⟩)⟩), tk_c_X6_needRange_ok⟩), (List.forall_mem_append.mpr ⟨(List.forall_mem_cons.mpr ⟨tw_84, (List.forall_mem_cons.mpr ⟨tw_85, (List.forall_mem_cons.mpr ⟨tw_86, (fun _ h => absurd h List.not_mem_nil)⟩)⟩)⟩), tk_c_X6_needRange_bad⟩)⟩)⟩)⟩
theorem tk_own_c_L_earned_bad2 : ∀ w ∈ wo_c_L_earned_bad2, w ∈ lw_tbl := (List.forall_mem_cons.mpr ⟨tw_585, (fun _ h => absurd h List.not_mem_nil)⟩)
theorem tk_c_L_earned_bad2 : ∀ w ∈ wk_c_L_earned_bad2, w ∈ lw_tbl := List.forall_mem_cons.mpr ⟨tw_602, (List.forall_mem_append.mpr ⟨(tk_own_c_L_earned_bad2), (List.forall_mem_append.mpr ⟨(List.forall_mem_cons.mpr ⟨tw_599, (List.forall_mem_cons.mpr ⟨tw_600, (List.forall_mem_cons.mpr ⟨tw_601, (List.forall_mem_cons.mpr ⟨tw_24, (fun _ h => absurd h List.not_mem_nil)⟩)⟩)⟩)⟩), tk_c_X6_earned_bad2⟩)⟩)⟩
theorem tk_own_c_X11_earned_bad2 : ∀ w ∈ wo_c_X11_earned_bad2, w ∈ lw_tbl := (List.forall_mem_cons.mpr ⟨tw_220, (List.forall_mem_cons.mpr ⟨tw_221, (List.forall_mem_cons.mpr ⟨tw_129, (List.forall_mem_cons.mpr ⟨tw_133, (fun _ h => absurd h List.not_mem_nil)⟩)⟩)⟩)⟩)
theorem tk_c_X11_earned_bad2 : ∀ w ∈ wk_c_X11_earned_bad2, w ∈ lw_tbl := List.forall_mem_cons.mpr ⟨tw_222, (List.forall_mem_append.mpr ⟨(tk_own_c_X11_earned_bad2), (List.forall_mem_append.mpr ⟨(List.forall_mem_append.mpr ⟨(List.forall_mem_cons.mpr ⟨tw_125, (List.forall_mem_cons.mpr ⟨tw_126, (List.forall_mem_cons.mpr ⟨tw_127, (fun _ h => absurd h List.not_mem_nil)⟩)⟩)⟩), tk_c_X11_in_t⟩), (List.forall_mem_append.mpr ⟨(List.forall_mem_append.mpr ⟨(List.forall_mem_cons.mpr ⟨tw_125, (List.forall_mem_cons.mpr ⟨tw_126, (List.forall_mem_cons.mpr ⟨tw_127, (fun _ h => absurd h List.not_mem_nil)⟩)⟩)⟩), tk_c_X11_in_f⟩), (List.forall_mem_append.mpr ⟨tl_X11, (List.forall_mem_append.mpr ⟨(List.forall_mem_cons.mpr ⟨tw_121, (List.forall_mem_cons.mpr ⟨tw_122, (List.forall_mem_cons.mpr ⟨tw_123, (List.forall_mem_cons.mpr ⟨tw_124, (fun _ h => absurd h List.not_mem_nil)⟩)⟩)⟩)⟩), tk_c_size⟩)⟩)⟩)⟩)⟩)⟩
theorem tk_own_c_X5_init : ∀ w ∈ wo_c_X5_init, w ∈ lw_tbl := (List.forall_mem_cons.mpr ⟨tw_347, (List.forall_mem_cons.mpr ⟨tw_233, (List.forall_mem_cons.mpr ⟨tw_234, (List.forall_mem_cons.mpr ⟨tw_203, (List.forall_mem_cons.mpr ⟨tw_348, (fun _ h => absurd h List.not_mem_nil)⟩)⟩)⟩)⟩)⟩)
theorem tk_c_X5_init : ∀ w ∈ wk_c_X5_init, w ∈ lw_tbl := List.forall_mem_cons.mpr ⟨tw_349, (List.forall_mem_append.mpr ⟨(tk_own_c_X5_init), tl_X5⟩)⟩
theorem tk_own_c_X6_reel : ∀ w ∈ wo_c_X6_reel, w ∈ lw_tbl := (List.forall_mem_cons.mpr ⟨tw_12, (List.forall_mem_cons.mpr ⟨tw_264, (List.forall_mem_cons.mpr ⟨tw_350, (List.forall_mem_cons.mpr ⟨tw_351, (List.forall_mem_cons.mpr ⟨tw_352, (List.forall_mem_cons.mpr ⟨tw_353, (List.forall_mem_cons.mpr ⟨tw_354, (fun _ h => absurd h List.not_mem_nil)⟩)⟩)⟩)⟩)⟩)⟩)⟩)
theorem tk_c_X6_reel : ∀ w ∈ wk_c_X6_reel, w ∈ lw_tbl := List.forall_mem_cons.mpr ⟨tw_355, (List.forall_mem_append.mpr ⟨(tk_own_c_X6_reel), (List.forall_mem_append.mpr ⟨tl_X6, (List.forall_mem_append.mpr ⟨tl_X5, tk_c_X5_init⟩)⟩)⟩)⟩
theorem tk_own_c_L_reel : ∀ w ∈ wo_c_L_reel, w ∈ lw_tbl := (fun _ h => absurd h List.not_mem_nil)
theorem tk_c_L_reel : ∀ w ∈ wk_c_L_reel, w ∈ lw_tbl := List.forall_mem_cons.mpr ⟨tw_606, (List.forall_mem_append.mpr ⟨(tk_own_c_L_reel), (List.forall_mem_append.mpr ⟨(List.forall_mem_cons.mpr ⟨tw_603, (List.forall_mem_cons.mpr ⟨tw_604, (List.forall_mem_cons.mpr ⟨tw_605, (List.forall_mem_cons.mpr ⟨tw_24, (fun _ h => absurd h List.not_mem_nil)⟩)⟩)⟩)⟩), tk_c_X6_reel⟩)⟩)⟩
theorem tk_own_c_Jxa1e45_init_da8c8 : ∀ w ∈ wo_c_Jxa1e45_init_da8c8, w ∈ lw_tbl := (List.forall_mem_cons.mpr ⟨tw_232, (List.forall_mem_cons.mpr ⟨tw_233, (List.forall_mem_cons.mpr ⟨tw_234, (fun _ h => absurd h List.not_mem_nil)⟩)⟩)⟩)
theorem tk_c_Jxa1e45_init_da8c8 : ∀ w ∈ wk_c_Jxa1e45_init_da8c8, w ∈ lw_tbl := List.forall_mem_cons.mpr ⟨tw_235, (tk_own_c_Jxa1e45_init_da8c8)⟩
theorem tk_own_c_Jxc12de_init_da8c8 : ∀ w ∈ wo_c_Jxc12de_init_da8c8, w ∈ lw_tbl := (List.forall_mem_cons.mpr ⟨tw_236, (List.forall_mem_cons.mpr ⟨tw_237, (List.forall_mem_cons.mpr ⟨tw_238, (List.forall_mem_cons.mpr ⟨tw_239, (fun _ h => absurd h List.not_mem_nil)⟩)⟩)⟩)⟩)
theorem tk_c_Jxc12de_init_da8c8 : ∀ w ∈ wk_c_Jxc12de_init_da8c8, w ∈ lw_tbl := List.forall_mem_cons.mpr ⟨tw_240, (List.forall_mem_append.mpr ⟨(tk_own_c_Jxc12de_init_da8c8), (List.forall_mem_append.mpr ⟨tk_c_Jxa1e45_init_da8c8, tl_Jx4a65c⟩)⟩)⟩
theorem tk_own_c_Jx4a65c_init_da8c8 : ∀ w ∈ wo_c_Jx4a65c_init_da8c8, w ∈ lw_tbl := (List.forall_mem_cons.mpr ⟨tw_241, (List.forall_mem_cons.mpr ⟨tw_242, (List.forall_mem_cons.mpr ⟨tw_243, (List.forall_mem_cons.mpr ⟨tw_244, (List.forall_mem_cons.mpr ⟨tw_245, (fun _ h => absurd h List.not_mem_nil)⟩)⟩)⟩)⟩)⟩)
theorem tk_c_Jx4a65c_init_da8c8 : ∀ w ∈ wk_c_Jx4a65c_init_da8c8, w ∈ lw_tbl := List.forall_mem_cons.mpr ⟨tw_246, (List.forall_mem_append.mpr ⟨(tk_own_c_Jx4a65c_init_da8c8), (List.forall_mem_append.mpr ⟨tk_c_Jxc12de_init_da8c8, tl_Jx4a65c⟩)⟩)⟩
theorem tk_own_c_grow1 : ∀ w ∈ wo_c_grow1, w ∈ lw_tbl := (List.forall_mem_cons.mpr ⟨tw_245, (List.forall_mem_cons.mpr ⟨tw_244, (List.forall_mem_cons.mpr ⟨tw_303, (List.forall_mem_cons.mpr ⟨tw_224, (List.forall_mem_cons.mpr ⟨tw_225, (List.forall_mem_cons.mpr ⟨tw_226, (List.forall_mem_cons.mpr ⟨tw_304, (fun _ h => absurd h List.not_mem_nil)⟩)⟩)⟩)⟩)⟩)⟩)⟩)
theorem tk_c_grow1 : ∀ w ∈ wk_c_grow1, w ∈ lw_tbl := List.forall_mem_cons.mpr ⟨tw_305, (List.forall_mem_append.mpr ⟨(tk_own_c_grow1), tl_Jx4a65c⟩)⟩
theorem tk_own_c_grow0 : ∀ w ∈ wo_c_grow0, w ∈ lw_tbl := (List.forall_mem_cons.mpr ⟨tw_118, (fun _ h => absurd h List.not_mem_nil)⟩)
theorem tk_c_grow0 : ∀ w ∈ wk_c_grow0, w ∈ lw_tbl := List.forall_mem_cons.mpr ⟨tw_309, (List.forall_mem_append.mpr ⟨(tk_own_c_grow0), (List.forall_mem_append.mpr ⟨tl_Jx4a65c, (List.forall_mem_append.mpr ⟨(List.forall_mem_cons.mpr ⟨tw_306, (List.forall_mem_cons.mpr ⟨tw_307, (List.forall_mem_cons.mpr ⟨tw_308, (List.forall_mem_cons.mpr ⟨tw_124, (fun _ h => absurd h List.not_mem_nil)⟩)⟩)⟩)⟩), tk_c_grow1⟩)⟩)⟩)⟩
theorem tk_own_c_add3_L : ∀ w ∈ wo_c_add3_L, w ∈ lw_tbl := (List.forall_mem_cons.mpr ⟨tw_118, (fun _ h => absurd h List.not_mem_nil)⟩)
theorem tk_c_add3_L : ∀ w ∈ wk_c_add3_L, w ∈ lw_tbl := List.forall_mem_cons.mpr ⟨tw_313, (List.forall_mem_append.mpr ⟨(tk_own_c_add3_L), (List.forall_mem_append.mpr ⟨(List.forall_mem_append.mpr ⟨(List.forall_mem_cons.mpr ⟨tw_310, (List.forall_mem_cons.mpr ⟨tw_311, (List.forall_mem_cons.mpr ⟨tw_312, (List.forall_mem_cons.mpr ⟨tw_124, (fun _ h => absurd h List.not_mem_nil)⟩)⟩)⟩)⟩), tk_c_grow0⟩), tl_Jx4a65c⟩)⟩)⟩
theorem tk_own_c_add_L : ∀ w ∈ wo_c_add_L, w ∈ lw_tbl := (List.forall_mem_cons.mpr ⟨tw_291, (List.forall_mem_cons.mpr ⟨tw_317, (List.forall_mem_cons.mpr ⟨tw_245, (List.forall_mem_cons.mpr ⟨tw_118, (fun _ h => absurd h List.not_mem_nil)⟩)⟩)⟩)⟩)
theorem tk_c_add_L : ∀ w ∈ wk_c_add_L, w ∈ lw_tbl := List.forall_mem_cons.mpr ⟨tw_318, (List.forall_mem_append.mpr ⟨(tk_own_c_add_L), (List.forall_mem_append.mpr ⟨tl_Jx4a65c, (List.forall_mem_append.mpr ⟨(List.forall_mem_cons.mpr ⟨tw_314, (List.forall_mem_cons.mpr ⟨tw_315, (List.forall_mem_cons.mpr ⟨tw_316, (List.forall_mem_cons.mpr ⟨tw_124, (fun _ h => absurd h List.not_mem_nil)⟩)⟩)⟩)⟩), tk_c_add3_L⟩)⟩)⟩)⟩
theorem tk_own_c_X11_reel : ∀ w ∈ wo_c_X11_reel, w ∈ lw_tbl := (List.forall_mem_cons.mpr ⟨tw_128, (List.forall_mem_cons.mpr ⟨tw_129, (List.forall_mem_cons.mpr ⟨tw_280, (List.forall_mem_cons.mpr ⟨tw_281, (List.forall_mem_cons.mpr ⟨tw_124, (List.forall_mem_cons.mpr ⟨tw_282, (List.forall_mem_cons.mpr ⟨tw_283, (fun _ h => absurd h List.not_mem_nil)⟩)⟩)⟩)⟩)⟩)⟩)⟩)
theorem tk_c_X11_reel : ∀ w ∈ wk_c_X11_reel, w ∈ lw_tbl := List.forall_mem_cons.mpr ⟨tw_346, (List.forall_mem_append.mpr ⟨(tk_own_c_X11_reel), (List.forall_mem_append.mpr ⟨tl_X11, (List.forall_mem_append.mpr ⟨(List.forall_mem_append.mpr ⟨(List.forall_mem_cons.mpr ⟨tw_121, (List.forall_mem_cons.mpr ⟨tw_122, (List.forall_mem_cons.mpr ⟨tw_123, (List.forall_mem_cons.mpr ⟨tw_124, (fun _ h => absurd h List.not_mem_nil)⟩)⟩)⟩)⟩), tk_c_size⟩), (List.forall_mem_append.mpr ⟨tl_Jx4a65c, (List.forall_mem_append.mpr ⟨tk_c_Jx4a65c_init_da8c8, (List.forall_mem_append.mpr ⟨(List.forall_mem_cons.mpr ⟨tw_322, (List.forall_mem_cons.mpr ⟨tw_323, (List.forall_mem_cons.mpr ⟨tw_324, (List.forall_mem_cons.mpr ⟨tw_124, (fun _ h => absurd h List.not_mem_nil)⟩)⟩)⟩)⟩), tk_c_add_L⟩)⟩)⟩)⟩)⟩)⟩)⟩
theorem tk_own_c_X6_needPieceRoom : ∀ w ∈ wo_c_X6_needPieceRoom, w ∈ lw_tbl := (List.forall_mem_cons.mpr ⟨tw_14, (fun _ h => absurd h List.not_mem_nil)⟩)
theorem tk_c_X6_needPieceRoom : ∀ w ∈ wk_c_X6_needPieceRoom, w ∈ lw_tbl := List.forall_mem_cons.mpr ⟨tw_395, (List.forall_mem_append.mpr ⟨(tk_own_c_X6_needPieceRoom), tl_X6⟩)⟩
theorem tk_own_c_X2_init : ∀ w ∈ wo_c_X2_init, w ∈ lw_tbl := (List.forall_mem_cons.mpr ⟨tw_371, (List.forall_mem_cons.mpr ⟨tw_233, (List.forall_mem_cons.mpr ⟨tw_234, (List.forall_mem_cons.mpr ⟨tw_372, (List.forall_mem_cons.mpr ⟨tw_373, (List.forall_mem_cons.mpr ⟨tw_374, (List.forall_mem_cons.mpr ⟨tw_375, (List.forall_mem_cons.mpr ⟨tw_376, (List.forall_mem_cons.mpr ⟨tw_377, (List.forall_mem_cons.mpr ⟨tw_203, (List.forall_mem_cons.mpr ⟨tw_378, (List.forall_mem_cons.mpr ⟨tw_379, (fun _ h => absurd h List.not_mem_nil)⟩)⟩)⟩)⟩)⟩)⟩)⟩)⟩)⟩)⟩)⟩)⟩)
theorem tk_c_X2_init : ∀ w ∈ wk_c_X2_init, w ∈ lw_tbl := List.forall_mem_cons.mpr ⟨tw_380, (List.forall_mem_append.mpr ⟨(tk_own_c_X2_init), tl_X2⟩)⟩
theorem tk_own_c_X2_workedOut : ∀ w ∈ wo_c_X2_workedOut, w ∈ lw_tbl := (List.forall_mem_cons.mpr ⟨tw_372, (fun _ h => absurd h List.not_mem_nil)⟩)
theorem tk_c_X2_workedOut : ∀ w ∈ wk_c_X2_workedOut, w ∈ lw_tbl := List.forall_mem_cons.mpr ⟨tw_381, (List.forall_mem_append.mpr ⟨(tk_own_c_X2_workedOut), tl_X2⟩)⟩
theorem tk_own_c_X2_widthOf_0 : ∀ w ∈ wo_c_X2_widthOf_0, w ∈ lw_tbl := (List.forall_mem_cons.mpr ⟨tw_363, (List.forall_mem_cons.mpr ⟨tw_364, (List.forall_mem_cons.mpr ⟨tw_225, (List.forall_mem_cons.mpr ⟨tw_365, (fun _ h => absurd h List.not_mem_nil)⟩)⟩)⟩)⟩)
theorem tk_c_X2_widthOf_0 : ∀ w ∈ wk_c_X2_widthOf_0, w ∈ lw_tbl := List.forall_mem_cons.mpr ⟨tw_366, (tk_own_c_X2_widthOf_0)⟩
theorem tk_own_c_X2_fill : ∀ w ∈ wo_c_X2_fill, w ∈ lw_tbl := (List.forall_mem_cons.mpr ⟨tw_378, (List.forall_mem_cons.mpr ⟨tw_379, (List.forall_mem_cons.mpr ⟨tw_389, (fun _ h => absurd h List.not_mem_nil)⟩)⟩)⟩)
theorem tk_c_X2_fill : ∀ w ∈ wk_c_X2_fill, w ∈ lw_tbl := List.forall_mem_cons.mpr ⟨tw_390, (List.forall_mem_append.mpr ⟨(tk_own_c_X2_fill), (List.forall_mem_append.mpr ⟨tl_X2, (List.forall_mem_append.mpr ⟨(List.forall_mem_append.mpr ⟨(List.forall_mem_cons.mpr ⟨tw_382, (List.forall_mem_cons.mpr ⟨tw_383, (List.forall_mem_cons.mpr ⟨tw_384, (List.forall_mem_cons.mpr ⟨tw_385, (fun _ h => absurd h List.not_mem_nil)⟩)⟩)⟩)⟩), tk_c_X2_workedOut⟩), (List.forall_mem_append.mpr ⟨(List.forall_mem_cons.mpr ⟨tw_386, (List.forall_mem_cons.mpr ⟨tw_387, (List.forall_mem_cons.mpr ⟨tw_388, (fun _ h => absurd h List.not_mem_nil)⟩)⟩)⟩), tk_c_X2_widthOf_0⟩)⟩)⟩)⟩)⟩
theorem tk_own_c_X6_keep : ∀ w ∈ wo_c_X6_keep, w ∈ lw_tbl := (List.forall_mem_cons.mpr ⟨tw_266, (List.forall_mem_cons.mpr ⟨tw_14, (fun _ h => absurd h List.not_mem_nil)⟩)⟩)
theorem tk_c_X6_keep : ∀ w ∈ wk_c_X6_keep, w ∈ lw_tbl := List.forall_mem_cons.mpr ⟨tw_394, (List.forall_mem_append.mpr ⟨(tk_own_c_X6_keep), (List.forall_mem_append.mpr ⟨(List.forall_mem_append.mpr ⟨(List.forall_mem_cons.mpr ⟨tw_391, (List.forall_mem_cons.mpr ⟨tw_392, (List.forall_mem_cons.mpr ⟨tw_393, (List.forall_mem_cons.mpr ⟨tw_385, (fun _ h => absurd h List.not_mem_nil)⟩)⟩)⟩)⟩), tk_c_X2_fill⟩), tl_X6⟩)⟩)⟩
theorem tk_own_c_X6_silence : ∀ w ∈ wo_c_X6_silence, w ∈ lw_tbl := (List.forall_mem_cons.mpr ⟨tw_402, (List.forall_mem_cons.mpr ⟨tw_403, (List.forall_mem_cons.mpr ⟨tw_385, (List.forall_mem_cons.mpr ⟨tw_404, (List.forall_mem_cons.mpr ⟨tw_405, (fun _ h => absurd h List.not_mem_nil)⟩)⟩)⟩)⟩)⟩)
theorem tk_c_X6_silence : ∀ w ∈ wk_c_X6_silence, w ∈ lw_tbl := List.forall_mem_cons.mpr ⟨tw_356, (List.forall_mem_append.mpr ⟨(tk_own_c_X6_silence), (List.forall_mem_append.mpr ⟨(List.forall_mem_append.mpr ⟨(List.forall_mem_cons.mpr ⟨tw_84, (List.forall_mem_cons.mpr ⟨tw_85, (List.forall_mem_cons.mpr ⟨tw_86, (fun _ h => absurd h List.not_mem_nil)⟩)⟩)⟩), tk_c_X6_needRange_ok⟩), (List.forall_mem_append.mpr ⟨(List.forall_mem_append.mpr ⟨(List.forall_mem_cons.mpr ⟨tw_396, (List.forall_mem_cons.mpr ⟨tw_397, (List.forall_mem_cons.mpr ⟨tw_398, (List.forall_mem_cons.mpr ⟨tw_24, (fun _ h => absurd h List.not_mem_nil)⟩)⟩)⟩)⟩), tk_c_X6_needPieceRoom⟩), (List.forall_mem_append.mpr ⟨tl_X2, (List.forall_mem_append.mpr ⟨tk_c_X2_init, (List.forall_mem_append.mpr ⟨(List.forall_mem_cons.mpr ⟨tw_399, (List.forall_mem_cons.mpr ⟨tw_400, (List.forall_mem_cons.mpr ⟨tw_401, (List.forall_mem_cons.mpr ⟨tw_24, (fun _ h => absurd h List.not_mem_nil)⟩)⟩)⟩)⟩), tk_c_X6_keep⟩)⟩)⟩)⟩)⟩)⟩)⟩
theorem tk_own_c_L_silence : ∀ w ∈ wo_c_L_silence, w ∈ lw_tbl := (fun _ h => absurd h List.not_mem_nil)
theorem tk_c_L_silence : ∀ w ∈ wk_c_L_silence, w ∈ lw_tbl := List.forall_mem_cons.mpr ⟨tw_610, (List.forall_mem_append.mpr ⟨(tk_own_c_L_silence), (List.forall_mem_append.mpr ⟨(List.forall_mem_cons.mpr ⟨tw_607, (List.forall_mem_cons.mpr ⟨tw_608, (List.forall_mem_cons.mpr ⟨tw_609, (List.forall_mem_cons.mpr ⟨tw_24, (fun _ h => absurd h List.not_mem_nil)⟩)⟩)⟩)⟩), tk_c_X6_silence⟩)⟩)⟩
theorem tk_own_c_X9_init : ∀ w ∈ wo_c_X9_init, w ∈ lw_tbl := (List.forall_mem_cons.mpr ⟨tw_406, (List.forall_mem_cons.mpr ⟨tw_233, (List.forall_mem_cons.mpr ⟨tw_234, (List.forall_mem_cons.mpr ⟨tw_407, (List.forall_mem_cons.mpr ⟨tw_408, (fun _ h => absurd h List.not_mem_nil)⟩)⟩)⟩)⟩)⟩)
theorem tk_c_X9_init : ∀ w ∈ wk_c_X9_init, w ∈ lw_tbl := List.forall_mem_cons.mpr ⟨tw_409, (List.forall_mem_append.mpr ⟨(tk_own_c_X9_init), tl_X9⟩)⟩
theorem tk_own_c_add3_P : ∀ w ∈ wo_c_add3_P, w ∈ lw_tbl := (List.forall_mem_cons.mpr ⟨tw_118, (fun _ h => absurd h List.not_mem_nil)⟩)
theorem tk_c_add3_P : ∀ w ∈ wk_c_add3_P, w ∈ lw_tbl := List.forall_mem_cons.mpr ⟨tw_313, (List.forall_mem_append.mpr ⟨(tk_own_c_add3_P), (List.forall_mem_append.mpr ⟨(List.forall_mem_append.mpr ⟨(List.forall_mem_cons.mpr ⟨tw_310, (List.forall_mem_cons.mpr ⟨tw_311, (List.forall_mem_cons.mpr ⟨tw_312, (List.forall_mem_cons.mpr ⟨tw_124, (fun _ h => absurd h List.not_mem_nil)⟩)⟩)⟩)⟩), tk_c_grow0⟩), tl_Jx4a65c⟩)⟩)⟩
theorem tk_own_c_add_P : ∀ w ∈ wo_c_add_P, w ∈ lw_tbl := (List.forall_mem_cons.mpr ⟨tw_291, (List.forall_mem_cons.mpr ⟨tw_317, (List.forall_mem_cons.mpr ⟨tw_245, (List.forall_mem_cons.mpr ⟨tw_118, (fun _ h => absurd h List.not_mem_nil)⟩)⟩)⟩)⟩)
theorem tk_c_add_P : ∀ w ∈ wk_c_add_P, w ∈ lw_tbl := List.forall_mem_cons.mpr ⟨tw_318, (List.forall_mem_append.mpr ⟨(tk_own_c_add_P), (List.forall_mem_append.mpr ⟨tl_Jx4a65c, (List.forall_mem_append.mpr ⟨(List.forall_mem_cons.mpr ⟨tw_314, (List.forall_mem_cons.mpr ⟨tw_315, (List.forall_mem_cons.mpr ⟨tw_316, (List.forall_mem_cons.mpr ⟨tw_124, (fun _ h => absurd h List.not_mem_nil)⟩)⟩)⟩)⟩), tk_c_add3_P⟩)⟩)⟩)⟩
theorem tk_own_c_X11_held_0 : ∀ w ∈ wo_c_X11_held_0, w ∈ lw_tbl := (List.forall_mem_cons.mpr ⟨tw_367, (List.forall_mem_cons.mpr ⟨tw_368, (List.forall_mem_cons.mpr ⟨tw_225, (List.forall_mem_cons.mpr ⟨tw_369, (List.forall_mem_cons.mpr ⟨tw_223, (List.forall_mem_cons.mpr ⟨tw_224, (List.forall_mem_cons.mpr ⟨tw_226, (fun _ h => absurd h List.not_mem_nil)⟩)⟩)⟩)⟩)⟩)⟩)⟩)
theorem tk_c_X11_held_0 : ∀ w ∈ wk_c_X11_held_0, w ∈ lw_tbl := List.forall_mem_cons.mpr ⟨tw_370, (tk_own_c_X11_held_0)⟩
theorem tk_own_c_X11_adds : ∀ w ∈ wo_c_X11_adds, w ∈ lw_tbl := (List.forall_mem_cons.mpr ⟨tw_129, (List.forall_mem_cons.mpr ⟨tw_131, (List.forall_mem_cons.mpr ⟨tw_413, (List.forall_mem_cons.mpr ⟨tw_414, (List.forall_mem_cons.mpr ⟨tw_415, (List.forall_mem_cons.mpr ⟨tw_416, (List.forall_mem_cons.mpr ⟨tw_417, (fun _ h => absurd h List.not_mem_nil)⟩)⟩)⟩)⟩)⟩)⟩)⟩)
theorem tk_c_X11_adds : ∀ w ∈ wk_c_X11_adds, w ∈ lw_tbl := List.forall_mem_cons.mpr ⟨tw_357, (List.forall_mem_append.mpr ⟨(tk_own_c_X11_adds), (List.forall_mem_append.mpr ⟨tl_X11, (List.forall_mem_append.mpr ⟨(List.forall_mem_append.mpr ⟨(List.forall_mem_cons.mpr ⟨tw_121, (List.forall_mem_cons.mpr ⟨tw_122, (List.forall_mem_cons.mpr ⟨tw_123, (List.forall_mem_cons.mpr ⟨tw_124, (fun _ h => absurd h List.not_mem_nil)⟩)⟩)⟩)⟩), tk_c_size⟩), (List.forall_mem_append.mpr ⟨tl_X9, (List.forall_mem_append.mpr ⟨tk_c_X9_init, (List.forall_mem_append.mpr ⟨(List.forall_mem_append.mpr ⟨(List.forall_mem_cons.mpr ⟨tw_322, (List.forall_mem_cons.mpr ⟨tw_323, (List.forall_mem_cons.mpr ⟨tw_324, (List.forall_mem_cons.mpr ⟨tw_124, (fun _ h => absurd h List.not_mem_nil)⟩)⟩)⟩)⟩), tk_c_add_P⟩), (List.forall_mem_append.mpr ⟨(List.forall_mem_cons.mpr ⟨tw_410, (List.forall_mem_cons.mpr ⟨tw_411, (List.forall_mem_cons.mpr ⟨tw_412, (fun _ h => absurd h List.not_mem_nil)⟩)⟩)⟩), tk_c_X11_held_0⟩)⟩)⟩)⟩)⟩)⟩)⟩)⟩
theorem tk_own_c_X11_silence : ∀ w ∈ wo_c_X11_silence, w ∈ lw_tbl := (List.forall_mem_cons.mpr ⟨tw_361, (List.forall_mem_cons.mpr ⟨tw_129, (List.forall_mem_cons.mpr ⟨tw_203, (fun _ h => absurd h List.not_mem_nil)⟩)⟩)⟩)
theorem tk_c_X11_silence : ∀ w ∈ wk_c_X11_silence, w ∈ lw_tbl := List.forall_mem_cons.mpr ⟨tw_362, (List.forall_mem_append.mpr ⟨(tk_own_c_X11_silence), (List.forall_mem_append.mpr ⟨(List.forall_mem_append.mpr ⟨(List.forall_mem_cons.mpr ⟨tw_125, (List.forall_mem_cons.mpr ⟨tw_126, (List.forall_mem_cons.mpr ⟨tw_127, (fun _ h => absurd h List.not_mem_nil)⟩)⟩)⟩), tk_c_X11_in_t⟩), (List.forall_mem_append.mpr ⟨tl_X11, (List.forall_mem_append.mpr ⟨(List.forall_mem_cons.mpr ⟨tw_358, (List.forall_mem_cons.mpr ⟨tw_359, (List.forall_mem_cons.mpr ⟨tw_360, (List.forall_mem_cons.mpr ⟨tw_142, (fun _ h => absurd h List.not_mem_nil)⟩)⟩)⟩)⟩), tk_c_X11_adds⟩)⟩)⟩)⟩)⟩
theorem tk_own_c_X6_silence_bad : ∀ w ∈ wo_c_X6_silence_bad, w ∈ lw_tbl := (fun _ h => absurd h List.not_mem_nil)
theorem tk_c_X6_silence_bad : ∀ w ∈ wk_c_X6_silence_bad, w ∈ lw_tbl := List.forall_mem_cons.mpr ⟨tw_356, (List.forall_mem_append.mpr ⟨(tk_own_c_X6_silence_bad), (List.forall_mem_append.mpr ⟨(List.forall_mem_cons.mpr ⟨tw_84, (List.forall_mem_cons.mpr ⟨tw_85, (List.forall_mem_cons.mpr ⟨tw_86, (fun _ h => absurd h List.not_mem_nil)⟩)⟩)⟩), tk_c_X6_needRange_bad⟩)⟩)⟩
theorem tk_own_c_L_silence_bad : ∀ w ∈ wo_c_L_silence_bad, w ∈ lw_tbl := (List.forall_mem_cons.mpr ⟨tw_585, (fun _ h => absurd h List.not_mem_nil)⟩)
theorem tk_c_L_silence_bad : ∀ w ∈ wk_c_L_silence_bad, w ∈ lw_tbl := List.forall_mem_cons.mpr ⟨tw_610, (List.forall_mem_append.mpr ⟨(tk_own_c_L_silence_bad), (List.forall_mem_append.mpr ⟨(List.forall_mem_cons.mpr ⟨tw_607, (List.forall_mem_cons.mpr ⟨tw_608, (List.forall_mem_cons.mpr ⟨tw_609, (List.forall_mem_cons.mpr ⟨tw_24, (fun _ h => absurd h List.not_mem_nil)⟩)⟩)⟩)⟩), tk_c_X6_silence_bad⟩)⟩)⟩
theorem tk_own_c_X11_adds_bad : ∀ w ∈ wo_c_X11_adds_bad, w ∈ lw_tbl := (List.forall_mem_cons.mpr ⟨tw_129, (fun _ h => absurd h List.not_mem_nil)⟩)
theorem tk_c_X11_adds_bad : ∀ w ∈ wk_c_X11_adds_bad, w ∈ lw_tbl := List.forall_mem_cons.mpr ⟨tw_357, (List.forall_mem_append.mpr ⟨(tk_own_c_X11_adds_bad), tl_X11⟩)⟩
theorem tk_own_c_X11_silence_bad : ∀ w ∈ wo_c_X11_silence_bad, w ∈ lw_tbl := (List.forall_mem_cons.mpr ⟨tw_361, (List.forall_mem_cons.mpr ⟨tw_129, (List.forall_mem_cons.mpr ⟨tw_203, (fun _ h => absurd h List.not_mem_nil)⟩)⟩)⟩)
theorem tk_c_X11_silence_bad : ∀ w ∈ wk_c_X11_silence_bad, w ∈ lw_tbl := List.forall_mem_cons.mpr ⟨tw_362, (List.forall_mem_append.mpr ⟨(tk_own_c_X11_silence_bad), (List.forall_mem_append.mpr ⟨(List.forall_mem_append.mpr ⟨(List.forall_mem_cons.mpr ⟨tw_125, (List.forall_mem_cons.mpr ⟨tw_126, (List.forall_mem_cons.mpr ⟨tw_127, (fun _ h => absurd h List.not_mem_nil)⟩)⟩)⟩), tk_c_X11_in_f⟩), (List.forall_mem_append.mpr ⟨tl_X11, (List.forall_mem_append.mpr ⟨(List.forall_mem_cons.mpr ⟨tw_358, (List.forall_mem_cons.mpr ⟨tw_359, (List.forall_mem_cons.mpr ⟨tw_360, (List.forall_mem_cons.mpr ⟨tw_142, (fun _ h => absurd h List.not_mem_nil)⟩)⟩)⟩)⟩), tk_c_X11_adds_bad⟩)⟩)⟩)⟩)⟩
theorem tk_own_c_X4_takeSides : ∀ w ∈ wo_c_X4_takeSides, w ∈ lw_tbl := (List.forall_mem_cons.mpr ⟨tw_82, (fun _ h => absurd h List.not_mem_nil)⟩)
theorem tk_c_X4_takeSides : ∀ w ∈ wk_c_X4_takeSides, w ∈ lw_tbl := List.forall_mem_cons.mpr ⟨tw_83, (List.forall_mem_append.mpr ⟨(tk_own_c_X4_takeSides), tl_X4⟩)⟩
theorem tk_own_c_X6_fittedSides : ∀ w ∈ wo_c_X6_fittedSides, w ∈ lw_tbl := (List.forall_mem_cons.mpr ⟨tw_91, (List.forall_mem_cons.mpr ⟨tw_18, (fun _ h => absurd h List.not_mem_nil)⟩)⟩)
theorem tk_c_X6_fittedSides : ∀ w ∈ wk_c_X6_fittedSides, w ∈ lw_tbl := List.forall_mem_cons.mpr ⟨tw_92, (List.forall_mem_append.mpr ⟨(tk_own_c_X6_fittedSides), (List.forall_mem_append.mpr ⟨(List.forall_mem_append.mpr ⟨(List.forall_mem_cons.mpr ⟨tw_84, (List.forall_mem_cons.mpr ⟨tw_85, (List.forall_mem_cons.mpr ⟨tw_86, (fun _ h => absurd h List.not_mem_nil)⟩)⟩)⟩), tk_c_X6_needRange_ok⟩), (List.forall_mem_append.mpr ⟨tl_X6, (List.forall_mem_append.mpr ⟨(List.forall_mem_cons.mpr ⟨tw_87, (List.forall_mem_cons.mpr ⟨tw_88, (List.forall_mem_cons.mpr ⟨tw_89, (List.forall_mem_cons.mpr ⟨tw_90, (fun _ h => absurd h List.not_mem_nil)⟩)⟩)⟩)⟩), tk_c_X4_takeSides⟩)⟩)⟩)⟩)⟩
theorem tk_own_c_X6_sides : ∀ w ∈ wo_c_X6_sides, w ∈ lw_tbl := (fun _ h => absurd h List.not_mem_nil)
theorem tk_c_X6_sides : ∀ w ∈ wk_c_X6_sides, w ∈ lw_tbl := List.forall_mem_cons.mpr ⟨tw_96, (List.forall_mem_append.mpr ⟨(tk_own_c_X6_sides), (List.forall_mem_append.mpr ⟨(List.forall_mem_cons.mpr ⟨tw_93, (List.forall_mem_cons.mpr ⟨tw_94, (List.forall_mem_cons.mpr ⟨tw_95, (List.forall_mem_cons.mpr ⟨tw_24, (fun _ h => absurd h List.not_mem_nil)⟩)⟩)⟩)⟩), tk_c_X6_fittedSides⟩)⟩)⟩
theorem tk_own_c_L_sides : ∀ w ∈ wo_c_L_sides, w ∈ lw_tbl := (fun _ h => absurd h List.not_mem_nil)
theorem tk_c_L_sides : ∀ w ∈ wk_c_L_sides, w ∈ lw_tbl := List.forall_mem_cons.mpr ⟨tw_584, (List.forall_mem_append.mpr ⟨(tk_own_c_L_sides), (List.forall_mem_append.mpr ⟨(List.forall_mem_cons.mpr ⟨tw_581, (List.forall_mem_cons.mpr ⟨tw_582, (List.forall_mem_cons.mpr ⟨tw_583, (List.forall_mem_cons.mpr ⟨tw_24, (fun _ h => absurd h List.not_mem_nil)⟩)⟩)⟩)⟩), tk_c_X6_sides⟩)⟩)⟩
theorem tk_own_c_valueOf0 : ∀ w ∈ wo_c_valueOf0, w ∈ lw_tbl := (List.forall_mem_cons.mpr ⟨tw_285, (List.forall_mem_cons.mpr ⟨tw_286, (fun _ h => absurd h List.not_mem_nil)⟩)⟩)
theorem tk_c_valueOf0 : ∀ w ∈ wk_c_valueOf0, w ∈ lw_tbl := List.forall_mem_cons.mpr ⟨tw_287, (tk_own_c_valueOf0)⟩
theorem tk_own_c_add3_I : ∀ w ∈ wo_c_add3_I, w ∈ lw_tbl := (List.forall_mem_cons.mpr ⟨tw_118, (fun _ h => absurd h List.not_mem_nil)⟩)
theorem tk_c_add3_I : ∀ w ∈ wk_c_add3_I, w ∈ lw_tbl := List.forall_mem_cons.mpr ⟨tw_313, (List.forall_mem_append.mpr ⟨(tk_own_c_add3_I), (List.forall_mem_append.mpr ⟨(List.forall_mem_append.mpr ⟨(List.forall_mem_cons.mpr ⟨tw_310, (List.forall_mem_cons.mpr ⟨tw_311, (List.forall_mem_cons.mpr ⟨tw_312, (List.forall_mem_cons.mpr ⟨tw_124, (fun _ h => absurd h List.not_mem_nil)⟩)⟩)⟩)⟩), tk_c_grow0⟩), tl_Jx4a65c⟩)⟩)⟩
theorem tk_own_c_add_I : ∀ w ∈ wo_c_add_I, w ∈ lw_tbl := (List.forall_mem_cons.mpr ⟨tw_291, (List.forall_mem_cons.mpr ⟨tw_317, (List.forall_mem_cons.mpr ⟨tw_245, (List.forall_mem_cons.mpr ⟨tw_118, (fun _ h => absurd h List.not_mem_nil)⟩)⟩)⟩)⟩)
theorem tk_c_add_I : ∀ w ∈ wk_c_add_I, w ∈ lw_tbl := List.forall_mem_cons.mpr ⟨tw_318, (List.forall_mem_append.mpr ⟨(tk_own_c_add_I), (List.forall_mem_append.mpr ⟨tl_Jx4a65c, (List.forall_mem_append.mpr ⟨(List.forall_mem_cons.mpr ⟨tw_314, (List.forall_mem_cons.mpr ⟨tw_315, (List.forall_mem_cons.mpr ⟨tw_316, (List.forall_mem_cons.mpr ⟨tw_124, (fun _ h => absurd h List.not_mem_nil)⟩)⟩)⟩)⟩), tk_c_add3_I⟩)⟩)⟩)⟩
theorem tk_own_c_X11_sidesOf : ∀ w ∈ wo_c_X11_sidesOf, w ∈ lw_tbl := (List.forall_mem_cons.mpr ⟨tw_280, (List.forall_mem_cons.mpr ⟨tw_281, (List.forall_mem_cons.mpr ⟨tw_124, (List.forall_mem_cons.mpr ⟨tw_282, (List.forall_mem_cons.mpr ⟨tw_283, (List.forall_mem_cons.mpr ⟨tw_133, (fun _ h => absurd h List.not_mem_nil)⟩)⟩)⟩)⟩)⟩)⟩)
theorem tk_c_X11_sidesOf : ∀ w ∈ wk_c_X11_sidesOf, w ∈ lw_tbl := List.forall_mem_cons.mpr ⟨tw_325, (List.forall_mem_append.mpr ⟨(tk_own_c_X11_sidesOf), (List.forall_mem_append.mpr ⟨tl_Jx4a65c, (List.forall_mem_append.mpr ⟨tk_c_Jx4a65c_init_da8c8, (List.forall_mem_append.mpr ⟨tl_X11, (List.forall_mem_append.mpr ⟨(List.forall_mem_append.mpr ⟨(List.forall_mem_cons.mpr ⟨tw_121, (List.forall_mem_cons.mpr ⟨tw_122, (List.forall_mem_cons.mpr ⟨tw_123, (List.forall_mem_cons.mpr ⟨tw_124, (fun _ h => absurd h List.not_mem_nil)⟩)⟩)⟩)⟩), tk_c_size⟩), (List.forall_mem_append.mpr ⟨(List.forall_mem_append.mpr ⟨(List.forall_mem_cons.mpr ⟨tw_319, (List.forall_mem_cons.mpr ⟨tw_320, (List.forall_mem_cons.mpr ⟨tw_321, (fun _ h => absurd h List.not_mem_nil)⟩)⟩)⟩), tk_c_valueOf0⟩), (List.forall_mem_append.mpr ⟨(List.forall_mem_cons.mpr ⟨tw_322, (List.forall_mem_cons.mpr ⟨tw_323, (List.forall_mem_cons.mpr ⟨tw_324, (List.forall_mem_cons.mpr ⟨tw_124, (fun _ h => absurd h List.not_mem_nil)⟩)⟩)⟩)⟩), tk_c_add_I⟩)⟩)⟩)⟩)⟩)⟩)⟩)⟩
theorem tk_own_c_X11_noSides : ∀ w ∈ wo_c_X11_noSides, w ∈ lw_tbl := (List.forall_mem_cons.mpr ⟨tw_329, (List.forall_mem_cons.mpr ⟨tw_129, (fun _ h => absurd h List.not_mem_nil)⟩)⟩)
theorem tk_c_X11_noSides : ∀ w ∈ wk_c_X11_noSides, w ∈ lw_tbl := List.forall_mem_cons.mpr ⟨tw_330, (List.forall_mem_append.mpr ⟨(tk_own_c_X11_noSides), (List.forall_mem_append.mpr ⟨(List.forall_mem_append.mpr ⟨(List.forall_mem_cons.mpr ⟨tw_125, (List.forall_mem_cons.mpr ⟨tw_126, (List.forall_mem_cons.mpr ⟨tw_127, (fun _ h => absurd h List.not_mem_nil)⟩)⟩)⟩), tk_c_X11_in_t⟩), (List.forall_mem_append.mpr ⟨(List.forall_mem_append.mpr ⟨(List.forall_mem_cons.mpr ⟨tw_326, (List.forall_mem_cons.mpr ⟨tw_327, (List.forall_mem_cons.mpr ⟨tw_328, (List.forall_mem_cons.mpr ⟨tw_142, (fun _ h => absurd h List.not_mem_nil)⟩)⟩)⟩)⟩), tk_c_X11_sidesOf⟩), tl_X11⟩)⟩)⟩)⟩
theorem tk_own_c_X11_sides : ∀ w ∈ wo_c_X11_sides, w ∈ lw_tbl := (fun _ h => absurd h List.not_mem_nil)
theorem tk_c_X11_sides : ∀ w ∈ wk_c_X11_sides, w ∈ lw_tbl := List.forall_mem_cons.mpr ⟨tw_334, (List.forall_mem_append.mpr ⟨(tk_own_c_X11_sides), (List.forall_mem_append.mpr ⟨(List.forall_mem_append.mpr ⟨(List.forall_mem_cons.mpr ⟨tw_331, (List.forall_mem_cons.mpr ⟨tw_332, (List.forall_mem_cons.mpr ⟨tw_333, (List.forall_mem_cons.mpr ⟨tw_142, (fun _ h => absurd h List.not_mem_nil)⟩)⟩)⟩)⟩), tk_c_X11_noSides⟩), (List.forall_mem_append.mpr ⟨(List.forall_mem_append.mpr ⟨(List.forall_mem_cons.mpr ⟨tw_326, (List.forall_mem_cons.mpr ⟨tw_327, (List.forall_mem_cons.mpr ⟨tw_328, (List.forall_mem_cons.mpr ⟨tw_142, (fun _ h => absurd h List.not_mem_nil)⟩)⟩)⟩)⟩), tk_c_X11_sidesOf⟩), (List.forall_mem_append.mpr ⟨(List.forall_mem_cons.mpr ⟨tw_121, (List.forall_mem_cons.mpr ⟨tw_122, (List.forall_mem_cons.mpr ⟨tw_123, (List.forall_mem_cons.mpr ⟨tw_124, (fun _ h => absurd h List.not_mem_nil)⟩)⟩)⟩)⟩), tk_c_size⟩)⟩)⟩)⟩)⟩
theorem tk_own_c_X6_fittedSides_bad : ∀ w ∈ wo_c_X6_fittedSides_bad, w ∈ lw_tbl := (List.forall_mem_cons.mpr ⟨tw_91, (fun _ h => absurd h List.not_mem_nil)⟩)
theorem tk_c_X6_fittedSides_bad : ∀ w ∈ wk_c_X6_fittedSides_bad, w ∈ lw_tbl := List.forall_mem_cons.mpr ⟨tw_92, (List.forall_mem_append.mpr ⟨(tk_own_c_X6_fittedSides_bad), (List.forall_mem_append.mpr ⟨(List.forall_mem_cons.mpr ⟨tw_84, (List.forall_mem_cons.mpr ⟨tw_85, (List.forall_mem_cons.mpr ⟨tw_86, (fun _ h => absurd h List.not_mem_nil)⟩)⟩)⟩), tk_c_X6_needRange_bad⟩)⟩)⟩
theorem tk_own_c_X6_sides_bad : ∀ w ∈ wo_c_X6_sides_bad, w ∈ lw_tbl := (fun _ h => absurd h List.not_mem_nil)
theorem tk_c_X6_sides_bad : ∀ w ∈ wk_c_X6_sides_bad, w ∈ lw_tbl := List.forall_mem_cons.mpr ⟨tw_96, (List.forall_mem_append.mpr ⟨(tk_own_c_X6_sides_bad), (List.forall_mem_append.mpr ⟨(List.forall_mem_cons.mpr ⟨tw_93, (List.forall_mem_cons.mpr ⟨tw_94, (List.forall_mem_cons.mpr ⟨tw_95, (List.forall_mem_cons.mpr ⟨tw_24, (fun _ h => absurd h List.not_mem_nil)⟩)⟩)⟩)⟩), tk_c_X6_fittedSides_bad⟩)⟩)⟩
theorem tk_own_c_L_sides_bad : ∀ w ∈ wo_c_L_sides_bad, w ∈ lw_tbl := (List.forall_mem_cons.mpr ⟨tw_585, (fun _ h => absurd h List.not_mem_nil)⟩)
theorem tk_c_L_sides_bad : ∀ w ∈ wk_c_L_sides_bad, w ∈ lw_tbl := List.forall_mem_cons.mpr ⟨tw_584, (List.forall_mem_append.mpr ⟨(tk_own_c_L_sides_bad), (List.forall_mem_append.mpr ⟨(List.forall_mem_cons.mpr ⟨tw_581, (List.forall_mem_cons.mpr ⟨tw_582, (List.forall_mem_cons.mpr ⟨tw_583, (List.forall_mem_cons.mpr ⟨tw_24, (fun _ h => absurd h List.not_mem_nil)⟩)⟩)⟩)⟩), tk_c_X6_sides_bad⟩)⟩)⟩
theorem tk_own_c_X11_noSides_bad : ∀ w ∈ wo_c_X11_noSides_bad, w ∈ lw_tbl := (List.forall_mem_cons.mpr ⟨tw_329, (List.forall_mem_cons.mpr ⟨tw_129, (fun _ h => absurd h List.not_mem_nil)⟩)⟩)
theorem tk_c_X11_noSides_bad : ∀ w ∈ wk_c_X11_noSides_bad, w ∈ lw_tbl := List.forall_mem_cons.mpr ⟨tw_330, (List.forall_mem_append.mpr ⟨(tk_own_c_X11_noSides_bad), (List.forall_mem_append.mpr ⟨(List.forall_mem_append.mpr ⟨(List.forall_mem_cons.mpr ⟨tw_125, (List.forall_mem_cons.mpr ⟨tw_126, (List.forall_mem_cons.mpr ⟨tw_127, (fun _ h => absurd h List.not_mem_nil)⟩)⟩)⟩), tk_c_X11_in_f⟩), tl_X11⟩)⟩)⟩
theorem tk_own_c_X11_sides_bad : ∀ w ∈ wo_c_X11_sides_bad, w ∈ lw_tbl := (fun _ h => absurd h List.not_mem_nil)
theorem tk_c_X11_sides_bad : ∀ w ∈ wk_c_X11_sides_bad, w ∈ lw_tbl := List.forall_mem_cons.mpr ⟨tw_334, (List.forall_mem_append.mpr ⟨(tk_own_c_X11_sides_bad), (List.forall_mem_append.mpr ⟨(List.forall_mem_cons.mpr ⟨tw_331, (List.forall_mem_cons.mpr ⟨tw_332, (List.forall_mem_cons.mpr ⟨tw_333, (List.forall_mem_cons.mpr ⟨tw_142, (fun _ h => absurd h List.not_mem_nil)⟩)⟩)⟩)⟩), tk_c_X11_noSides_bad⟩)⟩)⟩
theorem tk_own_c_X6_engrave : ∀ w ∈ wo_c_X6_engrave, w ∈ lw_tbl := (fun _ h => absurd h List.not_mem_nil)
theorem tk_c_X6_engrave : ∀ w ∈ wk_c_X6_engrave, w ∈ lw_tbl := List.forall_mem_cons.mpr ⟨tw_97, (List.forall_mem_append.mpr ⟨(tk_own_c_X6_engrave), (List.forall_mem_append.mpr ⟨(List.forall_mem_append.mpr ⟨(List.forall_mem_cons.mpr ⟨tw_93, (List.forall_mem_cons.mpr ⟨tw_94, (List.forall_mem_cons.mpr ⟨tw_95, (List.forall_mem_cons.mpr ⟨tw_24, (fun _ h => absurd h List.not_mem_nil)⟩)⟩)⟩)⟩), tk_c_X6_fittedSides⟩), (List.forall_mem_append.mpr ⟨(List.forall_mem_cons.mpr ⟨tw_76, (List.forall_mem_cons.mpr ⟨tw_77, (List.forall_mem_cons.mpr ⟨tw_78, (fun _ h => absurd h List.not_mem_nil)⟩)⟩)⟩), tk_c_X6_needElement⟩)⟩)⟩)⟩
theorem tk_own_c_L_engrave : ∀ w ∈ wo_c_L_engrave, w ∈ lw_tbl := (List.forall_mem_cons.mpr ⟨tw_585, (List.forall_mem_cons.mpr ⟨tw_589, (List.forall_mem_cons.mpr ⟨tw_522, (fun _ h => absurd h List.not_mem_nil)⟩)⟩)⟩)
theorem tk_c_L_engrave : ∀ w ∈ wk_c_L_engrave, w ∈ lw_tbl := List.forall_mem_cons.mpr ⟨tw_590, (List.forall_mem_append.mpr ⟨(tk_own_c_L_engrave), (List.forall_mem_append.mpr ⟨(List.forall_mem_cons.mpr ⟨tw_586, (List.forall_mem_cons.mpr ⟨tw_587, (List.forall_mem_cons.mpr ⟨tw_588, (List.forall_mem_cons.mpr ⟨tw_24, (fun _ h => absurd h List.not_mem_nil)⟩)⟩)⟩)⟩), tk_c_X6_engrave⟩)⟩)⟩
theorem tk_own_c_X11_engrave : ∀ w ∈ wo_c_X11_engrave, w ∈ lw_tbl := (List.forall_mem_cons.mpr ⟨tw_129, (fun _ h => absurd h List.not_mem_nil)⟩)
theorem tk_c_X11_engrave : ∀ w ∈ wk_c_X11_engrave, w ∈ lw_tbl := List.forall_mem_cons.mpr ⟨tw_335, (List.forall_mem_append.mpr ⟨(tk_own_c_X11_engrave), (List.forall_mem_append.mpr ⟨(List.forall_mem_append.mpr ⟨(List.forall_mem_cons.mpr ⟨tw_331, (List.forall_mem_cons.mpr ⟨tw_332, (List.forall_mem_cons.mpr ⟨tw_333, (List.forall_mem_cons.mpr ⟨tw_142, (fun _ h => absurd h List.not_mem_nil)⟩)⟩)⟩)⟩), tk_c_X11_noSides⟩), (List.forall_mem_append.mpr ⟨(List.forall_mem_append.mpr ⟨(List.forall_mem_cons.mpr ⟨tw_326, (List.forall_mem_cons.mpr ⟨tw_327, (List.forall_mem_cons.mpr ⟨tw_328, (List.forall_mem_cons.mpr ⟨tw_142, (fun _ h => absurd h List.not_mem_nil)⟩)⟩)⟩)⟩), tk_c_X11_sidesOf⟩), (List.forall_mem_append.mpr ⟨(List.forall_mem_append.mpr ⟨(List.forall_mem_cons.mpr ⟨tw_121, (List.forall_mem_cons.mpr ⟨tw_122, (List.forall_mem_cons.mpr ⟨tw_123, (List.forall_mem_cons.mpr ⟨tw_124, (fun _ h => absurd h List.not_mem_nil)⟩)⟩)⟩)⟩), tk_c_size⟩), (List.forall_mem_append.mpr ⟨(List.forall_mem_append.mpr ⟨(List.forall_mem_cons.mpr ⟨tw_125, (List.forall_mem_cons.mpr ⟨tw_126, (List.forall_mem_cons.mpr ⟨tw_127, (fun _ h => absurd h List.not_mem_nil)⟩)⟩)⟩), tk_c_X11_in_f⟩), tl_X11⟩)⟩)⟩)⟩)⟩)⟩
theorem tk_own_c_X6_engrave_bad : ∀ w ∈ wo_c_X6_engrave_bad, w ∈ lw_tbl := (fun _ h => absurd h List.not_mem_nil)
theorem tk_c_X6_engrave_bad : ∀ w ∈ wk_c_X6_engrave_bad, w ∈ lw_tbl := List.forall_mem_cons.mpr ⟨tw_97, (List.forall_mem_append.mpr ⟨(tk_own_c_X6_engrave_bad), (List.forall_mem_append.mpr ⟨(List.forall_mem_cons.mpr ⟨tw_93, (List.forall_mem_cons.mpr ⟨tw_94, (List.forall_mem_cons.mpr ⟨tw_95, (List.forall_mem_cons.mpr ⟨tw_24, (fun _ h => absurd h List.not_mem_nil)⟩)⟩)⟩)⟩), tk_c_X6_fittedSides_bad⟩)⟩)⟩
theorem tk_own_c_L_engrave_bad : ∀ w ∈ wo_c_L_engrave_bad, w ∈ lw_tbl := (List.forall_mem_cons.mpr ⟨tw_585, (fun _ h => absurd h List.not_mem_nil)⟩)
theorem tk_c_L_engrave_bad : ∀ w ∈ wk_c_L_engrave_bad, w ∈ lw_tbl := List.forall_mem_cons.mpr ⟨tw_590, (List.forall_mem_append.mpr ⟨(tk_own_c_L_engrave_bad), (List.forall_mem_append.mpr ⟨(List.forall_mem_cons.mpr ⟨tw_586, (List.forall_mem_cons.mpr ⟨tw_587, (List.forall_mem_cons.mpr ⟨tw_588, (List.forall_mem_cons.mpr ⟨tw_24, (fun _ h => absurd h List.not_mem_nil)⟩)⟩)⟩)⟩), tk_c_X6_engrave_bad⟩)⟩)⟩
theorem tk_own_c_X11_engrave_bad : ∀ w ∈ wo_c_X11_engrave_bad, w ∈ lw_tbl := (fun _ h => absurd h List.not_mem_nil)
theorem tk_c_X11_engrave_bad : ∀ w ∈ wk_c_X11_engrave_bad, w ∈ lw_tbl := List.forall_mem_cons.mpr ⟨tw_335, (List.forall_mem_append.mpr ⟨(tk_own_c_X11_engrave_bad), (List.forall_mem_append.mpr ⟨(List.forall_mem_cons.mpr ⟨tw_331, (List.forall_mem_cons.mpr ⟨tw_332, (List.forall_mem_cons.mpr ⟨tw_333, (List.forall_mem_cons.mpr ⟨tw_142, (fun _ h => absurd h List.not_mem_nil)⟩)⟩)⟩)⟩), tk_c_X11_noSides_bad⟩)⟩)⟩
theorem tk_own_c_X6_shuffled : ∀ w ∈ wo_c_X6_shuffled, w ∈ lw_tbl := (List.forall_mem_cons.mpr ⟨tw_101, (List.forall_mem_cons.mpr ⟨tw_18, (List.forall_mem_cons.mpr ⟨tw_19, (fun _ h => absurd h List.not_mem_nil)⟩)⟩)⟩)
theorem tk_c_X6_shuffled : ∀ w ∈ wk_c_X6_shuffled, w ∈ lw_tbl := List.forall_mem_cons.mpr ⟨tw_102, (List.forall_mem_append.mpr ⟨(tk_own_c_X6_shuffled), (List.forall_mem_append.mpr ⟨(List.forall_mem_append.mpr ⟨(List.forall_mem_cons.mpr ⟨tw_84, (List.forall_mem_cons.mpr ⟨tw_85, (List.forall_mem_cons.mpr ⟨tw_86, (fun _ h => absurd h List.not_mem_nil)⟩)⟩)⟩), tk_c_X6_needRange_ok⟩), (List.forall_mem_append.mpr ⟨tl_X6, (List.forall_mem_append.mpr ⟨tl_X4, (List.forall_mem_append.mpr ⟨(List.forall_mem_cons.mpr ⟨tw_76, (List.forall_mem_cons.mpr ⟨tw_77, (List.forall_mem_cons.mpr ⟨tw_78, (fun _ h => absurd h List.not_mem_nil)⟩)⟩)⟩), tk_c_X6_needElement⟩)⟩)⟩)⟩)⟩)⟩
theorem tk_own_c_L_shuffled : ∀ w ∈ wo_c_L_shuffled, w ∈ lw_tbl := (List.forall_mem_cons.mpr ⟨tw_585, (List.forall_mem_cons.mpr ⟨tw_522, (fun _ h => absurd h List.not_mem_nil)⟩)⟩)
theorem tk_c_L_shuffled : ∀ w ∈ wk_c_L_shuffled, w ∈ lw_tbl := List.forall_mem_cons.mpr ⟨tw_598, (List.forall_mem_append.mpr ⟨(tk_own_c_L_shuffled), (List.forall_mem_append.mpr ⟨(List.forall_mem_cons.mpr ⟨tw_595, (List.forall_mem_cons.mpr ⟨tw_596, (List.forall_mem_cons.mpr ⟨tw_597, (List.forall_mem_cons.mpr ⟨tw_24, (fun _ h => absurd h List.not_mem_nil)⟩)⟩)⟩)⟩), tk_c_X6_shuffled⟩)⟩)⟩
theorem tk_own_c_Jx35411_init_45d68 : ∀ w ∈ wo_c_Jx35411_init_45d68, w ∈ lw_tbl := (List.forall_mem_cons.mpr ⟨tw_288, (List.forall_mem_cons.mpr ⟨tw_289, (List.forall_mem_cons.mpr ⟨tw_233, (List.forall_mem_cons.mpr ⟨tw_234, (List.forall_mem_cons.mpr ⟨tw_290, (List.forall_mem_cons.mpr ⟨tw_291, (List.forall_mem_cons.mpr ⟨tw_292, (List.forall_mem_cons.mpr ⟨tw_293, (fun _ h => absurd h List.not_mem_nil)⟩)⟩)⟩)⟩)⟩)⟩)⟩)⟩)
theorem tk_c_Jx35411_init_45d68 : ∀ w ∈ wk_c_Jx35411_init_45d68, w ∈ lw_tbl := List.forall_mem_cons.mpr ⟨tw_294, (List.forall_mem_append.mpr ⟨(tk_own_c_Jx35411_init_45d68), (List.forall_mem_append.mpr ⟨tl_Jx35411, tl_Jx4a65c⟩)⟩)⟩
theorem tk_own_c_iterator : ∀ w ∈ wo_c_iterator, w ∈ lw_tbl := (List.forall_mem_cons.mpr ⟨tw_295, (List.forall_mem_cons.mpr ⟨tw_296, (List.forall_mem_cons.mpr ⟨tw_297, (List.forall_mem_cons.mpr ⟨tw_298, (List.forall_mem_cons.mpr ⟨tw_299, (fun _ h => absurd h List.not_mem_nil)⟩)⟩)⟩)⟩)⟩)
theorem tk_c_iterator : ∀ w ∈ wk_c_iterator, w ∈ lw_tbl := List.forall_mem_cons.mpr ⟨tw_300, (List.forall_mem_append.mpr ⟨(tk_own_c_iterator), (List.forall_mem_append.mpr ⟨tl_Jx35411, tk_c_Jx35411_init_45d68⟩)⟩)⟩
theorem tk_own_c_hasNext : ∀ w ∈ wo_c_hasNext, w ∈ lw_tbl := (List.forall_mem_cons.mpr ⟨tw_301, (List.forall_mem_cons.mpr ⟨tw_288, (fun _ h => absurd h List.not_mem_nil)⟩)⟩)
theorem tk_c_hasNext : ∀ w ∈ wk_c_hasNext, w ∈ lw_tbl := List.forall_mem_cons.mpr ⟨tw_302, (List.forall_mem_append.mpr ⟨(tk_own_c_hasNext), (List.forall_mem_append.mpr ⟨tl_Jx35411, tl_Jx4a65c⟩)⟩)⟩
theorem tk_own_c_X11_shuffled : ∀ w ∈ wo_c_X11_shuffled, w ∈ lw_tbl := (List.forall_mem_cons.mpr ⟨tw_343, (List.forall_mem_cons.mpr ⟨tw_129, (List.forall_mem_cons.mpr ⟨tw_280, (List.forall_mem_cons.mpr ⟨tw_281, (List.forall_mem_cons.mpr ⟨tw_124, (List.forall_mem_cons.mpr ⟨tw_282, (List.forall_mem_cons.mpr ⟨tw_283, (List.forall_mem_cons.mpr ⟨tw_133, (fun _ h => absurd h List.not_mem_nil)⟩)⟩)⟩)⟩)⟩)⟩)⟩)⟩)
theorem tk_c_X11_shuffled : ∀ w ∈ wk_c_X11_shuffled, w ∈ lw_tbl := List.forall_mem_cons.mpr ⟨tw_344, (List.forall_mem_append.mpr ⟨(tk_own_c_X11_shuffled), (List.forall_mem_append.mpr ⟨(List.forall_mem_append.mpr ⟨(List.forall_mem_cons.mpr ⟨tw_125, (List.forall_mem_cons.mpr ⟨tw_126, (List.forall_mem_cons.mpr ⟨tw_127, (fun _ h => absurd h List.not_mem_nil)⟩)⟩)⟩), tk_c_X11_in_t⟩), (List.forall_mem_append.mpr ⟨tl_X11, (List.forall_mem_append.mpr ⟨tl_Jx4a65c, (List.forall_mem_append.mpr ⟨tk_c_Jx4a65c_init_da8c8, (List.forall_mem_append.mpr ⟨(List.forall_mem_append.mpr ⟨(List.forall_mem_cons.mpr ⟨tw_121, (List.forall_mem_cons.mpr ⟨tw_122, (List.forall_mem_cons.mpr ⟨tw_123, (List.forall_mem_cons.mpr ⟨tw_124, (fun _ h => absurd h List.not_mem_nil)⟩)⟩)⟩)⟩), tk_c_size⟩), (List.forall_mem_append.mpr ⟨(List.forall_mem_append.mpr ⟨(List.forall_mem_cons.mpr ⟨tw_336, (List.forall_mem_cons.mpr ⟨tw_337, (List.forall_mem_cons.mpr ⟨tw_338, (List.forall_mem_cons.mpr ⟨tw_124, (fun _ h => absurd h List.not_mem_nil)⟩)⟩)⟩)⟩), tk_c_iterator⟩), (List.forall_mem_append.mpr ⟨(List.forall_mem_append.mpr ⟨(List.forall_mem_cons.mpr ⟨tw_339, (List.forall_mem_cons.mpr ⟨tw_340, (List.forall_mem_cons.mpr ⟨tw_341, (List.forall_mem_cons.mpr ⟨tw_342, (fun _ h => absurd h List.not_mem_nil)⟩)⟩)⟩)⟩), tk_c_hasNext⟩), (List.forall_mem_append.mpr ⟨(List.forall_mem_cons.mpr ⟨tw_125, (List.forall_mem_cons.mpr ⟨tw_126, (List.forall_mem_cons.mpr ⟨tw_127, (fun _ h => absurd h List.not_mem_nil)⟩)⟩)⟩), tk_c_X11_in_f⟩)⟩)⟩)⟩)⟩)⟩)⟩)⟩)⟩)⟩
theorem tk_own_c_X6_shuffled_bad : ∀ w ∈ wo_c_X6_shuffled_bad, w ∈ lw_tbl := (List.forall_mem_cons.mpr ⟨tw_101, (fun _ h => absurd h List.not_mem_nil)⟩)
theorem tk_c_X6_shuffled_bad : ∀ w ∈ wk_c_X6_shuffled_bad, w ∈ lw_tbl := List.forall_mem_cons.mpr ⟨tw_102, (List.forall_mem_append.mpr ⟨(tk_own_c_X6_shuffled_bad), (List.forall_mem_append.mpr ⟨(List.forall_mem_cons.mpr ⟨tw_84, (List.forall_mem_cons.mpr ⟨tw_85, (List.forall_mem_cons.mpr ⟨tw_86, (fun _ h => absurd h List.not_mem_nil)⟩)⟩)⟩), tk_c_X6_needRange_bad⟩)⟩)⟩
theorem tk_own_c_L_shuffled_bad : ∀ w ∈ wo_c_L_shuffled_bad, w ∈ lw_tbl := (List.forall_mem_cons.mpr ⟨tw_585, (fun _ h => absurd h List.not_mem_nil)⟩)
theorem tk_c_L_shuffled_bad : ∀ w ∈ wk_c_L_shuffled_bad, w ∈ lw_tbl := List.forall_mem_cons.mpr ⟨tw_598, (List.forall_mem_append.mpr ⟨(tk_own_c_L_shuffled_bad), (List.forall_mem_append.mpr ⟨(List.forall_mem_cons.mpr ⟨tw_595, (List.forall_mem_cons.mpr ⟨tw_596, (List.forall_mem_cons.mpr ⟨tw_597, (List.forall_mem_cons.mpr ⟨tw_24, (fun _ h => absurd h List.not_mem_nil)⟩)⟩)⟩)⟩), tk_c_X6_shuffled_bad⟩)⟩)⟩
theorem tk_own_c_X11_shuffled_bad : ∀ w ∈ wo_c_X11_shuffled_bad, w ∈ lw_tbl := (List.forall_mem_cons.mpr ⟨tw_343, (List.forall_mem_cons.mpr ⟨tw_129, (fun _ h => absurd h List.not_mem_nil)⟩)⟩)
theorem tk_c_X11_shuffled_bad : ∀ w ∈ wk_c_X11_shuffled_bad, w ∈ lw_tbl := List.forall_mem_cons.mpr ⟨tw_344, (List.forall_mem_append.mpr ⟨(tk_own_c_X11_shuffled_bad), (List.forall_mem_append.mpr ⟨(List.forall_mem_append.mpr ⟨(List.forall_mem_cons.mpr ⟨tw_125, (List.forall_mem_cons.mpr ⟨tw_126, (List.forall_mem_cons.mpr ⟨tw_127, (fun _ h => absurd h List.not_mem_nil)⟩)⟩)⟩), tk_c_X11_in_f⟩), tl_X11⟩)⟩)⟩
theorem tk_own_c_X6_checksum : ∀ w ∈ wo_c_X6_checksum, w ∈ lw_tbl := (List.forall_mem_cons.mpr ⟨tw_109, (List.forall_mem_cons.mpr ⟨tw_14, (List.forall_mem_cons.mpr ⟨tw_18, (List.forall_mem_cons.mpr ⟨tw_19, (List.forall_mem_cons.mpr ⟨tw_66, (List.forall_mem_cons.mpr ⟨tw_67, (List.forall_mem_cons.mpr ⟨tw_74, (List.forall_mem_cons.mpr ⟨tw_16, (fun _ h => absurd h List.not_mem_nil)⟩)⟩)⟩)⟩)⟩)⟩)⟩)⟩)
theorem tk_c_X6_checksum : ∀ w ∈ wk_c_X6_checksum, w ∈ lw_tbl := List.forall_mem_cons.mpr ⟨tw_110, (List.forall_mem_append.mpr ⟨(tk_own_c_X6_checksum), (List.forall_mem_append.mpr ⟨tl_X6, (List.forall_mem_append.mpr ⟨tl_X4, tl_X3⟩)⟩)⟩)⟩
theorem tk_own_c_X11_checksum : ∀ w ∈ wo_c_X11_checksum, w ∈ lw_tbl := (List.forall_mem_cons.mpr ⟨tw_129, (List.forall_mem_cons.mpr ⟨tw_220, (List.forall_mem_cons.mpr ⟨tw_131, (List.forall_mem_cons.mpr ⟨tw_133, (List.forall_mem_cons.mpr ⟨tw_190, (List.forall_mem_cons.mpr ⟨tw_192, (List.forall_mem_cons.mpr ⟨tw_135, (fun _ h => absurd h List.not_mem_nil)⟩)⟩)⟩)⟩)⟩)⟩)⟩)
theorem tk_c_X11_checksum : ∀ w ∈ wk_c_X11_checksum, w ∈ lw_tbl := List.forall_mem_cons.mpr ⟨tw_345, (List.forall_mem_append.mpr ⟨(tk_own_c_X11_checksum), (List.forall_mem_append.mpr ⟨tl_X11, (List.forall_mem_append.mpr ⟨(List.forall_mem_append.mpr ⟨(List.forall_mem_cons.mpr ⟨tw_336, (List.forall_mem_cons.mpr ⟨tw_337, (List.forall_mem_cons.mpr ⟨tw_338, (List.forall_mem_cons.mpr ⟨tw_124, (fun _ h => absurd h List.not_mem_nil)⟩)⟩)⟩)⟩), tk_c_iterator⟩), (List.forall_mem_append.mpr ⟨(List.forall_mem_cons.mpr ⟨tw_339, (List.forall_mem_cons.mpr ⟨tw_340, (List.forall_mem_cons.mpr ⟨tw_341, (List.forall_mem_cons.mpr ⟨tw_342, (fun _ h => absurd h List.not_mem_nil)⟩)⟩)⟩)⟩), tk_c_hasNext⟩)⟩)⟩)⟩)⟩
theorem gl_S_c_L_sample : GoodIn lw_tbl (va_wsS RL 186 yL_sample wk_c_L_sample) := fun w h => ⟨(List.forall_mem_append.mpr ⟨(List.forall_mem_cons.mpr ⟨tw_611, (List.forall_mem_cons.mpr ⟨tw_612, (List.forall_mem_cons.mpr ⟨tw_613, (fun _ h => absurd h List.not_mem_nil)⟩)⟩)⟩), tk_c_L_sample⟩) w h, good_of_word (kg_S gk_c_L_sample w h)⟩
theorem gl_V_c_X11_sample : GoodIn lw_tbl (wsV RL 189 RX11 yX11_sample wk_c_X11_sample) := fun w h => ⟨(List.forall_mem_append.mpr ⟨(List.forall_mem_cons.mpr ⟨tw_614, (List.forall_mem_cons.mpr ⟨tw_615, (List.forall_mem_cons.mpr ⟨tw_616, (List.forall_mem_cons.mpr ⟨tw_142, (fun _ h => absurd h List.not_mem_nil)⟩)⟩)⟩)⟩), tk_c_X11_sample⟩) w h, good_of_word (kg_V gk_c_X11_sample w h)⟩
theorem gl_V_c_X11_thrown : GoodIn lw_tbl (wsV RL 183 RX11 yX11_thrown wk_c_X11_thrown) := fun w h => ⟨(List.forall_mem_append.mpr ⟨(List.forall_mem_cons.mpr ⟨tw_617, (List.forall_mem_cons.mpr ⟨tw_618, (List.forall_mem_cons.mpr ⟨tw_619, (List.forall_mem_cons.mpr ⟨tw_142, (fun _ h => absurd h List.not_mem_nil)⟩)⟩)⟩)⟩), tk_c_X11_thrown⟩) w h, good_of_word (kg_V gk_c_X11_thrown w h)⟩
theorem gl_S_c_L_wave : GoodIn lw_tbl (va_wsS RL 190 yL_wave wk_c_L_wave) := fun w h => ⟨(List.forall_mem_append.mpr ⟨(List.forall_mem_cons.mpr ⟨tw_620, (List.forall_mem_cons.mpr ⟨tw_621, (List.forall_mem_cons.mpr ⟨tw_622, (fun _ h => absurd h List.not_mem_nil)⟩)⟩)⟩), tk_c_L_wave⟩) w h, good_of_word (kg_S gk_c_L_wave w h)⟩
theorem gl_V_c_X11_wave : GoodIn lw_tbl (wsV RL 193 RX11 yX11_wave wk_c_X11_wave) := fun w h => ⟨(List.forall_mem_append.mpr ⟨(List.forall_mem_cons.mpr ⟨tw_623, (List.forall_mem_cons.mpr ⟨tw_624, (List.forall_mem_cons.mpr ⟨tw_625, (List.forall_mem_cons.mpr ⟨tw_142, (fun _ h => absurd h List.not_mem_nil)⟩)⟩)⟩)⟩), tk_c_X11_wave⟩) w h, good_of_word (kg_V gk_c_X11_wave w h)⟩
theorem gl_S_c_L_reelLength : GoodIn lw_tbl (va_wsS RL 194 yL_reelLength wk_c_L_reelLength) := fun w h => ⟨(List.forall_mem_append.mpr ⟨(List.forall_mem_cons.mpr ⟨tw_626, (List.forall_mem_cons.mpr ⟨tw_627, (List.forall_mem_cons.mpr ⟨tw_628, (fun _ h => absurd h List.not_mem_nil)⟩)⟩)⟩), tk_c_L_reelLength⟩) w h, good_of_word (kg_S gk_c_L_reelLength w h)⟩
theorem gl_V_c_X11_reelLength : GoodIn lw_tbl (wsV RL 197 RX11 yX11_reelLength wk_c_X11_reelLength) := fun w h => ⟨(List.forall_mem_append.mpr ⟨(List.forall_mem_cons.mpr ⟨tw_629, (List.forall_mem_cons.mpr ⟨tw_630, (List.forall_mem_cons.mpr ⟨tw_631, (List.forall_mem_cons.mpr ⟨tw_142, (fun _ h => absurd h List.not_mem_nil)⟩)⟩)⟩)⟩), tk_c_X11_reelLength⟩) w h, good_of_word (kg_V gk_c_X11_reelLength w h)⟩
theorem gl_S_c_L_cut : GoodIn lw_tbl (va_wsS RL 198 yL_cut wk_c_L_cut) := fun w h => ⟨(List.forall_mem_append.mpr ⟨(List.forall_mem_cons.mpr ⟨tw_632, (List.forall_mem_cons.mpr ⟨tw_633, (List.forall_mem_cons.mpr ⟨tw_634, (fun _ h => absurd h List.not_mem_nil)⟩)⟩)⟩), tk_c_L_cut⟩) w h, good_of_word (kg_S gk_c_L_cut w h)⟩
theorem gl_V_c_X11_cut : GoodIn lw_tbl (wsV RL 201 RX11 yX11_cut wk_c_X11_cut) := fun w h => ⟨(List.forall_mem_append.mpr ⟨(List.forall_mem_cons.mpr ⟨tw_635, (List.forall_mem_cons.mpr ⟨tw_636, (List.forall_mem_cons.mpr ⟨tw_637, (List.forall_mem_cons.mpr ⟨tw_142, (fun _ h => absurd h List.not_mem_nil)⟩)⟩)⟩)⟩), tk_c_X11_cut⟩) w h, good_of_word (kg_V gk_c_X11_cut w h)⟩
theorem gl_S_c_L_splice : GoodIn lw_tbl (va_wsS RL 205 yL_splice wk_c_L_splice) := fun w h => ⟨(List.forall_mem_append.mpr ⟨(List.forall_mem_cons.mpr ⟨tw_638, (List.forall_mem_cons.mpr ⟨tw_639, (List.forall_mem_cons.mpr ⟨tw_640, (fun _ h => absurd h List.not_mem_nil)⟩)⟩)⟩), tk_c_L_splice⟩) w h, good_of_word (kg_S gk_c_L_splice w h)⟩
theorem gl_V_c_X11_splice : GoodIn lw_tbl (wsV RL 207 RX11 yX11_splice wk_c_X11_splice) := fun w h => ⟨(List.forall_mem_append.mpr ⟨(List.forall_mem_cons.mpr ⟨tw_641, (List.forall_mem_cons.mpr ⟨tw_642, (List.forall_mem_cons.mpr ⟨tw_643, (List.forall_mem_cons.mpr ⟨tw_142, (fun _ h => absurd h List.not_mem_nil)⟩)⟩)⟩)⟩), tk_c_X11_splice⟩) w h, good_of_word (kg_V gk_c_X11_splice w h)⟩
theorem gl_S_c_L_gain : GoodIn lw_tbl (va_wsS RL 208 yL_gain wk_c_L_gain) := fun w h => ⟨(List.forall_mem_append.mpr ⟨(List.forall_mem_cons.mpr ⟨tw_644, (List.forall_mem_cons.mpr ⟨tw_645, (List.forall_mem_cons.mpr ⟨tw_646, (fun _ h => absurd h List.not_mem_nil)⟩)⟩)⟩), tk_c_L_gain⟩) w h, good_of_word (kg_S gk_c_L_gain w h)⟩
theorem gl_V_c_X11_gain : GoodIn lw_tbl (wsV RL 210 RX11 yX11_gain wk_c_X11_gain) := fun w h => ⟨(List.forall_mem_append.mpr ⟨(List.forall_mem_cons.mpr ⟨tw_647, (List.forall_mem_cons.mpr ⟨tw_648, (List.forall_mem_cons.mpr ⟨tw_649, (List.forall_mem_cons.mpr ⟨tw_142, (fun _ h => absurd h List.not_mem_nil)⟩)⟩)⟩)⟩), tk_c_X11_gain⟩) w h, good_of_word (kg_V gk_c_X11_gain w h)⟩
theorem gl_S_c_L_back : GoodIn lw_tbl (va_wsS RL 211 yL_back wk_c_L_back) := fun w h => ⟨(List.forall_mem_append.mpr ⟨(List.forall_mem_cons.mpr ⟨tw_650, (List.forall_mem_cons.mpr ⟨tw_651, (List.forall_mem_cons.mpr ⟨tw_652, (fun _ h => absurd h List.not_mem_nil)⟩)⟩)⟩), tk_c_L_back⟩) w h, good_of_word (kg_S gk_c_L_back w h)⟩
theorem gl_V_c_X11_back : GoodIn lw_tbl (wsV RL 213 RX11 yX11_back wk_c_X11_back) := fun w h => ⟨(List.forall_mem_append.mpr ⟨(List.forall_mem_cons.mpr ⟨tw_653, (List.forall_mem_cons.mpr ⟨tw_654, (List.forall_mem_cons.mpr ⟨tw_655, (List.forall_mem_cons.mpr ⟨tw_142, (fun _ h => absurd h List.not_mem_nil)⟩)⟩)⟩)⟩), tk_c_X11_back⟩) w h, good_of_word (kg_V gk_c_X11_back w h)⟩
theorem gl_S_c_L_limit : GoodIn lw_tbl (va_wsS RL 214 yL_limit wk_c_L_limit) := fun w h => ⟨(List.forall_mem_append.mpr ⟨(List.forall_mem_cons.mpr ⟨tw_656, (List.forall_mem_cons.mpr ⟨tw_657, (List.forall_mem_cons.mpr ⟨tw_658, (fun _ h => absurd h List.not_mem_nil)⟩)⟩)⟩), tk_c_L_limit⟩) w h, good_of_word (kg_S gk_c_L_limit w h)⟩
theorem gl_V_c_X11_limit : GoodIn lw_tbl (wsV RL 216 RX11 yX11_limit wk_c_X11_limit) := fun w h => ⟨(List.forall_mem_append.mpr ⟨(List.forall_mem_cons.mpr ⟨tw_659, (List.forall_mem_cons.mpr ⟨tw_660, (List.forall_mem_cons.mpr ⟨tw_661, (List.forall_mem_cons.mpr ⟨tw_142, (fun _ h => absurd h List.not_mem_nil)⟩)⟩)⟩)⟩), tk_c_X11_limit⟩) w h, good_of_word (kg_V gk_c_X11_limit w h)⟩
theorem gl_S_c_L_resample : GoodIn lw_tbl (va_wsS RL 217 yL_resample wk_c_L_resample) := fun w h => ⟨(List.forall_mem_append.mpr ⟨(List.forall_mem_cons.mpr ⟨tw_662, (List.forall_mem_cons.mpr ⟨tw_663, (List.forall_mem_cons.mpr ⟨tw_664, (fun _ h => absurd h List.not_mem_nil)⟩)⟩)⟩), tk_c_L_resample⟩) w h, good_of_word (kg_S gk_c_L_resample w h)⟩
theorem gl_V_c_X11_resample : GoodIn lw_tbl (wsV RL 219 RX11 yX11_resample wk_c_X11_resample) := fun w h => ⟨(List.forall_mem_append.mpr ⟨(List.forall_mem_cons.mpr ⟨tw_665, (List.forall_mem_cons.mpr ⟨tw_666, (List.forall_mem_cons.mpr ⟨tw_667, (List.forall_mem_cons.mpr ⟨tw_142, (fun _ h => absurd h List.not_mem_nil)⟩)⟩)⟩)⟩), tk_c_X11_resample⟩) w h, good_of_word (kg_V gk_c_X11_resample w h)⟩
theorem gl_S_c_L_dither : GoodIn lw_tbl (va_wsS RL 220 yL_dither wk_c_L_dither) := fun w h => ⟨(List.forall_mem_append.mpr ⟨(List.forall_mem_cons.mpr ⟨tw_668, (List.forall_mem_cons.mpr ⟨tw_669, (List.forall_mem_cons.mpr ⟨tw_670, (fun _ h => absurd h List.not_mem_nil)⟩)⟩)⟩), tk_c_L_dither⟩) w h, good_of_word (kg_S gk_c_L_dither w h)⟩
theorem gl_V_c_X11_dither : GoodIn lw_tbl (wsV RL 222 RX11 yX11_dither wk_c_X11_dither) := fun w h => ⟨(List.forall_mem_append.mpr ⟨(List.forall_mem_cons.mpr ⟨tw_671, (List.forall_mem_cons.mpr ⟨tw_672, (List.forall_mem_cons.mpr ⟨tw_673, (List.forall_mem_cons.mpr ⟨tw_142, (fun _ h => absurd h List.not_mem_nil)⟩)⟩)⟩)⟩), tk_c_X11_dither⟩) w h, good_of_word (kg_V gk_c_X11_dither w h)⟩
theorem gl_S_c_L_kindOf : GoodIn lw_tbl (va_wsS RL 223 yL_kindOf wk_c_L_kindOf) := fun w h => ⟨(List.forall_mem_append.mpr ⟨(List.forall_mem_cons.mpr ⟨tw_674, (List.forall_mem_cons.mpr ⟨tw_675, (List.forall_mem_cons.mpr ⟨tw_676, (fun _ h => absurd h List.not_mem_nil)⟩)⟩)⟩), tk_c_L_kindOf⟩) w h, good_of_word (kg_S gk_c_L_kindOf w h)⟩
theorem gl_V_c_X11_kindOf : GoodIn lw_tbl (wsV RL 225 RX11 yX11_kindOf wk_c_X11_kindOf) := fun w h => ⟨(List.forall_mem_append.mpr ⟨(List.forall_mem_cons.mpr ⟨tw_677, (List.forall_mem_cons.mpr ⟨tw_678, (List.forall_mem_cons.mpr ⟨tw_679, (List.forall_mem_cons.mpr ⟨tw_142, (fun _ h => absurd h List.not_mem_nil)⟩)⟩)⟩)⟩), tk_c_X11_kindOf⟩) w h, good_of_word (kg_V gk_c_X11_kindOf w h)⟩
theorem gl_S_c_L_lengthOf : GoodIn lw_tbl (va_wsS RL 226 yL_lengthOf wk_c_L_lengthOf) := fun w h => ⟨(List.forall_mem_append.mpr ⟨(List.forall_mem_cons.mpr ⟨tw_680, (List.forall_mem_cons.mpr ⟨tw_681, (List.forall_mem_cons.mpr ⟨tw_682, (fun _ h => absurd h List.not_mem_nil)⟩)⟩)⟩), tk_c_L_lengthOf⟩) w h, good_of_word (kg_S gk_c_L_lengthOf w h)⟩
theorem gl_V_c_X11_lengthOf : GoodIn lw_tbl (wsV RL 228 RX11 yX11_lengthOf wk_c_X11_lengthOf) := fun w h => ⟨(List.forall_mem_append.mpr ⟨(List.forall_mem_cons.mpr ⟨tw_683, (List.forall_mem_cons.mpr ⟨tw_684, (List.forall_mem_cons.mpr ⟨tw_685, (List.forall_mem_cons.mpr ⟨tw_142, (fun _ h => absurd h List.not_mem_nil)⟩)⟩)⟩)⟩), tk_c_X11_lengthOf⟩) w h, good_of_word (kg_V gk_c_X11_lengthOf w h)⟩
theorem gl_S_c_L_sampleOf : GoodIn lw_tbl (va_wsS RL 229 yL_sampleOf wk_c_L_sampleOf) := fun w h => ⟨(List.forall_mem_append.mpr ⟨(List.forall_mem_cons.mpr ⟨tw_686, (List.forall_mem_cons.mpr ⟨tw_687, (List.forall_mem_cons.mpr ⟨tw_688, (fun _ h => absurd h List.not_mem_nil)⟩)⟩)⟩), tk_c_L_sampleOf⟩) w h, good_of_word (kg_S gk_c_L_sampleOf w h)⟩
theorem gl_V_c_X11_sampleOf : GoodIn lw_tbl (wsV RL 231 RX11 yX11_sampleOf wk_c_X11_sampleOf) := fun w h => ⟨(List.forall_mem_append.mpr ⟨(List.forall_mem_cons.mpr ⟨tw_689, (List.forall_mem_cons.mpr ⟨tw_690, (List.forall_mem_cons.mpr ⟨tw_691, (List.forall_mem_cons.mpr ⟨tw_142, (fun _ h => absurd h List.not_mem_nil)⟩)⟩)⟩)⟩), tk_c_X11_sampleOf⟩) w h, good_of_word (kg_V gk_c_X11_sampleOf w h)⟩
theorem gl_S_c_L_loudness : GoodIn lw_tbl (va_wsS RL 232 yL_loudness wk_c_L_loudness) := fun w h => ⟨(List.forall_mem_append.mpr ⟨(List.forall_mem_cons.mpr ⟨tw_692, (List.forall_mem_cons.mpr ⟨tw_693, (List.forall_mem_cons.mpr ⟨tw_694, (fun _ h => absurd h List.not_mem_nil)⟩)⟩)⟩), tk_c_L_loudness⟩) w h, good_of_word (kg_S gk_c_L_loudness w h)⟩
theorem gl_V_c_X11_loudness : GoodIn lw_tbl (wsV RL 234 RX11 yX11_loudness wk_c_X11_loudness) := fun w h => ⟨(List.forall_mem_append.mpr ⟨(List.forall_mem_cons.mpr ⟨tw_695, (List.forall_mem_cons.mpr ⟨tw_696, (List.forall_mem_cons.mpr ⟨tw_697, (List.forall_mem_cons.mpr ⟨tw_142, (fun _ h => absurd h List.not_mem_nil)⟩)⟩)⟩)⟩), tk_c_X11_loudness⟩) w h, good_of_word (kg_V gk_c_X11_loudness w h)⟩
theorem gl_S_c_L_peak : GoodIn lw_tbl (va_wsS RL 235 yL_peak wk_c_L_peak) := fun w h => ⟨(List.forall_mem_append.mpr ⟨(List.forall_mem_cons.mpr ⟨tw_698, (List.forall_mem_cons.mpr ⟨tw_699, (List.forall_mem_cons.mpr ⟨tw_700, (fun _ h => absurd h List.not_mem_nil)⟩)⟩)⟩), tk_c_L_peak⟩) w h, good_of_word (kg_S gk_c_L_peak w h)⟩
theorem gl_V_c_X11_peak : GoodIn lw_tbl (wsV RL 237 RX11 yX11_peak wk_c_X11_peak) := fun w h => ⟨(List.forall_mem_append.mpr ⟨(List.forall_mem_cons.mpr ⟨tw_701, (List.forall_mem_cons.mpr ⟨tw_702, (List.forall_mem_cons.mpr ⟨tw_703, (List.forall_mem_cons.mpr ⟨tw_142, (fun _ h => absurd h List.not_mem_nil)⟩)⟩)⟩)⟩), tk_c_X11_peak⟩) w h, good_of_word (kg_V gk_c_X11_peak w h)⟩
theorem gl_S_c_L_add : GoodIn lw_tbl (va_wsS RL 238 yL_add wk_c_L_add) := fun w h => ⟨(List.forall_mem_append.mpr ⟨(List.forall_mem_cons.mpr ⟨tw_704, (List.forall_mem_cons.mpr ⟨tw_705, (List.forall_mem_cons.mpr ⟨tw_706, (fun _ h => absurd h List.not_mem_nil)⟩)⟩)⟩), tk_c_L_add⟩) w h, good_of_word (kg_S gk_c_L_add w h)⟩
theorem gl_V_c_X11_add : GoodIn lw_tbl (wsV RL 240 RX11 yX11_add wk_c_X11_add) := fun w h => ⟨(List.forall_mem_append.mpr ⟨(List.forall_mem_cons.mpr ⟨tw_707, (List.forall_mem_cons.mpr ⟨tw_708, (List.forall_mem_cons.mpr ⟨tw_709, (List.forall_mem_cons.mpr ⟨tw_142, (fun _ h => absurd h List.not_mem_nil)⟩)⟩)⟩)⟩), tk_c_X11_add⟩) w h, good_of_word (kg_V gk_c_X11_add w h)⟩
theorem gl_S_c_L_replace : GoodIn lw_tbl (va_wsS RL 245 yL_replace wk_c_L_replace) := fun w h => ⟨(List.forall_mem_append.mpr ⟨(List.forall_mem_cons.mpr ⟨tw_710, (List.forall_mem_cons.mpr ⟨tw_711, (List.forall_mem_cons.mpr ⟨tw_712, (fun _ h => absurd h List.not_mem_nil)⟩)⟩)⟩), tk_c_L_replace⟩) w h, good_of_word (kg_S gk_c_L_replace w h)⟩
theorem gl_V_c_X11_replace : GoodIn lw_tbl (wsV RL 247 RX11 yX11_replace wk_c_X11_replace) := fun w h => ⟨(List.forall_mem_append.mpr ⟨(List.forall_mem_cons.mpr ⟨tw_713, (List.forall_mem_cons.mpr ⟨tw_714, (List.forall_mem_cons.mpr ⟨tw_715, (List.forall_mem_cons.mpr ⟨tw_142, (fun _ h => absurd h List.not_mem_nil)⟩)⟩)⟩)⟩), tk_c_X11_replace⟩) w h, good_of_word (kg_V gk_c_X11_replace w h)⟩
theorem gl_S_c_L_startOf : GoodIn lw_tbl (va_wsS RL 248 yL_startOf wk_c_L_startOf) := fun w h => ⟨(List.forall_mem_append.mpr ⟨(List.forall_mem_cons.mpr ⟨tw_716, (List.forall_mem_cons.mpr ⟨tw_717, (List.forall_mem_cons.mpr ⟨tw_718, (fun _ h => absurd h List.not_mem_nil)⟩)⟩)⟩), tk_c_L_startOf⟩) w h, good_of_word (kg_S gk_c_L_startOf w h)⟩
theorem gl_V_c_X11_startOf : GoodIn lw_tbl (wsV RL 250 RX11 yX11_startOf wk_c_X11_startOf) := fun w h => ⟨(List.forall_mem_append.mpr ⟨(List.forall_mem_cons.mpr ⟨tw_719, (List.forall_mem_cons.mpr ⟨tw_720, (List.forall_mem_cons.mpr ⟨tw_721, (List.forall_mem_cons.mpr ⟨tw_142, (fun _ h => absurd h List.not_mem_nil)⟩)⟩)⟩)⟩), tk_c_X11_startOf⟩) w h, good_of_word (kg_V gk_c_X11_startOf w h)⟩
theorem gl_S_c_L_heard : GoodIn lw_tbl (va_wsS RL 255 yL_heard wk_c_L_heard) := fun w h => ⟨(List.forall_mem_append.mpr ⟨(List.forall_mem_cons.mpr ⟨tw_722, (List.forall_mem_cons.mpr ⟨tw_723, (List.forall_mem_cons.mpr ⟨tw_724, (fun _ h => absurd h List.not_mem_nil)⟩)⟩)⟩), tk_c_L_heard⟩) w h, good_of_word (kg_S gk_c_L_heard w h)⟩
theorem gl_V_c_X11_heard : GoodIn lw_tbl (wsV RL 257 RX11 yX11_heard wk_c_X11_heard) := fun w h => ⟨(List.forall_mem_append.mpr ⟨(List.forall_mem_cons.mpr ⟨tw_725, (List.forall_mem_cons.mpr ⟨tw_726, (List.forall_mem_cons.mpr ⟨tw_727, (List.forall_mem_cons.mpr ⟨tw_142, (fun _ h => absurd h List.not_mem_nil)⟩)⟩)⟩)⟩), tk_c_X11_heard⟩) w h, good_of_word (kg_V gk_c_X11_heard w h)⟩
theorem gl_S_c_L_sideOf : GoodIn lw_tbl (va_wsS RL 261 yL_sideOf wk_c_L_sideOf) := fun w h => ⟨(List.forall_mem_append.mpr ⟨(List.forall_mem_cons.mpr ⟨tw_728, (List.forall_mem_cons.mpr ⟨tw_729, (List.forall_mem_cons.mpr ⟨tw_730, (fun _ h => absurd h List.not_mem_nil)⟩)⟩)⟩), tk_c_L_sideOf⟩) w h, good_of_word (kg_S gk_c_L_sideOf w h)⟩
theorem gl_V_c_X11_sideOf : GoodIn lw_tbl (wsV RL 263 RX11 yX11_sideOf wk_c_X11_sideOf) := fun w h => ⟨(List.forall_mem_append.mpr ⟨(List.forall_mem_cons.mpr ⟨tw_731, (List.forall_mem_cons.mpr ⟨tw_732, (List.forall_mem_cons.mpr ⟨tw_733, (List.forall_mem_cons.mpr ⟨tw_142, (fun _ h => absurd h List.not_mem_nil)⟩)⟩)⟩)⟩), tk_c_X11_sideOf⟩) w h, good_of_word (kg_V gk_c_X11_sideOf w h)⟩
theorem gl_S_c_L_failedAt : GoodIn lw_tbl (va_wsS RL 267 yL_failedAt wk_c_L_failedAt) := fun w h => ⟨(List.forall_mem_append.mpr ⟨(List.forall_mem_cons.mpr ⟨tw_734, (List.forall_mem_cons.mpr ⟨tw_735, (List.forall_mem_cons.mpr ⟨tw_736, (fun _ h => absurd h List.not_mem_nil)⟩)⟩)⟩), tk_c_L_failedAt⟩) w h, good_of_word (kg_S gk_c_L_failedAt w h)⟩
theorem gl_V_c_X11_failedAt : GoodIn lw_tbl (wsV RL 269 RX11 yX11_failedAt wk_c_X11_failedAt) := fun w h => ⟨(List.forall_mem_append.mpr ⟨(List.forall_mem_cons.mpr ⟨tw_737, (List.forall_mem_cons.mpr ⟨tw_738, (List.forall_mem_cons.mpr ⟨tw_739, (List.forall_mem_cons.mpr ⟨tw_142, (fun _ h => absurd h List.not_mem_nil)⟩)⟩)⟩)⟩), tk_c_X11_failedAt⟩) w h, good_of_word (kg_V gk_c_X11_failedAt w h)⟩
theorem gl_S_c_L_father : GoodIn lw_tbl (va_wsS RL 270 yL_father wk_c_L_father) := fun w h => ⟨(List.forall_mem_append.mpr ⟨(List.forall_mem_cons.mpr ⟨tw_740, (List.forall_mem_cons.mpr ⟨tw_741, (List.forall_mem_cons.mpr ⟨tw_742, (fun _ h => absurd h List.not_mem_nil)⟩)⟩)⟩), tk_c_L_father⟩) w h, good_of_word (kg_S gk_c_L_father w h)⟩
theorem gl_V_c_X11_father : GoodIn lw_tbl (wsV RL 272 RX11 yX11_father wk_c_X11_father) := fun w h => ⟨(List.forall_mem_append.mpr ⟨(List.forall_mem_cons.mpr ⟨tw_743, (List.forall_mem_cons.mpr ⟨tw_744, (List.forall_mem_cons.mpr ⟨tw_745, (List.forall_mem_cons.mpr ⟨tw_142, (fun _ h => absurd h List.not_mem_nil)⟩)⟩)⟩)⟩), tk_c_X11_father⟩) w h, good_of_word (kg_V gk_c_X11_father w h)⟩
theorem gl_S_c_L_mother : GoodIn lw_tbl (va_wsS RL 273 yL_mother wk_c_L_mother) := fun w h => ⟨(List.forall_mem_append.mpr ⟨(List.forall_mem_cons.mpr ⟨tw_746, (List.forall_mem_cons.mpr ⟨tw_747, (List.forall_mem_cons.mpr ⟨tw_748, (fun _ h => absurd h List.not_mem_nil)⟩)⟩)⟩), tk_c_L_mother⟩) w h, good_of_word (kg_S gk_c_L_mother w h)⟩
theorem gl_V_c_X11_mother : GoodIn lw_tbl (wsV RL 275 RX11 yX11_mother wk_c_X11_mother) := fun w h => ⟨(List.forall_mem_append.mpr ⟨(List.forall_mem_cons.mpr ⟨tw_749, (List.forall_mem_cons.mpr ⟨tw_750, (List.forall_mem_cons.mpr ⟨tw_751, (List.forall_mem_cons.mpr ⟨tw_142, (fun _ h => absurd h List.not_mem_nil)⟩)⟩)⟩)⟩), tk_c_X11_mother⟩) w h, good_of_word (kg_V gk_c_X11_mother w h)⟩
theorem gl_S_c_L_stamper : GoodIn lw_tbl (va_wsS RL 276 yL_stamper wk_c_L_stamper) := fun w h => ⟨(List.forall_mem_append.mpr ⟨(List.forall_mem_cons.mpr ⟨tw_752, (List.forall_mem_cons.mpr ⟨tw_753, (List.forall_mem_cons.mpr ⟨tw_754, (fun _ h => absurd h List.not_mem_nil)⟩)⟩)⟩), tk_c_L_stamper⟩) w h, good_of_word (kg_S gk_c_L_stamper w h)⟩
theorem gl_V_c_X11_stamper : GoodIn lw_tbl (wsV RL 278 RX11 yX11_stamper wk_c_X11_stamper) := fun w h => ⟨(List.forall_mem_append.mpr ⟨(List.forall_mem_cons.mpr ⟨tw_755, (List.forall_mem_cons.mpr ⟨tw_756, (List.forall_mem_cons.mpr ⟨tw_757, (List.forall_mem_cons.mpr ⟨tw_142, (fun _ h => absurd h List.not_mem_nil)⟩)⟩)⟩)⟩), tk_c_X11_stamper⟩) w h, good_of_word (kg_V gk_c_X11_stamper w h)⟩
theorem gl_S_c_L_press : GoodIn lw_tbl (va_wsS RL 279 yL_press wk_c_L_press) := fun w h => ⟨(List.forall_mem_append.mpr ⟨(List.forall_mem_cons.mpr ⟨tw_758, (List.forall_mem_cons.mpr ⟨tw_759, (List.forall_mem_cons.mpr ⟨tw_760, (fun _ h => absurd h List.not_mem_nil)⟩)⟩)⟩), tk_c_L_press⟩) w h, good_of_word (kg_S gk_c_L_press w h)⟩
theorem gl_V_c_X11_press : GoodIn lw_tbl (wsV RL 281 RX11 yX11_press wk_c_X11_press) := fun w h => ⟨(List.forall_mem_append.mpr ⟨(List.forall_mem_cons.mpr ⟨tw_761, (List.forall_mem_cons.mpr ⟨tw_762, (List.forall_mem_cons.mpr ⟨tw_763, (List.forall_mem_cons.mpr ⟨tw_142, (fun _ h => absurd h List.not_mem_nil)⟩)⟩)⟩)⟩), tk_c_X11_press⟩) w h, good_of_word (kg_V gk_c_X11_press w h)⟩
theorem gl_S_c_L_editionAt : GoodIn lw_tbl (va_wsS RL 285 yL_editionAt wk_c_L_editionAt) := fun w h => ⟨(List.forall_mem_append.mpr ⟨(List.forall_mem_cons.mpr ⟨tw_764, (List.forall_mem_cons.mpr ⟨tw_765, (List.forall_mem_cons.mpr ⟨tw_766, (fun _ h => absurd h List.not_mem_nil)⟩)⟩)⟩), tk_c_L_editionAt⟩) w h, good_of_word (kg_S gk_c_L_editionAt w h)⟩
theorem gl_V_c_X11_editionAt : GoodIn lw_tbl (wsV RL 287 RX11 yX11_editionAt wk_c_X11_editionAt) := fun w h => ⟨(List.forall_mem_append.mpr ⟨(List.forall_mem_cons.mpr ⟨tw_767, (List.forall_mem_cons.mpr ⟨tw_768, (List.forall_mem_cons.mpr ⟨tw_769, (List.forall_mem_cons.mpr ⟨tw_142, (fun _ h => absurd h List.not_mem_nil)⟩)⟩)⟩)⟩), tk_c_X11_editionAt⟩) w h, good_of_word (kg_V gk_c_X11_editionAt w h)⟩
theorem gl_S_c_L_sum : GoodIn lw_tbl (va_wsS RL 288 yL_sum wk_c_L_sum) := fun w h => ⟨(List.forall_mem_append.mpr ⟨(List.forall_mem_cons.mpr ⟨tw_770, (List.forall_mem_cons.mpr ⟨tw_771, (List.forall_mem_cons.mpr ⟨tw_772, (fun _ h => absurd h List.not_mem_nil)⟩)⟩)⟩), tk_c_L_sum⟩) w h, good_of_word (kg_S gk_c_L_sum w h)⟩
theorem gl_V_c_X11_sum : GoodIn lw_tbl (wsV RL 290 RX11 yX11_sum wk_c_X11_sum) := fun w h => ⟨(List.forall_mem_append.mpr ⟨(List.forall_mem_cons.mpr ⟨tw_773, (List.forall_mem_cons.mpr ⟨tw_774, (List.forall_mem_cons.mpr ⟨tw_775, (List.forall_mem_cons.mpr ⟨tw_142, (fun _ h => absurd h List.not_mem_nil)⟩)⟩)⟩)⟩), tk_c_X11_sum⟩) w h, good_of_word (kg_V gk_c_X11_sum w h)⟩
theorem gl_S_c_L_match : GoodIn lw_tbl (va_wsS RL 291 yL_match wk_c_L_match) := fun w h => ⟨(List.forall_mem_append.mpr ⟨(List.forall_mem_cons.mpr ⟨tw_776, (List.forall_mem_cons.mpr ⟨tw_777, (List.forall_mem_cons.mpr ⟨tw_778, (fun _ h => absurd h List.not_mem_nil)⟩)⟩)⟩), tk_c_L_match⟩) w h, good_of_word (kg_S gk_c_L_match w h)⟩
theorem gl_V_c_X11_match : GoodIn lw_tbl (wsV RL 293 RX11 yX11_match wk_c_X11_match) := fun w h => ⟨(List.forall_mem_append.mpr ⟨(List.forall_mem_cons.mpr ⟨tw_779, (List.forall_mem_cons.mpr ⟨tw_780, (List.forall_mem_cons.mpr ⟨tw_781, (List.forall_mem_cons.mpr ⟨tw_142, (fun _ h => absurd h List.not_mem_nil)⟩)⟩)⟩)⟩), tk_c_X11_match⟩) w h, good_of_word (kg_V gk_c_X11_match w h)⟩
theorem gl_S_c_L_difference : GoodIn lw_tbl (va_wsS RL 294 yL_difference wk_c_L_difference) := fun w h => ⟨(List.forall_mem_append.mpr ⟨(List.forall_mem_cons.mpr ⟨tw_782, (List.forall_mem_cons.mpr ⟨tw_783, (List.forall_mem_cons.mpr ⟨tw_784, (fun _ h => absurd h List.not_mem_nil)⟩)⟩)⟩), tk_c_L_difference⟩) w h, good_of_word (kg_S gk_c_L_difference w h)⟩
theorem gl_V_c_X11_difference : GoodIn lw_tbl (wsV RL 296 RX11 yX11_difference wk_c_X11_difference) := fun w h => ⟨(List.forall_mem_append.mpr ⟨(List.forall_mem_cons.mpr ⟨tw_785, (List.forall_mem_cons.mpr ⟨tw_786, (List.forall_mem_cons.mpr ⟨tw_787, (List.forall_mem_cons.mpr ⟨tw_142, (fun _ h => absurd h List.not_mem_nil)⟩)⟩)⟩)⟩), tk_c_X11_difference⟩) w h, good_of_word (kg_V gk_c_X11_difference w h)⟩
theorem gl_S_c_L_differsAt : GoodIn lw_tbl (va_wsS RL 297 yL_differsAt wk_c_L_differsAt) := fun w h => ⟨(List.forall_mem_append.mpr ⟨(List.forall_mem_cons.mpr ⟨tw_788, (List.forall_mem_cons.mpr ⟨tw_789, (List.forall_mem_cons.mpr ⟨tw_790, (fun _ h => absurd h List.not_mem_nil)⟩)⟩)⟩), tk_c_L_differsAt⟩) w h, good_of_word (kg_S gk_c_L_differsAt w h)⟩
theorem gl_V_c_X11_differsAt : GoodIn lw_tbl (wsV RL 299 RX11 yX11_differsAt wk_c_X11_differsAt) := fun w h => ⟨(List.forall_mem_append.mpr ⟨(List.forall_mem_cons.mpr ⟨tw_791, (List.forall_mem_cons.mpr ⟨tw_792, (List.forall_mem_cons.mpr ⟨tw_793, (List.forall_mem_cons.mpr ⟨tw_142, (fun _ h => absurd h List.not_mem_nil)⟩)⟩)⟩)⟩), tk_c_X11_differsAt⟩) w h, good_of_word (kg_V gk_c_X11_differsAt w h)⟩
theorem gl_S_c_L_damage : GoodIn lw_tbl (va_wsS RL 300 yL_damage wk_c_L_damage) := fun w h => ⟨(List.forall_mem_append.mpr ⟨(List.forall_mem_cons.mpr ⟨tw_794, (List.forall_mem_cons.mpr ⟨tw_795, (List.forall_mem_cons.mpr ⟨tw_796, (fun _ h => absurd h List.not_mem_nil)⟩)⟩)⟩), tk_c_L_damage⟩) w h, good_of_word (kg_S gk_c_L_damage w h)⟩
theorem gl_V_c_X11_damage : GoodIn lw_tbl (wsV RL 302 RX11 yX11_damage wk_c_X11_damage) := fun w h => ⟨(List.forall_mem_append.mpr ⟨(List.forall_mem_cons.mpr ⟨tw_797, (List.forall_mem_cons.mpr ⟨tw_798, (List.forall_mem_cons.mpr ⟨tw_799, (List.forall_mem_cons.mpr ⟨tw_142, (fun _ h => absurd h List.not_mem_nil)⟩)⟩)⟩)⟩), tk_c_X11_damage⟩) w h, good_of_word (kg_V gk_c_X11_damage w h)⟩
theorem gl_S_c_L_repair : GoodIn lw_tbl (va_wsS RL 303 yL_repair wk_c_L_repair) := fun w h => ⟨(List.forall_mem_append.mpr ⟨(List.forall_mem_cons.mpr ⟨tw_800, (List.forall_mem_cons.mpr ⟨tw_801, (List.forall_mem_cons.mpr ⟨tw_802, (fun _ h => absurd h List.not_mem_nil)⟩)⟩)⟩), tk_c_L_repair⟩) w h, good_of_word (kg_S gk_c_L_repair w h)⟩
theorem gl_V_c_X11_repair : GoodIn lw_tbl (wsV RL 305 RX11 yX11_repair wk_c_X11_repair) := fun w h => ⟨(List.forall_mem_append.mpr ⟨(List.forall_mem_cons.mpr ⟨tw_803, (List.forall_mem_cons.mpr ⟨tw_804, (List.forall_mem_cons.mpr ⟨tw_805, (List.forall_mem_cons.mpr ⟨tw_142, (fun _ h => absurd h List.not_mem_nil)⟩)⟩)⟩)⟩), tk_c_X11_repair⟩) w h, good_of_word (kg_V gk_c_X11_repair w h)⟩
theorem gl_S_c_L_padding : GoodIn lw_tbl (va_wsS RL 306 yL_padding wk_c_L_padding) := fun w h => ⟨(List.forall_mem_append.mpr ⟨(List.forall_mem_cons.mpr ⟨tw_806, (List.forall_mem_cons.mpr ⟨tw_807, (List.forall_mem_cons.mpr ⟨tw_808, (fun _ h => absurd h List.not_mem_nil)⟩)⟩)⟩), tk_c_L_padding⟩) w h, good_of_word (kg_S gk_c_L_padding w h)⟩
theorem gl_V_c_X11_padding : GoodIn lw_tbl (wsV RL 308 RX11 yX11_padding wk_c_X11_padding) := fun w h => ⟨(List.forall_mem_append.mpr ⟨(List.forall_mem_cons.mpr ⟨tw_809, (List.forall_mem_cons.mpr ⟨tw_810, (List.forall_mem_cons.mpr ⟨tw_811, (List.forall_mem_cons.mpr ⟨tw_142, (fun _ h => absurd h List.not_mem_nil)⟩)⟩)⟩)⟩), tk_c_X11_padding⟩) w h, good_of_word (kg_V gk_c_X11_padding w h)⟩
theorem gl_S_c_L_split : GoodIn lw_tbl (va_wsS RL 312 yL_split wk_c_L_split) := fun w h => ⟨(List.forall_mem_append.mpr ⟨(List.forall_mem_cons.mpr ⟨tw_812, (List.forall_mem_cons.mpr ⟨tw_813, (List.forall_mem_cons.mpr ⟨tw_814, (fun _ h => absurd h List.not_mem_nil)⟩)⟩)⟩), tk_c_L_split⟩) w h, good_of_word (kg_S gk_c_L_split w h)⟩
theorem gl_V_c_X11_split : GoodIn lw_tbl (wsV RL 314 RX11 yX11_split wk_c_X11_split) := fun w h => ⟨(List.forall_mem_append.mpr ⟨(List.forall_mem_cons.mpr ⟨tw_815, (List.forall_mem_cons.mpr ⟨tw_816, (List.forall_mem_cons.mpr ⟨tw_817, (List.forall_mem_cons.mpr ⟨tw_142, (fun _ h => absurd h List.not_mem_nil)⟩)⟩)⟩)⟩), tk_c_X11_split⟩) w h, good_of_word (kg_V gk_c_X11_split w h)⟩
theorem gl_S_c_L_play : GoodIn lw_tbl (va_wsS RL 315 yL_play wk_c_L_play) := fun w h => ⟨(List.forall_mem_append.mpr ⟨(List.forall_mem_cons.mpr ⟨tw_818, (List.forall_mem_cons.mpr ⟨tw_819, (List.forall_mem_cons.mpr ⟨tw_820, (fun _ h => absurd h List.not_mem_nil)⟩)⟩)⟩), tk_c_L_play⟩) w h, good_of_word (kg_S gk_c_L_play w h)⟩
theorem gl_V_c_X11_play : GoodIn lw_tbl (wsV RL 317 RX11 yX11_play wk_c_X11_play) := fun w h => ⟨(List.forall_mem_append.mpr ⟨(List.forall_mem_cons.mpr ⟨tw_821, (List.forall_mem_cons.mpr ⟨tw_822, (List.forall_mem_cons.mpr ⟨tw_823, (List.forall_mem_cons.mpr ⟨tw_142, (fun _ h => absurd h List.not_mem_nil)⟩)⟩)⟩)⟩), tk_c_X11_play⟩) w h, good_of_word (kg_V gk_c_X11_play w h)⟩
theorem gl_S_c_L_vote : GoodIn lw_tbl (va_wsS RL 321 yL_vote wk_c_L_vote) := fun w h => ⟨(List.forall_mem_append.mpr ⟨(List.forall_mem_cons.mpr ⟨tw_824, (List.forall_mem_cons.mpr ⟨tw_825, (List.forall_mem_cons.mpr ⟨tw_826, (fun _ h => absurd h List.not_mem_nil)⟩)⟩)⟩), tk_c_L_vote⟩) w h, good_of_word (kg_S gk_c_L_vote w h)⟩
theorem gl_V_c_X11_vote : GoodIn lw_tbl (wsV RL 323 RX11 yX11_vote wk_c_X11_vote) := fun w h => ⟨(List.forall_mem_append.mpr ⟨(List.forall_mem_cons.mpr ⟨tw_827, (List.forall_mem_cons.mpr ⟨tw_828, (List.forall_mem_cons.mpr ⟨tw_829, (List.forall_mem_cons.mpr ⟨tw_142, (fun _ h => absurd h List.not_mem_nil)⟩)⟩)⟩)⟩), tk_c_X11_vote⟩) w h, good_of_word (kg_V gk_c_X11_vote w h)⟩
theorem gl_S_c_L_favourite : GoodIn lw_tbl (va_wsS RL 324 yL_favourite wk_c_L_favourite) := fun w h => ⟨(List.forall_mem_append.mpr ⟨(List.forall_mem_cons.mpr ⟨tw_830, (List.forall_mem_cons.mpr ⟨tw_831, (List.forall_mem_cons.mpr ⟨tw_832, (fun _ h => absurd h List.not_mem_nil)⟩)⟩)⟩), tk_c_L_favourite⟩) w h, good_of_word (kg_S gk_c_L_favourite w h)⟩
theorem gl_V_c_X11_favourite : GoodIn lw_tbl (wsV RL 326 RX11 yX11_favourite wk_c_X11_favourite) := fun w h => ⟨(List.forall_mem_append.mpr ⟨(List.forall_mem_cons.mpr ⟨tw_833, (List.forall_mem_cons.mpr ⟨tw_834, (List.forall_mem_cons.mpr ⟨tw_835, (List.forall_mem_cons.mpr ⟨tw_142, (fun _ h => absurd h List.not_mem_nil)⟩)⟩)⟩)⟩), tk_c_X11_favourite⟩) w h, good_of_word (kg_V gk_c_X11_favourite w h)⟩
theorem gl_S_c_L_goodShare : GoodIn lw_tbl (va_wsS RL 327 yL_goodShare wk_c_L_goodShare) := fun w h => ⟨(List.forall_mem_append.mpr ⟨(List.forall_mem_cons.mpr ⟨tw_836, (List.forall_mem_cons.mpr ⟨tw_837, (List.forall_mem_cons.mpr ⟨tw_838, (fun _ h => absurd h List.not_mem_nil)⟩)⟩)⟩), tk_c_L_goodShare⟩) w h, good_of_word (kg_S gk_c_L_goodShare w h)⟩
theorem gl_V_c_X11_goodShare : GoodIn lw_tbl (wsV RL 330 RX11 yX11_goodShare wk_c_X11_goodShare) := fun w h => ⟨(List.forall_mem_append.mpr ⟨(List.forall_mem_cons.mpr ⟨tw_839, (List.forall_mem_cons.mpr ⟨tw_840, (List.forall_mem_cons.mpr ⟨tw_841, (List.forall_mem_cons.mpr ⟨tw_142, (fun _ h => absurd h List.not_mem_nil)⟩)⟩)⟩)⟩), tk_c_X11_goodShare⟩) w h, good_of_word (kg_V gk_c_X11_goodShare w h)⟩
theorem gl_S_c_L_meanMark : GoodIn lw_tbl (va_wsS RL 331 yL_meanMark wk_c_L_meanMark) := fun w h => ⟨(List.forall_mem_append.mpr ⟨(List.forall_mem_cons.mpr ⟨tw_842, (List.forall_mem_cons.mpr ⟨tw_843, (List.forall_mem_cons.mpr ⟨tw_844, (fun _ h => absurd h List.not_mem_nil)⟩)⟩)⟩), tk_c_L_meanMark⟩) w h, good_of_word (kg_S gk_c_L_meanMark w h)⟩
theorem gl_V_c_X11_meanMark : GoodIn lw_tbl (wsV RL 334 RX11 yX11_meanMark wk_c_X11_meanMark) := fun w h => ⟨(List.forall_mem_append.mpr ⟨(List.forall_mem_cons.mpr ⟨tw_845, (List.forall_mem_cons.mpr ⟨tw_846, (List.forall_mem_cons.mpr ⟨tw_847, (List.forall_mem_cons.mpr ⟨tw_142, (fun _ h => absurd h List.not_mem_nil)⟩)⟩)⟩)⟩), tk_c_X11_meanMark⟩) w h, good_of_word (kg_V gk_c_X11_meanMark w h)⟩
theorem gl_S_c_L_lock : GoodIn lw_tbl (va_wsS RL 241 yL_lock wk_c_L_lock) := fun w h => ⟨(List.forall_mem_append.mpr ⟨(List.forall_mem_cons.mpr ⟨tw_848, (List.forall_mem_cons.mpr ⟨tw_849, (List.forall_mem_cons.mpr ⟨tw_850, (fun _ h => absurd h List.not_mem_nil)⟩)⟩)⟩), tk_c_L_lock⟩) w h, good_of_word (kg_S gk_c_L_lock w h)⟩
theorem gl_V_c_X11_lock : GoodIn lw_tbl (wsV RL 244 RX11 yX11_lock wk_c_X11_lock) := fun w h => ⟨(List.forall_mem_append.mpr ⟨(List.forall_mem_cons.mpr ⟨tw_851, (List.forall_mem_cons.mpr ⟨tw_852, (List.forall_mem_cons.mpr ⟨tw_853, (List.forall_mem_cons.mpr ⟨tw_142, (fun _ h => absurd h List.not_mem_nil)⟩)⟩)⟩)⟩), tk_c_X11_lock⟩) w h, good_of_word (kg_V gk_c_X11_lock w h)⟩
theorem gl_V_c_X6_programLength : GoodIn lw_tbl (wsV RL 251 RX6 yX6_programLength wk_c_X6_programLength) := fun w h => ⟨(List.forall_mem_append.mpr ⟨(List.forall_mem_cons.mpr ⟨tw_854, (List.forall_mem_cons.mpr ⟨tw_855, (List.forall_mem_cons.mpr ⟨tw_856, (List.forall_mem_cons.mpr ⟨tw_24, (fun _ h => absurd h List.not_mem_nil)⟩)⟩)⟩)⟩), tk_c_X6_programLength⟩) w h, good_of_word (kg_V gk_c_X6_programLength w h)⟩
theorem gl_V_c_X11_programLength : GoodIn lw_tbl (wsV RL 254 RX11 yX11_programLength wk_c_X11_programLength) := fun w h => ⟨(List.forall_mem_append.mpr ⟨(List.forall_mem_cons.mpr ⟨tw_857, (List.forall_mem_cons.mpr ⟨tw_858, (List.forall_mem_cons.mpr ⟨tw_859, (List.forall_mem_cons.mpr ⟨tw_142, (fun _ h => absurd h List.not_mem_nil)⟩)⟩)⟩)⟩), tk_c_X11_programLength⟩) w h, good_of_word (kg_V gk_c_X11_programLength w h)⟩
theorem gl_V_c_X6_isTrue : GoodIn lw_tbl (wsV RL 340 RX6 yX6_isTrue wk_c_X6_isTrue) := fun w h => ⟨(List.forall_mem_append.mpr ⟨(List.forall_mem_cons.mpr ⟨tw_860, (List.forall_mem_cons.mpr ⟨tw_861, (List.forall_mem_cons.mpr ⟨tw_862, (List.forall_mem_cons.mpr ⟨tw_24, (fun _ h => absurd h List.not_mem_nil)⟩)⟩)⟩)⟩), tk_c_X6_isTrue⟩) w h, good_of_word (kg_V gk_c_X6_isTrue w h)⟩
theorem gl_V_c_X11_isTrue : GoodIn lw_tbl (wsV RL 344 RX11 yX11_isTrue wk_c_X11_isTrue) := fun w h => ⟨(List.forall_mem_append.mpr ⟨(List.forall_mem_cons.mpr ⟨tw_863, (List.forall_mem_cons.mpr ⟨tw_864, (List.forall_mem_cons.mpr ⟨tw_865, (List.forall_mem_cons.mpr ⟨tw_142, (fun _ h => absurd h List.not_mem_nil)⟩)⟩)⟩)⟩), tk_c_X11_isTrue⟩) w h, good_of_word (kg_V gk_c_X11_isTrue w h)⟩
theorem gl_S_c_L_edition : GoodIn lw_tbl (va_wsS RL 282 yL_edition wk_c_L_edition) := fun w h => ⟨(List.forall_mem_append.mpr ⟨(List.forall_mem_cons.mpr ⟨tw_866, (List.forall_mem_cons.mpr ⟨tw_867, (List.forall_mem_cons.mpr ⟨tw_868, (fun _ h => absurd h List.not_mem_nil)⟩)⟩)⟩), tk_c_L_edition⟩) w h, good_of_word (kg_S gk_c_L_edition w h)⟩
theorem gl_V_c_X11_edition : GoodIn lw_tbl (wsV RL 284 RX11 yX11_edition wk_c_X11_edition) := fun w h => ⟨(List.forall_mem_append.mpr ⟨(List.forall_mem_cons.mpr ⟨tw_869, (List.forall_mem_cons.mpr ⟨tw_870, (List.forall_mem_cons.mpr ⟨tw_871, (List.forall_mem_cons.mpr ⟨tw_142, (fun _ h => absurd h List.not_mem_nil)⟩)⟩)⟩)⟩), tk_c_X11_edition⟩) w h, good_of_word (kg_V gk_c_X11_edition w h)⟩
theorem gl_S_c_L_edition_bad : GoodIn lw_tbl (va_wsS RL 282 yL_edition wk_c_L_edition_bad) := fun w h => ⟨(List.forall_mem_append.mpr ⟨(List.forall_mem_cons.mpr ⟨tw_866, (List.forall_mem_cons.mpr ⟨tw_867, (List.forall_mem_cons.mpr ⟨tw_868, (fun _ h => absurd h List.not_mem_nil)⟩)⟩)⟩), tk_c_L_edition_bad⟩) w h, good_of_word (kg_S gk_c_L_edition_bad w h)⟩
theorem gl_V_c_X11_edition_bad : GoodIn lw_tbl (wsV RL 284 RX11 yX11_edition wk_c_X11_edition_bad) := fun w h => ⟨(List.forall_mem_append.mpr ⟨(List.forall_mem_cons.mpr ⟨tw_869, (List.forall_mem_cons.mpr ⟨tw_870, (List.forall_mem_cons.mpr ⟨tw_871, (List.forall_mem_cons.mpr ⟨tw_142, (fun _ h => absurd h List.not_mem_nil)⟩)⟩)⟩)⟩), tk_c_X11_edition_bad⟩) w h, good_of_word (kg_V gk_c_X11_edition_bad w h)⟩
theorem gl_S_c_L_earned : GoodIn lw_tbl (va_wsS RL 318 yL_earned wk_c_L_earned) := fun w h => ⟨(List.forall_mem_append.mpr ⟨(List.forall_mem_cons.mpr ⟨tw_872, (List.forall_mem_cons.mpr ⟨tw_873, (List.forall_mem_cons.mpr ⟨tw_874, (fun _ h => absurd h List.not_mem_nil)⟩)⟩)⟩), tk_c_L_earned⟩) w h, good_of_word (kg_S gk_c_L_earned w h)⟩
theorem gl_V_c_X11_earned : GoodIn lw_tbl (wsV RL 320 RX11 yX11_earned wk_c_X11_earned) := fun w h => ⟨(List.forall_mem_append.mpr ⟨(List.forall_mem_cons.mpr ⟨tw_875, (List.forall_mem_cons.mpr ⟨tw_876, (List.forall_mem_cons.mpr ⟨tw_877, (List.forall_mem_cons.mpr ⟨tw_142, (fun _ h => absurd h List.not_mem_nil)⟩)⟩)⟩)⟩), tk_c_X11_earned⟩) w h, good_of_word (kg_V gk_c_X11_earned w h)⟩
theorem gl_S_c_L_earned_bad1 : GoodIn lw_tbl (va_wsS RL 318 yL_earned wk_c_L_earned_bad1) := fun w h => ⟨(List.forall_mem_append.mpr ⟨(List.forall_mem_cons.mpr ⟨tw_872, (List.forall_mem_cons.mpr ⟨tw_873, (List.forall_mem_cons.mpr ⟨tw_874, (fun _ h => absurd h List.not_mem_nil)⟩)⟩)⟩), tk_c_L_earned_bad1⟩) w h, good_of_word (kg_S gk_c_L_earned_bad1 w h)⟩
theorem gl_V_c_X11_earned_bad1 : GoodIn lw_tbl (wsV RL 320 RX11 yX11_earned wk_c_X11_earned_bad1) := fun w h => ⟨(List.forall_mem_append.mpr ⟨(List.forall_mem_cons.mpr ⟨tw_875, (List.forall_mem_cons.mpr ⟨tw_876, (List.forall_mem_cons.mpr ⟨tw_877, (List.forall_mem_cons.mpr ⟨tw_142, (fun _ h => absurd h List.not_mem_nil)⟩)⟩)⟩)⟩), tk_c_X11_earned_bad1⟩) w h, good_of_word (kg_V gk_c_X11_earned_bad1 w h)⟩
theorem gl_S_c_L_earned_bad2 : GoodIn lw_tbl (va_wsS RL 318 yL_earned wk_c_L_earned_bad2) := fun w h => ⟨(List.forall_mem_append.mpr ⟨(List.forall_mem_cons.mpr ⟨tw_872, (List.forall_mem_cons.mpr ⟨tw_873, (List.forall_mem_cons.mpr ⟨tw_874, (fun _ h => absurd h List.not_mem_nil)⟩)⟩)⟩), tk_c_L_earned_bad2⟩) w h, good_of_word (kg_S gk_c_L_earned_bad2 w h)⟩
theorem gl_V_c_X11_earned_bad2 : GoodIn lw_tbl (wsV RL 320 RX11 yX11_earned wk_c_X11_earned_bad2) := fun w h => ⟨(List.forall_mem_append.mpr ⟨(List.forall_mem_cons.mpr ⟨tw_875, (List.forall_mem_cons.mpr ⟨tw_876, (List.forall_mem_cons.mpr ⟨tw_877, (List.forall_mem_cons.mpr ⟨tw_142, (fun _ h => absurd h List.not_mem_nil)⟩)⟩)⟩)⟩), tk_c_X11_earned_bad2⟩) w h, good_of_word (kg_V gk_c_X11_earned_bad2 w h)⟩
theorem gl_S_c_L_reel : GoodIn lw_tbl (va_wsS RL 177 yL_reel wk_c_L_reel) := fun w h => ⟨(List.forall_mem_append.mpr ⟨(List.forall_mem_cons.mpr ⟨tw_878, (List.forall_mem_cons.mpr ⟨tw_879, (List.forall_mem_cons.mpr ⟨tw_880, (fun _ h => absurd h List.not_mem_nil)⟩)⟩)⟩), tk_c_L_reel⟩) w h, good_of_word (kg_S gk_c_L_reel w h)⟩
theorem gl_V_c_X11_reel : GoodIn lw_tbl (wsV RL 182 RX11 yX11_reel wk_c_X11_reel) := fun w h => ⟨(List.forall_mem_append.mpr ⟨(List.forall_mem_cons.mpr ⟨tw_881, (List.forall_mem_cons.mpr ⟨tw_882, (List.forall_mem_cons.mpr ⟨tw_883, (List.forall_mem_cons.mpr ⟨tw_142, (fun _ h => absurd h List.not_mem_nil)⟩)⟩)⟩)⟩), tk_c_X11_reel⟩) w h, good_of_word (kg_V gk_c_X11_reel w h)⟩
theorem gl_S_c_L_silence : GoodIn lw_tbl (va_wsS RL 202 yL_silence wk_c_L_silence) := fun w h => ⟨(List.forall_mem_append.mpr ⟨(List.forall_mem_cons.mpr ⟨tw_884, (List.forall_mem_cons.mpr ⟨tw_885, (List.forall_mem_cons.mpr ⟨tw_886, (fun _ h => absurd h List.not_mem_nil)⟩)⟩)⟩), tk_c_L_silence⟩) w h, good_of_word (kg_S gk_c_L_silence w h)⟩
theorem gl_V_c_X11_silence : GoodIn lw_tbl (wsV RL 204 RX11 yX11_silence wk_c_X11_silence) := fun w h => ⟨(List.forall_mem_append.mpr ⟨(List.forall_mem_cons.mpr ⟨tw_887, (List.forall_mem_cons.mpr ⟨tw_888, (List.forall_mem_cons.mpr ⟨tw_889, (List.forall_mem_cons.mpr ⟨tw_142, (fun _ h => absurd h List.not_mem_nil)⟩)⟩)⟩)⟩), tk_c_X11_silence⟩) w h, good_of_word (kg_V gk_c_X11_silence w h)⟩
theorem gl_S_c_L_silence_bad : GoodIn lw_tbl (va_wsS RL 202 yL_silence wk_c_L_silence_bad) := fun w h => ⟨(List.forall_mem_append.mpr ⟨(List.forall_mem_cons.mpr ⟨tw_884, (List.forall_mem_cons.mpr ⟨tw_885, (List.forall_mem_cons.mpr ⟨tw_886, (fun _ h => absurd h List.not_mem_nil)⟩)⟩)⟩), tk_c_L_silence_bad⟩) w h, good_of_word (kg_S gk_c_L_silence_bad w h)⟩
theorem gl_V_c_X11_silence_bad : GoodIn lw_tbl (wsV RL 204 RX11 yX11_silence wk_c_X11_silence_bad) := fun w h => ⟨(List.forall_mem_append.mpr ⟨(List.forall_mem_cons.mpr ⟨tw_887, (List.forall_mem_cons.mpr ⟨tw_888, (List.forall_mem_cons.mpr ⟨tw_889, (List.forall_mem_cons.mpr ⟨tw_142, (fun _ h => absurd h List.not_mem_nil)⟩)⟩)⟩)⟩), tk_c_X11_silence_bad⟩) w h, good_of_word (kg_V gk_c_X11_silence_bad w h)⟩
theorem gl_S_c_L_sides : GoodIn lw_tbl (va_wsS RL 258 yL_sides wk_c_L_sides) := fun w h => ⟨(List.forall_mem_append.mpr ⟨(List.forall_mem_cons.mpr ⟨tw_890, (List.forall_mem_cons.mpr ⟨tw_891, (List.forall_mem_cons.mpr ⟨tw_892, (fun _ h => absurd h List.not_mem_nil)⟩)⟩)⟩), tk_c_L_sides⟩) w h, good_of_word (kg_S gk_c_L_sides w h)⟩
theorem gl_V_c_X11_sides : GoodIn lw_tbl (wsV RL 260 RX11 yX11_sides wk_c_X11_sides) := fun w h => ⟨(List.forall_mem_append.mpr ⟨(List.forall_mem_cons.mpr ⟨tw_893, (List.forall_mem_cons.mpr ⟨tw_894, (List.forall_mem_cons.mpr ⟨tw_895, (List.forall_mem_cons.mpr ⟨tw_142, (fun _ h => absurd h List.not_mem_nil)⟩)⟩)⟩)⟩), tk_c_X11_sides⟩) w h, good_of_word (kg_V gk_c_X11_sides w h)⟩
theorem gl_S_c_L_sides_bad : GoodIn lw_tbl (va_wsS RL 258 yL_sides wk_c_L_sides_bad) := fun w h => ⟨(List.forall_mem_append.mpr ⟨(List.forall_mem_cons.mpr ⟨tw_890, (List.forall_mem_cons.mpr ⟨tw_891, (List.forall_mem_cons.mpr ⟨tw_892, (fun _ h => absurd h List.not_mem_nil)⟩)⟩)⟩), tk_c_L_sides_bad⟩) w h, good_of_word (kg_S gk_c_L_sides_bad w h)⟩
theorem gl_V_c_X11_sides_bad : GoodIn lw_tbl (wsV RL 260 RX11 yX11_sides wk_c_X11_sides_bad) := fun w h => ⟨(List.forall_mem_append.mpr ⟨(List.forall_mem_cons.mpr ⟨tw_893, (List.forall_mem_cons.mpr ⟨tw_894, (List.forall_mem_cons.mpr ⟨tw_895, (List.forall_mem_cons.mpr ⟨tw_142, (fun _ h => absurd h List.not_mem_nil)⟩)⟩)⟩)⟩), tk_c_X11_sides_bad⟩) w h, good_of_word (kg_V gk_c_X11_sides_bad w h)⟩
theorem gl_S_c_L_engrave : GoodIn lw_tbl (va_wsS RL 264 yL_engrave wk_c_L_engrave) := fun w h => ⟨(List.forall_mem_append.mpr ⟨(List.forall_mem_cons.mpr ⟨tw_896, (List.forall_mem_cons.mpr ⟨tw_897, (List.forall_mem_cons.mpr ⟨tw_898, (fun _ h => absurd h List.not_mem_nil)⟩)⟩)⟩), tk_c_L_engrave⟩) w h, good_of_word (kg_S gk_c_L_engrave w h)⟩
theorem gl_V_c_X11_engrave : GoodIn lw_tbl (wsV RL 266 RX11 yX11_engrave wk_c_X11_engrave) := fun w h => ⟨(List.forall_mem_append.mpr ⟨(List.forall_mem_cons.mpr ⟨tw_899, (List.forall_mem_cons.mpr ⟨tw_900, (List.forall_mem_cons.mpr ⟨tw_901, (List.forall_mem_cons.mpr ⟨tw_142, (fun _ h => absurd h List.not_mem_nil)⟩)⟩)⟩)⟩), tk_c_X11_engrave⟩) w h, good_of_word (kg_V gk_c_X11_engrave w h)⟩
theorem gl_S_c_L_engrave_bad : GoodIn lw_tbl (va_wsS RL 264 yL_engrave wk_c_L_engrave_bad) := fun w h => ⟨(List.forall_mem_append.mpr ⟨(List.forall_mem_cons.mpr ⟨tw_896, (List.forall_mem_cons.mpr ⟨tw_897, (List.forall_mem_cons.mpr ⟨tw_898, (fun _ h => absurd h List.not_mem_nil)⟩)⟩)⟩), tk_c_L_engrave_bad⟩) w h, good_of_word (kg_S gk_c_L_engrave_bad w h)⟩
theorem gl_V_c_X11_engrave_bad : GoodIn lw_tbl (wsV RL 266 RX11 yX11_engrave wk_c_X11_engrave_bad) := fun w h => ⟨(List.forall_mem_append.mpr ⟨(List.forall_mem_cons.mpr ⟨tw_899, (List.forall_mem_cons.mpr ⟨tw_900, (List.forall_mem_cons.mpr ⟨tw_901, (List.forall_mem_cons.mpr ⟨tw_142, (fun _ h => absurd h List.not_mem_nil)⟩)⟩)⟩)⟩), tk_c_X11_engrave_bad⟩) w h, good_of_word (kg_V gk_c_X11_engrave_bad w h)⟩
theorem gl_S_c_L_shuffled : GoodIn lw_tbl (va_wsS RL 309 yL_shuffled wk_c_L_shuffled) := fun w h => ⟨(List.forall_mem_append.mpr ⟨(List.forall_mem_cons.mpr ⟨tw_902, (List.forall_mem_cons.mpr ⟨tw_903, (List.forall_mem_cons.mpr ⟨tw_904, (fun _ h => absurd h List.not_mem_nil)⟩)⟩)⟩), tk_c_L_shuffled⟩) w h, good_of_word (kg_S gk_c_L_shuffled w h)⟩
theorem gl_V_c_X11_shuffled : GoodIn lw_tbl (wsV RL 311 RX11 yX11_shuffled wk_c_X11_shuffled) := fun w h => ⟨(List.forall_mem_append.mpr ⟨(List.forall_mem_cons.mpr ⟨tw_905, (List.forall_mem_cons.mpr ⟨tw_906, (List.forall_mem_cons.mpr ⟨tw_907, (List.forall_mem_cons.mpr ⟨tw_142, (fun _ h => absurd h List.not_mem_nil)⟩)⟩)⟩)⟩), tk_c_X11_shuffled⟩) w h, good_of_word (kg_V gk_c_X11_shuffled w h)⟩
theorem gl_S_c_L_shuffled_bad : GoodIn lw_tbl (va_wsS RL 309 yL_shuffled wk_c_L_shuffled_bad) := fun w h => ⟨(List.forall_mem_append.mpr ⟨(List.forall_mem_cons.mpr ⟨tw_902, (List.forall_mem_cons.mpr ⟨tw_903, (List.forall_mem_cons.mpr ⟨tw_904, (fun _ h => absurd h List.not_mem_nil)⟩)⟩)⟩), tk_c_L_shuffled_bad⟩) w h, good_of_word (kg_S gk_c_L_shuffled_bad w h)⟩
theorem gl_V_c_X11_shuffled_bad : GoodIn lw_tbl (wsV RL 311 RX11 yX11_shuffled wk_c_X11_shuffled_bad) := fun w h => ⟨(List.forall_mem_append.mpr ⟨(List.forall_mem_cons.mpr ⟨tw_905, (List.forall_mem_cons.mpr ⟨tw_906, (List.forall_mem_cons.mpr ⟨tw_907, (List.forall_mem_cons.mpr ⟨tw_142, (fun _ h => absurd h List.not_mem_nil)⟩)⟩)⟩)⟩), tk_c_X11_shuffled_bad⟩) w h, good_of_word (kg_V gk_c_X11_shuffled_bad w h)⟩
theorem gl_V_c_X6_checksum : GoodIn lw_tbl (wsV RL 335 RX6 yX6_checksum wk_c_X6_checksum) := fun w h => ⟨(List.forall_mem_append.mpr ⟨(List.forall_mem_cons.mpr ⟨tw_908, (List.forall_mem_cons.mpr ⟨tw_909, (List.forall_mem_cons.mpr ⟨tw_910, (List.forall_mem_cons.mpr ⟨tw_24, (fun _ h => absurd h List.not_mem_nil)⟩)⟩)⟩)⟩), tk_c_X6_checksum⟩) w h, good_of_word (kg_V gk_c_X6_checksum w h)⟩
theorem gl_V_c_X11_checksum : GoodIn lw_tbl (wsV RL 339 RX11 yX11_checksum wk_c_X11_checksum) := fun w h => ⟨(List.forall_mem_append.mpr ⟨(List.forall_mem_cons.mpr ⟨tw_911, (List.forall_mem_cons.mpr ⟨tw_912, (List.forall_mem_cons.mpr ⟨tw_913, (List.forall_mem_cons.mpr ⟨tw_142, (fun _ h => absurd h List.not_mem_nil)⟩)⟩)⟩)⟩), tk_c_X11_checksum⟩) w h, good_of_word (kg_V gk_c_X11_checksum w h)⟩
