theorem fl_X7_11 : FL RX7 11 "SetAsMeant" "rows" "[LSetAsMeant$Row;" := Or.inl (tb_at 245 (by decide +kernel) rfl)
theorem fl_X7_15 : FL RX7 15 "SetAsMeant" "texts" "[LSetAsMeant$Row;" := Or.inl (tb_at 246 (by decide +kernel) rfl)
theorem fl_X7_21 : FL RX7 21 "SetAsMeant" "reader" "LSetAsMeant$Reader;" := Or.inl (tb_at 247 (by decide +kernel) rfl)
theorem fl_X7_28 : FL RX7 28 "SetAsMeant" "now" "LSetAsMeant$Press;" := Or.inl (tb_at 248 (by decide +kernel) rfl)
theorem fl_X7_32 : FL RX7 32 "SetAsMeant" "kept" "[LSetAsMeant$Press;" := Or.inl (tb_at 249 (by decide +kernel) rfl)
theorem fl_X7_39 : FL RX7 39 "SetAsMeant" "writings" "LSetAsMeant$Writings;" := Or.inl (tb_at 250 (by decide +kernel) rfl)
theorem fl_X7_46 : FL RX7 46 "SetAsMeant" "alikes" "LSetAsMeant$Alikes;" := Or.inl (tb_at 251 (by decide +kernel) rfl)
theorem fl_X7_53 : FL RX7 53 "SetAsMeant" "scratch" "LSetAsMeant$Row;" := Or.inl (tb_at 252 (by decide +kernel) rfl)
theorem fl_X7_60 : FL RX7 60 "SetAsMeant" "trial" "LSetAsMeant$Trial;" := Or.inl (tb_at 253 (by decide +kernel) rfl)
theorem fl_X7_67 : FL RX7 67 "SetAsMeant" "spare" "LSetAsMeant$Law;" := Or.inl (tb_at 254 (by decide +kernel) rfl)
theorem fl_X7_71 : FL RX7 71 "SetAsMeant" "seen" "[J" := Or.inl (tb_at 255 (by decide +kernel) rfl)
theorem fl_X7_75 : FL RX7 75 "SetAsMeant" "answered" "[I" := Or.inl (tb_at 256 (by decide +kernel) rfl)
theorem fl_X7_79 : FL RX7 79 "SetAsMeant" "latest" "I" := Or.inl (tb_at 257 (by decide +kernel) rfl)
theorem fl_X7_83 : FL RX7 83 "SetAsMeant" "told" "I" := Or.inl (tb_at 258 (by decide +kernel) rfl)
theorem fl_X7_86 : FL RX7 86 "SetAsMeant" "above" "J" := Or.inl (tb_at 259 (by decide +kernel) rfl)
theorem fl_X7_90 : FL RX7 90 "SetAsMeant" "below" "J" := Or.inl (tb_at 260 (by decide +kernel) rfl)
theorem fl_X7_126 : FL RX7 126 "SetAsMeant$Row" "cells" "[I" := Or.inr ⟨"SetAsMeant", by decide +kernel⟩
theorem fl_X7_135 : FL RX7 135 "SetAsMeant$Row" "size" "I" := Or.inr ⟨"SetAsMeant", by decide +kernel⟩
theorem fl_X7_153 : FL RX7 153 "SetAsMeant$Press" "size" "I" := Or.inr ⟨"SetAsMeant", by decide +kernel⟩
theorem fl_X7_164 : FL RX7 164 "SetAsMeant$Law" "x" "I" := Or.inr ⟨"SetAsMeant", by decide +kernel⟩
theorem fl_X7_173 : FL RX7 173 "SetAsMeant$Law" "z" "I" := Or.inr ⟨"SetAsMeant", by decide +kernel⟩
theorem fl_X7_184 : FL RX7 184 "SetAsMeant$Law" "y" "I" := Or.inr ⟨"SetAsMeant", by decide +kernel⟩
theorem fl_X7_195 : FL RX7 195 "SetAsMeant$Law" "isHushed" "Z" := Or.inr ⟨"SetAsMeant", by decide +kernel⟩
theorem fl_X7_252 : FL RX7 252 "SetAsMeant$Alikes" "unlike" "I" := Or.inr ⟨"SetAsMeant", by decide +kernel⟩
theorem fl_X7_255 : FL RX7 255 "SetAsMeant$Alikes" "firstTwin" "I" := Or.inr ⟨"SetAsMeant", by decide +kernel⟩
theorem fl_X7_261 : FL RX7 261 "SetAsMeant$Alikes" "secondTwin" "I" := Or.inr ⟨"SetAsMeant", by decide +kernel⟩
theorem fl_X7_307 : FL RX7 307 "SetAsMeant$Press" "done" "I" := Or.inr ⟨"SetAsMeant", by decide +kernel⟩
theorem fl_X7_369 : FL RX7 369 "SetAsMeant" "HAVING" "[J" := Or.inl (tb_at 687 (by decide +kernel) rfl)
theorem fl_X0_9 : FL RX0 9 "SetAsMeant$Alikes" "outs" "[J" := Or.inl (tb_at 185 (by decide +kernel) rfl)
theorem fl_X0_15 : FL RX0 15 "SetAsMeant$Alikes" "slots" "[I" := Or.inl (tb_at 186 (by decide +kernel) rfl)
theorem fl_X0_19 : FL RX0 19 "SetAsMeant$Alikes" "unlike" "I" := Or.inl (tb_at 187 (by decide +kernel) rfl)
theorem fl_X0_23 : FL RX0 23 "SetAsMeant$Alikes" "firstTwin" "I" := Or.inl (tb_at 189 (by decide +kernel) rfl)
theorem fl_X0_26 : FL RX0 26 "SetAsMeant$Alikes" "secondTwin" "I" := Or.inl (tb_at 191 (by decide +kernel) rfl)
theorem fl_X1_9 : FL RX1 9 "SetAsMeant$Law" "kind" "I" := Or.inl (tb_at 94 (by decide +kernel) rfl)
theorem fl_X1_15 : FL RX1 15 "SetAsMeant$Law" "x" "I" := Or.inl (tb_at 95 (by decide +kernel) rfl)
theorem fl_X1_18 : FL RX1 18 "SetAsMeant$Law" "y" "I" := Or.inl (tb_at 98 (by decide +kernel) rfl)
theorem fl_X1_21 : FL RX1 21 "SetAsMeant$Law" "z" "I" := Or.inl (tb_at 100 (by decide +kernel) rfl)
theorem fl_X1_24 : FL RX1 24 "SetAsMeant$Law" "isHushed" "Z" := Or.inl (tb_at 102 (by decide +kernel) rfl)
theorem fl_X2_11 : FL RX2 11 "SetAsMeant$Press" "laws" "[LSetAsMeant$Law;" := Or.inl (tb_at 133 (by decide +kernel) rfl)
theorem fl_X2_17 : FL RX2 17 "SetAsMeant$Press" "deeds" "[J" := Or.inl (tb_at 134 (by decide +kernel) rfl)
theorem fl_X2_21 : FL RX2 21 "SetAsMeant$Press" "inks" "[I" := Or.inl (tb_at 135 (by decide +kernel) rfl)
theorem fl_X2_25 : FL RX2 25 "SetAsMeant$Press" "size" "I" := Or.inl (tb_at 136 (by decide +kernel) rfl)
theorem fl_X2_29 : FL RX2 29 "SetAsMeant$Press" "done" "I" := Or.inl (tb_at 138 (by decide +kernel) rfl)
theorem fl_X2_33 : FL RX2 33 "SetAsMeant$Reader" "size" "I" := Or.inr ⟨"SetAsMeant", by decide +kernel⟩
theorem fl_X2_42 : FL RX2 42 "SetAsMeant$Reader" "items" "[LSetAsMeant$Law;" := Or.inr ⟨"SetAsMeant", by decide +kernel⟩
theorem fl_X2_65 : FL RX2 65 "SetAsMeant$Law" "isHushed" "Z" := Or.inr ⟨"SetAsMeant", by decide +kernel⟩
theorem fl_X2_69 : FL RX2 69 "SetAsMeant$Law" "x" "I" := Or.inr ⟨"SetAsMeant", by decide +kernel⟩
theorem fl_X2_92 : FL RX2 92 "SetAsMeant$Row" "size" "I" := Or.inr ⟨"SetAsMeant", by decide +kernel⟩
theorem fl_X3_11 : FL RX3 11 "SetAsMeant$Reader" "items" "[LSetAsMeant$Law;" := Or.inl (tb_at 116 (by decide +kernel) rfl)
theorem fl_X3_17 : FL RX3 17 "SetAsMeant$Reader" "size" "I" := Or.inl (tb_at 118 (by decide +kernel) rfl)
theorem fl_X3_22 : FL RX3 22 "SetAsMeant$Row" "size" "I" := Or.inr ⟨"SetAsMeant", by decide +kernel⟩
theorem fl_X3_43 : FL RX3 43 "SetAsMeant" "LETTERS" "[I" := Or.inr ⟨"SetAsMeant", by decide +kernel⟩
theorem fl_X4_9 : FL RX4 9 "SetAsMeant$Row" "size" "I" := Or.inl (tb_at 214 (by decide +kernel) rfl)
theorem fl_X4_21 : FL RX4 21 "SetAsMeant$Row" "cells" "[I" := Or.inl (tb_at 212 (by decide +kernel) rfl)
theorem fl_X5_9 : FL RX5 9 "SetAsMeant$Trial" "signs" "[I" := Or.inl (tb_at 230 (by decide +kernel) rfl)
theorem fl_X5_15 : FL RX5 15 "SetAsMeant$Trial" "holding" "[I" := Or.inl (tb_at 231 (by decide +kernel) rfl)
theorem fl_X5_18 : FL RX5 18 "SetAsMeant$Trial" "size" "I" := Or.inl (tb_at 232 (by decide +kernel) rfl)
theorem fl_X5_22 : FL RX5 22 "SetAsMeant$Trial" "press" "LSetAsMeant$Press;" := Or.inl (tb_at 233 (by decide +kernel) rfl)
theorem fl_X5_26 : FL RX5 26 "SetAsMeant$Row" "size" "I" := Or.inr ⟨"SetAsMeant", by decide +kernel⟩
theorem fl_X6_9 : FL RX6 9 "SetAsMeant$Writings" "pieces" "[J" := Or.inl (tb_at 160 (by decide +kernel) rfl)
theorem fl_X6_15 : FL RX6 15 "SetAsMeant$Writings" "sizes" "[I" := Or.inl (tb_at 161 (by decide +kernel) rfl)
theorem fl_X6_19 : FL RX6 19 "SetAsMeant$Writings" "ways" "[J" := Or.inl (tb_at 162 (by decide +kernel) rfl)
theorem fl_X6_22 : FL RX6 22 "SetAsMeant$Writings" "ends" "[I" := Or.inl (tb_at 163 (by decide +kernel) rfl)
theorem fl_X6_25 : FL RX6 25 "SetAsMeant$Writings" "aim" "J" := Or.inl (tb_at 164 (by decide +kernel) rfl)
theorem fl_X6_29 : FL RX6 29 "SetAsMeant$Writings" "aimSize" "I" := Or.inl (tb_at 165 (by decide +kernel) rfl)
theorem fl_X6_65 : FL RX6 65 "SetAsMeant" "HAVING" "[J" := Or.inr ⟨"SetAsMeant", by decide +kernel⟩
theorem fl_X8_7 : FL RX8 7 "SetAsMeantModel" "findings" "[I" := Or.inl (tb_at 865 (by decide +kernel) rfl)
theorem fl_X8_13 : FL RX8 13 "SetAsMeantModel" "lower" "J" := Or.inl (tb_at 868 (by decide +kernel) rfl)
theorem fl_X8_17 : FL RX8 17 "SetAsMeantModel" "sizes" "[I" := Or.inl (tb_at 869 (by decide +kernel) rfl)
theorem fl_X8_20 : FL RX8 20 "SetAsMeantModel" "rows" "[I" := Or.inl (tb_at 870 (by decide +kernel) rfl)
theorem fl_X8_23 : FL RX8 23 "SetAsMeantModel" "moving" "[I" := Or.inl (tb_at 871 (by decide +kernel) rfl)
theorem fl_X8_26 : FL RX8 26 "SetAsMeantModel" "lengths" "[I" := Or.inl (tb_at 872 (by decide +kernel) rfl)
theorem fl_X8_29 : FL RX8 29 "SetAsMeantModel" "texts" "[I" := Or.inl (tb_at 873 (by decide +kernel) rfl)
theorem fl_X8_32 : FL RX8 32 "SetAsMeantModel" "laws" "[I" := Or.inl (tb_at 875 (by decide +kernel) rfl)
theorem fl_X8_35 : FL RX8 35 "SetAsMeantModel" "read" "[I" := Or.inl (tb_at 878 (by decide +kernel) rfl)
theorem fl_X8_38 : FL RX8 38 "SetAsMeantModel" "sheet" "[I" := Or.inl (tb_at 879 (by decide +kernel) rfl)
theorem fl_X8_41 : FL RX8 41 "SetAsMeantModel" "out" "[I" := Or.inl (tb_at 881 (by decide +kernel) rfl)
theorem fl_X8_44 : FL RX8 44 "SetAsMeantModel" "cameMany" "[I" := Or.inl (tb_at 883 (by decide +kernel) rfl)
theorem fl_X8_47 : FL RX8 47 "SetAsMeantModel" "came" "[I" := Or.inl (tb_at 884 (by decide +kernel) rfl)
theorem fl_X8_50 : FL RX8 50 "SetAsMeantModel" "other" "[I" := Or.inl (tb_at 885 (by decide +kernel) rfl)
theorem fl_X8_53 : FL RX8 53 "SetAsMeantModel" "goal" "[I" := Or.inl (tb_at 886 (by decide +kernel) rfl)
theorem fl_X8_56 : FL RX8 56 "SetAsMeantModel" "codes" "[J" := Or.inl (tb_at 888 (by decide +kernel) rfl)
theorem fl_X8_60 : FL RX8 60 "SetAsMeantModel" "written" "[Z" := Or.inl (tb_at 889 (by decide +kernel) rfl)
theorem fl_X8_64 : FL RX8 64 "SetAsMeantModel" "inks" "[I" := Or.inl (tb_at 891 (by decide +kernel) rfl)
theorem fl_X8_67 : FL RX8 67 "SetAsMeantModel" "drawers" "[I" := Or.inl (tb_at 892 (by decide +kernel) rfl)
theorem fl_X8_70 : FL RX8 70 "SetAsMeantModel" "kept" "[I" := Or.inl (tb_at 893 (by decide +kernel) rfl)
theorem fl_X8_73 : FL RX8 73 "SetAsMeantModel" "finding" "I" := Or.inl (tb_at 864 (by decide +kernel) rfl)
theorem fl_X8_77 : FL RX8 77 "SetAsMeantModel" "asked" "I" := Or.inl (tb_at 866 (by decide +kernel) rfl)
theorem fl_X8_80 : FL RX8 80 "SetAsMeantModel" "upper" "J" := Or.inl (tb_at 867 (by decide +kernel) rfl)
theorem fl_X8_118 : FL RX8 118 "SetAsMeantModel" "readAt" "I" := Or.inl (tb_at 876 (by decide +kernel) rfl)
theorem fl_X8_127 : FL RX8 127 "SetAsMeantModel" "readMany" "I" := Or.inl (tb_at 877 (by decide +kernel) rfl)
theorem fl_X8_139 : FL RX8 139 "SetAsMeantModel" "many" "I" := Or.inl (tb_at 874 (by decide +kernel) rfl)
theorem fl_X8_142 : FL RX8 142 "SetAsMeantModel" "deedMany" "I" := Or.inl (tb_at 890 (by decide +kernel) rfl)
theorem fl_X8_151 : FL RX8 151 "SetAsMeantModel" "sheetMany" "I" := Or.inl (tb_at 880 (by decide +kernel) rfl)
theorem fl_X8_161 : FL RX8 161 "SetAsMeantModel" "outMany" "I" := Or.inl (tb_at 882 (by decide +kernel) rfl)
theorem fl_X8_232 : FL RX8 232 "SetAsMeantModel" "goalMany" "I" := Or.inl (tb_at 887 (by decide +kernel) rfl)
theorem fl_X8_288 : FL RX8 288 "SetAsMeantModel" "h0" "J" := Or.inl (tb_at 894 (by decide +kernel) rfl)
theorem ml_X7_20 : ML RX7 20 yX3_init := Or.inl (tb_at 83 (by decide +kernel) rfl)
theorem ml_X7_27 : ML RX7 27 yX2_init := Or.inl (tb_at 127 (by decide +kernel) rfl)
theorem ml_X7_38 : ML RX7 38 yX6_init := Or.inr ⟨"SetAsMeant", by decide +kernel⟩
theorem ml_X7_45 : ML RX7 45 yX0_init := Or.inr ⟨"SetAsMeant", by decide +kernel⟩
theorem ml_X7_50 : ML RX7 50 yX4_init := Or.inl (tb_at 205 (by decide +kernel) rfl)
theorem ml_X7_59 : ML RX7 59 yX5_init := Or.inr ⟨"SetAsMeant", by decide +kernel⟩
theorem ml_X7_66 : ML RX7 66 yX1_init := Or.inr ⟨"SetAsMeant", by decide +kernel⟩
theorem ml_X7_93 : ML RX7 93 yX7_rowOf := Or.inl (tb_at 298 (by decide +kernel) rfl)
theorem ml_X7_97 : ML RX7 97 yX7_answer := Or.inl (tb_at 302 (by decide +kernel) rfl)
theorem ml_X7_101 : ML RX7 101 yX4_renew := Or.inl (tb_at 306 (by decide +kernel) rfl)
theorem ml_X7_105 : ML RX7 105 yX4_isThere := Or.inl (tb_at 320 (by decide +kernel) rfl)
theorem ml_X7_109 : ML RX7 109 yX4_hasPlace := Or.inl (tb_at 324 (by decide +kernel) rfl)
theorem ml_X7_113 : ML RX7 113 yX4_cell := Or.inl (tb_at 328 (by decide +kernel) rfl)
theorem ml_X7_116 : ML RX7 116 yX4_change := Or.inl (tb_at 333 (by decide +kernel) rfl)
theorem ml_X7_119 : ML RX7 119 yX4_leave := Or.inl (tb_at 345 (by decide +kernel) rfl)
theorem ml_X7_122 : ML RX7 122 yX4_hasPlaces := Or.inl (tb_at 353 (by decide +kernel) rfl)
theorem ml_X7_138 : ML RX7 138 yX4_sum := Or.inl (tb_at 364 (by decide +kernel) rfl)
theorem ml_X7_142 : ML RX7 142 yX7_textOf := Or.inl (tb_at 373 (by decide +kernel) rfl)
theorem ml_X7_145 : ML RX7 145 yX3_read := Or.inl (tb_at 385 (by decide +kernel) rfl)
theorem ml_X7_149 : ML RX7 149 yX2_begin := Or.inl (tb_at 409 (by decide +kernel) rfl)
theorem ml_X7_154 : ML RX7 154 yX2_numbered := Or.inl (tb_at 424 (by decide +kernel) rfl)
theorem ml_X7_158 : ML RX7 158 yX1_tell := Or.inl (tb_at 428 (by decide +kernel) rfl)
theorem ml_X7_161 : ML RX7 161 yX1_isOf := Or.inl (tb_at 436 (by decide +kernel) rfl)
theorem ml_X7_167 : ML RX7 167 yX2_inksOf := Or.inl (tb_at 440 (by decide +kernel) rfl)
theorem ml_X7_170 : ML RX7 170 yX2_lawsOf := Or.inl (tb_at 444 (by decide +kernel) rfl)
theorem ml_X7_176 : ML RX7 176 yX2_onSet := Or.inl (tb_at 448 (by decide +kernel) rfl)
theorem ml_X7_180 : ML RX7 180 yX2_chosen := Or.inl (tb_at 452 (by decide +kernel) rfl)
theorem ml_X7_187 : ML RX7 187 yX2_outOfSign := Or.inl (tb_at 461 (by decide +kernel) rfl)
theorem ml_X7_191 : ML RX7 191 yX7_packed := Or.inl (tb_at 475 (by decide +kernel) rfl)
theorem ml_X7_199 : ML RX7 199 yX2_exchange := Or.inl (tb_at 484 (by decide +kernel) rfl)
theorem ml_X7_202 : ML RX7 202 yX7_refuses := Or.inl (tb_at 492 (by decide +kernel) rfl)
theorem ml_X7_206 : ML RX7 206 yX2_outOf := Or.inl (tb_at 500 (by decide +kernel) rfl)
theorem ml_X7_210 : ML RX7 210 yX4_unpack := Or.inl (tb_at 510 (by decide +kernel) rfl)
theorem ml_X7_214 : ML RX7 214 yX4_behind := Or.inl (tb_at 527 (by decide +kernel) rfl)
theorem ml_X7_217 : ML RX7 217 yJ9_max_7cf53 := Or.inl (tb_at 532 (by decide +kernel) rfl)
theorem ml_X7_223 : ML RX7 223 yX4_pack := Or.inl (tb_at 537 (by decide +kernel) rfl)
theorem ml_X7_226 : ML RX7 226 yX7_placeSeen := Or.inl (tb_at 546 (by decide +kernel) rfl)
theorem ml_X7_230 : ML RX7 230 yX6_know := Or.inl (tb_at 558 (by decide +kernel) rfl)
theorem ml_X7_234 : ML RX7 234 yX6_aim := Or.inl (tb_at 568 (by decide +kernel) rfl)
theorem ml_X7_238 : ML RX7 238 yX6_many := Or.inl (tb_at 583 (by decide +kernel) rfl)
theorem ml_X7_242 : ML RX7 242 yX7_tell := Or.inl (tb_at 587 (by decide +kernel) rfl)
theorem ml_X7_245 : ML RX7 245 yX7_believed := Or.inl (tb_at 595 (by decide +kernel) rfl)
theorem ml_X7_248 : ML RX7 248 yX0_gather := Or.inl (tb_at 616 (by decide +kernel) rfl)
theorem ml_X7_258 : ML RX7 258 yX4_addSheet := Or.inl (tb_at 634 (by decide +kernel) rfl)
theorem ml_X7_264 : ML RX7 264 yX6_manyWithout := Or.inl (tb_at 642 (by decide +kernel) rfl)
theorem ml_X7_267 : ML RX7 267 yX6_earliest := Or.inl (tb_at 599 (by decide +kernel) rfl)
theorem ml_X7_273 : ML RX7 273 yX6_usedFor := Or.inl (tb_at 663 (by decide +kernel) rfl)
theorem ml_X7_276 : ML RX7 276 yJ6_bitCount_0f7a4 := Or.inl (tb_at 677 (by decide +kernel) rfl)
theorem ml_X7_281 : ML RX7 281 yX7_setsWithout := Or.inl (tb_at 683 (by decide +kernel) rfl)
theorem ml_X7_284 : ML RX7 284 yX5_lie := Or.inl (tb_at 692 (by decide +kernel) rfl)
theorem ml_X7_288 : ML RX7 288 yX5_outBy := Or.inl (tb_at 703 (by decide +kernel) rfl)
theorem ml_X7_291 : ML RX7 291 yX1_take := Or.inl (tb_at 719 (by decide +kernel) rfl)
theorem ml_X7_295 : ML RX7 295 yX1_become := Or.inl (tb_at 720 (by decide +kernel) rfl)
theorem ml_X7_299 : ML RX7 299 yX7_weight := Or.inl (tb_at 725 (by decide +kernel) rfl)
theorem ml_X7_303 : ML RX7 303 yX7_signsIn := Or.inl (tb_at 732 (by decide +kernel) rfl)
theorem ml_X7_310 : ML RX7 310 yX2_addDeed := Or.inl (tb_at 737 (by decide +kernel) rfl)
theorem ml_X7_314 : ML RX7 314 yX2_dropDeed := Or.inl (tb_at 754 (by decide +kernel) rfl)
theorem ml_X7_317 : ML RX7 317 yX2_deed := Or.inl (tb_at 767 (by decide +kernel) rfl)
theorem ml_X7_321 : ML RX7 321 yX7_lotAfter := Or.inl (tb_at 773 (by decide +kernel) rfl)
theorem ml_X7_330 : ML RX7 330 yX4_add := Or.inl (tb_at 781 (by decide +kernel) rfl)
theorem ml_X7_333 : ML RX7 333 yX2_take := Or.inl (tb_at 786 (by decide +kernel) rfl)
theorem ml_X7_335 : ML RX7 335 yX2_isKept := Or.inl (tb_at 795 (by decide +kernel) rfl)
theorem ml_X7_338 : ML RX7 338 yX2_inksInAll := Or.inl (tb_at 815 (by decide +kernel) rfl)
theorem ml_X7_341 : ML RX7 341 yX2_lawsOfKind := Or.inl (tb_at 819 (by decide +kernel) rfl)
theorem ml_X7_344 : ML RX7 344 yX7_manyThere := Or.inl (tb_at 824 (by decide +kernel) rfl)
theorem ml_X7_348 : ML RX7 348 yX7_pressesKept := Or.inl (tb_at 827 (by decide +kernel) rfl)
theorem ml_X7_355 : ML RX7 355 yX7_count := Or.inl (tb_at 845 (by decide +kernel) rfl)
theorem ml_X7_358 : ML RX7 358 yX2_digested := Or.inl (tb_at 846 (by decide +kernel) rfl)
theorem ml_X7_362 : ML RX7 362 yX4_digested := Or.inl (tb_at 857 (by decide +kernel) rfl)
theorem ml_X7_364 : ML RX7 364 yX4_holdsSigns := Or.inl (tb_at 496 (by decide +kernel) rfl)
theorem ml_X0_29 : ML RX0 29 yJ7_fill_53178 := Or.inl (tb_at 620 (by decide +kernel) rfl)
theorem ml_X0_35 : ML RX0 35 yX6_outOfNumbered := Or.inl (tb_at 621 (by decide +kernel) rfl)
theorem ml_X0_41 : ML RX0 41 yX0_earliestLike := Or.inl (tb_at 625 (by decide +kernel) rfl)
theorem ml_X1_28 : ML RX1 28 yX1_become := Or.inl (tb_at 418 (by decide +kernel) rfl)
theorem ml_X1_32 : ML RX1 32 yX1_isOf := Or.inl (tb_at 460 (by decide +kernel) rfl)
theorem ml_X1_36 : ML RX1 36 yX7_packed := Or.inr ⟨"SetAsMeant", by decide +kernel⟩
theorem ml_X2_32 : ML RX2 32 yX1_init := Or.inr ⟨"SetAsMeant", by decide +kernel⟩
theorem ml_X2_36 : ML RX2 36 yJ9_min_7cf53 := Or.inl (tb_at 413 (by decide +kernel) rfl)
theorem ml_X2_45 : ML RX2 45 yX1_take := Or.inl (tb_at 414 (by decide +kernel) rfl)
theorem ml_X2_49 : ML RX2 49 yJ7_fill_53178 := Or.inl (tb_at 419 (by decide +kernel) rfl)
theorem ml_X2_61 : ML RX2 61 yX2_numbered := Or.inl (tb_at 466 (by decide +kernel) rfl)
theorem ml_X2_72 : ML RX2 72 yX1_isOf := Or.inl (tb_at 823 (by decide +kernel) rfl)
theorem ml_X2_76 : ML RX2 76 yX1_holds := Or.inl (tb_at 456 (by decide +kernel) rfl)
theorem ml_X2_80 : ML RX2 80 yX2_chosen := Or.inl (tb_at 465 (by decide +kernel) rfl)
theorem ml_X2_84 : ML RX2 84 yX7_packed := Or.inr ⟨"SetAsMeant", by decide +kernel⟩
theorem ml_X2_88 : ML RX2 88 yX1_after := Or.inl (tb_at 470 (by decide +kernel) rfl)
theorem ml_X2_95 : ML RX2 95 yX4_cell := Or.inl (tb_at 504 (by decide +kernel) rfl)
theorem ml_X2_99 : ML RX2 99 yX4_behind := Or.inl (tb_at 505 (by decide +kernel) rfl)
theorem ml_X2_102 : ML RX2 102 yX2_outOfSign := Or.inl (tb_at 509 (by decide +kernel) rfl)
theorem ml_X2_106 : ML RX2 106 yX4_pack := Or.inl (tb_at 741 (by decide +kernel) rfl)
theorem ml_X2_110 : ML RX2 110 yX2_takeInk := Or.inl (tb_at 742 (by decide +kernel) rfl)
theorem ml_X2_114 : ML RX2 114 yX2_deed := Or.inl (tb_at 758 (by decide +kernel) rfl)
theorem ml_X2_118 : ML RX2 118 yX4_unpack := Or.inl (tb_at 762 (by decide +kernel) rfl)
theorem ml_X2_124 : ML RX2 124 yX1_tell := Or.inl (tb_at 851 (by decide +kernel) rfl)
theorem ml_X2_127 : ML RX2 127 yX4_digested := Or.inl (tb_at 852 (by decide +kernel) rfl)
theorem ml_X3_21 : ML RX3 21 yX1_init := Or.inr ⟨"SetAsMeant", by decide +kernel⟩
theorem ml_X3_25 : ML RX3 25 yX4_cell := Or.inl (tb_at 389 (by decide +kernel) rfl)
theorem ml_X3_29 : ML RX3 29 yX3_kindOf := Or.inl (tb_at 390 (by decide +kernel) rfl)
theorem ml_X3_32 : ML RX3 32 yX3_signsOf := Or.inl (tb_at 395 (by decide +kernel) rfl)
theorem ml_X3_35 : ML RX3 35 yX3_signAt := Or.inl (tb_at 398 (by decide +kernel) rfl)
theorem ml_X3_39 : ML RX3 39 yX1_become := Or.inl (tb_at 401 (by decide +kernel) rfl)
theorem ml_X4_15 : ML RX4 15 yJ9_max_7cf53 := Or.inl (tb_at 209 (by decide +kernel) rfl)
theorem ml_X4_25 : ML RX4 25 yX4_hasPlace := Or.inl (tb_at 332 (by decide +kernel) rfl)
theorem ml_X4_29 : ML RX4 29 yJ9_min_7cf53 := Or.inl (tb_at 310 (by decide +kernel) rfl)
theorem ml_X4_32 : ML RX4 32 yJ7_fill_53178 := Or.inl (tb_at 313 (by decide +kernel) rfl)
theorem ml_X4_38 : ML RX4 38 yX4_add := Or.inl (tb_at 519 (by decide +kernel) rfl)
theorem ml_X4_42 : ML RX4 42 yX4_cell := Or.inl (tb_at 368 (by decide +kernel) rfl)
theorem ml_X4_46 : ML RX4 46 yX7_packed := Or.inr ⟨"SetAsMeant", by decide +kernel⟩
theorem ml_X4_50 : ML RX4 50 yX7_signsIn := Or.inr ⟨"SetAsMeant", by decide +kernel⟩
theorem ml_X4_54 : ML RX4 54 yX4_renew := Or.inl (tb_at 517 (by decide +kernel) rfl)
theorem ml_X5_29 : ML RX5 29 yJ9_min_7cf53 := Or.inl (tb_at 696 (by decide +kernel) rfl)
theorem ml_X5_35 : ML RX5 35 yX4_cell := Or.inl (tb_at 697 (by decide +kernel) rfl)
theorem ml_X5_39 : ML RX5 39 yX4_behind := Or.inl (tb_at 698 (by decide +kernel) rfl)
theorem ml_X5_42 : ML RX5 42 yX2_holding := Or.inl (tb_at 699 (by decide +kernel) rfl)
theorem ml_X5_46 : ML RX5 46 yJ6_bitCount_0f7a4 := Or.inl (tb_at 707 (by decide +kernel) rfl)
theorem ml_X5_51 : ML RX5 51 yX2_numbered := Or.inl (tb_at 708 (by decide +kernel) rfl)
theorem ml_X5_55 : ML RX5 55 yX7_packed := Or.inr ⟨"SetAsMeant", by decide +kernel⟩
theorem ml_X5_59 : ML RX5 59 yX1_after := Or.inl (tb_at 710 (by decide +kernel) rfl)
theorem ml_X6_33 : ML RX6 33 yX2_onSet := Or.inl (tb_at 562 (by decide +kernel) rfl)
theorem ml_X6_39 : ML RX6 39 yX6_pieceOf := Or.inl (tb_at 563 (by decide +kernel) rfl)
theorem ml_X6_43 : ML RX6 43 yX2_outOfSign := Or.inl (tb_at 566 (by decide +kernel) rfl)
theorem ml_X6_47 : ML RX6 47 yX7_signsIn := Or.inr ⟨"SetAsMeant", by decide +kernel⟩
theorem ml_X6_51 : ML RX6 51 yX6_wayOf := Or.inl (tb_at 572 (by decide +kernel) rfl)
theorem ml_X6_55 : ML RX6 55 yX6_waysFrom := Or.inl (tb_at 575 (by decide +kernel) rfl)
theorem ml_X6_59 : ML RX6 59 yX6_placeAfter := Or.inl (tb_at 579 (by decide +kernel) rfl)
theorem ml_X6_62 : ML RX6 62 yX6_usedFrom := Or.inl (tb_at 667 (by decide +kernel) rfl)
theorem ml_X6_68 : ML RX6 68 yX6_withSign := Or.inl (tb_at 673 (by decide +kernel) rfl)
theorem ml_X6_74 : ML RX6 74 yX6_aim := Or.inl (tb_at 603 (by decide +kernel) rfl)
theorem ml_X6_77 : ML RX6 77 yX6_many := Or.inl (tb_at 604 (by decide +kernel) rfl)
theorem ml_X6_81 : ML RX6 81 yX6_earliestOf := Or.inl (tb_at 605 (by decide +kernel) rfl)
theorem ml_X6_86 : ML RX6 86 yX7_packed := Or.inr ⟨"SetAsMeant", by decide +kernel⟩
theorem ml_X6_90 : ML RX6 90 yX6_endOf := Or.inl (tb_at 646 (by decide +kernel) rfl)
theorem ml_X6_93 : ML RX6 93 yX6_endsWithout := Or.inl (tb_at 649 (by decide +kernel) rfl)
theorem ml_X6_96 : ML RX6 96 yX6_isWithout := Or.inl (tb_at 653 (by decide +kernel) rfl)
theorem ml_L_9 : ML RL 9 yX7_init := Or.inl (tb_at 73 (by decide +kernel) rfl)
theorem ml_L_12 : ML RL 12 yX8_init := Or.inl (tb_at 860 (by decide +kernel) rfl)
theorem ml_L_13 : ML RL 13 yX7_row := Or.inl (tb_at 294 (by decide +kernel) rfl)
theorem ml_L_17 : ML RL 17 yX8_row := Or.inl (tb_at 959 (by decide +kernel) rfl)
theorem ml_L_18 : ML RL 18 yX7_lay := Or.inl (tb_at 316 (by decide +kernel) rfl)
theorem ml_L_22 : ML RL 22 yX8_lay := Or.inl (tb_at 993 (by decide +kernel) rfl)
theorem ml_L_23 : ML RL 23 yX7_at := Or.inl (tb_at 337 (by decide +kernel) rfl)
theorem ml_L_26 : ML RL 26 yX8_at := Or.inl (tb_at 977 (by decide +kernel) rfl)
theorem ml_L_27 : ML RL 27 yX7_tear := Or.inl (tb_at 341 (by decide +kernel) rfl)
theorem ml_L_31 : ML RL 31 yX8_tear := Or.inl (tb_at 998 (by decide +kernel) rfl)
theorem ml_L_32 : ML RL 32 yX7_copy := Or.inl (tb_at 349 (by decide +kernel) rfl)
theorem ml_L_36 : ML RL 36 yX8_copy := Or.inl (tb_at 1002 (by decide +kernel) rfl)
theorem ml_L_37 : ML RL 37 yX7_mean := Or.inl (tb_at 360 (by decide +kernel) rfl)
theorem ml_L_40 : ML RL 40 yX8_mean := Or.inl (tb_at 1006 (by decide +kernel) rfl)
theorem ml_L_41 : ML RL 41 yX7_text := Or.inl (tb_at 369 (by decide +kernel) rfl)
theorem ml_L_44 : ML RL 44 yX8_text := Or.inl (tb_at 1010 (by decide +kernel) rfl)
theorem ml_L_45 : ML RL 45 yX7_put := Or.inl (tb_at 377 (by decide +kernel) rfl)
theorem ml_L_48 : ML RL 48 yX8_put := Or.inl (tb_at 1017 (by decide +kernel) rfl)
theorem ml_L_49 : ML RL 49 yX7_fault := Or.inl (tb_at 381 (by decide +kernel) rfl)
theorem ml_L_52 : ML RL 52 yX8_fault := Or.inl (tb_at 1025 (by decide +kernel) rfl)
theorem ml_L_53 : ML RL 53 yX7_press := Or.inl (tb_at 405 (by decide +kernel) rfl)
theorem ml_L_56 : ML RL 56 yX8_press := Or.inl (tb_at 1047 (by decide +kernel) rfl)
theorem ml_L_57 : ML RL 57 yX7_law := Or.inl (tb_at 420 (by decide +kernel) rfl)
theorem ml_L_60 : ML RL 60 yX8_law := Or.inl (tb_at 1051 (by decide +kernel) rfl)
theorem ml_L_61 : ML RL 61 yX7_mark := Or.inl (tb_at 432 (by decide +kernel) rfl)
theorem ml_L_64 : ML RL 64 yX8_mark := Or.inl (tb_at 1063 (by decide +kernel) rfl)
theorem ml_L_65 : ML RL 65 yX7_hush := Or.inl (tb_at 476 (by decide +kernel) rfl)
theorem ml_L_68 : ML RL 68 yX8_hush := Or.inl (tb_at 1110 (by decide +kernel) rfl)
theorem ml_L_69 : ML RL 69 yX7_swap := Or.inl (tb_at 480 (by decide +kernel) rfl)
theorem ml_L_72 : ML RL 72 yX8_swap := Or.inl (tb_at 1114 (by decide +kernel) rfl)
theorem ml_L_73 : ML RL 73 yX7_set := Or.inl (tb_at 488 (by decide +kernel) rfl)
theorem ml_L_76 : ML RL 76 yX8_set := Or.inl (tb_at 1118 (by decide +kernel) rfl)
theorem ml_L_77 : ML RL 77 yX7_by := Or.inl (tb_at 523 (by decide +kernel) rfl)
theorem ml_L_80 : ML RL 80 yX8_by := Or.inl (tb_at 1138 (by decide +kernel) rfl)
theorem ml_L_81 : ML RL 81 yX7_first := Or.inl (tb_at 528 (by decide +kernel) rfl)
theorem ml_L_84 : ML RL 84 yX8_first := Or.inl (tb_at 1142 (by decide +kernel) rfl)
theorem ml_L_85 : ML RL 85 yX7_again := Or.inl (tb_at 533 (by decide +kernel) rfl)
theorem ml_L_88 : ML RL 88 yX8_again := Or.inl (tb_at 1146 (by decide +kernel) rfl)
theorem ml_L_89 : ML RL 89 yX7_rests := Or.inl (tb_at 542 (by decide +kernel) rfl)
theorem ml_L_92 : ML RL 92 yX8_rests := Or.inl (tb_at 1158 (by decide +kernel) rfl)
theorem ml_L_93 : ML RL 93 yX7_same := Or.inl (tb_at 550 (by decide +kernel) rfl)
theorem ml_L_96 : ML RL 96 yX8_same := Or.inl (tb_at 1166 (by decide +kernel) rfl)
theorem ml_L_97 : ML RL 97 yX7_meant := Or.inl (tb_at 554 (by decide +kernel) rfl)
theorem ml_L_100 : ML RL 100 yX8_meant := Or.inl (tb_at 1170 (by decide +kernel) rfl)
theorem ml_L_101 : ML RL 101 yX7_smallest := Or.inl (tb_at 591 (by decide +kernel) rfl)
theorem ml_L_104 : ML RL 104 yX8_smallest := Or.inl (tb_at 1189 (by decide +kernel) rfl)
theorem ml_L_105 : ML RL 105 yX7_outs := Or.inl (tb_at 612 (by decide +kernel) rfl)
theorem ml_L_108 : ML RL 108 yX8_outs := Or.inl (tb_at 1205 (by decide +kernel) rfl)
theorem ml_L_109 : ML RL 109 yX7_twins := Or.inl (tb_at 630 (by decide +kernel) rfl)
theorem ml_L_112 : ML RL 112 yX8_twins := Or.inl (tb_at 1222 (by decide +kernel) rfl)
theorem ml_L_113 : ML RL 113 yX7_harmless := Or.inl (tb_at 638 (by decide +kernel) rfl)
theorem ml_L_116 : ML RL 116 yX8_harmless := Or.inl (tb_at 1226 (by decide +kernel) rfl)
theorem ml_L_117 : ML RL 117 yX7_believed := Or.inl (tb_at 658 (by decide +kernel) rfl)
theorem ml_L_120 : ML RL 120 yX8_believed := Or.inl (tb_at 1230 (by decide +kernel) rfl)
theorem ml_L_121 : ML RL 121 yX7_forbid := Or.inl (tb_at 659 (by decide +kernel) rfl)
theorem ml_L_124 : ML RL 124 yX8_forbid := Or.inl (tb_at 1234 (by decide +kernel) rfl)
theorem ml_L_125 : ML RL 125 yX7_silence := Or.inl (tb_at 688 (by decide +kernel) rfl)
theorem ml_L_128 : ML RL 128 yX8_silence := Or.inl (tb_at 1241 (by decide +kernel) rfl)
theorem ml_L_129 : ML RL 129 yX7_which := Or.inl (tb_at 711 (by decide +kernel) rfl)
theorem ml_L_132 : ML RL 132 yX8_which := Or.inl (tb_at 1249 (by decide +kernel) rfl)
theorem ml_L_133 : ML RL 133 yX7_kinds := Or.inl (tb_at 715 (by decide +kernel) rfl)
theorem ml_L_136 : ML RL 136 yX8_kinds := Or.inl (tb_at 1253 (by decide +kernel) rfl)
theorem ml_L_137 : ML RL 137 yX7_odds := Or.inl (tb_at 721 (by decide +kernel) rfl)
theorem ml_L_140 : ML RL 140 yX8_odds := Or.inl (tb_at 1257 (by decide +kernel) rfl)
theorem ml_L_141 : ML RL 141 yX7_mid := Or.inl (tb_at 728 (by decide +kernel) rfl)
theorem ml_L_144 : ML RL 144 yX8_mid := Or.inl (tb_at 1270 (by decide +kernel) rfl)
theorem ml_L_145 : ML RL 145 yX7_print := Or.inl (tb_at 733 (by decide +kernel) rfl)
theorem ml_L_148 : ML RL 148 yX8_print := Or.inl (tb_at 1274 (by decide +kernel) rfl)
theorem ml_L_149 : ML RL 149 yX7_ink := Or.inl (tb_at 746 (by decide +kernel) rfl)
theorem ml_L_152 : ML RL 152 yX8_ink := Or.inl (tb_at 1278 (by decide +kernel) rfl)
theorem ml_L_153 : ML RL 153 yX7_undo := Or.inl (tb_at 750 (by decide +kernel) rfl)
theorem ml_L_156 : ML RL 156 yX8_undo := Or.inl (tb_at 1282 (by decide +kernel) rfl)
theorem ml_L_157 : ML RL 157 yX7_drawer := Or.inl (tb_at 763 (by decide +kernel) rfl)
theorem ml_L_160 : ML RL 160 yX8_drawer := Or.inl (tb_at 1286 (by decide +kernel) rfl)
theorem ml_L_161 : ML RL 161 yX7_lots := Or.inl (tb_at 768 (by decide +kernel) rfl)
theorem ml_L_164 : ML RL 164 yX8_lots := Or.inl (tb_at 1290 (by decide +kernel) rfl)
theorem ml_L_165 : ML RL 165 yX7_keep := Or.inl (tb_at 782 (by decide +kernel) rfl)
theorem ml_L_168 : ML RL 168 yX8_keep := Or.inl (tb_at 1300 (by decide +kernel) rfl)
theorem ml_L_169 : ML RL 169 yX7_on := Or.inl (tb_at 791 (by decide +kernel) rfl)
theorem ml_L_172 : ML RL 172 yX8_on := Or.inl (tb_at 1304 (by decide +kernel) rfl)
theorem ml_L_173 : ML RL 173 yX7_asked := Or.inl (tb_at 799 (by decide +kernel) rfl)
theorem ml_L_177 : ML RL 177 yX8_asked := Or.inl (tb_at 1308 (by decide +kernel) rfl)
theorem ml_L_178 : ML RL 178 yX7_upper := Or.inl (tb_at 803 (by decide +kernel) rfl)
theorem ml_L_182 : ML RL 182 yX8_upper := Or.inl (tb_at 1312 (by decide +kernel) rfl)
theorem ml_L_183 : ML RL 183 yX7_lower := Or.inl (tb_at 807 (by decide +kernel) rfl)
theorem ml_L_186 : ML RL 186 yX8_lower := Or.inl (tb_at 1316 (by decide +kernel) rfl)
theorem ml_L_187 : ML RL 187 yX7_count := Or.inl (tb_at 811 (by decide +kernel) rfl)
theorem ml_L_190 : ML RL 190 yX8_count := Or.inl (tb_at 1320 (by decide +kernel) rfl)
theorem ml_L_191 : ML RL 191 yX7_finding := Or.inl (tb_at 831 (by decide +kernel) rfl)
theorem ml_L_194 : ML RL 194 yX8_finding := Or.inl (tb_at 1328 (by decide +kernel) rfl)
theorem ml_L_195 : ML RL 195 yX7_findings := Or.inl (tb_at 835 (by decide +kernel) rfl)
theorem ml_L_198 : ML RL 198 yX8_findings := Or.inl (tb_at 1332 (by decide +kernel) rfl)
theorem ml_L_199 : ML RL 199 yX7_digest := Or.inl (tb_at 839 (by decide +kernel) rfl)
theorem ml_L_202 : ML RL 202 yX8_digest := Or.inl (tb_at 1336 (by decide +kernel) rfl)
theorem ml_X8_83 : ML RX8 83 yX8_in := Or.inl (tb_at 966 (by decide +kernel) rfl)
theorem ml_X8_87 : ML RX8 87 yX8_isRow := Or.inl (tb_at 963 (by decide +kernel) rfl)
theorem ml_X8_91 : ML RX8 91 yX8_meet := Or.inl (tb_at 969 (by decide +kernel) rfl)
theorem ml_X8_95 : ML RX8 95 yX8_isText := Or.inl (tb_at 1014 (by decide +kernel) rfl)
theorem ml_X8_98 : ML RX8 98 yX8_setRow := Or.inl (tb_at 973 (by decide +kernel) rfl)
theorem ml_X8_102 : ML RX8 102 yX8_askedRow := Or.inl (tb_at 981 (by decide +kernel) rfl)
theorem ml_X8_105 : ML RX8 105 yX8_rowAt := Or.inl (tb_at 985 (by decide +kernel) rfl)
theorem ml_X8_109 : ML RX8 109 yX8_ask := Or.inl (tb_at 989 (by decide +kernel) rfl)
theorem ml_X8_112 : ML RX8 112 yX8_at := Or.inl (tb_at 997 (by decide +kernel) rfl)
theorem ml_X8_115 : ML RX8 115 yX8_askedText := Or.inl (tb_at 1021 (by decide +kernel) rfl)
theorem ml_X8_121 : ML RX8 121 yX8_here := Or.inl (tb_at 1033 (by decide +kernel) rfl)
theorem ml_X8_124 : ML RX8 124 yX8_kindBy := Or.inl (tb_at 1041 (by decide +kernel) rfl)
theorem ml_X8_130 : ML RX8 130 yX8_hasZ := Or.inl (tb_at 1044 (by decide +kernel) rfl)
theorem ml_X8_133 : ML RX8 133 yX8_readsLaw := Or.inl (tb_at 1037 (by decide +kernel) rfl)
theorem ml_X8_136 : ML RX8 136 yX8_goesOn := Or.inl (tb_at 1029 (by decide +kernel) rfl)
theorem ml_X8_145 : ML RX8 145 yX8_isLaw := Or.inl (tb_at 1055 (by decide +kernel) rfl)
theorem ml_X8_148 : ML RX8 148 yX8_lawOf := Or.inl (tb_at 1059 (by decide +kernel) rfl)
theorem ml_X8_154 : ML RX8 154 yX8_has := Or.inl (tb_at 1091 (by decide +kernel) rfl)
theorem ml_X8_158 : ML RX8 158 yX8_holds := Or.inl (tb_at 1094 (by decide +kernel) rfl)
theorem ml_X8_164 : ML RX8 164 yX8_lawAt := Or.inl (tb_at 1087 (by decide +kernel) rfl)
theorem ml_X8_167 : ML RX8 167 yX8_comes := Or.inl (tb_at 1102 (by decide +kernel) rfl)
theorem ml_X8_171 : ML RX8 171 yX8_row := Or.inl (tb_at 1137 (by decide +kernel) rfl)
theorem ml_X8_174 : ML RX8 174 yX8_isSign := Or.inl (tb_at 1126 (by decide +kernel) rfl)
theorem ml_X8_177 : ML RX8 177 yX8_othersOf := Or.inl (tb_at 1075 (by decide +kernel) rfl)
theorem ml_X8_180 : ML RX8 180 yX8_lay_ := Or.inl (tb_at 1079 (by decide +kernel) rfl)
theorem ml_X8_184 : ML RX8 184 yX8_onSet := Or.inl (tb_at 1083 (by decide +kernel) rfl)
theorem ml_X8_188 : ML RX8 188 yX8_setBy := Or.inl (tb_at 1098 (by decide +kernel) rfl)
theorem ml_X8_191 : ML RX8 191 yX8_isAsWritten := Or.inl (tb_at 1106 (by decide +kernel) rfl)
theorem ml_X8_195 : ML RX8 195 yX8_isA := Or.inl (tb_at 1067 (by decide +kernel) rfl)
theorem ml_X8_198 : ML RX8 198 yX8_marked := Or.inl (tb_at 1071 (by decide +kernel) rfl)
theorem ml_X8_201 : ML RX8 201 yX8_askedSigns := Or.inl (tb_at 1122 (by decide +kernel) rfl)
theorem ml_X8_204 : ML RX8 204 yX8_laySheet := Or.inl (tb_at 1129 (by decide +kernel) rfl)
theorem ml_X8_207 : ML RX8 207 yX8_outToRow := Or.inl (tb_at 1133 (by decide +kernel) rfl)
theorem ml_X8_210 : ML RX8 210 yX8_sheetToRow := Or.inl (tb_at 1150 (by decide +kernel) rfl)
theorem ml_X8_213 : ML RX8 213 yX8_outToSheet := Or.inl (tb_at 1154 (by decide +kernel) rfl)
theorem ml_X8_216 : ML RX8 216 yX8_isAsCame := Or.inl (tb_at 1162 (by decide +kernel) rfl)
theorem ml_X8_219 : ML RX8 219 yX8_sheetsOf := Or.inl (tb_at 1174 (by decide +kernel) rfl)
theorem ml_X8_222 : ML RX8 222 yX8_layNumber := Or.inl (tb_at 1177 (by decide +kernel) rfl)
theorem ml_X8_225 : ML RX8 225 yX8_isOut := Or.inl (tb_at 1181 (by decide +kernel) rfl)
theorem ml_X8_228 : ML RX8 228 yX8_part := Or.inl (tb_at 1185 (by decide +kernel) rfl)
theorem ml_X8_235 : ML RX8 235 yX8_isGoal := Or.inl (tb_at 1201 (by decide +kernel) rfl)
theorem ml_X8_238 : ML RX8 238 yX8_layGoal := Or.inl (tb_at 1193 (by decide +kernel) rfl)
theorem ml_X8_241 : ML RX8 241 yX8_findsFirst := Or.inl (tb_at 1197 (by decide +kernel) rfl)
theorem ml_X8_246 : ML RX8 246 yX8_codeOf := Or.inl (tb_at 1213 (by decide +kernel) rfl)
theorem ml_X8_250 : ML RX8 250 yX8_layCodes := Or.inl (tb_at 1209 (by decide +kernel) rfl)
theorem ml_X8_253 : ML RX8 253 yX8_twinOf := Or.inl (tb_at 1218 (by decide +kernel) rfl)
theorem ml_X8_256 : ML RX8 256 yX8_sizeOf := Or.inl (tb_at 1238 (by decide +kernel) rfl)
theorem ml_X8_259 : ML RX8 259 yX8_askedBoth := Or.inl (tb_at 1245 (by decide +kernel) rfl)
theorem ml_X8_264 : ML RX8 264 yX8_weight := Or.inl (tb_at 1261 (by decide +kernel) rfl)
theorem ml_X8_268 : ML RX8 268 yX8_whole := Or.inl (tb_at 1266 (by decide +kernel) rfl)
theorem ml_X8_283 : ML RX8 283 yX8_tells := Or.inl (tb_at 1324 (by decide +kernel) rfl)
theorem ml_X8_291 : ML RX8 291 yX8_mix := Or.inl (tb_at 1341 (by decide +kernel) rfl)
theorem ml_X8_296 : ML RX8 296 yX8_mixPress := Or.inl (tb_at 1346 (by decide +kernel) rfl)
theorem jl_X7_129 : Cond.methodLink RX7 129 arraycopyName ∈ tb := tb_at 357 (by decide +kernel) rfl
theorem jl_X7_217 : Cond.methodLink RX7 217 Lib.Math.max.name ∈ tb := tb_at 532 (by decide +kernel) rfl
theorem jl_X2_36 : Cond.methodLink RX2 36 Lib.Math.min.name ∈ tb := tb_at 413 (by decide +kernel) rfl
theorem jl_X2_55 : Cond.methodLink RX2 55 arraycopyName ∈ tb := tb_at 790 (by decide +kernel) rfl
theorem jl_X4_15 : Cond.methodLink RX4 15 Lib.Math.max.name ∈ tb := tb_at 209 (by decide +kernel) rfl
theorem jl_X4_29 : Cond.methodLink RX4 29 Lib.Math.min.name ∈ tb := tb_at 310 (by decide +kernel) rfl
theorem jl_X5_29 : Cond.methodLink RX5 29 Lib.Math.min.name ∈ tb := tb_at 696 (by decide +kernel) rfl
theorem jm_max_s : Cond.static Lib.Math.max.name ∈ tb := tb_at 210 (by decide +kernel) rfl
theorem jm_max_c : Cond.code Lib.Math.max.name Lib.Math.max.code 2 (some .int) ∈ tb := tb_at 211 (by decide +kernel) rfl
theorem jm_min_s : Cond.static Lib.Math.min.name ∈ tb := tb_at 311 (by decide +kernel) rfl
theorem jm_min_c : Cond.code Lib.Math.min.name Lib.Math.min.code 2 (some .int) ∈ tb := tb_at 312 (by decide +kernel) rfl
theorem jm_i : Cond.initialized "java/lang/Math" ∈ tb := tb_at 65 (by decide +kernel) rfl
theorem ja_n : Cond.native arraycopyName ∈ tb := tb_at 359 (by decide +kernel) rfl
theorem ja_s : Cond.static arraycopyName ∈ tb := tb_at 358 (by decide +kernel) rfl
theorem ja_i : Cond.initialized "java/lang/System" ∈ tb := tb_at 69 (by decide +kernel) rfl
theorem kc_X7_320 : Cond.constant RX7 320 (2147483646) ∈ tb := tb_at 772 (by decide +kernel) rfl
theorem kc_X0_45 : Cond.constant RX0 45 (-1640531535) ∈ tb := tb_at 629 (by decide +kernel) rfl
theorem kc_X8_272 : Cond.constant RX8 272 (2147483646) ∈ tb := tb_at 1294 (by decide +kernel) rfl
theorem kc_J6_265 : Cond.constant RJ6 265 (1431655765) ∈ tb := tb_at 680 (by decide +kernel) rfl
theorem kc_J6_266 : Cond.constant RJ6 266 (858993459) ∈ tb := tb_at 681 (by decide +kernel) rfl
theorem kc_J6_267 : Cond.constant RJ6 267 (252645135) ∈ tb := tb_at 682 (by decide +kernel) rfl
theorem kl_X7_271 : Cond.constantLong RX7 271 (-9) ∈ tb := tb_at 611 (by decide +kernel) rfl
theorem kl_X7_324 : Cond.constantLong RX7 324 (9) ∈ tb := tb_at 778 (by decide +kernel) rfl
theorem kl_X7_326 : Cond.constantLong RX7 326 (16) ∈ tb := tb_at 779 (by decide +kernel) rfl
theorem kl_X7_328 : Cond.constantLong RX7 328 (6) ∈ tb := tb_at 780 (by decide +kernel) rfl
theorem kl_X7_351 : Cond.constantLong RX7 351 (17) ∈ tb := tb_at 843 (by decide +kernel) rfl
theorem kl_X7_353 : Cond.constantLong RX7 353 (31) ∈ tb := tb_at 844 (by decide +kernel) rfl
theorem kl_X7_367 : Cond.constantLong RX7 367 (-1) ∈ tb := tb_at 686 (by decide +kernel) rfl
theorem kl_X7_372 : Cond.constantLong RX7 372 (48271) ∈ tb := tb_at 776 (by decide +kernel) rfl
theorem kl_X7_374 : Cond.constantLong RX7 374 (2147483647) ∈ tb := tb_at 777 (by decide +kernel) rfl
theorem kl_X2_122 : Cond.constantLong RX2 122 (31) ∈ tb := tb_at 850 (by decide +kernel) rfl
theorem kl_X4_58 : Cond.constantLong RX4 58 (7) ∈ tb := tb_at 518 (by decide +kernel) rfl
theorem kl_X4_60 : Cond.constantLong RX4 60 (31) ∈ tb := tb_at 856 (by decide +kernel) rfl
theorem kl_X6_72 : Cond.constantLong RX6 72 (-1) ∈ tb := tb_at 676 (by decide +kernel) rfl
theorem kl_X6_84 : Cond.constantLong RX6 84 (-9) ∈ tb := tb_at 610 (by decide +kernel) rfl
theorem kl_X6_100 : Cond.constantLong RX6 100 (7) ∈ tb := tb_at 657 (by decide +kernel) rfl
theorem kl_X8_244 : Cond.constantLong RX8 244 (8) ∈ tb := tb_at 1217 (by decide +kernel) rfl
theorem kl_X8_262 : Cond.constantLong RX8 262 (12) ∈ tb := tb_at 1265 (by decide +kernel) rfl
theorem kl_X8_273 : Cond.constantLong RX8 273 (48271) ∈ tb := tb_at 1295 (by decide +kernel) rfl
theorem kl_X8_275 : Cond.constantLong RX8 275 (2147483647) ∈ tb := tb_at 1296 (by decide +kernel) rfl
theorem kl_X8_277 : Cond.constantLong RX8 277 (9) ∈ tb := tb_at 1297 (by decide +kernel) rfl
theorem kl_X8_279 : Cond.constantLong RX8 279 (16) ∈ tb := tb_at 1298 (by decide +kernel) rfl
theorem kl_X8_281 : Cond.constantLong RX8 281 (6) ∈ tb := tb_at 1299 (by decide +kernel) rfl
theorem kl_X8_286 : Cond.constantLong RX8 286 (31) ∈ tb := tb_at 1345 (by decide +kernel) rfl
theorem kl_X8_294 : Cond.constantLong RX8 294 (17) ∈ tb := tb_at 1340 (by decide +kernel) rfl
theorem ini_X7 : Cond.initialized RX7 ∈ tb := tb_at 58 (by decide +kernel) rfl
theorem ini_X0 : Cond.initialized RX0 ∈ tb := tb_at 63 (by decide +kernel) rfl
theorem ini_X1 : Cond.initialized RX1 ∈ tb := tb_at 60 (by decide +kernel) rfl
theorem ini_X2 : Cond.initialized RX2 ∈ tb := tb_at 61 (by decide +kernel) rfl
theorem ini_X3 : Cond.initialized RX3 ∈ tb := tb_at 59 (by decide +kernel) rfl
theorem ini_X4 : Cond.initialized RX4 ∈ tb := tb_at 64 (by decide +kernel) rfl
theorem ini_X5 : Cond.initialized RX5 ∈ tb := tb_at 66 (by decide +kernel) rfl
theorem ini_X6 : Cond.initialized RX6 ∈ tb := tb_at 62 (by decide +kernel) rfl
theorem ini_L : Cond.initialized RL ∈ tb := tb_at 57 (by decide +kernel) rfl
theorem ini_X8 : Cond.initialized RX8 ∈ tb := tb_at 67 (by decide +kernel) rfl
theorem ini_J6 : Cond.initialized RJ6 ∈ tb := tb_at 70 (by decide +kernel) rfl
theorem ini_J9 : Cond.initialized RJ9 ∈ tb := tb_at 65 (by decide +kernel) rfl
theorem ini_J10 : Cond.initialized RJ10 ∈ tb := tb_at 69 (by decide +kernel) rfl
theorem ini_J7 : Cond.initialized RJ7 ∈ tb := tb_at 68 (by decide +kernel) rfl
abbrev mX7_row : MI := (cX7_row, 4, RX7, { frames := 2, cells := 0, slots := 0, locals := 45 }, some (.int))
theorem okX7_row : OKV yX7_row mX7_row 2 := ⟨⟨tb_at 297 (by decide +kernel) rfl, ini_X7, ⟨by decide, by decide, by decide +kernel⟩, rfl, rfl⟩, tb_at 295 (by decide +kernel) rfl, tb_at 296 (by decide +kernel) rfl⟩
abbrev mX7_rowOf : MI := (cX7_rowOf, 2, RX7, { frames := 0, cells := 0, slots := 0, locals := 0 }, some ((.object "SetAsMeant$Row")))
theorem okX7_rowOf : OKV yX7_rowOf mX7_rowOf 1 := ⟨⟨tb_at 301 (by decide +kernel) rfl, ini_X7, ⟨by decide, by decide, by decide +kernel⟩, rfl, rfl⟩, tb_at 300 (by decide +kernel) rfl, tb_at 0 (by decide +kernel) rfl⟩
abbrev mX7_answer : MI := (cX7_answer, 2, RX7, { frames := 0, cells := 0, slots := 0, locals := 0 }, some (.int))
theorem okX7_answer : OKV yX7_answer mX7_answer 1 := ⟨⟨tb_at 305 (by decide +kernel) rfl, ini_X7, ⟨by decide, by decide, by decide +kernel⟩, rfl, rfl⟩, tb_at 304 (by decide +kernel) rfl, tb_at 1 (by decide +kernel) rfl⟩
abbrev mX4_renew : MI := (cX4_renew, 3, RX4, { frames := 1, cells := 0, slots := 0, locals := 23 }, none)
theorem okX4_renew : OKV yX4_renew mX4_renew 2 := ⟨⟨tb_at 309 (by decide +kernel) rfl, ini_X4, ⟨by decide, by decide, by decide +kernel⟩, rfl, rfl⟩, tb_at 307 (by decide +kernel) rfl, tb_at 308 (by decide +kernel) rfl⟩
abbrev mJ7_fill_53178 : MI := (cJ7_fill_53178, 4, RJ7, { frames := 0, cells := 0, slots := 0, locals := 0 }, none)
theorem okJ7_fill_53178 : OKS yJ7_fill_53178 mJ7_fill_53178 2 := ⟨⟨tb_at 315 (by decide +kernel) rfl, ini_J7, ⟨by decide, by decide, by decide +kernel⟩, rfl, rfl⟩, tb_at 314 (by decide +kernel) rfl⟩
abbrev mX7_lay : MI := (cX7_lay, 5, RX7, { frames := 2, cells := 0, slots := 0, locals := 43 }, some (.int))
theorem okX7_lay : OKV yX7_lay mX7_lay 3 := ⟨⟨tb_at 319 (by decide +kernel) rfl, ini_X7, ⟨by decide, by decide, by decide +kernel⟩, rfl, rfl⟩, tb_at 317 (by decide +kernel) rfl, tb_at 318 (by decide +kernel) rfl⟩
abbrev mX4_isThere : MI := (cX4_isThere, 1, RX4, { frames := 0, cells := 0, slots := 0, locals := 0 }, some (.boolean))
theorem okX4_isThere : OKV yX4_isThere mX4_isThere 0 := ⟨⟨tb_at 323 (by decide +kernel) rfl, ini_X4, ⟨by decide, by decide, by decide +kernel⟩, rfl, rfl⟩, tb_at 321 (by decide +kernel) rfl, tb_at 322 (by decide +kernel) rfl⟩
abbrev mX4_hasPlace : MI := (cX4_hasPlace, 2, RX4, { frames := 0, cells := 0, slots := 0, locals := 0 }, some (.boolean))
theorem okX4_hasPlace : OKV yX4_hasPlace mX4_hasPlace 1 := ⟨⟨tb_at 327 (by decide +kernel) rfl, ini_X4, ⟨by decide, by decide, by decide +kernel⟩, rfl, rfl⟩, tb_at 325 (by decide +kernel) rfl, tb_at 326 (by decide +kernel) rfl⟩
abbrev mX4_cell : MI := (cX4_cell, 2, RX4, { frames := 1, cells := 0, slots := 0, locals := 21 }, some (.int))
theorem okX4_cell : OKV yX4_cell mX4_cell 1 := ⟨⟨tb_at 331 (by decide +kernel) rfl, ini_X4, ⟨by decide, by decide, by decide +kernel⟩, rfl, rfl⟩, tb_at 329 (by decide +kernel) rfl, tb_at 330 (by decide +kernel) rfl⟩
abbrev mX4_change : MI := (cX4_change, 3, RX4, { frames := 1, cells := 0, slots := 0, locals := 21 }, none)
theorem okX4_change : OKV yX4_change mX4_change 2 := ⟨⟨tb_at 336 (by decide +kernel) rfl, ini_X4, ⟨by decide, by decide, by decide +kernel⟩, rfl, rfl⟩, tb_at 334 (by decide +kernel) rfl, tb_at 335 (by decide +kernel) rfl⟩
abbrev mX7_at : MI := (cX7_at, 4, RX7, { frames := 2, cells := 0, slots := 0, locals := 42 }, some (.int))
theorem okX7_at : OKV yX7_at mX7_at 2 := ⟨⟨tb_at 340 (by decide +kernel) rfl, ini_X7, ⟨by decide, by decide, by decide +kernel⟩, rfl, rfl⟩, tb_at 338 (by decide +kernel) rfl, tb_at 339 (by decide +kernel) rfl⟩
abbrev mX7_tear : MI := (cX7_tear, 3, RX7, { frames := 1, cells := 0, slots := 0, locals := 21 }, some (.int))
theorem okX7_tear : OKV yX7_tear mX7_tear 1 := ⟨⟨tb_at 344 (by decide +kernel) rfl, ini_X7, ⟨by decide, by decide, by decide +kernel⟩, rfl, rfl⟩, tb_at 342 (by decide +kernel) rfl, tb_at 343 (by decide +kernel) rfl⟩
abbrev mX4_leave : MI := (cX4_leave, 1, RX4, { frames := 0, cells := 0, slots := 0, locals := 0 }, none)
theorem okX4_leave : OKV yX4_leave mX4_leave 0 := ⟨⟨tb_at 348 (by decide +kernel) rfl, ini_X4, ⟨by decide, by decide, by decide +kernel⟩, rfl, rfl⟩, tb_at 346 (by decide +kernel) rfl, tb_at 347 (by decide +kernel) rfl⟩
abbrev mX7_copy : MI := (cX7_copy, 8, RX7, { frames := 1, cells := 0, slots := 0, locals := 26 }, some (.int))
theorem okX7_copy : OKV yX7_copy mX7_copy 5 := ⟨⟨tb_at 352 (by decide +kernel) rfl, ini_X7, ⟨by decide, by decide, by decide +kernel⟩, rfl, rfl⟩, tb_at 350 (by decide +kernel) rfl, tb_at 351 (by decide +kernel) rfl⟩
abbrev mX4_hasPlaces : MI := (cX4_hasPlaces, 3, RX4, { frames := 0, cells := 0, slots := 0, locals := 0 }, some (.boolean))
theorem okX4_hasPlaces : OKV yX4_hasPlaces mX4_hasPlaces 2 := ⟨⟨tb_at 356 (by decide +kernel) rfl, ini_X4, ⟨by decide, by decide, by decide +kernel⟩, rfl, rfl⟩, tb_at 354 (by decide +kernel) rfl, tb_at 355 (by decide +kernel) rfl⟩
abbrev mX7_mean : MI := (cX7_mean, 3, RX7, { frames := 3, cells := 0, slots := 0, locals := 65 }, some (.int))
theorem okX7_mean : OKV yX7_mean mX7_mean 1 := ⟨⟨tb_at 363 (by decide +kernel) rfl, ini_X7, ⟨by decide, by decide, by decide +kernel⟩, rfl, rfl⟩, tb_at 361 (by decide +kernel) rfl, tb_at 362 (by decide +kernel) rfl⟩
abbrev mX4_sum : MI := (cX4_sum, 4, RX4, { frames := 2, cells := 0, slots := 0, locals := 42 }, some (.long))
theorem okX4_sum : OKV yX4_sum mX4_sum 0 := ⟨⟨tb_at 367 (by decide +kernel) rfl, ini_X4, ⟨by decide, by decide, by decide +kernel⟩, rfl, rfl⟩, tb_at 365 (by decide +kernel) rfl, tb_at 366 (by decide +kernel) rfl⟩
abbrev mX7_text : MI := (cX7_text, 4, RX7, { frames := 2, cells := 0, slots := 0, locals := 45 }, some (.int))
theorem okX7_text : OKV yX7_text mX7_text 2 := ⟨⟨tb_at 372 (by decide +kernel) rfl, ini_X7, ⟨by decide, by decide, by decide +kernel⟩, rfl, rfl⟩, tb_at 370 (by decide +kernel) rfl, tb_at 371 (by decide +kernel) rfl⟩
abbrev mX7_textOf : MI := (cX7_textOf, 2, RX7, { frames := 0, cells := 0, slots := 0, locals := 0 }, some ((.object "SetAsMeant$Row")))
theorem okX7_textOf : OKV yX7_textOf mX7_textOf 1 := ⟨⟨tb_at 376 (by decide +kernel) rfl, ini_X7, ⟨by decide, by decide, by decide +kernel⟩, rfl, rfl⟩, tb_at 375 (by decide +kernel) rfl, tb_at 2 (by decide +kernel) rfl⟩
abbrev mX7_put : MI := (cX7_put, 6, RX7, { frames := 2, cells := 0, slots := 0, locals := 43 }, some (.int))
theorem okX7_put : OKV yX7_put mX7_put 3 := ⟨⟨tb_at 380 (by decide +kernel) rfl, ini_X7, ⟨by decide, by decide, by decide +kernel⟩, rfl, rfl⟩, tb_at 378 (by decide +kernel) rfl, tb_at 379 (by decide +kernel) rfl⟩
abbrev mX7_fault : MI := (cX7_fault, 3, RX7, { frames := 4, cells := 0, slots := 0, locals := 89 }, some (.int))
theorem okX7_fault : OKV yX7_fault mX7_fault 1 := ⟨⟨tb_at 384 (by decide +kernel) rfl, ini_X7, ⟨by decide, by decide, by decide +kernel⟩, rfl, rfl⟩, tb_at 382 (by decide +kernel) rfl, tb_at 383 (by decide +kernel) rfl⟩
abbrev mX3_read : MI := (cX3_read, 6, RX3, { frames := 3, cells := 0, slots := 0, locals := 64 }, some (.int))
theorem okX3_read : OKV yX3_read mX3_read 1 := ⟨⟨tb_at 388 (by decide +kernel) rfl, ini_X3, ⟨by decide, by decide, by decide +kernel⟩, rfl, rfl⟩, tb_at 386 (by decide +kernel) rfl, tb_at 387 (by decide +kernel) rfl⟩
abbrev mX3_kindOf : MI := (cX3_kindOf, 2, RX3, { frames := 0, cells := 0, slots := 0, locals := 0 }, some (.int))
theorem okX3_kindOf : OKS yX3_kindOf mX3_kindOf 1 := ⟨⟨tb_at 392 (by decide +kernel) rfl, ini_X3, ⟨by decide, by decide, by decide +kernel⟩, rfl, rfl⟩, tb_at 391 (by decide +kernel) rfl⟩
abbrev mX3_signsOf : MI := (cX3_signsOf, 1, RX3, { frames := 0, cells := 0, slots := 0, locals := 0 }, some (.int))
theorem okX3_signsOf : OKS yX3_signsOf mX3_signsOf 1 := ⟨⟨tb_at 397 (by decide +kernel) rfl, ini_X3, ⟨by decide, by decide, by decide +kernel⟩, rfl, rfl⟩, tb_at 396 (by decide +kernel) rfl⟩
abbrev mX3_signAt : MI := (cX3_signAt, 3, RX3, { frames := 2, cells := 0, slots := 0, locals := 42 }, some (.int))
theorem okX3_signAt : OKS yX3_signAt mX3_signAt 2 := ⟨⟨tb_at 400 (by decide +kernel) rfl, ini_X3, ⟨by decide, by decide, by decide +kernel⟩, rfl, rfl⟩, tb_at 399 (by decide +kernel) rfl⟩
abbrev mX1_become : MI := (cX1_become, 5, RX1, { frames := 0, cells := 0, slots := 0, locals := 0 }, none)
theorem okX1_become : OKV yX1_become mX1_become 4 := ⟨⟨tb_at 404 (by decide +kernel) rfl, ini_X1, ⟨by decide, by decide, by decide +kernel⟩, rfl, rfl⟩, tb_at 402 (by decide +kernel) rfl, tb_at 403 (by decide +kernel) rfl⟩
abbrev mX7_press : MI := (cX7_press, 4, RX7, { frames := 4, cells := 0, slots := 0, locals := 89 }, some (.int))
theorem okX7_press : OKV yX7_press mX7_press 1 := ⟨⟨tb_at 408 (by decide +kernel) rfl, ini_X7, ⟨by decide, by decide, by decide +kernel⟩, rfl, rfl⟩, tb_at 406 (by decide +kernel) rfl, tb_at 407 (by decide +kernel) rfl⟩
abbrev mX2_begin : MI := (cX2_begin, 3, RX2, { frames := 2, cells := 0, slots := 0, locals := 45 }, none)
theorem okX2_begin : OKV yX2_begin mX2_begin 1 := ⟨⟨tb_at 412 (by decide +kernel) rfl, ini_X2, ⟨by decide, by decide, by decide +kernel⟩, rfl, rfl⟩, tb_at 410 (by decide +kernel) rfl, tb_at 411 (by decide +kernel) rfl⟩
abbrev mX1_take : MI := (cX1_take, 2, RX1, { frames := 1, cells := 0, slots := 0, locals := 24 }, none)
theorem okX1_take : OKV yX1_take mX1_take 1 := ⟨⟨tb_at 417 (by decide +kernel) rfl, ini_X1, ⟨by decide, by decide, by decide +kernel⟩, rfl, rfl⟩, tb_at 415 (by decide +kernel) rfl, tb_at 416 (by decide +kernel) rfl⟩
abbrev mX7_law : MI := (cX7_law, 4, RX7, { frames := 1, cells := 0, slots := 0, locals := 21 }, some (.int))
theorem okX7_law : OKV yX7_law mX7_law 2 := ⟨⟨tb_at 423 (by decide +kernel) rfl, ini_X7, ⟨by decide, by decide, by decide +kernel⟩, rfl, rfl⟩, tb_at 421 (by decide +kernel) rfl, tb_at 422 (by decide +kernel) rfl⟩
abbrev mX2_numbered : MI := (cX2_numbered, 2, RX2, { frames := 0, cells := 0, slots := 0, locals := 0 }, some ((.object "SetAsMeant$Law")))
theorem okX2_numbered : OKV yX2_numbered mX2_numbered 1 := ⟨⟨tb_at 427 (by decide +kernel) rfl, ini_X2, ⟨by decide, by decide, by decide +kernel⟩, rfl, rfl⟩, tb_at 425 (by decide +kernel) rfl, tb_at 426 (by decide +kernel) rfl⟩
abbrev mX1_tell : MI := (cX1_tell, 2, RX1, { frames := 0, cells := 0, slots := 0, locals := 0 }, some (.int))
theorem okX1_tell : OKV yX1_tell mX1_tell 1 := ⟨⟨tb_at 431 (by decide +kernel) rfl, ini_X1, ⟨by decide, by decide, by decide +kernel⟩, rfl, rfl⟩, tb_at 429 (by decide +kernel) rfl, tb_at 430 (by decide +kernel) rfl⟩
abbrev mX7_mark : MI := (cX7_mark, 4, RX7, { frames := 4, cells := 0, slots := 0, locals := 93 }, some (.int))
theorem okX7_mark : OKV yX7_mark mX7_mark 2 := ⟨⟨tb_at 435 (by decide +kernel) rfl, ini_X7, ⟨by decide, by decide, by decide +kernel⟩, rfl, rfl⟩, tb_at 433 (by decide +kernel) rfl, tb_at 434 (by decide +kernel) rfl⟩
abbrev mX1_isOf : MI := (cX1_isOf, 2, RX1, { frames := 0, cells := 0, slots := 0, locals := 0 }, some (.boolean))
theorem okX1_isOf : OKV yX1_isOf mX1_isOf 1 := ⟨⟨tb_at 439 (by decide +kernel) rfl, ini_X1, ⟨by decide, by decide, by decide +kernel⟩, rfl, rfl⟩, tb_at 437 (by decide +kernel) rfl, tb_at 438 (by decide +kernel) rfl⟩
abbrev mX2_inksOf : MI := (cX2_inksOf, 2, RX2, { frames := 0, cells := 0, slots := 0, locals := 0 }, some (.int))
theorem okX2_inksOf : OKV yX2_inksOf mX2_inksOf 1 := ⟨⟨tb_at 443 (by decide +kernel) rfl, ini_X2, ⟨by decide, by decide, by decide +kernel⟩, rfl, rfl⟩, tb_at 441 (by decide +kernel) rfl, tb_at 442 (by decide +kernel) rfl⟩
abbrev mX2_lawsOf : MI := (cX2_lawsOf, 4, RX2, { frames := 0, cells := 0, slots := 0, locals := 0 }, some (.int))
theorem okX2_lawsOf : OKV yX2_lawsOf mX2_lawsOf 1 := ⟨⟨tb_at 447 (by decide +kernel) rfl, ini_X2, ⟨by decide, by decide, by decide +kernel⟩, rfl, rfl⟩, tb_at 445 (by decide +kernel) rfl, tb_at 446 (by decide +kernel) rfl⟩
abbrev mX2_onSet : MI := (cX2_onSet, 3, RX2, { frames := 0, cells := 0, slots := 0, locals := 0 }, some (.int))
theorem okX2_onSet : OKV yX2_onSet mX2_onSet 0 := ⟨⟨tb_at 451 (by decide +kernel) rfl, ini_X2, ⟨by decide, by decide, by decide +kernel⟩, rfl, rfl⟩, tb_at 449 (by decide +kernel) rfl, tb_at 450 (by decide +kernel) rfl⟩
abbrev mX2_chosen : MI := (cX2_chosen, 5, RX2, { frames := 2, cells := 0, slots := 0, locals := 43 }, some (.int))
theorem okX2_chosen : OKV yX2_chosen mX2_chosen 3 := ⟨⟨tb_at 455 (by decide +kernel) rfl, ini_X2, ⟨by decide, by decide, by decide +kernel⟩, rfl, rfl⟩, tb_at 453 (by decide +kernel) rfl, tb_at 454 (by decide +kernel) rfl⟩
abbrev mX1_holds : MI := (cX1_holds, 3, RX1, { frames := 1, cells := 0, slots := 0, locals := 21 }, some (.boolean))
theorem okX1_holds : OKV yX1_holds mX1_holds 2 := ⟨⟨tb_at 459 (by decide +kernel) rfl, ini_X1, ⟨by decide, by decide, by decide +kernel⟩, rfl, rfl⟩, tb_at 457 (by decide +kernel) rfl, tb_at 458 (by decide +kernel) rfl⟩
abbrev mX2_outOfSign : MI := (cX2_outOfSign, 7, RX2, { frames := 3, cells := 0, slots := 0, locals := 67 }, some (.long))
theorem okX2_outOfSign : OKV yX2_outOfSign mX2_outOfSign 4 := ⟨⟨tb_at 464 (by decide +kernel) rfl, ini_X2, ⟨by decide, by decide, by decide +kernel⟩, rfl, rfl⟩, tb_at 462 (by decide +kernel) rfl, tb_at 463 (by decide +kernel) rfl⟩
abbrev mX7_packed : MI := (cX7_packed, 3, RX7, { frames := 0, cells := 0, slots := 0, locals := 0 }, some (.long))
theorem okX7_packed : OKS yX7_packed mX7_packed 2 := ⟨⟨tb_at 469 (by decide +kernel) rfl, ini_X7, ⟨by decide, by decide, by decide +kernel⟩, rfl, rfl⟩, tb_at 468 (by decide +kernel) rfl⟩
abbrev mX1_after : MI := (cX1_after, 3, RX1, { frames := 1, cells := 0, slots := 0, locals := 22 }, some (.long))
theorem okX1_after : OKV yX1_after mX1_after 1 := ⟨⟨tb_at 473 (by decide +kernel) rfl, ini_X1, ⟨by decide, by decide, by decide +kernel⟩, rfl, rfl⟩, tb_at 471 (by decide +kernel) rfl, tb_at 472 (by decide +kernel) rfl⟩
abbrev mX7_hush : MI := (cX7_hush, 5, RX7, { frames := 1, cells := 0, slots := 0, locals := 21 }, some (.int))
theorem okX7_hush : OKV yX7_hush mX7_hush 2 := ⟨⟨tb_at 479 (by decide +kernel) rfl, ini_X7, ⟨by decide, by decide, by decide +kernel⟩, rfl, rfl⟩, tb_at 477 (by decide +kernel) rfl, tb_at 478 (by decide +kernel) rfl⟩
abbrev mX7_swap : MI := (cX7_swap, 3, RX7, { frames := 2, cells := 0, slots := 0, locals := 44 }, some (.int))
theorem okX7_swap : OKV yX7_swap mX7_swap 2 := ⟨⟨tb_at 483 (by decide +kernel) rfl, ini_X7, ⟨by decide, by decide, by decide +kernel⟩, rfl, rfl⟩, tb_at 481 (by decide +kernel) rfl, tb_at 482 (by decide +kernel) rfl⟩
abbrev mX2_exchange : MI := (cX2_exchange, 4, RX2, { frames := 1, cells := 0, slots := 0, locals := 21 }, none)
theorem okX2_exchange : OKV yX2_exchange mX2_exchange 2 := ⟨⟨tb_at 487 (by decide +kernel) rfl, ini_X2, ⟨by decide, by decide, by decide +kernel⟩, rfl, rfl⟩, tb_at 485 (by decide +kernel) rfl, tb_at 486 (by decide +kernel) rfl⟩
abbrev mX7_set : MI := (cX7_set, 5, RX7, { frames := 5, cells := 0, slots := 0, locals := 118 }, some (.int))
theorem okX7_set : OKV yX7_set mX7_set 2 := ⟨⟨tb_at 491 (by decide +kernel) rfl, ini_X7, ⟨by decide, by decide, by decide +kernel⟩, rfl, rfl⟩, tb_at 489 (by decide +kernel) rfl, tb_at 490 (by decide +kernel) rfl⟩
abbrev mX7_refuses : MI := (cX7_refuses, 3, RX7, { frames := 3, cells := 0, slots := 0, locals := 63 }, some (.boolean))
theorem okX7_refuses : OKV yX7_refuses mX7_refuses 2 := ⟨⟨tb_at 495 (by decide +kernel) rfl, ini_X7, ⟨by decide, by decide, by decide +kernel⟩, rfl, rfl⟩, tb_at 494 (by decide +kernel) rfl, tb_at 3 (by decide +kernel) rfl⟩
abbrev mX4_holdsSigns : MI := (cX4_holdsSigns, 2, RX4, { frames := 2, cells := 0, slots := 0, locals := 42 }, some (.boolean))
theorem okX4_holdsSigns : OKV yX4_holdsSigns mX4_holdsSigns 0 := ⟨⟨tb_at 499 (by decide +kernel) rfl, ini_X4, ⟨by decide, by decide, by decide +kernel⟩, rfl, rfl⟩, tb_at 497 (by decide +kernel) rfl, tb_at 498 (by decide +kernel) rfl⟩
abbrev mX2_outOf : MI := (cX2_outOf, 6, RX2, { frames := 4, cells := 0, slots := 0, locals := 93 }, some (.long))
theorem okX2_outOf : OKV yX2_outOf mX2_outOf 2 := ⟨⟨tb_at 503 (by decide +kernel) rfl, ini_X2, ⟨by decide, by decide, by decide +kernel⟩, rfl, rfl⟩, tb_at 501 (by decide +kernel) rfl, tb_at 502 (by decide +kernel) rfl⟩
abbrev mX4_behind : MI := (cX4_behind, 2, RX4, { frames := 1, cells := 0, slots := 0, locals := 21 }, some (.int))
theorem okX4_behind : OKV yX4_behind mX4_behind 1 := ⟨⟨tb_at 508 (by decide +kernel) rfl, ini_X4, ⟨by decide, by decide, by decide +kernel⟩, rfl, rfl⟩, tb_at 506 (by decide +kernel) rfl, tb_at 507 (by decide +kernel) rfl⟩
abbrev mX4_unpack : MI := (cX4_unpack, 5, RX4, { frames := 2, cells := 0, slots := 0, locals := 45 }, none)
theorem okX4_unpack : OKV yX4_unpack mX4_unpack 1 := ⟨⟨tb_at 513 (by decide +kernel) rfl, ini_X4, ⟨by decide, by decide, by decide +kernel⟩, rfl, rfl⟩, tb_at 511 (by decide +kernel) rfl, tb_at 512 (by decide +kernel) rfl⟩
abbrev mX7_signsIn : MI := (cX7_signsIn, 5, RX7, { frames := 0, cells := 0, slots := 0, locals := 0 }, some (.int))
theorem okX7_signsIn : OKS yX7_signsIn mX7_signsIn 1 := ⟨⟨tb_at 516 (by decide +kernel) rfl, ini_X7, ⟨by decide, by decide, by decide +kernel⟩, rfl, rfl⟩, tb_at 515 (by decide +kernel) rfl⟩
abbrev mX4_add : MI := (cX4_add, 2, RX4, { frames := 0, cells := 0, slots := 0, locals := 0 }, none)
theorem okX4_add : OKV yX4_add mX4_add 1 := ⟨⟨tb_at 522 (by decide +kernel) rfl, ini_X4, ⟨by decide, by decide, by decide +kernel⟩, rfl, rfl⟩, tb_at 520 (by decide +kernel) rfl, tb_at 521 (by decide +kernel) rfl⟩
abbrev mX7_by : MI := (cX7_by, 4, RX7, { frames := 4, cells := 0, slots := 0, locals := 85 }, some (.int))
theorem okX7_by : OKV yX7_by mX7_by 2 := ⟨⟨tb_at 526 (by decide +kernel) rfl, ini_X7, ⟨by decide, by decide, by decide +kernel⟩, rfl, rfl⟩, tb_at 524 (by decide +kernel) rfl, tb_at 525 (by decide +kernel) rfl⟩
abbrev mX7_first : MI := (cX7_first, 5, RX7, { frames := 5, cells := 0, slots := 0, locals := 118 }, some (.int))
theorem okX7_first : OKV yX7_first mX7_first 1 := ⟨⟨tb_at 531 (by decide +kernel) rfl, ini_X7, ⟨by decide, by decide, by decide +kernel⟩, rfl, rfl⟩, tb_at 529 (by decide +kernel) rfl, tb_at 530 (by decide +kernel) rfl⟩
abbrev mX7_again : MI := (cX7_again, 8, RX7, { frames := 5, cells := 0, slots := 0, locals := 118 }, some (.int))
theorem okX7_again : OKV yX7_again mX7_again 3 := ⟨⟨tb_at 536 (by decide +kernel) rfl, ini_X7, ⟨by decide, by decide, by decide +kernel⟩, rfl, rfl⟩, tb_at 534 (by decide +kernel) rfl, tb_at 535 (by decide +kernel) rfl⟩
abbrev mX4_pack : MI := (cX4_pack, 4, RX4, { frames := 2, cells := 0, slots := 0, locals := 42 }, some (.long))
theorem okX4_pack : OKV yX4_pack mX4_pack 0 := ⟨⟨tb_at 540 (by decide +kernel) rfl, ini_X4, ⟨by decide, by decide, by decide +kernel⟩, rfl, rfl⟩, tb_at 538 (by decide +kernel) rfl, tb_at 539 (by decide +kernel) rfl⟩
abbrev mX7_rests : MI := (cX7_rests, 8, RX7, { frames := 5, cells := 0, slots := 0, locals := 118 }, some (.int))
theorem okX7_rests : OKV yX7_rests mX7_rests 1 := ⟨⟨tb_at 545 (by decide +kernel) rfl, ini_X7, ⟨by decide, by decide, by decide +kernel⟩, rfl, rfl⟩, tb_at 543 (by decide +kernel) rfl, tb_at 544 (by decide +kernel) rfl⟩
abbrev mX7_placeSeen : MI := (cX7_placeSeen, 5, RX7, { frames := 0, cells := 0, slots := 0, locals := 0 }, some (.int))
theorem okX7_placeSeen : OKV yX7_placeSeen mX7_placeSeen 2 := ⟨⟨tb_at 549 (by decide +kernel) rfl, ini_X7, ⟨by decide, by decide, by decide +kernel⟩, rfl, rfl⟩, tb_at 548 (by decide +kernel) rfl, tb_at 4 (by decide +kernel) rfl⟩
abbrev mX7_same : MI := (cX7_same, 6, RX7, { frames := 5, cells := 0, slots := 0, locals := 118 }, some (.int))
theorem okX7_same : OKV yX7_same mX7_same 2 := ⟨⟨tb_at 553 (by decide +kernel) rfl, ini_X7, ⟨by decide, by decide, by decide +kernel⟩, rfl, rfl⟩, tb_at 551 (by decide +kernel) rfl, tb_at 552 (by decide +kernel) rfl⟩
abbrev mX7_meant : MI := (cX7_meant, 4, RX7, { frames := 5, cells := 0, slots := 0, locals := 118 }, some (.int))
theorem okX7_meant : OKV yX7_meant mX7_meant 2 := ⟨⟨tb_at 557 (by decide +kernel) rfl, ini_X7, ⟨by decide, by decide, by decide +kernel⟩, rfl, rfl⟩, tb_at 555 (by decide +kernel) rfl, tb_at 556 (by decide +kernel) rfl⟩
abbrev mX6_know : MI := (cX6_know, 6, RX6, { frames := 4, cells := 0, slots := 0, locals := 93 }, none)
theorem okX6_know : OKV yX6_know mX6_know 1 := ⟨⟨tb_at 561 (by decide +kernel) rfl, ini_X6, ⟨by decide, by decide, by decide +kernel⟩, rfl, rfl⟩, tb_at 559 (by decide +kernel) rfl, tb_at 560 (by decide +kernel) rfl⟩
abbrev mX6_pieceOf : MI := (cX6_pieceOf, 3, RX6, { frames := 0, cells := 0, slots := 0, locals := 0 }, some (.int))
theorem okX6_pieceOf : OKS yX6_pieceOf mX6_pieceOf 2 := ⟨⟨tb_at 565 (by decide +kernel) rfl, ini_X6, ⟨by decide, by decide, by decide +kernel⟩, rfl, rfl⟩, tb_at 564 (by decide +kernel) rfl⟩
abbrev mX6_aim : MI := (cX6_aim, 7, RX6, { frames := 3, cells := 0, slots := 0, locals := 76 }, none)
theorem okX6_aim : OKV yX6_aim mX6_aim 2 := ⟨⟨tb_at 571 (by decide +kernel) rfl, ini_X6, ⟨by decide, by decide, by decide +kernel⟩, rfl, rfl⟩, tb_at 569 (by decide +kernel) rfl, tb_at 570 (by decide +kernel) rfl⟩
abbrev mX6_wayOf : MI := (cX6_wayOf, 4, RX6, { frames := 0, cells := 0, slots := 0, locals := 0 }, some (.int))
theorem okX6_wayOf : OKS yX6_wayOf mX6_wayOf 3 := ⟨⟨tb_at 574 (by decide +kernel) rfl, ini_X6, ⟨by decide, by decide, by decide +kernel⟩, rfl, rfl⟩, tb_at 573 (by decide +kernel) rfl⟩
abbrev mX6_waysFrom : MI := (cX6_waysFrom, 8, RX6, { frames := 2, cells := 0, slots := 0, locals := 49 }, some (.long))
theorem okX6_waysFrom : OKV yX6_waysFrom mX6_waysFrom 3 := ⟨⟨tb_at 578 (by decide +kernel) rfl, ini_X6, ⟨by decide, by decide, by decide +kernel⟩, rfl, rfl⟩, tb_at 577 (by decide +kernel) rfl, tb_at 5 (by decide +kernel) rfl⟩
abbrev mX6_placeAfter : MI := (cX6_placeAfter, 8, RX6, { frames := 1, cells := 0, slots := 0, locals := 22 }, some (.int))
theorem okX6_placeAfter : OKV yX6_placeAfter mX6_placeAfter 3 := ⟨⟨tb_at 582 (by decide +kernel) rfl, ini_X6, ⟨by decide, by decide, by decide +kernel⟩, rfl, rfl⟩, tb_at 581 (by decide +kernel) rfl, tb_at 6 (by decide +kernel) rfl⟩
abbrev mX6_many : MI := (cX6_many, 5, RX6, { frames := 1, cells := 0, slots := 0, locals := 23 }, some (.long))
theorem okX6_many : OKV yX6_many mX6_many 1 := ⟨⟨tb_at 586 (by decide +kernel) rfl, ini_X6, ⟨by decide, by decide, by decide +kernel⟩, rfl, rfl⟩, tb_at 584 (by decide +kernel) rfl, tb_at 585 (by decide +kernel) rfl⟩
abbrev mX7_tell : MI := (cX7_tell, 12, RX7, { frames := 0, cells := 0, slots := 0, locals := 0 }, none)
theorem okX7_tell : OKV yX7_tell mX7_tell 2 := ⟨⟨tb_at 590 (by decide +kernel) rfl, ini_X7, ⟨by decide, by decide, by decide +kernel⟩, rfl, rfl⟩, tb_at 589 (by decide +kernel) rfl, tb_at 7 (by decide +kernel) rfl⟩
abbrev mX7_smallest : MI := (cX7_smallest, 3, RX7, { frames := 6, cells := 0, slots := 0, locals := 153 }, some (.int))
theorem okX7_smallest : OKV yX7_smallest mX7_smallest 2 := ⟨⟨tb_at 594 (by decide +kernel) rfl, ini_X7, ⟨by decide, by decide, by decide +kernel⟩, rfl, rfl⟩, tb_at 592 (by decide +kernel) rfl, tb_at 593 (by decide +kernel) rfl⟩
abbrev mX7_believed : MI := (cX7_believed, 9, RX7, { frames := 5, cells := 0, slots := 0, locals := 125 }, some (.int))
theorem okX7_believed : OKV yX7_believed mX7_believed 3 := ⟨⟨tb_at 598 (by decide +kernel) rfl, ini_X7, ⟨by decide, by decide, by decide +kernel⟩, rfl, rfl⟩, tb_at 596 (by decide +kernel) rfl, tb_at 597 (by decide +kernel) rfl⟩
abbrev mX6_earliest : MI := (cX6_earliest, 4, RX6, { frames := 4, cells := 0, slots := 0, locals := 102 }, some (.long))
theorem okX6_earliest : OKV yX6_earliest mX6_earliest 1 := ⟨⟨tb_at 602 (by decide +kernel) rfl, ini_X6, ⟨by decide, by decide, by decide +kernel⟩, rfl, rfl⟩, tb_at 600 (by decide +kernel) rfl, tb_at 601 (by decide +kernel) rfl⟩
abbrev mX6_earliestOf : MI := (cX6_earliestOf, 9, RX6, { frames := 2, cells := 0, slots := 0, locals := 49 }, some (.long))
theorem okX6_earliestOf : OKV yX6_earliestOf mX6_earliestOf 1 := ⟨⟨tb_at 608 (by decide +kernel) rfl, ini_X6, ⟨by decide, by decide, by decide +kernel⟩, rfl, rfl⟩, tb_at 607 (by decide +kernel) rfl, tb_at 8 (by decide +kernel) rfl⟩
abbrev mX7_outs : MI := (cX7_outs, 2, RX7, { frames := 5, cells := 0, slots := 0, locals := 118 }, some (.int))
theorem okX7_outs : OKV yX7_outs mX7_outs 1 := ⟨⟨tb_at 615 (by decide +kernel) rfl, ini_X7, ⟨by decide, by decide, by decide +kernel⟩, rfl, rfl⟩, tb_at 613 (by decide +kernel) rfl, tb_at 614 (by decide +kernel) rfl⟩
abbrev mX0_gather : MI := (cX0_gather, 6, RX0, { frames := 2, cells := 0, slots := 0, locals := 52 }, none)
theorem okX0_gather : OKV yX0_gather mX0_gather 2 := ⟨⟨tb_at 619 (by decide +kernel) rfl, ini_X0, ⟨by decide, by decide, by decide +kernel⟩, rfl, rfl⟩, tb_at 617 (by decide +kernel) rfl, tb_at 618 (by decide +kernel) rfl⟩
abbrev mX6_outOfNumbered : MI := (cX6_outOfNumbered, 11, RX6, { frames := 1, cells := 0, slots := 0, locals := 22 }, some (.long))
theorem okX6_outOfNumbered : OKV yX6_outOfNumbered mX6_outOfNumbered 2 := ⟨⟨tb_at 624 (by decide +kernel) rfl, ini_X6, ⟨by decide, by decide, by decide +kernel⟩, rfl, rfl⟩, tb_at 622 (by decide +kernel) rfl, tb_at 623 (by decide +kernel) rfl⟩
abbrev mX0_earliestLike : MI := (cX0_earliestLike, 5, RX0, { frames := 0, cells := 0, slots := 0, locals := 0 }, some (.int))
theorem okX0_earliestLike : OKV yX0_earliestLike mX0_earliestLike 1 := ⟨⟨tb_at 628 (by decide +kernel) rfl, ini_X0, ⟨by decide, by decide, by decide +kernel⟩, rfl, rfl⟩, tb_at 627 (by decide +kernel) rfl, tb_at 9 (by decide +kernel) rfl⟩
abbrev mX7_twins : MI := (cX7_twins, 4, RX7, { frames := 5, cells := 0, slots := 0, locals := 118 }, some (.int))
theorem okX7_twins : OKV yX7_twins mX7_twins 2 := ⟨⟨tb_at 633 (by decide +kernel) rfl, ini_X7, ⟨by decide, by decide, by decide +kernel⟩, rfl, rfl⟩, tb_at 631 (by decide +kernel) rfl, tb_at 632 (by decide +kernel) rfl⟩
abbrev mX4_addSheet : MI := (cX4_addSheet, 5, RX4, { frames := 1, cells := 0, slots := 0, locals := 21 }, none)
theorem okX4_addSheet : OKV yX4_addSheet mX4_addSheet 2 := ⟨⟨tb_at 637 (by decide +kernel) rfl, ini_X4, ⟨by decide, by decide, by decide +kernel⟩, rfl, rfl⟩, tb_at 635 (by decide +kernel) rfl, tb_at 636 (by decide +kernel) rfl⟩
abbrev mX7_harmless : MI := (cX7_harmless, 3, RX7, { frames := 5, cells := 0, slots := 0, locals := 118 }, some (.int))
theorem okX7_harmless : OKV yX7_harmless mX7_harmless 2 := ⟨⟨tb_at 641 (by decide +kernel) rfl, ini_X7, ⟨by decide, by decide, by decide +kernel⟩, rfl, rfl⟩, tb_at 639 (by decide +kernel) rfl, tb_at 640 (by decide +kernel) rfl⟩
abbrev mX6_manyWithout : MI := (cX6_manyWithout, 6, RX6, { frames := 3, cells := 0, slots := 0, locals := 72 }, some (.int))
theorem okX6_manyWithout : OKV yX6_manyWithout mX6_manyWithout 2 := ⟨⟨tb_at 645 (by decide +kernel) rfl, ini_X6, ⟨by decide, by decide, by decide +kernel⟩, rfl, rfl⟩, tb_at 643 (by decide +kernel) rfl, tb_at 644 (by decide +kernel) rfl⟩
abbrev mX6_endOf : MI := (cX6_endOf, 3, RX6, { frames := 0, cells := 0, slots := 0, locals := 0 }, some (.int))
theorem okX6_endOf : OKS yX6_endOf mX6_endOf 2 := ⟨⟨tb_at 648 (by decide +kernel) rfl, ini_X6, ⟨by decide, by decide, by decide +kernel⟩, rfl, rfl⟩, tb_at 647 (by decide +kernel) rfl⟩
abbrev mX6_endsWithout : MI := (cX6_endsWithout, 6, RX6, { frames := 2, cells := 0, slots := 0, locals := 47 }, some (.int))
theorem okX6_endsWithout : OKV yX6_endsWithout mX6_endsWithout 3 := ⟨⟨tb_at 652 (by decide +kernel) rfl, ini_X6, ⟨by decide, by decide, by decide +kernel⟩, rfl, rfl⟩, tb_at 651 (by decide +kernel) rfl, tb_at 10 (by decide +kernel) rfl⟩
abbrev mX6_isWithout : MI := (cX6_isWithout, 6, RX6, { frames := 1, cells := 0, slots := 0, locals := 22 }, some (.boolean))
theorem okX6_isWithout : OKV yX6_isWithout mX6_isWithout 3 := ⟨⟨tb_at 656 (by decide +kernel) rfl, ini_X6, ⟨by decide, by decide, by decide +kernel⟩, rfl, rfl⟩, tb_at 655 (by decide +kernel) rfl, tb_at 11 (by decide +kernel) rfl⟩
abbrev mX7_forbid : MI := (cX7_forbid, 8, RX7, { frames := 5, cells := 0, slots := 0, locals := 118 }, some (.int))
theorem okX7_forbid : OKV yX7_forbid mX7_forbid 1 := ⟨⟨tb_at 662 (by decide +kernel) rfl, ini_X7, ⟨by decide, by decide, by decide +kernel⟩, rfl, rfl⟩, tb_at 660 (by decide +kernel) rfl, tb_at 661 (by decide +kernel) rfl⟩
abbrev mX6_usedFor : MI := (cX6_usedFor, 8, RX6, { frames := 3, cells := 0, slots := 0, locals := 76 }, some (.long))
theorem okX6_usedFor : OKV yX6_usedFor mX6_usedFor 1 := ⟨⟨tb_at 666 (by decide +kernel) rfl, ini_X6, ⟨by decide, by decide, by decide +kernel⟩, rfl, rfl⟩, tb_at 664 (by decide +kernel) rfl, tb_at 665 (by decide +kernel) rfl⟩
abbrev mX6_usedFrom : MI := (cX6_usedFrom, 8, RX6, { frames := 2, cells := 0, slots := 0, locals := 49 }, some (.long))
theorem okX6_usedFrom : OKV yX6_usedFrom mX6_usedFrom 3 := ⟨⟨tb_at 670 (by decide +kernel) rfl, ini_X6, ⟨by decide, by decide, by decide +kernel⟩, rfl, rfl⟩, tb_at 669 (by decide +kernel) rfl, tb_at 12 (by decide +kernel) rfl⟩
abbrev mX6_withSign : MI := (cX6_withSign, 5, RX6, { frames := 0, cells := 0, slots := 0, locals := 0 }, some (.long))
theorem okX6_withSign : OKS yX6_withSign mX6_withSign 3 := ⟨⟨tb_at 675 (by decide +kernel) rfl, ini_X6, ⟨by decide, by decide, by decide +kernel⟩, rfl, rfl⟩, tb_at 674 (by decide +kernel) rfl⟩
abbrev mJ6_bitCount_0f7a4 : MI := (cJ6_bitCount_0f7a4, 1, RJ6, { frames := 0, cells := 0, slots := 0, locals := 0 }, some (.int))
theorem okJ6_bitCount_0f7a4 : OKS yJ6_bitCount_0f7a4 mJ6_bitCount_0f7a4 1 := ⟨⟨tb_at 679 (by decide +kernel) rfl, ini_J6, ⟨by decide, by decide, by decide +kernel⟩, rfl, rfl⟩, tb_at 678 (by decide +kernel) rfl⟩
abbrev mX7_setsWithout : MI := (cX7_setsWithout, 4, RX7, { frames := 0, cells := 0, slots := 0, locals := 0 }, some (.long))
theorem okX7_setsWithout : OKS yX7_setsWithout mX7_setsWithout 1 := ⟨⟨tb_at 685 (by decide +kernel) rfl, ini_X7, ⟨by decide, by decide, by decide +kernel⟩, rfl, rfl⟩, tb_at 684 (by decide +kernel) rfl⟩
abbrev mX7_silence : MI := (cX7_silence, 11, RX7, { frames := 4, cells := 0, slots := 0, locals := 90 }, some (.int))
theorem okX7_silence : OKV yX7_silence mX7_silence 2 := ⟨⟨tb_at 691 (by decide +kernel) rfl, ini_X7, ⟨by decide, by decide, by decide +kernel⟩, rfl, rfl⟩, tb_at 689 (by decide +kernel) rfl, tb_at 690 (by decide +kernel) rfl⟩
abbrev mX5_lie : MI := (cX5_lie, 4, RX5, { frames := 3, cells := 0, slots := 0, locals := 67 }, none)
theorem okX5_lie : OKV yX5_lie mX5_lie 2 := ⟨⟨tb_at 695 (by decide +kernel) rfl, ini_X5, ⟨by decide, by decide, by decide +kernel⟩, rfl, rfl⟩, tb_at 693 (by decide +kernel) rfl, tb_at 694 (by decide +kernel) rfl⟩
abbrev mX2_holding : MI := (cX2_holding, 5, RX2, { frames := 2, cells := 0, slots := 0, locals := 43 }, some (.int))
theorem okX2_holding : OKV yX2_holding mX2_holding 2 := ⟨⟨tb_at 702 (by decide +kernel) rfl, ini_X2, ⟨by decide, by decide, by decide +kernel⟩, rfl, rfl⟩, tb_at 700 (by decide +kernel) rfl, tb_at 701 (by decide +kernel) rfl⟩
abbrev mX5_outBy : MI := (cX5_outBy, 7, RX5, { frames := 2, cells := 0, slots := 0, locals := 44 }, some (.long))
theorem okX5_outBy : OKV yX5_outBy mX5_outBy 1 := ⟨⟨tb_at 706 (by decide +kernel) rfl, ini_X5, ⟨by decide, by decide, by decide +kernel⟩, rfl, rfl⟩, tb_at 704 (by decide +kernel) rfl, tb_at 705 (by decide +kernel) rfl⟩
abbrev mX7_which : MI := (cX7_which, 10, RX7, { frames := 4, cells := 0, slots := 0, locals := 90 }, some (.int))
theorem okX7_which : OKV yX7_which mX7_which 2 := ⟨⟨tb_at 714 (by decide +kernel) rfl, ini_X7, ⟨by decide, by decide, by decide +kernel⟩, rfl, rfl⟩, tb_at 712 (by decide +kernel) rfl, tb_at 713 (by decide +kernel) rfl⟩
abbrev mX7_kinds : MI := (cX7_kinds, 12, RX7, { frames := 5, cells := 0, slots := 0, locals := 118 }, some (.int))
theorem okX7_kinds : OKV yX7_kinds mX7_kinds 3 := ⟨⟨tb_at 718 (by decide +kernel) rfl, ini_X7, ⟨by decide, by decide, by decide +kernel⟩, rfl, rfl⟩, tb_at 716 (by decide +kernel) rfl, tb_at 717 (by decide +kernel) rfl⟩
abbrev mX7_odds : MI := (cX7_odds, 16, RX7, { frames := 4, cells := 0, slots := 0, locals := 90 }, some (.int))
theorem okX7_odds : OKV yX7_odds mX7_odds 3 := ⟨⟨tb_at 724 (by decide +kernel) rfl, ini_X7, ⟨by decide, by decide, by decide +kernel⟩, rfl, rfl⟩, tb_at 722 (by decide +kernel) rfl, tb_at 723 (by decide +kernel) rfl⟩
abbrev mX7_weight : MI := (cX7_weight, 6, RX7, { frames := 0, cells := 0, slots := 0, locals := 0 }, some (.long))
theorem okX7_weight : OKS yX7_weight mX7_weight 3 := ⟨⟨tb_at 727 (by decide +kernel) rfl, ini_X7, ⟨by decide, by decide, by decide +kernel⟩, rfl, rfl⟩, tb_at 726 (by decide +kernel) rfl⟩
abbrev mX7_mid : MI := (cX7_mid, 12, RX7, { frames := 4, cells := 0, slots := 0, locals := 90 }, some (.int))
theorem okX7_mid : OKV yX7_mid mX7_mid 2 := ⟨⟨tb_at 731 (by decide +kernel) rfl, ini_X7, ⟨by decide, by decide, by decide +kernel⟩, rfl, rfl⟩, tb_at 729 (by decide +kernel) rfl, tb_at 730 (by decide +kernel) rfl⟩
abbrev mX7_print : MI := (cX7_print, 3, RX7, { frames := 5, cells := 0, slots := 0, locals := 118 }, some (.int))
theorem okX7_print : OKV yX7_print mX7_print 1 := ⟨⟨tb_at 736 (by decide +kernel) rfl, ini_X7, ⟨by decide, by decide, by decide +kernel⟩, rfl, rfl⟩, tb_at 734 (by decide +kernel) rfl, tb_at 735 (by decide +kernel) rfl⟩
abbrev mX2_addDeed : MI := (cX2_addDeed, 2, RX2, { frames := 3, cells := 0, slots := 0, locals := 66 }, none)
theorem okX2_addDeed : OKV yX2_addDeed mX2_addDeed 1 := ⟨⟨tb_at 740 (by decide +kernel) rfl, ini_X2, ⟨by decide, by decide, by decide +kernel⟩, rfl, rfl⟩, tb_at 738 (by decide +kernel) rfl, tb_at 739 (by decide +kernel) rfl⟩
abbrev mX2_takeInk : MI := (cX2_takeInk, 5, RX2, { frames := 2, cells := 0, slots := 0, locals := 42 }, none)
theorem okX2_takeInk : OKV yX2_takeInk mX2_takeInk 2 := ⟨⟨tb_at 745 (by decide +kernel) rfl, ini_X2, ⟨by decide, by decide, by decide +kernel⟩, rfl, rfl⟩, tb_at 744 (by decide +kernel) rfl, tb_at 13 (by decide +kernel) rfl⟩
abbrev mX7_ink : MI := (cX7_ink, 2, RX7, { frames := 1, cells := 0, slots := 0, locals := 21 }, some (.int))
theorem okX7_ink : OKV yX7_ink mX7_ink 1 := ⟨⟨tb_at 749 (by decide +kernel) rfl, ini_X7, ⟨by decide, by decide, by decide +kernel⟩, rfl, rfl⟩, tb_at 747 (by decide +kernel) rfl, tb_at 748 (by decide +kernel) rfl⟩
abbrev mX7_undo : MI := (cX7_undo, 4, RX7, { frames := 4, cells := 0, slots := 0, locals := 90 }, some (.int))
theorem okX7_undo : OKV yX7_undo mX7_undo 1 := ⟨⟨tb_at 753 (by decide +kernel) rfl, ini_X7, ⟨by decide, by decide, by decide +kernel⟩, rfl, rfl⟩, tb_at 751 (by decide +kernel) rfl, tb_at 752 (by decide +kernel) rfl⟩
abbrev mX2_dropDeed : MI := (cX2_dropDeed, 2, RX2, { frames := 3, cells := 0, slots := 0, locals := 69 }, none)
theorem okX2_dropDeed : OKV yX2_dropDeed mX2_dropDeed 1 := ⟨⟨tb_at 757 (by decide +kernel) rfl, ini_X2, ⟨by decide, by decide, by decide +kernel⟩, rfl, rfl⟩, tb_at 755 (by decide +kernel) rfl, tb_at 756 (by decide +kernel) rfl⟩
abbrev mX2_deed : MI := (cX2_deed, 2, RX2, { frames := 0, cells := 0, slots := 0, locals := 0 }, some (.long))
theorem okX2_deed : OKV yX2_deed mX2_deed 1 := ⟨⟨tb_at 761 (by decide +kernel) rfl, ini_X2, ⟨by decide, by decide, by decide +kernel⟩, rfl, rfl⟩, tb_at 759 (by decide +kernel) rfl, tb_at 760 (by decide +kernel) rfl⟩
abbrev mX7_drawer : MI := (cX7_drawer, 4, RX7, { frames := 3, cells := 0, slots := 0, locals := 69 }, some (.int))
theorem okX7_drawer : OKV yX7_drawer mX7_drawer 2 := ⟨⟨tb_at 766 (by decide +kernel) rfl, ini_X7, ⟨by decide, by decide, by decide +kernel⟩, rfl, rfl⟩, tb_at 764 (by decide +kernel) rfl, tb_at 765 (by decide +kernel) rfl⟩
abbrev mX7_lots : MI := (cX7_lots, 10, RX7, { frames := 5, cells := 0, slots := 0, locals := 118 }, some (.int))
theorem okX7_lots : OKV yX7_lots mX7_lots 2 := ⟨⟨tb_at 771 (by decide +kernel) rfl, ini_X7, ⟨by decide, by decide, by decide +kernel⟩, rfl, rfl⟩, tb_at 769 (by decide +kernel) rfl, tb_at 770 (by decide +kernel) rfl⟩
abbrev mX7_lotAfter : MI := (cX7_lotAfter, 2, RX7, { frames := 0, cells := 0, slots := 0, locals := 0 }, some (.long))
theorem okX7_lotAfter : OKS yX7_lotAfter mX7_lotAfter 1 := ⟨⟨tb_at 775 (by decide +kernel) rfl, ini_X7, ⟨by decide, by decide, by decide +kernel⟩, rfl, rfl⟩, tb_at 774 (by decide +kernel) rfl⟩
abbrev mX7_keep : MI := (cX7_keep, 2, RX7, { frames := 3, cells := 0, slots := 0, locals := 67 }, some (.int))
theorem okX7_keep : OKV yX7_keep mX7_keep 1 := ⟨⟨tb_at 785 (by decide +kernel) rfl, ini_X7, ⟨by decide, by decide, by decide +kernel⟩, rfl, rfl⟩, tb_at 783 (by decide +kernel) rfl, tb_at 784 (by decide +kernel) rfl⟩
abbrev mX2_take : MI := (cX2_take, 3, RX2, { frames := 2, cells := 0, slots := 0, locals := 45 }, none)
theorem okX2_take : OKV yX2_take mX2_take 1 := ⟨⟨tb_at 789 (by decide +kernel) rfl, ini_X2, ⟨by decide, by decide, by decide +kernel⟩, rfl, rfl⟩, tb_at 787 (by decide +kernel) rfl, tb_at 788 (by decide +kernel) rfl⟩
abbrev mX7_on : MI := (cX7_on, 2, RX7, { frames := 3, cells := 0, slots := 0, locals := 67 }, some (.int))
theorem okX7_on : OKV yX7_on mX7_on 1 := ⟨⟨tb_at 794 (by decide +kernel) rfl, ini_X7, ⟨by decide, by decide, by decide +kernel⟩, rfl, rfl⟩, tb_at 792 (by decide +kernel) rfl, tb_at 793 (by decide +kernel) rfl⟩
abbrev mX2_isKept : MI := (cX2_isKept, 1, RX2, { frames := 0, cells := 0, slots := 0, locals := 0 }, some (.boolean))
theorem okX2_isKept : OKV yX2_isKept mX2_isKept 0 := ⟨⟨tb_at 798 (by decide +kernel) rfl, ini_X2, ⟨by decide, by decide, by decide +kernel⟩, rfl, rfl⟩, tb_at 796 (by decide +kernel) rfl, tb_at 797 (by decide +kernel) rfl⟩
abbrev mX7_asked : MI := (cX7_asked, 1, RX7, { frames := 0, cells := 0, slots := 0, locals := 0 }, some (.int))
theorem okX7_asked : OKV yX7_asked mX7_asked 0 := ⟨⟨tb_at 802 (by decide +kernel) rfl, ini_X7, ⟨by decide, by decide, by decide +kernel⟩, rfl, rfl⟩, tb_at 800 (by decide +kernel) rfl, tb_at 801 (by decide +kernel) rfl⟩
abbrev mX7_upper : MI := (cX7_upper, 1, RX7, { frames := 0, cells := 0, slots := 0, locals := 0 }, some (.long))
theorem okX7_upper : OKV yX7_upper mX7_upper 0 := ⟨⟨tb_at 806 (by decide +kernel) rfl, ini_X7, ⟨by decide, by decide, by decide +kernel⟩, rfl, rfl⟩, tb_at 804 (by decide +kernel) rfl, tb_at 805 (by decide +kernel) rfl⟩
abbrev mX7_lower : MI := (cX7_lower, 1, RX7, { frames := 0, cells := 0, slots := 0, locals := 0 }, some (.long))
theorem okX7_lower : OKV yX7_lower mX7_lower 0 := ⟨⟨tb_at 810 (by decide +kernel) rfl, ini_X7, ⟨by decide, by decide, by decide +kernel⟩, rfl, rfl⟩, tb_at 808 (by decide +kernel) rfl, tb_at 809 (by decide +kernel) rfl⟩
abbrev mX7_count : MI := (cX7_count, 2, RX7, { frames := 2, cells := 0, slots := 0, locals := 44 }, some (.int))
theorem okX7_count : OKV yX7_count mX7_count 1 := ⟨⟨tb_at 814 (by decide +kernel) rfl, ini_X7, ⟨by decide, by decide, by decide +kernel⟩, rfl, rfl⟩, tb_at 812 (by decide +kernel) rfl, tb_at 813 (by decide +kernel) rfl⟩
abbrev mX2_inksInAll : MI := (cX2_inksInAll, 3, RX2, { frames := 0, cells := 0, slots := 0, locals := 0 }, some (.int))
theorem okX2_inksInAll : OKV yX2_inksInAll mX2_inksInAll 0 := ⟨⟨tb_at 818 (by decide +kernel) rfl, ini_X2, ⟨by decide, by decide, by decide +kernel⟩, rfl, rfl⟩, tb_at 816 (by decide +kernel) rfl, tb_at 817 (by decide +kernel) rfl⟩
abbrev mX2_lawsOfKind : MI := (cX2_lawsOfKind, 4, RX2, { frames := 1, cells := 0, slots := 0, locals := 21 }, some (.int))
theorem okX2_lawsOfKind : OKV yX2_lawsOfKind mX2_lawsOfKind 1 := ⟨⟨tb_at 822 (by decide +kernel) rfl, ini_X2, ⟨by decide, by decide, by decide +kernel⟩, rfl, rfl⟩, tb_at 820 (by decide +kernel) rfl, tb_at 821 (by decide +kernel) rfl⟩
abbrev mX7_manyThere : MI := (cX7_manyThere, 3, RX7, { frames := 1, cells := 0, slots := 0, locals := 20 }, some (.int))
theorem okX7_manyThere : OKS yX7_manyThere mX7_manyThere 1 := ⟨⟨tb_at 826 (by decide +kernel) rfl, ini_X7, ⟨by decide, by decide, by decide +kernel⟩, rfl, rfl⟩, tb_at 825 (by decide +kernel) rfl⟩
abbrev mX7_pressesKept : MI := (cX7_pressesKept, 3, RX7, { frames := 1, cells := 0, slots := 0, locals := 20 }, some (.int))
theorem okX7_pressesKept : OKV yX7_pressesKept mX7_pressesKept 0 := ⟨⟨tb_at 830 (by decide +kernel) rfl, ini_X7, ⟨by decide, by decide, by decide +kernel⟩, rfl, rfl⟩, tb_at 829 (by decide +kernel) rfl, tb_at 14 (by decide +kernel) rfl⟩
abbrev mX7_finding : MI := (cX7_finding, 1, RX7, { frames := 0, cells := 0, slots := 0, locals := 0 }, some (.int))
theorem okX7_finding : OKV yX7_finding mX7_finding 0 := ⟨⟨tb_at 834 (by decide +kernel) rfl, ini_X7, ⟨by decide, by decide, by decide +kernel⟩, rfl, rfl⟩, tb_at 832 (by decide +kernel) rfl, tb_at 833 (by decide +kernel) rfl⟩
abbrev mX7_findings : MI := (cX7_findings, 2, RX7, { frames := 0, cells := 0, slots := 0, locals := 0 }, some (.int))
theorem okX7_findings : OKV yX7_findings mX7_findings 1 := ⟨⟨tb_at 838 (by decide +kernel) rfl, ini_X7, ⟨by decide, by decide, by decide +kernel⟩, rfl, rfl⟩, tb_at 836 (by decide +kernel) rfl, tb_at 837 (by decide +kernel) rfl⟩
abbrev mX7_digest : MI := (cX7_digest, 4, RX7, { frames := 4, cells := 0, slots := 0, locals := 96 }, some (.long))
theorem okX7_digest : OKV yX7_digest mX7_digest 0 := ⟨⟨tb_at 842 (by decide +kernel) rfl, ini_X7, ⟨by decide, by decide, by decide +kernel⟩, rfl, rfl⟩, tb_at 840 (by decide +kernel) rfl, tb_at 841 (by decide +kernel) rfl⟩
abbrev mX2_digested : MI := (cX2_digested, 8, RX2, { frames := 3, cells := 0, slots := 0, locals := 69 }, some (.long))
theorem okX2_digested : OKV yX2_digested mX2_digested 2 := ⟨⟨tb_at 849 (by decide +kernel) rfl, ini_X2, ⟨by decide, by decide, by decide +kernel⟩, rfl, rfl⟩, tb_at 847 (by decide +kernel) rfl, tb_at 848 (by decide +kernel) rfl⟩
abbrev mX4_digested : MI := (cX4_digested, 6, RX4, { frames := 2, cells := 0, slots := 0, locals := 42 }, some (.long))
theorem okX4_digested : OKV yX4_digested mX4_digested 1 := ⟨⟨tb_at 855 (by decide +kernel) rfl, ini_X4, ⟨by decide, by decide, by decide +kernel⟩, rfl, rfl⟩, tb_at 853 (by decide +kernel) rfl, tb_at 854 (by decide +kernel) rfl⟩
abbrev mX8_row : MI := (cX8_row, 4, RX8, { frames := 2, cells := 0, slots := 0, locals := 42 }, some (.int))
theorem okX8_row : OKV yX8_row mX8_row 2 := ⟨⟨tb_at 962 (by decide +kernel) rfl, ini_X8, ⟨by decide, by decide, by decide +kernel⟩, rfl, rfl⟩, tb_at 960 (by decide +kernel) rfl, tb_at 961 (by decide +kernel) rfl⟩
abbrev mX8_isRow : MI := (cX8_isRow, 1, RX8, { frames := 1, cells := 0, slots := 0, locals := 22 }, some (.boolean))
theorem okX8_isRow : OKS yX8_isRow mX8_isRow 1 := ⟨⟨tb_at 965 (by decide +kernel) rfl, ini_X8, ⟨by decide, by decide, by decide +kernel⟩, rfl, rfl⟩, tb_at 964 (by decide +kernel) rfl⟩
abbrev mX8_in : MI := (cX8_in, 3, RX8, { frames := 0, cells := 0, slots := 0, locals := 0 }, some (.boolean))
theorem okX8_in : OKS yX8_in mX8_in 3 := ⟨⟨tb_at 968 (by decide +kernel) rfl, ini_X8, ⟨by decide, by decide, by decide +kernel⟩, rfl, rfl⟩, tb_at 967 (by decide +kernel) rfl⟩
abbrev mX8_meet : MI := (cX8_meet, 2, RX8, { frames := 0, cells := 0, slots := 0, locals := 0 }, some (.int))
theorem okX8_meet : OKV yX8_meet mX8_meet 1 := ⟨⟨tb_at 972 (by decide +kernel) rfl, ini_X8, ⟨by decide, by decide, by decide +kernel⟩, rfl, rfl⟩, tb_at 971 (by decide +kernel) rfl, tb_at 15 (by decide +kernel) rfl⟩
abbrev mX8_setRow : MI := (cX8_setRow, 4, RX8, { frames := 0, cells := 0, slots := 0, locals := 0 }, none)
theorem okX8_setRow : OKV yX8_setRow mX8_setRow 3 := ⟨⟨tb_at 976 (by decide +kernel) rfl, ini_X8, ⟨by decide, by decide, by decide +kernel⟩, rfl, rfl⟩, tb_at 975 (by decide +kernel) rfl, tb_at 16 (by decide +kernel) rfl⟩
abbrev mX8_at : MI := (cX8_at, 4, RX8, { frames := 3, cells := 0, slots := 0, locals := 63 }, some (.int))
theorem okX8_at : OKV yX8_at mX8_at 2 := ⟨⟨tb_at 980 (by decide +kernel) rfl, ini_X8, ⟨by decide, by decide, by decide +kernel⟩, rfl, rfl⟩, tb_at 978 (by decide +kernel) rfl, tb_at 979 (by decide +kernel) rfl⟩
abbrev mX8_askedRow : MI := (cX8_askedRow, 2, RX8, { frames := 2, cells := 0, slots := 0, locals := 42 }, some (.int))
theorem okX8_askedRow : OKV yX8_askedRow mX8_askedRow 1 := ⟨⟨tb_at 984 (by decide +kernel) rfl, ini_X8, ⟨by decide, by decide, by decide +kernel⟩, rfl, rfl⟩, tb_at 983 (by decide +kernel) rfl, tb_at 17 (by decide +kernel) rfl⟩
abbrev mX8_rowAt : MI := (cX8_rowAt, 3, RX8, { frames := 0, cells := 0, slots := 0, locals := 0 }, some (.int))
theorem okX8_rowAt : OKV yX8_rowAt mX8_rowAt 2 := ⟨⟨tb_at 988 (by decide +kernel) rfl, ini_X8, ⟨by decide, by decide, by decide +kernel⟩, rfl, rfl⟩, tb_at 987 (by decide +kernel) rfl, tb_at 18 (by decide +kernel) rfl⟩
abbrev mX8_ask : MI := (cX8_ask, 3, RX8, { frames := 0, cells := 0, slots := 0, locals := 0 }, some (.int))
theorem okX8_ask : OKV yX8_ask mX8_ask 2 := ⟨⟨tb_at 992 (by decide +kernel) rfl, ini_X8, ⟨by decide, by decide, by decide +kernel⟩, rfl, rfl⟩, tb_at 991 (by decide +kernel) rfl, tb_at 19 (by decide +kernel) rfl⟩
abbrev mX8_lay : MI := (cX8_lay, 5, RX8, { frames := 4, cells := 0, slots := 0, locals := 86 }, some (.int))
theorem okX8_lay : OKV yX8_lay mX8_lay 3 := ⟨⟨tb_at 996 (by decide +kernel) rfl, ini_X8, ⟨by decide, by decide, by decide +kernel⟩, rfl, rfl⟩, tb_at 994 (by decide +kernel) rfl, tb_at 995 (by decide +kernel) rfl⟩
abbrev mX8_tear : MI := (cX8_tear, 3, RX8, { frames := 3, cells := 0, slots := 0, locals := 63 }, some (.int))
theorem okX8_tear : OKV yX8_tear mX8_tear 1 := ⟨⟨tb_at 1001 (by decide +kernel) rfl, ini_X8, ⟨by decide, by decide, by decide +kernel⟩, rfl, rfl⟩, tb_at 999 (by decide +kernel) rfl, tb_at 1000 (by decide +kernel) rfl⟩
abbrev mX8_copy : MI := (cX8_copy, 7, RX8, { frames := 2, cells := 0, slots := 0, locals := 42 }, some (.int))
theorem okX8_copy : OKV yX8_copy mX8_copy 5 := ⟨⟨tb_at 1005 (by decide +kernel) rfl, ini_X8, ⟨by decide, by decide, by decide +kernel⟩, rfl, rfl⟩, tb_at 1003 (by decide +kernel) rfl, tb_at 1004 (by decide +kernel) rfl⟩
abbrev mX8_mean : MI := (cX8_mean, 6, RX8, { frames := 3, cells := 0, slots := 0, locals := 63 }, some (.int))
theorem okX8_mean : OKV yX8_mean mX8_mean 1 := ⟨⟨tb_at 1009 (by decide +kernel) rfl, ini_X8, ⟨by decide, by decide, by decide +kernel⟩, rfl, rfl⟩, tb_at 1007 (by decide +kernel) rfl, tb_at 1008 (by decide +kernel) rfl⟩
abbrev mX8_text : MI := (cX8_text, 4, RX8, { frames := 2, cells := 0, slots := 0, locals := 42 }, some (.int))
theorem okX8_text : OKV yX8_text mX8_text 2 := ⟨⟨tb_at 1013 (by decide +kernel) rfl, ini_X8, ⟨by decide, by decide, by decide +kernel⟩, rfl, rfl⟩, tb_at 1011 (by decide +kernel) rfl, tb_at 1012 (by decide +kernel) rfl⟩
abbrev mX8_isText : MI := (cX8_isText, 1, RX8, { frames := 1, cells := 0, slots := 0, locals := 22 }, some (.boolean))
theorem okX8_isText : OKS yX8_isText mX8_isText 1 := ⟨⟨tb_at 1016 (by decide +kernel) rfl, ini_X8, ⟨by decide, by decide, by decide +kernel⟩, rfl, rfl⟩, tb_at 1015 (by decide +kernel) rfl⟩
abbrev mX8_put : MI := (cX8_put, 6, RX8, { frames := 3, cells := 0, slots := 0, locals := 63 }, some (.int))
theorem okX8_put : OKV yX8_put mX8_put 3 := ⟨⟨tb_at 1020 (by decide +kernel) rfl, ini_X8, ⟨by decide, by decide, by decide +kernel⟩, rfl, rfl⟩, tb_at 1018 (by decide +kernel) rfl, tb_at 1019 (by decide +kernel) rfl⟩
abbrev mX8_askedText : MI := (cX8_askedText, 2, RX8, { frames := 2, cells := 0, slots := 0, locals := 42 }, some (.int))
theorem okX8_askedText : OKV yX8_askedText mX8_askedText 1 := ⟨⟨tb_at 1024 (by decide +kernel) rfl, ini_X8, ⟨by decide, by decide, by decide +kernel⟩, rfl, rfl⟩, tb_at 1023 (by decide +kernel) rfl, tb_at 20 (by decide +kernel) rfl⟩
abbrev mX8_fault : MI := (cX8_fault, 3, RX8, { frames := 3, cells := 0, slots := 0, locals := 68 }, some (.int))
theorem okX8_fault : OKV yX8_fault mX8_fault 1 := ⟨⟨tb_at 1028 (by decide +kernel) rfl, ini_X8, ⟨by decide, by decide, by decide +kernel⟩, rfl, rfl⟩, tb_at 1026 (by decide +kernel) rfl, tb_at 1027 (by decide +kernel) rfl⟩
abbrev mX8_goesOn : MI := (cX8_goesOn, 2, RX8, { frames := 2, cells := 0, slots := 0, locals := 47 }, some (.int))
theorem okX8_goesOn : OKV yX8_goesOn mX8_goesOn 1 := ⟨⟨tb_at 1032 (by decide +kernel) rfl, ini_X8, ⟨by decide, by decide, by decide +kernel⟩, rfl, rfl⟩, tb_at 1031 (by decide +kernel) rfl, tb_at 21 (by decide +kernel) rfl⟩
abbrev mX8_here : MI := (cX8_here, 2, RX8, { frames := 0, cells := 0, slots := 0, locals := 0 }, some (.int))
theorem okX8_here : OKV yX8_here mX8_here 1 := ⟨⟨tb_at 1036 (by decide +kernel) rfl, ini_X8, ⟨by decide, by decide, by decide +kernel⟩, rfl, rfl⟩, tb_at 1035 (by decide +kernel) rfl, tb_at 22 (by decide +kernel) rfl⟩
abbrev mX8_readsLaw : MI := (cX8_readsLaw, 6, RX8, { frames := 1, cells := 0, slots := 0, locals := 22 }, some (.boolean))
theorem okX8_readsLaw : OKV yX8_readsLaw mX8_readsLaw 1 := ⟨⟨tb_at 1040 (by decide +kernel) rfl, ini_X8, ⟨by decide, by decide, by decide +kernel⟩, rfl, rfl⟩, tb_at 1039 (by decide +kernel) rfl, tb_at 23 (by decide +kernel) rfl⟩
abbrev mX8_kindBy : MI := (cX8_kindBy, 1, RX8, { frames := 0, cells := 0, slots := 0, locals := 0 }, some (.int))
theorem okX8_kindBy : OKS yX8_kindBy mX8_kindBy 1 := ⟨⟨tb_at 1043 (by decide +kernel) rfl, ini_X8, ⟨by decide, by decide, by decide +kernel⟩, rfl, rfl⟩, tb_at 1042 (by decide +kernel) rfl⟩
abbrev mX8_hasZ : MI := (cX8_hasZ, 1, RX8, { frames := 0, cells := 0, slots := 0, locals := 0 }, some (.boolean))
theorem okX8_hasZ : OKS yX8_hasZ mX8_hasZ 1 := ⟨⟨tb_at 1046 (by decide +kernel) rfl, ini_X8, ⟨by decide, by decide, by decide +kernel⟩, rfl, rfl⟩, tb_at 1045 (by decide +kernel) rfl⟩
abbrev mX8_press : MI := (cX8_press, 4, RX8, { frames := 3, cells := 0, slots := 0, locals := 68 }, some (.int))
theorem okX8_press : OKV yX8_press mX8_press 1 := ⟨⟨tb_at 1050 (by decide +kernel) rfl, ini_X8, ⟨by decide, by decide, by decide +kernel⟩, rfl, rfl⟩, tb_at 1048 (by decide +kernel) rfl, tb_at 1049 (by decide +kernel) rfl⟩
abbrev mX8_law : MI := (cX8_law, 3, RX8, { frames := 2, cells := 0, slots := 0, locals := 43 }, some (.int))
theorem okX8_law : OKV yX8_law mX8_law 2 := ⟨⟨tb_at 1054 (by decide +kernel) rfl, ini_X8, ⟨by decide, by decide, by decide +kernel⟩, rfl, rfl⟩, tb_at 1052 (by decide +kernel) rfl, tb_at 1053 (by decide +kernel) rfl⟩
abbrev mX8_isLaw : MI := (cX8_isLaw, 2, RX8, { frames := 1, cells := 0, slots := 0, locals := 22 }, some (.boolean))
theorem okX8_isLaw : OKV yX8_isLaw mX8_isLaw 1 := ⟨⟨tb_at 1058 (by decide +kernel) rfl, ini_X8, ⟨by decide, by decide, by decide +kernel⟩, rfl, rfl⟩, tb_at 1057 (by decide +kernel) rfl, tb_at 24 (by decide +kernel) rfl⟩
abbrev mX8_lawOf : MI := (cX8_lawOf, 3, RX8, { frames := 0, cells := 0, slots := 0, locals := 0 }, some (.int))
theorem okX8_lawOf : OKV yX8_lawOf mX8_lawOf 2 := ⟨⟨tb_at 1062 (by decide +kernel) rfl, ini_X8, ⟨by decide, by decide, by decide +kernel⟩, rfl, rfl⟩, tb_at 1061 (by decide +kernel) rfl, tb_at 25 (by decide +kernel) rfl⟩
abbrev mX8_mark : MI := (cX8_mark, 3, RX8, { frames := 5, cells := 0, slots := 0, locals := 114 }, some (.int))
theorem okX8_mark : OKV yX8_mark mX8_mark 2 := ⟨⟨tb_at 1066 (by decide +kernel) rfl, ini_X8, ⟨by decide, by decide, by decide +kernel⟩, rfl, rfl⟩, tb_at 1064 (by decide +kernel) rfl, tb_at 1065 (by decide +kernel) rfl⟩
abbrev mX8_isA : MI := (cX8_isA, 4, RX8, { frames := 0, cells := 0, slots := 0, locals := 0 }, some (.boolean))
theorem okX8_isA : OKV yX8_isA mX8_isA 2 := ⟨⟨tb_at 1070 (by decide +kernel) rfl, ini_X8, ⟨by decide, by decide, by decide +kernel⟩, rfl, rfl⟩, tb_at 1069 (by decide +kernel) rfl, tb_at 26 (by decide +kernel) rfl⟩
abbrev mX8_marked : MI := (cX8_marked, 4, RX8, { frames := 4, cells := 0, slots := 0, locals := 91 }, some (.int))
theorem okX8_marked : OKV yX8_marked mX8_marked 2 := ⟨⟨tb_at 1074 (by decide +kernel) rfl, ini_X8, ⟨by decide, by decide, by decide +kernel⟩, rfl, rfl⟩, tb_at 1073 (by decide +kernel) rfl, tb_at 27 (by decide +kernel) rfl⟩
abbrev mX8_othersOf : MI := (cX8_othersOf, 4, RX8, { frames := 0, cells := 0, slots := 0, locals := 0 }, some (.int))
theorem okX8_othersOf : OKV yX8_othersOf mX8_othersOf 1 := ⟨⟨tb_at 1078 (by decide +kernel) rfl, ini_X8, ⟨by decide, by decide, by decide +kernel⟩, rfl, rfl⟩, tb_at 1077 (by decide +kernel) rfl, tb_at 28 (by decide +kernel) rfl⟩
abbrev mX8_lay_ : MI := (cX8_lay_, 3, RX8, { frames := 0, cells := 0, slots := 0, locals := 0 }, none)
theorem okX8_lay_ : OKV yX8_lay_ mX8_lay_ 2 := ⟨⟨tb_at 1082 (by decide +kernel) rfl, ini_X8, ⟨by decide, by decide, by decide +kernel⟩, rfl, rfl⟩, tb_at 1081 (by decide +kernel) rfl, tb_at 29 (by decide +kernel) rfl⟩
abbrev mX8_onSet : MI := (cX8_onSet, 3, RX8, { frames := 0, cells := 0, slots := 0, locals := 0 }, some (.int))
theorem okX8_onSet : OKV yX8_onSet mX8_onSet 0 := ⟨⟨tb_at 1086 (by decide +kernel) rfl, ini_X8, ⟨by decide, by decide, by decide +kernel⟩, rfl, rfl⟩, tb_at 1085 (by decide +kernel) rfl, tb_at 30 (by decide +kernel) rfl⟩
abbrev mX8_lawAt : MI := (cX8_lawAt, 4, RX8, { frames := 2, cells := 0, slots := 0, locals := 44 }, some (.int))
theorem okX8_lawAt : OKV yX8_lawAt mX8_lawAt 2 := ⟨⟨tb_at 1090 (by decide +kernel) rfl, ini_X8, ⟨by decide, by decide, by decide +kernel⟩, rfl, rfl⟩, tb_at 1089 (by decide +kernel) rfl, tb_at 31 (by decide +kernel) rfl⟩
abbrev mX8_has : MI := (cX8_has, 2, RX8, { frames := 0, cells := 0, slots := 0, locals := 0 }, some (.boolean))
theorem okX8_has : OKS yX8_has mX8_has 2 := ⟨⟨tb_at 1093 (by decide +kernel) rfl, ini_X8, ⟨by decide, by decide, by decide +kernel⟩, rfl, rfl⟩, tb_at 1092 (by decide +kernel) rfl⟩
abbrev mX8_holds : MI := (cX8_holds, 5, RX8, { frames := 1, cells := 0, slots := 0, locals := 20 }, some (.boolean))
theorem okX8_holds : OKV yX8_holds mX8_holds 2 := ⟨⟨tb_at 1097 (by decide +kernel) rfl, ini_X8, ⟨by decide, by decide, by decide +kernel⟩, rfl, rfl⟩, tb_at 1096 (by decide +kernel) rfl, tb_at 32 (by decide +kernel) rfl⟩
abbrev mX8_setBy : MI := (cX8_setBy, 5, RX8, { frames := 3, cells := 0, slots := 0, locals := 67 }, none)
theorem okX8_setBy : OKV yX8_setBy mX8_setBy 1 := ⟨⟨tb_at 1101 (by decide +kernel) rfl, ini_X8, ⟨by decide, by decide, by decide +kernel⟩, rfl, rfl⟩, tb_at 1100 (by decide +kernel) rfl, tb_at 33 (by decide +kernel) rfl⟩
abbrev mX8_comes : MI := (cX8_comes, 2, RX8, { frames := 0, cells := 0, slots := 0, locals := 0 }, none)
theorem okX8_comes : OKV yX8_comes mX8_comes 1 := ⟨⟨tb_at 1105 (by decide +kernel) rfl, ini_X8, ⟨by decide, by decide, by decide +kernel⟩, rfl, rfl⟩, tb_at 1104 (by decide +kernel) rfl, tb_at 34 (by decide +kernel) rfl⟩
abbrev mX8_isAsWritten : MI := (cX8_isAsWritten, 3, RX8, { frames := 0, cells := 0, slots := 0, locals := 0 }, some (.boolean))
theorem okX8_isAsWritten : OKV yX8_isAsWritten mX8_isAsWritten 0 := ⟨⟨tb_at 1109 (by decide +kernel) rfl, ini_X8, ⟨by decide, by decide, by decide +kernel⟩, rfl, rfl⟩, tb_at 1108 (by decide +kernel) rfl, tb_at 35 (by decide +kernel) rfl⟩
abbrev mX8_hush : MI := (cX8_hush, 4, RX8, { frames := 2, cells := 0, slots := 0, locals := 43 }, some (.int))
theorem okX8_hush : OKV yX8_hush mX8_hush 2 := ⟨⟨tb_at 1113 (by decide +kernel) rfl, ini_X8, ⟨by decide, by decide, by decide +kernel⟩, rfl, rfl⟩, tb_at 1111 (by decide +kernel) rfl, tb_at 1112 (by decide +kernel) rfl⟩
abbrev mX8_swap : MI := (cX8_swap, 5, RX8, { frames := 2, cells := 0, slots := 0, locals := 43 }, some (.int))
theorem okX8_swap : OKV yX8_swap mX8_swap 2 := ⟨⟨tb_at 1117 (by decide +kernel) rfl, ini_X8, ⟨by decide, by decide, by decide +kernel⟩, rfl, rfl⟩, tb_at 1115 (by decide +kernel) rfl, tb_at 1116 (by decide +kernel) rfl⟩
abbrev mX8_set : MI := (cX8_set, 4, RX8, { frames := 4, cells := 0, slots := 0, locals := 91 }, some (.int))
theorem okX8_set : OKV yX8_set mX8_set 2 := ⟨⟨tb_at 1121 (by decide +kernel) rfl, ini_X8, ⟨by decide, by decide, by decide +kernel⟩, rfl, rfl⟩, tb_at 1119 (by decide +kernel) rfl, tb_at 1120 (by decide +kernel) rfl⟩
abbrev mX8_askedSigns : MI := (cX8_askedSigns, 5, RX8, { frames := 3, cells := 0, slots := 0, locals := 63 }, some (.int))
theorem okX8_askedSigns : OKV yX8_askedSigns mX8_askedSigns 2 := ⟨⟨tb_at 1125 (by decide +kernel) rfl, ini_X8, ⟨by decide, by decide, by decide +kernel⟩, rfl, rfl⟩, tb_at 1124 (by decide +kernel) rfl, tb_at 36 (by decide +kernel) rfl⟩
abbrev mX8_isSign : MI := (cX8_isSign, 1, RX8, { frames := 1, cells := 0, slots := 0, locals := 22 }, some (.boolean))
theorem okX8_isSign : OKS yX8_isSign mX8_isSign 1 := ⟨⟨tb_at 1128 (by decide +kernel) rfl, ini_X8, ⟨by decide, by decide, by decide +kernel⟩, rfl, rfl⟩, tb_at 1127 (by decide +kernel) rfl⟩
abbrev mX8_laySheet : MI := (cX8_laySheet, 3, RX8, { frames := 1, cells := 0, slots := 0, locals := 22 }, none)
theorem okX8_laySheet : OKV yX8_laySheet mX8_laySheet 1 := ⟨⟨tb_at 1132 (by decide +kernel) rfl, ini_X8, ⟨by decide, by decide, by decide +kernel⟩, rfl, rfl⟩, tb_at 1131 (by decide +kernel) rfl, tb_at 37 (by decide +kernel) rfl⟩
abbrev mX8_outToRow : MI := (cX8_outToRow, 3, RX8, { frames := 3, cells := 0, slots := 0, locals := 65 }, some (.int))
theorem okX8_outToRow : OKV yX8_outToRow mX8_outToRow 1 := ⟨⟨tb_at 1136 (by decide +kernel) rfl, ini_X8, ⟨by decide, by decide, by decide +kernel⟩, rfl, rfl⟩, tb_at 1135 (by decide +kernel) rfl, tb_at 38 (by decide +kernel) rfl⟩
abbrev mX8_by : MI := (cX8_by, 4, RX8, { frames := 4, cells := 0, slots := 0, locals := 87 }, some (.int))
theorem okX8_by : OKV yX8_by mX8_by 2 := ⟨⟨tb_at 1141 (by decide +kernel) rfl, ini_X8, ⟨by decide, by decide, by decide +kernel⟩, rfl, rfl⟩, tb_at 1139 (by decide +kernel) rfl, tb_at 1140 (by decide +kernel) rfl⟩
abbrev mX8_first : MI := (cX8_first, 4, RX8, { frames := 4, cells := 0, slots := 0, locals := 91 }, some (.int))
theorem okX8_first : OKV yX8_first mX8_first 1 := ⟨⟨tb_at 1145 (by decide +kernel) rfl, ini_X8, ⟨by decide, by decide, by decide +kernel⟩, rfl, rfl⟩, tb_at 1143 (by decide +kernel) rfl, tb_at 1144 (by decide +kernel) rfl⟩
abbrev mX8_again : MI := (cX8_again, 6, RX8, { frames := 4, cells := 0, slots := 0, locals := 91 }, some (.int))
theorem okX8_again : OKV yX8_again mX8_again 3 := ⟨⟨tb_at 1149 (by decide +kernel) rfl, ini_X8, ⟨by decide, by decide, by decide +kernel⟩, rfl, rfl⟩, tb_at 1147 (by decide +kernel) rfl, tb_at 1148 (by decide +kernel) rfl⟩
abbrev mX8_sheetToRow : MI := (cX8_sheetToRow, 3, RX8, { frames := 3, cells := 0, slots := 0, locals := 65 }, some (.int))
theorem okX8_sheetToRow : OKV yX8_sheetToRow mX8_sheetToRow 1 := ⟨⟨tb_at 1153 (by decide +kernel) rfl, ini_X8, ⟨by decide, by decide, by decide +kernel⟩, rfl, rfl⟩, tb_at 1152 (by decide +kernel) rfl, tb_at 39 (by decide +kernel) rfl⟩
abbrev mX8_outToSheet : MI := (cX8_outToSheet, 2, RX8, { frames := 0, cells := 0, slots := 0, locals := 0 }, none)
theorem okX8_outToSheet : OKV yX8_outToSheet mX8_outToSheet 0 := ⟨⟨tb_at 1157 (by decide +kernel) rfl, ini_X8, ⟨by decide, by decide, by decide +kernel⟩, rfl, rfl⟩, tb_at 1156 (by decide +kernel) rfl, tb_at 40 (by decide +kernel) rfl⟩
abbrev mX8_rests : MI := (cX8_rests, 5, RX8, { frames := 4, cells := 0, slots := 0, locals := 91 }, some (.int))
theorem okX8_rests : OKV yX8_rests mX8_rests 1 := ⟨⟨tb_at 1161 (by decide +kernel) rfl, ini_X8, ⟨by decide, by decide, by decide +kernel⟩, rfl, rfl⟩, tb_at 1159 (by decide +kernel) rfl, tb_at 1160 (by decide +kernel) rfl⟩
abbrev mX8_isAsCame : MI := (cX8_isAsCame, 4, RX8, { frames := 0, cells := 0, slots := 0, locals := 0 }, some (.boolean))
theorem okX8_isAsCame : OKV yX8_isAsCame mX8_isAsCame 1 := ⟨⟨tb_at 1165 (by decide +kernel) rfl, ini_X8, ⟨by decide, by decide, by decide +kernel⟩, rfl, rfl⟩, tb_at 1164 (by decide +kernel) rfl, tb_at 41 (by decide +kernel) rfl⟩
abbrev mX8_same : MI := (cX8_same, 7, RX8, { frames := 4, cells := 0, slots := 0, locals := 91 }, some (.int))
theorem okX8_same : OKV yX8_same mX8_same 2 := ⟨⟨tb_at 1169 (by decide +kernel) rfl, ini_X8, ⟨by decide, by decide, by decide +kernel⟩, rfl, rfl⟩, tb_at 1167 (by decide +kernel) rfl, tb_at 1168 (by decide +kernel) rfl⟩
abbrev mX8_meant : MI := (cX8_meant, 7, RX8, { frames := 4, cells := 0, slots := 0, locals := 91 }, some (.int))
theorem okX8_meant : OKV yX8_meant mX8_meant 2 := ⟨⟨tb_at 1173 (by decide +kernel) rfl, ini_X8, ⟨by decide, by decide, by decide +kernel⟩, rfl, rfl⟩, tb_at 1171 (by decide +kernel) rfl, tb_at 1172 (by decide +kernel) rfl⟩
abbrev mX8_sheetsOf : MI := (cX8_sheetsOf, 3, RX8, { frames := 0, cells := 0, slots := 0, locals := 0 }, some (.int))
theorem okX8_sheetsOf : OKS yX8_sheetsOf mX8_sheetsOf 1 := ⟨⟨tb_at 1176 (by decide +kernel) rfl, ini_X8, ⟨by decide, by decide, by decide +kernel⟩, rfl, rfl⟩, tb_at 1175 (by decide +kernel) rfl⟩
abbrev mX8_layNumber : MI := (cX8_layNumber, 5, RX8, { frames := 0, cells := 0, slots := 0, locals := 0 }, none)
theorem okX8_layNumber : OKV yX8_layNumber mX8_layNumber 2 := ⟨⟨tb_at 1180 (by decide +kernel) rfl, ini_X8, ⟨by decide, by decide, by decide +kernel⟩, rfl, rfl⟩, tb_at 1179 (by decide +kernel) rfl, tb_at 42 (by decide +kernel) rfl⟩
abbrev mX8_isOut : MI := (cX8_isOut, 4, RX8, { frames := 1, cells := 0, slots := 0, locals := 22 }, some (.boolean))
theorem okX8_isOut : OKV yX8_isOut mX8_isOut 1 := ⟨⟨tb_at 1184 (by decide +kernel) rfl, ini_X8, ⟨by decide, by decide, by decide +kernel⟩, rfl, rfl⟩, tb_at 1183 (by decide +kernel) rfl, tb_at 43 (by decide +kernel) rfl⟩
abbrev mX8_part : MI := (cX8_part, 11, RX8, { frames := 0, cells := 0, slots := 0, locals := 0 }, some (.int))
theorem okX8_part : OKV yX8_part mX8_part 2 := ⟨⟨tb_at 1188 (by decide +kernel) rfl, ini_X8, ⟨by decide, by decide, by decide +kernel⟩, rfl, rfl⟩, tb_at 1187 (by decide +kernel) rfl, tb_at 44 (by decide +kernel) rfl⟩
abbrev mX8_smallest : MI := (cX8_smallest, 4, RX8, { frames := 5, cells := 0, slots := 0, locals := 114 }, some (.int))
theorem okX8_smallest : OKV yX8_smallest mX8_smallest 2 := ⟨⟨tb_at 1192 (by decide +kernel) rfl, ini_X8, ⟨by decide, by decide, by decide +kernel⟩, rfl, rfl⟩, tb_at 1190 (by decide +kernel) rfl, tb_at 1191 (by decide +kernel) rfl⟩
abbrev mX8_layGoal : MI := (cX8_layGoal, 3, RX8, { frames := 1, cells := 0, slots := 0, locals := 22 }, none)
theorem okX8_layGoal : OKV yX8_layGoal mX8_layGoal 1 := ⟨⟨tb_at 1196 (by decide +kernel) rfl, ini_X8, ⟨by decide, by decide, by decide +kernel⟩, rfl, rfl⟩, tb_at 1195 (by decide +kernel) rfl, tb_at 45 (by decide +kernel) rfl⟩
abbrev mX8_findsFirst : MI := (cX8_findsFirst, 4, RX8, { frames := 4, cells := 0, slots := 0, locals := 91 }, some (.boolean))
theorem okX8_findsFirst : OKV yX8_findsFirst mX8_findsFirst 0 := ⟨⟨tb_at 1200 (by decide +kernel) rfl, ini_X8, ⟨by decide, by decide, by decide +kernel⟩, rfl, rfl⟩, tb_at 1199 (by decide +kernel) rfl, tb_at 46 (by decide +kernel) rfl⟩
abbrev mX8_isGoal : MI := (cX8_isGoal, 3, RX8, { frames := 0, cells := 0, slots := 0, locals := 0 }, some (.boolean))
theorem okX8_isGoal : OKV yX8_isGoal mX8_isGoal 0 := ⟨⟨tb_at 1204 (by decide +kernel) rfl, ini_X8, ⟨by decide, by decide, by decide +kernel⟩, rfl, rfl⟩, tb_at 1203 (by decide +kernel) rfl, tb_at 47 (by decide +kernel) rfl⟩
abbrev mX8_outs : MI := (cX8_outs, 5, RX8, { frames := 5, cells := 0, slots := 0, locals := 114 }, some (.int))
theorem okX8_outs : OKV yX8_outs mX8_outs 1 := ⟨⟨tb_at 1208 (by decide +kernel) rfl, ini_X8, ⟨by decide, by decide, by decide +kernel⟩, rfl, rfl⟩, tb_at 1206 (by decide +kernel) rfl, tb_at 1207 (by decide +kernel) rfl⟩
abbrev mX8_layCodes : MI := (cX8_layCodes, 4, RX8, { frames := 4, cells := 0, slots := 0, locals := 91 }, none)
theorem okX8_layCodes : OKV yX8_layCodes mX8_layCodes 1 := ⟨⟨tb_at 1212 (by decide +kernel) rfl, ini_X8, ⟨by decide, by decide, by decide +kernel⟩, rfl, rfl⟩, tb_at 1211 (by decide +kernel) rfl, tb_at 48 (by decide +kernel) rfl⟩
abbrev mX8_codeOf : MI := (cX8_codeOf, 4, RX8, { frames := 0, cells := 0, slots := 0, locals := 0 }, some (.long))
theorem okX8_codeOf : OKV yX8_codeOf mX8_codeOf 0 := ⟨⟨tb_at 1216 (by decide +kernel) rfl, ini_X8, ⟨by decide, by decide, by decide +kernel⟩, rfl, rfl⟩, tb_at 1215 (by decide +kernel) rfl, tb_at 49 (by decide +kernel) rfl⟩
abbrev mX8_twinOf : MI := (cX8_twinOf, 4, RX8, { frames := 0, cells := 0, slots := 0, locals := 0 }, some (.int))
theorem okX8_twinOf : OKV yX8_twinOf mX8_twinOf 2 := ⟨⟨tb_at 1221 (by decide +kernel) rfl, ini_X8, ⟨by decide, by decide, by decide +kernel⟩, rfl, rfl⟩, tb_at 1220 (by decide +kernel) rfl, tb_at 50 (by decide +kernel) rfl⟩
abbrev mX8_twins : MI := (cX8_twins, 7, RX8, { frames := 5, cells := 0, slots := 0, locals := 114 }, some (.int))
theorem okX8_twins : OKV yX8_twins mX8_twins 2 := ⟨⟨tb_at 1225 (by decide +kernel) rfl, ini_X8, ⟨by decide, by decide, by decide +kernel⟩, rfl, rfl⟩, tb_at 1223 (by decide +kernel) rfl, tb_at 1224 (by decide +kernel) rfl⟩
abbrev mX8_harmless : MI := (cX8_harmless, 8, RX8, { frames := 4, cells := 0, slots := 0, locals := 91 }, some (.int))
theorem okX8_harmless : OKV yX8_harmless mX8_harmless 2 := ⟨⟨tb_at 1229 (by decide +kernel) rfl, ini_X8, ⟨by decide, by decide, by decide +kernel⟩, rfl, rfl⟩, tb_at 1227 (by decide +kernel) rfl, tb_at 1228 (by decide +kernel) rfl⟩
abbrev mX8_believed : MI := (cX8_believed, 7, RX8, { frames := 5, cells := 0, slots := 0, locals := 114 }, some (.int))
theorem okX8_believed : OKV yX8_believed mX8_believed 3 := ⟨⟨tb_at 1233 (by decide +kernel) rfl, ini_X8, ⟨by decide, by decide, by decide +kernel⟩, rfl, rfl⟩, tb_at 1231 (by decide +kernel) rfl, tb_at 1232 (by decide +kernel) rfl⟩
abbrev mX8_forbid : MI := (cX8_forbid, 8, RX8, { frames := 4, cells := 0, slots := 0, locals := 91 }, some (.int))
theorem okX8_forbid : OKV yX8_forbid mX8_forbid 1 := ⟨⟨tb_at 1237 (by decide +kernel) rfl, ini_X8, ⟨by decide, by decide, by decide +kernel⟩, rfl, rfl⟩, tb_at 1235 (by decide +kernel) rfl, tb_at 1236 (by decide +kernel) rfl⟩
abbrev mX8_sizeOf : MI := (cX8_sizeOf, 3, RX8, { frames := 0, cells := 0, slots := 0, locals := 0 }, some (.int))
theorem okX8_sizeOf : OKS yX8_sizeOf mX8_sizeOf 1 := ⟨⟨tb_at 1240 (by decide +kernel) rfl, ini_X8, ⟨by decide, by decide, by decide +kernel⟩, rfl, rfl⟩, tb_at 1239 (by decide +kernel) rfl⟩
abbrev mX8_silence : MI := (cX8_silence, 7, RX8, { frames := 5, cells := 0, slots := 0, locals := 110 }, some (.int))
theorem okX8_silence : OKV yX8_silence mX8_silence 2 := ⟨⟨tb_at 1244 (by decide +kernel) rfl, ini_X8, ⟨by decide, by decide, by decide +kernel⟩, rfl, rfl⟩, tb_at 1242 (by decide +kernel) rfl, tb_at 1243 (by decide +kernel) rfl⟩
abbrev mX8_askedBoth : MI := (cX8_askedBoth, 4, RX8, { frames := 4, cells := 0, slots := 0, locals := 87 }, some (.int))
theorem okX8_askedBoth : OKV yX8_askedBoth mX8_askedBoth 2 := ⟨⟨tb_at 1248 (by decide +kernel) rfl, ini_X8, ⟨by decide, by decide, by decide +kernel⟩, rfl, rfl⟩, tb_at 1247 (by decide +kernel) rfl, tb_at 51 (by decide +kernel) rfl⟩
abbrev mX8_which : MI := (cX8_which, 8, RX8, { frames := 5, cells := 0, slots := 0, locals := 110 }, some (.int))
theorem okX8_which : OKV yX8_which mX8_which 2 := ⟨⟨tb_at 1252 (by decide +kernel) rfl, ini_X8, ⟨by decide, by decide, by decide +kernel⟩, rfl, rfl⟩, tb_at 1250 (by decide +kernel) rfl, tb_at 1251 (by decide +kernel) rfl⟩
abbrev mX8_kinds : MI := (cX8_kinds, 11, RX8, { frames := 5, cells := 0, slots := 0, locals := 110 }, some (.int))
theorem okX8_kinds : OKV yX8_kinds mX8_kinds 3 := ⟨⟨tb_at 1256 (by decide +kernel) rfl, ini_X8, ⟨by decide, by decide, by decide +kernel⟩, rfl, rfl⟩, tb_at 1254 (by decide +kernel) rfl, tb_at 1255 (by decide +kernel) rfl⟩
abbrev mX8_odds : MI := (cX8_odds, 9, RX8, { frames := 5, cells := 0, slots := 0, locals := 110 }, some (.int))
theorem okX8_odds : OKV yX8_odds mX8_odds 3 := ⟨⟨tb_at 1260 (by decide +kernel) rfl, ini_X8, ⟨by decide, by decide, by decide +kernel⟩, rfl, rfl⟩, tb_at 1258 (by decide +kernel) rfl, tb_at 1259 (by decide +kernel) rfl⟩
abbrev mX8_weight : MI := (cX8_weight, 7, RX8, { frames := 1, cells := 0, slots := 0, locals := 21 }, some (.long))
theorem okX8_weight : OKV yX8_weight mX8_weight 3 := ⟨⟨tb_at 1264 (by decide +kernel) rfl, ini_X8, ⟨by decide, by decide, by decide +kernel⟩, rfl, rfl⟩, tb_at 1263 (by decide +kernel) rfl, tb_at 52 (by decide +kernel) rfl⟩
abbrev mX8_whole : MI := (cX8_whole, 5, RX8, { frames := 1, cells := 0, slots := 0, locals := 22 }, some (.long))
theorem okX8_whole : OKV yX8_whole mX8_whole 1 := ⟨⟨tb_at 1269 (by decide +kernel) rfl, ini_X8, ⟨by decide, by decide, by decide +kernel⟩, rfl, rfl⟩, tb_at 1268 (by decide +kernel) rfl, tb_at 53 (by decide +kernel) rfl⟩
abbrev mX8_mid : MI := (cX8_mid, 8, RX8, { frames := 4, cells := 0, slots := 0, locals := 91 }, some (.int))
theorem okX8_mid : OKV yX8_mid mX8_mid 2 := ⟨⟨tb_at 1273 (by decide +kernel) rfl, ini_X8, ⟨by decide, by decide, by decide +kernel⟩, rfl, rfl⟩, tb_at 1271 (by decide +kernel) rfl, tb_at 1272 (by decide +kernel) rfl⟩
abbrev mX8_print : MI := (cX8_print, 5, RX8, { frames := 4, cells := 0, slots := 0, locals := 91 }, some (.int))
theorem okX8_print : OKV yX8_print mX8_print 1 := ⟨⟨tb_at 1277 (by decide +kernel) rfl, ini_X8, ⟨by decide, by decide, by decide +kernel⟩, rfl, rfl⟩, tb_at 1275 (by decide +kernel) rfl, tb_at 1276 (by decide +kernel) rfl⟩
abbrev mX8_ink : MI := (cX8_ink, 2, RX8, { frames := 2, cells := 0, slots := 0, locals := 42 }, some (.int))
theorem okX8_ink : OKV yX8_ink mX8_ink 1 := ⟨⟨tb_at 1281 (by decide +kernel) rfl, ini_X8, ⟨by decide, by decide, by decide +kernel⟩, rfl, rfl⟩, tb_at 1279 (by decide +kernel) rfl, tb_at 1280 (by decide +kernel) rfl⟩
abbrev mX8_undo : MI := (cX8_undo, 6, RX8, { frames := 1, cells := 0, slots := 0, locals := 22 }, some (.int))
theorem okX8_undo : OKV yX8_undo mX8_undo 1 := ⟨⟨tb_at 1285 (by decide +kernel) rfl, ini_X8, ⟨by decide, by decide, by decide +kernel⟩, rfl, rfl⟩, tb_at 1283 (by decide +kernel) rfl, tb_at 1284 (by decide +kernel) rfl⟩
abbrev mX8_drawer : MI := (cX8_drawer, 5, RX8, { frames := 3, cells := 0, slots := 0, locals := 65 }, some (.int))
theorem okX8_drawer : OKV yX8_drawer mX8_drawer 2 := ⟨⟨tb_at 1289 (by decide +kernel) rfl, ini_X8, ⟨by decide, by decide, by decide +kernel⟩, rfl, rfl⟩, tb_at 1287 (by decide +kernel) rfl, tb_at 1288 (by decide +kernel) rfl⟩
abbrev mX8_lots : MI := (cX8_lots, 8, RX8, { frames := 4, cells := 0, slots := 0, locals := 91 }, some (.int))
theorem okX8_lots : OKV yX8_lots mX8_lots 2 := ⟨⟨tb_at 1293 (by decide +kernel) rfl, ini_X8, ⟨by decide, by decide, by decide +kernel⟩, rfl, rfl⟩, tb_at 1291 (by decide +kernel) rfl, tb_at 1292 (by decide +kernel) rfl⟩
abbrev mX8_keep : MI := (cX8_keep, 4, RX8, { frames := 1, cells := 0, slots := 0, locals := 22 }, some (.int))
theorem okX8_keep : OKV yX8_keep mX8_keep 1 := ⟨⟨tb_at 1303 (by decide +kernel) rfl, ini_X8, ⟨by decide, by decide, by decide +kernel⟩, rfl, rfl⟩, tb_at 1301 (by decide +kernel) rfl, tb_at 1302 (by decide +kernel) rfl⟩
abbrev mX8_on : MI := (cX8_on, 4, RX8, { frames := 1, cells := 0, slots := 0, locals := 22 }, some (.int))
theorem okX8_on : OKV yX8_on mX8_on 1 := ⟨⟨tb_at 1307 (by decide +kernel) rfl, ini_X8, ⟨by decide, by decide, by decide +kernel⟩, rfl, rfl⟩, tb_at 1305 (by decide +kernel) rfl, tb_at 1306 (by decide +kernel) rfl⟩
abbrev mX8_asked : MI := (cX8_asked, 1, RX8, { frames := 0, cells := 0, slots := 0, locals := 0 }, some (.int))
theorem okX8_asked : OKV yX8_asked mX8_asked 0 := ⟨⟨tb_at 1311 (by decide +kernel) rfl, ini_X8, ⟨by decide, by decide, by decide +kernel⟩, rfl, rfl⟩, tb_at 1309 (by decide +kernel) rfl, tb_at 1310 (by decide +kernel) rfl⟩
abbrev mX8_upper : MI := (cX8_upper, 1, RX8, { frames := 0, cells := 0, slots := 0, locals := 0 }, some (.long))
theorem okX8_upper : OKV yX8_upper mX8_upper 0 := ⟨⟨tb_at 1315 (by decide +kernel) rfl, ini_X8, ⟨by decide, by decide, by decide +kernel⟩, rfl, rfl⟩, tb_at 1313 (by decide +kernel) rfl, tb_at 1314 (by decide +kernel) rfl⟩
abbrev mX8_lower : MI := (cX8_lower, 1, RX8, { frames := 0, cells := 0, slots := 0, locals := 0 }, some (.long))
theorem okX8_lower : OKV yX8_lower mX8_lower 0 := ⟨⟨tb_at 1319 (by decide +kernel) rfl, ini_X8, ⟨by decide, by decide, by decide +kernel⟩, rfl, rfl⟩, tb_at 1317 (by decide +kernel) rfl, tb_at 1318 (by decide +kernel) rfl⟩
abbrev mX8_count : MI := (cX8_count, 2, RX8, { frames := 2, cells := 0, slots := 0, locals := 48 }, some (.int))
theorem okX8_count : OKV yX8_count mX8_count 1 := ⟨⟨tb_at 1323 (by decide +kernel) rfl, ini_X8, ⟨by decide, by decide, by decide +kernel⟩, rfl, rfl⟩, tb_at 1321 (by decide +kernel) rfl, tb_at 1322 (by decide +kernel) rfl⟩
abbrev mX8_tells : MI := (cX8_tells, 6, RX8, { frames := 1, cells := 0, slots := 0, locals := 23 }, some (.int))
theorem okX8_tells : OKV yX8_tells mX8_tells 1 := ⟨⟨tb_at 1327 (by decide +kernel) rfl, ini_X8, ⟨by decide, by decide, by decide +kernel⟩, rfl, rfl⟩, tb_at 1326 (by decide +kernel) rfl, tb_at 54 (by decide +kernel) rfl⟩
abbrev mX8_finding : MI := (cX8_finding, 1, RX8, { frames := 0, cells := 0, slots := 0, locals := 0 }, some (.int))
theorem okX8_finding : OKV yX8_finding mX8_finding 0 := ⟨⟨tb_at 1331 (by decide +kernel) rfl, ini_X8, ⟨by decide, by decide, by decide +kernel⟩, rfl, rfl⟩, tb_at 1329 (by decide +kernel) rfl, tb_at 1330 (by decide +kernel) rfl⟩
abbrev mX8_findings : MI := (cX8_findings, 2, RX8, { frames := 1, cells := 0, slots := 0, locals := 22 }, some (.int))
theorem okX8_findings : OKV yX8_findings mX8_findings 1 := ⟨⟨tb_at 1335 (by decide +kernel) rfl, ini_X8, ⟨by decide, by decide, by decide +kernel⟩, rfl, rfl⟩, tb_at 1333 (by decide +kernel) rfl, tb_at 1334 (by decide +kernel) rfl⟩
abbrev mX8_digest : MI := (cX8_digest, 3, RX8, { frames := 2, cells := 0, slots := 0, locals := 48 }, some (.long))
theorem okX8_digest : OKV yX8_digest mX8_digest 0 := ⟨⟨tb_at 1339 (by decide +kernel) rfl, ini_X8, ⟨by decide, by decide, by decide +kernel⟩, rfl, rfl⟩, tb_at 1337 (by decide +kernel) rfl, tb_at 1338 (by decide +kernel) rfl⟩
abbrev mX8_mix : MI := (cX8_mix, 2, RX8, { frames := 0, cells := 0, slots := 0, locals := 0 }, none)
theorem okX8_mix : OKV yX8_mix mX8_mix 1 := ⟨⟨tb_at 1344 (by decide +kernel) rfl, ini_X8, ⟨by decide, by decide, by decide +kernel⟩, rfl, rfl⟩, tb_at 1343 (by decide +kernel) rfl, tb_at 55 (by decide +kernel) rfl⟩
abbrev mX8_mixPress : MI := (cX8_mixPress, 3, RX8, { frames := 1, cells := 0, slots := 0, locals := 22 }, none)
theorem okX8_mixPress : OKV yX8_mixPress mX8_mixPress 0 := ⟨⟨tb_at 1349 (by decide +kernel) rfl, ini_X8, ⟨by decide, by decide, by decide +kernel⟩, rfl, rfl⟩, tb_at 1348 (by decide +kernel) rfl, tb_at 56 (by decide +kernel) rfl⟩
