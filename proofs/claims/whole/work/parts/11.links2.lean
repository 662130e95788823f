theorem mi_X12_told : sl_MI YX12_told := ⟨sl_gt18 100 (by decide +kernel) rfl, sl_gt10 12 (by decide +kernel) rfl, by decide, by decide, by decide⟩
theorem mi_X12_readsBy : sl_MI YX12_readsBy := ⟨sl_gt18 41 (by decide +kernel) rfl, sl_gt10 12 (by decide +kernel) rfl, by decide, by decide, by decide⟩
theorem mi_X12_formula : sl_MI YX12_formula := ⟨sl_gt18 4 (by decide +kernel) rfl, sl_gt10 12 (by decide +kernel) rfl, by decide, by decide, by decide⟩
theorem mi_X12_isAsked : sl_MI YX12_isAsked := ⟨sl_gt18 108 (by decide +kernel) rfl, sl_gt10 12 (by decide +kernel) rfl, by decide, by decide, by decide⟩
theorem mi_X12_read : sl_MI YX12_read := ⟨sl_gt18 104 (by decide +kernel) rfl, sl_gt10 12 (by decide +kernel) rfl, by decide, by decide, by decide⟩
theorem mi_X12_reduced : sl_MI YX12_reduced := ⟨sl_gt18 112 (by decide +kernel) rfl, sl_gt10 12 (by decide +kernel) rfl, by decide, by decide, by decide⟩
theorem mi_X12_isNode : sl_MI YX12_isNode := ⟨sl_gt18 120 (by decide +kernel) rfl, sl_gt10 12 (by decide +kernel) rfl, by decide, by decide, by decide⟩
theorem mi_X12_node : sl_MI YX12_node := ⟨sl_gt18 116 (by decide +kernel) rfl, sl_gt10 12 (by decide +kernel) rfl, by decide, by decide, by decide⟩
theorem mi_X12_countUnder : sl_MI YX12_countUnder := ⟨sl_gt18 133 (by decide +kernel) rfl, sl_gt10 12 (by decide +kernel) rfl, by decide, by decide, by decide⟩
theorem mi_X12_under : sl_MI YX12_under := ⟨sl_gt18 129 (by decide +kernel) rfl, sl_gt10 12 (by decide +kernel) rfl, by decide, by decide, by decide⟩
theorem mi_X12_hasIt : sl_MI YX12_hasIt := ⟨sl_gt18 141 (by decide +kernel) rfl, sl_gt10 12 (by decide +kernel) rfl, by decide, by decide, by decide⟩
theorem mi_X12_value : sl_MI YX12_value := ⟨sl_gt18 137 (by decide +kernel) rfl, sl_gt10 12 (by decide +kernel) rfl, by decide, by decide, by decide⟩
theorem mi_X12_third : sl_MI YX12_third := ⟨sl_gt18 145 (by decide +kernel) rfl, sl_gt10 12 (by decide +kernel) rfl, by decide, by decide, by decide⟩
theorem mi_X12_otherwise : sl_MI YX12_otherwise := ⟨sl_gt18 161 (by decide +kernel) rfl, sl_gt10 12 (by decide +kernel) rfl, by decide, by decide, by decide⟩
theorem mi_X12_later : sl_MI YX12_later := ⟨sl_gt18 165 (by decide +kernel) rfl, sl_gt10 12 (by decide +kernel) rfl, by decide, by decide, by decide⟩
theorem mi_X12_remembers : sl_MI YX12_remembers := ⟨sl_gt18 173 (by decide +kernel) rfl, sl_gt10 12 (by decide +kernel) rfl, by decide, by decide, by decide⟩
theorem mi_X12_asideMany : sl_MI YX12_asideMany := ⟨sl_gt18 177 (by decide +kernel) rfl, sl_gt10 12 (by decide +kernel) rfl, by decide, by decide, by decide⟩
theorem mi_X12_aside : sl_MI YX12_aside := ⟨sl_gt18 169 (by decide +kernel) rfl, sl_gt10 12 (by decide +kernel) rfl, by decide, by decide, by decide⟩
theorem mi_X12_kind : sl_MI YX12_kind := ⟨sl_gt18 181 (by decide +kernel) rfl, sl_gt10 12 (by decide +kernel) rfl, by decide, by decide, by decide⟩
theorem mi_X12_undo : sl_MI YX12_undo := ⟨sl_gt18 185 (by decide +kernel) rfl, sl_gt10 12 (by decide +kernel) rfl, by decide, by decide, by decide⟩
theorem mi_X12_isBarren : sl_MI YX12_isBarren := ⟨sl_gt18 193 (by decide +kernel) rfl, sl_gt10 12 (by decide +kernel) rfl, by decide, by decide, by decide⟩
theorem mi_X12_barren : sl_MI YX12_barren := ⟨sl_gt18 189 (by decide +kernel) rfl, sl_gt10 12 (by decide +kernel) rfl, by decide, by decide, by decide⟩
theorem mi_X12_size : sl_MI YX12_size := ⟨sl_gt18 197 (by decide +kernel) rfl, sl_gt10 12 (by decide +kernel) rfl, by decide, by decide, by decide⟩
theorem mi_X12_trouble : sl_MI YX12_trouble := ⟨sl_gt18 201 (by decide +kernel) rfl, sl_gt10 12 (by decide +kernel) rfl, by decide, by decide, by decide⟩
theorem mi_J11_isValidCodePoint_9a6ad : sl_MI YJ11_isValidCodePoint_9a6ad := ⟨sl_gt12 104 (by decide +kernel) rfl, sl_gt10 18 (by decide +kernel) rfl, by decide, by decide, by decide⟩
theorem mi_J11_highSurrogate_5068e : sl_MI YJ11_highSurrogate_5068e := ⟨sl_gt12 107 (by decide +kernel) rfl, sl_gt10 18 (by decide +kernel) rfl, by decide, by decide, by decide⟩
theorem mi_J11_lowSurrogate_5068e : sl_MI YJ11_lowSurrogate_5068e := ⟨sl_gt12 111 (by decide +kernel) rfl, sl_gt10 18 (by decide +kernel) rfl, by decide, by decide, by decide⟩
theorem mi_Jxe99ae_isNaN_b9ae7 : sl_MI YJxe99ae_isNaN_b9ae7 := ⟨sl_gt18 153 (by decide +kernel) rfl, sl_gt10 23 (by decide +kernel) rfl, by decide, by decide, by decide⟩
theorem mi_Jxe99ae_doubleToLongBits_ccdee : sl_MI YJxe99ae_doubleToLongBits_ccdee := ⟨sl_gt18 150 (by decide +kernel) rfl, sl_gt10 23 (by decide +kernel) rfl, by decide, by decide, by decide⟩
theorem mi_Jxf58ca_isNaN_12338 : sl_MI YJxf58ca_isNaN_12338 := ⟨sl_gt18 29 (by decide +kernel) rfl, sl_gt10 22 (by decide +kernel) rfl, by decide, by decide, by decide⟩
theorem mi_Jxf58ca_floatToIntBits_5c35a : sl_MI YJxf58ca_floatToIntBits_5c35a := ⟨sl_gt18 26 (by decide +kernel) rfl, sl_gt10 22 (by decide +kernel) rfl, by decide, by decide, by decide⟩
theorem mi_J6_bitCount_0f7a4 : sl_MI YJ6_bitCount_0f7a4 := ⟨sl_gt13 183 (by decide +kernel) rfl, sl_gt10 20 (by decide +kernel) rfl, by decide, by decide, by decide⟩
theorem mi_J9_max_7cf53 : sl_MI YJ9_max_7cf53 := ⟨sl_gt12 57 (by decide +kernel) rfl, sl_gt10 15 (by decide +kernel) rfl, by decide, by decide, by decide⟩
theorem mi_J9_min_7cf53 : sl_MI YJ9_min_7cf53 := ⟨sl_gt12 60 (by decide +kernel) rfl, sl_gt10 15 (by decide +kernel) rfl, by decide, by decide, by decide⟩
theorem mi_J0_length_8abf5 : sl_MI YJ0_length_8abf5 := ⟨sl_gt12 44 (by decide +kernel) rfl, sl_gt10 13 (by decide +kernel) rfl, by decide, by decide, by decide⟩
theorem mi_J0_charAt_5068e : sl_MI YJ0_charAt_5068e := ⟨sl_gt12 134 (by decide +kernel) rfl, sl_gt10 13 (by decide +kernel) rfl, by decide, by decide, by decide⟩
theorem mi_J0_indexOf_0f7a4 : sl_MI YJ0_indexOf_0f7a4 := ⟨sl_gt12 30 (by decide +kernel) rfl, sl_gt10 13 (by decide +kernel) rfl, by decide, by decide, by decide⟩
theorem mi_J0_indexOf_7cf53 : sl_MI YJ0_indexOf_7cf53 := ⟨sl_gt12 34 (by decide +kernel) rfl, sl_gt10 13 (by decide +kernel) rfl, by decide, by decide, by decide⟩
theorem mi_J0_coder_7d493 : sl_MI YJ0_coder_7d493 := ⟨sl_gt12 48 (by decide +kernel) rfl, sl_gt10 13 (by decide +kernel) rfl, by decide, by decide, by decide⟩
theorem mi_J0_isLatin1_aae02 : sl_MI YJ0_isLatin1_aae02 := ⟨sl_gt12 38 (by decide +kernel) rfl, sl_gt10 13 (by decide +kernel) rfl, by decide, by decide, by decide⟩
theorem mi_J0_checkIndex_df160 : sl_MI YJ0_checkIndex_df160 := ⟨sl_gt12 140 (by decide +kernel) rfl, sl_gt10 13 (by decide +kernel) rfl, by decide, by decide, by decide⟩
theorem mi_J0_checkBoundsBeginEnd_23922 : sl_MI YJ0_checkBoundsBeginEnd_23922 := ⟨sl_gt12 81 (by decide +kernel) rfl, sl_gt10 13 (by decide +kernel) rfl, by decide, by decide, by decide⟩
theorem mi_J1_charAt_3b067 : sl_MI YJ1_charAt_3b067 := ⟨sl_gt12 137 (by decide +kernel) rfl, sl_gt10 14 (by decide +kernel) rfl, by decide, by decide, by decide⟩
theorem mi_J1_canEncode_9a6ad : sl_MI YJ1_canEncode_9a6ad := ⟨sl_gt12 54 (by decide +kernel) rfl, sl_gt10 14 (by decide +kernel) rfl, by decide, by decide, by decide⟩
theorem mi_J1_indexOf_4cfef : sl_MI YJ1_indexOf_4cfef := ⟨sl_gt12 51 (by decide +kernel) rfl, sl_gt10 14 (by decide +kernel) rfl, by decide, by decide, by decide⟩
theorem mi_J1_indexOfChar_4cfef : sl_MI YJ1_indexOfChar_4cfef := ⟨sl_gt12 63 (by decide +kernel) rfl, sl_gt10 14 (by decide +kernel) rfl, by decide, by decide, by decide⟩
theorem mi_J2_getChar_3b067 : sl_MI YJ2_getChar_3b067 := ⟨sl_gt12 92 (by decide +kernel) rfl, sl_gt10 16 (by decide +kernel) rfl, by decide, by decide, by decide⟩
theorem mi_J2_length_9d52b : sl_MI YJ2_length_9d52b := ⟨sl_gt12 78 (by decide +kernel) rfl, sl_gt10 16 (by decide +kernel) rfl, by decide, by decide, by decide⟩
theorem mi_J2_indexOf_4cfef : sl_MI YJ2_indexOf_4cfef := ⟨sl_gt12 66 (by decide +kernel) rfl, sl_gt10 16 (by decide +kernel) rfl, by decide, by decide, by decide⟩
theorem mi_J2_indexOfChar_4cfef : sl_MI YJ2_indexOfChar_4cfef := ⟨sl_gt12 72 (by decide +kernel) rfl, sl_gt10 16 (by decide +kernel) rfl, by decide, by decide, by decide⟩
theorem mi_J2_indexOfCharUnsafe_4cfef : sl_MI YJ2_indexOfCharUnsafe_4cfef := ⟨sl_gt12 89 (by decide +kernel) rfl, sl_gt10 16 (by decide +kernel) rfl, by decide, by decide, by decide⟩
theorem mi_J2_indexOfSupplementary_4cfef : sl_MI YJ2_indexOfSupplementary_4cfef := ⟨sl_gt12 101 (by decide +kernel) rfl, sl_gt10 16 (by decide +kernel) rfl, by decide, by decide, by decide⟩
theorem mi_J2_charAt_3b067 : sl_MI YJ2_charAt_3b067 := ⟨sl_gt12 146 (by decide +kernel) rfl, sl_gt10 16 (by decide +kernel) rfl, by decide, by decide, by decide⟩
theorem mi_J2_checkIndex_2214a : sl_MI YJ2_checkIndex_2214a := ⟨sl_gt12 149 (by decide +kernel) rfl, sl_gt10 16 (by decide +kernel) rfl, by decide, by decide, by decide⟩
theorem mi_J2_checkBoundsBeginEnd_d044e : sl_MI YJ2_checkBoundsBeginEnd_d044e := ⟨sl_gt12 75 (by decide +kernel) rfl, sl_gt10 16 (by decide +kernel) rfl, by decide, by decide, by decide⟩
theorem mi_J3_checkIndex_8e157 : sl_MI YJ3_checkIndex_8e157 := ⟨sl_gt12 143 (by decide +kernel) rfl, sl_gt10 17 (by decide +kernel) rfl, by decide, by decide, by decide⟩
theorem mi_J3_checkFromToIndex_8c36e : sl_MI YJ3_checkFromToIndex_8c36e := ⟨sl_gt12 86 (by decide +kernel) rfl, sl_gt10 17 (by decide +kernel) rfl, by decide, by decide, by decide⟩
theorem lL_15 : sl_LI RL 15 YX11_init 0 := ⟨mi_X11_init, sl_gt10 31 (by decide +kernel) rfl, sl_gt10 32 (by decide +kernel) rfl, rfl, rfl, by decide +kernel⟩
theorem lX11_15 : sl_LN RX11 15 YX2_init "SignLadders" 0 := ⟨mi_X2_init, by decide +kernel, sl_gt10 40 (by decide +kernel) rfl, rfl, rfl, by decide +kernel⟩
theorem lX11_25 : sl_LN RX11 25 YX3_init "SignLadders" 0 := ⟨mi_X3_init, by decide +kernel, sl_gt10 116 (by decide +kernel) rfl, rfl, rfl, by decide +kernel⟩
theorem lX11_32 : sl_LN RX11 32 YX10_init "SignLadders" 0 := ⟨mi_X10_init, by decide +kernel, sl_gt10 164 (by decide +kernel) rfl, rfl, rfl, by decide +kernel⟩
theorem lX11_39 : sl_LN RX11 39 YX5_init "SignLadders" 0 := ⟨mi_X5_init, by decide +kernel, sl_gt10 186 (by decide +kernel) rfl, rfl, rfl, by decide +kernel⟩
theorem lX11_46 : sl_LN RX11 46 YX0_init "SignLadders" 0 := ⟨mi_X0_init, by decide +kernel, sl_gt10 219 (by decide +kernel) rfl, rfl, rfl, by decide +kernel⟩
theorem lX11_53 : sl_LN RX11 53 YX1_init "SignLadders" 0 := ⟨mi_X1_init, by decide +kernel, sl_gt10 236 (by decide +kernel) rfl, rfl, rfl, by decide +kernel⟩
theorem lX11_60 : sl_LN RX11 60 YX7_init "SignLadders" 0 := ⟨mi_X7_init, by decide +kernel, sl_gt11 36 (by decide +kernel) rfl, rfl, rfl, by decide +kernel⟩
theorem lX7_11 : sl_LN RX7 11 YX6_init "SignLadders" 0 := ⟨mi_X6_init, by decide +kernel, sl_gt11 42 (by decide +kernel) rfl, rfl, rfl, by decide +kernel⟩
theorem lX7_30 : sl_LN RX7 30 YX4_init "SignLadders" 0 := ⟨mi_X4_init, by decide +kernel, sl_gt11 84 (by decide +kernel) rfl, rfl, rfl, by decide +kernel⟩
theorem lX7_37 : sl_LN RX7 37 YX9_init "SignLadders" 0 := ⟨mi_X9_init, by decide +kernel, sl_gt11 105 (by decide +kernel) rfl, rfl, rfl, by decide +kernel⟩
theorem lL_19 : sl_LV RL 19 YX11_feed 5 := ⟨mi_X11_feed, sl_gt11 227 (by decide +kernel) rfl, sl_gt11 228 (by decide +kernel) rfl, sl_gt11 229 (by decide +kernel) rfl, by decide +kernel⟩
theorem lX11_72 : sl_LV RX11 72 YX11_putBytes 1 := ⟨mi_X11_putBytes, sl_gt11 231 (by decide +kernel) rfl, sl_gt11 233 (by decide +kernel) rfl, sl_gp0 (n := 16) 0 (by decide +kernel), by decide +kernel⟩
theorem lL_24 : sl_LV RL 24 YX11_grammar 1 := ⟨mi_X11_grammar, sl_gt11 235 (by decide +kernel) rfl, sl_gt11 236 (by decide +kernel) rfl, sl_gt11 237 (by decide +kernel) rfl, by decide +kernel⟩
theorem lX11_76 : sl_LV RX11 76 YX11_refuse 1 := ⟨mi_X11_refuse, sl_gt11 239 (by decide +kernel) rfl, sl_gt12 1 (by decide +kernel) rfl, sl_gp0 (n := 16) 1 (by decide +kernel), by decide +kernel⟩
theorem lX11_80 : sl_LV RX11 80 YX3_readAll 3 := ⟨mi_X3_readAll, sl_gt12 3 (by decide +kernel) rfl, sl_gt12 4 (by decide +kernel) rfl, sl_gt12 5 (by decide +kernel) rfl, by decide +kernel⟩
theorem lX3_26 : sl_LV RX3 26 YX2_clear 0 := ⟨mi_X2_clear, sl_gt12 7 (by decide +kernel) rfl, sl_gt12 8 (by decide +kernel) rfl, sl_gt12 9 (by decide +kernel) rfl, by decide +kernel⟩
theorem lX3_47 : sl_LV RX3 47 YX3_nextToken 0 := ⟨mi_X3_nextToken, sl_gt12 11 (by decide +kernel) rfl, sl_gt12 13 (by decide +kernel) rfl, sl_gp0 (n := 13) 2 (by decide +kernel), by decide +kernel⟩
theorem lX3_53 : sl_LV RX3 53 YX3_byteAt 1 := ⟨mi_X3_byteAt, sl_gt12 15 (by decide +kernel) rfl, sl_gt12 17 (by decide +kernel) rfl, sl_gp0 (n := 13) 3 (by decide +kernel), by decide +kernel⟩
theorem lX3_63 : sl_LS RX3 63 YX3_isLetter 1 := ⟨mi_X3_isLetter, sl_gt12 19 (by decide +kernel) rfl, sl_gt12 20 (by decide +kernel) rfl, by decide +kernel⟩
theorem lX3_67 : sl_LV RX3 67 YX3_nextWord 0 := ⟨mi_X3_nextWord, sl_gt12 22 (by decide +kernel) rfl, sl_gt12 24 (by decide +kernel) rfl, sl_gp0 (n := 13) 4 (by decide +kernel), by decide +kernel⟩
theorem lX3_72 : sl_LV RX3 72 YJ0_indexOf_0f7a4 1 := ⟨mi_J0_indexOf_0f7a4, sl_gt12 27 (by decide +kernel) rfl, sl_gt12 28 (by decide +kernel) rfl, sl_gt12 29 (by decide +kernel) rfl, by decide +kernel⟩
theorem lJ0_633 : sl_LV RJ0 633 YJ0_indexOf_7cf53 2 := ⟨mi_J0_indexOf_7cf53, sl_gt12 31 (by decide +kernel) rfl, sl_gt12 32 (by decide +kernel) rfl, sl_gt12 33 (by decide +kernel) rfl, by decide +kernel⟩
theorem lJ0_492 : sl_LV RJ0 492 YJ0_isLatin1_aae02 0 := ⟨mi_J0_isLatin1_aae02, sl_gt12 35 (by decide +kernel) rfl, sl_gt12 36 (by decide +kernel) rfl, sl_gt12 37 (by decide +kernel) rfl, by decide +kernel⟩
theorem lJ0_505 : sl_LV RJ0 505 YJ0_length_8abf5 0 := ⟨mi_J0_length_8abf5, sl_gt12 41 (by decide +kernel) rfl, sl_gt12 42 (by decide +kernel) rfl, sl_gt12 43 (by decide +kernel) rfl, by decide +kernel⟩
theorem lJ0_335 : sl_LV RJ0 335 YJ0_coder_7d493 0 := ⟨mi_J0_coder_7d493, sl_gt12 45 (by decide +kernel) rfl, sl_gt12 46 (by decide +kernel) rfl, sl_gt12 47 (by decide +kernel) rfl, by decide +kernel⟩
theorem lJ0_637 : sl_LS RJ0 637 YJ1_indexOf_4cfef 4 := ⟨mi_J1_indexOf_4cfef, sl_gt12 49 (by decide +kernel) rfl, sl_gt12 50 (by decide +kernel) rfl, by decide +kernel⟩
theorem lJ1_88 : sl_LS RJ1 88 YJ1_canEncode_9a6ad 1 := ⟨mi_J1_canEncode_9a6ad, sl_gt12 52 (by decide +kernel) rfl, sl_gt12 53 (by decide +kernel) rfl, by decide +kernel⟩
theorem lJ1_92 : sl_LS RJ1 92 YJ9_max_7cf53 2 := ⟨mi_J9_max_7cf53, sl_gt12 55 (by decide +kernel) rfl, sl_gt12 56 (by decide +kernel) rfl, by decide +kernel⟩
theorem lJ1_38 : sl_LS RJ1 38 YJ9_min_7cf53 2 := ⟨mi_J9_min_7cf53, sl_gt12 58 (by decide +kernel) rfl, sl_gt12 59 (by decide +kernel) rfl, by decide +kernel⟩
theorem lJ1_95 : sl_LS RJ1 95 YJ1_indexOfChar_4cfef 4 := ⟨mi_J1_indexOfChar_4cfef, sl_gt12 61 (by decide +kernel) rfl, sl_gt12 62 (by decide +kernel) rfl, by decide +kernel⟩
theorem lJ0_640 : sl_LS RJ0 640 YJ2_indexOf_4cfef 4 := ⟨mi_J2_indexOf_4cfef, sl_gt12 64 (by decide +kernel) rfl, sl_gt12 65 (by decide +kernel) rfl, by decide +kernel⟩
theorem lJ2_224 : sl_LS RJ2 224 YJ9_max_7cf53 2 := ⟨mi_J9_max_7cf53, sl_gt12 67 (by decide +kernel) rfl, sl_gt12 56 (by decide +kernel) rfl, by decide +kernel⟩
theorem lJ2_183 : sl_LS RJ2 183 YJ9_min_7cf53 2 := ⟨mi_J9_min_7cf53, sl_gt12 68 (by decide +kernel) rfl, sl_gt12 59 (by decide +kernel) rfl, by decide +kernel⟩
theorem lJ2_228 : sl_LS RJ2 228 YJ2_indexOfChar_4cfef 4 := ⟨mi_J2_indexOfChar_4cfef, sl_gt12 70 (by decide +kernel) rfl, sl_gt12 71 (by decide +kernel) rfl, by decide +kernel⟩
theorem lJ2_96 : sl_LS RJ2 96 YJ2_checkBoundsBeginEnd_d044e 3 := ⟨mi_J2_checkBoundsBeginEnd_d044e, sl_gt12 73 (by decide +kernel) rfl, sl_gt12 74 (by decide +kernel) rfl, by decide +kernel⟩
theorem lJ2_48 : sl_LS RJ2 48 YJ2_length_9d52b 1 := ⟨mi_J2_length_9d52b, sl_gt12 76 (by decide +kernel) rfl, sl_gt12 77 (by decide +kernel) rfl, by decide +kernel⟩
theorem lJ2_241 : sl_LS RJ2 241 YJ0_checkBoundsBeginEnd_23922 3 := ⟨mi_J0_checkBoundsBeginEnd_23922, sl_gt12 79 (by decide +kernel) rfl, sl_gt12 80 (by decide +kernel) rfl, by decide +kernel⟩
theorem lJ0_1062 : sl_LS RJ0 1062 YJ3_checkFromToIndex_8c36e 4 := ⟨mi_J3_checkFromToIndex_8c36e, sl_gt12 84 (by decide +kernel) rfl, sl_gt12 85 (by decide +kernel) rfl, by decide +kernel⟩
theorem lJ2_244 : sl_LS RJ2 244 YJ2_indexOfCharUnsafe_4cfef 4 := ⟨mi_J2_indexOfCharUnsafe_4cfef, sl_gt12 87 (by decide +kernel) rfl, sl_gt12 88 (by decide +kernel) rfl, by decide +kernel⟩
theorem lJ2_71 : sl_LS RJ2 71 YJ2_getChar_3b067 2 := ⟨mi_J2_getChar_3b067, sl_gt12 90 (by decide +kernel) rfl, sl_gt12 91 (by decide +kernel) rfl, by decide +kernel⟩
theorem lJ2_232 : sl_LS RJ2 232 YJ2_indexOfSupplementary_4cfef 4 := ⟨mi_J2_indexOfSupplementary_4cfef, sl_gt12 99 (by decide +kernel) rfl, sl_gt12 100 (by decide +kernel) rfl, by decide +kernel⟩
theorem lJ2_164 : sl_LS RJ2 164 YJ11_isValidCodePoint_9a6ad 1 := ⟨mi_J11_isValidCodePoint_9a6ad, sl_gt12 102 (by decide +kernel) rfl, sl_gt12 103 (by decide +kernel) rfl, by decide +kernel⟩
theorem lJ2_157 : sl_LS RJ2 157 YJ11_highSurrogate_5068e 1 := ⟨mi_J11_highSurrogate_5068e, sl_gt12 105 (by decide +kernel) rfl, sl_gt12 106 (by decide +kernel) rfl, by decide +kernel⟩
theorem lJ2_161 : sl_LS RJ2 161 YJ11_lowSurrogate_5068e 1 := ⟨mi_J11_lowSurrogate_5068e, sl_gt12 109 (by decide +kernel) rfl, sl_gt12 110 (by decide +kernel) rfl, by decide +kernel⟩
theorem lX3_50 : sl_LV RX3 50 YX3_takeToken 0 := ⟨mi_X3_takeToken, sl_gt12 113 (by decide +kernel) rfl, sl_gt12 115 (by decide +kernel) rfl, sl_gp0 (n := 13) 5 (by decide +kernel), by decide +kernel⟩
theorem lX3_90 : sl_LV RX3 90 YX3_failWith 1 := ⟨mi_X3_failWith, sl_gt12 117 (by decide +kernel) rfl, sl_gt12 119 (by decide +kernel) rfl, sl_gp0 (n := 13) 6 (by decide +kernel), by decide +kernel⟩
theorem lX3_94 : sl_LV RX3 94 YX3_takeLine 0 := ⟨mi_X3_takeLine, sl_gt12 121 (by decide +kernel) rfl, sl_gt12 123 (by decide +kernel) rfl, sl_gp0 (n := 13) 7 (by decide +kernel), by decide +kernel⟩
theorem lX3_117 : sl_LV RX3 117 YX3_isWord 1 := ⟨mi_X3_isWord, sl_gt12 126 (by decide +kernel) rfl, sl_gt12 128 (by decide +kernel) rfl, sl_gp0 (n := 13) 8 (by decide +kernel), by decide +kernel⟩
theorem lX3_83 : sl_LV RX3 83 YJ0_length_8abf5 0 := ⟨mi_J0_length_8abf5, sl_gt12 130 (by decide +kernel) rfl, sl_gt12 42 (by decide +kernel) rfl, sl_gt12 43 (by decide +kernel) rfl, by decide +kernel⟩
theorem lX3_86 : sl_LV RX3 86 YJ0_charAt_5068e 1 := ⟨mi_J0_charAt_5068e, sl_gt12 131 (by decide +kernel) rfl, sl_gt12 132 (by decide +kernel) rfl, sl_gt12 133 (by decide +kernel) rfl, by decide +kernel⟩
theorem lJ0_495 : sl_LS RJ0 495 YJ1_charAt_3b067 2 := ⟨mi_J1_charAt_3b067, sl_gt12 135 (by decide +kernel) rfl, sl_gt12 136 (by decide +kernel) rfl, by decide +kernel⟩
theorem lJ1_9 : sl_LS RJ1 9 YJ0_checkIndex_df160 2 := ⟨mi_J0_checkIndex_df160, sl_gt12 138 (by decide +kernel) rfl, sl_gt12 139 (by decide +kernel) rfl, by decide +kernel⟩
theorem lJ0_1059 : sl_LS RJ0 1059 YJ3_checkIndex_8e157 3 := ⟨mi_J3_checkIndex_8e157, sl_gt12 141 (by decide +kernel) rfl, sl_gt12 142 (by decide +kernel) rfl, by decide +kernel⟩
theorem lJ0_498 : sl_LS RJ0 498 YJ2_charAt_3b067 2 := ⟨mi_J2_charAt_3b067, sl_gt12 144 (by decide +kernel) rfl, sl_gt12 145 (by decide +kernel) rfl, by decide +kernel⟩
theorem lJ2_67 : sl_LS RJ2 67 YJ2_checkIndex_2214a 2 := ⟨mi_J2_checkIndex_2214a, sl_gt12 147 (by decide +kernel) rfl, sl_gt12 148 (by decide +kernel) rfl, by decide +kernel⟩
theorem lJ2_414 : sl_LS RJ2 414 YJ0_checkIndex_df160 2 := ⟨mi_J0_checkIndex_df160, sl_gt12 150 (by decide +kernel) rfl, sl_gt12 139 (by decide +kernel) rfl, by decide +kernel⟩
theorem lX3_97 : sl_LV RX3 97 YX3_takeKind 0 := ⟨mi_X3_takeKind, sl_gt12 152 (by decide +kernel) rfl, sl_gt12 154 (by decide +kernel) rfl, sl_gp0 (n := 13) 9 (by decide +kernel), by decide +kernel⟩
theorem lX3_100 : sl_LV RX3 100 YX3_takeHead 0 := ⟨mi_X3_takeHead, sl_gt12 159 (by decide +kernel) rfl, sl_gt12 161 (by decide +kernel) rfl, sl_gp0 (n := 13) 10 (by decide +kernel), by decide +kernel⟩
theorem lX3_160 : sl_LV RX3 160 YX3_isNameWord 0 := ⟨mi_X3_isNameWord, sl_gt12 163 (by decide +kernel) rfl, sl_gt12 165 (by decide +kernel) rfl, sl_gp0 (n := 13) 11 (by decide +kernel), by decide +kernel⟩
theorem lX3_164 : sl_LV RX3 164 YX3_meetName 0 := ⟨mi_X3_meetName, sl_gt12 170 (by decide +kernel) rfl, sl_gt12 172 (by decide +kernel) rfl, sl_gp0 (n := 13) 12 (by decide +kernel), by decide +kernel⟩
theorem lX3_141 : sl_LV RX3 141 YX2_nameNumber 1 := ⟨mi_X2_nameNumber, sl_gt12 174 (by decide +kernel) rfl, sl_gt12 175 (by decide +kernel) rfl, sl_gt12 176 (by decide +kernel) rfl, by decide +kernel⟩
theorem lX3_103 : sl_LV RX3 103 YX3_takeIs 0 := ⟨mi_X3_takeIs, sl_gt12 178 (by decide +kernel) rfl, sl_gt12 180 (by decide +kernel) rfl, sl_gp0 (n := 13) 13 (by decide +kernel), by decide +kernel⟩
theorem lX3_106 : sl_LV RX3 106 YX3_takeItem 0 := ⟨mi_X3_takeItem, sl_gt12 182 (by decide +kernel) rfl, sl_gt12 184 (by decide +kernel) rfl, sl_gp0 (n := 13) 14 (by decide +kernel), by decide +kernel⟩
theorem lX3_173 : sl_LV RX3 173 YX3_takeNameItem 0 := ⟨mi_X3_takeNameItem, sl_gt12 186 (by decide +kernel) rfl, sl_gt12 188 (by decide +kernel) rfl, sl_gp0 (n := 13) 15 (by decide +kernel), by decide +kernel⟩
theorem lX3_179 : sl_LV RX3 179 YX2_itemAt 2 := ⟨mi_X2_itemAt, sl_gt12 190 (by decide +kernel) rfl, sl_gt12 191 (by decide +kernel) rfl, sl_gt12 192 (by decide +kernel) rfl, by decide +kernel⟩
theorem lX3_183 : sl_LS RX3 183 YX2_isName 1 := ⟨mi_X2_isName, sl_gt12 194 (by decide +kernel) rfl, sl_gt12 195 (by decide +kernel) rfl, by decide +kernel⟩
theorem lX3_186 : sl_LV RX3 186 YX3_addItem 1 := ⟨mi_X3_addItem, sl_gt12 197 (by decide +kernel) rfl, sl_gt12 199 (by decide +kernel) rfl, sl_gp1 (n := 13) 0 (by decide +kernel), by decide +kernel⟩
theorem lX3_176 : sl_LV RX3 176 YX3_takeTerminalItem 1 := ⟨mi_X3_takeTerminalItem, sl_gt12 201 (by decide +kernel) rfl, sl_gt12 203 (by decide +kernel) rfl, sl_gp1 (n := 13) 1 (by decide +kernel), by decide +kernel⟩
theorem lX3_189 : sl_LV RX3 189 YX3_meetTerminal 1 := ⟨mi_X3_meetTerminal, sl_gt12 205 (by decide +kernel) rfl, sl_gt12 207 (by decide +kernel) rfl, sl_gp1 (n := 13) 2 (by decide +kernel), by decide +kernel⟩
theorem lX3_151 : sl_LV RX3 151 YX2_terminalNumber 1 := ⟨mi_X2_terminalNumber, sl_gt12 209 (by decide +kernel) rfl, sl_gt12 210 (by decide +kernel) rfl, sl_gt12 211 (by decide +kernel) rfl, by decide +kernel⟩
theorem lX3_109 : sl_LV RX3 109 YX3_takeDeed 0 := ⟨mi_X3_takeDeed, sl_gt12 213 (by decide +kernel) rfl, sl_gt12 215 (by decide +kernel) rfl, sl_gp1 (n := 13) 3 (by decide +kernel), by decide +kernel⟩
theorem lX3_195 : sl_LV RX3 195 YX3_deedOfWord 0 := ⟨mi_X3_deedOfWord, sl_gt12 217 (by decide +kernel) rfl, sl_gt12 219 (by decide +kernel) rfl, sl_gp1 (n := 13) 4 (by decide +kernel), by decide +kernel⟩
theorem lX3_204 : sl_LS RX3 204 YX3_deedText 1 := ⟨mi_X3_deedText, sl_gt12 221 (by decide +kernel) rfl, sl_gt12 222 (by decide +kernel) rfl, by decide +kernel⟩
theorem lX3_198 : sl_LV RX3 198 YX3_goesWithRule 1 := ⟨mi_X3_goesWithRule, sl_gt12 230 (by decide +kernel) rfl, sl_gt12 232 (by decide +kernel) rfl, sl_gp1 (n := 13) 5 (by decide +kernel), by decide +kernel⟩
theorem lX3_220 : sl_LV RX3 220 YX2_namesAmong 1 := ⟨mi_X2_namesAmong, sl_gt12 234 (by decide +kernel) rfl, sl_gt12 235 (by decide +kernel) rfl, sl_gt12 236 (by decide +kernel) rfl, by decide +kernel⟩
theorem lX2_47 : sl_LV RX2 47 YX2_itemAt 2 := ⟨mi_X2_itemAt, sl_gt12 238 (by decide +kernel) rfl, sl_gt12 191 (by decide +kernel) rfl, sl_gt12 192 (by decide +kernel) rfl, by decide +kernel⟩
theorem lX2_51 : sl_LS RX2 51 YX2_isName 1 := ⟨mi_X2_isName, sl_gt12 239 (by decide +kernel) rfl, sl_gt12 195 (by decide +kernel) rfl, by decide +kernel⟩
theorem lX3_112 : sl_LV RX3 112 YX3_takeParting 0 := ⟨mi_X3_takeParting, sl_gt13 0 (by decide +kernel) rfl, sl_gt13 2 (by decide +kernel) rfl, sl_gp1 (n := 13) 6 (by decide +kernel), by decide +kernel⟩
theorem lX3_223 : sl_LV RX3 223 YX3_lacksSomething 0 := ⟨mi_X3_lacksSomething, sl_gt13 4 (by decide +kernel) rfl, sl_gt13 6 (by decide +kernel) rfl, sl_gp1 (n := 13) 7 (by decide +kernel), by decide +kernel⟩
theorem lX3_226 : sl_LV RX3 226 YX2_isHead 1 := ⟨mi_X2_isHead, sl_gt13 8 (by decide +kernel) rfl, sl_gt13 9 (by decide +kernel) rfl, sl_gt13 10 (by decide +kernel) rfl, by decide +kernel⟩
theorem lX11_93 : sl_LV RX11 93 YX11_refuseAt 2 := ⟨mi_X11_refuseAt, sl_gt13 12 (by decide +kernel) rfl, sl_gt13 14 (by decide +kernel) rfl, sl_gp1 (n := 16) 8 (by decide +kernel), by decide +kernel⟩
theorem lX11_101 : sl_LV RX11 101 YX0_clear 0 := ⟨mi_X0_clear, sl_gt13 16 (by decide +kernel) rfl, sl_gt13 17 (by decide +kernel) rfl, sl_gt13 18 (by decide +kernel) rfl, by decide +kernel⟩
theorem lX11_104 : sl_LV RX11 104 YX11_settle 0 := ⟨mi_X11_settle, sl_gt13 20 (by decide +kernel) rfl, sl_gt13 22 (by decide +kernel) rfl, sl_gp1 (n := 16) 9 (by decide +kernel), by decide +kernel⟩
theorem lX11_320 : sl_LV RX11 320 YX10_reckon 1 := ⟨mi_X10_reckon, sl_gt13 24 (by decide +kernel) rfl, sl_gt13 25 (by decide +kernel) rfl, sl_gt13 26 (by decide +kernel) rfl, by decide +kernel⟩
theorem lX10_33 : sl_LV RX10 33 YX10_growEdges 1 := ⟨mi_X10_growEdges, sl_gt13 28 (by decide +kernel) rfl, sl_gt13 30 (by decide +kernel) rfl, sl_gp1 (n := 4) 10 (by decide +kernel), by decide +kernel⟩
theorem lX10_61 : sl_LS RX10 61 YJ9_min_7cf53 2 := ⟨mi_J9_min_7cf53, sl_gt13 32 (by decide +kernel) rfl, sl_gt12 59 (by decide +kernel) rfl, by decide +kernel⟩
theorem lX10_67 : sl_LS RX10 67 YX10_edgeOf 5 := ⟨mi_X10_edgeOf, sl_gt13 33 (by decide +kernel) rfl, sl_gt13 34 (by decide +kernel) rfl, by decide +kernel⟩
theorem lX10_74 : sl_LV RX10 74 YX2_itemAt 2 := ⟨mi_X2_itemAt, sl_gt13 36 (by decide +kernel) rfl, sl_gt12 191 (by decide +kernel) rfl, sl_gt12 192 (by decide +kernel) rfl, by decide +kernel⟩
theorem lX10_77 : sl_LS RX10 77 YX2_isName 1 := ⟨mi_X2_isName, sl_gt13 37 (by decide +kernel) rfl, sl_gt12 195 (by decide +kernel) rfl, by decide +kernel⟩
theorem lX10_71 : sl_LS RX10 71 YJ9_max_7cf53 2 := ⟨mi_J9_max_7cf53, sl_gt13 38 (by decide +kernel) rfl, sl_gt12 56 (by decide +kernel) rfl, by decide +kernel⟩
theorem lX10_44 : sl_LV RX10 44 YX10_relateRule 2 := ⟨mi_X10_relateRule, sl_gt13 39 (by decide +kernel) rfl, sl_gt13 41 (by decide +kernel) rfl, sl_gp1 (n := 4) 11 (by decide +kernel), by decide +kernel⟩
theorem lX10_52 : sl_LV RX10 52 YX10_addAbove 2 := ⟨mi_X10_addAbove, sl_gt13 43 (by decide +kernel) rfl, sl_gt13 45 (by decide +kernel) rfl, sl_gp1 (n := 4) 12 (by decide +kernel), by decide +kernel⟩
theorem lX10_81 : sl_LV RX10 81 YX10_addRelation 3 := ⟨mi_X10_addRelation, sl_gt13 47 (by decide +kernel) rfl, sl_gt13 49 (by decide +kernel) rfl, sl_gp1 (n := 4) 13 (by decide +kernel), by decide +kernel⟩
theorem lX10_48 : sl_LV RX10 48 YX10_addBelow 2 := ⟨mi_X10_addBelow, sl_gt13 51 (by decide +kernel) rfl, sl_gt13 53 (by decide +kernel) rfl, sl_gp1 (n := 4) 14 (by decide +kernel), by decide +kernel⟩
theorem lX11_323 : sl_LV RX11 323 YX5_reckon 1 := ⟨mi_X5_reckon, sl_gt13 55 (by decide +kernel) rfl, sl_gt13 56 (by decide +kernel) rfl, sl_gt13 57 (by decide +kernel) rfl, by decide +kernel⟩
theorem lX5_37 : sl_LV RX5 37 YX5_tieKnots 1 := ⟨mi_X5_tieKnots, sl_gt13 59 (by decide +kernel) rfl, sl_gt13 61 (by decide +kernel) rfl, sl_gp1 (n := 8) 15 (by decide +kernel), by decide +kernel⟩
theorem lX5_56 : sl_LV RX5 56 YX10_between 2 := ⟨mi_X10_between, sl_gt13 63 (by decide +kernel) rfl, sl_gt13 64 (by decide +kernel) rfl, sl_gt13 65 (by decide +kernel) rfl, by decide +kernel⟩
theorem lX5_60 : sl_LV RX5 60 YX5_tie 2 := ⟨mi_X5_tie, sl_gt13 67 (by decide +kernel) rfl, sl_gt13 69 (by decide +kernel) rfl, sl_gp2 (n := 8) 0 (by decide +kernel), by decide +kernel⟩
theorem lX5_64 : sl_LS RX5 64 YJ9_min_7cf53 2 := ⟨mi_J9_min_7cf53, sl_gt13 71 (by decide +kernel) rfl, sl_gt12 59 (by decide +kernel) rfl, by decide +kernel⟩
theorem lX5_69 : sl_LS RX5 69 YJ9_max_7cf53 2 := ⟨mi_J9_max_7cf53, sl_gt13 72 (by decide +kernel) rfl, sl_gt12 56 (by decide +kernel) rfl, by decide +kernel⟩
theorem lX5_41 : sl_LV RX5 41 YX5_drawArcs 1 := ⟨mi_X5_drawArcs, sl_gt13 73 (by decide +kernel) rfl, sl_gt13 75 (by decide +kernel) rfl, sl_gp2 (n := 8) 1 (by decide +kernel), by decide +kernel⟩
theorem lX5_44 : sl_LV RX5 44 YX5_reachOut 0 := ⟨mi_X5_reachOut, sl_gt13 77 (by decide +kernel) rfl, sl_gt13 79 (by decide +kernel) rfl, sl_gp2 (n := 8) 2 (by decide +kernel), by decide +kernel⟩
theorem lX5_72 : sl_LS RX5 72 YX5_has 2 := ⟨mi_X5_has, sl_gt13 81 (by decide +kernel) rfl, sl_gt13 82 (by decide +kernel) rfl, by decide +kernel⟩
theorem lX5_47 : sl_LV RX5 47 YX5_findRing 0 := ⟨mi_X5_findRing, sl_gt13 84 (by decide +kernel) rfl, sl_gt13 86 (by decide +kernel) rfl, sl_gp2 (n := 8) 3 (by decide +kernel), by decide +kernel⟩
theorem lX5_76 : sl_LV RX5 76 YX5_walkRing 1 := ⟨mi_X5_walkRing, sl_gt13 88 (by decide +kernel) rfl, sl_gt13 90 (by decide +kernel) rfl, sl_gp2 (n := 8) 4 (by decide +kernel), by decide +kernel⟩
theorem lX5_80 : sl_LV RX5 80 YX5_measureBack 1 := ⟨mi_X5_measureBack, sl_gt13 92 (by decide +kernel) rfl, sl_gt13 94 (by decide +kernel) rfl, sl_gp2 (n := 8) 5 (by decide +kernel), by decide +kernel⟩
theorem lX5_87 : sl_LV RX5 87 YX5_leastNext 2 := ⟨mi_X5_leastNext, sl_gt13 96 (by decide +kernel) rfl, sl_gt13 98 (by decide +kernel) rfl, sl_gp2 (n := 8) 6 (by decide +kernel), by decide +kernel⟩
theorem lX5_83 : sl_LV RX5 83 YX5_wayRound 1 := ⟨mi_X5_wayRound, sl_gt13 100 (by decide +kernel) rfl, sl_gt13 102 (by decide +kernel) rfl, sl_gp2 (n := 8) 7 (by decide +kernel), by decide +kernel⟩
theorem lX5_53 : sl_LV RX5 53 YX5_measureWays 0 := ⟨mi_X5_measureWays, sl_gt13 104 (by decide +kernel) rfl, sl_gt13 106 (by decide +kernel) rfl, sl_gp2 (n := 8) 8 (by decide +kernel), by decide +kernel⟩
theorem lX5_90 : sl_LV RX5 90 YX5_longestFrom 1 := ⟨mi_X5_longestFrom, sl_gt13 108 (by decide +kernel) rfl, sl_gt13 110 (by decide +kernel) rfl, sl_gp2 (n := 8) 9 (by decide +kernel), by decide +kernel⟩
theorem lX11_110 : sl_LV RX11 110 YX11_grant 1 := ⟨mi_X11_grant, sl_gt13 112 (by decide +kernel) rfl, sl_gt13 114 (by decide +kernel) rfl, sl_gp2 (n := 16) 10 (by decide +kernel), by decide +kernel⟩
theorem lL_28 : sl_LV RL 28 YX11_fault 0 := ⟨mi_X11_fault, sl_gt13 116 (by decide +kernel) rfl, sl_gt13 117 (by decide +kernel) rfl, sl_gt13 118 (by decide +kernel) rfl, by decide +kernel⟩
theorem lL_33 : sl_LV RL 33 YX11_where 0 := ⟨mi_X11_where, sl_gt13 120 (by decide +kernel) rfl, sl_gt13 121 (by decide +kernel) rfl, sl_gt13 122 (by decide +kernel) rfl, by decide +kernel⟩
theorem lL_37 : sl_LV RL 37 YX11_about 1 := ⟨mi_X11_about, sl_gt13 124 (by decide +kernel) rfl, sl_gt13 125 (by decide +kernel) rfl, sl_gt13 126 (by decide +kernel) rfl, by decide +kernel⟩
theorem lL_41 : sl_LV RL 41 YX11_rule 2 := ⟨mi_X11_rule, sl_gt13 128 (by decide +kernel) rfl, sl_gt13 129 (by decide +kernel) rfl, sl_gt13 130 (by decide +kernel) rfl, by decide +kernel⟩
theorem lX11_128 : sl_LV RX11 128 YX11_hasRule 1 := ⟨mi_X11_hasRule, sl_gt13 132 (by decide +kernel) rfl, sl_gt13 134 (by decide +kernel) rfl, sl_gp2 (n := 16) 11 (by decide +kernel), by decide +kernel⟩
theorem lL_46 : sl_LV RL 46 YX11_item 2 := ⟨mi_X11_item, sl_gt13 136 (by decide +kernel) rfl, sl_gt13 137 (by decide +kernel) rfl, sl_gt13 138 (by decide +kernel) rfl, by decide +kernel⟩
theorem lX11_146 : sl_LV RX11 146 YX2_itemAt 2 := ⟨mi_X2_itemAt, sl_gt13 140 (by decide +kernel) rfl, sl_gt12 191 (by decide +kernel) rfl, sl_gt12 192 (by decide +kernel) rfl, by decide +kernel⟩
theorem lL_50 : sl_LV RL 50 YX11_sign 1 := ⟨mi_X11_sign, sl_gt13 141 (by decide +kernel) rfl, sl_gt13 142 (by decide +kernel) rfl, sl_gt13 143 (by decide +kernel) rfl, by decide +kernel⟩
theorem lX11_149 : sl_LV RX11 149 YX11_hasTerminal 1 := ⟨mi_X11_hasTerminal, sl_gt13 145 (by decide +kernel) rfl, sl_gt13 147 (by decide +kernel) rfl, sl_gp2 (n := 16) 12 (by decide +kernel), by decide +kernel⟩
theorem lL_54 : sl_LV RL 54 YX11_edge 2 := ⟨mi_X11_edge, sl_gt13 149 (by decide +kernel) rfl, sl_gt13 150 (by decide +kernel) rfl, sl_gt13 151 (by decide +kernel) rfl, by decide +kernel⟩
theorem lL_58 : sl_LV RL 58 YX11_relation 2 := ⟨mi_X11_relation, sl_gt13 153 (by decide +kernel) rfl, sl_gt13 154 (by decide +kernel) rfl, sl_gt13 155 (by decide +kernel) rfl, by decide +kernel⟩
theorem lX11_161 : sl_LV RX11 161 YX10_between 2 := ⟨mi_X10_between, sl_gt13 157 (by decide +kernel) rfl, sl_gt13 64 (by decide +kernel) rfl, sl_gt13 65 (by decide +kernel) rfl, by decide +kernel⟩
theorem lL_62 : sl_LV RL 62 YX11_related 1 := ⟨mi_X11_related, sl_gt13 158 (by decide +kernel) rfl, sl_gt13 159 (by decide +kernel) rfl, sl_gt13 160 (by decide +kernel) rfl, by decide +kernel⟩
theorem lX11_164 : sl_LS RX11 164 YX11_isRelation 1 := ⟨mi_X11_isRelation, sl_gt13 162 (by decide +kernel) rfl, sl_gt13 163 (by decide +kernel) rfl, by decide +kernel⟩
theorem lX11_167 : sl_LV RX11 167 YX10_countOf 1 := ⟨mi_X10_countOf, sl_gt13 165 (by decide +kernel) rfl, sl_gt13 166 (by decide +kernel) rfl, sl_gt13 167 (by decide +kernel) rfl, by decide +kernel⟩
theorem lL_66 : sl_LV RL 66 YX11_clashes 0 := ⟨mi_X11_clashes, sl_gt13 169 (by decide +kernel) rfl, sl_gt13 170 (by decide +kernel) rfl, sl_gt13 171 (by decide +kernel) rfl, by decide +kernel⟩
theorem lX11_170 : sl_LV RX11 170 YX10_clashCount 0 := ⟨mi_X10_clashCount, sl_gt13 173 (by decide +kernel) rfl, sl_gt13 174 (by decide +kernel) rfl, sl_gt13 175 (by decide +kernel) rfl, by decide +kernel⟩
theorem lX10_91 : sl_LV RX10 91 YX10_isClash 1 := ⟨mi_X10_isClash, sl_gt13 177 (by decide +kernel) rfl, sl_gt13 179 (by decide +kernel) rfl, sl_gp2 (n := 4) 13 (by decide +kernel), by decide +kernel⟩
theorem lX10_85 : sl_LS RX10 85 YJ6_bitCount_0f7a4 1 := ⟨mi_J6_bitCount_0f7a4, sl_gt13 181 (by decide +kernel) rfl, sl_gt13 182 (by decide +kernel) rfl, by decide +kernel⟩
theorem lL_70 : sl_LV RL 70 YX11_clash 1 := ⟨mi_X11_clash, sl_gt13 187 (by decide +kernel) rfl, sl_gt13 188 (by decide +kernel) rfl, sl_gt13 189 (by decide +kernel) rfl, by decide +kernel⟩
theorem lX11_174 : sl_LV RX11 174 YX10_clashAt 1 := ⟨mi_X10_clashAt, sl_gt13 191 (by decide +kernel) rfl, sl_gt13 192 (by decide +kernel) rfl, sl_gt13 193 (by decide +kernel) rfl, by decide +kernel⟩
theorem lL_74 : sl_LV RL 74 YX11_doubles 0 := ⟨mi_X11_doubles, sl_gt13 195 (by decide +kernel) rfl, sl_gt13 196 (by decide +kernel) rfl, sl_gt13 197 (by decide +kernel) rfl, by decide +kernel⟩
theorem lX11_177 : sl_LV RX11 177 YX2_doubleRules 0 := ⟨mi_X2_doubleRules, sl_gt13 199 (by decide +kernel) rfl, sl_gt13 200 (by decide +kernel) rfl, sl_gt13 201 (by decide +kernel) rfl, by decide +kernel⟩
theorem lX2_62 : sl_LV RX2 62 YX2_isDouble 1 := ⟨mi_X2_isDouble, sl_gt13 203 (by decide +kernel) rfl, sl_gt13 205 (by decide +kernel) rfl, sl_gp2 (n := 11) 14 (by decide +kernel), by decide +kernel⟩
theorem lX2_55 : sl_LV RX2 55 YX2_hasSkeleton 1 := ⟨mi_X2_hasSkeleton, sl_gt13 207 (by decide +kernel) rfl, sl_gt13 208 (by decide +kernel) rfl, sl_gt13 209 (by decide +kernel) rfl, by decide +kernel⟩
theorem lX2_58 : sl_LV RX2 58 YX2_sameSkeleton 2 := ⟨mi_X2_sameSkeleton, sl_gt13 211 (by decide +kernel) rfl, sl_gt13 213 (by decide +kernel) rfl, sl_gp2 (n := 11) 15 (by decide +kernel), by decide +kernel⟩
theorem lL_78 : sl_LV RL 78 YX11_function 2 := ⟨mi_X11_function, sl_gt13 215 (by decide +kernel) rfl, sl_gt13 216 (by decide +kernel) rfl, sl_gt13 217 (by decide +kernel) rfl, by decide +kernel⟩
theorem lX11_180 : sl_LV RX11 180 YX5_stand 0 := ⟨mi_X5_stand, sl_gt13 219 (by decide +kernel) rfl, sl_gt13 220 (by decide +kernel) rfl, sl_gt13 221 (by decide +kernel) rfl, by decide +kernel⟩
theorem lX11_184 : sl_LV RX11 184 YX5_valueF 1 := ⟨mi_X5_valueF, sl_gt13 223 (by decide +kernel) rfl, sl_gt13 224 (by decide +kernel) rfl, sl_gt13 225 (by decide +kernel) rfl, by decide +kernel⟩
theorem lX11_187 : sl_LV RX11 187 YX5_valueG 1 := ⟨mi_X5_valueG, sl_gt13 227 (by decide +kernel) rfl, sl_gt13 228 (by decide +kernel) rfl, sl_gt13 229 (by decide +kernel) rfl, by decide +kernel⟩
theorem lL_82 : sl_LV RL 82 YX11_highest 0 := ⟨mi_X11_highest, sl_gt13 231 (by decide +kernel) rfl, sl_gt13 232 (by decide +kernel) rfl, sl_gt13 233 (by decide +kernel) rfl, by decide +kernel⟩
theorem lX11_190 : sl_LV RX11 190 YX5_greatest 0 := ⟨mi_X5_greatest, sl_gt13 235 (by decide +kernel) rfl, sl_gt13 236 (by decide +kernel) rfl, sl_gt13 237 (by decide +kernel) rfl, by decide +kernel⟩
theorem lX5_93 : sl_LV RX5 93 YX5_valueF 1 := ⟨mi_X5_valueF, sl_gt13 239 (by decide +kernel) rfl, sl_gt13 224 (by decide +kernel) rfl, sl_gt13 225 (by decide +kernel) rfl, by decide +kernel⟩
theorem lX5_96 : sl_LV RX5 96 YX5_valueG 1 := ⟨mi_X5_valueG, sl_gt14 0 (by decide +kernel) rfl, sl_gt13 228 (by decide +kernel) rfl, sl_gt13 229 (by decide +kernel) rfl, by decide +kernel⟩
theorem lL_86 : sl_LV RL 86 YX11_hidden 1 := ⟨mi_X11_hidden, sl_gt14 1 (by decide +kernel) rfl, sl_gt14 2 (by decide +kernel) rfl, sl_gt14 3 (by decide +kernel) rfl, by decide +kernel⟩
theorem lX11_193 : sl_LV RX11 193 YX11_hiddenCount 1 := ⟨mi_X11_hiddenCount, sl_gt14 5 (by decide +kernel) rfl, sl_gt14 7 (by decide +kernel) rfl, sl_gp3 (n := 16) 0 (by decide +kernel), by decide +kernel⟩
theorem lX11_327 : sl_LV RX11 327 YX5_compared 2 := ⟨mi_X5_compared, sl_gt14 9 (by decide +kernel) rfl, sl_gt14 10 (by decide +kernel) rfl, sl_gt14 11 (by decide +kernel) rfl, by decide +kernel⟩
theorem lL_90 : sl_LV RL 90 YX11_knotted 0 := ⟨mi_X11_knotted, sl_gt14 13 (by decide +kernel) rfl, sl_gt14 14 (by decide +kernel) rfl, sl_gt14 15 (by decide +kernel) rfl, by decide +kernel⟩
theorem lX11_196 : sl_LV RX11 196 YX5_knotCount 0 := ⟨mi_X5_knotCount, sl_gt14 17 (by decide +kernel) rfl, sl_gt14 18 (by decide +kernel) rfl, sl_gt14 19 (by decide +kernel) rfl, by decide +kernel⟩
theorem lL_94 : sl_LV RL 94 YX11_ring 0 := ⟨mi_X11_ring, sl_gt14 21 (by decide +kernel) rfl, sl_gt14 22 (by decide +kernel) rfl, sl_gt14 23 (by decide +kernel) rfl, by decide +kernel⟩
theorem lL_98 : sl_LV RL 98 YX11_ringAt 1 := ⟨mi_X11_ringAt, sl_gt14 25 (by decide +kernel) rfl, sl_gt14 26 (by decide +kernel) rfl, sl_gt14 27 (by decide +kernel) rfl, by decide +kernel⟩
theorem lL_102 : sl_LV RL 102 YX11_formula 2 := ⟨mi_X11_formula, sl_gt14 29 (by decide +kernel) rfl, sl_gt14 30 (by decide +kernel) rfl, sl_gt14 31 (by decide +kernel) rfl, by decide +kernel⟩
theorem lX11_205 : sl_LV RX11 205 YX11_canReadBy 1 := ⟨mi_X11_canReadBy, sl_gt14 33 (by decide +kernel) rfl, sl_gt14 35 (by decide +kernel) rfl, sl_gp3 (n := 16) 1 (by decide +kernel), by decide +kernel⟩
theorem lX11_208 : sl_LV RX11 208 YX1_scan 2 := ⟨mi_X1_scan, sl_gt14 37 (by decide +kernel) rfl, sl_gt14 38 (by decide +kernel) rfl, sl_gt14 39 (by decide +kernel) rfl, by decide +kernel⟩
theorem lX1_42 : sl_LV RX1 42 YX1_scanNext 0 := ⟨mi_X1_scanNext, sl_gt14 41 (by decide +kernel) rfl, sl_gt14 43 (by decide +kernel) rfl, sl_gp3 (n := 9) 2 (by decide +kernel), by decide +kernel⟩
theorem lX1_45 : sl_LV RX1 45 YX1_byteAt 1 := ⟨mi_X1_byteAt, sl_gt14 45 (by decide +kernel) rfl, sl_gt14 47 (by decide +kernel) rfl, sl_gp3 (n := 9) 3 (by decide +kernel), by decide +kernel⟩
theorem lX1_49 : sl_LV RX1 49 YX1_isDigit 1 := ⟨mi_X1_isDigit, sl_gt14 49 (by decide +kernel) rfl, sl_gt14 51 (by decide +kernel) rfl, sl_gp3 (n := 9) 4 (by decide +kernel), by decide +kernel⟩
theorem lX1_53 : sl_LV RX1 53 YX1_scanOperand 0 := ⟨mi_X1_scanOperand, sl_gt14 53 (by decide +kernel) rfl, sl_gt14 55 (by decide +kernel) rfl, sl_gp3 (n := 9) 5 (by decide +kernel), by decide +kernel⟩
theorem lX1_67 : sl_LV RX1 67 YX1_digitsEnd 1 := ⟨mi_X1_digitsEnd, sl_gt14 57 (by decide +kernel) rfl, sl_gt14 59 (by decide +kernel) rfl, sl_gp3 (n := 9) 6 (by decide +kernel), by decide +kernel⟩
theorem lX1_70 : sl_LV RX1 70 YX1_digitsBetween 2 := ⟨mi_X1_digitsBetween, sl_gt14 61 (by decide +kernel) rfl, sl_gt14 63 (by decide +kernel) rfl, sl_gp3 (n := 9) 7 (by decide +kernel), by decide +kernel⟩
theorem lX1_74 : sl_LS RX1 74 YX8_ofDigits 2 := ⟨mi_X8_ofDigits, sl_gt14 65 (by decide +kernel) rfl, sl_gt14 66 (by decide +kernel) rfl, by decide +kernel⟩
theorem lX8_18 : sl_LS RX8 18 YX8_bitsOf 1 := ⟨mi_X8_bitsOf, sl_gt14 71 (by decide +kernel) rfl, sl_gt14 72 (by decide +kernel) rfl, by decide +kernel⟩
theorem lX1_63 : sl_LV RX1 63 YX1_addToken 4 := ⟨mi_X1_addToken, sl_gt14 79 (by decide +kernel) rfl, sl_gt14 81 (by decide +kernel) rfl, sl_gp3 (n := 9) 8 (by decide +kernel), by decide +kernel⟩
theorem lX1_58 : sl_LV RX1 58 YJ0_indexOf_0f7a4 1 := ⟨mi_J0_indexOf_0f7a4, sl_gt14 84 (by decide +kernel) rfl, sl_gt12 28 (by decide +kernel) rfl, sl_gt12 29 (by decide +kernel) rfl, by decide +kernel⟩
theorem lX11_215 : sl_LV RX11 215 YX7_readThrough 5 := ⟨mi_X7_readThrough, sl_gt14 85 (by decide +kernel) rfl, sl_gt14 86 (by decide +kernel) rfl, sl_gt14 87 (by decide +kernel) rfl, by decide +kernel⟩
theorem lX7_97 : sl_LV RX7 97 YX7_failAt 2 := ⟨mi_X7_failAt, sl_gt14 89 (by decide +kernel) rfl, sl_gt14 91 (by decide +kernel) rfl, sl_gp3 (n := 18) 9 (by decide +kernel), by decide +kernel⟩
theorem lX7_101 : sl_LV RX7 101 YX7_goOn 0 := ⟨mi_X7_goOn, sl_gt14 93 (by decide +kernel) rfl, sl_gt14 95 (by decide +kernel) rfl, sl_gp3 (n := 18) 10 (by decide +kernel), by decide +kernel⟩
theorem lX7_121 : sl_LV RX7 121 YX7_nextTerminal 0 := ⟨mi_X7_nextTerminal, sl_gt14 97 (by decide +kernel) rfl, sl_gt14 99 (by decide +kernel) rfl, sl_gp3 (n := 18) 11 (by decide +kernel), by decide +kernel⟩
theorem lX7_104 : sl_LV RX7 104 YX1_tokenCount 0 := ⟨mi_X1_tokenCount, sl_gt14 101 (by decide +kernel) rfl, sl_gt14 102 (by decide +kernel) rfl, sl_gt14 103 (by decide +kernel) rfl, by decide +kernel⟩
theorem lX7_117 : sl_LV RX7 117 YX2_terminalNumber 1 := ⟨mi_X2_terminalNumber, sl_gt14 105 (by decide +kernel) rfl, sl_gt12 210 (by decide +kernel) rfl, sl_gt12 211 (by decide +kernel) rfl, by decide +kernel⟩
theorem lX7_124 : sl_LV RX7 124 YX7_failHere 1 := ⟨mi_X7_failHere, sl_gt14 106 (by decide +kernel) rfl, sl_gt14 108 (by decide +kernel) rfl, sl_gp3 (n := 18) 12 (by decide +kernel), by decide +kernel⟩
theorem lX7_128 : sl_LV RX7 128 YX7_finish 0 := ⟨mi_X7_finish, sl_gt14 110 (by decide +kernel) rfl, sl_gt14 112 (by decide +kernel) rfl, sl_gp3 (n := 18) 13 (by decide +kernel), by decide +kernel⟩
theorem lX7_131 : sl_LV RX7 131 YX7_order 2 := ⟨mi_X7_order, sl_gt14 114 (by decide +kernel) rfl, sl_gt14 116 (by decide +kernel) rfl, sl_gp3 (n := 18) 14 (by decide +kernel), by decide +kernel⟩
theorem lX7_141 : sl_LV RX7 141 YX10_between 2 := ⟨mi_X10_between, sl_gt14 118 (by decide +kernel) rfl, sl_gt13 64 (by decide +kernel) rfl, sl_gt13 65 (by decide +kernel) rfl, by decide +kernel⟩
theorem lX7_146 : sl_LV RX7 146 YX5_compared 2 := ⟨mi_X5_compared, sl_gt14 119 (by decide +kernel) rfl, sl_gt14 10 (by decide +kernel) rfl, sl_gt14 11 (by decide +kernel) rfl, by decide +kernel⟩
theorem lX7_135 : sl_LV RX7 135 YX7_reduceLast 0 := ⟨mi_X7_reduceLast, sl_gt14 120 (by decide +kernel) rfl, sl_gt14 122 (by decide +kernel) rfl, sl_gp3 (n := 18) 15 (by decide +kernel), by decide +kernel⟩
theorem lX7_156 : sl_LV RX7 156 YX7_handleFrom 0 := ⟨mi_X7_handleFrom, sl_gt14 124 (by decide +kernel) rfl, sl_gt14 126 (by decide +kernel) rfl, sl_gp4 (n := 18) 0 (by decide +kernel), by decide +kernel⟩
theorem lX7_159 : sl_LV RX7 159 YX6_isFull 0 := ⟨mi_X6_isFull, sl_gt14 128 (by decide +kernel) rfl, sl_gt14 129 (by decide +kernel) rfl, sl_gt14 130 (by decide +kernel) rfl, by decide +kernel⟩
theorem lX7_163 : sl_LV RX7 163 YX4_gather 4 := ⟨mi_X4_gather, sl_gt14 132 (by decide +kernel) rfl, sl_gt14 133 (by decide +kernel) rfl, sl_gt14 134 (by decide +kernel) rfl, by decide +kernel⟩
theorem lX4_25 : sl_LV RX4 25 YX4_addValue 1 := ⟨mi_X4_addValue, sl_gt14 136 (by decide +kernel) rfl, sl_gt14 138 (by decide +kernel) rfl, sl_gp4 (n := 4) 1 (by decide +kernel), by decide +kernel⟩
theorem lX4_29 : sl_LV RX4 29 YX4_addItem 1 := ⟨mi_X4_addItem, sl_gt14 140 (by decide +kernel) rfl, sl_gt14 142 (by decide +kernel) rfl, sl_gp4 (n := 4) 2 (by decide +kernel), by decide +kernel⟩
theorem lX7_167 : sl_LV RX7 167 YX4_ruleOf 1 := ⟨mi_X4_ruleOf, sl_gt14 144 (by decide +kernel) rfl, sl_gt14 145 (by decide +kernel) rfl, sl_gt14 146 (by decide +kernel) rfl, by decide +kernel⟩
theorem lX4_41 : sl_LV RX4 41 YX2_hasSkeleton 1 := ⟨mi_X2_hasSkeleton, sl_gt14 148 (by decide +kernel) rfl, sl_gt13 208 (by decide +kernel) rfl, sl_gt13 209 (by decide +kernel) rfl, by decide +kernel⟩
theorem lX4_45 : sl_LV RX4 45 YX4_matches 2 := ⟨mi_X4_matches, sl_gt14 149 (by decide +kernel) rfl, sl_gt14 151 (by decide +kernel) rfl, sl_gp4 (n := 4) 3 (by decide +kernel), by decide +kernel⟩
theorem lX4_52 : sl_LV RX4 52 YX2_itemAt 2 := ⟨mi_X2_itemAt, sl_gt14 153 (by decide +kernel) rfl, sl_gt12 191 (by decide +kernel) rfl, sl_gt12 192 (by decide +kernel) rfl, by decide +kernel⟩
theorem lX4_56 : sl_LS RX4 56 YX2_isName 1 := ⟨mi_X2_isName, sl_gt14 154 (by decide +kernel) rfl, sl_gt12 195 (by decide +kernel) rfl, by decide +kernel⟩
theorem lX7_174 : sl_LV RX7 174 YX7_makeValue 2 := ⟨mi_X7_makeValue, sl_gt14 155 (by decide +kernel) rfl, sl_gt14 157 (by decide +kernel) rfl, sl_gp4 (n := 18) 4 (by decide +kernel), by decide +kernel⟩
theorem lX7_199 : sl_LV RX7 199 YX9_set 2 := ⟨mi_X9_set, sl_gt14 159 (by decide +kernel) rfl, sl_gt14 160 (by decide +kernel) rfl, sl_gt14 161 (by decide +kernel) rfl, by decide +kernel⟩
theorem lX7_205 : sl_LV RX7 205 YX9_changeOne 3 := ⟨mi_X9_changeOne, sl_gt14 163 (by decide +kernel) rfl, sl_gt14 164 (by decide +kernel) rfl, sl_gt14 165 (by decide +kernel) rfl, by decide +kernel⟩
theorem lX9_19 : sl_LS RX9 19 YX8_negated 1 := ⟨mi_X8_negated, sl_gt14 167 (by decide +kernel) rfl, sl_gt14 168 (by decide +kernel) rfl, by decide +kernel⟩
theorem lX8_23 : sl_LS RX8 23 YX8_isNoNumber 1 := ⟨mi_X8_isNoNumber, sl_gt14 170 (by decide +kernel) rfl, sl_gt14 171 (by decide +kernel) rfl, by decide +kernel⟩
theorem lX9_25 : sl_LV RX9 25 YX9_set 2 := ⟨mi_X9_set, sl_gt14 176 (by decide +kernel) rfl, sl_gt14 160 (by decide +kernel) rfl, sl_gt14 161 (by decide +kernel) rfl, by decide +kernel⟩
theorem lX9_29 : sl_LS RX9 29 YX8_toWhole 1 := ⟨mi_X8_toWhole, sl_gt14 177 (by decide +kernel) rfl, sl_gt14 178 (by decide +kernel) rfl, by decide +kernel⟩
theorem lX8_27 : sl_LS RX8 27 YX8_isInfinite 1 := ⟨mi_X8_isInfinite, sl_gt14 180 (by decide +kernel) rfl, sl_gt14 181 (by decide +kernel) rfl, by decide +kernel⟩
theorem lX8_30 : sl_LS RX8 30 YX8_floatOf 1 := ⟨mi_X8_floatOf, sl_gt14 183 (by decide +kernel) rfl, sl_gt14 184 (by decide +kernel) rfl, by decide +kernel⟩
theorem lX9_32 : sl_LS RX9 32 YX8_ofWhole 1 := ⟨mi_X8_ofWhole, sl_gt14 188 (by decide +kernel) rfl, sl_gt14 189 (by decide +kernel) rfl, by decide +kernel⟩
theorem lX7_209 : sl_LV RX7 209 YX7_realBits 1 := ⟨mi_X7_realBits, sl_gt14 191 (by decide +kernel) rfl, sl_gt14 193 (by decide +kernel) rfl, sl_gp4 (n := 18) 5 (by decide +kernel), by decide +kernel⟩
theorem lX7_222 : sl_LS RX7 222 YX8_ofWhole 1 := ⟨mi_X8_ofWhole, sl_gt14 195 (by decide +kernel) rfl, sl_gt14 189 (by decide +kernel) rfl, by decide +kernel⟩
theorem lX7_212 : sl_LV RX7 212 YX9_joinReals 3 := ⟨mi_X9_joinReals, sl_gt14 196 (by decide +kernel) rfl, sl_gt14 197 (by decide +kernel) rfl, sl_gt14 198 (by decide +kernel) rfl, by decide +kernel⟩
theorem lX9_35 : sl_LS RX9 35 YX8_sum 2 := ⟨mi_X8_sum, sl_gt14 200 (by decide +kernel) rfl, sl_gt14 201 (by decide +kernel) rfl, by decide +kernel⟩
theorem lX9_39 : sl_LS RX9 39 YX8_product 2 := ⟨mi_X8_product, sl_gt14 203 (by decide +kernel) rfl, sl_gt14 204 (by decide +kernel) rfl, by decide +kernel⟩
theorem lX8_35 : sl_LS RX8 35 YX8_isZero 1 := ⟨mi_X8_isZero, sl_gt14 206 (by decide +kernel) rfl, sl_gt14 207 (by decide +kernel) rfl, by decide +kernel⟩
theorem lX9_42 : sl_LS RX9 42 YX8_quotient 2 := ⟨mi_X8_quotient, sl_gt14 209 (by decide +kernel) rfl, sl_gt14 210 (by decide +kernel) rfl, by decide +kernel⟩
theorem lX7_216 : sl_LV RX7 216 YX9_joinWholes 3 := ⟨mi_X9_joinWholes, sl_gt14 212 (by decide +kernel) rfl, sl_gt14 213 (by decide +kernel) rfl, sl_gt14 214 (by decide +kernel) rfl, by decide +kernel⟩
theorem lX7_189 : sl_LV RX7 189 YX6_add 5 := ⟨mi_X6_add, sl_gt14 216 (by decide +kernel) rfl, sl_gt14 217 (by decide +kernel) rfl, sl_gt14 218 (by decide +kernel) rfl, by decide +kernel⟩
theorem lX6_38 : sl_LV RX6 38 YX6_depthOf 1 := ⟨mi_X6_depthOf, sl_gt14 220 (by decide +kernel) rfl, sl_gt14 222 (by decide +kernel) rfl, sl_gp4 (n := 8) 6 (by decide +kernel), by decide +kernel⟩
theorem lX6_42 : sl_LS RX6 42 YJ9_max_7cf53 2 := ⟨mi_J9_max_7cf53, sl_gt14 224 (by decide +kernel) rfl, sl_gt12 56 (by decide +kernel) rfl, by decide +kernel⟩
theorem lX6_48 : sl_LV RX6 48 YX6_sizeOf 1 := ⟨mi_X6_sizeOf, sl_gt14 225 (by decide +kernel) rfl, sl_gt14 227 (by decide +kernel) rfl, sl_gp4 (n := 8) 7 (by decide +kernel), by decide +kernel⟩
theorem lX7_138 : sl_LV RX7 138 YX7_stackNext 1 := ⟨mi_X7_stackNext, sl_gt14 229 (by decide +kernel) rfl, sl_gt14 231 (by decide +kernel) rfl, sl_gp4 (n := 18) 8 (by decide +kernel), by decide +kernel⟩
theorem lX7_151 : sl_LS RX7 151 YJ9_max_7cf53 2 := ⟨mi_J9_max_7cf53, sl_gt14 233 (by decide +kernel) rfl, sl_gt12 56 (by decide +kernel) rfl, by decide +kernel⟩
theorem lX11_219 : sl_LV RX11 219 YX11_stepsOf 1 := ⟨mi_X11_stepsOf, sl_gt14 234 (by decide +kernel) rfl, sl_gt14 236 (by decide +kernel) rfl, sl_gp4 (n := 16) 9 (by decide +kernel), by decide +kernel⟩
theorem lL_106 : sl_LV RL 106 YX11_read 1 := ⟨mi_X11_read, sl_gt14 238 (by decide +kernel) rfl, sl_gt14 239 (by decide +kernel) rfl, sl_gt15 0 (by decide +kernel) rfl, by decide +kernel⟩
theorem lX11_226 : sl_LV RX11 226 YX1_tokenCount 0 := ⟨mi_X1_tokenCount, sl_gt15 2 (by decide +kernel) rfl, sl_gt14 102 (by decide +kernel) rfl, sl_gt14 103 (by decide +kernel) rfl, by decide +kernel⟩
theorem lL_110 : sl_LV RL 110 YX11_reduced 1 := ⟨mi_X11_reduced, sl_gt15 3 (by decide +kernel) rfl, sl_gt15 4 (by decide +kernel) rfl, sl_gt15 5 (by decide +kernel) rfl, by decide +kernel⟩
theorem lX11_244 : sl_LV RX11 244 YX11_hasNode 1 := ⟨mi_X11_hasNode, sl_gt15 7 (by decide +kernel) rfl, sl_gt15 9 (by decide +kernel) rfl, sl_gp4 (n := 16) 10 (by decide +kernel), by decide +kernel⟩
theorem lL_114 : sl_LV RL 114 YX11_node 2 := ⟨mi_X11_node, sl_gt15 11 (by decide +kernel) rfl, sl_gt15 12 (by decide +kernel) rfl, sl_gt15 13 (by decide +kernel) rfl, by decide +kernel⟩
theorem lL_118 : sl_LV RL 118 YX11_under 2 := ⟨mi_X11_under, sl_gt15 16 (by decide +kernel) rfl, sl_gt15 17 (by decide +kernel) rfl, sl_gt15 18 (by decide +kernel) rfl, by decide +kernel⟩
theorem lX11_270 : sl_LV RX11 270 YX6_below 2 := ⟨mi_X6_below, sl_gt15 20 (by decide +kernel) rfl, sl_gt15 21 (by decide +kernel) rfl, sl_gt15 22 (by decide +kernel) rfl, by decide +kernel⟩
theorem lL_122 : sl_LV RL 122 YX11_value 1 := ⟨mi_X11_value, sl_gt15 24 (by decide +kernel) rfl, sl_gt15 25 (by decide +kernel) rfl, sl_gt15 26 (by decide +kernel) rfl, by decide +kernel⟩
theorem lX11_273 : sl_LV RX11 273 YX11_hasValue 0 := ⟨mi_X11_hasValue, sl_gt15 28 (by decide +kernel) rfl, sl_gt15 30 (by decide +kernel) rfl, sl_gp4 (n := 16) 11 (by decide +kernel), by decide +kernel⟩
theorem lX11_276 : sl_LV RX11 276 YX7_root 0 := ⟨mi_X7_root, sl_gt15 32 (by decide +kernel) rfl, sl_gt15 33 (by decide +kernel) rfl, sl_gt15 34 (by decide +kernel) rfl, by decide +kernel⟩
theorem lX11_279 : sl_LS RX11 279 YX8_toWhole 1 := ⟨mi_X8_toWhole, sl_gt15 36 (by decide +kernel) rfl, sl_gt14 178 (by decide +kernel) rfl, by decide +kernel⟩
theorem lL_126 : sl_LV RL 126 YX11_third 0 := ⟨mi_X11_third, sl_gt15 37 (by decide +kernel) rfl, sl_gt15 38 (by decide +kernel) rfl, sl_gt15 39 (by decide +kernel) rfl, by decide +kernel⟩
theorem lX11_288 : sl_LS RX11 288 YX8_thirdOfReal 1 := ⟨mi_X8_thirdOfReal, sl_gt15 42 (by decide +kernel) rfl, sl_gt15 43 (by decide +kernel) rfl, by decide +kernel⟩
theorem lX8_49 : sl_LS RX8 49 YX8_longBitsOf 1 := ⟨mi_X8_longBitsOf, sl_gt15 49 (by decide +kernel) rfl, sl_gt15 50 (by decide +kernel) rfl, by decide +kernel⟩
theorem lX11_292 : sl_LS RX11 292 YX8_thirdOfWhole 1 := ⟨mi_X8_thirdOfWhole, sl_gt15 55 (by decide +kernel) rfl, sl_gt15 56 (by decide +kernel) rfl, by decide +kernel⟩
theorem lL_131 : sl_LV RL 131 YX11_otherwise 0 := ⟨mi_X11_otherwise, sl_gt15 58 (by decide +kernel) rfl, sl_gt15 59 (by decide +kernel) rfl, sl_gt15 60 (by decide +kernel) rfl, by decide +kernel⟩
theorem lL_135 : sl_LV RL 135 YX11_later 0 := ⟨mi_X11_later, sl_gt15 62 (by decide +kernel) rfl, sl_gt15 63 (by decide +kernel) rfl, sl_gt15 64 (by decide +kernel) rfl, by decide +kernel⟩
theorem lL_139 : sl_LV RL 139 YX11_aside 2 := ⟨mi_X11_aside, sl_gt15 66 (by decide +kernel) rfl, sl_gt15 67 (by decide +kernel) rfl, sl_gt15 68 (by decide +kernel) rfl, by decide +kernel⟩
theorem lX11_298 : sl_LV RX11 298 YX0_keep 2 := ⟨mi_X0_keep, sl_gt15 70 (by decide +kernel) rfl, sl_gt15 71 (by decide +kernel) rfl, sl_gt15 72 (by decide +kernel) rfl, by decide +kernel⟩
theorem lX11_302 : sl_LV RX11 302 YX2_putCount 0 := ⟨mi_X2_putCount, sl_gt15 77 (by decide +kernel) rfl, sl_gt15 78 (by decide +kernel) rfl, sl_gt15 79 (by decide +kernel) rfl, by decide +kernel⟩
theorem lL_143 : sl_LV RL 143 YX11_kind 1 := ⟨mi_X11_kind, sl_gt15 81 (by decide +kernel) rfl, sl_gt15 82 (by decide +kernel) rfl, sl_gt15 83 (by decide +kernel) rfl, by decide +kernel⟩
theorem lL_147 : sl_LV RL 147 YX11_undo 0 := ⟨mi_X11_undo, sl_gt15 85 (by decide +kernel) rfl, sl_gt15 86 (by decide +kernel) rfl, sl_gt15 87 (by decide +kernel) rfl, by decide +kernel⟩
theorem lX11_306 : sl_LV RX11 306 YX0_takeBack 1 := ⟨mi_X0_takeBack, sl_gt15 89 (by decide +kernel) rfl, sl_gt15 90 (by decide +kernel) rfl, sl_gt15 91 (by decide +kernel) rfl, by decide +kernel⟩
theorem lL_161 : sl_LV RL 161 YX11_size 1 := ⟨mi_X11_size, sl_gt15 93 (by decide +kernel) rfl, sl_gt15 94 (by decide +kernel) rfl, sl_gt15 95 (by decide +kernel) rfl, by decide +kernel⟩
theorem lL_165 : sl_LV RL 165 YX11_trouble 0 := ⟨mi_X11_trouble, sl_gt15 97 (by decide +kernel) rfl, sl_gt15 98 (by decide +kernel) rfl, sl_gt15 99 (by decide +kernel) rfl, by decide +kernel⟩
theorem lL_7 : sl_LV RL 7 YX11_barren 1 := ⟨mi_X11_barren, sl_gt15 105 (by decide +kernel) rfl, sl_gt15 106 (by decide +kernel) rfl, sl_gt15 107 (by decide +kernel) rfl, by decide +kernel⟩
theorem lX11_310 : sl_LV RX11 310 YX2_barrenName 1 := ⟨mi_X2_barrenName, sl_gt15 109 (by decide +kernel) rfl, sl_gt15 110 (by decide +kernel) rfl, sl_gt15 111 (by decide +kernel) rfl, by decide +kernel⟩
theorem lX2_65 : sl_LV RX2 65 YX2_isBarren 1 := ⟨mi_X2_isBarren, sl_gt15 113 (by decide +kernel) rfl, sl_gt15 115 (by decide +kernel) rfl, sl_gp4 (n := 11) 12 (by decide +kernel), by decide +kernel⟩
theorem lL_18 : sl_LI RL 18 YX12_init 0 := ⟨mi_X12_init, sl_gt15 184 (by decide +kernel) rfl, sl_gt15 185 (by decide +kernel) rfl, rfl, rfl, by decide +kernel⟩
theorem lL_158 : sl_LV RL 158 YX12_thrown 0 := ⟨mi_X12_thrown, sl_gt16 193 (by decide +kernel) rfl, sl_gt16 194 (by decide +kernel) rfl, sl_gt16 195 (by decide +kernel) rfl, by decide +kernel⟩
theorem lL_23 : sl_LV RL 23 YX12_feed 5 := ⟨mi_X12_feed, sl_gt16 197 (by decide +kernel) rfl, sl_gt16 198 (by decide +kernel) rfl, sl_gt16 199 (by decide +kernel) rfl, by decide +kernel⟩
theorem lL_27 : sl_LV RL 27 YX12_grammar 1 := ⟨mi_X12_grammar, sl_gt16 201 (by decide +kernel) rfl, sl_gt16 202 (by decide +kernel) rfl, sl_gt16 203 (by decide +kernel) rfl, by decide +kernel⟩
theorem lX12_155 : sl_LV RX12 155 YX12_refused 1 := ⟨mi_X12_refused, sl_gt16 205 (by decide +kernel) rfl, sl_gt16 207 (by decide +kernel) rfl, sl_gp4 (n := 81) 14 (by decide +kernel), by decide +kernel⟩
theorem lX12_305 : sl_LV RX12 305 YX12_readAll 0 := ⟨mi_X12_readAll, sl_gt16 209 (by decide +kernel) rfl, sl_gt16 211 (by decide +kernel) rfl, sl_gp4 (n := 81) 15 (by decide +kernel), by decide +kernel⟩
theorem lX12_220 : sl_LV RX12 220 YX12_next 0 := ⟨mi_X12_next, sl_gt16 213 (by decide +kernel) rfl, sl_gt16 215 (by decide +kernel) rfl, sl_gp5 (n := 81) 0 (by decide +kernel), by decide +kernel⟩
theorem lX12_171 : sl_LV RX12 171 YX12_byteAt 1 := ⟨mi_X12_byteAt, sl_gt16 217 (by decide +kernel) rfl, sl_gt16 219 (by decide +kernel) rfl, sl_gp5 (n := 81) 1 (by decide +kernel), by decide +kernel⟩
theorem lX12_180 : sl_LS RX12 180 YX12_in 3 := ⟨mi_X12_in, sl_gt16 221 (by decide +kernel) rfl, sl_gt16 222 (by decide +kernel) rfl, by decide +kernel⟩
theorem lX12_184 : sl_LV RX12 184 YX12_nextWord 0 := ⟨mi_X12_nextWord, sl_gt16 224 (by decide +kernel) rfl, sl_gt16 226 (by decide +kernel) rfl, sl_gp5 (n := 81) 2 (by decide +kernel), by decide +kernel⟩
theorem lX12_187 : sl_LS RX12 187 YX12_isSign 1 := ⟨mi_X12_isSign, sl_gt16 228 (by decide +kernel) rfl, sl_gt16 229 (by decide +kernel) rfl, by decide +kernel⟩
theorem lX12_245 : sl_LV RX12 245 YX12_readLine 0 := ⟨mi_X12_readLine, sl_gt16 231 (by decide +kernel) rfl, sl_gt16 233 (by decide +kernel) rfl, sl_gp5 (n := 81) 3 (by decide +kernel), by decide +kernel⟩
theorem lX12_212 : sl_LV RX12 212 YX12_isHere 1 := ⟨mi_X12_isHere, sl_gt16 236 (by decide +kernel) rfl, sl_gt16 238 (by decide +kernel) rfl, sl_gp5 (n := 81) 4 (by decide +kernel), by decide +kernel⟩
theorem lX12_208 : sl_LS RX12 208 YX12_isWord 2 := ⟨mi_X12_isWord, sl_gt17 0 (by decide +kernel) rfl, sl_gt17 1 (by decide +kernel) rfl, by decide +kernel⟩
theorem lX12_198 : sl_LV RX12 198 YJ0_length_8abf5 0 := ⟨mi_J0_length_8abf5, sl_gt17 3 (by decide +kernel) rfl, sl_gt12 42 (by decide +kernel) rfl, sl_gt12 43 (by decide +kernel) rfl, by decide +kernel⟩
theorem lX12_204 : sl_LV RX12 204 YJ0_charAt_5068e 1 := ⟨mi_J0_charAt_5068e, sl_gt17 4 (by decide +kernel) rfl, sl_gt12 132 (by decide +kernel) rfl, sl_gt12 133 (by decide +kernel) rfl, by decide +kernel⟩
theorem lX12_252 : sl_LV RX12 252 YX12_readDesk 0 := ⟨mi_X12_readDesk, sl_gt17 5 (by decide +kernel) rfl, sl_gt17 7 (by decide +kernel) rfl, sl_gp5 (n := 81) 5 (by decide +kernel), by decide +kernel⟩
theorem lX12_216 : sl_LV RX12 216 YX12_flaw 1 := ⟨mi_X12_flaw, sl_gt17 9 (by decide +kernel) rfl, sl_gt17 11 (by decide +kernel) rfl, sl_gp5 (n := 81) 6 (by decide +kernel), by decide +kernel⟩
theorem lX12_255 : sl_LV RX12 255 YX12_readRule 0 := ⟨mi_X12_readRule, sl_gt17 17 (by decide +kernel) rfl, sl_gt17 19 (by decide +kernel) rfl, sl_gp5 (n := 81) 7 (by decide +kernel), by decide +kernel⟩
theorem lX12_264 : sl_LV RX12 264 YX12_isName 0 := ⟨mi_X12_isName, sl_gt17 21 (by decide +kernel) rfl, sl_gt17 23 (by decide +kernel) rfl, sl_gp5 (n := 81) 8 (by decide +kernel), by decide +kernel⟩
theorem lX12_267 : sl_LV RX12 267 YX12_nameHere 0 := ⟨mi_X12_nameHere, sl_gt17 28 (by decide +kernel) rfl, sl_gt17 30 (by decide +kernel) rfl, sl_gp5 (n := 81) 9 (by decide +kernel), by decide +kernel⟩
theorem lX12_270 : sl_LV RX12 270 YX12_needs 1 := ⟨mi_X12_needs, sl_gt17 32 (by decide +kernel) rfl, sl_gt17 34 (by decide +kernel) rfl, sl_gp5 (n := 81) 10 (by decide +kernel), by decide +kernel⟩
theorem lX12_274 : sl_LV RX12 274 YX12_readItem 1 := ⟨mi_X12_readItem, sl_gt17 36 (by decide +kernel) rfl, sl_gt17 38 (by decide +kernel) rfl, sl_gp5 (n := 81) 11 (by decide +kernel), by decide +kernel⟩
theorem lX12_284 : sl_LV RX12 284 YX12_itemOf 1 := ⟨mi_X12_itemOf, sl_gt17 40 (by decide +kernel) rfl, sl_gt17 42 (by decide +kernel) rfl, sl_gp5 (n := 81) 12 (by decide +kernel), by decide +kernel⟩
theorem lX12_287 : sl_LV RX12 287 YX12_signHere 1 := ⟨mi_X12_signHere, sl_gt17 44 (by decide +kernel) rfl, sl_gt17 46 (by decide +kernel) rfl, sl_gp5 (n := 81) 13 (by decide +kernel), by decide +kernel⟩
theorem lX12_277 : sl_LV RX12 277 YX12_deedHere 0 := ⟨mi_X12_deedHere, sl_gt17 48 (by decide +kernel) rfl, sl_gt17 50 (by decide +kernel) rfl, sl_gp5 (n := 81) 14 (by decide +kernel), by decide +kernel⟩
theorem lX12_280 : sl_LV RX12 280 YX12_goesWith 2 := ⟨mi_X12_goesWith, sl_gt17 58 (by decide +kernel) rfl, sl_gt17 60 (by decide +kernel) rfl, sl_gp5 (n := 81) 15 (by decide +kernel), by decide +kernel⟩
theorem lX12_248 : sl_LV RX12 248 YX12_areHeads 0 := ⟨mi_X12_areHeads, sl_gt17 62 (by decide +kernel) rfl, sl_gt17 64 (by decide +kernel) rfl, sl_gp6 (n := 81) 0 (by decide +kernel), by decide +kernel⟩
theorem lX12_308 : sl_LV RX12 308 YX12_takesOver 0 := ⟨mi_X12_takesOver, sl_gt17 66 (by decide +kernel) rfl, sl_gt17 68 (by decide +kernel) rfl, sl_gp6 (n := 81) 1 (by decide +kernel), by decide +kernel⟩
theorem lX12_339 : sl_LV RX12 339 YX12_lays 0 := ⟨mi_X12_lays, sl_gt17 70 (by decide +kernel) rfl, sl_gt17 72 (by decide +kernel) rfl, sl_gp6 (n := 81) 2 (by decide +kernel), by decide +kernel⟩
theorem lX12_348 : sl_LV RX12 348 YX12_serves 1 := ⟨mi_X12_serves, sl_gt17 74 (by decide +kernel) rfl, sl_gt17 76 (by decide +kernel) rfl, sl_gp6 (n := 81) 3 (by decide +kernel), by decide +kernel⟩
theorem lX12_342 : sl_LS RX12 342 YX12_has 2 := ⟨mi_X12_has, sl_gt17 78 (by decide +kernel) rfl, sl_gt17 79 (by decide +kernel) rfl, by decide +kernel⟩
theorem lX12_357 : sl_LV RX12 357 YX12_laysEdge 4 := ⟨mi_X12_laysEdge, sl_gt17 81 (by decide +kernel) rfl, sl_gt17 83 (by decide +kernel) rfl, sl_gp6 (n := 81) 4 (by decide +kernel), by decide +kernel⟩
theorem lX12_351 : sl_LV RX12 351 YX12_at 2 := ⟨mi_X12_at, sl_gt17 85 (by decide +kernel) rfl, sl_gt17 87 (by decide +kernel) rfl, sl_gp6 (n := 81) 5 (by decide +kernel), by decide +kernel⟩
theorem lX12_361 : sl_LV RX12 361 YX12_laysRelations 1 := ⟨mi_X12_laysRelations, sl_gt17 89 (by decide +kernel) rfl, sl_gt17 91 (by decide +kernel) rfl, sl_gp6 (n := 81) 6 (by decide +kernel), by decide +kernel⟩
theorem lX12_364 : sl_LV RX12 364 YX12_relates 3 := ⟨mi_X12_relates, sl_gt17 93 (by decide +kernel) rfl, sl_gt17 95 (by decide +kernel) rfl, sl_gp6 (n := 81) 7 (by decide +kernel), by decide +kernel⟩
theorem lX12_368 : sl_LV RX12 368 YX12_laysPoints 0 := ⟨mi_X12_laysPoints, sl_gt17 97 (by decide +kernel) rfl, sl_gt17 99 (by decide +kernel) rfl, sl_gp6 (n := 81) 8 (by decide +kernel), by decide +kernel⟩
theorem lX12_371 : sl_LV RX12 371 YX12_relationOf 2 := ⟨mi_X12_relationOf, sl_gt17 101 (by decide +kernel) rfl, sl_gt17 103 (by decide +kernel) rfl, sl_gp6 (n := 81) 9 (by decide +kernel), by decide +kernel⟩
theorem lX12_389 : sl_LV RX12 389 YX12_joins 2 := ⟨mi_X12_joins, sl_gt17 105 (by decide +kernel) rfl, sl_gt17 107 (by decide +kernel) rfl, sl_gp6 (n := 81) 10 (by decide +kernel), by decide +kernel⟩
theorem lX12_393 : sl_LV RX12 393 YX12_laysRing 0 := ⟨mi_X12_laysRing, sl_gt17 109 (by decide +kernel) rfl, sl_gt17 111 (by decide +kernel) rfl, sl_gp6 (n := 81) 11 (by decide +kernel), by decide +kernel⟩
theorem lX12_402 : sl_LV RX12 402 YX12_laysBack 1 := ⟨mi_X12_laysBack, sl_gt17 113 (by decide +kernel) rfl, sl_gt17 115 (by decide +kernel) rfl, sl_gp6 (n := 81) 12 (by decide +kernel), by decide +kernel⟩
theorem lX12_399 : sl_LV RX12 399 YX12_laysHighs 0 := ⟨mi_X12_laysHighs, sl_gt17 117 (by decide +kernel) rfl, sl_gt17 119 (by decide +kernel) rfl, sl_gp6 (n := 81) 13 (by decide +kernel), by decide +kernel⟩
theorem lX12_314 : sl_LV RX12 314 YX12_good 1 := ⟨mi_X12_good, sl_gt17 121 (by decide +kernel) rfl, sl_gt17 123 (by decide +kernel) rfl, sl_gp6 (n := 81) 14 (by decide +kernel), by decide +kernel⟩
theorem lL_32 : sl_LV RL 32 YX12_fault 0 := ⟨mi_X12_fault, sl_gt17 125 (by decide +kernel) rfl, sl_gt17 126 (by decide +kernel) rfl, sl_gt17 127 (by decide +kernel) rfl, by decide +kernel⟩
theorem lL_36 : sl_LV RL 36 YX12_where 0 := ⟨mi_X12_where, sl_gt17 129 (by decide +kernel) rfl, sl_gt17 130 (by decide +kernel) rfl, sl_gt17 131 (by decide +kernel) rfl, by decide +kernel⟩
theorem lL_40 : sl_LV RL 40 YX12_about 1 := ⟨mi_X12_about, sl_gt17 133 (by decide +kernel) rfl, sl_gt17 134 (by decide +kernel) rfl, sl_gt17 135 (by decide +kernel) rfl, by decide +kernel⟩
theorem lL_45 : sl_LV RL 45 YX12_rule 2 := ⟨mi_X12_rule, sl_gt17 137 (by decide +kernel) rfl, sl_gt17 138 (by decide +kernel) rfl, sl_gt17 139 (by decide +kernel) rfl, by decide +kernel⟩
theorem lX12_345 : sl_LV RX12 345 YX12_isRule 1 := ⟨mi_X12_isRule, sl_gt17 141 (by decide +kernel) rfl, sl_gt17 143 (by decide +kernel) rfl, sl_gp6 (n := 81) 15 (by decide +kernel), by decide +kernel⟩
theorem lL_49 : sl_LV RL 49 YX12_item 2 := ⟨mi_X12_item, sl_gt17 145 (by decide +kernel) rfl, sl_gt17 146 (by decide +kernel) rfl, sl_gt17 147 (by decide +kernel) rfl, by decide +kernel⟩
theorem lL_53 : sl_LV RL 53 YX12_sign 1 := ⟨mi_X12_sign, sl_gt17 149 (by decide +kernel) rfl, sl_gt17 150 (by decide +kernel) rfl, sl_gt17 151 (by decide +kernel) rfl, by decide +kernel⟩
theorem lX12_354 : sl_LV RX12 354 YX12_isTerminal 1 := ⟨mi_X12_isTerminal, sl_gt17 153 (by decide +kernel) rfl, sl_gt17 155 (by decide +kernel) rfl, sl_gp7 (n := 81) 0 (by decide +kernel), by decide +kernel⟩
theorem lL_57 : sl_LV RL 57 YX12_edge 2 := ⟨mi_X12_edge, sl_gt17 157 (by decide +kernel) rfl, sl_gt17 158 (by decide +kernel) rfl, sl_gt17 159 (by decide +kernel) rfl, by decide +kernel⟩
theorem lL_61 : sl_LV RL 61 YX12_relation 2 := ⟨mi_X12_relation, sl_gt17 161 (by decide +kernel) rfl, sl_gt17 162 (by decide +kernel) rfl, sl_gt17 163 (by decide +kernel) rfl, by decide +kernel⟩
theorem lL_65 : sl_LV RL 65 YX12_related 1 := ⟨mi_X12_related, sl_gt17 165 (by decide +kernel) rfl, sl_gt17 166 (by decide +kernel) rfl, sl_gt17 167 (by decide +kernel) rfl, by decide +kernel⟩
theorem lL_69 : sl_LV RL 69 YX12_clashes 0 := ⟨mi_X12_clashes, sl_gt17 169 (by decide +kernel) rfl, sl_gt17 170 (by decide +kernel) rfl, sl_gt17 171 (by decide +kernel) rfl, by decide +kernel⟩
theorem lX12_377 : sl_LV RX12 377 YX12_clashMany 0 := ⟨mi_X12_clashMany, sl_gt17 173 (by decide +kernel) rfl, sl_gt17 175 (by decide +kernel) rfl, sl_gp7 (n := 81) 1 (by decide +kernel), by decide +kernel⟩
theorem lX12_374 : sl_LV RX12 374 YX12_isClash 1 := ⟨mi_X12_isClash, sl_gt17 177 (by decide +kernel) rfl, sl_gt17 179 (by decide +kernel) rfl, sl_gp7 (n := 81) 2 (by decide +kernel), by decide +kernel⟩
theorem lL_73 : sl_LV RL 73 YX12_clash 1 := ⟨mi_X12_clash, sl_gt17 181 (by decide +kernel) rfl, sl_gt17 182 (by decide +kernel) rfl, sl_gt17 183 (by decide +kernel) rfl, by decide +kernel⟩
theorem lL_77 : sl_LV RL 77 YX12_doubles 0 := ⟨mi_X12_doubles, sl_gt17 185 (by decide +kernel) rfl, sl_gt17 186 (by decide +kernel) rfl, sl_gt17 187 (by decide +kernel) rfl, by decide +kernel⟩
theorem lX12_380 : sl_LV RX12 380 YX12_hasSkeleton 1 := ⟨mi_X12_hasSkeleton, sl_gt17 189 (by decide +kernel) rfl, sl_gt17 191 (by decide +kernel) rfl, sl_gp7 (n := 81) 3 (by decide +kernel), by decide +kernel⟩
theorem lX12_383 : sl_LV RX12 383 YX12_areAlike 2 := ⟨mi_X12_areAlike, sl_gt17 193 (by decide +kernel) rfl, sl_gt17 195 (by decide +kernel) rfl, sl_gp7 (n := 81) 4 (by decide +kernel), by decide +kernel⟩
theorem lL_81 : sl_LV RL 81 YX12_function 2 := ⟨mi_X12_function, sl_gt17 197 (by decide +kernel) rfl, sl_gt17 198 (by decide +kernel) rfl, sl_gt17 199 (by decide +kernel) rfl, by decide +kernel⟩
theorem lX12_405 : sl_LV RX12 405 YX12_hasNumbers 0 := ⟨mi_X12_hasNumbers, sl_gt17 201 (by decide +kernel) rfl, sl_gt17 203 (by decide +kernel) rfl, sl_gp7 (n := 81) 5 (by decide +kernel), by decide +kernel⟩
theorem lX12_408 : sl_LV RX12 408 YX12_numberOf 1 := ⟨mi_X12_numberOf, sl_gt17 205 (by decide +kernel) rfl, sl_gt17 207 (by decide +kernel) rfl, sl_gp7 (n := 81) 6 (by decide +kernel), by decide +kernel⟩
theorem lL_85 : sl_LV RL 85 YX12_highest 0 := ⟨mi_X12_highest, sl_gt17 209 (by decide +kernel) rfl, sl_gt17 210 (by decide +kernel) rfl, sl_gt17 211 (by decide +kernel) rfl, by decide +kernel⟩
theorem lX12_386 : sl_LV RX12 386 YX12_isPoint 1 := ⟨mi_X12_isPoint, sl_gt17 213 (by decide +kernel) rfl, sl_gt17 215 (by decide +kernel) rfl, sl_gp7 (n := 81) 7 (by decide +kernel), by decide +kernel⟩
theorem lL_89 : sl_LV RL 89 YX12_hidden 1 := ⟨mi_X12_hidden, sl_gt17 217 (by decide +kernel) rfl, sl_gt17 218 (by decide +kernel) rfl, sl_gt17 219 (by decide +kernel) rfl, by decide +kernel⟩
theorem lX12_411 : sl_LV RX12 411 YX12_isHidden 3 := ⟨mi_X12_isHidden, sl_gt17 221 (by decide +kernel) rfl, sl_gt17 223 (by decide +kernel) rfl, sl_gp7 (n := 81) 8 (by decide +kernel), by decide +kernel⟩
theorem lL_93 : sl_LV RL 93 YX12_knotted 0 := ⟨mi_X12_knotted, sl_gt17 225 (by decide +kernel) rfl, sl_gt17 226 (by decide +kernel) rfl, sl_gt17 227 (by decide +kernel) rfl, by decide +kernel⟩
theorem lX12_414 : sl_LV RX12 414 YX12_isKnot 1 := ⟨mi_X12_isKnot, sl_gt17 229 (by decide +kernel) rfl, sl_gt17 231 (by decide +kernel) rfl, sl_gp7 (n := 81) 9 (by decide +kernel), by decide +kernel⟩
theorem lL_97 : sl_LV RL 97 YX12_ring 0 := ⟨mi_X12_ring, sl_gt17 233 (by decide +kernel) rfl, sl_gt17 234 (by decide +kernel) rfl, sl_gt17 235 (by decide +kernel) rfl, by decide +kernel⟩
theorem lL_101 : sl_LV RL 101 YX12_ringAt 1 := ⟨mi_X12_ringAt, sl_gt17 237 (by decide +kernel) rfl, sl_gt17 238 (by decide +kernel) rfl, sl_gt17 239 (by decide +kernel) rfl, by decide +kernel⟩
theorem lL_105 : sl_LV RL 105 YX12_formula 2 := ⟨mi_X12_formula, sl_gt18 1 (by decide +kernel) rfl, sl_gt18 2 (by decide +kernel) rfl, sl_gt18 3 (by decide +kernel) rfl, by decide +kernel⟩
theorem lX12_515 : sl_LV RX12 515 YX12_canRead 1 := ⟨mi_X12_canRead, sl_gt18 5 (by decide +kernel) rfl, sl_gt18 7 (by decide +kernel) rfl, sl_gp7 (n := 81) 10 (by decide +kernel), by decide +kernel⟩
theorem lX12_518 : sl_LV RX12 518 YX12_scans 0 := ⟨mi_X12_scans, sl_gt18 9 (by decide +kernel) rfl, sl_gt18 11 (by decide +kernel) rfl, sl_gp7 (n := 81) 11 (by decide +kernel), by decide +kernel⟩
theorem lX12_420 : sl_LV RX12 420 YX12_isDigit 1 := ⟨mi_X12_isDigit, sl_gt18 13 (by decide +kernel) rfl, sl_gt18 15 (by decide +kernel) rfl, sl_gp7 (n := 81) 12 (by decide +kernel), by decide +kernel⟩
theorem lX12_423 : sl_LV RX12 423 YX12_scansNumber 1 := ⟨mi_X12_scansNumber, sl_gt18 17 (by decide +kernel) rfl, sl_gt18 19 (by decide +kernel) rfl, sl_gp7 (n := 81) 13 (by decide +kernel), by decide +kernel⟩
theorem lX12_432 : sl_LS RX12 432 YJxf58ca_floatToIntBits_5c35a 1 := ⟨mi_Jxf58ca_floatToIntBits_5c35a, sl_gt18 24 (by decide +kernel) rfl, sl_gt18 25 (by decide +kernel) rfl, by decide +kernel⟩
theorem lJxf58ca_59 : sl_LS RJxf58ca 59 YJxf58ca_isNaN_12338 1 := ⟨mi_Jxf58ca_isNaN_12338, sl_gt18 27 (by decide +kernel) rfl, sl_gt18 28 (by decide +kernel) rfl, by decide +kernel⟩
theorem lX12_426 : sl_LV RX12 426 YX12_terminalOf 1 := ⟨mi_X12_terminalOf, sl_gt18 34 (by decide +kernel) rfl, sl_gt18 36 (by decide +kernel) rfl, sl_gp7 (n := 81) 14 (by decide +kernel), by decide +kernel⟩
theorem lX12_524 : sl_LV RX12 524 YX12_readsBy 1 := ⟨mi_X12_readsBy, sl_gt18 38 (by decide +kernel) rfl, sl_gt18 40 (by decide +kernel) rfl, sl_gp7 (n := 81) 15 (by decide +kernel), by decide +kernel⟩
theorem lX12_512 : sl_LV RX12 512 YX12_reads 1 := ⟨mi_X12_reads, sl_gt18 42 (by decide +kernel) rfl, sl_gt18 44 (by decide +kernel) rfl, sl_gp8 (n := 81) 0 (by decide +kernel), by decide +kernel⟩
theorem lX12_456 : sl_LV RX12 456 YX12_relates_ 3 := ⟨mi_X12_relates_, sl_gt18 46 (by decide +kernel) rfl, sl_gt18 48 (by decide +kernel) rfl, sl_gp8 (n := 81) 1 (by decide +kernel), by decide +kernel⟩
theorem lX12_459 : sl_LV RX12 459 YX12_stacks 1 := ⟨mi_X12_stacks, sl_gt18 50 (by decide +kernel) rfl, sl_gt18 52 (by decide +kernel) rfl, sl_gp8 (n := 81) 2 (by decide +kernel), by decide +kernel⟩
theorem lX12_462 : sl_LV RX12 462 YX12_reduces 1 := ⟨mi_X12_reduces, sl_gt18 54 (by decide +kernel) rfl, sl_gt18 56 (by decide +kernel) rfl, sl_gp8 (n := 81) 3 (by decide +kernel), by decide +kernel⟩
theorem lX12_472 : sl_LV RX12 472 YX12_takesValue 1 := ⟨mi_X12_takesValue, sl_gt18 58 (by decide +kernel) rfl, sl_gt18 60 (by decide +kernel) rfl, sl_gp8 (n := 81) 4 (by decide +kernel), by decide +kernel⟩
theorem lX12_475 : sl_LV RX12 475 YX12_ruleOf 0 := ⟨mi_X12_ruleOf, sl_gt18 62 (by decide +kernel) rfl, sl_gt18 64 (by decide +kernel) rfl, sl_gp8 (n := 81) 5 (by decide +kernel), by decide +kernel⟩
theorem lX12_478 : sl_LV RX12 478 YX12_does 2 := ⟨mi_X12_does, sl_gt18 66 (by decide +kernel) rfl, sl_gt18 68 (by decide +kernel) rfl, sl_gp8 (n := 81) 6 (by decide +kernel), by decide +kernel⟩
theorem lX12_493 : sl_LV RX12 493 YX12_real 1 := ⟨mi_X12_real, sl_gt18 70 (by decide +kernel) rfl, sl_gt18 72 (by decide +kernel) rfl, sl_gp8 (n := 81) 7 (by decide +kernel), by decide +kernel⟩
theorem lX12_495 : sl_LV RX12 495 YX12_makesReal 1 := ⟨mi_X12_makesReal, sl_gt18 77 (by decide +kernel) rfl, sl_gt18 79 (by decide +kernel) rfl, sl_gp8 (n := 81) 8 (by decide +kernel), by decide +kernel⟩
theorem lX12_499 : sl_LV RX12 499 YX12_makes 1 := ⟨mi_X12_makes, sl_gt18 81 (by decide +kernel) rfl, sl_gt18 83 (by decide +kernel) rfl, sl_gp8 (n := 81) 9 (by decide +kernel), by decide +kernel⟩
theorem lX12_502 : sl_LV RX12 502 YX12_doesReals 3 := ⟨mi_X12_doesReals, sl_gt18 85 (by decide +kernel) rfl, sl_gt18 87 (by decide +kernel) rfl, sl_gp8 (n := 81) 10 (by decide +kernel), by decide +kernel⟩
theorem lX12_506 : sl_LV RX12 506 YX12_doesWholes 3 := ⟨mi_X12_doesWholes, sl_gt18 89 (by decide +kernel) rfl, sl_gt18 91 (by decide +kernel) rfl, sl_gp8 (n := 81) 11 (by decide +kernel), by decide +kernel⟩
theorem lX12_486 : sl_LV RX12 486 YX12_laysNode 1 := ⟨mi_X12_laysNode, sl_gt18 93 (by decide +kernel) rfl, sl_gt18 95 (by decide +kernel) rfl, sl_gp8 (n := 81) 12 (by decide +kernel), by decide +kernel⟩
theorem lX12_527 : sl_LV RX12 527 YX12_told 0 := ⟨mi_X12_told, sl_gt18 97 (by decide +kernel) rfl, sl_gt18 99 (by decide +kernel) rfl, sl_gp8 (n := 81) 13 (by decide +kernel), by decide +kernel⟩
theorem lL_109 : sl_LV RL 109 YX12_read 1 := ⟨mi_X12_read, sl_gt18 101 (by decide +kernel) rfl, sl_gt18 102 (by decide +kernel) rfl, sl_gt18 103 (by decide +kernel) rfl, by decide +kernel⟩
theorem lX12_530 : sl_LV RX12 530 YX12_isAsked 2 := ⟨mi_X12_isAsked, sl_gt18 105 (by decide +kernel) rfl, sl_gt18 107 (by decide +kernel) rfl, sl_gp8 (n := 81) 14 (by decide +kernel), by decide +kernel⟩
theorem lL_113 : sl_LV RL 113 YX12_reduced 1 := ⟨mi_X12_reduced, sl_gt18 109 (by decide +kernel) rfl, sl_gt18 110 (by decide +kernel) rfl, sl_gt18 111 (by decide +kernel) rfl, by decide +kernel⟩
theorem lL_117 : sl_LV RL 117 YX12_node 2 := ⟨mi_X12_node, sl_gt18 113 (by decide +kernel) rfl, sl_gt18 114 (by decide +kernel) rfl, sl_gt18 115 (by decide +kernel) rfl, by decide +kernel⟩
theorem lX12_533 : sl_LV RX12 533 YX12_isNode 1 := ⟨mi_X12_isNode, sl_gt18 117 (by decide +kernel) rfl, sl_gt18 119 (by decide +kernel) rfl, sl_gp8 (n := 81) 15 (by decide +kernel), by decide +kernel⟩
theorem lX12_536 : sl_LV RX12 536 YX12_refusedLow 1 := ⟨mi_X12_refusedLow, sl_gt18 121 (by decide +kernel) rfl, sl_gt18 123 (by decide +kernel) rfl, sl_gp9 (n := 81) 0 (by decide +kernel), by decide +kernel⟩
theorem lL_121 : sl_LV RL 121 YX12_under 2 := ⟨mi_X12_under, sl_gt18 126 (by decide +kernel) rfl, sl_gt18 127 (by decide +kernel) rfl, sl_gt18 128 (by decide +kernel) rfl, by decide +kernel⟩
theorem lX12_539 : sl_LV RX12 539 YX12_countUnder 1 := ⟨mi_X12_countUnder, sl_gt18 130 (by decide +kernel) rfl, sl_gt18 132 (by decide +kernel) rfl, sl_gp9 (n := 81) 1 (by decide +kernel), by decide +kernel⟩
theorem lL_125 : sl_LV RL 125 YX12_value 1 := ⟨mi_X12_value, sl_gt18 134 (by decide +kernel) rfl, sl_gt18 135 (by decide +kernel) rfl, sl_gt18 136 (by decide +kernel) rfl, by decide +kernel⟩
theorem lX12_542 : sl_LV RX12 542 YX12_hasIt 0 := ⟨mi_X12_hasIt, sl_gt18 138 (by decide +kernel) rfl, sl_gt18 140 (by decide +kernel) rfl, sl_gp9 (n := 81) 2 (by decide +kernel), by decide +kernel⟩
theorem lL_130 : sl_LV RL 130 YX12_third 0 := ⟨mi_X12_third, sl_gt18 142 (by decide +kernel) rfl, sl_gt18 143 (by decide +kernel) rfl, sl_gt18 144 (by decide +kernel) rfl, by decide +kernel⟩
theorem lX12_551 : sl_LS RX12 551 YJxe99ae_doubleToLongBits_ccdee 1 := ⟨mi_Jxe99ae_doubleToLongBits_ccdee, sl_gt18 148 (by decide +kernel) rfl, sl_gt18 149 (by decide +kernel) rfl, by decide +kernel⟩
theorem lJxe99ae_122 : sl_LS RJxe99ae 122 YJxe99ae_isNaN_b9ae7 1 := ⟨mi_Jxe99ae_isNaN_b9ae7, sl_gt18 151 (by decide +kernel) rfl, sl_gt18 152 (by decide +kernel) rfl, by decide +kernel⟩
theorem lL_134 : sl_LV RL 134 YX12_otherwise 0 := ⟨mi_X12_otherwise, sl_gt18 158 (by decide +kernel) rfl, sl_gt18 159 (by decide +kernel) rfl, sl_gt18 160 (by decide +kernel) rfl, by decide +kernel⟩
theorem lL_138 : sl_LV RL 138 YX12_later 0 := ⟨mi_X12_later, sl_gt18 162 (by decide +kernel) rfl, sl_gt18 163 (by decide +kernel) rfl, sl_gt18 164 (by decide +kernel) rfl, by decide +kernel⟩
theorem lL_142 : sl_LV RL 142 YX12_aside 2 := ⟨mi_X12_aside, sl_gt18 166 (by decide +kernel) rfl, sl_gt18 167 (by decide +kernel) rfl, sl_gt18 168 (by decide +kernel) rfl, by decide +kernel⟩
theorem lX12_557 : sl_LV RX12 557 YX12_remembers 0 := ⟨mi_X12_remembers, sl_gt18 170 (by decide +kernel) rfl, sl_gt18 172 (by decide +kernel) rfl, sl_gp9 (n := 81) 3 (by decide +kernel), by decide +kernel⟩
theorem lX12_560 : sl_LV RX12 560 YX12_asideMany 0 := ⟨mi_X12_asideMany, sl_gt18 174 (by decide +kernel) rfl, sl_gt18 176 (by decide +kernel) rfl, sl_gp9 (n := 81) 4 (by decide +kernel), by decide +kernel⟩
theorem lL_146 : sl_LV RL 146 YX12_kind 1 := ⟨mi_X12_kind, sl_gt18 178 (by decide +kernel) rfl, sl_gt18 179 (by decide +kernel) rfl, sl_gt18 180 (by decide +kernel) rfl, by decide +kernel⟩
theorem lL_151 : sl_LV RL 151 YX12_undo 0 := ⟨mi_X12_undo, sl_gt18 182 (by decide +kernel) rfl, sl_gt18 183 (by decide +kernel) rfl, sl_gt18 184 (by decide +kernel) rfl, by decide +kernel⟩
theorem lL_157 : sl_LV RL 157 YX12_barren 1 := ⟨mi_X12_barren, sl_gt18 186 (by decide +kernel) rfl, sl_gt18 187 (by decide +kernel) rfl, sl_gt18 188 (by decide +kernel) rfl, by decide +kernel⟩
theorem lX12_563 : sl_LV RX12 563 YX12_isBarren 1 := ⟨mi_X12_isBarren, sl_gt18 190 (by decide +kernel) rfl, sl_gt18 192 (by decide +kernel) rfl, sl_gp9 (n := 81) 5 (by decide +kernel), by decide +kernel⟩
theorem lL_164 : sl_LV RL 164 YX12_size 1 := ⟨mi_X12_size, sl_gt18 194 (by decide +kernel) rfl, sl_gt18 195 (by decide +kernel) rfl, sl_gt18 196 (by decide +kernel) rfl, by decide +kernel⟩
theorem lL_168 : sl_LV RL 168 YX12_trouble 0 := ⟨mi_X12_trouble, sl_gt18 198 (by decide +kernel) rfl, sl_gt18 199 (by decide +kernel) rfl, sl_gt18 200 (by decide +kernel) rfl, by decide +kernel⟩
theorem kJ2_227 : Cond.constant RJ2 227 65536 ∈ sl_g := sl_gt12 69 (by decide +kernel) rfl
theorem kJ11_110 : Cond.constant RJ11 110 55232 ∈ sl_g := sl_gt12 108 (by decide +kernel) rfl
theorem kJ11_76 : Cond.constant RJ11 76 56320 ∈ sl_g := sl_gt12 112 (by decide +kernel) rfl
theorem kJ6_265 : Cond.constant RJ6 265 1431655765 ∈ sl_g := sl_gt13 184 (by decide +kernel) rfl
theorem kJ6_266 : Cond.constant RJ6 266 858993459 ∈ sl_g := sl_gt13 185 (by decide +kernel) rfl
theorem kJ6_267 : Cond.constant RJ6 267 252645135 ∈ sl_g := sl_gt13 186 (by decide +kernel) rfl
theorem kX8_15 : Cond.constantFloat RX8 15 1092616192 ∈ sl_g := sl_gt14 68 (by decide +kernel) rfl
theorem kX8_16 : Cond.constantFloat RX8 16 1120403456 ∈ sl_g := sl_gt14 69 (by decide +kernel) rfl
theorem kX8_17 : Cond.constantFloat RX8 17 1148846080 ∈ sl_g := sl_gt14 70 (by decide +kernel) rfl
theorem kX8_42 : Cond.constantFloat RX8 42 2139095039 ∈ sl_g := sl_gt14 74 (by decide +kernel) rfl
theorem kX8_14 : Cond.constant RX8 14 2139095040 ∈ sl_g := sl_gt14 75 (by decide +kernel) rfl
theorem kX8_43 : Cond.constantDouble RX8 43 4715268809856909312 ∈ sl_g := sl_gt14 76 (by decide +kernel) rfl
theorem kX8_40 : Cond.constantDouble RX8 40 4611686018427387904 ∈ sl_g := sl_gt14 77 (by decide +kernel) rfl
theorem kX8_45 : Cond.constantDouble RX8 45 4710765210229538816 ∈ sl_g := sl_gt14 78 (by decide +kernel) rfl
theorem kX8_11 : Cond.constant RX8 11 2147483647 ∈ sl_g := sl_gt14 173 (by decide +kernel) rfl
theorem kX8_34 : Cond.constant RX8 34 2143289344 ∈ sl_g := sl_gt14 174 (by decide +kernel) rfl
theorem kX8_22 : Cond.constant RX8 22 (-2147483648) ∈ sl_g := sl_gt14 175 (by decide +kernel) rfl
theorem kX8_38 : Cond.constant RX8 38 8388607 ∈ sl_g := sl_gt14 186 (by decide +kernel) rfl
theorem kX8_39 : Cond.constant RX8 39 8388608 ∈ sl_g := sl_gt14 187 (by decide +kernel) rfl
theorem kX11_251 : Cond.constant RX11 251 (-2147483648) ∈ sl_g := sl_gt15 15 (by decide +kernel) rfl
theorem kX11_286 : Cond.constantLong RX11 286 (-9223372036854775808) ∈ sl_g := sl_gt15 41 (by decide +kernel) rfl
theorem kX8_55 : Cond.constantLong RX8 55 9221120237041090560 ∈ sl_g := sl_gt15 45 (by decide +kernel) rfl
theorem kX8_53 : Cond.constantLong RX8 53 (-9223372036854775808) ∈ sl_g := sl_gt15 46 (by decide +kernel) rfl
theorem kX8_57 : Cond.constantLong RX8 57 9218868437227405312 ∈ sl_g := sl_gt15 47 (by decide +kernel) rfl
theorem kX8_47 : Cond.constantDouble RX8 47 4613937818241073152 ∈ sl_g := sl_gt15 48 (by decide +kernel) rfl
theorem kX8_59 : Cond.constantLong RX8 59 1075 ∈ sl_g := sl_gt15 52 (by decide +kernel) rfl
theorem kX8_61 : Cond.constantDouble RX8 61 4845873199050653696 ∈ sl_g := sl_gt15 53 (by decide +kernel) rfl
theorem kX8_63 : Cond.constantDouble RX8 63 4841369599423283200 ∈ sl_g := sl_gt15 54 (by decide +kernel) rfl
theorem kX12_429 : Cond.constantFloat RX12 429 1092616192 ∈ sl_g := sl_gt18 21 (by decide +kernel) rfl
theorem kX12_430 : Cond.constantFloat RX12 430 1120403456 ∈ sl_g := sl_gt18 22 (by decide +kernel) rfl
theorem kX12_431 : Cond.constantFloat RX12 431 1148846080 ∈ sl_g := sl_gt18 23 (by decide +kernel) rfl
theorem kJxf58ca_77 : Cond.constant RJxf58ca 77 2143289344 ∈ sl_g := sl_gt18 33 (by decide +kernel) rfl
theorem kX12_161 : Cond.constant RX12 161 (-2147483648) ∈ sl_g := sl_gt18 125 (by decide +kernel) rfl
theorem kX12_547 : Cond.constantLong RX12 547 (-9223372036854775808) ∈ sl_g := sl_gt18 146 (by decide +kernel) rfl
theorem kX12_549 : Cond.constantDouble RX12 549 4613937818241073152 ∈ sl_g := sl_gt18 147 (by decide +kernel) rfl
theorem kJxe99ae_137 : Cond.constantLong RJxe99ae 137 9221120237041090560 ∈ sl_g := sl_gt18 157 (by decide +kernel) rfl
theorem nL_8 : sl_LC RL 8 10 16 [.null, .int 0, .null, .null, .int 0, .null, .null, .null, .null, .null, .null, .null, .int 0, .int 0, .int 0, .int 0] := ⟨RX11, TX11, tyX11, cl_X11, sl_gt10 29 (by decide +kernel) rfl, sl_gt10 30 (by decide +kernel) rfl, sl_gt10 1 (by decide +kernel) rfl, by decide +kernel, by simp⟩
theorem nX11_13 : sl_LC RX11 13 2 11 [.int 0, .int 0, .int 0, .int 0, .null, .null, .null, .null, .null, .null, .null] := ⟨RX2, TX2, tyX2, cl_X2, sl_gt10 37 (by decide +kernel) rfl, sl_gt10 38 (by decide +kernel) rfl, sl_gt10 2 (by decide +kernel) rfl, by decide +kernel, by simp⟩
theorem nX11_23 : sl_LC RX11 23 3 13 [.int 0, .int 0, .null, .int 0, .int 0, .null, .int 0, .int 0, .int 0, .int 0, .int 0, .int 0, .int 0] := ⟨RX3, TX3, tyX3, cl_X3, sl_gt10 113 (by decide +kernel) rfl, sl_gt10 114 (by decide +kernel) rfl, sl_gt10 3 (by decide +kernel) rfl, by decide +kernel, by simp⟩
theorem nX11_30 : sl_LC RX11 30 9 4 [.null, .null, .int 0, .null] := ⟨RX10, TX10, tyX10, cl_X10, sl_gt10 161 (by decide +kernel) rfl, sl_gt10 162 (by decide +kernel) rfl, sl_gt10 4 (by decide +kernel) rfl, by decide +kernel, by simp⟩
theorem nX11_37 : sl_LC RX11 37 5 8 [.int 0, .null, .int 0, .null, .null, .null, .null, .null] := ⟨RX5, TX5, tyX5, cl_X5, sl_gt10 183 (by decide +kernel) rfl, sl_gt10 184 (by decide +kernel) rfl, sl_gt10 5 (by decide +kernel) rfl, by decide +kernel, by simp⟩
theorem nX11_44 : sl_LC RX11 44 0 3 [.int 0, .null, .null] := ⟨RX0, TX0, tyX0, cl_X0, sl_gt10 216 (by decide +kernel) rfl, sl_gt10 217 (by decide +kernel) rfl, sl_gt10 6 (by decide +kernel) rfl, by decide +kernel, by simp⟩
theorem nX11_51 : sl_LC RX11 51 1 9 [.int 0, .int 0, .null, .null, .null, .null, .null, .int 0, .int 0] := ⟨RX1, TX1, tyX1, cl_X1, sl_gt10 233 (by decide +kernel) rfl, sl_gt10 234 (by decide +kernel) rfl, sl_gt10 7 (by decide +kernel) rfl, by decide +kernel, by simp⟩
theorem nX11_58 : sl_LC RX11 58 7 18 [.int 0, .int 0, .int 0, .int 0, .int 0, .null, .null, .null, .null, .null, .int 0, .int 0, .int 0, .null, .null, .null, .null, .null] := ⟨RX7, TX7, tyX7, cl_X7, sl_gt11 33 (by decide +kernel) rfl, sl_gt11 34 (by decide +kernel) rfl, sl_gt10 8 (by decide +kernel) rfl, by decide +kernel, by simp⟩
theorem nX7_9 : sl_LC RX7 9 6 8 [.int 0, .null, .null, .null, .null, .null, .null, .null] := ⟨RX6, TX6, tyX6, cl_X6, sl_gt11 39 (by decide +kernel) rfl, sl_gt11 40 (by decide +kernel) rfl, sl_gt10 9 (by decide +kernel) rfl, by decide +kernel, by simp⟩
theorem nX7_28 : sl_LC RX7 28 4 4 [.int 0, .int 0, .int 0, .null] := ⟨RX4, TX4, tyX4, cl_X4, sl_gt11 81 (by decide +kernel) rfl, sl_gt11 82 (by decide +kernel) rfl, sl_gt10 10 (by decide +kernel) rfl, by decide +kernel, by simp⟩
theorem nX7_35 : sl_LC RX7 35 8 2 [.int 0, .int 0] := ⟨RX9, TX9, tyX9, cl_X9, sl_gt11 102 (by decide +kernel) rfl, sl_gt11 103 (by decide +kernel) rfl, sl_gt10 11 (by decide +kernel) rfl, by decide +kernel, by simp⟩
theorem nL_16 : sl_LC RL 16 11 81 [.int 0, .int 0, .int 0, .null, .null, .null, .null, .null, .null, .null, .null, .null, .null, .null, .int 0, .int 0, .int 0, .int 0, .int 0, .int 0, .int 0, .int 0, .int 0, .int 0, .null, .null, .int 0, .null, .int 0, .int 0, .int 0, .int 0, .int 0, .int 0, .int 0, .long 0, .null, .null, .null, .null, .null, .null, .null, .null, .int 0, .null, .null, .null, .null, .null, .int 0, .int 0, .int 0, .int 0, .null, .null, .null, .null, .null, .null, .null, .int 0, .int 0, .int 0, .int 0, .int 0, .int 0, .null, .null, .null, .null, .null, .null, .null, .null, .null, .null, .int 0, .int 0, .int 0, .int 0] := ⟨RX12, TX12, tyX12, cl_X12, sl_gt15 182 (by decide +kernel) rfl, sl_gt15 183 (by decide +kernel) rfl, sl_gt10 12 (by decide +kernel) rfl, by decide +kernel, by simp⟩
theorem ac_int : Cond.arrayClass .int ∈ sl_g := sl_gt10 111 (by decide +kernel) rfl
theorem ac_byte : Cond.arrayClass .byte ∈ sl_g := sl_gt10 110 (by decide +kernel) rfl
theorem ac_boolean : Cond.arrayClass .boolean ∈ sl_g := sl_gt10 112 (by decide +kernel) rfl
theorem ac_long : Cond.arrayClass .long ∈ sl_g := sl_gt16 192 (by decide +kernel) rfl
theorem oi_X11 : Cond.methodLink RX11 1 Lib.objectInit ∈ sl_g := sl_gt10 34 (by decide +kernel) rfl
theorem oi_X2 : Cond.methodLink RX2 3 Lib.objectInit ∈ sl_g := sl_gt10 42 (by decide +kernel) rfl
theorem oi_X3 : Cond.methodLink RX3 3 Lib.objectInit ∈ sl_g := sl_gt10 118 (by decide +kernel) rfl
theorem oi_X10 : Cond.methodLink RX10 3 Lib.objectInit ∈ sl_g := sl_gt10 166 (by decide +kernel) rfl
theorem oi_X5 : Cond.methodLink RX5 5 Lib.objectInit ∈ sl_g := sl_gt10 188 (by decide +kernel) rfl
theorem oi_X0 : Cond.methodLink RX0 3 Lib.objectInit ∈ sl_g := sl_gt10 221 (by decide +kernel) rfl
theorem oi_X1 : Cond.methodLink RX1 3 Lib.objectInit ∈ sl_g := sl_gt10 238 (by decide +kernel) rfl
theorem oi_X7 : Cond.methodLink RX7 3 Lib.objectInit ∈ sl_g := sl_gt11 38 (by decide +kernel) rfl
theorem oi_X6 : Cond.methodLink RX6 3 Lib.objectInit ∈ sl_g := sl_gt11 44 (by decide +kernel) rfl
theorem oi_X4 : Cond.methodLink RX4 3 Lib.objectInit ∈ sl_g := sl_gt11 86 (by decide +kernel) rfl
theorem oi_X9 : Cond.methodLink RX9 3 Lib.objectInit ∈ sl_g := sl_gt11 107 (by decide +kernel) rfl
theorem oi_X12 : Cond.methodLink RX12 3 Lib.objectInit ∈ sl_g := sl_gt15 187 (by decide +kernel) rfl
theorem oi_2 : Cond.instanceMethod Lib.objectInit ∈ sl_g := sl_gt10 35 (by decide +kernel) rfl
theorem oi_3 : Cond.code Lib.objectInit ⟨#[0xb1]⟩ 1 none ∈ sl_g := sl_gt10 36 (by decide +kernel) rfl
