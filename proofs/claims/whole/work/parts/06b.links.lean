theorem zmlp_0_3 : zmlP 0 3 mX3_init 3 0 0 := zmlP3 (zmk1 176 (by decide +kernel))
theorem zmlp_0_31 : zmlP 0 31 mX9_hasPiece 0 9 1 := zmlP0 ⟨zmd_mX9_hasPiece, .inr ⟨"StrangerHall", zmk5 183 (by decide +kernel)⟩, zmk4 183 (by decide +kernel), zsel (n := 9) 52 (by decide +kernel), ⟨8, rfl, RX9, TX9, 9, rfl, rfl⟩, by decide +kernel⟩
theorem zmlp_0_44 : zmlP 0 44 mX0_choose 0 1 4 := zmlP0 ⟨zmd_mX0_choose, .inl (zmk5 184 (by decide +kernel)), zmk5 186 (by decide +kernel), zsel (n := 9) 85 (by decide +kernel), ⟨0, rfl, RX0, TX0, 9, rfl, rfl⟩, by decide +kernel⟩
theorem zmlp_0_52 : zmlP 0 52 mX0_tryHouse 0 1 5 := zmlP0 ⟨zmd_mX0_tryHouse, .inl (zmk5 188 (by decide +kernel)), zmk5 190 (by decide +kernel), zsel (n := 9) 86 (by decide +kernel), ⟨0, rfl, RX0, TX0, 9, rfl, rfl⟩, by decide +kernel⟩
theorem zmlp_0_56 : zmlP 0 56 mX10_isWithin 1 10 3 := zmlP1 ⟨zmd_mX10_isWithin, .inr ⟨"StrangerHall", zmk5 192 (by decide +kernel)⟩, zmk2 213 (by decide +kernel), by decide +kernel⟩
theorem zmlp_0_63 : zmlP 0 63 mX6_hasBid 0 6 1 := zmlP0 ⟨zmd_mX6_hasBid, .inr ⟨"StrangerHall", zmk5 193 (by decide +kernel)⟩, zmk5 141 (by decide +kernel), zsel (n := 14) 81 (by decide +kernel), ⟨5, rfl, RX6, TX6, 14, rfl, rfl⟩, by decide +kernel⟩
theorem zmlp_0_79 : zmlP 0 79 mX6_bidCost 0 6 2 := zmlP0 ⟨zmd_mX6_bidCost, .inr ⟨"StrangerHall", zmk5 194 (by decide +kernel)⟩, zmk5 157 (by decide +kernel), zsel (n := 14) 83 (by decide +kernel), ⟨5, rfl, RX6, TX6, 14, rfl, rfl⟩, by decide +kernel⟩
theorem zmlp_1_3 : zmlP 1 3 mX3_init 3 0 0 := zmlP3 (zmk1 38 (by decide +kernel))
theorem zmlp_1_11 : zmlP 1 11 mX8_init 2 8 0 := zmlP2 ⟨zmd_mX8_init, .inr ⟨"StrangerHall", zmk1 41 (by decide +kernel)⟩, zmk1 42 (by decide +kernel), rfl, rfl, by decide +kernel⟩
theorem zmlp_1_32 : zmlP 1 32 mX8_begin 0 8 1 := zmlP0 ⟨zmd_mX8_begin, .inr ⟨"StrangerHall", zmk3 42 (by decide +kernel)⟩, zmk3 44 (by decide +kernel), zsel (n := 7) 6 (by decide +kernel), ⟨7, rfl, RX8, TX8, 7, rfl, rfl⟩, by decide +kernel⟩
theorem zmlp_1_36 : zmlP 1 36 mX1_statements 0 2 1 := zmlP0 ⟨zmd_mX1_statements, .inl (zmk3 68 (by decide +kernel)), zmk3 70 (by decide +kernel), zsel (n := 6) 10 (by decide +kernel), ⟨1, rfl, RX1, TX1, 6, rfl, rfl⟩, by decide +kernel⟩
theorem zmlp_1_43 : zmlP 1 43 mX1_refuse 0 2 1 := zmlP0 ⟨zmd_mX1_refuse, .inl (zmk3 93 (by decide +kernel)), zmk3 95 (by decide +kernel), zsel (n := 6) 16 (by decide +kernel), ⟨1, rfl, RX1, TX1, 6, rfl, rfl⟩, by decide +kernel⟩
theorem zmlp_1_46 : zmlP 1 46 mX1_emit 0 2 2 := zmlP0 ⟨zmd_mX1_emit, .inl (zmk3 114 (by decide +kernel)), zmk3 116 (by decide +kernel), zsel (n := 6) 21 (by decide +kernel), ⟨1, rfl, RX1, TX1, 6, rfl, rfl⟩, by decide +kernel⟩
theorem zmlp_1_56 : zmlP 1 56 mX8_takesSign 0 8 1 := zmlP0 ⟨zmd_mX8_takesSign, .inr ⟨"StrangerHall", zmk3 85 (by decide +kernel)⟩, zmk3 87 (by decide +kernel), zsel (n := 7) 14 (by decide +kernel), ⟨7, rfl, RX8, TX8, 7, rfl, rfl⟩, by decide +kernel⟩
theorem zmlp_1_59 : zmlP 1 59 mX8_isSign 0 8 1 := zmlP0 ⟨zmd_mX8_isSign, .inr ⟨"StrangerHall", zmk3 183 (by decide +kernel)⟩, zmk3 91 (by decide +kernel), zsel (n := 7) 15 (by decide +kernel), ⟨7, rfl, RX8, TX8, 7, rfl, rfl⟩, by decide +kernel⟩
theorem zmlp_1_62 : zmlP 1 62 mX8_advance 0 8 0 := zmlP0 ⟨zmd_mX8_advance, .inr ⟨"StrangerHall", zmk3 80 (by decide +kernel)⟩, zmk3 51 (by decide +kernel), zsel (n := 7) 7 (by decide +kernel), ⟨7, rfl, RX8, TX8, 7, rfl, rfl⟩, by decide +kernel⟩
theorem zmlp_1_65 : zmlP 1 65 mX1_statement 0 2 1 := zmlP0 ⟨zmd_mX1_statement, .inl (zmk3 72 (by decide +kernel)), zmk3 74 (by decide +kernel), zsel (n := 6) 11 (by decide +kernel), ⟨1, rfl, RX1, TX1, 6, rfl, rfl⟩, by decide +kernel⟩
theorem zmlp_1_68 : zmlP 1 68 mX8_variable 0 8 0 := zmlP0 ⟨zmd_mX8_variable, .inr ⟨"StrangerHall", zmk3 76 (by decide +kernel)⟩, zmk3 78 (by decide +kernel), zsel (n := 7) 12 (by decide +kernel), ⟨7, rfl, RX8, TX8, 7, rfl, rfl⟩, by decide +kernel⟩
theorem zmlp_1_72 : zmlP 1 72 mX1_expect 0 2 1 := zmlP0 ⟨zmd_mX1_expect, .inl (zmk3 81 (by decide +kernel)), zmk3 83 (by decide +kernel), zsel (n := 6) 13 (by decide +kernel), ⟨1, rfl, RX1, TX1, 6, rfl, rfl⟩, by decide +kernel⟩
theorem zmlp_1_75 : zmlP 1 75 mX1_expression 0 2 2 := zmlP0 ⟨zmd_mX1_expression, .inl (zmk3 97 (by decide +kernel)), zmk3 99 (by decide +kernel), zsel (n := 6) 17 (by decide +kernel), ⟨1, rfl, RX1, TX1, 6, rfl, rfl⟩, by decide +kernel⟩
theorem zmlp_1_80 : zmlP 1 80 mX8_takesWord 0 8 1 := zmlP0 ⟨zmd_mX8_takesWord, .inr ⟨"StrangerHall", zmk3 119 (by decide +kernel)⟩, zmk3 121 (by decide +kernel), zsel (n := 7) 22 (by decide +kernel), ⟨7, rfl, RX8, TX8, 7, rfl, rfl⟩, by decide +kernel⟩
theorem zmlp_1_84 : zmlP 1 84 mX1_enclosed 0 2 3 := zmlP0 ⟨zmd_mX1_enclosed, .inl (zmk3 175 (by decide +kernel)), zmk3 177 (by decide +kernel), zsel (n := 6) 24 (by decide +kernel), ⟨1, rfl, RX1, TX1, 6, rfl, rfl⟩, by decide +kernel⟩
theorem zmlp_1_92 : zmlP 1 92 mX1_loop 0 2 1 := zmlP0 ⟨zmd_mX1_loop, .inl (zmk3 193 (by decide +kernel)), zmk3 195 (by decide +kernel), zsel (n := 6) 27 (by decide +kernel), ⟨1, rfl, RX1, TX1, 6, rfl, rfl⟩, by decide +kernel⟩
theorem zmlp_1_97 : zmlP 1 97 mX1_branch 0 2 1 := zmlP0 ⟨zmd_mX1_branch, .inl (zmk3 206 (by decide +kernel)), zmk3 208 (by decide +kernel), zsel (n := 6) 30 (by decide +kernel), ⟨1, rfl, RX1, TX1, 6, rfl, rfl⟩, by decide +kernel⟩
theorem zmlp_1_100 : zmlP 1 100 mX1_block 0 2 1 := zmlP0 ⟨zmd_mX1_block, .inl (zmk3 197 (by decide +kernel)), zmk3 199 (by decide +kernel), zsel (n := 6) 28 (by decide +kernel), ⟨1, rfl, RX1, TX1, 6, rfl, rfl⟩, by decide +kernel⟩
theorem zmlp_1_103 : zmlP 1 103 mX1_aim 0 2 1 := zmlP0 ⟨zmd_mX1_aim, .inl (zmk3 201 (by decide +kernel)), zmk3 203 (by decide +kernel), zsel (n := 6) 29 (by decide +kernel), ⟨1, rfl, RX1, TX1, 6, rfl, rfl⟩, by decide +kernel⟩
theorem zmlp_1_108 : zmlP 1 108 mX1_opens 0 2 2 := zmlP0 ⟨zmd_mX1_opens, .inl (zmk3 179 (by decide +kernel)), zmk3 181 (by decide +kernel), zsel (n := 6) 25 (by decide +kernel), ⟨1, rfl, RX1, TX1, 6, rfl, rfl⟩, by decide +kernel⟩
theorem zmlp_1_111 : zmlP 1 111 mX1_operand 0 2 2 := zmlP0 ⟨zmd_mX1_operand, .inl (zmk3 101 (by decide +kernel)), zmk3 103 (by decide +kernel), zsel (n := 6) 18 (by decide +kernel), ⟨1, rfl, RX1, TX1, 6, rfl, rfl⟩, by decide +kernel⟩
theorem zmlp_1_114 : zmlP 1 114 mX1_signKind 0 2 0 := zmlP0 ⟨zmd_mX1_signKind, .inl (zmk3 184 (by decide +kernel)), zmk3 186 (by decide +kernel), zsel (n := 6) 26 (by decide +kernel), ⟨1, rfl, RX1, TX1, 6, rfl, rfl⟩, by decide +kernel⟩
theorem zmlp_1_117 : zmlP 1 117 mX1_signLevel 1 2 1 := zmlP1 ⟨zmd_mX1_signLevel, .inl (zmk3 188 (by decide +kernel)), zmk3 189 (by decide +kernel), by decide +kernel⟩
theorem zmlp_1_121 : zmlP 1 121 mX1_unit 0 2 1 := zmlP0 ⟨zmd_mX1_unit, .inl (zmk3 105 (by decide +kernel)), zmk3 107 (by decide +kernel), zsel (n := 6) 19 (by decide +kernel), ⟨1, rfl, RX1, TX1, 6, rfl, rfl⟩, by decide +kernel⟩
theorem zmlp_1_124 : zmlP 1 124 mX1_number 0 2 0 := zmlP0 ⟨zmd_mX1_number, .inl (zmk3 109 (by decide +kernel)), zmk3 111 (by decide +kernel), zsel (n := 6) 20 (by decide +kernel), ⟨1, rfl, RX1, TX1, 6, rfl, rfl⟩, by decide +kernel⟩
theorem zmlp_2_3 : zmlP 2 3 mX3_init 3 0 0 := zmlP3 (zmk1 103 (by decide +kernel))
theorem zmlp_2_11 : zmlP 2 11 mX5_init 2 5 0 := zmlP2 ⟨zmd_mX5_init, .inr ⟨"StrangerHall", zmk1 106 (by decide +kernel)⟩, zmk1 107 (by decide +kernel), rfl, rfl, by decide +kernel⟩
theorem zmlp_2_28 : zmlP 2 28 mX3_init 2 4 0 := zmlP2 ⟨zmd_mX3_init, .inr ⟨"StrangerHall", zmk1 130 (by decide +kernel)⟩, zmk1 131 (by decide +kernel), rfl, rfl, by decide +kernel⟩
theorem zmlp_2_29 : zmlP 2 29 mX10_isWithin 1 10 3 := zmlP1 ⟨zmd_mX10_isWithin, .inr ⟨"StrangerHall", zmk5 9 (by decide +kernel)⟩, zmk2 213 (by decide +kernel), by decide +kernel⟩
theorem zmlp_2_40 : zmlP 2 40 mX9_hasPiece 0 9 1 := zmlP0 ⟨zmd_mX9_hasPiece, .inr ⟨"StrangerHall", zmk4 215 (by decide +kernel)⟩, zmk4 183 (by decide +kernel), zsel (n := 9) 52 (by decide +kernel), ⟨8, rfl, RX9, TX9, 9, rfl, rfl⟩, by decide +kernel⟩
theorem zmlp_2_55 : zmlP 2 55 mX5_sumOf 0 5 2 := zmlP0 ⟨zmd_mX5_sumOf, .inr ⟨"StrangerHall", zmk4 216 (by decide +kernel)⟩, zmk4 104 (by decide +kernel), zsel (n := 5) 45 (by decide +kernel), ⟨4, rfl, RX5, TX5, 5, rfl, rfl⟩, by decide +kernel⟩
theorem zmlp_2_69 : zmlP 2 69 mX7_begin 0 7 2 := zmlP0 ⟨zmd_mX7_begin, .inr ⟨"StrangerHall", zmk4 217 (by decide +kernel)⟩, zmk4 219 (by decide +kernel), zsel (n := 11) 57 (by decide +kernel), ⟨6, rfl, RX7, TX7, 11, rfl, rfl⟩, by decide +kernel⟩
theorem zmlp_2_78 : zmlP 2 78 mX7_setStart 0 7 2 := zmlP0 ⟨zmd_mX7_setStart, .inr ⟨"StrangerHall", zmk4 225 (by decide +kernel)⟩, zmk4 227 (by decide +kernel), zsel (n := 11) 59 (by decide +kernel), ⟨6, rfl, RX7, TX7, 11, rfl, rfl⟩, by decide +kernel⟩
theorem zmlp_2_84 : zmlP 2 84 mX7_setEnd 0 7 3 := zmlP0 ⟨zmd_mX7_setEnd, .inr ⟨"StrangerHall", zmk4 229 (by decide +kernel)⟩, zmk4 231 (by decide +kernel), zsel (n := 11) 60 (by decide +kernel), ⟨6, rfl, RX7, TX7, 11, rfl, rfl⟩, by decide +kernel⟩
theorem zmlp_2_88 : zmlP 2 88 mX7_isNarrow 0 7 0 := zmlP0 ⟨zmd_mX7_isNarrow, .inr ⟨"StrangerHall", zmk4 237 (by decide +kernel)⟩, zmk4 239 (by decide +kernel), zsel (n := 11) 62 (by decide +kernel), ⟨6, rfl, RX7, TX7, 11, rfl, rfl⟩, by decide +kernel⟩
theorem zmlp_2_107 : zmlP 2 107 mX2_settle 0 3 4 := zmlP0 ⟨zmd_mX2_settle, .inl (zmk5 1 (by decide +kernel)), zmk5 3 (by decide +kernel), zsel (n := 5) 63 (by decide +kernel), ⟨2, rfl, RX2, TX2, 5, rfl, rfl⟩, by decide +kernel⟩
theorem zmlp_2_117 : zmlP 2 117 mX2_countLie 0 3 1 := zmlP0 ⟨zmd_mX2_countLie, .inl (zmk5 5 (by decide +kernel)), zmk5 7 (by decide +kernel), zsel (n := 5) 64 (by decide +kernel), ⟨2, rfl, RX2, TX2, 5, rfl, rfl⟩, by decide +kernel⟩
theorem zmlp_2_124 : zmlP 2 124 mX2_reward 0 3 2 := zmlP0 ⟨zmd_mX2_reward, .inl (zmk5 10 (by decide +kernel)), zmk5 12 (by decide +kernel), zsel (n := 5) 65 (by decide +kernel), ⟨2, rfl, RX2, TX2, 5, rfl, rfl⟩, by decide +kernel⟩
theorem zmlp_2_127 : zmlP 2 127 mX2_stay 0 3 2 := zmlP0 ⟨zmd_mX2_stay, .inl (zmk5 19 (by decide +kernel)), zmk5 21 (by decide +kernel), zsel (n := 5) 67 (by decide +kernel), ⟨2, rfl, RX2, TX2, 5, rfl, rfl⟩, by decide +kernel⟩
theorem zmlp_2_134 : zmlP 2 134 mX2_makeVoid 0 3 2 := zmlP0 ⟨zmd_mX2_makeVoid, .inl (zmk5 27 (by decide +kernel)), zmk5 29 (by decide +kernel), zsel (n := 5) 69 (by decide +kernel), ⟨2, rfl, RX2, TX2, 5, rfl, rfl⟩, by decide +kernel⟩
theorem zmlp_2_139 : zmlP 2 139 mX2_pay 0 3 2 := zmlP0 ⟨zmd_mX2_pay, .inl (zmk5 15 (by decide +kernel)), zmk5 17 (by decide +kernel), zsel (n := 5) 66 (by decide +kernel), ⟨2, rfl, RX2, TX2, 5, rfl, rfl⟩, by decide +kernel⟩
theorem zmlp_2_142 : zmlP 2 142 mX2_keep 0 3 1 := zmlP0 ⟨zmd_mX2_keep, .inl (zmk5 23 (by decide +kernel)), zmk5 25 (by decide +kernel), zsel (n := 5) 68 (by decide +kernel), ⟨2, rfl, RX2, TX2, 5, rfl, rfl⟩, by decide +kernel⟩
theorem zmlp_2_152 : zmlP 2 152 mX2_reopen 0 3 2 := zmlP0 ⟨zmd_mX2_reopen, .inl (zmk5 31 (by decide +kernel)), zmk5 33 (by decide +kernel), zsel (n := 5) 70 (by decide +kernel), ⟨2, rfl, RX2, TX2, 5, rfl, rfl⟩, by decide +kernel⟩
theorem zmlp_2_156 : zmlP 2 156 mX2_hangsOnAhead 1 3 1 := zmlP1 ⟨zmd_mX2_hangsOnAhead, .inl (zmk5 39 (by decide +kernel)), zmk5 40 (by decide +kernel), by decide +kernel⟩
theorem zmlp_2_160 : zmlP 2 160 mX2_returnPledges 0 3 1 := zmlP0 ⟨zmd_mX2_returnPledges, .inl (zmk5 42 (by decide +kernel)), zmk5 44 (by decide +kernel), zsel (n := 5) 72 (by decide +kernel), ⟨2, rfl, RX2, TX2, 5, rfl, rfl⟩, by decide +kernel⟩
theorem zmlp_2_164 : zmlP 2 164 mX6_reopen 0 6 0 := zmlP0 ⟨zmd_mX6_reopen, .inr ⟨"StrangerHall", zmk5 35 (by decide +kernel)⟩, zmk5 37 (by decide +kernel), zsel (n := 14) 71 (by decide +kernel), ⟨5, rfl, RX6, TX6, 14, rfl, rfl⟩, by decide +kernel⟩
theorem zmlp_3_1 : zmlP 3 1 mX3_init 3 0 0 := zmlP3 (zmk1 133 (by decide +kernel))
theorem zmlp_4_9 : zmlP 4 9 mX8_begin 0 8 1 := zmlP0 ⟨zmd_mX8_begin, .inr ⟨"StrangerHall", zmk3 214 (by decide +kernel)⟩, zmk3 44 (by decide +kernel), zsel (n := 7) 6 (by decide +kernel), ⟨7, rfl, RX8, TX8, 7, rfl, rfl⟩, by decide +kernel⟩
theorem zmlp_4_17 : zmlP 4 17 mX8_isWord 0 8 1 := zmlP0 ⟨zmd_mX8_isWord, .inr ⟨"StrangerHall", zmk3 216 (by decide +kernel)⟩, zmk3 125 (by decide +kernel), zsel (n := 7) 23 (by decide +kernel), ⟨7, rfl, RX8, TX8, 7, rfl, rfl⟩, by decide +kernel⟩
theorem zmlp_4_21 : zmlP 4 21 mX8_advance 0 8 0 := zmlP0 ⟨zmd_mX8_advance, .inr ⟨"StrangerHall", zmk3 217 (by decide +kernel)⟩, zmk3 51 (by decide +kernel), zsel (n := 7) 7 (by decide +kernel), ⟨7, rfl, RX8, TX8, 7, rfl, rfl⟩, by decide +kernel⟩
theorem zmlp_4_24 : zmlP 4 24 mX4_terms 1 0 1 := zmlP1 ⟨zmd_mX4_terms, .inl (zmk3 218 (by decide +kernel)), zmk3 219 (by decide +kernel), by decide +kernel⟩
theorem zmlp_4_37 : zmlP 4 37 mX4_term 1 0 1 := zmlP1 ⟨zmd_mX4_term, .inl (zmk3 221 (by decide +kernel)), zmk3 222 (by decide +kernel), by decide +kernel⟩
theorem zmlp_4_40 : zmlP 4 40 mX8_isSign 0 8 1 := zmlP0 ⟨zmd_mX8_isSign, .inr ⟨"StrangerHall", zmk3 231 (by decide +kernel)⟩, zmk3 91 (by decide +kernel), zsel (n := 7) 15 (by decide +kernel), ⟨7, rfl, RX8, TX8, 7, rfl, rfl⟩, by decide +kernel⟩
theorem zmlp_4_44 : zmlP 4 44 mX8_takesSign 0 8 1 := zmlP0 ⟨zmd_mX8_takesSign, .inr ⟨"StrangerHall", zmk3 228 (by decide +kernel)⟩, zmk3 87 (by decide +kernel), zsel (n := 7) 14 (by decide +kernel), ⟨7, rfl, RX8, TX8, 7, rfl, rfl⟩, by decide +kernel⟩
theorem zmlp_4_47 : zmlP 4 47 mX8_takesNumber 0 8 0 := zmlP0 ⟨zmd_mX8_takesNumber, .inr ⟨"StrangerHall", zmk3 224 (by decide +kernel)⟩, zmk3 226 (by decide +kernel), zsel (n := 7) 31 (by decide +kernel), ⟨7, rfl, RX8, TX8, 7, rfl, rfl⟩, by decide +kernel⟩
theorem zmlp_4_53 : zmlP 4 53 mX8_takesWord 0 8 1 := zmlP0 ⟨zmd_mX8_takesWord, .inr ⟨"StrangerHall", zmk3 230 (by decide +kernel)⟩, zmk3 121 (by decide +kernel), zsel (n := 7) 22 (by decide +kernel), ⟨7, rfl, RX8, TX8, 7, rfl, rfl⟩, by decide +kernel⟩
theorem zmlp_5_3 : zmlP 5 3 mX3_init 3 0 0 := zmlP3 (zmk1 109 (by decide +kernel))
theorem zmlp_5_29 : zmlP 5 29 mX5_clear 0 5 0 := zmlP0 ⟨zmd_mX5_clear, .inl (zmk4 55 (by decide +kernel)), zmk4 57 (by decide +kernel), zsel (n := 5) 38 (by decide +kernel), ⟨4, rfl, RX5, TX5, 5, rfl, rfl⟩, by decide +kernel⟩
theorem zmlp_5_37 : zmlP 5 37 mX5_runTo 0 5 2 := zmlP0 ⟨zmd_mX5_runTo, .inl (zmk4 59 (by decide +kernel)), zmk4 61 (by decide +kernel), zsel (n := 5) 39 (by decide +kernel), ⟨4, rfl, RX5, TX5, 5, rfl, rfl⟩, by decide +kernel⟩
theorem zmlp_5_41 : zmlP 5 41 mX5_isHalted 0 5 1 := zmlP0 ⟨zmd_mX5_isHalted, .inl (zmk4 63 (by decide +kernel)), zmk4 65 (by decide +kernel), zsel (n := 5) 40 (by decide +kernel), ⟨4, rfl, RX5, TX5, 5, rfl, rfl⟩, by decide +kernel⟩
theorem zmlp_5_45 : zmlP 5 45 mX9_hasCode 0 9 1 := zmlP0 ⟨zmd_mX9_hasCode, .inr ⟨"StrangerHall", zmk4 67 (by decide +kernel)⟩, zmk4 27 (by decide +kernel), zsel (n := 9) 34 (by decide +kernel), ⟨8, rfl, RX9, TX9, 9, rfl, rfl⟩, by decide +kernel⟩
theorem zmlp_5_55 : zmlP 5 55 mX5_step 0 5 2 := zmlP0 ⟨zmd_mX5_step, .inl (zmk4 68 (by decide +kernel)), zmk4 70 (by decide +kernel), zsel (n := 5) 41 (by decide +kernel), ⟨4, rfl, RX5, TX5, 5, rfl, rfl⟩, by decide +kernel⟩
theorem zmlp_5_59 : zmlP 5 59 mX5_show 0 5 2 := zmlP0 ⟨zmd_mX5_show, .inl (zmk4 51 (by decide +kernel)), zmk4 53 (by decide +kernel), zsel (n := 5) 37 (by decide +kernel), ⟨4, rfl, RX5, TX5, 5, rfl, rfl⟩, by decide +kernel⟩
theorem zmlp_5_62 : zmlP 5 62 mX10_isWithin 1 10 3 := zmlP1 ⟨zmd_mX10_isWithin, .inr ⟨"StrangerHall", zmk5 236 (by decide +kernel)⟩, zmk2 213 (by decide +kernel), by decide +kernel⟩
theorem zmlp_5_66 : zmlP 5 66 mX5_forget 0 5 0 := zmlP0 ⟨zmd_mX5_forget, .inl (zmk6 1 (by decide +kernel)), zmk4 38 (by decide +kernel), zsel (n := 5) 35 (by decide +kernel), ⟨4, rfl, RX5, TX5, 5, rfl, rfl⟩, by decide +kernel⟩
theorem zmlp_5_69 : zmlP 5 69 mX9_partOf 0 9 3 := zmlP0 ⟨zmd_mX9_partOf, .inr ⟨"StrangerHall", zmk6 2 (by decide +kernel)⟩, zmk5 223 (by decide +kernel), zsel (n := 9) 88 (by decide +kernel), ⟨8, rfl, RX9, TX9, 9, rfl, rfl⟩, by decide +kernel⟩
theorem zmlp_5_73 : zmlP 5 73 mX5_push 0 5 1 := zmlP0 ⟨zmd_mX5_push, .inl (zmk4 72 (by decide +kernel)), zmk4 74 (by decide +kernel), zsel (n := 5) 42 (by decide +kernel), ⟨4, rfl, RX5, TX5, 5, rfl, rfl⟩, by decide +kernel⟩
theorem zmlp_5_77 : zmlP 5 77 mX5_pop 0 5 0 := zmlP0 ⟨zmd_mX5_pop, .inl (zmk4 76 (by decide +kernel)), zmk4 78 (by decide +kernel), zsel (n := 5) 43 (by decide +kernel), ⟨4, rfl, RX5, TX5, 5, rfl, rfl⟩, by decide +kernel⟩
theorem zmlp_5_81 : zmlP 5 81 mX5_putOut 0 5 1 := zmlP0 ⟨zmd_mX5_putOut, .inl (zmk4 80 (by decide +kernel)), zmk4 82 (by decide +kernel), zsel (n := 5) 44 (by decide +kernel), ⟨4, rfl, RX5, TX5, 5, rfl, rfl⟩, by decide +kernel⟩
theorem zmlp_5_84 : zmlP 5 84 mX5_worked 1 5 3 := zmlP1 ⟨zmd_mX5_worked, .inl (zmk4 84 (by decide +kernel)), zmk4 85 (by decide +kernel), by decide +kernel⟩
theorem zmlp_5_87 : zmlP 5 87 mX5_pageSum 0 5 1 := zmlP0 ⟨zmd_mX5_pageSum, .inl (zmk4 106 (by decide +kernel)), zmk4 108 (by decide +kernel), zsel (n := 5) 46 (by decide +kernel), ⟨4, rfl, RX5, TX5, 5, rfl, rfl⟩, by decide +kernel⟩
theorem zmlp_5_91 : zmlP 5 91 mX10_joined 1 10 2 := zmlP1 ⟨zmd_mX10_joined, .inr ⟨"StrangerHall", zmk4 110 (by decide +kernel)⟩, zmk2 184 (by decide +kernel), by decide +kernel⟩
theorem zmlp_5_95 : zmlP 5 95 mX5_besideOf 0 5 2 := zmlP0 ⟨zmd_mX5_besideOf, .inl (zmk4 133 (by decide +kernel)), zmk4 120 (by decide +kernel), zsel (n := 5) 47 (by decide +kernel), ⟨4, rfl, RX5, TX5, 5, rfl, rfl⟩, by decide +kernel⟩
theorem zmlp_6_3 : zmlP 6 3 mX3_init 3 0 0 := zmlP3 (zmk1 221 (by decide +kernel))
theorem zmlp_6_11 : zmlP 6 11 mX7_init 2 7 0 := zmlP2 ⟨zmd_mX7_init, .inr ⟨"StrangerHall", zmk1 224 (by decide +kernel)⟩, zmk1 225 (by decide +kernel), rfl, rfl, by decide +kernel⟩
theorem zmlp_6_50 : zmlP 6 50 mX10_isWithin 1 10 3 := zmlP1 ⟨zmd_mX10_isWithin, .inr ⟨"StrangerHall", zmk5 143 (by decide +kernel)⟩, zmk2 213 (by decide +kernel), by decide +kernel⟩
theorem zmlp_6_74 : zmlP 6 74 mJ9_max_f86c9 12 0 2 := zmlP12 (zmk5 162 (by decide +kernel))
theorem zmlp_7_3 : zmlP 7 3 mX3_init 3 0 0 := zmlP3 (zmk1 227 (by decide +kernel))
theorem zmlp_7_15 : zmlP 7 15 mX7_ask 0 7 1 := zmlP0 ⟨zmd_mX7_ask, .inl (zmk4 221 (by decide +kernel)), zmk4 223 (by decide +kernel), zsel (n := 11) 58 (by decide +kernel), ⟨6, rfl, RX7, TX7, 11, rfl, rfl⟩, by decide +kernel⟩
theorem zmlp_7_50 : zmlP 7 50 mX7_halve 0 7 0 := zmlP0 ⟨zmd_mX7_halve, .inl (zmk5 72 (by decide +kernel)), zmk5 74 (by decide +kernel), zsel (n := 11) 76 (by decide +kernel), ⟨6, rfl, RX7, TX7, 11, rfl, rfl⟩, by decide +kernel⟩
theorem zmlp_7_53 : zmlP 7 53 mX7_middle 0 7 0 := zmlP0 ⟨zmd_mX7_middle, .inl (zmk5 76 (by decide +kernel)), zmk5 55 (by decide +kernel), zsel (n := 11) 73 (by decide +kernel), ⟨6, rfl, RX7, TX7, 11, rfl, rfl⟩, by decide +kernel⟩
theorem zmlp_7_57 : zmlP 7 57 mX7_setStart 0 7 2 := zmlP0 ⟨zmd_mX7_setStart, .inl (zmk5 77 (by decide +kernel)), zmk4 227 (by decide +kernel), zsel (n := 11) 59 (by decide +kernel), ⟨6, rfl, RX7, TX7, 11, rfl, rfl⟩, by decide +kernel⟩
theorem zmlp_7_61 : zmlP 7 61 mX7_setEnd 0 7 3 := zmlP0 ⟨zmd_mX7_setEnd, .inl (zmk5 78 (by decide +kernel)), zmk4 231 (by decide +kernel), zsel (n := 11) 60 (by decide +kernel), ⟨6, rfl, RX7, TX7, 11, rfl, rfl⟩, by decide +kernel⟩
theorem zmlp_8_3 : zmlP 8 3 mX3_init 3 0 0 := zmlP3 (zmk1 44 (by decide +kernel))
theorem zmlp_8_19 : zmlP 8 19 mJ9_min_7cf53 11 0 2 := zmlP11 (zmk3 46 (by decide +kernel))
theorem zmlp_8_31 : zmlP 8 31 mX8_advance 0 8 0 := zmlP0 ⟨zmd_mX8_advance, .inl (zmk3 49 (by decide +kernel)), zmk3 51 (by decide +kernel), zsel (n := 7) 7 (by decide +kernel), ⟨7, rfl, RX8, TX8, 7, rfl, rfl⟩, by decide +kernel⟩
theorem zmlp_8_43 : zmlP 8 43 mX8_isDigit 1 8 1 := zmlP1 ⟨zmd_mX8_isDigit, .inl (zmk3 53 (by decide +kernel)), zmk3 54 (by decide +kernel), by decide +kernel⟩
theorem zmlp_8_47 : zmlP 8 47 mX8_readNumber 0 8 0 := zmlP0 ⟨zmd_mX8_readNumber, .inl (zmk3 56 (by decide +kernel)), zmk3 58 (by decide +kernel), zsel (n := 7) 8 (by decide +kernel), ⟨7, rfl, RX8, TX8, 7, rfl, rfl⟩, by decide +kernel⟩
theorem zmlp_8_50 : zmlP 8 50 mX8_isLetter 1 8 1 := zmlP1 ⟨zmd_mX8_isLetter, .inl (zmk3 61 (by decide +kernel)), zmk3 62 (by decide +kernel), by decide +kernel⟩
theorem zmlp_8_53 : zmlP 8 53 mX8_readWord 0 8 0 := zmlP0 ⟨zmd_mX8_readWord, .inl (zmk3 64 (by decide +kernel)), zmk3 66 (by decide +kernel), zsel (n := 7) 9 (by decide +kernel), ⟨7, rfl, RX8, TX8, 7, rfl, rfl⟩, by decide +kernel⟩
theorem zmlp_8_57 : zmlP 8 57 mJ0_length_8abf5 20 0 0 := zmlPx (by decide)
theorem zmlp_8_63 : zmlP 8 63 mJ0_charAt_5068e 21 0 1 := zmlPx (by decide)
theorem zmlp_8_67 : zmlP 8 67 mX8_isSign 0 8 1 := zmlP0 ⟨zmd_mX8_isSign, .inl (zmk3 89 (by decide +kernel)), zmk3 91 (by decide +kernel), zsel (n := 7) 15 (by decide +kernel), ⟨7, rfl, RX8, TX8, 7, rfl, rfl⟩, by decide +kernel⟩
theorem zmlp_8_70 : zmlP 8 70 mX8_isWord 0 8 1 := zmlP0 ⟨zmd_mX8_isWord, .inl (zmk3 123 (by decide +kernel)), zmk3 125 (by decide +kernel), zsel (n := 7) 23 (by decide +kernel), ⟨7, rfl, RX8, TX8, 7, rfl, rfl⟩, by decide +kernel⟩
theorem zmlp_9_3 : zmlP 9 3 mX3_init 3 0 0 := zmlP3 (zmk1 212 (by decide +kernel))
theorem zmlp_9_32 : zmlP 9 32 mX6_init 2 6 0 := zmlP2 ⟨zmd_mX6_init, .inr ⟨"StrangerHall", zmk1 218 (by decide +kernel)⟩, zmk1 219 (by decide +kernel), rfl, rfl, by decide +kernel⟩
theorem zmlp_9_39 : zmlP 9 39 mJ9_min_7cf53 11 0 2 := zmlP11 (zmk3 236 (by decide +kernel))
theorem zmlp_10_1 : zmlP 10 1 mX3_init 3 0 0 := zmlP3 (zmk1 30 (by decide +kernel))
theorem zmlp_10_9 : zmlP 10 9 mX1_init 2 2 0 := zmlP2 ⟨zmd_mX1_init, .inr ⟨"StrangerHall", zmk1 35 (by decide +kernel)⟩, zmk1 36 (by decide +kernel), rfl, rfl, by decide +kernel⟩
theorem zmlp_10_18 : zmlP 10 18 mX2_init 2 3 0 := zmlP2 ⟨zmd_mX2_init, .inr ⟨"StrangerHall", zmk1 100 (by decide +kernel)⟩, zmk1 101 (by decide +kernel), rfl, rfl, by decide +kernel⟩
theorem zmlp_10_25 : zmlP 10 25 mX0_init 2 1 0 := zmlP2 ⟨zmd_mX0_init, .inr ⟨"StrangerHall", zmk1 173 (by decide +kernel)⟩, zmk1 174 (by decide +kernel), rfl, rfl, by decide +kernel⟩
theorem zmlp_10_40 : zmlP 10 40 mX9_init 2 9 0 := zmlP2 ⟨zmd_mX9_init, .inr ⟨"StrangerHall", zmk1 209 (by decide +kernel)⟩, zmk1 210 (by decide +kernel), rfl, rfl, by decide +kernel⟩
theorem zmlp_10_50 : zmlP 10 50 mX8_add 0 8 1 := zmlP0 ⟨zmd_mX8_add, .inr ⟨"StrangerHall", zmk2 171 (by decide +kernel)⟩, zmk2 173 (by decide +kernel), zsel (n := 7) 0 (by decide +kernel), ⟨7, rfl, RX8, TX8, 7, rfl, rfl⟩, by decide +kernel⟩
theorem zmlp_10_55 : zmlP 10 55 mX10_isWithin 1 10 3 := zmlP1 ⟨zmd_mX10_isWithin, .inl (zmk2 212 (by decide +kernel)), zmk2 213 (by decide +kernel), by decide +kernel⟩
theorem zmlp_10_65 : zmlP 10 65 mX1_compile 0 2 1 := zmlP0 ⟨zmd_mX1_compile, .inr ⟨"StrangerHall", zmk3 38 (by decide +kernel)⟩, zmk3 40 (by decide +kernel), zsel (n := 6) 5 (by decide +kernel), ⟨1, rfl, RX1, TX1, 6, rfl, rfl⟩, by decide +kernel⟩
theorem zmlp_10_72 : zmlP 10 72 mX4_leaves 1 0 2 := zmlP1 ⟨zmd_mX4_leaves, .inr ⟨"StrangerHall", zmk3 211 (by decide +kernel)⟩, zmk3 212 (by decide +kernel), by decide +kernel⟩
theorem zmlp_10_78 : zmlP 10 78 mX9_begin 0 9 3 := zmlP0 ⟨zmd_mX9_begin, .inr ⟨"StrangerHall", zmk3 232 (by decide +kernel)⟩, zmk3 234 (by decide +kernel), zsel (n := 9) 32 (by decide +kernel), ⟨8, rfl, RX9, TX9, 9, rfl, rfl⟩, by decide +kernel⟩
theorem zmlp_10_82 : zmlP 10 82 mX10_taskAt 0 10 1 := zmlP0 ⟨zmd_mX10_taskAt, .inl (zmk4 6 (by decide +kernel)), zmk4 8 (by decide +kernel), zsel (n := 8) 33 (by decide +kernel), ⟨9, rfl, RX10, TX10, 8, rfl, rfl⟩, by decide +kernel⟩
theorem zmlp_10_86 : zmlP 10 86 mX9_hasCode 0 9 1 := zmlP0 ⟨zmd_mX9_hasCode, .inr ⟨"StrangerHall", zmk4 25 (by decide +kernel)⟩, zmk4 27 (by decide +kernel), zsel (n := 9) 34 (by decide +kernel), ⟨8, rfl, RX9, TX9, 9, rfl, rfl⟩, by decide +kernel⟩
theorem zmlp_10_107 : zmlP 10 107 mX5_forget 0 5 0 := zmlP0 ⟨zmd_mX5_forget, .inr ⟨"StrangerHall", zmk4 36 (by decide +kernel)⟩, zmk4 38 (by decide +kernel), zsel (n := 5) 35 (by decide +kernel), ⟨4, rfl, RX5, TX5, 5, rfl, rfl⟩, by decide +kernel⟩
theorem zmlp_10_112 : zmlP 10 112 mX5_lengthOf 0 5 1 := zmlP0 ⟨zmd_mX5_lengthOf, .inr ⟨"StrangerHall", zmk4 47 (by decide +kernel)⟩, zmk4 49 (by decide +kernel), zsel (n := 5) 36 (by decide +kernel), ⟨4, rfl, RX5, TX5, 5, rfl, rfl⟩, by decide +kernel⟩
theorem zmlp_10_116 : zmlP 10 116 mX5_show 0 5 2 := zmlP0 ⟨zmd_mX5_show, .inr ⟨"StrangerHall", zmk4 94 (by decide +kernel)⟩, zmk4 53 (by decide +kernel), zsel (n := 5) 37 (by decide +kernel), ⟨4, rfl, RX5, TX5, 5, rfl, rfl⟩, by decide +kernel⟩
theorem zmlp_10_123 : zmlP 10 123 mX5_sumOf 0 5 2 := zmlP0 ⟨zmd_mX5_sumOf, .inr ⟨"StrangerHall", zmk4 102 (by decide +kernel)⟩, zmk4 104 (by decide +kernel), zsel (n := 5) 45 (by decide +kernel), ⟨4, rfl, RX5, TX5, 5, rfl, rfl⟩, by decide +kernel⟩
theorem zmlp_10_127 : zmlP 10 127 mX5_besideOf 0 5 2 := zmlP0 ⟨zmd_mX5_besideOf, .inr ⟨"StrangerHall", zmk4 118 (by decide +kernel)⟩, zmk4 120 (by decide +kernel), zsel (n := 5) 47 (by decide +kernel), ⟨4, rfl, RX5, TX5, 5, rfl, rfl⟩, by decide +kernel⟩
theorem zmlp_10_131 : zmlP 10 131 mX10_joined 1 10 2 := zmlP1 ⟨zmd_mX10_joined, .inl (zmk2 183 (by decide +kernel)), zmk2 184 (by decide +kernel), by decide +kernel⟩
theorem zmlp_10_134 : zmlP 10 134 mX5_climb 0 5 2 := zmlP0 ⟨zmd_mX5_climb, .inr ⟨"StrangerHall", zmk4 129 (by decide +kernel)⟩, zmk4 131 (by decide +kernel), zsel (n := 5) 48 (by decide +kernel), ⟨4, rfl, RX5, TX5, 5, rfl, rfl⟩, by decide +kernel⟩
theorem zmlp_10_137 : zmlP 10 137 mX9_divide 0 9 3 := zmlP0 ⟨zmd_mX9_divide, .inr ⟨"StrangerHall", zmk4 141 (by decide +kernel)⟩, zmk4 143 (by decide +kernel), zsel (n := 9) 49 (by decide +kernel), ⟨8, rfl, RX9, TX9, 9, rfl, rfl⟩, by decide +kernel⟩
theorem zmlp_10_153 : zmlP 10 153 mX10_houseAt 0 10 1 := zmlP0 ⟨zmd_mX10_houseAt, .inl (zmk4 159 (by decide +kernel)), zmk4 161 (by decide +kernel), zsel (n := 8) 50 (by decide +kernel), ⟨9, rfl, RX10, TX10, 8, rfl, rfl⟩, by decide +kernel⟩
theorem zmlp_10_166 : zmlP 10 166 mX10_pieceAt 0 10 2 := zmlP0 ⟨zmd_mX10_pieceAt, .inl (zmk4 177 (by decide +kernel)), zmk4 179 (by decide +kernel), zsel (n := 8) 51 (by decide +kernel), ⟨9, rfl, RX10, TX10, 8, rfl, rfl⟩, by decide +kernel⟩
theorem zmlp_10_179 : zmlP 10 179 mX6_giveTo 0 6 4 := zmlP0 ⟨zmd_mX6_giveTo, .inr ⟨"StrangerHall", zmk4 185 (by decide +kernel)⟩, zmk4 187 (by decide +kernel), zsel (n := 14) 53 (by decide +kernel), ⟨5, rfl, RX6, TX6, 14, rfl, rfl⟩, by decide +kernel⟩
theorem zmlp_10_186 : zmlP 10 186 mX6_dropBids 0 6 0 := zmlP0 ⟨zmd_mX6_dropBids, .inr ⟨"StrangerHall", zmk4 189 (by decide +kernel)⟩, zmk4 191 (by decide +kernel), zsel (n := 14) 54 (by decide +kernel), ⟨5, rfl, RX6, TX6, 14, rfl, rfl⟩, by decide +kernel⟩
theorem zmlp_10_199 : zmlP 10 199 mX9_isEndToldAhead 0 9 1 := zmlP0 ⟨zmd_mX9_isEndToldAhead, .inr ⟨"StrangerHall", zmk4 207 (by decide +kernel)⟩, zmk4 209 (by decide +kernel), zsel (n := 9) 55 (by decide +kernel), ⟨8, rfl, RX9, TX9, 9, rfl, rfl⟩, by decide +kernel⟩
theorem zmlp_10_205 : zmlP 10 205 mX2_beginQuarrel 0 3 4 := zmlP0 ⟨zmd_mX2_beginQuarrel, .inr ⟨"StrangerHall", zmk4 211 (by decide +kernel)⟩, zmk4 213 (by decide +kernel), zsel (n := 5) 56 (by decide +kernel), ⟨2, rfl, RX2, TX2, 5, rfl, rfl⟩, by decide +kernel⟩
theorem zmlp_10_209 : zmlP 10 209 mX2_judgeIfNarrow 0 3 2 := zmlP0 ⟨zmd_mX2_judgeIfNarrow, .inr ⟨"StrangerHall", zmk4 233 (by decide +kernel)⟩, zmk4 235 (by decide +kernel), zsel (n := 5) 61 (by decide +kernel), ⟨2, rfl, RX2, TX2, 5, rfl, rfl⟩, by decide +kernel⟩
theorem zmlp_10_234 : zmlP 10 234 mX7_middle 0 7 0 := zmlP0 ⟨zmd_mX7_middle, .inr ⟨"StrangerHall", zmk5 53 (by decide +kernel)⟩, zmk5 55 (by decide +kernel), zsel (n := 11) 73 (by decide +kernel), ⟨6, rfl, RX7, TX7, 11, rfl, rfl⟩, by decide +kernel⟩
theorem zmlp_10_240 : zmlP 10 240 mX7_hasTold 0 7 1 := zmlP0 ⟨zmd_mX7_hasTold, .inr ⟨"StrangerHall", zmk5 64 (by decide +kernel)⟩, zmk5 66 (by decide +kernel), zsel (n := 11) 74 (by decide +kernel), ⟨6, rfl, RX7, TX7, 11, rfl, rfl⟩, by decide +kernel⟩
theorem zmlp_10_244 : zmlP 10 244 mX7_tell 0 7 3 := zmlP0 ⟨zmd_mX7_tell, .inr ⟨"StrangerHall", zmk5 68 (by decide +kernel)⟩, zmk5 70 (by decide +kernel), zsel (n := 11) 75 (by decide +kernel), ⟨6, rfl, RX7, TX7, 11, rfl, rfl⟩, by decide +kernel⟩
theorem zmlp_10_252 : zmlP 10 252 mX10_earliestDue 0 10 0 := zmlP0 ⟨zmd_mX10_earliestDue, .inl (zmk5 103 (by decide +kernel)), zmk5 105 (by decide +kernel), zsel (n := 8) 77 (by decide +kernel), ⟨9, rfl, RX10, TX10, 8, rfl, rfl⟩, by decide +kernel⟩
theorem zmlp_10_255 : zmlP 10 255 mJ9_min_7cf53 11 0 2 := zmlP11 (zmk5 113 (by decide +kernel))
theorem zmlp_10_260 : zmlP 10 260 mJ9_max_7cf53 10 0 2 := zmlP10 (zmk5 114 (by decide +kernel))
theorem zmlp_10_263 : zmlP 10 263 mX10_lapseWhatIsDue 0 10 0 := zmlP0 ⟨zmd_mX10_lapseWhatIsDue, .inl (zmk5 117 (by decide +kernel)), zmk5 119 (by decide +kernel), zsel (n := 8) 79 (by decide +kernel), ⟨9, rfl, RX10, TX10, 8, rfl, rfl⟩, by decide +kernel⟩
theorem zmlp_10_266 : zmlP 10 266 mX6_hasBid 0 6 1 := zmlP0 ⟨zmd_mX6_hasBid, .inr ⟨"StrangerHall", zmk5 139 (by decide +kernel)⟩, zmk5 141 (by decide +kernel), zsel (n := 14) 81 (by decide +kernel), ⟨5, rfl, RX6, TX6, 14, rfl, rfl⟩, by decide +kernel⟩
theorem zmlp_10_269 : zmlP 10 269 mX6_setBid 0 6 4 := zmlP0 ⟨zmd_mX6_setBid, .inr ⟨"StrangerHall", zmk5 144 (by decide +kernel)⟩, zmk5 146 (by decide +kernel), zsel (n := 14) 82 (by decide +kernel), ⟨5, rfl, RX6, TX6, 14, rfl, rfl⟩, by decide +kernel⟩
theorem zmlp_10_272 : zmlP 10 272 mX6_bidCost 0 6 2 := zmlP0 ⟨zmd_mX6_bidCost, .inr ⟨"StrangerHall", zmk5 155 (by decide +kernel)⟩, zmk5 157 (by decide +kernel), zsel (n := 14) 83 (by decide +kernel), ⟨5, rfl, RX6, TX6, 14, rfl, rfl⟩, by decide +kernel⟩
theorem zmlp_10_278 : zmlP 10 278 mJ6_bitCount_0f7a4 1 0 1 := zmlP1 ⟨zmd_mJ6_bitCount_0f7a4, .inl (zmk5 173 (by decide +kernel)), zmk5 174 (by decide +kernel), by decide +kernel⟩
theorem zmlp_10_283 : zmlP 10 283 mX0_findBest 0 1 4 := zmlP0 ⟨zmd_mX0_findBest, .inr ⟨"StrangerHall", zmk5 179 (by decide +kernel)⟩, zmk5 181 (by decide +kernel), zsel (n := 9) 84 (by decide +kernel), ⟨0, rfl, RX0, TX0, 9, rfl, rfl⟩, by decide +kernel⟩
theorem zmlp_10_293 : zmlP 10 293 mX0_houseFor 0 1 1 := zmlP0 ⟨zmd_mX0_houseFor, .inr ⟨"StrangerHall", zmk5 196 (by decide +kernel)⟩, zmk5 198 (by decide +kernel), zsel (n := 9) 87 (by decide +kernel), ⟨0, rfl, RX0, TX0, 9, rfl, rfl⟩, by decide +kernel⟩
theorem zmlp_10_302 : zmlP 10 302 mX9_partOf 0 9 3 := zmlP0 ⟨zmd_mX9_partOf, .inr ⟨"StrangerHall", zmk5 221 (by decide +kernel)⟩, zmk5 223 (by decide +kernel), zsel (n := 9) 88 (by decide +kernel), ⟨8, rfl, RX9, TX9, 9, rfl, rfl⟩, by decide +kernel⟩
theorem zmlp_10_306 : zmlP 10 306 mX5_outOf 0 5 2 := zmlP0 ⟨zmd_mX5_outOf, .inr ⟨"StrangerHall", zmk5 232 (by decide +kernel)⟩, zmk5 234 (by decide +kernel), zsel (n := 5) 89 (by decide +kernel), ⟨4, rfl, RX5, TX5, 5, rfl, rfl⟩, by decide +kernel⟩
theorem zmlp_10_309 : zmlP 10 309 mX5_outOfPart 0 5 4 := zmlP0 ⟨zmd_mX5_outOfPart, .inr ⟨"StrangerHall", zmk5 237 (by decide +kernel)⟩, zmk5 239 (by decide +kernel), zsel (n := 5) 90 (by decide +kernel), ⟨4, rfl, RX5, TX5, 5, rfl, rfl⟩, by decide +kernel⟩
theorem zmlp_10_316 : zmlP 10 316 mX10_heldCoins 0 10 0 := zmlP0 ⟨zmd_mX10_heldCoins, .inl (zmk2 191 (by decide +kernel)), zmk2 193 (by decide +kernel), zsel (n := 8) 1 (by decide +kernel), ⟨9, rfl, RX10, TX10, 8, rfl, rfl⟩, by decide +kernel⟩
theorem zmlp_10_319 : zmlP 10 319 mX10_freeCoins 0 10 0 := zmlP0 ⟨zmd_mX10_freeCoins, .inl (zmk2 199 (by decide +kernel)), zmk2 201 (by decide +kernel), zsel (n := 8) 3 (by decide +kernel), ⟨9, rfl, RX10, TX10, 8, rfl, rfl⟩, by decide +kernel⟩
theorem zmlp_10_326 : zmlP 10 326 mX9_hasPiece 0 9 1 := zmlP0 ⟨zmd_mX9_hasPiece, .inr ⟨"StrangerHall", zmk4 181 (by decide +kernel)⟩, zmk4 183 (by decide +kernel), zsel (n := 9) 52 (by decide +kernel), ⟨8, rfl, RX9, TX9, 9, rfl, rfl⟩, by decide +kernel⟩
theorem zmlp_10_334 : zmlP 10 334 mX2_dueTick 0 3 1 := zmlP0 ⟨zmd_mX2_dueTick, .inr ⟨"StrangerHall", zmk5 108 (by decide +kernel)⟩, zmk5 110 (by decide +kernel), zsel (n := 5) 78 (by decide +kernel), ⟨2, rfl, RX2, TX2, 5, rfl, rfl⟩, by decide +kernel⟩
theorem zmlp_10_338 : zmlP 10 338 mX2_lapse 0 3 2 := zmlP0 ⟨zmd_mX2_lapse, .inr ⟨"StrangerHall", zmk5 121 (by decide +kernel)⟩, zmk5 123 (by decide +kernel), zsel (n := 5) 80 (by decide +kernel), ⟨2, rfl, RX2, TX2, 5, rfl, rfl⟩, by decide +kernel⟩
theorem zmlp_10_341 : zmlP 10 341 mX6_heldCoins 0 6 0 := zmlP0 ⟨zmd_mX6_heldCoins, .inr ⟨"StrangerHall", zmk2 195 (by decide +kernel)⟩, zmk2 197 (by decide +kernel), zsel (n := 14) 2 (by decide +kernel), ⟨5, rfl, RX6, TX6, 14, rfl, rfl⟩, by decide +kernel⟩
theorem zmlp_11_3 : zmlP 11 3 mX3_init 3 0 0 := zmlP3 (zmk6 15 (by decide +kernel))
theorem zmlp_11_163 : zmlP 11 163 mX11_byteAt 0 11 1 := zmlP0 ⟨zmd_mX11_byteAt, .inl (zmk6 234 (by decide +kernel)), zmk6 236 (by decide +kernel), zsel (n := 60) 96 (by decide +kernel), ⟨10, rfl, RX11, TX11, 60, rfl, rfl⟩, by decide +kernel⟩
theorem zmlp_11_170 : zmlP 11 170 mX11_blanks 0 11 0 := zmlP0 ⟨zmd_mX11_blanks, .inl (zmk6 230 (by decide +kernel)), zmk6 232 (by decide +kernel), zsel (n := 60) 95 (by decide +kernel), ⟨10, rfl, RX11, TX11, 60, rfl, rfl⟩, by decide +kernel⟩
theorem zmlp_11_173 : zmlP 11 173 mJ0_length_8abf5 20 0 0 := zmlPx (by decide)
theorem zmlp_11_179 : zmlP 11 179 mJ0_charAt_5068e 21 0 1 := zmlPx (by decide)
theorem zmlp_11_183 : zmlP 11 183 mX11_isSmall 1 11 1 := zmlP1 ⟨zmd_mX11_isSmall, .inl (zmk6 238 (by decide +kernel)), zmk6 239 (by decide +kernel), by decide +kernel⟩
theorem zmlp_11_187 : zmlP 11 187 mX11_isWord 0 11 1 := zmlP0 ⟨zmd_mX11_isWord, .inl (zmk7 2 (by decide +kernel)), zmk7 4 (by decide +kernel), zsel (n := 60) 97 (by decide +kernel), ⟨10, rfl, RX11, TX11, 60, rfl, rfl⟩, by decide +kernel⟩
theorem zmlp_11_191 : zmlP 11 191 mX11_wrong 0 11 2 := zmlP0 ⟨zmd_mX11_wrong, .inl (zmk7 19 (by decide +kernel)), zmk7 21 (by decide +kernel), zsel (n := 60) 100 (by decide +kernel), ⟨10, rfl, RX11, TX11, 60, rfl, rfl⟩, by decide +kernel⟩
theorem zmlp_11_198 : zmlP 11 198 mX11_sign 0 11 1 := zmlP0 ⟨zmd_mX11_sign, .inl (zmk7 15 (by decide +kernel)), zmk7 17 (by decide +kernel), zsel (n := 60) 99 (by decide +kernel), ⟨10, rfl, RX11, TX11, 60, rfl, rfl⟩, by decide +kernel⟩
theorem zmlp_11_208 : zmlP 11 208 mX11_adds 0 11 0 := zmlP0 ⟨zmd_mX11_adds, .inl (zmk7 31 (by decide +kernel)), zmk7 33 (by decide +kernel), zsel (n := 60) 103 (by decide +kernel), ⟨10, rfl, RX11, TX11, 60, rfl, rfl⟩, by decide +kernel⟩
theorem zmlp_11_211 : zmlP 11 211 mX11_emits 0 11 2 := zmlP0 ⟨zmd_mX11_emits, .inl (zmk7 51 (by decide +kernel)), zmk7 53 (by decide +kernel), zsel (n := 60) 107 (by decide +kernel), ⟨10, rfl, RX11, TX11, 60, rfl, rfl⟩, by decide +kernel⟩
theorem zmlp_11_215 : zmlP 11 215 mX11_product 0 11 0 := zmlP0 ⟨zmd_mX11_product, .inl (zmk7 35 (by decide +kernel)), zmk7 37 (by decide +kernel), zsel (n := 60) 104 (by decide +kernel), ⟨10, rfl, RX11, TX11, 60, rfl, rfl⟩, by decide +kernel⟩
theorem zmlp_11_218 : zmlP 11 218 mX11_unit 0 11 0 := zmlP0 ⟨zmd_mX11_unit, .inl (zmk7 39 (by decide +kernel)), zmk7 41 (by decide +kernel), zsel (n := 60) 105 (by decide +kernel), ⟨10, rfl, RX11, TX11, 60, rfl, rfl⟩, by decide +kernel⟩
theorem zmlp_11_221 : zmlP 11 221 mX11_isDigit 1 11 1 := zmlP1 ⟨zmd_mX11_isDigit, .inl (zmk7 43 (by decide +kernel)), zmk7 44 (by decide +kernel), by decide +kernel⟩
theorem zmlp_11_226 : zmlP 11 226 mX11_figures 0 11 0 := zmlP0 ⟨zmd_mX11_figures, .inl (zmk7 46 (by decide +kernel)), zmk7 48 (by decide +kernel), zsel (n := 60) 106 (by decide +kernel), ⟨10, rfl, RX11, TX11, 60, rfl, rfl⟩, by decide +kernel⟩
theorem zmlp_11_229 : zmlP 11 229 mX11_variable 0 11 0 := zmlP0 ⟨zmd_mX11_variable, .inl (zmk6 226 (by decide +kernel)), zmk6 228 (by decide +kernel), zsel (n := 60) 94 (by decide +kernel), ⟨10, rfl, RX11, TX11, 60, rfl, rfl⟩, by decide +kernel⟩
theorem zmlp_11_234 : zmlP 11 234 mX11_eat 0 11 1 := zmlP0 ⟨zmd_mX11_eat, .inl (zmk7 55 (by decide +kernel)), zmk7 57 (by decide +kernel), zsel (n := 60) 108 (by decide +kernel), ⟨10, rfl, RX11, TX11, 60, rfl, rfl⟩, by decide +kernel⟩
theorem zmlp_11_237 : zmlP 11 237 mX11_opens 0 11 1 := zmlP0 ⟨zmd_mX11_opens, .inl (zmk7 59 (by decide +kernel)), zmk7 61 (by decide +kernel), zsel (n := 60) 109 (by decide +kernel), ⟨10, rfl, RX11, TX11, 60, rfl, rfl⟩, by decide +kernel⟩
theorem zmlp_11_240 : zmlP 11 240 mX11_expression 0 11 0 := zmlP0 ⟨zmd_mX11_expression, .inl (zmk7 27 (by decide +kernel)), zmk7 29 (by decide +kernel), zsel (n := 60) 102 (by decide +kernel), ⟨10, rfl, RX11, TX11, 60, rfl, rfl⟩, by decide +kernel⟩
theorem zmlp_11_243 : zmlP 11 243 mX11_closes 0 11 1 := zmlP0 ⟨zmd_mX11_closes, .inl (zmk7 63 (by decide +kernel)), zmk7 65 (by decide +kernel), zsel (n := 60) 110 (by decide +kernel), ⟨10, rfl, RX11, TX11, 60, rfl, rfl⟩, by decide +kernel⟩
theorem zmlp_11_252 : zmlP 11 252 mX11_statements 0 11 0 := zmlP0 ⟨zmd_mX11_statements, .inl (zmk6 218 (by decide +kernel)), zmk6 220 (by decide +kernel), zsel (n := 60) 92 (by decide +kernel), ⟨10, rfl, RX11, TX11, 60, rfl, rfl⟩, by decide +kernel⟩
theorem zmlp_11_255 : zmlP 11 255 mX11_isStatement 0 11 0 := zmlP0 ⟨zmd_mX11_isStatement, .inl (zmk6 222 (by decide +kernel)), zmk6 224 (by decide +kernel), zsel (n := 60) 93 (by decide +kernel), ⟨10, rfl, RX11, TX11, 60, rfl, rfl⟩, by decide +kernel⟩
theorem zmlp_11_259 : zmlP 11 259 mX11_statement 0 11 0 := zmlP0 ⟨zmd_mX11_statement, .inl (zmk7 11 (by decide +kernel)), zmk7 13 (by decide +kernel), zsel (n := 60) 98 (by decide +kernel), ⟨10, rfl, RX11, TX11, 60, rfl, rfl⟩, by decide +kernel⟩
theorem zmlp_11_262 : zmlP 11 262 mX11_ended 0 11 2 := zmlP0 ⟨zmd_mX11_ended, .inl (zmk7 23 (by decide +kernel)), zmk7 25 (by decide +kernel), zsel (n := 60) 101 (by decide +kernel), ⟨10, rfl, RX11, TX11, 60, rfl, rfl⟩, by decide +kernel⟩
theorem zmlp_11_265 : zmlP 11 265 mX11_braced 0 11 0 := zmlP0 ⟨zmd_mX11_braced, .inl (zmk7 67 (by decide +kernel)), zmk7 69 (by decide +kernel), zsel (n := 60) 111 (by decide +kernel), ⟨10, rfl, RX11, TX11, 60, rfl, rfl⟩, by decide +kernel⟩
theorem zmlp_11_268 : zmlP 11 268 mX11_leads 0 11 2 := zmlP0 ⟨zmd_mX11_leads, .inl (zmk7 71 (by decide +kernel)), zmk7 73 (by decide +kernel), zsel (n := 60) 112 (by decide +kernel), ⟨10, rfl, RX11, TX11, 60, rfl, rfl⟩, by decide +kernel⟩
theorem zmlp_11_271 : zmlP 11 271 mX11_branch 0 11 0 := zmlP0 ⟨zmd_mX11_branch, .inl (zmk7 75 (by decide +kernel)), zmk7 77 (by decide +kernel), zsel (n := 60) 113 (by decide +kernel), ⟨10, rfl, RX11, TX11, 60, rfl, rfl⟩, by decide +kernel⟩
theorem zmlp_11_276 : zmlP 11 276 mX11_in 1 11 3 := zmlP1 ⟨zmd_mX11_in, .inl (zmk6 211 (by decide +kernel)), zmk6 212 (by decide +kernel), by decide +kernel⟩
theorem zmlp_11_280 : zmlP 11 280 mX11_bad 0 11 2 := zmlP0 ⟨zmd_mX11_bad, .inl (zmk6 214 (by decide +kernel)), zmk6 216 (by decide +kernel), zsel (n := 60) 91 (by decide +kernel), ⟨10, rfl, RX11, TX11, 60, rfl, rfl⟩, by decide +kernel⟩
theorem zmlp_11_284 : zmlP 11 284 mX11_isTask 0 11 1 := zmlP0 ⟨zmd_mX11_isTask, .inl (zmk7 88 (by decide +kernel)), zmk7 90 (by decide +kernel), zsel (n := 60) 114 (by decide +kernel), ⟨10, rfl, RX11, TX11, 60, rfl, rfl⟩, by decide +kernel⟩
theorem zmlp_11_287 : zmlP 11 287 mX11_partOf 0 11 4 := zmlP0 ⟨zmd_mX11_partOf, .inl (zmk7 112 (by decide +kernel)), zmk7 114 (by decide +kernel), zsel (n := 60) 118 (by decide +kernel), ⟨10, rfl, RX11, TX11, 60, rfl, rfl⟩, by decide +kernel⟩
theorem zmlp_11_291 : zmlP 11 291 mX11_takes 0 11 0 := zmlP0 ⟨zmd_mX11_takes, .inl (zmk7 120 (by decide +kernel)), zmk7 122 (by decide +kernel), zsel (n := 60) 120 (by decide +kernel), ⟨10, rfl, RX11, TX11, 60, rfl, rfl⟩, by decide +kernel⟩
theorem zmlp_11_294 : zmlP 11 294 mX11_worked 1 11 3 := zmlP1 ⟨zmd_mX11_worked, .inl (zmk7 124 (by decide +kernel)), zmk7 125 (by decide +kernel), by decide +kernel⟩
theorem zmlp_11_298 : zmlP 11 298 mX11_lays 0 11 1 := zmlP0 ⟨zmd_mX11_lays, .inl (zmk7 127 (by decide +kernel)), zmk7 129 (by decide +kernel), zsel (n := 60) 121 (by decide +kernel), ⟨10, rfl, RX11, TX11, 60, rfl, rfl⟩, by decide +kernel⟩
theorem zmlp_11_301 : zmlP 11 301 mX11_begins 0 11 3 := zmlP0 ⟨zmd_mX11_begins, .inl (zmk7 108 (by decide +kernel)), zmk7 110 (by decide +kernel), zsel (n := 60) 117 (by decide +kernel), ⟨10, rfl, RX11, TX11, 60, rfl, rfl⟩, by decide +kernel⟩
theorem zmlp_11_305 : zmlP 11 305 mX11_goes 0 11 1 := zmlP0 ⟨zmd_mX11_goes, .inl (zmk7 116 (by decide +kernel)), zmk7 118 (by decide +kernel), zsel (n := 60) 119 (by decide +kernel), ⟨10, rfl, RX11, TX11, 60, rfl, rfl⟩, by decide +kernel⟩
theorem zmlp_11_308 : zmlP 11 308 mX11_runs 0 11 4 := zmlP0 ⟨zmd_mX11_runs, .inl (zmk7 104 (by decide +kernel)), zmk7 106 (by decide +kernel), zsel (n := 60) 116 (by decide +kernel), ⟨10, rfl, RX11, TX11, 60, rfl, rfl⟩, by decide +kernel⟩
theorem zmlp_11_311 : zmlP 11 311 mX11_lengthOf 0 11 1 := zmlP0 ⟨zmd_mX11_lengthOf, .inl (zmk7 100 (by decide +kernel)), zmk7 102 (by decide +kernel), zsel (n := 60) 115 (by decide +kernel), ⟨10, rfl, RX11, TX11, 60, rfl, rfl⟩, by decide +kernel⟩
theorem zmlp_11_315 : zmlP 11 315 mX11_pageSum 0 11 1 := zmlP0 ⟨zmd_mX11_pageSum, .inl (zmk7 147 (by decide +kernel)), zmk7 149 (by decide +kernel), zsel (n := 60) 124 (by decide +kernel), ⟨10, rfl, RX11, TX11, 60, rfl, rfl⟩, by decide +kernel⟩
theorem zmlp_11_318 : zmlP 11 318 mX11_joined 1 11 2 := zmlP1 ⟨zmd_mX11_joined, .inl (zmk7 151 (by decide +kernel)), zmk7 152 (by decide +kernel), by decide +kernel⟩
theorem zmlp_11_321 : zmlP 11 321 mX11_sums 0 11 2 := zmlP0 ⟨zmd_mX11_sums, .inl (zmk7 143 (by decide +kernel)), zmk7 145 (by decide +kernel), zsel (n := 60) 123 (by decide +kernel), ⟨10, rfl, RX11, TX11, 60, rfl, rfl⟩, by decide +kernel⟩
theorem zmlp_11_324 : zmlP 11 324 mX11_sumOf 0 11 2 := zmlP0 ⟨zmd_mX11_sumOf, .inl (zmk7 139 (by decide +kernel)), zmk7 141 (by decide +kernel), zsel (n := 60) 122 (by decide +kernel), ⟨10, rfl, RX11, TX11, 60, rfl, rfl⟩, by decide +kernel⟩
theorem zmlp_11_327 : zmlP 11 327 mX11_firstOf 0 11 1 := zmlP0 ⟨zmd_mX11_firstOf, .inl (zmk7 207 (by decide +kernel)), zmk7 209 (by decide +kernel), zsel (n := 60) 128 (by decide +kernel), ⟨10, rfl, RX11, TX11, 60, rfl, rfl⟩, by decide +kernel⟩
theorem zmlp_11_333 : zmlP 11 333 mX11_isHouse 0 11 1 := zmlP0 ⟨zmd_mX11_isHouse, .inl (zmk7 179 (by decide +kernel)), zmk7 181 (by decide +kernel), zsel (n := 60) 125 (by decide +kernel), ⟨10, rfl, RX11, TX11, 60, rfl, rfl⟩, by decide +kernel⟩
theorem zmlp_11_336 : zmlP 11 336 mX11_isPiece 0 11 2 := zmlP0 ⟨zmd_mX11_isPiece, .inl (zmk7 191 (by decide +kernel)), zmk7 193 (by decide +kernel), zsel (n := 60) 126 (by decide +kernel), ⟨10, rfl, RX11, TX11, 60, rfl, rfl⟩, by decide +kernel⟩
theorem zmlp_11_343 : zmlP 11 343 mX11_dropBid 0 11 2 := zmlP0 ⟨zmd_mX11_dropBid, .inl (zmk7 195 (by decide +kernel)), zmk7 197 (by decide +kernel), zsel (n := 60) 127 (by decide +kernel), ⟨10, rfl, RX11, TX11, 60, rfl, rfl⟩, by decide +kernel⟩
theorem zmlp_11_346 : zmlP 11 346 mX11_lastOf 0 11 1 := zmlP0 ⟨zmd_mX11_lastOf, .inl (zmk7 211 (by decide +kernel)), zmk7 213 (by decide +kernel), zsel (n := 60) 129 (by decide +kernel), ⟨10, rfl, RX11, TX11, 60, rfl, rfl⟩, by decide +kernel⟩
theorem zmlp_11_349 : zmlP 11 349 mX11_asks 0 11 1 := zmlP0 ⟨zmd_mX11_asks, .inl (zmk7 215 (by decide +kernel)), zmk7 217 (by decide +kernel), zsel (n := 60) 130 (by decide +kernel), ⟨10, rfl, RX11, TX11, 60, rfl, rfl⟩, by decide +kernel⟩
theorem zmlp_11_352 : zmlP 11 352 mX11_judges 0 11 1 := zmlP0 ⟨zmd_mX11_judges, .inl (zmk7 219 (by decide +kernel)), zmk7 221 (by decide +kernel), zsel (n := 60) 131 (by decide +kernel), ⟨10, rfl, RX11, TX11, 60, rfl, rfl⟩, by decide +kernel⟩
theorem zmlp_11_355 : zmlP 11 355 mX11_over 0 11 3 := zmlP0 ⟨zmd_mX11_over, .inl (zmk7 223 (by decide +kernel)), zmk7 225 (by decide +kernel), zsel (n := 60) 132 (by decide +kernel), ⟨10, rfl, RX11, TX11, 60, rfl, rfl⟩, by decide +kernel⟩
theorem zmlp_11_362 : zmlP 11 362 mX11_voided 0 11 1 := zmlP0 ⟨zmd_mX11_voided, .inl (zmk7 227 (by decide +kernel)), zmk7 229 (by decide +kernel), zsel (n := 60) 133 (by decide +kernel), ⟨10, rfl, RX11, TX11, 60, rfl, rfl⟩, by decide +kernel⟩
theorem zmlp_11_365 : zmlP 11 365 mX11_stays 0 11 1 := zmlP0 ⟨zmd_mX11_stays, .inl (zmk7 235 (by decide +kernel)), zmk7 237 (by decide +kernel), zsel (n := 60) 135 (by decide +kernel), ⟨10, rfl, RX11, TX11, 60, rfl, rfl⟩, by decide +kernel⟩
theorem zmlp_11_368 : zmlP 11 368 mX11_frees 0 11 1 := zmlP0 ⟨zmd_mX11_frees, .inl (zmk7 231 (by decide +kernel)), zmk7 233 (by decide +kernel), zsel (n := 60) 134 (by decide +kernel), ⟨10, rfl, RX11, TX11, 60, rfl, rfl⟩, by decide +kernel⟩
theorem zmlp_11_372 : zmlP 11 372 mX11_passes 0 11 1 := zmlP0 ⟨zmd_mX11_passes, .inl (zmk8 12 (by decide +kernel)), zmk8 14 (by decide +kernel), zsel (n := 60) 136 (by decide +kernel), ⟨10, rfl, RX11, TX11, 60, rfl, rfl⟩, by decide +kernel⟩
theorem zmlp_11_380 : zmlP 11 380 mX11_costOf 0 11 2 := zmlP0 ⟨zmd_mX11_costOf, .inl (zmk8 28 (by decide +kernel)), zmk8 30 (by decide +kernel), zsel (n := 60) 137 (by decide +kernel), ⟨10, rfl, RX11, TX11, 60, rfl, rfl⟩, by decide +kernel⟩
theorem zmlp_11_390 : zmlP 11 390 mX11_chooses 0 11 5 := zmlP0 ⟨zmd_mX11_chooses, .inl (zmk8 38 (by decide +kernel)), zmk8 40 (by decide +kernel), zsel (n := 60) 138 (by decide +kernel), ⟨10, rfl, RX11, TX11, 60, rfl, rfl⟩, by decide +kernel⟩
theorem zmlp_11_399 : zmlP 11 399 mX11_byteOf 0 11 2 := zmlP0 ⟨zmd_mX11_byteOf, .inl (zmk8 51 (by decide +kernel)), zmk8 53 (by decide +kernel), zsel (n := 60) 140 (by decide +kernel), ⟨10, rfl, RX11, TX11, 60, rfl, rfl⟩, by decide +kernel⟩
theorem zmlp_11_402 : zmlP 11 402 mX11_next 0 11 1 := zmlP0 ⟨zmd_mX11_next, .inl (zmk8 47 (by decide +kernel)), zmk8 49 (by decide +kernel), zsel (n := 60) 139 (by decide +kernel), ⟨10, rfl, RX11, TX11, 60, rfl, rfl⟩, by decide +kernel⟩
theorem zmlp_11_405 : zmlP 11 405 mX11_numbers 0 11 1 := zmlP0 ⟨zmd_mX11_numbers, .inl (zmk8 67 (by decide +kernel)), zmk8 69 (by decide +kernel), zsel (n := 60) 144 (by decide +kernel), ⟨10, rfl, RX11, TX11, 60, rfl, rfl⟩, by decide +kernel⟩
theorem zmlp_11_408 : zmlP 11 408 mX11_eats 0 11 2 := zmlP0 ⟨zmd_mX11_eats, .inl (zmk8 71 (by decide +kernel)), zmk8 73 (by decide +kernel), zsel (n := 60) 145 (by decide +kernel), ⟨10, rfl, RX11, TX11, 60, rfl, rfl⟩, by decide +kernel⟩
theorem zmlp_11_411 : zmlP 11 411 mX11_isOut 0 11 1 := zmlP0 ⟨zmd_mX11_isOut, .inl (zmk8 59 (by decide +kernel)), zmk8 61 (by decide +kernel), zsel (n := 60) 142 (by decide +kernel), ⟨10, rfl, RX11, TX11, 60, rfl, rfl⟩, by decide +kernel⟩
theorem zmlp_11_414 : zmlP 11 414 mX11_isPart 0 11 1 := zmlP0 ⟨zmd_mX11_isPart, .inl (zmk8 63 (by decide +kernel)), zmk8 65 (by decide +kernel), zsel (n := 60) 143 (by decide +kernel), ⟨10, rfl, RX11, TX11, 60, rfl, rfl⟩, by decide +kernel⟩
theorem zmlp_11_417 : zmlP 11 417 mX11_isLine 0 11 1 := zmlP0 ⟨zmd_mX11_isLine, .inl (zmk8 55 (by decide +kernel)), zmk8 57 (by decide +kernel), zsel (n := 60) 141 (by decide +kernel), ⟨10, rfl, RX11, TX11, 60, rfl, rfl⟩, by decide +kernel⟩
theorem zmlp_11_420 : zmlP 11 420 mX11_outOf 0 11 4 := zmlP0 ⟨zmd_mX11_outOf, .inl (zmk8 87 (by decide +kernel)), zmk8 89 (by decide +kernel), zsel (n := 60) 146 (by decide +kernel), ⟨10, rfl, RX11, TX11, 60, rfl, rfl⟩, by decide +kernel⟩
theorem zmlp_11_423 : zmlP 11 423 mX11_held 0 11 0 := zmlP0 ⟨zmd_mX11_held, .inl (zmk8 95 (by decide +kernel)), zmk8 97 (by decide +kernel), zsel (n := 60) 147 (by decide +kernel), ⟨10, rfl, RX11, TX11, 60, rfl, rfl⟩, by decide +kernel⟩
theorem zmlp_12_7 : zmlP 12 7 mX10_task 0 10 2 := zmlP0 ⟨zmd_mX10_task, .inl (zmk2 207 (by decide +kernel)), zmk2 208 (by decide +kernel), zmk2 209 (by decide +kernel), ⟨9, rfl, RX10, TX10, 8, rfl, rfl⟩, by decide +kernel⟩
theorem zmlp_12_15 : zmlP 12 15 mX10_code 0 10 3 := zmlP0 ⟨zmd_mX10_code, .inl (zmk4 2 (by decide +kernel)), zmk4 3 (by decide +kernel), zmk4 4 (by decide +kernel), ⟨9, rfl, RX10, TX10, 8, rfl, rfl⟩, by decide +kernel⟩
theorem zmlp_12_21 : zmlP 12 21 mX10_memory 0 10 3 := zmlP0 ⟨zmd_mX10_memory, .inl (zmk4 32 (by decide +kernel)), zmk4 33 (by decide +kernel), zmk4 34 (by decide +kernel), ⟨9, rfl, RX10, TX10, 8, rfl, rfl⟩, by decide +kernel⟩
theorem zmlp_12_24 : zmlP 12 24 mX10_length 0 10 1 := zmlP0 ⟨zmd_mX10_length, .inl (zmk4 43 (by decide +kernel)), zmk4 44 (by decide +kernel), zmk4 45 (by decide +kernel), ⟨9, rfl, RX10, TX10, 8, rfl, rfl⟩, by decide +kernel⟩
theorem zmlp_12_28 : zmlP 12 28 mX10_cell 0 10 3 := zmlP0 ⟨zmd_mX10_cell, .inl (zmk4 90 (by decide +kernel)), zmk4 91 (by decide +kernel), zmk4 92 (by decide +kernel), ⟨9, rfl, RX10, TX10, 8, rfl, rfl⟩, by decide +kernel⟩
theorem zmlp_12_31 : zmlP 12 31 mX10_sum 0 10 2 := zmlP0 ⟨zmd_mX10_sum, .inl (zmk4 98 (by decide +kernel)), zmk4 99 (by decide +kernel), zmk4 100 (by decide +kernel), ⟨9, rfl, RX10, TX10, 8, rfl, rfl⟩, by decide +kernel⟩
theorem zmlp_12_34 : zmlP 12 34 mX10_beside 0 10 4 := zmlP0 ⟨zmd_mX10_beside, .inl (zmk4 114 (by decide +kernel)), zmk4 115 (by decide +kernel), zmk4 116 (by decide +kernel), ⟨9, rfl, RX10, TX10, 8, rfl, rfl⟩, by decide +kernel⟩
theorem zmlp_12_38 : zmlP 12 38 mX10_shown 0 10 4 := zmlP0 ⟨zmd_mX10_shown, .inl (zmk4 125 (by decide +kernel)), zmk4 126 (by decide +kernel), zmk4 127 (by decide +kernel), ⟨9, rfl, RX10, TX10, 8, rfl, rfl⟩, by decide +kernel⟩
theorem zmlp_12_42 : zmlP 12 42 mX10_cut 0 10 2 := zmlP0 ⟨zmd_mX10_cut, .inl (zmk4 137 (by decide +kernel)), zmk4 138 (by decide +kernel), zmk4 139 (by decide +kernel), ⟨9, rfl, RX10, TX10, 8, rfl, rfl⟩, by decide +kernel⟩
theorem zmlp_12_45 : zmlP 12 45 mX10_house 0 10 1 := zmlP0 ⟨zmd_mX10_house, .inl (zmk4 148 (by decide +kernel)), zmk4 149 (by decide +kernel), zmk4 150 (by decide +kernel), ⟨9, rfl, RX10, TX10, 8, rfl, rfl⟩, by decide +kernel⟩
theorem zmlp_12_48 : zmlP 12 48 mX10_told 0 10 2 := zmlP0 ⟨zmd_mX10_told, .inl (zmk4 155 (by decide +kernel)), zmk4 156 (by decide +kernel), zmk4 157 (by decide +kernel), ⟨9, rfl, RX10, TX10, 8, rfl, rfl⟩, by decide +kernel⟩
theorem zmlp_12_51 : zmlP 12 51 mX10_rule 0 10 2 := zmlP0 ⟨zmd_mX10_rule, .inl (zmk4 166 (by decide +kernel)), zmk4 167 (by decide +kernel), zmk4 168 (by decide +kernel), ⟨9, rfl, RX10, TX10, 8, rfl, rfl⟩, by decide +kernel⟩
theorem zmlp_12_54 : zmlP 12 54 mX10_give 0 10 6 := zmlP0 ⟨zmd_mX10_give, .inl (zmk4 173 (by decide +kernel)), zmk4 174 (by decide +kernel), zmk4 175 (by decide +kernel), ⟨9, rfl, RX10, TX10, 8, rfl, rfl⟩, by decide +kernel⟩
theorem zmlp_12_58 : zmlP 12 58 mX10_claim 0 10 3 := zmlP0 ⟨zmd_mX10_claim, .inl (zmk4 196 (by decide +kernel)), zmk4 197 (by decide +kernel), zmk4 198 (by decide +kernel), ⟨9, rfl, RX10, TX10, 8, rfl, rfl⟩, by decide +kernel⟩
theorem zmlp_12_61 : zmlP 12 61 mX10_doubt 0 10 4 := zmlP0 ⟨zmd_mX10_doubt, .inl (zmk4 203 (by decide +kernel)), zmk4 204 (by decide +kernel), zmk4 205 (by decide +kernel), ⟨9, rfl, RX10, TX10, 8, rfl, rfl⟩, by decide +kernel⟩
theorem zmlp_12_64 : zmlP 12 64 mX10_piece 0 10 3 := zmlP0 ⟨zmd_mX10_piece, .inl (zmk5 49 (by decide +kernel)), zmk5 50 (by decide +kernel), zmk5 51 (by decide +kernel), ⟨9, rfl, RX10, TX10, 8, rfl, rfl⟩, by decide +kernel⟩
theorem zmlp_12_67 : zmlP 12 67 mX10_answer 0 10 4 := zmlP0 ⟨zmd_mX10_answer, .inl (zmk5 60 (by decide +kernel)), zmk5 61 (by decide +kernel), zmk5 62 (by decide +kernel), ⟨9, rfl, RX10, TX10, 8, rfl, rfl⟩, by decide +kernel⟩
theorem zmlp_12_71 : zmlP 12 71 mX10_tick 0 10 1 := zmlP0 ⟨zmd_mX10_tick, .inl (zmk5 83 (by decide +kernel)), zmk5 84 (by decide +kernel), zmk5 85 (by decide +kernel), ⟨9, rfl, RX10, TX10, 8, rfl, rfl⟩, by decide +kernel⟩
theorem zmlp_12_76 : zmlP 12 76 mX10_trial 0 10 4 := zmlP0 ⟨zmd_mX10_trial, .inl (zmk5 128 (by decide +kernel)), zmk5 129 (by decide +kernel), zmk5 130 (by decide +kernel), ⟨9, rfl, RX10, TX10, 8, rfl, rfl⟩, by decide +kernel⟩
theorem zmlp_12_79 : zmlP 12 79 mX10_bid 0 10 6 := zmlP0 ⟨zmd_mX10_bid, .inl (zmk5 135 (by decide +kernel)), zmk5 136 (by decide +kernel), zmk5 137 (by decide +kernel), ⟨9, rfl, RX10, TX10, 8, rfl, rfl⟩, by decide +kernel⟩
theorem zmlp_12_82 : zmlP 12 82 mX10_cost 0 10 3 := zmlP0 ⟨zmd_mX10_cost, .inl (zmk5 151 (by decide +kernel)), zmk5 152 (by decide +kernel), zmk5 153 (by decide +kernel), ⟨9, rfl, RX10, TX10, 8, rfl, rfl⟩, by decide +kernel⟩
theorem zmlp_12_86 : zmlP 12 86 mX10_chosen 0 10 4 := zmlP0 ⟨zmd_mX10_chosen, .inl (zmk5 169 (by decide +kernel)), zmk5 170 (by decide +kernel), zmk5 171 (by decide +kernel), ⟨9, rfl, RX10, TX10, 8, rfl, rfl⟩, by decide +kernel⟩
theorem zmlp_12_90 : zmlP 12 90 mX10_linear 0 10 1 := zmlP0 ⟨zmd_mX10_linear, .inl (zmk5 203 (by decide +kernel)), zmk5 204 (by decide +kernel), zmk5 205 (by decide +kernel), ⟨9, rfl, RX10, TX10, 8, rfl, rfl⟩, by decide +kernel⟩
theorem zmlp_12_93 : zmlP 12 93 mX10_lot 0 10 4 := zmlP0 ⟨zmd_mX10_lot, .inl (zmk5 210 (by decide +kernel)), zmk5 211 (by decide +kernel), zmk5 212 (by decide +kernel), ⟨9, rfl, RX10, TX10, 8, rfl, rfl⟩, by decide +kernel⟩
theorem zmlp_12_96 : zmlP 12 96 mX10_part 0 10 4 := zmlP0 ⟨zmd_mX10_part, .inl (zmk5 217 (by decide +kernel)), zmk5 218 (by decide +kernel), zmk5 219 (by decide +kernel), ⟨9, rfl, RX10, TX10, 8, rfl, rfl⟩, by decide +kernel⟩
theorem zmlp_12_99 : zmlP 12 99 mX10_out 0 10 3 := zmlP0 ⟨zmd_mX10_out, .inl (zmk5 228 (by decide +kernel)), zmk5 229 (by decide +kernel), zmk5 230 (by decide +kernel), ⟨9, rfl, RX10, TX10, 8, rfl, rfl⟩, by decide +kernel⟩
theorem zmlp_12_102 : zmlP 12 102 mX10_purse 0 10 1 := zmlP0 ⟨zmd_mX10_purse, .inl (zmk6 6 (by decide +kernel)), zmk6 7 (by decide +kernel), zmk6 8 (by decide +kernel), ⟨9, rfl, RX10, TX10, 8, rfl, rfl⟩, by decide +kernel⟩
theorem zmlp_12_105 : zmlP 12 105 mX10_init 2 10 0 := zmlP2 ⟨zmd_mX10_init, .inl (zmk1 27 (by decide +kernel)), zmk1 28 (by decide +kernel), rfl, rfl, by decide +kernel⟩
theorem zmlp_12_108 : zmlP 12 108 mX11_init 2 11 0 := zmlP2 ⟨zmd_mX11_init, .inl (zmk6 12 (by decide +kernel)), zmk6 13 (by decide +kernel), rfl, rfl, by decide +kernel⟩
theorem zmlp_12_109 : zmlP 12 109 mX10_feed 0 10 5 := zmlP0 ⟨zmd_mX10_feed, .inl (zmk2 167 (by decide +kernel)), zmk2 168 (by decide +kernel), zmk2 169 (by decide +kernel), ⟨9, rfl, RX10, TX10, 8, rfl, rfl⟩, by decide +kernel⟩
theorem zmlp_12_113 : zmlP 12 113 mX11_feed 0 11 5 := zmlP0 ⟨zmd_mX11_feed, .inl (zmk6 202 (by decide +kernel)), zmk6 203 (by decide +kernel), zmk6 204 (by decide +kernel), ⟨10, rfl, RX11, TX11, 60, rfl, rfl⟩, by decide +kernel⟩
theorem zmlp_12_114 : zmlP 12 114 mL_task 5 0 4 := zmlPx (by decide)
theorem zmlp_12_119 : zmlP 12 119 mX11_task 0 11 2 := zmlP0 ⟨zmd_mX11_task, .inl (zmk6 206 (by decide +kernel)), zmk6 207 (by decide +kernel), zmk6 208 (by decide +kernel), ⟨10, rfl, RX11, TX11, 60, rfl, rfl⟩, by decide +kernel⟩
theorem zmlp_12_120 : zmlP 12 120 mX11_thrown 0 11 0 := zmlP0 ⟨zmd_mX11_thrown, .inl (zmk6 198 (by decide +kernel)), zmk6 199 (by decide +kernel), zmk6 200 (by decide +kernel), ⟨10, rfl, RX11, TX11, 60, rfl, rfl⟩, by decide +kernel⟩
theorem zmlp_12_124 : zmlP 12 124 mX10_fault 0 10 0 := zmlP0 ⟨zmd_mX10_fault, .inl (zmk2 175 (by decide +kernel)), zmk2 176 (by decide +kernel), zmk2 177 (by decide +kernel), ⟨9, rfl, RX10, TX10, 8, rfl, rfl⟩, by decide +kernel⟩
theorem zmlp_12_127 : zmlP 12 127 mX11_fault 0 11 0 := zmlP0 ⟨zmd_mX11_fault, .inl (zmk7 80 (by decide +kernel)), zmk7 81 (by decide +kernel), zmk7 82 (by decide +kernel), ⟨10, rfl, RX11, TX11, 60, rfl, rfl⟩, by decide +kernel⟩
theorem zmlp_12_128 : zmlP 12 128 mL_code 5 0 5 := zmlPx (by decide)
theorem zmlp_12_131 : zmlP 12 131 mX11_code 0 11 3 := zmlP0 ⟨zmd_mX11_code, .inl (zmk7 84 (by decide +kernel)), zmk7 85 (by decide +kernel), zmk7 86 (by decide +kernel), ⟨10, rfl, RX11, TX11, 60, rfl, rfl⟩, by decide +kernel⟩
theorem zmlp_12_132 : zmlP 12 132 mL_memory 5 0 5 := zmlPx (by decide)
theorem zmlp_12_134 : zmlP 12 134 mX11_memory 0 11 3 := zmlP0 ⟨zmd_mX11_memory, .inl (zmk7 92 (by decide +kernel)), zmk7 93 (by decide +kernel), zmk7 94 (by decide +kernel), ⟨10, rfl, RX11, TX11, 60, rfl, rfl⟩, by decide +kernel⟩
theorem zmlp_12_135 : zmlP 12 135 mL_length 5 0 3 := zmlPx (by decide)
theorem zmlp_12_138 : zmlP 12 138 mX11_length 0 11 1 := zmlP0 ⟨zmd_mX11_length, .inl (zmk7 96 (by decide +kernel)), zmk7 97 (by decide +kernel), zmk7 98 (by decide +kernel), ⟨10, rfl, RX11, TX11, 60, rfl, rfl⟩, by decide +kernel⟩
theorem zmlp_12_139 : zmlP 12 139 mL_cell 5 0 5 := zmlPx (by decide)
theorem zmlp_12_141 : zmlP 12 141 mX11_cell 0 11 3 := zmlP0 ⟨zmd_mX11_cell, .inl (zmk7 131 (by decide +kernel)), zmk7 132 (by decide +kernel), zmk7 133 (by decide +kernel), ⟨10, rfl, RX11, TX11, 60, rfl, rfl⟩, by decide +kernel⟩
theorem zmlp_12_142 : zmlP 12 142 mL_sum 5 0 4 := zmlPx (by decide)
theorem zmlp_12_144 : zmlP 12 144 mX11_sum 0 11 2 := zmlP0 ⟨zmd_mX11_sum, .inl (zmk7 135 (by decide +kernel)), zmk7 136 (by decide +kernel), zmk7 137 (by decide +kernel), ⟨10, rfl, RX11, TX11, 60, rfl, rfl⟩, by decide +kernel⟩
theorem zmlp_12_145 : zmlP 12 145 mL_beside 5 0 6 := zmlPx (by decide)
theorem zmlp_12_148 : zmlP 12 148 mX11_beside 0 11 4 := zmlP0 ⟨zmd_mX11_beside, .inl (zmk7 155 (by decide +kernel)), zmk7 156 (by decide +kernel), zmk7 157 (by decide +kernel), ⟨10, rfl, RX11, TX11, 60, rfl, rfl⟩, by decide +kernel⟩
theorem zmlp_12_149 : zmlP 12 149 mX10_both 0 10 2 := zmlP0 ⟨zmd_mX10_both, .inl (zmk2 179 (by decide +kernel)), zmk2 180 (by decide +kernel), zmk2 181 (by decide +kernel), ⟨9, rfl, RX10, TX10, 8, rfl, rfl⟩, by decide +kernel⟩
theorem zmlp_12_152 : zmlP 12 152 mX11_both 0 11 2 := zmlP0 ⟨zmd_mX11_both, .inl (zmk7 159 (by decide +kernel)), zmk7 160 (by decide +kernel), zmk7 161 (by decide +kernel), ⟨10, rfl, RX11, TX11, 60, rfl, rfl⟩, by decide +kernel⟩
theorem zmlp_12_153 : zmlP 12 153 mL_shown 5 0 6 := zmlPx (by decide)
theorem zmlp_12_155 : zmlP 12 155 mX11_shown 0 11 4 := zmlP0 ⟨zmd_mX11_shown, .inl (zmk7 163 (by decide +kernel)), zmk7 164 (by decide +kernel), zmk7 165 (by decide +kernel), ⟨10, rfl, RX11, TX11, 60, rfl, rfl⟩, by decide +kernel⟩
theorem zmlp_12_156 : zmlP 12 156 mL_cut 5 0 4 := zmlPx (by decide)
theorem zmlp_12_158 : zmlP 12 158 mX11_cut 0 11 2 := zmlP0 ⟨zmd_mX11_cut, .inl (zmk7 167 (by decide +kernel)), zmk7 168 (by decide +kernel), zmk7 169 (by decide +kernel), ⟨10, rfl, RX11, TX11, 60, rfl, rfl⟩, by decide +kernel⟩
theorem zmlp_12_159 : zmlP 12 159 mL_house 5 0 3 := zmlPx (by decide)
theorem zmlp_12_161 : zmlP 12 161 mX11_house 0 11 1 := zmlP0 ⟨zmd_mX11_house, .inl (zmk7 171 (by decide +kernel)), zmk7 172 (by decide +kernel), zmk7 173 (by decide +kernel), ⟨10, rfl, RX11, TX11, 60, rfl, rfl⟩, by decide +kernel⟩
theorem zmlp_12_162 : zmlP 12 162 mL_told 5 0 4 := zmlPx (by decide)
theorem zmlp_12_164 : zmlP 12 164 mX11_told 0 11 2 := zmlP0 ⟨zmd_mX11_told, .inl (zmk7 175 (by decide +kernel)), zmk7 176 (by decide +kernel), zmk7 177 (by decide +kernel), ⟨10, rfl, RX11, TX11, 60, rfl, rfl⟩, by decide +kernel⟩
theorem zmlp_12_165 : zmlP 12 165 mL_rule 5 0 4 := zmlPx (by decide)
theorem zmlp_12_167 : zmlP 12 167 mX11_rule 0 11 2 := zmlP0 ⟨zmd_mX11_rule, .inl (zmk7 183 (by decide +kernel)), zmk7 184 (by decide +kernel), zmk7 185 (by decide +kernel), ⟨10, rfl, RX11, TX11, 60, rfl, rfl⟩, by decide +kernel⟩
theorem zmlp_12_168 : zmlP 12 168 mL_give 5 0 8 := zmlPx (by decide)
theorem zmlp_12_171 : zmlP 12 171 mX11_give 0 11 6 := zmlP0 ⟨zmd_mX11_give, .inl (zmk7 187 (by decide +kernel)), zmk7 188 (by decide +kernel), zmk7 189 (by decide +kernel), ⟨10, rfl, RX11, TX11, 60, rfl, rfl⟩, by decide +kernel⟩
theorem zmlp_12_172 : zmlP 12 172 mL_claim 5 0 5 := zmlPx (by decide)
theorem zmlp_12_174 : zmlP 12 174 mX11_claim 0 11 3 := zmlP0 ⟨zmd_mX11_claim, .inl (zmk7 199 (by decide +kernel)), zmk7 200 (by decide +kernel), zmk7 201 (by decide +kernel), ⟨10, rfl, RX11, TX11, 60, rfl, rfl⟩, by decide +kernel⟩
theorem zmlp_12_175 : zmlP 12 175 mL_doubt 5 0 6 := zmlPx (by decide)
theorem zmlp_12_177 : zmlP 12 177 mX11_doubt 0 11 4 := zmlP0 ⟨zmd_mX11_doubt, .inl (zmk7 203 (by decide +kernel)), zmk7 204 (by decide +kernel), zmk7 205 (by decide +kernel), ⟨10, rfl, RX11, TX11, 60, rfl, rfl⟩, by decide +kernel⟩
theorem zmlp_12_178 : zmlP 12 178 mL_piece 5 0 5 := zmlPx (by decide)
theorem zmlp_12_180 : zmlP 12 180 mX11_piece 0 11 3 := zmlP0 ⟨zmd_mX11_piece, .inl (zmk8 3 (by decide +kernel)), zmk8 4 (by decide +kernel), zmk8 5 (by decide +kernel), ⟨10, rfl, RX11, TX11, 60, rfl, rfl⟩, by decide +kernel⟩
theorem zmlp_12_181 : zmlP 12 181 mL_answer 5 0 6 := zmlPx (by decide)
theorem zmlp_12_184 : zmlP 12 184 mX11_answer 0 11 4 := zmlP0 ⟨zmd_mX11_answer, .inl (zmk7 239 (by decide +kernel)), zmk8 0 (by decide +kernel), zmk8 1 (by decide +kernel), ⟨10, rfl, RX11, TX11, 60, rfl, rfl⟩, by decide +kernel⟩
theorem zmlp_12_185 : zmlP 12 185 mL_tick 5 0 3 := zmlPx (by decide)
theorem zmlp_12_187 : zmlP 12 187 mX11_tick 0 11 1 := zmlP0 ⟨zmd_mX11_tick, .inl (zmk8 7 (by decide +kernel)), zmk8 8 (by decide +kernel), zmk8 9 (by decide +kernel), ⟨10, rfl, RX11, TX11, 60, rfl, rfl⟩, by decide +kernel⟩
theorem zmlp_12_188 : zmlP 12 188 mL_trial 5 0 6 := zmlPx (by decide)
theorem zmlp_12_190 : zmlP 12 190 mX11_trial 0 11 4 := zmlP0 ⟨zmd_mX11_trial, .inl (zmk8 16 (by decide +kernel)), zmk8 17 (by decide +kernel), zmk8 18 (by decide +kernel), ⟨10, rfl, RX11, TX11, 60, rfl, rfl⟩, by decide +kernel⟩
theorem zmlp_12_191 : zmlP 12 191 mL_bid 5 0 8 := zmlPx (by decide)
theorem zmlp_12_193 : zmlP 12 193 mX11_bid 0 11 6 := zmlP0 ⟨zmd_mX11_bid, .inl (zmk8 20 (by decide +kernel)), zmk8 21 (by decide +kernel), zmk8 22 (by decide +kernel), ⟨10, rfl, RX11, TX11, 60, rfl, rfl⟩, by decide +kernel⟩
theorem zmlp_12_194 : zmlP 12 194 mL_cost 5 0 5 := zmlPx (by decide)
theorem zmlp_12_196 : zmlP 12 196 mX11_cost 0 11 3 := zmlP0 ⟨zmd_mX11_cost, .inl (zmk8 24 (by decide +kernel)), zmk8 25 (by decide +kernel), zmk8 26 (by decide +kernel), ⟨10, rfl, RX11, TX11, 60, rfl, rfl⟩, by decide +kernel⟩
theorem zmlp_12_197 : zmlP 12 197 mL_chosen 5 0 6 := zmlPx (by decide)
theorem zmlp_12_199 : zmlP 12 199 mX11_chosen 0 11 4 := zmlP0 ⟨zmd_mX11_chosen, .inl (zmk8 34 (by decide +kernel)), zmk8 35 (by decide +kernel), zmk8 36 (by decide +kernel), ⟨10, rfl, RX11, TX11, 60, rfl, rfl⟩, by decide +kernel⟩
theorem zmlp_12_200 : zmlP 12 200 mL_linear 5 0 3 := zmlPx (by decide)
theorem zmlp_12_202 : zmlP 12 202 mX11_linear 0 11 1 := zmlP0 ⟨zmd_mX11_linear, .inl (zmk8 43 (by decide +kernel)), zmk8 44 (by decide +kernel), zmk8 45 (by decide +kernel), ⟨10, rfl, RX11, TX11, 60, rfl, rfl⟩, by decide +kernel⟩
theorem zmlp_12_203 : zmlP 12 203 mL_lot 5 0 6 := zmlPx (by decide)
theorem zmlp_12_205 : zmlP 12 205 mX11_lot 0 11 4 := zmlP0 ⟨zmd_mX11_lot, .inl (zmk8 75 (by decide +kernel)), zmk8 76 (by decide +kernel), zmk8 77 (by decide +kernel), ⟨10, rfl, RX11, TX11, 60, rfl, rfl⟩, by decide +kernel⟩
theorem zmlp_12_206 : zmlP 12 206 mL_part 5 0 6 := zmlPx (by decide)
theorem zmlp_12_208 : zmlP 12 208 mX11_part 0 11 4 := zmlP0 ⟨zmd_mX11_part, .inl (zmk8 79 (by decide +kernel)), zmk8 80 (by decide +kernel), zmk8 81 (by decide +kernel), ⟨10, rfl, RX11, TX11, 60, rfl, rfl⟩, by decide +kernel⟩
theorem zmlp_12_209 : zmlP 12 209 mL_out 5 0 5 := zmlPx (by decide)
theorem zmlp_12_211 : zmlP 12 211 mX11_out 0 11 3 := zmlP0 ⟨zmd_mX11_out, .inl (zmk8 83 (by decide +kernel)), zmk8 84 (by decide +kernel), zmk8 85 (by decide +kernel), ⟨10, rfl, RX11, TX11, 60, rfl, rfl⟩, by decide +kernel⟩
theorem zmlp_12_212 : zmlP 12 212 mX10_count 0 10 1 := zmlP0 ⟨zmd_mX10_count, .inl (zmk2 187 (by decide +kernel)), zmk2 188 (by decide +kernel), zmk2 189 (by decide +kernel), ⟨9, rfl, RX10, TX10, 8, rfl, rfl⟩, by decide +kernel⟩
theorem zmlp_12_215 : zmlP 12 215 mX11_count 0 11 1 := zmlP0 ⟨zmd_mX11_count, .inl (zmk8 91 (by decide +kernel)), zmk8 92 (by decide +kernel), zmk8 93 (by decide +kernel), ⟨10, rfl, RX11, TX11, 60, rfl, rfl⟩, by decide +kernel⟩
theorem zmlp_12_216 : zmlP 12 216 mL_purse 5 0 3 := zmlPx (by decide)
theorem zmlp_12_218 : zmlP 12 218 mX11_purse 0 11 1 := zmlP0 ⟨zmd_mX11_purse, .inl (zmk8 99 (by decide +kernel)), zmk8 100 (by decide +kernel), zmk8 101 (by decide +kernel), ⟨10, rfl, RX11, TX11, 60, rfl, rfl⟩, by decide +kernel⟩
theorem zml0_ok {n : Nat} {y : zM} {t kd m : Nat} (h : zml0 n = some (y, t, kd, m)) : zmlP 0 n y t kd m := by
  unfold zml0 at h
  split at h
  · cases h; exact zmlp_0_3
  · cases h; exact zmlp_0_31
  · cases h; exact zmlp_0_44
  · cases h; exact zmlp_0_52
  · cases h; exact zmlp_0_56
  · cases h; exact zmlp_0_63
  · cases h; exact zmlp_0_79
  · cases h
theorem zml1_ok {n : Nat} {y : zM} {t kd m : Nat} (h : zml1 n = some (y, t, kd, m)) : zmlP 1 n y t kd m := by
  unfold zml1 at h
  split at h
  · cases h; exact zmlp_1_3
  · cases h; exact zmlp_1_11
  · cases h; exact zmlp_1_32
  · cases h; exact zmlp_1_36
  · cases h; exact zmlp_1_43
  · cases h; exact zmlp_1_46
  · cases h; exact zmlp_1_56
  · cases h; exact zmlp_1_59
  · cases h; exact zmlp_1_62
  · cases h; exact zmlp_1_65
  · cases h; exact zmlp_1_68
  · cases h; exact zmlp_1_72
  · cases h; exact zmlp_1_75
  · cases h; exact zmlp_1_80
  · cases h; exact zmlp_1_84
  · cases h; exact zmlp_1_92
  · cases h; exact zmlp_1_97
  · cases h; exact zmlp_1_100
  · cases h; exact zmlp_1_103
  · cases h; exact zmlp_1_108
  · cases h; exact zmlp_1_111
  · cases h; exact zmlp_1_114
  · cases h; exact zmlp_1_117
  · cases h; exact zmlp_1_121
  · cases h; exact zmlp_1_124
  · cases h
theorem zml2_ok {n : Nat} {y : zM} {t kd m : Nat} (h : zml2 n = some (y, t, kd, m)) : zmlP 2 n y t kd m := by
  unfold zml2 at h
  split at h
  · cases h; exact zmlp_2_3
  · cases h; exact zmlp_2_11
  · cases h; exact zmlp_2_28
  · cases h; exact zmlp_2_29
  · cases h; exact zmlp_2_40
  · cases h; exact zmlp_2_55
  · cases h; exact zmlp_2_69
  · cases h; exact zmlp_2_78
  · cases h; exact zmlp_2_84
  · cases h; exact zmlp_2_88
  · cases h; exact zmlp_2_107
  · cases h; exact zmlp_2_117
  · cases h; exact zmlp_2_124
  · cases h; exact zmlp_2_127
  · cases h; exact zmlp_2_134
  · cases h; exact zmlp_2_139
  · cases h; exact zmlp_2_142
  · cases h; exact zmlp_2_152
  · cases h; exact zmlp_2_156
  · cases h; exact zmlp_2_160
  · cases h; exact zmlp_2_164
  · cases h
theorem zml3_ok {n : Nat} {y : zM} {t kd m : Nat} (h : zml3 n = some (y, t, kd, m)) : zmlP 3 n y t kd m := by
  unfold zml3 at h
  split at h
  · cases h; exact zmlp_3_1
  · cases h
theorem zml4_ok {n : Nat} {y : zM} {t kd m : Nat} (h : zml4 n = some (y, t, kd, m)) : zmlP 4 n y t kd m := by
  unfold zml4 at h
  split at h
  · cases h; exact zmlp_4_9
  · cases h; exact zmlp_4_17
  · cases h; exact zmlp_4_21
  · cases h; exact zmlp_4_24
  · cases h; exact zmlp_4_37
  · cases h; exact zmlp_4_40
  · cases h; exact zmlp_4_44
  · cases h; exact zmlp_4_47
  · cases h; exact zmlp_4_53
  · cases h
theorem zml5_ok {n : Nat} {y : zM} {t kd m : Nat} (h : zml5 n = some (y, t, kd, m)) : zmlP 5 n y t kd m := by
  unfold zml5 at h
  split at h
  · cases h; exact zmlp_5_3
  · cases h; exact zmlp_5_29
  · cases h; exact zmlp_5_37
  · cases h; exact zmlp_5_41
  · cases h; exact zmlp_5_45
  · cases h; exact zmlp_5_55
  · cases h; exact zmlp_5_59
  · cases h; exact zmlp_5_62
  · cases h; exact zmlp_5_66
  · cases h; exact zmlp_5_69
  · cases h; exact zmlp_5_73
  · cases h; exact zmlp_5_77
  · cases h; exact zmlp_5_81
  · cases h; exact zmlp_5_84
  · cases h; exact zmlp_5_87
  · cases h; exact zmlp_5_91
  · cases h; exact zmlp_5_95
  · cases h
theorem zml6_ok {n : Nat} {y : zM} {t kd m : Nat} (h : zml6 n = some (y, t, kd, m)) : zmlP 6 n y t kd m := by
  unfold zml6 at h
  split at h
  · cases h; exact zmlp_6_3
  · cases h; exact zmlp_6_11
  · cases h; exact zmlp_6_50
  · cases h; exact zmlp_6_74
  · cases h
theorem zml7_ok {n : Nat} {y : zM} {t kd m : Nat} (h : zml7 n = some (y, t, kd, m)) : zmlP 7 n y t kd m := by
  unfold zml7 at h
  split at h
  · cases h; exact zmlp_7_3
  · cases h; exact zmlp_7_15
  · cases h; exact zmlp_7_50
  · cases h; exact zmlp_7_53
  · cases h; exact zmlp_7_57
  · cases h; exact zmlp_7_61
  · cases h
theorem zml8_ok {n : Nat} {y : zM} {t kd m : Nat} (h : zml8 n = some (y, t, kd, m)) : zmlP 8 n y t kd m := by
  unfold zml8 at h
  split at h
  · cases h; exact zmlp_8_3
  · cases h; exact zmlp_8_19
  · cases h; exact zmlp_8_31
  · cases h; exact zmlp_8_43
  · cases h; exact zmlp_8_47
  · cases h; exact zmlp_8_50
  · cases h; exact zmlp_8_53
  · cases h; exact zmlp_8_57
  · cases h; exact zmlp_8_63
  · cases h; exact zmlp_8_67
  · cases h; exact zmlp_8_70
  · cases h
theorem zml9_ok {n : Nat} {y : zM} {t kd m : Nat} (h : zml9 n = some (y, t, kd, m)) : zmlP 9 n y t kd m := by
  unfold zml9 at h
  split at h
  · cases h; exact zmlp_9_3
  · cases h; exact zmlp_9_32
  · cases h; exact zmlp_9_39
  · cases h
theorem zml10_ok {n : Nat} {y : zM} {t kd m : Nat} (h : zml10 n = some (y, t, kd, m)) : zmlP 10 n y t kd m := by
  unfold zml10 at h
  split at h
  · cases h; exact zmlp_10_1
  · cases h; exact zmlp_10_9
  · cases h; exact zmlp_10_18
  · cases h; exact zmlp_10_25
  · cases h; exact zmlp_10_40
  · cases h; exact zmlp_10_50
  · cases h; exact zmlp_10_55
  · cases h; exact zmlp_10_65
  · cases h; exact zmlp_10_72
  · cases h; exact zmlp_10_78
  · cases h; exact zmlp_10_82
  · cases h; exact zmlp_10_86
  · cases h; exact zmlp_10_107
  · cases h; exact zmlp_10_112
  · cases h; exact zmlp_10_116
  · cases h; exact zmlp_10_123
  · cases h; exact zmlp_10_127
  · cases h; exact zmlp_10_131
  · cases h; exact zmlp_10_134
  · cases h; exact zmlp_10_137
  · cases h; exact zmlp_10_153
  · cases h; exact zmlp_10_166
  · cases h; exact zmlp_10_179
  · cases h; exact zmlp_10_186
  · cases h; exact zmlp_10_199
  · cases h; exact zmlp_10_205
  · cases h; exact zmlp_10_209
  · cases h; exact zmlp_10_234
  · cases h; exact zmlp_10_240
  · cases h; exact zmlp_10_244
  · cases h; exact zmlp_10_252
  · cases h; exact zmlp_10_255
  · cases h; exact zmlp_10_260
  · cases h; exact zmlp_10_263
  · cases h; exact zmlp_10_266
  · cases h; exact zmlp_10_269
  · cases h; exact zmlp_10_272
  · cases h; exact zmlp_10_278
  · cases h; exact zmlp_10_283
  · cases h; exact zmlp_10_293
  · cases h; exact zmlp_10_302
  · cases h; exact zmlp_10_306
  · cases h; exact zmlp_10_309
  · cases h; exact zmlp_10_316
  · cases h; exact zmlp_10_319
  · cases h; exact zmlp_10_326
  · cases h; exact zmlp_10_334
  · cases h; exact zmlp_10_338
  · cases h; exact zmlp_10_341
  · cases h
theorem zml11_ok {n : Nat} {y : zM} {t kd m : Nat} (h : zml11 n = some (y, t, kd, m)) : zmlP 11 n y t kd m := by
  unfold zml11 at h
  split at h
  · cases h; exact zmlp_11_3
  · cases h; exact zmlp_11_163
  · cases h; exact zmlp_11_170
  · cases h; exact zmlp_11_173
  · cases h; exact zmlp_11_179
  · cases h; exact zmlp_11_183
  · cases h; exact zmlp_11_187
  · cases h; exact zmlp_11_191
  · cases h; exact zmlp_11_198
  · cases h; exact zmlp_11_208
  · cases h; exact zmlp_11_211
  · cases h; exact zmlp_11_215
  · cases h; exact zmlp_11_218
  · cases h; exact zmlp_11_221
  · cases h; exact zmlp_11_226
  · cases h; exact zmlp_11_229
  · cases h; exact zmlp_11_234
  · cases h; exact zmlp_11_237
  · cases h; exact zmlp_11_240
  · cases h; exact zmlp_11_243
  · cases h; exact zmlp_11_252
  · cases h; exact zmlp_11_255
  · cases h; exact zmlp_11_259
  · cases h; exact zmlp_11_262
  · cases h; exact zmlp_11_265
  · cases h; exact zmlp_11_268
  · cases h; exact zmlp_11_271
  · cases h; exact zmlp_11_276
  · cases h; exact zmlp_11_280
  · cases h; exact zmlp_11_284
  · cases h; exact zmlp_11_287
  · cases h; exact zmlp_11_291
  · cases h; exact zmlp_11_294
  · cases h; exact zmlp_11_298
  · cases h; exact zmlp_11_301
  · cases h; exact zmlp_11_305
  · cases h; exact zmlp_11_308
  · cases h; exact zmlp_11_311
  · cases h; exact zmlp_11_315
  · cases h; exact zmlp_11_318
  · cases h; exact zmlp_11_321
  · cases h; exact zmlp_11_324
  · cases h; exact zmlp_11_327
  · cases h; exact zmlp_11_333
  · cases h; exact zmlp_11_336
  · cases h; exact zmlp_11_343
  · cases h; exact zmlp_11_346
  · cases h; exact zmlp_11_349
  · cases h; exact zmlp_11_352
  · cases h; exact zmlp_11_355
  · cases h; exact zmlp_11_362
  · cases h; exact zmlp_11_365
  · cases h; exact zmlp_11_368
  · cases h; exact zmlp_11_372
  · cases h; exact zmlp_11_380
  · cases h; exact zmlp_11_390
  · cases h; exact zmlp_11_399
  · cases h; exact zmlp_11_402
  · cases h; exact zmlp_11_405
  · cases h; exact zmlp_11_408
  · cases h; exact zmlp_11_411
  · cases h; exact zmlp_11_414
  · cases h; exact zmlp_11_417
  · cases h; exact zmlp_11_420
  · cases h; exact zmlp_11_423
  · cases h
theorem zml12_ok {n : Nat} {y : zM} {t kd m : Nat} (h : zml12 n = some (y, t, kd, m)) : zmlP 12 n y t kd m := by
  unfold zml12 at h
  split at h
  · cases h; exact zmlp_12_7
  · cases h; exact zmlp_12_15
  · cases h; exact zmlp_12_21
  · cases h; exact zmlp_12_24
  · cases h; exact zmlp_12_28
  · cases h; exact zmlp_12_31
  · cases h; exact zmlp_12_34
  · cases h; exact zmlp_12_38
  · cases h; exact zmlp_12_42
  · cases h; exact zmlp_12_45
  · cases h; exact zmlp_12_48
  · cases h; exact zmlp_12_51
  · cases h; exact zmlp_12_54
  · cases h; exact zmlp_12_58
  · cases h; exact zmlp_12_61
  · cases h; exact zmlp_12_64
  · cases h; exact zmlp_12_67
  · cases h; exact zmlp_12_71
  · cases h; exact zmlp_12_76
  · cases h; exact zmlp_12_79
  · cases h; exact zmlp_12_82
  · cases h; exact zmlp_12_86
  · cases h; exact zmlp_12_90
  · cases h; exact zmlp_12_93
  · cases h; exact zmlp_12_96
  · cases h; exact zmlp_12_99
  · cases h; exact zmlp_12_102
  · cases h; exact zmlp_12_105
  · cases h; exact zmlp_12_108
  · cases h; exact zmlp_12_109
  · cases h; exact zmlp_12_113
  · cases h; exact zmlp_12_114
  · cases h; exact zmlp_12_119
  · cases h; exact zmlp_12_120
  · cases h; exact zmlp_12_124
  · cases h; exact zmlp_12_127
  · cases h; exact zmlp_12_128
  · cases h; exact zmlp_12_131
  · cases h; exact zmlp_12_132
  · cases h; exact zmlp_12_134
  · cases h; exact zmlp_12_135
  · cases h; exact zmlp_12_138
  · cases h; exact zmlp_12_139
  · cases h; exact zmlp_12_141
  · cases h; exact zmlp_12_142
  · cases h; exact zmlp_12_144
  · cases h; exact zmlp_12_145
  · cases h; exact zmlp_12_148
  · cases h; exact zmlp_12_149
  · cases h; exact zmlp_12_152
  · cases h; exact zmlp_12_153
  · cases h; exact zmlp_12_155
  · cases h; exact zmlp_12_156
  · cases h; exact zmlp_12_158
  · cases h; exact zmlp_12_159
  · cases h; exact zmlp_12_161
  · cases h; exact zmlp_12_162
  · cases h; exact zmlp_12_164
  · cases h; exact zmlp_12_165
  · cases h; exact zmlp_12_167
  · cases h; exact zmlp_12_168
  · cases h; exact zmlp_12_171
  · cases h; exact zmlp_12_172
  · cases h; exact zmlp_12_174
  · cases h; exact zmlp_12_175
  · cases h; exact zmlp_12_177
  · cases h; exact zmlp_12_178
  · cases h; exact zmlp_12_180
  · cases h; exact zmlp_12_181
  · cases h; exact zmlp_12_184
  · cases h; exact zmlp_12_185
  · cases h; exact zmlp_12_187
  · cases h; exact zmlp_12_188
  · cases h; exact zmlp_12_190
  · cases h; exact zmlp_12_191
  · cases h; exact zmlp_12_193
  · cases h; exact zmlp_12_194
  · cases h; exact zmlp_12_196
  · cases h; exact zmlp_12_197
  · cases h; exact zmlp_12_199
  · cases h; exact zmlp_12_200
  · cases h; exact zmlp_12_202
  · cases h; exact zmlp_12_203
  · cases h; exact zmlp_12_205
  · cases h; exact zmlp_12_206
  · cases h; exact zmlp_12_208
  · cases h; exact zmlp_12_209
  · cases h; exact zmlp_12_211
  · cases h; exact zmlp_12_212
  · cases h; exact zmlp_12_215
  · cases h; exact zmlp_12_216
  · cases h; exact zmlp_12_218
  · cases h
theorem zml_ok {o n : Nat} {y : zM} {t kd m : Nat} (h : zml o n = some (y, t, kd, m)) : zmlP o n y t kd m := by
  match o, h with
  | 0, h => exact zml0_ok h
  | 1, h => exact zml1_ok h
  | 2, h => exact zml2_ok h
  | 3, h => exact zml3_ok h
  | 4, h => exact zml4_ok h
  | 5, h => exact zml5_ok h
  | 6, h => exact zml6_ok h
  | 7, h => exact zml7_ok h
  | 8, h => exact zml8_ok h
  | 9, h => exact zml9_ok h
  | 10, h => exact zml10_ok h
  | 11, h => exact zml11_ok h
  | 12, h => exact zml12_ok h
  | n + 13, h => simp [zml] at h
/-! CONSTANTS, CLASSES -/
theorem zld_ok {o n : Nat} {v : Int32} (h : zld o n = some v) : Cond.constant (zRn o) n v ∈ lw_tbl := by
  unfold zld at h
  split at h
  · cases h; exact zmk2 186 (by decide +kernel)
  · cases h; exact zmk2 211 (by decide +kernel)
  · cases h; exact zmk3 60 (by decide +kernel)
  · cases h; exact zmk3 113 (by decide +kernel)
  · cases h; exact zmk5 87 (by decide +kernel)
  · cases h; exact zmk5 107 (by decide +kernel)
  · cases h; exact zmk5 112 (by decide +kernel)
  · cases h; exact zmk5 176 (by decide +kernel)
  · cases h; exact zmk5 177 (by decide +kernel)
  · cases h; exact zmk5 178 (by decide +kernel)
  · cases h; exact zmk6 210 (by decide +kernel)
  · cases h; exact zmk7 50 (by decide +kernel)
  · cases h; exact zmk7 154 (by decide +kernel)
  · cases h; exact zmk8 11 (by decide +kernel)
  · cases h
theorem zl2_ok {o n : Nat} {v : Int64} (h : zl2 o n = some v) : Cond.constantLong (zRn o) n v ∈ lw_tbl := by
  unfold zl2 at h
  split at h
  · cases h; exact zmk5 14 (by decide +kernel)
  · cases h; exact zmk5 159 (by decide +kernel)
  · cases h; exact zmk5 160 (by decide +kernel)
  · cases h; exact zmk5 161 (by decide +kernel)
  · cases h; exact zmk5 165 (by decide +kernel)
  · cases h; exact zmk5 195 (by decide +kernel)
  · cases h; exact zmk8 32 (by decide +kernel)
  · cases h; exact zmk8 33 (by decide +kernel)
  · cases h; exact zmk8 42 (by decide +kernel)
  · cases h
theorem znw_ok {o n : Nat} {kd m : Nat} (h : znw o n = some (kd, m)) : ∃ ci C T, kd = 1 + ci ∧ vwCl[ci]? = some (C, T, m) ∧ Cond.classLink (zRn o) n C ∈ lw_tbl := by
  unfold znw at h
  split at h
  · cases h; exact ⟨9, RX10, TX10, rfl, rfl, zmk1 25 (by decide +kernel)⟩
  · cases h; exact ⟨1, RX1, TX1, rfl, rfl, zmk1 33 (by decide +kernel)⟩
  · cases h; exact ⟨7, RX8, TX8, rfl, rfl, zmk1 39 (by decide +kernel)⟩
  · cases h; exact ⟨2, RX2, TX2, rfl, rfl, zmk1 98 (by decide +kernel)⟩
  · cases h; exact ⟨4, RX5, TX5, rfl, rfl, zmk1 104 (by decide +kernel)⟩
  · cases h; exact ⟨3, RX3, TX3, rfl, rfl, zmk1 127 (by decide +kernel)⟩
  · cases h; exact ⟨0, RX0, TX0, rfl, rfl, zmk1 171 (by decide +kernel)⟩
  · cases h; exact ⟨8, RX9, TX9, rfl, rfl, zmk1 206 (by decide +kernel)⟩
  · cases h; exact ⟨5, RX6, TX6, rfl, rfl, zmk1 215 (by decide +kernel)⟩
  · cases h; exact ⟨6, RX7, TX7, rfl, rfl, zmk1 222 (by decide +kernel)⟩
  · cases h; exact ⟨10, RX11, TX11, rfl, rfl, zmk6 10 (by decide +kernel)⟩
  · cases h
theorem zna_ok {o n : Nat} {kd : Nat} (h : zna o n = some kd) : ∃ C, 105 ≤ kd ∧ kd ≤ 107 ∧ zaty kd = .object C ∧ Cond.classLink (zRn o) n C ∈ lw_tbl ∧ (C = RX9 ∨ C = RX6 ∨ C = RX3) := by
  unfold zna at h
  split at h
  · cases h; exact ⟨RX3, by decide, by decide, rfl, zmk1 127 (by decide +kernel), .inr (.inr rfl)⟩
  · cases h; exact ⟨RX9, by decide, by decide, rfl, zmk1 206 (by decide +kernel), .inl rfl⟩
  · cases h; exact ⟨RX6, by decide, by decide, rfl, zmk1 215 (by decide +kernel), .inr (.inl rfl)⟩
  · cases h
theorem zxat0 : ∀ w ∈ vx_at0 RX10 61 "java/lang/IllegalArgumentException" ["java/lang/RuntimeException", "java/lang/Exception"], w ∈ lw_tbl := by decide +kernel
theorem zxok0 : ∀ w ∈ vx_at0 RX10 61 "java/lang/IllegalArgumentException" ["java/lang/RuntimeException", "java/lang/Exception"], zok w = true := by decide +kernel
theorem zxat1 : ∀ w ∈ vx_at0 RX10 325 "java/lang/IndexOutOfBoundsException" ["java/lang/RuntimeException", "java/lang/Exception"], w ∈ lw_tbl := by decide +kernel
theorem zxok1 : ∀ w ∈ vx_at0 RX10 325 "java/lang/IndexOutOfBoundsException" ["java/lang/RuntimeException", "java/lang/Exception"], zok w = true := by decide +kernel
theorem zxat2 : ∀ w ∈ vx_at0 RX10 251 "java/lang/IllegalStateException" ["java/lang/RuntimeException", "java/lang/Exception"], w ∈ lw_tbl := by decide +kernel
theorem zxok2 : ∀ w ∈ vx_at0 RX10 251 "java/lang/IllegalStateException" ["java/lang/RuntimeException", "java/lang/Exception"], zok w = true := by decide +kernel
def zxcP (ik : Nat) (E : String) (ic : Nat) : Prop := Cond.classLink RX10 ik E ∈ lw_tbl ∧ Cond.initialized E ∈ lw_tbl ∧ Bundle.fit E = true ∧ (∀ w ∈ vx_at0 RX10 ic E ["java/lang/RuntimeException", "java/lang/Exception"], w ∈ lw_tbl ∧ zok w = true)
theorem zxc_ok {o n : Nat} {E : String} {ic : Nat} (h : zxc o n = some (E, ic)) : o = 10 ∧ zxcP n E ic := by
  unfold zxc at h
  split at h
  · cases h; exact ⟨rfl, zmk2 215 (by decide +kernel), zmk1 15 (by decide +kernel), by decide +kernel, fun w hw => ⟨zxat0 w hw, zxok0 w hw⟩⟩
  · cases h; exact ⟨rfl, zmk4 10 (by decide +kernel), zmk1 22 (by decide +kernel), by decide +kernel, fun w hw => ⟨zxat1 w hw, zxok1 w hw⟩⟩
  · cases h; exact ⟨rfl, zmk5 88 (by decide +kernel), zmk1 23 (by decide +kernel), by decide +kernel, fun w hw => ⟨zxat2 w hw, zxok2 w hw⟩⟩
  · cases h
set_option maxRecDepth 100000 in
theorem zmaxi_ok : Cond.static Lib.Math.max.name ∈ lw_tbl ∧ Cond.initialized "java/lang/Math" ∈ lw_tbl ∧ Cond.code Lib.Math.max.name Lib.Math.max.code 2 (some .int) ∈ lw_tbl := ⟨zmk5 115 (by decide +kernel), zmk1 16 (by decide +kernel), zmk5 116 rfl⟩
set_option maxRecDepth 100000 in
theorem zmini_ok : Cond.static Lib.Math.min.name ∈ lw_tbl ∧ Cond.initialized "java/lang/Math" ∈ lw_tbl ∧ Cond.code Lib.Math.min.name Lib.Math.min.code 2 (some .int) ∈ lw_tbl := ⟨zmk3 47 (by decide +kernel), zmk1 16 (by decide +kernel), zmk3 48 rfl⟩
set_option maxRecDepth 100000 in
theorem zmaxl_ok : Cond.static Lib.MathLoose.max_long.x ∈ lw_tbl ∧ Cond.initialized "java/lang/Math" ∈ lw_tbl ∧ Cond.code Lib.MathLoose.max_long.x Lib.MathLoose.max_long.code 4 (some .long) ∈ lw_tbl := ⟨zmk5 163 (by decide +kernel), zmk1 16 (by decide +kernel), zmk5 164 rfl⟩
set_option maxRecDepth 100000 in
theorem zobj_ok : Cond.instanceMethod Lib.objectInit ∈ lw_tbl ∧ Cond.code Lib.objectInit ⟨#[0xb1]⟩ 1 none ∈ lw_tbl := ⟨zmk1 31 (by decide +kernel), zmk1 32 rfl⟩
theorem zmna_ok : Cond.classLink (zRn 9) 21 ("[" ++ (FieldType.array .int).toString) ∈ lw_tbl := zmk1 213 (by decide +kernel)
