theorem zclp0 : zclP 0 RX0 TX0 9 := ⟨zmems [187, 189, 191, 193, 195, 197, 199, 201, 203] (by decide +kernel), tyX0_ok, nmX0, rfl, zmk1 172 (by decide +kernel), zmk1 7 (by decide +kernel), rfl, by decide +kernel⟩
theorem zclp1 : zclP 1 RX1 TX1 6 := ⟨zmems [85, 87, 89, 91, 93, 95] (by decide +kernel), tyX1_ok, nmX1, rfl, zmk1 34 (by decide +kernel), zmk1 2 (by decide +kernel), rfl, by decide +kernel⟩
theorem zclp2 : zclP 2 RX2 TX2 5 := ⟨zmems [160, 162, 164, 166, 168] (by decide +kernel), tyX2_ok, nmX2, rfl, zmk1 99 (by decide +kernel), zmk1 4 (by decide +kernel), rfl, by decide +kernel⟩
theorem zclp3 : zclP 3 RX3 TX3 3 := ⟨zmems [143, 145, 147] (by decide +kernel), tyX3_ok, nmX3, rfl, zmk1 129 (by decide +kernel), zmk1 6 (by decide +kernel), rfl, by decide +kernel⟩
theorem zclp4 : zclP 4 RX5 TX5 5 := ⟨zmems [116, 118, 120, 122, 124] (by decide +kernel), tyX5_ok, nmX5, rfl, zmk1 105 (by decide +kernel), zmk1 5 (by decide +kernel), rfl, by decide +kernel⟩
theorem zclp5 : zclP 5 RX6 TX6 14 := ⟨zmems [311, 313, 315, 317, 319, 321, 323, 325, 327, 329, 331, 333, 335, 337] (by decide +kernel), tyX6_ok, nmX6, rfl, zmk1 217 (by decide +kernel), zmk1 9 (by decide +kernel), rfl, by decide +kernel⟩
theorem zclp6 : zclP 6 RX7 TX7 11 := ⟨zmems [251, 253, 255, 257, 259, 261, 263, 265, 267, 269, 271] (by decide +kernel), tyX7_ok, nmX7, rfl, zmk1 223 (by decide +kernel), zmk1 10 (by decide +kernel), rfl, by decide +kernel⟩
theorem zclp7 : zclP 7 RX8 TX8 7 := ⟨zmems [58, 60, 62, 64, 66, 68, 70] (by decide +kernel), tyX8_ok, nmX8, rfl, zmk1 40 (by decide +kernel), zmk1 3 (by decide +kernel), rfl, by decide +kernel⟩
theorem zclp8 : zclP 8 RX9 TX9 9 := ⟨zmems [363, 365, 367, 369, 371, 373, 375, 377, 379] (by decide +kernel), tyX9_ok, nmX9, rfl, zmk1 208 (by decide +kernel), zmk1 8 (by decide +kernel), rfl, by decide +kernel⟩
theorem zclp9 : zclP 9 RX10 TX10 8 := ⟨zmems [390, 392, 394, 396, 398, 400, 402, 404] (by decide +kernel), tyX10_ok, nmX10, rfl, zmk1 26 (by decide +kernel), zmk1 1 (by decide +kernel), rfl, by decide +kernel⟩
theorem zclp10 : zclP 10 RX11 TX11 60 := ⟨zmems [1276, 1278, 1280, 1282, 1284, 1286, 1288, 1290, 1292, 1294, 1296, 1298, 1300, 1302, 1304, 1306, 1308, 1310, 1312, 1314, 1316, 1318, 1320, 1322, 1324, 1326, 1328, 1330, 1332, 1334, 1336, 1338, 1340, 1342, 1344, 1346, 1348, 1350, 1352, 1354, 1356, 1358, 1360, 1362, 1364, 1366, 1368, 1370, 1372, 1374, 1376, 1378, 1380, 1382, 1384, 1386, 1388, 1390, 1392, 1394] (by decide +kernel), tyX11_ok, nmX11, rfl, zmk6 11 (by decide +kernel), zmk1 11 (by decide +kernel), rfl, by decide +kernel⟩
theorem zcl_ok {ci : Nat} {C : String} {T : u_T} {N : Nat} (h : vwCl[ci]? = some (C, T, N)) : zclP ci C T N := by
  match ci, h with
  | 0, h => cases h; exact zclp0
  | 1, h => cases h; exact zclp1
  | 2, h => cases h; exact zclp2
  | 3, h => cases h; exact zclp3
  | 4, h => cases h; exact zclp4
  | 5, h => cases h; exact zclp5
  | 6, h => cases h; exact zclp6
  | 7, h => cases h; exact zclp7
  | 8, h => cases h; exact zclp8
  | 9, h => cases h; exact zclp9
  | 10, h => cases h; exact zclp10
  | n + 11, h => simp [vwCl] at h
theorem zflp_8_9 : zflP 8 9 7 0 2 true := ⟨RX8, TX8, 7, rfl, by decide, rfl, rfl, .inr (.inr (.inl ⟨rfl, .inr ⟨_, rfl⟩⟩)), .inl (zmk1 45 (by decide +kernel))⟩
theorem zflp_8_15 : zflP 8 15 7 1 0 false := ⟨RX8, TX8, 7, rfl, by decide, rfl, rfl, .inl ⟨rfl, rfl⟩, .inl (zmk1 46 (by decide +kernel))⟩
theorem zflp_10_45 : zflP 10 45 7 1 0 false := ⟨RX8, TX8, 7, rfl, by decide, rfl, rfl, .inl ⟨rfl, rfl⟩, .inr ⟨by decide, "StrangerHall", zmk1 47 (by decide +kernel)⟩⟩
theorem zflp_8_25 : zflP 8 25 7 2 0 false := ⟨RX8, TX8, 7, rfl, by decide, rfl, rfl, .inl ⟨rfl, rfl⟩, .inl (zmk1 48 (by decide +kernel))⟩
theorem zflp_8_28 : zflP 8 28 7 3 0 false := ⟨RX8, TX8, 7, rfl, by decide, rfl, rfl, .inl ⟨rfl, rfl⟩, .inl (zmk1 49 (by decide +kernel))⟩
theorem zflp_1_40 : zflP 1 40 7 4 0 false := ⟨RX8, TX8, 7, rfl, by decide, rfl, rfl, .inl ⟨rfl, rfl⟩, .inr ⟨by decide, "StrangerHall", zmk1 50 (by decide +kernel)⟩⟩
theorem zflp_4_34 : zflP 4 34 7 4 0 false := ⟨RX8, TX8, 7, rfl, by decide, rfl, rfl, .inl ⟨rfl, rfl⟩, .inr ⟨by decide, "StrangerHall", zmk1 51 (by decide +kernel)⟩⟩
theorem zflp_8_40 : zflP 8 40 7 4 0 false := ⟨RX8, TX8, 7, rfl, by decide, rfl, rfl, .inl ⟨rfl, rfl⟩, .inl (zmk1 52 (by decide +kernel))⟩
theorem zflp_4_30 : zflP 4 30 7 5 0 false := ⟨RX8, TX8, 7, rfl, by decide, rfl, rfl, .inl ⟨rfl, rfl⟩, .inr ⟨by decide, "StrangerHall", zmk1 53 (by decide +kernel)⟩⟩
theorem zflp_1_50 : zflP 1 50 7 5 0 false := ⟨RX8, TX8, 7, rfl, by decide, rfl, rfl, .inl ⟨rfl, rfl⟩, .inr ⟨by decide, "StrangerHall", zmk1 54 (by decide +kernel)⟩⟩
theorem zflp_8_34 : zflP 8 34 7 5 0 false := ⟨RX8, TX8, 7, rfl, by decide, rfl, rfl, .inl ⟨rfl, rfl⟩, .inl (zmk1 55 (by decide +kernel))⟩
theorem zflp_8_37 : zflP 8 37 7 6 0 false := ⟨RX8, TX8, 7, rfl, by decide, rfl, rfl, .inl ⟨rfl, rfl⟩, .inl (zmk1 56 (by decide +kernel))⟩
theorem zflp_1_128 : zflP 1 128 7 6 0 false := ⟨RX8, TX8, 7, rfl, by decide, rfl, rfl, .inl ⟨rfl, rfl⟩, .inr ⟨by decide, "StrangerHall", zmk1 57 (by decide +kernel)⟩⟩
theorem zflp_1_12 : zflP 1 12 1 0 2 true := ⟨RX1, TX1, 6, rfl, by decide, rfl, rfl, .inr (.inr (.inl ⟨rfl, .inl ⟨_, rfl⟩⟩)), .inl (zmk1 74 (by decide +kernel))⟩
theorem zflp_10_41 : zflP 10 41 1 0 2 true := ⟨RX1, TX1, 6, rfl, by decide, rfl, rfl, .inr (.inr (.inl ⟨rfl, .inl ⟨_, rfl⟩⟩)), .inr ⟨by decide, "StrangerHall", zmk1 75 (by decide +kernel)⟩⟩
theorem zflp_1_18 : zflP 1 18 1 1 2 true := ⟨RX1, TX1, 6, rfl, by decide, rfl, rfl, .inr (.inr (.inl ⟨rfl, .inr ⟨_, rfl⟩⟩)), .inl (zmk1 76 (by decide +kernel))⟩
theorem zflp_9_46 : zflP 9 46 1 1 2 true := ⟨RX1, TX1, 6, rfl, by decide, rfl, rfl, .inr (.inr (.inl ⟨rfl, .inr ⟨_, rfl⟩⟩)), .inr ⟨by decide, "StrangerHall", zmk1 77 (by decide +kernel)⟩⟩
theorem zflp_1_22 : zflP 1 22 1 2 2 true := ⟨RX1, TX1, 6, rfl, by decide, rfl, rfl, .inr (.inr (.inl ⟨rfl, .inr ⟨_, rfl⟩⟩)), .inl (zmk1 78 (by decide +kernel))⟩
theorem zflp_9_47 : zflP 9 47 1 2 2 true := ⟨RX1, TX1, 6, rfl, by decide, rfl, rfl, .inr (.inr (.inl ⟨rfl, .inr ⟨_, rfl⟩⟩)), .inr ⟨by decide, "StrangerHall", zmk1 79 (by decide +kernel)⟩⟩
theorem zflp_1_25 : zflP 1 25 1 3 0 false := ⟨RX1, TX1, 6, rfl, by decide, rfl, rfl, .inl ⟨rfl, rfl⟩, .inl (zmk1 80 (by decide +kernel))⟩
theorem zflp_9_33 : zflP 9 33 1 3 0 false := ⟨RX1, TX1, 6, rfl, by decide, rfl, rfl, .inl ⟨rfl, rfl⟩, .inr ⟨by decide, "StrangerHall", zmk1 81 (by decide +kernel)⟩⟩
theorem zflp_1_29 : zflP 1 29 1 4 0 false := ⟨RX1, TX1, 6, rfl, by decide, rfl, rfl, .inl ⟨rfl, rfl⟩, .inl (zmk1 82 (by decide +kernel))⟩
theorem zflp_1_53 : zflP 1 53 1 5 0 false := ⟨RX1, TX1, 6, rfl, by decide, rfl, rfl, .inl ⟨rfl, rfl⟩, .inl (zmk1 83 (by decide +kernel))⟩
theorem zflp_10_69 : zflP 10 69 1 5 0 false := ⟨RX1, TX1, 6, rfl, by decide, rfl, rfl, .inl ⟨rfl, rfl⟩, .inr ⟨by decide, "StrangerHall", zmk1 84 (by decide +kernel)⟩⟩
theorem zflp_5_9 : zflP 5 9 4 0 2 true := ⟨RX5, TX5, 5, rfl, by decide, rfl, rfl, .inr (.inr (.inl ⟨rfl, .inr ⟨_, rfl⟩⟩)), .inl (zmk1 110 (by decide +kernel))⟩
theorem zflp_10_120 : zflP 10 120 4 0 2 true := ⟨RX5, TX5, 5, rfl, by decide, rfl, rfl, .inr (.inr (.inl ⟨rfl, .inr ⟨_, rfl⟩⟩)), .inr ⟨by decide, "StrangerHall", zmk1 111 (by decide +kernel)⟩⟩
theorem zflp_5_15 : zflP 5 15 4 1 2 true := ⟨RX5, TX5, 5, rfl, by decide, rfl, rfl, .inr (.inr (.inl ⟨rfl, .inr ⟨_, rfl⟩⟩)), .inl (zmk1 112 (by decide +kernel))⟩
theorem zflp_5_18 : zflP 5 18 4 2 2 true := ⟨RX5, TX5, 5, rfl, by decide, rfl, rfl, .inr (.inr (.inl ⟨rfl, .inr ⟨_, rfl⟩⟩)), .inl (zmk1 113 (by decide +kernel))⟩
theorem zflp_5_21 : zflP 5 21 4 3 2 false := ⟨RX5, TX5, 5, rfl, by decide, rfl, rfl, .inr (.inr (.inl ⟨rfl, .inl ⟨_, rfl⟩⟩)), .inl (zmk1 114 (by decide +kernel))⟩
theorem zflp_5_25 : zflP 5 25 4 4 0 false := ⟨RX5, TX5, 5, rfl, by decide, rfl, rfl, .inl ⟨rfl, rfl⟩, .inl (zmk1 115 (by decide +kernel))⟩
theorem zflp_2_33 : zflP 2 33 3 0 0 false := ⟨RX3, TX3, 3, rfl, by decide, rfl, rfl, .inl ⟨rfl, rfl⟩, .inr ⟨by decide, "StrangerHall", zmk1 134 (by decide +kernel)⟩⟩
theorem zflp_0_74 : zflP 0 74 3 0 0 false := ⟨RX3, TX3, 3, rfl, by decide, rfl, rfl, .inl ⟨rfl, rfl⟩, .inr ⟨by decide, "StrangerHall", zmk1 135 (by decide +kernel)⟩⟩
theorem zflp_10_148 : zflP 10 148 3 0 0 false := ⟨RX3, TX3, 3, rfl, by decide, rfl, rfl, .inl ⟨rfl, rfl⟩, .inr ⟨by decide, "StrangerHall", zmk1 136 (by decide +kernel)⟩⟩
theorem zflp_6_71 : zflP 6 71 3 1 0 false := ⟨RX3, TX3, 3, rfl, by decide, rfl, rfl, .inl ⟨rfl, rfl⟩, .inr ⟨by decide, "StrangerHall", zmk1 137 (by decide +kernel)⟩⟩
theorem zflp_2_149 : zflP 2 149 3 1 0 false := ⟨RX3, TX3, 3, rfl, by decide, rfl, rfl, .inl ⟨rfl, rfl⟩, .inr ⟨by decide, "StrangerHall", zmk1 138 (by decide +kernel)⟩⟩
theorem zflp_10_157 : zflP 10 157 3 1 0 false := ⟨RX3, TX3, 3, rfl, by decide, rfl, rfl, .inl ⟨rfl, rfl⟩, .inr ⟨by decide, "StrangerHall", zmk1 139 (by decide +kernel)⟩⟩
theorem zflp_2_37 : zflP 2 37 3 2 0 false := ⟨RX3, TX3, 3, rfl, by decide, rfl, rfl, .inl ⟨rfl, rfl⟩, .inr ⟨by decide, "StrangerHall", zmk1 140 (by decide +kernel)⟩⟩
theorem zflp_6_64 : zflP 6 64 3 2 0 false := ⟨RX3, TX3, 3, rfl, by decide, rfl, rfl, .inl ⟨rfl, rfl⟩, .inr ⟨by decide, "StrangerHall", zmk1 141 (by decide +kernel)⟩⟩
theorem zflp_10_160 : zflP 10 160 3 2 0 false := ⟨RX3, TX3, 3, rfl, by decide, rfl, rfl, .inl ⟨rfl, rfl⟩, .inr ⟨by decide, "StrangerHall", zmk1 142 (by decide +kernel)⟩⟩
theorem zflp_2_12 : zflP 2 12 2 0 2 true := ⟨RX2, TX2, 5, rfl, by decide, rfl, rfl, .inr (.inr (.inl ⟨rfl, .inl ⟨_, rfl⟩⟩)), .inl (zmk1 150 (by decide +kernel))⟩
theorem zflp_10_103 : zflP 10 103 2 0 2 true := ⟨RX2, TX2, 5, rfl, by decide, rfl, rfl, .inr (.inr (.inl ⟨rfl, .inl ⟨_, rfl⟩⟩)), .inr ⟨by decide, "StrangerHall", zmk1 151 (by decide +kernel)⟩⟩
theorem zflp_2_20 : zflP 2 20 2 1 2 true := ⟨RX2, TX2, 5, rfl, by decide, rfl, rfl, .inr (.inr (.inl ⟨rfl, .inr ⟨_, rfl⟩⟩)), .inl (zmk1 152 (by decide +kernel))⟩
theorem zflp_10_144 : zflP 10 144 2 1 2 true := ⟨RX2, TX2, 5, rfl, by decide, rfl, rfl, .inr (.inr (.inl ⟨rfl, .inr ⟨_, rfl⟩⟩)), .inr ⟨by decide, "StrangerHall", zmk1 153 (by decide +kernel)⟩⟩
theorem zflp_2_24 : zflP 2 24 2 2 2 true := ⟨RX2, TX2, 5, rfl, by decide, rfl, rfl, .inr (.inr (.inl ⟨rfl, .inr ⟨_, rfl⟩⟩)), .inl (zmk1 154 (by decide +kernel))⟩
theorem zflp_10_163 : zflP 10 163 2 2 2 true := ⟨RX2, TX2, 5, rfl, by decide, rfl, rfl, .inr (.inr (.inl ⟨rfl, .inr ⟨_, rfl⟩⟩)), .inr ⟨by decide, "StrangerHall", zmk1 155 (by decide +kernel)⟩⟩
theorem zflp_2_66 : zflP 2 66 2 3 0 false := ⟨RX2, TX2, 5, rfl, by decide, rfl, rfl, .inl ⟨rfl, rfl⟩, .inl (zmk1 156 (by decide +kernel))⟩
theorem zflp_10_176 : zflP 10 176 2 3 0 false := ⟨RX2, TX2, 5, rfl, by decide, rfl, rfl, .inl ⟨rfl, rfl⟩, .inr ⟨by decide, "StrangerHall", zmk1 157 (by decide +kernel)⟩⟩
theorem zflp_2_131 : zflP 2 131 2 4 0 false := ⟨RX2, TX2, 5, rfl, by decide, rfl, rfl, .inl ⟨rfl, rfl⟩, .inl (zmk1 158 (by decide +kernel))⟩
theorem zflp_10_313 : zflP 10 313 2 4 0 false := ⟨RX2, TX2, 5, rfl, by decide, rfl, rfl, .inl ⟨rfl, rfl⟩, .inr ⟨by decide, "StrangerHall", zmk1 159 (by decide +kernel)⟩⟩
theorem zflp_0_9 : zflP 0 9 0 0 2 true := ⟨RX0, TX0, 9, rfl, by decide, rfl, rfl, .inr (.inr (.inl ⟨rfl, .inr ⟨_, rfl⟩⟩)), .inl (zmk1 177 (by decide +kernel))⟩
theorem zflp_0_15 : zflP 0 15 0 1 2 true := ⟨RX0, TX0, 9, rfl, by decide, rfl, rfl, .inr (.inr (.inl ⟨rfl, .inr ⟨_, rfl⟩⟩)), .inl (zmk1 178 (by decide +kernel))⟩
theorem zflp_0_18 : zflP 0 18 0 2 2 true := ⟨RX0, TX0, 9, rfl, by decide, rfl, rfl, .inr (.inr (.inl ⟨rfl, .inr ⟨_, rfl⟩⟩)), .inl (zmk1 179 (by decide +kernel))⟩
theorem zflp_0_21 : zflP 0 21 0 3 2 true := ⟨RX0, TX0, 9, rfl, by decide, rfl, rfl, .inr (.inr (.inl ⟨rfl, .inr ⟨_, rfl⟩⟩)), .inl (zmk1 180 (by decide +kernel))⟩
theorem zflp_0_24 : zflP 0 24 0 4 2 true := ⟨RX0, TX0, 9, rfl, by decide, rfl, rfl, .inr (.inr (.inl ⟨rfl, .inr ⟨_, rfl⟩⟩)), .inl (zmk1 181 (by decide +kernel))⟩
theorem zflp_0_27 : zflP 0 27 0 5 0 false := ⟨RX0, TX0, 9, rfl, by decide, rfl, rfl, .inl ⟨rfl, rfl⟩, .inl (zmk1 182 (by decide +kernel))⟩
theorem zflp_0_37 : zflP 0 37 0 6 0 false := ⟨RX0, TX0, 9, rfl, by decide, rfl, rfl, .inl ⟨rfl, rfl⟩, .inl (zmk1 183 (by decide +kernel))⟩
theorem zflp_0_40 : zflP 0 40 0 7 3 false := ⟨RX0, TX0, 9, rfl, by decide, rfl, rfl, .inr (.inr (.inr ⟨rfl, rfl⟩)), .inl (zmk1 184 (by decide +kernel))⟩
theorem zflp_0_48 : zflP 0 48 0 8 1 false := ⟨RX0, TX0, 9, rfl, by decide, rfl, rfl, .inr (.inl ⟨rfl, rfl⟩), .inl (zmk1 185 (by decide +kernel))⟩
theorem zflp_10_289 : zflP 10 289 0 8 1 false := ⟨RX0, TX0, 9, rfl, by decide, rfl, rfl, .inr (.inl ⟨rfl, rfl⟩), .inr ⟨by decide, "StrangerHall", zmk1 186 (by decide +kernel)⟩⟩
theorem zflp_7_9 : zflP 7 9 6 0 0 false := ⟨RX7, TX7, 11, rfl, by decide, rfl, rfl, .inl ⟨rfl, rfl⟩, .inl (zmk1 228 (by decide +kernel))⟩
theorem zflp_2_111 : zflP 2 111 6 0 0 false := ⟨RX7, TX7, 11, rfl, by decide, rfl, rfl, .inl ⟨rfl, rfl⟩, .inr ⟨by decide, "StrangerHall", zmk1 229 (by decide +kernel)⟩⟩
theorem zflp_10_223 : zflP 10 223 6 0 0 false := ⟨RX7, TX7, 11, rfl, by decide, rfl, rfl, .inl ⟨rfl, rfl⟩, .inr ⟨by decide, "StrangerHall", zmk1 230 (by decide +kernel)⟩⟩
theorem zflp_7_19 : zflP 7 19 6 1 0 false := ⟨RX7, TX7, 11, rfl, by decide, rfl, rfl, .inl ⟨rfl, rfl⟩, .inl (zmk1 231 (by decide +kernel))⟩
theorem zflp_2_92 : zflP 2 92 6 1 0 false := ⟨RX7, TX7, 11, rfl, by decide, rfl, rfl, .inl ⟨rfl, rfl⟩, .inr ⟨by decide, "StrangerHall", zmk1 232 (by decide +kernel)⟩⟩
theorem zflp_10_228 : zflP 10 228 6 1 0 false := ⟨RX7, TX7, 11, rfl, by decide, rfl, rfl, .inl ⟨rfl, rfl⟩, .inr ⟨by decide, "StrangerHall", zmk1 233 (by decide +kernel)⟩⟩
theorem zflp_7_22 : zflP 7 22 6 2 0 false := ⟨RX7, TX7, 11, rfl, by decide, rfl, rfl, .inl ⟨rfl, rfl⟩, .inl (zmk1 234 (by decide +kernel))⟩
theorem zflp_2_95 : zflP 2 95 6 2 0 false := ⟨RX7, TX7, 11, rfl, by decide, rfl, rfl, .inl ⟨rfl, rfl⟩, .inr ⟨by decide, "StrangerHall", zmk1 235 (by decide +kernel)⟩⟩
theorem zflp_7_25 : zflP 7 25 6 3 0 false := ⟨RX7, TX7, 11, rfl, by decide, rfl, rfl, .inl ⟨rfl, rfl⟩, .inl (zmk1 236 (by decide +kernel))⟩
theorem zflp_2_98 : zflP 2 98 6 3 0 false := ⟨RX7, TX7, 11, rfl, by decide, rfl, rfl, .inl ⟨rfl, rfl⟩, .inr ⟨by decide, "StrangerHall", zmk1 237 (by decide +kernel)⟩⟩
theorem zflp_10_231 : zflP 10 231 6 3 0 false := ⟨RX7, TX7, 11, rfl, by decide, rfl, rfl, .inl ⟨rfl, rfl⟩, .inr ⟨by decide, "StrangerHall", zmk1 238 (by decide +kernel)⟩⟩
theorem zflp_7_28 : zflP 7 28 6 4 0 false := ⟨RX7, TX7, 11, rfl, by decide, rfl, rfl, .inl ⟨rfl, rfl⟩, .inl (zmk1 239 (by decide +kernel))⟩
theorem zflp_2_101 : zflP 2 101 6 4 0 false := ⟨RX7, TX7, 11, rfl, by decide, rfl, rfl, .inl ⟨rfl, rfl⟩, .inr ⟨by decide, "StrangerHall", zmk2 0 (by decide +kernel)⟩⟩
theorem zflp_7_31 : zflP 7 31 6 5 0 false := ⟨RX7, TX7, 11, rfl, by decide, rfl, rfl, .inl ⟨rfl, rfl⟩, .inl (zmk2 1 (by decide +kernel))⟩
theorem zflp_2_104 : zflP 2 104 6 5 0 false := ⟨RX7, TX7, 11, rfl, by decide, rfl, rfl, .inl ⟨rfl, rfl⟩, .inr ⟨by decide, "StrangerHall", zmk2 2 (by decide +kernel)⟩⟩
theorem zflp_7_34 : zflP 7 34 6 6 0 false := ⟨RX7, TX7, 11, rfl, by decide, rfl, rfl, .inl ⟨rfl, rfl⟩, .inl (zmk2 3 (by decide +kernel))⟩
theorem zflp_2_172 : zflP 2 172 6 6 0 false := ⟨RX7, TX7, 11, rfl, by decide, rfl, rfl, .inl ⟨rfl, rfl⟩, .inr ⟨by decide, "StrangerHall", zmk2 4 (by decide +kernel)⟩⟩
theorem zflp_7_37 : zflP 7 37 6 7 3 false := ⟨RX7, TX7, 11, rfl, by decide, rfl, rfl, .inr (.inr (.inr ⟨rfl, rfl⟩)), .inl (zmk2 5 (by decide +kernel))⟩
theorem zflp_2_176 : zflP 2 176 6 7 3 false := ⟨RX7, TX7, 11, rfl, by decide, rfl, rfl, .inr (.inr (.inr ⟨rfl, rfl⟩)), .inr ⟨by decide, "StrangerHall", zmk2 6 (by decide +kernel)⟩⟩
theorem zflp_7_41 : zflP 7 41 6 8 3 false := ⟨RX7, TX7, 11, rfl, by decide, rfl, rfl, .inr (.inr (.inr ⟨rfl, rfl⟩)), .inl (zmk2 7 (by decide +kernel))⟩
theorem zflp_2_180 : zflP 2 180 6 8 3 false := ⟨RX7, TX7, 11, rfl, by decide, rfl, rfl, .inr (.inr (.inr ⟨rfl, rfl⟩)), .inr ⟨by decide, "StrangerHall", zmk2 8 (by decide +kernel)⟩⟩
theorem zflp_7_44 : zflP 7 44 6 9 0 false := ⟨RX7, TX7, 11, rfl, by decide, rfl, rfl, .inl ⟨rfl, rfl⟩, .inl (zmk2 9 (by decide +kernel))⟩
theorem zflp_7_47 : zflP 7 47 6 10 0 false := ⟨RX7, TX7, 11, rfl, by decide, rfl, rfl, .inl ⟨rfl, rfl⟩, .inl (zmk2 10 (by decide +kernel))⟩
theorem zflp_6_12 : zflP 6 12 5 0 2 true := ⟨RX6, TX6, 14, rfl, by decide, rfl, rfl, .inr (.inr (.inl ⟨rfl, .inl ⟨_, rfl⟩⟩)), .inl (zmk2 34 (by decide +kernel))⟩
theorem zflp_2_62 : zflP 2 62 5 0 2 true := ⟨RX6, TX6, 14, rfl, by decide, rfl, rfl, .inr (.inr (.inl ⟨rfl, .inl ⟨_, rfl⟩⟩)), .inr ⟨by decide, "StrangerHall", zmk2 35 (by decide +kernel)⟩⟩
theorem zflp_10_219 : zflP 10 219 5 0 2 true := ⟨RX6, TX6, 14, rfl, by decide, rfl, rfl, .inr (.inr (.inl ⟨rfl, .inl ⟨_, rfl⟩⟩)), .inr ⟨by decide, "StrangerHall", zmk2 36 (by decide +kernel)⟩⟩
theorem zflp_6_18 : zflP 6 18 5 1 2 true := ⟨RX6, TX6, 14, rfl, by decide, rfl, rfl, .inr (.inr (.inl ⟨rfl, .inr ⟨_, rfl⟩⟩)), .inl (zmk2 37 (by decide +kernel))⟩
theorem zflp_6_22 : zflP 6 22 5 2 2 true := ⟨RX6, TX6, 14, rfl, by decide, rfl, rfl, .inr (.inr (.inl ⟨rfl, .inr ⟨_, rfl⟩⟩)), .inl (zmk2 38 (by decide +kernel))⟩
theorem zflp_0_68 : zflP 0 68 5 2 2 true := ⟨RX6, TX6, 14, rfl, by decide, rfl, rfl, .inr (.inr (.inl ⟨rfl, .inr ⟨_, rfl⟩⟩)), .inr ⟨by decide, "StrangerHall", zmk2 39 (by decide +kernel)⟩⟩
theorem zflp_6_25 : zflP 6 25 5 3 2 true := ⟨RX6, TX6, 14, rfl, by decide, rfl, rfl, .inr (.inr (.inl ⟨rfl, .inr ⟨_, rfl⟩⟩)), .inl (zmk2 40 (by decide +kernel))⟩
theorem zflp_0_71 : zflP 0 71 5 3 2 true := ⟨RX6, TX6, 14, rfl, by decide, rfl, rfl, .inr (.inr (.inl ⟨rfl, .inr ⟨_, rfl⟩⟩)), .inr ⟨by decide, "StrangerHall", zmk2 41 (by decide +kernel)⟩⟩
theorem zflp_6_32 : zflP 6 32 5 4 0 false := ⟨RX6, TX6, 14, rfl, by decide, rfl, rfl, .inl ⟨rfl, rfl⟩, .inl (zmk2 42 (by decide +kernel))⟩
theorem zflp_2_59 : zflP 2 59 5 4 0 false := ⟨RX6, TX6, 14, rfl, by decide, rfl, rfl, .inl ⟨rfl, rfl⟩, .inr ⟨by decide, "StrangerHall", zmk2 43 (by decide +kernel)⟩⟩
theorem zflp_9_63 : zflP 9 63 5 4 0 false := ⟨RX6, TX6, 14, rfl, by decide, rfl, rfl, .inl ⟨rfl, rfl⟩, .inr ⟨by decide, "StrangerHall", zmk2 44 (by decide +kernel)⟩⟩
theorem zflp_10_170 : zflP 10 170 5 4 0 false := ⟨RX6, TX6, 14, rfl, by decide, rfl, rfl, .inl ⟨rfl, rfl⟩, .inr ⟨by decide, "StrangerHall", zmk2 45 (by decide +kernel)⟩⟩
theorem zflp_6_28 : zflP 6 28 5 5 0 false := ⟨RX6, TX6, 14, rfl, by decide, rfl, rfl, .inl ⟨rfl, rfl⟩, .inl (zmk2 46 (by decide +kernel))⟩
theorem zflp_2_114 : zflP 2 114 5 5 0 false := ⟨RX6, TX6, 14, rfl, by decide, rfl, rfl, .inl ⟨rfl, rfl⟩, .inr ⟨by decide, "StrangerHall", zmk2 47 (by decide +kernel)⟩⟩
theorem zflp_10_196 : zflP 10 196 5 5 0 false := ⟨RX6, TX6, 14, rfl, by decide, rfl, rfl, .inl ⟨rfl, rfl⟩, .inr ⟨by decide, "StrangerHall", zmk2 48 (by decide +kernel)⟩⟩
theorem zflp_6_35 : zflP 6 35 5 6 0 false := ⟨RX6, TX6, 14, rfl, by decide, rfl, rfl, .inl ⟨rfl, rfl⟩, .inl (zmk2 49 (by decide +kernel))⟩
theorem zflp_2_146 : zflP 2 146 5 6 0 false := ⟨RX6, TX6, 14, rfl, by decide, rfl, rfl, .inl ⟨rfl, rfl⟩, .inr ⟨by decide, "StrangerHall", zmk2 50 (by decide +kernel)⟩⟩
theorem zflp_6_38 : zflP 6 38 5 7 0 false := ⟨RX6, TX6, 14, rfl, by decide, rfl, rfl, .inl ⟨rfl, rfl⟩, .inl (zmk2 51 (by decide +kernel))⟩
theorem zflp_2_121 : zflP 2 121 5 7 0 false := ⟨RX6, TX6, 14, rfl, by decide, rfl, rfl, .inl ⟨rfl, rfl⟩, .inr ⟨by decide, "StrangerHall", zmk2 52 (by decide +kernel)⟩⟩
theorem zflp_10_202 : zflP 10 202 5 7 0 false := ⟨RX6, TX6, 14, rfl, by decide, rfl, rfl, .inl ⟨rfl, rfl⟩, .inr ⟨by decide, "StrangerHall", zmk2 53 (by decide +kernel)⟩⟩
theorem zflp_6_41 : zflP 6 41 5 8 0 false := ⟨RX6, TX6, 14, rfl, by decide, rfl, rfl, .inl ⟨rfl, rfl⟩, .inl (zmk2 54 (by decide +kernel))⟩
theorem zflp_2_166 : zflP 2 166 5 8 0 false := ⟨RX6, TX6, 14, rfl, by decide, rfl, rfl, .inl ⟨rfl, rfl⟩, .inr ⟨by decide, "StrangerHall", zmk2 55 (by decide +kernel)⟩⟩
theorem zflp_2_75 : zflP 2 75 5 9 0 false := ⟨RX6, TX6, 14, rfl, by decide, rfl, rfl, .inl ⟨rfl, rfl⟩, .inr ⟨by decide, "StrangerHall", zmk2 56 (by decide +kernel)⟩⟩
theorem zflp_9_57 : zflP 9 57 5 9 0 false := ⟨RX6, TX6, 14, rfl, by decide, rfl, rfl, .inl ⟨rfl, rfl⟩, .inr ⟨by decide, "StrangerHall", zmk2 57 (by decide +kernel)⟩⟩
theorem zflp_6_59 : zflP 6 59 5 9 0 false := ⟨RX6, TX6, 14, rfl, by decide, rfl, rfl, .inl ⟨rfl, rfl⟩, .inl (zmk2 58 (by decide +kernel))⟩
theorem zflp_10_213 : zflP 10 213 5 9 0 false := ⟨RX6, TX6, 14, rfl, by decide, rfl, rfl, .inl ⟨rfl, rfl⟩, .inr ⟨by decide, "StrangerHall", zmk2 59 (by decide +kernel)⟩⟩
theorem zflp_2_81 : zflP 2 81 5 10 0 false := ⟨RX6, TX6, 14, rfl, by decide, rfl, rfl, .inl ⟨rfl, rfl⟩, .inr ⟨by decide, "StrangerHall", zmk2 60 (by decide +kernel)⟩⟩
theorem zflp_9_60 : zflP 9 60 5 10 0 false := ⟨RX6, TX6, 14, rfl, by decide, rfl, rfl, .inl ⟨rfl, rfl⟩, .inr ⟨by decide, "StrangerHall", zmk2 61 (by decide +kernel)⟩⟩
theorem zflp_6_56 : zflP 6 56 5 10 0 false := ⟨RX6, TX6, 14, rfl, by decide, rfl, rfl, .inl ⟨rfl, rfl⟩, .inl (zmk2 62 (by decide +kernel))⟩
theorem zflp_10_216 : zflP 10 216 5 10 0 false := ⟨RX6, TX6, 14, rfl, by decide, rfl, rfl, .inl ⟨rfl, rfl⟩, .inr ⟨by decide, "StrangerHall", zmk2 63 (by decide +kernel)⟩⟩
theorem zflp_6_44 : zflP 6 44 5 11 0 false := ⟨RX6, TX6, 14, rfl, by decide, rfl, rfl, .inl ⟨rfl, rfl⟩, .inl (zmk2 64 (by decide +kernel))⟩
theorem zflp_2_50 : zflP 2 50 5 11 0 false := ⟨RX6, TX6, 14, rfl, by decide, rfl, rfl, .inl ⟨rfl, rfl⟩, .inr ⟨by decide, "StrangerHall", zmk2 65 (by decide +kernel)⟩⟩
theorem zflp_10_190 : zflP 10 190 5 11 0 false := ⟨RX6, TX6, 14, rfl, by decide, rfl, rfl, .inl ⟨rfl, rfl⟩, .inr ⟨by decide, "StrangerHall", zmk2 66 (by decide +kernel)⟩⟩
theorem zflp_2_169 : zflP 2 169 5 12 0 false := ⟨RX6, TX6, 14, rfl, by decide, rfl, rfl, .inl ⟨rfl, rfl⟩, .inr ⟨by decide, "StrangerHall", zmk2 67 (by decide +kernel)⟩⟩
theorem zflp_10_193 : zflP 10 193 5 12 0 false := ⟨RX6, TX6, 14, rfl, by decide, rfl, rfl, .inl ⟨rfl, rfl⟩, .inr ⟨by decide, "StrangerHall", zmk2 68 (by decide +kernel)⟩⟩
theorem zflp_6_47 : zflP 6 47 5 13 0 false := ⟨RX6, TX6, 14, rfl, by decide, rfl, rfl, .inl ⟨rfl, rfl⟩, .inl (zmk2 69 (by decide +kernel))⟩
theorem zflp_10_237 : zflP 10 237 5 13 0 false := ⟨RX6, TX6, 14, rfl, by decide, rfl, rfl, .inl ⟨rfl, rfl⟩, .inr ⟨by decide, "StrangerHall", zmk2 70 (by decide +kernel)⟩⟩
theorem zflp_9_9 : zflP 9 9 8 0 2 true := ⟨RX9, TX9, 9, rfl, by decide, rfl, rfl, .inr (.inr (.inl ⟨rfl, .inr ⟨_, rfl⟩⟩)), .inl (zmk2 100 (by decide +kernel))⟩
theorem zflp_5_49 : zflP 5 49 8 0 2 true := ⟨RX9, TX9, 9, rfl, by decide, rfl, rfl, .inr (.inr (.inl ⟨rfl, .inr ⟨_, rfl⟩⟩)), .inr ⟨by decide, "StrangerHall", zmk2 101 (by decide +kernel)⟩⟩
theorem zflp_10_90 : zflP 10 90 8 0 2 true := ⟨RX9, TX9, 9, rfl, by decide, rfl, rfl, .inr (.inr (.inl ⟨rfl, .inr ⟨_, rfl⟩⟩)), .inr ⟨by decide, "StrangerHall", zmk2 102 (by decide +kernel)⟩⟩
theorem zflp_9_15 : zflP 9 15 8 1 2 true := ⟨RX9, TX9, 9, rfl, by decide, rfl, rfl, .inr (.inr (.inl ⟨rfl, .inr ⟨_, rfl⟩⟩)), .inl (zmk2 103 (by decide +kernel))⟩
theorem zflp_5_52 : zflP 5 52 8 1 2 true := ⟨RX9, TX9, 9, rfl, by decide, rfl, rfl, .inr (.inr (.inl ⟨rfl, .inr ⟨_, rfl⟩⟩)), .inr ⟨by decide, "StrangerHall", zmk2 104 (by decide +kernel)⟩⟩
theorem zflp_10_94 : zflP 10 94 8 1 2 true := ⟨RX9, TX9, 9, rfl, by decide, rfl, rfl, .inr (.inr (.inl ⟨rfl, .inr ⟨_, rfl⟩⟩)), .inr ⟨by decide, "StrangerHall", zmk2 105 (by decide +kernel)⟩⟩
theorem zflp_9_18 : zflP 9 18 8 2 2 true := ⟨RX9, TX9, 9, rfl, by decide, rfl, rfl, .inr (.inr (.inl ⟨rfl, .inr ⟨_, rfl⟩⟩)), .inl (zmk2 106 (by decide +kernel))⟩
theorem zflp_5_32 : zflP 5 32 8 2 2 true := ⟨RX9, TX9, 9, rfl, by decide, rfl, rfl, .inr (.inr (.inl ⟨rfl, .inr ⟨_, rfl⟩⟩)), .inr ⟨by decide, "StrangerHall", zmk2 107 (by decide +kernel)⟩⟩
theorem zflp_10_100 : zflP 10 100 8 2 2 true := ⟨RX9, TX9, 9, rfl, by decide, rfl, rfl, .inr (.inr (.inl ⟨rfl, .inr ⟨_, rfl⟩⟩)), .inr ⟨by decide, "StrangerHall", zmk2 108 (by decide +kernel)⟩⟩
theorem zflp_9_23 : zflP 9 23 8 3 2 true := ⟨RX9, TX9, 9, rfl, by decide, rfl, rfl, .inr (.inr (.inl ⟨rfl, .inr ⟨_, rfl⟩⟩)), .inl (zmk2 109 (by decide +kernel))⟩
theorem zflp_10_298 : zflP 10 298 8 3 2 true := ⟨RX9, TX9, 9, rfl, by decide, rfl, rfl, .inr (.inr (.inl ⟨rfl, .inr ⟨_, rfl⟩⟩)), .inr ⟨by decide, "StrangerHall", zmk2 110 (by decide +kernel)⟩⟩
theorem zflp_9_28 : zflP 9 28 8 4 2 true := ⟨RX9, TX9, 9, rfl, by decide, rfl, rfl, .inr (.inr (.inl ⟨rfl, .inr ⟨_, rfl⟩⟩)), .inl (zmk2 111 (by decide +kernel))⟩
theorem zflp_2_46 : zflP 2 46 8 4 2 true := ⟨RX9, TX9, 9, rfl, by decide, rfl, rfl, .inr (.inr (.inl ⟨rfl, .inr ⟨_, rfl⟩⟩)), .inr ⟨by decide, "StrangerHall", zmk2 112 (by decide +kernel)⟩⟩
theorem zflp_0_60 : zflP 0 60 8 4 2 true := ⟨RX9, TX9, 9, rfl, by decide, rfl, rfl, .inr (.inr (.inl ⟨rfl, .inr ⟨_, rfl⟩⟩)), .inr ⟨by decide, "StrangerHall", zmk2 113 (by decide +kernel)⟩⟩
theorem zflp_10_329 : zflP 10 329 8 4 2 true := ⟨RX9, TX9, 9, rfl, by decide, rfl, rfl, .inr (.inr (.inl ⟨rfl, .inr ⟨_, rfl⟩⟩)), .inr ⟨by decide, "StrangerHall", zmk2 114 (by decide +kernel)⟩⟩
theorem zflp_9_45 : zflP 9 45 8 5 0 false := ⟨RX9, TX9, 9, rfl, by decide, rfl, rfl, .inl ⟨rfl, rfl⟩, .inl (zmk2 115 (by decide +kernel))⟩
theorem zflp_9_48 : zflP 9 48 8 6 0 false := ⟨RX9, TX9, 9, rfl, by decide, rfl, rfl, .inl ⟨rfl, rfl⟩, .inl (zmk2 116 (by decide +kernel))⟩
theorem zflp_10_296 : zflP 10 296 8 6 0 false := ⟨RX9, TX9, 9, rfl, by decide, rfl, rfl, .inl ⟨rfl, rfl⟩, .inr ⟨by decide, "StrangerHall", zmk2 117 (by decide +kernel)⟩⟩
theorem zflp_9_51 : zflP 9 51 8 7 0 false := ⟨RX9, TX9, 9, rfl, by decide, rfl, rfl, .inl ⟨rfl, rfl⟩, .inl (zmk2 118 (by decide +kernel))⟩
theorem zflp_2_163 : zflP 2 163 8 7 0 false := ⟨RX9, TX9, 9, rfl, by decide, rfl, rfl, .inl ⟨rfl, rfl⟩, .inr ⟨by decide, "StrangerHall", zmk2 119 (by decide +kernel)⟩⟩
theorem zflp_10_175 : zflP 10 175 8 7 0 false := ⟨RX9, TX9, 9, rfl, by decide, rfl, rfl, .inl ⟨rfl, rfl⟩, .inr ⟨by decide, "StrangerHall", zmk2 120 (by decide +kernel)⟩⟩
theorem zflp_9_54 : zflP 9 54 8 8 0 false := ⟨RX9, TX9, 9, rfl, by decide, rfl, rfl, .inl ⟨rfl, rfl⟩, .inl (zmk2 121 (by decide +kernel))⟩
theorem zflp_10_97 : zflP 10 97 8 8 0 false := ⟨RX9, TX9, 9, rfl, by decide, rfl, rfl, .inl ⟨rfl, rfl⟩, .inr ⟨by decide, "StrangerHall", zmk2 122 (by decide +kernel)⟩⟩
theorem zflp_10_10 : zflP 10 10 9 0 2 true := ⟨RX10, TX10, 8, rfl, by decide, rfl, rfl, .inr (.inr (.inl ⟨rfl, .inl ⟨_, rfl⟩⟩)), .inl (zmk2 142 (by decide +kernel))⟩
theorem zflp_10_19 : zflP 10 19 9 1 2 true := ⟨RX10, TX10, 8, rfl, by decide, rfl, rfl, .inr (.inr (.inl ⟨rfl, .inl ⟨_, rfl⟩⟩)), .inl (zmk2 143 (by decide +kernel))⟩
theorem zflp_10_26 : zflP 10 26 9 2 2 true := ⟨RX10, TX10, 8, rfl, by decide, rfl, rfl, .inr (.inr (.inl ⟨rfl, .inl ⟨_, rfl⟩⟩)), .inl (zmk2 144 (by decide +kernel))⟩
theorem zflp_10_32 : zflP 10 32 9 3 2 true := ⟨RX10, TX10, 8, rfl, by decide, rfl, rfl, .inr (.inr (.inl ⟨rfl, .inr ⟨_, rfl⟩⟩)), .inl (zmk2 145 (by decide +kernel))⟩
theorem zflp_10_62 : zflP 10 62 9 4 0 false := ⟨RX10, TX10, 8, rfl, by decide, rfl, rfl, .inl ⟨rfl, rfl⟩, .inl (zmk2 146 (by decide +kernel))⟩
theorem zflp_10_141 : zflP 10 141 9 5 0 false := ⟨RX10, TX10, 8, rfl, by decide, rfl, rfl, .inl ⟨rfl, rfl⟩, .inl (zmk2 147 (by decide +kernel))⟩
theorem zflp_10_183 : zflP 10 183 9 6 0 false := ⟨RX10, TX10, 8, rfl, by decide, rfl, rfl, .inl ⟨rfl, rfl⟩, .inl (zmk2 148 (by decide +kernel))⟩
theorem zflp_10_36 : zflP 10 36 9 7 0 false := ⟨RX10, TX10, 8, rfl, by decide, rfl, rfl, .inl ⟨rfl, rfl⟩, .inl (zmk2 149 (by decide +kernel))⟩
theorem zflp_11_151 : zflP 11 151 10 0 0 false := ⟨RX11, TX11, 60, rfl, by decide, rfl, rfl, .inl ⟨rfl, rfl⟩, .inl (zmk6 16 (by decide +kernel))⟩
theorem zflp_11_9 : zflP 11 9 10 1 2 true := ⟨RX11, TX11, 60, rfl, by decide, rfl, rfl, .inr (.inr (.inl ⟨rfl, .inr ⟨_, rfl⟩⟩)), .inl (zmk6 17 (by decide +kernel))⟩
theorem zflp_11_154 : zflP 11 154 10 2 0 false := ⟨RX11, TX11, 60, rfl, by decide, rfl, rfl, .inl ⟨rfl, rfl⟩, .inl (zmk6 18 (by decide +kernel))⟩
theorem zflp_11_205 : zflP 11 205 10 3 0 false := ⟨RX11, TX11, 60, rfl, by decide, rfl, rfl, .inl ⟨rfl, rfl⟩, .inl (zmk6 19 (by decide +kernel))⟩
theorem zflp_11_157 : zflP 11 157 10 4 0 false := ⟨RX11, TX11, 60, rfl, by decide, rfl, rfl, .inl ⟨rfl, rfl⟩, .inl (zmk6 20 (by decide +kernel))⟩
theorem zflp_11_160 : zflP 11 160 10 5 0 false := ⟨RX11, TX11, 60, rfl, by decide, rfl, rfl, .inl ⟨rfl, rfl⟩, .inl (zmk6 21 (by decide +kernel))⟩
theorem zflp_11_167 : zflP 11 167 10 6 0 false := ⟨RX11, TX11, 60, rfl, by decide, rfl, rfl, .inl ⟨rfl, rfl⟩, .inl (zmk6 22 (by decide +kernel))⟩
theorem zflp_11_13 : zflP 11 13 10 7 0 false := ⟨RX11, TX11, 60, rfl, by decide, rfl, rfl, .inl ⟨rfl, rfl⟩, .inl (zmk6 23 (by decide +kernel))⟩
theorem zflp_11_195 : zflP 11 195 10 8 0 false := ⟨RX11, TX11, 60, rfl, by decide, rfl, rfl, .inl ⟨rfl, rfl⟩, .inl (zmk6 24 (by decide +kernel))⟩
theorem zflp_11_202 : zflP 11 202 10 9 0 false := ⟨RX11, TX11, 60, rfl, by decide, rfl, rfl, .inl ⟨rfl, rfl⟩, .inl (zmk6 25 (by decide +kernel))⟩
theorem zflp_11_17 : zflP 11 17 10 10 2 true := ⟨RX11, TX11, 60, rfl, by decide, rfl, rfl, .inr (.inr (.inl ⟨rfl, .inr ⟨_, rfl⟩⟩)), .inl (zmk6 26 (by decide +kernel))⟩
theorem zflp_11_20 : zflP 11 20 10 11 2 true := ⟨RX11, TX11, 60, rfl, by decide, rfl, rfl, .inr (.inr (.inl ⟨rfl, .inr ⟨_, rfl⟩⟩)), .inl (zmk6 27 (by decide +kernel))⟩
theorem zflp_11_24 : zflP 11 24 10 12 2 true := ⟨RX11, TX11, 60, rfl, by decide, rfl, rfl, .inr (.inr (.inl ⟨rfl, .inr ⟨_, rfl⟩⟩)), .inl (zmk6 28 (by decide +kernel))⟩
theorem zflp_11_27 : zflP 11 27 10 13 2 true := ⟨RX11, TX11, 60, rfl, by decide, rfl, rfl, .inr (.inr (.inl ⟨rfl, .inr ⟨_, rfl⟩⟩)), .inl (zmk6 29 (by decide +kernel))⟩
theorem zflp_11_30 : zflP 11 30 10 14 2 true := ⟨RX11, TX11, 60, rfl, by decide, rfl, rfl, .inr (.inr (.inl ⟨rfl, .inr ⟨_, rfl⟩⟩)), .inl (zmk6 30 (by decide +kernel))⟩
theorem zflp_11_33 : zflP 11 33 10 15 2 true := ⟨RX11, TX11, 60, rfl, by decide, rfl, rfl, .inr (.inr (.inl ⟨rfl, .inr ⟨_, rfl⟩⟩)), .inl (zmk6 31 (by decide +kernel))⟩
theorem zflp_11_36 : zflP 11 36 10 16 2 true := ⟨RX11, TX11, 60, rfl, by decide, rfl, rfl, .inr (.inr (.inl ⟨rfl, .inr ⟨_, rfl⟩⟩)), .inl (zmk6 32 (by decide +kernel))⟩
theorem zflp_11_39 : zflP 11 39 10 17 2 true := ⟨RX11, TX11, 60, rfl, by decide, rfl, rfl, .inr (.inr (.inl ⟨rfl, .inr ⟨_, rfl⟩⟩)), .inl (zmk6 33 (by decide +kernel))⟩
theorem zflp_11_42 : zflP 11 42 10 18 2 true := ⟨RX11, TX11, 60, rfl, by decide, rfl, rfl, .inr (.inr (.inl ⟨rfl, .inr ⟨_, rfl⟩⟩)), .inl (zmk6 34 (by decide +kernel))⟩
theorem zflp_11_45 : zflP 11 45 10 19 2 true := ⟨RX11, TX11, 60, rfl, by decide, rfl, rfl, .inr (.inr (.inl ⟨rfl, .inr ⟨_, rfl⟩⟩)), .inl (zmk6 35 (by decide +kernel))⟩
theorem zflp_11_48 : zflP 11 48 10 20 2 true := ⟨RX11, TX11, 60, rfl, by decide, rfl, rfl, .inr (.inr (.inl ⟨rfl, .inr ⟨_, rfl⟩⟩)), .inl (zmk6 36 (by decide +kernel))⟩
theorem zflp_11_51 : zflP 11 51 10 21 2 true := ⟨RX11, TX11, 60, rfl, by decide, rfl, rfl, .inr (.inr (.inl ⟨rfl, .inr ⟨_, rfl⟩⟩)), .inl (zmk6 37 (by decide +kernel))⟩
theorem zflp_11_55 : zflP 11 55 10 22 2 true := ⟨RX11, TX11, 60, rfl, by decide, rfl, rfl, .inr (.inr (.inl ⟨rfl, .inr ⟨_, rfl⟩⟩)), .inl (zmk6 38 (by decide +kernel))⟩
theorem zflp_11_58 : zflP 11 58 10 23 2 true := ⟨RX11, TX11, 60, rfl, by decide, rfl, rfl, .inr (.inr (.inl ⟨rfl, .inr ⟨_, rfl⟩⟩)), .inl (zmk6 39 (by decide +kernel))⟩
theorem zflp_11_61 : zflP 11 61 10 24 2 true := ⟨RX11, TX11, 60, rfl, by decide, rfl, rfl, .inr (.inr (.inl ⟨rfl, .inr ⟨_, rfl⟩⟩)), .inl (zmk6 40 (by decide +kernel))⟩
theorem zflp_11_340 : zflP 11 340 10 25 0 false := ⟨RX11, TX11, 60, rfl, by decide, rfl, rfl, .inl ⟨rfl, rfl⟩, .inl (zmk6 41 (by decide +kernel))⟩
theorem zflp_11_359 : zflP 11 359 10 26 0 false := ⟨RX11, TX11, 60, rfl, by decide, rfl, rfl, .inl ⟨rfl, rfl⟩, .inl (zmk6 42 (by decide +kernel))⟩
theorem zflp_11_64 : zflP 11 64 10 27 0 false := ⟨RX11, TX11, 60, rfl, by decide, rfl, rfl, .inl ⟨rfl, rfl⟩, .inl (zmk6 43 (by decide +kernel))⟩
theorem zflp_11_67 : zflP 11 67 10 28 0 false := ⟨RX11, TX11, 60, rfl, by decide, rfl, rfl, .inl ⟨rfl, rfl⟩, .inl (zmk6 44 (by decide +kernel))⟩
theorem zflp_11_70 : zflP 11 70 10 29 0 false := ⟨RX11, TX11, 60, rfl, by decide, rfl, rfl, .inl ⟨rfl, rfl⟩, .inl (zmk6 45 (by decide +kernel))⟩
theorem zflp_11_73 : zflP 11 73 10 30 2 true := ⟨RX11, TX11, 60, rfl, by decide, rfl, rfl, .inr (.inr (.inl ⟨rfl, .inr ⟨_, rfl⟩⟩)), .inl (zmk6 46 (by decide +kernel))⟩
theorem zflp_11_76 : zflP 11 76 10 31 2 true := ⟨RX11, TX11, 60, rfl, by decide, rfl, rfl, .inr (.inr (.inl ⟨rfl, .inr ⟨_, rfl⟩⟩)), .inl (zmk6 47 (by decide +kernel))⟩
theorem zflp_11_79 : zflP 11 79 10 32 2 true := ⟨RX11, TX11, 60, rfl, by decide, rfl, rfl, .inr (.inr (.inl ⟨rfl, .inr ⟨_, rfl⟩⟩)), .inl (zmk6 48 (by decide +kernel))⟩
theorem zflp_11_82 : zflP 11 82 10 33 2 true := ⟨RX11, TX11, 60, rfl, by decide, rfl, rfl, .inr (.inr (.inl ⟨rfl, .inr ⟨_, rfl⟩⟩)), .inl (zmk6 49 (by decide +kernel))⟩
theorem zflp_11_85 : zflP 11 85 10 34 2 true := ⟨RX11, TX11, 60, rfl, by decide, rfl, rfl, .inr (.inr (.inl ⟨rfl, .inr ⟨_, rfl⟩⟩)), .inl (zmk6 50 (by decide +kernel))⟩
theorem zflp_11_88 : zflP 11 88 10 35 2 true := ⟨RX11, TX11, 60, rfl, by decide, rfl, rfl, .inr (.inr (.inl ⟨rfl, .inr ⟨_, rfl⟩⟩)), .inl (zmk6 51 (by decide +kernel))⟩
theorem zflp_11_91 : zflP 11 91 10 36 2 true := ⟨RX11, TX11, 60, rfl, by decide, rfl, rfl, .inr (.inr (.inl ⟨rfl, .inr ⟨_, rfl⟩⟩)), .inl (zmk6 52 (by decide +kernel))⟩
theorem zflp_11_94 : zflP 11 94 10 37 2 true := ⟨RX11, TX11, 60, rfl, by decide, rfl, rfl, .inr (.inr (.inl ⟨rfl, .inr ⟨_, rfl⟩⟩)), .inl (zmk6 53 (by decide +kernel))⟩
theorem zflp_11_97 : zflP 11 97 10 38 2 true := ⟨RX11, TX11, 60, rfl, by decide, rfl, rfl, .inr (.inr (.inl ⟨rfl, .inr ⟨_, rfl⟩⟩)), .inl (zmk6 54 (by decide +kernel))⟩
theorem zflp_11_100 : zflP 11 100 10 39 2 true := ⟨RX11, TX11, 60, rfl, by decide, rfl, rfl, .inr (.inr (.inl ⟨rfl, .inr ⟨_, rfl⟩⟩)), .inl (zmk6 55 (by decide +kernel))⟩
theorem zflp_11_103 : zflP 11 103 10 40 2 true := ⟨RX11, TX11, 60, rfl, by decide, rfl, rfl, .inr (.inr (.inl ⟨rfl, .inr ⟨_, rfl⟩⟩)), .inl (zmk6 56 (by decide +kernel))⟩
theorem zflp_11_106 : zflP 11 106 10 41 2 true := ⟨RX11, TX11, 60, rfl, by decide, rfl, rfl, .inr (.inr (.inl ⟨rfl, .inr ⟨_, rfl⟩⟩)), .inl (zmk6 57 (by decide +kernel))⟩
theorem zflp_11_109 : zflP 11 109 10 42 2 true := ⟨RX11, TX11, 60, rfl, by decide, rfl, rfl, .inr (.inr (.inl ⟨rfl, .inr ⟨_, rfl⟩⟩)), .inl (zmk6 58 (by decide +kernel))⟩
theorem zflp_11_112 : zflP 11 112 10 43 2 true := ⟨RX11, TX11, 60, rfl, by decide, rfl, rfl, .inr (.inr (.inl ⟨rfl, .inr ⟨_, rfl⟩⟩)), .inl (zmk6 59 (by decide +kernel))⟩
theorem zflp_11_330 : zflP 11 330 10 44 0 false := ⟨RX11, TX11, 60, rfl, by decide, rfl, rfl, .inl ⟨rfl, rfl⟩, .inl (zmk6 60 (by decide +kernel))⟩
theorem zflp_11_115 : zflP 11 115 10 45 2 true := ⟨RX11, TX11, 60, rfl, by decide, rfl, rfl, .inr (.inr (.inl ⟨rfl, .inr ⟨_, rfl⟩⟩)), .inl (zmk6 61 (by decide +kernel))⟩
theorem zflp_11_118 : zflP 11 118 10 46 2 true := ⟨RX11, TX11, 60, rfl, by decide, rfl, rfl, .inr (.inr (.inl ⟨rfl, .inr ⟨_, rfl⟩⟩)), .inl (zmk6 62 (by decide +kernel))⟩
theorem zflp_11_121 : zflP 11 121 10 47 2 true := ⟨RX11, TX11, 60, rfl, by decide, rfl, rfl, .inr (.inr (.inl ⟨rfl, .inr ⟨_, rfl⟩⟩)), .inl (zmk6 63 (by decide +kernel))⟩
theorem zflp_11_375 : zflP 11 375 10 48 0 false := ⟨RX11, TX11, 60, rfl, by decide, rfl, rfl, .inl ⟨rfl, rfl⟩, .inl (zmk6 64 (by decide +kernel))⟩
theorem zflp_11_124 : zflP 11 124 10 49 2 true := ⟨RX11, TX11, 60, rfl, by decide, rfl, rfl, .inr (.inr (.inl ⟨rfl, .inr ⟨_, rfl⟩⟩)), .inl (zmk6 65 (by decide +kernel))⟩
theorem zflp_11_127 : zflP 11 127 10 50 2 true := ⟨RX11, TX11, 60, rfl, by decide, rfl, rfl, .inr (.inr (.inl ⟨rfl, .inr ⟨_, rfl⟩⟩)), .inl (zmk6 66 (by decide +kernel))⟩
theorem zflp_11_130 : zflP 11 130 10 51 2 true := ⟨RX11, TX11, 60, rfl, by decide, rfl, rfl, .inr (.inr (.inl ⟨rfl, .inr ⟨_, rfl⟩⟩)), .inl (zmk6 67 (by decide +kernel))⟩
theorem zflp_11_133 : zflP 11 133 10 52 2 true := ⟨RX11, TX11, 60, rfl, by decide, rfl, rfl, .inr (.inr (.inl ⟨rfl, .inr ⟨_, rfl⟩⟩)), .inl (zmk6 68 (by decide +kernel))⟩
theorem zflp_11_136 : zflP 11 136 10 53 2 true := ⟨RX11, TX11, 60, rfl, by decide, rfl, rfl, .inr (.inr (.inl ⟨rfl, .inr ⟨_, rfl⟩⟩)), .inl (zmk6 69 (by decide +kernel))⟩
theorem zflp_11_139 : zflP 11 139 10 54 2 true := ⟨RX11, TX11, 60, rfl, by decide, rfl, rfl, .inr (.inr (.inl ⟨rfl, .inr ⟨_, rfl⟩⟩)), .inl (zmk6 70 (by decide +kernel))⟩
theorem zflp_11_142 : zflP 11 142 10 55 2 true := ⟨RX11, TX11, 60, rfl, by decide, rfl, rfl, .inr (.inr (.inl ⟨rfl, .inr ⟨_, rfl⟩⟩)), .inl (zmk6 71 (by decide +kernel))⟩
theorem zflp_11_145 : zflP 11 145 10 56 2 true := ⟨RX11, TX11, 60, rfl, by decide, rfl, rfl, .inr (.inr (.inl ⟨rfl, .inr ⟨_, rfl⟩⟩)), .inl (zmk6 72 (by decide +kernel))⟩
theorem zflp_11_148 : zflP 11 148 10 57 2 true := ⟨RX11, TX11, 60, rfl, by decide, rfl, rfl, .inr (.inr (.inl ⟨rfl, .inr ⟨_, rfl⟩⟩)), .inl (zmk6 73 (by decide +kernel))⟩
theorem zflp_11_386 : zflP 11 386 10 58 1 false := ⟨RX11, TX11, 60, rfl, by decide, rfl, rfl, .inr (.inl ⟨rfl, rfl⟩), .inl (zmk6 74 (by decide +kernel))⟩
theorem zflp_11_396 : zflP 11 396 10 59 0 false := ⟨RX11, TX11, 60, rfl, by decide, rfl, rfl, .inl ⟨rfl, rfl⟩, .inl (zmk6 75 (by decide +kernel))⟩
theorem zfl0_ok {n ci f t : Nat} {fin : Bool} (h : zfl0 n = some (ci, f, t, fin)) : zflP 0 n ci f t fin := by
  unfold zfl0 at h
  split at h
  · cases h; exact zflp_0_9
  · cases h; exact zflp_0_15
  · cases h; exact zflp_0_18
  · cases h; exact zflp_0_21
  · cases h; exact zflp_0_24
  · cases h; exact zflp_0_27
  · cases h; exact zflp_0_37
  · cases h; exact zflp_0_40
  · cases h; exact zflp_0_48
  · cases h; exact zflp_0_60
  · cases h; exact zflp_0_68
  · cases h; exact zflp_0_71
  · cases h; exact zflp_0_74
  · cases h
theorem zfl1_ok {n ci f t : Nat} {fin : Bool} (h : zfl1 n = some (ci, f, t, fin)) : zflP 1 n ci f t fin := by
  unfold zfl1 at h
  split at h
  · cases h; exact zflp_1_12
  · cases h; exact zflp_1_18
  · cases h; exact zflp_1_22
  · cases h; exact zflp_1_25
  · cases h; exact zflp_1_29
  · cases h; exact zflp_1_40
  · cases h; exact zflp_1_50
  · cases h; exact zflp_1_53
  · cases h; exact zflp_1_128
  · cases h
theorem zfl2_ok {n ci f t : Nat} {fin : Bool} (h : zfl2 n = some (ci, f, t, fin)) : zflP 2 n ci f t fin := by
  unfold zfl2 at h
  split at h
  · cases h; exact zflp_2_12
  · cases h; exact zflp_2_20
  · cases h; exact zflp_2_24
  · cases h; exact zflp_2_33
  · cases h; exact zflp_2_37
  · cases h; exact zflp_2_46
  · cases h; exact zflp_2_50
  · cases h; exact zflp_2_59
  · cases h; exact zflp_2_62
  · cases h; exact zflp_2_66
  · cases h; exact zflp_2_75
  · cases h; exact zflp_2_81
  · cases h; exact zflp_2_92
  · cases h; exact zflp_2_95
  · cases h; exact zflp_2_98
  · cases h; exact zflp_2_101
  · cases h; exact zflp_2_104
  · cases h; exact zflp_2_111
  · cases h; exact zflp_2_114
  · cases h; exact zflp_2_121
  · cases h; exact zflp_2_131
  · cases h; exact zflp_2_146
  · cases h; exact zflp_2_149
  · cases h; exact zflp_2_163
  · cases h; exact zflp_2_166
  · cases h; exact zflp_2_169
  · cases h; exact zflp_2_172
  · cases h; exact zflp_2_176
  · cases h; exact zflp_2_180
  · cases h
theorem zfl3_ok {n ci f t : Nat} {fin : Bool} (h : zfl3 n = some (ci, f, t, fin)) : zflP 3 n ci f t fin := by
  simp [zfl3] at h
theorem zfl4_ok {n ci f t : Nat} {fin : Bool} (h : zfl4 n = some (ci, f, t, fin)) : zflP 4 n ci f t fin := by
  unfold zfl4 at h
  split at h
  · cases h; exact zflp_4_30
  · cases h; exact zflp_4_34
  · cases h
theorem zfl5_ok {n ci f t : Nat} {fin : Bool} (h : zfl5 n = some (ci, f, t, fin)) : zflP 5 n ci f t fin := by
  unfold zfl5 at h
  split at h
  · cases h; exact zflp_5_9
  · cases h; exact zflp_5_15
  · cases h; exact zflp_5_18
  · cases h; exact zflp_5_21
  · cases h; exact zflp_5_25
  · cases h; exact zflp_5_32
  · cases h; exact zflp_5_49
  · cases h; exact zflp_5_52
  · cases h
theorem zfl6_ok {n ci f t : Nat} {fin : Bool} (h : zfl6 n = some (ci, f, t, fin)) : zflP 6 n ci f t fin := by
  unfold zfl6 at h
  split at h
  · cases h; exact zflp_6_12
  · cases h; exact zflp_6_18
  · cases h; exact zflp_6_22
  · cases h; exact zflp_6_25
  · cases h; exact zflp_6_28
  · cases h; exact zflp_6_32
  · cases h; exact zflp_6_35
  · cases h; exact zflp_6_38
  · cases h; exact zflp_6_41
  · cases h; exact zflp_6_44
  · cases h; exact zflp_6_47
  · cases h; exact zflp_6_56
  · cases h; exact zflp_6_59
  · cases h; exact zflp_6_64
  · cases h; exact zflp_6_71
  · cases h
theorem zfl7_ok {n ci f t : Nat} {fin : Bool} (h : zfl7 n = some (ci, f, t, fin)) : zflP 7 n ci f t fin := by
  unfold zfl7 at h
  split at h
  · cases h; exact zflp_7_9
  · cases h; exact zflp_7_19
  · cases h; exact zflp_7_22
  · cases h; exact zflp_7_25
  · cases h; exact zflp_7_28
  · cases h; exact zflp_7_31
  · cases h; exact zflp_7_34
  · cases h; exact zflp_7_37
  · cases h; exact zflp_7_41
  · cases h; exact zflp_7_44
  · cases h; exact zflp_7_47
  · cases h
theorem zfl8_ok {n ci f t : Nat} {fin : Bool} (h : zfl8 n = some (ci, f, t, fin)) : zflP 8 n ci f t fin := by
  unfold zfl8 at h
  split at h
  · cases h; exact zflp_8_9
  · cases h; exact zflp_8_15
  · cases h; exact zflp_8_25
  · cases h; exact zflp_8_28
  · cases h; exact zflp_8_34
  · cases h; exact zflp_8_37
  · cases h; exact zflp_8_40
  · cases h
theorem zfl9_ok {n ci f t : Nat} {fin : Bool} (h : zfl9 n = some (ci, f, t, fin)) : zflP 9 n ci f t fin := by
  unfold zfl9 at h
  split at h
  · cases h; exact zflp_9_9
  · cases h; exact zflp_9_15
  · cases h; exact zflp_9_18
  · cases h; exact zflp_9_23
  · cases h; exact zflp_9_28
  · cases h; exact zflp_9_33
  · cases h; exact zflp_9_45
  · cases h; exact zflp_9_46
  · cases h; exact zflp_9_47
  · cases h; exact zflp_9_48
  · cases h; exact zflp_9_51
  · cases h; exact zflp_9_54
  · cases h; exact zflp_9_57
  · cases h; exact zflp_9_60
  · cases h; exact zflp_9_63
  · cases h
theorem zfl10_ok {n ci f t : Nat} {fin : Bool} (h : zfl10 n = some (ci, f, t, fin)) : zflP 10 n ci f t fin := by
  unfold zfl10 at h
  split at h
  · cases h; exact zflp_10_10
  · cases h; exact zflp_10_19
  · cases h; exact zflp_10_26
  · cases h; exact zflp_10_32
  · cases h; exact zflp_10_36
  · cases h; exact zflp_10_41
  · cases h; exact zflp_10_45
  · cases h; exact zflp_10_62
  · cases h; exact zflp_10_69
  · cases h; exact zflp_10_90
  · cases h; exact zflp_10_94
  · cases h; exact zflp_10_97
  · cases h; exact zflp_10_100
  · cases h; exact zflp_10_103
  · cases h; exact zflp_10_120
  · cases h; exact zflp_10_141
  · cases h; exact zflp_10_144
  · cases h; exact zflp_10_148
  · cases h; exact zflp_10_157
  · cases h; exact zflp_10_160
  · cases h; exact zflp_10_163
  · cases h; exact zflp_10_170
  · cases h; exact zflp_10_175
  · cases h; exact zflp_10_176
  · cases h; exact zflp_10_183
  · cases h; exact zflp_10_190
  · cases h; exact zflp_10_193
  · cases h; exact zflp_10_196
  · cases h; exact zflp_10_202
  · cases h; exact zflp_10_213
  · cases h; exact zflp_10_216
  · cases h; exact zflp_10_219
  · cases h; exact zflp_10_223
  · cases h; exact zflp_10_228
  · cases h; exact zflp_10_231
  · cases h; exact zflp_10_237
  · cases h; exact zflp_10_289
  · cases h; exact zflp_10_296
  · cases h; exact zflp_10_298
  · cases h; exact zflp_10_313
  · cases h; exact zflp_10_329
  · cases h
theorem zfl11_ok {n ci f t : Nat} {fin : Bool} (h : zfl11 n = some (ci, f, t, fin)) : zflP 11 n ci f t fin := by
  unfold zfl11 at h
  split at h
  · cases h; exact zflp_11_9
  · cases h; exact zflp_11_13
  · cases h; exact zflp_11_17
  · cases h; exact zflp_11_20
  · cases h; exact zflp_11_24
  · cases h; exact zflp_11_27
  · cases h; exact zflp_11_30
  · cases h; exact zflp_11_33
  · cases h; exact zflp_11_36
  · cases h; exact zflp_11_39
  · cases h; exact zflp_11_42
  · cases h; exact zflp_11_45
  · cases h; exact zflp_11_48
  · cases h; exact zflp_11_51
  · cases h; exact zflp_11_55
  · cases h; exact zflp_11_58
  · cases h; exact zflp_11_61
  · cases h; exact zflp_11_64
  · cases h; exact zflp_11_67
  · cases h; exact zflp_11_70
  · cases h; exact zflp_11_73
  · cases h; exact zflp_11_76
  · cases h; exact zflp_11_79
  · cases h; exact zflp_11_82
  · cases h; exact zflp_11_85
  · cases h; exact zflp_11_88
  · cases h; exact zflp_11_91
  · cases h; exact zflp_11_94
  · cases h; exact zflp_11_97
  · cases h; exact zflp_11_100
  · cases h; exact zflp_11_103
  · cases h; exact zflp_11_106
  · cases h; exact zflp_11_109
  · cases h; exact zflp_11_112
  · cases h; exact zflp_11_115
  · cases h; exact zflp_11_118
  · cases h; exact zflp_11_121
  · cases h; exact zflp_11_124
  · cases h; exact zflp_11_127
  · cases h; exact zflp_11_130
  · cases h; exact zflp_11_133
  · cases h; exact zflp_11_136
  · cases h; exact zflp_11_139
  · cases h; exact zflp_11_142
  · cases h; exact zflp_11_145
  · cases h; exact zflp_11_148
  · cases h; exact zflp_11_151
  · cases h; exact zflp_11_154
  · cases h; exact zflp_11_157
  · cases h; exact zflp_11_160
  · cases h; exact zflp_11_167
  · cases h; exact zflp_11_195
  · cases h; exact zflp_11_202
  · cases h; exact zflp_11_205
  · cases h; exact zflp_11_330
  · cases h; exact zflp_11_340
  · cases h; exact zflp_11_359
  · cases h; exact zflp_11_375
  · cases h; exact zflp_11_386
  · cases h; exact zflp_11_396
  · cases h
theorem zfl12_ok {n ci f t : Nat} {fin : Bool} (h : zfl12 n = some (ci, f, t, fin)) : zflP 12 n ci f t fin := by
  simp [zfl12] at h
theorem zfl_ok {o n ci f t : Nat} {fin : Bool} (h : zfl o n = some (ci, f, t, fin)) : zflP o n ci f t fin := by
  match o, h with
  | 0, h => exact zfl0_ok h
  | 1, h => exact zfl1_ok h
  | 2, h => exact zfl2_ok h
  | 3, h => exact zfl3_ok h
  | 4, h => exact zfl4_ok h
  | 5, h => exact zfl5_ok h
  | 6, h => exact zfl6_ok h
  | 7, h => exact zfl7_ok h
  | 8, h => exact zfl8_ok h
  | 9, h => exact zfl9_ok h
  | 10, h => exact zfl10_ok h
  | 11, h => exact zfl11_ok h
  | 12, h => exact zfl12_ok h
  | n + 13, h => simp [zfl] at h
set_option maxRecDepth 100000 in
theorem zmd_mX10_init : zmdP mX10_init := ⟨zmk1 29 rfl, zmk1 1 (by decide +kernel), by decide +kernel, by decide +kernel, by decide +kernel, by decide⟩
set_option maxRecDepth 100000 in
theorem zmd_mX10_answer : zmdP mX10_answer := ⟨zmk5 63 rfl, zmk1 1 (by decide +kernel), by decide +kernel, by decide +kernel, by decide +kernel, by decide⟩
set_option maxRecDepth 100000 in
theorem zmd_mX10_beside : zmdP mX10_beside := ⟨zmk4 117 rfl, zmk1 1 (by decide +kernel), by decide +kernel, by decide +kernel, by decide +kernel, by decide⟩
set_option maxRecDepth 100000 in
theorem zmd_mX10_bid : zmdP mX10_bid := ⟨zmk5 138 rfl, zmk1 1 (by decide +kernel), by decide +kernel, by decide +kernel, by decide +kernel, by decide⟩
set_option maxRecDepth 100000 in
theorem zmd_mX10_both : zmdP mX10_both := ⟨zmk2 182 rfl, zmk1 1 (by decide +kernel), by decide +kernel, by decide +kernel, by decide +kernel, by decide⟩
set_option maxRecDepth 100000 in
theorem zmd_mX10_cell : zmdP mX10_cell := ⟨zmk4 93 rfl, zmk1 1 (by decide +kernel), by decide +kernel, by decide +kernel, by decide +kernel, by decide⟩
set_option maxRecDepth 100000 in
theorem zmd_mX10_chosen : zmdP mX10_chosen := ⟨zmk5 172 rfl, zmk1 1 (by decide +kernel), by decide +kernel, by decide +kernel, by decide +kernel, by decide⟩
set_option maxRecDepth 100000 in
theorem zmd_mX10_claim : zmdP mX10_claim := ⟨zmk4 199 rfl, zmk1 1 (by decide +kernel), by decide +kernel, by decide +kernel, by decide +kernel, by decide⟩
set_option maxRecDepth 100000 in
theorem zmd_mX10_code : zmdP mX10_code := ⟨zmk4 5 rfl, zmk1 1 (by decide +kernel), by decide +kernel, by decide +kernel, by decide +kernel, by decide⟩
set_option maxRecDepth 100000 in
theorem zmd_mX10_cost : zmdP mX10_cost := ⟨zmk5 154 rfl, zmk1 1 (by decide +kernel), by decide +kernel, by decide +kernel, by decide +kernel, by decide⟩
set_option maxRecDepth 100000 in
theorem zmd_mX10_count : zmdP mX10_count := ⟨zmk2 190 rfl, zmk1 1 (by decide +kernel), by decide +kernel, by decide +kernel, by decide +kernel, by decide⟩
set_option maxRecDepth 100000 in
theorem zmd_mX10_cut : zmdP mX10_cut := ⟨zmk4 140 rfl, zmk1 1 (by decide +kernel), by decide +kernel, by decide +kernel, by decide +kernel, by decide⟩
set_option maxRecDepth 100000 in
theorem zmd_mX10_doubt : zmdP mX10_doubt := ⟨zmk4 206 rfl, zmk1 1 (by decide +kernel), by decide +kernel, by decide +kernel, by decide +kernel, by decide⟩
set_option maxRecDepth 100000 in
theorem zmd_mX10_earliestDue : zmdP mX10_earliestDue := ⟨zmk5 106 rfl, zmk1 1 (by decide +kernel), by decide +kernel, by decide +kernel, by decide +kernel, by decide⟩
set_option maxRecDepth 100000 in
theorem zmd_mX10_fault : zmdP mX10_fault := ⟨zmk2 178 rfl, zmk1 1 (by decide +kernel), by decide +kernel, by decide +kernel, by decide +kernel, by decide⟩
set_option maxRecDepth 100000 in
theorem zmd_mX10_feed : zmdP mX10_feed := ⟨zmk2 170 rfl, zmk1 1 (by decide +kernel), by decide +kernel, by decide +kernel, by decide +kernel, by decide⟩
set_option maxRecDepth 100000 in
theorem zmd_mX10_freeCoins : zmdP mX10_freeCoins := ⟨zmk2 202 rfl, zmk1 1 (by decide +kernel), by decide +kernel, by decide +kernel, by decide +kernel, by decide⟩
set_option maxRecDepth 100000 in
theorem zmd_mX10_give : zmdP mX10_give := ⟨zmk4 176 rfl, zmk1 1 (by decide +kernel), by decide +kernel, by decide +kernel, by decide +kernel, by decide⟩
set_option maxRecDepth 100000 in
theorem zmd_mX10_heldCoins : zmdP mX10_heldCoins := ⟨zmk2 194 rfl, zmk1 1 (by decide +kernel), by decide +kernel, by decide +kernel, by decide +kernel, by decide⟩
set_option maxRecDepth 100000 in
theorem zmd_mX10_house : zmdP mX10_house := ⟨zmk4 151 rfl, zmk1 1 (by decide +kernel), by decide +kernel, by decide +kernel, by decide +kernel, by decide⟩
set_option maxRecDepth 100000 in
theorem zmd_mX10_houseAt : zmdP mX10_houseAt := ⟨zmk4 162 rfl, zmk1 1 (by decide +kernel), by decide +kernel, by decide +kernel, by decide +kernel, by decide⟩
set_option maxRecDepth 100000 in
theorem zmd_mX10_isWithin : zmdP mX10_isWithin := ⟨zmk2 214 rfl, zmk1 1 (by decide +kernel), by decide +kernel, by decide +kernel, by decide +kernel, by decide⟩
set_option maxRecDepth 100000 in
theorem zmd_mX10_joined : zmdP mX10_joined := ⟨zmk2 185 rfl, zmk1 1 (by decide +kernel), by decide +kernel, by decide +kernel, by decide +kernel, by decide⟩
set_option maxRecDepth 100000 in
theorem zmd_mX10_lapseWhatIsDue : zmdP mX10_lapseWhatIsDue := ⟨zmk5 120 rfl, zmk1 1 (by decide +kernel), by decide +kernel, by decide +kernel, by decide +kernel, by decide⟩
set_option maxRecDepth 100000 in
theorem zmd_mX10_length : zmdP mX10_length := ⟨zmk4 46 rfl, zmk1 1 (by decide +kernel), by decide +kernel, by decide +kernel, by decide +kernel, by decide⟩
set_option maxRecDepth 100000 in
theorem zmd_mX10_linear : zmdP mX10_linear := ⟨zmk5 206 rfl, zmk1 1 (by decide +kernel), by decide +kernel, by decide +kernel, by decide +kernel, by decide⟩
set_option maxRecDepth 100000 in
theorem zmd_mX10_lot : zmdP mX10_lot := ⟨zmk5 213 rfl, zmk1 1 (by decide +kernel), by decide +kernel, by decide +kernel, by decide +kernel, by decide⟩
set_option maxRecDepth 100000 in
theorem zmd_mX10_memory : zmdP mX10_memory := ⟨zmk4 35 rfl, zmk1 1 (by decide +kernel), by decide +kernel, by decide +kernel, by decide +kernel, by decide⟩
set_option maxRecDepth 100000 in
theorem zmd_mX10_out : zmdP mX10_out := ⟨zmk5 231 rfl, zmk1 1 (by decide +kernel), by decide +kernel, by decide +kernel, by decide +kernel, by decide⟩
set_option maxRecDepth 100000 in
theorem zmd_mX10_part : zmdP mX10_part := ⟨zmk5 220 rfl, zmk1 1 (by decide +kernel), by decide +kernel, by decide +kernel, by decide +kernel, by decide⟩
set_option maxRecDepth 100000 in
theorem zmd_mX10_piece : zmdP mX10_piece := ⟨zmk5 52 rfl, zmk1 1 (by decide +kernel), by decide +kernel, by decide +kernel, by decide +kernel, by decide⟩
set_option maxRecDepth 100000 in
theorem zmd_mX10_pieceAt : zmdP mX10_pieceAt := ⟨zmk4 180 rfl, zmk1 1 (by decide +kernel), by decide +kernel, by decide +kernel, by decide +kernel, by decide⟩
set_option maxRecDepth 100000 in
theorem zmd_mX10_purse : zmdP mX10_purse := ⟨zmk6 9 rfl, zmk1 1 (by decide +kernel), by decide +kernel, by decide +kernel, by decide +kernel, by decide⟩
set_option maxRecDepth 100000 in
theorem zmd_mX10_rule : zmdP mX10_rule := ⟨zmk4 169 rfl, zmk1 1 (by decide +kernel), by decide +kernel, by decide +kernel, by decide +kernel, by decide⟩
set_option maxRecDepth 100000 in
theorem zmd_mX10_shown : zmdP mX10_shown := ⟨zmk4 128 rfl, zmk1 1 (by decide +kernel), by decide +kernel, by decide +kernel, by decide +kernel, by decide⟩
set_option maxRecDepth 100000 in
theorem zmd_mX10_sum : zmdP mX10_sum := ⟨zmk4 101 rfl, zmk1 1 (by decide +kernel), by decide +kernel, by decide +kernel, by decide +kernel, by decide⟩
set_option maxRecDepth 100000 in
theorem zmd_mX10_task : zmdP mX10_task := ⟨zmk2 210 rfl, zmk1 1 (by decide +kernel), by decide +kernel, by decide +kernel, by decide +kernel, by decide⟩
set_option maxRecDepth 100000 in
theorem zmd_mX10_taskAt : zmdP mX10_taskAt := ⟨zmk4 9 rfl, zmk1 1 (by decide +kernel), by decide +kernel, by decide +kernel, by decide +kernel, by decide⟩
set_option maxRecDepth 100000 in
theorem zmd_mX10_tick : zmdP mX10_tick := ⟨zmk5 86 rfl, zmk1 1 (by decide +kernel), by decide +kernel, by decide +kernel, by decide +kernel, by decide⟩
set_option maxRecDepth 100000 in
theorem zmd_mX10_told : zmdP mX10_told := ⟨zmk4 158 rfl, zmk1 1 (by decide +kernel), by decide +kernel, by decide +kernel, by decide +kernel, by decide⟩
set_option maxRecDepth 100000 in
theorem zmd_mX10_trial : zmdP mX10_trial := ⟨zmk5 131 rfl, zmk1 1 (by decide +kernel), by decide +kernel, by decide +kernel, by decide +kernel, by decide⟩
set_option maxRecDepth 100000 in
theorem zmd_mX0_init : zmdP mX0_init := ⟨zmk1 175 rfl, zmk1 7 (by decide +kernel), by decide +kernel, by decide +kernel, by decide +kernel, by decide⟩
set_option maxRecDepth 100000 in
theorem zmd_mX0_choose : zmdP mX0_choose := ⟨zmk5 187 rfl, zmk1 7 (by decide +kernel), by decide +kernel, by decide +kernel, by decide +kernel, by decide⟩
set_option maxRecDepth 100000 in
theorem zmd_mX0_findBest : zmdP mX0_findBest := ⟨zmk5 182 rfl, zmk1 7 (by decide +kernel), by decide +kernel, by decide +kernel, by decide +kernel, by decide⟩
set_option maxRecDepth 100000 in
theorem zmd_mX0_houseFor : zmdP mX0_houseFor := ⟨zmk5 199 rfl, zmk1 7 (by decide +kernel), by decide +kernel, by decide +kernel, by decide +kernel, by decide⟩
set_option maxRecDepth 100000 in
theorem zmd_mX0_tryHouse : zmdP mX0_tryHouse := ⟨zmk5 191 rfl, zmk1 7 (by decide +kernel), by decide +kernel, by decide +kernel, by decide +kernel, by decide⟩
set_option maxRecDepth 100000 in
theorem zmd_mX1_init : zmdP mX1_init := ⟨zmk1 37 rfl, zmk1 2 (by decide +kernel), by decide +kernel, by decide +kernel, by decide +kernel, by decide⟩
set_option maxRecDepth 100000 in
theorem zmd_mX1_aim : zmdP mX1_aim := ⟨zmk3 204 rfl, zmk1 2 (by decide +kernel), by decide +kernel, by decide +kernel, by decide +kernel, by decide⟩
set_option maxRecDepth 100000 in
theorem zmd_mX1_block : zmdP mX1_block := ⟨zmk3 200 rfl, zmk1 2 (by decide +kernel), by decide +kernel, by decide +kernel, by decide +kernel, by decide⟩
set_option maxRecDepth 100000 in
theorem zmd_mX1_branch : zmdP mX1_branch := ⟨zmk3 209 rfl, zmk1 2 (by decide +kernel), by decide +kernel, by decide +kernel, by decide +kernel, by decide⟩
set_option maxRecDepth 100000 in
theorem zmd_mX1_compile : zmdP mX1_compile := ⟨zmk3 41 rfl, zmk1 2 (by decide +kernel), by decide +kernel, by decide +kernel, by decide +kernel, by decide⟩
set_option maxRecDepth 100000 in
theorem zmd_mX1_emit : zmdP mX1_emit := ⟨zmk3 117 rfl, zmk1 2 (by decide +kernel), by decide +kernel, by decide +kernel, by decide +kernel, by decide⟩
set_option maxRecDepth 100000 in
theorem zmd_mX1_enclosed : zmdP mX1_enclosed := ⟨zmk3 178 rfl, zmk1 2 (by decide +kernel), by decide +kernel, by decide +kernel, by decide +kernel, by decide⟩
set_option maxRecDepth 100000 in
theorem zmd_mX1_expect : zmdP mX1_expect := ⟨zmk3 84 rfl, zmk1 2 (by decide +kernel), by decide +kernel, by decide +kernel, by decide +kernel, by decide⟩
set_option maxRecDepth 100000 in
theorem zmd_mX1_expression : zmdP mX1_expression := ⟨zmk3 100 rfl, zmk1 2 (by decide +kernel), by decide +kernel, by decide +kernel, by decide +kernel, by decide⟩
set_option maxRecDepth 100000 in
theorem zmd_mX1_loop : zmdP mX1_loop := ⟨zmk3 196 rfl, zmk1 2 (by decide +kernel), by decide +kernel, by decide +kernel, by decide +kernel, by decide⟩
set_option maxRecDepth 100000 in
theorem zmd_mX1_number : zmdP mX1_number := ⟨zmk3 112 rfl, zmk1 2 (by decide +kernel), by decide +kernel, by decide +kernel, by decide +kernel, by decide⟩
set_option maxRecDepth 100000 in
theorem zmd_mX1_opens : zmdP mX1_opens := ⟨zmk3 182 rfl, zmk1 2 (by decide +kernel), by decide +kernel, by decide +kernel, by decide +kernel, by decide⟩
set_option maxRecDepth 100000 in
theorem zmd_mX1_operand : zmdP mX1_operand := ⟨zmk3 104 rfl, zmk1 2 (by decide +kernel), by decide +kernel, by decide +kernel, by decide +kernel, by decide⟩
set_option maxRecDepth 100000 in
theorem zmd_mX1_refuse : zmdP mX1_refuse := ⟨zmk3 96 rfl, zmk1 2 (by decide +kernel), by decide +kernel, by decide +kernel, by decide +kernel, by decide⟩
set_option maxRecDepth 100000 in
theorem zmd_mX1_signKind : zmdP mX1_signKind := ⟨zmk3 187 rfl, zmk1 2 (by decide +kernel), by decide +kernel, by decide +kernel, by decide +kernel, by decide⟩
set_option maxRecDepth 100000 in
theorem zmd_mX1_signLevel : zmdP mX1_signLevel := ⟨zmk3 190 rfl, zmk1 2 (by decide +kernel), by decide +kernel, by decide +kernel, by decide +kernel, by decide⟩
set_option maxRecDepth 100000 in
theorem zmd_mX1_statement : zmdP mX1_statement := ⟨zmk3 75 rfl, zmk1 2 (by decide +kernel), by decide +kernel, by decide +kernel, by decide +kernel, by decide⟩
set_option maxRecDepth 100000 in
theorem zmd_mX1_statements : zmdP mX1_statements := ⟨zmk3 71 rfl, zmk1 2 (by decide +kernel), by decide +kernel, by decide +kernel, by decide +kernel, by decide⟩
set_option maxRecDepth 100000 in
theorem zmd_mX1_unit : zmdP mX1_unit := ⟨zmk3 108 rfl, zmk1 2 (by decide +kernel), by decide +kernel, by decide +kernel, by decide +kernel, by decide⟩
set_option maxRecDepth 100000 in
theorem zmd_mX2_init : zmdP mX2_init := ⟨zmk1 102 rfl, zmk1 4 (by decide +kernel), by decide +kernel, by decide +kernel, by decide +kernel, by decide⟩
set_option maxRecDepth 100000 in
theorem zmd_mX2_beginQuarrel : zmdP mX2_beginQuarrel := ⟨zmk4 214 rfl, zmk1 4 (by decide +kernel), by decide +kernel, by decide +kernel, by decide +kernel, by decide⟩
set_option maxRecDepth 100000 in
theorem zmd_mX2_countLie : zmdP mX2_countLie := ⟨zmk5 8 rfl, zmk1 4 (by decide +kernel), by decide +kernel, by decide +kernel, by decide +kernel, by decide⟩
set_option maxRecDepth 100000 in
theorem zmd_mX2_dueTick : zmdP mX2_dueTick := ⟨zmk5 111 rfl, zmk1 4 (by decide +kernel), by decide +kernel, by decide +kernel, by decide +kernel, by decide⟩
set_option maxRecDepth 100000 in
theorem zmd_mX2_hangsOnAhead : zmdP mX2_hangsOnAhead := ⟨zmk5 41 rfl, zmk1 4 (by decide +kernel), by decide +kernel, by decide +kernel, by decide +kernel, by decide⟩
set_option maxRecDepth 100000 in
theorem zmd_mX2_judgeIfNarrow : zmdP mX2_judgeIfNarrow := ⟨zmk4 236 rfl, zmk1 4 (by decide +kernel), by decide +kernel, by decide +kernel, by decide +kernel, by decide⟩
set_option maxRecDepth 100000 in
theorem zmd_mX2_keep : zmdP mX2_keep := ⟨zmk5 26 rfl, zmk1 4 (by decide +kernel), by decide +kernel, by decide +kernel, by decide +kernel, by decide⟩
set_option maxRecDepth 100000 in
theorem zmd_mX2_lapse : zmdP mX2_lapse := ⟨zmk5 124 rfl, zmk1 4 (by decide +kernel), by decide +kernel, by decide +kernel, by decide +kernel, by decide⟩
set_option maxRecDepth 100000 in
theorem zmd_mX2_makeVoid : zmdP mX2_makeVoid := ⟨zmk5 30 rfl, zmk1 4 (by decide +kernel), by decide +kernel, by decide +kernel, by decide +kernel, by decide⟩
set_option maxRecDepth 100000 in
theorem zmd_mX2_pay : zmdP mX2_pay := ⟨zmk5 18 rfl, zmk1 4 (by decide +kernel), by decide +kernel, by decide +kernel, by decide +kernel, by decide⟩
set_option maxRecDepth 100000 in
theorem zmd_mX2_reopen : zmdP mX2_reopen := ⟨zmk5 34 rfl, zmk1 4 (by decide +kernel), by decide +kernel, by decide +kernel, by decide +kernel, by decide⟩
set_option maxRecDepth 100000 in
theorem zmd_mX2_returnPledges : zmdP mX2_returnPledges := ⟨zmk5 45 rfl, zmk1 4 (by decide +kernel), by decide +kernel, by decide +kernel, by decide +kernel, by decide⟩
set_option maxRecDepth 100000 in
theorem zmd_mX2_reward : zmdP mX2_reward := ⟨zmk5 13 rfl, zmk1 4 (by decide +kernel), by decide +kernel, by decide +kernel, by decide +kernel, by decide⟩
set_option maxRecDepth 100000 in
theorem zmd_mX2_settle : zmdP mX2_settle := ⟨zmk5 4 rfl, zmk1 4 (by decide +kernel), by decide +kernel, by decide +kernel, by decide +kernel, by decide⟩
set_option maxRecDepth 100000 in
theorem zmd_mX2_stay : zmdP mX2_stay := ⟨zmk5 22 rfl, zmk1 4 (by decide +kernel), by decide +kernel, by decide +kernel, by decide +kernel, by decide⟩
set_option maxRecDepth 100000 in
theorem zmd_mX3_init : zmdP mX3_init := ⟨zmk1 132 rfl, zmk1 6 (by decide +kernel), by decide +kernel, by decide +kernel, by decide +kernel, by decide⟩
set_option maxRecDepth 100000 in
theorem zmd_mX4_leaves : zmdP mX4_leaves := ⟨zmk3 213 rfl, zmk1 21 (by decide +kernel), by decide +kernel, by decide +kernel, by decide +kernel, by decide⟩
set_option maxRecDepth 100000 in
theorem zmd_mX4_term : zmdP mX4_term := ⟨zmk3 223 rfl, zmk1 21 (by decide +kernel), by decide +kernel, by decide +kernel, by decide +kernel, by decide⟩
set_option maxRecDepth 100000 in
theorem zmd_mX4_terms : zmdP mX4_terms := ⟨zmk3 220 rfl, zmk1 21 (by decide +kernel), by decide +kernel, by decide +kernel, by decide +kernel, by decide⟩
set_option maxRecDepth 100000 in
theorem zmd_mX5_init : zmdP mX5_init := ⟨zmk1 108 rfl, zmk1 5 (by decide +kernel), by decide +kernel, by decide +kernel, by decide +kernel, by decide⟩
set_option maxRecDepth 100000 in
theorem zmd_mX5_besideOf : zmdP mX5_besideOf := ⟨zmk4 121 rfl, zmk1 5 (by decide +kernel), by decide +kernel, by decide +kernel, by decide +kernel, by decide⟩
set_option maxRecDepth 100000 in
theorem zmd_mX5_clear : zmdP mX5_clear := ⟨zmk4 58 rfl, zmk1 5 (by decide +kernel), by decide +kernel, by decide +kernel, by decide +kernel, by decide⟩
set_option maxRecDepth 100000 in
theorem zmd_mX5_climb : zmdP mX5_climb := ⟨zmk4 132 rfl, zmk1 5 (by decide +kernel), by decide +kernel, by decide +kernel, by decide +kernel, by decide⟩
set_option maxRecDepth 100000 in
theorem zmd_mX5_forget : zmdP mX5_forget := ⟨zmk4 39 rfl, zmk1 5 (by decide +kernel), by decide +kernel, by decide +kernel, by decide +kernel, by decide⟩
set_option maxRecDepth 100000 in
theorem zmd_mX5_isHalted : zmdP mX5_isHalted := ⟨zmk4 66 rfl, zmk1 5 (by decide +kernel), by decide +kernel, by decide +kernel, by decide +kernel, by decide⟩
set_option maxRecDepth 100000 in
theorem zmd_mX5_lengthOf : zmdP mX5_lengthOf := ⟨zmk4 50 rfl, zmk1 5 (by decide +kernel), by decide +kernel, by decide +kernel, by decide +kernel, by decide⟩
set_option maxRecDepth 100000 in
theorem zmd_mX5_outOf : zmdP mX5_outOf := ⟨zmk5 235 rfl, zmk1 5 (by decide +kernel), by decide +kernel, by decide +kernel, by decide +kernel, by decide⟩
set_option maxRecDepth 100000 in
theorem zmd_mX5_outOfPart : zmdP mX5_outOfPart := ⟨zmk6 0 rfl, zmk1 5 (by decide +kernel), by decide +kernel, by decide +kernel, by decide +kernel, by decide⟩
set_option maxRecDepth 100000 in
theorem zmd_mX5_pageSum : zmdP mX5_pageSum := ⟨zmk4 109 rfl, zmk1 5 (by decide +kernel), by decide +kernel, by decide +kernel, by decide +kernel, by decide⟩
set_option maxRecDepth 100000 in
theorem zmd_mX5_pop : zmdP mX5_pop := ⟨zmk4 79 rfl, zmk1 5 (by decide +kernel), by decide +kernel, by decide +kernel, by decide +kernel, by decide⟩
set_option maxRecDepth 100000 in
theorem zmd_mX5_push : zmdP mX5_push := ⟨zmk4 75 rfl, zmk1 5 (by decide +kernel), by decide +kernel, by decide +kernel, by decide +kernel, by decide⟩
set_option maxRecDepth 100000 in
theorem zmd_mX5_putOut : zmdP mX5_putOut := ⟨zmk4 83 rfl, zmk1 5 (by decide +kernel), by decide +kernel, by decide +kernel, by decide +kernel, by decide⟩
set_option maxRecDepth 100000 in
theorem zmd_mX5_runTo : zmdP mX5_runTo := ⟨zmk4 62 rfl, zmk1 5 (by decide +kernel), by decide +kernel, by decide +kernel, by decide +kernel, by decide⟩
set_option maxRecDepth 100000 in
theorem zmd_mX5_show : zmdP mX5_show := ⟨zmk4 54 rfl, zmk1 5 (by decide +kernel), by decide +kernel, by decide +kernel, by decide +kernel, by decide⟩
set_option maxRecDepth 100000 in
theorem zmd_mX5_step : zmdP mX5_step := ⟨zmk4 71 rfl, zmk1 5 (by decide +kernel), by decide +kernel, by decide +kernel, by decide +kernel, by decide⟩
set_option maxRecDepth 100000 in
theorem zmd_mX5_sumOf : zmdP mX5_sumOf := ⟨zmk4 105 rfl, zmk1 5 (by decide +kernel), by decide +kernel, by decide +kernel, by decide +kernel, by decide⟩
set_option maxRecDepth 100000 in
theorem zmd_mX5_worked : zmdP mX5_worked := ⟨zmk4 86 rfl, zmk1 5 (by decide +kernel), by decide +kernel, by decide +kernel, by decide +kernel, by decide⟩
set_option maxRecDepth 100000 in
theorem zmd_mX6_init : zmdP mX6_init := ⟨zmk1 220 rfl, zmk1 9 (by decide +kernel), by decide +kernel, by decide +kernel, by decide +kernel, by decide⟩
set_option maxRecDepth 100000 in
theorem zmd_mX6_bidCost : zmdP mX6_bidCost := ⟨zmk5 158 rfl, zmk1 9 (by decide +kernel), by decide +kernel, by decide +kernel, by decide +kernel, by decide⟩
set_option maxRecDepth 100000 in
theorem zmd_mX6_dropBids : zmdP mX6_dropBids := ⟨zmk4 192 rfl, zmk1 9 (by decide +kernel), by decide +kernel, by decide +kernel, by decide +kernel, by decide⟩
set_option maxRecDepth 100000 in
theorem zmd_mX6_giveTo : zmdP mX6_giveTo := ⟨zmk4 188 rfl, zmk1 9 (by decide +kernel), by decide +kernel, by decide +kernel, by decide +kernel, by decide⟩
set_option maxRecDepth 100000 in
theorem zmd_mX6_hasBid : zmdP mX6_hasBid := ⟨zmk5 142 rfl, zmk1 9 (by decide +kernel), by decide +kernel, by decide +kernel, by decide +kernel, by decide⟩
set_option maxRecDepth 100000 in
theorem zmd_mX6_heldCoins : zmdP mX6_heldCoins := ⟨zmk2 198 rfl, zmk1 9 (by decide +kernel), by decide +kernel, by decide +kernel, by decide +kernel, by decide⟩
set_option maxRecDepth 100000 in
theorem zmd_mX6_reopen : zmdP mX6_reopen := ⟨zmk5 38 rfl, zmk1 9 (by decide +kernel), by decide +kernel, by decide +kernel, by decide +kernel, by decide⟩
set_option maxRecDepth 100000 in
theorem zmd_mX6_setBid : zmdP mX6_setBid := ⟨zmk5 147 rfl, zmk1 9 (by decide +kernel), by decide +kernel, by decide +kernel, by decide +kernel, by decide⟩
set_option maxRecDepth 100000 in
theorem zmd_mX7_init : zmdP mX7_init := ⟨zmk1 226 rfl, zmk1 10 (by decide +kernel), by decide +kernel, by decide +kernel, by decide +kernel, by decide⟩
set_option maxRecDepth 100000 in
theorem zmd_mX7_ask : zmdP mX7_ask := ⟨zmk4 224 rfl, zmk1 10 (by decide +kernel), by decide +kernel, by decide +kernel, by decide +kernel, by decide⟩
set_option maxRecDepth 100000 in
theorem zmd_mX7_begin : zmdP mX7_begin := ⟨zmk4 220 rfl, zmk1 10 (by decide +kernel), by decide +kernel, by decide +kernel, by decide +kernel, by decide⟩
set_option maxRecDepth 100000 in
theorem zmd_mX7_halve : zmdP mX7_halve := ⟨zmk5 75 rfl, zmk1 10 (by decide +kernel), by decide +kernel, by decide +kernel, by decide +kernel, by decide⟩
set_option maxRecDepth 100000 in
theorem zmd_mX7_hasTold : zmdP mX7_hasTold := ⟨zmk5 67 rfl, zmk1 10 (by decide +kernel), by decide +kernel, by decide +kernel, by decide +kernel, by decide⟩
set_option maxRecDepth 100000 in
theorem zmd_mX7_isNarrow : zmdP mX7_isNarrow := ⟨zmk5 0 rfl, zmk1 10 (by decide +kernel), by decide +kernel, by decide +kernel, by decide +kernel, by decide⟩
set_option maxRecDepth 100000 in
theorem zmd_mX7_middle : zmdP mX7_middle := ⟨zmk5 56 rfl, zmk1 10 (by decide +kernel), by decide +kernel, by decide +kernel, by decide +kernel, by decide⟩
set_option maxRecDepth 100000 in
theorem zmd_mX7_setEnd : zmdP mX7_setEnd := ⟨zmk4 232 rfl, zmk1 10 (by decide +kernel), by decide +kernel, by decide +kernel, by decide +kernel, by decide⟩
set_option maxRecDepth 100000 in
theorem zmd_mX7_setStart : zmdP mX7_setStart := ⟨zmk4 228 rfl, zmk1 10 (by decide +kernel), by decide +kernel, by decide +kernel, by decide +kernel, by decide⟩
set_option maxRecDepth 100000 in
theorem zmd_mX7_tell : zmdP mX7_tell := ⟨zmk5 71 rfl, zmk1 10 (by decide +kernel), by decide +kernel, by decide +kernel, by decide +kernel, by decide⟩
set_option maxRecDepth 100000 in
theorem zmd_mX8_init : zmdP mX8_init := ⟨zmk1 43 rfl, zmk1 3 (by decide +kernel), by decide +kernel, by decide +kernel, by decide +kernel, by decide⟩
set_option maxRecDepth 100000 in
theorem zmd_mX8_add : zmdP mX8_add := ⟨zmk2 174 rfl, zmk1 3 (by decide +kernel), by decide +kernel, by decide +kernel, by decide +kernel, by decide⟩
set_option maxRecDepth 100000 in
theorem zmd_mX8_advance : zmdP mX8_advance := ⟨zmk3 52 rfl, zmk1 3 (by decide +kernel), by decide +kernel, by decide +kernel, by decide +kernel, by decide⟩
set_option maxRecDepth 100000 in
theorem zmd_mX8_begin : zmdP mX8_begin := ⟨zmk3 45 rfl, zmk1 3 (by decide +kernel), by decide +kernel, by decide +kernel, by decide +kernel, by decide⟩
set_option maxRecDepth 100000 in
theorem zmd_mX8_isDigit : zmdP mX8_isDigit := ⟨zmk3 55 rfl, zmk1 3 (by decide +kernel), by decide +kernel, by decide +kernel, by decide +kernel, by decide⟩
set_option maxRecDepth 100000 in
theorem zmd_mX8_isLetter : zmdP mX8_isLetter := ⟨zmk3 63 rfl, zmk1 3 (by decide +kernel), by decide +kernel, by decide +kernel, by decide +kernel, by decide⟩
set_option maxRecDepth 100000 in
theorem zmd_mX8_isSign : zmdP mX8_isSign := ⟨zmk3 92 rfl, zmk1 3 (by decide +kernel), by decide +kernel, by decide +kernel, by decide +kernel, by decide⟩
set_option maxRecDepth 100000 in
theorem zmd_mX8_isWord : zmdP mX8_isWord := ⟨zmk3 126 rfl, zmk1 3 (by decide +kernel), by decide +kernel, by decide +kernel, by decide +kernel, by decide⟩
set_option maxRecDepth 100000 in
theorem zmd_mX8_readNumber : zmdP mX8_readNumber := ⟨zmk3 59 rfl, zmk1 3 (by decide +kernel), by decide +kernel, by decide +kernel, by decide +kernel, by decide⟩
set_option maxRecDepth 100000 in
theorem zmd_mX8_readWord : zmdP mX8_readWord := ⟨zmk3 67 rfl, zmk1 3 (by decide +kernel), by decide +kernel, by decide +kernel, by decide +kernel, by decide⟩
set_option maxRecDepth 100000 in
theorem zmd_mX8_takesNumber : zmdP mX8_takesNumber := ⟨zmk3 227 rfl, zmk1 3 (by decide +kernel), by decide +kernel, by decide +kernel, by decide +kernel, by decide⟩
set_option maxRecDepth 100000 in
theorem zmd_mX8_takesSign : zmdP mX8_takesSign := ⟨zmk3 88 rfl, zmk1 3 (by decide +kernel), by decide +kernel, by decide +kernel, by decide +kernel, by decide⟩
set_option maxRecDepth 100000 in
theorem zmd_mX8_takesWord : zmdP mX8_takesWord := ⟨zmk3 122 rfl, zmk1 3 (by decide +kernel), by decide +kernel, by decide +kernel, by decide +kernel, by decide⟩
set_option maxRecDepth 100000 in
theorem zmd_mX8_variable : zmdP mX8_variable := ⟨zmk3 79 rfl, zmk1 3 (by decide +kernel), by decide +kernel, by decide +kernel, by decide +kernel, by decide⟩
set_option maxRecDepth 100000 in
theorem zmd_mX9_init : zmdP mX9_init := ⟨zmk1 211 rfl, zmk1 8 (by decide +kernel), by decide +kernel, by decide +kernel, by decide +kernel, by decide⟩
set_option maxRecDepth 100000 in
theorem zmd_mX9_begin : zmdP mX9_begin := ⟨zmk3 235 rfl, zmk1 8 (by decide +kernel), by decide +kernel, by decide +kernel, by decide +kernel, by decide⟩
set_option maxRecDepth 100000 in
theorem zmd_mX9_divide : zmdP mX9_divide := ⟨zmk4 144 rfl, zmk1 8 (by decide +kernel), by decide +kernel, by decide +kernel, by decide +kernel, by decide⟩
set_option maxRecDepth 100000 in
theorem zmd_mX9_hasCode : zmdP mX9_hasCode := ⟨zmk4 28 rfl, zmk1 8 (by decide +kernel), by decide +kernel, by decide +kernel, by decide +kernel, by decide⟩
set_option maxRecDepth 100000 in
theorem zmd_mX9_hasPiece : zmdP mX9_hasPiece := ⟨zmk4 184 rfl, zmk1 8 (by decide +kernel), by decide +kernel, by decide +kernel, by decide +kernel, by decide⟩
set_option maxRecDepth 100000 in
theorem zmd_mX9_isEndToldAhead : zmdP mX9_isEndToldAhead := ⟨zmk4 210 rfl, zmk1 8 (by decide +kernel), by decide +kernel, by decide +kernel, by decide +kernel, by decide⟩
set_option maxRecDepth 100000 in
theorem zmd_mX9_partOf : zmdP mX9_partOf := ⟨zmk5 224 rfl, zmk1 8 (by decide +kernel), by decide +kernel, by decide +kernel, by decide +kernel, by decide⟩
set_option maxRecDepth 100000 in
theorem zmd_mX11_init : zmdP mX11_init := ⟨zmk6 14 rfl, zmk1 11 (by decide +kernel), by decide +kernel, by decide +kernel, by decide +kernel, by decide⟩
set_option maxRecDepth 100000 in
theorem zmd_mX11_adds : zmdP mX11_adds := ⟨zmk7 34 rfl, zmk1 11 (by decide +kernel), by decide +kernel, by decide +kernel, by decide +kernel, by decide⟩
set_option maxRecDepth 100000 in
theorem zmd_mX11_answer : zmdP mX11_answer := ⟨zmk8 2 rfl, zmk1 11 (by decide +kernel), by decide +kernel, by decide +kernel, by decide +kernel, by decide⟩
set_option maxRecDepth 100000 in
theorem zmd_mX11_asks : zmdP mX11_asks := ⟨zmk7 218 rfl, zmk1 11 (by decide +kernel), by decide +kernel, by decide +kernel, by decide +kernel, by decide⟩
set_option maxRecDepth 100000 in
theorem zmd_mX11_bad : zmdP mX11_bad := ⟨zmk6 217 rfl, zmk1 11 (by decide +kernel), by decide +kernel, by decide +kernel, by decide +kernel, by decide⟩
set_option maxRecDepth 100000 in
theorem zmd_mX11_begins : zmdP mX11_begins := ⟨zmk7 111 rfl, zmk1 11 (by decide +kernel), by decide +kernel, by decide +kernel, by decide +kernel, by decide⟩
set_option maxRecDepth 100000 in
theorem zmd_mX11_beside : zmdP mX11_beside := ⟨zmk7 158 rfl, zmk1 11 (by decide +kernel), by decide +kernel, by decide +kernel, by decide +kernel, by decide⟩
set_option maxRecDepth 100000 in
theorem zmd_mX11_bid : zmdP mX11_bid := ⟨zmk8 23 rfl, zmk1 11 (by decide +kernel), by decide +kernel, by decide +kernel, by decide +kernel, by decide⟩
set_option maxRecDepth 100000 in
theorem zmd_mX11_blanks : zmdP mX11_blanks := ⟨zmk6 233 rfl, zmk1 11 (by decide +kernel), by decide +kernel, by decide +kernel, by decide +kernel, by decide⟩
set_option maxRecDepth 100000 in
theorem zmd_mX11_both : zmdP mX11_both := ⟨zmk7 162 rfl, zmk1 11 (by decide +kernel), by decide +kernel, by decide +kernel, by decide +kernel, by decide⟩
set_option maxRecDepth 100000 in
theorem zmd_mX11_braced : zmdP mX11_braced := ⟨zmk7 70 rfl, zmk1 11 (by decide +kernel), by decide +kernel, by decide +kernel, by decide +kernel, by decide⟩
set_option maxRecDepth 100000 in
theorem zmd_mX11_branch : zmdP mX11_branch := ⟨zmk7 78 rfl, zmk1 11 (by decide +kernel), by decide +kernel, by decide +kernel, by decide +kernel, by decide⟩
set_option maxRecDepth 100000 in
theorem zmd_mX11_byteAt : zmdP mX11_byteAt := ⟨zmk6 237 rfl, zmk1 11 (by decide +kernel), by decide +kernel, by decide +kernel, by decide +kernel, by decide⟩
set_option maxRecDepth 100000 in
theorem zmd_mX11_byteOf : zmdP mX11_byteOf := ⟨zmk8 54 rfl, zmk1 11 (by decide +kernel), by decide +kernel, by decide +kernel, by decide +kernel, by decide⟩
set_option maxRecDepth 100000 in
theorem zmd_mX11_cell : zmdP mX11_cell := ⟨zmk7 134 rfl, zmk1 11 (by decide +kernel), by decide +kernel, by decide +kernel, by decide +kernel, by decide⟩
set_option maxRecDepth 100000 in
theorem zmd_mX11_chooses : zmdP mX11_chooses := ⟨zmk8 41 rfl, zmk1 11 (by decide +kernel), by decide +kernel, by decide +kernel, by decide +kernel, by decide⟩
set_option maxRecDepth 100000 in
theorem zmd_mX11_chosen : zmdP mX11_chosen := ⟨zmk8 37 rfl, zmk1 11 (by decide +kernel), by decide +kernel, by decide +kernel, by decide +kernel, by decide⟩
set_option maxRecDepth 100000 in
theorem zmd_mX11_claim : zmdP mX11_claim := ⟨zmk7 202 rfl, zmk1 11 (by decide +kernel), by decide +kernel, by decide +kernel, by decide +kernel, by decide⟩
set_option maxRecDepth 100000 in
theorem zmd_mX11_closes : zmdP mX11_closes := ⟨zmk7 66 rfl, zmk1 11 (by decide +kernel), by decide +kernel, by decide +kernel, by decide +kernel, by decide⟩
set_option maxRecDepth 100000 in
theorem zmd_mX11_code : zmdP mX11_code := ⟨zmk7 87 rfl, zmk1 11 (by decide +kernel), by decide +kernel, by decide +kernel, by decide +kernel, by decide⟩
set_option maxRecDepth 100000 in
theorem zmd_mX11_cost : zmdP mX11_cost := ⟨zmk8 27 rfl, zmk1 11 (by decide +kernel), by decide +kernel, by decide +kernel, by decide +kernel, by decide⟩
set_option maxRecDepth 100000 in
theorem zmd_mX11_costOf : zmdP mX11_costOf := ⟨zmk8 31 rfl, zmk1 11 (by decide +kernel), by decide +kernel, by decide +kernel, by decide +kernel, by decide⟩
set_option maxRecDepth 100000 in
theorem zmd_mX11_count : zmdP mX11_count := ⟨zmk8 94 rfl, zmk1 11 (by decide +kernel), by decide +kernel, by decide +kernel, by decide +kernel, by decide⟩
set_option maxRecDepth 100000 in
theorem zmd_mX11_cut : zmdP mX11_cut := ⟨zmk7 170 rfl, zmk1 11 (by decide +kernel), by decide +kernel, by decide +kernel, by decide +kernel, by decide⟩
set_option maxRecDepth 100000 in
theorem zmd_mX11_doubt : zmdP mX11_doubt := ⟨zmk7 206 rfl, zmk1 11 (by decide +kernel), by decide +kernel, by decide +kernel, by decide +kernel, by decide⟩
set_option maxRecDepth 100000 in
theorem zmd_mX11_dropBid : zmdP mX11_dropBid := ⟨zmk7 198 rfl, zmk1 11 (by decide +kernel), by decide +kernel, by decide +kernel, by decide +kernel, by decide⟩
set_option maxRecDepth 100000 in
theorem zmd_mX11_eat : zmdP mX11_eat := ⟨zmk7 58 rfl, zmk1 11 (by decide +kernel), by decide +kernel, by decide +kernel, by decide +kernel, by decide⟩
set_option maxRecDepth 100000 in
theorem zmd_mX11_eats : zmdP mX11_eats := ⟨zmk8 74 rfl, zmk1 11 (by decide +kernel), by decide +kernel, by decide +kernel, by decide +kernel, by decide⟩
set_option maxRecDepth 100000 in
theorem zmd_mX11_emits : zmdP mX11_emits := ⟨zmk7 54 rfl, zmk1 11 (by decide +kernel), by decide +kernel, by decide +kernel, by decide +kernel, by decide⟩
set_option maxRecDepth 100000 in
theorem zmd_mX11_ended : zmdP mX11_ended := ⟨zmk7 26 rfl, zmk1 11 (by decide +kernel), by decide +kernel, by decide +kernel, by decide +kernel, by decide⟩
set_option maxRecDepth 100000 in
theorem zmd_mX11_expression : zmdP mX11_expression := ⟨zmk7 30 rfl, zmk1 11 (by decide +kernel), by decide +kernel, by decide +kernel, by decide +kernel, by decide⟩
set_option maxRecDepth 100000 in
theorem zmd_mX11_fault : zmdP mX11_fault := ⟨zmk7 83 rfl, zmk1 11 (by decide +kernel), by decide +kernel, by decide +kernel, by decide +kernel, by decide⟩
set_option maxRecDepth 100000 in
theorem zmd_mX11_feed : zmdP mX11_feed := ⟨zmk6 205 rfl, zmk1 11 (by decide +kernel), by decide +kernel, by decide +kernel, by decide +kernel, by decide⟩
set_option maxRecDepth 100000 in
theorem zmd_mX11_figures : zmdP mX11_figures := ⟨zmk7 49 rfl, zmk1 11 (by decide +kernel), by decide +kernel, by decide +kernel, by decide +kernel, by decide⟩
set_option maxRecDepth 100000 in
theorem zmd_mX11_firstOf : zmdP mX11_firstOf := ⟨zmk7 210 rfl, zmk1 11 (by decide +kernel), by decide +kernel, by decide +kernel, by decide +kernel, by decide⟩
set_option maxRecDepth 100000 in
theorem zmd_mX11_frees : zmdP mX11_frees := ⟨zmk7 234 rfl, zmk1 11 (by decide +kernel), by decide +kernel, by decide +kernel, by decide +kernel, by decide⟩
set_option maxRecDepth 100000 in
theorem zmd_mX11_give : zmdP mX11_give := ⟨zmk7 190 rfl, zmk1 11 (by decide +kernel), by decide +kernel, by decide +kernel, by decide +kernel, by decide⟩
set_option maxRecDepth 100000 in
theorem zmd_mX11_goes : zmdP mX11_goes := ⟨zmk7 119 rfl, zmk1 11 (by decide +kernel), by decide +kernel, by decide +kernel, by decide +kernel, by decide⟩
set_option maxRecDepth 100000 in
theorem zmd_mX11_held : zmdP mX11_held := ⟨zmk8 98 rfl, zmk1 11 (by decide +kernel), by decide +kernel, by decide +kernel, by decide +kernel, by decide⟩
set_option maxRecDepth 100000 in
theorem zmd_mX11_house : zmdP mX11_house := ⟨zmk7 174 rfl, zmk1 11 (by decide +kernel), by decide +kernel, by decide +kernel, by decide +kernel, by decide⟩
set_option maxRecDepth 100000 in
theorem zmd_mX11_in : zmdP mX11_in := ⟨zmk6 213 rfl, zmk1 11 (by decide +kernel), by decide +kernel, by decide +kernel, by decide +kernel, by decide⟩
set_option maxRecDepth 100000 in
theorem zmd_mX11_isDigit : zmdP mX11_isDigit := ⟨zmk7 45 rfl, zmk1 11 (by decide +kernel), by decide +kernel, by decide +kernel, by decide +kernel, by decide⟩
set_option maxRecDepth 100000 in
theorem zmd_mX11_isHouse : zmdP mX11_isHouse := ⟨zmk7 182 rfl, zmk1 11 (by decide +kernel), by decide +kernel, by decide +kernel, by decide +kernel, by decide⟩
set_option maxRecDepth 100000 in
theorem zmd_mX11_isLine : zmdP mX11_isLine := ⟨zmk8 58 rfl, zmk1 11 (by decide +kernel), by decide +kernel, by decide +kernel, by decide +kernel, by decide⟩
set_option maxRecDepth 100000 in
theorem zmd_mX11_isOut : zmdP mX11_isOut := ⟨zmk8 62 rfl, zmk1 11 (by decide +kernel), by decide +kernel, by decide +kernel, by decide +kernel, by decide⟩
set_option maxRecDepth 100000 in
theorem zmd_mX11_isPart : zmdP mX11_isPart := ⟨zmk8 66 rfl, zmk1 11 (by decide +kernel), by decide +kernel, by decide +kernel, by decide +kernel, by decide⟩
set_option maxRecDepth 100000 in
theorem zmd_mX11_isPiece : zmdP mX11_isPiece := ⟨zmk7 194 rfl, zmk1 11 (by decide +kernel), by decide +kernel, by decide +kernel, by decide +kernel, by decide⟩
set_option maxRecDepth 100000 in
theorem zmd_mX11_isSmall : zmdP mX11_isSmall := ⟨zmk7 0 rfl, zmk1 11 (by decide +kernel), by decide +kernel, by decide +kernel, by decide +kernel, by decide⟩
set_option maxRecDepth 100000 in
theorem zmd_mX11_isStatement : zmdP mX11_isStatement := ⟨zmk6 225 rfl, zmk1 11 (by decide +kernel), by decide +kernel, by decide +kernel, by decide +kernel, by decide⟩
set_option maxRecDepth 100000 in
theorem zmd_mX11_isTask : zmdP mX11_isTask := ⟨zmk7 91 rfl, zmk1 11 (by decide +kernel), by decide +kernel, by decide +kernel, by decide +kernel, by decide⟩
set_option maxRecDepth 100000 in
theorem zmd_mX11_isWord : zmdP mX11_isWord := ⟨zmk7 5 rfl, zmk1 11 (by decide +kernel), by decide +kernel, by decide +kernel, by decide +kernel, by decide⟩
set_option maxRecDepth 100000 in
theorem zmd_mX11_joined : zmdP mX11_joined := ⟨zmk7 153 rfl, zmk1 11 (by decide +kernel), by decide +kernel, by decide +kernel, by decide +kernel, by decide⟩
set_option maxRecDepth 100000 in
theorem zmd_mX11_judges : zmdP mX11_judges := ⟨zmk7 222 rfl, zmk1 11 (by decide +kernel), by decide +kernel, by decide +kernel, by decide +kernel, by decide⟩
set_option maxRecDepth 100000 in
theorem zmd_mX11_lastOf : zmdP mX11_lastOf := ⟨zmk7 214 rfl, zmk1 11 (by decide +kernel), by decide +kernel, by decide +kernel, by decide +kernel, by decide⟩
set_option maxRecDepth 100000 in
theorem zmd_mX11_lays : zmdP mX11_lays := ⟨zmk7 130 rfl, zmk1 11 (by decide +kernel), by decide +kernel, by decide +kernel, by decide +kernel, by decide⟩
set_option maxRecDepth 100000 in
theorem zmd_mX11_leads : zmdP mX11_leads := ⟨zmk7 74 rfl, zmk1 11 (by decide +kernel), by decide +kernel, by decide +kernel, by decide +kernel, by decide⟩
set_option maxRecDepth 100000 in
theorem zmd_mX11_length : zmdP mX11_length := ⟨zmk7 99 rfl, zmk1 11 (by decide +kernel), by decide +kernel, by decide +kernel, by decide +kernel, by decide⟩
set_option maxRecDepth 100000 in
theorem zmd_mX11_lengthOf : zmdP mX11_lengthOf := ⟨zmk7 103 rfl, zmk1 11 (by decide +kernel), by decide +kernel, by decide +kernel, by decide +kernel, by decide⟩
set_option maxRecDepth 100000 in
theorem zmd_mX11_linear : zmdP mX11_linear := ⟨zmk8 46 rfl, zmk1 11 (by decide +kernel), by decide +kernel, by decide +kernel, by decide +kernel, by decide⟩
set_option maxRecDepth 100000 in
theorem zmd_mX11_lot : zmdP mX11_lot := ⟨zmk8 78 rfl, zmk1 11 (by decide +kernel), by decide +kernel, by decide +kernel, by decide +kernel, by decide⟩
set_option maxRecDepth 100000 in
theorem zmd_mX11_memory : zmdP mX11_memory := ⟨zmk7 95 rfl, zmk1 11 (by decide +kernel), by decide +kernel, by decide +kernel, by decide +kernel, by decide⟩
set_option maxRecDepth 100000 in
theorem zmd_mX11_next : zmdP mX11_next := ⟨zmk8 50 rfl, zmk1 11 (by decide +kernel), by decide +kernel, by decide +kernel, by decide +kernel, by decide⟩
set_option maxRecDepth 100000 in
theorem zmd_mX11_numbers : zmdP mX11_numbers := ⟨zmk8 70 rfl, zmk1 11 (by decide +kernel), by decide +kernel, by decide +kernel, by decide +kernel, by decide⟩
set_option maxRecDepth 100000 in
theorem zmd_mX11_opens : zmdP mX11_opens := ⟨zmk7 62 rfl, zmk1 11 (by decide +kernel), by decide +kernel, by decide +kernel, by decide +kernel, by decide⟩
set_option maxRecDepth 100000 in
theorem zmd_mX11_out : zmdP mX11_out := ⟨zmk8 86 rfl, zmk1 11 (by decide +kernel), by decide +kernel, by decide +kernel, by decide +kernel, by decide⟩
set_option maxRecDepth 100000 in
theorem zmd_mX11_outOf : zmdP mX11_outOf := ⟨zmk8 90 rfl, zmk1 11 (by decide +kernel), by decide +kernel, by decide +kernel, by decide +kernel, by decide⟩
set_option maxRecDepth 100000 in
theorem zmd_mX11_over : zmdP mX11_over := ⟨zmk7 226 rfl, zmk1 11 (by decide +kernel), by decide +kernel, by decide +kernel, by decide +kernel, by decide⟩
set_option maxRecDepth 100000 in
theorem zmd_mX11_pageSum : zmdP mX11_pageSum := ⟨zmk7 150 rfl, zmk1 11 (by decide +kernel), by decide +kernel, by decide +kernel, by decide +kernel, by decide⟩
set_option maxRecDepth 100000 in
theorem zmd_mX11_part : zmdP mX11_part := ⟨zmk8 82 rfl, zmk1 11 (by decide +kernel), by decide +kernel, by decide +kernel, by decide +kernel, by decide⟩
set_option maxRecDepth 100000 in
theorem zmd_mX11_partOf : zmdP mX11_partOf := ⟨zmk7 115 rfl, zmk1 11 (by decide +kernel), by decide +kernel, by decide +kernel, by decide +kernel, by decide⟩
set_option maxRecDepth 100000 in
theorem zmd_mX11_passes : zmdP mX11_passes := ⟨zmk8 15 rfl, zmk1 11 (by decide +kernel), by decide +kernel, by decide +kernel, by decide +kernel, by decide⟩
set_option maxRecDepth 100000 in
theorem zmd_mX11_piece : zmdP mX11_piece := ⟨zmk8 6 rfl, zmk1 11 (by decide +kernel), by decide +kernel, by decide +kernel, by decide +kernel, by decide⟩
set_option maxRecDepth 100000 in
theorem zmd_mX11_product : zmdP mX11_product := ⟨zmk7 38 rfl, zmk1 11 (by decide +kernel), by decide +kernel, by decide +kernel, by decide +kernel, by decide⟩
set_option maxRecDepth 100000 in
theorem zmd_mX11_purse : zmdP mX11_purse := ⟨zmk8 102 rfl, zmk1 11 (by decide +kernel), by decide +kernel, by decide +kernel, by decide +kernel, by decide⟩
set_option maxRecDepth 100000 in
theorem zmd_mX11_rule : zmdP mX11_rule := ⟨zmk7 186 rfl, zmk1 11 (by decide +kernel), by decide +kernel, by decide +kernel, by decide +kernel, by decide⟩
set_option maxRecDepth 100000 in
theorem zmd_mX11_runs : zmdP mX11_runs := ⟨zmk7 107 rfl, zmk1 11 (by decide +kernel), by decide +kernel, by decide +kernel, by decide +kernel, by decide⟩
set_option maxRecDepth 100000 in
theorem zmd_mX11_shown : zmdP mX11_shown := ⟨zmk7 166 rfl, zmk1 11 (by decide +kernel), by decide +kernel, by decide +kernel, by decide +kernel, by decide⟩
set_option maxRecDepth 100000 in
theorem zmd_mX11_sign : zmdP mX11_sign := ⟨zmk7 18 rfl, zmk1 11 (by decide +kernel), by decide +kernel, by decide +kernel, by decide +kernel, by decide⟩
set_option maxRecDepth 100000 in
theorem zmd_mX11_statement : zmdP mX11_statement := ⟨zmk7 14 rfl, zmk1 11 (by decide +kernel), by decide +kernel, by decide +kernel, by decide +kernel, by decide⟩
set_option maxRecDepth 100000 in
theorem zmd_mX11_statements : zmdP mX11_statements := ⟨zmk6 221 rfl, zmk1 11 (by decide +kernel), by decide +kernel, by decide +kernel, by decide +kernel, by decide⟩
set_option maxRecDepth 100000 in
theorem zmd_mX11_stays : zmdP mX11_stays := ⟨zmk7 238 rfl, zmk1 11 (by decide +kernel), by decide +kernel, by decide +kernel, by decide +kernel, by decide⟩
set_option maxRecDepth 100000 in
theorem zmd_mX11_sum : zmdP mX11_sum := ⟨zmk7 138 rfl, zmk1 11 (by decide +kernel), by decide +kernel, by decide +kernel, by decide +kernel, by decide⟩
set_option maxRecDepth 100000 in
theorem zmd_mX11_sumOf : zmdP mX11_sumOf := ⟨zmk7 142 rfl, zmk1 11 (by decide +kernel), by decide +kernel, by decide +kernel, by decide +kernel, by decide⟩
set_option maxRecDepth 100000 in
theorem zmd_mX11_sums : zmdP mX11_sums := ⟨zmk7 146 rfl, zmk1 11 (by decide +kernel), by decide +kernel, by decide +kernel, by decide +kernel, by decide⟩
set_option maxRecDepth 100000 in
theorem zmd_mX11_takes : zmdP mX11_takes := ⟨zmk7 123 rfl, zmk1 11 (by decide +kernel), by decide +kernel, by decide +kernel, by decide +kernel, by decide⟩
set_option maxRecDepth 100000 in
theorem zmd_mX11_task : zmdP mX11_task := ⟨zmk6 209 rfl, zmk1 11 (by decide +kernel), by decide +kernel, by decide +kernel, by decide +kernel, by decide⟩
set_option maxRecDepth 100000 in
theorem zmd_mX11_thrown : zmdP mX11_thrown := ⟨zmk6 201 rfl, zmk1 11 (by decide +kernel), by decide +kernel, by decide +kernel, by decide +kernel, by decide⟩
set_option maxRecDepth 100000 in
theorem zmd_mX11_tick : zmdP mX11_tick := ⟨zmk8 10 rfl, zmk1 11 (by decide +kernel), by decide +kernel, by decide +kernel, by decide +kernel, by decide⟩
set_option maxRecDepth 100000 in
theorem zmd_mX11_told : zmdP mX11_told := ⟨zmk7 178 rfl, zmk1 11 (by decide +kernel), by decide +kernel, by decide +kernel, by decide +kernel, by decide⟩
set_option maxRecDepth 100000 in
theorem zmd_mX11_trial : zmdP mX11_trial := ⟨zmk8 19 rfl, zmk1 11 (by decide +kernel), by decide +kernel, by decide +kernel, by decide +kernel, by decide⟩
set_option maxRecDepth 100000 in
theorem zmd_mX11_unit : zmdP mX11_unit := ⟨zmk7 42 rfl, zmk1 11 (by decide +kernel), by decide +kernel, by decide +kernel, by decide +kernel, by decide⟩
set_option maxRecDepth 100000 in
theorem zmd_mX11_variable : zmdP mX11_variable := ⟨zmk6 229 rfl, zmk1 11 (by decide +kernel), by decide +kernel, by decide +kernel, by decide +kernel, by decide⟩
set_option maxRecDepth 100000 in
theorem zmd_mX11_voided : zmdP mX11_voided := ⟨zmk7 230 rfl, zmk1 11 (by decide +kernel), by decide +kernel, by decide +kernel, by decide +kernel, by decide⟩
set_option maxRecDepth 100000 in
theorem zmd_mX11_worked : zmdP mX11_worked := ⟨zmk7 126 rfl, zmk1 11 (by decide +kernel), by decide +kernel, by decide +kernel, by decide +kernel, by decide⟩
set_option maxRecDepth 100000 in
theorem zmd_mX11_wrong : zmdP mX11_wrong := ⟨zmk7 22 rfl, zmk1 11 (by decide +kernel), by decide +kernel, by decide +kernel, by decide +kernel, by decide⟩
set_option maxRecDepth 100000 in
theorem zmd_mJ6_bitCount_0f7a4 : zmdP mJ6_bitCount_0f7a4 := ⟨zmk5 175 rfl, zmk1 24 (by decide +kernel), by decide +kernel, by decide +kernel, by decide +kernel, by decide⟩
