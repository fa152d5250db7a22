/-! constants, and what the tables leave out -/
theorem kb_10 : (Int8.ofInt (10)).toInt32 = (10) := by decide
theorem kb_100 : (Int8.ofInt (100)).toInt32 = (100) := by decide
theorem kb_104 : (Int8.ofInt (104)).toInt32 = (104) := by decide
theorem kb_109 : (Int8.ofInt (109)).toInt32 = (109) := by decide
theorem kb_11 : (Int8.ofInt (11)).toInt32 = (11) := by decide
theorem kb_12 : (Int8.ofInt (12)).toInt32 = (12) := by decide
theorem kb_120 : (Int8.ofInt (120)).toInt32 = (120) := by decide
theorem kb_122 : (Int8.ofInt (122)).toInt32 = (122) := by decide
theorem kb_123 : (Int8.ofInt (123)).toInt32 = (123) := by decide
theorem kb_125 : (Int8.ofInt (125)).toInt32 = (125) := by decide
theorem kb_127 : (Int8.ofInt (127)).toInt32 = (127) := by decide
theorem kb_13 : (Int8.ofInt (13)).toInt32 = (13) := by decide
theorem kb_14 : (Int8.ofInt (14)).toInt32 = (14) := by decide
theorem kb_15 : (Int8.ofInt (15)).toInt32 = (15) := by decide
theorem kb_16 : (Int8.ofInt (16)).toInt32 = (16) := by decide
theorem kb_17 : (Int8.ofInt (17)).toInt32 = (17) := by decide
theorem kb_19 : (Int8.ofInt (19)).toInt32 = (19) := by decide
theorem kb_20 : (Int8.ofInt (20)).toInt32 = (20) := by decide
theorem kb_24 : (Int8.ofInt (24)).toInt32 = (24) := by decide
theorem kb_31 : (Int8.ofInt (31)).toInt32 = (31) := by decide
theorem kb_32 : (Int8.ofInt (32)).toInt32 = (32) := by decide
theorem kb_37 : (Int8.ofInt (37)).toInt32 = (37) := by decide
theorem kb_40 : (Int8.ofInt (40)).toInt32 = (40) := by decide
theorem kb_41 : (Int8.ofInt (41)).toInt32 = (41) := by decide
theorem kb_42 : (Int8.ofInt (42)).toInt32 = (42) := by decide
theorem kb_43 : (Int8.ofInt (43)).toInt32 = (43) := by decide
theorem kb_45 : (Int8.ofInt (45)).toInt32 = (45) := by decide
theorem kb_47 : (Int8.ofInt (47)).toInt32 = (47) := by decide
theorem kb_48 : (Int8.ofInt (48)).toInt32 = (48) := by decide
theorem kb_50 : (Int8.ofInt (50)).toInt32 = (50) := by decide
theorem kb_57 : (Int8.ofInt (57)).toInt32 = (57) := by decide
theorem kb_59 : (Int8.ofInt (59)).toInt32 = (59) := by decide
theorem kb_6 : (Int8.ofInt (6)).toInt32 = (6) := by decide
theorem kb_60 : (Int8.ofInt (60)).toInt32 = (60) := by decide
theorem kb_61 : (Int8.ofInt (61)).toInt32 = (61) := by decide
theorem kb_62 : (Int8.ofInt (62)).toInt32 = (62) := by decide
theorem kb_63 : (Int8.ofInt (63)).toInt32 = (63) := by decide
theorem kb_64 : (Int8.ofInt (64)).toInt32 = (64) := by decide
theorem kb_7 : (Int8.ofInt (7)).toInt32 = (7) := by decide
theorem kb_8 : (Int8.ofInt (8)).toInt32 = (8) := by decide
theorem kb_9 : (Int8.ofInt (9)).toInt32 = (9) := by decide
theorem kb_91 : (Int8.ofInt (91)).toInt32 = (91) := by decide
theorem kb_93 : (Int8.ofInt (93)).toInt32 = (93) := by decide
theorem kb_97 : (Int8.ofInt (97)).toInt32 = (97) := by decide
theorem kb_n2 : (Int8.ofInt (-2)).toInt32 = (-2) := by decide
theorem kb_n3 : (Int8.ofInt (-3)).toInt32 = (-3) := by decide
theorem kb_n4 : (Int8.ofInt (-4)).toInt32 = (-4) := by decide
theorem kb_n5 : (Int8.ofInt (-5)).toInt32 = (-5) := by decide
theorem kc_0 : Int32.ofInt (0) = (0) := by decide
theorem kc_1 : Int32.ofInt (1) = (1) := by decide
theorem kc_2 : Int32.ofInt (2) = (2) := by decide
theorem kc_3 : Int32.ofInt (3) = (3) := by decide
theorem kc_4 : Int32.ofInt (4) = (4) := by decide
theorem kc_5 : Int32.ofInt (5) = (5) := by decide
theorem kc_7 : Int32.ofInt (7) = (7) := by decide
theorem kc_n1 : Int32.ofInt (-1) = (-1) := by decide
theorem kc_n8 : Int32.ofInt (-8) = (-8) := by decide
theorem kf_0 : ((0 : Fin 4) : Nat) = 0 := by decide
theorem kf_1 : ((1 : Fin 4) : Nat) = 1 := by decide
theorem kf_2 : ((2 : Fin 4) : Nat) = 2 := by decide
theorem kf_3 : ((3 : Fin 4) : Nat) = 3 := by decide
theorem kl_0 : Int64.ofNat ((0 : Fin 2) : Nat) = 0 := by decide
theorem kl_1 : Int64.ofNat ((1 : Fin 2) : Nat) = 1 := by decide
theorem ks_1000 : (Int16.ofInt (1000)).toInt32 = (1000) := by decide
theorem ks_128 : (Int16.ofInt (128)).toInt32 = (128) := by decide
theorem ks_200 : (Int16.ofInt (200)).toInt32 = (200) := by decide
theorem ks_20000 : (Int16.ofInt (20000)).toInt32 = (20000) := by decide
theorem ks_240 : (Int16.ofInt (240)).toInt32 = (240) := by decide
theorem ks_2400 : (Int16.ofInt (2400)).toInt32 = (2400) := by decide
theorem ks_255 : (Int16.ofInt (255)).toInt32 = (255) := by decide
theorem ks_2688 : (Int16.ofInt (2688)).toInt32 = (2688) := by decide
theorem ks_3000 : (Int16.ofInt (3000)).toInt32 = (3000) := by decide
theorem ks_384 : (Int16.ofInt (384)).toInt32 = (384) := by decide
theorem ks_400 : (Int16.ofInt (400)).toInt32 = (400) := by decide
theorem ks_500 : (Int16.ofInt (500)).toInt32 = (500) := by decide
theorem ks_5000 : (Int16.ofInt (5000)).toInt32 = (5000) := by decide
theorem ks_960 : (Int16.ofInt (960)).toInt32 = (960) := by decide
theorem zldn_1_78 : zld 1 78 = none := rfl
theorem zldn_1_88 : zld 1 88 = none := rfl
theorem zldn_1_90 : zld 1 90 = none := rfl
theorem zldn_1_95 : zld 1 95 = none := rfl
theorem zldn_1_106 : zld 1 106 = none := rfl
theorem zldn_4_15 : zld 4 15 = none := rfl
theorem zldn_4_51 : zld 4 51 = none := rfl
theorem zldn_11_232 : zld 11 232 = none := rfl
theorem zldn_11_246 : zld 11 246 = none := rfl
theorem zldn_11_248 : zld 11 248 = none := rfl
theorem zldn_11_250 : zld 11 250 = none := rfl
theorem zldn_11_274 : zld 11 274 = none := rfl
theorem znwn_10_59 : znw 10 59 = none := rfl
theorem znwn_10_323 : znw 10 323 = none := rfl
theorem znwn_10_249 : znw 10 249 = none := rfl
theorem ztb_n (x : Int32) (pc : Nat) (f : Nat → Prop) (v : Int) : ztb x pc f [] v = True := rfl
theorem ztb_c (x : Int32) (pc : Nat) (f : Nat → Prop) (o : Int) (r : List Int) (v : Int) : ztb x pc f (o :: r) v = ((x.toInt = v → zjp pc o f) ∧ ztb x pc f r (v + 1)) := rfl
