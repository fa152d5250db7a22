/-! THE MODEL: the object at D, its rows behind it; a row is named by its field's place, a number field by its code -/
abbrev mst : Type := Nat → Nat → Int32
def mu (M : mst) (k i : Nat) (v : Int32) : mst := fun j l => if j = k ∧ l = i then v else M j l
theorem mu_a (M : mst) (k i : Nat) (v : Int32) (j l : Nat) : mu M k i v j l = if j = k ∧ l = i then v else M j l := id rfl
theorem mu_e (M : mst) (k i : Nat) (v : Int32) : mu M k i v k i = v := if_pos ⟨rfl, rfl⟩
theorem mu_n (M : mst) {k i : Nat} {v : Int32} {j : Nat} (hj : ¬ j = k) : mu M k i v j = M j := funext fun l => if_neg (fun q => hj q.1)
theorem mu_i (M : mst) {k i : Nat} {v : Int32} {l : Nat} (hl : ¬ l = i) : mu M k i v k l = M k l := if_neg (fun q => hl q.2)
def mA (D k : Nat) : Nat := if k < 10 then D + 1 else if k < 25 then D + k - 8 else if k < 44 then D + k - 13 else if k < 48 then D + k - 14 else D + k - 15
def mOk (k : Nat) : Prop := k = 1 ∨ (10 ≤ k ∧ k ≤ 24) ∨ (30 ≤ k ∧ k ≤ 43) ∨ (45 ≤ k ∧ k ≤ 47) ∨ (49 ≤ k ∧ k ≤ 57)
def mLn (k : Nat) : Nat := match k with
  | 1 => 400
  | 10 => 2400
  | 11 => 6
  | 12 => 6
  | 13 => 3000
  | 14 => 3000
  | 15 => 384
  | 16 => 6
  | 17 => 2688
  | 18 => 128
  | 19 => 10
  | 20 => 32
  | 21 => 6
  | 22 => 6
  | 23 => 6
  | 24 => 6
  | 30 => 120
  | 31 => 120
  | 32 => 120
  | 33 => 120
  | 34 => 120
  | 35 => 120
  | 36 => 120
  | 37 => 120
  | 38 => 120
  | 39 => 120
  | 40 => 240
  | 41 => 240
  | 42 => 240
  | 43 => 120
  | 45 => 8
  | 46 => 8
  | 47 => 8
  | 49 => 960
  | 50 => 960
  | 51 => 960
  | 52 => 960
  | 53 => 5
  | 54 => 5
  | 55 => 5
  | 56 => 8
  | 57 => 8
  | _ => 0
def mKd (k : Nat) : Nat := if k = 1 ∨ k = 10 then 102 else if k = 21 ∨ k = 42 ∨ k = 49 then 101 else 100
theorem mA_c (D k : Nat) : (k < 10 ∧ mA D k = D + 1) ∨ (10 ≤ k ∧ k < 25 ∧ mA D k = D + k - 8) ∨ (25 ≤ k ∧ k < 44 ∧ mA D k = D + k - 13) ∨ (44 ≤ k ∧ k < 48 ∧ mA D k = D + k - 14) ∨ (48 ≤ k ∧ mA D k = D + k - 15) := by
  unfold mA
  split
  · omega
  · split
    · omega
    · split
      · omega
      · split <;> omega
theorem mA_w {D k : Nat} (h : mOk k) : D + 1 ≤ mA D k ∧ mA D k < D + 43 := by
  have := mA_c D k
  unfold mOk at h
  omega
theorem mA_j {D k j : Nat} (h : mOk k) (h2 : mOk j) (e : mA D k = mA D j) : k = j := by
  have := mA_c D k
  have := mA_c D j
  unfold mOk at h h2
  omega
def zMS (D : Nat) (h : zH) : Prop := zK h D = 11 ∧ ∀ k, mOk k → zP h D (1000 + k) = some (mA D k) ∧ zK h (mA D k) = mKd k ∧ zN h (mA D k) = mLn k
def zMH (D : Nat) (M : mst) (h : zH) : Prop := zMS D h ∧ (∀ k, mOk k → zA h (mA D k) = M k) ∧ (∀ f, 1000 ≤ f → zI h D f = M f 0) ∧ (∀ j, 128 ≤ j → M 18 j = 0) ∧ ∀ j, 10 ≤ j → M 19 j = 0
theorem zMS.p1 {D : Nat} {h : zH} (S : zMS D h) : zP h D 1001 = some (mA D 1) ∧ zK h (mA D 1) = 102 ∧ zN h (mA D 1) = 400 := S.2 1 (by unfold mOk; omega)
theorem zMS.p10 {D : Nat} {h : zH} (S : zMS D h) : zP h D 1010 = some (mA D 10) ∧ zK h (mA D 10) = 102 ∧ zN h (mA D 10) = 2400 := S.2 10 (by unfold mOk; omega)
theorem zMS.p11 {D : Nat} {h : zH} (S : zMS D h) : zP h D 1011 = some (mA D 11) ∧ zK h (mA D 11) = 100 ∧ zN h (mA D 11) = 6 := S.2 11 (by unfold mOk; omega)
theorem zMS.p12 {D : Nat} {h : zH} (S : zMS D h) : zP h D 1012 = some (mA D 12) ∧ zK h (mA D 12) = 100 ∧ zN h (mA D 12) = 6 := S.2 12 (by unfold mOk; omega)
theorem zMS.p13 {D : Nat} {h : zH} (S : zMS D h) : zP h D 1013 = some (mA D 13) ∧ zK h (mA D 13) = 100 ∧ zN h (mA D 13) = 3000 := S.2 13 (by unfold mOk; omega)
theorem zMS.p14 {D : Nat} {h : zH} (S : zMS D h) : zP h D 1014 = some (mA D 14) ∧ zK h (mA D 14) = 100 ∧ zN h (mA D 14) = 3000 := S.2 14 (by unfold mOk; omega)
theorem zMS.p15 {D : Nat} {h : zH} (S : zMS D h) : zP h D 1015 = some (mA D 15) ∧ zK h (mA D 15) = 100 ∧ zN h (mA D 15) = 384 := S.2 15 (by unfold mOk; omega)
theorem zMS.p16 {D : Nat} {h : zH} (S : zMS D h) : zP h D 1016 = some (mA D 16) ∧ zK h (mA D 16) = 100 ∧ zN h (mA D 16) = 6 := S.2 16 (by unfold mOk; omega)
theorem zMS.p17 {D : Nat} {h : zH} (S : zMS D h) : zP h D 1017 = some (mA D 17) ∧ zK h (mA D 17) = 100 ∧ zN h (mA D 17) = 2688 := S.2 17 (by unfold mOk; omega)
theorem zMS.p18 {D : Nat} {h : zH} (S : zMS D h) : zP h D 1018 = some (mA D 18) ∧ zK h (mA D 18) = 100 ∧ zN h (mA D 18) = 128 := S.2 18 (by unfold mOk; omega)
theorem zMS.p19 {D : Nat} {h : zH} (S : zMS D h) : zP h D 1019 = some (mA D 19) ∧ zK h (mA D 19) = 100 ∧ zN h (mA D 19) = 10 := S.2 19 (by unfold mOk; omega)
theorem zMS.p20 {D : Nat} {h : zH} (S : zMS D h) : zP h D 1020 = some (mA D 20) ∧ zK h (mA D 20) = 100 ∧ zN h (mA D 20) = 32 := S.2 20 (by unfold mOk; omega)
theorem zMS.p21 {D : Nat} {h : zH} (S : zMS D h) : zP h D 1021 = some (mA D 21) ∧ zK h (mA D 21) = 101 ∧ zN h (mA D 21) = 6 := S.2 21 (by unfold mOk; omega)
theorem zMS.p22 {D : Nat} {h : zH} (S : zMS D h) : zP h D 1022 = some (mA D 22) ∧ zK h (mA D 22) = 100 ∧ zN h (mA D 22) = 6 := S.2 22 (by unfold mOk; omega)
theorem zMS.p23 {D : Nat} {h : zH} (S : zMS D h) : zP h D 1023 = some (mA D 23) ∧ zK h (mA D 23) = 100 ∧ zN h (mA D 23) = 6 := S.2 23 (by unfold mOk; omega)
theorem zMS.p24 {D : Nat} {h : zH} (S : zMS D h) : zP h D 1024 = some (mA D 24) ∧ zK h (mA D 24) = 100 ∧ zN h (mA D 24) = 6 := S.2 24 (by unfold mOk; omega)
theorem zMS.p30 {D : Nat} {h : zH} (S : zMS D h) : zP h D 1030 = some (mA D 30) ∧ zK h (mA D 30) = 100 ∧ zN h (mA D 30) = 120 := S.2 30 (by unfold mOk; omega)
theorem zMS.p31 {D : Nat} {h : zH} (S : zMS D h) : zP h D 1031 = some (mA D 31) ∧ zK h (mA D 31) = 100 ∧ zN h (mA D 31) = 120 := S.2 31 (by unfold mOk; omega)
theorem zMS.p32 {D : Nat} {h : zH} (S : zMS D h) : zP h D 1032 = some (mA D 32) ∧ zK h (mA D 32) = 100 ∧ zN h (mA D 32) = 120 := S.2 32 (by unfold mOk; omega)
theorem zMS.p33 {D : Nat} {h : zH} (S : zMS D h) : zP h D 1033 = some (mA D 33) ∧ zK h (mA D 33) = 100 ∧ zN h (mA D 33) = 120 := S.2 33 (by unfold mOk; omega)
theorem zMS.p34 {D : Nat} {h : zH} (S : zMS D h) : zP h D 1034 = some (mA D 34) ∧ zK h (mA D 34) = 100 ∧ zN h (mA D 34) = 120 := S.2 34 (by unfold mOk; omega)
theorem zMS.p35 {D : Nat} {h : zH} (S : zMS D h) : zP h D 1035 = some (mA D 35) ∧ zK h (mA D 35) = 100 ∧ zN h (mA D 35) = 120 := S.2 35 (by unfold mOk; omega)
theorem zMS.p36 {D : Nat} {h : zH} (S : zMS D h) : zP h D 1036 = some (mA D 36) ∧ zK h (mA D 36) = 100 ∧ zN h (mA D 36) = 120 := S.2 36 (by unfold mOk; omega)
theorem zMS.p37 {D : Nat} {h : zH} (S : zMS D h) : zP h D 1037 = some (mA D 37) ∧ zK h (mA D 37) = 100 ∧ zN h (mA D 37) = 120 := S.2 37 (by unfold mOk; omega)
theorem zMS.p38 {D : Nat} {h : zH} (S : zMS D h) : zP h D 1038 = some (mA D 38) ∧ zK h (mA D 38) = 100 ∧ zN h (mA D 38) = 120 := S.2 38 (by unfold mOk; omega)
theorem zMS.p39 {D : Nat} {h : zH} (S : zMS D h) : zP h D 1039 = some (mA D 39) ∧ zK h (mA D 39) = 100 ∧ zN h (mA D 39) = 120 := S.2 39 (by unfold mOk; omega)
theorem zMS.p40 {D : Nat} {h : zH} (S : zMS D h) : zP h D 1040 = some (mA D 40) ∧ zK h (mA D 40) = 100 ∧ zN h (mA D 40) = 240 := S.2 40 (by unfold mOk; omega)
theorem zMS.p41 {D : Nat} {h : zH} (S : zMS D h) : zP h D 1041 = some (mA D 41) ∧ zK h (mA D 41) = 100 ∧ zN h (mA D 41) = 240 := S.2 41 (by unfold mOk; omega)
theorem zMS.p42 {D : Nat} {h : zH} (S : zMS D h) : zP h D 1042 = some (mA D 42) ∧ zK h (mA D 42) = 101 ∧ zN h (mA D 42) = 240 := S.2 42 (by unfold mOk; omega)
theorem zMS.p43 {D : Nat} {h : zH} (S : zMS D h) : zP h D 1043 = some (mA D 43) ∧ zK h (mA D 43) = 100 ∧ zN h (mA D 43) = 120 := S.2 43 (by unfold mOk; omega)
theorem zMS.p45 {D : Nat} {h : zH} (S : zMS D h) : zP h D 1045 = some (mA D 45) ∧ zK h (mA D 45) = 100 ∧ zN h (mA D 45) = 8 := S.2 45 (by unfold mOk; omega)
theorem zMS.p46 {D : Nat} {h : zH} (S : zMS D h) : zP h D 1046 = some (mA D 46) ∧ zK h (mA D 46) = 100 ∧ zN h (mA D 46) = 8 := S.2 46 (by unfold mOk; omega)
theorem zMS.p47 {D : Nat} {h : zH} (S : zMS D h) : zP h D 1047 = some (mA D 47) ∧ zK h (mA D 47) = 100 ∧ zN h (mA D 47) = 8 := S.2 47 (by unfold mOk; omega)
theorem zMS.p49 {D : Nat} {h : zH} (S : zMS D h) : zP h D 1049 = some (mA D 49) ∧ zK h (mA D 49) = 101 ∧ zN h (mA D 49) = 960 := S.2 49 (by unfold mOk; omega)
theorem zMS.p50 {D : Nat} {h : zH} (S : zMS D h) : zP h D 1050 = some (mA D 50) ∧ zK h (mA D 50) = 100 ∧ zN h (mA D 50) = 960 := S.2 50 (by unfold mOk; omega)
theorem zMS.p51 {D : Nat} {h : zH} (S : zMS D h) : zP h D 1051 = some (mA D 51) ∧ zK h (mA D 51) = 100 ∧ zN h (mA D 51) = 960 := S.2 51 (by unfold mOk; omega)
theorem zMS.p52 {D : Nat} {h : zH} (S : zMS D h) : zP h D 1052 = some (mA D 52) ∧ zK h (mA D 52) = 100 ∧ zN h (mA D 52) = 960 := S.2 52 (by unfold mOk; omega)
theorem zMS.p53 {D : Nat} {h : zH} (S : zMS D h) : zP h D 1053 = some (mA D 53) ∧ zK h (mA D 53) = 100 ∧ zN h (mA D 53) = 5 := S.2 53 (by unfold mOk; omega)
theorem zMS.p54 {D : Nat} {h : zH} (S : zMS D h) : zP h D 1054 = some (mA D 54) ∧ zK h (mA D 54) = 100 ∧ zN h (mA D 54) = 5 := S.2 54 (by unfold mOk; omega)
theorem zMS.p55 {D : Nat} {h : zH} (S : zMS D h) : zP h D 1055 = some (mA D 55) ∧ zK h (mA D 55) = 100 ∧ zN h (mA D 55) = 5 := S.2 55 (by unfold mOk; omega)
theorem zMS.p56 {D : Nat} {h : zH} (S : zMS D h) : zP h D 1056 = some (mA D 56) ∧ zK h (mA D 56) = 100 ∧ zN h (mA D 56) = 8 := S.2 56 (by unfold mOk; omega)
theorem zMS.p57 {D : Nat} {h : zH} (S : zMS D h) : zP h D 1057 = some (mA D 57) ∧ zK h (mA D 57) = 100 ∧ zN h (mA D 57) = 8 := S.2 57 (by unfold mOk; omega)
theorem zMH.a1 {D : Nat} {M : mst} {h : zH} (H : zMH D M h) : zA h (mA D 1) = M 1 := H.2.1 1 (by unfold mOk; omega)
theorem zMH.a10 {D : Nat} {M : mst} {h : zH} (H : zMH D M h) : zA h (mA D 10) = M 10 := H.2.1 10 (by unfold mOk; omega)
theorem zMH.a11 {D : Nat} {M : mst} {h : zH} (H : zMH D M h) : zA h (mA D 11) = M 11 := H.2.1 11 (by unfold mOk; omega)
theorem zMH.a12 {D : Nat} {M : mst} {h : zH} (H : zMH D M h) : zA h (mA D 12) = M 12 := H.2.1 12 (by unfold mOk; omega)
theorem zMH.a13 {D : Nat} {M : mst} {h : zH} (H : zMH D M h) : zA h (mA D 13) = M 13 := H.2.1 13 (by unfold mOk; omega)
theorem zMH.a14 {D : Nat} {M : mst} {h : zH} (H : zMH D M h) : zA h (mA D 14) = M 14 := H.2.1 14 (by unfold mOk; omega)
theorem zMH.a15 {D : Nat} {M : mst} {h : zH} (H : zMH D M h) : zA h (mA D 15) = M 15 := H.2.1 15 (by unfold mOk; omega)
theorem zMH.a16 {D : Nat} {M : mst} {h : zH} (H : zMH D M h) : zA h (mA D 16) = M 16 := H.2.1 16 (by unfold mOk; omega)
theorem zMH.a17 {D : Nat} {M : mst} {h : zH} (H : zMH D M h) : zA h (mA D 17) = M 17 := H.2.1 17 (by unfold mOk; omega)
theorem zMH.a18 {D : Nat} {M : mst} {h : zH} (H : zMH D M h) : zA h (mA D 18) = M 18 := H.2.1 18 (by unfold mOk; omega)
theorem zMH.a19 {D : Nat} {M : mst} {h : zH} (H : zMH D M h) : zA h (mA D 19) = M 19 := H.2.1 19 (by unfold mOk; omega)
theorem zMH.a20 {D : Nat} {M : mst} {h : zH} (H : zMH D M h) : zA h (mA D 20) = M 20 := H.2.1 20 (by unfold mOk; omega)
theorem zMH.a21 {D : Nat} {M : mst} {h : zH} (H : zMH D M h) : zA h (mA D 21) = M 21 := H.2.1 21 (by unfold mOk; omega)
theorem zMH.a22 {D : Nat} {M : mst} {h : zH} (H : zMH D M h) : zA h (mA D 22) = M 22 := H.2.1 22 (by unfold mOk; omega)
theorem zMH.a23 {D : Nat} {M : mst} {h : zH} (H : zMH D M h) : zA h (mA D 23) = M 23 := H.2.1 23 (by unfold mOk; omega)
theorem zMH.a24 {D : Nat} {M : mst} {h : zH} (H : zMH D M h) : zA h (mA D 24) = M 24 := H.2.1 24 (by unfold mOk; omega)
theorem zMH.a30 {D : Nat} {M : mst} {h : zH} (H : zMH D M h) : zA h (mA D 30) = M 30 := H.2.1 30 (by unfold mOk; omega)
theorem zMH.a31 {D : Nat} {M : mst} {h : zH} (H : zMH D M h) : zA h (mA D 31) = M 31 := H.2.1 31 (by unfold mOk; omega)
theorem zMH.a32 {D : Nat} {M : mst} {h : zH} (H : zMH D M h) : zA h (mA D 32) = M 32 := H.2.1 32 (by unfold mOk; omega)
theorem zMH.a33 {D : Nat} {M : mst} {h : zH} (H : zMH D M h) : zA h (mA D 33) = M 33 := H.2.1 33 (by unfold mOk; omega)
theorem zMH.a34 {D : Nat} {M : mst} {h : zH} (H : zMH D M h) : zA h (mA D 34) = M 34 := H.2.1 34 (by unfold mOk; omega)
theorem zMH.a35 {D : Nat} {M : mst} {h : zH} (H : zMH D M h) : zA h (mA D 35) = M 35 := H.2.1 35 (by unfold mOk; omega)
theorem zMH.a36 {D : Nat} {M : mst} {h : zH} (H : zMH D M h) : zA h (mA D 36) = M 36 := H.2.1 36 (by unfold mOk; omega)
theorem zMH.a37 {D : Nat} {M : mst} {h : zH} (H : zMH D M h) : zA h (mA D 37) = M 37 := H.2.1 37 (by unfold mOk; omega)
theorem zMH.a38 {D : Nat} {M : mst} {h : zH} (H : zMH D M h) : zA h (mA D 38) = M 38 := H.2.1 38 (by unfold mOk; omega)
theorem zMH.a39 {D : Nat} {M : mst} {h : zH} (H : zMH D M h) : zA h (mA D 39) = M 39 := H.2.1 39 (by unfold mOk; omega)
theorem zMH.a40 {D : Nat} {M : mst} {h : zH} (H : zMH D M h) : zA h (mA D 40) = M 40 := H.2.1 40 (by unfold mOk; omega)
theorem zMH.a41 {D : Nat} {M : mst} {h : zH} (H : zMH D M h) : zA h (mA D 41) = M 41 := H.2.1 41 (by unfold mOk; omega)
theorem zMH.a42 {D : Nat} {M : mst} {h : zH} (H : zMH D M h) : zA h (mA D 42) = M 42 := H.2.1 42 (by unfold mOk; omega)
theorem zMH.a43 {D : Nat} {M : mst} {h : zH} (H : zMH D M h) : zA h (mA D 43) = M 43 := H.2.1 43 (by unfold mOk; omega)
theorem zMH.a45 {D : Nat} {M : mst} {h : zH} (H : zMH D M h) : zA h (mA D 45) = M 45 := H.2.1 45 (by unfold mOk; omega)
theorem zMH.a46 {D : Nat} {M : mst} {h : zH} (H : zMH D M h) : zA h (mA D 46) = M 46 := H.2.1 46 (by unfold mOk; omega)
theorem zMH.a47 {D : Nat} {M : mst} {h : zH} (H : zMH D M h) : zA h (mA D 47) = M 47 := H.2.1 47 (by unfold mOk; omega)
theorem zMH.a49 {D : Nat} {M : mst} {h : zH} (H : zMH D M h) : zA h (mA D 49) = M 49 := H.2.1 49 (by unfold mOk; omega)
theorem zMH.a50 {D : Nat} {M : mst} {h : zH} (H : zMH D M h) : zA h (mA D 50) = M 50 := H.2.1 50 (by unfold mOk; omega)
theorem zMH.a51 {D : Nat} {M : mst} {h : zH} (H : zMH D M h) : zA h (mA D 51) = M 51 := H.2.1 51 (by unfold mOk; omega)
theorem zMH.a52 {D : Nat} {M : mst} {h : zH} (H : zMH D M h) : zA h (mA D 52) = M 52 := H.2.1 52 (by unfold mOk; omega)
theorem zMH.a53 {D : Nat} {M : mst} {h : zH} (H : zMH D M h) : zA h (mA D 53) = M 53 := H.2.1 53 (by unfold mOk; omega)
theorem zMH.a54 {D : Nat} {M : mst} {h : zH} (H : zMH D M h) : zA h (mA D 54) = M 54 := H.2.1 54 (by unfold mOk; omega)
theorem zMH.a55 {D : Nat} {M : mst} {h : zH} (H : zMH D M h) : zA h (mA D 55) = M 55 := H.2.1 55 (by unfold mOk; omega)
theorem zMH.a56 {D : Nat} {M : mst} {h : zH} (H : zMH D M h) : zA h (mA D 56) = M 56 := H.2.1 56 (by unfold mOk; omega)
theorem zMH.a57 {D : Nat} {M : mst} {h : zH} (H : zMH D M h) : zA h (mA D 57) = M 57 := H.2.1 57 (by unfold mOk; omega)
theorem zMH.i {D : Nat} {M : mst} {h : zH} {f : Nat} (H : zMH D M h) (hf : 1000 ≤ f) : zI h D f = M f 0 := H.2.2.1 f hf
theorem zMH.k {D : Nat} {M : mst} {h : zH} (H : zMH D M h) : zK h D = 11 := H.1.1
theorem zMH.sI {D : Nat} {M : mst} {h : zH} {f : Nat} {v : Int32} (H : zMH D M h) (hf : 1000 ≤ f) : zMH D (mu M f 0 v) (zsI h D f v) := by
  obtain ⟨⟨h1, h2⟩, h3, h4, h5, h6⟩ := H
  refine ⟨⟨by rw [zK_sI]; exact h1, fun k hk => by rw [zP_sI, zK_sI, zN_sI]; exact h2 k hk⟩, fun k hk => ?_, fun g hg => ?_, by rw [mu_n _ (by omega)]; exact h5, by rw [mu_n _ (by omega)]; exact h6⟩
  · unfold mOk at hk
    rw [zA_sI, mu_n _ (by omega)]
    exact h3 k hk
  · rw [zI_sI, mu_a]
    by_cases q : g = f
    · rw [if_pos ⟨rfl, q⟩, if_pos ⟨q, rfl⟩]
    · rw [if_neg (fun z => q z.2), if_neg (fun z => q z.1)]
      exact h4 g hg
theorem zMH.sA {D : Nat} {M : mst} {h : zH} {k i : Nat} {v : Int32} (H : zMH D M h) (hk : mOk k) (h8 : k = 18 → i < 128 := by omega) (h9 : k = 19 → i < 10 := by omega) : zMH D (mu M k i v) (zsA h (mA D k) i v) := by
  obtain ⟨⟨h1, h2⟩, h3, h4, h5, h6⟩ := H
  refine ⟨⟨by rw [zK_sA]; exact h1, fun k hk => by rw [zP_sA, zK_sA, zN_sA]; exact h2 k hk⟩, fun j hj => funext fun l => ?_, fun g hg => ?_, fun j hj => ?_, fun j hj => ?_⟩
  · rw [zA_sA, mu_a]
    by_cases q : j = k
    · subst q
      by_cases q2 : l = i
      · rw [if_pos ⟨rfl, q2⟩, if_pos ⟨rfl, q2⟩]
      · rw [if_neg (fun z => q2 z.2), if_neg (fun z => q2 z.2), h3 j hj]
    · rw [if_neg (fun z => q (mA_j hj hk z.1)), if_neg (fun z => q z.1), h3 j hj]
  · have hk2 := hk
    unfold mOk at hk2
    rw [zI_sA, mu_n _ (by omega)]
    exact h4 g hg
  · rw [mu_a, if_neg]
    · exact h5 j hj
    · rintro ⟨e1, e2⟩
      have := h8 e1.symm
      omega
  · rw [mu_a, if_neg]
    · exact h6 j hj
    · rintro ⟨e1, e2⟩
      have := h9 e1.symm
      omega
theorem zMH.sL {D : Nat} {M : mst} {h : zH} {a f : Nat} {v : Int64} (H : zMH D M h) : zMH D M (zsL h a f v) := by
  obtain ⟨⟨h1, h2⟩, h3, h4, h5, h6⟩ := H
  exact ⟨⟨by rw [zK_sL]; exact h1, fun k hk => by rw [zP_sL, zK_sL, zN_sL]; exact h2 k hk⟩, fun k hk => by rw [zA_sL]; exact h3 k hk, fun g hg => by rw [zI_sL]; exact h4 g hg, h5, h6⟩
/-- nothing has changed but in the model's cells -/
def zFM (D : Nat) (h g : zH) : Prop := zS g = zS h ∧ (∀ a, (a < D ∨ D + 43 ≤ a) → zI g a = zI h a ∧ zL g a = zL h a ∧ zP g a = zP h a ∧ zA g a = zA h a ∧ zB g a = zB h a) ∧ zK g = zK h ∧ zN g = zN h ∧ zR g = zR h
theorem zFM.rf (D : Nat) (h : zH) : zFM D h h := ⟨rfl, fun _ _ => ⟨rfl, rfl, rfl, rfl, rfl⟩, rfl, rfl, rfl⟩
theorem zFM.tr {D : Nat} {h g k : zH} (a : zFM D h g) (b : zFM D g k) : zFM D h k := ⟨b.1.trans a.1, fun x q => ⟨(b.2.1 x q).1.trans (a.2.1 x q).1, (b.2.1 x q).2.1.trans (a.2.1 x q).2.1, (b.2.1 x q).2.2.1.trans (a.2.1 x q).2.2.1, (b.2.1 x q).2.2.2.1.trans (a.2.1 x q).2.2.2.1, (b.2.1 x q).2.2.2.2.trans (a.2.1 x q).2.2.2.2⟩, b.2.2.1.trans a.2.2.1, b.2.2.2.1.trans a.2.2.2.1, b.2.2.2.2.trans a.2.2.2.2⟩
theorem zFM.sI {D : Nat} {h : zH} {f : Nat} {v : Int32} : zFM D h (zsI h D f v) :=
  ⟨zS_sI _ _ _ _, fun b w => ⟨funext fun j => by rw [zI_sI, if_neg (by omega)], by rw [zL_sI], by rw [zP_sI], by rw [zA_sI], by rw [zB_sI]⟩, zK_sI _ _ _ _, zN_sI _ _ _ _, zR_sI _ _ _ _⟩
theorem zFM.sL {D : Nat} {h : zH} {f : Nat} {v : Int64} : zFM D h (zsL h D f v) :=
  ⟨zS_sL _ _ _ _, fun b w => ⟨by rw [zI_sL], funext fun j => by rw [zL_sL, if_neg (by omega)], by rw [zP_sL], by rw [zA_sL], by rw [zB_sL]⟩, zK_sL _ _ _ _, zN_sL _ _ _ _, zR_sL _ _ _ _⟩
theorem zFM.sA {D : Nat} {h : zH} {k i : Nat} {v : Int32} (hk : mOk k) : zFM D h (zsA h (mA D k) i v) := by
  have hw := mA_w (D := D) hk
  exact ⟨zS_sA _ _ _ _, fun b w => ⟨by rw [zI_sA], by rw [zL_sA], by rw [zP_sA], funext fun j => by rw [zA_sA, if_neg (by omega)], by rw [zB_sA]⟩, zK_sA _ _ _ _, zN_sA _ _ _ _, zR_sA _ _ _ _⟩

theorem mOk1 : mOk 1 := by unfold mOk; omega
theorem mOk10 : mOk 10 := by unfold mOk; omega
theorem mOk11 : mOk 11 := by unfold mOk; omega
theorem mOk12 : mOk 12 := by unfold mOk; omega
theorem mOk13 : mOk 13 := by unfold mOk; omega
theorem mOk14 : mOk 14 := by unfold mOk; omega
theorem mOk15 : mOk 15 := by unfold mOk; omega
theorem mOk16 : mOk 16 := by unfold mOk; omega
theorem mOk17 : mOk 17 := by unfold mOk; omega
theorem mOk18 : mOk 18 := by unfold mOk; omega
theorem mOk19 : mOk 19 := by unfold mOk; omega
theorem mOk20 : mOk 20 := by unfold mOk; omega
theorem mOk21 : mOk 21 := by unfold mOk; omega
theorem mOk22 : mOk 22 := by unfold mOk; omega
theorem mOk23 : mOk 23 := by unfold mOk; omega
theorem mOk24 : mOk 24 := by unfold mOk; omega
theorem mOk30 : mOk 30 := by unfold mOk; omega
theorem mOk31 : mOk 31 := by unfold mOk; omega
theorem mOk32 : mOk 32 := by unfold mOk; omega
theorem mOk33 : mOk 33 := by unfold mOk; omega
theorem mOk34 : mOk 34 := by unfold mOk; omega
theorem mOk35 : mOk 35 := by unfold mOk; omega
theorem mOk36 : mOk 36 := by unfold mOk; omega
theorem mOk37 : mOk 37 := by unfold mOk; omega
theorem mOk38 : mOk 38 := by unfold mOk; omega
theorem mOk39 : mOk 39 := by unfold mOk; omega
theorem mOk40 : mOk 40 := by unfold mOk; omega
theorem mOk41 : mOk 41 := by unfold mOk; omega
theorem mOk42 : mOk 42 := by unfold mOk; omega
theorem mOk43 : mOk 43 := by unfold mOk; omega
theorem mOk45 : mOk 45 := by unfold mOk; omega
theorem mOk46 : mOk 46 := by unfold mOk; omega
theorem mOk47 : mOk 47 := by unfold mOk; omega
theorem mOk49 : mOk 49 := by unfold mOk; omega
theorem mOk50 : mOk 50 := by unfold mOk; omega
theorem mOk51 : mOk 51 := by unfold mOk; omega
theorem mOk52 : mOk 52 := by unfold mOk; omega
theorem mOk53 : mOk 53 := by unfold mOk; omega
theorem mOk54 : mOk 54 := by unfold mOk; omega
theorem mOk55 : mOk 55 := by unfold mOk; omega
theorem mOk56 : mOk 56 := by unfold mOk; omega
theorem mOk57 : mOk 57 := by unfold mOk; omega
