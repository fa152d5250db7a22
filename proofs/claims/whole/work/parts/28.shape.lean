/-! WHERE THE HALL'S CELLS LIE: from B on, in the order in which its constructors make them -/
def aHall (B : Nat) : Nat := B
def aComp (B : Nat) : Nat := B + 1
def aTape (B : Nat) : Nat := B + 2
def aTByt (B : Nat) : Nat := B + 3
def aCKin (B : Nat) : Nat := B + 4
def aCNum (B : Nat) : Nat := B + 5
def aCourt (B : Nat) : Nat := B + 6
def aMach (B : Nat) : Nat := B + 7
def aCells (B : Nat) : Nat := B + 8
def aOuts (B : Nat) : Nat := B + 9
def aTree (B : Nat) : Nat := B + 10
def aHs (B : Nat) : Nat := B + 11
def aRules (B : Nat) : Nat := B + 12
def aHouse (B i : Nat) : Nat := B + 13 + i
def aChoo (B : Nat) : Nat := B + 21
def aHPcs (B : Nat) : Nat := B + 22
def aHWay (B : Nat) : Nat := B + 23
def aHBest (B : Nat) : Nat := B + 24
def aHHrs (B : Nat) : Nat := B + 25
def aHPl (B : Nat) : Nat := B + 26
def aTasks (B : Nat) : Nat := B + 27
def aTask (B t : Nat) : Nat := B + 28 + 113 * t
def aKin (B t : Nat) : Nat := B + 29 + 113 * t
def aNum (B t : Nat) : Nat := B + 30 + 113 * t
def aMem (B t : Nat) : Nat := B + 31 + 113 * t
def aLots (B t : Nat) : Nat := B + 32 + 113 * t
def aLot (B t k : Nat) : Nat := B + 33 + 113 * t + k
def aPcs (B t : Nat) : Nat := B + 40 + 113 * t
def aPc (B t p : Nat) : Nat := B + 41 + 113 * t + 5 * p
def aQu (B t p : Nat) : Nat := B + 42 + 113 * t + 5 * p
def aBP (B t p : Nat) : Nat := B + 43 + 113 * t + 5 * p
def aBH (B t p : Nat) : Nat := B + 44 + 113 * t + 5 * p
def aBL (B t p : Nat) : Nat := B + 45 + 113 * t + 5 * p
def zIA (h : zH) (a n : Nat) : Prop := zK h a = 100 ∧ zN h a = n
/-- a task and its pieces -/
def zTS (B t : Nat) (h : zH) : Prop := zTk h (aTask B t) (aKin B t) (aNum B t) (aMem B t) (aLots B t) (aPcs B t) ∧ zLt h (aLots B t) (aLot B t) ∧
  ∀ p, p < 20 → zR h (aPcs B t) p = some (aPc B t p) ∧ zK h (aPc B t p) = 6 ∧ zP h (aPc B t p) 500 = some (aQu B t p) ∧ zP h (aPc B t p) 501 = some (aBP B t p) ∧ zP h (aPc B t p) 502 = some (aBH B t p) ∧ zP h (aPc B t p) 503 = some (aBL B t p) ∧ zK h (aQu B t p) = 7 ∧ zIA h (aBP B t p) 8 ∧ zIA h (aBH B t p) 8 ∧ zIA h (aBL B t p) 8
/-- the hall's skeleton -/
def zXS (B : Nat) (h : zH) : Prop :=
  (zK h (aHall B) = 10 ∧ zP h (aHall B) 900 = some (aComp B) ∧ zP h (aHall B) 901 = some (aCourt B) ∧ zP h (aHall B) 902 = some (aChoo B) ∧ zP h (aHall B) 903 = some (aTasks B)) ∧
  (zK h (aComp B) = 2 ∧ zP h (aComp B) 100 = some (aTape B) ∧ zP h (aComp B) 101 = some (aCKin B) ∧ zP h (aComp B) 102 = some (aCNum B) ∧ zIA h (aCKin B) 200 ∧ zIA h (aCNum B) 200) ∧
  (zK h (aTape B) = 8 ∧ zP h (aTape B) 700 = some (aTByt B) ∧ zIA h (aTByt B) 400) ∧
  (zK h (aCourt B) = 3 ∧ zP h (aCourt B) 200 = some (aMach B) ∧ zP h (aCourt B) 201 = some (aHs B) ∧ zP h (aCourt B) 202 = some (aRules B) ∧ zK h (aHs B) = 107 ∧ zN h (aHs B) = 8 ∧ zIA h (aRules B) 3) ∧
  zMc h (aMach B) (aCells B) (aOuts B) (aTree B) ∧
  (∀ i, i < 8 → zR h (aHs B) i = some (aHouse B i) ∧ zK h (aHouse B i) = 4) ∧
  (zK h (aChoo B) = 1 ∧ zP h (aChoo B) 0 = some (aHPcs B) ∧ zP h (aChoo B) 1 = some (aHWay B) ∧ zP h (aChoo B) 2 = some (aHBest B) ∧ zP h (aChoo B) 3 = some (aHHrs B) ∧ zP h (aChoo B) 4 = some (aHPl B) ∧ zIA h (aHPcs B) 5 ∧ zIA h (aHWay B) 5 ∧ zIA h (aHBest B) 5 ∧ zIA h (aHHrs B) 8 ∧ zIA h (aHPl B) 8) ∧
  (zK h (aTasks B) = 105 ∧ zN h (aTasks B) = 6) ∧
  ∀ t, t < 6 → zR h (aTasks B) t = some (aTask B t) ∧ zTS B t h
/-- the same skeleton: only what ints, longs and the machine's task hold has changed -/
def zSk (h g : zH) : Prop := zK g = zK h ∧ zN g = zN h ∧ zR g = zR h ∧ ∀ b f, ¬ f = 403 → zP g b f = zP h b f
theorem zSk.rf (h : zH) : zSk h h := ⟨rfl, rfl, rfl, fun _ _ _ => rfl⟩
theorem zSk.tr {h g k : zH} (a : zSk h g) (b : zSk g k) : zSk h k := ⟨b.1.trans a.1, b.2.1.trans a.2.1, b.2.2.1.trans a.2.2.1, fun x f q => (b.2.2.2 x f q).trans (a.2.2.2 x f q)⟩
theorem zSk.sI {h : zH} {a f v} : zSk h (zsI h a f v) := ⟨zK_sI _ _ _ _, zN_sI _ _ _ _, zR_sI _ _ _ _, fun _ _ _ => by rw [zP_sI]⟩
theorem zSk.sL {h : zH} {a f v} : zSk h (zsL h a f v) := ⟨zK_sL _ _ _ _, zN_sL _ _ _ _, zR_sL _ _ _ _, fun _ _ _ => by rw [zP_sL]⟩
theorem zSk.wr {h : zH} {a f} : zSk h (zwr h a f) := ⟨zwr_K _ _ _, zwr_N _ _ _, zwr_R _ _ _, fun _ _ _ => by rw [zwr_P]⟩
theorem zSk.sA {h : zH} {a f v} : zSk h (zsA h a f v) := ⟨zK_sA _ _ _ _, zN_sA _ _ _ _, zR_sA _ _ _ _, fun _ _ _ => by rw [zP_sA]⟩
theorem zSk.sPr {h : zH} {a v} : zSk h (zsP h a 403 v) := ⟨zK_sP _ _ _ _, zN_sP _ _ _ _, zR_sP _ _ _ _, fun _ _ q => by rw [zP_sP, if_neg (fun z => q z.2)]⟩
theorem zSk.ms {h a ca oa b R} : zSk h (zms h a ca oa b R) := ⟨zms_K _ _ _ _ _ _, zms_N _ _ _ _ _ _, zms_R _ _ _ _ _ _, fun _ _ q => zms_P q⟩
theorem zTS.sk {B t : Nat} {h g : zH} (H : zSk h g) (S : zTS B t h) : zTS B t g := by
  obtain ⟨hK, hN, hR, hP⟩ := H
  have p8 := fun b => hP b 800 (by decide)
  have p9 := fun b => hP b 801 (by decide)
  have p10 := fun b => hP b 802 (by decide)
  have p11 := fun b => hP b 803 (by decide)
  have p12 := fun b => hP b 804 (by decide)
  have p13 := fun b => hP b 500 (by decide)
  have p14 := fun b => hP b 501 (by decide)
  have p15 := fun b => hP b 502 (by decide)
  have p16 := fun b => hP b 503 (by decide)
  simp only [zTS, zTk, zLt, zIA, hK, hN, hR, p8, p9, p10, p11, p12, p13, p14, p15, p16] at S ⊢
  exact S
theorem zXS.sk {B : Nat} {h g : zH} (H : zSk h g) (S : zXS B h) : zXS B g := by
  have HT := fun t (ht : t < 6) => (S.2.2.2.2.2.2.2.2 t ht).2.sk H
  obtain ⟨hK, hN, hR, hP⟩ := H
  have q1 := fun b => hP b 900 (by decide)
  have q2 := fun b => hP b 901 (by decide)
  have q3 := fun b => hP b 902 (by decide)
  have q4 := fun b => hP b 903 (by decide)
  have q5 := fun b => hP b 100 (by decide)
  have q6 := fun b => hP b 101 (by decide)
  have q7 := fun b => hP b 102 (by decide)
  have q8 := fun b => hP b 700 (by decide)
  have q9 := fun b => hP b 200 (by decide)
  have q10 := fun b => hP b 201 (by decide)
  have q11 := fun b => hP b 202 (by decide)
  have q12 := fun b => hP b 400 (by decide)
  have q13 := fun b => hP b 401 (by decide)
  have q14 := fun b => hP b 402 (by decide)
  have q15 := fun b => hP b 0 (by decide)
  have q16 := fun b => hP b 1 (by decide)
  have q17 := fun b => hP b 2 (by decide)
  have q18 := fun b => hP b 3 (by decide)
  have q19 := fun b => hP b 4 (by decide)
  obtain ⟨s1, s2, s3, s4, s5, s6, s7, s8, s9⟩ := S
  refine ⟨?_, ?_, ?_, ?_, ?_, ?_, ?_, ?_, fun t ht => ⟨?_, HT t ht⟩⟩
  · simp only [hK, q1, q2, q3, q4]; exact s1
  · simp only [zIA, hK, hN, q5, q6, q7]; exact s2
  · simp only [zIA, hK, hN, q8]; exact s3
  · simp only [zIA, hK, hN, q9, q10, q11]; exact s4
  · simp only [zMc, hK, hN, q12, q13, q14]; exact s5
  · simp only [hK, hR]; exact s6
  · simp only [zIA, hK, hN, q15, q16, q17, q18, q19]; exact s7
  · simp only [hK, hN]; exact s8
  · rw [hR]; exact (s9 t ht).1
/-! COURT -/
def fPay (B : Nat) (h : zH) (x v : Int32) : zH := if ¬ x < 0 ∧ ¬ 7 < x then zsI h (aHouse B x.toNatClampNeg) 300 (zI h (aHouse B x.toNatClampNeg) 300 + v) else h
def fLie (B : Nat) (h : zH) (x : Int32) : zH := if ¬ x < 0 ∧ ¬ 7 < x then zsI h (aHouse B x.toNatClampNeg) 302 (zI h (aHouse B x.toNatClampNeg) 302 + 1) else h
def fKept (B : Nat) (h : zH) (x : Int32) : zH := if ¬ x < 0 ∧ ¬ 7 < x then zsI h (aHouse B x.toNatClampNeg) 301 (zI h (aHouse B x.toNatClampNeg) 301 + 1) else h
theorem fPay_sk {B h x v} : zSk h (fPay B h x v) := by unfold fPay; split; exact zSk.sI; exact zSk.rf _
theorem fLie_sk {B h x} : zSk h (fLie B h x) := by unfold fLie; split; exact zSk.sI; exact zSk.rf _
theorem fKept_sk {B h x} : zSk h (fKept B h x) := by unfold fKept; split; exact zSk.sI; exact zSk.rf _
theorem fPay_I {B h x v b f} (hf : ¬ f = 300) : zI (fPay B h x v) b f = zI h b f := by
  unfold fPay
  split
  · rw [zI_sI, if_neg (fun q => hf q.2)]
  · rfl
theorem fLie_I {B h x b f} (hf : ¬ f = 302) : zI (fLie B h x) b f = zI h b f := by
  unfold fLie
  split
  · rw [zI_sI, if_neg (fun q => hf q.2)]
  · rfl
theorem fKept_I {B h x b f} (hf : ¬ f = 301) : zI (fKept B h x) b f = zI h b f := by
  unfold fKept
  split
  · rw [zI_sI, if_neg (fun q => hf q.2)]
  · rfl
theorem fPay_A {B h x v} : zA (fPay B h x v) = zA h := by unfold fPay; split; rw [zA_sI]; rfl
theorem fLie_A {B h x} : zA (fLie B h x) = zA h := by unfold fLie; split; rw [zA_sI]; rfl
theorem fKept_A {B h x} : zA (fKept B h x) = zA h := by unfold fKept; split; rw [zA_sI]; rfl
set_option maxHeartbeats 4000000 in
set_option maxRecDepth 100000 in
theorem s_X2_pay {l G d B h Q} {x v : Int32} (hd : 1 ≤ d) (S : zXS B h) (hQ : Q (.inl none) (fPay B h x v)) : zCall l G mX2_pay d [.ref (aCourt B), .int x, .int v] h Q := by
  have hd0 : 0 < d := hd
  obtain ⟨s1, s2, s3, ⟨c1, c2, c3, c4, c5, c6, c7⟩, s5, s6, s7, s8, s9⟩ := S
  refine zEnt 2 false mX2_pay _ _ _ _ [some (.ref (aCourt B)), some (.int x), some (.int v)] rfl (by decide +kernel) (fun h => by cases h) rfl (Nat.le_of_ble_eq_true rfl) fun X hX => ?_
  refine zrun0 hX 40 ?_
  simp only [zb_s, zm_ok, zgo_c, zstp_n, zstp_c, Bool.false_eq_true, Bool.false_or, Bool.or_false, Bool.true_or, eq_self, kne_10, kne_01, zget_0, zget_s, zst1_0, zst1_1, zst1_s, zst2_0, zst2_1, zst2_s, zht_c, zdl_n, zdl_i, zdl_r, zdl_l, zct_i, zct_r, zct_l, zct_n, zct_q, zpI_c, zpL_c, zpR_c, zpR_q, zpQ_c, zpQ_n, zpQ_q, zpV_c, zpn_0, zpn_s, zvI_c, zvL_c, zvR_c, zcs_n, zcs_c, zcn_eq, zcn_ne, zcn_lt, zcn_ge, zcn_gt, zcn_le, zrs_n, zrs_s, zrs_x, zpf_0, zpf_1, zpf_2, zpf_3, zfv_0, zfv_1, zfv_2, zfv_3, List.length_cons, List.length_nil, List.nil_append, List.cons_append, List.append_nil, Nat.reduceAdd, Nat.reduceSub, Nat.reduceMul, Nat.reduceLT, Nat.reduceLeDiff, Nat.reduceEqDiff, Nat.reduceBEq, Nat.zero_add, Nat.add_zero, Nat.sub_zero, Nat.zero_le, Nat.le_refl, true_and, and_true, implies_true, forall_const, true_or, or_true, not_true_eq_false, not_false_eq_true, Classical.not_not, false_implies, and_self, ↓reduceIte, reduceCtorEq, exists_eq_left, exists_eq_left', Option.some.injEq, Int.reduceAdd, Int.reduceSub, Int.reduceNeg, List.size_toArray, znc_2, znc_3, znc_4, znc_5, znc_6, znc_7, znc_8, znc_9, znc_10, znc_11, znc_12, znc_13, znc_14, znc_15, znc_16, znc_17, znc_18, znc_19, znc_20, znc_21, znc_22, znc_23, znc_24, znc_25, znc_26, znc_27, znc_28, znc_29, znc_30, znc_31, znc_32, kn_0, kn_1, kn_2, kn_3, kn_4, kn_5, kn_6, kn_7, kn_8, kn_9, kn_10, kn_11, kn_12, kn_13, kn_14, kn_15, kn_16, kn_17, kn_18, kn_19, kn_20, kn_21, kn_22, kn_23, kn_24, kn_25, kn_26, kn_27, kn_28, kn_29, kn_30, kn_31, kn_32, kn_33, kn_34, kn_35, kn_36, kn_37, kn_38, kn_39, kn_40, kzi_0_128, kzi_1_128, kzi_2_128, kzi_3_128, kzi_0_3, kzi_1_3, kzi_2_3, kzi_0_32, kzi_1_32, kzi_2_32, kzi_3_32, kzi_0_10, kzi_1_10, kzi_2_10, kzi_3_10, zte_0, zte_1, zte_2, zte_3, zte_4, zte_5, zte_6, zte_7, zte_8, zte_9, zte_10, zte_11, zte_12, zte_13, zte_14, zte_15, zte_16, dX2_pay_0, dX2_pay_1, dX2_pay_10, dX2_pay_11, dX2_pay_14, dX2_pay_15, dX2_pay_16, dX2_pay_17, dX2_pay_2, dX2_pay_20, dX2_pay_21, dX2_pay_22, dX2_pay_25, dX2_pay_4, dX2_pay_7, jX2_pay_7, kb_7, kc_0, kf_0, kf_1, kf_2, mX10_isWithin_c, mX10_isWithin_s, mX2_pay_b, mX2_pay_c, mX2_pay_r, mX2_pay_s, zfl_2_20, zfl_2_33, zml_2_29, zw_aaload, zw_aload_n, zw_bipush, zw_dup, zw_getfield, zw_iadd, zw_iconst, zw_ifCond, zw_iload_n, zw_invokestatic, zw_putfield, zw_return_, hd0]
  refine s_X10_isWithin ?_
  unfold fPay at hQ
  by_cases q : ¬ x < 0 ∧ ¬ 7 < x
  · rw [if_pos q] at hQ
    have hz : zin x 8 := zin_w q (by decide)
    obtain ⟨r1, r2⟩ := s6 x.toNatClampNeg hz.2
    simp only [zb_s, zm_ok, zgo_c, zstp_n, zstp_c, Bool.false_eq_true, Bool.false_or, Bool.or_false, Bool.true_or, eq_self, kne_10, kne_01, zget_0, zget_s, zst1_0, zst1_1, zst1_s, zst2_0, zst2_1, zst2_s, zht_c, zdl_n, zdl_i, zdl_r, zdl_l, zct_i, zct_r, zct_l, zct_n, zct_q, zpI_c, zpL_c, zpR_c, zpR_q, zpQ_c, zpQ_n, zpQ_q, zpV_c, zpn_0, zpn_s, zvI_c, zvL_c, zvR_c, zcs_n, zcs_c, zcn_eq, zcn_ne, zcn_lt, zcn_ge, zcn_gt, zcn_le, zrs_n, zrs_s, zrs_x, zpf_0, zpf_1, zpf_2, zpf_3, zfv_0, zfv_1, zfv_2, zfv_3, List.length_cons, List.length_nil, List.nil_append, List.cons_append, List.append_nil, Nat.reduceAdd, Nat.reduceSub, Nat.reduceMul, Nat.reduceLT, Nat.reduceLeDiff, Nat.reduceEqDiff, Nat.reduceBEq, Nat.zero_add, Nat.add_zero, Nat.sub_zero, Nat.zero_le, Nat.le_refl, true_and, and_true, implies_true, forall_const, true_or, or_true, not_true_eq_false, not_false_eq_true, Classical.not_not, false_implies, and_self, ↓reduceIte, reduceCtorEq, exists_eq_left, exists_eq_left', Option.some.injEq, Int.reduceAdd, Int.reduceSub, Int.reduceNeg, List.size_toArray, znc_2, znc_3, znc_4, znc_5, znc_6, znc_7, znc_8, znc_9, znc_10, znc_11, znc_12, znc_13, znc_14, znc_15, znc_16, znc_17, znc_18, znc_19, znc_20, znc_21, znc_22, znc_23, znc_24, znc_25, znc_26, znc_27, znc_28, znc_29, znc_30, znc_31, znc_32, kn_0, kn_1, kn_2, kn_3, kn_4, kn_5, kn_6, kn_7, kn_8, kn_9, kn_10, kn_11, kn_12, kn_13, kn_14, kn_15, kn_16, kn_17, kn_18, kn_19, kn_20, kn_21, kn_22, kn_23, kn_24, kn_25, kn_26, kn_27, kn_28, kn_29, kn_30, kn_31, kn_32, kn_33, kn_34, kn_35, kn_36, kn_37, kn_38, kn_39, kn_40, kzi_0_128, kzi_1_128, kzi_2_128, kzi_3_128, kzi_0_3, kzi_1_3, kzi_2_3, kzi_0_32, kzi_1_32, kzi_2_32, kzi_3_32, kzi_0_10, kzi_1_10, kzi_2_10, kzi_3_10, zte_0, zte_1, zte_2, zte_3, zte_4, zte_5, zte_6, zte_7, zte_8, zte_9, zte_10, zte_11, zte_12, zte_13, zte_14, zte_15, zte_16, dX2_pay_0, dX2_pay_1, dX2_pay_10, dX2_pay_11, dX2_pay_14, dX2_pay_15, dX2_pay_16, dX2_pay_17, dX2_pay_2, dX2_pay_20, dX2_pay_21, dX2_pay_22, dX2_pay_25, dX2_pay_4, dX2_pay_7, jX2_pay_7, kb_7, kc_0, kf_0, kf_1, kf_2, mX10_isWithin_c, mX10_isWithin_s, mX2_pay_b, mX2_pay_c, mX2_pay_r, mX2_pay_s, zfl_2_20, zfl_2_33, zml_2_29, zw_aaload, zw_aload_n, zw_bipush, zw_dup, zw_getfield, zw_iadd, zw_iconst, zw_ifCond, zw_iload_n, zw_invokestatic, zw_putfield, zw_return_, zt_0, zt_n0, q, c1, c3, c5, c6, hz, r1, r2, hQ]
  · rw [if_neg q] at hQ
    simp only [zb_s, zm_ok, zgo_c, zstp_n, zstp_c, Bool.false_eq_true, Bool.false_or, Bool.or_false, Bool.true_or, eq_self, kne_10, kne_01, zget_0, zget_s, zst1_0, zst1_1, zst1_s, zst2_0, zst2_1, zst2_s, zht_c, zdl_n, zdl_i, zdl_r, zdl_l, zct_i, zct_r, zct_l, zct_n, zct_q, zpI_c, zpL_c, zpR_c, zpR_q, zpQ_c, zpQ_n, zpQ_q, zpV_c, zpn_0, zpn_s, zvI_c, zvL_c, zvR_c, zcs_n, zcs_c, zcn_eq, zcn_ne, zcn_lt, zcn_ge, zcn_gt, zcn_le, zrs_n, zrs_s, zrs_x, zpf_0, zpf_1, zpf_2, zpf_3, zfv_0, zfv_1, zfv_2, zfv_3, List.length_cons, List.length_nil, List.nil_append, List.cons_append, List.append_nil, Nat.reduceAdd, Nat.reduceSub, Nat.reduceMul, Nat.reduceLT, Nat.reduceLeDiff, Nat.reduceEqDiff, Nat.reduceBEq, Nat.zero_add, Nat.add_zero, Nat.sub_zero, Nat.zero_le, Nat.le_refl, true_and, and_true, implies_true, forall_const, true_or, or_true, not_true_eq_false, not_false_eq_true, Classical.not_not, false_implies, and_self, ↓reduceIte, reduceCtorEq, exists_eq_left, exists_eq_left', Option.some.injEq, Int.reduceAdd, Int.reduceSub, Int.reduceNeg, List.size_toArray, znc_2, znc_3, znc_4, znc_5, znc_6, znc_7, znc_8, znc_9, znc_10, znc_11, znc_12, znc_13, znc_14, znc_15, znc_16, znc_17, znc_18, znc_19, znc_20, znc_21, znc_22, znc_23, znc_24, znc_25, znc_26, znc_27, znc_28, znc_29, znc_30, znc_31, znc_32, kn_0, kn_1, kn_2, kn_3, kn_4, kn_5, kn_6, kn_7, kn_8, kn_9, kn_10, kn_11, kn_12, kn_13, kn_14, kn_15, kn_16, kn_17, kn_18, kn_19, kn_20, kn_21, kn_22, kn_23, kn_24, kn_25, kn_26, kn_27, kn_28, kn_29, kn_30, kn_31, kn_32, kn_33, kn_34, kn_35, kn_36, kn_37, kn_38, kn_39, kn_40, kzi_0_128, kzi_1_128, kzi_2_128, kzi_3_128, kzi_0_3, kzi_1_3, kzi_2_3, kzi_0_32, kzi_1_32, kzi_2_32, kzi_3_32, kzi_0_10, kzi_1_10, kzi_2_10, kzi_3_10, zte_0, zte_1, zte_2, zte_3, zte_4, zte_5, zte_6, zte_7, zte_8, zte_9, zte_10, zte_11, zte_12, zte_13, zte_14, zte_15, zte_16, dX2_pay_0, dX2_pay_1, dX2_pay_10, dX2_pay_11, dX2_pay_14, dX2_pay_15, dX2_pay_16, dX2_pay_17, dX2_pay_2, dX2_pay_20, dX2_pay_21, dX2_pay_22, dX2_pay_25, dX2_pay_4, dX2_pay_7, jX2_pay_7, kb_7, kc_0, kf_0, kf_1, kf_2, mX10_isWithin_c, mX10_isWithin_s, mX2_pay_b, mX2_pay_c, mX2_pay_r, mX2_pay_s, zfl_2_20, zfl_2_33, zml_2_29, zw_aaload, zw_aload_n, zw_bipush, zw_dup, zw_getfield, zw_iadd, zw_iconst, zw_ifCond, zw_iload_n, zw_invokestatic, zw_putfield, zw_return_, zt_0, zt_n0, q, hQ]
set_option maxHeartbeats 4000000 in
set_option maxRecDepth 100000 in
theorem s_X2_countLie {l G d B h Q} {x : Int32} (hd : 1 ≤ d) (S : zXS B h) (hQ : Q (.inl none) (fLie B h x)) : zCall l G mX2_countLie d [.ref (aCourt B), .int x] h Q := by
  have hd0 : 0 < d := hd
  obtain ⟨s1, s2, s3, ⟨c1, c2, c3, c4, c5, c6, c7⟩, s5, s6, s7, s8, s9⟩ := S
  refine zEnt 2 false mX2_countLie _ _ _ _ [some (.ref (aCourt B)), some (.int x)] rfl (by decide +kernel) (fun h => by cases h) rfl (Nat.le_of_ble_eq_true rfl) fun X hX => ?_
  refine zrun0 hX 40 ?_
  simp only [zb_s, zm_ok, zgo_c, zstp_n, zstp_c, Bool.false_eq_true, Bool.false_or, Bool.or_false, Bool.true_or, eq_self, kne_10, kne_01, zget_0, zget_s, zst1_0, zst1_1, zst1_s, zst2_0, zst2_1, zst2_s, zht_c, zdl_n, zdl_i, zdl_r, zdl_l, zct_i, zct_r, zct_l, zct_n, zct_q, zpI_c, zpL_c, zpR_c, zpR_q, zpQ_c, zpQ_n, zpQ_q, zpV_c, zpn_0, zpn_s, zvI_c, zvL_c, zvR_c, zcs_n, zcs_c, zcn_eq, zcn_ne, zcn_lt, zcn_ge, zcn_gt, zcn_le, zrs_n, zrs_s, zrs_x, zpf_0, zpf_1, zpf_2, zpf_3, zfv_0, zfv_1, zfv_2, zfv_3, List.length_cons, List.length_nil, List.nil_append, List.cons_append, List.append_nil, Nat.reduceAdd, Nat.reduceSub, Nat.reduceMul, Nat.reduceLT, Nat.reduceLeDiff, Nat.reduceEqDiff, Nat.reduceBEq, Nat.zero_add, Nat.add_zero, Nat.sub_zero, Nat.zero_le, Nat.le_refl, true_and, and_true, implies_true, forall_const, true_or, or_true, not_true_eq_false, not_false_eq_true, Classical.not_not, false_implies, and_self, ↓reduceIte, reduceCtorEq, exists_eq_left, exists_eq_left', Option.some.injEq, Int.reduceAdd, Int.reduceSub, Int.reduceNeg, List.size_toArray, znc_2, znc_3, znc_4, znc_5, znc_6, znc_7, znc_8, znc_9, znc_10, znc_11, znc_12, znc_13, znc_14, znc_15, znc_16, znc_17, znc_18, znc_19, znc_20, znc_21, znc_22, znc_23, znc_24, znc_25, znc_26, znc_27, znc_28, znc_29, znc_30, znc_31, znc_32, kn_0, kn_1, kn_2, kn_3, kn_4, kn_5, kn_6, kn_7, kn_8, kn_9, kn_10, kn_11, kn_12, kn_13, kn_14, kn_15, kn_16, kn_17, kn_18, kn_19, kn_20, kn_21, kn_22, kn_23, kn_24, kn_25, kn_26, kn_27, kn_28, kn_29, kn_30, kn_31, kn_32, kn_33, kn_34, kn_35, kn_36, kn_37, kn_38, kn_39, kn_40, kzi_0_128, kzi_1_128, kzi_2_128, kzi_3_128, kzi_0_3, kzi_1_3, kzi_2_3, kzi_0_32, kzi_1_32, kzi_2_32, kzi_3_32, kzi_0_10, kzi_1_10, kzi_2_10, kzi_3_10, zte_0, zte_1, zte_2, zte_3, zte_4, zte_5, zte_6, zte_7, zte_8, zte_9, zte_10, zte_11, zte_12, zte_13, zte_14, zte_15, zte_16, dX2_countLie_0, dX2_countLie_1, dX2_countLie_10, dX2_countLie_11, dX2_countLie_14, dX2_countLie_15, dX2_countLie_16, dX2_countLie_17, dX2_countLie_2, dX2_countLie_20, dX2_countLie_21, dX2_countLie_22, dX2_countLie_25, dX2_countLie_4, dX2_countLie_7, jX2_countLie_7, kb_7, kc_0, kc_1, kf_0, kf_1, mX10_isWithin_c, mX10_isWithin_s, mX2_countLie_b, mX2_countLie_c, mX2_countLie_r, mX2_countLie_s, zfl_2_20, zfl_2_37, zml_2_29, zw_aaload, zw_aload_n, zw_bipush, zw_dup, zw_getfield, zw_iadd, zw_iconst, zw_ifCond, zw_iload_n, zw_invokestatic, zw_putfield, zw_return_, hd0]
  refine s_X10_isWithin ?_
  unfold fLie at hQ
  by_cases q : ¬ x < 0 ∧ ¬ 7 < x
  · rw [if_pos q] at hQ
    have hz : zin x 8 := zin_w q (by decide)
    obtain ⟨r1, r2⟩ := s6 x.toNatClampNeg hz.2
    simp only [zb_s, zm_ok, zgo_c, zstp_n, zstp_c, Bool.false_eq_true, Bool.false_or, Bool.or_false, Bool.true_or, eq_self, kne_10, kne_01, zget_0, zget_s, zst1_0, zst1_1, zst1_s, zst2_0, zst2_1, zst2_s, zht_c, zdl_n, zdl_i, zdl_r, zdl_l, zct_i, zct_r, zct_l, zct_n, zct_q, zpI_c, zpL_c, zpR_c, zpR_q, zpQ_c, zpQ_n, zpQ_q, zpV_c, zpn_0, zpn_s, zvI_c, zvL_c, zvR_c, zcs_n, zcs_c, zcn_eq, zcn_ne, zcn_lt, zcn_ge, zcn_gt, zcn_le, zrs_n, zrs_s, zrs_x, zpf_0, zpf_1, zpf_2, zpf_3, zfv_0, zfv_1, zfv_2, zfv_3, List.length_cons, List.length_nil, List.nil_append, List.cons_append, List.append_nil, Nat.reduceAdd, Nat.reduceSub, Nat.reduceMul, Nat.reduceLT, Nat.reduceLeDiff, Nat.reduceEqDiff, Nat.reduceBEq, Nat.zero_add, Nat.add_zero, Nat.sub_zero, Nat.zero_le, Nat.le_refl, true_and, and_true, implies_true, forall_const, true_or, or_true, not_true_eq_false, not_false_eq_true, Classical.not_not, false_implies, and_self, ↓reduceIte, reduceCtorEq, exists_eq_left, exists_eq_left', Option.some.injEq, Int.reduceAdd, Int.reduceSub, Int.reduceNeg, List.size_toArray, znc_2, znc_3, znc_4, znc_5, znc_6, znc_7, znc_8, znc_9, znc_10, znc_11, znc_12, znc_13, znc_14, znc_15, znc_16, znc_17, znc_18, znc_19, znc_20, znc_21, znc_22, znc_23, znc_24, znc_25, znc_26, znc_27, znc_28, znc_29, znc_30, znc_31, znc_32, kn_0, kn_1, kn_2, kn_3, kn_4, kn_5, kn_6, kn_7, kn_8, kn_9, kn_10, kn_11, kn_12, kn_13, kn_14, kn_15, kn_16, kn_17, kn_18, kn_19, kn_20, kn_21, kn_22, kn_23, kn_24, kn_25, kn_26, kn_27, kn_28, kn_29, kn_30, kn_31, kn_32, kn_33, kn_34, kn_35, kn_36, kn_37, kn_38, kn_39, kn_40, kzi_0_128, kzi_1_128, kzi_2_128, kzi_3_128, kzi_0_3, kzi_1_3, kzi_2_3, kzi_0_32, kzi_1_32, kzi_2_32, kzi_3_32, kzi_0_10, kzi_1_10, kzi_2_10, kzi_3_10, zte_0, zte_1, zte_2, zte_3, zte_4, zte_5, zte_6, zte_7, zte_8, zte_9, zte_10, zte_11, zte_12, zte_13, zte_14, zte_15, zte_16, dX2_countLie_0, dX2_countLie_1, dX2_countLie_10, dX2_countLie_11, dX2_countLie_14, dX2_countLie_15, dX2_countLie_16, dX2_countLie_17, dX2_countLie_2, dX2_countLie_20, dX2_countLie_21, dX2_countLie_22, dX2_countLie_25, dX2_countLie_4, dX2_countLie_7, jX2_countLie_7, kb_7, kc_0, kc_1, kf_0, kf_1, mX10_isWithin_c, mX10_isWithin_s, mX2_countLie_b, mX2_countLie_c, mX2_countLie_r, mX2_countLie_s, zfl_2_20, zfl_2_37, zml_2_29, zw_aaload, zw_aload_n, zw_bipush, zw_dup, zw_getfield, zw_iadd, zw_iconst, zw_ifCond, zw_iload_n, zw_invokestatic, zw_putfield, zw_return_, zt_0, zt_n0, q, c1, c3, c5, c6, hz, r1, r2, hQ]
  · rw [if_neg q] at hQ
    simp only [zb_s, zm_ok, zgo_c, zstp_n, zstp_c, Bool.false_eq_true, Bool.false_or, Bool.or_false, Bool.true_or, eq_self, kne_10, kne_01, zget_0, zget_s, zst1_0, zst1_1, zst1_s, zst2_0, zst2_1, zst2_s, zht_c, zdl_n, zdl_i, zdl_r, zdl_l, zct_i, zct_r, zct_l, zct_n, zct_q, zpI_c, zpL_c, zpR_c, zpR_q, zpQ_c, zpQ_n, zpQ_q, zpV_c, zpn_0, zpn_s, zvI_c, zvL_c, zvR_c, zcs_n, zcs_c, zcn_eq, zcn_ne, zcn_lt, zcn_ge, zcn_gt, zcn_le, zrs_n, zrs_s, zrs_x, zpf_0, zpf_1, zpf_2, zpf_3, zfv_0, zfv_1, zfv_2, zfv_3, List.length_cons, List.length_nil, List.nil_append, List.cons_append, List.append_nil, Nat.reduceAdd, Nat.reduceSub, Nat.reduceMul, Nat.reduceLT, Nat.reduceLeDiff, Nat.reduceEqDiff, Nat.reduceBEq, Nat.zero_add, Nat.add_zero, Nat.sub_zero, Nat.zero_le, Nat.le_refl, true_and, and_true, implies_true, forall_const, true_or, or_true, not_true_eq_false, not_false_eq_true, Classical.not_not, false_implies, and_self, ↓reduceIte, reduceCtorEq, exists_eq_left, exists_eq_left', Option.some.injEq, Int.reduceAdd, Int.reduceSub, Int.reduceNeg, List.size_toArray, znc_2, znc_3, znc_4, znc_5, znc_6, znc_7, znc_8, znc_9, znc_10, znc_11, znc_12, znc_13, znc_14, znc_15, znc_16, znc_17, znc_18, znc_19, znc_20, znc_21, znc_22, znc_23, znc_24, znc_25, znc_26, znc_27, znc_28, znc_29, znc_30, znc_31, znc_32, kn_0, kn_1, kn_2, kn_3, kn_4, kn_5, kn_6, kn_7, kn_8, kn_9, kn_10, kn_11, kn_12, kn_13, kn_14, kn_15, kn_16, kn_17, kn_18, kn_19, kn_20, kn_21, kn_22, kn_23, kn_24, kn_25, kn_26, kn_27, kn_28, kn_29, kn_30, kn_31, kn_32, kn_33, kn_34, kn_35, kn_36, kn_37, kn_38, kn_39, kn_40, kzi_0_128, kzi_1_128, kzi_2_128, kzi_3_128, kzi_0_3, kzi_1_3, kzi_2_3, kzi_0_32, kzi_1_32, kzi_2_32, kzi_3_32, kzi_0_10, kzi_1_10, kzi_2_10, kzi_3_10, zte_0, zte_1, zte_2, zte_3, zte_4, zte_5, zte_6, zte_7, zte_8, zte_9, zte_10, zte_11, zte_12, zte_13, zte_14, zte_15, zte_16, dX2_countLie_0, dX2_countLie_1, dX2_countLie_10, dX2_countLie_11, dX2_countLie_14, dX2_countLie_15, dX2_countLie_16, dX2_countLie_17, dX2_countLie_2, dX2_countLie_20, dX2_countLie_21, dX2_countLie_22, dX2_countLie_25, dX2_countLie_4, dX2_countLie_7, jX2_countLie_7, kb_7, kc_0, kc_1, kf_0, kf_1, mX10_isWithin_c, mX10_isWithin_s, mX2_countLie_b, mX2_countLie_c, mX2_countLie_r, mX2_countLie_s, zfl_2_20, zfl_2_37, zml_2_29, zw_aaload, zw_aload_n, zw_bipush, zw_dup, zw_getfield, zw_iadd, zw_iconst, zw_ifCond, zw_iload_n, zw_invokestatic, zw_putfield, zw_return_, zt_0, zt_n0, q, hQ]
/-- a house's share of a pledge -/
def fShare (v r : Int32) : Int32 := (v.toInt64 * r.toInt64 / 100).toInt32
def fReward (B : Nat) (h : zH) (x v : Int32) : zH := zsI (fPay B h x (v + fShare v (zA h (aRules B) 2))) (aCourt B) 204 (zI h (aCourt B) 204 + (v - fShare v (zA h (aRules B) 2)))
theorem fReward_sk {B h x v} : zSk h (fReward B h x v) := fPay_sk.tr zSk.sI
set_option maxHeartbeats 4000000 in
set_option maxRecDepth 100000 in
theorem s_X2_reward {l G d B h Q} {x v : Int32} (hd : 2 ≤ d) (S : zXS B h) (hQ : Q (.inl none) (fReward B h x v)) : zCall l G mX2_reward d [.ref (aCourt B), .int x, .int v] h Q := by
  have hd0 : 0 < d := by omega
  have S0 := S
  obtain ⟨s1, s2, s3, ⟨c1, c2, c3, c4, c5, c6, c7, c8⟩, s5, s6, s7, s8, s9⟩ := S
  refine zEnt 2 false mX2_reward _ _ _ _ [some (.ref (aCourt B)), some (.int x), some (.int v), none] rfl (by decide +kernel) (fun h => by cases h) rfl (Nat.le_of_ble_eq_true rfl) fun X hX => ?_
  refine zrun0 hX 60 ?_
  simp only [zb_s, zm_ok, zgo_c, zstp_n, zstp_c, Bool.false_eq_true, Bool.false_or, Bool.or_false, Bool.true_or, eq_self, kne_10, kne_01, zget_0, zget_s, zst1_0, zst1_1, zst1_s, zst2_0, zst2_1, zst2_s, zht_c, zdl_n, zdl_i, zdl_r, zdl_l, zct_i, zct_r, zct_l, zct_n, zct_q, zpI_c, zpL_c, zpR_c, zpR_q, zpQ_c, zpQ_n, zpQ_q, zpV_c, zpn_0, zpn_s, zvI_c, zvL_c, zvR_c, zcs_n, zcs_c, zcn_eq, zcn_ne, zcn_lt, zcn_ge, zcn_gt, zcn_le, zrs_n, zrs_s, zrs_x, zpf_0, zpf_1, zpf_2, zpf_3, zfv_0, zfv_1, zfv_2, zfv_3, List.length_cons, List.length_nil, List.nil_append, List.cons_append, List.append_nil, Nat.reduceAdd, Nat.reduceSub, Nat.reduceMul, Nat.reduceLT, Nat.reduceLeDiff, Nat.reduceEqDiff, Nat.reduceBEq, Nat.zero_add, Nat.add_zero, Nat.sub_zero, Nat.zero_le, Nat.le_refl, true_and, and_true, implies_true, forall_const, true_or, or_true, not_true_eq_false, not_false_eq_true, Classical.not_not, false_implies, and_self, ↓reduceIte, reduceCtorEq, exists_eq_left, exists_eq_left', Option.some.injEq, Int.reduceAdd, Int.reduceSub, Int.reduceNeg, List.size_toArray, znc_2, znc_3, znc_4, znc_5, znc_6, znc_7, znc_8, znc_9, znc_10, znc_11, znc_12, znc_13, znc_14, znc_15, znc_16, znc_17, znc_18, znc_19, znc_20, znc_21, znc_22, znc_23, znc_24, znc_25, znc_26, znc_27, znc_28, znc_29, znc_30, znc_31, znc_32, kn_0, kn_1, kn_2, kn_3, kn_4, kn_5, kn_6, kn_7, kn_8, kn_9, kn_10, kn_11, kn_12, kn_13, kn_14, kn_15, kn_16, kn_17, kn_18, kn_19, kn_20, kn_21, kn_22, kn_23, kn_24, kn_25, kn_26, kn_27, kn_28, kn_29, kn_30, kn_31, kn_32, kn_33, kn_34, kn_35, kn_36, kn_37, kn_38, kn_39, kn_40, kzi_0_128, kzi_1_128, kzi_2_128, kzi_3_128, kzi_0_3, kzi_1_3, kzi_2_3, kzi_0_32, kzi_1_32, kzi_2_32, kzi_3_32, kzi_0_10, kzi_1_10, kzi_2_10, kzi_3_10, zte_0, zte_1, zte_2, zte_3, zte_4, zte_5, zte_6, zte_7, zte_8, zte_9, zte_10, zte_11, zte_12, zte_13, zte_14, zte_15, zte_16, dX2_reward_0, dX2_reward_1, dX2_reward_10, dX2_reward_13, dX2_reward_14, dX2_reward_15, dX2_reward_16, dX2_reward_17, dX2_reward_18, dX2_reward_19, dX2_reward_2, dX2_reward_20, dX2_reward_21, dX2_reward_24, dX2_reward_25, dX2_reward_26, dX2_reward_29, dX2_reward_3, dX2_reward_30, dX2_reward_31, dX2_reward_32, dX2_reward_33, dX2_reward_36, dX2_reward_6, dX2_reward_7, dX2_reward_8, dX2_reward_9, kc_2, kf_0, kf_1, kf_2, kf_3, mX2_pay_c, mX2_pay_s, mX2_reward_b, mX2_reward_c, mX2_reward_r, mX2_reward_s, zfl_2_131, zfl_2_24, zl2_2_137, zml_2_139, zw_aload_n, zw_dup, zw_getfield, zw_i2l, zw_iadd, zw_iaload, zw_iconst, zw_iload_n, zw_invokevirtual, zw_istore_n, zw_isub, zw_l2i, zw_ldc2_w, zw_ldiv, zw_lmul, zw_putfield, zw_return_, hd0, c1, c4, c7, c8]
  refine ⟨by decide, s_X2_pay (by omega) S0 ?_⟩
  have k1 : zK (fPay B h x (v + fShare v (zA h (aRules B) 2))) (aCourt B) = 3 := by rw [fPay_sk.1]; exact c1
  have i1 : zI (fPay B h x (v + fShare v (zA h (aRules B) 2))) (aCourt B) 204 = zI h (aCourt B) 204 := fPay_I (by decide)
  unfold fReward at hQ
  unfold fShare at k1 i1 hQ
  simp only [zb_s, zm_ok, zgo_c, zstp_n, zstp_c, Bool.false_eq_true, Bool.false_or, Bool.or_false, Bool.true_or, eq_self, kne_10, kne_01, zget_0, zget_s, zst1_0, zst1_1, zst1_s, zst2_0, zst2_1, zst2_s, zht_c, zdl_n, zdl_i, zdl_r, zdl_l, zct_i, zct_r, zct_l, zct_n, zct_q, zpI_c, zpL_c, zpR_c, zpR_q, zpQ_c, zpQ_n, zpQ_q, zpV_c, zpn_0, zpn_s, zvI_c, zvL_c, zvR_c, zcs_n, zcs_c, zcn_eq, zcn_ne, zcn_lt, zcn_ge, zcn_gt, zcn_le, zrs_n, zrs_s, zrs_x, zpf_0, zpf_1, zpf_2, zpf_3, zfv_0, zfv_1, zfv_2, zfv_3, List.length_cons, List.length_nil, List.nil_append, List.cons_append, List.append_nil, Nat.reduceAdd, Nat.reduceSub, Nat.reduceMul, Nat.reduceLT, Nat.reduceLeDiff, Nat.reduceEqDiff, Nat.reduceBEq, Nat.zero_add, Nat.add_zero, Nat.sub_zero, Nat.zero_le, Nat.le_refl, true_and, and_true, implies_true, forall_const, true_or, or_true, not_true_eq_false, not_false_eq_true, Classical.not_not, false_implies, and_self, ↓reduceIte, reduceCtorEq, exists_eq_left, exists_eq_left', Option.some.injEq, Int.reduceAdd, Int.reduceSub, Int.reduceNeg, List.size_toArray, znc_2, znc_3, znc_4, znc_5, znc_6, znc_7, znc_8, znc_9, znc_10, znc_11, znc_12, znc_13, znc_14, znc_15, znc_16, znc_17, znc_18, znc_19, znc_20, znc_21, znc_22, znc_23, znc_24, znc_25, znc_26, znc_27, znc_28, znc_29, znc_30, znc_31, znc_32, kn_0, kn_1, kn_2, kn_3, kn_4, kn_5, kn_6, kn_7, kn_8, kn_9, kn_10, kn_11, kn_12, kn_13, kn_14, kn_15, kn_16, kn_17, kn_18, kn_19, kn_20, kn_21, kn_22, kn_23, kn_24, kn_25, kn_26, kn_27, kn_28, kn_29, kn_30, kn_31, kn_32, kn_33, kn_34, kn_35, kn_36, kn_37, kn_38, kn_39, kn_40, kzi_0_128, kzi_1_128, kzi_2_128, kzi_3_128, kzi_0_3, kzi_1_3, kzi_2_3, kzi_0_32, kzi_1_32, kzi_2_32, kzi_3_32, kzi_0_10, kzi_1_10, kzi_2_10, kzi_3_10, zte_0, zte_1, zte_2, zte_3, zte_4, zte_5, zte_6, zte_7, zte_8, zte_9, zte_10, zte_11, zte_12, zte_13, zte_14, zte_15, zte_16, dX2_reward_0, dX2_reward_1, dX2_reward_10, dX2_reward_13, dX2_reward_14, dX2_reward_15, dX2_reward_16, dX2_reward_17, dX2_reward_18, dX2_reward_19, dX2_reward_2, dX2_reward_20, dX2_reward_21, dX2_reward_24, dX2_reward_25, dX2_reward_26, dX2_reward_29, dX2_reward_3, dX2_reward_30, dX2_reward_31, dX2_reward_32, dX2_reward_33, dX2_reward_36, dX2_reward_6, dX2_reward_7, dX2_reward_8, dX2_reward_9, kc_2, kf_0, kf_1, kf_2, kf_3, mX2_pay_c, mX2_pay_s, mX2_reward_b, mX2_reward_c, mX2_reward_r, mX2_reward_s, zfl_2_131, zfl_2_24, zl2_2_137, zml_2_139, zw_aload_n, zw_dup, zw_getfield, zw_i2l, zw_iadd, zw_iaload, zw_iconst, zw_iload_n, zw_invokevirtual, zw_istore_n, zw_isub, zw_l2i, zw_ldc2_w, zw_ldiv, zw_lmul, zw_putfield, zw_return_, k1, i1, hQ]
