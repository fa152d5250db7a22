/-! THE MACHINE, as mathematics: the cells, the outs -/
abbrev zcells : Type := Nat → Int32
def mcPush (C : zcells) (v : Int32) : zcells := if ¬ C 1 < 0 ∧ C 1 < 32 then zup (zup C (32 + C 1).toNatClampNeg v) 1 (C 1 + 1) else C
def mcTop (C : zcells) : Int32 := if ¬ C 1 ≤ 0 ∧ ¬ 32 < C 1 then C (32 + C 1 - 1).toNatClampNeg else 0
def mcPop (C : zcells) : zcells := if ¬ C 1 ≤ 0 ∧ ¬ 32 < C 1 then zup (zup C (32 + C 1 - 1).toNatClampNeg 0) 1 (C 1 - 1) else C
def mcOutC (C : zcells) (v : Int32) : zcells := zup (zup C 2 (C 2 + 1)) 3 (31 * C 3 + v)
def mcOutO (C : zcells) (O : zcells) (v : Int32) : zcells := if ¬ C 2 < 0 ∧ C 2 < 10 then zup O (C 2).toNatClampNeg v else O
def mcWork (k x y : Int32) : Int32 :=
  if k = 6 then x + y else if k = 7 then x - y else if k = 8 then x * y else if k = 9 then (if y = 0 then 0 else x / y) else if k = 10 then (if y = 0 then 0 else x - x / y * y)
  else if k = 11 then zt (x < y) else if k = 12 then zt (y < x) else if k = 13 then zt (x = y) else 0
/-- a machine at a: its cells ca, its outs oa, its tree ta -/
def zMc (h : zH) (a ca oa ta : Nat) : Prop := (zK h a = 5 ∧ zP h a 400 = some ca ∧ zP h a 401 = some oa ∧ zP h a 402 = some ta) ∧ (zK h ca = 100 ∧ zN h ca = 128) ∧ (zK h oa = 100 ∧ zN h oa = 10) ∧ (zK h ta = 100 ∧ zN h ta = 32) ∧ ¬ ca = oa ∧ ¬ ca = ta ∧ ¬ oa = ta
theorem zMc_wr {h a ca oa ta b f} (H : zMc h a ca oa ta) : zMc (zwr h b f) a ca oa ta := H
set_option maxHeartbeats 4000000 in
set_option maxRecDepth 100000 in
theorem s_X5_push {l G d a ca oa ta h Q} {v : Int32} (H : zMc h a ca oa ta) (hQ : Q (.inl none) (zwr h ca (mcPush (zA h ca) v))) : zCall l G mX5_push d [.ref a, .int v] h Q := by
  obtain ⟨⟨k1, k2, k3, k4⟩, ⟨k5, k6⟩, ⟨k7, k8⟩, ⟨k9, k10⟩, n1, n2, n3⟩ := H
  refine zEnt 5 false mX5_push _ _ _ _ [some (.ref a), some (.int v), none] rfl (by decide +kernel) (fun h => by cases h) rfl (Nat.le_of_ble_eq_true rfl) fun X hX => ?_
  refine zrun0 hX 40 ?_
  simp only [zb_s, zm_ok, zgo_c, zstp_n, zstp_c, Bool.false_eq_true, Bool.false_or, Bool.or_false, Bool.true_or, eq_self, kne_10, kne_01, zget_0, zget_s, zst1_0, zst1_1, zst1_s, zst2_0, zst2_1, zst2_s, zht_c, zdl_n, zdl_i, zdl_r, zdl_l, zct_i, zct_r, zct_l, zct_n, zct_q, zpI_c, zpL_c, zpR_c, zpR_q, zpQ_c, zpQ_n, zpQ_q, zpV_c, zpn_0, zpn_s, zvI_c, zvL_c, zvR_c, zcs_n, zcs_c, zcn_eq, zcn_ne, zcn_lt, zcn_ge, zcn_gt, zcn_le, zrs_n, zrs_s, zrs_x, zpf_0, zpf_1, zpf_2, zpf_3, zfv_0, zfv_1, zfv_2, zfv_3, List.length_cons, List.length_nil, List.nil_append, List.cons_append, List.append_nil, Nat.reduceAdd, Nat.reduceSub, Nat.reduceMul, Nat.reduceLT, Nat.reduceLeDiff, Nat.reduceEqDiff, Nat.reduceBEq, Nat.zero_add, Nat.add_zero, Nat.sub_zero, Nat.zero_le, Nat.le_refl, true_and, and_true, implies_true, forall_const, true_or, or_true, not_true_eq_false, not_false_eq_true, Classical.not_not, false_implies, and_self, ↓reduceIte, reduceCtorEq, exists_eq_left, exists_eq_left', Option.some.injEq, Int.reduceAdd, Int.reduceSub, Int.reduceNeg, List.size_toArray, znc_2, znc_3, znc_4, znc_5, znc_6, znc_7, znc_8, znc_9, znc_10, znc_11, znc_12, znc_13, znc_14, znc_15, znc_16, znc_17, znc_18, znc_19, znc_20, znc_21, znc_22, znc_23, znc_24, znc_25, znc_26, znc_27, znc_28, znc_29, znc_30, znc_31, znc_32, kn_0, kn_1, kn_2, kn_3, kn_4, kn_5, kn_6, kn_7, kn_8, kn_9, kn_10, kn_11, kn_12, kn_13, kn_14, kn_15, kn_16, kn_17, kn_18, kn_19, kn_20, kn_21, kn_22, kn_23, kn_24, kn_25, kn_26, kn_27, kn_28, kn_29, kn_30, kn_31, kn_32, kn_33, kn_34, kn_35, kn_36, kn_37, kn_38, kn_39, kn_40, kzi_0_128, kzi_1_128, kzi_2_128, kzi_3_128, kzi_0_3, kzi_1_3, kzi_2_3, kzi_0_32, kzi_1_32, kzi_2_32, kzi_3_32, kzi_0_10, kzi_1_10, kzi_2_10, kzi_3_10, zte_0, zte_1, zte_2, zte_3, zte_4, zte_5, zte_6, zte_7, zte_8, zte_9, zte_10, zte_11, zte_12, zte_13, zte_14, zte_15, zte_16, dX5_push_0, dX5_push_1, dX5_push_11, dX5_push_12, dX5_push_14, dX5_push_17, dX5_push_18, dX5_push_21, dX5_push_23, dX5_push_24, dX5_push_25, dX5_push_26, dX5_push_27, dX5_push_28, dX5_push_31, dX5_push_32, dX5_push_33, dX5_push_34, dX5_push_35, dX5_push_36, dX5_push_4, dX5_push_5, dX5_push_6, dX5_push_7, dX5_push_8, jX5_push_14, jX5_push_8, kb_32, kc_1, kf_0, kf_1, kf_2, mX5_push_b, mX5_push_c, mX5_push_r, mX5_push_s, zfl_5_9, zw_aload_n, zw_bipush, zw_getfield, zw_iadd, zw_iaload, zw_iastore, zw_iconst, zw_ifCond, zw_if_icmp, zw_iload_n, zw_istore_n, zw_return_, k1, k2, k5, k6, zsA_wr, zwr_wr, zwr_A, zup_ap, zwr_S, zwr_K, zwr_N, zwr_I, zwr_L, zwr_P, zwr_B, zwr_R, eq_self]
  have hz : ¬ zA h ca 1 < 0 → zA h ca 1 < 32 → zin (32 + zA h ca 1) 128 := fun q1 q2 => zin_ap q1 q2 (by decide) (by decide) (by decide)
  have e := zwr_id h ca
  grind [mcPush, Int32.not_le]
set_option maxHeartbeats 4000000 in
set_option maxRecDepth 100000 in
theorem s_X5_pop {l G d a ca oa ta h Q} (H : zMc h a ca oa ta) (hQ : Q (.inl (some (.int (mcTop (zA h ca))))) (zwr h ca (mcPop (zA h ca)))) : zCall l G mX5_pop d [.ref a] h Q := by
  obtain ⟨⟨k1, k2, k3, k4⟩, ⟨k5, k6⟩, ⟨k7, k8⟩, ⟨k9, k10⟩, n1, n2, n3⟩ := H
  refine zEnt 5 false mX5_pop _ _ _ _ [some (.ref a), none, none] rfl (by decide +kernel) (fun h => by cases h) rfl (Nat.le_of_ble_eq_true rfl) fun X hX => ?_
  refine zrun0 hX 50 ?_
  simp only [zb_s, zm_ok, zgo_c, zstp_n, zstp_c, Bool.false_eq_true, Bool.false_or, Bool.or_false, Bool.true_or, eq_self, kne_10, kne_01, zget_0, zget_s, zst1_0, zst1_1, zst1_s, zst2_0, zst2_1, zst2_s, zht_c, zdl_n, zdl_i, zdl_r, zdl_l, zct_i, zct_r, zct_l, zct_n, zct_q, zpI_c, zpL_c, zpR_c, zpR_q, zpQ_c, zpQ_n, zpQ_q, zpV_c, zpn_0, zpn_s, zvI_c, zvL_c, zvR_c, zcs_n, zcs_c, zcn_eq, zcn_ne, zcn_lt, zcn_ge, zcn_gt, zcn_le, zrs_n, zrs_s, zrs_x, zpf_0, zpf_1, zpf_2, zpf_3, zfv_0, zfv_1, zfv_2, zfv_3, List.length_cons, List.length_nil, List.nil_append, List.cons_append, List.append_nil, Nat.reduceAdd, Nat.reduceSub, Nat.reduceMul, Nat.reduceLT, Nat.reduceLeDiff, Nat.reduceEqDiff, Nat.reduceBEq, Nat.zero_add, Nat.add_zero, Nat.sub_zero, Nat.zero_le, Nat.le_refl, true_and, and_true, implies_true, forall_const, true_or, or_true, not_true_eq_false, not_false_eq_true, Classical.not_not, false_implies, and_self, ↓reduceIte, reduceCtorEq, exists_eq_left, exists_eq_left', Option.some.injEq, Int.reduceAdd, Int.reduceSub, Int.reduceNeg, List.size_toArray, znc_2, znc_3, znc_4, znc_5, znc_6, znc_7, znc_8, znc_9, znc_10, znc_11, znc_12, znc_13, znc_14, znc_15, znc_16, znc_17, znc_18, znc_19, znc_20, znc_21, znc_22, znc_23, znc_24, znc_25, znc_26, znc_27, znc_28, znc_29, znc_30, znc_31, znc_32, kn_0, kn_1, kn_2, kn_3, kn_4, kn_5, kn_6, kn_7, kn_8, kn_9, kn_10, kn_11, kn_12, kn_13, kn_14, kn_15, kn_16, kn_17, kn_18, kn_19, kn_20, kn_21, kn_22, kn_23, kn_24, kn_25, kn_26, kn_27, kn_28, kn_29, kn_30, kn_31, kn_32, kn_33, kn_34, kn_35, kn_36, kn_37, kn_38, kn_39, kn_40, kzi_0_128, kzi_1_128, kzi_2_128, kzi_3_128, kzi_0_3, kzi_1_3, kzi_2_3, kzi_0_32, kzi_1_32, kzi_2_32, kzi_3_32, kzi_0_10, kzi_1_10, kzi_2_10, kzi_3_10, zte_0, zte_1, zte_2, zte_3, zte_4, zte_5, zte_6, zte_7, zte_8, zte_9, zte_10, zte_11, zte_12, zte_13, zte_14, zte_15, zte_16, dX5_pop_0, dX5_pop_1, dX5_pop_11, dX5_pop_12, dX5_pop_14, dX5_pop_17, dX5_pop_18, dX5_pop_19, dX5_pop_20, dX5_pop_23, dX5_pop_25, dX5_pop_26, dX5_pop_27, dX5_pop_28, dX5_pop_29, dX5_pop_30, dX5_pop_31, dX5_pop_32, dX5_pop_35, dX5_pop_37, dX5_pop_38, dX5_pop_39, dX5_pop_4, dX5_pop_40, dX5_pop_41, dX5_pop_42, dX5_pop_43, dX5_pop_44, dX5_pop_47, dX5_pop_48, dX5_pop_49, dX5_pop_5, dX5_pop_50, dX5_pop_51, dX5_pop_52, dX5_pop_53, dX5_pop_6, dX5_pop_7, dX5_pop_8, jX5_pop_14, jX5_pop_8, kb_32, kc_0, kc_1, kf_0, kf_1, kf_2, mX5_pop_b, mX5_pop_c, mX5_pop_r, mX5_pop_s, zfl_5_9, zw_aload_n, zw_bipush, zw_getfield, zw_iadd, zw_iaload, zw_iastore, zw_iconst, zw_ifCond, zw_if_icmp, zw_iload_n, zw_ireturn, zw_istore_n, zw_isub, k1, k2, k5, k6, zsA_wr, zwr_wr, zwr_A, zup_ap, zwr_S, zwr_K, zwr_N, zwr_I, zwr_L, zwr_P, zwr_B, zwr_R, eq_self]
  have hz : ¬ zA h ca 1 ≤ 0 → ¬ 32 < zA h ca 1 → zin (32 + zA h ca 1 - 1) 128 := fun q1 q2 => by
    rw [Int32.le_iff_toInt_le] at q1
    rw [Int32.lt_iff_toInt_lt] at q2
    have e0 : (0 : Int32).toInt = 0 := by decide
    have e1 : (1 : Int32).toInt = 1 := by decide
    have e32 : (32 : Int32).toInt = 32 := by decide
    have g1 := zadd_toInt (a := 32) (b := zA h ca 1) (by omega) (by omega)
    have g2 := zsub_toInt (a := 32 + zA h ca 1) (b := 1) (by omega) (by omega)
    refine ⟨?_, ?_⟩
    · rw [Int32.le_iff_toInt_le]
      omega
    · show (32 + zA h ca 1 - 1).toInt.toNat < 128
      omega
  have e := zwr_id h ca
  grind [mcPop, mcTop, Int32.not_le]
set_option maxHeartbeats 4000000 in
set_option maxRecDepth 100000 in
theorem s_X5_putOut {l G d a ca oa ta h Q} {v : Int32} (H : zMc h a ca oa ta) (hQ : Q (.inl none) (zwr (zwr h oa (mcOutO (zA h ca) (zA h oa) v)) ca (mcOutC (zA h ca) v))) : zCall l G mX5_putOut d [.ref a, .int v] h Q := by
  obtain ⟨⟨k1, k2, k3, k4⟩, ⟨k5, k6⟩, ⟨k7, k8⟩, ⟨k9, k10⟩, n1, n2, n3⟩ := H
  refine zEnt 5 false mX5_putOut _ _ _ _ [some (.ref a), some (.int v), none] rfl (by decide +kernel) (fun h => by cases h) rfl (Nat.le_of_ble_eq_true rfl) fun X hX => ?_
  refine zrun0 hX 50 ?_
  simp only [zb_s, zm_ok, zgo_c, zstp_n, zstp_c, Bool.false_eq_true, Bool.false_or, Bool.or_false, Bool.true_or, eq_self, kne_10, kne_01, zget_0, zget_s, zst1_0, zst1_1, zst1_s, zst2_0, zst2_1, zst2_s, zht_c, zdl_n, zdl_i, zdl_r, zdl_l, zct_i, zct_r, zct_l, zct_n, zct_q, zpI_c, zpL_c, zpR_c, zpR_q, zpQ_c, zpQ_n, zpQ_q, zpV_c, zpn_0, zpn_s, zvI_c, zvL_c, zvR_c, zcs_n, zcs_c, zcn_eq, zcn_ne, zcn_lt, zcn_ge, zcn_gt, zcn_le, zrs_n, zrs_s, zrs_x, zpf_0, zpf_1, zpf_2, zpf_3, zfv_0, zfv_1, zfv_2, zfv_3, List.length_cons, List.length_nil, List.nil_append, List.cons_append, List.append_nil, Nat.reduceAdd, Nat.reduceSub, Nat.reduceMul, Nat.reduceLT, Nat.reduceLeDiff, Nat.reduceEqDiff, Nat.reduceBEq, Nat.zero_add, Nat.add_zero, Nat.sub_zero, Nat.zero_le, Nat.le_refl, true_and, and_true, implies_true, forall_const, true_or, or_true, not_true_eq_false, not_false_eq_true, Classical.not_not, false_implies, and_self, ↓reduceIte, reduceCtorEq, exists_eq_left, exists_eq_left', Option.some.injEq, Int.reduceAdd, Int.reduceSub, Int.reduceNeg, List.size_toArray, znc_2, znc_3, znc_4, znc_5, znc_6, znc_7, znc_8, znc_9, znc_10, znc_11, znc_12, znc_13, znc_14, znc_15, znc_16, znc_17, znc_18, znc_19, znc_20, znc_21, znc_22, znc_23, znc_24, znc_25, znc_26, znc_27, znc_28, znc_29, znc_30, znc_31, znc_32, kn_0, kn_1, kn_2, kn_3, kn_4, kn_5, kn_6, kn_7, kn_8, kn_9, kn_10, kn_11, kn_12, kn_13, kn_14, kn_15, kn_16, kn_17, kn_18, kn_19, kn_20, kn_21, kn_22, kn_23, kn_24, kn_25, kn_26, kn_27, kn_28, kn_29, kn_30, kn_31, kn_32, kn_33, kn_34, kn_35, kn_36, kn_37, kn_38, kn_39, kn_40, kzi_0_128, kzi_1_128, kzi_2_128, kzi_3_128, kzi_0_3, kzi_1_3, kzi_2_3, kzi_0_32, kzi_1_32, kzi_2_32, kzi_3_32, kzi_0_10, kzi_1_10, kzi_2_10, kzi_3_10, zte_0, zte_1, zte_2, zte_3, zte_4, zte_5, zte_6, zte_7, zte_8, zte_9, zte_10, zte_11, zte_12, zte_13, zte_14, zte_15, zte_16, dX5_putOut_0, dX5_putOut_1, dX5_putOut_11, dX5_putOut_12, dX5_putOut_14, dX5_putOut_17, dX5_putOut_18, dX5_putOut_21, dX5_putOut_22, dX5_putOut_23, dX5_putOut_24, dX5_putOut_25, dX5_putOut_28, dX5_putOut_29, dX5_putOut_30, dX5_putOut_31, dX5_putOut_32, dX5_putOut_33, dX5_putOut_34, dX5_putOut_37, dX5_putOut_38, dX5_putOut_4, dX5_putOut_40, dX5_putOut_41, dX5_putOut_44, dX5_putOut_45, dX5_putOut_46, dX5_putOut_47, dX5_putOut_48, dX5_putOut_49, dX5_putOut_5, dX5_putOut_50, dX5_putOut_6, dX5_putOut_7, dX5_putOut_8, jX5_putOut_14, jX5_putOut_8, kb_10, kb_31, kc_1, kc_2, kc_3, kf_0, kf_1, kf_2, mX5_putOut_b, mX5_putOut_c, mX5_putOut_r, mX5_putOut_s, zfl_5_15, zfl_5_9, zw_aload_n, zw_bipush, zw_getfield, zw_iadd, zw_iaload, zw_iastore, zw_iconst, zw_ifCond, zw_if_icmp, zw_iload_n, zw_imul, zw_istore_n, zw_return_, k1, k2, k3, k5, k6, k7, k8, n1, fun q => n1 (Eq.symm q), zsA_wr, zwr_wr, zwr_A, zup_ap, zwr_S, zwr_K, zwr_N, zwr_I, zwr_L, zwr_P, zwr_B, zwr_R, eq_self]
  have hz : ¬ zA h ca 2 < 0 → zA h ca 2 < 10 → zin (zA h ca 2) 10 := fun q1 q2 => by
    rw [Int32.lt_iff_toInt_lt] at q1 q2
    have e0 : (0 : Int32).toInt = 0 := by decide
    have e10 : (10 : Int32).toInt = 10 := by decide
    refine ⟨?_, ?_⟩
    · rw [Int32.le_iff_toInt_le]
      omega
    · show (zA h ca 2).toInt.toNat < 10
      omega
  have e := zwr_id h oa
  grind [mcOutC, mcOutO, Int32.not_le]
set_option maxHeartbeats 4000000 in
set_option maxRecDepth 100000 in
theorem s_X5_worked {l G d h Q} {k x y : Int32} (hQ : Q (.inl (some (.int (mcWork k x y)))) h) : zCall l G mX5_worked d [.int k, .int x, .int y] h Q := by
  refine zEnt 5 false mX5_worked _ _ _ _ [some (.int k), some (.int x), some (.int y)] rfl (by decide +kernel) (fun h => by cases h) rfl (Nat.le_of_ble_eq_true rfl) fun X hX => ?_
  refine zrun0 hX 50 ?_
  simp only [zb_s, zm_ok, zgo_c, zstp_n, zstp_c, Bool.false_eq_true, Bool.false_or, Bool.or_false, Bool.true_or, eq_self, kne_10, kne_01, zget_0, zget_s, zst1_0, zst1_1, zst1_s, zst2_0, zst2_1, zst2_s, zht_c, zdl_n, zdl_i, zdl_r, zdl_l, zct_i, zct_r, zct_l, zct_n, zct_q, zpI_c, zpL_c, zpR_c, zpR_q, zpQ_c, zpQ_n, zpQ_q, zpV_c, zpn_0, zpn_s, zvI_c, zvL_c, zvR_c, zcs_n, zcs_c, zcn_eq, zcn_ne, zcn_lt, zcn_ge, zcn_gt, zcn_le, zrs_n, zrs_s, zrs_x, zpf_0, zpf_1, zpf_2, zpf_3, zfv_0, zfv_1, zfv_2, zfv_3, List.length_cons, List.length_nil, List.nil_append, List.cons_append, List.append_nil, Nat.reduceAdd, Nat.reduceSub, Nat.reduceMul, Nat.reduceLT, Nat.reduceLeDiff, Nat.reduceEqDiff, Nat.reduceBEq, Nat.zero_add, Nat.add_zero, Nat.sub_zero, Nat.zero_le, Nat.le_refl, true_and, and_true, implies_true, forall_const, true_or, or_true, not_true_eq_false, not_false_eq_true, Classical.not_not, false_implies, and_self, ↓reduceIte, reduceCtorEq, exists_eq_left, exists_eq_left', Option.some.injEq, Int.reduceAdd, Int.reduceSub, Int.reduceNeg, List.size_toArray, znc_2, znc_3, znc_4, znc_5, znc_6, znc_7, znc_8, znc_9, znc_10, znc_11, znc_12, znc_13, znc_14, znc_15, znc_16, znc_17, znc_18, znc_19, znc_20, znc_21, znc_22, znc_23, znc_24, znc_25, znc_26, znc_27, znc_28, znc_29, znc_30, znc_31, znc_32, kn_0, kn_1, kn_2, kn_3, kn_4, kn_5, kn_6, kn_7, kn_8, kn_9, kn_10, kn_11, kn_12, kn_13, kn_14, kn_15, kn_16, kn_17, kn_18, kn_19, kn_20, kn_21, kn_22, kn_23, kn_24, kn_25, kn_26, kn_27, kn_28, kn_29, kn_30, kn_31, kn_32, kn_33, kn_34, kn_35, kn_36, kn_37, kn_38, kn_39, kn_40, kzi_0_128, kzi_1_128, kzi_2_128, kzi_3_128, kzi_0_3, kzi_1_3, kzi_2_3, kzi_0_32, kzi_1_32, kzi_2_32, kzi_3_32, kzi_0_10, kzi_1_10, kzi_2_10, kzi_3_10, zte_0, zte_1, zte_2, zte_3, zte_4, zte_5, zte_6, zte_7, zte_8, zte_9, zte_10, zte_11, zte_12, zte_13, zte_14, zte_15, zte_16, dX5_worked_0, dX5_worked_1, dX5_worked_100, dX5_worked_101, dX5_worked_104, dX5_worked_105, dX5_worked_106, dX5_worked_107, dX5_worked_108, dX5_worked_111, dX5_worked_112, dX5_worked_115, dX5_worked_116, dX5_worked_117, dX5_worked_118, dX5_worked_48, dX5_worked_49, dX5_worked_50, dX5_worked_51, dX5_worked_52, dX5_worked_53, dX5_worked_54, dX5_worked_55, dX5_worked_56, dX5_worked_57, dX5_worked_58, dX5_worked_59, dX5_worked_60, dX5_worked_61, dX5_worked_64, dX5_worked_65, dX5_worked_68, dX5_worked_69, dX5_worked_70, dX5_worked_71, dX5_worked_72, dX5_worked_73, dX5_worked_76, dX5_worked_77, dX5_worked_80, dX5_worked_81, dX5_worked_82, dX5_worked_83, dX5_worked_84, dX5_worked_85, dX5_worked_86, dX5_worked_89, dX5_worked_90, dX5_worked_93, dX5_worked_94, dX5_worked_95, dX5_worked_96, dX5_worked_97, jX5_worked_101, jX5_worked_108, jX5_worked_112, jX5_worked_1_0, jX5_worked_1_1, jX5_worked_1_2, jX5_worked_1_3, jX5_worked_1_4, jX5_worked_1_5, jX5_worked_1_6, jX5_worked_1_7, jX5_worked_1_8, jX5_worked_61, jX5_worked_65, jX5_worked_73, jX5_worked_77, jX5_worked_86, jX5_worked_90, jX5_worked_97, kc_0, kc_1, kf_0, kf_1, kf_2, mX5_worked_b, mX5_worked_c, mX5_worked_r, mX5_worked_s, ztb_c, ztb_n, zw_goto, zw_iadd, zw_iconst, zw_idiv, zw_ifCond, zw_if_icmp, zw_iload_n, zw_imul, zw_irem, zw_ireturn, zw_isub, zw_tableswitch]
  have h0 : k.toInt < 6 ∨ 13 < k.toInt → ∀ j : Int32, 6 ≤ j.toInt → j.toInt ≤ 13 → ¬ k = j := by
    rintro hk j h1 h2 rfl
    omega
  have q6 := fun hk => h0 hk 6 (by decide) (by decide)
  have q7 := fun hk => h0 hk 7 (by decide) (by decide)
  have q8 := fun hk => h0 hk 8 (by decide) (by decide)
  have q9 := fun hk => h0 hk 9 (by decide) (by decide)
  have q10 := fun hk => h0 hk 10 (by decide) (by decide)
  have q11 := fun hk => h0 hk 11 (by decide) (by decide)
  have q12 := fun hk => h0 hk 12 (by decide) (by decide)
  have q13 := fun hk => h0 hk 13 (by decide) (by decide)
  unfold mcWork at hQ
  refine ⟨fun c => ?_, fun c => ?_, fun c => ?_, fun c => ?_, fun c => ?_, fun c => ?_, fun c => ?_, fun c => ?_, fun c => ?_⟩
  · rw [if_neg (q6 c), if_neg (q7 c), if_neg (q8 c), if_neg (q9 c), if_neg (q10 c), if_neg (q11 c), if_neg (q12 c), if_neg (q13 c)] at hQ
    exact hQ
  all_goals subst c
  · exact hQ
  · exact hQ
  · exact hQ
  · grind
  · grind
  · grind [zt, Int32.not_le]
  · grind [zt, Int32.not_le]
  · grind [zt]
set_option maxHeartbeats 4000000 in
set_option maxRecDepth 100000 in
theorem s_X5_forget {l G d a h Q} (k1 : zK h a = 5) (hQ : Q (.inl none) (zsP h a 403 none)) : zCall l G mX5_forget d [.ref a] h Q := by
  refine zEnt 5 false mX5_forget _ _ _ _ [some (.ref a)] rfl (by decide +kernel) (fun h => by cases h) rfl (Nat.le_of_ble_eq_true rfl) fun X hX => ?_
  refine zrun0 hX 50 ?_
  simp only [zb_s, zm_ok, zgo_c, zstp_n, zstp_c, Bool.false_eq_true, Bool.false_or, Bool.or_false, Bool.true_or, eq_self, kne_10, kne_01, zget_0, zget_s, zst1_0, zst1_1, zst1_s, zst2_0, zst2_1, zst2_s, zht_c, zdl_n, zdl_i, zdl_r, zdl_l, zct_i, zct_r, zct_l, zct_n, zct_q, zpI_c, zpL_c, zpR_c, zpR_q, zpQ_c, zpQ_n, zpQ_q, zpV_c, zpn_0, zpn_s, zvI_c, zvL_c, zvR_c, zcs_n, zcs_c, zcn_eq, zcn_ne, zcn_lt, zcn_ge, zcn_gt, zcn_le, zrs_n, zrs_s, zrs_x, zpf_0, zpf_1, zpf_2, zpf_3, zfv_0, zfv_1, zfv_2, zfv_3, List.length_cons, List.length_nil, List.nil_append, List.cons_append, List.append_nil, Nat.reduceAdd, Nat.reduceSub, Nat.reduceMul, Nat.reduceLT, Nat.reduceLeDiff, Nat.reduceEqDiff, Nat.reduceBEq, Nat.zero_add, Nat.add_zero, Nat.sub_zero, Nat.zero_le, Nat.le_refl, true_and, and_true, implies_true, forall_const, true_or, or_true, not_true_eq_false, not_false_eq_true, Classical.not_not, false_implies, and_self, ↓reduceIte, reduceCtorEq, exists_eq_left, exists_eq_left', Option.some.injEq, Int.reduceAdd, Int.reduceSub, Int.reduceNeg, List.size_toArray, znc_2, znc_3, znc_4, znc_5, znc_6, znc_7, znc_8, znc_9, znc_10, znc_11, znc_12, znc_13, znc_14, znc_15, znc_16, znc_17, znc_18, znc_19, znc_20, znc_21, znc_22, znc_23, znc_24, znc_25, znc_26, znc_27, znc_28, znc_29, znc_30, znc_31, znc_32, kn_0, kn_1, kn_2, kn_3, kn_4, kn_5, kn_6, kn_7, kn_8, kn_9, kn_10, kn_11, kn_12, kn_13, kn_14, kn_15, kn_16, kn_17, kn_18, kn_19, kn_20, kn_21, kn_22, kn_23, kn_24, kn_25, kn_26, kn_27, kn_28, kn_29, kn_30, kn_31, kn_32, kn_33, kn_34, kn_35, kn_36, kn_37, kn_38, kn_39, kn_40, kzi_0_128, kzi_1_128, kzi_2_128, kzi_3_128, kzi_0_3, kzi_1_3, kzi_2_3, kzi_0_32, kzi_1_32, kzi_2_32, kzi_3_32, kzi_0_10, kzi_1_10, kzi_2_10, kzi_3_10, zte_0, zte_1, zte_2, zte_3, zte_4, zte_5, zte_6, zte_7, zte_8, zte_9, zte_10, zte_11, zte_12, zte_13, zte_14, zte_15, zte_16, dX5_forget_0, dX5_forget_1, dX5_forget_2, dX5_forget_5, kf_0, mX5_forget_b, mX5_forget_c, mX5_forget_r, mX5_forget_s, zfl_5_21, zw_aconst_null, zw_aload_n, zw_putfield, zw_return_, k1, hQ]
