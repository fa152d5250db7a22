/-! A MACHINE CLEARED, A TASK SHOWN -/
def zz : zcells := fun _ => 0
theorem zrow_full {n : Nat} {f : zcells} (h : ∀ j, n ≤ j → f j = 0) : zrow n zz f = zz := by
  funext j
  unfold zrow zz
  by_cases e : j < n
  · rw [if_pos e]
  · rw [if_neg e]
    exact h j (by omega)
theorem zup_row (i : Nat) (f : zcells) : zup (zrow i zz f) i 0 = zrow (i + 1) zz f := zrow_s i zz f
set_option maxHeartbeats 4000000 in
set_option maxRecDepth 100000 in
theorem s_X5_clear {l G d a ca oa ta h Q} (H : zMc h a ca oa ta) (j1 : ∀ j, 128 ≤ j → zA h ca j = 0) (j2 : ∀ j, 10 ≤ j → zA h oa j = 0) (hQ : Q (.inl none) (zmd h a ca oa (zz, zz) 0)) : zCall l G mX5_clear d [.ref a] h Q := by
  obtain ⟨⟨k1, k2, k3, k4⟩, ⟨k5, k6⟩, ⟨k7, k8⟩, ⟨k9, k10⟩, n1, n2, n3⟩ := H
  refine zEnt 5 false mX5_clear _ _ _ _ [some (.ref a), none] rfl (by decide +kernel) (fun h => by cases h) rfl (Nat.le_of_ble_eq_true rfl) fun X hX => ?_
  have f1 : ∀ C O, zK (zmo h ca oa C O) = zK h := fun _ _ => rfl
  have f2 : ∀ C O, zP (zmo h ca oa C O) = zP h := fun _ _ => rfl
  have f3 : ∀ C O, zN (zmo h ca oa C O) = zN h := fun _ _ => rfl
  have L2 : ∀ (f i : Nat), i + f = 10 → zJ l G X 24 [some (.ref a), some (.int (nI i))] [] (zmo h ca oa zz (zrow i zz (zA h oa))) 0 0 := by
    intro f
    induction f with
    | zero =>
      intro i hi
      have hc : (10 ≤ nI i) = True := eq_true (by rw [show i = 10 by omega]; decide)
      refine zrunS hX [24] 40 ?_
      simp only [zb_s, zm_ok, zgo_c, zstp_n, zstp_c, Bool.false_eq_true, Bool.false_or, Bool.or_false, Bool.true_or, eq_self, kne_10, kne_01, zget_0, zget_s, zst1_0, zst1_1, zst1_s, zst2_0, zst2_1, zst2_s, zht_c, zdl_n, zdl_i, zdl_r, zdl_l, zct_i, zct_r, zct_l, zct_n, zct_q, zpI_c, zpL_c, zpR_c, zpR_q, zpQ_c, zpQ_n, zpQ_q, zpV_c, zpn_0, zpn_s, zvI_c, zvL_c, zvR_c, zcs_n, zcs_c, zcn_eq, zcn_ne, zcn_lt, zcn_ge, zcn_gt, zcn_le, zrs_n, zrs_s, zrs_x, zpf_0, zpf_1, zpf_2, zpf_3, zfv_0, zfv_1, zfv_2, zfv_3, List.length_cons, List.length_nil, List.nil_append, List.cons_append, List.append_nil, Nat.reduceAdd, Nat.reduceSub, Nat.reduceMul, Nat.reduceLT, Nat.reduceLeDiff, Nat.reduceEqDiff, Nat.reduceBEq, Nat.zero_add, Nat.add_zero, Nat.sub_zero, Nat.zero_le, Nat.le_refl, true_and, and_true, implies_true, forall_const, true_or, or_true, not_true_eq_false, not_false_eq_true, Classical.not_not, false_implies, and_self, ↓reduceIte, reduceCtorEq, exists_eq_left, exists_eq_left', Option.some.injEq, Int.reduceAdd, Int.reduceSub, Int.reduceNeg, List.size_toArray, znc_2, znc_3, znc_4, znc_5, znc_6, znc_7, znc_8, znc_9, znc_10, znc_11, znc_12, znc_13, znc_14, znc_15, znc_16, znc_17, znc_18, znc_19, znc_20, znc_21, znc_22, znc_23, znc_24, znc_25, znc_26, znc_27, znc_28, znc_29, znc_30, znc_31, znc_32, kn_0, kn_1, kn_2, kn_3, kn_4, kn_5, kn_6, kn_7, kn_8, kn_9, kn_10, kn_11, kn_12, kn_13, kn_14, kn_15, kn_16, kn_17, kn_18, kn_19, kn_20, kn_21, kn_22, kn_23, kn_24, kn_25, kn_26, kn_27, kn_28, kn_29, kn_30, kn_31, kn_32, kn_33, kn_34, kn_35, kn_36, kn_37, kn_38, kn_39, kn_40, kzi_0_128, kzi_1_128, kzi_2_128, kzi_3_128, kzi_0_3, kzi_1_3, kzi_2_3, kzi_0_32, kzi_1_32, kzi_2_32, kzi_3_32, kzi_0_10, kzi_1_10, kzi_2_10, kzi_3_10, zte_0, zte_1, zte_2, zte_3, zte_4, zte_5, zte_6, zte_7, zte_8, zte_9, zte_10, zte_11, zte_12, zte_13, zte_14, zte_15, zte_16, dX5_clear_0, dX5_clear_1, dX5_clear_10, dX5_clear_13, dX5_clear_14, dX5_clear_15, dX5_clear_16, dX5_clear_19, dX5_clear_2, dX5_clear_22, dX5_clear_23, dX5_clear_24, dX5_clear_25, dX5_clear_27, dX5_clear_3, dX5_clear_30, dX5_clear_31, dX5_clear_34, dX5_clear_35, dX5_clear_36, dX5_clear_37, dX5_clear_40, dX5_clear_43, dX5_clear_44, dX5_clear_45, dX5_clear_48, dX5_clear_6, dX5_clear_9, jX5_clear_19, jX5_clear_27, jX5_clear_40, jX5_clear_6, kb_10, kc_0, kc_1, kf_0, kf_1, ks_128, mX5_clear_b, mX5_clear_c, mX5_clear_r, mX5_clear_s, zfl_5_15, zfl_5_25, zfl_5_9, zw_aload_n, zw_bipush, zw_getfield, zw_goto, zw_iastore, zw_iconst, zw_if_icmp, zw_iinc, zw_iload_n, zw_istore_n, zw_putfield, zw_return_, zw_sipush, hc, f1, k1]
      rw [show i = 10 by omega, zrow_full j2]
      exact hQ
    | succ f ih =>
      intro i hi
      have hc : (10 ≤ nI i) = False := eq_false (nI_ge (a := i) (b := 10) (by omega) (by omega))
      have hz : zin (nI i) 10 = True := eq_true (zin_nI (by omega) (by omega))
      refine zrunS hX [24] 40 ?_
      simp only [zb_s, zm_ok, zgo_c, zstp_n, zstp_c, Bool.false_eq_true, Bool.false_or, Bool.or_false, Bool.true_or, eq_self, kne_10, kne_01, zget_0, zget_s, zst1_0, zst1_1, zst1_s, zst2_0, zst2_1, zst2_s, zht_c, zdl_n, zdl_i, zdl_r, zdl_l, zct_i, zct_r, zct_l, zct_n, zct_q, zpI_c, zpL_c, zpR_c, zpR_q, zpQ_c, zpQ_n, zpQ_q, zpV_c, zpn_0, zpn_s, zvI_c, zvL_c, zvR_c, zcs_n, zcs_c, zcn_eq, zcn_ne, zcn_lt, zcn_ge, zcn_gt, zcn_le, zrs_n, zrs_s, zrs_x, zpf_0, zpf_1, zpf_2, zpf_3, zfv_0, zfv_1, zfv_2, zfv_3, List.length_cons, List.length_nil, List.nil_append, List.cons_append, List.append_nil, Nat.reduceAdd, Nat.reduceSub, Nat.reduceMul, Nat.reduceLT, Nat.reduceLeDiff, Nat.reduceEqDiff, Nat.reduceBEq, Nat.zero_add, Nat.add_zero, Nat.sub_zero, Nat.zero_le, Nat.le_refl, true_and, and_true, implies_true, forall_const, true_or, or_true, not_true_eq_false, not_false_eq_true, Classical.not_not, false_implies, and_self, ↓reduceIte, reduceCtorEq, exists_eq_left, exists_eq_left', Option.some.injEq, Int.reduceAdd, Int.reduceSub, Int.reduceNeg, List.size_toArray, znc_2, znc_3, znc_4, znc_5, znc_6, znc_7, znc_8, znc_9, znc_10, znc_11, znc_12, znc_13, znc_14, znc_15, znc_16, znc_17, znc_18, znc_19, znc_20, znc_21, znc_22, znc_23, znc_24, znc_25, znc_26, znc_27, znc_28, znc_29, znc_30, znc_31, znc_32, kn_0, kn_1, kn_2, kn_3, kn_4, kn_5, kn_6, kn_7, kn_8, kn_9, kn_10, kn_11, kn_12, kn_13, kn_14, kn_15, kn_16, kn_17, kn_18, kn_19, kn_20, kn_21, kn_22, kn_23, kn_24, kn_25, kn_26, kn_27, kn_28, kn_29, kn_30, kn_31, kn_32, kn_33, kn_34, kn_35, kn_36, kn_37, kn_38, kn_39, kn_40, kzi_0_128, kzi_1_128, kzi_2_128, kzi_3_128, kzi_0_3, kzi_1_3, kzi_2_3, kzi_0_32, kzi_1_32, kzi_2_32, kzi_3_32, kzi_0_10, kzi_1_10, kzi_2_10, kzi_3_10, zte_0, zte_1, zte_2, zte_3, zte_4, zte_5, zte_6, zte_7, zte_8, zte_9, zte_10, zte_11, zte_12, zte_13, zte_14, zte_15, zte_16, dX5_clear_0, dX5_clear_1, dX5_clear_10, dX5_clear_13, dX5_clear_14, dX5_clear_15, dX5_clear_16, dX5_clear_19, dX5_clear_2, dX5_clear_22, dX5_clear_23, dX5_clear_24, dX5_clear_25, dX5_clear_27, dX5_clear_3, dX5_clear_30, dX5_clear_31, dX5_clear_34, dX5_clear_35, dX5_clear_36, dX5_clear_37, dX5_clear_40, dX5_clear_43, dX5_clear_44, dX5_clear_45, dX5_clear_48, dX5_clear_6, dX5_clear_9, jX5_clear_19, jX5_clear_27, jX5_clear_40, jX5_clear_6, kb_10, kc_0, kc_1, kf_0, kf_1, ks_128, mX5_clear_b, mX5_clear_c, mX5_clear_r, mX5_clear_s, zfl_5_15, zfl_5_25, zfl_5_9, zw_aload_n, zw_bipush, zw_getfield, zw_goto, zw_iastore, zw_iconst, zw_if_icmp, zw_iinc, zw_iload_n, zw_istore_n, zw_putfield, zw_return_, zw_sipush, hc, f1, f2, f3, k1, k3, k7, k8, hz, nI_clamp (show i < 2 ^ 31 by omega), zsA_wr, zmo_o, zmo_wo, zup_row, ← nI_succ]
      exact ih (i + 1) (by omega)
  have L1 : ∀ (f i : Nat), i + f = 128 → zJ l G X 2 [some (.ref a), some (.int (nI i))] [] (zmo h ca oa (zrow i zz (zA h ca)) (zA h oa)) 0 0 := by
    intro f
    induction f with
    | zero =>
      intro i hi
      have hc : (128 ≤ nI i) = True := eq_true (by rw [show i = 128 by omega]; decide)
      refine zrunS hX [2, 24] 40 ?_
      simp only [zb_s, zm_ok, zgo_c, zstp_n, zstp_c, Bool.false_eq_true, Bool.false_or, Bool.or_false, Bool.true_or, eq_self, kne_10, kne_01, zget_0, zget_s, zst1_0, zst1_1, zst1_s, zst2_0, zst2_1, zst2_s, zht_c, zdl_n, zdl_i, zdl_r, zdl_l, zct_i, zct_r, zct_l, zct_n, zct_q, zpI_c, zpL_c, zpR_c, zpR_q, zpQ_c, zpQ_n, zpQ_q, zpV_c, zpn_0, zpn_s, zvI_c, zvL_c, zvR_c, zcs_n, zcs_c, zcn_eq, zcn_ne, zcn_lt, zcn_ge, zcn_gt, zcn_le, zrs_n, zrs_s, zrs_x, zpf_0, zpf_1, zpf_2, zpf_3, zfv_0, zfv_1, zfv_2, zfv_3, List.length_cons, List.length_nil, List.nil_append, List.cons_append, List.append_nil, Nat.reduceAdd, Nat.reduceSub, Nat.reduceMul, Nat.reduceLT, Nat.reduceLeDiff, Nat.reduceEqDiff, Nat.reduceBEq, Nat.zero_add, Nat.add_zero, Nat.sub_zero, Nat.zero_le, Nat.le_refl, true_and, and_true, implies_true, forall_const, true_or, or_true, not_true_eq_false, not_false_eq_true, Classical.not_not, false_implies, and_self, ↓reduceIte, reduceCtorEq, exists_eq_left, exists_eq_left', Option.some.injEq, Int.reduceAdd, Int.reduceSub, Int.reduceNeg, List.size_toArray, znc_2, znc_3, znc_4, znc_5, znc_6, znc_7, znc_8, znc_9, znc_10, znc_11, znc_12, znc_13, znc_14, znc_15, znc_16, znc_17, znc_18, znc_19, znc_20, znc_21, znc_22, znc_23, znc_24, znc_25, znc_26, znc_27, znc_28, znc_29, znc_30, znc_31, znc_32, kn_0, kn_1, kn_2, kn_3, kn_4, kn_5, kn_6, kn_7, kn_8, kn_9, kn_10, kn_11, kn_12, kn_13, kn_14, kn_15, kn_16, kn_17, kn_18, kn_19, kn_20, kn_21, kn_22, kn_23, kn_24, kn_25, kn_26, kn_27, kn_28, kn_29, kn_30, kn_31, kn_32, kn_33, kn_34, kn_35, kn_36, kn_37, kn_38, kn_39, kn_40, kzi_0_128, kzi_1_128, kzi_2_128, kzi_3_128, kzi_0_3, kzi_1_3, kzi_2_3, kzi_0_32, kzi_1_32, kzi_2_32, kzi_3_32, kzi_0_10, kzi_1_10, kzi_2_10, kzi_3_10, zte_0, zte_1, zte_2, zte_3, zte_4, zte_5, zte_6, zte_7, zte_8, zte_9, zte_10, zte_11, zte_12, zte_13, zte_14, zte_15, zte_16, dX5_clear_0, dX5_clear_1, dX5_clear_10, dX5_clear_13, dX5_clear_14, dX5_clear_15, dX5_clear_16, dX5_clear_19, dX5_clear_2, dX5_clear_22, dX5_clear_23, dX5_clear_24, dX5_clear_25, dX5_clear_27, dX5_clear_3, dX5_clear_30, dX5_clear_31, dX5_clear_34, dX5_clear_35, dX5_clear_36, dX5_clear_37, dX5_clear_40, dX5_clear_43, dX5_clear_44, dX5_clear_45, dX5_clear_48, dX5_clear_6, dX5_clear_9, jX5_clear_19, jX5_clear_27, jX5_clear_40, jX5_clear_6, kb_10, kc_0, kc_1, kf_0, kf_1, ks_128, mX5_clear_b, mX5_clear_c, mX5_clear_r, mX5_clear_s, zfl_5_15, zfl_5_25, zfl_5_9, zw_aload_n, zw_bipush, zw_getfield, zw_goto, zw_iastore, zw_iconst, zw_if_icmp, zw_iinc, zw_iload_n, zw_istore_n, zw_putfield, zw_return_, zw_sipush, hc, f1, k1]
      have := L2 10 0 rfl
      rw [zrow_0] at this
      rw [show i = 128 by omega, zrow_full j1]
      exact this
    | succ f ih =>
      intro i hi
      have hc : (128 ≤ nI i) = False := eq_false (nI_ge (a := i) (b := 128) (by omega) (by omega))
      have hz : zin (nI i) 128 = True := eq_true (zin_nI (by omega) (by omega))
      refine zrunS hX [2, 24] 40 ?_
      simp only [zb_s, zm_ok, zgo_c, zstp_n, zstp_c, Bool.false_eq_true, Bool.false_or, Bool.or_false, Bool.true_or, eq_self, kne_10, kne_01, zget_0, zget_s, zst1_0, zst1_1, zst1_s, zst2_0, zst2_1, zst2_s, zht_c, zdl_n, zdl_i, zdl_r, zdl_l, zct_i, zct_r, zct_l, zct_n, zct_q, zpI_c, zpL_c, zpR_c, zpR_q, zpQ_c, zpQ_n, zpQ_q, zpV_c, zpn_0, zpn_s, zvI_c, zvL_c, zvR_c, zcs_n, zcs_c, zcn_eq, zcn_ne, zcn_lt, zcn_ge, zcn_gt, zcn_le, zrs_n, zrs_s, zrs_x, zpf_0, zpf_1, zpf_2, zpf_3, zfv_0, zfv_1, zfv_2, zfv_3, List.length_cons, List.length_nil, List.nil_append, List.cons_append, List.append_nil, Nat.reduceAdd, Nat.reduceSub, Nat.reduceMul, Nat.reduceLT, Nat.reduceLeDiff, Nat.reduceEqDiff, Nat.reduceBEq, Nat.zero_add, Nat.add_zero, Nat.sub_zero, Nat.zero_le, Nat.le_refl, true_and, and_true, implies_true, forall_const, true_or, or_true, not_true_eq_false, not_false_eq_true, Classical.not_not, false_implies, and_self, ↓reduceIte, reduceCtorEq, exists_eq_left, exists_eq_left', Option.some.injEq, Int.reduceAdd, Int.reduceSub, Int.reduceNeg, List.size_toArray, znc_2, znc_3, znc_4, znc_5, znc_6, znc_7, znc_8, znc_9, znc_10, znc_11, znc_12, znc_13, znc_14, znc_15, znc_16, znc_17, znc_18, znc_19, znc_20, znc_21, znc_22, znc_23, znc_24, znc_25, znc_26, znc_27, znc_28, znc_29, znc_30, znc_31, znc_32, kn_0, kn_1, kn_2, kn_3, kn_4, kn_5, kn_6, kn_7, kn_8, kn_9, kn_10, kn_11, kn_12, kn_13, kn_14, kn_15, kn_16, kn_17, kn_18, kn_19, kn_20, kn_21, kn_22, kn_23, kn_24, kn_25, kn_26, kn_27, kn_28, kn_29, kn_30, kn_31, kn_32, kn_33, kn_34, kn_35, kn_36, kn_37, kn_38, kn_39, kn_40, kzi_0_128, kzi_1_128, kzi_2_128, kzi_3_128, kzi_0_3, kzi_1_3, kzi_2_3, kzi_0_32, kzi_1_32, kzi_2_32, kzi_3_32, kzi_0_10, kzi_1_10, kzi_2_10, kzi_3_10, zte_0, zte_1, zte_2, zte_3, zte_4, zte_5, zte_6, zte_7, zte_8, zte_9, zte_10, zte_11, zte_12, zte_13, zte_14, zte_15, zte_16, dX5_clear_0, dX5_clear_1, dX5_clear_10, dX5_clear_13, dX5_clear_14, dX5_clear_15, dX5_clear_16, dX5_clear_19, dX5_clear_2, dX5_clear_22, dX5_clear_23, dX5_clear_24, dX5_clear_25, dX5_clear_27, dX5_clear_3, dX5_clear_30, dX5_clear_31, dX5_clear_34, dX5_clear_35, dX5_clear_36, dX5_clear_37, dX5_clear_40, dX5_clear_43, dX5_clear_44, dX5_clear_45, dX5_clear_48, dX5_clear_6, dX5_clear_9, jX5_clear_19, jX5_clear_27, jX5_clear_40, jX5_clear_6, kb_10, kc_0, kc_1, kf_0, kf_1, ks_128, mX5_clear_b, mX5_clear_c, mX5_clear_r, mX5_clear_s, zfl_5_15, zfl_5_25, zfl_5_9, zw_aload_n, zw_bipush, zw_getfield, zw_goto, zw_iastore, zw_iconst, zw_if_icmp, zw_iinc, zw_iload_n, zw_istore_n, zw_putfield, zw_return_, zw_sipush, hc, f1, f2, f3, k1, k2, k5, k6, hz, nI_clamp (show i < 2 ^ 31 by omega), zsA_wr, zmo_c n1, zmo_wc n1, zup_row, ← nI_succ]
      exact ih (i + 1) (by omega)
  refine zrunS hX [2] 40 ?_
  simp only [zb_s, zm_ok, zgo_c, zstp_n, zstp_c, Bool.false_eq_true, Bool.false_or, Bool.or_false, Bool.true_or, eq_self, kne_10, kne_01, zget_0, zget_s, zst1_0, zst1_1, zst1_s, zst2_0, zst2_1, zst2_s, zht_c, zdl_n, zdl_i, zdl_r, zdl_l, zct_i, zct_r, zct_l, zct_n, zct_q, zpI_c, zpL_c, zpR_c, zpR_q, zpQ_c, zpQ_n, zpQ_q, zpV_c, zpn_0, zpn_s, zvI_c, zvL_c, zvR_c, zcs_n, zcs_c, zcn_eq, zcn_ne, zcn_lt, zcn_ge, zcn_gt, zcn_le, zrs_n, zrs_s, zrs_x, zpf_0, zpf_1, zpf_2, zpf_3, zfv_0, zfv_1, zfv_2, zfv_3, List.length_cons, List.length_nil, List.nil_append, List.cons_append, List.append_nil, Nat.reduceAdd, Nat.reduceSub, Nat.reduceMul, Nat.reduceLT, Nat.reduceLeDiff, Nat.reduceEqDiff, Nat.reduceBEq, Nat.zero_add, Nat.add_zero, Nat.sub_zero, Nat.zero_le, Nat.le_refl, true_and, and_true, implies_true, forall_const, true_or, or_true, not_true_eq_false, not_false_eq_true, Classical.not_not, false_implies, and_self, ↓reduceIte, reduceCtorEq, exists_eq_left, exists_eq_left', Option.some.injEq, Int.reduceAdd, Int.reduceSub, Int.reduceNeg, List.size_toArray, znc_2, znc_3, znc_4, znc_5, znc_6, znc_7, znc_8, znc_9, znc_10, znc_11, znc_12, znc_13, znc_14, znc_15, znc_16, znc_17, znc_18, znc_19, znc_20, znc_21, znc_22, znc_23, znc_24, znc_25, znc_26, znc_27, znc_28, znc_29, znc_30, znc_31, znc_32, kn_0, kn_1, kn_2, kn_3, kn_4, kn_5, kn_6, kn_7, kn_8, kn_9, kn_10, kn_11, kn_12, kn_13, kn_14, kn_15, kn_16, kn_17, kn_18, kn_19, kn_20, kn_21, kn_22, kn_23, kn_24, kn_25, kn_26, kn_27, kn_28, kn_29, kn_30, kn_31, kn_32, kn_33, kn_34, kn_35, kn_36, kn_37, kn_38, kn_39, kn_40, kzi_0_128, kzi_1_128, kzi_2_128, kzi_3_128, kzi_0_3, kzi_1_3, kzi_2_3, kzi_0_32, kzi_1_32, kzi_2_32, kzi_3_32, kzi_0_10, kzi_1_10, kzi_2_10, kzi_3_10, zte_0, zte_1, zte_2, zte_3, zte_4, zte_5, zte_6, zte_7, zte_8, zte_9, zte_10, zte_11, zte_12, zte_13, zte_14, zte_15, zte_16, dX5_clear_0, dX5_clear_1, dX5_clear_10, dX5_clear_13, dX5_clear_14, dX5_clear_15, dX5_clear_16, dX5_clear_19, dX5_clear_2, dX5_clear_22, dX5_clear_23, dX5_clear_24, dX5_clear_25, dX5_clear_27, dX5_clear_3, dX5_clear_30, dX5_clear_31, dX5_clear_34, dX5_clear_35, dX5_clear_36, dX5_clear_37, dX5_clear_40, dX5_clear_43, dX5_clear_44, dX5_clear_45, dX5_clear_48, dX5_clear_6, dX5_clear_9, jX5_clear_19, jX5_clear_27, jX5_clear_40, jX5_clear_6, kb_10, kc_0, kc_1, kf_0, kf_1, ks_128, mX5_clear_b, mX5_clear_c, mX5_clear_r, mX5_clear_s, zfl_5_15, zfl_5_25, zfl_5_9, zw_aload_n, zw_bipush, zw_getfield, zw_goto, zw_iastore, zw_iconst, zw_if_icmp, zw_iinc, zw_iload_n, zw_istore_n, zw_putfield, zw_return_, zw_sipush, f1, k1]
  have := L1 128 0 rfl
  rw [zrow_0, zmo_id] at this
  exact this
theorem zCall_h {l G y d as Q} {h h' : zH} (e : h = h') (k : zCall l G y d as h' Q) : zCall l G y d as h Q := e ▸ k
theorem zmd_K (h a ca oa S k) : zK (zmd h a ca oa S k) = zK h := by unfold zmd zmo; simp only [zK_sI, zwr_K]
theorem zmd_P (h a ca oa S k) : zP (zmd h a ca oa S k) = zP h := by unfold zmd zmo; simp only [zP_sI, zwr_P]
theorem zmd_N (h a ca oa S k) : zN (zmd h a ca oa S k) = zN h := by unfold zmd zmo; simp only [zN_sI, zwr_N]
theorem zmd_A (h a ca oa S k) : zA (zmd h a ca oa S k) = zA (zmo h ca oa S.1 S.2) := by unfold zmd; simp only [zA_sI]
theorem zmd_I (h a ca oa S k) (b j : Nat) : zI (zmd h a ca oa S k) b j = if b = a ∧ j = 404 then nI k else zI h b j := by unfold zmd zmo; simp only [zI_sI, zwr_I]
theorem zmd_wc {h a ca oa S k D} (n1 : ¬ ca = oa) : zwr (zmd h a ca oa S k) ca D = zmd h a ca oa (D, S.2) k := by unfold zmd; rw [zwr_sI, zmo_wc n1]
theorem zsP_sI (h : zH) (a k : Nat) (v : Int32) (b j : Nat) (w : Option Nat) : zsP (zsI h a k v) b j w = zsI (zsP h b j w) a k v := by
  refine zH_ext ?_ ?_ ?_ (funext fun x => funext fun y => ?_) ?_ (funext fun x => funext fun y => ?_) ?_ ?_ ?_ <;> simp only [zS_sS, zS_sI, zS_sL, zS_sP, zS_sA, zS_sB, zS_sR, zS_al, zK_sS, zK_sI, zK_sL, zK_sP, zK_sA, zK_sB, zK_sR, zK_al, zN_sS, zN_sI, zN_sL, zN_sP, zN_sA, zN_sB, zN_sR, zN_al, zI_sS, zI_sI, zI_sL, zI_sP, zI_sA, zI_sB, zI_sR, zI_al, zL_sS, zL_sI, zL_sL, zL_sP, zL_sA, zL_sB, zL_sR, zL_al, zP_sS, zP_sI, zP_sL, zP_sP, zP_sA, zP_sB, zP_sR, zP_al, zA_sS, zA_sI, zA_sL, zA_sP, zA_sA, zA_sB, zA_sR, zA_al, zB_sS, zB_sI, zB_sL, zB_sP, zB_sA, zB_sB, zB_sR, zB_al, zR_sS, zR_sI, zR_sL, zR_sP, zR_sA, zR_sB, zR_sR, zR_al]
theorem zsP_wr (h : zH) (a : Nat) (f : zcells) (b j : Nat) (w : Option Nat) : zsP (zwr h a f) b j w = zwr (zsP h b j w) a f := by
  refine zH_ext ?_ ?_ ?_ ?_ ?_ (funext fun x => funext fun y => ?_) (funext fun x => ?_) ?_ ?_ <;> simp only [zS_sS, zS_sI, zS_sL, zS_sP, zS_sA, zS_sB, zS_sR, zS_al, zK_sS, zK_sI, zK_sL, zK_sP, zK_sA, zK_sB, zK_sR, zK_al, zN_sS, zN_sI, zN_sL, zN_sP, zN_sA, zN_sB, zN_sR, zN_al, zI_sS, zI_sI, zI_sL, zI_sP, zI_sA, zI_sB, zI_sR, zI_al, zL_sS, zL_sI, zL_sL, zL_sP, zL_sA, zL_sB, zL_sR, zL_al, zP_sS, zP_sI, zP_sL, zP_sP, zP_sA, zP_sB, zP_sR, zP_al, zA_sS, zA_sI, zA_sL, zA_sP, zA_sA, zA_sB, zA_sR, zA_al, zB_sS, zB_sI, zB_sL, zB_sP, zB_sA, zB_sB, zB_sR, zB_al, zR_sS, zR_sI, zR_sL, zR_sP, zR_sA, zR_sB, zR_sR, zR_al, zsA_wr, zwr_wr, zwr_A, zup_ap, zwr_S, zwr_K, zwr_N, zwr_I, zwr_L, zwr_P, zwr_B, zwr_R, eq_self]
theorem zsP_md (h a ca oa S k) (b j : Nat) (w : Option Nat) : zsP (zmd h a ca oa S k) b j w = zmd (zsP h b j w) a ca oa S k := by
  unfold zmd zmo
  rw [zsP_sI, zsP_wr, zsP_wr]
/-- a task's first state -/
def mcInit (mem : zcells) : zcells := fun j => if 64 ≤ j ∧ j < 128 then mem (j - 64) else 0
def mcPart (i : Nat) (mem : zcells) : zcells := fun j => if 64 ≤ j ∧ j < 64 + i then mem (j - 64) else 0
theorem mcPart_0 (mem : zcells) : mcPart 0 mem = zz := funext fun j => if_neg (by omega)
theorem mcPart_f (mem : zcells) : mcPart 64 mem = mcInit mem := rfl
theorem mcPart_s (i : Nat) (mem : zcells) : zup (mcPart i mem) (64 + i) (mem i) = mcPart (i + 1) mem := by
  funext j
  unfold zup mcPart
  by_cases e : j = 64 + i
  · subst e
    rw [if_pos rfl, if_pos (by omega), show 64 + i - 64 = i by omega]
  · rw [if_neg e]
    by_cases e2 : 64 ≤ j ∧ j < 64 + i
    · rw [if_pos e2, if_pos (by omega)]
    · rw [if_neg e2, if_neg (by omega)]
theorem mcRun_le (kd nb : zcells) (n : Int32) : ∀ (f : Nat) (S : zcells × zcells), (mcRun kd nb n f S).2 ≤ f
  | 0, _ => Nat.le_refl _
  | f + 1, S => by
    unfold mcRun
    split
    · exact Nat.zero_le _
    · exact Nat.succ_le_succ (mcRun_le kd nb n f _)
/-- a run goes on -/
theorem mcRun_on (kd nb : zcells) (n : Int32) : ∀ (f st : Nat) (S : zcells × zcells), (mcRun kd nb n f S).2 ≤ st → mcRun kd nb n st S = ((mcRun kd nb n (st - (mcRun kd nb n f S).2) (mcRun kd nb n f S).1).1, (mcRun kd nb n f S).2 + (mcRun kd nb n (st - (mcRun kd nb n f S).2) (mcRun kd nb n f S).1).2)
  | 0, st, S, _ => by
    show mcRun kd nb n st S = ((mcRun kd nb n (st - 0) S).1, 0 + (mcRun kd nb n (st - 0) S).2)
    rw [Nat.sub_zero, Nat.zero_add]
  | f + 1, st, S, h => by
    by_cases c : mcHalt kd n S.1
    · have e : mcRun kd nb n (f + 1) S = (S, 0) := by
        unfold mcRun
        rw [if_pos c]
      rw [e]
      show mcRun kd nb n st S = ((mcRun kd nb n (st - 0) S).1, 0 + (mcRun kd nb n (st - 0) S).2)
      rw [Nat.sub_zero, Nat.zero_add]
    · have e : mcRun kd nb n (f + 1) S = ((mcRun kd nb n f (mcGo kd nb S)).1, (mcRun kd nb n f (mcGo kd nb S)).2 + 1) := by
        rw [mcRun]
        rw [if_neg c]
      rw [e] at h ⊢
      have h' : (mcRun kd nb n f (mcGo kd nb S)).2 + 1 ≤ st := h
      obtain ⟨s2, rfl⟩ : ∃ s2, st = s2 + 1 := ⟨st - 1, by omega⟩
      have ih := mcRun_on kd nb n f s2 (mcGo kd nb S) (by omega)
      have e2 : mcRun kd nb n (s2 + 1) S = ((mcRun kd nb n s2 (mcGo kd nb S)).1, (mcRun kd nb n s2 (mcGo kd nb S)).2 + 1) := by
        rw [mcRun]
        rw [if_neg c]
      rw [e2, ih]
      show _ = ((mcRun kd nb n (s2 + 1 - ((mcRun kd nb n f (mcGo kd nb S)).2 + 1)) _).1, _ + (mcRun kd nb n (s2 + 1 - ((mcRun kd nb n f (mcGo kd nb S)).2 + 1)) _).2)
      rw [show s2 + 1 - ((mcRun kd nb n f (mcGo kd nb S)).2 + 1) = s2 - (mcRun kd nb n f (mcGo kd nb S)).2 by omega]
      exact Prod.ext rfl (Nat.add_right_comm _ _ _)
/-- what a machine keeps of task b: where it stands is a run of b from its start, or it is of another task -/
def zCache (h : zH) (a ca oa b ka na ma : Nat) : Prop := zP h a 403 = some b → ∃ f : Nat, f ≤ 20000 ∧ zA h ca = (mcRun (zA h ka) (zA h na) (zI h b 805) f (mcInit (zA h ma), zz)).1.1 ∧ zA h oa = (mcRun (zA h ka) (zA h na) (zI h b 805) f (mcInit (zA h ma), zz)).1.2 ∧ zI h a 404 = nI (mcRun (zA h ka) (zA h na) (zI h b 805) f (mcInit (zA h ma), zz)).2
/-- a machine that shows a run -/
def zms (h : zH) (a ca oa b : Nat) (R : (zcells × zcells) × Nat) : zH := zsP (zmd h a ca oa R.1 R.2) a 403 (some b)
theorem zsP_id {h : zH} {a k : Nat} {v : Option Nat} (e : zP h a k = v) : zsP h a k v = h := by
  refine zH_ext rfl rfl rfl rfl rfl (funext fun b => funext fun j => ?_) rfl rfl rfl
  rw [zP_sP]
  by_cases q : b = a ∧ j = k
  · rw [if_pos q, q.1, q.2, e]
  · rw [if_neg q]
theorem zsI_id {h : zH} {a k : Nat} {v : Int32} (e : zI h a k = v) : zsI h a k v = h := by
  refine zH_ext rfl rfl rfl (funext fun b => funext fun j => ?_) rfl rfl rfl rfl rfl
  rw [zI_sI]
  by_cases q : b = a ∧ j = k
  · rw [if_pos q, q.1, q.2, e]
  · rw [if_neg q]
set_option maxHeartbeats 4000000 in
set_option maxRecDepth 100000 in
theorem s_X5_show {l G d a ca oa ta b ka na ma la pa h Q} {st : Nat} (hd : 3 ≤ d) (H : zMc h a ca oa ta) (T : zTk h b ka na ma la pa) (e1 : ¬ ka = ca) (e2 : ¬ ka = oa) (e3 : ¬ na = ca) (e4 : ¬ na = oa) (e5 : ¬ ma = ca) (e6 : ¬ ma = oa) (hst : st ≤ 20000) (j1 : ∀ j, 128 ≤ j → zA h ca j = 0) (j2 : ∀ j, 10 ≤ j → zA h oa j = 0) (hc : zCache h a ca oa b ka na ma)
  (hQ : Q (.inl none) (zms h a ca oa b (mcRun (zA h ka) (zA h na) (zI h b 805) st (mcInit (zA h ma), zz)))) : zCall l G mX5_show d [.ref a, .ref b, .int (nI st)] h Q := by
  have hd0 : 0 < d := by omega
  have H0 := H
  have T0 := T
  obtain ⟨⟨k1, k2, k3, k4⟩, ⟨k5, k6⟩, ⟨k7, k8⟩, ⟨k9, k10⟩, n1, n2, n3⟩ := H
  obtain ⟨⟨t1, t2, t3, t4, t5, t6⟩, ⟨t7, t8⟩, ⟨t9, t10⟩, ⟨t11, t12⟩, -⟩ := T
  have hab : ¬ b = a := by
    intro e
    rw [e, k1] at t1
    cases t1
  refine zEnt 5 false mX5_show _ _ _ _ [some (.ref a), some (.ref b), some (.int (nI st)), none] rfl (by decide +kernel) (fun h => by cases h) rfl (Nat.le_of_ble_eq_true rfl) fun X hX => ?_
  have f1 : ∀ S k, zK (zmd h a ca oa S k) = zK h := fun _ _ => zmd_K _ _ _ _ _ _
  have f2 : ∀ S k, zP (zmd h a ca oa S k) = zP h := fun _ _ => zmd_P _ _ _ _ _ _
  have f3 : ∀ S k, zN (zmd h a ca oa S k) = zN h := fun _ _ => zmd_N _ _ _ _ _ _
  have f6 : ∀ S k, zA (zmd h a ca oa S k) ca = S.1 := fun S k => by rw [zmd_A, zmo_c n1]
  have f7 : ∀ S k, zA (zmd h a ca oa S k) ma = zA h ma := fun S k => by rw [zmd_A, zmo_n e5 e6]
  have f8 : ∀ S k D, zwr (zmd h a ca oa S k) ca D = zmd h a ca oa (D, S.2) k := fun S k D => zmd_wc n1
  have L : ∀ (f i : Nat), i + f = 64 → zJ l G X 22 [some (.ref a), some (.ref b), some (.int (nI st)), some (.int (nI i))] [] (zmd h a ca oa (mcPart i (zA h ma), zz) 0) 0 0 := by
    intro f
    induction f with
    | zero =>
      intro i hi
      have hc : (64 ≤ nI i) = True := eq_true (by rw [show i = 64 by omega]; decide)
      refine zrunS hX [22] 40 ?_
      simp only [zb_s, zm_ok, zgo_c, zstp_n, zstp_c, Bool.false_eq_true, Bool.false_or, Bool.or_false, Bool.true_or, eq_self, kne_10, kne_01, zget_0, zget_s, zst1_0, zst1_1, zst1_s, zst2_0, zst2_1, zst2_s, zht_c, zdl_n, zdl_i, zdl_r, zdl_l, zct_i, zct_r, zct_l, zct_n, zct_q, zpI_c, zpL_c, zpR_c, zpR_q, zpQ_c, zpQ_n, zpQ_q, zpV_c, zpn_0, zpn_s, zvI_c, zvL_c, zvR_c, zcs_n, zcs_c, zcn_eq, zcn_ne, zcn_lt, zcn_ge, zcn_gt, zcn_le, zrs_n, zrs_s, zrs_x, zpf_0, zpf_1, zpf_2, zpf_3, zfv_0, zfv_1, zfv_2, zfv_3, List.length_cons, List.length_nil, List.nil_append, List.cons_append, List.append_nil, Nat.reduceAdd, Nat.reduceSub, Nat.reduceMul, Nat.reduceLT, Nat.reduceLeDiff, Nat.reduceEqDiff, Nat.reduceBEq, Nat.zero_add, Nat.add_zero, Nat.sub_zero, Nat.zero_le, Nat.le_refl, true_and, and_true, implies_true, forall_const, true_or, or_true, not_true_eq_false, not_false_eq_true, Classical.not_not, false_implies, and_self, ↓reduceIte, reduceCtorEq, exists_eq_left, exists_eq_left', Option.some.injEq, Int.reduceAdd, Int.reduceSub, Int.reduceNeg, List.size_toArray, znc_2, znc_3, znc_4, znc_5, znc_6, znc_7, znc_8, znc_9, znc_10, znc_11, znc_12, znc_13, znc_14, znc_15, znc_16, znc_17, znc_18, znc_19, znc_20, znc_21, znc_22, znc_23, znc_24, znc_25, znc_26, znc_27, znc_28, znc_29, znc_30, znc_31, znc_32, kn_0, kn_1, kn_2, kn_3, kn_4, kn_5, kn_6, kn_7, kn_8, kn_9, kn_10, kn_11, kn_12, kn_13, kn_14, kn_15, kn_16, kn_17, kn_18, kn_19, kn_20, kn_21, kn_22, kn_23, kn_24, kn_25, kn_26, kn_27, kn_28, kn_29, kn_30, kn_31, kn_32, kn_33, kn_34, kn_35, kn_36, kn_37, kn_38, kn_39, kn_40, kzi_0_128, kzi_1_128, kzi_2_128, kzi_3_128, kzi_0_3, kzi_1_3, kzi_2_3, kzi_0_32, kzi_1_32, kzi_2_32, kzi_3_32, kzi_0_10, kzi_1_10, kzi_2_10, kzi_3_10, zte_0, zte_1, zte_2, zte_3, zte_4, zte_5, zte_6, zte_7, zte_8, zte_9, zte_10, zte_11, zte_12, zte_13, zte_14, zte_15, zte_16, dX5_show_0, dX5_show_1, dX5_show_10, dX5_show_13, dX5_show_16, dX5_show_17, dX5_show_20, dX5_show_21, dX5_show_22, dX5_show_23, dX5_show_25, dX5_show_28, dX5_show_29, dX5_show_32, dX5_show_34, dX5_show_35, dX5_show_36, dX5_show_37, dX5_show_4, dX5_show_40, dX5_show_41, dX5_show_42, dX5_show_43, dX5_show_46, dX5_show_49, dX5_show_5, dX5_show_50, dX5_show_51, dX5_show_54, dX5_show_55, dX5_show_56, dX5_show_57, dX5_show_60, dX5_show_8, dX5_show_9, jX5_show_13, jX5_show_25, jX5_show_46, jX5_show_5, kb_64, kc_0, kc_1, kf_0, kf_1, kf_2, kf_3, mX5_clear_c, mX5_clear_s, mX5_runTo_c, mX5_runTo_s, mX5_show_b, mX5_show_c, mX5_show_r, mX5_show_s, zfl_5_21, zfl_5_25, zfl_5_32, zfl_5_9, zml_5_29, zml_5_37, zw_aload_n, zw_bipush, zw_getfield, zw_goto, zw_iadd, zw_iaload, zw_iastore, zw_iconst, zw_if_acmp, zw_if_icmp, zw_iinc, zw_iload_n, zw_invokevirtual, zw_istore_n, zw_putfield, zw_return_, hc, f1, k1, hd0, zK_sP]
      rw [show i = 64 by omega, mcPart_f, zsP_md]
      refine s_X5_runTo (h := zsP h a 403 (some b)) (S := (mcInit (zA h ma), zz)) (k0 := 0) (ta := ta) (ka := ka) (na := na) (ma := ma) (la := la) (pa := pa) (by omega) ?_ ?_ e1 e2 e3 e4 (by omega) hst ?_
      · refine ⟨⟨k1, ?_, ?_, ?_⟩, ⟨k5, k6⟩, ⟨k7, k8⟩, ⟨k9, k10⟩, n1, n2, n3⟩ <;> (rw [zP_sP, if_neg (by omega)]; assumption)
      · refine ⟨⟨t1, ?_, ?_, ?_, ?_, ?_⟩, ⟨t7, t8⟩, ⟨t9, t10⟩, ⟨t11, t12⟩, T0.2.2.2.2⟩ <;> (rw [zP_sP, if_neg (fun q => hab q.1)]; assumption)
      · simp only [zb_s, zm_ok, zgo_c, zstp_n, zstp_c, Bool.false_eq_true, Bool.false_or, Bool.or_false, Bool.true_or, eq_self, kne_10, kne_01, zget_0, zget_s, zst1_0, zst1_1, zst1_s, zst2_0, zst2_1, zst2_s, zht_c, zdl_n, zdl_i, zdl_r, zdl_l, zct_i, zct_r, zct_l, zct_n, zct_q, zpI_c, zpL_c, zpR_c, zpR_q, zpQ_c, zpQ_n, zpQ_q, zpV_c, zpn_0, zpn_s, zvI_c, zvL_c, zvR_c, zcs_n, zcs_c, zcn_eq, zcn_ne, zcn_lt, zcn_ge, zcn_gt, zcn_le, zrs_n, zrs_s, zrs_x, zpf_0, zpf_1, zpf_2, zpf_3, zfv_0, zfv_1, zfv_2, zfv_3, List.length_cons, List.length_nil, List.nil_append, List.cons_append, List.append_nil, Nat.reduceAdd, Nat.reduceSub, Nat.reduceMul, Nat.reduceLT, Nat.reduceLeDiff, Nat.reduceEqDiff, Nat.reduceBEq, Nat.zero_add, Nat.add_zero, Nat.sub_zero, Nat.zero_le, Nat.le_refl, true_and, and_true, implies_true, forall_const, true_or, or_true, not_true_eq_false, not_false_eq_true, Classical.not_not, false_implies, and_self, ↓reduceIte, reduceCtorEq, exists_eq_left, exists_eq_left', Option.some.injEq, Int.reduceAdd, Int.reduceSub, Int.reduceNeg, List.size_toArray, znc_2, znc_3, znc_4, znc_5, znc_6, znc_7, znc_8, znc_9, znc_10, znc_11, znc_12, znc_13, znc_14, znc_15, znc_16, znc_17, znc_18, znc_19, znc_20, znc_21, znc_22, znc_23, znc_24, znc_25, znc_26, znc_27, znc_28, znc_29, znc_30, znc_31, znc_32, kn_0, kn_1, kn_2, kn_3, kn_4, kn_5, kn_6, kn_7, kn_8, kn_9, kn_10, kn_11, kn_12, kn_13, kn_14, kn_15, kn_16, kn_17, kn_18, kn_19, kn_20, kn_21, kn_22, kn_23, kn_24, kn_25, kn_26, kn_27, kn_28, kn_29, kn_30, kn_31, kn_32, kn_33, kn_34, kn_35, kn_36, kn_37, kn_38, kn_39, kn_40, kzi_0_128, kzi_1_128, kzi_2_128, kzi_3_128, kzi_0_3, kzi_1_3, kzi_2_3, kzi_0_32, kzi_1_32, kzi_2_32, kzi_3_32, kzi_0_10, kzi_1_10, kzi_2_10, kzi_3_10, zte_0, zte_1, zte_2, zte_3, zte_4, zte_5, zte_6, zte_7, zte_8, zte_9, zte_10, zte_11, zte_12, zte_13, zte_14, zte_15, zte_16, dX5_show_0, dX5_show_1, dX5_show_10, dX5_show_13, dX5_show_16, dX5_show_17, dX5_show_20, dX5_show_21, dX5_show_22, dX5_show_23, dX5_show_25, dX5_show_28, dX5_show_29, dX5_show_32, dX5_show_34, dX5_show_35, dX5_show_36, dX5_show_37, dX5_show_4, dX5_show_40, dX5_show_41, dX5_show_42, dX5_show_43, dX5_show_46, dX5_show_49, dX5_show_5, dX5_show_50, dX5_show_51, dX5_show_54, dX5_show_55, dX5_show_56, dX5_show_57, dX5_show_60, dX5_show_8, dX5_show_9, jX5_show_13, jX5_show_25, jX5_show_46, jX5_show_5, kb_64, kc_0, kc_1, kf_0, kf_1, kf_2, kf_3, mX5_clear_c, mX5_clear_s, mX5_runTo_c, mX5_runTo_s, mX5_show_b, mX5_show_c, mX5_show_r, mX5_show_s, zfl_5_21, zfl_5_25, zfl_5_32, zfl_5_9, zml_5_29, zml_5_37, zw_aload_n, zw_bipush, zw_getfield, zw_goto, zw_iadd, zw_iaload, zw_iastore, zw_iconst, zw_if_acmp, zw_if_icmp, zw_iinc, zw_iload_n, zw_invokevirtual, zw_istore_n, zw_putfield, zw_return_, Nat.sub_zero]
        rw [← zsP_md]
        have g0 : zI (zsP h a 403 (some b)) = zI h := rfl
        have g1 : zA (zsP h a 403 (some b)) = zA h := rfl
        rw [g0, g1]
        exact hQ
    | succ f ih =>
      intro i hi
      have hc : (64 ≤ nI i) = False := eq_false (nI_ge (a := i) (b := 64) (by omega) (by omega))
      have hz : zin (nI i) 64 = True := eq_true (zin_nI (by omega) (by omega))
      have ha : (64 : Int32) + nI i = nI (64 + i) := nI_add 64 i
      have hz2 : zin (nI (64 + i)) 128 = True := eq_true (zin_nI (by omega) (by omega))
      refine zrunS hX [22] 60 ?_
      simp only [zb_s, zm_ok, zgo_c, zstp_n, zstp_c, Bool.false_eq_true, Bool.false_or, Bool.or_false, Bool.true_or, eq_self, kne_10, kne_01, zget_0, zget_s, zst1_0, zst1_1, zst1_s, zst2_0, zst2_1, zst2_s, zht_c, zdl_n, zdl_i, zdl_r, zdl_l, zct_i, zct_r, zct_l, zct_n, zct_q, zpI_c, zpL_c, zpR_c, zpR_q, zpQ_c, zpQ_n, zpQ_q, zpV_c, zpn_0, zpn_s, zvI_c, zvL_c, zvR_c, zcs_n, zcs_c, zcn_eq, zcn_ne, zcn_lt, zcn_ge, zcn_gt, zcn_le, zrs_n, zrs_s, zrs_x, zpf_0, zpf_1, zpf_2, zpf_3, zfv_0, zfv_1, zfv_2, zfv_3, List.length_cons, List.length_nil, List.nil_append, List.cons_append, List.append_nil, Nat.reduceAdd, Nat.reduceSub, Nat.reduceMul, Nat.reduceLT, Nat.reduceLeDiff, Nat.reduceEqDiff, Nat.reduceBEq, Nat.zero_add, Nat.add_zero, Nat.sub_zero, Nat.zero_le, Nat.le_refl, true_and, and_true, implies_true, forall_const, true_or, or_true, not_true_eq_false, not_false_eq_true, Classical.not_not, false_implies, and_self, ↓reduceIte, reduceCtorEq, exists_eq_left, exists_eq_left', Option.some.injEq, Int.reduceAdd, Int.reduceSub, Int.reduceNeg, List.size_toArray, znc_2, znc_3, znc_4, znc_5, znc_6, znc_7, znc_8, znc_9, znc_10, znc_11, znc_12, znc_13, znc_14, znc_15, znc_16, znc_17, znc_18, znc_19, znc_20, znc_21, znc_22, znc_23, znc_24, znc_25, znc_26, znc_27, znc_28, znc_29, znc_30, znc_31, znc_32, kn_0, kn_1, kn_2, kn_3, kn_4, kn_5, kn_6, kn_7, kn_8, kn_9, kn_10, kn_11, kn_12, kn_13, kn_14, kn_15, kn_16, kn_17, kn_18, kn_19, kn_20, kn_21, kn_22, kn_23, kn_24, kn_25, kn_26, kn_27, kn_28, kn_29, kn_30, kn_31, kn_32, kn_33, kn_34, kn_35, kn_36, kn_37, kn_38, kn_39, kn_40, kzi_0_128, kzi_1_128, kzi_2_128, kzi_3_128, kzi_0_3, kzi_1_3, kzi_2_3, kzi_0_32, kzi_1_32, kzi_2_32, kzi_3_32, kzi_0_10, kzi_1_10, kzi_2_10, kzi_3_10, zte_0, zte_1, zte_2, zte_3, zte_4, zte_5, zte_6, zte_7, zte_8, zte_9, zte_10, zte_11, zte_12, zte_13, zte_14, zte_15, zte_16, dX5_show_0, dX5_show_1, dX5_show_10, dX5_show_13, dX5_show_16, dX5_show_17, dX5_show_20, dX5_show_21, dX5_show_22, dX5_show_23, dX5_show_25, dX5_show_28, dX5_show_29, dX5_show_32, dX5_show_34, dX5_show_35, dX5_show_36, dX5_show_37, dX5_show_4, dX5_show_40, dX5_show_41, dX5_show_42, dX5_show_43, dX5_show_46, dX5_show_49, dX5_show_5, dX5_show_50, dX5_show_51, dX5_show_54, dX5_show_55, dX5_show_56, dX5_show_57, dX5_show_60, dX5_show_8, dX5_show_9, jX5_show_13, jX5_show_25, jX5_show_46, jX5_show_5, kb_64, kc_0, kc_1, kf_0, kf_1, kf_2, kf_3, mX5_clear_c, mX5_clear_s, mX5_runTo_c, mX5_runTo_s, mX5_show_b, mX5_show_c, mX5_show_r, mX5_show_s, zfl_5_21, zfl_5_25, zfl_5_32, zfl_5_9, zml_5_29, zml_5_37, zw_aload_n, zw_bipush, zw_getfield, zw_goto, zw_iadd, zw_iaload, zw_iastore, zw_iconst, zw_if_acmp, zw_if_icmp, zw_iinc, zw_iload_n, zw_invokevirtual, zw_istore_n, zw_putfield, zw_return_, hc, f1, f2, f3, k1, k2, k5, k6, t1, t4, t11, t12, ha, hz, hz2, nI_clamp (show i < 2 ^ 31 by omega), nI_clamp (show 64 + i < 2 ^ 31 by omega), zsA_wr, f6, f7, f8, mcPart_s, ← nI_succ]
      exact ih (i + 1) (by omega)
  refine zrunS hX [22] 60 ?_
  simp only [zb_s, zm_ok, zgo_c, zstp_n, zstp_c, Bool.false_eq_true, Bool.false_or, Bool.or_false, Bool.true_or, eq_self, kne_10, kne_01, zget_0, zget_s, zst1_0, zst1_1, zst1_s, zst2_0, zst2_1, zst2_s, zht_c, zdl_n, zdl_i, zdl_r, zdl_l, zct_i, zct_r, zct_l, zct_n, zct_q, zpI_c, zpL_c, zpR_c, zpR_q, zpQ_c, zpQ_n, zpQ_q, zpV_c, zpn_0, zpn_s, zvI_c, zvL_c, zvR_c, zcs_n, zcs_c, zcn_eq, zcn_ne, zcn_lt, zcn_ge, zcn_gt, zcn_le, zrs_n, zrs_s, zrs_x, zpf_0, zpf_1, zpf_2, zpf_3, zfv_0, zfv_1, zfv_2, zfv_3, List.length_cons, List.length_nil, List.nil_append, List.cons_append, List.append_nil, Nat.reduceAdd, Nat.reduceSub, Nat.reduceMul, Nat.reduceLT, Nat.reduceLeDiff, Nat.reduceEqDiff, Nat.reduceBEq, Nat.zero_add, Nat.add_zero, Nat.sub_zero, Nat.zero_le, Nat.le_refl, true_and, and_true, implies_true, forall_const, true_or, or_true, not_true_eq_false, not_false_eq_true, Classical.not_not, false_implies, and_self, ↓reduceIte, reduceCtorEq, exists_eq_left, exists_eq_left', Option.some.injEq, Int.reduceAdd, Int.reduceSub, Int.reduceNeg, List.size_toArray, znc_2, znc_3, znc_4, znc_5, znc_6, znc_7, znc_8, znc_9, znc_10, znc_11, znc_12, znc_13, znc_14, znc_15, znc_16, znc_17, znc_18, znc_19, znc_20, znc_21, znc_22, znc_23, znc_24, znc_25, znc_26, znc_27, znc_28, znc_29, znc_30, znc_31, znc_32, kn_0, kn_1, kn_2, kn_3, kn_4, kn_5, kn_6, kn_7, kn_8, kn_9, kn_10, kn_11, kn_12, kn_13, kn_14, kn_15, kn_16, kn_17, kn_18, kn_19, kn_20, kn_21, kn_22, kn_23, kn_24, kn_25, kn_26, kn_27, kn_28, kn_29, kn_30, kn_31, kn_32, kn_33, kn_34, kn_35, kn_36, kn_37, kn_38, kn_39, kn_40, kzi_0_128, kzi_1_128, kzi_2_128, kzi_3_128, kzi_0_3, kzi_1_3, kzi_2_3, kzi_0_32, kzi_1_32, kzi_2_32, kzi_3_32, kzi_0_10, kzi_1_10, kzi_2_10, kzi_3_10, zte_0, zte_1, zte_2, zte_3, zte_4, zte_5, zte_6, zte_7, zte_8, zte_9, zte_10, zte_11, zte_12, zte_13, zte_14, zte_15, zte_16, dX5_show_0, dX5_show_1, dX5_show_10, dX5_show_13, dX5_show_16, dX5_show_17, dX5_show_20, dX5_show_21, dX5_show_22, dX5_show_23, dX5_show_25, dX5_show_28, dX5_show_29, dX5_show_32, dX5_show_34, dX5_show_35, dX5_show_36, dX5_show_37, dX5_show_4, dX5_show_40, dX5_show_41, dX5_show_42, dX5_show_43, dX5_show_46, dX5_show_49, dX5_show_5, dX5_show_50, dX5_show_51, dX5_show_54, dX5_show_55, dX5_show_56, dX5_show_57, dX5_show_60, dX5_show_8, dX5_show_9, jX5_show_13, jX5_show_25, jX5_show_46, jX5_show_5, kb_64, kc_0, kc_1, kf_0, kf_1, kf_2, kf_3, mX5_clear_c, mX5_clear_s, mX5_runTo_c, mX5_runTo_s, mX5_show_b, mX5_show_c, mX5_show_r, mX5_show_s, zfl_5_21, zfl_5_25, zfl_5_32, zfl_5_9, zml_5_29, zml_5_37, zw_aload_n, zw_bipush, zw_getfield, zw_goto, zw_iadd, zw_iaload, zw_iastore, zw_iconst, zw_if_acmp, zw_if_icmp, zw_iinc, zw_iload_n, zw_invokevirtual, zw_istore_n, zw_putfield, zw_return_, k1, hd0]
  have P1 : zCall l G mX5_clear (d - 1) [.ref a] h (zrs (fun vs h2 => zJ l G X 22 [some (.ref a), some (.ref b), some (.int (nI st)), some (.int 0)] vs h2 0 0) fun E h2 => Q (Sum.inr E) h2) := by
    refine s_X5_clear H0 j1 j2 ?_
    have := L 64 0 rfl
    rw [mcPart_0] at this
    exact this
  refine ⟨fun _ => P1, fun q => ⟨fun q2 => ?_, fun _ => P1⟩⟩
  obtain ⟨f, hf, c1, c2, c3⟩ := hc q
  have hk := mcRun_le (zA h ka) (zA h na) (zI h b 805) f (mcInit (zA h ma), zz)
  have hon := mcRun_on (zA h ka) (zA h na) (zI h b 805) f st (mcInit (zA h ma), zz)
  generalize mcRun (zA h ka) (zA h na) (zI h b 805) f (mcInit (zA h ma), zz) = R at *
  have hle : R.2 ≤ st := Classical.byContradiction fun g => by
    rw [c3] at q2
    exact nI_ge (a := st) (b := R.2) (by omega) (by omega) q2
  have hh : h = zmd h a ca oa R.1 R.2 := by
    unfold zmd
    rw [← c1, ← c2, zmo_id]
    exact (zsI_id c3).symm
  refine zCall_h hh (s_X5_runTo (h := h) (S := R.1) (k0 := R.2) (by omega) H0 T0 e1 e2 e3 e4 (by omega) hst ?_)
  simp only [zb_s, zm_ok, zgo_c, zstp_n, zstp_c, Bool.false_eq_true, Bool.false_or, Bool.or_false, Bool.true_or, eq_self, kne_10, kne_01, zget_0, zget_s, zst1_0, zst1_1, zst1_s, zst2_0, zst2_1, zst2_s, zht_c, zdl_n, zdl_i, zdl_r, zdl_l, zct_i, zct_r, zct_l, zct_n, zct_q, zpI_c, zpL_c, zpR_c, zpR_q, zpQ_c, zpQ_n, zpQ_q, zpV_c, zpn_0, zpn_s, zvI_c, zvL_c, zvR_c, zcs_n, zcs_c, zcn_eq, zcn_ne, zcn_lt, zcn_ge, zcn_gt, zcn_le, zrs_n, zrs_s, zrs_x, zpf_0, zpf_1, zpf_2, zpf_3, zfv_0, zfv_1, zfv_2, zfv_3, List.length_cons, List.length_nil, List.nil_append, List.cons_append, List.append_nil, Nat.reduceAdd, Nat.reduceSub, Nat.reduceMul, Nat.reduceLT, Nat.reduceLeDiff, Nat.reduceEqDiff, Nat.reduceBEq, Nat.zero_add, Nat.add_zero, Nat.sub_zero, Nat.zero_le, Nat.le_refl, true_and, and_true, implies_true, forall_const, true_or, or_true, not_true_eq_false, not_false_eq_true, Classical.not_not, false_implies, and_self, ↓reduceIte, reduceCtorEq, exists_eq_left, exists_eq_left', Option.some.injEq, Int.reduceAdd, Int.reduceSub, Int.reduceNeg, List.size_toArray, znc_2, znc_3, znc_4, znc_5, znc_6, znc_7, znc_8, znc_9, znc_10, znc_11, znc_12, znc_13, znc_14, znc_15, znc_16, znc_17, znc_18, znc_19, znc_20, znc_21, znc_22, znc_23, znc_24, znc_25, znc_26, znc_27, znc_28, znc_29, znc_30, znc_31, znc_32, kn_0, kn_1, kn_2, kn_3, kn_4, kn_5, kn_6, kn_7, kn_8, kn_9, kn_10, kn_11, kn_12, kn_13, kn_14, kn_15, kn_16, kn_17, kn_18, kn_19, kn_20, kn_21, kn_22, kn_23, kn_24, kn_25, kn_26, kn_27, kn_28, kn_29, kn_30, kn_31, kn_32, kn_33, kn_34, kn_35, kn_36, kn_37, kn_38, kn_39, kn_40, kzi_0_128, kzi_1_128, kzi_2_128, kzi_3_128, kzi_0_3, kzi_1_3, kzi_2_3, kzi_0_32, kzi_1_32, kzi_2_32, kzi_3_32, kzi_0_10, kzi_1_10, kzi_2_10, kzi_3_10, zte_0, zte_1, zte_2, zte_3, zte_4, zte_5, zte_6, zte_7, zte_8, zte_9, zte_10, zte_11, zte_12, zte_13, zte_14, zte_15, zte_16, dX5_show_0, dX5_show_1, dX5_show_10, dX5_show_13, dX5_show_16, dX5_show_17, dX5_show_20, dX5_show_21, dX5_show_22, dX5_show_23, dX5_show_25, dX5_show_28, dX5_show_29, dX5_show_32, dX5_show_34, dX5_show_35, dX5_show_36, dX5_show_37, dX5_show_4, dX5_show_40, dX5_show_41, dX5_show_42, dX5_show_43, dX5_show_46, dX5_show_49, dX5_show_5, dX5_show_50, dX5_show_51, dX5_show_54, dX5_show_55, dX5_show_56, dX5_show_57, dX5_show_60, dX5_show_8, dX5_show_9, jX5_show_13, jX5_show_25, jX5_show_46, jX5_show_5, kb_64, kc_0, kc_1, kf_0, kf_1, kf_2, kf_3, mX5_clear_c, mX5_clear_s, mX5_runTo_c, mX5_runTo_s, mX5_show_b, mX5_show_c, mX5_show_r, mX5_show_s, zfl_5_21, zfl_5_25, zfl_5_32, zfl_5_9, zml_5_29, zml_5_37, zw_aload_n, zw_bipush, zw_getfield, zw_goto, zw_iadd, zw_iaload, zw_iastore, zw_iconst, zw_if_acmp, zw_if_icmp, zw_iinc, zw_iload_n, zw_invokevirtual, zw_istore_n, zw_putfield, zw_return_, k1, hd0]
  rw [hon hle] at hQ
  unfold zms at hQ
  rw [zsP_id (by rw [zmd_P]; exact q)] at hQ
  exact hQ
