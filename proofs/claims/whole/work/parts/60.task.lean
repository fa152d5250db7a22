/-! A TASK BEGINS -/
theorem zMI.sAn {B : Nat} {h : zH} {a k t : Nat} {v : Int32} (M : zMI B h) (ht : t < 6) (hc : ¬ nI t < zI h (aHall B) 904) (ha : a = aKin B t ∨ a = aNum B t) : zMI B (zsA h a k v) := by
  have e : ∀ b, ¬ b = a → zA (zsA h a k v) b = zA h b := fun b q => funext fun j => by rw [zA_sA, if_neg (fun z => q z.1)]
  have hw : a = B + 29 + 113 * t ∨ a = B + 30 + 113 * t := by
    unfold aKin aNum at ha
    exact ha
  obtain ⟨m1, m2, m3, m4⟩ := M
  unfold zCache at m3
  unfold zMI zCache
  rw [e _ (by unfold aCells; omega), e _ (by unfold aOuts; omega), zI_sA, zP_sA]
  refine ⟨m1, m2, fun u hu hr => ?_, m4⟩
  by_cases q : u = t
  · subst q
    obtain ⟨t2, h2, h3, h4⟩ := m4 _ hr
    rw [← aTask_j h3] at h4
    exact absurd h4 hc
  · rw [e (aKin B u) (by unfold aKin; omega), e (aNum B u) (by unfold aNum; omega), e (aMem B u) (by unfold aMem; omega)]
    exact m3 u hu hr
theorem zMI.sIn {B : Nat} {h : zH} {t : Nat} {v : Int32} (M : zMI B h) (ht : t < 6) (hc : ¬ nI t < zI h (aHall B) 904) : zMI B (zsI h (aTask B t) 805 v) := by
  obtain ⟨m1, m2, m3, m4⟩ := M
  unfold zCache at m3
  unfold zMI zCache
  have e1 : ∀ b, zI (zsI h (aTask B t) 805 v) b 404 = zI h b 404 := fun b => by rw [zI_sI, if_neg (fun q => absurd q.2 (by decide))]
  have e3 : ∀ b, zI (zsI h (aTask B t) 805 v) b 904 = zI h b 904 := fun b => by rw [zI_sI, if_neg (fun q => absurd q.2 (by decide))]
  simp only [zA_sI, zP_sI, e1, e3]
  refine ⟨m1, m2, fun u hu hr => ?_, m4⟩
  by_cases q : u = t
  · subst q
    obtain ⟨t2, h2, h3, h4⟩ := m4 _ hr
    rw [← aTask_j h3] at h4
    exact absurd h4 hc
  · rw [zI_sI, if_neg (fun z => q (aTask_j z.1))]
    exact m3 u hu hr
theorem zXR.sKn {B S h t k v} (H : zXR B S h) (ht : t < 6) (hc : ¬ nI t < S 904 0 0) : zXR B (zu3 S 2002 t k v) (zsA h (aKin B t) k v) := by
  have hR := H.2.1.sA (f := 2002) (i := t) (k := k) (v := v) (by unfold xdA; omega)
  rw [xa_k] at hR
  exact ⟨H.1.sk zSk.sA, hR, H.2.2.sAn ht (by rw [H.2.1.r9 (by decide)]; exact hc) (Or.inl rfl)⟩
theorem zXR.sNn {B S h t k v} (H : zXR B S h) (ht : t < 6) (hc : ¬ nI t < S 904 0 0) : zXR B (zu3 S 2003 t k v) (zsA h (aNum B t) k v) := by
  have hR := H.2.1.sA (f := 2003) (i := t) (k := k) (v := v) (by unfold xdA; omega)
  rw [xa_n] at hR
  exact ⟨H.1.sk zSk.sA, hR, H.2.2.sAn ht (by rw [H.2.1.r9 (by decide)]; exact hc) (Or.inr rfl)⟩
theorem zXR.sSn {B S h t v} (H : zXR B S h) (ht : t < 6) (hc : ¬ nI t < S 904 0 0) : zXR B (zu3 S 805 t 0 v) (zsI h (aTask B t) 805 v) :=
  ⟨H.1.sk zSk.sI, H.2.1.s8 (by decide) ht, H.2.2.sIn ht (by rw [H.2.1.r9 (by decide)]; exact hc)⟩
def xBegL (t : Nat) (K N : zcells) : Nat → Nat → zst → zst
  | 0, _, S => S
  | f + 1, i, S => xBegL t K N f (i + 1) (zu3 (zu3 S 2002 t i (K i)) 2003 t i (N i))
def xBeg (S : zst) (t k : Nat) (K N : zcells) (lv cn : Int32) : zst := zu3 (zu3 (xBegL t K N k 0 (zu3 S 805 t 0 (nI k))) 806 t 0 lv) 807 t 0 cn
theorem aKN_w {B t : Nat} (ht : t < 6) : (B ≤ aKin B t ∧ aKin B t < B + 706) ∧ (B ≤ aNum B t ∧ aNum B t < B + 706) := by unfold aKin aNum; omega
set_option maxHeartbeats 4000000 in
set_option maxRecDepth 100000 in
theorem x9_begin {l G d B h Q} {S : zst} {t k : Nat} {K N : zcells} {lv cn : Int32} (hd : 1 ≤ d) (H : zXR B S h) (ht : t < 6) (hc : ¬ nI t < S 904 0 0) (hk : k ≤ 200) (e1 : zI h (aComp B) 103 = nI k) (e2 : zA h (aCKin B) = K) (e3 : zA h (aCNum B) = N) (hQ : ∀ g, zXR B (xBeg S t k K N lv cn) g → zFr B h g → Q (.inl none) g) : zCall l G mX9_begin d [.ref (aTask B t), .ref (aComp B), .int lv, .int cn] h Q := by
  have hd0 : 0 < d := by omega
  have em : (if (200 : Int32) < nI k then (200 : Int32) else nI k) = nI k := if_neg (nI_nlt (a := 200) (b := k) hk (by omega))
  have n1 : ¬ aCKin B = aKin B t := by unfold aCKin aKin; omega
  have n2 : ¬ aCKin B = aNum B t := by unfold aCKin aNum; omega
  have n3 : ¬ aCNum B = aKin B t := by unfold aCNum aKin; omega
  have n4 : ¬ aCNum B = aNum B t := by unfold aCNum aNum; omega
  refine zEnt 9 false mX9_begin _ _ _ _ [some (.ref (aTask B t)), some (.ref (aComp B)), some (.int lv), some (.int cn), none] rfl (by decide +kernel) (fun h => by cases h) rfl (Nat.le_of_ble_eq_true rfl) fun X hX => ?_
  have L : ∀ (f i : Nat) (S : zst) (g : zH), f + i = k → zXR B S g → zFr B h g → (¬ nI t < S 904 0 0) → S 805 t 0 = nI k → zA g (aCKin B) = K → zA g (aCNum B) = N → (∀ g2, zXR B (zu3 (zu3 (xBegL t K N f i S) 806 t 0 lv) 807 t 0 cn) g2 → zFr B h g2 → Q (.inl none) g2) → zJ l G X 17 [some (.ref (aTask B t)), some (.ref (aComp B)), some (.int lv), some (.int cn), some (.int (nI i))] [] g 0 0 := by
    intro f
    induction f with
    | zero =>
      intro i S g hi H1 F1 hc hsz hK hN hQ
      have hcd : (nI k ≤ nI i) = True := eq_true (nI_le (by omega) (by omega))
      have r1 := H1.2.1.r8 (f := 805) (by decide) ht
      rw [hsz] at r1
      have t1 := (H1.1.tk ht).1.1
      unfold xBegL at hQ
      have hq := hQ _ ((H1.s8 (f := 806) (v := lv) (by decide) (by decide) ht).s8 (f := 807) (v := cn) (by decide) (by decide) ht) (F1.tr ((zFr.sI (aT_w ht)).tr (zFr.sI (aT_w ht))))
      refine zrunS hX [17] 60 ?_
      simp only [zb_s, zm_ok, zgo_c, zstp_n, zstp_c, Bool.false_eq_true, Bool.false_or, Bool.or_false, Bool.true_or, eq_self, kne_10, kne_01, zget_0, zget_s, zst1_0, zst1_1, zst1_s, zst2_0, zst2_1, zst2_s, zht_c, zdl_n, zdl_i, zdl_r, zdl_l, zct_i, zct_r, zct_l, zct_n, zct_q, zpI_c, zpL_c, zpR_c, zpR_q, zpQ_c, zpQ_n, zpQ_q, zpV_c, zpn_0, zpn_s, zvI_c, zvL_c, zvR_c, zcs_n, zcs_c, zcn_eq, zcn_ne, zcn_lt, zcn_ge, zcn_gt, zcn_le, zrs_n, zrs_s, zrs_x, zpf_0, zpf_1, zpf_2, zpf_3, zfv_0, zfv_1, zfv_2, zfv_3, List.length_cons, List.length_nil, List.nil_append, List.cons_append, List.append_nil, Nat.reduceAdd, Nat.reduceSub, Nat.reduceMul, Nat.reduceLT, Nat.reduceLeDiff, Nat.reduceEqDiff, Nat.reduceBEq, Nat.zero_add, Nat.add_zero, Nat.sub_zero, Nat.zero_le, Nat.le_refl, true_and, and_true, implies_true, forall_const, true_or, or_true, not_true_eq_false, not_false_eq_true, Classical.not_not, false_implies, and_self, ↓reduceIte, reduceCtorEq, exists_eq_left, exists_eq_left', Option.some.injEq, Int.reduceAdd, Int.reduceSub, Int.reduceNeg, List.size_toArray, znc_2, znc_3, znc_4, znc_5, znc_6, znc_7, znc_8, znc_9, znc_10, znc_11, znc_12, znc_13, znc_14, znc_15, znc_16, znc_17, znc_18, znc_19, znc_20, znc_21, znc_22, znc_23, znc_24, znc_25, znc_26, znc_27, znc_28, znc_29, znc_30, znc_31, znc_32, kn_0, kn_1, kn_2, kn_3, kn_4, kn_5, kn_6, kn_7, kn_8, kn_9, kn_10, kn_11, kn_12, kn_13, kn_14, kn_15, kn_16, kn_17, kn_18, kn_19, kn_20, kn_21, kn_22, kn_23, kn_24, kn_25, kn_26, kn_27, kn_28, kn_29, kn_30, kn_31, kn_32, kn_33, kn_34, kn_35, kn_36, kn_37, kn_38, kn_39, kn_40, kzi_0_128, kzi_1_128, kzi_2_128, kzi_3_128, kzi_0_3, kzi_1_3, kzi_2_3, kzi_0_32, kzi_1_32, kzi_2_32, kzi_3_32, kzi_0_10, kzi_1_10, kzi_2_10, kzi_3_10, zte_0, zte_1, zte_2, zte_3, zte_4, zte_5, zte_6, zte_7, zte_8, zte_9, zte_10, zte_11, zte_12, zte_13, zte_14, zte_15, zte_16, dX9_begin_0, dX9_begin_1, dX9_begin_11, dX9_begin_14, dX9_begin_15, dX9_begin_17, dX9_begin_19, dX9_begin_2, dX9_begin_20, dX9_begin_23, dX9_begin_26, dX9_begin_27, dX9_begin_30, dX9_begin_32, dX9_begin_33, dX9_begin_36, dX9_begin_38, dX9_begin_39, dX9_begin_40, dX9_begin_41, dX9_begin_44, dX9_begin_46, dX9_begin_47, dX9_begin_5, dX9_begin_50, dX9_begin_52, dX9_begin_53, dX9_begin_54, dX9_begin_57, dX9_begin_60, dX9_begin_61, dX9_begin_62, dX9_begin_65, dX9_begin_66, dX9_begin_67, dX9_begin_70, dX9_begin_8, jX9_begin_23, jX9_begin_57, kc_0, kc_1, kf_0, kf_1, kf_2, kf_3, ks_200, mX9_begin_b, mX9_begin_c, mX9_begin_r, mX9_begin_s, zfl_9_15, zfl_9_33, zfl_9_45, zfl_9_46, zfl_9_47, zfl_9_48, zfl_9_51, zfl_9_9, zml_9_39, zw_aload_n, zw_getfield, zw_goto, zw_iaload, zw_iastore, zw_iconst, zw_if_icmp, zw_iinc, zw_iload, zw_iload_n, zw_invokestatic, zw_istore, zw_putfield, zw_return_, zw_sipush, t1, r1, hcd, zK_sI, hq]
    | succ f ih =>
      intro i S g hi H1 F1 hc hsz hK hN hQ
      have hcd : (nI k ≤ nI i) = False := eq_false (nI_ge (by omega) (by omega))
      have r1 := H1.2.1.r8 (f := 805) (by decide) ht
      rw [hsz] at r1
      obtain ⟨⟨t1, t2, t3, t4, t5, t6⟩, ⟨t7, t8⟩, ⟨t9, t10⟩, -⟩ := H1.1.tk ht
      obtain ⟨⟨d1, d2, d7, d8, ⟨d9, d10⟩, ⟨d11, d12⟩⟩, -⟩ := H1.1.cp
      have z1 : zin (nI i) 200 = True := eq_true (zin_nI (by omega) (by omega))
      have z2 := nI_clamp (show i < 2 ^ 31 by omega)
      have hc2 : ¬ nI t < zu3 S 2002 t i (K i) 904 0 0 := by
        rw [zu3_n _ (by decide)]
        exact hc
      have hN2 : zA (zsA g (aKin B t) i (K i)) (aCNum B) = N := by
        rw [← hN]
        exact funext fun j => by rw [zA_sA, if_neg (fun z => n3 z.1)]
      have l0 := ih (i + 1) _ _ (by omega) ((H1.sKn (k := i) (v := K i) ht hc).sNn (k := i) (v := N i) ht hc2) (F1.tr ((zFr.sA (aKN_w ht).1).tr (zFr.sA (aKN_w ht).2))) (by rw [zu3_n _ (by decide)]; exact hc2) (by rw [zu3_n _ (by decide), zu3_n _ (by decide)]; exact hsz)
        (by rw [← hK]; exact funext fun j => by rw [zA_sA, if_neg (fun z => n2 z.1), zA_sA, if_neg (fun z => n1 z.1)])
        (by rw [← hN2]; exact funext fun j => by rw [zA_sA, if_neg (fun z => n4 z.1)]) hQ
      refine zrunS hX [17] 60 ?_
      simp only [zb_s, zm_ok, zgo_c, zstp_n, zstp_c, Bool.false_eq_true, Bool.false_or, Bool.or_false, Bool.true_or, eq_self, kne_10, kne_01, zget_0, zget_s, zst1_0, zst1_1, zst1_s, zst2_0, zst2_1, zst2_s, zht_c, zdl_n, zdl_i, zdl_r, zdl_l, zct_i, zct_r, zct_l, zct_n, zct_q, zpI_c, zpL_c, zpR_c, zpR_q, zpQ_c, zpQ_n, zpQ_q, zpV_c, zpn_0, zpn_s, zvI_c, zvL_c, zvR_c, zcs_n, zcs_c, zcn_eq, zcn_ne, zcn_lt, zcn_ge, zcn_gt, zcn_le, zrs_n, zrs_s, zrs_x, zpf_0, zpf_1, zpf_2, zpf_3, zfv_0, zfv_1, zfv_2, zfv_3, List.length_cons, List.length_nil, List.nil_append, List.cons_append, List.append_nil, Nat.reduceAdd, Nat.reduceSub, Nat.reduceMul, Nat.reduceLT, Nat.reduceLeDiff, Nat.reduceEqDiff, Nat.reduceBEq, Nat.zero_add, Nat.add_zero, Nat.sub_zero, Nat.zero_le, Nat.le_refl, true_and, and_true, implies_true, forall_const, true_or, or_true, not_true_eq_false, not_false_eq_true, Classical.not_not, false_implies, and_self, ↓reduceIte, reduceCtorEq, exists_eq_left, exists_eq_left', Option.some.injEq, Int.reduceAdd, Int.reduceSub, Int.reduceNeg, List.size_toArray, znc_2, znc_3, znc_4, znc_5, znc_6, znc_7, znc_8, znc_9, znc_10, znc_11, znc_12, znc_13, znc_14, znc_15, znc_16, znc_17, znc_18, znc_19, znc_20, znc_21, znc_22, znc_23, znc_24, znc_25, znc_26, znc_27, znc_28, znc_29, znc_30, znc_31, znc_32, kn_0, kn_1, kn_2, kn_3, kn_4, kn_5, kn_6, kn_7, kn_8, kn_9, kn_10, kn_11, kn_12, kn_13, kn_14, kn_15, kn_16, kn_17, kn_18, kn_19, kn_20, kn_21, kn_22, kn_23, kn_24, kn_25, kn_26, kn_27, kn_28, kn_29, kn_30, kn_31, kn_32, kn_33, kn_34, kn_35, kn_36, kn_37, kn_38, kn_39, kn_40, kzi_0_128, kzi_1_128, kzi_2_128, kzi_3_128, kzi_0_3, kzi_1_3, kzi_2_3, kzi_0_32, kzi_1_32, kzi_2_32, kzi_3_32, kzi_0_10, kzi_1_10, kzi_2_10, kzi_3_10, zte_0, zte_1, zte_2, zte_3, zte_4, zte_5, zte_6, zte_7, zte_8, zte_9, zte_10, zte_11, zte_12, zte_13, zte_14, zte_15, zte_16, dX9_begin_0, dX9_begin_1, dX9_begin_11, dX9_begin_14, dX9_begin_15, dX9_begin_17, dX9_begin_19, dX9_begin_2, dX9_begin_20, dX9_begin_23, dX9_begin_26, dX9_begin_27, dX9_begin_30, dX9_begin_32, dX9_begin_33, dX9_begin_36, dX9_begin_38, dX9_begin_39, dX9_begin_40, dX9_begin_41, dX9_begin_44, dX9_begin_46, dX9_begin_47, dX9_begin_5, dX9_begin_50, dX9_begin_52, dX9_begin_53, dX9_begin_54, dX9_begin_57, dX9_begin_60, dX9_begin_61, dX9_begin_62, dX9_begin_65, dX9_begin_66, dX9_begin_67, dX9_begin_70, dX9_begin_8, jX9_begin_23, jX9_begin_57, kc_0, kc_1, kf_0, kf_1, kf_2, kf_3, ks_200, mX9_begin_b, mX9_begin_c, mX9_begin_r, mX9_begin_s, zfl_9_15, zfl_9_33, zfl_9_45, zfl_9_46, zfl_9_47, zfl_9_48, zfl_9_51, zfl_9_9, zml_9_39, zw_aload_n, zw_getfield, zw_goto, zw_iaload, zw_iastore, zw_iconst, zw_if_icmp, zw_iinc, zw_iload, zw_iload_n, zw_invokestatic, zw_istore, zw_putfield, zw_return_, zw_sipush, t1, t2, t3, t7, t8, t9, t10, d1, d7, d8, d9, d10, d11, d12, r1, hcd, z1, z2, hK, hN2, zK_sA, zN_sA, zP_sA, ← nI_succ, l0]
  have l0 := L k 0 _ _ (by omega) (H.sSn (v := nI k) ht hc) (zFr.sI (aT_w ht)) (by rw [zu3_n _ (by decide)]; exact hc) (zu3_e _ _ _ _ _) (by rw [zA_sI]; exact e2) (by rw [zA_sI]; exact e3) hQ
  rw [nI_0] at l0
  have t1 := (H.1.tk ht).1.1
  have d1 := H.1.cp.1.1
  refine zrunS hX [17] 60 ?_
  simp only [zb_s, zm_ok, zgo_c, zstp_n, zstp_c, Bool.false_eq_true, Bool.false_or, Bool.or_false, Bool.true_or, eq_self, kne_10, kne_01, zget_0, zget_s, zst1_0, zst1_1, zst1_s, zst2_0, zst2_1, zst2_s, zht_c, zdl_n, zdl_i, zdl_r, zdl_l, zct_i, zct_r, zct_l, zct_n, zct_q, zpI_c, zpL_c, zpR_c, zpR_q, zpQ_c, zpQ_n, zpQ_q, zpV_c, zpn_0, zpn_s, zvI_c, zvL_c, zvR_c, zcs_n, zcs_c, zcn_eq, zcn_ne, zcn_lt, zcn_ge, zcn_gt, zcn_le, zrs_n, zrs_s, zrs_x, zpf_0, zpf_1, zpf_2, zpf_3, zfv_0, zfv_1, zfv_2, zfv_3, List.length_cons, List.length_nil, List.nil_append, List.cons_append, List.append_nil, Nat.reduceAdd, Nat.reduceSub, Nat.reduceMul, Nat.reduceLT, Nat.reduceLeDiff, Nat.reduceEqDiff, Nat.reduceBEq, Nat.zero_add, Nat.add_zero, Nat.sub_zero, Nat.zero_le, Nat.le_refl, true_and, and_true, implies_true, forall_const, true_or, or_true, not_true_eq_false, not_false_eq_true, Classical.not_not, false_implies, and_self, ↓reduceIte, reduceCtorEq, exists_eq_left, exists_eq_left', Option.some.injEq, Int.reduceAdd, Int.reduceSub, Int.reduceNeg, List.size_toArray, znc_2, znc_3, znc_4, znc_5, znc_6, znc_7, znc_8, znc_9, znc_10, znc_11, znc_12, znc_13, znc_14, znc_15, znc_16, znc_17, znc_18, znc_19, znc_20, znc_21, znc_22, znc_23, znc_24, znc_25, znc_26, znc_27, znc_28, znc_29, znc_30, znc_31, znc_32, kn_0, kn_1, kn_2, kn_3, kn_4, kn_5, kn_6, kn_7, kn_8, kn_9, kn_10, kn_11, kn_12, kn_13, kn_14, kn_15, kn_16, kn_17, kn_18, kn_19, kn_20, kn_21, kn_22, kn_23, kn_24, kn_25, kn_26, kn_27, kn_28, kn_29, kn_30, kn_31, kn_32, kn_33, kn_34, kn_35, kn_36, kn_37, kn_38, kn_39, kn_40, kzi_0_128, kzi_1_128, kzi_2_128, kzi_3_128, kzi_0_3, kzi_1_3, kzi_2_3, kzi_0_32, kzi_1_32, kzi_2_32, kzi_3_32, kzi_0_10, kzi_1_10, kzi_2_10, kzi_3_10, zte_0, zte_1, zte_2, zte_3, zte_4, zte_5, zte_6, zte_7, zte_8, zte_9, zte_10, zte_11, zte_12, zte_13, zte_14, zte_15, zte_16, dX9_begin_0, dX9_begin_1, dX9_begin_11, dX9_begin_14, dX9_begin_15, dX9_begin_17, dX9_begin_19, dX9_begin_2, dX9_begin_20, dX9_begin_23, dX9_begin_26, dX9_begin_27, dX9_begin_30, dX9_begin_32, dX9_begin_33, dX9_begin_36, dX9_begin_38, dX9_begin_39, dX9_begin_40, dX9_begin_41, dX9_begin_44, dX9_begin_46, dX9_begin_47, dX9_begin_5, dX9_begin_50, dX9_begin_52, dX9_begin_53, dX9_begin_54, dX9_begin_57, dX9_begin_60, dX9_begin_61, dX9_begin_62, dX9_begin_65, dX9_begin_66, dX9_begin_67, dX9_begin_70, dX9_begin_8, jX9_begin_23, jX9_begin_57, kc_0, kc_1, kf_0, kf_1, kf_2, kf_3, ks_200, mX9_begin_b, mX9_begin_c, mX9_begin_r, mX9_begin_s, zfl_9_15, zfl_9_33, zfl_9_45, zfl_9_46, zfl_9_47, zfl_9_48, zfl_9_51, zfl_9_9, zml_9_39, zw_aload_n, zw_getfield, zw_goto, zw_iaload, zw_iastore, zw_iconst, zw_if_icmp, zw_iinc, zw_iload, zw_iload_n, zw_invokestatic, zw_istore, zw_putfield, zw_return_, zw_sipush, hd0, t1, d1, e1, em, l0]
theorem zXR.tc {B S h k} (H : zXR B S h) (hk : S 904 0 0 = nI k) (hk2 : k < 6) : zXR B (zu3 S 904 0 0 (nI (k + 1))) (zsI h (aHall B) 904 (nI (k + 1))) := by
  refine ⟨H.1.sk zSk.sI, H.2.1.s9 (by decide), ?_⟩
  have r1 := H.2.1.r9 (f := 904) (by decide)
  rw [hk] at r1
  obtain ⟨m1, m2, m3, m4⟩ := H.2.2
  unfold zCache at m3
  unfold zMI zCache
  have e1 : ∀ b, zI (zsI h (aHall B) 904 (nI (k + 1))) b 404 = zI h b 404 := fun b => by rw [zI_sI, if_neg (fun q => absurd q.2 (by decide))]
  have e2 : ∀ b, zI (zsI h (aHall B) 904 (nI (k + 1))) b 805 = zI h b 805 := fun b => by rw [zI_sI, if_neg (fun q => absurd q.2 (by decide))]
  have e3 : zI (zsI h (aHall B) 904 (nI (k + 1))) (aHall B) 904 = nI (k + 1) := by rw [zI_sI, if_pos ⟨rfl, rfl⟩]
  simp only [zA_sI, zP_sI, e1, e2, e3]
  refine ⟨m1, m2, m3, fun b hb => ?_⟩
  obtain ⟨t, h1, h2, h3⟩ := m4 b hb
  rw [r1] at h3
  refine ⟨t, h1, h2, ?_⟩
  rw [nI_ltI (by omega) (by omega)] at h3 ⊢
  omega
/-- the state once a text of n bytes is taken off the tape -/
def xOff (S : zst) : zst := zu3 (zu3 S 701 0 0 0) 907 0 0 (-1)
def rTaskC (S : zst) (p : Int32) (n : Nat) (r : prs) : zRs := match r with
  | .inr e => xV (e.1 - 10) (zu3 (xOff S) 907 0 0 (nI e.2))
  | .inl s => xV (S 904 0 0) (zu3 (xBeg (xOff S) (S 904 0 0).toNatClampNeg s.2.1 s.2.2.1 s.2.2.2 (xLeaves (S 2009 0) n) p) 904 0 0 (S 904 0 0 + 1))
def rTask (S : zst) (K N : zcells) (p n : Int32) : zRs := if xW p 0 1000000 then (if xW n 0 (S 701 0 0) then (if S 904 0 0 < 6 then rTaskC S p n.toNatClampNeg (pComp (S 2009 0) n.toNatClampNeg K N) else xV (-1) (xOff S)) else xE xArg S) else xE xArg S
theorem xBegL_n {t : Nat} {K N : zcells} {g a b : Nat} (h1 : ¬ g = 2002) (h2 : ¬ g = 2003) : ∀ (f i : Nat) (S : zst), xBegL t K N f i S g a b = S g a b
  | 0, _, _ => rfl
  | f + 1, i, S => by
    unfold xBegL
    rw [xBegL_n h1 h2 f (i + 1), zu3_n _ h2, zu3_n _ h1]
theorem pComp_k {T : zcells} {n : Nat} {K N : zcells} {s : pst} (h : pComp T n K N = .inl s) : s.2.1 ≤ 200 := by
  unfold pComp at h
  obtain ⟨s1, h1, h2⟩ := pbind_i h
  split at h2
  · split at h2
    · rename_i q
      cases h2
      exact q
    · cases h2
  · cases h2
/-! a fault is never 0 -/
def pnz (F : pst → prs) : Prop := ∀ s e, F s = .inr e → ¬ e.1 = 0
theorem pRef_e {w : Int32} {s : pst} {e : Int32 × Nat} (hw : ¬ w = 0) (h : pRef w s = .inr e) : ¬ e.1 = 0 := by
  unfold pRef at h
  cases h
  exact hw
theorem pbind_e {r : prs} {f : pst → prs} {e : Int32 × Nat} (h : pbind r f = .inr e) : r = .inr e ∨ ∃ s1, r = .inl s1 ∧ f s1 = .inr e := by
  cases r with
  | inl s1 => exact Or.inr ⟨s1, rfl, h⟩
  | inr x => exact Or.inl h
theorem pExp_e {T n c} : pnz (pExp T n c) := by
  intro s e h
  unfold pExp at h
  split at h
  · cases h
  · exact pRef_e (by decide) h
theorem pOpen_e {T n c r} : pnz (pOpen T n c r) := by
  intro s e h
  unfold pOpen at h
  split at h
  · split at h
    · exact pRef_e (by decide) h
    · cases h
  · exact pRef_e (by decide) h
theorem pEnc_e {T n a b E r} (hE : 0 < r → pnz E) : pnz (pEnc T n a b E r) := by
  intro s e h
  rcases pbind_e h with h | ⟨s1, h1, h⟩
  · exact pOpen_e _ _ h
  rcases pbind_e h with h | ⟨s2, h2, h⟩
  · refine hE ?_ _ _ h
    unfold pOpen at h1
    split at h1
    · split at h1
      · cases h1
      · omega
    · cases h1
  · exact pExp_e _ _ h
theorem pLoop_e {T n sub lv} (hs : pnz sub) : ∀ k, pnz (pLoop T n sub lv k) := by
  intro k
  induction k with
  | zero =>
    intro s e h
    cases h
  | succ k ih =>
    intro s e h
    unfold pLoop at h
    split at h
    · rcases pbind_e h with h | ⟨s1, h1, h⟩
      · exact hs _ _ h
      · exact ih _ _ h
    · cases h
theorem pX_e {T n lv sub} (hs : pnz sub) : pnz (pX T n lv sub) := by
  intro s e h
  rcases pbind_e h with h | ⟨s1, h1, h⟩
  · exact hs _ _ h
  · exact pLoop_e hs _ _ _ h
theorem pUnit_e {T n E r} (hE : 0 < r → pnz E) : pnz (pUnit T n E r) := by
  intro s e h
  unfold pUnit at h
  split at h
  · split at h
    · cases h
    · exact pRef_e (by decide) h
  · split at h
    · split at h
      · rcases pbind_e h with h | ⟨s1, h1, h⟩
        · exact pEnc_e hE _ _ h
        · cases h
      · exact pEnc_e hE _ _ h
    · cases h
theorem pLv_e {T n E r} (hE : 0 < r → pnz E) : pnz (pLv T n E r) := pX_e (pX_e (pX_e (pUnit_e hE)))
theorem pEx_e {T n} : ∀ r, pnz (pEx T n r)
  | 0 => pLv_e (fun h => absurd h (by omega))
  | r + 1 => pLv_e (fun _ => pEx_e r)
theorem pStm_e {T n E E1 SS r} (hE : pnz E) (hE1 : 0 < r → pnz E1) (hS : 0 < r → pnz SS) : pnz (pStm T n E E1 SS r) := by
  intro s e h
  unfold pStm at h
  split at h
  · split at h
    · rcases pbind_e h with h | ⟨s1, h1, h⟩
      · exact pEnc_e hE1 _ _ h
      rcases pbind_e h with h | ⟨s1, h1, h⟩
      · exact pExp_e _ _ h
      rcases pbind_e h with h | ⟨s1, h1, h⟩
      · exact hE _ _ h
      rcases pbind_e h with h | ⟨s1, h1, h⟩
      · exact pExp_e _ _ h
      · cases h
    · split at h
      · rcases pbind_e h with h | ⟨s1, h1, h⟩
        · exact hE _ _ h
        rcases pbind_e h with h | ⟨s1, h1, h⟩
        · exact pExp_e _ _ h
        · cases h
      · split at h
        · rcases pbind_e h with h | ⟨s1, h1, h⟩
          · exact hE _ _ h
          rcases pbind_e h with h | ⟨s1, h1, h⟩
          · exact pEnc_e hS _ _ h
          · cases h
        · split at h
          · rcases pbind_e h with h | ⟨s1, h1, h⟩
            · exact hE _ _ h
            rcases pbind_e h with h | ⟨s1, h1, h⟩
            · exact pEnc_e hS _ _ h
            split at h
            · rcases pbind_e h with h | ⟨s1, h1, h⟩
              · exact pEnc_e hS _ _ h
              · cases h
            · cases h
          · exact pRef_e (by decide) h
  · rcases pbind_e h with h | ⟨s1, h1, h⟩
    · exact pExp_e _ _ h
    rcases pbind_e h with h | ⟨s1, h1, h⟩
    · exact hE _ _ h
    rcases pbind_e h with h | ⟨s1, h1, h⟩
    · exact pExp_e _ _ h
    · cases h
theorem pSL_e {T n stm} (hs : pnz stm) : ∀ k, pnz (pSL T n stm k) := by
  intro k
  induction k with
  | zero =>
    intro s e h
    cases h
  | succ k ih =>
    intro s e h
    unfold pSL at h
    split at h
    · rcases pbind_e h with h | ⟨s1, h1, h⟩
      · exact hs _ _ h
      · exact ih _ _ h
    · cases h
theorem pSS_e {T n} : ∀ r, pnz (pSS T n r)
  | 0 => pSL_e (pStm_e (pEx_e 0) (fun h => absurd h (by omega)) (fun h => absurd h (by omega))) 400
  | r + 1 => pSL_e (pStm_e (pEx_e (r + 1)) (fun _ => pEx_e r) (fun _ => pSS_e r)) 400
theorem pComp_e {T : zcells} {n : Nat} {K N : zcells} {e : Int32 × Nat} (h : pComp T n K N = .inr e) : ¬ e.1 = 0 := by
  unfold pComp at h
  rcases pbind_e h with h | ⟨s1, h1, h⟩
  · exact pSS_e 6 _ _ h
  split at h
  · split at h
    · cases h
    · exact pRef_e (by decide) h
  · exact pRef_e (by decide) h
set_option maxHeartbeats 4000000 in
set_option maxRecDepth 100000 in
theorem x10_task {l G d B h Q} {S : zst} {p n : Int32} {k z : Nat} (hd : 100 ≤ d) (hz : zS h = none) (H : zXR B S h) (hk : S 701 0 0 = nI k) (hk2 : k ≤ 400) (hc : S 904 0 0 = nI z) (hc2 : z ≤ 6) (hQ : ∀ g, zXR B (rTask S (zA h (aCKin B)) (zA h (aCNum B)) p n).2 g → zFr B h g → Q (rTask S (zA h (aCKin B)) (zA h (aCNum B)) p n).1 g) : zCall l G mX10_task d [.ref (aHall B), .int p, .int n] h Q := by
  have hd0 : 0 < d := by omega
  have hd1 : 10 ≤ d := by omega
  have ez := zsS_id hz
  obtain ⟨a1, a2, a3, a4, a5⟩ := H.1.ha
  obtain ⟨⟨d1, d2, -⟩, ⟨d3, -⟩⟩ := H.1.cp
  have r1 := H.2.1.r7
  refine zEnt 10 false mX10_task _ _ _ _ [some (.ref (aHall B)), some (.int p), some (.int n), none, none] rfl (by decide +kernel) (fun h => by cases h) rfl (Nat.le_of_ble_eq_true rfl) fun X hX => ?_
  refine zrun0 hX 60 ?_
  simp only [zb_s, zm_ok, zgo_c, zstp_n, zstp_c, Bool.false_eq_true, Bool.false_or, Bool.or_false, Bool.true_or, eq_self, kne_10, kne_01, zget_0, zget_s, zst1_0, zst1_1, zst1_s, zst2_0, zst2_1, zst2_s, zht_c, zdl_n, zdl_i, zdl_r, zdl_l, zct_i, zct_r, zct_l, zct_n, zct_q, zpI_c, zpL_c, zpR_c, zpR_q, zpQ_c, zpQ_n, zpQ_q, zpV_c, zpn_0, zpn_s, zvI_c, zvL_c, zvR_c, zcs_n, zcs_c, zcn_eq, zcn_ne, zcn_lt, zcn_ge, zcn_gt, zcn_le, zrs_n, zrs_s, zrs_x, zpf_0, zpf_1, zpf_2, zpf_3, zfv_0, zfv_1, zfv_2, zfv_3, List.length_cons, List.length_nil, List.nil_append, List.cons_append, List.append_nil, Nat.reduceAdd, Nat.reduceSub, Nat.reduceMul, Nat.reduceLT, Nat.reduceLeDiff, Nat.reduceEqDiff, Nat.reduceBEq, Nat.zero_add, Nat.add_zero, Nat.sub_zero, Nat.zero_le, Nat.le_refl, true_and, and_true, implies_true, forall_const, true_or, or_true, not_true_eq_false, not_false_eq_true, Classical.not_not, false_implies, and_self, ↓reduceIte, reduceCtorEq, exists_eq_left, exists_eq_left', Option.some.injEq, Int.reduceAdd, Int.reduceSub, Int.reduceNeg, List.size_toArray, znc_2, znc_3, znc_4, znc_5, znc_6, znc_7, znc_8, znc_9, znc_10, znc_11, znc_12, znc_13, znc_14, znc_15, znc_16, znc_17, znc_18, znc_19, znc_20, znc_21, znc_22, znc_23, znc_24, znc_25, znc_26, znc_27, znc_28, znc_29, znc_30, znc_31, znc_32, kn_0, kn_1, kn_2, kn_3, kn_4, kn_5, kn_6, kn_7, kn_8, kn_9, kn_10, kn_11, kn_12, kn_13, kn_14, kn_15, kn_16, kn_17, kn_18, kn_19, kn_20, kn_21, kn_22, kn_23, kn_24, kn_25, kn_26, kn_27, kn_28, kn_29, kn_30, kn_31, kn_32, kn_33, kn_34, kn_35, kn_36, kn_37, kn_38, kn_39, kn_40, kzi_0_128, kzi_1_128, kzi_2_128, kzi_3_128, kzi_0_3, kzi_1_3, kzi_2_3, kzi_0_32, kzi_1_32, kzi_2_32, kzi_3_32, kzi_0_10, kzi_1_10, kzi_2_10, kzi_3_10, zte_0, zte_1, zte_2, zte_3, zte_4, zte_5, zte_6, zte_7, zte_8, zte_9, zte_10, zte_11, zte_12, zte_13, zte_14, zte_15, zte_16, dX10_task_0, dX10_task_1, dX10_task_10, dX10_task_100, dX10_task_101, dX10_task_104, dX10_task_105, dX10_task_106, dX10_task_109, dX10_task_110, dX10_task_113, dX10_task_114, dX10_task_115, dX10_task_118, dX10_task_119, dX10_task_12, dX10_task_120, dX10_task_123, dX10_task_124, dX10_task_127, dX10_task_128, dX10_task_129, dX10_task_15, dX10_task_18, dX10_task_19, dX10_task_20, dX10_task_21, dX10_task_24, dX10_task_27, dX10_task_30, dX10_task_33, dX10_task_34, dX10_task_37, dX10_task_38, dX10_task_39, dX10_task_4, dX10_task_40, dX10_task_43, dX10_task_44, dX10_task_45, dX10_task_48, dX10_task_49, dX10_task_52, dX10_task_54, dX10_task_57, dX10_task_58, dX10_task_59, dX10_task_60, dX10_task_63, dX10_task_64, dX10_task_67, dX10_task_69, dX10_task_7, dX10_task_71, dX10_task_74, dX10_task_75, dX10_task_76, dX10_task_79, dX10_task_8, dX10_task_82, dX10_task_85, dX10_task_87, dX10_task_89, dX10_task_9, dX10_task_90, dX10_task_91, dX10_task_92, dX10_task_95, dX10_task_96, dX10_task_99, jX10_task_15, jX10_task_27, jX10_task_54, jX10_task_71, kb_10, kb_6, kc_0, kc_1, kc_n1, kf_0, kf_1, kf_2, kf_3, mX10_isWithin_c, mX10_isWithin_s, mX10_task_b, mX10_task_c, mX10_task_r, mX10_task_s, mX1_compile_c, mX1_compile_s, mX4_leaves_c, mX4_leaves_s, mX9_begin_c, mX9_begin_s, zfl_10_10, zfl_10_32, zfl_10_36, zfl_10_41, zfl_10_45, zfl_10_62, zfl_10_69, zld_10_54, zml_10_55, zml_10_65, zml_10_72, zml_10_78, znwn_10_59, zw_aaload, zw_aload_n, zw_astore_n, zw_bipush, zw_dup, zw_getfield, zw_iadd, zw_iconst, zw_ifCond, zw_if_icmp, zw_iload, zw_iload_n, zw_invokespecial, zw_invokestatic, zw_invokevirtual, zw_ireturn, zw_istore, zw_isub, zw_ldc, zw_new, zw_putfield, zxc_10_59, hd0, a1, a2, d1, d2]
  refine s_X10_isWithin ?_
  by_cases q1 : xW p 0 1000000
  · rw [zt_p q1]
    simp only [zb_s, zm_ok, zgo_c, zstp_n, zstp_c, Bool.false_eq_true, Bool.false_or, Bool.or_false, Bool.true_or, eq_self, kne_10, kne_01, zget_0, zget_s, zst1_0, zst1_1, zst1_s, zst2_0, zst2_1, zst2_s, zht_c, zdl_n, zdl_i, zdl_r, zdl_l, zct_i, zct_r, zct_l, zct_n, zct_q, zpI_c, zpL_c, zpR_c, zpR_q, zpQ_c, zpQ_n, zpQ_q, zpV_c, zpn_0, zpn_s, zvI_c, zvL_c, zvR_c, zcs_n, zcs_c, zcn_eq, zcn_ne, zcn_lt, zcn_ge, zcn_gt, zcn_le, zrs_n, zrs_s, zrs_x, zpf_0, zpf_1, zpf_2, zpf_3, zfv_0, zfv_1, zfv_2, zfv_3, List.length_cons, List.length_nil, List.nil_append, List.cons_append, List.append_nil, Nat.reduceAdd, Nat.reduceSub, Nat.reduceMul, Nat.reduceLT, Nat.reduceLeDiff, Nat.reduceEqDiff, Nat.reduceBEq, Nat.zero_add, Nat.add_zero, Nat.sub_zero, Nat.zero_le, Nat.le_refl, true_and, and_true, implies_true, forall_const, true_or, or_true, not_true_eq_false, not_false_eq_true, Classical.not_not, false_implies, and_self, ↓reduceIte, reduceCtorEq, exists_eq_left, exists_eq_left', Option.some.injEq, Int.reduceAdd, Int.reduceSub, Int.reduceNeg, List.size_toArray, znc_2, znc_3, znc_4, znc_5, znc_6, znc_7, znc_8, znc_9, znc_10, znc_11, znc_12, znc_13, znc_14, znc_15, znc_16, znc_17, znc_18, znc_19, znc_20, znc_21, znc_22, znc_23, znc_24, znc_25, znc_26, znc_27, znc_28, znc_29, znc_30, znc_31, znc_32, kn_0, kn_1, kn_2, kn_3, kn_4, kn_5, kn_6, kn_7, kn_8, kn_9, kn_10, kn_11, kn_12, kn_13, kn_14, kn_15, kn_16, kn_17, kn_18, kn_19, kn_20, kn_21, kn_22, kn_23, kn_24, kn_25, kn_26, kn_27, kn_28, kn_29, kn_30, kn_31, kn_32, kn_33, kn_34, kn_35, kn_36, kn_37, kn_38, kn_39, kn_40, kzi_0_128, kzi_1_128, kzi_2_128, kzi_3_128, kzi_0_3, kzi_1_3, kzi_2_3, kzi_0_32, kzi_1_32, kzi_2_32, kzi_3_32, kzi_0_10, kzi_1_10, kzi_2_10, kzi_3_10, zte_0, zte_1, zte_2, zte_3, zte_4, zte_5, zte_6, zte_7, zte_8, zte_9, zte_10, zte_11, zte_12, zte_13, zte_14, zte_15, zte_16, dX10_task_0, dX10_task_1, dX10_task_10, dX10_task_100, dX10_task_101, dX10_task_104, dX10_task_105, dX10_task_106, dX10_task_109, dX10_task_110, dX10_task_113, dX10_task_114, dX10_task_115, dX10_task_118, dX10_task_119, dX10_task_12, dX10_task_120, dX10_task_123, dX10_task_124, dX10_task_127, dX10_task_128, dX10_task_129, dX10_task_15, dX10_task_18, dX10_task_19, dX10_task_20, dX10_task_21, dX10_task_24, dX10_task_27, dX10_task_30, dX10_task_33, dX10_task_34, dX10_task_37, dX10_task_38, dX10_task_39, dX10_task_4, dX10_task_40, dX10_task_43, dX10_task_44, dX10_task_45, dX10_task_48, dX10_task_49, dX10_task_52, dX10_task_54, dX10_task_57, dX10_task_58, dX10_task_59, dX10_task_60, dX10_task_63, dX10_task_64, dX10_task_67, dX10_task_69, dX10_task_7, dX10_task_71, dX10_task_74, dX10_task_75, dX10_task_76, dX10_task_79, dX10_task_8, dX10_task_82, dX10_task_85, dX10_task_87, dX10_task_89, dX10_task_9, dX10_task_90, dX10_task_91, dX10_task_92, dX10_task_95, dX10_task_96, dX10_task_99, jX10_task_15, jX10_task_27, jX10_task_54, jX10_task_71, kb_10, kb_6, kc_0, kc_1, kc_n1, kf_0, kf_1, kf_2, kf_3, mX10_isWithin_c, mX10_isWithin_s, mX10_task_b, mX10_task_c, mX10_task_r, mX10_task_s, mX1_compile_c, mX1_compile_s, mX4_leaves_c, mX4_leaves_s, mX9_begin_c, mX9_begin_s, zfl_10_10, zfl_10_32, zfl_10_36, zfl_10_41, zfl_10_45, zfl_10_62, zfl_10_69, zld_10_54, zml_10_55, zml_10_65, zml_10_72, zml_10_78, znwn_10_59, zw_aaload, zw_aload_n, zw_astore_n, zw_bipush, zw_dup, zw_getfield, zw_iadd, zw_iconst, zw_ifCond, zw_if_icmp, zw_iload, zw_iload_n, zw_invokespecial, zw_invokestatic, zw_invokevirtual, zw_ireturn, zw_istore, zw_isub, zw_ldc, zw_new, zw_putfield, zxc_10_59, hd0, d3, r1]
    refine s_X10_isWithin ?_
    by_cases q2 : xW n 0 (S 701 0 0)
    · rw [zt_p q2]
      rw [hk] at q2
      obtain ⟨w1, w2⟩ := xW_n (n := k) q2 (nI_toInt (by omega))
      rw [← hk] at q2
      have H1 : zXR B (xOff S) (zsI (zsI h (aTape B) 701 0) (aHall B) 907 (-1)) := (H.tpS (v := 0)).s9 (f := 907) (by decide) (by decide)
      have F1 : zFr B h (zsI (zsI h (aTape B) 701 0) (aHall B) 907 (-1)) := (zFr.sI aTa_w).tr (zFr.sI aHa_w)
      simp only [rTask, if_pos q1, if_pos q2] at hQ
      have r2 := H.2.1.r9 (f := 904) (by decide)
      by_cases q3 : S 904 0 0 < 6
      · rw [if_pos q3] at hQ
        have hz6 : z < 6 := by
          rw [hc, show (6 : Int32) = nI 6 by rfl, nI_ltI (by omega) (by omega)] at q3
          exact q3
        simp only [zb_s, zm_ok, zgo_c, zstp_n, zstp_c, Bool.false_eq_true, Bool.false_or, Bool.or_false, Bool.true_or, eq_self, kne_10, kne_01, zget_0, zget_s, zst1_0, zst1_1, zst1_s, zst2_0, zst2_1, zst2_s, zht_c, zdl_n, zdl_i, zdl_r, zdl_l, zct_i, zct_r, zct_l, zct_n, zct_q, zpI_c, zpL_c, zpR_c, zpR_q, zpQ_c, zpQ_n, zpQ_q, zpV_c, zpn_0, zpn_s, zvI_c, zvL_c, zvR_c, zcs_n, zcs_c, zcn_eq, zcn_ne, zcn_lt, zcn_ge, zcn_gt, zcn_le, zrs_n, zrs_s, zrs_x, zpf_0, zpf_1, zpf_2, zpf_3, zfv_0, zfv_1, zfv_2, zfv_3, List.length_cons, List.length_nil, List.nil_append, List.cons_append, List.append_nil, Nat.reduceAdd, Nat.reduceSub, Nat.reduceMul, Nat.reduceLT, Nat.reduceLeDiff, Nat.reduceEqDiff, Nat.reduceBEq, Nat.zero_add, Nat.add_zero, Nat.sub_zero, Nat.zero_le, Nat.le_refl, true_and, and_true, implies_true, forall_const, true_or, or_true, not_true_eq_false, not_false_eq_true, Classical.not_not, false_implies, and_self, ↓reduceIte, reduceCtorEq, exists_eq_left, exists_eq_left', Option.some.injEq, Int.reduceAdd, Int.reduceSub, Int.reduceNeg, List.size_toArray, znc_2, znc_3, znc_4, znc_5, znc_6, znc_7, znc_8, znc_9, znc_10, znc_11, znc_12, znc_13, znc_14, znc_15, znc_16, znc_17, znc_18, znc_19, znc_20, znc_21, znc_22, znc_23, znc_24, znc_25, znc_26, znc_27, znc_28, znc_29, znc_30, znc_31, znc_32, kn_0, kn_1, kn_2, kn_3, kn_4, kn_5, kn_6, kn_7, kn_8, kn_9, kn_10, kn_11, kn_12, kn_13, kn_14, kn_15, kn_16, kn_17, kn_18, kn_19, kn_20, kn_21, kn_22, kn_23, kn_24, kn_25, kn_26, kn_27, kn_28, kn_29, kn_30, kn_31, kn_32, kn_33, kn_34, kn_35, kn_36, kn_37, kn_38, kn_39, kn_40, kzi_0_128, kzi_1_128, kzi_2_128, kzi_3_128, kzi_0_3, kzi_1_3, kzi_2_3, kzi_0_32, kzi_1_32, kzi_2_32, kzi_3_32, kzi_0_10, kzi_1_10, kzi_2_10, kzi_3_10, zte_0, zte_1, zte_2, zte_3, zte_4, zte_5, zte_6, zte_7, zte_8, zte_9, zte_10, zte_11, zte_12, zte_13, zte_14, zte_15, zte_16, dX10_task_0, dX10_task_1, dX10_task_10, dX10_task_100, dX10_task_101, dX10_task_104, dX10_task_105, dX10_task_106, dX10_task_109, dX10_task_110, dX10_task_113, dX10_task_114, dX10_task_115, dX10_task_118, dX10_task_119, dX10_task_12, dX10_task_120, dX10_task_123, dX10_task_124, dX10_task_127, dX10_task_128, dX10_task_129, dX10_task_15, dX10_task_18, dX10_task_19, dX10_task_20, dX10_task_21, dX10_task_24, dX10_task_27, dX10_task_30, dX10_task_33, dX10_task_34, dX10_task_37, dX10_task_38, dX10_task_39, dX10_task_4, dX10_task_40, dX10_task_43, dX10_task_44, dX10_task_45, dX10_task_48, dX10_task_49, dX10_task_52, dX10_task_54, dX10_task_57, dX10_task_58, dX10_task_59, dX10_task_60, dX10_task_63, dX10_task_64, dX10_task_67, dX10_task_69, dX10_task_7, dX10_task_71, dX10_task_74, dX10_task_75, dX10_task_76, dX10_task_79, dX10_task_8, dX10_task_82, dX10_task_85, dX10_task_87, dX10_task_89, dX10_task_9, dX10_task_90, dX10_task_91, dX10_task_92, dX10_task_95, dX10_task_96, dX10_task_99, jX10_task_15, jX10_task_27, jX10_task_54, jX10_task_71, kb_10, kb_6, kc_0, kc_1, kc_n1, kf_0, kf_1, kf_2, kf_3, mX10_isWithin_c, mX10_isWithin_s, mX10_task_b, mX10_task_c, mX10_task_r, mX10_task_s, mX1_compile_c, mX1_compile_s, mX4_leaves_c, mX4_leaves_s, mX9_begin_c, mX9_begin_s, zfl_10_10, zfl_10_32, zfl_10_36, zfl_10_41, zfl_10_45, zfl_10_62, zfl_10_69, zld_10_54, zml_10_55, zml_10_65, zml_10_72, zml_10_78, znwn_10_59, zw_aaload, zw_aload_n, zw_astore_n, zw_bipush, zw_dup, zw_getfield, zw_iadd, zw_iconst, zw_ifCond, zw_if_icmp, zw_iload, zw_iload_n, zw_invokespecial, zw_invokestatic, zw_invokevirtual, zw_ireturn, zw_istore, zw_isub, zw_ldc, zw_new, zw_putfield, zxc_10_59, hd0, a1, a2, d1, d2, d3, r2, q3, zK_sI, zP_sI, zI_sI, and_false]
        generalize en : n.toNatClampNeg = m at *
        subst w2
        refine x1_compile (by omega) H1 (by omega) fun g H2 F2 => ?_
        have hT : xOff S 2009 0 = S 2009 0 := by
          unfold xOff
          rw [zu3_r _ (by decide), zu3_r _ (by decide)]
        rw [hT, zA_sI, zA_sI] at H2 ⊢
        cases e : pComp (S 2009 0) m (zA h (aCKin B)) (zA h (aCNum B)) with
        | inr w =>
          rw [e] at H2 hQ
          simp only [rTaskC, xV] at hQ
          rw [PR_r] at H2
          obtain ⟨H3, k1, k2⟩ := H2
          obtain ⟨a1, a2, a3, a4, a5⟩ := H3.1.ha
          have d1 := H3.1.cp.1.1
          have hq := hQ _ (H3.s9 (f := 907) (v := nI w.2) (by decide) (by decide)) ((F1.tr F2).tr (zFr.sI aHa_w))
          rw [pFault_r]
          by_cases q4 : w.1 = 0
          · exact absurd q4 (pComp_e e)
          · simp only [zb_s, zm_ok, zgo_c, zstp_n, zstp_c, Bool.false_eq_true, Bool.false_or, Bool.or_false, Bool.true_or, eq_self, kne_10, kne_01, zget_0, zget_s, zst1_0, zst1_1, zst1_s, zst2_0, zst2_1, zst2_s, zht_c, zdl_n, zdl_i, zdl_r, zdl_l, zct_i, zct_r, zct_l, zct_n, zct_q, zpI_c, zpL_c, zpR_c, zpR_q, zpQ_c, zpQ_n, zpQ_q, zpV_c, zpn_0, zpn_s, zvI_c, zvL_c, zvR_c, zcs_n, zcs_c, zcn_eq, zcn_ne, zcn_lt, zcn_ge, zcn_gt, zcn_le, zrs_n, zrs_s, zrs_x, zpf_0, zpf_1, zpf_2, zpf_3, zfv_0, zfv_1, zfv_2, zfv_3, List.length_cons, List.length_nil, List.nil_append, List.cons_append, List.append_nil, Nat.reduceAdd, Nat.reduceSub, Nat.reduceMul, Nat.reduceLT, Nat.reduceLeDiff, Nat.reduceEqDiff, Nat.reduceBEq, Nat.zero_add, Nat.add_zero, Nat.sub_zero, Nat.zero_le, Nat.le_refl, true_and, and_true, implies_true, forall_const, true_or, or_true, not_true_eq_false, not_false_eq_true, Classical.not_not, false_implies, and_self, ↓reduceIte, reduceCtorEq, exists_eq_left, exists_eq_left', Option.some.injEq, Int.reduceAdd, Int.reduceSub, Int.reduceNeg, List.size_toArray, znc_2, znc_3, znc_4, znc_5, znc_6, znc_7, znc_8, znc_9, znc_10, znc_11, znc_12, znc_13, znc_14, znc_15, znc_16, znc_17, znc_18, znc_19, znc_20, znc_21, znc_22, znc_23, znc_24, znc_25, znc_26, znc_27, znc_28, znc_29, znc_30, znc_31, znc_32, kn_0, kn_1, kn_2, kn_3, kn_4, kn_5, kn_6, kn_7, kn_8, kn_9, kn_10, kn_11, kn_12, kn_13, kn_14, kn_15, kn_16, kn_17, kn_18, kn_19, kn_20, kn_21, kn_22, kn_23, kn_24, kn_25, kn_26, kn_27, kn_28, kn_29, kn_30, kn_31, kn_32, kn_33, kn_34, kn_35, kn_36, kn_37, kn_38, kn_39, kn_40, kzi_0_128, kzi_1_128, kzi_2_128, kzi_3_128, kzi_0_3, kzi_1_3, kzi_2_3, kzi_0_32, kzi_1_32, kzi_2_32, kzi_3_32, kzi_0_10, kzi_1_10, kzi_2_10, kzi_3_10, zte_0, zte_1, zte_2, zte_3, zte_4, zte_5, zte_6, zte_7, zte_8, zte_9, zte_10, zte_11, zte_12, zte_13, zte_14, zte_15, zte_16, dX10_task_0, dX10_task_1, dX10_task_10, dX10_task_100, dX10_task_101, dX10_task_104, dX10_task_105, dX10_task_106, dX10_task_109, dX10_task_110, dX10_task_113, dX10_task_114, dX10_task_115, dX10_task_118, dX10_task_119, dX10_task_12, dX10_task_120, dX10_task_123, dX10_task_124, dX10_task_127, dX10_task_128, dX10_task_129, dX10_task_15, dX10_task_18, dX10_task_19, dX10_task_20, dX10_task_21, dX10_task_24, dX10_task_27, dX10_task_30, dX10_task_33, dX10_task_34, dX10_task_37, dX10_task_38, dX10_task_39, dX10_task_4, dX10_task_40, dX10_task_43, dX10_task_44, dX10_task_45, dX10_task_48, dX10_task_49, dX10_task_52, dX10_task_54, dX10_task_57, dX10_task_58, dX10_task_59, dX10_task_60, dX10_task_63, dX10_task_64, dX10_task_67, dX10_task_69, dX10_task_7, dX10_task_71, dX10_task_74, dX10_task_75, dX10_task_76, dX10_task_79, dX10_task_8, dX10_task_82, dX10_task_85, dX10_task_87, dX10_task_89, dX10_task_9, dX10_task_90, dX10_task_91, dX10_task_92, dX10_task_95, dX10_task_96, dX10_task_99, jX10_task_15, jX10_task_27, jX10_task_54, jX10_task_71, kb_10, kb_6, kc_0, kc_1, kc_n1, kf_0, kf_1, kf_2, kf_3, mX10_isWithin_c, mX10_isWithin_s, mX10_task_b, mX10_task_c, mX10_task_r, mX10_task_s, mX1_compile_c, mX1_compile_s, mX4_leaves_c, mX4_leaves_s, mX9_begin_c, mX9_begin_s, zfl_10_10, zfl_10_32, zfl_10_36, zfl_10_41, zfl_10_45, zfl_10_62, zfl_10_69, zld_10_54, zml_10_55, zml_10_65, zml_10_72, zml_10_78, znwn_10_59, zw_aaload, zw_aload_n, zw_astore_n, zw_bipush, zw_dup, zw_getfield, zw_iadd, zw_iconst, zw_ifCond, zw_if_icmp, zw_iload, zw_iload_n, zw_invokespecial, zw_invokestatic, zw_invokevirtual, zw_ireturn, zw_istore, zw_isub, zw_ldc, zw_new, zw_putfield, zxc_10_59, hd0, a1, a2, d1, k2, q4, hq]
        | inl s =>
          rw [e] at H2 hQ
          simp only [rTaskC, xV] at hQ
          rw [PR_l] at H2
          obtain ⟨⟨⟨H3, u1, u2, u3, u4, u5⟩, hf, hn⟩, h1, h2, h3, h4⟩ := H2
          obtain ⟨a1, a2, a3, a4, a5⟩ := H3.1.ha
          obtain ⟨b1, b2⟩ := H3.1.ts
          have b3 := H3.1.ti hz6
          have d3 := H3.1.cp.2.1
          have r3 := H3.2.1.r9 (f := 904) (by decide)
          have eC : xOff S 904 0 0 = nI z := by
            unfold xOff
            rw [zu3_n _ (by decide), zu3_n _ (by decide), hc]
          rw [eC] at r3
          have z1 : zin (nI z) 6 = True := eq_true (zin_nI (by omega) (by omega))
          have z2 := nI_clamp (show z < 2 ^ 31 by omega)
          rw [pFault_l]
          simp only [zb_s, zm_ok, zgo_c, zstp_n, zstp_c, Bool.false_eq_true, Bool.false_or, Bool.or_false, Bool.true_or, eq_self, kne_10, kne_01, zget_0, zget_s, zst1_0, zst1_1, zst1_s, zst2_0, zst2_1, zst2_s, zht_c, zdl_n, zdl_i, zdl_r, zdl_l, zct_i, zct_r, zct_l, zct_n, zct_q, zpI_c, zpL_c, zpR_c, zpR_q, zpQ_c, zpQ_n, zpQ_q, zpV_c, zpn_0, zpn_s, zvI_c, zvL_c, zvR_c, zcs_n, zcs_c, zcn_eq, zcn_ne, zcn_lt, zcn_ge, zcn_gt, zcn_le, zrs_n, zrs_s, zrs_x, zpf_0, zpf_1, zpf_2, zpf_3, zfv_0, zfv_1, zfv_2, zfv_3, List.length_cons, List.length_nil, List.nil_append, List.cons_append, List.append_nil, Nat.reduceAdd, Nat.reduceSub, Nat.reduceMul, Nat.reduceLT, Nat.reduceLeDiff, Nat.reduceEqDiff, Nat.reduceBEq, Nat.zero_add, Nat.add_zero, Nat.sub_zero, Nat.zero_le, Nat.le_refl, true_and, and_true, implies_true, forall_const, true_or, or_true, not_true_eq_false, not_false_eq_true, Classical.not_not, false_implies, and_self, ↓reduceIte, reduceCtorEq, exists_eq_left, exists_eq_left', Option.some.injEq, Int.reduceAdd, Int.reduceSub, Int.reduceNeg, List.size_toArray, znc_2, znc_3, znc_4, znc_5, znc_6, znc_7, znc_8, znc_9, znc_10, znc_11, znc_12, znc_13, znc_14, znc_15, znc_16, znc_17, znc_18, znc_19, znc_20, znc_21, znc_22, znc_23, znc_24, znc_25, znc_26, znc_27, znc_28, znc_29, znc_30, znc_31, znc_32, kn_0, kn_1, kn_2, kn_3, kn_4, kn_5, kn_6, kn_7, kn_8, kn_9, kn_10, kn_11, kn_12, kn_13, kn_14, kn_15, kn_16, kn_17, kn_18, kn_19, kn_20, kn_21, kn_22, kn_23, kn_24, kn_25, kn_26, kn_27, kn_28, kn_29, kn_30, kn_31, kn_32, kn_33, kn_34, kn_35, kn_36, kn_37, kn_38, kn_39, kn_40, kzi_0_128, kzi_1_128, kzi_2_128, kzi_3_128, kzi_0_3, kzi_1_3, kzi_2_3, kzi_0_32, kzi_1_32, kzi_2_32, kzi_3_32, kzi_0_10, kzi_1_10, kzi_2_10, kzi_3_10, zte_0, zte_1, zte_2, zte_3, zte_4, zte_5, zte_6, zte_7, zte_8, zte_9, zte_10, zte_11, zte_12, zte_13, zte_14, zte_15, zte_16, dX10_task_0, dX10_task_1, dX10_task_10, dX10_task_100, dX10_task_101, dX10_task_104, dX10_task_105, dX10_task_106, dX10_task_109, dX10_task_110, dX10_task_113, dX10_task_114, dX10_task_115, dX10_task_118, dX10_task_119, dX10_task_12, dX10_task_120, dX10_task_123, dX10_task_124, dX10_task_127, dX10_task_128, dX10_task_129, dX10_task_15, dX10_task_18, dX10_task_19, dX10_task_20, dX10_task_21, dX10_task_24, dX10_task_27, dX10_task_30, dX10_task_33, dX10_task_34, dX10_task_37, dX10_task_38, dX10_task_39, dX10_task_4, dX10_task_40, dX10_task_43, dX10_task_44, dX10_task_45, dX10_task_48, dX10_task_49, dX10_task_52, dX10_task_54, dX10_task_57, dX10_task_58, dX10_task_59, dX10_task_60, dX10_task_63, dX10_task_64, dX10_task_67, dX10_task_69, dX10_task_7, dX10_task_71, dX10_task_74, dX10_task_75, dX10_task_76, dX10_task_79, dX10_task_8, dX10_task_82, dX10_task_85, dX10_task_87, dX10_task_89, dX10_task_9, dX10_task_90, dX10_task_91, dX10_task_92, dX10_task_95, dX10_task_96, dX10_task_99, jX10_task_15, jX10_task_27, jX10_task_54, jX10_task_71, kb_10, kb_6, kc_0, kc_1, kc_n1, kf_0, kf_1, kf_2, kf_3, mX10_isWithin_c, mX10_isWithin_s, mX10_task_b, mX10_task_c, mX10_task_r, mX10_task_s, mX1_compile_c, mX1_compile_s, mX4_leaves_c, mX4_leaves_s, mX9_begin_c, mX9_begin_s, zfl_10_10, zfl_10_32, zfl_10_36, zfl_10_41, zfl_10_45, zfl_10_62, zfl_10_69, zld_10_54, zml_10_55, zml_10_65, zml_10_72, zml_10_78, znwn_10_59, zw_aaload, zw_aload_n, zw_astore_n, zw_bipush, zw_dup, zw_getfield, zw_iadd, zw_iconst, zw_ifCond, zw_if_icmp, zw_iload, zw_iload_n, zw_invokespecial, zw_invokestatic, zw_invokevirtual, zw_ireturn, zw_istore, zw_isub, zw_ldc, zw_new, zw_putfield, zxc_10_59, hd0, a1, a2, a5, b1, b2, b3, d3, r3, z1, z2, vrf_s]
          refine x4_leaves (by omega) H3 (by omega) fun g2 H4 F4 => ?_
          rw [hT]
          have t1 := (H4.1.tk hz6).1.1
          have nct : ¬ aComp B = aTape B := by unfold aComp aTape; omega
          simp only [zb_s, zm_ok, zgo_c, zstp_n, zstp_c, Bool.false_eq_true, Bool.false_or, Bool.or_false, Bool.true_or, eq_self, kne_10, kne_01, zget_0, zget_s, zst1_0, zst1_1, zst1_s, zst2_0, zst2_1, zst2_s, zht_c, zdl_n, zdl_i, zdl_r, zdl_l, zct_i, zct_r, zct_l, zct_n, zct_q, zpI_c, zpL_c, zpR_c, zpR_q, zpQ_c, zpQ_n, zpQ_q, zpV_c, zpn_0, zpn_s, zvI_c, zvL_c, zvR_c, zcs_n, zcs_c, zcn_eq, zcn_ne, zcn_lt, zcn_ge, zcn_gt, zcn_le, zrs_n, zrs_s, zrs_x, zpf_0, zpf_1, zpf_2, zpf_3, zfv_0, zfv_1, zfv_2, zfv_3, List.length_cons, List.length_nil, List.nil_append, List.cons_append, List.append_nil, Nat.reduceAdd, Nat.reduceSub, Nat.reduceMul, Nat.reduceLT, Nat.reduceLeDiff, Nat.reduceEqDiff, Nat.reduceBEq, Nat.zero_add, Nat.add_zero, Nat.sub_zero, Nat.zero_le, Nat.le_refl, true_and, and_true, implies_true, forall_const, true_or, or_true, not_true_eq_false, not_false_eq_true, Classical.not_not, false_implies, and_self, ↓reduceIte, reduceCtorEq, exists_eq_left, exists_eq_left', Option.some.injEq, Int.reduceAdd, Int.reduceSub, Int.reduceNeg, List.size_toArray, znc_2, znc_3, znc_4, znc_5, znc_6, znc_7, znc_8, znc_9, znc_10, znc_11, znc_12, znc_13, znc_14, znc_15, znc_16, znc_17, znc_18, znc_19, znc_20, znc_21, znc_22, znc_23, znc_24, znc_25, znc_26, znc_27, znc_28, znc_29, znc_30, znc_31, znc_32, kn_0, kn_1, kn_2, kn_3, kn_4, kn_5, kn_6, kn_7, kn_8, kn_9, kn_10, kn_11, kn_12, kn_13, kn_14, kn_15, kn_16, kn_17, kn_18, kn_19, kn_20, kn_21, kn_22, kn_23, kn_24, kn_25, kn_26, kn_27, kn_28, kn_29, kn_30, kn_31, kn_32, kn_33, kn_34, kn_35, kn_36, kn_37, kn_38, kn_39, kn_40, kzi_0_128, kzi_1_128, kzi_2_128, kzi_3_128, kzi_0_3, kzi_1_3, kzi_2_3, kzi_0_32, kzi_1_32, kzi_2_32, kzi_3_32, kzi_0_10, kzi_1_10, kzi_2_10, kzi_3_10, zte_0, zte_1, zte_2, zte_3, zte_4, zte_5, zte_6, zte_7, zte_8, zte_9, zte_10, zte_11, zte_12, zte_13, zte_14, zte_15, zte_16, dX10_task_0, dX10_task_1, dX10_task_10, dX10_task_100, dX10_task_101, dX10_task_104, dX10_task_105, dX10_task_106, dX10_task_109, dX10_task_110, dX10_task_113, dX10_task_114, dX10_task_115, dX10_task_118, dX10_task_119, dX10_task_12, dX10_task_120, dX10_task_123, dX10_task_124, dX10_task_127, dX10_task_128, dX10_task_129, dX10_task_15, dX10_task_18, dX10_task_19, dX10_task_20, dX10_task_21, dX10_task_24, dX10_task_27, dX10_task_30, dX10_task_33, dX10_task_34, dX10_task_37, dX10_task_38, dX10_task_39, dX10_task_4, dX10_task_40, dX10_task_43, dX10_task_44, dX10_task_45, dX10_task_48, dX10_task_49, dX10_task_52, dX10_task_54, dX10_task_57, dX10_task_58, dX10_task_59, dX10_task_60, dX10_task_63, dX10_task_64, dX10_task_67, dX10_task_69, dX10_task_7, dX10_task_71, dX10_task_74, dX10_task_75, dX10_task_76, dX10_task_79, dX10_task_8, dX10_task_82, dX10_task_85, dX10_task_87, dX10_task_89, dX10_task_9, dX10_task_90, dX10_task_91, dX10_task_92, dX10_task_95, dX10_task_96, dX10_task_99, jX10_task_15, jX10_task_27, jX10_task_54, jX10_task_71, kb_10, kb_6, kc_0, kc_1, kc_n1, kf_0, kf_1, kf_2, kf_3, mX10_isWithin_c, mX10_isWithin_s, mX10_task_b, mX10_task_c, mX10_task_r, mX10_task_s, mX1_compile_c, mX1_compile_s, mX4_leaves_c, mX4_leaves_s, mX9_begin_c, mX9_begin_s, zfl_10_10, zfl_10_32, zfl_10_36, zfl_10_41, zfl_10_45, zfl_10_62, zfl_10_69, zld_10_54, zml_10_55, zml_10_65, zml_10_72, zml_10_78, znwn_10_59, zw_aaload, zw_aload_n, zw_astore_n, zw_bipush, zw_dup, zw_getfield, zw_iadd, zw_iconst, zw_ifCond, zw_if_icmp, zw_iload, zw_iload_n, zw_invokespecial, zw_invokestatic, zw_invokevirtual, zw_ireturn, zw_istore, zw_isub, zw_ldc, zw_new, zw_putfield, zxc_10_59, hd0, t1]
          refine x9_begin (k := s.2.1) (K := s.2.2.1) (N := s.2.2.2) (by omega) H4 hz6 (by rw [eC]; exact Int32.lt_irrefl) (pComp_k e) (by rw [F4.2.1 _ nct]; exact h1) (by rw [F4.2.2]; exact h2) (by rw [F4.2.2]; exact h3) fun g3 H5 F5 => ?_
          have a1 := H5.1.ha.1
          have r5 := H5.2.1.r9 (f := 904) (by decide)
          have eC2 : xBeg (xOff S) z s.2.1 s.2.2.1 s.2.2.2 (xLeaves (S 2009 0) m) p 904 0 0 = nI z := by
            unfold xBeg
            rw [zu3_n _ (by decide), zu3_n _ (by decide), xBegL_n (by decide) (by decide), zu3_n _ (by decide), eC]
          rw [eC2] at r5
          rw [hc, z2, nI_1] at hQ
          have hq := hQ _ (H5.tc eC2 hz6) (((F1.tr F2).tr (F4.1.tr F5)).tr (zFr.sI aHa_w))
          simp only [zb_s, zm_ok, zgo_c, zstp_n, zstp_c, Bool.false_eq_true, Bool.false_or, Bool.or_false, Bool.true_or, eq_self, kne_10, kne_01, zget_0, zget_s, zst1_0, zst1_1, zst1_s, zst2_0, zst2_1, zst2_s, zht_c, zdl_n, zdl_i, zdl_r, zdl_l, zct_i, zct_r, zct_l, zct_n, zct_q, zpI_c, zpL_c, zpR_c, zpR_q, zpQ_c, zpQ_n, zpQ_q, zpV_c, zpn_0, zpn_s, zvI_c, zvL_c, zvR_c, zcs_n, zcs_c, zcn_eq, zcn_ne, zcn_lt, zcn_ge, zcn_gt, zcn_le, zrs_n, zrs_s, zrs_x, zpf_0, zpf_1, zpf_2, zpf_3, zfv_0, zfv_1, zfv_2, zfv_3, List.length_cons, List.length_nil, List.nil_append, List.cons_append, List.append_nil, Nat.reduceAdd, Nat.reduceSub, Nat.reduceMul, Nat.reduceLT, Nat.reduceLeDiff, Nat.reduceEqDiff, Nat.reduceBEq, Nat.zero_add, Nat.add_zero, Nat.sub_zero, Nat.zero_le, Nat.le_refl, true_and, and_true, implies_true, forall_const, true_or, or_true, not_true_eq_false, not_false_eq_true, Classical.not_not, false_implies, and_self, ↓reduceIte, reduceCtorEq, exists_eq_left, exists_eq_left', Option.some.injEq, Int.reduceAdd, Int.reduceSub, Int.reduceNeg, List.size_toArray, znc_2, znc_3, znc_4, znc_5, znc_6, znc_7, znc_8, znc_9, znc_10, znc_11, znc_12, znc_13, znc_14, znc_15, znc_16, znc_17, znc_18, znc_19, znc_20, znc_21, znc_22, znc_23, znc_24, znc_25, znc_26, znc_27, znc_28, znc_29, znc_30, znc_31, znc_32, kn_0, kn_1, kn_2, kn_3, kn_4, kn_5, kn_6, kn_7, kn_8, kn_9, kn_10, kn_11, kn_12, kn_13, kn_14, kn_15, kn_16, kn_17, kn_18, kn_19, kn_20, kn_21, kn_22, kn_23, kn_24, kn_25, kn_26, kn_27, kn_28, kn_29, kn_30, kn_31, kn_32, kn_33, kn_34, kn_35, kn_36, kn_37, kn_38, kn_39, kn_40, kzi_0_128, kzi_1_128, kzi_2_128, kzi_3_128, kzi_0_3, kzi_1_3, kzi_2_3, kzi_0_32, kzi_1_32, kzi_2_32, kzi_3_32, kzi_0_10, kzi_1_10, kzi_2_10, kzi_3_10, zte_0, zte_1, zte_2, zte_3, zte_4, zte_5, zte_6, zte_7, zte_8, zte_9, zte_10, zte_11, zte_12, zte_13, zte_14, zte_15, zte_16, dX10_task_0, dX10_task_1, dX10_task_10, dX10_task_100, dX10_task_101, dX10_task_104, dX10_task_105, dX10_task_106, dX10_task_109, dX10_task_110, dX10_task_113, dX10_task_114, dX10_task_115, dX10_task_118, dX10_task_119, dX10_task_12, dX10_task_120, dX10_task_123, dX10_task_124, dX10_task_127, dX10_task_128, dX10_task_129, dX10_task_15, dX10_task_18, dX10_task_19, dX10_task_20, dX10_task_21, dX10_task_24, dX10_task_27, dX10_task_30, dX10_task_33, dX10_task_34, dX10_task_37, dX10_task_38, dX10_task_39, dX10_task_4, dX10_task_40, dX10_task_43, dX10_task_44, dX10_task_45, dX10_task_48, dX10_task_49, dX10_task_52, dX10_task_54, dX10_task_57, dX10_task_58, dX10_task_59, dX10_task_60, dX10_task_63, dX10_task_64, dX10_task_67, dX10_task_69, dX10_task_7, dX10_task_71, dX10_task_74, dX10_task_75, dX10_task_76, dX10_task_79, dX10_task_8, dX10_task_82, dX10_task_85, dX10_task_87, dX10_task_89, dX10_task_9, dX10_task_90, dX10_task_91, dX10_task_92, dX10_task_95, dX10_task_96, dX10_task_99, jX10_task_15, jX10_task_27, jX10_task_54, jX10_task_71, kb_10, kb_6, kc_0, kc_1, kc_n1, kf_0, kf_1, kf_2, kf_3, mX10_isWithin_c, mX10_isWithin_s, mX10_task_b, mX10_task_c, mX10_task_r, mX10_task_s, mX1_compile_c, mX1_compile_s, mX4_leaves_c, mX4_leaves_s, mX9_begin_c, mX9_begin_s, zfl_10_10, zfl_10_32, zfl_10_36, zfl_10_41, zfl_10_45, zfl_10_62, zfl_10_69, zld_10_54, zml_10_55, zml_10_65, zml_10_72, zml_10_78, znwn_10_59, zw_aaload, zw_aload_n, zw_astore_n, zw_bipush, zw_dup, zw_getfield, zw_iadd, zw_iconst, zw_ifCond, zw_if_icmp, zw_iload, zw_iload_n, zw_invokespecial, zw_invokestatic, zw_invokevirtual, zw_ireturn, zw_istore, zw_isub, zw_ldc, zw_new, zw_putfield, zxc_10_59, hd0, a1, r5, nI_1, zI_sI, nI_pred, hq]
      · simp only [if_neg q3, xV] at hQ
        have hq := hQ _ H1 F1
        simp only [zb_s, zm_ok, zgo_c, zstp_n, zstp_c, Bool.false_eq_true, Bool.false_or, Bool.or_false, Bool.true_or, eq_self, kne_10, kne_01, zget_0, zget_s, zst1_0, zst1_1, zst1_s, zst2_0, zst2_1, zst2_s, zht_c, zdl_n, zdl_i, zdl_r, zdl_l, zct_i, zct_r, zct_l, zct_n, zct_q, zpI_c, zpL_c, zpR_c, zpR_q, zpQ_c, zpQ_n, zpQ_q, zpV_c, zpn_0, zpn_s, zvI_c, zvL_c, zvR_c, zcs_n, zcs_c, zcn_eq, zcn_ne, zcn_lt, zcn_ge, zcn_gt, zcn_le, zrs_n, zrs_s, zrs_x, zpf_0, zpf_1, zpf_2, zpf_3, zfv_0, zfv_1, zfv_2, zfv_3, List.length_cons, List.length_nil, List.nil_append, List.cons_append, List.append_nil, Nat.reduceAdd, Nat.reduceSub, Nat.reduceMul, Nat.reduceLT, Nat.reduceLeDiff, Nat.reduceEqDiff, Nat.reduceBEq, Nat.zero_add, Nat.add_zero, Nat.sub_zero, Nat.zero_le, Nat.le_refl, true_and, and_true, implies_true, forall_const, true_or, or_true, not_true_eq_false, not_false_eq_true, Classical.not_not, false_implies, and_self, ↓reduceIte, reduceCtorEq, exists_eq_left, exists_eq_left', Option.some.injEq, Int.reduceAdd, Int.reduceSub, Int.reduceNeg, List.size_toArray, znc_2, znc_3, znc_4, znc_5, znc_6, znc_7, znc_8, znc_9, znc_10, znc_11, znc_12, znc_13, znc_14, znc_15, znc_16, znc_17, znc_18, znc_19, znc_20, znc_21, znc_22, znc_23, znc_24, znc_25, znc_26, znc_27, znc_28, znc_29, znc_30, znc_31, znc_32, kn_0, kn_1, kn_2, kn_3, kn_4, kn_5, kn_6, kn_7, kn_8, kn_9, kn_10, kn_11, kn_12, kn_13, kn_14, kn_15, kn_16, kn_17, kn_18, kn_19, kn_20, kn_21, kn_22, kn_23, kn_24, kn_25, kn_26, kn_27, kn_28, kn_29, kn_30, kn_31, kn_32, kn_33, kn_34, kn_35, kn_36, kn_37, kn_38, kn_39, kn_40, kzi_0_128, kzi_1_128, kzi_2_128, kzi_3_128, kzi_0_3, kzi_1_3, kzi_2_3, kzi_0_32, kzi_1_32, kzi_2_32, kzi_3_32, kzi_0_10, kzi_1_10, kzi_2_10, kzi_3_10, zte_0, zte_1, zte_2, zte_3, zte_4, zte_5, zte_6, zte_7, zte_8, zte_9, zte_10, zte_11, zte_12, zte_13, zte_14, zte_15, zte_16, dX10_task_0, dX10_task_1, dX10_task_10, dX10_task_100, dX10_task_101, dX10_task_104, dX10_task_105, dX10_task_106, dX10_task_109, dX10_task_110, dX10_task_113, dX10_task_114, dX10_task_115, dX10_task_118, dX10_task_119, dX10_task_12, dX10_task_120, dX10_task_123, dX10_task_124, dX10_task_127, dX10_task_128, dX10_task_129, dX10_task_15, dX10_task_18, dX10_task_19, dX10_task_20, dX10_task_21, dX10_task_24, dX10_task_27, dX10_task_30, dX10_task_33, dX10_task_34, dX10_task_37, dX10_task_38, dX10_task_39, dX10_task_4, dX10_task_40, dX10_task_43, dX10_task_44, dX10_task_45, dX10_task_48, dX10_task_49, dX10_task_52, dX10_task_54, dX10_task_57, dX10_task_58, dX10_task_59, dX10_task_60, dX10_task_63, dX10_task_64, dX10_task_67, dX10_task_69, dX10_task_7, dX10_task_71, dX10_task_74, dX10_task_75, dX10_task_76, dX10_task_79, dX10_task_8, dX10_task_82, dX10_task_85, dX10_task_87, dX10_task_89, dX10_task_9, dX10_task_90, dX10_task_91, dX10_task_92, dX10_task_95, dX10_task_96, dX10_task_99, jX10_task_15, jX10_task_27, jX10_task_54, jX10_task_71, kb_10, kb_6, kc_0, kc_1, kc_n1, kf_0, kf_1, kf_2, kf_3, mX10_isWithin_c, mX10_isWithin_s, mX10_task_b, mX10_task_c, mX10_task_r, mX10_task_s, mX1_compile_c, mX1_compile_s, mX4_leaves_c, mX4_leaves_s, mX9_begin_c, mX9_begin_s, zfl_10_10, zfl_10_32, zfl_10_36, zfl_10_41, zfl_10_45, zfl_10_62, zfl_10_69, zld_10_54, zml_10_55, zml_10_65, zml_10_72, zml_10_78, znwn_10_59, zw_aaload, zw_aload_n, zw_astore_n, zw_bipush, zw_dup, zw_getfield, zw_iadd, zw_iconst, zw_ifCond, zw_if_icmp, zw_iload, zw_iload_n, zw_invokespecial, zw_invokestatic, zw_invokevirtual, zw_ireturn, zw_istore, zw_isub, zw_ldc, zw_new, zw_putfield, zxc_10_59, hd0, a1, a2, d1, d2, d3, r2, q3, zK_sI, zP_sI, zI_sI, and_false, hq]
    · simp only [rTask, xE, if_pos q1, if_neg q2] at hQ
      have hq := hQ _ H (zFr.rf _ _)
      rw [zt_n q2]
      simp only [zb_s, zm_ok, zgo_c, zstp_n, zstp_c, Bool.false_eq_true, Bool.false_or, Bool.or_false, Bool.true_or, eq_self, kne_10, kne_01, zget_0, zget_s, zst1_0, zst1_1, zst1_s, zst2_0, zst2_1, zst2_s, zht_c, zdl_n, zdl_i, zdl_r, zdl_l, zct_i, zct_r, zct_l, zct_n, zct_q, zpI_c, zpL_c, zpR_c, zpR_q, zpQ_c, zpQ_n, zpQ_q, zpV_c, zpn_0, zpn_s, zvI_c, zvL_c, zvR_c, zcs_n, zcs_c, zcn_eq, zcn_ne, zcn_lt, zcn_ge, zcn_gt, zcn_le, zrs_n, zrs_s, zrs_x, zpf_0, zpf_1, zpf_2, zpf_3, zfv_0, zfv_1, zfv_2, zfv_3, List.length_cons, List.length_nil, List.nil_append, List.cons_append, List.append_nil, Nat.reduceAdd, Nat.reduceSub, Nat.reduceMul, Nat.reduceLT, Nat.reduceLeDiff, Nat.reduceEqDiff, Nat.reduceBEq, Nat.zero_add, Nat.add_zero, Nat.sub_zero, Nat.zero_le, Nat.le_refl, true_and, and_true, implies_true, forall_const, true_or, or_true, not_true_eq_false, not_false_eq_true, Classical.not_not, false_implies, and_self, ↓reduceIte, reduceCtorEq, exists_eq_left, exists_eq_left', Option.some.injEq, Int.reduceAdd, Int.reduceSub, Int.reduceNeg, List.size_toArray, znc_2, znc_3, znc_4, znc_5, znc_6, znc_7, znc_8, znc_9, znc_10, znc_11, znc_12, znc_13, znc_14, znc_15, znc_16, znc_17, znc_18, znc_19, znc_20, znc_21, znc_22, znc_23, znc_24, znc_25, znc_26, znc_27, znc_28, znc_29, znc_30, znc_31, znc_32, kn_0, kn_1, kn_2, kn_3, kn_4, kn_5, kn_6, kn_7, kn_8, kn_9, kn_10, kn_11, kn_12, kn_13, kn_14, kn_15, kn_16, kn_17, kn_18, kn_19, kn_20, kn_21, kn_22, kn_23, kn_24, kn_25, kn_26, kn_27, kn_28, kn_29, kn_30, kn_31, kn_32, kn_33, kn_34, kn_35, kn_36, kn_37, kn_38, kn_39, kn_40, kzi_0_128, kzi_1_128, kzi_2_128, kzi_3_128, kzi_0_3, kzi_1_3, kzi_2_3, kzi_0_32, kzi_1_32, kzi_2_32, kzi_3_32, kzi_0_10, kzi_1_10, kzi_2_10, kzi_3_10, zte_0, zte_1, zte_2, zte_3, zte_4, zte_5, zte_6, zte_7, zte_8, zte_9, zte_10, zte_11, zte_12, zte_13, zte_14, zte_15, zte_16, dX10_task_0, dX10_task_1, dX10_task_10, dX10_task_100, dX10_task_101, dX10_task_104, dX10_task_105, dX10_task_106, dX10_task_109, dX10_task_110, dX10_task_113, dX10_task_114, dX10_task_115, dX10_task_118, dX10_task_119, dX10_task_12, dX10_task_120, dX10_task_123, dX10_task_124, dX10_task_127, dX10_task_128, dX10_task_129, dX10_task_15, dX10_task_18, dX10_task_19, dX10_task_20, dX10_task_21, dX10_task_24, dX10_task_27, dX10_task_30, dX10_task_33, dX10_task_34, dX10_task_37, dX10_task_38, dX10_task_39, dX10_task_4, dX10_task_40, dX10_task_43, dX10_task_44, dX10_task_45, dX10_task_48, dX10_task_49, dX10_task_52, dX10_task_54, dX10_task_57, dX10_task_58, dX10_task_59, dX10_task_60, dX10_task_63, dX10_task_64, dX10_task_67, dX10_task_69, dX10_task_7, dX10_task_71, dX10_task_74, dX10_task_75, dX10_task_76, dX10_task_79, dX10_task_8, dX10_task_82, dX10_task_85, dX10_task_87, dX10_task_89, dX10_task_9, dX10_task_90, dX10_task_91, dX10_task_92, dX10_task_95, dX10_task_96, dX10_task_99, jX10_task_15, jX10_task_27, jX10_task_54, jX10_task_71, kb_10, kb_6, kc_0, kc_1, kc_n1, kf_0, kf_1, kf_2, kf_3, mX10_isWithin_c, mX10_isWithin_s, mX10_task_b, mX10_task_c, mX10_task_r, mX10_task_s, mX1_compile_c, mX1_compile_s, mX4_leaves_c, mX4_leaves_s, mX9_begin_c, mX9_begin_s, zfl_10_10, zfl_10_32, zfl_10_36, zfl_10_41, zfl_10_45, zfl_10_62, zfl_10_69, zld_10_54, zml_10_55, zml_10_65, zml_10_72, zml_10_78, znwn_10_59, zw_aaload, zw_aload_n, zw_astore_n, zw_bipush, zw_dup, zw_getfield, zw_iadd, zw_iconst, zw_ifCond, zw_if_icmp, zw_iload, zw_iload_n, zw_invokespecial, zw_invokestatic, zw_invokevirtual, zw_ireturn, zw_istore, zw_isub, zw_ldc, zw_new, zw_putfield, zxc_10_59, hd1, ez, hq]
  · simp only [rTask, xE, if_neg q1] at hQ
    have hq := hQ _ H (zFr.rf _ _)
    rw [zt_n q1]
    simp only [zb_s, zm_ok, zgo_c, zstp_n, zstp_c, Bool.false_eq_true, Bool.false_or, Bool.or_false, Bool.true_or, eq_self, kne_10, kne_01, zget_0, zget_s, zst1_0, zst1_1, zst1_s, zst2_0, zst2_1, zst2_s, zht_c, zdl_n, zdl_i, zdl_r, zdl_l, zct_i, zct_r, zct_l, zct_n, zct_q, zpI_c, zpL_c, zpR_c, zpR_q, zpQ_c, zpQ_n, zpQ_q, zpV_c, zpn_0, zpn_s, zvI_c, zvL_c, zvR_c, zcs_n, zcs_c, zcn_eq, zcn_ne, zcn_lt, zcn_ge, zcn_gt, zcn_le, zrs_n, zrs_s, zrs_x, zpf_0, zpf_1, zpf_2, zpf_3, zfv_0, zfv_1, zfv_2, zfv_3, List.length_cons, List.length_nil, List.nil_append, List.cons_append, List.append_nil, Nat.reduceAdd, Nat.reduceSub, Nat.reduceMul, Nat.reduceLT, Nat.reduceLeDiff, Nat.reduceEqDiff, Nat.reduceBEq, Nat.zero_add, Nat.add_zero, Nat.sub_zero, Nat.zero_le, Nat.le_refl, true_and, and_true, implies_true, forall_const, true_or, or_true, not_true_eq_false, not_false_eq_true, Classical.not_not, false_implies, and_self, ↓reduceIte, reduceCtorEq, exists_eq_left, exists_eq_left', Option.some.injEq, Int.reduceAdd, Int.reduceSub, Int.reduceNeg, List.size_toArray, znc_2, znc_3, znc_4, znc_5, znc_6, znc_7, znc_8, znc_9, znc_10, znc_11, znc_12, znc_13, znc_14, znc_15, znc_16, znc_17, znc_18, znc_19, znc_20, znc_21, znc_22, znc_23, znc_24, znc_25, znc_26, znc_27, znc_28, znc_29, znc_30, znc_31, znc_32, kn_0, kn_1, kn_2, kn_3, kn_4, kn_5, kn_6, kn_7, kn_8, kn_9, kn_10, kn_11, kn_12, kn_13, kn_14, kn_15, kn_16, kn_17, kn_18, kn_19, kn_20, kn_21, kn_22, kn_23, kn_24, kn_25, kn_26, kn_27, kn_28, kn_29, kn_30, kn_31, kn_32, kn_33, kn_34, kn_35, kn_36, kn_37, kn_38, kn_39, kn_40, kzi_0_128, kzi_1_128, kzi_2_128, kzi_3_128, kzi_0_3, kzi_1_3, kzi_2_3, kzi_0_32, kzi_1_32, kzi_2_32, kzi_3_32, kzi_0_10, kzi_1_10, kzi_2_10, kzi_3_10, zte_0, zte_1, zte_2, zte_3, zte_4, zte_5, zte_6, zte_7, zte_8, zte_9, zte_10, zte_11, zte_12, zte_13, zte_14, zte_15, zte_16, dX10_task_0, dX10_task_1, dX10_task_10, dX10_task_100, dX10_task_101, dX10_task_104, dX10_task_105, dX10_task_106, dX10_task_109, dX10_task_110, dX10_task_113, dX10_task_114, dX10_task_115, dX10_task_118, dX10_task_119, dX10_task_12, dX10_task_120, dX10_task_123, dX10_task_124, dX10_task_127, dX10_task_128, dX10_task_129, dX10_task_15, dX10_task_18, dX10_task_19, dX10_task_20, dX10_task_21, dX10_task_24, dX10_task_27, dX10_task_30, dX10_task_33, dX10_task_34, dX10_task_37, dX10_task_38, dX10_task_39, dX10_task_4, dX10_task_40, dX10_task_43, dX10_task_44, dX10_task_45, dX10_task_48, dX10_task_49, dX10_task_52, dX10_task_54, dX10_task_57, dX10_task_58, dX10_task_59, dX10_task_60, dX10_task_63, dX10_task_64, dX10_task_67, dX10_task_69, dX10_task_7, dX10_task_71, dX10_task_74, dX10_task_75, dX10_task_76, dX10_task_79, dX10_task_8, dX10_task_82, dX10_task_85, dX10_task_87, dX10_task_89, dX10_task_9, dX10_task_90, dX10_task_91, dX10_task_92, dX10_task_95, dX10_task_96, dX10_task_99, jX10_task_15, jX10_task_27, jX10_task_54, jX10_task_71, kb_10, kb_6, kc_0, kc_1, kc_n1, kf_0, kf_1, kf_2, kf_3, mX10_isWithin_c, mX10_isWithin_s, mX10_task_b, mX10_task_c, mX10_task_r, mX10_task_s, mX1_compile_c, mX1_compile_s, mX4_leaves_c, mX4_leaves_s, mX9_begin_c, mX9_begin_s, zfl_10_10, zfl_10_32, zfl_10_36, zfl_10_41, zfl_10_45, zfl_10_62, zfl_10_69, zld_10_54, zml_10_55, zml_10_65, zml_10_72, zml_10_78, znwn_10_59, zw_aaload, zw_aload_n, zw_astore_n, zw_bipush, zw_dup, zw_getfield, zw_iadd, zw_iconst, zw_ifCond, zw_if_icmp, zw_iload, zw_iload_n, zw_invokespecial, zw_invokestatic, zw_invokevirtual, zw_ireturn, zw_istore, zw_isub, zw_ldc, zw_new, zw_putfield, zxc_10_59, hd1, ez, hq]
