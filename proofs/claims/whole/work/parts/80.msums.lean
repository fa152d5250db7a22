/-! LENGTHS, SUMS, OUTS OF THE MODEL -/
/-- the code of each task can be run -/
def xWf (S : zst) : Prop := ∀ t, t < 6 → nI t < S 904 0 0 → ∃ m, S 805 t 0 = nI m ∧ wCode (S 2002 t) (S 2003 t) m
theorem wRun {K N : zcells} {n : Nat} {dp : Nat → Nat} (hn : n ≤ 200) (hdp : ∀ pc, pc < n → dp pc ≤ 32 ∧ wOp (K pc) (N pc) (dp pc) ∧ wNx (K pc) (N pc) n dp pc) : ∀ (f : Nat) (T : zcells × zcells), wSt dp n T.1 → wSt dp n (mcRun K N (nI n) f T).1.1
  | 0, T, h => h
  | f + 1, T, h => by
    have h' := h
    obtain ⟨pc, hpc, c0, c1⟩ := h'
    obtain ⟨u1, u2, u3⟩ := hdp pc hpc
    unfold mcRun
    split
    · exact h
    · rename_i q
      have hk : ¬ K pc = 0 := fun e => q (Or.inr (by rw [c0, nI_clamp (by omega)]; exact e))
      refine wRun hn hdp f _ ?_
      unfold mcGo
      rw [c0, nI_clamp (by omega)]
      exact wStep hn hpc c0 c1 u1 u2 u3 hk
theorem wInit {m : zcells} {dp : Nat → Nat} {n : Nat} (h0 : dp 0 = 0) (hn : 1 ≤ n) : wSt dp n (mcInit m) := ⟨0, by omega, by
    rw [nI_0]
    exact if_neg (by omega), by
    rw [h0, nI_0]
    exact if_neg (by omega)⟩
/-- a run stands at a step of the code -/
theorem wAt {K N : zcells} {n f : Nat} {m : zcells} (hw : wCode K N n) : ∃ pc, pc < n ∧ n ≤ 200 ∧ (mcRun K N (nI n) f (mcInit m, zz)).1.1 0 = nI pc := by
  obtain ⟨h1, h2, dp, dp0, hdp⟩ := hw
  obtain ⟨pc, a, b, -⟩ := wRun h2 hdp f (mcInit m, zz) (wInit dp0 h1)
  exact ⟨pc, a, h2, b⟩
theorem xRun_m {S : zst} {t m st : Nat} (hm : S 805 t 0 = nI m) : mcRun (S 2002 t) (S 2003 t) (nI m) st (mcInit (xMem0 S t 0 0), zz) = xRun S t st := by
  unfold xRun xMem0
  rw [hm, if_pos rfl]
/-- rows of a run alone have changed -/
def mRn (M M2 : mst) : Prop := ∀ j, ¬ j = 18 → ¬ j = 19 → ¬ j = 20 → M2 j = M j
theorem mRn.rf (M : mst) : mRn M M := fun _ _ _ _ => rfl
theorem mRn.tr {A B C : mst} (x : mRn A B) (y : mRn B C) : mRn A C := fun j h1 h2 h3 => (y j h1 h2 h3).trans (x j h1 h2 h3)
theorem mRn.w2 {M : mst} {C O : zcells} : mRn M (mw (mw M 18 C) 19 O) := fun j h1 h2 _ => by rw [mw_n _ h2, mw_n _ h1]
theorem Rel.rn {S : zst} {M M2 : mst} (R : Rel S M) (h : mRn M M2) : Rel S M2 := R.sc fun k hk => h k (fun e => hk (by unfold mSc; omega)) (fun e => hk (by unfold mSc; omega)) (fun e => hk (by unfold mSc; omega))
set_option maxHeartbeats 4000000 in
set_option maxRecDepth 100000 in
theorem m_lengthOf {l G d D h Q} {S : zst} {M : mst} {t : Nat} (hd : 3 ≤ d) (H : zMH D M h) (R : Rel S M) (W : xWf S) (ht : t < 6) (hc : nI t < S 904 0 0) (hQ : ∀ g M2, zMH D M2 g → mRn M M2 → zFM D h g → Q (.inl (some (.int (xLen S t)))) g) : zCall l G mX11_lengthOf d [.ref D, .int (nI t)] h Q := by
  have hd0 : 0 < d := by omega
  have kk := H.k
  obtain ⟨m, hm, hw⟩ := W t ht hc
  refine zEnt 11 false mX11_lengthOf _ _ _ _ [some (.ref D), some (.int (nI t)), none] rfl (by decide +kernel) (fun h => by cases h) rfl (Nat.le_of_ble_eq_true rfl) fun X hX => ?_
  refine zrun0 hX 60 ?_
  simp only [zb_s, zm_ok, zgo_c, zstp_n, zstp_c, Bool.false_eq_true, Bool.false_or, Bool.or_false, Bool.true_or, eq_self, kne_10, kne_01, zget_0, zget_s, zst1_0, zst1_1, zst1_s, zst2_0, zst2_1, zst2_s, zht_c, zdl_n, zdl_i, zdl_r, zdl_l, zct_i, zct_r, zct_l, zct_n, zct_q, zpI_c, zpL_c, zpR_c, zpR_q, zpQ_c, zpQ_n, zpQ_q, zpV_c, zpn_0, zpn_s, zvI_c, zvL_c, zvR_c, zcs_n, zcs_c, zcn_eq, zcn_ne, zcn_lt, zcn_ge, zcn_gt, zcn_le, zrs_n, zrs_s, zrs_x, zpf_0, zpf_1, zpf_2, zpf_3, zfv_0, zfv_1, zfv_2, zfv_3, List.length_cons, List.length_nil, List.nil_append, List.cons_append, List.append_nil, Nat.reduceAdd, Nat.reduceSub, Nat.reduceMul, Nat.reduceLT, Nat.reduceLeDiff, Nat.reduceEqDiff, Nat.reduceBEq, Nat.zero_add, Nat.add_zero, Nat.sub_zero, Nat.zero_le, Nat.le_refl, true_and, and_true, implies_true, forall_const, true_or, or_true, not_true_eq_false, not_false_eq_true, Classical.not_not, false_implies, and_self, ↓reduceIte, reduceCtorEq, exists_eq_left, exists_eq_left', Option.some.injEq, Int.reduceAdd, Int.reduceSub, Int.reduceNeg, List.size_toArray, znc_2, znc_3, znc_4, znc_5, znc_6, znc_7, znc_8, znc_9, znc_10, znc_11, znc_12, znc_13, znc_14, znc_15, znc_16, znc_17, znc_18, znc_19, znc_20, znc_21, znc_22, znc_23, znc_24, znc_25, znc_26, znc_27, znc_28, znc_29, znc_30, znc_31, znc_32, kn_0, kn_1, kn_2, kn_3, kn_4, kn_5, kn_6, kn_7, kn_8, kn_9, kn_10, kn_11, kn_12, kn_13, kn_14, kn_15, kn_16, kn_17, kn_18, kn_19, kn_20, kn_21, kn_22, kn_23, kn_24, kn_25, kn_26, kn_27, kn_28, kn_29, kn_30, kn_31, kn_32, kn_33, kn_34, kn_35, kn_36, kn_37, kn_38, kn_39, kn_40, kzi_0_128, kzi_1_128, kzi_2_128, kzi_3_128, kzi_0_3, kzi_1_3, kzi_2_3, kzi_0_32, kzi_1_32, kzi_2_32, kzi_3_32, kzi_0_10, kzi_1_10, kzi_2_10, kzi_3_10, zte_0, zte_1, zte_2, zte_3, zte_4, zte_5, zte_6, zte_7, zte_8, zte_9, zte_10, zte_11, zte_12, zte_13, zte_14, zte_15, zte_16, dX11_lengthOf_0, dX11_lengthOf_1, dX11_lengthOf_10, dX11_lengthOf_11, dX11_lengthOf_12, dX11_lengthOf_15, dX11_lengthOf_18, dX11_lengthOf_19, dX11_lengthOf_2, dX11_lengthOf_20, dX11_lengthOf_21, dX11_lengthOf_24, dX11_lengthOf_25, dX11_lengthOf_26, dX11_lengthOf_27, dX11_lengthOf_28, dX11_lengthOf_3, dX11_lengthOf_31, dX11_lengthOf_32, dX11_lengthOf_35, dX11_lengthOf_36, dX11_lengthOf_4, dX11_lengthOf_7, jX11_lengthOf_28, jX11_lengthOf_32, kc_0, kc_n1, kf_0, kf_1, kf_2, ks_20000, ks_500, mX11_lengthOf_b, mX11_lengthOf_c, mX11_lengthOf_r, mX11_lengthOf_s, mX11_runs_c, mX11_runs_s, zfl_11_27, zfl_11_42, zml_11_308, zw_aload_n, zw_getfield, zw_goto, zw_iadd, zw_iaload, zw_iconst, zw_ifCond, zw_iload_n, zw_imul, zw_invokevirtual, zw_ireturn, zw_istore_n, zw_sipush, hd0, kk]
  have run := m_runs (l := l) (G := G) (d := d - 1) (D := D) (h := h) (S := S) (M := M) (t := t) (n := 0) (k := 0) (st := 20000) (m := m) (by omega) H R.2.2.1 ht hm hw (Or.inl rfl) (by omega) (Q := zrs (fun vs h2 => zgo [] (fun _ _ _ _ _ _ => False) (zb l G 11 false cX11_lengthOf (some .int) d Q [] (fun _ _ _ _ _ _ => False) 54) 10 [some (.ref D), some (.int (nI t)), none] (vs ++ []) h2 0 0) (fun E h2 => Q (.inr E) h2))
  sorry
