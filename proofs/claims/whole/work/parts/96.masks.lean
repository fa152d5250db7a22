/-! THE MODEL ASKS -/
def mAsks (M : mst) (x : Nat) : mst := mu (mu (mu M 42 (2 * x) 0) 42 (2 * x + 1) 0) 34 x (M 1025 0)
set_option maxHeartbeats 4000000 in
set_option maxRecDepth 100000 in
theorem m_asks {l G d D h Q} {M : mst} {x : Nat} (H : zMH D M h) (hx : x < 120) (hQ : ∀ g, zMH D (mAsks M x) g → zFM D h g → Q (.inl none) g) : zCall l G mX11_asks d [.ref D, .int (nI x)] h Q := by
  have k := H.k
  obtain ⟨p1, p2, p3⟩ := H.1.p42
  obtain ⟨p4, p5, p6⟩ := H.1.p34
  have i1 := H.i (f := 1025) (by omega)
  have z1 : zin (nI x) 120 = True := eq_true (zin_nI (by omega) (by omega))
  have z2 := nI_clamp (show x < 2 ^ 31 by omega)
  have m2 : 2 * nI x = nI (2 * x) := (nI_mul 2 x).symm
  have m3 : nI (2 * x) + 1 = nI (2 * x + 1) := (nI_succ _).symm
  have z3 : zin (nI (2 * x)) 240 = True := eq_true (zin_nI (by omega) (by omega))
  have z4 : zin (nI (2 * x + 1)) 240 = True := eq_true (zin_nI (by omega) (by omega))
  have c3 := nI_clamp (show 2 * x < 2 ^ 31 by omega)
  have c4 := nI_clamp (show 2 * x + 1 < 2 ^ 31 by omega)
  have hq := hQ _ (((H.sA (k := 42) (i := 2 * x) (v := 0) mOk42).sA (k := 42) (i := 2 * x + 1) (v := 0) mOk42).sA (k := 34) (i := x) (v := M 1025 0) mOk34) (((zFM.sA mOk42).tr (zFM.sA mOk42)).tr (zFM.sA mOk34))
  refine zEnt 11 false mX11_asks _ _ _ _ [some (.ref D), some (.int (nI x))] rfl (by decide +kernel) (fun h => by cases h) rfl (Nat.le_of_ble_eq_true rfl) fun X hX => ?_
  refine zrun0 hX 60 ?_
  simp only [zb_s, zm_ok, zgo_c, zstp_n, zstp_c, Bool.false_eq_true, Bool.false_or, Bool.or_false, Bool.true_or, eq_self, kne_10, kne_01, zget_0, zget_s, zst1_0, zst1_1, zst1_s, zst2_0, zst2_1, zst2_s, zht_c, zdl_n, zdl_i, zdl_r, zdl_l, zct_i, zct_r, zct_l, zct_n, zct_q, zpI_c, zpL_c, zpR_c, zpR_q, zpQ_c, zpQ_n, zpQ_q, zpV_c, zpn_0, zpn_s, zvI_c, zvL_c, zvR_c, zcs_n, zcs_c, zcn_eq, zcn_ne, zcn_lt, zcn_ge, zcn_gt, zcn_le, zrs_n, zrs_s, zrs_x, zpf_0, zpf_1, zpf_2, zpf_3, zfv_0, zfv_1, zfv_2, zfv_3, List.length_cons, List.length_nil, List.nil_append, List.cons_append, List.append_nil, Nat.reduceAdd, Nat.reduceSub, Nat.reduceMul, Nat.reduceLT, Nat.reduceLeDiff, Nat.reduceEqDiff, Nat.reduceBEq, Nat.zero_add, Nat.add_zero, Nat.sub_zero, Nat.zero_le, Nat.le_refl, true_and, and_true, implies_true, forall_const, true_or, or_true, not_true_eq_false, not_false_eq_true, Classical.not_not, false_implies, and_self, ↓reduceIte, reduceCtorEq, exists_eq_left, exists_eq_left', Option.some.injEq, Int.reduceAdd, Int.reduceSub, Int.reduceNeg, List.size_toArray, znc_2, znc_3, znc_4, znc_5, znc_6, znc_7, znc_8, znc_9, znc_10, znc_11, znc_12, znc_13, znc_14, znc_15, znc_16, znc_17, znc_18, znc_19, znc_20, znc_21, znc_22, znc_23, znc_24, znc_25, znc_26, znc_27, znc_28, znc_29, znc_30, znc_31, znc_32, kn_0, kn_1, kn_2, kn_3, kn_4, kn_5, kn_6, kn_7, kn_8, kn_9, kn_10, kn_11, kn_12, kn_13, kn_14, kn_15, kn_16, kn_17, kn_18, kn_19, kn_20, kn_21, kn_22, kn_23, kn_24, kn_25, kn_26, kn_27, kn_28, kn_29, kn_30, kn_31, kn_32, kn_33, kn_34, kn_35, kn_36, kn_37, kn_38, kn_39, kn_40, kzi_0_128, kzi_1_128, kzi_2_128, kzi_3_128, kzi_0_3, kzi_1_3, kzi_2_3, kzi_0_32, kzi_1_32, kzi_2_32, kzi_3_32, kzi_0_10, kzi_1_10, kzi_2_10, kzi_3_10, zte_0, zte_1, zte_2, zte_3, zte_4, zte_5, zte_6, zte_7, zte_8, zte_9, zte_10, zte_11, zte_12, zte_13, zte_14, zte_15, zte_16, dX11_asks_0, dX11_asks_1, dX11_asks_10, dX11_asks_13, dX11_asks_14, dX11_asks_15, dX11_asks_16, dX11_asks_17, dX11_asks_18, dX11_asks_19, dX11_asks_20, dX11_asks_21, dX11_asks_24, dX11_asks_25, dX11_asks_26, dX11_asks_29, dX11_asks_30, dX11_asks_4, dX11_asks_5, dX11_asks_6, dX11_asks_7, dX11_asks_8, dX11_asks_9, kc_0, kc_1, kc_2, kf_0, kf_1, mX11_asks_b, mX11_asks_c, mX11_asks_r, mX11_asks_s, zfl_11_109, zfl_11_340, zfl_11_85, zw_aload_n, zw_bastore, zw_getfield, zw_iadd, zw_iastore, zw_iconst, zw_iload_n, zw_imul, zw_return_, k, p1, p2, p3, p4, p5, p6, i1, z1, z2, z3, z4, c3, c4, m2, m3, zK_sA, zP_sA, zN_sA, zI_sA, true_or, hq]
theorem Rel.ask {S : zst} {M : mst} {t p : Nat} {n : Int32} (ht : t < 6) (hp : p < 20) (h3 : S 504 t p = 3) (hn : S 203 0 0 = n) (R : Rel S M) : Rel (xAsk S t p n) (mAsks M (20 * t + p)) := by
  obtain ⟨r1, r2, r3, r4, r5, r6, r7⟩ := R
  have P := r6 t ht p hp
  have et : M 1025 0 = n := by rw [← hn]; exact r1.2.2.2.2.1
  unfold xAsk mAsks
  rw [et]
  refine ⟨r1.c (fun f hf => by (unfold rFA at hf; rw [zu3_r _ (by omega), zu3_r _ (by omega), zu3_r _ (by omega)])) (fun k hk => by (unfold rKA at hk; rw [mu_n _ (by omega), mu_n _ (by omega), mu_n _ (by omega)])), r2.c (fun f hf => by (unfold rFH at hf; rw [zu3_r _ (by omega), zu3_r _ (by omega), zu3_r _ (by omega)])) (fun k hk => by (unfold rKH at hk; rw [mu_n _ (by omega), mu_n _ (by omega), mu_n _ (by omega)])), r3.c (fun f hf => by (unfold rFT at hf; rw [zu3_r _ (by omega), zu3_r _ (by omega), zu3_r _ (by omega)])) (fun k hk => by (unfold rKT at hk; rw [mu_n _ (by omega), mu_n _ (by omega), mu_n _ (by omega)])), r4.c (fun f hf => by (unfold rFC at hf; rw [zu3_r _ (by omega), zu3_r _ (by omega), zu3_r _ (by omega)])) (fun k hk => by (unfold rKC at hk; rw [mu_n _ (by omega), mu_n _ (by omega), mu_n _ (by omega)])), r5.c (fun f hf => by (unfold rFX at hf; rw [zu3_r _ (by omega), zu3_r _ (by omega), zu3_r _ (by omega)])) (fun k hk => by (unfold rKX at hk; rw [mu_n _ (by omega), mu_n _ (by omega), mu_n _ (by omega)])), ?_, r7.c (fun f hf => by (unfold rFB at hf; rw [zu3_r _ (by omega), zu3_r _ (by omega), zu3_r _ (by omega)])) (fun k hk => by (unfold rKB at hk; rw [mu_n _ (by omega), mu_n _ (by omega), mu_n _ (by omega)]))⟩
  refine r6.up ht hp (fun f u q hf e => ?_) (fun k x hk1 hk2 hx => ?_) (fun k x hk h1 h2 => ?_) ?_
  · rw [zu3_a, if_neg (fun z => e z.2), zu3_a, if_neg (fun z => e z.2), zu3_a, if_neg (fun z => e z.2)]
  · unfold rKQ at hk2
    rw [mu_a, if_neg (fun z => hx z.2), mu_n _ (by omega), mu_n _ (by omega)]
  · unfold rKQ at hk
    rw [mu_n _ (by omega), mu_a, if_neg (fun z => h2 z.2), mu_a, if_neg (fun z => h1 z.2)]
  · have ne : ∀ y : Nat, (2 * y = 2 * y + 1) = False := fun y => eq_false (by omega)
    have ne2 : ∀ y : Nat, (2 * y + 1 = 2 * y) = False := fun y => eq_false (by omega)
    simp only [RelPc, h3] at P
    simp only [RelPc, h3, Nat.add_zero, zu3_a, mu_a _ 34, mu_a _ 42, Nat.reduceEqDiff, ne, ne2, and_self, true_and, false_and, and_true, and_false, if_true, if_false, ↓reduceIte]
    simp only [Nat.add_zero] at P
    grind
