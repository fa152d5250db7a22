/-! A PIECE OF THE MODEL IS FREE AGAIN -/
def xVI (S : zst) : Prop := ∀ t, t < 6 → ∀ p, p < 20 → (¬ S 504 t p = 0 → xIn (S 505 t p)) ∧ (S 504 t p = 3 → xIn (S 600 t p))
theorem Rel.pay {S : zst} {M : mst} {z : Nat} {v : Int32} (R : Rel S M) : Rel (zu3 S 300 z 0 v) (mu M 45 z v) := by
  obtain ⟨r1, r2, r3, r4, r5, r6, r7⟩ := R
  refine ⟨r1.c (fun f hf => by (unfold rFA at hf; rw [zu3_r _ (by omega)])) (fun k hk => by (unfold rKA at hk; rw [mu_n _ (by omega)])), fun y hy => ?_, r3.c (fun f hf => by (unfold rFT at hf; rw [zu3_r _ (by omega)])) (fun k hk => by (unfold rKT at hk; rw [mu_n _ (by omega)])), r4.c (fun f hf => by (unfold rFC at hf; rw [zu3_r _ (by omega)])) (fun k hk => by (unfold rKC at hk; rw [mu_n _ (by omega)])), r5.c (fun f hf => by (unfold rFX at hf; rw [zu3_r _ (by omega)])) (fun k hk => by (unfold rKX at hk; rw [mu_n _ (by omega)])), r6.c (fun f hf => by (unfold rFP at hf; rw [zu3_r _ (by omega)])) (fun k hk => by (unfold rKP at hk; rw [mu_n _ (by omega)])), r7.c (fun f hf => by (unfold rFB at hf; rw [zu3_r _ (by omega)])) (fun k hk => by (unfold rKB at hk; rw [mu_n _ (by omega)]))⟩
  obtain ⟨b1, b2, b3⟩ := r2 y hy
  refine ⟨?_, ?_, ?_⟩ <;> simp only [mu_a _ 45, zu3_a, Nat.reduceEqDiff, false_and, true_and, if_false, and_true]
  · split
    · rfl
    · exact b1
  · exact b2
  · exact b3
theorem Rel.chest {S : zst} {M : mst} {v : Int32} (R : Rel S M) : Rel (zu3 S 204 0 0 v) (mu M 1026 0 v) := by
  obtain ⟨r1, r2, r3, r4, r5, r6, r7⟩ := R
  refine ⟨?_, r2.c (fun f hf => by (unfold rFH at hf; rw [zu3_r _ (by omega)])) (fun k hk => by (unfold rKH at hk; rw [mu_n _ (by omega)])), r3.c (fun f hf => by (unfold rFT at hf; rw [zu3_r _ (by omega)])) (fun k hk => by (unfold rKT at hk; rw [mu_n _ (by omega)])), r4.c (fun f hf => by (unfold rFC at hf; rw [zu3_r _ (by omega)])) (fun k hk => by (unfold rKC at hk; rw [mu_n _ (by omega)])), r5.c (fun f hf => by (unfold rFX at hf; rw [zu3_r _ (by omega)])) (fun k hk => by (unfold rKX at hk; rw [mu_n _ (by omega)])), r6.c (fun f hf => by (unfold rFP at hf; rw [zu3_r _ (by omega)])) (fun k hk => by (unfold rKP at hk; rw [mu_n _ (by omega)])), r7.c (fun f hf => by (unfold rFB at hf; rw [zu3_r _ (by omega)])) (fun k hk => by (unfold rKB at hk; rw [mu_n _ (by omega)]))⟩
  obtain ⟨a1, a2, a3, a4, a5, a6, a7, a8, a9, a10, a11⟩ := r1
  unfold RelA
  simp only [mu_a _ 1026, zu3_a, Nat.reduceEqDiff, false_and, and_self, if_true, if_false, ↓reduceIte]
  exact ⟨a1, a2, a3, a4, a5, trivial, a7, a8, a9, a10, a11⟩
def mFrees (M : mst) (t x : Nat) : mst := mu (mu (mu (mu (mu (mu M 30 x 0) 16 t (M 16 t + M 32 x)) 32 x 0) 33 x 0) 35 x 0) 43 x (M 43 x + 1)
theorem mFrees_p {M : mst} {t x : Nat} {w : Int32} : mFrees (mu M 33 x w) t x = mFrees M t x := by
  funext k i
  unfold mFrees
  simp only [mu_a, Nat.reduceEqDiff, false_and, if_false]
  by_cases q : k = 33 ∧ i = x
  · simp only [q, and_self, Nat.reduceEqDiff, false_and, if_false, if_true, ↓reduceIte]
  · simp only [q, ↓reduceIte]
set_option maxHeartbeats 4000000 in
set_option maxRecDepth 100000 in
theorem m_frees {l G d D h Q} {M : mst} {t p : Nat} (H : zMH D M h) (ht : t < 6) (hp : p < 20) (hQ : ∀ g, zMH D (mFrees M t (20 * t + p)) g → zFM D h g → Q (.inl none) g) : zCall l G mX11_frees d [.ref D, .int (nI (20 * t + p))] h Q := by
  have k := H.k
  obtain ⟨e1, e2⟩ := xD20 ht hp
  obtain ⟨p1, p2, p3⟩ := H.1.p30
  obtain ⟨p4, p5, p6⟩ := H.1.p16
  obtain ⟨p7, p8, p9⟩ := H.1.p32
  obtain ⟨p10, p11, p12⟩ := H.1.p33
  obtain ⟨p13, p14, p15⟩ := H.1.p35
  obtain ⟨p16, p17, p18⟩ := H.1.p43
  have a := H.a16
  have b := H.a32
  have c := H.a43
  have x1 := mA_x (D := D) mOk16 mOk30 (by decide)
  have x2 := mA_x (D := D) mOk32 mOk30 (by decide)
  have x3 := mA_x (D := D) mOk32 mOk16 (by decide)
  have x4 := mA_x (D := D) mOk43 mOk30 (by decide)
  have x5 := mA_x (D := D) mOk43 mOk16 (by decide)
  have x6 := mA_x (D := D) mOk43 mOk32 (by decide)
  have x7 := mA_x (D := D) mOk43 mOk33 (by decide)
  have x8 := mA_x (D := D) mOk43 mOk35 (by decide)
  have z1 : zin (nI (20 * t + p)) 120 = True := eq_true (zin_nI (by omega) (by omega))
  have z2 := nI_clamp (show 20 * t + p < 2 ^ 31 by omega)
  have z3 : zin (nI t) 6 = True := eq_true (zin_nI (by omega) (by omega))
  have z4 := nI_clamp (show t < 2 ^ 31 by omega)
  have hq := hQ _ ((((((H.sA (k := 30) (i := 20 * t + p) (v := 0) mOk30).sA (k := 16) (i := t) (v := M 16 t + M 32 (20 * t + p)) mOk16).sA (k := 32) (i := 20 * t + p) (v := 0) mOk32).sA (k := 33) (i := 20 * t + p) (v := 0) mOk33).sA (k := 35) (i := 20 * t + p) (v := 0) mOk35).sA (k := 43) (i := 20 * t + p) (v := M 43 (20 * t + p) + 1) mOk43) ((((((zFM.sA mOk30).tr (zFM.sA mOk16)).tr (zFM.sA mOk32)).tr (zFM.sA mOk33)).tr (zFM.sA mOk35)).tr (zFM.sA mOk43))
  refine zEnt 11 false mX11_frees _ _ _ _ [some (.ref D), some (.int (nI (20 * t + p)))] rfl (by decide +kernel) (fun h => by cases h) rfl (Nat.le_of_ble_eq_true rfl) fun X hX => ?_
  refine zrun0 hX 60 ?_
  simp only [zb_s, zm_ok, zgo_c, zstp_n, zstp_c, Bool.false_eq_true, Bool.false_or, Bool.or_false, Bool.true_or, eq_self, kne_10, kne_01, zget_0, zget_s, zst1_0, zst1_1, zst1_s, zst2_0, zst2_1, zst2_s, zht_c, zdl_n, zdl_i, zdl_r, zdl_l, zct_i, zct_r, zct_l, zct_n, zct_q, zpI_c, zpL_c, zpR_c, zpR_q, zpQ_c, zpQ_n, zpQ_q, zpV_c, zpn_0, zpn_s, zvI_c, zvL_c, zvR_c, zcs_n, zcs_c, zcn_eq, zcn_ne, zcn_lt, zcn_ge, zcn_gt, zcn_le, zrs_n, zrs_s, zrs_x, zpf_0, zpf_1, zpf_2, zpf_3, zfv_0, zfv_1, zfv_2, zfv_3, List.length_cons, List.length_nil, List.nil_append, List.cons_append, List.append_nil, Nat.reduceAdd, Nat.reduceSub, Nat.reduceMul, Nat.reduceLT, Nat.reduceLeDiff, Nat.reduceEqDiff, Nat.reduceBEq, Nat.zero_add, Nat.add_zero, Nat.sub_zero, Nat.zero_le, Nat.le_refl, true_and, and_true, implies_true, forall_const, true_or, or_true, not_true_eq_false, not_false_eq_true, Classical.not_not, false_implies, and_self, ↓reduceIte, reduceCtorEq, exists_eq_left, exists_eq_left', Option.some.injEq, Int.reduceAdd, Int.reduceSub, Int.reduceNeg, List.size_toArray, znc_2, znc_3, znc_4, znc_5, znc_6, znc_7, znc_8, znc_9, znc_10, znc_11, znc_12, znc_13, znc_14, znc_15, znc_16, znc_17, znc_18, znc_19, znc_20, znc_21, znc_22, znc_23, znc_24, znc_25, znc_26, znc_27, znc_28, znc_29, znc_30, znc_31, znc_32, kn_0, kn_1, kn_2, kn_3, kn_4, kn_5, kn_6, kn_7, kn_8, kn_9, kn_10, kn_11, kn_12, kn_13, kn_14, kn_15, kn_16, kn_17, kn_18, kn_19, kn_20, kn_21, kn_22, kn_23, kn_24, kn_25, kn_26, kn_27, kn_28, kn_29, kn_30, kn_31, kn_32, kn_33, kn_34, kn_35, kn_36, kn_37, kn_38, kn_39, kn_40, kzi_0_128, kzi_1_128, kzi_2_128, kzi_3_128, kzi_0_3, kzi_1_3, kzi_2_3, kzi_0_32, kzi_1_32, kzi_2_32, kzi_3_32, kzi_0_10, kzi_1_10, kzi_2_10, kzi_3_10, zte_0, zte_1, zte_2, zte_3, zte_4, zte_5, zte_6, zte_7, zte_8, zte_9, zte_10, zte_11, zte_12, zte_13, zte_14, zte_15, zte_16, dX11_frees_0, dX11_frees_1, dX11_frees_11, dX11_frees_12, dX11_frees_14, dX11_frees_15, dX11_frees_16, dX11_frees_17, dX11_frees_18, dX11_frees_21, dX11_frees_22, dX11_frees_23, dX11_frees_24, dX11_frees_25, dX11_frees_26, dX11_frees_29, dX11_frees_30, dX11_frees_31, dX11_frees_32, dX11_frees_33, dX11_frees_36, dX11_frees_37, dX11_frees_38, dX11_frees_39, dX11_frees_4, dX11_frees_40, dX11_frees_43, dX11_frees_44, dX11_frees_45, dX11_frees_46, dX11_frees_47, dX11_frees_5, dX11_frees_50, dX11_frees_51, dX11_frees_52, dX11_frees_53, dX11_frees_54, dX11_frees_55, dX11_frees_56, dX11_frees_6, dX11_frees_7, dX11_frees_8, kb_20, kc_0, kc_1, kf_0, kf_1, mX11_frees_b, mX11_frees_c, mX11_frees_r, mX11_frees_s, zfl_11_112, zfl_11_36, zfl_11_73, zfl_11_79, zfl_11_82, zfl_11_88, zw_aload_n, zw_bipush, zw_dup2, zw_getfield, zw_iadd, zw_iaload, zw_iastore, zw_iconst, zw_idiv, zw_iload_n, zw_return_, k, k20_0, false_and, if_false, ↓reduceIte, e1, p1, p2, p3, p4, p5, p6, p7, p8, p9, p10, p11, p12, p13, p14, p15, p16, p17, p18, a, b, c, x1, x2, x3, x4, x5, x6, x7, x8, z1, z2, z3, z4, zK_sA, zP_sA, zN_sA, zA_sA, hq]
theorem Rel.frees {S : zst} {M : mst} {t p : Nat} (ht : t < 6) (hp : p < 20) (h0 : ¬ S 504 t p = 0) (h4 : ¬ S 504 t p = 4) (R : Rel S M) : Rel (xReopen S t p) (mFrees M t (20 * t + p)) := by
  obtain ⟨r1, r2, r3, r4, r5, r6, r7⟩ := R
  have P := r6 t ht p hp
  have T := r3 t ht
  unfold xReopen mFrees
  refine ⟨r1.c (fun f hf => by (unfold rFA at hf; rw [zu3_r _ (by omega), zu3_r _ (by omega), zu3_r _ (by omega), zu3_r _ (by omega), zu3_r _ (by omega)])) (fun k hk => by (unfold rKA at hk; rw [mu_n _ (by omega), mu_n _ (by omega), mu_n _ (by omega), mu_n _ (by omega), mu_n _ (by omega), mu_n _ (by omega)])), r2.c (fun f hf => by (unfold rFH at hf; rw [zu3_r _ (by omega), zu3_r _ (by omega), zu3_r _ (by omega), zu3_r _ (by omega), zu3_r _ (by omega)])) (fun k hk => by (unfold rKH at hk; rw [mu_n _ (by omega), mu_n _ (by omega), mu_n _ (by omega), mu_n _ (by omega), mu_n _ (by omega), mu_n _ (by omega)])), fun u hu => ?_, r4.c (fun f hf => by (unfold rFC at hf; rw [zu3_r _ (by omega), zu3_r _ (by omega), zu3_r _ (by omega), zu3_r _ (by omega), zu3_r _ (by omega)])) (fun k hk => by (unfold rKC at hk; rw [mu_n _ (by omega), mu_n _ (by omega), mu_n _ (by omega), mu_n _ (by omega), mu_n _ (by omega), mu_n _ (by omega)])), r5.c (fun f hf => by (unfold rFX at hf; rw [zu3_r _ (by omega), zu3_r _ (by omega), zu3_r _ (by omega), zu3_r _ (by omega), zu3_r _ (by omega)])) (fun k hk => by (unfold rKX at hk; rw [mu_n _ (by omega), mu_n _ (by omega), mu_n _ (by omega), mu_n _ (by omega), mu_n _ (by omega), mu_n _ (by omega)])), ?_, r7.c (fun f hf => by (unfold rFB at hf; rw [zu3_r _ (by omega), zu3_r _ (by omega), zu3_r _ (by omega), zu3_r _ (by omega), zu3_r _ (by omega)])) (fun k hk => by (unfold rKB at hk; rw [mu_n _ (by omega), mu_n _ (by omega), mu_n _ (by omega), mu_n _ (by omega), mu_n _ (by omega), mu_n _ (by omega)]))⟩
  · obtain ⟨b1, b2, b3, b4, b5, b6, b7⟩ := r3 u hu
    have pr : M 32 (20 * t + p) = S 506 t p := P.2.2.2.2.1.trans (if_neg (by
      rintro (z | z)
      · exact h0 z
      · exact h4 z))
    simp only [mu_a _ 30, mu_a _ 16, mu_a _ 32, mu_a _ 33, mu_a _ 35, mu_a _ 43, zu3_a, Nat.reduceEqDiff, false_and, true_and, and_true, if_false]
    refine ⟨b1, b2, b3, ?_, b5, b6, b7⟩
    by_cases q : u = t
    · rw [if_pos q, if_pos q, T.2.2.2.1, pr]
    · rw [if_neg q, if_neg q]
      exact b4
  · refine r6.up ht hp (fun f u q hf e => ?_) (fun k x hk1 hk2 hx => ?_) (fun k x hk h1 h2 => ?_) ?_
    · unfold rFP at hf
      rw [zu3_a, if_neg (fun z => e z.2), zu3_a, if_neg (fun z => e z.2), zu3_a, if_neg (fun z => e z.2), zu3_a, if_neg (fun z => e z.2), zu3_r _ (by omega)]
    · unfold rKP at hk1
      rw [mu_a, if_neg (fun z => hx z.2), mu_a, if_neg (fun z => hx z.2), mu_a, if_neg (fun z => hx z.2), mu_a, if_neg (fun z => hx z.2), mu_n _ (by omega), mu_a, if_neg (fun z => hx z.2)]
    · unfold rKQ at hk
      rw [mu_n _ (by omega), mu_n _ (by omega), mu_n _ (by omega), mu_n _ (by omega), mu_n _ (by omega), mu_n _ (by omega)]
    · have P2 : M 43 (20 * t + p) = S 513 t p := P.2.1
      simp only [RelPc] at P
      simp only [RelPc, zu3_a, mu_a _ 30, mu_a _ 16, mu_a _ 32, mu_a _ 33, mu_a _ 35, mu_a _ 43, Nat.reduceEqDiff, and_self, true_and, false_and, and_true, if_true, if_false, ↓reduceIte]
      grind
