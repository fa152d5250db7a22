/-! THE HALL: new -/
theorem ChI.k {h : zH} {a : Nat} (H : ChI h a) : zK h a = 1 := H.1.1
def HaL (h : zH) (B i : Nat) : Prop := (zK h B = 10 ∧ (∀ f, zI h B f = if f = 907 then -1 else 0) ∧ zP h B 900 = some (B + 1) ∧ zP h B 901 = some (B + 6) ∧ zP h B 902 = some (B + 21) ∧ zP h B 903 = some (B + 27)) ∧ CoI h (B + 1) ∧ CtI h (B + 6) ∧ ChI h (B + 21) ∧ (zK h (B + 27) = 105 ∧ zN h (B + 27) = 6) ∧ ∀ t, t < i → zR h (B + 27) t = some (B + (28 + 113 * t)) ∧ TkL h (B + (28 + 113 * t)) 20
theorem HaL.eq {h g : zH} {B i : Nat} (H : HaL h B i) (e : ∀ b, B ≤ b → b < B + (28 + 113 * i) → zEq h g b) : HaL g B i := by
  obtain ⟨⟨h1, h2, p0, p1, p2, p3⟩, q0, q1, q2, ⟨q4, q5⟩, q7⟩ := H
  obtain ⟨e1, -, e3, -, e5, -⟩ := e B (by omega) (by omega)
  obtain ⟨u1, u2, -, -, -, -, -, u8⟩ := e (B + 27) (by omega) (by omega)
  refine ⟨⟨by rw [e1]; exact h1, by rw [e3]; exact h2, by rw [e5]; exact p0, by rw [e5]; exact p1, by rw [e5]; exact p2, by rw [e5]; exact p3⟩, q0.eq (fun b x y => e b (by omega) (by omega)), q1.eq (fun b x y => e b (by omega) (by omega)), q2.eq (fun b x y => e b (by omega) (by omega)), ⟨by rw [u1]; exact q4, by rw [u2]; exact q5⟩, fun j hj => ?_⟩
  obtain ⟨w1, w2⟩ := q7 j hj
  exact ⟨by rw [u8]; exact w1, w2.eq (fun b x y => e b (by omega) (by omega))⟩
theorem HaL.step {g : zH} {B i : Nat} (H : HaL g B i) (P : TkL g (B + (28 + 113 * i)) 20) : HaL (zsR g (B + 27) i (some (B + (28 + 113 * i)))) B (i + 1) := by
  obtain ⟨⟨h1, h2, p0, p1, p2, p3⟩, q0, q1, q2, ⟨q4, q5⟩, q7⟩ := H
  have E : ∀ b, ¬ b = B + 27 → zEq g (zsR g (B + 27) i (some (B + (28 + 113 * i)))) b := fun b x => (zEq.rf g b).sR x
  obtain ⟨e1, -, e3, -, e5, -⟩ := E B (by omega)
  refine ⟨⟨by rw [e1]; exact h1, by rw [e3]; exact h2, by rw [e5]; exact p0, by rw [e5]; exact p1, by rw [e5]; exact p2, by rw [e5]; exact p3⟩, q0.eq (fun b x y => E b (by omega)), q1.eq (fun b x y => E b (by omega)), q2.eq (fun b x y => E b (by omega)), ⟨by rw [zK_sR]; exact q4, by rw [zN_sR]; exact q5⟩, fun j hj => ?_⟩
  by_cases q : j = i
  · subst q
    exact ⟨by rw [zR_sR, if_pos ⟨rfl, rfl⟩], P.eq (fun b x y => E b (by omega))⟩
  · obtain ⟨w1, w2⟩ := q7 j (by omega)
    exact ⟨by rw [zR_sR, if_neg (fun z => q z.2)]; exact w1, w2.eq (fun b x y => E b (by omega))⟩
/-- the state at first -/
def xS0 : zst := fun f _ k => if f = 505 ∨ f = 600 ∨ f = 907 then -1 else if f = 2001 then (if k = 2 then 50 else if k = 1 then 5 else if k = 0 then 10 else 0) else 0
theorem xS0_z {f i k : Nat} (h1 : ¬ (f = 505 ∨ f = 600 ∨ f = 907)) (h2 : ¬ f = 2001) : xS0 f i k = 0 := by
  unfold xS0
  rw [if_neg h1, if_neg h2]
theorem xS0_zz {f i : Nat} (h2 : 2001 < f) : xS0 f i = zz := funext fun k => xS0_z (by omega) (by omega)
theorem HaL.xr {h : zH} {B : Nat} (H : HaL h B 6) : zXR B xS0 h := by
  obtain ⟨⟨h1, h2, p0, p1, p2, p3⟩, ⟨⟨o1, o2, o3, o4, o5⟩, ⟨⟨o6, o7, o8⟩, o9⟩, o10, o11⟩, ⟨⟨c1, c2, c3, c4, c5⟩, ⟨⟨⟨m1, m2, m3, m4, m5⟩, m6, m7, m8⟩, m9⟩, ⟨c6, c7⟩, ⟨c8, c9⟩, c10⟩, ⟨⟨b1, b2, b3, b4, b5, b6, b7⟩, b8, b9, b10, b11, b12⟩, ⟨q4, q5⟩, q7⟩ := H
  have T : ∀ t, t < 6 → TkL h (aTask B t) 20 := fun t ht => by
    rw [show aTask B t = B + (28 + 113 * t) by unfold aTask; omega]
    exact (q7 t ht).2
  have eK : ∀ t, aTask B t + 1 = aKin B t := fun t => by unfold aTask aKin; omega
  have eN : ∀ t, aTask B t + 2 = aNum B t := fun t => by unfold aTask aNum; omega
  have eM : ∀ t, aTask B t + 3 = aMem B t := fun t => by unfold aTask aMem; omega
  have eL : ∀ t, aTask B t + 4 = aLots B t := fun t => by unfold aTask aLots; omega
  have el : ∀ t k, aTask B t + 4 + 1 + k = aLot B t k := fun t k => by unfold aTask aLot; omega
  have eP : ∀ t, aTask B t + 12 = aPcs B t := fun t => by unfold aTask aPcs; omega
  have ep : ∀ t p, aTask B t + (13 + 5 * p) = aPc B t p := fun t p => by unfold aTask aPc; omega
  have e1 : ∀ t p, aPc B t p + 1 = aQu B t p := fun t p => by unfold aPc aQu; omega
  have e2 : ∀ t p, aPc B t p + 2 = aBP B t p := fun t p => by unfold aPc aBP; omega
  have e3 : ∀ t p, aPc B t p + 3 = aBH B t p := fun t p => by unfold aPc aBH; omega
  have e4 : ∀ t p, aPc B t p + 4 = aBL B t p := fun t p => by unfold aPc aBL; omega
  have TT : ∀ t, t < 6 → zTS B t h ∧ (∀ f, zI h (aTask B t) f = 0) ∧ zA h (aKin B t) = zz ∧ zA h (aNum B t) = zz ∧ zA h (aMem B t) = zz ∧ (∀ k, k < 7 → zA h (aLot B t k) = zz) ∧ ∀ p, p < 20 → (∀ f, zI h (aPc B t p) f = if f = 505 then -1 else 0) ∧ (∀ f, zI h (aQu B t p) f = if f = 600 then -1 else 0) ∧ zA h (aBP B t p) = zz ∧ zA h (aBH B t p) = zz ∧ zA h (aBL B t p) = zz := by
    intro t ht
    obtain ⟨⟨t1, t2, t3, t4, t5, t6, t7⟩, ⟨n1, n2, n3⟩, ⟨⟨l1, l2⟩, l3⟩, ⟨r1, r2⟩, r3⟩ := T t ht
    rw [eK] at t3 n1
    rw [eN] at t4 n2
    rw [eM] at t5 n3
    rw [eL] at t6 l1 l2
    rw [eP] at t7 r1 r2
    obtain ⟨n11, n12, -, -, n15, -⟩ := n1
    obtain ⟨n21, n22, -, -, n25, -⟩ := n2
    obtain ⟨n31, n32, -, -, n35, -⟩ := n3
    have P : ∀ p, p < 20 → PcI h (aPc B t p) := fun p hp => by
      have := (r3 p hp).2
      rwa [ep] at this
    refine ⟨⟨⟨⟨t1, t3, t4, t5, t6, t7⟩, ⟨n11, n12⟩, ⟨n21, n22⟩, ⟨n31, n32⟩, ⟨l1, l2⟩, ⟨r1, r2⟩⟩, fun k hk => ?_, fun p hp => ?_⟩, t2, n15, n25, n35, fun k hk => ?_, fun p hp => ?_⟩
    · have := l3 k hk
      rw [el, eL] at this
      exact ⟨this.1, this.2.1⟩
    · obtain ⟨⟨u1, u2, u3, u4, u5, u6⟩, ⟨u7, u8⟩, u9, u10, u11⟩ := P p hp
      have w := (r3 p hp).1
      rw [ep, eP] at w
      rw [e1] at u2 u7
      rw [e2] at u3 u9
      rw [e3] at u4 u10
      rw [e4] at u5 u11
      exact ⟨w, u1, u2, u3, u4, u5, u7, ⟨u9.1, u9.2.1⟩, ⟨u10.1, u10.2.1⟩, ⟨u11.1, u11.2.1⟩⟩
    · have := l3 k hk
      rw [el] at this
      exact this.2.2
    · obtain ⟨⟨u1, u2, u3, u4, u5, u6⟩, ⟨u7, u8⟩, u9, u10, u11⟩ := P p hp
      rw [e1] at u8
      rw [e2] at u9
      rw [e3] at u10
      rw [e4] at u11
      exact ⟨u6, u8, u9.2.2.2.2.1, u10.2.2.2.2.1, u11.2.2.2.2.1⟩
  have HH : ∀ i, i < 8 → zR h (aHs B) i = some (aHouse B i) ∧ zNw h (aHouse B i) 4 0 := fun i hi => by
    have := c10 i hi
    rw [show B + 6 + (7 + i) = aHouse B i by unfold aHouse; omega] at this
    exact this
  refine ⟨⟨⟨h1, p0, p1, p2, p3⟩, ⟨o1, o3, o4, o5, ⟨o10.1, o10.2.1⟩, ⟨o11.1, o11.2.1⟩⟩, ⟨o6, o8, ⟨o9.1, o9.2.1⟩⟩, ⟨c1, c3, c4, c5, c6, c7, c8⟩, ⟨⟨m1, m3, m4, m5⟩, ⟨m6.1, m6.2.1⟩, ⟨m7.1, m7.2.1⟩, ⟨m8.1, m8.2.1⟩, ?_, ?_, ?_⟩, fun i hi => ⟨(HH i hi).1, (HH i hi).2.1⟩, ⟨b1, b3, b4, b5, b6, b7, ⟨b8.1, b8.2.1⟩, ⟨b9.1, b9.2.1⟩, ⟨b10.1, b10.2.1⟩, ⟨b11.1, b11.2.1⟩, ⟨b12.1, b12.2.1⟩⟩, ⟨q4, q5⟩, fun t ht => ⟨?_, (TT t ht).1⟩⟩, ⟨fun f i k e => ?_, fun f i e => ?_⟩, ?_, ?_, fun u hu hr => ?_, fun b hb => ?_⟩
  · unfold aCells aOuts; omega
  · unfold aCells aTree; omega
  · unfold aOuts aTree; omega
  · have := (q7 t ht).1
    rw [show B + (28 + 113 * t) = aTask B t by unfold aTask; omega] at this
    exact this
  · unfold xdI at e
    rcases e with e | e | e | e | e | e | e
    · rw [xa_2 e.1, xS0_z (by omega) (by omega)]
      exact c2 f
    · rw [xa_3 e.1, xS0_z (by omega) (by omega)]
      exact (HH i e.2.1).2.2.2.1 f
    · rw [xa_5 e.1, ((TT i e.2.1).2.2.2.2.2.2 k e.2.2).1 f]
      unfold xS0
      by_cases q : f = 505
      · rw [if_pos q, if_pos (Or.inl q)]
      · rw [if_neg q, if_neg (by omega), if_neg (by omega)]
    · rw [xa_6 e.1, ((TT i e.2.1).2.2.2.2.2.2 k e.2.2).2.1 f]
      unfold xS0
      by_cases q : f = 600
      · rw [if_pos q, if_pos (Or.inr (Or.inl q))]
      · rw [if_neg q, if_neg (by omega), if_neg (by omega)]
    · rw [xa_7 (by omega), xS0_z (by omega) (by omega)]
      exact o7 f
    · rw [xa_8 e.1, xS0_z (by omega) (by omega)]
      exact (TT i e.2.1).2.1 f
    · rw [xa_9 e.1]
      refine (h2 f).trans ?_
      unfold xS0
      by_cases q : f = 907
      · rw [if_pos q, if_pos (Or.inr (Or.inr q))]
      · rw [if_neg q, if_neg (by omega), if_neg (by omega)]
  · unfold xdA at e
    rcases e with ⟨rfl, e⟩ | ⟨rfl, e⟩ | ⟨rfl, e⟩ | ⟨rfl, e⟩ | ⟨rfl, e⟩ | ⟨rfl, e⟩ | ⟨rfl, e⟩ | ⟨rfl, e⟩ | ⟨rfl, e⟩ | ⟨rfl, e⟩ | ⟨rfl, e⟩
    · rw [xa_1]
      exact c9
    · rw [xa_k, xS0_zz (by omega)]
      exact (TT i e).2.2.1
    · rw [xa_n, xS0_zz (by omega)]
      exact (TT i e).2.2.2.1
    · rw [xa_m, xS0_zz (by omega)]
      exact (TT i e).2.2.2.2.1
    · rw [xa_l, xS0_zz (by omega)]
      exact (TT (i / 7) (by omega)).2.2.2.2.2.1 _ (by omega)
    · rw [xa_p, xS0_zz (by omega)]
      exact ((TT (i / 20) (by omega)).2.2.2.2.2.2 _ (by omega)).2.2.1
    · rw [xa_h, xS0_zz (by omega)]
      exact ((TT (i / 20) (by omega)).2.2.2.2.2.2 _ (by omega)).2.2.2.1
    · rw [xa_d, xS0_zz (by omega)]
      exact ((TT (i / 20) (by omega)).2.2.2.2.2.2 _ (by omega)).2.2.2.2
    · rw [xa_t, xS0_zz (by omega)]
      exact o9.2.2.2.2.1
    · rw [xa_u, xS0_zz (by omega)]
      exact b11.2.2.2.2.1
    · rw [xa_v, xS0_zz (by omega)]
      exact b12.2.2.2.2.1
  · have : zA h (aCells B) = zz := m6.2.2.2.2.1
    rw [this]
    exact fun _ _ => rfl
  · have : zA h (aOuts B) = zz := m7.2.2.2.2.1
    rw [this]
    exact fun _ _ => rfl
  · have : zP h (aMach B) 403 = none := m9
    rw [this] at hr
    cases hr
  · have : zP h (aMach B) 403 = none := m9
    rw [this] at hb
    cases hb
set_option maxHeartbeats 4000000 in
set_option maxRecDepth 100000 in
theorem x10_init {l G d B h Q} (hd : 5 ≤ d) (hk : zK h B = 10) (hs : zS h = some (B + 1)) (hi : ∀ f, zI h B f = 0) (hQ : ∀ g, zS g = some (B + 706) → zLow h g B → zXR B xS0 g → Q (.inl none) g) : zCall l G mX10_init d [.ref B] h Q := by
  have hd0 : 0 < d := by omega
  have n1 : ¬ B = B + 1 := by omega
  have n6 : ¬ B = B + 6 := by omega
  have n21 : ¬ B = B + 21 := by omega
  have n27 : ¬ B = B + 27 := by omega
  refine zEnt 10 true mX10_init _ _ _ _ [some (.ref B), none] rfl (by decide +kernel) (fun _ => rfl) rfl (Nat.le_of_ble_eq_true rfl) fun X hX => ?_
  have L : ∀ (f i : Nat) (g : zH) (c s : Nat), f + i = 6 → 113 * f ≤ c → 1928 * f ≤ s → HaL g B i → zS g = some (B + (28 + 113 * i)) → zLow h g B → zJ l G X 53 [some (.ref B), some (.int (nI i))] [] g c s := by
    intro f
    induction f with
    | zero =>
      intro i g c s hf hc hs H1 hS hL
      have e6 : i = 6 := by omega
      subst e6
      have hcd : (6 ≤ nI 6) = True := eq_true (by decide)
      have hq := hQ g hS hL H1.xr
      refine zrunS hX [53] 60 ?_
      simp only [zb_s, zm_ok, zgo_c, zstp_n, zstp_c, Bool.false_eq_true, Bool.false_or, Bool.or_false, Bool.true_or, eq_self, kne_10, kne_01, zget_0, zget_s, zst1_0, zst1_1, zst1_s, zst2_0, zst2_1, zst2_s, zht_c, zdl_n, zdl_i, zdl_r, zdl_l, zct_i, zct_r, zct_l, zct_n, zct_q, zpI_c, zpL_c, zpR_c, zpR_q, zpQ_c, zpQ_n, zpQ_q, zpV_c, zpn_0, zpn_s, zvI_c, zvL_c, zvR_c, zcs_n, zcs_c, zcn_eq, zcn_ne, zcn_lt, zcn_ge, zcn_gt, zcn_le, zrs_n, zrs_s, zrs_x, zpf_0, zpf_1, zpf_2, zpf_3, zfv_0, zfv_1, zfv_2, zfv_3, List.length_cons, List.length_nil, List.nil_append, List.cons_append, List.append_nil, Nat.reduceAdd, Nat.reduceSub, Nat.reduceMul, Nat.reduceLT, Nat.reduceLeDiff, Nat.reduceEqDiff, Nat.reduceBEq, Nat.zero_add, Nat.add_zero, Nat.sub_zero, Nat.zero_le, Nat.le_refl, true_and, and_true, implies_true, forall_const, true_or, or_true, not_true_eq_false, not_false_eq_true, Classical.not_not, false_implies, and_self, ↓reduceIte, reduceCtorEq, exists_eq_left, exists_eq_left', Option.some.injEq, Int.reduceAdd, Int.reduceSub, Int.reduceNeg, List.size_toArray, znc_2, znc_3, znc_4, znc_5, znc_6, znc_7, znc_8, znc_9, znc_10, znc_11, znc_12, znc_13, znc_14, znc_15, znc_16, znc_17, znc_18, znc_19, znc_20, znc_21, znc_22, znc_23, znc_24, znc_25, znc_26, znc_27, znc_28, znc_29, znc_30, znc_31, znc_32, kn_0, kn_1, kn_2, kn_3, kn_4, kn_5, kn_6, kn_7, kn_8, kn_9, kn_10, kn_11, kn_12, kn_13, kn_14, kn_15, kn_16, kn_17, kn_18, kn_19, kn_20, kn_21, kn_22, kn_23, kn_24, kn_25, kn_26, kn_27, kn_28, kn_29, kn_30, kn_31, kn_32, kn_33, kn_34, kn_35, kn_36, kn_37, kn_38, kn_39, kn_40, kzi_0_128, kzi_1_128, kzi_2_128, kzi_3_128, kzi_0_3, kzi_1_3, kzi_2_3, kzi_0_32, kzi_1_32, kzi_2_32, kzi_3_32, kzi_0_10, kzi_1_10, kzi_2_10, kzi_3_10, zte_0, zte_1, zte_2, zte_3, zte_4, zte_5, zte_6, zte_7, zte_8, zte_9, zte_10, zte_11, zte_12, zte_13, zte_14, zte_15, zte_16, dX10_init_0, dX10_init_1, dX10_init_12, dX10_init_15, dX10_init_16, dX10_init_19, dX10_init_20, dX10_init_23, dX10_init_26, dX10_init_27, dX10_init_30, dX10_init_31, dX10_init_34, dX10_init_37, dX10_init_38, dX10_init_4, dX10_init_40, dX10_init_43, dX10_init_46, dX10_init_47, dX10_init_48, dX10_init_5, dX10_init_51, dX10_init_52, dX10_init_53, dX10_init_54, dX10_init_56, dX10_init_59, dX10_init_60, dX10_init_63, dX10_init_64, dX10_init_67, dX10_init_68, dX10_init_71, dX10_init_72, dX10_init_75, dX10_init_78, dX10_init_8, dX10_init_9, jX10_init_56, jX10_init_75, kb_6, kc_0, kc_1, kc_n1, kf_0, kf_1, mX0_init_c, mX0_init_s, mX10_init_b, mX10_init_c, mX10_init_r, mX10_init_s, mX1_init_c, mX1_init_s, mX2_init_c, mX2_init_s, mX9_init_c, mX9_init_s, zfl_10_10, zfl_10_19, zfl_10_26, zfl_10_32, zfl_10_36, zml_10_1, zml_10_18, zml_10_25, zml_10_40, zml_10_9, zna_10_30, znw_10_16, znw_10_23, znw_10_30, znw_10_7, zw_aastore, zw_aload_n, zw_anewarray, zw_bipush, zw_dup, zw_getfield, zw_goto, zw_iconst, zw_if_icmp, zw_iinc, zw_iload_n, zw_invokespecial, zw_istore_n, zw_new, zw_putfield, zw_return_, hcd, hq]
    | succ f ih =>
      intro i g c s hf hc hs H1 hS hL
      have hcd : (6 ≤ nI i) = False := eq_false (nI_ge (a := i) (b := 6) (by omega) (by omega))
      have z1 : zin (nI i) 6 = True := eq_true (zin_nI (by omega) (by omega))
      have z2 := nI_clamp (show i < 2 ^ 31 by omega)
      have hc1 : (1 ≤ c) = True := eq_true (by omega)
      have hs1 : (9 ≤ s) = True := eq_true (by omega)
      have hc2 : (112 ≤ c - 1) = True := eq_true (by omega)
      have hs2 : (1919 ≤ s - 9) = True := eq_true (by omega)
      have H1' := H1
      obtain ⟨⟨h1, h2, p0, p1, p2, p3⟩, -, -, -, ⟨q4, q5⟩, -⟩ := H1
      refine zrunS hX [53] 60 ?_
      simp only [zb_s, zm_ok, zgo_c, zstp_n, zstp_c, Bool.false_eq_true, Bool.false_or, Bool.or_false, Bool.true_or, eq_self, kne_10, kne_01, zget_0, zget_s, zst1_0, zst1_1, zst1_s, zst2_0, zst2_1, zst2_s, zht_c, zdl_n, zdl_i, zdl_r, zdl_l, zct_i, zct_r, zct_l, zct_n, zct_q, zpI_c, zpL_c, zpR_c, zpR_q, zpQ_c, zpQ_n, zpQ_q, zpV_c, zpn_0, zpn_s, zvI_c, zvL_c, zvR_c, zcs_n, zcs_c, zcn_eq, zcn_ne, zcn_lt, zcn_ge, zcn_gt, zcn_le, zrs_n, zrs_s, zrs_x, zpf_0, zpf_1, zpf_2, zpf_3, zfv_0, zfv_1, zfv_2, zfv_3, List.length_cons, List.length_nil, List.nil_append, List.cons_append, List.append_nil, Nat.reduceAdd, Nat.reduceSub, Nat.reduceMul, Nat.reduceLT, Nat.reduceLeDiff, Nat.reduceEqDiff, Nat.reduceBEq, Nat.zero_add, Nat.add_zero, Nat.sub_zero, Nat.zero_le, Nat.le_refl, true_and, and_true, implies_true, forall_const, true_or, or_true, not_true_eq_false, not_false_eq_true, Classical.not_not, false_implies, and_self, ↓reduceIte, reduceCtorEq, exists_eq_left, exists_eq_left', Option.some.injEq, Int.reduceAdd, Int.reduceSub, Int.reduceNeg, List.size_toArray, znc_2, znc_3, znc_4, znc_5, znc_6, znc_7, znc_8, znc_9, znc_10, znc_11, znc_12, znc_13, znc_14, znc_15, znc_16, znc_17, znc_18, znc_19, znc_20, znc_21, znc_22, znc_23, znc_24, znc_25, znc_26, znc_27, znc_28, znc_29, znc_30, znc_31, znc_32, kn_0, kn_1, kn_2, kn_3, kn_4, kn_5, kn_6, kn_7, kn_8, kn_9, kn_10, kn_11, kn_12, kn_13, kn_14, kn_15, kn_16, kn_17, kn_18, kn_19, kn_20, kn_21, kn_22, kn_23, kn_24, kn_25, kn_26, kn_27, kn_28, kn_29, kn_30, kn_31, kn_32, kn_33, kn_34, kn_35, kn_36, kn_37, kn_38, kn_39, kn_40, kzi_0_128, kzi_1_128, kzi_2_128, kzi_3_128, kzi_0_3, kzi_1_3, kzi_2_3, kzi_0_32, kzi_1_32, kzi_2_32, kzi_3_32, kzi_0_10, kzi_1_10, kzi_2_10, kzi_3_10, zte_0, zte_1, zte_2, zte_3, zte_4, zte_5, zte_6, zte_7, zte_8, zte_9, zte_10, zte_11, zte_12, zte_13, zte_14, zte_15, zte_16, dX10_init_0, dX10_init_1, dX10_init_12, dX10_init_15, dX10_init_16, dX10_init_19, dX10_init_20, dX10_init_23, dX10_init_26, dX10_init_27, dX10_init_30, dX10_init_31, dX10_init_34, dX10_init_37, dX10_init_38, dX10_init_4, dX10_init_40, dX10_init_43, dX10_init_46, dX10_init_47, dX10_init_48, dX10_init_5, dX10_init_51, dX10_init_52, dX10_init_53, dX10_init_54, dX10_init_56, dX10_init_59, dX10_init_60, dX10_init_63, dX10_init_64, dX10_init_67, dX10_init_68, dX10_init_71, dX10_init_72, dX10_init_75, dX10_init_78, dX10_init_8, dX10_init_9, jX10_init_56, jX10_init_75, kb_6, kc_0, kc_1, kc_n1, kf_0, kf_1, mX0_init_c, mX0_init_s, mX10_init_b, mX10_init_c, mX10_init_r, mX10_init_s, mX1_init_c, mX1_init_s, mX2_init_c, mX2_init_s, mX9_init_c, mX9_init_s, zfl_10_10, zfl_10_19, zfl_10_26, zfl_10_32, zfl_10_36, zml_10_1, zml_10_18, zml_10_25, zml_10_40, zml_10_9, zna_10_30, znw_10_16, znw_10_23, znw_10_30, znw_10_7, zw_aastore, zw_aload_n, zw_anewarray, zw_bipush, zw_dup, zw_getfield, zw_goto, zw_iconst, zw_if_icmp, zw_iinc, zw_iload_n, zw_invokespecial, zw_istore_n, zw_new, zw_putfield, zw_return_, hd0, hcd, h1, p3, hS, hc1, hs1, hc2, hs2]
      refine x9_init (by omega) (by rw [zK_al, if_pos rfl]) rfl (fun f => by rw [zI_al, if_pos rfl]) fun g2 s2 l2 P2 => ?_
      have H2 : HaL g2 B i := H1'.eq (fun b x y => ((zEq.rf g b).al (by omega)).tr (l2 b (by omega)))
      have H3 := H2.step P2
      have k2 := P2.1.1
      obtain ⟨-, -, -, -, ⟨u4, u5⟩, -⟩ := H2
      have l0 := ih (i + 1) _ (c - 1 - 112) (s - 9 - 1919) (by omega) (by omega) (by omega) H3 (by rw [zS_sR, s2]; congr 1) (fun b hb => (((hL b hb).al (by omega)).tr (l2 b (by omega))).sR (by omega))
      simp only [zb_s, zm_ok, zgo_c, zstp_n, zstp_c, Bool.false_eq_true, Bool.false_or, Bool.or_false, Bool.true_or, eq_self, kne_10, kne_01, zget_0, zget_s, zst1_0, zst1_1, zst1_s, zst2_0, zst2_1, zst2_s, zht_c, zdl_n, zdl_i, zdl_r, zdl_l, zct_i, zct_r, zct_l, zct_n, zct_q, zpI_c, zpL_c, zpR_c, zpR_q, zpQ_c, zpQ_n, zpQ_q, zpV_c, zpn_0, zpn_s, zvI_c, zvL_c, zvR_c, zcs_n, zcs_c, zcn_eq, zcn_ne, zcn_lt, zcn_ge, zcn_gt, zcn_le, zrs_n, zrs_s, zrs_x, zpf_0, zpf_1, zpf_2, zpf_3, zfv_0, zfv_1, zfv_2, zfv_3, List.length_cons, List.length_nil, List.nil_append, List.cons_append, List.append_nil, Nat.reduceAdd, Nat.reduceSub, Nat.reduceMul, Nat.reduceLT, Nat.reduceLeDiff, Nat.reduceEqDiff, Nat.reduceBEq, Nat.zero_add, Nat.add_zero, Nat.sub_zero, Nat.zero_le, Nat.le_refl, true_and, and_true, implies_true, forall_const, true_or, or_true, not_true_eq_false, not_false_eq_true, Classical.not_not, false_implies, and_self, ↓reduceIte, reduceCtorEq, exists_eq_left, exists_eq_left', Option.some.injEq, Int.reduceAdd, Int.reduceSub, Int.reduceNeg, List.size_toArray, znc_2, znc_3, znc_4, znc_5, znc_6, znc_7, znc_8, znc_9, znc_10, znc_11, znc_12, znc_13, znc_14, znc_15, znc_16, znc_17, znc_18, znc_19, znc_20, znc_21, znc_22, znc_23, znc_24, znc_25, znc_26, znc_27, znc_28, znc_29, znc_30, znc_31, znc_32, kn_0, kn_1, kn_2, kn_3, kn_4, kn_5, kn_6, kn_7, kn_8, kn_9, kn_10, kn_11, kn_12, kn_13, kn_14, kn_15, kn_16, kn_17, kn_18, kn_19, kn_20, kn_21, kn_22, kn_23, kn_24, kn_25, kn_26, kn_27, kn_28, kn_29, kn_30, kn_31, kn_32, kn_33, kn_34, kn_35, kn_36, kn_37, kn_38, kn_39, kn_40, kzi_0_128, kzi_1_128, kzi_2_128, kzi_3_128, kzi_0_3, kzi_1_3, kzi_2_3, kzi_0_32, kzi_1_32, kzi_2_32, kzi_3_32, kzi_0_10, kzi_1_10, kzi_2_10, kzi_3_10, zte_0, zte_1, zte_2, zte_3, zte_4, zte_5, zte_6, zte_7, zte_8, zte_9, zte_10, zte_11, zte_12, zte_13, zte_14, zte_15, zte_16, dX10_init_0, dX10_init_1, dX10_init_12, dX10_init_15, dX10_init_16, dX10_init_19, dX10_init_20, dX10_init_23, dX10_init_26, dX10_init_27, dX10_init_30, dX10_init_31, dX10_init_34, dX10_init_37, dX10_init_38, dX10_init_4, dX10_init_40, dX10_init_43, dX10_init_46, dX10_init_47, dX10_init_48, dX10_init_5, dX10_init_51, dX10_init_52, dX10_init_53, dX10_init_54, dX10_init_56, dX10_init_59, dX10_init_60, dX10_init_63, dX10_init_64, dX10_init_67, dX10_init_68, dX10_init_71, dX10_init_72, dX10_init_75, dX10_init_78, dX10_init_8, dX10_init_9, jX10_init_56, jX10_init_75, kb_6, kc_0, kc_1, kc_n1, kf_0, kf_1, mX0_init_c, mX0_init_s, mX10_init_b, mX10_init_c, mX10_init_r, mX10_init_s, mX1_init_c, mX1_init_s, mX2_init_c, mX2_init_s, mX9_init_c, mX9_init_s, zfl_10_10, zfl_10_19, zfl_10_26, zfl_10_32, zfl_10_36, zml_10_1, zml_10_18, zml_10_25, zml_10_40, zml_10_9, zna_10_30, znw_10_16, znw_10_23, znw_10_30, znw_10_7, zw_aastore, zw_aload_n, zw_anewarray, zw_bipush, zw_dup, zw_getfield, zw_goto, zw_iconst, zw_if_icmp, zw_iinc, zw_iload_n, zw_invokespecial, zw_istore_n, zw_new, zw_putfield, zw_return_, u4, u5, k2, z1, z2, ← nI_succ, l0]
  refine zrunS hX [53] 60 ?_
  simp only [zb_s, zm_ok, zgo_c, zstp_n, zstp_c, Bool.false_eq_true, Bool.false_or, Bool.or_false, Bool.true_or, eq_self, kne_10, kne_01, zget_0, zget_s, zst1_0, zst1_1, zst1_s, zst2_0, zst2_1, zst2_s, zht_c, zdl_n, zdl_i, zdl_r, zdl_l, zct_i, zct_r, zct_l, zct_n, zct_q, zpI_c, zpL_c, zpR_c, zpR_q, zpQ_c, zpQ_n, zpQ_q, zpV_c, zpn_0, zpn_s, zvI_c, zvL_c, zvR_c, zcs_n, zcs_c, zcn_eq, zcn_ne, zcn_lt, zcn_ge, zcn_gt, zcn_le, zrs_n, zrs_s, zrs_x, zpf_0, zpf_1, zpf_2, zpf_3, zfv_0, zfv_1, zfv_2, zfv_3, List.length_cons, List.length_nil, List.nil_append, List.cons_append, List.append_nil, Nat.reduceAdd, Nat.reduceSub, Nat.reduceMul, Nat.reduceLT, Nat.reduceLeDiff, Nat.reduceEqDiff, Nat.reduceBEq, Nat.zero_add, Nat.add_zero, Nat.sub_zero, Nat.zero_le, Nat.le_refl, true_and, and_true, implies_true, forall_const, true_or, or_true, not_true_eq_false, not_false_eq_true, Classical.not_not, false_implies, and_self, ↓reduceIte, reduceCtorEq, exists_eq_left, exists_eq_left', Option.some.injEq, Int.reduceAdd, Int.reduceSub, Int.reduceNeg, List.size_toArray, znc_2, znc_3, znc_4, znc_5, znc_6, znc_7, znc_8, znc_9, znc_10, znc_11, znc_12, znc_13, znc_14, znc_15, znc_16, znc_17, znc_18, znc_19, znc_20, znc_21, znc_22, znc_23, znc_24, znc_25, znc_26, znc_27, znc_28, znc_29, znc_30, znc_31, znc_32, kn_0, kn_1, kn_2, kn_3, kn_4, kn_5, kn_6, kn_7, kn_8, kn_9, kn_10, kn_11, kn_12, kn_13, kn_14, kn_15, kn_16, kn_17, kn_18, kn_19, kn_20, kn_21, kn_22, kn_23, kn_24, kn_25, kn_26, kn_27, kn_28, kn_29, kn_30, kn_31, kn_32, kn_33, kn_34, kn_35, kn_36, kn_37, kn_38, kn_39, kn_40, kzi_0_128, kzi_1_128, kzi_2_128, kzi_3_128, kzi_0_3, kzi_1_3, kzi_2_3, kzi_0_32, kzi_1_32, kzi_2_32, kzi_3_32, kzi_0_10, kzi_1_10, kzi_2_10, kzi_3_10, zte_0, zte_1, zte_2, zte_3, zte_4, zte_5, zte_6, zte_7, zte_8, zte_9, zte_10, zte_11, zte_12, zte_13, zte_14, zte_15, zte_16, dX10_init_0, dX10_init_1, dX10_init_12, dX10_init_15, dX10_init_16, dX10_init_19, dX10_init_20, dX10_init_23, dX10_init_26, dX10_init_27, dX10_init_30, dX10_init_31, dX10_init_34, dX10_init_37, dX10_init_38, dX10_init_4, dX10_init_40, dX10_init_43, dX10_init_46, dX10_init_47, dX10_init_48, dX10_init_5, dX10_init_51, dX10_init_52, dX10_init_53, dX10_init_54, dX10_init_56, dX10_init_59, dX10_init_60, dX10_init_63, dX10_init_64, dX10_init_67, dX10_init_68, dX10_init_71, dX10_init_72, dX10_init_75, dX10_init_78, dX10_init_8, dX10_init_9, jX10_init_56, jX10_init_75, kb_6, kc_0, kc_1, kc_n1, kf_0, kf_1, mX0_init_c, mX0_init_s, mX10_init_b, mX10_init_c, mX10_init_r, mX10_init_s, mX1_init_c, mX1_init_s, mX2_init_c, mX2_init_s, mX9_init_c, mX9_init_s, zfl_10_10, zfl_10_19, zfl_10_26, zfl_10_32, zfl_10_36, zml_10_1, zml_10_18, zml_10_25, zml_10_40, zml_10_9, zna_10_30, znw_10_16, znw_10_23, znw_10_30, znw_10_7, zw_aastore, zw_aload_n, zw_anewarray, zw_bipush, zw_dup, zw_getfield, zw_goto, zw_iconst, zw_if_icmp, zw_iinc, zw_iload_n, zw_invokespecial, zw_istore_n, zw_new, zw_putfield, zw_return_, hd0, hs, Nat.add_assoc]
  refine x1_init (by omega) (by rw [zK_al, if_pos rfl]) rfl (fun f => by rw [zI_al, if_pos rfl]) fun g0 s0 l0 T0 => ?_
  have ea : zEq h g0 B := ((zEq.rf h B).al n1).tr (l0 B (by omega))
  have k0 : zK g0 B = 10 := by rw [ea.1]; exact hk
  have s0' : zS g0 = some (B + 6) := s0
  simp only [zb_s, zm_ok, zgo_c, zstp_n, zstp_c, Bool.false_eq_true, Bool.false_or, Bool.or_false, Bool.true_or, eq_self, kne_10, kne_01, zget_0, zget_s, zst1_0, zst1_1, zst1_s, zst2_0, zst2_1, zst2_s, zht_c, zdl_n, zdl_i, zdl_r, zdl_l, zct_i, zct_r, zct_l, zct_n, zct_q, zpI_c, zpL_c, zpR_c, zpR_q, zpQ_c, zpQ_n, zpQ_q, zpV_c, zpn_0, zpn_s, zvI_c, zvL_c, zvR_c, zcs_n, zcs_c, zcn_eq, zcn_ne, zcn_lt, zcn_ge, zcn_gt, zcn_le, zrs_n, zrs_s, zrs_x, zpf_0, zpf_1, zpf_2, zpf_3, zfv_0, zfv_1, zfv_2, zfv_3, List.length_cons, List.length_nil, List.nil_append, List.cons_append, List.append_nil, Nat.reduceAdd, Nat.reduceSub, Nat.reduceMul, Nat.reduceLT, Nat.reduceLeDiff, Nat.reduceEqDiff, Nat.reduceBEq, Nat.zero_add, Nat.add_zero, Nat.sub_zero, Nat.zero_le, Nat.le_refl, true_and, and_true, implies_true, forall_const, true_or, or_true, not_true_eq_false, not_false_eq_true, Classical.not_not, false_implies, and_self, ↓reduceIte, reduceCtorEq, exists_eq_left, exists_eq_left', Option.some.injEq, Int.reduceAdd, Int.reduceSub, Int.reduceNeg, List.size_toArray, znc_2, znc_3, znc_4, znc_5, znc_6, znc_7, znc_8, znc_9, znc_10, znc_11, znc_12, znc_13, znc_14, znc_15, znc_16, znc_17, znc_18, znc_19, znc_20, znc_21, znc_22, znc_23, znc_24, znc_25, znc_26, znc_27, znc_28, znc_29, znc_30, znc_31, znc_32, kn_0, kn_1, kn_2, kn_3, kn_4, kn_5, kn_6, kn_7, kn_8, kn_9, kn_10, kn_11, kn_12, kn_13, kn_14, kn_15, kn_16, kn_17, kn_18, kn_19, kn_20, kn_21, kn_22, kn_23, kn_24, kn_25, kn_26, kn_27, kn_28, kn_29, kn_30, kn_31, kn_32, kn_33, kn_34, kn_35, kn_36, kn_37, kn_38, kn_39, kn_40, kzi_0_128, kzi_1_128, kzi_2_128, kzi_3_128, kzi_0_3, kzi_1_3, kzi_2_3, kzi_0_32, kzi_1_32, kzi_2_32, kzi_3_32, kzi_0_10, kzi_1_10, kzi_2_10, kzi_3_10, zte_0, zte_1, zte_2, zte_3, zte_4, zte_5, zte_6, zte_7, zte_8, zte_9, zte_10, zte_11, zte_12, zte_13, zte_14, zte_15, zte_16, dX10_init_0, dX10_init_1, dX10_init_12, dX10_init_15, dX10_init_16, dX10_init_19, dX10_init_20, dX10_init_23, dX10_init_26, dX10_init_27, dX10_init_30, dX10_init_31, dX10_init_34, dX10_init_37, dX10_init_38, dX10_init_4, dX10_init_40, dX10_init_43, dX10_init_46, dX10_init_47, dX10_init_48, dX10_init_5, dX10_init_51, dX10_init_52, dX10_init_53, dX10_init_54, dX10_init_56, dX10_init_59, dX10_init_60, dX10_init_63, dX10_init_64, dX10_init_67, dX10_init_68, dX10_init_71, dX10_init_72, dX10_init_75, dX10_init_78, dX10_init_8, dX10_init_9, jX10_init_56, jX10_init_75, kb_6, kc_0, kc_1, kc_n1, kf_0, kf_1, mX0_init_c, mX0_init_s, mX10_init_b, mX10_init_c, mX10_init_r, mX10_init_s, mX1_init_c, mX1_init_s, mX2_init_c, mX2_init_s, mX9_init_c, mX9_init_s, zfl_10_10, zfl_10_19, zfl_10_26, zfl_10_32, zfl_10_36, zml_10_1, zml_10_18, zml_10_25, zml_10_40, zml_10_9, zna_10_30, znw_10_16, znw_10_23, znw_10_30, znw_10_7, zw_aastore, zw_aload_n, zw_anewarray, zw_bipush, zw_dup, zw_getfield, zw_goto, zw_iconst, zw_if_icmp, zw_iinc, zw_iload_n, zw_invokespecial, zw_istore_n, zw_new, zw_putfield, zw_return_, hd0, k0, s0', zS_sS, zS_sI, zS_sL, zS_sP, zS_sA, zS_sB, zS_sR, zS_al, zK_sS, zK_sI, zK_sL, zK_sP, zK_sA, zK_sB, zK_sR, zK_al, zN_sS, zN_sI, zN_sL, zN_sP, zN_sA, zN_sB, zN_sR, zN_al, zI_sS, zI_sI, zI_sL, zI_sP, zI_sA, zI_sB, zI_sR, zI_al, zL_sS, zL_sI, zL_sL, zL_sP, zL_sA, zL_sB, zL_sR, zL_al, zP_sS, zP_sI, zP_sL, zP_sP, zP_sA, zP_sB, zP_sR, zP_al, zA_sS, zA_sI, zA_sL, zA_sP, zA_sA, zA_sB, zA_sR, zA_al, zB_sS, zB_sI, zB_sL, zB_sP, zB_sA, zB_sB, zB_sR, zB_al, zR_sS, zR_sI, zR_sL, zR_sP, zR_sA, zR_sB, zR_sR, zR_al, n1, n6, if_false, Nat.add_assoc]
  refine ⟨Or.inr rfl, x2_init (by omega) (by rw [zK_al, if_pos rfl]) rfl (fun f => by rw [zI_al, if_pos rfl]) fun g1 s1 l1 T1 => ?_⟩
  have E1 : ∀ b, b < B + 6 → ¬ b = B → zEq g0 g1 b := fun b x y => (((zEq.rf g0 b).sP y).al (by omega)).tr (l1 b x)
  have ea1 := (((zEq.rf _ B).al n6).tr (l1 B (by omega)))
  have k1 : zK g1 B = 10 := by
    rw [ea1.1, zK_sP]
    exact k0
  have s1' : zS g1 = some (B + 21) := s1
  simp only [zb_s, zm_ok, zgo_c, zstp_n, zstp_c, Bool.false_eq_true, Bool.false_or, Bool.or_false, Bool.true_or, eq_self, kne_10, kne_01, zget_0, zget_s, zst1_0, zst1_1, zst1_s, zst2_0, zst2_1, zst2_s, zht_c, zdl_n, zdl_i, zdl_r, zdl_l, zct_i, zct_r, zct_l, zct_n, zct_q, zpI_c, zpL_c, zpR_c, zpR_q, zpQ_c, zpQ_n, zpQ_q, zpV_c, zpn_0, zpn_s, zvI_c, zvL_c, zvR_c, zcs_n, zcs_c, zcn_eq, zcn_ne, zcn_lt, zcn_ge, zcn_gt, zcn_le, zrs_n, zrs_s, zrs_x, zpf_0, zpf_1, zpf_2, zpf_3, zfv_0, zfv_1, zfv_2, zfv_3, List.length_cons, List.length_nil, List.nil_append, List.cons_append, List.append_nil, Nat.reduceAdd, Nat.reduceSub, Nat.reduceMul, Nat.reduceLT, Nat.reduceLeDiff, Nat.reduceEqDiff, Nat.reduceBEq, Nat.zero_add, Nat.add_zero, Nat.sub_zero, Nat.zero_le, Nat.le_refl, true_and, and_true, implies_true, forall_const, true_or, or_true, not_true_eq_false, not_false_eq_true, Classical.not_not, false_implies, and_self, ↓reduceIte, reduceCtorEq, exists_eq_left, exists_eq_left', Option.some.injEq, Int.reduceAdd, Int.reduceSub, Int.reduceNeg, List.size_toArray, znc_2, znc_3, znc_4, znc_5, znc_6, znc_7, znc_8, znc_9, znc_10, znc_11, znc_12, znc_13, znc_14, znc_15, znc_16, znc_17, znc_18, znc_19, znc_20, znc_21, znc_22, znc_23, znc_24, znc_25, znc_26, znc_27, znc_28, znc_29, znc_30, znc_31, znc_32, kn_0, kn_1, kn_2, kn_3, kn_4, kn_5, kn_6, kn_7, kn_8, kn_9, kn_10, kn_11, kn_12, kn_13, kn_14, kn_15, kn_16, kn_17, kn_18, kn_19, kn_20, kn_21, kn_22, kn_23, kn_24, kn_25, kn_26, kn_27, kn_28, kn_29, kn_30, kn_31, kn_32, kn_33, kn_34, kn_35, kn_36, kn_37, kn_38, kn_39, kn_40, kzi_0_128, kzi_1_128, kzi_2_128, kzi_3_128, kzi_0_3, kzi_1_3, kzi_2_3, kzi_0_32, kzi_1_32, kzi_2_32, kzi_3_32, kzi_0_10, kzi_1_10, kzi_2_10, kzi_3_10, zte_0, zte_1, zte_2, zte_3, zte_4, zte_5, zte_6, zte_7, zte_8, zte_9, zte_10, zte_11, zte_12, zte_13, zte_14, zte_15, zte_16, dX10_init_0, dX10_init_1, dX10_init_12, dX10_init_15, dX10_init_16, dX10_init_19, dX10_init_20, dX10_init_23, dX10_init_26, dX10_init_27, dX10_init_30, dX10_init_31, dX10_init_34, dX10_init_37, dX10_init_38, dX10_init_4, dX10_init_40, dX10_init_43, dX10_init_46, dX10_init_47, dX10_init_48, dX10_init_5, dX10_init_51, dX10_init_52, dX10_init_53, dX10_init_54, dX10_init_56, dX10_init_59, dX10_init_60, dX10_init_63, dX10_init_64, dX10_init_67, dX10_init_68, dX10_init_71, dX10_init_72, dX10_init_75, dX10_init_78, dX10_init_8, dX10_init_9, jX10_init_56, jX10_init_75, kb_6, kc_0, kc_1, kc_n1, kf_0, kf_1, mX0_init_c, mX0_init_s, mX10_init_b, mX10_init_c, mX10_init_r, mX10_init_s, mX1_init_c, mX1_init_s, mX2_init_c, mX2_init_s, mX9_init_c, mX9_init_s, zfl_10_10, zfl_10_19, zfl_10_26, zfl_10_32, zfl_10_36, zml_10_1, zml_10_18, zml_10_25, zml_10_40, zml_10_9, zna_10_30, znw_10_16, znw_10_23, znw_10_30, znw_10_7, zw_aastore, zw_aload_n, zw_anewarray, zw_bipush, zw_dup, zw_getfield, zw_goto, zw_iconst, zw_if_icmp, zw_iinc, zw_iload_n, zw_invokespecial, zw_istore_n, zw_new, zw_putfield, zw_return_, hd0, k1, s1', zS_sS, zS_sI, zS_sL, zS_sP, zS_sA, zS_sB, zS_sR, zS_al, zK_sS, zK_sI, zK_sL, zK_sP, zK_sA, zK_sB, zK_sR, zK_al, zN_sS, zN_sI, zN_sL, zN_sP, zN_sA, zN_sB, zN_sR, zN_al, zI_sS, zI_sI, zI_sL, zI_sP, zI_sA, zI_sB, zI_sR, zI_al, zL_sS, zL_sI, zL_sL, zL_sP, zL_sA, zL_sB, zL_sR, zL_al, zP_sS, zP_sI, zP_sL, zP_sP, zP_sA, zP_sB, zP_sR, zP_al, zA_sS, zA_sI, zA_sL, zA_sP, zA_sA, zA_sB, zA_sR, zA_al, zB_sS, zB_sI, zB_sL, zB_sP, zB_sA, zB_sB, zB_sR, zB_al, zR_sS, zR_sI, zR_sL, zR_sP, zR_sA, zR_sB, zR_sR, zR_al, n1, n6, n21, if_false, Nat.add_assoc]
  refine ⟨Or.inr rfl, x0_init (by omega) (by rw [zK_al, if_pos rfl]) rfl (fun f => by rw [zI_al, if_pos rfl]) fun g2 s2 l2 T2 => ?_⟩
  have E2 : ∀ b, b < B + 21 → ¬ b = B → zEq g1 g2 b := fun b x y => (((zEq.rf g1 b).sP y).al (by omega)).tr (l2 b x)
  have ea2 := (((zEq.rf _ B).al n21).tr (l2 B (by omega)))
  have k2 : zK g2 B = 10 := by
    rw [ea2.1, zK_sP]
    exact k1
  have s2' : zS g2 = some (B + 27) := s2
  have i2 : ∀ f, zI g2 B f = 0 := fun f => by
    rw [ea2.2.2.1, zI_sP, ea1.2.2.1, zI_sP, ea.2.2.1]
    exact hi f
  have pc : zP g2 B 900 = some (B + 1) := by
    rw [ea2.2.2.2.2.1]
    simp only [zP_sP, Nat.reduceEqDiff, and_false, if_false, ea1.2.2.2.2.1, and_self, if_true]
  have pd : zP g2 B 901 = some (B + 6) := by
    rw [ea2.2.2.2.2.1]
    simp only [zP_sP, Nat.reduceEqDiff, and_false, if_false, and_self, if_true]
  let g3 := zsP g2 B 902 (some (B + 21))
  let g4 := zal g3 (B + 27) 105 6
  let g5 := zsP g4 B 903 (some (B + 27))
  let g6 := zsI g5 B 907 (-1)
  have E3 : ∀ b, ¬ b = B → ¬ b = B + 27 → zEq g2 g6 b := fun b x y => ((((zEq.rf g2 b).sP x).al y).sP x).sI x
  have HL := L 6 0 g6 678 11568 (by omega) (by omega) (by omega)
    (by
      refine ⟨⟨?_, fun f => ?_, ?_, ?_, ?_, ?_⟩, ?_, ?_, ?_, ⟨?_, ?_⟩, fun j hj => absurd hj (by omega)⟩
      · simp only [g6, g5, g4, g3, zS_sS, zS_sI, zS_sL, zS_sP, zS_sA, zS_sB, zS_sR, zS_al, zK_sS, zK_sI, zK_sL, zK_sP, zK_sA, zK_sB, zK_sR, zK_al, zN_sS, zN_sI, zN_sL, zN_sP, zN_sA, zN_sB, zN_sR, zN_al, zI_sS, zI_sI, zI_sL, zI_sP, zI_sA, zI_sB, zI_sR, zI_al, zL_sS, zL_sI, zL_sL, zL_sP, zL_sA, zL_sB, zL_sR, zL_al, zP_sS, zP_sI, zP_sL, zP_sP, zP_sA, zP_sB, zP_sR, zP_al, zA_sS, zA_sI, zA_sL, zA_sP, zA_sA, zA_sB, zA_sR, zA_al, zB_sS, zB_sI, zB_sL, zB_sP, zB_sA, zB_sB, zB_sR, zB_al, zR_sS, zR_sI, zR_sL, zR_sP, zR_sA, zR_sB, zR_sR, zR_al, n27, if_false]
        exact k2
      · simp only [g6, g5, g4, g3, zS_sS, zS_sI, zS_sL, zS_sP, zS_sA, zS_sB, zS_sR, zS_al, zK_sS, zK_sI, zK_sL, zK_sP, zK_sA, zK_sB, zK_sR, zK_al, zN_sS, zN_sI, zN_sL, zN_sP, zN_sA, zN_sB, zN_sR, zN_al, zI_sS, zI_sI, zI_sL, zI_sP, zI_sA, zI_sB, zI_sR, zI_al, zL_sS, zL_sI, zL_sL, zL_sP, zL_sA, zL_sB, zL_sR, zL_al, zP_sS, zP_sI, zP_sL, zP_sP, zP_sA, zP_sB, zP_sR, zP_al, zA_sS, zA_sI, zA_sL, zA_sP, zA_sA, zA_sB, zA_sR, zA_al, zB_sS, zB_sI, zB_sL, zB_sP, zB_sA, zB_sB, zB_sR, zB_al, zR_sS, zR_sI, zR_sL, zR_sP, zR_sA, zR_sB, zR_sR, zR_al, n27, if_false, i2, true_and]
      · simp only [g6, g5, g4, g3, zS_sS, zS_sI, zS_sL, zS_sP, zS_sA, zS_sB, zS_sR, zS_al, zK_sS, zK_sI, zK_sL, zK_sP, zK_sA, zK_sB, zK_sR, zK_al, zN_sS, zN_sI, zN_sL, zN_sP, zN_sA, zN_sB, zN_sR, zN_al, zI_sS, zI_sI, zI_sL, zI_sP, zI_sA, zI_sB, zI_sR, zI_al, zL_sS, zL_sI, zL_sL, zL_sP, zL_sA, zL_sB, zL_sR, zL_al, zP_sS, zP_sI, zP_sL, zP_sP, zP_sA, zP_sB, zP_sR, zP_al, zA_sS, zA_sI, zA_sL, zA_sP, zA_sA, zA_sB, zA_sR, zA_al, zB_sS, zB_sI, zB_sL, zB_sP, zB_sA, zB_sB, zB_sR, zB_al, zR_sS, zR_sI, zR_sL, zR_sP, zR_sA, zR_sB, zR_sR, zR_al, n27, if_false, Nat.reduceEqDiff, and_false]
        exact pc
      · simp only [g6, g5, g4, g3, zS_sS, zS_sI, zS_sL, zS_sP, zS_sA, zS_sB, zS_sR, zS_al, zK_sS, zK_sI, zK_sL, zK_sP, zK_sA, zK_sB, zK_sR, zK_al, zN_sS, zN_sI, zN_sL, zN_sP, zN_sA, zN_sB, zN_sR, zN_al, zI_sS, zI_sI, zI_sL, zI_sP, zI_sA, zI_sB, zI_sR, zI_al, zL_sS, zL_sI, zL_sL, zL_sP, zL_sA, zL_sB, zL_sR, zL_al, zP_sS, zP_sI, zP_sL, zP_sP, zP_sA, zP_sB, zP_sR, zP_al, zA_sS, zA_sI, zA_sL, zA_sP, zA_sA, zA_sB, zA_sR, zA_al, zB_sS, zB_sI, zB_sL, zB_sP, zB_sA, zB_sB, zB_sR, zB_al, zR_sS, zR_sI, zR_sL, zR_sP, zR_sA, zR_sB, zR_sR, zR_al, n27, if_false, Nat.reduceEqDiff, and_false]
        exact pd
      · simp only [g6, g5, g4, g3, zS_sS, zS_sI, zS_sL, zS_sP, zS_sA, zS_sB, zS_sR, zS_al, zK_sS, zK_sI, zK_sL, zK_sP, zK_sA, zK_sB, zK_sR, zK_al, zN_sS, zN_sI, zN_sL, zN_sP, zN_sA, zN_sB, zN_sR, zN_al, zI_sS, zI_sI, zI_sL, zI_sP, zI_sA, zI_sB, zI_sR, zI_al, zL_sS, zL_sI, zL_sL, zL_sP, zL_sA, zL_sB, zL_sR, zL_al, zP_sS, zP_sI, zP_sL, zP_sP, zP_sA, zP_sB, zP_sR, zP_al, zA_sS, zA_sI, zA_sL, zA_sP, zA_sA, zA_sB, zA_sR, zA_al, zB_sS, zB_sI, zB_sL, zB_sP, zB_sA, zB_sB, zB_sR, zB_al, zR_sS, zR_sI, zR_sL, zR_sP, zR_sA, zR_sB, zR_sR, zR_al, n27, if_false, Nat.reduceEqDiff, and_false, and_self, if_true]
      · simp only [g6, g5, g4, g3, zS_sS, zS_sI, zS_sL, zS_sP, zS_sA, zS_sB, zS_sR, zS_al, zK_sS, zK_sI, zK_sL, zK_sP, zK_sA, zK_sB, zK_sR, zK_al, zN_sS, zN_sI, zN_sL, zN_sP, zN_sA, zN_sB, zN_sR, zN_al, zI_sS, zI_sI, zI_sL, zI_sP, zI_sA, zI_sB, zI_sR, zI_al, zL_sS, zL_sI, zL_sL, zL_sP, zL_sA, zL_sB, zL_sR, zL_al, zP_sS, zP_sI, zP_sL, zP_sP, zP_sA, zP_sB, zP_sR, zP_al, zA_sS, zA_sI, zA_sL, zA_sP, zA_sA, zA_sB, zA_sR, zA_al, zB_sS, zB_sI, zB_sL, zB_sP, zB_sA, zB_sB, zB_sR, zB_al, zR_sS, zR_sI, zR_sL, zR_sP, zR_sA, zR_sB, zR_sR, zR_al, n27, if_false, Nat.reduceEqDiff, and_false, and_self, if_true]
      · exact ((T0.eq (fun b x y => E1 b (by omega) (by omega))).eq (fun b x y => E2 b (by omega) (by omega))).eq (fun b x y => E3 b (by omega) (by omega))
      · exact (T1.eq (fun b x y => E2 b (by omega) (by omega))).eq (fun b x y => E3 b (by omega) (by omega))
      · exact T2.eq (fun b x y => E3 b (by omega) (by omega))
      · simp only [g6, g5, g4, zS_sS, zS_sI, zS_sL, zS_sP, zS_sA, zS_sB, zS_sR, zS_al, zK_sS, zK_sI, zK_sL, zK_sP, zK_sA, zK_sB, zK_sR, zK_al, zN_sS, zN_sI, zN_sL, zN_sP, zN_sA, zN_sB, zN_sR, zN_al, zI_sS, zI_sI, zI_sL, zI_sP, zI_sA, zI_sB, zI_sR, zI_al, zL_sS, zL_sI, zL_sL, zL_sP, zL_sA, zL_sB, zL_sR, zL_al, zP_sS, zP_sI, zP_sL, zP_sP, zP_sA, zP_sB, zP_sR, zP_al, zA_sS, zA_sI, zA_sL, zA_sP, zA_sA, zA_sB, zA_sR, zA_al, zB_sS, zB_sI, zB_sL, zB_sP, zB_sA, zB_sB, zB_sR, zB_al, zR_sS, zR_sI, zR_sL, zR_sP, zR_sA, zR_sB, zR_sR, zR_al, if_true]
      · simp only [g6, g5, g4, zS_sS, zS_sI, zS_sL, zS_sP, zS_sA, zS_sB, zS_sR, zS_al, zK_sS, zK_sI, zK_sL, zK_sP, zK_sA, zK_sB, zK_sR, zK_al, zN_sS, zN_sI, zN_sL, zN_sP, zN_sA, zN_sB, zN_sR, zN_al, zI_sS, zI_sI, zI_sL, zI_sP, zI_sA, zI_sB, zI_sR, zI_al, zL_sS, zL_sI, zL_sL, zL_sP, zL_sA, zL_sB, zL_sR, zL_al, zP_sS, zP_sI, zP_sL, zP_sP, zP_sA, zP_sB, zP_sR, zP_al, zA_sS, zA_sI, zA_sL, zA_sP, zA_sA, zA_sB, zA_sR, zA_al, zB_sS, zB_sI, zB_sL, zB_sP, zB_sA, zB_sB, zB_sR, zB_al, zR_sS, zR_sI, zR_sL, zR_sP, zR_sA, zR_sB, zR_sR, zR_al, if_true])
    rfl
    (fun b hb => (((((zEq.rf h b).al (by omega)).tr (l0 b (by omega))).tr (E1 b (by omega) (by omega))).tr (E2 b (by omega) (by omega))).tr (E3 b (by omega) (by omega)))
  rw [nI_0] at HL
  simp only [zb_s, zm_ok, zgo_c, zstp_n, zstp_c, Bool.false_eq_true, Bool.false_or, Bool.or_false, Bool.true_or, eq_self, kne_10, kne_01, zget_0, zget_s, zst1_0, zst1_1, zst1_s, zst2_0, zst2_1, zst2_s, zht_c, zdl_n, zdl_i, zdl_r, zdl_l, zct_i, zct_r, zct_l, zct_n, zct_q, zpI_c, zpL_c, zpR_c, zpR_q, zpQ_c, zpQ_n, zpQ_q, zpV_c, zpn_0, zpn_s, zvI_c, zvL_c, zvR_c, zcs_n, zcs_c, zcn_eq, zcn_ne, zcn_lt, zcn_ge, zcn_gt, zcn_le, zrs_n, zrs_s, zrs_x, zpf_0, zpf_1, zpf_2, zpf_3, zfv_0, zfv_1, zfv_2, zfv_3, List.length_cons, List.length_nil, List.nil_append, List.cons_append, List.append_nil, Nat.reduceAdd, Nat.reduceSub, Nat.reduceMul, Nat.reduceLT, Nat.reduceLeDiff, Nat.reduceEqDiff, Nat.reduceBEq, Nat.zero_add, Nat.add_zero, Nat.sub_zero, Nat.zero_le, Nat.le_refl, true_and, and_true, implies_true, forall_const, true_or, or_true, not_true_eq_false, not_false_eq_true, Classical.not_not, false_implies, and_self, ↓reduceIte, reduceCtorEq, exists_eq_left, exists_eq_left', Option.some.injEq, Int.reduceAdd, Int.reduceSub, Int.reduceNeg, List.size_toArray, znc_2, znc_3, znc_4, znc_5, znc_6, znc_7, znc_8, znc_9, znc_10, znc_11, znc_12, znc_13, znc_14, znc_15, znc_16, znc_17, znc_18, znc_19, znc_20, znc_21, znc_22, znc_23, znc_24, znc_25, znc_26, znc_27, znc_28, znc_29, znc_30, znc_31, znc_32, kn_0, kn_1, kn_2, kn_3, kn_4, kn_5, kn_6, kn_7, kn_8, kn_9, kn_10, kn_11, kn_12, kn_13, kn_14, kn_15, kn_16, kn_17, kn_18, kn_19, kn_20, kn_21, kn_22, kn_23, kn_24, kn_25, kn_26, kn_27, kn_28, kn_29, kn_30, kn_31, kn_32, kn_33, kn_34, kn_35, kn_36, kn_37, kn_38, kn_39, kn_40, kzi_0_128, kzi_1_128, kzi_2_128, kzi_3_128, kzi_0_3, kzi_1_3, kzi_2_3, kzi_0_32, kzi_1_32, kzi_2_32, kzi_3_32, kzi_0_10, kzi_1_10, kzi_2_10, kzi_3_10, zte_0, zte_1, zte_2, zte_3, zte_4, zte_5, zte_6, zte_7, zte_8, zte_9, zte_10, zte_11, zte_12, zte_13, zte_14, zte_15, zte_16, dX10_init_0, dX10_init_1, dX10_init_12, dX10_init_15, dX10_init_16, dX10_init_19, dX10_init_20, dX10_init_23, dX10_init_26, dX10_init_27, dX10_init_30, dX10_init_31, dX10_init_34, dX10_init_37, dX10_init_38, dX10_init_4, dX10_init_40, dX10_init_43, dX10_init_46, dX10_init_47, dX10_init_48, dX10_init_5, dX10_init_51, dX10_init_52, dX10_init_53, dX10_init_54, dX10_init_56, dX10_init_59, dX10_init_60, dX10_init_63, dX10_init_64, dX10_init_67, dX10_init_68, dX10_init_71, dX10_init_72, dX10_init_75, dX10_init_78, dX10_init_8, dX10_init_9, jX10_init_56, jX10_init_75, kb_6, kc_0, kc_1, kc_n1, kf_0, kf_1, mX0_init_c, mX0_init_s, mX10_init_b, mX10_init_c, mX10_init_r, mX10_init_s, mX1_init_c, mX1_init_s, mX2_init_c, mX2_init_s, mX9_init_c, mX9_init_s, zfl_10_10, zfl_10_19, zfl_10_26, zfl_10_32, zfl_10_36, zml_10_1, zml_10_18, zml_10_25, zml_10_40, zml_10_9, zna_10_30, znw_10_16, znw_10_23, znw_10_30, znw_10_7, zw_aastore, zw_aload_n, zw_anewarray, zw_bipush, zw_dup, zw_getfield, zw_goto, zw_iconst, zw_if_icmp, zw_iinc, zw_iload_n, zw_invokespecial, zw_istore_n, zw_new, zw_putfield, zw_return_, hd0, k2, s2', zS_sS, zS_sI, zS_sL, zS_sP, zS_sA, zS_sB, zS_sR, zS_al, zK_sS, zK_sI, zK_sL, zK_sP, zK_sA, zK_sB, zK_sR, zK_al, zN_sS, zN_sI, zN_sL, zN_sP, zN_sA, zN_sB, zN_sR, zN_al, zI_sS, zI_sI, zI_sL, zI_sP, zI_sA, zI_sB, zI_sR, zI_al, zL_sS, zL_sI, zL_sL, zL_sP, zL_sA, zL_sB, zL_sR, zL_al, zP_sS, zP_sI, zP_sL, zP_sP, zP_sA, zP_sB, zP_sR, zP_al, zA_sS, zA_sI, zA_sL, zA_sP, zA_sA, zA_sB, zA_sR, zA_al, zB_sS, zB_sI, zB_sL, zB_sP, zB_sA, zB_sB, zB_sR, zB_al, zR_sS, zR_sI, zR_sL, zR_sP, zR_sA, zR_sB, zR_sR, zR_al, n27, if_false, Nat.add_assoc, kzg_6, kzl_6]
  exact ⟨Or.inr rfl, Or.inr rfl, HL⟩
