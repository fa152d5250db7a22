/-! RUNS OF THE MODEL -/
def wOpr (kd : Int32) : Prop := kd = 6 ∨ kd = 7 ∨ kd = 8 ∨ kd = 9 ∨ kd = 10 ∨ kd = 11 ∨ kd = 12 ∨ kd = 13
/-- where the next step is, and how high the pile is there -/
def wNx (kd nb : Int32) (n : Nat) (dp : Nat → Nat) (pc : Nat) : Prop := ((kd = 1 ∨ kd = 2) → pc + 1 < n ∧ dp (pc + 1) = dp pc + 1) ∧ ((kd = 3 ∨ wOpr kd ∨ kd = 15 ∨ kd = 16) → pc + 1 < n ∧ dp (pc + 1) + 1 = dp pc) ∧ (kd = 4 → pc + 1 < n ∧ dp (pc + 1) = dp pc) ∧ (kd = 5 → pc + 1 < n ∧ dp (pc + 1) + 2 = dp pc) ∧ (kd = 14 → ∃ to, to < n ∧ nb = nI to ∧ dp to = dp pc) ∧ (kd = 15 → ∃ to, to < n ∧ nb = nI to ∧ dp to + 1 = dp pc)
def wCode (K N : zcells) (n : Nat) : Prop := 1 ≤ n ∧ n ≤ 200 ∧ ∃ dp : Nat → Nat, dp 0 = 0 ∧ ∀ pc, pc < n → dp pc ≤ 32 ∧ wOp (K pc) (N pc) (dp pc) ∧ wNx (K pc) (N pc) n dp pc
def wSt (dp : Nat → Nat) (n : Nat) (C : zcells) : Prop := ∃ pc, pc < n ∧ C 0 = nI pc ∧ C 1 = nI (dp pc)
theorem mcPush_0 {C : zcells} {k : Nat} {v : Int32} (hC : C 1 = nI k) (hk : k < 32) : mcPush C v 0 = C 0 ∧ mcPush C v 1 = nI (k + 1) := by
  rw [mcPush_k hC hk]
  exact ⟨by rw [zup_n _ _ _ (by omega), zup_n _ _ _ (by omega)], zup_e _ _ _⟩
theorem mcPop_0 {C : zcells} {k : Nat} (hC : C 1 = nI k) (h1 : 1 ≤ k) (hk : k ≤ 32) : mcPop C 0 = C 0 ∧ mcPop C 1 = nI (k - 1) := by
  rw [(mcPop_k hC h1 hk).1]
  exact ⟨by rw [zup_n _ _ _ (by omega), zup_n _ _ _ (by omega)], zup_e _ _ _⟩
theorem zand_64 (x : Int32) : ∃ j, 64 ≤ j ∧ j < 128 ∧ (64 + (x &&& 63)).toNatClampNeg = j := by
  obtain ⟨j, hj, e⟩ := pk_andE x (m := 63) 6 (by decide)
  refine ⟨64 + j, by omega, by omega, ?_⟩
  rw [e, show (64 : Int32) = nI 64 by rfl, nI_add, nI_clamp (by omega)]
theorem wStep {C : zcells} {dp : Nat → Nat} {n pc : Nat} {kd nb : Int32} (hn : n ≤ 200) (hpc : pc < n) (h0 : C 0 = nI pc) (h1 : C 1 = nI (dp pc)) (hk : dp pc ≤ 32) (hw : wOp kd nb (dp pc)) (hx : wNx kd nb n dp pc) (hz : ¬ kd = 0) : wSt dp n (mcStepC kd nb C) := by
  obtain ⟨x1, x2, x3, x4, x5, x6⟩ := hx
  have Z0 : zup C 0 (nI pc + 1) 0 = nI (pc + 1) := by rw [zup_e, nI_1]
  have Z1 : zup C 0 (nI pc + 1) 1 = nI (dp pc) := by rw [zup_n _ _ _ (by omega)]; exact h1
  generalize eZ : zup C 0 (nI pc + 1) = Z at *
  rcases hw with rfl | ⟨rfl, hk1⟩ | ⟨rfl, hk1, v, hv, rfl⟩ | ⟨rfl, hk1, v, hv, rfl⟩ | ⟨rfl, hk1⟩ | ⟨rfl, hk1⟩ | ⟨rfl, hk1⟩ | ⟨rfl, hk1⟩ | ⟨rfl, hk1⟩ | ⟨rfl, hk1⟩ | ⟨rfl, hk1⟩ | ⟨rfl, hk1⟩ | ⟨rfl, hk1⟩ | ⟨rfl, hk1⟩ | rfl | ⟨rfl, hk1⟩ | ⟨rfl, hk1⟩
  · exact absurd rfl hz
  · unfold mcStepC
    simp only [h0, eZ, eq_self, ki_1_2, ki_1_3, ki_1_4, ki_1_5, ki_1_14, ki_1_15, ki_1_16, ↓reduceIte]
    obtain ⟨y1, y2⟩ := x1 (by decide)
    obtain ⟨a1, a2⟩ := mcPush_0 (v := _) Z1 hk1
    exact ⟨pc + 1, y1, a1.trans Z0, by rw [y2]; exact a2⟩
  · unfold mcStepC
    simp only [h0, eZ, eq_self, ki_2_1, ki_2_3, ki_2_4, ki_2_5, ki_2_14, ki_2_15, ki_2_16, ↓reduceIte]
    obtain ⟨y1, y2⟩ := x1 (by decide)
    obtain ⟨a1, a2⟩ := mcPush_0 (v := _) Z1 hk1
    exact ⟨pc + 1, y1, a1.trans Z0, by rw [y2]; exact a2⟩
  · unfold mcStepC
    simp only [h0, eZ, eq_self, ki_3_1, ki_3_2, ki_3_4, ki_3_5, ki_3_14, ki_3_15, ki_3_16, ↓reduceIte]
    obtain ⟨y1, y2⟩ := x2 (Or.inl rfl)
    obtain ⟨a1, a2⟩ := mcPop_0 Z1 hk1 hk
    rw [pc_7 hv, show (4 : Int32) = nI 4 by rfl, nI_add, nI_clamp (by omega)]
    refine ⟨pc + 1, y1, ?_, ?_⟩
    · rw [zup_n _ _ _ (by omega), a1, Z0]
    · rw [zup_n _ _ _ (by omega), a2, show dp pc - 1 = dp (pc + 1) by omega]
  · unfold mcStepC
    simp only [h0, eZ, eq_self, ki_4_1, ki_4_2, ki_4_3, ki_4_5, ki_4_14, ki_4_15, ki_4_16, ↓reduceIte]
    obtain ⟨y1, y2⟩ := x3 rfl
    obtain ⟨a1, a2⟩ := mcPop_0 Z1 hk1 hk
    obtain ⟨b1, b2⟩ := mcPush_0 (v := mcPop Z (64 + (mcTop Z &&& 63)).toNatClampNeg) a2 (by omega)
    exact ⟨pc + 1, y1, (b1.trans a1).trans Z0, by rw [b2, y2, show dp pc - 1 + 1 = dp pc by omega]⟩
  · unfold mcStepC
    simp only [h0, eZ, eq_self, ki_5_1, ki_5_2, ki_5_3, ki_5_4, ki_5_14, ki_5_15, ki_5_16, ↓reduceIte]
    obtain ⟨y1, y2⟩ := x4 rfl
    obtain ⟨a1, a2⟩ := mcPop_0 Z1 (by omega) hk
    obtain ⟨b1, b2⟩ := mcPop_0 a2 (by omega) (by omega)
    obtain ⟨j, j1, j2, ej⟩ := zand_64 (mcTop (mcPop Z))
    rw [ej]
    refine ⟨pc + 1, y1, ?_, ?_⟩
    · rw [zup_n _ _ _ (by omega), b1, a1, Z0]
    · rw [zup_n _ _ _ (by omega), b2, show dp pc - 1 - 1 = dp (pc + 1) by omega]
  · unfold mcStepC
    simp only [h0, eZ, eq_self, ki_6_1, ki_6_2, ki_6_3, ki_6_4, ki_6_5, ki_6_14, ki_6_15, ki_6_16, ↓reduceIte]
    obtain ⟨y1, y2⟩ := x2 (Or.inr (Or.inl (by unfold wOpr; decide)))
    obtain ⟨a1, a2⟩ := mcPop_0 Z1 (by omega) hk
    obtain ⟨b1, b2⟩ := mcPop_0 a2 (by omega) (by omega)
    obtain ⟨c1, c2⟩ := mcPush_0 (v := mcWork 6 (mcTop (mcPop Z)) (mcTop Z)) b2 (by omega)
    exact ⟨pc + 1, y1, ((c1.trans b1).trans a1).trans Z0, by rw [c2, show dp pc - 1 - 1 + 1 = dp (pc + 1) by omega]⟩
  · unfold mcStepC
    simp only [h0, eZ, eq_self, ki_7_1, ki_7_2, ki_7_3, ki_7_4, ki_7_5, ki_7_14, ki_7_15, ki_7_16, ↓reduceIte]
    obtain ⟨y1, y2⟩ := x2 (Or.inr (Or.inl (by unfold wOpr; decide)))
    obtain ⟨a1, a2⟩ := mcPop_0 Z1 (by omega) hk
    obtain ⟨b1, b2⟩ := mcPop_0 a2 (by omega) (by omega)
    obtain ⟨c1, c2⟩ := mcPush_0 (v := mcWork 7 (mcTop (mcPop Z)) (mcTop Z)) b2 (by omega)
    exact ⟨pc + 1, y1, ((c1.trans b1).trans a1).trans Z0, by rw [c2, show dp pc - 1 - 1 + 1 = dp (pc + 1) by omega]⟩
  · unfold mcStepC
    simp only [h0, eZ, eq_self, ki_8_1, ki_8_2, ki_8_3, ki_8_4, ki_8_5, ki_8_14, ki_8_15, ki_8_16, ↓reduceIte]
    obtain ⟨y1, y2⟩ := x2 (Or.inr (Or.inl (by unfold wOpr; decide)))
    obtain ⟨a1, a2⟩ := mcPop_0 Z1 (by omega) hk
    obtain ⟨b1, b2⟩ := mcPop_0 a2 (by omega) (by omega)
    obtain ⟨c1, c2⟩ := mcPush_0 (v := mcWork 8 (mcTop (mcPop Z)) (mcTop Z)) b2 (by omega)
    exact ⟨pc + 1, y1, ((c1.trans b1).trans a1).trans Z0, by rw [c2, show dp pc - 1 - 1 + 1 = dp (pc + 1) by omega]⟩
  · unfold mcStepC
    simp only [h0, eZ, eq_self, ki_9_1, ki_9_2, ki_9_3, ki_9_4, ki_9_5, ki_9_14, ki_9_15, ki_9_16, ↓reduceIte]
    obtain ⟨y1, y2⟩ := x2 (Or.inr (Or.inl (by unfold wOpr; decide)))
    obtain ⟨a1, a2⟩ := mcPop_0 Z1 (by omega) hk
    obtain ⟨b1, b2⟩ := mcPop_0 a2 (by omega) (by omega)
    obtain ⟨c1, c2⟩ := mcPush_0 (v := mcWork 9 (mcTop (mcPop Z)) (mcTop Z)) b2 (by omega)
    exact ⟨pc + 1, y1, ((c1.trans b1).trans a1).trans Z0, by rw [c2, show dp pc - 1 - 1 + 1 = dp (pc + 1) by omega]⟩
  · unfold mcStepC
    simp only [h0, eZ, eq_self, ki_10_1, ki_10_2, ki_10_3, ki_10_4, ki_10_5, ki_10_14, ki_10_15, ki_10_16, ↓reduceIte]
    obtain ⟨y1, y2⟩ := x2 (Or.inr (Or.inl (by unfold wOpr; decide)))
    obtain ⟨a1, a2⟩ := mcPop_0 Z1 (by omega) hk
    obtain ⟨b1, b2⟩ := mcPop_0 a2 (by omega) (by omega)
    obtain ⟨c1, c2⟩ := mcPush_0 (v := mcWork 10 (mcTop (mcPop Z)) (mcTop Z)) b2 (by omega)
    exact ⟨pc + 1, y1, ((c1.trans b1).trans a1).trans Z0, by rw [c2, show dp pc - 1 - 1 + 1 = dp (pc + 1) by omega]⟩
  · unfold mcStepC
    simp only [h0, eZ, eq_self, ki_11_1, ki_11_2, ki_11_3, ki_11_4, ki_11_5, ki_11_14, ki_11_15, ki_11_16, ↓reduceIte]
    obtain ⟨y1, y2⟩ := x2 (Or.inr (Or.inl (by unfold wOpr; decide)))
    obtain ⟨a1, a2⟩ := mcPop_0 Z1 (by omega) hk
    obtain ⟨b1, b2⟩ := mcPop_0 a2 (by omega) (by omega)
    obtain ⟨c1, c2⟩ := mcPush_0 (v := mcWork 11 (mcTop (mcPop Z)) (mcTop Z)) b2 (by omega)
    exact ⟨pc + 1, y1, ((c1.trans b1).trans a1).trans Z0, by rw [c2, show dp pc - 1 - 1 + 1 = dp (pc + 1) by omega]⟩
  · unfold mcStepC
    simp only [h0, eZ, eq_self, ki_12_1, ki_12_2, ki_12_3, ki_12_4, ki_12_5, ki_12_14, ki_12_15, ki_12_16, ↓reduceIte]
    obtain ⟨y1, y2⟩ := x2 (Or.inr (Or.inl (by unfold wOpr; decide)))
    obtain ⟨a1, a2⟩ := mcPop_0 Z1 (by omega) hk
    obtain ⟨b1, b2⟩ := mcPop_0 a2 (by omega) (by omega)
    obtain ⟨c1, c2⟩ := mcPush_0 (v := mcWork 12 (mcTop (mcPop Z)) (mcTop Z)) b2 (by omega)
    exact ⟨pc + 1, y1, ((c1.trans b1).trans a1).trans Z0, by rw [c2, show dp pc - 1 - 1 + 1 = dp (pc + 1) by omega]⟩
  · unfold mcStepC
    simp only [h0, eZ, eq_self, ki_13_1, ki_13_2, ki_13_3, ki_13_4, ki_13_5, ki_13_14, ki_13_15, ki_13_16, ↓reduceIte]
    obtain ⟨y1, y2⟩ := x2 (Or.inr (Or.inl (by unfold wOpr; decide)))
    obtain ⟨a1, a2⟩ := mcPop_0 Z1 (by omega) hk
    obtain ⟨b1, b2⟩ := mcPop_0 a2 (by omega) (by omega)
    obtain ⟨c1, c2⟩ := mcPush_0 (v := mcWork 13 (mcTop (mcPop Z)) (mcTop Z)) b2 (by omega)
    exact ⟨pc + 1, y1, ((c1.trans b1).trans a1).trans Z0, by rw [c2, show dp pc - 1 - 1 + 1 = dp (pc + 1) by omega]⟩
  · unfold mcStepC
    simp only [h0, eZ, eq_self, ki_14_1, ki_14_2, ki_14_3, ki_14_4, ki_14_5, ki_14_15, ki_14_16, ↓reduceIte]
    obtain ⟨to, y1, rfl, y2⟩ := x5 rfl
    exact ⟨to, y1, zup_e _ _ _, by rw [zup_n _ _ _ (by omega), Z1, y2]⟩
  · unfold mcStepC
    simp only [h0, eZ, eq_self, ki_15_1, ki_15_2, ki_15_3, ki_15_4, ki_15_5, ki_15_14, ki_15_16, ↓reduceIte]
    obtain ⟨a1, a2⟩ := mcPop_0 Z1 hk1 hk
    obtain ⟨y1, y2⟩ := x2 (Or.inr (Or.inr (Or.inl rfl)))
    obtain ⟨to, y3, rfl, y4⟩ := x6 rfl
    split
    · exact ⟨to, y3, zup_e _ _ _, by rw [zup_n _ _ _ (by omega), a2, show dp pc - 1 = dp to by omega]⟩
    · exact ⟨pc + 1, y1, a1.trans Z0, by rw [a2, show dp pc - 1 = dp (pc + 1) by omega]⟩
  · unfold mcStepC
    simp only [h0, eZ, eq_self, ki_16_1, ki_16_2, ki_16_3, ki_16_4, ki_16_5, ki_16_14, ki_16_15, ↓reduceIte]
    obtain ⟨a1, a2⟩ := mcPop_0 Z1 hk1 hk
    obtain ⟨y1, y2⟩ := x2 (Or.inr (Or.inr (Or.inr rfl)))
    unfold mcOutC
    refine ⟨pc + 1, y1, ?_, ?_⟩
    · rw [zup_n _ _ _ (by omega), zup_n _ _ _ (by omega), a1, Z0]
    · rw [zup_n _ _ _ (by omega), zup_n _ _ _ (by omega), a2, show dp pc - 1 = dp (pc + 1) by omega]
theorem zrow_init {C mem : zcells} (h : zJk 128 C) : zrow 128 (mcInit mem) C = mcInit mem := by
  funext j
  unfold zrow
  split
  · rfl
  · rename_i q
    rw [h j (by omega)]
    exact ((mcInit_jk mem) j (by omega)).symm
theorem zrow_told {O : zcells} (h : zJk 10 O) : zrow 10 zz O = zz := by
  funext j
  unfold zrow
  split
  · rfl
  · rename_i q
    rw [h j (by omega)]
    rfl
theorem zrow_jk {i n : Nat} {g f : zcells} (hf : zJk n f) (hg : zJk n g) : zJk n (zrow i g f) := fun j hj => by
  unfold zrow
  split
  · exact hg j hj
  · exact hf j hj
/-- the memory of a run: a task's own, or a part's -/
def xMem0 (S : zst) (t n k : Nat) : zcells := if n = 0 then S 2004 t else xMemP S t n k
set_option maxHeartbeats 4000000 in
set_option maxRecDepth 100000 in
theorem m_begins {l G d D h Q} {S : zst} {M : mst} {t n k : Nat} (hd : 1 ≤ d) (H : zMH D M h) (R : RelT S M) (ht : t < 6) (hn : n = 0 ∨ (2 ≤ n ∧ n ≤ 8 ∧ k < n)) (hQ : ∀ g, zMH D (mw (mw M 18 (mcInit (xMem0 S t n k))) 19 zz) g → zFM D h g → Q (.inl none) g) : zCall l G mX11_begins d [.ref D, .int (nI t), .int (nI n), .int (nI k)] h Q := by
  have hd0 : 0 < d := hd
  refine zEnt 11 false mX11_begins _ _ _ _ [some (.ref D), some (.int (nI t)), some (.int (nI n)), some (.int (nI k)), none] rfl (by decide +kernel) (fun h => by cases h) rfl (Nat.le_of_ble_eq_true rfl) fun X hX => ?_
  have L2 : ∀ (f i : Nat) (g : zH), i + f = 10 → zMH D (mw (mw M 18 (mcInit (xMem0 S t n k))) 19 (zrow i zz (M 19))) g → zFM D h g → zJ l G X 72 [some (.ref D), some (.int (nI t)), some (.int (nI n)), some (.int (nI k)), some (.int (nI i))] [] g 0 0 := by
    intro f
    induction f with
    | zero =>
      intro i g hi H1 F1
      have e6 : i = 10 := by omega
      subst e6
      have hcd : (10 ≤ nI 10) = True := eq_true (by decide)
      rw [zrow_told H.j9] at H1
      have hq := hQ g H1 F1
      refine zrunS hX [3, 72] 60 ?_
      simp only [zb_s, zm_ok, zgo_c, zstp_n, zstp_c, Bool.false_eq_true, Bool.false_or, Bool.or_false, Bool.true_or, eq_self, kne_10, kne_01, zget_0, zget_s, zst1_0, zst1_1, zst1_s, zst2_0, zst2_1, zst2_s, zht_c, zdl_n, zdl_i, zdl_r, zdl_l, zct_i, zct_r, zct_l, zct_n, zct_q, zpI_c, zpL_c, zpR_c, zpR_q, zpQ_c, zpQ_n, zpQ_q, zpV_c, zpn_0, zpn_s, zvI_c, zvL_c, zvR_c, zcs_n, zcs_c, zcn_eq, zcn_ne, zcn_lt, zcn_ge, zcn_gt, zcn_le, zrs_n, zrs_s, zrs_x, zpf_0, zpf_1, zpf_2, zpf_3, zfv_0, zfv_1, zfv_2, zfv_3, List.length_cons, List.length_nil, List.nil_append, List.cons_append, List.append_nil, Nat.reduceAdd, Nat.reduceSub, Nat.reduceMul, Nat.reduceLT, Nat.reduceLeDiff, Nat.reduceEqDiff, Nat.reduceBEq, Nat.zero_add, Nat.add_zero, Nat.sub_zero, Nat.zero_le, Nat.le_refl, true_and, and_true, implies_true, forall_const, true_or, or_true, not_true_eq_false, not_false_eq_true, Classical.not_not, false_implies, and_self, ↓reduceIte, reduceCtorEq, exists_eq_left, exists_eq_left', Option.some.injEq, Int.reduceAdd, Int.reduceSub, Int.reduceNeg, List.size_toArray, znc_2, znc_3, znc_4, znc_5, znc_6, znc_7, znc_8, znc_9, znc_10, znc_11, znc_12, znc_13, znc_14, znc_15, znc_16, znc_17, znc_18, znc_19, znc_20, znc_21, znc_22, znc_23, znc_24, znc_25, znc_26, znc_27, znc_28, znc_29, znc_30, znc_31, znc_32, kn_0, kn_1, kn_2, kn_3, kn_4, kn_5, kn_6, kn_7, kn_8, kn_9, kn_10, kn_11, kn_12, kn_13, kn_14, kn_15, kn_16, kn_17, kn_18, kn_19, kn_20, kn_21, kn_22, kn_23, kn_24, kn_25, kn_26, kn_27, kn_28, kn_29, kn_30, kn_31, kn_32, kn_33, kn_34, kn_35, kn_36, kn_37, kn_38, kn_39, kn_40, kzi_0_128, kzi_1_128, kzi_2_128, kzi_3_128, kzi_0_3, kzi_1_3, kzi_2_3, kzi_0_32, kzi_1_32, kzi_2_32, kzi_3_32, kzi_0_10, kzi_1_10, kzi_2_10, kzi_3_10, zte_0, zte_1, zte_2, zte_3, zte_4, zte_5, zte_6, zte_7, zte_8, zte_9, zte_10, zte_11, zte_12, zte_13, zte_14, zte_15, zte_16, dX11_begins_0, dX11_begins_1, dX11_begins_11, dX11_begins_12, dX11_begins_15, dX11_begins_17, dX11_begins_19, dX11_begins_21, dX11_begins_24, dX11_begins_25, dX11_begins_28, dX11_begins_29, dX11_begins_3, dX11_begins_32, dX11_begins_33, dX11_begins_36, dX11_begins_38, dX11_begins_39, dX11_begins_40, dX11_begins_42, dX11_begins_43, dX11_begins_45, dX11_begins_46, dX11_begins_47, dX11_begins_5, dX11_begins_50, dX11_begins_51, dX11_begins_52, dX11_begins_53, dX11_begins_54, dX11_begins_56, dX11_begins_58, dX11_begins_59, dX11_begins_62, dX11_begins_63, dX11_begins_66, dX11_begins_69, dX11_begins_70, dX11_begins_72, dX11_begins_74, dX11_begins_76, dX11_begins_79, dX11_begins_8, dX11_begins_80, dX11_begins_83, dX11_begins_85, dX11_begins_86, dX11_begins_87, dX11_begins_90, dX11_begins_93, jX11_begins_21, jX11_begins_25, jX11_begins_29, jX11_begins_47, jX11_begins_66, jX11_begins_76, jX11_begins_8, jX11_begins_90, kb_10, kb_64, kc_0, kc_1, kf_0, kf_1, kf_2, kf_3, ks_128, mX11_begins_b, mX11_begins_c, mX11_begins_r, mX11_begins_s, mX11_partOf_c, mX11_partOf_s, zfl_11_33, zfl_11_42, zfl_11_45, zml_11_287, zw_aload_n, zw_bipush, zw_getfield, zw_goto, zw_iadd, zw_iaload, zw_iastore, zw_iconst, zw_ifCond, zw_if_icmp, zw_iinc, zw_iload, zw_iload_n, zw_imul, zw_invokevirtual, zw_istore, zw_isub, zw_return_, zw_sipush, hcd, hq]
    | succ f ih =>
      intro i g hi H1 F1
      have hcd : (10 ≤ nI i) = False := eq_false (nI_ge (a := i) (b := 10) (by omega) (by omega))
      have z1 : zin (nI i) 10 = True := eq_true (zin_nI (by omega) (by omega))
      have z2 := nI_clamp (show i < 2 ^ 31 by omega)
      have kk := H1.k
      obtain ⟨p1, p2, p3⟩ := H1.1.p19
      have a := H1.a19
      rw [mw_e] at a
      have H2 := H1.wr (k := 19) (f := zrow (i + 1) zz (M 19)) mOk19 (fun e => absurd e (by omega)) (fun _ => zrow_jk H.j9 (zz_jk _))
      rw [mw_mw] at H2
      have l0 := ih (i + 1) _ (by omega) H2 (F1.tr (zFM.wr mOk19))
      have er : zup (zrow i zz (M 19)) i 0 = zrow (i + 1) zz (M 19) := zrow_s i zz (M 19)
      refine zrunS hX [3, 72] 60 ?_
      simp only [zb_s, zm_ok, zgo_c, zstp_n, zstp_c, Bool.false_eq_true, Bool.false_or, Bool.or_false, Bool.true_or, eq_self, kne_10, kne_01, zget_0, zget_s, zst1_0, zst1_1, zst1_s, zst2_0, zst2_1, zst2_s, zht_c, zdl_n, zdl_i, zdl_r, zdl_l, zct_i, zct_r, zct_l, zct_n, zct_q, zpI_c, zpL_c, zpR_c, zpR_q, zpQ_c, zpQ_n, zpQ_q, zpV_c, zpn_0, zpn_s, zvI_c, zvL_c, zvR_c, zcs_n, zcs_c, zcn_eq, zcn_ne, zcn_lt, zcn_ge, zcn_gt, zcn_le, zrs_n, zrs_s, zrs_x, zpf_0, zpf_1, zpf_2, zpf_3, zfv_0, zfv_1, zfv_2, zfv_3, List.length_cons, List.length_nil, List.nil_append, List.cons_append, List.append_nil, Nat.reduceAdd, Nat.reduceSub, Nat.reduceMul, Nat.reduceLT, Nat.reduceLeDiff, Nat.reduceEqDiff, Nat.reduceBEq, Nat.zero_add, Nat.add_zero, Nat.sub_zero, Nat.zero_le, Nat.le_refl, true_and, and_true, implies_true, forall_const, true_or, or_true, not_true_eq_false, not_false_eq_true, Classical.not_not, false_implies, and_self, ↓reduceIte, reduceCtorEq, exists_eq_left, exists_eq_left', Option.some.injEq, Int.reduceAdd, Int.reduceSub, Int.reduceNeg, List.size_toArray, znc_2, znc_3, znc_4, znc_5, znc_6, znc_7, znc_8, znc_9, znc_10, znc_11, znc_12, znc_13, znc_14, znc_15, znc_16, znc_17, znc_18, znc_19, znc_20, znc_21, znc_22, znc_23, znc_24, znc_25, znc_26, znc_27, znc_28, znc_29, znc_30, znc_31, znc_32, kn_0, kn_1, kn_2, kn_3, kn_4, kn_5, kn_6, kn_7, kn_8, kn_9, kn_10, kn_11, kn_12, kn_13, kn_14, kn_15, kn_16, kn_17, kn_18, kn_19, kn_20, kn_21, kn_22, kn_23, kn_24, kn_25, kn_26, kn_27, kn_28, kn_29, kn_30, kn_31, kn_32, kn_33, kn_34, kn_35, kn_36, kn_37, kn_38, kn_39, kn_40, kzi_0_128, kzi_1_128, kzi_2_128, kzi_3_128, kzi_0_3, kzi_1_3, kzi_2_3, kzi_0_32, kzi_1_32, kzi_2_32, kzi_3_32, kzi_0_10, kzi_1_10, kzi_2_10, kzi_3_10, zte_0, zte_1, zte_2, zte_3, zte_4, zte_5, zte_6, zte_7, zte_8, zte_9, zte_10, zte_11, zte_12, zte_13, zte_14, zte_15, zte_16, dX11_begins_0, dX11_begins_1, dX11_begins_11, dX11_begins_12, dX11_begins_15, dX11_begins_17, dX11_begins_19, dX11_begins_21, dX11_begins_24, dX11_begins_25, dX11_begins_28, dX11_begins_29, dX11_begins_3, dX11_begins_32, dX11_begins_33, dX11_begins_36, dX11_begins_38, dX11_begins_39, dX11_begins_40, dX11_begins_42, dX11_begins_43, dX11_begins_45, dX11_begins_46, dX11_begins_47, dX11_begins_5, dX11_begins_50, dX11_begins_51, dX11_begins_52, dX11_begins_53, dX11_begins_54, dX11_begins_56, dX11_begins_58, dX11_begins_59, dX11_begins_62, dX11_begins_63, dX11_begins_66, dX11_begins_69, dX11_begins_70, dX11_begins_72, dX11_begins_74, dX11_begins_76, dX11_begins_79, dX11_begins_8, dX11_begins_80, dX11_begins_83, dX11_begins_85, dX11_begins_86, dX11_begins_87, dX11_begins_90, dX11_begins_93, jX11_begins_21, jX11_begins_25, jX11_begins_29, jX11_begins_47, jX11_begins_66, jX11_begins_76, jX11_begins_8, jX11_begins_90, kb_10, kb_64, kc_0, kc_1, kf_0, kf_1, kf_2, kf_3, ks_128, mX11_begins_b, mX11_begins_c, mX11_begins_r, mX11_begins_s, mX11_partOf_c, mX11_partOf_s, zfl_11_33, zfl_11_42, zfl_11_45, zml_11_287, zw_aload_n, zw_bipush, zw_getfield, zw_goto, zw_iadd, zw_iaload, zw_iastore, zw_iconst, zw_ifCond, zw_if_icmp, zw_iinc, zw_iload, zw_iload_n, zw_imul, zw_invokevirtual, zw_istore, zw_isub, zw_return_, zw_sipush, hcd, kk, p1, p2, p3, z1, z2, a, zsA_wr, er, ← nI_succ, l0]
  have L : ∀ (f i : Nat) (g : zH), i + f = 128 → zMH D (mw M 18 (zrow i (mcInit (xMem0 S t n k)) (M 18))) g → zFM D h g → zJ l G X 3 [some (.ref D), some (.int (nI t)), some (.int (nI n)), some (.int (nI k)), some (.int (nI i))] [] g 0 0 := by
    intro f
    induction f with
    | zero =>
      intro i g hi H1 F1
      have e6 : i = 128 := by omega
      subst e6
      have hcd : (128 ≤ nI 128) = True := eq_true (by decide)
      rw [zrow_init H.j8] at H1
      have H2 : zMH D (mw (mw M 18 (mcInit (xMem0 S t n k))) 19 (zrow 0 zz (M 19))) g := by
        rw [zrow_0, mw_id (by rw [mw_n _ (by omega)])]
        exact H1
      have l0 := L2 10 0 g (by omega) H2 F1
      rw [nI_0] at l0
      refine zrunS hX [3, 72] 60 ?_
      simp only [zb_s, zm_ok, zgo_c, zstp_n, zstp_c, Bool.false_eq_true, Bool.false_or, Bool.or_false, Bool.true_or, eq_self, kne_10, kne_01, zget_0, zget_s, zst1_0, zst1_1, zst1_s, zst2_0, zst2_1, zst2_s, zht_c, zdl_n, zdl_i, zdl_r, zdl_l, zct_i, zct_r, zct_l, zct_n, zct_q, zpI_c, zpL_c, zpR_c, zpR_q, zpQ_c, zpQ_n, zpQ_q, zpV_c, zpn_0, zpn_s, zvI_c, zvL_c, zvR_c, zcs_n, zcs_c, zcn_eq, zcn_ne, zcn_lt, zcn_ge, zcn_gt, zcn_le, zrs_n, zrs_s, zrs_x, zpf_0, zpf_1, zpf_2, zpf_3, zfv_0, zfv_1, zfv_2, zfv_3, List.length_cons, List.length_nil, List.nil_append, List.cons_append, List.append_nil, Nat.reduceAdd, Nat.reduceSub, Nat.reduceMul, Nat.reduceLT, Nat.reduceLeDiff, Nat.reduceEqDiff, Nat.reduceBEq, Nat.zero_add, Nat.add_zero, Nat.sub_zero, Nat.zero_le, Nat.le_refl, true_and, and_true, implies_true, forall_const, true_or, or_true, not_true_eq_false, not_false_eq_true, Classical.not_not, false_implies, and_self, ↓reduceIte, reduceCtorEq, exists_eq_left, exists_eq_left', Option.some.injEq, Int.reduceAdd, Int.reduceSub, Int.reduceNeg, List.size_toArray, znc_2, znc_3, znc_4, znc_5, znc_6, znc_7, znc_8, znc_9, znc_10, znc_11, znc_12, znc_13, znc_14, znc_15, znc_16, znc_17, znc_18, znc_19, znc_20, znc_21, znc_22, znc_23, znc_24, znc_25, znc_26, znc_27, znc_28, znc_29, znc_30, znc_31, znc_32, kn_0, kn_1, kn_2, kn_3, kn_4, kn_5, kn_6, kn_7, kn_8, kn_9, kn_10, kn_11, kn_12, kn_13, kn_14, kn_15, kn_16, kn_17, kn_18, kn_19, kn_20, kn_21, kn_22, kn_23, kn_24, kn_25, kn_26, kn_27, kn_28, kn_29, kn_30, kn_31, kn_32, kn_33, kn_34, kn_35, kn_36, kn_37, kn_38, kn_39, kn_40, kzi_0_128, kzi_1_128, kzi_2_128, kzi_3_128, kzi_0_3, kzi_1_3, kzi_2_3, kzi_0_32, kzi_1_32, kzi_2_32, kzi_3_32, kzi_0_10, kzi_1_10, kzi_2_10, kzi_3_10, zte_0, zte_1, zte_2, zte_3, zte_4, zte_5, zte_6, zte_7, zte_8, zte_9, zte_10, zte_11, zte_12, zte_13, zte_14, zte_15, zte_16, dX11_begins_0, dX11_begins_1, dX11_begins_11, dX11_begins_12, dX11_begins_15, dX11_begins_17, dX11_begins_19, dX11_begins_21, dX11_begins_24, dX11_begins_25, dX11_begins_28, dX11_begins_29, dX11_begins_3, dX11_begins_32, dX11_begins_33, dX11_begins_36, dX11_begins_38, dX11_begins_39, dX11_begins_40, dX11_begins_42, dX11_begins_43, dX11_begins_45, dX11_begins_46, dX11_begins_47, dX11_begins_5, dX11_begins_50, dX11_begins_51, dX11_begins_52, dX11_begins_53, dX11_begins_54, dX11_begins_56, dX11_begins_58, dX11_begins_59, dX11_begins_62, dX11_begins_63, dX11_begins_66, dX11_begins_69, dX11_begins_70, dX11_begins_72, dX11_begins_74, dX11_begins_76, dX11_begins_79, dX11_begins_8, dX11_begins_80, dX11_begins_83, dX11_begins_85, dX11_begins_86, dX11_begins_87, dX11_begins_90, dX11_begins_93, jX11_begins_21, jX11_begins_25, jX11_begins_29, jX11_begins_47, jX11_begins_66, jX11_begins_76, jX11_begins_8, jX11_begins_90, kb_10, kb_64, kc_0, kc_1, kf_0, kf_1, kf_2, kf_3, ks_128, mX11_begins_b, mX11_begins_c, mX11_begins_r, mX11_begins_s, mX11_partOf_c, mX11_partOf_s, zfl_11_33, zfl_11_42, zfl_11_45, zml_11_287, zw_aload_n, zw_bipush, zw_getfield, zw_goto, zw_iadd, zw_iaload, zw_iastore, zw_iconst, zw_ifCond, zw_if_icmp, zw_iinc, zw_iload, zw_iload_n, zw_imul, zw_invokevirtual, zw_istore, zw_isub, zw_return_, zw_sipush, hcd, l0]
    | succ f ih =>
      intro i g hi H1 F1
      have hcd : (128 ≤ nI i) = False := eq_false (nI_ge (a := i) (b := 128) (by omega) (by omega))
      have z1 : zin (nI i) 128 = True := eq_true (zin_nI (by omega) (by omega))
      have z2 := nI_clamp (show i < 2 ^ 31 by omega)
      have kk := H1.k
      obtain ⟨p1, p2, p3⟩ := H1.1.p18
      have a := H1.a18
      rw [mw_e] at a
      have H2 := H1.wr (k := 18) (f := zrow (i + 1) (mcInit (xMem0 S t n k)) (M 18)) mOk18 (fun _ => zrow_jk H.j8 (mcInit_jk _)) (fun e => absurd e (by omega))
      rw [mw_mw] at H2
      have l0 := ih (i + 1) _ (by omega) H2 (F1.tr (zFM.wr mOk18))
      have er := zrow_s i (mcInit (xMem0 S t n k)) (M 18)
      have R2 : RelT S (mw M 18 (zrow i (mcInit (xMem0 S t n k)) (M 18))) := R.c (fun _ _ => rfl) (fun j hj => by unfold rKT at hj; exact mw_n _ (by omega))
      by_cases q : i < 64
      · have e0 : mcInit (xMem0 S t n k) i = 0 := if_neg (by omega)
        rw [e0] at er
        have hlt : (64 ≤ nI i) = False := eq_false (nI_ge (a := i) (b := 64) (by omega) (by omega))
        refine zrunS hX [3, 72] 60 ?_
        simp only [zb_s, zm_ok, zgo_c, zstp_n, zstp_c, Bool.false_eq_true, Bool.false_or, Bool.or_false, Bool.true_or, eq_self, kne_10, kne_01, zget_0, zget_s, zst1_0, zst1_1, zst1_s, zst2_0, zst2_1, zst2_s, zht_c, zdl_n, zdl_i, zdl_r, zdl_l, zct_i, zct_r, zct_l, zct_n, zct_q, zpI_c, zpL_c, zpR_c, zpR_q, zpQ_c, zpQ_n, zpQ_q, zpV_c, zpn_0, zpn_s, zvI_c, zvL_c, zvR_c, zcs_n, zcs_c, zcn_eq, zcn_ne, zcn_lt, zcn_ge, zcn_gt, zcn_le, zrs_n, zrs_s, zrs_x, zpf_0, zpf_1, zpf_2, zpf_3, zfv_0, zfv_1, zfv_2, zfv_3, List.length_cons, List.length_nil, List.nil_append, List.cons_append, List.append_nil, Nat.reduceAdd, Nat.reduceSub, Nat.reduceMul, Nat.reduceLT, Nat.reduceLeDiff, Nat.reduceEqDiff, Nat.reduceBEq, Nat.zero_add, Nat.add_zero, Nat.sub_zero, Nat.zero_le, Nat.le_refl, true_and, and_true, implies_true, forall_const, true_or, or_true, not_true_eq_false, not_false_eq_true, Classical.not_not, false_implies, and_self, ↓reduceIte, reduceCtorEq, exists_eq_left, exists_eq_left', Option.some.injEq, Int.reduceAdd, Int.reduceSub, Int.reduceNeg, List.size_toArray, znc_2, znc_3, znc_4, znc_5, znc_6, znc_7, znc_8, znc_9, znc_10, znc_11, znc_12, znc_13, znc_14, znc_15, znc_16, znc_17, znc_18, znc_19, znc_20, znc_21, znc_22, znc_23, znc_24, znc_25, znc_26, znc_27, znc_28, znc_29, znc_30, znc_31, znc_32, kn_0, kn_1, kn_2, kn_3, kn_4, kn_5, kn_6, kn_7, kn_8, kn_9, kn_10, kn_11, kn_12, kn_13, kn_14, kn_15, kn_16, kn_17, kn_18, kn_19, kn_20, kn_21, kn_22, kn_23, kn_24, kn_25, kn_26, kn_27, kn_28, kn_29, kn_30, kn_31, kn_32, kn_33, kn_34, kn_35, kn_36, kn_37, kn_38, kn_39, kn_40, kzi_0_128, kzi_1_128, kzi_2_128, kzi_3_128, kzi_0_3, kzi_1_3, kzi_2_3, kzi_0_32, kzi_1_32, kzi_2_32, kzi_3_32, kzi_0_10, kzi_1_10, kzi_2_10, kzi_3_10, zte_0, zte_1, zte_2, zte_3, zte_4, zte_5, zte_6, zte_7, zte_8, zte_9, zte_10, zte_11, zte_12, zte_13, zte_14, zte_15, zte_16, dX11_begins_0, dX11_begins_1, dX11_begins_11, dX11_begins_12, dX11_begins_15, dX11_begins_17, dX11_begins_19, dX11_begins_21, dX11_begins_24, dX11_begins_25, dX11_begins_28, dX11_begins_29, dX11_begins_3, dX11_begins_32, dX11_begins_33, dX11_begins_36, dX11_begins_38, dX11_begins_39, dX11_begins_40, dX11_begins_42, dX11_begins_43, dX11_begins_45, dX11_begins_46, dX11_begins_47, dX11_begins_5, dX11_begins_50, dX11_begins_51, dX11_begins_52, dX11_begins_53, dX11_begins_54, dX11_begins_56, dX11_begins_58, dX11_begins_59, dX11_begins_62, dX11_begins_63, dX11_begins_66, dX11_begins_69, dX11_begins_70, dX11_begins_72, dX11_begins_74, dX11_begins_76, dX11_begins_79, dX11_begins_8, dX11_begins_80, dX11_begins_83, dX11_begins_85, dX11_begins_86, dX11_begins_87, dX11_begins_90, dX11_begins_93, jX11_begins_21, jX11_begins_25, jX11_begins_29, jX11_begins_47, jX11_begins_66, jX11_begins_76, jX11_begins_8, jX11_begins_90, kb_10, kb_64, kc_0, kc_1, kf_0, kf_1, kf_2, kf_3, ks_128, mX11_begins_b, mX11_begins_c, mX11_begins_r, mX11_begins_s, mX11_partOf_c, mX11_partOf_s, zfl_11_33, zfl_11_42, zfl_11_45, zml_11_287, zw_aload_n, zw_bipush, zw_getfield, zw_goto, zw_iadd, zw_iaload, zw_iastore, zw_iconst, zw_ifCond, zw_if_icmp, zw_iinc, zw_iload, zw_iload_n, zw_imul, zw_invokevirtual, zw_istore, zw_isub, zw_return_, zw_sipush, hcd, hlt, kk, p1, p2, p3, z1, z2, a, zsA_wr, er, ← nI_succ, l0]
      · have hlt : (64 ≤ nI i) = True := eq_true (nI_le (a := 64) (b := i) (by omega) (by omega))
        obtain ⟨c, rfl⟩ : ∃ c, i = 64 + c := ⟨i - 64, by omega⟩
        have e0 : mcInit (xMem0 S t n k) (64 + c) = xMem0 S t n k c := by
          unfold mcInit
          rw [if_pos (by omega), show 64 + c - 64 = c by omega]
        rw [e0] at er
        rcases hn with rfl | ⟨hn1, hn2, hk⟩
        · have e5 : xMem0 S t 0 k c = S 2004 t c := by
            unfold xMem0
            rw [if_pos rfl]
          rw [e5] at er
          obtain ⟨p4, p5, p6⟩ := H1.1.p15
          have a2 := H1.a15
          have em := (R2 t ht).2.2.1 c (by omega)
          have ei : (64 : Int32) * nI t + nI (64 + c) - 64 = nI (64 * t + c) := by
            rw [xA64, show (64 : Int32) = nI 64 by rfl, pk_sub (by omega), show 64 * t + (64 + c) - 64 = 64 * t + c by omega]
          have z5 : zin (nI (64 * t + c)) 384 = True := eq_true (zin_nI (by omega) (by omega))
          have z6 := nI_clamp (show 64 * t + c < 2 ^ 31 by omega)
          refine zrunS hX [3, 72] 60 ?_
          simp only [zb_s, zm_ok, zgo_c, zstp_n, zstp_c, Bool.false_eq_true, Bool.false_or, Bool.or_false, Bool.true_or, eq_self, kne_10, kne_01, zget_0, zget_s, zst1_0, zst1_1, zst1_s, zst2_0, zst2_1, zst2_s, zht_c, zdl_n, zdl_i, zdl_r, zdl_l, zct_i, zct_r, zct_l, zct_n, zct_q, zpI_c, zpL_c, zpR_c, zpR_q, zpQ_c, zpQ_n, zpQ_q, zpV_c, zpn_0, zpn_s, zvI_c, zvL_c, zvR_c, zcs_n, zcs_c, zcn_eq, zcn_ne, zcn_lt, zcn_ge, zcn_gt, zcn_le, zrs_n, zrs_s, zrs_x, zpf_0, zpf_1, zpf_2, zpf_3, zfv_0, zfv_1, zfv_2, zfv_3, List.length_cons, List.length_nil, List.nil_append, List.cons_append, List.append_nil, Nat.reduceAdd, Nat.reduceSub, Nat.reduceMul, Nat.reduceLT, Nat.reduceLeDiff, Nat.reduceEqDiff, Nat.reduceBEq, Nat.zero_add, Nat.add_zero, Nat.sub_zero, Nat.zero_le, Nat.le_refl, true_and, and_true, implies_true, forall_const, true_or, or_true, not_true_eq_false, not_false_eq_true, Classical.not_not, false_implies, and_self, ↓reduceIte, reduceCtorEq, exists_eq_left, exists_eq_left', Option.some.injEq, Int.reduceAdd, Int.reduceSub, Int.reduceNeg, List.size_toArray, znc_2, znc_3, znc_4, znc_5, znc_6, znc_7, znc_8, znc_9, znc_10, znc_11, znc_12, znc_13, znc_14, znc_15, znc_16, znc_17, znc_18, znc_19, znc_20, znc_21, znc_22, znc_23, znc_24, znc_25, znc_26, znc_27, znc_28, znc_29, znc_30, znc_31, znc_32, kn_0, kn_1, kn_2, kn_3, kn_4, kn_5, kn_6, kn_7, kn_8, kn_9, kn_10, kn_11, kn_12, kn_13, kn_14, kn_15, kn_16, kn_17, kn_18, kn_19, kn_20, kn_21, kn_22, kn_23, kn_24, kn_25, kn_26, kn_27, kn_28, kn_29, kn_30, kn_31, kn_32, kn_33, kn_34, kn_35, kn_36, kn_37, kn_38, kn_39, kn_40, kzi_0_128, kzi_1_128, kzi_2_128, kzi_3_128, kzi_0_3, kzi_1_3, kzi_2_3, kzi_0_32, kzi_1_32, kzi_2_32, kzi_3_32, kzi_0_10, kzi_1_10, kzi_2_10, kzi_3_10, zte_0, zte_1, zte_2, zte_3, zte_4, zte_5, zte_6, zte_7, zte_8, zte_9, zte_10, zte_11, zte_12, zte_13, zte_14, zte_15, zte_16, dX11_begins_0, dX11_begins_1, dX11_begins_11, dX11_begins_12, dX11_begins_15, dX11_begins_17, dX11_begins_19, dX11_begins_21, dX11_begins_24, dX11_begins_25, dX11_begins_28, dX11_begins_29, dX11_begins_3, dX11_begins_32, dX11_begins_33, dX11_begins_36, dX11_begins_38, dX11_begins_39, dX11_begins_40, dX11_begins_42, dX11_begins_43, dX11_begins_45, dX11_begins_46, dX11_begins_47, dX11_begins_5, dX11_begins_50, dX11_begins_51, dX11_begins_52, dX11_begins_53, dX11_begins_54, dX11_begins_56, dX11_begins_58, dX11_begins_59, dX11_begins_62, dX11_begins_63, dX11_begins_66, dX11_begins_69, dX11_begins_70, dX11_begins_72, dX11_begins_74, dX11_begins_76, dX11_begins_79, dX11_begins_8, dX11_begins_80, dX11_begins_83, dX11_begins_85, dX11_begins_86, dX11_begins_87, dX11_begins_90, dX11_begins_93, jX11_begins_21, jX11_begins_25, jX11_begins_29, jX11_begins_47, jX11_begins_66, jX11_begins_76, jX11_begins_8, jX11_begins_90, kb_10, kb_64, kc_0, kc_1, kf_0, kf_1, kf_2, kf_3, ks_128, mX11_begins_b, mX11_begins_c, mX11_begins_r, mX11_begins_s, mX11_partOf_c, mX11_partOf_s, zfl_11_33, zfl_11_42, zfl_11_45, zml_11_287, zw_aload_n, zw_bipush, zw_getfield, zw_goto, zw_iadd, zw_iaload, zw_iastore, zw_iconst, zw_ifCond, zw_if_icmp, zw_iinc, zw_iload, zw_iload_n, zw_imul, zw_invokevirtual, zw_istore, zw_isub, zw_return_, zw_sipush, hcd, hlt, kk, nI_0, p1, p2, p3, p4, p5, p6, z1, z2, z5, z6, ei, a, a2, em, zsA_wr, er, ← nI_succ]
          rw [nI_0] at l0
          exact l0
        · have e5 : xMem0 S t n k c = xPart S t n k c := by
            unfold xMem0
            rw [if_neg (by omega)]
            rfl
          rw [e5] at er
          have hn0 : (nI n = 0) = False := eq_false (nI_ne0 (by omega) (by omega))
          have ei : nI (64 + c) - 64 = nI c := by
            rw [show (64 : Int32) = nI 64 by rfl, pk_sub (by omega), show 64 + c - 64 = c by omega]
          refine zrunS hX [3, 72] 60 ?_
          simp only [zb_s, zm_ok, zgo_c, zstp_n, zstp_c, Bool.false_eq_true, Bool.false_or, Bool.or_false, Bool.true_or, eq_self, kne_10, kne_01, zget_0, zget_s, zst1_0, zst1_1, zst1_s, zst2_0, zst2_1, zst2_s, zht_c, zdl_n, zdl_i, zdl_r, zdl_l, zct_i, zct_r, zct_l, zct_n, zct_q, zpI_c, zpL_c, zpR_c, zpR_q, zpQ_c, zpQ_n, zpQ_q, zpV_c, zpn_0, zpn_s, zvI_c, zvL_c, zvR_c, zcs_n, zcs_c, zcn_eq, zcn_ne, zcn_lt, zcn_ge, zcn_gt, zcn_le, zrs_n, zrs_s, zrs_x, zpf_0, zpf_1, zpf_2, zpf_3, zfv_0, zfv_1, zfv_2, zfv_3, List.length_cons, List.length_nil, List.nil_append, List.cons_append, List.append_nil, Nat.reduceAdd, Nat.reduceSub, Nat.reduceMul, Nat.reduceLT, Nat.reduceLeDiff, Nat.reduceEqDiff, Nat.reduceBEq, Nat.zero_add, Nat.add_zero, Nat.sub_zero, Nat.zero_le, Nat.le_refl, true_and, and_true, implies_true, forall_const, true_or, or_true, not_true_eq_false, not_false_eq_true, Classical.not_not, false_implies, and_self, ↓reduceIte, reduceCtorEq, exists_eq_left, exists_eq_left', Option.some.injEq, Int.reduceAdd, Int.reduceSub, Int.reduceNeg, List.size_toArray, znc_2, znc_3, znc_4, znc_5, znc_6, znc_7, znc_8, znc_9, znc_10, znc_11, znc_12, znc_13, znc_14, znc_15, znc_16, znc_17, znc_18, znc_19, znc_20, znc_21, znc_22, znc_23, znc_24, znc_25, znc_26, znc_27, znc_28, znc_29, znc_30, znc_31, znc_32, kn_0, kn_1, kn_2, kn_3, kn_4, kn_5, kn_6, kn_7, kn_8, kn_9, kn_10, kn_11, kn_12, kn_13, kn_14, kn_15, kn_16, kn_17, kn_18, kn_19, kn_20, kn_21, kn_22, kn_23, kn_24, kn_25, kn_26, kn_27, kn_28, kn_29, kn_30, kn_31, kn_32, kn_33, kn_34, kn_35, kn_36, kn_37, kn_38, kn_39, kn_40, kzi_0_128, kzi_1_128, kzi_2_128, kzi_3_128, kzi_0_3, kzi_1_3, kzi_2_3, kzi_0_32, kzi_1_32, kzi_2_32, kzi_3_32, kzi_0_10, kzi_1_10, kzi_2_10, kzi_3_10, zte_0, zte_1, zte_2, zte_3, zte_4, zte_5, zte_6, zte_7, zte_8, zte_9, zte_10, zte_11, zte_12, zte_13, zte_14, zte_15, zte_16, dX11_begins_0, dX11_begins_1, dX11_begins_11, dX11_begins_12, dX11_begins_15, dX11_begins_17, dX11_begins_19, dX11_begins_21, dX11_begins_24, dX11_begins_25, dX11_begins_28, dX11_begins_29, dX11_begins_3, dX11_begins_32, dX11_begins_33, dX11_begins_36, dX11_begins_38, dX11_begins_39, dX11_begins_40, dX11_begins_42, dX11_begins_43, dX11_begins_45, dX11_begins_46, dX11_begins_47, dX11_begins_5, dX11_begins_50, dX11_begins_51, dX11_begins_52, dX11_begins_53, dX11_begins_54, dX11_begins_56, dX11_begins_58, dX11_begins_59, dX11_begins_62, dX11_begins_63, dX11_begins_66, dX11_begins_69, dX11_begins_70, dX11_begins_72, dX11_begins_74, dX11_begins_76, dX11_begins_79, dX11_begins_8, dX11_begins_80, dX11_begins_83, dX11_begins_85, dX11_begins_86, dX11_begins_87, dX11_begins_90, dX11_begins_93, jX11_begins_21, jX11_begins_25, jX11_begins_29, jX11_begins_47, jX11_begins_66, jX11_begins_76, jX11_begins_8, jX11_begins_90, kb_10, kb_64, kc_0, kc_1, kf_0, kf_1, kf_2, kf_3, ks_128, mX11_begins_b, mX11_begins_c, mX11_begins_r, mX11_begins_s, mX11_partOf_c, mX11_partOf_s, zfl_11_33, zfl_11_42, zfl_11_45, zml_11_287, zw_aload_n, zw_bipush, zw_getfield, zw_goto, zw_iadd, zw_iaload, zw_iastore, zw_iconst, zw_ifCond, zw_if_icmp, zw_iinc, zw_iload, zw_iload_n, zw_imul, zw_invokevirtual, zw_istore, zw_isub, zw_return_, zw_sipush, hd0, hcd, hlt, hn0, kk, p1, p2, p3, ei]
          refine m_partOf H1 R2 ht ⟨hn1, hn2⟩ hk (by omega) ?_
          simp only [zb_s, zm_ok, zgo_c, zstp_n, zstp_c, Bool.false_eq_true, Bool.false_or, Bool.or_false, Bool.true_or, eq_self, kne_10, kne_01, zget_0, zget_s, zst1_0, zst1_1, zst1_s, zst2_0, zst2_1, zst2_s, zht_c, zdl_n, zdl_i, zdl_r, zdl_l, zct_i, zct_r, zct_l, zct_n, zct_q, zpI_c, zpL_c, zpR_c, zpR_q, zpQ_c, zpQ_n, zpQ_q, zpV_c, zpn_0, zpn_s, zvI_c, zvL_c, zvR_c, zcs_n, zcs_c, zcn_eq, zcn_ne, zcn_lt, zcn_ge, zcn_gt, zcn_le, zrs_n, zrs_s, zrs_x, zpf_0, zpf_1, zpf_2, zpf_3, zfv_0, zfv_1, zfv_2, zfv_3, List.length_cons, List.length_nil, List.nil_append, List.cons_append, List.append_nil, Nat.reduceAdd, Nat.reduceSub, Nat.reduceMul, Nat.reduceLT, Nat.reduceLeDiff, Nat.reduceEqDiff, Nat.reduceBEq, Nat.zero_add, Nat.add_zero, Nat.sub_zero, Nat.zero_le, Nat.le_refl, true_and, and_true, implies_true, forall_const, true_or, or_true, not_true_eq_false, not_false_eq_true, Classical.not_not, false_implies, and_self, ↓reduceIte, reduceCtorEq, exists_eq_left, exists_eq_left', Option.some.injEq, Int.reduceAdd, Int.reduceSub, Int.reduceNeg, List.size_toArray, znc_2, znc_3, znc_4, znc_5, znc_6, znc_7, znc_8, znc_9, znc_10, znc_11, znc_12, znc_13, znc_14, znc_15, znc_16, znc_17, znc_18, znc_19, znc_20, znc_21, znc_22, znc_23, znc_24, znc_25, znc_26, znc_27, znc_28, znc_29, znc_30, znc_31, znc_32, kn_0, kn_1, kn_2, kn_3, kn_4, kn_5, kn_6, kn_7, kn_8, kn_9, kn_10, kn_11, kn_12, kn_13, kn_14, kn_15, kn_16, kn_17, kn_18, kn_19, kn_20, kn_21, kn_22, kn_23, kn_24, kn_25, kn_26, kn_27, kn_28, kn_29, kn_30, kn_31, kn_32, kn_33, kn_34, kn_35, kn_36, kn_37, kn_38, kn_39, kn_40, kzi_0_128, kzi_1_128, kzi_2_128, kzi_3_128, kzi_0_3, kzi_1_3, kzi_2_3, kzi_0_32, kzi_1_32, kzi_2_32, kzi_3_32, kzi_0_10, kzi_1_10, kzi_2_10, kzi_3_10, zte_0, zte_1, zte_2, zte_3, zte_4, zte_5, zte_6, zte_7, zte_8, zte_9, zte_10, zte_11, zte_12, zte_13, zte_14, zte_15, zte_16, dX11_begins_0, dX11_begins_1, dX11_begins_11, dX11_begins_12, dX11_begins_15, dX11_begins_17, dX11_begins_19, dX11_begins_21, dX11_begins_24, dX11_begins_25, dX11_begins_28, dX11_begins_29, dX11_begins_3, dX11_begins_32, dX11_begins_33, dX11_begins_36, dX11_begins_38, dX11_begins_39, dX11_begins_40, dX11_begins_42, dX11_begins_43, dX11_begins_45, dX11_begins_46, dX11_begins_47, dX11_begins_5, dX11_begins_50, dX11_begins_51, dX11_begins_52, dX11_begins_53, dX11_begins_54, dX11_begins_56, dX11_begins_58, dX11_begins_59, dX11_begins_62, dX11_begins_63, dX11_begins_66, dX11_begins_69, dX11_begins_70, dX11_begins_72, dX11_begins_74, dX11_begins_76, dX11_begins_79, dX11_begins_8, dX11_begins_80, dX11_begins_83, dX11_begins_85, dX11_begins_86, dX11_begins_87, dX11_begins_90, dX11_begins_93, jX11_begins_21, jX11_begins_25, jX11_begins_29, jX11_begins_47, jX11_begins_66, jX11_begins_76, jX11_begins_8, jX11_begins_90, kb_10, kb_64, kc_0, kc_1, kf_0, kf_1, kf_2, kf_3, ks_128, mX11_begins_b, mX11_begins_c, mX11_begins_r, mX11_begins_s, mX11_partOf_c, mX11_partOf_s, zfl_11_33, zfl_11_42, zfl_11_45, zml_11_287, zw_aload_n, zw_bipush, zw_getfield, zw_goto, zw_iadd, zw_iaload, zw_iastore, zw_iconst, zw_ifCond, zw_if_icmp, zw_iinc, zw_iload, zw_iload_n, zw_imul, zw_invokevirtual, zw_istore, zw_isub, zw_return_, zw_sipush, hcd, hlt, kk, p1, p2, p3, z1, z2, a, zsA_wr, er, ← nI_succ, l0]
  have l0 := L 128 0 h (by omega) (by rw [zrow_0, mw_id rfl]; exact H) (zFM.rf _ _)
  rw [nI_0] at l0
  refine zrunS hX [3, 72] 60 ?_
  simp only [zb_s, zm_ok, zgo_c, zstp_n, zstp_c, Bool.false_eq_true, Bool.false_or, Bool.or_false, Bool.true_or, eq_self, kne_10, kne_01, zget_0, zget_s, zst1_0, zst1_1, zst1_s, zst2_0, zst2_1, zst2_s, zht_c, zdl_n, zdl_i, zdl_r, zdl_l, zct_i, zct_r, zct_l, zct_n, zct_q, zpI_c, zpL_c, zpR_c, zpR_q, zpQ_c, zpQ_n, zpQ_q, zpV_c, zpn_0, zpn_s, zvI_c, zvL_c, zvR_c, zcs_n, zcs_c, zcn_eq, zcn_ne, zcn_lt, zcn_ge, zcn_gt, zcn_le, zrs_n, zrs_s, zrs_x, zpf_0, zpf_1, zpf_2, zpf_3, zfv_0, zfv_1, zfv_2, zfv_3, List.length_cons, List.length_nil, List.nil_append, List.cons_append, List.append_nil, Nat.reduceAdd, Nat.reduceSub, Nat.reduceMul, Nat.reduceLT, Nat.reduceLeDiff, Nat.reduceEqDiff, Nat.reduceBEq, Nat.zero_add, Nat.add_zero, Nat.sub_zero, Nat.zero_le, Nat.le_refl, true_and, and_true, implies_true, forall_const, true_or, or_true, not_true_eq_false, not_false_eq_true, Classical.not_not, false_implies, and_self, ↓reduceIte, reduceCtorEq, exists_eq_left, exists_eq_left', Option.some.injEq, Int.reduceAdd, Int.reduceSub, Int.reduceNeg, List.size_toArray, znc_2, znc_3, znc_4, znc_5, znc_6, znc_7, znc_8, znc_9, znc_10, znc_11, znc_12, znc_13, znc_14, znc_15, znc_16, znc_17, znc_18, znc_19, znc_20, znc_21, znc_22, znc_23, znc_24, znc_25, znc_26, znc_27, znc_28, znc_29, znc_30, znc_31, znc_32, kn_0, kn_1, kn_2, kn_3, kn_4, kn_5, kn_6, kn_7, kn_8, kn_9, kn_10, kn_11, kn_12, kn_13, kn_14, kn_15, kn_16, kn_17, kn_18, kn_19, kn_20, kn_21, kn_22, kn_23, kn_24, kn_25, kn_26, kn_27, kn_28, kn_29, kn_30, kn_31, kn_32, kn_33, kn_34, kn_35, kn_36, kn_37, kn_38, kn_39, kn_40, kzi_0_128, kzi_1_128, kzi_2_128, kzi_3_128, kzi_0_3, kzi_1_3, kzi_2_3, kzi_0_32, kzi_1_32, kzi_2_32, kzi_3_32, kzi_0_10, kzi_1_10, kzi_2_10, kzi_3_10, zte_0, zte_1, zte_2, zte_3, zte_4, zte_5, zte_6, zte_7, zte_8, zte_9, zte_10, zte_11, zte_12, zte_13, zte_14, zte_15, zte_16, dX11_begins_0, dX11_begins_1, dX11_begins_11, dX11_begins_12, dX11_begins_15, dX11_begins_17, dX11_begins_19, dX11_begins_21, dX11_begins_24, dX11_begins_25, dX11_begins_28, dX11_begins_29, dX11_begins_3, dX11_begins_32, dX11_begins_33, dX11_begins_36, dX11_begins_38, dX11_begins_39, dX11_begins_40, dX11_begins_42, dX11_begins_43, dX11_begins_45, dX11_begins_46, dX11_begins_47, dX11_begins_5, dX11_begins_50, dX11_begins_51, dX11_begins_52, dX11_begins_53, dX11_begins_54, dX11_begins_56, dX11_begins_58, dX11_begins_59, dX11_begins_62, dX11_begins_63, dX11_begins_66, dX11_begins_69, dX11_begins_70, dX11_begins_72, dX11_begins_74, dX11_begins_76, dX11_begins_79, dX11_begins_8, dX11_begins_80, dX11_begins_83, dX11_begins_85, dX11_begins_86, dX11_begins_87, dX11_begins_90, dX11_begins_93, jX11_begins_21, jX11_begins_25, jX11_begins_29, jX11_begins_47, jX11_begins_66, jX11_begins_76, jX11_begins_8, jX11_begins_90, kb_10, kb_64, kc_0, kc_1, kf_0, kf_1, kf_2, kf_3, ks_128, mX11_begins_b, mX11_begins_c, mX11_begins_r, mX11_begins_s, mX11_partOf_c, mX11_partOf_s, zfl_11_33, zfl_11_42, zfl_11_45, zml_11_287, zw_aload_n, zw_bipush, zw_getfield, zw_goto, zw_iadd, zw_iaload, zw_iastore, zw_iconst, zw_ifCond, zw_if_icmp, zw_iinc, zw_iload, zw_iload_n, zw_imul, zw_invokevirtual, zw_istore, zw_isub, zw_return_, zw_sipush, l0]
theorem mcHas_n {n pc : Nat} (h : pc < n) (hn : n ≤ 200) : mcHas (nI n) (nI pc) := ⟨nI_pos (by omega), nI_lt h (by omega), nI_lt (a := pc) (b := 200) (by omega) (by omega)⟩
set_option maxHeartbeats 4000000 in
set_option maxRecDepth 100000 in
theorem m_runs {l G d D h Q} {S : zst} {M : mst} {t n k st m : Nat} (hd : 2 ≤ d) (H : zMH D M h) (R : RelT S M) (ht : t < 6) (hm : S 805 t 0 = nI m) (hw : wCode (S 2002 t) (S 2003 t) m) (hn : n = 0 ∨ (2 ≤ n ∧ n ≤ 8 ∧ k < n)) (hst : st ≤ 20000)
  (hQ : ∀ g, zMH D (mw (mw M 18 (mcRun (S 2002 t) (S 2003 t) (nI m) st (mcInit (xMem0 S t n k), zz)).1.1) 19 (mcRun (S 2002 t) (S 2003 t) (nI m) st (mcInit (xMem0 S t n k), zz)).1.2) g → zFM D h g → Q (.inl (some (.int (nI (mcRun (S 2002 t) (S 2003 t) (nI m) st (mcInit (xMem0 S t n k), zz)).2)))) g) : zCall l G mX11_runs d [.ref D, .int (nI t), .int (nI n), .int (nI k), .int (nI st)] h Q := by
  have hd0 : 0 < d := by omega
  have kk := H.k
  obtain ⟨hm1, hm2, dp, dp0, hdp⟩ := hw
  refine zEnt 11 false mX11_runs _ _ _ _ [some (.ref D), some (.int (nI t)), some (.int (nI n)), some (.int (nI k)), some (.int (nI st)), none] rfl (by decide +kernel) (fun h => by cases h) rfl (Nat.le_of_ble_eq_true rfl) fun X hX => ?_
  have L : ∀ (f i : Nat) (T : zcells × zcells) (g : zH), i + f = st → zMH D (mw (mw M 18 T.1) 19 T.2) g → zFM D h g → wSt dp m T.1 → (∀ g, zMH D (mw (mw M 18 (mcRun (S 2002 t) (S 2003 t) (nI m) f T).1.1) 19 (mcRun (S 2002 t) (S 2003 t) (nI m) f T).1.2) g → zFM D h g → Q (.inl (some (.int (nI (i + (mcRun (S 2002 t) (S 2003 t) (nI m) f T).2))))) g) → zJ l G X 10 [some (.ref D), some (.int (nI t)), some (.int (nI n)), some (.int (nI k)), some (.int (nI st)), some (.int (nI i))] [] g 0 0 := by
    intro f
    induction f with
    | zero =>
      intro i T g hi H1 F1 hs hQ
      have hcd : (nI st ≤ nI i) = True := eq_true (nI_le (by omega) (by omega))
      have hq := hQ g H1 F1
      refine zrunS hX [10] 60 ?_
      simp only [zb_s, zm_ok, zgo_c, zstp_n, zstp_c, Bool.false_eq_true, Bool.false_or, Bool.or_false, Bool.true_or, eq_self, kne_10, kne_01, zget_0, zget_s, zst1_0, zst1_1, zst1_s, zst2_0, zst2_1, zst2_s, zht_c, zdl_n, zdl_i, zdl_r, zdl_l, zct_i, zct_r, zct_l, zct_n, zct_q, zpI_c, zpL_c, zpR_c, zpR_q, zpQ_c, zpQ_n, zpQ_q, zpV_c, zpn_0, zpn_s, zvI_c, zvL_c, zvR_c, zcs_n, zcs_c, zcn_eq, zcn_ne, zcn_lt, zcn_ge, zcn_gt, zcn_le, zrs_n, zrs_s, zrs_x, zpf_0, zpf_1, zpf_2, zpf_3, zfv_0, zfv_1, zfv_2, zfv_3, List.length_cons, List.length_nil, List.nil_append, List.cons_append, List.append_nil, Nat.reduceAdd, Nat.reduceSub, Nat.reduceMul, Nat.reduceLT, Nat.reduceLeDiff, Nat.reduceEqDiff, Nat.reduceBEq, Nat.zero_add, Nat.add_zero, Nat.sub_zero, Nat.zero_le, Nat.le_refl, true_and, and_true, implies_true, forall_const, true_or, or_true, not_true_eq_false, not_false_eq_true, Classical.not_not, false_implies, and_self, ↓reduceIte, reduceCtorEq, exists_eq_left, exists_eq_left', Option.some.injEq, Int.reduceAdd, Int.reduceSub, Int.reduceNeg, List.size_toArray, znc_2, znc_3, znc_4, znc_5, znc_6, znc_7, znc_8, znc_9, znc_10, znc_11, znc_12, znc_13, znc_14, znc_15, znc_16, znc_17, znc_18, znc_19, znc_20, znc_21, znc_22, znc_23, znc_24, znc_25, znc_26, znc_27, znc_28, znc_29, znc_30, znc_31, znc_32, kn_0, kn_1, kn_2, kn_3, kn_4, kn_5, kn_6, kn_7, kn_8, kn_9, kn_10, kn_11, kn_12, kn_13, kn_14, kn_15, kn_16, kn_17, kn_18, kn_19, kn_20, kn_21, kn_22, kn_23, kn_24, kn_25, kn_26, kn_27, kn_28, kn_29, kn_30, kn_31, kn_32, kn_33, kn_34, kn_35, kn_36, kn_37, kn_38, kn_39, kn_40, kzi_0_128, kzi_1_128, kzi_2_128, kzi_3_128, kzi_0_3, kzi_1_3, kzi_2_3, kzi_0_32, kzi_1_32, kzi_2_32, kzi_3_32, kzi_0_10, kzi_1_10, kzi_2_10, kzi_3_10, zte_0, zte_1, zte_2, zte_3, zte_4, zte_5, zte_6, zte_7, zte_8, zte_9, zte_10, zte_11, zte_12, zte_13, zte_14, zte_15, zte_16, dX11_runs_0, dX11_runs_1, dX11_runs_10, dX11_runs_12, dX11_runs_14, dX11_runs_17, dX11_runs_18, dX11_runs_19, dX11_runs_2, dX11_runs_22, dX11_runs_25, dX11_runs_28, dX11_runs_3, dX11_runs_31, dX11_runs_33, dX11_runs_4, dX11_runs_7, dX11_runs_8, jX11_runs_14, jX11_runs_22, jX11_runs_28, kc_0, kc_1, kf_0, kf_1, kf_2, kf_3, mX11_begins_c, mX11_begins_s, mX11_goes_c, mX11_goes_s, mX11_runs_b, mX11_runs_c, mX11_runs_r, mX11_runs_s, zml_11_301, zml_11_305, zw_aload_n, zw_goto, zw_iconst, zw_ifCond, zw_if_icmp, zw_iinc, zw_iload, zw_iload_n, zw_invokevirtual, zw_ireturn, zw_istore, hcd]
      exact hq
    | succ f ih =>
      intro i T g hi H1 F1 hs hQ
      have hcd : (nI st ≤ nI i) = False := eq_false (nI_ge (by omega) (by omega))
      obtain ⟨pc, hpc, c0, c1⟩ := hs
      obtain ⟨u1, u2, u3⟩ := hdp pc hpc
      have kk := H1.k
      have R2 : RelT S (mw (mw M 18 T.1) 19 T.2) := R.c (fun _ _ => rfl) (fun j hj => by unfold rKT at hj; rw [mw_n _ (by omega), mw_n _ (by omega)])
      obtain ⟨eo, en⟩ := (R2 t ht).2.1 pc (by rw [hm, nI_clamp (by omega)]; exact hpc)
      have hh := mcHas_n hpc hm2
      refine zrunS hX [10] 60 ?_
      simp only [zb_s, zm_ok, zgo_c, zstp_n, zstp_c, Bool.false_eq_true, Bool.false_or, Bool.or_false, Bool.true_or, eq_self, kne_10, kne_01, zget_0, zget_s, zst1_0, zst1_1, zst1_s, zst2_0, zst2_1, zst2_s, zht_c, zdl_n, zdl_i, zdl_r, zdl_l, zct_i, zct_r, zct_l, zct_n, zct_q, zpI_c, zpL_c, zpR_c, zpR_q, zpQ_c, zpQ_n, zpQ_q, zpV_c, zpn_0, zpn_s, zvI_c, zvL_c, zvR_c, zcs_n, zcs_c, zcn_eq, zcn_ne, zcn_lt, zcn_ge, zcn_gt, zcn_le, zrs_n, zrs_s, zrs_x, zpf_0, zpf_1, zpf_2, zpf_3, zfv_0, zfv_1, zfv_2, zfv_3, List.length_cons, List.length_nil, List.nil_append, List.cons_append, List.append_nil, Nat.reduceAdd, Nat.reduceSub, Nat.reduceMul, Nat.reduceLT, Nat.reduceLeDiff, Nat.reduceEqDiff, Nat.reduceBEq, Nat.zero_add, Nat.add_zero, Nat.sub_zero, Nat.zero_le, Nat.le_refl, true_and, and_true, implies_true, forall_const, true_or, or_true, not_true_eq_false, not_false_eq_true, Classical.not_not, false_implies, and_self, ↓reduceIte, reduceCtorEq, exists_eq_left, exists_eq_left', Option.some.injEq, Int.reduceAdd, Int.reduceSub, Int.reduceNeg, List.size_toArray, znc_2, znc_3, znc_4, znc_5, znc_6, znc_7, znc_8, znc_9, znc_10, znc_11, znc_12, znc_13, znc_14, znc_15, znc_16, znc_17, znc_18, znc_19, znc_20, znc_21, znc_22, znc_23, znc_24, znc_25, znc_26, znc_27, znc_28, znc_29, znc_30, znc_31, znc_32, kn_0, kn_1, kn_2, kn_3, kn_4, kn_5, kn_6, kn_7, kn_8, kn_9, kn_10, kn_11, kn_12, kn_13, kn_14, kn_15, kn_16, kn_17, kn_18, kn_19, kn_20, kn_21, kn_22, kn_23, kn_24, kn_25, kn_26, kn_27, kn_28, kn_29, kn_30, kn_31, kn_32, kn_33, kn_34, kn_35, kn_36, kn_37, kn_38, kn_39, kn_40, kzi_0_128, kzi_1_128, kzi_2_128, kzi_3_128, kzi_0_3, kzi_1_3, kzi_2_3, kzi_0_32, kzi_1_32, kzi_2_32, kzi_3_32, kzi_0_10, kzi_1_10, kzi_2_10, kzi_3_10, zte_0, zte_1, zte_2, zte_3, zte_4, zte_5, zte_6, zte_7, zte_8, zte_9, zte_10, zte_11, zte_12, zte_13, zte_14, zte_15, zte_16, dX11_runs_0, dX11_runs_1, dX11_runs_10, dX11_runs_12, dX11_runs_14, dX11_runs_17, dX11_runs_18, dX11_runs_19, dX11_runs_2, dX11_runs_22, dX11_runs_25, dX11_runs_28, dX11_runs_3, dX11_runs_31, dX11_runs_33, dX11_runs_4, dX11_runs_7, dX11_runs_8, jX11_runs_14, jX11_runs_22, jX11_runs_28, kc_0, kc_1, kf_0, kf_1, kf_2, kf_3, mX11_begins_c, mX11_begins_s, mX11_goes_c, mX11_goes_s, mX11_runs_b, mX11_runs_c, mX11_runs_r, mX11_runs_s, zml_11_301, zml_11_305, zw_aload_n, zw_goto, zw_iconst, zw_ifCond, zw_if_icmp, zw_iinc, zw_iload, zw_iload_n, zw_invokevirtual, zw_ireturn, zw_istore, hd0, hcd, kk]
      refine m_goes (by omega) H1 (by rw [mw_n _ (by omega), mw_e]) (mw_e _ _ _) ht eo en c0 (by omega) c1 u1 u2 (fun q => ?_) (fun q g2 H2 F2 => ?_)
      · unfold mcRun at hQ
        rw [if_pos (Or.inr (by rw [c0, nI_clamp (by omega)]; exact q))] at hQ
        have hq := hQ g H1 F1
        rw [Nat.add_zero] at hq
        simp only [zb_s, zm_ok, zgo_c, zstp_n, zstp_c, Bool.false_eq_true, Bool.false_or, Bool.or_false, Bool.true_or, eq_self, kne_10, kne_01, zget_0, zget_s, zst1_0, zst1_1, zst1_s, zst2_0, zst2_1, zst2_s, zht_c, zdl_n, zdl_i, zdl_r, zdl_l, zct_i, zct_r, zct_l, zct_n, zct_q, zpI_c, zpL_c, zpR_c, zpR_q, zpQ_c, zpQ_n, zpQ_q, zpV_c, zpn_0, zpn_s, zvI_c, zvL_c, zvR_c, zcs_n, zcs_c, zcn_eq, zcn_ne, zcn_lt, zcn_ge, zcn_gt, zcn_le, zrs_n, zrs_s, zrs_x, zpf_0, zpf_1, zpf_2, zpf_3, zfv_0, zfv_1, zfv_2, zfv_3, List.length_cons, List.length_nil, List.nil_append, List.cons_append, List.append_nil, Nat.reduceAdd, Nat.reduceSub, Nat.reduceMul, Nat.reduceLT, Nat.reduceLeDiff, Nat.reduceEqDiff, Nat.reduceBEq, Nat.zero_add, Nat.add_zero, Nat.sub_zero, Nat.zero_le, Nat.le_refl, true_and, and_true, implies_true, forall_const, true_or, or_true, not_true_eq_false, not_false_eq_true, Classical.not_not, false_implies, and_self, ↓reduceIte, reduceCtorEq, exists_eq_left, exists_eq_left', Option.some.injEq, Int.reduceAdd, Int.reduceSub, Int.reduceNeg, List.size_toArray, znc_2, znc_3, znc_4, znc_5, znc_6, znc_7, znc_8, znc_9, znc_10, znc_11, znc_12, znc_13, znc_14, znc_15, znc_16, znc_17, znc_18, znc_19, znc_20, znc_21, znc_22, znc_23, znc_24, znc_25, znc_26, znc_27, znc_28, znc_29, znc_30, znc_31, znc_32, kn_0, kn_1, kn_2, kn_3, kn_4, kn_5, kn_6, kn_7, kn_8, kn_9, kn_10, kn_11, kn_12, kn_13, kn_14, kn_15, kn_16, kn_17, kn_18, kn_19, kn_20, kn_21, kn_22, kn_23, kn_24, kn_25, kn_26, kn_27, kn_28, kn_29, kn_30, kn_31, kn_32, kn_33, kn_34, kn_35, kn_36, kn_37, kn_38, kn_39, kn_40, kzi_0_128, kzi_1_128, kzi_2_128, kzi_3_128, kzi_0_3, kzi_1_3, kzi_2_3, kzi_0_32, kzi_1_32, kzi_2_32, kzi_3_32, kzi_0_10, kzi_1_10, kzi_2_10, kzi_3_10, zte_0, zte_1, zte_2, zte_3, zte_4, zte_5, zte_6, zte_7, zte_8, zte_9, zte_10, zte_11, zte_12, zte_13, zte_14, zte_15, zte_16, dX11_runs_0, dX11_runs_1, dX11_runs_10, dX11_runs_12, dX11_runs_14, dX11_runs_17, dX11_runs_18, dX11_runs_19, dX11_runs_2, dX11_runs_22, dX11_runs_25, dX11_runs_28, dX11_runs_3, dX11_runs_31, dX11_runs_33, dX11_runs_4, dX11_runs_7, dX11_runs_8, jX11_runs_14, jX11_runs_22, jX11_runs_28, kc_0, kc_1, kf_0, kf_1, kf_2, kf_3, mX11_begins_c, mX11_begins_s, mX11_goes_c, mX11_goes_s, mX11_runs_b, mX11_runs_c, mX11_runs_r, mX11_runs_s, zml_11_301, zml_11_305, zw_aload_n, zw_goto, zw_iconst, zw_ifCond, zw_if_icmp, zw_iinc, zw_iload, zw_iload_n, zw_invokevirtual, zw_ireturn, zw_istore, hq]
      · unfold mcRun at hQ
        rw [if_neg (by
          rintro (z | z)
          · rw [c0] at z
            exact z hh
          · rw [c0, nI_clamp (by omega)] at z
            exact q z)] at hQ
        have eg : mcGo (S 2002 t) (S 2003 t) T = (mcStepC (S 2002 t pc) (S 2003 t pc) T.1, mcStepO (S 2002 t pc) T.1 T.2) := by
          unfold mcGo
          rw [c0, nI_clamp (by omega)]
        rw [eg] at hQ
        have es : mw (mw (mw (mw M 18 T.1) 19 T.2) 18 (mcStepC (S 2002 t pc) (S 2003 t pc) T.1)) 19 (mcStepO (S 2002 t pc) T.1 T.2) = mw (mw M 18 (mcStepC (S 2002 t pc) (S 2003 t pc) T.1)) 19 (mcStepO (S 2002 t pc) T.1 T.2) := by
          funext j
          unfold mw
          by_cases e1 : j = 19
          · rw [if_pos e1, if_pos e1]
          · by_cases e2 : j = 18
            · simp only [if_neg e1, if_pos e2]
            · simp only [if_neg e1, if_neg e2]
        rw [es] at H2
        have hs2 := wStep hm2 hpc c0 c1 u1 u2 u3 q
        generalize hT : ((mcStepC (S 2002 t pc) (S 2003 t pc) T.1, mcStepO (S 2002 t pc) T.1 T.2) : zcells × zcells) = T2 at *
        have e1 : T2.1 = mcStepC (S 2002 t pc) (S 2003 t pc) T.1 := by rw [← hT]
        have e2 : T2.2 = mcStepO (S 2002 t pc) T.1 T.2 := by rw [← hT]
        have l0 := ih (i + 1) T2 g2 (by omega) (by rw [e1, e2]; exact H2) (F1.tr F2) (by rw [e1]; exact hs2) (fun g3 H3 F3 => by
          have := hQ g3 H3 F3
          rw [show i + ((mcRun (S 2002 t) (S 2003 t) (nI m) f T2).2 + 1) = i + 1 + (mcRun (S 2002 t) (S 2003 t) (nI m) f T2).2 by omega] at this
          exact this)
        simp only [zb_s, zm_ok, zgo_c, zstp_n, zstp_c, Bool.false_eq_true, Bool.false_or, Bool.or_false, Bool.true_or, eq_self, kne_10, kne_01, zget_0, zget_s, zst1_0, zst1_1, zst1_s, zst2_0, zst2_1, zst2_s, zht_c, zdl_n, zdl_i, zdl_r, zdl_l, zct_i, zct_r, zct_l, zct_n, zct_q, zpI_c, zpL_c, zpR_c, zpR_q, zpQ_c, zpQ_n, zpQ_q, zpV_c, zpn_0, zpn_s, zvI_c, zvL_c, zvR_c, zcs_n, zcs_c, zcn_eq, zcn_ne, zcn_lt, zcn_ge, zcn_gt, zcn_le, zrs_n, zrs_s, zrs_x, zpf_0, zpf_1, zpf_2, zpf_3, zfv_0, zfv_1, zfv_2, zfv_3, List.length_cons, List.length_nil, List.nil_append, List.cons_append, List.append_nil, Nat.reduceAdd, Nat.reduceSub, Nat.reduceMul, Nat.reduceLT, Nat.reduceLeDiff, Nat.reduceEqDiff, Nat.reduceBEq, Nat.zero_add, Nat.add_zero, Nat.sub_zero, Nat.zero_le, Nat.le_refl, true_and, and_true, implies_true, forall_const, true_or, or_true, not_true_eq_false, not_false_eq_true, Classical.not_not, false_implies, and_self, ↓reduceIte, reduceCtorEq, exists_eq_left, exists_eq_left', Option.some.injEq, Int.reduceAdd, Int.reduceSub, Int.reduceNeg, List.size_toArray, znc_2, znc_3, znc_4, znc_5, znc_6, znc_7, znc_8, znc_9, znc_10, znc_11, znc_12, znc_13, znc_14, znc_15, znc_16, znc_17, znc_18, znc_19, znc_20, znc_21, znc_22, znc_23, znc_24, znc_25, znc_26, znc_27, znc_28, znc_29, znc_30, znc_31, znc_32, kn_0, kn_1, kn_2, kn_3, kn_4, kn_5, kn_6, kn_7, kn_8, kn_9, kn_10, kn_11, kn_12, kn_13, kn_14, kn_15, kn_16, kn_17, kn_18, kn_19, kn_20, kn_21, kn_22, kn_23, kn_24, kn_25, kn_26, kn_27, kn_28, kn_29, kn_30, kn_31, kn_32, kn_33, kn_34, kn_35, kn_36, kn_37, kn_38, kn_39, kn_40, kzi_0_128, kzi_1_128, kzi_2_128, kzi_3_128, kzi_0_3, kzi_1_3, kzi_2_3, kzi_0_32, kzi_1_32, kzi_2_32, kzi_3_32, kzi_0_10, kzi_1_10, kzi_2_10, kzi_3_10, zte_0, zte_1, zte_2, zte_3, zte_4, zte_5, zte_6, zte_7, zte_8, zte_9, zte_10, zte_11, zte_12, zte_13, zte_14, zte_15, zte_16, dX11_runs_0, dX11_runs_1, dX11_runs_10, dX11_runs_12, dX11_runs_14, dX11_runs_17, dX11_runs_18, dX11_runs_19, dX11_runs_2, dX11_runs_22, dX11_runs_25, dX11_runs_28, dX11_runs_3, dX11_runs_31, dX11_runs_33, dX11_runs_4, dX11_runs_7, dX11_runs_8, jX11_runs_14, jX11_runs_22, jX11_runs_28, kc_0, kc_1, kf_0, kf_1, kf_2, kf_3, mX11_begins_c, mX11_begins_s, mX11_goes_c, mX11_goes_s, mX11_runs_b, mX11_runs_c, mX11_runs_r, mX11_runs_s, zml_11_301, zml_11_305, zw_aload_n, zw_goto, zw_iconst, zw_ifCond, zw_if_icmp, zw_iinc, zw_iload, zw_iload_n, zw_invokevirtual, zw_ireturn, zw_istore, ← nI_succ, l0]
  refine zrunS hX [10] 60 ?_
  simp only [zb_s, zm_ok, zgo_c, zstp_n, zstp_c, Bool.false_eq_true, Bool.false_or, Bool.or_false, Bool.true_or, eq_self, kne_10, kne_01, zget_0, zget_s, zst1_0, zst1_1, zst1_s, zst2_0, zst2_1, zst2_s, zht_c, zdl_n, zdl_i, zdl_r, zdl_l, zct_i, zct_r, zct_l, zct_n, zct_q, zpI_c, zpL_c, zpR_c, zpR_q, zpQ_c, zpQ_n, zpQ_q, zpV_c, zpn_0, zpn_s, zvI_c, zvL_c, zvR_c, zcs_n, zcs_c, zcn_eq, zcn_ne, zcn_lt, zcn_ge, zcn_gt, zcn_le, zrs_n, zrs_s, zrs_x, zpf_0, zpf_1, zpf_2, zpf_3, zfv_0, zfv_1, zfv_2, zfv_3, List.length_cons, List.length_nil, List.nil_append, List.cons_append, List.append_nil, Nat.reduceAdd, Nat.reduceSub, Nat.reduceMul, Nat.reduceLT, Nat.reduceLeDiff, Nat.reduceEqDiff, Nat.reduceBEq, Nat.zero_add, Nat.add_zero, Nat.sub_zero, Nat.zero_le, Nat.le_refl, true_and, and_true, implies_true, forall_const, true_or, or_true, not_true_eq_false, not_false_eq_true, Classical.not_not, false_implies, and_self, ↓reduceIte, reduceCtorEq, exists_eq_left, exists_eq_left', Option.some.injEq, Int.reduceAdd, Int.reduceSub, Int.reduceNeg, List.size_toArray, znc_2, znc_3, znc_4, znc_5, znc_6, znc_7, znc_8, znc_9, znc_10, znc_11, znc_12, znc_13, znc_14, znc_15, znc_16, znc_17, znc_18, znc_19, znc_20, znc_21, znc_22, znc_23, znc_24, znc_25, znc_26, znc_27, znc_28, znc_29, znc_30, znc_31, znc_32, kn_0, kn_1, kn_2, kn_3, kn_4, kn_5, kn_6, kn_7, kn_8, kn_9, kn_10, kn_11, kn_12, kn_13, kn_14, kn_15, kn_16, kn_17, kn_18, kn_19, kn_20, kn_21, kn_22, kn_23, kn_24, kn_25, kn_26, kn_27, kn_28, kn_29, kn_30, kn_31, kn_32, kn_33, kn_34, kn_35, kn_36, kn_37, kn_38, kn_39, kn_40, kzi_0_128, kzi_1_128, kzi_2_128, kzi_3_128, kzi_0_3, kzi_1_3, kzi_2_3, kzi_0_32, kzi_1_32, kzi_2_32, kzi_3_32, kzi_0_10, kzi_1_10, kzi_2_10, kzi_3_10, zte_0, zte_1, zte_2, zte_3, zte_4, zte_5, zte_6, zte_7, zte_8, zte_9, zte_10, zte_11, zte_12, zte_13, zte_14, zte_15, zte_16, dX11_runs_0, dX11_runs_1, dX11_runs_10, dX11_runs_12, dX11_runs_14, dX11_runs_17, dX11_runs_18, dX11_runs_19, dX11_runs_2, dX11_runs_22, dX11_runs_25, dX11_runs_28, dX11_runs_3, dX11_runs_31, dX11_runs_33, dX11_runs_4, dX11_runs_7, dX11_runs_8, jX11_runs_14, jX11_runs_22, jX11_runs_28, kc_0, kc_1, kf_0, kf_1, kf_2, kf_3, mX11_begins_c, mX11_begins_s, mX11_goes_c, mX11_goes_s, mX11_runs_b, mX11_runs_c, mX11_runs_r, mX11_runs_s, zml_11_301, zml_11_305, zw_aload_n, zw_goto, zw_iconst, zw_ifCond, zw_if_icmp, zw_iinc, zw_iload, zw_iload_n, zw_invokevirtual, zw_ireturn, zw_istore, hd0, kk]
  refine m_begins (by omega) H R ht hn fun g H1 F1 => ?_
  have l0 := L st 0 (mcInit (xMem0 S t n k), zz) g (by omega) H1 F1 ⟨0, by omega, by
    show mcInit (xMem0 S t n k) 0 = nI 0
    rw [nI_0]
    exact if_neg (by omega), by
    show mcInit (xMem0 S t n k) 1 = nI (dp 0)
    rw [dp0, nI_0]
    exact if_neg (by omega)⟩ (fun g2 H2 F2 => by
      rw [Nat.zero_add]
      exact hQ g2 H2 F2)
  rw [nI_0] at l0
  simp only [zb_s, zm_ok, zgo_c, zstp_n, zstp_c, Bool.false_eq_true, Bool.false_or, Bool.or_false, Bool.true_or, eq_self, kne_10, kne_01, zget_0, zget_s, zst1_0, zst1_1, zst1_s, zst2_0, zst2_1, zst2_s, zht_c, zdl_n, zdl_i, zdl_r, zdl_l, zct_i, zct_r, zct_l, zct_n, zct_q, zpI_c, zpL_c, zpR_c, zpR_q, zpQ_c, zpQ_n, zpQ_q, zpV_c, zpn_0, zpn_s, zvI_c, zvL_c, zvR_c, zcs_n, zcs_c, zcn_eq, zcn_ne, zcn_lt, zcn_ge, zcn_gt, zcn_le, zrs_n, zrs_s, zrs_x, zpf_0, zpf_1, zpf_2, zpf_3, zfv_0, zfv_1, zfv_2, zfv_3, List.length_cons, List.length_nil, List.nil_append, List.cons_append, List.append_nil, Nat.reduceAdd, Nat.reduceSub, Nat.reduceMul, Nat.reduceLT, Nat.reduceLeDiff, Nat.reduceEqDiff, Nat.reduceBEq, Nat.zero_add, Nat.add_zero, Nat.sub_zero, Nat.zero_le, Nat.le_refl, true_and, and_true, implies_true, forall_const, true_or, or_true, not_true_eq_false, not_false_eq_true, Classical.not_not, false_implies, and_self, ↓reduceIte, reduceCtorEq, exists_eq_left, exists_eq_left', Option.some.injEq, Int.reduceAdd, Int.reduceSub, Int.reduceNeg, List.size_toArray, znc_2, znc_3, znc_4, znc_5, znc_6, znc_7, znc_8, znc_9, znc_10, znc_11, znc_12, znc_13, znc_14, znc_15, znc_16, znc_17, znc_18, znc_19, znc_20, znc_21, znc_22, znc_23, znc_24, znc_25, znc_26, znc_27, znc_28, znc_29, znc_30, znc_31, znc_32, kn_0, kn_1, kn_2, kn_3, kn_4, kn_5, kn_6, kn_7, kn_8, kn_9, kn_10, kn_11, kn_12, kn_13, kn_14, kn_15, kn_16, kn_17, kn_18, kn_19, kn_20, kn_21, kn_22, kn_23, kn_24, kn_25, kn_26, kn_27, kn_28, kn_29, kn_30, kn_31, kn_32, kn_33, kn_34, kn_35, kn_36, kn_37, kn_38, kn_39, kn_40, kzi_0_128, kzi_1_128, kzi_2_128, kzi_3_128, kzi_0_3, kzi_1_3, kzi_2_3, kzi_0_32, kzi_1_32, kzi_2_32, kzi_3_32, kzi_0_10, kzi_1_10, kzi_2_10, kzi_3_10, zte_0, zte_1, zte_2, zte_3, zte_4, zte_5, zte_6, zte_7, zte_8, zte_9, zte_10, zte_11, zte_12, zte_13, zte_14, zte_15, zte_16, dX11_runs_0, dX11_runs_1, dX11_runs_10, dX11_runs_12, dX11_runs_14, dX11_runs_17, dX11_runs_18, dX11_runs_19, dX11_runs_2, dX11_runs_22, dX11_runs_25, dX11_runs_28, dX11_runs_3, dX11_runs_31, dX11_runs_33, dX11_runs_4, dX11_runs_7, dX11_runs_8, jX11_runs_14, jX11_runs_22, jX11_runs_28, kc_0, kc_1, kf_0, kf_1, kf_2, kf_3, mX11_begins_c, mX11_begins_s, mX11_goes_c, mX11_goes_s, mX11_runs_b, mX11_runs_c, mX11_runs_r, mX11_runs_s, zml_11_301, zml_11_305, zw_aload_n, zw_goto, zw_iconst, zw_ifCond, zw_if_icmp, zw_iinc, zw_iload, zw_iload_n, zw_invokevirtual, zw_ireturn, zw_istore, l0]
