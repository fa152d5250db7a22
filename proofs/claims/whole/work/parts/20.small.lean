/-! TRUTHS AS INTS -/
def zt (p : Prop) [Decidable p] : Int32 := if p then 1 else 0
theorem zt_0 (p : Prop) [Decidable p] : (zt p = 0) = ¬ p := by
  unfold zt
  split <;> simp_all
theorem zt_n0 (p : Prop) [Decidable p] : (¬ zt p = 0) = p := by
  unfold zt
  split <;> simp_all
theorem zt_ok (p : Prop) [Decidable p] : (zt p = 0 ∨ zt p = 1) = True := by
  unfold zt
  split <;> simp_all
theorem zt_p {p : Prop} [Decidable p] (h : p) : zt p = 1 := if_pos h
theorem zt_n {p : Prop} [Decidable p] (h : ¬ p) : zt p = 0 := if_neg h
/-- no stops: what is run must come to its end -/
theorem zrun0 {l : Launch} {G : zG} {o : Nat} {ini : Bool} {cc : ByteArray} {ret : Option FieldType} {d : Nat} {Q : zO → zH → Prop} {X : zX} (hX : zOk l G o ini cc ret d Q X) (n : Nat) {pc : Nat} {lv : List (Option Value)} {st : List Value} {h : zH} {c s : Nat} (z : zb l G o ini cc ret d Q [] (fun _ _ _ _ _ _ => False) n pc lv st h c s) : zJ l G X pc lv st h c s := zb_sound hX [] _ (fun _ _ _ _ _ _ f => f.elim) n z
/-- stops: there the walk goes on from zJ -/
theorem zrunS {l : Launch} {G : zG} {o : Nat} {ini : Bool} {cc : ByteArray} {ret : Option FieldType} {d : Nat} {Q : zO → zH → Prop} {X : zX} (hX : zOk l G o ini cc ret d Q X) (stops : List Nat) (n : Nat) {pc : Nat} {lv : List (Option Value)} {st : List Value} {h : zH} {c s : Nat} (z : zb l G o ini cc ret d Q stops (zJ l G X) n pc lv st h c s) : zJ l G X pc lv st h c s := zb_sound hX stops _ (fun _ _ _ _ _ _ f => f) n z
theorem zti {x : Int32} {n : Int} {k : Int32} (h : x.toInt = n) (e : k.toInt = n) : x = k := Int32.toInt_inj.mp (h.trans e.symm)
theorem zte_0 (x : Int32) : (x.toInt = 0) = (x = 0) := propext ⟨fun h => zti h (by decide), fun h => by rw [h]; decide⟩
theorem zte_1 (x : Int32) : (x.toInt = 1) = (x = 1) := propext ⟨fun h => zti h (by decide), fun h => by rw [h]; decide⟩
theorem zte_2 (x : Int32) : (x.toInt = 2) = (x = 2) := propext ⟨fun h => zti h (by decide), fun h => by rw [h]; decide⟩
theorem zte_3 (x : Int32) : (x.toInt = 3) = (x = 3) := propext ⟨fun h => zti h (by decide), fun h => by rw [h]; decide⟩
theorem zte_4 (x : Int32) : (x.toInt = 4) = (x = 4) := propext ⟨fun h => zti h (by decide), fun h => by rw [h]; decide⟩
theorem zte_5 (x : Int32) : (x.toInt = 5) = (x = 5) := propext ⟨fun h => zti h (by decide), fun h => by rw [h]; decide⟩
theorem zte_6 (x : Int32) : (x.toInt = 6) = (x = 6) := propext ⟨fun h => zti h (by decide), fun h => by rw [h]; decide⟩
theorem zte_7 (x : Int32) : (x.toInt = 7) = (x = 7) := propext ⟨fun h => zti h (by decide), fun h => by rw [h]; decide⟩
theorem zte_8 (x : Int32) : (x.toInt = 8) = (x = 8) := propext ⟨fun h => zti h (by decide), fun h => by rw [h]; decide⟩
theorem zte_9 (x : Int32) : (x.toInt = 9) = (x = 9) := propext ⟨fun h => zti h (by decide), fun h => by rw [h]; decide⟩
theorem zte_10 (x : Int32) : (x.toInt = 10) = (x = 10) := propext ⟨fun h => zti h (by decide), fun h => by rw [h]; decide⟩
theorem zte_11 (x : Int32) : (x.toInt = 11) = (x = 11) := propext ⟨fun h => zti h (by decide), fun h => by rw [h]; decide⟩
theorem zte_12 (x : Int32) : (x.toInt = 12) = (x = 12) := propext ⟨fun h => zti h (by decide), fun h => by rw [h]; decide⟩
theorem zte_13 (x : Int32) : (x.toInt = 13) = (x = 13) := propext ⟨fun h => zti h (by decide), fun h => by rw [h]; decide⟩
theorem zte_14 (x : Int32) : (x.toInt = 14) = (x = 14) := propext ⟨fun h => zti h (by decide), fun h => by rw [h]; decide⟩
theorem zte_15 (x : Int32) : (x.toInt = 15) = (x = 15) := propext ⟨fun h => zti h (by decide), fun h => by rw [h]; decide⟩
theorem zte_16 (x : Int32) : (x.toInt = 16) = (x = 16) := propext ⟨fun h => zti h (by decide), fun h => by rw [h]; decide⟩
theorem znc_2 : ((2 : Nat) : Int) = 2 := rfl
theorem znc_3 : ((3 : Nat) : Int) = 3 := rfl
theorem znc_4 : ((4 : Nat) : Int) = 4 := rfl
theorem znc_5 : ((5 : Nat) : Int) = 5 := rfl
theorem znc_6 : ((6 : Nat) : Int) = 6 := rfl
theorem znc_7 : ((7 : Nat) : Int) = 7 := rfl
theorem znc_8 : ((8 : Nat) : Int) = 8 := rfl
theorem znc_9 : ((9 : Nat) : Int) = 9 := rfl
theorem znc_10 : ((10 : Nat) : Int) = 10 := rfl
theorem znc_11 : ((11 : Nat) : Int) = 11 := rfl
theorem znc_12 : ((12 : Nat) : Int) = 12 := rfl
theorem znc_13 : ((13 : Nat) : Int) = 13 := rfl
theorem znc_14 : ((14 : Nat) : Int) = 14 := rfl
theorem znc_15 : ((15 : Nat) : Int) = 15 := rfl
theorem znc_16 : ((16 : Nat) : Int) = 16 := rfl
theorem znc_17 : ((17 : Nat) : Int) = 17 := rfl
theorem znc_18 : ((18 : Nat) : Int) = 18 := rfl
theorem znc_19 : ((19 : Nat) : Int) = 19 := rfl
theorem znc_20 : ((20 : Nat) : Int) = 20 := rfl
theorem znc_21 : ((21 : Nat) : Int) = 21 := rfl
theorem znc_22 : ((22 : Nat) : Int) = 22 := rfl
theorem znc_23 : ((23 : Nat) : Int) = 23 := rfl
theorem znc_24 : ((24 : Nat) : Int) = 24 := rfl
theorem znc_25 : ((25 : Nat) : Int) = 25 := rfl
theorem znc_26 : ((26 : Nat) : Int) = 26 := rfl
theorem znc_27 : ((27 : Nat) : Int) = 27 := rfl
theorem znc_28 : ((28 : Nat) : Int) = 28 := rfl
theorem znc_29 : ((29 : Nat) : Int) = 29 := rfl
theorem znc_30 : ((30 : Nat) : Int) = 30 := rfl
theorem znc_31 : ((31 : Nat) : Int) = 31 := rfl
theorem znc_32 : ((32 : Nat) : Int) = 32 := rfl
theorem kne_10 : ((1 : Int32) = 0) = False := eq_false (by decide)
theorem kne_01 : ((0 : Int32) = 1) = False := eq_false (by decide)
theorem zin_w {x b : Int32} {n : Nat} (h : ¬ x < 0 ∧ ¬ b < x) (hb : b.toInt < n) : zin x n := by
  obtain ⟨h1, h2⟩ := h
  rw [Int32.lt_iff_toInt_lt] at h1 h2
  have e : (0 : Int32).toInt = 0 := by decide
  refine ⟨?_, ?_⟩
  · rw [Int32.le_iff_toInt_le]
    omega
  · show x.toInt.toNat < n
    omega
theorem zin_nI {k n : Nat} (h : k < n) (hn : n ≤ 2147483647) : zin (nI k) n := by
  have e := nI_toInt (n := k) (by omega)
  have e0 : (0 : Int32).toInt = 0 := by decide
  refine ⟨?_, ?_⟩
  · rw [Int32.le_iff_toInt_le]
    omega
  · rw [nI_clamp (by omega)]
    exact h
theorem znI_of {x b : Int32} (h : ¬ x < 0 ∧ ¬ b < x) : ∃ n : Nat, (n : Int) ≤ b.toInt ∧ x = nI n := by
  obtain ⟨h1, h2⟩ := h
  rw [Int32.lt_iff_toInt_lt] at h1 h2
  have e : (0 : Int32).toInt = 0 := by decide
  have hb := Int32.toInt_lt b
  refine ⟨x.toInt.toNat, by omega, Int32.toInt_inj.mp ?_⟩
  rw [nI_toInt (by omega)]
  omega
theorem zadd_toInt {a b : Int32} (h1 : -2147483648 ≤ a.toInt + b.toInt) (h2 : a.toInt + b.toInt < 2147483648) : (a + b).toInt = a.toInt + b.toInt := by
  rw [Int32.toInt_add]
  exact Int.bmod_eq_of_le (by omega) (by omega)
theorem zsub_toInt {a b : Int32} (h1 : -2147483648 ≤ a.toInt - b.toInt) (h2 : a.toInt - b.toInt < 2147483648) : (a - b).toInt = a.toInt - b.toInt := by
  rw [Int32.toInt_sub]
  exact Int.bmod_eq_of_le (by omega) (by omega)
theorem zin_ap {c p b : Int32} {n : Nat} (h0 : ¬ p < 0) (hb : p < b) (hc : 0 ≤ c.toInt) (hn : c.toInt + b.toInt ≤ n) (hn2 : n ≤ 2147483647) : zin (c + p) n := by
  rw [Int32.lt_iff_toInt_lt] at h0 hb
  have e : (0 : Int32).toInt = 0 := by decide
  have e2 := zadd_toInt (a := c) (b := p) (by omega) (by omega)
  refine ⟨?_, ?_⟩
  · rw [Int32.le_iff_toInt_le]
    omega
  · show (c + p).toInt.toNat < n
    omega
theorem kn_0 : (0 : Int32).toNatClampNeg = 0 := by decide
theorem kn_1 : (1 : Int32).toNatClampNeg = 1 := by decide
theorem kn_2 : (2 : Int32).toNatClampNeg = 2 := by decide
theorem kn_3 : (3 : Int32).toNatClampNeg = 3 := by decide
theorem kn_4 : (4 : Int32).toNatClampNeg = 4 := by decide
theorem kn_5 : (5 : Int32).toNatClampNeg = 5 := by decide
theorem kn_6 : (6 : Int32).toNatClampNeg = 6 := by decide
theorem kn_7 : (7 : Int32).toNatClampNeg = 7 := by decide
theorem kn_8 : (8 : Int32).toNatClampNeg = 8 := by decide
theorem kn_9 : (9 : Int32).toNatClampNeg = 9 := by decide
theorem kn_10 : (10 : Int32).toNatClampNeg = 10 := by decide
theorem kn_11 : (11 : Int32).toNatClampNeg = 11 := by decide
theorem kn_12 : (12 : Int32).toNatClampNeg = 12 := by decide
theorem kn_13 : (13 : Int32).toNatClampNeg = 13 := by decide
theorem kn_14 : (14 : Int32).toNatClampNeg = 14 := by decide
theorem kn_15 : (15 : Int32).toNatClampNeg = 15 := by decide
theorem kn_16 : (16 : Int32).toNatClampNeg = 16 := by decide
theorem kn_17 : (17 : Int32).toNatClampNeg = 17 := by decide
theorem kn_18 : (18 : Int32).toNatClampNeg = 18 := by decide
theorem kn_19 : (19 : Int32).toNatClampNeg = 19 := by decide
theorem kn_20 : (20 : Int32).toNatClampNeg = 20 := by decide
theorem kn_21 : (21 : Int32).toNatClampNeg = 21 := by decide
theorem kn_22 : (22 : Int32).toNatClampNeg = 22 := by decide
theorem kn_23 : (23 : Int32).toNatClampNeg = 23 := by decide
theorem kn_24 : (24 : Int32).toNatClampNeg = 24 := by decide
theorem kn_25 : (25 : Int32).toNatClampNeg = 25 := by decide
theorem kn_26 : (26 : Int32).toNatClampNeg = 26 := by decide
theorem kn_27 : (27 : Int32).toNatClampNeg = 27 := by decide
theorem kn_28 : (28 : Int32).toNatClampNeg = 28 := by decide
theorem kn_29 : (29 : Int32).toNatClampNeg = 29 := by decide
theorem kn_30 : (30 : Int32).toNatClampNeg = 30 := by decide
theorem kn_31 : (31 : Int32).toNatClampNeg = 31 := by decide
theorem kn_32 : (32 : Int32).toNatClampNeg = 32 := by decide
theorem kn_33 : (33 : Int32).toNatClampNeg = 33 := by decide
theorem kn_34 : (34 : Int32).toNatClampNeg = 34 := by decide
theorem kn_35 : (35 : Int32).toNatClampNeg = 35 := by decide
theorem kn_36 : (36 : Int32).toNatClampNeg = 36 := by decide
theorem kn_37 : (37 : Int32).toNatClampNeg = 37 := by decide
theorem kn_38 : (38 : Int32).toNatClampNeg = 38 := by decide
theorem kn_39 : (39 : Int32).toNatClampNeg = 39 := by decide
theorem kn_40 : (40 : Int32).toNatClampNeg = 40 := by decide
theorem kzi_0_128 : zin 0 128 = True := eq_true ⟨by decide, by decide⟩
theorem kzi_1_128 : zin 1 128 = True := eq_true ⟨by decide, by decide⟩
theorem kzi_2_128 : zin 2 128 = True := eq_true ⟨by decide, by decide⟩
theorem kzi_3_128 : zin 3 128 = True := eq_true ⟨by decide, by decide⟩
theorem kzi_0_3 : zin 0 3 = True := eq_true ⟨by decide, by decide⟩
theorem kzi_1_3 : zin 1 3 = True := eq_true ⟨by decide, by decide⟩
theorem kzi_2_3 : zin 2 3 = True := eq_true ⟨by decide, by decide⟩
theorem kzi_0_32 : zin 0 32 = True := eq_true ⟨by decide, by decide⟩
theorem kzi_1_32 : zin 1 32 = True := eq_true ⟨by decide, by decide⟩
theorem kzi_2_32 : zin 2 32 = True := eq_true ⟨by decide, by decide⟩
theorem kzi_3_32 : zin 3 32 = True := eq_true ⟨by decide, by decide⟩
theorem kzi_0_10 : zin 0 10 = True := eq_true ⟨by decide, by decide⟩
theorem kzi_1_10 : zin 1 10 = True := eq_true ⟨by decide, by decide⟩
theorem kzi_2_10 : zin 2 10 = True := eq_true ⟨by decide, by decide⟩
theorem kzi_3_10 : zin 3 10 = True := eq_true ⟨by decide, by decide⟩
/-! ROWS -/
theorem zH_ext {h g : zH} (e1 : zS h = zS g) (e2 : zK h = zK g) (e3 : zN h = zN g) (e4 : zI h = zI g) (e5 : zL h = zL g) (e6 : zP h = zP g) (e7 : zA h = zA g) (e8 : zB h = zB g) (e9 : zR h = zR g) : h = g := by
  show (zS h, zK h, zN h, zI h, zL h, zP h, zA h, zB h, zR h) = (zS g, zK g, zN g, zI g, zL g, zP g, zA g, zB g, zR g)
  rw [e1, e2, e3, e4, e5, e6, e7, e8, e9]
def zup {α : Type} (f : Nat → α) (k : Nat) (v : α) : Nat → α := fun j => if j = k then v else f j
theorem zup_e {α : Type} (f : Nat → α) (k : Nat) (v : α) : zup f k v k = v := if_pos rfl
theorem zup_n {α : Type} (f : Nat → α) (k : Nat) (v : α) {j : Nat} (h : ¬ j = k) : zup f k v j = f j := if_neg h
theorem zup_ap {α : Type} (f : Nat → α) (k : Nat) (v : α) (j : Nat) : zup f k v j = if j = k then v else f j := id rfl
/-- the row a is f -/
def zwr (h : zH) (a : Nat) (f : Nat → Int32) : zH := (zS h, zK h, zN h, zI h, zL h, zP h, (fun b => if b = a then f else zA h b), zB h, zR h)
theorem zwr_S (h a f) : zS (zwr h a f) = zS h := id rfl
theorem zwr_K (h a f) : zK (zwr h a f) = zK h := id rfl
theorem zwr_N (h a f) : zN (zwr h a f) = zN h := id rfl
theorem zwr_I (h a f) : zI (zwr h a f) = zI h := id rfl
theorem zwr_L (h a f) : zL (zwr h a f) = zL h := id rfl
theorem zwr_P (h a f) : zP (zwr h a f) = zP h := id rfl
theorem zwr_B (h a f) : zB (zwr h a f) = zB h := id rfl
theorem zwr_R (h a f) : zR (zwr h a f) = zR h := id rfl
theorem zwr_A (h : zH) (a : Nat) (f : Nat → Int32) (b : Nat) : zA (zwr h a f) b = if b = a then f else zA h b := id rfl
theorem zwr_e (h : zH) (a : Nat) (f : Nat → Int32) : zA (zwr h a f) a = f := if_pos rfl
theorem zwr_n (h : zH) (a : Nat) (f : Nat → Int32) {b : Nat} (hb : ¬ b = a) : zA (zwr h a f) b = zA h b := if_neg hb
theorem zsA_wr (h : zH) (a k : Nat) (v : Int32) : zsA h a k v = zwr h a (zup (zA h a) k v) := by
  refine zH_ext rfl rfl rfl rfl rfl rfl (funext fun b => funext fun j => ?_) rfl rfl
  rw [zA_sA, zwr_A]
  by_cases e : b = a
  · subst e
    rw [if_pos rfl]
    unfold zup
    by_cases e2 : j = k
    · rw [if_pos ⟨rfl, e2⟩, if_pos e2]
    · rw [if_neg (fun q => e2 q.2), if_neg e2]
  · rw [if_neg (fun q => e q.1), if_neg e]
theorem zwr_wr (h : zH) (a : Nat) (f g : Nat → Int32) : zwr (zwr h a f) a g = zwr h a g := by
  refine zH_ext rfl rfl rfl rfl rfl rfl (funext fun b => ?_) rfl rfl
  rw [zwr_A, zwr_A, zwr_A]
  by_cases e : b = a
  · rw [if_pos e, if_pos e]
  · rw [if_neg e, if_neg e, if_neg e]
theorem zwr_id (h : zH) (a : Nat) : zwr h a (zA h a) = h := by
  refine zH_ext rfl rfl rfl rfl rfl rfl (funext fun b => ?_) rfl rfl
  rw [zwr_A]
  by_cases e : b = a
  · rw [if_pos e, e]
  · rw [if_neg e]
theorem zwr_sw (h : zH) (a b : Nat) (f g : Nat → Int32) (hab : ¬ a = b) : zwr (zwr h a f) b g = zwr (zwr h b g) a f := by
  refine zH_ext (by simp only [zwr_S]) (by simp only [zwr_K]) (by simp only [zwr_N]) (by simp only [zwr_I]) (by simp only [zwr_L]) (by simp only [zwr_P]) (funext fun c => ?_) (by simp only [zwr_B]) (by simp only [zwr_R])
  rw [zwr_A, zwr_A, zwr_A, zwr_A]
  by_cases e : c = b
  · rw [if_pos e, if_neg (fun q => hab (q.symm.trans e)), if_pos e]
  · rw [if_neg e, if_neg e]
/-! QUARREL -/
set_option maxHeartbeats 4000000 in
set_option maxRecDepth 100000 in
theorem s_X7_isNarrow {l G d a h Q} (hk : zK h a = 7) (hQ : Q (.inl (some (.int (zt (¬ 1 < zI h a 603 - zI h a 601))))) h) : zCall l G mX7_isNarrow d [.ref a] h Q := by
  refine zEnt 7 false mX7_isNarrow _ _ _ _ [some (.ref a)] rfl (by decide +kernel) (fun h => by cases h) rfl (Nat.le_of_ble_eq_true rfl) fun X hX => ?_
  refine zrun0 hX 20 ?_
  simp only [zb_s, zm_ok, zgo_c, zstp_n, zstp_c, Bool.false_eq_true, Bool.false_or, Bool.or_false, Bool.true_or, eq_self, kne_10, kne_01, zget_0, zget_s, zst1_0, zst1_1, zst1_s, zst2_0, zst2_1, zst2_s, zht_c, zdl_n, zdl_i, zdl_r, zdl_l, zct_i, zct_r, zct_l, zct_n, zct_q, zpI_c, zpL_c, zpR_c, zpR_q, zpQ_c, zpQ_n, zpQ_q, zpV_c, zpn_0, zpn_s, zvI_c, zvL_c, zvR_c, zcs_n, zcs_c, zcn_eq, zcn_ne, zcn_lt, zcn_ge, zcn_gt, zcn_le, zrs_n, zrs_s, zrs_x, zpf_0, zpf_1, zpf_2, zpf_3, zfv_0, zfv_1, zfv_2, zfv_3, List.length_cons, List.length_nil, List.nil_append, List.cons_append, List.append_nil, Nat.reduceAdd, Nat.reduceSub, Nat.reduceMul, Nat.reduceLT, Nat.reduceLeDiff, Nat.reduceEqDiff, Nat.reduceBEq, Nat.zero_add, Nat.add_zero, Nat.sub_zero, Nat.zero_le, Nat.le_refl, true_and, and_true, implies_true, forall_const, true_or, or_true, not_true_eq_false, not_false_eq_true, Classical.not_not, false_implies, and_self, ↓reduceIte, reduceCtorEq, exists_eq_left, exists_eq_left', Option.some.injEq, Int.reduceAdd, Int.reduceSub, Int.reduceNeg, List.size_toArray, znc_2, znc_3, znc_4, znc_5, znc_6, znc_7, znc_8, znc_9, znc_10, znc_11, znc_12, znc_13, znc_14, znc_15, znc_16, znc_17, znc_18, znc_19, znc_20, znc_21, znc_22, znc_23, znc_24, znc_25, znc_26, znc_27, znc_28, znc_29, znc_30, znc_31, znc_32, kn_0, kn_1, kn_2, kn_3, kn_4, kn_5, kn_6, kn_7, kn_8, kn_9, kn_10, kn_11, kn_12, kn_13, kn_14, kn_15, kn_16, kn_17, kn_18, kn_19, kn_20, kn_21, kn_22, kn_23, kn_24, kn_25, kn_26, kn_27, kn_28, kn_29, kn_30, kn_31, kn_32, kn_33, kn_34, kn_35, kn_36, kn_37, kn_38, kn_39, kn_40, kzi_0_128, kzi_1_128, kzi_2_128, kzi_3_128, kzi_0_3, kzi_1_3, kzi_2_3, kzi_0_32, kzi_1_32, kzi_2_32, kzi_3_32, kzi_0_10, kzi_1_10, kzi_2_10, kzi_3_10, zte_0, zte_1, zte_2, zte_3, zte_4, zte_5, zte_6, zte_7, zte_8, zte_9, zte_10, zte_11, zte_12, zte_13, zte_14, zte_15, zte_16, dX7_isNarrow_0, dX7_isNarrow_1, dX7_isNarrow_10, dX7_isNarrow_13, dX7_isNarrow_14, dX7_isNarrow_17, dX7_isNarrow_18, dX7_isNarrow_4, dX7_isNarrow_5, dX7_isNarrow_8, dX7_isNarrow_9, jX7_isNarrow_10, jX7_isNarrow_14, kc_0, kc_1, kf_0, mX7_isNarrow_b, mX7_isNarrow_c, mX7_isNarrow_r, mX7_isNarrow_s, zfl_7_19, zfl_7_25, zw_aload_n, zw_getfield, zw_goto, zw_iconst, zw_if_icmp, zw_ireturn, zw_isub, hk]
  refine ⟨fun c => ?_, fun c => ?_⟩
  · rw [zt_n (fun q => q c)] at hQ
    exact hQ
  · rw [zt_p c] at hQ
    exact hQ
set_option maxHeartbeats 4000000 in
set_option maxRecDepth 100000 in
theorem s_X7_middle {l G d a h Q} (hk : zK h a = 7) (hQ : Q (.inl (some (.int ((zI h a 601 + zI h a 603) / 2)))) h) : zCall l G mX7_middle d [.ref a] h Q := by
  refine zEnt 7 false mX7_middle _ _ _ _ [some (.ref a)] rfl (by decide +kernel) (fun h => by cases h) rfl (Nat.le_of_ble_eq_true rfl) fun X hX => ?_
  refine zrun0 hX 20 ?_
  simp only [zb_s, zm_ok, zgo_c, zstp_n, zstp_c, Bool.false_eq_true, Bool.false_or, Bool.or_false, Bool.true_or, eq_self, kne_10, kne_01, zget_0, zget_s, zst1_0, zst1_1, zst1_s, zst2_0, zst2_1, zst2_s, zht_c, zdl_n, zdl_i, zdl_r, zdl_l, zct_i, zct_r, zct_l, zct_n, zct_q, zpI_c, zpL_c, zpR_c, zpR_q, zpQ_c, zpQ_n, zpQ_q, zpV_c, zpn_0, zpn_s, zvI_c, zvL_c, zvR_c, zcs_n, zcs_c, zcn_eq, zcn_ne, zcn_lt, zcn_ge, zcn_gt, zcn_le, zrs_n, zrs_s, zrs_x, zpf_0, zpf_1, zpf_2, zpf_3, zfv_0, zfv_1, zfv_2, zfv_3, List.length_cons, List.length_nil, List.nil_append, List.cons_append, List.append_nil, Nat.reduceAdd, Nat.reduceSub, Nat.reduceMul, Nat.reduceLT, Nat.reduceLeDiff, Nat.reduceEqDiff, Nat.reduceBEq, Nat.zero_add, Nat.add_zero, Nat.sub_zero, Nat.zero_le, Nat.le_refl, true_and, and_true, implies_true, forall_const, true_or, or_true, not_true_eq_false, not_false_eq_true, Classical.not_not, false_implies, and_self, ↓reduceIte, reduceCtorEq, exists_eq_left, exists_eq_left', Option.some.injEq, Int.reduceAdd, Int.reduceSub, Int.reduceNeg, List.size_toArray, znc_2, znc_3, znc_4, znc_5, znc_6, znc_7, znc_8, znc_9, znc_10, znc_11, znc_12, znc_13, znc_14, znc_15, znc_16, znc_17, znc_18, znc_19, znc_20, znc_21, znc_22, znc_23, znc_24, znc_25, znc_26, znc_27, znc_28, znc_29, znc_30, znc_31, znc_32, kn_0, kn_1, kn_2, kn_3, kn_4, kn_5, kn_6, kn_7, kn_8, kn_9, kn_10, kn_11, kn_12, kn_13, kn_14, kn_15, kn_16, kn_17, kn_18, kn_19, kn_20, kn_21, kn_22, kn_23, kn_24, kn_25, kn_26, kn_27, kn_28, kn_29, kn_30, kn_31, kn_32, kn_33, kn_34, kn_35, kn_36, kn_37, kn_38, kn_39, kn_40, kzi_0_128, kzi_1_128, kzi_2_128, kzi_3_128, kzi_0_3, kzi_1_3, kzi_2_3, kzi_0_32, kzi_1_32, kzi_2_32, kzi_3_32, kzi_0_10, kzi_1_10, kzi_2_10, kzi_3_10, zte_0, zte_1, zte_2, zte_3, zte_4, zte_5, zte_6, zte_7, zte_8, zte_9, zte_10, zte_11, zte_12, zte_13, zte_14, zte_15, zte_16, dX7_middle_0, dX7_middle_1, dX7_middle_10, dX7_middle_11, dX7_middle_4, dX7_middle_5, dX7_middle_8, dX7_middle_9, kc_2, kf_0, mX7_middle_b, mX7_middle_c, mX7_middle_r, mX7_middle_s, zfl_7_19, zfl_7_25, zw_aload_n, zw_getfield, zw_iadd, zw_iconst, zw_idiv, zw_ireturn, hk]
  exact ⟨by decide, hQ⟩
set_option maxHeartbeats 4000000 in
set_option maxRecDepth 100000 in
theorem s_X7_setStart {l G d a h Q} {x y : Int32} (hk : zK h a = 7) (hQ : Q (.inl none) (zsI (zsI h a 601 x) a 602 y)) : zCall l G mX7_setStart d [.ref a, .int x, .int y] h Q := by
  refine zEnt 7 false mX7_setStart _ _ _ _ [some (.ref a), some (.int x), some (.int y)] rfl (by decide +kernel) (fun h => by cases h) rfl (Nat.le_of_ble_eq_true rfl) fun X hX => ?_
  refine zrun0 hX 20 ?_
  simp only [zb_s, zm_ok, zgo_c, zstp_n, zstp_c, Bool.false_eq_true, Bool.false_or, Bool.or_false, Bool.true_or, eq_self, kne_10, kne_01, zget_0, zget_s, zst1_0, zst1_1, zst1_s, zst2_0, zst2_1, zst2_s, zht_c, zdl_n, zdl_i, zdl_r, zdl_l, zct_i, zct_r, zct_l, zct_n, zct_q, zpI_c, zpL_c, zpR_c, zpR_q, zpQ_c, zpQ_n, zpQ_q, zpV_c, zpn_0, zpn_s, zvI_c, zvL_c, zvR_c, zcs_n, zcs_c, zcn_eq, zcn_ne, zcn_lt, zcn_ge, zcn_gt, zcn_le, zrs_n, zrs_s, zrs_x, zpf_0, zpf_1, zpf_2, zpf_3, zfv_0, zfv_1, zfv_2, zfv_3, List.length_cons, List.length_nil, List.nil_append, List.cons_append, List.append_nil, Nat.reduceAdd, Nat.reduceSub, Nat.reduceMul, Nat.reduceLT, Nat.reduceLeDiff, Nat.reduceEqDiff, Nat.reduceBEq, Nat.zero_add, Nat.add_zero, Nat.sub_zero, Nat.zero_le, Nat.le_refl, true_and, and_true, implies_true, forall_const, true_or, or_true, not_true_eq_false, not_false_eq_true, Classical.not_not, false_implies, and_self, ↓reduceIte, reduceCtorEq, exists_eq_left, exists_eq_left', Option.some.injEq, Int.reduceAdd, Int.reduceSub, Int.reduceNeg, List.size_toArray, znc_2, znc_3, znc_4, znc_5, znc_6, znc_7, znc_8, znc_9, znc_10, znc_11, znc_12, znc_13, znc_14, znc_15, znc_16, znc_17, znc_18, znc_19, znc_20, znc_21, znc_22, znc_23, znc_24, znc_25, znc_26, znc_27, znc_28, znc_29, znc_30, znc_31, znc_32, kn_0, kn_1, kn_2, kn_3, kn_4, kn_5, kn_6, kn_7, kn_8, kn_9, kn_10, kn_11, kn_12, kn_13, kn_14, kn_15, kn_16, kn_17, kn_18, kn_19, kn_20, kn_21, kn_22, kn_23, kn_24, kn_25, kn_26, kn_27, kn_28, kn_29, kn_30, kn_31, kn_32, kn_33, kn_34, kn_35, kn_36, kn_37, kn_38, kn_39, kn_40, kzi_0_128, kzi_1_128, kzi_2_128, kzi_3_128, kzi_0_3, kzi_1_3, kzi_2_3, kzi_0_32, kzi_1_32, kzi_2_32, kzi_3_32, kzi_0_10, kzi_1_10, kzi_2_10, kzi_3_10, zte_0, zte_1, zte_2, zte_3, zte_4, zte_5, zte_6, zte_7, zte_8, zte_9, zte_10, zte_11, zte_12, zte_13, zte_14, zte_15, zte_16, dX7_setStart_0, dX7_setStart_1, dX7_setStart_10, dX7_setStart_2, dX7_setStart_5, dX7_setStart_6, dX7_setStart_7, kf_0, kf_1, kf_2, mX7_setStart_b, mX7_setStart_c, mX7_setStart_r, mX7_setStart_s, zfl_7_19, zfl_7_22, zw_aload_n, zw_iload_n, zw_putfield, zw_return_, hk, zK_sI, hQ]
set_option maxHeartbeats 4000000 in
set_option maxRecDepth 100000 in
theorem s_X7_setEnd {l G d a h Q} {x y z : Int32} (hk : zK h a = 7) (hQ : Q (.inl none) (zsI (zsI (zsI h a 603 x) a 604 y) a 605 z)) : zCall l G mX7_setEnd d [.ref a, .int x, .int y, .int z] h Q := by
  refine zEnt 7 false mX7_setEnd _ _ _ _ [some (.ref a), some (.int x), some (.int y), some (.int z)] rfl (by decide +kernel) (fun h => by cases h) rfl (Nat.le_of_ble_eq_true rfl) fun X hX => ?_
  refine zrun0 hX 20 ?_
  simp only [zb_s, zm_ok, zgo_c, zstp_n, zstp_c, Bool.false_eq_true, Bool.false_or, Bool.or_false, Bool.true_or, eq_self, kne_10, kne_01, zget_0, zget_s, zst1_0, zst1_1, zst1_s, zst2_0, zst2_1, zst2_s, zht_c, zdl_n, zdl_i, zdl_r, zdl_l, zct_i, zct_r, zct_l, zct_n, zct_q, zpI_c, zpL_c, zpR_c, zpR_q, zpQ_c, zpQ_n, zpQ_q, zpV_c, zpn_0, zpn_s, zvI_c, zvL_c, zvR_c, zcs_n, zcs_c, zcn_eq, zcn_ne, zcn_lt, zcn_ge, zcn_gt, zcn_le, zrs_n, zrs_s, zrs_x, zpf_0, zpf_1, zpf_2, zpf_3, zfv_0, zfv_1, zfv_2, zfv_3, List.length_cons, List.length_nil, List.nil_append, List.cons_append, List.append_nil, Nat.reduceAdd, Nat.reduceSub, Nat.reduceMul, Nat.reduceLT, Nat.reduceLeDiff, Nat.reduceEqDiff, Nat.reduceBEq, Nat.zero_add, Nat.add_zero, Nat.sub_zero, Nat.zero_le, Nat.le_refl, true_and, and_true, implies_true, forall_const, true_or, or_true, not_true_eq_false, not_false_eq_true, Classical.not_not, false_implies, and_self, ↓reduceIte, reduceCtorEq, exists_eq_left, exists_eq_left', Option.some.injEq, Int.reduceAdd, Int.reduceSub, Int.reduceNeg, List.size_toArray, znc_2, znc_3, znc_4, znc_5, znc_6, znc_7, znc_8, znc_9, znc_10, znc_11, znc_12, znc_13, znc_14, znc_15, znc_16, znc_17, znc_18, znc_19, znc_20, znc_21, znc_22, znc_23, znc_24, znc_25, znc_26, znc_27, znc_28, znc_29, znc_30, znc_31, znc_32, kn_0, kn_1, kn_2, kn_3, kn_4, kn_5, kn_6, kn_7, kn_8, kn_9, kn_10, kn_11, kn_12, kn_13, kn_14, kn_15, kn_16, kn_17, kn_18, kn_19, kn_20, kn_21, kn_22, kn_23, kn_24, kn_25, kn_26, kn_27, kn_28, kn_29, kn_30, kn_31, kn_32, kn_33, kn_34, kn_35, kn_36, kn_37, kn_38, kn_39, kn_40, kzi_0_128, kzi_1_128, kzi_2_128, kzi_3_128, kzi_0_3, kzi_1_3, kzi_2_3, kzi_0_32, kzi_1_32, kzi_2_32, kzi_3_32, kzi_0_10, kzi_1_10, kzi_2_10, kzi_3_10, zte_0, zte_1, zte_2, zte_3, zte_4, zte_5, zte_6, zte_7, zte_8, zte_9, zte_10, zte_11, zte_12, zte_13, zte_14, zte_15, zte_16, dX7_setEnd_0, dX7_setEnd_1, dX7_setEnd_10, dX7_setEnd_11, dX7_setEnd_12, dX7_setEnd_15, dX7_setEnd_2, dX7_setEnd_5, dX7_setEnd_6, dX7_setEnd_7, kf_0, kf_1, kf_2, kf_3, mX7_setEnd_b, mX7_setEnd_c, mX7_setEnd_r, mX7_setEnd_s, zfl_7_25, zfl_7_28, zfl_7_31, zw_aload_n, zw_iload_n, zw_putfield, zw_return_, hk, zK_sI, hQ]
set_option maxHeartbeats 4000000 in
set_option maxRecDepth 100000 in
theorem s_X7_ask {l G d a h Q} {x : Int32} (hk : zK h a = 7) (hQ : Q (.inl none) (zsI (zsI (zsI h a 606 x) a 607 0) a 608 0)) : zCall l G mX7_ask d [.ref a, .int x] h Q := by
  refine zEnt 7 false mX7_ask _ _ _ _ [some (.ref a), some (.int x)] rfl (by decide +kernel) (fun h => by cases h) rfl (Nat.le_of_ble_eq_true rfl) fun X hX => ?_
  refine zrun0 hX 20 ?_
  simp only [zb_s, zm_ok, zgo_c, zstp_n, zstp_c, Bool.false_eq_true, Bool.false_or, Bool.or_false, Bool.true_or, eq_self, kne_10, kne_01, zget_0, zget_s, zst1_0, zst1_1, zst1_s, zst2_0, zst2_1, zst2_s, zht_c, zdl_n, zdl_i, zdl_r, zdl_l, zct_i, zct_r, zct_l, zct_n, zct_q, zpI_c, zpL_c, zpR_c, zpR_q, zpQ_c, zpQ_n, zpQ_q, zpV_c, zpn_0, zpn_s, zvI_c, zvL_c, zvR_c, zcs_n, zcs_c, zcn_eq, zcn_ne, zcn_lt, zcn_ge, zcn_gt, zcn_le, zrs_n, zrs_s, zrs_x, zpf_0, zpf_1, zpf_2, zpf_3, zfv_0, zfv_1, zfv_2, zfv_3, List.length_cons, List.length_nil, List.nil_append, List.cons_append, List.append_nil, Nat.reduceAdd, Nat.reduceSub, Nat.reduceMul, Nat.reduceLT, Nat.reduceLeDiff, Nat.reduceEqDiff, Nat.reduceBEq, Nat.zero_add, Nat.add_zero, Nat.sub_zero, Nat.zero_le, Nat.le_refl, true_and, and_true, implies_true, forall_const, true_or, or_true, not_true_eq_false, not_false_eq_true, Classical.not_not, false_implies, and_self, ↓reduceIte, reduceCtorEq, exists_eq_left, exists_eq_left', Option.some.injEq, Int.reduceAdd, Int.reduceSub, Int.reduceNeg, List.size_toArray, znc_2, znc_3, znc_4, znc_5, znc_6, znc_7, znc_8, znc_9, znc_10, znc_11, znc_12, znc_13, znc_14, znc_15, znc_16, znc_17, znc_18, znc_19, znc_20, znc_21, znc_22, znc_23, znc_24, znc_25, znc_26, znc_27, znc_28, znc_29, znc_30, znc_31, znc_32, kn_0, kn_1, kn_2, kn_3, kn_4, kn_5, kn_6, kn_7, kn_8, kn_9, kn_10, kn_11, kn_12, kn_13, kn_14, kn_15, kn_16, kn_17, kn_18, kn_19, kn_20, kn_21, kn_22, kn_23, kn_24, kn_25, kn_26, kn_27, kn_28, kn_29, kn_30, kn_31, kn_32, kn_33, kn_34, kn_35, kn_36, kn_37, kn_38, kn_39, kn_40, kzi_0_128, kzi_1_128, kzi_2_128, kzi_3_128, kzi_0_3, kzi_1_3, kzi_2_3, kzi_0_32, kzi_1_32, kzi_2_32, kzi_3_32, kzi_0_10, kzi_1_10, kzi_2_10, kzi_3_10, zte_0, zte_1, zte_2, zte_3, zte_4, zte_5, zte_6, zte_7, zte_8, zte_9, zte_10, zte_11, zte_12, zte_13, zte_14, zte_15, zte_16, dX7_ask_0, dX7_ask_1, dX7_ask_10, dX7_ask_11, dX7_ask_12, dX7_ask_15, dX7_ask_2, dX7_ask_5, dX7_ask_6, dX7_ask_7, kc_0, kf_0, kf_1, mX7_ask_b, mX7_ask_c, mX7_ask_r, mX7_ask_s, zfl_7_34, zfl_7_37, zfl_7_41, zw_aload_n, zw_iconst, zw_iload_n, zw_putfield, zw_return_, hk, zK_sI, hQ]
set_option maxHeartbeats 4000000 in
set_option maxRecDepth 100000 in
theorem s_X7_begin {l G d a h Q} {x y : Int32} (hd : 1 ≤ d) (hk : zK h a = 7) (hQ : Q (.inl none) (zsI (zsI (zsI (zsI h a 600 x) a 606 y) a 607 0) a 608 0)) : zCall l G mX7_begin d [.ref a, .int x, .int y] h Q := by
  have hd0 : 0 < d := hd
  refine zEnt 7 false mX7_begin _ _ _ _ [some (.ref a), some (.int x), some (.int y)] rfl (by decide +kernel) (fun h => by cases h) rfl (Nat.le_of_ble_eq_true rfl) fun X hX => ?_
  refine zrun0 hX 20 ?_
  simp only [zb_s, zm_ok, zgo_c, zstp_n, zstp_c, Bool.false_eq_true, Bool.false_or, Bool.or_false, Bool.true_or, eq_self, kne_10, kne_01, zget_0, zget_s, zst1_0, zst1_1, zst1_s, zst2_0, zst2_1, zst2_s, zht_c, zdl_n, zdl_i, zdl_r, zdl_l, zct_i, zct_r, zct_l, zct_n, zct_q, zpI_c, zpL_c, zpR_c, zpR_q, zpQ_c, zpQ_n, zpQ_q, zpV_c, zpn_0, zpn_s, zvI_c, zvL_c, zvR_c, zcs_n, zcs_c, zcn_eq, zcn_ne, zcn_lt, zcn_ge, zcn_gt, zcn_le, zrs_n, zrs_s, zrs_x, zpf_0, zpf_1, zpf_2, zpf_3, zfv_0, zfv_1, zfv_2, zfv_3, List.length_cons, List.length_nil, List.nil_append, List.cons_append, List.append_nil, Nat.reduceAdd, Nat.reduceSub, Nat.reduceMul, Nat.reduceLT, Nat.reduceLeDiff, Nat.reduceEqDiff, Nat.reduceBEq, Nat.zero_add, Nat.add_zero, Nat.sub_zero, Nat.zero_le, Nat.le_refl, true_and, and_true, implies_true, forall_const, true_or, or_true, not_true_eq_false, not_false_eq_true, Classical.not_not, false_implies, and_self, ↓reduceIte, reduceCtorEq, exists_eq_left, exists_eq_left', Option.some.injEq, Int.reduceAdd, Int.reduceSub, Int.reduceNeg, List.size_toArray, znc_2, znc_3, znc_4, znc_5, znc_6, znc_7, znc_8, znc_9, znc_10, znc_11, znc_12, znc_13, znc_14, znc_15, znc_16, znc_17, znc_18, znc_19, znc_20, znc_21, znc_22, znc_23, znc_24, znc_25, znc_26, znc_27, znc_28, znc_29, znc_30, znc_31, znc_32, kn_0, kn_1, kn_2, kn_3, kn_4, kn_5, kn_6, kn_7, kn_8, kn_9, kn_10, kn_11, kn_12, kn_13, kn_14, kn_15, kn_16, kn_17, kn_18, kn_19, kn_20, kn_21, kn_22, kn_23, kn_24, kn_25, kn_26, kn_27, kn_28, kn_29, kn_30, kn_31, kn_32, kn_33, kn_34, kn_35, kn_36, kn_37, kn_38, kn_39, kn_40, kzi_0_128, kzi_1_128, kzi_2_128, kzi_3_128, kzi_0_3, kzi_1_3, kzi_2_3, kzi_0_32, kzi_1_32, kzi_2_32, kzi_3_32, kzi_0_10, kzi_1_10, kzi_2_10, kzi_3_10, zte_0, zte_1, zte_2, zte_3, zte_4, zte_5, zte_6, zte_7, zte_8, zte_9, zte_10, zte_11, zte_12, zte_13, zte_14, zte_15, zte_16, dX7_begin_0, dX7_begin_1, dX7_begin_10, dX7_begin_2, dX7_begin_5, dX7_begin_6, dX7_begin_7, kf_0, kf_1, kf_2, mX7_ask_c, mX7_ask_s, mX7_begin_b, mX7_begin_c, mX7_begin_r, mX7_begin_s, zfl_7_9, zml_7_15, zw_aload_n, zw_iload_n, zw_invokevirtual, zw_putfield, zw_return_, hk, zK_sI, hd0]
  refine s_X7_ask (by rw [zK_sI]; exact hk) ?_
  simp only [zb_s, zm_ok, zgo_c, zstp_n, zstp_c, Bool.false_eq_true, Bool.false_or, Bool.or_false, Bool.true_or, eq_self, kne_10, kne_01, zget_0, zget_s, zst1_0, zst1_1, zst1_s, zst2_0, zst2_1, zst2_s, zht_c, zdl_n, zdl_i, zdl_r, zdl_l, zct_i, zct_r, zct_l, zct_n, zct_q, zpI_c, zpL_c, zpR_c, zpR_q, zpQ_c, zpQ_n, zpQ_q, zpV_c, zpn_0, zpn_s, zvI_c, zvL_c, zvR_c, zcs_n, zcs_c, zcn_eq, zcn_ne, zcn_lt, zcn_ge, zcn_gt, zcn_le, zrs_n, zrs_s, zrs_x, zpf_0, zpf_1, zpf_2, zpf_3, zfv_0, zfv_1, zfv_2, zfv_3, List.length_cons, List.length_nil, List.nil_append, List.cons_append, List.append_nil, Nat.reduceAdd, Nat.reduceSub, Nat.reduceMul, Nat.reduceLT, Nat.reduceLeDiff, Nat.reduceEqDiff, Nat.reduceBEq, Nat.zero_add, Nat.add_zero, Nat.sub_zero, Nat.zero_le, Nat.le_refl, true_and, and_true, implies_true, forall_const, true_or, or_true, not_true_eq_false, not_false_eq_true, Classical.not_not, false_implies, and_self, ↓reduceIte, reduceCtorEq, exists_eq_left, exists_eq_left', Option.some.injEq, Int.reduceAdd, Int.reduceSub, Int.reduceNeg, List.size_toArray, znc_2, znc_3, znc_4, znc_5, znc_6, znc_7, znc_8, znc_9, znc_10, znc_11, znc_12, znc_13, znc_14, znc_15, znc_16, znc_17, znc_18, znc_19, znc_20, znc_21, znc_22, znc_23, znc_24, znc_25, znc_26, znc_27, znc_28, znc_29, znc_30, znc_31, znc_32, kn_0, kn_1, kn_2, kn_3, kn_4, kn_5, kn_6, kn_7, kn_8, kn_9, kn_10, kn_11, kn_12, kn_13, kn_14, kn_15, kn_16, kn_17, kn_18, kn_19, kn_20, kn_21, kn_22, kn_23, kn_24, kn_25, kn_26, kn_27, kn_28, kn_29, kn_30, kn_31, kn_32, kn_33, kn_34, kn_35, kn_36, kn_37, kn_38, kn_39, kn_40, kzi_0_128, kzi_1_128, kzi_2_128, kzi_3_128, kzi_0_3, kzi_1_3, kzi_2_3, kzi_0_32, kzi_1_32, kzi_2_32, kzi_3_32, kzi_0_10, kzi_1_10, kzi_2_10, kzi_3_10, zte_0, zte_1, zte_2, zte_3, zte_4, zte_5, zte_6, zte_7, zte_8, zte_9, zte_10, zte_11, zte_12, zte_13, zte_14, zte_15, zte_16, dX7_begin_0, dX7_begin_1, dX7_begin_10, dX7_begin_2, dX7_begin_5, dX7_begin_6, dX7_begin_7, kf_0, kf_1, kf_2, mX7_ask_c, mX7_ask_s, mX7_begin_b, mX7_begin_c, mX7_begin_r, mX7_begin_s, zfl_7_9, zml_7_15, zw_aload_n, zw_iload_n, zw_invokevirtual, zw_putfield, zw_return_, hQ]
set_option maxHeartbeats 4000000 in
set_option maxRecDepth 100000 in
theorem s_X7_hasTold {l G d a h Q} {b : Int32} (hk : zK h a = 7) (ht : zI h a 607 = 0 ∨ zI h a 607 = 1) (ht2 : zI h a 608 = 0 ∨ zI h a 608 = 1) (hQ : Q (.inl (some (.int (if b = 0 then zI h a 608 else zI h a 607)))) h) : zCall l G mX7_hasTold d [.ref a, .int b] h Q := by
  refine zEnt 7 false mX7_hasTold _ _ _ _ [some (.ref a), some (.int b)] rfl (by decide +kernel) (fun h => by cases h) rfl (Nat.le_of_ble_eq_true rfl) fun X hX => ?_
  refine zrun0 hX 20 ?_
  simp only [zb_s, zm_ok, zgo_c, zstp_n, zstp_c, Bool.false_eq_true, Bool.false_or, Bool.or_false, Bool.true_or, eq_self, kne_10, kne_01, zget_0, zget_s, zst1_0, zst1_1, zst1_s, zst2_0, zst2_1, zst2_s, zht_c, zdl_n, zdl_i, zdl_r, zdl_l, zct_i, zct_r, zct_l, zct_n, zct_q, zpI_c, zpL_c, zpR_c, zpR_q, zpQ_c, zpQ_n, zpQ_q, zpV_c, zpn_0, zpn_s, zvI_c, zvL_c, zvR_c, zcs_n, zcs_c, zcn_eq, zcn_ne, zcn_lt, zcn_ge, zcn_gt, zcn_le, zrs_n, zrs_s, zrs_x, zpf_0, zpf_1, zpf_2, zpf_3, zfv_0, zfv_1, zfv_2, zfv_3, List.length_cons, List.length_nil, List.nil_append, List.cons_append, List.append_nil, Nat.reduceAdd, Nat.reduceSub, Nat.reduceMul, Nat.reduceLT, Nat.reduceLeDiff, Nat.reduceEqDiff, Nat.reduceBEq, Nat.zero_add, Nat.add_zero, Nat.sub_zero, Nat.zero_le, Nat.le_refl, true_and, and_true, implies_true, forall_const, true_or, or_true, not_true_eq_false, not_false_eq_true, Classical.not_not, false_implies, and_self, ↓reduceIte, reduceCtorEq, exists_eq_left, exists_eq_left', Option.some.injEq, Int.reduceAdd, Int.reduceSub, Int.reduceNeg, List.size_toArray, znc_2, znc_3, znc_4, znc_5, znc_6, znc_7, znc_8, znc_9, znc_10, znc_11, znc_12, znc_13, znc_14, znc_15, znc_16, znc_17, znc_18, znc_19, znc_20, znc_21, znc_22, znc_23, znc_24, znc_25, znc_26, znc_27, znc_28, znc_29, znc_30, znc_31, znc_32, kn_0, kn_1, kn_2, kn_3, kn_4, kn_5, kn_6, kn_7, kn_8, kn_9, kn_10, kn_11, kn_12, kn_13, kn_14, kn_15, kn_16, kn_17, kn_18, kn_19, kn_20, kn_21, kn_22, kn_23, kn_24, kn_25, kn_26, kn_27, kn_28, kn_29, kn_30, kn_31, kn_32, kn_33, kn_34, kn_35, kn_36, kn_37, kn_38, kn_39, kn_40, kzi_0_128, kzi_1_128, kzi_2_128, kzi_3_128, kzi_0_3, kzi_1_3, kzi_2_3, kzi_0_32, kzi_1_32, kzi_2_32, kzi_3_32, kzi_0_10, kzi_1_10, kzi_2_10, kzi_3_10, zte_0, zte_1, zte_2, zte_3, zte_4, zte_5, zte_6, zte_7, zte_8, zte_9, zte_10, zte_11, zte_12, zte_13, zte_14, zte_15, zte_16, dX7_hasTold_0, dX7_hasTold_1, dX7_hasTold_11, dX7_hasTold_12, dX7_hasTold_15, dX7_hasTold_4, dX7_hasTold_5, dX7_hasTold_8, jX7_hasTold_1, jX7_hasTold_8, kf_0, kf_1, mX7_hasTold_b, mX7_hasTold_c, mX7_hasTold_r, mX7_hasTold_s, zfl_7_37, zfl_7_41, zw_aload_n, zw_getfield, zw_goto, zw_ifCond, zw_iload_n, zw_ireturn, hk, ht, ht2]
  refine ⟨fun c => ?_, fun c => ?_⟩
  · rw [if_pos c] at hQ
    exact hQ
  · rw [if_neg c] at hQ
    exact hQ
/-- what halving makes of a quarrel -/
def zhalve (h : zH) (a : Nat) : zH := if zI h a 609 = zI h a 610 then zsI (zsI h a 601 ((zI h a 601 + zI h a 603) / 2)) a 602 (zI h a 609)
  else zsI (zsI (zsI h a 603 ((zI h a 601 + zI h a 603) / 2)) a 604 (zI h a 609)) a 605 (zI h a 610)
set_option maxHeartbeats 4000000 in
set_option maxRecDepth 100000 in
theorem s_X7_halve {l G d a h Q} (hd : 1 ≤ d) (hk : zK h a = 7) (hQ : Q (.inl none) (zhalve h a)) : zCall l G mX7_halve d [.ref a] h Q := by
  have hd0 : 0 < d := hd
  refine zEnt 7 false mX7_halve _ _ _ _ [some (.ref a)] rfl (by decide +kernel) (fun h => by cases h) rfl (Nat.le_of_ble_eq_true rfl) fun X hX => ?_
  refine zrun0 hX 40 ?_
  simp only [zb_s, zm_ok, zgo_c, zstp_n, zstp_c, Bool.false_eq_true, Bool.false_or, Bool.or_false, Bool.true_or, eq_self, kne_10, kne_01, zget_0, zget_s, zst1_0, zst1_1, zst1_s, zst2_0, zst2_1, zst2_s, zht_c, zdl_n, zdl_i, zdl_r, zdl_l, zct_i, zct_r, zct_l, zct_n, zct_q, zpI_c, zpL_c, zpR_c, zpR_q, zpQ_c, zpQ_n, zpQ_q, zpV_c, zpn_0, zpn_s, zvI_c, zvL_c, zvR_c, zcs_n, zcs_c, zcn_eq, zcn_ne, zcn_lt, zcn_ge, zcn_gt, zcn_le, zrs_n, zrs_s, zrs_x, zpf_0, zpf_1, zpf_2, zpf_3, zfv_0, zfv_1, zfv_2, zfv_3, List.length_cons, List.length_nil, List.nil_append, List.cons_append, List.append_nil, Nat.reduceAdd, Nat.reduceSub, Nat.reduceMul, Nat.reduceLT, Nat.reduceLeDiff, Nat.reduceEqDiff, Nat.reduceBEq, Nat.zero_add, Nat.add_zero, Nat.sub_zero, Nat.zero_le, Nat.le_refl, true_and, and_true, implies_true, forall_const, true_or, or_true, not_true_eq_false, not_false_eq_true, Classical.not_not, false_implies, and_self, ↓reduceIte, reduceCtorEq, exists_eq_left, exists_eq_left', Option.some.injEq, Int.reduceAdd, Int.reduceSub, Int.reduceNeg, List.size_toArray, znc_2, znc_3, znc_4, znc_5, znc_6, znc_7, znc_8, znc_9, znc_10, znc_11, znc_12, znc_13, znc_14, znc_15, znc_16, znc_17, znc_18, znc_19, znc_20, znc_21, znc_22, znc_23, znc_24, znc_25, znc_26, znc_27, znc_28, znc_29, znc_30, znc_31, znc_32, kn_0, kn_1, kn_2, kn_3, kn_4, kn_5, kn_6, kn_7, kn_8, kn_9, kn_10, kn_11, kn_12, kn_13, kn_14, kn_15, kn_16, kn_17, kn_18, kn_19, kn_20, kn_21, kn_22, kn_23, kn_24, kn_25, kn_26, kn_27, kn_28, kn_29, kn_30, kn_31, kn_32, kn_33, kn_34, kn_35, kn_36, kn_37, kn_38, kn_39, kn_40, kzi_0_128, kzi_1_128, kzi_2_128, kzi_3_128, kzi_0_3, kzi_1_3, kzi_2_3, kzi_0_32, kzi_1_32, kzi_2_32, kzi_3_32, kzi_0_10, kzi_1_10, kzi_2_10, kzi_3_10, zte_0, zte_1, zte_2, zte_3, zte_4, zte_5, zte_6, zte_7, zte_8, zte_9, zte_10, zte_11, zte_12, zte_13, zte_14, zte_15, zte_16, dX7_halve_0, dX7_halve_1, dX7_halve_11, dX7_halve_12, dX7_halve_13, dX7_halve_16, dX7_halve_17, dX7_halve_20, dX7_halve_23, dX7_halve_26, dX7_halve_27, dX7_halve_28, dX7_halve_31, dX7_halve_32, dX7_halve_35, dX7_halve_36, dX7_halve_39, dX7_halve_4, dX7_halve_42, dX7_halve_5, dX7_halve_8, jX7_halve_23, jX7_halve_8, kf_0, mX7_halve_b, mX7_halve_c, mX7_halve_r, mX7_halve_s, mX7_middle_c, mX7_middle_s, mX7_setEnd_c, mX7_setEnd_s, mX7_setStart_c, mX7_setStart_s, zfl_7_44, zfl_7_47, zml_7_53, zml_7_57, zml_7_61, zw_aload_n, zw_getfield, zw_goto, zw_if_icmp, zw_invokevirtual, zw_return_, hk, hd0]
  unfold zhalve at hQ
  refine ⟨fun c => s_X7_middle hk ?_, fun c => s_X7_middle hk ?_⟩
  · rw [if_neg c] at hQ
    simp only [zb_s, zm_ok, zgo_c, zstp_n, zstp_c, Bool.false_eq_true, Bool.false_or, Bool.or_false, Bool.true_or, eq_self, kne_10, kne_01, zget_0, zget_s, zst1_0, zst1_1, zst1_s, zst2_0, zst2_1, zst2_s, zht_c, zdl_n, zdl_i, zdl_r, zdl_l, zct_i, zct_r, zct_l, zct_n, zct_q, zpI_c, zpL_c, zpR_c, zpR_q, zpQ_c, zpQ_n, zpQ_q, zpV_c, zpn_0, zpn_s, zvI_c, zvL_c, zvR_c, zcs_n, zcs_c, zcn_eq, zcn_ne, zcn_lt, zcn_ge, zcn_gt, zcn_le, zrs_n, zrs_s, zrs_x, zpf_0, zpf_1, zpf_2, zpf_3, zfv_0, zfv_1, zfv_2, zfv_3, List.length_cons, List.length_nil, List.nil_append, List.cons_append, List.append_nil, Nat.reduceAdd, Nat.reduceSub, Nat.reduceMul, Nat.reduceLT, Nat.reduceLeDiff, Nat.reduceEqDiff, Nat.reduceBEq, Nat.zero_add, Nat.add_zero, Nat.sub_zero, Nat.zero_le, Nat.le_refl, true_and, and_true, implies_true, forall_const, true_or, or_true, not_true_eq_false, not_false_eq_true, Classical.not_not, false_implies, and_self, ↓reduceIte, reduceCtorEq, exists_eq_left, exists_eq_left', Option.some.injEq, Int.reduceAdd, Int.reduceSub, Int.reduceNeg, List.size_toArray, znc_2, znc_3, znc_4, znc_5, znc_6, znc_7, znc_8, znc_9, znc_10, znc_11, znc_12, znc_13, znc_14, znc_15, znc_16, znc_17, znc_18, znc_19, znc_20, znc_21, znc_22, znc_23, znc_24, znc_25, znc_26, znc_27, znc_28, znc_29, znc_30, znc_31, znc_32, kn_0, kn_1, kn_2, kn_3, kn_4, kn_5, kn_6, kn_7, kn_8, kn_9, kn_10, kn_11, kn_12, kn_13, kn_14, kn_15, kn_16, kn_17, kn_18, kn_19, kn_20, kn_21, kn_22, kn_23, kn_24, kn_25, kn_26, kn_27, kn_28, kn_29, kn_30, kn_31, kn_32, kn_33, kn_34, kn_35, kn_36, kn_37, kn_38, kn_39, kn_40, kzi_0_128, kzi_1_128, kzi_2_128, kzi_3_128, kzi_0_3, kzi_1_3, kzi_2_3, kzi_0_32, kzi_1_32, kzi_2_32, kzi_3_32, kzi_0_10, kzi_1_10, kzi_2_10, kzi_3_10, zte_0, zte_1, zte_2, zte_3, zte_4, zte_5, zte_6, zte_7, zte_8, zte_9, zte_10, zte_11, zte_12, zte_13, zte_14, zte_15, zte_16, dX7_halve_0, dX7_halve_1, dX7_halve_11, dX7_halve_12, dX7_halve_13, dX7_halve_16, dX7_halve_17, dX7_halve_20, dX7_halve_23, dX7_halve_26, dX7_halve_27, dX7_halve_28, dX7_halve_31, dX7_halve_32, dX7_halve_35, dX7_halve_36, dX7_halve_39, dX7_halve_4, dX7_halve_42, dX7_halve_5, dX7_halve_8, jX7_halve_23, jX7_halve_8, kf_0, mX7_halve_b, mX7_halve_c, mX7_halve_r, mX7_halve_s, mX7_middle_c, mX7_middle_s, mX7_setEnd_c, mX7_setEnd_s, mX7_setStart_c, mX7_setStart_s, zfl_7_44, zfl_7_47, zml_7_53, zml_7_57, zml_7_61, zw_aload_n, zw_getfield, zw_goto, zw_if_icmp, zw_invokevirtual, zw_return_, hk, hd0]
    refine s_X7_setEnd hk ?_
    simp only [zb_s, zm_ok, zgo_c, zstp_n, zstp_c, Bool.false_eq_true, Bool.false_or, Bool.or_false, Bool.true_or, eq_self, kne_10, kne_01, zget_0, zget_s, zst1_0, zst1_1, zst1_s, zst2_0, zst2_1, zst2_s, zht_c, zdl_n, zdl_i, zdl_r, zdl_l, zct_i, zct_r, zct_l, zct_n, zct_q, zpI_c, zpL_c, zpR_c, zpR_q, zpQ_c, zpQ_n, zpQ_q, zpV_c, zpn_0, zpn_s, zvI_c, zvL_c, zvR_c, zcs_n, zcs_c, zcn_eq, zcn_ne, zcn_lt, zcn_ge, zcn_gt, zcn_le, zrs_n, zrs_s, zrs_x, zpf_0, zpf_1, zpf_2, zpf_3, zfv_0, zfv_1, zfv_2, zfv_3, List.length_cons, List.length_nil, List.nil_append, List.cons_append, List.append_nil, Nat.reduceAdd, Nat.reduceSub, Nat.reduceMul, Nat.reduceLT, Nat.reduceLeDiff, Nat.reduceEqDiff, Nat.reduceBEq, Nat.zero_add, Nat.add_zero, Nat.sub_zero, Nat.zero_le, Nat.le_refl, true_and, and_true, implies_true, forall_const, true_or, or_true, not_true_eq_false, not_false_eq_true, Classical.not_not, false_implies, and_self, ↓reduceIte, reduceCtorEq, exists_eq_left, exists_eq_left', Option.some.injEq, Int.reduceAdd, Int.reduceSub, Int.reduceNeg, List.size_toArray, znc_2, znc_3, znc_4, znc_5, znc_6, znc_7, znc_8, znc_9, znc_10, znc_11, znc_12, znc_13, znc_14, znc_15, znc_16, znc_17, znc_18, znc_19, znc_20, znc_21, znc_22, znc_23, znc_24, znc_25, znc_26, znc_27, znc_28, znc_29, znc_30, znc_31, znc_32, kn_0, kn_1, kn_2, kn_3, kn_4, kn_5, kn_6, kn_7, kn_8, kn_9, kn_10, kn_11, kn_12, kn_13, kn_14, kn_15, kn_16, kn_17, kn_18, kn_19, kn_20, kn_21, kn_22, kn_23, kn_24, kn_25, kn_26, kn_27, kn_28, kn_29, kn_30, kn_31, kn_32, kn_33, kn_34, kn_35, kn_36, kn_37, kn_38, kn_39, kn_40, kzi_0_128, kzi_1_128, kzi_2_128, kzi_3_128, kzi_0_3, kzi_1_3, kzi_2_3, kzi_0_32, kzi_1_32, kzi_2_32, kzi_3_32, kzi_0_10, kzi_1_10, kzi_2_10, kzi_3_10, zte_0, zte_1, zte_2, zte_3, zte_4, zte_5, zte_6, zte_7, zte_8, zte_9, zte_10, zte_11, zte_12, zte_13, zte_14, zte_15, zte_16, dX7_halve_0, dX7_halve_1, dX7_halve_11, dX7_halve_12, dX7_halve_13, dX7_halve_16, dX7_halve_17, dX7_halve_20, dX7_halve_23, dX7_halve_26, dX7_halve_27, dX7_halve_28, dX7_halve_31, dX7_halve_32, dX7_halve_35, dX7_halve_36, dX7_halve_39, dX7_halve_4, dX7_halve_42, dX7_halve_5, dX7_halve_8, jX7_halve_23, jX7_halve_8, kf_0, mX7_halve_b, mX7_halve_c, mX7_halve_r, mX7_halve_s, mX7_middle_c, mX7_middle_s, mX7_setEnd_c, mX7_setEnd_s, mX7_setStart_c, mX7_setStart_s, zfl_7_44, zfl_7_47, zml_7_53, zml_7_57, zml_7_61, zw_aload_n, zw_getfield, zw_goto, zw_if_icmp, zw_invokevirtual, zw_return_, hQ]
  · rw [if_pos c] at hQ
    simp only [zb_s, zm_ok, zgo_c, zstp_n, zstp_c, Bool.false_eq_true, Bool.false_or, Bool.or_false, Bool.true_or, eq_self, kne_10, kne_01, zget_0, zget_s, zst1_0, zst1_1, zst1_s, zst2_0, zst2_1, zst2_s, zht_c, zdl_n, zdl_i, zdl_r, zdl_l, zct_i, zct_r, zct_l, zct_n, zct_q, zpI_c, zpL_c, zpR_c, zpR_q, zpQ_c, zpQ_n, zpQ_q, zpV_c, zpn_0, zpn_s, zvI_c, zvL_c, zvR_c, zcs_n, zcs_c, zcn_eq, zcn_ne, zcn_lt, zcn_ge, zcn_gt, zcn_le, zrs_n, zrs_s, zrs_x, zpf_0, zpf_1, zpf_2, zpf_3, zfv_0, zfv_1, zfv_2, zfv_3, List.length_cons, List.length_nil, List.nil_append, List.cons_append, List.append_nil, Nat.reduceAdd, Nat.reduceSub, Nat.reduceMul, Nat.reduceLT, Nat.reduceLeDiff, Nat.reduceEqDiff, Nat.reduceBEq, Nat.zero_add, Nat.add_zero, Nat.sub_zero, Nat.zero_le, Nat.le_refl, true_and, and_true, implies_true, forall_const, true_or, or_true, not_true_eq_false, not_false_eq_true, Classical.not_not, false_implies, and_self, ↓reduceIte, reduceCtorEq, exists_eq_left, exists_eq_left', Option.some.injEq, Int.reduceAdd, Int.reduceSub, Int.reduceNeg, List.size_toArray, znc_2, znc_3, znc_4, znc_5, znc_6, znc_7, znc_8, znc_9, znc_10, znc_11, znc_12, znc_13, znc_14, znc_15, znc_16, znc_17, znc_18, znc_19, znc_20, znc_21, znc_22, znc_23, znc_24, znc_25, znc_26, znc_27, znc_28, znc_29, znc_30, znc_31, znc_32, kn_0, kn_1, kn_2, kn_3, kn_4, kn_5, kn_6, kn_7, kn_8, kn_9, kn_10, kn_11, kn_12, kn_13, kn_14, kn_15, kn_16, kn_17, kn_18, kn_19, kn_20, kn_21, kn_22, kn_23, kn_24, kn_25, kn_26, kn_27, kn_28, kn_29, kn_30, kn_31, kn_32, kn_33, kn_34, kn_35, kn_36, kn_37, kn_38, kn_39, kn_40, kzi_0_128, kzi_1_128, kzi_2_128, kzi_3_128, kzi_0_3, kzi_1_3, kzi_2_3, kzi_0_32, kzi_1_32, kzi_2_32, kzi_3_32, kzi_0_10, kzi_1_10, kzi_2_10, kzi_3_10, zte_0, zte_1, zte_2, zte_3, zte_4, zte_5, zte_6, zte_7, zte_8, zte_9, zte_10, zte_11, zte_12, zte_13, zte_14, zte_15, zte_16, dX7_halve_0, dX7_halve_1, dX7_halve_11, dX7_halve_12, dX7_halve_13, dX7_halve_16, dX7_halve_17, dX7_halve_20, dX7_halve_23, dX7_halve_26, dX7_halve_27, dX7_halve_28, dX7_halve_31, dX7_halve_32, dX7_halve_35, dX7_halve_36, dX7_halve_39, dX7_halve_4, dX7_halve_42, dX7_halve_5, dX7_halve_8, jX7_halve_23, jX7_halve_8, kf_0, mX7_halve_b, mX7_halve_c, mX7_halve_r, mX7_halve_s, mX7_middle_c, mX7_middle_s, mX7_setEnd_c, mX7_setEnd_s, mX7_setStart_c, mX7_setStart_s, zfl_7_44, zfl_7_47, zml_7_53, zml_7_57, zml_7_61, zw_aload_n, zw_getfield, zw_goto, zw_if_icmp, zw_invokevirtual, zw_return_, hk, hd0]
    refine s_X7_setStart hk ?_
    simp only [zb_s, zm_ok, zgo_c, zstp_n, zstp_c, Bool.false_eq_true, Bool.false_or, Bool.or_false, Bool.true_or, eq_self, kne_10, kne_01, zget_0, zget_s, zst1_0, zst1_1, zst1_s, zst2_0, zst2_1, zst2_s, zht_c, zdl_n, zdl_i, zdl_r, zdl_l, zct_i, zct_r, zct_l, zct_n, zct_q, zpI_c, zpL_c, zpR_c, zpR_q, zpQ_c, zpQ_n, zpQ_q, zpV_c, zpn_0, zpn_s, zvI_c, zvL_c, zvR_c, zcs_n, zcs_c, zcn_eq, zcn_ne, zcn_lt, zcn_ge, zcn_gt, zcn_le, zrs_n, zrs_s, zrs_x, zpf_0, zpf_1, zpf_2, zpf_3, zfv_0, zfv_1, zfv_2, zfv_3, List.length_cons, List.length_nil, List.nil_append, List.cons_append, List.append_nil, Nat.reduceAdd, Nat.reduceSub, Nat.reduceMul, Nat.reduceLT, Nat.reduceLeDiff, Nat.reduceEqDiff, Nat.reduceBEq, Nat.zero_add, Nat.add_zero, Nat.sub_zero, Nat.zero_le, Nat.le_refl, true_and, and_true, implies_true, forall_const, true_or, or_true, not_true_eq_false, not_false_eq_true, Classical.not_not, false_implies, and_self, ↓reduceIte, reduceCtorEq, exists_eq_left, exists_eq_left', Option.some.injEq, Int.reduceAdd, Int.reduceSub, Int.reduceNeg, List.size_toArray, znc_2, znc_3, znc_4, znc_5, znc_6, znc_7, znc_8, znc_9, znc_10, znc_11, znc_12, znc_13, znc_14, znc_15, znc_16, znc_17, znc_18, znc_19, znc_20, znc_21, znc_22, znc_23, znc_24, znc_25, znc_26, znc_27, znc_28, znc_29, znc_30, znc_31, znc_32, kn_0, kn_1, kn_2, kn_3, kn_4, kn_5, kn_6, kn_7, kn_8, kn_9, kn_10, kn_11, kn_12, kn_13, kn_14, kn_15, kn_16, kn_17, kn_18, kn_19, kn_20, kn_21, kn_22, kn_23, kn_24, kn_25, kn_26, kn_27, kn_28, kn_29, kn_30, kn_31, kn_32, kn_33, kn_34, kn_35, kn_36, kn_37, kn_38, kn_39, kn_40, kzi_0_128, kzi_1_128, kzi_2_128, kzi_3_128, kzi_0_3, kzi_1_3, kzi_2_3, kzi_0_32, kzi_1_32, kzi_2_32, kzi_3_32, kzi_0_10, kzi_1_10, kzi_2_10, kzi_3_10, zte_0, zte_1, zte_2, zte_3, zte_4, zte_5, zte_6, zte_7, zte_8, zte_9, zte_10, zte_11, zte_12, zte_13, zte_14, zte_15, zte_16, dX7_halve_0, dX7_halve_1, dX7_halve_11, dX7_halve_12, dX7_halve_13, dX7_halve_16, dX7_halve_17, dX7_halve_20, dX7_halve_23, dX7_halve_26, dX7_halve_27, dX7_halve_28, dX7_halve_31, dX7_halve_32, dX7_halve_35, dX7_halve_36, dX7_halve_39, dX7_halve_4, dX7_halve_42, dX7_halve_5, dX7_halve_8, jX7_halve_23, jX7_halve_8, kf_0, mX7_halve_b, mX7_halve_c, mX7_halve_r, mX7_halve_s, mX7_middle_c, mX7_middle_s, mX7_setEnd_c, mX7_setEnd_s, mX7_setStart_c, mX7_setStart_s, zfl_7_44, zfl_7_47, zml_7_53, zml_7_57, zml_7_61, zw_aload_n, zw_getfield, zw_goto, zw_if_icmp, zw_invokevirtual, zw_return_, hQ]
