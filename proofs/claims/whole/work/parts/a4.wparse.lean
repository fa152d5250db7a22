/-! WHAT THE PARSER MAKES CAN BE RUN: the parser -/
def pWs (s s1 : pst) (k j : Nat) : Prop := s.2.1 ≤ s1.2.1 ∧ (∀ i, i < s.2.1 → s1.2.2.1 i = s.2.2.1 i ∧ s1.2.2.2 i = s.2.2.2 i) ∧ wFr s1.2.2.1 s1.2.2.2 s.2.1 s1.2.1 k j
theorem pWs.tr {s s2 s1 : pst} {k j l : Nat} (A : pWs s s2 k j) (B : pWs s2 s1 j l) : pWs s s1 k l := by
  obtain ⟨a1, a2, a3⟩ := A
  obtain ⟨b1, b2, b3⟩ := B
  refine ⟨by omega, fun i hi => ?_, (a3.eq (fun i h1 h2 => b2 i h2)).tr b3⟩
  rw [(b2 i (by omega)).1, (b2 i (by omega)).2]
  exact a2 i hi
theorem pWs.rf {s : pst} {k : Nat} (hk : k ≤ 32) : pWs s s k k := ⟨Nat.le_refl _, fun _ _ => ⟨rfl, rfl⟩, wFr.rf hk⟩
theorem pWs.adv {T n} {s s1 : pst} {k j : Nat} (h : pWs (pAdv T n s) s1 k j) : pWs s s1 k j := h
theorem pWs.advr {T n} {s s1 : pst} {k j : Nat} (h : pWs s s1 k j) : pWs s (pAdv T n s1) k j := h
theorem pEm_K {k v : Int32} {s : pst} (h : s.2.1 < 200) : (pEm k v s).2.2.1 = zup s.2.2.1 s.2.1 k ∧ (pEm k v s).2.2.2 = zup s.2.2.2 s.2.1 v := by
  unfold pEm
  simp only [if_pos h, and_self]
theorem pWs.em {s : pst} {kd v : Int32} {k j : Nat} (h : s.2.1 < 200) (hk : k ≤ 32) (hj : j ≤ 32) (hw : ((kd = 1 ∨ (kd = 2 ∧ ∃ x, x < 8 ∧ v = nI x)) ∧ j = k + 1) ∨ (((kd = 3 ∧ ∃ x, x < 8 ∧ v = nI x) ∨ kd = 16) ∧ j + 1 = k) ∨ (wOpr kd ∧ 1 ≤ j ∧ j + 1 = k) ∨ (kd = 4 ∧ 1 ≤ k ∧ j = k) ∨ (kd = 5 ∧ j + 2 = k)) : pWs s (pEm kd v s) k j := by
  obtain ⟨e1, e2⟩ := pEm_K (k := kd) (v := v) h
  refine ⟨by unfold pEm; simp only; omega, fun i hi => ?_, ?_⟩
  · rw [e1, e2, zup_n _ _ _ (by omega), zup_n _ _ _ (by omega)]
    exact ⟨rfl, rfl⟩
  · rw [e1, e2]
    refine wFr.one hk hj ?_
    rw [zup_e, zup_e]
    exact hw
def pW (F : pst → prs) (m : Nat) : Prop := ∀ s s1, F s = .inl s1 → s1.2.1 ≤ 200 → ∀ k, k + m ≤ 32 → pWs s s1 k (k + 1)
def pW0 (F : pst → prs) : Prop := ∀ s s1, F s = .inl s1 → s1.2.1 ≤ 200 → pWs s s1 0 0
theorem pExp_w {T n c s s1} (h : pExp T n c s = .inl s1) : s1.2 = s.2 := by
  obtain ⟨-, rfl⟩ := pExp_i h
  rfl
theorem pOpen_w {T n c r s s1} (h : pOpen T n c r s = .inl s1) : s1.2 = s.2 ∧ 0 < r := by
  unfold pOpen at h
  split at h
  · split at h
    · cases h
    · cases h
      exact ⟨rfl, by omega⟩
  · cases h
theorem pWs.l {s s2 s1 : pst} {k j : Nat} (e : s2.2 = s.2) (h : pWs s2 s1 k j) : pWs s s1 k j := by
  unfold pWs at *
  rw [← e]
  exact h
theorem pWs.r {s s2 s1 : pst} {k j : Nat} (e : s2.2 = s1.2) (h : pWs s s1 k j) : pWs s s2 k j := by
  unfold pWs at *
  rw [e]
  exact h
theorem pEnc_w {T n a b E r m} (gE : 0 < r → pW E m) : pW (pEnc T n a b E r) m := by
  intro s s1 h h2 k hk
  obtain ⟨s2, e2, h⟩ := pbind_i h
  obtain ⟨s3, e3, h⟩ := pbind_i h
  obtain ⟨o1, o2⟩ := pOpen_w e2
  have o3 := pExp_w h
  rw [o3] at h2
  exact ((gE o2 _ _ e3 h2 k hk).l o1).r o3
theorem pEnc_w0 {T n a b E r} (gE : 0 < r → pW0 E) : pW0 (pEnc T n a b E r) := by
  intro s s1 h h2
  obtain ⟨s2, e2, h⟩ := pbind_i h
  obtain ⟨s3, e3, h⟩ := pbind_i h
  obtain ⟨o1, o2⟩ := pOpen_w e2
  have o3 := pExp_w h
  rw [o3] at h2
  exact ((gE o2 _ _ e3 h2).l o1).r o3
theorem lxSgK_o {T n f} {lv : Int32} (h : lxLv (lxSgK T n f) = lv) (hl : ¬ lv = -1) : wOpr (lxSgK T n f) := by
  have hn : ¬ lxSgK T n f = -1 := fun e => hl (by rw [← h, e]; rfl)
  unfold lxSgK at hn ⊢
  split at hn
  · rename_i q
    rw [if_pos q]
    unfold lxSgV at hn ⊢
    unfold wOpr
    split
    · simp only [true_or]
    · split
      · simp only [true_or, or_true]
      · split
        · simp only [true_or, or_true]
        · split
          · simp only [true_or, or_true]
          · split
            · simp only [true_or, or_true]
            · split
              · simp only [true_or, or_true]
              · split
                · simp only [true_or, or_true]
                · split
                  · simp only [or_true]
                  · rename_i q1 q2 q3 q4 q5 q6 q7 q8
                    rw [if_neg q1, if_neg q2, if_neg q3, if_neg q4, if_neg q5, if_neg q6, if_neg q7, if_neg q8] at hn
                    exact absurd rfl hn
  · exact absurd rfl hn
theorem pLoop_w {T n sub lv m} (hl : ¬ lv = -1) (g : pW sub m) : ∀ c s s1, pLoop T n sub lv c s = .inl s1 → s1.2.1 ≤ 200 → ∀ k, 1 ≤ k → k + m ≤ 32 → pWs s s1 k k := by
  intro c
  induction c with
  | zero =>
    intro s s1 h h2 k h1 hk
    cases h
    exact pWs.rf (by omega)
  | succ c ih =>
    intro s s1 h h2 k h1 hk
    unfold pLoop at h
    split at h
    · rename_i q
      obtain ⟨s2, e2, h3⟩ := pbind_i h
      have w2 := ih _ _ h3 h2 k h1 hk
      have b2 : s2.2.1 + 1 ≤ 200 := by
        have := w2.1
        unfold pEm at this
        simp only at this
        omega
      have w1 := g _ _ e2 (by omega) k hk
      have km : k + 1 ≤ 32 := by
        have w1' := w1
        obtain ⟨a1, -, -, dp, -, d2, d3, -⟩ := w1'
        rw [← d2]
        exact d3 _ a1 (Nat.le_refl _)
      refine (w1.adv.tr (pWs.em (by omega) km (by omega) ?_)).tr w2
      exact Or.inr (Or.inr (Or.inl ⟨lxSgK_o q hl, h1, rfl⟩))
    · cases h
      exact pWs.rf (by omega)
theorem pX_w {T n lv sub m} (hl : ¬ lv = -1) (g : pW sub m) : pW (pX T n lv sub) (m + 1) := by
  intro s s1 h h2 k hk
  obtain ⟨s2, e2, h3⟩ := pbind_i h
  have w2 := pLoop_w hl g 400 _ _ h3 h2 (k + 1) (by omega) (by omega)
  have w1 := g _ _ e2 (by have := w2.1; omega) k (by omega)
  exact w1.tr w2
theorem lxVr_v {T n f} (h : ¬ lxVr T n f = -1) : ∃ x, x < 8 ∧ lxVr T n f = nI x := by
  unfold lxVr at h ⊢
  split at h
  · rename_i q
    rw [if_pos q]
    obtain ⟨q1, -, q3⟩ := q
    unfold lxK at q1
    split at q1
    · exact absurd q1 (by decide)
    · split at q1
      · exact absurd q1 (by decide)
      · split at q1
        · rename_i q4
          have h0 : ¬ T f < 0 := fun z => q4.1 (Int32.lt_trans z (by decide))
          obtain ⟨j, hj, e⟩ := nI_of h0
          rw [e] at q3 q4 ⊢
          have a1 : ¬ 104 < j := fun z => q3 ((nI_ltI (a := 104) (b := j) (by omega) hj).mpr z)
          have a2 : ¬ j < 97 := fun z => q4.1 ((nI_ltI (a := j) (b := 97) hj (by omega)).mpr z)
          refine ⟨j - 97, by omega, ?_⟩
          rw [show (97 : Int32) = nI 97 by rfl, nI_sub (by omega)]
        · exact absurd q1 (by decide)
  · exact absurd rfl h
theorem pUnit_w {T n E r m} (hm : 1 ≤ m) (gE : 0 < r → pW E m) : pW (pUnit T n E r) m := by
  intro s s1 h h2 k hk
  unfold pUnit at h
  split at h
  · split at h
    · cases h
      have b : s.2.1 < 200 := by
        unfold pAdv pEm at h2
        simp only at h2
        omega
      exact pWs.advr (pWs.em b (by omega) (by omega) (Or.inl ⟨Or.inl rfl, rfl⟩))
    · cases h
  · split at h
    · split at h
      · obtain ⟨s2, e2, h⟩ := pbind_i h
        cases h
        have b : s2.2.1 < 200 := by
          unfold pEm at h2
          simp only at h2
          omega
        have w1 := pEnc_w gE _ _ e2 (by omega) k hk
        exact w1.adv.tr (pWs.em b (by omega) (by omega) (Or.inr (Or.inr (Or.inr (Or.inl ⟨rfl, by omega, rfl⟩)))))
      · exact pEnc_w gE _ _ h h2 k hk
    · rename_i q
      cases h
      have b : s.2.1 < 200 := by
        unfold pEm pAdv at h2
        simp only at h2
        omega
      exact (pWs.em (s := pAdv T n s) b (by omega) (by omega) (Or.inl ⟨Or.inr ⟨rfl, lxVr_v q⟩, rfl⟩)).adv
theorem pLv_w {T n E r m} (hm : 1 ≤ m) (gE : 0 < r → pW E m) : pW (pLv T n E r) (m + 3) := pX_w (by decide) (pX_w (by decide) (pX_w (by decide) (pUnit_w hm gE)))
theorem pEx_w {T n} : ∀ r, pW (pEx T n r) (3 * r + 4)
  | 0 => pLv_w (m := 1) (by omega) (fun h => absurd h (by omega))
  | r + 1 => by
    have := pLv_w (T := T) (n := n) (r := r + 1) (m := 3 * r + 4) (E := pEx T n r) (by omega) (fun _ => pEx_w r)
    exact this
theorem pAim_K {a : Nat} {s : pst} (h : a < 200) : (pAim a s).2.1 = s.2.1 ∧ (pAim a s).2.2.1 = s.2.2.1 ∧ (pAim a s).2.2.2 = zup s.2.2.2 a (nI s.2.1) := by
  unfold pAim
  simp only [if_pos h, and_self]
theorem pStm_w {T n E E1 SS r} (gE : pW E 31) (gE1 : 0 < r → pW E1 32) (gS : 0 < r → pW0 SS) : pW0 (pStm T n E E1 SS r) := by
  intro s s1 h h2
  unfold pStm at h
  split at h
  · split at h
    · obtain ⟨s2, e2, h⟩ := pbind_i h
      obtain ⟨s3, e3, h⟩ := pbind_i h
      obtain ⟨s4, e4, h⟩ := pbind_i h
      obtain ⟨s5, e5, h⟩ := pbind_i h
      cases h
      have b : s5.2.1 < 200 := by
        unfold pEm at h2
        simp only at h2
        omega
      have x3 := pExp_w e3
      have x5 := pExp_w e5
      have w2 := gE _ _ e4 (by rw [← x5]; omega) 1 (by omega)
      have w1 := pEnc_w gE1 _ _ e2 (by rw [← x3]; have := w2.1; rw [← x5] at this; omega) 0 (by omega)
      exact ((w1.adv.r x3).tr (w2.r x5)).tr (pWs.em b (by omega) (by omega) (Or.inr (Or.inr (Or.inr (Or.inr ⟨rfl, rfl⟩)))))
    · split at h
      · obtain ⟨s2, e2, h⟩ := pbind_i h
        obtain ⟨s3, e3, h⟩ := pbind_i h
        cases h
        have b : s3.2.1 < 200 := by
          unfold pEm at h2
          simp only at h2
          omega
        have x3 := pExp_w e3
        have w1 := gE _ _ e2 (by rw [← x3]; omega) 0 (by omega)
        exact (w1.adv.r x3).tr (pWs.em b (by omega) (by omega) (Or.inr (Or.inl ⟨Or.inr rfl, rfl⟩)))
      · split at h
        · obtain ⟨s2, e2, h⟩ := pbind_i h
          obtain ⟨s3, e3, h⟩ := pbind_i h
          cases h
          have b : s3.2.1 < 200 := by
            unfold pAim pEm at h2
            simp only at h2
            omega
          have w2 := pEnc_w0 gS _ _ e3 (by omega)
          have b2 : s2.2.1 < 200 := by
            have := w2.1
            unfold pEm at this
            simp only at this
            omega
          have w1 := gE _ _ e2 (by omega) 0 (by omega)
          obtain ⟨a1, a2, a3⟩ := w1
          obtain ⟨c1, c2, c3⟩ := w2
          obtain ⟨k1, k2⟩ := pEm_K (k := 15) (v := 0) b2
          obtain ⟨l1, l2⟩ := pEm_K (k := 14) (v := nI s.2.1) b
          obtain ⟨m1, m2, m3⟩ := pAim_K (a := s2.2.1) (s := pEm 14 (nI s.2.1) s3) b2
          have z1 : (pEm 15 0 s2).2.1 = s2.2.1 + 1 := rfl
          have z2 : (pEm 14 (nI s.2.1) s3).2.1 = s3.2.1 + 1 := rfl
          have z3 : (pAdv T n s).2 = s.2 := rfl
          rw [z3] at a1 a2 a3
          rw [z1] at c1 c2 c3
          rw [k1, k2] at c2
          unfold pWs
          rw [m1, m2, m3, l1, l2, z2]
          refine ⟨by omega, fun i hi => ?_, ?_⟩
          · rw [zup_n _ _ _ (by omega), zup_n _ _ _ (by omega), zup_n _ _ _ (by omega), (c2 i (by omega)).1, (c2 i (by omega)).2, zup_n _ _ _ (by omega), zup_n _ _ _ (by omega)]
            exact a2 i hi
          · refine wFr.wh (z := s2.2.1) (e := s3.2.1) (a3.eq fun i i1 i2 => ?_) (c3.eq fun i i1 i2 => ?_) ?_ ?_ ?_ ?_
            · rw [zup_n _ _ _ (by omega), zup_n _ _ _ (by omega), zup_n _ _ _ (by omega), (c2 i (by omega)).1, (c2 i (by omega)).2, zup_n _ _ _ (by omega), zup_n _ _ _ (by omega)]
              exact ⟨rfl, rfl⟩
            · rw [zup_n _ _ _ (by omega), zup_n _ _ _ (by omega), zup_n _ _ _ (by omega)]
              exact ⟨rfl, rfl⟩
            · rw [zup_n _ _ _ (by omega), (c2 _ (by omega)).1, zup_e]
            · rw [zup_e]
            · rw [zup_e]
            · rw [zup_n _ _ _ (by omega), zup_e]
        · split at h
          · obtain ⟨s2, e2, h⟩ := pbind_i h
            obtain ⟨s3, e3, h⟩ := pbind_i h
            split at h
            · obtain ⟨s4, e4, h⟩ := pbind_i h
              cases h
              have b4 : s4.2.1 ≤ 200 := h2
              have w3 := pEnc_w0 gS _ _ e4 b4
              obtain ⟨f1, f2, f3⟩ := w3
              have z4 : (pAim s2.2.1 (pEm 14 0 (pAdv T n s3))).2.1 = s3.2.1 + 1 := rfl
              rw [z4] at f1 f2 f3
              have w2 := pEnc_w0 gS _ _ e3 (by omega)
              obtain ⟨c1, c2, c3⟩ := w2
              have z1 : (pEm 15 0 s2).2.1 = s2.2.1 + 1 := rfl
              rw [z1] at c1 c2 c3
              have w1 := gE _ _ e2 (by omega) 0 (by omega)
              obtain ⟨a1, a2, a3⟩ := w1
              have z3 : (pAdv T n s).2 = s.2 := rfl
              rw [z3] at a1 a2 a3
              obtain ⟨k1, k2⟩ := pEm_K (k := 15) (v := 0) (s := s2) (by omega)
              rw [k1, k2] at c2
              obtain ⟨l1, l2⟩ := pEm_K (k := 14) (v := 0) (s := pAdv T n s3) (show s3.2.1 < 200 by omega)
              obtain ⟨m1, m2, m3⟩ := pAim_K (a := s2.2.1) (s := pEm 14 0 (pAdv T n s3)) (by omega)
              rw [m2, m3, l1, l2] at f2
              obtain ⟨n1, n2, n3⟩ := pAim_K (a := s3.2.1) (s := s4) (by omega)
              have z5 : (pAdv T n s3).2 = s3.2 := rfl
              have z6 : (pEm 14 0 (pAdv T n s3)).2.1 = s3.2.1 + 1 := rfl
              rw [z5, z6] at f2
              unfold pWs
              rw [n1, n2, n3]
              have g : ∀ i, i < s3.2.1 → ¬ i = s2.2.1 → s4.2.2.1 i = s3.2.2.1 i ∧ zup s4.2.2.2 s3.2.1 (nI s4.2.1) i = s3.2.2.2 i := fun i hi hn => by
                rw [zup_n _ _ _ (by omega), (f2 i (by omega)).1, (f2 i (by omega)).2, zup_n _ _ _ (by omega), zup_n _ _ _ hn, zup_n _ _ _ (by omega)]
                exact ⟨rfl, rfl⟩
              refine ⟨by omega, fun i hi => ?_, ?_⟩
              · rw [(g i (by omega) (by omega)).1, (g i (by omega) (by omega)).2, (c2 i (by omega)).1, (c2 i (by omega)).2, zup_n _ _ _ (by omega), zup_n _ _ _ (by omega)]
                exact a2 i hi
              · refine (a3.eq fun i i1 i2 => ?_).tr (wFr.el (z := s2.2.1) (j := s3.2.1) (e := s4.2.1) (c3.eq fun i i1 i2 => ?_) (f3.eq fun i i1 i2 => ?_) ?_ ?_ ?_ ?_)
                · rw [(g i (by omega) (by omega)).1, (g i (by omega) (by omega)).2, (c2 i (by omega)).1, (c2 i (by omega)).2, zup_n _ _ _ (by omega), zup_n _ _ _ (by omega)]
                  exact ⟨rfl, rfl⟩
                · exact g i (by omega) (by omega)
                · rw [zup_n _ _ _ (by omega)]
                  exact ⟨rfl, rfl⟩
                · rw [(f2 _ (by omega)).1, zup_n _ _ _ (by omega), (c2 _ (by omega)).1, zup_e]
                · rw [zup_n _ _ _ (by omega), (f2 _ (by omega)).2, zup_e]
                · rw [(f2 _ (by omega)).1, zup_e]
                · rw [zup_e]
            · cases h
              have w2 := pEnc_w0 gS _ _ e3 h2
              have b3 : s3.2.1 ≤ 200 := h2
              obtain ⟨c1, c2, c3⟩ := w2
              have z1 : (pEm 15 0 s2).2.1 = s2.2.1 + 1 := rfl
              rw [z1] at c1 c2 c3
              have w1 := gE _ _ e2 (by omega) 0 (by omega)
              obtain ⟨a1, a2, a3⟩ := w1
              have z3 : (pAdv T n s).2 = s.2 := rfl
              rw [z3] at a1 a2 a3
              obtain ⟨k1, k2⟩ := pEm_K (k := 15) (v := 0) (s := s2) (by omega)
              rw [k1, k2] at c2
              obtain ⟨n1, n2, n3⟩ := pAim_K (a := s2.2.1) (s := s3) (by omega)
              unfold pWs
              rw [n1, n2, n3]
              refine ⟨by omega, fun i hi => ?_, ?_⟩
              · rw [zup_n _ _ _ (by omega), (c2 i (by omega)).1, (c2 i (by omega)).2, zup_n _ _ _ (by omega), zup_n _ _ _ (by omega)]
                exact a2 i hi
              · refine (a3.eq fun i i1 i2 => ?_).tr (wFr.br (z := s2.2.1) (e := s3.2.1) (c3.eq fun i i1 i2 => ?_) ?_ ?_)
                · rw [zup_n _ _ _ (by omega), (c2 i (by omega)).1, (c2 i (by omega)).2, zup_n _ _ _ (by omega), zup_n _ _ _ (by omega)]
                  exact ⟨rfl, rfl⟩
                · rw [zup_n _ _ _ (by omega)]
                  exact ⟨rfl, rfl⟩
                · rw [(c2 _ (by omega)).1, zup_e]
                · rw [zup_e]
          · cases h
  · rename_i q
    obtain ⟨s2, e2, h⟩ := pbind_i h
    obtain ⟨s3, e3, h⟩ := pbind_i h
    obtain ⟨s4, e4, h⟩ := pbind_i h
    cases h
    have b : s4.2.1 < 200 := by
      unfold pEm at h2
      simp only at h2
      omega
    have x2 := pExp_w e2
    have x4 := pExp_w e4
    have w1 := gE _ _ e3 (by rw [← x4]; omega) 0 (by omega)
    have w2 := (w1.l x2).r x4
    exact w2.adv.tr (pWs.em b (by omega) (by omega) (Or.inr (Or.inl ⟨Or.inl ⟨rfl, lxVr_v q⟩, rfl⟩)))
theorem pSL_w {T n stm} (g : pW0 stm) : ∀ c, pW0 (pSL T n stm c) := by
  intro c
  induction c with
  | zero =>
    intro s s1 h h2
    cases h
    exact pWs.rf (by omega)
  | succ c ih =>
    intro s s1 h h2
    unfold pSL at h
    split at h
    · obtain ⟨s2, e2, h3⟩ := pbind_i h
      have w2 := ih _ _ h3 h2
      exact (g _ _ e2 (by have := w2.1; omega)).tr w2
    · cases h
      exact pWs.rf (by omega)
theorem pW.le {F : pst → prs} {a b : Nat} (h : pW F a) (q : a ≤ b) : pW F b := fun s s1 e1 e2 k hk => h s s1 e1 e2 k (by omega)
theorem pSS_w {T n} : ∀ r, r ≤ 6 → pW0 (pSS T n r)
  | 0, _ => pSL_w (pStm_w ((pEx_w 0).le (by omega)) (fun h => absurd h (by omega)) (fun h => absurd h (by omega))) 400
  | r + 1, h => pSL_w (pStm_w ((pEx_w (r + 1)).le (by omega)) (fun _ => (pEx_w r).le (by omega)) (fun _ => pSS_w r (by omega))) 400
theorem wNy.nx {kd nb : Int32} {b : Nat} {dp : Nat → Nat} {pc : Nat} (W : wNy kd nb 0 b dp pc) (h : pc < b) : wNx kd nb (b + 1) dp pc := by
  obtain ⟨x1, x2, x3, x4, x5, x6⟩ := W
  refine ⟨fun q => ⟨by omega, x1 q⟩, fun q => ⟨by omega, x2 q⟩, fun q => ⟨by omega, x3 q⟩, fun q => ⟨by omega, x4 q⟩, fun q => ?_, fun q => ?_⟩
  · obtain ⟨to, t1, t2, t3, t4⟩ := x5 q
    exact ⟨to, by omega, t3, t4⟩
  · obtain ⟨to, t1, t2, t3, t4⟩ := x6 q
    exact ⟨to, by omega, t3, t4⟩
/-- what is compiled can be run -/
theorem pComp_w {T : zcells} {n : Nat} {K N : zcells} {s : pst} (h : pComp T n K N = .inl s) : wCode s.2.2.1 s.2.2.2 s.2.1 := by
  unfold pComp at h
  obtain ⟨s2, e2, h⟩ := pbind_i h
  split at h
  · split at h
    · rename_i q
      cases h
      have b : s2.2.1 < 200 := by
        unfold pEm at q
        simp only at q
        omega
      obtain ⟨-, -, w1, dp, d1, d2, d3, d4⟩ := pSS_w 6 (by omega) _ _ e2 (by omega)
      obtain ⟨k1, k2⟩ := pEm_K (k := 0) (v := 0) b
      have z1 : (pEm 0 0 s2).2.1 = s2.2.1 + 1 := rfl
      rw [k1, k2, z1]
      unfold wCode
      refine ⟨by omega, by omega, dp, d1, fun pc hp => ?_⟩
      by_cases q2 : pc = s2.2.1
      · subst q2
        rw [zup_e, zup_e]
        refine ⟨d3 _ (Nat.zero_le _) (by omega), Or.inl rfl, fun u => absurd u (by decide), fun u => ?_, fun u => absurd u (by decide), fun u => absurd u (by decide), fun u => absurd u (by decide), fun u => absurd u (by decide)⟩
        unfold wOpr at u
        exact absurd u (by decide)
      · rw [zup_n _ _ _ q2, zup_n _ _ _ q2]
        have d5 := d4 pc (Nat.zero_le _) (by omega)
        exact ⟨d3 pc (Nat.zero_le _) (by omega), d5.1, d5.2.nx (by omega)⟩
    · cases h
  · cases h
