/-! WHAT IS COMPILED: its words that begin with m are m -/
def lxGd (T : zcells) (n f : Nat) : Prop := lxK T n f = 2 → T f = 109 → lxE T n f = f + 1
def lxJt (T : zcells) (n a : Nat) : Nat → Nat
  | 0 => a
  | k + 1 => lxNx T n (lxJt T n a k)
def lxCh (T : zcells) (n a b : Nat) : Prop := ∃ k, lxJt T n a k = b ∧ ∀ i, i < k → lxGd T n (lxJt T n a i)
theorem lxJt_add {T : zcells} {n a : Nat} (k : Nat) : ∀ i, lxJt T n a (k + i) = lxJt T n (lxJt T n a k) i
  | 0 => rfl
  | i + 1 => by
    show lxNx T n (lxJt T n a (k + i)) = lxNx T n (lxJt T n (lxJt T n a k) i)
    rw [lxJt_add k i]
theorem lxCh.rf (T : zcells) (n a : Nat) : lxCh T n a a := ⟨0, rfl, fun i hi => absurd hi (by omega)⟩
theorem lxCh.tr {T : zcells} {n a b c : Nat} (x : lxCh T n a b) (y : lxCh T n b c) : lxCh T n a c := by
  obtain ⟨k, h1, h2⟩ := x
  obtain ⟨j, h3, h4⟩ := y
  refine ⟨k + j, by rw [lxJt_add, h1, h3], fun i hi => ?_⟩
  by_cases q : i < k
  · exact h2 i q
  · have := h4 (i - k) (by omega)
    rw [← h1, ← lxJt_add, show k + (i - k) = i by omega] at this
    exact this
theorem lxCh.one {T : zcells} {n f : Nat} (h : lxGd T n f) : lxCh T n f (lxNx T n f) := ⟨1, rfl, fun i hi => by
  rw [show i = 0 by omega]
  exact h⟩
theorem lxGd_k {T n f} {v : Int32} (h : lxK T n f = v) (hv : ¬ v = 2) : lxGd T n f := fun z => absurd (h.symm.trans z) hv
theorem lxGd_e {T n f} (h : lxE T n f = f + 1) : lxGd T n f := fun _ _ => h
theorem lxGd_w {T n f t} (h : lxWd T n f t) (ht : t < 5) : lxGd T n f := by
  intro _ hm
  obtain ⟨h1, h2, h3⟩ := h
  have h4 := h3 0 (ztl_b ht).1
  rw [Nat.add_zero, hm] at h4
  have : ∀ t, t < 5 → (109 : Int32) = ztc t 0 → ztl t = 1 := by decide
  rw [h2, this t ht h4]
theorem lxGd_v {T n f} (h : ¬ lxVr T n f = -1) : lxGd T n f := by
  unfold lxVr at h
  split at h
  · rename_i q
    exact lxGd_e q.2.1
  · exact absurd rfl h
def pCh (T : zcells) (n : Nat) (F : pst → prs) : Prop := ∀ s s1, F s = .inl s1 → lxCh T n s.1 s1.1
theorem pExp_c {T n c s s1} (h : pExp T n c s = .inl s1) : lxCh T n s.1 s1.1 := by
  obtain ⟨h1, rfl⟩ := pExp_i h
  exact lxCh.one (lxGd_k h1.1 (by decide))
theorem pOpen_c {T n c r s s1} (h : pOpen T n c r s = .inl s1) : lxCh T n s.1 s1.1 ∧ 0 < r := by
  unfold pOpen at h
  split at h
  · rename_i h1
    split at h
    · cases h
    · cases h
      exact ⟨lxCh.one (lxGd_k h1.1 (by decide)), by omega⟩
  · cases h
theorem pEnc_c {T n a b E r} (gE : 0 < r → pCh T n E) : pCh T n (pEnc T n a b E r) := by
  intro s s1 h
  obtain ⟨s2, h2, h3⟩ := pbind_i h
  obtain ⟨s4, h4, h5⟩ := pbind_i h3
  obtain ⟨a1, a2⟩ := pOpen_c h2
  exact (a1.tr (gE a2 _ _ h4)).tr (pExp_c h5)
theorem pLoop_c {T n sub lv} (hl : ¬ lv = -1) (g : pCh T n sub) : ∀ k, pCh T n (pLoop T n sub lv k) := by
  intro k
  induction k with
  | zero =>
    intro s s1 h
    cases h
    exact lxCh.rf _ _ _
  | succ k ih =>
    intro s s1 h
    unfold pLoop at h
    split at h
    · rename_i q
      obtain ⟨s2, h2, h3⟩ := pbind_i h
      have hk : lxK T n s.1 = 3 := by
        refine Classical.not_not.mp fun z => hl ?_
        rw [← q]
        unfold lxSgK
        rw [if_neg z]
        rfl
      have w1 := g _ _ h2
      have w2 := ih _ _ h3
      exact ((lxCh.one (lxGd_k hk (by decide))).tr w1).tr w2
    · cases h
      exact lxCh.rf _ _ _
theorem pX_c {T n lv sub} (hl : ¬ lv = -1) (g : pCh T n sub) : pCh T n (pX T n lv sub) := by
  intro s s1 h
  obtain ⟨s2, h2, h3⟩ := pbind_i h
  exact (g _ _ h2).tr (pLoop_c hl g 400 _ _ h3)
theorem pUnit_c {T n E r} (gE : 0 < r → pCh T n E) : pCh T n (pUnit T n E r) := by
  intro s s1 h
  unfold pUnit at h
  split at h
  · rename_i q
    split at h
    · cases h
      exact lxCh.one (lxGd_k q (by decide))
    · cases h
  · split at h
    · split at h
      · rename_i q2
        obtain ⟨s2, h2, h3⟩ := pbind_i h
        have w := pEnc_c gE _ _ h2
        cases h3
        exact (lxCh.one (lxGd_w q2 (by omega))).tr w
      · exact pEnc_c gE _ _ h
    · rename_i q
      cases h
      exact lxCh.one (lxGd_v q)
theorem pLv_c {T n E r} (gE : 0 < r → pCh T n E) : pCh T n (pLv T n E r) := pX_c (by decide) (pX_c (by decide) (pX_c (by decide) (pUnit_c gE)))
theorem pEx_c {T n} : ∀ r, pCh T n (pEx T n r)
  | 0 => pLv_c (fun h => absurd h (by omega))
  | r + 1 => pLv_c (fun _ => pEx_c r)
theorem pStm_c {T n E E1 SS r} (gE : pCh T n E) (gE1 : 0 < r → pCh T n E1) (gS : 0 < r → pCh T n SS) : pCh T n (pStm T n E E1 SS r) := by
  intro s s1 h
  unfold pStm at h
  split at h
  · split at h
    · rename_i q
      obtain ⟨s2, h2, h⟩ := pbind_i h
      obtain ⟨s3, h3, h⟩ := pbind_i h
      obtain ⟨s4, h4, h⟩ := pbind_i h
      obtain ⟨s5, h5, h⟩ := pbind_i h
      cases h
      have w1 := pEnc_c gE1 _ _ h2
      have w2 := pExp_c h3
      have w3 := gE _ _ h4
      have w4 := pExp_c h5
      exact ((((lxCh.one (lxGd_w q (by omega))).tr w1).tr w2).tr w3).tr w4
    · split at h
      · rename_i q
        obtain ⟨s2, h2, h⟩ := pbind_i h
        obtain ⟨s3, h3, h⟩ := pbind_i h
        cases h
        have w1 := gE _ _ h2
        have w2 := pExp_c h3
        exact ((lxCh.one (lxGd_w q (by omega))).tr w1).tr w2
      · split at h
        · rename_i q
          obtain ⟨s2, h2, h⟩ := pbind_i h
          obtain ⟨s3, h3, h⟩ := pbind_i h
          cases h
          have w1 := gE _ _ h2
          have w2 := pEnc_c gS _ _ h3
          exact ((lxCh.one (lxGd_w q (by omega))).tr w1).tr w2
        · split at h
          · rename_i q
            obtain ⟨s2, h2, h⟩ := pbind_i h
            obtain ⟨s3, h3, h⟩ := pbind_i h
            have w1 := gE _ _ h2
            have w2 := pEnc_c gS _ _ h3
            have w : lxCh T n s.1 s3.1 := ((lxCh.one (lxGd_w q (by omega))).tr w1).tr w2
            split at h
            · rename_i q2
              obtain ⟨s4, h4, h⟩ := pbind_i h
              cases h
              have w3 := pEnc_c gS _ _ h4
              exact (w.tr (lxCh.one (lxGd_w q2 (by omega)))).tr w3
            · cases h
              exact w
          · cases h
  · rename_i q
    obtain ⟨s2, h2, h⟩ := pbind_i h
    obtain ⟨s3, h3, h⟩ := pbind_i h
    obtain ⟨s4, h4, h⟩ := pbind_i h
    cases h
    have w1 := pExp_c h2
    have w2 := gE _ _ h3
    have w3 := pExp_c h4
    exact (((lxCh.one (lxGd_v q)).tr w1).tr w2).tr w3
theorem pSL_c {T n stm} (g : pCh T n stm) : ∀ k, pCh T n (pSL T n stm k) := by
  intro k
  induction k with
  | zero =>
    intro s s1 h
    cases h
    exact lxCh.rf _ _ _
  | succ k ih =>
    intro s s1 h
    unfold pSL at h
    split at h
    · obtain ⟨s2, h2, h3⟩ := pbind_i h
      exact (g _ _ h2).tr (ih _ _ h3)
    · cases h
      exact lxCh.rf _ _ _
theorem pSS_c {T n} : ∀ r, pCh T n (pSS T n r)
  | 0 => pSL_c (pStm_c (pEx_c 0) (fun h => absurd h (by omega)) (fun h => absurd h (by omega))) 400
  | r + 1 => pSL_c (pStm_c (pEx_c (r + 1)) (fun _ => pEx_c r) (fun _ => pSS_c r)) 400
theorem lxIt_j (T : zcells) (n : Nat) : ∀ k, lxIt T n k = lxJt T n (lxSk T n 0) k
  | 0 => rfl
  | k + 1 => by
    show lxNx T n (lxIt T n k) = lxNx T n (lxJt T n (lxSk T n 0) k)
    rw [lxIt_j T n k]
theorem lxNx_0 {T : zcells} {n f : Nat} (h : lxK T n f = 0) : lxNx T n f = f ∧ n ≤ f := by
  have hn : n ≤ f := by
    refine Nat.le_of_not_lt fun z => ?_
    unfold lxK at h
    rw [if_neg (by omega)] at h
    split at h
    · exact absurd h (by decide)
    · split at h <;> exact absurd h (by decide)
  refine ⟨?_, hn⟩
  unfold lxNx lxE lxSk
  rw [if_pos hn, show n - f = 0 by omega]
  rfl
theorem pComp_v {T : zcells} {n : Nat} {K N : zcells} {s : pst} (h : pComp T n K N = .inl s) : vTx T n := by
  unfold pComp at h
  obtain ⟨s2, h2, h⟩ := pbind_i h
  split at h
  · rename_i q
    obtain ⟨k, h3, h4⟩ := pSS_c 6 _ _ h2
    have hst : ∀ i, lxJt T n s2.1 i = s2.1 := by
      intro i
      induction i with
      | zero => rfl
      | succ i ih =>
        show lxNx T n (lxJt T n s2.1 i) = s2.1
        rw [ih]
        exact (lxNx_0 q).1
    intro i
    rw [lxIt_j]
    by_cases qi : i < k
    · exact h4 i qi
    · intro z
      have e : lxJt T n (lxSk T n 0) i = s2.1 := by
        rw [show i = k + (i - k) by omega, lxJt_add]
        have h3' : lxJt T n (lxSk T n 0) k = s2.1 := h3
        rw [h3', hst]
      rw [e, q] at z
      exact absurd z (by decide)
  · cases h
