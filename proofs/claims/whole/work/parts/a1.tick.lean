/-! THE TICK, one by one: the jumps of the hall are ticks in which nothing is due -/
theorem zu3_zu3 (S : zst) (f i k : Nat) (v w : Int32) : zu3 (zu3 S f i k v) f i k w = zu3 S f i k w := by
  funext g j l
  simp only [zu3_a]
  split <;> rfl
def xTk1 (S : zst) : zst := xLapT 6 0 (zu3 S 203 0 0 (S 203 0 0 + 1))
def xTkN : Nat → zst → zst
  | 0, S => S
  | n + 1, S => xTkN n (xTk1 S)
theorem xTkN_add : ∀ (a b : Nat) (S : zst), xTkN (a + b) S = xTkN b (xTkN a S)
  | 0, b, S => by rw [Nat.zero_add]; rfl
  | a + 1, b, S => by
    rw [show a + 1 + b = (a + b) + 1 by omega]
    exact xTkN_add a b (xTk1 S)
theorem xHas_dn {S : zst} {t p q : Nat} (h : p ≤ q) (hq : q < 20) (H : xHas S t q) : xHas S t p := by
  rcases Nat.eq_or_lt_of_le h with e | e
  · rw [e]
    exact H
  · exact Int32.lt_trans (nI_lt e (by omega)) H
theorem xLapL_id {t : Nat} : ∀ (f p : Nat) (S : zst), p + f ≤ 20 → (∀ q, q < 20 → xHas S t q → S 203 0 0 < xDue S t q) → xLapL t f p S = S
  | 0, _, _, _, _ => rfl
  | f + 1, p, S, hp, h => by
    unfold xLapL
    split
    · rename_i q
      rw [if_pos (h p (by omega) q)]
      exact xLapL_id f (p + 1) S (by omega) h
    · rfl
theorem xLapT_id : ∀ (f t : Nat) (S : zst), t + f ≤ 6 → (∀ u, u < 6 → nI u < S 904 0 0 → ∀ q, q < 20 → xHas S u q → S 203 0 0 < xDue S u q) → xLapT f t S = S
  | 0, _, _, _, _ => rfl
  | f + 1, t, S, ht, h => by
    unfold xLapT
    split
    · rename_i q
      rw [xLapL_id 20 0 S (by omega) (h t (by omega) q)]
      exact xLapT_id f (t + 1) S (by omega) h
    · rfl
theorem xEarlyL_le {S : zst} {t : Nat} : ∀ (f p : Nat) (r : Int32), p + f ≤ 20 → xEarlyL S t f p r ≤ r ∧ ∀ q, p ≤ q → q < p + f → xHas S t q → xEarlyL S t f p r ≤ xDue S t q
  | 0, _, r, _ => ⟨Int32.le_refl r, fun q h1 h2 => absurd h2 (by omega)⟩
  | f + 1, p, r, hp => by
    unfold xEarlyL
    by_cases h : xHas S t p
    · rw [if_pos h]
      obtain ⟨i1, i2⟩ := xEarlyL_le (S := S) (t := t) f (p + 1) (if xDue S t p < r then xDue S t p else r) (by omega)
      have e1 : (if xDue S t p < r then xDue S t p else r) ≤ r := by
        split
        · rename_i q
          exact Int32.le_of_lt q
        · exact Int32.le_refl r
      have e2 : (if xDue S t p < r then xDue S t p else r) ≤ xDue S t p := by
        split
        · exact Int32.le_refl _
        · rename_i q
          exact Int32.not_lt.mp q
      refine ⟨Int32.le_trans i1 e1, fun q h1 h2 h3 => ?_⟩
      rcases Nat.eq_or_lt_of_le h1 with e | e
      · rw [← e]
        exact Int32.le_trans i1 e2
      · exact i2 q (by omega) (by omega) h3
    · rw [if_neg h]
      exact ⟨Int32.le_refl r, fun q h1 h2 h3 => absurd (xHas_dn h1 (by omega) h3) h⟩
theorem xEarlyT_le {S : zst} : ∀ (f t : Nat) (r : Int32), t + f ≤ 6 → xEarlyT S f t r ≤ r ∧ ∀ u, t ≤ u → u < t + f → nI u < S 904 0 0 → ∀ q, q < 20 → xHas S u q → xEarlyT S f t r ≤ xDue S u q
  | 0, _, r, _ => ⟨Int32.le_refl r, fun q h1 h2 => absurd h2 (by omega)⟩
  | f + 1, t, r, ht => by
    unfold xEarlyT
    by_cases h : nI t < S 904 0 0
    · rw [if_pos h]
      obtain ⟨i1, i2⟩ := xEarlyT_le (S := S) f (t + 1) (xEarlyL S t 20 0 r) (by omega)
      obtain ⟨j1, j2⟩ := xEarlyL_le (S := S) (t := t) 20 0 r (by omega)
      refine ⟨Int32.le_trans i1 j1, fun u h1 h2 h3 q hq h4 => ?_⟩
      rcases Nat.eq_or_lt_of_le h1 with e | e
      · subst e
        exact Int32.le_trans i1 (j2 q (by omega) (by omega) h4)
      · exact i2 u (by omega) (by omega) h3 q hq h4
    · rw [if_neg h]
      refine ⟨Int32.le_refl r, fun u h1 h2 h3 => absurd ?_ h⟩
      rcases Nat.eq_or_lt_of_le h1 with e | e
      · rw [e]
        exact h3
      · exact Int32.lt_trans (nI_lt e (by omega)) h3
theorem xDue_now {S : zst} {v : Int32} {t p : Nat} : xDue (zu3 S 203 0 0 v) t p = xDue S t p := by
  simp only [xDue, zu3_a, Nat.reduceEqDiff, false_and, if_false]
theorem xTkN_skip : ∀ (k : Nat) (S : zst) (m : Nat), S 203 0 0 = nI m → m + (k + 1) ≤ 100000 → (1 < k + 1 → ∀ u, u < 6 → nI u < S 904 0 0 → ∀ q, q < 20 → xHas S u q → nI (m + (k + 1)) ≤ xDue S u q) → xTkN (k + 1) S = xLapT 6 0 (zu3 S 203 0 0 (nI (m + (k + 1))))
  | 0, S, m, hm, _, _ => by
    show xTk1 S = _
    unfold xTk1
    rw [hm, nI_1]
  | k + 1, S, m, hm, hb, h => by
    have e1 : xTk1 S = zu3 S 203 0 0 (nI (m + 1)) := by
      unfold xTk1
      rw [hm, nI_1]
      refine xLapT_id 6 0 _ (by omega) fun u hu hc q hq hh => ?_
      rw [zu3_e, xDue_now]
      rw [zu3_n _ (by decide)] at hc
      unfold xHas at hh
      rw [zu3_n _ (by decide)] at hh
      exact Int32.lt_of_lt_of_le (nI_lt (show m + 1 < m + (k + 1 + 1) by omega) (by omega)) (h (by omega) u hu hc q hq hh)
    show xTkN (k + 1) (xTk1 S) = _
    rw [e1, xTkN_skip k _ (m + 1) (zu3_e _ _ _ _ _) (by omega) (fun _ u hu hc q hq hh => ?_), zu3_zu3, show m + 1 + (k + 1) = m + (k + 1 + 1) by omega]
    rw [xDue_now, show m + 1 + (k + 1) = m + (k + 1 + 1) by omega]
    rw [zu3_n _ (by decide)] at hc
    unfold xHas at hh
    rw [zu3_n _ (by decide)] at hh
    exact h (by omega) u hu hc q hq hh
theorem xTickL_eq : ∀ (f : Nat) (S : zst) (m n : Nat), S 203 0 0 = nI m → n ≤ f → m + n ≤ 100000 → xTickL (nI (m + n)) f S = xTkN n S
  | 0, S, m, n, hm, hn, _ => by
    rw [show n = 0 by omega]
    rfl
  | f + 1, S, m, 0, hm, hn, _ => by
    unfold xTickL
    rw [hm, if_neg (nI_nlt (by omega) (by omega))]
    rfl
  | f + 1, S, m, n + 1, hm, hn, hb => by
    have hl : nI m < nI (m + (n + 1)) := nI_lt (by omega) (by omega)
    obtain ⟨-, E⟩ := xEarlyT_le (S := S) 6 0 2147483647 (by omega)
    have hx : ∃ k, k ≤ n ∧ xNext S (nI (m + (n + 1))) = nI (m + (k + 1)) ∧ (1 < k + 1 → ∀ u, u < 6 → nI u < S 904 0 0 → ∀ q, q < 20 → xHas S u q → nI (m + (k + 1)) ≤ xDue S u q) := by
      unfold xNext
      rw [hm, nI_1]
      generalize xEarlyT S 6 0 2147483647 = e at *
      have a1 : (if e < nI (m + (n + 1)) then e else nI (m + (n + 1))) ≤ nI (m + (n + 1)) := by
        split
        · rename_i q
          exact Int32.le_of_lt q
        · exact Int32.le_refl _
      have a2 : (if e < nI (m + (n + 1)) then e else nI (m + (n + 1))) ≤ e := by
        split
        · exact Int32.le_refl _
        · rename_i q
          exact Int32.not_lt.mp q
      generalize (if e < nI (m + (n + 1)) then e else nI (m + (n + 1))) = a at *
      by_cases q : nI (m + 1) < a
      · rw [if_pos q]
        have a0 : ¬ a < 0 := fun z => nI_pos (n := m + 1) (by omega) (Int32.lt_trans q z)
        obtain ⟨j, hj, rfl⟩ := nI_of a0
        rw [nI_ltI (by omega) hj] at q
        rw [nI_leI hj (by omega)] at a1
        refine ⟨j - m - 1, by omega, by rw [show m + (j - m - 1 + 1) = j by omega], fun _ u hu hc p hp hh => ?_⟩
        rw [show m + (j - m - 1 + 1) = j by omega]
        exact Int32.le_trans a2 (E u (by omega) (by omega) hc p hp hh)
      · rw [if_neg q]
        exact ⟨0, by omega, rfl, fun z => absurd z (by omega)⟩
    obtain ⟨k, hk, ek, hd⟩ := hx
    unfold xTickL
    rw [hm, if_pos hl, ek, show n + 1 = (k + 1) + (n - k) by omega, xTkN_add, xTkN_skip k S m hm (by omega) hd]
    rw [show m + ((k + 1) + (n - k)) = (m + (k + 1)) + (n - k) by omega]
    refine xTickL_eq f _ (m + (k + 1)) (n - k) ?_ (by omega) (by omega)
    rw [(xKp.lapT 6 0 _).1 _ (by unfold zChg; omega), zu3_e]
theorem xInv.now {S : zst} {N m : Nat} (I : xInv N S) (hm : m ≤ 100000) : xInv N (zu3 S 203 0 0 (nI m)) := by
  obtain ⟨i1, i2, i3, i4, i5, i6, i7, i8⟩ := I
  refine ⟨i1.f (zu3_r _ (by decide)) (zu3_r _ (by decide)) (zu3_r _ (by decide)) (zu3_r _ (by decide)), i2.f (zu3_r _ (by decide)) (zu3_r _ (by decide)) (zu3_r _ (by decide)) (zu3_r _ (by decide)), ?_, ?_, fun t ht p hp => ⟨(i5 t ht p hp).1.up (fun f hf => zu3_r _ (by unfold zPQ at hf; omega)) (Or.inl ⟨zu3_n _ (by decide), zu3_n _ (by decide), zu3_n _ (by decide)⟩), fun z => by
    rw [zu3_n _ (by decide)] at z
    rw [zu3_n _ (by decide), zu3_n _ (by decide)]
    exact (i5 t ht p hp).2 z⟩, ?_, ?_, ?_⟩
  · unfold xSz at *
    simp only [zu3_a, Nat.reduceEqDiff, false_and, if_false]
    exact i3
  · unfold xGl at *
    simp only [zu3_a, Nat.reduceEqDiff, false_and, if_false, and_self, if_true]
    exact ⟨⟨m, hm, rfl⟩, i4.2⟩
  · unfold xFL xHas at *
    simp only [zu3_a, Nat.reduceEqDiff, false_and, if_false]
    exact i6
  · unfold xFw at *
    simp only [zu3_a, Nat.reduceEqDiff, false_and, if_false]
    exact i7
  · unfold xBI at *
    simp only [zu3_a, Nat.reduceEqDiff, false_and, if_false]
    exact i8
theorem xTk1_now {S : zst} {m : Nat} (hm : S 203 0 0 = nI m) : xTk1 S 203 0 0 = nI (m + 1) := by
  unfold xTk1
  rw [(xKp.lapT 6 0 _).1 _ (by unfold zChg; omega), zu3_e, hm, nI_1]
theorem xInv.tk1 {S : zst} {N m : Nat} (I : xInv N S) (hm : S 203 0 0 = nI m) (hb : m + 1 ≤ 100000) : xInv (N + 2640) (xTk1 S) := by
  unfold xTk1
  rw [hm, nI_1]
  exact (I.now hb).kp (xKp.lapT 6 0 _)
theorem xTkN_now : ∀ (n : Nat) (S : zst) (m : Nat), S 203 0 0 = nI m → xTkN n S 203 0 0 = nI (m + n)
  | 0, _, _, hm => hm
  | n + 1, S, m, hm => by
    rw [show m + (n + 1) = (m + 1) + n by omega]
    exact xTkN_now n _ (m + 1) (xTk1_now hm)
theorem xInv.tkN : ∀ (n : Nat) {S : zst} {N m : Nat}, xInv N S → S 203 0 0 = nI m → m + n ≤ 100000 → xInv (N + 2640 * n) (xTkN n S)
  | 0, _, _, _, I, _, _ => I
  | n + 1, S, N, m, I, hm, hb => by
    rw [show N + 2640 * (n + 1) = (N + 2640) + 2640 * n by omega]
    exact xInv.tkN n (I.tk1 hm (by omega)) (xTk1_now hm) (by omega)
/-- what a tick answers, told one by one -/
theorem rTick_eq {S : zst} {N m j : Nat} (I : xInv N S) (hm : S 203 0 0 = nI m) (h : m + j ≤ 100000) (hj : j ≤ 1000) : rTick S (nI j) = xV (nI (m + j)) (xTkN j S) := by
  have h1 : xW (nI j) 0 1000 := ⟨nI_pos (by omega), nI_nlt (a := 1000) (b := j) hj (by omega)⟩
  have h2 : nI (m + j) ≤ 100000 := nI_le (a := m + j) (b := 100000) h (by omega)
  unfold rTick
  rw [if_pos h1, hm, nI_add, if_pos h2, nI_clamp (by omega), xTickL_eq j S m j hm (by omega) h, xTkN_now j S m hm]
