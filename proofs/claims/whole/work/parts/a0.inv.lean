/-! WHAT HOLDS OF EVERY STATE, and what the quarrels leave as it is -/
def zPI0 (S : zst) (t p : Nat) : Prop :=
  (∃ s : Nat, s ≤ 5 ∧ S 504 t p = nI s) ∧ (¬ (nI t < S 904 0 0 ∧ xHas S t p) → S 504 t p = 0) ∧ (S 504 t p = 0 → S 505 t p = -1) ∧ (S 504 t p = 0 ∨ S 504 t p = 1 → S 511 t p = 0) ∧ (¬ S 504 t p = 0 → xIn (S 505 t p)) ∧ (S 504 t p = 3 → xIn (S 600 t p)) ∧
  (∃ n, n ≤ 1000000 ∧ S 507 t p = nI n) ∧ (∃ n, n ≤ 1000000 ∧ S 508 t p = nI n) ∧ (∃ n, n ≤ 1000000 ∧ S 512 t p = nI n) ∧ (∃ n, n ≤ 1000000 ∧ S 606 t p = nI n) ∧
  xSt (S 509 t p) ∧ xSt (S 510 t p) ∧ xSt (S 601 t p) ∧ xSt (S 603 t p) ∧ xBo (S 607 t p) ∧ xBo (S 608 t p)
def zNI (S : zst) (t p : Nat) : Prop := S 504 t p = 3 → 1 < S 603 t p - S 601 t p
def zPI (S : zst) (t p : Nat) : Prop := zPI0 S t p ∧ zNI S t p
def zPQ (f : Nat) : Prop := f = 904 ∨ f = 808 ∨ f = 600 ∨ f = 603 ∨ f = 601 ∨ f = 507 ∨ f = 508 ∨ f = 512 ∨ f = 606 ∨ f = 509 ∨ f = 510 ∨ f = 607 ∨ f = 608
theorem zPI0.up {S S2 : zst} {t p : Nat} (I : zPI0 S t p) (hf : ∀ f, zPQ f → S2 f = S f) (h : (S2 504 t p = S 504 t p ∧ S2 505 t p = S 505 t p ∧ S2 511 t p = S 511 t p) ∨ (S2 504 t p = 0 ∧ S2 505 t p = -1 ∧ S2 511 t p = 0) ∨ (¬ S 504 t p = 0 ∧ (S2 504 t p = 4 ∨ S2 504 t p = 5) ∧ S2 505 t p = S 505 t p)) : zPI0 S2 t p := by
  have f1 := hf 904 (by unfold zPQ; omega)
  have f2 := hf 808 (by unfold zPQ; omega)
  have f3 := hf 600 (by unfold zPQ; omega)
  have f4 := hf 603 (by unfold zPQ; omega)
  have f5 := hf 601 (by unfold zPQ; omega)
  have f6 := hf 507 (by unfold zPQ; omega)
  have f7 := hf 508 (by unfold zPQ; omega)
  have f8 := hf 512 (by unfold zPQ; omega)
  have f9 := hf 606 (by unfold zPQ; omega)
  have f10 := hf 509 (by unfold zPQ; omega)
  have f11 := hf 510 (by unfold zPQ; omega)
  have f12 := hf 607 (by unfold zPQ; omega)
  have f13 := hf 608 (by unfold zPQ; omega)
  unfold zPI0 xHas at *
  rw [f1, f2, f3, f4, f5, f6, f7, f8, f9, f10, f11, f12, f13]
  obtain ⟨i1, i2, i3, i4, i5, i6, i8⟩ := I
  rcases h with ⟨h1, h2, h3⟩ | ⟨h1, h2, h3⟩ | ⟨h0, h1, h2⟩
  · rw [h1, h2, h3]
    exact ⟨i1, i2, i3, i4, i5, i6, i8⟩
  · rw [h1, h2, h3]
    exact ⟨⟨0, by omega, nI_0.symm⟩, fun _ => rfl, fun _ => rfl, fun _ => rfl, fun z => absurd rfl z, fun z => absurd z (by decide), i8⟩
  · have n0 : ¬ S2 504 t p = 0 := by rcases h1 with h1 | h1 <;> rw [h1] <;> decide
    have n1 : ¬ S2 504 t p = 1 := by rcases h1 with h1 | h1 <;> rw [h1] <;> decide
    have n3 : ¬ S2 504 t p = 3 := by rcases h1 with h1 | h1 <;> rw [h1] <;> decide
    rw [h2]
    refine ⟨?_, fun z => absurd (i2 z) h0, fun z => absurd z n0, fun z => z.elim (fun z => absurd z n0) (fun z => absurd z n1), fun _ => i5 h0, fun z => absurd z n3, i8⟩
    rcases h1 with h1 | h1
    · exact ⟨4, by omega, h1⟩
    · exact ⟨5, by omega, h1⟩
def zChg (f : Nat) : Prop := f = 300 ∨ f = 301 ∨ f = 302 ∨ f = 204 ∨ f = 807 ∨ f = 504 ∨ f = 505 ∨ f = 511 ∨ f = 513
def xKp (c : Nat) (S S2 : zst) : Prop := (∀ f, ¬ zChg f → S2 f = S f) ∧ (∀ t, t < 6 → ∀ p, p < 20 → zPI0 S t p → zPI0 S2 t p) ∧ (∀ t p, S2 504 t p = 3 → S 504 t p = 3) ∧ ∀ N, xFw S N → xFw S2 (N + c)
theorem xFw.mono {S : zst} {N K : Nat} (F : xFw S N) (h : N ≤ K) : xFw S K := by
  intro z hz
  obtain ⟨a, b, h1, h2, h3⟩ := F z hz
  exact ⟨a, b, h1, h2, by omega⟩
theorem xKp.rf (S : zst) : xKp 0 S S := ⟨fun _ _ => rfl, fun _ _ _ _ I => I, fun _ _ q => q, fun _ F => F⟩
theorem xKp.tr {a b : Nat} {S S2 S3 : zst} (h1 : xKp a S S2) (h2 : xKp b S2 S3) : xKp (a + b) S S3 := ⟨fun f hf => (h2.1 f hf).trans (h1.1 f hf), fun t ht p hp I => h2.2.1 t ht p hp (h1.2.1 t ht p hp I), fun t p q => h1.2.2.1 t p (h2.2.2.1 t p q), fun N F => by
  have := h2.2.2.2 _ (h1.2.2.2 N F)
  rw [Nat.add_assoc] at this
  exact this⟩
theorem xKp.le {a b : Nat} {S S2 : zst} (h1 : xKp a S S2) (h : a ≤ b) : xKp b S S2 := ⟨h1.1, h1.2.1, h1.2.2.1, fun N F => (h1.2.2.2 N F).mono (by omega)⟩
theorem zChg_q {f : Nat} (h : zPQ f) : ¬ zChg f := by unfold zPQ at h; unfold zChg; omega
/-- coins alone move -/
theorem xKp.coin {S : zst} {f i k : Nat} {v : Int32} (hf : f = 300 ∨ f = 204 ∨ f = 807) : xKp 0 S (zu3 S f i k v) := by
  refine ⟨fun g hg => zu3_r _ (fun e => hg (by unfold zChg; omega)), fun t ht p hp I => I.up (fun g hg => zu3_r _ (by unfold zPQ at hg; omega)) (Or.inl ⟨zu3_n _ (by omega), zu3_n _ (by omega), zu3_n _ (by omega)⟩), fun t p q => by rwa [zu3_n _ (by omega)] at q, fun N F z hz => ?_⟩
  rw [zu3_n _ (by omega), zu3_n _ (by omega)]
  exact F z hz
theorem xKp.pay {S : zst} {x v : Int32} : xKp 0 S (xPay S x v) := by
  unfold xPay
  split
  · exact xKp.coin (Or.inl rfl)
  · exact xKp.rf S
theorem xKp.lie {S : zst} {x : Int32} : xKp 1 S (xLie S x) := by
  refine ⟨fun g hg => xLie_r (fun e => hg (by unfold zChg; omega)), fun t ht p hp I => I.up (fun g hg => xLie_r (by unfold zPQ at hg; omega)) (Or.inl ⟨by rw [xLie_r (by decide)], by rw [xLie_r (by decide)], by rw [xLie_r (by decide)]⟩), fun t p q => by rwa [xLie_r (by decide)] at q, fun N F z hz => ?_⟩
  obtain ⟨a, b, h1, h2, h3⟩ := F z hz
  unfold xLie
  split
  · rw [zu3_n _ (by decide), zu3_a]
    by_cases e : z = x.toNatClampNeg
    · rw [if_pos ⟨rfl, e, rfl⟩, ← e, h2, nI_1]
      exact ⟨a, b + 1, h1, rfl, by omega⟩
    · rw [if_neg (fun u => e u.2.1)]
      exact ⟨a, b, h1, h2, by omega⟩
  · exact ⟨a, b, h1, h2, by omega⟩
theorem xKp.kept {S : zst} {x : Int32} : xKp 1 S (xKept S x) := by
  refine ⟨fun g hg => xKept_r (fun e => hg (by unfold zChg; omega)), fun t ht p hp I => I.up (fun g hg => xKept_r (by unfold zPQ at hg; omega)) (Or.inl ⟨by rw [xKept_r (by decide)], by rw [xKept_r (by decide)], by rw [xKept_r (by decide)]⟩), fun t p q => by rwa [xKept_r (by decide)] at q, fun N F z hz => ?_⟩
  obtain ⟨a, b, h1, h2, h3⟩ := F z hz
  unfold xKept
  split
  · rw [zu3_n _ (g := 302) (by decide), zu3_a]
    by_cases e : z = x.toNatClampNeg
    · rw [if_pos ⟨rfl, e, rfl⟩, ← e, h1, nI_1]
      exact ⟨a + 1, b, rfl, h2, by omega⟩
    · rw [if_neg (fun u => e u.2.1)]
      exact ⟨a, b, h1, h2, by omega⟩
  · exact ⟨a, b, h1, h2, by omega⟩
theorem xKp.st {S : zst} {t p : Nat} {v : Int32} (h0 : ¬ S 504 t p = 0) (hv : v = 4 ∨ v = 5) : xKp 0 S (zu3 S 504 t p v) := by
  refine ⟨fun g hg => zu3_r _ (fun e => hg (by unfold zChg; omega)), fun u hu q hq I => I.up (fun g hg => zu3_r _ (by unfold zPQ at hg; omega)) ?_, fun u q w => ?_, fun N F z hz => ?_⟩
  · rw [zu3_n _ (g := 505) (by decide), zu3_n _ (g := 511) (by decide), zu3_a]
    by_cases e : u = t ∧ q = p
    · obtain ⟨rfl, rfl⟩ := e
      rw [if_pos ⟨rfl, rfl, rfl⟩]
      exact Or.inr (Or.inr ⟨h0, hv, rfl⟩)
    · rw [if_neg (fun z => e z.2)]
      exact Or.inl ⟨rfl, rfl, rfl⟩
  · rw [zu3_a] at w
    by_cases e : u = t ∧ q = p
    · rw [if_pos ⟨rfl, e⟩] at w
      rcases hv with rfl | rfl
      · exact absurd w (by decide)
      · exact absurd w (by decide)
    · rw [if_neg (fun z => e z.2)] at w
      exact w
  · rw [zu3_n _ (by decide), zu3_n _ (by decide)]
    exact F z hz
theorem xKp.reopen {S : zst} {t p : Nat} : xKp 0 S (xReopen S t p) := by
  unfold xReopen
  refine ⟨fun g hg => ?_, fun u hu q hq I => I.up (fun g hg => ?_) ?_, fun u q w => ?_, fun N F z hz => ?_⟩
  · unfold zChg at hg
    rw [zu3_r _ (by omega), zu3_r _ (by omega), zu3_r _ (by omega), zu3_r _ (by omega), zu3_r _ (by omega)]
  · unfold zPQ at hg
    rw [zu3_r _ (by omega), zu3_r _ (by omega), zu3_r _ (by omega), zu3_r _ (by omega), zu3_r _ (by omega)]
  · by_cases e : u = t ∧ q = p
    · obtain ⟨rfl, rfl⟩ := e
      refine Or.inr (Or.inl ?_)
      simp only [zu3_a, Nat.reduceEqDiff, false_and, and_self, if_true, if_false]
    · refine Or.inl ?_
      simp only [zu3_a, Nat.reduceEqDiff, false_and, true_and, e, if_false, and_self]
  · by_cases e : u = t ∧ q = p
    · obtain ⟨rfl, rfl⟩ := e
      simp only [zu3_a, Nat.reduceEqDiff, false_and, and_self, if_true, if_false] at w
      exact absurd w (by decide)
    · simp only [zu3_a, Nat.reduceEqDiff, false_and, true_and, e, if_false] at w
      exact w
  · simp only [zu3_a, Nat.reduceEqDiff, false_and, if_false]
    exact F z hz
theorem xKp.reward {S : zst} {x v : Int32} : xKp 0 S (xReward S x v) := by
  unfold xReward
  exact xKp.pay.tr (xKp.coin (Or.inr (Or.inl rfl)))
theorem xKp.keep {S : zst} {t p : Nat} (h0 : ¬ S 504 t p = 0) : xKp 1 S (xKeep S t p) := by
  unfold xKeep
  exact (((xKp.st h0 (Or.inl rfl)).tr xKp.pay).tr xKp.kept).le (by omega)
theorem xKp.stayL {t : Nat} : ∀ (f k : Nat) (S : zst), xKp f S (xStayL t f k S)
  | 0, _, S => xKp.rf S
  | f + 1, k, S => by
    unfold xStayL
    split
    · rename_i q
      exact ((xKp.keep (by rw [q.2]; decide)).tr (xKp.stayL f (k + 1) _)).le (by omega)
    · exact (xKp.rf S).le (by omega)
theorem xKp.stay {S : zst} {t p : Nat} (h0 : ¬ S 504 t p = 0) : xKp 20 S (xStay S t p) := by
  unfold xStay
  split
  · split
    · exact (xKp.st h0 (Or.inr rfl)).le (by omega)
    · exact ((xKp.st h0 (Or.inr rfl)).tr (xKp.stayL _ _ _)).le (by omega)
  · exact (xKp.rf S).le (by omega)
theorem xKp.ret {S : zst} {t p : Nat} : xKp 0 S (xRet S t p) := by
  have h : xKp 0 S (xRet1 S t p) := by
    unfold xRet1
    split
    · exact xKp.pay
    · exact xKp.rf S
  unfold xRet
  split
  · exact h.tr xKp.pay
  · exact h
theorem xKp.voidL {t : Nat} : ∀ (f k : Nat) (S : zst), xKp 0 S (xVoidL t f k S)
  | 0, _, S => xKp.rf S
  | f + 1, k, S => by
    unfold xVoidL
    split
    · exact (xKp.ret.tr xKp.reopen).tr (xKp.voidL f (k + 1) _)
    · exact xKp.rf S
theorem xKp.void {S : zst} {t p : Nat} : xKp 0 S (xVoid S t p) := by
  unfold xVoid
  split
  · exact xKp.reopen.tr (xKp.voidL _ _ _)
  · exact xKp.rf S
theorem xKp.set1 {S : zst} {t p : Nat} {a : Int32} : xKp 1 S (xSet1 S t p a) := by
  unfold xSet1
  split
  · exact xKp.lie
  · exact (xKp.rf S).le (by omega)
theorem xKp.set2 {S : zst} {t p : Nat} {a b : Int32} : xKp 2 S (xSet2 S t p a b) := by
  unfold xSet2
  split
  · exact xKp.set1.tr xKp.lie
  · exact xKp.set1.le (by omega)
theorem xKp.set3 {S : zst} {t p : Nat} {a b : Int32} : xKp 2 S (xSet3 S t p a b) := by
  unfold xSet3
  split
  · exact xKp.set2.tr (xKp.coin (Or.inr (Or.inl rfl)))
  · exact xKp.set2.tr xKp.reward
theorem xKp.settle {S : zst} {t p : Nat} {a b : Int32} (h0 : ¬ S 504 t p = 0) : xKp 22 S (xSettle S t p a b) := by
  unfold xSettle
  split
  · split
    · exact (xKp.set3.tr xKp.void).le (by omega)
    · refine ((xKp.set2.tr xKp.reward).tr (xKp.stay ?_)).le (by omega)
      unfold xReward
      rw [zu3_n _ (by decide), xPay_r (by decide), xSet2_r (by decide)]
      exact h0
  · exact (xKp.rf S).le (by omega)
theorem xKp.judge {S : zst} {t p : Nat} (h0 : ¬ S 504 t p = 0) : xKp 22 S (xJudge S t p) := by
  unfold xJudge
  split
  · exact xKp.settle h0
  · exact (xKp.rf S).le (by omega)
theorem xKp.lapse {S : zst} {t p : Nat} : xKp 22 S (xLapse S t p) := by
  unfold xLapse
  split
  · split
    · exact (((xKp.coin (Or.inr (Or.inl rfl))).tr xKp.lie).tr xKp.reopen).le (by omega)
    · split
      · rename_i q
        refine (xKp.pay.tr (xKp.stay ?_)).le (by omega)
        rw [xPay_r (by decide), q]
        decide
      · split
        · rename_i q
          exact xKp.settle (by rw [q]; decide)
        · exact (xKp.rf S).le (by omega)
  · exact (xKp.rf S).le (by omega)
theorem xKp.lapL {t : Nat} : ∀ (f p : Nat) (S : zst), xKp (22 * f) S (xLapL t f p S)
  | 0, _, S => xKp.rf S
  | f + 1, p, S => by
    unfold xLapL
    split
    · split
      · exact (xKp.lapL f (p + 1) S).le (by omega)
      · exact (xKp.lapse.tr (xKp.lapL f (p + 1) _)).le (by omega)
    · exact (xKp.rf S).le (by omega)
theorem xKp.lapT : ∀ (f t : Nat) (S : zst), xKp (440 * f) S (xLapT f t S)
  | 0, _, S => xKp.rf S
  | f + 1, t, S => by
    unfold xLapT
    split
    · exact ((xKp.lapL 20 0 S).tr (xKp.lapT f (t + 1) _)).le (by omega)
    · exact (xKp.rf S).le (by omega)
/-! THE WHOLE OF IT -/
def xSz (S : zst) : Prop := ∀ t, t < 6 → (∃ m, m ≤ 200 ∧ S 805 t 0 = nI m) ∧ (¬ nI t < S 904 0 0 → S 805 t 0 = 0)
def xGl (S : zst) : Prop := (∃ n, n ≤ 100000 ∧ S 203 0 0 = nI n) ∧ (∃ n, n ≤ 1000000 ∧ S 2001 0 0 = nI n) ∧ (∃ n, n ≤ 1000000 ∧ S 2001 0 1 = nI n) ∧ (∃ n, n ≤ 100 ∧ S 2001 0 2 = nI n)
def xBI (N : Nat) (S : zst) : Prop := (-(N : Int) ≤ (S 906 0 0).toInt) ∧ (¬ 24 < S 906 0 0) ∧ (∀ x, x < 120 → ∀ z, z < 8 → (∃ n, n ≤ 1000000 ∧ S 2006 x z = nI n) ∧ (∃ n, n ≤ 1000 ∧ S 2007 x z = nI n) ∧ (∃ n, n ≤ 1000000 ∧ S 2008 x z = nI n) ∧ (0 < S 2007 x z → nI z < S 905 0 0)) ∧ ∀ z, z < 8 → S 2010 0 z = 0 ∧ S 2011 0 z = 0
def xInv (N : Nat) (S : zst) : Prop := xCs S ∧ xWf S ∧ xSz S ∧ xGl S ∧ (∀ t, t < 6 → ∀ p, p < 20 → zPI S t p) ∧ xFL S ∧ xFw S N ∧ xBI N S
theorem xBI.mono {S : zst} {N K : Nat} (F : xBI N S) (h : N ≤ K) : xBI K S := ⟨by have := F.1; omega, F.2⟩
theorem xInv.mono {S : zst} {N K : Nat} (I : xInv N S) (h : N ≤ K) : xInv K S := ⟨I.1, I.2.1, I.2.2.1, I.2.2.2.1, I.2.2.2.2.1, I.2.2.2.2.2.1, I.2.2.2.2.2.2.1.mono h, I.2.2.2.2.2.2.2.mono h⟩
theorem xInv.hz {S : zst} {N : Nat} (I : xInv N S) : ∀ t, t < 6 → ∃ m, m ≤ 200 ∧ S 805 t 0 = nI m := fun t ht => (I.2.2.1 t ht).1
theorem xInv.oPI {S : zst} {N : Nat} (I : xInv N S) : xPI S := fun t ht p hp => ⟨(I.2.2.2.2.1 t ht p hp).1.2.2.1, (I.2.2.2.2.1 t ht p hp).1.2.2.2.1⟩
theorem xInv.oHI {S : zst} {N : Nat} (I : xInv N S) : xHI S := fun t ht p hp => ⟨(I.2.2.2.2.1 t ht p hp).1.1, (I.2.2.2.2.1 t ht p hp).1.2.1⟩
theorem xInv.oVI {S : zst} {N : Nat} (I : xInv N S) : xVI S := fun t ht p hp => ⟨(I.2.2.2.2.1 t ht p hp).1.2.2.2.2.1, (I.2.2.2.2.1 t ht p hp).1.2.2.2.2.2.1⟩
theorem xInv.oNI {S : zst} {N : Nat} (I : xInv N S) : xNI S := fun t ht p hp => (I.2.2.2.2.1 t ht p hp).2
theorem xInv.oTI {S : zst} {N : Nat} (I : xInv N S) : xTI S := ⟨I.2.2.2.1.1, I.2.2.2.1.2.1, I.2.2.2.1.2.2.1, I.2.2.2.1.2.2.2, fun t ht p hp => by
  obtain ⟨⟨-, -, -, -, -, -, a, b, c, d, -⟩, -⟩ := I.2.2.2.2.1 t ht p hp
  exact ⟨a, b, c, d⟩⟩
theorem xInv.oOK {S : zst} {N : Nat} (I : xInv N S) : xOK S := fun t p ht hp => by
  obtain ⟨⟨-, -, -, -, -, -, -, -, -, -, a⟩, -⟩ := I.2.2.2.2.1 t ht p hp
  exact a
/-- the same, but that the quarrel over one piece may be at its last step -/
def xInvE (N : Nat) (S : zst) (t p : Nat) : Prop := xCs S ∧ xWf S ∧ xSz S ∧ xGl S ∧ (∀ u, u < 6 → ∀ q, q < 20 → zPI0 S u q ∧ (¬ (u = t ∧ q = p) → zNI S u q)) ∧ xFL S ∧ xFw S N ∧ xBI N S
theorem xInv.e {S : zst} {N : Nat} (I : xInv N S) (t p : Nat) : xInvE N S t p := ⟨I.1, I.2.1, I.2.2.1, I.2.2.2.1, fun u hu q hq => ⟨(I.2.2.2.2.1 u hu q hq).1, fun _ => (I.2.2.2.2.1 u hu q hq).2⟩, I.2.2.2.2.2⟩
theorem xInvE.full {S : zst} {N t p : Nat} (I : xInvE N S t p) (h : t < 6 → p < 20 → zNI S t p) : xInv N S := ⟨I.1, I.2.1, I.2.2.1, I.2.2.2.1, fun u hu q hq => ⟨(I.2.2.2.2.1 u hu q hq).1, by
  by_cases e : u = t ∧ q = p
  · obtain ⟨rfl, rfl⟩ := e
    exact h hu hq
  · exact (I.2.2.2.2.1 u hu q hq).2 e⟩, I.2.2.2.2.2⟩
theorem xInvE.kp {S S2 : zst} {N c t p : Nat} (I : xInvE N S t p) (K : xKp c S S2) : xInvE (N + c) S2 t p := by
  obtain ⟨i1, i2, i3, i4, i5, i6, i7, i8⟩ := I
  obtain ⟨k1, k2, k4, k3⟩ := K
  have f1 := k1 904 (by unfold zChg; omega)
  have f2 := k1 905 (by unfold zChg; omega)
  have f3 := k1 808 (by unfold zChg; omega)
  have f4 := k1 701 (by unfold zChg; omega)
  have f5 := k1 805 (by unfold zChg; omega)
  have f6 := k1 2002 (by unfold zChg; omega)
  have f7 := k1 2003 (by unfold zChg; omega)
  have f8 := k1 203 (by unfold zChg; omega)
  have f9 := k1 2001 (by unfold zChg; omega)
  have f10 := k1 509 (by unfold zChg; omega)
  have f11 := k1 510 (by unfold zChg; omega)
  have f12 := k1 906 (by unfold zChg; omega)
  have f13 := k1 2006 (by unfold zChg; omega)
  have f14 := k1 2007 (by unfold zChg; omega)
  have f15 := k1 2008 (by unfold zChg; omega)
  have f16 := k1 2010 (by unfold zChg; omega)
  have f17 := k1 2011 (by unfold zChg; omega)
  have f18 := k1 601 (by unfold zChg; omega)
  have f19 := k1 603 (by unfold zChg; omega)
  refine ⟨i1.f f1 f2 f3 f4, i2.f f1 f5 f6 f7, ?_, ?_, fun u hu q hq => ⟨k2 u hu q hq (i5 u hu q hq).1, fun e z => by
    rw [f18, f19]
    exact (i5 u hu q hq).2 e (k4 u q z)⟩, ?_, k3 N i7, ?_⟩
  · unfold xSz
    rw [f1, f5]
    exact i3
  · unfold xGl
    rw [f8, f9]
    exact i4
  · unfold xFL xHas
    rw [f3, f10, f11]
    exact i6
  · have i8' := i8.mono (show N ≤ N + c by omega)
    unfold xBI at i8' ⊢
    rw [f12, f13, f14, f15, f2, f16, f17]
    exact i8'
theorem xInv.kp {S S2 : zst} {N c : Nat} (I : xInv N S) (K : xKp c S S2) : xInv (N + c) S2 := by
  refine ((I.e 0 0).kp K).full fun _ _ z => ?_
  rw [K.1 601 (by unfold zChg; omega), K.1 603 (by unfold zChg; omega)]
  exact (I.2.2.2.2.1 0 (by omega) 0 (by omega)).2 (K.2.2.1 0 0 z)
theorem xSettle_3 {S : zst} {t p : Nat} {a b : Int32} (hh : xHas S t p) : ¬ xSettle S t p a b 504 t p = 3 := by
  intro z
  unfold xSettle at z
  rw [if_pos hh] at z
  split at z
  · unfold xVoid at z
    split at z
    · have := (xKp.voidL _ _ _).2.2.1 _ _ z
      unfold xReopen at this
      simp only [zu3_a, Nat.reduceEqDiff, false_and, and_self, if_true, if_false] at this
      exact absurd this (by decide)
    · rename_i q
      refine q ?_
      unfold xHas xSet3
      split
      · rw [zu3_n _ (by decide), xSet2_r (by decide)]
        exact hh
      · unfold xReward
        rw [zu3_n _ (by decide), xPay_r (by decide), xSet2_r (by decide)]
        exact hh
  · unfold xStay at z
    split at z
    · split at z
      · rw [zu3_e] at z
        exact absurd z (by decide)
      · have := (xKp.stayL _ _ _).2.2.1 _ _ z
        rw [zu3_e] at this
        exact absurd this (by decide)
    · rename_i q
      refine q ?_
      unfold xHas xReward
      rw [zu3_n _ (by decide), xPay_r (by decide), xSet2_r (by decide)]
      exact hh
theorem xInvE.judge {S : zst} {N t p : Nat} (I : xInvE N S t p) (hh : xHas S t p) (h0 : ¬ S 504 t p = 0) : xInv (N + 22) (xJudge S t p) := by
  refine (I.kp (xKp.judge h0)).full fun _ _ => ?_
  unfold xJudge
  split
  · intro z
    exact absurd z (xSettle_3 hh)
  · rename_i q
    intro z
    unfold xNarrow at q
    exact Classical.not_not.mp fun w => q ⟨hh, w⟩
