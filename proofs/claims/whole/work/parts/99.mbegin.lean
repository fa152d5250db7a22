/-! A QUARREL OF THE MODEL BEGINS -/
def mBegin (M : mst) (x : Nat) (z f0 ah l0 c v : Int32) : mst := mu (mu (mu (mu (mu (mu (mu M 30 x 3) 36 x z) 37 x f0) 38 x ah) 39 x l0) 40 (2 * x) c) 40 (2 * x + 1) v
theorem Rel.begin {S : zst} {M : mst} {t p : Nat} {z v : Int32} (ht : t < 6) (hp : p < 20) (hh : xHas S t p) (h2 : S 504 t p = 2) (R : Rel S M) : Rel (xBegin S t p z v) (mAsks (mBegin M (20 * t + p) z (S 509 t p) (xAhead S t p) (S 510 t p) (S 511 t p) v) (20 * t + p)) := by
  obtain ⟨r1, r2, r3, r4, r5, r6, r7⟩ := R
  have P := r6 t ht p hp
  have et : M 1025 0 = S 203 0 0 := r1.2.2.2.2.1
  have e1 : mBegin M (20 * t + p) z (S 509 t p) (xAhead S t p) (S 510 t p) (S 511 t p) v 1025 0 = S 203 0 0 := by
    unfold mBegin
    rw [mu_n _ (by omega), mu_n _ (by omega), mu_n _ (by omega), mu_n _ (by omega), mu_n _ (by omega), mu_n _ (by omega), mu_n _ (by omega)]
    exact et
  unfold xBegin mAsks
  rw [if_pos hh, e1]
  unfold mBegin
  generalize xAhead S t p = ah at *
  refine ⟨r1.c (fun f hf => by (unfold rFA at hf; rw [zu3_r _ (by omega), zu3_r _ (by omega), zu3_r _ (by omega), zu3_r _ (by omega), zu3_r _ (by omega), zu3_r _ (by omega), zu3_r _ (by omega), zu3_r _ (by omega), zu3_r _ (by omega), zu3_r _ (by omega)])) (fun k hk => by (unfold rKA at hk; rw [mu_n _ (by omega), mu_n _ (by omega), mu_n _ (by omega), mu_n _ (by omega), mu_n _ (by omega), mu_n _ (by omega), mu_n _ (by omega), mu_n _ (by omega), mu_n _ (by omega), mu_n _ (by omega)])), r2.c (fun f hf => by (unfold rFH at hf; rw [zu3_r _ (by omega), zu3_r _ (by omega), zu3_r _ (by omega), zu3_r _ (by omega), zu3_r _ (by omega), zu3_r _ (by omega), zu3_r _ (by omega), zu3_r _ (by omega), zu3_r _ (by omega), zu3_r _ (by omega)])) (fun k hk => by (unfold rKH at hk; rw [mu_n _ (by omega), mu_n _ (by omega), mu_n _ (by omega), mu_n _ (by omega), mu_n _ (by omega), mu_n _ (by omega), mu_n _ (by omega), mu_n _ (by omega), mu_n _ (by omega), mu_n _ (by omega)])), r3.c (fun f hf => by (unfold rFT at hf; rw [zu3_r _ (by omega), zu3_r _ (by omega), zu3_r _ (by omega), zu3_r _ (by omega), zu3_r _ (by omega), zu3_r _ (by omega), zu3_r _ (by omega), zu3_r _ (by omega), zu3_r _ (by omega), zu3_r _ (by omega)])) (fun k hk => by (unfold rKT at hk; rw [mu_n _ (by omega), mu_n _ (by omega), mu_n _ (by omega), mu_n _ (by omega), mu_n _ (by omega), mu_n _ (by omega), mu_n _ (by omega), mu_n _ (by omega), mu_n _ (by omega), mu_n _ (by omega)])), r4.c (fun f hf => by (unfold rFC at hf; rw [zu3_r _ (by omega), zu3_r _ (by omega), zu3_r _ (by omega), zu3_r _ (by omega), zu3_r _ (by omega), zu3_r _ (by omega), zu3_r _ (by omega), zu3_r _ (by omega), zu3_r _ (by omega), zu3_r _ (by omega)])) (fun k hk => by (unfold rKC at hk; rw [mu_n _ (by omega), mu_n _ (by omega), mu_n _ (by omega), mu_n _ (by omega), mu_n _ (by omega), mu_n _ (by omega), mu_n _ (by omega), mu_n _ (by omega), mu_n _ (by omega), mu_n _ (by omega)])), r5.c (fun f hf => by (unfold rFX at hf; rw [zu3_r _ (by omega), zu3_r _ (by omega), zu3_r _ (by omega), zu3_r _ (by omega), zu3_r _ (by omega), zu3_r _ (by omega), zu3_r _ (by omega), zu3_r _ (by omega), zu3_r _ (by omega), zu3_r _ (by omega)])) (fun k hk => by (unfold rKX at hk; rw [mu_n _ (by omega), mu_n _ (by omega), mu_n _ (by omega), mu_n _ (by omega), mu_n _ (by omega), mu_n _ (by omega), mu_n _ (by omega), mu_n _ (by omega), mu_n _ (by omega), mu_n _ (by omega)])), ?_, r7.c (fun f hf => by (unfold rFB at hf; rw [zu3_r _ (by omega), zu3_r _ (by omega), zu3_r _ (by omega), zu3_r _ (by omega), zu3_r _ (by omega), zu3_r _ (by omega), zu3_r _ (by omega), zu3_r _ (by omega), zu3_r _ (by omega), zu3_r _ (by omega)])) (fun k hk => by (unfold rKB at hk; rw [mu_n _ (by omega), mu_n _ (by omega), mu_n _ (by omega), mu_n _ (by omega), mu_n _ (by omega), mu_n _ (by omega), mu_n _ (by omega), mu_n _ (by omega), mu_n _ (by omega), mu_n _ (by omega)]))⟩
  refine r6.up ht hp (fun f u q hf e => ?_) (fun k x hk1 hk2 hx => ?_) (fun k x hk h1 h2 => ?_) ?_
  · have ne : ∀ g : Nat, ¬ (f = g ∧ u = t ∧ q = p) := fun g y => e y.2
    simp only [zu3_a, ne, if_false]
  · unfold rKQ at hk2
    have ne : ∀ j : Nat, ¬ (k = j ∧ x = 20 * t + p) := fun j y => hx y.2
    rw [mu_a, if_neg (ne _), mu_n _ (by omega), mu_n _ (by omega), mu_n _ (by omega), mu_n _ (by omega), mu_a, if_neg (ne _), mu_a, if_neg (ne _), mu_a, if_neg (ne _), mu_a, if_neg (ne _), mu_a, if_neg (ne _)]
  · have n1 : ∀ j : Nat, ¬ (k = j ∧ x = 2 * (20 * t + p)) := fun j y => h1 y.2
    have n2 : ∀ j : Nat, ¬ (k = j ∧ x = 2 * (20 * t + p) + 1) := fun j y => h2 y.2
    unfold rKQ at hk
    rw [mu_n _ (by omega), mu_a, if_neg (n2 _), mu_a, if_neg (n1 _), mu_a, if_neg (n2 _), mu_a, if_neg (n1 _), mu_n _ (by omega), mu_n _ (by omega), mu_n _ (by omega), mu_n _ (by omega), mu_n _ (by omega)]
  · have ne : ∀ y : Nat, (2 * y = 2 * y + 1) = False := fun y => eq_false (by omega)
    have ne2 : ∀ y : Nat, (2 * y + 1 = 2 * y) = False := fun y => eq_false (by omega)
    simp only [RelPc, h2, Nat.add_zero] at P
    simp only [RelPc, Nat.add_zero, zu3_a, mu_a _ 34, mu_a _ 42, mu_a _ 40, mu_a _ 39, mu_a _ 38, mu_a _ 37, mu_a _ 36, mu_a _ 30, Nat.reduceEqDiff, ne, ne2, and_self, true_and, false_and, and_true, and_false, if_true, if_false, ↓reduceIte]
    grind
