/-! A QUARREL OF THE MODEL IS HALVED -/
theorem Rel.told0 {S : zst} {M : mst} {t p : Nat} {v : Int32} (ht : t < 6) (hp : p < 20) (R : Rel S M) : Rel (zu3 (zu3 S 608 t p 1) 610 t p v) (mu (mu M 42 (2 * (20 * t + p) + 1) 1) 41 (2 * (20 * t + p) + 1) v) := by
  obtain ⟨r1, r2, r3, r4, r5, r6, r7⟩ := R
  have P := r6 t ht p hp
  refine ⟨r1.c (fun f hf => by (unfold rFA at hf; rw [zu3_r _ (by omega), zu3_r _ (by omega)])) (fun k hk => by (unfold rKA at hk; rw [mu_n _ (by omega), mu_n _ (by omega)])), r2.c (fun f hf => by (unfold rFH at hf; rw [zu3_r _ (by omega), zu3_r _ (by omega)])) (fun k hk => by (unfold rKH at hk; rw [mu_n _ (by omega), mu_n _ (by omega)])), r3.c (fun f hf => by (unfold rFT at hf; rw [zu3_r _ (by omega), zu3_r _ (by omega)])) (fun k hk => by (unfold rKT at hk; rw [mu_n _ (by omega), mu_n _ (by omega)])), r4.c (fun f hf => by (unfold rFC at hf; rw [zu3_r _ (by omega), zu3_r _ (by omega)])) (fun k hk => by (unfold rKC at hk; rw [mu_n _ (by omega), mu_n _ (by omega)])), r5.c (fun f hf => by (unfold rFX at hf; rw [zu3_r _ (by omega), zu3_r _ (by omega)])) (fun k hk => by (unfold rKX at hk; rw [mu_n _ (by omega), mu_n _ (by omega)])), ?_, r7.c (fun f hf => by (unfold rFB at hf; rw [zu3_r _ (by omega), zu3_r _ (by omega)])) (fun k hk => by (unfold rKB at hk; rw [mu_n _ (by omega), mu_n _ (by omega)]))⟩
  refine r6.up ht hp (fun f u q hf e => ?_) (fun k x hk1 hk2 hx => ?_) (fun k x hk h1 h2 => ?_) ?_
  · rw [zu3_a, if_neg (fun z => e z.2), zu3_a, if_neg (fun z => e z.2)]
  · unfold rKQ at hk2
    rw [mu_n _ (by omega), mu_n _ (by omega)]
  · rw [mu_a, if_neg (fun z => h2 z.2), mu_a, if_neg (fun z => h2 z.2)]
  · have ne : ∀ y : Nat, (2 * y = 2 * y + 1) = False := fun y => eq_false (by omega)
    simp only [RelPc, Nat.add_zero] at P
    simp only [RelPc, Nat.add_zero, zu3_a, mu_a _ 41, mu_a _ 42, Nat.reduceEqDiff, ne, and_self, true_and, false_and, and_true, and_false, if_true, if_false, ↓reduceIte]
    grind
theorem Rel.told1 {S : zst} {M : mst} {t p : Nat} {v : Int32} (ht : t < 6) (hp : p < 20) (R : Rel S M) : Rel (zu3 (zu3 S 607 t p 1) 609 t p v) (mu (mu M 42 (2 * (20 * t + p)) 1) 41 (2 * (20 * t + p)) v) := by
  obtain ⟨r1, r2, r3, r4, r5, r6, r7⟩ := R
  have P := r6 t ht p hp
  refine ⟨r1.c (fun f hf => by (unfold rFA at hf; rw [zu3_r _ (by omega), zu3_r _ (by omega)])) (fun k hk => by (unfold rKA at hk; rw [mu_n _ (by omega), mu_n _ (by omega)])), r2.c (fun f hf => by (unfold rFH at hf; rw [zu3_r _ (by omega), zu3_r _ (by omega)])) (fun k hk => by (unfold rKH at hk; rw [mu_n _ (by omega), mu_n _ (by omega)])), r3.c (fun f hf => by (unfold rFT at hf; rw [zu3_r _ (by omega), zu3_r _ (by omega)])) (fun k hk => by (unfold rKT at hk; rw [mu_n _ (by omega), mu_n _ (by omega)])), r4.c (fun f hf => by (unfold rFC at hf; rw [zu3_r _ (by omega), zu3_r _ (by omega)])) (fun k hk => by (unfold rKC at hk; rw [mu_n _ (by omega), mu_n _ (by omega)])), r5.c (fun f hf => by (unfold rFX at hf; rw [zu3_r _ (by omega), zu3_r _ (by omega)])) (fun k hk => by (unfold rKX at hk; rw [mu_n _ (by omega), mu_n _ (by omega)])), ?_, r7.c (fun f hf => by (unfold rFB at hf; rw [zu3_r _ (by omega), zu3_r _ (by omega)])) (fun k hk => by (unfold rKB at hk; rw [mu_n _ (by omega), mu_n _ (by omega)]))⟩
  refine r6.up ht hp (fun f u q hf e => ?_) (fun k x hk1 hk2 hx => ?_) (fun k x hk h1 h2 => ?_) ?_
  · rw [zu3_a, if_neg (fun z => e z.2), zu3_a, if_neg (fun z => e z.2)]
  · unfold rKQ at hk2
    rw [mu_n _ (by omega), mu_n _ (by omega)]
  · rw [mu_a, if_neg (fun z => h1 z.2), mu_a, if_neg (fun z => h1 z.2)]
  · have ne : ∀ y : Nat, (2 * y + 1 = 2 * y) = False := fun y => eq_false (by omega)
    simp only [RelPc, Nat.add_zero] at P
    simp only [RelPc, Nat.add_zero, zu3_a, mu_a _ 41, mu_a _ 42, Nat.reduceEqDiff, ne, and_self, true_and, false_and, and_true, and_false, if_true, if_false, ↓reduceIte]
    grind
theorem Rel.halve0 {S : zst} {M : mst} {t p : Nat} {u v : Int32} (ht : t < 6) (hp : p < 20) (R : Rel S M) : Rel (zu3 (zu3 S 601 t p u) 602 t p v) (mu (mu M 37 (20 * t + p) u) 38 (20 * t + p) v) := by
  obtain ⟨r1, r2, r3, r4, r5, r6, r7⟩ := R
  have P := r6 t ht p hp
  refine ⟨r1.c (fun f hf => by (unfold rFA at hf; rw [zu3_r _ (by omega), zu3_r _ (by omega)])) (fun k hk => by (unfold rKA at hk; rw [mu_n _ (by omega), mu_n _ (by omega)])), r2.c (fun f hf => by (unfold rFH at hf; rw [zu3_r _ (by omega), zu3_r _ (by omega)])) (fun k hk => by (unfold rKH at hk; rw [mu_n _ (by omega), mu_n _ (by omega)])), r3.c (fun f hf => by (unfold rFT at hf; rw [zu3_r _ (by omega), zu3_r _ (by omega)])) (fun k hk => by (unfold rKT at hk; rw [mu_n _ (by omega), mu_n _ (by omega)])), r4.c (fun f hf => by (unfold rFC at hf; rw [zu3_r _ (by omega), zu3_r _ (by omega)])) (fun k hk => by (unfold rKC at hk; rw [mu_n _ (by omega), mu_n _ (by omega)])), r5.c (fun f hf => by (unfold rFX at hf; rw [zu3_r _ (by omega), zu3_r _ (by omega)])) (fun k hk => by (unfold rKX at hk; rw [mu_n _ (by omega), mu_n _ (by omega)])), ?_, r7.c (fun f hf => by (unfold rFB at hf; rw [zu3_r _ (by omega), zu3_r _ (by omega)])) (fun k hk => by (unfold rKB at hk; rw [mu_n _ (by omega), mu_n _ (by omega)]))⟩
  refine r6.up ht hp (fun f u q hf e => ?_) (fun k x hk1 hk2 hx => ?_) (fun k x hk h1 h2 => ?_) ?_
  · rw [zu3_a, if_neg (fun z => e z.2), zu3_a, if_neg (fun z => e z.2)]
  · rw [mu_a, if_neg (fun z => hx z.2), mu_a, if_neg (fun z => hx z.2)]
  · unfold rKQ at hk
    rw [mu_n _ (by omega), mu_n _ (by omega)]
  · simp only [RelPc, Nat.add_zero] at P
    simp only [RelPc, Nat.add_zero, zu3_a, mu_a _ 37, mu_a _ 38, Nat.reduceEqDiff, and_self, true_and, false_and, and_true, and_false, if_true, if_false, ↓reduceIte]
    grind
theorem Rel.halve1 {S : zst} {M : mst} {t p : Nat} {u v w : Int32} (ht : t < 6) (hp : p < 20) (R : Rel S M) : Rel (zu3 (zu3 (zu3 S 603 t p u) 604 t p v) 605 t p w) (mu (mu (mu M 39 (20 * t + p) u) 40 (2 * (20 * t + p)) v) 40 (2 * (20 * t + p) + 1) w) := by
  obtain ⟨r1, r2, r3, r4, r5, r6, r7⟩ := R
  have P := r6 t ht p hp
  refine ⟨r1.c (fun f hf => by (unfold rFA at hf; rw [zu3_r _ (by omega), zu3_r _ (by omega), zu3_r _ (by omega)])) (fun k hk => by (unfold rKA at hk; rw [mu_n _ (by omega), mu_n _ (by omega), mu_n _ (by omega)])), r2.c (fun f hf => by (unfold rFH at hf; rw [zu3_r _ (by omega), zu3_r _ (by omega), zu3_r _ (by omega)])) (fun k hk => by (unfold rKH at hk; rw [mu_n _ (by omega), mu_n _ (by omega), mu_n _ (by omega)])), r3.c (fun f hf => by (unfold rFT at hf; rw [zu3_r _ (by omega), zu3_r _ (by omega), zu3_r _ (by omega)])) (fun k hk => by (unfold rKT at hk; rw [mu_n _ (by omega), mu_n _ (by omega), mu_n _ (by omega)])), r4.c (fun f hf => by (unfold rFC at hf; rw [zu3_r _ (by omega), zu3_r _ (by omega), zu3_r _ (by omega)])) (fun k hk => by (unfold rKC at hk; rw [mu_n _ (by omega), mu_n _ (by omega), mu_n _ (by omega)])), r5.c (fun f hf => by (unfold rFX at hf; rw [zu3_r _ (by omega), zu3_r _ (by omega), zu3_r _ (by omega)])) (fun k hk => by (unfold rKX at hk; rw [mu_n _ (by omega), mu_n _ (by omega), mu_n _ (by omega)])), ?_, r7.c (fun f hf => by (unfold rFB at hf; rw [zu3_r _ (by omega), zu3_r _ (by omega), zu3_r _ (by omega)])) (fun k hk => by (unfold rKB at hk; rw [mu_n _ (by omega), mu_n _ (by omega), mu_n _ (by omega)]))⟩
  refine r6.up ht hp (fun f u q hf e => ?_) (fun k x hk1 hk2 hx => ?_) (fun k x hk h1 h2 => ?_) ?_
  · rw [zu3_a, if_neg (fun z => e z.2), zu3_a, if_neg (fun z => e z.2), zu3_a, if_neg (fun z => e z.2)]
  · unfold rKQ at hk2
    rw [mu_n _ (by omega), mu_n _ (by omega), mu_a, if_neg (fun z => hx z.2)]
  · unfold rKQ at hk
    rw [mu_a, if_neg (fun z => h2 z.2), mu_a, if_neg (fun z => h1 z.2), mu_n _ (by omega)]
  · have ne : ∀ y : Nat, (2 * y = 2 * y + 1) = False := fun y => eq_false (by omega)
    have ne2 : ∀ y : Nat, (2 * y + 1 = 2 * y) = False := fun y => eq_false (by omega)
    simp only [RelPc, Nat.add_zero] at P
    simp only [RelPc, Nat.add_zero, zu3_a, mu_a _ 39, mu_a _ 40, Nat.reduceEqDiff, ne, ne2, and_self, true_and, false_and, and_true, and_false, if_true, if_false, ↓reduceIte]
    grind
