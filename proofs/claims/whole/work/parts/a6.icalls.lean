/-! trial, bid, give -/
theorem xInv.fw {S S2 : zst} {N K : Nat} (I : xInv N S) (h : ∀ f, ¬ f = 301 → ¬ f = 302 → S2 f = S f) (hk : N ≤ K) (hw : xFw S2 K) : xInv K S2 := by
  obtain ⟨i1, i2, i3, i4, i5, i6, i7, i8⟩ := I
  have g : ∀ f, ¬ f / 100 = 3 → S2 f = S f := fun f hf => h f (by omega) (by omega)
  have i8 := i8.mono hk
  refine ⟨i1.f (g _ (by decide)) (g _ (by decide)) (g _ (by decide)) (g _ (by decide)), i2.f (g _ (by decide)) (g _ (by decide)) (g _ (by decide)) (g _ (by decide)), i3.f (g _ (by decide)) (g _ (by decide)), i4.f (g _ (by decide)) (g _ (by decide)), fun t ht p hp => ⟨(i5 t ht p hp).1.pt (g _ (by decide)) (g _ (by decide)) fun f hf => by rw [g f (by unfold rPz at hf; omega)], (i5 t ht p hp).2.pt fun f hf => by rw [g f (by unfold rPz at hf; omega)]⟩, i6.f (g _ (by decide)) (g _ (by decide)) (g _ (by decide)), hw, i8.f (g _ (by decide)) (g _ (by decide)) (g _ (by decide)) (g _ (by decide)) (g _ (by decide)) (g _ (by decide)) (g _ (by decide))⟩
theorem xInv.trial {S : zst} {N : Nat} {y x n v : Int32} (I : xInv N S) : xInv (N + 1) (rTrial S y x n v).2 := by
  have I1 : xInv (N + 1) S := I.mono (by omega)
  unfold rTrial
  split
  · split
    · split
      · split
        · show xInv (N + 1) (zu3 S 301 y.toNatClampNeg 0 (S 301 y.toNatClampNeg 0 + 1))
          refine I.fw (fun f h1 h2 => zu3_r _ h1) (by omega) fun z hz => ?_
          obtain ⟨a, b, h1, h2, h3⟩ := I.2.2.2.2.2.2.1 z hz
          rw [zu3_n _ (g := 302) (by decide), zu3_a]
          by_cases e : z = y.toNatClampNeg
          · rw [if_pos ⟨rfl, e, rfl⟩, ← e, h1, nI_1]
            exact ⟨a + 1, b, rfl, h2, by omega⟩
          · rw [if_neg (fun u => e u.2.1)]
            exact ⟨a, b, h1, h2, by omega⟩
        · show xInv (N + 1) (zu3 S 302 y.toNatClampNeg 0 (S 302 y.toNatClampNeg 0 + 1))
          refine I.fw (fun f h1 h2 => zu3_r _ h2) (by omega) fun z hz => ?_
          obtain ⟨a, b, h1, h2, h3⟩ := I.2.2.2.2.2.2.1 z hz
          rw [zu3_n _ (g := 301) (by decide), zu3_a]
          by_cases e : z = y.toNatClampNeg
          · rw [if_pos ⟨rfl, e, rfl⟩, ← e, h2, nI_1]
            exact ⟨a, b + 1, h1, rfl, by omega⟩
          · rw [if_neg (fun u => e u.2.1)]
            exact ⟨a, b, h1, h2, by omega⟩
      · exact I1
    · exact I1
  · exact I1
theorem xInv.bi {S S2 : zst} {N K : Nat} (I : xInv N S) (h : ∀ f, ¬ f = 2006 → ¬ f = 2007 → ¬ f = 2008 → ¬ f = 906 → S2 f = S f) (hk : N ≤ K) (hw : xBI K S2) : xInv K S2 := by
  obtain ⟨i1, i2, i3, i4, i5, i6, i7, i8⟩ := I
  have g : ∀ f, f < 906 → S2 f = S f := fun f hf => h f (by omega) (by omega) (by omega) (by omega)
  have g1 : S2 2001 = S 2001 := h _ (by decide) (by decide) (by decide) (by decide)
  have g2 : S2 2002 = S 2002 := h _ (by decide) (by decide) (by decide) (by decide)
  have g3 : S2 2003 = S 2003 := h _ (by decide) (by decide) (by decide) (by decide)
  exact ⟨i1.f (g _ (by decide)) (g _ (by decide)) (g _ (by decide)) (g _ (by decide)), i2.f (g _ (by decide)) (g _ (by decide)) g2 g3, i3.f (g _ (by decide)) (g _ (by decide)), i4.f (g _ (by decide)) g1, fun t ht p hp => ⟨(i5 t ht p hp).1.pt (g _ (by decide)) (g _ (by decide)) fun f hf => by rw [g f (by unfold rPz at hf; omega)], (i5 t ht p hp).2.pt fun f hf => by rw [g f (by unfold rPz at hf; omega)]⟩, i6.f (g _ (by decide)) (g _ (by decide)) (g _ (by decide)), (i7.mono hk).f (g _ (by decide)) (g _ (by decide)), hw⟩
theorem xInv.bid {S : zst} {N : Nat} {x y z pr hr pl : Int32} (I : xInv N S) : xInv N (rBid S x y z pr hr pl).2 := by
  by_cases q1 : xIsT S x
  · by_cases q2 : xIsP S x.toNatClampNeg y
    · by_cases q3 : xIsH S z
      · by_cases q4 : xW pr 0 1000000
        · by_cases q5 : xW pl 0 1000000
          · by_cases q6 : xW hr 1 1000
            · have hr0 : xW hr 0 1000 := ⟨fun u => q6.1 (Int32.lt_trans u (by decide)), q6.2⟩
              obtain ⟨w1, w2⟩ := xW_n (n := 1000000) q4 (by decide)
              obtain ⟨w3, w4⟩ := xW_n (n := 1000000) q5 (by decide)
              obtain ⟨w5, w6⟩ := xW_n (n := 1000) hr0 (by decide)
              obtain ⟨hz, ez⟩ := xH_n q3
              have B : ∀ b : Int32, -(N : Int) ≤ b.toInt → ¬ 24 < b → xBI N (zu3 (xBid S x.toNatClampNeg y.toNatClampNeg z.toNatClampNeg pr hr pl) 906 0 0 b) := fun b b1 b2 => by
                obtain ⟨c1, c2, c3, c4⟩ := I.2.2.2.2.2.2.2
                unfold xBI xBid
                refine ⟨by rw [zu3_e]; exact b1, by rw [zu3_e]; exact b2, fun u hu w hw => ?_, fun w hw => ?_⟩
                · obtain ⟨d1, d2, d3, d4⟩ := c3 u hu w hw
                  simp only [zu3_a, Nat.reduceEqDiff, false_and, true_and, if_false]
                  by_cases e : u = 20 * x.toNatClampNeg + y.toNatClampNeg ∧ w = z.toNatClampNeg
                  · rw [if_pos e, if_pos e, if_pos e]
                    refine ⟨⟨_, w1, w2.symm⟩, ⟨_, w5, w6.symm⟩, ⟨_, w3, w4.symm⟩, fun _ => ?_⟩
                    rw [e.2, ez]
                    exact q3.2.1
                  · rw [if_neg e, if_neg e, if_neg e]
                    exact ⟨d1, d2, d3, d4⟩
                · simp only [zu3_a, Nat.reduceEqDiff, false_and, if_false]
                  exact c4 w hw
              obtain ⟨c1, c2, -⟩ := I.2.2.2.2.2.2.2
              unfold rBid
              rw [if_pos q1, if_pos q2, if_pos q3, if_pos q4, if_pos q5, if_pos q6]
              split
              · split
                · show xInv N (xBid S x.toNatClampNeg y.toNatClampNeg z.toNatClampNeg pr hr pl)
                  have e : xBid S x.toNatClampNeg y.toNatClampNeg z.toNatClampNeg pr hr pl = zu3 (xBid S x.toNatClampNeg y.toNatClampNeg z.toNatClampNeg pr hr pl) 906 0 0 (S 906 0 0) := by
                    funext f i k
                    rw [zu3_a]
                    split
                    · rename_i u
                      rw [u.1, u.2.1, u.2.2]
                      unfold xBid
                      rw [zu3_n _ (by decide), zu3_n _ (by decide), zu3_n _ (by decide)]
                    · rfl
                  rw [e]
                  refine I.bi (fun f h1 h2 h3 h4 => ?_) (Nat.le_refl _) (B _ c1 c2)
                  unfold xBid
                  rw [zu3_r _ h4, zu3_r _ h3, zu3_r _ h2, zu3_r _ h1]
                · split
                  · rename_i q9
                    show xInv N (zu3 (xBid S x.toNatClampNeg y.toNatClampNeg z.toNatClampNeg pr hr pl) 906 0 0 (S 906 0 0 + 1))
                    refine I.bi (fun f h1 h2 h3 h4 => ?_) (Nat.le_refl _) (B _ ?_ ?_)
                    · unfold xBid
                      rw [zu3_r _ h4, zu3_r _ h3, zu3_r _ h2, zu3_r _ h1]
                    · have := Int32.lt_iff_toInt_lt.mp q9
                      have e24 : (24 : Int32).toInt = 24 := by decide
                      have e1 : (1 : Int32).toInt = 1 := by decide
                      have := Int32.le_toInt (S 906 0 0)
                      rw [Int32.toInt_add, e1, Int.bmod_eq_of_le (by omega) (by omega)]
                      omega
                    · intro u
                      have := Int32.lt_iff_toInt_lt.mp q9
                      have u := Int32.lt_iff_toInt_lt.mp u
                      have e24 : (24 : Int32).toInt = 24 := by decide
                      have e1 : (1 : Int32).toInt = 1 := by decide
                      have := Int32.le_toInt (S 906 0 0)
                      rw [Int32.toInt_add, e1, Int.bmod_eq_of_le (by omega) (by omega)] at u
                      omega
                  · exact I
              · exact I
            · unfold rBid
              rw [if_pos q1, if_pos q2, if_pos q3, if_pos q4, if_pos q5, if_neg q6]
              exact I
          · unfold rBid
            rw [if_pos q1, if_pos q2, if_pos q3, if_pos q4, if_neg q5]
            exact I
        · unfold rBid
          rw [if_pos q1, if_pos q2, if_pos q3, if_neg q4]
          exact I
      · unfold rBid
        rw [if_pos q1, if_pos q2, if_neg q3]
        exact I
    · unfold rBid
      rw [if_pos q1, if_neg q2]
      exact I
  · unfold rBid
    rw [if_neg q1]
    exact I
theorem xDropL_p {x : Nat} : ∀ (f k : Nat) (S : zst) (r : Int32), (∀ g, ¬ g = 2007 → (xDropL x f k S r).1 g = S g) ∧ (∀ y z, (xDropL x f k S r).1 2007 y z = S 2007 y z ∨ (xDropL x f k S r).1 2007 y z = 0) ∧ ∃ c, c ≤ f ∧ (xDropL x f k S r).2 = r + nI c
  | 0, _, S, r => ⟨fun _ _ => rfl, fun _ _ => Or.inl rfl, 0, by omega, by rw [nI_0, Int32.add_zero]; rfl⟩
  | f + 1, k, S, r => by
    unfold xDropL
    split
    · obtain ⟨h1, h2, c, hc, h3⟩ := xDropL_p f (k + 1) (zu3 S 2007 x k 0) (r + 1)
      refine ⟨fun g hg => by rw [h1 g hg, zu3_r _ hg], fun y z => ?_, c + 1, by omega, ?_⟩
      · rcases h2 y z with e | e
        · rw [e, zu3_a]
          split
          · exact Or.inr rfl
          · exact Or.inl rfl
        · exact Or.inr e
      · rw [h3, nI_succ, Int32.add_assoc, Int32.add_comm 1]
    · obtain ⟨h1, h2, c, hc, h3⟩ := xDropL_p f (k + 1) S r
      exact ⟨h1, h2, c, by omega, h3⟩
theorem xInv.give {S : zst} {N : Nat} {x y z pr pl tk : Int32} (I : xInv N S) (hN : N < 2 ^ 31 - 8) : xInv (N + 8) (rGive S x y z pr pl tk).2 := by
  have I1 : xInv (N + 8) S := I.mono (by omega)
  by_cases q1 : xIsT S x
  · by_cases q2 : xIsP S x.toNatClampNeg y
    · by_cases q3 : xIsH S z
      · by_cases q4 : xW pr 0 1000000
        · by_cases q5 : xW pl 0 1000000
          · by_cases q6 : xW tk 1 1000
            · unfold rGive
              rw [if_pos q1, if_pos q2, if_pos q3, if_pos q4, if_pos q5, if_pos q6]
              split
              · rename_i q7
                split
                · split
                  · obtain ⟨ht, ex, hc⟩ := xT_n q1
                    obtain ⟨hp, ey, hh⟩ := xP_n q2
                    have zi := xIsH_in q3
                    have tk0 : xW tk 0 1000 := ⟨fun u => q6.1 (Int32.lt_trans u (by decide)), q6.2⟩
                    obtain ⟨w3, w4⟩ := xW_n (n := 1000000) q5 (by decide)
                    obtain ⟨w5, w6⟩ := xW_n (n := 1000) tk0 (by decide)
                    obtain ⟨n, hn, en⟩ := I.2.2.2.1.1
                    show xInv (N + 8) (xGive S x.toNatClampNeg y.toNatClampNeg z.toNatClampNeg z pr pl (S 203 0 0 + tk))
                    have etl : S 203 0 0 + tk = nI (n + tk.toNatClampNeg) := by rw [en, ← nI_add, w6]
                    rw [etl]
                    generalize x.toNatClampNeg = t at *
                    generalize y.toNatClampNeg = p at *
                    generalize z.toNatClampNeg = zz at *
                    have IA : xInv (N + 8) (xGive1 S t p zz z pr pl (nI (n + tk.toNatClampNeg))) := by
                      have P := (I1.2.2.2.2.1 t ht p hp).1
                      obtain ⟨p1, p2, p3, p4, p5, p6, p7, p8, p9, p10, p11⟩ := P
                      unfold xGive1
                      refine (I1.pc (t := t) (p := p) (fun f hf => ?_) (fun f hf u q e => ?_) (fun _ _ => ?_)).full (fun _ _ => ?_)
                      · unfold rU at hf
                        rw [zu3_r _ (by omega), zu3_r _ (by omega), zu3_r _ (by omega), zu3_r _ (by omega), zu3_r _ (by omega), zu3_r _ (by omega), zu3_r _ (by omega)]
                      · have ne : ∀ g : Nat, ¬ (f = g ∧ u = t ∧ q = p) := fun g z => e z.2
                        unfold rPz at hf
                        rw [zu3_a, if_neg (ne _), zu3_a, if_neg (ne _), zu3_a, if_neg (ne _), zu3_a, if_neg (ne _), zu3_a, if_neg (ne _), zu3_n _ (by omega), zu3_n _ (by omega)]
                      · unfold zPI0 xHas
                        simp only [zu3_a, Nat.reduceEqDiff, false_and, and_self, if_true, if_false]
                        refine ⟨⟨1, by omega, rfl⟩, fun z => absurd ⟨hc, hh⟩ z, fun z => absurd z (by decide), fun _ => p4 (Or.inl q7), fun _ => zi, fun z => absurd z (by decide), ⟨_, w3, w4.symm⟩, ⟨_, by omega, rfl⟩, p9, p10, p11⟩
                      · intro z
                        simp only [zu3_a, Nat.reduceEqDiff, false_and, and_self, if_true, if_false] at z
                        exact absurd z (by decide)
                    obtain ⟨h1, h2, c, hc, h3⟩ := xDropL_p (x := 20 * t + p) 8 0 (xGive1 S t p zz z pr pl (nI (n + tk.toNatClampNeg))) 0
                    obtain ⟨c1, c2, -⟩ := I.2.2.2.2.2.2.2
                    have eb : xGive1 S t p zz z pr pl (nI (n + tk.toNatClampNeg)) 906 = S 906 := by
                      unfold xGive1
                      rw [zu3_r _ (by decide), zu3_r _ (by decide), zu3_r _ (by decide), zu3_r _ (by decide), zu3_r _ (by decide), zu3_r _ (by decide), zu3_r _ (by decide)]
                    unfold xGive
                    rw [h3, Int32.zero_add]
                    generalize xGive1 S t p zz z pr pl (nI (n + tk.toNatClampNeg)) = S1 at *
                    refine IA.bi (fun f g1 g2 g3 g4 => by rw [zu3_r _ g4, h1 f g2]) (Nat.le_refl _) ?_
                    obtain ⟨-, -, d3, d4⟩ := IA.2.2.2.2.2.2.2
                    have b24 := Int32.le_iff_toInt_le.mp (Int32.not_lt.mp c2)
                    have e24 : (24 : Int32).toInt = 24 := by decide
                    have ec : (S 906 0 0 - nI c).toInt = (S 906 0 0).toInt - c := by
                      rw [Int32.toInt_sub, nI_toInt (by omega), Int.bmod_eq_of_le (by omega) (by omega)]
                    refine ⟨?_, ?_, fun u hu w hw => ?_, fun w hw => ?_⟩
                    · rw [zu3_e, ec]
                      omega
                    · rw [zu3_e]
                      intro u
                      have u := Int32.lt_iff_toInt_lt.mp u
                      rw [ec] at u
                      omega
                    · rw [zu3_n _ (by decide), zu3_n _ (by decide), zu3_n _ (by decide), zu3_n _ (by decide), h1 2006 (by decide), h1 2008 (by decide), h1 905 (by decide)]
                      obtain ⟨e1, e2, e3, e4⟩ := d3 u hu w hw
                      rcases h2 u w with e | e
                      · rw [e]
                        exact ⟨e1, e2, e3, e4⟩
                      · rw [e]
                        exact ⟨e1, ⟨0, by omega, rfl⟩, e3, fun z => absurd z (by decide)⟩
                    · rw [zu3_n _ (by decide), zu3_n _ (by decide), h1 _ (by decide), h1 _ (by decide)]
                      exact d4 w hw
                  · exact I1
                · exact I1
              · exact I1
            · unfold rGive
              rw [if_pos q1, if_pos q2, if_pos q3, if_pos q4, if_pos q5, if_neg q6]
              exact I1
          · unfold rGive
            rw [if_pos q1, if_pos q2, if_pos q3, if_pos q4, if_neg q5]
            exact I1
        · unfold rGive
          rw [if_pos q1, if_pos q2, if_pos q3, if_neg q4]
          exact I1
      · unfold rGive
        rw [if_pos q1, if_pos q2, if_neg q3]
        exact I1
    · unfold rGive
      rw [if_pos q1, if_neg q2]
      exact I1
  · unfold rGive
    rw [if_neg q1]
    exact I1
