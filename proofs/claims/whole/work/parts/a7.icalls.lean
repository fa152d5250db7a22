/-! cut, doubt, answer, task -/
theorem xInv.cut {S : zst} {N : Nat} {x n : Int32} (I : xInv N S) : xInv N (rCut S x n).2 := by
  by_cases q1 : xIsT S x
  · by_cases q2 : xW n 10 20000
    · by_cases q3 : S 808 x.toNatClampNeg 0 ≤ 0
      · unfold rCut
        rw [if_pos q1, if_pos q2, if_pos q3]
        split
        · exact I
        · rename_i q4
          split
          · rename_i q5
            obtain ⟨ht, ex, hc⟩ := xT_n q1
            obtain ⟨ll, hl, el⟩ := (xLen_c S x.toNatClampNeg).resolve_left q4
            have w0 : xW n 0 20000 := ⟨fun z => q2.1 (Int32.lt_trans z (by decide)), q2.2⟩
            obtain ⟨w1, w2⟩ := xW_n (n := 20000) w0 (by decide)
            have w3 : 10 ≤ n.toNatClampNeg := by
              refine Nat.le_of_not_lt fun z => q2.1 ?_
              rw [← w2, show (10 : Int32) = nI 10 by rfl, nI_ltI (by omega) (by omega)]
              exact z
            show xInv N (xDivide S x.toNatClampNeg (xCnt (xLen S x.toNatClampNeg) n).toNatClampNeg n (xLen S x.toNatClampNeg))
            rw [el] at q5 ⊢
            generalize x.toNatClampNeg = t at *
            generalize n.toNatClampNeg = nn at *
            subst w2
            have cl : (ll + nn - 1) / nn ≤ ll + nn - 1 := Nat.div_le_self _ _
            have ec : xCnt (nI ll) (nI nn) = nI ((ll + nn - 1) / nn) := by
              unfold xCnt
              rw [nI_add, nI_sub1 (by omega), pk_div (by omega) (by omega) (by omega)]
            rw [ec] at q5 ⊢
            rw [nI_clamp (by omega)]
            have hdiv : ∀ i, i < (ll + nn - 1) / nn → i * nn < ll := fun i hi => by
              have := (Nat.le_div_iff_mul_le (show 0 < nn by omega)).mp (show i + 1 ≤ (ll + nn - 1) / nn by omega)
              rw [Nat.add_mul] at this
              omega
            have c1 : 1 ≤ (ll + nn - 1) / nn := by
              refine Nat.le_of_not_lt fun z => q5.1 ?_
              rw [show (1 : Int32) = nI 1 by rfl, nI_ltI (by omega) (by omega)]
              exact z
            have c2 : (ll + nn - 1) / nn ≤ 20 := by
              refine Nat.le_of_not_lt fun z => q5.2 ?_
              rw [show (20 : Int32) = nI 20 by rfl, nI_ltI (by omega) (by omega)]
              exact z
            generalize (ll + nn - 1) / nn = c at *
            obtain ⟨i1, i2, i3, i4, i5, i6, i7, i8⟩ := I
            have g : ∀ f, ¬ f = 509 → ¬ f = 510 → ¬ f = 808 → xDivide S t c (nI nn) (nI ll) f = S f := fun f h1 h2 h3 => xDivide_f h1 h2 h3
            have gc : ∀ u, xDivide S t c (nI nn) (nI ll) 808 u 0 = if u = t then nI c else S 808 u 0 := fun u => by
              unfold xDivide
              rw [zu3_a]
              by_cases q : u = t
              · rw [if_pos ⟨rfl, q, rfl⟩, if_pos q]
              · rw [if_neg (fun z => q z.2.1), if_neg q, xDivL_a, if_neg (by omega), if_neg (by omega)]
            have gf : ∀ u p, xDivide S t c (nI nn) (nI ll) 509 u p = if u = t ∧ p < c then nI p * nI nn else S 509 u p := fun u p => by
              unfold xDivide
              rw [zu3_n _ (by decide), xDivL_a]
              by_cases q : u = t ∧ p < c
              · rw [if_pos q, if_pos (by omega)]
              · rw [if_neg q, if_neg (by omega), if_neg (by omega)]
            have gl : ∀ u p, xDivide S t c (nI nn) (nI ll) 510 u p = if u = t ∧ p < c then (if nI (p + 1) * nI nn < nI ll then nI (p + 1) * nI nn else nI ll) else S 510 u p := fun u p => by
              unfold xDivide
              rw [zu3_n _ (by decide), xDivL_a]
              by_cases q : u = t ∧ p < c
              · rw [if_pos q, if_neg (by omega), if_pos (by omega)]
              · rw [if_neg q, if_neg (by omega), if_neg (by omega)]
            have hfl : ∀ p, p < c → ∃ f l, f < l ∧ l ≤ 20000 ∧ nI p * nI nn = nI f ∧ (if nI (p + 1) * nI nn < nI ll then nI (p + 1) * nI nn else nI ll) = nI l := fun p hp => by
              have h1 := hdiv p hp
              have h2 : (p + 1) * nn = p * nn + nn := by rw [Nat.add_mul, Nat.one_mul]
              rw [← nI_mul, ← nI_mul]
              by_cases q : (p + 1) * nn < ll
              · rw [if_pos (nI_lt q (by omega))]
                exact ⟨_, _, by omega, by omega, rfl, rfl⟩
              · rw [if_neg (nI_nlt (by omega) (by omega))]
                exact ⟨_, _, h1, hl, rfl, rfl⟩
            generalize xDivide S t c (nI nn) (nI ll) = S2 at *
            have hno : ∀ p, ¬ xHas S t p ∨ 2 ^ 31 ≤ p := fun p => by
              by_cases hp : p < 2 ^ 31
              · exact Or.inl fun z => nI_pos hp (Int32.lt_of_lt_of_le z q3)
              · exact Or.inr (by omega)
            refine ⟨?_, i2.f (g _ (by decide) (by decide) (by decide)) (g _ (by decide) (by decide) (by decide)) (g _ (by decide) (by decide) (by decide)) (g _ (by decide) (by decide) (by decide)), i3.f (g _ (by decide) (by decide) (by decide)) (g _ (by decide) (by decide) (by decide)), i4.f (g _ (by decide) (by decide) (by decide)) (g _ (by decide) (by decide) (by decide)), fun u hu p hp => ?_, fun u hu p hp hh => ?_, i7.f (g _ (by decide) (by decide) (by decide)) (g _ (by decide) (by decide) (by decide)), i8.f (g _ (by decide) (by decide) (by decide)) (g _ (by decide) (by decide) (by decide)) (g _ (by decide) (by decide) (by decide)) (g _ (by decide) (by decide) (by decide)) (g _ (by decide) (by decide) (by decide)) (g _ (by decide) (by decide) (by decide)) (g _ (by decide) (by decide) (by decide))⟩
            · unfold xCs at *
              rw [g 904 (by decide) (by decide) (by decide), g 905 (by decide) (by decide) (by decide), g 701 (by decide) (by decide) (by decide)]
              refine ⟨i1.1, i1.2.1, fun u hu => ?_, i1.2.2.2⟩
              rw [gc]
              split
              · exact ⟨c, c2, rfl⟩
              · exact i1.2.2.1 u hu
            · obtain ⟨P0, P1⟩ := i5 u hu p hp
              refine ⟨?_, P1.pt fun f hf => by rw [g f (by unfold rPz at hf; omega) (by unfold rPz at hf; omega) (by unfold rPz at hf; omega)]⟩
              obtain ⟨p1, p2, p3, p4, p5, p6, p7, p8, p9, p10, p11, p12, p13⟩ := P0
              unfold zPI0 xHas
              rw [g 904 (by decide) (by decide) (by decide), g 504 (by decide) (by decide) (by decide), g 505 (by decide) (by decide) (by decide), g 511 (by decide) (by decide) (by decide), g 600 (by decide) (by decide) (by decide), g 507 (by decide) (by decide) (by decide), g 508 (by decide) (by decide) (by decide), g 512 (by decide) (by decide) (by decide), g 606 (by decide) (by decide) (by decide), g 601 (by decide) (by decide) (by decide), g 603 (by decide) (by decide) (by decide), g 607 (by decide) (by decide) (by decide), g 608 (by decide) (by decide) (by decide), gc, gf, gl]
              refine ⟨p1, fun z => ?_, p3, p4, p5, p6, p7, p8, p9, p10, ?_, ?_, p13⟩
              · by_cases q : u = t
                · subst q
                  exact p2 fun y => ((hno p).resolve_right (by omega)) y.2
                · rw [if_neg q] at z
                  exact p2 z
              · split
                · rename_i q
                  obtain ⟨f, l, h1, h2, h3, -⟩ := hfl p q.2
                  exact ⟨f, by omega, h3⟩
                · exact p11
              · split
                · rename_i q
                  obtain ⟨f, l, h1, h2, -, h4⟩ := hfl p q.2
                  exact ⟨l, h2, h4⟩
                · exact p12
            · unfold xHas at hh
              rw [gc] at hh
              rw [gf, gl]
              by_cases q : u = t
              · rw [if_pos q, nI_ltI (by omega) (by omega)] at hh
                rw [if_pos ⟨q, hh⟩, if_pos ⟨q, hh⟩]
                exact hfl p hh
              · rw [if_neg q] at hh
                rw [if_neg (fun z => q z.1), if_neg (fun z => q z.1)]
                exact i6 u hu p hp hh
          · exact I
      · unfold rCut
        rw [if_pos q1, if_pos q2, if_neg q3]
        exact I
    · unfold rCut
      rw [if_pos q1, if_neg q2]
      exact I
  · unfold rCut
    rw [if_neg q1]
    exact I
theorem xInv.doubt {S : zst} {N : Nat} {x y z v : Int32} (I : xInv N S) : xInv (N + 22) (rDoubt S x y z v).2 := by
  have I1 : xInv (N + 22) S := I.mono (by omega)
  unfold rDoubt
  split
  · rename_i q1
    split
    · rename_i q2
      split
      · rename_i q3
        split
        · rename_i q4
          split
          · exact I1
          · split
            · exact I1
            · split
              · split
                · obtain ⟨ht, ex, hc⟩ := xT_n q1
                  obtain ⟨hp, ey, hh⟩ := xP_n q2
                  have zi := xIsH_in q3
                  show xInv (N + 22) (xDoubt S x.toNatClampNeg y.toNatClampNeg z.toNatClampNeg z v)
                  unfold xDoubt
                  generalize x.toNatClampNeg = t at *
                  generalize y.toNatClampNeg = p at *
                  have I2 := I.kp (xKp.coin (S := S) (f := 300) (i := z.toNatClampNeg) (k := 0) (v := S 300 z.toNatClampNeg 0 - S 507 t p) (Or.inl rfl))
                  rw [Nat.add_zero] at I2
                  have fS : ∀ f, ¬ f = 300 → zu3 S 300 z.toNatClampNeg 0 (S 300 z.toNatClampNeg 0 - S 507 t p) f = S f := fun f hf => zu3_r _ hf
                  generalize zu3 S 300 z.toNatClampNeg 0 (S 300 z.toNatClampNeg 0 - S 507 t p) = S1 at *
                  have hh1 : xHas S1 t p := by
                    unfold xHas
                    rw [fS _ (by decide)]
                    exact hh
                  have h2 : S1 504 t p = 2 := by
                    rw [fS _ (by decide)]
                    exact q4
                  obtain ⟨p1, p2, p3, p4, p5, p6, p7, p8, p9, p10, p11, p12, p13⟩ := (I2.2.2.2.2.1 t ht p hp).1
                  obtain ⟨n, hn, en⟩ := I2.2.2.2.1.1
                  have E : xInvE N (xBegin S1 t p z v) t p := by
                    refine I2.pc (fun f hf => xBegin_f (by unfold rU at hf; omega) (by unfold rU at hf; omega)) (fun f hf u q e => ?_) (fun _ _ => ?_)
                    · unfold xBegin
                      rw [if_pos hh1]
                      have ne : ∀ g : Nat, ¬ (f = g ∧ u = t ∧ q = p) := fun g z => e z.2
                      simp only [zu3_a, ne, if_false]
                    · unfold xBegin
                      rw [if_pos hh1]
                      unfold zPI0 xHas
                      simp only [zu3_a, Nat.reduceEqDiff, false_and, and_self, if_true, if_false]
                      refine ⟨⟨3, by omega, rfl⟩, fun z => absurd ⟨?_, hh1⟩ z, fun z => absurd z (by decide), fun z => absurd z (by decide), fun _ => p5 (by rw [h2]; decide), fun _ => zi, p7, p8, p9, ⟨n, by omega, en⟩, p11, p12, p11, p12, Or.inl rfl⟩
                      rw [fS _ (by decide)]
                      exact hc
                  refine E.judge ?_ ?_
                  · unfold xHas
                    rw [xBegin_f (by decide) (by decide)]
                    exact hh1
                  · rw [xBegin_3 hh1]
                    decide
                · exact I1
              · exact I1
        · exact I1
      · exact I1
    · exact I1
  · exact I1
theorem xInv.answer {S : zst} {N : Nat} {x y b v : Int32} (I : xInv N S) : xInv (N + 22) (rAnswer S x y b v).2 := by
  have I1 : xInv (N + 22) S := I.mono (by omega)
  unfold rAnswer
  split
  · rename_i q1
    split
    · rename_i q2
      split
      · rename_i q3
        split
        · obtain ⟨ht, ex, hc⟩ := xT_n q1
          obtain ⟨hp, ey, hh⟩ := xP_n q2
          show xInv (N + 22) (xAns S x.toNatClampNeg y.toNatClampNeg b v)
          unfold xAns
          generalize x.toNatClampNeg = t at *
          generalize y.toNatClampNeg = p at *
          obtain ⟨p1, p2, p3, p4, p5, p6, p7, p8, p9, p10, p11, p12, p13, p14, p15, p16⟩ := (I.2.2.2.2.1 t ht p hp).1
          obtain ⟨n, hn, en⟩ := I.2.2.2.1.1
          have fT : ∀ f, ¬ f / 100 = 6 → xTell S t p b v (S 203 0 0) f = S f := fun f hf => xTell_f hf
          have E : xInvE N (xTell S t p b v (S 203 0 0)) t p := by
            have hx : ∀ f u q, ¬ (u = t ∧ q = p) → xTell S t p b v (S 203 0 0) f u q = S f u q := fun f u q e => by
              have ne : ∀ g : Nat, ¬ (f = g ∧ u = t ∧ q = p) := fun g z => e z.2
              have e0 : xTold S t p b v f u q = S f u q := by
                unfold xTold
                split <;> simp only [zu3_a, ne, if_false]
              unfold xTell
              split
              · unfold xAsk xHalve
                split <;> simp only [zu3_a, ne, if_false] <;> exact e0
              · exact e0
            refine I.pc (fun f hf => fT f (by unfold rU at hf; omega)) (fun f hf u q e => hx f u q e) (fun _ _ => ?_)
            obtain ⟨s1, s2⟩ := xTell_st (b := b) (v := v) (n := S 203 0 0) p13 p14
            have b1 : xBo (xTell S t p b v (S 203 0 0) 607 t p) ∧ xBo (xTell S t p b v (S 203 0 0) 608 t p) ∧ (∃ n, n ≤ 1000000 ∧ xTell S t p b v (S 203 0 0) 606 t p = nI n) := by
              have e0 : xBo (xTold S t p b v 607 t p) ∧ xBo (xTold S t p b v 608 t p) ∧ xTold S t p b v 606 t p = S 606 t p := by
                unfold xTold
                split
                · simp only [zu3_a, Nat.reduceEqDiff, false_and, and_self, if_true, if_false]
                  exact ⟨p15, Or.inr rfl, trivial⟩
                · simp only [zu3_a, Nat.reduceEqDiff, false_and, and_self, if_true, if_false]
                  exact ⟨Or.inr rfl, p16, trivial⟩
              unfold xTell
              split
              · unfold xAsk
                simp only [zu3_a, Nat.reduceEqDiff, false_and, and_self, if_true, if_false]
                exact ⟨Or.inl rfl, Or.inl rfl, n, by omega, en⟩
              · rw [e0.2.2]
                exact ⟨e0.1, e0.2.1, p10⟩
            have hd := xTell_d (S := S) (t := t) (p := p) (b := b) (v := v) (n := S 203 0 0)
            unfold zPI0 xHas
            rw [fT 504 (by decide), fT 904 (by decide), fT 808 (by decide), fT 505 (by decide), fT 511 (by decide), hd, fT 507 (by decide), fT 508 (by decide), fT 512 (by decide), fT 509 (by decide), fT 510 (by decide)]
            exact ⟨p1, p2, p3, p4, p5, p6, p7, p8, p9, b1.2.2, p11, p12, s1, s2, b1.1, b1.2.1⟩
          refine E.judge ?_ ?_
          · unfold xHas
            rw [fT _ (by decide)]
            exact hh
          · rw [fT _ (by decide), q3]
            decide
        · exact I1
      · exact I1
    · exact I1
  · exact I1
theorem xInv.tick {S : zst} {N : Nat} {x : Int32} (I : xInv N S) : xInv (N + 2640000) (rTick S x).2 := by
  have I1 : xInv (N + 2640000) S := I.mono (by omega)
  by_cases q1 : xW x 0 1000
  · obtain ⟨w1, w2⟩ := xW_n (n := 1000) q1 (by decide)
    obtain ⟨m, hm, em⟩ := I.2.2.2.1.1
    by_cases q2 : S 203 0 0 + x ≤ 100000
    · have h : m + x.toNatClampNeg ≤ 100000 := by
        rw [em, ← w2, nI_add, show (100000 : Int32) = nI 100000 by rfl, nI_leI (by omega) (by omega)] at q2
        exact q2
      rw [← w2, rTick_eq I em h w1]
      exact (I.tkN x.toNatClampNeg em h).mono (by omega)
    · unfold rTick
      rw [if_pos q1, if_neg q2]
      exact I1
  · unfold rTick
    rw [if_neg q1]
    exact I1
/-! task -/
theorem xBegL_kn {t : Nat} {K N : zcells} : ∀ (f i : Nat) (S : zst) (j : Nat), xBegL t K N f i S 2002 t j = (if i ≤ j ∧ j < i + f then K j else S 2002 t j) ∧ xBegL t K N f i S 2003 t j = (if i ≤ j ∧ j < i + f then N j else S 2003 t j)
  | 0, i, S, j => by
    rw [if_neg (by omega), if_neg (by omega)]
    exact ⟨rfl, rfl⟩
  | f + 1, i, S, j => by
    unfold xBegL
    obtain ⟨h1, h2⟩ := xBegL_kn (t := t) (K := K) (N := N) f (i + 1) (zu3 (zu3 S 2002 t i (K i)) 2003 t i (N i)) j
    rw [h1, h2]
    simp only [zu3_a, Nat.reduceEqDiff, false_and, true_and, if_false]
    by_cases e : j = i
    · have n1 : ¬ (i + 1 ≤ j ∧ j < i + 1 + f) := by omega
      have n2 : i ≤ j ∧ j < i + (f + 1) := by omega
      simp only [if_neg n1, if_pos n2, if_pos e]
      rw [e]
      exact ⟨rfl, rfl⟩
    · rw [if_neg e, if_neg e]
      by_cases q : i ≤ j ∧ j < i + (f + 1)
      · rw [if_pos q, if_pos q, if_pos (by omega), if_pos (by omega)]
        exact ⟨rfl, rfl⟩
      · rw [if_neg q, if_neg q, if_neg (by omega), if_neg (by omega)]
        exact ⟨rfl, rfl⟩
theorem xBegL_o {t : Nat} {K N : zcells} {g u j : Nat} (hu : ¬ u = t) : ∀ (f i : Nat) (S : zst), xBegL t K N f i S g u j = S g u j
  | 0, _, _ => rfl
  | f + 1, i, S => by
    unfold xBegL
    rw [xBegL_o hu f (i + 1), zu3_a, if_neg (fun z => hu z.2.1), zu3_a, if_neg (fun z => hu z.2.1)]
theorem wCode.eq {K N K2 N2 : zcells} {n : Nat} (W : wCode K N n) (h : ∀ i, i < n → K2 i = K i ∧ N2 i = N i) : wCode K2 N2 n := by
  obtain ⟨h1, h2, dp, h3, h4⟩ := W
  refine ⟨h1, h2, dp, h3, fun pc hp => ?_⟩
  rw [(h pc hp).1, (h pc hp).2]
  exact h4 pc hp
theorem xInv.off {S : zst} {N : Nat} (I : xInv N S) : xInv N (xOff S) := by
  unfold xOff
  refine I.tape (fun f h1 hf => ?_) ⟨0, by omega, ?_⟩
  · rw [zu3_r _ (by unfold rU rPz at hf; omega), zu3_r _ h1]
  · rw [zu3_n _ (by decide), zu3_e]
    rfl
theorem xBeg_f {S : zst} {t k : Nat} {K N : zcells} {lv cn : Int32} {f : Nat} (h1 : ¬ f = 2002) (h2 : ¬ f = 2003) (h3 : ¬ f = 805) (h4 : ¬ f = 806) (h5 : ¬ f = 807) : xBeg S t k K N lv cn f = S f := by
  unfold xBeg
  rw [zu3_r _ h5, zu3_r _ h4]
  funext i j
  rw [xBegL_n h1 h2, zu3_n _ h3]
theorem xInv.task {S : zst} {N : Nat} {K M : zcells} {p n : Int32} (I : xInv N S) : xInv N (rTask S K M p n).2 := by
  by_cases q1 : xW p 0 1000000
  · by_cases q2 : xW n 0 (S 701 0 0)
    · by_cases q3 : S 904 0 0 < 6
      · unfold rTask
        rw [if_pos q1, if_pos q2, if_pos q3]
        unfold rTaskC
        cases e : pComp (S 2009 0) n.toNatClampNeg K M with
        | inr e => exact I.off.f fun f hf => zu3_r _ (by unfold rU rPz at hf; omega)
        | inl s =>
          have Jo := I.off
          have w := pComp_w e
          have k200 := pComp_k e
          obtain ⟨z, hz, ez⟩ := Jo.1.1
          have ez1 : S 904 0 0 = nI z := by
            unfold xOff at ez
            rw [zu3_n _ (by decide), zu3_n _ (by decide)] at ez
            exact ez
          have hz6 : z < 6 := by
            rw [ez1, show (6 : Int32) = nI 6 by rfl, nI_ltI (by omega) (by omega)] at q3
            exact q3
          show xInv N (zu3 (xBeg (xOff S) (S 904 0 0).toNatClampNeg s.2.1 s.2.2.1 s.2.2.2 (xLeaves (S 2009 0) n.toNatClampNeg) p) 904 0 0 (S 904 0 0 + 1))
          rw [ez1, nI_clamp (by omega), nI_1]
          generalize xLeaves (S 2009 0) n.toNatClampNeg = lv at *
          generalize xOff S = S1 at *
          obtain ⟨i1, i2, i3, i4, i5, i6, i7, i8⟩ := Jo
          have g : ∀ f, ¬ f = 2002 → ¬ f = 2003 → ¬ f = 805 → ¬ f = 806 → ¬ f = 807 → ¬ f = 904 → zu3 (xBeg S1 z s.2.1 s.2.2.1 s.2.2.2 lv p) 904 0 0 (nI (z + 1)) f = S1 f := fun f h1 h2 h3 h4 h5 h6 => by rw [zu3_r _ h6, xBeg_f h1 h2 h3 h4 h5]
          have gt : zu3 (xBeg S1 z s.2.1 s.2.2.1 s.2.2.2 lv p) 904 0 0 (nI (z + 1)) 904 0 0 = nI (z + 1) := zu3_e _ _ _ _ _
          have gs : ∀ u, zu3 (xBeg S1 z s.2.1 s.2.2.1 s.2.2.2 lv p) 904 0 0 (nI (z + 1)) 805 u 0 = if u = z then nI s.2.1 else S1 805 u 0 := fun u => by
            unfold xBeg
            rw [zu3_n _ (by decide), zu3_n _ (by decide), zu3_n _ (by decide), xBegL_n (by decide) (by decide), zu3_a]
            by_cases q : u = z
            · rw [if_pos ⟨rfl, q, rfl⟩, if_pos q]
            · rw [if_neg (fun y => q y.2.1), if_neg q]
          have gk : ∀ j, j < s.2.1 → zu3 (xBeg S1 z s.2.1 s.2.2.1 s.2.2.2 lv p) 904 0 0 (nI (z + 1)) 2002 z j = s.2.2.1 j ∧ zu3 (xBeg S1 z s.2.1 s.2.2.1 s.2.2.2 lv p) 904 0 0 (nI (z + 1)) 2003 z j = s.2.2.2 j := fun j hj => by
            unfold xBeg
            rw [zu3_n _ (by decide), zu3_n _ (by decide), zu3_n _ (by decide), zu3_n _ (by decide), zu3_n _ (by decide), zu3_n _ (by decide)]
            obtain ⟨h1, h2⟩ := xBegL_kn (t := z) (K := s.2.2.1) (N := s.2.2.2) s.2.1 0 (zu3 S1 805 z 0 (nI s.2.1)) j
            rw [h1, h2, if_pos (by omega), if_pos (by omega)]
            exact ⟨rfl, rfl⟩
          have go : ∀ u, ¬ u = z → zu3 (xBeg S1 z s.2.1 s.2.2.1 s.2.2.2 lv p) 904 0 0 (nI (z + 1)) 2002 u = S1 2002 u ∧ zu3 (xBeg S1 z s.2.1 s.2.2.1 s.2.2.2 lv p) 904 0 0 (nI (z + 1)) 2003 u = S1 2003 u := fun u hu => by
            unfold xBeg
            constructor
            · funext j
              rw [zu3_n _ (by decide), zu3_n _ (by decide), zu3_n _ (by decide), xBegL_o hu, zu3_n _ (by decide)]
            · funext j
              rw [zu3_n _ (by decide), zu3_n _ (by decide), zu3_n _ (by decide), xBegL_o hu, zu3_n _ (by decide)]
          generalize zu3 (xBeg S1 z s.2.1 s.2.2.1 s.2.2.2 lv p) 904 0 0 (nI (z + 1)) = S2 at *
          have gp : ∀ f, rPz f ∨ f = 509 ∨ f = 510 ∨ f = 808 → S2 f = S1 f := fun f hf => by
            unfold rPz at hf
            exact g f (by omega) (by omega) (by omega) (by omega) (by omega) (by omega)
          refine ⟨?_, fun u hu hc => ?_, fun u hu => ?_, i4.f (g _ (by decide) (by decide) (by decide) (by decide) (by decide) (by decide)) (g _ (by decide) (by decide) (by decide) (by decide) (by decide) (by decide)), fun u hu q hq => ?_, i6.f (gp _ (by omega)) (gp _ (by omega)) (gp _ (by omega)), i7.f (g _ (by decide) (by decide) (by decide) (by decide) (by decide) (by decide)) (g _ (by decide) (by decide) (by decide) (by decide) (by decide) (by decide)), i8.f (g _ (by decide) (by decide) (by decide) (by decide) (by decide) (by decide)) (g _ (by decide) (by decide) (by decide) (by decide) (by decide) (by decide)) (g _ (by decide) (by decide) (by decide) (by decide) (by decide) (by decide)) (g _ (by decide) (by decide) (by decide) (by decide) (by decide) (by decide)) (g _ (by decide) (by decide) (by decide) (by decide) (by decide) (by decide)) (g _ (by decide) (by decide) (by decide) (by decide) (by decide) (by decide)) (g _ (by decide) (by decide) (by decide) (by decide) (by decide) (by decide))⟩
          · unfold xCs at *
            rw [g 905 (by decide) (by decide) (by decide) (by decide) (by decide) (by decide), gp 808 (by omega), g 701 (by decide) (by decide) (by decide) (by decide) (by decide) (by decide)]
            exact ⟨⟨z + 1, by omega, gt⟩, i1.2⟩
          · rw [gt, nI_ltI (by omega) (by omega)] at hc
            rw [gs]
            by_cases q : u = z
            · rw [if_pos q]
              subst q
              exact ⟨_, rfl, w.eq gk⟩
            · rw [if_neg q, (go u q).1, (go u q).2]
              refine i2 u hu ?_
              rw [ez]
              exact nI_lt (by omega) (by omega)
          · rw [gs, gt]
            by_cases q : u = z
            · rw [if_pos q]
              refine ⟨⟨_, k200, rfl⟩, fun y => absurd ?_ y⟩
              rw [q]
              exact nI_lt (by omega) (by omega)
            · rw [if_neg q]
              refine ⟨(i3 u hu).1, fun y => (i3 u hu).2 fun y2 => y ?_⟩
              rw [ez, nI_ltI (by omega) (by omega)] at y2
              exact nI_lt (by omega) (by omega)
          · obtain ⟨P0, P1⟩ := i5 u hu q hq
            refine ⟨?_, P1.pt fun f hf => by rw [gp f (Or.inl hf)]⟩
            obtain ⟨p1, p2, p3⟩ := P0
            have hp : ∀ f, rPz f ∨ f = 509 ∨ f = 510 → S2 f u q = S1 f u q := fun f hf => by rw [gp f (by rcases hf with hf | hf | hf; exact Or.inl hf; omega; omega)]
            unfold zPI0 xHas at *
            rw [gt, gp 808 (by omega), hp 504 (by unfold rPz; omega), hp 505 (by unfold rPz; omega), hp 511 (by unfold rPz; omega), hp 600 (by unfold rPz; omega), hp 603 (by unfold rPz; omega), hp 601 (by unfold rPz; omega), hp 507 (by unfold rPz; omega), hp 508 (by unfold rPz; omega), hp 512 (by unfold rPz; omega), hp 606 (by unfold rPz; omega), hp 607 (by unfold rPz; omega), hp 608 (by unfold rPz; omega), hp 509 (by omega), hp 510 (by omega)]
            refine ⟨p1, fun y => p2 fun y2 => y ⟨?_, y2.2⟩, p3⟩
            have y3 := y2.1
            rw [ez, nI_ltI (by omega) (by omega)] at y3
            exact nI_lt (by omega) (by omega)
      · unfold rTask
        rw [if_pos q1, if_pos q2, if_neg q3]
        exact I.off
    · unfold rTask
      rw [if_pos q1, if_neg q2]
      exact I
  · unfold rTask
    rw [if_neg q1]
    exact I
