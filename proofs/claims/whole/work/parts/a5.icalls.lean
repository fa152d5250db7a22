/-! WHAT HOLDS OF EVERY STATE HOLDS AFTER EVERY CALL -/
theorem xSz.f {S S2 : zst} (I : xSz S) (h1 : S2 904 = S 904) (h2 : S2 805 = S 805) : xSz S2 := by
  unfold xSz at *
  rw [h1, h2]
  exact I
theorem xGl.f {S S2 : zst} (I : xGl S) (h1 : S2 203 = S 203) (h2 : S2 2001 = S 2001) : xGl S2 := by
  unfold xGl at *
  rw [h1, h2]
  exact I
theorem xFL.f {S S2 : zst} (I : xFL S) (h1 : S2 808 = S 808) (h2 : S2 509 = S 509) (h3 : S2 510 = S 510) : xFL S2 := by
  unfold xFL xHas at *
  rw [h1, h2, h3]
  exact I
theorem xFw.f {S S2 : zst} {N : Nat} (I : xFw S N) (h1 : S2 301 = S 301) (h2 : S2 302 = S 302) : xFw S2 N := by
  unfold xFw at *
  rw [h1, h2]
  exact I
theorem xBI.f {S S2 : zst} {N : Nat} (I : xBI N S) (h1 : S2 906 = S 906) (h2 : S2 905 = S 905) (h3 : S2 2006 = S 2006) (h4 : S2 2007 = S 2007) (h5 : S2 2008 = S 2008) (h6 : S2 2010 = S 2010) (h7 : S2 2011 = S 2011) : xBI N S2 := by
  unfold xBI at *
  rw [h1, h2, h3, h4, h5, h6, h7]
  exact I
/-- the fields of a piece that matter, but for its steps -/
def rPz (f : Nat) : Prop := f = 504 ∨ f = 505 ∨ f = 511 ∨ f = 600 ∨ f = 603 ∨ f = 601 ∨ f = 507 ∨ f = 508 ∨ f = 512 ∨ f = 606 ∨ f = 607 ∨ f = 608
theorem zPI0.pt {S S2 : zst} {t p : Nat} (I : zPI0 S t p) (h1 : S2 904 = S 904) (h2 : S2 808 = S 808) (h : ∀ f, rPz f ∨ f = 509 ∨ f = 510 → S2 f t p = S f t p) : zPI0 S2 t p := by
  unfold zPI0 xHas at *
  rw [h1, h2, h 504 (by unfold rPz; omega), h 505 (by unfold rPz; omega), h 511 (by unfold rPz; omega), h 600 (by unfold rPz; omega), h 603 (by unfold rPz; omega), h 601 (by unfold rPz; omega), h 507 (by unfold rPz; omega), h 508 (by unfold rPz; omega), h 512 (by unfold rPz; omega), h 606 (by unfold rPz; omega), h 607 (by unfold rPz; omega), h 608 (by unfold rPz; omega), h 509 (by omega), h 510 (by omega)]
  exact I
theorem zNI.pt {S S2 : zst} {t p : Nat} (I : zNI S t p) (h : ∀ f, rPz f → S2 f t p = S f t p) : zNI S2 t p := by
  unfold zNI at *
  rw [h 504 (by unfold rPz; omega), h 603 (by unfold rPz; omega), h 601 (by unfold rPz; omega)]
  exact I
/-- everything that matters -/
def rU (f : Nat) : Prop := f = 904 ∨ f = 905 ∨ f = 906 ∨ f = 808 ∨ f = 805 ∨ f = 701 ∨ f = 203 ∨ f = 2001 ∨ f = 2002 ∨ f = 2003 ∨ f = 2006 ∨ f = 2007 ∨ f = 2008 ∨ f = 2010 ∨ f = 2011 ∨ f = 301 ∨ f = 302 ∨ f = 509 ∨ f = 510
theorem xInv.f {S S2 : zst} {N : Nat} (I : xInv N S) (h : ∀ f, rU f ∨ rPz f → S2 f = S f) : xInv N S2 := by
  obtain ⟨i1, i2, i3, i4, i5, i6, i7, i8⟩ := I
  have g : ∀ f, rU f → S2 f = S f := fun f hf => h f (Or.inl hf)
  refine ⟨i1.f (g _ (by unfold rU; omega)) (g _ (by unfold rU; omega)) (g _ (by unfold rU; omega)) (g _ (by unfold rU; omega)), i2.f (g _ (by unfold rU; omega)) (g _ (by unfold rU; omega)) (g _ (by unfold rU; omega)) (g _ (by unfold rU; omega)), i3.f (g _ (by unfold rU; omega)) (g _ (by unfold rU; omega)), i4.f (g _ (by unfold rU; omega)) (g _ (by unfold rU; omega)), fun t ht p hp => ⟨(i5 t ht p hp).1.pt (g _ (by unfold rU; omega)) (g _ (by unfold rU; omega)) fun f hf => ?_, (i5 t ht p hp).2.pt fun f hf => by rw [h f (Or.inr hf)]⟩, i6.f (g _ (by unfold rU; omega)) (g _ (by unfold rU; omega)) (g _ (by unfold rU; omega)), i7.f (g _ (by unfold rU; omega)) (g _ (by unfold rU; omega)), i8.f (g _ (by unfold rU; omega)) (g _ (by unfold rU; omega)) (g _ (by unfold rU; omega)) (g _ (by unfold rU; omega)) (g _ (by unfold rU; omega)) (g _ (by unfold rU; omega)) (g _ (by unfold rU; omega))⟩
  rcases hf with hf | hf | hf
  · rw [h f (Or.inr hf)]
  · rw [g f (by unfold rU; omega)]
  · rw [g f (by unfold rU; omega)]
/-- a change at one piece -/
theorem xInv.pc {S S2 : zst} {N t p : Nat} (I : xInv N S) (h : ∀ f, rU f → S2 f = S f) (hn : ∀ f, rPz f → ∀ u q, ¬ (u = t ∧ q = p) → S2 f u q = S f u q) (hp : t < 6 → p < 20 → zPI0 S2 t p) : xInvE N S2 t p := by
  obtain ⟨i1, i2, i3, i4, i5, i6, i7, i8⟩ := I
  refine ⟨i1.f (h _ (by unfold rU; omega)) (h _ (by unfold rU; omega)) (h _ (by unfold rU; omega)) (h _ (by unfold rU; omega)), i2.f (h _ (by unfold rU; omega)) (h _ (by unfold rU; omega)) (h _ (by unfold rU; omega)) (h _ (by unfold rU; omega)), i3.f (h _ (by unfold rU; omega)) (h _ (by unfold rU; omega)), i4.f (h _ (by unfold rU; omega)) (h _ (by unfold rU; omega)), fun u hu q hq => ⟨?_, fun e => (i5 u hu q hq).2.pt fun f hf => hn f hf u q e⟩, i6.f (h _ (by unfold rU; omega)) (h _ (by unfold rU; omega)) (h _ (by unfold rU; omega)), i7.f (h _ (by unfold rU; omega)) (h _ (by unfold rU; omega)), i8.f (h _ (by unfold rU; omega)) (h _ (by unfold rU; omega)) (h _ (by unfold rU; omega)) (h _ (by unfold rU; omega)) (h _ (by unfold rU; omega)) (h _ (by unfold rU; omega)) (h _ (by unfold rU; omega))⟩
  by_cases e : u = t ∧ q = p
  · obtain ⟨rfl, rfl⟩ := e
    exact hp hu hq
  · refine (i5 u hu q hq).1.pt (h _ (by unfold rU; omega)) (h _ (by unfold rU; omega)) fun f hf => ?_
    rcases hf with hf | hf | hf
    · exact hn f hf u q e
    · rw [h f (by unfold rU; omega)]
    · rw [h f (by unfold rU; omega)]
/-! feed -/
theorem xAdd1_f {S : zst} {v sh : Int32} {f : Nat} (h1 : ¬ f = 2009) (h2 : ¬ f = 701) : xAdd1 S v sh f = S f := by
  unfold xAdd1
  rw [zu3_r _ h2, zu3_r _ h1]
theorem xAdd_f {S : zst} {v : Int32} {f : Nat} (h1 : ¬ f = 2009) (h2 : ¬ f = 701) : xAdd S v f = S f := by
  unfold xAdd
  rw [xAdd1_f h1 h2, xAdd1_f h1 h2, xAdd1_f h1 h2, xAdd1_f h1 h2]
theorem iAdd1_s {S : zst} {v sh : Int32} {k : Nat} (h : S 701 0 0 = nI k) : xAdd1 S v sh 701 0 0 = nI (k + 1) := by
  unfold xAdd1
  rw [zu3_e, h, nI_1]
theorem iAdd_s {S : zst} {v : Int32} {k : Nat} (h : S 701 0 0 = nI k) : xAdd S v 701 0 0 = nI (k + 4) := by
  unfold xAdd
  exact iAdd1_s (iAdd1_s (iAdd1_s (iAdd1_s h)))
theorem xInv.tape {S S2 : zst} {N : Nat} (I : xInv N S) (h : ∀ f, ¬ f = 701 → rU f ∨ rPz f → S2 f = S f) (hk : ∃ k, k ≤ 400 ∧ S2 701 0 0 = nI k) : xInv N S2 := by
  obtain ⟨i1, i2, i3, i4, i5, i6, i7, i8⟩ := I
  have g : ∀ f, rU f → ¬ f = 701 → S2 f = S f := fun f hf e => h f e (Or.inl hf)
  have g1 := g 904 (by unfold rU; omega) (by decide)
  have g2 := g 808 (by unfold rU; omega) (by decide)
  refine ⟨?_, i2.f g1 (g _ (by unfold rU; omega) (by decide)) (g _ (by unfold rU; omega) (by decide)) (g _ (by unfold rU; omega) (by decide)), i3.f g1 (g _ (by unfold rU; omega) (by decide)), i4.f (g _ (by unfold rU; omega) (by decide)) (g _ (by unfold rU; omega) (by decide)), fun t ht p hp => ⟨(i5 t ht p hp).1.pt g1 g2 fun f hf => ?_, (i5 t ht p hp).2.pt fun f hf => by rw [h f (by unfold rPz at hf; omega) (Or.inr hf)]⟩, i6.f g2 (g _ (by unfold rU; omega) (by decide)) (g _ (by unfold rU; omega) (by decide)), i7.f (g _ (by unfold rU; omega) (by decide)) (g _ (by unfold rU; omega) (by decide)), i8.f (g _ (by unfold rU; omega) (by decide)) (g _ (by unfold rU; omega) (by decide)) (g _ (by unfold rU; omega) (by decide)) (g _ (by unfold rU; omega) (by decide)) (g _ (by unfold rU; omega) (by decide)) (g _ (by unfold rU; omega) (by decide)) (g _ (by unfold rU; omega) (by decide))⟩
  · unfold xCs at *
    rw [g1, g2, g 905 (by unfold rU; omega) (by decide)]
    exact ⟨i1.1, i1.2.1, i1.2.2.1, hk⟩
  · rcases hf with hf | hf | hf
    · rw [h f (by unfold rPz at hf; omega) (Or.inr hf)]
    · rw [g f (by unfold rU; omega) (by omega)]
    · rw [g f (by unfold rU; omega) (by omega)]
theorem rU_t {f : Nat} (h : rU f ∨ rPz f) : ¬ f = 2009 ∧ ¬ f = 2004 ∧ ¬ f = 2005 := by unfold rU rPz at h; omega
theorem xInv.feed {S : zst} {N : Nat} {a b c d e : Int32} (I : xInv N S) : xInv N (rFeed S a b c d e).2 := by
  obtain ⟨k, hk, ek⟩ := I.1.2.2.2
  unfold rFeed
  split
  · rename_i q
    have q2 : k + 20 ≤ 400 := by
      rw [ek, show (20 : Int32) = nI 20 by rfl, nI_add, show (400 : Int32) = nI 400 by rfl, nI_leI (by omega) (by omega)] at q
      exact q
    show xInv N (xFeed S a b c d e)
    unfold xFeed
    refine I.tape (fun f h1 hf => ?_) ⟨k + 20, q2, ?_⟩
    · have h2 := (rU_t hf).1
      rw [xAdd_f h2 h1, xAdd_f h2 h1, xAdd_f h2 h1, xAdd_f h2 h1, xAdd_f h2 h1]
    · exact iAdd_s (iAdd_s (iAdd_s (iAdd_s (iAdd_s ek))))
  · exact I
/-! memory, lot, house, rule, claim -/
theorem xInv.memory {S : zst} {N : Nat} {x k v : Int32} (I : xInv N S) : xInv N (rMemory S x k v).2 := by
  unfold rMemory
  split
  · split
    · split
      · exact I.f fun f hf => zu3_r _ (rU_t hf).2.1
      · exact I
    · exact I
  · exact I
theorem xInv.lot {S : zst} {N : Nat} {x k c v : Int32} (I : xInv N S) : xInv N (rLot S x k c v).2 := by
  unfold rLot
  split
  · split
    · split
      · exact I.f fun f hf => zu3_r _ (rU_t hf).2.2
      · exact I
    · exact I
  · exact I
theorem xInv.house {S : zst} {N : Nat} {c : Int32} (I : xInv N S) : xInv N (rHouse S c).2 := by
  unfold rHouse
  split
  · split
    · rename_i q
      obtain ⟨i1, i2, i3, i4, i5, i6, i7, i8⟩ := I
      obtain ⟨z, hz, ez⟩ := i1.2.1
      have hz8 : z < 8 := by
        rw [ez, show (8 : Int32) = nI 8 by rfl, nI_ltI (by omega) (by omega)] at q
        exact q
      show xInv N (zu3 (zu3 S 300 (S 905 0 0).toNatClampNeg 0 c) 905 0 0 (S 905 0 0 + 1))
      rw [ez, nI_1]
      have g : ∀ f, ¬ f = 300 → ¬ f = 905 → zu3 (zu3 S 300 (nI z).toNatClampNeg 0 c) 905 0 0 (nI (z + 1)) f = S f := fun f h1 h2 => by rw [zu3_r _ h2, zu3_r _ h1]
      have ge : zu3 (zu3 S 300 (nI z).toNatClampNeg 0 c) 905 0 0 (nI (z + 1)) 905 0 0 = nI (z + 1) := zu3_e _ _ _ _ _
      generalize zu3 (zu3 S 300 (nI z).toNatClampNeg 0 c) 905 0 0 (nI (z + 1)) = S2 at *
      refine ⟨?_, i2.f (g _ (by decide) (by decide)) (g _ (by decide) (by decide)) (g _ (by decide) (by decide)) (g _ (by decide) (by decide)), i3.f (g _ (by decide) (by decide)) (g _ (by decide) (by decide)), i4.f (g _ (by decide) (by decide)) (g _ (by decide) (by decide)), fun t ht p hp => ⟨(i5 t ht p hp).1.pt (g _ (by decide) (by decide)) (g _ (by decide) (by decide)) fun f hf => by rw [g f (by unfold rPz at hf; omega) (by unfold rPz at hf; omega)], (i5 t ht p hp).2.pt fun f hf => by rw [g f (by unfold rPz at hf; omega) (by unfold rPz at hf; omega)]⟩, i6.f (g _ (by decide) (by decide)) (g _ (by decide) (by decide)) (g _ (by decide) (by decide)), i7.f (g _ (by decide) (by decide)) (g _ (by decide) (by decide)), ?_⟩
      · unfold xCs at *
        rw [g 904 (by decide) (by decide), g 808 (by decide) (by decide), g 701 (by decide) (by decide)]
        exact ⟨i1.1, ⟨z + 1, by omega, ge⟩, i1.2.2⟩
      · unfold xBI at *
        rw [g 906 (by decide) (by decide), g 2006 (by decide) (by decide), g 2007 (by decide) (by decide), g 2008 (by decide) (by decide), g 2010 (by decide) (by decide), g 2011 (by decide) (by decide)]
        refine ⟨i8.1, i8.2.1, fun x hx y hy => ?_, i8.2.2.2⟩
        obtain ⟨b1, b2, b3, b4⟩ := i8.2.2.1 x hx y hy
        refine ⟨b1, b2, b3, fun q => ?_⟩
        rw [ge]
        have := b4 q
        rw [ez] at this
        exact Int32.lt_trans this (nI_lt (by omega) (by omega))
    · exact I
  · exact I
theorem xInv.rule {S : zst} {N : Nat} {w v : Int32} (I : xInv N S) : xInv N (rRule S w v).2 := by
  unfold rRule
  by_cases qw : xW w 0 2
  · rw [if_pos qw]
    by_cases qv : xW v (if w = 2 then 0 else 1) 100
    · rw [if_pos qv]
      have v0 : xW v 0 100 := ⟨fun z => by
        by_cases e : w = 2
        · rw [if_pos e] at qv
          exact qv.1 z
        · rw [if_neg e] at qv
          exact qv.1 (Int32.lt_trans z (by decide)), qv.2⟩
      obtain ⟨w1, w2⟩ := xW_n (n := 100) v0 (by decide)
      obtain ⟨i1, i2, i3, i4, i5, i6, i7, i8⟩ := I
      show xInv N (zu3 S 2001 0 w.toNatClampNeg v)
      have g : ∀ f, ¬ f = 2001 → zu3 S 2001 0 w.toNatClampNeg v f = S f := fun f h1 => zu3_r _ h1
      refine ⟨i1.f (g _ (by decide)) (g _ (by decide)) (g _ (by decide)) (g _ (by decide)), i2.f (g _ (by decide)) (g _ (by decide)) (g _ (by decide)) (g _ (by decide)), i3.f (g _ (by decide)) (g _ (by decide)), ?_, fun t ht p hp => ⟨(i5 t ht p hp).1.pt (g _ (by decide)) (g _ (by decide)) fun f hf => by rw [g f (by unfold rPz at hf; omega)], (i5 t ht p hp).2.pt fun f hf => by rw [g f (by unfold rPz at hf; omega)]⟩, i6.f (g _ (by decide)) (g _ (by decide)) (g _ (by decide)), i7.f (g _ (by decide)) (g _ (by decide)), i8.f (g _ (by decide)) (g _ (by decide)) (g _ (by decide)) (g _ (by decide)) (g _ (by decide)) (g _ (by decide)) (g _ (by decide))⟩
      obtain ⟨g1, g2, g3, g4⟩ := i4
      refine ⟨by rw [zu3_n _ (by decide)]; exact g1, ?_, ?_, ?_⟩
      · rw [zu3_a]
        split
        · exact ⟨_, by omega, w2.symm⟩
        · exact g2
      · rw [zu3_a]
        split
        · exact ⟨_, by omega, w2.symm⟩
        · exact g3
      · rw [zu3_a]
        split
        · exact ⟨_, by omega, w2.symm⟩
        · exact g4
    · rw [if_neg qv]
      exact I
  · rw [if_neg qw]
    exact I
theorem xInv.claim {S : zst} {N : Nat} {x y v : Int32} (I : xInv N S) : xInv N (rClaim S x y v).2 := by
  unfold rClaim
  split
  · rename_i q1
    split
    · rename_i q2
      split
      · rename_i q3
        obtain ⟨ht, ex, hc⟩ := xT_n q1
        obtain ⟨hp, ey, hh⟩ := xP_n q2
        show xInv N (xClaim S x.toNatClampNeg y.toNatClampNeg v)
        generalize x.toNatClampNeg = t at *
        generalize y.toNatClampNeg = p at *
        unfold xClaim
        have P := (I.2.2.2.2.1 t ht p hp).1
        obtain ⟨p1, p2, p3, p4, p5, p6, p7, p8, p9, p10, p11⟩ := P
        obtain ⟨n, hn, en⟩ := I.2.2.2.1.1
        refine (I.pc (t := t) (p := p) (fun f hf => ?_) (fun f hf u q e => ?_) (fun _ _ => ?_)).full (fun _ _ => ?_)
        · unfold rU at hf
          rw [zu3_r _ (by omega), zu3_r _ (by omega), zu3_r _ (by omega)]
        · have ne : ∀ g : Nat, ¬ (f = g ∧ u = t ∧ q = p) := fun g z => e z.2
          simp only [zu3_a, ne, if_false]
        · unfold zPI0 xHas
          simp only [zu3_a, Nat.reduceEqDiff, false_and, and_self, if_true, if_false]
          refine ⟨⟨2, by omega, rfl⟩, fun z => absurd ⟨hc, hh⟩ z, fun z => absurd z (by decide), fun z => absurd z (by decide), fun _ => p5 (by rw [q3]; decide), fun z => absurd z (by decide), p7, p8, ⟨n, by omega, en⟩, p10, p11⟩
        · intro z
          simp only [zu3_a, Nat.reduceEqDiff, false_and, and_self, if_true, if_false] at z
          exact absurd z (by decide)
      · exact I
    · exact I
  · exact I
