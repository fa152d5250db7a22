/-! WHAT LIES ELSEWHERE STAYS -/
theorem zTS.in {B t : Nat} {h g : zH} (ht : t < 6) (hK : zK g = zK h) (hN : zN g = zN h) (hR : zR g = zR h) (hP : ∀ a, B ≤ a → a < B + 706 → zP g a = zP h a) (S : zTS B t h) : zTS B t g := by
  obtain ⟨k1, k2, k3⟩ := S
  have p1 := hP (aTask B t) (by unfold aTask; omega) (by unfold aTask; omega)
  refine ⟨?_, ?_, fun p hp => ?_⟩
  · simp only [zTk, zIA, hK, hN, hR, p1] at k1 ⊢
    exact k1
  · simp only [zLt, zIA, hK, hN, hR] at k2 ⊢
    exact k2
  · have p2 := hP (aPc B t p) (by unfold aPc; omega) (by unfold aPc; omega)
    have k4 := k3 p hp
    simp only [zIA, hK, hN, hR, p2] at k4 ⊢
    exact k4
theorem zXS.in {B : Nat} {h g : zH} (hK : zK g = zK h) (hN : zN g = zN h) (hR : zR g = zR h) (hP : ∀ a, B ≤ a → a < B + 706 → zP g a = zP h a) (S : zXS B h) : zXS B g := by
  obtain ⟨s1, s2, s3, s4, s5, s6, s7, s8, s9⟩ := S
  have q1 := hP (aHall B) (by unfold aHall; omega) (by unfold aHall; omega)
  have q2 := hP (aComp B) (by unfold aComp; omega) (by unfold aComp; omega)
  have q3 := hP (aTape B) (by unfold aTape; omega) (by unfold aTape; omega)
  have q4 := hP (aCourt B) (by unfold aCourt; omega) (by unfold aCourt; omega)
  have q5 := hP (aMach B) (by unfold aMach; omega) (by unfold aMach; omega)
  have q6 := hP (aChoo B) (by unfold aChoo; omega) (by unfold aChoo; omega)
  refine ⟨?_, ?_, ?_, ?_, ?_, ?_, ?_, ?_, fun t ht => ⟨?_, zTS.in ht hK hN hR hP (s9 t ht).2⟩⟩
  · simp only [hK, q1]; exact s1
  · simp only [zIA, hK, hN, q2]; exact s2
  · simp only [zIA, hK, hN, q3]; exact s3
  · simp only [zIA, hK, hN, q4]; exact s4
  · simp only [zMc, hK, hN, q5]; exact s5
  · simp only [hK, hR]; exact s6
  · simp only [zIA, hK, hN, q6]; exact s7
  · simp only [hK, hN]; exact s8
  · rw [hR]; exact (s9 t ht).1
theorem zMI.in {B : Nat} {h g : zH} (hI : ∀ a, B ≤ a → a < B + 706 → zI g a = zI h a) (hA : ∀ a, B ≤ a → a < B + 706 → zA g a = zA h a) (hP : ∀ a, B ≤ a → a < B + 706 → zP g a = zP h a) (M : zMI B h) : zMI B g := by
  obtain ⟨m1, m2, m3, m4⟩ := M
  have a1 := hA (aCells B) (by unfold aCells; omega) (by unfold aCells; omega)
  have a2 := hA (aOuts B) (by unfold aOuts; omega) (by unfold aOuts; omega)
  have p1 := hP (aMach B) (by unfold aMach; omega) (by unfold aMach; omega)
  have i1 := hI (aMach B) (by unfold aMach; omega) (by unfold aMach; omega)
  have i2 := hI (aHall B) (by unfold aHall; omega) (by unfold aHall; omega)
  refine ⟨by rw [a1]; exact m1, by rw [a2]; exact m2, fun t ht => ?_, fun b hb => ?_⟩
  · have a3 := hA (aKin B t) (by unfold aKin; omega) (by unfold aKin; omega)
    have a4 := hA (aNum B t) (by unfold aNum; omega) (by unfold aNum; omega)
    have a5 := hA (aMem B t) (by unfold aMem; omega) (by unfold aMem; omega)
    have i3 := hI (aTask B t) (by unfold aTask; omega) (by unfold aTask; omega)
    have k := m3 t ht
    simp only [zCache, a1, a2, a3, a4, a5, i1, i3, p1] at k ⊢
    exact k
  · rw [p1] at hb
    obtain ⟨t, h1, h2, h3⟩ := m4 b hb
    exact ⟨t, h1, h2, by rw [i2]; exact h3⟩
theorem zCallW.mono {l : Launch} {G : zG} {y : zM} {hh : zHh} {d : Nat} {as : List Value} {h : zH} {Q Q2 : zO → zH → Prop} (H : zCallW l G y hh d as h Q) (hm : ∀ o g, Q o g → Q2 o g) : zCallW l G y hh d as h Q2 := fun hf => by
  obtain ⟨d', h1, h2⟩ := H hf
  refine ⟨d', h1, fun p e a1 a2 a3 s m args below a4 a5 a6 a7 => ?_⟩
  obtain ⟨n, o, b1, b2, b3, ⟨⟨v, h', hv, hQ, hq⟩, hF⟩, b5⟩ := h2 p e a1 a2 a3 s m args below a4 a5 a6 a7
  exact ⟨n, o, b1, b2, b3, ⟨⟨v, h', hv, hm _ _ hQ, hq⟩, hF⟩, b5⟩
theorem zMH.sB {D o k : Nat} {M : mst} {g : zH} {v : Int64} (H : zMH D M g) : zMH D M (zsB g o k v) := H
