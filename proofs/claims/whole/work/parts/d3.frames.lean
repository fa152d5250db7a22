/-! WHAT LIES ELSEWHERE STAYS -/
theorem zTS.in {B t : Nat} {h g : zH} (ht : t < 6) (hK : zK g = zK h) (hN : zN g = zN h) (hR : zR g = zR h) (hP : ∀ a, B ≤ a → a < B + 706 → zP g a = zP h a) (S : zTS B t h) : zTS B t g := by
  obtain ⟨k1, k2, k3⟩ := S
  have p1 := hP (aTask B t) (by unfold aTask; omega) (by unfold aTask; omega)
  refine ⟨?_, ?_, fun p hp => ?_⟩
  · simp only [zTk, zIA, hK, hN, hR, p1] at k1 ⊢
    exact k1
  · simp only [zLt, zIA, hK, hN, hR] at k2 ⊢
    exact k2
  · have p2 := hP (aPc B t p) (by unfold aPc; omega) (by unfold aPc; omega)
    have k4 := k3 p hp
    simp only [zIA, hK, hN, hR, p2] at k4 ⊢
    exact k4
theorem zXS.in {B : Nat} {h g : zH} (hK : zK g = zK h) (hN : zN g = zN h) (hR : zR g = zR h) (hP : ∀ a, B ≤ a → a < B + 706 → zP g a = zP h a) (S : zXS B h) : zXS B g := by
  obtain ⟨s1, s2, s3, s4, s5, s6, s7, s8, s9⟩ := S
  have q1 := hP (aHall B) (by unfold aHall; omega) (by unfold aHall; omega)
  have q2 := hP (aComp B) (by unfold aComp; omega) (by unfold aComp; omega)
  have q3 := hP (aTape B) (by unfold aTape; omega) (by unfold aTape; omega)
  have q4 := hP (aCourt B) (by unfold aCourt; omega) (by unfold aCourt; omega)
  have q5 := hP (aMach B) (by unfold aMach; omega) (by unfold aMach; omega)
  have q6 := hP (aChoo B) (by unfold aChoo; omega) (by unfold aChoo; omega)
  refine ⟨?_, ?_, ?_, ?_, ?_, ?_, ?_, ?_, fun t ht => ⟨?_, zTS.in ht hK hN hR hP (s9 t ht).2⟩⟩
  · simp only [hK, q1]; exact s1
  · simp only [zIA, hK, hN, q2]; exact s2
  · simp only [zIA, hK, hN, q3]; exact s3
  · simp only [zIA, hK, hN, q4]; exact s4
  · simp only [zMc, hK, hN, q5]; exact s5
  · simp only [hK, hR]; exact s6
  · simp only [zIA, hK, hN, q6]; exact s7
  · simp only [hK, hN]; exact s8
  · rw [hR]; exact (s9 t ht).1
theorem zMI.in {B : Nat} {h g : zH} (hI : ∀ a, B ≤ a → a < B + 706 → zI g a = zI h a) (hA : ∀ a, B ≤ a → a < B + 706 → zA g a = zA h a) (hP : ∀ a, B ≤ a → a < B + 706 → zP g a = zP h a) (M : zMI B h) : zMI B g := by
  obtain ⟨m1, m2, m3, m4⟩ := M
  have a1 := hA (aCells B) (by unfold aCells; omega) (by unfold aCells; omega)
  have a2 := hA (aOuts B) (by unfold aOuts; omega) (by unfold aOuts; omega)
  have p1 := hP (aMach B) (by unfold aMach; omega) (by unfold aMach; omega)
  have i1 := hI (aMach B) (by unfold aMach; omega) (by unfold aMach; omega)
  have i2 := hI (aHall B) (by unfold aHall; omega) (by unfold aHall; omega)
  refine ⟨by rw [a1]; exact m1, by rw [a2]; exact m2, fun t ht => ?_, fun b hb => ?_⟩
  · have a3 := hA (aKin B t) (by unfold aKin; omega) (by unfold aKin; omega)
    have a4 := hA (aNum B t) (by unfold aNum; omega) (by unfold aNum; omega)
    have a5 := hA (aMem B t) (by unfold aMem; omega) (by unfold aMem; omega)
    have i3 := hI (aTask B t) (by unfold aTask; omega) (by unfold aTask; omega)
    have k := m3 t ht
    simp only [zCache, a1, a2, a3, a4, a5, i1, i3, p1] at k ⊢
    exact k
  · rw [p1] at hb
    obtain ⟨t, h1, h2, h3⟩ := m4 b hb
    exact ⟨t, h1, h2, by rw [i2]; exact h3⟩
theorem zCallW.mono {l : Launch} {G : zG} {y : zM} {hh : zHh} {d : Nat} {as : List Value} {h : zH} {Q Q2 : zO → zH → Prop} (H : zCallW l G y hh d as h Q) (hm : ∀ o g, Q o g → Q2 o g) : zCallW l G y hh d as h Q2 := fun hf => by
  obtain ⟨d', h1, h2⟩ := H hf
  refine ⟨d', h1, fun p e a1 a2 a3 s m args below a4 a5 a6 a7 => ?_⟩
  obtain ⟨n, o, b1, b2, b3, ⟨⟨v, h', hv, hQ, hq⟩, hF⟩, b5⟩ := h2 p e a1 a2 a3 s m args below a4 a5 a6 a7
  exact ⟨n, o, b1, b2, b3, ⟨⟨v, h', hv, hm _ _ hQ, hq⟩, hF⟩, b5⟩
theorem zMH.sB {D o k : Nat} {M : mst} {g : zH} {v : Int64} (H : zMH D M g) : zMH D M (zsB g o k v) := H
theorem xaI_w {B f i k : Nat} (d : xdI f i k) : B ≤ xaI B f i k ∧ xaI B f i k < B + 706 := by
  unfold xdI at d
  rcases d with d | d | d | d | d | d | d
  · rw [xa_2 d.1]; unfold aCourt; omega
  · rw [xa_3 d.1]; unfold aHouse; omega
  · rw [xa_5 d.1]; unfold aPc; omega
  · rw [xa_6 d.1]; unfold aQu; omega
  · rw [xa_7 (by rw [d.1])]; unfold aTape; omega
  · rw [xa_8 d.1]; unfold aTask; omega
  · rw [xa_9 d.1]; unfold aHall; omega
theorem xaA_wd {B f i : Nat} (d : xdA f i) : B ≤ xaA B f i ∧ xaA B f i < B + 706 := by
  unfold xdA at d
  rcases d with ⟨rfl, d⟩ | ⟨rfl, d⟩ | ⟨rfl, d⟩ | ⟨rfl, d⟩ | ⟨rfl, d⟩ | ⟨rfl, d⟩ | ⟨rfl, d⟩ | ⟨rfl, d⟩ | ⟨rfl, d⟩ | ⟨rfl, d⟩ | ⟨rfl, d⟩
  · rw [xa_1]; unfold aRules; omega
  · rw [xa_k]; unfold aKin; omega
  · rw [xa_n]; unfold aNum; omega
  · rw [xa_m]; unfold aMem; omega
  · rw [xa_l]; unfold aLot; omega
  · rw [xa_p]; unfold aBP; omega
  · rw [xa_h]; unfold aBH; omega
  · rw [xa_d]; unfold aBL; omega
  · rw [xa_t]; unfold aTByt; omega
  · rw [xa_u]; unfold aHHrs; omega
  · show B ≤ aHPl B ∧ aHPl B < B + 706
    unfold aHPl; omega
theorem RX.in {B : Nat} {S : zst} {h g : zH} (hI : ∀ a, B ≤ a → a < B + 706 → zI g a = zI h a) (hA : ∀ a, B ≤ a → a < B + 706 → zA g a = zA h a) (R : RX B S h) : RX B S g := by
  refine ⟨fun f i k d => ?_, fun f i d => ?_⟩
  · rw [hI _ (xaI_w d).1 (xaI_w d).2]
    exact R.1 f i k d
  · rw [hA _ (xaA_wd d).1 (xaA_wd d).2]
    exact R.2 f i d
/-- X's state stays where the model's cells change -/
theorem zXR.fm {B D : Nat} {S : zst} {h g : zH} (F : zFM D h g) (hD : B + 706 ≤ D) (H : zXR B S h) : zXR B S g := by
  obtain ⟨f1, f2, f3, f4, f5⟩ := F
  have e : ∀ a, B ≤ a → a < B + 706 → zI g a = zI h a ∧ zL g a = zL h a ∧ zP g a = zP h a ∧ zA g a = zA h a ∧ zB g a = zB h a := fun a h1 h2 => f2 a (Or.inl (by omega))
  exact ⟨H.1.in f3 f4 f5 fun a h1 h2 => (e a h1 h2).2.2.1, H.2.1.in (fun a h1 h2 => (e a h1 h2).1) fun a h1 h2 => (e a h1 h2).2.2.2.1, H.2.2.in (fun a h1 h2 => (e a h1 h2).1) (fun a h1 h2 => (e a h1 h2).2.2.2.1) fun a h1 h2 => (e a h1 h2).2.2.1⟩
theorem mA_wd {D k : Nat} (hk : mOk k) : D ≤ mA D k ∧ mA D k < D + 43 := by
  unfold mOk at hk
  unfold mA
  split
  · omega
  · split
    · omega
    · split
      · omega
      · split <;> omega
/-- the model's rows stay where X's cells change -/
theorem zMH.fr {B D : Nat} {M : mst} {h g : zH} (F : zFr B h g) (hD : B + 706 ≤ D) (H : zMH D M h) : zMH D M g := by
  obtain ⟨f1, f2, f3, f4, f5⟩ := F
  obtain ⟨⟨s1, s2⟩, h2, h3, h4, h5⟩ := H
  have eD := f2 D (Or.inr (by omega))
  refine ⟨⟨by rw [f3]; exact s1, fun k hk => ?_⟩, fun k hk => ?_, fun f hf => by rw [eD.1]; exact h3 f hf, h4, h5⟩
  · rw [eD.2.2.1, f3, f4]
    exact s2 k hk
  · rw [(f2 (mA D k) (Or.inr (by have := (mA_wd (D := D) hk).1; omega))).2.2.2.1]
    exact h2 k hk
