/-! THE LAW'S LOOP: one command -/
def zLI (B b L : Nat) (xs : Nat → Int32) (N : Nat) (S : zst) (M : mst) (h : zH) : Prop := zXR B S h ∧ zMH (B + 706) M h ∧ Rel S M ∧ xInv N S ∧ zS h = none ∧ (zK h (B + 749) = 103 ∧ zN h (B + 749) = 1) ∧ zK h b = 200 ∧ zN h b = L ∧ ∀ j, zA h b j = xs j
/-- behind the wrapper -/
theorem zLI.wf {B b L N : Nat} {xs : Nat → Int32} {S S2 : zst} {M : mst} {h g : zH} (I : zLI B b L xs N S M h) (hb : b < B) (F : zWf B (B + 749) h g) (H : zXR B S2 g) : zMH (B + 706) M g ∧ zS g = none ∧ (zK g (B + 749) = 103 ∧ zN g (B + 749) = 1) ∧ zK g b = 200 ∧ zN g b = L ∧ ∀ j, zA g b j = xs j := by
  obtain ⟨i1, i2, i3, i4, i5, ⟨i6, i7⟩, i8, i9, i10⟩ := I
  obtain ⟨g0, F, e⟩ := F
  have k : zMH (B + 706) M g0 ∧ zS g0 = none ∧ (zK g0 (B + 749) = 103 ∧ zN g0 (B + 749) = 1) ∧ zK g0 b = 200 ∧ zN g0 b = L ∧ ∀ j, zA g0 b j = xs j := by
    refine ⟨i2.fr F (Nat.le_refl _), F.1.trans i5, ⟨by rw [F.2.2.1]; exact i6, by rw [F.2.2.2.1]; exact i7⟩, by rw [F.2.2.1]; exact i8, by rw [F.2.2.2.1]; exact i9, fun j => ?_⟩
    rw [(F.2.1 b (Or.inl hb)).2.2.2.1]
    exact i10 j
  rcases e with rfl | ⟨v, rfl⟩
  · exact k
  · exact ⟨k.1.sB, k.2⟩
/-- behind the model's call -/
theorem zLI.fm {B b L N : Nat} {xs : Nat → Int32} {S2 : zst} {M2 : mst} {g g2 : zH} (hb : b < B) (F : zFM (B + 706) g g2) (H : zXR B S2 g) (HM : zMH (B + 706) M2 g2) (R : Rel S2 M2) (I : xInv N S2) (k2 : zS g = none) (k3 : zK g (B + 749) = 103 ∧ zN g (B + 749) = 1) (k4 : zK g b = 200) (k5 : zN g b = L) (k6 : ∀ j, zA g b j = xs j) : zLI B b L xs N S2 M2 g2 ∧ zB g2 (B + 749) = zB g (B + 749) := by
  refine ⟨⟨H.fm F (Nat.le_refl _), HM, R, I, F.1.trans k2, ⟨by rw [F.2.2.1]; exact k3.1, by rw [F.2.2.2.1]; exact k3.2⟩, by rw [F.2.2.1]; exact k4, by rw [F.2.2.2.1]; exact k5, fun j => ?_⟩, (F.2.1 _ (Or.inr (by omega))).2.2.2.2⟩
  rw [(F.2.1 b (Or.inl (by omega))).2.2.2.1]
  exact k6 j
