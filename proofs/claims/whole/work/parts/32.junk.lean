/-! NOTHING IS WRITTEN BEHIND THE ROWS' ENDS -/
def zJk (n : Nat) (C : zcells) : Prop := ∀ j, n ≤ j → C j = 0
theorem zJk.up {n k : Nat} {C : zcells} {v : Int32} (h : zJk n C) (hk : k < n) : zJk n (zup C k v) := fun j hj => by
  rw [zup_n _ _ _ (by omega)]
  exact h j hj
theorem mcPush_jk {C : zcells} {v : Int32} (h : zJk 128 C) : zJk 128 (mcPush C v) := by
  unfold mcPush
  split
  · rename_i q
    exact (h.up (zin_ap (c := 32) (n := 128) q.1 q.2 (by decide) (by decide) (by decide)).2).up (by omega)
  · exact h
theorem mcPop_jk {C : zcells} (h : zJk 128 C) : zJk 128 (mcPop C) := by
  unfold mcPop
  split
  · rename_i q
    obtain ⟨q1, q2⟩ := q
    refine (h.up ?_).up (by omega)
    rw [Int32.le_iff_toInt_le] at q1
    rw [Int32.lt_iff_toInt_lt] at q2
    have e0 : (0 : Int32).toInt = 0 := by decide
    have e1 : (1 : Int32).toInt = 1 := by decide
    have e32 : (32 : Int32).toInt = 32 := by decide
    have g1 := zadd_toInt (a := 32) (b := C 1) (by omega) (by omega)
    have g2 := zsub_toInt (a := 32 + C 1) (b := 1) (by omega) (by omega)
    show (32 + C 1 - 1).toInt.toNat < 128
    omega
  · exact h
theorem mcStepC_jk {k n : Int32} {C : zcells} (h : zJk 128 C) : zJk 128 (mcStepC k n C) := by
  have a1 : ∀ x : Int32, (4 + (x &&& 7)).toNatClampNeg < 128 := fun x => (zin_and (x := x) (c := 4) (m := 7) (n := 128) (by decide) (by decide) (by decide) (by decide)).2
  have a2 : ∀ x : Int32, (64 + (x &&& 63)).toNatClampNeg < 128 := fun x => (zin_and (x := x) (c := 64) (m := 63) (n := 128) (by decide) (by decide) (by decide) (by decide)).2
  have h0 : zJk 128 (zup C 0 (C 0 + 1)) := h.up (by omega)
  unfold mcStepC
  generalize zup C 0 (C 0 + 1) = D at h0
  simp only
  split
  · exact mcPush_jk h0
  split
  · exact mcPush_jk h0
  split
  · exact (mcPop_jk h0).up (a1 _)
  split
  · exact mcPush_jk (mcPop_jk h0)
  split
  · exact (mcPop_jk (mcPop_jk h0)).up (a2 _)
  split
  · exact h0.up (by omega)
  split
  · split
    · exact (mcPop_jk h0).up (by omega)
    · exact mcPop_jk h0
  split
  · unfold mcOutC
    exact ((mcPop_jk h0).up (by omega)).up (by omega)
  · exact mcPush_jk (mcPop_jk (mcPop_jk h0))
theorem mcStepO_jk {k : Int32} {C O : zcells} (h : zJk 10 O) : zJk 10 (mcStepO k C O) := by
  unfold mcStepO
  split
  · unfold mcOutO
    split
    · rename_i q
      exact h.up (zin_lt (n := 10) q.1 q.2 (by decide)).2
    · exact h
  · exact h
theorem mcRun_jk {kd nb : zcells} {n : Int32} : ∀ (f : Nat) (S : zcells × zcells), zJk 128 S.1 → zJk 10 S.2 → zJk 128 (mcRun kd nb n f S).1.1 ∧ zJk 10 (mcRun kd nb n f S).1.2
  | 0, S, h1, h2 => ⟨h1, h2⟩
  | f + 1, S, h1, h2 => by
    unfold mcRun
    split
    · exact ⟨h1, h2⟩
    · exact mcRun_jk f _ (mcStepC_jk h1) (mcStepO_jk h2)
theorem mcInit_jk (m : zcells) : zJk 128 (mcInit m) := fun j hj => if_neg (by omega)
theorem zz_jk (n : Nat) : zJk n zz := fun _ _ => rfl
/-! the tree's root rests on the pages' sums alone -/
theorem mcLeaf_i {C T U : zcells} {j : Nat} (hj : 16 ≤ j ∧ j < 32) : mcLeaf C T 16 j = mcLeaf C U 16 j := by
  unfold mcLeaf
  rw [if_pos (by omega), if_pos (by omega)]
theorem mcNode_i : ∀ (k : Nat) (T U : zcells), k < 16 → (∀ j, k < j → j < 32 → T j = U j) → ∀ j, 1 ≤ j → j < 32 → mcNode k T j = mcNode k U j
  | 0, T, U, _, h, j, h1, h2 => h j h1 h2
  | k + 1, T, U, hk, h, j, h1, h2 => by
    unfold mcNode
    refine mcNode_i k _ _ (by omega) (fun i hi hi2 => ?_) j h1 h2
    rw [zup_ap, zup_ap]
    by_cases e : i = k + 1
    · rw [if_pos e, if_pos e, h _ (by omega) (by omega), h _ (by omega) (by omega)]
    · rw [if_neg e, if_neg e]
      exact h i (by omega) hi2
theorem mcTree_i {C T U : zcells} {j : Nat} (h1 : 1 ≤ j) (h2 : j < 32) : mcTree C T j = mcTree C U j := by
  unfold mcTree
  refine mcNode_i 15 _ _ (by omega) (fun i hi hi2 => mcLeaf_i (by omega)) j h1 h2
/-! THE MACHINE, over states -/
/-- the run of task t -/
def xRun (S : zst) (t n : Nat) : (zcells × zcells) × Nat := mcRun (S 2002 t) (S 2003 t) (S 805 t 0) n (mcInit (S 2004 t), zz)
def xSum (S : zst) (t n : Nat) : Int32 := mcTree (xRun S t n).1.1 zz 1
def xLen (S : zst) (t : Nat) : Int32 := if mcHalt (S 2002 t) (S 805 t 0) (xRun S t 20000).1.1 then nI (xRun S t 20000).2 else -1
theorem zXS.mc {B h} (S : zXS B h) : zMc h (aMach B) (aCells B) (aOuts B) (aTree B) := S.2.2.2.2.1
theorem zXR.mt {B S h t} (H : zXR B S h) (ht : t < 6) : zMT h (aMach B) (aCells B) (aOuts B) (aTree B) (aTask B t) (aKin B t) (aNum B t) (aMem B t) (aLots B t) (aPcs B t) :=
  ⟨H.1.mc, H.1.tk ht, by unfold aKin aNum aMem aCells aOuts; omega, H.2.2.1, H.2.2.2.1, H.2.2.2.2.1 t ht⟩
theorem zXR.run {B S h t n} (H : zXR B S h) (ht : t < 6) : zRun h (aTask B t) (aKin B t) (aNum B t) (aMem B t) n = xRun S t n := by
  have e1 := H.2.1.2 2002 t (by unfold xdA; omega)
  have e2 := H.2.1.2 2003 t (by unfold xdA; omega)
  have e3 := H.2.1.2 2004 t (by unfold xdA; omega)
  rw [xa_k] at e1
  rw [xa_n] at e2
  rw [xa_m] at e3
  unfold zRun xRun
  rw [e1, e2, e3, H.2.1.r8 (by decide) ht]
