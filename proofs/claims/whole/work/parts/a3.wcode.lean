/-! WHAT THE PARSER MAKES CAN BE RUN: pieces of code, from one height of the pile to another -/
def wNy (kd nb : Int32) (a b : Nat) (dp : Nat → Nat) (pc : Nat) : Prop := ((kd = 1 ∨ kd = 2) → dp (pc + 1) = dp pc + 1) ∧ ((kd = 3 ∨ wOpr kd ∨ kd = 15 ∨ kd = 16) → dp (pc + 1) + 1 = dp pc) ∧ (kd = 4 → dp (pc + 1) = dp pc) ∧ (kd = 5 → dp (pc + 1) + 2 = dp pc) ∧ (kd = 14 → ∃ to, a ≤ to ∧ to ≤ b ∧ nb = nI to ∧ dp to = dp pc) ∧ (kd = 15 → ∃ to, a ≤ to ∧ to ≤ b ∧ nb = nI to ∧ dp to + 1 = dp pc)
def wFr (K N : zcells) (a b k j : Nat) : Prop := a ≤ b ∧ ∃ dp : Nat → Nat, dp a = k ∧ dp b = j ∧ (∀ i, a ≤ i → i ≤ b → dp i ≤ 32) ∧ ∀ pc, a ≤ pc → pc < b → wOp (K pc) (N pc) (dp pc) ∧ wNy (K pc) (N pc) a b dp pc
theorem wNy.up {kd nb : Int32} {a b c e : Nat} {dp dq : Nat → Nat} {pc : Nat} (W : wNy kd nb a b dp pc) (h1 : c ≤ a) (h2 : b ≤ e) (h3 : a ≤ pc) (h4 : pc < b) (hd : ∀ i, a ≤ i → i ≤ b → dq i = dp i) : wNy kd nb c e dq pc := by
  obtain ⟨x1, x2, x3, x4, x5, x6⟩ := W
  have e1 := hd pc h3 (by omega)
  have e2 := hd (pc + 1) (by omega) (by omega)
  unfold wNy
  rw [e1, e2]
  refine ⟨x1, x2, x3, x4, fun q => ?_, fun q => ?_⟩
  · obtain ⟨to, t1, t2, t3, t4⟩ := x5 q
    exact ⟨to, by omega, by omega, t3, by rw [hd to t1 t2]; exact t4⟩
  · obtain ⟨to, t1, t2, t3, t4⟩ := x6 q
    exact ⟨to, by omega, by omega, t3, by rw [hd to t1 t2]; exact t4⟩
theorem wFr.eq {K N K2 N2 : zcells} {a b k j : Nat} (F : wFr K N a b k j) (h : ∀ i, a ≤ i → i < b → K2 i = K i ∧ N2 i = N i) : wFr K2 N2 a b k j := by
  obtain ⟨h0, dp, h1, h2, h3, h4⟩ := F
  refine ⟨h0, dp, h1, h2, h3, fun pc p1 p2 => ?_⟩
  rw [(h pc p1 p2).1, (h pc p1 p2).2]
  exact h4 pc p1 p2
theorem wFr.rf {K N : zcells} {a k : Nat} (hk : k ≤ 32) : wFr K N a a k k := ⟨Nat.le_refl _, fun _ => k, rfl, rfl, fun _ _ _ => hk, fun pc p1 p2 => absurd p2 (by omega)⟩
theorem wFr.tr {K N : zcells} {a b c k j l : Nat} (F : wFr K N a b k j) (E : wFr K N b c j l) : wFr K N a c k l := by
  obtain ⟨h0, dp, h1, h2, h3, h4⟩ := F
  obtain ⟨g0, dq, g1, g2, g3, g4⟩ := E
  obtain ⟨D, hD⟩ : ∃ D : Nat → Nat, ∀ i, D i = if i < b then dp i else dq i := ⟨_, fun _ => rfl⟩
  have d1 : ∀ i, a ≤ i → i ≤ b → D i = dp i := fun i i1 i2 => by
    rw [hD]
    by_cases q : i < b
    · rw [if_pos q]
    · rw [if_neg q, show i = b by omega, g1, h2]
  have d2 : ∀ i, b ≤ i → i ≤ c → D i = dq i := fun i i1 i2 => by rw [hD, if_neg (by omega)]
  refine ⟨by omega, D, ?_, ?_, fun i i1 i2 => ?_, fun pc p1 p2 => ?_⟩
  · rw [d1 a (by omega) h0, h1]
  · rw [d2 c g0 (by omega), g2]
  · by_cases q : i ≤ b
    · rw [d1 i i1 q]
      exact h3 i i1 q
    · rw [d2 i (by omega) i2]
      exact g3 i (by omega) i2
  · by_cases q : pc < b
    · rw [d1 pc p1 (by omega)]
      exact ⟨(h4 pc p1 q).1, (h4 pc p1 q).2.up (by omega) g0 p1 q d1⟩
    · rw [d2 pc (by omega) (by omega)]
      exact ⟨(g4 pc (by omega) p2).1, (g4 pc (by omega) p2).2.up h0 (by omega) (by omega) p2 d2⟩
/-- one step that is no jump -/
theorem wFr.one {K N : zcells} {a k j : Nat} (hk : k ≤ 32) (hj : j ≤ 32) (h : ((K a = 1 ∨ (K a = 2 ∧ ∃ v, v < 8 ∧ N a = nI v)) ∧ j = k + 1) ∨ (((K a = 3 ∧ ∃ v, v < 8 ∧ N a = nI v) ∨ K a = 16) ∧ j + 1 = k) ∨ (wOpr (K a) ∧ 1 ≤ j ∧ j + 1 = k) ∨ (K a = 4 ∧ 1 ≤ k ∧ j = k) ∨ (K a = 5 ∧ j + 2 = k)) : wFr K N a (a + 1) k j := by
  obtain ⟨D, e1, e2⟩ : ∃ D : Nat → Nat, D a = k ∧ D (a + 1) = j := ⟨fun i => if i = a then k else j, if_pos rfl, if_neg (by omega)⟩
  refine ⟨by omega, D, e1, e2, fun i i1 i2 => ?_, fun pc p1 p2 => ?_⟩
  · rcases (show i = a ∨ i = a + 1 by omega) with rfl | rfl
    · rw [e1]
      exact hk
    · rw [e2]
      exact hj
  · have e : pc = a := by omega
    subst e
    unfold wNy
    rw [e1, e2]
    rcases h with ⟨h | ⟨h, hv⟩, e⟩ | ⟨⟨h, hv⟩ | h, e⟩ | ⟨h, h1, e⟩ | ⟨h, h1, e⟩ | ⟨h, e⟩
    · rw [h]
      exact ⟨Or.inr (Or.inl ⟨rfl, by omega⟩), fun _ => e, fun z => absurd z (by unfold wOpr; decide), fun z => absurd z (by decide), fun z => absurd z (by decide), fun z => absurd z (by decide), fun z => absurd z (by decide)⟩
    · rw [h]
      exact ⟨Or.inr (Or.inr (Or.inl ⟨rfl, by omega, hv⟩)), fun _ => e, fun z => absurd z (by unfold wOpr; decide), fun z => absurd z (by decide), fun z => absurd z (by decide), fun z => absurd z (by decide), fun z => absurd z (by decide)⟩
    · rw [h]
      exact ⟨Or.inr (Or.inr (Or.inr (Or.inl ⟨rfl, by omega, hv⟩))), fun z => absurd z (by decide), fun _ => e, fun z => absurd z (by decide), fun z => absurd z (by decide), fun z => absurd z (by decide), fun z => absurd z (by decide)⟩
    · rw [h]
      refine ⟨?_, fun z => absurd z (by decide), fun _ => e, fun z => absurd z (by decide), fun z => absurd z (by decide), fun z => absurd z (by decide), fun z => absurd z (by decide)⟩
      have k1 : 1 ≤ k := by omega
      unfold wOp
      simp only [true_and, k1, or_true]
    · have k2 : 2 ≤ k := by omega
      unfold wOpr at h
      refine ⟨?_, fun z => ?_, fun _ => e, fun z => ?_, fun z => ?_, fun z => ?_, fun z => ?_⟩
      · unfold wOp
        rcases h with h | h | h | h | h | h | h | h <;> simp only [h, k2, true_and, and_true, or_true, true_or]
      · exfalso
        rcases h with h | h | h | h | h | h | h | h <;> rw [h] at z <;> exact absurd z (by decide)
      · exfalso
        rcases h with h | h | h | h | h | h | h | h <;> rw [h] at z <;> exact absurd z (by decide)
      · exfalso
        rcases h with h | h | h | h | h | h | h | h <;> rw [h] at z <;> exact absurd z (by decide)
      · exfalso
        rcases h with h | h | h | h | h | h | h | h <;> rw [h] at z <;> exact absurd z (by decide)
      · exfalso
        rcases h with h | h | h | h | h | h | h | h <;> rw [h] at z <;> exact absurd z (by decide)
    · rw [h]
      refine ⟨?_, fun z => absurd z (by decide), fun z => absurd z (by unfold wOpr; decide), fun _ => e, fun z => absurd z (by decide), fun z => absurd z (by decide), fun z => absurd z (by decide)⟩
      unfold wOp
      simp only [true_and, h1, or_true, true_or]
    · rw [h]
      refine ⟨?_, fun z => absurd z (by decide), fun z => absurd z (by unfold wOpr; decide), fun z => absurd z (by decide), fun _ => e, fun z => absurd z (by decide), fun z => absurd z (by decide)⟩
      have k2 : 2 ≤ k := by omega
      unfold wOp
      simp only [true_and, k2, or_true, true_or]
theorem wOp_14 {nb : Int32} {k : Nat} : wOp 14 nb k := by unfold wOp; simp only [true_or, or_true]
theorem wOp_15 {nb : Int32} {k : Nat} (h : 1 ≤ k) : wOp 15 nb k := by unfold wOp; simp only [true_and, h, true_or, or_true]
theorem wNy_15 {a b to pc : Nat} {dp : Nat → Nat} (h : dp (pc + 1) + 1 = dp pc) (h1 : a ≤ to) (h2 : to ≤ b) (h3 : dp to + 1 = dp pc) : wNy 15 (nI to) a b dp pc := ⟨fun u => absurd u (by decide), fun _ => h, fun u => absurd u (by decide), fun u => absurd u (by decide), fun u => absurd u (by decide), fun _ => ⟨to, h1, h2, rfl, h3⟩⟩
theorem wNy_14 {a b to pc : Nat} {dp : Nat → Nat} (h1 : a ≤ to) (h2 : to ≤ b) (h3 : dp to = dp pc) : wNy 14 (nI to) a b dp pc := ⟨fun u => absurd u (by decide), fun u => absurd u (by unfold wOpr; decide), fun u => absurd u (by decide), fun u => absurd u (by decide), fun _ => ⟨to, h1, h2, rfl, h3⟩, fun u => absurd u (by decide)⟩
/-- a jump on zero over a block -/
theorem wFr.br {K N : zcells} {z e : Nat} (S : wFr K N (z + 1) e 0 0) (hK : K z = 15) (hN : N z = nI e) : wFr K N z e 1 0 := by
  obtain ⟨h0, dp, h1, h2, h3, h4⟩ := S
  obtain ⟨D, hD⟩ : ∃ D : Nat → Nat, ∀ i, D i = if i = z then 1 else dp i := ⟨_, fun _ => rfl⟩
  have dz : D z = 1 := by rw [hD, if_pos rfl]
  have d1 : ∀ i, z + 1 ≤ i → i ≤ e → D i = dp i := fun i i1 i2 => by rw [hD, if_neg (by omega)]
  refine ⟨by omega, D, dz, ?_, fun i i1 i2 => ?_, fun pc p1 p2 => ?_⟩
  · rw [d1 e h0 (by omega), h2]
  · by_cases q : i = z
    · rw [q, dz]
      omega
    · rw [d1 i (by omega) i2]
      exact h3 i (by omega) i2
  · by_cases q : pc = z
    · subst q
      rw [hK, hN, dz]
      refine ⟨wOp_15 (by omega), wNy_15 ?_ (by omega) (by omega) ?_⟩
      · rw [dz, d1 _ (by omega) h0, h1]
      · rw [dz, d1 _ h0 (by omega), h2]
    · rw [d1 pc (by omega) (by omega)]
      exact ⟨(h4 pc (by omega) p2).1, (h4 pc (by omega) p2).2.up (by omega) (by omega) (by omega) p2 d1⟩
/-- one block or the other -/
theorem wFr.el {K N : zcells} {z j e : Nat} (S1 : wFr K N (z + 1) j 0 0) (S2 : wFr K N (j + 1) e 0 0) (hK : K z = 15) (hN : N z = nI (j + 1)) (hJ : K j = 14) (hM : N j = nI e) : wFr K N z e 1 0 := by
  obtain ⟨h0, dp, h1, h2, h3, h4⟩ := S1
  obtain ⟨g0, dq, g1, g2, g3, g4⟩ := S2
  obtain ⟨D, hD⟩ : ∃ D : Nat → Nat, ∀ i, D i = if i = z then 1 else if i ≤ j then dp i else dq i := ⟨_, fun _ => rfl⟩
  have dz : D z = 1 := by rw [hD, if_pos rfl]
  have d1 : ∀ i, z + 1 ≤ i → i ≤ j → D i = dp i := fun i i1 i2 => by rw [hD, if_neg (by omega), if_pos i2]
  have d2 : ∀ i, j + 1 ≤ i → i ≤ e → D i = dq i := fun i i1 i2 => by rw [hD, if_neg (by omega), if_neg (by omega)]
  refine ⟨by omega, D, dz, ?_, fun i i1 i2 => ?_, fun pc p1 p2 => ?_⟩
  · rw [d2 e g0 (by omega), g2]
  · by_cases q : i = z
    · rw [q, dz]
      omega
    · by_cases q2 : i ≤ j
      · rw [d1 i (by omega) q2]
        exact h3 i (by omega) q2
      · rw [d2 i (by omega) i2]
        exact g3 i (by omega) i2
  · by_cases q : pc = z
    · subst q
      rw [hK, hN, dz]
      refine ⟨wOp_15 (by omega), wNy_15 ?_ (by omega) (by omega) ?_⟩
      · rw [dz, d1 _ (by omega) h0, h1]
      · rw [dz, d2 _ (by omega) g0, g1]
    · by_cases q1 : pc = j
      · subst q1
        rw [hJ, hM]
        refine ⟨wOp_14, wNy_14 (by omega) (by omega) ?_⟩
        rw [d1 pc (by omega) (by omega), h2, d2 e (by omega) (by omega), g2]
      · by_cases q2 : pc < j
        · rw [d1 pc (by omega) (by omega)]
          exact ⟨(h4 pc (by omega) q2).1, (h4 pc (by omega) q2).2.up (by omega) (by omega) (by omega) q2 d1⟩
        · rw [d2 pc (by omega) (by omega)]
          exact ⟨(g4 pc (by omega) p2).1, (g4 pc (by omega) p2).2.up (by omega) (by omega) (by omega) p2 d2⟩
/-- a loop -/
theorem wFr.wh {K N : zcells} {a z e : Nat} (E : wFr K N a z 0 1) (S : wFr K N (z + 1) e 0 0) (hK : K z = 15) (hN : N z = nI (e + 1)) (hJ : K e = 14) (hM : N e = nI a) : wFr K N a (e + 1) 0 0 := by
  obtain ⟨h0, dp, h1, h2, h3, h4⟩ := E
  obtain ⟨g0, dq, g1, g2, g3, g4⟩ := S
  obtain ⟨D, hD⟩ : ∃ D : Nat → Nat, ∀ i, D i = if i ≤ z then dp i else if i ≤ e then dq i else 0 := ⟨_, fun _ => rfl⟩
  have d1 : ∀ i, a ≤ i → i ≤ z → D i = dp i := fun i i1 i2 => by rw [hD, if_pos i2]
  have d2 : ∀ i, z + 1 ≤ i → i ≤ e → D i = dq i := fun i i1 i2 => by rw [hD, if_neg (by omega), if_pos i2]
  have d3 : D (e + 1) = 0 := by rw [hD, if_neg (by omega), if_neg (by omega)]
  refine ⟨by omega, D, ?_, d3, fun i i1 i2 => ?_, fun pc p1 p2 => ?_⟩
  · rw [d1 a (by omega) h0, h1]
  · by_cases q : i ≤ z
    · rw [d1 i i1 q]
      exact h3 i i1 q
    · by_cases q2 : i ≤ e
      · rw [d2 i (by omega) q2]
        exact g3 i (by omega) q2
      · rw [show i = e + 1 by omega, d3]
        omega
  · by_cases q : pc < z
    · rw [d1 pc p1 (by omega)]
      exact ⟨(h4 pc p1 q).1, (h4 pc p1 q).2.up (by omega) (by omega) p1 q d1⟩
    · by_cases q1 : pc = z
      · subst q1
        rw [hK, hN]
        refine ⟨wOp_15 (by rw [d1 pc p1 (by omega), h2]; omega), wNy_15 ?_ (by omega) (by omega) ?_⟩
        · rw [d2 _ (by omega) g0, g1, d1 pc p1 (by omega), h2]
        · rw [d3, d1 pc p1 (by omega), h2]
      · by_cases q2 : pc = e
        · subst q2
          rw [hJ, hM]
          refine ⟨wOp_14, wNy_14 (by omega) (by omega) ?_⟩
          rw [d1 a (by omega) h0, h1, d2 pc (by omega) (by omega), g2]
        · rw [d2 pc (by omega) (by omega)]
          exact ⟨(g4 pc (by omega) (by omega)).1, (g4 pc (by omega) (by omega)).2.up (by omega) (by omega) (by omega) (by omega) d2⟩
