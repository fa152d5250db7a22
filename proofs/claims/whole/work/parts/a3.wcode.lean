/-! WHAT THE PARSER MAKES CAN BE RUN: pieces of code, from one height of the pile to another -/
def wNy (kd nb : Int32) (a b : Nat) (dp : Nat → Nat) (pc : Nat) : Prop := ((kd = 1 ∨ kd = 2) → dp (pc + 1) = dp pc + 1) ∧ ((kd = 3 ∨ wOpr kd ∨ kd = 15 ∨ kd = 16) → dp (pc + 1) + 1 = dp pc) ∧ (kd = 4 → dp (pc + 1) = dp pc) ∧ (kd = 5 → dp (pc + 1) + 2 = dp pc) ∧ (kd = 14 → ∃ to, a ≤ to ∧ to ≤ b ∧ nb = nI to ∧ dp to = dp pc) ∧ (kd = 15 → ∃ to, a ≤ to ∧ to ≤ b ∧ nb = nI to ∧ dp to + 1 = dp pc)
def wFr (K N : zcells) (a b k j : Nat) : Prop := a ≤ b ∧ ∃ dp : Nat → Nat, dp a = k ∧ dp b = j ∧ (∀ i, a ≤ i → i ≤ b → dp i ≤ 32) ∧ ∀ pc, a ≤ pc → pc < b → wOp (K pc) (N pc) (dp pc) ∧ wNy (K pc) (N pc) a b dp pc
theorem wNy.up {kd nb : Int32} {a b c e : Nat} {dp dq : Nat → Nat} {pc : Nat} (W : wNy kd nb a b dp pc) (h1 : c ≤ a) (h2 : b ≤ e) (h3 : a ≤ pc) (h4 : pc < b) (hd : ∀ i, a ≤ i → i ≤ b → dq i = dp i) : wNy kd nb c e dq pc := by
  obtain ⟨x1, x2, x3, x4, x5, x6⟩ := W
  have e1 := hd pc h3 (by omega)
  have e2 := hd (pc + 1) (by omega) (by omega)
  unfold wNy
  rw [e1, e2]
  refine ⟨x1, x2, x3, x4, fun q => ?_, fun q => ?_⟩
  · obtain ⟨to, t1, t2, t3, t4⟩ := x5 q
    exact ⟨to, by omega, by omega, t3, by rw [hd to t1 t2]; exact t4⟩
  · obtain ⟨to, t1, t2, t3, t4⟩ := x6 q
    exact ⟨to, by omega, by omega, t3, by rw [hd to t1 t2]; exact t4⟩
theorem wFr.eq {K N K2 N2 : zcells} {a b k j : Nat} (F : wFr K N a b k j) (h : ∀ i, a ≤ i → i < b → K2 i = K i ∧ N2 i = N i) : wFr K2 N2 a b k j := by
  obtain ⟨h0, dp, h1, h2, h3, h4⟩ := F
  refine ⟨h0, dp, h1, h2, h3, fun pc p1 p2 => ?_⟩
  rw [(h pc p1 p2).1, (h pc p1 p2).2]
  exact h4 pc p1 p2
theorem wFr.rf {K N : zcells} {a k : Nat} (hk : k ≤ 32) : wFr K N a a k k := ⟨Nat.le_refl _, fun _ => k, rfl, rfl, fun _ _ _ => hk, fun pc p1 p2 => absurd p2 (by omega)⟩
theorem wFr.tr {K N : zcells} {a b c k j l : Nat} (F : wFr K N a b k j) (E : wFr K N b c j l) : wFr K N a c k l := by
  obtain ⟨h0, dp, h1, h2, h3, h4⟩ := F
  obtain ⟨g0, dq, g1, g2, g3, g4⟩ := E
  have d1 : ∀ i, a ≤ i → i ≤ b → (if i < b then dp i else dq i) = dp i := fun i i1 i2 => by
    by_cases q : i < b
    · rw [if_pos q]
    · rw [if_neg q, show i = b by omega, g1, h2]
  have d2 : ∀ i, b ≤ i → i ≤ c → (if i < b then dp i else dq i) = dq i := fun i i1 i2 => if_neg (by omega)
  refine ⟨by omega, fun i => if i < b then dp i else dq i, ?_, ?_, fun i i1 i2 => ?_, fun pc p1 p2 => ?_⟩
  · rw [d1 a (by omega) h0, h1]
  · rw [d2 c g0 (by omega), g2]
  · by_cases q : i ≤ b
    · simp only [d1 i i1 q]
      exact h3 i i1 q
    · simp only [d2 i (by omega) i2]
      exact g3 i (by omega) i2
  · by_cases q : pc < b
    · simp only [d1 pc p1 (by omega)]
      exact ⟨(h4 pc p1 q).1, (h4 pc p1 q).2.up (by omega) g0 p1 q d1⟩
    · simp only [d2 pc (by omega) (by omega)]
      exact ⟨(g4 pc (by omega) p2).1, (g4 pc (by omega) p2).2.up h0 (by omega) (by omega) p2 d2⟩
/-- one step that is no jump -/
theorem wFr.one {K N : zcells} {a k j : Nat} (hk : k ≤ 32) (hj : j ≤ 32) (h : ((K a = 1 ∨ (K a = 2 ∧ ∃ v, v < 8 ∧ N a = nI v)) ∧ j = k + 1) ∨ (((K a = 3 ∧ ∃ v, v < 8 ∧ N a = nI v) ∨ K a = 16) ∧ j + 1 = k) ∨ (wOpr (K a) ∧ 1 ≤ j ∧ j + 1 = k) ∨ (K a = 4 ∧ 1 ≤ k ∧ j = k) ∨ (K a = 5 ∧ j + 2 = k)) : wFr K N a (a + 1) k j := by
  refine ⟨by omega, fun i => if i = a then k else j, if_pos rfl, if_neg (by omega), fun i _ _ => by split <;> omega, fun pc p1 p2 => ?_⟩
  have e : pc = a := by omega
  subst e
  have e1 : (if pc = pc then k else j) = k := if_pos rfl
  have e2 : (if pc + 1 = pc then k else j) = j := if_neg (by omega)
  simp only [wNy, e1, e2]
  unfold wOp wOpr at *
  rcases h with ⟨h | ⟨h, hv⟩, e⟩ | ⟨⟨h, hv⟩ | h, e⟩ | ⟨h, h1, e⟩ | ⟨h, h1, e⟩ | ⟨h, e⟩
  · rw [h]
    refine ⟨Or.inr (Or.inl ⟨rfl, by omega⟩), fun _ => e, fun z => absurd z (by decide), fun z => absurd z (by decide), fun z => absurd z (by decide), fun z => absurd z (by decide), fun z => absurd z (by decide)⟩
  · rw [h]
    refine ⟨Or.inr (Or.inr (Or.inl ⟨rfl, by omega, hv⟩)), fun _ => e, fun z => absurd z (by decide), fun z => absurd z (by decide), fun z => absurd z (by decide), fun z => absurd z (by decide), fun z => absurd z (by decide)⟩
  · rw [h]
    refine ⟨Or.inr (Or.inr (Or.inr (Or.inl ⟨rfl, by omega, hv⟩))), fun z => absurd z (by decide), fun _ => e, fun z => absurd z (by decide), fun z => absurd z (by decide), fun z => absurd z (by decide), fun z => absurd z (by decide)⟩
  · rw [h]
    refine ⟨by simp only [true_and]; have : 1 ≤ k := by omega; simp only [this, or_true], fun z => absurd z (by decide), fun _ => e, fun z => absurd z (by decide), fun z => absurd z (by decide), fun z => absurd z (by decide), fun z => absurd z (by decide)⟩
  · have k2 : 2 ≤ k := by omega
    refine ⟨?_, fun z => ?_, fun _ => e, fun z => ?_, fun z => ?_, fun z => ?_, fun z => ?_⟩
    · rcases h with h | h | h | h | h | h | h | h <;> simp only [h, k2, true_and, and_true, or_true, true_or]
    · exfalso
      rcases h with h | h | h | h | h | h | h | h <;> rw [h] at z <;> exact absurd z (by decide)
    · exfalso
      rcases h with h | h | h | h | h | h | h | h <;> rw [h] at z <;> exact absurd z (by decide)
    · exfalso
      rcases h with h | h | h | h | h | h | h | h <;> rw [h] at z <;> exact absurd z (by decide)
    · exfalso
      rcases h with h | h | h | h | h | h | h | h <;> rw [h] at z <;> exact absurd z (by decide)
    · exfalso
      rcases h with h | h | h | h | h | h | h | h <;> rw [h] at z <;> exact absurd z (by decide)
  · rw [h]
    refine ⟨by simp only [true_and, h1, or_true, true_or], fun z => absurd z (by decide), fun z => absurd z (by decide), fun _ => e, fun z => absurd z (by decide), fun z => absurd z (by decide), fun z => absurd z (by decide)⟩
  · rw [h]
    have k2 : 2 ≤ k := by omega
    refine ⟨by simp only [true_and, k2, or_true, true_or], fun z => absurd z (by decide), fun z => absurd z (by decide), fun z => absurd z (by decide), fun _ => e, fun z => absurd z (by decide), fun z => absurd z (by decide)⟩
theorem wOp_14 {nb : Int32} {k : Nat} : wOp 14 nb k := by unfold wOp; simp only [true_or, or_true]
theorem wOp_15 {nb : Int32} {k : Nat} (h : 1 ≤ k) : wOp 15 nb k := by unfold wOp; simp only [true_and, h, true_or, or_true]
/-- a jump on zero over a block -/
theorem wFr.br {K N : zcells} {z e : Nat} (S : wFr K N (z + 1) e 0 0) (hK : K z = 15) (hN : N z = nI e) : wFr K N z e 1 0 := by
  obtain ⟨h0, dp, h1, h2, h3, h4⟩ := S
  have d1 : ∀ i, z + 1 ≤ i → i ≤ e → (if i = z then 1 else dp i) = dp i := fun i i1 i2 => if_neg (by omega)
  refine ⟨by omega, fun i => if i = z then 1 else dp i, if_pos rfl, ?_, fun i i1 i2 => ?_, fun pc p1 p2 => ?_⟩
  · rw [d1 e h0 (by omega), h2]
  · split
    · omega
    · exact h3 i (by omega) i2
  · by_cases q : pc = z
    · subst q
      have e2 : (if pc + 1 = pc then 1 else dp (pc + 1)) = 0 := (if_neg (by omega)).trans h1
      have e3 : (if e = pc then 1 else dp e) = 0 := (if_neg (by omega)).trans h2
      rw [hK, hN]
      refine ⟨wOp_15 (by rw [if_pos rfl]; omega), ?_⟩
      unfold wNy
      simp only [e2, if_true]
      refine ⟨fun u => absurd u (by decide), fun _ => rfl, fun u => absurd u (by decide), fun u => absurd u (by decide), fun u => absurd u (by decide), fun _ => ⟨e, by omega, by omega, rfl, ?_⟩⟩
      rw [e3]
    · simp only [if_neg q]
      exact ⟨(h4 pc (by omega) p2).1, (h4 pc (by omega) p2).2.up (by omega) (by omega) (by omega) p2 d1⟩
/-- one block or the other -/
theorem wFr.el {K N : zcells} {z j e : Nat} (S1 : wFr K N (z + 1) j 0 0) (S2 : wFr K N (j + 1) e 0 0) (hK : K z = 15) (hN : N z = nI (j + 1)) (hJ : K j = 14) (hM : N j = nI e) : wFr K N z e 1 0 := by
  obtain ⟨h0, dp, h1, h2, h3, h4⟩ := S1
  obtain ⟨g0, dq, g1, g2, g3, g4⟩ := S2
  have d1 : ∀ i, z + 1 ≤ i → i ≤ j → (if i = z then 1 else if i ≤ j then dp i else dq i) = dp i := fun i i1 i2 => by rw [if_neg (by omega), if_pos i2]
  have d2 : ∀ i, j + 1 ≤ i → i ≤ e → (if i = z then 1 else if i ≤ j then dp i else dq i) = dq i := fun i i1 i2 => by rw [if_neg (by omega), if_neg (by omega)]
  refine ⟨by omega, fun i => if i = z then 1 else if i ≤ j then dp i else dq i, if_pos rfl, ?_, fun i i1 i2 => ?_, fun pc p1 p2 => ?_⟩
  · rw [d2 e g0 (by omega), g2]
  · split
    · omega
    · split
      · exact h3 i (by omega) (by omega)
      · exact g3 i (by omega) i2
  · by_cases q : pc = z
    · subst q
      have e2 := (d1 (pc + 1) (by omega) h0).trans h1
      have e3 := (d2 (j + 1) (by omega) g0).trans g1
      rw [hK, hN]
      refine ⟨wOp_15 (by rw [if_pos rfl]; omega), ?_⟩
      unfold wNy
      simp only [e2, if_true]
      refine ⟨fun u => absurd u (by decide), fun _ => rfl, fun u => absurd u (by decide), fun u => absurd u (by decide), fun u => absurd u (by decide), fun _ => ⟨j + 1, by omega, by omega, rfl, ?_⟩⟩
      rw [e3]
    · by_cases q1 : pc = j
      · subst q1
        have e2 := (d1 pc (by omega) (by omega)).trans h2
        have e3 := (d2 e (by omega) (by omega)).trans g2
        rw [hJ, hM]
        refine ⟨wOp_14, ?_⟩
        unfold wNy
        simp only [e2]
        refine ⟨fun u => absurd u (by decide), fun u => absurd u (by decide), fun u => absurd u (by decide), fun u => absurd u (by decide), fun _ => ⟨e, by omega, by omega, rfl, ?_⟩, fun u => absurd u (by decide)⟩
        rw [e3]
      · by_cases q2 : pc < j
        · simp only [if_neg q, if_pos (Nat.le_of_lt q2)]
          exact ⟨(h4 pc (by omega) q2).1, (h4 pc (by omega) q2).2.up (by omega) (by omega) (by omega) q2 d1⟩
        · simp only [if_neg q, if_neg (show ¬ pc ≤ j by omega)]
          exact ⟨(g4 pc (by omega) p2).1, (g4 pc (by omega) p2).2.up (by omega) (by omega) (by omega) p2 d2⟩
/-- a loop -/
theorem wFr.wh {K N : zcells} {a z e : Nat} (E : wFr K N a z 0 1) (S : wFr K N (z + 1) e 0 0) (hK : K z = 15) (hN : N z = nI (e + 1)) (hJ : K e = 14) (hM : N e = nI a) : wFr K N a (e + 1) 0 0 := by
  obtain ⟨h0, dp, h1, h2, h3, h4⟩ := E
  obtain ⟨g0, dq, g1, g2, g3, g4⟩ := S
  have d1 : ∀ i, a ≤ i → i ≤ z → (if i ≤ z then dp i else if i ≤ e then dq i else 0) = dp i := fun i i1 i2 => if_pos i2
  have d2 : ∀ i, z + 1 ≤ i → i ≤ e → (if i ≤ z then dp i else if i ≤ e then dq i else 0) = dq i := fun i i1 i2 => by rw [if_neg (by omega), if_pos i2]
  have d3 : (if e + 1 ≤ z then dp (e + 1) else if e + 1 ≤ e then dq (e + 1) else 0) = 0 := by rw [if_neg (by omega), if_neg (by omega)]
  refine ⟨by omega, fun i => if i ≤ z then dp i else if i ≤ e then dq i else 0, ?_, d3, fun i i1 i2 => ?_, fun pc p1 p2 => ?_⟩
  · rw [d1 a (by omega) h0, h1]
  · by_cases q : i ≤ z
    · simp only [if_pos q]
      exact h3 i i1 q
    · simp only [if_neg q]
      split
      · exact g3 i (by omega) (by omega)
      · omega
  · by_cases q : pc < z
    · simp only [if_pos (Nat.le_of_lt q)]
      exact ⟨(h4 pc p1 q).1, (h4 pc p1 q).2.up (by omega) (by omega) p1 q d1⟩
    · by_cases q1 : pc = z
      · subst q1
        have e1 := (d1 pc p1 (by omega)).trans h2
        have e2 := (d2 (pc + 1) (by omega) g0).trans g1
        rw [hK, hN]
        simp only [e1]
        refine ⟨wOp_15 (by omega), ?_⟩
        unfold wNy
        simp only [e1, e2]
        exact ⟨fun u => absurd u (by decide), fun _ => rfl, fun u => absurd u (by decide), fun u => absurd u (by decide), fun u => absurd u (by decide), fun _ => ⟨e + 1, by omega, by omega, rfl, by rw [d3]⟩⟩
      · by_cases q2 : pc = e
        · subst q2
          have e1 := (d2 pc (by omega) (by omega)).trans g2
          have e2 := (d1 a (by omega) h0).trans h1
          rw [hJ, hM]
          refine ⟨wOp_14, ?_⟩
          unfold wNy
          simp only [e1]
          refine ⟨fun u => absurd u (by decide), fun u => absurd u (by decide), fun u => absurd u (by decide), fun u => absurd u (by decide), fun _ => ⟨a, by omega, by omega, rfl, ?_⟩, fun u => absurd u (by decide)⟩
          rw [e2]
        · simp only [if_neg (show ¬ pc ≤ z by omega), if_pos (show pc ≤ e by omega)]
          exact ⟨(g4 pc (by omega) (by omega)).1, (g4 pc (by omega) (by omega)).2.up (by omega) (by omega) (by omega) (by omega) d2⟩
