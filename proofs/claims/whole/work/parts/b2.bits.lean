/-! BITS COUNTED -/
theorem bnd (a b : Nat) : nI a &&& nI b = nI (a &&& b) := by
  apply Int32.toBitVec_inj.mp
  have e : ∀ n, (nI n).toBitVec = BitVec.ofNat 32 n := fun n => rfl
  rw [Int32.toBitVec_and, e, e, e, BitVec.ofNat_and]
theorem bsp {k a b c d : Nat} (ha : a < 2 ^ k) (hc : c < 2 ^ k) : (a + 2 ^ k * b) &&& (c + 2 ^ k * d) = (a &&& c) + 2 ^ k * (b &&& d) := by
  have hac : a &&& c < 2 ^ k := Nat.and_lt_two_pow a hc
  apply Nat.eq_of_testBit_eq
  intro j
  rw [Nat.testBit_and, Nat.add_comm a, Nat.add_comm c, Nat.add_comm (a &&& c), Nat.testBit_two_pow_mul_add _ ha, Nat.testBit_two_pow_mul_add _ hc, Nat.testBit_two_pow_mul_add _ hac]
  split
  · rw [Nat.testBit_and]
  · rw [Nat.testBit_and]
theorem bs3 {a b c x y z : Nat} (ha : a < 256) (hb : b < 256) (hx : x < 256) (hy : y < 256) : (a + 256 * (b + 256 * c)) &&& (x + 256 * (y + 256 * z)) = (a &&& x) + 256 * ((b &&& y) + 256 * (c &&& z)) := by
  have h1 := bsp (k := 8) (a := a) (b := b + 256 * c) (c := x) (d := y + 256 * z) ha hx
  have h2 := bsp (k := 8) (a := b) (b := c) (c := y) (d := z) hb hy
  rw [show (2 : Nat) ^ 8 = 256 by rfl] at h1 h2
  rw [h1, h2]
def pS (x : Nat) : Nat := x - (x / 2 &&& 85)
def pT (x : Nat) : Nat := (pS x &&& 51) + (pS x / 4 &&& 51)
def pP (x : Nat) : Nat := (pT x + pT x / 16) % 16
/-- how many of the first n bits stand -/
def pB (u : Nat) : Nat → Nat
  | 0 => 0
  | n + 1 => pB u n + (u.testBit n).toNat
theorem pB_s (u n : Nat) : pB u (n + 1) = pB u n + (u.testBit n).toNat := id rfl
theorem pk1 : ∀ x, x < 128 → ∀ e, e < 2 → (x + 128 * e) &&& 85 = x &&& 85 := by decide +kernel
theorem pk2 : ∀ x, x < 64 → ∀ e, e < 4 → (x + 64 * e) &&& 51 = x &&& 51 := by decide +kernel
theorem pk3 : ∀ x, x < 256 → (x / 2 &&& 85) ≤ x ∧ pS x < 256 ∧ pT x < 69 ∧ pT x % 16 ≤ 4 ∧ pT x / 16 ≤ 4 ∧ pP x = pB x 8 ∧ pP x ≤ 8 := by decide +kernel
theorem pk4 : ∀ x, x < 16 → (x / 2 &&& 21845) = (x / 2 &&& 85) ∧ (pS x &&& 13107) = (pS x &&& 51) ∧ (pS x / 4 &&& 13107) = (pS x / 4 &&& 51) ∧ pB x 24 = pB x 8 := by decide +kernel
theorem pk5 : ∀ x, x < 80 → x &&& 3855 = x % 16 := by decide +kernel
def bcN3 (u : Nat) : Nat := ((((u - (u / 2 &&& 1431655765)) &&& 858993459) + ((u - (u / 2 &&& 1431655765)) / 4 &&& 858993459)) + (((u - (u / 2 &&& 1431655765)) &&& 858993459) + ((u - (u / 2 &&& 1431655765)) / 4 &&& 858993459)) / 16) &&& 252645135
theorem bcN3_e {a b c : Nat} (ha : a < 256) (hb : b < 256) (hc : c < 16) : (a + 256 * (b + 256 * c)) - ((a + 256 * (b + 256 * c)) / 2 &&& 1431655765) = pS a + 256 * (pS b + 256 * pS c) ∧ ((pS a + 256 * (pS b + 256 * pS c)) &&& 858993459) + ((pS a + 256 * (pS b + 256 * pS c)) / 4 &&& 858993459) = pT a + 256 * (pT b + 256 * pT c) ∧ ((pT a + 256 * (pT b + 256 * pT c)) + (pT a + 256 * (pT b + 256 * pT c)) / 16) &&& 252645135 = pP a + 256 * (pP b + 256 * pP c) := by
  obtain ⟨a1, a2, a3, a4, a5, -⟩ := pk3 a ha
  obtain ⟨b1, b2, b3, b4, b5, -⟩ := pk3 b hb
  obtain ⟨c1, c2, c3, c4, c5, -⟩ := pk3 c (by omega)
  obtain ⟨d1, d2, d3, -⟩ := pk4 c hc
  refine ⟨?_, ?_, ?_⟩
  · have e : (a + 256 * (b + 256 * c)) / 2 = (a / 2 + 128 * (b % 2)) + 256 * ((b / 2 + 128 * (c % 2)) + 256 * (c / 2)) := by omega
    have m : (1431655765 : Nat) = 85 + 256 * (85 + 256 * 21845) := by decide
    rw [e, m, bs3 (by omega) (by omega) (by omega) (by omega), pk1 _ (by omega) _ (by omega), pk1 _ (by omega) _ (by omega), d1]
    unfold pS
    omega
  · have e : (pS a + 256 * (pS b + 256 * pS c)) / 4 = (pS a / 4 + 64 * (pS b % 4)) + 256 * ((pS b / 4 + 64 * (pS c % 4)) + 256 * (pS c / 4)) := by omega
    have m : (858993459 : Nat) = 51 + 256 * (51 + 256 * 13107) := by decide
    rw [e, m, bs3 (by omega) (by omega) (by omega) (by omega), bs3 (by omega) (by omega) (by omega) (by omega), pk2 _ (by omega) _ (by omega), pk2 _ (by omega) _ (by omega), d2, d3]
    unfold pT
    omega
  · have e : (pT a + 256 * (pT b + 256 * pT c)) + (pT a + 256 * (pT b + 256 * pT c)) / 16 = (pT a + pT a / 16 + 16 * (pT b % 16)) + 256 * ((pT b + pT b / 16 + 16 * (pT c % 16)) + 256 * (pT c + pT c / 16)) := by omega
    have m : (252645135 : Nat) = 15 + 256 * (15 + 256 * 3855) := by decide
    have n : ∀ x, x &&& 15 = x % 16 := fun x => Nat.and_two_pow_sub_one_eq_mod x 4
    rw [e, m, bs3 (by omega) (by omega) (by omega) (by omega), n, n, pk5 _ (by omega)]
    unfold pP
    omega
theorem pB_split {x y k : Nat} (hx : x < 2 ^ k) : ∀ n, pB (2 ^ k * y + x) (k + n) = pB x k + pB y n := by
  have h0 : ∀ m, m ≤ k → pB (2 ^ k * y + x) m = pB x m := by
    intro m
    induction m with
    | zero => intro _; rfl
    | succ m ih =>
      intro hm
      rw [pB_s, pB_s, ih (by omega), Nat.testBit_two_pow_mul_add _ hx, if_pos (by omega)]
  intro n
  induction n with
  | zero => exact h0 k (Nat.le_refl _)
  | succ n ih =>
    rw [show k + (n + 1) = (k + n) + 1 by omega, pB_s, pB_s, ih, Nat.testBit_two_pow_mul_add _ hx, if_neg (by omega), show k + n - k = n by omega, Nat.add_assoc]
theorem pB_32 {a b c : Nat} (ha : a < 256) (hb : b < 256) (hc : c < 16) : pB (a + 256 * (b + 256 * c)) 32 = pP a + (pP b + pP c) := by
  have h1 := pB_split (x := a) (y := b + 256 * c) (k := 8) ha 24
  have h2 := pB_split (x := b) (y := c) (k := 8) hb 16
  have h3 : pB c 16 = pB c 8 := by
    have : ∀ x, x < 16 → pB x 16 = pB x 8 := by decide +kernel
    exact this c hc
  rw [show (2 : Nat) ^ 8 = 256 by rfl, show 8 + 24 = 32 by rfl] at h1
  rw [show (2 : Nat) ^ 8 = 256 by rfl, show 8 + 16 = 24 by rfl] at h2
  rw [show a + 256 * (b + 256 * c) = 256 * (b + 256 * c) + a by omega, h1, show b + 256 * c = 256 * c + b by omega, h2, h3, (pk3 a ha).2.2.2.2.2.1, (pk3 b hb).2.2.2.2.2.1, (pk3 c (by omega)).2.2.2.2.2.1]
theorem ush_N {n k : Nat} (hn : n < 2 ^ 32) (hk : k < 32) : ush (nI n) (nI k) = nI (n / 2 ^ k) := by
  have h : ∀ l, l < 32 → (((nI l).toUInt32 &&& Int32.toUInt32 31).toBitVec % 32).toNat = l := by decide +kernel
  exact pk_ushrN hn (nI k) k (h k hk)
theorem bc_end {x y z : Nat} (hx : x ≤ 8) (hy : y ≤ 8) (hz : z ≤ 8) : ((x + 256 * (y + 256 * z)) + (x + 256 * (y + 256 * z)) / 256 + ((x + 256 * (y + 256 * z)) + (x + 256 * (y + 256 * z)) / 256) / 65536) % 64 = x + (y + z) := by
  have g1 : (x + 256 * (y + 256 * z)) / 256 = y + 256 * z := by omega
  have g2 : ((x + 256 * (y + 256 * z)) + (y + 256 * z)) / 65536 = z := by omega
  rw [g1, g2]
  omega
theorem bcn_N {u : Nat} (hu : u < 2 ^ 20) : bcn (nI u) = nI (pB u 32) := by
  obtain ⟨a, b, c, ha, hb, hc, rfl⟩ : ∃ a b c, a < 256 ∧ b < 256 ∧ c < 16 ∧ u = a + 256 * (b + 256 * c) := ⟨u % 256, u / 256 % 256, u / 65536, by omega, by omega, by omega, by omega⟩
  obtain ⟨e1, e2, e3⟩ := bcN3_e ha hb hc
  obtain ⟨a1, a2, a3, a4, a5, -, a6⟩ := pk3 a ha
  obtain ⟨b1, b2, b3, b4, b5, -, b6⟩ := pk3 b hb
  obtain ⟨c1, c2, c3, c4, c5, -, c6⟩ := pk3 c (by omega)
  have l : ∀ x y : Nat, x &&& y ≤ x := fun x y => Nat.and_le_left
  have k1 : (1 : Int32) = nI 1 := rfl
  have k2 : (2 : Int32) = nI 2 := rfl
  have k4 : (4 : Int32) = nI 4 := rfl
  have k8 : (8 : Int32) = nI 8 := rfl
  have k16 : (16 : Int32) = nI 16 := rfl
  have w1 : bc1 (nI (a + 256 * (b + 256 * c))) = nI (pS a + 256 * (pS b + 256 * pS c)) := by
    have := l ((a + 256 * (b + 256 * c)) / 2) 1431655765
    unfold bc1
    rw [k1, ush_N (by omega) (by omega), show (1431655765 : Int32) = nI 1431655765 by rfl, show (2 : Nat) ^ 1 = 2 by rfl, bnd, nI_sub (by omega), e1]
  have w2 : bc2 (nI (a + 256 * (b + 256 * c))) = nI (pT a + 256 * (pT b + 256 * pT c)) := by
    unfold bc2
    rw [w1, k2, ush_N (by omega) (by omega), show (858993459 : Int32) = nI 858993459 by rfl, show (2 : Nat) ^ 2 = 4 by rfl, bnd, bnd, nI_add, e2]
  have w3 : bc3 (nI (a + 256 * (b + 256 * c))) = nI (pP a + 256 * (pP b + 256 * pP c)) := by
    unfold bc3
    rw [w2, k4, ush_N (by omega) (by omega), show (252645135 : Int32) = nI 252645135 by rfl, show (2 : Nat) ^ 4 = 16 by rfl, nI_add, bnd, e3]
  have w4 : bc4 (nI (a + 256 * (b + 256 * c))) = nI ((pP a + 256 * (pP b + 256 * pP c)) + (pP a + 256 * (pP b + 256 * pP c)) / 256) := by
    unfold bc4
    rw [w3, k8, ush_N (by omega) (by omega), show (2 : Nat) ^ 8 = 256 by rfl, nI_add]
  have n63 : ∀ x, x &&& 63 = x % 64 := fun x => Nat.and_two_pow_sub_one_eq_mod x 6
  unfold bcn
  rw [w4, k16, ush_N (by omega) (by omega), show (63 : Int32) = nI 63 by rfl, show (2 : Nat) ^ 16 = 65536 by rfl, nI_add, bnd, n63, pB_32 ha hb hc]
  rw [bc_end a6 b6 c6]
theorem pB_mono {u : Nat} : ∀ {m n : Nat}, m ≤ n → pB u m ≤ pB u n := by
  intro m n h
  induction n with
  | zero =>
    rw [show m = 0 by omega]
    exact Nat.le_refl _
  | succ n ih =>
    rcases Nat.eq_or_lt_of_le h with e | e
    · rw [e]
      exact Nat.le_refl _
    · have h1 := ih (by omega)
      have h2 : pB u (n + 1) = pB u n + (u.testBit n).toNat := rfl
      omega
theorem tb_N (u p : Nat) : u / 2 ^ p % 2 = (u.testBit p).toNat := by rw [Nat.toNat_testBit]
