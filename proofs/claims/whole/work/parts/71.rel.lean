/-! THE MODEL HOLDS WHAT THE STATE SAYS -/
def RelA (S : zst) (M : mst) : Prop := M 1002 0 = S 701 0 0 ∧ (∀ k, k < 400 → M 1 k &&& 255 = S 2009 0 k) ∧ M 1003 0 = S 904 0 0 ∧ M 1007 0 = S 907 0 0 ∧ M 1025 0 = S 203 0 0 ∧ M 1026 0 = S 204 0 0 ∧ M 1027 0 = S 2001 0 0 ∧ M 1028 0 = S 2001 0 1 ∧ M 1029 0 = S 2001 0 2 ∧ M 1044 0 = S 905 0 0 ∧ M 1048 0 = S 906 0 0
def RelH (S : zst) (M : mst) : Prop := ∀ z, z < 8 → M 45 z = S 300 z 0 ∧ M 46 z = S 301 z 0 ∧ M 47 z = S 302 z 0
def RelT (S : zst) (M : mst) : Prop := ∀ t, t < 6 → M 12 t = S 805 t 0 ∧ (∀ k, k < (S 805 t 0).toNatClampNeg → M 13 (500 * t + k) = S 2002 t k ∧ M 14 (500 * t + k) = S 2003 t k) ∧ (∀ c, c < 64 → M 15 (64 * t + c) = S 2004 t c) ∧ M 16 t = S 807 t 0 ∧ (∀ i, i < 7 → ∀ c, c < 64 → M 17 (64 * (7 * t + i) + c) = S 2005 (7 * t + i) c) ∧ M 21 t = (if S 808 t 0 = 0 then 0 else 1) ∧ M 22 t = S 808 t 0
def RelC (S : zst) (M : mst) : Prop := ∀ t, t < 6 → ∀ p, p < 20 → xHas S t p → nI p * M 23 t = S 509 t p ∧ (if nI p * M 23 t + M 23 t < M 24 t then nI p * M 23 t + M 23 t else M 24 t) = S 510 t p
/-- the tokens of a text; a word that begins with m is m -/
def lxIt (T : zcells) (n : Nat) : Nat → Nat
  | 0 => lxSk T n 0
  | k + 1 => lxNx T n (lxIt T n k)
def vTx (T : zcells) (n : Nat) : Prop := ∀ k, lxK T n (lxIt T n k) = 2 → T (lxIt T n k) = 109 → lxE T n (lxIt T n k) = lxIt T n k + 1
def RelX (S : zst) (M : mst) : Prop := (∀ t, t < 6 → nI t < S 904 0 0 → ∃ (T : zcells) (n : Nat), n ≤ 400 ∧ M 11 t = nI n ∧ (∀ k, k < n → M 10 (400 * t + k) &&& 255 = T k) ∧ S 806 t 0 = xLeaves T n ∧ vTx T n) ∧ (∀ z, z < 8 → M 56 z = 0 ∧ M 57 z = 0) ∧ ∀ k, k < 400 → (M 1 k).toInt8.toInt32 = M 1 k
def RelPc (s m : Nat → Int32) (m2 : Nat → Nat → Int32) : Prop := m 30 = s 504 ∧ m 43 = s 513 ∧ m 35 = s 511 ∧ (¬ s 504 = 0 → m 31 = s 505) ∧ m 32 = (if s 504 = 0 ∨ s 504 = 4 then 0 else s 506) ∧ (s 504 = 1 ∨ s 504 = 2 ∨ s 504 = 3 → m 33 = s 507) ∧ (s 504 = 1 → m 34 = s 508) ∧ (s 504 = 2 → m 34 = s 512) ∧ (s 504 = 3 → m 34 = s 606) ∧ (s 504 = 3 → m 36 = s 600) ∧ m 37 = s 601 ∧ m 38 = s 602 ∧ m 39 = s 603 ∧ m2 40 0 = s 604 ∧ m2 40 1 = s 605 ∧ m2 42 0 = s 607 ∧ m2 42 1 = s 608 ∧ m2 41 0 = s 609 ∧ m2 41 1 = s 610
def RelP (S : zst) (M : mst) : Prop := ∀ t, t < 6 → ∀ p, p < 20 → RelPc (fun f => S f t p) (fun k => M k (20 * t + p)) (fun k b => M k (2 * (20 * t + p) + b))
def RelB (S : zst) (M : mst) : Prop := ∀ x, x < 120 → ∀ z, z < 8 → M 49 (8 * x + z) = zt (0 < S 2007 x z) ∧ (0 < S 2007 x z → M 50 (8 * x + z) = S 2006 x z ∧ M 51 (8 * x + z) = S 2007 x z ∧ M 52 (8 * x + z) = S 2008 x z)
def Rel (S : zst) (M : mst) : Prop := RelA S M ∧ RelH S M ∧ RelT S M ∧ RelC S M ∧ RelX S M ∧ RelP S M ∧ RelB S M

def rFA (f : Nat) : Prop := f = 701 ∨ f = 2009 ∨ f = 904 ∨ f = 907 ∨ f = 203 ∨ f = 204 ∨ f = 2001 ∨ f = 905 ∨ f = 906
def rKA (k : Nat) : Prop := k = 1002 ∨ k = 1 ∨ k = 1003 ∨ k = 1007 ∨ k = 1025 ∨ k = 1026 ∨ k = 1027 ∨ k = 1028 ∨ k = 1029 ∨ k = 1044 ∨ k = 1048
theorem RelA.c {S S2 : zst} {M M2 : mst} (hS : ∀ f, rFA f → S2 f = S f) (hM : ∀ k, rKA k → M2 k = M k) (R : RelA S M) : RelA S2 M2 := by
  have s0 : S2 701 = S 701 := hS _ (by unfold rFA; omega)
  have s1 : S2 2009 = S 2009 := hS _ (by unfold rFA; omega)
  have s2 : S2 904 = S 904 := hS _ (by unfold rFA; omega)
  have s3 : S2 907 = S 907 := hS _ (by unfold rFA; omega)
  have s4 : S2 203 = S 203 := hS _ (by unfold rFA; omega)
  have s5 : S2 204 = S 204 := hS _ (by unfold rFA; omega)
  have s6 : S2 2001 = S 2001 := hS _ (by unfold rFA; omega)
  have s7 : S2 905 = S 905 := hS _ (by unfold rFA; omega)
  have s8 : S2 906 = S 906 := hS _ (by unfold rFA; omega)
  have m0 : M2 1002 = M 1002 := hM _ (by unfold rKA; omega)
  have m1 : M2 1 = M 1 := hM _ (by unfold rKA; omega)
  have m2 : M2 1003 = M 1003 := hM _ (by unfold rKA; omega)
  have m3 : M2 1007 = M 1007 := hM _ (by unfold rKA; omega)
  have m4 : M2 1025 = M 1025 := hM _ (by unfold rKA; omega)
  have m5 : M2 1026 = M 1026 := hM _ (by unfold rKA; omega)
  have m6 : M2 1027 = M 1027 := hM _ (by unfold rKA; omega)
  have m7 : M2 1028 = M 1028 := hM _ (by unfold rKA; omega)
  have m8 : M2 1029 = M 1029 := hM _ (by unfold rKA; omega)
  have m9 : M2 1044 = M 1044 := hM _ (by unfold rKA; omega)
  have m10 : M2 1048 = M 1048 := hM _ (by unfold rKA; omega)
  simp only [RelA, s0, s1, s2, s3, s4, s5, s6, s7, s8, m0, m1, m2, m3, m4, m5, m6, m7, m8, m9, m10] at R ⊢
  exact R
def rFH (f : Nat) : Prop := f = 300 ∨ f = 301 ∨ f = 302
def rKH (k : Nat) : Prop := k = 45 ∨ k = 46 ∨ k = 47
theorem RelH.c {S S2 : zst} {M M2 : mst} (hS : ∀ f, rFH f → S2 f = S f) (hM : ∀ k, rKH k → M2 k = M k) (R : RelH S M) : RelH S2 M2 := by
  have s0 : S2 300 = S 300 := hS _ (by unfold rFH; omega)
  have s1 : S2 301 = S 301 := hS _ (by unfold rFH; omega)
  have s2 : S2 302 = S 302 := hS _ (by unfold rFH; omega)
  have m0 : M2 45 = M 45 := hM _ (by unfold rKH; omega)
  have m1 : M2 46 = M 46 := hM _ (by unfold rKH; omega)
  have m2 : M2 47 = M 47 := hM _ (by unfold rKH; omega)
  simp only [RelH, s0, s1, s2, m0, m1, m2] at R ⊢
  exact R
def rFT (f : Nat) : Prop := f = 805 ∨ f = 2002 ∨ f = 2003 ∨ f = 2004 ∨ f = 807 ∨ f = 2005 ∨ f = 808
def rKT (k : Nat) : Prop := k = 12 ∨ k = 13 ∨ k = 14 ∨ k = 15 ∨ k = 16 ∨ k = 17 ∨ k = 21 ∨ k = 22
theorem RelT.c {S S2 : zst} {M M2 : mst} (hS : ∀ f, rFT f → S2 f = S f) (hM : ∀ k, rKT k → M2 k = M k) (R : RelT S M) : RelT S2 M2 := by
  have s0 : S2 805 = S 805 := hS _ (by unfold rFT; omega)
  have s1 : S2 2002 = S 2002 := hS _ (by unfold rFT; omega)
  have s2 : S2 2003 = S 2003 := hS _ (by unfold rFT; omega)
  have s3 : S2 2004 = S 2004 := hS _ (by unfold rFT; omega)
  have s4 : S2 807 = S 807 := hS _ (by unfold rFT; omega)
  have s5 : S2 2005 = S 2005 := hS _ (by unfold rFT; omega)
  have s6 : S2 808 = S 808 := hS _ (by unfold rFT; omega)
  have m0 : M2 12 = M 12 := hM _ (by unfold rKT; omega)
  have m1 : M2 13 = M 13 := hM _ (by unfold rKT; omega)
  have m2 : M2 14 = M 14 := hM _ (by unfold rKT; omega)
  have m3 : M2 15 = M 15 := hM _ (by unfold rKT; omega)
  have m4 : M2 16 = M 16 := hM _ (by unfold rKT; omega)
  have m5 : M2 17 = M 17 := hM _ (by unfold rKT; omega)
  have m6 : M2 21 = M 21 := hM _ (by unfold rKT; omega)
  have m7 : M2 22 = M 22 := hM _ (by unfold rKT; omega)
  simp only [RelT, s0, s1, s2, s3, s4, s5, s6, m0, m1, m2, m3, m4, m5, m6, m7] at R ⊢
  exact R
def rFC (f : Nat) : Prop := f = 808 ∨ f = 509 ∨ f = 510
def rKC (k : Nat) : Prop := k = 23 ∨ k = 24
theorem RelC.c {S S2 : zst} {M M2 : mst} (hS : ∀ f, rFC f → S2 f = S f) (hM : ∀ k, rKC k → M2 k = M k) (R : RelC S M) : RelC S2 M2 := by
  have s0 : S2 808 = S 808 := hS _ (by unfold rFC; omega)
  have s1 : S2 509 = S 509 := hS _ (by unfold rFC; omega)
  have s2 : S2 510 = S 510 := hS _ (by unfold rFC; omega)
  have m0 : M2 23 = M 23 := hM _ (by unfold rKC; omega)
  have m1 : M2 24 = M 24 := hM _ (by unfold rKC; omega)
  simp only [RelC, xHas, s0, s1, s2, m0, m1] at R ⊢
  exact R
def rFX (f : Nat) : Prop := f = 904 ∨ f = 806
def rKX (k : Nat) : Prop := k = 11 ∨ k = 10 ∨ k = 56 ∨ k = 57 ∨ k = 1
theorem RelX.c {S S2 : zst} {M M2 : mst} (hS : ∀ f, rFX f → S2 f = S f) (hM : ∀ k, rKX k → M2 k = M k) (R : RelX S M) : RelX S2 M2 := by
  have s0 : S2 904 = S 904 := hS _ (by unfold rFX; omega)
  have s1 : S2 806 = S 806 := hS _ (by unfold rFX; omega)
  have m0 : M2 11 = M 11 := hM _ (by unfold rKX; omega)
  have m1 : M2 10 = M 10 := hM _ (by unfold rKX; omega)
  have m2 : M2 56 = M 56 := hM _ (by unfold rKX; omega)
  have m3 : M2 57 = M 57 := hM _ (by unfold rKX; omega)
  have m4 : M2 1 = M 1 := hM _ (by unfold rKX; omega)
  simp only [RelX, s0, s1, m0, m1, m2, m3, m4] at R ⊢
  exact R
def rFP (f : Nat) : Prop := f = 504 ∨ f = 513 ∨ f = 511 ∨ f = 505 ∨ f = 506 ∨ f = 507 ∨ f = 508 ∨ f = 512 ∨ f = 606 ∨ f = 600 ∨ f = 601 ∨ f = 602 ∨ f = 603 ∨ f = 604 ∨ f = 605 ∨ f = 607 ∨ f = 608 ∨ f = 609 ∨ f = 610
def rKP (k : Nat) : Prop := k = 30 ∨ k = 43 ∨ k = 35 ∨ k = 31 ∨ k = 32 ∨ k = 33 ∨ k = 34 ∨ k = 36 ∨ k = 37 ∨ k = 38 ∨ k = 39 ∨ k = 40 ∨ k = 42 ∨ k = 41
theorem RelP.c {S S2 : zst} {M M2 : mst} (hS : ∀ f, rFP f → S2 f = S f) (hM : ∀ k, rKP k → M2 k = M k) (R : RelP S M) : RelP S2 M2 := by
  have s0 : S2 504 = S 504 := hS _ (by unfold rFP; omega)
  have s1 : S2 513 = S 513 := hS _ (by unfold rFP; omega)
  have s2 : S2 511 = S 511 := hS _ (by unfold rFP; omega)
  have s3 : S2 505 = S 505 := hS _ (by unfold rFP; omega)
  have s4 : S2 506 = S 506 := hS _ (by unfold rFP; omega)
  have s5 : S2 507 = S 507 := hS _ (by unfold rFP; omega)
  have s6 : S2 508 = S 508 := hS _ (by unfold rFP; omega)
  have s7 : S2 512 = S 512 := hS _ (by unfold rFP; omega)
  have s8 : S2 606 = S 606 := hS _ (by unfold rFP; omega)
  have s9 : S2 600 = S 600 := hS _ (by unfold rFP; omega)
  have s10 : S2 601 = S 601 := hS _ (by unfold rFP; omega)
  have s11 : S2 602 = S 602 := hS _ (by unfold rFP; omega)
  have s12 : S2 603 = S 603 := hS _ (by unfold rFP; omega)
  have s13 : S2 604 = S 604 := hS _ (by unfold rFP; omega)
  have s14 : S2 605 = S 605 := hS _ (by unfold rFP; omega)
  have s15 : S2 607 = S 607 := hS _ (by unfold rFP; omega)
  have s16 : S2 608 = S 608 := hS _ (by unfold rFP; omega)
  have s17 : S2 609 = S 609 := hS _ (by unfold rFP; omega)
  have s18 : S2 610 = S 610 := hS _ (by unfold rFP; omega)
  have m0 : M2 30 = M 30 := hM _ (by unfold rKP; omega)
  have m1 : M2 43 = M 43 := hM _ (by unfold rKP; omega)
  have m2 : M2 35 = M 35 := hM _ (by unfold rKP; omega)
  have m3 : M2 31 = M 31 := hM _ (by unfold rKP; omega)
  have m4 : M2 32 = M 32 := hM _ (by unfold rKP; omega)
  have m5 : M2 33 = M 33 := hM _ (by unfold rKP; omega)
  have m6 : M2 34 = M 34 := hM _ (by unfold rKP; omega)
  have m7 : M2 36 = M 36 := hM _ (by unfold rKP; omega)
  have m8 : M2 37 = M 37 := hM _ (by unfold rKP; omega)
  have m9 : M2 38 = M 38 := hM _ (by unfold rKP; omega)
  have m10 : M2 39 = M 39 := hM _ (by unfold rKP; omega)
  have m11 : M2 40 = M 40 := hM _ (by unfold rKP; omega)
  have m12 : M2 42 = M 42 := hM _ (by unfold rKP; omega)
  have m13 : M2 41 = M 41 := hM _ (by unfold rKP; omega)
  simp only [RelP, RelPc, s0, s1, s2, s3, s4, s5, s6, s7, s8, s9, s10, s11, s12, s13, s14, s15, s16, s17, s18, m0, m1, m2, m3, m4, m5, m6, m7, m8, m9, m10, m11, m12, m13] at R ⊢
  exact R
def rFB (f : Nat) : Prop := f = 2006 ∨ f = 2007 ∨ f = 2008
def rKB (k : Nat) : Prop := k = 49 ∨ k = 50 ∨ k = 51 ∨ k = 52
theorem RelB.c {S S2 : zst} {M M2 : mst} (hS : ∀ f, rFB f → S2 f = S f) (hM : ∀ k, rKB k → M2 k = M k) (R : RelB S M) : RelB S2 M2 := by
  have s0 : S2 2006 = S 2006 := hS _ (by unfold rFB; omega)
  have s1 : S2 2007 = S 2007 := hS _ (by unfold rFB; omega)
  have s2 : S2 2008 = S 2008 := hS _ (by unfold rFB; omega)
  have m0 : M2 49 = M 49 := hM _ (by unfold rKB; omega)
  have m1 : M2 50 = M 50 := hM _ (by unfold rKB; omega)
  have m2 : M2 51 = M 51 := hM _ (by unfold rKB; omega)
  have m3 : M2 52 = M 52 := hM _ (by unfold rKB; omega)
  simp only [RelB, s0, s1, s2, m0, m1, m2, m3] at R ⊢
  exact R
/-- rows that nobody reads between two calls -/
def mSc (k : Nat) : Prop := k = 1000 ∨ k = 1004 ∨ k = 1005 ∨ k = 1006 ∨ k = 1008 ∨ k = 1009 ∨ k = 18 ∨ k = 19 ∨ k = 20 ∨ k = 53 ∨ k = 54 ∨ k = 55 ∨ k = 1059
theorem Rel.sc {S : zst} {M M2 : mst} (R : Rel S M) (h : ∀ k, ¬ mSc k → M2 k = M k) : Rel S M2 := by
  obtain ⟨r1, r2, r3, r4, r5, r6, r7⟩ := R
  exact ⟨r1.c (fun _ _ => rfl) (fun k hk => h k (by unfold rKA at hk; unfold mSc; omega)), r2.c (fun _ _ => rfl) (fun k hk => h k (by unfold rKH at hk; unfold mSc; omega)), r3.c (fun _ _ => rfl) (fun k hk => h k (by unfold rKT at hk; unfold mSc; omega)), r4.c (fun _ _ => rfl) (fun k hk => h k (by unfold rKC at hk; unfold mSc; omega)), r5.c (fun _ _ => rfl) (fun k hk => h k (by unfold rKX at hk; unfold mSc; omega)), r6.c (fun _ _ => rfl) (fun k hk => h k (by unfold rKP at hk; unfold mSc; omega)), r7.c (fun _ _ => rfl) (fun k hk => h k (by unfold rKB at hk; unfold mSc; omega))⟩
theorem Rel.th {S : zst} {M : mst} {v : Int32} (R : Rel S M) : Rel S (mu M 1000 0 v) := R.sc fun k hk => mu_n _ (by unfold mSc at hk; omega)
/-- what comes out of a call of the model: the new state, what is thrown, the answer -/
def mTh (a : Int32) (o : zO) : Int32 := match o with
  | .inl _ => 0
  | .inr E => if E = xIdx then 1 else if E = xArg then a else 2
def mOut (a : Int32) (R : zRs) (M2 : mst) (r : Int32) : Prop := Rel R.2 M2 ∧ M2 1000 0 = mTh a R.1 ∧ ∀ w, R.1 = .inl (some (.int w)) → r = w
def mOutL (a : Int32) (R : zRs) (M2 : mst) (r : Int64) : Prop := Rel R.2 M2 ∧ M2 1000 0 = mTh a R.1 ∧ ∀ w, R.1 = .inl (some (.long w)) → r = w
theorem mOut.v {a v : Int32} {S : zst} {M2 : mst} (h1 : Rel S M2) (h2 : M2 1000 0 = 0) : mOut a (xV v S) M2 v := ⟨h1, h2, fun w hw => by cases hw; rfl⟩
theorem mOut.x {a r : Int32} {S : zst} {M2 : mst} (h1 : Rel S M2) (h2 : M2 1000 0 = 1) : mOut a (xE xIdx S) M2 r := ⟨h1, h2, fun w hw => by cases hw⟩
theorem mTh_a (a : Int32) (S : zst) : mTh a (xE xArg S).1 = a := by
  show (if xArg = xIdx then 1 else if xArg = xArg then a else 2) = a
  rw [if_neg (by decide), if_pos rfl]
theorem mOut.g {a r : Int32} {S : zst} {M2 : mst} (h1 : Rel S M2) (h2 : M2 1000 0 = a) : mOut a (xE xArg S) M2 r := ⟨h1, h2.trans (mTh_a a S).symm, fun w hw => by cases hw⟩
theorem mOutL.v {a : Int32} {v : Int64} {S : zst} {M2 : mst} (h1 : Rel S M2) (h2 : M2 1000 0 = 0) : mOutL a (xVL v S) M2 v := ⟨h1, h2, fun w hw => by cases hw; rfl⟩
theorem mOutL.x {a : Int32} {r : Int64} {S : zst} {M2 : mst} (h1 : Rel S M2) (h2 : M2 1000 0 = 1) : mOutL a (xE xIdx S) M2 r := ⟨h1, h2, fun w hw => by cases hw⟩
theorem mOutL.g {a : Int32} {r : Int64} {S : zst} {M2 : mst} (h1 : Rel S M2) (h2 : M2 1000 0 = a) : mOutL a (xE xArg S) M2 r := ⟨h1, h2.trans (mTh_a a S).symm, fun w hw => by cases hw⟩

