/-! THE STATE: what the hall's cells hold, by field, row and place -/
abbrev zst : Type := Nat → Nat → Nat → Int32
def zu3 (S : zst) (f i k : Nat) (v : Int32) : zst := fun g j l => if g = f ∧ j = i ∧ l = k then v else S g j l
theorem zu3_a (S : zst) (f i k : Nat) (v : Int32) (g j l : Nat) : zu3 S f i k v g j l = if g = f ∧ j = i ∧ l = k then v else S g j l := id rfl
theorem zu3_e (S : zst) (f i k : Nat) (v : Int32) : zu3 S f i k v f i k = v := if_pos ⟨rfl, rfl, rfl⟩
theorem zu3_n (S : zst) {f i k : Nat} {v : Int32} {g j l : Nat} (hg : ¬ g = f) : zu3 S f i k v g j l = S g j l := if_neg (fun q => hg q.1)
theorem zu3_r (S : zst) {f i k : Nat} {v : Int32} {g : Nat} (hg : ¬ g = f) : zu3 S f i k v g = S g := funext fun _ => funext fun _ => zu3_n S hg
/-- where a field lies -/
def xaI (B f i k : Nat) : Nat := if f / 100 = 2 then aCourt B else if f / 100 = 3 then aHouse B i else if f / 100 = 5 then aPc B i k else if f / 100 = 6 then aQu B i k else if f / 100 = 7 then aTape B else if f / 100 = 8 then aTask B i else aHall B
def xdI (f i k : Nat) : Prop := (f / 100 = 2 ∧ i = 0 ∧ k = 0) ∨ (f / 100 = 3 ∧ i < 8 ∧ k = 0) ∨ (f / 100 = 5 ∧ i < 6 ∧ k < 20) ∨ (f / 100 = 6 ∧ i < 6 ∧ k < 20) ∨ (f = 701 ∧ i = 0 ∧ k = 0) ∨ (f / 100 = 8 ∧ i < 6 ∧ k = 0) ∨ (f / 100 = 9 ∧ i = 0 ∧ k = 0)
theorem xa_2 {B f i k : Nat} (hf : f / 100 = 2) : xaI B f i k = aCourt B := by unfold xaI; rw [if_pos hf]
theorem xa_3 {B f i k : Nat} (hf : f / 100 = 3) : xaI B f i k = aHouse B i := by unfold xaI; rw [if_neg (by omega), if_pos hf]
theorem xa_5 {B f i k : Nat} (hf : f / 100 = 5) : xaI B f i k = aPc B i k := by unfold xaI; rw [if_neg (by omega), if_neg (by omega), if_pos hf]
theorem xa_6 {B f i k : Nat} (hf : f / 100 = 6) : xaI B f i k = aQu B i k := by unfold xaI; rw [if_neg (by omega), if_neg (by omega), if_neg (by omega), if_pos hf]
theorem xa_7 {B f i k : Nat} (hf : f / 100 = 7) : xaI B f i k = aTape B := by unfold xaI; rw [if_neg (by omega), if_neg (by omega), if_neg (by omega), if_neg (by omega), if_pos hf]
theorem xa_8 {B f i k : Nat} (hf : f / 100 = 8) : xaI B f i k = aTask B i := by unfold xaI; rw [if_neg (by omega), if_neg (by omega), if_neg (by omega), if_neg (by omega), if_neg (by omega), if_pos hf]
theorem xa_9 {B f i k : Nat} (hf : f / 100 = 9) : xaI B f i k = aHall B := by unfold xaI; rw [if_neg (by omega), if_neg (by omega), if_neg (by omega), if_neg (by omega), if_neg (by omega), if_neg (by omega)]
theorem xdI_j {B f i k j l : Nat} (a : xdI f i k) (b : xdI f j l) (e : xaI B f i k = xaI B f j l) : i = j ∧ k = l := by
  unfold xdI at a b
  rcases a with a | a | a | a | a | a | a
  · omega
  · rw [xa_3 a.1, xa_3 a.1] at e
    unfold aHouse at e
    omega
  · rw [xa_5 a.1, xa_5 a.1] at e
    unfold aPc at e
    omega
  · rw [xa_6 a.1, xa_6 a.1] at e
    unfold aQu at e
    omega
  · omega
  · rw [xa_8 a.1, xa_8 a.1] at e
    unfold aTask at e
    omega
  · omega
theorem xdI_w {f i k : Nat} (a : xdI f i k) : f < 1000 := by unfold xdI at a; omega
/-- where a row lies: 2001 rules, 2002 kinds, 2003 numbers, 2004 memory, 2005 lots, 2006 to 2008 bids, 2009 the tape, 2010 and 2011 the chooser's hours and pledges -/
def xaA (B f i : Nat) : Nat := if f = 2001 then aRules B else if f = 2002 then aKin B i else if f = 2003 then aNum B i else if f = 2004 then aMem B i else if f = 2005 then aLot B (i / 7) (i % 7) else if f = 2006 then aBP B (i / 20) (i % 20) else if f = 2007 then aBH B (i / 20) (i % 20) else if f = 2008 then aBL B (i / 20) (i % 20) else if f = 2009 then aTByt B else if f = 2010 then aHHrs B else aHPl B
def xdA (f i : Nat) : Prop := (f = 2001 ∧ i = 0) ∨ (f = 2002 ∧ i < 6) ∨ (f = 2003 ∧ i < 6) ∨ (f = 2004 ∧ i < 6) ∨ (f = 2005 ∧ i < 42) ∨ (f = 2006 ∧ i < 120) ∨ (f = 2007 ∧ i < 120) ∨ (f = 2008 ∧ i < 120) ∨ (f = 2009 ∧ i = 0) ∨ (f = 2010 ∧ i = 0) ∨ (f = 2011 ∧ i = 0)
theorem xa_1 {B i : Nat} : xaA B 2001 i = aRules B := id rfl
theorem xa_k {B i : Nat} : xaA B 2002 i = aKin B i := id rfl
theorem xa_n {B i : Nat} : xaA B 2003 i = aNum B i := id rfl
theorem xa_m {B i : Nat} : xaA B 2004 i = aMem B i := id rfl
theorem xa_l {B i : Nat} : xaA B 2005 i = aLot B (i / 7) (i % 7) := id rfl
theorem xa_p {B i : Nat} : xaA B 2006 i = aBP B (i / 20) (i % 20) := id rfl
theorem xa_h {B i : Nat} : xaA B 2007 i = aBH B (i / 20) (i % 20) := id rfl
theorem xa_d {B i : Nat} : xaA B 2008 i = aBL B (i / 20) (i % 20) := id rfl
theorem xa_t {B i : Nat} : xaA B 2009 i = aTByt B := id rfl
theorem xa_u {B i : Nat} : xaA B 2010 i = aHHrs B := id rfl
theorem xa_v {B i : Nat} : xaA B 2011 i = aHPl B := id rfl
theorem x113 {B t r u s : Nat} (e : B + (28 + (113 * t + r)) = B + (28 + (113 * u + s))) (hr : r < 113) (hs : s < 113) : t = u ∧ r = s := by omega
theorem xo_k {B i : Nat} : xaA B 2002 i = B + (28 + (113 * i + 1)) := by rw [xa_k]; unfold aKin; omega
theorem xo_n {B i : Nat} : xaA B 2003 i = B + (28 + (113 * i + 2)) := by rw [xa_n]; unfold aNum; omega
theorem xo_m {B i : Nat} : xaA B 2004 i = B + (28 + (113 * i + 3)) := by rw [xa_m]; unfold aMem; omega
theorem xo_l {B i : Nat} : xaA B 2005 i = B + (28 + (113 * (i / 7) + (5 + i % 7))) := by rw [xa_l]; unfold aLot; omega
theorem xo_p {B i : Nat} : xaA B 2006 i = B + (28 + (113 * (i / 20) + (15 + 5 * (i % 20)))) := by rw [xa_p]; unfold aBP; omega
theorem xo_h {B i : Nat} : xaA B 2007 i = B + (28 + (113 * (i / 20) + (16 + 5 * (i % 20)))) := by rw [xa_h]; unfold aBH; omega
theorem xo_d {B i : Nat} : xaA B 2008 i = B + (28 + (113 * (i / 20) + (17 + 5 * (i % 20)))) := by rw [xa_d]; unfold aBL; omega
theorem xdA_j {B f i g j : Nat} (a : xdA f i) (b : xdA g j) (e : xaA B f i = xaA B g j) : f = g ∧ i = j := by
  unfold xdA at a b
  rcases a with ⟨rfl, a⟩ | ⟨rfl, a⟩ | ⟨rfl, a⟩ | ⟨rfl, a⟩ | ⟨rfl, a⟩ | ⟨rfl, a⟩ | ⟨rfl, a⟩ | ⟨rfl, a⟩ | ⟨rfl, a⟩ | ⟨rfl, a⟩ | ⟨rfl, a⟩ <;> rcases b with ⟨rfl, b⟩ | ⟨rfl, b⟩ | ⟨rfl, b⟩ | ⟨rfl, b⟩ | ⟨rfl, b⟩ | ⟨rfl, b⟩ | ⟨rfl, b⟩ | ⟨rfl, b⟩ | ⟨rfl, b⟩ | ⟨rfl, b⟩ | ⟨rfl, b⟩ <;> simp only [xa_1, xo_k, xo_n, xo_m, xo_l, xo_p, xo_h, xo_d, xa_t, xa_u, xa_v, aRules, aTByt, aHHrs, aHPl] at e <;> first | omega | (obtain ⟨q1, q2⟩ := x113 e (by omega) (by omega); omega)
theorem xdA_w {f i : Nat} (a : xdA f i) : 2000 < f := by unfold xdA at a; omega
/-- the rows lie in the hall, and none of them is the machine's or the chooser's or the compiler's -/
theorem xaA_w {B f i : Nat} (a : xdA f i) : xaA B f i = B + 3 ∨ xaA B f i = B + 12 ∨ xaA B f i = B + 25 ∨ xaA B f i = B + 26 ∨ B + 29 ≤ xaA B f i := by
  unfold xdA at a
  rcases a with ⟨rfl, a⟩ | ⟨rfl, a⟩ | ⟨rfl, a⟩ | ⟨rfl, a⟩ | ⟨rfl, a⟩ | ⟨rfl, a⟩ | ⟨rfl, a⟩ | ⟨rfl, a⟩ | ⟨rfl, a⟩ | ⟨rfl, a⟩ | ⟨rfl, a⟩ <;> first | (rw [xa_1]; unfold aRules; omega) | (rw [xo_k]; omega) | (rw [xo_n]; omega) | (rw [xo_m]; omega) | (rw [xo_l]; omega) | (rw [xo_p]; omega) | (rw [xo_h]; omega) | (rw [xo_d]; omega) | (rw [xa_t]; unfold aTByt; omega) | (rw [xa_u]; unfold aHHrs; omega) | (rw [xa_v]; unfold aHPl; omega)
def RX (B : Nat) (S : zst) (h : zH) : Prop := (∀ f i k, xdI f i k → zI h (xaI B f i k) f = S f i k) ∧ ∀ f i, xdA f i → zA h (xaA B f i) = S f i
theorem RX.sI {B : Nat} {S : zst} {h : zH} {f i k : Nat} {v : Int32} (R : RX B S h) (d : xdI f i k) : RX B (zu3 S f i k v) (zsI h (xaI B f i k) f v) := by
  refine ⟨fun g j l e => ?_, fun g j e => ?_⟩
  · rw [zI_sI, zu3_a]
    by_cases q : g = f ∧ j = i ∧ l = k
    · obtain ⟨rfl, rfl, rfl⟩ := q
      rw [if_pos ⟨rfl, rfl⟩, if_pos ⟨rfl, rfl, rfl⟩]
    · rw [if_neg q, if_neg (fun z => ?_), R.1 g j l e]
      obtain ⟨z1, rfl⟩ := z
      exact q ⟨rfl, xdI_j e d z1⟩
  · have w1 := xdI_w d
    have w2 := xdA_w e
    rw [zA_sI, zu3_r S (by omega), R.2 g j e]
theorem RX.sA {B : Nat} {S : zst} {h : zH} {f i k : Nat} {v : Int32} (R : RX B S h) (d : xdA f i) : RX B (zu3 S f i k v) (zsA h (xaA B f i) k v) := by
  refine ⟨fun g j l e => ?_, fun g j e => funext fun l => ?_⟩
  · have w1 := xdI_w e
    have w2 := xdA_w d
    rw [zI_sA, zu3_n S (by omega), R.1 g j l e]
  · rw [zA_sA, zu3_a]
    by_cases q : g = f ∧ j = i ∧ l = k
    · obtain ⟨rfl, rfl, rfl⟩ := q
      rw [if_pos ⟨rfl, rfl⟩, if_pos ⟨rfl, rfl, rfl⟩]
    · rw [if_neg q, if_neg (fun z => ?_), R.2 g j e]
      obtain ⟨z1, rfl⟩ := z
      obtain ⟨rfl, rfl⟩ := xdA_j e d z1
      exact q ⟨rfl, rfl, rfl⟩
theorem RX.iN {B : Nat} {S : zst} {h : zH} {a f : Nat} {v : Int32} (R : RX B S h) (d : ∀ i k, ¬ xdI f i k) : RX B S (zsI h a f v) := by
  refine ⟨fun g j l e => ?_, fun g j e => ?_⟩
  · rw [zI_sI, if_neg (fun z => ?_), R.1 g j l e]
    obtain ⟨z1, rfl⟩ := z
    exact d j l e
  · rw [zA_sI, R.2 g j e]
/-- two heaps that read alike in the hall's cells -/
theorem RX.eq {B : Nat} {S : zst} {h g : zH} (R : RX B S h) (hI : ∀ f i k, xdI f i k → zI g (xaI B f i k) f = zI h (xaI B f i k) f) (hA : ∀ f i, xdA f i → zA g (xaA B f i) = zA h (xaA B f i)) : RX B S g :=
  ⟨fun f i k e => (hI f i k e).trans (R.1 f i k e), fun f i e => (hA f i e).trans (R.2 f i e)⟩
theorem RX.r2 {B S h f} (R : RX B S h) (hf : f / 100 = 2) : zI h (aCourt B) f = S f 0 0 := by
  have := R.1 f 0 0 (by unfold xdI; omega)
  rwa [xa_2 hf] at this
theorem RX.r3 {B S h f i} (R : RX B S h) (hf : f / 100 = 3) (hi : i < 8) : zI h (aHouse B i) f = S f i 0 := by
  have := R.1 f i 0 (by unfold xdI; omega)
  rwa [xa_3 hf] at this
theorem RX.r5 {B S h f t p} (R : RX B S h) (hf : f / 100 = 5) (ht : t < 6) (hp : p < 20) : zI h (aPc B t p) f = S f t p := by
  have := R.1 f t p (by unfold xdI; omega)
  rwa [xa_5 hf] at this
theorem RX.r6 {B S h f t p} (R : RX B S h) (hf : f / 100 = 6) (ht : t < 6) (hp : p < 20) : zI h (aQu B t p) f = S f t p := by
  have := R.1 f t p (by unfold xdI; omega)
  rwa [xa_6 hf] at this
theorem RX.r7 {B S h} (R : RX B S h) : zI h (aTape B) 701 = S 701 0 0 := by
  have := R.1 701 0 0 (by unfold xdI; omega)
  rwa [xa_7 (by decide)] at this
theorem RX.r8 {B S h f t} (R : RX B S h) (hf : f / 100 = 8) (ht : t < 6) : zI h (aTask B t) f = S f t 0 := by
  have := R.1 f t 0 (by unfold xdI; omega)
  rwa [xa_8 hf] at this
theorem RX.r9 {B S h f} (R : RX B S h) (hf : f / 100 = 9) : zI h (aHall B) f = S f 0 0 := by
  have := R.1 f 0 0 (by unfold xdI; omega)
  rwa [xa_9 hf] at this
theorem RX.s2 {B S h f v} (R : RX B S h) (hf : f / 100 = 2) : RX B (zu3 S f 0 0 v) (zsI h (aCourt B) f v) := by
  have := R.sI (v := v) (f := f) (i := 0) (k := 0) (by unfold xdI; omega)
  rwa [xa_2 hf] at this
theorem RX.s3 {B S h f i v} (R : RX B S h) (hf : f / 100 = 3) (hi : i < 8) : RX B (zu3 S f i 0 v) (zsI h (aHouse B i) f v) := by
  have := R.sI (v := v) (f := f) (i := i) (k := 0) (by unfold xdI; omega)
  rwa [xa_3 hf] at this
theorem RX.s5 {B S h f t p v} (R : RX B S h) (hf : f / 100 = 5) (ht : t < 6) (hp : p < 20) : RX B (zu3 S f t p v) (zsI h (aPc B t p) f v) := by
  have := R.sI (v := v) (f := f) (i := t) (k := p) (by unfold xdI; omega)
  rwa [xa_5 hf] at this
theorem RX.s6 {B S h f t p v} (R : RX B S h) (hf : f / 100 = 6) (ht : t < 6) (hp : p < 20) : RX B (zu3 S f t p v) (zsI h (aQu B t p) f v) := by
  have := R.sI (v := v) (f := f) (i := t) (k := p) (by unfold xdI; omega)
  rwa [xa_6 hf] at this
theorem RX.s7 {B S h v} (R : RX B S h) : RX B (zu3 S 701 0 0 v) (zsI h (aTape B) 701 v) := by
  have := R.sI (v := v) (f := 701) (i := 0) (k := 0) (by unfold xdI; omega)
  rwa [xa_7 (by decide)] at this
theorem RX.s8 {B S h f t v} (R : RX B S h) (hf : f / 100 = 8) (ht : t < 6) : RX B (zu3 S f t 0 v) (zsI h (aTask B t) f v) := by
  have := R.sI (v := v) (f := f) (i := t) (k := 0) (by unfold xdI; omega)
  rwa [xa_8 hf] at this
theorem RX.s9 {B S h f v} (R : RX B S h) (hf : f / 100 = 9) : RX B (zu3 S f 0 0 v) (zsI h (aHall B) f v) := by
  have := R.sI (v := v) (f := f) (i := 0) (k := 0) (by unfold xdI; omega)
  rwa [xa_9 hf] at this
theorem RX.a {B S h f i} (R : RX B S h) (d : xdA f i) : zA h (xaA B f i) = S f i := R.2 f i d
/-- nothing has changed outside the hall's cells -/
def zFr (B : Nat) (h g : zH) : Prop := zS g = zS h ∧ (∀ a, (a < B ∨ B + 706 ≤ a) → zI g a = zI h a ∧ zL g a = zL h a ∧ zP g a = zP h a ∧ zA g a = zA h a ∧ zB g a = zB h a) ∧ zK g = zK h ∧ zN g = zN h ∧ zR g = zR h
theorem zFr.rf (B : Nat) (h : zH) : zFr B h h := ⟨rfl, fun _ _ => ⟨rfl, rfl, rfl, rfl, rfl⟩, rfl, rfl, rfl⟩
theorem zFr.tr {B : Nat} {h g k : zH} (a : zFr B h g) (b : zFr B g k) : zFr B h k := ⟨b.1.trans a.1, fun x q => ⟨(b.2.1 x q).1.trans (a.2.1 x q).1, (b.2.1 x q).2.1.trans (a.2.1 x q).2.1, (b.2.1 x q).2.2.1.trans (a.2.1 x q).2.2.1, (b.2.1 x q).2.2.2.1.trans (a.2.1 x q).2.2.2.1, (b.2.1 x q).2.2.2.2.trans (a.2.1 x q).2.2.2.2⟩, b.2.2.1.trans a.2.2.1, b.2.2.2.1.trans a.2.2.2.1, b.2.2.2.2.trans a.2.2.2.2⟩
theorem zFr.sI {B : Nat} {h : zH} {a f : Nat} {v : Int32} (q : B ≤ a ∧ a < B + 706) : zFr B h (zsI h a f v) :=
  ⟨zS_sI _ _ _ _, fun b w => ⟨funext fun j => by rw [zI_sI, if_neg (by omega)], by rw [zL_sI], by rw [zP_sI], by rw [zA_sI], by rw [zB_sI]⟩, zK_sI _ _ _ _, zN_sI _ _ _ _, zR_sI _ _ _ _⟩
theorem zFr.sA {B : Nat} {h : zH} {a f : Nat} {v : Int32} (q : B ≤ a ∧ a < B + 706) : zFr B h (zsA h a f v) :=
  ⟨zS_sA _ _ _ _, fun b w => ⟨by rw [zI_sA], by rw [zL_sA], by rw [zP_sA], funext fun j => by rw [zA_sA, if_neg (by omega)], by rw [zB_sA]⟩, zK_sA _ _ _ _, zN_sA _ _ _ _, zR_sA _ _ _ _⟩
/-- the machine between two calls -/
def zMI (B : Nat) (h : zH) : Prop := (∀ j, 128 ≤ j → zA h (aCells B) j = 0) ∧ (∀ j, 10 ≤ j → zA h (aOuts B) j = 0) ∧ (∀ t, t < 6 → zCache h (aMach B) (aCells B) (aOuts B) (aTask B t) (aKin B t) (aNum B t) (aMem B t)) ∧ ∀ b, zP h (aMach B) 403 = some b → ∃ t, t < 6 ∧ b = aTask B t ∧ nI t < zI h (aHall B) 904
theorem zMI.sI {B : Nat} {h : zH} {a f : Nat} {v : Int32} (M : zMI B h) (h1 : ¬ f = 404) (h2 : ¬ f = 805) (h3 : ¬ f = 904) : zMI B (zsI h a f v) := by
  unfold zMI zCache at M ⊢
  have e1 : ∀ b, zI (zsI h a f v) b 404 = zI h b 404 := fun b => by rw [zI_sI, if_neg (fun q => h1 q.2.symm)]
  have e2 : ∀ b, zI (zsI h a f v) b 805 = zI h b 805 := fun b => by rw [zI_sI, if_neg (fun q => h2 q.2.symm)]
  have e3 : ∀ b, zI (zsI h a f v) b 904 = zI h b 904 := fun b => by rw [zI_sI, if_neg (fun q => h3 q.2.symm)]
  simp only [zA_sI, zP_sI, e1, e2, e3]
  exact M
/-- the hall's cells hold the state S -/
def zXR (B : Nat) (S : zst) (h : zH) : Prop := zXS B h ∧ RX B S h ∧ zMI B h
theorem zXR.sI {B S h f i k v} (H : zXR B S h) (d : xdI f i k) (h2 : ¬ f = 805) (h3 : ¬ f = 904) : zXR B (zu3 S f i k v) (zsI h (xaI B f i k) f v) := by
  refine ⟨H.1.sk zSk.sI, H.2.1.sI d, H.2.2.sI ?_ h2 h3⟩
  rintro rfl
  unfold xdI at d
  omega
theorem zXR.s2 {B S h f v} (H : zXR B S h) (hf : f / 100 = 2) : zXR B (zu3 S f 0 0 v) (zsI h (aCourt B) f v) := by
  have := H.sI (v := v) (f := f) (i := 0) (k := 0) (by unfold xdI; omega) (by omega) (by omega)
  rwa [xa_2 hf] at this
theorem zXR.s3 {B S h f i v} (H : zXR B S h) (hf : f / 100 = 3) (hi : i < 8) : zXR B (zu3 S f i 0 v) (zsI h (aHouse B i) f v) := by
  have := H.sI (v := v) (f := f) (i := i) (k := 0) (by unfold xdI; omega) (by omega) (by omega)
  rwa [xa_3 hf] at this
theorem zXR.s5 {B S h f t p v} (H : zXR B S h) (hf : f / 100 = 5) (ht : t < 6) (hp : p < 20) : zXR B (zu3 S f t p v) (zsI h (aPc B t p) f v) := by
  have := H.sI (v := v) (f := f) (i := t) (k := p) (by unfold xdI; omega) (by omega) (by omega)
  rwa [xa_5 hf] at this
theorem zXR.s6 {B S h f t p v} (H : zXR B S h) (hf : f / 100 = 6) (ht : t < 6) (hp : p < 20) : zXR B (zu3 S f t p v) (zsI h (aQu B t p) f v) := by
  have := H.sI (v := v) (f := f) (i := t) (k := p) (by unfold xdI; omega) (by omega) (by omega)
  rwa [xa_6 hf] at this
theorem zXR.s8 {B S h f t v} (H : zXR B S h) (hf : f / 100 = 8) (hs : ¬ f = 805) (ht : t < 6) : zXR B (zu3 S f t 0 v) (zsI h (aTask B t) f v) := by
  have := H.sI (v := v) (f := f) (i := t) (k := 0) (by unfold xdI; omega) hs (by omega)
  rwa [xa_8 hf] at this
theorem zXR.s9 {B S h f v} (H : zXR B S h) (hf : f / 100 = 9) (hs : ¬ f = 904) : zXR B (zu3 S f 0 0 v) (zsI h (aHall B) f v) := by
  have := H.sI (v := v) (f := f) (i := 0) (k := 0) (by unfold xdI; omega) (by omega) hs
  rwa [xa_9 hf] at this
