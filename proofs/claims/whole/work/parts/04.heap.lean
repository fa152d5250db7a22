/-! THE ABSTRACT HEAP: the size if it is known, the kind of each address (0: nothing known; 1 + c: an object of class c of vwCl; 100 int[], 101 boolean[], 102 byte[], 103 long[], 104 int[][], 105 Task[], 106 Piece[], 107 House[]; 200 the script; 300 + t a text), the length, then what fields and rows hold -/
def zH : Type := Option Nat × (Nat → Nat) × (Nat → Nat) × (Nat → Nat → Int32) × (Nat → Nat → Int64) × (Nat → Nat → Option Nat) × (Nat → Nat → Int32) × (Nat → Nat → Int64) × (Nat → Nat → Option Nat)
def zS (h : zH) : Option Nat := h.1
def zK (h : zH) : Nat → Nat := h.2.1
def zN (h : zH) : Nat → Nat := h.2.2.1
def zI (h : zH) : Nat → Nat → Int32 := h.2.2.2.1
def zL (h : zH) : Nat → Nat → Int64 := h.2.2.2.2.1
def zP (h : zH) : Nat → Nat → Option Nat := h.2.2.2.2.2.1
def zA (h : zH) : Nat → Nat → Int32 := h.2.2.2.2.2.2.1
def zB (h : zH) : Nat → Nat → Int64 := h.2.2.2.2.2.2.2.1
def zR (h : zH) : Nat → Nat → Option Nat := h.2.2.2.2.2.2.2.2
def zu {α : Type} (f : Nat → Nat → α) (a k : Nat) (v : α) : Nat → Nat → α := fun b j => if b = a ∧ j = k then v else f b j
def zu1 {α : Type} (f : Nat → α) (a : Nat) (v : α) : Nat → α := fun b => if b = a then v else f b
def zu0 {α : Type} (f : Nat → Nat → α) (a : Nat) (v : α) : Nat → Nat → α := fun b j => if b = a then v else f b j
def zsS (h : zH) (v : Option Nat) : zH := (v, zK h, zN h, zI h, zL h, zP h, zA h, zB h, zR h)
def zsI (h : zH) (a k : Nat) (v : Int32) : zH := (zS h, zK h, zN h, zu (zI h) a k v, zL h, zP h, zA h, zB h, zR h)
def zsL (h : zH) (a k : Nat) (v : Int64) : zH := (zS h, zK h, zN h, zI h, zu (zL h) a k v, zP h, zA h, zB h, zR h)
def zsP (h : zH) (a k : Nat) (v : Option Nat) : zH := (zS h, zK h, zN h, zI h, zL h, zu (zP h) a k v, zA h, zB h, zR h)
def zsA (h : zH) (a k : Nat) (v : Int32) : zH := (zS h, zK h, zN h, zI h, zL h, zP h, zu (zA h) a k v, zB h, zR h)
def zsB (h : zH) (a k : Nat) (v : Int64) : zH := (zS h, zK h, zN h, zI h, zL h, zP h, zA h, zu (zB h) a k v, zR h)
def zsR (h : zH) (a k : Nat) (v : Option Nat) : zH := (zS h, zK h, zN h, zI h, zL h, zP h, zA h, zB h, zu (zR h) a k v)
/-- a new cell at q, of kind k and length n, all zero -/
def zal (h : zH) (q k n : Nat) : zH := (some (q + 1), zu1 (zK h) q k, zu1 (zN h) q n, zu0 (zI h) q 0, zu0 (zL h) q 0, zu0 (zP h) q none, zu0 (zA h) q 0, zu0 (zB h) q 0, zu0 (zR h) q none)

theorem zS_sS (h : zH) (v : Option Nat) : zS (zsS h v) = v := id rfl
theorem zS_sI (h : zH) (a k : Nat) (v : Int32) : zS (zsI h a k v) = zS h := id rfl
theorem zS_sL (h : zH) (a k : Nat) (v : Int64) : zS (zsL h a k v) = zS h := id rfl
theorem zS_sP (h : zH) (a k : Nat) (v : Option Nat) : zS (zsP h a k v) = zS h := id rfl
theorem zS_sA (h : zH) (a k : Nat) (v : Int32) : zS (zsA h a k v) = zS h := id rfl
theorem zS_sB (h : zH) (a k : Nat) (v : Int64) : zS (zsB h a k v) = zS h := id rfl
theorem zS_sR (h : zH) (a k : Nat) (v : Option Nat) : zS (zsR h a k v) = zS h := id rfl
theorem zS_al (h : zH) (q k n : Nat) : zS (zal h q k n) = some (q + 1) := id rfl
theorem zK_sS (h : zH) (v : Option Nat) : zK (zsS h v) = zK h := id rfl
theorem zK_sI (h : zH) (a k : Nat) (v : Int32) : zK (zsI h a k v) = zK h := id rfl
theorem zK_sL (h : zH) (a k : Nat) (v : Int64) : zK (zsL h a k v) = zK h := id rfl
theorem zK_sP (h : zH) (a k : Nat) (v : Option Nat) : zK (zsP h a k v) = zK h := id rfl
theorem zK_sA (h : zH) (a k : Nat) (v : Int32) : zK (zsA h a k v) = zK h := id rfl
theorem zK_sB (h : zH) (a k : Nat) (v : Int64) : zK (zsB h a k v) = zK h := id rfl
theorem zK_sR (h : zH) (a k : Nat) (v : Option Nat) : zK (zsR h a k v) = zK h := id rfl
theorem zK_al (h : zH) (q k n : Nat) (b : Nat) : zK (zal h q k n) b = if b = q then k else zK h b := id rfl
theorem zN_sS (h : zH) (v : Option Nat) : zN (zsS h v) = zN h := id rfl
theorem zN_sI (h : zH) (a k : Nat) (v : Int32) : zN (zsI h a k v) = zN h := id rfl
theorem zN_sL (h : zH) (a k : Nat) (v : Int64) : zN (zsL h a k v) = zN h := id rfl
theorem zN_sP (h : zH) (a k : Nat) (v : Option Nat) : zN (zsP h a k v) = zN h := id rfl
theorem zN_sA (h : zH) (a k : Nat) (v : Int32) : zN (zsA h a k v) = zN h := id rfl
theorem zN_sB (h : zH) (a k : Nat) (v : Int64) : zN (zsB h a k v) = zN h := id rfl
theorem zN_sR (h : zH) (a k : Nat) (v : Option Nat) : zN (zsR h a k v) = zN h := id rfl
theorem zN_al (h : zH) (q k n : Nat) (b : Nat) : zN (zal h q k n) b = if b = q then n else zN h b := id rfl
theorem zI_sS (h : zH) (v : Option Nat) : zI (zsS h v) = zI h := id rfl
theorem zI_sI (h : zH) (a k : Nat) (v : Int32) (b j : Nat) : zI (zsI h a k v) b j = if b = a ∧ j = k then v else zI h b j := id rfl
theorem zI_sL (h : zH) (a k : Nat) (v : Int64) : zI (zsL h a k v) = zI h := id rfl
theorem zI_sP (h : zH) (a k : Nat) (v : Option Nat) : zI (zsP h a k v) = zI h := id rfl
theorem zI_sA (h : zH) (a k : Nat) (v : Int32) : zI (zsA h a k v) = zI h := id rfl
theorem zI_sB (h : zH) (a k : Nat) (v : Int64) : zI (zsB h a k v) = zI h := id rfl
theorem zI_sR (h : zH) (a k : Nat) (v : Option Nat) : zI (zsR h a k v) = zI h := id rfl
theorem zI_al (h : zH) (q k n : Nat) (b j : Nat) : zI (zal h q k n) b j = if b = q then 0 else zI h b j := id rfl
theorem zL_sS (h : zH) (v : Option Nat) : zL (zsS h v) = zL h := id rfl
theorem zL_sI (h : zH) (a k : Nat) (v : Int32) : zL (zsI h a k v) = zL h := id rfl
theorem zL_sL (h : zH) (a k : Nat) (v : Int64) (b j : Nat) : zL (zsL h a k v) b j = if b = a ∧ j = k then v else zL h b j := id rfl
theorem zL_sP (h : zH) (a k : Nat) (v : Option Nat) : zL (zsP h a k v) = zL h := id rfl
theorem zL_sA (h : zH) (a k : Nat) (v : Int32) : zL (zsA h a k v) = zL h := id rfl
theorem zL_sB (h : zH) (a k : Nat) (v : Int64) : zL (zsB h a k v) = zL h := id rfl
theorem zL_sR (h : zH) (a k : Nat) (v : Option Nat) : zL (zsR h a k v) = zL h := id rfl
theorem zL_al (h : zH) (q k n : Nat) (b j : Nat) : zL (zal h q k n) b j = if b = q then 0 else zL h b j := id rfl
theorem zP_sS (h : zH) (v : Option Nat) : zP (zsS h v) = zP h := id rfl
theorem zP_sI (h : zH) (a k : Nat) (v : Int32) : zP (zsI h a k v) = zP h := id rfl
theorem zP_sL (h : zH) (a k : Nat) (v : Int64) : zP (zsL h a k v) = zP h := id rfl
theorem zP_sP (h : zH) (a k : Nat) (v : Option Nat) (b j : Nat) : zP (zsP h a k v) b j = if b = a ∧ j = k then v else zP h b j := id rfl
theorem zP_sA (h : zH) (a k : Nat) (v : Int32) : zP (zsA h a k v) = zP h := id rfl
theorem zP_sB (h : zH) (a k : Nat) (v : Int64) : zP (zsB h a k v) = zP h := id rfl
theorem zP_sR (h : zH) (a k : Nat) (v : Option Nat) : zP (zsR h a k v) = zP h := id rfl
theorem zP_al (h : zH) (q k n : Nat) (b j : Nat) : zP (zal h q k n) b j = if b = q then none else zP h b j := id rfl
theorem zA_sS (h : zH) (v : Option Nat) : zA (zsS h v) = zA h := id rfl
theorem zA_sI (h : zH) (a k : Nat) (v : Int32) : zA (zsI h a k v) = zA h := id rfl
theorem zA_sL (h : zH) (a k : Nat) (v : Int64) : zA (zsL h a k v) = zA h := id rfl
theorem zA_sP (h : zH) (a k : Nat) (v : Option Nat) : zA (zsP h a k v) = zA h := id rfl
theorem zA_sA (h : zH) (a k : Nat) (v : Int32) (b j : Nat) : zA (zsA h a k v) b j = if b = a ∧ j = k then v else zA h b j := id rfl
theorem zA_sB (h : zH) (a k : Nat) (v : Int64) : zA (zsB h a k v) = zA h := id rfl
theorem zA_sR (h : zH) (a k : Nat) (v : Option Nat) : zA (zsR h a k v) = zA h := id rfl
theorem zA_al (h : zH) (q k n : Nat) (b j : Nat) : zA (zal h q k n) b j = if b = q then 0 else zA h b j := id rfl
theorem zB_sS (h : zH) (v : Option Nat) : zB (zsS h v) = zB h := id rfl
theorem zB_sI (h : zH) (a k : Nat) (v : Int32) : zB (zsI h a k v) = zB h := id rfl
theorem zB_sL (h : zH) (a k : Nat) (v : Int64) : zB (zsL h a k v) = zB h := id rfl
theorem zB_sP (h : zH) (a k : Nat) (v : Option Nat) : zB (zsP h a k v) = zB h := id rfl
theorem zB_sA (h : zH) (a k : Nat) (v : Int32) : zB (zsA h a k v) = zB h := id rfl
theorem zB_sB (h : zH) (a k : Nat) (v : Int64) (b j : Nat) : zB (zsB h a k v) b j = if b = a ∧ j = k then v else zB h b j := id rfl
theorem zB_sR (h : zH) (a k : Nat) (v : Option Nat) : zB (zsR h a k v) = zB h := id rfl
theorem zB_al (h : zH) (q k n : Nat) (b j : Nat) : zB (zal h q k n) b j = if b = q then 0 else zB h b j := id rfl
theorem zR_sS (h : zH) (v : Option Nat) : zR (zsS h v) = zR h := id rfl
theorem zR_sI (h : zH) (a k : Nat) (v : Int32) : zR (zsI h a k v) = zR h := id rfl
theorem zR_sL (h : zH) (a k : Nat) (v : Int64) : zR (zsL h a k v) = zR h := id rfl
theorem zR_sP (h : zH) (a k : Nat) (v : Option Nat) : zR (zsP h a k v) = zR h := id rfl
theorem zR_sA (h : zH) (a k : Nat) (v : Int32) : zR (zsA h a k v) = zR h := id rfl
theorem zR_sB (h : zH) (a k : Nat) (v : Int64) : zR (zsB h a k v) = zR h := id rfl
theorem zR_sR (h : zH) (a k : Nat) (v : Option Nat) (b j : Nat) : zR (zsR h a k v) b j = if b = a ∧ j = k then v else zR h b j := id rfl
theorem zR_al (h : zH) (q k n : Nat) (b j : Nat) : zR (zal h q k n) b j = if b = q then none else zR h b j := id rfl
/-! LOCALS: by their places -/
def zget : List (Option Value) → Nat → Option Value
  | [], _ => none
  | x :: _, 0 => x
  | _ :: xs, n + 1 => zget xs n
def zdl (x : Option Value) : Option Value := x.bind fun v => if v.category = 2 then none else some v
def zst1 : List (Option Value) → Nat → Value → List (Option Value)
  | [], _, _ => []
  | _ :: xs, 0, v => some v :: xs
  | x :: xs, 1, v => zdl x :: zst1 xs 0 v
  | x :: xs, n + 2, v => x :: zst1 xs (n + 1) v
def zht : List (Option Value) → List (Option Value)
  | [] => []
  | _ :: xs => none :: xs
def zst2 : List (Option Value) → Nat → Value → List (Option Value)
  | [], _, _ => []
  | _ :: xs, 0, v => some v :: zht xs
  | x :: xs, 1, v => zdl x :: zst2 xs 0 v
  | x :: xs, n + 2, v => x :: zst2 xs (n + 1) v
theorem zget_0 (x : Option Value) (xs) : zget (x :: xs) 0 = x := id rfl
theorem zget_s (x : Option Value) (xs) (n : Nat) : zget (x :: xs) (n + 1) = zget xs n := id rfl
theorem zst1_0 (x : Option Value) (xs) (v : Value) : zst1 (x :: xs) 0 v = some v :: xs := id rfl
theorem zst1_1 (x : Option Value) (xs) (v : Value) : zst1 (x :: xs) 1 v = zdl x :: zst1 xs 0 v := id rfl
theorem zst1_s (x : Option Value) (xs) (n : Nat) (v : Value) : zst1 (x :: xs) (n + 2) v = x :: zst1 xs (n + 1) v := id rfl
theorem zst2_0 (x : Option Value) (xs) (v : Value) : zst2 (x :: xs) 0 v = some v :: zht xs := id rfl
theorem zst2_1 (x : Option Value) (xs) (v : Value) : zst2 (x :: xs) 1 v = zdl x :: zst2 xs 0 v := id rfl
theorem zst2_s (x : Option Value) (xs) (n : Nat) (v : Value) : zst2 (x :: xs) (n + 2) v = x :: zst2 xs (n + 1) v := id rfl
theorem zht_c (x : Option Value) (xs) : zht (x :: xs) = none :: xs := id rfl
theorem zdl_n : zdl none = none := id rfl
theorem zdl_i (x : Int32) : zdl (some (.int x)) = some (.int x) := id rfl
theorem zdl_r (x : Nat) : zdl (some (.ref x)) = some (.ref x) := id rfl
theorem zdl_l (x : Int64) : zdl (some (.long x)) = none := id rfl
theorem zct_i (x : Int32) : (Value.int x).category = 1 := id rfl
theorem zct_r (x : Nat) : (Value.ref x).category = 1 := id rfl
theorem zct_l (x : Int64) : (Value.long x).category = 2 := id rfl
theorem zct_n : (Value.null).category = 1 := id rfl
theorem zct_q (r : Option Nat) : (va_rf r).category = 1 := by cases r <;> rfl
/-! THE STACK -/
def zpI (st : List Value) (f : Int32 → List Value → Prop) : Prop := match st with
  | .int x :: r => f x r
  | _ => False
def zpL (st : List Value) (f : Int64 → List Value → Prop) : Prop := match st with
  | .long x :: r => f x r
  | _ => False
def zpR (st : List Value) (f : Nat → List Value → Prop) : Prop := match st with
  | .ref x :: r => f x r
  | _ => False
def zpQ (st : List Value) (f : Option Nat → List Value → Prop) : Prop := match st with
  | .ref x :: r => f (some x) r
  | .null :: r => f none r
  | _ => False
def zpV (st : List Value) (f : Value → List Value → Prop) : Prop := match st with
  | v :: r => f v r
  | _ => False
def zpn : Nat → List Value → List Value → (List Value → List Value → Prop) → Prop
  | 0, acc, st, f => f acc st
  | n + 1, acc, v :: st, f => zpn n (v :: acc) st f
  | _ + 1, _, [], _ => False
theorem zpI_c (x : Int32) (r) (f) : zpI (.int x :: r) f = f x r := id rfl
theorem zpL_c (x : Int64) (r) (f) : zpL (.long x :: r) f = f x r := id rfl
theorem zpR_c (x : Nat) (r) (f) : zpR (.ref x :: r) f = f x r := id rfl
theorem zpR_q (x : Option Nat) (r) (f) : zpR (va_rf x :: r) f = ∃ a, x = some a ∧ f a r := by
  cases x with
  | none => simp [zpR, va_rf]
  | some a => simp [zpR, va_rf]
theorem zpQ_c (x : Nat) (r) (f) : zpQ (.ref x :: r) f = f (some x) r := id rfl
theorem zpQ_n (r) (f) : zpQ (.null :: r) f = f none r := id rfl
theorem zpQ_q (x : Option Nat) (r) (f) : zpQ (va_rf x :: r) f = f x r := by cases x <;> rfl
theorem zpV_c (x : Value) (r) (f) : zpV (x :: r) f = f x r := id rfl
theorem zpn_0 (acc st f) : zpn 0 acc st f = f acc st := id rfl
theorem zpn_s (n acc v st f) : zpn (n + 1) acc (v :: st) f = zpn n (v :: acc) st f := id rfl
theorem zpI_inv {st f} (h : zpI st f) : ∃ x r, st = .int x :: r ∧ f x r := by
  unfold zpI at h
  split at h
  · exact ⟨_, _, rfl, h⟩
  · exact h.elim
theorem zpL_inv {st f} (h : zpL st f) : ∃ x r, st = .long x :: r ∧ f x r := by
  unfold zpL at h
  split at h
  · exact ⟨_, _, rfl, h⟩
  · exact h.elim
theorem zpR_inv {st f} (h : zpR st f) : ∃ x r, st = .ref x :: r ∧ f x r := by
  unfold zpR at h
  split at h
  · exact ⟨_, _, rfl, h⟩
  · exact h.elim
theorem zpQ_inv {st f} (h : zpQ st f) : ∃ x r, st = va_rf x :: r ∧ f x r := by
  unfold zpQ at h
  split at h
  · exact ⟨some _, _, rfl, h⟩
  · exact ⟨none, _, rfl, h⟩
  · exact h.elim
theorem zpV_inv {st f} (h : zpV st f) : ∃ x r, st = x :: r ∧ f x r := by
  unfold zpV at h
  split at h
  · exact ⟨_, _, rfl, h⟩
  · exact h.elim
theorem zpn_inv : ∀ (n : Nat) {acc st f}, zpn n acc st f → ∃ as r, as.length = n ∧ st = as ++ r ∧ f (as.reverse ++ acc) r
  | 0, acc, st, f, h => ⟨[], st, rfl, rfl, h⟩
  | n + 1, acc, [], f, h => h.elim
  | n + 1, acc, v :: st, f, h => by
    obtain ⟨as, r, h1, h2, h3⟩ := zpn_inv n (acc := v :: acc) (st := st) (f := f) h
    refine ⟨v :: as, r, by simp [h1], by simp [h2], ?_⟩
    simpa using h3
/-! RESULTS, METHODS -/
abbrev zO : Type := Option Value ⊕ String
/-- name, bytes, locals, what it returns, the cells and slots that it may make -/
abbrev zM : Type := MethodName × ByteArray × Nat × Option FieldType × Nat × Nat
def zRn (o : Nat) : String := match o with
  | 0 => RX0
  | 1 => RX1
  | 2 => RX2
  | 3 => RX3
  | 4 => RX4
  | 5 => RX5
  | 6 => RX6
  | 7 => RX7
  | 8 => RX8
  | 9 => RX9
  | 10 => RX10
  | 11 => RX11
  | 12 => RL
  | _ => RJ6
def mX10_init : zM := (yX10_init, cX10_init, 2, none, 705, 12642)
theorem mX10_init_b : mX10_init.2.1 = cX10_init := id rfl
theorem mX10_init_r : mX10_init.2.2.2.1 = none := id rfl
theorem mX10_init_c : mX10_init.2.2.2.2.1 = 705 := id rfl
theorem mX10_init_s : mX10_init.2.2.2.2.2 = 12642 := id rfl
def mX10_answer : zM := (yX10_answer, cX10_answer, 7, (some .int), 4, 24)
theorem mX10_answer_b : mX10_answer.2.1 = cX10_answer := id rfl
theorem mX10_answer_r : mX10_answer.2.2.2.1 = (some .int) := id rfl
theorem mX10_answer_c : mX10_answer.2.2.2.2.1 = 4 := id rfl
theorem mX10_answer_s : mX10_answer.2.2.2.2.2 = 24 := id rfl
def mX10_beside : zM := (yX10_beside, cX10_beside, 6, (some .int), 4, 24)
theorem mX10_beside_b : mX10_beside.2.1 = cX10_beside := id rfl
theorem mX10_beside_r : mX10_beside.2.2.2.1 = (some .int) := id rfl
theorem mX10_beside_c : mX10_beside.2.2.2.2.1 = 4 := id rfl
theorem mX10_beside_s : mX10_beside.2.2.2.2.2 = 24 := id rfl
def mX10_bid : zM := (yX10_bid, cX10_bid, 9, (some .int), 4, 24)
theorem mX10_bid_b : mX10_bid.2.1 = cX10_bid := id rfl
theorem mX10_bid_r : mX10_bid.2.2.2.1 = (some .int) := id rfl
theorem mX10_bid_c : mX10_bid.2.2.2.2.1 = 4 := id rfl
theorem mX10_bid_s : mX10_bid.2.2.2.2.2 = 24 := id rfl
def mX10_both : zM := (yX10_both, cX10_both, 3, (some .int), 0, 0)
theorem mX10_both_b : mX10_both.2.1 = cX10_both := id rfl
theorem mX10_both_r : mX10_both.2.2.2.1 = (some .int) := id rfl
theorem mX10_both_c : mX10_both.2.2.2.2.1 = 0 := id rfl
theorem mX10_both_s : mX10_both.2.2.2.2.2 = 0 := id rfl
def mX10_cell : zM := (yX10_cell, cX10_cell, 5, (some .int), 4, 24)
theorem mX10_cell_b : mX10_cell.2.1 = cX10_cell := id rfl
theorem mX10_cell_r : mX10_cell.2.2.2.1 = (some .int) := id rfl
theorem mX10_cell_c : mX10_cell.2.2.2.2.1 = 4 := id rfl
theorem mX10_cell_s : mX10_cell.2.2.2.2.2 = 24 := id rfl
def mX10_chosen : zM := (yX10_chosen, cX10_chosen, 6, (some .long), 4, 24)
theorem mX10_chosen_b : mX10_chosen.2.1 = cX10_chosen := id rfl
theorem mX10_chosen_r : mX10_chosen.2.2.2.1 = (some .long) := id rfl
theorem mX10_chosen_c : mX10_chosen.2.2.2.2.1 = 4 := id rfl
theorem mX10_chosen_s : mX10_chosen.2.2.2.2.2 = 24 := id rfl
def mX10_claim : zM := (yX10_claim, cX10_claim, 5, (some .int), 4, 24)
theorem mX10_claim_b : mX10_claim.2.1 = cX10_claim := id rfl
theorem mX10_claim_r : mX10_claim.2.2.2.1 = (some .int) := id rfl
theorem mX10_claim_c : mX10_claim.2.2.2.2.1 = 4 := id rfl
theorem mX10_claim_s : mX10_claim.2.2.2.2.2 = 24 := id rfl
def mX10_code : zM := (yX10_code, cX10_code, 5, (some .int), 4, 24)
theorem mX10_code_b : mX10_code.2.1 = cX10_code := id rfl
theorem mX10_code_r : mX10_code.2.2.2.1 = (some .int) := id rfl
theorem mX10_code_c : mX10_code.2.2.2.2.1 = 4 := id rfl
theorem mX10_code_s : mX10_code.2.2.2.2.2 = 24 := id rfl
def mX10_cost : zM := (yX10_cost, cX10_cost, 6, (some .long), 4, 24)
theorem mX10_cost_b : mX10_cost.2.1 = cX10_cost := id rfl
theorem mX10_cost_r : mX10_cost.2.2.2.1 = (some .long) := id rfl
theorem mX10_cost_c : mX10_cost.2.2.2.2.1 = 4 := id rfl
theorem mX10_cost_s : mX10_cost.2.2.2.2.2 = 24 := id rfl
def mX10_count : zM := (yX10_count, cX10_count, 2, (some .int), 0, 0)
theorem mX10_count_b : mX10_count.2.1 = cX10_count := id rfl
theorem mX10_count_r : mX10_count.2.2.2.1 = (some .int) := id rfl
theorem mX10_count_c : mX10_count.2.2.2.2.1 = 0 := id rfl
theorem mX10_count_s : mX10_count.2.2.2.2.2 = 0 := id rfl
def mX10_cut : zM := (yX10_cut, cX10_cut, 6, (some .int), 4, 24)
theorem mX10_cut_b : mX10_cut.2.1 = cX10_cut := id rfl
theorem mX10_cut_r : mX10_cut.2.2.2.1 = (some .int) := id rfl
theorem mX10_cut_c : mX10_cut.2.2.2.2.1 = 4 := id rfl
theorem mX10_cut_s : mX10_cut.2.2.2.2.2 = 24 := id rfl
def mX10_doubt : zM := (yX10_doubt, cX10_doubt, 8, (some .int), 4, 24)
theorem mX10_doubt_b : mX10_doubt.2.1 = cX10_doubt := id rfl
theorem mX10_doubt_r : mX10_doubt.2.2.2.1 = (some .int) := id rfl
theorem mX10_doubt_c : mX10_doubt.2.2.2.2.1 = 4 := id rfl
theorem mX10_doubt_s : mX10_doubt.2.2.2.2.2 = 24 := id rfl
def mX10_earliestDue : zM := (yX10_earliestDue, cX10_earliestDue, 5, (some .int), 0, 0)
theorem mX10_earliestDue_b : mX10_earliestDue.2.1 = cX10_earliestDue := id rfl
theorem mX10_earliestDue_r : mX10_earliestDue.2.2.2.1 = (some .int) := id rfl
theorem mX10_earliestDue_c : mX10_earliestDue.2.2.2.2.1 = 0 := id rfl
theorem mX10_earliestDue_s : mX10_earliestDue.2.2.2.2.2 = 0 := id rfl
def mX10_fault : zM := (yX10_fault, cX10_fault, 1, (some .int), 0, 0)
theorem mX10_fault_b : mX10_fault.2.1 = cX10_fault := id rfl
theorem mX10_fault_r : mX10_fault.2.2.2.1 = (some .int) := id rfl
theorem mX10_fault_c : mX10_fault.2.2.2.2.1 = 0 := id rfl
theorem mX10_fault_s : mX10_fault.2.2.2.2.2 = 0 := id rfl
def mX10_feed : zM := (yX10_feed, cX10_feed, 7, (some .int), 0, 0)
theorem mX10_feed_b : mX10_feed.2.1 = cX10_feed := id rfl
theorem mX10_feed_r : mX10_feed.2.2.2.1 = (some .int) := id rfl
theorem mX10_feed_c : mX10_feed.2.2.2.2.1 = 0 := id rfl
theorem mX10_feed_s : mX10_feed.2.2.2.2.2 = 0 := id rfl
def mX10_freeCoins : zM := (yX10_freeCoins, cX10_freeCoins, 3, (some .int), 0, 0)
theorem mX10_freeCoins_b : mX10_freeCoins.2.1 = cX10_freeCoins := id rfl
theorem mX10_freeCoins_r : mX10_freeCoins.2.2.2.1 = (some .int) := id rfl
theorem mX10_freeCoins_c : mX10_freeCoins.2.2.2.2.1 = 0 := id rfl
theorem mX10_freeCoins_s : mX10_freeCoins.2.2.2.2.2 = 0 := id rfl
def mX10_give : zM := (yX10_give, cX10_give, 10, (some .int), 4, 24)
theorem mX10_give_b : mX10_give.2.1 = cX10_give := id rfl
theorem mX10_give_r : mX10_give.2.2.2.1 = (some .int) := id rfl
theorem mX10_give_c : mX10_give.2.2.2.2.1 = 4 := id rfl
theorem mX10_give_s : mX10_give.2.2.2.2.2 = 24 := id rfl
def mX10_heldCoins : zM := (yX10_heldCoins, cX10_heldCoins, 5, (some .int), 0, 0)
theorem mX10_heldCoins_b : mX10_heldCoins.2.1 = cX10_heldCoins := id rfl
theorem mX10_heldCoins_r : mX10_heldCoins.2.2.2.1 = (some .int) := id rfl
theorem mX10_heldCoins_c : mX10_heldCoins.2.2.2.2.1 = 0 := id rfl
theorem mX10_heldCoins_s : mX10_heldCoins.2.2.2.2.2 = 0 := id rfl
def mX10_house : zM := (yX10_house, cX10_house, 2, (some .int), 4, 24)
theorem mX10_house_b : mX10_house.2.1 = cX10_house := id rfl
theorem mX10_house_r : mX10_house.2.2.2.1 = (some .int) := id rfl
theorem mX10_house_c : mX10_house.2.2.2.2.1 = 4 := id rfl
theorem mX10_house_s : mX10_house.2.2.2.2.2 = 24 := id rfl
def mX10_houseAt : zM := (yX10_houseAt, cX10_houseAt, 2, (some (.object "StrangerHall$House")), 1, 6)
theorem mX10_houseAt_b : mX10_houseAt.2.1 = cX10_houseAt := id rfl
theorem mX10_houseAt_r : mX10_houseAt.2.2.2.1 = (some (.object "StrangerHall$House")) := id rfl
theorem mX10_houseAt_c : mX10_houseAt.2.2.2.2.1 = 1 := id rfl
theorem mX10_houseAt_s : mX10_houseAt.2.2.2.2.2 = 6 := id rfl
def mX10_isWithin : zM := (yX10_isWithin, cX10_isWithin, 3, (some .boolean), 0, 0)
theorem mX10_isWithin_b : mX10_isWithin.2.1 = cX10_isWithin := id rfl
theorem mX10_isWithin_r : mX10_isWithin.2.2.2.1 = (some .boolean) := id rfl
theorem mX10_isWithin_c : mX10_isWithin.2.2.2.2.1 = 0 := id rfl
theorem mX10_isWithin_s : mX10_isWithin.2.2.2.2.2 = 0 := id rfl
def mX10_joined : zM := (yX10_joined, cX10_joined, 2, (some .int), 0, 0)
theorem mX10_joined_b : mX10_joined.2.1 = cX10_joined := id rfl
theorem mX10_joined_r : mX10_joined.2.2.2.1 = (some .int) := id rfl
theorem mX10_joined_c : mX10_joined.2.2.2.2.1 = 0 := id rfl
theorem mX10_joined_s : mX10_joined.2.2.2.2.2 = 0 := id rfl
def mX10_lapseWhatIsDue : zM := (yX10_lapseWhatIsDue, cX10_lapseWhatIsDue, 4, none, 0, 0)
theorem mX10_lapseWhatIsDue_b : mX10_lapseWhatIsDue.2.1 = cX10_lapseWhatIsDue := id rfl
theorem mX10_lapseWhatIsDue_r : mX10_lapseWhatIsDue.2.2.2.1 = none := id rfl
theorem mX10_lapseWhatIsDue_c : mX10_lapseWhatIsDue.2.2.2.2.1 = 0 := id rfl
theorem mX10_lapseWhatIsDue_s : mX10_lapseWhatIsDue.2.2.2.2.2 = 0 := id rfl
def mX10_length : zM := (yX10_length, cX10_length, 2, (some .int), 4, 24)
theorem mX10_length_b : mX10_length.2.1 = cX10_length := id rfl
theorem mX10_length_r : mX10_length.2.2.2.1 = (some .int) := id rfl
theorem mX10_length_c : mX10_length.2.2.2.2.1 = 4 := id rfl
theorem mX10_length_s : mX10_length.2.2.2.2.2 = 24 := id rfl
def mX10_linear : zM := (yX10_linear, cX10_linear, 2, (some .int), 4, 24)
theorem mX10_linear_b : mX10_linear.2.1 = cX10_linear := id rfl
theorem mX10_linear_r : mX10_linear.2.2.2.1 = (some .int) := id rfl
theorem mX10_linear_c : mX10_linear.2.2.2.2.1 = 4 := id rfl
theorem mX10_linear_s : mX10_linear.2.2.2.2.2 = 24 := id rfl
def mX10_lot : zM := (yX10_lot, cX10_lot, 7, (some .int), 4, 24)
theorem mX10_lot_b : mX10_lot.2.1 = cX10_lot := id rfl
theorem mX10_lot_r : mX10_lot.2.2.2.1 = (some .int) := id rfl
theorem mX10_lot_c : mX10_lot.2.2.2.2.1 = 4 := id rfl
theorem mX10_lot_s : mX10_lot.2.2.2.2.2 = 24 := id rfl
def mX10_memory : zM := (yX10_memory, cX10_memory, 5, (some .int), 4, 24)
theorem mX10_memory_b : mX10_memory.2.1 = cX10_memory := id rfl
theorem mX10_memory_r : mX10_memory.2.2.2.1 = (some .int) := id rfl
theorem mX10_memory_c : mX10_memory.2.2.2.2.1 = 4 := id rfl
theorem mX10_memory_s : mX10_memory.2.2.2.2.2 = 24 := id rfl
def mX10_out : zM := (yX10_out, cX10_out, 7, (some .int), 4, 24)
theorem mX10_out_b : mX10_out.2.1 = cX10_out := id rfl
theorem mX10_out_r : mX10_out.2.2.2.1 = (some .int) := id rfl
theorem mX10_out_c : mX10_out.2.2.2.2.1 = 4 := id rfl
theorem mX10_out_s : mX10_out.2.2.2.2.2 = 24 := id rfl
def mX10_part : zM := (yX10_part, cX10_part, 6, (some .int), 4, 24)
theorem mX10_part_b : mX10_part.2.1 = cX10_part := id rfl
theorem mX10_part_r : mX10_part.2.2.2.1 = (some .int) := id rfl
theorem mX10_part_c : mX10_part.2.2.2.2.1 = 4 := id rfl
theorem mX10_part_s : mX10_part.2.2.2.2.2 = 24 := id rfl
def mX10_piece : zM := (yX10_piece, cX10_piece, 6, (some .int), 4, 24)
theorem mX10_piece_b : mX10_piece.2.1 = cX10_piece := id rfl
theorem mX10_piece_r : mX10_piece.2.2.2.1 = (some .int) := id rfl
theorem mX10_piece_c : mX10_piece.2.2.2.2.1 = 4 := id rfl
theorem mX10_piece_s : mX10_piece.2.2.2.2.2 = 24 := id rfl
def mX10_pieceAt : zM := (yX10_pieceAt, cX10_pieceAt, 3, (some (.object "StrangerHall$Piece")), 1, 6)
theorem mX10_pieceAt_b : mX10_pieceAt.2.1 = cX10_pieceAt := id rfl
theorem mX10_pieceAt_r : mX10_pieceAt.2.2.2.1 = (some (.object "StrangerHall$Piece")) := id rfl
theorem mX10_pieceAt_c : mX10_pieceAt.2.2.2.2.1 = 1 := id rfl
theorem mX10_pieceAt_s : mX10_pieceAt.2.2.2.2.2 = 6 := id rfl
def mX10_purse : zM := (yX10_purse, cX10_purse, 2, (some .int), 4, 24)
theorem mX10_purse_b : mX10_purse.2.1 = cX10_purse := id rfl
theorem mX10_purse_r : mX10_purse.2.2.2.1 = (some .int) := id rfl
theorem mX10_purse_c : mX10_purse.2.2.2.2.1 = 4 := id rfl
theorem mX10_purse_s : mX10_purse.2.2.2.2.2 = 24 := id rfl
def mX10_rule : zM := (yX10_rule, cX10_rule, 4, (some .int), 4, 24)
theorem mX10_rule_b : mX10_rule.2.1 = cX10_rule := id rfl
theorem mX10_rule_r : mX10_rule.2.2.2.1 = (some .int) := id rfl
theorem mX10_rule_c : mX10_rule.2.2.2.2.1 = 4 := id rfl
theorem mX10_rule_s : mX10_rule.2.2.2.2.2 = 24 := id rfl
def mX10_shown : zM := (yX10_shown, cX10_shown, 7, (some .boolean), 4, 24)
theorem mX10_shown_b : mX10_shown.2.1 = cX10_shown := id rfl
theorem mX10_shown_r : mX10_shown.2.2.2.1 = (some .boolean) := id rfl
theorem mX10_shown_c : mX10_shown.2.2.2.2.1 = 4 := id rfl
theorem mX10_shown_s : mX10_shown.2.2.2.2.2 = 24 := id rfl
def mX10_sum : zM := (yX10_sum, cX10_sum, 4, (some .int), 4, 24)
theorem mX10_sum_b : mX10_sum.2.1 = cX10_sum := id rfl
theorem mX10_sum_r : mX10_sum.2.2.2.1 = (some .int) := id rfl
theorem mX10_sum_c : mX10_sum.2.2.2.2.1 = 4 := id rfl
theorem mX10_sum_s : mX10_sum.2.2.2.2.2 = 24 := id rfl
def mX10_task : zM := (yX10_task, cX10_task, 5, (some .int), 4, 24)
theorem mX10_task_b : mX10_task.2.1 = cX10_task := id rfl
theorem mX10_task_r : mX10_task.2.2.2.1 = (some .int) := id rfl
theorem mX10_task_c : mX10_task.2.2.2.2.1 = 4 := id rfl
theorem mX10_task_s : mX10_task.2.2.2.2.2 = 24 := id rfl
def mX10_taskAt : zM := (yX10_taskAt, cX10_taskAt, 2, (some (.object "StrangerHall$Task")), 1, 6)
theorem mX10_taskAt_b : mX10_taskAt.2.1 = cX10_taskAt := id rfl
theorem mX10_taskAt_r : mX10_taskAt.2.2.2.1 = (some (.object "StrangerHall$Task")) := id rfl
theorem mX10_taskAt_c : mX10_taskAt.2.2.2.2.1 = 1 := id rfl
theorem mX10_taskAt_s : mX10_taskAt.2.2.2.2.2 = 6 := id rfl
def mX10_tick : zM := (yX10_tick, cX10_tick, 4, (some .int), 4, 24)
theorem mX10_tick_b : mX10_tick.2.1 = cX10_tick := id rfl
theorem mX10_tick_r : mX10_tick.2.2.2.1 = (some .int) := id rfl
theorem mX10_tick_c : mX10_tick.2.2.2.2.1 = 4 := id rfl
theorem mX10_tick_s : mX10_tick.2.2.2.2.2 = 24 := id rfl
def mX10_told : zM := (yX10_told, cX10_told, 4, (some .int), 4, 24)
theorem mX10_told_b : mX10_told.2.1 = cX10_told := id rfl
theorem mX10_told_r : mX10_told.2.2.2.1 = (some .int) := id rfl
theorem mX10_told_c : mX10_told.2.2.2.2.1 = 4 := id rfl
theorem mX10_told_s : mX10_told.2.2.2.2.2 = 24 := id rfl
def mX10_trial : zM := (yX10_trial, cX10_trial, 8, (some .boolean), 4, 24)
theorem mX10_trial_b : mX10_trial.2.1 = cX10_trial := id rfl
theorem mX10_trial_r : mX10_trial.2.2.2.1 = (some .boolean) := id rfl
theorem mX10_trial_c : mX10_trial.2.2.2.2.1 = 4 := id rfl
theorem mX10_trial_s : mX10_trial.2.2.2.2.2 = 24 := id rfl
def mX0_init : zM := (yX0_init, cX0_init, 1, none, 5, 31)
theorem mX0_init_b : mX0_init.2.1 = cX0_init := id rfl
theorem mX0_init_r : mX0_init.2.2.2.1 = none := id rfl
theorem mX0_init_c : mX0_init.2.2.2.2.1 = 5 := id rfl
theorem mX0_init_s : mX0_init.2.2.2.2.2 = 31 := id rfl
def mX0_choose : zM := (yX0_choose, cX0_choose, 7, none, 0, 0)
theorem mX0_choose_b : mX0_choose.2.1 = cX0_choose := id rfl
theorem mX0_choose_r : mX0_choose.2.2.2.1 = none := id rfl
theorem mX0_choose_c : mX0_choose.2.2.2.2.1 = 0 := id rfl
theorem mX0_choose_s : mX0_choose.2.2.2.2.2 = 0 := id rfl
def mX0_findBest : zM := (yX0_findBest, cX0_findBest, 6, (some .boolean), 0, 0)
theorem mX0_findBest_b : mX0_findBest.2.1 = cX0_findBest := id rfl
theorem mX0_findBest_r : mX0_findBest.2.2.2.1 = (some .boolean) := id rfl
theorem mX0_findBest_c : mX0_findBest.2.2.2.2.1 = 0 := id rfl
theorem mX0_findBest_s : mX0_findBest.2.2.2.2.2 = 0 := id rfl
def mX0_houseFor : zM := (yX0_houseFor, cX0_houseFor, 3, (some .int), 0, 0)
theorem mX0_houseFor_b : mX0_houseFor.2.1 = cX0_houseFor := id rfl
theorem mX0_houseFor_r : mX0_houseFor.2.2.2.1 = (some .int) := id rfl
theorem mX0_houseFor_c : mX0_houseFor.2.2.2.2.1 = 0 := id rfl
theorem mX0_houseFor_s : mX0_houseFor.2.2.2.2.2 = 0 := id rfl
def mX0_tryHouse : zM := (yX0_tryHouse, cX0_tryHouse, 10, none, 0, 0)
theorem mX0_tryHouse_b : mX0_tryHouse.2.1 = cX0_tryHouse := id rfl
theorem mX0_tryHouse_r : mX0_tryHouse.2.2.2.1 = none := id rfl
theorem mX0_tryHouse_c : mX0_tryHouse.2.2.2.2.1 = 0 := id rfl
theorem mX0_tryHouse_s : mX0_tryHouse.2.2.2.2.2 = 0 := id rfl
def mX1_init : zM := (yX1_init, cX1_init, 1, none, 4, 807)
theorem mX1_init_b : mX1_init.2.1 = cX1_init := id rfl
theorem mX1_init_r : mX1_init.2.2.2.1 = none := id rfl
theorem mX1_init_c : mX1_init.2.2.2.2.1 = 4 := id rfl
theorem mX1_init_s : mX1_init.2.2.2.2.2 = 807 := id rfl
def mX1_aim : zM := (yX1_aim, cX1_aim, 2, none, 0, 0)
theorem mX1_aim_b : mX1_aim.2.1 = cX1_aim := id rfl
theorem mX1_aim_r : mX1_aim.2.2.2.1 = none := id rfl
theorem mX1_aim_c : mX1_aim.2.2.2.2.1 = 0 := id rfl
theorem mX1_aim_s : mX1_aim.2.2.2.2.2 = 0 := id rfl
def mX1_block : zM := (yX1_block, cX1_block, 2, (some .boolean), 0, 0)
theorem mX1_block_b : mX1_block.2.1 = cX1_block := id rfl
theorem mX1_block_r : mX1_block.2.2.2.1 = (some .boolean) := id rfl
theorem mX1_block_c : mX1_block.2.2.2.2.1 = 0 := id rfl
theorem mX1_block_s : mX1_block.2.2.2.2.2 = 0 := id rfl
def mX1_branch : zM := (yX1_branch, cX1_branch, 4, (some .boolean), 0, 0)
theorem mX1_branch_b : mX1_branch.2.1 = cX1_branch := id rfl
theorem mX1_branch_r : mX1_branch.2.2.2.1 = (some .boolean) := id rfl
theorem mX1_branch_c : mX1_branch.2.2.2.2.1 = 0 := id rfl
theorem mX1_branch_s : mX1_branch.2.2.2.2.2 = 0 := id rfl
def mX1_compile : zM := (yX1_compile, cX1_compile, 2, (some .int), 0, 0)
theorem mX1_compile_b : mX1_compile.2.1 = cX1_compile := id rfl
theorem mX1_compile_r : mX1_compile.2.2.2.1 = (some .int) := id rfl
theorem mX1_compile_c : mX1_compile.2.2.2.2.1 = 0 := id rfl
theorem mX1_compile_s : mX1_compile.2.2.2.2.2 = 0 := id rfl
def mX1_emit : zM := (yX1_emit, cX1_emit, 3, (some .boolean), 0, 0)
theorem mX1_emit_b : mX1_emit.2.1 = cX1_emit := id rfl
theorem mX1_emit_r : mX1_emit.2.2.2.1 = (some .boolean) := id rfl
theorem mX1_emit_c : mX1_emit.2.2.2.2.1 = 0 := id rfl
theorem mX1_emit_s : mX1_emit.2.2.2.2.2 = 0 := id rfl
def mX1_enclosed : zM := (yX1_enclosed, cX1_enclosed, 4, (some .boolean), 0, 0)
theorem mX1_enclosed_b : mX1_enclosed.2.1 = cX1_enclosed := id rfl
theorem mX1_enclosed_r : mX1_enclosed.2.2.2.1 = (some .boolean) := id rfl
theorem mX1_enclosed_c : mX1_enclosed.2.2.2.2.1 = 0 := id rfl
theorem mX1_enclosed_s : mX1_enclosed.2.2.2.2.2 = 0 := id rfl
def mX1_expect : zM := (yX1_expect, cX1_expect, 2, (some .boolean), 0, 0)
theorem mX1_expect_b : mX1_expect.2.1 = cX1_expect := id rfl
theorem mX1_expect_r : mX1_expect.2.2.2.1 = (some .boolean) := id rfl
theorem mX1_expect_c : mX1_expect.2.2.2.2.1 = 0 := id rfl
theorem mX1_expect_s : mX1_expect.2.2.2.2.2 = 0 := id rfl
def mX1_expression : zM := (yX1_expression, cX1_expression, 6, (some .boolean), 0, 0)
theorem mX1_expression_b : mX1_expression.2.1 = cX1_expression := id rfl
theorem mX1_expression_r : mX1_expression.2.2.2.1 = (some .boolean) := id rfl
theorem mX1_expression_c : mX1_expression.2.2.2.2.1 = 0 := id rfl
theorem mX1_expression_s : mX1_expression.2.2.2.2.2 = 0 := id rfl
def mX1_loop : zM := (yX1_loop, cX1_loop, 4, (some .boolean), 0, 0)
theorem mX1_loop_b : mX1_loop.2.1 = cX1_loop := id rfl
theorem mX1_loop_r : mX1_loop.2.2.2.1 = (some .boolean) := id rfl
theorem mX1_loop_c : mX1_loop.2.2.2.2.1 = 0 := id rfl
theorem mX1_loop_s : mX1_loop.2.2.2.2.2 = 0 := id rfl
def mX1_number : zM := (yX1_number, cX1_number, 1, (some .boolean), 0, 0)
theorem mX1_number_b : mX1_number.2.1 = cX1_number := id rfl
theorem mX1_number_r : mX1_number.2.2.2.1 = (some .boolean) := id rfl
theorem mX1_number_c : mX1_number.2.2.2.2.1 = 0 := id rfl
theorem mX1_number_s : mX1_number.2.2.2.2.2 = 0 := id rfl
def mX1_opens : zM := (yX1_opens, cX1_opens, 3, (some .boolean), 0, 0)
theorem mX1_opens_b : mX1_opens.2.1 = cX1_opens := id rfl
theorem mX1_opens_r : mX1_opens.2.2.2.1 = (some .boolean) := id rfl
theorem mX1_opens_c : mX1_opens.2.2.2.2.1 = 0 := id rfl
theorem mX1_opens_s : mX1_opens.2.2.2.2.2 = 0 := id rfl
def mX1_operand : zM := (yX1_operand, cX1_operand, 3, (some .boolean), 0, 0)
theorem mX1_operand_b : mX1_operand.2.1 = cX1_operand := id rfl
theorem mX1_operand_r : mX1_operand.2.2.2.1 = (some .boolean) := id rfl
theorem mX1_operand_c : mX1_operand.2.2.2.2.1 = 0 := id rfl
theorem mX1_operand_s : mX1_operand.2.2.2.2.2 = 0 := id rfl
def mX1_refuse : zM := (yX1_refuse, cX1_refuse, 2, (some .boolean), 0, 0)
theorem mX1_refuse_b : mX1_refuse.2.1 = cX1_refuse := id rfl
theorem mX1_refuse_r : mX1_refuse.2.2.2.1 = (some .boolean) := id rfl
theorem mX1_refuse_c : mX1_refuse.2.2.2.2.1 = 0 := id rfl
theorem mX1_refuse_s : mX1_refuse.2.2.2.2.2 = 0 := id rfl
def mX1_signKind : zM := (yX1_signKind, cX1_signKind, 1, (some .int), 0, 0)
theorem mX1_signKind_b : mX1_signKind.2.1 = cX1_signKind := id rfl
theorem mX1_signKind_r : mX1_signKind.2.2.2.1 = (some .int) := id rfl
theorem mX1_signKind_c : mX1_signKind.2.2.2.2.1 = 0 := id rfl
theorem mX1_signKind_s : mX1_signKind.2.2.2.2.2 = 0 := id rfl
def mX1_signLevel : zM := (yX1_signLevel, cX1_signLevel, 1, (some .int), 0, 0)
theorem mX1_signLevel_b : mX1_signLevel.2.1 = cX1_signLevel := id rfl
theorem mX1_signLevel_r : mX1_signLevel.2.2.2.1 = (some .int) := id rfl
theorem mX1_signLevel_c : mX1_signLevel.2.2.2.2.1 = 0 := id rfl
theorem mX1_signLevel_s : mX1_signLevel.2.2.2.2.2 = 0 := id rfl
def mX1_statement : zM := (yX1_statement, cX1_statement, 3, (some .boolean), 0, 0)
theorem mX1_statement_b : mX1_statement.2.1 = cX1_statement := id rfl
theorem mX1_statement_r : mX1_statement.2.2.2.1 = (some .boolean) := id rfl
theorem mX1_statement_c : mX1_statement.2.2.2.2.1 = 0 := id rfl
theorem mX1_statement_s : mX1_statement.2.2.2.2.2 = 0 := id rfl
def mX1_statements : zM := (yX1_statements, cX1_statements, 3, (some .boolean), 0, 0)
theorem mX1_statements_b : mX1_statements.2.1 = cX1_statements := id rfl
theorem mX1_statements_r : mX1_statements.2.2.2.1 = (some .boolean) := id rfl
theorem mX1_statements_c : mX1_statements.2.2.2.2.1 = 0 := id rfl
theorem mX1_statements_s : mX1_statements.2.2.2.2.2 = 0 := id rfl
def mX1_unit : zM := (yX1_unit, cX1_unit, 3, (some .boolean), 0, 0)
theorem mX1_unit_b : mX1_unit.2.1 = cX1_unit := id rfl
theorem mX1_unit_r : mX1_unit.2.2.2.1 = (some .boolean) := id rfl
theorem mX1_unit_c : mX1_unit.2.2.2.2.1 = 0 := id rfl
theorem mX1_unit_s : mX1_unit.2.2.2.2.2 = 0 := id rfl
def mX2_init : zM := (yX2_init, cX2_init, 2, none, 14, 210)
theorem mX2_init_b : mX2_init.2.1 = cX2_init := id rfl
theorem mX2_init_r : mX2_init.2.2.2.1 = none := id rfl
theorem mX2_init_c : mX2_init.2.2.2.2.1 = 14 := id rfl
theorem mX2_init_s : mX2_init.2.2.2.2.2 = 210 := id rfl
def mX2_beginQuarrel : zM := (yX2_beginQuarrel, cX2_beginQuarrel, 7, none, 0, 0)
theorem mX2_beginQuarrel_b : mX2_beginQuarrel.2.1 = cX2_beginQuarrel := id rfl
theorem mX2_beginQuarrel_r : mX2_beginQuarrel.2.2.2.1 = none := id rfl
theorem mX2_beginQuarrel_c : mX2_beginQuarrel.2.2.2.2.1 = 0 := id rfl
theorem mX2_beginQuarrel_s : mX2_beginQuarrel.2.2.2.2.2 = 0 := id rfl
def mX2_countLie : zM := (yX2_countLie, cX2_countLie, 2, none, 0, 0)
theorem mX2_countLie_b : mX2_countLie.2.1 = cX2_countLie := id rfl
theorem mX2_countLie_r : mX2_countLie.2.2.2.1 = none := id rfl
theorem mX2_countLie_c : mX2_countLie.2.2.2.2.1 = 0 := id rfl
theorem mX2_countLie_s : mX2_countLie.2.2.2.2.2 = 0 := id rfl
def mX2_dueTick : zM := (yX2_dueTick, cX2_dueTick, 2, (some .int), 0, 0)
theorem mX2_dueTick_b : mX2_dueTick.2.1 = cX2_dueTick := id rfl
theorem mX2_dueTick_r : mX2_dueTick.2.2.2.1 = (some .int) := id rfl
theorem mX2_dueTick_c : mX2_dueTick.2.2.2.2.1 = 0 := id rfl
theorem mX2_dueTick_s : mX2_dueTick.2.2.2.2.2 = 0 := id rfl
def mX2_hangsOnAhead : zM := (yX2_hangsOnAhead, cX2_hangsOnAhead, 1, (some .boolean), 0, 0)
theorem mX2_hangsOnAhead_b : mX2_hangsOnAhead.2.1 = cX2_hangsOnAhead := id rfl
theorem mX2_hangsOnAhead_r : mX2_hangsOnAhead.2.2.2.1 = (some .boolean) := id rfl
theorem mX2_hangsOnAhead_c : mX2_hangsOnAhead.2.2.2.2.1 = 0 := id rfl
theorem mX2_hangsOnAhead_s : mX2_hangsOnAhead.2.2.2.2.2 = 0 := id rfl
def mX2_judgeIfNarrow : zM := (yX2_judgeIfNarrow, cX2_judgeIfNarrow, 6, (some .boolean), 0, 0)
theorem mX2_judgeIfNarrow_b : mX2_judgeIfNarrow.2.1 = cX2_judgeIfNarrow := id rfl
theorem mX2_judgeIfNarrow_r : mX2_judgeIfNarrow.2.2.2.1 = (some .boolean) := id rfl
theorem mX2_judgeIfNarrow_c : mX2_judgeIfNarrow.2.2.2.2.1 = 0 := id rfl
theorem mX2_judgeIfNarrow_s : mX2_judgeIfNarrow.2.2.2.2.2 = 0 := id rfl
def mX2_keep : zM := (yX2_keep, cX2_keep, 2, none, 0, 0)
theorem mX2_keep_b : mX2_keep.2.1 = cX2_keep := id rfl
theorem mX2_keep_r : mX2_keep.2.2.2.1 = none := id rfl
theorem mX2_keep_c : mX2_keep.2.2.2.2.1 = 0 := id rfl
theorem mX2_keep_s : mX2_keep.2.2.2.2.2 = 0 := id rfl
def mX2_lapse : zM := (yX2_lapse, cX2_lapse, 4, none, 0, 0)
theorem mX2_lapse_b : mX2_lapse.2.1 = cX2_lapse := id rfl
theorem mX2_lapse_r : mX2_lapse.2.2.2.1 = none := id rfl
theorem mX2_lapse_c : mX2_lapse.2.2.2.2.1 = 0 := id rfl
theorem mX2_lapse_s : mX2_lapse.2.2.2.2.2 = 0 := id rfl
def mX2_makeVoid : zM := (yX2_makeVoid, cX2_makeVoid, 4, none, 0, 0)
theorem mX2_makeVoid_b : mX2_makeVoid.2.1 = cX2_makeVoid := id rfl
theorem mX2_makeVoid_r : mX2_makeVoid.2.2.2.1 = none := id rfl
theorem mX2_makeVoid_c : mX2_makeVoid.2.2.2.2.1 = 0 := id rfl
theorem mX2_makeVoid_s : mX2_makeVoid.2.2.2.2.2 = 0 := id rfl
def mX2_pay : zM := (yX2_pay, cX2_pay, 3, none, 0, 0)
theorem mX2_pay_b : mX2_pay.2.1 = cX2_pay := id rfl
theorem mX2_pay_r : mX2_pay.2.2.2.1 = none := id rfl
theorem mX2_pay_c : mX2_pay.2.2.2.2.1 = 0 := id rfl
theorem mX2_pay_s : mX2_pay.2.2.2.2.2 = 0 := id rfl
def mX2_reopen : zM := (yX2_reopen, cX2_reopen, 3, none, 0, 0)
theorem mX2_reopen_b : mX2_reopen.2.1 = cX2_reopen := id rfl
theorem mX2_reopen_r : mX2_reopen.2.2.2.1 = none := id rfl
theorem mX2_reopen_c : mX2_reopen.2.2.2.2.1 = 0 := id rfl
theorem mX2_reopen_s : mX2_reopen.2.2.2.2.2 = 0 := id rfl
def mX2_returnPledges : zM := (yX2_returnPledges, cX2_returnPledges, 2, none, 0, 0)
theorem mX2_returnPledges_b : mX2_returnPledges.2.1 = cX2_returnPledges := id rfl
theorem mX2_returnPledges_r : mX2_returnPledges.2.2.2.1 = none := id rfl
theorem mX2_returnPledges_c : mX2_returnPledges.2.2.2.2.1 = 0 := id rfl
theorem mX2_returnPledges_s : mX2_returnPledges.2.2.2.2.2 = 0 := id rfl
def mX2_reward : zM := (yX2_reward, cX2_reward, 4, none, 0, 0)
theorem mX2_reward_b : mX2_reward.2.1 = cX2_reward := id rfl
theorem mX2_reward_r : mX2_reward.2.2.2.1 = none := id rfl
theorem mX2_reward_c : mX2_reward.2.2.2.2.1 = 0 := id rfl
theorem mX2_reward_s : mX2_reward.2.2.2.2.2 = 0 := id rfl
def mX2_settle : zM := (yX2_settle, cX2_settle, 7, none, 0, 0)
theorem mX2_settle_b : mX2_settle.2.1 = cX2_settle := id rfl
theorem mX2_settle_r : mX2_settle.2.2.2.1 = none := id rfl
theorem mX2_settle_c : mX2_settle.2.2.2.2.1 = 0 := id rfl
theorem mX2_settle_s : mX2_settle.2.2.2.2.2 = 0 := id rfl
def mX2_stay : zM := (yX2_stay, cX2_stay, 4, none, 0, 0)
theorem mX2_stay_b : mX2_stay.2.1 = cX2_stay := id rfl
theorem mX2_stay_r : mX2_stay.2.2.2.1 = none := id rfl
theorem mX2_stay_c : mX2_stay.2.2.2.2.1 = 0 := id rfl
theorem mX2_stay_s : mX2_stay.2.2.2.2.2 = 0 := id rfl
def mX3_init : zM := (yX3_init, cX3_init, 1, none, 0, 0)
theorem mX3_init_b : mX3_init.2.1 = cX3_init := id rfl
theorem mX3_init_r : mX3_init.2.2.2.1 = none := id rfl
theorem mX3_init_c : mX3_init.2.2.2.2.1 = 0 := id rfl
theorem mX3_init_s : mX3_init.2.2.2.2.2 = 0 := id rfl
def mX4_leaves : zM := (yX4_leaves, cX4_leaves, 3, (some .int), 0, 0)
theorem mX4_leaves_b : mX4_leaves.2.1 = cX4_leaves := id rfl
theorem mX4_leaves_r : mX4_leaves.2.2.2.1 = (some .int) := id rfl
theorem mX4_leaves_c : mX4_leaves.2.2.2.2.1 = 0 := id rfl
theorem mX4_leaves_s : mX4_leaves.2.2.2.2.2 = 0 := id rfl
def mX4_term : zM := (yX4_term, cX4_term, 1, (some .boolean), 0, 0)
theorem mX4_term_b : mX4_term.2.1 = cX4_term := id rfl
theorem mX4_term_r : mX4_term.2.2.2.1 = (some .boolean) := id rfl
theorem mX4_term_c : mX4_term.2.2.2.2.1 = 0 := id rfl
theorem mX4_term_s : mX4_term.2.2.2.2.2 = 0 := id rfl
def mX4_terms : zM := (yX4_terms, cX4_terms, 3, (some .boolean), 0, 0)
theorem mX4_terms_b : mX4_terms.2.1 = cX4_terms := id rfl
theorem mX4_terms_r : mX4_terms.2.2.2.1 = (some .boolean) := id rfl
theorem mX4_terms_c : mX4_terms.2.2.2.2.1 = 0 := id rfl
theorem mX4_terms_s : mX4_terms.2.2.2.2.2 = 0 := id rfl
def mX5_init : zM := (yX5_init, cX5_init, 1, none, 3, 170)
theorem mX5_init_b : mX5_init.2.1 = cX5_init := id rfl
theorem mX5_init_r : mX5_init.2.2.2.1 = none := id rfl
theorem mX5_init_c : mX5_init.2.2.2.2.1 = 3 := id rfl
theorem mX5_init_s : mX5_init.2.2.2.2.2 = 170 := id rfl
def mX5_besideOf : zM := (yX5_besideOf, cX5_besideOf, 4, (some .int), 0, 0)
theorem mX5_besideOf_b : mX5_besideOf.2.1 = cX5_besideOf := id rfl
theorem mX5_besideOf_r : mX5_besideOf.2.2.2.1 = (some .int) := id rfl
theorem mX5_besideOf_c : mX5_besideOf.2.2.2.2.1 = 0 := id rfl
theorem mX5_besideOf_s : mX5_besideOf.2.2.2.2.2 = 0 := id rfl
def mX5_clear : zM := (yX5_clear, cX5_clear, 2, none, 0, 0)
theorem mX5_clear_b : mX5_clear.2.1 = cX5_clear := id rfl
theorem mX5_clear_r : mX5_clear.2.2.2.1 = none := id rfl
theorem mX5_clear_c : mX5_clear.2.2.2.2.1 = 0 := id rfl
theorem mX5_clear_s : mX5_clear.2.2.2.2.2 = 0 := id rfl
def mX5_climb : zM := (yX5_climb, cX5_climb, 7, (some .int), 0, 0)
theorem mX5_climb_b : mX5_climb.2.1 = cX5_climb := id rfl
theorem mX5_climb_r : mX5_climb.2.2.2.1 = (some .int) := id rfl
theorem mX5_climb_c : mX5_climb.2.2.2.2.1 = 0 := id rfl
theorem mX5_climb_s : mX5_climb.2.2.2.2.2 = 0 := id rfl
def mX5_forget : zM := (yX5_forget, cX5_forget, 1, none, 0, 0)
theorem mX5_forget_b : mX5_forget.2.1 = cX5_forget := id rfl
theorem mX5_forget_r : mX5_forget.2.2.2.1 = none := id rfl
theorem mX5_forget_c : mX5_forget.2.2.2.2.1 = 0 := id rfl
theorem mX5_forget_s : mX5_forget.2.2.2.2.2 = 0 := id rfl
def mX5_isHalted : zM := (yX5_isHalted, cX5_isHalted, 3, (some .boolean), 0, 0)
theorem mX5_isHalted_b : mX5_isHalted.2.1 = cX5_isHalted := id rfl
theorem mX5_isHalted_r : mX5_isHalted.2.2.2.1 = (some .boolean) := id rfl
theorem mX5_isHalted_c : mX5_isHalted.2.2.2.2.1 = 0 := id rfl
theorem mX5_isHalted_s : mX5_isHalted.2.2.2.2.2 = 0 := id rfl
def mX5_lengthOf : zM := (yX5_lengthOf, cX5_lengthOf, 2, (some .int), 0, 0)
theorem mX5_lengthOf_b : mX5_lengthOf.2.1 = cX5_lengthOf := id rfl
theorem mX5_lengthOf_r : mX5_lengthOf.2.2.2.1 = (some .int) := id rfl
theorem mX5_lengthOf_c : mX5_lengthOf.2.2.2.2.1 = 0 := id rfl
theorem mX5_lengthOf_s : mX5_lengthOf.2.2.2.2.2 = 0 := id rfl
def mX5_outOf : zM := (yX5_outOf, cX5_outOf, 3, (some .int), 0, 0)
theorem mX5_outOf_b : mX5_outOf.2.1 = cX5_outOf := id rfl
theorem mX5_outOf_r : mX5_outOf.2.2.2.1 = (some .int) := id rfl
theorem mX5_outOf_c : mX5_outOf.2.2.2.2.1 = 0 := id rfl
theorem mX5_outOf_s : mX5_outOf.2.2.2.2.2 = 0 := id rfl
def mX5_outOfPart : zM := (yX5_outOfPart, cX5_outOfPart, 6, (some .int), 0, 0)
theorem mX5_outOfPart_b : mX5_outOfPart.2.1 = cX5_outOfPart := id rfl
theorem mX5_outOfPart_r : mX5_outOfPart.2.2.2.1 = (some .int) := id rfl
theorem mX5_outOfPart_c : mX5_outOfPart.2.2.2.2.1 = 0 := id rfl
theorem mX5_outOfPart_s : mX5_outOfPart.2.2.2.2.2 = 0 := id rfl
def mX5_pageSum : zM := (yX5_pageSum, cX5_pageSum, 4, (some .int), 0, 0)
theorem mX5_pageSum_b : mX5_pageSum.2.1 = cX5_pageSum := id rfl
theorem mX5_pageSum_r : mX5_pageSum.2.2.2.1 = (some .int) := id rfl
theorem mX5_pageSum_c : mX5_pageSum.2.2.2.2.1 = 0 := id rfl
theorem mX5_pageSum_s : mX5_pageSum.2.2.2.2.2 = 0 := id rfl
def mX5_pop : zM := (yX5_pop, cX5_pop, 3, (some .int), 0, 0)
theorem mX5_pop_b : mX5_pop.2.1 = cX5_pop := id rfl
theorem mX5_pop_r : mX5_pop.2.2.2.1 = (some .int) := id rfl
theorem mX5_pop_c : mX5_pop.2.2.2.2.1 = 0 := id rfl
theorem mX5_pop_s : mX5_pop.2.2.2.2.2 = 0 := id rfl
def mX5_push : zM := (yX5_push, cX5_push, 3, none, 0, 0)
theorem mX5_push_b : mX5_push.2.1 = cX5_push := id rfl
theorem mX5_push_r : mX5_push.2.2.2.1 = none := id rfl
theorem mX5_push_c : mX5_push.2.2.2.2.1 = 0 := id rfl
theorem mX5_push_s : mX5_push.2.2.2.2.2 = 0 := id rfl
def mX5_putOut : zM := (yX5_putOut, cX5_putOut, 3, none, 0, 0)
theorem mX5_putOut_b : mX5_putOut.2.1 = cX5_putOut := id rfl
theorem mX5_putOut_r : mX5_putOut.2.2.2.1 = none := id rfl
theorem mX5_putOut_c : mX5_putOut.2.2.2.2.1 = 0 := id rfl
theorem mX5_putOut_s : mX5_putOut.2.2.2.2.2 = 0 := id rfl
def mX5_runTo : zM := (yX5_runTo, cX5_runTo, 5, none, 0, 0)
theorem mX5_runTo_b : mX5_runTo.2.1 = cX5_runTo := id rfl
theorem mX5_runTo_r : mX5_runTo.2.2.2.1 = none := id rfl
theorem mX5_runTo_c : mX5_runTo.2.2.2.2.1 = 0 := id rfl
theorem mX5_runTo_s : mX5_runTo.2.2.2.2.2 = 0 := id rfl
def mX5_show : zM := (yX5_show, cX5_show, 4, none, 0, 0)
theorem mX5_show_b : mX5_show.2.1 = cX5_show := id rfl
theorem mX5_show_r : mX5_show.2.2.2.1 = none := id rfl
theorem mX5_show_c : mX5_show.2.2.2.2.1 = 0 := id rfl
theorem mX5_show_s : mX5_show.2.2.2.2.2 = 0 := id rfl
def mX5_step : zM := (yX5_step, cX5_step, 5, none, 0, 0)
theorem mX5_step_b : mX5_step.2.1 = cX5_step := id rfl
theorem mX5_step_r : mX5_step.2.2.2.1 = none := id rfl
theorem mX5_step_c : mX5_step.2.2.2.2.1 = 0 := id rfl
theorem mX5_step_s : mX5_step.2.2.2.2.2 = 0 := id rfl
def mX5_sumOf : zM := (yX5_sumOf, cX5_sumOf, 4, (some .int), 0, 0)
theorem mX5_sumOf_b : mX5_sumOf.2.1 = cX5_sumOf := id rfl
theorem mX5_sumOf_r : mX5_sumOf.2.2.2.1 = (some .int) := id rfl
theorem mX5_sumOf_c : mX5_sumOf.2.2.2.2.1 = 0 := id rfl
theorem mX5_sumOf_s : mX5_sumOf.2.2.2.2.2 = 0 := id rfl
def mX5_worked : zM := (yX5_worked, cX5_worked, 3, (some .int), 0, 0)
theorem mX5_worked_b : mX5_worked.2.1 = cX5_worked := id rfl
theorem mX5_worked_r : mX5_worked.2.2.2.1 = (some .int) := id rfl
theorem mX5_worked_c : mX5_worked.2.2.2.2.1 = 0 := id rfl
theorem mX5_worked_s : mX5_worked.2.2.2.2.2 = 0 := id rfl
def mX6_init : zM := (yX6_init, cX6_init, 1, none, 4, 35)
theorem mX6_init_b : mX6_init.2.1 = cX6_init := id rfl
theorem mX6_init_r : mX6_init.2.2.2.1 = none := id rfl
theorem mX6_init_c : mX6_init.2.2.2.2.1 = 4 := id rfl
theorem mX6_init_s : mX6_init.2.2.2.2.2 = 35 := id rfl
def mX6_bidCost : zM := (yX6_bidCost, cX6_bidCost, 7, (some .long), 0, 0)
theorem mX6_bidCost_b : mX6_bidCost.2.1 = cX6_bidCost := id rfl
theorem mX6_bidCost_r : mX6_bidCost.2.2.2.1 = (some .long) := id rfl
theorem mX6_bidCost_c : mX6_bidCost.2.2.2.2.1 = 0 := id rfl
theorem mX6_bidCost_s : mX6_bidCost.2.2.2.2.2 = 0 := id rfl
def mX6_dropBids : zM := (yX6_dropBids, cX6_dropBids, 3, (some .int), 0, 0)
theorem mX6_dropBids_b : mX6_dropBids.2.1 = cX6_dropBids := id rfl
theorem mX6_dropBids_r : mX6_dropBids.2.2.2.1 = (some .int) := id rfl
theorem mX6_dropBids_c : mX6_dropBids.2.2.2.2.1 = 0 := id rfl
theorem mX6_dropBids_s : mX6_dropBids.2.2.2.2.2 = 0 := id rfl
def mX6_giveTo : zM := (yX6_giveTo, cX6_giveTo, 5, none, 0, 0)
theorem mX6_giveTo_b : mX6_giveTo.2.1 = cX6_giveTo := id rfl
theorem mX6_giveTo_r : mX6_giveTo.2.2.2.1 = none := id rfl
theorem mX6_giveTo_c : mX6_giveTo.2.2.2.2.1 = 0 := id rfl
theorem mX6_giveTo_s : mX6_giveTo.2.2.2.2.2 = 0 := id rfl
def mX6_hasBid : zM := (yX6_hasBid, cX6_hasBid, 2, (some .boolean), 0, 0)
theorem mX6_hasBid_b : mX6_hasBid.2.1 = cX6_hasBid := id rfl
theorem mX6_hasBid_r : mX6_hasBid.2.2.2.1 = (some .boolean) := id rfl
theorem mX6_hasBid_c : mX6_hasBid.2.2.2.2.1 = 0 := id rfl
theorem mX6_hasBid_s : mX6_hasBid.2.2.2.2.2 = 0 := id rfl
def mX6_heldCoins : zM := (yX6_heldCoins, cX6_heldCoins, 1, (some .int), 0, 0)
theorem mX6_heldCoins_b : mX6_heldCoins.2.1 = cX6_heldCoins := id rfl
theorem mX6_heldCoins_r : mX6_heldCoins.2.2.2.1 = (some .int) := id rfl
theorem mX6_heldCoins_c : mX6_heldCoins.2.2.2.2.1 = 0 := id rfl
theorem mX6_heldCoins_s : mX6_heldCoins.2.2.2.2.2 = 0 := id rfl
def mX6_reopen : zM := (yX6_reopen, cX6_reopen, 1, none, 0, 0)
theorem mX6_reopen_b : mX6_reopen.2.1 = cX6_reopen := id rfl
theorem mX6_reopen_r : mX6_reopen.2.2.2.1 = none := id rfl
theorem mX6_reopen_c : mX6_reopen.2.2.2.2.1 = 0 := id rfl
theorem mX6_reopen_s : mX6_reopen.2.2.2.2.2 = 0 := id rfl
def mX6_setBid : zM := (yX6_setBid, cX6_setBid, 5, none, 0, 0)
theorem mX6_setBid_b : mX6_setBid.2.1 = cX6_setBid := id rfl
theorem mX6_setBid_r : mX6_setBid.2.2.2.1 = none := id rfl
theorem mX6_setBid_c : mX6_setBid.2.2.2.2.1 = 0 := id rfl
theorem mX6_setBid_s : mX6_setBid.2.2.2.2.2 = 0 := id rfl
def mX7_init : zM := (yX7_init, cX7_init, 1, none, 0, 0)
theorem mX7_init_b : mX7_init.2.1 = cX7_init := id rfl
theorem mX7_init_r : mX7_init.2.2.2.1 = none := id rfl
theorem mX7_init_c : mX7_init.2.2.2.2.1 = 0 := id rfl
theorem mX7_init_s : mX7_init.2.2.2.2.2 = 0 := id rfl
def mX7_ask : zM := (yX7_ask, cX7_ask, 2, none, 0, 0)
theorem mX7_ask_b : mX7_ask.2.1 = cX7_ask := id rfl
theorem mX7_ask_r : mX7_ask.2.2.2.1 = none := id rfl
theorem mX7_ask_c : mX7_ask.2.2.2.2.1 = 0 := id rfl
theorem mX7_ask_s : mX7_ask.2.2.2.2.2 = 0 := id rfl
def mX7_begin : zM := (yX7_begin, cX7_begin, 3, none, 0, 0)
theorem mX7_begin_b : mX7_begin.2.1 = cX7_begin := id rfl
theorem mX7_begin_r : mX7_begin.2.2.2.1 = none := id rfl
theorem mX7_begin_c : mX7_begin.2.2.2.2.1 = 0 := id rfl
theorem mX7_begin_s : mX7_begin.2.2.2.2.2 = 0 := id rfl
def mX7_halve : zM := (yX7_halve, cX7_halve, 1, none, 0, 0)
theorem mX7_halve_b : mX7_halve.2.1 = cX7_halve := id rfl
theorem mX7_halve_r : mX7_halve.2.2.2.1 = none := id rfl
theorem mX7_halve_c : mX7_halve.2.2.2.2.1 = 0 := id rfl
theorem mX7_halve_s : mX7_halve.2.2.2.2.2 = 0 := id rfl
def mX7_hasTold : zM := (yX7_hasTold, cX7_hasTold, 2, (some .boolean), 0, 0)
theorem mX7_hasTold_b : mX7_hasTold.2.1 = cX7_hasTold := id rfl
theorem mX7_hasTold_r : mX7_hasTold.2.2.2.1 = (some .boolean) := id rfl
theorem mX7_hasTold_c : mX7_hasTold.2.2.2.2.1 = 0 := id rfl
theorem mX7_hasTold_s : mX7_hasTold.2.2.2.2.2 = 0 := id rfl
def mX7_isNarrow : zM := (yX7_isNarrow, cX7_isNarrow, 1, (some .boolean), 0, 0)
theorem mX7_isNarrow_b : mX7_isNarrow.2.1 = cX7_isNarrow := id rfl
theorem mX7_isNarrow_r : mX7_isNarrow.2.2.2.1 = (some .boolean) := id rfl
theorem mX7_isNarrow_c : mX7_isNarrow.2.2.2.2.1 = 0 := id rfl
theorem mX7_isNarrow_s : mX7_isNarrow.2.2.2.2.2 = 0 := id rfl
def mX7_middle : zM := (yX7_middle, cX7_middle, 1, (some .int), 0, 0)
theorem mX7_middle_b : mX7_middle.2.1 = cX7_middle := id rfl
theorem mX7_middle_r : mX7_middle.2.2.2.1 = (some .int) := id rfl
theorem mX7_middle_c : mX7_middle.2.2.2.2.1 = 0 := id rfl
theorem mX7_middle_s : mX7_middle.2.2.2.2.2 = 0 := id rfl
def mX7_setEnd : zM := (yX7_setEnd, cX7_setEnd, 4, none, 0, 0)
theorem mX7_setEnd_b : mX7_setEnd.2.1 = cX7_setEnd := id rfl
theorem mX7_setEnd_r : mX7_setEnd.2.2.2.1 = none := id rfl
theorem mX7_setEnd_c : mX7_setEnd.2.2.2.2.1 = 0 := id rfl
theorem mX7_setEnd_s : mX7_setEnd.2.2.2.2.2 = 0 := id rfl
def mX7_setStart : zM := (yX7_setStart, cX7_setStart, 3, none, 0, 0)
theorem mX7_setStart_b : mX7_setStart.2.1 = cX7_setStart := id rfl
theorem mX7_setStart_r : mX7_setStart.2.2.2.1 = none := id rfl
theorem mX7_setStart_c : mX7_setStart.2.2.2.2.1 = 0 := id rfl
theorem mX7_setStart_s : mX7_setStart.2.2.2.2.2 = 0 := id rfl
def mX7_tell : zM := (yX7_tell, cX7_tell, 4, none, 0, 0)
theorem mX7_tell_b : mX7_tell.2.1 = cX7_tell := id rfl
theorem mX7_tell_r : mX7_tell.2.2.2.1 = none := id rfl
theorem mX7_tell_c : mX7_tell.2.2.2.2.1 = 0 := id rfl
theorem mX7_tell_s : mX7_tell.2.2.2.2.2 = 0 := id rfl
def mX8_init : zM := (yX8_init, cX8_init, 1, none, 1, 400)
theorem mX8_init_b : mX8_init.2.1 = cX8_init := id rfl
theorem mX8_init_r : mX8_init.2.2.2.1 = none := id rfl
theorem mX8_init_c : mX8_init.2.2.2.2.1 = 1 := id rfl
theorem mX8_init_s : mX8_init.2.2.2.2.2 = 400 := id rfl
def mX8_add : zM := (yX8_add, cX8_add, 3, none, 0, 0)
theorem mX8_add_b : mX8_add.2.1 = cX8_add := id rfl
theorem mX8_add_r : mX8_add.2.2.2.1 = none := id rfl
theorem mX8_add_c : mX8_add.2.2.2.2.1 = 0 := id rfl
theorem mX8_add_s : mX8_add.2.2.2.2.2 = 0 := id rfl
def mX8_advance : zM := (yX8_advance, cX8_advance, 1, none, 0, 0)
theorem mX8_advance_b : mX8_advance.2.1 = cX8_advance := id rfl
theorem mX8_advance_r : mX8_advance.2.2.2.1 = none := id rfl
theorem mX8_advance_c : mX8_advance.2.2.2.2.1 = 0 := id rfl
theorem mX8_advance_s : mX8_advance.2.2.2.2.2 = 0 := id rfl
def mX8_begin : zM := (yX8_begin, cX8_begin, 2, none, 0, 0)
theorem mX8_begin_b : mX8_begin.2.1 = cX8_begin := id rfl
theorem mX8_begin_r : mX8_begin.2.2.2.1 = none := id rfl
theorem mX8_begin_c : mX8_begin.2.2.2.2.1 = 0 := id rfl
theorem mX8_begin_s : mX8_begin.2.2.2.2.2 = 0 := id rfl
def mX8_isDigit : zM := (yX8_isDigit, cX8_isDigit, 1, (some .boolean), 0, 0)
theorem mX8_isDigit_b : mX8_isDigit.2.1 = cX8_isDigit := id rfl
theorem mX8_isDigit_r : mX8_isDigit.2.2.2.1 = (some .boolean) := id rfl
theorem mX8_isDigit_c : mX8_isDigit.2.2.2.2.1 = 0 := id rfl
theorem mX8_isDigit_s : mX8_isDigit.2.2.2.2.2 = 0 := id rfl
def mX8_isLetter : zM := (yX8_isLetter, cX8_isLetter, 1, (some .boolean), 0, 0)
theorem mX8_isLetter_b : mX8_isLetter.2.1 = cX8_isLetter := id rfl
theorem mX8_isLetter_r : mX8_isLetter.2.2.2.1 = (some .boolean) := id rfl
theorem mX8_isLetter_c : mX8_isLetter.2.2.2.2.1 = 0 := id rfl
theorem mX8_isLetter_s : mX8_isLetter.2.2.2.2.2 = 0 := id rfl
def mX8_isSign : zM := (yX8_isSign, cX8_isSign, 2, (some .boolean), 0, 0)
theorem mX8_isSign_b : mX8_isSign.2.1 = cX8_isSign := id rfl
theorem mX8_isSign_r : mX8_isSign.2.2.2.1 = (some .boolean) := id rfl
theorem mX8_isSign_c : mX8_isSign.2.2.2.2.1 = 0 := id rfl
theorem mX8_isSign_s : mX8_isSign.2.2.2.2.2 = 0 := id rfl
def mX8_isWord : zM := (yX8_isWord, cX8_isWord, 3, (some .boolean), 0, 0)
theorem mX8_isWord_b : mX8_isWord.2.1 = cX8_isWord := id rfl
theorem mX8_isWord_r : mX8_isWord.2.2.2.1 = (some .boolean) := id rfl
theorem mX8_isWord_c : mX8_isWord.2.2.2.2.1 = 0 := id rfl
theorem mX8_isWord_s : mX8_isWord.2.2.2.2.2 = 0 := id rfl
def mX8_readNumber : zM := (yX8_readNumber, cX8_readNumber, 1, none, 0, 0)
theorem mX8_readNumber_b : mX8_readNumber.2.1 = cX8_readNumber := id rfl
theorem mX8_readNumber_r : mX8_readNumber.2.2.2.1 = none := id rfl
theorem mX8_readNumber_c : mX8_readNumber.2.2.2.2.1 = 0 := id rfl
theorem mX8_readNumber_s : mX8_readNumber.2.2.2.2.2 = 0 := id rfl
def mX8_readWord : zM := (yX8_readWord, cX8_readWord, 1, none, 0, 0)
theorem mX8_readWord_b : mX8_readWord.2.1 = cX8_readWord := id rfl
theorem mX8_readWord_r : mX8_readWord.2.2.2.1 = none := id rfl
theorem mX8_readWord_c : mX8_readWord.2.2.2.2.1 = 0 := id rfl
theorem mX8_readWord_s : mX8_readWord.2.2.2.2.2 = 0 := id rfl
def mX8_takesNumber : zM := (yX8_takesNumber, cX8_takesNumber, 1, (some .boolean), 0, 0)
theorem mX8_takesNumber_b : mX8_takesNumber.2.1 = cX8_takesNumber := id rfl
theorem mX8_takesNumber_r : mX8_takesNumber.2.2.2.1 = (some .boolean) := id rfl
theorem mX8_takesNumber_c : mX8_takesNumber.2.2.2.2.1 = 0 := id rfl
theorem mX8_takesNumber_s : mX8_takesNumber.2.2.2.2.2 = 0 := id rfl
def mX8_takesSign : zM := (yX8_takesSign, cX8_takesSign, 2, (some .boolean), 0, 0)
theorem mX8_takesSign_b : mX8_takesSign.2.1 = cX8_takesSign := id rfl
theorem mX8_takesSign_r : mX8_takesSign.2.2.2.1 = (some .boolean) := id rfl
theorem mX8_takesSign_c : mX8_takesSign.2.2.2.2.1 = 0 := id rfl
theorem mX8_takesSign_s : mX8_takesSign.2.2.2.2.2 = 0 := id rfl
def mX8_takesWord : zM := (yX8_takesWord, cX8_takesWord, 2, (some .boolean), 0, 0)
theorem mX8_takesWord_b : mX8_takesWord.2.1 = cX8_takesWord := id rfl
theorem mX8_takesWord_r : mX8_takesWord.2.2.2.1 = (some .boolean) := id rfl
theorem mX8_takesWord_c : mX8_takesWord.2.2.2.2.1 = 0 := id rfl
theorem mX8_takesWord_s : mX8_takesWord.2.2.2.2.2 = 0 := id rfl
def mX8_variable : zM := (yX8_variable, cX8_variable, 1, (some .int), 0, 0)
theorem mX8_variable_b : mX8_variable.2.1 = cX8_variable := id rfl
theorem mX8_variable_r : mX8_variable.2.2.2.1 = (some .int) := id rfl
theorem mX8_variable_c : mX8_variable.2.2.2.2.1 = 0 := id rfl
theorem mX8_variable_s : mX8_variable.2.2.2.2.2 = 0 := id rfl
def mX9_init : zM := (yX9_init, cX9_init, 2, none, 112, 1919)
theorem mX9_init_b : mX9_init.2.1 = cX9_init := id rfl
theorem mX9_init_r : mX9_init.2.2.2.1 = none := id rfl
theorem mX9_init_c : mX9_init.2.2.2.2.1 = 112 := id rfl
theorem mX9_init_s : mX9_init.2.2.2.2.2 = 1919 := id rfl
def mX9_begin : zM := (yX9_begin, cX9_begin, 5, none, 0, 0)
theorem mX9_begin_b : mX9_begin.2.1 = cX9_begin := id rfl
theorem mX9_begin_r : mX9_begin.2.2.2.1 = none := id rfl
theorem mX9_begin_c : mX9_begin.2.2.2.2.1 = 0 := id rfl
theorem mX9_begin_s : mX9_begin.2.2.2.2.2 = 0 := id rfl
def mX9_divide : zM := (yX9_divide, cX9_divide, 5, none, 0, 0)
theorem mX9_divide_b : mX9_divide.2.1 = cX9_divide := id rfl
theorem mX9_divide_r : mX9_divide.2.2.2.1 = none := id rfl
theorem mX9_divide_c : mX9_divide.2.2.2.2.1 = 0 := id rfl
theorem mX9_divide_s : mX9_divide.2.2.2.2.2 = 0 := id rfl
def mX9_hasCode : zM := (yX9_hasCode, cX9_hasCode, 2, (some .boolean), 0, 0)
theorem mX9_hasCode_b : mX9_hasCode.2.1 = cX9_hasCode := id rfl
theorem mX9_hasCode_r : mX9_hasCode.2.2.2.1 = (some .boolean) := id rfl
theorem mX9_hasCode_c : mX9_hasCode.2.2.2.2.1 = 0 := id rfl
theorem mX9_hasCode_s : mX9_hasCode.2.2.2.2.2 = 0 := id rfl
def mX9_hasPiece : zM := (yX9_hasPiece, cX9_hasPiece, 2, (some .boolean), 0, 0)
theorem mX9_hasPiece_b : mX9_hasPiece.2.1 = cX9_hasPiece := id rfl
theorem mX9_hasPiece_r : mX9_hasPiece.2.2.2.1 = (some .boolean) := id rfl
theorem mX9_hasPiece_c : mX9_hasPiece.2.2.2.2.1 = 0 := id rfl
theorem mX9_hasPiece_s : mX9_hasPiece.2.2.2.2.2 = 0 := id rfl
def mX9_isEndToldAhead : zM := (yX9_isEndToldAhead, cX9_isEndToldAhead, 3, (some .boolean), 0, 0)
theorem mX9_isEndToldAhead_b : mX9_isEndToldAhead.2.1 = cX9_isEndToldAhead := id rfl
theorem mX9_isEndToldAhead_r : mX9_isEndToldAhead.2.2.2.1 = (some .boolean) := id rfl
theorem mX9_isEndToldAhead_c : mX9_isEndToldAhead.2.2.2.2.1 = 0 := id rfl
theorem mX9_isEndToldAhead_s : mX9_isEndToldAhead.2.2.2.2.2 = 0 := id rfl
def mX9_partOf : zM := (yX9_partOf, cX9_partOf, 6, (some .int), 0, 0)
theorem mX9_partOf_b : mX9_partOf.2.1 = cX9_partOf := id rfl
theorem mX9_partOf_r : mX9_partOf.2.2.2.1 = (some .int) := id rfl
theorem mX9_partOf_c : mX9_partOf.2.2.2.2.1 = 0 := id rfl
theorem mX9_partOf_s : mX9_partOf.2.2.2.2.2 = 0 := id rfl
def mL_answer : zM := (yL_answer, cL_answer, 7, (some .int), 4, 24)
theorem mL_answer_b : mL_answer.2.1 = cL_answer := id rfl
theorem mL_answer_r : mL_answer.2.2.2.1 = (some .int) := id rfl
theorem mL_answer_c : mL_answer.2.2.2.2.1 = 4 := id rfl
theorem mL_answer_s : mL_answer.2.2.2.2.2 = 24 := id rfl
def mL_beside : zM := (yL_beside, cL_beside, 7, (some .int), 4, 24)
theorem mL_beside_b : mL_beside.2.1 = cL_beside := id rfl
theorem mL_beside_r : mL_beside.2.2.2.1 = (some .int) := id rfl
theorem mL_beside_c : mL_beside.2.2.2.2.1 = 4 := id rfl
theorem mL_beside_s : mL_beside.2.2.2.2.2 = 24 := id rfl
def mL_bid : zM := (yL_bid, cL_bid, 9, (some .int), 4, 24)
theorem mL_bid_b : mL_bid.2.1 = cL_bid := id rfl
theorem mL_bid_r : mL_bid.2.2.2.1 = (some .int) := id rfl
theorem mL_bid_c : mL_bid.2.2.2.2.1 = 4 := id rfl
theorem mL_bid_s : mL_bid.2.2.2.2.2 = 24 := id rfl
def mL_cell : zM := (yL_cell, cL_cell, 6, (some .int), 4, 24)
theorem mL_cell_b : mL_cell.2.1 = cL_cell := id rfl
theorem mL_cell_r : mL_cell.2.2.2.1 = (some .int) := id rfl
theorem mL_cell_c : mL_cell.2.2.2.2.1 = 4 := id rfl
theorem mL_cell_s : mL_cell.2.2.2.2.2 = 24 := id rfl
def mL_chosen : zM := (yL_chosen, cL_chosen, 7, (some .int), 4, 24)
theorem mL_chosen_b : mL_chosen.2.1 = cL_chosen := id rfl
theorem mL_chosen_r : mL_chosen.2.2.2.1 = (some .int) := id rfl
theorem mL_chosen_c : mL_chosen.2.2.2.2.1 = 4 := id rfl
theorem mL_chosen_s : mL_chosen.2.2.2.2.2 = 24 := id rfl
def mL_claim : zM := (yL_claim, cL_claim, 6, (some .int), 4, 24)
theorem mL_claim_b : mL_claim.2.1 = cL_claim := id rfl
theorem mL_claim_r : mL_claim.2.2.2.1 = (some .int) := id rfl
theorem mL_claim_c : mL_claim.2.2.2.2.1 = 4 := id rfl
theorem mL_claim_s : mL_claim.2.2.2.2.2 = 24 := id rfl
def mL_code : zM := (yL_code, cL_code, 6, (some .int), 4, 24)
theorem mL_code_b : mL_code.2.1 = cL_code := id rfl
theorem mL_code_r : mL_code.2.2.2.1 = (some .int) := id rfl
theorem mL_code_c : mL_code.2.2.2.2.1 = 4 := id rfl
theorem mL_code_s : mL_code.2.2.2.2.2 = 24 := id rfl
def mL_cost : zM := (yL_cost, cL_cost, 6, (some .int), 4, 24)
theorem mL_cost_b : mL_cost.2.1 = cL_cost := id rfl
theorem mL_cost_r : mL_cost.2.2.2.1 = (some .int) := id rfl
theorem mL_cost_c : mL_cost.2.2.2.2.1 = 4 := id rfl
theorem mL_cost_s : mL_cost.2.2.2.2.2 = 24 := id rfl
def mL_cut : zM := (yL_cut, cL_cut, 5, (some .int), 4, 24)
theorem mL_cut_b : mL_cut.2.1 = cL_cut := id rfl
theorem mL_cut_r : mL_cut.2.2.2.1 = (some .int) := id rfl
theorem mL_cut_c : mL_cut.2.2.2.2.1 = 4 := id rfl
theorem mL_cut_s : mL_cut.2.2.2.2.2 = 24 := id rfl
def mL_doubt : zM := (yL_doubt, cL_doubt, 7, (some .int), 4, 24)
theorem mL_doubt_b : mL_doubt.2.1 = cL_doubt := id rfl
theorem mL_doubt_r : mL_doubt.2.2.2.1 = (some .int) := id rfl
theorem mL_doubt_c : mL_doubt.2.2.2.2.1 = 4 := id rfl
theorem mL_doubt_s : mL_doubt.2.2.2.2.2 = 24 := id rfl
def mL_give : zM := (yL_give, cL_give, 9, (some .int), 4, 24)
theorem mL_give_b : mL_give.2.1 = cL_give := id rfl
theorem mL_give_r : mL_give.2.2.2.1 = (some .int) := id rfl
theorem mL_give_c : mL_give.2.2.2.2.1 = 4 := id rfl
theorem mL_give_s : mL_give.2.2.2.2.2 = 24 := id rfl
def mL_house : zM := (yL_house, cL_house, 4, (some .int), 4, 24)
theorem mL_house_b : mL_house.2.1 = cL_house := id rfl
theorem mL_house_r : mL_house.2.2.2.1 = (some .int) := id rfl
theorem mL_house_c : mL_house.2.2.2.2.1 = 4 := id rfl
theorem mL_house_s : mL_house.2.2.2.2.2 = 24 := id rfl
def mL_length : zM := (yL_length, cL_length, 4, (some .int), 4, 24)
theorem mL_length_b : mL_length.2.1 = cL_length := id rfl
theorem mL_length_r : mL_length.2.2.2.1 = (some .int) := id rfl
theorem mL_length_c : mL_length.2.2.2.2.1 = 4 := id rfl
theorem mL_length_s : mL_length.2.2.2.2.2 = 24 := id rfl
def mL_linear : zM := (yL_linear, cL_linear, 4, (some .int), 4, 24)
theorem mL_linear_b : mL_linear.2.1 = cL_linear := id rfl
theorem mL_linear_r : mL_linear.2.2.2.1 = (some .int) := id rfl
theorem mL_linear_c : mL_linear.2.2.2.2.1 = 4 := id rfl
theorem mL_linear_s : mL_linear.2.2.2.2.2 = 24 := id rfl
def mL_lot : zM := (yL_lot, cL_lot, 7, (some .int), 4, 24)
theorem mL_lot_b : mL_lot.2.1 = cL_lot := id rfl
theorem mL_lot_r : mL_lot.2.2.2.1 = (some .int) := id rfl
theorem mL_lot_c : mL_lot.2.2.2.2.1 = 4 := id rfl
theorem mL_lot_s : mL_lot.2.2.2.2.2 = 24 := id rfl
def mL_memory : zM := (yL_memory, cL_memory, 6, (some .int), 4, 24)
theorem mL_memory_b : mL_memory.2.1 = cL_memory := id rfl
theorem mL_memory_r : mL_memory.2.2.2.1 = (some .int) := id rfl
theorem mL_memory_c : mL_memory.2.2.2.2.1 = 4 := id rfl
theorem mL_memory_s : mL_memory.2.2.2.2.2 = 24 := id rfl
def mL_out : zM := (yL_out, cL_out, 6, (some .int), 4, 24)
theorem mL_out_b : mL_out.2.1 = cL_out := id rfl
theorem mL_out_r : mL_out.2.2.2.1 = (some .int) := id rfl
theorem mL_out_c : mL_out.2.2.2.2.1 = 4 := id rfl
theorem mL_out_s : mL_out.2.2.2.2.2 = 24 := id rfl
def mL_part : zM := (yL_part, cL_part, 7, (some .int), 4, 24)
theorem mL_part_b : mL_part.2.1 = cL_part := id rfl
theorem mL_part_r : mL_part.2.2.2.1 = (some .int) := id rfl
theorem mL_part_c : mL_part.2.2.2.2.1 = 4 := id rfl
theorem mL_part_s : mL_part.2.2.2.2.2 = 24 := id rfl
def mL_piece : zM := (yL_piece, cL_piece, 6, (some .int), 4, 24)
theorem mL_piece_b : mL_piece.2.1 = cL_piece := id rfl
theorem mL_piece_r : mL_piece.2.2.2.1 = (some .int) := id rfl
theorem mL_piece_c : mL_piece.2.2.2.2.1 = 4 := id rfl
theorem mL_piece_s : mL_piece.2.2.2.2.2 = 24 := id rfl
def mL_purse : zM := (yL_purse, cL_purse, 4, (some .int), 4, 24)
theorem mL_purse_b : mL_purse.2.1 = cL_purse := id rfl
theorem mL_purse_r : mL_purse.2.2.2.1 = (some .int) := id rfl
theorem mL_purse_c : mL_purse.2.2.2.2.1 = 4 := id rfl
theorem mL_purse_s : mL_purse.2.2.2.2.2 = 24 := id rfl
def mL_rule : zM := (yL_rule, cL_rule, 5, (some .int), 4, 24)
theorem mL_rule_b : mL_rule.2.1 = cL_rule := id rfl
theorem mL_rule_r : mL_rule.2.2.2.1 = (some .int) := id rfl
theorem mL_rule_c : mL_rule.2.2.2.2.1 = 4 := id rfl
theorem mL_rule_s : mL_rule.2.2.2.2.2 = 24 := id rfl
def mL_shown : zM := (yL_shown, cL_shown, 7, (some .int), 4, 24)
theorem mL_shown_b : mL_shown.2.1 = cL_shown := id rfl
theorem mL_shown_r : mL_shown.2.2.2.1 = (some .int) := id rfl
theorem mL_shown_c : mL_shown.2.2.2.2.1 = 4 := id rfl
theorem mL_shown_s : mL_shown.2.2.2.2.2 = 24 := id rfl
def mL_sum : zM := (yL_sum, cL_sum, 5, (some .int), 4, 24)
theorem mL_sum_b : mL_sum.2.1 = cL_sum := id rfl
theorem mL_sum_r : mL_sum.2.2.2.1 = (some .int) := id rfl
theorem mL_sum_c : mL_sum.2.2.2.2.1 = 4 := id rfl
theorem mL_sum_s : mL_sum.2.2.2.2.2 = 24 := id rfl
def mL_task : zM := (yL_task, cL_task, 5, (some .int), 4, 24)
theorem mL_task_b : mL_task.2.1 = cL_task := id rfl
theorem mL_task_r : mL_task.2.2.2.1 = (some .int) := id rfl
theorem mL_task_c : mL_task.2.2.2.2.1 = 4 := id rfl
theorem mL_task_s : mL_task.2.2.2.2.2 = 24 := id rfl
def mL_tick : zM := (yL_tick, cL_tick, 4, (some .int), 4, 24)
theorem mL_tick_b : mL_tick.2.1 = cL_tick := id rfl
theorem mL_tick_r : mL_tick.2.2.2.1 = (some .int) := id rfl
theorem mL_tick_c : mL_tick.2.2.2.2.1 = 4 := id rfl
theorem mL_tick_s : mL_tick.2.2.2.2.2 = 24 := id rfl
def mL_told : zM := (yL_told, cL_told, 5, (some .int), 4, 24)
theorem mL_told_b : mL_told.2.1 = cL_told := id rfl
theorem mL_told_r : mL_told.2.2.2.1 = (some .int) := id rfl
theorem mL_told_c : mL_told.2.2.2.2.1 = 4 := id rfl
theorem mL_told_s : mL_told.2.2.2.2.2 = 24 := id rfl
def mL_trial : zM := (yL_trial, cL_trial, 7, (some .int), 4, 24)
theorem mL_trial_b : mL_trial.2.1 = cL_trial := id rfl
theorem mL_trial_r : mL_trial.2.2.2.1 = (some .int) := id rfl
theorem mL_trial_c : mL_trial.2.2.2.2.1 = 4 := id rfl
theorem mL_trial_s : mL_trial.2.2.2.2.2 = 24 := id rfl
def mX11_init : zM := (yX11_init, cX11_init, 1, none, 42, 18019)
theorem mX11_init_b : mX11_init.2.1 = cX11_init := id rfl
theorem mX11_init_r : mX11_init.2.2.2.1 = none := id rfl
theorem mX11_init_c : mX11_init.2.2.2.2.1 = 42 := id rfl
theorem mX11_init_s : mX11_init.2.2.2.2.2 = 18019 := id rfl
def mX11_adds : zM := (yX11_adds, cX11_adds, 2, none, 0, 0)
theorem mX11_adds_b : mX11_adds.2.1 = cX11_adds := id rfl
theorem mX11_adds_r : mX11_adds.2.2.2.1 = none := id rfl
theorem mX11_adds_c : mX11_adds.2.2.2.2.1 = 0 := id rfl
theorem mX11_adds_s : mX11_adds.2.2.2.2.2 = 0 := id rfl
def mX11_answer : zM := (yX11_answer, cX11_answer, 8, (some .int), 0, 0)
theorem mX11_answer_b : mX11_answer.2.1 = cX11_answer := id rfl
theorem mX11_answer_r : mX11_answer.2.2.2.1 = (some .int) := id rfl
theorem mX11_answer_c : mX11_answer.2.2.2.2.1 = 0 := id rfl
theorem mX11_answer_s : mX11_answer.2.2.2.2.2 = 0 := id rfl
def mX11_asks : zM := (yX11_asks, cX11_asks, 2, none, 0, 0)
theorem mX11_asks_b : mX11_asks.2.1 = cX11_asks := id rfl
theorem mX11_asks_r : mX11_asks.2.2.2.1 = none := id rfl
theorem mX11_asks_c : mX11_asks.2.2.2.2.1 = 0 := id rfl
theorem mX11_asks_s : mX11_asks.2.2.2.2.2 = 0 := id rfl
def mX11_bad : zM := (yX11_bad, cX11_bad, 3, (some .boolean), 0, 0)
theorem mX11_bad_b : mX11_bad.2.1 = cX11_bad := id rfl
theorem mX11_bad_r : mX11_bad.2.2.2.1 = (some .boolean) := id rfl
theorem mX11_bad_c : mX11_bad.2.2.2.2.1 = 0 := id rfl
theorem mX11_bad_s : mX11_bad.2.2.2.2.2 = 0 := id rfl
def mX11_begins : zM := (yX11_begins, cX11_begins, 5, none, 0, 0)
theorem mX11_begins_b : mX11_begins.2.1 = cX11_begins := id rfl
theorem mX11_begins_r : mX11_begins.2.2.2.1 = none := id rfl
theorem mX11_begins_c : mX11_begins.2.2.2.2.1 = 0 := id rfl
theorem mX11_begins_s : mX11_begins.2.2.2.2.2 = 0 := id rfl
def mX11_beside : zM := (yX11_beside, cX11_beside, 5, (some .int), 0, 0)
theorem mX11_beside_b : mX11_beside.2.1 = cX11_beside := id rfl
theorem mX11_beside_r : mX11_beside.2.2.2.1 = (some .int) := id rfl
theorem mX11_beside_c : mX11_beside.2.2.2.2.1 = 0 := id rfl
theorem mX11_beside_s : mX11_beside.2.2.2.2.2 = 0 := id rfl
def mX11_bid : zM := (yX11_bid, cX11_bid, 9, (some .int), 0, 0)
theorem mX11_bid_b : mX11_bid.2.1 = cX11_bid := id rfl
theorem mX11_bid_r : mX11_bid.2.2.2.1 = (some .int) := id rfl
theorem mX11_bid_c : mX11_bid.2.2.2.2.1 = 0 := id rfl
theorem mX11_bid_s : mX11_bid.2.2.2.2.2 = 0 := id rfl
def mX11_blanks : zM := (yX11_blanks, cX11_blanks, 1, none, 0, 0)
theorem mX11_blanks_b : mX11_blanks.2.1 = cX11_blanks := id rfl
theorem mX11_blanks_r : mX11_blanks.2.2.2.1 = none := id rfl
theorem mX11_blanks_c : mX11_blanks.2.2.2.2.1 = 0 := id rfl
theorem mX11_blanks_s : mX11_blanks.2.2.2.2.2 = 0 := id rfl
def mX11_both : zM := (yX11_both, cX11_both, 3, (some .int), 0, 0)
theorem mX11_both_b : mX11_both.2.1 = cX11_both := id rfl
theorem mX11_both_r : mX11_both.2.2.2.1 = (some .int) := id rfl
theorem mX11_both_c : mX11_both.2.2.2.2.1 = 0 := id rfl
theorem mX11_both_s : mX11_both.2.2.2.2.2 = 0 := id rfl
def mX11_braced : zM := (yX11_braced, cX11_braced, 1, none, 0, 0)
theorem mX11_braced_b : mX11_braced.2.1 = cX11_braced := id rfl
theorem mX11_braced_r : mX11_braced.2.2.2.1 = none := id rfl
theorem mX11_braced_c : mX11_braced.2.2.2.2.1 = 0 := id rfl
theorem mX11_braced_s : mX11_braced.2.2.2.2.2 = 0 := id rfl
def mX11_branch : zM := (yX11_branch, cX11_branch, 3, none, 0, 0)
theorem mX11_branch_b : mX11_branch.2.1 = cX11_branch := id rfl
theorem mX11_branch_r : mX11_branch.2.2.2.1 = none := id rfl
theorem mX11_branch_c : mX11_branch.2.2.2.2.1 = 0 := id rfl
theorem mX11_branch_s : mX11_branch.2.2.2.2.2 = 0 := id rfl
def mX11_byteAt : zM := (yX11_byteAt, cX11_byteAt, 2, (some .int), 0, 0)
theorem mX11_byteAt_b : mX11_byteAt.2.1 = cX11_byteAt := id rfl
theorem mX11_byteAt_r : mX11_byteAt.2.2.2.1 = (some .int) := id rfl
theorem mX11_byteAt_c : mX11_byteAt.2.2.2.2.1 = 0 := id rfl
theorem mX11_byteAt_s : mX11_byteAt.2.2.2.2.2 = 0 := id rfl
def mX11_byteOf : zM := (yX11_byteOf, cX11_byteOf, 3, (some .int), 0, 0)
theorem mX11_byteOf_b : mX11_byteOf.2.1 = cX11_byteOf := id rfl
theorem mX11_byteOf_r : mX11_byteOf.2.2.2.1 = (some .int) := id rfl
theorem mX11_byteOf_c : mX11_byteOf.2.2.2.2.1 = 0 := id rfl
theorem mX11_byteOf_s : mX11_byteOf.2.2.2.2.2 = 0 := id rfl
def mX11_cell : zM := (yX11_cell, cX11_cell, 4, (some .int), 0, 0)
theorem mX11_cell_b : mX11_cell.2.1 = cX11_cell := id rfl
theorem mX11_cell_r : mX11_cell.2.2.2.1 = (some .int) := id rfl
theorem mX11_cell_c : mX11_cell.2.2.2.2.1 = 0 := id rfl
theorem mX11_cell_s : mX11_cell.2.2.2.2.2 = 0 := id rfl
def mX11_chooses : zM := (yX11_chooses, cX11_chooses, 10, none, 0, 0)
theorem mX11_chooses_b : mX11_chooses.2.1 = cX11_chooses := id rfl
theorem mX11_chooses_r : mX11_chooses.2.2.2.1 = none := id rfl
theorem mX11_chooses_c : mX11_chooses.2.2.2.2.1 = 0 := id rfl
theorem mX11_chooses_s : mX11_chooses.2.2.2.2.2 = 0 := id rfl
def mX11_chosen : zM := (yX11_chosen, cX11_chosen, 7, (some .long), 0, 0)
theorem mX11_chosen_b : mX11_chosen.2.1 = cX11_chosen := id rfl
theorem mX11_chosen_r : mX11_chosen.2.2.2.1 = (some .long) := id rfl
theorem mX11_chosen_c : mX11_chosen.2.2.2.2.1 = 0 := id rfl
theorem mX11_chosen_s : mX11_chosen.2.2.2.2.2 = 0 := id rfl
def mX11_claim : zM := (yX11_claim, cX11_claim, 5, (some .int), 0, 0)
theorem mX11_claim_b : mX11_claim.2.1 = cX11_claim := id rfl
theorem mX11_claim_r : mX11_claim.2.2.2.1 = (some .int) := id rfl
theorem mX11_claim_c : mX11_claim.2.2.2.2.1 = 0 := id rfl
theorem mX11_claim_s : mX11_claim.2.2.2.2.2 = 0 := id rfl
def mX11_closes : zM := (yX11_closes, cX11_closes, 2, none, 0, 0)
theorem mX11_closes_b : mX11_closes.2.1 = cX11_closes := id rfl
theorem mX11_closes_r : mX11_closes.2.2.2.1 = none := id rfl
theorem mX11_closes_c : mX11_closes.2.2.2.2.1 = 0 := id rfl
theorem mX11_closes_s : mX11_closes.2.2.2.2.2 = 0 := id rfl
def mX11_code : zM := (yX11_code, cX11_code, 4, (some .int), 0, 0)
theorem mX11_code_b : mX11_code.2.1 = cX11_code := id rfl
theorem mX11_code_r : mX11_code.2.2.2.1 = (some .int) := id rfl
theorem mX11_code_c : mX11_code.2.2.2.2.1 = 0 := id rfl
theorem mX11_code_s : mX11_code.2.2.2.2.2 = 0 := id rfl
def mX11_cost : zM := (yX11_cost, cX11_cost, 5, (some .long), 0, 0)
theorem mX11_cost_b : mX11_cost.2.1 = cX11_cost := id rfl
theorem mX11_cost_r : mX11_cost.2.2.2.1 = (some .long) := id rfl
theorem mX11_cost_c : mX11_cost.2.2.2.2.1 = 0 := id rfl
theorem mX11_cost_s : mX11_cost.2.2.2.2.2 = 0 := id rfl
def mX11_costOf : zM := (yX11_costOf, cX11_costOf, 5, (some .long), 0, 0)
theorem mX11_costOf_b : mX11_costOf.2.1 = cX11_costOf := id rfl
theorem mX11_costOf_r : mX11_costOf.2.2.2.1 = (some .long) := id rfl
theorem mX11_costOf_c : mX11_costOf.2.2.2.2.1 = 0 := id rfl
theorem mX11_costOf_s : mX11_costOf.2.2.2.2.2 = 0 := id rfl
def mX11_count : zM := (yX11_count, cX11_count, 4, (some .int), 0, 0)
theorem mX11_count_b : mX11_count.2.1 = cX11_count := id rfl
theorem mX11_count_r : mX11_count.2.2.2.1 = (some .int) := id rfl
theorem mX11_count_c : mX11_count.2.2.2.2.1 = 0 := id rfl
theorem mX11_count_s : mX11_count.2.2.2.2.2 = 0 := id rfl
def mX11_cut : zM := (yX11_cut, cX11_cut, 4, (some .int), 0, 0)
theorem mX11_cut_b : mX11_cut.2.1 = cX11_cut := id rfl
theorem mX11_cut_r : mX11_cut.2.2.2.1 = (some .int) := id rfl
theorem mX11_cut_c : mX11_cut.2.2.2.2.1 = 0 := id rfl
theorem mX11_cut_s : mX11_cut.2.2.2.2.2 = 0 := id rfl
def mX11_doubt : zM := (yX11_doubt, cX11_doubt, 6, (some .int), 0, 0)
theorem mX11_doubt_b : mX11_doubt.2.1 = cX11_doubt := id rfl
theorem mX11_doubt_r : mX11_doubt.2.2.2.1 = (some .int) := id rfl
theorem mX11_doubt_c : mX11_doubt.2.2.2.2.1 = 0 := id rfl
theorem mX11_doubt_s : mX11_doubt.2.2.2.2.2 = 0 := id rfl
def mX11_dropBid : zM := (yX11_dropBid, cX11_dropBid, 3, none, 0, 0)
theorem mX11_dropBid_b : mX11_dropBid.2.1 = cX11_dropBid := id rfl
theorem mX11_dropBid_r : mX11_dropBid.2.2.2.1 = none := id rfl
theorem mX11_dropBid_c : mX11_dropBid.2.2.2.2.1 = 0 := id rfl
theorem mX11_dropBid_s : mX11_dropBid.2.2.2.2.2 = 0 := id rfl
def mX11_eat : zM := (yX11_eat, cX11_eat, 3, (some .boolean), 0, 0)
theorem mX11_eat_b : mX11_eat.2.1 = cX11_eat := id rfl
theorem mX11_eat_r : mX11_eat.2.2.2.1 = (some .boolean) := id rfl
theorem mX11_eat_c : mX11_eat.2.2.2.2.1 = 0 := id rfl
theorem mX11_eat_s : mX11_eat.2.2.2.2.2 = 0 := id rfl
def mX11_eats : zM := (yX11_eats, cX11_eats, 4, (some .boolean), 0, 0)
theorem mX11_eats_b : mX11_eats.2.1 = cX11_eats := id rfl
theorem mX11_eats_r : mX11_eats.2.2.2.1 = (some .boolean) := id rfl
theorem mX11_eats_c : mX11_eats.2.2.2.2.1 = 0 := id rfl
theorem mX11_eats_s : mX11_eats.2.2.2.2.2 = 0 := id rfl
def mX11_emits : zM := (yX11_emits, cX11_emits, 3, (some .int), 0, 0)
theorem mX11_emits_b : mX11_emits.2.1 = cX11_emits := id rfl
theorem mX11_emits_r : mX11_emits.2.2.2.1 = (some .int) := id rfl
theorem mX11_emits_c : mX11_emits.2.2.2.2.1 = 0 := id rfl
theorem mX11_emits_s : mX11_emits.2.2.2.2.2 = 0 := id rfl
def mX11_ended : zM := (yX11_ended, cX11_ended, 3, none, 0, 0)
theorem mX11_ended_b : mX11_ended.2.1 = cX11_ended := id rfl
theorem mX11_ended_r : mX11_ended.2.2.2.1 = none := id rfl
theorem mX11_ended_c : mX11_ended.2.2.2.2.1 = 0 := id rfl
theorem mX11_ended_s : mX11_ended.2.2.2.2.2 = 0 := id rfl
def mX11_expression : zM := (yX11_expression, cX11_expression, 2, none, 0, 0)
theorem mX11_expression_b : mX11_expression.2.1 = cX11_expression := id rfl
theorem mX11_expression_r : mX11_expression.2.2.2.1 = none := id rfl
theorem mX11_expression_c : mX11_expression.2.2.2.2.1 = 0 := id rfl
theorem mX11_expression_s : mX11_expression.2.2.2.2.2 = 0 := id rfl
def mX11_fault : zM := (yX11_fault, cX11_fault, 1, (some .int), 0, 0)
theorem mX11_fault_b : mX11_fault.2.1 = cX11_fault := id rfl
theorem mX11_fault_r : mX11_fault.2.2.2.1 = (some .int) := id rfl
theorem mX11_fault_c : mX11_fault.2.2.2.2.1 = 0 := id rfl
theorem mX11_fault_s : mX11_fault.2.2.2.2.2 = 0 := id rfl
def mX11_feed : zM := (yX11_feed, cX11_feed, 9, (some .int), 0, 0)
theorem mX11_feed_b : mX11_feed.2.1 = cX11_feed := id rfl
theorem mX11_feed_r : mX11_feed.2.2.2.1 = (some .int) := id rfl
theorem mX11_feed_c : mX11_feed.2.2.2.2.1 = 0 := id rfl
theorem mX11_feed_s : mX11_feed.2.2.2.2.2 = 0 := id rfl
def mX11_figures : zM := (yX11_figures, cX11_figures, 3, none, 0, 0)
theorem mX11_figures_b : mX11_figures.2.1 = cX11_figures := id rfl
theorem mX11_figures_r : mX11_figures.2.2.2.1 = none := id rfl
theorem mX11_figures_c : mX11_figures.2.2.2.2.1 = 0 := id rfl
theorem mX11_figures_s : mX11_figures.2.2.2.2.2 = 0 := id rfl
def mX11_firstOf : zM := (yX11_firstOf, cX11_firstOf, 2, (some .int), 0, 0)
theorem mX11_firstOf_b : mX11_firstOf.2.1 = cX11_firstOf := id rfl
theorem mX11_firstOf_r : mX11_firstOf.2.2.2.1 = (some .int) := id rfl
theorem mX11_firstOf_c : mX11_firstOf.2.2.2.2.1 = 0 := id rfl
theorem mX11_firstOf_s : mX11_firstOf.2.2.2.2.2 = 0 := id rfl
def mX11_frees : zM := (yX11_frees, cX11_frees, 2, none, 0, 0)
theorem mX11_frees_b : mX11_frees.2.1 = cX11_frees := id rfl
theorem mX11_frees_r : mX11_frees.2.2.2.1 = none := id rfl
theorem mX11_frees_c : mX11_frees.2.2.2.2.1 = 0 := id rfl
theorem mX11_frees_s : mX11_frees.2.2.2.2.2 = 0 := id rfl
def mX11_give : zM := (yX11_give, cX11_give, 9, (some .int), 0, 0)
theorem mX11_give_b : mX11_give.2.1 = cX11_give := id rfl
theorem mX11_give_r : mX11_give.2.2.2.1 = (some .int) := id rfl
theorem mX11_give_c : mX11_give.2.2.2.2.1 = 0 := id rfl
theorem mX11_give_s : mX11_give.2.2.2.2.2 = 0 := id rfl
def mX11_goes : zM := (yX11_goes, cX11_goes, 6, (some .boolean), 0, 0)
theorem mX11_goes_b : mX11_goes.2.1 = cX11_goes := id rfl
theorem mX11_goes_r : mX11_goes.2.2.2.1 = (some .boolean) := id rfl
theorem mX11_goes_c : mX11_goes.2.2.2.2.1 = 0 := id rfl
theorem mX11_goes_s : mX11_goes.2.2.2.2.2 = 0 := id rfl
def mX11_held : zM := (yX11_held, cX11_held, 3, (some .int), 0, 0)
theorem mX11_held_b : mX11_held.2.1 = cX11_held := id rfl
theorem mX11_held_r : mX11_held.2.2.2.1 = (some .int) := id rfl
theorem mX11_held_c : mX11_held.2.2.2.2.1 = 0 := id rfl
theorem mX11_held_s : mX11_held.2.2.2.2.2 = 0 := id rfl
def mX11_house : zM := (yX11_house, cX11_house, 2, (some .int), 0, 0)
theorem mX11_house_b : mX11_house.2.1 = cX11_house := id rfl
theorem mX11_house_r : mX11_house.2.2.2.1 = (some .int) := id rfl
theorem mX11_house_c : mX11_house.2.2.2.2.1 = 0 := id rfl
theorem mX11_house_s : mX11_house.2.2.2.2.2 = 0 := id rfl
def mX11_in : zM := (yX11_in, cX11_in, 3, (some .boolean), 0, 0)
theorem mX11_in_b : mX11_in.2.1 = cX11_in := id rfl
theorem mX11_in_r : mX11_in.2.2.2.1 = (some .boolean) := id rfl
theorem mX11_in_c : mX11_in.2.2.2.2.1 = 0 := id rfl
theorem mX11_in_s : mX11_in.2.2.2.2.2 = 0 := id rfl
def mX11_isDigit : zM := (yX11_isDigit, cX11_isDigit, 1, (some .boolean), 0, 0)
theorem mX11_isDigit_b : mX11_isDigit.2.1 = cX11_isDigit := id rfl
theorem mX11_isDigit_r : mX11_isDigit.2.2.2.1 = (some .boolean) := id rfl
theorem mX11_isDigit_c : mX11_isDigit.2.2.2.2.1 = 0 := id rfl
theorem mX11_isDigit_s : mX11_isDigit.2.2.2.2.2 = 0 := id rfl
def mX11_isHouse : zM := (yX11_isHouse, cX11_isHouse, 2, (some .boolean), 0, 0)
theorem mX11_isHouse_b : mX11_isHouse.2.1 = cX11_isHouse := id rfl
theorem mX11_isHouse_r : mX11_isHouse.2.2.2.1 = (some .boolean) := id rfl
theorem mX11_isHouse_c : mX11_isHouse.2.2.2.2.1 = 0 := id rfl
theorem mX11_isHouse_s : mX11_isHouse.2.2.2.2.2 = 0 := id rfl
def mX11_isLine : zM := (yX11_isLine, cX11_isLine, 2, (some .boolean), 0, 0)
theorem mX11_isLine_b : mX11_isLine.2.1 = cX11_isLine := id rfl
theorem mX11_isLine_r : mX11_isLine.2.2.2.1 = (some .boolean) := id rfl
theorem mX11_isLine_c : mX11_isLine.2.2.2.2.1 = 0 := id rfl
theorem mX11_isLine_s : mX11_isLine.2.2.2.2.2 = 0 := id rfl
def mX11_isOut : zM := (yX11_isOut, cX11_isOut, 4, (some .boolean), 0, 0)
theorem mX11_isOut_b : mX11_isOut.2.1 = cX11_isOut := id rfl
theorem mX11_isOut_r : mX11_isOut.2.2.2.1 = (some .boolean) := id rfl
theorem mX11_isOut_c : mX11_isOut.2.2.2.2.1 = 0 := id rfl
theorem mX11_isOut_s : mX11_isOut.2.2.2.2.2 = 0 := id rfl
def mX11_isPart : zM := (yX11_isPart, cX11_isPart, 2, (some .boolean), 0, 0)
theorem mX11_isPart_b : mX11_isPart.2.1 = cX11_isPart := id rfl
theorem mX11_isPart_r : mX11_isPart.2.2.2.1 = (some .boolean) := id rfl
theorem mX11_isPart_c : mX11_isPart.2.2.2.2.1 = 0 := id rfl
theorem mX11_isPart_s : mX11_isPart.2.2.2.2.2 = 0 := id rfl
def mX11_isPiece : zM := (yX11_isPiece, cX11_isPiece, 3, (some .boolean), 0, 0)
theorem mX11_isPiece_b : mX11_isPiece.2.1 = cX11_isPiece := id rfl
theorem mX11_isPiece_r : mX11_isPiece.2.2.2.1 = (some .boolean) := id rfl
theorem mX11_isPiece_c : mX11_isPiece.2.2.2.2.1 = 0 := id rfl
theorem mX11_isPiece_s : mX11_isPiece.2.2.2.2.2 = 0 := id rfl
def mX11_isSmall : zM := (yX11_isSmall, cX11_isSmall, 1, (some .boolean), 0, 0)
theorem mX11_isSmall_b : mX11_isSmall.2.1 = cX11_isSmall := id rfl
theorem mX11_isSmall_r : mX11_isSmall.2.2.2.1 = (some .boolean) := id rfl
theorem mX11_isSmall_c : mX11_isSmall.2.2.2.2.1 = 0 := id rfl
theorem mX11_isSmall_s : mX11_isSmall.2.2.2.2.2 = 0 := id rfl
def mX11_isStatement : zM := (yX11_isStatement, cX11_isStatement, 1, (some .boolean), 0, 0)
theorem mX11_isStatement_b : mX11_isStatement.2.1 = cX11_isStatement := id rfl
theorem mX11_isStatement_r : mX11_isStatement.2.2.2.1 = (some .boolean) := id rfl
theorem mX11_isStatement_c : mX11_isStatement.2.2.2.2.1 = 0 := id rfl
theorem mX11_isStatement_s : mX11_isStatement.2.2.2.2.2 = 0 := id rfl
def mX11_isTask : zM := (yX11_isTask, cX11_isTask, 2, (some .boolean), 0, 0)
theorem mX11_isTask_b : mX11_isTask.2.1 = cX11_isTask := id rfl
theorem mX11_isTask_r : mX11_isTask.2.2.2.1 = (some .boolean) := id rfl
theorem mX11_isTask_c : mX11_isTask.2.2.2.2.1 = 0 := id rfl
theorem mX11_isTask_s : mX11_isTask.2.2.2.2.2 = 0 := id rfl
def mX11_isWord : zM := (yX11_isWord, cX11_isWord, 3, (some .boolean), 0, 0)
theorem mX11_isWord_b : mX11_isWord.2.1 = cX11_isWord := id rfl
theorem mX11_isWord_r : mX11_isWord.2.2.2.1 = (some .boolean) := id rfl
theorem mX11_isWord_c : mX11_isWord.2.2.2.2.1 = 0 := id rfl
theorem mX11_isWord_s : mX11_isWord.2.2.2.2.2 = 0 := id rfl
def mX11_joined : zM := (yX11_joined, cX11_joined, 2, (some .int), 0, 0)
theorem mX11_joined_b : mX11_joined.2.1 = cX11_joined := id rfl
theorem mX11_joined_r : mX11_joined.2.2.2.1 = (some .int) := id rfl
theorem mX11_joined_c : mX11_joined.2.2.2.2.1 = 0 := id rfl
theorem mX11_joined_s : mX11_joined.2.2.2.2.2 = 0 := id rfl
def mX11_judges : zM := (yX11_judges, cX11_judges, 4, none, 0, 0)
theorem mX11_judges_b : mX11_judges.2.1 = cX11_judges := id rfl
theorem mX11_judges_r : mX11_judges.2.2.2.1 = none := id rfl
theorem mX11_judges_c : mX11_judges.2.2.2.2.1 = 0 := id rfl
theorem mX11_judges_s : mX11_judges.2.2.2.2.2 = 0 := id rfl
def mX11_lastOf : zM := (yX11_lastOf, cX11_lastOf, 3, (some .int), 0, 0)
theorem mX11_lastOf_b : mX11_lastOf.2.1 = cX11_lastOf := id rfl
theorem mX11_lastOf_r : mX11_lastOf.2.2.2.1 = (some .int) := id rfl
theorem mX11_lastOf_c : mX11_lastOf.2.2.2.2.1 = 0 := id rfl
theorem mX11_lastOf_s : mX11_lastOf.2.2.2.2.2 = 0 := id rfl
def mX11_lays : zM := (yX11_lays, cX11_lays, 2, none, 0, 0)
theorem mX11_lays_b : mX11_lays.2.1 = cX11_lays := id rfl
theorem mX11_lays_r : mX11_lays.2.2.2.1 = none := id rfl
theorem mX11_lays_c : mX11_lays.2.2.2.2.1 = 0 := id rfl
theorem mX11_lays_s : mX11_lays.2.2.2.2.2 = 0 := id rfl
def mX11_leads : zM := (yX11_leads, cX11_leads, 3, none, 0, 0)
theorem mX11_leads_b : mX11_leads.2.1 = cX11_leads := id rfl
theorem mX11_leads_r : mX11_leads.2.2.2.1 = none := id rfl
theorem mX11_leads_c : mX11_leads.2.2.2.2.1 = 0 := id rfl
theorem mX11_leads_s : mX11_leads.2.2.2.2.2 = 0 := id rfl
def mX11_length : zM := (yX11_length, cX11_length, 2, (some .int), 0, 0)
theorem mX11_length_b : mX11_length.2.1 = cX11_length := id rfl
theorem mX11_length_r : mX11_length.2.2.2.1 = (some .int) := id rfl
theorem mX11_length_c : mX11_length.2.2.2.2.1 = 0 := id rfl
theorem mX11_length_s : mX11_length.2.2.2.2.2 = 0 := id rfl
def mX11_lengthOf : zM := (yX11_lengthOf, cX11_lengthOf, 3, (some .int), 0, 0)
theorem mX11_lengthOf_b : mX11_lengthOf.2.1 = cX11_lengthOf := id rfl
theorem mX11_lengthOf_r : mX11_lengthOf.2.2.2.1 = (some .int) := id rfl
theorem mX11_lengthOf_c : mX11_lengthOf.2.2.2.2.1 = 0 := id rfl
theorem mX11_lengthOf_s : mX11_lengthOf.2.2.2.2.2 = 0 := id rfl
def mX11_linear : zM := (yX11_linear, cX11_linear, 2, (some .int), 0, 0)
theorem mX11_linear_b : mX11_linear.2.1 = cX11_linear := id rfl
theorem mX11_linear_r : mX11_linear.2.2.2.1 = (some .int) := id rfl
theorem mX11_linear_c : mX11_linear.2.2.2.2.1 = 0 := id rfl
theorem mX11_linear_s : mX11_linear.2.2.2.2.2 = 0 := id rfl
def mX11_lot : zM := (yX11_lot, cX11_lot, 7, (some .int), 0, 0)
theorem mX11_lot_b : mX11_lot.2.1 = cX11_lot := id rfl
theorem mX11_lot_r : mX11_lot.2.2.2.1 = (some .int) := id rfl
theorem mX11_lot_c : mX11_lot.2.2.2.2.1 = 0 := id rfl
theorem mX11_lot_s : mX11_lot.2.2.2.2.2 = 0 := id rfl
def mX11_memory : zM := (yX11_memory, cX11_memory, 4, (some .int), 0, 0)
theorem mX11_memory_b : mX11_memory.2.1 = cX11_memory := id rfl
theorem mX11_memory_r : mX11_memory.2.2.2.1 = (some .int) := id rfl
theorem mX11_memory_c : mX11_memory.2.2.2.2.1 = 0 := id rfl
theorem mX11_memory_s : mX11_memory.2.2.2.2.2 = 0 := id rfl
def mX11_next : zM := (yX11_next, cX11_next, 2, (some .int), 0, 0)
theorem mX11_next_b : mX11_next.2.1 = cX11_next := id rfl
theorem mX11_next_r : mX11_next.2.2.2.1 = (some .int) := id rfl
theorem mX11_next_c : mX11_next.2.2.2.2.1 = 0 := id rfl
theorem mX11_next_s : mX11_next.2.2.2.2.2 = 0 := id rfl
def mX11_numbers : zM := (yX11_numbers, cX11_numbers, 3, (some .boolean), 0, 0)
theorem mX11_numbers_b : mX11_numbers.2.1 = cX11_numbers := id rfl
theorem mX11_numbers_r : mX11_numbers.2.2.2.1 = (some .boolean) := id rfl
theorem mX11_numbers_c : mX11_numbers.2.2.2.2.1 = 0 := id rfl
theorem mX11_numbers_s : mX11_numbers.2.2.2.2.2 = 0 := id rfl
def mX11_opens : zM := (yX11_opens, cX11_opens, 2, none, 0, 0)
theorem mX11_opens_b : mX11_opens.2.1 = cX11_opens := id rfl
theorem mX11_opens_r : mX11_opens.2.2.2.1 = none := id rfl
theorem mX11_opens_c : mX11_opens.2.2.2.2.1 = 0 := id rfl
theorem mX11_opens_s : mX11_opens.2.2.2.2.2 = 0 := id rfl
def mX11_out : zM := (yX11_out, cX11_out, 6, (some .int), 0, 0)
theorem mX11_out_b : mX11_out.2.1 = cX11_out := id rfl
theorem mX11_out_r : mX11_out.2.2.2.1 = (some .int) := id rfl
theorem mX11_out_c : mX11_out.2.2.2.2.1 = 0 := id rfl
theorem mX11_out_s : mX11_out.2.2.2.2.2 = 0 := id rfl
def mX11_outOf : zM := (yX11_outOf, cX11_outOf, 5, (some .int), 0, 0)
theorem mX11_outOf_b : mX11_outOf.2.1 = cX11_outOf := id rfl
theorem mX11_outOf_r : mX11_outOf.2.2.2.1 = (some .int) := id rfl
theorem mX11_outOf_c : mX11_outOf.2.2.2.2.1 = 0 := id rfl
theorem mX11_outOf_s : mX11_outOf.2.2.2.2.2 = 0 := id rfl
def mX11_over : zM := (yX11_over, cX11_over, 8, none, 0, 0)
theorem mX11_over_b : mX11_over.2.1 = cX11_over := id rfl
theorem mX11_over_r : mX11_over.2.2.2.1 = none := id rfl
theorem mX11_over_c : mX11_over.2.2.2.2.1 = 0 := id rfl
theorem mX11_over_s : mX11_over.2.2.2.2.2 = 0 := id rfl
def mX11_pageSum : zM := (yX11_pageSum, cX11_pageSum, 4, (some .int), 0, 0)
theorem mX11_pageSum_b : mX11_pageSum.2.1 = cX11_pageSum := id rfl
theorem mX11_pageSum_r : mX11_pageSum.2.2.2.1 = (some .int) := id rfl
theorem mX11_pageSum_c : mX11_pageSum.2.2.2.2.1 = 0 := id rfl
theorem mX11_pageSum_s : mX11_pageSum.2.2.2.2.2 = 0 := id rfl
def mX11_part : zM := (yX11_part, cX11_part, 5, (some .int), 0, 0)
theorem mX11_part_b : mX11_part.2.1 = cX11_part := id rfl
theorem mX11_part_r : mX11_part.2.2.2.1 = (some .int) := id rfl
theorem mX11_part_c : mX11_part.2.2.2.2.1 = 0 := id rfl
theorem mX11_part_s : mX11_part.2.2.2.2.2 = 0 := id rfl
def mX11_partOf : zM := (yX11_partOf, cX11_partOf, 7, (some .int), 0, 0)
theorem mX11_partOf_b : mX11_partOf.2.1 = cX11_partOf := id rfl
theorem mX11_partOf_r : mX11_partOf.2.2.2.1 = (some .int) := id rfl
theorem mX11_partOf_c : mX11_partOf.2.2.2.2.1 = 0 := id rfl
theorem mX11_partOf_s : mX11_partOf.2.2.2.2.2 = 0 := id rfl
def mX11_passes : zM := (yX11_passes, cX11_passes, 2, none, 0, 0)
theorem mX11_passes_b : mX11_passes.2.1 = cX11_passes := id rfl
theorem mX11_passes_r : mX11_passes.2.2.2.1 = none := id rfl
theorem mX11_passes_c : mX11_passes.2.2.2.2.1 = 0 := id rfl
theorem mX11_passes_s : mX11_passes.2.2.2.2.2 = 0 := id rfl
def mX11_piece : zM := (yX11_piece, cX11_piece, 6, (some .int), 0, 0)
theorem mX11_piece_b : mX11_piece.2.1 = cX11_piece := id rfl
theorem mX11_piece_r : mX11_piece.2.2.2.1 = (some .int) := id rfl
theorem mX11_piece_c : mX11_piece.2.2.2.2.1 = 0 := id rfl
theorem mX11_piece_s : mX11_piece.2.2.2.2.2 = 0 := id rfl
def mX11_product : zM := (yX11_product, cX11_product, 2, none, 0, 0)
theorem mX11_product_b : mX11_product.2.1 = cX11_product := id rfl
theorem mX11_product_r : mX11_product.2.2.2.1 = none := id rfl
theorem mX11_product_c : mX11_product.2.2.2.2.1 = 0 := id rfl
theorem mX11_product_s : mX11_product.2.2.2.2.2 = 0 := id rfl
def mX11_purse : zM := (yX11_purse, cX11_purse, 2, (some .int), 0, 0)
theorem mX11_purse_b : mX11_purse.2.1 = cX11_purse := id rfl
theorem mX11_purse_r : mX11_purse.2.2.2.1 = (some .int) := id rfl
theorem mX11_purse_c : mX11_purse.2.2.2.2.1 = 0 := id rfl
theorem mX11_purse_s : mX11_purse.2.2.2.2.2 = 0 := id rfl
def mX11_rule : zM := (yX11_rule, cX11_rule, 4, (some .int), 0, 0)
theorem mX11_rule_b : mX11_rule.2.1 = cX11_rule := id rfl
theorem mX11_rule_r : mX11_rule.2.2.2.1 = (some .int) := id rfl
theorem mX11_rule_c : mX11_rule.2.2.2.2.1 = 0 := id rfl
theorem mX11_rule_s : mX11_rule.2.2.2.2.2 = 0 := id rfl
def mX11_runs : zM := (yX11_runs, cX11_runs, 6, (some .int), 0, 0)
theorem mX11_runs_b : mX11_runs.2.1 = cX11_runs := id rfl
theorem mX11_runs_r : mX11_runs.2.2.2.1 = (some .int) := id rfl
theorem mX11_runs_c : mX11_runs.2.2.2.2.1 = 0 := id rfl
theorem mX11_runs_s : mX11_runs.2.2.2.2.2 = 0 := id rfl
def mX11_shown : zM := (yX11_shown, cX11_shown, 7, (some .boolean), 0, 0)
theorem mX11_shown_b : mX11_shown.2.1 = cX11_shown := id rfl
theorem mX11_shown_r : mX11_shown.2.2.2.1 = (some .boolean) := id rfl
theorem mX11_shown_c : mX11_shown.2.2.2.2.1 = 0 := id rfl
theorem mX11_shown_s : mX11_shown.2.2.2.2.2 = 0 := id rfl
def mX11_sign : zM := (yX11_sign, cX11_sign, 2, none, 0, 0)
theorem mX11_sign_b : mX11_sign.2.1 = cX11_sign := id rfl
theorem mX11_sign_r : mX11_sign.2.2.2.1 = none := id rfl
theorem mX11_sign_c : mX11_sign.2.2.2.2.1 = 0 := id rfl
theorem mX11_sign_s : mX11_sign.2.2.2.2.2 = 0 := id rfl
def mX11_statement : zM := (yX11_statement, cX11_statement, 4, none, 0, 0)
theorem mX11_statement_b : mX11_statement.2.1 = cX11_statement := id rfl
theorem mX11_statement_r : mX11_statement.2.2.2.1 = none := id rfl
theorem mX11_statement_c : mX11_statement.2.2.2.2.1 = 0 := id rfl
theorem mX11_statement_s : mX11_statement.2.2.2.2.2 = 0 := id rfl
def mX11_statements : zM := (yX11_statements, cX11_statements, 1, none, 0, 0)
theorem mX11_statements_b : mX11_statements.2.1 = cX11_statements := id rfl
theorem mX11_statements_r : mX11_statements.2.2.2.1 = none := id rfl
theorem mX11_statements_c : mX11_statements.2.2.2.2.1 = 0 := id rfl
theorem mX11_statements_s : mX11_statements.2.2.2.2.2 = 0 := id rfl
def mX11_stays : zM := (yX11_stays, cX11_stays, 5, none, 0, 0)
theorem mX11_stays_b : mX11_stays.2.1 = cX11_stays := id rfl
theorem mX11_stays_r : mX11_stays.2.2.2.1 = none := id rfl
theorem mX11_stays_c : mX11_stays.2.2.2.2.1 = 0 := id rfl
theorem mX11_stays_s : mX11_stays.2.2.2.2.2 = 0 := id rfl
def mX11_sum : zM := (yX11_sum, cX11_sum, 3, (some .int), 0, 0)
theorem mX11_sum_b : mX11_sum.2.1 = cX11_sum := id rfl
theorem mX11_sum_r : mX11_sum.2.2.2.1 = (some .int) := id rfl
theorem mX11_sum_c : mX11_sum.2.2.2.2.1 = 0 := id rfl
theorem mX11_sum_s : mX11_sum.2.2.2.2.2 = 0 := id rfl
def mX11_sumOf : zM := (yX11_sumOf, cX11_sumOf, 3, (some .int), 0, 0)
theorem mX11_sumOf_b : mX11_sumOf.2.1 = cX11_sumOf := id rfl
theorem mX11_sumOf_r : mX11_sumOf.2.2.2.1 = (some .int) := id rfl
theorem mX11_sumOf_c : mX11_sumOf.2.2.2.2.1 = 0 := id rfl
theorem mX11_sumOf_s : mX11_sumOf.2.2.2.2.2 = 0 := id rfl
def mX11_sums : zM := (yX11_sums, cX11_sums, 4, none, 0, 0)
theorem mX11_sums_b : mX11_sums.2.1 = cX11_sums := id rfl
theorem mX11_sums_r : mX11_sums.2.2.2.1 = none := id rfl
theorem mX11_sums_c : mX11_sums.2.2.2.2.1 = 0 := id rfl
theorem mX11_sums_s : mX11_sums.2.2.2.2.2 = 0 := id rfl
def mX11_takes : zM := (yX11_takes, cX11_takes, 2, (some .int), 0, 0)
theorem mX11_takes_b : mX11_takes.2.1 = cX11_takes := id rfl
theorem mX11_takes_r : mX11_takes.2.2.2.1 = (some .int) := id rfl
theorem mX11_takes_c : mX11_takes.2.2.2.2.1 = 0 := id rfl
theorem mX11_takes_s : mX11_takes.2.2.2.2.2 = 0 := id rfl
def mX11_task : zM := (yX11_task, cX11_task, 4, (some .int), 0, 0)
theorem mX11_task_b : mX11_task.2.1 = cX11_task := id rfl
theorem mX11_task_r : mX11_task.2.2.2.1 = (some .int) := id rfl
theorem mX11_task_c : mX11_task.2.2.2.2.1 = 0 := id rfl
theorem mX11_task_s : mX11_task.2.2.2.2.2 = 0 := id rfl
def mX11_thrown : zM := (yX11_thrown, cX11_thrown, 1, (some .int), 0, 0)
theorem mX11_thrown_b : mX11_thrown.2.1 = cX11_thrown := id rfl
theorem mX11_thrown_r : mX11_thrown.2.2.2.1 = (some .int) := id rfl
theorem mX11_thrown_c : mX11_thrown.2.2.2.2.1 = 0 := id rfl
theorem mX11_thrown_s : mX11_thrown.2.2.2.2.2 = 0 := id rfl
def mX11_tick : zM := (yX11_tick, cX11_tick, 5, (some .int), 0, 0)
theorem mX11_tick_b : mX11_tick.2.1 = cX11_tick := id rfl
theorem mX11_tick_r : mX11_tick.2.2.2.1 = (some .int) := id rfl
theorem mX11_tick_c : mX11_tick.2.2.2.2.1 = 0 := id rfl
theorem mX11_tick_s : mX11_tick.2.2.2.2.2 = 0 := id rfl
def mX11_told : zM := (yX11_told, cX11_told, 3, (some .int), 0, 0)
theorem mX11_told_b : mX11_told.2.1 = cX11_told := id rfl
theorem mX11_told_r : mX11_told.2.2.2.1 = (some .int) := id rfl
theorem mX11_told_c : mX11_told.2.2.2.2.1 = 0 := id rfl
theorem mX11_told_s : mX11_told.2.2.2.2.2 = 0 := id rfl
def mX11_trial : zM := (yX11_trial, cX11_trial, 6, (some .boolean), 0, 0)
theorem mX11_trial_b : mX11_trial.2.1 = cX11_trial := id rfl
theorem mX11_trial_r : mX11_trial.2.2.2.1 = (some .boolean) := id rfl
theorem mX11_trial_c : mX11_trial.2.2.2.2.1 = 0 := id rfl
theorem mX11_trial_s : mX11_trial.2.2.2.2.2 = 0 := id rfl
def mX11_unit : zM := (yX11_unit, cX11_unit, 2, none, 0, 0)
theorem mX11_unit_b : mX11_unit.2.1 = cX11_unit := id rfl
theorem mX11_unit_r : mX11_unit.2.2.2.1 = none := id rfl
theorem mX11_unit_c : mX11_unit.2.2.2.2.1 = 0 := id rfl
theorem mX11_unit_s : mX11_unit.2.2.2.2.2 = 0 := id rfl
def mX11_variable : zM := (yX11_variable, cX11_variable, 2, (some .int), 0, 0)
theorem mX11_variable_b : mX11_variable.2.1 = cX11_variable := id rfl
theorem mX11_variable_r : mX11_variable.2.2.2.1 = (some .int) := id rfl
theorem mX11_variable_c : mX11_variable.2.2.2.2.1 = 0 := id rfl
theorem mX11_variable_s : mX11_variable.2.2.2.2.2 = 0 := id rfl
def mX11_voided : zM := (yX11_voided, cX11_voided, 4, none, 0, 0)
theorem mX11_voided_b : mX11_voided.2.1 = cX11_voided := id rfl
theorem mX11_voided_r : mX11_voided.2.2.2.1 = none := id rfl
theorem mX11_voided_c : mX11_voided.2.2.2.2.1 = 0 := id rfl
theorem mX11_voided_s : mX11_voided.2.2.2.2.2 = 0 := id rfl
def mX11_worked : zM := (yX11_worked, cX11_worked, 3, (some .int), 0, 0)
theorem mX11_worked_b : mX11_worked.2.1 = cX11_worked := id rfl
theorem mX11_worked_r : mX11_worked.2.2.2.1 = (some .int) := id rfl
theorem mX11_worked_c : mX11_worked.2.2.2.2.1 = 0 := id rfl
theorem mX11_worked_s : mX11_worked.2.2.2.2.2 = 0 := id rfl
def mX11_wrong : zM := (yX11_wrong, cX11_wrong, 3, none, 0, 0)
theorem mX11_wrong_b : mX11_wrong.2.1 = cX11_wrong := id rfl
theorem mX11_wrong_r : mX11_wrong.2.2.2.1 = none := id rfl
theorem mX11_wrong_c : mX11_wrong.2.2.2.2.1 = 0 := id rfl
theorem mX11_wrong_s : mX11_wrong.2.2.2.2.2 = 0 := id rfl
def mJ6_bitCount_0f7a4 : zM := (yJ6_bitCount_0f7a4, cJ6_bitCount_0f7a4, 1, (some .int), 0, 0)
theorem mJ6_bitCount_0f7a4_b : mJ6_bitCount_0f7a4.2.1 = cJ6_bitCount_0f7a4 := id rfl
theorem mJ6_bitCount_0f7a4_r : mJ6_bitCount_0f7a4.2.2.2.1 = (some .int) := id rfl
theorem mJ6_bitCount_0f7a4_c : mJ6_bitCount_0f7a4.2.2.2.2.1 = 0 := id rfl
theorem mJ6_bitCount_0f7a4_s : mJ6_bitCount_0f7a4.2.2.2.2.2 = 0 := id rfl
def mJ9_max_7cf53 : zM := (yJ9_max_7cf53, cJ9_max_7cf53, 2, (some .int), 0, 0)
theorem mJ9_max_7cf53_b : mJ9_max_7cf53.2.1 = cJ9_max_7cf53 := id rfl
theorem mJ9_max_7cf53_r : mJ9_max_7cf53.2.2.2.1 = (some .int) := id rfl
theorem mJ9_max_7cf53_c : mJ9_max_7cf53.2.2.2.2.1 = 0 := id rfl
theorem mJ9_max_7cf53_s : mJ9_max_7cf53.2.2.2.2.2 = 0 := id rfl
def mJ9_max_f86c9 : zM := (yJ9_max_f86c9, cJ9_max_f86c9, 4, (some .long), 0, 0)
theorem mJ9_max_f86c9_b : mJ9_max_f86c9.2.1 = cJ9_max_f86c9 := id rfl
theorem mJ9_max_f86c9_r : mJ9_max_f86c9.2.2.2.1 = (some .long) := id rfl
theorem mJ9_max_f86c9_c : mJ9_max_f86c9.2.2.2.2.1 = 0 := id rfl
theorem mJ9_max_f86c9_s : mJ9_max_f86c9.2.2.2.2.2 = 0 := id rfl
def mJ9_min_7cf53 : zM := (yJ9_min_7cf53, cJ9_min_7cf53, 2, (some .int), 0, 0)
theorem mJ9_min_7cf53_b : mJ9_min_7cf53.2.1 = cJ9_min_7cf53 := id rfl
theorem mJ9_min_7cf53_r : mJ9_min_7cf53.2.2.2.1 = (some .int) := id rfl
theorem mJ9_min_7cf53_c : mJ9_min_7cf53.2.2.2.2.1 = 0 := id rfl
theorem mJ9_min_7cf53_s : mJ9_min_7cf53.2.2.2.2.2 = 0 := id rfl
def mJ0_charAt_5068e : zM := (yJ0_charAt_5068e, cJ0_charAt_5068e, 2, (some .char), 0, 0)
theorem mJ0_charAt_5068e_b : mJ0_charAt_5068e.2.1 = cJ0_charAt_5068e := id rfl
theorem mJ0_charAt_5068e_r : mJ0_charAt_5068e.2.2.2.1 = (some .char) := id rfl
theorem mJ0_charAt_5068e_c : mJ0_charAt_5068e.2.2.2.2.1 = 0 := id rfl
theorem mJ0_charAt_5068e_s : mJ0_charAt_5068e.2.2.2.2.2 = 0 := id rfl
def mJ0_checkIndex_df160 : zM := (yJ0_checkIndex_df160, cJ0_checkIndex_df160, 2, none, 0, 0)
theorem mJ0_checkIndex_df160_b : mJ0_checkIndex_df160.2.1 = cJ0_checkIndex_df160 := id rfl
theorem mJ0_checkIndex_df160_r : mJ0_checkIndex_df160.2.2.2.1 = none := id rfl
theorem mJ0_checkIndex_df160_c : mJ0_checkIndex_df160.2.2.2.2.1 = 0 := id rfl
theorem mJ0_checkIndex_df160_s : mJ0_checkIndex_df160.2.2.2.2.2 = 0 := id rfl
def mJ0_coder_7d493 : zM := (yJ0_coder_7d493, cJ0_coder_7d493, 1, (some .byte), 0, 0)
theorem mJ0_coder_7d493_b : mJ0_coder_7d493.2.1 = cJ0_coder_7d493 := id rfl
theorem mJ0_coder_7d493_r : mJ0_coder_7d493.2.2.2.1 = (some .byte) := id rfl
theorem mJ0_coder_7d493_c : mJ0_coder_7d493.2.2.2.2.1 = 0 := id rfl
theorem mJ0_coder_7d493_s : mJ0_coder_7d493.2.2.2.2.2 = 0 := id rfl
def mJ0_isLatin1_aae02 : zM := (yJ0_isLatin1_aae02, cJ0_isLatin1_aae02, 1, (some .boolean), 0, 0)
theorem mJ0_isLatin1_aae02_b : mJ0_isLatin1_aae02.2.1 = cJ0_isLatin1_aae02 := id rfl
theorem mJ0_isLatin1_aae02_r : mJ0_isLatin1_aae02.2.2.2.1 = (some .boolean) := id rfl
theorem mJ0_isLatin1_aae02_c : mJ0_isLatin1_aae02.2.2.2.2.1 = 0 := id rfl
theorem mJ0_isLatin1_aae02_s : mJ0_isLatin1_aae02.2.2.2.2.2 = 0 := id rfl
def mJ0_length_8abf5 : zM := (yJ0_length_8abf5, cJ0_length_8abf5, 1, (some .int), 0, 0)
theorem mJ0_length_8abf5_b : mJ0_length_8abf5.2.1 = cJ0_length_8abf5 := id rfl
theorem mJ0_length_8abf5_r : mJ0_length_8abf5.2.2.2.1 = (some .int) := id rfl
theorem mJ0_length_8abf5_c : mJ0_length_8abf5.2.2.2.2.1 = 0 := id rfl
theorem mJ0_length_8abf5_s : mJ0_length_8abf5.2.2.2.2.2 = 0 := id rfl
def mJ1_charAt_3b067 : zM := (yJ1_charAt_3b067, cJ1_charAt_3b067, 2, (some .char), 0, 0)
theorem mJ1_charAt_3b067_b : mJ1_charAt_3b067.2.1 = cJ1_charAt_3b067 := id rfl
theorem mJ1_charAt_3b067_r : mJ1_charAt_3b067.2.2.2.1 = (some .char) := id rfl
theorem mJ1_charAt_3b067_c : mJ1_charAt_3b067.2.2.2.2.1 = 0 := id rfl
theorem mJ1_charAt_3b067_s : mJ1_charAt_3b067.2.2.2.2.2 = 0 := id rfl
def mJ2_charAt_3b067 : zM := (yJ2_charAt_3b067, cJ2_charAt_3b067, 2, (some .char), 0, 0)
theorem mJ2_charAt_3b067_b : mJ2_charAt_3b067.2.1 = cJ2_charAt_3b067 := id rfl
theorem mJ2_charAt_3b067_r : mJ2_charAt_3b067.2.2.2.1 = (some .char) := id rfl
theorem mJ2_charAt_3b067_c : mJ2_charAt_3b067.2.2.2.2.1 = 0 := id rfl
theorem mJ2_charAt_3b067_s : mJ2_charAt_3b067.2.2.2.2.2 = 0 := id rfl
def mJ2_checkIndex_2214a : zM := (yJ2_checkIndex_2214a, cJ2_checkIndex_2214a, 2, none, 0, 0)
theorem mJ2_checkIndex_2214a_b : mJ2_checkIndex_2214a.2.1 = cJ2_checkIndex_2214a := id rfl
theorem mJ2_checkIndex_2214a_r : mJ2_checkIndex_2214a.2.2.2.1 = none := id rfl
theorem mJ2_checkIndex_2214a_c : mJ2_checkIndex_2214a.2.2.2.2.1 = 0 := id rfl
theorem mJ2_checkIndex_2214a_s : mJ2_checkIndex_2214a.2.2.2.2.2 = 0 := id rfl
def mJ2_getChar_3b067 : zM := (yJ2_getChar_3b067, cJ2_getChar_3b067, 2, (some .char), 0, 0)
theorem mJ2_getChar_3b067_b : mJ2_getChar_3b067.2.1 = cJ2_getChar_3b067 := id rfl
theorem mJ2_getChar_3b067_r : mJ2_getChar_3b067.2.2.2.1 = (some .char) := id rfl
theorem mJ2_getChar_3b067_c : mJ2_getChar_3b067.2.2.2.2.1 = 0 := id rfl
theorem mJ2_getChar_3b067_s : mJ2_getChar_3b067.2.2.2.2.2 = 0 := id rfl
def mJ2_length_9d52b : zM := (yJ2_length_9d52b, cJ2_length_9d52b, 1, (some .int), 0, 0)
theorem mJ2_length_9d52b_b : mJ2_length_9d52b.2.1 = cJ2_length_9d52b := id rfl
theorem mJ2_length_9d52b_r : mJ2_length_9d52b.2.2.2.1 = (some .int) := id rfl
theorem mJ2_length_9d52b_c : mJ2_length_9d52b.2.2.2.2.1 = 0 := id rfl
theorem mJ2_length_9d52b_s : mJ2_length_9d52b.2.2.2.2.2 = 0 := id rfl
def mJ3_checkIndex_8e157 : zM := (yJ3_checkIndex_8e157, cJ3_checkIndex_8e157, 3, (some .int), 0, 0)
theorem mJ3_checkIndex_8e157_b : mJ3_checkIndex_8e157.2.1 = cJ3_checkIndex_8e157 := id rfl
theorem mJ3_checkIndex_8e157_r : mJ3_checkIndex_8e157.2.2.2.1 = (some .int) := id rfl
theorem mJ3_checkIndex_8e157_c : mJ3_checkIndex_8e157.2.2.2.2.1 = 0 := id rfl
theorem mJ3_checkIndex_8e157_s : mJ3_checkIndex_8e157.2.2.2.2.2 = 0 := id rfl
/-- the method links: the method, how it is called (0 by its object, 1 static, 2 a constructor, 3 Object's, 10 .. the JDK's), the kind of its object, its arguments -/
def zml0 : Nat → Option (zM × Nat × Nat × Nat)
  | 3 => some (mX3_init, 3, 0, 0)
  | 31 => some (mX9_hasPiece, 0, 9, 1)
  | 44 => some (mX0_choose, 0, 1, 4)
  | 52 => some (mX0_tryHouse, 0, 1, 5)
  | 56 => some (mX10_isWithin, 1, 10, 3)
  | 63 => some (mX6_hasBid, 0, 6, 1)
  | 79 => some (mX6_bidCost, 0, 6, 2)
  | _ => none
def zml1 : Nat → Option (zM × Nat × Nat × Nat)
  | 3 => some (mX3_init, 3, 0, 0)
  | 11 => some (mX8_init, 2, 8, 0)
  | 32 => some (mX8_begin, 0, 8, 1)
  | 36 => some (mX1_statements, 0, 2, 1)
  | 43 => some (mX1_refuse, 0, 2, 1)
  | 46 => some (mX1_emit, 0, 2, 2)
  | 56 => some (mX8_takesSign, 0, 8, 1)
  | 59 => some (mX8_isSign, 0, 8, 1)
  | 62 => some (mX8_advance, 0, 8, 0)
  | 65 => some (mX1_statement, 0, 2, 1)
  | 68 => some (mX8_variable, 0, 8, 0)
  | 72 => some (mX1_expect, 0, 2, 1)
  | 75 => some (mX1_expression, 0, 2, 2)
  | 80 => some (mX8_takesWord, 0, 8, 1)
  | 84 => some (mX1_enclosed, 0, 2, 3)
  | 92 => some (mX1_loop, 0, 2, 1)
  | 97 => some (mX1_branch, 0, 2, 1)
  | 100 => some (mX1_block, 0, 2, 1)
  | 103 => some (mX1_aim, 0, 2, 1)
  | 108 => some (mX1_opens, 0, 2, 2)
  | 111 => some (mX1_operand, 0, 2, 2)
  | 114 => some (mX1_signKind, 0, 2, 0)
  | 117 => some (mX1_signLevel, 1, 2, 1)
  | 121 => some (mX1_unit, 0, 2, 1)
  | 124 => some (mX1_number, 0, 2, 0)
  | _ => none
def zml2 : Nat → Option (zM × Nat × Nat × Nat)
  | 3 => some (mX3_init, 3, 0, 0)
  | 11 => some (mX5_init, 2, 5, 0)
  | 28 => some (mX3_init, 2, 4, 0)
  | 29 => some (mX10_isWithin, 1, 10, 3)
  | 40 => some (mX9_hasPiece, 0, 9, 1)
  | 55 => some (mX5_sumOf, 0, 5, 2)
  | 69 => some (mX7_begin, 0, 7, 2)
  | 78 => some (mX7_setStart, 0, 7, 2)
  | 84 => some (mX7_setEnd, 0, 7, 3)
  | 88 => some (mX7_isNarrow, 0, 7, 0)
  | 107 => some (mX2_settle, 0, 3, 4)
  | 117 => some (mX2_countLie, 0, 3, 1)
  | 124 => some (mX2_reward, 0, 3, 2)
  | 127 => some (mX2_stay, 0, 3, 2)
  | 134 => some (mX2_makeVoid, 0, 3, 2)
  | 139 => some (mX2_pay, 0, 3, 2)
  | 142 => some (mX2_keep, 0, 3, 1)
  | 152 => some (mX2_reopen, 0, 3, 2)
  | 156 => some (mX2_hangsOnAhead, 1, 3, 1)
  | 160 => some (mX2_returnPledges, 0, 3, 1)
  | 164 => some (mX6_reopen, 0, 6, 0)
  | _ => none
def zml3 : Nat → Option (zM × Nat × Nat × Nat)
  | 1 => some (mX3_init, 3, 0, 0)
  | _ => none
def zml4 : Nat → Option (zM × Nat × Nat × Nat)
  | 9 => some (mX8_begin, 0, 8, 1)
  | 17 => some (mX8_isWord, 0, 8, 1)
  | 21 => some (mX8_advance, 0, 8, 0)
  | 24 => some (mX4_terms, 1, 0, 1)
  | 37 => some (mX4_term, 1, 0, 1)
  | 40 => some (mX8_isSign, 0, 8, 1)
  | 44 => some (mX8_takesSign, 0, 8, 1)
  | 47 => some (mX8_takesNumber, 0, 8, 0)
  | 53 => some (mX8_takesWord, 0, 8, 1)
  | _ => none
def zml5 : Nat → Option (zM × Nat × Nat × Nat)
  | 3 => some (mX3_init, 3, 0, 0)
  | 29 => some (mX5_clear, 0, 5, 0)
  | 37 => some (mX5_runTo, 0, 5, 2)
  | 41 => some (mX5_isHalted, 0, 5, 1)
  | 45 => some (mX9_hasCode, 0, 9, 1)
  | 55 => some (mX5_step, 0, 5, 2)
  | 59 => some (mX5_show, 0, 5, 2)
  | 62 => some (mX10_isWithin, 1, 10, 3)
  | 66 => some (mX5_forget, 0, 5, 0)
  | 69 => some (mX9_partOf, 0, 9, 3)
  | 73 => some (mX5_push, 0, 5, 1)
  | 77 => some (mX5_pop, 0, 5, 0)
  | 81 => some (mX5_putOut, 0, 5, 1)
  | 84 => some (mX5_worked, 1, 5, 3)
  | 87 => some (mX5_pageSum, 0, 5, 1)
  | 91 => some (mX10_joined, 1, 10, 2)
  | 95 => some (mX5_besideOf, 0, 5, 2)
  | _ => none
def zml6 : Nat → Option (zM × Nat × Nat × Nat)
  | 3 => some (mX3_init, 3, 0, 0)
  | 11 => some (mX7_init, 2, 7, 0)
  | 50 => some (mX10_isWithin, 1, 10, 3)
  | 74 => some (mJ9_max_f86c9, 12, 0, 2)
  | _ => none
def zml7 : Nat → Option (zM × Nat × Nat × Nat)
  | 3 => some (mX3_init, 3, 0, 0)
  | 15 => some (mX7_ask, 0, 7, 1)
  | 50 => some (mX7_halve, 0, 7, 0)
  | 53 => some (mX7_middle, 0, 7, 0)
  | 57 => some (mX7_setStart, 0, 7, 2)
  | 61 => some (mX7_setEnd, 0, 7, 3)
  | _ => none
def zml8 : Nat → Option (zM × Nat × Nat × Nat)
  | 3 => some (mX3_init, 3, 0, 0)
  | 19 => some (mJ9_min_7cf53, 11, 0, 2)
  | 31 => some (mX8_advance, 0, 8, 0)
  | 43 => some (mX8_isDigit, 1, 8, 1)
  | 47 => some (mX8_readNumber, 0, 8, 0)
  | 50 => some (mX8_isLetter, 1, 8, 1)
  | 53 => some (mX8_readWord, 0, 8, 0)
  | 57 => some (mJ0_length_8abf5, 20, 0, 0)
  | 63 => some (mJ0_charAt_5068e, 21, 0, 1)
  | 67 => some (mX8_isSign, 0, 8, 1)
  | 70 => some (mX8_isWord, 0, 8, 1)
  | _ => none
def zml9 : Nat → Option (zM × Nat × Nat × Nat)
  | 3 => some (mX3_init, 3, 0, 0)
  | 32 => some (mX6_init, 2, 6, 0)
  | 39 => some (mJ9_min_7cf53, 11, 0, 2)
  | _ => none
def zml10 : Nat → Option (zM × Nat × Nat × Nat)
  | 1 => some (mX3_init, 3, 0, 0)
  | 9 => some (mX1_init, 2, 2, 0)
  | 18 => some (mX2_init, 2, 3, 0)
  | 25 => some (mX0_init, 2, 1, 0)
  | 40 => some (mX9_init, 2, 9, 0)
  | 50 => some (mX8_add, 0, 8, 1)
  | 55 => some (mX10_isWithin, 1, 10, 3)
  | 65 => some (mX1_compile, 0, 2, 1)
  | 72 => some (mX4_leaves, 1, 0, 2)
  | 78 => some (mX9_begin, 0, 9, 3)
  | 82 => some (mX10_taskAt, 0, 10, 1)
  | 86 => some (mX9_hasCode, 0, 9, 1)
  | 107 => some (mX5_forget, 0, 5, 0)
  | 112 => some (mX5_lengthOf, 0, 5, 1)
  | 116 => some (mX5_show, 0, 5, 2)
  | 123 => some (mX5_sumOf, 0, 5, 2)
  | 127 => some (mX5_besideOf, 0, 5, 2)
  | 131 => some (mX10_joined, 1, 10, 2)
  | 134 => some (mX5_climb, 0, 5, 2)
  | 137 => some (mX9_divide, 0, 9, 3)
  | 153 => some (mX10_houseAt, 0, 10, 1)
  | 166 => some (mX10_pieceAt, 0, 10, 2)
  | 179 => some (mX6_giveTo, 0, 6, 4)
  | 186 => some (mX6_dropBids, 0, 6, 0)
  | 199 => some (mX9_isEndToldAhead, 0, 9, 1)
  | 205 => some (mX2_beginQuarrel, 0, 3, 4)
  | 209 => some (mX2_judgeIfNarrow, 0, 3, 2)
  | 234 => some (mX7_middle, 0, 7, 0)
  | 240 => some (mX7_hasTold, 0, 7, 1)
  | 244 => some (mX7_tell, 0, 7, 3)
  | 252 => some (mX10_earliestDue, 0, 10, 0)
  | 255 => some (mJ9_min_7cf53, 11, 0, 2)
  | 260 => some (mJ9_max_7cf53, 10, 0, 2)
  | 263 => some (mX10_lapseWhatIsDue, 0, 10, 0)
  | 266 => some (mX6_hasBid, 0, 6, 1)
  | 269 => some (mX6_setBid, 0, 6, 4)
  | 272 => some (mX6_bidCost, 0, 6, 2)
  | 278 => some (mJ6_bitCount_0f7a4, 1, 0, 1)
  | 283 => some (mX0_findBest, 0, 1, 4)
  | 293 => some (mX0_houseFor, 0, 1, 1)
  | 302 => some (mX9_partOf, 0, 9, 3)
  | 306 => some (mX5_outOf, 0, 5, 2)
  | 309 => some (mX5_outOfPart, 0, 5, 4)
  | 316 => some (mX10_heldCoins, 0, 10, 0)
  | 319 => some (mX10_freeCoins, 0, 10, 0)
  | 326 => some (mX9_hasPiece, 0, 9, 1)
  | 334 => some (mX2_dueTick, 0, 3, 1)
  | 338 => some (mX2_lapse, 0, 3, 2)
  | 341 => some (mX6_heldCoins, 0, 6, 0)
  | _ => none
def zml11 : Nat → Option (zM × Nat × Nat × Nat)
  | 3 => some (mX3_init, 3, 0, 0)
  | 163 => some (mX11_byteAt, 0, 11, 1)
  | 170 => some (mX11_blanks, 0, 11, 0)
  | 173 => some (mJ0_length_8abf5, 20, 0, 0)
  | 179 => some (mJ0_charAt_5068e, 21, 0, 1)
  | 183 => some (mX11_isSmall, 1, 11, 1)
  | 187 => some (mX11_isWord, 0, 11, 1)
  | 191 => some (mX11_wrong, 0, 11, 2)
  | 198 => some (mX11_sign, 0, 11, 1)
  | 208 => some (mX11_adds, 0, 11, 0)
  | 211 => some (mX11_emits, 0, 11, 2)
  | 215 => some (mX11_product, 0, 11, 0)
  | 218 => some (mX11_unit, 0, 11, 0)
  | 221 => some (mX11_isDigit, 1, 11, 1)
  | 226 => some (mX11_figures, 0, 11, 0)
  | 229 => some (mX11_variable, 0, 11, 0)
  | 234 => some (mX11_eat, 0, 11, 1)
  | 237 => some (mX11_opens, 0, 11, 1)
  | 240 => some (mX11_expression, 0, 11, 0)
  | 243 => some (mX11_closes, 0, 11, 1)
  | 252 => some (mX11_statements, 0, 11, 0)
  | 255 => some (mX11_isStatement, 0, 11, 0)
  | 259 => some (mX11_statement, 0, 11, 0)
  | 262 => some (mX11_ended, 0, 11, 2)
  | 265 => some (mX11_braced, 0, 11, 0)
  | 268 => some (mX11_leads, 0, 11, 2)
  | 271 => some (mX11_branch, 0, 11, 0)
  | 276 => some (mX11_in, 1, 11, 3)
  | 280 => some (mX11_bad, 0, 11, 2)
  | 284 => some (mX11_isTask, 0, 11, 1)
  | 287 => some (mX11_partOf, 0, 11, 4)
  | 291 => some (mX11_takes, 0, 11, 0)
  | 294 => some (mX11_worked, 1, 11, 3)
  | 298 => some (mX11_lays, 0, 11, 1)
  | 301 => some (mX11_begins, 0, 11, 3)
  | 305 => some (mX11_goes, 0, 11, 1)
  | 308 => some (mX11_runs, 0, 11, 4)
  | 311 => some (mX11_lengthOf, 0, 11, 1)
  | 315 => some (mX11_pageSum, 0, 11, 1)
  | 318 => some (mX11_joined, 1, 11, 2)
  | 321 => some (mX11_sums, 0, 11, 2)
  | 324 => some (mX11_sumOf, 0, 11, 2)
  | 327 => some (mX11_firstOf, 0, 11, 1)
  | 333 => some (mX11_isHouse, 0, 11, 1)
  | 336 => some (mX11_isPiece, 0, 11, 2)
  | 343 => some (mX11_dropBid, 0, 11, 2)
  | 346 => some (mX11_lastOf, 0, 11, 1)
  | 349 => some (mX11_asks, 0, 11, 1)
  | 352 => some (mX11_judges, 0, 11, 1)
  | 355 => some (mX11_over, 0, 11, 3)
  | 362 => some (mX11_voided, 0, 11, 1)
  | 365 => some (mX11_stays, 0, 11, 1)
  | 368 => some (mX11_frees, 0, 11, 1)
  | 372 => some (mX11_passes, 0, 11, 1)
  | 380 => some (mX11_costOf, 0, 11, 2)
  | 390 => some (mX11_chooses, 0, 11, 5)
  | 399 => some (mX11_byteOf, 0, 11, 2)
  | 402 => some (mX11_next, 0, 11, 1)
  | 405 => some (mX11_numbers, 0, 11, 1)
  | 408 => some (mX11_eats, 0, 11, 2)
  | 411 => some (mX11_isOut, 0, 11, 1)
  | 414 => some (mX11_isPart, 0, 11, 1)
  | 417 => some (mX11_isLine, 0, 11, 1)
  | 420 => some (mX11_outOf, 0, 11, 4)
  | 423 => some (mX11_held, 0, 11, 0)
  | _ => none
def zml12 : Nat → Option (zM × Nat × Nat × Nat)
  | 7 => some (mX10_task, 0, 10, 2)
  | 15 => some (mX10_code, 0, 10, 3)
  | 21 => some (mX10_memory, 0, 10, 3)
  | 24 => some (mX10_length, 0, 10, 1)
  | 28 => some (mX10_cell, 0, 10, 3)
  | 31 => some (mX10_sum, 0, 10, 2)
  | 34 => some (mX10_beside, 0, 10, 4)
  | 38 => some (mX10_shown, 0, 10, 4)
  | 42 => some (mX10_cut, 0, 10, 2)
  | 45 => some (mX10_house, 0, 10, 1)
  | 48 => some (mX10_told, 0, 10, 2)
  | 51 => some (mX10_rule, 0, 10, 2)
  | 54 => some (mX10_give, 0, 10, 6)
  | 58 => some (mX10_claim, 0, 10, 3)
  | 61 => some (mX10_doubt, 0, 10, 4)
  | 64 => some (mX10_piece, 0, 10, 3)
  | 67 => some (mX10_answer, 0, 10, 4)
  | 71 => some (mX10_tick, 0, 10, 1)
  | 76 => some (mX10_trial, 0, 10, 4)
  | 79 => some (mX10_bid, 0, 10, 6)
  | 82 => some (mX10_cost, 0, 10, 3)
  | 86 => some (mX10_chosen, 0, 10, 4)
  | 90 => some (mX10_linear, 0, 10, 1)
  | 93 => some (mX10_lot, 0, 10, 4)
  | 96 => some (mX10_part, 0, 10, 4)
  | 99 => some (mX10_out, 0, 10, 3)
  | 102 => some (mX10_purse, 0, 10, 1)
  | 105 => some (mX10_init, 2, 10, 0)
  | 108 => some (mX11_init, 2, 11, 0)
  | 109 => some (mX10_feed, 0, 10, 5)
  | 113 => some (mX11_feed, 0, 11, 5)
  | 114 => some (mL_task, 5, 0, 4)
  | 119 => some (mX11_task, 0, 11, 2)
  | 120 => some (mX11_thrown, 0, 11, 0)
  | 124 => some (mX10_fault, 0, 10, 0)
  | 127 => some (mX11_fault, 0, 11, 0)
  | 128 => some (mL_code, 5, 0, 5)
  | 131 => some (mX11_code, 0, 11, 3)
  | 132 => some (mL_memory, 5, 0, 5)
  | 134 => some (mX11_memory, 0, 11, 3)
  | 135 => some (mL_length, 5, 0, 3)
  | 138 => some (mX11_length, 0, 11, 1)
  | 139 => some (mL_cell, 5, 0, 5)
  | 141 => some (mX11_cell, 0, 11, 3)
  | 142 => some (mL_sum, 5, 0, 4)
  | 144 => some (mX11_sum, 0, 11, 2)
  | 145 => some (mL_beside, 5, 0, 6)
  | 148 => some (mX11_beside, 0, 11, 4)
  | 149 => some (mX10_both, 0, 10, 2)
  | 152 => some (mX11_both, 0, 11, 2)
  | 153 => some (mL_shown, 5, 0, 6)
  | 155 => some (mX11_shown, 0, 11, 4)
  | 156 => some (mL_cut, 5, 0, 4)
  | 158 => some (mX11_cut, 0, 11, 2)
  | 159 => some (mL_house, 5, 0, 3)
  | 161 => some (mX11_house, 0, 11, 1)
  | 162 => some (mL_told, 5, 0, 4)
  | 164 => some (mX11_told, 0, 11, 2)
  | 165 => some (mL_rule, 5, 0, 4)
  | 167 => some (mX11_rule, 0, 11, 2)
  | 168 => some (mL_give, 5, 0, 8)
  | 171 => some (mX11_give, 0, 11, 6)
  | 172 => some (mL_claim, 5, 0, 5)
  | 174 => some (mX11_claim, 0, 11, 3)
  | 175 => some (mL_doubt, 5, 0, 6)
  | 177 => some (mX11_doubt, 0, 11, 4)
  | 178 => some (mL_piece, 5, 0, 5)
  | 180 => some (mX11_piece, 0, 11, 3)
  | 181 => some (mL_answer, 5, 0, 6)
  | 184 => some (mX11_answer, 0, 11, 4)
  | 185 => some (mL_tick, 5, 0, 3)
  | 187 => some (mX11_tick, 0, 11, 1)
  | 188 => some (mL_trial, 5, 0, 6)
  | 190 => some (mX11_trial, 0, 11, 4)
  | 191 => some (mL_bid, 5, 0, 8)
  | 193 => some (mX11_bid, 0, 11, 6)
  | 194 => some (mL_cost, 5, 0, 5)
  | 196 => some (mX11_cost, 0, 11, 3)
  | 197 => some (mL_chosen, 5, 0, 6)
  | 199 => some (mX11_chosen, 0, 11, 4)
  | 200 => some (mL_linear, 5, 0, 3)
  | 202 => some (mX11_linear, 0, 11, 1)
  | 203 => some (mL_lot, 5, 0, 6)
  | 205 => some (mX11_lot, 0, 11, 4)
  | 206 => some (mL_part, 5, 0, 6)
  | 208 => some (mX11_part, 0, 11, 4)
  | 209 => some (mL_out, 5, 0, 5)
  | 211 => some (mX11_out, 0, 11, 3)
  | 212 => some (mX10_count, 0, 10, 1)
  | 215 => some (mX11_count, 0, 11, 1)
  | 216 => some (mL_purse, 5, 0, 3)
  | 218 => some (mX11_purse, 0, 11, 1)
  | _ => none
def zml (o : Nat) : Nat → Option (zM × Nat × Nat × Nat) := match o with
  | 0 => zml0
  | 1 => zml1
  | 2 => zml2
  | 3 => zml3
  | 4 => zml4
  | 5 => zml5
  | 6 => zml6
  | 7 => zml7
  | 8 => zml8
  | 9 => zml9
  | 10 => zml10
  | 11 => zml11
  | 12 => zml12
  | _ => fun _ => none
theorem zml_0_3 : zml 0 3 = some (mX3_init, 3, 0, 0) := id rfl
theorem zml_0_31 : zml 0 31 = some (mX9_hasPiece, 0, 9, 1) := id rfl
theorem zml_0_44 : zml 0 44 = some (mX0_choose, 0, 1, 4) := id rfl
theorem zml_0_52 : zml 0 52 = some (mX0_tryHouse, 0, 1, 5) := id rfl
theorem zml_0_56 : zml 0 56 = some (mX10_isWithin, 1, 10, 3) := id rfl
theorem zml_0_63 : zml 0 63 = some (mX6_hasBid, 0, 6, 1) := id rfl
theorem zml_0_79 : zml 0 79 = some (mX6_bidCost, 0, 6, 2) := id rfl
theorem zml_1_3 : zml 1 3 = some (mX3_init, 3, 0, 0) := id rfl
theorem zml_1_11 : zml 1 11 = some (mX8_init, 2, 8, 0) := id rfl
theorem zml_1_32 : zml 1 32 = some (mX8_begin, 0, 8, 1) := id rfl
theorem zml_1_36 : zml 1 36 = some (mX1_statements, 0, 2, 1) := id rfl
theorem zml_1_43 : zml 1 43 = some (mX1_refuse, 0, 2, 1) := id rfl
theorem zml_1_46 : zml 1 46 = some (mX1_emit, 0, 2, 2) := id rfl
theorem zml_1_56 : zml 1 56 = some (mX8_takesSign, 0, 8, 1) := id rfl
theorem zml_1_59 : zml 1 59 = some (mX8_isSign, 0, 8, 1) := id rfl
theorem zml_1_62 : zml 1 62 = some (mX8_advance, 0, 8, 0) := id rfl
theorem zml_1_65 : zml 1 65 = some (mX1_statement, 0, 2, 1) := id rfl
theorem zml_1_68 : zml 1 68 = some (mX8_variable, 0, 8, 0) := id rfl
theorem zml_1_72 : zml 1 72 = some (mX1_expect, 0, 2, 1) := id rfl
theorem zml_1_75 : zml 1 75 = some (mX1_expression, 0, 2, 2) := id rfl
theorem zml_1_80 : zml 1 80 = some (mX8_takesWord, 0, 8, 1) := id rfl
theorem zml_1_84 : zml 1 84 = some (mX1_enclosed, 0, 2, 3) := id rfl
theorem zml_1_92 : zml 1 92 = some (mX1_loop, 0, 2, 1) := id rfl
theorem zml_1_97 : zml 1 97 = some (mX1_branch, 0, 2, 1) := id rfl
theorem zml_1_100 : zml 1 100 = some (mX1_block, 0, 2, 1) := id rfl
theorem zml_1_103 : zml 1 103 = some (mX1_aim, 0, 2, 1) := id rfl
theorem zml_1_108 : zml 1 108 = some (mX1_opens, 0, 2, 2) := id rfl
theorem zml_1_111 : zml 1 111 = some (mX1_operand, 0, 2, 2) := id rfl
theorem zml_1_114 : zml 1 114 = some (mX1_signKind, 0, 2, 0) := id rfl
theorem zml_1_117 : zml 1 117 = some (mX1_signLevel, 1, 2, 1) := id rfl
theorem zml_1_121 : zml 1 121 = some (mX1_unit, 0, 2, 1) := id rfl
theorem zml_1_124 : zml 1 124 = some (mX1_number, 0, 2, 0) := id rfl
theorem zml_2_3 : zml 2 3 = some (mX3_init, 3, 0, 0) := id rfl
theorem zml_2_11 : zml 2 11 = some (mX5_init, 2, 5, 0) := id rfl
theorem zml_2_28 : zml 2 28 = some (mX3_init, 2, 4, 0) := id rfl
theorem zml_2_29 : zml 2 29 = some (mX10_isWithin, 1, 10, 3) := id rfl
theorem zml_2_40 : zml 2 40 = some (mX9_hasPiece, 0, 9, 1) := id rfl
theorem zml_2_55 : zml 2 55 = some (mX5_sumOf, 0, 5, 2) := id rfl
theorem zml_2_69 : zml 2 69 = some (mX7_begin, 0, 7, 2) := id rfl
theorem zml_2_78 : zml 2 78 = some (mX7_setStart, 0, 7, 2) := id rfl
theorem zml_2_84 : zml 2 84 = some (mX7_setEnd, 0, 7, 3) := id rfl
theorem zml_2_88 : zml 2 88 = some (mX7_isNarrow, 0, 7, 0) := id rfl
theorem zml_2_107 : zml 2 107 = some (mX2_settle, 0, 3, 4) := id rfl
theorem zml_2_117 : zml 2 117 = some (mX2_countLie, 0, 3, 1) := id rfl
theorem zml_2_124 : zml 2 124 = some (mX2_reward, 0, 3, 2) := id rfl
theorem zml_2_127 : zml 2 127 = some (mX2_stay, 0, 3, 2) := id rfl
theorem zml_2_134 : zml 2 134 = some (mX2_makeVoid, 0, 3, 2) := id rfl
theorem zml_2_139 : zml 2 139 = some (mX2_pay, 0, 3, 2) := id rfl
theorem zml_2_142 : zml 2 142 = some (mX2_keep, 0, 3, 1) := id rfl
theorem zml_2_152 : zml 2 152 = some (mX2_reopen, 0, 3, 2) := id rfl
theorem zml_2_156 : zml 2 156 = some (mX2_hangsOnAhead, 1, 3, 1) := id rfl
theorem zml_2_160 : zml 2 160 = some (mX2_returnPledges, 0, 3, 1) := id rfl
theorem zml_2_164 : zml 2 164 = some (mX6_reopen, 0, 6, 0) := id rfl
theorem zml_3_1 : zml 3 1 = some (mX3_init, 3, 0, 0) := id rfl
theorem zml_4_9 : zml 4 9 = some (mX8_begin, 0, 8, 1) := id rfl
theorem zml_4_17 : zml 4 17 = some (mX8_isWord, 0, 8, 1) := id rfl
theorem zml_4_21 : zml 4 21 = some (mX8_advance, 0, 8, 0) := id rfl
theorem zml_4_24 : zml 4 24 = some (mX4_terms, 1, 0, 1) := id rfl
theorem zml_4_37 : zml 4 37 = some (mX4_term, 1, 0, 1) := id rfl
theorem zml_4_40 : zml 4 40 = some (mX8_isSign, 0, 8, 1) := id rfl
theorem zml_4_44 : zml 4 44 = some (mX8_takesSign, 0, 8, 1) := id rfl
theorem zml_4_47 : zml 4 47 = some (mX8_takesNumber, 0, 8, 0) := id rfl
theorem zml_4_53 : zml 4 53 = some (mX8_takesWord, 0, 8, 1) := id rfl
theorem zml_5_3 : zml 5 3 = some (mX3_init, 3, 0, 0) := id rfl
theorem zml_5_29 : zml 5 29 = some (mX5_clear, 0, 5, 0) := id rfl
theorem zml_5_37 : zml 5 37 = some (mX5_runTo, 0, 5, 2) := id rfl
theorem zml_5_41 : zml 5 41 = some (mX5_isHalted, 0, 5, 1) := id rfl
theorem zml_5_45 : zml 5 45 = some (mX9_hasCode, 0, 9, 1) := id rfl
theorem zml_5_55 : zml 5 55 = some (mX5_step, 0, 5, 2) := id rfl
theorem zml_5_59 : zml 5 59 = some (mX5_show, 0, 5, 2) := id rfl
theorem zml_5_62 : zml 5 62 = some (mX10_isWithin, 1, 10, 3) := id rfl
theorem zml_5_66 : zml 5 66 = some (mX5_forget, 0, 5, 0) := id rfl
theorem zml_5_69 : zml 5 69 = some (mX9_partOf, 0, 9, 3) := id rfl
theorem zml_5_73 : zml 5 73 = some (mX5_push, 0, 5, 1) := id rfl
theorem zml_5_77 : zml 5 77 = some (mX5_pop, 0, 5, 0) := id rfl
theorem zml_5_81 : zml 5 81 = some (mX5_putOut, 0, 5, 1) := id rfl
theorem zml_5_84 : zml 5 84 = some (mX5_worked, 1, 5, 3) := id rfl
theorem zml_5_87 : zml 5 87 = some (mX5_pageSum, 0, 5, 1) := id rfl
theorem zml_5_91 : zml 5 91 = some (mX10_joined, 1, 10, 2) := id rfl
theorem zml_5_95 : zml 5 95 = some (mX5_besideOf, 0, 5, 2) := id rfl
theorem zml_6_3 : zml 6 3 = some (mX3_init, 3, 0, 0) := id rfl
theorem zml_6_11 : zml 6 11 = some (mX7_init, 2, 7, 0) := id rfl
theorem zml_6_50 : zml 6 50 = some (mX10_isWithin, 1, 10, 3) := id rfl
theorem zml_6_74 : zml 6 74 = some (mJ9_max_f86c9, 12, 0, 2) := id rfl
theorem zml_7_3 : zml 7 3 = some (mX3_init, 3, 0, 0) := id rfl
theorem zml_7_15 : zml 7 15 = some (mX7_ask, 0, 7, 1) := id rfl
theorem zml_7_50 : zml 7 50 = some (mX7_halve, 0, 7, 0) := id rfl
theorem zml_7_53 : zml 7 53 = some (mX7_middle, 0, 7, 0) := id rfl
theorem zml_7_57 : zml 7 57 = some (mX7_setStart, 0, 7, 2) := id rfl
theorem zml_7_61 : zml 7 61 = some (mX7_setEnd, 0, 7, 3) := id rfl
theorem zml_8_3 : zml 8 3 = some (mX3_init, 3, 0, 0) := id rfl
theorem zml_8_19 : zml 8 19 = some (mJ9_min_7cf53, 11, 0, 2) := id rfl
theorem zml_8_31 : zml 8 31 = some (mX8_advance, 0, 8, 0) := id rfl
theorem zml_8_43 : zml 8 43 = some (mX8_isDigit, 1, 8, 1) := id rfl
theorem zml_8_47 : zml 8 47 = some (mX8_readNumber, 0, 8, 0) := id rfl
theorem zml_8_50 : zml 8 50 = some (mX8_isLetter, 1, 8, 1) := id rfl
theorem zml_8_53 : zml 8 53 = some (mX8_readWord, 0, 8, 0) := id rfl
theorem zml_8_57 : zml 8 57 = some (mJ0_length_8abf5, 20, 0, 0) := id rfl
theorem zml_8_63 : zml 8 63 = some (mJ0_charAt_5068e, 21, 0, 1) := id rfl
theorem zml_8_67 : zml 8 67 = some (mX8_isSign, 0, 8, 1) := id rfl
theorem zml_8_70 : zml 8 70 = some (mX8_isWord, 0, 8, 1) := id rfl
theorem zml_9_3 : zml 9 3 = some (mX3_init, 3, 0, 0) := id rfl
theorem zml_9_32 : zml 9 32 = some (mX6_init, 2, 6, 0) := id rfl
theorem zml_9_39 : zml 9 39 = some (mJ9_min_7cf53, 11, 0, 2) := id rfl
theorem zml_10_1 : zml 10 1 = some (mX3_init, 3, 0, 0) := id rfl
theorem zml_10_9 : zml 10 9 = some (mX1_init, 2, 2, 0) := id rfl
theorem zml_10_18 : zml 10 18 = some (mX2_init, 2, 3, 0) := id rfl
theorem zml_10_25 : zml 10 25 = some (mX0_init, 2, 1, 0) := id rfl
theorem zml_10_40 : zml 10 40 = some (mX9_init, 2, 9, 0) := id rfl
theorem zml_10_50 : zml 10 50 = some (mX8_add, 0, 8, 1) := id rfl
theorem zml_10_55 : zml 10 55 = some (mX10_isWithin, 1, 10, 3) := id rfl
theorem zml_10_65 : zml 10 65 = some (mX1_compile, 0, 2, 1) := id rfl
theorem zml_10_72 : zml 10 72 = some (mX4_leaves, 1, 0, 2) := id rfl
theorem zml_10_78 : zml 10 78 = some (mX9_begin, 0, 9, 3) := id rfl
theorem zml_10_82 : zml 10 82 = some (mX10_taskAt, 0, 10, 1) := id rfl
theorem zml_10_86 : zml 10 86 = some (mX9_hasCode, 0, 9, 1) := id rfl
theorem zml_10_107 : zml 10 107 = some (mX5_forget, 0, 5, 0) := id rfl
theorem zml_10_112 : zml 10 112 = some (mX5_lengthOf, 0, 5, 1) := id rfl
theorem zml_10_116 : zml 10 116 = some (mX5_show, 0, 5, 2) := id rfl
theorem zml_10_123 : zml 10 123 = some (mX5_sumOf, 0, 5, 2) := id rfl
theorem zml_10_127 : zml 10 127 = some (mX5_besideOf, 0, 5, 2) := id rfl
theorem zml_10_131 : zml 10 131 = some (mX10_joined, 1, 10, 2) := id rfl
theorem zml_10_134 : zml 10 134 = some (mX5_climb, 0, 5, 2) := id rfl
theorem zml_10_137 : zml 10 137 = some (mX9_divide, 0, 9, 3) := id rfl
theorem zml_10_153 : zml 10 153 = some (mX10_houseAt, 0, 10, 1) := id rfl
theorem zml_10_166 : zml 10 166 = some (mX10_pieceAt, 0, 10, 2) := id rfl
theorem zml_10_179 : zml 10 179 = some (mX6_giveTo, 0, 6, 4) := id rfl
theorem zml_10_186 : zml 10 186 = some (mX6_dropBids, 0, 6, 0) := id rfl
theorem zml_10_199 : zml 10 199 = some (mX9_isEndToldAhead, 0, 9, 1) := id rfl
theorem zml_10_205 : zml 10 205 = some (mX2_beginQuarrel, 0, 3, 4) := id rfl
theorem zml_10_209 : zml 10 209 = some (mX2_judgeIfNarrow, 0, 3, 2) := id rfl
theorem zml_10_234 : zml 10 234 = some (mX7_middle, 0, 7, 0) := id rfl
theorem zml_10_240 : zml 10 240 = some (mX7_hasTold, 0, 7, 1) := id rfl
theorem zml_10_244 : zml 10 244 = some (mX7_tell, 0, 7, 3) := id rfl
theorem zml_10_252 : zml 10 252 = some (mX10_earliestDue, 0, 10, 0) := id rfl
theorem zml_10_255 : zml 10 255 = some (mJ9_min_7cf53, 11, 0, 2) := id rfl
theorem zml_10_260 : zml 10 260 = some (mJ9_max_7cf53, 10, 0, 2) := id rfl
theorem zml_10_263 : zml 10 263 = some (mX10_lapseWhatIsDue, 0, 10, 0) := id rfl
theorem zml_10_266 : zml 10 266 = some (mX6_hasBid, 0, 6, 1) := id rfl
theorem zml_10_269 : zml 10 269 = some (mX6_setBid, 0, 6, 4) := id rfl
theorem zml_10_272 : zml 10 272 = some (mX6_bidCost, 0, 6, 2) := id rfl
theorem zml_10_278 : zml 10 278 = some (mJ6_bitCount_0f7a4, 1, 0, 1) := id rfl
theorem zml_10_283 : zml 10 283 = some (mX0_findBest, 0, 1, 4) := id rfl
theorem zml_10_293 : zml 10 293 = some (mX0_houseFor, 0, 1, 1) := id rfl
theorem zml_10_302 : zml 10 302 = some (mX9_partOf, 0, 9, 3) := id rfl
theorem zml_10_306 : zml 10 306 = some (mX5_outOf, 0, 5, 2) := id rfl
theorem zml_10_309 : zml 10 309 = some (mX5_outOfPart, 0, 5, 4) := id rfl
theorem zml_10_316 : zml 10 316 = some (mX10_heldCoins, 0, 10, 0) := id rfl
theorem zml_10_319 : zml 10 319 = some (mX10_freeCoins, 0, 10, 0) := id rfl
theorem zml_10_326 : zml 10 326 = some (mX9_hasPiece, 0, 9, 1) := id rfl
theorem zml_10_334 : zml 10 334 = some (mX2_dueTick, 0, 3, 1) := id rfl
theorem zml_10_338 : zml 10 338 = some (mX2_lapse, 0, 3, 2) := id rfl
theorem zml_10_341 : zml 10 341 = some (mX6_heldCoins, 0, 6, 0) := id rfl
theorem zml_11_3 : zml 11 3 = some (mX3_init, 3, 0, 0) := id rfl
theorem zml_11_163 : zml 11 163 = some (mX11_byteAt, 0, 11, 1) := id rfl
theorem zml_11_170 : zml 11 170 = some (mX11_blanks, 0, 11, 0) := id rfl
theorem zml_11_173 : zml 11 173 = some (mJ0_length_8abf5, 20, 0, 0) := id rfl
theorem zml_11_179 : zml 11 179 = some (mJ0_charAt_5068e, 21, 0, 1) := id rfl
theorem zml_11_183 : zml 11 183 = some (mX11_isSmall, 1, 11, 1) := id rfl
theorem zml_11_187 : zml 11 187 = some (mX11_isWord, 0, 11, 1) := id rfl
theorem zml_11_191 : zml 11 191 = some (mX11_wrong, 0, 11, 2) := id rfl
theorem zml_11_198 : zml 11 198 = some (mX11_sign, 0, 11, 1) := id rfl
theorem zml_11_208 : zml 11 208 = some (mX11_adds, 0, 11, 0) := id rfl
theorem zml_11_211 : zml 11 211 = some (mX11_emits, 0, 11, 2) := id rfl
theorem zml_11_215 : zml 11 215 = some (mX11_product, 0, 11, 0) := id rfl
theorem zml_11_218 : zml 11 218 = some (mX11_unit, 0, 11, 0) := id rfl
theorem zml_11_221 : zml 11 221 = some (mX11_isDigit, 1, 11, 1) := id rfl
theorem zml_11_226 : zml 11 226 = some (mX11_figures, 0, 11, 0) := id rfl
theorem zml_11_229 : zml 11 229 = some (mX11_variable, 0, 11, 0) := id rfl
theorem zml_11_234 : zml 11 234 = some (mX11_eat, 0, 11, 1) := id rfl
theorem zml_11_237 : zml 11 237 = some (mX11_opens, 0, 11, 1) := id rfl
theorem zml_11_240 : zml 11 240 = some (mX11_expression, 0, 11, 0) := id rfl
theorem zml_11_243 : zml 11 243 = some (mX11_closes, 0, 11, 1) := id rfl
theorem zml_11_252 : zml 11 252 = some (mX11_statements, 0, 11, 0) := id rfl
theorem zml_11_255 : zml 11 255 = some (mX11_isStatement, 0, 11, 0) := id rfl
theorem zml_11_259 : zml 11 259 = some (mX11_statement, 0, 11, 0) := id rfl
theorem zml_11_262 : zml 11 262 = some (mX11_ended, 0, 11, 2) := id rfl
theorem zml_11_265 : zml 11 265 = some (mX11_braced, 0, 11, 0) := id rfl
theorem zml_11_268 : zml 11 268 = some (mX11_leads, 0, 11, 2) := id rfl
theorem zml_11_271 : zml 11 271 = some (mX11_branch, 0, 11, 0) := id rfl
theorem zml_11_276 : zml 11 276 = some (mX11_in, 1, 11, 3) := id rfl
theorem zml_11_280 : zml 11 280 = some (mX11_bad, 0, 11, 2) := id rfl
theorem zml_11_284 : zml 11 284 = some (mX11_isTask, 0, 11, 1) := id rfl
theorem zml_11_287 : zml 11 287 = some (mX11_partOf, 0, 11, 4) := id rfl
theorem zml_11_291 : zml 11 291 = some (mX11_takes, 0, 11, 0) := id rfl
theorem zml_11_294 : zml 11 294 = some (mX11_worked, 1, 11, 3) := id rfl
theorem zml_11_298 : zml 11 298 = some (mX11_lays, 0, 11, 1) := id rfl
theorem zml_11_301 : zml 11 301 = some (mX11_begins, 0, 11, 3) := id rfl
theorem zml_11_305 : zml 11 305 = some (mX11_goes, 0, 11, 1) := id rfl
theorem zml_11_308 : zml 11 308 = some (mX11_runs, 0, 11, 4) := id rfl
theorem zml_11_311 : zml 11 311 = some (mX11_lengthOf, 0, 11, 1) := id rfl
theorem zml_11_315 : zml 11 315 = some (mX11_pageSum, 0, 11, 1) := id rfl
theorem zml_11_318 : zml 11 318 = some (mX11_joined, 1, 11, 2) := id rfl
theorem zml_11_321 : zml 11 321 = some (mX11_sums, 0, 11, 2) := id rfl
theorem zml_11_324 : zml 11 324 = some (mX11_sumOf, 0, 11, 2) := id rfl
theorem zml_11_327 : zml 11 327 = some (mX11_firstOf, 0, 11, 1) := id rfl
theorem zml_11_333 : zml 11 333 = some (mX11_isHouse, 0, 11, 1) := id rfl
theorem zml_11_336 : zml 11 336 = some (mX11_isPiece, 0, 11, 2) := id rfl
theorem zml_11_343 : zml 11 343 = some (mX11_dropBid, 0, 11, 2) := id rfl
theorem zml_11_346 : zml 11 346 = some (mX11_lastOf, 0, 11, 1) := id rfl
theorem zml_11_349 : zml 11 349 = some (mX11_asks, 0, 11, 1) := id rfl
theorem zml_11_352 : zml 11 352 = some (mX11_judges, 0, 11, 1) := id rfl
theorem zml_11_355 : zml 11 355 = some (mX11_over, 0, 11, 3) := id rfl
theorem zml_11_362 : zml 11 362 = some (mX11_voided, 0, 11, 1) := id rfl
theorem zml_11_365 : zml 11 365 = some (mX11_stays, 0, 11, 1) := id rfl
theorem zml_11_368 : zml 11 368 = some (mX11_frees, 0, 11, 1) := id rfl
theorem zml_11_372 : zml 11 372 = some (mX11_passes, 0, 11, 1) := id rfl
theorem zml_11_380 : zml 11 380 = some (mX11_costOf, 0, 11, 2) := id rfl
theorem zml_11_390 : zml 11 390 = some (mX11_chooses, 0, 11, 5) := id rfl
theorem zml_11_399 : zml 11 399 = some (mX11_byteOf, 0, 11, 2) := id rfl
theorem zml_11_402 : zml 11 402 = some (mX11_next, 0, 11, 1) := id rfl
theorem zml_11_405 : zml 11 405 = some (mX11_numbers, 0, 11, 1) := id rfl
theorem zml_11_408 : zml 11 408 = some (mX11_eats, 0, 11, 2) := id rfl
theorem zml_11_411 : zml 11 411 = some (mX11_isOut, 0, 11, 1) := id rfl
theorem zml_11_414 : zml 11 414 = some (mX11_isPart, 0, 11, 1) := id rfl
theorem zml_11_417 : zml 11 417 = some (mX11_isLine, 0, 11, 1) := id rfl
theorem zml_11_420 : zml 11 420 = some (mX11_outOf, 0, 11, 4) := id rfl
theorem zml_11_423 : zml 11 423 = some (mX11_held, 0, 11, 0) := id rfl
theorem zml_12_7 : zml 12 7 = some (mX10_task, 0, 10, 2) := id rfl
theorem zml_12_15 : zml 12 15 = some (mX10_code, 0, 10, 3) := id rfl
theorem zml_12_21 : zml 12 21 = some (mX10_memory, 0, 10, 3) := id rfl
theorem zml_12_24 : zml 12 24 = some (mX10_length, 0, 10, 1) := id rfl
theorem zml_12_28 : zml 12 28 = some (mX10_cell, 0, 10, 3) := id rfl
theorem zml_12_31 : zml 12 31 = some (mX10_sum, 0, 10, 2) := id rfl
theorem zml_12_34 : zml 12 34 = some (mX10_beside, 0, 10, 4) := id rfl
theorem zml_12_38 : zml 12 38 = some (mX10_shown, 0, 10, 4) := id rfl
theorem zml_12_42 : zml 12 42 = some (mX10_cut, 0, 10, 2) := id rfl
theorem zml_12_45 : zml 12 45 = some (mX10_house, 0, 10, 1) := id rfl
theorem zml_12_48 : zml 12 48 = some (mX10_told, 0, 10, 2) := id rfl
theorem zml_12_51 : zml 12 51 = some (mX10_rule, 0, 10, 2) := id rfl
theorem zml_12_54 : zml 12 54 = some (mX10_give, 0, 10, 6) := id rfl
theorem zml_12_58 : zml 12 58 = some (mX10_claim, 0, 10, 3) := id rfl
theorem zml_12_61 : zml 12 61 = some (mX10_doubt, 0, 10, 4) := id rfl
theorem zml_12_64 : zml 12 64 = some (mX10_piece, 0, 10, 3) := id rfl
theorem zml_12_67 : zml 12 67 = some (mX10_answer, 0, 10, 4) := id rfl
theorem zml_12_71 : zml 12 71 = some (mX10_tick, 0, 10, 1) := id rfl
theorem zml_12_76 : zml 12 76 = some (mX10_trial, 0, 10, 4) := id rfl
theorem zml_12_79 : zml 12 79 = some (mX10_bid, 0, 10, 6) := id rfl
theorem zml_12_82 : zml 12 82 = some (mX10_cost, 0, 10, 3) := id rfl
theorem zml_12_86 : zml 12 86 = some (mX10_chosen, 0, 10, 4) := id rfl
theorem zml_12_90 : zml 12 90 = some (mX10_linear, 0, 10, 1) := id rfl
theorem zml_12_93 : zml 12 93 = some (mX10_lot, 0, 10, 4) := id rfl
theorem zml_12_96 : zml 12 96 = some (mX10_part, 0, 10, 4) := id rfl
theorem zml_12_99 : zml 12 99 = some (mX10_out, 0, 10, 3) := id rfl
theorem zml_12_102 : zml 12 102 = some (mX10_purse, 0, 10, 1) := id rfl
theorem zml_12_105 : zml 12 105 = some (mX10_init, 2, 10, 0) := id rfl
theorem zml_12_108 : zml 12 108 = some (mX11_init, 2, 11, 0) := id rfl
theorem zml_12_109 : zml 12 109 = some (mX10_feed, 0, 10, 5) := id rfl
theorem zml_12_113 : zml 12 113 = some (mX11_feed, 0, 11, 5) := id rfl
theorem zml_12_114 : zml 12 114 = some (mL_task, 5, 0, 4) := id rfl
theorem zml_12_119 : zml 12 119 = some (mX11_task, 0, 11, 2) := id rfl
theorem zml_12_120 : zml 12 120 = some (mX11_thrown, 0, 11, 0) := id rfl
theorem zml_12_124 : zml 12 124 = some (mX10_fault, 0, 10, 0) := id rfl
theorem zml_12_127 : zml 12 127 = some (mX11_fault, 0, 11, 0) := id rfl
theorem zml_12_128 : zml 12 128 = some (mL_code, 5, 0, 5) := id rfl
theorem zml_12_131 : zml 12 131 = some (mX11_code, 0, 11, 3) := id rfl
theorem zml_12_132 : zml 12 132 = some (mL_memory, 5, 0, 5) := id rfl
theorem zml_12_134 : zml 12 134 = some (mX11_memory, 0, 11, 3) := id rfl
theorem zml_12_135 : zml 12 135 = some (mL_length, 5, 0, 3) := id rfl
theorem zml_12_138 : zml 12 138 = some (mX11_length, 0, 11, 1) := id rfl
theorem zml_12_139 : zml 12 139 = some (mL_cell, 5, 0, 5) := id rfl
theorem zml_12_141 : zml 12 141 = some (mX11_cell, 0, 11, 3) := id rfl
theorem zml_12_142 : zml 12 142 = some (mL_sum, 5, 0, 4) := id rfl
theorem zml_12_144 : zml 12 144 = some (mX11_sum, 0, 11, 2) := id rfl
theorem zml_12_145 : zml 12 145 = some (mL_beside, 5, 0, 6) := id rfl
theorem zml_12_148 : zml 12 148 = some (mX11_beside, 0, 11, 4) := id rfl
theorem zml_12_149 : zml 12 149 = some (mX10_both, 0, 10, 2) := id rfl
theorem zml_12_152 : zml 12 152 = some (mX11_both, 0, 11, 2) := id rfl
theorem zml_12_153 : zml 12 153 = some (mL_shown, 5, 0, 6) := id rfl
theorem zml_12_155 : zml 12 155 = some (mX11_shown, 0, 11, 4) := id rfl
theorem zml_12_156 : zml 12 156 = some (mL_cut, 5, 0, 4) := id rfl
theorem zml_12_158 : zml 12 158 = some (mX11_cut, 0, 11, 2) := id rfl
theorem zml_12_159 : zml 12 159 = some (mL_house, 5, 0, 3) := id rfl
theorem zml_12_161 : zml 12 161 = some (mX11_house, 0, 11, 1) := id rfl
theorem zml_12_162 : zml 12 162 = some (mL_told, 5, 0, 4) := id rfl
theorem zml_12_164 : zml 12 164 = some (mX11_told, 0, 11, 2) := id rfl
theorem zml_12_165 : zml 12 165 = some (mL_rule, 5, 0, 4) := id rfl
theorem zml_12_167 : zml 12 167 = some (mX11_rule, 0, 11, 2) := id rfl
theorem zml_12_168 : zml 12 168 = some (mL_give, 5, 0, 8) := id rfl
theorem zml_12_171 : zml 12 171 = some (mX11_give, 0, 11, 6) := id rfl
theorem zml_12_172 : zml 12 172 = some (mL_claim, 5, 0, 5) := id rfl
theorem zml_12_174 : zml 12 174 = some (mX11_claim, 0, 11, 3) := id rfl
theorem zml_12_175 : zml 12 175 = some (mL_doubt, 5, 0, 6) := id rfl
theorem zml_12_177 : zml 12 177 = some (mX11_doubt, 0, 11, 4) := id rfl
theorem zml_12_178 : zml 12 178 = some (mL_piece, 5, 0, 5) := id rfl
theorem zml_12_180 : zml 12 180 = some (mX11_piece, 0, 11, 3) := id rfl
theorem zml_12_181 : zml 12 181 = some (mL_answer, 5, 0, 6) := id rfl
theorem zml_12_184 : zml 12 184 = some (mX11_answer, 0, 11, 4) := id rfl
theorem zml_12_185 : zml 12 185 = some (mL_tick, 5, 0, 3) := id rfl
theorem zml_12_187 : zml 12 187 = some (mX11_tick, 0, 11, 1) := id rfl
theorem zml_12_188 : zml 12 188 = some (mL_trial, 5, 0, 6) := id rfl
theorem zml_12_190 : zml 12 190 = some (mX11_trial, 0, 11, 4) := id rfl
theorem zml_12_191 : zml 12 191 = some (mL_bid, 5, 0, 8) := id rfl
theorem zml_12_193 : zml 12 193 = some (mX11_bid, 0, 11, 6) := id rfl
theorem zml_12_194 : zml 12 194 = some (mL_cost, 5, 0, 5) := id rfl
theorem zml_12_196 : zml 12 196 = some (mX11_cost, 0, 11, 3) := id rfl
theorem zml_12_197 : zml 12 197 = some (mL_chosen, 5, 0, 6) := id rfl
theorem zml_12_199 : zml 12 199 = some (mX11_chosen, 0, 11, 4) := id rfl
theorem zml_12_200 : zml 12 200 = some (mL_linear, 5, 0, 3) := id rfl
theorem zml_12_202 : zml 12 202 = some (mX11_linear, 0, 11, 1) := id rfl
theorem zml_12_203 : zml 12 203 = some (mL_lot, 5, 0, 6) := id rfl
theorem zml_12_205 : zml 12 205 = some (mX11_lot, 0, 11, 4) := id rfl
theorem zml_12_206 : zml 12 206 = some (mL_part, 5, 0, 6) := id rfl
theorem zml_12_208 : zml 12 208 = some (mX11_part, 0, 11, 4) := id rfl
theorem zml_12_209 : zml 12 209 = some (mL_out, 5, 0, 5) := id rfl
theorem zml_12_211 : zml 12 211 = some (mX11_out, 0, 11, 3) := id rfl
theorem zml_12_212 : zml 12 212 = some (mX10_count, 0, 10, 1) := id rfl
theorem zml_12_215 : zml 12 215 = some (mX11_count, 0, 11, 1) := id rfl
theorem zml_12_216 : zml 12 216 = some (mL_purse, 5, 0, 3) := id rfl
theorem zml_12_218 : zml 12 218 = some (mX11_purse, 0, 11, 1) := id rfl
/-- the field links: class, place, tag (0 int, 1 long, 2 a reference, 3 boolean), final -/
def zfl0 : Nat → Option (Nat × Nat × Nat × Bool)
  | 9 => some (0, 0, 2, true)
  | 15 => some (0, 1, 2, true)
  | 18 => some (0, 2, 2, true)
  | 21 => some (0, 3, 2, true)
  | 24 => some (0, 4, 2, true)
  | 27 => some (0, 5, 0, false)
  | 37 => some (0, 6, 0, false)
  | 40 => some (0, 7, 3, false)
  | 48 => some (0, 8, 1, false)
  | 60 => some (8, 4, 2, true)
  | 68 => some (5, 2, 2, true)
  | 71 => some (5, 3, 2, true)
  | 74 => some (3, 0, 0, false)
  | _ => none
def zfl1 : Nat → Option (Nat × Nat × Nat × Bool)
  | 12 => some (1, 0, 2, true)
  | 18 => some (1, 1, 2, true)
  | 22 => some (1, 2, 2, true)
  | 25 => some (1, 3, 0, false)
  | 29 => some (1, 4, 0, false)
  | 40 => some (7, 4, 0, false)
  | 50 => some (7, 5, 0, false)
  | 53 => some (1, 5, 0, false)
  | 128 => some (7, 6, 0, false)
  | _ => none
def zfl2 : Nat → Option (Nat × Nat × Nat × Bool)
  | 12 => some (2, 0, 2, true)
  | 20 => some (2, 1, 2, true)
  | 24 => some (2, 2, 2, true)
  | 33 => some (3, 0, 0, false)
  | 37 => some (3, 2, 0, false)
  | 46 => some (8, 4, 2, true)
  | 50 => some (5, 11, 0, false)
  | 59 => some (5, 4, 0, false)
  | 62 => some (5, 0, 2, true)
  | 66 => some (2, 3, 0, false)
  | 75 => some (5, 9, 0, false)
  | 81 => some (5, 10, 0, false)
  | 92 => some (6, 1, 0, false)
  | 95 => some (6, 2, 0, false)
  | 98 => some (6, 3, 0, false)
  | 101 => some (6, 4, 0, false)
  | 104 => some (6, 5, 0, false)
  | 111 => some (6, 0, 0, false)
  | 114 => some (5, 5, 0, false)
  | 121 => some (5, 7, 0, false)
  | 131 => some (2, 4, 0, false)
  | 146 => some (5, 6, 0, false)
  | 149 => some (3, 1, 0, false)
  | 163 => some (8, 7, 0, false)
  | 166 => some (5, 8, 0, false)
  | 169 => some (5, 12, 0, false)
  | 172 => some (6, 6, 0, false)
  | 176 => some (6, 7, 3, false)
  | 180 => some (6, 8, 3, false)
  | _ => none
def zfl3 : Nat → Option (Nat × Nat × Nat × Bool)
  | _ => none
def zfl4 : Nat → Option (Nat × Nat × Nat × Bool)
  | 30 => some (7, 5, 0, false)
  | 34 => some (7, 4, 0, false)
  | _ => none
def zfl5 : Nat → Option (Nat × Nat × Nat × Bool)
  | 9 => some (4, 0, 2, true)
  | 15 => some (4, 1, 2, true)
  | 18 => some (4, 2, 2, true)
  | 21 => some (4, 3, 2, false)
  | 25 => some (4, 4, 0, false)
  | 32 => some (8, 2, 2, true)
  | 49 => some (8, 0, 2, true)
  | 52 => some (8, 1, 2, true)
  | _ => none
def zfl6 : Nat → Option (Nat × Nat × Nat × Bool)
  | 12 => some (5, 0, 2, true)
  | 18 => some (5, 1, 2, true)
  | 22 => some (5, 2, 2, true)
  | 25 => some (5, 3, 2, true)
  | 28 => some (5, 5, 0, false)
  | 32 => some (5, 4, 0, false)
  | 35 => some (5, 6, 0, false)
  | 38 => some (5, 7, 0, false)
  | 41 => some (5, 8, 0, false)
  | 44 => some (5, 11, 0, false)
  | 47 => some (5, 13, 0, false)
  | 56 => some (5, 10, 0, false)
  | 59 => some (5, 9, 0, false)
  | 64 => some (3, 2, 0, false)
  | 71 => some (3, 1, 0, false)
  | _ => none
def zfl7 : Nat → Option (Nat × Nat × Nat × Bool)
  | 9 => some (6, 0, 0, false)
  | 19 => some (6, 1, 0, false)
  | 22 => some (6, 2, 0, false)
  | 25 => some (6, 3, 0, false)
  | 28 => some (6, 4, 0, false)
  | 31 => some (6, 5, 0, false)
  | 34 => some (6, 6, 0, false)
  | 37 => some (6, 7, 3, false)
  | 41 => some (6, 8, 3, false)
  | 44 => some (6, 9, 0, false)
  | 47 => some (6, 10, 0, false)
  | _ => none
def zfl8 : Nat → Option (Nat × Nat × Nat × Bool)
  | 9 => some (7, 0, 2, true)
  | 15 => some (7, 1, 0, false)
  | 25 => some (7, 2, 0, false)
  | 28 => some (7, 3, 0, false)
  | 34 => some (7, 5, 0, false)
  | 37 => some (7, 6, 0, false)
  | 40 => some (7, 4, 0, false)
  | _ => none
def zfl9 : Nat → Option (Nat × Nat × Nat × Bool)
  | 9 => some (8, 0, 2, true)
  | 15 => some (8, 1, 2, true)
  | 18 => some (8, 2, 2, true)
  | 23 => some (8, 3, 2, true)
  | 28 => some (8, 4, 2, true)
  | 33 => some (1, 3, 0, false)
  | 45 => some (8, 5, 0, false)
  | 46 => some (1, 1, 2, true)
  | 47 => some (1, 2, 2, true)
  | 48 => some (8, 6, 0, false)
  | 51 => some (8, 7, 0, false)
  | 54 => some (8, 8, 0, false)
  | 57 => some (5, 9, 0, false)
  | 60 => some (5, 10, 0, false)
  | 63 => some (5, 4, 0, false)
  | _ => none
def zfl10 : Nat → Option (Nat × Nat × Nat × Bool)
  | 10 => some (9, 0, 2, true)
  | 19 => some (9, 1, 2, true)
  | 26 => some (9, 2, 2, true)
  | 32 => some (9, 3, 2, true)
  | 36 => some (9, 7, 0, false)
  | 41 => some (1, 0, 2, true)
  | 45 => some (7, 1, 0, false)
  | 62 => some (9, 4, 0, false)
  | 69 => some (1, 5, 0, false)
  | 90 => some (8, 0, 2, true)
  | 94 => some (8, 1, 2, true)
  | 97 => some (8, 8, 0, false)
  | 100 => some (8, 2, 2, true)
  | 103 => some (2, 0, 2, true)
  | 120 => some (4, 0, 2, true)
  | 141 => some (9, 5, 0, false)
  | 144 => some (2, 1, 2, true)
  | 148 => some (3, 0, 0, false)
  | 157 => some (3, 1, 0, false)
  | 160 => some (3, 2, 0, false)
  | 163 => some (2, 2, 2, true)
  | 170 => some (5, 4, 0, false)
  | 175 => some (8, 7, 0, false)
  | 176 => some (2, 3, 0, false)
  | 183 => some (9, 6, 0, false)
  | 190 => some (5, 11, 0, false)
  | 193 => some (5, 12, 0, false)
  | 196 => some (5, 5, 0, false)
  | 202 => some (5, 7, 0, false)
  | 213 => some (5, 9, 0, false)
  | 216 => some (5, 10, 0, false)
  | 219 => some (5, 0, 2, true)
  | 223 => some (6, 0, 0, false)
  | 228 => some (6, 1, 0, false)
  | 231 => some (6, 3, 0, false)
  | 237 => some (5, 13, 0, false)
  | 289 => some (0, 8, 1, false)
  | 296 => some (8, 6, 0, false)
  | 298 => some (8, 3, 2, true)
  | 313 => some (2, 4, 0, false)
  | 329 => some (8, 4, 2, true)
  | _ => none
def zfl11 : Nat → Option (Nat × Nat × Nat × Bool)
  | 9 => some (10, 1, 2, true)
  | 13 => some (10, 7, 0, false)
  | 17 => some (10, 10, 2, true)
  | 20 => some (10, 11, 2, true)
  | 24 => some (10, 12, 2, true)
  | 27 => some (10, 13, 2, true)
  | 30 => some (10, 14, 2, true)
  | 33 => some (10, 15, 2, true)
  | 36 => some (10, 16, 2, true)
  | 39 => some (10, 17, 2, true)
  | 42 => some (10, 18, 2, true)
  | 45 => some (10, 19, 2, true)
  | 48 => some (10, 20, 2, true)
  | 51 => some (10, 21, 2, true)
  | 55 => some (10, 22, 2, true)
  | 58 => some (10, 23, 2, true)
  | 61 => some (10, 24, 2, true)
  | 64 => some (10, 27, 0, false)
  | 67 => some (10, 28, 0, false)
  | 70 => some (10, 29, 0, false)
  | 73 => some (10, 30, 2, true)
  | 76 => some (10, 31, 2, true)
  | 79 => some (10, 32, 2, true)
  | 82 => some (10, 33, 2, true)
  | 85 => some (10, 34, 2, true)
  | 88 => some (10, 35, 2, true)
  | 91 => some (10, 36, 2, true)
  | 94 => some (10, 37, 2, true)
  | 97 => some (10, 38, 2, true)
  | 100 => some (10, 39, 2, true)
  | 103 => some (10, 40, 2, true)
  | 106 => some (10, 41, 2, true)
  | 109 => some (10, 42, 2, true)
  | 112 => some (10, 43, 2, true)
  | 115 => some (10, 45, 2, true)
  | 118 => some (10, 46, 2, true)
  | 121 => some (10, 47, 2, true)
  | 124 => some (10, 49, 2, true)
  | 127 => some (10, 50, 2, true)
  | 130 => some (10, 51, 2, true)
  | 133 => some (10, 52, 2, true)
  | 136 => some (10, 53, 2, true)
  | 139 => some (10, 54, 2, true)
  | 142 => some (10, 55, 2, true)
  | 145 => some (10, 56, 2, true)
  | 148 => some (10, 57, 2, true)
  | 151 => some (10, 0, 0, false)
  | 154 => some (10, 2, 0, false)
  | 157 => some (10, 4, 0, false)
  | 160 => some (10, 5, 0, false)
  | 167 => some (10, 6, 0, false)
  | 195 => some (10, 8, 0, false)
  | 202 => some (10, 9, 0, false)
  | 205 => some (10, 3, 0, false)
  | 330 => some (10, 44, 0, false)
  | 340 => some (10, 25, 0, false)
  | 359 => some (10, 26, 0, false)
  | 375 => some (10, 48, 0, false)
  | 386 => some (10, 58, 1, false)
  | 396 => some (10, 59, 0, false)
  | _ => none
def zfl12 : Nat → Option (Nat × Nat × Nat × Bool)
  | _ => none
def zfl (o : Nat) : Nat → Option (Nat × Nat × Nat × Bool) := match o with
  | 0 => zfl0
  | 1 => zfl1
  | 2 => zfl2
  | 3 => zfl3
  | 4 => zfl4
  | 5 => zfl5
  | 6 => zfl6
  | 7 => zfl7
  | 8 => zfl8
  | 9 => zfl9
  | 10 => zfl10
  | 11 => zfl11
  | 12 => zfl12
  | _ => fun _ => none
theorem zfl_0_9 : zfl 0 9 = some (0, 0, 2, true) := id rfl
theorem zfl_0_15 : zfl 0 15 = some (0, 1, 2, true) := id rfl
theorem zfl_0_18 : zfl 0 18 = some (0, 2, 2, true) := id rfl
theorem zfl_0_21 : zfl 0 21 = some (0, 3, 2, true) := id rfl
theorem zfl_0_24 : zfl 0 24 = some (0, 4, 2, true) := id rfl
theorem zfl_0_27 : zfl 0 27 = some (0, 5, 0, false) := id rfl
theorem zfl_0_37 : zfl 0 37 = some (0, 6, 0, false) := id rfl
theorem zfl_0_40 : zfl 0 40 = some (0, 7, 3, false) := id rfl
theorem zfl_0_48 : zfl 0 48 = some (0, 8, 1, false) := id rfl
theorem zfl_0_60 : zfl 0 60 = some (8, 4, 2, true) := id rfl
theorem zfl_0_68 : zfl 0 68 = some (5, 2, 2, true) := id rfl
theorem zfl_0_71 : zfl 0 71 = some (5, 3, 2, true) := id rfl
theorem zfl_0_74 : zfl 0 74 = some (3, 0, 0, false) := id rfl
theorem zfl_1_12 : zfl 1 12 = some (1, 0, 2, true) := id rfl
theorem zfl_1_18 : zfl 1 18 = some (1, 1, 2, true) := id rfl
theorem zfl_1_22 : zfl 1 22 = some (1, 2, 2, true) := id rfl
theorem zfl_1_25 : zfl 1 25 = some (1, 3, 0, false) := id rfl
theorem zfl_1_29 : zfl 1 29 = some (1, 4, 0, false) := id rfl
theorem zfl_1_40 : zfl 1 40 = some (7, 4, 0, false) := id rfl
theorem zfl_1_50 : zfl 1 50 = some (7, 5, 0, false) := id rfl
theorem zfl_1_53 : zfl 1 53 = some (1, 5, 0, false) := id rfl
theorem zfl_1_128 : zfl 1 128 = some (7, 6, 0, false) := id rfl
theorem zfl_2_12 : zfl 2 12 = some (2, 0, 2, true) := id rfl
theorem zfl_2_20 : zfl 2 20 = some (2, 1, 2, true) := id rfl
theorem zfl_2_24 : zfl 2 24 = some (2, 2, 2, true) := id rfl
theorem zfl_2_33 : zfl 2 33 = some (3, 0, 0, false) := id rfl
theorem zfl_2_37 : zfl 2 37 = some (3, 2, 0, false) := id rfl
theorem zfl_2_46 : zfl 2 46 = some (8, 4, 2, true) := id rfl
theorem zfl_2_50 : zfl 2 50 = some (5, 11, 0, false) := id rfl
theorem zfl_2_59 : zfl 2 59 = some (5, 4, 0, false) := id rfl
theorem zfl_2_62 : zfl 2 62 = some (5, 0, 2, true) := id rfl
theorem zfl_2_66 : zfl 2 66 = some (2, 3, 0, false) := id rfl
theorem zfl_2_75 : zfl 2 75 = some (5, 9, 0, false) := id rfl
theorem zfl_2_81 : zfl 2 81 = some (5, 10, 0, false) := id rfl
theorem zfl_2_92 : zfl 2 92 = some (6, 1, 0, false) := id rfl
theorem zfl_2_95 : zfl 2 95 = some (6, 2, 0, false) := id rfl
theorem zfl_2_98 : zfl 2 98 = some (6, 3, 0, false) := id rfl
theorem zfl_2_101 : zfl 2 101 = some (6, 4, 0, false) := id rfl
theorem zfl_2_104 : zfl 2 104 = some (6, 5, 0, false) := id rfl
theorem zfl_2_111 : zfl 2 111 = some (6, 0, 0, false) := id rfl
theorem zfl_2_114 : zfl 2 114 = some (5, 5, 0, false) := id rfl
theorem zfl_2_121 : zfl 2 121 = some (5, 7, 0, false) := id rfl
theorem zfl_2_131 : zfl 2 131 = some (2, 4, 0, false) := id rfl
theorem zfl_2_146 : zfl 2 146 = some (5, 6, 0, false) := id rfl
theorem zfl_2_149 : zfl 2 149 = some (3, 1, 0, false) := id rfl
theorem zfl_2_163 : zfl 2 163 = some (8, 7, 0, false) := id rfl
theorem zfl_2_166 : zfl 2 166 = some (5, 8, 0, false) := id rfl
theorem zfl_2_169 : zfl 2 169 = some (5, 12, 0, false) := id rfl
theorem zfl_2_172 : zfl 2 172 = some (6, 6, 0, false) := id rfl
theorem zfl_2_176 : zfl 2 176 = some (6, 7, 3, false) := id rfl
theorem zfl_2_180 : zfl 2 180 = some (6, 8, 3, false) := id rfl
theorem zfl_4_30 : zfl 4 30 = some (7, 5, 0, false) := id rfl
theorem zfl_4_34 : zfl 4 34 = some (7, 4, 0, false) := id rfl
theorem zfl_5_9 : zfl 5 9 = some (4, 0, 2, true) := id rfl
theorem zfl_5_15 : zfl 5 15 = some (4, 1, 2, true) := id rfl
theorem zfl_5_18 : zfl 5 18 = some (4, 2, 2, true) := id rfl
theorem zfl_5_21 : zfl 5 21 = some (4, 3, 2, false) := id rfl
theorem zfl_5_25 : zfl 5 25 = some (4, 4, 0, false) := id rfl
theorem zfl_5_32 : zfl 5 32 = some (8, 2, 2, true) := id rfl
theorem zfl_5_49 : zfl 5 49 = some (8, 0, 2, true) := id rfl
theorem zfl_5_52 : zfl 5 52 = some (8, 1, 2, true) := id rfl
theorem zfl_6_12 : zfl 6 12 = some (5, 0, 2, true) := id rfl
theorem zfl_6_18 : zfl 6 18 = some (5, 1, 2, true) := id rfl
theorem zfl_6_22 : zfl 6 22 = some (5, 2, 2, true) := id rfl
theorem zfl_6_25 : zfl 6 25 = some (5, 3, 2, true) := id rfl
theorem zfl_6_28 : zfl 6 28 = some (5, 5, 0, false) := id rfl
theorem zfl_6_32 : zfl 6 32 = some (5, 4, 0, false) := id rfl
theorem zfl_6_35 : zfl 6 35 = some (5, 6, 0, false) := id rfl
theorem zfl_6_38 : zfl 6 38 = some (5, 7, 0, false) := id rfl
theorem zfl_6_41 : zfl 6 41 = some (5, 8, 0, false) := id rfl
theorem zfl_6_44 : zfl 6 44 = some (5, 11, 0, false) := id rfl
theorem zfl_6_47 : zfl 6 47 = some (5, 13, 0, false) := id rfl
theorem zfl_6_56 : zfl 6 56 = some (5, 10, 0, false) := id rfl
theorem zfl_6_59 : zfl 6 59 = some (5, 9, 0, false) := id rfl
theorem zfl_6_64 : zfl 6 64 = some (3, 2, 0, false) := id rfl
theorem zfl_6_71 : zfl 6 71 = some (3, 1, 0, false) := id rfl
theorem zfl_7_9 : zfl 7 9 = some (6, 0, 0, false) := id rfl
theorem zfl_7_19 : zfl 7 19 = some (6, 1, 0, false) := id rfl
theorem zfl_7_22 : zfl 7 22 = some (6, 2, 0, false) := id rfl
theorem zfl_7_25 : zfl 7 25 = some (6, 3, 0, false) := id rfl
theorem zfl_7_28 : zfl 7 28 = some (6, 4, 0, false) := id rfl
theorem zfl_7_31 : zfl 7 31 = some (6, 5, 0, false) := id rfl
theorem zfl_7_34 : zfl 7 34 = some (6, 6, 0, false) := id rfl
theorem zfl_7_37 : zfl 7 37 = some (6, 7, 3, false) := id rfl
theorem zfl_7_41 : zfl 7 41 = some (6, 8, 3, false) := id rfl
theorem zfl_7_44 : zfl 7 44 = some (6, 9, 0, false) := id rfl
theorem zfl_7_47 : zfl 7 47 = some (6, 10, 0, false) := id rfl
theorem zfl_8_9 : zfl 8 9 = some (7, 0, 2, true) := id rfl
theorem zfl_8_15 : zfl 8 15 = some (7, 1, 0, false) := id rfl
theorem zfl_8_25 : zfl 8 25 = some (7, 2, 0, false) := id rfl
theorem zfl_8_28 : zfl 8 28 = some (7, 3, 0, false) := id rfl
theorem zfl_8_34 : zfl 8 34 = some (7, 5, 0, false) := id rfl
theorem zfl_8_37 : zfl 8 37 = some (7, 6, 0, false) := id rfl
theorem zfl_8_40 : zfl 8 40 = some (7, 4, 0, false) := id rfl
theorem zfl_9_9 : zfl 9 9 = some (8, 0, 2, true) := id rfl
theorem zfl_9_15 : zfl 9 15 = some (8, 1, 2, true) := id rfl
theorem zfl_9_18 : zfl 9 18 = some (8, 2, 2, true) := id rfl
theorem zfl_9_23 : zfl 9 23 = some (8, 3, 2, true) := id rfl
theorem zfl_9_28 : zfl 9 28 = some (8, 4, 2, true) := id rfl
theorem zfl_9_33 : zfl 9 33 = some (1, 3, 0, false) := id rfl
theorem zfl_9_45 : zfl 9 45 = some (8, 5, 0, false) := id rfl
theorem zfl_9_46 : zfl 9 46 = some (1, 1, 2, true) := id rfl
theorem zfl_9_47 : zfl 9 47 = some (1, 2, 2, true) := id rfl
theorem zfl_9_48 : zfl 9 48 = some (8, 6, 0, false) := id rfl
theorem zfl_9_51 : zfl 9 51 = some (8, 7, 0, false) := id rfl
theorem zfl_9_54 : zfl 9 54 = some (8, 8, 0, false) := id rfl
theorem zfl_9_57 : zfl 9 57 = some (5, 9, 0, false) := id rfl
theorem zfl_9_60 : zfl 9 60 = some (5, 10, 0, false) := id rfl
theorem zfl_9_63 : zfl 9 63 = some (5, 4, 0, false) := id rfl
theorem zfl_10_10 : zfl 10 10 = some (9, 0, 2, true) := id rfl
theorem zfl_10_19 : zfl 10 19 = some (9, 1, 2, true) := id rfl
theorem zfl_10_26 : zfl 10 26 = some (9, 2, 2, true) := id rfl
theorem zfl_10_32 : zfl 10 32 = some (9, 3, 2, true) := id rfl
theorem zfl_10_36 : zfl 10 36 = some (9, 7, 0, false) := id rfl
theorem zfl_10_41 : zfl 10 41 = some (1, 0, 2, true) := id rfl
theorem zfl_10_45 : zfl 10 45 = some (7, 1, 0, false) := id rfl
theorem zfl_10_62 : zfl 10 62 = some (9, 4, 0, false) := id rfl
theorem zfl_10_69 : zfl 10 69 = some (1, 5, 0, false) := id rfl
theorem zfl_10_90 : zfl 10 90 = some (8, 0, 2, true) := id rfl
theorem zfl_10_94 : zfl 10 94 = some (8, 1, 2, true) := id rfl
theorem zfl_10_97 : zfl 10 97 = some (8, 8, 0, false) := id rfl
theorem zfl_10_100 : zfl 10 100 = some (8, 2, 2, true) := id rfl
theorem zfl_10_103 : zfl 10 103 = some (2, 0, 2, true) := id rfl
theorem zfl_10_120 : zfl 10 120 = some (4, 0, 2, true) := id rfl
theorem zfl_10_141 : zfl 10 141 = some (9, 5, 0, false) := id rfl
theorem zfl_10_144 : zfl 10 144 = some (2, 1, 2, true) := id rfl
theorem zfl_10_148 : zfl 10 148 = some (3, 0, 0, false) := id rfl
theorem zfl_10_157 : zfl 10 157 = some (3, 1, 0, false) := id rfl
theorem zfl_10_160 : zfl 10 160 = some (3, 2, 0, false) := id rfl
theorem zfl_10_163 : zfl 10 163 = some (2, 2, 2, true) := id rfl
theorem zfl_10_170 : zfl 10 170 = some (5, 4, 0, false) := id rfl
theorem zfl_10_175 : zfl 10 175 = some (8, 7, 0, false) := id rfl
theorem zfl_10_176 : zfl 10 176 = some (2, 3, 0, false) := id rfl
theorem zfl_10_183 : zfl 10 183 = some (9, 6, 0, false) := id rfl
theorem zfl_10_190 : zfl 10 190 = some (5, 11, 0, false) := id rfl
theorem zfl_10_193 : zfl 10 193 = some (5, 12, 0, false) := id rfl
theorem zfl_10_196 : zfl 10 196 = some (5, 5, 0, false) := id rfl
theorem zfl_10_202 : zfl 10 202 = some (5, 7, 0, false) := id rfl
theorem zfl_10_213 : zfl 10 213 = some (5, 9, 0, false) := id rfl
theorem zfl_10_216 : zfl 10 216 = some (5, 10, 0, false) := id rfl
theorem zfl_10_219 : zfl 10 219 = some (5, 0, 2, true) := id rfl
theorem zfl_10_223 : zfl 10 223 = some (6, 0, 0, false) := id rfl
theorem zfl_10_228 : zfl 10 228 = some (6, 1, 0, false) := id rfl
theorem zfl_10_231 : zfl 10 231 = some (6, 3, 0, false) := id rfl
theorem zfl_10_237 : zfl 10 237 = some (5, 13, 0, false) := id rfl
theorem zfl_10_289 : zfl 10 289 = some (0, 8, 1, false) := id rfl
theorem zfl_10_296 : zfl 10 296 = some (8, 6, 0, false) := id rfl
theorem zfl_10_298 : zfl 10 298 = some (8, 3, 2, true) := id rfl
theorem zfl_10_313 : zfl 10 313 = some (2, 4, 0, false) := id rfl
theorem zfl_10_329 : zfl 10 329 = some (8, 4, 2, true) := id rfl
theorem zfl_11_9 : zfl 11 9 = some (10, 1, 2, true) := id rfl
theorem zfl_11_13 : zfl 11 13 = some (10, 7, 0, false) := id rfl
theorem zfl_11_17 : zfl 11 17 = some (10, 10, 2, true) := id rfl
theorem zfl_11_20 : zfl 11 20 = some (10, 11, 2, true) := id rfl
theorem zfl_11_24 : zfl 11 24 = some (10, 12, 2, true) := id rfl
theorem zfl_11_27 : zfl 11 27 = some (10, 13, 2, true) := id rfl
theorem zfl_11_30 : zfl 11 30 = some (10, 14, 2, true) := id rfl
theorem zfl_11_33 : zfl 11 33 = some (10, 15, 2, true) := id rfl
theorem zfl_11_36 : zfl 11 36 = some (10, 16, 2, true) := id rfl
theorem zfl_11_39 : zfl 11 39 = some (10, 17, 2, true) := id rfl
theorem zfl_11_42 : zfl 11 42 = some (10, 18, 2, true) := id rfl
theorem zfl_11_45 : zfl 11 45 = some (10, 19, 2, true) := id rfl
theorem zfl_11_48 : zfl 11 48 = some (10, 20, 2, true) := id rfl
theorem zfl_11_51 : zfl 11 51 = some (10, 21, 2, true) := id rfl
theorem zfl_11_55 : zfl 11 55 = some (10, 22, 2, true) := id rfl
theorem zfl_11_58 : zfl 11 58 = some (10, 23, 2, true) := id rfl
theorem zfl_11_61 : zfl 11 61 = some (10, 24, 2, true) := id rfl
theorem zfl_11_64 : zfl 11 64 = some (10, 27, 0, false) := id rfl
theorem zfl_11_67 : zfl 11 67 = some (10, 28, 0, false) := id rfl
theorem zfl_11_70 : zfl 11 70 = some (10, 29, 0, false) := id rfl
theorem zfl_11_73 : zfl 11 73 = some (10, 30, 2, true) := id rfl
theorem zfl_11_76 : zfl 11 76 = some (10, 31, 2, true) := id rfl
theorem zfl_11_79 : zfl 11 79 = some (10, 32, 2, true) := id rfl
theorem zfl_11_82 : zfl 11 82 = some (10, 33, 2, true) := id rfl
theorem zfl_11_85 : zfl 11 85 = some (10, 34, 2, true) := id rfl
theorem zfl_11_88 : zfl 11 88 = some (10, 35, 2, true) := id rfl
theorem zfl_11_91 : zfl 11 91 = some (10, 36, 2, true) := id rfl
theorem zfl_11_94 : zfl 11 94 = some (10, 37, 2, true) := id rfl
theorem zfl_11_97 : zfl 11 97 = some (10, 38, 2, true) := id rfl
theorem zfl_11_100 : zfl 11 100 = some (10, 39, 2, true) := id rfl
theorem zfl_11_103 : zfl 11 103 = some (10, 40, 2, true) := id rfl
theorem zfl_11_106 : zfl 11 106 = some (10, 41, 2, true) := id rfl
theorem zfl_11_109 : zfl 11 109 = some (10, 42, 2, true) := id rfl
theorem zfl_11_112 : zfl 11 112 = some (10, 43, 2, true) := id rfl
theorem zfl_11_115 : zfl 11 115 = some (10, 45, 2, true) := id rfl
theorem zfl_11_118 : zfl 11 118 = some (10, 46, 2, true) := id rfl
theorem zfl_11_121 : zfl 11 121 = some (10, 47, 2, true) := id rfl
theorem zfl_11_124 : zfl 11 124 = some (10, 49, 2, true) := id rfl
theorem zfl_11_127 : zfl 11 127 = some (10, 50, 2, true) := id rfl
theorem zfl_11_130 : zfl 11 130 = some (10, 51, 2, true) := id rfl
theorem zfl_11_133 : zfl 11 133 = some (10, 52, 2, true) := id rfl
theorem zfl_11_136 : zfl 11 136 = some (10, 53, 2, true) := id rfl
theorem zfl_11_139 : zfl 11 139 = some (10, 54, 2, true) := id rfl
theorem zfl_11_142 : zfl 11 142 = some (10, 55, 2, true) := id rfl
theorem zfl_11_145 : zfl 11 145 = some (10, 56, 2, true) := id rfl
theorem zfl_11_148 : zfl 11 148 = some (10, 57, 2, true) := id rfl
theorem zfl_11_151 : zfl 11 151 = some (10, 0, 0, false) := id rfl
theorem zfl_11_154 : zfl 11 154 = some (10, 2, 0, false) := id rfl
theorem zfl_11_157 : zfl 11 157 = some (10, 4, 0, false) := id rfl
theorem zfl_11_160 : zfl 11 160 = some (10, 5, 0, false) := id rfl
theorem zfl_11_167 : zfl 11 167 = some (10, 6, 0, false) := id rfl
theorem zfl_11_195 : zfl 11 195 = some (10, 8, 0, false) := id rfl
theorem zfl_11_202 : zfl 11 202 = some (10, 9, 0, false) := id rfl
theorem zfl_11_205 : zfl 11 205 = some (10, 3, 0, false) := id rfl
theorem zfl_11_330 : zfl 11 330 = some (10, 44, 0, false) := id rfl
theorem zfl_11_340 : zfl 11 340 = some (10, 25, 0, false) := id rfl
theorem zfl_11_359 : zfl 11 359 = some (10, 26, 0, false) := id rfl
theorem zfl_11_375 : zfl 11 375 = some (10, 48, 0, false) := id rfl
theorem zfl_11_386 : zfl 11 386 = some (10, 58, 1, false) := id rfl
theorem zfl_11_396 : zfl 11 396 = some (10, 59, 0, false) := id rfl
def zld (o i : Nat) : Option Int32 := match o, i with
  | 10, 322 => some 1000003
  | 10, 54 => some 1000000
  | 8, 56 => some 100000
  | 1, 131 => some 99999
  | 10, 248 => some 100000
  | 10, 333 => some 2147483647
  | 2, 175 => some 2147483647
  | 13, 265 => some 1431655765
  | 13, 266 => some 858993459
  | 13, 267 => some 252645135
  | 11, 224 => some 1000000
  | 11, 225 => some 99999
  | 11, 314 => some 1000003
  | 11, 371 => some 100000
  | _, _ => none
theorem zld_10_322 : zld 10 322 = some 1000003 := id rfl
theorem zld_10_54 : zld 10 54 = some 1000000 := id rfl
theorem zld_8_56 : zld 8 56 = some 100000 := id rfl
theorem zld_1_131 : zld 1 131 = some 99999 := id rfl
theorem zld_10_248 : zld 10 248 = some 100000 := id rfl
theorem zld_10_333 : zld 10 333 = some 2147483647 := id rfl
theorem zld_2_175 : zld 2 175 = some 2147483647 := id rfl
theorem zld_13_265 : zld 13 265 = some 1431655765 := id rfl
theorem zld_13_266 : zld 13 266 = some 858993459 := id rfl
theorem zld_13_267 : zld 13 267 = some 252645135 := id rfl
theorem zld_11_224 : zld 11 224 = some 1000000 := id rfl
theorem zld_11_225 : zld 11 225 = some 99999 := id rfl
theorem zld_11_314 : zld 11 314 = some 1000003 := id rfl
theorem zld_11_371 : zld 11 371 = some 100000 := id rfl
def zl2 (o i : Nat) : Option Int64 := match o, i with
  | 2, 137 => some (100)
  | 6, 54 => some (-1)
  | 6, 62 => some (100)
  | 6, 69 => some (2)
  | 10, 276 => some (-1)
  | 10, 287 => some (-2)
  | 11, 378 => some (100)
  | 11, 384 => some (-1)
  | 11, 394 => some (-2)
  | _, _ => none
theorem zl2_2_137 : zl2 2 137 = some (100) := id rfl
theorem zl2_6_54 : zl2 6 54 = some (-1) := id rfl
theorem zl2_6_62 : zl2 6 62 = some (100) := id rfl
theorem zl2_6_69 : zl2 6 69 = some (2) := id rfl
theorem zl2_10_276 : zl2 10 276 = some (-1) := id rfl
theorem zl2_10_287 : zl2 10 287 = some (-2) := id rfl
theorem zl2_11_378 : zl2 11 378 = some (100) := id rfl
theorem zl2_11_384 : zl2 11 384 = some (-1) := id rfl
theorem zl2_11_394 : zl2 11 394 = some (-2) := id rfl
def zls (o i : Nat) : Option Nat := match o, i with
  | 1, 78 => some 0
  | 1, 88 => some 1
  | 1, 90 => some 2
  | 1, 95 => some 3
  | 1, 106 => some 4
  | 4, 15 => some 1
  | 4, 51 => some 0
  | 11, 232 => some 0
  | 11, 246 => some 1
  | 11, 248 => some 2
  | 11, 250 => some 3
  | 11, 274 => some 4
  | _, _ => none
theorem zls_1_78 : zls 1 78 = some 0 := id rfl
theorem zls_1_88 : zls 1 88 = some 1 := id rfl
theorem zls_1_90 : zls 1 90 = some 2 := id rfl
theorem zls_1_95 : zls 1 95 = some 3 := id rfl
theorem zls_1_106 : zls 1 106 = some 4 := id rfl
theorem zls_4_15 : zls 4 15 = some 1 := id rfl
theorem zls_4_51 : zls 4 51 = some 0 := id rfl
theorem zls_11_232 : zls 11 232 = some 0 := id rfl
theorem zls_11_246 : zls 11 246 = some 1 := id rfl
theorem zls_11_248 : zls 11 248 = some 2 := id rfl
theorem zls_11_250 : zls 11 250 = some 3 := id rfl
theorem zls_11_274 : zls 11 274 = some 4 := id rfl
def znw (o i : Nat) : Option (Nat × Nat) := match o, i with
  | 12, 8 => some (10, 8)
  | 10, 7 => some (2, 6)
  | 1, 9 => some (8, 7)
  | 10, 16 => some (3, 5)
  | 2, 9 => some (5, 5)
  | 2, 18 => some (4, 3)
  | 10, 23 => some (1, 9)
  | 10, 30 => some (9, 9)
  | 9, 26 => some (6, 14)
  | 6, 9 => some (7, 11)
  | 12, 106 => some (11, 60)
  | _, _ => none
theorem znw_12_8 : znw 12 8 = some (10, 8) := id rfl
theorem znw_10_7 : znw 10 7 = some (2, 6) := id rfl
theorem znw_1_9 : znw 1 9 = some (8, 7) := id rfl
theorem znw_10_16 : znw 10 16 = some (3, 5) := id rfl
theorem znw_2_9 : znw 2 9 = some (5, 5) := id rfl
theorem znw_2_18 : znw 2 18 = some (4, 3) := id rfl
theorem znw_10_23 : znw 10 23 = some (1, 9) := id rfl
theorem znw_10_30 : znw 10 30 = some (9, 9) := id rfl
theorem znw_9_26 : znw 9 26 = some (6, 14) := id rfl
theorem znw_6_9 : znw 6 9 = some (7, 11) := id rfl
theorem znw_12_106 : znw 12 106 = some (11, 60) := id rfl
def zna (o i : Nat) : Option Nat := match o, i with
  | 2, 18 => some 107
  | 10, 30 => some 105
  | 9, 26 => some 106
  | _, _ => none
theorem zna_2_18 : zna 2 18 = some 107 := id rfl
theorem zna_10_30 : zna 10 30 = some 105 := id rfl
theorem zna_9_26 : zna 9 26 = some 106 := id rfl
def zxc (o i : Nat) : Option (String × Nat) := match o, i with
  | 10, 59 => some ("java/lang/IllegalArgumentException", 61)
  | 10, 323 => some ("java/lang/IndexOutOfBoundsException", 325)
  | 10, 249 => some ("java/lang/IllegalStateException", 251)
  | _, _ => none
theorem zxc_10_59 : zxc 10 59 = some ("java/lang/IllegalArgumentException", 61) := id rfl
theorem zxc_10_323 : zxc 10 323 = some ("java/lang/IndexOutOfBoundsException", 325) := id rfl
theorem zxc_10_249 : zxc 10 249 = some ("java/lang/IllegalStateException", 251) := id rfl
