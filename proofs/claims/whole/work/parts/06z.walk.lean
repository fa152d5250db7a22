/-! THE WALKER -/
def zvI (x : Option Value) (f : Int32 → Prop) : Prop := match x with
  | some (.int v) => f v
  | _ => False
def zvL (x : Option Value) (f : Int64 → Prop) : Prop := match x with
  | some (.long v) => f v
  | _ => False
def zvR (x : Option Value) (f : Nat → Prop) : Prop := match x with
  | some (.ref v) => f v
  | _ => False
theorem zvI_c (v : Int32) (f) : zvI (some (.int v)) f = f v := id rfl
theorem zvL_c (v : Int64) (f) : zvL (some (.long v)) f = f v := id rfl
theorem zvR_c (v : Nat) (f) : zvR (some (.ref v)) f = f v := id rfl
theorem zvI_inv {x f} (h : zvI x f) : ∃ v, x = some (.int v) ∧ f v := by
  unfold zvI at h
  split at h
  · exact ⟨_, rfl, h⟩
  · exact h.elim
theorem zvL_inv {x f} (h : zvL x f) : ∃ v, x = some (.long v) ∧ f v := by
  unfold zvL at h
  split at h
  · exact ⟨_, rfl, h⟩
  · exact h.elim
theorem zvR_inv {x f} (h : zvR x f) : ∃ v, x = some (.ref v) ∧ f v := by
  unfold zvR at h
  split at h
  · exact ⟨_, rfl, h⟩
  · exact h.elim
/-- the category of a stack -/
def zcs (r : List Value) : Nat := (r.map fun v => v.category).sum
theorem zcs_n : zcs [] = 0 := id rfl
theorem zcs_c (v r) : zcs (v :: r) = v.category + zcs r := by simp [zcs]
def zcn (x y : Int32) : ClassFile.Cond → Prop
  | .eq => x = y
  | .ne => ¬ x = y
  | .lt => x < y
  | .ge => y ≤ x
  | .gt => y < x
  | .le => x ≤ y
theorem zcn_eq (x y) : zcn x y .eq = (x = y) := id rfl
theorem zcn_ne (x y) : zcn x y .ne = (¬ x = y) := id rfl
theorem zcn_lt (x y) : zcn x y .lt = (x < y) := id rfl
theorem zcn_ge (x y) : zcn x y .ge = (y ≤ x) := id rfl
theorem zcn_gt (x y) : zcn x y .gt = (y < x) := id rfl
theorem zcn_le (x y) : zcn x y .le = (x ≤ y) := id rfl
def zrs (k : List Value → zH → Prop) (q : String → zH → Prop) : zO → zH → Prop := fun o h => match o with
  | .inl v => k v.toList h
  | .inr E => q E h
theorem zrs_n (k q h) : zrs k q (.inl none) h = k [] h := id rfl
theorem zrs_s (k q v h) : zrs k q (.inl (some v)) h = k [v] h := id rfl
theorem zrs_x (k q E h) : zrs k q (.inr E) h = q E h := id rfl
abbrev zC : Type := Nat → List (Option Value) → List Value → zH → Nat → Nat → Prop
/-- a jump: the place that it goes to -/
def zjp (pc : Nat) (off : Int) (f : Nat → Prop) : Prop := 0 ≤ (pc : Int) + off ∧ f ((pc : Int) + off).toNat
theorem zjp_lit {pc : Nat} {off : Int} {t : Nat} (h : (pc : Int) + off = (t : Int)) (f : Nat → Prop) : zjp pc off f = f t := by
  unfold zjp
  rw [h]
  simp
/-- a table: x is v, and so on -/
def ztb (x : Int32) (pc : Nat) (f : Nat → Prop) : List Int → Int → Prop
  | [], _ => True
  | o :: r, v => (x.toInt = v → zjp pc o f) ∧ ztb x pc f r (v + 1)
/-- outer q, rows behind it -/
def zmu (h : zH) (q n k : Nat) : zH := (some (q + 1 + n), (fun a => if a = q then 104 else if q < a ∧ a ≤ q + n then 100 else zK h a), (fun a => if a = q then n else if q < a ∧ a ≤ q + n then k else zN h a), zI h, zL h, zP h, (fun a j => if q ≤ a ∧ a ≤ q + n then 0 else zA h a j), zB h, (fun a j => if a = q then (if j < n then some (q + 1 + j) else none) else zR h a j))
def zbin (f : Int32 → Int32 → Int32) (st : List Value) (k : List Value → Prop) : Prop := zpI st fun y r => zpI r fun x r => k (.int (f x y) :: r)
def zbnl (f : Int64 → Int64 → Int64) (st : List Value) (k : List Value → Prop) : Prop := zpL st fun y r => zpL r fun x r => k (.long (f x y) :: r)
theorem zbin_c (f x y r k) : zbin f (.int y :: .int x :: r) k = k (.int (f x y) :: r) := id rfl
theorem zbnl_c (f x y r k) : zbnl f (.long y :: .long x :: r) k = k (.long (f x y) :: r) := id rfl
def zfits (t : Nat) (v : Value) : Prop := match t, v with
  | 0, .int _ => True
  | 3, .int x => x = 0 ∨ x = 1
  | _, _ => False
/-- a field's store -/
def zpf (h : zH) (t f : Nat) (st : List Value) (k : Nat → List Value → zH → Prop) : Prop := match t with
  | 0 => zpI st fun v r => zpR r fun a r => k a r (zsI h a f v)
  | 1 => zpL st fun v r => zpR r fun a r => k a r (zsL h a f v)
  | 2 => zpQ st fun v r => zpR r fun a r => k a r (zsP h a f v)
  | 3 => zpI st fun v r => zpR r fun a r => (v = 0 ∨ v = 1) ∧ k a r (zsI h a f v)
  | _ => False
theorem zpf_0 (h f st k) : zpf h 0 f st k = zpI st fun v r => zpR r fun a r => k a r (zsI h a f v) := id rfl
theorem zpf_1 (h f st k) : zpf h 1 f st k = zpL st fun v r => zpR r fun a r => k a r (zsL h a f v) := id rfl
theorem zpf_2 (h f st k) : zpf h 2 f st k = zpQ st fun v r => zpR r fun a r => k a r (zsP h a f v) := id rfl
theorem zpf_3 (h f st k) : zpf h 3 f st k = zpI st fun v r => zpR r fun a r => (v = 0 ∨ v = 1) ∧ k a r (zsI h a f v) := id rfl
/-- an index within a row of n -/
def zin (i : Int32) (n : Nat) : Prop := 0 ≤ i ∧ i.toNatClampNeg < n

def zw (l : Launch) (G : zG) (o : Nat) (ini : Bool) (cc : ByteArray) (ret : Option FieldType) (d : Nat) (Q : zO → zH → Prop) (i : Instr) (len pc : Nat) (k : zC) (lv : List (Option Value)) (st : List Value) (h : zH) (c s : Nat) : Prop := match i with
  | .iconst n => len = 1 ∧ (k (pc + 1) lv (.int (Int32.ofInt n) :: st) h c s)
  | .bipush n => len = 2 ∧ (k (pc + 2) lv (.int (Int8.ofInt n).toInt32 :: st) h c s)
  | .sipush n => len = 3 ∧ (k (pc + 3) lv (.int (Int16.ofInt n).toInt32 :: st) h c s)
  | .lconst n => len = 1 ∧ (k (pc + 1) lv (.long (Int64.ofNat (n : Nat)) :: st) h c s)
  | .aconst_null => len = 1 ∧ (k (pc + 1) lv (.null :: st) h c s)
  | .iload n => len = 2 ∧ (zvI (zget lv n) fun x => k (pc + 2) lv (.int x :: st) h c s)
  | .iload_n n => len = 1 ∧ (zvI (zget lv (n : Nat)) fun x => k (pc + 1) lv (.int x :: st) h c s)
  | .lload n => len = 2 ∧ (zvL (zget lv n) fun x => k (pc + 2) lv (.long x :: st) h c s)
  | .lload_n n => len = 1 ∧ (zvL (zget lv (n : Nat)) fun x => k (pc + 1) lv (.long x :: st) h c s)
  | .aload n => len = 2 ∧ (zvR (zget lv n) fun x => k (pc + 2) lv (.ref x :: st) h c s)
  | .aload_n n => len = 1 ∧ (zvR (zget lv (n : Nat)) fun x => k (pc + 1) lv (.ref x :: st) h c s)
  | .istore n => len = 2 ∧ (zpI st fun x r => n < lv.length ∧ k (pc + 2) (zst1 lv n (.int x)) r h c s)
  | .istore_n n => len = 1 ∧ (zpI st fun x r => (n : Nat) < lv.length ∧ k (pc + 1) (zst1 lv (n : Nat) (.int x)) r h c s)
  | .lstore n => len = 2 ∧ (zpL st fun x r => n + 1 < lv.length ∧ k (pc + 2) (zst2 lv n (.long x)) r h c s)
  | .lstore_n n => len = 1 ∧ (zpL st fun x r => (n : Nat) + 1 < lv.length ∧ k (pc + 1) (zst2 lv (n : Nat) (.long x)) r h c s)
  | .astore n => len = 2 ∧ (zpR st fun x r => n < lv.length ∧ k (pc + 2) (zst1 lv n (.ref x)) r h c s)
  | .astore_n n => len = 1 ∧ (zpR st fun x r => (n : Nat) < lv.length ∧ k (pc + 1) (zst1 lv (n : Nat) (.ref x)) r h c s)
  | .iinc n v => len = 3 ∧ (zvI (zget lv n) fun x => n < lv.length ∧ k (pc + 3) (zst1 lv n (.int (x + Int32.ofInt v))) st h c s)
  | .iadd => len = 1 ∧ (zpI st fun y r => zpI r fun x r => k (pc + 1) lv (.int (x + y) :: r) h c s)
  | .isub => len = 1 ∧ (zpI st fun y r => zpI r fun x r => k (pc + 1) lv (.int (x - y) :: r) h c s)
  | .imul => len = 1 ∧ (zpI st fun y r => zpI r fun x r => k (pc + 1) lv (.int (x * y) :: r) h c s)
  | .iand => len = 1 ∧ (zpI st fun y r => zpI r fun x r => k (pc + 1) lv (.int (x &&& y) :: r) h c s)
  | .ior => len = 1 ∧ (zpI st fun y r => zpI r fun x r => k (pc + 1) lv (.int (x ||| y) :: r) h c s)
  | .ixor => len = 1 ∧ (zpI st fun y r => zpI r fun x r => k (pc + 1) lv (.int (x ^^^ y) :: r) h c s)
  | .ishl => len = 1 ∧ (zpI st fun y r => zpI r fun x r => k (pc + 1) lv (.int (x <<< (y &&& 31)) :: r) h c s)
  | .ishr => len = 1 ∧ (zpI st fun y r => zpI r fun x r => k (pc + 1) lv (.int (x >>> (y &&& 31)) :: r) h c s)
  | .iushr => len = 1 ∧ (zpI st fun y r => zpI r fun x r => k (pc + 1) lv (.int ((x.toUInt32 >>> (y.toUInt32 &&& Int32.toUInt32 31)).toInt32) :: r) h c s)
  | .idiv => len = 1 ∧ (zpI st fun y r => zpI r fun x r => ¬ y = 0 ∧ k (pc + 1) lv (.int (x / y) :: r) h c s)
  | .irem => len = 1 ∧ (zpI st fun y r => zpI r fun x r => ¬ y = 0 ∧ k (pc + 1) lv (.int (x - x / y * y) :: r) h c s)
  | .ladd => len = 1 ∧ (zpL st fun y r => zpL r fun x r => k (pc + 1) lv (.long (x + y) :: r) h c s)
  | .lmul => len = 1 ∧ (zpL st fun y r => zpL r fun x r => k (pc + 1) lv (.long (x * y) :: r) h c s)
  | .ldiv => len = 1 ∧ (zpL st fun y r => zpL r fun x r => ¬ y = 0 ∧ k (pc + 1) lv (.long (x / y) :: r) h c s)
  | .i2l => len = 1 ∧ (zpI st fun x r => k (pc + 1) lv (.long x.toInt64 :: r) h c s)
  | .l2i => len = 1 ∧ (zpL st fun x r => k (pc + 1) lv (.int x.toInt32 :: r) h c s)
  | .i2b => len = 1 ∧ (zpI st fun x r => k (pc + 1) lv (.int x.toInt8.toInt32 :: r) h c s)
  | .i2c => len = 1 ∧ (zpI st fun x r => k (pc + 1) lv (.int (x.toUInt32 % 65536).toInt32 :: r) h c s)
  | .lcmp => len = 1 ∧ (zpL st fun y r => zpL r fun x r => k (pc + 1) lv (.int (lg_cmp x y) :: r) h c s)
  | .dup => len = 1 ∧ (zpV st fun v r => v.category = 1 ∧ k (pc + 1) lv (v :: v :: r) h c s)
  | .pop => len = 1 ∧ (zpV st fun v r => v.category = 1 ∧ k (pc + 1) lv r h c s)
  | .dup2 => len = 1 ∧ (zpV st fun v r => zpV r fun u r => v.category = 1 ∧ u.category = 1 ∧ k (pc + 1) lv (v :: u :: v :: u :: r) h c s)
  | .ifCond cn off => len = 3 ∧ (zpI st fun x r => zjp pc off fun t => (zcn x 0 cn → k t lv r h c s) ∧ (¬ zcn x 0 cn → k (pc + 3) lv r h c s))
  | .if_icmp cn off => len = 3 ∧ (zpI st fun y r => zpI r fun x r => zjp pc off fun t => (zcn x y cn → k t lv r h c s) ∧ (¬ zcn x y cn → k (pc + 3) lv r h c s))
  | .if_acmp cn off => len = 3 ∧ (zpQ st fun y r => zpQ r fun x r => zjp pc off fun t => match cn with
    | .eq => (x = y → k t lv r h c s) ∧ (¬ x = y → k (pc + 3) lv r h c s)
    | .ne => (¬ x = y → k t lv r h c s) ∧ (x = y → k (pc + 3) lv r h c s))
  | .goto off => len = 3 ∧ (zjp pc off fun t => k t lv st h c s)
  | .tableswitch df lo hi offs => zpI st fun x r => (x.toInt < lo ∨ hi < x.toInt → zjp pc df fun t => k t lv r h c s) ∧ (hi + 1 - lo = offs.size ∧ ztb x pc (fun t => k t lv r h c s) offs.toList lo)
  | .ldc n => len = 2 ∧ (match zld o n, zls o n with
    | some v, _ => k (pc + 2) lv (.int v :: st) h c s
    | none, some t => ∀ a : Nat, zK h a = 300 + t → k (pc + 2) lv (.ref a :: st) h c s
    | none, none => False)
  | .ldc_w n => len = 3 ∧ (match zld o n, zls o n with
    | some v, _ => k (pc + 3) lv (.int v :: st) h c s
    | none, some t => ∀ a : Nat, zK h a = 300 + t → k (pc + 3) lv (.ref a :: st) h c s
    | none, none => False)
  | .ldc2_w n => len = 3 ∧ (match zl2 o n with
    | some v => k (pc + 3) lv (.long v :: st) h c s
    | none => False)
  | .getfield n => len = 3 ∧ (match zfl o n with
    | some (ci, f, t, _) => zpR st fun a r => zK h a = 1 + ci ∧ k (pc + 3) lv (zfv h a t (100 * ci + f) :: r) h c s
    | none => False)
  | .putfield n => len = 3 ∧ (match zfl o n with
    | some (ci, f, t, fin) => zpf h t (100 * ci + f) st fun a r h2 => zK h a = 1 + ci ∧ (fin = false ∨ (ini = true ∧ zco ci = o)) ∧ k (pc + 3) lv r h2 c s
    | none => False)
  | .iaload => len = 1 ∧ (zpI st fun i r => zpR r fun a r => (zK h a = 100 ∨ zK h a = 200) ∧ zin i (zN h a) ∧ k (pc + 1) lv (.int (zA h a i.toNatClampNeg) :: r) h c s)
  | .baload => len = 1 ∧ (zpI st fun i r => zpR r fun a r => (zK h a = 101 ∨ zK h a = 102) ∧ zin i (zN h a) ∧ k (pc + 1) lv (.int (zA h a i.toNatClampNeg) :: r) h c s)
  | .laload => len = 1 ∧ (zpI st fun i r => zpR r fun a r => zK h a = 103 ∧ zin i (zN h a) ∧ k (pc + 1) lv (.long (zB h a i.toNatClampNeg) :: r) h c s)
  | .aaload => len = 1 ∧ (zpI st fun i r => zpR r fun a r => (104 ≤ zK h a ∧ zK h a ≤ 107) ∧ zin i (zN h a) ∧ k (pc + 1) lv (va_rf (zR h a i.toNatClampNeg) :: r) h c s)
  | .iastore => len = 1 ∧ (zpI st fun v r => zpI r fun i r => zpR r fun a r => zK h a = 100 ∧ zin i (zN h a) ∧ k (pc + 1) lv r (zsA h a i.toNatClampNeg v) c s)
  | .bastore => len = 1 ∧ (zpI st fun v r => zpI r fun i r => zpR r fun a r => ((zK h a = 101 ∧ (v = 0 ∨ v = 1)) ∨ (zK h a = 102 ∧ v.toInt8.toInt32 = v)) ∧ zin i (zN h a) ∧ k (pc + 1) lv r (zsA h a i.toNatClampNeg v) c s)
  | .lastore => len = 1 ∧ (zpL st fun v r => zpI r fun i r => zpR r fun a r => zK h a = 103 ∧ zin i (zN h a) ∧ k (pc + 1) lv r (zsB h a i.toNatClampNeg v) c s)
  | .aastore => len = 1 ∧ (zpR st fun v r => zpI r fun i r => zpR r fun a r => ((zK h a = 105 ∧ zK h v = 9) ∨ (zK h a = 106 ∧ zK h v = 6) ∨ (zK h a = 107 ∧ zK h v = 4)) ∧ zin i (zN h a) ∧ k (pc + 1) lv r (zsR h a i.toNatClampNeg (some v)) c s)
  | .arraylength => len = 1 ∧ (zpR st fun a r => ((100 ≤ zK h a ∧ zK h a ≤ 107) ∨ zK h a = 200) ∧ k (pc + 1) lv (.int (nI (zN h a)) :: r) h c s)
  | .new n => len = 3 ∧ (match znw o n with
    | some (kd, m) => ∃ q, zS h = some q ∧ 1 ≤ c ∧ m ≤ s ∧ k (pc + 3) lv (.ref q :: st) (zal h q kd 0) (c - 1) (s - m)
    | none => match zxc o n with
      | some (E, ic) => decode cc (pc + 3) = .ok (.dup, 1) ∧ decode cc (pc + 4) = .ok (.invokespecial ic, 3) ∧ decode cc (pc + 7) = .ok (.athrow, 1) ∧ 1 ≤ c ∧ 6 ≤ s ∧ 10 ≤ d ∧ zcs st ≤ 8 ∧ Q (.inr E) (zsS h none)
      | none => False)
  | .newarray ty => len = 2 ∧ (zpI st fun n r => ∃ q, zS h = some q ∧ 0 ≤ n ∧ n.toNatClampNeg ≤ 60000 ∧ 1 ≤ c ∧ n.toNatClampNeg ≤ s ∧ ∃ kd, (match ty with
      | .int => kd = 100
      | .boolean => kd = 101
      | .byte => kd = 102
      | .long => kd = 103
      | _ => False) ∧ k (pc + 2) lv (.ref q :: r) (zal h q kd n.toNatClampNeg) (c - 1) (s - n.toNatClampNeg))
  | .anewarray i9 => len = 3 ∧ (match zna o i9 with
    | some kd => zpI st fun n r => ∃ q, zS h = some q ∧ 0 ≤ n ∧ n.toNatClampNeg ≤ 60000 ∧ 1 ≤ c ∧ n.toNatClampNeg ≤ s ∧ k (pc + 3) lv (.ref q :: r) (zal h q kd n.toNatClampNeg) (c - 1) (s - n.toNatClampNeg)
    | none => False)
  | .multianewarray i9 dm => len = 4 ∧ (o = 9 ∧ i9 = 21 ∧ dm = 2 ∧ zpI st fun n2 r => zpI r fun n r => ∃ q, zS h = some q ∧ 0 ≤ n ∧ 0 ≤ n2 ∧ n.toNatClampNeg ≤ 1000 ∧ n2.toNatClampNeg ≤ 1000 ∧ 1 + n.toNatClampNeg ≤ c ∧ n.toNatClampNeg + n.toNatClampNeg * n2.toNatClampNeg ≤ s ∧ k (pc + 4) lv (.ref q :: r) (zmu h q n.toNatClampNeg n2.toNatClampNeg) (c - (1 + n.toNatClampNeg)) (s - (n.toNatClampNeg + n.toNatClampNeg * n2.toNatClampNeg)))
  | .invokevirtual n => len = 3 ∧ (match zml o n with
    | some (y, t, kd, m) => if t = 0 then 0 < d ∧ y.2.2.2.2.1 ≤ c ∧ y.2.2.2.2.2 ≤ s ∧ zpn m [] st fun as r => zpR r fun a r => zK h a = kd ∧ zcs r ≤ 8 ∧ zCall l G y (d - 1) (.ref a :: as) h (zrs (fun vs h2 => k (pc + 3) lv (vs ++ r) h2 (c - y.2.2.2.2.1) (s - y.2.2.2.2.2)) (fun E h2 => Q (.inr E) h2))
      else if t = 20 then 5 < d ∧ zpR st fun a r => 300 ≤ zK h a ∧ zcs r ≤ 8 ∧ k (pc + 3) lv (.int (nI (ztl (zK h a - 300))) :: r) h c s
      else if t = 21 then 5 < d ∧ zpI st fun i r => zpR r fun a r => 300 ≤ zK h a ∧ zin i (ztl (zK h a - 300)) ∧ zcs r ≤ 8 ∧ k (pc + 3) lv (.int (ztc (zK h a - 300) i.toNatClampNeg) :: r) h c s
      else False
    | none => False)
  | .invokestatic n => len = 3 ∧ (match zml o n with
    | some (y, t, kd, m) => if t = 1 then 0 < d ∧ y.2.2.2.2.1 ≤ c ∧ y.2.2.2.2.2 ≤ s ∧ zpn m [] st fun as r => zcs r ≤ 8 ∧ zCall l G y (d - 1) as h (zrs (fun vs h2 => k (pc + 3) lv (vs ++ r) h2 (c - y.2.2.2.2.1) (s - y.2.2.2.2.2)) (fun E h2 => Q (.inr E) h2))
      else if t = 10 then 0 < d ∧ zpI st fun y r => zpI r fun x r => zcs r ≤ 8 ∧ k (pc + 3) lv (.int (if x < y then y else x) :: r) h c s
      else if t = 11 then 0 < d ∧ zpI st fun y r => zpI r fun x r => zcs r ≤ 8 ∧ k (pc + 3) lv (.int (if y < x then y else x) :: r) h c s
      else if t = 12 then 0 < d ∧ zpL st fun y r => zpL r fun x r => zcs r ≤ 8 ∧ k (pc + 3) lv (.long (if y < x then x else y) :: r) h c s
      else False
    | none => False)
  | .invokespecial n => len = 3 ∧ (match zml o n with
    | some (y, t, kd, m) => if t = 2 then 0 < d ∧ y.2.2.2.2.1 ≤ c ∧ y.2.2.2.2.2 ≤ s ∧ zpn m [] st fun as r => zpR r fun a r => zcs r ≤ 8 ∧ zCall l G y (d - 1) (.ref a :: as) h (zrs (fun vs h2 => k (pc + 3) lv (vs ++ r) h2 (c - y.2.2.2.2.1) (s - y.2.2.2.2.2)) (fun E h2 => Q (.inr E) h2))
      else if t = 3 then 0 < d ∧ zpR st fun a r => zcs r ≤ 8 ∧ k (pc + 3) lv r h c s
      else False
    | none => False)
  | .ireturn => len = 1 ∧ (zpI st fun x r => r = [] ∧ match ret with
    | some .int => Q (.inl (some (.int x))) h
    | some .boolean => (x = 0 ∨ x = 1) ∧ Q (.inl (some (.int x))) h
    | _ => False)
  | .lreturn => len = 1 ∧ (zpL st fun x r => r = [] ∧ ret = some .long ∧ Q (.inl (some (.long x))) h)
  | .areturn => len = 1 ∧ (zpQ st fun x r => r = [] ∧ (match ret with
    | some (.object _) => True
    | _ => False) ∧ Q (.inl (some (va_rf x))) h)
  | .return_ => len = 1 ∧ (st = [] ∧ ret = none ∧ Q (.inl none) h)
  | _ => False
theorem zw_iconst (l : Launch) (G : zG) (o : Nat) (ini : Bool) (cc : ByteArray) (ret : Option FieldType) (d : Nat) (Q : zO → zH → Prop) (len pc : Nat) (k : zC) (lv : List (Option Value)) (st : List Value) (h : zH) (c s : Nat) n : zw l G o ini cc ret d Q (.iconst n) len pc k lv st h c s = (len = 1 ∧ (k (pc + 1) lv (.int (Int32.ofInt n) :: st) h c s)) := id rfl
theorem zw_bipush (l : Launch) (G : zG) (o : Nat) (ini : Bool) (cc : ByteArray) (ret : Option FieldType) (d : Nat) (Q : zO → zH → Prop) (len pc : Nat) (k : zC) (lv : List (Option Value)) (st : List Value) (h : zH) (c s : Nat) n : zw l G o ini cc ret d Q (.bipush n) len pc k lv st h c s = (len = 2 ∧ (k (pc + 2) lv (.int (Int8.ofInt n).toInt32 :: st) h c s)) := id rfl
theorem zw_sipush (l : Launch) (G : zG) (o : Nat) (ini : Bool) (cc : ByteArray) (ret : Option FieldType) (d : Nat) (Q : zO → zH → Prop) (len pc : Nat) (k : zC) (lv : List (Option Value)) (st : List Value) (h : zH) (c s : Nat) n : zw l G o ini cc ret d Q (.sipush n) len pc k lv st h c s = (len = 3 ∧ (k (pc + 3) lv (.int (Int16.ofInt n).toInt32 :: st) h c s)) := id rfl
theorem zw_lconst (l : Launch) (G : zG) (o : Nat) (ini : Bool) (cc : ByteArray) (ret : Option FieldType) (d : Nat) (Q : zO → zH → Prop) (len pc : Nat) (k : zC) (lv : List (Option Value)) (st : List Value) (h : zH) (c s : Nat) n : zw l G o ini cc ret d Q (.lconst n) len pc k lv st h c s = (len = 1 ∧ (k (pc + 1) lv (.long (Int64.ofNat (n : Nat)) :: st) h c s)) := id rfl
theorem zw_aconst_null (l : Launch) (G : zG) (o : Nat) (ini : Bool) (cc : ByteArray) (ret : Option FieldType) (d : Nat) (Q : zO → zH → Prop) (len pc : Nat) (k : zC) (lv : List (Option Value)) (st : List Value) (h : zH) (c s : Nat)  : zw l G o ini cc ret d Q .aconst_null len pc k lv st h c s = (len = 1 ∧ (k (pc + 1) lv (.null :: st) h c s)) := id rfl
theorem zw_iload (l : Launch) (G : zG) (o : Nat) (ini : Bool) (cc : ByteArray) (ret : Option FieldType) (d : Nat) (Q : zO → zH → Prop) (len pc : Nat) (k : zC) (lv : List (Option Value)) (st : List Value) (h : zH) (c s : Nat) n : zw l G o ini cc ret d Q (.iload n) len pc k lv st h c s = (len = 2 ∧ (zvI (zget lv n) fun x => k (pc + 2) lv (.int x :: st) h c s)) := id rfl
theorem zw_iload_n (l : Launch) (G : zG) (o : Nat) (ini : Bool) (cc : ByteArray) (ret : Option FieldType) (d : Nat) (Q : zO → zH → Prop) (len pc : Nat) (k : zC) (lv : List (Option Value)) (st : List Value) (h : zH) (c s : Nat) n : zw l G o ini cc ret d Q (.iload_n n) len pc k lv st h c s = (len = 1 ∧ (zvI (zget lv (n : Nat)) fun x => k (pc + 1) lv (.int x :: st) h c s)) := id rfl
theorem zw_lload (l : Launch) (G : zG) (o : Nat) (ini : Bool) (cc : ByteArray) (ret : Option FieldType) (d : Nat) (Q : zO → zH → Prop) (len pc : Nat) (k : zC) (lv : List (Option Value)) (st : List Value) (h : zH) (c s : Nat) n : zw l G o ini cc ret d Q (.lload n) len pc k lv st h c s = (len = 2 ∧ (zvL (zget lv n) fun x => k (pc + 2) lv (.long x :: st) h c s)) := id rfl
theorem zw_lload_n (l : Launch) (G : zG) (o : Nat) (ini : Bool) (cc : ByteArray) (ret : Option FieldType) (d : Nat) (Q : zO → zH → Prop) (len pc : Nat) (k : zC) (lv : List (Option Value)) (st : List Value) (h : zH) (c s : Nat) n : zw l G o ini cc ret d Q (.lload_n n) len pc k lv st h c s = (len = 1 ∧ (zvL (zget lv (n : Nat)) fun x => k (pc + 1) lv (.long x :: st) h c s)) := id rfl
theorem zw_aload (l : Launch) (G : zG) (o : Nat) (ini : Bool) (cc : ByteArray) (ret : Option FieldType) (d : Nat) (Q : zO → zH → Prop) (len pc : Nat) (k : zC) (lv : List (Option Value)) (st : List Value) (h : zH) (c s : Nat) n : zw l G o ini cc ret d Q (.aload n) len pc k lv st h c s = (len = 2 ∧ (zvR (zget lv n) fun x => k (pc + 2) lv (.ref x :: st) h c s)) := id rfl
theorem zw_aload_n (l : Launch) (G : zG) (o : Nat) (ini : Bool) (cc : ByteArray) (ret : Option FieldType) (d : Nat) (Q : zO → zH → Prop) (len pc : Nat) (k : zC) (lv : List (Option Value)) (st : List Value) (h : zH) (c s : Nat) n : zw l G o ini cc ret d Q (.aload_n n) len pc k lv st h c s = (len = 1 ∧ (zvR (zget lv (n : Nat)) fun x => k (pc + 1) lv (.ref x :: st) h c s)) := id rfl
theorem zw_istore (l : Launch) (G : zG) (o : Nat) (ini : Bool) (cc : ByteArray) (ret : Option FieldType) (d : Nat) (Q : zO → zH → Prop) (len pc : Nat) (k : zC) (lv : List (Option Value)) (st : List Value) (h : zH) (c s : Nat) n : zw l G o ini cc ret d Q (.istore n) len pc k lv st h c s = (len = 2 ∧ (zpI st fun x r => n < lv.length ∧ k (pc + 2) (zst1 lv n (.int x)) r h c s)) := id rfl
theorem zw_istore_n (l : Launch) (G : zG) (o : Nat) (ini : Bool) (cc : ByteArray) (ret : Option FieldType) (d : Nat) (Q : zO → zH → Prop) (len pc : Nat) (k : zC) (lv : List (Option Value)) (st : List Value) (h : zH) (c s : Nat) n : zw l G o ini cc ret d Q (.istore_n n) len pc k lv st h c s = (len = 1 ∧ (zpI st fun x r => (n : Nat) < lv.length ∧ k (pc + 1) (zst1 lv (n : Nat) (.int x)) r h c s)) := id rfl
theorem zw_lstore (l : Launch) (G : zG) (o : Nat) (ini : Bool) (cc : ByteArray) (ret : Option FieldType) (d : Nat) (Q : zO → zH → Prop) (len pc : Nat) (k : zC) (lv : List (Option Value)) (st : List Value) (h : zH) (c s : Nat) n : zw l G o ini cc ret d Q (.lstore n) len pc k lv st h c s = (len = 2 ∧ (zpL st fun x r => n + 1 < lv.length ∧ k (pc + 2) (zst2 lv n (.long x)) r h c s)) := id rfl
theorem zw_lstore_n (l : Launch) (G : zG) (o : Nat) (ini : Bool) (cc : ByteArray) (ret : Option FieldType) (d : Nat) (Q : zO → zH → Prop) (len pc : Nat) (k : zC) (lv : List (Option Value)) (st : List Value) (h : zH) (c s : Nat) n : zw l G o ini cc ret d Q (.lstore_n n) len pc k lv st h c s = (len = 1 ∧ (zpL st fun x r => (n : Nat) + 1 < lv.length ∧ k (pc + 1) (zst2 lv (n : Nat) (.long x)) r h c s)) := id rfl
theorem zw_astore (l : Launch) (G : zG) (o : Nat) (ini : Bool) (cc : ByteArray) (ret : Option FieldType) (d : Nat) (Q : zO → zH → Prop) (len pc : Nat) (k : zC) (lv : List (Option Value)) (st : List Value) (h : zH) (c s : Nat) n : zw l G o ini cc ret d Q (.astore n) len pc k lv st h c s = (len = 2 ∧ (zpR st fun x r => n < lv.length ∧ k (pc + 2) (zst1 lv n (.ref x)) r h c s)) := id rfl
theorem zw_astore_n (l : Launch) (G : zG) (o : Nat) (ini : Bool) (cc : ByteArray) (ret : Option FieldType) (d : Nat) (Q : zO → zH → Prop) (len pc : Nat) (k : zC) (lv : List (Option Value)) (st : List Value) (h : zH) (c s : Nat) n : zw l G o ini cc ret d Q (.astore_n n) len pc k lv st h c s = (len = 1 ∧ (zpR st fun x r => (n : Nat) < lv.length ∧ k (pc + 1) (zst1 lv (n : Nat) (.ref x)) r h c s)) := id rfl
theorem zw_iinc (l : Launch) (G : zG) (o : Nat) (ini : Bool) (cc : ByteArray) (ret : Option FieldType) (d : Nat) (Q : zO → zH → Prop) (len pc : Nat) (k : zC) (lv : List (Option Value)) (st : List Value) (h : zH) (c s : Nat) n v : zw l G o ini cc ret d Q (.iinc n v) len pc k lv st h c s = (len = 3 ∧ (zvI (zget lv n) fun x => n < lv.length ∧ k (pc + 3) (zst1 lv n (.int (x + Int32.ofInt v))) st h c s)) := id rfl
theorem zw_iadd (l : Launch) (G : zG) (o : Nat) (ini : Bool) (cc : ByteArray) (ret : Option FieldType) (d : Nat) (Q : zO → zH → Prop) (len pc : Nat) (k : zC) (lv : List (Option Value)) (st : List Value) (h : zH) (c s : Nat)  : zw l G o ini cc ret d Q .iadd len pc k lv st h c s = (len = 1 ∧ (zpI st fun y r => zpI r fun x r => k (pc + 1) lv (.int (x + y) :: r) h c s)) := id rfl
theorem zw_isub (l : Launch) (G : zG) (o : Nat) (ini : Bool) (cc : ByteArray) (ret : Option FieldType) (d : Nat) (Q : zO → zH → Prop) (len pc : Nat) (k : zC) (lv : List (Option Value)) (st : List Value) (h : zH) (c s : Nat)  : zw l G o ini cc ret d Q .isub len pc k lv st h c s = (len = 1 ∧ (zpI st fun y r => zpI r fun x r => k (pc + 1) lv (.int (x - y) :: r) h c s)) := id rfl
theorem zw_imul (l : Launch) (G : zG) (o : Nat) (ini : Bool) (cc : ByteArray) (ret : Option FieldType) (d : Nat) (Q : zO → zH → Prop) (len pc : Nat) (k : zC) (lv : List (Option Value)) (st : List Value) (h : zH) (c s : Nat)  : zw l G o ini cc ret d Q .imul len pc k lv st h c s = (len = 1 ∧ (zpI st fun y r => zpI r fun x r => k (pc + 1) lv (.int (x * y) :: r) h c s)) := id rfl
theorem zw_iand (l : Launch) (G : zG) (o : Nat) (ini : Bool) (cc : ByteArray) (ret : Option FieldType) (d : Nat) (Q : zO → zH → Prop) (len pc : Nat) (k : zC) (lv : List (Option Value)) (st : List Value) (h : zH) (c s : Nat)  : zw l G o ini cc ret d Q .iand len pc k lv st h c s = (len = 1 ∧ (zpI st fun y r => zpI r fun x r => k (pc + 1) lv (.int (x &&& y) :: r) h c s)) := id rfl
theorem zw_ior (l : Launch) (G : zG) (o : Nat) (ini : Bool) (cc : ByteArray) (ret : Option FieldType) (d : Nat) (Q : zO → zH → Prop) (len pc : Nat) (k : zC) (lv : List (Option Value)) (st : List Value) (h : zH) (c s : Nat)  : zw l G o ini cc ret d Q .ior len pc k lv st h c s = (len = 1 ∧ (zpI st fun y r => zpI r fun x r => k (pc + 1) lv (.int (x ||| y) :: r) h c s)) := id rfl
theorem zw_ixor (l : Launch) (G : zG) (o : Nat) (ini : Bool) (cc : ByteArray) (ret : Option FieldType) (d : Nat) (Q : zO → zH → Prop) (len pc : Nat) (k : zC) (lv : List (Option Value)) (st : List Value) (h : zH) (c s : Nat)  : zw l G o ini cc ret d Q .ixor len pc k lv st h c s = (len = 1 ∧ (zpI st fun y r => zpI r fun x r => k (pc + 1) lv (.int (x ^^^ y) :: r) h c s)) := id rfl
theorem zw_ishl (l : Launch) (G : zG) (o : Nat) (ini : Bool) (cc : ByteArray) (ret : Option FieldType) (d : Nat) (Q : zO → zH → Prop) (len pc : Nat) (k : zC) (lv : List (Option Value)) (st : List Value) (h : zH) (c s : Nat)  : zw l G o ini cc ret d Q .ishl len pc k lv st h c s = (len = 1 ∧ (zpI st fun y r => zpI r fun x r => k (pc + 1) lv (.int (x <<< (y &&& 31)) :: r) h c s)) := id rfl
theorem zw_ishr (l : Launch) (G : zG) (o : Nat) (ini : Bool) (cc : ByteArray) (ret : Option FieldType) (d : Nat) (Q : zO → zH → Prop) (len pc : Nat) (k : zC) (lv : List (Option Value)) (st : List Value) (h : zH) (c s : Nat)  : zw l G o ini cc ret d Q .ishr len pc k lv st h c s = (len = 1 ∧ (zpI st fun y r => zpI r fun x r => k (pc + 1) lv (.int (x >>> (y &&& 31)) :: r) h c s)) := id rfl
theorem zw_iushr (l : Launch) (G : zG) (o : Nat) (ini : Bool) (cc : ByteArray) (ret : Option FieldType) (d : Nat) (Q : zO → zH → Prop) (len pc : Nat) (k : zC) (lv : List (Option Value)) (st : List Value) (h : zH) (c s : Nat)  : zw l G o ini cc ret d Q .iushr len pc k lv st h c s = (len = 1 ∧ (zpI st fun y r => zpI r fun x r => k (pc + 1) lv (.int ((x.toUInt32 >>> (y.toUInt32 &&& Int32.toUInt32 31)).toInt32) :: r) h c s)) := id rfl
theorem zw_idiv (l : Launch) (G : zG) (o : Nat) (ini : Bool) (cc : ByteArray) (ret : Option FieldType) (d : Nat) (Q : zO → zH → Prop) (len pc : Nat) (k : zC) (lv : List (Option Value)) (st : List Value) (h : zH) (c s : Nat)  : zw l G o ini cc ret d Q .idiv len pc k lv st h c s = (len = 1 ∧ (zpI st fun y r => zpI r fun x r => ¬ y = 0 ∧ k (pc + 1) lv (.int (x / y) :: r) h c s)) := id rfl
theorem zw_irem (l : Launch) (G : zG) (o : Nat) (ini : Bool) (cc : ByteArray) (ret : Option FieldType) (d : Nat) (Q : zO → zH → Prop) (len pc : Nat) (k : zC) (lv : List (Option Value)) (st : List Value) (h : zH) (c s : Nat)  : zw l G o ini cc ret d Q .irem len pc k lv st h c s = (len = 1 ∧ (zpI st fun y r => zpI r fun x r => ¬ y = 0 ∧ k (pc + 1) lv (.int (x - x / y * y) :: r) h c s)) := id rfl
theorem zw_ladd (l : Launch) (G : zG) (o : Nat) (ini : Bool) (cc : ByteArray) (ret : Option FieldType) (d : Nat) (Q : zO → zH → Prop) (len pc : Nat) (k : zC) (lv : List (Option Value)) (st : List Value) (h : zH) (c s : Nat)  : zw l G o ini cc ret d Q .ladd len pc k lv st h c s = (len = 1 ∧ (zpL st fun y r => zpL r fun x r => k (pc + 1) lv (.long (x + y) :: r) h c s)) := id rfl
theorem zw_lmul (l : Launch) (G : zG) (o : Nat) (ini : Bool) (cc : ByteArray) (ret : Option FieldType) (d : Nat) (Q : zO → zH → Prop) (len pc : Nat) (k : zC) (lv : List (Option Value)) (st : List Value) (h : zH) (c s : Nat)  : zw l G o ini cc ret d Q .lmul len pc k lv st h c s = (len = 1 ∧ (zpL st fun y r => zpL r fun x r => k (pc + 1) lv (.long (x * y) :: r) h c s)) := id rfl
theorem zw_ldiv (l : Launch) (G : zG) (o : Nat) (ini : Bool) (cc : ByteArray) (ret : Option FieldType) (d : Nat) (Q : zO → zH → Prop) (len pc : Nat) (k : zC) (lv : List (Option Value)) (st : List Value) (h : zH) (c s : Nat)  : zw l G o ini cc ret d Q .ldiv len pc k lv st h c s = (len = 1 ∧ (zpL st fun y r => zpL r fun x r => ¬ y = 0 ∧ k (pc + 1) lv (.long (x / y) :: r) h c s)) := id rfl
theorem zw_i2l (l : Launch) (G : zG) (o : Nat) (ini : Bool) (cc : ByteArray) (ret : Option FieldType) (d : Nat) (Q : zO → zH → Prop) (len pc : Nat) (k : zC) (lv : List (Option Value)) (st : List Value) (h : zH) (c s : Nat)  : zw l G o ini cc ret d Q .i2l len pc k lv st h c s = (len = 1 ∧ (zpI st fun x r => k (pc + 1) lv (.long x.toInt64 :: r) h c s)) := id rfl
theorem zw_l2i (l : Launch) (G : zG) (o : Nat) (ini : Bool) (cc : ByteArray) (ret : Option FieldType) (d : Nat) (Q : zO → zH → Prop) (len pc : Nat) (k : zC) (lv : List (Option Value)) (st : List Value) (h : zH) (c s : Nat)  : zw l G o ini cc ret d Q .l2i len pc k lv st h c s = (len = 1 ∧ (zpL st fun x r => k (pc + 1) lv (.int x.toInt32 :: r) h c s)) := id rfl
theorem zw_i2b (l : Launch) (G : zG) (o : Nat) (ini : Bool) (cc : ByteArray) (ret : Option FieldType) (d : Nat) (Q : zO → zH → Prop) (len pc : Nat) (k : zC) (lv : List (Option Value)) (st : List Value) (h : zH) (c s : Nat)  : zw l G o ini cc ret d Q .i2b len pc k lv st h c s = (len = 1 ∧ (zpI st fun x r => k (pc + 1) lv (.int x.toInt8.toInt32 :: r) h c s)) := id rfl
theorem zw_i2c (l : Launch) (G : zG) (o : Nat) (ini : Bool) (cc : ByteArray) (ret : Option FieldType) (d : Nat) (Q : zO → zH → Prop) (len pc : Nat) (k : zC) (lv : List (Option Value)) (st : List Value) (h : zH) (c s : Nat)  : zw l G o ini cc ret d Q .i2c len pc k lv st h c s = (len = 1 ∧ (zpI st fun x r => k (pc + 1) lv (.int (x.toUInt32 % 65536).toInt32 :: r) h c s)) := id rfl
theorem zw_lcmp (l : Launch) (G : zG) (o : Nat) (ini : Bool) (cc : ByteArray) (ret : Option FieldType) (d : Nat) (Q : zO → zH → Prop) (len pc : Nat) (k : zC) (lv : List (Option Value)) (st : List Value) (h : zH) (c s : Nat)  : zw l G o ini cc ret d Q .lcmp len pc k lv st h c s = (len = 1 ∧ (zpL st fun y r => zpL r fun x r => k (pc + 1) lv (.int (lg_cmp x y) :: r) h c s)) := id rfl
theorem zw_dup (l : Launch) (G : zG) (o : Nat) (ini : Bool) (cc : ByteArray) (ret : Option FieldType) (d : Nat) (Q : zO → zH → Prop) (len pc : Nat) (k : zC) (lv : List (Option Value)) (st : List Value) (h : zH) (c s : Nat)  : zw l G o ini cc ret d Q .dup len pc k lv st h c s = (len = 1 ∧ (zpV st fun v r => v.category = 1 ∧ k (pc + 1) lv (v :: v :: r) h c s)) := id rfl
theorem zw_pop (l : Launch) (G : zG) (o : Nat) (ini : Bool) (cc : ByteArray) (ret : Option FieldType) (d : Nat) (Q : zO → zH → Prop) (len pc : Nat) (k : zC) (lv : List (Option Value)) (st : List Value) (h : zH) (c s : Nat)  : zw l G o ini cc ret d Q .pop len pc k lv st h c s = (len = 1 ∧ (zpV st fun v r => v.category = 1 ∧ k (pc + 1) lv r h c s)) := id rfl
theorem zw_dup2 (l : Launch) (G : zG) (o : Nat) (ini : Bool) (cc : ByteArray) (ret : Option FieldType) (d : Nat) (Q : zO → zH → Prop) (len pc : Nat) (k : zC) (lv : List (Option Value)) (st : List Value) (h : zH) (c s : Nat)  : zw l G o ini cc ret d Q .dup2 len pc k lv st h c s = (len = 1 ∧ (zpV st fun v r => zpV r fun u r => v.category = 1 ∧ u.category = 1 ∧ k (pc + 1) lv (v :: u :: v :: u :: r) h c s)) := id rfl
theorem zw_ifCond (l : Launch) (G : zG) (o : Nat) (ini : Bool) (cc : ByteArray) (ret : Option FieldType) (d : Nat) (Q : zO → zH → Prop) (len pc : Nat) (k : zC) (lv : List (Option Value)) (st : List Value) (h : zH) (c s : Nat) cn off : zw l G o ini cc ret d Q (.ifCond cn off) len pc k lv st h c s = (len = 3 ∧ (zpI st fun x r => zjp pc off fun t => (zcn x 0 cn → k t lv r h c s) ∧ (¬ zcn x 0 cn → k (pc + 3) lv r h c s))) := id rfl
theorem zw_if_icmp (l : Launch) (G : zG) (o : Nat) (ini : Bool) (cc : ByteArray) (ret : Option FieldType) (d : Nat) (Q : zO → zH → Prop) (len pc : Nat) (k : zC) (lv : List (Option Value)) (st : List Value) (h : zH) (c s : Nat) cn off : zw l G o ini cc ret d Q (.if_icmp cn off) len pc k lv st h c s = (len = 3 ∧ (zpI st fun y r => zpI r fun x r => zjp pc off fun t => (zcn x y cn → k t lv r h c s) ∧ (¬ zcn x y cn → k (pc + 3) lv r h c s))) := id rfl
theorem zw_if_acmp (l : Launch) (G : zG) (o : Nat) (ini : Bool) (cc : ByteArray) (ret : Option FieldType) (d : Nat) (Q : zO → zH → Prop) (len pc : Nat) (k : zC) (lv : List (Option Value)) (st : List Value) (h : zH) (c s : Nat) cn off : zw l G o ini cc ret d Q (.if_acmp cn off) len pc k lv st h c s = (len = 3 ∧ (zpQ st fun y r => zpQ r fun x r => zjp pc off fun t => match cn with
    | .eq => (x = y → k t lv r h c s) ∧ (¬ x = y → k (pc + 3) lv r h c s)
    | .ne => (¬ x = y → k t lv r h c s) ∧ (x = y → k (pc + 3) lv r h c s))) := id rfl
theorem zw_goto (l : Launch) (G : zG) (o : Nat) (ini : Bool) (cc : ByteArray) (ret : Option FieldType) (d : Nat) (Q : zO → zH → Prop) (len pc : Nat) (k : zC) (lv : List (Option Value)) (st : List Value) (h : zH) (c s : Nat) off : zw l G o ini cc ret d Q (.goto off) len pc k lv st h c s = (len = 3 ∧ (zjp pc off fun t => k t lv st h c s)) := id rfl
theorem zw_tableswitch (l : Launch) (G : zG) (o : Nat) (ini : Bool) (cc : ByteArray) (ret : Option FieldType) (d : Nat) (Q : zO → zH → Prop) (len pc : Nat) (k : zC) (lv : List (Option Value)) (st : List Value) (h : zH) (c s : Nat) df lo hi offs : zw l G o ini cc ret d Q (.tableswitch df lo hi offs) len pc k lv st h c s = (zpI st fun x r => (x.toInt < lo ∨ hi < x.toInt → zjp pc df fun t => k t lv r h c s) ∧ (hi + 1 - lo = offs.size ∧ ztb x pc (fun t => k t lv r h c s) offs.toList lo)) := id rfl
theorem zw_ldc (l : Launch) (G : zG) (o : Nat) (ini : Bool) (cc : ByteArray) (ret : Option FieldType) (d : Nat) (Q : zO → zH → Prop) (len pc : Nat) (k : zC) (lv : List (Option Value)) (st : List Value) (h : zH) (c s : Nat) n : zw l G o ini cc ret d Q (.ldc n) len pc k lv st h c s = (len = 2 ∧ (match zld o n, zls o n with
    | some v, _ => k (pc + 2) lv (.int v :: st) h c s
    | none, some t => ∀ a : Nat, zK h a = 300 + t → k (pc + 2) lv (.ref a :: st) h c s
    | none, none => False)) := id rfl
theorem zw_ldc_w (l : Launch) (G : zG) (o : Nat) (ini : Bool) (cc : ByteArray) (ret : Option FieldType) (d : Nat) (Q : zO → zH → Prop) (len pc : Nat) (k : zC) (lv : List (Option Value)) (st : List Value) (h : zH) (c s : Nat) n : zw l G o ini cc ret d Q (.ldc_w n) len pc k lv st h c s = (len = 3 ∧ (match zld o n, zls o n with
    | some v, _ => k (pc + 3) lv (.int v :: st) h c s
    | none, some t => ∀ a : Nat, zK h a = 300 + t → k (pc + 3) lv (.ref a :: st) h c s
    | none, none => False)) := id rfl
theorem zw_ldc2_w (l : Launch) (G : zG) (o : Nat) (ini : Bool) (cc : ByteArray) (ret : Option FieldType) (d : Nat) (Q : zO → zH → Prop) (len pc : Nat) (k : zC) (lv : List (Option Value)) (st : List Value) (h : zH) (c s : Nat) n : zw l G o ini cc ret d Q (.ldc2_w n) len pc k lv st h c s = (len = 3 ∧ (match zl2 o n with
    | some v => k (pc + 3) lv (.long v :: st) h c s
    | none => False)) := id rfl
theorem zw_getfield (l : Launch) (G : zG) (o : Nat) (ini : Bool) (cc : ByteArray) (ret : Option FieldType) (d : Nat) (Q : zO → zH → Prop) (len pc : Nat) (k : zC) (lv : List (Option Value)) (st : List Value) (h : zH) (c s : Nat) n : zw l G o ini cc ret d Q (.getfield n) len pc k lv st h c s = (len = 3 ∧ (match zfl o n with
    | some (ci, f, t, _) => zpR st fun a r => zK h a = 1 + ci ∧ k (pc + 3) lv (zfv h a t (100 * ci + f) :: r) h c s
    | none => False)) := id rfl
theorem zw_putfield (l : Launch) (G : zG) (o : Nat) (ini : Bool) (cc : ByteArray) (ret : Option FieldType) (d : Nat) (Q : zO → zH → Prop) (len pc : Nat) (k : zC) (lv : List (Option Value)) (st : List Value) (h : zH) (c s : Nat) n : zw l G o ini cc ret d Q (.putfield n) len pc k lv st h c s = (len = 3 ∧ (match zfl o n with
    | some (ci, f, t, fin) => zpf h t (100 * ci + f) st fun a r h2 => zK h a = 1 + ci ∧ (fin = false ∨ (ini = true ∧ zco ci = o)) ∧ k (pc + 3) lv r h2 c s
    | none => False)) := id rfl
theorem zw_iaload (l : Launch) (G : zG) (o : Nat) (ini : Bool) (cc : ByteArray) (ret : Option FieldType) (d : Nat) (Q : zO → zH → Prop) (len pc : Nat) (k : zC) (lv : List (Option Value)) (st : List Value) (h : zH) (c s : Nat)  : zw l G o ini cc ret d Q .iaload len pc k lv st h c s = (len = 1 ∧ (zpI st fun i r => zpR r fun a r => (zK h a = 100 ∨ zK h a = 200) ∧ zin i (zN h a) ∧ k (pc + 1) lv (.int (zA h a i.toNatClampNeg) :: r) h c s)) := id rfl
theorem zw_baload (l : Launch) (G : zG) (o : Nat) (ini : Bool) (cc : ByteArray) (ret : Option FieldType) (d : Nat) (Q : zO → zH → Prop) (len pc : Nat) (k : zC) (lv : List (Option Value)) (st : List Value) (h : zH) (c s : Nat)  : zw l G o ini cc ret d Q .baload len pc k lv st h c s = (len = 1 ∧ (zpI st fun i r => zpR r fun a r => (zK h a = 101 ∨ zK h a = 102) ∧ zin i (zN h a) ∧ k (pc + 1) lv (.int (zA h a i.toNatClampNeg) :: r) h c s)) := id rfl
theorem zw_laload (l : Launch) (G : zG) (o : Nat) (ini : Bool) (cc : ByteArray) (ret : Option FieldType) (d : Nat) (Q : zO → zH → Prop) (len pc : Nat) (k : zC) (lv : List (Option Value)) (st : List Value) (h : zH) (c s : Nat)  : zw l G o ini cc ret d Q .laload len pc k lv st h c s = (len = 1 ∧ (zpI st fun i r => zpR r fun a r => zK h a = 103 ∧ zin i (zN h a) ∧ k (pc + 1) lv (.long (zB h a i.toNatClampNeg) :: r) h c s)) := id rfl
theorem zw_aaload (l : Launch) (G : zG) (o : Nat) (ini : Bool) (cc : ByteArray) (ret : Option FieldType) (d : Nat) (Q : zO → zH → Prop) (len pc : Nat) (k : zC) (lv : List (Option Value)) (st : List Value) (h : zH) (c s : Nat)  : zw l G o ini cc ret d Q .aaload len pc k lv st h c s = (len = 1 ∧ (zpI st fun i r => zpR r fun a r => (104 ≤ zK h a ∧ zK h a ≤ 107) ∧ zin i (zN h a) ∧ k (pc + 1) lv (va_rf (zR h a i.toNatClampNeg) :: r) h c s)) := id rfl
theorem zw_iastore (l : Launch) (G : zG) (o : Nat) (ini : Bool) (cc : ByteArray) (ret : Option FieldType) (d : Nat) (Q : zO → zH → Prop) (len pc : Nat) (k : zC) (lv : List (Option Value)) (st : List Value) (h : zH) (c s : Nat)  : zw l G o ini cc ret d Q .iastore len pc k lv st h c s = (len = 1 ∧ (zpI st fun v r => zpI r fun i r => zpR r fun a r => zK h a = 100 ∧ zin i (zN h a) ∧ k (pc + 1) lv r (zsA h a i.toNatClampNeg v) c s)) := id rfl
theorem zw_bastore (l : Launch) (G : zG) (o : Nat) (ini : Bool) (cc : ByteArray) (ret : Option FieldType) (d : Nat) (Q : zO → zH → Prop) (len pc : Nat) (k : zC) (lv : List (Option Value)) (st : List Value) (h : zH) (c s : Nat)  : zw l G o ini cc ret d Q .bastore len pc k lv st h c s = (len = 1 ∧ (zpI st fun v r => zpI r fun i r => zpR r fun a r => ((zK h a = 101 ∧ (v = 0 ∨ v = 1)) ∨ (zK h a = 102 ∧ v.toInt8.toInt32 = v)) ∧ zin i (zN h a) ∧ k (pc + 1) lv r (zsA h a i.toNatClampNeg v) c s)) := id rfl
theorem zw_lastore (l : Launch) (G : zG) (o : Nat) (ini : Bool) (cc : ByteArray) (ret : Option FieldType) (d : Nat) (Q : zO → zH → Prop) (len pc : Nat) (k : zC) (lv : List (Option Value)) (st : List Value) (h : zH) (c s : Nat)  : zw l G o ini cc ret d Q .lastore len pc k lv st h c s = (len = 1 ∧ (zpL st fun v r => zpI r fun i r => zpR r fun a r => zK h a = 103 ∧ zin i (zN h a) ∧ k (pc + 1) lv r (zsB h a i.toNatClampNeg v) c s)) := id rfl
theorem zw_aastore (l : Launch) (G : zG) (o : Nat) (ini : Bool) (cc : ByteArray) (ret : Option FieldType) (d : Nat) (Q : zO → zH → Prop) (len pc : Nat) (k : zC) (lv : List (Option Value)) (st : List Value) (h : zH) (c s : Nat)  : zw l G o ini cc ret d Q .aastore len pc k lv st h c s = (len = 1 ∧ (zpR st fun v r => zpI r fun i r => zpR r fun a r => ((zK h a = 105 ∧ zK h v = 9) ∨ (zK h a = 106 ∧ zK h v = 6) ∨ (zK h a = 107 ∧ zK h v = 4)) ∧ zin i (zN h a) ∧ k (pc + 1) lv r (zsR h a i.toNatClampNeg (some v)) c s)) := id rfl
theorem zw_arraylength (l : Launch) (G : zG) (o : Nat) (ini : Bool) (cc : ByteArray) (ret : Option FieldType) (d : Nat) (Q : zO → zH → Prop) (len pc : Nat) (k : zC) (lv : List (Option Value)) (st : List Value) (h : zH) (c s : Nat)  : zw l G o ini cc ret d Q .arraylength len pc k lv st h c s = (len = 1 ∧ (zpR st fun a r => ((100 ≤ zK h a ∧ zK h a ≤ 107) ∨ zK h a = 200) ∧ k (pc + 1) lv (.int (nI (zN h a)) :: r) h c s)) := id rfl
theorem zw_new (l : Launch) (G : zG) (o : Nat) (ini : Bool) (cc : ByteArray) (ret : Option FieldType) (d : Nat) (Q : zO → zH → Prop) (len pc : Nat) (k : zC) (lv : List (Option Value)) (st : List Value) (h : zH) (c s : Nat) n : zw l G o ini cc ret d Q (.new n) len pc k lv st h c s = (len = 3 ∧ (match znw o n with
    | some (kd, m) => ∃ q, zS h = some q ∧ 1 ≤ c ∧ m ≤ s ∧ k (pc + 3) lv (.ref q :: st) (zal h q kd 0) (c - 1) (s - m)
    | none => match zxc o n with
      | some (E, ic) => decode cc (pc + 3) = .ok (.dup, 1) ∧ decode cc (pc + 4) = .ok (.invokespecial ic, 3) ∧ decode cc (pc + 7) = .ok (.athrow, 1) ∧ 1 ≤ c ∧ 6 ≤ s ∧ 10 ≤ d ∧ zcs st ≤ 8 ∧ Q (.inr E) (zsS h none)
      | none => False)) := id rfl
theorem zw_newarray (l : Launch) (G : zG) (o : Nat) (ini : Bool) (cc : ByteArray) (ret : Option FieldType) (d : Nat) (Q : zO → zH → Prop) (len pc : Nat) (k : zC) (lv : List (Option Value)) (st : List Value) (h : zH) (c s : Nat) ty : zw l G o ini cc ret d Q (.newarray ty) len pc k lv st h c s = (len = 2 ∧ (zpI st fun n r => ∃ q, zS h = some q ∧ 0 ≤ n ∧ n.toNatClampNeg ≤ 60000 ∧ 1 ≤ c ∧ n.toNatClampNeg ≤ s ∧ ∃ kd, (match ty with
      | .int => kd = 100
      | .boolean => kd = 101
      | .byte => kd = 102
      | .long => kd = 103
      | _ => False) ∧ k (pc + 2) lv (.ref q :: r) (zal h q kd n.toNatClampNeg) (c - 1) (s - n.toNatClampNeg))) := id rfl
theorem zw_anewarray (l : Launch) (G : zG) (o : Nat) (ini : Bool) (cc : ByteArray) (ret : Option FieldType) (d : Nat) (Q : zO → zH → Prop) (len pc : Nat) (k : zC) (lv : List (Option Value)) (st : List Value) (h : zH) (c s : Nat) i9 : zw l G o ini cc ret d Q (.anewarray i9) len pc k lv st h c s = (len = 3 ∧ (match zna o i9 with
    | some kd => zpI st fun n r => ∃ q, zS h = some q ∧ 0 ≤ n ∧ n.toNatClampNeg ≤ 60000 ∧ 1 ≤ c ∧ n.toNatClampNeg ≤ s ∧ k (pc + 3) lv (.ref q :: r) (zal h q kd n.toNatClampNeg) (c - 1) (s - n.toNatClampNeg)
    | none => False)) := id rfl
theorem zw_multianewarray (l : Launch) (G : zG) (o : Nat) (ini : Bool) (cc : ByteArray) (ret : Option FieldType) (d : Nat) (Q : zO → zH → Prop) (len pc : Nat) (k : zC) (lv : List (Option Value)) (st : List Value) (h : zH) (c s : Nat) i9 dm : zw l G o ini cc ret d Q (.multianewarray i9 dm) len pc k lv st h c s = (len = 4 ∧ (o = 9 ∧ i9 = 21 ∧ dm = 2 ∧ zpI st fun n2 r => zpI r fun n r => ∃ q, zS h = some q ∧ 0 ≤ n ∧ 0 ≤ n2 ∧ n.toNatClampNeg ≤ 1000 ∧ n2.toNatClampNeg ≤ 1000 ∧ 1 + n.toNatClampNeg ≤ c ∧ n.toNatClampNeg + n.toNatClampNeg * n2.toNatClampNeg ≤ s ∧ k (pc + 4) lv (.ref q :: r) (zmu h q n.toNatClampNeg n2.toNatClampNeg) (c - (1 + n.toNatClampNeg)) (s - (n.toNatClampNeg + n.toNatClampNeg * n2.toNatClampNeg)))) := id rfl
theorem zw_invokevirtual (l : Launch) (G : zG) (o : Nat) (ini : Bool) (cc : ByteArray) (ret : Option FieldType) (d : Nat) (Q : zO → zH → Prop) (len pc : Nat) (k : zC) (lv : List (Option Value)) (st : List Value) (h : zH) (c s : Nat) n : zw l G o ini cc ret d Q (.invokevirtual n) len pc k lv st h c s = (len = 3 ∧ (match zml o n with
    | some (y, t, kd, m) => if t = 0 then 0 < d ∧ y.2.2.2.2.1 ≤ c ∧ y.2.2.2.2.2 ≤ s ∧ zpn m [] st fun as r => zpR r fun a r => zK h a = kd ∧ zcs r ≤ 8 ∧ zCall l G y (d - 1) (.ref a :: as) h (zrs (fun vs h2 => k (pc + 3) lv (vs ++ r) h2 (c - y.2.2.2.2.1) (s - y.2.2.2.2.2)) (fun E h2 => Q (.inr E) h2))
      else if t = 20 then 5 < d ∧ zpR st fun a r => 300 ≤ zK h a ∧ zcs r ≤ 8 ∧ k (pc + 3) lv (.int (nI (ztl (zK h a - 300))) :: r) h c s
      else if t = 21 then 5 < d ∧ zpI st fun i r => zpR r fun a r => 300 ≤ zK h a ∧ zin i (ztl (zK h a - 300)) ∧ zcs r ≤ 8 ∧ k (pc + 3) lv (.int (ztc (zK h a - 300) i.toNatClampNeg) :: r) h c s
      else False
    | none => False)) := id rfl
theorem zw_invokestatic (l : Launch) (G : zG) (o : Nat) (ini : Bool) (cc : ByteArray) (ret : Option FieldType) (d : Nat) (Q : zO → zH → Prop) (len pc : Nat) (k : zC) (lv : List (Option Value)) (st : List Value) (h : zH) (c s : Nat) n : zw l G o ini cc ret d Q (.invokestatic n) len pc k lv st h c s = (len = 3 ∧ (match zml o n with
    | some (y, t, kd, m) => if t = 1 then 0 < d ∧ y.2.2.2.2.1 ≤ c ∧ y.2.2.2.2.2 ≤ s ∧ zpn m [] st fun as r => zcs r ≤ 8 ∧ zCall l G y (d - 1) as h (zrs (fun vs h2 => k (pc + 3) lv (vs ++ r) h2 (c - y.2.2.2.2.1) (s - y.2.2.2.2.2)) (fun E h2 => Q (.inr E) h2))
      else if t = 10 then 0 < d ∧ zpI st fun y r => zpI r fun x r => zcs r ≤ 8 ∧ k (pc + 3) lv (.int (if x < y then y else x) :: r) h c s
      else if t = 11 then 0 < d ∧ zpI st fun y r => zpI r fun x r => zcs r ≤ 8 ∧ k (pc + 3) lv (.int (if y < x then y else x) :: r) h c s
      else if t = 12 then 0 < d ∧ zpL st fun y r => zpL r fun x r => zcs r ≤ 8 ∧ k (pc + 3) lv (.long (if y < x then x else y) :: r) h c s
      else False
    | none => False)) := id rfl
theorem zw_invokespecial (l : Launch) (G : zG) (o : Nat) (ini : Bool) (cc : ByteArray) (ret : Option FieldType) (d : Nat) (Q : zO → zH → Prop) (len pc : Nat) (k : zC) (lv : List (Option Value)) (st : List Value) (h : zH) (c s : Nat) n : zw l G o ini cc ret d Q (.invokespecial n) len pc k lv st h c s = (len = 3 ∧ (match zml o n with
    | some (y, t, kd, m) => if t = 2 then 0 < d ∧ y.2.2.2.2.1 ≤ c ∧ y.2.2.2.2.2 ≤ s ∧ zpn m [] st fun as r => zpR r fun a r => zcs r ≤ 8 ∧ zCall l G y (d - 1) (.ref a :: as) h (zrs (fun vs h2 => k (pc + 3) lv (vs ++ r) h2 (c - y.2.2.2.2.1) (s - y.2.2.2.2.2)) (fun E h2 => Q (.inr E) h2))
      else if t = 3 then 0 < d ∧ zpR st fun a r => zcs r ≤ 8 ∧ k (pc + 3) lv r h c s
      else False
    | none => False)) := id rfl
theorem zw_ireturn (l : Launch) (G : zG) (o : Nat) (ini : Bool) (cc : ByteArray) (ret : Option FieldType) (d : Nat) (Q : zO → zH → Prop) (len pc : Nat) (k : zC) (lv : List (Option Value)) (st : List Value) (h : zH) (c s : Nat)  : zw l G o ini cc ret d Q .ireturn len pc k lv st h c s = (len = 1 ∧ (zpI st fun x r => r = [] ∧ match ret with
    | some .int => Q (.inl (some (.int x))) h
    | some .boolean => (x = 0 ∨ x = 1) ∧ Q (.inl (some (.int x))) h
    | _ => False)) := id rfl
theorem zw_lreturn (l : Launch) (G : zG) (o : Nat) (ini : Bool) (cc : ByteArray) (ret : Option FieldType) (d : Nat) (Q : zO → zH → Prop) (len pc : Nat) (k : zC) (lv : List (Option Value)) (st : List Value) (h : zH) (c s : Nat)  : zw l G o ini cc ret d Q .lreturn len pc k lv st h c s = (len = 1 ∧ (zpL st fun x r => r = [] ∧ ret = some .long ∧ Q (.inl (some (.long x))) h)) := id rfl
theorem zw_areturn (l : Launch) (G : zG) (o : Nat) (ini : Bool) (cc : ByteArray) (ret : Option FieldType) (d : Nat) (Q : zO → zH → Prop) (len pc : Nat) (k : zC) (lv : List (Option Value)) (st : List Value) (h : zH) (c s : Nat)  : zw l G o ini cc ret d Q .areturn len pc k lv st h c s = (len = 1 ∧ (zpQ st fun x r => r = [] ∧ (match ret with
    | some (.object _) => True
    | _ => False) ∧ Q (.inl (some (va_rf x))) h)) := id rfl
theorem zw_return_ (l : Launch) (G : zG) (o : Nat) (ini : Bool) (cc : ByteArray) (ret : Option FieldType) (d : Nat) (Q : zO → zH → Prop) (len pc : Nat) (k : zC) (lv : List (Option Value)) (st : List Value) (h : zH) (c s : Nat)  : zw l G o ini cc ret d Q .return_ len pc k lv st h c s = (len = 1 ∧ (st = [] ∧ ret = none ∧ Q (.inl none) h)) := id rfl
def zm (x : Except DecodeError (Instr × Nat)) (f : Instr → Nat → Prop) : Prop := match x with
  | .ok (i, len) => f i len
  | _ => False
theorem zm_ok (i len f) : zm (.ok (i, len)) f = f i len := id rfl
def zstp : List Nat → Nat → Bool
  | [], _ => false
  | x :: xs, p => (p == x) || zstp xs p
theorem zstp_n (p) : zstp [] p = false := id rfl
theorem zstp_c (x xs p) : zstp (x :: xs) p = ((p == x) || zstp xs p) := id rfl
def zgo (stops : List Nat) (K f : zC) : zC := fun pc lv st h c s => if zstp stops pc = true then K pc lv st h c s else f pc lv st h c s
theorem zgo_c (stops K f pc lv st h c s) : zgo stops K f pc lv st h c s = if zstp stops pc = true then K pc lv st h c s else f pc lv st h c s := id rfl
def zb (l : Launch) (G : zG) (o : Nat) (ini : Bool) (cc : ByteArray) (ret : Option FieldType) (d : Nat) (Q : zO → zH → Prop) (stops : List Nat) (K : zC) : Nat → zC
  | 0 => K
  | n + 1 => fun pc lv st h c s => zm (decode cc pc) fun i len => zw l G o ini cc ret d Q i len pc (zgo stops K (zb l G o ini cc ret d Q stops K n)) lv st h c s
theorem zb_0 (l : Launch) (G : zG) (o : Nat) (ini : Bool) (cc : ByteArray) (ret : Option FieldType) (d : Nat) (Q : zO → zH → Prop) (stops K) : zb l G o ini cc ret d Q stops K 0 = K := id rfl
theorem zb_s (l : Launch) (G : zG) (o : Nat) (ini : Bool) (cc : ByteArray) (ret : Option FieldType) (d : Nat) (Q : zO → zH → Prop) (stops K n pc lv st h c s) : zb l G o ini cc ret d Q stops K (n + 1) pc lv st h c s = zm (decode cc pc) fun i len => zw l G o ini cc ret d Q i len pc (zgo stops K (zb l G o ini cc ret d Q stops K n)) lv st h c s := id rfl
