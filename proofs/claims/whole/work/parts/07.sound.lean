/-! THE WALKER IS RIGHT -/
abbrev zX : Type := Program × Env × Room × State × MethodId × Array Value × List Frame × Method × Code × (State → Prop)
def zW (l : Launch) (X : zX) (H : Heap) (locs : List Loc) (cells slots : Nat) (g : JFrame) : Prop := W X.1 l X.2.1 X.2.2.1 X.2.2.2.1 X.2.2.2.2.1 X.2.2.2.2.2.1 X.2.2.2.2.2.2.1 X.2.2.2.2.2.2.2.1 X.2.2.2.2.2.2.2.2.1 H locs cells slots X.2.2.2.2.2.2.2.2.2 g
def zhas (ls : Array Slot) (lv : List (Option Value)) : Prop := ls.size = lv.length ∧ lv_wf ls ∧ ∀ i v, zget lv i = some v → ls[i]? = some (.val v)
/-- from this place of the frame the walk comes to its end -/
def zJ (l : Launch) (G : zG) (X : zX) : zC := fun pc lv st h c s =>
  ∀ (H : Heap) (locs : List Loc) (cells slots : Nat) (ls : Array Slot), zRp G h X.2.2.2.1 H → va_S (zgA G) X.2.2.2.1.heap H locs → cells + c ≤ X.2.2.1.cells → slots + s ≤ X.2.2.1.slots → zhas ls lv → lv.length = X.2.2.2.2.2.2.2.2.1.maxLocals →
    zW l X H locs cells slots (F0 X.2.2.2.2.1 pc ls st)
/-- what is at a return -/
def zrp (cc : ByteArray) (ret : Option FieldType) (pc : Nat) (st : List Value) (v : Option Value) : Prop :=
  (decode cc pc = .ok (.ireturn, 1) ∧ ∃ x : Int32, v = some (.int x) ∧ st = [.int x] ∧ (ret = some .int ∨ (ret = some .boolean ∧ (x = 0 ∨ x = 1)))) ∨
  (decode cc pc = .ok (.return_, 1) ∧ v = none ∧ st = [] ∧ ret = none) ∨
  (decode cc pc = .ok (.lreturn, 1) ∧ ∃ x : Int64, v = some (.long x) ∧ st = [.long x] ∧ ret = some .long) ∨
  (decode cc pc = .ok (.areturn, 1) ∧ ∃ x : Option Nat, v = some (va_rf x) ∧ st = [va_rf x] ∧ ∃ C, ret = some (.object C))
def zOk (l : Launch) (G : zG) (o : Nat) (ini : Bool) (cc : ByteArray) (ret : Option FieldType) (d : Nat) (Q : zO → zH → Prop) : zX → Prop := fun (p, e, R, s, m, args, below, meth, cd, Z) =>
  p.tables.exec = Jvm.exec ∧ cd.code = cc ∧ s.vm.findClass (zRn o) = some m.cls ∧ zWt G s ∧ zWh G s s.heap ∧ d ≤ R.frames ∧ 31 * d ≤ R.locals ∧ True ∧ meth.locks = false ∧ (ini = true → meth.name = "<init>") ∧
  (∀ (v : Option Value) (h : zH) (H : Heap) (locs : List Loc) (cells slots : Nat) (ls : Array Slot) (pc : Nat) (st : List Value), Q (.inl v) h → zRp G h s H → va_S (zgA G) s.heap H locs → cells ≤ R.cells → slots ≤ R.slots → zrp cc ret pc st v → W p l e R s m args below meth cd H locs cells slots Z (F0 m pc ls st)) ∧
  (∀ (E : String) (ce : Cell) (q : Addr) (h : zH) (H : Heap) (locs : List Loc) (cells slots : Nat) (ls : Array Slot) (pc : Nat) (st : List Value), Q (.inr E) h → zRp G h s H → va_S (zgA G) s.heap H locs → cells ≤ R.cells → slots ≤ R.slots → H[q]? = some ce → ce.vm = .none → s.vm.findClass E = some ce.cls → vx_W p l e R s m args below meth cd H locs cells slots Z (F0 m pc ls st) q) ∧
  (∀ (E : String) (ik ic : Nat) (h : zH) (H : Heap) (locs : List Loc) (cells slots : Nat) (ls : Array Slot) (pc : Nat) (st : List Value), zxc o ik = some (E, ic) → decode cc pc = .ok (.new ik, 3) → decode cc (pc + 3) = .ok (.dup, 1) → decode cc (pc + 4) = .ok (.invokespecial ic, 3) → decode cc (pc + 7) = .ok (.athrow, 1) → Q (.inr E) (zsS h none) → zRp G h s H → va_S (zgA G) s.heap H locs → cells + 1 ≤ R.cells → slots + 6 ≤ R.slots → 10 ≤ d → zcs st ≤ 8 → ls.size = cd.maxLocals → W p l e R s m args below meth cd H locs cells slots Z (F0 m pc ls st)) ∧ l.stackTraces = false
theorem zok_tab {w : Cond} (hz : zok w = true) : w.onTables = true := by
  unfold zok at hz
  simp only [Bool.and_eq_true] at hz
  exact hz.1
theorem zuse {G : zG} {s : State} {w : Cond} {a : Array Value} (h : zWt G s) (hw : w ∈ lw_tbl) (hz : zok w = true) : w.before a s = true := va_Nw.use (zok_tab hz) (h.2.1 w hw hz)
theorem zin_vp {i : Int32} {n : Nat} (h : zin i n) : vp_in i n := by
  unfold zin at h
  unfold vp_in
  intro q
  rcases q with q | q
  · have h1 := Int32.le_iff_toInt_le.mp h.1
    have h2 := Int32.lt_iff_toInt_lt.mp q
    omega
  · omega
def zen : Nat → List (Option Value) → List (Nat × Value)
  | _, [] => []
  | k, none :: xs => zen (k + 1) xs
  | k, some v :: xs => (k, v) :: zen (k + 1) xs
theorem zen_mem : ∀ (lv : List (Option Value)) (k : Nat) (q : Nat × Value), q ∈ zen k lv ↔ k ≤ q.1 ∧ zget lv (q.1 - k) = some q.2
  | [], k, q => by simp [zen, zget]
  | x :: xs, k, q => by
    have ih := zen_mem xs (k + 1) q
    have key : k ≤ q.1 ∧ zget (x :: xs) (q.1 - k) = some q.2 ↔ (q.1 = k ∧ x = some q.2) ∨ (k + 1 ≤ q.1 ∧ zget xs (q.1 - (k + 1)) = some q.2) := by
      by_cases h : q.1 = k
      · rw [h]
        simp [zget]
        omega
      · by_cases h2 : k + 1 ≤ q.1
        · rw [show q.1 - k = (q.1 - (k + 1)) + 1 by omega, zget_s]
          simp [h, h2]
          omega
        · constructor
          · intro z
            omega
          · rintro (z | z)
            · exact absurd z.1 h
            · omega
    rw [key]
    cases x with
    | none =>
      simp only [zen, ih]
      simp
    | some v =>
      simp only [zen, List.mem_cons, ih]
      constructor
      · rintro (rfl | z)
        · exact Or.inl ⟨rfl, rfl⟩
        · exact Or.inr z
      · rintro (⟨rfl, z⟩ | z)
        · cases z
          exact Or.inl rfl
        · exact Or.inr z
theorem zhas_has {ls lv} (h : zhas ls lv) : lv_has ls lv.length (zen 0 lv) := ⟨h.1, h.2.1, fun q hq => by
  have := ((zen_mem lv 0 q).mp hq).2
  exact h.2.2 _ _ (by simpa using this)⟩
theorem zst1_len : ∀ (lv : List (Option Value)) (n : Nat) (v : Value), (zst1 lv n v).length = lv.length
  | [], _, _ => rfl
  | _ :: _, 0, _ => rfl
  | x :: xs, 1, v => by rw [zst1_1, List.length_cons, zst1_len xs 0 v, List.length_cons]
  | x :: xs, n + 2, v => by rw [zst1_s, List.length_cons, zst1_len xs (n + 1) v, List.length_cons]
theorem zht_len : ∀ lv : List (Option Value), (zht lv).length = lv.length
  | [] => rfl
  | _ :: _ => rfl
theorem zst2_len : ∀ (lv : List (Option Value)) (n : Nat) (v : Value), (zst2 lv n v).length = lv.length
  | [], _, _ => rfl
  | _ :: xs, 0, _ => by rw [zst2_0, List.length_cons, zht_len, List.length_cons]
  | x :: xs, 1, v => by rw [zst2_1, List.length_cons, zst2_len xs 0 v, List.length_cons]
  | x :: xs, n + 2, v => by rw [zst2_s, List.length_cons, zst2_len xs (n + 1) v, List.length_cons]
theorem zdl_some {x : Option Value} {w : Value} (h : zdl x = some w) : x = some w ∧ ¬ w.category = 2 := by
  cases x with
  | none => cases h
  | some v =>
    unfold zdl at h
    simp only [Option.bind] at h
    split at h
    · cases h
    · cases h
      exact ⟨rfl, by assumption⟩
theorem zst1_get : ∀ (lv : List (Option Value)) (n : Nat) (v : Value) (i : Nat) (w : Value), zget (zst1 lv n v) i = some w → (i = n ∧ w = v) ∨ (i ≠ n ∧ zget lv i = some w ∧ ¬ (i + 1 = n ∧ w.category = 2))
  | [], n, v, i, w, h => by simp [zst1, zget] at h
  | x :: xs, 0, v, 0, w, h => by
    cases h
    exact Or.inl ⟨rfl, rfl⟩
  | x :: xs, 0, v, i + 1, w, h => Or.inr ⟨by omega, h, by omega⟩
  | x :: xs, 1, v, 0, w, h => by
    have := zdl_some (show zdl x = some w from h)
    exact Or.inr ⟨by omega, this.1, fun q => this.2 q.2⟩
  | x :: xs, 1, v, i + 1, w, h => by
    rcases zst1_get xs 0 v i w h with q | q
    · exact Or.inl ⟨by omega, q.2⟩
    · exact Or.inr ⟨by omega, q.2.1, by omega⟩
  | x :: xs, n + 2, v, 0, w, h => Or.inr ⟨by omega, h, by omega⟩
  | x :: xs, n + 2, v, i + 1, w, h => by
    rcases zst1_get xs (n + 1) v i w h with q | q
    · exact Or.inl ⟨by omega, q.2⟩
    · exact Or.inr ⟨by omega, q.2.1, fun z => q.2.2 ⟨by omega, z.2⟩⟩
theorem zst2_get : ∀ (lv : List (Option Value)) (n : Nat) (v : Value) (i : Nat) (w : Value), zget (zst2 lv n v) i = some w → (i = n ∧ w = v) ∨ (i ≠ n ∧ i ≠ n + 1 ∧ zget lv i = some w ∧ ¬ (i + 1 = n ∧ w.category = 2))
  | [], n, v, i, w, h => by simp [zst2, zget] at h
  | x :: xs, 0, v, 0, w, h => by
    cases h
    exact Or.inl ⟨rfl, rfl⟩
  | x :: [], 0, v, i + 1, w, h => by simp [zst2, zht, zget] at h
  | x :: y :: ys, 0, v, 1, w, h => by simp [zst2, zht, zget] at h
  | x :: y :: ys, 0, v, i + 2, w, h => Or.inr ⟨by omega, by omega, h, by omega⟩
  | x :: xs, 1, v, 0, w, h => by
    have := zdl_some (show zdl x = some w from h)
    exact Or.inr ⟨by omega, by omega, this.1, fun q => this.2 q.2⟩
  | x :: xs, 1, v, i + 1, w, h => by
    rcases zst2_get xs 0 v i w h with q | q
    · exact Or.inl ⟨by omega, q.2⟩
    · exact Or.inr ⟨by omega, by omega, q.2.2.1, by omega⟩
  | x :: xs, n + 2, v, 0, w, h => Or.inr ⟨by omega, by omega, h, by omega⟩
  | x :: xs, n + 2, v, i + 1, w, h => by
    rcases zst2_get xs (n + 1) v i w h with q | q
    · exact Or.inl ⟨by omega, q.2⟩
    · exact Or.inr ⟨by omega, by omega, q.2.2.1, fun z => q.2.2.2 ⟨by omega, z.2⟩⟩
theorem zhas_st1 {ls' : Array Slot} {lv : List (Option Value)} {n : Nat} {v : Value} (h : lv_has ls' lv.length ((n, v) :: (zen 0 lv).filter (fun q => !(q.1 == n) && !(q.1 + 1 == n && q.2.category == 2)))) : zhas ls' (zst1 lv n v) := by
  refine ⟨by rw [zst1_len]; exact h.1, h.2.1, fun i w hw => ?_⟩
  refine h.2.2 (i, w) ?_
  rcases zst1_get lv n v i w hw with ⟨rfl, rfl⟩ | ⟨q1, q2, q3⟩
  · exact List.mem_cons_self
  · refine List.mem_cons_of_mem _ (List.mem_filter.mpr ⟨(zen_mem lv 0 (i, w)).mpr ⟨Nat.zero_le _, by simpa using q2⟩, ?_⟩)
    have e1 : (i == n) = false := by simpa using q1
    have e2 : (i + 1 == n && w.category == 2) = false := by
      rw [Bool.eq_false_iff]
      intro z
      simp only [Bool.and_eq_true, beq_iff_eq] at z
      exact q3 z
    simp only [e1, e2, Bool.not_false, Bool.and_true]
theorem zhas_st2 {ls' : Array Slot} {lv : List (Option Value)} {n : Nat} {v : Value} (h : lv_has ls' lv.length ((n, v) :: (zen 0 lv).filter (fun q => !(q.1 == n) && (!(q.1 == n + 1) && !(q.1 + 1 == n && q.2.category == 2))))) : zhas ls' (zst2 lv n v) := by
  refine ⟨by rw [zst2_len]; exact h.1, h.2.1, fun i w hw => ?_⟩
  refine h.2.2 (i, w) ?_
  rcases zst2_get lv n v i w hw with ⟨rfl, rfl⟩ | ⟨q1, q0, q2, q3⟩
  · exact List.mem_cons_self
  · refine List.mem_cons_of_mem _ (List.mem_filter.mpr ⟨(zen_mem lv 0 (i, w)).mpr ⟨Nat.zero_le _, by simpa using q2⟩, ?_⟩)
    have e1 : (i == n) = false := by simpa using q1
    have e0 : (i == n + 1) = false := by simpa using q0
    have e2 : (i + 1 == n && w.category == 2) = false := by
      rw [Bool.eq_false_iff]
      intro z
      simp only [Bool.and_eq_true, beq_iff_eq] at z
      exact q3 z
    simp only [e1, e0, e2, Bool.not_false, Bool.and_true]
