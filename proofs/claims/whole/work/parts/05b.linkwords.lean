theorem zmk1 (i : Nat) {w : Cond} (h : tables_1_1[i]? = some w) : w ∈ lw_tbl := List.mem_append_right _ (List.mem_append_left _ (List.mem_of_getElem? h))
theorem zmk2 (i : Nat) {w : Cond} (h : tables_1_2[i]? = some w) : w ∈ lw_tbl := List.mem_append_right _ (List.mem_append_right _ (List.mem_append_left _ (List.mem_of_getElem? h)))
theorem zmk3 (i : Nat) {w : Cond} (h : tables_1_3[i]? = some w) : w ∈ lw_tbl := List.mem_append_right _ (List.mem_append_right _ (List.mem_append_right _ (List.mem_append_left _ (List.mem_of_getElem? h))))
theorem zmk4 (i : Nat) {w : Cond} (h : tables_1_4[i]? = some w) : w ∈ lw_tbl := List.mem_append_right _ (List.mem_append_right _ (List.mem_append_right _ (List.mem_append_right _ (List.mem_append_left _ (List.mem_of_getElem? h)))))
theorem zmk5 (i : Nat) {w : Cond} (h : tables_1_5[i]? = some w) : w ∈ lw_tbl := List.mem_append_right _ (List.mem_append_right _ (List.mem_append_right _ (List.mem_append_right _ (List.mem_append_right _ (List.mem_append_left _ (List.mem_of_getElem? h))))))
theorem zmk6 (i : Nat) {w : Cond} (h : tables_1_6[i]? = some w) : w ∈ lw_tbl := List.mem_append_right _ (List.mem_append_right _ (List.mem_append_right _ (List.mem_append_right _ (List.mem_append_right _ (List.mem_append_right _ (List.mem_append_left _ (List.mem_of_getElem? h)))))))
theorem zmk7 (i : Nat) {w : Cond} (h : tables_1_7[i]? = some w) : w ∈ lw_tbl := List.mem_append_right _ (List.mem_append_right _ (List.mem_append_right _ (List.mem_append_right _ (List.mem_append_right _ (List.mem_append_right _ (List.mem_append_right _ (List.mem_append_left _ (List.mem_of_getElem? h))))))))
theorem zmk8 (i : Nat) {w : Cond} (h : tables_1_8[i]? = some w) : w ∈ lw_tbl := List.mem_append_right _ (List.mem_append_right _ (List.mem_append_right _ (List.mem_append_right _ (List.mem_append_right _ (List.mem_append_right _ (List.mem_append_right _ (List.mem_append_right _ (List.mem_of_getElem? h))))))))
theorem zmem (i : Nat) {w : Cond} (h : tables_1[i]? = some w) : w ∈ lw_tbl := List.mem_append_right _ (List.mem_of_getElem? h)
theorem zsel (i : Nat) {y : MethodName} {n : Nat} (h : lw_privs[i]? = some (y, n)) : Cond.selects y.cls y y ∈ lw_tbl := List.mem_append_left _ (List.mem_map.mpr ⟨(y, n), List.mem_of_getElem? h, rfl⟩)
theorem zmems (is : List Nat) {ws : List Cond} (h : ws = is.filterMap (fun i => tables_1[i]?)) : ∀ w ∈ ws, w ∈ lw_tbl := by
  intro w hw
  rw [h] at hw
  obtain ⟨i, -, hi⟩ := List.mem_filterMap.mp hw
  exact zmem i hi
/-! THE CLASSES -/
def zclP (ci : Nat) (C : String) (T : u_T) (N : Nat) : Prop := (∀ w ∈ u_ws C T N, w ∈ lw_tbl) ∧ (∀ k, k < N → parseFieldDescriptor (T k).2.2.1 = some (ztyp ci k)) ∧ (∀ a, a < N → ∀ b, b < N → a ≠ b → (T a).2.1 ≠ (T b).2.1) ∧ N = znf ci ∧ Cond.instantiable C N ∈ lw_tbl ∧ Cond.initialized C ∈ lw_tbl ∧ C = zRn (zco ci) ∧ (u_ws C T N).all zok = true
/-! FIELD LINKS -/
def ztgP (ty : FieldType) (t : Nat) : Prop := (t = 0 ∧ ty = .int) ∨ (t = 1 ∧ ty = .long) ∨ (t = 2 ∧ ((∃ C, ty = .object C) ∨ ∃ e, ty = .array e)) ∨ (t = 3 ∧ ty = .boolean)
def zflP (o n ci f t : Nat) (fin : Bool) : Prop := ∃ (C : String) (T : u_T) (N : Nat), vwCl[ci]? = some (C, T, N) ∧ f < N ∧ (T f).1 = zRn (zco ci) ∧ (T f).2.2.2 = fin ∧ ztgP (ztyp ci f) t ∧ (Cond.fieldLink (zRn o) n (T f).1 (T f).2.1 (T f).2.2.1 ∈ lw_tbl ∨ (zco ci ≠ o ∧ ∃ host, Cond.fieldLinkNest (zRn o) n (T f).1 (T f).2.1 (T f).2.2.1 host ∈ lw_tbl))
/-! METHODS -/
def zmdP (y : zM) : Prop := Cond.code y.1 y.2.1 y.2.2.1 y.2.2.2.1 ∈ lw_tbl ∧ Cond.initialized y.1.cls ∈ lw_tbl ∧ y.1.cls ≠ "java/lang/invoke/MethodHandle" ∧ y.1.cls ≠ "java/lang/invoke/VarHandle" ∧ plainName y.1.cls = true ∧ y.2.2.1 ≤ 12
def zlnP (o n : Nat) (y : MethodName) : Prop := Cond.methodLink (zRn o) n y ∈ lw_tbl ∨ ∃ host, Cond.methodLinkNest (zRn o) n y host ∈ lw_tbl
def zmlP (o n : Nat) (y : zM) (t kd m : Nat) : Prop :=
  (t = 0 → zmdP y ∧ zlnP o n y.1 ∧ Cond.instanceMethod y.1 ∈ lw_tbl ∧ Cond.selects y.1.cls y.1 y.1 ∈ lw_tbl ∧ (∃ ci, kd = 1 + ci ∧ ∃ C T N, vwCl[ci]? = some (C, T, N) ∧ C = y.1.cls) ∧ (parseMethodDescriptor y.1.desc).map (fun d => d.parameters.length) = some m) ∧
  (t = 1 → zmdP y ∧ zlnP o n y.1 ∧ Cond.static y.1 ∈ lw_tbl ∧ (parseMethodDescriptor y.1.desc).map (fun d => d.parameters.length) = some m) ∧
  (t = 2 → zmdP y ∧ zlnP o n y.1 ∧ Cond.instanceMethod y.1 ∈ lw_tbl ∧ y.1.name = "<init>" ∧ y.2.2.2.1 = none ∧ (parseMethodDescriptor y.1.desc).map (fun d => d.parameters.length) = some m) ∧
  (t = 3 → Cond.methodLink (zRn o) n Lib.objectInit ∈ lw_tbl) ∧
  (t = 10 → Cond.methodLink (zRn o) n Lib.Math.max.name ∈ lw_tbl) ∧ (t = 11 → Cond.methodLink (zRn o) n Lib.Math.min.name ∈ lw_tbl) ∧ (t = 12 → Cond.methodLink (zRn o) n Lib.MathLoose.max_long.x ∈ lw_tbl)
theorem zmlP0 {o n : Nat} {y : zM} {kd m : Nat} (h : zmdP y ∧ zlnP o n y.1 ∧ Cond.instanceMethod y.1 ∈ lw_tbl ∧ Cond.selects y.1.cls y.1 y.1 ∈ lw_tbl ∧ (∃ ci, kd = 1 + ci ∧ ∃ C T N, vwCl[ci]? = some (C, T, N) ∧ C = y.1.cls) ∧ (parseMethodDescriptor y.1.desc).map (fun d => d.parameters.length) = some m) : zmlP o n y 0 kd m := by
  refine ⟨?_, ?_, ?_, ?_, ?_, ?_, ?_⟩ <;> intro h9 <;> first | exact h | exact absurd h9 (by decide)
theorem zmlP1 {o n : Nat} {y : zM} {kd m : Nat} (h : zmdP y ∧ zlnP o n y.1 ∧ Cond.static y.1 ∈ lw_tbl ∧ (parseMethodDescriptor y.1.desc).map (fun d => d.parameters.length) = some m) : zmlP o n y 1 kd m := by
  refine ⟨?_, ?_, ?_, ?_, ?_, ?_, ?_⟩ <;> intro h9 <;> first | exact h | exact absurd h9 (by decide)
theorem zmlP2 {o n : Nat} {y : zM} {kd m : Nat} (h : zmdP y ∧ zlnP o n y.1 ∧ Cond.instanceMethod y.1 ∈ lw_tbl ∧ y.1.name = "<init>" ∧ y.2.2.2.1 = none ∧ (parseMethodDescriptor y.1.desc).map (fun d => d.parameters.length) = some m) : zmlP o n y 2 kd m := by
  refine ⟨?_, ?_, ?_, ?_, ?_, ?_, ?_⟩ <;> intro h9 <;> first | exact h | exact absurd h9 (by decide)
theorem zmlP3 {o n : Nat} {y : zM} {kd m : Nat} (h : Cond.methodLink (zRn o) n Lib.objectInit ∈ lw_tbl) : zmlP o n y 3 kd m := by
  refine ⟨?_, ?_, ?_, ?_, ?_, ?_, ?_⟩ <;> intro h9 <;> first | exact h | exact absurd h9 (by decide)
theorem zmlP10 {o n : Nat} {y : zM} {kd m : Nat} (h : Cond.methodLink (zRn o) n Lib.Math.max.name ∈ lw_tbl) : zmlP o n y 10 kd m := by
  refine ⟨?_, ?_, ?_, ?_, ?_, ?_, ?_⟩ <;> intro h9 <;> first | exact h | exact absurd h9 (by decide)
theorem zmlP11 {o n : Nat} {y : zM} {kd m : Nat} (h : Cond.methodLink (zRn o) n Lib.Math.min.name ∈ lw_tbl) : zmlP o n y 11 kd m := by
  refine ⟨?_, ?_, ?_, ?_, ?_, ?_, ?_⟩ <;> intro h9 <;> first | exact h | exact absurd h9 (by decide)
theorem zmlP12 {o n : Nat} {y : zM} {kd m : Nat} (h : Cond.methodLink (zRn o) n Lib.MathLoose.max_long.x ∈ lw_tbl) : zmlP o n y 12 kd m := by
  refine ⟨?_, ?_, ?_, ?_, ?_, ?_, ?_⟩ <;> intro h9 <;> first | exact h | exact absurd h9 (by decide)
theorem zmlPx {o n : Nat} {y : zM} {t kd m : Nat} (h : t = 5 ∨ t = 20 ∨ t = 21) : zmlP o n y t kd m := by
  rcases h with rfl | rfl | rfl <;> (refine ⟨?_, ?_, ?_, ?_, ?_, ?_, ?_⟩ <;> intro h9 <;> exact absurd h9 (by decide))
