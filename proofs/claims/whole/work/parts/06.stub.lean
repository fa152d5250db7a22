theorem zcl_ok {ci : Nat} {C : String} {T : u_T} {N : Nat} (h : vwCl[ci]? = some (C, T, N)) : zclP ci C T N := sorry
theorem zfl_ok {o n ci f t : Nat} {fin : Bool} (h : zfl o n = some (ci, f, t, fin)) : zflP o n ci f t fin := sorry
def zxcP (ik : Nat) (E : String) (ic : Nat) : Prop := Cond.classLink RX10 ik E ∈ lw_tbl ∧ Cond.initialized E ∈ lw_tbl ∧ Bundle.fit E = true ∧ (∀ w ∈ vx_at0 RX10 ic E ["java/lang/RuntimeException", "java/lang/Exception"], w ∈ lw_tbl ∧ zok w = true)
theorem zml_ok {o n : Nat} {y : zM} {t kd m : Nat} (h : zml o n = some (y, t, kd, m)) : zmlP o n y t kd m := sorry
theorem zld_ok {o n : Nat} {v : Int32} (h : zld o n = some v) : Cond.constant (zRn o) n v ∈ lw_tbl := sorry
theorem zl2_ok {o n : Nat} {v : Int64} (h : zl2 o n = some v) : Cond.constantLong (zRn o) n v ∈ lw_tbl := sorry
theorem znw_ok {o n : Nat} {kd m : Nat} (h : znw o n = some (kd, m)) : ∃ ci C T, kd = 1 + ci ∧ vwCl[ci]? = some (C, T, m) ∧ Cond.classLink (zRn o) n C ∈ lw_tbl := sorry
theorem zna_ok {o n : Nat} {kd : Nat} (h : zna o n = some kd) : ∃ C, 105 ≤ kd ∧ kd ≤ 107 ∧ zaty kd = .object C ∧ Cond.classLink (zRn o) n C ∈ lw_tbl ∧ (C = RX9 ∨ C = RX6 ∨ C = RX3) := sorry
theorem zxc_ok {o n : Nat} {E : String} {ic : Nat} (h : zxc o n = some (E, ic)) : o = 10 ∧ zxcP n E ic := sorry
theorem zmaxi_ok : Cond.static Lib.Math.max.name ∈ lw_tbl ∧ Cond.initialized "java/lang/Math" ∈ lw_tbl ∧ Cond.code Lib.Math.max.name Lib.Math.max.code 2 (some .int) ∈ lw_tbl := sorry
theorem zmini_ok : Cond.static Lib.Math.min.name ∈ lw_tbl ∧ Cond.initialized "java/lang/Math" ∈ lw_tbl ∧ Cond.code Lib.Math.min.name Lib.Math.min.code 2 (some .int) ∈ lw_tbl := sorry
theorem zmaxl_ok : Cond.static Lib.MathLoose.max_long.x ∈ lw_tbl ∧ Cond.initialized "java/lang/Math" ∈ lw_tbl ∧ Cond.code Lib.MathLoose.max_long.x Lib.MathLoose.max_long.code 4 (some .long) ∈ lw_tbl := sorry
theorem zobj_ok : Cond.instanceMethod Lib.objectInit ∈ lw_tbl ∧ Cond.code Lib.objectInit ⟨#[0xb1]⟩ 1 none ∈ lw_tbl := sorry
theorem zmna_ok : Cond.classLink (zRn 9) 21 ("[" ++ (FieldType.array .int).toString) ∈ lw_tbl := sorry
