theorem zcl_ok {ci : Nat} {C : String} {T : u_T} {N : Nat} (h : vwCl[ci]? = some (C, T, N)) : zclP ci C T N := sorry
theorem zfl_ok {o n ci f t : Nat} {fin : Bool} (h : zfl o n = some (ci, f, t, fin)) : zflP o n ci f t fin := sorry
theorem zml_ok {o n : Nat} {y : zM} {t kd m : Nat} (h : zml o n = some (y, t, kd, m)) : zmlP o n y t kd m := sorry
theorem zld_ok {o n : Nat} {v : Int32} (h : zld o n = some v) : Cond.constant (zRn o) n v ∈ lw_tbl := sorry
theorem zl2_ok {o n : Nat} {v : Int64} (h : zl2 o n = some v) : Cond.constantLong (zRn o) n v ∈ lw_tbl := sorry
theorem znw_ok {o n : Nat} {kd m : Nat} (h : znw o n = some (kd, m)) : ∃ ci C T, kd = 1 + ci ∧ vwCl[ci]? = some (C, T, m) ∧ Cond.classLink (zRn o) n C ∈ lw_tbl := sorry
theorem zna_ok {o n : Nat} {kd : Nat} (h : zna o n = some kd) : ∃ C, 105 ≤ kd ∧ kd ≤ 107 ∧ zaty kd = .object C ∧ Cond.classLink (zRn o) n C ∈ lw_tbl ∧ (C = RX9 ∨ C = RX6 ∨ C = RX3) := sorry
theorem zmna_ok : Cond.classLink (zRn 9) 21 ("[" ++ (FieldType.array .int).toString) ∈ lw_tbl := sorry
