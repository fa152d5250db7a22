/-! THE WORLD of the law's start -/
set_option maxHeartbeats 4000000 in
set_option maxRecDepth 100000 in
theorem w2_ovA {args : Array Value} {first s : State} {o : Option Outcome} {idx : List Nat} {t : FieldType} (h : (Cond.arrayOver (.array t)).holds args first o s idx = true) : ∃ c k comp, s.vm.classes[c]? = some k ∧ k.kind = .array comp (.array t) ∧ s.vm.findClass ("[" ++ (FieldType.array t).toString) = some c := by
  simp only [Cond.holds, Cond.value, beq_iff_eq, Option.bind_eq_some_iff, Option.map_eq_some_iff] at h
  obtain ⟨c0, -, c, -, k, hk, hb⟩ := h
  split at hb
  · rename_i comp ty e
    simp only [Bool.and_eq_true, decide_eq_true_eq] at hb
    obtain ⟨e1, e2⟩ := hb
    exact ⟨c, k, comp, hk, by rw [e, e1], e2⟩
  · cases hb
def w2_ok (s : State) (c : ClassId) (ty : FieldType) : Prop := ArrOfT s c ty ∧ va_RA s c ty
set_option maxHeartbeats 4000000 in
set_option maxRecDepth 100000 in
theorem w2_pr {s : State} {ty : FieldType} {args : Array Value} (h : (Cond.arrayClass ty).before args s = true) (hra : ∀ c, va_RA s c ty = (s.vm.findClass ("[" ++ ty.toString) = some c)) : ∃ c, w2_ok s c ty := by
  obtain ⟨c, k, comp, h1, h2, h3⟩ := Cond.arrayClass_spec h
  exact ⟨c, fun n z => ⟨(fun k h => by cases h), k, h2, comp, h3⟩, by rw [hra]; exact h1⟩
set_option maxHeartbeats 4000000 in
set_option maxRecDepth 100000 in
theorem w2_ob {s : State} {C : String} {args : Array Value} (h : (Cond.arrayOver (.object C)).before args s = true) : ∃ c, w2_ok s c (.object C) := by
  obtain ⟨comp, c, k, h1, -, h3, h4, h5⟩ := Cond.arrayOver_spec h
  exact ⟨c, fun n z => ⟨(fun k h => by cases h), k, h3, comp, h4⟩, k, comp, h3, h4, h1, h5⟩
set_option maxHeartbeats 4000000 in
set_option maxRecDepth 100000 in
theorem w2_ar {s : State} {t : FieldType} {args : Array Value} (h : (Cond.arrayOver (.array t)).before args s = true) : ∃ c, w2_ok s c (.array t) := by
  obtain ⟨c, k, comp, h3, h4, h5⟩ := w2_ovA h
  exact ⟨c, fun n z => ⟨(fun k h => by cases h), k, h3, comp, h4⟩, h5⟩
set_option maxHeartbeats 4000000 in
set_option maxRecDepth 100000 in
theorem w2_tys {s : State} {a : Array Value} (hts : ∀ w ∈ lw_tbl, w.before a s = true) : ∃ C : Nat → ClassId, ∀ i, i < 8 → w2_ok s (C (100 + i)) (zaty (100 + i)) := by
  obtain ⟨c0, h0⟩ := w2_pr (ty := .int) (hts _ (zmk1 73 (by decide +kernel))) (fun c => rfl)
  obtain ⟨c1, h1⟩ := w2_pr (ty := .boolean) (hts _ (zmk6 197 (by decide +kernel))) (fun c => rfl)
  obtain ⟨c2, h2⟩ := w2_pr (ty := .byte) (hts _ (zmk3 237 (by decide +kernel))) (fun c => rfl)
  obtain ⟨c3, h3⟩ := w2_pr (ty := .long) (hts _ (zmk8 103 (by decide +kernel))) (fun c => rfl)
  obtain ⟨c4, h4⟩ := w2_ar (t := .int) (hts _ (zmk1 214 (by decide +kernel)))
  obtain ⟨c5, h5⟩ := w2_ob (C := RX9) (hts _ (zmk1 207 (by decide +kernel)))
  obtain ⟨c6, h6⟩ := w2_ob (C := RX6) (hts _ (zmk1 216 (by decide +kernel)))
  obtain ⟨c7, h7⟩ := w2_ob (C := RX3) (hts _ (zmk1 128 (by decide +kernel)))
  refine ⟨fun k => match k with
    | 100 => c0
    | 101 => c1
    | 102 => c2
    | 103 => c3
    | 104 => c4
    | 105 => c5
    | 106 => c6
    | _ => c7, fun i hi => ?_⟩
  match i, hi with
  | 0, _ => exact h0
  | 1, _ => exact h1
  | 2, _ => exact h2
  | 3, _ => exact h3
  | 4, _ => exact h4
  | 5, _ => exact h5
  | 6, _ => exact h6
  | 7, _ => exact h7
  | n + 8, h => exact absurd h (by omega)
set_option maxHeartbeats 4000000 in
set_option maxRecDepth 100000 in
theorem w2_K {s : State} {a : Array Value} (hts : ∀ w ∈ lw_tbl, w.before a s = true) : ∃ (D : va_G) (C : Nat → ClassId), ∀ G : zG, zgD G = D → zgC G = C → va_K (zgD G) vwCl (ztys G) s := by
  have h1 : ∀ ci : Nat, ∃ q : ClassId × (Nat → Nat), ∀ r : vw_C, vwCl[ci]? = some r → u_Kn s r.1 r.2.1 r.2.2 q.1 q.2 := fun ci => by
    cases h : vwCl[ci]? with
    | none => exact ⟨(0, fun _ => 0), fun r hr => by cases hr⟩
    | some r =>
      obtain ⟨C, T, N⟩ := r
      have k := zcl_ok h
      obtain ⟨c, f, hk⟩ := u_known (C := C) (T := T) (N := N) (n := N) hts k.1 (hts _ k.2.2.2.2.1)
      exact ⟨(c, f), fun r hr => by cases hr; exact hk⟩
  obtain ⟨q, hq⟩ := Classical.axiomOfChoice h1
  obtain ⟨C, hC⟩ := w2_tys hts
  refine ⟨(fun c => (q c).1, fun c => (q c).2), C, fun G e1 e2 => ⟨fun c r hr => ?_, fun k r hr => ?_⟩⟩
  · rw [e1]
    exact hq c r hr
  · unfold ztys at hr
    rw [List.getElem?_map, Option.map_eq_some_iff] at hr
    obtain ⟨j, hj, rfl⟩ := hr
    have hj2 : k < 8 ∧ j = k := by
      obtain ⟨hl, e⟩ := List.getElem?_eq_some_iff.mp hj
      rw [List.length_range] at hl
      rw [List.getElem_range] at e
      exact ⟨hl, e.symm⟩
    obtain ⟨hk, rfl⟩ := hj2
    show ArrOfT s (zgC G (100 + j)) _ ∧ va_RA s (zgC G (100 + j)) _
    rw [e2]
    exact hC j hk
abbrev w2_i (i : Nat) : Nat := [78, 88, 90, 95, 106].getD i 0
abbrev w2_tm (i : Nat) : Term := .string RX1 (w2_i i)
set_option maxHeartbeats 4000000 in
set_option maxRecDepth 100000 in
theorem w2_S {s : State} {a : Array Value} {A : Nat → Prop} (hs : ∀ w ∈ flatC (Jvm.Cond.and given_1 narrow_1), w.before a s = true) (hA : ∀ a : Nat, a < s.heap.size → ¬ A a) : ∃ adK adV : Nat → Nat, vk_S 5 zlen zbyt adK adV A s s.heap ∧ ∀ i : Nat, i < 5 → (w2_tm i).eval a s none [] s = some (.ref (adK i)) := by
  refine vk_Sof (tm := w2_tm) ?_ ?_ ?_ ?_ ?_ ?_ ?_ hA
  · intro i hi
    match i, hi with
    | 0, _ => decide
    | 1, _ => decide
    | 2, _ => decide
    | 3, _ => decide
    | 4, _ => decide
    | n + 5, h => exact absurd h (by omega)
  · intro i hi
    match i, hi with
    | 0, _ => exact hs _ (by decide +kernel)
    | 1, _ => exact hs _ (by decide +kernel)
    | 2, _ => exact hs _ (by decide +kernel)
    | 3, _ => exact hs _ (by decide +kernel)
    | 4, _ => exact hs _ (by decide +kernel)
    | n + 5, h => exact absurd h (by omega)
  · intro i hi
    match i, hi with
    | 0, _ => exact hs _ (by decide +kernel)
    | 1, _ => exact hs _ (by decide +kernel)
    | 2, _ => exact hs _ (by decide +kernel)
    | 3, _ => exact hs _ (by decide +kernel)
    | 4, _ => exact hs _ (by decide +kernel)
    | n + 5, h => exact absurd h (by omega)
  · intro i hi
    match i, hi with
    | 0, _ => exact hs _ (by decide +kernel)
    | 1, _ => exact hs _ (by decide +kernel)
    | 2, _ => exact hs _ (by decide +kernel)
    | 3, _ => exact hs _ (by decide +kernel)
    | 4, _ => exact hs _ (by decide +kernel)
    | n + 5, h => exact absurd h (by omega)
  · intro i hi
    match i, hi with
    | 0, _ => exact hs _ (by decide +kernel)
    | 1, _ => exact hs _ (by decide +kernel)
    | 2, _ => exact hs _ (by decide +kernel)
    | 3, _ => exact hs _ (by decide +kernel)
    | 4, _ => exact hs _ (by decide +kernel)
    | n + 5, h => exact absurd h (by omega)
  · intro i hi j hj
    match i, hi, j, hj with
    | 0, _, 0, _ => exact hs _ (by decide +kernel)
    | 0, _, j + 1, h => exact absurd h (by show ¬ j + 1 < 1; omega)
    | 1, _, 0, _ => exact hs _ (by decide +kernel)
    | 1, _, 1, _ => exact hs _ (by decide +kernel)
    | 1, _, 2, _ => exact hs _ (by decide +kernel)
    | 1, _, j + 3, h => exact absurd h (by show ¬ j + 3 < 3; omega)
    | 2, _, 0, _ => exact hs _ (by decide +kernel)
    | 2, _, 1, _ => exact hs _ (by decide +kernel)
    | 2, _, 2, _ => exact hs _ (by decide +kernel)
    | 2, _, 3, _ => exact hs _ (by decide +kernel)
    | 2, _, 4, _ => exact hs _ (by decide +kernel)
    | 2, _, j + 5, h => exact absurd h (by show ¬ j + 5 < 5; omega)
    | 3, _, 0, _ => exact hs _ (by decide +kernel)
    | 3, _, 1, _ => exact hs _ (by decide +kernel)
    | 3, _, j + 2, h => exact absurd h (by show ¬ j + 2 < 2; omega)
    | 4, _, 0, _ => exact hs _ (by decide +kernel)
    | 4, _, 1, _ => exact hs _ (by decide +kernel)
    | 4, _, 2, _ => exact hs _ (by decide +kernel)
    | 4, _, 3, _ => exact hs _ (by decide +kernel)
    | 4, _, j + 4, h => exact absurd h (by show ¬ j + 4 < 4; omega)
    | n + 5, h, _, _ => exact absurd h (by omega)
  · intro i j hi hj hij
    match i, hi, j, hj with
    | 0, _, 0, _ => exact absurd rfl hij
    | 0, _, 1, _ => exact Or.inl (hs _ (by decide +kernel))
    | 0, _, 2, _ => exact Or.inl (hs _ (by decide +kernel))
    | 0, _, 3, _ => exact Or.inl (hs _ (by decide +kernel))
    | 0, _, 4, _ => exact Or.inl (hs _ (by decide +kernel))
    | 0, _, j + 5, h => exact absurd h (by omega)
    | 1, _, 0, _ => exact Or.inr (hs _ (by decide +kernel))
    | 1, _, 1, _ => exact absurd rfl hij
    | 1, _, 2, _ => exact Or.inl (hs _ (by decide +kernel))
    | 1, _, 3, _ => exact Or.inl (hs _ (by decide +kernel))
    | 1, _, 4, _ => exact Or.inl (hs _ (by decide +kernel))
    | 1, _, j + 5, h => exact absurd h (by omega)
    | 2, _, 0, _ => exact Or.inr (hs _ (by decide +kernel))
    | 2, _, 1, _ => exact Or.inr (hs _ (by decide +kernel))
    | 2, _, 2, _ => exact absurd rfl hij
    | 2, _, 3, _ => exact Or.inl (hs _ (by decide +kernel))
    | 2, _, 4, _ => exact Or.inl (hs _ (by decide +kernel))
    | 2, _, j + 5, h => exact absurd h (by omega)
    | 3, _, 0, _ => exact Or.inr (hs _ (by decide +kernel))
    | 3, _, 1, _ => exact Or.inr (hs _ (by decide +kernel))
    | 3, _, 2, _ => exact Or.inr (hs _ (by decide +kernel))
    | 3, _, 3, _ => exact absurd rfl hij
    | 3, _, 4, _ => exact Or.inl (hs _ (by decide +kernel))
    | 3, _, j + 5, h => exact absurd h (by omega)
    | 4, _, 0, _ => exact Or.inr (hs _ (by decide +kernel))
    | 4, _, 1, _ => exact Or.inr (hs _ (by decide +kernel))
    | 4, _, 2, _ => exact Or.inr (hs _ (by decide +kernel))
    | 4, _, 3, _ => exact Or.inr (hs _ (by decide +kernel))
    | 4, _, 4, _ => exact absurd rfl hij
    | 4, _, j + 5, h => exact absurd h (by omega)
    | n + 5, h, _, _ => exact absurd h (by omega)
set_option maxHeartbeats 4000000 in
set_option maxRecDepth 100000 in
theorem w2_R {s : State} {a : Array Value} {adK : Nat → Nat} (hts : ∀ w ∈ lw_tbl, w.before a s = true) (hs : ∀ w ∈ flatC (Jvm.Cond.and given_1 narrow_1), w.before a s = true) (hv : ∀ i : Nat, i < 5 → (w2_tm i).eval a s none [] s = some (.ref (adK i))) : ∀ o n t : Nat, zls o n = some t → vk_R (zRn o) n (zstr t) (adK t) s := by
  have r1_78 : vk_R (zRn 1) 78 (zstr 0) (adK 0) s := vk_R.of (hts _ (zmk3 118 (by decide +kernel))) (hv 0 (by omega))
  have r1_88 : vk_R (zRn 1) 88 (zstr 1) (adK 1) s := vk_R.of (hts _ (zmk3 191 (by decide +kernel))) (hv 1 (by omega))
  have r1_90 : vk_R (zRn 1) 90 (zstr 2) (adK 2) s := vk_R.of (hts _ (zmk3 192 (by decide +kernel))) (hv 2 (by omega))
  have r1_95 : vk_R (zRn 1) 95 (zstr 3) (adK 3) s := vk_R.of (hts _ (zmk3 205 (by decide +kernel))) (hv 3 (by omega))
  have r1_106 : vk_R (zRn 1) 106 (zstr 4) (adK 4) s := vk_R.of (hts _ (zmk3 210 (by decide +kernel))) (hv 4 (by omega))
  have r4_15 : vk_R (zRn 4) 15 (zstr 1) (adK 1) s := vk_R.of (hts _ (zmk3 215 (by decide +kernel))) (va_eqR (hs (.eq (.string "StrangerHall$Compiler" 88) (.string "StrangerHall$Linear" 15)) (by decide +kernel)) (hv 1 (by omega)))
  have r4_51 : vk_R (zRn 4) 51 (zstr 0) (adK 0) s := vk_R.of (hts _ (zmk3 229 (by decide +kernel))) (va_eqR (hs (.eq (.string "StrangerHall$Compiler" 78) (.string "StrangerHall$Linear" 51)) (by decide +kernel)) (hv 0 (by omega)))
  have r11_232 : vk_R (zRn 11) 232 (zstr 0) (adK 0) s := vk_R.of (hts _ (zmk7 1 (by decide +kernel))) (va_eqR (hs (.eq (.string "StrangerHall$Compiler" 78) (.string "StrangerHallModel" 232)) (by decide +kernel)) (hv 0 (by omega)))
  have r11_246 : vk_R (zRn 11) 246 (zstr 1) (adK 1) s := vk_R.of (hts _ (zmk7 8 (by decide +kernel))) (va_eqR (hs (.eq (.string "StrangerHall$Compiler" 88) (.string "StrangerHallModel" 246)) (by decide +kernel)) (hv 1 (by omega)))
  have r11_248 : vk_R (zRn 11) 248 (zstr 2) (adK 2) s := vk_R.of (hts _ (zmk7 9 (by decide +kernel))) (va_eqR (hs (.eq (.string "StrangerHall$Compiler" 90) (.string "StrangerHallModel" 248)) (by decide +kernel)) (hv 2 (by omega)))
  have r11_250 : vk_R (zRn 11) 250 (zstr 3) (adK 3) s := vk_R.of (hts _ (zmk7 10 (by decide +kernel))) (va_eqR (hs (.eq (.string "StrangerHall$Compiler" 95) (.string "StrangerHallModel" 250)) (by decide +kernel)) (hv 3 (by omega)))
  have r11_274 : vk_R (zRn 11) 274 (zstr 4) (adK 4) s := vk_R.of (hts _ (zmk7 79 (by decide +kernel))) (va_eqR (hs (.eq (.string "StrangerHall$Compiler" 106) (.string "StrangerHallModel" 274)) (by decide +kernel)) (hv 4 (by omega)))
  intro o n t h
  unfold zls at h
  split at h <;> first | (cases h; assumption) | cases h
set_option maxHeartbeats 4000000 in
set_option maxRecDepth 100000 in
theorem w2_world {s : State} {b L : Nat} {xs : Nat → Int32} (hts : ∀ w ∈ lw_tbl, w.before #[Value.ref b] s = true) (hX : va_X b L xs s s.heap) (hbl : b < s.heap.size) (hg : (Jvm.Cond.and given_1 narrow_1).before #[Value.ref b] s = true) :
    ∃ G : zG, zgb G = s.heap.size ∧ zgs G = b ∧ zgL G = L ∧ zgx G = xs ∧ zWt G s ∧ zWh G s s.heap ∧ (∀ t, t < 5 → ¬ zga G t = b) ∧ zNc s := by
  have hs := flat_of_before _ hg
  have hA : ∀ a : Nat, a < s.heap.size → ¬ (fun q : Nat => s.heap.size ≤ q) a := fun a h => Nat.not_le.mpr h
  obtain ⟨D, C, hK⟩ := w2_K hts
  obtain ⟨adK, adV, hS, hv⟩ := w2_S (A := fun q : Nat => s.heap.size ≤ q) hs hA
  refine ⟨(D, C, s.heap.size, b, L, xs, adK, adV), rfl, rfl, rfl, rfl, ⟨hK _ rfl rfl, fun w hw hz => va_Nw.of (zok_tab hz) (hts w hw), fun ty hty => ?_, ?_, ?_, ?_, ?_⟩, ⟨Nat.le_refl _, ⟨w2_R hts hs hv, hS, ?_, ?_⟩, ?_, ?_, hbl, hX⟩, fun t ht e => ?_, ?_⟩
  · have h9 : ty = .int ∨ ty = .boolean ∨ ty = .byte ∨ ty = .long := by simpa using hty
    rcases h9 with rfl | rfl | rfl | rfl
    · exact hts (.arrayClass .int) (zmk1 73 (by decide +kernel))
    · exact hts (.arrayClass .boolean) (zmk6 197 (by decide +kernel))
    · exact hts (.arrayClass .byte) (zmk3 237 (by decide +kernel))
    · exact hts (.arrayClass .long) (zmk8 103 (by decide +kernel))
  · exact hts (.arrayOver (.object "StrangerHall$Task")) (zmk1 207 (by decide +kernel))
  · exact hts (.arrayOver (.object "StrangerHall$Piece")) (zmk1 216 (by decide +kernel))
  · exact hts (.arrayOver (.object "StrangerHall$House")) (zmk1 128 (by decide +kernel))
  · exact hts (.arrayOver (.array .int)) (zmk1 214 (by decide +kernel))
  · exact va_Zof (hts _ (zmk3 136 (by decide +kernel))) (hts _ (zmk1 17 (by decide +kernel))) (va_eqt (hs _ (by decide +kernel))) hA
  · exact va_Zqof (hts _ (zmk3 152 (by decide +kernel))) (hts _ (zmk1 19 (by decide +kernel))) (hs _ (by decide +kernel)) hA
  · exact vx_Zqof (hts _ (zmk3 2 (by decide +kernel))) (hts _ (zmk1 12 (by decide +kernel))) (hs _ (by decide +kernel)) hA
  · exact vx_Zqof (hts _ (zmk3 4 (by decide +kernel))) (hts _ (zmk1 12 (by decide +kernel))) (hs _ (by decide +kernel)) hA
  · have e : adK t = b := e
    obtain ⟨-, -, ⟨cf, k, i, f, cell, -, -, h3, -, h5, -⟩, -⟩ := hS.1 t ht
    obtain ⟨scr, x1, -, -, x4, x5⟩ := hX
    rw [e, x1] at h3
    have e2 : scr = cell := Option.some.inj h3
    rw [← e2] at h5
    have hl : f.slot < scr.slots.size := (Array.getElem?_eq_some_iff.mp h5).1
    rw [x5 f.slot (by omega)] at h5
    cases h5
  · exact ⟨va_Nc.of (hs (.not (.castable xArg xIdx)) (by decide +kernel)), va_Nc.of (hs (.not (.castable xIse xArg)) (by decide +kernel))⟩
/-- the first heap -/
def zh0 (G : zG) : zH := (some (zgb G), fun a => if a = zgs G then 200 else if a = zga G 0 then 300 else if a = zga G 1 then 301 else if a = zga G 2 then 302 else if a = zga G 3 then 303 else if a = zga G 4 then 304 else 0, fun a => if a = zgs G then zgL G else 0, fun _ _ => 0, fun _ _ => 0, fun _ _ => none, fun a j => if a = zgs G then zgx G j else 0, fun _ _ => 0, fun _ _ => none)
theorem zh0_K (G : zG) (a : Nat) : zK (zh0 G) a = if a = zgs G then 200 else if a = zga G 0 then 300 else if a = zga G 1 then 301 else if a = zga G 2 then 302 else if a = zga G 3 then 303 else if a = zga G 4 then 304 else 0 := id rfl
theorem zh0_R {G : zG} {s : State} (hz : zgb G = s.heap.size) (hWt : zWt G s) (hWh : zWh G s s.heap) (hne : ∀ t, t < 5 → ¬ zga G t = zgs G) : zRp G (zh0 G) s s.heap := by
  have inj := hWh.2.1.2.1.2
  have n : ∀ i j, i < 5 → j < 5 → ¬ i = j → ¬ zga G i = zga G j := fun i j hi hj hij e => hij (inj i j hi hj e)
  refine ⟨hWt, hWh, fun a => ⟨fun h1 h2 => ?_, fun h => ?_, fun h => ?_⟩, fun m hm => ?_, fun t ht => ?_⟩
  · rw [zh0_K] at h1 h2
    exfalso
    split at h2
    · omega
    · split at h2
      · omega
      · split at h2
        · omega
        · split at h2
          · omega
          · split at h2
            · omega
            · split at h2
              · omega
              · rename_i a1 a2 a3 a4 a5 a6
                rw [if_neg a1, if_neg a2, if_neg a3, if_neg a4, if_neg a5, if_neg a6] at h1
                omega
  · have e : a = zgs G := by
      rw [zh0_K] at h
      split at h
      · assumption
      · split at h
        · omega
        · split at h
          · omega
          · split at h
            · omega
            · split at h
              · omega
              · split at h <;> omega
    exact ⟨e, if_pos e, fun j => if_pos e⟩
  · rw [zh0_K] at h
    split at h
    · omega
    · rename_i h0
      split at h
      · rename_i e
        exact ⟨0, by omega, e, by rw [zh0_K, if_neg h0, if_pos e]⟩
      · rename_i h1
        split at h
        · rename_i e
          exact ⟨1, by omega, e, by rw [zh0_K, if_neg h0, if_neg h1, if_pos e]⟩
        · rename_i h2
          split at h
          · rename_i e
            exact ⟨2, by omega, e, by rw [zh0_K, if_neg h0, if_neg h1, if_neg h2, if_pos e]⟩
          · rename_i h3
            split at h
            · rename_i e
              exact ⟨3, by omega, e, by rw [zh0_K, if_neg h0, if_neg h1, if_neg h2, if_neg h3, if_pos e]⟩
            · rename_i h4
              split at h
              · rename_i e
                exact ⟨4, by omega, e, by rw [zh0_K, if_neg h0, if_neg h1, if_neg h2, if_neg h3, if_neg h4, if_pos e]⟩
              · omega
  · have hm : some (zgb G) = some m := hm
    cases hm
    exact hz.symm
  · rw [zh0_K, if_neg (hne t ht)]
    have h9 : t = 0 ∨ t = 1 ∨ t = 2 ∨ t = 3 ∨ t = 4 := by omega
    rcases h9 with rfl | rfl | rfl | rfl | rfl
    · rw [if_pos rfl]
    · rw [if_neg (n 1 0 (by omega) (by omega) (by omega)), if_pos rfl]
    · rw [if_neg (n 2 0 (by omega) (by omega) (by omega)), if_neg (n 2 1 (by omega) (by omega) (by omega)), if_pos rfl]
    · rw [if_neg (n 3 0 (by omega) (by omega) (by omega)), if_neg (n 3 1 (by omega) (by omega) (by omega)), if_neg (n 3 2 (by omega) (by omega) (by omega)), if_pos rfl]
    · rw [if_neg (n 4 0 (by omega) (by omega) (by omega)), if_neg (n 4 1 (by omega) (by omega) (by omega)), if_neg (n 4 2 (by omega) (by omega) (by omega)), if_neg (n 4 3 (by omega) (by omega) (by omega)), if_pos rfl]
