theorem zls_lt {o n t : Nat} (h : zls o n = some t) : t < 5 := by
  unfold zls at h
  split at h <;> first | (cases h; decide) | cases h
theorem va_ldcSW {p : Program} {l : Launch} {e : Env} {R : Room} {s : State} {m : MethodId} {args : Array Value} {below : List Frame} {meth : Method} {c : Code} {H : Heap} {locs : List Loc} {cells slots : Nat} {Q : State → Prop} {cc : ByteArray} {pc : Nat} {ls : Array Slot} {rest : List Value} (hexec : p.tables.exec = Jvm.exec) (hb : c.code = cc) {own tx : String} {index q : Nat} (hown : s.vm.findClass own = some m.cls) (hZ : vk_R own index tx q s) (hdg : decode cc pc = .ok (.ldc_w index, 3))
    (k : W p l e R s m args below meth c H locs cells slots Q (F0 m (pc + 3) ls (.ref q :: rest))) : W p l e R s m args below meth c H locs cells slots Q (F0 m pc ls rest) := by
  intro T hT X
  obtain ⟨t, a1, b1⟩ := k T hT X
  exact ⟨t, X.ldcStringW hexec hown (text := tx) (a := q) hZ.1 hZ.2 (g := F0 m pc ls rest) rfl (by rw [hb]; exact hdg) t a1, b1⟩
def zarv (h : zH) (a : Nat) : Nat → Value := if zK h a < 103 then (fun j => .int (zA h a j)) else if zK h a = 103 then (fun j => .long (zB h a j)) else (fun j => va_rf (zR h a j))
theorem zel_cell {G : zG} {h : zH} {a : Nat} {H : Heap} (h1 : 100 ≤ zK h a) : va_at (zgD G) vwCl (a, zel G h a) H ↔ H[a]? = some (arrV (zgC G (zK h a)) (zN h a) (zarv h a)) := by
  rw [zel_arr h1]
  show H[a]? = some (vp_cell _ _) ↔ _
  unfold zarv
  by_cases e1 : zK h a < 103
  · rw [if_pos e1, if_pos e1, vp_cell_i]
  · rw [if_neg e1, if_neg e1]
    by_cases e2 : zK h a = 103
    · rw [if_pos e2, if_pos e2, vp_cell_l]
    · rw [if_neg e2, if_neg e2, vp_cell_q]
theorem zarr {G : zG} {h : zH} {a : Nat} {s : State} {H : Heap} (hR : zRp G h s H) (h1 : 100 ≤ zK h a) (h2 : zK h a < 200) : H[a]? = some (arrV (zgC G (zK h a)) (zN h a) (zarv h a)) := (zel_cell h1).mp ((hR.2.2.1 a).1 (by omega) h2).2
theorem zbase {G : zG} {h : zH} {a : Nat} {s : State} {H : Heap} (hR : zRp G h s H) (h1 : 0 < zK h a) (h2 : zK h a < 200) : zgA G a := ((hR.2.2.1 a).1 h1 h2).1
theorem ztys_at {G : zG} {k : Nat} (h1 : 100 ≤ k) (h2 : k ≤ 107) : (ztys G)[k - 100]? = some (zgC G k, zaty k) := by
  unfold ztys
  rw [List.getElem?_map, List.getElem?_range (by omega)]
  show some (zgC G (100 + (k - 100)), zaty (100 + (k - 100))) = _
  rw [show 100 + (k - 100) = k by omega]
theorem zarrOf {G : zG} {s : State} (h : zWt G s) {k : Nat} (h1 : 100 ≤ k) (h2 : k ≤ 107) (n : Nat) (z : Nat → Value) : s.isArrayOf (arrV (zgC G k) n z) (zaty k) := (h.1.2 (k - 100) _ (ztys_at h1 h2)).1 n z
theorem zarr_in {c : ClassId} {n : Nat} {f : Nat → Value} {i : Int32} (h : zin i n) : ¬ (i < 0 ∨ (arrV c n f).slots.size ≤ i.toNatClampNeg) := by
  rw [arrV_size]
  exact zin_vp h
theorem zarr_at {c : ClassId} {n : Nat} {f : Nat → Value} {i : Int32} (h : zin i n) : (arrV c n f).slots[i.toNatClampNeg]? = some (f i.toNatClampNeg) := arrV_read _ _ h.2
theorem zarv_A {h : zH} {a : Nat} (hK : zK h a < 103) (j : Nat) : zarv h a j = .int (zA h a j) := by
  unfold zarv
  rw [if_pos hK]
theorem zarv_B {h : zH} {a : Nat} (hK : zK h a = 103) (j : Nat) : zarv h a j = .long (zB h a j) := by
  unfold zarv
  rw [if_neg (by omega), if_pos hK]
theorem zarv_R {h : zH} {a : Nat} (hK : zK h a > 103) (j : Nat) : zarv h a j = va_rf (zR h a j) := by
  unfold zarv
  rw [if_neg (by omega), if_neg (by omega)]
/-- an array's new contents -/
theorem zarr_up {G : zG} {h h' : zH} {a : Nat} {i : Nat} {v : Value} {H' : Heap} (h1 : 100 ≤ zK h a) (hK : zK h' a = zK h a) (hN : zN h' a = zN h a) (e : H'[a]? = some ((arrV (zgC G (zK h a)) (zN h a) (zarv h a)).setSlot i v)) (hV : ∀ j, zarv h' a j = if j = i then v else zarv h a j) : va_at (zgD G) vwCl (a, zel G h' a) H' := by
  rw [zel_cell (by omega), e, arrV_store, hK, hN]
  congr 2
  funext j
  exact (hV j).symm
theorem zs_iaload {l : Launch} {G : zG} {o : Nat} {ini : Bool} {cc : ByteArray} {ret : Option FieldType} {d : Nat} {Q : zO → zH → Prop} {X : zX} {len pc : Nat} {k : zC} {lv : List (Option Value)} {st : List Value} {h : zH} {c s : Nat} (hX : zOk l G o ini cc ret d Q X) (hk : ∀ pc lv st h c s, k pc lv st h c s → zJ l G X pc lv st h c s) (hd : decode cc pc = .ok (.iaload, len)) (z : zw l G o ini cc ret d Q .iaload len pc k lv st h c s) : zJ l G X pc lv st h c s := by
  obtain ⟨p, e, R, s0, m, args, below, meth, cd, Z⟩ := X
  obtain ⟨ex, eb, eown, eWt, eWh, eF, eL, eX, elk, ein, eret, exo, exn, efl⟩ := hX
  obtain ⟨rfl, z⟩ := z
  obtain ⟨i, r1, rfl, z1⟩ := zpI_inv z
  obtain ⟨a, r, rfl, hK, hi, z2⟩ := zpR_inv z1
  intro H locs cells slots ls hR hS hc hs hl hL
  rcases hK with hK | hK
  · have hc0 := zarr hR (a := a) (by omega) (by omega)
    have ha := zarrOf eWt (k := zK h a) (by omega) (by omega) (zN h a) (zarv h a)
    refine W.iald (v := .int (zA h a i.toNatClampNeg)) ex eb hc0 (by rw [hK] at ha ⊢; exact ha) (fun q => by cases q) (zarr_in hi) ?_ rfl rfl hd (hk _ _ _ _ _ _ z2 H locs cells slots ls hR hS hc hs hl hL)
    rw [zarr_at hi]
    unfold zarv
    rw [if_pos (by omega)]
  · obtain ⟨e1, e2, e3⟩ := (hR.2.2.1 a).2.1 hK
    subst e1
    rw [e2] at hi
    rw [e3] at z2
    exact va_sld ex eb eWh.2.2.2.2.2 (Nat.lt_of_lt_of_le eWh.2.2.2.2.1 eWh.1) (Nat.not_le.mpr eWh.2.2.2.2.1) hS (zin_vp hi) hd (hk _ _ _ _ _ _ z2 H locs cells slots ls hR hS hc hs hl hL)
theorem zs_baload {l : Launch} {G : zG} {o : Nat} {ini : Bool} {cc : ByteArray} {ret : Option FieldType} {d : Nat} {Q : zO → zH → Prop} {X : zX} {len pc : Nat} {k : zC} {lv : List (Option Value)} {st : List Value} {h : zH} {c s : Nat} (hX : zOk l G o ini cc ret d Q X) (hk : ∀ pc lv st h c s, k pc lv st h c s → zJ l G X pc lv st h c s) (hd : decode cc pc = .ok (.baload, len)) (z : zw l G o ini cc ret d Q .baload len pc k lv st h c s) : zJ l G X pc lv st h c s := by
  obtain ⟨p, e, R, s0, m, args, below, meth, cd, Z⟩ := X
  obtain ⟨ex, eb, eown, eWt, eWh, eF, eL, eX, elk, ein, eret, exo, exn, efl⟩ := hX
  obtain ⟨rfl, z⟩ := z
  obtain ⟨i, r1, rfl, z1⟩ := zpI_inv z
  obtain ⟨a, r, rfl, hK, hi, z2⟩ := zpR_inv z1
  intro H locs cells slots ls hR hS hc hs hl hL
  have hc0 := zarr hR (a := a) (by omega) (by omega)
  have ha := zarrOf eWt (k := zK h a) (by omega) (by omega) (zN h a) (zarv h a)
  rcases hK with hK | hK
  · refine W.zald (v := .int (zA h a i.toNatClampNeg)) ex eb hc0 (by rw [hK] at ha ⊢; exact ha) (fun q => by cases q) (zarr_in hi) ?_ rfl rfl hd (hk _ _ _ _ _ _ z2 H locs cells slots ls hR hS hc hs hl hL)
    rw [zarr_at hi]
    unfold zarv
    rw [if_pos (by omega)]
  · refine W.bald (v := .int (zA h a i.toNatClampNeg)) ex eb hc0 (by rw [hK] at ha ⊢; exact ha) (fun q => by cases q) (zarr_in hi) ?_ rfl rfl hd (hk _ _ _ _ _ _ z2 H locs cells slots ls hR hS hc hs hl hL)
    rw [zarr_at hi]
    unfold zarv
    rw [if_pos (by omega)]
theorem zs_laload {l : Launch} {G : zG} {o : Nat} {ini : Bool} {cc : ByteArray} {ret : Option FieldType} {d : Nat} {Q : zO → zH → Prop} {X : zX} {len pc : Nat} {k : zC} {lv : List (Option Value)} {st : List Value} {h : zH} {c s : Nat} (hX : zOk l G o ini cc ret d Q X) (hk : ∀ pc lv st h c s, k pc lv st h c s → zJ l G X pc lv st h c s) (hd : decode cc pc = .ok (.laload, len)) (z : zw l G o ini cc ret d Q .laload len pc k lv st h c s) : zJ l G X pc lv st h c s := by
  obtain ⟨p, e, R, s0, m, args, below, meth, cd, Z⟩ := X
  obtain ⟨ex, eb, eown, eWt, eWh, eF, eL, eX, elk, ein, eret, exo, exn, efl⟩ := hX
  obtain ⟨rfl, z⟩ := z
  obtain ⟨i, r1, rfl, z1⟩ := zpI_inv z
  obtain ⟨a, r, rfl, hK, hi, z2⟩ := zpR_inv z1
  intro H locs cells slots ls hR hS hc hs hl hL
  have hc0 := zarr hR (a := a) (by omega) (by omega)
  have ha := zarrOf eWt (k := zK h a) (by omega) (by omega) (zN h a) (zarv h a)
  refine W.lald (v := .long (zB h a i.toNatClampNeg)) ex eb hc0 (by rw [hK] at ha ⊢; exact ha) (fun q => by cases q) (zarr_in hi) ?_ rfl rfl hd (hk _ _ _ _ _ _ z2 H locs cells slots ls hR hS hc hs hl hL)
  rw [zarr_at hi]
  unfold zarv
  rw [if_neg (by omega), if_pos (by omega)]
theorem zs_aaload {l : Launch} {G : zG} {o : Nat} {ini : Bool} {cc : ByteArray} {ret : Option FieldType} {d : Nat} {Q : zO → zH → Prop} {X : zX} {len pc : Nat} {k : zC} {lv : List (Option Value)} {st : List Value} {h : zH} {c s : Nat} (hX : zOk l G o ini cc ret d Q X) (hk : ∀ pc lv st h c s, k pc lv st h c s → zJ l G X pc lv st h c s) (hd : decode cc pc = .ok (.aaload, len)) (z : zw l G o ini cc ret d Q .aaload len pc k lv st h c s) : zJ l G X pc lv st h c s := by
  obtain ⟨p, e, R, s0, m, args, below, meth, cd, Z⟩ := X
  obtain ⟨ex, eb, eown, eWt, eWh, eF, eL, eX, elk, ein, eret, exo, exn, efl⟩ := hX
  obtain ⟨rfl, z⟩ := z
  obtain ⟨i, r1, rfl, z1⟩ := zpI_inv z
  obtain ⟨a, r, rfl, hK, hi, z2⟩ := zpR_inv z1
  intro H locs cells slots ls hR hS hc hs hl hL
  have hc0 := zarr hR (a := a) (by omega) (by omega)
  have ha := zarrOf eWt (k := zK h a) (by omega) (by omega) (zN h a) (zarv h a)
  have hty : (zaty (zK h a)).isReference = true := by
    have : zK h a = 104 ∨ zK h a = 105 ∨ zK h a = 106 ∨ zK h a = 107 := by omega
    rcases this with e | e | e | e <;> rw [e] <;> rfl
  refine W.aald (v := va_rf (zR h a i.toNatClampNeg)) ex eb hc0 ha hty (fun q => by cases q) (zarr_in hi) ?_ rfl rfl hd (hk _ _ _ _ _ _ z2 H locs cells slots ls hR hS hc hs hl hL)
  rw [zarr_at hi]
  unfold zarv
  rw [if_neg (by omega), if_neg (by omega)]
theorem zs_arraylength {l : Launch} {G : zG} {o : Nat} {ini : Bool} {cc : ByteArray} {ret : Option FieldType} {d : Nat} {Q : zO → zH → Prop} {X : zX} {len pc : Nat} {k : zC} {lv : List (Option Value)} {st : List Value} {h : zH} {c s : Nat} (hX : zOk l G o ini cc ret d Q X) (hk : ∀ pc lv st h c s, k pc lv st h c s → zJ l G X pc lv st h c s) (hd : decode cc pc = .ok (.arraylength, len)) (z : zw l G o ini cc ret d Q .arraylength len pc k lv st h c s) : zJ l G X pc lv st h c s := by
  obtain ⟨p, e, R, s0, m, args, below, meth, cd, Z⟩ := X
  obtain ⟨ex, eb, eown, eWt, eWh, eF, eL, eX, elk, ein, eret, exo, exn, efl⟩ := hX
  obtain ⟨rfl, z⟩ := z
  obtain ⟨a, r, rfl, hK, z2⟩ := zpR_inv z
  intro H locs cells slots ls hR hS hc hs hl hL
  rcases hK with hK | hK
  · have hc0 := zarr hR (a := a) (by omega) (by omega)
    have ha := zarrOf eWt (k := zK h a) (by omega) (by omega) (zN h a) (zarv h a)
    exact W.alen (n := nI (zN h a)) ex eb hc0 ha (by rw [arrV_size]; rfl) rfl rfl hd (hk _ _ _ _ _ _ z2 H locs cells slots ls hR hS hc hs hl hL)
  · obtain ⟨e1, e2, e3⟩ := (hR.2.2.1 a).2.1 hK
    subst e1
    rw [e2] at z2
    exact va_slen ex eb eWh.2.2.2.2.2 (Nat.lt_of_lt_of_le eWh.2.2.2.2.1 eWh.1) (Nat.not_le.mpr eWh.2.2.2.2.1) hS hd (hk _ _ _ _ _ _ z2 H locs cells slots ls hR hS hc hs hl hL)
theorem zs_iastore {l : Launch} {G : zG} {o : Nat} {ini : Bool} {cc : ByteArray} {ret : Option FieldType} {d : Nat} {Q : zO → zH → Prop} {X : zX} {len pc : Nat} {k : zC} {lv : List (Option Value)} {st : List Value} {h : zH} {c s : Nat} (hX : zOk l G o ini cc ret d Q X) (hk : ∀ pc lv st h c s, k pc lv st h c s → zJ l G X pc lv st h c s) (hd : decode cc pc = .ok (.iastore, len)) (z : zw l G o ini cc ret d Q .iastore len pc k lv st h c s) : zJ l G X pc lv st h c s := by
  obtain ⟨p, e, R, s0, m, args, below, meth, cd, Z⟩ := X
  obtain ⟨ex, eb, eown, eWt, eWh, eF, eL, eX, elk, ein, eret, exo, exn, efl⟩ := hX
  obtain ⟨rfl, z⟩ := z
  obtain ⟨v, r2, rfl, z0⟩ := zpI_inv z
  obtain ⟨i, r1, rfl, z1⟩ := zpI_inv z0
  obtain ⟨a, r, rfl, hK, hi, z3⟩ := zpR_inv z1
  intro H locs cells slots ls hR hS hc hs hl hL
  have hc0 := zarr hR (a := a) (by omega) (by omega)
  have ha := zarrOf eWt (k := zK h a) (by omega) (by omega) (zN h a) (zarv h a)
  refine W.iast ex eb hc0 (by rw [hK] at ha ⊢; exact ha) (fun q => by cases q) (zarr_in hi) rfl rfl hd fun H1 e1 e2 e3 => ?_
  refine hk _ _ _ _ _ _ z3 H1 _ cells slots ls (zRp_up hR e2 e3 rfl rfl rfl (by omega) (by omega) (fun b hb => zel_of rfl rfl (fun _ => rfl) (fun _ => rfl) (fun _ => rfl) (funext fun j => by rw [zA_sA, if_neg (fun q => hb q.1)]) rfl rfl) (fun b hb => funext fun j => by rw [zA_sA, if_neg (fun q => hb q.1)]) (zarr_up (h := h) (by omega) rfl rfl e1 (fun j => ?_))) (hS.put e2 e3 (zbase hR (by omega) (by omega))) hc hs hl hL
  rw [zarv_A (h := zsA h a i.toNatClampNeg v) (show zK h a < 103 by omega), zarv_A (h := h) (show zK h a < 103 by omega), zA_sA]
  by_cases e : j = i.toNatClampNeg
  · rw [if_pos ⟨rfl, e⟩, if_pos e]
  · rw [if_neg (fun q => e q.2), if_neg e]
theorem zs_bastore {l : Launch} {G : zG} {o : Nat} {ini : Bool} {cc : ByteArray} {ret : Option FieldType} {d : Nat} {Q : zO → zH → Prop} {X : zX} {len pc : Nat} {k : zC} {lv : List (Option Value)} {st : List Value} {h : zH} {c s : Nat} (hX : zOk l G o ini cc ret d Q X) (hk : ∀ pc lv st h c s, k pc lv st h c s → zJ l G X pc lv st h c s) (hd : decode cc pc = .ok (.bastore, len)) (z : zw l G o ini cc ret d Q .bastore len pc k lv st h c s) : zJ l G X pc lv st h c s := by
  obtain ⟨p, e, R, s0, m, args, below, meth, cd, Z⟩ := X
  obtain ⟨ex, eb, eown, eWt, eWh, eF, eL, eX, elk, ein, eret, exo, exn, efl⟩ := hX
  obtain ⟨rfl, z⟩ := z
  obtain ⟨v, r2, rfl, z0⟩ := zpI_inv z
  obtain ⟨i, r1, rfl, z1⟩ := zpI_inv z0
  obtain ⟨a, r, rfl, hK, hi, z3⟩ := zpR_inv z1
  intro H locs cells slots ls hR hS hc hs hl hL
  have hc0 := zarr hR (a := a) (by omega) (by omega)
  have ha := zarrOf eWt (k := zK h a) (by omega) (by omega) (zN h a) (zarv h a)
  rcases hK with ⟨hK, hv⟩ | ⟨hK, hv⟩
  · refine W.zast ex eb hc0 (by rw [hK] at ha ⊢; exact ha) (fun q => by cases q) (zarr_in hi) rfl rfl hd fun H1 e1 e2 e3 => ?_
    have hn : narrow .boolean (.int v) = .int v := by rcases hv with rfl | rfl <;> rfl
    rw [hn] at e1
    refine hk _ _ _ _ _ _ z3 H1 _ cells slots ls (zRp_up hR e2 e3 rfl rfl rfl (by omega) (by omega) (fun b hb => zel_of rfl rfl (fun _ => rfl) (fun _ => rfl) (fun _ => rfl) (funext fun j => by rw [zA_sA, if_neg (fun q => hb q.1)]) rfl rfl) (fun b hb => funext fun j => by rw [zA_sA, if_neg (fun q => hb q.1)]) (zarr_up (h := h) (by omega) rfl rfl e1 (fun j => ?_))) (hS.put e2 e3 (zbase hR (by omega) (by omega))) hc hs hl hL
    rw [zarv_A (h := zsA h a i.toNatClampNeg v) (show zK h a < 103 by omega), zarv_A (h := h) (show zK h a < 103 by omega), zA_sA]
    by_cases e : j = i.toNatClampNeg
    · rw [if_pos ⟨rfl, e⟩, if_pos e]
    · rw [if_neg (fun q => e q.2), if_neg e]
  · refine W.bast ex eb hc0 (by rw [hK] at ha ⊢; exact ha) (fun q => by cases q) (zarr_in hi) rfl rfl hd fun H1 e1 e2 e3 => ?_
    have hn : narrow .byte (.int v) = .int v := by
      show Value.int v.toInt8.toInt32 = _
      rw [hv]
    rw [hn] at e1
    refine hk _ _ _ _ _ _ z3 H1 _ cells slots ls (zRp_up hR e2 e3 rfl rfl rfl (by omega) (by omega) (fun b hb => zel_of rfl rfl (fun _ => rfl) (fun _ => rfl) (fun _ => rfl) (funext fun j => by rw [zA_sA, if_neg (fun q => hb q.1)]) rfl rfl) (fun b hb => funext fun j => by rw [zA_sA, if_neg (fun q => hb q.1)]) (zarr_up (h := h) (by omega) rfl rfl e1 (fun j => ?_))) (hS.put e2 e3 (zbase hR (by omega) (by omega))) hc hs hl hL
    rw [zarv_A (h := zsA h a i.toNatClampNeg v) (show zK h a < 103 by omega), zarv_A (h := h) (show zK h a < 103 by omega), zA_sA]
    by_cases e : j = i.toNatClampNeg
    · rw [if_pos ⟨rfl, e⟩, if_pos e]
    · rw [if_neg (fun q => e q.2), if_neg e]
theorem zs_lastore {l : Launch} {G : zG} {o : Nat} {ini : Bool} {cc : ByteArray} {ret : Option FieldType} {d : Nat} {Q : zO → zH → Prop} {X : zX} {len pc : Nat} {k : zC} {lv : List (Option Value)} {st : List Value} {h : zH} {c s : Nat} (hX : zOk l G o ini cc ret d Q X) (hk : ∀ pc lv st h c s, k pc lv st h c s → zJ l G X pc lv st h c s) (hd : decode cc pc = .ok (.lastore, len)) (z : zw l G o ini cc ret d Q .lastore len pc k lv st h c s) : zJ l G X pc lv st h c s := by
  obtain ⟨p, e, R, s0, m, args, below, meth, cd, Z⟩ := X
  obtain ⟨ex, eb, eown, eWt, eWh, eF, eL, eX, elk, ein, eret, exo, exn, efl⟩ := hX
  obtain ⟨rfl, z⟩ := z
  obtain ⟨v, r2, rfl, z0⟩ := zpL_inv z
  obtain ⟨i, r1, rfl, z1⟩ := zpI_inv z0
  obtain ⟨a, r, rfl, hK, hi, z3⟩ := zpR_inv z1
  intro H locs cells slots ls hR hS hc hs hl hL
  have hc0 := zarr hR (a := a) (by omega) (by omega)
  have ha := zarrOf eWt (k := zK h a) (by omega) (by omega) (zN h a) (zarv h a)
  refine W.last ex eb hc0 (by rw [hK] at ha ⊢; exact ha) (fun q => by cases q) (zarr_in hi) rfl rfl hd fun H1 e1 e2 e3 => ?_
  refine hk _ _ _ _ _ _ z3 H1 _ cells slots ls (zRp_up hR e2 e3 rfl rfl rfl (by omega) (by omega) (fun b hb => zel_of rfl rfl (fun _ => rfl) (fun _ => rfl) (fun _ => rfl) rfl (funext fun j => by rw [zB_sB, if_neg (fun q => hb q.1)]) rfl) (fun _ _ => rfl) (zarr_up (h := h) (by omega) rfl rfl e1 (fun j => ?_))) (hS.put e2 e3 (zbase hR (by omega) (by omega))) hc hs hl hL
  rw [zarv_B (h := zsB h a i.toNatClampNeg v) (show zK h a = 103 by omega), zarv_B (h := h) (show zK h a = 103 by omega), zB_sB]
  by_cases e : j = i.toNatClampNeg
  · rw [if_pos ⟨rfl, e⟩, if_pos e]
  · rw [if_neg (fun q => e q.2), if_neg e]
theorem zs_aastore {l : Launch} {G : zG} {o : Nat} {ini : Bool} {cc : ByteArray} {ret : Option FieldType} {d : Nat} {Q : zO → zH → Prop} {X : zX} {len pc : Nat} {k : zC} {lv : List (Option Value)} {st : List Value} {h : zH} {c s : Nat} (hX : zOk l G o ini cc ret d Q X) (hk : ∀ pc lv st h c s, k pc lv st h c s → zJ l G X pc lv st h c s) (hd : decode cc pc = .ok (.aastore, len)) (z : zw l G o ini cc ret d Q .aastore len pc k lv st h c s) : zJ l G X pc lv st h c s := by
  obtain ⟨p, e, R, s0, m, args, below, meth, cd, Z⟩ := X
  obtain ⟨ex, eb, eown, eWt, eWh, eF, eL, eX, elk, ein, eret, exo, exn, efl⟩ := hX
  obtain ⟨rfl, z⟩ := z
  obtain ⟨v, r2, rfl, z0⟩ := zpR_inv z
  obtain ⟨i, r1, rfl, z1⟩ := zpI_inv z0
  obtain ⟨a, r, rfl, hK, hi, z3⟩ := zpR_inv z1
  intro H locs cells slots ls hR hS hc hs hl hL
  have hKa : 105 ≤ zK h a ∧ zK h a ≤ 107 := by omega
  have hc0 := zarr hR (a := a) (by omega) (by omega)
  have h00 : ¬ i < 0 ∧ i.toNatClampNeg < (arrV (zgC G (zK h a)) (zN h a) (zarv h a)).slots.size := by
    have := zarr_in (c := zgC G (zK h a)) (f := zarv h a) hi
    exact ⟨fun q => this (Or.inl q), by rw [arrV_size]; exact hi.2⟩
  have hob : ∃ ci r9, zK h v = 1 + ci ∧ vwCl[ci]? = some r9 ∧ zaty (zK h a) = .object r9.1 := by
    rcases hK with ⟨q1, q2⟩ | ⟨q1, q2⟩ | ⟨q1, q2⟩
    · exact ⟨8, _, q2, rfl, by rw [q1]; rfl⟩
    · exact ⟨5, _, q2, rfl, by rw [q1]; rfl⟩
    · exact ⟨3, _, q2, rfl, by rw [q1]; rfl⟩
  obtain ⟨ci, r9, hKv, hcl, hty⟩ := hob
  have hci := zci_lt hcl
  have hat := ((hR.2.2.1 v).1 (by omega) (by omega)).2
  rw [zel_obj hKv hci] at hat
  obtain ⟨r', hr', cellV, g1, g2, g3, -⟩ := hat
  have g2' : cellV.cls = (zgD G).1 ci := g2
  have hcls := (eWt.1.1 ci r9 hcl).2
  have hra := (eWt.1.2 _ _ (ztys_at (k := zK h a) (by omega) (by omega))).2
  simp only [hty] at hra
  obtain ⟨kA, comp, k1, k2, k3, -⟩ := hra
  have hcomp : comp = (zgD G).1 ci := Option.some.inj (k3.symm.trans hcls.1)
  subst hcomp
  obtain ⟨kC, hkC, -⟩ := hcls.2
  refine W.aast ex eb hc0 (fun q h => by cases h) (fun h => by cases h) k1 k2 rfl hkC h00 g1 (fun q h => by rw [g3] at h; cases h) (by rw [g2']; exact hkC) (by rw [g2']; exact va_assign hcls) rfl rfl hd fun H1 e1 e2 e3 => ?_
  refine hk _ _ _ _ _ _ z3 H1 _ cells slots ls (zRp_up hR e2 e3 rfl rfl rfl (by omega) (by omega) (fun b hb => zel_of rfl rfl (fun _ => rfl) (fun _ => rfl) (fun _ => rfl) rfl rfl (funext fun j => by rw [zR_sR, if_neg (fun q => hb q.1)])) (fun _ _ => rfl) (zarr_up (h := h) (by omega) rfl rfl e1 (fun j => ?_))) (hS.put e2 e3 (zbase hR (by omega) (by omega))) hc hs hl hL
  rw [zarv_R (h := zsR h a i.toNatClampNeg (some v)) (show zK h a > 103 by omega), zarv_R (h := h) (show zK h a > 103 by omega), zR_sR]
  by_cases e : j = i.toNatClampNeg
  · rw [if_pos ⟨rfl, e⟩, if_pos e]; rfl
  · rw [if_neg (fun q => e q.2), if_neg e]
theorem zs_ldc {l : Launch} {G : zG} {o : Nat} {ini : Bool} {cc : ByteArray} {ret : Option FieldType} {d : Nat} {Q : zO → zH → Prop} {X : zX} {len pc : Nat} {k : zC} {lv : List (Option Value)} {st : List Value} {h : zH} {c s : Nat} {n : Nat} (hX : zOk l G o ini cc ret d Q X) (hk : ∀ pc lv st h c s, k pc lv st h c s → zJ l G X pc lv st h c s) (hd : decode cc pc = .ok ((.ldc n), len)) (z : zw l G o ini cc ret d Q (.ldc n) len pc k lv st h c s) : zJ l G X pc lv st h c s := by
  obtain ⟨p, e, R, s0, m, args, below, meth, cd, Z⟩ := X
  obtain ⟨ex, eb, eown, eWt, eWh, eF, eL, eX, elk, ein, eret, exo, exn, efl⟩ := hX
  obtain ⟨rfl, z⟩ := z
  intro H locs cells slots ls hR hS hc hs hl hL
  cases hz : zld o n with
  | some v =>
    rw [hz] at z
    exact lv_ldc ex eb eown (zuse eWt (zld_ok hz) rfl) hd (hk _ _ _ _ _ _ z H locs cells slots ls hR hS hc hs hl hL)
  | none =>
    rw [hz] at z
    cases hy : zls o n with
    | none => rw [hy] at z; exact z.elim
    | some t =>
      rw [hy] at z
      have ht : t < 5 := zls_lt hy
      exact va_ldcS ex eb eown (eWh.2.1.1 o n t hy) hd (hk _ _ _ _ _ _ (z _ (hR.2.2.2.2 t ht)) H locs cells slots ls hR hS hc hs hl hL)
theorem zs_ldc_w {l : Launch} {G : zG} {o : Nat} {ini : Bool} {cc : ByteArray} {ret : Option FieldType} {d : Nat} {Q : zO → zH → Prop} {X : zX} {len pc : Nat} {k : zC} {lv : List (Option Value)} {st : List Value} {h : zH} {c s : Nat} {n : Nat} (hX : zOk l G o ini cc ret d Q X) (hk : ∀ pc lv st h c s, k pc lv st h c s → zJ l G X pc lv st h c s) (hd : decode cc pc = .ok ((.ldc_w n), len)) (z : zw l G o ini cc ret d Q (.ldc_w n) len pc k lv st h c s) : zJ l G X pc lv st h c s := by
  obtain ⟨p, e, R, s0, m, args, below, meth, cd, Z⟩ := X
  obtain ⟨ex, eb, eown, eWt, eWh, eF, eL, eX, elk, ein, eret, exo, exn, efl⟩ := hX
  obtain ⟨rfl, z⟩ := z
  intro H locs cells slots ls hR hS hc hs hl hL
  cases hz : zld o n with
  | some v =>
    rw [hz] at z
    exact lv_ldcw ex eb eown (zuse eWt (zld_ok hz) rfl) hd (hk _ _ _ _ _ _ z H locs cells slots ls hR hS hc hs hl hL)
  | none =>
    rw [hz] at z
    cases hy : zls o n with
    | none => rw [hy] at z; exact z.elim
    | some t =>
      rw [hy] at z
      have ht : t < 5 := zls_lt hy
      exact va_ldcSW ex eb eown (eWh.2.1.1 o n t hy) hd (hk _ _ _ _ _ _ (z _ (hR.2.2.2.2 t ht)) H locs cells slots ls hR hS hc hs hl hL)
theorem zs_ldc2_w {l : Launch} {G : zG} {o : Nat} {ini : Bool} {cc : ByteArray} {ret : Option FieldType} {d : Nat} {Q : zO → zH → Prop} {X : zX} {len pc : Nat} {k : zC} {lv : List (Option Value)} {st : List Value} {h : zH} {c s : Nat} {n : Nat} (hX : zOk l G o ini cc ret d Q X) (hk : ∀ pc lv st h c s, k pc lv st h c s → zJ l G X pc lv st h c s) (hd : decode cc pc = .ok ((.ldc2_w n), len)) (z : zw l G o ini cc ret d Q (.ldc2_w n) len pc k lv st h c s) : zJ l G X pc lv st h c s := by
  obtain ⟨p, e, R, s0, m, args, below, meth, cd, Z⟩ := X
  obtain ⟨ex, eb, eown, eWt, eWh, eF, eL, eX, elk, ein, eret, exo, exn, efl⟩ := hX
  obtain ⟨rfl, z⟩ := z
  intro H locs cells slots ls hR hS hc hs hl hL
  cases hz : zl2 o n with
  | some v =>
    rw [hz] at z
    exact lv_ldc2 ex eb eown (zuse eWt (zl2_ok hz) rfl) hd (hk _ _ _ _ _ _ z H locs cells slots ls hR hS hc hs hl hL)
  | none => rw [hz] at z; exact z.elim
