theorem zRp_new {G : zG} {h : zH} {s : State} {H H1 : Heap} {q kd n : Nat} (hR : zRp G h s H) (hq : zS h = some q) (e1 : H1.size = q + 1) (o1 : ∀ x, x < q → H1[x]? = H[x]?) (h0 : 0 < kd) (h2 : kd < 200) (hat : va_at (zgD G) vwCl (q, zel G (zal h q kd n) q) H1) : zRp G (zal h q kd n) s H1 := by
  obtain ⟨r1, r2, r3, r4, r5⟩ := hR
  have hz : H.size = q := r4 q hq
  have hb : zgb G ≤ q := by rw [← hz]; exact r2.1
  refine ⟨r1, zWh_kept r2 (by omega) (fun x hx _ => o1 x (by omega)), fun b => ?_, fun m hm => ?_, fun t ht => ?_⟩
  · by_cases e : b = q
    · subst e
      have hK : zK (zal h b kd n) b = kd := by rw [zK_al, if_pos rfl]
      refine ⟨fun _ _ => ⟨hb, hat⟩, fun g => ?_, fun g => ?_⟩
      · rw [hK] at g
        omega
      · rw [hK] at g
        omega
    · obtain ⟨s1, s2, s3⟩ := r3 b
      have hK : zK (zal h q kd n) b = zK h b := by rw [zK_al, if_neg e]
      have hN : zN (zal h q kd n) b = zN h b := by rw [zN_al, if_neg e]
      have hA : zA (zal h q kd n) b = zA h b := funext fun j => by rw [zA_al, if_neg e]
      have hel : zel G (zal h q kd n) b = zel G h b := zel_of hK hN (fun j => by rw [zI_al, if_neg e]) (fun j => by rw [zL_al, if_neg e]) (fun j => by rw [zP_al, if_neg e]) hA (funext fun j => by rw [zB_al, if_neg e]) (funext fun j => by rw [zR_al, if_neg e])
      refine ⟨fun g1 g2 => ?_, fun g => ?_, fun g => ?_⟩
      · rw [hK] at g1 g2
        obtain ⟨t1, t2⟩ := s1 g1 g2
        have hlt := t2.lt
        rw [hel]
        exact ⟨t1, t2.kept (o1 b (by have : b < H.size := hlt; omega))⟩
      · rw [hK] at g
        rw [hN, hA]
        exact s2 g
      · rw [hK] at g ⊢
        exact s3 g
  · rw [zS_al] at hm
    cases hm
    exact e1
  · have hne : zga G t ≠ q := by
      obtain ⟨⟨cell, -, -, -, hna⟩, -⟩ := r2.2.1.2.1.1 t ht
      intro e
      exact hna (by rw [e]; exact hb)
    rw [zK_al, if_neg hne]
    exact r5 t ht
def zrefl : FieldType → Bool
  | .int => true
  | .boolean => true
  | .long => true
  | .object _ => true
  | .array _ => true
  | _ => false
theorem zrefl_all : ∀ ci, ci < 11 → ∀ k, k < znf ci → zrefl (ztyp ci k) = true := by decide +kernel
theorem zrefl_v {h : zH} {q kd n f : Nat} {ty : FieldType} (hy : zrefl ty = true) : zfv (zal h q kd n) q (ztg ty) f = defaultValue ty := by
  cases ty <;> first | (cases hy; done) | skip
  · show Value.int _ = _
    rw [zI_al, if_pos rfl]
    rfl
  · show Value.long _ = _
    rw [zL_al, if_pos rfl]
    rfl
  · show Value.int _ = _
    rw [zI_al, if_pos rfl]
    rfl
  · show va_rf _ = _
    rw [zP_al, if_pos rfl]
    rfl
  · show va_rf _ = _
    rw [zP_al, if_pos rfl]
    rfl
theorem zS_push {A : Nat → Prop} {H0 H H1 : Heap} {locs : List Loc} {q : Nat} (hS : va_S A H0 H locs) (hz : H.size = q) (e1 : H1.size = q + 1) (o1 : ∀ x, x < q → H1[x]? = H[x]?) : va_S A H0 H1 locs := ⟨Nat.le_trans hS.1 (by omega), fun x h1 h2 => (o1 x (by have := hS.1; omega)).trans (hS.2.1 x h1 h2), hS.2.2⟩
theorem zs_new {l : Launch} {G : zG} {o : Nat} {ini : Bool} {cc : ByteArray} {ret : Option FieldType} {d : Nat} {Q : zO → zH → Prop} {X : zX} {len pc : Nat} {k : zC} {lv : List (Option Value)} {st : List Value} {h : zH} {c s : Nat} {n : Nat} (hX : zOk l G o ini cc ret d Q X) (hk : ∀ pc lv st h c s, k pc lv st h c s → zJ l G X pc lv st h c s) (hd : decode cc pc = .ok ((.new n), len)) (z : zw l G o ini cc ret d Q (.new n) len pc k lv st h c s) : zJ l G X pc lv st h c s := by
  obtain ⟨p, e, R, s0, m, args, below, meth, cd, Z⟩ := X
  obtain ⟨ex, eb, eown, eWt, eWh, eF, eL, eX, elk, ein, eret, exo, exn, efl⟩ := hX
  obtain ⟨rfl, z⟩ := z
  intro H locs cells slots ls hR hS hc hs hl hL
  cases hz : znw o n with
  | some kq =>
    obtain ⟨kd, m9⟩ := kq
    rw [hz] at z
    obtain ⟨q, hq, hc1, hm, z1⟩ := z
    obtain ⟨ci, C, T, rfl, hcl, hlk⟩ := znw_ok hz
    obtain ⟨c1, c2, c3, c4, c5, c6, c7, c8⟩ := zcl_ok hcl
    have hci := zci_lt hcl
    have hts : ∀ w ∈ u_ws C T m9, w.before args s0 = true := fun w hw => by
      have hq := List.all_eq_true.mp c8 w hw
      obtain ⟨k9, -, rfl⟩ := List.mem_map.mp hw
      exact zuse eWt (c1 _ hw) hq
    have hKn := eWt.1.1 ci _ hcl
    have hsz : H.size = q := hR.2.2.2.1 q hq
    have hc' : cells + c ≤ R.cells := hc
    have hs' : slots + s ≤ R.slots := hs
    refine W.newcK ex eb eown (zuse eWt hlk rfl) (zuse eWt c5 rfl) (zuse eWt c6 rfl) rfl hd (show cells + 1 ≤ R.cells by omega) (show slots + m9 ≤ R.slots by omega) hKn.2.1 hsz fun H1 kC hkC e1 e2 o1 => ?_
    refine hk _ _ _ _ _ _ z1 H1 locs (cells + 1) (slots + m9) ls (zRp_new hR hq e2 o1 (by omega) (by omega) ?_) (zS_push hS hsz e2 o1) (show _ ≤ R.cells by omega) (show _ ≤ R.slots by omega) hl hL
    rw [zel_obj (show zK (zal h q (1 + ci) 0) q = 1 + ci by rw [zK_al, if_pos rfl]) hci]
    refine ⟨_, hcl, (u_born (ztyp ci) hts (fun _ x => x) hKn hkC e1 c2).to (fun k hk => ?_)⟩
    have hk' : k < znf ci := by rw [← c4]; exact hk
    unfold vp_V
    rw [List.getD_eq_getElem?_getD, List.getElem?_map, List.getElem?_range hk']
    exact (zrefl_v (zrefl_all ci hci k hk')).symm
  | none =>
    rw [hz] at z
    cases hy : zxc o n with
    | none => simp only [hy] at z
    | some q =>
      obtain ⟨E, ic⟩ := q
      simp only [hy] at z
      obtain ⟨d3, d4, d7, hc1, hs1, hd1, hst, hQ⟩ := z
      have hc' : cells + c ≤ R.cells := hc
      have hs' : slots + s ≤ R.slots := hs
      exact exn E n ic h H locs cells slots ls pc st hy hd d3 d4 d7 hQ hR hS (by omega) (by omega) hd1 hst (hl.1.trans hL)
theorem zs_newarray {l : Launch} {G : zG} {o : Nat} {ini : Bool} {cc : ByteArray} {ret : Option FieldType} {d : Nat} {Q : zO → zH → Prop} {X : zX} {len pc : Nat} {k : zC} {lv : List (Option Value)} {st : List Value} {h : zH} {c s : Nat} {ty : ArrayType} (hX : zOk l G o ini cc ret d Q X) (hk : ∀ pc lv st h c s, k pc lv st h c s → zJ l G X pc lv st h c s) (hd : decode cc pc = .ok ((.newarray ty), len)) (z : zw l G o ini cc ret d Q (.newarray ty) len pc k lv st h c s) : zJ l G X pc lv st h c s := by
  obtain ⟨p, e, R, s0, m, args, below, meth, cd, Z⟩ := X
  obtain ⟨ex, eb, eown, eWt, eWh, eF, eL, eX, elk, ein, eret, exo, exn, efl⟩ := hX
  obtain ⟨rfl, z⟩ := z
  obtain ⟨n, r, rfl, q, hq, hn0, hn6, hc1, hs1, kd, hkd, z1⟩ := zpI_inv z
  intro H locs cells slots ls hR hS hc hs hl hL
  have hn : ¬ n < 0 := fun g => by
    have h1 := Int32.le_iff_toInt_le.mp hn0
    have h2 := Int32.lt_iff_toInt_lt.mp g
    omega
  have hsz : H.size = q := hR.2.2.2.1 q hq
  have hc' : cells + c ≤ R.cells := hc
  have hs' : slots + s ≤ R.slots := hs
  have hty : 100 ≤ kd ∧ kd ≤ 103 ∧ newarray.typeOf ty = zaty kd ∧ zaty kd ∈ ([.int, .boolean, .byte, .long] : List FieldType) ∧ componentBytes (zaty kd) ≤ 8 := by
    cases ty <;> first | exact hkd.elim | (cases hkd; exact ⟨by decide, by decide, rfl, by decide, by decide⟩)
  obtain ⟨hk1, hk2, hk3, hk4, hk5⟩ := hty
  have hra := (eWt.1.2 _ _ (ztys_at (k := kd) hk1 (by omega))).2
  have hcA : s0.vm.findClass ("[" ++ (zaty kd).toString) = some (zgC G kd) := by
    have : kd = 100 ∨ kd = 101 ∨ kd = 102 ∨ kd = 103 := by omega
    rcases this with rfl | rfl | rfl | rfl <;> exact hra
  refine va_newaK ex eb (word_at (State.WarmedH.refl s0) (Or.inr ⟨_, rfl⟩) (by rw [hk3]; exact eWt.2.2.1 _ hk4)) rfl hd rfl hn rfl (by rw [hk3]; have := Nat.mul_le_mul hn6 hk5; omega) (show _ ≤ R.cells by omega) (show _ ≤ R.slots by omega) hsz fun H1 cA e1 e2 o1 _ hNm => ?_
  rw [hk3] at hNm e1
  have hcc : cA = zgC G kd := Option.some.inj (hNm.symm.trans hcA)
  subst hcc
  refine hk _ _ _ _ _ _ z1 H1 locs (cells + 1) (slots + n.toNatClampNeg) ls (zRp_new hR hq e2 o1 (by omega) (by omega) ?_) (zS_push hS hsz e2 o1) (show _ ≤ R.cells by omega) (show _ ≤ R.slots by omega) hl hL
  have hK : zK (zal h q kd n.toNatClampNeg) q = kd := by rw [zK_al, if_pos rfl]
  rw [zel_cell (by rw [hK]; exact hk1), hK, zN_al, if_pos rfl, e1]
  congr 2
  funext j
  by_cases e : kd < 103
  · rw [zarv_A (by rw [hK]; exact e), zA_al, if_pos rfl]
    have : kd = 100 ∨ kd = 101 ∨ kd = 102 := by omega
    rcases this with rfl | rfl | rfl <;> rfl
  · have e3 : kd = 103 := by omega
    subst e3
    rw [zarv_B hK, zB_al, if_pos rfl]
    rfl
theorem zs_anewarray {l : Launch} {G : zG} {o : Nat} {ini : Bool} {cc : ByteArray} {ret : Option FieldType} {d : Nat} {Q : zO → zH → Prop} {X : zX} {len pc : Nat} {k : zC} {lv : List (Option Value)} {st : List Value} {h : zH} {c s : Nat} {i9 : Nat} (hX : zOk l G o ini cc ret d Q X) (hk : ∀ pc lv st h c s, k pc lv st h c s → zJ l G X pc lv st h c s) (hd : decode cc pc = .ok ((.anewarray i9), len)) (z : zw l G o ini cc ret d Q (.anewarray i9) len pc k lv st h c s) : zJ l G X pc lv st h c s := by
  obtain ⟨p, e, R, s0, m, args, below, meth, cd, Z⟩ := X
  obtain ⟨ex, eb, eown, eWt, eWh, eF, eL, eX, elk, ein, eret, exo, exn, efl⟩ := hX
  obtain ⟨rfl, z⟩ := z
  cases hz : zna o i9 with
  | none => rw [hz] at z; exact z.elim
  | some kd =>
  rw [hz] at z
  obtain ⟨C, hk1, hk2, hty, hlk, hC⟩ := zna_ok hz
  obtain ⟨n, r, rfl, q, hq, hn0, hn6, hc1, hs1, z1⟩ := zpI_inv z
  intro H locs cells slots ls hR hS hc hs hl hL
  have hn : ¬ n < 0 := fun g => by
    have h1 := Int32.le_iff_toInt_le.mp hn0
    have h2 := Int32.lt_iff_toInt_lt.mp g
    omega
  have hsz : H.size = q := hR.2.2.2.1 q hq
  have hc' : cells + c ≤ R.cells := hc
  have hs' : slots + s ≤ R.slots := hs
  have hra := (eWt.1.2 _ _ (ztys_at (k := kd) (by omega) (by omega))).2
  simp only [hty] at hra
  obtain ⟨kA', comp', k1, k2, k3, k4⟩ := hra
  have hover : va_AO C s0 := by rcases hC with rfl | rfl | rfl <;> first | exact eWt.2.2.2.1 | exact eWt.2.2.2.2.1 | exact eWt.2.2.2.2.2.1
  refine W.anew ex eb eown (zuse eWt hlk rfl) (va_AO.use hover) rfl hd rfl hn (by omega) (show _ ≤ R.cells by omega) (show _ ≤ R.slots by omega) fun cA kA comp f1 f2 f3 f4 => ?_
  have hcc : cA = zgC G kd := Option.some.inj (f1.symm.trans k4)
  subst hcc
  generalize hH1 : H.push ({ cls := zgC G kd, slots := Array.replicate n.toNatClampNeg .null, vm := .none } : Cell) = H1
  have e2 : H1.size = q + 1 := by rw [← hH1, Array.size_push, hsz]
  have e1 : H1[q]? = some (arrV (zgC G kd) n.toNatClampNeg (fun _ => .null)) := by rw [← hsz, ← hH1, Array.getElem?_push_size, ← arrV_new]
  have o1 : ∀ x : Nat, x < q → H1[x]? = H[x]? := fun x hx => by rw [← hH1, Array.getElem?_push, if_neg (by omega)]
  have z2 := hk _ _ _ _ _ _ z1 H1 locs (cells + 1) (slots + n.toNatClampNeg) ls (zRp_new hR hq e2 o1 (by omega) (by omega) (by
    have hK : zK (zal h q kd n.toNatClampNeg) q = kd := by rw [zK_al, if_pos rfl]
    rw [zel_cell (by rw [hK]; omega), hK, zN_al, if_pos rfl, e1]
    congr 2
    funext j
    rw [zarv_R (by rw [hK]; omega), zR_al, if_pos rfl]
    rfl)) (zS_push hS hsz e2 o1) (show _ ≤ R.cells by omega) (show _ ≤ R.slots by omega) hl hL
  rw [hsz]
  exact z2
