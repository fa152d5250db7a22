theorem zs_iconst {l : Launch} {G : zG} {o : Nat} {ini : Bool} {cc : ByteArray} {ret : Option FieldType} {d : Nat} {Q : zO → zH → Prop} {X : zX} {len pc : Nat} {k : zC} {lv : List (Option Value)} {st : List Value} {h : zH} {c s : Nat} {n : Int} (hX : zOk l G o ini cc ret d Q X) (hk : ∀ pc lv st h c s, k pc lv st h c s → zJ l G X pc lv st h c s) (hd : decode cc pc = .ok ((.iconst n), len)) (z : zw l G o ini cc ret d Q (.iconst n) len pc k lv st h c s) : zJ l G X pc lv st h c s := by
  obtain ⟨p, e, R, s0, m, args, below, meth, cd, Z⟩ := X
  obtain ⟨ex, eb, eown, eWt, eWh, eF, eL, eX, elk, ein, eret, exo, exn, efl⟩ := hX
  obtain ⟨rfl, z⟩ := z
  intro H locs cells slots ls hR hS hc hs hl hL
  exact lv_iconst ex eb hd rfl (hk _ _ _ _ _ _ z H locs cells slots ls hR hS hc hs hl hL)
theorem zs_bipush {l : Launch} {G : zG} {o : Nat} {ini : Bool} {cc : ByteArray} {ret : Option FieldType} {d : Nat} {Q : zO → zH → Prop} {X : zX} {len pc : Nat} {k : zC} {lv : List (Option Value)} {st : List Value} {h : zH} {c s : Nat} {n : Int} (hX : zOk l G o ini cc ret d Q X) (hk : ∀ pc lv st h c s, k pc lv st h c s → zJ l G X pc lv st h c s) (hd : decode cc pc = .ok ((.bipush n), len)) (z : zw l G o ini cc ret d Q (.bipush n) len pc k lv st h c s) : zJ l G X pc lv st h c s := by
  obtain ⟨p, e, R, s0, m, args, below, meth, cd, Z⟩ := X
  obtain ⟨ex, eb, eown, eWt, eWh, eF, eL, eX, elk, ein, eret, exo, exn, efl⟩ := hX
  obtain ⟨rfl, z⟩ := z
  intro H locs cells slots ls hR hS hc hs hl hL
  exact lv_bipush ex eb hd rfl (hk _ _ _ _ _ _ z H locs cells slots ls hR hS hc hs hl hL)
theorem zs_sipush {l : Launch} {G : zG} {o : Nat} {ini : Bool} {cc : ByteArray} {ret : Option FieldType} {d : Nat} {Q : zO → zH → Prop} {X : zX} {len pc : Nat} {k : zC} {lv : List (Option Value)} {st : List Value} {h : zH} {c s : Nat} {n : Int} (hX : zOk l G o ini cc ret d Q X) (hk : ∀ pc lv st h c s, k pc lv st h c s → zJ l G X pc lv st h c s) (hd : decode cc pc = .ok ((.sipush n), len)) (z : zw l G o ini cc ret d Q (.sipush n) len pc k lv st h c s) : zJ l G X pc lv st h c s := by
  obtain ⟨p, e, R, s0, m, args, below, meth, cd, Z⟩ := X
  obtain ⟨ex, eb, eown, eWt, eWh, eF, eL, eX, elk, ein, eret, exo, exn, efl⟩ := hX
  obtain ⟨rfl, z⟩ := z
  intro H locs cells slots ls hR hS hc hs hl hL
  exact lv_sipush ex eb hd rfl (hk _ _ _ _ _ _ z H locs cells slots ls hR hS hc hs hl hL)
theorem zs_lconst {l : Launch} {G : zG} {o : Nat} {ini : Bool} {cc : ByteArray} {ret : Option FieldType} {d : Nat} {Q : zO → zH → Prop} {X : zX} {len pc : Nat} {k : zC} {lv : List (Option Value)} {st : List Value} {h : zH} {c s : Nat} {n : Fin 2} (hX : zOk l G o ini cc ret d Q X) (hk : ∀ pc lv st h c s, k pc lv st h c s → zJ l G X pc lv st h c s) (hd : decode cc pc = .ok ((.lconst n), len)) (z : zw l G o ini cc ret d Q (.lconst n) len pc k lv st h c s) : zJ l G X pc lv st h c s := by
  obtain ⟨p, e, R, s0, m, args, below, meth, cd, Z⟩ := X
  obtain ⟨ex, eb, eown, eWt, eWh, eF, eL, eX, elk, ein, eret, exo, exn, efl⟩ := hX
  obtain ⟨rfl, z⟩ := z
  intro H locs cells slots ls hR hS hc hs hl hL
  exact lv_lconst ex eb hd rfl (hk _ _ _ _ _ _ z H locs cells slots ls hR hS hc hs hl hL)
theorem zs_aconst_null {l : Launch} {G : zG} {o : Nat} {ini : Bool} {cc : ByteArray} {ret : Option FieldType} {d : Nat} {Q : zO → zH → Prop} {X : zX} {len pc : Nat} {k : zC} {lv : List (Option Value)} {st : List Value} {h : zH} {c s : Nat} (hX : zOk l G o ini cc ret d Q X) (hk : ∀ pc lv st h c s, k pc lv st h c s → zJ l G X pc lv st h c s) (hd : decode cc pc = .ok (.aconst_null, len)) (z : zw l G o ini cc ret d Q .aconst_null len pc k lv st h c s) : zJ l G X pc lv st h c s := by
  obtain ⟨p, e, R, s0, m, args, below, meth, cd, Z⟩ := X
  obtain ⟨ex, eb, eown, eWt, eWh, eF, eL, eX, elk, ein, eret, exo, exn, efl⟩ := hX
  obtain ⟨rfl, z⟩ := z
  intro H locs cells slots ls hR hS hc hs hl hL
  exact lv_null ex eb hd (hk _ _ _ _ _ _ z H locs cells slots ls hR hS hc hs hl hL)
theorem zs_iload {l : Launch} {G : zG} {o : Nat} {ini : Bool} {cc : ByteArray} {ret : Option FieldType} {d : Nat} {Q : zO → zH → Prop} {X : zX} {len pc : Nat} {k : zC} {lv : List (Option Value)} {st : List Value} {h : zH} {c s : Nat} {n : Nat} (hX : zOk l G o ini cc ret d Q X) (hk : ∀ pc lv st h c s, k pc lv st h c s → zJ l G X pc lv st h c s) (hd : decode cc pc = .ok ((.iload n), len)) (z : zw l G o ini cc ret d Q (.iload n) len pc k lv st h c s) : zJ l G X pc lv st h c s := by
  obtain ⟨p, e, R, s0, m, args, below, meth, cd, Z⟩ := X
  obtain ⟨ex, eb, eown, eWt, eWh, eF, eL, eX, elk, ein, eret, exo, exn, efl⟩ := hX
  obtain ⟨rfl, z⟩ := z
  obtain ⟨x, hx, z1⟩ := zvI_inv z
  intro H locs cells slots ls hR hS hc hs hl hL
  exact lv_iload ex eb hd (hl.2.2 _ _ hx) (hk _ _ _ _ _ _ z1 H locs cells slots ls hR hS hc hs hl hL)
theorem zs_iload_n {l : Launch} {G : zG} {o : Nat} {ini : Bool} {cc : ByteArray} {ret : Option FieldType} {d : Nat} {Q : zO → zH → Prop} {X : zX} {len pc : Nat} {k : zC} {lv : List (Option Value)} {st : List Value} {h : zH} {c s : Nat} {n : Fin 4} (hX : zOk l G o ini cc ret d Q X) (hk : ∀ pc lv st h c s, k pc lv st h c s → zJ l G X pc lv st h c s) (hd : decode cc pc = .ok ((.iload_n n), len)) (z : zw l G o ini cc ret d Q (.iload_n n) len pc k lv st h c s) : zJ l G X pc lv st h c s := by
  obtain ⟨p, e, R, s0, m, args, below, meth, cd, Z⟩ := X
  obtain ⟨ex, eb, eown, eWt, eWh, eF, eL, eX, elk, ein, eret, exo, exn, efl⟩ := hX
  obtain ⟨rfl, z⟩ := z
  obtain ⟨x, hx, z1⟩ := zvI_inv z
  intro H locs cells slots ls hR hS hc hs hl hL
  exact lv_iload_n ex eb hd rfl (hl.2.2 _ _ hx) (hk _ _ _ _ _ _ z1 H locs cells slots ls hR hS hc hs hl hL)
theorem zs_lload {l : Launch} {G : zG} {o : Nat} {ini : Bool} {cc : ByteArray} {ret : Option FieldType} {d : Nat} {Q : zO → zH → Prop} {X : zX} {len pc : Nat} {k : zC} {lv : List (Option Value)} {st : List Value} {h : zH} {c s : Nat} {n : Nat} (hX : zOk l G o ini cc ret d Q X) (hk : ∀ pc lv st h c s, k pc lv st h c s → zJ l G X pc lv st h c s) (hd : decode cc pc = .ok ((.lload n), len)) (z : zw l G o ini cc ret d Q (.lload n) len pc k lv st h c s) : zJ l G X pc lv st h c s := by
  obtain ⟨p, e, R, s0, m, args, below, meth, cd, Z⟩ := X
  obtain ⟨ex, eb, eown, eWt, eWh, eF, eL, eX, elk, ein, eret, exo, exn, efl⟩ := hX
  obtain ⟨rfl, z⟩ := z
  obtain ⟨x, hx, z1⟩ := zvL_inv z
  intro H locs cells slots ls hR hS hc hs hl hL
  exact lv_lload ex eb hd (hl.2.2 _ _ hx) (hk _ _ _ _ _ _ z1 H locs cells slots ls hR hS hc hs hl hL)
theorem zs_lload_n {l : Launch} {G : zG} {o : Nat} {ini : Bool} {cc : ByteArray} {ret : Option FieldType} {d : Nat} {Q : zO → zH → Prop} {X : zX} {len pc : Nat} {k : zC} {lv : List (Option Value)} {st : List Value} {h : zH} {c s : Nat} {n : Fin 4} (hX : zOk l G o ini cc ret d Q X) (hk : ∀ pc lv st h c s, k pc lv st h c s → zJ l G X pc lv st h c s) (hd : decode cc pc = .ok ((.lload_n n), len)) (z : zw l G o ini cc ret d Q (.lload_n n) len pc k lv st h c s) : zJ l G X pc lv st h c s := by
  obtain ⟨p, e, R, s0, m, args, below, meth, cd, Z⟩ := X
  obtain ⟨ex, eb, eown, eWt, eWh, eF, eL, eX, elk, ein, eret, exo, exn, efl⟩ := hX
  obtain ⟨rfl, z⟩ := z
  obtain ⟨x, hx, z1⟩ := zvL_inv z
  intro H locs cells slots ls hR hS hc hs hl hL
  exact lv_lload_n ex eb hd rfl (hl.2.2 _ _ hx) (hk _ _ _ _ _ _ z1 H locs cells slots ls hR hS hc hs hl hL)
theorem zs_aload {l : Launch} {G : zG} {o : Nat} {ini : Bool} {cc : ByteArray} {ret : Option FieldType} {d : Nat} {Q : zO → zH → Prop} {X : zX} {len pc : Nat} {k : zC} {lv : List (Option Value)} {st : List Value} {h : zH} {c s : Nat} {n : Nat} (hX : zOk l G o ini cc ret d Q X) (hk : ∀ pc lv st h c s, k pc lv st h c s → zJ l G X pc lv st h c s) (hd : decode cc pc = .ok ((.aload n), len)) (z : zw l G o ini cc ret d Q (.aload n) len pc k lv st h c s) : zJ l G X pc lv st h c s := by
  obtain ⟨p, e, R, s0, m, args, below, meth, cd, Z⟩ := X
  obtain ⟨ex, eb, eown, eWt, eWh, eF, eL, eX, elk, ein, eret, exo, exn, efl⟩ := hX
  obtain ⟨rfl, z⟩ := z
  obtain ⟨x, hx, z1⟩ := zvR_inv z
  intro H locs cells slots ls hR hS hc hs hl hL
  exact lv_aload ex eb hd (hl.2.2 _ _ hx) (hk _ _ _ _ _ _ z1 H locs cells slots ls hR hS hc hs hl hL)
theorem zs_aload_n {l : Launch} {G : zG} {o : Nat} {ini : Bool} {cc : ByteArray} {ret : Option FieldType} {d : Nat} {Q : zO → zH → Prop} {X : zX} {len pc : Nat} {k : zC} {lv : List (Option Value)} {st : List Value} {h : zH} {c s : Nat} {n : Fin 4} (hX : zOk l G o ini cc ret d Q X) (hk : ∀ pc lv st h c s, k pc lv st h c s → zJ l G X pc lv st h c s) (hd : decode cc pc = .ok ((.aload_n n), len)) (z : zw l G o ini cc ret d Q (.aload_n n) len pc k lv st h c s) : zJ l G X pc lv st h c s := by
  obtain ⟨p, e, R, s0, m, args, below, meth, cd, Z⟩ := X
  obtain ⟨ex, eb, eown, eWt, eWh, eF, eL, eX, elk, ein, eret, exo, exn, efl⟩ := hX
  obtain ⟨rfl, z⟩ := z
  obtain ⟨x, hx, z1⟩ := zvR_inv z
  intro H locs cells slots ls hR hS hc hs hl hL
  exact lv_aload_n ex eb hd rfl (hl.2.2 _ _ hx) (hk _ _ _ _ _ _ z1 H locs cells slots ls hR hS hc hs hl hL)
theorem zs_istore {l : Launch} {G : zG} {o : Nat} {ini : Bool} {cc : ByteArray} {ret : Option FieldType} {d : Nat} {Q : zO → zH → Prop} {X : zX} {len pc : Nat} {k : zC} {lv : List (Option Value)} {st : List Value} {h : zH} {c s : Nat} {n : Nat} (hX : zOk l G o ini cc ret d Q X) (hk : ∀ pc lv st h c s, k pc lv st h c s → zJ l G X pc lv st h c s) (hd : decode cc pc = .ok ((.istore n), len)) (z : zw l G o ini cc ret d Q (.istore n) len pc k lv st h c s) : zJ l G X pc lv st h c s := by
  obtain ⟨p, e, R, s0, m, args, below, meth, cd, Z⟩ := X
  obtain ⟨ex, eb, eown, eWt, eWh, eF, eL, eX, elk, ein, eret, exo, exn, efl⟩ := hX
  obtain ⟨rfl, z⟩ := z
  obtain ⟨x, r, rfl, hn, z1⟩ := zpI_inv z
  intro H locs cells slots ls hR hS hc hs hl hL
  exact lv_istore ex eb hd (zhas_has hl) hn rfl (fun ls' hl' => hk _ _ _ _ _ _ z1 H locs cells slots ls' hR hS hc hs (zhas_st1 hl') (by rw [zst1_len]; exact hL))
theorem zs_istore_n {l : Launch} {G : zG} {o : Nat} {ini : Bool} {cc : ByteArray} {ret : Option FieldType} {d : Nat} {Q : zO → zH → Prop} {X : zX} {len pc : Nat} {k : zC} {lv : List (Option Value)} {st : List Value} {h : zH} {c s : Nat} {n : Fin 4} (hX : zOk l G o ini cc ret d Q X) (hk : ∀ pc lv st h c s, k pc lv st h c s → zJ l G X pc lv st h c s) (hd : decode cc pc = .ok ((.istore_n n), len)) (z : zw l G o ini cc ret d Q (.istore_n n) len pc k lv st h c s) : zJ l G X pc lv st h c s := by
  obtain ⟨p, e, R, s0, m, args, below, meth, cd, Z⟩ := X
  obtain ⟨ex, eb, eown, eWt, eWh, eF, eL, eX, elk, ein, eret, exo, exn, efl⟩ := hX
  obtain ⟨rfl, z⟩ := z
  obtain ⟨x, r, rfl, hn, z1⟩ := zpI_inv z
  intro H locs cells slots ls hR hS hc hs hl hL
  exact lv_istore_n ex eb hd rfl (zhas_has hl) hn rfl (fun ls' hl' => hk _ _ _ _ _ _ z1 H locs cells slots ls' hR hS hc hs (zhas_st1 hl') (by rw [zst1_len]; exact hL))
theorem zs_lstore {l : Launch} {G : zG} {o : Nat} {ini : Bool} {cc : ByteArray} {ret : Option FieldType} {d : Nat} {Q : zO → zH → Prop} {X : zX} {len pc : Nat} {k : zC} {lv : List (Option Value)} {st : List Value} {h : zH} {c s : Nat} {n : Nat} (hX : zOk l G o ini cc ret d Q X) (hk : ∀ pc lv st h c s, k pc lv st h c s → zJ l G X pc lv st h c s) (hd : decode cc pc = .ok ((.lstore n), len)) (z : zw l G o ini cc ret d Q (.lstore n) len pc k lv st h c s) : zJ l G X pc lv st h c s := by
  obtain ⟨p, e, R, s0, m, args, below, meth, cd, Z⟩ := X
  obtain ⟨ex, eb, eown, eWt, eWh, eF, eL, eX, elk, ein, eret, exo, exn, efl⟩ := hX
  obtain ⟨rfl, z⟩ := z
  obtain ⟨x, r, rfl, hn, z1⟩ := zpL_inv z
  intro H locs cells slots ls hR hS hc hs hl hL
  exact lv_lstore ex eb hd (zhas_has hl) hn rfl (fun ls' hl' => hk _ _ _ _ _ _ z1 H locs cells slots ls' hR hS hc hs (zhas_st2 hl') (by rw [zst2_len]; exact hL))
theorem zs_lstore_n {l : Launch} {G : zG} {o : Nat} {ini : Bool} {cc : ByteArray} {ret : Option FieldType} {d : Nat} {Q : zO → zH → Prop} {X : zX} {len pc : Nat} {k : zC} {lv : List (Option Value)} {st : List Value} {h : zH} {c s : Nat} {n : Fin 4} (hX : zOk l G o ini cc ret d Q X) (hk : ∀ pc lv st h c s, k pc lv st h c s → zJ l G X pc lv st h c s) (hd : decode cc pc = .ok ((.lstore_n n), len)) (z : zw l G o ini cc ret d Q (.lstore_n n) len pc k lv st h c s) : zJ l G X pc lv st h c s := by
  obtain ⟨p, e, R, s0, m, args, below, meth, cd, Z⟩ := X
  obtain ⟨ex, eb, eown, eWt, eWh, eF, eL, eX, elk, ein, eret, exo, exn, efl⟩ := hX
  obtain ⟨rfl, z⟩ := z
  obtain ⟨x, r, rfl, hn, z1⟩ := zpL_inv z
  intro H locs cells slots ls hR hS hc hs hl hL
  exact lv_lstore_n ex eb hd rfl (zhas_has hl) hn rfl (fun ls' hl' => hk _ _ _ _ _ _ z1 H locs cells slots ls' hR hS hc hs (zhas_st2 hl') (by rw [zst2_len]; exact hL))
theorem zs_astore {l : Launch} {G : zG} {o : Nat} {ini : Bool} {cc : ByteArray} {ret : Option FieldType} {d : Nat} {Q : zO → zH → Prop} {X : zX} {len pc : Nat} {k : zC} {lv : List (Option Value)} {st : List Value} {h : zH} {c s : Nat} {n : Nat} (hX : zOk l G o ini cc ret d Q X) (hk : ∀ pc lv st h c s, k pc lv st h c s → zJ l G X pc lv st h c s) (hd : decode cc pc = .ok ((.astore n), len)) (z : zw l G o ini cc ret d Q (.astore n) len pc k lv st h c s) : zJ l G X pc lv st h c s := by
  obtain ⟨p, e, R, s0, m, args, below, meth, cd, Z⟩ := X
  obtain ⟨ex, eb, eown, eWt, eWh, eF, eL, eX, elk, ein, eret, exo, exn, efl⟩ := hX
  obtain ⟨rfl, z⟩ := z
  obtain ⟨x, r, rfl, hn, z1⟩ := zpR_inv z
  intro H locs cells slots ls hR hS hc hs hl hL
  exact lv_astore ex eb hd (zhas_has hl) hn rfl (fun ls' hl' => hk _ _ _ _ _ _ z1 H locs cells slots ls' hR hS hc hs (zhas_st1 hl') (by rw [zst1_len]; exact hL))
theorem zs_astore_n {l : Launch} {G : zG} {o : Nat} {ini : Bool} {cc : ByteArray} {ret : Option FieldType} {d : Nat} {Q : zO → zH → Prop} {X : zX} {len pc : Nat} {k : zC} {lv : List (Option Value)} {st : List Value} {h : zH} {c s : Nat} {n : Fin 4} (hX : zOk l G o ini cc ret d Q X) (hk : ∀ pc lv st h c s, k pc lv st h c s → zJ l G X pc lv st h c s) (hd : decode cc pc = .ok ((.astore_n n), len)) (z : zw l G o ini cc ret d Q (.astore_n n) len pc k lv st h c s) : zJ l G X pc lv st h c s := by
  obtain ⟨p, e, R, s0, m, args, below, meth, cd, Z⟩ := X
  obtain ⟨ex, eb, eown, eWt, eWh, eF, eL, eX, elk, ein, eret, exo, exn, efl⟩ := hX
  obtain ⟨rfl, z⟩ := z
  obtain ⟨x, r, rfl, hn, z1⟩ := zpR_inv z
  intro H locs cells slots ls hR hS hc hs hl hL
  exact lv_astore_n ex eb hd rfl (zhas_has hl) hn rfl (fun ls' hl' => hk _ _ _ _ _ _ z1 H locs cells slots ls' hR hS hc hs (zhas_st1 hl') (by rw [zst1_len]; exact hL))
theorem zs_iinc {l : Launch} {G : zG} {o : Nat} {ini : Bool} {cc : ByteArray} {ret : Option FieldType} {d : Nat} {Q : zO → zH → Prop} {X : zX} {len pc : Nat} {k : zC} {lv : List (Option Value)} {st : List Value} {h : zH} {c s : Nat} {n : Nat} {v : Int} (hX : zOk l G o ini cc ret d Q X) (hk : ∀ pc lv st h c s, k pc lv st h c s → zJ l G X pc lv st h c s) (hd : decode cc pc = .ok ((.iinc n v), len)) (z : zw l G o ini cc ret d Q (.iinc n v) len pc k lv st h c s) : zJ l G X pc lv st h c s := by
  obtain ⟨p, e, R, s0, m, args, below, meth, cd, Z⟩ := X
  obtain ⟨ex, eb, eown, eWt, eWh, eF, eL, eX, elk, ein, eret, exo, exn, efl⟩ := hX
  obtain ⟨rfl, z⟩ := z
  obtain ⟨x, hx, hn, z1⟩ := zvI_inv z
  intro H locs cells slots ls hR hS hc hs hl hL
  obtain ⟨j, hj⟩ := List.getElem?_of_mem ((zen_mem lv 0 (n, .int x)).mpr ⟨Nat.zero_le _, by simpa using hx⟩)
  exact lv_iinc ex eb hd (zhas_has hl) hj rfl hn rfl (fun ls' hl' => hk _ _ _ _ _ _ z1 H locs cells slots ls' hR hS hc hs (zhas_st1 hl') (by rw [zst1_len]; exact hL))
theorem zs_iadd {l : Launch} {G : zG} {o : Nat} {ini : Bool} {cc : ByteArray} {ret : Option FieldType} {d : Nat} {Q : zO → zH → Prop} {X : zX} {len pc : Nat} {k : zC} {lv : List (Option Value)} {st : List Value} {h : zH} {c s : Nat} (hX : zOk l G o ini cc ret d Q X) (hk : ∀ pc lv st h c s, k pc lv st h c s → zJ l G X pc lv st h c s) (hd : decode cc pc = .ok (.iadd, len)) (z : zw l G o ini cc ret d Q .iadd len pc k lv st h c s) : zJ l G X pc lv st h c s := by
  obtain ⟨p, e, R, s0, m, args, below, meth, cd, Z⟩ := X
  obtain ⟨ex, eb, eown, eWt, eWh, eF, eL, eX, elk, ein, eret, exo, exn, efl⟩ := hX
  obtain ⟨rfl, z⟩ := z
  obtain ⟨y, r, rfl, z1⟩ := zpI_inv z
  obtain ⟨x, r, rfl, z2⟩ := zpI_inv z1
  intro H locs cells slots ls hR hS hc hs hl hL
  exact lv_iadd ex eb hd (hk _ _ _ _ _ _ z2 H locs cells slots ls hR hS hc hs hl hL)
theorem zs_isub {l : Launch} {G : zG} {o : Nat} {ini : Bool} {cc : ByteArray} {ret : Option FieldType} {d : Nat} {Q : zO → zH → Prop} {X : zX} {len pc : Nat} {k : zC} {lv : List (Option Value)} {st : List Value} {h : zH} {c s : Nat} (hX : zOk l G o ini cc ret d Q X) (hk : ∀ pc lv st h c s, k pc lv st h c s → zJ l G X pc lv st h c s) (hd : decode cc pc = .ok (.isub, len)) (z : zw l G o ini cc ret d Q .isub len pc k lv st h c s) : zJ l G X pc lv st h c s := by
  obtain ⟨p, e, R, s0, m, args, below, meth, cd, Z⟩ := X
  obtain ⟨ex, eb, eown, eWt, eWh, eF, eL, eX, elk, ein, eret, exo, exn, efl⟩ := hX
  obtain ⟨rfl, z⟩ := z
  obtain ⟨y, r, rfl, z1⟩ := zpI_inv z
  obtain ⟨x, r, rfl, z2⟩ := zpI_inv z1
  intro H locs cells slots ls hR hS hc hs hl hL
  exact lv_isub ex eb hd (hk _ _ _ _ _ _ z2 H locs cells slots ls hR hS hc hs hl hL)
theorem zs_imul {l : Launch} {G : zG} {o : Nat} {ini : Bool} {cc : ByteArray} {ret : Option FieldType} {d : Nat} {Q : zO → zH → Prop} {X : zX} {len pc : Nat} {k : zC} {lv : List (Option Value)} {st : List Value} {h : zH} {c s : Nat} (hX : zOk l G o ini cc ret d Q X) (hk : ∀ pc lv st h c s, k pc lv st h c s → zJ l G X pc lv st h c s) (hd : decode cc pc = .ok (.imul, len)) (z : zw l G o ini cc ret d Q .imul len pc k lv st h c s) : zJ l G X pc lv st h c s := by
  obtain ⟨p, e, R, s0, m, args, below, meth, cd, Z⟩ := X
  obtain ⟨ex, eb, eown, eWt, eWh, eF, eL, eX, elk, ein, eret, exo, exn, efl⟩ := hX
  obtain ⟨rfl, z⟩ := z
  obtain ⟨y, r, rfl, z1⟩ := zpI_inv z
  obtain ⟨x, r, rfl, z2⟩ := zpI_inv z1
  intro H locs cells slots ls hR hS hc hs hl hL
  exact lv_imul ex eb hd (hk _ _ _ _ _ _ z2 H locs cells slots ls hR hS hc hs hl hL)
theorem zs_iand {l : Launch} {G : zG} {o : Nat} {ini : Bool} {cc : ByteArray} {ret : Option FieldType} {d : Nat} {Q : zO → zH → Prop} {X : zX} {len pc : Nat} {k : zC} {lv : List (Option Value)} {st : List Value} {h : zH} {c s : Nat} (hX : zOk l G o ini cc ret d Q X) (hk : ∀ pc lv st h c s, k pc lv st h c s → zJ l G X pc lv st h c s) (hd : decode cc pc = .ok (.iand, len)) (z : zw l G o ini cc ret d Q .iand len pc k lv st h c s) : zJ l G X pc lv st h c s := by
  obtain ⟨p, e, R, s0, m, args, below, meth, cd, Z⟩ := X
  obtain ⟨ex, eb, eown, eWt, eWh, eF, eL, eX, elk, ein, eret, exo, exn, efl⟩ := hX
  obtain ⟨rfl, z⟩ := z
  obtain ⟨y, r, rfl, z1⟩ := zpI_inv z
  obtain ⟨x, r, rfl, z2⟩ := zpI_inv z1
  intro H locs cells slots ls hR hS hc hs hl hL
  exact lv_iand ex eb hd (hk _ _ _ _ _ _ z2 H locs cells slots ls hR hS hc hs hl hL)
theorem zs_ior {l : Launch} {G : zG} {o : Nat} {ini : Bool} {cc : ByteArray} {ret : Option FieldType} {d : Nat} {Q : zO → zH → Prop} {X : zX} {len pc : Nat} {k : zC} {lv : List (Option Value)} {st : List Value} {h : zH} {c s : Nat} (hX : zOk l G o ini cc ret d Q X) (hk : ∀ pc lv st h c s, k pc lv st h c s → zJ l G X pc lv st h c s) (hd : decode cc pc = .ok (.ior, len)) (z : zw l G o ini cc ret d Q .ior len pc k lv st h c s) : zJ l G X pc lv st h c s := by
  obtain ⟨p, e, R, s0, m, args, below, meth, cd, Z⟩ := X
  obtain ⟨ex, eb, eown, eWt, eWh, eF, eL, eX, elk, ein, eret, exo, exn, efl⟩ := hX
  obtain ⟨rfl, z⟩ := z
  obtain ⟨y, r, rfl, z1⟩ := zpI_inv z
  obtain ⟨x, r, rfl, z2⟩ := zpI_inv z1
  intro H locs cells slots ls hR hS hc hs hl hL
  exact lv_ior ex eb hd (hk _ _ _ _ _ _ z2 H locs cells slots ls hR hS hc hs hl hL)
theorem zs_ixor {l : Launch} {G : zG} {o : Nat} {ini : Bool} {cc : ByteArray} {ret : Option FieldType} {d : Nat} {Q : zO → zH → Prop} {X : zX} {len pc : Nat} {k : zC} {lv : List (Option Value)} {st : List Value} {h : zH} {c s : Nat} (hX : zOk l G o ini cc ret d Q X) (hk : ∀ pc lv st h c s, k pc lv st h c s → zJ l G X pc lv st h c s) (hd : decode cc pc = .ok (.ixor, len)) (z : zw l G o ini cc ret d Q .ixor len pc k lv st h c s) : zJ l G X pc lv st h c s := by
  obtain ⟨p, e, R, s0, m, args, below, meth, cd, Z⟩ := X
  obtain ⟨ex, eb, eown, eWt, eWh, eF, eL, eX, elk, ein, eret, exo, exn, efl⟩ := hX
  obtain ⟨rfl, z⟩ := z
  obtain ⟨y, r, rfl, z1⟩ := zpI_inv z
  obtain ⟨x, r, rfl, z2⟩ := zpI_inv z1
  intro H locs cells slots ls hR hS hc hs hl hL
  exact lv_ixor ex eb hd (hk _ _ _ _ _ _ z2 H locs cells slots ls hR hS hc hs hl hL)
theorem zs_ishl {l : Launch} {G : zG} {o : Nat} {ini : Bool} {cc : ByteArray} {ret : Option FieldType} {d : Nat} {Q : zO → zH → Prop} {X : zX} {len pc : Nat} {k : zC} {lv : List (Option Value)} {st : List Value} {h : zH} {c s : Nat} (hX : zOk l G o ini cc ret d Q X) (hk : ∀ pc lv st h c s, k pc lv st h c s → zJ l G X pc lv st h c s) (hd : decode cc pc = .ok (.ishl, len)) (z : zw l G o ini cc ret d Q .ishl len pc k lv st h c s) : zJ l G X pc lv st h c s := by
  obtain ⟨p, e, R, s0, m, args, below, meth, cd, Z⟩ := X
  obtain ⟨ex, eb, eown, eWt, eWh, eF, eL, eX, elk, ein, eret, exo, exn, efl⟩ := hX
  obtain ⟨rfl, z⟩ := z
  obtain ⟨y, r, rfl, z1⟩ := zpI_inv z
  obtain ⟨x, r, rfl, z2⟩ := zpI_inv z1
  intro H locs cells slots ls hR hS hc hs hl hL
  exact lv_ishl ex eb hd (hk _ _ _ _ _ _ z2 H locs cells slots ls hR hS hc hs hl hL)
theorem zs_ishr {l : Launch} {G : zG} {o : Nat} {ini : Bool} {cc : ByteArray} {ret : Option FieldType} {d : Nat} {Q : zO → zH → Prop} {X : zX} {len pc : Nat} {k : zC} {lv : List (Option Value)} {st : List Value} {h : zH} {c s : Nat} (hX : zOk l G o ini cc ret d Q X) (hk : ∀ pc lv st h c s, k pc lv st h c s → zJ l G X pc lv st h c s) (hd : decode cc pc = .ok (.ishr, len)) (z : zw l G o ini cc ret d Q .ishr len pc k lv st h c s) : zJ l G X pc lv st h c s := by
  obtain ⟨p, e, R, s0, m, args, below, meth, cd, Z⟩ := X
  obtain ⟨ex, eb, eown, eWt, eWh, eF, eL, eX, elk, ein, eret, exo, exn, efl⟩ := hX
  obtain ⟨rfl, z⟩ := z
  obtain ⟨y, r, rfl, z1⟩ := zpI_inv z
  obtain ⟨x, r, rfl, z2⟩ := zpI_inv z1
  intro H locs cells slots ls hR hS hc hs hl hL
  exact lv_ishr ex eb hd (hk _ _ _ _ _ _ z2 H locs cells slots ls hR hS hc hs hl hL)
theorem zs_iushr {l : Launch} {G : zG} {o : Nat} {ini : Bool} {cc : ByteArray} {ret : Option FieldType} {d : Nat} {Q : zO → zH → Prop} {X : zX} {len pc : Nat} {k : zC} {lv : List (Option Value)} {st : List Value} {h : zH} {c s : Nat} (hX : zOk l G o ini cc ret d Q X) (hk : ∀ pc lv st h c s, k pc lv st h c s → zJ l G X pc lv st h c s) (hd : decode cc pc = .ok (.iushr, len)) (z : zw l G o ini cc ret d Q .iushr len pc k lv st h c s) : zJ l G X pc lv st h c s := by
  obtain ⟨p, e, R, s0, m, args, below, meth, cd, Z⟩ := X
  obtain ⟨ex, eb, eown, eWt, eWh, eF, eL, eX, elk, ein, eret, exo, exn, efl⟩ := hX
  obtain ⟨rfl, z⟩ := z
  obtain ⟨y, r, rfl, z1⟩ := zpI_inv z
  obtain ⟨x, r, rfl, z2⟩ := zpI_inv z1
  intro H locs cells slots ls hR hS hc hs hl hL
  exact lv_iushr ex eb hd rfl (hk _ _ _ _ _ _ z2 H locs cells slots ls hR hS hc hs hl hL)
theorem zs_idiv {l : Launch} {G : zG} {o : Nat} {ini : Bool} {cc : ByteArray} {ret : Option FieldType} {d : Nat} {Q : zO → zH → Prop} {X : zX} {len pc : Nat} {k : zC} {lv : List (Option Value)} {st : List Value} {h : zH} {c s : Nat} (hX : zOk l G o ini cc ret d Q X) (hk : ∀ pc lv st h c s, k pc lv st h c s → zJ l G X pc lv st h c s) (hd : decode cc pc = .ok (.idiv, len)) (z : zw l G o ini cc ret d Q .idiv len pc k lv st h c s) : zJ l G X pc lv st h c s := by
  obtain ⟨p, e, R, s0, m, args, below, meth, cd, Z⟩ := X
  obtain ⟨ex, eb, eown, eWt, eWh, eF, eL, eX, elk, ein, eret, exo, exn, efl⟩ := hX
  obtain ⟨rfl, z⟩ := z
  obtain ⟨y, r, rfl, z1⟩ := zpI_inv z
  obtain ⟨x, r, rfl, hn, z2⟩ := zpI_inv z1
  intro H locs cells slots ls hR hS hc hs hl hL
  exact lv_idiv ex eb hd hn (hk _ _ _ _ _ _ z2 H locs cells slots ls hR hS hc hs hl hL)
theorem zs_irem {l : Launch} {G : zG} {o : Nat} {ini : Bool} {cc : ByteArray} {ret : Option FieldType} {d : Nat} {Q : zO → zH → Prop} {X : zX} {len pc : Nat} {k : zC} {lv : List (Option Value)} {st : List Value} {h : zH} {c s : Nat} (hX : zOk l G o ini cc ret d Q X) (hk : ∀ pc lv st h c s, k pc lv st h c s → zJ l G X pc lv st h c s) (hd : decode cc pc = .ok (.irem, len)) (z : zw l G o ini cc ret d Q .irem len pc k lv st h c s) : zJ l G X pc lv st h c s := by
  obtain ⟨p, e, R, s0, m, args, below, meth, cd, Z⟩ := X
  obtain ⟨ex, eb, eown, eWt, eWh, eF, eL, eX, elk, ein, eret, exo, exn, efl⟩ := hX
  obtain ⟨rfl, z⟩ := z
  obtain ⟨y, r, rfl, z1⟩ := zpI_inv z
  obtain ⟨x, r, rfl, hn, z2⟩ := zpI_inv z1
  intro H locs cells slots ls hR hS hc hs hl hL
  exact lv_irem ex eb hd hn (hk _ _ _ _ _ _ z2 H locs cells slots ls hR hS hc hs hl hL)
theorem zs_ladd {l : Launch} {G : zG} {o : Nat} {ini : Bool} {cc : ByteArray} {ret : Option FieldType} {d : Nat} {Q : zO → zH → Prop} {X : zX} {len pc : Nat} {k : zC} {lv : List (Option Value)} {st : List Value} {h : zH} {c s : Nat} (hX : zOk l G o ini cc ret d Q X) (hk : ∀ pc lv st h c s, k pc lv st h c s → zJ l G X pc lv st h c s) (hd : decode cc pc = .ok (.ladd, len)) (z : zw l G o ini cc ret d Q .ladd len pc k lv st h c s) : zJ l G X pc lv st h c s := by
  obtain ⟨p, e, R, s0, m, args, below, meth, cd, Z⟩ := X
  obtain ⟨ex, eb, eown, eWt, eWh, eF, eL, eX, elk, ein, eret, exo, exn, efl⟩ := hX
  obtain ⟨rfl, z⟩ := z
  obtain ⟨y, r, rfl, z1⟩ := zpL_inv z
  obtain ⟨x, r, rfl, z2⟩ := zpL_inv z1
  intro H locs cells slots ls hR hS hc hs hl hL
  exact lv_ladd ex eb hd (hk _ _ _ _ _ _ z2 H locs cells slots ls hR hS hc hs hl hL)
theorem zs_lmul {l : Launch} {G : zG} {o : Nat} {ini : Bool} {cc : ByteArray} {ret : Option FieldType} {d : Nat} {Q : zO → zH → Prop} {X : zX} {len pc : Nat} {k : zC} {lv : List (Option Value)} {st : List Value} {h : zH} {c s : Nat} (hX : zOk l G o ini cc ret d Q X) (hk : ∀ pc lv st h c s, k pc lv st h c s → zJ l G X pc lv st h c s) (hd : decode cc pc = .ok (.lmul, len)) (z : zw l G o ini cc ret d Q .lmul len pc k lv st h c s) : zJ l G X pc lv st h c s := by
  obtain ⟨p, e, R, s0, m, args, below, meth, cd, Z⟩ := X
  obtain ⟨ex, eb, eown, eWt, eWh, eF, eL, eX, elk, ein, eret, exo, exn, efl⟩ := hX
  obtain ⟨rfl, z⟩ := z
  obtain ⟨y, r, rfl, z1⟩ := zpL_inv z
  obtain ⟨x, r, rfl, z2⟩ := zpL_inv z1
  intro H locs cells slots ls hR hS hc hs hl hL
  exact lv_lmul ex eb hd (hk _ _ _ _ _ _ z2 H locs cells slots ls hR hS hc hs hl hL)
theorem zs_ldiv {l : Launch} {G : zG} {o : Nat} {ini : Bool} {cc : ByteArray} {ret : Option FieldType} {d : Nat} {Q : zO → zH → Prop} {X : zX} {len pc : Nat} {k : zC} {lv : List (Option Value)} {st : List Value} {h : zH} {c s : Nat} (hX : zOk l G o ini cc ret d Q X) (hk : ∀ pc lv st h c s, k pc lv st h c s → zJ l G X pc lv st h c s) (hd : decode cc pc = .ok (.ldiv, len)) (z : zw l G o ini cc ret d Q .ldiv len pc k lv st h c s) : zJ l G X pc lv st h c s := by
  obtain ⟨p, e, R, s0, m, args, below, meth, cd, Z⟩ := X
  obtain ⟨ex, eb, eown, eWt, eWh, eF, eL, eX, elk, ein, eret, exo, exn, efl⟩ := hX
  obtain ⟨rfl, z⟩ := z
  obtain ⟨y, r, rfl, z1⟩ := zpL_inv z
  obtain ⟨x, r, rfl, hn, z2⟩ := zpL_inv z1
  intro H locs cells slots ls hR hS hc hs hl hL
  exact lv_ldiv ex eb hd hn (hk _ _ _ _ _ _ z2 H locs cells slots ls hR hS hc hs hl hL)
theorem zs_lcmp {l : Launch} {G : zG} {o : Nat} {ini : Bool} {cc : ByteArray} {ret : Option FieldType} {d : Nat} {Q : zO → zH → Prop} {X : zX} {len pc : Nat} {k : zC} {lv : List (Option Value)} {st : List Value} {h : zH} {c s : Nat} (hX : zOk l G o ini cc ret d Q X) (hk : ∀ pc lv st h c s, k pc lv st h c s → zJ l G X pc lv st h c s) (hd : decode cc pc = .ok (.lcmp, len)) (z : zw l G o ini cc ret d Q .lcmp len pc k lv st h c s) : zJ l G X pc lv st h c s := by
  obtain ⟨p, e, R, s0, m, args, below, meth, cd, Z⟩ := X
  obtain ⟨ex, eb, eown, eWt, eWh, eF, eL, eX, elk, ein, eret, exo, exn, efl⟩ := hX
  obtain ⟨rfl, z⟩ := z
  obtain ⟨y, r, rfl, z1⟩ := zpL_inv z
  obtain ⟨x, r, rfl, z2⟩ := zpL_inv z1
  intro H locs cells slots ls hR hS hc hs hl hL
  exact W.lcmp ex eb hd (hk _ _ _ _ _ _ z2 H locs cells slots ls hR hS hc hs hl hL)
theorem zs_i2l {l : Launch} {G : zG} {o : Nat} {ini : Bool} {cc : ByteArray} {ret : Option FieldType} {d : Nat} {Q : zO → zH → Prop} {X : zX} {len pc : Nat} {k : zC} {lv : List (Option Value)} {st : List Value} {h : zH} {c s : Nat} (hX : zOk l G o ini cc ret d Q X) (hk : ∀ pc lv st h c s, k pc lv st h c s → zJ l G X pc lv st h c s) (hd : decode cc pc = .ok (.i2l, len)) (z : zw l G o ini cc ret d Q .i2l len pc k lv st h c s) : zJ l G X pc lv st h c s := by
  obtain ⟨p, e, R, s0, m, args, below, meth, cd, Z⟩ := X
  obtain ⟨ex, eb, eown, eWt, eWh, eF, eL, eX, elk, ein, eret, exo, exn, efl⟩ := hX
  obtain ⟨rfl, z⟩ := z
  obtain ⟨x, r, rfl, z1⟩ := zpI_inv z
  intro H locs cells slots ls hR hS hc hs hl hL
  exact lv_i2l ex eb hd rfl (hk _ _ _ _ _ _ z1 H locs cells slots ls hR hS hc hs hl hL)
theorem zs_i2b {l : Launch} {G : zG} {o : Nat} {ini : Bool} {cc : ByteArray} {ret : Option FieldType} {d : Nat} {Q : zO → zH → Prop} {X : zX} {len pc : Nat} {k : zC} {lv : List (Option Value)} {st : List Value} {h : zH} {c s : Nat} (hX : zOk l G o ini cc ret d Q X) (hk : ∀ pc lv st h c s, k pc lv st h c s → zJ l G X pc lv st h c s) (hd : decode cc pc = .ok (.i2b, len)) (z : zw l G o ini cc ret d Q .i2b len pc k lv st h c s) : zJ l G X pc lv st h c s := by
  obtain ⟨p, e, R, s0, m, args, below, meth, cd, Z⟩ := X
  obtain ⟨ex, eb, eown, eWt, eWh, eF, eL, eX, elk, ein, eret, exo, exn, efl⟩ := hX
  obtain ⟨rfl, z⟩ := z
  obtain ⟨x, r, rfl, z1⟩ := zpI_inv z
  intro H locs cells slots ls hR hS hc hs hl hL
  exact lv_i2b ex eb hd rfl (hk _ _ _ _ _ _ z1 H locs cells slots ls hR hS hc hs hl hL)
theorem zs_i2c {l : Launch} {G : zG} {o : Nat} {ini : Bool} {cc : ByteArray} {ret : Option FieldType} {d : Nat} {Q : zO → zH → Prop} {X : zX} {len pc : Nat} {k : zC} {lv : List (Option Value)} {st : List Value} {h : zH} {c s : Nat} (hX : zOk l G o ini cc ret d Q X) (hk : ∀ pc lv st h c s, k pc lv st h c s → zJ l G X pc lv st h c s) (hd : decode cc pc = .ok (.i2c, len)) (z : zw l G o ini cc ret d Q .i2c len pc k lv st h c s) : zJ l G X pc lv st h c s := by
  obtain ⟨p, e, R, s0, m, args, below, meth, cd, Z⟩ := X
  obtain ⟨ex, eb, eown, eWt, eWh, eF, eL, eX, elk, ein, eret, exo, exn, efl⟩ := hX
  obtain ⟨rfl, z⟩ := z
  obtain ⟨x, r, rfl, z1⟩ := zpI_inv z
  intro H locs cells slots ls hR hS hc hs hl hL
  exact lv_i2c ex eb hd rfl (hk _ _ _ _ _ _ z1 H locs cells slots ls hR hS hc hs hl hL)
theorem zs_l2i {l : Launch} {G : zG} {o : Nat} {ini : Bool} {cc : ByteArray} {ret : Option FieldType} {d : Nat} {Q : zO → zH → Prop} {X : zX} {len pc : Nat} {k : zC} {lv : List (Option Value)} {st : List Value} {h : zH} {c s : Nat} (hX : zOk l G o ini cc ret d Q X) (hk : ∀ pc lv st h c s, k pc lv st h c s → zJ l G X pc lv st h c s) (hd : decode cc pc = .ok (.l2i, len)) (z : zw l G o ini cc ret d Q .l2i len pc k lv st h c s) : zJ l G X pc lv st h c s := by
  obtain ⟨p, e, R, s0, m, args, below, meth, cd, Z⟩ := X
  obtain ⟨ex, eb, eown, eWt, eWh, eF, eL, eX, elk, ein, eret, exo, exn, efl⟩ := hX
  obtain ⟨rfl, z⟩ := z
  obtain ⟨x, r, rfl, z1⟩ := zpL_inv z
  intro H locs cells slots ls hR hS hc hs hl hL
  exact lv_l2i ex eb hd rfl (hk _ _ _ _ _ _ z1 H locs cells slots ls hR hS hc hs hl hL)
theorem zs_dup {l : Launch} {G : zG} {o : Nat} {ini : Bool} {cc : ByteArray} {ret : Option FieldType} {d : Nat} {Q : zO → zH → Prop} {X : zX} {len pc : Nat} {k : zC} {lv : List (Option Value)} {st : List Value} {h : zH} {c s : Nat} (hX : zOk l G o ini cc ret d Q X) (hk : ∀ pc lv st h c s, k pc lv st h c s → zJ l G X pc lv st h c s) (hd : decode cc pc = .ok (.dup, len)) (z : zw l G o ini cc ret d Q .dup len pc k lv st h c s) : zJ l G X pc lv st h c s := by
  obtain ⟨p, e, R, s0, m, args, below, meth, cd, Z⟩ := X
  obtain ⟨ex, eb, eown, eWt, eWh, eF, eL, eX, elk, ein, eret, exo, exn, efl⟩ := hX
  obtain ⟨rfl, z⟩ := z
  obtain ⟨v, r, rfl, hv, z1⟩ := zpV_inv z
  intro H locs cells slots ls hR hS hc hs hl hL
  exact lv_dup ex eb hd hv (hk _ _ _ _ _ _ z1 H locs cells slots ls hR hS hc hs hl hL)
theorem zs_pop {l : Launch} {G : zG} {o : Nat} {ini : Bool} {cc : ByteArray} {ret : Option FieldType} {d : Nat} {Q : zO → zH → Prop} {X : zX} {len pc : Nat} {k : zC} {lv : List (Option Value)} {st : List Value} {h : zH} {c s : Nat} (hX : zOk l G o ini cc ret d Q X) (hk : ∀ pc lv st h c s, k pc lv st h c s → zJ l G X pc lv st h c s) (hd : decode cc pc = .ok (.pop, len)) (z : zw l G o ini cc ret d Q .pop len pc k lv st h c s) : zJ l G X pc lv st h c s := by
  obtain ⟨p, e, R, s0, m, args, below, meth, cd, Z⟩ := X
  obtain ⟨ex, eb, eown, eWt, eWh, eF, eL, eX, elk, ein, eret, exo, exn, efl⟩ := hX
  obtain ⟨rfl, z⟩ := z
  obtain ⟨v, r, rfl, hv, z1⟩ := zpV_inv z
  intro H locs cells slots ls hR hS hc hs hl hL
  exact lv_pop ex eb hd hv (hk _ _ _ _ _ _ z1 H locs cells slots ls hR hS hc hs hl hL)
theorem zs_dup2 {l : Launch} {G : zG} {o : Nat} {ini : Bool} {cc : ByteArray} {ret : Option FieldType} {d : Nat} {Q : zO → zH → Prop} {X : zX} {len pc : Nat} {k : zC} {lv : List (Option Value)} {st : List Value} {h : zH} {c s : Nat} (hX : zOk l G o ini cc ret d Q X) (hk : ∀ pc lv st h c s, k pc lv st h c s → zJ l G X pc lv st h c s) (hd : decode cc pc = .ok (.dup2, len)) (z : zw l G o ini cc ret d Q .dup2 len pc k lv st h c s) : zJ l G X pc lv st h c s := by
  obtain ⟨p, e, R, s0, m, args, below, meth, cd, Z⟩ := X
  obtain ⟨ex, eb, eown, eWt, eWh, eF, eL, eX, elk, ein, eret, exo, exn, efl⟩ := hX
  obtain ⟨rfl, z⟩ := z
  obtain ⟨v, r, rfl, z1⟩ := zpV_inv z
  obtain ⟨u, r, rfl, hv, hu, z2⟩ := zpV_inv z1
  intro H locs cells slots ls hR hS hc hs hl hL
  exact lv_dup2_11 ex eb hd hv hu (hk _ _ _ _ _ _ z2 H locs cells slots ls hR hS hc hs hl hL)
theorem zs_ifCond {l : Launch} {G : zG} {o : Nat} {ini : Bool} {cc : ByteArray} {ret : Option FieldType} {d : Nat} {Q : zO → zH → Prop} {X : zX} {len pc : Nat} {k : zC} {lv : List (Option Value)} {st : List Value} {h : zH} {c s : Nat} {cn : ClassFile.Cond} {off : Int} (hX : zOk l G o ini cc ret d Q X) (hk : ∀ pc lv st h c s, k pc lv st h c s → zJ l G X pc lv st h c s) (hd : decode cc pc = .ok ((.ifCond cn off), len)) (z : zw l G o ini cc ret d Q (.ifCond cn off) len pc k lv st h c s) : zJ l G X pc lv st h c s := by
  obtain ⟨p, e, R, s0, m, args, below, meth, cd, Z⟩ := X
  obtain ⟨ex, eb, eown, eWt, eWh, eF, eL, eX, elk, ein, eret, exo, exn, efl⟩ := hX
  obtain ⟨rfl, z⟩ := z
  obtain ⟨x, r, rfl, h0, zt, zf⟩ := zpI_inv z
  intro H locs cells slots ls hR hS hc hs hl hL
  cases cn with
  | eq => exact lv_if_eq ex eb hd (Int.toNat_of_nonneg h0).symm (fun q => hk _ _ _ _ _ _ (zt q) H locs cells slots ls hR hS hc hs hl hL) (fun q => hk _ _ _ _ _ _ (zf q) H locs cells slots ls hR hS hc hs hl hL)
  | ne => exact lv_if_ne ex eb hd (Int.toNat_of_nonneg h0).symm (fun q => hk _ _ _ _ _ _ (zt q) H locs cells slots ls hR hS hc hs hl hL) (fun q => hk _ _ _ _ _ _ (zf (fun g => g q)) H locs cells slots ls hR hS hc hs hl hL)
  | lt => exact lv_if_lt ex eb hd (Int.toNat_of_nonneg h0).symm (fun q => hk _ _ _ _ _ _ (zt q) H locs cells slots ls hR hS hc hs hl hL) (fun q => hk _ _ _ _ _ _ (zf q) H locs cells slots ls hR hS hc hs hl hL)
  | ge => exact lv_if_ge ex eb hd (Int.toNat_of_nonneg h0).symm (fun q => hk _ _ _ _ _ _ (zt q) H locs cells slots ls hR hS hc hs hl hL) (fun q => hk _ _ _ _ _ _ (zf q) H locs cells slots ls hR hS hc hs hl hL)
  | gt => exact lv_if_gt ex eb hd (Int.toNat_of_nonneg h0).symm (fun q => hk _ _ _ _ _ _ (zt q) H locs cells slots ls hR hS hc hs hl hL) (fun q => hk _ _ _ _ _ _ (zf q) H locs cells slots ls hR hS hc hs hl hL)
  | le => exact lv_if_le ex eb hd (Int.toNat_of_nonneg h0).symm (fun q => hk _ _ _ _ _ _ (zt q) H locs cells slots ls hR hS hc hs hl hL) (fun q => hk _ _ _ _ _ _ (zf q) H locs cells slots ls hR hS hc hs hl hL)
theorem zs_if_icmp {l : Launch} {G : zG} {o : Nat} {ini : Bool} {cc : ByteArray} {ret : Option FieldType} {d : Nat} {Q : zO → zH → Prop} {X : zX} {len pc : Nat} {k : zC} {lv : List (Option Value)} {st : List Value} {h : zH} {c s : Nat} {cn : ClassFile.Cond} {off : Int} (hX : zOk l G o ini cc ret d Q X) (hk : ∀ pc lv st h c s, k pc lv st h c s → zJ l G X pc lv st h c s) (hd : decode cc pc = .ok ((.if_icmp cn off), len)) (z : zw l G o ini cc ret d Q (.if_icmp cn off) len pc k lv st h c s) : zJ l G X pc lv st h c s := by
  obtain ⟨p, e, R, s0, m, args, below, meth, cd, Z⟩ := X
  obtain ⟨ex, eb, eown, eWt, eWh, eF, eL, eX, elk, ein, eret, exo, exn, efl⟩ := hX
  obtain ⟨rfl, z⟩ := z
  obtain ⟨y, r, rfl, z1⟩ := zpI_inv z
  obtain ⟨x, r, rfl, h0, zt, zf⟩ := zpI_inv z1
  intro H locs cells slots ls hR hS hc hs hl hL
  cases cn with
  | eq => exact lv_icmp_eq ex eb hd (Int.toNat_of_nonneg h0).symm (fun q => hk _ _ _ _ _ _ (zt q) H locs cells slots ls hR hS hc hs hl hL) (fun q => hk _ _ _ _ _ _ (zf q) H locs cells slots ls hR hS hc hs hl hL)
  | ne => exact lv_icmp_ne ex eb hd (Int.toNat_of_nonneg h0).symm (fun q => hk _ _ _ _ _ _ (zt q) H locs cells slots ls hR hS hc hs hl hL) (fun q => hk _ _ _ _ _ _ (zf (fun g => g q)) H locs cells slots ls hR hS hc hs hl hL)
  | lt => exact lv_icmp_lt ex eb hd (Int.toNat_of_nonneg h0).symm (fun q => hk _ _ _ _ _ _ (zt q) H locs cells slots ls hR hS hc hs hl hL) (fun q => hk _ _ _ _ _ _ (zf q) H locs cells slots ls hR hS hc hs hl hL)
  | ge => exact lv_icmp_ge ex eb hd (Int.toNat_of_nonneg h0).symm (fun q => hk _ _ _ _ _ _ (zt q) H locs cells slots ls hR hS hc hs hl hL) (fun q => hk _ _ _ _ _ _ (zf q) H locs cells slots ls hR hS hc hs hl hL)
  | gt => exact lv_icmp_gt ex eb hd (Int.toNat_of_nonneg h0).symm (fun q => hk _ _ _ _ _ _ (zt q) H locs cells slots ls hR hS hc hs hl hL) (fun q => hk _ _ _ _ _ _ (zf q) H locs cells slots ls hR hS hc hs hl hL)
  | le => exact lv_icmp_le ex eb hd (Int.toNat_of_nonneg h0).symm (fun q => hk _ _ _ _ _ _ (zt q) H locs cells slots ls hR hS hc hs hl hL) (fun q => hk _ _ _ _ _ _ (zf q) H locs cells slots ls hR hS hc hs hl hL)
theorem zs_if_acmp {l : Launch} {G : zG} {o : Nat} {ini : Bool} {cc : ByteArray} {ret : Option FieldType} {d : Nat} {Q : zO → zH → Prop} {X : zX} {len pc : Nat} {k : zC} {lv : List (Option Value)} {st : List Value} {h : zH} {c s : Nat} {cn : ACond} {off : Int} (hX : zOk l G o ini cc ret d Q X) (hk : ∀ pc lv st h c s, k pc lv st h c s → zJ l G X pc lv st h c s) (hd : decode cc pc = .ok ((.if_acmp cn off), len)) (z : zw l G o ini cc ret d Q (.if_acmp cn off) len pc k lv st h c s) : zJ l G X pc lv st h c s := by
  obtain ⟨p, e, R, s0, m, args, below, meth, cd, Z⟩ := X
  obtain ⟨ex, eb, eown, eWt, eWh, eF, eL, eX, elk, ein, eret, exo, exn, efl⟩ := hX
  obtain ⟨rfl, z⟩ := z
  obtain ⟨y, r, rfl, z1⟩ := zpQ_inv z
  obtain ⟨x, r, rfl, h0, z2⟩ := zpQ_inv z1
  intro H locs cells slots ls hR hS hc hs hl hL
  cases cn with
  | eq => exact lv_acmp_eq ex eb hd (Int.toNat_of_nonneg h0).symm (fun q => hk _ _ _ _ _ _ (z2.1 q) H locs cells slots ls hR hS hc hs hl hL) (fun q => hk _ _ _ _ _ _ (z2.2 q) H locs cells slots ls hR hS hc hs hl hL)
  | ne => exact lv_acmp_ne ex eb hd (Int.toNat_of_nonneg h0).symm (fun q => hk _ _ _ _ _ _ (z2.1 q) H locs cells slots ls hR hS hc hs hl hL) (fun q => hk _ _ _ _ _ _ (z2.2 q) H locs cells slots ls hR hS hc hs hl hL)
theorem zs_goto {l : Launch} {G : zG} {o : Nat} {ini : Bool} {cc : ByteArray} {ret : Option FieldType} {d : Nat} {Q : zO → zH → Prop} {X : zX} {len pc : Nat} {k : zC} {lv : List (Option Value)} {st : List Value} {h : zH} {c s : Nat} {off : Int} (hX : zOk l G o ini cc ret d Q X) (hk : ∀ pc lv st h c s, k pc lv st h c s → zJ l G X pc lv st h c s) (hd : decode cc pc = .ok ((.goto off), len)) (z : zw l G o ini cc ret d Q (.goto off) len pc k lv st h c s) : zJ l G X pc lv st h c s := by
  obtain ⟨p, e, R, s0, m, args, below, meth, cd, Z⟩ := X
  obtain ⟨ex, eb, eown, eWt, eWh, eF, eL, eX, elk, ein, eret, exo, exn, efl⟩ := hX
  obtain ⟨rfl, z⟩ := z
  obtain ⟨h0, z⟩ := z
  intro H locs cells slots ls hR hS hc hs hl hL
  exact lv_goto ex eb hd (Int.toNat_of_nonneg h0).symm (hk _ _ _ _ _ _ z H locs cells slots ls hR hS hc hs hl hL)
theorem ztb_at {x : Int32} {pc : Nat} {f : Nat → Prop} : ∀ (os : List Int) (v : Int), ztb x pc f os v → ∀ (j : Nat) (o : Int), os[j]? = some o → x.toInt = v + j → zjp pc o f
  | [], _, _, j, o, h, _ => by simp at h
  | o0 :: r, v, z, 0, o, h, e => by
    cases h
    exact z.1 (by simpa using e)
  | o0 :: r, v, z, j + 1, o, h, e => ztb_at r (v + 1) z.2 j o (by simpa using h) (by rw [e]; push_cast; omega)
theorem zs_tableswitch {l : Launch} {G : zG} {o : Nat} {ini : Bool} {cc : ByteArray} {ret : Option FieldType} {d : Nat} {Q : zO → zH → Prop} {X : zX} {len pc : Nat} {k : zC} {lv : List (Option Value)} {st : List Value} {h : zH} {c s : Nat} {df : Int} {lo : Int} {hi : Int} {offs : Array Int} (hX : zOk l G o ini cc ret d Q X) (hk : ∀ pc lv st h c s, k pc lv st h c s → zJ l G X pc lv st h c s) (hd : decode cc pc = .ok ((.tableswitch df lo hi offs), len)) (z : zw l G o ini cc ret d Q (.tableswitch df lo hi offs) len pc k lv st h c s) : zJ l G X pc lv st h c s := by
  obtain ⟨p, e, R, s0, m, args, below, meth, cd, Z⟩ := X
  obtain ⟨ex, eb, eown, eWt, eWh, eF, eL, eX, elk, ein, eret, exo, exn, efl⟩ := hX
  obtain ⟨x, r, rfl, zo, hz, zt⟩ := zpI_inv z
  intro H locs cells slots ls hR hS hc hs hl hL
  by_cases hq : x.toInt < lo ∨ hi < x.toInt
  · obtain ⟨h0, z1⟩ := zo hq
    exact lv_tableOut ex eb hd hq (Int.toNat_of_nonneg h0).symm (hk _ _ _ _ _ _ z1 H locs cells slots ls hR hS hc hs hl hL)
  · have h1 : ¬ x.toInt < lo := fun q => hq (Or.inl q)
    have h2 : ¬ hi < x.toInt := fun q => hq (Or.inr q)
    have hlt : (x.toInt - lo).toNat < offs.size := by omega
    have hg : offs[(x.toInt - lo).toNat]? = some offs[(x.toInt - lo).toNat] := Array.getElem?_eq_getElem hlt
    obtain ⟨h0, z1⟩ := ztb_at offs.toList lo zt (x.toInt - lo).toNat _ (by rw [Array.getElem?_toList]; exact hg) (by omega)
    exact lv_tableIn ex eb hd h1 h2 hg (Int.toNat_of_nonneg h0).symm (hk _ _ _ _ _ _ z1 H locs cells slots ls hR hS hc hs hl hL)
