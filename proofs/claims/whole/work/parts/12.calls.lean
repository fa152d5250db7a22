theorem zs_invokevirtual {l : Launch} {G : zG} {o : Nat} {ini : Bool} {cc : ByteArray} {ret : Option FieldType} {d : Nat} {Q : zO → zH → Prop} {X : zX} {len pc : Nat} {k : zC} {lv : List (Option Value)} {st : List Value} {h : zH} {c s : Nat} {n : Nat} (hX : zOk l G o ini cc ret d Q X) (hk : ∀ pc lv st h c s, k pc lv st h c s → zJ l G X pc lv st h c s) (hd : decode cc pc = .ok ((.invokevirtual n), len)) (z : zw l G o ini cc ret d Q (.invokevirtual n) len pc k lv st h c s) : zJ l G X pc lv st h c s := by
  obtain ⟨p, e, R, s0, m, args, below, meth, cd, Z⟩ := X
  have hX0 := hX
  obtain ⟨ex, eb, eown, eWt, eWh, eF, eL, eX, elk, ein, eret, exo, exn, efl⟩ := hX
  obtain ⟨rfl, z⟩ := z
  cases hz : zml o n with
  | none => rw [hz] at z; exact z.elim
  | some q =>
  obtain ⟨y, t, kd, m9⟩ := q
  rw [hz] at z
  obtain ⟨w0, w1, w2, w3, w10, w11, w12⟩ := zml_ok hz
  simp only at z
  intro H locs cells slots ls hR hS hc hs hl hL
  have hc' : cells + c ≤ R.cells := hc
  have hs' : slots + s ≤ R.slots := hs
  by_cases t0 : t = 0
  · rw [if_pos t0] at z
    obtain ⟨hd0, hmc, hms, z⟩ := z
    obtain ⟨as, r1, hlen, rfl, z1⟩ := zpn_inv m9 z
    obtain ⟨a, r, rfl, hK, hcs, z2⟩ := zpR_inv z1
    obtain ⟨hmd, hln, hin9, hse, ⟨ci, rfl, C, T, N, hcl, rfl⟩, hpa⟩ := w0 t0
    obtain ⟨d', hd', hM⟩ := z2 efl
    have hci := zci_lt hcl
    rw [List.append_nil] at hM
    have hrc : ∃ cellB : Cell, H[a]? = some cellB ∧ cellB.vm.isStatics = false ∧ s0.vm.findClass y.1.cls = some cellB.cls := by
      have hat := ((hR.2.2.1 a).1 (by omega) (by omega)).2
      rw [zel_obj hK hci] at hat
      obtain ⟨r0, hr0, cell, q1, q2, q3, q4⟩ := hat
      exact ⟨cell, q1, by rw [q3]; rfl, by rw [q2]; exact (eWt.1.1 ci _ hcl).2.1⟩
    have hp : PreV s0 H y.1.cls a (zPc G (.ref a :: as.reverse) h) as.reverse := ⟨zblind, hrc, fun U hU hW => ⟨rfl, by show zRp G h U U.heap; rw [hU]; exact zRp_warm hW hR⟩⟩
    have hst : as ++ Value.ref a :: r = as.reverse.reverse ++ .ref a :: r := by rw [List.reverse_reverse]
    rcases hln with hl1 | ⟨host, hl1⟩
    · refine zrun (vx_runV ⟨ex, eb, rfl, eown, fun w h => absurd h List.not_mem_nil⟩ hM ⟨zcb (p := p) (l := l) eWt hd0 hd' eF eL hmd hl1 hpa, zuse eWt hin9 rfl, zuse eWt hse rfl⟩ hp rfl (by rw [List.length_reverse]; exact hlen) (hl.1.trans hL) hst (lv_room hcs) hd ⟨by omega, by omega⟩) hR hS (fun E ce q9 h' H1 locs1 g1 g2 g3 g4 g5 g6 => exo E ce q9 h' H1 locs1 (cells + y.2.2.2.2.1) (slots + y.2.2.2.2.2) ls pc r g1 g2 g3 (show _ ≤ R.cells by omega) (show _ ≤ R.slots by omega) g4 g5 g6)
          (fun v h' H1 locs1 g1 g2 g3 => hk _ _ _ _ _ _ g1 H1 locs1 (cells + y.2.2.2.2.1) (slots + y.2.2.2.2.2) ls g2 g3 (show _ ≤ R.cells by omega) (show _ ≤ R.slots by omega) hl hL)
    · refine zrun (vx_runVN ⟨ex, eb, rfl, eown, fun w h => absurd h List.not_mem_nil⟩ hM ⟨zcnb (p := p) (l := l) eWt hd0 hd' eF eL hmd hl1 hpa, zuse eWt hin9 rfl, zuse eWt hse rfl⟩ hp rfl (by rw [List.length_reverse]; exact hlen) (hl.1.trans hL) hst (lv_room hcs) hd ⟨by omega, by omega⟩) hR hS (fun E ce q9 h' H1 locs1 g1 g2 g3 g4 g5 g6 => exo E ce q9 h' H1 locs1 (cells + y.2.2.2.2.1) (slots + y.2.2.2.2.2) ls pc r g1 g2 g3 (show _ ≤ R.cells by omega) (show _ ≤ R.slots by omega) g4 g5 g6)
          (fun v h' H1 locs1 g1 g2 g3 => hk _ _ _ _ _ _ g1 H1 locs1 (cells + y.2.2.2.2.1) (slots + y.2.2.2.2.2) ls g2 g3 (show _ ≤ R.cells by omega) (show _ ≤ R.slots by omega) hl hL)
  · rw [if_neg t0] at z
    by_cases t20 : t = 20
    · rw [if_pos t20] at z
      obtain ⟨hd0, z⟩ := z
      obtain ⟨a, r, rfl, hK, hcs, z2⟩ := zpR_inv z
      exact zstr_len hX0 hz t20 hd hd0 hK hcs hR hS hc hs hl hL (fun H1 locs1 g1 g2 => hk _ _ _ _ _ _ z2 H1 locs1 cells slots ls g1 g2 hc hs hl hL)
    · rw [if_neg t20] at z
      by_cases t21 : t = 21
      · rw [if_pos t21] at z
        obtain ⟨hd0, z⟩ := z
        obtain ⟨i, r1, rfl, z1⟩ := zpI_inv z
        obtain ⟨a, r, rfl, hK, hi, hcs, z2⟩ := zpR_inv z1
        exact zstr_at hX0 hz t21 hd hd0 hK hi hcs hR hS hc hs hl hL (fun H1 locs1 g1 g2 => hk _ _ _ _ _ _ z2 H1 locs1 cells slots ls g1 g2 hc hs hl hL)
      · rw [if_neg t21] at z
        exact z.elim
theorem zs_invokestatic {l : Launch} {G : zG} {o : Nat} {ini : Bool} {cc : ByteArray} {ret : Option FieldType} {d : Nat} {Q : zO → zH → Prop} {X : zX} {len pc : Nat} {k : zC} {lv : List (Option Value)} {st : List Value} {h : zH} {c s : Nat} {n : Nat} (hX : zOk l G o ini cc ret d Q X) (hk : ∀ pc lv st h c s, k pc lv st h c s → zJ l G X pc lv st h c s) (hd : decode cc pc = .ok ((.invokestatic n), len)) (z : zw l G o ini cc ret d Q (.invokestatic n) len pc k lv st h c s) : zJ l G X pc lv st h c s := by
  obtain ⟨p, e, R, s0, m, args, below, meth, cd, Z⟩ := X
  have hX0 := hX
  obtain ⟨ex, eb, eown, eWt, eWh, eF, eL, eX, elk, ein, eret, exo, exn, efl⟩ := hX
  obtain ⟨rfl, z⟩ := z
  cases hz : zml o n with
  | none => rw [hz] at z; exact z.elim
  | some q =>
  obtain ⟨y, t, kd, m9⟩ := q
  rw [hz] at z
  obtain ⟨w0, w1, w2, w3, w10, w11, w12⟩ := zml_ok hz
  simp only at z
  intro H locs cells slots ls hR hS hc hs hl hL
  have hc' : cells + c ≤ R.cells := hc
  have hs' : slots + s ≤ R.slots := hs
  by_cases t1 : t = 1
  · rw [if_pos t1] at z
    obtain ⟨hd0, hmc, hms, z⟩ := z
    obtain ⟨as, r, hlen, rfl, hcs, z2⟩ := zpn_inv m9 z
    obtain ⟨hmd, hln, hst9, hpa⟩ := w1 t1
    obtain ⟨d', hd', hM⟩ := z2 efl
    rw [List.append_nil] at hM
    have hp : PreS s0 H (zPc G as.reverse h) as.reverse := ⟨zblind, fun U hU hW => ⟨rfl, by show zRp G h U U.heap; rw [hU]; exact zRp_warm hW hR⟩⟩
    have hst : as ++ r = as.reverse.reverse ++ r := by rw [List.reverse_reverse]
    rcases hln with hl1 | ⟨host, hl1⟩
    · refine zrun (vx_runS ⟨ex, eb, rfl, eown, fun w h => absurd h List.not_mem_nil⟩ hM ⟨zcb (p := p) (l := l) eWt hd0 hd' eF eL hmd hl1 hpa, zuse eWt hst9 rfl⟩ hp rfl (by rw [List.length_reverse]; exact hlen) (hl.1.trans hL) hst (lv_room hcs) hd ⟨by omega, by omega⟩) hR hS (fun E ce q9 h' H1 locs1 g1 g2 g3 g4 g5 g6 => exo E ce q9 h' H1 locs1 (cells + y.2.2.2.2.1) (slots + y.2.2.2.2.2) ls pc r g1 g2 g3 (show _ ≤ R.cells by omega) (show _ ≤ R.slots by omega) g4 g5 g6)
          (fun v h' H1 locs1 g1 g2 g3 => hk _ _ _ _ _ _ g1 H1 locs1 (cells + y.2.2.2.2.1) (slots + y.2.2.2.2.2) ls g2 g3 (show _ ≤ R.cells by omega) (show _ ≤ R.slots by omega) hl hL)
    · refine zrun (vx_runSN ⟨ex, eb, rfl, eown, fun w h => absurd h List.not_mem_nil⟩ hM ⟨zcnb (p := p) (l := l) eWt hd0 hd' eF eL hmd hl1 hpa, zuse eWt hst9 rfl, trivial⟩ hp rfl (by rw [List.length_reverse]; exact hlen) (hl.1.trans hL) hst (lv_room hcs) hd ⟨by omega, by omega⟩) hR hS (fun E ce q9 h' H1 locs1 g1 g2 g3 g4 g5 g6 => exo E ce q9 h' H1 locs1 (cells + y.2.2.2.2.1) (slots + y.2.2.2.2.2) ls pc r g1 g2 g3 (show _ ≤ R.cells by omega) (show _ ≤ R.slots by omega) g4 g5 g6)
          (fun v h' H1 locs1 g1 g2 g3 => hk _ _ _ _ _ _ g1 H1 locs1 (cells + y.2.2.2.2.1) (slots + y.2.2.2.2.2) ls g2 g3 (show _ ≤ R.cells by omega) (show _ ≤ R.slots by omega) hl hL)
  rw [if_neg t1] at z
  by_cases t10 : t = 10
  · rw [if_pos t10] at z
    obtain ⟨hd0, z⟩ := z
    obtain ⟨y9, r1, rfl, z1⟩ := zpI_inv z
    obtain ⟨x9, r, rfl, hcs, z2⟩ := zpI_inv z1
    unfold zcs at hcs
    exact va_mmax ex eb (hl.1.trans hL).symm eown (zuse eWt (w10 t10) rfl) (zuse eWt zmaxi_ok.1 rfl) (zuse eWt zmaxi_ok.2.1 rfl) (zuse eWt zmaxi_ok.2.2 rfl) (show 1 ≤ R.frames by omega) (show (r.map fun v => v.category).sum + 13 ≤ R.locals by omega) (show cells ≤ R.cells by omega) (show slots ≤ R.slots by omega) hd (hk _ _ _ _ _ _ z2 H locs cells slots ls hR hS hc hs hl hL)
  rw [if_neg t10] at z
  by_cases t11 : t = 11
  · rw [if_pos t11] at z
    obtain ⟨hd0, z⟩ := z
    obtain ⟨y9, r1, rfl, z1⟩ := zpI_inv z
    obtain ⟨x9, r, rfl, hcs, z2⟩ := zpI_inv z1
    unfold zcs at hcs
    exact va_mmin ex eb (hl.1.trans hL).symm eown (zuse eWt (w11 t11) rfl) (zuse eWt zmini_ok.1 rfl) (zuse eWt zmini_ok.2.1 rfl) (zuse eWt zmini_ok.2.2 rfl) (show 1 ≤ R.frames by omega) (show (r.map fun v => v.category).sum + 13 ≤ R.locals by omega) (show cells ≤ R.cells by omega) (show slots ≤ R.slots by omega) hd (hk _ _ _ _ _ _ z2 H locs cells slots ls hR hS hc hs hl hL)
  rw [if_neg t11] at z
  by_cases t12 : t = 12
  · rw [if_pos t12] at z
    obtain ⟨hd0, z⟩ := z
    obtain ⟨y9, r1, rfl, z1⟩ := zpL_inv z
    obtain ⟨x9, r, rfl, hcs, z2⟩ := zpL_inv z1
    unfold zcs at hcs
    exact va_mmax_long ex eb (hl.1.trans hL).symm eown (zuse eWt (w12 t12) rfl) (zuse eWt zmaxl_ok.1 rfl) (zuse eWt zmaxl_ok.2.1 rfl) (zuse eWt zmaxl_ok.2.2 rfl) (show 1 ≤ R.frames by omega) (show (r.map fun v => v.category).sum + 15 ≤ R.locals by omega) (show cells ≤ R.cells by omega) (show slots ≤ R.slots by omega) hd (hk _ _ _ _ _ _ z2 H locs cells slots ls hR hS hc hs hl hL)
  rw [if_neg t12] at z
  exact z.elim
theorem zs_invokespecial {l : Launch} {G : zG} {o : Nat} {ini : Bool} {cc : ByteArray} {ret : Option FieldType} {d : Nat} {Q : zO → zH → Prop} {X : zX} {len pc : Nat} {k : zC} {lv : List (Option Value)} {st : List Value} {h : zH} {c s : Nat} {n : Nat} (hX : zOk l G o ini cc ret d Q X) (hk : ∀ pc lv st h c s, k pc lv st h c s → zJ l G X pc lv st h c s) (hd : decode cc pc = .ok ((.invokespecial n), len)) (z : zw l G o ini cc ret d Q (.invokespecial n) len pc k lv st h c s) : zJ l G X pc lv st h c s := by
  obtain ⟨p, e, R, s0, m, args, below, meth, cd, Z⟩ := X
  have hX0 := hX
  obtain ⟨ex, eb, eown, eWt, eWh, eF, eL, eX, elk, ein, eret, exo, exn, efl⟩ := hX
  obtain ⟨rfl, z⟩ := z
  cases hz : zml o n with
  | none => rw [hz] at z; exact z.elim
  | some q =>
  obtain ⟨y, t, kd, m9⟩ := q
  rw [hz] at z
  obtain ⟨w0, w1, w2, w3, w10, w11, w12⟩ := zml_ok hz
  simp only at z
  intro H locs cells slots ls hR hS hc hs hl hL
  have hc' : cells + c ≤ R.cells := hc
  have hs' : slots + s ≤ R.slots := hs
  by_cases t2 : t = 2
  · rw [if_pos t2] at z
    obtain ⟨hd0, hmc, hms, z⟩ := z
    obtain ⟨as, r1, hlen, rfl, z1⟩ := zpn_inv m9 z
    obtain ⟨a, r, rfl, hcs, z2⟩ := zpR_inv z1
    obtain ⟨hmd, hln, hin9, hnm, hrn, hpa⟩ := w2 t2
    obtain ⟨d', hd', hM⟩ := z2 efl
    rw [List.append_nil] at hM
    have hp : PreS s0 H (zPc G (.ref a :: as.reverse) h) (.ref a :: as.reverse) := ⟨zblind, fun U hU hW => ⟨rfl, by show zRp G h U U.heap; rw [hU]; exact zRp_warm hW hR⟩⟩
    have hst : as ++ Value.ref a :: r = as.reverse.reverse ++ .ref a :: r := by rw [List.reverse_reverse]
    rcases hln with hl1 | ⟨host, hl1⟩
    · have hcb := zcb (p := p) (l := l) (args := args) eWt hd0 hd' eF eL hmd hl1 hpa
      rw [hrn] at hcb
      refine zrun (vx_runI ⟨ex, eb, rfl, eown, fun w h => absurd h List.not_mem_nil⟩ hM ⟨hcb, hnm, zuse eWt hin9 rfl⟩ hp rfl (by rw [List.length_reverse]; exact hlen) (hl.1.trans hL) hst (lv_room hcs) hd ⟨by omega, by omega⟩) hR hS (fun E ce q9 h' H1 locs1 g1 g2 g3 g4 g5 g6 => exo E ce q9 h' H1 locs1 (cells + y.2.2.2.2.1) (slots + y.2.2.2.2.2) ls pc r g1 g2 g3 (show _ ≤ R.cells by omega) (show _ ≤ R.slots by omega) g4 g5 g6)
          (fun v h' H1 locs1 g1 g2 g3 => hk _ _ _ _ _ _ g1 H1 locs1 (cells + y.2.2.2.2.1) (slots + y.2.2.2.2.2) ls g2 g3 (show _ ≤ R.cells by omega) (show _ ≤ R.slots by omega) hl hL)
    · have hcb := zcnb (p := p) (l := l) (args := args) eWt hd0 hd' eF eL hmd hl1 hpa
      rw [hrn] at hcb
      refine zrun (vx_runIN ⟨ex, eb, rfl, eown, fun w h => absurd h List.not_mem_nil⟩ hM ⟨hcb, hnm, zuse eWt hin9 rfl⟩ hp rfl (by rw [List.length_reverse]; exact hlen) (hl.1.trans hL) hst (lv_room hcs) hd ⟨by omega, by omega⟩) hR hS (fun E ce q9 h' H1 locs1 g1 g2 g3 g4 g5 g6 => exo E ce q9 h' H1 locs1 (cells + y.2.2.2.2.1) (slots + y.2.2.2.2.2) ls pc r g1 g2 g3 (show _ ≤ R.cells by omega) (show _ ≤ R.slots by omega) g4 g5 g6)
          (fun v h' H1 locs1 g1 g2 g3 => hk _ _ _ _ _ _ g1 H1 locs1 (cells + y.2.2.2.2.1) (slots + y.2.2.2.2.2) ls g2 g3 (show _ ≤ R.cells by omega) (show _ ≤ R.slots by omega) hl hL)
  rw [if_neg t2] at z
  by_cases t3 : t = 3
  · rw [if_pos t3] at z
    obtain ⟨hd0, z⟩ := z
    obtain ⟨a, r, rfl, hcs, z2⟩ := zpR_inv z
    refine W.objInit ex eb eown (zuse eWt (w3 t3) rfl) (zuse eWt zobj_ok.1 rfl) (zuse eWt zobj_ok.2 rfl) rfl (hl.1.trans hL) rfl hd (show 1 ≤ R.frames by omega) (show 2 * 0 + (r.map fun v => v.category).sum + 12 ≤ R.locals by unfold zcs at hcs; omega) (hk _ _ _ _ _ _ z2 H locs cells slots ls hR hS hc hs hl hL)
  rw [if_neg t3] at z
  exact z.elim
theorem zs_ireturn {l : Launch} {G : zG} {o : Nat} {ini : Bool} {cc : ByteArray} {ret : Option FieldType} {d : Nat} {Q : zO → zH → Prop} {X : zX} {len pc : Nat} {k : zC} {lv : List (Option Value)} {st : List Value} {h : zH} {c s : Nat} (hX : zOk l G o ini cc ret d Q X) (hk : ∀ pc lv st h c s, k pc lv st h c s → zJ l G X pc lv st h c s) (hd : decode cc pc = .ok (.ireturn, len)) (z : zw l G o ini cc ret d Q .ireturn len pc k lv st h c s) : zJ l G X pc lv st h c s := by
  obtain ⟨p, e, R, s0, m, args, below, meth, cd, Z⟩ := X
  have hX0 := hX
  obtain ⟨ex, eb, eown, eWt, eWh, eF, eL, eX, elk, ein, eret, exo, exn, efl⟩ := hX
  obtain ⟨rfl, z⟩ := z
  obtain ⟨x, r, rfl, rfl, z1⟩ := zpI_inv z
  intro H locs cells slots ls hR hS hc hs hl hL
  have hc' : cells + c ≤ R.cells := hc
  have hs' : slots + s ≤ R.slots := hs
  split at z1
  · exact eret _ h H locs cells slots ls pc _ z1 hR hS (by omega) (by omega) (Or.inl ⟨hd, x, rfl, rfl, Or.inl rfl⟩)
  · exact eret _ h H locs cells slots ls pc _ z1.2 hR hS (by omega) (by omega) (Or.inl ⟨hd, x, rfl, rfl, Or.inr ⟨rfl, z1.1⟩⟩)
  · exact z1.elim
theorem zs_lreturn {l : Launch} {G : zG} {o : Nat} {ini : Bool} {cc : ByteArray} {ret : Option FieldType} {d : Nat} {Q : zO → zH → Prop} {X : zX} {len pc : Nat} {k : zC} {lv : List (Option Value)} {st : List Value} {h : zH} {c s : Nat} (hX : zOk l G o ini cc ret d Q X) (hk : ∀ pc lv st h c s, k pc lv st h c s → zJ l G X pc lv st h c s) (hd : decode cc pc = .ok (.lreturn, len)) (z : zw l G o ini cc ret d Q .lreturn len pc k lv st h c s) : zJ l G X pc lv st h c s := by
  obtain ⟨p, e, R, s0, m, args, below, meth, cd, Z⟩ := X
  have hX0 := hX
  obtain ⟨ex, eb, eown, eWt, eWh, eF, eL, eX, elk, ein, eret, exo, exn, efl⟩ := hX
  obtain ⟨rfl, z⟩ := z
  obtain ⟨x, r, rfl, rfl, hrt, z1⟩ := zpL_inv z
  intro H locs cells slots ls hR hS hc hs hl hL
  have hc' : cells + c ≤ R.cells := hc
  have hs' : slots + s ≤ R.slots := hs
  exact eret _ h H locs cells slots ls pc _ z1 hR hS (by omega) (by omega) (Or.inr (Or.inr (Or.inl ⟨hd, x, rfl, rfl, hrt⟩)))
theorem zs_areturn {l : Launch} {G : zG} {o : Nat} {ini : Bool} {cc : ByteArray} {ret : Option FieldType} {d : Nat} {Q : zO → zH → Prop} {X : zX} {len pc : Nat} {k : zC} {lv : List (Option Value)} {st : List Value} {h : zH} {c s : Nat} (hX : zOk l G o ini cc ret d Q X) (hk : ∀ pc lv st h c s, k pc lv st h c s → zJ l G X pc lv st h c s) (hd : decode cc pc = .ok (.areturn, len)) (z : zw l G o ini cc ret d Q .areturn len pc k lv st h c s) : zJ l G X pc lv st h c s := by
  obtain ⟨p, e, R, s0, m, args, below, meth, cd, Z⟩ := X
  have hX0 := hX
  obtain ⟨ex, eb, eown, eWt, eWh, eF, eL, eX, elk, ein, eret, exo, exn, efl⟩ := hX
  obtain ⟨rfl, z⟩ := z
  obtain ⟨x, r, rfl, rfl, hrt, z1⟩ := zpQ_inv z
  intro H locs cells slots ls hR hS hc hs hl hL
  have hc' : cells + c ≤ R.cells := hc
  have hs' : slots + s ≤ R.slots := hs
  have hrt' : ∃ C, ret = some (.object C) := by
    split at hrt
    · exact ⟨_, rfl⟩
    · exact hrt.elim
  exact eret _ h H locs cells slots ls pc _ z1 hR hS (by omega) (by omega) (Or.inr (Or.inr (Or.inr ⟨hd, x, rfl, rfl, hrt'⟩)))
theorem zs_return_ {l : Launch} {G : zG} {o : Nat} {ini : Bool} {cc : ByteArray} {ret : Option FieldType} {d : Nat} {Q : zO → zH → Prop} {X : zX} {len pc : Nat} {k : zC} {lv : List (Option Value)} {st : List Value} {h : zH} {c s : Nat} (hX : zOk l G o ini cc ret d Q X) (hk : ∀ pc lv st h c s, k pc lv st h c s → zJ l G X pc lv st h c s) (hd : decode cc pc = .ok (.return_, len)) (z : zw l G o ini cc ret d Q .return_ len pc k lv st h c s) : zJ l G X pc lv st h c s := by
  obtain ⟨p, e, R, s0, m, args, below, meth, cd, Z⟩ := X
  have hX0 := hX
  obtain ⟨ex, eb, eown, eWt, eWh, eF, eL, eX, elk, ein, eret, exo, exn, efl⟩ := hX
  obtain ⟨rfl, z⟩ := z
  obtain ⟨rfl, hrt, z1⟩ := z
  intro H locs cells slots ls hR hS hc hs hl hL
  have hc' : cells + c ≤ R.cells := hc
  have hs' : slots + s ≤ R.slots := hs
  exact eret _ h H locs cells slots ls pc _ z1 hR hS (by omega) (by omega) (Or.inr (Or.inl ⟨hd, rfl, rfl, hrt⟩))
