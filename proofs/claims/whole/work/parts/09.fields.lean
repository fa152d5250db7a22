theorem zci_lt {ci : Nat} {r : vw_C} (h : vwCl[ci]? = some r) : ci < 11 := by
  have := (List.getElem?_eq_some_iff.mp h).1
  simpa [vwCl] using this
theorem zel_obj {G : zG} {h : zH} {a ci : Nat} (hK : zK h a = 1 + ci) (hci : ci < 11) : zel G h a = .inr (ci, (List.range (znf ci)).map (zV h a ci)) := by
  unfold zel
  rw [hK, if_pos (by omega), show 1 + ci - 1 = ci by omega]
theorem zel_arr {G : zG} {h : zH} {a : Nat} (hK : 100 ≤ zK h a) : zel G h a = .inl (zgC G (zK h a), zN h a, if zK h a < 103 then .inl (zA h a) else if zK h a = 103 then .inr (.inl (zB h a)) else .inr (.inr (.inr (.inr (zR h a))))) := by
  unfold zel
  rw [if_neg (by omega)]
theorem zWh_kept {G : zG} {s : State} {H H1 : Heap} (h : zWh G s H) (hz : H.size ≤ H1.size) (hq : ∀ q : Nat, q < H.size → ¬ zgA G q → H1[q]? = H[q]?) : zWh G s H1 := by
  obtain ⟨h1, ⟨t1, t2, t3, t4⟩, h2, h3, h4, h5⟩ := h
  refine ⟨Nat.le_trans h1 hz, ⟨t1, t2.kept hq, t3.kept hq, t4.kept hq⟩, h2.kept hq, h3.kept hq, h4, h5.kept (hq _ (Nat.lt_of_lt_of_le h4 h1) (Nat.not_le.mpr h4))⟩
theorem zRp_up {G : zG} {h h' : zH} {s : State} {H H' : Heap} {a : Nat} (hR : zRp G h s H) (hsz : H'.size = H.size) (ho : ∀ q, q ≠ a → H'[q]? = H[q]?) (hKe : zK h' = zK h) (hNe : zN h' = zN h) (hSe : zS h' = zS h) (h0 : 0 < zK h a) (h2 : zK h a < 200) (hot : ∀ b, b ≠ a → zel G h' b = zel G h b) (hA : ∀ b, b ≠ a → zA h' b = zA h b) (hat : va_at (zgD G) vwCl (a, zel G h' a) H') : zRp G h' s H' := by
  obtain ⟨r1, r2, r3, r4, r5⟩ := hR
  have hb : zgb G ≤ a := ((r3 a).1 h0 h2).1
  refine ⟨r1, zWh_kept r2 (by omega) (fun q _ hq => ho q (fun e => hq (by rw [e]; exact hb))), fun b => ?_, fun n hn => by rw [hsz]; exact r4 n (by rw [← hSe]; exact hn), fun t ht => by rw [hKe]; exact r5 t ht⟩
  by_cases e : b = a
  · subst e
    refine ⟨fun _ _ => ⟨hb, hat⟩, fun q => ?_, fun q => ?_⟩
    · rw [hKe] at q
      omega
    · rw [hKe] at q
      omega
  · obtain ⟨s1, s2, s3⟩ := r3 b
    refine ⟨fun g1 g2 => ?_, fun q => ?_, fun q => ?_⟩
    · rw [hKe] at g1 g2
      obtain ⟨t1, t2⟩ := s1 g1 g2
      rw [hot b e]
      exact ⟨t1, t2.kept (ho b e)⟩
    · rw [hKe] at q
      rw [hNe, hA b e]
      exact s2 q
    · rw [hKe] at q ⊢
      exact s3 q
theorem zfv_tg {h : zH} {a f t : Nat} {ty : FieldType} (ht : ztgP ty t) : zfv h a (ztg ty) f = zfv h a t f := by
  rcases ht with ⟨rfl, rfl⟩ | ⟨rfl, rfl⟩ | ⟨rfl, (⟨C, rfl⟩ | ⟨e, rfl⟩)⟩ | ⟨rfl, rfl⟩ <;> rfl
theorem zV_sI {h : zH} {a ci f : Nat} {x : Int32} (ht : ztg (ztyp ci f) = 0) (k : Nat) : zV (zsI h a (100 * ci + f) x) a ci k = if k = f then .int x else zV h a ci k := by
  unfold zV
  by_cases e : k = f
  · subst e
    rw [ht, if_pos rfl, zfv_0, zI_sI, if_pos ⟨rfl, rfl⟩]
  · rw [if_neg e]
    unfold zfv
    split
    · rw [zL_sI]
    · rw [zP_sI]
    · rw [zI_sI, if_neg (fun q => e (by omega))]
theorem zV_sL {h : zH} {a ci f : Nat} {x : Int64} (ht : ztg (ztyp ci f) = 1) (k : Nat) : zV (zsL h a (100 * ci + f) x) a ci k = if k = f then .long x else zV h a ci k := by
  unfold zV
  by_cases e : k = f
  · subst e
    rw [ht, if_pos rfl, zfv_1, zL_sL, if_pos ⟨rfl, rfl⟩]
  · rw [if_neg e]
    unfold zfv
    split
    · rw [zL_sL, if_neg (fun q => e (by omega))]
    · rw [zP_sL]
    · rw [zI_sL]
theorem zV_sP {h : zH} {a ci f : Nat} {x : Option Nat} (ht : ztg (ztyp ci f) = 2) (k : Nat) : zV (zsP h a (100 * ci + f) x) a ci k = if k = f then va_rf x else zV h a ci k := by
  unfold zV
  by_cases e : k = f
  · subst e
    rw [ht, if_pos rfl, zfv_2, zP_sP, if_pos ⟨rfl, rfl⟩]
  · rw [if_neg e]
    unfold zfv
    split
    · rw [zL_sP]
    · rw [zP_sP, if_neg (fun q => e (by omega))]
    · rw [zI_sP]
theorem zV_of {h h' : zH} {a ci k : Nat} (h1 : ∀ j, zI h' a j = zI h a j) (h2 : ∀ j, zL h' a j = zL h a j) (h3 : ∀ j, zP h' a j = zP h a j) : zV h' a ci k = zV h a ci k := by
  unfold zV zfv
  split
  · rw [h2]
  · rw [h3]
  · rw [h1]
theorem zel_of {G : zG} {h h' : zH} {b : Nat} (hK : zK h' b = zK h b) (hN : zN h' b = zN h b) (h1 : ∀ j, zI h' b j = zI h b j) (h2 : ∀ j, zL h' b j = zL h b j) (h3 : ∀ j, zP h' b j = zP h b j) (h4 : zA h' b = zA h b) (h5 : zB h' b = zB h b) (h6 : zR h' b = zR h b) : zel G h' b = zel G h b := by
  unfold zel
  rw [hK, hN, h4, h5, h6]
  congr 3
  apply List.map_congr_left
  intro k _
  exact zV_of h1 h2 h3
/-- an object's new fields -/
theorem zat_up {G : zG} {h h' : zH} {H' : Heap} {a ci f N : Nat} {C : String} {T : u_T} {v : Value} (hcl : vwCl[ci]? = some (C, T, N)) (hN : N = znf ci) (hK : zK h' a = 1 + ci) (ho : t_OB a ((zgD G).1 ci) N ((zgD G).2 ci) H' (updV (vp_V ((List.range (znf ci)).map (zV h a ci))) f v)) (hV : ∀ k, zV h' a ci k = if k = f then v else zV h a ci k) : va_at (zgD G) vwCl (a, zel G h' a) H' := by
  rw [zel_obj hK (zci_lt hcl)]
  refine ⟨_, hcl, ho.to (fun k hk => ?_)⟩
  have hk' : k < znf ci := by
    rw [← hN]
    exact hk
  unfold updV vp_V
  rw [List.getD_eq_getElem?_getD, List.getD_eq_getElem?_getD, List.getElem?_map, List.getElem?_map, List.getElem?_range hk']
  simp only [Option.map_some, Option.getD_some]
  rw [hV k]
theorem zs_getfield {l : Launch} {G : zG} {o : Nat} {ini : Bool} {cc : ByteArray} {ret : Option FieldType} {d : Nat} {Q : zO → zH → Prop} {X : zX} {len pc : Nat} {k : zC} {lv : List (Option Value)} {st : List Value} {h : zH} {c s : Nat} {n : Nat} (hX : zOk l G o ini cc ret d Q X) (hk : ∀ pc lv st h c s, k pc lv st h c s → zJ l G X pc lv st h c s) (hd : decode cc pc = .ok ((.getfield n), len)) (z : zw l G o ini cc ret d Q (.getfield n) len pc k lv st h c s) : zJ l G X pc lv st h c s := by
  obtain ⟨p, e, R, s0, m, args, below, meth, cd, Z⟩ := X
  obtain ⟨ex, eb, eown, eWt, eWh, eF, eL, eX, elk, ein, eret, exo, exn, efl⟩ := hX
  obtain ⟨rfl, z⟩ := z
  cases hz : zfl o n with
  | none => rw [hz] at z; exact z.elim
  | some q =>
  obtain ⟨ci, f, t, fin⟩ := q
  rw [hz] at z
  obtain ⟨C, T, N, hcl, hf, hT1, hT2, htg, hlk⟩ := zfl_ok hz
  obtain ⟨c1, c2, c3, c4, c5, c6, c7, c8⟩ := zcl_ok hcl
  have hci := zci_lt hcl
  obtain ⟨a, r, rfl, hK, z1⟩ := zpR_inv z
  intro H locs cells slots ls hR hS hc hs hl hL
  have hat := ((hR.2.2.1 a).1 (by omega) (by omega)).2
  have hP : va_P (zgD G) vwCl [(a, zel G h a)] H := fun k q hq => by
    match k, hq with
    | 0, hq => cases hq; exact hat
    | k + 1, hq => simp at hq
  rw [zel_obj hK hci] at hP
  have hv : ((List.range (znf ci)).map (zV h a ci))[f]? = some (zfv h a t (100 * ci + f)) := by
    rw [List.getElem?_map, List.getElem?_range (by rw [← c4]; exact hf)]
    exact congrArg some (zfv_tg htg)
  have hts : ∀ w ∈ u_ws C T N, w.before args s0 = true := fun w hw => by
    have hq := List.all_eq_true.mp c8 w hw
    obtain ⟨k9, -, rfl⟩ := List.mem_map.mp hw
    exact zuse eWt (c1 _ hw) hq
  rcases hlk with h1 | ⟨-, host, h1⟩
  · exact va_get ex eb hts (fun _ q => q) eown eWt.1 hP 0 rfl hcl f hf (zuse eWt h1 rfl) (fun _ q => q) hv hd (hk _ _ _ _ _ _ z1 H locs cells slots ls hR hS hc hs hl hL)
  · exact va_getN ex eb hts (fun _ q => q) eown eWt.1 hP 0 rfl hcl f hf (zuse eWt h1 rfl) (fun _ q => q) hv hd (hk _ _ _ _ _ _ z1 H locs cells slots ls hR hS hc hs hl hL)
theorem zs_putfield {l : Launch} {G : zG} {o : Nat} {ini : Bool} {cc : ByteArray} {ret : Option FieldType} {d : Nat} {Q : zO → zH → Prop} {X : zX} {len pc : Nat} {k : zC} {lv : List (Option Value)} {st : List Value} {h : zH} {c s : Nat} {n : Nat} (hX : zOk l G o ini cc ret d Q X) (hk : ∀ pc lv st h c s, k pc lv st h c s → zJ l G X pc lv st h c s) (hd : decode cc pc = .ok ((.putfield n), len)) (z : zw l G o ini cc ret d Q (.putfield n) len pc k lv st h c s) : zJ l G X pc lv st h c s := by
  obtain ⟨p, e, R, s0, m, args, below, meth, cd, Z⟩ := X
  obtain ⟨ex, eb, eown, eWt, eWh, eF, eL, eX, elk, ein, eret, exo, exn, efl⟩ := hX
  obtain ⟨rfl, z⟩ := z
  cases hz : zfl o n with
  | none => rw [hz] at z; exact z.elim
  | some q =>
  obtain ⟨ci, f, t, fin⟩ := q
  rw [hz] at z
  obtain ⟨C, T, N, hcl, hf, hT1, hT2, htg, hlk⟩ := zfl_ok hz
  obtain ⟨c1, c2, c3, c4, c5, c6, c7, c8⟩ := zcl_ok hcl
  have hci := zci_lt hcl
  intro H locs cells slots ls hR hS hc hs hl hL
  have hts : ∀ w ∈ u_ws C T N, w.before args s0 = true := fun w hw => by
    have hq := List.all_eq_true.mp c8 w hw
    obtain ⟨k9, -, rfl⟩ := List.mem_map.mp hw
    exact zuse eWt (c1 _ hw) hq
  have hap := va_apart (own := zRn o) hts (fun _ q => q) (ztyp ci) c2 c3 eWt.1 hcl
  obtain ⟨hS9, hfc, kC, hkC, hkind⟩ := eWt.1.1 ci _ hcl
  obtain ⟨cf, kf, fi, fd, hi, hsl⟩ := hS9 f hf
  have hst := (u_facts hfc hkC (u_lays hts (fun _ q => q) hf) hi).1
  have key : ∀ (a : Nat) (r : List Value) (v : Value), zK h a = 1 + ci → (fin = false ∨ (ini = true ∧ zco ci = o)) → narrow (ztyp ci f) v = v → fits (ztyp ci f) v = true →
      (∀ H' : Heap, t_OB a ((zgD G).1 ci) N ((zgD G).2 ci) H' (updV (vp_V ((List.range (znf ci)).map (zV h a ci))) f v) → H'.size = H.size → (∀ q, q ≠ a → H'[q]? = H[q]?) → W p l e R s0 m args below meth cd H' (locs ++ [⟨a, fd.slot⟩]) cells slots Z (F0 m (pc + 3) ls r)) → W p l e R s0 m args below meth cd H locs cells slots Z (F0 m pc ls (v :: .ref a :: r)) := by
    intro a r v hK hfin hn hv kk
    have hat := ((hR.2.2.1 a).1 (by omega) (by omega)).2
    rw [zel_obj hK hci] at hat
    obtain ⟨r0, hr0, cell, q1, q2, q3, q4⟩ := hat
    have hr : r0 = (C, T, N) := Option.some.inj (hr0.symm.trans hcl)
    subst hr
    have hlay := hts _ (u_in_lay hf)
    unfold u_lay at hlay
    have fin_end : ∀ H' : Heap, H'[a]? = some (cell.setSlot fd.slot v) → H'.size = H.size → (∀ q, q ≠ a → H'[q]? = H[q]?) → W p l e R s0 m args below meth cd H' (locs ++ [⟨a, fd.slot⟩]) cells slots Z (F0 m (pc + 3) ls r) := fun H' e1 e2 e3 => by
      have hsl' : fd.slot = (zgD G).2 ci f := hsl
      refine kk H' ⟨_, e1, q2, q3, ?_⟩ e2 e3
      rw [hsl']
      exact t_set q4 hap hf v
    cases hfb : fin with
    | false =>
      rw [hfb] at hT2
      rw [if_neg (by rw [hT2]; decide)] at hlay
      have h6 := u_store hfc hkC hkind hlay hi (c2 f hf) hn hv
      rcases hlk with h1 | ⟨-, host, h1⟩
      · exact W.putK ex eb (f := fd) ⟨eown, zuse eWt h1 rfl, ⟨_, _, _, hi⟩, hst⟩ (by rw [q2]; exact h6) q1 q3 (by rw [hsl]; exact k2_hasslot (q4 f hf)) rfl rfl hd fin_end
      · exact va_WputK ex eb (f := fd) eown (zuse eWt h1 rfl) hi hst (by rw [q2]; exact h6) q1 q3 (by rw [hsl]; exact k2_hasslot (q4 f hf)) rfl rfl hd fin_end
    | true =>
      rw [hfb] at hT2 hfin
      rcases hfin with hfin | ⟨hini, hco⟩
      · cases hfin
      rw [if_pos hT2] at hlay
      have hcf : m.cls = cf := by
        obtain ⟨_, _, c', _, _, _, -, -, hf', -, -, -, hown2, -⟩ := Cond.laysFinal_spec hlay
        have e1 : c' = cf := by have := hi.symm.trans hf'; simp at this; exact this.1.symm
        rw [hT1, hco] at hown2
        rw [← e1]; exact Option.some.inj (eown.symm.trans hown2)
      have h6 := u_fits hfc hkC hkind (Or.inr hlay) hi (c2 f hf) hn hv
      rcases hlk with h1 | ⟨h1, -⟩
      · exact W.putFinK ex eb eown (zuse eWt h1 rfl) hi hst hcf (ein hini) (by rw [q2]; exact h6) q1 q3 (by rw [hsl]; exact k2_hasslot (q4 f hf)) rfl rfl hd fin_end
      · exact absurd hco h1
  rcases htg with ⟨rfl, hty⟩ | ⟨rfl, hty⟩ | ⟨rfl, hty⟩ | ⟨rfl, hty⟩
  · obtain ⟨x, r1, rfl, z1⟩ := zpI_inv z
    obtain ⟨a, r, rfl, hK, hfin, z2⟩ := zpR_inv z1
    refine key a r _ hK hfin (by rw [hty]; rfl) (by rw [hty]; rfl) fun H' e1 e2 e3 => ?_
    refine hk _ _ _ _ _ _ z2 H' _ cells slots ls (zRp_up hR e2 e3 rfl rfl rfl (by omega) (by omega) (fun b hb => zel_of rfl rfl (fun j => by rw [zI_sI, if_neg (fun q => hb q.1)]) (fun _ => rfl) (fun _ => rfl) rfl rfl rfl) (fun _ _ => rfl) (zat_up hcl c4 hK e1 (zV_sI (by rw [hty]; rfl)))) (hS.put e2 e3 ((hR.2.2.1 a).1 (by omega) (by omega)).1) hc hs hl hL
  · obtain ⟨x, r1, rfl, z1⟩ := zpL_inv z
    obtain ⟨a, r, rfl, hK, hfin, z2⟩ := zpR_inv z1
    refine key a r _ hK hfin (by rw [hty]; rfl) (by rw [hty]; rfl) fun H' e1 e2 e3 => ?_
    refine hk _ _ _ _ _ _ z2 H' _ cells slots ls (zRp_up hR e2 e3 rfl rfl rfl (by omega) (by omega) (fun b hb => zel_of rfl rfl (fun _ => rfl) (fun j => by rw [zL_sL, if_neg (fun q => hb q.1)]) (fun _ => rfl) rfl rfl rfl) (fun _ _ => rfl) (zat_up hcl c4 hK e1 (zV_sL (by rw [hty]; rfl)))) (hS.put e2 e3 ((hR.2.2.1 a).1 (by omega) (by omega)).1) hc hs hl hL
  · simp only [zpf_2] at z
    obtain ⟨x, r1, rfl, z1⟩ := zpQ_inv z
    obtain ⟨a, r, rfl, hK, hfin, z2⟩ := zpR_inv z1
    refine key a r _ hK hfin (by rcases hty with ⟨C9, e⟩ | ⟨C9, e⟩ <;> rw [e] <;> cases x <;> rfl) (by rcases hty with ⟨C9, e⟩ | ⟨C9, e⟩ <;> rw [e] <;> cases x <;> rfl) fun H' e1 e2 e3 => ?_
    refine hk _ _ _ _ _ _ z2 H' _ cells slots ls (zRp_up hR e2 e3 rfl rfl rfl (by omega) (by omega) (fun b hb => zel_of rfl rfl (fun _ => rfl) (fun _ => rfl) (fun j => by rw [zP_sP, if_neg (fun q => hb q.1)]) rfl rfl rfl) (fun _ _ => rfl) (zat_up hcl c4 hK e1 (zV_sP (by rcases hty with ⟨C9, e⟩ | ⟨C9, e⟩ <;> rw [e] <;> rfl)))) (hS.put e2 e3 ((hR.2.2.1 a).1 (by omega) (by omega)).1) hc hs hl hL
  · obtain ⟨x, r1, rfl, z1⟩ := zpI_inv z
    obtain ⟨a, r, rfl, hx, hK, hfin, z2⟩ := zpR_inv z1
    refine key a r _ hK hfin (by rw [hty]; rcases hx with rfl | rfl <;> rfl) (by rw [hty]; rcases hx with rfl | rfl <;> rfl) fun H' e1 e2 e3 => ?_
    refine hk _ _ _ _ _ _ z2 H' _ cells slots ls (zRp_up hR e2 e3 rfl rfl rfl (by omega) (by omega) (fun b hb => zel_of rfl rfl (fun j => by rw [zI_sI, if_neg (fun q => hb q.1)]) (fun _ => rfl) (fun _ => rfl) rfl rfl rfl) (fun _ _ => rfl) (zat_up hcl c4 hK e1 (zV_sI (by rw [hty]; rfl)))) (hS.put e2 e3 ((hR.2.2.1 a).1 (by omega) (by omega)).1) hc hs hl hL
