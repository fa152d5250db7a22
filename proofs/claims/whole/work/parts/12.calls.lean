theorem va_AOA.moved {t : FieldType} {u U : State} (hvm : u.vm.Alike U.vm) (h : va_AOA t u) : va_AOA t U := by
  obtain ⟨comp, c, k, h1, h2, h3, h4, h5⟩ := arrayOverA_spec h
  obtain ⟨k', hk', he⟩ := hvm.2.2 _ _ h3
  have hi : (U.vm.classes.findIdx? fun (x : Class) => match x.kind with | .array component _ => component == comp | _ => false) = some c := by
    have e : U.vm.bare = u.vm.bare := by first | exact hvm.bare_eq | exact hvm.bare_eq.symm
    have g3 := va_idx_bare U.vm comp
    have g4 := va_idx_bare u.vm comp
    rw [e] at g3
    exact (g3.symm.trans g4).trans h2
  have hkind : k'.kind = .array comp (.array t) := by rw [he]; exact h4
  have f1 : U.vm.findClass (FieldType.array t).toString = some comp := by rw [hvm.findClass]; exact h1
  have f2 : U.vm.findClass ("[" ++ (FieldType.array t).toString) = some c := by rw [hvm.findClass]; exact h5
  unfold va_AOA Cond.before Cond.holds
  simp only [Cond.value]
  rw [f1, Option.bind_some]
  refine (congrArg (fun o : Option Nat => (o.bind (fun c => (U.vm.classes[c]?).map fun (k : Class) => match k.kind with | .array _ ty => decide (ty = FieldType.array t) && decide (U.vm.findClass ("[" ++ (FieldType.array t).toString) = some c) | _ => false)) == some true) hi).trans ?_
  simp [hk', hkind, f2]
theorem zok_warm {w : Cond} {s U : State} (hz : zok w = true) (hW : s.WarmedH U.vm) (h : va_Nw w s) : va_Nw w U := by
  have ht := zok_tab hz
  unfold zok at hz
  simp only [Bool.and_eq_true, Bool.or_eq_true] at hz
  rcases hz.2 with (hk | hk) | hk
  · exact word_at hW (Or.inl (by rw [ht, hk]; rfl)) h
  · exact va_tabs ht (rfl : (s.setVm U.vm).vm = U.vm) (Cond.before_shiftedFace (args := #[]) (State.Shifted.of_warmed hW) w hk h)
  · cases w <;> first | (cases hk; done) | skip
    · exact va_Nw.warmM hW h
    · exact va_Nw.warmF hW h
theorem zWt_warm {G : zG} {s U : State} (hW : s.WarmedH U.vm) (h : zWt G s) : zWt G U := by
  obtain ⟨h1, h2, h3, h4, h5, h6, h7⟩ := h
  exact ⟨h1.moved hW.alike, fun w hw hz => zok_warm hz hW (h2 w hw hz), fun ty hty => word_at hW (Or.inr ⟨_, rfl⟩) (h3 ty hty), h4.moved hW.alike, h5.moved hW.alike, h6.moved hW.alike, h7.moved hW.alike⟩
theorem zWh_warm {G : zG} {s U : State} {H : Heap} (hW : s.WarmedH U.vm) (h : zWh G s H) : zWh G U H := by
  obtain ⟨h1, ⟨t1, t2, t3⟩, h2, h3, h4, h5⟩ := h
  exact ⟨h1, ⟨fun o n t hz => (t1 o n t hz).warm hW, t2.moved hW.alike, t3.moved hW.alike⟩, h2.moved hW.alike, h3.moved hW.alike, h4, h5.moved hW.alike⟩
theorem zRp_warm {G : zG} {h : zH} {s U : State} {H : Heap} (hW : s.WarmedH U.vm) (hR : zRp G h s H) : zRp G h U H := ⟨zWt_warm hW hR.1, zWh_warm hW hR.2.1, hR.2.2⟩
theorem zblind {G : zG} {as : List Value} {h : zH} : FrameBlind (zPc G as h) := fun a U g mk q => ⟨q.1, zRp_warm (U := U.calling g mk a) (State.WarmedH.refl U) q.2⟩
theorem zrun {p : Program} {l : Launch} {e : Env} {R : Room} {s : State} {m : MethodId} {args : Array Value} {below : List Frame} {meth : Method} {c : Code} {H : Heap} {locs : List Loc} {cells slots mc ms pc : Nat} {ls : Array Slot} {st0 rest : List Value} {a : Array Value} {G : zG} {h : zH} {Qz : zO → zH → Prop} {Z : State → Prop}
    (hr : vx_Run p l e R s m args below meth c H locs cells slots mc ms (F0 m pc ls st0) rest (zQc G Qz a) (zXC G Qz) (zgA G)) (hR : zRp G h s H) (hS : va_S (zgA G) s.heap H locs)
    (kx : ∀ (E : String) (ce : Cell) (q9 : Addr) (h' : zH) (H1 : Heap) (locs1 : List Loc), Qz (.inr E) h' → zRp G h' s H1 → va_S (zgA G) s.heap H1 locs1 → H1[q9]? = some ce → ce.vm = .none → s.vm.findClass E = some ce.cls → vx_W p l e R s m args below meth c H1 locs1 (cells + mc) (slots + ms) Z (F0 m pc ls rest) q9)
    (kk : ∀ (v : Option Value) (h' : zH) (H1 : Heap) (locs1 : List Loc), Qz (.inl v) h' → zRp G h' s H1 → va_S (zgA G) s.heap H1 locs1 → W p l e R s m args below meth c H1 locs1 (cells + mc) (slots + ms) Z (F0 m (pc + 3) ls (v.toList ++ rest))) : W p l e R s m args below meth c H locs cells slots Z (F0 m pc ls st0) := by
  intro T hT X
  rcases hr T hT X with ⟨v, st₀, t, T', L, h0, X', hL, e1, e2, ⟨⟨v', h', hv, hQ, hq⟩, hF⟩, st⟩ | ⟨q, st₀, t, T', L, E, ce, h0, X', hL, e1, e2, ⟨⟨h', hQ, hq⟩, hF⟩, hce, hcv, hcl, st⟩
  · cases hv
    obtain ⟨k1, k2, k3⟩ := vx_keep h0 e1 hS (fun _ _ h => h) (fun _ h => h) hL hF
    obtain ⟨t2, a1, b1⟩ := kk _ h' T'.heap (locs ++ L) hQ ⟨hR.1, zWh_kept hR.2.1 k1 k2, by rw [e1]; exact hq⟩ k3 T' rfl X'
    exact ⟨t2, st t2 a1, b1⟩
  · obtain ⟨k1, k2, k3⟩ := vx_keep h0 e1 hS (fun _ _ h => h) (fun _ h => h) hL hF
    obtain ⟨t2, a1, b1⟩ := kx E ce q h' T'.heap (locs ++ L) hQ ⟨hR.1, zWh_kept hR.2.1 k1 k2, by rw [e1]; exact hq⟩ k3 (by rw [e1]; exact hce) hcv hcl T' rfl X'
    exact ⟨t2, st.trans a1, b1⟩
theorem zcb {p : Program} {l : Launch} {R : Room} {s : State} {args : Array Value} {G : zG} {o n m d d' : Nat} {y : zM} (eWt : zWt G s) (hd : 0 < d) (hd' : d' ≤ d - 1) (eF : d ≤ R.frames) (eL : 31 * d ≤ R.locals) (hmd : zmdP y) (hlk : Cond.methodLink (zRn o) n y.1 ∈ lw_tbl) (hpa : (parseMethodDescriptor y.1.desc).map (fun d => d.parameters.length) = some m) :
    CallB R s args (zRn o) n y.1 y.2.1 y.2.2.1 y.2.2.2.1 (zWs y) (zRm d' y.2.2.2.2.1 y.2.2.2.2.2) y.2.2.2.2.1 y.2.2.2.2.2 m := by
  obtain ⟨hcode, hini, hy1, hy2, hpl, hml⟩ := hmd
  refine ⟨rfl, rfl, show d' + 1 ≤ R.frames by omega, show 8 + (y.2.2.1 + 11) + 31 * d' ≤ R.locals by omega, fun w hw a' U hW => ?_, List.mem_cons_self, zuse eWt hcode rfl, zuse eWt hini rfl, ⟨hy1, hy2⟩, fun sig hs => ?_, zuse eWt hlk rfl⟩
  · have e := List.mem_singleton.mp hw
    subst e
    exact zuse (zWt_warm hW eWt) hcode rfl
  · rw [hs] at hpa
    exact (Option.some.inj hpa).symm
theorem zcnb {p : Program} {l : Launch} {R : Room} {s : State} {args : Array Value} {G : zG} {o n m d d' : Nat} {y : zM} {host : String} (eWt : zWt G s) (hd : 0 < d) (hd' : d' ≤ d - 1) (eF : d ≤ R.frames) (eL : 31 * d ≤ R.locals) (hmd : zmdP y) (hlk : Cond.methodLinkNest (zRn o) n y.1 host ∈ lw_tbl) (hpa : (parseMethodDescriptor y.1.desc).map (fun d => d.parameters.length) = some m) :
    va_CN R s args (zRn o) n y.1 host y.2.1 y.2.2.1 y.2.2.2.1 (zWs y) (zRm d' y.2.2.2.2.1 y.2.2.2.2.2) y.2.2.2.2.1 y.2.2.2.2.2 m := by
  obtain ⟨hcode, hini, hy1, hy2, hpl, hml⟩ := hmd
  refine ⟨⟨rfl, rfl, show d' + 1 ≤ R.frames by omega, show 8 + (y.2.2.1 + 11) + 31 * d' ≤ R.locals by omega, fun w hw a' U hW => ?_, List.mem_cons_self⟩, zuse eWt hcode rfl, zuse eWt hini rfl, ⟨hy1, hy2⟩, fun sig hs => ?_, zuse eWt hlk rfl⟩
  · have e := List.mem_singleton.mp hw
    subst e
    exact zuse (zWt_warm hW eWt) hcode rfl
  · rw [hs] at hpa
    exact (Option.some.inj hpa).symm
theorem zs_invokevirtual {l : Launch} {G : zG} {o : Nat} {ini : Bool} {cc : ByteArray} {ret : Option FieldType} {d : Nat} {Q : zO → zH → Prop} {X : zX} {len pc : Nat} {k : zC} {lv : List (Option Value)} {st : List Value} {h : zH} {c s : Nat} {n : Nat} (hX : zOk l G o ini cc ret d Q X) (hk : ∀ pc lv st h c s, k pc lv st h c s → zJ l G X pc lv st h c s) (hd : decode cc pc = .ok ((.invokevirtual n), len)) (z : zw l G o ini cc ret d Q (.invokevirtual n) len pc k lv st h c s) : zJ l G X pc lv st h c s := by
  obtain ⟨p, e, R, s0, m, args, below, meth, cd, Z⟩ := X
  have hX0 := hX
  obtain ⟨ex, eb, eown, eWt, eWh, eF, eL, eX, elk, ein, eret, exo, exn, efl⟩ := hX
  obtain ⟨rfl, z⟩ := z
  cases hz : zml o n with
  | none => rw [hz] at z; exact z.elim
  | some q =>
  obtain ⟨y, t, kd, m9⟩ := q
  rw [hz] at z
  obtain ⟨w0, w1, w2, w3, w10, w11, w12⟩ := zml_ok hz
  simp only at z
  intro H locs cells slots ls hR hS hc hs hl hL
  have hc' : cells + c ≤ R.cells := hc
  have hs' : slots + s ≤ R.slots := hs
  by_cases t0 : t = 0
  · rw [if_pos t0] at z
    obtain ⟨hd0, hmc, hms, z⟩ := z
    obtain ⟨as, r1, hlen, rfl, z1⟩ := zpn_inv m9 z
    obtain ⟨a, r, rfl, hK, hcs, z2⟩ := zpR_inv z1
    obtain ⟨hmd, hln, hin9, hse, ⟨ci, rfl, C, T, N, hcl, rfl⟩, hpa⟩ := w0 t0
    obtain ⟨d', hd', hM⟩ := z2 efl
    have hci := zci_lt hcl
    rw [List.append_nil] at hM
    have hrc : ∃ cellB : Cell, H[a]? = some cellB ∧ cellB.vm.isStatics = false ∧ s0.vm.findClass y.1.cls = some cellB.cls := by
      have hat := ((hR.2.2.1 a).1 (by omega) (by omega)).2
      rw [zel_obj hK hci] at hat
      obtain ⟨r0, hr0, cell, q1, q2, q3, q4⟩ := hat
      exact ⟨cell, q1, by rw [q3]; rfl, by rw [q2]; exact (eWt.1.1 ci _ hcl).2.1⟩
    have hp : PreV s0 H y.1.cls a (zPc G (.ref a :: as.reverse) h) as.reverse := ⟨zblind, hrc, fun U hU hW => ⟨rfl, by show zRp G h U U.heap; rw [hU]; exact zRp_warm hW hR⟩⟩
    have hst : as ++ Value.ref a :: r = as.reverse.reverse ++ .ref a :: r := by rw [List.reverse_reverse]
    rcases hln with hl1 | ⟨host, hl1⟩
    · refine zrun (vx_runV ⟨ex, eb, rfl, eown, fun w h => absurd h List.not_mem_nil⟩ hM ⟨zcb (p := p) (l := l) eWt hd0 hd' eF eL hmd hl1 hpa, zuse eWt hin9 rfl, zuse eWt hse rfl⟩ hp rfl (by rw [List.length_reverse]; exact hlen) (hl.1.trans hL) hst (lv_room hcs) hd ⟨by omega, by omega⟩) hR hS (fun E ce q9 h' H1 locs1 g1 g2 g3 g4 g5 g6 => exo E ce q9 h' H1 locs1 (cells + y.2.2.2.2.1) (slots + y.2.2.2.2.2) ls pc r g1 g2 g3 (show _ ≤ R.cells by omega) (show _ ≤ R.slots by omega) g4 g5 g6)
          (fun v h' H1 locs1 g1 g2 g3 => hk _ _ _ _ _ _ g1 H1 locs1 (cells + y.2.2.2.2.1) (slots + y.2.2.2.2.2) ls g2 g3 (show _ ≤ R.cells by omega) (show _ ≤ R.slots by omega) hl hL)
    · refine zrun (vx_runVN ⟨ex, eb, rfl, eown, fun w h => absurd h List.not_mem_nil⟩ hM ⟨zcnb (p := p) (l := l) eWt hd0 hd' eF eL hmd hl1 hpa, zuse eWt hin9 rfl, zuse eWt hse rfl⟩ hp rfl (by rw [List.length_reverse]; exact hlen) (hl.1.trans hL) hst (lv_room hcs) hd ⟨by omega, by omega⟩) hR hS (fun E ce q9 h' H1 locs1 g1 g2 g3 g4 g5 g6 => exo E ce q9 h' H1 locs1 (cells + y.2.2.2.2.1) (slots + y.2.2.2.2.2) ls pc r g1 g2 g3 (show _ ≤ R.cells by omega) (show _ ≤ R.slots by omega) g4 g5 g6)
          (fun v h' H1 locs1 g1 g2 g3 => hk _ _ _ _ _ _ g1 H1 locs1 (cells + y.2.2.2.2.1) (slots + y.2.2.2.2.2) ls g2 g3 (show _ ≤ R.cells by omega) (show _ ≤ R.slots by omega) hl hL)
  · rw [if_neg t0] at z
    by_cases t20 : t = 20
    · rw [if_pos t20] at z
      obtain ⟨hd0, z⟩ := z
      obtain ⟨a, r, rfl, hK, hcs, z2⟩ := zpR_inv z
      exact zstr_len hX0 hz t20 hd hd0 hK hcs hR hS hc hs hl hL (hk _ _ _ _ _ _ z2 H locs cells slots ls hR hS hc hs hl hL)
    · rw [if_neg t20] at z
      by_cases t21 : t = 21
      · rw [if_pos t21] at z
        obtain ⟨hd0, z⟩ := z
        obtain ⟨i, r1, rfl, z1⟩ := zpI_inv z
        obtain ⟨a, r, rfl, hK, hi, hcs, z2⟩ := zpR_inv z1
        exact zstr_at hX0 hz t21 hd hd0 hK hi hcs hR hS hc hs hl hL (hk _ _ _ _ _ _ z2 H locs cells slots ls hR hS hc hs hl hL)
      · rw [if_neg t21] at z
        exact z.elim
theorem zs_invokestatic {l : Launch} {G : zG} {o : Nat} {ini : Bool} {cc : ByteArray} {ret : Option FieldType} {d : Nat} {Q : zO → zH → Prop} {X : zX} {len pc : Nat} {k : zC} {lv : List (Option Value)} {st : List Value} {h : zH} {c s : Nat} {n : Nat} (hX : zOk l G o ini cc ret d Q X) (hk : ∀ pc lv st h c s, k pc lv st h c s → zJ l G X pc lv st h c s) (hd : decode cc pc = .ok ((.invokestatic n), len)) (z : zw l G o ini cc ret d Q (.invokestatic n) len pc k lv st h c s) : zJ l G X pc lv st h c s := by
  obtain ⟨p, e, R, s0, m, args, below, meth, cd, Z⟩ := X
  have hX0 := hX
  obtain ⟨ex, eb, eown, eWt, eWh, eF, eL, eX, elk, ein, eret, exo, exn, efl⟩ := hX
  obtain ⟨rfl, z⟩ := z
  cases hz : zml o n with
  | none => rw [hz] at z; exact z.elim
  | some q =>
  obtain ⟨y, t, kd, m9⟩ := q
  rw [hz] at z
  obtain ⟨w0, w1, w2, w3, w10, w11, w12⟩ := zml_ok hz
  simp only at z
  intro H locs cells slots ls hR hS hc hs hl hL
  have hc' : cells + c ≤ R.cells := hc
  have hs' : slots + s ≤ R.slots := hs
  by_cases t1 : t = 1
  · rw [if_pos t1] at z
    obtain ⟨hd0, hmc, hms, z⟩ := z
    obtain ⟨as, r, hlen, rfl, hcs, z2⟩ := zpn_inv m9 z
    obtain ⟨hmd, hln, hst9, hpa⟩ := w1 t1
    obtain ⟨d', hd', hM⟩ := z2 efl
    rw [List.append_nil] at hM
    have hp : PreS s0 H (zPc G as.reverse h) as.reverse := ⟨zblind, fun U hU hW => ⟨rfl, by show zRp G h U U.heap; rw [hU]; exact zRp_warm hW hR⟩⟩
    have hst : as ++ r = as.reverse.reverse ++ r := by rw [List.reverse_reverse]
    rcases hln with hl1 | ⟨host, hl1⟩
    · refine zrun (vx_runS ⟨ex, eb, rfl, eown, fun w h => absurd h List.not_mem_nil⟩ hM ⟨zcb (p := p) (l := l) eWt hd0 hd' eF eL hmd hl1 hpa, zuse eWt hst9 rfl⟩ hp rfl (by rw [List.length_reverse]; exact hlen) (hl.1.trans hL) hst (lv_room hcs) hd ⟨by omega, by omega⟩) hR hS (fun E ce q9 h' H1 locs1 g1 g2 g3 g4 g5 g6 => exo E ce q9 h' H1 locs1 (cells + y.2.2.2.2.1) (slots + y.2.2.2.2.2) ls pc r g1 g2 g3 (show _ ≤ R.cells by omega) (show _ ≤ R.slots by omega) g4 g5 g6)
          (fun v h' H1 locs1 g1 g2 g3 => hk _ _ _ _ _ _ g1 H1 locs1 (cells + y.2.2.2.2.1) (slots + y.2.2.2.2.2) ls g2 g3 (show _ ≤ R.cells by omega) (show _ ≤ R.slots by omega) hl hL)
    · refine zrun (vx_runSN ⟨ex, eb, rfl, eown, fun w h => absurd h List.not_mem_nil⟩ hM ⟨zcnb (p := p) (l := l) eWt hd0 hd' eF eL hmd hl1 hpa, zuse eWt hst9 rfl, trivial⟩ hp rfl (by rw [List.length_reverse]; exact hlen) (hl.1.trans hL) hst (lv_room hcs) hd ⟨by omega, by omega⟩) hR hS (fun E ce q9 h' H1 locs1 g1 g2 g3 g4 g5 g6 => exo E ce q9 h' H1 locs1 (cells + y.2.2.2.2.1) (slots + y.2.2.2.2.2) ls pc r g1 g2 g3 (show _ ≤ R.cells by omega) (show _ ≤ R.slots by omega) g4 g5 g6)
          (fun v h' H1 locs1 g1 g2 g3 => hk _ _ _ _ _ _ g1 H1 locs1 (cells + y.2.2.2.2.1) (slots + y.2.2.2.2.2) ls g2 g3 (show _ ≤ R.cells by omega) (show _ ≤ R.slots by omega) hl hL)
  rw [if_neg t1] at z
  by_cases t10 : t = 10
  · rw [if_pos t10] at z
    obtain ⟨hd0, z⟩ := z
    obtain ⟨y9, r1, rfl, z1⟩ := zpI_inv z
    obtain ⟨x9, r, rfl, hcs, z2⟩ := zpI_inv z1
    unfold zcs at hcs
    exact va_mmax ex eb (hl.1.trans hL).symm eown (zuse eWt (w10 t10) rfl) (zuse eWt zmaxi_ok.1 rfl) (zuse eWt zmaxi_ok.2.1 rfl) (zuse eWt zmaxi_ok.2.2 rfl) (show 1 ≤ R.frames by omega) (show (r.map fun v => v.category).sum + 13 ≤ R.locals by omega) (show cells ≤ R.cells by omega) (show slots ≤ R.slots by omega) hd (hk _ _ _ _ _ _ z2 H locs cells slots ls hR hS hc hs hl hL)
  rw [if_neg t10] at z
  by_cases t11 : t = 11
  · rw [if_pos t11] at z
    obtain ⟨hd0, z⟩ := z
    obtain ⟨y9, r1, rfl, z1⟩ := zpI_inv z
    obtain ⟨x9, r, rfl, hcs, z2⟩ := zpI_inv z1
    unfold zcs at hcs
    exact va_mmin ex eb (hl.1.trans hL).symm eown (zuse eWt (w11 t11) rfl) (zuse eWt zmini_ok.1 rfl) (zuse eWt zmini_ok.2.1 rfl) (zuse eWt zmini_ok.2.2 rfl) (show 1 ≤ R.frames by omega) (show (r.map fun v => v.category).sum + 13 ≤ R.locals by omega) (show cells ≤ R.cells by omega) (show slots ≤ R.slots by omega) hd (hk _ _ _ _ _ _ z2 H locs cells slots ls hR hS hc hs hl hL)
  rw [if_neg t11] at z
  by_cases t12 : t = 12
  · rw [if_pos t12] at z
    obtain ⟨hd0, z⟩ := z
    obtain ⟨y9, r1, rfl, z1⟩ := zpL_inv z
    obtain ⟨x9, r, rfl, hcs, z2⟩ := zpL_inv z1
    unfold zcs at hcs
    exact va_mmax_long ex eb (hl.1.trans hL).symm eown (zuse eWt (w12 t12) rfl) (zuse eWt zmaxl_ok.1 rfl) (zuse eWt zmaxl_ok.2.1 rfl) (zuse eWt zmaxl_ok.2.2 rfl) (show 1 ≤ R.frames by omega) (show (r.map fun v => v.category).sum + 15 ≤ R.locals by omega) (show cells ≤ R.cells by omega) (show slots ≤ R.slots by omega) hd (hk _ _ _ _ _ _ z2 H locs cells slots ls hR hS hc hs hl hL)
  rw [if_neg t12] at z
  exact z.elim
theorem zs_invokespecial {l : Launch} {G : zG} {o : Nat} {ini : Bool} {cc : ByteArray} {ret : Option FieldType} {d : Nat} {Q : zO → zH → Prop} {X : zX} {len pc : Nat} {k : zC} {lv : List (Option Value)} {st : List Value} {h : zH} {c s : Nat} {n : Nat} (hX : zOk l G o ini cc ret d Q X) (hk : ∀ pc lv st h c s, k pc lv st h c s → zJ l G X pc lv st h c s) (hd : decode cc pc = .ok ((.invokespecial n), len)) (z : zw l G o ini cc ret d Q (.invokespecial n) len pc k lv st h c s) : zJ l G X pc lv st h c s := by
  obtain ⟨p, e, R, s0, m, args, below, meth, cd, Z⟩ := X
  have hX0 := hX
  obtain ⟨ex, eb, eown, eWt, eWh, eF, eL, eX, elk, ein, eret, exo, exn, efl⟩ := hX
  obtain ⟨rfl, z⟩ := z
  cases hz : zml o n with
  | none => rw [hz] at z; exact z.elim
  | some q =>
  obtain ⟨y, t, kd, m9⟩ := q
  rw [hz] at z
  obtain ⟨w0, w1, w2, w3, w10, w11, w12⟩ := zml_ok hz
  simp only at z
  intro H locs cells slots ls hR hS hc hs hl hL
  have hc' : cells + c ≤ R.cells := hc
  have hs' : slots + s ≤ R.slots := hs
  by_cases t2 : t = 2
  · rw [if_pos t2] at z
    obtain ⟨hd0, hmc, hms, z⟩ := z
    obtain ⟨as, r1, hlen, rfl, z1⟩ := zpn_inv m9 z
    obtain ⟨a, r, rfl, hcs, z2⟩ := zpR_inv z1
    obtain ⟨hmd, hln, hin9, hnm, hrn, hpa⟩ := w2 t2
    obtain ⟨d', hd', hM⟩ := z2 efl
    rw [List.append_nil] at hM
    have hp : PreS s0 H (zPc G (.ref a :: as.reverse) h) (.ref a :: as.reverse) := ⟨zblind, fun U hU hW => ⟨rfl, by show zRp G h U U.heap; rw [hU]; exact zRp_warm hW hR⟩⟩
    have hst : as ++ Value.ref a :: r = as.reverse.reverse ++ .ref a :: r := by rw [List.reverse_reverse]
    rcases hln with hl1 | ⟨host, hl1⟩
    · have hcb := zcb (p := p) (l := l) (args := args) eWt hd0 hd' eF eL hmd hl1 hpa
      rw [hrn] at hcb
      refine zrun (vx_runI ⟨ex, eb, rfl, eown, fun w h => absurd h List.not_mem_nil⟩ hM ⟨hcb, hnm, zuse eWt hin9 rfl⟩ hp rfl (by rw [List.length_reverse]; exact hlen) (hl.1.trans hL) hst (lv_room hcs) hd ⟨by omega, by omega⟩) hR hS (fun E ce q9 h' H1 locs1 g1 g2 g3 g4 g5 g6 => exo E ce q9 h' H1 locs1 (cells + y.2.2.2.2.1) (slots + y.2.2.2.2.2) ls pc r g1 g2 g3 (show _ ≤ R.cells by omega) (show _ ≤ R.slots by omega) g4 g5 g6)
          (fun v h' H1 locs1 g1 g2 g3 => hk _ _ _ _ _ _ g1 H1 locs1 (cells + y.2.2.2.2.1) (slots + y.2.2.2.2.2) ls g2 g3 (show _ ≤ R.cells by omega) (show _ ≤ R.slots by omega) hl hL)
    · have hcb := zcnb (p := p) (l := l) (args := args) eWt hd0 hd' eF eL hmd hl1 hpa
      rw [hrn] at hcb
      refine zrun (vx_runIN ⟨ex, eb, rfl, eown, fun w h => absurd h List.not_mem_nil⟩ hM ⟨hcb, hnm, zuse eWt hin9 rfl⟩ hp rfl (by rw [List.length_reverse]; exact hlen) (hl.1.trans hL) hst (lv_room hcs) hd ⟨by omega, by omega⟩) hR hS (fun E ce q9 h' H1 locs1 g1 g2 g3 g4 g5 g6 => exo E ce q9 h' H1 locs1 (cells + y.2.2.2.2.1) (slots + y.2.2.2.2.2) ls pc r g1 g2 g3 (show _ ≤ R.cells by omega) (show _ ≤ R.slots by omega) g4 g5 g6)
          (fun v h' H1 locs1 g1 g2 g3 => hk _ _ _ _ _ _ g1 H1 locs1 (cells + y.2.2.2.2.1) (slots + y.2.2.2.2.2) ls g2 g3 (show _ ≤ R.cells by omega) (show _ ≤ R.slots by omega) hl hL)
  rw [if_neg t2] at z
  by_cases t3 : t = 3
  · rw [if_pos t3] at z
    obtain ⟨hd0, z⟩ := z
    obtain ⟨a, r, rfl, hcs, z2⟩ := zpR_inv z
    refine W.objInit ex eb eown (zuse eWt (w3 t3) rfl) (zuse eWt zobj_ok.1 rfl) (zuse eWt zobj_ok.2 rfl) rfl (hl.1.trans hL) rfl hd (show 1 ≤ R.frames by omega) (show 2 * 0 + (r.map fun v => v.category).sum + 12 ≤ R.locals by unfold zcs at hcs; omega) (hk _ _ _ _ _ _ z2 H locs cells slots ls hR hS hc hs hl hL)
  rw [if_neg t3] at z
  exact z.elim
theorem zs_ireturn {l : Launch} {G : zG} {o : Nat} {ini : Bool} {cc : ByteArray} {ret : Option FieldType} {d : Nat} {Q : zO → zH → Prop} {X : zX} {len pc : Nat} {k : zC} {lv : List (Option Value)} {st : List Value} {h : zH} {c s : Nat} (hX : zOk l G o ini cc ret d Q X) (hk : ∀ pc lv st h c s, k pc lv st h c s → zJ l G X pc lv st h c s) (hd : decode cc pc = .ok (.ireturn, len)) (z : zw l G o ini cc ret d Q .ireturn len pc k lv st h c s) : zJ l G X pc lv st h c s := by
  obtain ⟨p, e, R, s0, m, args, below, meth, cd, Z⟩ := X
  have hX0 := hX
  obtain ⟨ex, eb, eown, eWt, eWh, eF, eL, eX, elk, ein, eret, exo, exn, efl⟩ := hX
  obtain ⟨rfl, z⟩ := z
  obtain ⟨x, r, rfl, rfl, z1⟩ := zpI_inv z
  intro H locs cells slots ls hR hS hc hs hl hL
  have hc' : cells + c ≤ R.cells := hc
  have hs' : slots + s ≤ R.slots := hs
  split at z1
  · exact eret _ h H locs cells slots ls pc _ z1 hR hS (by omega) (by omega) (Or.inl ⟨hd, x, rfl, rfl, Or.inl rfl⟩)
  · exact eret _ h H locs cells slots ls pc _ z1.2 hR hS (by omega) (by omega) (Or.inl ⟨hd, x, rfl, rfl, Or.inr ⟨rfl, z1.1⟩⟩)
  · exact z1.elim
theorem zs_lreturn {l : Launch} {G : zG} {o : Nat} {ini : Bool} {cc : ByteArray} {ret : Option FieldType} {d : Nat} {Q : zO → zH → Prop} {X : zX} {len pc : Nat} {k : zC} {lv : List (Option Value)} {st : List Value} {h : zH} {c s : Nat} (hX : zOk l G o ini cc ret d Q X) (hk : ∀ pc lv st h c s, k pc lv st h c s → zJ l G X pc lv st h c s) (hd : decode cc pc = .ok (.lreturn, len)) (z : zw l G o ini cc ret d Q .lreturn len pc k lv st h c s) : zJ l G X pc lv st h c s := by
  obtain ⟨p, e, R, s0, m, args, below, meth, cd, Z⟩ := X
  have hX0 := hX
  obtain ⟨ex, eb, eown, eWt, eWh, eF, eL, eX, elk, ein, eret, exo, exn, efl⟩ := hX
  obtain ⟨rfl, z⟩ := z
  obtain ⟨x, r, rfl, rfl, hrt, z1⟩ := zpL_inv z
  intro H locs cells slots ls hR hS hc hs hl hL
  have hc' : cells + c ≤ R.cells := hc
  have hs' : slots + s ≤ R.slots := hs
  exact eret _ h H locs cells slots ls pc _ z1 hR hS (by omega) (by omega) (Or.inr (Or.inr (Or.inl ⟨hd, x, rfl, rfl, hrt⟩)))
theorem zs_areturn {l : Launch} {G : zG} {o : Nat} {ini : Bool} {cc : ByteArray} {ret : Option FieldType} {d : Nat} {Q : zO → zH → Prop} {X : zX} {len pc : Nat} {k : zC} {lv : List (Option Value)} {st : List Value} {h : zH} {c s : Nat} (hX : zOk l G o ini cc ret d Q X) (hk : ∀ pc lv st h c s, k pc lv st h c s → zJ l G X pc lv st h c s) (hd : decode cc pc = .ok (.areturn, len)) (z : zw l G o ini cc ret d Q .areturn len pc k lv st h c s) : zJ l G X pc lv st h c s := by
  obtain ⟨p, e, R, s0, m, args, below, meth, cd, Z⟩ := X
  have hX0 := hX
  obtain ⟨ex, eb, eown, eWt, eWh, eF, eL, eX, elk, ein, eret, exo, exn, efl⟩ := hX
  obtain ⟨rfl, z⟩ := z
  obtain ⟨x, r, rfl, rfl, hrt, z1⟩ := zpQ_inv z
  intro H locs cells slots ls hR hS hc hs hl hL
  have hc' : cells + c ≤ R.cells := hc
  have hs' : slots + s ≤ R.slots := hs
  have hrt' : ∃ C, ret = some (.object C) := by
    split at hrt
    · exact ⟨_, rfl⟩
    · exact hrt.elim
  exact eret _ h H locs cells slots ls pc _ z1 hR hS (by omega) (by omega) (Or.inr (Or.inr (Or.inr ⟨hd, x, rfl, rfl, hrt'⟩)))
theorem zs_return_ {l : Launch} {G : zG} {o : Nat} {ini : Bool} {cc : ByteArray} {ret : Option FieldType} {d : Nat} {Q : zO → zH → Prop} {X : zX} {len pc : Nat} {k : zC} {lv : List (Option Value)} {st : List Value} {h : zH} {c s : Nat} (hX : zOk l G o ini cc ret d Q X) (hk : ∀ pc lv st h c s, k pc lv st h c s → zJ l G X pc lv st h c s) (hd : decode cc pc = .ok (.return_, len)) (z : zw l G o ini cc ret d Q .return_ len pc k lv st h c s) : zJ l G X pc lv st h c s := by
  obtain ⟨p, e, R, s0, m, args, below, meth, cd, Z⟩ := X
  have hX0 := hX
  obtain ⟨ex, eb, eown, eWt, eWh, eF, eL, eX, elk, ein, eret, exo, exn, efl⟩ := hX
  obtain ⟨rfl, z⟩ := z
  obtain ⟨rfl, hrt, z1⟩ := z
  intro H locs cells slots ls hR hS hc hs hl hL
  have hc' : cells + c ≤ R.cells := hc
  have hs' : slots + s ≤ R.slots := hs
  exact eret _ h H locs cells slots ls pc _ z1 hR hS (by omega) (by omega) (Or.inr (Or.inl ⟨hd, rfl, rfl, hrt⟩))
