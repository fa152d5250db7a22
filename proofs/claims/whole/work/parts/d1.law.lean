/-! THE LAW: a static call of a method with handlers; a call that is caught -/
abbrev xIse : String := "java/lang/IllegalStateException"
def zNc (U : State) : Prop := va_Nc xArg xIdx U ∧ va_Nc xIse xArg U
theorem zNc.warm {s U : State} (hW : s.WarmedH U.vm) (h : zNc s) : zNc U := ⟨h.1.moved hW.alike, h.2.moved hW.alike⟩
abbrev zHh : Type := List (Nat × Nat × Nat × Nat)
def zPcN (G : zG) (as : List Value) (h : zH) : Array Value → State → Prop := va_Pc as (fun U => zRp G h U U.heap ∧ zNc U)
def zWsH (y : zM) (hh : zHh) : List Cond := [.codeWith y.1 y.2.1 y.2.2.1 y.2.2.2.1 hh]
def zCallW (l : Launch) (G : zG) (y : zM) (hh : zHh) (d : Nat) (as : List Value) (h : zH) (Q : zO → zH → Prop) : Prop :=
  l.stackTraces = false → ∃ d', d' ≤ d ∧ Met l y.1 (zWsH y hh) (zRm d' y.2.2.2.2.1 y.2.2.2.2.2) (zPcN G as h) (zQc G Q) y.2.2.2.2.1 y.2.2.2.2.2 (zgA G)
theorem zMet {l : Launch} {y : MethodName} {ws : List Cond} {rm : Room} {Pc : Array Value → State → Prop} {Qc : Array Value → State → Outcome → State → Prop} {mc ms : Nat} {free : Addr → Prop} (h : vx_Met l y ws rm Pc Qc (fun _ _ _ => False) mc ms free) : Met l y ws rm Pc Qc mc ms free := by
  intro p e a1 a2 a3 s m args below a4 a5 a6 a7
  obtain ⟨n, o, b1, b2, b3, b4⟩ := h p e a1 a2 a3 s m args below a4 a5 a6 a7
  refine ⟨n, o, b1, b2, b3, ?_⟩
  rcases b4 with b4 | b4
  · exact b4
  · obtain ⟨q, -, E, ce, L, b5, -⟩ := b4
    exact b5.elim
def zTab (X : zX) (hh : zHh) : Prop := X.2.2.2.2.2.2.2.2.1.exceptionTable.toList = tableOf hh ∧ zNc X.2.2.2.1
theorem zEntW {l : Launch} {G : zG} (y : zM) (hh : zHh) (d : Nat) (as : List Value) (h : zH) (Q : zO → zH → Prop) (lv : List (Option Value)) (ho : y.1.cls = zRn 12) (hp : plainName y.1.cls = true)
    (hlv : zlvA as ++ List.replicate (y.2.2.1 - (zlvA as).length) none = lv) (hn : (zlvA as).length ≤ y.2.2.1) (hQ : ∀ E g, ¬ Q (.inr E) g)
    (k : ∀ X, zOk l G 12 false y.2.1 y.2.2.2.1 d Q X → zTab X hh → zJ l G X 0 lv [] h y.2.2.2.2.1 y.2.2.2.2.2) : zCallW l G y hh d as h Q := by
  intro hfl
  refine ⟨d, Nat.le_refl _, zMet (vx_ofWH hp rfl fun p e s m args below meth c s₁ B hml hv => ?_)⟩
  obtain ⟨hargs, hR, hN⟩ := hv
  subst hargs
  have hown : s.vm.findClass (zRn 12) = some m.cls := by rw [← ho]; exact findClass_of_methodNamed B.named
  have hlk := B.notSynchronized
  have htab : c.exceptionTable.toList = tableOf hh := vx_table (x := y.1) B (atoms_spec (ws := zWsH y hh) B.pre _ List.mem_cons_self)
  have hl := lv_entry as (n := y.2.2.1) (by rw [← zlvA_len]; exact hn)
  rw [lg_entry_eq]
  refine k (p, e, zRm d y.2.2.2.2.1 y.2.2.2.2.2, s, m, as.toArray, below, meth, c, vx_MQ below (zQc G Q) (fun _ _ _ => False) as.toArray s y.2.2.2.2.1 y.2.2.2.2.2 (zgA G)) ?_ ⟨htab, hN⟩ s.heap [] 0 0 _ hR va_S.rf (Nat.le_of_eq (Nat.zero_add _)) (Nat.le_of_eq (Nat.zero_add _)) ⟨?_, hl.2.1, fun i v hi => ?_⟩ ?_
  · refine ⟨B.exec, B.bytes, hown, hR.1, hR.2.1, Nat.le_refl _, Nat.le_refl _, trivial, hlk, fun hi => (by cases hi), ?_, ?_, ?_, hfl⟩
    · intro v h' H locs cells slots ls pc st hQ hR' hS hc hs hrp
      refine W.widen (k := y.2.2.2.2.1) (n := y.2.2.2.2.2) hc hs (vx_ret ?_)
      rcases hrp with ⟨hd, x, rfl, rfl, hr | ⟨hr, hx⟩⟩ | ⟨hd, rfl, rfl, hr⟩ | ⟨hd, x, rfl, rfl, hr⟩ | ⟨hd, x, rfl, rfl, C, hr⟩
      · exact W.iret B.exec B.bytes (B.returns.trans hr) (fun t ht _ => ⟨⟨_, h', rfl, hQ, by rw [ht]; exact hR'.2.2⟩, hS.F ht⟩) hS.2.2 hd hlk
      · exact W.zret B.exec B.bytes (B.returns.trans hr) (by rcases hx with rfl | rfl <;> rfl) (fun t ht _ => ⟨⟨_, h', rfl, hQ, by rw [ht]; exact hR'.2.2⟩, hS.F ht⟩) hS.2.2 hd hlk
      · exact W.vret B.exec B.bytes (B.returns.trans hr) (fun t ht _ => ⟨⟨_, h', rfl, hQ, by rw [ht]; exact hR'.2.2⟩, hS.F ht⟩) hS.2.2 hd hlk
      · exact W.lret B.exec B.bytes (B.returns.trans hr) (fun t ht _ => ⟨⟨_, h', rfl, hQ, by rw [ht]; exact hR'.2.2⟩, hS.F ht⟩) hS.2.2 hd hlk
      · exact W.aret B.exec B.bytes (B.returns.trans hr) (Or.inl ⟨C, rfl⟩) (by cases x with
          | none => exact Or.inl rfl
          | some a => exact Or.inr ⟨a, rfl⟩) (fun t ht _ => ⟨⟨_, h', rfl, hQ, by rw [ht]; exact hR'.2.2⟩, hS.F ht⟩) hS.2.2 hd hlk
    · intro E ce q h' H locs cells slots ls pc st hQ'
      exact absurd hQ' (hQ E h')
    · intro E ik ic h' H locs cells slots ls pc st _ _ _ _ _ hQ'
      exact absurd hQ' (hQ E _)
  · rw [hl.1, ← hlv, List.length_append, List.length_replicate]
    omega
  · rw [← hlv] at hi
    have := zlvA_mem _ as 0 i v hi
    rw [Nat.zero_add] at this
    exact hl.2.2 _ this
  · rw [← hlv, List.length_append, List.length_replicate]
    show _ = c.maxLocals
    rw [hml]
    omega
theorem zblindN {G : zG} {as : List Value} {h : zH} : FrameBlind (zPcN G as h) := fun a U g mk q => ⟨q.1, zRp_warm (U := U.calling g mk a) (State.WarmedH.refl U) q.2.1, zNc.warm (U := U.calling g mk a) (State.WarmedH.refl U) q.2.2⟩
def zwdP (y : zM) (hh : zHh) : Prop := Cond.codeWith y.1 y.2.1 y.2.2.1 y.2.2.2.1 hh ∈ lw_tbl ∧ Cond.initialized y.1.cls ∈ lw_tbl ∧ y.1.cls ≠ "java/lang/invoke/MethodHandle" ∧ y.1.cls ≠ "java/lang/invoke/VarHandle" ∧ Cond.static y.1 ∈ lw_tbl ∧ y.2.2.1 ≤ 12
theorem zLS {l : Launch} {G : zG} {ini : Bool} {cc : ByteArray} {ret : Option FieldType} {d : Nat} {Q : zO → zH → Prop} {X : zX} {pc n mm c s : Nat} {lv : List (Option Value)} {as r : List Value} {h : zH} {y : zM} {hh : zHh} (hX : zOk l G 12 ini cc ret d Q X) (hN : zNc X.2.2.2.1) (hd : decode cc pc = .ok (.invokestatic n, 3)) (hd0 : 0 < d) (hw : zwdP y hh) (hlk : Cond.methodLink (zRn 12) n y.1 ∈ lw_tbl) (hpa : (parseMethodDescriptor y.1.desc).map (fun d => d.parameters.length) = some mm) (hlen : as.length = mm) (hcs : zcs r ≤ 8) (hmc : y.2.2.2.2.1 ≤ c) (hms : y.2.2.2.2.2 ≤ s)
    (hcall : zCallW l G y hh (d - 1) as h (fun o g => ∃ v, o = .inl v ∧ zJ l G X (pc + 3) lv (v.toList ++ r) g (c - y.2.2.2.2.1) (s - y.2.2.2.2.2))) : zJ l G X pc lv (as.reverse ++ r) h c s := by
  obtain ⟨p, e, R, s0, m, args, below, meth, cd, Z⟩ := X
  obtain ⟨ex, eb, eown, eWt, eWh, eF, eL, eX, elk, ein, eret, exo, exn, efl⟩ := hX
  intro H locs cells slots ls hR hS hc hs hl hL
  have hc' : cells + c ≤ R.cells := hc
  have hs' : slots + s ≤ R.slots := hs
  obtain ⟨d', hd', hM⟩ := hcall efl
  obtain ⟨hcode, hini, hy1, hy2, hst9, hml⟩ := hw
  have hN0 : zNc s0 := hN
  have hp : PreS s0 H (zPcN G as h) as := ⟨zblindN, fun U hU hW => ⟨rfl, by show zRp G h U U.heap; rw [hU]; exact zRp_warm hW hR, hN0.warm hW⟩⟩
  have cw : vx_CSW R s0 args (zRn 12) n y.1 y.2.1 y.2.2.1 y.2.2.2.1 hh (zWsH y hh) (zRm d' y.2.2.2.2.1 y.2.2.2.2.2) y.2.2.2.2.1 y.2.2.2.2.2 mm := by
    refine ⟨⟨rfl, rfl, show d' + 1 ≤ R.frames by omega, show 8 + (y.2.2.1 + 11) + 31 * d' ≤ R.locals by omega, fun w hw a' U hW => ?_, List.mem_cons_self⟩, zuse eWt hcode rfl, zuse eWt hini rfl, ⟨hy1, hy2⟩, fun sig hs => ?_, zuse eWt hlk rfl, zuse eWt hst9 rfl⟩
    · have e := List.mem_singleton.mp hw
      subst e
      exact zuse (zWt_warm hW eWt) hcode rfl
    · rw [hs] at hpa
      exact (Option.some.inj hpa).symm
  have hr := vx_runSW (e := e) (below := below) (meth := meth) (locs := locs) (g := F0 m pc ls (as.reverse ++ r)) (rest := r) ⟨ex, eb, rfl, eown, fun w h => absurd h List.not_mem_nil⟩ hM cw hp rfl hlen (hl.1.trans hL) rfl (lv_room hcs) hd ⟨(by omega : cells + y.2.2.2.2.1 ≤ R.cells), (by omega : slots + y.2.2.2.2.2 ≤ R.slots)⟩
  exact zrun (Qz := fun o g => ∃ v, o = .inl v ∧ zJ l G (p, e, R, s0, m, args, below, meth, cd, Z) (pc + 3) lv (v.toList ++ r) g (c - y.2.2.2.2.1) (s - y.2.2.2.2.2)) (fun T hT X => Or.inl (hr T hT X)) hR hS (fun E ce q9 h' H1 locs1 g1 => by
      obtain ⟨v, e1, -⟩ := g1
      cases e1)
    (fun v h' H1 locs1 g1 g2 g3 => by
      obtain ⟨v', e1, g1⟩ := g1
      cases e1
      exact g1 H1 locs1 (cells + y.2.2.2.2.1) (slots + y.2.2.2.2.2) ls g2 g3 (show _ ≤ R.cells by omega) (show _ ≤ R.slots by omega) hl hL)
def zCat (l : Launch) (X : zX) (pc : Nat) (E : String) (hpc : Nat) : Prop := ∀ (H : Heap) (locs : List Loc) (cells slots : Nat) (ls : Array Slot) (st : List Value) (q : Addr) (ce : Cell), H[q]? = some ce → ce.vm = .none → X.2.2.2.1.vm.findClass E = some ce.cls → zW l X H locs cells slots (F0 X.2.2.2.2.1 hpc ls [.ref q]) → vx_W X.1 l X.2.1 X.2.2.1 X.2.2.2.1 X.2.2.2.2.1 X.2.2.2.2.2.1 X.2.2.2.2.2.2.1 X.2.2.2.2.2.2.2.1 X.2.2.2.2.2.2.2.2.1 H locs cells slots X.2.2.2.2.2.2.2.2.2 (F0 X.2.2.2.2.1 pc ls st) q
theorem zCat_1 {l : Launch} {G : zG} {ini : Bool} {cc : ByteArray} {ret : Option FieldType} {d : Nat} {Q : zO → zH → Prop} {X : zX} {pc : Nat} {E name : String} {x : ExceptionTableEntry} {suf : List ExceptionTableEntry} (hX : zOk l G 12 ini cc ret d Q X) (hT : X.2.2.2.2.2.2.2.2.1.exceptionTable.toList = x :: suf) (hx : covers x pc = true) (h0 : x.catchType ≠ 0) (hlink : Cond.classLink (zRn 12) x.catchType name ∈ lw_tbl) (hcast : Cond.castable E name ∈ lw_tbl) : zCat l X pc E x.handlerPc := by
  obtain ⟨p, e, R, s0, m, args, below, meth, cd, Z⟩ := X
  obtain ⟨ex, eb, eown, eWt, eWh, eF, eL, eX, elk, ein, eret, exo, exn, efl⟩ := hX
  intro H locs cells slots ls st q ce h1 h2 h3 kk
  exact vx_catch eown [] x suf hT (fun z hz => absurd hz List.not_mem_nil) hx h0 (zuse eWt hlink rfl) (zuse eWt hcast rfl) h1 h2 h3 kk
theorem zCat_2 {l : Launch} {G : zG} {ini : Bool} {cc : ByteArray} {ret : Option FieldType} {d : Nat} {Q : zO → zH → Prop} {X : zX} {pc : Nat} {E name nm : String} {x z : ExceptionTableEntry} {suf : List ExceptionTableEntry} (hX : zOk l G 12 ini cc ret d Q X) (hT : X.2.2.2.2.2.2.2.2.1.exceptionTable.toList = z :: x :: suf) (hz0 : z.catchType ≠ 0) (hzl : Cond.classLink (zRn 12) z.catchType nm ∈ lw_tbl) (hzn : va_Nc E nm X.2.2.2.1) (hx : covers x pc = true) (h0 : x.catchType ≠ 0) (hlink : Cond.classLink (zRn 12) x.catchType name ∈ lw_tbl) (hcast : Cond.castable E name ∈ lw_tbl) : zCat l X pc E x.handlerPc := by
  obtain ⟨p, e, R, s0, m, args, below, meth, cd, Z⟩ := X
  obtain ⟨ex, eb, eown, eWt, eWh, eF, eL, eX, elk, ein, eret, exo, exn, efl⟩ := hX
  intro H locs cells slots ls st q ce h1 h2 h3 kk
  exact vx_catch eown [z] x suf hT (fun z9 hz => by
    have e9 := List.mem_singleton.mp hz
    subst e9
    exact Or.inr ⟨hz0, nm, zuse eWt hzl rfl, hzn⟩) hx h0 (zuse eWt hlink rfl) (zuse eWt hcast rfl) h1 h2 h3 kk
theorem zHV {l : Launch} {G : zG} {ini : Bool} {cc : ByteArray} {ret : Option FieldType} {d : Nat} {Q : zO → zH → Prop} {X : zX} {pc n c s a kd m9 : Nat} {lv : List (Option Value)} {as r : List Value} {h : zH} {y : zM} (hX : zOk l G 12 ini cc ret d Q X) (hz : zml 12 n = some (y, 0, kd, m9)) (hd : decode cc pc = .ok (.invokevirtual n, 3)) (hd0 : 0 < d) (hlen : as.length = m9) (hK : zK h a = kd) (hcs : zcs r ≤ 8) (hmc : y.2.2.2.2.1 ≤ c) (hms : y.2.2.2.2.2 ≤ s)
    (hcall : zCall l G y (d - 1) (.ref a :: as) h (fun o g => match o with
      | .inl v => zJ l G X (pc + 3) lv (v.toList ++ r) g (c - y.2.2.2.2.1) (s - y.2.2.2.2.2)
      | .inr E => ∃ hpc, zCat l X pc E hpc ∧ ∀ q, zJ l G X hpc lv [.ref q] g (c - y.2.2.2.2.1) (s - y.2.2.2.2.2))) : zJ l G X pc lv (as.reverse ++ .ref a :: r) h c s := by
  obtain ⟨w0, -⟩ := zml_ok hz
  obtain ⟨hmd, hln, hin9, hse, ⟨ci, rfl, C, T, N, hcl, rfl⟩, hpa⟩ := w0 rfl
  obtain ⟨p, e, R, s0, m, args, below, meth, cd, Z⟩ := X
  obtain ⟨ex, eb, eown, eWt, eWh, eF, eL, eX, elk, ein, eret, exo, exn, efl⟩ := hX
  intro H locs cells slots ls hR hS hc hs hl hL
  have hc' : cells + c ≤ R.cells := hc
  have hs' : slots + s ≤ R.slots := hs
  obtain ⟨d', hd', hM⟩ := hcall efl
  have hci := zci_lt hcl
  have hrc : ∃ cellB : Cell, H[a]? = some cellB ∧ cellB.vm.isStatics = false ∧ s0.vm.findClass y.1.cls = some cellB.cls := by
    have hat := ((hR.2.2.1 a).1 (by omega) (by omega)).2
    rw [zel_obj hK hci] at hat
    obtain ⟨r0, hr0, cell, q1, q2, q3, q4⟩ := hat
    exact ⟨cell, q1, by rw [q3]; rfl, by rw [q2]; exact (eWt.1.1 ci _ hcl).2.1⟩
  have hp : PreV s0 H y.1.cls a (zPc G (.ref a :: as) h) as := ⟨zblind, hrc, fun U hU hW => ⟨rfl, by show zRp G h U U.heap; rw [hU]; exact zRp_warm hW hR⟩⟩
  rcases hln with hl1 | ⟨host, hl1⟩
  · refine zrun (vx_runV (g := F0 m pc ls (as.reverse ++ .ref a :: r)) (rest := r) ⟨ex, eb, rfl, eown, fun w h => absurd h List.not_mem_nil⟩ hM ⟨zcb (p := p) (l := l) eWt hd0 hd' eF eL hmd hl1 hpa, zuse eWt hin9 rfl, zuse eWt hse rfl⟩ hp rfl hlen (hl.1.trans hL) rfl (lv_room hcs) hd ⟨by omega, by omega⟩) hR hS (fun E ce q9 h' H1 locs1 g1 g2 g3 g4 g5 g6 => ?_)
      (fun v h' H1 locs1 g1 g2 g3 => g1 H1 locs1 (cells + y.2.2.2.2.1) (slots + y.2.2.2.2.2) ls g2 g3 (show _ ≤ R.cells by omega) (show _ ≤ R.slots by omega) hl hL)
    obtain ⟨hpc, k1, k2⟩ := g1
    exact k1 H1 locs1 _ _ ls r q9 ce g4 g5 g6 (k2 q9 H1 locs1 (cells + y.2.2.2.2.1) (slots + y.2.2.2.2.2) ls g2 g3 (show _ ≤ R.cells by omega) (show _ ≤ R.slots by omega) hl hL)
  · refine zrun (vx_runVN (g := F0 m pc ls (as.reverse ++ .ref a :: r)) (rest := r) ⟨ex, eb, rfl, eown, fun w h => absurd h List.not_mem_nil⟩ hM ⟨zcnb (p := p) (l := l) eWt hd0 hd' eF eL hmd hl1 hpa, zuse eWt hin9 rfl, zuse eWt hse rfl⟩ hp rfl hlen (hl.1.trans hL) rfl (lv_room hcs) hd ⟨by omega, by omega⟩) hR hS (fun E ce q9 h' H1 locs1 g1 g2 g3 g4 g5 g6 => ?_)
      (fun v h' H1 locs1 g1 g2 g3 => g1 H1 locs1 (cells + y.2.2.2.2.1) (slots + y.2.2.2.2.2) ls g2 g3 (show _ ≤ R.cells by omega) (show _ ≤ R.slots by omega) hl hL)
    obtain ⟨hpc, k1, k2⟩ := g1
    exact k1 H1 locs1 _ _ ls r q9 ce g4 g5 g6 (k2 q9 H1 locs1 (cells + y.2.2.2.2.1) (slots + y.2.2.2.2.2) ls g2 g3 (show _ ≤ R.cells by omega) (show _ ≤ R.slots by omega) hl hL)
