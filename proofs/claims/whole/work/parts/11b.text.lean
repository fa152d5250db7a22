theorem va_AOA.moved {t : FieldType} {u U : State} (hvm : u.vm.Alike U.vm) (h : va_AOA t u) : va_AOA t U := by
  obtain ⟨comp, c, k, h1, h2, h3, h4, h5⟩ := arrayOverA_spec h
  obtain ⟨k', hk', he⟩ := hvm.2.2 _ _ h3
  have hi : (U.vm.classes.findIdx? fun (x : Class) => match x.kind with | .array component _ => component == comp | _ => false) = some c := by
    have e : U.vm.bare = u.vm.bare := by first | exact hvm.bare_eq | exact hvm.bare_eq.symm
    have g3 := va_idx_bare U.vm comp
    have g4 := va_idx_bare u.vm comp
    rw [e] at g3
    exact (g3.symm.trans g4).trans h2
  have hkind : k'.kind = .array comp (.array t) := by rw [he]; exact h4
  have f1 : U.vm.findClass (FieldType.array t).toString = some comp := by rw [hvm.findClass]; exact h1
  have f2 : U.vm.findClass ("[" ++ (FieldType.array t).toString) = some c := by rw [hvm.findClass]; exact h5
  unfold va_AOA Cond.before Cond.holds
  simp only [Cond.value]
  rw [f1, Option.bind_some]
  refine (congrArg (fun o : Option Nat => (o.bind (fun c => (U.vm.classes[c]?).map fun (k : Class) => match k.kind with | .array _ ty => decide (ty = FieldType.array t) && decide (U.vm.findClass ("[" ++ (FieldType.array t).toString) = some c) | _ => false)) == some true) hi).trans ?_
  simp [hk', hkind, f2]
theorem zok_warm {w : Cond} {s U : State} (hz : zok w = true) (hW : s.WarmedH U.vm) (h : va_Nw w s) : va_Nw w U := by
  have ht := zok_tab hz
  unfold zok at hz
  simp only [Bool.and_eq_true, Bool.or_eq_true] at hz
  rcases hz.2 with (hk | hk) | hk
  · exact word_at hW (Or.inl (by rw [ht, hk]; rfl)) h
  · exact va_tabs ht (rfl : (s.setVm U.vm).vm = U.vm) (Cond.before_shiftedFace (args := #[]) (State.Shifted.of_warmed hW) w hk h)
  · cases w <;> first | (cases hk; done) | skip
    · exact va_Nw.warmM hW h
    · exact va_Nw.warmF hW h
theorem zWt_warm {G : zG} {s U : State} (hW : s.WarmedH U.vm) (h : zWt G s) : zWt G U := by
  obtain ⟨h1, h2, h3, h4, h5, h6, h7⟩ := h
  exact ⟨h1.moved hW.alike, fun w hw hz => zok_warm hz hW (h2 w hw hz), fun ty hty => word_at hW (Or.inr ⟨_, rfl⟩) (h3 ty hty), h4.moved hW.alike, h5.moved hW.alike, h6.moved hW.alike, h7.moved hW.alike⟩
theorem zWh_warm {G : zG} {s U : State} {H : Heap} (hW : s.WarmedH U.vm) (h : zWh G s H) : zWh G U H := by
  obtain ⟨h1, ⟨t1, t2, t3, t4⟩, h2, h3, h4, h5⟩ := h
  exact ⟨h1, ⟨fun o n t hz => (t1 o n t hz).warm hW, t2.moved hW.alike, t3.moved hW.alike, t4.moved hW.alike⟩, h2.moved hW.alike, h3.moved hW.alike, h4, h5.moved hW.alike⟩
theorem zRp_warm {G : zG} {h : zH} {s U : State} {H : Heap} (hW : s.WarmedH U.vm) (hR : zRp G h s H) : zRp G h U H := ⟨zWt_warm hW hR.1, zWh_warm hW hR.2.1, hR.2.2⟩
theorem zblind {G : zG} {as : List Value} {h : zH} : FrameBlind (zPc G as h) := fun a U g mk q => ⟨q.1, zRp_warm (U := U.calling g mk a) (State.WarmedH.refl U) q.2⟩
theorem zrun {p : Program} {l : Launch} {e : Env} {R : Room} {s : State} {m : MethodId} {args : Array Value} {below : List Frame} {meth : Method} {c : Code} {H : Heap} {locs : List Loc} {cells slots mc ms pc : Nat} {ls : Array Slot} {st0 rest : List Value} {a : Array Value} {G : zG} {h : zH} {Qz : zO → zH → Prop} {Z : State → Prop}
    (hr : vx_Run p l e R s m args below meth c H locs cells slots mc ms (F0 m pc ls st0) rest (zQc G Qz a) (zXC G Qz) (zgA G)) (hR : zRp G h s H) (hS : va_S (zgA G) s.heap H locs)
    (kx : ∀ (E : String) (ce : Cell) (q9 : Addr) (h' : zH) (H1 : Heap) (locs1 : List Loc), Qz (.inr E) h' → zRp G h' s H1 → va_S (zgA G) s.heap H1 locs1 → H1[q9]? = some ce → ce.vm = .none → s.vm.findClass E = some ce.cls → vx_W p l e R s m args below meth c H1 locs1 (cells + mc) (slots + ms) Z (F0 m pc ls rest) q9)
    (kk : ∀ (v : Option Value) (h' : zH) (H1 : Heap) (locs1 : List Loc), Qz (.inl v) h' → zRp G h' s H1 → va_S (zgA G) s.heap H1 locs1 → W p l e R s m args below meth c H1 locs1 (cells + mc) (slots + ms) Z (F0 m (pc + 3) ls (v.toList ++ rest))) : W p l e R s m args below meth c H locs cells slots Z (F0 m pc ls st0) := by
  intro T hT X
  rcases hr T hT X with ⟨v, st₀, t, T', L, h0, X', hL, e1, e2, ⟨⟨v', h', hv, hQ, hq⟩, hF⟩, st⟩ | ⟨q, st₀, t, T', L, E, ce, h0, X', hL, e1, e2, ⟨⟨h', hQ, hq⟩, hF⟩, hce, hcv, hcl, st⟩
  · cases hv
    obtain ⟨k1, k2, k3⟩ := vx_keep h0 e1 hS (fun _ _ h => h) (fun _ h => h) hL hF
    obtain ⟨t2, a1, b1⟩ := kk _ h' T'.heap (locs ++ L) hQ ⟨hR.1, zWh_kept hR.2.1 k1 k2, by rw [e1]; exact hq⟩ k3 T' rfl X'
    exact ⟨t2, st t2 a1, b1⟩
  · obtain ⟨k1, k2, k3⟩ := vx_keep h0 e1 hS (fun _ _ h => h) (fun _ h => h) hL hF
    obtain ⟨t2, a1, b1⟩ := kx E ce q h' T'.heap (locs ++ L) hQ ⟨hR.1, zWh_kept hR.2.1 k1 k2, by rw [e1]; exact hq⟩ k3 (by rw [e1]; exact hce) hcv hcl T' rfl X'
    exact ⟨t2, st.trans a1, b1⟩
theorem zcb {p : Program} {l : Launch} {R : Room} {s : State} {args : Array Value} {G : zG} {o n m d d' : Nat} {y : zM} (eWt : zWt G s) (hd : 0 < d) (hd' : d' ≤ d - 1) (eF : d ≤ R.frames) (eL : 31 * d ≤ R.locals) (hmd : zmdP y) (hlk : Cond.methodLink (zRn o) n y.1 ∈ lw_tbl) (hpa : (parseMethodDescriptor y.1.desc).map (fun d => d.parameters.length) = some m) :
    CallB R s args (zRn o) n y.1 y.2.1 y.2.2.1 y.2.2.2.1 (zWs y) (zRm d' y.2.2.2.2.1 y.2.2.2.2.2) y.2.2.2.2.1 y.2.2.2.2.2 m := by
  obtain ⟨hcode, hini, hy1, hy2, hpl, hml⟩ := hmd
  refine ⟨rfl, rfl, show d' + 1 ≤ R.frames by omega, show 8 + (y.2.2.1 + 11) + 31 * d' ≤ R.locals by omega, fun w hw a' U hW => ?_, List.mem_cons_self, zuse eWt hcode rfl, zuse eWt hini rfl, ⟨hy1, hy2⟩, fun sig hs => ?_, zuse eWt hlk rfl⟩
  · have e := List.mem_singleton.mp hw
    subst e
    exact zuse (zWt_warm hW eWt) hcode rfl
  · rw [hs] at hpa
    exact (Option.some.inj hpa).symm
theorem zcnb {p : Program} {l : Launch} {R : Room} {s : State} {args : Array Value} {G : zG} {o n m d d' : Nat} {y : zM} {host : String} (eWt : zWt G s) (hd : 0 < d) (hd' : d' ≤ d - 1) (eF : d ≤ R.frames) (eL : 31 * d ≤ R.locals) (hmd : zmdP y) (hlk : Cond.methodLinkNest (zRn o) n y.1 host ∈ lw_tbl) (hpa : (parseMethodDescriptor y.1.desc).map (fun d => d.parameters.length) = some m) :
    va_CN R s args (zRn o) n y.1 host y.2.1 y.2.2.1 y.2.2.2.1 (zWs y) (zRm d' y.2.2.2.2.1 y.2.2.2.2.2) y.2.2.2.2.1 y.2.2.2.2.2 m := by
  obtain ⟨hcode, hini, hy1, hy2, hpl, hml⟩ := hmd
  refine ⟨⟨rfl, rfl, show d' + 1 ≤ R.frames by omega, show 8 + (y.2.2.1 + 11) + 31 * d' ≤ R.locals by omega, fun w hw a' U hW => ?_, List.mem_cons_self⟩, zuse eWt hcode rfl, zuse eWt hini rfl, ⟨hy1, hy2⟩, fun sig hs => ?_, zuse eWt hlk rfl⟩
  · have e := List.mem_singleton.mp hw
    subst e
    exact zuse (zWt_warm hW eWt) hcode rfl
  · rw [hs] at hpa
    exact (Option.some.inj hpa).symm
def zlvA : List Value → List (Option Value)
  | [] => []
  | v :: vs => if v.category = 2 then some v :: none :: zlvA vs else some v :: zlvA vs
theorem zget_nones : ∀ (n i : Nat), zget (List.replicate n none) i = none
  | 0, _ => rfl
  | _ + 1, 0 => rfl
  | n + 1, i + 1 => zget_nones n i
theorem zlvA_mem (n : Nat) : ∀ (vs : List Value) (k i : Nat) (v : Value), zget (zlvA vs ++ List.replicate n none) i = some v → (k + i, v) ∈ lv_args k vs
  | [], k, i, v, h => by
    rw [show zlvA [] ++ List.replicate n none = List.replicate n none from rfl, zget_nones] at h
    cases h
  | x :: xs, k, i, v, h => by
    unfold zlvA at h
    unfold lv_args
    by_cases hc : x.category = 2
    · rw [if_pos hc] at h
      simp only [hc]
      match i, h with
      | 0, h => cases h; exact List.mem_cons_self
      | 1, h => cases h
      | i + 2, h =>
        have := zlvA_mem n xs (k + 2) i v h
        rw [show k + 2 + i = k + (i + 2) by omega] at this
        exact List.mem_cons_of_mem _ this
    · rw [if_neg hc] at h
      have h1 : x.category = 1 := (lv_cat x).resolve_right hc
      simp only [h1]
      match i, h with
      | 0, h => cases h; exact List.mem_cons_self
      | i + 1, h =>
        have := zlvA_mem n xs (k + 1) i v h
        rw [show k + 1 + i = k + (i + 1) by omega] at this
        exact List.mem_cons_of_mem _ this
theorem zlvA_len : ∀ vs : List Value, (zlvA vs).length = (lg_sl vs).length
  | [] => rfl
  | x :: xs => by
    have e : lg_sl (x :: xs) = (if x.category = 2 then [.val x, .second] else [.val x]) ++ lg_sl xs := by simp [lg_sl]
    rw [e]
    unfold zlvA
    by_cases hc : x.category = 2
    · rw [if_pos hc, if_pos hc]
      simp [zlvA_len xs]
    · rw [if_neg hc, if_neg hc]
      simp [zlvA_len xs]
theorem zCall.up {l : Launch} {G : zG} {y : zM} {d e : Nat} {as : List Value} {h : zH} {Q : zO → zH → Prop} (H : zCall l G y d as h Q) (hd : d ≤ e) : zCall l G y e as h Q := fun hf => by
  obtain ⟨d1, h1, h2⟩ := H hf
  exact ⟨d1, by omega, h2⟩
def zJQ (h : zH) (v : Option Value) : zO → zH → Prop := fun o g => o = .inl v ∧ g = h
theorem zJE {l : Launch} {G : zG} (nm : MethodName) (cb : ByteArray) (ml : Nat) (ret : Option FieldType) (d : Nat) (as : List Value) (h : zH) (Q : zO → zH → Prop) (hp : plainName nm.cls = true) (lv : List (Option Value)) (hlv : zlvA as ++ List.replicate (ml - (zlvA as).length) none = lv) (hn : (zlvA as).length ≤ ml)
    (k : ∀ (p : Program) (e : Env) (s : State) (m : MethodId) (args : Array Value) (below : List Frame) (meth : Method) (c : Code) (Z : State → Prop), p.tables.exec = Jvm.exec → c.code = cb → s.vm.findClass nm.cls = some m.cls → zRp G h s s.heap → l.stackTraces = false → c.maxLocals = lv.length →
      (∀ (x : Int32) (ty : FieldType) (H : Heap) (locs : List Loc) (pc : Nat) (ls : Array Slot), ret = some ty → narrow ty (.int x) = .int x → Q (.inl (some (.int x))) h → zRp G h s H → va_S (zgA G) s.heap H locs → decode cb pc = .ok (.ireturn, 1) → W p l e (zRm d 0 0) s m args below meth c H locs 0 0 Z (F0 m pc ls [.int x])) →
      (∀ (H : Heap) (locs : List Loc) (pc : Nat) (ls : Array Slot), ret = none → Q (.inl none) h → zRp G h s H → va_S (zgA G) s.heap H locs → decode cb pc = .ok (.return_, 1) → W p l e (zRm d 0 0) s m args below meth c H locs 0 0 Z (F0 m pc ls [])) →
      ∀ ls : Array Slot, zhas ls lv → W p l e (zRm d 0 0) s m args below meth c s.heap [] 0 0 Z (F0 m 0 ls [])) : zCall l G (nm, cb, ml, ret, 0, 0) d as h Q := by
  intro hfl
  refine ⟨d, Nat.le_refl _, vx_ofW hp rfl fun p e s m args below meth c s₁ B hml hex hv => ?_⟩
  obtain ⟨hargs, hR⟩ := hv
  subst hargs
  have hown : s.vm.findClass nm.cls = some m.cls := findClass_of_methodNamed B.named
  have hlk := B.notSynchronized
  have hl := lv_entry as (n := ml) (by rw [← zlvA_len]; exact hn)
  rw [lg_entry_eq]
  refine k p e s m as.toArray below meth c (vx_MQ below (zQc G Q) (zXC G Q) as.toArray s 0 0 (zgA G)) B.exec B.bytes hown hR hfl ?_ (fun x ty H locs pc ls hty hnr hQ hR' hS hd => vx_ret (W.zret B.exec B.bytes (B.returns.trans hty) hnr (fun t ht _ => ⟨⟨_, h, rfl, hQ, by rw [ht]; exact hR'.2.2⟩, hS.F ht⟩) hS.2.2 hd hlk)) (fun H locs pc ls hty hQ hR' hS hd => vx_ret (W.vret B.exec B.bytes (B.returns.trans hty) (fun t ht _ => ⟨⟨_, h, rfl, hQ, by rw [ht]; exact hR'.2.2⟩, hS.F ht⟩) hS.2.2 hd hlk)) _ ⟨?_, hl.2.1, fun i v hi => ?_⟩
  · rw [← hlv, List.length_append, List.length_replicate]
    show c.maxLocals = _
    rw [hml]
    show ml = _
    omega
  · rw [hl.1, ← hlv, List.length_append, List.length_replicate]
    show ml = _
    omega
  · rw [← hlv] at hi
    have := zlvA_mem _ as 0 i v hi
    rw [Nat.zero_add] at this
    exact hl.2.2 _ this
def zmdJ (nm : MethodName) (cb : ByteArray) (ml : Nat) (ret : Option FieldType) : Prop := zmdP (nm, cb, ml, ret, 0, 0)
theorem zcbJ {p : Program} {l : Launch} {R : Room} {s : State} {args : Array Value} {G : zG} {own : String} {n m d d' : Nat} {y : zM} (eWt : zWt G s) (hd : 0 < d) (hd' : d' ≤ d - 1) (eF : d ≤ R.frames) (eL : 31 * d ≤ R.locals) (hmd : zmdP y) (hlk : Cond.methodLink own n y.1 ∈ lw_tbl) (hpa : (parseMethodDescriptor y.1.desc).map (fun d => d.parameters.length) = some m) :
    CallB R s args own n y.1 y.2.1 y.2.2.1 y.2.2.2.1 (zWs y) (zRm d' y.2.2.2.2.1 y.2.2.2.2.2) y.2.2.2.2.1 y.2.2.2.2.2 m := by
  obtain ⟨hcode, hini, hy1, hy2, hpl, hml⟩ := hmd
  refine ⟨rfl, rfl, show d' + 1 ≤ R.frames by omega, show 8 + (y.2.2.1 + 11) + 31 * d' ≤ R.locals by omega, fun w hw a' U hW => ?_, List.mem_cons_self, zuse eWt hcode rfl, zuse eWt hini rfl, ⟨hy1, hy2⟩, fun sig hs => ?_, zuse eWt hlk rfl⟩
  · have e := List.mem_singleton.mp hw
    subst e
    exact zuse (zWt_warm hW eWt) hcode rfl
  · rw [hs] at hpa
    exact (Option.some.inj hpa).symm
theorem zJV {p : Program} {l : Launch} {e : Env} {R : Room} {s : State} {m : MethodId} {args : Array Value} {below : List Frame} {meth : Method} {c : Code} {H : Heap} {locs : List Loc} {cells slots pc : Nat} {ls : Array Slot} {Z : State → Prop} {G : zG} {h : zH} {own : String} {n mm a d : Nat} {cb : ByteArray} {as r : List Value} {v : Option Value} (nm : MethodName) (cb1 : ByteArray) (ml : Nat) (ret : Option FieldType)
    (ex : p.tables.exec = Jvm.exec) (eb : c.code = cb) (eown : s.vm.findClass own = some m.cls) (efl : l.stackTraces = false) (hd0 : 0 < d) (eF : d ≤ R.frames) (eL : 31 * d ≤ R.locals) (hcc : cells ≤ R.cells) (hss : slots ≤ R.slots) (hmd : zmdJ nm cb1 ml ret) (hlk : Cond.methodLink own n nm ∈ lw_tbl) (hpa : (parseMethodDescriptor nm.desc).map (fun d => d.parameters.length) = some mm) (hin9 : Cond.instanceMethod nm ∈ lw_tbl) (hse : Cond.selects nm.cls nm nm ∈ lw_tbl) (hrc : ∃ cellB : Cell, H[a]? = some cellB ∧ cellB.vm.isStatics = false ∧ s.vm.findClass nm.cls = some cellB.cls)
    (hM : zCall l G (nm, cb1, ml, ret, 0, 0) (d - 1) (.ref a :: as) h (zJQ h v)) (hlen : as.length = mm) (hR : zRp G h s H) (hS : va_S (zgA G) s.heap H locs) (hcs : zcs r ≤ 8) (hsz : ls.size = c.maxLocals) (hd : decode cb pc = .ok (.invokevirtual n, 3))
    (kk : ∀ (H1 : Heap) (locs1 : List Loc), zRp G h s H1 → va_S (zgA G) s.heap H1 locs1 → W p l e R s m args below meth c H1 locs1 cells slots Z (F0 m (pc + 3) ls (v.toList ++ r))) : W p l e R s m args below meth c H locs cells slots Z (F0 m pc ls (as.reverse ++ .ref a :: r)) := by
  obtain ⟨d', hd', hM⟩ := hM efl
  have hp : PreV s H nm.cls a (zPc G (.ref a :: as) h) as := ⟨zblind, hrc, fun U hU hW => ⟨rfl, by show zRp G h U U.heap; rw [hU]; exact zRp_warm hW hR⟩⟩
  exact zrun (vx_runV ⟨ex, eb, rfl, eown, fun w h => absurd h List.not_mem_nil⟩ hM ⟨zcbJ (p := p) (l := l) hR.1 hd0 hd' eF eL hmd hlk hpa, zuse hR.1 hin9 rfl, zuse hR.1 hse rfl⟩ hp rfl hlen hsz rfl (lv_room hcs) hd ⟨hcc, hss⟩) hR hS (fun E ce q9 h' H1 locs1 g1 g2 g3 g4 g5 g6 => by cases g1.1)
    (fun v' h' H1 locs1 g1 g2 g3 => by
      obtain ⟨e1, rfl⟩ := g1
      cases e1
      exact kk H1 locs1 g2 g3)
theorem zJS {p : Program} {l : Launch} {e : Env} {R : Room} {s : State} {m : MethodId} {args : Array Value} {below : List Frame} {meth : Method} {c : Code} {H : Heap} {locs : List Loc} {cells slots pc : Nat} {ls : Array Slot} {Z : State → Prop} {G : zG} {h : zH} {own : String} {n mm d : Nat} {cb : ByteArray} {as r : List Value} {v : Option Value} (nm : MethodName) (cb1 : ByteArray) (ml : Nat) (ret : Option FieldType)
    (ex : p.tables.exec = Jvm.exec) (eb : c.code = cb) (eown : s.vm.findClass own = some m.cls) (efl : l.stackTraces = false) (hd0 : 0 < d) (eF : d ≤ R.frames) (eL : 31 * d ≤ R.locals) (hcc : cells ≤ R.cells) (hss : slots ≤ R.slots) (hmd : zmdJ nm cb1 ml ret) (hlk : Cond.methodLink own n nm ∈ lw_tbl) (hpa : (parseMethodDescriptor nm.desc).map (fun d => d.parameters.length) = some mm) (hst9 : Cond.static nm ∈ lw_tbl)
    (hM : zCall l G (nm, cb1, ml, ret, 0, 0) (d - 1) as h (zJQ h v)) (hlen : as.length = mm) (hR : zRp G h s H) (hS : va_S (zgA G) s.heap H locs) (hcs : zcs r ≤ 8) (hsz : ls.size = c.maxLocals) (hd : decode cb pc = .ok (.invokestatic n, 3))
    (kk : ∀ (H1 : Heap) (locs1 : List Loc), zRp G h s H1 → va_S (zgA G) s.heap H1 locs1 → W p l e R s m args below meth c H1 locs1 cells slots Z (F0 m (pc + 3) ls (v.toList ++ r))) : W p l e R s m args below meth c H locs cells slots Z (F0 m pc ls (as.reverse ++ r)) := by
  obtain ⟨d', hd', hM⟩ := hM efl
  have hp : PreS s H (zPc G as h) as := ⟨zblind, fun U hU hW => ⟨rfl, by show zRp G h U U.heap; rw [hU]; exact zRp_warm hW hR⟩⟩
  exact zrun (vx_runS ⟨ex, eb, rfl, eown, fun w h => absurd h List.not_mem_nil⟩ hM ⟨zcbJ (p := p) (l := l) hR.1 hd0 hd' eF eL hmd hlk hpa, zuse hR.1 hst9 rfl⟩ hp rfl hlen hsz rfl (lv_room hcs) hd ⟨hcc, hss⟩) hR hS (fun E ce q9 h' H1 locs1 g1 g2 g3 g4 g5 g6 => by cases g1.1)
    (fun v' h' H1 locs1 g1 g2 g3 => by
      obtain ⟨e1, rfl⟩ := g1
      cases e1
      exact kk H1 locs1 g2 g3)
theorem dJl0 : decode cJ0_length_8abf5 0 = .ok (.aload_n 0, 1) := by decide +kernel
theorem dJl1 : decode cJ0_length_8abf5 1 = .ok (.getfield 9, 3) := by decide +kernel
theorem dJl4 : decode cJ0_length_8abf5 4 = .ok (.arraylength, 1) := by decide +kernel
theorem dJl5 : decode cJ0_length_8abf5 5 = .ok (.aload_n 0, 1) := by decide +kernel
theorem dJl6 : decode cJ0_length_8abf5 6 = .ok (.invokevirtual 335, 3) := by decide +kernel
theorem dJl9 : decode cJ0_length_8abf5 9 = .ok (.ishr, 1) := by decide +kernel
theorem dJl10 : decode cJ0_length_8abf5 10 = .ok (.ireturn, 1) := by decide +kernel
theorem dJk0 : decode cJ0_coder_7d493 0 = .ok (.getstatic 38, 3) := by decide +kernel
theorem dJk3 : decode cJ0_coder_7d493 3 = .ok (.ifCond .eq 10, 3) := by decide +kernel
theorem dJk6 : decode cJ0_coder_7d493 6 = .ok (.aload_n 0, 1) := by decide +kernel
theorem dJk7 : decode cJ0_coder_7d493 7 = .ok (.getfield 15, 3) := by decide +kernel
theorem dJk10 : decode cJ0_coder_7d493 10 = .ok (.goto 4, 3) := by decide +kernel
theorem dJk14 : decode cJ0_coder_7d493 14 = .ok (.ireturn, 1) := by decide +kernel
theorem dJi0 : decode cJ0_isLatin1_aae02 0 = .ok (.getstatic 38, 3) := by decide +kernel
theorem dJi3 : decode cJ0_isLatin1_aae02 3 = .ok (.ifCond .eq 14, 3) := by decide +kernel
theorem dJi6 : decode cJ0_isLatin1_aae02 6 = .ok (.aload_n 0, 1) := by decide +kernel
theorem dJi7 : decode cJ0_isLatin1_aae02 7 = .ok (.getfield 15, 3) := by decide +kernel
theorem dJi10 : decode cJ0_isLatin1_aae02 10 = .ok (.ifCond .ne 7, 3) := by decide +kernel
theorem dJi13 : decode cJ0_isLatin1_aae02 13 = .ok (.iconst 1, 1) := by decide +kernel
theorem dJi14 : decode cJ0_isLatin1_aae02 14 = .ok (.goto 4, 3) := by decide +kernel
theorem dJi18 : decode cJ0_isLatin1_aae02 18 = .ok (.ireturn, 1) := by decide +kernel
theorem dJc0 : decode cJ0_charAt_5068e 0 = .ok (.aload_n 0, 1) := by decide +kernel
theorem dJc1 : decode cJ0_charAt_5068e 1 = .ok (.invokevirtual 492, 3) := by decide +kernel
theorem dJc4 : decode cJ0_charAt_5068e 4 = .ok (.ifCond .eq 12, 3) := by decide +kernel
theorem dJc7 : decode cJ0_charAt_5068e 7 = .ok (.aload_n 0, 1) := by decide +kernel
theorem dJc8 : decode cJ0_charAt_5068e 8 = .ok (.getfield 9, 3) := by decide +kernel
theorem dJc11 : decode cJ0_charAt_5068e 11 = .ok (.iload_n 1, 1) := by decide +kernel
theorem dJc12 : decode cJ0_charAt_5068e 12 = .ok (.invokestatic 495, 3) := by decide +kernel
theorem dJc15 : decode cJ0_charAt_5068e 15 = .ok (.ireturn, 1) := by decide +kernel
theorem dJx0 : decode cJ0_checkIndex_df160 0 = .ok (.iload_n 0, 1) := by decide +kernel
theorem dJx1 : decode cJ0_checkIndex_df160 1 = .ok (.iload_n 1, 1) := by decide +kernel
theorem dJx2 : decode cJ0_checkIndex_df160 2 = .ok (.getstatic 1053, 3) := by decide +kernel
theorem dJx5 : decode cJ0_checkIndex_df160 5 = .ok (.invokestatic 1059, 3) := by decide +kernel
theorem dJx8 : decode cJ0_checkIndex_df160 8 = .ok (.pop, 1) := by decide +kernel
theorem dJx9 : decode cJ0_checkIndex_df160 9 = .ok (.return_, 1) := by decide +kernel
theorem dJL0 : decode cJ1_charAt_3b067 0 = .ok (.iload_n 1, 1) := by decide +kernel
theorem dJL1 : decode cJ1_charAt_3b067 1 = .ok (.aload_n 0, 1) := by decide +kernel
theorem dJL2 : decode cJ1_charAt_3b067 2 = .ok (.arraylength, 1) := by decide +kernel
theorem dJL3 : decode cJ1_charAt_3b067 3 = .ok (.invokestatic 9, 3) := by decide +kernel
theorem dJL6 : decode cJ1_charAt_3b067 6 = .ok (.aload_n 0, 1) := by decide +kernel
theorem dJL7 : decode cJ1_charAt_3b067 7 = .ok (.iload_n 1, 1) := by decide +kernel
theorem dJL8 : decode cJ1_charAt_3b067 8 = .ok (.baload, 1) := by decide +kernel
theorem dJL9 : decode cJ1_charAt_3b067 9 = .ok (.sipush 255, 3) := by decide +kernel
theorem dJL12 : decode cJ1_charAt_3b067 12 = .ok (.iand, 1) := by decide +kernel
theorem dJL13 : decode cJ1_charAt_3b067 13 = .ok (.i2c, 1) := by decide +kernel
theorem dJL14 : decode cJ1_charAt_3b067 14 = .ok (.ireturn, 1) := by decide +kernel
theorem dJp0 : decode cJ3_checkIndex_8e157 0 = .ok (.iload_n 0, 1) := by decide +kernel
theorem dJp1 : decode cJ3_checkIndex_8e157 1 = .ok (.ifCond .lt 8, 3) := by decide +kernel
theorem dJp4 : decode cJ3_checkIndex_8e157 4 = .ok (.iload_n 0, 1) := by decide +kernel
theorem dJp5 : decode cJ3_checkIndex_8e157 5 = .ok (.iload_n 1, 1) := by decide +kernel
theorem dJp6 : decode cJ3_checkIndex_8e157 6 = .ok (.if_icmp .lt 10, 3) := by decide +kernel
theorem dJp16 : decode cJ3_checkIndex_8e157 16 = .ok (.iload_n 0, 1) := by decide +kernel
theorem dJp17 : decode cJ3_checkIndex_8e157 17 = .ok (.ireturn, 1) := by decide +kernel
theorem mdJ_coder : zmdJ yJ0_coder_7d493 cJ0_coder_7d493 1 (some .byte) := ⟨zmk3 134 (by decide +kernel), zmk1 17 (by decide +kernel), by decide +kernel, by decide +kernel, by decide +kernel, by decide +kernel⟩
theorem mdJ_length : zmdJ yJ0_length_8abf5 cJ0_length_8abf5 1 (some .int) := ⟨zmk3 130 (by decide +kernel), zmk1 17 (by decide +kernel), by decide +kernel, by decide +kernel, by decide +kernel, by decide +kernel⟩
theorem mdJ_isLatin1 : zmdJ yJ0_isLatin1_aae02 cJ0_isLatin1_aae02 1 (some .boolean) := ⟨zmk3 144 (by decide +kernel), zmk1 17 (by decide +kernel), by decide +kernel, by decide +kernel, by decide +kernel, by decide +kernel⟩
theorem mdJ_charAt : zmdJ yJ0_charAt_5068e cJ0_charAt_5068e 2 (some .char) := ⟨zmk3 140 (by decide +kernel), zmk1 17 (by decide +kernel), by decide +kernel, by decide +kernel, by decide +kernel, by decide +kernel⟩
theorem mdJ_check : zmdJ yJ0_checkIndex_df160 cJ0_checkIndex_df160 2 none := ⟨zmk3 150 (by decide +kernel), zmk1 17 (by decide +kernel), by decide +kernel, by decide +kernel, by decide +kernel, by decide +kernel⟩
theorem mdJ_latin : zmdJ yJ1_charAt_3b067 cJ1_charAt_3b067 2 (some .char) := ⟨zmk3 147 (by decide +kernel), zmk1 18 (by decide +kernel), by decide +kernel, by decide +kernel, by decide +kernel, by decide +kernel⟩
theorem mdJ_pre : zmdJ yJ3_checkIndex_8e157 cJ3_checkIndex_8e157 3 (some .int) := ⟨zmk3 155 (by decide +kernel), zmk1 19 (by decide +kernel), by decide +kernel, by decide +kernel, by decide +kernel, by decide +kernel⟩
theorem zC_coder {l : Launch} {G : zG} {h : zH} {t : Nat} (ht : t < 5) : zCall l G (yJ0_coder_7d493, cJ0_coder_7d493, 1, some .byte, 0, 0) 1 [.ref (zga G t)] h (zJQ h (some (.int 0))) := by
  refine zJE _ _ _ _ 1 _ h _ (by decide +kernel) [some (.ref (zga G t))] rfl (Nat.le_refl 1) fun p e s m args below meth c Z ex eb eown hR efl hml kr kv ls hl => ?_
  have eown : s.vm.findClass "java/lang/String" = some m.cls := eown
  have E := hR.2.1.2.1.2.1
  have C := hR.2.1.2.1.2.2.1
  refine va_gets ex eb C va_S.rf eown (zuse hR.1 (zmk3 135 (by decide +kernel)) rfl) (fun _ h => h) dJk0 ?_
  refine lv_if_eq ex eb dJk3 (show ((3 : Nat) : Int) + 10 = ((13 : Nat) : Int) by decide) (fun q => absurd q (by decide)) (fun _ => ?_)
  refine lv_aload_n ex eb dJk6 rfl (hl.2.2 0 _ rfl) ?_
  refine vk_getf ex eb (E.1 t ht).2.1 va_S.rf eown (zuse hR.1 (zmk8 106 (by decide +kernel)) rfl) (fun _ h => h) dJk7 ?_
  refine lv_goto ex eb dJk10 (show ((10 : Nat) : Int) + 4 = ((14 : Nat) : Int) by decide) ?_
  exact kr 0 .byte _ _ 14 ls rfl rfl ⟨rfl, rfl⟩ hR va_S.rf dJk14
theorem zC_isLatin1 {l : Launch} {G : zG} {h : zH} {t : Nat} (ht : t < 5) : zCall l G (yJ0_isLatin1_aae02, cJ0_isLatin1_aae02, 1, some .boolean, 0, 0) 1 [.ref (zga G t)] h (zJQ h (some (.int 1))) := by
  refine zJE _ _ _ _ 1 _ h _ (by decide +kernel) [some (.ref (zga G t))] rfl (Nat.le_refl 1) fun p e s m args below meth c Z ex eb eown hR efl hml kr kv ls hl => ?_
  have eown : s.vm.findClass "java/lang/String" = some m.cls := eown
  have E := hR.2.1.2.1.2.1
  have C := hR.2.1.2.1.2.2.1
  refine va_gets ex eb C va_S.rf eown (zuse hR.1 (zmk3 135 (by decide +kernel)) rfl) (fun _ h => h) dJi0 ?_
  refine lv_if_eq ex eb dJi3 (show ((3 : Nat) : Int) + 14 = ((17 : Nat) : Int) by decide) (fun q => absurd q (by decide)) (fun _ => ?_)
  refine lv_aload_n ex eb dJi6 rfl (hl.2.2 0 _ rfl) ?_
  refine vk_getf ex eb (E.1 t ht).2.1 va_S.rf eown (zuse hR.1 (zmk8 106 (by decide +kernel)) rfl) (fun _ h => h) dJi7 ?_
  refine lv_if_ne ex eb dJi10 (show ((10 : Nat) : Int) + 7 = ((17 : Nat) : Int) by decide) (fun q => absurd rfl q) (fun _ => ?_)
  refine lv_iconst ex eb dJi13 (show Int32.ofInt 1 = 1 by rfl) ?_
  refine lv_goto ex eb dJi14 (show ((14 : Nat) : Int) + 4 = ((18 : Nat) : Int) by decide) ?_
  exact kr 1 .boolean _ _ 18 ls rfl rfl ⟨rfl, rfl⟩ hR va_S.rf dJi18
theorem zlen_sh : ∀ t, t < 5 → nI (ztl t) >>> ((0 : Int32) &&& 31) = nI (ztl t) := by decide
theorem zC_length {l : Launch} {G : zG} {h : zH} {t : Nat} (ht : t < 5) : zCall l G (yJ0_length_8abf5, cJ0_length_8abf5, 1, some .int, 0, 0) 2 [.ref (zga G t)] h (zJQ h (some (.int (nI (ztl t))))) := by
  refine zJE _ _ _ _ 2 _ h _ (by decide +kernel) [some (.ref (zga G t))] rfl (Nat.le_refl 1) fun p e s m args below meth c Z ex eb eown hR efl hml kr kv ls hl => ?_
  have eown : s.vm.findClass "java/lang/String" = some m.cls := eown
  have E := hR.2.1.2.1.2.1
  refine lv_aload_n ex eb dJl0 rfl (hl.2.2 0 _ rfl) ?_
  refine vk_getf ex eb (E.1 t ht).2.2.1 va_S.rf eown (zuse hR.1 (zmk8 105 (by decide +kernel)) rfl) (fun _ h => h) dJl1 ?_
  refine va_tlen ex eb (E.1 t ht).2.2.2 va_S.rf (show Int32.ofNat (zlen.getD t 0) = nI (ztl t) from rfl) dJl4 ?_
  refine lv_aload_n ex eb dJl5 rfl (hl.2.2 0 _ rfl) ?_
  refine zJV (mm := 0) (as := []) (r := [.int (nI (ztl t))]) (v := some (.int 0)) (d := 2) yJ0_coder_7d493 cJ0_coder_7d493 1 (some .byte) ex eb eown efl (by omega) (Nat.le_refl 2) (Nat.le_refl _) (Nat.le_refl 0) (Nat.le_refl 0) mdJ_coder (zmk3 131 (by decide +kernel)) (by decide +kernel) (zmk3 132 (by decide +kernel)) (zmk3 133 (by decide +kernel)) (vk_recv E ht va_S.rf) (zC_coder ht) rfl hR va_S.rf (show 1 + 0 ≤ 8 by omega) (hl.1.trans hml.symm) dJl6 fun H1 locs1 hR1 hS1 => ?_
  refine lv_ishr ex eb dJl9 ?_
  exact kr _ .int H1 locs1 10 ls rfl rfl ⟨by rw [zlen_sh t ht], rfl⟩ hR1 hS1 dJl10
theorem zC_pre {l : Launch} {G : zG} {h : zH} {i n : Int32} {f : Option Nat} (h0 : ¬ i < 0) (h1 : i < n) : zCall l G (yJ3_checkIndex_8e157, cJ3_checkIndex_8e157, 3, some .int, 0, 0) 1 [.int i, .int n, va_rf f] h (zJQ h (some (.int i))) := by
  refine zJE _ _ _ _ 1 _ h _ (by decide +kernel) [some (.int i), some (.int n), some (va_rf f)] (by cases f <;> rfl) (by cases f <;> exact Nat.le_refl 3) fun p e s m args below meth c Z ex eb eown hR efl hml kr kv ls hl => ?_
  refine lv_iload_n ex eb dJp0 rfl (hl.2.2 0 _ rfl) ?_
  refine lv_if_lt ex eb dJp1 (show ((1 : Nat) : Int) + 8 = ((9 : Nat) : Int) by decide) (fun q => absurd q h0) (fun _ => ?_)
  refine lv_iload_n ex eb dJp4 rfl (hl.2.2 0 _ rfl) ?_
  refine lv_iload_n ex eb dJp5 rfl (hl.2.2 1 _ rfl) ?_
  refine lv_icmp_lt ex eb dJp6 (show ((6 : Nat) : Int) + 10 = ((16 : Nat) : Int) by decide) (fun _ => ?_) (fun q => absurd h1 q)
  refine lv_iload_n ex eb dJp16 rfl (hl.2.2 0 _ rfl) ?_
  exact kr i .int _ _ 17 ls rfl rfl ⟨rfl, rfl⟩ hR va_S.rf dJp17
theorem zC_check {l : Launch} {G : zG} {h : zH} {i n : Int32} (h0 : ¬ i < 0) (h1 : i < n) : zCall l G (yJ0_checkIndex_df160, cJ0_checkIndex_df160, 2, none, 0, 0) 2 [.int i, .int n] h (zJQ h none) := by
  refine zJE _ _ _ _ 2 _ h _ (by decide +kernel) [some (.int i), some (.int n)] rfl (Nat.le_refl 2) fun p e s m args below meth c Z ex eb eown hR efl hml kr kv ls hl => ?_
  have eown : s.vm.findClass "java/lang/String" = some m.cls := eown
  have K := hR.2.1.2.1.2.2.2
  refine lv_iload_n ex eb dJx0 rfl (hl.2.2 0 _ rfl) ?_
  refine lv_iload_n ex eb dJx1 rfl (hl.2.2 1 _ rfl) ?_
  have fin : ∀ f : Option Nat, W p l e (zRm 2 0 0) s m args below meth c s.heap [] 0 0 Z (F0 m 5 ls [va_rf f, .int n, .int i]) := fun f => by
    refine zJS (mm := 3) (as := [.int i, .int n, va_rf f]) (r := []) (v := some (.int i)) (d := 2) yJ3_checkIndex_8e157 cJ3_checkIndex_8e157 3 (some .int) ex eb eown efl (by omega) (Nat.le_refl 2) (Nat.le_refl _) (Nat.le_refl 0) (Nat.le_refl 0) mdJ_pre (zmk3 153 (by decide +kernel)) (by decide +kernel) (zmk3 154 (by decide +kernel)) (zC_pre h0 h1) rfl hR va_S.rf (show 0 ≤ 8 by omega) (hl.1.trans hml.symm) dJx5 fun H1 locs1 hR1 hS1 => ?_
    refine lv_pop ex eb dJx8 rfl ?_
    exact kv H1 locs1 9 ls rfl ⟨rfl, rfl⟩ hR1 hS1 dJx9
  rcases K with K | ⟨t, K⟩
  · exact va_gets ex eb K va_S.rf eown (zuse hR.1 (zmk3 151 (by decide +kernel)) rfl) (fun _ h => h) dJx2 (fin none)
  · exact va_gets ex eb K va_S.rf eown (zuse hR.1 (zmk3 151 (by decide +kernel)) rfl) (fun _ h => h) dJx2 (fin (some t))
theorem zin_n {i : Int32} {n : Nat} (h : zin i n) (hn : n < 100) : ∃ k, k < n ∧ i = nI k := by
  unfold zin at h
  have h1 := Int32.le_iff_toInt_le.mp h.1
  refine ⟨i.toNatClampNeg, h.2, ?_⟩
  apply Int32.toInt_inj.mp
  rw [nI_toInt (by omega)]
  have : i.toInt = (i.toInt.toNat : Int) := by
    have h3 : (0 : Int32).toInt = 0 := rfl
    omega
  exact this
theorem ztc_i2c : ∀ t, t < 5 → ∀ i, i < 5 → i < ztl t → ((ztc t i &&& (Int16.ofInt 255).toInt32).toUInt32 % 65536).toInt32 = ztc t i ∧ narrow .char (.int (ztc t i)) = .int (ztc t i) := by decide
theorem ztl_5 : ∀ t, t < 5 → ztl t ≤ 5 := by decide
theorem zC_latin {l : Launch} {G : zG} {h : zH} {t k : Nat} (ht : t < 5) (hk : k < ztl t) : zCall l G (yJ1_charAt_3b067, cJ1_charAt_3b067, 2, some .char, 0, 0) 3 [.ref (zgv G t), .int (nI k)] h (zJQ h (some (.int (ztc t k)))) := by
  have h5 := ztl_5 t ht
  obtain ⟨c1, c2⟩ := ztc_i2c t ht k (by omega) hk
  refine zJE _ _ _ _ 3 _ h _ (by decide +kernel) [some (.ref (zgv G t)), some (.int (nI k))] rfl (Nat.le_refl 2) fun p e s m args below meth c Z ex eb eown hR efl hml kr kv ls hl => ?_
  have eown : s.vm.findClass "java/lang/StringLatin1" = some m.cls := eown
  have E := hR.2.1.2.1.2.1
  refine lv_iload_n ex eb dJL0 rfl (hl.2.2 1 _ rfl) ?_
  refine lv_aload_n ex eb dJL1 rfl (hl.2.2 0 _ rfl) ?_
  refine va_tlen ex eb (E.1 t ht).2.2.2 va_S.rf (show Int32.ofNat (zlen.getD t 0) = nI (ztl t) from rfl) dJL2 ?_
  refine zJS (mm := 2) (as := [.int (nI k), .int (nI (ztl t))]) (r := []) (v := none) (d := 3) yJ0_checkIndex_df160 cJ0_checkIndex_df160 2 none ex eb eown efl (by omega) (Nat.le_refl 3) (Nat.le_refl _) (Nat.le_refl 0) (Nat.le_refl 0) mdJ_check (zmk3 148 (by decide +kernel)) (by decide +kernel) (zmk3 149 (by decide +kernel)) (zC_check (nI_pos (by omega)) (nI_lt hk (by omega))) rfl hR va_S.rf (show 0 ≤ 8 by omega) (hl.1.trans hml.symm) dJL3 fun H1 locs1 hR1 hS1 => ?_
  refine lv_aload_n ex eb dJL6 rfl (hl.2.2 0 _ rfl) ?_
  refine lv_iload_n ex eb dJL7 rfl (hl.2.2 1 _ rfl) ?_
  refine va_tb ex eb (E.1 t ht).2.2.2 hS1 (v := .int (ztc t k)) (show vp_in (nI k) (ztl t) from vp_in_nI hk (by omega)) (by rw [nI_clamp (by omega)]; rfl) dJL8 ?_
  refine lv_sipush ex eb dJL9 rfl ?_
  refine lv_iand ex eb dJL12 ?_
  refine lv_i2c ex eb dJL13 c1 ?_
  exact kr (ztc t k) .char H1 locs1 14 ls rfl c2 ⟨rfl, rfl⟩ hR1 hS1 dJL14
theorem zC_charAt {l : Launch} {G : zG} {h : zH} {t k : Nat} (ht : t < 5) (hk : k < ztl t) : zCall l G (yJ0_charAt_5068e, cJ0_charAt_5068e, 2, some .char, 0, 0) 4 [.ref (zga G t), .int (nI k)] h (zJQ h (some (.int (ztc t k)))) := by
  have h5 := ztl_5 t ht
  obtain ⟨c1, c2⟩ := ztc_i2c t ht k (by omega) hk
  refine zJE _ _ _ _ 4 _ h _ (by decide +kernel) [some (.ref (zga G t)), some (.int (nI k))] rfl (Nat.le_refl 2) fun p e s m args below meth c Z ex eb eown hR efl hml kr kv ls hl => ?_
  have eown : s.vm.findClass "java/lang/String" = some m.cls := eown
  have E := hR.2.1.2.1.2.1
  refine lv_aload_n ex eb dJc0 rfl (hl.2.2 0 _ rfl) ?_
  refine zJV (mm := 0) (as := []) (r := []) (v := some (.int 1)) (d := 4) yJ0_isLatin1_aae02 cJ0_isLatin1_aae02 1 (some .boolean) ex eb eown efl (by omega) (Nat.le_refl 4) (Nat.le_refl _) (Nat.le_refl 0) (Nat.le_refl 0) mdJ_isLatin1 (zmk3 141 (by decide +kernel)) (by decide +kernel) (zmk3 142 (by decide +kernel)) (zmk3 143 (by decide +kernel)) (vk_recv E ht va_S.rf) (zCall.up (zC_isLatin1 ht) (by omega)) rfl hR va_S.rf (show 0 ≤ 8 by omega) (hl.1.trans hml.symm) dJc1 fun H1 locs1 hR1 hS1 => ?_
  refine lv_if_eq ex eb dJc4 (show ((4 : Nat) : Int) + 12 = ((16 : Nat) : Int) by decide) (fun q => absurd q (by decide)) (fun _ => ?_)
  refine lv_aload_n ex eb dJc7 rfl (hl.2.2 0 _ rfl) ?_
  refine vk_getf ex eb (E.1 t ht).2.2.1 hS1 eown (zuse hR.1 (zmk8 105 (by decide +kernel)) rfl) (fun _ h => h) dJc8 ?_
  refine lv_iload_n ex eb dJc11 rfl (hl.2.2 1 _ rfl) ?_
  refine zJS (mm := 2) (as := [.ref (zgv G t), .int (nI k)]) (r := []) (v := some (.int (ztc t k))) (d := 4) yJ1_charAt_3b067 cJ1_charAt_3b067 2 (some .char) ex eb eown efl (by omega) (Nat.le_refl 4) (Nat.le_refl _) (Nat.le_refl 0) (Nat.le_refl 0) mdJ_latin (zmk3 145 (by decide +kernel)) (by decide +kernel) (zmk3 146 (by decide +kernel)) (zC_latin ht hk) rfl hR1 hS1 (show 0 ≤ 8 by omega) (hl.1.trans hml.symm) dJc12 fun H2 locs2 hR2 hS2 => ?_
  exact kr (ztc t k) .char H2 locs2 15 ls rfl c2 ⟨rfl, rfl⟩ hR2 hS2 dJc15
theorem zml_20 {o n t : Nat} {y : zM} {kd m9 : Nat} (h : zml o n = some (y, t, kd, m9)) : (t = 20 → Cond.methodLink (zRn o) n yJ0_length_8abf5 ∈ lw_tbl) ∧ (t = 21 → Cond.methodLink (zRn o) n yJ0_charAt_5068e ∈ lw_tbl) := by
  match o, h with
  | 0, h => unfold zml zml0 at h; simp only at h; split at h <;> cases h <;> exact ⟨fun e => absurd e (by decide), fun e => absurd e (by decide)⟩
  | 1, h => unfold zml zml1 at h; simp only at h; split at h <;> cases h <;> exact ⟨fun e => absurd e (by decide), fun e => absurd e (by decide)⟩
  | 2, h => unfold zml zml2 at h; simp only at h; split at h <;> cases h <;> exact ⟨fun e => absurd e (by decide), fun e => absurd e (by decide)⟩
  | 3, h => unfold zml zml3 at h; simp only at h; split at h <;> cases h <;> exact ⟨fun e => absurd e (by decide), fun e => absurd e (by decide)⟩
  | 4, h => unfold zml zml4 at h; simp only at h; split at h <;> cases h <;> exact ⟨fun e => absurd e (by decide), fun e => absurd e (by decide)⟩
  | 5, h => unfold zml zml5 at h; simp only at h; split at h <;> cases h <;> exact ⟨fun e => absurd e (by decide), fun e => absurd e (by decide)⟩
  | 6, h => unfold zml zml6 at h; simp only at h; split at h <;> cases h <;> exact ⟨fun e => absurd e (by decide), fun e => absurd e (by decide)⟩
  | 7, h => unfold zml zml7 at h; simp only at h; split at h <;> cases h <;> exact ⟨fun e => absurd e (by decide), fun e => absurd e (by decide)⟩
  | 8, h => unfold zml zml8 at h; simp only at h; split at h <;> cases h <;> first | exact ⟨fun e => absurd e (by decide), fun e => absurd e (by decide)⟩ | exact ⟨fun _ => zmk3 127 (by decide +kernel), fun e => absurd e (by decide)⟩ | exact ⟨fun e => absurd e (by decide), fun _ => zmk3 137 (by decide +kernel)⟩
  | 9, h => unfold zml zml9 at h; simp only at h; split at h <;> cases h <;> exact ⟨fun e => absurd e (by decide), fun e => absurd e (by decide)⟩
  | 10, h => unfold zml zml10 at h; simp only at h; split at h <;> cases h <;> exact ⟨fun e => absurd e (by decide), fun e => absurd e (by decide)⟩
  | 11, h => unfold zml zml11 at h; simp only at h; split at h <;> cases h <;> first | exact ⟨fun e => absurd e (by decide), fun e => absurd e (by decide)⟩ | exact ⟨fun _ => zmk7 6 (by decide +kernel), fun e => absurd e (by decide)⟩ | exact ⟨fun e => absurd e (by decide), fun _ => zmk7 7 (by decide +kernel)⟩
  | 12, h => unfold zml zml12 at h; simp only at h; split at h <;> cases h <;> exact ⟨fun e => absurd e (by decide), fun e => absurd e (by decide)⟩
  | n + 13, h => simp [zml] at h
theorem zstr_len {p : Program} {l : Launch} {e : Env} {R : Room} {s0 : State} {m : MethodId} {args : Array Value} {below : List Frame} {meth : Method} {cd : Code} {Z : State → Prop} {G : zG} {o n : Nat} {ini : Bool} {cc : ByteArray} {ret : Option FieldType} {d : Nat} {Q : zO → zH → Prop} {y : zM} {t kd m9 : Nat} {pc a c s : Nat} {r : List Value} {h : zH} {H : Heap} {locs : List Loc} {cells slots : Nat} {ls : Array Slot} {lv : List (Option Value)}
    (hX : zOk l G o ini cc ret d Q (p, e, R, s0, m, args, below, meth, cd, Z)) (hz : zml o n = some (y, t, kd, m9)) (ht : t = 20) (hd : decode cc pc = .ok (.invokevirtual n, 3)) (hd0 : 5 < d) (hK : 300 ≤ zK h a) (hcs : zcs r ≤ 8) (hR : zRp G h s0 H) (hS : va_S (zgA G) s0.heap H locs) (hc : cells + c ≤ R.cells) (hs : slots + s ≤ R.slots) (hl : zhas ls lv) (hL : lv.length = cd.maxLocals)
    (kk : ∀ (H1 : Heap) (locs1 : List Loc), zRp G h s0 H1 → va_S (zgA G) s0.heap H1 locs1 → W p l e R s0 m args below meth cd H1 locs1 cells slots Z (F0 m (pc + 3) ls (.int (nI (ztl (zK h a - 300))) :: r))) : W p l e R s0 m args below meth cd H locs cells slots Z (F0 m pc ls (.ref a :: r)) := by
  obtain ⟨ex, eb, eown, eWt, eWh, eF, eL, -, -, -, -, -, -, efl⟩ := hX
  obtain ⟨u, hu, rfl, hku⟩ := (hR.2.2.1 a).2.2 hK
  rw [hku, show 300 + u - 300 = u by omega] at kk
  exact zJV (mm := 0) (as := []) (r := r) (v := some (.int (nI (ztl u)))) (d := d) yJ0_length_8abf5 cJ0_length_8abf5 1 (some .int) ex eb eown efl (by omega) eF eL (by omega) (by omega) mdJ_length ((zml_20 hz).1 ht) (by decide +kernel) (zmk3 128 (by decide +kernel)) (zmk3 129 (by decide +kernel)) (vk_recv eWh.2.1.2.1 hu hS) (zCall.up (zC_length hu) (by omega)) rfl hR hS hcs (hl.1.trans hL) hd kk
theorem zstr_at {p : Program} {l : Launch} {e : Env} {R : Room} {s0 : State} {m : MethodId} {args : Array Value} {below : List Frame} {meth : Method} {cd : Code} {Z : State → Prop} {G : zG} {o n : Nat} {ini : Bool} {cc : ByteArray} {ret : Option FieldType} {d : Nat} {Q : zO → zH → Prop} {y : zM} {t kd m9 : Nat} {pc a c s : Nat} {i : Int32} {r : List Value} {h : zH} {H : Heap} {locs : List Loc} {cells slots : Nat} {ls : Array Slot} {lv : List (Option Value)}
    (hX : zOk l G o ini cc ret d Q (p, e, R, s0, m, args, below, meth, cd, Z)) (hz : zml o n = some (y, t, kd, m9)) (ht : t = 21) (hd : decode cc pc = .ok (.invokevirtual n, 3)) (hd0 : 5 < d) (hK : 300 ≤ zK h a) (hi : zin i (ztl (zK h a - 300))) (hcs : zcs r ≤ 8) (hR : zRp G h s0 H) (hS : va_S (zgA G) s0.heap H locs) (hc : cells + c ≤ R.cells) (hs : slots + s ≤ R.slots) (hl : zhas ls lv) (hL : lv.length = cd.maxLocals)
    (kk : ∀ (H1 : Heap) (locs1 : List Loc), zRp G h s0 H1 → va_S (zgA G) s0.heap H1 locs1 → W p l e R s0 m args below meth cd H1 locs1 cells slots Z (F0 m (pc + 3) ls (.int (ztc (zK h a - 300) i.toNatClampNeg) :: r))) : W p l e R s0 m args below meth cd H locs cells slots Z (F0 m pc ls (.int i :: .ref a :: r)) := by
  obtain ⟨ex, eb, eown, eWt, eWh, eF, eL, -, -, -, -, -, -, efl⟩ := hX
  obtain ⟨u, hu, rfl, hku⟩ := (hR.2.2.1 a).2.2 hK
  rw [hku, show 300 + u - 300 = u by omega] at kk hi
  have h5 := ztl_5 u hu
  obtain ⟨k, hk, rfl⟩ := zin_n hi (by omega)
  rw [nI_clamp (by omega)] at kk
  exact zJV (mm := 1) (as := [.int (nI k)]) (r := r) (v := some (.int (ztc u k))) (d := d) yJ0_charAt_5068e cJ0_charAt_5068e 2 (some .char) ex eb eown efl (by omega) eF eL (by omega) (by omega) mdJ_charAt ((zml_20 hz).2 ht) (by decide +kernel) (zmk3 138 (by decide +kernel)) (zmk3 139 (by decide +kernel)) (vk_recv eWh.2.1.2.1 hu hS) (zCall.up (zC_charAt hu hk) (by omega)) rfl hR hS hcs (hl.1.trans hL) hd kk
