theorem vM_K (h q n k b) : zK (zmu h q n k) b = if b = q then 104 else if q < b ∧ b ≤ q + n then 100 else zK h b := id rfl
theorem vM_N (h q n k b) : zN (zmu h q n k) b = if b = q then n else if q < b ∧ b ≤ q + n then k else zN h b := id rfl
theorem vM_A (h q n k b j) : zA (zmu h q n k) b j = if q ≤ b ∧ b ≤ q + n then 0 else zA h b j := id rfl
theorem vM_R (h q n k b j) : zR (zmu h q n k) b j = if b = q then (if j < n then some (q + 1 + j) else none) else zR h b j := id rfl
theorem zRp_mu {G : zG} {h : zH} {s : State} {H H1 : Heap} {q n k : Nat} (hR : zRp G h s H) (hq : zS h = some q) (e1 : H1.size = q + 1 + n) (o1 : ∀ x, x < q → H1[x]? = H[x]?) (hat : ∀ b, q ≤ b → b ≤ q + n → va_at (zgD G) vwCl (b, zel G (zmu h q n k) b) H1) : zRp G (zmu h q n k) s H1 := by
  obtain ⟨r1, r2, r3, r4, r5⟩ := hR
  have hz : H.size = q := r4 q hq
  have hb : zgb G ≤ q := by rw [← hz]; exact r2.1
  refine ⟨r1, zWh_kept r2 (by omega) (fun x hx _ => o1 x (by omega)), fun b => ?_, fun m hm => ?_, fun t ht => ?_⟩
  · by_cases e : q ≤ b ∧ b ≤ q + n
    · have hK : zK (zmu h q n k) b = 104 ∨ zK (zmu h q n k) b = 100 := by
        rw [vM_K]
        by_cases e2 : b = q
        · rw [if_pos e2]
          exact Or.inl rfl
        · rw [if_neg e2, if_pos (by omega)]
          exact Or.inr rfl
      refine ⟨fun _ _ => ⟨by omega, hat b e.1 e.2⟩, fun g => ?_, fun g => ?_⟩
      · rcases hK with hK | hK <;> (rw [hK] at g; omega)
      · rcases hK with hK | hK <;> (rw [hK] at g; omega)
    · obtain ⟨s1, s2, s3⟩ := r3 b
      have n1 : ¬ b = q := fun z => e (by omega)
      have n2 : ¬ (q < b ∧ b ≤ q + n) := fun z => e (by omega)
      have hK : zK (zmu h q n k) b = zK h b := by rw [vM_K, if_neg n1, if_neg n2]
      have hN : zN (zmu h q n k) b = zN h b := by rw [vM_N, if_neg n1, if_neg n2]
      have hA : zA (zmu h q n k) b = zA h b := funext fun j => by rw [vM_A, if_neg e]
      have hel : zel G (zmu h q n k) b = zel G h b := zel_of hK hN (fun j => rfl) (fun j => rfl) (fun j => rfl) hA rfl (funext fun j => by rw [vM_R, if_neg n1])
      refine ⟨fun g1 g2 => ?_, fun g => ?_, fun g => ?_⟩
      · rw [hK] at g1 g2
        obtain ⟨t1, t2⟩ := s1 g1 g2
        have hlt := t2.lt
        rw [hel]
        exact ⟨t1, t2.kept (o1 b (by have : b < H.size := hlt; omega))⟩
      · rw [hK] at g
        rw [hN, hA]
        exact s2 g
      · rw [hK] at g ⊢
        exact s3 g
  · have hm : some (q + 1 + n) = some m := hm
    cases hm
    exact e1
  · have hne : ¬ (zga G t = q ∨ (q < zga G t ∧ zga G t ≤ q + n)) := by
      obtain ⟨⟨cell, -, -, -, hna⟩, -⟩ := r2.2.1.2.1.1 t ht
      intro e
      exact hna (by show zgb G ≤ zga G t; omega)
    rw [vM_K, if_neg (fun z => hne (Or.inl z)), if_neg (fun z => hne (Or.inr z))]
    exact r5 t ht
theorem zs_multianewarray {l : Launch} {G : zG} {o : Nat} {ini : Bool} {cc : ByteArray} {ret : Option FieldType} {d : Nat} {Q : zO → zH → Prop} {X : zX} {len pc : Nat} {k : zC} {lv : List (Option Value)} {st : List Value} {h : zH} {c s : Nat} {i9 dm : Nat} (hX : zOk l G o ini cc ret d Q X) (hk : ∀ pc lv st h c s, k pc lv st h c s → zJ l G X pc lv st h c s) (hd : decode cc pc = .ok (.multianewarray i9 dm, len)) (z : zw l G o ini cc ret d Q (.multianewarray i9 dm) len pc k lv st h c s) : zJ l G X pc lv st h c s := by
  obtain ⟨p, e, R, s0, m, args, below, meth, cd, Z⟩ := X
  obtain ⟨ex, eb, eown, eWt, eWh, eF, eL, eX, elk, ein, eret, exo, exn, efl⟩ := hX
  obtain ⟨rfl, rfl, rfl, rfl, z⟩ := z
  obtain ⟨n2, r1, rfl, z2⟩ := zpI_inv z
  obtain ⟨n, r, rfl, q, hq, hn0, hk0, hn6, hk6, hc1, hs1, z1⟩ := zpI_inv z2
  intro H locs cells slots ls hR hS hc hs hl hL
  have hn : ¬ n < 0 := Int32.not_lt.mpr hn0
  have hk2 : ¬ n2 < 0 := Int32.not_lt.mpr hk0
  have hsz : H.size = q := hR.2.2.2.1 q hq
  have hc' : cells + c ≤ R.cells := hc
  have hs' : slots + s ≤ R.slots := hs
  have hty : ∀ kd, kd = 104 ∨ kd = 100 → ∀ comp : ClassId, s0.vm.findClass ("[" ++ (zaty kd).toString) = some comp → comp = zgC G kd := fun kd hkd comp hco => by
    rcases hkd with rfl | rfl
    · have hra := (eWt.1.2 _ _ (ztys_at (k := 104) (by omega) (by omega))).2
      exact Option.some.inj (hco.symm.trans hra)
    · have hra := (eWt.1.2 _ _ (ztys_at (k := 100) (by omega) (by omega))).2
      exact Option.some.inj (hco.symm.trans hra)
  intro T hT Xs
  have hTh : T.heap = H := hT
  obtain ⟨vm₁, cA, comp, -, fA, fC, hO, -, X', step⟩ := Xs.multianewarray2F (ty := .int) (own := zRn 9) (index := 21) ex eown (zuse eWt (zmk1 213 (by decide +kernel)) rfl) (va_AOA.use eWt.2.2.2.2.2.2) (word_at (State.WarmedH.refl s0) (Or.inr ⟨_, rfl⟩) (eWt.2.2.1 _ (by simp))) (g := F0 m pc ls (.int n2 :: .int n :: r)) rfl (by rw [eb]; exact hd) rfl hn hk2 (by omega) (by show n2.toNatClampNeg * 4 ≤ _; omega) (by omega) (by decide) (by decide) (show _ ≤ R.cells by omega) (show _ ≤ R.slots by omega)
  have c1 : cA = zgC G 104 := hty 104 (Or.inl rfl) cA fA
  have c2 : comp = zgC G 100 := hty 100 (Or.inr rfl) comp fC
  subst c1
  subst c2
  generalize hF : Jvm.Free.Multi.fill (T.setVm vm₁) (zgC G 104) (zgC G 100) n.toNatClampNeg n2.toNatClampNeg (defaultValue .int) n.toNatClampNeg = F at X' step
  have hTh2 : (T.setVm vm₁).heap = H := hT
  obtain ⟨f1, f2, -, -⟩ := Jvm.Free.Multi.fill_facts (T.setVm vm₁) (zgC G 104) (zgC G 100) n.toNatClampNeg n2.toNatClampNeg (defaultValue .int) n.toNatClampNeg
  rw [hF, hTh2, hsz] at f1 f2
  have hold : ∀ x : Nat, x < q → F.heap[x]? = H[x]? := fun x hx => by
    have := Jvm.Free.Multi.fill_old (T.setVm vm₁) (zgC G 104) (zgC G 100) n.toNatClampNeg n2.toNatClampNeg (defaultValue .int) (a := x) (by rw [hTh2, hsz]; exact hx) n.toNatClampNeg
    rw [hF, hTh2] at this
    exact this
  have hrow : ∀ j : Nat, j < n.toNatClampNeg → F.heap[q + 1 + j]? = some (Jvm.Free.Multi.innerC (zgC G 100) n2.toNatClampNeg (defaultValue .int)) := fun j hj => by
    have := Jvm.Free.Multi.fill_inner (T.setVm vm₁) (zgC G 104) (zgC G 100) n.toNatClampNeg n2.toNatClampNeg (defaultValue .int) n.toNatClampNeg j hj
    rw [hF, hTh2, hsz] at this
    exact this
  have hRn : zRp G (zmu h q n.toNatClampNeg n2.toNatClampNeg) s0 F.heap := by
    refine zRp_mu hR hq f1 hold (fun b b1 b2 => ?_)
    by_cases eb2 : b = q
    · subst eb2
      have hK : zK (zmu h b n.toNatClampNeg n2.toNatClampNeg) b = 104 := by rw [vM_K, if_pos rfl]
      rw [zel_cell (by rw [hK]; omega), hK, vM_N, if_pos rfl, f2, vr_outer]
      congr 2
      funext j
      rw [zarv_R (by rw [hK]; omega), vM_R, if_pos rfl]
    · have hK : zK (zmu h q n.toNatClampNeg n2.toNatClampNeg) b = 100 := by rw [vM_K, if_neg eb2, if_pos (by omega)]
      have hr := hrow (b - (q + 1)) (by omega)
      rw [show q + 1 + (b - (q + 1)) = b by omega] at hr
      rw [zel_cell (by rw [hK]; omega), hK, vM_N, if_neg eb2, if_pos (by omega), hr]
      unfold Jvm.Free.Multi.innerC
      rw [arrV_new]
      congr 2
      funext j
      rw [zarv_A (by rw [hK]; omega), vM_A, if_pos ⟨b1, b2⟩]
      rfl
  obtain ⟨t, a1, b1⟩ := hk _ _ _ _ _ _ z1 F.heap locs (cells + 1 + n.toNatClampNeg) (slots + n.toNatClampNeg + n.toNatClampNeg * n2.toNatClampNeg) ls hRn ⟨by rw [f1]; have := hS.1; omega, fun x h1 h2 => (hold x (by have := hS.1; omega)).trans (hS.2.1 x h1 h2), hS.2.2⟩ (show _ ≤ R.cells by omega) (show _ ≤ R.slots by omega) hl hL F rfl X'
  refine ⟨t, step t ?_, b1⟩
  rw [hTh, hsz]
  exact a1
theorem zw_sound {l : Launch} {G : zG} {o : Nat} {ini : Bool} {cc : ByteArray} {ret : Option FieldType} {d : Nat} {Q : zO → zH → Prop} {X : zX} {len pc : Nat} {k : zC} {lv : List (Option Value)} {st : List Value} {h : zH} {c s : Nat} {i : Instr} (hX : zOk l G o ini cc ret d Q X) (hk : ∀ pc lv st h c s, k pc lv st h c s → zJ l G X pc lv st h c s) (hd : decode cc pc = .ok (i, len)) (z : zw l G o ini cc ret d Q i len pc k lv st h c s) : zJ l G X pc lv st h c s := by
  cases i with
  | iconst n => exact zs_iconst hX hk hd z
  | bipush n => exact zs_bipush hX hk hd z
  | sipush n => exact zs_sipush hX hk hd z
  | lconst n => exact zs_lconst hX hk hd z
  | aconst_null => exact zs_aconst_null hX hk hd z
  | iload n => exact zs_iload hX hk hd z
  | iload_n n => exact zs_iload_n hX hk hd z
  | lload n => exact zs_lload hX hk hd z
  | lload_n n => exact zs_lload_n hX hk hd z
  | aload n => exact zs_aload hX hk hd z
  | aload_n n => exact zs_aload_n hX hk hd z
  | istore n => exact zs_istore hX hk hd z
  | istore_n n => exact zs_istore_n hX hk hd z
  | lstore n => exact zs_lstore hX hk hd z
  | lstore_n n => exact zs_lstore_n hX hk hd z
  | astore n => exact zs_astore hX hk hd z
  | astore_n n => exact zs_astore_n hX hk hd z
  | iinc n v => exact zs_iinc hX hk hd z
  | iadd => exact zs_iadd hX hk hd z
  | isub => exact zs_isub hX hk hd z
  | imul => exact zs_imul hX hk hd z
  | iand => exact zs_iand hX hk hd z
  | ior => exact zs_ior hX hk hd z
  | ixor => exact zs_ixor hX hk hd z
  | ishl => exact zs_ishl hX hk hd z
  | ishr => exact zs_ishr hX hk hd z
  | iushr => exact zs_iushr hX hk hd z
  | idiv => exact zs_idiv hX hk hd z
  | irem => exact zs_irem hX hk hd z
  | ladd => exact zs_ladd hX hk hd z
  | lmul => exact zs_lmul hX hk hd z
  | ldiv => exact zs_ldiv hX hk hd z
  | lcmp => exact zs_lcmp hX hk hd z
  | i2l => exact zs_i2l hX hk hd z
  | i2b => exact zs_i2b hX hk hd z
  | i2c => exact zs_i2c hX hk hd z
  | l2i => exact zs_l2i hX hk hd z
  | dup => exact zs_dup hX hk hd z
  | pop => exact zs_pop hX hk hd z
  | dup2 => exact zs_dup2 hX hk hd z
  | ifCond cn off => exact zs_ifCond hX hk hd z
  | if_icmp cn off => exact zs_if_icmp hX hk hd z
  | if_acmp cn off => exact zs_if_acmp hX hk hd z
  | goto off => exact zs_goto hX hk hd z
  | tableswitch df lo hi offs => exact zs_tableswitch hX hk hd z
  | getfield n => exact zs_getfield hX hk hd z
  | putfield n => exact zs_putfield hX hk hd z
  | iaload => exact zs_iaload hX hk hd z
  | baload => exact zs_baload hX hk hd z
  | laload => exact zs_laload hX hk hd z
  | aaload => exact zs_aaload hX hk hd z
  | arraylength => exact zs_arraylength hX hk hd z
  | iastore => exact zs_iastore hX hk hd z
  | bastore => exact zs_bastore hX hk hd z
  | lastore => exact zs_lastore hX hk hd z
  | aastore => exact zs_aastore hX hk hd z
  | ldc n => exact zs_ldc hX hk hd z
  | ldc_w n => exact zs_ldc_w hX hk hd z
  | ldc2_w n => exact zs_ldc2_w hX hk hd z
  | new n => exact zs_new hX hk hd z
  | newarray ty => exact zs_newarray hX hk hd z
  | anewarray i9 => exact zs_anewarray hX hk hd z
  | invokevirtual n => exact zs_invokevirtual hX hk hd z
  | invokestatic n => exact zs_invokestatic hX hk hd z
  | invokespecial n => exact zs_invokespecial hX hk hd z
  | ireturn => exact zs_ireturn hX hk hd z
  | lreturn => exact zs_lreturn hX hk hd z
  | areturn => exact zs_areturn hX hk hd z
  | return_ => exact zs_return_ hX hk hd z
  | multianewarray i9 dm => exact zs_multianewarray hX hk hd z
  | _ => exact False.elim z
theorem zb_sound {l : Launch} {G : zG} {o : Nat} {ini : Bool} {cc : ByteArray} {ret : Option FieldType} {d : Nat} {Q : zO → zH → Prop} {X : zX} (hX : zOk l G o ini cc ret d Q X) (stops : List Nat) (K : zC) (hK : ∀ pc lv st h c s, K pc lv st h c s → zJ l G X pc lv st h c s) : ∀ (n : Nat) {pc : Nat} {lv : List (Option Value)} {st : List Value} {h : zH} {c s : Nat}, zb l G o ini cc ret d Q stops K n pc lv st h c s → zJ l G X pc lv st h c s
  | 0, _, _, _, _, _, _, z => hK _ _ _ _ _ _ z
  | n + 1, pc, lv, st, h, c, s, z => by
    rw [zb_s] at z
    cases hd : decode cc pc with
    | error er => rw [hd] at z; exact False.elim z
    | ok q =>
      obtain ⟨i, len⟩ := q
      rw [hd, zm_ok] at z
      refine zw_sound hX (fun pc' lv' st' h' c' s' q => ?_) hd z
      rw [zgo_c] at q
      cases hs : zstp stops pc' with
      | true => rw [hs, if_pos rfl] at q; exact hK _ _ _ _ _ _ q
      | false => rw [hs, if_neg (by decide)] at q; exact zb_sound hX stops K hK n q
/-- a method by its body -/
theorem zEnt {l : Launch} {G : zG} (o : Nat) (ini : Bool) (y : zM) (d : Nat) (as : List Value) (h : zH) (Q : zO → zH → Prop) (lv : List (Option Value)) (ho : y.1.cls = zRn o) (hp : plainName y.1.cls = true) (hini : ini = true → y.1.name = "<init>")
    (hlv : zlvA as ++ List.replicate (y.2.2.1 - (zlvA as).length) none = lv) (hn : (zlvA as).length ≤ y.2.2.1)
    (k : ∀ X, zOk l G o ini y.2.1 y.2.2.2.1 d Q X → zJ l G X 0 lv [] h y.2.2.2.2.1 y.2.2.2.2.2) : zCall l G y d as h Q := by
  intro hfl
  refine ⟨d, Nat.le_refl _, vx_ofW hp rfl fun p e s m args below meth c s₁ B hml hex hv => ?_⟩
  obtain ⟨hargs, hR⟩ := hv
  subst hargs
  have hown : s.vm.findClass (zRn o) = some m.cls := by rw [← ho]; exact findClass_of_methodNamed B.named
  have hlk := B.notSynchronized
  have hl := lv_entry as (n := y.2.2.1) (by rw [← zlvA_len]; exact hn)
  rw [lg_entry_eq]
  refine k (p, e, zRm d y.2.2.2.2.1 y.2.2.2.2.2, s, m, as.toArray, below, meth, c, vx_MQ below (zQc G Q) (zXC G Q) as.toArray s y.2.2.2.2.1 y.2.2.2.2.2 (zgA G)) ?_ s.heap [] 0 0 _ hR va_S.rf (Nat.le_of_eq (Nat.zero_add _)) (Nat.le_of_eq (Nat.zero_add _)) ⟨?_, hl.2.1, fun i v hi => ?_⟩ ?_
  · refine ⟨B.exec, B.bytes, hown, hR.1, hR.2.1, Nat.le_refl _, Nat.le_refl _, trivial, hlk, fun hi => ((name_of_methodNamed B.named B.method).1).trans (hini hi), ?_, ?_, ?_, hfl⟩
    · intro v h' H locs cells slots ls pc st hQ hR' hS hc hs hrp
      refine W.widen (k := y.2.2.2.2.1) (n := y.2.2.2.2.2) hc hs (vx_ret ?_)
      rcases hrp with ⟨hd, x, rfl, rfl, hr | ⟨hr, hx⟩⟩ | ⟨hd, rfl, rfl, hr⟩ | ⟨hd, x, rfl, rfl, hr⟩ | ⟨hd, x, rfl, rfl, C, hr⟩
      · exact W.iret B.exec B.bytes (B.returns.trans hr) (fun t ht _ => ⟨⟨_, h', rfl, hQ, by rw [ht]; exact hR'.2.2⟩, hS.F ht⟩) hS.2.2 hd hlk
      · exact W.zret B.exec B.bytes (B.returns.trans hr) (by rcases hx with rfl | rfl <;> rfl) (fun t ht _ => ⟨⟨_, h', rfl, hQ, by rw [ht]; exact hR'.2.2⟩, hS.F ht⟩) hS.2.2 hd hlk
      · exact W.vret B.exec B.bytes (B.returns.trans hr) (fun t ht _ => ⟨⟨_, h', rfl, hQ, by rw [ht]; exact hR'.2.2⟩, hS.F ht⟩) hS.2.2 hd hlk
      · exact W.lret B.exec B.bytes (B.returns.trans hr) (fun t ht _ => ⟨⟨_, h', rfl, hQ, by rw [ht]; exact hR'.2.2⟩, hS.F ht⟩) hS.2.2 hd hlk
      · exact W.aret B.exec B.bytes (B.returns.trans hr) (Or.inl ⟨C, rfl⟩) (by cases x with
          | none => exact Or.inl rfl
          | some a => exact Or.inr ⟨a, rfl⟩) (fun t ht _ => ⟨⟨_, h', rfl, hQ, by rw [ht]; exact hR'.2.2⟩, hS.F ht⟩) hS.2.2 hd hlk
    · intro E ce q h' H locs cells slots ls pc st hQ hR' hS hc hs hce hcv hcl
      exact vx_out (fun x hx => (hex x hx).elim) hlk hce hcv hcl (fun t ht _ => ⟨⟨h', hQ, by rw [ht]; exact hR'.2.2⟩, hS.F ht⟩) hS.2.2 hc hs
    · intro E ik ic h' H locs cells slots ls pc st hzx d0 d3 d4 d7 hQ hR' hS hc hs hd hst hsz
      obtain ⟨rfl, hk, hin, hfit, hat⟩ := zxc_ok hzx
      unfold zcs at hst
      refine vx_throw0 (own := RX10) (cls := E) (names := ["java/lang/RuntimeException", "java/lang/Exception"]) (A := zgA G) B.exec B.bytes hfl hown hfit (by decide +kernel) (zuse hR.1 hk rfl) (zuse hR.1 hin rfl) (fun w hw => zuse hR.1 (hat w hw).1 (hat w hw).2) ?_ hR.2.1.2.2.1 hR.2.1.2.2.2.1 hS hsz d0 d3 d4 d7 (fun x hx => (hex x hx).elim) (show 2 + 3 < d by omega) (show _ + (13 * (2 + 1) + 42) ≤ 31 * d by omega) hc hs hlk (fun t hal hz ho => ?_) hS.2.2 hc hs
      · intro w hw
        have : w.onTables = true := by
          rcases List.mem_cons.mp hw with rfl | hw
          · rfl
          rcases List.mem_cons.mp hw with rfl | hw
          · rfl
          exact zok_tab (hat w hw).2
        unfold vx_ot
        rw [this]
        rfl
      · refine ⟨⟨zsS h' none, hQ, ⟨fun a => ?_, fun n hn => absurd (show (none : Option Nat) = some n from hn) (by simp), fun t ht => hR'.2.2.2.2 t ht⟩⟩, ⟨Nat.le_trans hS.1 hz, fun q h1 h2 => (ho q (Nat.lt_of_lt_of_le h1 hS.1)).trans (hS.2.1 q h1 h2)⟩⟩
        obtain ⟨s1, s2, s3⟩ := hR'.2.2.1 a
        refine ⟨fun g1 g2 => ?_, s2, s3⟩
        obtain ⟨t1, t2⟩ := s1 g1 g2
        exact ⟨t1, va_at.kept (H := H) t2 (ho a t2.lt)⟩
  · rw [hl.1, ← hlv, List.length_append, List.length_replicate]
    omega
  · rw [← hlv] at hi
    have := zlvA_mem _ as 0 i v hi
    rw [Nat.zero_add] at this
    exact hl.2.2 _ this
  · rw [← hlv, List.length_append, List.length_replicate]
    show _ = c.maxLocals
    rw [hml]
    omega
