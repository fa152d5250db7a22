theorem zs_multianewarray {l : Launch} {G : zG} {o : Nat} {ini : Bool} {cc : ByteArray} {ret : Option FieldType} {d : Nat} {Q : zO → zH → Prop} {X : zX} {len pc : Nat} {k : zC} {lv : List (Option Value)} {st : List Value} {h : zH} {c s : Nat} {i9 dm : Nat} (hX : zOk l G o ini cc ret d Q X) (hk : ∀ pc lv st h c s, k pc lv st h c s → zJ l G X pc lv st h c s) (hd : decode cc pc = .ok (.multianewarray i9 dm, len)) (z : zw l G o ini cc ret d Q (.multianewarray i9 dm) len pc k lv st h c s) : zJ l G X pc lv st h c s := sorry
theorem zw_sound {l : Launch} {G : zG} {o : Nat} {ini : Bool} {cc : ByteArray} {ret : Option FieldType} {d : Nat} {Q : zO → zH → Prop} {X : zX} {len pc : Nat} {k : zC} {lv : List (Option Value)} {st : List Value} {h : zH} {c s : Nat} {i : Instr} (hX : zOk l G o ini cc ret d Q X) (hk : ∀ pc lv st h c s, k pc lv st h c s → zJ l G X pc lv st h c s) (hd : decode cc pc = .ok (i, len)) (z : zw l G o ini cc ret d Q i len pc k lv st h c s) : zJ l G X pc lv st h c s := by
  cases i with
  | iconst n => exact zs_iconst hX hk hd z
  | bipush n => exact zs_bipush hX hk hd z
  | sipush n => exact zs_sipush hX hk hd z
  | lconst n => exact zs_lconst hX hk hd z
  | aconst_null => exact zs_aconst_null hX hk hd z
  | iload n => exact zs_iload hX hk hd z
  | iload_n n => exact zs_iload_n hX hk hd z
  | lload n => exact zs_lload hX hk hd z
  | lload_n n => exact zs_lload_n hX hk hd z
  | aload n => exact zs_aload hX hk hd z
  | aload_n n => exact zs_aload_n hX hk hd z
  | istore n => exact zs_istore hX hk hd z
  | istore_n n => exact zs_istore_n hX hk hd z
  | lstore n => exact zs_lstore hX hk hd z
  | lstore_n n => exact zs_lstore_n hX hk hd z
  | astore n => exact zs_astore hX hk hd z
  | astore_n n => exact zs_astore_n hX hk hd z
  | iinc n v => exact zs_iinc hX hk hd z
  | iadd => exact zs_iadd hX hk hd z
  | isub => exact zs_isub hX hk hd z
  | imul => exact zs_imul hX hk hd z
  | iand => exact zs_iand hX hk hd z
  | ior => exact zs_ior hX hk hd z
  | ixor => exact zs_ixor hX hk hd z
  | ishl => exact zs_ishl hX hk hd z
  | ishr => exact zs_ishr hX hk hd z
  | iushr => exact zs_iushr hX hk hd z
  | idiv => exact zs_idiv hX hk hd z
  | irem => exact zs_irem hX hk hd z
  | ladd => exact zs_ladd hX hk hd z
  | lmul => exact zs_lmul hX hk hd z
  | ldiv => exact zs_ldiv hX hk hd z
  | lcmp => exact zs_lcmp hX hk hd z
  | i2l => exact zs_i2l hX hk hd z
  | i2b => exact zs_i2b hX hk hd z
  | i2c => exact zs_i2c hX hk hd z
  | l2i => exact zs_l2i hX hk hd z
  | dup => exact zs_dup hX hk hd z
  | pop => exact zs_pop hX hk hd z
  | dup2 => exact zs_dup2 hX hk hd z
  | ifCond cn off => exact zs_ifCond hX hk hd z
  | if_icmp cn off => exact zs_if_icmp hX hk hd z
  | if_acmp cn off => exact zs_if_acmp hX hk hd z
  | goto off => exact zs_goto hX hk hd z
  | tableswitch df lo hi offs => exact zs_tableswitch hX hk hd z
  | getfield n => exact zs_getfield hX hk hd z
  | putfield n => exact zs_putfield hX hk hd z
  | iaload => exact zs_iaload hX hk hd z
  | baload => exact zs_baload hX hk hd z
  | laload => exact zs_laload hX hk hd z
  | aaload => exact zs_aaload hX hk hd z
  | arraylength => exact zs_arraylength hX hk hd z
  | iastore => exact zs_iastore hX hk hd z
  | bastore => exact zs_bastore hX hk hd z
  | lastore => exact zs_lastore hX hk hd z
  | aastore => exact zs_aastore hX hk hd z
  | ldc n => exact zs_ldc hX hk hd z
  | ldc_w n => exact zs_ldc_w hX hk hd z
  | ldc2_w n => exact zs_ldc2_w hX hk hd z
  | new n => exact zs_new hX hk hd z
  | newarray ty => exact zs_newarray hX hk hd z
  | anewarray i9 => exact zs_anewarray hX hk hd z
  | invokevirtual n => exact zs_invokevirtual hX hk hd z
  | invokestatic n => exact zs_invokestatic hX hk hd z
  | invokespecial n => exact zs_invokespecial hX hk hd z
  | ireturn => exact zs_ireturn hX hk hd z
  | lreturn => exact zs_lreturn hX hk hd z
  | areturn => exact zs_areturn hX hk hd z
  | return_ => exact zs_return_ hX hk hd z
  | multianewarray i9 dm => exact zs_multianewarray hX hk hd z
  | _ => exact False.elim z
theorem zb_sound {l : Launch} {G : zG} {o : Nat} {ini : Bool} {cc : ByteArray} {ret : Option FieldType} {d : Nat} {Q : zO → zH → Prop} {X : zX} (hX : zOk l G o ini cc ret d Q X) (stops : List Nat) (K : zC) (hK : ∀ pc lv st h c s, K pc lv st h c s → zJ l G X pc lv st h c s) : ∀ (n : Nat) {pc : Nat} {lv : List (Option Value)} {st : List Value} {h : zH} {c s : Nat}, zb l G o ini cc ret d Q stops K n pc lv st h c s → zJ l G X pc lv st h c s
  | 0, _, _, _, _, _, _, z => hK _ _ _ _ _ _ z
  | n + 1, pc, lv, st, h, c, s, z => by
    rw [zb_s] at z
    cases hd : decode cc pc with
    | error er => rw [hd] at z; exact False.elim z
    | ok q =>
      obtain ⟨i, len⟩ := q
      rw [hd, zm_ok] at z
      refine zw_sound hX (fun pc' lv' st' h' c' s' q => ?_) hd z
      rw [zgo_c] at q
      cases hs : zstp stops pc' with
      | true => rw [hs, if_pos rfl] at q; exact hK _ _ _ _ _ _ q
      | false => rw [hs, if_neg (by decide)] at q; exact zb_sound hX stops K hK n q
def zlvA : List Value → List (Option Value)
  | [] => []
  | v :: vs => if v.category = 2 then some v :: none :: zlvA vs else some v :: zlvA vs
theorem zget_nones : ∀ (n i : Nat), zget (List.replicate n none) i = none
  | 0, _ => rfl
  | _ + 1, 0 => rfl
  | n + 1, i + 1 => zget_nones n i
theorem zlvA_mem (n : Nat) : ∀ (vs : List Value) (k i : Nat) (v : Value), zget (zlvA vs ++ List.replicate n none) i = some v → (k + i, v) ∈ lv_args k vs
  | [], k, i, v, h => by
    rw [show zlvA [] ++ List.replicate n none = List.replicate n none from rfl, zget_nones] at h
    cases h
  | x :: xs, k, i, v, h => by
    unfold zlvA at h
    unfold lv_args
    by_cases hc : x.category = 2
    · rw [if_pos hc] at h
      simp only [hc]
      match i, h with
      | 0, h => cases h; exact List.mem_cons_self
      | 1, h => cases h
      | i + 2, h =>
        have := zlvA_mem n xs (k + 2) i v h
        rw [show k + 2 + i = k + (i + 2) by omega] at this
        exact List.mem_cons_of_mem _ this
    · rw [if_neg hc] at h
      have h1 : x.category = 1 := (lv_cat x).resolve_right hc
      simp only [h1]
      match i, h with
      | 0, h => cases h; exact List.mem_cons_self
      | i + 1, h =>
        have := zlvA_mem n xs (k + 1) i v h
        rw [show k + 1 + i = k + (i + 1) by omega] at this
        exact List.mem_cons_of_mem _ this
theorem zlvA_len : ∀ vs : List Value, (zlvA vs).length = (lg_sl vs).length
  | [] => rfl
  | x :: xs => by
    have e : lg_sl (x :: xs) = (if x.category = 2 then [.val x, .second] else [.val x]) ++ lg_sl xs := by simp [lg_sl]
    rw [e]
    unfold zlvA
    by_cases hc : x.category = 2
    · rw [if_pos hc, if_pos hc]
      simp [zlvA_len xs]
    · rw [if_neg hc, if_neg hc]
      simp [zlvA_len xs]
/-- a method by its body -/
theorem zEnt {l : Launch} {G : zG} (o : Nat) (ini : Bool) (y : zM) (d : Nat) (as : List Value) (h : zH) (Q : zO → zH → Prop) (lv : List (Option Value)) (ho : y.1.cls = zRn o) (hp : plainName y.1.cls = true) (hini : ini = true → y.1.name = "<init>")
    (hlv : zlvA as ++ List.replicate (y.2.2.1 - (zlvA as).length) none = lv) (hn : (zlvA as).length ≤ y.2.2.1)
    (k : ∀ X, zOk l G o ini y.2.1 y.2.2.2.1 d Q X → zJ l G X 0 lv [] h y.2.2.2.2.1 y.2.2.2.2.2) : zCall l G y d as h Q := by
  intro hfl
  refine ⟨d, Nat.le_refl _, vx_ofW hp rfl fun p e s m args below meth c s₁ B hml hex hv => ?_⟩
  obtain ⟨hargs, hR⟩ := hv
  subst hargs
  have hown : s.vm.findClass (zRn o) = some m.cls := by rw [← ho]; exact findClass_of_methodNamed B.named
  have hlk := B.notSynchronized
  have hl := lv_entry as (n := y.2.2.1) (by rw [← zlvA_len]; exact hn)
  rw [lg_entry_eq]
  refine k (p, e, zRm d y.2.2.2.2.1 y.2.2.2.2.2, s, m, as.toArray, below, meth, c, vx_MQ below (zQc G Q) (zXC G Q) as.toArray s y.2.2.2.2.1 y.2.2.2.2.2 (zgA G)) ?_ s.heap [] 0 0 _ hR va_S.rf (Nat.le_of_eq (Nat.zero_add _)) (Nat.le_of_eq (Nat.zero_add _)) ⟨?_, hl.2.1, fun i v hi => ?_⟩ ?_
  · refine ⟨B.exec, B.bytes, hown, hR.1, hR.2.1, Nat.le_refl _, Nat.le_refl _, hex, hlk, fun hi => ((name_of_methodNamed B.named B.method).1).trans (hini hi), ?_, ?_, ?_, hfl⟩
    · intro v h' H locs cells slots ls pc st hQ hR' hS hc hs hrp
      refine W.widen (k := y.2.2.2.2.1) (n := y.2.2.2.2.2) hc hs (vx_ret ?_)
      rcases hrp with ⟨hd, x, rfl, rfl, hr | ⟨hr, hx⟩⟩ | ⟨hd, rfl, rfl, hr⟩ | ⟨hd, x, rfl, rfl, hr⟩ | ⟨hd, x, rfl, rfl, C, hr⟩
      · exact W.iret B.exec B.bytes (B.returns.trans hr) (fun t ht _ => ⟨⟨_, h', rfl, hQ, by rw [ht]; exact hR'.2.2⟩, hS.F ht⟩) hS.2.2 hd hlk
      · exact W.zret B.exec B.bytes (B.returns.trans hr) (by rcases hx with rfl | rfl <;> rfl) (fun t ht _ => ⟨⟨_, h', rfl, hQ, by rw [ht]; exact hR'.2.2⟩, hS.F ht⟩) hS.2.2 hd hlk
      · exact W.vret B.exec B.bytes (B.returns.trans hr) (fun t ht _ => ⟨⟨_, h', rfl, hQ, by rw [ht]; exact hR'.2.2⟩, hS.F ht⟩) hS.2.2 hd hlk
      · exact W.lret B.exec B.bytes (B.returns.trans hr) (fun t ht _ => ⟨⟨_, h', rfl, hQ, by rw [ht]; exact hR'.2.2⟩, hS.F ht⟩) hS.2.2 hd hlk
      · exact W.aret B.exec B.bytes (B.returns.trans hr) (Or.inl ⟨C, rfl⟩) (by cases x with
          | none => exact Or.inl rfl
          | some a => exact Or.inr ⟨a, rfl⟩) (fun t ht _ => ⟨⟨_, h', rfl, hQ, by rw [ht]; exact hR'.2.2⟩, hS.F ht⟩) hS.2.2 hd hlk
    · intro E ce q h' H locs cells slots ls pc st hQ hR' hS hc hs hce hcv hcl
      exact vx_out (fun x hx => (hex x hx).elim) hlk hce hcv hcl (fun t ht _ => ⟨⟨h', hQ, by rw [ht]; exact hR'.2.2⟩, hS.F ht⟩) hS.2.2 hc hs
    · intro E ik ic h' H locs cells slots ls pc st hzx d0 d3 d4 d7 hQ hR' hS hc hs hd hst hsz
      obtain ⟨rfl, hk, hin, hfit, hat⟩ := zxc_ok hzx
      unfold zcs at hst
      refine vx_throw0 (own := RX10) (cls := E) (names := ["java/lang/RuntimeException", "java/lang/Exception"]) (A := zgA G) B.exec B.bytes hfl hown hfit (by decide +kernel) (zuse hR.1 hk rfl) (zuse hR.1 hin rfl) (fun w hw => zuse hR.1 (hat w hw).1 (hat w hw).2) ?_ hR.2.1.2.2.1 hR.2.1.2.2.2.1 hS hsz d0 d3 d4 d7 (fun x hx => (hex x hx).elim) (show 2 + 3 < d by omega) (show _ + (13 * (2 + 1) + 42) ≤ 31 * d by omega) hc hs hlk (fun t hal hz ho => ?_) hS.2.2 hc hs
      · intro w hw
        have : w.onTables = true := by
          rcases List.mem_cons.mp hw with rfl | hw
          · rfl
          rcases List.mem_cons.mp hw with rfl | hw
          · rfl
          exact zok_tab (hat w hw).2
        unfold vx_ot
        rw [this]
        rfl
      · refine ⟨⟨zsS h' none, hQ, ⟨fun a => ?_, fun n hn => absurd (show (none : Option Nat) = some n from hn) (by simp), fun t ht => hR'.2.2.2.2 t ht⟩⟩, ⟨Nat.le_trans hS.1 hz, fun q h1 h2 => (ho q (Nat.lt_of_lt_of_le h1 hS.1)).trans (hS.2.1 q h1 h2)⟩⟩
        obtain ⟨s1, s2, s3⟩ := hR'.2.2.1 a
        refine ⟨fun g1 g2 => ?_, s2, s3⟩
        obtain ⟨t1, t2⟩ := s1 g1 g2
        exact ⟨t1, va_at.kept (H := H) t2 (ho a t2.lt)⟩
  · rw [hl.1, ← hlv, List.length_append, List.length_replicate]
    omega
  · rw [← hlv] at hi
    have := zlvA_mem _ as 0 i v hi
    rw [Nat.zero_add] at this
    exact hl.2.2 _ this
  · rw [← hlv, List.length_append, List.length_replicate]
    show _ = c.maxLocals
    rw [hml]
    omega
