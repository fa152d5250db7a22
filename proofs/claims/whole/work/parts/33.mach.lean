/-! THE HALL'S MACHINE, over states -/
theorem zmo_x {h : zH} {ca oa b : Nat} {C O : zcells} (n1 : ¬ b = ca) (n2 : ¬ b = oa) : zA (zmo h ca oa C O) b = zA h b := by
  unfold zmo
  rw [zwr_n _ _ _ n2, zwr_n _ _ _ n1]
theorem aTask_j {B t u : Nat} (e : aTask B t = aTask B u) : t = u := by unfold aTask at e; omega
theorem zms_L (h a ca oa b R) : zL (zms h a ca oa b R) = zL h := by unfold zms zmd zmo; simp only [zS_sS, zS_sI, zS_sL, zS_sP, zS_sA, zS_sB, zS_sR, zS_al, zK_sS, zK_sI, zK_sL, zK_sP, zK_sA, zK_sB, zK_sR, zK_al, zN_sS, zN_sI, zN_sL, zN_sP, zN_sA, zN_sB, zN_sR, zN_al, zI_sS, zI_sI, zI_sL, zI_sP, zI_sA, zI_sB, zI_sR, zI_al, zL_sS, zL_sI, zL_sL, zL_sP, zL_sA, zL_sB, zL_sR, zL_al, zP_sS, zP_sI, zP_sL, zP_sP, zP_sA, zP_sB, zP_sR, zP_al, zA_sS, zA_sI, zA_sL, zA_sP, zA_sA, zA_sB, zA_sR, zA_al, zB_sS, zB_sI, zB_sL, zB_sP, zB_sA, zB_sB, zB_sR, zB_al, zR_sS, zR_sI, zR_sL, zR_sP, zR_sA, zR_sB, zR_sR, zR_al, zsA_wr, zwr_wr, zwr_A, zup_ap, zwr_S, zwr_K, zwr_N, zwr_I, zwr_L, zwr_P, zwr_B, zwr_R, eq_self]
theorem zms_B (h a ca oa b R) : zB (zms h a ca oa b R) = zB h := by unfold zms zmd zmo; simp only [zS_sS, zS_sI, zS_sL, zS_sP, zS_sA, zS_sB, zS_sR, zS_al, zK_sS, zK_sI, zK_sL, zK_sP, zK_sA, zK_sB, zK_sR, zK_al, zN_sS, zN_sI, zN_sL, zN_sP, zN_sA, zN_sB, zN_sR, zN_al, zI_sS, zI_sI, zI_sL, zI_sP, zI_sA, zI_sB, zI_sR, zI_al, zL_sS, zL_sI, zL_sL, zL_sP, zL_sA, zL_sB, zL_sR, zL_al, zP_sS, zP_sI, zP_sL, zP_sP, zP_sA, zP_sB, zP_sR, zP_al, zA_sS, zA_sI, zA_sL, zA_sP, zA_sA, zA_sB, zA_sR, zA_al, zB_sS, zB_sI, zB_sL, zB_sP, zB_sA, zB_sB, zB_sR, zB_al, zR_sS, zR_sI, zR_sL, zR_sP, zR_sA, zR_sB, zR_sR, zR_al, zsA_wr, zwr_wr, zwr_A, zup_ap, zwr_S, zwr_K, zwr_N, zwr_I, zwr_L, zwr_P, zwr_B, zwr_R, eq_self]
theorem zms_S (h a ca oa b R) : zS (zms h a ca oa b R) = zS h := by unfold zms zmd zmo; simp only [zS_sS, zS_sI, zS_sL, zS_sP, zS_sA, zS_sB, zS_sR, zS_al, zK_sS, zK_sI, zK_sL, zK_sP, zK_sA, zK_sB, zK_sR, zK_al, zN_sS, zN_sI, zN_sL, zN_sP, zN_sA, zN_sB, zN_sR, zN_al, zI_sS, zI_sI, zI_sL, zI_sP, zI_sA, zI_sB, zI_sR, zI_al, zL_sS, zL_sI, zL_sL, zL_sP, zL_sA, zL_sB, zL_sR, zL_al, zP_sS, zP_sI, zP_sL, zP_sP, zP_sA, zP_sB, zP_sR, zP_al, zA_sS, zA_sI, zA_sL, zA_sP, zA_sA, zA_sB, zA_sR, zA_al, zB_sS, zB_sI, zB_sL, zB_sP, zB_sA, zB_sB, zB_sR, zB_al, zR_sS, zR_sI, zR_sL, zR_sP, zR_sA, zR_sB, zR_sR, zR_al, zsA_wr, zwr_wr, zwr_A, zup_ap, zwr_S, zwr_K, zwr_N, zwr_I, zwr_L, zwr_P, zwr_B, zwr_R, eq_self]
theorem zms_Pn {h a ca oa b R} {x : Nat} (hx : ¬ x = a) : zP (zms h a ca oa b R) x = zP h x := by
  unfold zms
  refine funext fun f => ?_
  rw [zP_sP, if_neg (fun q => hx q.1), zmd_P]
theorem zFr.ms {B h b R} : zFr B h (zms h (aMach B) (aCells B) (aOuts B) b R) := by
  refine ⟨zms_S _ _ _ _ _ _, fun x hx => ⟨funext fun f => ?_, by rw [zms_L], zms_Pn ?_, ?_, by rw [zms_B]⟩, zms_K _ _ _ _ _ _, zms_N _ _ _ _ _ _, zms_R _ _ _ _ _ _⟩
  · rw [zms_I, if_neg (fun q => ?_)]
    have := q.1
    unfold aMach at this
    omega
  · unfold aMach
    omega
  · rw [zms_A, zmo_x]
    · unfold aCells
      omega
    · unfold aOuts
      omega
theorem zXR.ms {B S h t n} (H : zXR B S h) (ht : t < 6) (hc : nI t < S 904 0 0) (hn : n ≤ 20000) :
    zXR B S (zms h (aMach B) (aCells B) (aOuts B) (aTask B t) (xRun S t n)) := by
  have nco : ¬ aCells B = aOuts B := by unfold aCells aOuts; omega
  have eA : ∀ b, ¬ b = aCells B → ¬ b = aOuts B → zA (zms h (aMach B) (aCells B) (aOuts B) (aTask B t) (xRun S t n)) b = zA h b := fun b q1 q2 => by rw [zms_A, zmo_x q1 q2]
  have eC : zA (zms h (aMach B) (aCells B) (aOuts B) (aTask B t) (xRun S t n)) (aCells B) = (xRun S t n).1.1 := by rw [zms_A, zmo_c nco]
  have eO : zA (zms h (aMach B) (aCells B) (aOuts B) (aTask B t) (xRun S t n)) (aOuts B) = (xRun S t n).1.2 := by rw [zms_A, zmo_o]
  have eI : ∀ b f, ¬ f = 404 → zI (zms h (aMach B) (aCells B) (aOuts B) (aTask B t) (xRun S t n)) b f = zI h b f := fun b f q => by rw [zms_I, if_neg (fun z => q z.2)]
  have eR : zI (zms h (aMach B) (aCells B) (aOuts B) (aTask B t) (xRun S t n)) (aMach B) 404 = nI (xRun S t n).2 := by rw [zms_I, if_pos ⟨rfl, rfl⟩]
  have eP : zP (zms h (aMach B) (aCells B) (aOuts B) (aTask B t) (xRun S t n)) (aMach B) 403 = some (aTask B t) := by unfold zms; rw [zP_sP, if_pos ⟨rfl, rfl⟩]
  have jk := mcRun_jk (kd := S 2002 t) (nb := S 2003 t) (n := S 805 t 0) n (mcInit (S 2004 t), zz) (mcInit_jk _) (zz_jk _)
  have hsk : zSk h (zms h (aMach B) (aCells B) (aOuts B) (aTask B t) (xRun S t n)) := zSk.ms
  generalize zms h (aMach B) (aCells B) (aOuts B) (aTask B t) (xRun S t n) = g at *
  have hR : RX B S g := by
    refine H.2.1.eq (fun f i k e => eI _ _ ?_) (fun f i e => eA _ ?_ ?_)
    · rintro rfl
      unfold xdI at e
      omega
    · have := xaA_w (B := B) e
      unfold aCells
      omega
    · have := xaA_w (B := B) e
      unfold aOuts
      omega
  have e1 := hR.2 2002 t (by unfold xdA; omega)
  have e2 := hR.2 2003 t (by unfold xdA; omega)
  have e3 := hR.2 2004 t (by unfold xdA; omega)
  rw [xa_k] at e1
  rw [xa_n] at e2
  rw [xa_m] at e3
  refine ⟨H.1.sk hsk, hR, ?_, ?_, fun u hu hr => ?_, fun b hb => ?_⟩
  · rw [eC]
    exact jk.1
  · rw [eO]
    exact jk.2
  · rw [eP] at hr
    have hut := aTask_j (Option.some.inj hr)
    subst hut
    rw [e1, e2, e3, hR.r8 (by decide) ht, eC, eO, eR]
    exact ⟨n, hn, rfl, rfl, rfl⟩
  · rw [eP] at hb
    rw [hR.r9 (by decide)]
    exact ⟨t, ht, (Option.some.inj hb).symm, hc⟩
theorem zXR.wt {B S h f} (H : zXR B S h) : zXR B S (zwr h (aTree B) f) := by
  have nt : ∀ b, ¬ b = aTree B → zA (zwr h (aTree B) f) b = zA h b := fun b q => zwr_n _ _ _ q
  refine ⟨H.1.sk zSk.wr, H.2.1.eq (fun _ _ _ _ => by rw [zwr_I]) (fun g i e => nt _ ?_), ?_⟩
  · have := xaA_w (B := B) e
    unfold aTree
    omega
  · obtain ⟨m1, m2, m3, m4⟩ := H.2.2
    unfold zCache at m3
    unfold zMI zCache
    rw [nt _ (by unfold aCells aTree; omega), nt _ (by unfold aOuts aTree; omega), zwr_I, zwr_P]
    refine ⟨m1, m2, fun t ht => ?_, m4⟩
    rw [nt (aKin B t) (by unfold aKin aTree; omega), nt (aNum B t) (by unfold aNum aTree; omega), nt (aMem B t) (by unfold aMem aTree; omega)]
    exact m3 t ht
theorem zFr.wt {B h f} : zFr B h (zwr h (aTree B) f) := by
  refine ⟨zwr_S _ _ _, fun x hx => ⟨by rw [zwr_I], by rw [zwr_L], by rw [zwr_P], zwr_n _ _ _ ?_, by rw [zwr_B]⟩, zwr_K _ _ _, zwr_N _ _ _, zwr_R _ _ _⟩
  unfold aTree
  omega
set_option maxHeartbeats 4000000 in
set_option maxRecDepth 100000 in
theorem x5_sumOf {l G d B h Q} {S : zst} {t n : Nat} (hd : 4 ≤ d) (H : zXR B S h) (ht : t < 6) (hc : nI t < S 904 0 0) (hn : n ≤ 20000)
  (hQ : ∀ g, zXR B S g → zFr B h g → (∀ j, 1 ≤ j → j < 32 → zA g (aTree B) j = mcTree (xRun S t n).1.1 zz j) → Q (.inl (some (.int (xSum S t n)))) g) : zCall l G mX5_sumOf d [.ref (aMach B), .ref (aTask B t), .int (nI n)] h Q := by
  refine s_X5_sumOf hd (H.mt ht) hn (by unfold aCells aTree; omega) (by unfold aOuts aTree; omega) ?_
  rw [H.run ht, mcTree_i (U := zz) (by decide) (by decide)]
  refine hQ _ (H.ms ht hc hn).wt (zFr.ms.tr zFr.wt) (fun j h1 h2 => ?_)
  rw [zwr_e]
  exact mcTree_i h1 h2
set_option maxHeartbeats 4000000 in
set_option maxRecDepth 100000 in
theorem x5_lengthOf {l G d B h Q} {S : zst} {t : Nat} (hd : 4 ≤ d) (H : zXR B S h) (ht : t < 6) (hc : nI t < S 904 0 0)
  (hQ : ∀ g, zXR B S g → zFr B h g → Q (.inl (some (.int (xLen S t)))) g) : zCall l G mX5_lengthOf d [.ref (aMach B), .ref (aTask B t)] h Q := by
  refine s_X5_lengthOf hd (H.mt ht) ?_
  have e1 := H.2.1.2 2002 t (by unfold xdA; omega)
  rw [xa_k] at e1
  rw [H.run ht, e1, H.2.1.r8 (by decide) ht]
  exact hQ _ (H.ms ht hc (by omega)) zFr.ms
def xOut (S : zst) (t : Nat) (j : Int32) : Int32 := if mcHalt (S 2002 t) (S 805 t 0) (xRun S t 20000).1.1 then (xRun S t 20000).1.2 j.toNatClampNeg else 0
set_option maxHeartbeats 4000000 in
set_option maxRecDepth 100000 in
theorem x5_outOf {l G d B h Q} {S : zst} {t : Nat} {j : Int32} (hd : 4 ≤ d) (H : zXR B S h) (ht : t < 6) (hc : nI t < S 904 0 0) (hj : ¬ j < 0 ∧ ¬ 9 < j)
  (hQ : ∀ g, zXR B S g → zFr B h g → Q (.inl (some (.int (xOut S t j)))) g) : zCall l G mX5_outOf d [.ref (aMach B), .ref (aTask B t), .int j] h Q := by
  refine s_X5_outOf hd (H.mt ht) hj ?_
  have e1 := H.2.1.2 2002 t (by unfold xdA; omega)
  rw [xa_k] at e1
  rw [H.run ht, e1, H.2.1.r8 (by decide) ht]
  exact hQ _ (H.ms ht hc (by omega)) zFr.ms
set_option maxHeartbeats 4000000 in
set_option maxRecDepth 100000 in
theorem x5_show {l G d B h Q} {S : zst} {t n : Nat} (hd : 3 ≤ d) (H : zXR B S h) (ht : t < 6) (hc : nI t < S 904 0 0) (hn : n ≤ 20000)
  (hQ : ∀ g, zXR B S g → zFr B h g → zA g (aCells B) = (xRun S t n).1.1 → Q (.inl none) g) : zCall l G mX5_show d [.ref (aMach B), .ref (aTask B t), .int (nI n)] h Q := by
  obtain ⟨m1, m2, ⟨e1, e2, e3, e4, e5, e6⟩, m4, m5, m6⟩ := H.mt ht
  refine s_X5_show hd m1 m2 e1 e2 e3 e4 e5 e6 hn m4 m5 m6 ?_
  have er := H.run (n := n) ht
  unfold zRun at er
  rw [er]
  refine hQ _ (H.ms ht hc hn) zFr.ms ?_
  rw [zms_A, zmo_c (by unfold aCells aOuts; omega)]
