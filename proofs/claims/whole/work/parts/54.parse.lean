/-! THE PARSER, pure: the token where it stands, how many steps, their kinds and numbers; or a fault and its place -/
abbrev pst : Type := Nat × Nat × zcells × zcells
abbrev prs : Type := pst ⊕ (Int32 × Nat)
def pbind (r : prs) (f : pst → prs) : prs := match r with
  | .inl s => f s
  | .inr e => .inr e
theorem pbind_l (s : pst) (f : pst → prs) : pbind (.inl s) f = f s := id rfl
theorem pbind_r (e : Int32 × Nat) (f : pst → prs) : pbind (.inr e) f = .inr e := id rfl
def pRef (w : Int32) (s : pst) : prs := .inr (w, s.1)
def pAdv (T : zcells) (n : Nat) (s : pst) : pst := (lxNx T n s.1, s.2)
def pExp (T : zcells) (n : Nat) (c : Int32) (s : pst) : prs := if lxSg T n s.1 c then .inl (pAdv T n s) else pRef 1 s
def pEm (k v : Int32) (s : pst) : pst := (s.1, s.2.1 + 1, (if s.2.1 < 200 then zup s.2.2.1 s.2.1 k else s.2.2.1), if s.2.1 < 200 then zup s.2.2.2 s.2.1 v else s.2.2.2)
def pAim (a : Nat) (s : pst) : pst := (s.1, s.2.1, s.2.2.1, if a < 200 then zup s.2.2.2 a (nI s.2.1) else s.2.2.2)
def pOpen (T : zcells) (n : Nat) (c : Int32) (r : Nat) (s : pst) : prs := if lxSg T n s.1 c then (if r = 0 then pRef 3 s else .inl (pAdv T n s)) else pRef 1 s
def pEnc (T : zcells) (n : Nat) (a b : Int32) (E : pst → prs) (r : Nat) (s : pst) : prs := pbind (pOpen T n a r s) fun s1 => pbind (E s1) (pExp T n b)
def lxSgV (v : Int32) : Int32 := if v = 43 then 6 else if v = 45 then 7 else if v = 42 then 8 else if v = 47 then 9 else if v = 37 then 10 else if v = 60 then 11 else if v = 62 then 12 else if v = 61 then 13 else -1
def lxSgK (T : zcells) (n f : Nat) : Int32 := if lxK T n f = 3 then lxSgV (lxVl T n f) else -1
def lxLv (k : Int32) : Int32 := if k = -1 then -1 else if 11 ≤ k then 0 else if 8 ≤ k then 2 else 1
def pLoop (T : zcells) (n : Nat) (sub : pst → prs) (lv : Int32) : Nat → pst → prs
  | 0, s => .inl s
  | k + 1, s => if lxLv (lxSgK T n s.1) = lv then pbind (sub (pAdv T n s)) fun s1 => pLoop T n sub lv k (pEm (lxSgK T n s.1) 0 s1) else .inl s
def pX (T : zcells) (n : Nat) (lv : Int32) (sub : pst → prs) (s : pst) : prs := pbind (sub s) (pLoop T n sub lv 400)
def pUnit (T : zcells) (n : Nat) (E : pst → prs) (r : Nat) (s : pst) : prs :=
  if lxK T n s.1 = 1 then (if lxVl T n s.1 ≤ 99999 then .inl (pAdv T n (pEm 1 (lxVl T n s.1) s)) else pRef 2 s)
  else if lxVr T n s.1 = -1 then (if lxWd T n s.1 0 then pbind (pEnc T n 91 93 E r (pAdv T n s)) (fun s1 => .inl (pEm 4 0 s1)) else pEnc T n 40 41 E r s)
  else .inl (pEm 2 (lxVr T n s.1) (pAdv T n s))
def pLv (T : zcells) (n : Nat) (E : pst → prs) (r : Nat) : pst → prs := pX T n 0 (pX T n 1 (pX T n 2 (pUnit T n E r)))
def pEx (T : zcells) (n : Nat) : Nat → pst → prs
  | 0 => pLv T n (fun s => .inl s) 0
  | r + 1 => pLv T n (pEx T n r) (r + 1)
def pStm (T : zcells) (n : Nat) (E E1 SS : pst → prs) (r : Nat) (s : pst) : prs :=
  if lxVr T n s.1 = -1 then
    (if lxWd T n s.1 0 then pbind (pEnc T n 91 93 E1 r (pAdv T n s)) fun s1 => pbind (pExp T n 61 s1) fun s2 => pbind (E s2) fun s3 => pbind (pExp T n 59 s3) fun s4 => .inl (pEm 5 0 s4)
     else if lxWd T n s.1 1 then pbind (E (pAdv T n s)) fun s1 => pbind (pExp T n 59 s1) fun s2 => .inl (pEm 16 0 s2)
     else if lxWd T n s.1 2 then pbind (E (pAdv T n s)) fun s1 => pbind (pEnc T n 123 125 SS r (pEm 15 0 s1)) fun s2 => .inl (pAim s1.2.1 (pEm 14 (nI s.2.1) s2))
     else if lxWd T n s.1 3 then pbind (E (pAdv T n s)) fun s1 => pbind (pEnc T n 123 125 SS r (pEm 15 0 s1)) fun s2 => (if lxWd T n s2.1 4 then pbind (pEnc T n 123 125 SS r (pAim s1.2.1 (pEm 14 0 (pAdv T n s2)))) (fun s3 => .inl (pAim s2.2.1 s3)) else .inl (pAim s1.2.1 s2))
     else pRef 1 s)
  else pbind (pExp T n 61 (pAdv T n s)) fun s1 => pbind (E s1) fun s2 => pbind (pExp T n 59 s2) fun s3 => .inl (pEm 3 (lxVr T n s.1) s3)
def pSL (T : zcells) (n : Nat) (stm : pst → prs) : Nat → pst → prs
  | 0, s => .inl s
  | k + 1, s => if lxK T n s.1 = 2 then pbind (stm s) (pSL T n stm k) else .inl s
def pSS (T : zcells) (n : Nat) : Nat → pst → prs
  | 0 => pSL T n (pStm T n (pEx T n 0) (fun s => .inl s) (fun s => .inl s) 0) 400
  | r + 1 => pSL T n (pStm T n (pEx T n (r + 1)) (pEx T n r) (pSS T n r) (r + 1)) 400
def pComp (T : zcells) (n : Nat) (K N : zcells) : prs := pbind (pSS T n 6 (lxSk T n 0, 0, K, N)) fun s => if lxK T n s.1 = 0 then (if (pEm 0 0 s).2.1 ≤ 200 then .inl (pEm 0 0 s) else pRef 4 (pEm 0 0 s)) else pRef 1 s
/-! what it has read grows at least as its steps do -/
def pgd (n : Nat) (F : pst → prs) : Prop := ∀ s s1, F s = .inl s1 → s.1 ≤ n → s.1 ≤ s1.1 ∧ s1.1 ≤ n ∧ s1.2.1 + s.1 ≤ s1.1 + s.2.1
theorem pExp_i {T n c s s1} (h : pExp T n c s = .inl s1) : lxSg T n s.1 c ∧ s1 = pAdv T n s := by
  unfold pExp at h
  split at h
  · exact ⟨by assumption, (Sum.inl.inj h).symm⟩
  · cases h
theorem lxSg_lt {T n f c} (h : lxSg T n f c) : f < n := lxK_0 (by rw [h.1]; decide)
theorem pExp_g {T n c s s1} (h : pExp T n c s = .inl s1) (hs : s.1 ≤ n) : s.1 < s1.1 ∧ s1.1 ≤ n ∧ s1.2.1 = s.2.1 := by
  obtain ⟨h1, rfl⟩ := pExp_i h
  have h2 := lxNx_b (T := T) hs
  exact ⟨h2.2.2 (lxSg_lt h1), h2.2.1, rfl⟩
theorem pbind_i {r : prs} {f : pst → prs} {s : pst} (h : pbind r f = .inl s) : ∃ s1, r = .inl s1 ∧ f s1 = .inl s := by
  cases r with
  | inl s1 => exact ⟨s1, rfl, h⟩
  | inr e => cases h
theorem pOpen_g {T n c r s s1} (h : pOpen T n c r s = .inl s1) (hs : s.1 ≤ n) : s.1 < s1.1 ∧ s1.1 ≤ n ∧ s1.2.1 = s.2.1 ∧ 0 < r ∧ s1 = pAdv T n s := by
  unfold pOpen at h
  split at h
  · rename_i h1
    split at h
    · cases h
    · cases h
      have h2 := lxNx_b (T := T) hs
      exact ⟨h2.2.2 (lxSg_lt h1), h2.2.1, rfl, by omega, rfl⟩
  · cases h
theorem pEnc_g {T n a b E r s s1} (gE : 0 < r → pgd n E) (h : pEnc T n a b E r s = .inl s1) (hs : s.1 ≤ n) : s.1 + 2 ≤ s1.1 ∧ s1.1 ≤ n ∧ s1.2.1 + s.1 + 2 ≤ s1.1 + s.2.1 := by
  obtain ⟨s2, h2, h3⟩ := pbind_i h
  obtain ⟨s4, h4, h5⟩ := pbind_i h3
  obtain ⟨a1, a2, a3, a4, -⟩ := pOpen_g h2 hs
  obtain ⟨b1, b2, b3⟩ := gE a4 _ _ h4 a2
  obtain ⟨c1, c2, c3⟩ := pExp_g h5 b2
  omega
theorem pLoop_g {T n sub lv} (hl : ¬ lv = -1) (g : pgd n sub) : ∀ k, pgd n (pLoop T n sub lv k) := by
  intro k
  induction k with
  | zero =>
    intro s s1 h hs
    cases h
    omega
  | succ k ih =>
    intro s s1 h hs
    unfold pLoop at h
    split at h
    · rename_i q
      obtain ⟨s2, h2, h3⟩ := pbind_i h
      have hlt : s.1 < n := by
        refine lxK_0 (T := T) (fun e => hl ?_)
        rw [← q]
        unfold lxSgK
        rw [if_neg (by rw [e]; decide)]
        rfl
      have a1 := lxNx_b (T := T) hs
      obtain ⟨b1, b2, b3⟩ := g _ _ h2 a1.2.1
      obtain ⟨c1, c2, c3⟩ := ih _ _ h3 b2
      unfold pEm at c1 c3
      unfold pAdv at b1 b3
      simp only at b1 b3 c1 c3
      omega
    · cases h
      omega
theorem pX_g {T n lv sub} (hl : ¬ lv = -1) (g : pgd n sub) : pgd n (pX T n lv sub) := by
  intro s s1 h hs
  obtain ⟨s2, h2, h3⟩ := pbind_i h
  obtain ⟨b1, b2, b3⟩ := g _ _ h2 hs
  obtain ⟨c1, c2, c3⟩ := pLoop_g hl g 400 _ _ h3 b2
  omega
theorem lxVr_lt {T n f} (h : ¬ lxVr T n f = -1) : f < n := by
  unfold lxVr at h
  split at h
  · rename_i q
    exact lxK_0 (T := T) (by rw [q.1]; decide)
  · exact absurd rfl h
theorem lxWd_lt {T n f t} (h : lxWd T n f t) : f < n := lxK_0 (T := T) (by rw [h.1]; decide)
theorem pUnit_g {T n E r} (gE : 0 < r → pgd n E) : pgd n (pUnit T n E r) := by
  intro s s1 h hs
  have a1 := lxNx_b (T := T) hs
  unfold pUnit at h
  split at h
  · rename_i q
    split at h
    · cases h
      have hlt := lxK_0 (T := T) (n := n) (f := s.1) (by rw [q]; decide)
      have := a1.2.2 hlt
      unfold pAdv pEm
      simp only
      omega
    · cases h
  · split at h
    · split at h
      · rename_i q2
        obtain ⟨s2, h2, h3⟩ := pbind_i h
        have := a1.2.2 (lxWd_lt q2)
        obtain ⟨b1, b2, b3⟩ := pEnc_g gE h2 a1.2.1
        cases h3
        unfold pAdv at b1 b3
        unfold pEm
        simp only at b1 b3 ⊢
        omega
      · obtain ⟨b1, b2, b3⟩ := pEnc_g gE h hs
        omega
    · rename_i q
      cases h
      have := a1.2.2 (lxVr_lt q)
      unfold pAdv pEm
      simp only
      omega
theorem pLv_g {T n E r} (gE : 0 < r → pgd n E) : pgd n (pLv T n E r) := pX_g (by decide) (pX_g (by decide) (pX_g (by decide) (pUnit_g gE)))
theorem pEx_g {T n} : ∀ r, pgd n (pEx T n r)
  | 0 => pLv_g (fun h => absurd h (by omega))
  | r + 1 => pLv_g (fun _ => pEx_g r)
theorem pStm_g {T n E E1 SS r} (gE : pgd n E) (gE1 : 0 < r → pgd n E1) (gS : 0 < r → pgd n SS) {s s1} (h : pStm T n E E1 SS r s = .inl s1) (hs : s.1 ≤ n) : s.1 < s1.1 ∧ s1.1 ≤ n ∧ s1.2.1 + s.1 ≤ s1.1 + s.2.1 := by
  have a1 := lxNx_b (T := T) hs
  unfold pStm at h
  split at h
  · split at h
    · rename_i q
      have a2 := a1.2.2 (lxWd_lt q)
      obtain ⟨s2, h2, h⟩ := pbind_i h
      obtain ⟨s3, h3, h⟩ := pbind_i h
      obtain ⟨s4, h4, h⟩ := pbind_i h
      obtain ⟨s5, h5, h⟩ := pbind_i h
      obtain ⟨b1, b2, b3⟩ := pEnc_g gE1 h2 a1.2.1
      obtain ⟨c1, c2, c3⟩ := pExp_g h3 b2
      obtain ⟨d1, d2, d3⟩ := gE _ _ h4 c2
      obtain ⟨e1, e2, e3⟩ := pExp_g h5 d2
      cases h
      unfold pAdv at b1 b3
      unfold pEm
      simp only at b1 b3 ⊢
      omega
    · split at h
      · rename_i q
        have a2 := a1.2.2 (lxWd_lt q)
        obtain ⟨s2, h2, h⟩ := pbind_i h
        obtain ⟨s3, h3, h⟩ := pbind_i h
        obtain ⟨d1, d2, d3⟩ := gE _ _ h2 a1.2.1
        obtain ⟨e1, e2, e3⟩ := pExp_g h3 d2
        cases h
        unfold pAdv at d1 d3
        unfold pEm
        simp only at d1 d3 ⊢
        omega
      · split at h
        · rename_i q
          have a2 := a1.2.2 (lxWd_lt q)
          obtain ⟨s2, h2, h⟩ := pbind_i h
          obtain ⟨s3, h3, h⟩ := pbind_i h
          obtain ⟨d1, d2, d3⟩ := gE _ _ h2 a1.2.1
          obtain ⟨e1, e2, e3⟩ := pEnc_g gS h3 d2
          cases h
          unfold pAdv at d1 d3
          unfold pEm at e1 e3
          unfold pAim pEm
          simp only at d1 d3 e1 e3 ⊢
          omega
        · split at h
          · rename_i q
            have a2 := a1.2.2 (lxWd_lt q)
            obtain ⟨s2, h2, h⟩ := pbind_i h
            obtain ⟨s3, h3, h⟩ := pbind_i h
            obtain ⟨d1, d2, d3⟩ := gE _ _ h2 a1.2.1
            obtain ⟨e1, e2, e3⟩ := pEnc_g gS h3 d2
            unfold pAdv at d1 d3
            unfold pEm at e1 e3
            split at h
            · rename_i q2
              obtain ⟨s4, h4, h⟩ := pbind_i h
              have f1 := lxNx_b (T := T) e2
              have f2 := f1.2.2 (lxWd_lt q2)
              obtain ⟨g1, g2, g3⟩ := pEnc_g gS h4 (by unfold pAim pEm pAdv; exact f1.2.1)
              cases h
              unfold pAim pEm pAdv at g1 g3
              unfold pAim
              simp only at d1 d3 e1 e3 g1 g3 ⊢
              omega
            · cases h
              unfold pAim
              simp only at d1 d3 e1 e3 ⊢
              omega
          · cases h
  · rename_i q
    have a2 := a1.2.2 (lxVr_lt q)
    obtain ⟨s2, h2, h⟩ := pbind_i h
    obtain ⟨s3, h3, h⟩ := pbind_i h
    obtain ⟨s4, h4, h⟩ := pbind_i h
    obtain ⟨b1, b2, b3⟩ := pExp_g h2 a1.2.1
    obtain ⟨d1, d2, d3⟩ := gE _ _ h3 b2
    obtain ⟨e1, e2, e3⟩ := pExp_g h4 d2
    cases h
    unfold pAdv at b1 b3
    unfold pEm
    simp only at b1 b3 ⊢
    omega
theorem pSL_g {T n stm} (g : pgd n stm) : ∀ k, pgd n (pSL T n stm k) := by
  intro k
  induction k with
  | zero =>
    intro s s1 h hs
    cases h
    omega
  | succ k ih =>
    intro s s1 h hs
    unfold pSL at h
    split at h
    · obtain ⟨s2, h2, h3⟩ := pbind_i h
      obtain ⟨b1, b2, b3⟩ := g _ _ h2 hs
      obtain ⟨c1, c2, c3⟩ := ih _ _ h3 b2
      omega
    · cases h
      omega
theorem pSS_g {T n} : ∀ r, pgd n (pSS T n r)
  | 0 => pSL_g (fun _ _ h hs => by have := pStm_g (pEx_g 0) (fun h => absurd h (by omega)) (fun h => absurd h (by omega)) h hs; omega) 400
  | r + 1 => pSL_g (fun _ _ h hs => by have := pStm_g (pEx_g (r + 1)) (fun _ => pEx_g r) (fun _ => pSS_g r) h hs; omega) 400
