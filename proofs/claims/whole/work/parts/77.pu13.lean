/-! images -/
theorem MkI_cg {D : Nat} {f f' : Nat → Int32} (h : MkI D f) (e : ∀ d, d < 14 → f' d = f d) : MkI D f' := ⟨fun d hd => by rw [e d hd]; exact h.1 d hd, fun d h1 h2 => by rw [e d h2]; exact h.2 d h1 h2⟩
theorem img_lp {k : Nat} {mk hd : Nat → Int32} {f : Nat → Int32} : ∀ n : Nat, n ≤ 14 → ∀ j, lp (fun d f => upd (upd f (k + d) (mk d)) (k + 14 + d) (hd d)) n 0 f j = if k ≤ j ∧ j < k + n then mk (j - k) else if k + 14 ≤ j ∧ j < k + 14 + n then hd (j - k - 14) else f j := by
  intro n
  induction n with
  | zero =>
    intro _ j
    rw [if_neg (by omega), if_neg (by omega)]
    rfl
  | succ n ih =>
    intro hn j
    rw [lp_last, Nat.zero_add]
    show upd (upd (lp _ n 0 f) (k + n) (mk n)) (k + 14 + n) (hd n) j = _
    by_cases e1 : j = k + 14 + n
    · rw [e1, pk_us, if_neg (by omega), if_pos (by omega)]
      congr 1
      omega
    · rw [pk_un e1]
      by_cases e2 : j = k + n
      · rw [e2, pk_us, if_pos (by omega)]
        congr 1
        omega
      · rw [pk_un e2, ih (by omega)]
        by_cases c1 : k ≤ j ∧ j < k + n
        · rw [if_pos c1, if_pos (by omega)]
        · have c3 : ¬ (k ≤ j ∧ j < k + (n + 1)) := by omega
          by_cases c2 : k + 14 ≤ j ∧ j < k + 14 + n
          · rw [if_neg c1, if_neg c3, if_pos c2, if_pos (by omega)]
          · rw [if_neg c1, if_neg c3, if_neg c2, if_neg (by omega)]
theorem img_at {k : Nat} {mk hd f : Nat → Int32} {nt sp sd : Int32} : (∀ d, d < 14 → imgF k mk hd nt sp sd f (k + d) = mk d ∧ imgF k mk hd nt sp sd f (k + 14 + d) = hd d) ∧ imgF k mk hd nt sp sd f (k + 28) = nt ∧ imgF k mk hd nt sp sd f (k + 29) = sp ∧ imgF k mk hd nt sp sd f (k + 30) = sd ∧ ∀ j, (j < k ∨ k + 30 < j) → imgF k mk hd nt sp sd f j = f j := by
  unfold imgF
  refine ⟨fun d hd2 => ⟨?_, ?_⟩, ?_, ?_, ?_, fun j hj => ?_⟩
  · rw [pk_un (by omega), pk_un (by omega), pk_un (by omega), img_lp 14 (Nat.le_refl _), if_pos (by omega)]
    congr 1
    omega
  · rw [pk_un (by omega), pk_un (by omega), pk_un (by omega), img_lp 14 (Nat.le_refl _), if_neg (by omega), if_pos (by omega)]
    congr 1
    omega
  · rw [pk_un (by omega), pk_un (by omega), pk_us]
  · rw [pk_un (by omega), pk_us]
  · rw [pk_us]
  · rw [pk_un (by omega), pk_un (by omega), pk_un (by omega), img_lp 14 (Nat.le_refl _), if_neg (by omega), if_neg (by omega)]
theorem bak_lp {k : Nat} {f : Nat → Int32} {s : (Nat → Int32) × (Nat → Int32)} : ∀ n : Nat, ∀ j, (lp (fun d (s : (Nat → Int32) × (Nat → Int32)) => (upd s.1 d (f (k + d)), upd s.2 d (f (k + 14 + d)))) n 0 s).1 j = (if j < n then f (k + j) else s.1 j) ∧ (lp (fun d (s : (Nat → Int32) × (Nat → Int32)) => (upd s.1 d (f (k + d)), upd s.2 d (f (k + 14 + d)))) n 0 s).2 j = if j < n then f (k + 14 + j) else s.2 j := by
  intro n
  induction n with
  | zero => intro j; exact ⟨rfl, rfl⟩
  | succ n ih =>
    intro j
    rw [lp_last, Nat.zero_add]
    obtain ⟨i1, i2⟩ := ih j
    refine ⟨?_, ?_⟩
    · show upd (lp _ n 0 s).1 n (f (k + n)) j = _
      by_cases e : j = n
      · rw [e, pk_us, if_pos (by omega)]
      · rw [pk_un e, i1]
        by_cases c : j < n
        · rw [if_pos c, if_pos (by omega)]
        · rw [if_neg c, if_neg (by omega)]
    · show upd (lp _ n 0 s).2 n (f (k + 14 + n)) j = _
      by_cases e : j = n
      · rw [e, pk_us, if_pos (by omega)]
      · rw [pk_un e, i2]
        by_cases c : j < n
        · rw [if_pos c, if_pos (by omega)]
        · rw [if_neg c, if_neg (by omega)]
theorem img_new {D k : Nat} {i nw σ : S2} {f : Nat → Int32} (hS : RSc D nw σ) : Img D (bcm i nw) k (imgF k (σ.2 9) (σ.2 10) (σ.1 11) (σ.1 12) (σ.1 13) f) := by
  obtain ⟨q1, q2, q3, q4, q5, m1, m2, m3, m4⟩ := hS
  obtain ⟨a1, a2, a3, a4, -⟩ := img_at (k := k) (mk := σ.2 9) (hd := σ.2 10) (f := f) (nt := σ.1 11) (sp := σ.1 12) (sd := σ.1 13)
  have e1 : ∀ d, d < 14 → (bcm i nw).2 0 d = σ.2 9 d := fun d hd => by
    show cpN 14 (nw.2 0) (i.2 0) d = _
    rw [cpN_at, if_pos hd, q1]
  have e2 : ∀ d, d < 14 → (bcm i nw).2 1 d = σ.2 10 d := fun d hd => by
    show cpN 14 (nw.2 1) (i.2 1) d = _
    rw [cpN_at, if_pos hd, q2]
  refine ⟨fun d hd => ⟨?_, ?_⟩, ?_, ?_, ?_, MkI_cg m1 e1, MkI_cg m2 e2, ?_, ?_⟩
  · rw [e1 d hd, (a1 d hd).1]
  · rw [e2 d hd, (a1 d hd).2]
  · rw [a2]; exact q3
  · rw [a3]; exact q4
  · rw [a4]; exact q5
  · show ∃ k : Nat, k ≤ 999999 ∧ nw.1 3 = nI k
    rw [q4]; exact m3
  · show 0 ≤ (nw.1 4).toInt
    rw [q5]; exact m4
theorem img_old {D k k' : Nat} {i : S2} {f mk hd : Nat → Int32} {nt sp sd : Int32} (h : Img D i k' f) (hk : k' + 30 < k ∨ k + 30 < k') : Img D i k' (imgF k mk hd nt sp sd f) := by
  obtain ⟨h1, h2, h3, h4, h5⟩ := h
  obtain ⟨-, -, -, -, a5⟩ := img_at (k := k) (mk := mk) (hd := hd) (f := f) (nt := nt) (sp := sp) (sd := sd)
  refine ⟨fun d hd => ⟨?_, ?_⟩, ?_, ?_, ?_, h5⟩
  · rw [a5 _ (by omega)]; exact (h1 d hd).1
  · rw [a5 _ (by omega)]; exact (h1 d hd).2
  · rw [a5 _ (by omega)]; exact h2
  · rw [a5 _ (by omega)]; exact h3
  · rw [a5 _ (by omega)]; exact h4
theorem img_back {D k : Nat} {i nw σ : S2} (hS : RSc D nw σ) (h : Img D i k (σ.2 43)) : RSc D (bcm nw i) (su (su (su (aw (aw σ 9 (bakF k (σ.2 43) (σ.2 9, σ.2 10)).1) 10 (bakF k (σ.2 43) (σ.2 9, σ.2 10)).2) 11 (σ.2 43 (k + 28))) 12 (σ.2 43 (k + 29))) 13 (σ.2 43 (k + 30))) := by
  obtain ⟨q1, q2, -, -, -, -⟩ := hS
  obtain ⟨h1, h2, h3, h4, n1, n2, n3, n4⟩ := h
  have e1 : cpN 14 (i.2 0) (nw.2 0) = (bakF k (σ.2 43) (σ.2 9, σ.2 10)).1 := by
    funext j
    unfold bakF
    rw [cpN_at, (bak_lp 14 j).1, q1]
    by_cases c : j < 14
    · rw [if_pos c, if_pos c]; exact (h1 j c).1
    · rw [if_neg c, if_neg c]
  have e2 : cpN 14 (i.2 1) (nw.2 1) = (bakF k (σ.2 43) (σ.2 9, σ.2 10)).2 := by
    funext j
    unfold bakF
    rw [cpN_at, (bak_lp 14 j).2, q2]
    by_cases c : j < 14
    · rw [if_pos c, if_pos c]; exact (h1 j c).2
    · rw [if_neg c, if_neg c]
  refine ⟨e1, e2, h2, h3, h4, ?_, ?_, ?_, ?_⟩
  · show MkI D (bakF k (σ.2 43) (σ.2 9, σ.2 10)).1
    rw [← e1]
    exact MkI_cg n1 (fun d hd => by rw [cpN_at, if_pos hd])
  · show MkI D (bakF k (σ.2 43) (σ.2 9, σ.2 10)).2
    rw [← e2]
    exact MkI_cg n2 (fun d hd => by rw [cpN_at, if_pos hd])
  · show ∃ j : Nat, j ≤ 999999 ∧ σ.2 43 (k + 29) = nI j
    rw [← h3]; exact n3
  · show 0 ≤ (σ.2 43 (k + 30)).toInt
    rw [← h4]; exact n4
theorem kp_or0 {kp : Int32} (h : kp = 0 ∨ kp = 1 ∨ kp = 2 ∨ kp = 3) : ((kp ||| bit 0) = 0 ∨ (kp ||| bit 0) = 1 ∨ (kp ||| bit 0) = 2 ∨ (kp ||| bit 0) = 3) ∧ hb (kp ||| bit 0) 0 ∧ (hb (kp ||| bit 0) 1 ↔ hb kp 1) := by
  rcases h with rfl | rfl | rfl | rfl <;> decide
theorem kp_or1 {kp : Int32} (h : kp = 0 ∨ kp = 1 ∨ kp = 2 ∨ kp = 3) : ((kp ||| bit 1) = 0 ∨ (kp ||| bit 1) = 1 ∨ (kp ||| bit 1) = 2 ∨ (kp ||| bit 1) = 3) ∧ hb (kp ||| bit 1) 1 ∧ (hb (kp ||| bit 1) 0 ↔ hb kp 0) := by
  rcases h with rfl | rfl | rfl | rfl <;> decide
/-! the street -/
theorem SMw {σ τ : S2} {j : Nat} {f : Nat → Int32} (h : SM σ τ) (h1 : 22 ≤ j) (h2 : j ≤ 30) : SM σ (aw τ j f) := ⟨h.1, fun i hi => by
  have : i ≠ j := by omega
  show va_up τ.2 j _ i = _
  simp only [va_up, this, if_false]
  exact h.2 i hi⟩
theorem SM_beg {σ : S2} : SM σ (mBeg σ) := SMw (SMw (SMs (SMs (SMs (SMs (SMs (SMs SM.rf (by decide) (by decide)) (by decide) (by decide)) (by decide) (by decide)) (by decide) (by decide)) (by decide) (by decide)) (by decide) (by decide)) (by decide) (by decide)) (by decide) (by decide)
theorem RPl_SM {D C S : Nat} {pl σ τ : S2} (k : SM σ τ) (h : RPl D C S pl σ) : RPl D C S pl τ := by
  unfold RPl at h ⊢
  rw [k.1 0 (by omega), k.1 1 (by omega), k.1 6 (by omega), k.1 7 (by omega), k.1 8 (by omega), k.2 2 (by omega), k.2 3 (by omega), k.2 4 (by omega), k.2 5 (by omega)]
  exact h
theorem RSc_SM {D : Nat} {nw σ τ : S2} (k : SM σ τ) (h : RSc D nw σ) : RSc D nw τ := by
  unfold RSc at h ⊢
  rw [k.1 11 (by omega), k.1 12 (by omega), k.1 13 (by omega), k.2 9 (by omega), k.2 10 (by omega)]
  exact h
theorem RFa_SM {fa σ τ : S2} (k : SM σ τ) (h : RFa fa σ) : RFa fa τ := by
  unfold RFa at h ⊢
  rw [k.1 36 (by omega), k.2 37 (by omega), k.2 38 (by omega), k.2 39 (by omega)]
  exact h
theorem RBo_SM {bo σ τ : S2} (k : SM σ τ) (h : RBo bo σ) : RBo bo τ := by
  unfold RBo at h ⊢
  rw [k.1 40 (by omega), k.2 41 (by omega), k.2 42 (by omega)]
  exact h
theorem RIm_SM {D : Nat} {kp : Int32} {i0 i1 σ τ : S2} (k : SM σ τ) (h : RIm D kp i0 i1 σ) : RIm D kp i0 i1 τ := by
  unfold RIm at h ⊢
  rw [k.2 43 (by omega), k.2 44 (by omega)]
  exact h
theorem str_rel {kp : Int32} {rd nw i0 i1 fa bo pl dr σ : S2} (hR : Rel kp rd nw i0 i1 fa bo pl σ) : (¬ (xRdI rd dr).1.1 3 = 0 ∧ -10 - (xRdI rd dr).1.1 3 = (mStreet σ).1 ∧ Rel kp (xRdI rd dr).1 nw i0 i1 fa bo pl (mStreet σ).2) ∨ ((xRdI rd dr).1.1 3 = 0 ∧ (xRdI rd dr).2.1 0 = (mStreet σ).1 ∧ Rel 0 (xRdI rd dr).1 (bgn nw (xRdI rd dr).2) i0 i1 (su fa 3 0) (su bo 2 0) (xRdI rd dr).2 (mStreet σ).2) := by
  obtain ⟨D, C, S, hP, hS, ⟨t1, t2, T, T1, T2, T3, T4⟩, hF, hB, hI⟩ := hR
  have hB0 : BR (xBeg rd) (mBeg σ) := ⟨rfl, rfl, T, 0, T1, Nat.zero_le _, T2, T3, rfl, rfl, t2⟩
  have hD0 : DR (xBeg rd) (xClr dr) (mBeg σ) := by
    refine ⟨rfl, rfl, rfl, rfl, rfl, rfl, rfl, ⟨0, by decide, rfl⟩, 0, 0, 0, by decide, by decide, by decide, rfl, rfl, rfl, fun h => absurd rfl h, fun j hj => ?_, ⟨fun d hd => ⟨0, by decide, ?_⟩, fun d _ hd => ?_⟩, fun j hj => absurd hj (by omega)⟩
    · show cpN 14 (fun _ => 0) (dr.2 6) j = cpN 14 (fun _ => 0) (σ.2 27) j
      rw [cpN_at, cpN_at, if_pos hj, if_pos hj]
    · show cpN 14 (fun _ => 0) (σ.2 27) d = _
      rw [cpN_at, if_pos hd]; rfl
    · show cpN 14 (fun _ => 0) (σ.2 27) d = _
      rw [cpN_at, if_pos hd]
  have hPQ : PQ (mBeg σ) := ⟨⟨T, 0, T1, Nat.zero_le _, T3, rfl⟩, ⟨0, by decide, rfl⟩, 0, by decide, rfl⟩
  have hmT : mT (mBeg σ) = T := by show Int32.toNatClampNeg (σ.1 15) = _; rw [T3]; exact nI_clamp (by omega)
  have hE := par_rel (tx := σ.2 14) T1 T4 200 201 (xBeg rd) (xClr dr) (mBeg σ) hB0 hD0 hPQ rfl hmT (by omega) (by omega) (fun σ' _ h2 => by rw [SM_cla.2 14 (by omega)]; exact h2)
  have hrow : (xPar 200 (xBeg rd) (xClr dr)).1.2 = rd.2 := xPar_r 200 _ _
  have hsm : SM σ (mPar 201 (mBeg σ)).2 := SM_beg.tr (SM_par 201 _)
  have ex1 : xRdI rd dr = (su (xPar 200 (xBeg rd) (xClr dr)).1 1 0, (xPar 200 (xBeg rd) (xClr dr)).2) := rfl
  have em1 : mStreet σ = if (mPar 201 (mBeg σ)).1 ≤ 0 then ((mPar 201 (mBeg σ)).2.1 20, mDon (mRead (su (mPar 201 (mBeg σ)).2 15 0))) else (-10 - (mPar 201 (mBeg σ)).1, su (mPar 201 (mBeg σ)).2 15 0) := rfl
  rw [ex1, em1]
  generalize xPar 200 (xBeg rd) (xClr dr) = P at hE hrow ⊢
  generalize mPar 201 (mBeg σ) = M at hE hsm ⊢
  obtain ⟨ρ, π⟩ := P
  obtain ⟨f, τ⟩ := M
  have hrow : ρ.2 = rd.2 := hrow
  have hsm : SM σ τ := hsm
  have htx : ρ.2 0 = τ.2 14 := by rw [hrow, hsm.2 14 (by omega)]; exact t2
  rcases hE with ⟨e1, e2, e3, e4⟩ | hFR
  · have e1 : f = 0 := e1
    subst e1
    have e3 : ρ.1 4 = τ.1 16 := e3
    have e4 : DR ρ π τ := e4
    rw [if_pos (show (0 : Int32) ≤ 0 by decide)]
    obtain ⟨d1, d2, d3, d4, d5, d6, d7, d8, D', C', S', z1, z2, z3, z4, z5, z6, z7, z8, z9, z10⟩ := e4
    refine Or.inr ⟨e2, d3, D', C', S', ⟨z1, z2, z3, z7, d3.trans z4, z4, d4.trans z5, z5, d5, d6.trans z6, z6, d7, d8, fun j hj => ?_⟩, ?_, ⟨e3, htx, 0, by decide, rfl, rfl, fun j hj => absurd hj (by omega)⟩, ?_, ?_, ?_⟩
    · have h := z10 j hj
      have hj4 : j < 4 := by omega
      show CkR π (cpN 4 (τ.2 22) (τ.2 2)) (cpN 4 (τ.2 23) (τ.2 3)) (cpN 4 (τ.2 24) (τ.2 4)) (cpN 4 (τ.2 25) (τ.2 5)) j
      unfold CkR at h ⊢
      rw [cpN_at, cpN_at, cpN_at, cpN_at, if_pos hj4, if_pos hj4, if_pos hj4, if_pos hj4]
      exact h
    · have g1 : cpN 14 (π.2 6) (nw.2 0) = cpN 14 (τ.2 27) (τ.2 9) := by
        funext j
        rw [cpN_at, cpN_at, hsm.2 9 (by omega), hS.1]
        by_cases c : j < 14
        · rw [if_pos c, if_pos c]; exact z8 j c
        · rw [if_neg c, if_neg c]
      have g2 : cpN 14 (fun _ => 0) (nw.2 1) = cpN 14 (fun _ => 0) (τ.2 10) := by
        rw [hsm.2 10 (by omega), hS.2.1]
      have g5 : nw.1 4 = τ.1 13 := by rw [hsm.1 13 (by omega)]; exact hS.2.2.2.2.1
      refine ⟨g1, g2, rfl, rfl, g5, ?_, ?_, ⟨0, by decide, rfl⟩, ?_⟩
      · exact MkI_cg z9 (fun d hd => by show cpN 14 (τ.2 27) (τ.2 9) d = _; rw [cpN_at, if_pos hd])
      · refine ⟨fun d hd => ⟨0, by decide, ?_⟩, fun d _ hd => ?_⟩
        · show cpN 14 (fun _ => 0) (τ.2 10) d = _
          rw [cpN_at, if_pos hd]; rfl
        · show cpN 14 (fun _ => 0) (τ.2 10) d = _
          rw [cpN_at, if_pos hd]
      · show 0 ≤ (τ.1 13).toInt
        rw [hsm.1 13 (by omega)]
        exact hS.2.2.2.2.2.2.2.2
    · have h := RFa_SM hsm hF
      exact ⟨h.1, h.2.1, h.2.2.1, 0, by decide, rfl, rfl, fun k hk => absurd hk (by omega)⟩
    · have h := RBo_SM hsm hB
      exact ⟨h.1, h.2.1, 0, by decide, rfl, rfl, fun k hk => absurd hk (by omega)⟩
    · exact ⟨Or.inl rfl, ⟨fun h => absurd h (by decide), fun h => absurd rfl h⟩, ⟨fun h => absurd h (by decide), fun h => absurd rfl h⟩, fun h => absurd h (by decide), fun h => absurd h (by decide)⟩
  · obtain ⟨n1, n2, n3⟩ := FR_ne hFR
    have n3 : ¬ f ≤ 0 := n3
    rw [if_neg n3]
    obtain ⟨r1, r2, r3⟩ := hFR
    have r2 : ρ.1 3 = f := r2
    have r3 : ρ.1 4 = τ.1 16 := r3
    have hP' := RPl_SM hsm hP
    have hS' := RSc_SM hsm hS
    have hF' := RFa_SM hsm hF
    have hB' := RBo_SM hsm hB
    have hI' := RIm_SM hsm hI
    refine Or.inl ⟨n1, ?_, D, C, S, hP', hS', ⟨r3, htx, 0, by decide, rfl, rfl, fun j hj => absurd hj (by omega)⟩, hF', hB', hI'⟩
    show -10 - ρ.1 3 = -10 - f
    rw [r2]
