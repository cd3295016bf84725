theorem cl1_rel {ρ π σ : S2} {w : Int32} (hB : BR ρ σ) (hq : mP σ < mT σ) (hD : DR ρ π σ) : CR (xCla w ρ π).1 (xCla w ρ π).2 (mCl1 w σ) (mP σ) := by
  have e20 : π.1 0 = σ.1 20 := hD.2.2.1
  obtain ⟨h1, h2, h3, h4, h5, h6, h7, h8, h9⟩ := BR_T hB
  have hF : FRr (xFal 1 (ρ.1 2) ρ) (1, su σ 16 (σ.1 17)) := ⟨show (0 : Int32) < 1 by decide, rfl, by show ρ.1 2 = σ.1 17; rw [h8, h9]⟩
  unfold xCla mCl1
  rw [e20]
  by_cases c1 : w = 115
  · rw [if_neg (fun z => z.1 c1), if_pos c1, if_pos c1]
    exact cla_s hB hq hD
  rw [if_neg c1, if_neg c1]
  by_cases hz : σ.1 20 = 0
  · rw [if_pos ⟨c1, hz⟩]
    rw [if_pos hz, if_pos hz, if_pos hz, if_pos hz]
    refine Or.inr ?_
    repeat' split
    all_goals exact hF
  rw [if_neg (fun z => hz z.2), if_neg hz, if_neg hz, if_neg hz, if_neg hz]
  by_cases c2 : w = 99
  · rw [if_pos c2, if_pos c2]; exact cla_c hB hq hD
  rw [if_neg c2, if_neg c2]
  by_cases c3 : w = 109
  · rw [if_pos c3, if_pos c3]; exact cla_m hB hq hD hz
  rw [if_neg c3, if_neg c3]
  by_cases c4 : w = 114
  · rw [if_pos c4, if_pos c4]; exact cla_r hB hq hD
  rw [if_neg c4, if_neg c4]
  by_cases c5 : w = 119
  · rw [if_pos c5, if_pos c5]; exact cla_w hB hq hD hz
  rw [if_neg c5, if_neg c5]
  exact Or.inr hF
theorem skN_at {tx : Nat → Int32} : ∀ (n p : Nat), skN tx n p = p + n ∨ ¬ tx (skN tx n p) = 32 := by
  intro n
  induction n with
  | zero => intro p; exact Or.inl rfl
  | succ n ih =>
    intro p
    rw [skN]
    by_cases h : tx p = 32
    · rw [if_pos h]
      rcases ih (p + 1) with z | z
      · exact Or.inl (by omega)
      · exact Or.inr z
    · rw [if_neg h]; exact Or.inr h
theorem sk_sk {tx : Nat → Int32} {T p : Nat} (h : p ≤ T) : sk tx T (sk tx T p) = sk tx T p := by
  have hl := sk_le (tx := tx) h
  have ha := skN_at (tx := tx) (T - p) p
  have e : sk tx T p = skN tx (T - p) p := rfl
  rw [← e] at ha
  generalize sk tx T p = q at hl ha ⊢
  show skN tx (T - q) q = q
  cases hn : T - q with
  | zero => rfl
  | succ n =>
    rw [skN]
    rcases ha with z | z
    · omega
    · rw [if_neg z]
theorem mHere_2 {σ : S2} (h : PI σ) : mHere (mHere σ).2 = mHere σ := by
  obtain ⟨T, p, a1, a2, a3, a4⟩ := h
  have e1 : mT σ = T := by show Int32.toNatClampNeg _ = _; rw [a3]; exact nI_clamp (by omega)
  have e2 : mP σ = p := mP_of a4 (by omega)
  have hl := sk_le (tx := σ.2 14) a2
  have e3 : mP (mHere σ).2 = sk (σ.2 14) T p := mP_of (by show nI _ = nI _; rw [e1]; show nI (sk (σ.2 14) T (mP σ)) = _; rw [e2]) (by omega)
  have e4 : mT (mHere σ).2 = T := e1
  have u : ∀ τ : S2, mHere τ = (if sk (τ.2 14) (mT τ) (mP τ) < mT τ then τ.2 14 (sk (τ.2 14) (mT τ) (mP τ)) else -1, su τ 17 (nI (sk (τ.2 14) (mT τ) (mP τ)))) := fun _ => rfl
  have e5 : (mHere σ).2.2 14 = σ.2 14 := rfl
  have e6 : (mHere σ).2 = su σ 17 (nI (sk (σ.2 14) T p)) := by rw [u σ, e1, e2]
  rw [u (mHere σ).2, e3, e4, e5, sk_sk a2, u σ, e1, e2]
  have e7 : su (su σ 17 (nI (sk (σ.2 14) T p))) 17 (nI (sk (σ.2 14) T p)) = su σ 17 (nI (sk (σ.2 14) T p)) := by
    unfold su
    dsimp only
    congr 1
    funext j
    unfold va_up
    split <;> rfl
  rw [e7]
/-- what is left of a reading: no fault, and the data are the same; or the same fault -/
def ER (P : S2 × S2) (M : Int32 × S2) : Prop := (M.1 = 0 ∧ P.1.1 3 = 0 ∧ P.1.1 4 = M.2.1 16 ∧ DR P.1 P.2 M.2) ∨ FRr P.1 M
theorem xPar_f {n : Nat} {ρ π : S2} (h : ¬ ρ.1 3 = 0) : xPar n ρ π = (ρ, π) := by
  cases n with
  | zero => rfl
  | succ n => rw [xPar_s, if_neg h]
theorem par_rel {tx : Nat → Int32} {T : Nat} (hT : T ≤ 200) (htx : ∀ j, j < T → 0 ≤ (tx j).toInt) : ∀ (n m : Nat) (ρ π σ : S2), BR ρ σ → DR ρ π σ → PQ σ → σ.2 14 = tx → mT σ = T → T - mP σ ≤ n → T - mP σ < m → (∀ σ' : S2, PQ σ' → σ'.2 14 = tx → (mCla σ').2.2 14 = tx) → ER (xPar n ρ π) (mPar m σ) := by
  intro n
  induction n with
  | zero =>
    intro m ρ π σ hB hD hPQ ht hm h1 h2 hkeep
    obtain ⟨m, rfl⟩ : ∃ k, m = k + 1 := ⟨m - 1, by omega⟩
    have hk := BR_K hB
    have hv := mHere_v hB
    have hr : ¬ rK ρ < mT σ := by omega
    rw [if_neg hr] at hv
    have e : mPar (m + 1) σ = (0, (mHere σ).2) := by
      show (if (mHere σ).1 < 0 then (0, (mHere σ).2) else _) = _
      rw [if_pos (by rw [hv]; decide)]
    rw [e]
    exact Or.inl ⟨rfl, hB.1, hB.2.1, hD⟩
  | succ n ih =>
    intro m ρ π σ hB hD hPQ ht hm h1 h2 hkeep
    obtain ⟨m, rfl⟩ : ∃ k, m = k + 1 := ⟨m - 1, by omega⟩
    have hk := BR_K hB
    have hT2 := BR_T hB
    have hv := mHere_v hB
    have hB1 := BR_skp hB
    have em : mPar (m + 1) σ = if (mHere σ).1 < 0 then (0, (mHere σ).2) else if (mCla (mHere σ).2).1 = 0 then mPar m (mCla (mHere σ).2).2 else mCla (mHere σ).2 := rfl
    rw [xPar_s, if_pos hB.1, em]
    by_cases hr : rK ρ < mT σ
    · rw [if_pos (by rw [hT2.1]; exact hr)]
      rw [if_pos hr] at hv
      have hnn : ¬ (mHere σ).1 < 0 := by
        rw [hv, Int32.lt_iff_toInt_lt, ht]
        have := htx (rK ρ) (by omega)
        have h0 : (0 : Int32).toInt = 0 := rfl
        omega
      rw [if_neg hnn]
      have hPQ1 : PQ (mHere σ).2 := ⟨mHere_PI hPQ.1, hPQ.2.1, hPQ.2.2⟩
      have hP1 : mP (mHere σ).2 = rK ρ := mP_of (by show nI (sk (σ.2 14) (mT σ) (mP σ)) = _; rw [← hk.1]) (by omega)
      have hT1 : mT (mHere σ).2 = mT σ := rfl
      have ec : mCla (mHere σ).2 = mCl1 (mHere σ).1 (mHere σ).2 := by
        unfold mCla
        rw [mHere_2 hPQ.1]
      have hok := mCla_ok hPQ1
      have hk2 := hkeep _ hPQ1 (show (mHere σ).2.2 14 = tx from ht)
      have hc := cl1_rel (w := (mHere σ).1) hB1 (by rw [hP1, hT1]; exact hr) (show DR (xSkp ρ) π (mHere σ).2 from hD)
      rw [← ec] at hc
      have ew : ρ.2 0 (rK ρ) = (mHere σ).1 := by rw [hv, hT2.2.2.2.2.1]
      rw [ew]
      rcases hc with ⟨c1, c2, c3, c4⟩ | hF
      · rw [if_pos c1]
        obtain ⟨o1, o2, o3⟩ := hok c1
        exact ih m _ _ _ c2 c3 o1 hk2 (by rw [o3, hT1]; exact hm) (by omega) (by omega) hkeep
      · rw [if_neg (FR_ne hF).2.1, xPar_f (FR_ne hF).1]
        exact Or.inr hF
    · rw [if_neg (by rw [hT2.1]; exact hr)]
      rw [if_neg hr] at hv
      rw [if_pos (by rw [hv]; decide)]
      exact Or.inl ⟨rfl, hB.1, hB.2.1, hD⟩
/-! what reading leaves as it is -/
def SM (σ τ : S2) : Prop := (∀ k, k < 16 ∨ 30 < k → τ.1 k = σ.1 k) ∧ ∀ k, k < 22 ∨ 30 < k → τ.2 k = σ.2 k
theorem SM.rf {σ : S2} : SM σ σ := ⟨fun _ _ => rfl, fun _ _ => rfl⟩
theorem SM.tr {σ τ υ : S2} (h : SM σ τ) (k : SM τ υ) : SM σ υ := ⟨fun i hi => (k.1 i hi).trans (h.1 i hi), fun i hi => (k.2 i hi).trans (h.2 i hi)⟩
theorem SMs {σ τ : S2} {k : Nat} {v : Int32} (h : SM σ τ) (h1 : 16 ≤ k) (h2 : k ≤ 30) : SM σ (su τ k v) := ⟨fun i hi => by
  have : i ≠ k := by omega
  show va_up τ.1 k v i = _
  simp only [va_up, this, if_false]
  exact h.1 i hi, h.2⟩
theorem SMa {σ τ : S2} {j i0 : Nat} {v : Int32} (h : SM σ τ) (h1 : 22 ≤ j) (h2 : j ≤ 30) : SM σ (au τ j i0 v) := ⟨h.1, fun i hi => by
  have : i ≠ j := by omega
  show va_up τ.2 j _ i = _
  simp only [va_up, this, if_false]
  exact h.2 i hi⟩
theorem SM_here {σ : S2} : SM σ (mHere σ).2 := SMs (k := 17) SM.rf (by decide) (by decide)
theorem SM_TN {σ : S2} {lo hi : Int32} : SM σ (mTN lo hi σ).2 := ⟨fun i hi => mTN_keep (by omega) (by omega) (by omega) (by omega), fun i _ => by rw [mTN_rows]⟩
theorem SM_into {σ : S2} {j : Nat} {k lo hi : Int32} (h1 : 22 ≤ j) (h2 : j ≤ 30) : SM σ (mInto j k lo hi σ).2 := SMa SM_TN h1 h2
theorem SM_then {σ : S2} {r : Int32 × S2} {f : S2 → Int32 × S2} (h : SM σ r.2) (hf : ∀ τ, SM τ (f τ).2) : SM σ (mThen r f).2 := by
  unfold mThen
  split
  · exact h.tr (hf _)
  · exact h
theorem SM_end {σ : S2} {r : Int32 × S2} (h : SM σ r.2) : SM σ (mEnd r).2 := by
  unfold mEnd
  split
  · split
    · exact SMs (h.tr SM_here) (by decide) (by decide)
    · exact SMs (h.tr SM_here) (by decide) (by decide)
  · exact SMs h (by decide) (by decide)
theorem SM_go {σ : S2} {full : Prop} [Decidable full] {f : S2 → Int32 × S2} (hf : ∀ τ, SM τ (f τ).2) : SM σ (mGo full f σ).2 := by
  unfold mGo
  split
  · exact SMs SM.rf (by decide) (by decide)
  · exact SM_end ((SMs (k := 17) SM.rf (by decide) (by decide)).tr (hf _))
theorem SM_str {τ : S2} : SM τ (mStr τ).2 := SMs SM_TN (by decide) (by decide)
theorem SM_chk {τ : S2} : SM τ (mChk τ).2 := SM_then (SM_then (SM_then ((SMs (k := 21) SM.rf (by decide) (by decide)).tr (SM_into (by decide) (by decide))) (fun _ => SM_into (by decide) (by decide))) (fun _ => SM_into (by decide) (by decide))) (fun _ => SM_into (by decide) (by decide))
theorem SM_mrk {τ : S2} : SM τ (mMrk τ).2 := by
  unfold mMrk
  split
  · unfold mMrk2
    split
    · exact SMs SM_TN (by decide) (by decide)
    · exact (SMs (k := 26) SM_TN (by decide) (by decide)).tr (SM_into (by decide) (by decide))
  · exact SM_TN
theorem SM_rai {τ : S2} : SM τ (mRai τ).2 := (SMs (k := 28) SM.rf (by decide) (by decide)).tr (SM_into (by decide) (by decide))
theorem SM_wat {τ : S2} : SM τ (mWat τ).2 := SM_then (SM_into (by decide) (by decide)) (fun _ => SM_into (by decide) (by decide))
theorem SM_cla {σ : S2} : SM σ (mCla σ).2 := by
  refine SM_here.tr ?_
  unfold mCla mCl1
  have hF : SM (mHere σ).2 (su (mHere σ).2 16 ((mHere σ).2.1 17)) := SMs SM.rf (by decide) (by decide)
  split
  · exact SM_go (fun _ => SM_str)
  split
  · split
    · exact hF
    · exact SM_go (fun _ => SM_chk)
  split
  · split
    · exact hF
    · exact SM_go (fun _ => SM_mrk)
  split
  · split
    · exact hF
    · exact SM_go (fun _ => SM_rai)
  split
  · split
    · exact hF
    · exact SM_go (fun _ => SM_wat)
  · exact hF
theorem SM_par : ∀ (n : Nat) (σ : S2), SM σ (mPar n σ).2 := by
  intro n
  induction n with
  | zero => intro σ; exact SM.rf
  | succ n ih =>
    intro σ
    have em : mPar (n + 1) σ = if (mHere σ).1 < 0 then (0, (mHere σ).2) else if (mCla (mHere σ).2).1 = 0 then mPar n (mCla (mHere σ).2).2 else mCla (mHere σ).2 := rfl
    rw [em]
    split
    · exact SM_here
    · split
      · exact (SM_here.tr SM_cla).tr (ih _)
      · exact SM_here.tr SM_cla
theorem xCla_r {w : Int32} {ρ π : S2} : (xCla w ρ π).1.2 = ρ.2 := by
  unfold xCla
  split
  · rfl
  split
  · unfold xDoo; dsimp only; rw [xEnd_r, xNum_r, xWrd_r]
  split
  · unfold xChk xC4 xC3 xC2 xC1; dsimp only; rw [xEnd_r, xNum_r, xNum_r, xNum_r, xNum_r, xWrd_r]
  split
  · have h1 : (xM1 ρ π).2.2 = ρ.2 := by unfold xM1; rw [xNum_r, xWrd_r]
    have h2 : (xM2 ρ π).2 = ρ.2 := by
      unfold xM2
      split
      · exact h1
      · exact h1
    have h3 : (xM3 ρ π).2.2 = ρ.2 := by unfold xM3; rw [xNum_r, h2]
    have h4 : (xEnd (xM3 ρ π).2).2 = ρ.2 := by rw [xEnd_r, h3]
    unfold xMrk
    split
    · exact h4
    · exact h4
  split
  · unfold xRai; dsimp only
    rw [xEnd_r]
    show (xNum 0 8 (xWrd (ρ.1 6) ρ)).2.2 = _
    rw [xNum_r, xWrd_r]
  split
  · unfold xWat xW1; dsimp only; rw [xEnd_r, xNum_r, xNum_r, xWrd_r]
  · rfl
theorem xPar_r : ∀ (n : Nat) (ρ π : S2), (xPar n ρ π).1.2 = ρ.2 := by
  intro n
  induction n with
  | zero => intro ρ π; rfl
  | succ n ih =>
    intro ρ π
    rw [xPar_s]
    split
    · split
      · rw [ih, xCla_r]; rfl
      · rfl
    · rfl
