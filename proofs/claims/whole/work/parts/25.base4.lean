theorem mThen_t {r : Int32 × S2} {f : S2 → Int32 × S2} (h : r.1 ≤ 0) : mThen r f = f r.2 := if_pos h
theorem mThen_f {r : Int32 × S2} {f : S2 → Int32 × S2} (h : ¬ r.1 ≤ 0) : mThen r f = r := if_neg h
theorem mInto_PI {j : Nat} {k lo hi : Int32} {σ : S2} (h : PI σ) : PI (mInto j k lo hi σ).2 := mTN_PI h
theorem mTN_ok {lo hi : Int32} {σ : S2} (h : (mTN lo hi σ).1 ≤ 0) : inB ((mTN lo hi σ).2.1 18).toInt lo.toInt hi.toInt := by
  unfold mTN at h ⊢
  split at h
  · rename_i hd
    rw [if_pos hd]
    unfold mNum at h ⊢
    split at h
    · exact absurd (show (2 : Int32) ≤ 0 from h) (by decide)
    · rename_i hc
      rw [if_neg hc]
      exact Decidable.not_not.mp (fun z => hc (Or.inr z))
  · exact absurd (show (1 : Int32) ≤ 0 from h) (by decide)
theorem PI_su {σ : S2} {k : Nat} {v : Int32} (h : PI σ) (h1 : k ≠ 15) (h2 : k ≠ 17) : PI (su σ k v) := by
  obtain ⟨T, p, a1, a2, a3, a4⟩ := h
  refine ⟨T, p, a1, a2, ?_, ?_⟩
  · rw [← a3]; simp [su, va_up, Ne.symm h1]
  · rw [← a4]; simp [su, va_up, Ne.symm h2]
theorem mHere_lt {σ : S2} (h : ¬ (mHere σ).1 = -1) : sk (σ.2 14) (mT σ) (cl (σ.1 17)) < mT σ := by
  unfold mHere at h
  dsimp only at h
  by_cases q : sk (σ.2 14) (mT σ) (cl (σ.1 17)) < mT σ
  · exact q
  · rw [if_neg q] at h; exact absurd rfl h
theorem mStep_PI {σ : S2} (h : PI σ) (hn : ¬ (mHere σ).1 = -1) : PI (su (mHere σ).2 17 ((mHere σ).2.1 17 + 1)) := by
  have hl := mHere_lt hn
  obtain ⟨T, p, h1, h2, h3, h4⟩ := h
  have e1 : mT σ = T := by unfold mT cl; rw [h3]; exact nI_clamp (by omega)
  rw [e1] at hl
  refine ⟨T, sk (σ.2 14) T (cl (σ.1 17)) + 1, h1, hl, h3, ?_⟩
  show nI (sk (σ.2 14) (mT σ) (cl (σ.1 17))) + 1 = _
  rw [e1, nI_1]
noncomputable def mEnd (r : Int32 × S2) : Int32 × S2 := if r.1 = 0 then (if (mHere r.2).1 = 59 then (0, su (mHere r.2).2 17 ((mHere r.2).2.1 17 + 1)) else (1, su (mHere r.2).2 16 ((mHere r.2).2.1 17))) else (r.1, su r.2 17 (r.2.1 17 + 1))
noncomputable def mGo (full : Prop) [Decidable full] (f : S2 → Int32 × S2) (σ : S2) : Int32 × S2 := if full then (3, su σ 16 (σ.1 17)) else mEnd (f (su σ 17 (σ.1 17 + 1)))
noncomputable def mCl1 (c : Int32) (σ : S2) : Int32 × S2 :=
  if c = 115 then mGo (0 < σ.1 20) mStr σ
  else if c = 99 then (if σ.1 20 = 0 then (1, su σ 16 (σ.1 17)) else mGo (σ.1 21 = 4) mChk σ)
  else if c = 109 then (if σ.1 20 = 0 then (1, su σ 16 (σ.1 17)) else mGo False mMrk σ)
  else if c = 114 then (if σ.1 20 = 0 then (1, su σ 16 (σ.1 17)) else mGo (¬ σ.1 28 = 0) mRai σ)
  else if c = 119 then (if σ.1 20 = 0 then (1, su σ 16 (σ.1 17)) else mGo (0 < σ.2 30 0) mWat σ)
  else (1, su σ 16 (σ.1 17))
noncomputable def mCla (σ : S2) : Int32 × S2 := mCl1 (mHere σ).1 (mHere σ).2
/-- n first places out of another row -/
def cpN (n : Nat) (h f : Nat → Int32) : Nat → Int32 := lp (fun c f => upd f c (h c)) n 0 f
theorem cp_aux (h : Nat → Int32) : ∀ (n i : Nat) (f : Nat → Int32) (j : Nat), lp (fun c f => upd f c (h c)) n i f j = if i ≤ j ∧ j < i + n then h j else f j := by
  intro n
  induction n with
  | zero => intro i f j; rw [if_neg (by omega)]; rfl
  | succ n ih =>
    intro i f j
    show lp _ n (i + 1) (upd f i (h i)) j = _
    rw [ih]
    by_cases h1 : i + 1 ≤ j ∧ j < i + 1 + n
    · rw [if_pos h1, if_pos (by omega)]
    · rw [if_neg h1]
      unfold upd
      by_cases h2 : j = i
      · rw [if_pos h2, if_pos (by omega), h2]
      · rw [if_neg h2, if_neg (by omega)]
theorem cpN_at (n : Nat) (h f : Nat → Int32) (j : Nat) : cpN n h f j = if j < n then h j else f j := by
  unfold cpN
  rw [cp_aux]
  by_cases q : j < n
  · rw [if_pos (by omega), if_pos q]
  · rw [if_neg (by omega), if_neg q]
def mRead (σ : S2) : S2 := aw (aw (aw (aw (aw (aw (su (su (su (su (su σ 0 (σ.1 20)) 1 (σ.1 21)) 6 (if σ.1 28 = 0 then 4 else σ.2 29 0)) 7 (σ.2 30 0)) 8 (σ.2 30 1)) 2 (cpN 4 (σ.2 22) (σ.2 2))) 3 (cpN 4 (σ.2 23) (σ.2 3))) 4 (cpN 4 (σ.2 24) (σ.2 4))) 5 (cpN 4 (σ.2 25) (σ.2 5))) 9 (cpN 14 (σ.2 27) (σ.2 9))) 10 (cpN 14 (fun _ => 0) (σ.2 10))
/-- clause by clause, until a fault or the end -/
noncomputable def mPar : Nat → S2 → Int32 × S2
  | 0, σ => (0, σ)
  | n + 1, σ => if (mHere σ).1 < 0 then (0, (mHere σ).2) else if (mCla (mHere σ).2).1 = 0 then mPar n (mCla (mHere σ).2).2 else mCla (mHere σ).2
def mBeg (σ : S2) : S2 := aw (aw (su (su (su (su (su (su σ 16 (-1)) 17 0) 20 0) 21 0) 26 0) 28 0) 30 (upd (upd (σ.2 30) 0 0) 1 0)) 27 (cpN 14 (fun _ => 0) (σ.2 27))
def mDon (σ : S2) : S2 := aw (su (su (su (su σ 11 0) 12 0) 36 0) 40 0) 44 (upd (upd (σ.2 44) 0 0) 1 0)
noncomputable def mStreet (σ : S2) : Int32 × S2 := if (mPar 201 (mBeg σ)).1 ≤ 0 then ((mPar 201 (mBeg σ)).2.1 20, mDon (mRead (su (mPar 201 (mBeg σ)).2 15 0))) else (-10 - (mPar 201 (mBeg σ)).1, su (mPar 201 (mBeg σ)).2 15 0)
/-! places go on -/
abbrev mP (σ : S2) : Nat := cl (σ.1 17)
theorem mP_of {σ : S2} {p : Nat} (h : σ.1 17 = nI p) (hp : p < 2 ^ 31) : mP σ = p := by unfold mP cl; rw [h]; exact nI_clamp hp
theorem mHere_le {σ : S2} (h : PI σ) : mP σ ≤ mP (mHere σ).2 ∧ mT (mHere σ).2 = mT σ := by
  obtain ⟨T, p, h1, h2, h3, h4⟩ := h
  have e1 : mT σ = T := by unfold mT cl; rw [h3]; exact nI_clamp (by omega)
  have e2 : mP σ = p := mP_of h4 (by omega)
  have e3 := sk_le (tx := σ.2 14) h2
  have e4 : mP (mHere σ).2 = sk (σ.2 14) T p := mP_of (by show nI _ = nI _; rw [e1]; unfold mP at e2; rw [e2]) (by omega)
  exact ⟨by rw [e2, e4]; exact e3.1, rfl⟩
theorem mTN_le {σ : S2} {lo hi : Int32} (h : PI σ) : mP σ ≤ mP (mTN lo hi σ).2 ∧ mT (mTN lo hi σ).2 = mT σ := by
  have hh := mHere_le h
  refine ⟨?_, by show cl ((mTN lo hi σ).2.1 15) = _; rw [mTN_keep (by decide) (by decide) (by decide) (by decide)]⟩
  obtain ⟨T, p, h1, h2, h3, h4⟩ := h
  have e1 : mT σ = T := by unfold mT cl; rw [h3]; exact nI_clamp (by omega)
  have e2 : cl (σ.1 17) = p := mP_of h4 (by omega)
  have e3 := sk_le (tx := σ.2 14) h2
  unfold mTN
  rw [e1, e2]
  split
  · have e5 := dgE_le (tx := σ.2 14) (T := T) (p := sk (σ.2 14) T p) e3.2
    have e6 : mT (mHere σ).2 = T := e1
    have e7 : (mHere σ).2.2 14 = σ.2 14 := rfl
    unfold mNum
    rw [e6, e7]
    have e8 : ∀ τ : S2, τ.1 17 = nI (dgE (σ.2 14) T (sk (σ.2 14) T p)) → mP σ ≤ mP τ := by
      intro τ ht
      rw [mP_of ht (by omega)]
      show cl (σ.1 17) ≤ _
      rw [e2]
      omega
    split
    · exact e8 _ rfl
    · exact e8 _ rfl
  · exact hh.1
theorem inB_vin {d n : Int32} {D N : Nat} (h : inB d.toInt (0 : Int32).toInt (n - 1).toInt) (e : n = nI D) (hD : D ≤ N) (h1 : 1 ≤ D) (hN : N < 2 ^ 31 := by decide) : vp_in d N := by
  rw [vp_in_iff]
  obtain ⟨h2, h3⟩ := h
  have h0 : (0 : Int32).toInt = 0 := rfl
  obtain ⟨k, rfl⟩ : ∃ k, D = k + 1 := ⟨D - 1, by omega⟩
  rw [e, nI_pred, nI_toInt (by omega)] at h3
  omega
