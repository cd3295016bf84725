theorem lt_of_nle {x y : Int32} (h : ¬ x ≤ y) : y < x := by rw [Int32.le_iff_toInt_le] at h; rw [Int32.lt_iff_toInt_lt]; omega
theorem nlt_of_le {x y : Int32} (h : x ≤ y) : ¬ y < x := fun q => nle_of_lt q h
/-- reading goes on: the text is the same, the place is no less, doors and chalks are as they were -/
def Adv (σ τ : S2) : Prop := PI τ ∧ mP σ ≤ mP τ ∧ mT τ = mT σ ∧ τ.1 20 = σ.1 20 ∧ τ.1 21 = σ.1 21
theorem Adv.tr {σ τ υ : S2} (h : Adv σ τ) (k : Adv τ υ) : Adv σ υ := ⟨k.1, Nat.le_trans h.2.1 k.2.1, k.2.2.1.trans h.2.2.1, k.2.2.2.1.trans h.2.2.2.1, k.2.2.2.2.trans h.2.2.2.2⟩
theorem Adv.put {σ τ : S2} (h : Adv σ τ) {k : Nat} {v : Int32} (h1 : k ≠ 15) (h2 : k ≠ 17) (h3 : k ≠ 20) (h4 : k ≠ 21) : Adv σ (su τ k v) := by
  obtain ⟨a, b, c, d, e⟩ := h
  have key : ∀ j, j ≠ k → (su τ k v).1 j = τ.1 j := fun j hj => by simp [su, va_up, hj]
  refine ⟨PI_su a h1 h2, ?_, ?_, ?_, ?_⟩
  · show _ ≤ cl _; rw [key 17 (Ne.symm h2)]; exact b
  · show cl _ = _; rw [key 15 (Ne.symm h1)]; exact c
  · rw [key 20 (Ne.symm h3)]; exact d
  · rw [key 21 (Ne.symm h4)]; exact e
theorem Adv.rf {σ : S2} (h : PI σ) : Adv σ σ := ⟨h, Nat.le_refl _, rfl, rfl, rfl⟩
theorem adv_TN {σ : S2} {lo hi : Int32} (h : PI σ) : Adv σ (mTN lo hi σ).2 := ⟨mTN_PI h, (mTN_le h).1, (mTN_le h).2, mTN_keep (by decide) (by decide) (by decide) (by decide), mTN_keep (by decide) (by decide) (by decide) (by decide)⟩
theorem adv_Into {j : Nat} {k lo hi : Int32} {σ : S2} (h : PI σ) : Adv σ (mInto j k lo hi σ).2 := adv_TN h
theorem adv_Then {σ : S2} {r : Int32 × S2} {f : S2 → Int32 × S2} (h : Adv σ r.2) (hf : ∀ τ, PI τ → Adv τ (f τ).2) : Adv σ (mThen r f).2 := by
  unfold mThen
  split
  · exact h.tr (hf _ h.1)
  · exact h
theorem adv_Here {σ : S2} (h : PI σ) : Adv σ (mHere σ).2 := ⟨mHere_PI h, (mHere_le h).1, (mHere_le h).2, rfl, rfl⟩
theorem adv_Mrk {σ : S2} (h : PI σ) : Adv σ (mMrk σ).2 := by
  unfold mMrk
  split
  · unfold mMrk2
    split
    · exact (adv_TN h).put (by decide) (by decide) (by decide) (by decide)
    · have h1 := (adv_TN (lo := 0) (hi := σ.1 20 - 1) h).put (k := 26) (v := (mTN 0 (σ.1 20 - 1) σ).2.1 26 ||| bit ((mTN 0 (σ.1 20 - 1) σ).2.1 18)) (by decide) (by decide) (by decide) (by decide)
      exact h1.tr (adv_Into h1.1)
  · exact adv_TN h
theorem adv_Rai {σ : S2} (h : PI σ) : Adv σ (mRai σ).2 := by
  have h1 := (Adv.rf h).put (k := 28) (v := 1) (by decide) (by decide) (by decide) (by decide)
  exact h1.tr (adv_Into h1.1)
theorem adv_Wat {σ : S2} (h : PI σ) : Adv σ (mWat σ).2 := adv_Then (adv_Into h) (fun τ ht => adv_Into ht)
theorem adv_Chk {σ : S2} (h : PI σ) : Adv (su σ 21 (σ.1 21 + 1)) (mChk σ).2 := adv_Then (adv_Then (adv_Then (adv_Into (PI_su h (by decide) (by decide))) (fun τ ht => adv_Into ht)) (fun τ ht => adv_Into ht)) (fun τ ht => adv_Into ht)
theorem mStr_PI {σ : S2} (h : PI σ) : PI (mStr σ).2 := PI_su (mTN_PI h) (by decide) (by decide)
/-- what is known between clauses -/
def PQ (σ : S2) : Prop := PI σ ∧ (∃ D : Nat, D ≤ 14 ∧ σ.1 20 = nI D) ∧ ∃ C : Nat, C ≤ 4 ∧ σ.1 21 = nI C
theorem mEnd_ok {σ : S2} {r : Int32 × S2} (hr : PI r.2) (hD : ∃ D : Nat, D ≤ 14 ∧ r.2.1 20 = nI D) (hC : ∃ C : Nat, C ≤ 4 ∧ r.2.1 21 = nI C) (hp : mP σ ≤ mP r.2) (ht : mT r.2 = mT σ) (h0 : (mEnd r).1 = 0) : PQ (mEnd r).2 ∧ mP σ < mP (mEnd r).2 ∧ mT (mEnd r).2 = mT σ := by
  unfold mEnd at h0 ⊢
  by_cases h1 : r.1 = 0
  · rw [if_pos h1] at h0 ⊢
    by_cases h2 : (mHere r.2).1 = 59
    · rw [if_pos h2] at h0 ⊢
      have hn : ¬ (mHere r.2).1 = -1 := by rw [h2]; decide
      have hq := mStep_PI hr hn
      have ha := adv_Here hr
      refine ⟨⟨hq, hD, hC⟩, ?_, ht⟩
      obtain ⟨T, p, a1, a2, a3, a4⟩ := mHere_PI hr
      have e1 : mP (mHere r.2).2 = p := mP_of a4 (by omega)
      have e2 : mP (su (mHere r.2).2 17 ((mHere r.2).2.1 17 + 1)) = p + 1 := mP_of (by show (mHere r.2).2.1 17 + 1 = _; rw [a4, nI_1]) (by omega)
      show _ < mP (su (mHere r.2).2 17 ((mHere r.2).2.1 17 + 1))
      rw [e2]
      have := ha.2.1
      omega
    · rw [if_neg h2] at h0
      exact absurd (show (1 : Int32) = 0 from h0) (by decide)
  · rw [if_neg h1] at h0
    exact absurd h0 h1
theorem mGo_ok {σ : S2} {full : Prop} [Decidable full] {f : S2 → Int32 × S2} (hq : PQ σ) (hs : PI (su σ 17 (σ.1 17 + 1))) (hf : ∀ τ, τ = su σ 17 (σ.1 17 + 1) → ¬ full → PI (f τ).2 ∧ ((f τ).1 = 0 → ∃ D : Nat, D ≤ 14 ∧ (f τ).2.1 20 = nI D) ∧ (∃ C : Nat, C ≤ 4 ∧ (f τ).2.1 21 = nI C) ∧ mP τ ≤ mP (f τ).2 ∧ mT (f τ).2 = mT τ) (h0 : (mGo full f σ).1 = 0) : PQ (mGo full f σ).2 ∧ mP σ < mP (mGo full f σ).2 ∧ mT (mGo full f σ).2 = mT σ := by
  unfold mGo at h0 ⊢
  by_cases hfu : full
  · rw [if_pos hfu] at h0
    exact absurd (show (3 : Int32) = 0 from h0) (by decide)
  · rw [if_neg hfu] at h0 ⊢
    obtain ⟨b1, b2, b3, b4, b5⟩ := hf _ rfl hfu
    have hz : (f (su σ 17 (σ.1 17 + 1))).1 = 0 := by
      unfold mEnd at h0
      by_cases h1 : (f (su σ 17 (σ.1 17 + 1))).1 = 0
      · exact h1
      · rw [if_neg h1] at h0; exact absurd h0 h1
    have hle : mP σ ≤ mP (su σ 17 (σ.1 17 + 1)) := by
      obtain ⟨T, p, a1, a2, a3, a4⟩ := hq.1
      rw [mP_of a4 (by omega), mP_of (p := p + 1) (by show σ.1 17 + 1 = _; rw [a4, nI_1]) (by omega)]
      omega
    exact mEnd_ok b1 (b2 hz) b3 (Nat.le_trans hle b4) b5 h0
theorem mCla_ok {σ : S2} (hq : PQ σ) (h0 : (mCla σ).1 = 0) : PQ (mCla σ).2 ∧ mP σ < mP (mCla σ).2 ∧ mT (mCla σ).2 = mT σ := by
  have ha := adv_Here hq.1
  have hq1 : PQ (mHere σ).2 := ⟨ha.1, hq.2.1, hq.2.2⟩
  have fin : ∀ r : Int32 × S2, PQ r.2 ∧ mP (mHere σ).2 < mP r.2 ∧ mT r.2 = mT (mHere σ).2 → PQ r.2 ∧ mP σ < mP r.2 ∧ mT r.2 = mT σ := fun r h => ⟨h.1, Nat.lt_of_le_of_lt ha.2.1 h.2.1, h.2.2.trans ha.2.2.1⟩
  have key : ∀ {c : Int32}, (mHere σ).1 = c → ¬ c = -1 → PI (su (mHere σ).2 17 ((mHere σ).2.1 17 + 1)) := fun e hc => mStep_PI hq.1 (by rw [e]; exact hc)
  have gen : ∀ {τ : S2} {r : S2}, Adv τ r → τ = su (mHere σ).2 17 ((mHere σ).2.1 17 + 1) → PI r ∧ (∃ D : Nat, D ≤ 14 ∧ r.1 20 = nI D) ∧ (∃ C : Nat, C ≤ 4 ∧ r.1 21 = nI C) ∧ mP τ ≤ mP r ∧ mT r = mT τ := by
    intro τ r h e
    subst e
    refine ⟨h.1, ?_, ?_, h.2.1, h.2.2.1⟩
    · rw [h.2.2.2.1]; exact hq.2.1
    · rw [h.2.2.2.2]; exact hq.2.2
  unfold mCla mCl1 at h0 ⊢
  by_cases c1 : (mHere σ).1 = 115
  · rw [if_pos c1] at h0 ⊢
    refine fin _ (mGo_ok hq1 (key c1 (by decide)) (fun τ e hf => ?_) h0)
    have hpi : PI τ := by rw [e]; exact key c1 (by decide)
    have h1 := adv_TN (lo := 1) (hi := 14) hpi
    refine ⟨mStr_PI hpi, fun hz => ?_, ?_, h1.2.1, h1.2.2.1⟩
    · have hz : (mTN 1 14 τ).1 = 0 := hz
      have h2 := mTN_ok (lo := 1) (hi := 14) (σ := τ) (by rw [hz]; decide)
      have h3 : inB ((mTN 1 14 τ).2.1 18).toInt 1 14 := h2
      obtain ⟨e1, e2⟩ := clN h3 (by decide)
      exact ⟨cl ((mTN 1 14 τ).2.1 18), by have := h3.2; omega, e1⟩
    · obtain ⟨C, hC, eC⟩ := hq.2.2
      exact ⟨C, hC, by show (mTN 1 14 τ).2.1 21 = _; rw [h1.2.2.2.2, e]; exact eC⟩
  rw [if_neg c1] at h0 ⊢
  by_cases c2 : (mHere σ).1 = 99
  · rw [if_pos c2] at h0 ⊢
    by_cases hz : (mHere σ).2.1 20 = 0
    · rw [if_pos hz] at h0; exact absurd (show (1 : Int32) = 0 from h0) (by decide)
    rw [if_neg hz] at h0 ⊢
    refine fin _ (mGo_ok hq1 (key c2 (by decide)) (fun τ e hf => ?_) h0)
    have hpi : PI τ := by rw [e]; exact key c2 (by decide)
    have h1 := adv_Chk hpi
    refine ⟨h1.1, fun _ => ?_, ?_, h1.2.1, h1.2.2.1⟩
    · obtain ⟨D, hD, eD⟩ := hq.2.1
      exact ⟨D, hD, by rw [h1.2.2.2.1, e]; exact eD⟩
    · obtain ⟨C, hC, eC⟩ := hq.2.2
      have hne : C ≠ 4 := fun z => hf (by show σ.1 21 = 4; rw [eC, z]; rfl)
      exact ⟨C + 1, by omega, by rw [h1.2.2.2.2, e]; show σ.1 21 + 1 = _; rw [eC, nI_1]⟩
  rw [if_neg c2] at h0 ⊢
  by_cases c3 : (mHere σ).1 = 109
  · rw [if_pos c3] at h0 ⊢
    by_cases hz : (mHere σ).2.1 20 = 0
    · rw [if_pos hz] at h0; exact absurd (show (1 : Int32) = 0 from h0) (by decide)
    rw [if_neg hz] at h0 ⊢
    exact fin _ (mGo_ok hq1 (key c3 (by decide)) (fun τ e hf => let z := gen (adv_Mrk (by rw [e]; exact key c3 (by decide))) e; ⟨z.1, fun _ => z.2.1, z.2.2.1, z.2.2.2.1, z.2.2.2.2⟩) h0)
  rw [if_neg c3] at h0 ⊢
  by_cases c4 : (mHere σ).1 = 114
  · rw [if_pos c4] at h0 ⊢
    by_cases hz : (mHere σ).2.1 20 = 0
    · rw [if_pos hz] at h0; exact absurd (show (1 : Int32) = 0 from h0) (by decide)
    rw [if_neg hz] at h0 ⊢
    exact fin _ (mGo_ok hq1 (key c4 (by decide)) (fun τ e hf => let z := gen (adv_Rai (by rw [e]; exact key c4 (by decide))) e; ⟨z.1, fun _ => z.2.1, z.2.2.1, z.2.2.2.1, z.2.2.2.2⟩) h0)
  rw [if_neg c4] at h0 ⊢
  by_cases c5 : (mHere σ).1 = 119
  · rw [if_pos c5] at h0 ⊢
    by_cases hz : (mHere σ).2.1 20 = 0
    · rw [if_pos hz] at h0; exact absurd (show (1 : Int32) = 0 from h0) (by decide)
    rw [if_neg hz] at h0 ⊢
    exact fin _ (mGo_ok hq1 (key c5 (by decide)) (fun τ e hf => let z := gen (adv_Wat (by rw [e]; exact key c5 (by decide))) e; ⟨z.1, fun _ => z.2.1, z.2.2.1, z.2.2.2.1, z.2.2.2.2⟩) h0)
  rw [if_neg c5] at h0
  exact absurd (show (1 : Int32) = 0 from h0) (by decide)
