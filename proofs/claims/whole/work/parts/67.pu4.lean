/-! what a text tells, clause by clause -/
def CkR (π : S2) (a b c d : Nat → Int32) (j : Nat) : Prop := π.2 2 j = a j ∧ π.2 3 j = b j ∧ π.2 4 j = c j ∧ π.2 5 j = d j ∧ kind3 (a j) ∧ (∃ k : Nat, k ≤ 8 ∧ b j = nI k) ∧ (∃ k : Nat, k ≤ 20 ∧ c j = nI k) ∧ ∃ k : Nat, k ≤ 7 ∧ d j = nI k
def DV (r6 r7 : Int32) (π : S2) (v20 v21 v26 v28 : Int32) (a b c d mk rn wt : Nat → Int32) : Prop :=
  r6 = v28 ∧ r7 = v26 ∧ π.1 0 = v20 ∧ π.1 1 = v21 ∧ π.1 7 = (if v28 = 0 then 4 else rn 0) ∧ π.1 8 = wt 0 ∧ π.1 9 = wt 1 ∧ (∃ r : Nat, r ≤ 13 ∧ wt 1 = nI r) ∧
  ∃ D C S : Nat, D ≤ 14 ∧ C ≤ 4 ∧ S ≤ 9 ∧ v20 = nI D ∧ v21 = nI C ∧ wt 0 = nI S ∧ (S ≠ 0 → 1 ≤ D) ∧ (∀ j, j < 14 → π.2 6 j = mk j) ∧ MkI D mk ∧ ∀ j, j < C → CkR π a b c d j
def DR (ρ π σ : S2) : Prop := DV (ρ.1 6) (ρ.1 7) π (σ.1 20) (σ.1 21) (σ.1 26) (σ.1 28) (σ.2 22) (σ.2 23) (σ.2 24) (σ.2 25) (σ.2 27) (σ.2 29) (σ.2 30)
theorem BR_PI {ρ σ : S2} (h : BR ρ σ) : PI σ := by
  obtain ⟨h1, h2, h3, h4, h5, h6, h7, h8, h9⟩ := BR_T h
  exact ⟨mT σ, mP σ, h4, h3, h7, h9⟩
theorem BR_su1 {ρ σ : S2} {k : Nat} {v : Int32} (h : BR ρ σ) (h1 : k ≠ 1) (h2 : k ≠ 2) (h3 : k ≠ 3) (h4 : k ≠ 4) : BR (su ρ k v) σ := by
  obtain ⟨a, b, T, p, c1, c2, c3, c4, c5, c6, c7⟩ := h
  have key : ∀ j, j ≠ k → (su ρ k v).1 j = ρ.1 j := fun j hj => by simp [su, va_up, hj]
  exact ⟨by rw [key 3 (Ne.symm h3)]; exact a, by rw [key 4 (Ne.symm h4)]; exact b, T, p, c1, c2, by rw [key 1 (Ne.symm h1)]; exact c3, c4, by rw [key 2 (Ne.symm h2)]; exact c5, c6, c7⟩
theorem BR_su2 {ρ σ : S2} {k : Nat} {v : Int32} (h : BR ρ σ) (h1 : k ≠ 15) (h2 : k ≠ 16) (h3 : k ≠ 17) : BR ρ (su σ k v) := by
  obtain ⟨a, b, T, p, c1, c2, c3, c4, c5, c6, c7⟩ := h
  have key : ∀ j, j ≠ k → (su σ k v).1 j = σ.1 j := fun j hj => by simp [su, va_up, hj]
  exact ⟨a, by rw [key 16 (Ne.symm h2)]; exact b, T, p, c1, c2, c3, by rw [key 15 (Ne.symm h1)]; exact c4, c5, by rw [key 17 (Ne.symm h3)]; exact c6, c7⟩
theorem BR_au2 {ρ σ : S2} {j i : Nat} {v : Int32} (h : BR ρ σ) (h1 : j ≠ 14) : BR ρ (au σ j i v) := by
  obtain ⟨a, b, T, p, c1, c2, c3, c4, c5, c6, c7⟩ := h
  have key : (au σ j i v).2 14 = σ.2 14 := by simp [au, va_up, Ne.symm h1]
  exact ⟨a, b, T, p, c1, c2, c3, c4, c5, c6, by rw [key]; exact c7⟩
theorem mInto_k {j : Nat} {k lo hi : Int32} {τ : S2} {i : Nat} (h6 : i ≠ 16) (h7 : i ≠ 17) (h8 : i ≠ 18) (h9 : i ≠ 19) : (mInto j k lo hi τ).2.1 i = τ.1 i := mTN_keep h6 h7 h8 h9
theorem mInto_ri {j : Nat} {k lo hi : Int32} {τ : S2} {i : Nat} (h : i ≠ j) : (mInto j k lo hi τ).2.2 i = τ.2 i := by
  have e : (mInto j k lo hi τ).2.2 i = va_up (mTN lo hi τ).2.2 j (upd ((mTN lo hi τ).2.2 j) (cl k) ((mTN lo hi τ).2.1 18)) i := rfl
  rw [e, mTN_rows]
  simp [va_up, h]
theorem mInto_rj {j : Nat} {k lo hi : Int32} {τ : S2} : (mInto j k lo hi τ).2.2 j = upd (τ.2 j) (cl k) ((mTN lo hi τ).2.1 18) := by
  have e : (mInto j k lo hi τ).2.2 j = va_up (mTN lo hi τ).2.2 j (upd ((mTN lo hi τ).2.2 j) (cl k) ((mTN lo hi τ).2.1 18)) j := rfl
  rw [e, mTN_rows]
  simp [va_up]
theorem into_rel {ρ σ : S2} {j : Nat} {k lo hi : Int32} (hj : j ≠ 14) (hB : BR ρ σ) : ((mInto j k lo hi σ).1 = 0 ∧ (xNum lo hi ρ).1 = (mTN lo hi σ).2.1 18 ∧ BR (xNum lo hi ρ).2 (mInto j k lo hi σ).2 ∧ inB (xNum lo hi ρ).1.toInt lo.toInt hi.toInt) ∨ FRr (xNum lo hi ρ).2 (mInto j k lo hi σ) := by
  rcases num_rel (lo := lo) (hi := hi) hB with ⟨h1, h2, h3, h4, h5⟩ | h
  · exact Or.inl ⟨h1, h2, BR_au2 h3 hj, h5⟩
  · exact Or.inr h
theorem then_f {ρ : S2} {r : Int32 × S2} {f : S2 → Int32 × S2} (h : FRr ρ r) : FRr ρ (mThen r f) := by
  rw [mThen_f (FR_ne h).2.2]; exact h
theorem num_f {ρ : S2} {lo hi : Int32} {r : Int32 × S2} (h : FRr ρ r) : FRr (xNum lo hi ρ).2 r := by
  rw [xNum_f (FR_ne h).1]; exact h
theorem end_f {ρ : S2} {r : Int32 × S2} (h : FRr ρ r) : FRr (xEnd ρ) (mEnd r) := by
  rw [xEnd_f (FR_ne h).1]; exact mEnd_f h
theorem then_t {r : Int32 × S2} {f : S2 → Int32 × S2} (h : r.1 = 0) : mThen r f = f r.2 := mThen_t (by rw [h]; decide)
theorem wrd_full {ρ σ : S2} {a : Int32} (hB : BR ρ σ) (ha : ¬ a = 0) : FRr (xWrd a ρ) (3, su σ 16 (σ.1 17)) := by
  obtain ⟨h1, h2, h3, h4, h5, h6, h7, h8, h9⟩ := BR_T hB
  have e : xWrd a ρ = xFal 3 (ρ.1 2) ρ := if_neg ha
  rw [e]
  exact ⟨show (0 : Int32) < 3 by decide, rfl, by show ρ.1 2 = σ.1 17; rw [h8, h9]⟩
theorem wrd_go {ρ σ : S2} {a : Int32} (hB : BR ρ σ) (hq : mP σ < mT σ) (ha : a = 0) : BR (xWrd a ρ) (su σ 17 (σ.1 17 + 1)) ∧ mP σ ≤ mP (su σ 17 (σ.1 17 + 1)) := by
  obtain ⟨h1, h2, h3, h4, h5, h6, h7, h8, h9⟩ := BR_T hB
  have e : xWrd a ρ = su ρ 2 (ρ.1 2 + 1) := if_pos ha
  rw [e]
  refine ⟨⟨hB.1, hB.2.1, mT σ, mP σ + 1, h4, hq, h6, h7, by show ρ.1 2 + 1 = _; rw [h8, nI_1], by show σ.1 17 + 1 = _; rw [h9, nI_1], h5⟩, ?_⟩
  rw [mP_of (σ := su σ 17 (σ.1 17 + 1)) (p := mP σ + 1) (by show σ.1 17 + 1 = _; rw [h9, nI_1]) (by omega)]
  omega
theorem rng {v lo hi : Int32} {a z : Nat} (hl : lo.toInt = a) (hh : hi.toInt = z) (h : inB v.toInt lo.toInt hi.toInt) : ∃ k : Nat, a ≤ k ∧ k ≤ z ∧ v = nI k := by
  rw [hl, hh] at h
  obtain ⟨e1, e2⟩ := clN h (by omega)
  exact ⟨cl v, by have := h.1; omega, by have := h.2; omega, e1⟩
/-- what a clause comes to, on both sides -/
def CR (ρ' π' : S2) (M : Int32 × S2) (p : Nat) : Prop := (M.1 = 0 ∧ BR ρ' M.2 ∧ DR ρ' π' M.2 ∧ p < mP M.2) ∨ FRr ρ' M
theorem cla_s {ρ π σ : S2} (hB : BR ρ σ) (hq : mP σ < mT σ) (hD : DR ρ π σ) : CR (xDoo ρ π).1 (xDoo ρ π).2 (mGo (0 < σ.1 20) mStr σ) (mP σ) := by
  have e20 : π.1 0 = σ.1 20 := hD.2.2.1
  unfold mGo xDoo
  dsimp only
  by_cases hf : 0 < σ.1 20
  · rw [if_pos hf]
    have hF := wrd_full (a := bI (0 < π.1 0)) hB (by rw [e20, bI_t hf]; decide)
    exact Or.inr (by rw [xNum_f (FR_ne hF).1, xEnd_f (FR_ne hF).1]; exact hF)
  · rw [if_neg hf]
    obtain ⟨hB2, hP2⟩ := wrd_go (a := bI (0 < π.1 0)) hB hq (by rw [e20]; exact bI_f hf)
    have hW6 : (xWrd (bI (0 < π.1 0)) ρ).1 6 = ρ.1 6 := xWrd_k (by decide) (by decide) (by decide)
    have hW7 : (xWrd (bI (0 < π.1 0)) ρ).1 7 = ρ.1 7 := xWrd_k (by decide) (by decide) (by decide)
    generalize xWrd (bI (0 < π.1 0)) ρ = ρ2 at hB2 hW6 hW7 ⊢
    have hadv := adv_TN (lo := 1) (hi := 14) (BR_PI hB2)
    have hk : ∀ k, k ≠ 16 → k ≠ 17 → k ≠ 18 → k ≠ 19 → (mTN 1 14 (su σ 17 (σ.1 17 + 1))).2.1 k = (su σ 17 (σ.1 17 + 1)).1 k := fun k a b c d => mTN_keep a b c d
    have hr : (mTN 1 14 (su σ 17 (σ.1 17 + 1))).2.2 = σ.2 := mTN_rows
    rcases num_rel (lo := 1) (hi := 14) hB2 with ⟨h1, h2, h3, h4, h5⟩ | h
    · rcases end_rel (r := mStr (su σ 17 (σ.1 17 + 1))) h1 (BR_su2 h3 (by decide) (by decide) (by decide)) with ⟨g1, g2, g3⟩ | g
      · refine Or.inl ⟨g1, g2, ?_, Nat.lt_of_le_of_lt (Nat.le_trans hP2 hadv.2.1) g3⟩
        obtain ⟨k, k1, k2, k3⟩ := rng (a := 1) (z := 14) rfl rfl h5
        obtain ⟨d1, d2, d3, d4, d5, d6, d7, d8, D, C, S, q1, q2, q3, q4, q5, q6, q7, q8, q9, q10⟩ := hD
        have hD0 : D = 0 := by
          rcases Nat.eq_zero_or_pos D with z | z
          · exact z
          · exact absurd (by rw [q4]; exact (nI_ltI (a := 0) (by decide) (by omega)).mpr z) hf
        subst hD0
        unfold DR
        rw [xEnd_k (by decide) (by decide) (by decide), xEnd_k (by decide) (by decide) (by decide), xNum_k (by decide) (by decide) (by decide) (by decide), xNum_k (by decide) (by decide) (by decide) (by decide), mEnd_k (by decide) (by decide), mEnd_k (by decide) (by decide), mEnd_k (by decide) (by decide), mEnd_k (by decide) (by decide), mEnd_r]
        have e21 : (mStr (su σ 17 (σ.1 17 + 1))).2.1 21 = σ.1 21 := hk 21 (by decide) (by decide) (by decide) (by decide)
        have e26 : (mStr (su σ 17 (σ.1 17 + 1))).2.1 26 = σ.1 26 := hk 26 (by decide) (by decide) (by decide) (by decide)
        have e28 : (mStr (su σ 17 (σ.1 17 + 1))).2.1 28 = σ.1 28 := hk 28 (by decide) (by decide) (by decide) (by decide)
        have e0 : (mStr (su σ 17 (σ.1 17 + 1))).2.1 20 = nI k := h2.symm.trans k3
        have er : (mStr (su σ 17 (σ.1 17 + 1))).2.2 = σ.2 := hr
        rw [e21, e26, e28, e0, er, hW6, hW7, k3]
        have hS : S = 0 := by
          rcases Nat.eq_zero_or_pos S with z | z
          · exact z
          · exact absurd (q7 (by omega)) (by decide)
        exact ⟨d1, d2, rfl, d4, d5, d6, d7, d8, k, C, S, k2, q2, q3, rfl, q5, q6, fun z => k1, q8, ⟨q9.1, fun d z1 z2 => q9.2 d (Nat.zero_le _) z2⟩, q10⟩
      · exact Or.inr g
    · exact Or.inr (end_f (r := mStr (su σ 17 (σ.1 17 + 1))) h)
theorem cla_r {ρ π σ : S2} (hB : BR ρ σ) (hq : mP σ < mT σ) (hD : DR ρ π σ) : CR (xRai ρ π).1 (xRai ρ π).2 (mGo (¬ σ.1 28 = 0) mRai σ) (mP σ) := by
  have e28 : ρ.1 6 = σ.1 28 := hD.1
  unfold mGo xRai
  dsimp only
  by_cases hf : ¬ σ.1 28 = 0
  · rw [if_pos hf]
    have hF := wrd_full (a := ρ.1 6) hB (by rw [e28]; exact hf)
    refine Or.inr ?_
    rw [xNum_f (FR_ne hF).1]
    have hF2 : FRr (su (xWrd (ρ.1 6) ρ) 6 1) (3, su σ 16 (σ.1 17)) := hF
    rw [xEnd_f (FR_ne hF2).1]
    exact hF2
  · rw [if_neg hf]
    have hz : σ.1 28 = 0 := Decidable.not_not.mp hf
    obtain ⟨hB2, hP2⟩ := wrd_go (a := ρ.1 6) hB hq (by rw [e28]; exact hz)
    have hW7 : (xWrd (ρ.1 6) ρ).1 7 = ρ.1 7 := xWrd_k (by decide) (by decide) (by decide)
    generalize xWrd (ρ.1 6) ρ = ρ2 at hB2 hW7 ⊢
    have hB3 : BR ρ2 (su (su σ 17 (σ.1 17 + 1)) 28 1) := BR_su2 hB2 (by decide) (by decide) (by decide)
    have hadv := adv_Into (j := 29) (k := 0) (lo := 0) (hi := 8) (BR_PI hB3)
    rcases into_rel (j := 29) (k := 0) (lo := 0) (hi := 8) (by decide) hB3 with ⟨h1, h2, h3, h5⟩ | h
    · rcases end_rel (ρ := su (xNum 0 8 ρ2).2 6 1) (r := mRai (su σ 17 (σ.1 17 + 1))) h1 (BR_su1 h3 (by decide) (by decide) (by decide) (by decide)) with ⟨g1, g2, g3⟩ | g
      · refine Or.inl ⟨g1, g2, ?_, Nat.lt_of_le_of_lt (Nat.le_trans hP2 hadv.2.1) g3⟩
        obtain ⟨d1, d2, d3, d4, d5, d6, d7, d8, D, C, S, q1, q2, q3, q4, q5, q6, q7, q8, q9, q10⟩ := hD
        unfold DR
        rw [xEnd_k (by decide) (by decide) (by decide), xEnd_k (by decide) (by decide) (by decide), mEnd_k (by decide) (by decide), mEnd_k (by decide) (by decide), mEnd_k (by decide) (by decide), mEnd_k (by decide) (by decide), mEnd_r]
        have e7 : (su (xNum 0 8 ρ2).2 6 1).1 7 = ρ.1 7 := by
          have : (su (xNum 0 8 ρ2).2 6 1).1 7 = (xNum 0 8 ρ2).2.1 7 := rfl
          rw [this, xNum_k (by decide) (by decide) (by decide) (by decide), hW7]
        have e6 : (su (xNum 0 8 ρ2).2 6 1).1 6 = 1 := rfl
        rw [e7, e6]
        unfold mRai
        rw [mInto_k (by decide) (by decide) (by decide) (by decide), mInto_k (by decide) (by decide) (by decide) (by decide), mInto_k (by decide) (by decide) (by decide) (by decide), mInto_k (by decide) (by decide) (by decide) (by decide), mInto_ri (by decide), mInto_ri (by decide), mInto_ri (by decide), mInto_ri (by decide), mInto_ri (by decide), mInto_rj, mInto_ri (by decide), ← h2]
        exact ⟨rfl, d2, d3, d4, rfl, d6, d7, d8, D, C, S, q1, q2, q3, q4, q5, q6, q7, q8, q9, q10⟩
      · exact Or.inr g
    · exact Or.inr (end_f (ρ := su (xNum 0 8 ρ2).2 6 1) (r := mRai (su σ 17 (σ.1 17 + 1))) h)
theorem cla_w {ρ π σ : S2} (hB : BR ρ σ) (hq : mP σ < mT σ) (hD : DR ρ π σ) (h0 : ¬ σ.1 20 = 0) : CR (xWat ρ π).1 (xWat ρ π).2 (mGo (0 < σ.2 30 0) mWat σ) (mP σ) := by
  have e30 : π.1 8 = σ.2 30 0 := hD.2.2.2.2.2.1
  unfold mGo xWat xW1
  dsimp only
  by_cases hf : 0 < σ.2 30 0
  · rw [if_pos hf]
    have hF := wrd_full (a := bI (0 < π.1 8)) hB (by rw [e30, bI_t hf]; decide)
    exact Or.inr (by rw [xNum_f (FR_ne hF).1, xNum_f (FR_ne hF).1, xEnd_f (FR_ne hF).1]; exact hF)
  · rw [if_neg hf]
    obtain ⟨hB2, hP2⟩ := wrd_go (a := bI (0 < π.1 8)) hB hq (by rw [e30]; exact bI_f hf)
    have hW6 : (xWrd (bI (0 < π.1 8)) ρ).1 6 = ρ.1 6 := xWrd_k (by decide) (by decide) (by decide)
    have hW7 : (xWrd (bI (0 < π.1 8)) ρ).1 7 = ρ.1 7 := xWrd_k (by decide) (by decide) (by decide)
    generalize xWrd (bI (0 < π.1 8)) ρ = ρ2 at hB2 hW6 hW7 ⊢
    have hadv := adv_Wat (BR_PI hB2)
    rcases into_rel (j := 30) (k := 0) (lo := 1) (hi := 9) (by decide) hB2 with ⟨h1, h2, h3, h5⟩ | h
    · have hw : mWat (su σ 17 (σ.1 17 + 1)) = mInto 30 1 0 13 (mInto 30 0 1 9 (su σ 17 (σ.1 17 + 1))).2 := then_t h1
      rw [hw] at hadv ⊢
      rcases into_rel (j := 30) (k := 1) (lo := 0) (hi := 13) (by decide) h3 with ⟨i1, i2, i3, i5⟩ | h
      · rcases end_rel (r := mInto 30 1 0 13 (mInto 30 0 1 9 (su σ 17 (σ.1 17 + 1))).2) i1 i3 with ⟨g1, g2, g3⟩ | g
        · refine Or.inl ⟨g1, g2, ?_, Nat.lt_of_le_of_lt (Nat.le_trans hP2 hadv.2.1) g3⟩
          obtain ⟨d1, d2, d3, d4, d5, d6, d7, d8, D, C, S, q1, q2, q3, q4, q5, q6, q7, q8, q9, q10⟩ := hD
          obtain ⟨a, a1, a2, a3⟩ := rng (a := 1) (z := 9) rfl rfl h5
          obtain ⟨b, b1, b2, b3⟩ := rng (a := 0) (z := 13) rfl rfl i5
          have hD1 : 1 ≤ D := by
            rcases Nat.eq_zero_or_pos D with z | z
            · exact absurd (by rw [q4, z]; rfl) h0
            · exact z
          unfold DR
          rw [xEnd_k (by decide) (by decide) (by decide), xEnd_k (by decide) (by decide) (by decide), xNum_k (by decide) (by decide) (by decide) (by decide), xNum_k (by decide) (by decide) (by decide) (by decide), xNum_k (by decide) (by decide) (by decide) (by decide), xNum_k (by decide) (by decide) (by decide) (by decide), mEnd_k (by decide) (by decide), mEnd_k (by decide) (by decide), mEnd_k (by decide) (by decide), mEnd_k (by decide) (by decide), mEnd_r, hW6, hW7]
          rw [mInto_k (by decide) (by decide) (by decide) (by decide), mInto_k (by decide) (by decide) (by decide) (by decide), mInto_k (by decide) (by decide) (by decide) (by decide), mInto_k (by decide) (by decide) (by decide) (by decide), mInto_k (by decide) (by decide) (by decide) (by decide), mInto_k (by decide) (by decide) (by decide) (by decide), mInto_k (by decide) (by decide) (by decide) (by decide), mInto_k (by decide) (by decide) (by decide) (by decide)]
          rw [mInto_ri (by decide), mInto_ri (by decide), mInto_ri (by decide), mInto_ri (by decide), mInto_ri (by decide), mInto_ri (by decide), mInto_ri (by decide), mInto_ri (by decide), mInto_ri (by decide), mInto_ri (by decide), mInto_ri (by decide), mInto_ri (by decide), mInto_rj, mInto_rj, ← h2, ← i2]
          exact ⟨d1, d2, d3, d4, d5, rfl, rfl, ⟨b, b2, b3⟩, D, C, a, q1, q2, a2, q4, q5, a3, fun _ => hD1, q8, q9, q10⟩
        · exact Or.inr g
      · exact Or.inr (end_f h)
    · have hF : FRr (xNum 1 9 ρ2).2 (mWat (su σ 17 (σ.1 17 + 1))) := then_f h
      exact Or.inr (end_f (num_f hF))
