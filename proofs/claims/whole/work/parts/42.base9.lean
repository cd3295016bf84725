theorem xEnd_0 {ρ : S2} (h : (xEnd ρ).1 3 = 0) : ρ.1 3 = 0 := by
  unfold xEnd at h
  by_cases h0 : ρ.1 3 = 0
  · exact h0
  · rw [if_neg h0] at h; exact h
theorem xNum_0 {ρ : S2} {lo hi : Int32} (h : (xNum lo hi ρ).2.1 3 = 0) : ρ.1 3 = 0 ∧ ¬ (xNum lo hi ρ).1 < lo ∧ (xNum lo hi ρ).1 ≤ hi := by
  unfold xNum at h ⊢
  by_cases h0 : ρ.1 3 = 0
  · rw [if_pos h0] at h ⊢
    unfold xNm2 at h ⊢
    split at h
    · exact absurd (show (1 : Int32) = 0 from h) (by decide)
    · rename_i h1
      split at h
      · exact absurd (show (2 : Int32) = 0 from h) (by decide)
      · rename_i h2
        rw [if_neg h1, if_neg h2]
        exact ⟨h0, fun z => h2 (Or.inr (Or.inl z)), Decidable.not_not.mp (fun z => h2 (Or.inr (Or.inr z)))⟩
  · rw [if_neg h0] at h; exact absurd h h0
theorem rngN {v lo hi : Int32} {a z : Nat} (hl : lo = nI a) (hh : hi = nI z) (ha : a < 2 ^ 31) (hz : z < 2 ^ 31) (h1 : ¬ v < lo) (h2 : v ≤ hi) : ∃ k : Nat, a ≤ k ∧ k ≤ z ∧ v = nI k := by
  rw [Int32.lt_iff_toInt_lt, hl, nI_toInt ha] at h1
  rw [Int32.le_iff_toInt_le, hh, nI_toInt hz] at h2
  have hb : inB v.toInt a z := ⟨by omega, h2⟩
  obtain ⟨e1, e2⟩ := clN hb (by omega)
  exact ⟨cl v, by omega, by omega, e1⟩
def RQ (ρ π : S2) : Prop := RI ρ ∧ (ρ.1 3 = 0 → ∃ D : Nat, D ≤ 14 ∧ π.1 0 = nI D) ∧ ∃ C : Nat, C ≤ 4 ∧ π.1 1 = nI C
theorem xAdd_C {k w c h : Int32} {π : S2} (hC : ∃ C : Nat, C ≤ 4 ∧ π.1 1 = nI C) : (xAdd k w c h π).1 0 = π.1 0 ∧ ∃ C : Nat, C ≤ 4 ∧ (xAdd k w c h π).1 1 = nI C := by
  obtain ⟨C, h1, h2⟩ := hC
  unfold xAdd
  split
  · rename_i hl
    refine ⟨rfl, C + 1, ?_, by show π.1 1 + 1 = _; rw [h2, nI_1]⟩
    rw [h2] at hl
    have := (nI_ltI (b := 4) (by omega) (by decide)).mp hl
    omega
  · exact ⟨rfl, C, h1, h2⟩
theorem RQ_mk {ρ π : S2} (h1 : RI ρ) (h2 : ∃ D : Nat, D ≤ 14 ∧ π.1 0 = nI D) (h3 : ∃ C : Nat, C ≤ 4 ∧ π.1 1 = nI C) : RQ ρ π := ⟨h1, fun _ => h2, h3⟩
theorem RQ_mkp {ρ π : S2} {P : S2 × S2} (e : P = (ρ, π)) (h1 : RI ρ) (h2 : ∃ D : Nat, D ≤ 14 ∧ π.1 0 = nI D) (h3 : ∃ C : Nat, C ≤ 4 ∧ π.1 1 = nI C) : RQ P.1 P.2 := by rw [e]; exact RQ_mk h1 h2 h3
theorem RQ_add {p : Prop} [Decidable p] {k w c h : Int32} {ρ π : S2} (h1 : RI ρ) (hD : ∃ D : Nat, D ≤ 14 ∧ π.1 0 = nI D) (hC : ∃ C : Nat, C ≤ 4 ∧ π.1 1 = nI C) : RQ ρ (if p then xAdd k w c h π else π) := by
  have hx := xAdd_C (k := k) (w := w) (c := c) (h := h) hC
  generalize xAdd k w c h π = π' at hx
  by_cases hp : p
  · rw [if_pos hp]; exact RQ_mk h1 (by rw [hx.1]; exact hD) hx.2
  · rw [if_neg hp]; exact RQ_mk h1 hD hC
theorem RQ_chk {ρ π : S2} (hr : RI (xEnd (xC4 ρ π).2)) (hD : ∃ D : Nat, D ≤ 14 ∧ π.1 0 = nI D) (hC : ∃ C : Nat, C ≤ 4 ∧ π.1 1 = nI C) : RQ (xChk ρ π).1 (xChk ρ π).2 := by
  unfold xChk
  dsimp only
  exact RQ_add hr hD hC
theorem RQ_mrk {ρ π : S2} (hr : RI (xEnd (xM3 ρ π).2)) (hD : ∃ D : Nat, D ≤ 14 ∧ π.1 0 = nI D) (hC : ∃ C : Nat, C ≤ 4 ∧ π.1 1 = nI C) : RQ (xMrk ρ π).1 (xMrk ρ π).2 := by
  unfold xMrk
  generalize xEnd (xM3 ρ π).2 = ρ' at hr ⊢
  split
  · exact RQ_mk (RI_su hr (by decide) (by decide)) hD hC
  · exact RQ_mk hr hD hC
theorem RQ_wat {ρ π : S2} (hr : RI (xEnd (xNum 0 13 (xW1 ρ π).2).2)) (hD : ∃ D : Nat, D ≤ 14 ∧ π.1 0 = nI D) (hC : ∃ C : Nat, C ≤ 4 ∧ π.1 1 = nI C) : RQ (xWat ρ π).1 (xWat ρ π).2 := by
  unfold xWat
  generalize xEnd (xNum 0 13 (xW1 ρ π).2).2 = ρ' at hr ⊢
  generalize (xNum 0 13 (xW1 ρ π).2).1 = v1
  generalize (xW1 ρ π).1 = v2
  exact RQ_mk hr hD hC
theorem RQ_rai {ρ π : S2} (hr : RI (xEnd (su (xNum 0 8 (xWrd (ρ.1 6) ρ)).2 6 1))) (hD : ∃ D : Nat, D ≤ 14 ∧ π.1 0 = nI D) (hC : ∃ C : Nat, C ≤ 4 ∧ π.1 1 = nI C) : RQ (xRai ρ π).1 (xRai ρ π).2 := by
  unfold xRai
  generalize xNum 0 8 (xWrd (ρ.1 6) ρ) = N at hr ⊢
  generalize xEnd (su N.2 6 1) = ρ' at hr ⊢
  generalize N.1 = v1
  exact RQ_mk hr hD hC
theorem xCla_ok {w : Int32} {ρ π : S2} (hj : RJ ρ) (hD : ∃ D : Nat, D ≤ 14 ∧ π.1 0 = nI D) (hC : ∃ C : Nat, C ≤ 4 ∧ π.1 1 = nI C) : RQ (xCla w ρ π).1 (xCla w ρ π).2 := by
  unfold xCla
  split
  · exact RQ_mk (RI_su (RI_su (RJ_RI hj) (by decide) (by decide)) (by decide) (by decide)) hD hC
  split
  · refine ⟨RI_end (RI_num (RI_wrd hj)), fun h => ?_, hC⟩
    obtain ⟨-, h2, h3⟩ := xNum_0 (xEnd_0 h)
    obtain ⟨k, k1, k2, k3⟩ := rngN (a := 1) (z := 14) rfl rfl (by decide) (by decide) h2 h3
    exact ⟨k, k2, k3⟩
  split
  · have hr : RI (xEnd (xC4 ρ π).2) := RI_end (RI_num (RI_num (RI_num (RI_num (RI_wrd hj)))))
    exact RQ_chk hr hD hC
  split
  · have h1 : RI (xM1 ρ π).2 := RI_num (RI_wrd hj)
    have h2 : RI (xM2 ρ π) := by unfold xM2; split <;> exact h1
    exact RQ_mrk (RI_end (RI_num h2)) hD hC
  split
  · exact RQ_rai (RI_end (RI_su (RI_num (RI_wrd hj)) (by decide) (by decide))) hD hC
  split
  · exact RQ_wat (RI_end (RI_num (RI_num (RI_wrd hj)))) hD hC
  · exact RQ_mk (RI_su (RI_su (RJ_RI hj) (by decide) (by decide)) (by decide) (by decide)) hD hC
