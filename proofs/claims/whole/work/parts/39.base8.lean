/-! the class's reading, state by state: ρ the reader, π the plan -/
abbrev rT (ρ : S2) : Nat := cl (ρ.1 1)
abbrev rP (ρ : S2) : Nat := cl (ρ.1 2)
abbrev rK (ρ : S2) : Nat := sk (ρ.2 0) (rT ρ) (rP ρ)
def xSkp (ρ : S2) : S2 := su ρ 2 (nI (rK ρ))
def xFal (k w : Int32) (ρ : S2) : S2 := su (su ρ 3 k) 4 w
def RI (ρ : S2) : Prop := ∃ T p : Nat, T ≤ 200 ∧ p ≤ T ∧ ρ.1 1 = nI T ∧ ρ.1 2 = nI p
def RJ (ρ : S2) : Prop := ∃ T p : Nat, T ≤ 200 ∧ p < T ∧ ρ.1 1 = nI T ∧ ρ.1 2 = nI p
noncomputable def xNm2 (lo hi : Int32) (q : Nat) (ρ : S2) : Int32 × S2 :=
  if nI (dgE (ρ.2 0) (rT ρ) q) - nI q = 0 then (dvX (ρ.2 0) (rT ρ - q) q 0 0, xFal 1 (nI (dgE (ρ.2 0) (rT ρ) q)) (su (su ρ 5 (nI q)) 2 (nI (dgE (ρ.2 0) (rT ρ) q))))
  else if 3 < nI (dgE (ρ.2 0) (rT ρ) q) - nI q ∨ dvX (ρ.2 0) (rT ρ - q) q 0 0 < lo ∨ ¬ dvX (ρ.2 0) (rT ρ - q) q 0 0 ≤ hi then (dvX (ρ.2 0) (rT ρ - q) q 0 0, xFal 2 (nI q) (su (su ρ 5 (nI q)) 2 (nI (dgE (ρ.2 0) (rT ρ) q))))
  else (dvX (ρ.2 0) (rT ρ - q) q 0 0, su (su ρ 5 (nI q)) 2 (nI (dgE (ρ.2 0) (rT ρ) q)))
noncomputable def xNum (lo hi : Int32) (ρ : S2) : Int32 × S2 := if ρ.1 3 = 0 then xNm2 lo hi (rK ρ) (xSkp ρ) else (0, ρ)
noncomputable def xEnd (ρ : S2) : S2 := if ρ.1 3 = 0 then (if rK ρ < rT ρ ∧ ρ.2 0 (rK ρ) = 59 then su (xSkp ρ) 2 (nI (rK ρ) + 1) else xFal 1 (nI (rK ρ)) (xSkp ρ)) else ρ
def xWrd (again : Int32) (ρ : S2) : S2 := if again = 0 then su ρ 2 (ρ.1 2 + 1) else xFal 3 (ρ.1 2) ρ
noncomputable def xDoo (ρ π : S2) : S2 × S2 := (xEnd (xNum 1 14 (xWrd (bI (0 < π.1 0)) ρ)).2, su π 0 (xNum 1 14 (xWrd (bI (0 < π.1 0)) ρ)).1)
noncomputable def xC1 (ρ π : S2) : Int32 × S2 := xNum 0 2 (xWrd (bI (4 ≤ π.1 1)) ρ)
noncomputable def xC2 (ρ π : S2) : Int32 × S2 := xNum 0 8 (xC1 ρ π).2
noncomputable def xC3 (ρ π : S2) : Int32 × S2 := xNum 0 20 (xC2 ρ π).2
noncomputable def xC4 (ρ π : S2) : Int32 × S2 := xNum 0 7 (xC3 ρ π).2
noncomputable def xChk (ρ π : S2) : S2 × S2 := (xEnd (xC4 ρ π).2, if (xEnd (xC4 ρ π).2).1 3 = 0 then xAdd (xC1 ρ π).1 (xC2 ρ π).1 (xC3 ρ π).1 (xC4 ρ π).1 π else π)
noncomputable def xM1 (ρ π : S2) : Int32 × S2 := xNum 0 (π.1 0 - 1) (xWrd 0 ρ)
noncomputable def xM2 (ρ π : S2) : S2 := if (xM1 ρ π).2.1 3 = 0 ∧ hb ((xM1 ρ π).2.1 7) (xM1 ρ π).1 then xFal 4 ((xM1 ρ π).2.1 5) (xM1 ρ π).2 else (xM1 ρ π).2
noncomputable def xM3 (ρ π : S2) : Int32 × S2 := xNum 0 (bit (π.1 1) - 1) (xM2 ρ π)
noncomputable def xMrk (ρ π : S2) : S2 × S2 := if (xEnd (xM3 ρ π).2).1 3 = 0 ∧ inD (xM1 ρ π).1 (π.1 0) then (su (xEnd (xM3 ρ π).2) 7 ((xEnd (xM3 ρ π).2).1 7 ||| bit (xM1 ρ π).1), au π 6 (cl (xM1 ρ π).1) (xM3 ρ π).1) else (xEnd (xM3 ρ π).2, π)
noncomputable def xRai (ρ π : S2) : S2 × S2 := (xEnd (su (xNum 0 8 (xWrd (ρ.1 6) ρ)).2 6 1), su π 7 (xNum 0 8 (xWrd (ρ.1 6) ρ)).1)
noncomputable def xW1 (ρ π : S2) : Int32 × S2 := xNum 1 9 (xWrd (bI (0 < π.1 8)) ρ)
noncomputable def xWat (ρ π : S2) : S2 × S2 := (xEnd (xNum 0 13 (xW1 ρ π).2).2, su (su π 8 (xW1 ρ π).1) 9 (xNum 0 13 (xW1 ρ π).2).1)
noncomputable def xCla (w : Int32) (ρ π : S2) : S2 × S2 :=
  if ¬ w = 115 ∧ π.1 0 = 0 then (xFal 1 (ρ.1 2) ρ, π) else if w = 115 then xDoo ρ π else if w = 99 then xChk ρ π else if w = 109 then xMrk ρ π else if w = 114 then xRai ρ π else if w = 119 then xWat ρ π else (xFal 1 (ρ.1 2) ρ, π)
noncomputable def xPar : Nat → S2 → S2 → S2 × S2
  | 0, ρ, π => (ρ, π)
  | n + 1, ρ, π => if ρ.1 3 = 0 then (if rK ρ < rT ρ then xPar n (xCla (ρ.2 0 (rK ρ)) (xSkp ρ) π).1 (xCla (ρ.2 0 (rK ρ)) (xSkp ρ) π).2 else (xSkp ρ, π)) else (ρ, π)
theorem xPar_s {n : Nat} {ρ π : S2} : xPar (n + 1) ρ π = if ρ.1 3 = 0 then (if rK ρ < rT ρ then xPar n (xCla (ρ.2 0 (rK ρ)) (xSkp ρ) π).1 (xCla (ρ.2 0 (rK ρ)) (xSkp ρ) π).2 else (xSkp ρ, π)) else (ρ, π) := rfl
def xBeg (ρ : S2) : S2 := su (su (su (su (su ρ 2 0) 3 0) 4 (-1)) 6 0) 7 0
noncomputable def xRdI (ρ π : S2) : S2 × S2 := (su (xPar 200 (xBeg ρ) (xClr π)).1 1 0, (xPar 200 (xBeg ρ) (xClr π)).2)
theorem RI_e {ρ : S2} (h : RI ρ) : rP ρ ≤ rT ρ ∧ rT ρ ≤ 200 ∧ ρ.1 1 = nI (rT ρ) ∧ ρ.1 2 = nI (rP ρ) := by
  obtain ⟨T, p, a1, a2, a3, a4⟩ := h
  have e1 : rT ρ = T := by show Int32.toNatClampNeg _ = _; rw [a3]; exact nI_clamp (by omega)
  have e2 : rP ρ = p := by show Int32.toNatClampNeg _ = _; rw [a4]; exact nI_clamp (by omega)
  rw [e1, e2]
  exact ⟨a2, a1, a3, a4⟩
theorem RI_of {ρ : S2} {T p : Nat} (h1 : T ≤ 200) (h2 : p ≤ T) (h3 : ρ.1 1 = nI T) (h4 : ρ.1 2 = nI p) : RI ρ := ⟨T, p, h1, h2, h3, h4⟩
theorem rK_le {ρ : S2} (h : RI ρ) : rK ρ ≤ rT ρ := (sk_le (RI_e h).1).2
theorem RI_skp {ρ : S2} (h : RI ρ) : RI (xSkp ρ) := RI_of (RI_e h).2.1 (rK_le h) (RI_e h).2.2.1 rfl
theorem RI_fal {ρ : S2} {k w : Int32} (h : RI ρ) : RI (xFal k w ρ) := h
theorem RI_nm2 {ρ : S2} {lo hi : Int32} {q : Nat} (h : RI ρ) (hq : q ≤ rT ρ) : RI (xNm2 lo hi q ρ).2 := by
  have key : RI (su (su ρ 5 (nI q)) 2 (nI (dgE (ρ.2 0) (rT ρ) q))) := RI_of (RI_e h).2.1 (dgE_le hq).2 (RI_e h).2.2.1 rfl
  unfold xNm2
  split
  · exact key
  · split
    · exact key
    · exact key
theorem RI_num {ρ : S2} {lo hi : Int32} (h : RI ρ) : RI (xNum lo hi ρ).2 := by
  unfold xNum
  split
  · exact RI_nm2 (RI_skp h) (rK_le h)
  · exact h
theorem RI_end {ρ : S2} (h : RI ρ) : RI (xEnd ρ) := by
  unfold xEnd
  split
  · split
    · rename_i hc
      exact RI_of (RI_e h).2.1 hc.1 (RI_e h).2.2.1 (by show nI _ + 1 = _; rw [nI_1])
    · exact RI_skp h
  · exact h
theorem RI_wrd {ρ : S2} {a : Int32} (h : RJ ρ) : RI (xWrd a ρ) := by
  obtain ⟨T, p, a1, a2, a3, a4⟩ := h
  unfold xWrd
  split
  · exact RI_of a1 a2 a3 (by show ρ.1 2 + 1 = _; rw [a4, nI_1])
  · exact RI_of a1 (Nat.le_of_lt a2) a3 a4
theorem RI_su {ρ : S2} {k : Nat} {v : Int32} (h : RI ρ) (h1 : k ≠ 1) (h2 : k ≠ 2) : RI (su ρ k v) := by
  obtain ⟨T, p, a1, a2, a3, a4⟩ := h
  refine ⟨T, p, a1, a2, ?_, ?_⟩
  · rw [← a3]; simp [su, va_up, Ne.symm h1]
  · rw [← a4]; simp [su, va_up, Ne.symm h2]
theorem RJ_skp {ρ : S2} (h : RI ρ) (hl : rK ρ < rT ρ) : RJ (xSkp ρ) := ⟨rT ρ, rK ρ, (RI_e h).2.1, hl, (RI_e h).2.2.1, rfl⟩
theorem RJ_RI {ρ : S2} (h : RJ ρ) : RI ρ := by
  obtain ⟨T, p, a1, a2, a3, a4⟩ := h
  exact ⟨T, p, a1, Nat.le_of_lt a2, a3, a4⟩
theorem bI_3 {c : Int32} (h1 : ¬ c < 48) (h2 : ¬ 57 < c) : isDg c := by
  rw [Int32.lt_iff_toInt_lt] at h1 h2
  have a : (48 : Int32).toInt = 48 := rfl
  have b : (57 : Int32).toInt = 57 := rfl
  exact ⟨by omega, by omega⟩
theorem bI_4 {c : Int32} (h1 : c < 48) : ¬ isDg c := by
  rw [Int32.lt_iff_toInt_lt] at h1
  have a : (48 : Int32).toInt = 48 := rfl
  rintro ⟨x, y⟩
  omega
theorem bI_5 {c : Int32} (h1 : 57 < c) : ¬ isDg c := by
  rw [Int32.lt_iff_toInt_lt] at h1
  have a : (57 : Int32).toInt = 57 := rfl
  rintro ⟨x, y⟩
  omega
