/-! reading: class and reference go side by side -/
theorem d10_N {v : Nat} {t : Int32} (hv : v < 1000) (ht : isDg t) : ∃ w : Nat, w < 10 * v + 10 ∧ d10F (nI v) t = nI w := by
  obtain ⟨e1, e2⟩ := clN ht (by decide)
  have h1 := ht.1
  have h2 := ht.2
  refine ⟨10 * v + (cl t - 48), by omega, ?_⟩
  rw [d10F_eq, e1]
  have hc : cl (nI (cl t)) = cl t := by rw [← e1]
  rw [show (10 : Int32) = nI 10 from rfl, show (48 : Int32) = nI 48 from rfl, pk_mul, nI_add, pk_sub (by omega)]
  congr 1
  rw [hc]
  omega
theorem dv_eq {tx : Nat → Int32} : ∀ (n p c v : Nat), v < 10 ^ c → c + (dgN tx n p - p) ≤ 3 → dvX tx n p c (nI v) = dvM tx n p (nI v) := by
  intro n
  induction n with
  | zero => intro p c v _ _; rfl
  | succ n ih =>
    intro p c v hv hc
    have e0 : dgN tx (n + 1) p = if isDg (tx p) then dgN tx n (p + 1) else p := rfl
    have e1 : dvX tx (n + 1) p c (nI v) = if isDg (tx p) then dvX tx n (p + 1) (c + 1) (if c < 3 then d10F (nI v) (tx p) else nI v) else nI v := rfl
    have e2 : dvM tx (n + 1) p (nI v) = if isDg (tx p) then dvM tx n (p + 1) (if nI v ≤ 10000 then d10F (nI v) (tx p) else nI v) else nI v := rfl
    rw [e1, e2]
    by_cases h : isDg (tx p)
    · rw [if_pos h, if_pos h]
      rw [e0, if_pos h] at hc
      have hle := dgN_le (tx := tx) n (p + 1)
      have hc3 : c < 3 := by omega
      have h100 : 10 ^ c ≤ 10 ^ 2 := Nat.pow_le_pow_right (by decide) (by omega)
      rw [if_pos hc3, if_pos (show nI v ≤ 10000 from (nI_leI (b := 10000) (by omega) (by decide)).mpr (by omega))]
      obtain ⟨w, hw, e⟩ := d10_N (t := tx p) (show v < 1000 by omega) h
      rw [e]
      refine ih (p + 1) (c + 1) w ?_ (by omega)
      have : 10 ^ (c + 1) = 10 * 10 ^ c := by rw [Nat.pow_succ, Nat.mul_comm]
      omega
    · rw [if_neg h, if_neg h]
/-- no fault yet; one text, one place -/
def BR (ρ σ : S2) : Prop := ρ.1 3 = 0 ∧ ρ.1 4 = σ.1 16 ∧ ∃ T p : Nat, T ≤ 200 ∧ p ≤ T ∧ ρ.1 1 = nI T ∧ σ.1 15 = nI T ∧ ρ.1 2 = nI p ∧ σ.1 17 = nI p ∧ ρ.2 0 = σ.2 14
/-- a fault: the same on both sides, at the same place -/
def FRr (ρ : S2) (r : Int32 × S2) : Prop := 0 < r.1 ∧ ρ.1 3 = r.1 ∧ ρ.1 4 = r.2.1 16
theorem FR_ne {ρ : S2} {r : Int32 × S2} (h : FRr ρ r) : ¬ ρ.1 3 = 0 ∧ ¬ r.1 = 0 ∧ ¬ r.1 ≤ 0 := by
  obtain ⟨h1, h2, -⟩ := h
  have h3 : ¬ r.1 = 0 := fun e => by rw [e] at h1; exact absurd h1 (by decide)
  exact ⟨by rw [h2]; exact h3, h3, nle_of_lt h1⟩
theorem BR_T {ρ σ : S2} (h : BR ρ σ) : rT ρ = mT σ ∧ rP ρ = mP σ ∧ mP σ ≤ mT σ ∧ mT σ ≤ 200 ∧ ρ.2 0 = σ.2 14 ∧ ρ.1 1 = nI (mT σ) ∧ σ.1 15 = nI (mT σ) ∧ ρ.1 2 = nI (mP σ) ∧ σ.1 17 = nI (mP σ) := by
  obtain ⟨-, -, T, p, a1, a2, a3, a4, a5, a6, a7⟩ := h
  have e1 : mT σ = T := by show Int32.toNatClampNeg _ = _; rw [a4]; exact nI_clamp (by omega)
  have e2 : mP σ = p := by show Int32.toNatClampNeg _ = _; rw [a6]; exact nI_clamp (by omega)
  have e3 : rT ρ = T := by show Int32.toNatClampNeg _ = _; rw [a3]; exact nI_clamp (by omega)
  have e4 : rP ρ = p := by show Int32.toNatClampNeg _ = _; rw [a5]; exact nI_clamp (by omega)
  rw [e1, e2, e3, e4]
  exact ⟨rfl, rfl, a2, a1, a7, a3, a4, a5, a6⟩
theorem BR_K {ρ σ : S2} (h : BR ρ σ) : rK ρ = sk (σ.2 14) (mT σ) (mP σ) ∧ rK ρ ≤ mT σ ∧ mP σ ≤ rK ρ := by
  obtain ⟨h1, h2, h3, h4, h5, -⟩ := BR_T h
  have e : rK ρ = sk (σ.2 14) (mT σ) (mP σ) := by show sk (ρ.2 0) (rT ρ) (rP ρ) = _; rw [h5, h1, h2]
  have := sk_le (tx := σ.2 14) h3
  rw [e]
  exact ⟨rfl, this.2, this.1⟩
theorem BR_skp {ρ σ : S2} (h : BR ρ σ) : BR (xSkp ρ) (mHere σ).2 := by
  obtain ⟨e, hk, -⟩ := BR_K h
  obtain ⟨h1, h2, h3, h4, h5, h6, h7, h8, h9⟩ := BR_T h
  exact ⟨h.1, h.2.1, mT σ, rK ρ, h4, hk, h6, h7, rfl, by rw [e]; rfl, h5⟩
theorem mHere_v {ρ σ : S2} (h : BR ρ σ) : (mHere σ).1 = if rK ρ < mT σ then σ.2 14 (rK ρ) else -1 := by
  rw [(BR_K h).1]; rfl
theorem xNum_k {ρ : S2} {lo hi : Int32} {k : Nat} (h2 : k ≠ 2) (h3 : k ≠ 3) (h4 : k ≠ 4) (h5 : k ≠ 5) : (xNum lo hi ρ).2.1 k = ρ.1 k := by
  unfold xNum
  split
  · unfold xNm2
    split
    · simp [su, va_up, xFal, xSkp, *]
    · split <;> simp [su, va_up, xFal, xSkp, *]
  · rfl
theorem xNum_r {ρ : S2} {lo hi : Int32} : (xNum lo hi ρ).2.2 = ρ.2 := by
  unfold xNum
  split
  · unfold xNm2
    split
    · rfl
    · split <;> rfl
  · rfl
theorem xEnd_k {ρ : S2} {k : Nat} (h2 : k ≠ 2) (h3 : k ≠ 3) (h4 : k ≠ 4) : (xEnd ρ).1 k = ρ.1 k := by
  unfold xEnd
  split
  · split <;> simp [su, va_up, xFal, xSkp, *]
  · rfl
theorem xEnd_r {ρ : S2} : (xEnd ρ).2 = ρ.2 := by
  unfold xEnd
  split
  · split <;> rfl
  · rfl
theorem xWrd_k {ρ : S2} {a : Int32} {k : Nat} (h2 : k ≠ 2) (h3 : k ≠ 3) (h4 : k ≠ 4) : (xWrd a ρ).1 k = ρ.1 k := by
  unfold xWrd
  split <;> simp [su, va_up, xFal, *]
theorem xWrd_r {ρ : S2} {a : Int32} : (xWrd a ρ).2 = ρ.2 := by unfold xWrd; split <;> rfl
theorem mEnd_k {r : Int32 × S2} {k : Nat} (h6 : k ≠ 16) (h7 : k ≠ 17) : (mEnd r).2.1 k = r.2.1 k := by
  unfold mEnd
  split
  · split <;> simp [su, va_up, mHere, *]
  · simp [su, va_up, *]
theorem mEnd_r {r : Int32 × S2} : (mEnd r).2.2 = r.2.2 := by
  unfold mEnd
  split
  · split <;> rfl
  · rfl
theorem xNum_f {ρ : S2} {lo hi : Int32} (h : ¬ ρ.1 3 = 0) : xNum lo hi ρ = (0, ρ) := if_neg h
theorem xEnd_f {ρ : S2} (h : ¬ ρ.1 3 = 0) : xEnd ρ = ρ := if_neg h
theorem mEnd_f {r : Int32 × S2} {ρ : S2} (h : FRr ρ r) : FRr ρ (mEnd r) := by
  have hn := (FR_ne h).2.1
  have e : mEnd r = (r.1, su r.2 17 (r.2.1 17 + 1)) := if_neg hn
  rw [e]
  exact h
theorem dgE_0 {tx : Nat → Int32} {T q : Nat} : dgE tx T q = q ↔ ¬ (q < T ∧ isDg (tx q)) := by
  unfold dgE
  cases hn : T - q with
  | zero =>
    constructor
    · intro _ h; omega
    · intro _; rfl
  | succ n =>
    rw [dgN]
    have hle := dgN_le (tx := tx) n (q + 1)
    by_cases h : isDg (tx q)
    · rw [if_pos h]
      constructor
      · intro e; omega
      · intro z; exact absurd ⟨by omega, h⟩ z
    · rw [if_neg h]
      exact ⟨fun _ z => h z.2, fun _ => rfl⟩
/-- a number: both read it, or both find the same fault -/
theorem num_rel {ρ σ : S2} {lo hi : Int32} (hB : BR ρ σ) : ((mTN lo hi σ).1 = 0 ∧ (xNum lo hi ρ).1 = (mTN lo hi σ).2.1 18 ∧ BR (xNum lo hi ρ).2 (mTN lo hi σ).2 ∧ (xNum lo hi ρ).2.1 5 = (mTN lo hi σ).2.1 19 ∧ inB (xNum lo hi ρ).1.toInt lo.toInt hi.toInt) ∨ FRr (xNum lo hi ρ).2 (mTN lo hi σ) := by
  obtain ⟨h1, h2, h3, h4, h5, h6, h7, h8, h9⟩ := BR_T hB
  obtain ⟨k1, k2, k3⟩ := BR_K hB
  have hv := mHere_v hB
  have hB1 := BR_skp hB
  have ex : xNum lo hi ρ = xNm2 lo hi (rK ρ) (xSkp ρ) := if_pos hB.1
  have em : mTN lo hi σ = if isDg (mHere σ).1 then mNum lo hi (rK ρ) (mHere σ).2 else (1, su (mHere σ).2 16 (nI (rK ρ))) := by
    rw [k1]; rfl
  have t1 : rT (xSkp ρ) = mT σ := h1
  have t2 : (xSkp ρ).2 0 = σ.2 14 := h5
  have t3 : mT (mHere σ).2 = mT σ := rfl
  have t4 : (mHere σ).2.2 14 = σ.2 14 := rfl
  generalize rK ρ = q at k1 k2 k3 hv ex em
  rw [ex, em]
  unfold xNm2
  rw [t1, t2]
  have hdl := dgE_le (tx := σ.2 14) k2
  have hd0 := dgE_0 (tx := σ.2 14) (T := mT σ) (q := q)
  by_cases hd : q < mT σ ∧ isDg (σ.2 14 q)
  · have hdg : isDg (mHere σ).1 := by rw [hv, if_pos hd.1]; exact hd.2
    have hne : dgE (σ.2 14) (mT σ) q ≠ q := fun e => (hd0.mp e) hd
    rw [if_pos hdg]
    have hz : ¬ nI (dgE (σ.2 14) (mT σ) q) - nI q = 0 := by
      rw [pk_sub hdl.1]
      exact nI_ne0 (by omega) (by omega)
    rw [if_neg hz]
    unfold mNum
    rw [t3, t4]
    have h3i : (3 < nI (dgE (σ.2 14) (mT σ) q) - nI q) ↔ 3 < dgE (σ.2 14) (mT σ) q - q := by
      rw [pk_sub hdl.1, show (3 : Int32) = nI 3 from rfl, nI_ltI (by decide) (by omega)]
    by_cases hl : 3 < nI (dgE (σ.2 14) (mT σ) q) - nI q
    · rw [if_pos (Or.inl hl), if_pos (Or.inl hl)]
      exact Or.inr ⟨show (0 : Int32) < 2 by decide, rfl, rfl⟩
    · have hl2 : dgE (σ.2 14) (mT σ) q - q ≤ 3 := by
        have := mt h3i.mpr hl
        omega
      have hdv : dvX (σ.2 14) (mT σ - q) q 0 0 = dvM (σ.2 14) (mT σ - q) q 0 := dv_eq (mT σ - q) q 0 0 (by decide) (by rw [Nat.zero_add]; exact hl2)
      rw [hdv]
      by_cases hin : inB (dvM (σ.2 14) (mT σ - q) q 0).toInt lo.toInt hi.toInt
      · have c1 : ¬ (3 < nI (dgE (σ.2 14) (mT σ) q) - nI q ∨ dvM (σ.2 14) (mT σ - q) q 0 < lo ∨ ¬ dvM (σ.2 14) (mT σ - q) q 0 ≤ hi) := by
          rintro (z | z | z)
          · exact hl z
          · rw [Int32.lt_iff_toInt_lt] at z; have := hin.1; omega
          · rw [Int32.le_iff_toInt_le] at z; exact z hin.2
        have c2 : ¬ (3 < nI (dgE (σ.2 14) (mT σ) q) - nI q ∨ ¬ inB (dvM (σ.2 14) (mT σ - q) q 0).toInt lo.toInt hi.toInt) := by
          rintro (z | z)
          · exact hl z
          · exact z hin
        rw [if_neg c1, if_neg c2]
        refine Or.inl ⟨rfl, rfl, ⟨hB.1, hB.2.1, mT σ, dgE (σ.2 14) (mT σ) q, h4, hdl.2, h6, h7, rfl, rfl, h5⟩, rfl, hin⟩
      · have c1 : 3 < nI (dgE (σ.2 14) (mT σ) q) - nI q ∨ dvM (σ.2 14) (mT σ - q) q 0 < lo ∨ ¬ dvM (σ.2 14) (mT σ - q) q 0 ≤ hi := by
          by_cases z : dvM (σ.2 14) (mT σ - q) q 0 < lo
          · exact Or.inr (Or.inl z)
          · refine Or.inr (Or.inr (fun y => hin ⟨?_, ?_⟩))
            · rw [Int32.lt_iff_toInt_lt] at z; omega
            · rw [Int32.le_iff_toInt_le] at y; exact y
        rw [if_pos c1, if_pos (Or.inr hin)]
        exact Or.inr ⟨show (0 : Int32) < 2 by decide, rfl, rfl⟩
  · have hdg : ¬ isDg (mHere σ).1 := by
      rw [hv]
      by_cases z : q < mT σ
      · rw [if_pos z]; exact fun y => hd ⟨z, y⟩
      · rw [if_neg z]; decide
    have he : dgE (σ.2 14) (mT σ) q = q := hd0.mpr hd
    rw [if_neg hdg, he, Int32.sub_self, if_pos rfl]
    exact Or.inr ⟨show (0 : Int32) < 1 by decide, rfl, rfl⟩
theorem end_rel {ρ : S2} {r : Int32 × S2} (h0 : r.1 = 0) (hB : BR ρ r.2) : ((mEnd r).1 = 0 ∧ BR (xEnd ρ) (mEnd r).2 ∧ mP r.2 < mP (mEnd r).2) ∨ FRr (xEnd ρ) (mEnd r) := by
  obtain ⟨f, σ⟩ := r
  have h0 : f = 0 := h0
  subst h0
  have hB : BR ρ σ := hB
  obtain ⟨h1, h2, h3, h4, h5, h6, h7, h8, h9⟩ := BR_T hB
  obtain ⟨k1, k2, k3⟩ := BR_K hB
  have hv := mHere_v hB
  have ex : xEnd ρ = if rK ρ < rT ρ ∧ ρ.2 0 (rK ρ) = 59 then su (xSkp ρ) 2 (nI (rK ρ) + 1) else xFal 1 (nI (rK ρ)) (xSkp ρ) := if_pos hB.1
  have em : mEnd (0, σ) = if (mHere σ).1 = 59 then (0, su (mHere σ).2 17 ((mHere σ).2.1 17 + 1)) else (1, su (mHere σ).2 16 ((mHere σ).2.1 17)) := if_pos rfl
  have e17 : (mHere σ).2.1 17 = nI (rK ρ) := by rw [k1]; rfl
  rw [ex, em, h1, h5, e17]
  by_cases hc : rK ρ < mT σ ∧ σ.2 14 (rK ρ) = 59
  · have c2 : (mHere σ).1 = 59 := by rw [hv, if_pos hc.1]; exact hc.2
    rw [if_pos hc, if_pos c2]
    refine Or.inl ⟨rfl, ⟨hB.1, hB.2.1, mT σ, rK ρ + 1, h4, hc.1, h6, h7, by show nI (rK ρ) + 1 = _; rw [nI_1], by show nI (rK ρ) + 1 = _; rw [nI_1], h5⟩, ?_⟩
    show mP σ < cl (nI (rK ρ) + 1)
    rw [nI_1]
    show mP σ < Int32.toNatClampNeg _
    rw [nI_clamp (by omega)]
    omega
  · have c2 : ¬ (mHere σ).1 = 59 := by
      rw [hv]
      by_cases z : rK ρ < mT σ
      · rw [if_pos z]; exact fun y => hc ⟨z, y⟩
      · rw [if_neg z]; decide
    rw [if_neg hc, if_neg c2]
    exact Or.inr ⟨show (0 : Int32) < 1 by decide, rfl, rfl⟩
