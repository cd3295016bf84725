/-! the text -/
def skN (tx : Nat → Int32) : Nat → Nat → Nat
  | 0, p => p
  | n + 1, p => if tx p = 32 then skN tx n (p + 1) else p
/-- the first place from p on, below T, without a blank; T -/
abbrev sk (tx : Nat → Int32) (T p : Nat) : Nat := skN tx (T - p) p
abbrev isDg (c : Int32) : Prop := inB c.toInt 48 57
def dgN (tx : Nat → Int32) : Nat → Nat → Nat
  | 0, p => p
  | n + 1, p => if isDg (tx p) then dgN tx n (p + 1) else p
abbrev dgE (tx : Nat → Int32) (T p : Nat) : Nat := dgN tx (T - p) p
noncomputable def d10F : Int32 → Int32 → Int32 := hid (fun a t => 10 * a + t - 48)
theorem d10F_eq (a t : Int32) : d10F a t = 10 * a + t - 48 := by unfold d10F; rw [hid_eq]
noncomputable def dvM (tx : Nat → Int32) : Nat → Nat → Int32 → Int32
  | 0, _, a => a
  | n + 1, p, a => if isDg (tx p) then dvM tx n (p + 1) (if a ≤ 10000 then d10F a (tx p) else a) else a
noncomputable def dvX (tx : Nat → Int32) : Nat → Nat → Nat → Int32 → Int32
  | 0, _, _, a => a
  | n + 1, p, c, a => if isDg (tx p) then dvX tx n (p + 1) (c + 1) (if c < 3 then d10F a (tx p) else a) else a
theorem skN_le {tx : Nat → Int32} : ∀ (n p : Nat), p ≤ skN tx n p ∧ skN tx n p ≤ p + n
  | 0, p => ⟨Nat.le_refl _, Nat.le_refl _⟩
  | n + 1, p => by
    rw [skN]
    split
    · have := skN_le (tx := tx) n (p + 1); omega
    · omega
theorem dgN_le {tx : Nat → Int32} : ∀ (n p : Nat), p ≤ dgN tx n p ∧ dgN tx n p ≤ p + n
  | 0, p => ⟨Nat.le_refl _, Nat.le_refl _⟩
  | n + 1, p => by
    rw [dgN]
    split
    · have := dgN_le (tx := tx) n (p + 1); omega
    · omega
theorem sk_le {tx : Nat → Int32} {T p : Nat} (h : p ≤ T) : p ≤ sk tx T p ∧ sk tx T p ≤ T := by
  have := skN_le (tx := tx) (T - p) p; unfold sk; omega
theorem dgE_le {tx : Nat → Int32} {T p : Nat} (h : p ≤ T) : p ≤ dgE tx T p ∧ dgE tx T p ≤ T := by
  have := dgN_le (tx := tx) (T - p) p; unfold dgE; omega
/-! the reference's reading, state by state -/
abbrev mT (σ : S2) : Nat := cl (σ.1 15)
def mHere (σ : S2) : Int32 × S2 := (if sk (σ.2 14) (mT σ) (cl (σ.1 17)) < mT σ then σ.2 14 (sk (σ.2 14) (mT σ) (cl (σ.1 17))) else -1, su σ 17 (nI (sk (σ.2 14) (mT σ) (cl (σ.1 17)))))
/-- what is known of the text while it is read -/
def PI (σ : S2) : Prop := ∃ T p : Nat, T ≤ 200 ∧ p ≤ T ∧ σ.1 15 = nI T ∧ σ.1 17 = nI p
noncomputable def mNum (lo hi : Int32) (q : Nat) (σ : S2) : Int32 × S2 :=
  if 3 < nI (dgE (σ.2 14) (mT σ) q) - nI q ∨ ¬ inB (dvM (σ.2 14) (mT σ - q) q 0).toInt lo.toInt hi.toInt then (2, su (su (su (su σ 19 (nI q)) 18 (dvM (σ.2 14) (mT σ - q) q 0)) 17 (nI (dgE (σ.2 14) (mT σ) q))) 16 (nI q)) else (0, su (su (su σ 19 (nI q)) 18 (dvM (σ.2 14) (mT σ - q) q 0)) 17 (nI (dgE (σ.2 14) (mT σ) q)))
noncomputable def mTN (lo hi : Int32) (σ : S2) : Int32 × S2 :=
  if isDg (mHere σ).1 then mNum lo hi (sk (σ.2 14) (mT σ) (cl (σ.1 17))) (mHere σ).2 else (1, su (mHere σ).2 16 (nI (sk (σ.2 14) (mT σ) (cl (σ.1 17)))))
noncomputable def mInto (j : Nat) (k lo hi : Int32) (σ : S2) : Int32 × S2 := ((mTN lo hi σ).1, au (mTN lo hi σ).2 j (cl k) ((mTN lo hi σ).2.1 18))
noncomputable def mStr (σ : S2) : Int32 × S2 := ((mTN 1 14 σ).1, su (mTN 1 14 σ).2 20 ((mTN 1 14 σ).2.1 18))
/-- two steps, the second where the first answers nothing -/
def mThen (r : Int32 × S2) (f : S2 → Int32 × S2) : Int32 × S2 := if r.1 ≤ 0 then f r.2 else r
noncomputable def mChk (σ : S2) : Int32 × S2 := mThen (mThen (mThen (mInto 22 (σ.1 21) 0 2 (su σ 21 (σ.1 21 + 1))) (mInto 23 (σ.1 21) 0 8)) (mInto 24 (σ.1 21) 0 20)) (mInto 25 (σ.1 21) 0 7)
noncomputable def mMrk2 (d : Int32) (σ : S2) : Int32 × S2 := if hb (σ.1 26) d then (4, su σ 16 (σ.1 19)) else mInto 27 d 0 (bit (σ.1 21) - 1) (su σ 26 (σ.1 26 ||| bit d))
noncomputable def mMrk (σ : S2) : Int32 × S2 := if (mTN 0 (σ.1 20 - 1) σ).1 ≤ 0 then mMrk2 ((mTN 0 (σ.1 20 - 1) σ).2.1 18) (mTN 0 (σ.1 20 - 1) σ).2 else mTN 0 (σ.1 20 - 1) σ
noncomputable def mRai (σ : S2) : Int32 × S2 := mInto 29 0 0 8 (su σ 28 1)
noncomputable def mWat (σ : S2) : Int32 × S2 := mThen (mInto 30 0 1 9 σ) (mInto 30 1 0 13)
theorem mHere_PI {σ : S2} (h : PI σ) : PI (mHere σ).2 := by
  obtain ⟨T, p, h1, h2, h3, h4⟩ := h
  have e1 : mT σ = T := by unfold mT cl; rw [h3]; exact nI_clamp (by omega)
  have e2 : cl (σ.1 17) = p := by rw [h4]; exact nI_clamp (by omega)
  exact ⟨T, sk (σ.2 14) T p, h1, (sk_le h2).2, h3, by show nI _ = nI _; rw [e1, e2]⟩
theorem mTN_PI {σ : S2} {lo hi : Int32} (h : PI σ) : PI (mTN lo hi σ).2 := by
  have hh := mHere_PI h
  obtain ⟨T, p, h1, h2, h3, h4⟩ := h
  have e1 : mT σ = T := by unfold mT cl; rw [h3]; exact nI_clamp (by omega)
  have e2 : cl (σ.1 17) = p := by rw [h4]; exact nI_clamp (by omega)
  have hk : sk (σ.2 14) T p ≤ T := (sk_le h2).2
  unfold mTN
  split
  · unfold mNum
    rw [e1, e2]
    have hq : ∀ q, q ≤ T → dgE ((mHere σ).2.2 14) (mT (mHere σ).2) q ≤ T := by
      intro q hq
      have : mT (mHere σ).2 = T := e1
      rw [this]
      exact (dgE_le hq).2
    split
    · exact ⟨T, _, h1, hq _ hk, h3, rfl⟩
    · exact ⟨T, _, h1, hq _ hk, h3, rfl⟩
  · obtain ⟨T', p', a1, a2, a3, a4⟩ := hh
    exact ⟨T', p', a1, a2, a3, a4⟩
/-- a number's reading leaves all but four fields -/
theorem mTN_keep {σ : S2} {lo hi : Int32} {k : Nat} (h6 : k ≠ 16) (h7 : k ≠ 17) (h8 : k ≠ 18) (h9 : k ≠ 19) : (mTN lo hi σ).2.1 k = σ.1 k := by
  unfold mTN
  split
  · unfold mNum
    split <;> simp [su, va_up, mHere, *]
  · simp [su, va_up, mHere, *]
theorem mTN_rows {σ : S2} {lo hi : Int32} : (mTN lo hi σ).2.2 = σ.2 := by
  unfold mTN
  split
  · unfold mNum
    split <;> rfl
  · rfl
