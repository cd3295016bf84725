/-! counting -/
noncomputable def cN (P : Nat → Prop) [DecidablePred P] : Nat → Nat → Nat
  | 0, _ => 0
  | n + 1, i => (if P i then 1 else 0) + cN P n (i + 1)
theorem cN_s {P : Nat → Prop} [DecidablePred P] {n i : Nat} : cN P (n + 1) i = (if P i then 1 else 0) + cN P n (i + 1) := rfl
theorem cN_lp {P : Nat → Prop} [DecidablePred P] : ∀ (n i m : Nat), lp (fun b m => m + bI (P b)) n i (nI m) = nI (m + cN P n i) := by
  intro n
  induction n with
  | zero => intro i m; rfl
  | succ n ih =>
    intro i m
    show lp _ n (i + 1) (nI m + bI (P i)) = _
    rw [cN_s]
    by_cases h : P i
    · rw [bI_t h, if_pos h, nI_1, ih, Nat.add_assoc]
    · rw [bI_f h, if_neg h, Int32.add_zero, ih, Nat.zero_add]
theorem cN_le {P : Nat → Prop} [DecidablePred P] : ∀ (n i : Nat), cN P n i ≤ n := by
  intro n
  induction n with
  | zero => intro i; exact Nat.le_refl _
  | succ n ih => intro i; rw [cN_s]; have := ih (i + 1); split <;> omega
theorem cN_0 {P : Nat → Prop} [DecidablePred P] : ∀ (n i : Nat), cN P n i = 0 ↔ ∀ b, i ≤ b → b < i + n → ¬ P b := by
  intro n
  induction n with
  | zero => intro i; exact ⟨fun _ b h1 h2 => absurd h2 (by omega), fun _ => rfl⟩
  | succ n ih =>
    intro i
    rw [cN_s]
    constructor
    · intro h b h1 h2
      by_cases hp : P i
      · rw [if_pos hp] at h; omega
      · rw [if_neg hp, Nat.zero_add] at h
        rcases Nat.lt_or_ge i b with q | q
        · exact (ih (i + 1)).mp h b q (by omega)
        · have : b = i := by omega
          rw [this]; exact hp
    · intro h
      rw [if_neg (h i (Nat.le_refl _) (by omega)), Nat.zero_add]
      exact (ih (i + 1)).mpr (fun b h1 h2 => h b (by omega) (by omega))
theorem cN_1 {P : Nat → Prop} [DecidablePred P] {a : Nat} (ha : P a) : ∀ (n i : Nat), i ≤ a → a < i + n → (cN P n i = 1 ↔ ∀ b, i ≤ b → b < i + n → b ≠ a → ¬ P b) := by
  intro n
  induction n with
  | zero => intro i h1 h2; omega
  | succ n ih =>
    intro i h1 h2
    rw [cN_s]
    rcases Nat.lt_or_ge i a with q | q
    · have hk := ih (i + 1) q (by omega)
      have hne : cN P n (i + 1) ≠ 0 := fun z => (cN_0 n (i + 1)).mp z a q (by omega) ha
      constructor
      · intro h b b1 b2 b3
        by_cases hp : P i
        · rw [if_pos hp] at h; omega
        · rw [if_neg hp, Nat.zero_add] at h
          rcases Nat.lt_or_ge i b with z | z
          · exact hk.mp h b z (by omega) b3
          · have : b = i := by omega
            rw [this]; exact hp
      · intro h
        rw [if_neg (h i (Nat.le_refl _) (by omega) (by omega)), Nat.zero_add]
        exact hk.mpr (fun b b1 b2 b3 => h b (by omega) (by omega) b3)
    · have e : a = i := by omega
      subst e
      rw [if_pos ha]
      constructor
      · intro h b b1 b2 b3
        exact (cN_0 n (a + 1)).mp (by omega) b (by omega) (by omega)
      · intro h
        rw [(cN_0 n (a + 1)).mpr (fun b b1 b2 => h b (by omega) (by omega) (by omega))]
abbrev onceP (E : Nat) (mk : Nat → Int32) (L a : Nat) : Prop := ∀ b, b < E → b ≠ a → ¬ sameP mk a b L
theorem nI_one {k : Nat} (hk : k < 2 ^ 31) : nI k = 1 ↔ k = 1 := by
  constructor
  · intro h
    have q := congrArg Int32.toInt h
    rw [nI_toInt hk] at q
    have : (1 : Int32).toInt = 1 := rfl
    omega
  · intro h; rw [h]; rfl
theorem cnt_once {E L a : Nat} {mk : Nat → Int32} (ha : a < E) (hE : E ≤ 15) : cntF E mk L a = 1 ↔ onceP E mk L a := by
  unfold cntF
  have h0 : (0 : Int32) = nI 0 := rfl
  rw [h0, cN_lp, Nat.zero_add, nI_one (by have := cN_le (P := fun b => sameP mk a b L) E 0; omega), cN_1 (P := fun b => sameP mk a b L) (a := a) (fun k hk => rfl) E 0 (Nat.zero_le _) (by omega)]
  constructor
  · intro h b b1 b2
    exact h b (Nat.zero_le _) (by omega) b2
  · intro h b b1 b2 b3
    exact h b (by omega) b3
theorem nI_inj0 {a b : Nat} (ha : a < 2 ^ 31) (hb : b < 2 ^ 31) (h : nI a = nI b) : a = b := by
  have q := congrArg Int32.toInt h
  rw [nI_toInt ha, nI_toInt hb] at q
  omega
