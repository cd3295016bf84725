/-! codes, in whole numbers: a code is a number below 2^16, its sets are its bits -/
theorem hb_tb {a s : Nat} (ha : a < 2 ^ 31) (hs : s < 31) : hb (nI a) (nI s) ↔ a.testBit s = true := by
  rw [hbN ha hs, Nat.testBit_eq_decide_div_mod_eq, decide_eq_true_iff]
def sF (f : Nat → Nat) (a : Nat) : Nat → Nat → Nat
  | 0, _ => 0
  | n + 1, i => (if a.testBit i = true then f i else 0) + sF f a n (i + 1)
theorem sF_s {f : Nat → Nat} {a n i : Nat} : sF f a (n + 1) i = (if a.testBit i = true then f i else 0) + sF f a n (i + 1) := rfl
theorem ctN_sF {a : Nat} (ha : a < 2 ^ 31) : ∀ (n i : Nat), i + n ≤ 31 → ctN (nI a) n i = sF (fun _ => 1) a n i := by
  intro n
  induction n with
  | zero => intro i _; rfl
  | succ n ih =>
    intro i hi
    rw [ctN_s, sF_s, ih (i + 1) (by omega)]
    congr 1
    by_cases h : hb (nI a) (nI i)
    · rw [if_pos h, if_pos ((hb_tb ha (by omega)).mp h)]
    · rw [if_neg h, if_neg (mt (hb_tb ha (by omega)).mpr h)]
theorem tb_hi {a s : Nat} (ha : a < 2 ^ 16) (hs : 16 ≤ s) : a.testBit s = false := Nat.testBit_lt_two_pow (Nat.lt_of_lt_of_le ha (Nat.pow_le_pow_right (by decide) hs))
theorem eq_of_bits {a b : Nat} (ha : a < 2 ^ 16) (hb : b < 2 ^ 16) (h : ∀ s, s < 16 → a.testBit s = b.testBit s) : a = b := by
  apply Nat.eq_of_testBit_eq
  intro i
  by_cases hi : i < 16
  · exact h i hi
  · rw [tb_hi ha (by omega), tb_hi hb (by omega)]
theorem low_ex : ∀ (n u : Nat), u ≤ n → 0 < u → ∃ s m : Nat, u = 2 ^ s * (2 * m + 1) := by
  intro n
  induction n with
  | zero => intro u h1 h2; omega
  | succ n ih =>
    intro u h1 h2
    by_cases h : u % 2 = 1
    · exact ⟨0, u / 2, by rw [Nat.pow_zero]; omega⟩
    · obtain ⟨s, m, e⟩ := ih (u / 2) (by omega) (by omega)
      refine ⟨s + 1, m, ?_⟩
      rw [Nat.pow_succ, Nat.mul_comm (2 ^ s) 2, Nat.mul_assoc, ← e]
      omega
theorem low_bit {u : Nat} (h0 : 0 < u) (hu : u < 2 ^ 31) : ∃ s : Nat, s < 31 ∧ (∀ j, j < s → u.testBit j = false) ∧ u.testBit s = true ∧ nI u &&& -(nI u) = nI (2 ^ s) := by
  obtain ⟨s, m, e⟩ := low_ex u u (Nat.le_refl _) h0
  have hle : 2 ^ s ≤ u := by rw [e]; exact Nat.le_mul_of_pos_right _ (by omega)
  have hs : s < 31 := by
    rcases Nat.lt_or_ge s 31 with z | z
    · exact z
    · have := Nat.pow_le_pow_right (show 0 < 2 by decide) z
      omega
  have b1 : ∀ j, u.testBit j = (decide (s ≤ j) && (2 * m + 1).testBit (j - s)) := by
    intro j
    rw [e, Nat.testBit_two_pow_mul]
  have e2 : u - 1 = 2 ^ s * (2 * m) + (2 ^ s - 1) := by
    have : u = 2 ^ s * (2 * m) + 2 ^ s := by rw [e, Nat.mul_add, Nat.mul_one]
    have hp : 0 < 2 ^ s := Nat.two_pow_pos s
    omega
  have hp : 2 ^ s - 1 < 2 ^ s := by have := Nat.two_pow_pos s; omega
  have b2 : ∀ j, (u - 1).testBit j = if j < s then (2 ^ s - 1).testBit j else (2 * m).testBit (j - s) := by
    intro j
    rw [e2, Nat.testBit_two_pow_mul_add _ hp]
  refine ⟨s, hs, fun j hj => ?_, ?_, ?_⟩
  · rw [b1 j]
    simp
    intro h
    omega
  · rw [b1 s]
    simp
  · apply Int32.toBitVec_inj.mp
    apply BitVec.eq_of_toNat_eq
    have hps : 2 ^ s < 2 ^ 32 := Nat.pow_lt_pow_right (by decide) (by omega)
    rw [Int32.toBitVec_and, BitVec.toNat_and, Int32.toBitVec_neg, BitVec.toNat_neg, pk_tn (by omega), pk_tn hps]
    rw [Nat.mod_eq_of_lt (show 2 ^ 32 - u < 2 ^ 32 by omega)]
    apply Nat.eq_of_testBit_eq
    intro i
    rw [Nat.testBit_and, Nat.testBit_two_pow]
    have e3 : 2 ^ 32 - u = 2 ^ 32 - ((u - 1) + 1) := by omega
    rw [e3, Nat.testBit_two_pow_sub_succ (by omega), b1 i, b2 i]
    rcases Nat.lt_trichotomy i s with z | z | z
    · have z1 : ¬ s ≤ i := by omega
      have z2 : ¬ s = i := by omega
      simp [z1, z2]
    · subst z
      simp
      omega
    · obtain ⟨k, hk⟩ : ∃ k, i - s = k + 1 := ⟨i - s - 1, by omega⟩
      have z1 : s ≤ i := by omega
      have z2 : ¬ i < s := by omega
      have z3 : ¬ s = i := by omega
      rw [hk, Nat.testBit_succ, Nat.testBit_succ, show (2 * m + 1) / 2 = m by omega, show 2 * m / 2 = m by omega]
      simp [z1, z2, z3]
      exact fun h _ => h
theorem ahead_N {a b : Nat} (ha : a < 2 ^ 16) (hb : b < 2 ^ 16) (hne : a ≠ b) : ∃ s : Nat, s < 16 ∧ (∀ j, j < s → a.testBit j = b.testBit j) ∧ a.testBit s ≠ b.testBit s ∧ (aheadF (nI a) (nI b) ↔ a.testBit s = true) := by
  have hu : a ^^^ b < 2 ^ 16 := Nat.xor_lt_two_pow ha hb
  have h0 : 0 < a ^^^ b := by
    rcases Nat.eq_zero_or_pos (a ^^^ b) with z | z
    · refine absurd (Nat.eq_of_testBit_eq (fun i => ?_)) hne
      have := congrArg (fun n => n.testBit i) z
      simp only [Nat.testBit_xor, Nat.zero_testBit] at this
      cases h1 : a.testBit i <;> cases h2 : b.testBit i <;> simp_all
    · exact z
  obtain ⟨s, hs, l1, l2, l3⟩ := low_bit h0 (by omega)
  have hs16 : s < 16 := by
    rcases Nat.lt_or_ge s 16 with z | z
    · exact z
    · rw [tb_hi hu z] at l2; cases l2
  refine ⟨s, hs16, fun j hj => ?_, ?_, ?_⟩
  · have := l1 j hj
    rw [Nat.testBit_xor] at this
    cases h1 : a.testBit j <;> cases h2 : b.testBit j <;> simp_all
  · rw [Nat.testBit_xor] at l2
    intro h
    rw [h] at l2
    simp at l2
  · have hps : 2 ^ s < 2 ^ 32 := Nat.pow_lt_pow_right (by decide) (by omega)
    have e : (nI a &&& ((nI a ^^^ nI b) &&& -(nI a ^^^ nI b))) = nI (a &&& 2 ^ s) := by
      rw [nI_xor (by omega) (by omega), l3, nI_and (by omega) hps]
    unfold aheadF
    rw [e]
    have hl : a &&& 2 ^ s < 2 ^ 31 := Nat.lt_of_le_of_lt Nat.and_le_left (by omega)
    have e0 : nI (a &&& 2 ^ s) = 0 ↔ a &&& 2 ^ s = 0 := nI_eq (b := 0) hl (by decide)
    rw [e0]
    constructor
    · intro h
      cases h1 : a.testBit s with
      | true => rfl
      | false =>
        refine absurd (Nat.eq_of_testBit_eq (fun i => ?_)) h
        rw [Nat.testBit_and, Nat.testBit_two_pow, Nat.zero_testBit]
        by_cases q : s = i
        · rw [← q, h1]; rfl
        · simp [q]
    · intro h z
      have := congrArg (fun n => n.testBit s) z
      simp only [Nat.testBit_and, Nat.testBit_two_pow_self, Nat.zero_testBit, h] at this
      cases this
/-- the first of the sets from i on -/
theorem sF_first {a : Nat} : ∀ (n i j : Nat), sF (fun _ => 1) a n i = j + 1 → ∃ m n' : Nat, i ≤ m ∧ m + 1 + n' = i + n ∧ a.testBit m = true ∧ (∀ t, i ≤ t → t < m → a.testBit t = false) ∧ sF (fun _ => 1) a n' (m + 1) = j := by
  intro n
  induction n with
  | zero => intro i j h; cases h
  | succ n ih =>
    intro i j h
    rw [sF_s] at h
    by_cases hb : a.testBit i = true
    · rw [if_pos hb] at h
      exact ⟨i, n, Nat.le_refl _, by omega, hb, fun t h1 h2 => by omega, by omega⟩
    · rw [if_neg hb, Nat.zero_add] at h
      obtain ⟨m, n', q1, q2, q3, q4, q5⟩ := ih (i + 1) j h
      refine ⟨m, n', by omega, by omega, q3, fun t h1 h2 => ?_, q5⟩
      by_cases e : t = i
      · subst e; simpa using hb
      · exact q4 t (by omega) h2
theorem sF_none {a : Nat} : ∀ (n i : Nat), sF (fun _ => 1) a n i = 0 → ∀ t, i ≤ t → t < i + n → a.testBit t = false := by
  intro n
  induction n with
  | zero => intro i _ t h1 h2; omega
  | succ n ih =>
    intro i h t h1 h2
    rw [sF_s] at h
    by_cases hb : a.testBit i = true
    · rw [if_pos hb] at h; omega
    · rw [if_neg hb, Nat.zero_add] at h
      by_cases e : t = i
      · subst e; simpa using hb
      · exact ih (i + 1) h t (by omega) (by omega)
/-- sums against a threshold: no more, and if no less, all that differs costs the threshold -/
theorem sF_thr {k : Nat → Nat} {w c τ : Nat} : ∀ (n i : Nat), (∀ s, i ≤ s → s < i + n → w.testBit s = true → c.testBit s = false → k s ≤ τ) → (∀ s, i ≤ s → s < i + n → c.testBit s = true → w.testBit s = false → τ ≤ k s) → sF k w n i + τ * sF (fun _ => 1) c n i ≤ sF k c n i + τ * sF (fun _ => 1) w n i ∧ (sF k w n i + τ * sF (fun _ => 1) c n i = sF k c n i + τ * sF (fun _ => 1) w n i → ∀ s, i ≤ s → s < i + n → w.testBit s ≠ c.testBit s → k s = τ) := by
  intro n
  induction n with
  | zero => intro i _ _; exact ⟨by simp [sF], fun _ s h1 h2 => by omega⟩
  | succ n ih =>
    intro i h1 h2
    obtain ⟨a1, a2⟩ := ih (i + 1) (fun s q1 q2 => h1 s (by omega) (by omega)) (fun s q1 q2 => h2 s (by omega) (by omega))
    have g1 := h1 i (Nat.le_refl _) (by omega)
    have g2 := h2 i (Nat.le_refl _) (by omega)
    rw [sF_s, sF_s, sF_s, sF_s, Nat.mul_add, Nat.mul_add]
    cases hw : w.testBit i <;> cases hc : c.testBit i <;> simp only [if_true, Bool.false_eq_true, if_false, Nat.mul_one, Nat.mul_zero, Nat.zero_add]
    · refine ⟨a1, fun e s q1 q2 q3 => ?_⟩
      by_cases z : s = i
      · subst z; rw [hw, hc] at q3; exact absurd rfl q3
      · exact a2 e s (by omega) (by omega) q3
    · have := g2 hc hw
      refine ⟨by omega, fun e s q1 q2 q3 => ?_⟩
      by_cases z : s = i
      · subst z; omega
      · exact a2 (by omega) s (by omega) (by omega) q3
    · have := g1 hw hc
      refine ⟨by omega, fun e s q1 q2 q3 => ?_⟩
      by_cases z : s = i
      · subst z; omega
      · exact a2 (by omega) s (by omega) (by omega) q3
    · refine ⟨by omega, fun e s q1 q2 q3 => ?_⟩
      by_cases z : s = i
      · subst z; rw [hw, hc] at q3; exact absurd rfl q3
      · exact a2 (by omega) s (by omega) (by omega) q3
theorem sF_lt {w c : Nat} : ∀ (n i : Nat), (∀ s, i ≤ s → s < i + n → w.testBit s = true → c.testBit s = true) → sF (fun _ => 1) w n i ≤ sF (fun _ => 1) c n i ∧ ((∃ s, i ≤ s ∧ s < i + n ∧ c.testBit s = true ∧ w.testBit s = false) → sF (fun _ => 1) w n i < sF (fun _ => 1) c n i) := by
  intro n
  induction n with
  | zero => intro i _; exact ⟨Nat.le_refl _, fun ⟨s, h1, h2, _⟩ => by omega⟩
  | succ n ih =>
    intro i h
    obtain ⟨a1, a2⟩ := ih (i + 1) (fun s q1 q2 => h s (by omega) (by omega))
    rw [sF_s, sF_s]
    have g := h i (Nat.le_refl _) (by omega)
    cases hw : w.testBit i <;> cases hc : c.testBit i <;> simp only [if_true, Bool.false_eq_true, if_false, Nat.zero_add]
    · refine ⟨a1, fun ⟨s, q1, q2, q3, q4⟩ => a2 ⟨s, ?_, by omega, q3, q4⟩⟩
      rcases Nat.lt_or_ge i s with z | z
      · exact z
      · have e : s = i := by omega
        subst e; rw [hc] at q3; cases q3
    · exact ⟨by omega, fun _ => by omega⟩
    · rw [g hw] at hc; cases hc
    · refine ⟨by omega, fun ⟨s, q1, q2, q3, q4⟩ => ?_⟩
      have hlt : i + 1 ≤ s := by
        rcases Nat.lt_or_ge i s with z | z
        · exact z
        · have e : s = i := by omega
          subst e
          rw [hw] at q4
          cases q4
      have := a2 ⟨s, hlt, by omega, q3, q4⟩
      omega
def mxF (k : Nat → Nat) (w c : Nat) : Nat → Nat
  | 0 => 0
  | n + 1 => if w.testBit n = true ∧ c.testBit n = false then max (mxF k w c n) (k n) else mxF k w c n
theorem mxF_ge {k : Nat → Nat} {w c : Nat} : ∀ (n s : Nat), s < n → w.testBit s = true → c.testBit s = false → k s ≤ mxF k w c n := by
  intro n
  induction n with
  | zero => intro s h; omega
  | succ n ih =>
    intro s h h1 h2
    unfold mxF
    by_cases e : s = n
    · subst e; rw [if_pos ⟨h1, h2⟩]; omega
    · have := ih s (by omega) h1 h2
      split <;> omega
theorem mxF_at {k : Nat → Nat} {w c : Nat} : ∀ n : Nat, mxF k w c n = 0 ∨ ∃ m, m < n ∧ w.testBit m = true ∧ c.testBit m = false ∧ k m = mxF k w c n := by
  intro n
  induction n with
  | zero => exact Or.inl rfl
  | succ n ih =>
    unfold mxF
    by_cases h : w.testBit n = true ∧ c.testBit n = false
    · rw [if_pos h]
      rcases Nat.le_total (mxF k w c n) (k n) with z | z
      · exact Or.inr ⟨n, by omega, h.1, h.2, by omega⟩
      · rw [Nat.max_eq_left z]
        rcases ih with q | ⟨m, q1, q2⟩
        · exact Or.inl q
        · exact Or.inr ⟨m, by omega, q2⟩
    · rw [if_neg h]
      rcases ih with q | ⟨m, q1, q2⟩
      · exact Or.inl q
      · exact Or.inr ⟨m, by omega, q2⟩
/-- what is cheapest, of like cost the first, is the best code of its size -/
theorem seg_best {k : Nat → Nat} {w c : Nat} (hw : w < 2 ^ 16) (hc : c < 2 ^ 16) (hne : w ≠ c) (hn : sF (fun _ => 1) w 16 0 = sF (fun _ => 1) c 16 0) (hs : ∀ s t, s < 16 → t < 16 → w.testBit s = true → w.testBit t = false → c.testBit t = true → k s < k t ∨ (k s = k t ∧ s < t)) : sF k w 16 0 < sF k c 16 0 ∨ (sF k w 16 0 = sF k c 16 0 ∧ aheadF (nI w) (nI c)) := by
  have key := sF_thr (k := k) (w := w) (c := c) (τ := mxF k w c 16) 16 0 (fun s _ h2 a b => mxF_ge 16 s (by omega) a b) (fun s _ h2 a b => by
    rcases mxF_at (k := k) (w := w) (c := c) 16 with z | ⟨m, m1, m2, m3, m4⟩
    · omega
    · rcases hs m s m1 (by omega) m2 b a with q | q <;> omega)
  rw [hn] at key
  obtain ⟨k1, k2⟩ := key
  rcases Nat.lt_or_ge (sF k w 16 0) (sF k c 16 0) with z | z
  · exact Or.inl z
  · have he : sF k w 16 0 = sF k c 16 0 := by omega
    refine Or.inr ⟨he, ?_⟩
    have hall := k2 (by rw [he])
    obtain ⟨s0, s1, s2, s3, s4⟩ := ahead_N hw hc hne
    rw [s4]
    cases hb : w.testBit s0 with
    | true => rfl
    | false =>
      have hcb : c.testBit s0 = true := by
        cases h2 : c.testBit s0 with
        | true => rfl
        | false => rw [hb, h2] at s3; exact absurd rfl s3
      have hex : ∃ m, m < 16 ∧ w.testBit m = true ∧ c.testBit m = false := by
        refine Classical.byContradiction (fun hno => ?_)
        have := (sF_lt (w := w) (c := c) 16 0 (fun s _ q2 q3 => by
          cases h2 : c.testBit s with
          | true => rfl
          | false => exact absurd ⟨s, by omega, q3, h2⟩ hno)).2 ⟨s0, Nat.zero_le _, by omega, hcb, hb⟩
        omega
      obtain ⟨m, m1, m2, m3⟩ := hex
      have km := hall m (Nat.zero_le _) (by omega) (by rw [m2, m3]; decide)
      have ks := hall s0 (Nat.zero_le _) (by omega) s3
      rcases hs m s0 m1 s1 m2 hb hcb with q | q
      · omega
      · have := s2 m q.2
        rw [m2, m3] at this
        cases this
