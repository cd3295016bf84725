theorem lp_idx {S : Type} {f : Nat → S → S} (P : Nat → S → Prop) : ∀ (n i : Nat) (s : S), (∀ j t, i ≤ j → j < i + n → P j t → P (j + 1) (f j t)) → P i s → P (i + n) (lp f n i s) := by
  intro n
  induction n with
  | zero => intro i s _ h; exact h
  | succ n ih =>
    intro i s h hs
    have := ih (i + 1) (f i s) (fun j t h1 h2 => h j t (by omega) (by omega)) (h i s (Nat.le_refl _) (by omega) hs)
    rw [show i + (n + 1) = i + 1 + n by omega]
    exact this
noncomputable def kcN (C : Nat) (cost : Nat → Int32) (s : Nat) : Nat := cl (costF C cost (nI s))
theorem kc_eq {C : Nat} {cost : Nat → Int32} (hC : C ≤ 4) (hc : Cst C cost) (s : Nat) : costF C cost (nI s) = nI (kcN C cost s) ∧ kcN C cost s ≤ 80 := by
  obtain ⟨k, h1, h2⟩ := costF_N (w := nI s) hc
  have e : kcN C cost s = k := by unfold kcN; rw [h2]; exact nI_clamp (by omega)
  rw [e]
  exact ⟨h2, by omega⟩
theorem kc_0 {C : Nat} {cost : Nat → Int32} (hC : C ≤ 4) : kcN C cost 0 = 0 := by
  have : costF C cost (nI 0) = 0 := by
    unfold costF
    rw [lp_ext (f' := fun _ (t : Int32) => t) C 0 _ (fun j t _ hj => if_neg (fun h => by
      have := (hbN (x := 0) (by decide) (show j < 31 by omega)).mp h
      simp at this)), lp_id]
  unfold kcN
  rw [this]
  rfl
theorem sF_le {f : Nat → Nat} {a M : Nat} (h : ∀ s, f s ≤ M) : ∀ (n i : Nat), sF f a n i ≤ M * n := by
  intro n
  induction n with
  | zero => intro i; exact Nat.zero_le _
  | succ n ih =>
    intro i
    rw [sF_s, Nat.mul_succ]
    have := ih (i + 1)
    have := h i
    split <;> omega
theorem sF_zero {f : Nat → Nat} {a : Nat} : ∀ (n i : Nat), (∀ t, i ≤ t → t < i + n → a.testBit t = false) → sF f a n i = 0 := by
  intro n
  induction n with
  | zero => intro i _; rfl
  | succ n ih =>
    intro i h
    rw [sF_s, if_neg (by rw [h i (Nat.le_refl _) (by omega)]; decide), ih (i + 1) (fun t h1 h2 => h t (by omega) (by omega))]
theorem sF_add {f : Nat → Nat} {a : Nat} : ∀ (n m i : Nat), sF f a (n + m) i = sF f a n i + sF f a m (i + n) := by
  intro n
  induction n with
  | zero => intro m i; rw [Nat.zero_add]; show _ = 0 + _; rw [Nat.zero_add]; rfl
  | succ n ih =>
    intro m i
    rw [show n + 1 + m = n + m + 1 by omega, sF_s, sF_s, ih, show i + 1 + n = i + (n + 1) by omega]
    omega
theorem sF_full {a : Nat} : ∀ (n i : Nat), (∀ t, i ≤ t → t < i + n → a.testBit t = true) → sF (fun _ => 1) a n i = n := by
  intro n
  induction n with
  | zero => intro i _; rfl
  | succ n ih =>
    intro i h
    rw [sF_s, if_pos (h i (Nat.le_refl _) (by omega)), ih (i + 1) (fun t h1 h2 => h t (by omega) (by omega))]
    omega
theorem tb_or {a x s : Nat} : (a ||| 2 ^ x).testBit s = (a.testBit s || decide (x = s)) := by rw [Nat.testBit_or, Nat.testBit_two_pow]
theorem sF_or {f : Nat → Nat} {a x : Nat} (hx : a.testBit x = false) : ∀ (n i : Nat), (x < i → sF f (a ||| 2 ^ x) n i = sF f a n i) ∧ (i ≤ x → x < i + n → sF f (a ||| 2 ^ x) n i = sF f a n i + f x) := by
  intro n
  induction n with
  | zero => intro i; exact ⟨fun _ => rfl, fun h1 h2 => by omega⟩
  | succ n ih =>
    intro i
    refine ⟨fun h => ?_, fun h1 h2 => ?_⟩
    · rw [sF_s, sF_s, (ih (i + 1)).1 (by omega), tb_or]
      have : ¬ x = i := by omega
      simp [this]
    · rw [sF_s, sF_s, tb_or]
      by_cases e : x = i
      · subst e
        rw [(ih (x + 1)).1 (by omega), hx]
        simp
        omega
      · rw [(ih (i + 1)).2 (by omega) (by omega)]
        simp [e]
        omega
/-! near sets -/
def ndP (t s q : Nat) : Prop := q ≠ s ∧ ctK (s ^^^ q) 16 0 < t
theorem ctK_le {k : Nat} : ∀ (n s : Nat), ctK k n s ≤ n := by
  intro n
  induction n with
  | zero => intro s; exact Nat.le_refl _
  | succ n ih =>
    intro s
    have := ih (s + 1)
    show k / 2 ^ s % 2 + ctK k n (s + 1) ≤ n + 1
    omega
theorem xor16 {s q : Nat} (hs : s < 16) (hq : q < 16) : s ^^^ q < 16 := Nat.xor_lt_two_pow (n := 4) hs hq
theorem bits_x {s q : Nat} (hs : s < 16) (hq : q < 16) : bitsF (nI s ^^^ nI q) = nI (ctK (s ^^^ q) 16 0) := by
  have := xor16 hs hq
  rw [nI_xor (by omega) (by omega), bitsN, ctN_K (by omega) 16 0 (by omega)]
theorem near_N {e : Int32} {t s : Nat} (he : 2 * e + 1 = nI t) (ht : t ≤ 5) (hs : s < 16) : ∃ m : Nat, m < 2 ^ 16 ∧ nearF e s = nI m ∧ ∀ q, q < 16 → (m.testBit q = true ↔ ndP t s q) := by
  have cnd : ∀ q, q < 16 → ((¬ nI q = nI s ∧ bitsF (nI s ^^^ nI q) < 2 * e + 1) ↔ ndP t s q) := by
    intro q hq
    have := ctK_le (k := s ^^^ q) 16 0
    rw [bits_x hs hq, he, nI_eq (by omega) (by omega), nI_ltI (by omega) (by omega)]
    rfl
  have key : ∀ (n i m : Nat), i + n = 16 → m < 2 ^ 16 → (∀ q, q < 16 → (m.testBit q = true ↔ q < i ∧ ndP t s q)) → ∃ m' : Nat, m' < 2 ^ 16 ∧ lp (nrC e s) n i (nI m) = nI m' ∧ ∀ q, q < 16 → (m'.testBit q = true ↔ ndP t s q) := by
    intro n
    induction n with
    | zero => intro i m h1 h2 h3; exact ⟨m, h2, rfl, fun q hq => (h3 q hq).trans ⟨fun z => z.2, fun z => ⟨by omega, z⟩⟩⟩
    | succ n ih =>
      intro i m h1 h2 h3
      show ∃ m' : Nat, m' < 2 ^ 16 ∧ lp (nrC e s) n (i + 1) (nrC e s i (nI m)) = nI m' ∧ _
      unfold nrC
      by_cases hp : ndP t s i
      · rw [if_pos ((cnd i (by omega)).mpr hp), bitN (by omega), nI_or (by omega) (Nat.pow_lt_pow_right (by decide) (by omega))]
        refine ih (i + 1) (m ||| 2 ^ i) (by omega) (Nat.or_lt_two_pow h2 (Nat.pow_lt_pow_right (by decide) (by omega))) (fun q hq => ?_)
        rw [tb_or]
        have := h3 q hq
        by_cases z : i = q
        · subst z
          simp
          exact hp
        · simp only [z, decide_false, Bool.or_false]
          rw [this]
          constructor
          · rintro ⟨a, b⟩; exact ⟨by omega, b⟩
          · rintro ⟨a, b⟩; exact ⟨by omega, b⟩
      · rw [if_neg (mt (cnd i (by omega)).mp hp)]
        refine ih (i + 1) m (by omega) h2 (fun q hq => (h3 q hq).trans ?_)
        constructor
        · rintro ⟨a, b⟩; exact ⟨by omega, b⟩
        · rintro ⟨a, b⟩
          refine ⟨?_, b⟩
          rcases Nat.lt_or_ge q i with z | z
          · exact z
          · have e2 : q = i := by omega
            rw [e2] at b
            exact absurd b hp
  exact key 16 0 0 (by decide) (by decide) (fun q hq => by simp)
/-- no two sets are near -/
def okC (t c : Nat) : Prop := ∀ s q, s < 16 → q < 16 → c.testBit s = true → c.testBit q = true → ¬ ndP t s q
def NearR (e : Int32) (near : Nat → Int32) : Prop := ∀ i, i < 16 → near i = nearF e i
theorem and0 {e : Int32} {t c i : Nat} {near : Nat → Int32} (hn : NearR e near) (he : 2 * e + 1 = nI t) (ht : t ≤ 5) (hi : i < 16) (hc : c < 2 ^ 16) : nI c &&& near i = 0 ↔ ∀ q, q < 16 → c.testBit q = true → ¬ ndP t i q := by
  obtain ⟨m, h1, h2, h3⟩ := near_N he ht hi
  rw [hn i hi, h2, nI_and (by omega) (by omega)]
  have hl : c &&& m < 2 ^ 31 := Nat.lt_of_le_of_lt Nat.and_le_left (by omega)
  rw [show (0 : Int32) = nI 0 from rfl, nI_eq hl (by decide)]
  constructor
  · intro h q hq hb hp
    have := congrArg (fun n => n.testBit q) h
    simp only [Nat.testBit_and, Nat.zero_testBit, hb, (h3 q hq).mpr hp] at this
    cases this
  · intro h
    apply Nat.eq_of_testBit_eq
    intro q
    rw [Nat.testBit_and, Nat.zero_testBit]
    by_cases hq : q < 16
    · cases h1 : c.testBit q with
      | false => rfl
      | true =>
        cases h2 : m.testBit q with
        | false => rfl
        | true => exact absurd ((h3 q hq).mp h2) (h q hq h1)
    · rw [tb_hi hc (by omega)]; rfl
section cods
variable {C D t : Nat} {cost near : Nat → Int32} {e : Int32}
theorem cc_ok (hC : C ≤ 4) (hc : Cst C cost) (hn : NearR e near) (he : 2 * e + 1 = nI t) (ht : t ≤ 5) {c : Nat} (hl : c < 2 ^ 16) (h : okC t c) : ccF C cost near (nI c) 16 0 0 = nI (sF (kcN C cost) c 16 0) := by
  have key : ∀ (n i a : Nat), i + n ≤ 16 → ccF C cost near (nI c) n i (nI a) = nI (a + sF (kcN C cost) c n i) := by
    intro n
    induction n with
    | zero => intro i a _; rfl
    | succ n ih =>
      intro i a hi
      rw [ccF_s, sF_s]
      by_cases hb : hb (nI c) (nI i)
      · have hb2 := (hb_tb (by omega) (by omega)).mp hb
        rw [if_pos hb, if_pos ((and0 hn he ht (by omega) hl).mpr (fun q hq h2 => h i q (by omega) hq hb2 h2)), if_pos hb2, (kc_eq hC hc i).1, nI_add, ih (i + 1) _ (by omega)]
        congr 1
        omega
      · rw [if_neg hb, if_neg (mt (hb_tb (by omega) (by omega)).mpr hb), ih (i + 1) _ (by omega), Nat.zero_add]
  have := key 16 0 0 (by omega)
  rw [Nat.zero_add] at this
  exact this
theorem cc_no (hn : NearR e near) (he : 2 * e + 1 = nI t) (ht : t ≤ 5) {c : Nat} (hl : c < 2 ^ 16) (h : ¬ okC t c) : ccF C cost near (nI c) 16 0 0 = 1000000 := by
  have hex : ∃ s, s < 16 ∧ c.testBit s = true ∧ ¬ nI c &&& near s = 0 := by
    refine Classical.byContradiction (fun hno => h (fun s q hs hq h1 h2 h3 => hno ⟨s, hs, h1, fun z => ?_⟩))
    exact (and0 hn he ht hs hl).mp z q hq h2 h3
  obtain ⟨s, s1, s2, s3⟩ := hex
  have key : ∀ (n i : Nat) (a : Int32), i + n = 16 → i ≤ s → ccF C cost near (nI c) n i a = 1000000 := by
    intro n
    induction n with
    | zero => intro i a h1 h2; omega
    | succ n ih =>
      intro i a h1 h2
      rw [ccF_s]
      by_cases e1 : i = s
      · subst e1
        rw [if_pos ((hb_tb (by omega) (by omega)).mpr s2), if_neg s3]
      · by_cases hb : hb (nI c) (nI i)
        · rw [if_pos hb]
          split
          · exact ih (i + 1) _ (by omega) (by omega)
          · rfl
        · rw [if_neg hb]
          exact ih (i + 1) _ (by omega) (by omega)
  exact key 16 0 0 (by omega) (Nat.zero_le _)
theorem cst_le (hC : C ≤ 4) (hc : Cst C cost) {c : Nat} : sF (kcN C cost) c 16 0 ≤ 1280 := sF_le (M := 80) (fun s => (kc_eq hC hc s).2) 16 0
theorem bits_D {c : Nat} (hl : c < 2 ^ 16) (hD : D ≤ 14) : bitsF (nI c) = nI D ↔ sF (fun _ => 1) c 16 0 = D := by
  have := sF_le (f := fun _ => 1) (a := c) (M := 1) (fun _ => Nat.le_refl _) 16 0
  rw [bitsN, ctN_sF (by omega) 16 0 (by omega), nI_eq (by omega) (by omega)]
theorem p22 (hC : C ≤ 4) : 2 ^ 2 ^ C ≤ 2 ^ 16 ∧ 2 ^ C ≤ 16 := by
  have h1 : 2 ^ C ≤ 2 ^ 4 := Nat.pow_le_pow_right (by decide) hC
  exact ⟨Nat.pow_le_pow_right (by decide) h1, h1⟩
theorem fc_none (hC : C ≤ 4) (hD : D ≤ 14) (hn : NearR e near) (he : 2 * e + 1 = nI t) (ht : t ≤ 5) (h : ∀ c, c < 2 ^ 2 ^ C → sF (fun _ => 1) c 16 0 = D → ¬ okC t c) : fcF D C cost near = (0, 1000000) := by
  have hp := (p22 hC).1
  unfold fcF
  rw [lp_exP (f' := fun _ (t : Int32 × Int32) => t) (fun s => s = ((0 : Int32), (1000000 : Int32))) (2 ^ 2 ^ C) 0 (0, 1000000) (fun j t0 _ hj hs => ?_) rfl |>.1, lp_id]
  subst hs
  have key : fcC D C cost near j (0, 1000000) = (0, 1000000) := by
    unfold fcC
    by_cases hb : bitsF (nI j) = nI D
    · have hno := h j (by omega) ((bits_D (by omega) hD).mp hb)
      rw [if_pos hb, cc_no hn he ht (by omega) hno, if_neg]
      rintro (z | ⟨_, z, _⟩)
      · exact absurd (show (1000000 : Int32) < 1000000 from z) (by decide)
      · exact absurd z (by decide)
    · rw [if_neg hb]
  exact ⟨key, key⟩
theorem fc_best (hC : C ≤ 4) (hD : D ≤ 14) (hc : Cst C cost) (hn : NearR e near) (he : 2 * e + 1 = nI t) (ht : t ≤ 5) {w : Nat} (hw : w < 2 ^ 2 ^ C) (h1 : sF (fun _ => 1) w 16 0 = D) (h2 : okC t w) (h3 : ∀ c, c < 2 ^ 2 ^ C → w ≠ c → sF (fun _ => 1) c 16 0 = D → okC t c → sF (kcN C cost) w 16 0 < sF (kcN C cost) c 16 0 ∨ (sF (kcN C cost) w 16 0 = sF (kcN C cost) c 16 0 ∧ aheadF (nI w) (nI c))) : fcF D C cost near = (nI w, nI (sF (kcN C cost) w 16 0)) := by
  have hp := (p22 hC).1
  have hle : ∀ c, sF (kcN C cost) c 16 0 ≤ 1280 := fun c => cst_le hC hc
  have asym : ∀ c, c < 2 ^ 16 → w ≠ c → aheadF (nI w) (nI c) → ¬ aheadF (nI c) (nI w) := by
    intro c hc2 hne ha hb
    obtain ⟨s, s1, s2, s3, s4⟩ := ahead_N (show w < 2 ^ 16 by omega) hc2 hne
    obtain ⟨r, r1, r2, r3, r4⟩ := ahead_N hc2 (show w < 2 ^ 16 by omega) (Ne.symm hne)
    have e1 : s = r := by
      rcases Nat.lt_trichotomy s r with z | z | z
      · exact absurd (r2 s z).symm s3
      · exact z
      · exact absurd (s2 r z).symm r3
    subst e1
    exact s3 ((s4.mp ha).trans (r4.mp hb).symm)
  have key := lp_idx (f := fcC D C cost near) (fun i s => (s = (0, 1000000) ∨ ∃ b, b < i ∧ sF (fun _ => 1) b 16 0 = D ∧ okC t b ∧ s = (nI b, nI (sF (kcN C cost) b 16 0))) ∧ (w < i → s = (nI w, nI (sF (kcN C cost) w 16 0)))) (2 ^ 2 ^ C) 0 (0, 1000000) (fun i s _ hi hs => ?_) ⟨Or.inl rfl, fun h => absurd h (by omega)⟩
  · rw [Nat.zero_add] at key
    exact key.2 hw
  · obtain ⟨a1, a2⟩ := hs
    have hi : i < 2 ^ 2 ^ C := by omega
    have hi16 : i < 2 ^ 16 := by omega
    have up : ∀ s : Int32 × Int32, (s = (0, 1000000) ∨ ∃ b, b < i ∧ sF (fun _ => 1) b 16 0 = D ∧ okC t b ∧ s = (nI b, nI (sF (kcN C cost) b 16 0))) → (s = (0, 1000000) ∨ ∃ b, b < i + 1 ∧ sF (fun _ => 1) b 16 0 = D ∧ okC t b ∧ s = (nI b, nI (sF (kcN C cost) b 16 0))) := by
      rintro s (z | ⟨b, b1, b2⟩)
      · exact Or.inl z
      · exact Or.inr ⟨b, by omega, b2⟩
    unfold fcC
    by_cases hb : bitsF (nI i) = nI D
    · rw [if_pos hb]
      have hbD := (bits_D hi16 hD).mp hb
      by_cases hok : okC t i
      · rw [cc_ok hC hc hn he ht hi16 hok]
        have hlt6 : nI (sF (kcN C cost) i 16 0) < 1000000 := (nI_ltI (b := 1000000) (by have := hle i; omega) (by decide)).mpr (by have := hle i; omega)
        have newst : ∀ s : Int32 × Int32, s = (nI i, nI (sF (kcN C cost) i 16 0)) → (s = (0, 1000000) ∨ ∃ b, b < i + 1 ∧ sF (fun _ => 1) b 16 0 = D ∧ okC t b ∧ s = (nI b, nI (sF (kcN C cost) b 16 0))) := fun s hs => Or.inr ⟨i, by omega, hbD, hok, hs⟩
        rcases Nat.lt_trichotomy w i with z | z | z
        · have hs := a2 z
          rw [hs]
          have hno : ¬ (nI (sF (kcN C cost) i 16 0) < nI (sF (kcN C cost) w 16 0) ∨ (nI (sF (kcN C cost) i 16 0) = nI (sF (kcN C cost) w 16 0) ∧ nI (sF (kcN C cost) i 16 0) < 1000000 ∧ aheadF (nI i) (nI w))) := by
            have g1 := hle i
            have g2 := hle w
            rw [nI_ltI (by omega) (by omega), nI_eq (by omega) (by omega)]
            have hne : w ≠ i := by omega
            rcases h3 i hi hne hbD hok with q | ⟨q1, q2⟩
            · rintro (y | ⟨y, _, _⟩) <;> omega
            · rintro (y | ⟨_, _, y⟩)
              · omega
              · exact asym i hi16 hne q2 y
          rw [if_neg hno]
          refine ⟨up _ ?_, fun _ => rfl⟩
          rw [← hs]
          exact a1
        · subst z
          rw [if_pos]
          · exact ⟨newst _ rfl, fun _ => rfl⟩
          · rcases a1 with q | ⟨b, b1, b2, b3, b4⟩
            · rw [q]; exact Or.inl hlt6
            · rw [b4]
              have g1 := hle w
              have g2 := hle b
              rcases h3 b (by omega) (by omega) b2 b3 with y | ⟨y1, y2⟩
              · exact Or.inl ((nI_ltI (by omega) (by omega)).mpr y)
              · exact Or.inr ⟨by show _ = nI _; rw [y1], hlt6, y2⟩
        · split
          · exact ⟨newst _ rfl, fun h => by omega⟩
          · exact ⟨up _ a1, fun h => by omega⟩
      · rw [cc_no hn he ht hi16 hok, if_neg]
        · refine ⟨up _ a1, fun h => a2 ?_⟩
          rcases Nat.lt_or_ge w i with z | z
          · exact z
          · have : w = i := by omega
            subst this
            exact absurd h2 hok
        · rintro (z | ⟨_, z, _⟩)
          · rcases a1 with q | ⟨b, b1, b2, b3, b4⟩
            · rw [q] at z; exact absurd (show (1000000 : Int32) < 1000000 from z) (by decide)
            · rw [b4] at z
              have g2 := hle b
              have := (nI_ltI (a := 1000000) (by decide) (by omega)).mp z
              omega
          · exact absurd z (by decide)
    · rw [if_neg hb]
      refine ⟨up _ a1, fun h => a2 ?_⟩
      rcases Nat.lt_or_ge w i with z | z
      · exact z
      · have : w = i := by omega
        subst this
        exact absurd ((bits_D hi16 hD).mpr h1) hb
end cods
