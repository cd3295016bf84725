/-! copy -/
def payN (s a : Nat) : Nat := if s + a ≤ 999999 then s + a else 999999
theorem payF_N {s a : Nat} (h : s + a < 2 ^ 31) : payF (nI s) (nI a) = nI (payN s a) := by
  rw [payF_eq, nI_add, show (999999 : Int32) = nI 999999 from rfl]
  unfold payN
  by_cases h1 : s + a ≤ 999999
  · rw [if_pos ((nI_leI h (by decide)).mpr h1), if_pos h1]
  · rw [if_neg (fun q => h1 ((nI_leI h (by decide)).mp q)), if_neg h1]
theorem payN_le {s a : Nat} : payN s a ≤ 999999 := by unfold payN; split <;> omega
theorem payN_pay {s a b : Nat} : payN (payN s a) b = payN s (a + b) := by
  unfold payN
  repeat' split
  all_goals omega
/-- costs of at most twenty -/
def Cst (C : Nat) (cost : Nat → Int32) : Prop := ∀ j, j < C → ∃ k : Nat, k ≤ 20 ∧ cost j = nI k
theorem costF_N {C : Nat} {cost : Nat → Int32} {w : Int32} (hc : Cst C cost) : ∃ k : Nat, k ≤ 20 * C ∧ costF C cost w = nI k := by
  unfold costF
  have key : ∀ (n i a : Nat), i + n = C → a ≤ 20 * i → ∃ k : Nat, k ≤ 20 * C ∧ lp (fun c s => if hb w (nI c) then s + cost c else s) n i (nI a) = nI k := by
    intro n
    induction n with
    | zero => intro i a h1 h2; exact ⟨a, by omega, rfl⟩
    | succ n ih =>
      intro i a h1 h2
      show ∃ k : Nat, k ≤ 20 * C ∧ lp _ n (i + 1) (if hb w (nI i) then nI a + cost i else nI a) = nI k
      by_cases h : hb w (nI i)
      · obtain ⟨q, hq, e⟩ := hc i (by omega)
        rw [if_pos h, e, nI_add]
        exact ih (i + 1) (a + q) (by omega) (by omega)
      · rw [if_neg h]
        exact ih (i + 1) a (by omega) (by omega)
  exact key C 0 0 (by omega) (by omega)
theorem copyC_pay {C : Nat} {cost : Nat → Int32} (hC : C ≤ 4) (hc : Cst C cost) {w : Int32} {s : Nat} (hs : s ≤ 999999) : copyC C cost w (nI s) = payF (nI s) (costF C cost w) := by
  unfold copyC costF
  have key : ∀ (n i a : Nat), i + n = C → a ≤ 20 * i → lp (fun c s => if hb w (nI c) then payF s (cost c) else s) n i (nI (payN s a)) = payF (nI s) (lp (fun c s => if hb w (nI c) then s + cost c else s) n i (nI a)) := by
    intro n
    induction n with
    | zero =>
      intro i a h1 h2
      show nI (payN s a) = payF (nI s) (nI a)
      rw [payF_N (by omega)]
    | succ n ih =>
      intro i a h1 h2
      show lp _ n (i + 1) (if hb w (nI i) then payF (nI (payN s a)) (cost i) else nI (payN s a)) = payF (nI s) (lp _ n (i + 1) (if hb w (nI i) then nI a + cost i else nI a))
      by_cases h : hb w (nI i)
      · obtain ⟨q, hq, e⟩ := hc i (by omega)
        have := @payN_le s a
        rw [if_pos h, if_pos h, e, nI_add, payF_N (by omega), payN_pay]
        exact ih (i + 1) (a + q) (by omega) (by omega)
      · rw [if_neg h, if_neg h]
        exact ih (i + 1) a (by omega) (by omega)
  have h0 : payN s 0 = s := by unfold payN; rw [if_pos (by omega)]; rfl
  have := key C 0 0 (by omega) (by omega)
  rw [h0] at this
  exact this
theorem cop_eq {D C : Nat} {cost mk : Nat → Int32} {sp d f : Int32} (hC : C ≤ 4) (hc : Cst C cost) (hs : ∃ k : Nat, k ≤ 999999 ∧ sp = nI k) : copXF D C cost mk sp d f = copyF D C cost mk sp d f := by
  unfold copXF copyF
  by_cases h1 : inD d (nI D)
  · rw [if_pos h1, if_pos h1]
    have e : lp (copX C cost (mk (cl d)) d f) D 0 (mk, sp) = lp (copyS C cost d f) D 0 (mk, sp) := by
      refine (lp_exP (fun s : (Nat → Int32) × Int32 => s.1 (cl d) = mk (cl d) ∧ ∃ k : Nat, k ≤ 999999 ∧ s.2 = nI k) D 0 (mk, sp) (fun q t _ _ ht => ?_) ⟨rfl, hs⟩).1
      obtain ⟨e1, k, hk, e2⟩ := ht
      unfold copX copyS
      by_cases ha : awayF (nI q) d ≤ f
      · rw [if_pos ha, if_pos ha, e1, e2, copyC_pay hC hc hk]
        obtain ⟨c, hc1, hc2⟩ := costF_N (w := mk (cl d) &&& (t.1 q ^^^ -1)) hc
        refine ⟨rfl, ?_, payN k c, payN_le, ?_⟩
        · show upd t.1 q (mk (cl d)) (cl d) = _
          by_cases eq : cl d = q
          · rw [eq, pk_us]
          · rw [pk_un eq]; exact e1
        · show payF (nI k) (costF C cost _) = _
          rw [hc2, payF_N (by omega)]
      · rw [if_neg ha, if_neg ha]
        exact ⟨rfl, e1, k, hk, e2⟩
    rw [e]
  · rw [if_neg h1, if_neg h1]
/-! beliefs -/
theorem wsh8 {k w : Int32} (h : kind3 k) (hw : ∃ j : Nat, j ≤ 8 ∧ w = nI j) : ∃ j : Nat, j ≤ 8 ∧ wshF k w = nI j := by
  obtain ⟨j, hj, rfl⟩ := hw
  rw [wshF_eq]
  rcases h with rfl | rfl | rfl
  · exact ⟨j, hj, if_pos rfl⟩
  · refine ⟨j / 2, by omega, ?_⟩
    rw [if_neg (by decide), if_pos rfl, show (2 : Int32) = nI 2 from rfl, pk_div (by omega) (by decide) (by decide)]
  · exact ⟨0, by omega, by rw [if_neg (by decide), if_neg (by decide)]; rfl⟩
theorem stF_N {b : Nat} (hb : b ≤ 8) (n : Nat) : ∃ p : Nat, p ≤ 10000 ∧ stF (nI b) n = nI p := by
  rw [stF_eq]
  refine lp_in (fun x : Int32 => ∃ p : Nat, p ≤ 10000 ∧ x = nI p) n 0 10000 (fun j t _ _ ht => ?_) ⟨10000, Nat.le_refl _, rfl⟩
  obtain ⟨p, hp, rfl⟩ := ht
  have h1 : p * (8 - b) ≤ p * 8 := Nat.mul_le_mul_left p (by omega)
  refine ⟨p * (8 - b) / 8, by omega, ?_⟩
  show nI p * (8 - nI b) / 8 = _
  rw [show (8 : Int32) = nI 8 from rfl, pk_sub hb, pk_mul, pk_div (by omega) (by decide) (by decide)]
theorem w1N {w z : Nat} (hw : w ≤ 1000000000) (hz : z ≤ 10000) : ∃ k : Nat, k ≤ 1000000000 ∧ w1F (lN w) (nI z) = lN k := by
  have h1 : w * z ≤ w * 10000 := Nat.mul_le_mul_left w hz
  refine ⟨w * z / 10000, by omega, ?_⟩
  rw [w1F_eq, nI_l (by omega), show (10000 : Int64) = lN 10000 from rfl, lN_mul, pk_lDiv (by omega) (by decide) (by decide)]
theorem w2N {w z : Nat} (hw : w ≤ 1000000000) (hz : z ≤ 8) : ∃ k : Nat, k ≤ 1000000000 ∧ w2F (lN w) (nI z) = lN k := by
  have h1 : w * z ≤ w * 8 := Nat.mul_le_mul_left w hz
  refine ⟨w * z / 8, by omega, ?_⟩
  rw [w2F_eq, nI_l (by omega), show (8 : Int64) = lN 8 from rfl, lN_mul, pk_lDiv (by omega) (by decide) (by decide)]
def Wsh (C : Nat) (wb : Nat → Int32) : Prop := ∀ j, j < C → ∃ k : Nat, k ≤ 8 ∧ wb j = nI k
theorem wgN {C : Nat} {wb ch : Nat → Int32} {m set : Int32} {n : Nat} (hw : Wsh C wb) (hc : Wsh C ch) : ∃ k : Nat, k ≤ 1000000000 ∧ wtF C wb ch m set n = lN k := by
  unfold wtF
  refine lp_in (fun x : Int64 => ∃ k : Nat, k ≤ 1000000000 ∧ x = lN k) C 0 1000000000 (fun j t _ hj ht => ?_) ⟨1000000000, Nat.le_refl _, rfl⟩
  obtain ⟨w, hw1, rfl⟩ := ht
  obtain ⟨b, hb1, hb2⟩ := hw j (by omega)
  obtain ⟨c, hc1, hc2⟩ := hc j (by omega)
  obtain ⟨p, hp1, hp2⟩ := stF_N hb1 n
  show ∃ k : Nat, k ≤ 1000000000 ∧ wtC wb ch m set n j (lN w) = lN k
  unfold wtC
  rw [hb2, hc2, hp2]
  by_cases h1 : hb set (nI j)
  · rw [if_pos h1]
    by_cases h2 : hb m (nI j)
    · rw [if_pos h2]; exact w1N hw1 hp1
    · rw [if_neg h2, show (10000 : Int32) = nI 10000 from rfl, pk_sub hp1]; exact w1N hw1 (by omega)
  · rw [if_neg h1]
    by_cases h2 : hb m (nI j)
    · rw [if_pos h2]; exact w2N hw1 hc1
    · rw [if_neg h2, show (8 : Int32) = nI 8 from rfl, pk_sub hc1]; exact w2N hw1 (by omega)
theorem allN {D C : Nat} {wb ch mk : Nat → Int32} {set : Int32} {n : Nat} (hD : D ≤ 14) (hw : Wsh C wb) (hc : Wsh C ch) : ∃ k : Nat, k ≤ 14000000000 ∧ allF D C wb ch mk set n = lN k := by
  unfold allF
  have key : ∀ (m i a : Nat), i + m = D → a ≤ 1000000000 * i → ∃ k : Nat, k ≤ 1000000000 * D ∧ lp (fun d a => a + wtF C wb ch (mk d) set n) m i (lN a) = lN k := by
    intro m
    induction m with
    | zero => intro i a h1 h2; exact ⟨a, by omega, rfl⟩
    | succ m ih =>
      intro i a h1 h2
      obtain ⟨q, hq, e⟩ := wgN (m := mk i) (set := set) (n := n) hw hc
      show ∃ k : Nat, k ≤ 1000000000 * D ∧ lp _ m (i + 1) (lN a + wtF C wb ch (mk i) set n) = lN k
      rw [e, lN_add]
      exact ih (i + 1) (a + q) (by omega) (by omega)
  obtain ⟨k, h1, h2⟩ := key D 0 0 (by omega) (by omega)
  exact ⟨k, by omega, h2⟩
theorem bel_eq {D C : Nat} {wb ch mk : Nat → Int32} {set n d : Int32} (hD : D ≤ 14) (hw : Wsh C wb) (hc : Wsh C ch) : belX D C wb ch mk set n d = beliefF D C wb ch mk set n d := by
  unfold belX beliefF
  obtain ⟨a, ha, e⟩ := allN (mk := mk) (set := set) (n := cl n) hD hw hc
  rw [e]
  by_cases h : a = 0
  · subst h
    rw [if_neg (show ¬ (0 : Int64) < lN 0 by decide), if_pos (show lN 0 = 0 from rfl)]
  · have h1 : (0 : Int64) < lN a := (pk_lLT (a := 0) (by decide) (by omega)).mpr (by omega)
    have h2 : ¬ lN a = 0 := fun q => h ((pk_lEQ (b := 0) (by omega) (by decide)).mp q)
    rw [if_pos h1, if_neg h2]
/-! unseen: runs of minutes and of stops -/
def uN (β : Nat → Bool) (t : Nat) (s : Nat × Nat) : Nat × Nat := (max s.1 (if β t = true then 0 else s.2 + 1), if β t = true then 0 else s.2 + 1)
theorem u_lift {f : Nat → Int32 × Int32 → Int32 × Int32} {β : Nat → Bool} : ∀ (n i a b : Nat), a ≤ i → b ≤ i → (∀ t a b, i ≤ t → t < i + n → a ≤ t → b ≤ t → f t (nI a, nI b) = (nI (uN β t (a, b)).1, nI (uN β t (a, b)).2)) → lp f n i (nI a, nI b) = (nI (lp (uN β) n i (a, b)).1, nI (lp (uN β) n i (a, b)).2) := by
  intro n
  induction n with
  | zero => intro i a b _ _ _; rfl
  | succ n ih =>
    intro i a b ha hb h
    show lp f n (i + 1) (f i (nI a, nI b)) = (nI (lp (uN β) n (i + 1) (uN β i (a, b))).1, nI (lp (uN β) n (i + 1) (uN β i (a, b))).2)
    rw [h i a b (Nat.le_refl _) (by omega) ha hb]
    have h2 : (uN β i (a, b)).2 ≤ i + 1 := by unfold uN; dsimp only; split <;> omega
    have h1 : (uN β i (a, b)).1 ≤ i + 1 := by unfold uN; dsimp only; split <;> omega
    exact ih (i + 1) (uN β i (a, b)).1 (uN β i (a, b)).2 h1 h2 (fun t a b h1 h2 => h t a b (by omega) (by omega))
theorem uN_le {β : Nat → Bool} : ∀ (n i a b : Nat), a ≤ i → b ≤ i → (lp (uN β) n i (a, b)).1 ≤ i + n := by
  intro n
  induction n with
  | zero => intro i a b ha _; exact ha
  | succ n ih =>
    intro i a b ha hb
    have h2 : (uN β i (a, b)).2 ≤ i + 1 := by unfold uN; dsimp only; split <;> omega
    have h1 : (uN β i (a, b)).1 ≤ i + 1 := by unfold uN; dsimp only; split <;> omega
    have this : (lp (uN β) n (i + 1) (uN β i (a, b))).1 ≤ i + 1 + n := ih (i + 1) (uN β i (a, b)).1 (uN β i (a, b)).2 h1 h2
    show (lp (uN β) n (i + 1) (uN β i (a, b))).1 ≤ _
    omega
theorem uN_mono {β β' : Nat → Bool} (h : ∀ t, β t = true → β' t = true) : ∀ (n i : Nat) (s s' : Nat × Nat), s'.1 ≤ s.1 → s'.2 ≤ s.2 → (lp (uN β') n i s').1 ≤ (lp (uN β) n i s).1 := by
  intro n
  induction n with
  | zero => intro i s s' h1 _; exact h1
  | succ n ih =>
    intro i s s' h1 h2
    have q2 : (uN β' i s').2 ≤ (uN β i s).2 := by
      unfold uN; dsimp only
      by_cases hb : β i = true
      · rw [if_pos hb, if_pos (h i hb)]; omega
      · rw [if_neg hb]; split <;> omega
    have q1 : (uN β' i s').1 ≤ (uN β i s).1 := by
      unfold uN at q2 ⊢; dsimp only at q2 ⊢; omega
    exact ih (i + 1) (uN β i s) (uN β' i s') q1 q2
theorem bk_f : ∀ (j i a b : Nat), b ≤ a → lp (fun _ (s : Nat × Nat) => (max s.1 (s.2 + 1), s.2 + 1)) j i (a, b) = (max a (b + j), b + j) := by
  intro j
  induction j with
  | zero => intro i a b h; show (a, b) = _; rw [Nat.add_zero, Nat.max_eq_left h]
  | succ j ih =>
    intro i a b h
    show lp _ j (i + 1) (max a (b + 1), b + 1) = _
    rw [ih (i + 1) _ _ (by omega)]
    ext <;> dsimp only <;> omega
theorem bk_t : ∀ (j i : Nat) (s : Nat × Nat), lp (fun _ (s : Nat × Nat) => (max s.1 0, 0)) (j + 1) i s = (s.1, 0) := by
  intro j
  induction j with
  | zero => intro i s; show (max s.1 0, 0) = _; rw [Nat.max_zero]
  | succ j ih => intro i s; show lp _ (j + 1) (i + 1) (max s.1 0, 0) = _; rw [ih (i + 1), Nat.max_zero]
theorem uN_nw {β : Nat → Bool} : ∀ (n i : Nat) (s : Nat × Nat), s.2 ≤ s.1 → (lp (uN β) n i s).2 ≤ (lp (uN β) n i s).1 := by
  intro n i s h
  refine lp_in (fun s : Nat × Nat => s.2 ≤ s.1) n i s (fun j t _ _ _ => ?_) h
  unfold uN; dsimp only; omega
theorem uN_blk {β : Nat → Bool} {S : Nat} (hS : 1 ≤ S) : ∀ k : Nat, lp (uN (fun t => β (t / S))) (S * k) 0 (0, 0) = (S * (lp (uN β) k 0 (0, 0)).1, S * (lp (uN β) k 0 (0, 0)).2) := by
  intro k
  induction k with
  | zero => rfl
  | succ k ih =>
    rw [Nat.mul_succ, lp_add, ih, lp_last, Nat.zero_add, Nat.zero_add]
    have hn := uN_nw (β := β) k 0 (0, 0) (Nat.le_refl _)
    generalize lp (uN β) k 0 (0, 0) = x at hn ⊢
    obtain ⟨m, n⟩ := x
    have hn : n ≤ m := hn
    have hdiv : ∀ j, S * k ≤ j → j < S * k + S → j / S = k := by
      intro j h1 h2
      apply Nat.div_eq_of_lt_le
      · rw [Nat.mul_comm]; exact h1
      · rw [Nat.add_mul, Nat.one_mul, Nat.mul_comm]; exact h2
    by_cases hb : β k = true
    · rw [lp_ext (f' := fun _ (s : Nat × Nat) => (max s.1 0, 0)) S _ _ (fun j t h1 h2 => by
        have e9 : β (j / S) = true := by rw [hdiv j h1 h2]; exact hb
        show (max t.1 (if β (j / S) = true then 0 else t.2 + 1), if β (j / S) = true then 0 else t.2 + 1) = _
        rw [if_pos e9])]
      obtain ⟨q, rfl⟩ : ∃ q, S = q + 1 := ⟨S - 1, by omega⟩
      rw [bk_t]
      unfold uN; dsimp only
      rw [if_pos hb, Nat.max_zero, Nat.mul_zero]
    · rw [lp_ext (f' := fun _ (s : Nat × Nat) => (max s.1 (s.2 + 1), s.2 + 1)) S _ _ (fun j t h1 h2 => by
        have e9 : ¬ β (j / S) = true := by rw [hdiv j h1 h2]; exact hb
        show (max t.1 (if β (j / S) = true then 0 else t.2 + 1), if β (j / S) = true then 0 else t.2 + 1) = _
        rw [if_neg e9]), bk_f _ _ _ _ (Nat.mul_le_mul_left S hn)]
      unfold uN; dsimp only
      rw [if_neg hb, Nat.mul_succ]
      have : S * max m (n + 1) = max (S * m) (S * n + S) := by
        rw [← Nat.mul_succ]
        rcases Nat.le_total m (n + 1) with q | q
        · rw [Nat.max_eq_right q, Nat.max_eq_right (Nat.mul_le_mul_left S q)]
        · rw [Nat.max_eq_left q, Nat.max_eq_left (Nat.mul_le_mul_left S q)]
      rw [this]
theorem uN_step {f : Nat → Int32 × Int32 → Int32 × Int32} {p : Prop} [Decidable p] {β : Nat → Bool} {t a b : Nat} (ht : t < 2 ^ 30) (ha : a ≤ t) (hb : b ≤ t) (h : p ↔ β t = true) (hf : f t (nI a, nI b) = (if (if p then (0 : Int32) else nI b + 1) ≤ nI a then nI a else (if p then (0 : Int32) else nI b + 1), if p then (0 : Int32) else nI b + 1)) : f t (nI a, nI b) = (nI (uN β t (a, b)).1, nI (uN β t (a, b)).2) := by
  rw [hf]
  unfold uN
  dsimp only
  by_cases hβ : β t = true
  · rw [if_pos (h.mpr hβ), if_pos hβ, if_pos (nI_pos' (by omega)), Nat.max_zero]; rfl
  · rw [if_neg (mt h.mp hβ), if_neg hβ, nI_1]
    by_cases hc : b + 1 ≤ a
    · rw [if_pos ((nI_leI (by omega) (by omega)).mpr hc), Nat.max_eq_left hc]
    · rw [if_neg (fun q => hc ((nI_leI (by omega) (by omega)).mp q)), Nat.max_eq_right (by omega)]
def bz (D d z k : Nat) : Bool := decide ((if d ≤ wtN D k then wtN D k - d else d - wtN D k) ≤ z)
/-- the longest time unseen, in whole numbers -/
def unN (D S d z : Nat) : Nat := S * (lp (uN (bz D d z)) (2 * rdN D) 0 (0, 0)).1
theorem rdN_le {D : Nat} (hD : D ≤ 14) : rdN D ≤ 26 := by unfold rdN; split <;> omega
theorem lun_N {D d z : Nat} (h : 1 ≤ D) (hD : D ≤ 14) (hd : d < D) (hz : z < 2 ^ 31) : lunF D d (nI z) = nI (lp (uN (bz D d z)) (2 * rdN D) 0 (0, 0)).1 := by
  unfold lunF
  have hr := rdN_le hD
  have := u_lift (f := lunC D d (nI z)) (β := bz D d z) (2 * rdN D) 0 0 0 (Nat.le_refl _) (Nat.le_refl _) (fun t a b _ h2 ha hb => by
    refine uN_step (f := lunC D d (nI z)) (p := awayF (nI (wtN D t)) (nI d) ≤ nI z) (by omega) ha hb ?_ rfl
    have hw := wtN_lt (k := t) h
    rw [awayN (by omega) (by omega)]
    unfold bz
    rw [nI_leI (by split <;> omega) hz, decide_eq_true_iff])
  exact congrArg Prod.fst this
theorem uns_N {D S d z : Nat} (h : 1 ≤ D) (hD : D ≤ 14) (hS : 1 ≤ S) (hS9 : S ≤ 9) (hd : d < D) (hz : z < 2 ^ 31) : unsF D S (nI d) (nI z) = nI (unN D S d z) := by
  unfold unsF unN
  have hr := rdN_le hD
  have hm : (2 * D - 2) * S ≤ 26 * 9 := Nat.mul_le_mul (by omega) hS9
  have key : ∀ n : Nat, n ≤ 468 → lp (unsC (nI D) (nI S) (nI d) (nI z)) n 0 (0, 0) = (nI (lp (uN (fun t => bz D d z (t / S))) n 0 (0, 0)).1, nI (lp (uN (fun t => bz D d z (t / S))) n 0 (0, 0)).2) := by
    intro n hn
    exact u_lift (f := unsC (nI D) (nI S) (nI d) (nI z)) (β := fun t => bz D d z (t / S)) n 0 0 0 (Nat.le_refl _) (Nat.le_refl _) (fun t a b _ h2 ha hb => by
      refine uN_step (f := unsC (nI D) (nI S) (nI d) (nI z)) (p := awayF (watF (nI D) (nI S) (nI t)) (nI d) ≤ nI z) (by omega) ha hb ?_ rfl
      have hw := wtN_lt (k := t / S) h
      rw [watN h hD hS hS9 (by omega), awayN (by omega) (by omega)]
      show _ ↔ bz D d z (t / S) = true
      unfold bz
      rw [nI_leI (by split <;> omega) hz, decide_eq_true_iff])
  by_cases h1 : D = 1
  · subst h1
    have d0 : d = 0 := by omega
    subst d0
    have hb : ∀ k, bz 1 0 z k = true := fun k => by unfold bz wtN; simp
    have z0 : ∀ (β : Nat → Bool), (∀ k, β k = true) → ∀ n i : Nat, lp (uN β) n i (0, 0) = (0, 0) := by
      intro β hβ n i
      rw [lp_ext (f' := fun _ (s : Nat × Nat) => (max s.1 0, 0)) n i _ (fun j t _ _ => by unfold uN; rw [if_pos (hβ j)])]
      cases n with
      | zero => rfl
      | succ n => rw [bk_t]
    rw [if_pos rfl, key _ (by decide), z0 _ (fun k => hb _), z0 _ hb]
    rfl
  · rw [if_neg h1, key _ (by omega)]
    have e : 2 * ((2 * D - 2) * S) = S * (2 * rdN D) := by
      unfold rdN
      rw [if_pos (show 1 < D by omega), show 2 * D - 2 = 2 * (D - 1) by omega, Nat.mul_comm S, Nat.mul_assoc, Nat.mul_assoc, Nat.mul_assoc]
    rw [e, uN_blk hS]
theorem unN_le {D S d z : Nat} (hD : D ≤ 14) (hS9 : S ≤ 9) : unN D S d z ≤ 468 := by
  unfold unN
  have hr := rdN_le hD
  have := uN_le (β := bz D d z) (2 * rdN D) 0 0 0 (Nat.le_refl _) (Nat.le_refl _)
  exact Nat.le_trans (Nat.mul_le_mul hS9 this) (by omega)
theorem unN_mono {D S d z z' : Nat} (h : z ≤ z') : unN D S d z' ≤ unN D S d z := by
  unfold unN
  refine Nat.mul_le_mul_left S (uN_mono (fun t ht => ?_) _ 0 (0, 0) (0, 0) (Nat.le_refl _) (Nat.le_refl _))
  unfold bz at ht ⊢
  rw [decide_eq_true_iff] at ht ⊢
  exact Nat.le_trans ht h
theorem lun_uns {D S d z : Nat} (h : 1 ≤ D) (hD : D ≤ 14) (hS : 1 ≤ S) (hS9 : S ≤ 9) (hd : d < D) (hz : z < 2 ^ 31) : lunF D d (nI z) * nI S = unsF D S (nI d) (nI z) := by
  rw [lun_N h hD hd hz, uns_N h hD hS hS9 hd hz, pk_mul]
  unfold unN
  rw [Nat.mul_comm]
/-! sight -/
theorem ffF_at {p : Nat → Option Int32} {r : Int32} {k : Nat} (hk : p k = some r) : ∀ (n i : Nat), i ≤ k → k < i + n → (∀ j, i ≤ j → j < k → p j = none) → ffF p n i = r := by
  intro n
  induction n with
  | zero => intro i h1 h2; omega
  | succ n ih =>
    intro i h1 h2 h3
    by_cases e : i = k
    · subst e; exact ffF_some hk
    · rw [ffF_none (h3 i (Nat.le_refl _) (by omega))]
      exact ih (i + 1) (by omega) (by omega) (fun j q1 q2 => h3 j (by omega) q2)
theorem sgI_at {U : Nat → Int32} {m : Int32} : ∀ (n s : Nat), U (s + n) < m → U (sgI U m n s) < m ∧ ∀ j, s ≤ j → j < sgI U m n s → ¬ U j < m := by
  intro n
  induction n with
  | zero => intro s h; exact ⟨h, fun j h1 h2 => by have : sgI U m 0 s = s := rfl; omega⟩
  | succ n ih =>
    intro s h
    rw [sgI_s]
    by_cases hc : U s < m
    · rw [if_pos hc]; exact ⟨hc, fun j h1 h2 => by omega⟩
    · rw [if_neg hc]
      have := ih (s + 1) (by rw [show s + 1 + n = s + (n + 1) by omega]; exact h)
      refine ⟨this.1, fun j h1 h2 => ?_⟩
      by_cases e : j = s
      · subst e; exact hc
      · exact this.2 j (by omega) h2
theorem sgt_eq {D S : Nat} {m : Int32} (h : 1 ≤ D) (hD : D ≤ 14) (hS : 1 ≤ S) (hS9 : S ≤ 9) (hm : inB m.toInt 1 99) : sgtF D (nI S) m = nI (sigN D S m) := by
  obtain ⟨em, em2⟩ := clN hm (by decide)
  generalize cl m = M at em em2
  subst em
  have hM1 : 1 ≤ M := by have := hm.1; omega
  have hM2 : M ≤ 99 := by have := hm.2; omega
  have lt_iff : ∀ d z, d < D → z < 2 ^ 31 → (unsF D S (nI d) (nI z) < nI M ↔ unN D S d z < M) := fun d z hd hz => by
    have := unN_le (d := d) (z := z) hD hS9
    rw [uns_N h hD hS hS9 hd hz, nI_ltI (by omega) (by omega)]
  have u13 : ∀ d, d < D → unN D S d 13 < M := fun d hd => by
    have q := uns13 (s := 13) h hD hS hS9 hd (by omega) (by decide)
    rw [uns_N h hD hS hS9 hd (by decide)] at q
    have := unN_le (d := d) (z := 13) hD hS9
    have := (nI_eq (b := 0) (by omega) (by decide)).mp q
    omega
  have key : ∀ i, i ≤ D → (lp (fun d s => sgI (fun s => unsF D S (nI d) (nI s)) (nI M) (13 - s) s) i 0 0 ≤ 13 ∧ (∀ d, d < i → unN D S d (lp (fun d s => sgI (fun s => unsF D S (nI d) (nI s)) (nI M) (13 - s) s) i 0 0) < M) ∧ ∀ j, j < lp (fun d s => sgI (fun s => unsF D S (nI d) (nI s)) (nI M) (13 - s) s) i 0 0 → ∃ d, d < i ∧ ¬ unN D S d j < M) := by
    intro i
    induction i with
    | zero => intro _; exact ⟨Nat.zero_le _, fun d hd => by omega, fun j hj => by have hj : j < 0 := hj; omega⟩
    | succ i ih =>
      intro hi
      obtain ⟨a1, a2, a3⟩ := ih (by omega)
      rw [lp_last, Nat.zero_add]
      generalize lp (fun d s => sgI (fun s => unsF D S (nI d) (nI s)) (nI M) (13 - s) s) i 0 0 = s at a1 a2 a3 ⊢
      have hle := sgI_le (U := fun s => unsF D S (nI i) (nI s)) (m := nI M) (13 - s) s
      have hat := sgI_at (U := fun s => unsF D S (nI i) (nI s)) (m := nI M) (13 - s) s (by
        rw [show s + (13 - s) = 13 by omega]
        exact (lt_iff i 13 (by omega) (by decide)).mpr (u13 i (by omega)))
      generalize sgI (fun s => unsF D S (nI i) (nI s)) (nI M) (13 - s) s = s' at hle hat ⊢
      refine ⟨by omega, fun d hd => ?_, fun j hj => ?_⟩
      · by_cases e : d = i
        · subst e; exact (lt_iff d s' (by omega) (by omega)).mp hat.1
        · exact Nat.lt_of_le_of_lt (unN_mono hle.1) (a2 d (by omega))
      · by_cases q : j < s
        · obtain ⟨d, d1, d2⟩ := a3 j q
          exact ⟨d, by omega, d2⟩
        · exact ⟨i, by omega, fun z => hat.2 j (by omega) hj ((lt_iff i j (by omega) (by omega)).mpr z)⟩
  obtain ⟨a1, a2, a3⟩ := key D (Nat.le_refl _)
  unfold sgtF sigN
  generalize lp (fun d s => sgI (fun s => unsF D S (nI d) (nI s)) (nI M) (13 - s) s) D 0 0 = s at a1 a2 a3 ⊢
  have all_iff : ∀ z, z < 2 ^ 31 → ((∀ d, d < D → lunF D d (nI z) * nI S < nI M) ↔ ∀ d, d < D → unN D S d z < M) := fun z hz => by
    constructor
    · intro q d hd
      have := q d hd
      rw [lun_uns h hD hS hS9 hd hz] at this
      exact (lt_iff d z hd hz).mp this
    · intro q d hd
      rw [lun_uns h hD hS hS9 hd hz]
      exact (lt_iff d z hd hz).mpr (q d hd)
  refine ffF_at (k := s) ?_ 14 0 (Nat.zero_le _) (by omega) (fun j _ hj => ?_)
  · rw [if_neg (fun q => bI_z q ((all_iff s (by omega)).mpr a2))]
  · obtain ⟨d, d1, d2⟩ := a3 j hj
    rw [if_pos (bI_f (fun q => d2 ((all_iff j (by omega)).mp q d d1)))]
