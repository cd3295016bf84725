section cods2
variable {C D t : Nat} {cost near : Nat → Int32} {e : Int32}
/-- the cheapest set beside -/
theorem csb_N (hC : C ≤ 4) (hc : Cst C cost) {W : Nat} (hW : W < 2 ^ 16) (hex : ∃ t, t < 2 ^ C ∧ W.testBit t = false) : ∃ x, x < 2 ^ C ∧ W.testBit x = false ∧ csbF C cost (nI W) = nI x ∧ ∀ t, t < 2 ^ C → W.testBit t = false → kcN C cost x < kcN C cost t ∨ (kcN C cost x = kcN C cost t ∧ x ≤ t) := by
  have hp := (p22 hC).2
  have key := lp_idx (f := csbC C cost (nI W)) (fun i z => (z = (0, 161) ∧ ∀ t, t < i → W.testBit t = true) ∨ ∃ x, x < i ∧ W.testBit x = false ∧ z = (nI x, nI (kcN C cost x)) ∧ ∀ t, t < i → W.testBit t = false → kcN C cost x < kcN C cost t ∨ (kcN C cost x = kcN C cost t ∧ x ≤ t)) (2 ^ C) 0 (0, 161) (fun i z _ hi hz => ?_) (Or.inl ⟨rfl, fun t ht => by omega⟩)
  · rw [Nat.zero_add] at key
    obtain ⟨t0, t1, t2⟩ := hex
    rcases key with ⟨_, k2⟩ | ⟨x, x1, x2, x3, x4⟩
    · rw [k2 t0 t1] at t2; cases t2
    · exact ⟨x, x1, x2, by unfold csbF; rw [x3], x4⟩
  · have hi16 : i < 16 := by omega
    have hbi : hb (nI W) (nI i) ↔ W.testBit i = true := hb_tb (by omega) (by omega)
    have kb : ∀ s, kcN C cost s ≤ 80 := fun s => (kc_eq hC hc s).2
    unfold csbC
    rw [(kc_eq hC hc i).1]
    by_cases hin : W.testBit i = true
    · rw [if_neg (fun h => h.1 (hbi.mpr hin))]
      rcases hz with ⟨z1, z2⟩ | ⟨x, x1, x2, x3, x4⟩
      · refine Or.inl ⟨z1, fun t ht => ?_⟩
        by_cases e1 : t = i
        · rw [e1]; exact hin
        · exact z2 t (by omega)
      · refine Or.inr ⟨x, by omega, x2, x3, fun t ht h2 => ?_⟩
        by_cases e1 : t = i
        · rw [e1, hin] at h2; cases h2
        · exact x4 t (by omega) h2
    · have hif : W.testBit i = false := by simpa using hin
      rcases hz with ⟨z1, z2⟩ | ⟨x, x1, x2, x3, x4⟩
      · rw [z1, if_pos ⟨mt hbi.mp hin, (nI_ltI (b := 161) (by have := kb i; omega) (by decide)).mpr (by have := kb i; omega)⟩]
        refine Or.inr ⟨i, by omega, hif, rfl, fun t ht h2 => ?_⟩
        by_cases e1 : t = i
        · subst e1; exact Or.inr ⟨rfl, Nat.le_refl _⟩
        · rw [z2 t (by omega)] at h2; cases h2
      · rw [x3]
        have ki := kb i
        have kx := kb x
        by_cases hlt : kcN C cost i < kcN C cost x
        · rw [if_pos ⟨mt hbi.mp hin, (nI_ltI (by omega) (by omega)).mpr hlt⟩]
          refine Or.inr ⟨i, by omega, hif, rfl, fun t ht h2 => ?_⟩
          by_cases e1 : t = i
          · subst e1; exact Or.inr ⟨rfl, Nat.le_refl _⟩
          · rcases x4 t (by omega) h2 with q | q <;> exact Or.inl (by omega)
        · rw [if_neg (fun h => hlt ((nI_ltI (by omega) (by omega)).mp h.2))]
          refine Or.inr ⟨x, by omega, x2, rfl, fun t ht h2 => ?_⟩
          by_cases e1 : t = i
          · subst e1
            rcases Nat.lt_or_ge (kcN C cost x) (kcN C cost t) with q | q
            · exact Or.inl q
            · exact Or.inr ⟨by omega, by omega⟩
          · exact x4 t (by omega) h2
theorem cnt_lo (hC : C ≤ 4) {f : Nat → Nat} {c : Nat} (hl : c < 2 ^ 2 ^ C) : sF f c 16 0 = sF f c (2 ^ C) 0 := by
  have hp := (p22 hC).2
  obtain ⟨m, hm⟩ : ∃ m, 16 = 2 ^ C + m := ⟨16 - 2 ^ C, by omega⟩
  rw [hm, sF_add, sF_zero m _ (fun t h1 h2 => Nat.testBit_lt_two_pow (Nat.lt_of_lt_of_le hl (Nat.pow_le_pow_right (by decide) (by omega))))]
  rfl
theorem tb_lo {c s : Nat} (hl : c < 2 ^ 2 ^ C) (h : c.testBit s = true) : s < 2 ^ C := by
  rcases Nat.lt_or_ge s (2 ^ C) with z | z
  · exact z
  · rw [Nat.testBit_lt_two_pow (Nat.lt_of_lt_of_le hl (Nat.pow_le_pow_right (by decide) z))] at h; cases h
/-- the cheapest sets -/
theorem grd_N (hC : C ≤ 4) (hc : Cst C cost) (hD : D ≤ 2 ^ C) : ∃ W, W < 2 ^ 2 ^ C ∧ lp (fun _ w => w ||| bit (csbF C cost w)) D 0 0 = nI W ∧ sF (fun _ => 1) W 16 0 = D ∧ ∀ s t, t < 2 ^ C → W.testBit s = true → W.testBit t = false → kcN C cost s < kcN C cost t ∨ (kcN C cost s = kcN C cost t ∧ s < t) := by
  have hp := p22 hC
  have key := lp_idx (f := fun _ w => w ||| bit (csbF C cost w)) (fun i z => ∃ W, W < 2 ^ 2 ^ C ∧ z = nI W ∧ sF (fun _ => 1) W 16 0 = i ∧ ∀ s t, t < 2 ^ C → W.testBit s = true → W.testBit t = false → kcN C cost s < kcN C cost t ∨ (kcN C cost s = kcN C cost t ∧ s < t)) D 0 0 (fun i z _ hi hz => ?_) ⟨0, Nat.two_pow_pos _, rfl, by decide, fun s t _ h => by simp at h⟩
  · rw [Nat.zero_add] at key
    exact key
  · obtain ⟨W, w1, w2, w3, w4⟩ := hz
    subst w2
    have hex : ∃ t, t < 2 ^ C ∧ W.testBit t = false := by
      refine Classical.byContradiction (fun hno => ?_)
      have := sF_full (a := W) (2 ^ C) 0 (fun t _ h2 => by
        cases hb : W.testBit t with
        | true => rfl
        | false => exact absurd ⟨t, by omega, hb⟩ hno)
      rw [← cnt_lo hC w1] at this
      omega
    obtain ⟨x, x1, x2, x3, x4⟩ := csb_N hC hc (show W < 2 ^ 16 by omega) hex
    have hx : 2 ^ x < 2 ^ 2 ^ C := Nat.pow_lt_pow_right (by decide) x1
    refine ⟨W ||| 2 ^ x, Nat.or_lt_two_pow w1 hx, ?_, ?_, fun s t t1 h1 h2 => ?_⟩
    · show nI W ||| bit (csbF C cost (nI W)) = _
      rw [x3, bitN (by omega), nI_or (by omega) (by omega)]
    · rw [(sF_or (f := fun _ => 1) x2 16 0).2 (Nat.zero_le _) (by omega), w3]
    · rw [tb_or] at h1 h2
      simp at h1 h2
      rcases h1 with h1 | h1
      · exact w4 s t t1 h1 h2.1
      · subst h1
        rcases x4 t t1 h2.1 with q | q
        · exact Or.inl q
        · exact Or.inr ⟨q.1, by have := h2.2; omega⟩
theorem ok1 {c : Nat} : okC 1 c := by
  intro s q hs hq _ _ h
  have tab : ∀ s q : Fin 16, q ≠ s → 1 ≤ ctK (s.val ^^^ q.val) 16 0 := by decide +kernel
  have h1 : 1 ≤ ctK (s ^^^ q) 16 0 := tab ⟨s, hs⟩ ⟨q, hq⟩ (fun z => h.1 (Fin.mk.inj z))
  have h2 := h.2
  omega
/-! pairs -/
def gd (t s q : Nat) : Prop := t ≤ ctK (s ^^^ q) 16 0
def pr (a b s q : Nat) : Prop := s < a ∨ (s = a ∧ q < b)
def PrI (C t : Nat) (K : Nat → Nat) (a b : Nat) (z : Int32 × Int32) : Prop :=
  (z = (-1, 161) ∧ ∀ s q, s < q → q < 2 ^ C → pr a b s q → ¬ gd t s q) ∨ ∃ s q, s < q ∧ q < 2 ^ C ∧ gd t s q ∧ z = (nI (2 ^ s ||| 2 ^ q), nI (K s + K q)) ∧ ∀ s' q', s' < q' → q' < 2 ^ C → pr a b s' q' → gd t s' q' → K s + K q < K s' + K q' ∨ (K s + K q = K s' + K q' ∧ (s < s' ∨ (s = s' ∧ q ≤ q')))
theorem bc_x {s q : Nat} (hs : s < 16) (hq : q < 16) : bcF (nI s ^^^ nI q) = nI (ctK (s ^^^ q) 16 0) := by
  have := xor16 hs hq
  rw [← bits_x hs hq, nI_xor (by omega) (by omega)]
  exact bc_bits (by omega)
theorem prC_step (hC : C ≤ 4) (hc : Cst C cost) (ht : t ≤ 5) {a b : Nat} {z : Int32 × Int32} (hab : a < b) (hb : b < 2 ^ C) (h : PrI C t (kcN C cost) a b z) (hs2 : (∃ s q, s < q ∧ q < 2 ^ C ∧ gd t s q ∧ pr a b s q ∧ z = (nI (2 ^ s ||| 2 ^ q), nI (kcN C cost s + kcN C cost q))) ∨ z = (-1, 161)) : PrI C t (kcN C cost) a (b + 1) (prC C cost (nI t) a b z) ∧ ((∃ s q, s < q ∧ q < 2 ^ C ∧ gd t s q ∧ pr a (b + 1) s q ∧ prC C cost (nI t) a b z = (nI (2 ^ s ||| 2 ^ q), nI (kcN C cost s + kcN C cost q))) ∨ prC C cost (nI t) a b z = (-1, 161)) := by
  have hp := (p22 hC).2
  have kb : ∀ s, kcN C cost s ≤ 80 := fun s => (kc_eq hC hc s).2
  have ka := kb a
  have kb2 := kb b
  have hct := ctK_le (k := a ^^^ b) 16 0
  have hg : (¬ bcF (nI a ^^^ nI b) < nI t) ↔ gd t a b := by
    rw [bc_x (by omega) (by omega), nI_ltI (by omega) (by omega)]
    unfold gd
    omega
  have hnew : bit (nI a) ||| bit (nI b) = nI (2 ^ a ||| 2 ^ b) := by
    rw [bitN (by omega), bitN (by omega), nI_or (Nat.pow_lt_pow_right (by decide) (by omega)) (Nat.pow_lt_pow_right (by decide) (by omega))]
  have prs : ∀ s q, pr a (b + 1) s q → ¬ (s = a ∧ q = b) → pr a b s q := by
    intro s q h1 h2
    unfold pr at h1 ⊢
    omega
  have prb : pr a (b + 1) a b := Or.inr ⟨rfl, by omega⟩
  have pru : ∀ s q, pr a b s q → pr a (b + 1) s q := by
    intro s q h1
    unfold pr at h1 ⊢
    omega
  unfold prC
  rw [(kc_eq hC hc a).1, (kc_eq hC hc b).1, nI_add, hnew]
  by_cases hgd : gd t a b
  · rcases hs2 with ⟨s, q, s1, s2, s3, s4, s5⟩ | hz
    · have ks := kb s
      have kq := kb q
      by_cases hlt : kcN C cost a + kcN C cost b < kcN C cost s + kcN C cost q
      · rw [s5, if_pos ⟨hg.mpr hgd, (nI_ltI (by omega) (by omega)).mpr hlt⟩]
        refine ⟨Or.inr ⟨a, b, hab, hb, hgd, rfl, fun s' q' p1 p2 p3 p4 => ?_⟩, Or.inl ⟨a, b, hab, hb, hgd, prb, rfl⟩⟩
        by_cases e1 : s' = a ∧ q' = b
        · obtain ⟨e1, e2⟩ := e1
          subst e1; subst e2
          exact Or.inr ⟨rfl, Or.inr ⟨rfl, Nat.le_refl _⟩⟩
        · rcases h with ⟨z1, z2⟩ | ⟨s0, q0, _, _, _, z4, z5⟩
          · exact absurd p4 (z2 s' q' p1 p2 (prs s' q' p3 e1))
          · rw [s5] at z4
            have e3 : kcN C cost s + kcN C cost q = kcN C cost s0 + kcN C cost q0 := by
              have k0 := kb s0
              have k1 := kb q0
              exact (nI_eq (by omega) (by omega)).mp (congrArg Prod.snd z4)
            have := z5 s' q' p1 p2 (prs s' q' p3 e1) p4
            exact Or.inl (by omega)
      · rw [s5, if_neg (fun y => hlt ((nI_ltI (by omega) (by omega)).mp y.2))]
        refine ⟨?_, Or.inl ⟨s, q, s1, s2, s3, pru s q s4, rfl⟩⟩
        rcases h with ⟨z1, z2⟩ | ⟨s0, q0, z1, z2, z3, z4, z5⟩
        · exact absurd s3 (z2 s q s1 s2 s4)
        · refine Or.inr ⟨s0, q0, z1, z2, z3, s5.symm.trans z4, fun s' q' p1 p2 p3 p4 => ?_⟩
          have hmin := z5 s q s1 s2 s4 s3
          by_cases e1 : s' = a ∧ q' = b
          · obtain ⟨e1, e2⟩ := e1
            subst e1; subst e2
            have k0 := kb s0
            have k1 := kb q0
            have e3 : kcN C cost s + kcN C cost q = kcN C cost s0 + kcN C cost q0 := (nI_eq (by omega) (by omega)).mp (congrArg Prod.snd (s5.symm.trans z4))
            rcases Nat.lt_or_ge (kcN C cost s0 + kcN C cost q0) (kcN C cost s' + kcN C cost q') with y | y
            · exact Or.inl y
            · refine Or.inr ⟨by omega, ?_⟩
              unfold pr at s4
              rcases hmin with m | ⟨_, m⟩
              · omega
              · omega
          · exact z5 s' q' p1 p2 (prs s' q' p3 e1) p4
    · rw [hz, if_pos ⟨hg.mpr hgd, (nI_ltI (b := 161) (by omega) (by decide)).mpr (by omega)⟩]
      refine ⟨Or.inr ⟨a, b, hab, hb, hgd, rfl, fun s' q' p1 p2 p3 p4 => ?_⟩, Or.inl ⟨a, b, hab, hb, hgd, prb, rfl⟩⟩
      by_cases e1 : s' = a ∧ q' = b
      · obtain ⟨e1, e2⟩ := e1
        subst e1; subst e2
        exact Or.inr ⟨rfl, Or.inr ⟨rfl, Nat.le_refl _⟩⟩
      · rcases h with ⟨z1, z2⟩ | ⟨s0, q0, z1, z2, z3, z4, z5⟩
        · exact absurd p4 (z2 s' q' p1 p2 (prs s' q' p3 e1))
        · rw [hz] at z4
          have k0 := kb s0
          have k1 := kb q0
          have := (nI_eq (a := 161) (by decide) (by omega)).mp (congrArg Prod.snd z4)
          omega
  · rw [if_neg (fun y => hgd (hg.mp y.1))]
    refine ⟨?_, ?_⟩
    · rcases h with ⟨z1, z2⟩ | ⟨s0, q0, z1, z2, z3, z4, z5⟩
      · refine Or.inl ⟨z1, fun s' q' p1 p2 p3 p4 => ?_⟩
        by_cases e1 : s' = a ∧ q' = b
        · rw [e1.1, e1.2] at p4; exact hgd p4
        · exact z2 s' q' p1 p2 (prs s' q' p3 e1) p4
      · refine Or.inr ⟨s0, q0, z1, z2, z3, z4, fun s' q' p1 p2 p3 p4 => ?_⟩
        by_cases e1 : s' = a ∧ q' = b
        · rw [e1.1, e1.2] at p4; exact absurd p4 hgd
        · exact z5 s' q' p1 p2 (prs s' q' p3 e1) p4
    · rcases hs2 with ⟨s, q, s1, s2, s3, s4, s5⟩ | hz
      · exact Or.inl ⟨s, q, s1, s2, s3, pru s q s4, s5⟩
      · exact Or.inr hz
def PrJ (C t : Nat) (K : Nat → Nat) (a b : Nat) (z : Int32 × Int32) : Prop := PrI C t K a b z ∧ ((∃ s q, s < q ∧ q < 2 ^ C ∧ gd t s q ∧ pr a b s q ∧ z = (nI (2 ^ s ||| 2 ^ q), nI (K s + K q))) ∨ z = (-1, 161))
theorem PrJ_cg {K : Nat → Nat} {a b a' b' : Nat} {z : Int32 × Int32} (h : PrJ C t K a b z) (hp : ∀ s q, s < q → q < 2 ^ C → (pr a b s q ↔ pr a' b' s q)) : PrJ C t K a' b' z := by
  obtain ⟨h1, h2⟩ := h
  refine ⟨?_, ?_⟩
  · rcases h1 with ⟨z1, z2⟩ | ⟨s0, q0, z1, z2, z3, z4, z5⟩
    · exact Or.inl ⟨z1, fun s q p1 p2 p3 => z2 s q p1 p2 ((hp s q p1 p2).mpr p3)⟩
    · exact Or.inr ⟨s0, q0, z1, z2, z3, z4, fun s q p1 p2 p3 => z5 s q p1 p2 ((hp s q p1 p2).mpr p3)⟩
  · rcases h2 with ⟨s, q, s1, s2, s3, s4, s5⟩ | hz
    · exact Or.inl ⟨s, q, s1, s2, s3, (hp s q s1 s2).mp s4, s5⟩
    · exact Or.inr hz
theorem pr_N (hC : C ≤ 4) (hc : Cst C cost) (ht : t ≤ 5) : (prF C cost (nI t) = -1 ∧ ∀ s q, s < q → q < 2 ^ C → ¬ gd t s q) ∨ ∃ s q, s < q ∧ q < 2 ^ C ∧ gd t s q ∧ prF C cost (nI t) = nI (2 ^ s ||| 2 ^ q) ∧ ∀ s' q', s' < q' → q' < 2 ^ C → gd t s' q' → kcN C cost s + kcN C cost q < kcN C cost s' + kcN C cost q' ∨ (kcN C cost s + kcN C cost q = kcN C cost s' + kcN C cost q' ∧ (s < s' ∨ (s = s' ∧ q ≤ q'))) := by
  have key := lp_idx (f := fun one z => lp (prC C cost (nI t) one) (2 ^ C - (one + 1)) (one + 1) z) (fun a z => PrJ C t (kcN C cost) a (a + 1) z) (2 ^ C) 0 (-1, 161) (fun a z _ ha hz => ?_) ⟨Or.inl ⟨rfl, fun s q p1 p2 p3 => by unfold pr at p3; omega⟩, Or.inr rfl⟩
  · rw [Nat.zero_add] at key
    obtain ⟨h1, -⟩ := key
    have all : ∀ s q, s < q → q < 2 ^ C → pr (2 ^ C) (2 ^ C + 1) s q := fun s q p1 p2 => Or.inl (by omega)
    unfold prF
    rcases h1 with ⟨z1, z2⟩ | ⟨s0, q0, z1, z2, z3, z4, z5⟩
    · exact Or.inl ⟨congrArg Prod.fst z1, fun s q p1 p2 => z2 s q p1 p2 (all s q p1 p2)⟩
    · exact Or.inr ⟨s0, q0, z1, z2, z3, congrArg Prod.fst z4, fun s q p1 p2 => z5 s q p1 p2 (all s q p1 p2)⟩
  · have inner := lp_idx (f := prC C cost (nI t) a) (fun b z => PrJ C t (kcN C cost) a b z) (2 ^ C - (a + 1)) (a + 1) z (fun b z h1 h2 hz => prC_step hC hc ht (by omega) (by omega) hz.1 hz.2) hz
    refine PrJ_cg inner (fun s q p1 p2 => ?_)
    unfold pr
    omega
end cods2
