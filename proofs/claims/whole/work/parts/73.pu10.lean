theorem inD_cl2 {d : Int32} {D : Nat} (h : inD d (nI D)) (hD : D < 2 ^ 31) : cl d < D := by
  have q := (clN (a := 0) (z := d.toInt) ⟨h.1, Int.le_refl _⟩ (by decide)).2
  have h2 := h.2
  rw [nI_toInt hD] at h2
  omega
section cods3
variable {C D t : Nat} {cost near : Nat → Int32} {e : Int32}
theorem tb2 {a b x : Nat} : (2 ^ a ||| 2 ^ b).testBit x = (decide (a = x) || decide (b = x)) := by rw [Nat.testBit_or, Nat.testBit_two_pow, Nat.testBit_two_pow]
theorem sF_two {f : Nat → Nat} {a b : Nat} (hab : a < b) (hb : b < 16) : sF f (2 ^ a ||| 2 ^ b) 16 0 = f a + f b := by
  have h1 : (2 ^ a).testBit b = false := by rw [Nat.testBit_two_pow]; simp; omega
  rw [(sF_or (f := f) h1 16 0).2 (Nat.zero_le _) (by omega)]
  have h2 : sF f (0 ||| 2 ^ a) 16 0 = sF f 0 16 0 + f a := (sF_or (f := f) (a := 0) (by simp) 16 0).2 (Nat.zero_le _) (by omega)
  rw [Nat.zero_or] at h2
  rw [h2, sF_zero 16 0 (fun t _ _ => by simp), Nat.zero_add]
theorem two_of {c : Nat} (h : sF (fun _ => 1) c 16 0 = 2) : ∃ a b, a < b ∧ b < 16 ∧ c.testBit a = true ∧ c.testBit b = true ∧ ∀ s, s < 16 → c.testBit s = true → s = a ∨ s = b := by
  obtain ⟨m, n', a1, a2, a3, a4, a5⟩ := sF_first 16 0 1 h
  obtain ⟨m2, n2, b1, b2, b3, b4, b5⟩ := sF_first n' (m + 1) 0 a5
  have hno := sF_none n2 (m2 + 1) b5
  refine ⟨m, m2, by omega, by omega, a3, b3, fun s hs hb => ?_⟩
  rcases Nat.lt_trichotomy s m with z | z | z
  · rw [a4 s (Nat.zero_le _) z] at hb; cases hb
  · exact Or.inl z
  · rcases Nat.lt_trichotomy s m2 with y | y | y
    · rw [b4 s (by omega) y] at hb; cases hb
    · exact Or.inr y
    · rw [hno s (by omega) (by omega)] at hb; cases hb
theorem eq_two {c a b : Nat} (hc : c < 2 ^ 16) (hab : a < b) (hb : b < 16) (h1 : c.testBit a = true) (h2 : c.testBit b = true) (h3 : ∀ s, s < 16 → c.testBit s = true → s = a ∨ s = b) : c = 2 ^ a ||| 2 ^ b := by
  refine eq_of_bits hc (Nat.or_lt_two_pow (Nat.pow_lt_pow_right (by decide) (by omega)) (Nat.pow_lt_pow_right (by decide) (by omega))) (fun s hs => ?_)
  rw [tb2]
  by_cases e1 : a = s
  · subst e1; rw [h1]; simp
  · by_cases e2 : b = s
    · subst e2; rw [h2]; simp
    · simp only [e1, e2, decide_false, Bool.or_false]
      cases hb2 : c.testBit s with
      | false => rfl
      | true =>
        rcases h3 s hs hb2 with z | z
        · exact absurd z.symm e1
        · exact absurd z.symm e2
theorem tri_no : ∀ a b d : Fin 16, ¬ (3 ≤ ctK (a.val ^^^ b.val) 16 0 ∧ 3 ≤ ctK (a.val ^^^ d.val) 16 0 ∧ 3 ≤ ctK (b.val ^^^ d.val) 16 0) := by decide +kernel
theorem bst_fc (hC : C ≤ 4) (hD : D ≤ 14) (hc : Cst C cost) (hn : NearR e near) (he : 2 * e + 1 = nI t) (ht : t = 1 ∨ t = 3 ∨ t = 5) : (bstF D C cost (nI t) = -1 ∧ fcF D C cost near = (0, 1000000)) ∨ ∃ w, w < 2 ^ 2 ^ C ∧ bstF D C cost (nI t) = nI w ∧ fcF D C cost near = (nI w, nI (sF (kcN C cost) w 16 0)) ∧ sF (fun _ => 1) w 16 0 = D := by
  have hp := p22 hC
  have ht5 : t ≤ 5 := by omega
  have h1C : 1 ≤ 2 ^ C := Nat.one_le_two_pow
  have h2C : 2 ^ 1 ≤ 2 ^ 2 ^ C := Nat.pow_le_pow_right (by decide) h1C
  by_cases h1 : t = 1
  · subst h1
    have hb : bstF D C cost (nI 1) = csF D C cost := if_pos rfl
    rw [hb]
    unfold csF
    by_cases hle : D ≤ 2 ^ C
    · rw [if_pos ((nI_leI (by omega) (by omega)).mpr hle)]
      obtain ⟨W, w1, w2, w3, w4⟩ := grd_N hC hc hle
      refine Or.inr ⟨W, w1, w2, fc_best hC hD hc hn he ht5 w1 w3 ok1 (fun c c1 c2 c3 _ => ?_), w3⟩
      exact seg_best (by omega) (by omega) c2 (w3.trans c3.symm) (fun s t _ _ q3 q4 q5 => w4 s t (tb_lo c1 q5) q3 q4)
    · rw [if_neg (fun z => hle ((nI_leI (by omega) (by omega)).mp z))]
      refine Or.inl ⟨rfl, fc_none hC hD hn he ht5 (fun c c1 c2 => ?_)⟩
      rw [cnt_lo hC c1] at c2
      have := sF_le (f := fun _ => 1) (a := c) (M := 1) (fun _ => Nat.le_refl _) (2 ^ C) 0
      omega
  · have hne : ¬ nI t = 1 := fun z => h1 ((nI_eq (b := 1) (by omega) (by decide)).mp z)
    have hb : bstF D C cost (nI t) = if D < 2 then bit (nI D) - 1 else if D = 2 then prF C cost (nI t) else -1 := if_neg hne
    rw [hb]
    have h3 : 3 ≤ t := by omega
    by_cases hd2 : D < 2
    · rw [if_pos hd2]
      by_cases hd0 : D = 0
      · subst hd0
        refine Or.inr ⟨0, by omega, by decide, fc_best hC hD hc hn he ht5 (by omega) (by decide) (fun s q _ _ h => by simp at h) (fun c c1 c2 c3 _ => ?_), by decide⟩
        refine absurd (eq_of_bits (a := 0) (b := c) (by decide) (by omega) (fun s hs => ?_)) c2
        rw [sF_none 16 0 c3 s (Nat.zero_le _) (by omega)]
        simp
      · have hd1 : D = 1 := by omega
        subst hd1
        have tb1 : ∀ s, (1 : Nat).testBit s = true → s = 0 := fun s hs => by
          have : (2 ^ 0 : Nat).testBit s = true := hs
          rw [Nat.testBit_two_pow] at this
          simp at this
          omega
        refine Or.inr ⟨1, by omega, by decide, fc_best hC hD hc hn he ht5 (by omega) (by decide) (fun s q _ _ a b z => z.1 (by rw [tb1 s a, tb1 q b])) (fun c c1 c2 c3 _ => ?_), by decide⟩
        refine seg_best (by decide) (by omega) c2 (by rw [c3]; decide) (fun s t _ _ q3 q4 q5 => ?_)
        rw [tb1 s q3, kc_0 hC]
        have : t ≠ 0 := fun z => by rw [z] at q4; revert q4; decide
        omega
    · rw [if_neg hd2]
      by_cases hd : D = 2
      · subst hd
        rw [if_pos rfl]
        rcases pr_N hC hc ht5 with ⟨p1, p2⟩ | ⟨s, q, s1, s2, s3, s4, s5⟩
        · refine Or.inl ⟨p1, fc_none hC hD hn he ht5 (fun c c1 c2 hok => ?_)⟩
          obtain ⟨a, b, a1, a2, a3, a4, a5⟩ := two_of c2
          refine p2 a b a1 (tb_lo c1 a4) ?_
          have := hok a b (by omega) a2 a3 a4
          unfold ndP at this
          unfold gd
          omega
        · have hs16 : q < 16 := by omega
          have hw : 2 ^ s ||| 2 ^ q < 2 ^ 2 ^ C := Nat.or_lt_two_pow (Nat.pow_lt_pow_right (by decide) (by omega)) (Nat.pow_lt_pow_right (by decide) s2)
          have hmem : ∀ x, (2 ^ s ||| 2 ^ q).testBit x = true → x = s ∨ x = q := fun x hx => by
            rw [tb2] at hx
            simp at hx
            rcases hx with z | z
            · exact Or.inl z.symm
            · exact Or.inr z.symm
          have hms : (2 ^ s ||| 2 ^ q).testBit s = true := by rw [tb2]; simp
          have hmq : (2 ^ s ||| 2 ^ q).testBit q = true := by rw [tb2]; simp
          refine Or.inr ⟨2 ^ s ||| 2 ^ q, hw, s4, fc_best hC hD hc hn he ht5 hw (sF_two s1 hs16) (fun x y _ _ hx hy => ?_) (fun c c1 c2 c3 hok => ?_), sF_two s1 hs16⟩
          · unfold ndP
            unfold gd at s3
            rcases hmem x hx with rfl | rfl <;> rcases hmem y hy with rfl | rfl
            · exact fun z => z.1 rfl
            · exact fun z => by have := z.2; omega
            · exact fun z => by have := z.2; rw [Nat.xor_comm] at this; omega
            · exact fun z => z.1 rfl
          · obtain ⟨a, b, a1, a2, a3, a4, a5⟩ := two_of c3
            have hg : gd t a b := by
              have := hok a b (by omega) a2 a3 a4
              unfold ndP at this
              unfold gd
              omega
            have hce := eq_two (by omega) a1 a2 a3 a4 a5
            rw [sF_two s1 hs16, hce, sF_two a1 a2, ← hce]
            rcases s5 a b a1 (tb_lo c1 a4) hg with z | ⟨z1, z2⟩
            · exact Or.inl z
            · refine Or.inr ⟨z1, ?_⟩
              obtain ⟨r, r1, r2, r3, r4⟩ := ahead_N (show 2 ^ s ||| 2 ^ q < 2 ^ 16 by omega) (show c < 2 ^ 16 by omega) c2
              rw [r4]
              cases hb0 : (2 ^ s ||| 2 ^ q).testBit r with
              | true => rfl
              | false =>
                have hcr : c.testBit r = true := by
                  cases h2 : c.testBit r with
                  | true => rfl
                  | false => rw [hb0, h2] at r3; exact absurd rfl r3
                have hr := a5 r r1 hcr
                rcases z2 with y | ⟨y1, y2⟩
                · have hsr : s < r := by omega
                  have := r2 s hsr
                  rw [hms] at this
                  have := a5 s (by omega) this.symm
                  omega
                · subst y1
                  rcases hr with y | y
                  · rw [y, hms] at hb0; cases hb0
                  · subst y
                    have hqr : q < r := by
                      rcases Nat.lt_or_ge q r with k | k
                      · exact k
                      · have : q = r := by omega
                        subst this
                        rw [hmq] at hb0; cases hb0
                    have := r2 q hqr
                    rw [hmq] at this
                    have := a5 q (by omega) this.symm
                    omega
      · rw [if_neg hd]
        refine Or.inl ⟨rfl, fc_none hC hD hn he ht5 (fun c c1 c2 hok => ?_)⟩
        obtain ⟨m, n', a1, a2, a3, a4, a5⟩ := sF_first (a := c) 16 0 (D - 1) (by omega)
        obtain ⟨m2, n2, b1, b2, b3, b4, b5⟩ := sF_first (a := c) n' (m + 1) (D - 2) (by omega)
        obtain ⟨m3, n3, d1, d2, d3, d4, d5⟩ := sF_first (a := c) n2 (m2 + 1) (D - 3) (by omega)
        have h12 := hok m m2 (by omega) (by omega) a3 b3
        have h13 := hok m m3 (by omega) (by omega) a3 d3
        have h23 := hok m2 m3 (by omega) (by omega) b3 d3
        unfold ndP at h12 h13 h23
        have g1 : 3 ≤ ctK (m ^^^ m2) 16 0 := by omega
        have g2 : 3 ≤ ctK (m ^^^ m3) 16 0 := by omega
        have g3 : 3 ≤ ctK (m2 ^^^ m3) 16 0 := by omega
        exact tri_no ⟨m, by omega⟩ ⟨m2, by omega⟩ ⟨m3, by omega⟩ ⟨g1, g2, g3⟩
theorem br_rk {c r : Nat} (hr : r < 2 ^ 30) : ∀ (n' n k p : Nat), n' ≤ n → p ≤ r → r - p < ctN (nI c) n' k → brN (nI c) (nI r) n k (nI p) = nI (rkN (nI c) n' k (r - p)) := by
  intro n'
  induction n' with
  | zero => intro n k p _ _ h; exact absurd h (by show ¬ r - p < 0; omega)
  | succ n' ih =>
    intro n k p hn hp h
    obtain ⟨m, rfl⟩ : ∃ m, n = m + 1 := ⟨n - 1, by omega⟩
    rw [brN_s, rkN_s]
    rw [ctN_s] at h
    by_cases hb : hb (nI c) (nI k)
    · rw [if_pos hb, if_pos hb]
      rw [if_pos hb] at h
      by_cases e1 : p = r
      · rw [if_pos (by rw [e1]), if_pos (by omega)]
      · rw [if_neg (fun z => e1 ((nI_eq (by omega) (by omega)).mp z)), if_neg (by omega), nI_1, ih m (k + 1) (p + 1) (by omega) (by omega) (by omega), show r - (p + 1) = r - p - 1 by omega]
    · rw [if_neg hb, if_neg hb]
      rw [if_neg hb, Nat.zero_add] at h
      exact ih m (k + 1) p (by omega) hp h
theorem coc_N (hC : C ≤ 4) (hc : Cst C cost) {w : Nat} (hw : w < 2 ^ 2 ^ C) : cocF C cost (nI w) = nI (sF (kcN C cost) w 16 0) := by
  have hp := p22 hC
  rw [cnt_lo hC hw]
  have key : ∀ (n i a : Nat), i + n ≤ 16 → lp (fun s a => if hb (nI w) (nI s) then a + costF C cost (nI s) else a) n i (nI a) = nI (a + sF (kcN C cost) w n i) := by
    intro n
    induction n with
    | zero => intro i a _; rfl
    | succ n ih =>
      intro i a hi
      show lp _ n (i + 1) (if hb (nI w) (nI i) then nI a + costF C cost (nI i) else nI a) = _
      rw [sF_s]
      by_cases h : hb (nI w) (nI i)
      · rw [if_pos h, if_pos ((hb_tb (by omega) (by omega)).mp h), (kc_eq hC hc i).1, nI_add, ih (i + 1) _ (by omega)]
        congr 1
        omega
      · rw [if_neg h, if_neg (mt (hb_tb (by omega) (by omega)).mpr h), ih (i + 1) _ (by omega), Nat.zero_add]
  have := key (2 ^ C) 0 0 (by omega)
  rw [Nat.zero_add] at this
  exact this
theorem cod_eq {d : Int32} (hC : C ≤ 4) (hD : D ≤ 14) (hc : Cst C cost) (hn : NearR e near) : codX D C (nI D) cost e d = codF D (fcF D C cost near) e d := by
  unfold codX codF
  by_cases h1 : d = -1 ∨ inD d (nI D)
  · rw [if_pos h1, if_pos h1]
    by_cases h2 : inB e.toInt 0 2
    · rw [if_pos h2, if_pos h2]
      obtain ⟨e1, e2⟩ := clN h2 (by decide)
      have hk : cl e = 0 ∨ cl e = 1 ∨ cl e = 2 := by have := h2.2; omega
      have he : 2 * e + 1 = nI (2 * cl e + 1) := by
        rw [e1, show (2 : Int32) = nI 2 from rfl, pk_mul, nI_1, ← e1]
      rw [he]
      have hp := p22 hC
      rcases bst_fc hC hD hc hn he (by omega) with ⟨b1, b2⟩ | ⟨w, w1, w2, w3, w4⟩
      · rw [b1, b2, if_pos rfl, if_pos rfl]
      · have hle := cst_le hC hc (c := w)
        have n1 : ¬ nI w = -1 := fun z => by
          have q := congrArg Int32.toInt z
          rw [nI_toInt (by omega)] at q
          have : (-1 : Int32).toInt = -1 := rfl
          omega
        have n2 : ¬ nI (sF (kcN C cost) w 16 0) = 1000000 := fun z => by
          have := (nI_eq (b := 1000000) (by omega) (by decide)).mp z
          omega
        rw [w2, w3, if_neg n1, if_neg n2]
        by_cases h3 : d = -1
        · rw [if_pos h3, if_pos h3, coc_N hC hc w1]
        · rw [if_neg h3, if_neg h3]
          have hin := h1.resolve_left h3
          have ed := inD_nI hin
          have hlt : cl d < D := inD_cl2 hin (by omega)
          have := br_rk (c := w) (r := cl d) (by omega) 16 31 0 0 (by decide) (Nat.zero_le _) (by rw [ctN_sF (by omega) 16 0 (by decide), w4]; omega)
          rw [Nat.sub_zero] at this
          rw [← this, ← ed]
          rfl
    · rw [if_neg h2, if_neg h2]
  · rw [if_neg h1, if_neg h1]
end cods3
