/-! pure: loops -/
theorem lp_ext {S : Type} {f f' : Nat → S → S} : ∀ (n i : Nat) (s : S), (∀ j t, i ≤ j → j < i + n → f j t = f' j t) → lp f n i s = lp f' n i s := by
  intro n
  induction n with
  | zero => intro i s _; rfl
  | succ n ih =>
    intro i s h
    show lp f n (i + 1) (f i s) = lp f' n (i + 1) (f' i s)
    rw [h i s (Nat.le_refl _) (by omega)]
    exact ih (i + 1) _ (fun j t h1 h2 => h j t (by omega) (by omega))
theorem lp_in {S : Type} {f : Nat → S → S} (P : S → Prop) : ∀ (n i : Nat) (s : S), (∀ j t, i ≤ j → j < i + n → P t → P (f j t)) → P s → P (lp f n i s) := by
  intro n
  induction n with
  | zero => intro i s _ hs; exact hs
  | succ n ih =>
    intro i s h hs
    exact ih (i + 1) (f i s) (fun j t h1 h2 => h j t (by omega) (by omega)) (h i s (Nat.le_refl _) (by omega) hs)
theorem lp_exP {S : Type} {f f' : Nat → S → S} (P : S → Prop) : ∀ (n i : Nat) (s : S), (∀ j t, i ≤ j → j < i + n → P t → f j t = f' j t ∧ P (f j t)) → P s → lp f n i s = lp f' n i s ∧ P (lp f n i s) := by
  intro n
  induction n with
  | zero => intro i s _ hs; exact ⟨rfl, hs⟩
  | succ n ih =>
    intro i s h hs
    obtain ⟨h1, h2⟩ := h i s (Nat.le_refl _) (by omega) hs
    have := ih (i + 1) (f i s) (fun j t h1 h2 => h j t (by omega) (by omega)) h2
    refine ⟨?_, this.2⟩
    show lp f n (i + 1) (f i s) = lp f' n (i + 1) (f' i s)
    rw [← h1]
    exact this.1
theorem lp_add {S : Type} {f : Nat → S → S} : ∀ (a b i : Nat) (s : S), lp f (a + b) i s = lp f b (i + a) (lp f a i s) := by
  intro a
  induction a with
  | zero => intro b i s; rw [Nat.zero_add]; rfl
  | succ a ih =>
    intro b i s
    rw [show a + 1 + b = (a + b) + 1 by omega]
    show lp f (a + b) (i + 1) (f i s) = lp f b (i + (a + 1)) (lp f a (i + 1) (f i s))
    rw [ih, show i + 1 + a = i + (a + 1) by omega]
theorem lp_last {S : Type} {f : Nat → S → S} (n i : Nat) (s : S) : lp f (n + 1) i s = f (i + n) (lp f n i s) := by
  rw [lp_add n 1 i s]; rfl
theorem lp_id {S : Type} : ∀ (n i : Nat) (s : S), lp (fun _ (t : S) => t) n i s = s := by
  intro n
  induction n with
  | zero => intro i s; rfl
  | succ n ih => intro i s; exact ih (i + 1) s
/-! pure: bits -/
theorem sh_k {k : Nat} (hk : k < 31) : ((nI k &&& 31).toBitVec.smod 32).toNat = k := by
  have : ∀ k : Fin 31, ((nI k.val &&& 31).toBitVec.smod 32).toNat = k.val := by decide +kernel
  exact this ⟨k, hk⟩
theorem hbN {x k : Nat} (hx : x < 2 ^ 31) (hk : k < 31) : hb (nI x) (nI k) ↔ x / 2 ^ k % 2 = 1 := by
  show ¬ ((nI x >>> (nI k &&& 31)) &&& 1) = 0 ↔ _
  have h1 : x / 2 ^ k < 2 ^ 31 := Nat.lt_of_le_of_lt (Nat.div_le_self _ _) hx
  rw [pk_shrN hx _ k (sh_k hk), pk_andN (m := 1) (by omega) 1 (by decide)]
  generalize x / 2 ^ k = y
  have h2 : (0 : Int32) = nI 0 := rfl
  rw [h2, nI_eq (by omega) (by decide)]
  omega
theorem bitN {k : Nat} (hk : k < 31) : bit (nI k) = nI (2 ^ k) := by
  have : ∀ k : Fin 31, bit (nI k.val) = nI (2 ^ k.val) := by decide +kernel
  exact this ⟨k, hk⟩
theorem nI_or {a b : Nat} (ha : a < 2 ^ 32) (hb : b < 2 ^ 32) : nI a ||| nI b = nI (a ||| b) := by
  apply Int32.toBitVec_inj.mp
  apply BitVec.eq_of_toNat_eq
  rw [Int32.toBitVec_or, BitVec.toNat_or, pk_tn ha, pk_tn hb, pk_tn (Nat.or_lt_two_pow ha hb)]
theorem nI_and {a b : Nat} (ha : a < 2 ^ 32) (hb : b < 2 ^ 32) : nI a &&& nI b = nI (a &&& b) := by
  apply Int32.toBitVec_inj.mp
  apply BitVec.eq_of_toNat_eq
  rw [Int32.toBitVec_and, BitVec.toNat_and, pk_tn ha, pk_tn hb, pk_tn (Nat.lt_of_le_of_lt Nat.and_le_left ha)]
theorem nI_xor {a b : Nat} (ha : a < 2 ^ 32) (hb : b < 2 ^ 32) : nI a ^^^ nI b = nI (a ^^^ b) := by
  apply Int32.toBitVec_inj.mp
  apply BitVec.eq_of_toNat_eq
  rw [Int32.toBitVec_xor, BitVec.toNat_xor, pk_tn ha, pk_tn hb, pk_tn (Nat.xor_lt_two_pow ha hb)]
theorem or16 : ∀ (k : Fin 16) (c : Fin 4), ∃ j : Fin 16, nI k.val ||| bit (nI c.val) = nI j.val := by decide +kernel
theorem cl16 : ∀ (k : Fin 16) (c : Fin 4), ∃ j : Fin 16, nI k.val &&& (bit (nI c.val) ^^^ -1) = nI j.val := by decide +kernel
/-- bitCount, in whole numbers -/
def bcN (k : Nat) : Nat :=
  let x1 := k - (k / 2 ^ 1 &&& 1431655765)
  let x2 := (x1 &&& 858993459) + (x1 / 2 ^ 2 &&& 858993459)
  let x3 := (x2 + x2 / 2 ^ 4) &&& 252645135
  let x4 := x3 + x3 / 2 ^ 8
  let x5 := x4 + x4 / 2 ^ 16
  x5 &&& 63
theorem bcN_eq {k : Nat} (hk : k < 2 ^ 16) : bcX (nI k) = nI (bcN k) := by
  have c1 : (1431655765 : Int32) = nI 1431655765 := rfl
  have c2 : (858993459 : Int32) = nI 858993459 := rfl
  have c3 : (252645135 : Int32) = nI 252645135 := rfl
  have c4 : (63 : Int32) = nI 63 := rfl
  have e1 : bc1 (nI k) = nI (k - (k / 2 ^ 1 &&& 1431655765)) := by
    have u : us (nI k) 1 = nI (k / 2 ^ 1) := pk_ushrN (by omega) 1 1 (by decide)
    unfold bc1
    rw [u, c1, nI_and (by omega) (by decide), pk_sub (Nat.le_trans Nat.and_le_left (Nat.div_le_self _ _))]
  have b1 : k - (k / 2 ^ 1 &&& 1431655765) < 2 ^ 16 := by omega
  have e2 : ∀ x1 : Nat, x1 < 2 ^ 16 → bc2 (nI x1) = nI ((x1 &&& 858993459) + (x1 / 2 ^ 2 &&& 858993459)) ∧ (x1 &&& 858993459) + (x1 / 2 ^ 2 &&& 858993459) < 2 ^ 17 := by
    intro x1 h
    have u : us (nI x1) 2 = nI (x1 / 2 ^ 2) := pk_ushrN (by omega) 2 2 (by decide)
    have l1 : x1 &&& 858993459 ≤ x1 := Nat.and_le_left
    have l2 : x1 / 2 ^ 2 &&& 858993459 ≤ x1 / 2 ^ 2 := Nat.and_le_left
    unfold bc2
    rw [u, c2, nI_and (by omega) (by decide), nI_and (by omega) (by decide), nI_add]
    exact ⟨rfl, by omega⟩
  have e3 : ∀ x2 : Nat, x2 < 2 ^ 17 → bc3 (nI x2) = nI ((x2 + x2 / 2 ^ 4) &&& 252645135) ∧ (x2 + x2 / 2 ^ 4) &&& 252645135 < 2 ^ 18 := by
    intro x2 h
    have u : us (nI x2) 4 = nI (x2 / 2 ^ 4) := pk_ushrN (by omega) 4 4 (by decide)
    have l1 : (x2 + x2 / 2 ^ 4) &&& 252645135 ≤ x2 + x2 / 2 ^ 4 := Nat.and_le_left
    unfold bc3
    rw [u, c3, nI_add, nI_and (by omega) (by decide)]
    exact ⟨rfl, by omega⟩
  have e4 : ∀ x3 : Nat, x3 < 2 ^ 18 → ((nI x3 + us (nI x3) 8) + us (nI x3 + us (nI x3) 8) 16) &&& 63 = nI ((x3 + x3 / 2 ^ 8) + (x3 + x3 / 2 ^ 8) / 2 ^ 16 &&& 63) := by
    intro x3 h
    have u : us (nI x3) 8 = nI (x3 / 2 ^ 8) := pk_ushrN (by omega) 8 8 (by decide)
    have v : us (nI (x3 + x3 / 2 ^ 8)) 16 = nI ((x3 + x3 / 2 ^ 8) / 2 ^ 16) := pk_ushrN (by omega) 16 16 (by decide)
    rw [u, nI_add, v, nI_add, c4, nI_and (by omega) (by decide)]
  unfold bcX
  dsimp only
  rw [e1, (e2 _ b1).1, (e3 _ (e2 _ b1).2).1, e4 _ (e3 _ (e2 _ b1).2).2]
  rfl
/-- bits, in whole numbers -/
def ctK (k : Nat) : Nat → Nat → Nat
  | 0, _ => 0
  | n + 1, s => k / 2 ^ s % 2 + ctK k n (s + 1)
theorem ctN_K {k : Nat} (hk : k < 2 ^ 31) : ∀ (n s : Nat), s + n ≤ 31 → ctN (nI k) n s = ctK k n s := by
  intro n
  induction n with
  | zero => intro s _; rfl
  | succ n ih =>
    intro s hs
    rw [ctN_s]
    show _ = k / 2 ^ s % 2 + ctK k n (s + 1)
    rw [ih (s + 1) (by omega)]
    congr 1
    by_cases h : hb (nI k) (nI s)
    · rw [if_pos h, (hbN hk (by omega)).mp h]
    · rw [if_neg h]
      have := mt (hbN hk (show s < 31 by omega)).mpr h
      omega
theorem bc_tab : ∀ (a b : Fin 128), bcN (128 * a.val + b.val) = ctK (128 * a.val + b.val) 16 0 := by decide +kernel
theorem bc_bits {k : Nat} (hk : k < 16384) : bcF (nI k) = bitsF (nI k) := by
  rw [bcF_eq, bitsN, bcN_eq (by omega), ctN_K (by omega) 16 0 (by omega)]
  have := bc_tab ⟨k / 128, by omega⟩ ⟨k % 128, by omega⟩
  simp only [Nat.div_add_mod] at this
  rw [this]
theorem bits0 : bitsF 0 = 0 := by rw [bitsN]; decide +kernel
/-- marks: sets of four chalks, none behind the last door -/
def MkI (D : Nat) (f : Nat → Int32) : Prop := (∀ d, d < 14 → ∃ k : Nat, k < 16 ∧ f d = nI k) ∧ ∀ d, D ≤ d → d < 14 → f d = 0
theorem MkI_upd {D d k : Nat} {f : Nat → Int32} (h : MkI D f) (hd : d < D) (hk : k < 16) : MkI D (upd f d (nI k)) := by
  refine ⟨fun j hj => ?_, fun j h1 h2 => ?_⟩
  · by_cases e : j = d
    · subst e; exact ⟨k, hk, pk_us⟩
    · rw [pk_un e]; exact h.1 j hj
  · rw [pk_un (by omega)]; exact h.2 j h1 h2
theorem MkI_or {D d c : Nat} {f : Nat → Int32} (h : MkI D f) (hd : d < D) (hD : D ≤ 14) (hc : c < 4) : MkI D (upd f d (f d ||| bit (nI c))) := by
  obtain ⟨k, hk, e⟩ := h.1 d (by omega)
  obtain ⟨j, hj⟩ := or16 ⟨k, hk⟩ ⟨c, hc⟩
  rw [e, hj]
  exact MkI_upd h hd j.isLt
theorem MkI_cl {D d c : Nat} {f : Nat → Int32} (h : MkI D f) (hd : d < D) (hD : D ≤ 14) (hc : c < 4) : MkI D (upd f d (f d &&& (bit (nI c) ^^^ -1))) := by
  obtain ⟨k, hk, e⟩ := h.1 d (by omega)
  obtain ⟨j, hj⟩ := cl16 ⟨k, hk⟩ ⟨c, hc⟩
  rw [e, hj]
  exact MkI_upd h hd j.isLt
/-! told -/
theorem man_eq {D : Nat} {f : Nat → Int32} (hD : D ≤ 14) (h : MkI D f) : manX 14 f = manyF D f := by
  unfold manX manyF
  have e1 : lp (fun d n => n + bcF (f d)) 14 0 0 = lp (fun d n => n + bitsF (f d)) 14 0 0 := lp_ext _ _ _ (fun j t _ hj => by
    obtain ⟨k, hk, e⟩ := h.1 j (by omega)
    show t + bcF (f j) = t + bitsF (f j)
    rw [e, bc_bits (by omega)])
  rw [e1]
  obtain ⟨m, hm⟩ : ∃ m, 14 = D + m := ⟨14 - D, by omega⟩
  rw [hm, lp_add]
  rw [lp_ext (f' := fun _ (t : Int32) => t) m _ _ (fun j t h1 h2 => by
    show t + bitsF (f j) = t
    rw [h.2 j (by omega) (by omega), bits0, Int32.add_zero]), lp_id]
/-! fool -/
theorem stD_16 {set : Int32} {C : Nat} (hC : C ≤ 4) (h : stD set (nI C)) : ∃ k : Nat, k < 2 ^ C ∧ k < 16 ∧ set = nI k := by
  obtain ⟨h1, h2⟩ := h
  rw [(p2_toInt C (by omega)).1] at h2
  obtain ⟨e1, e2⟩ := clN (a := 0) (z := set.toInt) ⟨h1, Int.le_refl _⟩ (by decide)
  have h3 : cl set < 2 ^ C := by
    have : ((2 ^ C : Nat) : Int) = 2 ^ C := by simp
    omega
  have h4 : 2 ^ C ≤ 2 ^ 4 := Nat.pow_le_pow_right (by decide) hC
  exact ⟨cl set, h3, by omega, e1⟩
theorem fol_eq {D C : Nat} {mk : Nat → Int32} {set k what : Int32} (hD : D ≤ 14) (hC : C ≤ 4) (h : MkI D mk) : folF D (nI C) mk set k what = foolF D (nI C) mk set k what := by
  unfold folF foolF
  by_cases hs : stD set (nI C)
  · rw [if_pos hs, if_pos hs]
    have e : folL D mk set k = foolL D mk set k := by
      obtain ⟨a, -, ha, rfl⟩ := stD_16 hC hs
      unfold folL foolL
      refine (lp_exP (fun s : Int32 × Int32 => ∃ z : Nat, z < 16384 ∧ s.2 = nI z) 5 0 (0, 0) (fun nd t _ _ ht => ?_) ⟨0, by decide, rfl⟩).1
      refine lp_exP (fun s : Int32 × Int32 => ∃ z : Nat, z < 16384 ∧ s.2 = nI z) D 0 t (fun d s _ hd hs => ?_) ht
      obtain ⟨z, hz, ez⟩ := hs
      obtain ⟨m, hm, em⟩ := h.1 d (by omega)
      have q1 : bcF (mk d ^^^ nI a) = bitsF (mk d ^^^ nI a) := by
        rw [em, nI_xor (by omega) (by omega)]
        exact bc_bits (Nat.lt_trans (Nat.xor_lt_two_pow (n := 4) hm ha) (by decide))
      have q2 : bcF s.2 = bitsF s.2 := by rw [ez, bc_bits hz]
      have q3 : folC mk (nI a) k nd d s = foolC mk (nI a) k nd d s := by
        unfold folC foolC
        rw [q1, q2]
      refine ⟨q3, ?_⟩
      unfold folC
      split
      · refine ⟨z ||| 2 ^ d, Nat.or_lt_two_pow (n := 14) hz (Nat.pow_lt_pow_right (by decide) (by omega)), ?_⟩
        show s.2 ||| bit (nI d) = _
        have hp : 2 ^ d < 2 ^ 32 := Nat.pow_lt_pow_right (by decide) (by omega)
        rw [ez, bitN (by omega), nI_or (by omega) hp]
      · exact ⟨z, hz, ez⟩
    rw [e]
  · rw [if_neg hs, if_neg hs]
