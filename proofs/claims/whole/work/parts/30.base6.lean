/-! the watchman, in whole numbers -/
def wtN (D k : Nat) : Nat := if D = 1 then 0 else if D ≤ k % (2 * D - 2) then 2 * D - 2 - k % (2 * D - 2) else k % (2 * D - 2)
theorem wtN_lt {D k : Nat} (h : 1 ≤ D) : wtN D k < D := by
  unfold wtN
  by_cases h1 : D = 1
  · rw [if_pos h1]; omega
  · rw [if_neg h1]
    have := Nat.mod_lt k (show 0 < 2 * D - 2 by omega)
    split <;> omega
theorem watN {D S t : Nat} (h : 1 ≤ D) (hD : D ≤ 14) (hS : 1 ≤ S) (hS9 : S ≤ 9) (ht : t < 2 ^ 31) : watF (nI D) (nI S) (nI t) = nI (wtN D (t / S)) := by
  rw [watF_eq]
  unfold wtN
  have e1 : (1 : Int32) = nI 1 := rfl
  by_cases h1 : D = 1
  · rw [if_pos (by rw [h1]; rfl), if_pos h1]; rfl
  · have hn : ¬ nI D = 1 := fun h => h1 ((nI_eq (by omega) (by omega)).mp (h.trans e1))
    rw [if_neg hn, if_neg h1]
    have hR : (2 * nI D - 2 : Int32) = nI (2 * D - 2) := by
      rw [show (2 : Int32) = nI 2 from rfl, pk_mul, pk_sub (by omega)]
    have hk : t / S < 2 ^ 31 := Nat.lt_of_le_of_lt (Nat.div_le_self t S) ht
    rw [pk_div ht hS (by omega), hR, pk_rem hk (by omega) (by omega)]
    have hm := Nat.mod_lt (t / S) (show 0 < 2 * D - 2 by omega)
    by_cases h2 : D ≤ t / S % (2 * D - 2)
    · rw [if_pos (nI_le h2 (by omega)), if_pos h2, pk_sub (by omega)]
    · rw [if_neg (nI_ge (by omega) (by omega)), if_neg h2]
theorem awayN {a b : Nat} (ha : a < 2 ^ 31) (hb : b < 2 ^ 31) : awayF (nI a) (nI b) = nI (if b ≤ a then a - b else b - a) := by
  rw [awayF_eq]
  by_cases h : b ≤ a
  · rw [if_pos (nI_le h ha), if_pos h, pk_sub h]
  · rw [if_neg (nI_ge (by omega) hb), if_neg h, pk_sub (by omega)]
theorem uns13 {D S d s : Nat} (h : 1 ≤ D) (hD : D ≤ 14) (hS : 1 ≤ S) (hS9 : S ≤ 9) (hd : d < D) (hs : 13 ≤ s) (hs2 : s < 2 ^ 31) : unsF D S (nI d) (nI s) = 0 := by
  unfold unsF
  have key : ∀ (n i : Nat), i + n < 2 ^ 31 → lp (unsC (nI D) (nI S) (nI d) (nI s)) n i (0, 0) = (0, 0) := by
    intro n
    induction n with
    | zero => intro i _; rfl
    | succ n ih =>
      intro i hi
      show lp _ n (i + 1) (unsC (nI D) (nI S) (nI d) (nI s) i (0, 0)) = _
      have e : unsC (nI D) (nI S) (nI d) (nI s) i (0, 0) = (0, 0) := by
        unfold unsC
        have hw := wtN_lt (D := D) (k := i / S) h
        rw [watN h hD hS hS9 (by omega), awayN (by omega) (by omega), if_pos (nI_le (by split <;> omega) hs2)]
        rfl
      rw [e]
      exact ih (i + 1) (by omega)
  rw [key]
  have : (2 * D - 2) * S ≤ 26 * 9 := Nat.mul_le_mul (by omega) hS9
  split <;> omega
/-- the least sight from s on, by which a door is unseen for less than m -/
noncomputable def sgI (U : Nat → Int32) (m : Int32) : Nat → Nat → Nat
  | 0, s => s
  | n + 1, s => if U s < m then s else sgI U m n (s + 1)
theorem sgI_s {U : Nat → Int32} {m : Int32} {n s : Nat} : sgI U m (n + 1) s = if U s < m then s else sgI U m n (s + 1) := rfl
theorem sgI_le {U : Nat → Int32} {m : Int32} : ∀ (n s : Nat), s ≤ sgI U m n s ∧ sgI U m n s ≤ s + n
  | 0, s => ⟨Nat.le_refl _, Nat.le_refl _⟩
  | n + 1, s => by
    rw [sgI_s]
    split
    · omega
    · have := sgI_le (U := U) (m := m) n (s + 1); omega
noncomputable def sigN (D S : Nat) (m : Int32) : Nat := lp (fun d s => sgI (fun s => unsF D S (nI d) (nI s)) m (13 - s) s) D 0 0
/-! codes: near sets, all codes -/
noncomputable def nrC (e : Int32) (s q : Nat) (r : Int32) : Int32 := if ¬ nI q = nI s ∧ bitsF (nI s ^^^ nI q) < 2 * e + 1 then r ||| bit (nI q) else r
noncomputable def nearF (e : Int32) (s : Nat) : Int32 := lp (nrC e s) 16 0 0
noncomputable def fcC (D C : Nat) (cost near : Nat → Int32) (code : Nat) (s : Int32 × Int32) : Int32 × Int32 :=
  if bitsF (nI code) = nI D then (@ite _ (ccF C cost near (nI code) 16 0 0 < s.2 ∨ (ccF C cost near (nI code) 16 0 0 = s.2 ∧ ccF C cost near (nI code) 16 0 0 < 1000000 ∧ aheadF (nI code) s.1)) (Classical.propDecidable _) (nI code, ccF C cost near (nI code) 16 0 0) s) else s
noncomputable def fcF (D C : Nat) (cost near : Nat → Int32) : Int32 × Int32 := lp (fcC D C cost near) (2 ^ 2 ^ C) 0 (0, 1000000)
theorem pw2 {C : Nat} {x : Int32} (h : C ≤ 4) (e : x = nI C) : (1 : Int32) <<< (((1 : Int32) <<< (x &&& 31)) &&& 31) = nI (2 ^ 2 ^ C) ∧ 2 ^ 2 ^ C ≤ 65536 := by
  have : ∀ C : Fin 5, (1 : Int32) <<< (((1 : Int32) <<< (nI C.val &&& 31)) &&& 31) = nI (2 ^ 2 ^ C.val) ∧ 2 ^ 2 ^ C.val ≤ 65536 := by decide +kernel
  rw [e]
  exact this ⟨C, by omega⟩
/-- how many of n sets from s on a code has -/
def ctN (code : Int32) : Nat → Nat → Nat
  | 0, _ => 0
  | n + 1, s => (if hb code (nI s) then 1 else 0) + ctN code n (s + 1)
/-- the place of the d-th of them -/
def rkN (code : Int32) : Nat → Nat → Nat → Nat
  | 0, s, _ => s
  | n + 1, s, d => if hb code (nI s) then (if d = 0 then s else rkN code n (s + 1) (d - 1)) else rkN code n (s + 1) d
theorem uu2 (f : Nat → Int32) (k : Nat) (v w : Int32) : upd (upd f k v) k w = upd f k w := by
  funext j
  unfold upd
  split <;> rfl
