theorem bit01 (x : Int32) (k : Nat) : ((x >>> (nI k &&& 31)) &&& 1) = nI (if hb x (nI k) then 1 else 0) := by
  by_cases h : hb x (nI k)
  · rw [if_pos h]; exact and1'.mpr h
  · rw [if_neg h]; exact Decidable.not_not.mp h
theorem bitsN (x : Int32) : bitsF x = nI (ctN x 16 0) := by
  rw [bitsF_eq]
  have key : ∀ (n i a : Nat), lp (fun k n => n + ((x >>> (nI k &&& 31)) &&& 1)) n i (nI a) = nI (a + ctN x n i) := by
    intro n
    induction n with
    | zero => intro i a; rfl
    | succ n ih =>
      intro i a
      show lp _ n (i + 1) (nI a + ((x >>> (nI i &&& 31)) &&& 1)) = _
      rw [bit01, nI_add, ih]
      congr 1
      show a + _ + ctN x n (i + 1) = a + (_ + ctN x n (i + 1))
      omega
  have := key 16 0 0
  rw [Nat.zero_add] at this
  exact this
theorem ctN_le (x : Int32) : ∀ (n s : Nat), ctN x n s ≤ n
  | 0, _ => Nat.le_refl _
  | n + 1, s => by
    have := ctN_le x n (s + 1)
    show (if hb x (nI s) then 1 else 0) + ctN x n (s + 1) ≤ n + 1
    split <;> omega
/-- the code that was found has as many sets as there are doors -/
theorem fcF_bits (D C : Nat) (hD : D ≤ 14) (cost near : Nat → Int32) : (fcF D C cost near).2 = 1000000 ∨ ctN (fcF D C cost near).1 16 0 = D := by
  unfold fcF
  refine lp_inv (fun s : Int32 × Int32 => s.2 = 1000000 ∨ ctN s.1 16 0 = D) (fun i s hs => ?_) _ 0 (0, 1000000) (Or.inl rfl)
  unfold fcC
  by_cases h : bitsF (nI i) = nI D
  · rw [if_pos h]
    split
    · right
      rw [bitsN] at h
      show ctN (nI i) 16 0 = D
      exact (nI_eq (by have := ctN_le (nI i) 16 0; omega) (by omega)).mp h
    · exact hs
  · rw [if_neg h]; exact hs
noncomputable def codF (D : Nat) (F : Int32 × Int32) (e d : Int32) : Int32 := if d = -1 ∨ inD d (nI D) then (if inB e.toInt 0 2 then (if F.2 = 1000000 then -1 else if d = -1 then F.2 else nI (rkN F.1 16 0 (cl d))) else -1000000002) else -1000000001
noncomputable def codS (D C : Nat) (e d : Int32) (σ : S2) : S2 := if (d = -1 ∨ inD d (nI D)) ∧ inB e.toInt 0 2 then su (su (aw σ 33 (cpN 16 (nearF e) (σ.2 33))) 34 (fcF D C (σ.2 4) (cpN 16 (nearF e) (σ.2 33))).1) 35 (fcF D C (σ.2 4) (cpN 16 (nearF e) (σ.2 33))).2 else σ
theorem rkN_s {code : Int32} {n s d : Nat} : rkN code (n + 1) s d = if hb code (nI s) then (if d = 0 then s else rkN code n (s + 1) (d - 1)) else rkN code n (s + 1) d := rfl
theorem ctN_s {code : Int32} {n s : Nat} : ctN code (n + 1) s = (if hb code (nI s) then 1 else 0) + ctN code n (s + 1) := rfl
