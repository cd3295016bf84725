/-! the class's codes -/
noncomputable def csbC (C : Nat) (cost : Nat → Int32) (words : Int32) (s : Nat) (z : Int32 × Int32) : Int32 × Int32 := if ¬ hb words (nI s) ∧ costF C cost (nI s) < z.2 then (nI s, costF C cost (nI s)) else z
noncomputable def csbF (C : Nat) (cost : Nat → Int32) (words : Int32) : Int32 := (lp (csbC C cost words) (2 ^ C) 0 (0, 161)).1
noncomputable def csF (D C : Nat) (cost : Nat → Int32) : Int32 := if nI D ≤ nI (2 ^ C) then lp (fun _ w => w ||| bit (csbF C cost w)) D 0 0 else -1
noncomputable def prC (C : Nat) (cost : Nat → Int32) (dist : Int32) (one other : Nat) (z : Int32 × Int32) : Int32 × Int32 := if ¬ bcF (nI one ^^^ nI other) < dist ∧ costF C cost (nI one) + costF C cost (nI other) < z.2 then (bit (nI one) ||| bit (nI other), costF C cost (nI one) + costF C cost (nI other)) else z
noncomputable def prF (C : Nat) (cost : Nat → Int32) (dist : Int32) : Int32 := (lp (fun one z => lp (prC C cost dist one) (2 ^ C - (one + 1)) (one + 1) z) (2 ^ C) 0 (-1, 161)).1
noncomputable def cocF (C : Nat) (cost : Nat → Int32) (words : Int32) : Int32 := lp (fun s a => if hb words (nI s) then a + costF C cost (nI s) else a) (2 ^ C) 0 0
noncomputable def bstF (D C : Nat) (cost : Nat → Int32) (dist : Int32) : Int32 := if dist = 1 then csF D C cost else if D < 2 then bit (nI D) - 1 else if D = 2 then prF C cost dist else -1
def brN (set rank : Int32) : Nat → Nat → Int32 → Int32
  | 0, _, _ => -1
  | n + 1, k, p => if hb set (nI k) then (if p = rank then nI k else brN set rank n (k + 1) (p + 1)) else brN set rank n (k + 1) p
theorem brN_s {set rank : Int32} {n k : Nat} {p : Int32} : brN set rank (n + 1) k p = if hb set (nI k) then (if p = rank then nI k else brN set rank n (k + 1) (p + 1)) else brN set rank n (k + 1) p := rfl
theorem p1C {C : Nat} {x : Int32} (h : C ≤ 14) (e : x = nI C) : (1 : Int32) <<< (x &&& 31) = nI (2 ^ C) ∧ 2 ^ C ≤ 16384 := by
  have : ∀ C : Fin 15, (1 : Int32) <<< (nI C.val &&& 31) = nI (2 ^ C.val) ∧ 2 ^ C.val ≤ 16384 := by decide +kernel
  rw [e]
  exact this ⟨C, by omega⟩
theorem minE {s c : Int32} : (if s + c < 999999 then s + c else 999999) = payF s c := by
  rw [payF_eq]
  by_cases h : s + c < 999999
  · rw [if_pos h, if_pos (le_of_nlt (fun q => nle_of_lt h (le_of_nlt (fun z => nle_of_lt z (le_of_nlt (fun y => nle_of_lt y (le_of_nlt (fun w => by rw [Int32.lt_iff_toInt_lt] at *; omega)))))) ))]
  · rw [if_neg h]
    by_cases h2 : s + c ≤ 999999
    · rw [if_pos h2]
      rw [Int32.lt_iff_toInt_lt] at h
      rw [Int32.le_iff_toInt_le] at h2
      exact (Int32.toInt_inj.mp (by omega)).symm
    · rw [if_neg h2]
noncomputable def dqF : Int32 → Int32 := hid (fun s => s / 65536)
theorem dqF_eq (s : Int32) : dqF s = s / 65536 := by unfold dqF; rw [hid_eq]
theorem dvQ (s n : Int32) : dqF s - dqF s / n * n = dvF s n := by rw [dvF_eq, dqF_eq]
theorem hb_clr {m : Int32} {j c : Nat} (hj : j < 4) (hc : c < 4) (h : j ≠ c) : hb (m &&& (bit (nI c) ^^^ -1)) (nI j) ↔ hb m (nI j) := by
  have key : ∀ (j c : Fin 4), j ≠ c → ∀ m : Int32, ((m &&& (bit (nI c.val) ^^^ -1)) >>> (nI j.val &&& 31)) &&& 1 = (m >>> (nI j.val &&& 31)) &&& 1 := by
    intro j c hjc m
    apply Int32.toBitVec_inj.mp
    have e1 : ∀ k : Fin 4, (nI k.val &&& 31).toBitVec.smod 32 = BitVec.ofNat 32 k.val := by decide
    have e2 : ∀ k : Fin 4, (bit (nI k.val) ^^^ -1).toBitVec = ~~~ (BitVec.twoPow 32 k.val) := by decide
    rw [Int32.toBitVec_and, Int32.toBitVec_and, Int32.toBitVec_shiftRight, Int32.toBitVec_shiftRight, Int32.toBitVec_and, e1, e2]
    apply BitVec.eq_of_getLsbD_eq
    intro i hi
    have h1 : (1 : Int32).toBitVec = 1#32 := rfl
    rw [h1]
    by_cases hi0 : i = 0
    · subst hi0
      have hjv : (BitVec.ofNat 32 j.val).toNat = j.val := by rw [BitVec.toNat_ofNat]; have := j.isLt; omega
      simp only [BitVec.getLsbD_and, BitVec.sshiftRight_eq', BitVec.getLsbD_sshiftRight, hjv]
      have hlt : j.val < 32 := by have := j.isLt; omega
      simp [hlt]
      intro _ he
      exact hjc (Fin.ext he)
    · have h0 : (1#32).getLsbD i = false := by
        rw [BitVec.getLsbD_one]
        simp [hi0]
      simp [h0]
  unfold hb
  rw [key ⟨j, hj⟩ ⟨c, hc⟩ (fun z => h (Fin.mk.inj z)) m]
