theorem hb_or {m : Int32} {c : Nat} (hc : c < 4) (h : hb m (nI c)) : m ||| bit (nI c) = m := by
  have key : ∀ (k : Fin 4), ¬ ((m >>> (nI k.val &&& 31)) &&& 1) = 0 → m ||| bit (nI k.val) = m := by
    intro k hk
    have e1 : ∀ k : Fin 4, (nI k.val &&& 31).toBitVec.smod 32 = BitVec.ofNat 32 k.val := by decide
    have e2 : ∀ k : Fin 4, (bit (nI k.val)).toBitVec = BitVec.twoPow 32 k.val := by decide
    have hkv : (BitVec.ofNat 32 k.val).toNat = k.val := by rw [BitVec.toNat_ofNat]; have := k.isLt; omega
    have hlt : k.val < 32 := by have := k.isLt; omega
    have hm : m.toBitVec.getLsbD k.val = true := by
      cases hb : m.toBitVec.getLsbD k.val with
      | true => rfl
      | false =>
        refine absurd ?_ hk
        apply Int32.toBitVec_inj.mp
        rw [Int32.toBitVec_and, Int32.toBitVec_shiftRight, e1]
        apply BitVec.eq_of_getLsbD_eq
        intro i hi
        have h1 : (1 : Int32).toBitVec = 1#32 := rfl
        have h0 : (0 : Int32).toBitVec = 0#32 := rfl
        rw [h1, h0]
        by_cases hi0 : i = 0
        · subst hi0
          simp only [BitVec.getLsbD_and, BitVec.sshiftRight_eq', BitVec.getLsbD_sshiftRight, hkv]
          simp [hlt]
          rw [← BitVec.getLsbD_eq_getElem]
          exact hb
        · have q : (1#32).getLsbD i = false := by
            rw [BitVec.getLsbD_one]
            simp [hi0]
          simp [q]
    apply Int32.toBitVec_inj.mp
    rw [Int32.toBitVec_or, e2]
    apply BitVec.eq_of_getLsbD_eq
    intro i hi
    rw [BitVec.getLsbD_or, BitVec.getLsbD_twoPow]
    by_cases hi2 : k.val = i
    · rw [← hi2, hm]; rfl
    · simp [hi2]
  exact key ⟨c, hc⟩ h
