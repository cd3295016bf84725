theorem p_wR_0_3 {X : CT} {l : Launch} {g : GT} {own : String} {cc : ByteArray} {R : Room} {cs sl pc nx : Nat} {lv : List (Option Value)} {st : List Value} {b : Nat → Nat} {σ : S2} {v : Int32} (hX : oK X l g own cc R) (hd : dPf own cc pc 3 3 .int nx) (k : vJ X cs sl (wR g b (su σ 3 v)) nx lv st) : vJ X cs sl (wR g b σ) pc lv (.int v :: .ref (b 0) :: st) := r_put hX hd 0 rfl rfl rfl (Nat.le_of_ble_eq_true rfl) _ rfl k
theorem p_wR_0_4 {X : CT} {l : Launch} {g : GT} {own : String} {cc : ByteArray} {R : Room} {cs sl pc nx : Nat} {lv : List (Option Value)} {st : List Value} {b : Nat → Nat} {σ : S2} {v : Int32} (hX : oK X l g own cc R) (hd : dPf own cc pc 3 4 .int nx) (k : vJ X cs sl (wR g b (su σ 4 v)) nx lv st) : vJ X cs sl (wR g b σ) pc lv (.int v :: .ref (b 0) :: st) := r_put hX hd 0 rfl rfl rfl (Nat.le_of_ble_eq_true rfl) _ rfl k
theorem g_wR_0_2 {X : CT} {l : Launch} {g : GT} {own : String} {cc : ByteArray} {R : Room} {cs sl pc nx : Nat} {lv : List (Option Value)} {st : List Value} {b : Nat → Nat} {σ : S2} (hX : oK X l g own cc R) (hd : dGf own cc pc 3 2 nx) (k : vJ X cs sl (wR g b σ) nx lv (.int (σ.1 2) :: st)) : vJ X cs sl (wR g b σ) pc lv (.ref (b 0) :: st) := r_get hX hd 0 rfl rfl k
theorem p_wR_0_2 {X : CT} {l : Launch} {g : GT} {own : String} {cc : ByteArray} {R : Room} {cs sl pc nx : Nat} {lv : List (Option Value)} {st : List Value} {b : Nat → Nat} {σ : S2} {v : Int32} (hX : oK X l g own cc R) (hd : dPf own cc pc 3 2 .int nx) (k : vJ X cs sl (wR g b (su σ 2 v)) nx lv st) : vJ X cs sl (wR g b σ) pc lv (.int v :: .ref (b 0) :: st) := r_put hX hd 0 rfl rfl rfl (Nat.le_of_ble_eq_true rfl) _ rfl k
theorem g_wR_0_1 {X : CT} {l : Launch} {g : GT} {own : String} {cc : ByteArray} {R : Room} {cs sl pc nx : Nat} {lv : List (Option Value)} {st : List Value} {b : Nat → Nat} {σ : S2} (hX : oK X l g own cc R) (hd : dGf own cc pc 3 1 nx) (k : vJ X cs sl (wR g b σ) nx lv (.int (σ.1 1) :: st)) : vJ X cs sl (wR g b σ) pc lv (.ref (b 0) :: st) := r_get hX hd 0 rfl rfl k
theorem g_wR_0_0 {X : CT} {l : Launch} {g : GT} {own : String} {cc : ByteArray} {R : Room} {cs sl pc nx : Nat} {lv : List (Option Value)} {st : List Value} {b : Nat → Nat} {σ : S2} (hX : oK X l g own cc R) (hd : dGf own cc pc 3 0 nx) (k : vJ X cs sl (wR g b σ) nx lv (.ref (b 1) :: st)) : vJ X cs sl (wR g b σ) pc lv (.ref (b 0) :: st) := r_get hX hd 0 rfl rfl k
theorem s_wR_1 {X : CT} {l : Launch} {g : GT} {own : String} {cc : ByteArray} {R : Room} {cs sl pc nx : Nat} {lv : List (Option Value)} {st : List Value} {b : Nat → Nat} {σ : S2} {i v : Int32} (hX : oK X l g own cc R) (hd : dR cc pc (.iastore) 1 nx) (hi : vp_in i 200) (k : vJ X cs sl (wR g b (au σ 0 i.toNatClampNeg v)) nx lv st) : vJ X cs sl (wR g b σ) pc lv (.int v :: .int i :: .ref (b 1) :: st) := r_iast hX hd 1 rfl hi _ rfl k
theorem p_wR_0_1 {X : CT} {l : Launch} {g : GT} {own : String} {cc : ByteArray} {R : Room} {cs sl pc nx : Nat} {lv : List (Option Value)} {st : List Value} {b : Nat → Nat} {σ : S2} {v : Int32} (hX : oK X l g own cc R) (hd : dPf own cc pc 3 1 .int nx) (k : vJ X cs sl (wR g b (su σ 1 v)) nx lv st) : vJ X cs sl (wR g b σ) pc lv (.int v :: .ref (b 0) :: st) := r_put hX hd 0 rfl rfl rfl (Nat.le_of_ble_eq_true rfl) _ rfl k
theorem l_wR_1 {X : CT} {l : Launch} {g : GT} {own : String} {cc : ByteArray} {R : Room} {cs sl pc nx : Nat} {lv : List (Option Value)} {st : List Value} {b : Nat → Nat} {σ : S2} {i : Int32} (hX : oK X l g own cc R) (hd : dR cc pc (.iaload) 1 nx) (hi : vp_in i 200) (k : vJ X cs sl (wR g b σ) nx lv (.int (σ.2 0 i.toNatClampNeg) :: st)) : vJ X cs sl (wR g b σ) pc lv (.int i :: .ref (b 1) :: st) := r_iald hX hd 1 rfl hi k
theorem g_wR_0_5 {X : CT} {l : Launch} {g : GT} {own : String} {cc : ByteArray} {R : Room} {cs sl pc nx : Nat} {lv : List (Option Value)} {st : List Value} {b : Nat → Nat} {σ : S2} (hX : oK X l g own cc R) (hd : dGf own cc pc 3 5 nx) (k : vJ X cs sl (wR g b σ) nx lv (.int (σ.1 5) :: st)) : vJ X cs sl (wR g b σ) pc lv (.ref (b 0) :: st) := r_get hX hd 0 rfl rfl k
theorem g_wR_0_3 {X : CT} {l : Launch} {g : GT} {own : String} {cc : ByteArray} {R : Room} {cs sl pc nx : Nat} {lv : List (Option Value)} {st : List Value} {b : Nat → Nat} {σ : S2} (hX : oK X l g own cc R) (hd : dGf own cc pc 3 3 nx) (k : vJ X cs sl (wR g b σ) nx lv (.int (σ.1 3) :: st)) : vJ X cs sl (wR g b σ) pc lv (.ref (b 0) :: st) := r_get hX hd 0 rfl rfl k
theorem p_wR_0_5 {X : CT} {l : Launch} {g : GT} {own : String} {cc : ByteArray} {R : Room} {cs sl pc nx : Nat} {lv : List (Option Value)} {st : List Value} {b : Nat → Nat} {σ : S2} {v : Int32} (hX : oK X l g own cc R) (hd : dPf own cc pc 3 5 .int nx) (k : vJ X cs sl (wR g b (su σ 5 v)) nx lv st) : vJ X cs sl (wR g b σ) pc lv (.int v :: .ref (b 0) :: st) := r_put hX hd 0 rfl rfl rfl (Nat.le_of_ble_eq_true rfl) _ rfl k
set_option maxHeartbeats 400000 in
theorem c_X3_fail (l : Launch) (g : GT) (b : Nat → Nat) (σ : S2) (k w : Int32)  : Cx l g yX3_fail cX3_fail 3 none (k2_rm 0 0) [.ref (b 0), .int k, .int w] (wR g b σ) none (wR g b (xFal k w σ)) := by
  refine meth (own := "ChalkedDoors$Reader") (by decide) rfl (Nat.le_of_ble_eq_true rfl) [some (.ref (b 0)), some (.int k), some (.int w)] rfl (fun X hX hQ => ?_)
  refine r_aload0 hX dX3_fail_0 ?_
  refine r_iload1 hX dX3_fail_1 ?_
  refine p_wR_0_3 hX dX3_fail_2 ?_
  refine r_aload0 hX dX3_fail_5 ?_
  refine r_iload2 hX dX3_fail_6 ?_
  refine p_wR_0_4 hX dX3_fail_7 ?_
  exact r_vret hX hQ dX3_fail_10 (rfl)
set_option maxHeartbeats 400000 in
theorem c_X3_passWord (l : Launch) (g : GT) (b : Nat → Nat) (σ : S2) (z : Int32)  : Cx l g yX3_passWord cX3_passWord 2 none (k2_rm 1 30) [.ref (b 0), .int z] (wR g b σ) none (wR g b (xWrd z σ)) := by
  refine meth (own := "ChalkedDoors$Reader") (by decide) rfl (Nat.le_of_ble_eq_true rfl) [some (.ref (b 0)), some (.int z)] rfl (fun X hX hQ => ?_)
  refine r_iload1 hX dX3_passWord_0 ?_
  refine r_if_eq hX dX3_passWord_1 (fun h1 => ?_) (fun h1 => ?_)
  · refine r_aload0 hX dX3_passWord_16 ?_
    refine r_dup hX dX3_passWord_17 rfl ?_
    refine g_wR_0_2 hX dX3_passWord_18 ?_
    refine r_push hX dX3_passWord_21 ?_
    refine r_iadd hX dX3_passWord_22 ?_
    refine p_wR_0_2 hX dX3_passWord_23 ?_
    exact r_vret hX hQ dX3_passWord_26 (by unfold xWrd; rw [if_pos h1] <;> rfl)
  · refine r_aload0 hX dX3_passWord_4 ?_
    refine r_push hX dX3_passWord_5 ?_
    refine r_aload0 hX dX3_passWord_6 ?_
    refine g_wR_0_2 hX dX3_passWord_7 ?_
    refine r_aV2v hX dX3_passWord_10 kX3_fail (c_X3_fail l g _ _ _ _) ad_wR rfl (by decide) (Nat.le_of_ble_eq_true rfl) ?_
    refine r_goto hX dX3_passWord_13 ?_
    exact r_vret hX hQ dX3_passWord_26 (by unfold xWrd; rw [if_neg h1] <;> rfl)
set_option maxHeartbeats 400000 in
theorem c_X3_add (l : Launch) (g : GT) (b : Nat → Nat) (σ : S2) (t : Int32) (T : Nat) (hT : T ≤ 200) (eT : σ.1 1 = nI T) : Cx l g yX3_add cX3_add 2 (some .int) (k2_rm 0 0) [.ref (b 0), .int t] (wR g b σ) (some (.int (if σ.1 1 < 200 then σ.1 1 + 1 else -1000000004))) (wR g b (if σ.1 1 < 200 then su (au σ 0 (cl (σ.1 1)) t) 1 (σ.1 1 + 1) else σ)) := by
  refine meth (own := "ChalkedDoors$Reader") (by decide) rfl (Nat.le_of_ble_eq_true rfl) [some (.ref (b 0)), some (.int t)] rfl (fun X hX hQ => ?_)
  refine r_aload0 hX dX3_add_0 ?_
  refine g_wR_0_1 hX dX3_add_1 ?_
  refine r_push hX dX3_add_4 ?_
  refine r_ic_lt hX dX3_add_7 (fun h7 => ?_) (fun h7 => ?_)
  · refine r_aload0 hX dX3_add_13 ?_
    refine g_wR_0_0 hX dX3_add_14 ?_
    refine r_aload0 hX dX3_add_17 ?_
    refine g_wR_0_1 hX dX3_add_18 ?_
    refine r_iload1 hX dX3_add_21 ?_
    refine s_wR_1 hX dX3_add_22 (by show vp_in (σ.1 1) _; rw [eT]; exact vp_in_nI (Nat.lt_of_not_le (fun z => absurd h7 (by rw [eT]; exact nI_nlt z (by omega)))) (by omega)) ?_
    refine r_aload0 hX dX3_add_23 ?_
    refine r_dup hX dX3_add_24 rfl ?_
    refine g_wR_0_1 hX dX3_add_25 ?_
    refine r_push hX dX3_add_28 ?_
    refine r_iadd hX dX3_add_29 ?_
    refine p_wR_0_1 hX dX3_add_30 ?_
    refine r_aload0 hX dX3_add_33 ?_
    refine g_wR_0_1 hX dX3_add_34 ?_
    exact r_iret hX hQ dX3_add_37 (by rw [if_pos h7] <;> rfl) (by rw [if_pos h7] <;> rfl)
  · refine r_push hX dX3_add_10 ?_
    exact r_iret hX hQ dX3_add_12 (by rw [if_neg h7]) (by rw [if_neg h7])
set_option maxHeartbeats 400000 in
theorem c_X3_skipBlanks (l : Launch) (g : GT) (b : Nat → Nat) (σ : S2)  (hp : RI σ) : Cx l g yX3_skipBlanks cX3_skipBlanks 1 none (k2_rm 0 0) [.ref (b 0)] (wR g b σ) none (wR g b (xSkp σ)) := by
  refine meth (own := "ChalkedDoors$Reader") (by decide) rfl (Nat.le_of_ble_eq_true rfl) [some (.ref (b 0))] rfl (fun X hX hQ => ?_)
  obtain ⟨hpT, hT, eT, ep⟩ := RI_e hp
  unfold xSkp at hQ
  generalize hsp : rK σ = S at hQ
  unfold rK sk at hsp
  generalize rT σ = T at *
  generalize rP σ = p at *
  have hL : ∀ (n j : Nat), j + n = T → S = skN (σ.2 0) n j → vJ X 0 0 (wR g b (su σ 2 (nI j))) 0 [some (.ref (b 0))] [] := by
    intro n
    induction n with
    | zero =>
      intro j hj hs
      have hs : S = j := hs
      refine r_aload0 hX dX3_skipBlanks_0 ?_
      refine g_wR_0_2 hX dX3_skipBlanks_1 ?_
      refine r_aload0 hX dX3_skipBlanks_4 ?_
      refine g_wR_0_1 hX dX3_skipBlanks_5 ?_
      refine r_ic_ge hX dX3_skipBlanks_8 (fun h8 => ?_) (fun h8 => absurd (lpx (e := T) (x := nI j) rfl eT (by omega) (by omega) (by omega)) h8)
      exact r_vret hX hQ dX3_skipBlanks_38 (by rw [hs])
    | succ n ih =>
      intro j hj hs
      have hcj : (nI j).toNatClampNeg = j := nI_clamp (by omega)
      have hvj : vp_in (nI j) 200 := vp_in_nI (by omega) (by omega)
      refine r_aload0 hX dX3_skipBlanks_0 ?_
      refine g_wR_0_2 hX dX3_skipBlanks_1 ?_
      refine r_aload0 hX dX3_skipBlanks_4 ?_
      refine g_wR_0_1 hX dX3_skipBlanks_5 ?_
      refine r_ic_ge hX dX3_skipBlanks_8 (fun h8 => absurd h8 (lpn (e := T) (x := nI j) rfl eT (by omega) (by omega))) (fun h8 => ?_)
      refine r_aload0 hX dX3_skipBlanks_11 ?_
      refine g_wR_0_0 hX dX3_skipBlanks_12 ?_
      refine r_aload0 hX dX3_skipBlanks_15 ?_
      refine g_wR_0_2 hX dX3_skipBlanks_16 ?_
      refine l_wR_1 hX dX3_skipBlanks_19 hvj ?_
      refine r_push hX dX3_skipBlanks_20 ?_
      refine r_ic_ne hX dX3_skipBlanks_22 (fun h22 => ?_) (fun h22 => ?_)
      · exact r_vret hX hQ dX3_skipBlanks_38 (by rw [skN, if_neg (show ¬ σ.2 0 j = 32 by rw [← hcj]; exact h22)] at hs; rw [hs])
      · refine r_aload0 hX dX3_skipBlanks_25 ?_
        refine r_dup hX dX3_skipBlanks_26 rfl ?_
        refine g_wR_0_2 hX dX3_skipBlanks_27 ?_
        refine r_push hX dX3_skipBlanks_30 ?_
        refine r_iadd hX dX3_skipBlanks_31 ?_
        refine p_wR_0_2 hX dX3_skipBlanks_32 ?_
        refine r_goto hX dX3_skipBlanks_35 ?_
        refine vJw (w' := wR g b (su σ 2 (nI j + 1))) rfl ?_
        rw [nI_1]
        exact ih (j + 1) (by omega) (by rw [hs, skN, if_pos (show σ.2 0 j = 32 by rw [← hcj]; exact h22)])
  refine vJw (w' := wR g b (su σ 2 (σ.1 2))) rfl ?_
  rw [ep]
  exact hL (T - p) p (by omega) hsp.symm
set_option maxHeartbeats 400000 in
theorem c_X3_readNumber (l : Launch) (g : GT) (b : Nat → Nat) (σ : S2) (u v : Int32) (hp : RI σ) : Cx l g yX3_readNumber cX3_readNumber 5 (some .int) (k2_rm 1 30) [.ref (b 0), .int u, .int v] (wR g b σ) (some (.int (xNum u v σ).1)) (wR g b (xNum u v σ).2) := by
  refine meth (own := "ChalkedDoors$Reader") (by decide) rfl (Nat.le_of_ble_eq_true rfl) [some (.ref (b 0)), some (.int u), some (.int v), none, none] rfl (fun X hX hQ => ?_)
  by_cases hf : σ.1 3 = 0
  · obtain ⟨hpT, hT, eT, ep⟩ := RI_e hp
    have hqT := rK_le hp
    have e0 : xNum u v σ = xNm2 u v (rK σ) (xSkp σ) := by unfold xNum; rw [if_pos hf]
    rw [e0] at hQ
    unfold xNm2 at hQ
    have e3 : rT (xSkp σ) = rT σ := rfl
    have e4 : (xSkp σ).2 0 = σ.2 0 := rfl
    rw [e3, e4] at hQ
    have eq : (xSkp σ).1 2 = nI (rK σ) := rfl
    generalize hq0 : rK σ = q at hQ eq hqT
    generalize hTT : rT σ = T at *
    generalize hE : dgE (σ.2 0) T q = E at hQ
    generalize hV : dvX (σ.2 0) (T - q) q 0 0 = V at hQ
    have hEq : q ≤ E ∧ E ≤ T := by rw [← hE]; exact dgE_le hqT
    have hfin : ∀ o4 : Option Value, vJ X 0 0 (wR g b (su (su (xSkp σ) 5 (nI q)) 2 (nI E))) 106 [some (.ref (b 0)), some (.int u), some (.int v), some (.int V), o4] [] := by
      intro o4
      refine r_aload0 hX dX3_readNumber_106 ?_
      refine g_wR_0_2 hX dX3_readNumber_107 ?_
      refine r_aload0 hX dX3_readNumber_110 ?_
      refine g_wR_0_5 hX dX3_readNumber_111 ?_
      refine r_isub hX dX3_readNumber_114 ?_
      refine r_istore4 hX dX3_readNumber_115 rfl ?_
      refine r_iload4 hX dX3_readNumber_117 ?_
      refine r_if_ne hX dX3_readNumber_119 (fun h119 => ?_) (fun h119 => ?_)
      · refine r_iload4 hX dX3_readNumber_134 ?_
        refine r_push hX dX3_readNumber_136 ?_
        refine r_ic_gt hX dX3_readNumber_137 (fun h137 => ?_) (fun h137 => ?_)
        · refine r_aload0 hX dX3_readNumber_150 ?_
          refine r_push hX dX3_readNumber_151 ?_
          refine r_aload0 hX dX3_readNumber_152 ?_
          refine g_wR_0_5 hX dX3_readNumber_153 ?_
          refine r_aV2v hX dX3_readNumber_156 kX3_fail (c_X3_fail l g _ _ _ _) ad_wR rfl (by decide) (Nat.le_of_ble_eq_true rfl) ?_
          refine r_iload3 hX dX3_readNumber_159 ?_
          exact r_iret hX hQ dX3_readNumber_160 (by rw [if_neg (show ¬ nI E - nI q = 0 from h119), if_pos (Or.inl (show 3 < nI E - nI q from h137))] <;> rfl) (by rw [if_neg (show ¬ nI E - nI q = 0 from h119), if_pos (Or.inl (show 3 < nI E - nI q from h137))] <;> rfl)
        · refine r_iload3 hX dX3_readNumber_140 ?_
          refine r_iload1 hX dX3_readNumber_141 ?_
          refine r_ic_lt hX dX3_readNumber_142 (fun h142 => ?_) (fun h142 => ?_)
          · refine r_aload0 hX dX3_readNumber_150 ?_
            refine r_push hX dX3_readNumber_151 ?_
            refine r_aload0 hX dX3_readNumber_152 ?_
            refine g_wR_0_5 hX dX3_readNumber_153 ?_
            refine r_aV2v hX dX3_readNumber_156 kX3_fail (c_X3_fail l g _ _ _ _) ad_wR rfl (by decide) (Nat.le_of_ble_eq_true rfl) ?_
            refine r_iload3 hX dX3_readNumber_159 ?_
            exact r_iret hX hQ dX3_readNumber_160 (by rw [if_neg (show ¬ nI E - nI q = 0 from h119), if_pos (Or.inr (Or.inl h142))] <;> rfl) (by rw [if_neg (show ¬ nI E - nI q = 0 from h119), if_pos (Or.inr (Or.inl h142))] <;> rfl)
          · refine r_iload3 hX dX3_readNumber_145 ?_
            refine r_iload2 hX dX3_readNumber_146 ?_
            refine r_ic_le hX dX3_readNumber_147 (fun h147 => ?_) (fun h147 => ?_)
            · refine r_iload3 hX dX3_readNumber_159 ?_
              exact r_iret hX hQ dX3_readNumber_160 (by rw [if_neg (show ¬ nI E - nI q = 0 from h119), if_neg (fun y => y.elim (fun k => h137 k) (fun y => y.elim h142 (fun k => k h147)))] <;> rfl) (by rw [if_neg (show ¬ nI E - nI q = 0 from h119), if_neg (fun y => y.elim (fun k => h137 k) (fun y => y.elim h142 (fun k => k h147)))] <;> rfl)
            · refine r_aload0 hX dX3_readNumber_150 ?_
              refine r_push hX dX3_readNumber_151 ?_
              refine r_aload0 hX dX3_readNumber_152 ?_
              refine g_wR_0_5 hX dX3_readNumber_153 ?_
              refine r_aV2v hX dX3_readNumber_156 kX3_fail (c_X3_fail l g _ _ _ _) ad_wR rfl (by decide) (Nat.le_of_ble_eq_true rfl) ?_
              refine r_iload3 hX dX3_readNumber_159 ?_
              exact r_iret hX hQ dX3_readNumber_160 (by rw [if_neg (show ¬ nI E - nI q = 0 from h119), if_pos (Or.inr (Or.inr h147))] <;> rfl) (by rw [if_neg (show ¬ nI E - nI q = 0 from h119), if_pos (Or.inr (Or.inr h147))] <;> rfl)
      · refine r_aload0 hX dX3_readNumber_122 ?_
        refine r_push hX dX3_readNumber_123 ?_
        refine r_aload0 hX dX3_readNumber_124 ?_
        refine g_wR_0_2 hX dX3_readNumber_125 ?_
        refine r_aV2v hX dX3_readNumber_128 kX3_fail (c_X3_fail l g _ _ _ _) ad_wR rfl (by decide) (Nat.le_of_ble_eq_true rfl) ?_
        refine r_goto hX dX3_readNumber_131 ?_
        refine r_iload3 hX dX3_readNumber_159 ?_
        exact r_iret hX hQ dX3_readNumber_160 (by rw [if_pos (show nI E - nI q = 0 from h119)] <;> rfl) (by rw [if_pos (show nI E - nI q = 0 from h119)] <;> rfl)
    have hL : ∀ (n j : Nat) (w : Int32) (o4 : Option Value), j + n = T → q ≤ j → E = dgN (σ.2 0) n j → V = dvX (σ.2 0) n j (j - q) w → vJ X 0 0 (wR g b (su (su (xSkp σ) 5 (nI q)) 2 (nI j))) 23 [some (.ref (b 0)), some (.int u), some (.int v), some (.int w), o4] [] := by
      intro n
      induction n with
      | zero =>
        intro j w o4 hj hqj hE2 hV2
        have hE2 : E = j := hE2
        have hV2 : V = w := hV2
        subst hE2
        subst hV2
        refine r_aload0 hX dX3_readNumber_23 ?_
        refine g_wR_0_2 hX dX3_readNumber_24 ?_
        refine r_aload0 hX dX3_readNumber_27 ?_
        refine g_wR_0_1 hX dX3_readNumber_28 ?_
        refine r_ic_ge hX dX3_readNumber_31 (fun h31 => ?_) (fun h31 => absurd (lpx (e := T) (x := nI E) rfl eT (by omega) (by omega) (by omega)) h31)
        exact hfin _
      | succ n ih =>
        intro j w o4 hj hqj hE2 hV2
        have hcj : (nI j).toNatClampNeg = j := nI_clamp (by omega)
        have hvj : vp_in (nI j) 200 := vp_in_nI (by omega) (by omega)
        have hsb : nI j - nI q = nI (j - q) := pk_sub hqj
        refine r_aload0 hX dX3_readNumber_23 ?_
        refine g_wR_0_2 hX dX3_readNumber_24 ?_
        refine r_aload0 hX dX3_readNumber_27 ?_
        refine g_wR_0_1 hX dX3_readNumber_28 ?_
        refine r_ic_ge hX dX3_readNumber_31 (fun h31 => absurd h31 (lpn (e := T) (x := nI j) rfl eT (by omega) (by omega))) (fun h31 => ?_)
        refine r_aload0 hX dX3_readNumber_34 ?_
        refine g_wR_0_0 hX dX3_readNumber_35 ?_
        refine r_aload0 hX dX3_readNumber_38 ?_
        refine g_wR_0_2 hX dX3_readNumber_39 ?_
        refine l_wR_1 hX dX3_readNumber_42 hvj ?_
        refine r_push hX dX3_readNumber_43 ?_
        refine r_ic_lt hX dX3_readNumber_45 (fun h45 => ?_) (fun h45 => ?_)
        · rw [dgN, if_neg (show ¬ isDg (σ.2 0 j) by rw [← hcj]; exact bI_4 h45)] at hE2
          rw [dvX, if_neg (show ¬ isDg (σ.2 0 j) by rw [← hcj]; exact bI_4 h45)] at hV2
          subst hE2
          subst hV2
          exact hfin _
        · refine r_aload0 hX dX3_readNumber_48 ?_
          refine g_wR_0_0 hX dX3_readNumber_49 ?_
          refine r_aload0 hX dX3_readNumber_52 ?_
          refine g_wR_0_2 hX dX3_readNumber_53 ?_
          refine l_wR_1 hX dX3_readNumber_56 hvj ?_
          refine r_push hX dX3_readNumber_57 ?_
          refine r_ic_gt hX dX3_readNumber_59 (fun h59 => ?_) (fun h59 => ?_)
          · rw [dgN, if_neg (show ¬ isDg (σ.2 0 j) by rw [← hcj]; exact bI_5 h59)] at hE2
            rw [dvX, if_neg (show ¬ isDg (σ.2 0 j) by rw [← hcj]; exact bI_5 h59)] at hV2
            subst hE2
            subst hV2
            exact hfin _
          · refine r_aload0 hX dX3_readNumber_62 ?_
            refine g_wR_0_2 hX dX3_readNumber_63 ?_
            refine r_aload0 hX dX3_readNumber_66 ?_
            refine g_wR_0_5 hX dX3_readNumber_67 ?_
            refine r_isub hX dX3_readNumber_70 ?_
            refine r_push hX dX3_readNumber_71 ?_
            refine r_ic_ge hX dX3_readNumber_72 (fun h72 => ?_) (fun h72 => ?_)
            · refine r_aload0 hX dX3_readNumber_93 ?_
              refine r_dup hX dX3_readNumber_94 rfl ?_
              refine g_wR_0_2 hX dX3_readNumber_95 ?_
              refine r_push hX dX3_readNumber_98 ?_
              refine r_iadd hX dX3_readNumber_99 ?_
              refine p_wR_0_2 hX dX3_readNumber_100 ?_
              refine r_goto hX dX3_readNumber_103 ?_
              refine vJw (w' := wR g b (su (su (xSkp σ) 5 (nI q)) 2 (nI j + 1))) rfl ?_
              have hih := ih (j + 1) w o4 (by omega) (by omega) (by rw [hE2, dgN, if_pos (show isDg (σ.2 0 j) by rw [← hcj]; exact bI_3 h45 h59)]) (by rw [hV2, dvX, if_pos (show isDg (σ.2 0 j) by rw [← hcj]; exact bI_3 h45 h59), if_neg (show ¬ j - q < 3 from fun z => absurd (show (3 : Int32) ≤ nI (j - q) by rw [← hsb]; exact h72) (nI_ge z (by decide))), show j + 1 - q = j - q + 1 by omega])
              rw [← nI_1] at hih
              exact hih
            · refine r_push hX dX3_readNumber_75 ?_
              refine r_iload3 hX dX3_readNumber_77 ?_
              refine r_imul hX dX3_readNumber_78 ?_
              refine r_aload0 hX dX3_readNumber_79 ?_
              refine g_wR_0_0 hX dX3_readNumber_80 ?_
              refine r_aload0 hX dX3_readNumber_83 ?_
              refine g_wR_0_2 hX dX3_readNumber_84 ?_
              refine l_wR_1 hX dX3_readNumber_87 hvj ?_
              refine r_iadd hX dX3_readNumber_88 ?_
              refine r_push hX dX3_readNumber_89 ?_
              refine r_isub hX dX3_readNumber_91 ?_
              refine r_istore3 hX dX3_readNumber_92 rfl ?_
              refine r_aload0 hX dX3_readNumber_93 ?_
              refine r_dup hX dX3_readNumber_94 rfl ?_
              refine g_wR_0_2 hX dX3_readNumber_95 ?_
              refine r_push hX dX3_readNumber_98 ?_
              refine r_iadd hX dX3_readNumber_99 ?_
              refine p_wR_0_2 hX dX3_readNumber_100 ?_
              refine r_goto hX dX3_readNumber_103 ?_
              refine vJw (w' := wR g b (su (su (xSkp σ) 5 (nI q)) 2 (nI j + 1))) rfl ?_
              have ed : (10 * w + σ.2 0 (nI j).toNatClampNeg - 48 : Int32) = d10F w (σ.2 0 j) := by rw [hcj, d10F_eq]
              have hih := ih (j + 1) (d10F w (σ.2 0 j)) o4 (by omega) (by omega) (by rw [hE2, dgN, if_pos (show isDg (σ.2 0 j) by rw [← hcj]; exact bI_3 h45 h59)]) (by rw [hV2, dvX, if_pos (show isDg (σ.2 0 j) by rw [← hcj]; exact bI_3 h45 h59), if_pos (show j - q < 3 from Nat.lt_of_not_le (fun z => h72 (by show (3 : Int32) ≤ nI j - nI q; rw [hsb]; exact nI_le z (by omega)))), show j + 1 - q = j - q + 1 by omega])
              rw [← ed, ← nI_1] at hih
              exact hih
    refine r_aload0 hX dX3_readNumber_0 ?_
    refine g_wR_0_3 hX dX3_readNumber_1 ?_
    refine r_if_eq hX dX3_readNumber_4 (fun h4 => ?_) (fun h4 => absurd hf h4)
    refine r_aload0 hX dX3_readNumber_9 ?_
    refine r_aV0v hX dX3_readNumber_10 kX3_skipBlanks (c_X3_skipBlanks l g _ _ hp) ad_wR rfl (by decide) (Nat.le_of_ble_eq_true rfl) ?_
    refine r_aload0 hX dX3_readNumber_13 ?_
    refine r_aload0 hX dX3_readNumber_14 ?_
    refine g_wR_0_2 hX dX3_readNumber_15 ?_
    refine p_wR_0_5 hX dX3_readNumber_18 ?_
    refine r_push hX dX3_readNumber_21 ?_
    refine r_istore3 hX dX3_readNumber_22 rfl ?_
    refine vJw (w' := wR g b (su (su (xSkp σ) 5 ((xSkp σ).1 2)) 2 ((xSkp σ).1 2))) rfl ?_
    rw [eq]
    exact hL (T - q) q 0 _ (by omega) (Nat.le_refl _) hE.symm (by rw [← hV, Nat.sub_self])
  · have e0 : xNum u v σ = (0, σ) := by unfold xNum; rw [if_neg hf]
    rw [e0] at hQ
    refine r_aload0 hX dX3_readNumber_0 ?_
    refine g_wR_0_3 hX dX3_readNumber_1 ?_
    refine r_if_eq hX dX3_readNumber_4 (fun h4 => absurd h4 hf) (fun h4 => ?_)
    refine r_push hX dX3_readNumber_7 ?_
    exact r_iret hX hQ dX3_readNumber_8 (rfl) (rfl)
set_option maxHeartbeats 400000 in
theorem c_X3_passEnd (l : Launch) (g : GT) (b : Nat → Nat) (σ : S2)  (hp : RI σ) : Cx l g yX3_passEnd cX3_passEnd 1 none (k2_rm 1 30) [.ref (b 0)] (wR g b σ) none (wR g b (xEnd σ)) := by
  refine meth (own := "ChalkedDoors$Reader") (by decide) rfl (Nat.le_of_ble_eq_true rfl) [some (.ref (b 0))] rfl (fun X hX hQ => ?_)
  obtain ⟨hpT, hT, eT, ep⟩ := RI_e hp
  have hqT := rK_le hp
  have hck : (nI (rK σ)).toNatClampNeg = rK σ := nI_clamp (by omega)
  refine r_aload0 hX dX3_passEnd_0 ?_
  refine g_wR_0_3 hX dX3_passEnd_1 ?_
  refine r_if_eq hX dX3_passEnd_4 (fun h4 => ?_) (fun h4 => ?_)
  · refine r_aload0 hX dX3_passEnd_8 ?_
    refine r_aV0v hX dX3_passEnd_9 kX3_skipBlanks (c_X3_skipBlanks l g _ _ hp) ad_wR rfl (by decide) (Nat.le_of_ble_eq_true rfl) ?_
    refine r_aload0 hX dX3_passEnd_12 ?_
    refine g_wR_0_2 hX dX3_passEnd_13 ?_
    refine r_aload0 hX dX3_passEnd_16 ?_
    refine g_wR_0_1 hX dX3_passEnd_17 ?_
    refine r_ic_ge hX dX3_passEnd_20 (fun h20 => ?_) (fun h20 => ?_)
    · refine r_aload0 hX dX3_passEnd_50 ?_
      refine r_push hX dX3_passEnd_51 ?_
      refine r_aload0 hX dX3_passEnd_52 ?_
      refine g_wR_0_2 hX dX3_passEnd_53 ?_
      refine r_aV2v hX dX3_passEnd_56 kX3_fail (c_X3_fail l g _ _ _ _) ad_wR rfl (by decide) (Nat.le_of_ble_eq_true rfl) ?_
      exact r_vret hX hQ dX3_passEnd_59 (by unfold xEnd; rw [if_pos h4, if_neg (fun z => absurd h20 (by show ¬ σ.1 1 ≤ nI (rK σ); rw [eT]; exact nI_ge z.1 (by omega)))] <;> rfl)
    · refine r_aload0 hX dX3_passEnd_23 ?_
      refine g_wR_0_0 hX dX3_passEnd_24 ?_
      refine r_aload0 hX dX3_passEnd_27 ?_
      refine g_wR_0_2 hX dX3_passEnd_28 ?_
      refine l_wR_1 hX dX3_passEnd_31 (vp_in_nI (n := rK σ) (Nat.lt_of_lt_of_le (Nat.lt_of_not_le (fun z => h20 (by show σ.1 1 ≤ nI (rK σ); rw [eT]; exact nI_le z (by omega)))) hT) (by decide)) ?_
      refine r_push hX dX3_passEnd_32 ?_
      refine r_ic_ne hX dX3_passEnd_34 (fun h34 => ?_) (fun h34 => ?_)
      · refine r_aload0 hX dX3_passEnd_50 ?_
        refine r_push hX dX3_passEnd_51 ?_
        refine r_aload0 hX dX3_passEnd_52 ?_
        refine g_wR_0_2 hX dX3_passEnd_53 ?_
        refine r_aV2v hX dX3_passEnd_56 kX3_fail (c_X3_fail l g _ _ _ _) ad_wR rfl (by decide) (Nat.le_of_ble_eq_true rfl) ?_
        exact r_vret hX hQ dX3_passEnd_59 (by unfold xEnd; rw [if_pos h4, if_neg (fun z => h34 (by show σ.2 0 (nI (rK σ)).toNatClampNeg = 59; rw [nI_clamp (by omega)]; exact z.2))] <;> rfl)
      · refine r_aload0 hX dX3_passEnd_37 ?_
        refine r_dup hX dX3_passEnd_38 rfl ?_
        refine g_wR_0_2 hX dX3_passEnd_39 ?_
        refine r_push hX dX3_passEnd_42 ?_
        refine r_iadd hX dX3_passEnd_43 ?_
        refine p_wR_0_2 hX dX3_passEnd_44 ?_
        refine r_goto hX dX3_passEnd_47 ?_
        exact r_vret hX hQ dX3_passEnd_59 (by unfold xEnd; rw [if_pos h4, if_pos ⟨(show rK σ < rT σ from Nat.lt_of_not_le (fun z => h20 (by show σ.1 1 ≤ nI (rK σ); rw [eT]; exact nI_le z (by omega)))), by rw [← hck]; exact h34⟩] <;> rfl)
  · exact r_vret hX hQ dX3_passEnd_7 (by unfold xEnd; rw [if_neg h4])
