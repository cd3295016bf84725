theorem g_wM_0_17 {X : CT} {l : Launch} {g : GT} {own : String} {cc : ByteArray} {R : Room} {cs sl pc nx : Nat} {lv : List (Option Value)} {st : List Value} {b : Nat → Nat} {σ : S2} (hX : oK X l g own cc R) (hd : dGf own cc pc 6 17 nx) (k : vJ X cs sl (wM g b σ) nx lv (.int (σ.1 17) :: st)) : vJ X cs sl (wM g b σ) pc lv (.ref (b 0) :: st) := r_get hX hd 0 rfl rfl k
theorem l_wM_7 {X : CT} {l : Launch} {g : GT} {own : String} {cc : ByteArray} {R : Room} {cs sl pc nx : Nat} {lv : List (Option Value)} {st : List Value} {b : Nat → Nat} {σ : S2} {i : Int32} (hX : oK X l g own cc R) (hd : dR cc pc (.iaload) 1 nx) (hi : vp_in i 200) (k : vJ X cs sl (wM g b σ) nx lv (.int (σ.2 14 i.toNatClampNeg) :: st)) : vJ X cs sl (wM g b σ) pc lv (.int i :: .ref (b 7) :: st) := r_iald hX hd 7 rfl hi k
theorem p_wM_0_17 {X : CT} {l : Launch} {g : GT} {own : String} {cc : ByteArray} {R : Room} {cs sl pc nx : Nat} {lv : List (Option Value)} {st : List Value} {b : Nat → Nat} {σ : S2} {v : Int32} (hX : oK X l g own cc R) (hd : dPf own cc pc 6 17 .int nx) (k : vJ X cs sl (wM g b (su σ 17 v)) nx lv st) : vJ X cs sl (wM g b σ) pc lv (.int v :: .ref (b 0) :: st) := r_put hX hd 0 rfl rfl rfl (Nat.le_of_ble_eq_true rfl) _ rfl k
theorem p_wM_0_16 {X : CT} {l : Launch} {g : GT} {own : String} {cc : ByteArray} {R : Room} {cs sl pc nx : Nat} {lv : List (Option Value)} {st : List Value} {b : Nat → Nat} {σ : S2} {v : Int32} (hX : oK X l g own cc R) (hd : dPf own cc pc 6 16 .int nx) (k : vJ X cs sl (wM g b (su σ 16 v)) nx lv st) : vJ X cs sl (wM g b σ) pc lv (.int v :: .ref (b 0) :: st) := r_put hX hd 0 rfl rfl rfl (Nat.le_of_ble_eq_true rfl) _ rfl k
theorem g_wM_0_19 {X : CT} {l : Launch} {g : GT} {own : String} {cc : ByteArray} {R : Room} {cs sl pc nx : Nat} {lv : List (Option Value)} {st : List Value} {b : Nat → Nat} {σ : S2} (hX : oK X l g own cc R) (hd : dGf own cc pc 6 19 nx) (k : vJ X cs sl (wM g b σ) nx lv (.int (σ.1 19) :: st)) : vJ X cs sl (wM g b σ) pc lv (.ref (b 0) :: st) := r_get hX hd 0 rfl rfl k
theorem g_wM_0_18 {X : CT} {l : Launch} {g : GT} {own : String} {cc : ByteArray} {R : Room} {cs sl pc nx : Nat} {lv : List (Option Value)} {st : List Value} {b : Nat → Nat} {σ : S2} (hX : oK X l g own cc R) (hd : dGf own cc pc 6 18 nx) (k : vJ X cs sl (wM g b σ) nx lv (.int (σ.1 18) :: st)) : vJ X cs sl (wM g b σ) pc lv (.ref (b 0) :: st) := r_get hX hd 0 rfl rfl k
theorem p_wM_0_18 {X : CT} {l : Launch} {g : GT} {own : String} {cc : ByteArray} {R : Room} {cs sl pc nx : Nat} {lv : List (Option Value)} {st : List Value} {b : Nat → Nat} {σ : S2} {v : Int32} (hX : oK X l g own cc R) (hd : dPf own cc pc 6 18 .int nx) (k : vJ X cs sl (wM g b (su σ 18 v)) nx lv st) : vJ X cs sl (wM g b σ) pc lv (.int v :: .ref (b 0) :: st) := r_put hX hd 0 rfl rfl rfl (Nat.le_of_ble_eq_true rfl) _ rfl k
theorem p_wM_0_19 {X : CT} {l : Launch} {g : GT} {own : String} {cc : ByteArray} {R : Room} {cs sl pc nx : Nat} {lv : List (Option Value)} {st : List Value} {b : Nat → Nat} {σ : S2} {v : Int32} (hX : oK X l g own cc R) (hd : dPf own cc pc 6 19 .int nx) (k : vJ X cs sl (wM g b (su σ 19 v)) nx lv st) : vJ X cs sl (wM g b σ) pc lv (.int v :: .ref (b 0) :: st) := r_put hX hd 0 rfl rfl rfl (Nat.le_of_ble_eq_true rfl) _ rfl k
theorem s_wM_8 {X : CT} {l : Launch} {g : GT} {own : String} {cc : ByteArray} {R : Room} {cs sl pc nx : Nat} {lv : List (Option Value)} {st : List Value} {b : Nat → Nat} {σ : S2} {i v : Int32} (hX : oK X l g own cc R) (hd : dR cc pc (.iastore) 1 nx) (hi : vp_in i 4) (k : vJ X cs sl (wM g b (au σ 22 i.toNatClampNeg v)) nx lv st) : vJ X cs sl (wM g b σ) pc lv (.int v :: .int i :: .ref (b 8) :: st) := r_iast hX hd 8 rfl hi _ rfl k
theorem s_wM_9 {X : CT} {l : Launch} {g : GT} {own : String} {cc : ByteArray} {R : Room} {cs sl pc nx : Nat} {lv : List (Option Value)} {st : List Value} {b : Nat → Nat} {σ : S2} {i v : Int32} (hX : oK X l g own cc R) (hd : dR cc pc (.iastore) 1 nx) (hi : vp_in i 4) (k : vJ X cs sl (wM g b (au σ 23 i.toNatClampNeg v)) nx lv st) : vJ X cs sl (wM g b σ) pc lv (.int v :: .int i :: .ref (b 9) :: st) := r_iast hX hd 9 rfl hi _ rfl k
theorem s_wM_10 {X : CT} {l : Launch} {g : GT} {own : String} {cc : ByteArray} {R : Room} {cs sl pc nx : Nat} {lv : List (Option Value)} {st : List Value} {b : Nat → Nat} {σ : S2} {i v : Int32} (hX : oK X l g own cc R) (hd : dR cc pc (.iastore) 1 nx) (hi : vp_in i 4) (k : vJ X cs sl (wM g b (au σ 24 i.toNatClampNeg v)) nx lv st) : vJ X cs sl (wM g b σ) pc lv (.int v :: .int i :: .ref (b 10) :: st) := r_iast hX hd 10 rfl hi _ rfl k
theorem s_wM_11 {X : CT} {l : Launch} {g : GT} {own : String} {cc : ByteArray} {R : Room} {cs sl pc nx : Nat} {lv : List (Option Value)} {st : List Value} {b : Nat → Nat} {σ : S2} {i v : Int32} (hX : oK X l g own cc R) (hd : dR cc pc (.iastore) 1 nx) (hi : vp_in i 4) (k : vJ X cs sl (wM g b (au σ 25 i.toNatClampNeg v)) nx lv st) : vJ X cs sl (wM g b σ) pc lv (.int v :: .int i :: .ref (b 11) :: st) := r_iast hX hd 11 rfl hi _ rfl k
theorem s_wM_12 {X : CT} {l : Launch} {g : GT} {own : String} {cc : ByteArray} {R : Room} {cs sl pc nx : Nat} {lv : List (Option Value)} {st : List Value} {b : Nat → Nat} {σ : S2} {i v : Int32} (hX : oK X l g own cc R) (hd : dR cc pc (.iastore) 1 nx) (hi : vp_in i 14) (k : vJ X cs sl (wM g b (au σ 27 i.toNatClampNeg v)) nx lv st) : vJ X cs sl (wM g b σ) pc lv (.int v :: .int i :: .ref (b 12) :: st) := r_iast hX hd 12 rfl hi _ rfl k
theorem s_wM_13 {X : CT} {l : Launch} {g : GT} {own : String} {cc : ByteArray} {R : Room} {cs sl pc nx : Nat} {lv : List (Option Value)} {st : List Value} {b : Nat → Nat} {σ : S2} {i v : Int32} (hX : oK X l g own cc R) (hd : dR cc pc (.iastore) 1 nx) (hi : vp_in i 1) (k : vJ X cs sl (wM g b (au σ 29 i.toNatClampNeg v)) nx lv st) : vJ X cs sl (wM g b σ) pc lv (.int v :: .int i :: .ref (b 13) :: st) := r_iast hX hd 13 rfl hi _ rfl k
theorem s_wM_14 {X : CT} {l : Launch} {g : GT} {own : String} {cc : ByteArray} {R : Room} {cs sl pc nx : Nat} {lv : List (Option Value)} {st : List Value} {b : Nat → Nat} {σ : S2} {i v : Int32} (hX : oK X l g own cc R) (hd : dR cc pc (.iastore) 1 nx) (hi : vp_in i 2) (k : vJ X cs sl (wM g b (au σ 30 i.toNatClampNeg v)) nx lv st) : vJ X cs sl (wM g b σ) pc lv (.int v :: .int i :: .ref (b 14) :: st) := r_iast hX hd 14 rfl hi _ rfl k
theorem p_wM_0_20 {X : CT} {l : Launch} {g : GT} {own : String} {cc : ByteArray} {R : Room} {cs sl pc nx : Nat} {lv : List (Option Value)} {st : List Value} {b : Nat → Nat} {σ : S2} {v : Int32} (hX : oK X l g own cc R) (hd : dPf own cc pc 6 20 .int nx) (k : vJ X cs sl (wM g b (su σ 20 v)) nx lv st) : vJ X cs sl (wM g b σ) pc lv (.int v :: .ref (b 0) :: st) := r_put hX hd 0 rfl rfl rfl (Nat.le_of_ble_eq_true rfl) _ rfl k
set_option maxHeartbeats 400000 in
theorem c_X6_here (l : Launch) (g : GT) (b : Nat → Nat) (σ : S2)  (hp : PI σ) : Cx l g yX6_here cX6_here 1 (some .int) (k2_rm 0 0) [.ref (b 0)] (wM g b σ) (some (.int (mHere σ).1)) (wM g b (mHere σ).2) := by
  refine meth (own := "ChalkedDoorsModel") (by decide) rfl (Nat.le_of_ble_eq_true rfl) [some (.ref (b 0))] rfl (fun X hX hQ => ?_)
  obtain ⟨T, p, hT, hpT, eT, ep⟩ := hp
  have e1 : mT σ = T := by unfold mT cl; rw [eT]; exact nI_clamp (by omega)
  have e2 : cl (σ.1 17) = p := by rw [ep]; exact nI_clamp (by omega)
  unfold mHere at hQ
  rw [e1, e2] at hQ
  generalize hsp : sk (σ.2 14) T p = S at hQ
  have hL : ∀ (n j : Nat), j + n = T → S = skN (σ.2 14) n j → vJ X 0 0 (wM g b (su σ 17 (nI j))) 0 [some (.ref (b 0))] [] := by
    intro n
    induction n with
    | zero =>
      intro j hj hs
      have hs : S = j := hs
      refine r_aload0 hX dX6_here_0 ?_
      refine g_wM_0_17 hX dX6_here_1 ?_
      refine r_aload0 hX dX6_here_4 ?_
      refine g_wM_0_15 hX dX6_here_5 ?_
      refine r_ic_ge hX dX6_here_8 (fun h8 => ?_) (fun h8 => absurd (lpx (e := T) (x := nI j) rfl eT (by omega) (by omega) (by omega)) h8)
      refine r_aload0 hX dX6_here_38 ?_
      refine g_wM_0_17 hX dX6_here_39 ?_
      refine r_aload0 hX dX6_here_42 ?_
      refine g_wM_0_15 hX dX6_here_43 ?_
      refine r_ic_ge hX dX6_here_46 (fun h46 => ?_) (fun h46 => absurd (lpx (e := T) (x := nI j) rfl eT (by omega) (by omega) (by omega)) h46)
      refine r_push hX dX6_here_61 ?_
      exact r_iret hX hQ dX6_here_62 (by rw [if_neg (show ¬ S < T by rw [hs]; omega)]) (by rw [hs])
    | succ n ih =>
      intro j hj hs
      have hcj : (nI j).toNatClampNeg = j := nI_clamp (by omega)
      have hvj : vp_in (nI j) 200 := vp_in_nI (by omega) (by omega)
      refine r_aload0 hX dX6_here_0 ?_
      refine g_wM_0_17 hX dX6_here_1 ?_
      refine r_aload0 hX dX6_here_4 ?_
      refine g_wM_0_15 hX dX6_here_5 ?_
      refine r_ic_ge hX dX6_here_8 (fun h8 => absurd h8 (lpn (e := T) (x := nI j) rfl eT (by omega) (by omega))) (fun h8 => ?_)
      refine r_aload0 hX dX6_here_11 ?_
      refine g_wM_0_14 hX dX6_here_12 ?_
      refine r_aload0 hX dX6_here_15 ?_
      refine g_wM_0_17 hX dX6_here_16 ?_
      refine l_wM_7 hX dX6_here_19 hvj ?_
      refine r_push hX dX6_here_20 ?_
      refine r_ic_ne hX dX6_here_22 (fun h22 => ?_) (fun h22 => ?_)
      · refine r_aload0 hX dX6_here_38 ?_
        refine g_wM_0_17 hX dX6_here_39 ?_
        refine r_aload0 hX dX6_here_42 ?_
        refine g_wM_0_15 hX dX6_here_43 ?_
        refine r_ic_ge hX dX6_here_46 (fun h46 => absurd h46 (lpn (e := T) (x := nI j) rfl eT (by omega) (by omega))) (fun h46 => ?_)
        refine r_aload0 hX dX6_here_49 ?_
        refine g_wM_0_14 hX dX6_here_50 ?_
        refine r_aload0 hX dX6_here_53 ?_
        refine g_wM_0_17 hX dX6_here_54 ?_
        refine l_wM_7 hX dX6_here_57 hvj ?_
        refine r_goto hX dX6_here_58 ?_
        exact r_iret hX hQ dX6_here_62 (by rw [skN, if_neg (show ¬ σ.2 14 j = 32 by rw [← hcj]; exact h22)] at hs; rw [if_pos (show S < T by rw [hs]; omega), hs]; show some (Value.int (σ.2 14 (nI j).toNatClampNeg)) = _; rw [hcj]) (by rw [skN, if_neg (show ¬ σ.2 14 j = 32 by rw [← hcj]; exact h22)] at hs; rw [hs])
      · refine r_aload0 hX dX6_here_25 ?_
        refine r_dup hX dX6_here_26 rfl ?_
        refine g_wM_0_17 hX dX6_here_27 ?_
        refine r_push hX dX6_here_30 ?_
        refine r_iadd hX dX6_here_31 ?_
        refine p_wM_0_17 hX dX6_here_32 ?_
        refine r_goto hX dX6_here_35 ?_
        refine vJw (w' := wM g b (su σ 17 (nI j + 1))) rfl ?_
        rw [nI_1]
        exact ih (j + 1) (by omega) (by rw [hs, skN, if_pos (show σ.2 14 j = 32 by rw [← hcj]; exact h22)])
  refine vJw (w' := wM g b (su σ 17 (σ.1 17))) rfl ?_
  rw [ep]
  exact hL (T - p) p (by omega) hsp.symm
set_option maxHeartbeats 400000 in
theorem c_X6_fails (l : Launch) (g : GT) (b : Nat → Nat) (σ : S2) (n0 w0 : Int32)  : Cx l g yX6_fails cX6_fails 3 (some .int) (k2_rm 0 0) [.ref (b 0), .int n0, .int w0] (wM g b σ) (some (.int n0)) (wM g b (su σ 16 w0)) := by
  refine meth (own := "ChalkedDoorsModel") (by decide) rfl (Nat.le_of_ble_eq_true rfl) [some (.ref (b 0)), some (.int n0), some (.int w0)] rfl (fun X hX hQ => ?_)
  refine r_aload0 hX dX6_fails_0 ?_
  refine r_iload2 hX dX6_fails_1 ?_
  refine p_wM_0_16 hX dX6_fails_2 ?_
  refine r_iload1 hX dX6_fails_5 ?_
  exact r_iret hX hQ dX6_fails_6 (rfl) (rfl)
set_option maxHeartbeats 400000 in
theorem c_X6_takeNumber (l : Launch) (g : GT) (b : Nat → Nat) (σ : S2) (u v : Int32) (hp : PI σ) : Cx l g yX6_takeNumber cX6_takeNumber 4 (some .int) (k2_rm 1 30) [.ref (b 0), .int u, .int v] (wM g b σ) (some (.int (mTN u v σ).1)) (wM g b (mTN u v σ).2) := by
  refine meth (own := "ChalkedDoorsModel") (by decide) rfl (Nat.le_of_ble_eq_true rfl) [some (.ref (b 0)), some (.int u), some (.int v), none] rfl (fun X hX hQ => ?_)
  have hp1 := mHere_PI hp
  obtain ⟨T, p, hT, hpT, eT, ep⟩ := id hp
  have e1 : mT σ = T := by unfold mT cl; rw [eT]; exact nI_clamp (by omega)
  have e2 : cl (σ.1 17) = p := by rw [ep]; exact nI_clamp (by omega)
  have hqT : sk (σ.2 14) T p ≤ T := (sk_le hpT).2
  have eq : (mHere σ).2.1 17 = nI (sk (σ.2 14) T p) := by show nI _ = _; rw [e1, e2]
  unfold mTN at hQ
  rw [e1, e2] at hQ
  by_cases hd : isDg (mHere σ).1
  · rw [if_pos hd] at hQ
    unfold mNum at hQ
    have e3 : mT (mHere σ).2 = T := e1
    have e4 : (mHere σ).2.2 14 = σ.2 14 := rfl
    rw [e3, e4] at hQ
    generalize hq0 : sk (σ.2 14) T p = q at hQ eq hqT
    generalize hE : dgE (σ.2 14) T q = E at hQ
    generalize hV : dvM (σ.2 14) (T - q) q 0 = V at hQ
    have hEq : q ≤ E ∧ E ≤ T := by rw [← hE]; exact dgE_le hqT
    have hfin : ∀ o3 : Option Value, vJ X 0 0 (wM g b (su (su (su (mHere σ).2 19 (nI q)) 18 V) 17 (nI E))) 129 [some (.ref (b 0)), some (.int u), some (.int v), o3] [] := by
      intro o3
      refine r_aload0 hX dX6_takeNumber_129 ?_
      refine g_wM_0_17 hX dX6_takeNumber_130 ?_
      refine r_aload0 hX dX6_takeNumber_133 ?_
      refine g_wM_0_19 hX dX6_takeNumber_134 ?_
      refine r_isub hX dX6_takeNumber_137 ?_
      refine r_push hX dX6_takeNumber_138 ?_
      refine r_ic_gt hX dX6_takeNumber_139 (fun h139 => ?_) (fun h139 => ?_)
      · refine r_aload0 hX dX6_takeNumber_157 ?_
        refine r_push hX dX6_takeNumber_158 ?_
        refine r_aload0 hX dX6_takeNumber_159 ?_
        refine g_wM_0_19 hX dX6_takeNumber_160 ?_
        refine r_aV2i hX dX6_takeNumber_163 kX6_fails (c_X6_fails l g _ _ _ _) ad_wM rfl (by decide) (Nat.le_of_ble_eq_true rfl) ?_
        refine r_goto hX dX6_takeNumber_166 ?_
        exact r_iret hX hQ dX6_takeNumber_170 (by rw [if_pos (Or.inl (show 3 < nI E - nI q from h139))]) (by rw [if_pos (Or.inl (show 3 < nI E - nI q from h139))] <;> rfl)
      · refine r_aload0 hX dX6_takeNumber_142 ?_
        refine g_wM_0_18 hX dX6_takeNumber_143 ?_
        refine r_i2l hX dX6_takeNumber_146 ?_
        refine r_iload1 hX dX6_takeNumber_147 ?_
        refine r_i2l hX dX6_takeNumber_148 ?_
        refine r_iload2 hX dX6_takeNumber_149 ?_
        refine r_i2l hX dX6_takeNumber_150 ?_
        refine r_nS3i hX dX6_takeNumber_151 kX6_in (c_X6_in l g _ _ _) (by decide) (Nat.le_of_ble_eq_true rfl) ?_
        refine r_if_ne hX dX6_takeNumber_154 (fun h154 => ?_) (fun h154 => ?_)
        · refine r_push hX dX6_takeNumber_169 ?_
          exact r_iret hX hQ dX6_takeNumber_170 (by rw [if_neg (fun h => h.elim h139 (fun z => z (by have q2 := bI_nz h154; rw [Int32.toInt_toInt64, Int32.toInt_toInt64, Int32.toInt_toInt64] at q2; exact q2)))]) (by rw [if_neg (fun h => h.elim h139 (fun z => z (by have q2 := bI_nz h154; rw [Int32.toInt_toInt64, Int32.toInt_toInt64, Int32.toInt_toInt64] at q2; exact q2)))] <;> rfl)
        · refine r_aload0 hX dX6_takeNumber_157 ?_
          refine r_push hX dX6_takeNumber_158 ?_
          refine r_aload0 hX dX6_takeNumber_159 ?_
          refine g_wM_0_19 hX dX6_takeNumber_160 ?_
          refine r_aV2i hX dX6_takeNumber_163 kX6_fails (c_X6_fails l g _ _ _ _) ad_wM rfl (by decide) (Nat.le_of_ble_eq_true rfl) ?_
          refine r_goto hX dX6_takeNumber_166 ?_
          exact r_iret hX hQ dX6_takeNumber_170 (by rw [if_pos (Or.inr (fun z => bI_z h154 (by rw [Int32.toInt_toInt64, Int32.toInt_toInt64, Int32.toInt_toInt64]; exact z)))]) (by rw [if_pos (Or.inr (fun z => bI_z h154 (by rw [Int32.toInt_toInt64, Int32.toInt_toInt64, Int32.toInt_toInt64]; exact z)))] <;> rfl)
    have hL : ∀ (n j : Nat) (w : Int32) (o3 : Option Value), j + n = T → E = dgN (σ.2 14) n j → V = dvM (σ.2 14) n j w → vJ X 0 0 (wM g b (su (su (su (mHere σ).2 19 (nI q)) 18 w) 17 (nI j))) 42 [some (.ref (b 0)), some (.int u), some (.int v), o3] [] := by
      intro n
      induction n with
      | zero =>
        intro j w o3 hj hE2 hV2
        have hE2 : E = j := hE2
        have hV2 : V = w := hV2
        subst hE2
        subst hV2
        refine r_aload0 hX dX6_takeNumber_42 ?_
        refine g_wM_0_17 hX dX6_takeNumber_43 ?_
        refine r_aload0 hX dX6_takeNumber_46 ?_
        refine g_wM_0_15 hX dX6_takeNumber_47 ?_
        refine r_ic_ge hX dX6_takeNumber_50 (fun h50 => ?_) (fun h50 => absurd (lpx (e := T) (x := nI E) rfl eT (by omega) (by omega) (by omega)) h50)
        exact hfin _
      | succ n ih =>
        intro j w o3 hj hE2 hV2
        have hcj : (nI j).toNatClampNeg = j := nI_clamp (by omega)
        have hvj : vp_in (nI j) 200 := vp_in_nI (by omega) (by omega)
        refine r_aload0 hX dX6_takeNumber_42 ?_
        refine g_wM_0_17 hX dX6_takeNumber_43 ?_
        refine r_aload0 hX dX6_takeNumber_46 ?_
        refine g_wM_0_15 hX dX6_takeNumber_47 ?_
        refine r_ic_ge hX dX6_takeNumber_50 (fun h50 => absurd h50 (lpn (e := T) (x := nI j) rfl eT (by omega) (by omega))) (fun h50 => ?_)
        refine r_aload0 hX dX6_takeNumber_53 ?_
        refine g_wM_0_14 hX dX6_takeNumber_54 ?_
        refine r_aload0 hX dX6_takeNumber_57 ?_
        refine g_wM_0_17 hX dX6_takeNumber_58 ?_
        refine l_wM_7 hX dX6_takeNumber_61 hvj ?_
        refine r_i2l hX dX6_takeNumber_62 ?_
        refine r_pushl hX dX6_takeNumber_63 ?_
        refine r_pushl hX dX6_takeNumber_66 ?_
        refine r_nS3i hX dX6_takeNumber_69 kX6_in (c_X6_in l g _ _ _) (by decide) (Nat.le_of_ble_eq_true rfl) ?_
        refine r_if_eq hX dX6_takeNumber_72 (fun h72 => ?_) (fun h72 => ?_)
        · rw [dgN, if_neg (show ¬ isDg (σ.2 14 j) from fun z => bI_z h72 (by rw [Int32.toInt_toInt64]; rw [← hcj] at z; exact z))] at hE2
          rw [dvM, if_neg (show ¬ isDg (σ.2 14 j) from fun z => bI_z h72 (by rw [Int32.toInt_toInt64]; rw [← hcj] at z; exact z))] at hV2
          subst hE2
          subst hV2
          exact hfin _
        · refine r_aload0 hX dX6_takeNumber_75 ?_
          refine r_aload0 hX dX6_takeNumber_76 ?_
          refine g_wM_0_18 hX dX6_takeNumber_77 ?_
          refine r_push hX dX6_takeNumber_80 ?_
          refine r_ic_le hX dX6_takeNumber_83 (fun h83 => ?_) (fun h83 => ?_)
          · refine r_push hX dX6_takeNumber_93 ?_
            refine r_aload0 hX dX6_takeNumber_95 ?_
            refine g_wM_0_18 hX dX6_takeNumber_96 ?_
            refine r_imul hX dX6_takeNumber_99 ?_
            refine r_aload0 hX dX6_takeNumber_100 ?_
            refine g_wM_0_14 hX dX6_takeNumber_101 ?_
            refine r_aload0 hX dX6_takeNumber_104 ?_
            refine g_wM_0_17 hX dX6_takeNumber_105 ?_
            refine l_wM_7 hX dX6_takeNumber_108 hvj ?_
            refine r_iadd hX dX6_takeNumber_109 ?_
            refine r_push hX dX6_takeNumber_110 ?_
            refine r_isub hX dX6_takeNumber_112 ?_
            refine p_wM_0_18 hX dX6_takeNumber_113 ?_
            refine r_aload0 hX dX6_takeNumber_116 ?_
            refine r_dup hX dX6_takeNumber_117 rfl ?_
            refine g_wM_0_17 hX dX6_takeNumber_118 ?_
            refine r_push hX dX6_takeNumber_121 ?_
            refine r_iadd hX dX6_takeNumber_122 ?_
            refine p_wM_0_17 hX dX6_takeNumber_123 ?_
            refine r_goto hX dX6_takeNumber_126 ?_
            refine vJw (w' := wM g b (su (su (su (mHere σ).2 19 (nI q)) 18 (10 * w + σ.2 14 (nI j).toNatClampNeg - 48)) 17 (nI j + 1))) rfl ?_
            rw [hcj, ← d10F_eq, nI_1]
            exact ih (j + 1) _ _ (by omega) (by rw [hE2, dgN, if_pos (show isDg (σ.2 14 j) by have q2 := bI_nz h72; rw [Int32.toInt_toInt64] at q2; rw [← hcj]; exact q2)]) (by rw [hV2, dvM, if_pos (show isDg (σ.2 14 j) by have q2 := bI_nz h72; rw [Int32.toInt_toInt64] at q2; rw [← hcj]; exact q2), if_pos (show w ≤ 10000 from h83)])
          · refine r_aload0 hX dX6_takeNumber_86 ?_
            refine g_wM_0_18 hX dX6_takeNumber_87 ?_
            refine r_goto hX dX6_takeNumber_90 ?_
            refine p_wM_0_18 hX dX6_takeNumber_113 ?_
            refine r_aload0 hX dX6_takeNumber_116 ?_
            refine r_dup hX dX6_takeNumber_117 rfl ?_
            refine g_wM_0_17 hX dX6_takeNumber_118 ?_
            refine r_push hX dX6_takeNumber_121 ?_
            refine r_iadd hX dX6_takeNumber_122 ?_
            refine p_wM_0_17 hX dX6_takeNumber_123 ?_
            refine r_goto hX dX6_takeNumber_126 ?_
            refine vJw (w' := wM g b (su (su (su (mHere σ).2 19 (nI q)) 18 w) 17 (nI j + 1))) rfl ?_
            rw [nI_1]
            exact ih (j + 1) _ _ (by omega) (by rw [hE2, dgN, if_pos (show isDg (σ.2 14 j) by have q2 := bI_nz h72; rw [Int32.toInt_toInt64] at q2; rw [← hcj]; exact q2)]) (by rw [hV2, dvM, if_pos (show isDg (σ.2 14 j) by have q2 := bI_nz h72; rw [Int32.toInt_toInt64] at q2; rw [← hcj]; exact q2), if_neg (show ¬ w ≤ 10000 from h83)])
    refine r_aload0 hX dX6_takeNumber_0 ?_
    refine r_aV0i hX dX6_takeNumber_1 kX6_here (c_X6_here l g _ _ hp) ad_wM rfl (by decide) (Nat.le_of_ble_eq_true rfl) ?_
    refine r_istore3 hX dX6_takeNumber_4 rfl ?_
    refine r_iload3 hX dX6_takeNumber_5 ?_
    refine r_i2l hX dX6_takeNumber_6 ?_
    refine r_pushl hX dX6_takeNumber_7 ?_
    refine r_pushl hX dX6_takeNumber_10 ?_
    refine r_nS3i hX dX6_takeNumber_13 kX6_in (c_X6_in l g _ _ _) (by decide) (Nat.le_of_ble_eq_true rfl) ?_
    refine r_if_ne hX dX6_takeNumber_16 (fun h16 => ?_) (fun h16 => absurd h16 (by rw [bI_t (p := inB (mHere σ).1.toInt64.toInt (48 : Int64).toInt (57 : Int64).toInt) (by rw [Int32.toInt_toInt64]; exact hd)]; decide))
    refine r_aload0 hX dX6_takeNumber_29 ?_
    refine r_aload0 hX dX6_takeNumber_30 ?_
    refine g_wM_0_17 hX dX6_takeNumber_31 ?_
    refine p_wM_0_19 hX dX6_takeNumber_34 ?_
    refine r_aload0 hX dX6_takeNumber_37 ?_
    refine r_push hX dX6_takeNumber_38 ?_
    refine p_wM_0_18 hX dX6_takeNumber_39 ?_
    refine vJw (w' := wM g b (su (su (su (mHere σ).2 19 ((mHere σ).2.1 17)) 18 0) 17 ((mHere σ).2.1 17))) rfl ?_
    rw [eq]
    exact hL (T - q) q 0 _ (by omega) hE.symm hV.symm
  · rw [if_neg hd] at hQ
    refine r_aload0 hX dX6_takeNumber_0 ?_
    refine r_aV0i hX dX6_takeNumber_1 kX6_here (c_X6_here l g _ _ hp) ad_wM rfl (by decide) (Nat.le_of_ble_eq_true rfl) ?_
    refine r_istore3 hX dX6_takeNumber_4 rfl ?_
    refine r_iload3 hX dX6_takeNumber_5 ?_
    refine r_i2l hX dX6_takeNumber_6 ?_
    refine r_pushl hX dX6_takeNumber_7 ?_
    refine r_pushl hX dX6_takeNumber_10 ?_
    refine r_nS3i hX dX6_takeNumber_13 kX6_in (c_X6_in l g _ _ _) (by decide) (Nat.le_of_ble_eq_true rfl) ?_
    refine r_if_ne hX dX6_takeNumber_16 (fun h16 => absurd (bI_nz h16) (by rw [Int32.toInt_toInt64]; exact hd)) (fun h16 => ?_)
    refine r_aload0 hX dX6_takeNumber_19 ?_
    refine r_push hX dX6_takeNumber_20 ?_
    refine r_aload0 hX dX6_takeNumber_21 ?_
    refine g_wM_0_17 hX dX6_takeNumber_22 ?_
    refine r_aV2i hX dX6_takeNumber_25 kX6_fails (c_X6_fails l g _ _ _ _) ad_wM rfl (by decide) (Nat.le_of_ble_eq_true rfl) ?_
    exact r_iret hX hQ dX6_takeNumber_28 (rfl) (by rw [eq])
set_option maxHeartbeats 400000 in
theorem c_X6_into22 (l : Launch) (g : GT) (b : Nat → Nat) (σ : S2) (k u v : Int32) (hp : PI σ) (hk : vp_in k 4) : Cx l g yX6_into cX6_into 6 (some .int) (k2_rm 2 60) [.ref (b 0), .ref (b 8), .int k, .int u, .int v] (wM g b σ) (some (.int (mInto 22 k u v σ).1)) (wM g b (mInto 22 k u v σ).2) := by
  refine meth (own := "ChalkedDoorsModel") (by decide) rfl (Nat.le_of_ble_eq_true rfl) [some (.ref (b 0)), some (.ref (b 8)), some (.int k), some (.int u), some (.int v), none] rfl (fun X hX hQ => ?_)
  refine r_aload0 hX dX6_into_0 ?_
  refine r_iload3 hX dX6_into_1 ?_
  refine r_iload4 hX dX6_into_2 ?_
  refine r_aV2i hX dX6_into_4 kX6_takeNumber (c_X6_takeNumber l g _ _ _ _ hp) ad_wM rfl (by decide) (Nat.le_of_ble_eq_true rfl) ?_
  refine r_istore5 hX dX6_into_7 rfl ?_
  refine r_aload1 hX dX6_into_9 ?_
  refine r_iload2 hX dX6_into_10 ?_
  refine r_aload0 hX dX6_into_11 ?_
  refine g_wM_0_18 hX dX6_into_12 ?_
  refine s_wM_8 hX dX6_into_15 hk ?_
  refine r_iload5 hX dX6_into_16 ?_
  exact r_iret hX hQ dX6_into_18 (rfl) (rfl)
set_option maxHeartbeats 400000 in
theorem c_X6_into23 (l : Launch) (g : GT) (b : Nat → Nat) (σ : S2) (k u v : Int32) (hp : PI σ) (hk : vp_in k 4) : Cx l g yX6_into cX6_into 6 (some .int) (k2_rm 2 60) [.ref (b 0), .ref (b 9), .int k, .int u, .int v] (wM g b σ) (some (.int (mInto 23 k u v σ).1)) (wM g b (mInto 23 k u v σ).2) := by
  refine meth (own := "ChalkedDoorsModel") (by decide) rfl (Nat.le_of_ble_eq_true rfl) [some (.ref (b 0)), some (.ref (b 9)), some (.int k), some (.int u), some (.int v), none] rfl (fun X hX hQ => ?_)
  refine r_aload0 hX dX6_into_0 ?_
  refine r_iload3 hX dX6_into_1 ?_
  refine r_iload4 hX dX6_into_2 ?_
  refine r_aV2i hX dX6_into_4 kX6_takeNumber (c_X6_takeNumber l g _ _ _ _ hp) ad_wM rfl (by decide) (Nat.le_of_ble_eq_true rfl) ?_
  refine r_istore5 hX dX6_into_7 rfl ?_
  refine r_aload1 hX dX6_into_9 ?_
  refine r_iload2 hX dX6_into_10 ?_
  refine r_aload0 hX dX6_into_11 ?_
  refine g_wM_0_18 hX dX6_into_12 ?_
  refine s_wM_9 hX dX6_into_15 hk ?_
  refine r_iload5 hX dX6_into_16 ?_
  exact r_iret hX hQ dX6_into_18 (rfl) (rfl)
set_option maxHeartbeats 400000 in
theorem c_X6_into24 (l : Launch) (g : GT) (b : Nat → Nat) (σ : S2) (k u v : Int32) (hp : PI σ) (hk : vp_in k 4) : Cx l g yX6_into cX6_into 6 (some .int) (k2_rm 2 60) [.ref (b 0), .ref (b 10), .int k, .int u, .int v] (wM g b σ) (some (.int (mInto 24 k u v σ).1)) (wM g b (mInto 24 k u v σ).2) := by
  refine meth (own := "ChalkedDoorsModel") (by decide) rfl (Nat.le_of_ble_eq_true rfl) [some (.ref (b 0)), some (.ref (b 10)), some (.int k), some (.int u), some (.int v), none] rfl (fun X hX hQ => ?_)
  refine r_aload0 hX dX6_into_0 ?_
  refine r_iload3 hX dX6_into_1 ?_
  refine r_iload4 hX dX6_into_2 ?_
  refine r_aV2i hX dX6_into_4 kX6_takeNumber (c_X6_takeNumber l g _ _ _ _ hp) ad_wM rfl (by decide) (Nat.le_of_ble_eq_true rfl) ?_
  refine r_istore5 hX dX6_into_7 rfl ?_
  refine r_aload1 hX dX6_into_9 ?_
  refine r_iload2 hX dX6_into_10 ?_
  refine r_aload0 hX dX6_into_11 ?_
  refine g_wM_0_18 hX dX6_into_12 ?_
  refine s_wM_10 hX dX6_into_15 hk ?_
  refine r_iload5 hX dX6_into_16 ?_
  exact r_iret hX hQ dX6_into_18 (rfl) (rfl)
set_option maxHeartbeats 400000 in
theorem c_X6_into25 (l : Launch) (g : GT) (b : Nat → Nat) (σ : S2) (k u v : Int32) (hp : PI σ) (hk : vp_in k 4) : Cx l g yX6_into cX6_into 6 (some .int) (k2_rm 2 60) [.ref (b 0), .ref (b 11), .int k, .int u, .int v] (wM g b σ) (some (.int (mInto 25 k u v σ).1)) (wM g b (mInto 25 k u v σ).2) := by
  refine meth (own := "ChalkedDoorsModel") (by decide) rfl (Nat.le_of_ble_eq_true rfl) [some (.ref (b 0)), some (.ref (b 11)), some (.int k), some (.int u), some (.int v), none] rfl (fun X hX hQ => ?_)
  refine r_aload0 hX dX6_into_0 ?_
  refine r_iload3 hX dX6_into_1 ?_
  refine r_iload4 hX dX6_into_2 ?_
  refine r_aV2i hX dX6_into_4 kX6_takeNumber (c_X6_takeNumber l g _ _ _ _ hp) ad_wM rfl (by decide) (Nat.le_of_ble_eq_true rfl) ?_
  refine r_istore5 hX dX6_into_7 rfl ?_
  refine r_aload1 hX dX6_into_9 ?_
  refine r_iload2 hX dX6_into_10 ?_
  refine r_aload0 hX dX6_into_11 ?_
  refine g_wM_0_18 hX dX6_into_12 ?_
  refine s_wM_11 hX dX6_into_15 hk ?_
  refine r_iload5 hX dX6_into_16 ?_
  exact r_iret hX hQ dX6_into_18 (rfl) (rfl)
set_option maxHeartbeats 400000 in
theorem c_X6_into27 (l : Launch) (g : GT) (b : Nat → Nat) (σ : S2) (k u v : Int32) (hp : PI σ) (hk : vp_in k 14) : Cx l g yX6_into cX6_into 6 (some .int) (k2_rm 2 60) [.ref (b 0), .ref (b 12), .int k, .int u, .int v] (wM g b σ) (some (.int (mInto 27 k u v σ).1)) (wM g b (mInto 27 k u v σ).2) := by
  refine meth (own := "ChalkedDoorsModel") (by decide) rfl (Nat.le_of_ble_eq_true rfl) [some (.ref (b 0)), some (.ref (b 12)), some (.int k), some (.int u), some (.int v), none] rfl (fun X hX hQ => ?_)
  refine r_aload0 hX dX6_into_0 ?_
  refine r_iload3 hX dX6_into_1 ?_
  refine r_iload4 hX dX6_into_2 ?_
  refine r_aV2i hX dX6_into_4 kX6_takeNumber (c_X6_takeNumber l g _ _ _ _ hp) ad_wM rfl (by decide) (Nat.le_of_ble_eq_true rfl) ?_
  refine r_istore5 hX dX6_into_7 rfl ?_
  refine r_aload1 hX dX6_into_9 ?_
  refine r_iload2 hX dX6_into_10 ?_
  refine r_aload0 hX dX6_into_11 ?_
  refine g_wM_0_18 hX dX6_into_12 ?_
  refine s_wM_12 hX dX6_into_15 hk ?_
  refine r_iload5 hX dX6_into_16 ?_
  exact r_iret hX hQ dX6_into_18 (rfl) (rfl)
set_option maxHeartbeats 400000 in
theorem c_X6_into29 (l : Launch) (g : GT) (b : Nat → Nat) (σ : S2) (k u v : Int32) (hp : PI σ) (hk : vp_in k 1) : Cx l g yX6_into cX6_into 6 (some .int) (k2_rm 2 60) [.ref (b 0), .ref (b 13), .int k, .int u, .int v] (wM g b σ) (some (.int (mInto 29 k u v σ).1)) (wM g b (mInto 29 k u v σ).2) := by
  refine meth (own := "ChalkedDoorsModel") (by decide) rfl (Nat.le_of_ble_eq_true rfl) [some (.ref (b 0)), some (.ref (b 13)), some (.int k), some (.int u), some (.int v), none] rfl (fun X hX hQ => ?_)
  refine r_aload0 hX dX6_into_0 ?_
  refine r_iload3 hX dX6_into_1 ?_
  refine r_iload4 hX dX6_into_2 ?_
  refine r_aV2i hX dX6_into_4 kX6_takeNumber (c_X6_takeNumber l g _ _ _ _ hp) ad_wM rfl (by decide) (Nat.le_of_ble_eq_true rfl) ?_
  refine r_istore5 hX dX6_into_7 rfl ?_
  refine r_aload1 hX dX6_into_9 ?_
  refine r_iload2 hX dX6_into_10 ?_
  refine r_aload0 hX dX6_into_11 ?_
  refine g_wM_0_18 hX dX6_into_12 ?_
  refine s_wM_13 hX dX6_into_15 hk ?_
  refine r_iload5 hX dX6_into_16 ?_
  exact r_iret hX hQ dX6_into_18 (rfl) (rfl)
set_option maxHeartbeats 400000 in
theorem c_X6_into30 (l : Launch) (g : GT) (b : Nat → Nat) (σ : S2) (k u v : Int32) (hp : PI σ) (hk : vp_in k 2) : Cx l g yX6_into cX6_into 6 (some .int) (k2_rm 2 60) [.ref (b 0), .ref (b 14), .int k, .int u, .int v] (wM g b σ) (some (.int (mInto 30 k u v σ).1)) (wM g b (mInto 30 k u v σ).2) := by
  refine meth (own := "ChalkedDoorsModel") (by decide) rfl (Nat.le_of_ble_eq_true rfl) [some (.ref (b 0)), some (.ref (b 14)), some (.int k), some (.int u), some (.int v), none] rfl (fun X hX hQ => ?_)
  refine r_aload0 hX dX6_into_0 ?_
  refine r_iload3 hX dX6_into_1 ?_
  refine r_iload4 hX dX6_into_2 ?_
  refine r_aV2i hX dX6_into_4 kX6_takeNumber (c_X6_takeNumber l g _ _ _ _ hp) ad_wM rfl (by decide) (Nat.le_of_ble_eq_true rfl) ?_
  refine r_istore5 hX dX6_into_7 rfl ?_
  refine r_aload1 hX dX6_into_9 ?_
  refine r_iload2 hX dX6_into_10 ?_
  refine r_aload0 hX dX6_into_11 ?_
  refine g_wM_0_18 hX dX6_into_12 ?_
  refine s_wM_14 hX dX6_into_15 hk ?_
  refine r_iload5 hX dX6_into_16 ?_
  exact r_iret hX hQ dX6_into_18 (rfl) (rfl)
set_option maxHeartbeats 400000 in
theorem c_X6_takeStreet (l : Launch) (g : GT) (b : Nat → Nat) (σ : S2)  (hp : PI σ) : Cx l g yX6_takeStreet cX6_takeStreet 2 (some .int) (k2_rm 2 60) [.ref (b 0)] (wM g b σ) (some (.int (mStr σ).1)) (wM g b (mStr σ).2) := by
  refine meth (own := "ChalkedDoorsModel") (by decide) rfl (Nat.le_of_ble_eq_true rfl) [some (.ref (b 0)), none] rfl (fun X hX hQ => ?_)
  refine r_aload0 hX dX6_takeStreet_0 ?_
  refine r_push hX dX6_takeStreet_1 ?_
  refine r_push hX dX6_takeStreet_2 ?_
  refine r_aV2i hX dX6_takeStreet_4 kX6_takeNumber (c_X6_takeNumber l g _ _ _ _ hp) ad_wM rfl (by decide) (Nat.le_of_ble_eq_true rfl) ?_
  refine r_istore1 hX dX6_takeStreet_7 rfl ?_
  refine r_aload0 hX dX6_takeStreet_8 ?_
  refine r_aload0 hX dX6_takeStreet_9 ?_
  refine g_wM_0_18 hX dX6_takeStreet_10 ?_
  refine p_wM_0_20 hX dX6_takeStreet_13 ?_
  refine r_iload1 hX dX6_takeStreet_16 ?_
  exact r_iret hX hQ dX6_takeStreet_17 (rfl) (rfl)
