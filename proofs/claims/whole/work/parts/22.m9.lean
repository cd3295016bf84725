theorem g_wM_0_37 {X : CT} {l : Launch} {g : GT} {own : String} {cc : ByteArray} {R : Room} {cs sl pc nx : Nat} {lv : List (Option Value)} {st : List Value} {b : Nat → Nat} {σ : S2} (hX : oK X l g own cc R) (hd : dGf own cc pc 6 37 nx) (k : vJ X cs sl (wM g b σ) nx lv (.ref (b 16) :: st)) : vJ X cs sl (wM g b σ) pc lv (.ref (b 0) :: st) := r_get hX hd 0 rfl rfl k
theorem s_wM_16 {X : CT} {l : Launch} {g : GT} {own : String} {cc : ByteArray} {R : Room} {cs sl pc nx : Nat} {lv : List (Option Value)} {st : List Value} {b : Nat → Nat} {σ : S2} {i v : Int32} (hX : oK X l g own cc R) (hd : dR cc pc (.iastore) 1 nx) (hi : vp_in i 10) (k : vJ X cs sl (wM g b (au σ 37 i.toNatClampNeg v)) nx lv st) : vJ X cs sl (wM g b σ) pc lv (.int v :: .int i :: .ref (b 16) :: st) := r_iast hX hd 16 rfl hi _ rfl k
theorem g_wM_0_38 {X : CT} {l : Launch} {g : GT} {own : String} {cc : ByteArray} {R : Room} {cs sl pc nx : Nat} {lv : List (Option Value)} {st : List Value} {b : Nat → Nat} {σ : S2} (hX : oK X l g own cc R) (hd : dGf own cc pc 6 38 nx) (k : vJ X cs sl (wM g b σ) nx lv (.ref (b 17) :: st)) : vJ X cs sl (wM g b σ) pc lv (.ref (b 0) :: st) := r_get hX hd 0 rfl rfl k
theorem s_wM_17 {X : CT} {l : Launch} {g : GT} {own : String} {cc : ByteArray} {R : Room} {cs sl pc nx : Nat} {lv : List (Option Value)} {st : List Value} {b : Nat → Nat} {σ : S2} {i v : Int32} (hX : oK X l g own cc R) (hd : dR cc pc (.iastore) 1 nx) (hi : vp_in i 10) (k : vJ X cs sl (wM g b (au σ 38 i.toNatClampNeg v)) nx lv st) : vJ X cs sl (wM g b σ) pc lv (.int v :: .int i :: .ref (b 17) :: st) := r_iast hX hd 17 rfl hi _ rfl k
theorem g_wM_0_39 {X : CT} {l : Launch} {g : GT} {own : String} {cc : ByteArray} {R : Room} {cs sl pc nx : Nat} {lv : List (Option Value)} {st : List Value} {b : Nat → Nat} {σ : S2} (hX : oK X l g own cc R) (hd : dGf own cc pc 6 39 nx) (k : vJ X cs sl (wM g b σ) nx lv (.ref (b 18) :: st)) : vJ X cs sl (wM g b σ) pc lv (.ref (b 0) :: st) := r_get hX hd 0 rfl rfl k
theorem s_wM_18 {X : CT} {l : Launch} {g : GT} {own : String} {cc : ByteArray} {R : Room} {cs sl pc nx : Nat} {lv : List (Option Value)} {st : List Value} {b : Nat → Nat} {σ : S2} {i v : Int32} (hX : oK X l g own cc R) (hd : dR cc pc (.bastore) 1 nx) (hi : vp_in i 10) (k : vJ X cs sl (wM g b (au σ 39 i.toNatClampNeg (vp_nar .boolean v))) nx lv st) : vJ X cs sl (wM g b σ) pc lv (.int v :: .int i :: .ref (b 18) :: st) := r_zast hX hd 18 rfl hi _ rfl k
theorem p_wM_0_36 {X : CT} {l : Launch} {g : GT} {own : String} {cc : ByteArray} {R : Room} {cs sl pc nx : Nat} {lv : List (Option Value)} {st : List Value} {b : Nat → Nat} {σ : S2} {v : Int32} (hX : oK X l g own cc R) (hd : dPf own cc pc 6 36 .int nx) (k : vJ X cs sl (wM g b (su σ 36 v)) nx lv st) : vJ X cs sl (wM g b σ) pc lv (.int v :: .ref (b 0) :: st) := r_put hX hd 0 rfl rfl rfl (Nat.le_of_ble_eq_true rfl) _ rfl k
theorem g_wM_0_41 {X : CT} {l : Launch} {g : GT} {own : String} {cc : ByteArray} {R : Room} {cs sl pc nx : Nat} {lv : List (Option Value)} {st : List Value} {b : Nat → Nat} {σ : S2} (hX : oK X l g own cc R) (hd : dGf own cc pc 6 41 nx) (k : vJ X cs sl (wM g b σ) nx lv (.ref (b 19) :: st)) : vJ X cs sl (wM g b σ) pc lv (.ref (b 0) :: st) := r_get hX hd 0 rfl rfl k
theorem s_wM_19 {X : CT} {l : Launch} {g : GT} {own : String} {cc : ByteArray} {R : Room} {cs sl pc nx : Nat} {lv : List (Option Value)} {st : List Value} {b : Nat → Nat} {σ : S2} {i v : Int32} (hX : oK X l g own cc R) (hd : dR cc pc (.iastore) 1 nx) (hi : vp_in i 15) (k : vJ X cs sl (wM g b (au σ 41 i.toNatClampNeg v)) nx lv st) : vJ X cs sl (wM g b σ) pc lv (.int v :: .int i :: .ref (b 19) :: st) := r_iast hX hd 19 rfl hi _ rfl k
theorem g_wM_0_42 {X : CT} {l : Launch} {g : GT} {own : String} {cc : ByteArray} {R : Room} {cs sl pc nx : Nat} {lv : List (Option Value)} {st : List Value} {b : Nat → Nat} {σ : S2} (hX : oK X l g own cc R) (hd : dGf own cc pc 6 42 nx) (k : vJ X cs sl (wM g b σ) nx lv (.ref (b 20) :: st)) : vJ X cs sl (wM g b σ) pc lv (.ref (b 0) :: st) := r_get hX hd 0 rfl rfl k
theorem s_wM_20 {X : CT} {l : Launch} {g : GT} {own : String} {cc : ByteArray} {R : Room} {cs sl pc nx : Nat} {lv : List (Option Value)} {st : List Value} {b : Nat → Nat} {σ : S2} {i v : Int32} (hX : oK X l g own cc R) (hd : dR cc pc (.iastore) 1 nx) (hi : vp_in i 15) (k : vJ X cs sl (wM g b (au σ 42 i.toNatClampNeg v)) nx lv st) : vJ X cs sl (wM g b σ) pc lv (.int v :: .int i :: .ref (b 20) :: st) := r_iast hX hd 20 rfl hi _ rfl k
theorem p_wM_0_40 {X : CT} {l : Launch} {g : GT} {own : String} {cc : ByteArray} {R : Room} {cs sl pc nx : Nat} {lv : List (Option Value)} {st : List Value} {b : Nat → Nat} {σ : S2} {v : Int32} (hX : oK X l g own cc R) (hd : dPf own cc pc 6 40 .int nx) (k : vJ X cs sl (wM g b (su σ 40 v)) nx lv st) : vJ X cs sl (wM g b σ) pc lv (.int v :: .ref (b 0) :: st) := r_put hX hd 0 rfl rfl rfl (Nat.le_of_ble_eq_true rfl) _ rfl k
theorem l_wM_16 {X : CT} {l : Launch} {g : GT} {own : String} {cc : ByteArray} {R : Room} {cs sl pc nx : Nat} {lv : List (Option Value)} {st : List Value} {b : Nat → Nat} {σ : S2} {i : Int32} (hX : oK X l g own cc R) (hd : dR cc pc (.iaload) 1 nx) (hi : vp_in i 10) (k : vJ X cs sl (wM g b σ) nx lv (.int (σ.2 37 i.toNatClampNeg) :: st)) : vJ X cs sl (wM g b σ) pc lv (.int i :: .ref (b 16) :: st) := r_iald hX hd 16 rfl hi k
theorem l_wM_17 {X : CT} {l : Launch} {g : GT} {own : String} {cc : ByteArray} {R : Room} {cs sl pc nx : Nat} {lv : List (Option Value)} {st : List Value} {b : Nat → Nat} {σ : S2} {i : Int32} (hX : oK X l g own cc R) (hd : dR cc pc (.iaload) 1 nx) (hi : vp_in i 10) (k : vJ X cs sl (wM g b σ) nx lv (.int (σ.2 38 i.toNatClampNeg) :: st)) : vJ X cs sl (wM g b σ) pc lv (.int i :: .ref (b 17) :: st) := r_iald hX hd 17 rfl hi k
theorem l_wM_18 {X : CT} {l : Launch} {g : GT} {own : String} {cc : ByteArray} {R : Room} {cs sl pc nx : Nat} {lv : List (Option Value)} {st : List Value} {b : Nat → Nat} {σ : S2} {i : Int32} (hX : oK X l g own cc R) (hd : dR cc pc (.baload) 1 nx) (hi : vp_in i 10) (k : vJ X cs sl (wM g b σ) nx lv (.int (σ.2 39 i.toNatClampNeg) :: st)) : vJ X cs sl (wM g b σ) pc lv (.int i :: .ref (b 18) :: st) := r_zald hX hd 18 rfl hi k
theorem l_wM_19 {X : CT} {l : Launch} {g : GT} {own : String} {cc : ByteArray} {R : Room} {cs sl pc nx : Nat} {lv : List (Option Value)} {st : List Value} {b : Nat → Nat} {σ : S2} {i : Int32} (hX : oK X l g own cc R) (hd : dR cc pc (.iaload) 1 nx) (hi : vp_in i 15) (k : vJ X cs sl (wM g b σ) nx lv (.int (σ.2 41 i.toNatClampNeg) :: st)) : vJ X cs sl (wM g b σ) pc lv (.int i :: .ref (b 19) :: st) := r_iald hX hd 19 rfl hi k
theorem l_wM_20 {X : CT} {l : Launch} {g : GT} {own : String} {cc : ByteArray} {R : Room} {cs sl pc nx : Nat} {lv : List (Option Value)} {st : List Value} {b : Nat → Nat} {σ : S2} {i : Int32} (hX : oK X l g own cc R) (hd : dR cc pc (.iaload) 1 nx) (hi : vp_in i 15) (k : vJ X cs sl (wM g b σ) nx lv (.int (σ.2 42 i.toNatClampNeg) :: st)) : vJ X cs sl (wM g b σ) pc lv (.int i :: .ref (b 20) :: st) := r_iald hX hd 20 rfl hi k
theorem g_wM_0_43 {X : CT} {l : Launch} {g : GT} {own : String} {cc : ByteArray} {R : Room} {cs sl pc nx : Nat} {lv : List (Option Value)} {st : List Value} {b : Nat → Nat} {σ : S2} (hX : oK X l g own cc R) (hd : dGf own cc pc 6 43 nx) (k : vJ X cs sl (wM g b σ) nx lv (.ref (b 21) :: st)) : vJ X cs sl (wM g b σ) pc lv (.ref (b 0) :: st) := r_get hX hd 0 rfl rfl k
theorem s_wM_21 {X : CT} {l : Launch} {g : GT} {own : String} {cc : ByteArray} {R : Room} {cs sl pc nx : Nat} {lv : List (Option Value)} {st : List Value} {b : Nat → Nat} {σ : S2} {i v : Int32} (hX : oK X l g own cc R) (hd : dR cc pc (.iastore) 1 nx) (hi : vp_in i 64) (k : vJ X cs sl (wM g b (au σ 43 i.toNatClampNeg v)) nx lv st) : vJ X cs sl (wM g b σ) pc lv (.int v :: .int i :: .ref (b 21) :: st) := r_iast hX hd 21 rfl hi _ rfl k
theorem g_wM_0_44 {X : CT} {l : Launch} {g : GT} {own : String} {cc : ByteArray} {R : Room} {cs sl pc nx : Nat} {lv : List (Option Value)} {st : List Value} {b : Nat → Nat} {σ : S2} (hX : oK X l g own cc R) (hd : dGf own cc pc 6 44 nx) (k : vJ X cs sl (wM g b σ) nx lv (.ref (b 22) :: st)) : vJ X cs sl (wM g b σ) pc lv (.ref (b 0) :: st) := r_get hX hd 0 rfl rfl k
theorem s_wM_22 {X : CT} {l : Launch} {g : GT} {own : String} {cc : ByteArray} {R : Room} {cs sl pc nx : Nat} {lv : List (Option Value)} {st : List Value} {b : Nat → Nat} {σ : S2} {i v : Int32} (hX : oK X l g own cc R) (hd : dR cc pc (.bastore) 1 nx) (hi : vp_in i 2) (k : vJ X cs sl (wM g b (au σ 44 i.toNatClampNeg (vp_nar .boolean v))) nx lv st) : vJ X cs sl (wM g b σ) pc lv (.int v :: .int i :: .ref (b 22) :: st) := r_zast hX hd 22 rfl hi _ rfl k
theorem l_wM_21 {X : CT} {l : Launch} {g : GT} {own : String} {cc : ByteArray} {R : Room} {cs sl pc nx : Nat} {lv : List (Option Value)} {st : List Value} {b : Nat → Nat} {σ : S2} {i : Int32} (hX : oK X l g own cc R) (hd : dR cc pc (.iaload) 1 nx) (hi : vp_in i 64) (k : vJ X cs sl (wM g b σ) nx lv (.int (σ.2 43 i.toNatClampNeg) :: st)) : vJ X cs sl (wM g b σ) pc lv (.int i :: .ref (b 21) :: st) := r_iald hX hd 21 rfl hi k
theorem l_wM_22 {X : CT} {l : Launch} {g : GT} {own : String} {cc : ByteArray} {R : Room} {cs sl pc nx : Nat} {lv : List (Option Value)} {st : List Value} {b : Nat → Nat} {σ : S2} {i : Int32} (hX : oK X l g own cc R) (hd : dR cc pc (.baload) 1 nx) (hi : vp_in i 2) (k : vJ X cs sl (wM g b σ) nx lv (.int (σ.2 44 i.toNatClampNeg) :: st)) : vJ X cs sl (wM g b σ) pc lv (.int i :: .ref (b 22) :: st) := r_zald hX hd 22 rfl hi k
set_option maxHeartbeats 400000 in
theorem c_X6_forged (l : Launch) (g : GT) (b : Nat → Nat) (σ : S2) (u v : Int32) (D : Nat) (hD : D ≤ 14) (eD : σ.1 0 = nI D) : Cx l g yX6_forged cX6_forged 5 (some .int) (k2_rm 1 30) [.ref (b 0), .int u, .int v] (wM g b σ) (some (.int (forgF D (σ.2 9) u v))) (wM g b σ) := by
  refine meth (own := "ChalkedDoorsModel") (by decide) rfl (Nat.le_of_ble_eq_true rfl) [some (.ref (b 0)), some (.int u), some (.int v), none, none] rfl (fun X hX hQ => ?_)
  unfold forgF at hQ
  generalize hsp : lp (forgC (σ.2 9) u v) D 0 0 = S at hQ
  have hL32 : ∀ (n i : Nat) (x : Int32) (r : Int32), x = nI i → i + n = D → inB u.toInt 0 15 ∧ inB v.toInt 0 15 → S = lp (forgC (σ.2 9) u v) n i r → vJ X 0 0 (wM g b σ) 32 [some (.ref (b 0)), some (.int u), some (.int v), some (.int r), some (.int x)] [] := by
    intro n
    induction n with
    | zero =>
      intro i x r hx hn hab hs
      refine r_iload4 hX dX6_forged_32 ?_
      refine r_aload0 hX dX6_forged_34 ?_
      refine g_wM_0_0 hX dX6_forged_35 ?_
      refine r_ic_ge hX dX6_forged_38 (fun h38 => ?_) (fun h38 => absurd (lpx (e := D) hx eD (by omega) (by omega) (by omega)) h38)
      refine r_iload3 hX dX6_forged_87 ?_
      exact r_iret hX hQ dX6_forged_88 (by rw [if_pos hab, hs] <;> rfl) (rfl)
    | succ n ih =>
      intro i x r hx hn hab hs
      have hvx : vp_in x 14 := by rw [hx]; exact vp_in_nI (by omega) (by omega)
      have hcx : cl x = i := by rw [hx]; exact nI_clamp (by omega)
      have hcx' : x.toNatClampNeg = i := hcx
      have hx' : x = nI (cl x) := by rw [hcx]; exact hx
      refine r_iload4 hX dX6_forged_32 ?_
      refine r_aload0 hX dX6_forged_34 ?_
      refine g_wM_0_0 hX dX6_forged_35 ?_
      refine r_ic_ge hX dX6_forged_38 (fun h38 => absurd h38 (lpn (e := D) hx eD (by omega) (by omega))) (fun h38 => ?_)
      refine r_iload3 hX dX6_forged_41 ?_
      refine r_aload0 hX dX6_forged_42 ?_
      refine g_wM_0_9 hX dX6_forged_43 ?_
      refine r_iload4 hX dX6_forged_46 ?_
      refine l_wM_5 hX dX6_forged_48 hvx ?_
      refine r_if_eq hX dX6_forged_49 (fun h49 => ?_) (fun h49 => ?_)
      · refine r_push hX dX6_forged_78 ?_
        refine r_ior hX dX6_forged_79 ?_
        refine r_istore3 hX dX6_forged_80 rfl ?_
        refine r_iinc4 hX dX6_forged_81 rfl ?_
        refine r_goto hX dX6_forged_84 ?_
        exact ih (i + 1) _ _ (by rw [hx]; exact nI_1 i) (by omega) hab (by rw [hs]; show lp _ n (i + 1) (forgC _ _ _ i r) = _; unfold forgC; rw [if_pos (Or.inl (by rw [← hcx]; exact h49)), Int32.or_zero])
      · refine r_aload0 hX dX6_forged_52 ?_
        refine g_wM_0_9 hX dX6_forged_53 ?_
        refine r_iload4 hX dX6_forged_56 ?_
        refine l_wM_5 hX dX6_forged_58 hvx ?_
        refine r_iload1 hX dX6_forged_59 ?_
        refine r_iload4 hX dX6_forged_60 ?_
        refine r_imul hX dX6_forged_62 ?_
        refine r_iload2 hX dX6_forged_63 ?_
        refine r_iadd hX dX6_forged_64 ?_
        refine r_push hX dX6_forged_65 ?_
        refine r_irem hX dX6_forged_67 (by decide) ?_
        refine r_ic_eq hX dX6_forged_68 (fun h68 => ?_) (fun h68 => ?_)
        · refine r_push hX dX6_forged_78 ?_
          refine r_ior hX dX6_forged_79 ?_
          refine r_istore3 hX dX6_forged_80 rfl ?_
          refine r_iinc4 hX dX6_forged_81 rfl ?_
          refine r_goto hX dX6_forged_84 ?_
          exact ih (i + 1) _ _ (by rw [hx]; exact nI_1 i) (by omega) hab (by rw [hs]; show lp _ n (i + 1) (forgC _ _ _ i r) = _; unfold forgC; rw [if_pos (Or.inr (by rw [← hcx, ← hx', sgF_eq]; exact h68)), Int32.or_zero])
        · refine r_push hX dX6_forged_71 ?_
          refine r_iload4 hX dX6_forged_72 ?_
          refine r_ishl hX dX6_forged_74 ?_
          refine r_goto hX dX6_forged_75 ?_
          refine r_ior hX dX6_forged_79 ?_
          refine r_istore3 hX dX6_forged_80 rfl ?_
          refine r_iinc4 hX dX6_forged_81 rfl ?_
          refine r_goto hX dX6_forged_84 ?_
          exact ih (i + 1) _ _ (by rw [hx]; exact nI_1 i) (by omega) hab (by rw [hs]; show lp _ n (i + 1) (forgC _ _ _ i r) = _; unfold forgC; rw [if_neg (fun h => h.elim (fun e => h49 (by rw [hcx']; exact e)) (fun e => h68 (by rw [hcx', ← sgF_eq, hx]; exact e))), hx])
  refine r_iload1 hX dX6_forged_0 ?_
  refine r_i2l hX dX6_forged_1 ?_
  refine r_pushl hX dX6_forged_2 ?_
  refine r_pushl hX dX6_forged_3 ?_
  refine r_nS3i hX dX6_forged_6 kX6_in (c_X6_in l g _ _ _) (by decide) (Nat.le_of_ble_eq_true rfl) ?_
  refine r_if_eq hX dX6_forged_9 (fun h9 => ?_) (fun h9 => ?_)
  · refine r_push hX dX6_forged_24 ?_
    exact r_iret hX hQ dX6_forged_26 (by rw [if_neg (fun q => bI_z h9 (by rw [Int32.toInt_toInt64]; exact q.1))]) (rfl)
  · refine r_iload2 hX dX6_forged_12 ?_
    refine r_i2l hX dX6_forged_13 ?_
    refine r_pushl hX dX6_forged_14 ?_
    refine r_pushl hX dX6_forged_15 ?_
    refine r_nS3i hX dX6_forged_18 kX6_in (c_X6_in l g _ _ _) (by decide) (Nat.le_of_ble_eq_true rfl) ?_
    refine r_if_ne hX dX6_forged_21 (fun h21 => ?_) (fun h21 => ?_)
    · refine r_push hX dX6_forged_27 ?_
      refine r_istore3 hX dX6_forged_28 rfl ?_
      refine r_push hX dX6_forged_29 ?_
      refine r_istore4 hX dX6_forged_30 rfl ?_
      exact hL32 D 0 _ _ rfl (by omega) ⟨(show inB u.toInt 0 15 by have q := bI_nz h9; rw [Int32.toInt_toInt64] at q; exact q), (show inB v.toInt 0 15 by have q := bI_nz h21; rw [Int32.toInt_toInt64] at q; exact q)⟩ hsp.symm
    · refine r_push hX dX6_forged_24 ?_
      exact r_iret hX hQ dX6_forged_26 (by rw [if_neg (fun q => bI_z h21 (by rw [Int32.toInt_toInt64]; exact q.2))]) (rfl)
set_option maxHeartbeats 400000 in
theorem c_X6_isKey (l : Launch) (g : GT) (b : Nat → Nat) (σ : S2) (k t : Int32) (D : Nat) (hD : D ≤ 14) (eD : σ.1 0 = nI D) : Cx l g yX6_isKey cX6_isKey 5 (some .boolean) (k2_rm 1 30) [.ref (b 0), .int k, .int t] (wM g b σ) (some (.int (bI (keyP D (σ.2 9) t (kqF k) (krF k))))) (wM g b σ) := by
  refine meth (own := "ChalkedDoorsModel") (by decide) rfl (Nat.le_of_ble_eq_true rfl) [some (.ref (b 0)), some (.int k), some (.int t), none, none] rfl (fun X hX hQ => ?_)
  have hL5 : ∀ (n i : Nat) (x : Int32) (r : Int32), x = nI i → i + n = D → r = bI (keyP i (σ.2 9) t (kqF k) (krF k)) → vJ X 0 0 (wM g b σ) 5 [some (.ref (b 0)), some (.int k), some (.int t), some (.int r), some (.int x)] [] := by
    intro n
    induction n with
    | zero =>
      intro i x r hx hn hs
      refine r_iload4 hX dX6_isKey_5 ?_
      refine r_aload0 hX dX6_isKey_7 ?_
      refine g_wM_0_0 hX dX6_isKey_8 ?_
      refine r_ic_ge hX dX6_isKey_11 (fun h11 => ?_) (fun h11 => absurd (lpx (e := D) hx eD (by omega) (by omega) (by omega)) h11)
      refine r_iload3 hX dX6_isKey_64 ?_
      exact r_zret hX hQ dX6_isKey_65 (by rw [hs]; exact bI_n) (by rw [hs, show i = D by omega]) (rfl)
    | succ n ih =>
      intro i x r hx hn hs
      have hvx : vp_in x 14 := by rw [hx]; exact vp_in_nI (by omega) (by omega)
      have hcx : cl x = i := by rw [hx]; exact nI_clamp (by omega)
      have hcx' : x.toNatClampNeg = i := hcx
      refine r_iload4 hX dX6_isKey_5 ?_
      refine r_aload0 hX dX6_isKey_7 ?_
      refine g_wM_0_0 hX dX6_isKey_8 ?_
      refine r_ic_ge hX dX6_isKey_11 (fun h11 => absurd h11 (lpn (e := D) hx eD (by omega) (by omega))) (fun h11 => ?_)
      refine r_iload3 hX dX6_isKey_14 ?_
      refine r_if_eq hX dX6_isKey_15 (fun h15 => ?_) (fun h15 => ?_)
      · refine r_push hX dX6_isKey_56 ?_
        refine r_istore3 hX dX6_isKey_57 rfl ?_
        refine r_iinc4 hX dX6_isKey_58 rfl ?_
        refine r_goto hX dX6_isKey_61 ?_
        exact ih (i + 1) _ 0 (by rw [hx]; exact nI_1 i) (by omega) (bI_f (fun h => bI_z (hs ▸ h15) (ball_s.mp h).1)).symm
      · refine r_iload2 hX dX6_isKey_18 ?_
        refine r_iload4 hX dX6_isKey_19 ?_
        refine r_nS2i hX dX6_isKey_21 kX6_has (c_X6_has l g _ _) (by decide) (Nat.le_of_ble_eq_true rfl) ?_
        refine r_if_eq hX dX6_isKey_24 (fun h24 => ?_) (fun h24 => ?_)
        · refine r_push hX dX6_isKey_52 ?_
          refine r_goto hX dX6_isKey_53 ?_
          refine r_istore3 hX dX6_isKey_57 rfl ?_
          refine r_iinc4 hX dX6_isKey_58 rfl ?_
          refine r_goto hX dX6_isKey_61 ?_
          exact ih (i + 1) _ 1 (by rw [hx]; exact nI_1 i) (by omega) (bI_t (ball_s.mpr ⟨bI_nz (hs ▸ h15), Or.inl (by rw [← hx]; exact bI_z h24)⟩)).symm
        · refine r_aload0 hX dX6_isKey_27 ?_
          refine g_wM_0_9 hX dX6_isKey_28 ?_
          refine r_iload4 hX dX6_isKey_31 ?_
          refine l_wM_5 hX dX6_isKey_33 hvx ?_
          refine r_iload1 hX dX6_isKey_34 ?_
          refine r_push hX dX6_isKey_35 ?_
          refine r_idiv hX dX6_isKey_37 (by decide) ?_
          refine r_iload4 hX dX6_isKey_38 ?_
          refine r_imul hX dX6_isKey_40 ?_
          refine r_iload1 hX dX6_isKey_41 ?_
          refine r_push hX dX6_isKey_42 ?_
          refine r_irem hX dX6_isKey_44 (by decide) ?_
          refine r_iadd hX dX6_isKey_45 ?_
          refine r_push hX dX6_isKey_46 ?_
          refine r_irem hX dX6_isKey_48 (by decide) ?_
          refine r_ic_ne hX dX6_isKey_49 (fun h49 => ?_) (fun h49 => ?_)
          · refine r_push hX dX6_isKey_56 ?_
            refine r_istore3 hX dX6_isKey_57 rfl ?_
            refine r_iinc4 hX dX6_isKey_58 rfl ?_
            refine r_goto hX dX6_isKey_61 ?_
            exact ih (i + 1) _ 0 (by rw [hx]; exact nI_1 i) (by omega) (bI_f (fun h => ((ball_s.mp h).2).elim (fun q => q (by rw [← hx]; exact bI_nz h24)) (fun q => h49 (by rw [hcx', q, sgF_eq, kqF_eq, krF_eq, hx])))).symm
          · refine r_push hX dX6_isKey_52 ?_
            refine r_goto hX dX6_isKey_53 ?_
            refine r_istore3 hX dX6_isKey_57 rfl ?_
            refine r_iinc4 hX dX6_isKey_58 rfl ?_
            refine r_goto hX dX6_isKey_61 ?_
            exact ih (i + 1) _ 1 (by rw [hx]; exact nI_1 i) (by omega) (bI_t (ball_s.mpr ⟨bI_nz (hs ▸ h15), Or.inr (by rw [sgF_eq, kqF_eq, krF_eq, ← hx, ← hcx']; exact h49)⟩)).symm
  refine r_push hX dX6_isKey_0 ?_
  refine r_istore3 hX dX6_isKey_1 rfl ?_
  refine r_push hX dX6_isKey_2 ?_
  refine r_istore4 hX dX6_isKey_3 rfl ?_
  exact hL5 D 0 _ _ rfl (by omega) (bI_t (fun k hk => absurd hk (Nat.not_lt_zero k))).symm
set_option maxHeartbeats 400000 in
theorem c_X6_keys (l : Launch) (g : GT) (b : Nat → Nat) (σ : S2) (t z : Int32) (D : Nat) (hD : D ≤ 14) (eD : σ.1 0 = nI D) : Cx l g yX6_keys cX6_keys 7 (some .int) (k2_rm 2 60) [.ref (b 0), .int t, .int z] (wM g b σ) (some (.int (keysF D (σ.2 9) t z))) (wM g b σ) := by
  refine meth (own := "ChalkedDoorsModel") (by decide) rfl (Nat.le_of_ble_eq_true rfl) [some (.ref (b 0)), some (.int t), some (.int z), none, none, none, none] rfl (fun X hX hQ => ?_)
  unfold keysF at hQ
  generalize hsp : lp (keyC D (σ.2 9) t) 256 0 (0, -1) = S at hQ
  have hL42 : ∀ (n i : Nat) (x : Int32) (p q : Int32), x = nI i → i + n = 256 → stD t (nI D) → inB z.toInt 0 1 → S = lp (keyC D (σ.2 9) t) n i (p, q) → vJ X 0 0 (wM g b σ) 42 [some (.ref (b 0)), some (.int t), some (.int z), some (.int p), some (.int q), some (.int x), none] [] := by
    intro n
    induction n with
    | zero =>
      intro i x p q hx hn ht hz hs
      refine r_iload5 hX dX6_keys_42 ?_
      refine r_push hX dX6_keys_44 ?_
      refine r_ic_ge hX dX6_keys_47 (fun h47 => ?_) (fun h47 => absurd (lpx (e := 256) hx rfl (by omega) (by omega) (by omega)) h47)
      refine r_iload2 hX dX6_keys_96 ?_
      refine r_if_ne hX dX6_keys_97 (fun h97 => ?_) (fun h97 => ?_)
      · refine r_iload4 hX dX6_keys_104 ?_
        exact r_iret hX hQ dX6_keys_106 (by rw [if_pos ht, if_pos hz, hs, if_neg h97] <;> rfl) (rfl)
      · refine r_iload3 hX dX6_keys_100 ?_
        refine r_goto hX dX6_keys_101 ?_
        exact r_iret hX hQ dX6_keys_106 (by rw [if_pos ht, if_pos hz, hs, if_pos h97] <;> rfl) (rfl)
    | succ n ih =>
      intro i x p q hx hn ht hz hs
      refine r_iload5 hX dX6_keys_42 ?_
      refine r_push hX dX6_keys_44 ?_
      refine r_ic_ge hX dX6_keys_47 (fun h47 => absurd h47 (lpn (e := 256) hx rfl (by omega) (by omega))) (fun h47 => ?_)
      refine r_aload0 hX dX6_keys_50 ?_
      refine r_iload5 hX dX6_keys_51 ?_
      refine r_iload1 hX dX6_keys_53 ?_
      refine r_aV2i hX dX6_keys_54 kX6_isKey (c_X6_isKey l g _ _ _ _ D hD eD) ad_wM rfl (by decide) (Nat.le_of_ble_eq_true rfl) ?_
      refine r_istore6 hX dX6_keys_57 rfl ?_
      refine r_iload6 hX dX6_keys_59 ?_
      refine r_if_eq hX dX6_keys_61 (fun h61 => ?_) (fun h61 => ?_)
      · refine r_iload4 hX dX6_keys_73 ?_
        refine r_istore4 hX dX6_keys_75 rfl ?_
        refine r_iload3 hX dX6_keys_77 ?_
        refine r_iload6 hX dX6_keys_78 ?_
        refine r_if_eq hX dX6_keys_80 (fun h80 => ?_) (fun h80 => ?_)
        · refine r_push hX dX6_keys_87 ?_
          refine r_iadd hX dX6_keys_88 ?_
          refine r_istore3 hX dX6_keys_89 rfl ?_
          refine r_iinc5 hX dX6_keys_90 rfl ?_
          refine r_goto hX dX6_keys_93 ?_
          refine r_fg6 ?_
          exact ih (i + 1) _ _ _ (by rw [hx]; exact nI_1 i) (by omega) ht hz (by rw [hs]; show lp _ n (i + 1) (keyC _ _ _ i (p, q)) = _; unfold keyC; rw [← hx, if_neg (bI_z h61), Int32.add_zero])
        · refine r_push hX dX6_keys_83 ?_
          refine r_goto hX dX6_keys_84 ?_
          refine r_iadd hX dX6_keys_88 ?_
          refine r_istore3 hX dX6_keys_89 rfl ?_
          refine r_iinc5 hX dX6_keys_90 rfl ?_
          refine r_goto hX dX6_keys_93 ?_
          exact absurd h61 h80
      · refine r_iload3 hX dX6_keys_64 ?_
        refine r_if_ne hX dX6_keys_65 (fun h65 => ?_) (fun h65 => ?_)
        · refine r_iload4 hX dX6_keys_73 ?_
          refine r_istore4 hX dX6_keys_75 rfl ?_
          refine r_iload3 hX dX6_keys_77 ?_
          refine r_iload6 hX dX6_keys_78 ?_
          refine r_if_eq hX dX6_keys_80 (fun h80 => ?_) (fun h80 => ?_)
          · refine r_push hX dX6_keys_87 ?_
            refine r_iadd hX dX6_keys_88 ?_
            refine r_istore3 hX dX6_keys_89 rfl ?_
            refine r_iinc5 hX dX6_keys_90 rfl ?_
            refine r_goto hX dX6_keys_93 ?_
            exact absurd h80 h61
          · refine r_push hX dX6_keys_83 ?_
            refine r_goto hX dX6_keys_84 ?_
            refine r_iadd hX dX6_keys_88 ?_
            refine r_istore3 hX dX6_keys_89 rfl ?_
            refine r_iinc5 hX dX6_keys_90 rfl ?_
            refine r_goto hX dX6_keys_93 ?_
            refine r_fg6 ?_
            exact ih (i + 1) _ _ _ (by rw [hx]; exact nI_1 i) (by omega) ht hz (by rw [hs]; show lp _ n (i + 1) (keyC _ _ _ i (p, q)) = _; unfold keyC; rw [← hx, if_pos (bI_nz h61)]; dsimp only; rw [if_neg h65])
        · refine r_iload5 hX dX6_keys_68 ?_
          refine r_goto hX dX6_keys_70 ?_
          refine r_istore4 hX dX6_keys_75 rfl ?_
          refine r_iload3 hX dX6_keys_77 ?_
          refine r_iload6 hX dX6_keys_78 ?_
          refine r_if_eq hX dX6_keys_80 (fun h80 => ?_) (fun h80 => ?_)
          · refine r_push hX dX6_keys_87 ?_
            refine r_iadd hX dX6_keys_88 ?_
            refine r_istore3 hX dX6_keys_89 rfl ?_
            refine r_iinc5 hX dX6_keys_90 rfl ?_
            refine r_goto hX dX6_keys_93 ?_
            exact absurd h80 h61
          · refine r_push hX dX6_keys_83 ?_
            refine r_goto hX dX6_keys_84 ?_
            refine r_iadd hX dX6_keys_88 ?_
            refine r_istore3 hX dX6_keys_89 rfl ?_
            refine r_iinc5 hX dX6_keys_90 rfl ?_
            refine r_goto hX dX6_keys_93 ?_
            refine r_fg6 ?_
            exact ih (i + 1) _ _ _ (by rw [hx]; exact nI_1 i) (by omega) ht hz (by rw [hs]; show lp _ n (i + 1) (keyC _ _ _ i (p, q)) = _; unfold keyC; rw [← hx, if_pos (bI_nz h61)]; dsimp only; rw [if_pos h65])
  refine r_iload1 hX dX6_keys_0 ?_
  refine r_i2l hX dX6_keys_1 ?_
  refine r_pushl hX dX6_keys_2 ?_
  refine r_push hX dX6_keys_3 ?_
  refine r_aload0 hX dX6_keys_4 ?_
  refine g_wM_0_0 hX dX6_keys_5 ?_
  refine r_ishl hX dX6_keys_8 ?_
  refine r_push hX dX6_keys_9 ?_
  refine r_isub hX dX6_keys_10 ?_
  refine r_i2l hX dX6_keys_11 ?_
  refine r_nS3i hX dX6_keys_12 kX6_in (c_X6_in l g _ _ _) (by decide) (Nat.le_of_ble_eq_true rfl) ?_
  refine r_if_ne hX dX6_keys_15 (fun h15 => ?_) (fun h15 => ?_)
  · refine r_iload2 hX dX6_keys_21 ?_
    refine r_i2l hX dX6_keys_22 ?_
    refine r_pushl hX dX6_keys_23 ?_
    refine r_pushl hX dX6_keys_24 ?_
    refine r_nS3i hX dX6_keys_25 kX6_in (c_X6_in l g _ _ _) (by decide) (Nat.le_of_ble_eq_true rfl) ?_
    refine r_if_ne hX dX6_keys_28 (fun h28 => ?_) (fun h28 => ?_)
    · refine r_push hX dX6_keys_34 ?_
      refine r_istore3 hX dX6_keys_35 rfl ?_
      refine r_push hX dX6_keys_36 ?_
      refine r_istore4 hX dX6_keys_37 rfl ?_
      refine r_push hX dX6_keys_39 ?_
      refine r_istore5 hX dX6_keys_40 rfl ?_
      exact hL42 256 0 _ _ _ rfl (by omega) (eD ▸ (stD_B eD (by omega)).mp (bI_nz h15)) (show inB z.toInt 0 1 by have q := bI_nz h28; rw [Int32.toInt_toInt64] at q; exact q) hsp.symm
    · refine r_push hX dX6_keys_31 ?_
      exact r_iret hX hQ dX6_keys_33 (by rw [if_pos (show stD t (nI D) from eD ▸ (stD_B eD (by omega)).mp (bI_nz h15)), if_neg (fun q => bI_z h28 (by rw [Int32.toInt_toInt64]; exact q))]) (rfl)
  · refine r_push hX dX6_keys_18 ?_
    exact r_iret hX hQ dX6_keys_20 (by rw [if_neg (fun q => bI_z h15 ((stD_B eD (by omega)).mpr (eD ▸ q)))]) (rfl)
set_option maxHeartbeats 400000 in
theorem c_X6_note (l : Launch) (g : GT) (b : Nat → Nat) (σ : S2) (d n0 z : Int32) (D : Nat) (hD : D ≤ 14) (eD : σ.1 0 = nI D) (N : Nat) (hN : N ≤ 10) (eN : σ.1 36 = nI N) : Cx l g yX6_note cX6_note 4 (some .int) (k2_rm 2 60) [.ref (b 0), .int d, .int n0, .int z] (wM g b σ) (some (.int (noteF (σ.1 0) (σ.1 36) (σ.2 37) (σ.2 38) (σ.2 39) d n0 z).1)) (wM g b (aw (aw (aw (su σ 36 (noteF (σ.1 0) (σ.1 36) (σ.2 37) (σ.2 38) (σ.2 39) d n0 z).2.1) 37 (noteF (σ.1 0) (σ.1 36) (σ.2 37) (σ.2 38) (σ.2 39) d n0 z).2.2.1) 38 (noteF (σ.1 0) (σ.1 36) (σ.2 37) (σ.2 38) (σ.2 39) d n0 z).2.2.2.1) 39 (noteF (σ.1 0) (σ.1 36) (σ.2 37) (σ.2 38) (σ.2 39) d n0 z).2.2.2.2)) := by
  refine meth (own := "ChalkedDoorsModel") (by decide) rfl (Nat.le_of_ble_eq_true rfl) [some (.ref (b 0)), some (.int d), some (.int n0), some (.int z)] rfl (fun X hX hQ => ?_)
  refine r_aload0 hX dX6_note_0 ?_
  refine r_iload1 hX dX6_note_1 ?_
  refine r_aV1i hX dX6_note_2 kX6_isDoor (c_X6_isDoor l g _ _ _ D hD eD) ad_wM rfl (by decide) (Nat.le_of_ble_eq_true rfl) ?_
  refine r_if_ne hX dX6_note_5 (fun h5 => ?_) (fun h5 => ?_)
  · refine r_iload2 hX dX6_note_11 ?_
    refine r_i2l hX dX6_note_12 ?_
    refine r_pushl hX dX6_note_13 ?_
    refine r_pushl hX dX6_note_14 ?_
    refine r_nS3i hX dX6_note_17 kX6_in (c_X6_in l g _ _ _) (by decide) (Nat.le_of_ble_eq_true rfl) ?_
    refine r_if_ne hX dX6_note_20 (fun h20 => ?_) (fun h20 => ?_)
    · refine r_aload0 hX dX6_note_26 ?_
      refine g_wM_0_36 hX dX6_note_27 ?_
      refine r_push hX dX6_note_30 ?_
      refine r_ic_ne hX dX6_note_32 (fun h32 => ?_) (fun h32 => ?_)
      · refine r_aload0 hX dX6_note_38 ?_
        refine g_wM_0_37 hX dX6_note_39 ?_
        refine r_aload0 hX dX6_note_42 ?_
        refine g_wM_0_36 hX dX6_note_43 ?_
        refine r_iload1 hX dX6_note_46 ?_
        refine s_wM_16 hX dX6_note_47 (by show vp_in (σ.1 36) _; rw [eN]; refine vp_in_nI ?_ (by omega); rcases Nat.lt_or_ge N 10 with h | h; exact h; exact absurd (show σ.1 36 = 10 by rw [eN, show N = 10 by omega]; rfl) h32) ?_
        refine r_aload0 hX dX6_note_48 ?_
        refine g_wM_0_38 hX dX6_note_49 ?_
        refine r_aload0 hX dX6_note_52 ?_
        refine g_wM_0_36 hX dX6_note_53 ?_
        refine r_iload2 hX dX6_note_56 ?_
        refine s_wM_17 hX dX6_note_57 (by show vp_in (σ.1 36) _; rw [eN]; refine vp_in_nI ?_ (by omega); rcases Nat.lt_or_ge N 10 with h | h; exact h; exact absurd (show σ.1 36 = 10 by rw [eN, show N = 10 by omega]; rfl) h32) ?_
        refine r_aload0 hX dX6_note_58 ?_
        refine g_wM_0_39 hX dX6_note_59 ?_
        refine r_aload0 hX dX6_note_62 ?_
        refine g_wM_0_36 hX dX6_note_63 ?_
        refine r_iload3 hX dX6_note_66 ?_
        refine s_wM_18 hX dX6_note_67 (by show vp_in (σ.1 36) _; rw [eN]; refine vp_in_nI ?_ (by omega); rcases Nat.lt_or_ge N 10 with h | h; exact h; exact absurd (show σ.1 36 = 10 by rw [eN, show N = 10 by omega]; rfl) h32) ?_
        refine r_aload0 hX dX6_note_68 ?_
        refine r_dup hX dX6_note_69 rfl ?_
        refine g_wM_0_36 hX dX6_note_70 ?_
        refine r_push hX dX6_note_73 ?_
        refine r_iadd hX dX6_note_74 ?_
        refine p_wM_0_36 hX dX6_note_75 ?_
        refine r_aload0 hX dX6_note_78 ?_
        refine g_wM_0_36 hX dX6_note_79 ?_
        exact r_iret hX hQ dX6_note_82 (by unfold noteF; rw [if_pos (bI_nz h5), if_pos (show inB n0.toInt 0 30 by have q := bI_nz h20; rw [Int32.toInt_toInt64] at q; exact q), if_neg h32] <;> rfl) (by unfold noteF; rw [if_pos (bI_nz h5), if_pos (show inB n0.toInt 0 30 by have q := bI_nz h20; rw [Int32.toInt_toInt64] at q; exact q), if_neg h32] <;> rfl)
      · refine r_push hX dX6_note_35 ?_
        exact r_iret hX hQ dX6_note_37 (by unfold noteF; rw [if_pos (bI_nz h5), if_pos (show inB n0.toInt 0 30 by have q := bI_nz h20; rw [Int32.toInt_toInt64] at q; exact q), if_pos h32] <;> rfl) (by unfold noteF; rw [if_pos (bI_nz h5), if_pos (show inB n0.toInt 0 30 by have q := bI_nz h20; rw [Int32.toInt_toInt64] at q; exact q), if_pos h32] <;> rfl)
    · refine r_push hX dX6_note_23 ?_
      exact r_iret hX hQ dX6_note_25 (by unfold noteF; rw [if_pos (bI_nz h5), if_neg (fun q => bI_z h20 (by rw [Int32.toInt_toInt64]; exact q))] <;> rfl) (by unfold noteF; rw [if_pos (bI_nz h5), if_neg (fun q => bI_z h20 (by rw [Int32.toInt_toInt64]; exact q))] <;> rfl)
  · refine r_push hX dX6_note_8 ?_
    exact r_iret hX hQ dX6_note_10 (by unfold noteF; rw [if_neg (bI_z h5)] <;> rfl) (by unfold noteF; rw [if_neg (bI_z h5)] <;> rfl)
set_option maxHeartbeats 400000 in
theorem c_X6_write (l : Launch) (g : GT) (b : Nat → Nat) (σ : S2) (d t : Int32) (D : Nat) (hD : D ≤ 14) (eD : σ.1 0 = nI D) (N : Nat) (hN : N ≤ 15) (eN : σ.1 40 = nI N) : Cx l g yX6_write cX6_write 3 (some .int) (k2_rm 2 60) [.ref (b 0), .int d, .int t] (wM g b σ) (some (.int (writeF (σ.1 0) (σ.1 40) (σ.2 41) (σ.2 42) d t).1)) (wM g b (aw (aw (su σ 40 (writeF (σ.1 0) (σ.1 40) (σ.2 41) (σ.2 42) d t).2.1) 41 (writeF (σ.1 0) (σ.1 40) (σ.2 41) (σ.2 42) d t).2.2.1) 42 (writeF (σ.1 0) (σ.1 40) (σ.2 41) (σ.2 42) d t).2.2.2)) := by
  refine meth (own := "ChalkedDoorsModel") (by decide) rfl (Nat.le_of_ble_eq_true rfl) [some (.ref (b 0)), some (.int d), some (.int t)] rfl (fun X hX hQ => ?_)
  refine r_aload0 hX dX6_write_0 ?_
  refine r_iload1 hX dX6_write_1 ?_
  refine r_aV1i hX dX6_write_2 kX6_isDoor (c_X6_isDoor l g _ _ _ D hD eD) ad_wM rfl (by decide) (Nat.le_of_ble_eq_true rfl) ?_
  refine r_if_ne hX dX6_write_5 (fun h5 => ?_) (fun h5 => ?_)
  · refine r_iload2 hX dX6_write_11 ?_
    refine r_i2l hX dX6_write_12 ?_
    refine r_pushl hX dX6_write_13 ?_
    refine r_pushl hX dX6_write_14 ?_
    refine r_nS3i hX dX6_write_17 kX6_in (c_X6_in l g _ _ _) (by decide) (Nat.le_of_ble_eq_true rfl) ?_
    refine r_if_ne hX dX6_write_20 (fun h20 => ?_) (fun h20 => ?_)
    · refine r_aload0 hX dX6_write_26 ?_
      refine g_wM_0_40 hX dX6_write_27 ?_
      refine r_push hX dX6_write_30 ?_
      refine r_ic_ne hX dX6_write_32 (fun h32 => ?_) (fun h32 => ?_)
      · refine r_aload0 hX dX6_write_38 ?_
        refine g_wM_0_41 hX dX6_write_39 ?_
        refine r_aload0 hX dX6_write_42 ?_
        refine g_wM_0_40 hX dX6_write_43 ?_
        refine r_iload1 hX dX6_write_46 ?_
        refine s_wM_19 hX dX6_write_47 (by show vp_in (σ.1 40) _; rw [eN]; refine vp_in_nI ?_ (by omega); rcases Nat.lt_or_ge N 15 with h | h; exact h; exact absurd (show σ.1 40 = 15 by rw [eN, show N = 15 by omega]; rfl) h32) ?_
        refine r_aload0 hX dX6_write_48 ?_
        refine g_wM_0_42 hX dX6_write_49 ?_
        refine r_aload0 hX dX6_write_52 ?_
        refine g_wM_0_40 hX dX6_write_53 ?_
        refine r_iload2 hX dX6_write_56 ?_
        refine s_wM_20 hX dX6_write_57 (by show vp_in (σ.1 40) _; rw [eN]; refine vp_in_nI ?_ (by omega); rcases Nat.lt_or_ge N 15 with h | h; exact h; exact absurd (show σ.1 40 = 15 by rw [eN, show N = 15 by omega]; rfl) h32) ?_
        refine r_aload0 hX dX6_write_58 ?_
        refine r_dup hX dX6_write_59 rfl ?_
        refine g_wM_0_40 hX dX6_write_60 ?_
        refine r_push hX dX6_write_63 ?_
        refine r_iadd hX dX6_write_64 ?_
        refine p_wM_0_40 hX dX6_write_65 ?_
        refine r_aload0 hX dX6_write_68 ?_
        refine g_wM_0_40 hX dX6_write_69 ?_
        exact r_iret hX hQ dX6_write_72 (by unfold writeF; rw [if_pos (bI_nz h5), if_pos (show inB t.toInt 0 15 by have q := bI_nz h20; rw [Int32.toInt_toInt64] at q; exact q), if_neg h32] <;> rfl) (by unfold writeF; rw [if_pos (bI_nz h5), if_pos (show inB t.toInt 0 15 by have q := bI_nz h20; rw [Int32.toInt_toInt64] at q; exact q), if_neg h32] <;> rfl)
      · refine r_push hX dX6_write_35 ?_
        exact r_iret hX hQ dX6_write_37 (by unfold writeF; rw [if_pos (bI_nz h5), if_pos (show inB t.toInt 0 15 by have q := bI_nz h20; rw [Int32.toInt_toInt64] at q; exact q), if_pos h32] <;> rfl) (by unfold writeF; rw [if_pos (bI_nz h5), if_pos (show inB t.toInt 0 15 by have q := bI_nz h20; rw [Int32.toInt_toInt64] at q; exact q), if_pos h32] <;> rfl)
    · refine r_push hX dX6_write_23 ?_
      exact r_iret hX hQ dX6_write_25 (by unfold writeF; rw [if_pos (bI_nz h5), if_neg (fun q => bI_z h20 (by rw [Int32.toInt_toInt64]; exact q))] <;> rfl) (by unfold writeF; rw [if_pos (bI_nz h5), if_neg (fun q => bI_z h20 (by rw [Int32.toInt_toInt64]; exact q))] <;> rfl)
  · refine r_push hX dX6_write_8 ?_
    exact r_iret hX hQ dX6_write_10 (by unfold writeF; rw [if_neg (bI_z h5)] <;> rfl) (by unfold writeF; rw [if_neg (bI_z h5)] <;> rfl)
set_option maxHeartbeats 400000 in
theorem c_X6_canBeFirst (l : Launch) (g : GT) (b : Nat → Nat) (σ : S2) (u d : Int32) (N : Nat) (hN : N ≤ 10) (eN : σ.1 36 = nI N) : Cx l g yX6_canBeFirst cX6_canBeFirst 5 (some .boolean) (k2_rm 1 30) [.ref (b 0), .int u, .int d] (wM g b σ) (some (.int (bI (canP N (σ.2 37) (σ.2 38) (σ.2 39) u d)))) (wM g b σ) := by
  refine meth (own := "ChalkedDoorsModel") (by decide) rfl (Nat.le_of_ble_eq_true rfl) [some (.ref (b 0)), some (.int u), some (.int d), none, none] rfl (fun X hX hQ => ?_)
  have hL5 : ∀ (n i : Nat) (x : Int32) (r : Int32), x = nI i → i + n = N → r = bI (canP i (σ.2 37) (σ.2 38) (σ.2 39) u d) → vJ X 0 0 (wM g b σ) 5 [some (.ref (b 0)), some (.int u), some (.int d), some (.int r), some (.int x)] [] := by
    intro n
    induction n with
    | zero =>
      intro i x r hx hn hs
      refine r_iload4 hX dX6_canBeFirst_5 ?_
      refine r_aload0 hX dX6_canBeFirst_7 ?_
      refine g_wM_0_36 hX dX6_canBeFirst_8 ?_
      refine r_ic_ge hX dX6_canBeFirst_11 (fun h11 => ?_) (fun h11 => absurd (lpx (e := N) hx eN (by omega) (by omega) (by omega)) h11)
      refine r_iload3 hX dX6_canBeFirst_68 ?_
      exact r_zret hX hQ dX6_canBeFirst_69 (by rw [hs]; exact bI_n) (by rw [hs, show i = N by omega]) (rfl)
    | succ n ih =>
      intro i x r hx hn hs
      have hvx : vp_in x 10 := by rw [hx]; exact vp_in_nI (by omega) (by omega)
      have hcx : cl x = i := by rw [hx]; exact nI_clamp (by omega)
      have hcx' : x.toNatClampNeg = i := hcx
      refine r_iload4 hX dX6_canBeFirst_5 ?_
      refine r_aload0 hX dX6_canBeFirst_7 ?_
      refine g_wM_0_36 hX dX6_canBeFirst_8 ?_
      refine r_ic_ge hX dX6_canBeFirst_11 (fun h11 => absurd h11 (lpn (e := N) hx eN (by omega) (by omega))) (fun h11 => ?_)
      refine r_iload3 hX dX6_canBeFirst_14 ?_
      refine r_if_eq hX dX6_canBeFirst_15 (fun h15 => ?_) (fun h15 => ?_)
      · refine r_iload3 hX dX6_canBeFirst_68 ?_
        exact r_zret hX hQ dX6_canBeFirst_69 (by rw [hs]; exact bI_n) (by rw [bI_f (show ¬ canP N (σ.2 37) (σ.2 38) (σ.2 39) u d from fun h => bI_z (hs ▸ h15) (fun k hk => h k (by omega))), h15]) (rfl)
      · refine r_aload0 hX dX6_canBeFirst_18 ?_
        refine g_wM_0_37 hX dX6_canBeFirst_19 ?_
        refine r_iload4 hX dX6_canBeFirst_22 ?_
        refine l_wM_16 hX dX6_canBeFirst_24 hvx ?_
        refine r_iload2 hX dX6_canBeFirst_25 ?_
        refine r_nS2i hX dX6_canBeFirst_26 kX6_away (c_X6_away l g _ _) (by decide) (Nat.le_of_ble_eq_true rfl) ?_
        refine r_aload0 hX dX6_canBeFirst_29 ?_
        refine g_wM_0_38 hX dX6_canBeFirst_30 ?_
        refine r_iload4 hX dX6_canBeFirst_33 ?_
        refine l_wM_17 hX dX6_canBeFirst_35 hvx ?_
        refine r_iload1 hX dX6_canBeFirst_36 ?_
        refine r_isub hX dX6_canBeFirst_37 ?_
        refine r_ic_gt hX dX6_canBeFirst_38 (fun h38 => ?_) (fun h38 => ?_)
        · refine r_push hX dX6_canBeFirst_45 ?_
          refine r_aload0 hX dX6_canBeFirst_46 ?_
          refine g_wM_0_39 hX dX6_canBeFirst_47 ?_
          refine r_iload4 hX dX6_canBeFirst_50 ?_
          refine l_wM_18 hX dX6_canBeFirst_52 hvx ?_
          refine r_ic_ne hX dX6_canBeFirst_53 (fun h53 => ?_) (fun h53 => ?_)
          · refine r_push hX dX6_canBeFirst_60 ?_
            refine r_istore3 hX dX6_canBeFirst_61 rfl ?_
            refine r_iinc4 hX dX6_canBeFirst_62 rfl ?_
            refine r_goto hX dX6_canBeFirst_65 ?_
            exact ih (i + 1) _ 0 (by rw [hx]; exact nI_1 i) (by omega) (bI_f (fun h => h53 (by have q := (ball_s.mp h).2; rw [bI_f (show ¬ awayF (σ.2 37 i) d ≤ σ.2 38 i - u by rw [← hcx]; exact nle_of_lt h38)] at q; rw [hcx']; exact q))).symm
          · refine r_push hX dX6_canBeFirst_56 ?_
            refine r_goto hX dX6_canBeFirst_57 ?_
            refine r_istore3 hX dX6_canBeFirst_61 rfl ?_
            refine r_iinc4 hX dX6_canBeFirst_62 rfl ?_
            refine r_goto hX dX6_canBeFirst_65 ?_
            exact ih (i + 1) _ 1 (by rw [hx]; exact nI_1 i) (by omega) (bI_t (ball_s.mpr ⟨bI_nz (hs ▸ h15), by rw [bI_f (show ¬ awayF (σ.2 37 i) d ≤ σ.2 38 i - u by rw [← hcx]; exact nle_of_lt h38), ← hcx']; exact h53⟩)).symm
        · refine r_push hX dX6_canBeFirst_41 ?_
          refine r_goto hX dX6_canBeFirst_42 ?_
          refine r_aload0 hX dX6_canBeFirst_46 ?_
          refine g_wM_0_39 hX dX6_canBeFirst_47 ?_
          refine r_iload4 hX dX6_canBeFirst_50 ?_
          refine l_wM_18 hX dX6_canBeFirst_52 hvx ?_
          refine r_ic_ne hX dX6_canBeFirst_53 (fun h53 => ?_) (fun h53 => ?_)
          · refine r_push hX dX6_canBeFirst_60 ?_
            refine r_istore3 hX dX6_canBeFirst_61 rfl ?_
            refine r_iinc4 hX dX6_canBeFirst_62 rfl ?_
            refine r_goto hX dX6_canBeFirst_65 ?_
            exact ih (i + 1) _ 0 (by rw [hx]; exact nI_1 i) (by omega) (bI_f (fun h => h53 (by have q := (ball_s.mp h).2; rw [bI_t (show awayF (σ.2 37 i) d ≤ σ.2 38 i - u by rw [← hcx]; exact le_of_nlt h38)] at q; rw [hcx']; exact q))).symm
          · refine r_push hX dX6_canBeFirst_56 ?_
            refine r_goto hX dX6_canBeFirst_57 ?_
            refine r_istore3 hX dX6_canBeFirst_61 rfl ?_
            refine r_iinc4 hX dX6_canBeFirst_62 rfl ?_
            refine r_goto hX dX6_canBeFirst_65 ?_
            exact ih (i + 1) _ 1 (by rw [hx]; exact nI_1 i) (by omega) (bI_t (ball_s.mpr ⟨bI_nz (hs ▸ h15), by rw [bI_t (show awayF (σ.2 37 i) d ≤ σ.2 38 i - u by rw [← hcx]; exact le_of_nlt h38), ← hcx']; exact h53⟩)).symm
  refine r_push hX dX6_canBeFirst_0 ?_
  refine r_istore3 hX dX6_canBeFirst_1 rfl ?_
  refine r_push hX dX6_canBeFirst_2 ?_
  refine r_istore4 hX dX6_canBeFirst_3 rfl ?_
  exact hL5 N 0 _ _ rfl (by omega) (bI_t (fun k hk => absurd hk (Nat.not_lt_zero k))).symm
set_option maxHeartbeats 400000 in
theorem c_X6_tear (l : Launch) (g : GT) (b : Nat → Nat) (σ : S2)   : Cx l g yX6_tear cX6_tear 2 (some .int) (k2_rm 0 0) [.ref (b 0)] (wM g b σ) (some (.int (σ.1 36 + σ.1 40))) (wM g b (su (su σ 36 0) 40 0)) := by
  refine meth (own := "ChalkedDoorsModel") (by decide) rfl (Nat.le_of_ble_eq_true rfl) [some (.ref (b 0)), none] rfl (fun X hX hQ => ?_)
  refine r_aload0 hX dX6_tear_0 ?_
  refine g_wM_0_36 hX dX6_tear_1 ?_
  refine r_aload0 hX dX6_tear_4 ?_
  refine g_wM_0_40 hX dX6_tear_5 ?_
  refine r_iadd hX dX6_tear_8 ?_
  refine r_istore1 hX dX6_tear_9 rfl ?_
  refine r_aload0 hX dX6_tear_10 ?_
  refine r_push hX dX6_tear_11 ?_
  refine p_wM_0_36 hX dX6_tear_12 ?_
  refine r_aload0 hX dX6_tear_15 ?_
  refine r_push hX dX6_tear_16 ?_
  refine p_wM_0_40 hX dX6_tear_17 ?_
  refine r_iload1 hX dX6_tear_20 ?_
  exact r_iret hX hQ dX6_tear_21 (rfl) (rfl)
set_option maxHeartbeats 400000 in
theorem c_X6_seed (l : Launch) (g : GT) (b : Nat → Nat) (σ : S2) (v : Int32)  : Cx l g yX6_seed cX6_seed 3 (some .int) (k2_rm 0 0) [.ref (b 0), .int v] (wM g b σ) (some (.int (if 0 ≤ v then σ.1 13 else -1000000002))) (wM g b (su σ 13 (if 0 ≤ v then v else σ.1 13))) := by
  refine meth (own := "ChalkedDoorsModel") (by decide) rfl (Nat.le_of_ble_eq_true rfl) [some (.ref (b 0)), some (.int v), none] rfl (fun X hX hQ => ?_)
  refine r_iload1 hX dX6_seed_0 ?_
  refine r_if_ge hX dX6_seed_1 (fun h1 => ?_) (fun h1 => ?_)
  · refine r_aload0 hX dX6_seed_7 ?_
    refine g_wM_0_13 hX dX6_seed_8 ?_
    refine r_istore2 hX dX6_seed_11 rfl ?_
    refine r_aload0 hX dX6_seed_12 ?_
    refine r_iload1 hX dX6_seed_13 ?_
    refine p_wM_0_13 hX dX6_seed_14 ?_
    refine r_iload2 hX dX6_seed_17 ?_
    exact r_iret hX hQ dX6_seed_18 (by rw [if_pos h1] <;> rfl) (by rw [if_pos h1] <;> rfl)
  · refine r_push hX dX6_seed_4 ?_
    exact r_iret hX hQ dX6_seed_6 (by rw [if_neg h1] <;> rfl) (by rw [if_neg h1] <;> rfl)
set_option maxHeartbeats 400000 in
theorem c_X6_judge (l : Launch) (g : GT) (b : Nat → Nat) (σ : S2)  (N : Nat) (hN : N ≤ 15) (eN : σ.1 40 = nI N) (hv : ∀ k, k < N → vp_in (σ.2 41 k) 14) : Cx l g yX6_judge cX6_judge 2 (some .int) (k2_rm 0 0) [.ref (b 0)] (wM g b σ) (some (.int (judF N (σ.2 9) (σ.2 41) (σ.2 42)))) (wM g b σ) := by
  refine meth (own := "ChalkedDoorsModel") (by decide) rfl (Nat.le_of_ble_eq_true rfl) [some (.ref (b 0)), none] rfl (fun X hX hQ => ?_)
  generalize hsp : judF N (σ.2 9) (σ.2 41) (σ.2 42) = S at hQ
  unfold judF at hsp
  have hL2 : ∀ (n i : Nat) (x : Int32) , x = nI i → i + n = N → S = ffF (fun k => if σ.2 9 (cl (σ.2 41 k)) = σ.2 42 k then none else some (nI k)) n i → vJ X 0 0 (wM g b σ) 2 [some (.ref (b 0)), some (.int x)] [] := by
    intro n
    induction n with
    | zero =>
      intro i x  hx hn hs
      refine r_iload1 hX dX6_judge_2 ?_
      refine r_aload0 hX dX6_judge_3 ?_
      refine g_wM_0_40 hX dX6_judge_4 ?_
      refine r_ic_ge hX dX6_judge_7 (fun h7 => ?_) (fun h7 => absurd (lpx (e := N) hx eN (by omega) (by omega) (by omega)) h7)
      refine r_push hX dX6_judge_38 ?_
      exact r_iret hX hQ dX6_judge_39 (by rw [hs] <;> rfl) (rfl)
    | succ n ih =>
      intro i x  hx hn hs
      have hvx : vp_in x 15 := by rw [hx]; exact vp_in_nI (by omega) (by omega)
      have hcx : cl x = i := by rw [hx]; exact nI_clamp (by omega)
      have hcx' : x.toNatClampNeg = i := hcx
      refine r_iload1 hX dX6_judge_2 ?_
      refine r_aload0 hX dX6_judge_3 ?_
      refine g_wM_0_40 hX dX6_judge_4 ?_
      refine r_ic_ge hX dX6_judge_7 (fun h7 => absurd h7 (lpn (e := N) hx eN (by omega) (by omega))) (fun h7 => ?_)
      refine r_aload0 hX dX6_judge_10 ?_
      refine g_wM_0_9 hX dX6_judge_11 ?_
      refine r_aload0 hX dX6_judge_14 ?_
      refine g_wM_0_41 hX dX6_judge_15 ?_
      refine r_iload1 hX dX6_judge_18 ?_
      refine l_wM_19 hX dX6_judge_19 hvx ?_
      refine l_wM_5 hX dX6_judge_20 (by rw [hcx']; exact hv i (by omega)) ?_
      refine r_aload0 hX dX6_judge_21 ?_
      refine g_wM_0_42 hX dX6_judge_22 ?_
      refine r_iload1 hX dX6_judge_25 ?_
      refine l_wM_20 hX dX6_judge_26 hvx ?_
      refine r_ic_eq hX dX6_judge_27 (fun h27 => ?_) (fun h27 => ?_)
      · refine r_iinc1 hX dX6_judge_32 rfl ?_
        refine r_goto hX dX6_judge_35 ?_
        exact ih (i + 1) _ (by rw [hx]; exact nI_1 i) (by omega) (by rw [hs, ffF_none (if_pos (by rw [← hcx']; exact h27))])
      · refine r_iload1 hX dX6_judge_30 ?_
        exact r_iret hX hQ dX6_judge_31 (by rw [hs, ffF_some (if_neg (by rw [← hcx']; exact h27)), hx]) (rfl)
  refine r_push hX dX6_judge_0 ?_
  refine r_istore1 hX dX6_judge_1 rfl ?_
  exact hL2 N 0 _ rfl (by omega) hsp.symm
set_option maxHeartbeats 400000 in
theorem c_X6_first (l : Launch) (g : GT) (b : Nat → Nat) (σ : S2) (z : Int32) (D : Nat) (hD : D ≤ 14) (eD : σ.1 0 = nI D) (N : Nat) (hN : N ≤ 10) (eN : σ.1 36 = nI N) : Cx l g yX6_first cX6_first 6 (some .int) (k2_rm 2 60) [.ref (b 0), .int z] (wM g b σ) (some (.int (firF D N (σ.2 37) (σ.2 38) (σ.2 39) z))) (wM g b σ) := by
  refine meth (own := "ChalkedDoorsModel") (by decide) rfl (Nat.le_of_ble_eq_true rfl) [some (.ref (b 0)), some (.int z), none, none, none, none] rfl (fun X hX hQ => ?_)
  generalize hsp : firF D N (σ.2 37) (σ.2 38) (σ.2 39) z = S at hQ
  unfold firF at hsp
  have hL7 : ∀ (n i : Nat) (x : Int32) (p q : Int32), x = nI i → i + n = 31 → S = firE z (fiG (fun g d => bI (canP N (σ.2 37) (σ.2 38) (σ.2 39) (nI g) (nI d))) z D n i (p, q)) → vJ X 0 0 (wM g b σ) 7 [some (.ref (b 0)), some (.int z), some (.int p), some (.int q), some (.int x), none] [] := by
    intro n
    induction n with
    | zero =>
      intro i x p q hx hn hs
      refine r_iload4 hX dX6_first_7 ?_
      refine r_push hX dX6_first_9 ?_
      refine r_ic_gt hX dX6_first_11 (fun h11 => ?_) (fun h11 => absurd (lgx (e := 30) hx rfl (by omega) (by omega)) h11)
      refine r_iload1 hX dX6_first_73 ?_
      refine r_push hX dX6_first_74 ?_
      refine r_ic_ne hX dX6_first_75 (fun h75 => ?_) (fun h75 => ?_)
      · refine r_iload1 hX dX6_first_82 ?_
        refine r_push hX dX6_first_83 ?_
        refine r_ic_ne hX dX6_first_85 (fun h85 => ?_) (fun h85 => ?_)
        · refine r_push hX dX6_first_92 ?_
          exact r_iret hX hQ dX6_first_93 (by rw [hs]; show _ = some (Value.int (ite _ _ _)); rw [if_neg h75, if_neg h85]) (rfl)
        · refine r_iload3 hX dX6_first_88 ?_
          refine r_goto hX dX6_first_89 ?_
          exact r_iret hX hQ dX6_first_93 (by rw [hs]; show _ = some (Value.int (ite _ _ _)); rw [if_neg h75, if_pos h85]) (rfl)
      · refine r_iload2 hX dX6_first_78 ?_
        refine r_goto hX dX6_first_79 ?_
        exact r_iret hX hQ dX6_first_93 (by rw [hs]; show _ = some (Value.int (ite _ _ _)); rw [if_pos h75]) (rfl)
    | succ n ih =>
      intro i x p q hx hn hs
      have hL17 : ∀ (n2 i2 : Nat) (y : Int32) (p' q' : Int32), y = nI i2 → i2 + n2 = D → fiD ((fun g d => bI (canP N (σ.2 37) (σ.2 38) (σ.2 39) (nI g) (nI d))) i) z i D 0 (p, q) = fiD ((fun g d => bI (canP N (σ.2 37) (σ.2 38) (σ.2 39) (nI g) (nI d))) i) z i n2 i2 (p', q') → vJ X 0 0 (wM g b σ) 17 [some (.ref (b 0)), some (.int z), some (.int p'), some (.int q'), some (.int x), some (.int y)] [] := by
        intro n2
        induction n2 with
        | zero =>
          intro i2 y p' q' hx2 hn2 hT
          refine r_iload5 hX dX6_first_17 ?_
          refine r_aload0 hX dX6_first_19 ?_
          refine g_wM_0_0 hX dX6_first_20 ?_
          refine r_ic_ge hX dX6_first_23 (fun h23 => ?_) (fun h23 => absurd (lpx (e := D) hx2 eD (by omega) (by omega) (by omega)) h23)
          refine r_iinc4 hX dX6_first_67 rfl ?_
          refine r_goto hX dX6_first_70 ?_
          refine r_fg5 ?_
          exact ih (i + 1) _ _ _ (by rw [hx]; exact nI_1 i) (by omega) (by rw [hs, fiG_r (s' := (p', q')) (by rw [hT]; rfl)])
        | succ n2 ih2 =>
          intro i2 y p' q' hx2 hn2 hT
          refine r_iload5 hX dX6_first_17 ?_
          refine r_aload0 hX dX6_first_19 ?_
          refine g_wM_0_0 hX dX6_first_20 ?_
          refine r_ic_ge hX dX6_first_23 (fun h23 => absurd h23 (lpn (e := D) hx2 eD (by omega) (by omega))) (fun h23 => ?_)
          refine r_aload0 hX dX6_first_26 ?_
          refine r_iload4 hX dX6_first_27 ?_
          refine r_iload5 hX dX6_first_29 ?_
          refine r_aV2i hX dX6_first_31 kX6_canBeFirst (c_X6_canBeFirst l g _ _ _ _ N hN eN) ad_wM rfl (by decide) (Nat.le_of_ble_eq_true rfl) ?_
          refine r_if_eq hX dX6_first_34 (fun h34 => ?_) (fun h34 => ?_)
          · refine r_iinc5 hX dX6_first_61 rfl ?_
            refine r_goto hX dX6_first_64 ?_
            exact ih2 (i2 + 1) _ _ _ (by rw [hx2]; exact nI_1 i2) (by omega) (by rw [hT, fiD_s, if_pos (show bI (canP N (σ.2 37) (σ.2 38) (σ.2 39) (nI i) (nI i2)) = 0 by rw [← hx, ← hx2]; exact h34)])
          · refine r_iload2 hX dX6_first_37 ?_
            refine r_iload1 hX dX6_first_38 ?_
            refine r_ic_ne hX dX6_first_39 (fun h39 => ?_) (fun h39 => ?_)
            · refine r_iinc2 hX dX6_first_51 rfl ?_
              refine r_iload3 hX dX6_first_54 ?_
              refine r_push hX dX6_first_55 ?_
              refine r_iload5 hX dX6_first_56 ?_
              refine r_ishl hX dX6_first_58 ?_
              refine r_ior hX dX6_first_59 ?_
              refine r_istore3 hX dX6_first_60 rfl ?_
              refine r_iinc5 hX dX6_first_61 rfl ?_
              refine r_goto hX dX6_first_64 ?_
              exact ih2 (i2 + 1) _ _ _ (by rw [hx2]; exact nI_1 i2) (by omega) (by rw [hT, fiD_s, if_neg (show ¬ bI (canP N (σ.2 37) (σ.2 38) (σ.2 39) (nI i) (nI i2)) = 0 by rw [← hx, ← hx2]; exact h34), if_neg h39, ← hx2])
            · refine r_push hX dX6_first_42 ?_
              refine r_iload4 hX dX6_first_44 ?_
              refine r_imul hX dX6_first_46 ?_
              refine r_iload5 hX dX6_first_47 ?_
              refine r_iadd hX dX6_first_49 ?_
              exact r_iret hX hQ dX6_first_50 (by rw [hs, fiG_l (r := 100 * nI i + nI i2) (by rw [hT, fiD_s, if_neg (show ¬ bI (canP N (σ.2 37) (σ.2 38) (σ.2 39) (nI i) (nI i2)) = 0 by rw [← hx, ← hx2]; exact h34), if_pos h39]), hx, hx2] <;> rfl) (rfl)
      refine r_iload4 hX dX6_first_7 ?_
      refine r_push hX dX6_first_9 ?_
      refine r_ic_gt hX dX6_first_11 (fun h11 => absurd h11 (lgn (e := 30) hx rfl (by decide) (by omega))) (fun h11 => ?_)
      refine r_push hX dX6_first_14 ?_
      refine r_istore5 hX dX6_first_15 rfl ?_
      exact hL17 D 0 _ p q rfl (by omega) rfl
  refine r_push hX dX6_first_0 ?_
  refine r_istore2 hX dX6_first_1 rfl ?_
  refine r_push hX dX6_first_2 ?_
  refine r_istore3 hX dX6_first_3 rfl ?_
  refine r_push hX dX6_first_4 ?_
  refine r_istore4 hX dX6_first_5 rfl ?_
  exact hL7 31 0 _ _ _ rfl (by omega) hsp.symm
set_option maxHeartbeats 400000 in
theorem c_X6_keep0 (l : Launch) (g : GT) (b : Nat → Nat) (σ : S2) (u : Int32) (hu : u = nI 0) (h32 : 32 * u = nI 0) : Cx l g yX6_keep cX6_keep 4 (some .int) (k2_rm 1 30) [.ref (b 0), .int u] (wM g b σ) (some (.int 1)) (wM g b (aw (aw σ 43 (imgF 0 (σ.2 9) (σ.2 10) (σ.1 11) (σ.1 12) (σ.1 13) (σ.2 43))) 44 (upd (σ.2 44) 0 1))) := by
  refine meth (own := "ChalkedDoorsModel") (by decide) rfl (Nat.le_of_ble_eq_true rfl) [some (.ref (b 0)), some (.int u), none, none] rfl (fun X hX hQ => ?_)
  generalize hsp : lp (fun d f => upd (upd f (0 + d) (σ.2 9 d)) (0 + 14 + d) (σ.2 10 d)) 14 0 (σ.2 43) = S
  have hk : ∀ j : Nat, j ≤ 31 → 32 * u + nI j = nI (0 + j) ∧ vp_in (32 * u + nI j) 64 ∧ (32 * u + nI j).toNatClampNeg = 0 + j := fun j hj => by rw [h32, nI_add]; exact ⟨rfl, vp_in_nI (by omega) (by omega), nI_clamp (by omega)⟩
  have hL20 : ∀ (n i : Nat) (x : Int32) (f : Nat → Int32), x = nI i → i + n = 14 → S = lp (fun d f => upd (upd f (0 + d) (σ.2 9 d)) (0 + 14 + d) (σ.2 10 d)) n i f → vJ X 0 0 (wM g b (aw σ 43 f)) 20 [some (.ref (b 0)), some (.int u), some (.int (32 * u)), some (.int x)] [] := by
    intro n
    induction n with
    | zero =>
      intro i x f hx hn hs
      refine r_iload3 hX dX6_keep_20 ?_
      refine r_push hX dX6_keep_21 ?_
      refine r_ic_ge hX dX6_keep_23 (fun h23 => ?_) (fun h23 => absurd (lpx (e := 14) hx rfl (by omega) (by omega) (by omega)) h23)
      refine r_aload0 hX dX6_keep_63 ?_
      refine g_wM_0_43 hX dX6_keep_64 ?_
      refine r_iload2 hX dX6_keep_67 ?_
      refine r_push hX dX6_keep_68 ?_
      refine r_iadd hX dX6_keep_70 ?_
      refine r_aload0 hX dX6_keep_71 ?_
      refine g_wM_0_11 hX dX6_keep_72 ?_
      refine s_wM_21 hX dX6_keep_75 (hk 28 (by decide)).2.1 ?_
      refine r_aload0 hX dX6_keep_76 ?_
      refine g_wM_0_43 hX dX6_keep_77 ?_
      refine r_iload2 hX dX6_keep_80 ?_
      refine r_push hX dX6_keep_81 ?_
      refine r_iadd hX dX6_keep_83 ?_
      refine r_aload0 hX dX6_keep_84 ?_
      refine g_wM_0_12 hX dX6_keep_85 ?_
      refine s_wM_21 hX dX6_keep_88 (hk 29 (by decide)).2.1 ?_
      refine r_aload0 hX dX6_keep_89 ?_
      refine g_wM_0_43 hX dX6_keep_90 ?_
      refine r_iload2 hX dX6_keep_93 ?_
      refine r_push hX dX6_keep_94 ?_
      refine r_iadd hX dX6_keep_96 ?_
      refine r_aload0 hX dX6_keep_97 ?_
      refine g_wM_0_13 hX dX6_keep_98 ?_
      refine s_wM_21 hX dX6_keep_101 (hk 30 (by decide)).2.1 ?_
      refine r_aload0 hX dX6_keep_102 ?_
      refine g_wM_0_44 hX dX6_keep_103 ?_
      refine r_iload1 hX dX6_keep_106 ?_
      refine r_push hX dX6_keep_107 ?_
      refine s_wM_22 hX dX6_keep_108 (by rw [hu]; exact vp_in_nI (by decide) (by decide)) ?_
      refine r_push hX dX6_keep_109 ?_
      exact r_iret hX hQ dX6_keep_110 (rfl) (by have hs : S = f := hs; subst hs; show wM g b (aw (aw σ 43 (upd (upd (upd S ((32 * u + 28 : Int32).toNatClampNeg) (σ.1 11)) ((32 * u + 29 : Int32).toNatClampNeg) (σ.1 12)) ((32 * u + 30 : Int32).toNatClampNeg) (σ.1 13))) 44 (upd (σ.2 44) u.toNatClampNeg 1)) = _; rw [show (32 * u + 28 : Int32).toNatClampNeg = 0 + 28 from (hk 28 (by decide)).2.2, show (32 * u + 29 : Int32).toNatClampNeg = 0 + 29 from (hk 29 (by decide)).2.2, show (32 * u + 30 : Int32).toNatClampNeg = 0 + 30 from (hk 30 (by decide)).2.2, ← hsp, hu]; rfl)
    | succ n ih =>
      intro i x f hx hn hs
      have hvx : vp_in x 14 := by rw [hx]; exact vp_in_nI (by omega) (by omega)
      have hcx : cl x = i := by rw [hx]; exact nI_clamp (by omega)
      have e14 : 32 * u + 14 + x = 32 * u + nI (14 + i) := by rw [hx, show (14 : Int32) = nI 14 from rfl, Int32.add_assoc, nI_add]
      have ex : 32 * u + x = 32 * u + nI i := by rw [hx]
      have e15 : (32 * u + x).toNatClampNeg = 0 + i := by rw [ex]; exact (hk i (by omega)).2.2
      have e16 : (32 * u + 14 + x).toNatClampNeg = 0 + 14 + i := by rw [e14, (hk (14 + i) (by omega)).2.2]; omega
      refine r_iload3 hX dX6_keep_20 ?_
      refine r_push hX dX6_keep_21 ?_
      refine r_ic_ge hX dX6_keep_23 (fun h23 => absurd h23 (lpn (e := 14) hx rfl (by omega) (by omega))) (fun h23 => ?_)
      refine r_aload0 hX dX6_keep_26 ?_
      refine g_wM_0_43 hX dX6_keep_27 ?_
      refine r_iload2 hX dX6_keep_30 ?_
      refine r_iload3 hX dX6_keep_31 ?_
      refine r_iadd hX dX6_keep_32 ?_
      refine r_aload0 hX dX6_keep_33 ?_
      refine g_wM_0_9 hX dX6_keep_34 ?_
      refine r_iload3 hX dX6_keep_37 ?_
      refine l_wM_5 hX dX6_keep_38 hvx ?_
      refine s_wM_21 hX dX6_keep_39 (by rw [ex]; exact (hk i (by omega)).2.1) ?_
      refine r_aload0 hX dX6_keep_40 ?_
      refine g_wM_0_43 hX dX6_keep_41 ?_
      refine r_iload2 hX dX6_keep_44 ?_
      refine r_push hX dX6_keep_45 ?_
      refine r_iadd hX dX6_keep_47 ?_
      refine r_iload3 hX dX6_keep_48 ?_
      refine r_iadd hX dX6_keep_49 ?_
      refine r_aload0 hX dX6_keep_50 ?_
      refine g_wM_0_10 hX dX6_keep_51 ?_
      refine r_iload3 hX dX6_keep_54 ?_
      refine l_wM_6 hX dX6_keep_55 hvx ?_
      refine s_wM_21 hX dX6_keep_56 (by rw [e14]; exact (hk (14 + i) (by omega)).2.1) ?_
      refine r_iinc3 hX dX6_keep_57 rfl ?_
      refine r_goto hX dX6_keep_60 ?_
      refine vJw (w' := wM g b (aw σ 43 (upd (upd f (32 * u + x).toNatClampNeg (σ.2 9 (cl x))) (32 * u + 14 + x).toNatClampNeg (σ.2 10 (cl x))))) rfl ?_
      rw [e15, e16, hcx]
      exact ih (i + 1) _ _ (by rw [hx]; exact nI_1 i) (by omega) (by rw [hs]; rfl)
  refine r_iload1 hX dX6_keep_0 ?_
  refine r_i2l hX dX6_keep_1 ?_
  refine r_pushl hX dX6_keep_2 ?_
  refine r_pushl hX dX6_keep_3 ?_
  refine r_nS3i hX dX6_keep_4 kX6_in (c_X6_in l g _ _ _) (by decide) (Nat.le_of_ble_eq_true rfl) ?_
  refine r_if_ne hX dX6_keep_7 (fun h7 => ?_) (fun h7 => absurd h7 (by rw [hu]; decide))
  refine r_push hX dX6_keep_13 ?_
  refine r_iload1 hX dX6_keep_15 ?_
  refine r_imul hX dX6_keep_16 ?_
  refine r_istore2 hX dX6_keep_17 rfl ?_
  refine r_push hX dX6_keep_18 ?_
  refine r_istore3 hX dX6_keep_19 rfl ?_
  refine vJw (w' := wM g b (aw σ 43 (σ.2 43))) rfl ?_
  exact hL20 14 0 _ _ rfl (by omega) hsp.symm
set_option maxHeartbeats 400000 in
theorem c_X6_keep1 (l : Launch) (g : GT) (b : Nat → Nat) (σ : S2) (u : Int32) (hu : u = nI 1) (h32 : 32 * u = nI 32) : Cx l g yX6_keep cX6_keep 4 (some .int) (k2_rm 1 30) [.ref (b 0), .int u] (wM g b σ) (some (.int 1)) (wM g b (aw (aw σ 43 (imgF 32 (σ.2 9) (σ.2 10) (σ.1 11) (σ.1 12) (σ.1 13) (σ.2 43))) 44 (upd (σ.2 44) 1 1))) := by
  refine meth (own := "ChalkedDoorsModel") (by decide) rfl (Nat.le_of_ble_eq_true rfl) [some (.ref (b 0)), some (.int u), none, none] rfl (fun X hX hQ => ?_)
  generalize hsp : lp (fun d f => upd (upd f (32 + d) (σ.2 9 d)) (32 + 14 + d) (σ.2 10 d)) 14 0 (σ.2 43) = S
  have hk : ∀ j : Nat, j ≤ 31 → 32 * u + nI j = nI (32 + j) ∧ vp_in (32 * u + nI j) 64 ∧ (32 * u + nI j).toNatClampNeg = 32 + j := fun j hj => by rw [h32, nI_add]; exact ⟨rfl, vp_in_nI (by omega) (by omega), nI_clamp (by omega)⟩
  have hL20 : ∀ (n i : Nat) (x : Int32) (f : Nat → Int32), x = nI i → i + n = 14 → S = lp (fun d f => upd (upd f (32 + d) (σ.2 9 d)) (32 + 14 + d) (σ.2 10 d)) n i f → vJ X 0 0 (wM g b (aw σ 43 f)) 20 [some (.ref (b 0)), some (.int u), some (.int (32 * u)), some (.int x)] [] := by
    intro n
    induction n with
    | zero =>
      intro i x f hx hn hs
      refine r_iload3 hX dX6_keep_20 ?_
      refine r_push hX dX6_keep_21 ?_
      refine r_ic_ge hX dX6_keep_23 (fun h23 => ?_) (fun h23 => absurd (lpx (e := 14) hx rfl (by omega) (by omega) (by omega)) h23)
      refine r_aload0 hX dX6_keep_63 ?_
      refine g_wM_0_43 hX dX6_keep_64 ?_
      refine r_iload2 hX dX6_keep_67 ?_
      refine r_push hX dX6_keep_68 ?_
      refine r_iadd hX dX6_keep_70 ?_
      refine r_aload0 hX dX6_keep_71 ?_
      refine g_wM_0_11 hX dX6_keep_72 ?_
      refine s_wM_21 hX dX6_keep_75 (hk 28 (by decide)).2.1 ?_
      refine r_aload0 hX dX6_keep_76 ?_
      refine g_wM_0_43 hX dX6_keep_77 ?_
      refine r_iload2 hX dX6_keep_80 ?_
      refine r_push hX dX6_keep_81 ?_
      refine r_iadd hX dX6_keep_83 ?_
      refine r_aload0 hX dX6_keep_84 ?_
      refine g_wM_0_12 hX dX6_keep_85 ?_
      refine s_wM_21 hX dX6_keep_88 (hk 29 (by decide)).2.1 ?_
      refine r_aload0 hX dX6_keep_89 ?_
      refine g_wM_0_43 hX dX6_keep_90 ?_
      refine r_iload2 hX dX6_keep_93 ?_
      refine r_push hX dX6_keep_94 ?_
      refine r_iadd hX dX6_keep_96 ?_
      refine r_aload0 hX dX6_keep_97 ?_
      refine g_wM_0_13 hX dX6_keep_98 ?_
      refine s_wM_21 hX dX6_keep_101 (hk 30 (by decide)).2.1 ?_
      refine r_aload0 hX dX6_keep_102 ?_
      refine g_wM_0_44 hX dX6_keep_103 ?_
      refine r_iload1 hX dX6_keep_106 ?_
      refine r_push hX dX6_keep_107 ?_
      refine s_wM_22 hX dX6_keep_108 (by rw [hu]; exact vp_in_nI (by decide) (by decide)) ?_
      refine r_push hX dX6_keep_109 ?_
      exact r_iret hX hQ dX6_keep_110 (rfl) (by have hs : S = f := hs; subst hs; show wM g b (aw (aw σ 43 (upd (upd (upd S ((32 * u + 28 : Int32).toNatClampNeg) (σ.1 11)) ((32 * u + 29 : Int32).toNatClampNeg) (σ.1 12)) ((32 * u + 30 : Int32).toNatClampNeg) (σ.1 13))) 44 (upd (σ.2 44) u.toNatClampNeg 1)) = _; rw [show (32 * u + 28 : Int32).toNatClampNeg = 32 + 28 from (hk 28 (by decide)).2.2, show (32 * u + 29 : Int32).toNatClampNeg = 32 + 29 from (hk 29 (by decide)).2.2, show (32 * u + 30 : Int32).toNatClampNeg = 32 + 30 from (hk 30 (by decide)).2.2, ← hsp, hu]; rfl)
    | succ n ih =>
      intro i x f hx hn hs
      have hvx : vp_in x 14 := by rw [hx]; exact vp_in_nI (by omega) (by omega)
      have hcx : cl x = i := by rw [hx]; exact nI_clamp (by omega)
      have e14 : 32 * u + 14 + x = 32 * u + nI (14 + i) := by rw [hx, show (14 : Int32) = nI 14 from rfl, Int32.add_assoc, nI_add]
      have ex : 32 * u + x = 32 * u + nI i := by rw [hx]
      have e15 : (32 * u + x).toNatClampNeg = 32 + i := by rw [ex]; exact (hk i (by omega)).2.2
      have e16 : (32 * u + 14 + x).toNatClampNeg = 32 + 14 + i := by rw [e14, (hk (14 + i) (by omega)).2.2]; omega
      refine r_iload3 hX dX6_keep_20 ?_
      refine r_push hX dX6_keep_21 ?_
      refine r_ic_ge hX dX6_keep_23 (fun h23 => absurd h23 (lpn (e := 14) hx rfl (by omega) (by omega))) (fun h23 => ?_)
      refine r_aload0 hX dX6_keep_26 ?_
      refine g_wM_0_43 hX dX6_keep_27 ?_
      refine r_iload2 hX dX6_keep_30 ?_
      refine r_iload3 hX dX6_keep_31 ?_
      refine r_iadd hX dX6_keep_32 ?_
      refine r_aload0 hX dX6_keep_33 ?_
      refine g_wM_0_9 hX dX6_keep_34 ?_
      refine r_iload3 hX dX6_keep_37 ?_
      refine l_wM_5 hX dX6_keep_38 hvx ?_
      refine s_wM_21 hX dX6_keep_39 (by rw [ex]; exact (hk i (by omega)).2.1) ?_
      refine r_aload0 hX dX6_keep_40 ?_
      refine g_wM_0_43 hX dX6_keep_41 ?_
      refine r_iload2 hX dX6_keep_44 ?_
      refine r_push hX dX6_keep_45 ?_
      refine r_iadd hX dX6_keep_47 ?_
      refine r_iload3 hX dX6_keep_48 ?_
      refine r_iadd hX dX6_keep_49 ?_
      refine r_aload0 hX dX6_keep_50 ?_
      refine g_wM_0_10 hX dX6_keep_51 ?_
      refine r_iload3 hX dX6_keep_54 ?_
      refine l_wM_6 hX dX6_keep_55 hvx ?_
      refine s_wM_21 hX dX6_keep_56 (by rw [e14]; exact (hk (14 + i) (by omega)).2.1) ?_
      refine r_iinc3 hX dX6_keep_57 rfl ?_
      refine r_goto hX dX6_keep_60 ?_
      refine vJw (w' := wM g b (aw σ 43 (upd (upd f (32 * u + x).toNatClampNeg (σ.2 9 (cl x))) (32 * u + 14 + x).toNatClampNeg (σ.2 10 (cl x))))) rfl ?_
      rw [e15, e16, hcx]
      exact ih (i + 1) _ _ (by rw [hx]; exact nI_1 i) (by omega) (by rw [hs]; rfl)
  refine r_iload1 hX dX6_keep_0 ?_
  refine r_i2l hX dX6_keep_1 ?_
  refine r_pushl hX dX6_keep_2 ?_
  refine r_pushl hX dX6_keep_3 ?_
  refine r_nS3i hX dX6_keep_4 kX6_in (c_X6_in l g _ _ _) (by decide) (Nat.le_of_ble_eq_true rfl) ?_
  refine r_if_ne hX dX6_keep_7 (fun h7 => ?_) (fun h7 => absurd h7 (by rw [hu]; decide))
  refine r_push hX dX6_keep_13 ?_
  refine r_iload1 hX dX6_keep_15 ?_
  refine r_imul hX dX6_keep_16 ?_
  refine r_istore2 hX dX6_keep_17 rfl ?_
  refine r_push hX dX6_keep_18 ?_
  refine r_istore3 hX dX6_keep_19 rfl ?_
  refine vJw (w' := wM g b (aw σ 43 (σ.2 43))) rfl ?_
  exact hL20 14 0 _ _ rfl (by omega) hsp.symm
set_option maxHeartbeats 400000 in
theorem c_X6_keepN (l : Launch) (g : GT) (b : Nat → Nat) (σ : S2) (u : Int32) (hu : ¬ inB u.toInt 0 1) : Cx l g yX6_keep cX6_keep 4 (some .int) (k2_rm 1 30) [.ref (b 0), .int u] (wM g b σ) (some (.int (-1000000001))) (wM g b σ) := by
  refine meth (own := "ChalkedDoorsModel") (by decide) rfl (Nat.le_of_ble_eq_true rfl) [some (.ref (b 0)), some (.int u), none, none] rfl (fun X hX hQ => ?_)
  refine r_iload1 hX dX6_keep_0 ?_
  refine r_i2l hX dX6_keep_1 ?_
  refine r_pushl hX dX6_keep_2 ?_
  refine r_pushl hX dX6_keep_3 ?_
  refine r_nS3i hX dX6_keep_4 kX6_in (c_X6_in l g _ _ _) (by decide) (Nat.le_of_ble_eq_true rfl) ?_
  refine r_if_ne hX dX6_keep_7 (fun h7 => absurd (bI_nz h7) (by rw [Int32.toInt_toInt64]; exact hu)) (fun h7 => ?_)
  refine r_push hX dX6_keep_10 ?_
  exact r_iret hX hQ dX6_keep_12 (rfl) (rfl)
set_option maxHeartbeats 400000 in
theorem c_X6_goBack0 (l : Launch) (g : GT) (b : Nat → Nat) (σ : S2) (u : Int32) (hu : u = nI 0) (h32 : 32 * u = nI 0) (hk1 : ¬ σ.2 44 0 = 0) : Cx l g yX6_goBack cX6_goBack 4 (some .int) (k2_rm 1 30) [.ref (b 0), .int u] (wM g b σ) (some (.int 1)) (wM g b (su (su (su (aw (aw σ 9 (bakF 0 (σ.2 43) (σ.2 9, σ.2 10)).1) 10 (bakF 0 (σ.2 43) (σ.2 9, σ.2 10)).2) 11 (σ.2 43 (0 + 28))) 12 (σ.2 43 (0 + 29))) 13 (σ.2 43 (0 + 30)))) := by
  refine meth (own := "ChalkedDoorsModel") (by decide) rfl (Nat.le_of_ble_eq_true rfl) [some (.ref (b 0)), some (.int u), none, none] rfl (fun X hX hQ => ?_)
  generalize hsp : (bakF 0 (σ.2 43) (σ.2 9, σ.2 10)) = S at hQ
  unfold bakF at hsp
  have hk : ∀ j : Nat, j ≤ 31 → vp_in (32 * u + nI j) 64 ∧ (32 * u + nI j).toNatClampNeg = 0 + j := fun j hj => by rw [h32, nI_add]; exact ⟨vp_in_nI (by omega) (by omega), nI_clamp (by omega)⟩
  have hL32 : ∀ (n i : Nat) (x : Int32) (m q : Nat → Int32), x = nI i → i + n = 14 → S = lp (fun d s => (upd s.1 d (σ.2 43 (0 + d)), upd s.2 d (σ.2 43 (0 + 14 + d)))) n i (m, q) → vJ X 0 0 (wM g b (aw (aw σ 9 m) 10 q)) 32 [some (.ref (b 0)), some (.int u), some (.int (32 * u)), some (.int x)] [] := by
    intro n
    induction n with
    | zero =>
      intro i x m q hx hn hs
      refine r_iload3 hX dX6_goBack_32 ?_
      refine r_push hX dX6_goBack_33 ?_
      refine r_ic_ge hX dX6_goBack_35 (fun h35 => ?_) (fun h35 => absurd (lpx (e := 14) hx rfl (by omega) (by omega) (by omega)) h35)
      refine r_aload0 hX dX6_goBack_75 ?_
      refine r_aload0 hX dX6_goBack_76 ?_
      refine g_wM_0_43 hX dX6_goBack_77 ?_
      refine r_iload2 hX dX6_goBack_80 ?_
      refine r_push hX dX6_goBack_81 ?_
      refine r_iadd hX dX6_goBack_83 ?_
      refine l_wM_21 hX dX6_goBack_84 (hk 28 (by decide)).1 ?_
      refine p_wM_0_11 hX dX6_goBack_85 ?_
      refine r_aload0 hX dX6_goBack_88 ?_
      refine r_aload0 hX dX6_goBack_89 ?_
      refine g_wM_0_43 hX dX6_goBack_90 ?_
      refine r_iload2 hX dX6_goBack_93 ?_
      refine r_push hX dX6_goBack_94 ?_
      refine r_iadd hX dX6_goBack_96 ?_
      refine l_wM_21 hX dX6_goBack_97 (hk 29 (by decide)).1 ?_
      refine p_wM_0_12 hX dX6_goBack_98 ?_
      refine r_aload0 hX dX6_goBack_101 ?_
      refine r_aload0 hX dX6_goBack_102 ?_
      refine g_wM_0_43 hX dX6_goBack_103 ?_
      refine r_iload2 hX dX6_goBack_106 ?_
      refine r_push hX dX6_goBack_107 ?_
      refine r_iadd hX dX6_goBack_109 ?_
      refine l_wM_21 hX dX6_goBack_110 (hk 30 (by decide)).1 ?_
      refine p_wM_0_13 hX dX6_goBack_111 ?_
      refine r_push hX dX6_goBack_114 ?_
      exact r_iret hX hQ dX6_goBack_115 (rfl) (by have hs : S = (m, q) := hs; subst hs; show wM g b (su (su (su (aw (aw σ 9 m) 10 q) 11 (σ.2 43 (32 * u + 28 : Int32).toNatClampNeg)) 12 (σ.2 43 (32 * u + 29 : Int32).toNatClampNeg)) 13 (σ.2 43 (32 * u + 30 : Int32).toNatClampNeg)) = _; rw [show (32 * u + 28 : Int32).toNatClampNeg = 0 + 28 from (hk 28 (by decide)).2, show (32 * u + 29 : Int32).toNatClampNeg = 0 + 29 from (hk 29 (by decide)).2, show (32 * u + 30 : Int32).toNatClampNeg = 0 + 30 from (hk 30 (by decide)).2])
    | succ n ih =>
      intro i x m q hx hn hs
      have hvx : vp_in x 14 := by rw [hx]; exact vp_in_nI (by omega) (by omega)
      have hcx : cl x = i := by rw [hx]; exact nI_clamp (by omega)
      have e14 : 32 * u + 14 + x = 32 * u + nI (14 + i) := by rw [hx, show (14 : Int32) = nI 14 from rfl, Int32.add_assoc, nI_add]
      have ex : 32 * u + x = 32 * u + nI i := by rw [hx]
      have e15 : (32 * u + x).toNatClampNeg = 0 + i := by rw [ex]; exact (hk i (by omega)).2
      have e16 : (32 * u + 14 + x).toNatClampNeg = 0 + 14 + i := by rw [e14, (hk (14 + i) (by omega)).2]; omega
      refine r_iload3 hX dX6_goBack_32 ?_
      refine r_push hX dX6_goBack_33 ?_
      refine r_ic_ge hX dX6_goBack_35 (fun h35 => absurd h35 (lpn (e := 14) hx rfl (by omega) (by omega))) (fun h35 => ?_)
      refine r_aload0 hX dX6_goBack_38 ?_
      refine g_wM_0_9 hX dX6_goBack_39 ?_
      refine r_iload3 hX dX6_goBack_42 ?_
      refine r_aload0 hX dX6_goBack_43 ?_
      refine g_wM_0_43 hX dX6_goBack_44 ?_
      refine r_iload2 hX dX6_goBack_47 ?_
      refine r_iload3 hX dX6_goBack_48 ?_
      refine r_iadd hX dX6_goBack_49 ?_
      refine l_wM_21 hX dX6_goBack_50 (by rw [ex]; exact (hk i (by omega)).1) ?_
      refine s_wM_5 hX dX6_goBack_51 hvx ?_
      refine r_aload0 hX dX6_goBack_52 ?_
      refine g_wM_0_10 hX dX6_goBack_53 ?_
      refine r_iload3 hX dX6_goBack_56 ?_
      refine r_aload0 hX dX6_goBack_57 ?_
      refine g_wM_0_43 hX dX6_goBack_58 ?_
      refine r_iload2 hX dX6_goBack_61 ?_
      refine r_push hX dX6_goBack_62 ?_
      refine r_iadd hX dX6_goBack_64 ?_
      refine r_iload3 hX dX6_goBack_65 ?_
      refine r_iadd hX dX6_goBack_66 ?_
      refine l_wM_21 hX dX6_goBack_67 (by rw [e14]; exact (hk (14 + i) (by omega)).1) ?_
      refine s_wM_6 hX dX6_goBack_68 hvx ?_
      refine r_iinc3 hX dX6_goBack_69 rfl ?_
      refine r_goto hX dX6_goBack_72 ?_
      refine vJw (w' := wM g b (aw (aw σ 9 (upd m (cl x) (σ.2 43 (32 * u + x).toNatClampNeg))) 10 (upd q (cl x) (σ.2 43 (32 * u + 14 + x).toNatClampNeg)))) rfl ?_
      rw [e15, e16, hcx]
      exact ih (i + 1) _ _ _ (by rw [hx]; exact nI_1 i) (by omega) (by rw [hs]; rfl)
  refine r_iload1 hX dX6_goBack_0 ?_
  refine r_i2l hX dX6_goBack_1 ?_
  refine r_pushl hX dX6_goBack_2 ?_
  refine r_pushl hX dX6_goBack_3 ?_
  refine r_nS3i hX dX6_goBack_4 kX6_in (c_X6_in l g _ _ _) (by decide) (Nat.le_of_ble_eq_true rfl) ?_
  refine r_if_ne hX dX6_goBack_7 (fun h7 => ?_) (fun h7 => absurd h7 (by rw [hu]; decide))
  refine r_aload0 hX dX6_goBack_13 ?_
  refine g_wM_0_44 hX dX6_goBack_14 ?_
  refine r_iload1 hX dX6_goBack_17 ?_
  refine l_wM_22 hX dX6_goBack_18 (by rw [hu]; exact vp_in_nI (by decide) (by decide)) ?_
  refine r_if_ne hX dX6_goBack_19 (fun h19 => ?_) (fun h19 => absurd h19 (by rw [hu]; exact hk1))
  refine r_push hX dX6_goBack_25 ?_
  refine r_iload1 hX dX6_goBack_27 ?_
  refine r_imul hX dX6_goBack_28 ?_
  refine r_istore2 hX dX6_goBack_29 rfl ?_
  refine r_push hX dX6_goBack_30 ?_
  refine r_istore3 hX dX6_goBack_31 rfl ?_
  refine vJw (w' := wM g b (aw (aw σ 9 (σ.2 9)) 10 (σ.2 10))) rfl ?_
  exact hL32 14 0 _ _ _ rfl (by omega) hsp.symm
set_option maxHeartbeats 400000 in
theorem c_X6_goBackU0 (l : Launch) (g : GT) (b : Nat → Nat) (σ : S2) (u : Int32) (hu : u = nI 0) (hk1 : σ.2 44 0 = 0) : Cx l g yX6_goBack cX6_goBack 4 (some .int) (k2_rm 1 30) [.ref (b 0), .int u] (wM g b σ) (some (.int (-1000000003))) (wM g b σ) := by
  refine meth (own := "ChalkedDoorsModel") (by decide) rfl (Nat.le_of_ble_eq_true rfl) [some (.ref (b 0)), some (.int u), none, none] rfl (fun X hX hQ => ?_)
  refine r_iload1 hX dX6_goBack_0 ?_
  refine r_i2l hX dX6_goBack_1 ?_
  refine r_pushl hX dX6_goBack_2 ?_
  refine r_pushl hX dX6_goBack_3 ?_
  refine r_nS3i hX dX6_goBack_4 kX6_in (c_X6_in l g _ _ _) (by decide) (Nat.le_of_ble_eq_true rfl) ?_
  refine r_if_ne hX dX6_goBack_7 (fun h7 => ?_) (fun h7 => absurd h7 (by rw [hu]; decide))
  refine r_aload0 hX dX6_goBack_13 ?_
  refine g_wM_0_44 hX dX6_goBack_14 ?_
  refine r_iload1 hX dX6_goBack_17 ?_
  refine l_wM_22 hX dX6_goBack_18 (by rw [hu]; exact vp_in_nI (by decide) (by decide)) ?_
  refine r_if_ne hX dX6_goBack_19 (fun h19 => absurd (by rw [hu]; exact hk1) h19) (fun h19 => ?_)
  refine r_push hX dX6_goBack_22 ?_
  exact r_iret hX hQ dX6_goBack_24 (rfl) (rfl)
set_option maxHeartbeats 400000 in
theorem c_X6_goBack1 (l : Launch) (g : GT) (b : Nat → Nat) (σ : S2) (u : Int32) (hu : u = nI 1) (h32 : 32 * u = nI 32) (hk1 : ¬ σ.2 44 1 = 0) : Cx l g yX6_goBack cX6_goBack 4 (some .int) (k2_rm 1 30) [.ref (b 0), .int u] (wM g b σ) (some (.int 1)) (wM g b (su (su (su (aw (aw σ 9 (bakF 32 (σ.2 43) (σ.2 9, σ.2 10)).1) 10 (bakF 32 (σ.2 43) (σ.2 9, σ.2 10)).2) 11 (σ.2 43 (32 + 28))) 12 (σ.2 43 (32 + 29))) 13 (σ.2 43 (32 + 30)))) := by
  refine meth (own := "ChalkedDoorsModel") (by decide) rfl (Nat.le_of_ble_eq_true rfl) [some (.ref (b 0)), some (.int u), none, none] rfl (fun X hX hQ => ?_)
  generalize hsp : (bakF 32 (σ.2 43) (σ.2 9, σ.2 10)) = S at hQ
  unfold bakF at hsp
  have hk : ∀ j : Nat, j ≤ 31 → vp_in (32 * u + nI j) 64 ∧ (32 * u + nI j).toNatClampNeg = 32 + j := fun j hj => by rw [h32, nI_add]; exact ⟨vp_in_nI (by omega) (by omega), nI_clamp (by omega)⟩
  have hL32 : ∀ (n i : Nat) (x : Int32) (m q : Nat → Int32), x = nI i → i + n = 14 → S = lp (fun d s => (upd s.1 d (σ.2 43 (32 + d)), upd s.2 d (σ.2 43 (32 + 14 + d)))) n i (m, q) → vJ X 0 0 (wM g b (aw (aw σ 9 m) 10 q)) 32 [some (.ref (b 0)), some (.int u), some (.int (32 * u)), some (.int x)] [] := by
    intro n
    induction n with
    | zero =>
      intro i x m q hx hn hs
      refine r_iload3 hX dX6_goBack_32 ?_
      refine r_push hX dX6_goBack_33 ?_
      refine r_ic_ge hX dX6_goBack_35 (fun h35 => ?_) (fun h35 => absurd (lpx (e := 14) hx rfl (by omega) (by omega) (by omega)) h35)
      refine r_aload0 hX dX6_goBack_75 ?_
      refine r_aload0 hX dX6_goBack_76 ?_
      refine g_wM_0_43 hX dX6_goBack_77 ?_
      refine r_iload2 hX dX6_goBack_80 ?_
      refine r_push hX dX6_goBack_81 ?_
      refine r_iadd hX dX6_goBack_83 ?_
      refine l_wM_21 hX dX6_goBack_84 (hk 28 (by decide)).1 ?_
      refine p_wM_0_11 hX dX6_goBack_85 ?_
      refine r_aload0 hX dX6_goBack_88 ?_
      refine r_aload0 hX dX6_goBack_89 ?_
      refine g_wM_0_43 hX dX6_goBack_90 ?_
      refine r_iload2 hX dX6_goBack_93 ?_
      refine r_push hX dX6_goBack_94 ?_
      refine r_iadd hX dX6_goBack_96 ?_
      refine l_wM_21 hX dX6_goBack_97 (hk 29 (by decide)).1 ?_
      refine p_wM_0_12 hX dX6_goBack_98 ?_
      refine r_aload0 hX dX6_goBack_101 ?_
      refine r_aload0 hX dX6_goBack_102 ?_
      refine g_wM_0_43 hX dX6_goBack_103 ?_
      refine r_iload2 hX dX6_goBack_106 ?_
      refine r_push hX dX6_goBack_107 ?_
      refine r_iadd hX dX6_goBack_109 ?_
      refine l_wM_21 hX dX6_goBack_110 (hk 30 (by decide)).1 ?_
      refine p_wM_0_13 hX dX6_goBack_111 ?_
      refine r_push hX dX6_goBack_114 ?_
      exact r_iret hX hQ dX6_goBack_115 (rfl) (by have hs : S = (m, q) := hs; subst hs; show wM g b (su (su (su (aw (aw σ 9 m) 10 q) 11 (σ.2 43 (32 * u + 28 : Int32).toNatClampNeg)) 12 (σ.2 43 (32 * u + 29 : Int32).toNatClampNeg)) 13 (σ.2 43 (32 * u + 30 : Int32).toNatClampNeg)) = _; rw [show (32 * u + 28 : Int32).toNatClampNeg = 32 + 28 from (hk 28 (by decide)).2, show (32 * u + 29 : Int32).toNatClampNeg = 32 + 29 from (hk 29 (by decide)).2, show (32 * u + 30 : Int32).toNatClampNeg = 32 + 30 from (hk 30 (by decide)).2])
    | succ n ih =>
      intro i x m q hx hn hs
      have hvx : vp_in x 14 := by rw [hx]; exact vp_in_nI (by omega) (by omega)
      have hcx : cl x = i := by rw [hx]; exact nI_clamp (by omega)
      have e14 : 32 * u + 14 + x = 32 * u + nI (14 + i) := by rw [hx, show (14 : Int32) = nI 14 from rfl, Int32.add_assoc, nI_add]
      have ex : 32 * u + x = 32 * u + nI i := by rw [hx]
      have e15 : (32 * u + x).toNatClampNeg = 32 + i := by rw [ex]; exact (hk i (by omega)).2
      have e16 : (32 * u + 14 + x).toNatClampNeg = 32 + 14 + i := by rw [e14, (hk (14 + i) (by omega)).2]; omega
      refine r_iload3 hX dX6_goBack_32 ?_
      refine r_push hX dX6_goBack_33 ?_
      refine r_ic_ge hX dX6_goBack_35 (fun h35 => absurd h35 (lpn (e := 14) hx rfl (by omega) (by omega))) (fun h35 => ?_)
      refine r_aload0 hX dX6_goBack_38 ?_
      refine g_wM_0_9 hX dX6_goBack_39 ?_
      refine r_iload3 hX dX6_goBack_42 ?_
      refine r_aload0 hX dX6_goBack_43 ?_
      refine g_wM_0_43 hX dX6_goBack_44 ?_
      refine r_iload2 hX dX6_goBack_47 ?_
      refine r_iload3 hX dX6_goBack_48 ?_
      refine r_iadd hX dX6_goBack_49 ?_
      refine l_wM_21 hX dX6_goBack_50 (by rw [ex]; exact (hk i (by omega)).1) ?_
      refine s_wM_5 hX dX6_goBack_51 hvx ?_
      refine r_aload0 hX dX6_goBack_52 ?_
      refine g_wM_0_10 hX dX6_goBack_53 ?_
      refine r_iload3 hX dX6_goBack_56 ?_
      refine r_aload0 hX dX6_goBack_57 ?_
      refine g_wM_0_43 hX dX6_goBack_58 ?_
      refine r_iload2 hX dX6_goBack_61 ?_
      refine r_push hX dX6_goBack_62 ?_
      refine r_iadd hX dX6_goBack_64 ?_
      refine r_iload3 hX dX6_goBack_65 ?_
      refine r_iadd hX dX6_goBack_66 ?_
      refine l_wM_21 hX dX6_goBack_67 (by rw [e14]; exact (hk (14 + i) (by omega)).1) ?_
      refine s_wM_6 hX dX6_goBack_68 hvx ?_
      refine r_iinc3 hX dX6_goBack_69 rfl ?_
      refine r_goto hX dX6_goBack_72 ?_
      refine vJw (w' := wM g b (aw (aw σ 9 (upd m (cl x) (σ.2 43 (32 * u + x).toNatClampNeg))) 10 (upd q (cl x) (σ.2 43 (32 * u + 14 + x).toNatClampNeg)))) rfl ?_
      rw [e15, e16, hcx]
      exact ih (i + 1) _ _ _ (by rw [hx]; exact nI_1 i) (by omega) (by rw [hs]; rfl)
  refine r_iload1 hX dX6_goBack_0 ?_
  refine r_i2l hX dX6_goBack_1 ?_
  refine r_pushl hX dX6_goBack_2 ?_
  refine r_pushl hX dX6_goBack_3 ?_
  refine r_nS3i hX dX6_goBack_4 kX6_in (c_X6_in l g _ _ _) (by decide) (Nat.le_of_ble_eq_true rfl) ?_
  refine r_if_ne hX dX6_goBack_7 (fun h7 => ?_) (fun h7 => absurd h7 (by rw [hu]; decide))
  refine r_aload0 hX dX6_goBack_13 ?_
  refine g_wM_0_44 hX dX6_goBack_14 ?_
  refine r_iload1 hX dX6_goBack_17 ?_
  refine l_wM_22 hX dX6_goBack_18 (by rw [hu]; exact vp_in_nI (by decide) (by decide)) ?_
  refine r_if_ne hX dX6_goBack_19 (fun h19 => ?_) (fun h19 => absurd h19 (by rw [hu]; exact hk1))
  refine r_push hX dX6_goBack_25 ?_
  refine r_iload1 hX dX6_goBack_27 ?_
  refine r_imul hX dX6_goBack_28 ?_
  refine r_istore2 hX dX6_goBack_29 rfl ?_
  refine r_push hX dX6_goBack_30 ?_
  refine r_istore3 hX dX6_goBack_31 rfl ?_
  refine vJw (w' := wM g b (aw (aw σ 9 (σ.2 9)) 10 (σ.2 10))) rfl ?_
  exact hL32 14 0 _ _ _ rfl (by omega) hsp.symm
set_option maxHeartbeats 400000 in
theorem c_X6_goBackU1 (l : Launch) (g : GT) (b : Nat → Nat) (σ : S2) (u : Int32) (hu : u = nI 1) (hk1 : σ.2 44 1 = 0) : Cx l g yX6_goBack cX6_goBack 4 (some .int) (k2_rm 1 30) [.ref (b 0), .int u] (wM g b σ) (some (.int (-1000000003))) (wM g b σ) := by
  refine meth (own := "ChalkedDoorsModel") (by decide) rfl (Nat.le_of_ble_eq_true rfl) [some (.ref (b 0)), some (.int u), none, none] rfl (fun X hX hQ => ?_)
  refine r_iload1 hX dX6_goBack_0 ?_
  refine r_i2l hX dX6_goBack_1 ?_
  refine r_pushl hX dX6_goBack_2 ?_
  refine r_pushl hX dX6_goBack_3 ?_
  refine r_nS3i hX dX6_goBack_4 kX6_in (c_X6_in l g _ _ _) (by decide) (Nat.le_of_ble_eq_true rfl) ?_
  refine r_if_ne hX dX6_goBack_7 (fun h7 => ?_) (fun h7 => absurd h7 (by rw [hu]; decide))
  refine r_aload0 hX dX6_goBack_13 ?_
  refine g_wM_0_44 hX dX6_goBack_14 ?_
  refine r_iload1 hX dX6_goBack_17 ?_
  refine l_wM_22 hX dX6_goBack_18 (by rw [hu]; exact vp_in_nI (by decide) (by decide)) ?_
  refine r_if_ne hX dX6_goBack_19 (fun h19 => absurd (by rw [hu]; exact hk1) h19) (fun h19 => ?_)
  refine r_push hX dX6_goBack_22 ?_
  exact r_iret hX hQ dX6_goBack_24 (rfl) (rfl)
set_option maxHeartbeats 400000 in
theorem c_X6_goBackN (l : Launch) (g : GT) (b : Nat → Nat) (σ : S2) (u : Int32) (hu : ¬ inB u.toInt 0 1) : Cx l g yX6_goBack cX6_goBack 4 (some .int) (k2_rm 1 30) [.ref (b 0), .int u] (wM g b σ) (some (.int (-1000000001))) (wM g b σ) := by
  refine meth (own := "ChalkedDoorsModel") (by decide) rfl (Nat.le_of_ble_eq_true rfl) [some (.ref (b 0)), some (.int u), none, none] rfl (fun X hX hQ => ?_)
  refine r_iload1 hX dX6_goBack_0 ?_
  refine r_i2l hX dX6_goBack_1 ?_
  refine r_pushl hX dX6_goBack_2 ?_
  refine r_pushl hX dX6_goBack_3 ?_
  refine r_nS3i hX dX6_goBack_4 kX6_in (c_X6_in l g _ _ _) (by decide) (Nat.le_of_ble_eq_true rfl) ?_
  refine r_if_ne hX dX6_goBack_7 (fun h7 => absurd (bI_nz h7) (by rw [Int32.toInt_toInt64]; exact hu)) (fun h7 => ?_)
  refine r_push hX dX6_goBack_10 ?_
  exact r_iret hX hQ dX6_goBack_12 (rfl) (rfl)
