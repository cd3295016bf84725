theorem g_wM_0_0 {X : CT} {l : Launch} {g : GT} {own : String} {cc : ByteArray} {R : Room} {cs sl pc nx : Nat} {lv : List (Option Value)} {st : List Value} {b : Nat → Nat} {σ : S2} (hX : oK X l g own cc R) (hd : dGf own cc pc 6 0 nx) (k : vJ X cs sl (wM g b σ) nx lv (.int (σ.1 0) :: st)) : vJ X cs sl (wM g b σ) pc lv (.ref (b 0) :: st) := r_get hX hd 0 rfl rfl k
theorem g_wM_0_1 {X : CT} {l : Launch} {g : GT} {own : String} {cc : ByteArray} {R : Room} {cs sl pc nx : Nat} {lv : List (Option Value)} {st : List Value} {b : Nat → Nat} {σ : S2} (hX : oK X l g own cc R) (hd : dGf own cc pc 6 1 nx) (k : vJ X cs sl (wM g b σ) nx lv (.int (σ.1 1) :: st)) : vJ X cs sl (wM g b σ) pc lv (.ref (b 0) :: st) := r_get hX hd 0 rfl rfl k
theorem g_wM_0_16 {X : CT} {l : Launch} {g : GT} {own : String} {cc : ByteArray} {R : Room} {cs sl pc nx : Nat} {lv : List (Option Value)} {st : List Value} {b : Nat → Nat} {σ : S2} (hX : oK X l g own cc R) (hd : dGf own cc pc 6 16 nx) (k : vJ X cs sl (wM g b σ) nx lv (.int (σ.1 16) :: st)) : vJ X cs sl (wM g b σ) pc lv (.ref (b 0) :: st) := r_get hX hd 0 rfl rfl k
theorem g_wM_0_2 {X : CT} {l : Launch} {g : GT} {own : String} {cc : ByteArray} {R : Room} {cs sl pc nx : Nat} {lv : List (Option Value)} {st : List Value} {b : Nat → Nat} {σ : S2} (hX : oK X l g own cc R) (hd : dGf own cc pc 6 2 nx) (k : vJ X cs sl (wM g b σ) nx lv (.ref (b 1) :: st)) : vJ X cs sl (wM g b σ) pc lv (.ref (b 0) :: st) := r_get hX hd 0 rfl rfl k
theorem l_wM_1 {X : CT} {l : Launch} {g : GT} {own : String} {cc : ByteArray} {R : Room} {cs sl pc nx : Nat} {lv : List (Option Value)} {st : List Value} {b : Nat → Nat} {σ : S2} {i : Int32} (hX : oK X l g own cc R) (hd : dR cc pc (.iaload) 1 nx) (hi : vp_in i 4) (k : vJ X cs sl (wM g b σ) nx lv (.int (σ.2 2 i.toNatClampNeg) :: st)) : vJ X cs sl (wM g b σ) pc lv (.int i :: .ref (b 1) :: st) := r_iald hX hd 1 rfl hi k
theorem g_wM_0_3 {X : CT} {l : Launch} {g : GT} {own : String} {cc : ByteArray} {R : Room} {cs sl pc nx : Nat} {lv : List (Option Value)} {st : List Value} {b : Nat → Nat} {σ : S2} (hX : oK X l g own cc R) (hd : dGf own cc pc 6 3 nx) (k : vJ X cs sl (wM g b σ) nx lv (.ref (b 2) :: st)) : vJ X cs sl (wM g b σ) pc lv (.ref (b 0) :: st) := r_get hX hd 0 rfl rfl k
theorem l_wM_2 {X : CT} {l : Launch} {g : GT} {own : String} {cc : ByteArray} {R : Room} {cs sl pc nx : Nat} {lv : List (Option Value)} {st : List Value} {b : Nat → Nat} {σ : S2} {i : Int32} (hX : oK X l g own cc R) (hd : dR cc pc (.iaload) 1 nx) (hi : vp_in i 4) (k : vJ X cs sl (wM g b σ) nx lv (.int (σ.2 3 i.toNatClampNeg) :: st)) : vJ X cs sl (wM g b σ) pc lv (.int i :: .ref (b 2) :: st) := r_iald hX hd 2 rfl hi k
theorem g_wM_0_12 {X : CT} {l : Launch} {g : GT} {own : String} {cc : ByteArray} {R : Room} {cs sl pc nx : Nat} {lv : List (Option Value)} {st : List Value} {b : Nat → Nat} {σ : S2} (hX : oK X l g own cc R) (hd : dGf own cc pc 6 12 nx) (k : vJ X cs sl (wM g b σ) nx lv (.int (σ.1 12) :: st)) : vJ X cs sl (wM g b σ) pc lv (.ref (b 0) :: st) := r_get hX hd 0 rfl rfl k
theorem g_wM_0_4 {X : CT} {l : Launch} {g : GT} {own : String} {cc : ByteArray} {R : Room} {cs sl pc nx : Nat} {lv : List (Option Value)} {st : List Value} {b : Nat → Nat} {σ : S2} (hX : oK X l g own cc R) (hd : dGf own cc pc 6 4 nx) (k : vJ X cs sl (wM g b σ) nx lv (.ref (b 3) :: st)) : vJ X cs sl (wM g b σ) pc lv (.ref (b 0) :: st) := r_get hX hd 0 rfl rfl k
theorem l_wM_3 {X : CT} {l : Launch} {g : GT} {own : String} {cc : ByteArray} {R : Room} {cs sl pc nx : Nat} {lv : List (Option Value)} {st : List Value} {b : Nat → Nat} {σ : S2} {i : Int32} (hX : oK X l g own cc R) (hd : dR cc pc (.iaload) 1 nx) (hi : vp_in i 4) (k : vJ X cs sl (wM g b σ) nx lv (.int (σ.2 4 i.toNatClampNeg) :: st)) : vJ X cs sl (wM g b σ) pc lv (.int i :: .ref (b 3) :: st) := r_iald hX hd 3 rfl hi k
theorem p_wM_0_12 {X : CT} {l : Launch} {g : GT} {own : String} {cc : ByteArray} {R : Room} {cs sl pc nx : Nat} {lv : List (Option Value)} {st : List Value} {b : Nat → Nat} {σ : S2} {v : Int32} (hX : oK X l g own cc R) (hd : dPf own cc pc 6 12 .int nx) (k : vJ X cs sl (wM g b (su σ 12 v)) nx lv st) : vJ X cs sl (wM g b σ) pc lv (.int v :: .ref (b 0) :: st) := r_put hX hd 0 rfl rfl rfl (Nat.le_of_ble_eq_true rfl) _ rfl k
set_option maxHeartbeats 400000 in
theorem c_X6_isAhead (l : Launch) (g : GT)  (s k : Int32)  : Cx l g yX6_isAhead cX6_isAhead 4 (some .boolean) (k2_rm 0 0) [.int s, .int k] [] (some (.int (@ite _ (aheadF s k) (Classical.propDecidable _) 1 0))) [] := by
  refine meth (own := "ChalkedDoorsModel") (by decide) rfl (Nat.le_of_ble_eq_true rfl) [some (.int s), some (.int k), none, none] rfl (fun X hX hQ => ?_)
  refine r_iload0 hX dX6_isAhead_0 ?_
  refine r_iload1 hX dX6_isAhead_1 ?_
  refine r_ixor hX dX6_isAhead_2 ?_
  refine r_istore2 hX dX6_isAhead_3 rfl ?_
  refine r_iload2 hX dX6_isAhead_4 ?_
  refine r_iload2 hX dX6_isAhead_5 ?_
  refine r_ineg hX dX6_isAhead_6 ?_
  refine r_iand hX dX6_isAhead_7 ?_
  refine r_istore3 hX dX6_isAhead_8 rfl ?_
  refine r_iload0 hX dX6_isAhead_9 ?_
  refine r_iload3 hX dX6_isAhead_10 ?_
  refine r_iand hX dX6_isAhead_11 ?_
  refine r_if_eq hX dX6_isAhead_12 (fun h12 => ?_) (fun h12 => ?_)
  · refine r_push hX dX6_isAhead_19 ?_
    exact r_zret hX hQ dX6_isAhead_20 rfl (by first | (rw [if_pos (show aheadF s k from h12)]; done) | (rw [if_neg (show ¬ aheadF s k from fun h => h h12)]; done)) (rfl)
  · refine r_push hX dX6_isAhead_15 ?_
    refine r_goto hX dX6_isAhead_16 ?_
    exact r_zret hX hQ dX6_isAhead_20 rfl (by first | (rw [if_pos (show aheadF s k from h12)]; done) | (rw [if_neg (show ¬ aheadF s k from fun h => h h12)]; done)) (rfl)
set_option maxHeartbeats 400000 in
theorem c_X6_isDoor (l : Launch) (g : GT) (b : Nat → Nat) (σ : S2) (d : Int32) (D : Nat) (hD : D ≤ 14) (eD : σ.1 0 = nI D) : Cx l g yX6_isDoor cX6_isDoor 2 (some .boolean) (k2_rm 1 30) [.ref (b 0), .int d] (wM g b σ) (some (.int (bI (inD d (σ.1 0))))) (wM g b σ) := by
  refine meth (own := "ChalkedDoorsModel") (by decide) rfl (Nat.le_of_ble_eq_true rfl) [some (.ref (b 0)), some (.int d)] rfl (fun X hX hQ => ?_)
  refine r_iload1 hX dX6_isDoor_0 ?_
  refine r_i2l hX dX6_isDoor_1 ?_
  refine r_pushl hX dX6_isDoor_2 ?_
  refine r_aload0 hX dX6_isDoor_3 ?_
  refine g_wM_0_0 hX dX6_isDoor_4 ?_
  refine r_push hX dX6_isDoor_7 ?_
  refine r_isub hX dX6_isDoor_8 ?_
  refine r_i2l hX dX6_isDoor_9 ?_
  refine r_nS3i hX dX6_isDoor_10 kX6_in (c_X6_in l g _ _ _) (by decide) (Nat.le_of_ble_eq_true rfl) ?_
  exact r_zret hX hQ dX6_isDoor_13 bI_n (by rw [bI_c (inD_B eD (by omega))]) (rfl)
set_option maxHeartbeats 400000 in
theorem c_X6_isChalk (l : Launch) (g : GT) (b : Nat → Nat) (σ : S2) (d : Int32) (C : Nat) (hC : C ≤ 4) (eC : σ.1 1 = nI C) : Cx l g yX6_isChalk cX6_isChalk 2 (some .boolean) (k2_rm 1 30) [.ref (b 0), .int d] (wM g b σ) (some (.int (bI (inD d (σ.1 1))))) (wM g b σ) := by
  refine meth (own := "ChalkedDoorsModel") (by decide) rfl (Nat.le_of_ble_eq_true rfl) [some (.ref (b 0)), some (.int d)] rfl (fun X hX hQ => ?_)
  refine r_iload1 hX dX6_isChalk_0 ?_
  refine r_i2l hX dX6_isChalk_1 ?_
  refine r_pushl hX dX6_isChalk_2 ?_
  refine r_aload0 hX dX6_isChalk_3 ?_
  refine g_wM_0_1 hX dX6_isChalk_4 ?_
  refine r_push hX dX6_isChalk_7 ?_
  refine r_isub hX dX6_isChalk_8 ?_
  refine r_i2l hX dX6_isChalk_9 ?_
  refine r_nS3i hX dX6_isChalk_10 kX6_in (c_X6_in l g _ _ _) (by decide) (Nat.le_of_ble_eq_true rfl) ?_
  exact r_zret hX hQ dX6_isChalk_13 bI_n (by rw [bI_c (inD_B eC (by omega))]) (rfl)
set_option maxHeartbeats 400000 in
theorem c_X6_isSet (l : Launch) (g : GT) (b : Nat → Nat) (σ : S2) (d : Int32) (C : Nat) (hC : C ≤ 4) (eC : σ.1 1 = nI C) : Cx l g yX6_isSet cX6_isSet 2 (some .boolean) (k2_rm 1 30) [.ref (b 0), .int d] (wM g b σ) (some (.int (bI (stD d (σ.1 1))))) (wM g b σ) := by
  refine meth (own := "ChalkedDoorsModel") (by decide) rfl (Nat.le_of_ble_eq_true rfl) [some (.ref (b 0)), some (.int d)] rfl (fun X hX hQ => ?_)
  refine r_iload1 hX dX6_isSet_0 ?_
  refine r_i2l hX dX6_isSet_1 ?_
  refine r_pushl hX dX6_isSet_2 ?_
  refine r_push hX dX6_isSet_3 ?_
  refine r_aload0 hX dX6_isSet_4 ?_
  refine g_wM_0_1 hX dX6_isSet_5 ?_
  refine r_ishl hX dX6_isSet_8 ?_
  refine r_push hX dX6_isSet_9 ?_
  refine r_isub hX dX6_isSet_10 ?_
  refine r_i2l hX dX6_isSet_11 ?_
  refine r_nS3i hX dX6_isSet_12 kX6_in (c_X6_in l g _ _ _) (by decide) (Nat.le_of_ble_eq_true rfl) ?_
  exact r_zret hX hQ dX6_isSet_15 bI_n (by rw [bI_c (stD_B eC (by omega))]) (rfl)
set_option maxHeartbeats 400000 in
theorem c_X6_fault (l : Launch) (g : GT) (b : Nat → Nat) (σ : S2)   : Cx l g yX6_fault cX6_fault 1 (some .int) (k2_rm 0 0) [.ref (b 0)] (wM g b σ) (some (.int (σ.1 16))) (wM g b σ) := by
  refine meth (own := "ChalkedDoorsModel") (by decide) rfl (Nat.le_of_ble_eq_true rfl) [some (.ref (b 0))] rfl (fun X hX hQ => ?_)
  refine r_aload0 hX dX6_fault_0 ?_
  refine g_wM_0_16 hX dX6_fault_1 ?_
  exact r_iret hX hQ dX6_fault_4 (rfl) (rfl)
set_option maxHeartbeats 400000 in
theorem c_X6_washedBy (l : Launch) (g : GT) (b : Nat → Nat) (σ : S2) (c : Int32) (hc : vp_in c 4) : Cx l g yX6_washedBy cX6_washedBy 2 (some .int) (k2_rm 0 0) [.ref (b 0), .int c] (wM g b σ) (some (.int (wshF (σ.2 2 (cl c)) (σ.2 3 (cl c))))) (wM g b σ) := by
  refine meth (own := "ChalkedDoorsModel") (by decide) rfl (Nat.le_of_ble_eq_true rfl) [some (.ref (b 0)), some (.int c)] rfl (fun X hX hQ => ?_)
  refine r_aload0 hX dX6_washedBy_0 ?_
  refine g_wM_0_2 hX dX6_washedBy_1 ?_
  refine r_iload1 hX dX6_washedBy_4 ?_
  refine l_wM_1 hX dX6_washedBy_5 hc ?_
  refine r_if_ne hX dX6_washedBy_6 (fun h6 => ?_) (fun h6 => ?_)
  · refine r_aload0 hX dX6_washedBy_18 ?_
    refine g_wM_0_2 hX dX6_washedBy_19 ?_
    refine r_iload1 hX dX6_washedBy_22 ?_
    refine l_wM_1 hX dX6_washedBy_23 hc ?_
    refine r_push hX dX6_washedBy_24 ?_
    refine r_ic_ne hX dX6_washedBy_25 (fun h25 => ?_) (fun h25 => ?_)
    · refine r_push hX dX6_washedBy_39 ?_
      exact r_iret hX hQ dX6_washedBy_40 (by rw [wshF_eq]; first | (rw [if_pos h6]; done) | (rw [if_neg h6, if_pos h25]; done) | (rw [if_neg h6, if_neg h25]; done)) (rfl)
    · refine r_aload0 hX dX6_washedBy_28 ?_
      refine g_wM_0_3 hX dX6_washedBy_29 ?_
      refine r_iload1 hX dX6_washedBy_32 ?_
      refine l_wM_2 hX dX6_washedBy_33 hc ?_
      refine r_push hX dX6_washedBy_34 ?_
      refine r_idiv hX dX6_washedBy_35 (by decide) ?_
      refine r_goto hX dX6_washedBy_36 ?_
      exact r_iret hX hQ dX6_washedBy_40 (by rw [wshF_eq]; first | (rw [if_pos h6]; done) | (rw [if_neg h6, if_pos h25]; done) | (rw [if_neg h6, if_neg h25]; done)) (rfl)
  · refine r_aload0 hX dX6_washedBy_9 ?_
    refine g_wM_0_3 hX dX6_washedBy_10 ?_
    refine r_iload1 hX dX6_washedBy_13 ?_
    refine l_wM_2 hX dX6_washedBy_14 hc ?_
    refine r_goto hX dX6_washedBy_15 ?_
    exact r_iret hX hQ dX6_washedBy_40 (by rw [wshF_eq]; first | (rw [if_pos h6]; done) | (rw [if_neg h6, if_pos h25]; done) | (rw [if_neg h6, if_neg h25]; done)) (rfl)
set_option maxHeartbeats 400000 in
theorem c_X6_pay (l : Launch) (g : GT) (b : Nat → Nat) (σ : S2) (c : Int32) (hc : vp_in c 4) : Cx l g yX6_pay cX6_pay 2 none (k2_rm 0 0) [.ref (b 0), .int c] (wM g b σ) none (wM g b (su σ 12 (payF (σ.1 12) (σ.2 4 (cl c))))) := by
  refine meth (own := "ChalkedDoorsModel") (by decide) rfl (Nat.le_of_ble_eq_true rfl) [some (.ref (b 0)), some (.int c)] rfl (fun X hX hQ => ?_)
  refine r_aload0 hX dX6_pay_0 ?_
  refine r_aload0 hX dX6_pay_1 ?_
  refine g_wM_0_12 hX dX6_pay_2 ?_
  refine r_aload0 hX dX6_pay_5 ?_
  refine g_wM_0_4 hX dX6_pay_6 ?_
  refine r_iload1 hX dX6_pay_9 ?_
  refine l_wM_3 hX dX6_pay_10 hc ?_
  refine r_iadd hX dX6_pay_11 ?_
  refine r_push hX dX6_pay_12 ?_
  refine r_ic_le hX dX6_pay_14 (fun h14 => ?_) (fun h14 => ?_)
  · refine r_aload0 hX dX6_pay_22 ?_
    refine g_wM_0_12 hX dX6_pay_23 ?_
    refine r_aload0 hX dX6_pay_26 ?_
    refine g_wM_0_4 hX dX6_pay_27 ?_
    refine r_iload1 hX dX6_pay_30 ?_
    refine l_wM_3 hX dX6_pay_31 hc ?_
    refine r_iadd hX dX6_pay_32 ?_
    refine p_wM_0_12 hX dX6_pay_33 ?_
    exact r_vret hX hQ dX6_pay_36 (by rw [payF_eq]; first | (rw [if_pos h14]; done) | (rw [if_neg h14]; done))
  · refine r_push hX dX6_pay_17 ?_
    refine r_goto hX dX6_pay_19 ?_
    refine p_wM_0_12 hX dX6_pay_33 ?_
    exact r_vret hX hQ dX6_pay_36 (by rw [payF_eq]; first | (rw [if_pos h14]; done) | (rw [if_neg h14]; done))
