theorem g_wRP_2_0 {X : CT} {l : Launch} {g : GT} {own : String} {cc : ByteArray} {R : Room} {cs sl pc nx : Nat} {lv : List (Option Value)} {st : List Value} {b : Nat → Nat} {σ : S2} {d : Nat → Nat} {π : S2} (hX : oK X l g own cc R) (hd : dGf own cc pc 2 0 nx) (k : vJ X cs sl (wRP g b σ d π) nx lv (.int (π.1 0) :: st)) : vJ X cs sl (wRP g b σ d π) pc lv (.ref (d 0) :: st) := r_get hX hd 2 rfl rfl k
theorem fr_wRP_wR_0_1 {g : GT} {b : Nat → Nat} {σ : S2} {d : Nat → Nat} {π : S2} {σ' : S2} : frm (wRP g b σ d π) (wR g b σ) (wR g b σ') (wRP g b σ' d π) := frm_sub [0, 1] [2, 3, 4, 5, 6, 7] rfl rfl rfl rfl rfl rfl
theorem p_wRP_2_0 {X : CT} {l : Launch} {g : GT} {own : String} {cc : ByteArray} {R : Room} {cs sl pc nx : Nat} {lv : List (Option Value)} {st : List Value} {b : Nat → Nat} {σ : S2} {d : Nat → Nat} {π : S2} {v : Int32} (hX : oK X l g own cc R) (hd : dPf own cc pc 2 0 .int nx) (k : vJ X cs sl (wRP g b σ d (su π 0 v)) nx lv st) : vJ X cs sl (wRP g b σ d π) pc lv (.int v :: .ref (d 0) :: st) := r_put hX hd 2 rfl rfl rfl (Nat.le_of_ble_eq_true rfl) _ rfl k
theorem g_wRP_2_8 {X : CT} {l : Launch} {g : GT} {own : String} {cc : ByteArray} {R : Room} {cs sl pc nx : Nat} {lv : List (Option Value)} {st : List Value} {b : Nat → Nat} {σ : S2} {d : Nat → Nat} {π : S2} (hX : oK X l g own cc R) (hd : dGf own cc pc 2 8 nx) (k : vJ X cs sl (wRP g b σ d π) nx lv (.int (π.1 8) :: st)) : vJ X cs sl (wRP g b σ d π) pc lv (.ref (d 0) :: st) := r_get hX hd 2 rfl rfl k
theorem p_wRP_2_8 {X : CT} {l : Launch} {g : GT} {own : String} {cc : ByteArray} {R : Room} {cs sl pc nx : Nat} {lv : List (Option Value)} {st : List Value} {b : Nat → Nat} {σ : S2} {d : Nat → Nat} {π : S2} {v : Int32} (hX : oK X l g own cc R) (hd : dPf own cc pc 2 8 .int nx) (k : vJ X cs sl (wRP g b σ d (su π 8 v)) nx lv st) : vJ X cs sl (wRP g b σ d π) pc lv (.int v :: .ref (d 0) :: st) := r_put hX hd 2 rfl rfl rfl (Nat.le_of_ble_eq_true rfl) _ rfl k
theorem p_wRP_2_9 {X : CT} {l : Launch} {g : GT} {own : String} {cc : ByteArray} {R : Room} {cs sl pc nx : Nat} {lv : List (Option Value)} {st : List Value} {b : Nat → Nat} {σ : S2} {d : Nat → Nat} {π : S2} {v : Int32} (hX : oK X l g own cc R) (hd : dPf own cc pc 2 9 .int nx) (k : vJ X cs sl (wRP g b σ d (su π 9 v)) nx lv st) : vJ X cs sl (wRP g b σ d π) pc lv (.int v :: .ref (d 0) :: st) := r_put hX hd 2 rfl rfl rfl (Nat.le_of_ble_eq_true rfl) _ rfl k
theorem g_wRP_0_6 {X : CT} {l : Launch} {g : GT} {own : String} {cc : ByteArray} {R : Room} {cs sl pc nx : Nat} {lv : List (Option Value)} {st : List Value} {b : Nat → Nat} {σ : S2} {d : Nat → Nat} {π : S2} (hX : oK X l g own cc R) (hd : dGf own cc pc 3 6 nx) (k : vJ X cs sl (wRP g b σ d π) nx lv (.int (σ.1 6) :: st)) : vJ X cs sl (wRP g b σ d π) pc lv (.ref (b 0) :: st) := r_get hX hd 0 rfl rfl k
theorem p_wRP_2_7 {X : CT} {l : Launch} {g : GT} {own : String} {cc : ByteArray} {R : Room} {cs sl pc nx : Nat} {lv : List (Option Value)} {st : List Value} {b : Nat → Nat} {σ : S2} {d : Nat → Nat} {π : S2} {v : Int32} (hX : oK X l g own cc R) (hd : dPf own cc pc 2 7 .int nx) (k : vJ X cs sl (wRP g b σ d (su π 7 v)) nx lv st) : vJ X cs sl (wRP g b σ d π) pc lv (.int v :: .ref (d 0) :: st) := r_put hX hd 2 rfl rfl rfl (Nat.le_of_ble_eq_true rfl) _ rfl k
theorem p_wRP_0_6 {X : CT} {l : Launch} {g : GT} {own : String} {cc : ByteArray} {R : Room} {cs sl pc nx : Nat} {lv : List (Option Value)} {st : List Value} {b : Nat → Nat} {σ : S2} {d : Nat → Nat} {π : S2} {v : Int32} (hX : oK X l g own cc R) (hd : dPf own cc pc 3 6 .boolean nx) (hn : narrow .boolean (.int v) = .int v) (hf : fits .boolean (.int v) = true) (k : vJ X cs sl (wRP g b (su σ 6 v) d π) nx lv st) : vJ X cs sl (wRP g b σ d π) pc lv (.int v :: .ref (b 0) :: st) := r_put hX hd 0 rfl hn hf (Nat.le_of_ble_eq_true rfl) _ rfl k
theorem g_wRP_2_1 {X : CT} {l : Launch} {g : GT} {own : String} {cc : ByteArray} {R : Room} {cs sl pc nx : Nat} {lv : List (Option Value)} {st : List Value} {b : Nat → Nat} {σ : S2} {d : Nat → Nat} {π : S2} (hX : oK X l g own cc R) (hd : dGf own cc pc 2 1 nx) (k : vJ X cs sl (wRP g b σ d π) nx lv (.int (π.1 1) :: st)) : vJ X cs sl (wRP g b σ d π) pc lv (.ref (d 0) :: st) := r_get hX hd 2 rfl rfl k
theorem g_wRP_0_3 {X : CT} {l : Launch} {g : GT} {own : String} {cc : ByteArray} {R : Room} {cs sl pc nx : Nat} {lv : List (Option Value)} {st : List Value} {b : Nat → Nat} {σ : S2} {d : Nat → Nat} {π : S2} (hX : oK X l g own cc R) (hd : dGf own cc pc 3 3 nx) (k : vJ X cs sl (wRP g b σ d π) nx lv (.int (σ.1 3) :: st)) : vJ X cs sl (wRP g b σ d π) pc lv (.ref (b 0) :: st) := r_get hX hd 0 rfl rfl k
theorem fr_wRP_wP_2_7 {g : GT} {b : Nat → Nat} {σ : S2} {d : Nat → Nat} {π : S2} {σ' : S2} : frm (wRP g b σ d π) (wP g d π) (wP g d σ') (wRP g b σ d σ') := frm_sub [2, 3, 4, 5, 6, 7] [0, 1] rfl rfl rfl rfl rfl rfl
theorem g_wRP_0_7 {X : CT} {l : Launch} {g : GT} {own : String} {cc : ByteArray} {R : Room} {cs sl pc nx : Nat} {lv : List (Option Value)} {st : List Value} {b : Nat → Nat} {σ : S2} {d : Nat → Nat} {π : S2} (hX : oK X l g own cc R) (hd : dGf own cc pc 3 7 nx) (k : vJ X cs sl (wRP g b σ d π) nx lv (.int (σ.1 7) :: st)) : vJ X cs sl (wRP g b σ d π) pc lv (.ref (b 0) :: st) := r_get hX hd 0 rfl rfl k
theorem p_wRP_0_7 {X : CT} {l : Launch} {g : GT} {own : String} {cc : ByteArray} {R : Room} {cs sl pc nx : Nat} {lv : List (Option Value)} {st : List Value} {b : Nat → Nat} {σ : S2} {d : Nat → Nat} {π : S2} {v : Int32} (hX : oK X l g own cc R) (hd : dPf own cc pc 3 7 .int nx) (k : vJ X cs sl (wRP g b (su σ 7 v) d π) nx lv st) : vJ X cs sl (wRP g b σ d π) pc lv (.int v :: .ref (b 0) :: st) := r_put hX hd 0 rfl rfl rfl (Nat.le_of_ble_eq_true rfl) _ rfl k
theorem g_wRP_2_6 {X : CT} {l : Launch} {g : GT} {own : String} {cc : ByteArray} {R : Room} {cs sl pc nx : Nat} {lv : List (Option Value)} {st : List Value} {b : Nat → Nat} {σ : S2} {d : Nat → Nat} {π : S2} (hX : oK X l g own cc R) (hd : dGf own cc pc 2 6 nx) (k : vJ X cs sl (wRP g b σ d π) nx lv (.ref (d 5) :: st)) : vJ X cs sl (wRP g b σ d π) pc lv (.ref (d 0) :: st) := r_get hX hd 2 rfl rfl k
theorem s_wRP_7 {X : CT} {l : Launch} {g : GT} {own : String} {cc : ByteArray} {R : Room} {cs sl pc nx : Nat} {lv : List (Option Value)} {st : List Value} {b : Nat → Nat} {σ : S2} {d : Nat → Nat} {π : S2} {i v : Int32} (hX : oK X l g own cc R) (hd : dR cc pc (.iastore) 1 nx) (hi : vp_in i 14) (k : vJ X cs sl (wRP g b σ d (au π 6 i.toNatClampNeg v)) nx lv st) : vJ X cs sl (wRP g b σ d π) pc lv (.int v :: .int i :: .ref (d 5) :: st) := r_iast hX hd 7 rfl hi _ rfl k
theorem g_wRP_0_5 {X : CT} {l : Launch} {g : GT} {own : String} {cc : ByteArray} {R : Room} {cs sl pc nx : Nat} {lv : List (Option Value)} {st : List Value} {b : Nat → Nat} {σ : S2} {d : Nat → Nat} {π : S2} (hX : oK X l g own cc R) (hd : dGf own cc pc 3 5 nx) (k : vJ X cs sl (wRP g b σ d π) nx lv (.int (σ.1 5) :: st)) : vJ X cs sl (wRP g b σ d π) pc lv (.ref (b 0) :: st) := r_get hX hd 0 rfl rfl k
theorem g_wRP_0_2 {X : CT} {l : Launch} {g : GT} {own : String} {cc : ByteArray} {R : Room} {cs sl pc nx : Nat} {lv : List (Option Value)} {st : List Value} {b : Nat → Nat} {σ : S2} {d : Nat → Nat} {π : S2} (hX : oK X l g own cc R) (hd : dGf own cc pc 3 2 nx) (k : vJ X cs sl (wRP g b σ d π) nx lv (.int (σ.1 2) :: st)) : vJ X cs sl (wRP g b σ d π) pc lv (.ref (b 0) :: st) := r_get hX hd 0 rfl rfl k
set_option maxHeartbeats 400000 in
theorem c_X3_readDoors (l : Launch) (g : GT) (b : Nat → Nat) (σ : S2) (d : Nat → Nat) (π : S2)  (hj : RJ σ) : Cx l g yX3_readDoors cX3_readDoors 2 none (k2_rm 2 60) [.ref (b 0), .ref (d 0)] (wRP g b σ d π) none (wRP g b (xDoo σ π).1 d (xDoo σ π).2) := by
  refine meth (own := "ChalkedDoors$Reader") (by decide) rfl (Nat.le_of_ble_eq_true rfl) [some (.ref (b 0)), some (.ref (d 0))] rfl (fun X hX hQ => ?_)
  refine r_aload0 hX dX3_readDoors_0 ?_
  refine r_aload1 hX dX3_readDoors_1 ?_
  refine g_wRP_2_0 hX dX3_readDoors_2 ?_
  refine r_if_le hX dX3_readDoors_5 (fun h5 => ?_) (fun h5 => ?_)
  · refine r_push hX dX3_readDoors_12 ?_
    refine r_cV1v hX dX3_readDoors_13 kX3_passWord fr_wRP_wR_0_1 (c_X3_passWord l g _ _ _) rfl (by decide) (Nat.le_of_ble_eq_true rfl) ?_
    refine r_aload1 hX dX3_readDoors_16 ?_
    refine r_aload0 hX dX3_readDoors_17 ?_
    refine r_push hX dX3_readDoors_18 ?_
    refine r_push hX dX3_readDoors_19 ?_
    refine r_cV2i hX dX3_readDoors_21 kX3_readNumber fr_wRP_wR_0_1 (c_X3_readNumber l g _ _ _ _ (by (repeat with_reducible refine RI_num ?_); exact RI_wrd hj)) rfl (by decide) (Nat.le_of_ble_eq_true rfl) ?_
    refine p_wRP_2_0 hX dX3_readDoors_24 ?_
    refine r_aload0 hX dX3_readDoors_27 ?_
    refine r_cV0v hX dX3_readDoors_28 kX3_passEnd fr_wRP_wR_0_1 (c_X3_passEnd l g _ _ (by (repeat with_reducible refine RI_num ?_); exact RI_wrd hj)) rfl (by decide) (Nat.le_of_ble_eq_true rfl) ?_
    exact r_vret hX hQ dX3_readDoors_31 (by unfold xDoo; rw [bI_f (nlt_of_le h5)] <;> rfl)
  · refine r_push hX dX3_readDoors_8 ?_
    refine r_goto hX dX3_readDoors_9 ?_
    refine r_cV1v hX dX3_readDoors_13 kX3_passWord fr_wRP_wR_0_1 (c_X3_passWord l g _ _ _) rfl (by decide) (Nat.le_of_ble_eq_true rfl) ?_
    refine r_aload1 hX dX3_readDoors_16 ?_
    refine r_aload0 hX dX3_readDoors_17 ?_
    refine r_push hX dX3_readDoors_18 ?_
    refine r_push hX dX3_readDoors_19 ?_
    refine r_cV2i hX dX3_readDoors_21 kX3_readNumber fr_wRP_wR_0_1 (c_X3_readNumber l g _ _ _ _ (by (repeat with_reducible refine RI_num ?_); exact RI_wrd hj)) rfl (by decide) (Nat.le_of_ble_eq_true rfl) ?_
    refine p_wRP_2_0 hX dX3_readDoors_24 ?_
    refine r_aload0 hX dX3_readDoors_27 ?_
    refine r_cV0v hX dX3_readDoors_28 kX3_passEnd fr_wRP_wR_0_1 (c_X3_passEnd l g _ _ (by (repeat with_reducible refine RI_num ?_); exact RI_wrd hj)) rfl (by decide) (Nat.le_of_ble_eq_true rfl) ?_
    exact r_vret hX hQ dX3_readDoors_31 (by unfold xDoo; rw [bI_t (lt_of_nle h5)] <;> rfl)
set_option maxHeartbeats 400000 in
theorem c_X3_readWatchman (l : Launch) (g : GT) (b : Nat → Nat) (σ : S2) (d : Nat → Nat) (π : S2)  (hj : RJ σ) : Cx l g yX3_readWatchman cX3_readWatchman 2 none (k2_rm 2 60) [.ref (b 0), .ref (d 0)] (wRP g b σ d π) none (wRP g b (xWat σ π).1 d (xWat σ π).2) := by
  refine meth (own := "ChalkedDoors$Reader") (by decide) rfl (Nat.le_of_ble_eq_true rfl) [some (.ref (b 0)), some (.ref (d 0))] rfl (fun X hX hQ => ?_)
  refine r_aload0 hX dX3_readWatchman_0 ?_
  refine r_aload1 hX dX3_readWatchman_1 ?_
  refine g_wRP_2_8 hX dX3_readWatchman_2 ?_
  refine r_if_le hX dX3_readWatchman_5 (fun h5 => ?_) (fun h5 => ?_)
  · refine r_push hX dX3_readWatchman_12 ?_
    refine r_cV1v hX dX3_readWatchman_13 kX3_passWord fr_wRP_wR_0_1 (c_X3_passWord l g _ _ _) rfl (by decide) (Nat.le_of_ble_eq_true rfl) ?_
    refine r_aload1 hX dX3_readWatchman_16 ?_
    refine r_aload0 hX dX3_readWatchman_17 ?_
    refine r_push hX dX3_readWatchman_18 ?_
    refine r_push hX dX3_readWatchman_19 ?_
    refine r_cV2i hX dX3_readWatchman_21 kX3_readNumber fr_wRP_wR_0_1 (c_X3_readNumber l g _ _ _ _ (by (repeat with_reducible refine RI_num ?_); exact RI_wrd hj)) rfl (by decide) (Nat.le_of_ble_eq_true rfl) ?_
    refine p_wRP_2_8 hX dX3_readWatchman_24 ?_
    refine r_aload1 hX dX3_readWatchman_27 ?_
    refine r_aload0 hX dX3_readWatchman_28 ?_
    refine r_push hX dX3_readWatchman_29 ?_
    refine r_push hX dX3_readWatchman_30 ?_
    refine r_cV2i hX dX3_readWatchman_32 kX3_readNumber fr_wRP_wR_0_1 (c_X3_readNumber l g _ _ _ _ (by (repeat with_reducible refine RI_num ?_); exact RI_wrd hj)) rfl (by decide) (Nat.le_of_ble_eq_true rfl) ?_
    refine p_wRP_2_9 hX dX3_readWatchman_35 ?_
    refine r_aload0 hX dX3_readWatchman_38 ?_
    refine r_cV0v hX dX3_readWatchman_39 kX3_passEnd fr_wRP_wR_0_1 (c_X3_passEnd l g _ _ (by (repeat with_reducible refine RI_num ?_); exact RI_wrd hj)) rfl (by decide) (Nat.le_of_ble_eq_true rfl) ?_
    exact r_vret hX hQ dX3_readWatchman_42 (by unfold xWat xW1; rw [bI_f (nlt_of_le h5)] <;> rfl)
  · refine r_push hX dX3_readWatchman_8 ?_
    refine r_goto hX dX3_readWatchman_9 ?_
    refine r_cV1v hX dX3_readWatchman_13 kX3_passWord fr_wRP_wR_0_1 (c_X3_passWord l g _ _ _) rfl (by decide) (Nat.le_of_ble_eq_true rfl) ?_
    refine r_aload1 hX dX3_readWatchman_16 ?_
    refine r_aload0 hX dX3_readWatchman_17 ?_
    refine r_push hX dX3_readWatchman_18 ?_
    refine r_push hX dX3_readWatchman_19 ?_
    refine r_cV2i hX dX3_readWatchman_21 kX3_readNumber fr_wRP_wR_0_1 (c_X3_readNumber l g _ _ _ _ (by (repeat with_reducible refine RI_num ?_); exact RI_wrd hj)) rfl (by decide) (Nat.le_of_ble_eq_true rfl) ?_
    refine p_wRP_2_8 hX dX3_readWatchman_24 ?_
    refine r_aload1 hX dX3_readWatchman_27 ?_
    refine r_aload0 hX dX3_readWatchman_28 ?_
    refine r_push hX dX3_readWatchman_29 ?_
    refine r_push hX dX3_readWatchman_30 ?_
    refine r_cV2i hX dX3_readWatchman_32 kX3_readNumber fr_wRP_wR_0_1 (c_X3_readNumber l g _ _ _ _ (by (repeat with_reducible refine RI_num ?_); exact RI_wrd hj)) rfl (by decide) (Nat.le_of_ble_eq_true rfl) ?_
    refine p_wRP_2_9 hX dX3_readWatchman_35 ?_
    refine r_aload0 hX dX3_readWatchman_38 ?_
    refine r_cV0v hX dX3_readWatchman_39 kX3_passEnd fr_wRP_wR_0_1 (c_X3_passEnd l g _ _ (by (repeat with_reducible refine RI_num ?_); exact RI_wrd hj)) rfl (by decide) (Nat.le_of_ble_eq_true rfl) ?_
    exact r_vret hX hQ dX3_readWatchman_42 (by unfold xWat xW1; rw [bI_t (lt_of_nle h5)] <;> rfl)
set_option maxHeartbeats 400000 in
theorem c_X3_readRain (l : Launch) (g : GT) (b : Nat → Nat) (σ : S2) (d : Nat → Nat) (π : S2)  (hj : RJ σ) : Cx l g yX3_readRain cX3_readRain 2 none (k2_rm 2 60) [.ref (b 0), .ref (d 0)] (wRP g b σ d π) none (wRP g b (xRai σ π).1 d (xRai σ π).2) := by
  refine meth (own := "ChalkedDoors$Reader") (by decide) rfl (Nat.le_of_ble_eq_true rfl) [some (.ref (b 0)), some (.ref (d 0))] rfl (fun X hX hQ => ?_)
  refine r_aload0 hX dX3_readRain_0 ?_
  refine r_aload0 hX dX3_readRain_1 ?_
  refine g_wRP_0_6 hX dX3_readRain_2 ?_
  refine r_cV1v hX dX3_readRain_5 kX3_passWord fr_wRP_wR_0_1 (c_X3_passWord l g _ _ _) rfl (by decide) (Nat.le_of_ble_eq_true rfl) ?_
  refine r_aload1 hX dX3_readRain_8 ?_
  refine r_aload0 hX dX3_readRain_9 ?_
  refine r_push hX dX3_readRain_10 ?_
  refine r_push hX dX3_readRain_11 ?_
  refine r_cV2i hX dX3_readRain_13 kX3_readNumber fr_wRP_wR_0_1 (c_X3_readNumber l g _ _ _ _ (by (repeat with_reducible refine RI_num ?_); exact RI_wrd hj)) rfl (by decide) (Nat.le_of_ble_eq_true rfl) ?_
  refine p_wRP_2_7 hX dX3_readRain_16 ?_
  refine r_aload0 hX dX3_readRain_19 ?_
  refine r_push hX dX3_readRain_20 ?_
  refine p_wRP_0_6 hX dX3_readRain_21 rfl rfl ?_
  refine r_aload0 hX dX3_readRain_24 ?_
  refine r_cV0v hX dX3_readRain_25 kX3_passEnd fr_wRP_wR_0_1 (c_X3_passEnd l g _ _ (by exact RI_su (RI_num (RI_wrd hj)) (by decide) (by decide))) rfl (by decide) (Nat.le_of_ble_eq_true rfl) ?_
  exact r_vret hX hQ dX3_readRain_28 (rfl)
set_option maxHeartbeats 400000 in
theorem c_X3_readChalk (l : Launch) (g : GT) (b : Nat → Nat) (σ : S2) (d : Nat → Nat) (π : S2)  (hj : RJ σ) (C : Nat) (hC : C ≤ 4) (eC : π.1 1 = nI C) : Cx l g yX3_readChalk cX3_readChalk 6 none (k2_rm 2 60) [.ref (b 0), .ref (d 0)] (wRP g b σ d π) none (wRP g b (xChk σ π).1 d (xChk σ π).2) := by
  refine meth (own := "ChalkedDoors$Reader") (by decide) rfl (Nat.le_of_ble_eq_true rfl) [some (.ref (b 0)), some (.ref (d 0)), none, none, none, none] rfl (fun X hX hQ => ?_)
  refine r_aload0 hX dX3_readChalk_0 ?_
  refine r_aload1 hX dX3_readChalk_1 ?_
  refine g_wRP_2_1 hX dX3_readChalk_2 ?_
  refine r_push hX dX3_readChalk_5 ?_
  refine r_ic_lt hX dX3_readChalk_6 (fun h6 => ?_) (fun h6 => ?_)
  · refine r_push hX dX3_readChalk_13 ?_
    refine r_cV1v hX dX3_readChalk_14 kX3_passWord fr_wRP_wR_0_1 (c_X3_passWord l g _ _ _) rfl (by decide) (Nat.le_of_ble_eq_true rfl) ?_
    refine r_aload0 hX dX3_readChalk_17 ?_
    refine r_push hX dX3_readChalk_18 ?_
    refine r_push hX dX3_readChalk_19 ?_
    refine r_cV2i hX dX3_readChalk_20 kX3_readNumber fr_wRP_wR_0_1 (c_X3_readNumber l g _ _ _ _ (by (repeat with_reducible refine RI_num ?_); exact RI_wrd hj)) rfl (by decide) (Nat.le_of_ble_eq_true rfl) ?_
    refine r_istore2 hX dX3_readChalk_23 rfl ?_
    refine r_aload0 hX dX3_readChalk_24 ?_
    refine r_push hX dX3_readChalk_25 ?_
    refine r_push hX dX3_readChalk_26 ?_
    refine r_cV2i hX dX3_readChalk_28 kX3_readNumber fr_wRP_wR_0_1 (c_X3_readNumber l g _ _ _ _ (by (repeat with_reducible refine RI_num ?_); exact RI_wrd hj)) rfl (by decide) (Nat.le_of_ble_eq_true rfl) ?_
    refine r_istore3 hX dX3_readChalk_31 rfl ?_
    refine r_aload0 hX dX3_readChalk_32 ?_
    refine r_push hX dX3_readChalk_33 ?_
    refine r_push hX dX3_readChalk_34 ?_
    refine r_cV2i hX dX3_readChalk_36 kX3_readNumber fr_wRP_wR_0_1 (c_X3_readNumber l g _ _ _ _ (by (repeat with_reducible refine RI_num ?_); exact RI_wrd hj)) rfl (by decide) (Nat.le_of_ble_eq_true rfl) ?_
    refine r_istore4 hX dX3_readChalk_39 rfl ?_
    refine r_aload0 hX dX3_readChalk_41 ?_
    refine r_push hX dX3_readChalk_42 ?_
    refine r_push hX dX3_readChalk_43 ?_
    refine r_cV2i hX dX3_readChalk_45 kX3_readNumber fr_wRP_wR_0_1 (c_X3_readNumber l g _ _ _ _ (by (repeat with_reducible refine RI_num ?_); exact RI_wrd hj)) rfl (by decide) (Nat.le_of_ble_eq_true rfl) ?_
    refine r_istore5 hX dX3_readChalk_48 rfl ?_
    refine r_aload0 hX dX3_readChalk_50 ?_
    refine r_cV0v hX dX3_readChalk_51 kX3_passEnd fr_wRP_wR_0_1 (c_X3_passEnd l g _ _ (by (repeat with_reducible refine RI_num ?_); exact RI_wrd hj)) rfl (by decide) (Nat.le_of_ble_eq_true rfl) ?_
    refine r_aload0 hX dX3_readChalk_54 ?_
    refine g_wRP_0_3 hX dX3_readChalk_55 ?_
    refine r_if_ne hX dX3_readChalk_58 (fun h58 => ?_) (fun h58 => ?_)
    · exact r_vret hX hQ dX3_readChalk_71 (by unfold xChk xC4 xC3 xC2 xC1; rw [bI_f (nle_of_lt h6)]; rw [if_neg h58] <;> rfl)
    · refine r_aload1 hX dX3_readChalk_61 ?_
      refine r_iload2 hX dX3_readChalk_62 ?_
      refine r_iload3 hX dX3_readChalk_63 ?_
      refine r_iload4 hX dX3_readChalk_64 ?_
      refine r_iload5 hX dX3_readChalk_66 ?_
      refine r_cV4v hX dX3_readChalk_68 kX2_addChalk fr_wRP_wP_2_7 (c_X2_addChalk l g _ _ _ _ _ _ C hC (by exact eC)) rfl (by decide) (Nat.le_of_ble_eq_true rfl) ?_
      exact r_vret hX hQ dX3_readChalk_71 (by unfold xChk xC4 xC3 xC2 xC1; rw [bI_f (nle_of_lt h6)]; rw [if_pos h58] <;> rfl)
  · refine r_push hX dX3_readChalk_9 ?_
    refine r_goto hX dX3_readChalk_10 ?_
    refine r_cV1v hX dX3_readChalk_14 kX3_passWord fr_wRP_wR_0_1 (c_X3_passWord l g _ _ _) rfl (by decide) (Nat.le_of_ble_eq_true rfl) ?_
    refine r_aload0 hX dX3_readChalk_17 ?_
    refine r_push hX dX3_readChalk_18 ?_
    refine r_push hX dX3_readChalk_19 ?_
    refine r_cV2i hX dX3_readChalk_20 kX3_readNumber fr_wRP_wR_0_1 (c_X3_readNumber l g _ _ _ _ (by (repeat with_reducible refine RI_num ?_); exact RI_wrd hj)) rfl (by decide) (Nat.le_of_ble_eq_true rfl) ?_
    refine r_istore2 hX dX3_readChalk_23 rfl ?_
    refine r_aload0 hX dX3_readChalk_24 ?_
    refine r_push hX dX3_readChalk_25 ?_
    refine r_push hX dX3_readChalk_26 ?_
    refine r_cV2i hX dX3_readChalk_28 kX3_readNumber fr_wRP_wR_0_1 (c_X3_readNumber l g _ _ _ _ (by (repeat with_reducible refine RI_num ?_); exact RI_wrd hj)) rfl (by decide) (Nat.le_of_ble_eq_true rfl) ?_
    refine r_istore3 hX dX3_readChalk_31 rfl ?_
    refine r_aload0 hX dX3_readChalk_32 ?_
    refine r_push hX dX3_readChalk_33 ?_
    refine r_push hX dX3_readChalk_34 ?_
    refine r_cV2i hX dX3_readChalk_36 kX3_readNumber fr_wRP_wR_0_1 (c_X3_readNumber l g _ _ _ _ (by (repeat with_reducible refine RI_num ?_); exact RI_wrd hj)) rfl (by decide) (Nat.le_of_ble_eq_true rfl) ?_
    refine r_istore4 hX dX3_readChalk_39 rfl ?_
    refine r_aload0 hX dX3_readChalk_41 ?_
    refine r_push hX dX3_readChalk_42 ?_
    refine r_push hX dX3_readChalk_43 ?_
    refine r_cV2i hX dX3_readChalk_45 kX3_readNumber fr_wRP_wR_0_1 (c_X3_readNumber l g _ _ _ _ (by (repeat with_reducible refine RI_num ?_); exact RI_wrd hj)) rfl (by decide) (Nat.le_of_ble_eq_true rfl) ?_
    refine r_istore5 hX dX3_readChalk_48 rfl ?_
    refine r_aload0 hX dX3_readChalk_50 ?_
    refine r_cV0v hX dX3_readChalk_51 kX3_passEnd fr_wRP_wR_0_1 (c_X3_passEnd l g _ _ (by (repeat with_reducible refine RI_num ?_); exact RI_wrd hj)) rfl (by decide) (Nat.le_of_ble_eq_true rfl) ?_
    refine r_aload0 hX dX3_readChalk_54 ?_
    refine g_wRP_0_3 hX dX3_readChalk_55 ?_
    refine r_if_ne hX dX3_readChalk_58 (fun h58 => ?_) (fun h58 => ?_)
    · exact r_vret hX hQ dX3_readChalk_71 (by unfold xChk xC4 xC3 xC2 xC1; rw [bI_t (le_of_nlt h6)]; rw [if_neg h58] <;> rfl)
    · refine r_aload1 hX dX3_readChalk_61 ?_
      refine r_iload2 hX dX3_readChalk_62 ?_
      refine r_iload3 hX dX3_readChalk_63 ?_
      refine r_iload4 hX dX3_readChalk_64 ?_
      refine r_iload5 hX dX3_readChalk_66 ?_
      refine r_cV4v hX dX3_readChalk_68 kX2_addChalk fr_wRP_wP_2_7 (c_X2_addChalk l g _ _ _ _ _ _ C hC (by exact eC)) rfl (by decide) (Nat.le_of_ble_eq_true rfl) ?_
      exact r_vret hX hQ dX3_readChalk_71 (by unfold xChk xC4 xC3 xC2 xC1; rw [bI_t (le_of_nlt h6)]; rw [if_pos h58] <;> rfl)
set_option maxHeartbeats 400000 in
theorem c_X3_readMarks (l : Launch) (g : GT) (b : Nat → Nat) (σ : S2) (d : Nat → Nat) (π : S2)  (hj : RJ σ) (D : Nat) (hD : D ≤ 14) (eD : π.1 0 = nI D) (C : Nat) (hC : C ≤ 4) (eC : π.1 1 = nI C) : Cx l g yX3_readMarks cX3_readMarks 4 none (k2_rm 2 60) [.ref (b 0), .ref (d 0)] (wRP g b σ d π) none (wRP g b (xMrk σ π).1 d (xMrk σ π).2) := by
  refine meth (own := "ChalkedDoors$Reader") (by decide) rfl (Nat.le_of_ble_eq_true rfl) [some (.ref (b 0)), some (.ref (d 0)), none, none] rfl (fun X hX hQ => ?_)
  refine r_aload0 hX dX3_readMarks_0 ?_
  refine r_push hX dX3_readMarks_1 ?_
  refine r_cV1v hX dX3_readMarks_2 kX3_passWord fr_wRP_wR_0_1 (c_X3_passWord l g _ _ _) rfl (by decide) (Nat.le_of_ble_eq_true rfl) ?_
  refine r_aload0 hX dX3_readMarks_5 ?_
  refine r_push hX dX3_readMarks_6 ?_
  refine r_aload1 hX dX3_readMarks_7 ?_
  refine g_wRP_2_0 hX dX3_readMarks_8 ?_
  refine r_push hX dX3_readMarks_11 ?_
  refine r_isub hX dX3_readMarks_12 ?_
  refine r_cV2i hX dX3_readMarks_13 kX3_readNumber fr_wRP_wR_0_1 (c_X3_readNumber l g _ _ _ _ (by (repeat with_reducible refine RI_num ?_); exact RI_wrd hj)) rfl (by decide) (Nat.le_of_ble_eq_true rfl) ?_
  refine r_istore2 hX dX3_readMarks_16 rfl ?_
  refine r_aload0 hX dX3_readMarks_17 ?_
  refine g_wRP_0_3 hX dX3_readMarks_18 ?_
  refine r_if_ne hX dX3_readMarks_21 (fun h21 => ?_) (fun h21 => ?_)
  · refine r_aload0 hX dX3_readMarks_44 ?_
    refine r_push hX dX3_readMarks_45 ?_
    refine r_push hX dX3_readMarks_46 ?_
    refine r_aload1 hX dX3_readMarks_47 ?_
    refine g_wRP_2_1 hX dX3_readMarks_48 ?_
    refine r_ishl hX dX3_readMarks_51 ?_
    refine r_push hX dX3_readMarks_52 ?_
    refine r_isub hX dX3_readMarks_53 ?_
    refine r_cV2i hX dX3_readMarks_54 kX3_readNumber fr_wRP_wR_0_1 (c_X3_readNumber l g _ _ _ _ (RI_num (RI_wrd hj))) rfl (by decide) (Nat.le_of_ble_eq_true rfl) ?_
    refine r_istore3 hX dX3_readMarks_57 rfl ?_
    refine r_aload0 hX dX3_readMarks_58 ?_
    refine r_cV0v hX dX3_readMarks_59 kX3_passEnd fr_wRP_wR_0_1 (c_X3_passEnd l g _ _ (RI_num (RI_num (RI_wrd hj)))) rfl (by decide) (Nat.le_of_ble_eq_true rfl) ?_
    refine r_aload0 hX dX3_readMarks_62 ?_
    refine g_wRP_0_3 hX dX3_readMarks_63 ?_
    refine r_if_ne hX dX3_readMarks_66 (fun h66 => ?_) (fun h66 => ?_)
    · exact r_vret hX hQ dX3_readMarks_96 (by have c1 : xM2 σ π = (xM1 σ π).2 := if_neg (fun z => h21 z.1); have c2 : xM3 σ π = xNum 0 (bit (π.1 1) - 1) (xM1 σ π).2 := (by unfold xM3; rw [c1]); unfold xMrk; rw [c2, if_neg (show ¬ ((xEnd (xNum 0 (bit (π.1 1) - 1) (xM1 σ π).2).2).1 3 = 0 ∧ inD (xM1 σ π).1 (π.1 0)) from fun z => h66 z.1)] <;> rfl)
    · refine r_aload1 hX dX3_readMarks_69 ?_
      refine r_iload2 hX dX3_readMarks_70 ?_
      refine r_cV1i hX dX3_readMarks_71 kX2_hasDoor fr_wRP_wP_2_7 (c_X2_hasDoor l g _ _ _) rfl (by decide) (Nat.le_of_ble_eq_true rfl) ?_
      refine r_if_eq hX dX3_readMarks_74 (fun h74 => ?_) (fun h74 => ?_)
      · exact r_vret hX hQ dX3_readMarks_96 (by have c1 : xM2 σ π = (xM1 σ π).2 := if_neg (fun z => h21 z.1); have c2 : xM3 σ π = xNum 0 (bit (π.1 1) - 1) (xM1 σ π).2 := (by unfold xM3; rw [c1]); unfold xMrk; rw [c2, if_neg (show ¬ ((xEnd (xNum 0 (bit (π.1 1) - 1) (xM1 σ π).2).2).1 3 = 0 ∧ inD (xM1 σ π).1 (π.1 0)) from fun z => bI_z h74 z.2)] <;> rfl)
      · refine r_aload0 hX dX3_readMarks_77 ?_
        refine r_dup hX dX3_readMarks_78 rfl ?_
        refine g_wRP_0_7 hX dX3_readMarks_79 ?_
        refine r_push hX dX3_readMarks_82 ?_
        refine r_iload2 hX dX3_readMarks_83 ?_
        refine r_ishl hX dX3_readMarks_84 ?_
        refine r_ior hX dX3_readMarks_85 ?_
        refine p_wRP_0_7 hX dX3_readMarks_86 ?_
        refine r_aload1 hX dX3_readMarks_89 ?_
        refine g_wRP_2_6 hX dX3_readMarks_90 ?_
        refine r_iload2 hX dX3_readMarks_93 ?_
        refine r_iload3 hX dX3_readMarks_94 ?_
        refine s_wRP_7 hX dX3_readMarks_95 (by exact vin (bI_nz h74) eD hD (by decide)) ?_
        exact r_vret hX hQ dX3_readMarks_96 (by have c1 : xM2 σ π = (xM1 σ π).2 := if_neg (fun z => h21 z.1); have c2 : xM3 σ π = xNum 0 (bit (π.1 1) - 1) (xM1 σ π).2 := (by unfold xM3; rw [c1]); unfold xMrk; rw [c2, if_pos (show (xEnd (xNum 0 (bit (π.1 1) - 1) (xM1 σ π).2).2).1 3 = 0 ∧ inD (xM1 σ π).1 (π.1 0) from ⟨h66, bI_nz h74⟩)] <;> rfl)
  · refine r_aload0 hX dX3_readMarks_24 ?_
    refine g_wRP_0_7 hX dX3_readMarks_25 ?_
    refine r_iload2 hX dX3_readMarks_28 ?_
    refine r_nS2i hX dX3_readMarks_29 kX5_has (c_X5_has l g _ _) (by decide) (Nat.le_of_ble_eq_true rfl) ?_
    refine r_if_eq hX dX3_readMarks_32 (fun h32 => ?_) (fun h32 => ?_)
    · refine r_aload0 hX dX3_readMarks_44 ?_
      refine r_push hX dX3_readMarks_45 ?_
      refine r_push hX dX3_readMarks_46 ?_
      refine r_aload1 hX dX3_readMarks_47 ?_
      refine g_wRP_2_1 hX dX3_readMarks_48 ?_
      refine r_ishl hX dX3_readMarks_51 ?_
      refine r_push hX dX3_readMarks_52 ?_
      refine r_isub hX dX3_readMarks_53 ?_
      refine r_cV2i hX dX3_readMarks_54 kX3_readNumber fr_wRP_wR_0_1 (c_X3_readNumber l g _ _ _ _ (RI_num (RI_wrd hj))) rfl (by decide) (Nat.le_of_ble_eq_true rfl) ?_
      refine r_istore3 hX dX3_readMarks_57 rfl ?_
      refine r_aload0 hX dX3_readMarks_58 ?_
      refine r_cV0v hX dX3_readMarks_59 kX3_passEnd fr_wRP_wR_0_1 (c_X3_passEnd l g _ _ (RI_num (RI_num (RI_wrd hj)))) rfl (by decide) (Nat.le_of_ble_eq_true rfl) ?_
      refine r_aload0 hX dX3_readMarks_62 ?_
      refine g_wRP_0_3 hX dX3_readMarks_63 ?_
      refine r_if_ne hX dX3_readMarks_66 (fun h66 => ?_) (fun h66 => ?_)
      · exact r_vret hX hQ dX3_readMarks_96 (by have c1 : xM2 σ π = (xM1 σ π).2 := if_neg (fun z => bI_z h32 z.2); have c2 : xM3 σ π = xNum 0 (bit (π.1 1) - 1) (xM1 σ π).2 := (by unfold xM3; rw [c1]); unfold xMrk; rw [c2, if_neg (show ¬ ((xEnd (xNum 0 (bit (π.1 1) - 1) (xM1 σ π).2).2).1 3 = 0 ∧ inD (xM1 σ π).1 (π.1 0)) from fun z => h66 z.1)] <;> rfl)
      · refine r_aload1 hX dX3_readMarks_69 ?_
        refine r_iload2 hX dX3_readMarks_70 ?_
        refine r_cV1i hX dX3_readMarks_71 kX2_hasDoor fr_wRP_wP_2_7 (c_X2_hasDoor l g _ _ _) rfl (by decide) (Nat.le_of_ble_eq_true rfl) ?_
        refine r_if_eq hX dX3_readMarks_74 (fun h74 => ?_) (fun h74 => ?_)
        · exact r_vret hX hQ dX3_readMarks_96 (by have c1 : xM2 σ π = (xM1 σ π).2 := if_neg (fun z => bI_z h32 z.2); have c2 : xM3 σ π = xNum 0 (bit (π.1 1) - 1) (xM1 σ π).2 := (by unfold xM3; rw [c1]); unfold xMrk; rw [c2, if_neg (show ¬ ((xEnd (xNum 0 (bit (π.1 1) - 1) (xM1 σ π).2).2).1 3 = 0 ∧ inD (xM1 σ π).1 (π.1 0)) from fun z => bI_z h74 z.2)] <;> rfl)
        · refine r_aload0 hX dX3_readMarks_77 ?_
          refine r_dup hX dX3_readMarks_78 rfl ?_
          refine g_wRP_0_7 hX dX3_readMarks_79 ?_
          refine r_push hX dX3_readMarks_82 ?_
          refine r_iload2 hX dX3_readMarks_83 ?_
          refine r_ishl hX dX3_readMarks_84 ?_
          refine r_ior hX dX3_readMarks_85 ?_
          refine p_wRP_0_7 hX dX3_readMarks_86 ?_
          refine r_aload1 hX dX3_readMarks_89 ?_
          refine g_wRP_2_6 hX dX3_readMarks_90 ?_
          refine r_iload2 hX dX3_readMarks_93 ?_
          refine r_iload3 hX dX3_readMarks_94 ?_
          refine s_wRP_7 hX dX3_readMarks_95 (by exact vin (bI_nz h74) eD hD (by decide)) ?_
          exact r_vret hX hQ dX3_readMarks_96 (by have c1 : xM2 σ π = (xM1 σ π).2 := if_neg (fun z => bI_z h32 z.2); have c2 : xM3 σ π = xNum 0 (bit (π.1 1) - 1) (xM1 σ π).2 := (by unfold xM3; rw [c1]); unfold xMrk; rw [c2, if_pos (show (xEnd (xNum 0 (bit (π.1 1) - 1) (xM1 σ π).2).2).1 3 = 0 ∧ inD (xM1 σ π).1 (π.1 0) from ⟨h66, bI_nz h74⟩)] <;> rfl)
    · refine r_aload0 hX dX3_readMarks_35 ?_
      refine r_push hX dX3_readMarks_36 ?_
      refine r_aload0 hX dX3_readMarks_37 ?_
      refine g_wRP_0_5 hX dX3_readMarks_38 ?_
      refine r_cV2v hX dX3_readMarks_41 kX3_fail fr_wRP_wR_0_1 (c_X3_fail l g _ _ _ _) rfl (by decide) (Nat.le_of_ble_eq_true rfl) ?_
      refine r_aload0 hX dX3_readMarks_44 ?_
      refine r_push hX dX3_readMarks_45 ?_
      refine r_push hX dX3_readMarks_46 ?_
      refine r_aload1 hX dX3_readMarks_47 ?_
      refine g_wRP_2_1 hX dX3_readMarks_48 ?_
      refine r_ishl hX dX3_readMarks_51 ?_
      refine r_push hX dX3_readMarks_52 ?_
      refine r_isub hX dX3_readMarks_53 ?_
      refine r_cV2i hX dX3_readMarks_54 kX3_readNumber fr_wRP_wR_0_1 (c_X3_readNumber l g _ _ _ _ (RI_fal (RI_num (RI_wrd hj)))) rfl (by decide) (Nat.le_of_ble_eq_true rfl) ?_
      refine r_istore3 hX dX3_readMarks_57 rfl ?_
      refine r_aload0 hX dX3_readMarks_58 ?_
      refine r_cV0v hX dX3_readMarks_59 kX3_passEnd fr_wRP_wR_0_1 (c_X3_passEnd l g _ _ (RI_num (RI_fal (RI_num (RI_wrd hj))))) rfl (by decide) (Nat.le_of_ble_eq_true rfl) ?_
      refine r_aload0 hX dX3_readMarks_62 ?_
      refine g_wRP_0_3 hX dX3_readMarks_63 ?_
      refine r_if_ne hX dX3_readMarks_66 (fun h66 => ?_) (fun h66 => ?_)
      · exact r_vret hX hQ dX3_readMarks_96 (by have c1 : xM2 σ π = (xFal 4 ((xM1 σ π).2.1 5) (xM1 σ π).2) := if_pos ⟨h21, bI_nz h32⟩; have c2 : xM3 σ π = xNum 0 (bit (π.1 1) - 1) (xFal 4 ((xM1 σ π).2.1 5) (xM1 σ π).2) := (by unfold xM3; rw [c1]); unfold xMrk; rw [c2, if_neg (show ¬ ((xEnd (xNum 0 (bit (π.1 1) - 1) (xFal 4 ((xM1 σ π).2.1 5) (xM1 σ π).2)).2).1 3 = 0 ∧ inD (xM1 σ π).1 (π.1 0)) from fun z => h66 z.1)] <;> rfl)
      · refine r_aload1 hX dX3_readMarks_69 ?_
        refine r_iload2 hX dX3_readMarks_70 ?_
        refine r_cV1i hX dX3_readMarks_71 kX2_hasDoor fr_wRP_wP_2_7 (c_X2_hasDoor l g _ _ _) rfl (by decide) (Nat.le_of_ble_eq_true rfl) ?_
        refine r_if_eq hX dX3_readMarks_74 (fun h74 => ?_) (fun h74 => ?_)
        · exact r_vret hX hQ dX3_readMarks_96 (by have c1 : xM2 σ π = (xFal 4 ((xM1 σ π).2.1 5) (xM1 σ π).2) := if_pos ⟨h21, bI_nz h32⟩; have c2 : xM3 σ π = xNum 0 (bit (π.1 1) - 1) (xFal 4 ((xM1 σ π).2.1 5) (xM1 σ π).2) := (by unfold xM3; rw [c1]); unfold xMrk; rw [c2, if_neg (show ¬ ((xEnd (xNum 0 (bit (π.1 1) - 1) (xFal 4 ((xM1 σ π).2.1 5) (xM1 σ π).2)).2).1 3 = 0 ∧ inD (xM1 σ π).1 (π.1 0)) from fun z => bI_z h74 z.2)] <;> rfl)
        · refine r_aload0 hX dX3_readMarks_77 ?_
          refine r_dup hX dX3_readMarks_78 rfl ?_
          refine g_wRP_0_7 hX dX3_readMarks_79 ?_
          refine r_push hX dX3_readMarks_82 ?_
          refine r_iload2 hX dX3_readMarks_83 ?_
          refine r_ishl hX dX3_readMarks_84 ?_
          refine r_ior hX dX3_readMarks_85 ?_
          refine p_wRP_0_7 hX dX3_readMarks_86 ?_
          refine r_aload1 hX dX3_readMarks_89 ?_
          refine g_wRP_2_6 hX dX3_readMarks_90 ?_
          refine r_iload2 hX dX3_readMarks_93 ?_
          refine r_iload3 hX dX3_readMarks_94 ?_
          refine s_wRP_7 hX dX3_readMarks_95 (by exact vin (bI_nz h74) eD hD (by decide)) ?_
          exact r_vret hX hQ dX3_readMarks_96 (by have c1 : xM2 σ π = (xFal 4 ((xM1 σ π).2.1 5) (xM1 σ π).2) := if_pos ⟨h21, bI_nz h32⟩; have c2 : xM3 σ π = xNum 0 (bit (π.1 1) - 1) (xFal 4 ((xM1 σ π).2.1 5) (xM1 σ π).2) := (by unfold xM3; rw [c1]); unfold xMrk; rw [c2, if_pos (show (xEnd (xNum 0 (bit (π.1 1) - 1) (xFal 4 ((xM1 σ π).2.1 5) (xM1 σ π).2)).2).1 3 = 0 ∧ inD (xM1 σ π).1 (π.1 0) from ⟨h66, bI_nz h74⟩)] <;> rfl)
set_option maxHeartbeats 400000 in
theorem c_X3_readClause (l : Launch) (g : GT) (b : Nat → Nat) (σ : S2) (d : Nat → Nat) (π : S2) (w : Int32) (hj : RJ σ) (D : Nat) (hD : D ≤ 14) (eD : π.1 0 = nI D) (C : Nat) (hC : C ≤ 4) (eC : π.1 1 = nI C) : Cx l g yX3_readClause cX3_readClause 3 none (k2_rm 3 90) [.ref (b 0), .ref (d 0), .int w] (wRP g b σ d π) none (wRP g b (xCla w σ π).1 d (xCla w σ π).2) := by
  refine meth (own := "ChalkedDoors$Reader") (by decide) rfl (Nat.le_of_ble_eq_true rfl) [some (.ref (b 0)), some (.ref (d 0)), some (.int w)] rfl (fun X hX hQ => ?_)
  by_cases hz : ¬ w = 115 ∧ π.1 0 = 0
  · have e0 : xCla w σ π = (xFal 1 (σ.1 2) σ, π) := by unfold xCla; rw [if_pos hz]
    rw [e0] at hQ
    refine r_iload2 hX dX3_readClause_0 ?_
    refine r_push hX dX3_readClause_1 ?_
    refine r_ic_eq hX dX3_readClause_3 (fun h3 => absurd h3 hz.1) (fun h3 => ?_)
    refine r_aload1 hX dX3_readClause_6 ?_
    refine g_wRP_2_0 hX dX3_readClause_7 ?_
    refine r_if_ne hX dX3_readClause_10 (fun h10 => absurd hz.2 h10) (fun h10 => ?_)
    refine r_aload0 hX dX3_readClause_13 ?_
    refine r_push hX dX3_readClause_14 ?_
    refine r_aload0 hX dX3_readClause_15 ?_
    refine g_wRP_0_2 hX dX3_readClause_16 ?_
    refine r_cV2v hX dX3_readClause_19 kX3_fail fr_wRP_wR_0_1 (c_X3_fail l g _ _ _ _) rfl (by decide) (Nat.le_of_ble_eq_true rfl) ?_
    exact r_vret hX hQ dX3_readClause_22 (rfl)
  · unfold xCla at hQ
    rw [if_neg hz] at hQ
    have k24 : vJ X 0 0 (wRP g b σ d π) 23 [some (.ref (b 0)), some (.ref (d 0)), some (.int w)] [] := by
      refine r_iload2 hX dX3_readClause_23 ?_
      by_cases hw115 : w = 115
      · refine r_look (tgt := 76) (off := 52) hX dX3_readClause_24 (by decide) (by rw [hw115]; rfl) (by decide) ?_
        refine r_aload0 hX dX3_readClause_76 ?_
        refine r_aload1 hX dX3_readClause_77 ?_
        refine r_aV1v hX dX3_readClause_78 kX3_readDoors (c_X3_readDoors l g _ _ _ _ hj) ad_wRP rfl (by decide) (Nat.le_of_ble_eq_true rfl) ?_
        refine r_goto hX dX3_readClause_81 ?_
        exact r_vret hX hQ dX3_readClause_125 (by rw [if_pos hw115] <;> rfl)
      · skip
        by_cases hw99 : w = 99
        · refine r_look (tgt := 84) (off := 60) hX dX3_readClause_24 (by decide) (by rw [hw99]; rfl) (by decide) ?_
          refine r_aload0 hX dX3_readClause_84 ?_
          refine r_aload1 hX dX3_readClause_85 ?_
          refine r_aV1v hX dX3_readClause_86 kX3_readChalk (c_X3_readChalk l g _ _ _ _ hj C hC eC) ad_wRP rfl (by decide) (Nat.le_of_ble_eq_true rfl) ?_
          refine r_goto hX dX3_readClause_89 ?_
          exact r_vret hX hQ dX3_readClause_125 (by rw [if_neg hw115, if_pos hw99] <;> rfl)
        · skip
          by_cases hw109 : w = 109
          · refine r_look (tgt := 92) (off := 68) hX dX3_readClause_24 (by decide) (by rw [hw109]; rfl) (by decide) ?_
            refine r_aload0 hX dX3_readClause_92 ?_
            refine r_aload1 hX dX3_readClause_93 ?_
            refine r_aV1v hX dX3_readClause_94 kX3_readMarks (c_X3_readMarks l g _ _ _ _ hj D hD eD C hC eC) ad_wRP rfl (by decide) (Nat.le_of_ble_eq_true rfl) ?_
            refine r_goto hX dX3_readClause_97 ?_
            exact r_vret hX hQ dX3_readClause_125 (by rw [if_neg hw115, if_neg hw99, if_pos hw109] <;> rfl)
          · skip
            by_cases hw114 : w = 114
            · refine r_look (tgt := 100) (off := 76) hX dX3_readClause_24 (by decide) (by rw [hw114]; rfl) (by decide) ?_
              refine r_aload0 hX dX3_readClause_100 ?_
              refine r_aload1 hX dX3_readClause_101 ?_
              refine r_aV1v hX dX3_readClause_102 kX3_readRain (c_X3_readRain l g _ _ _ _ hj) ad_wRP rfl (by decide) (Nat.le_of_ble_eq_true rfl) ?_
              refine r_goto hX dX3_readClause_105 ?_
              exact r_vret hX hQ dX3_readClause_125 (by rw [if_neg hw115, if_neg hw99, if_neg hw109, if_pos hw114] <;> rfl)
            · skip
              by_cases hw119 : w = 119
              · refine r_look (tgt := 108) (off := 84) hX dX3_readClause_24 (by decide) (by rw [hw119]; rfl) (by decide) ?_
                refine r_aload0 hX dX3_readClause_108 ?_
                refine r_aload1 hX dX3_readClause_109 ?_
                refine r_aV1v hX dX3_readClause_110 kX3_readWatchman (c_X3_readWatchman l g _ _ _ _ hj) ad_wRP rfl (by decide) (Nat.le_of_ble_eq_true rfl) ?_
                refine r_goto hX dX3_readClause_113 ?_
                exact r_vret hX hQ dX3_readClause_125 (by rw [if_neg hw115, if_neg hw99, if_neg hw109, if_neg hw114, if_pos hw119] <;> rfl)
              · skip
                refine r_look (tgt := 116) (off := 92) hX dX3_readClause_24 (by decide) (by show Op.lookupswitch.offset [(99, 60), (109, 68), (114, 76), (115, 52), (119, 84)] 92 _ = _; rw [lv_osw (k := 99) (a := 99) hw99 rfl, lv_osw (k := 109) (a := 109) hw109 rfl, lv_osw (k := 114) (a := 114) hw114 rfl, lv_osw (k := 115) (a := 115) hw115 rfl, lv_osw (k := 119) (a := 119) hw119 rfl]; rfl) (by decide) ?_
                refine r_aload0 hX dX3_readClause_116 ?_
                refine r_push hX dX3_readClause_117 ?_
                refine r_aload0 hX dX3_readClause_118 ?_
                refine g_wRP_0_2 hX dX3_readClause_119 ?_
                refine r_cV2v hX dX3_readClause_122 kX3_fail fr_wRP_wR_0_1 (c_X3_fail l g _ _ _ _) rfl (by decide) (Nat.le_of_ble_eq_true rfl) ?_
                exact r_vret hX hQ dX3_readClause_125 (by rw [if_neg hw115, if_neg hw99, if_neg hw109, if_neg hw114, if_neg hw119] <;> rfl)
    refine r_iload2 hX dX3_readClause_0 ?_
    refine r_push hX dX3_readClause_1 ?_
    refine r_ic_eq hX dX3_readClause_3 (fun h3 => ?_) (fun h3 => ?_)
    · exact k24
    · refine r_aload1 hX dX3_readClause_6 ?_
      refine g_wRP_2_0 hX dX3_readClause_7 ?_
      refine r_if_ne hX dX3_readClause_10 (fun h10 => ?_) (fun h10 => absurd ⟨h3, h10⟩ hz)
      exact k24
