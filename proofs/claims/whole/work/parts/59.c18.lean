theorem g_wX_0_2 {X : CT} {l : Launch} {g : GT} {own : String} {cc : ByteArray} {R : Room} {cs sl pc nx : Nat} {lv : List (Option Value)} {st : List Value} {x : Nat} {a : Nat → Nat → Nat} {kp : Int32} {rd : S2} {nw : S2} {i0 : S2} {i1 : S2} {fa : S2} {bo : S2} {pl : S2} {dr : S2} (hX : oK X l g own cc R) (hd : dGf own cc pc 5 2 nx) (k : vJ X cs sl (wX g x a kp rd nw i0 i1 fa bo pl dr) nx lv (.ref (a 2 0) :: st)) : vJ X cs sl (wX g x a kp rd nw i0 i1 fa bo pl dr) pc lv (.ref (x) :: st) := r_get hX hd 0 rfl rfl k
theorem g_wX_0_3 {X : CT} {l : Launch} {g : GT} {own : String} {cc : ByteArray} {R : Room} {cs sl pc nx : Nat} {lv : List (Option Value)} {st : List Value} {x : Nat} {a : Nat → Nat → Nat} {kp : Int32} {rd : S2} {nw : S2} {i0 : S2} {i1 : S2} {fa : S2} {bo : S2} {pl : S2} {dr : S2} (hX : oK X l g own cc R) (hd : dGf own cc pc 5 3 nx) (k : vJ X cs sl (wX g x a kp rd nw i0 i1 fa bo pl dr) nx lv (.ref (a 3 0) :: st)) : vJ X cs sl (wX g x a kp rd nw i0 i1 fa bo pl dr) pc lv (.ref (x) :: st) := r_get hX hd 0 rfl rfl k
theorem fr_wX_wSS_6_5 {g : GT} {x : Nat} {a : Nat → Nat → Nat} {kp : Int32} {rd : S2} {nw : S2} {i0 : S2} {i1 : S2} {fa : S2} {bo : S2} {pl : S2} {dr : S2} {σ' : S2} {τ' : S2} : frm (wX g x a kp rd nw i0 i1 fa bo pl dr) (wSS g (a 2) i0 (a 1) nw) (wSS g (a 2) σ' (a 1) τ') (wX g x a kp rd τ' σ' i1 fa bo pl dr) := frm_msk [6, 7, 8, 3, 4, 5] (fW_f (fW_f (fW_f (fW_t rfl (fW_t rfl (fW_t rfl (fW_t rfl (fW_t rfl (fW_t rfl (fW_f (fW_f (fW_f (fW_f (fW_f (fW_f (fW_f (fW_f (fW_f (fW_f (fW_f (fW_f (fW_f (fW_f (fW_f (fW_f (fW_f (fW_f (fW_f (fW_f (fW_f (fW_f (fW_n)))))))))))))))))))))))))))))))) rfl rfl rfl rfl
theorem g_wX_0_8 {X : CT} {l : Launch} {g : GT} {own : String} {cc : ByteArray} {R : Room} {cs sl pc nx : Nat} {lv : List (Option Value)} {st : List Value} {x : Nat} {a : Nat → Nat → Nat} {kp : Int32} {rd : S2} {nw : S2} {i0 : S2} {i1 : S2} {fa : S2} {bo : S2} {pl : S2} {dr : S2} (hX : oK X l g own cc R) (hd : dGf own cc pc 5 8 nx) (k : vJ X cs sl (wX g x a kp rd nw i0 i1 fa bo pl dr) nx lv (.int kp :: st)) : vJ X cs sl (wX g x a kp rd nw i0 i1 fa bo pl dr) pc lv (.ref (x) :: st) := r_get hX hd 0 rfl rfl k
theorem p_wX_0_8 {X : CT} {l : Launch} {g : GT} {own : String} {cc : ByteArray} {R : Room} {cs sl pc nx : Nat} {lv : List (Option Value)} {st : List Value} {x : Nat} {a : Nat → Nat → Nat} {kp : Int32} {rd : S2} {nw : S2} {i0 : S2} {i1 : S2} {fa : S2} {bo : S2} {pl : S2} {dr : S2} {v : Int32} (hX : oK X l g own cc R) (hd : dPf own cc pc 5 8 .int nx) (k : vJ X cs sl (wX g x a v rd nw i0 i1 fa bo pl dr) nx lv st) : vJ X cs sl (wX g x a kp rd nw i0 i1 fa bo pl dr) pc lv (.int v :: .ref (x) :: st) := r_put hX hd 0 rfl rfl rfl (Nat.le_of_ble_eq_true rfl) _ rfl k
theorem fr_wX_wSS_3_8 {g : GT} {x : Nat} {a : Nat → Nat → Nat} {kp : Int32} {rd : S2} {nw : S2} {i0 : S2} {i1 : S2} {fa : S2} {bo : S2} {pl : S2} {dr : S2} {σ' : S2} {τ' : S2} : frm (wX g x a kp rd nw i0 i1 fa bo pl dr) (wSS g (a 1) nw (a 2) i0) (wSS g (a 1) σ' (a 2) τ') (wX g x a kp rd σ' τ' i1 fa bo pl dr) := frm_msk [3, 4, 5, 6, 7, 8] (fW_f (fW_f (fW_f (fW_t rfl (fW_t rfl (fW_t rfl (fW_t rfl (fW_t rfl (fW_t rfl (fW_f (fW_f (fW_f (fW_f (fW_f (fW_f (fW_f (fW_f (fW_f (fW_f (fW_f (fW_f (fW_f (fW_f (fW_f (fW_f (fW_f (fW_f (fW_f (fW_f (fW_f (fW_f (fW_n)))))))))))))))))))))))))))))))) rfl rfl rfl rfl
theorem fr_wX_wSS_9_5 {g : GT} {x : Nat} {a : Nat → Nat → Nat} {kp : Int32} {rd : S2} {nw : S2} {i0 : S2} {i1 : S2} {fa : S2} {bo : S2} {pl : S2} {dr : S2} {σ' : S2} {τ' : S2} : frm (wX g x a kp rd nw i0 i1 fa bo pl dr) (wSS g (a 3) i1 (a 1) nw) (wSS g (a 3) σ' (a 1) τ') (wX g x a kp rd τ' i0 σ' fa bo pl dr) := frm_msk [9, 10, 11, 3, 4, 5] (fW_f (fW_f (fW_f (fW_t rfl (fW_t rfl (fW_t rfl (fW_f (fW_f (fW_f (fW_t rfl (fW_t rfl (fW_t rfl (fW_f (fW_f (fW_f (fW_f (fW_f (fW_f (fW_f (fW_f (fW_f (fW_f (fW_f (fW_f (fW_f (fW_f (fW_f (fW_f (fW_f (fW_f (fW_f (fW_n)))))))))))))))))))))))))))))))) rfl rfl rfl rfl
theorem fr_wX_wSS_3_11 {g : GT} {x : Nat} {a : Nat → Nat → Nat} {kp : Int32} {rd : S2} {nw : S2} {i0 : S2} {i1 : S2} {fa : S2} {bo : S2} {pl : S2} {dr : S2} {σ' : S2} {τ' : S2} : frm (wX g x a kp rd nw i0 i1 fa bo pl dr) (wSS g (a 1) nw (a 3) i1) (wSS g (a 1) σ' (a 3) τ') (wX g x a kp rd σ' i0 τ' fa bo pl dr) := frm_msk [3, 4, 5, 9, 10, 11] (fW_f (fW_f (fW_f (fW_t rfl (fW_t rfl (fW_t rfl (fW_f (fW_f (fW_f (fW_t rfl (fW_t rfl (fW_t rfl (fW_f (fW_f (fW_f (fW_f (fW_f (fW_f (fW_f (fW_f (fW_f (fW_f (fW_f (fW_f (fW_f (fW_f (fW_f (fW_f (fW_f (fW_f (fW_f (fW_n)))))))))))))))))))))))))))))))) rfl rfl rfl rfl
def bcm (σ τ : S2) : S2 := su (su (su (aw (aw σ 0 (cpN 14 (τ.2 0) (σ.2 0))) 1 (cpN 14 (τ.2 1) (σ.2 1))) 2 (τ.1 2)) 3 (τ.1 3)) 4 (τ.1 4)
set_option maxHeartbeats 400000 in
theorem c_X5_imageOf0 (l : Launch) (g : GT) (x : Nat) (a : Nat → Nat → Nat) (kp : Int32) (rd : S2) (nw : S2) (i0 : S2) (i1 : S2) (fa : S2) (bo : S2) (pl : S2) (dr : S2) (u : Int32) (hu : u = 0) : Cx l g yX5_imageOf cX5_imageOf 2 (some (.object "ChalkedDoors$Scene")) (k2_rm 0 0) [.ref (x), .int u] (wX g x a kp rd nw i0 i1 fa bo pl dr) (some (.ref (a 2 0))) (wX g x a kp rd nw i0 i1 fa bo pl dr) := by
  refine meth (own := "ChalkedDoors") (by decide) rfl (Nat.le_of_ble_eq_true rfl) [some (.ref (x)), some (.int u)] rfl (fun X hX hQ => ?_)
  refine r_iload1 hX dX5_imageOf_0 ?_
  refine r_if_ne hX dX5_imageOf_1 (fun h1 => absurd hu h1) (fun h1 => ?_)
  refine r_aload0 hX dX5_imageOf_4 ?_
  refine g_wX_0_2 hX dX5_imageOf_5 ?_
  refine r_goto hX dX5_imageOf_8 ?_
  exact r_aret hX hQ dX5_imageOf_15 (rfl) (rfl)
set_option maxHeartbeats 400000 in
theorem c_X5_imageOf1 (l : Launch) (g : GT) (x : Nat) (a : Nat → Nat → Nat) (kp : Int32) (rd : S2) (nw : S2) (i0 : S2) (i1 : S2) (fa : S2) (bo : S2) (pl : S2) (dr : S2) (u : Int32) (hu : ¬ u = 0) : Cx l g yX5_imageOf cX5_imageOf 2 (some (.object "ChalkedDoors$Scene")) (k2_rm 0 0) [.ref (x), .int u] (wX g x a kp rd nw i0 i1 fa bo pl dr) (some (.ref (a 3 0))) (wX g x a kp rd nw i0 i1 fa bo pl dr) := by
  refine meth (own := "ChalkedDoors") (by decide) rfl (Nat.le_of_ble_eq_true rfl) [some (.ref (x)), some (.int u)] rfl (fun X hX hQ => ?_)
  refine r_iload1 hX dX5_imageOf_0 ?_
  refine r_if_ne hX dX5_imageOf_1 (fun h1 => ?_) (fun h1 => absurd h1 hu)
  refine r_aload0 hX dX5_imageOf_11 ?_
  refine g_wX_0_3 hX dX5_imageOf_12 ?_
  exact r_aret hX hQ dX5_imageOf_15 (rfl) (rfl)
set_option maxHeartbeats 400000 in
theorem c_X5_keep0 (l : Launch) (g : GT) (x : Nat) (a : Nat → Nat → Nat) (kp : Int32) (rd : S2) (nw : S2) (i0 : S2) (i1 : S2) (fa : S2) (bo : S2) (pl : S2) (dr : S2) (u : Int32) (hu : u = 0) : Cx l g yX5_keep cX5_keep 2 (some .int) (k2_rm 2 60) [.ref (x), .int u] (wX g x a kp rd nw i0 i1 fa bo pl dr) (some (.int 1)) (wX g x a (kp ||| bit u) rd nw (bcm i0 nw) i1 fa bo pl dr) := by
  refine meth (own := "ChalkedDoors") (by decide) rfl (Nat.le_of_ble_eq_true rfl) [some (.ref (x)), some (.int u)] rfl (fun X hX hQ => ?_)
  refine r_iload1 hX dX5_keep_0 ?_
  refine r_if_lt hX dX5_keep_1 (fun h1 => absurd h1 (by rw [hu]; decide)) (fun h1 => ?_)
  refine r_iload1 hX dX5_keep_4 ?_
  refine r_push hX dX5_keep_5 ?_
  refine r_ic_le hX dX5_keep_6 (fun h6 => ?_) (fun h6 => absurd (by rw [hu]; decide) h6)
  refine r_aload0 hX dX5_keep_12 ?_
  refine r_iload1 hX dX5_keep_13 ?_
  refine r_aV1i hX dX5_keep_14 kX5_imageOf (c_X5_imageOf0 l g _ _ _ _ _ _ _ _ _ _ _ _ hu) ad_wX rfl (by decide) (Nat.le_of_ble_eq_true rfl) ?_
  refine r_aload0 hX dX5_keep_17 ?_
  refine g_wX_0_1 hX dX5_keep_18 ?_
  refine r_cV1v hX dX5_keep_21 kX4_become fr_wX_wSS_6_5 (c_X4_become l g _ _ _ _) rfl (by decide) (Nat.le_of_ble_eq_true rfl) ?_
  refine r_aload0 hX dX5_keep_24 ?_
  refine r_dup hX dX5_keep_25 rfl ?_
  refine g_wX_0_8 hX dX5_keep_26 ?_
  refine r_push hX dX5_keep_29 ?_
  refine r_iload1 hX dX5_keep_30 ?_
  refine r_ishl hX dX5_keep_31 ?_
  refine r_ior hX dX5_keep_32 ?_
  refine p_wX_0_8 hX dX5_keep_33 ?_
  refine r_push hX dX5_keep_36 ?_
  exact r_iret hX hQ dX5_keep_37 (rfl) (by rfl)
set_option maxHeartbeats 400000 in
theorem c_X5_goBack0 (l : Launch) (g : GT) (x : Nat) (a : Nat → Nat → Nat) (kp : Int32) (rd : S2) (nw : S2) (i0 : S2) (i1 : S2) (fa : S2) (bo : S2) (pl : S2) (dr : S2) (u : Int32) (hu : u = 0) (hk : hb kp u) : Cx l g yX5_goBack cX5_goBack 2 (some .int) (k2_rm 2 60) [.ref (x), .int u] (wX g x a kp rd nw i0 i1 fa bo pl dr) (some (.int 1)) (wX g x a kp rd (bcm nw i0) i0 i1 fa bo pl dr) := by
  refine meth (own := "ChalkedDoors") (by decide) rfl (Nat.le_of_ble_eq_true rfl) [some (.ref (x)), some (.int u)] rfl (fun X hX hQ => ?_)
  refine r_iload1 hX dX5_goBack_0 ?_
  refine r_if_lt hX dX5_goBack_1 (fun h1 => absurd h1 (by rw [hu]; decide)) (fun h1 => ?_)
  refine r_iload1 hX dX5_goBack_4 ?_
  refine r_push hX dX5_goBack_5 ?_
  refine r_ic_le hX dX5_goBack_6 (fun h6 => ?_) (fun h6 => absurd (by rw [hu]; decide) h6)
  refine r_aload0 hX dX5_goBack_12 ?_
  refine g_wX_0_8 hX dX5_goBack_13 ?_
  refine r_iload1 hX dX5_goBack_16 ?_
  refine r_nS2i hX dX5_goBack_17 kX5_has (c_X5_has l g _ _) (by decide) (Nat.le_of_ble_eq_true rfl) ?_
  refine r_if_ne hX dX5_goBack_20 (fun h20 => ?_) (fun h20 => absurd hk (bI_z h20))
  refine r_aload0 hX dX5_goBack_26 ?_
  refine g_wX_0_1 hX dX5_goBack_27 ?_
  refine r_aload0 hX dX5_goBack_30 ?_
  refine r_iload1 hX dX5_goBack_31 ?_
  refine r_aV1i hX dX5_goBack_32 kX5_imageOf (c_X5_imageOf0 l g _ _ _ _ _ _ _ _ _ _ _ _ hu) ad_wX rfl (by decide) (Nat.le_of_ble_eq_true rfl) ?_
  refine r_cV1v hX dX5_goBack_35 kX4_become fr_wX_wSS_3_8 (c_X4_become l g _ _ _ _) rfl (by decide) (Nat.le_of_ble_eq_true rfl) ?_
  refine r_push hX dX5_goBack_38 ?_
  exact r_iret hX hQ dX5_goBack_39 (rfl) (by rfl)
set_option maxHeartbeats 400000 in
theorem c_X5_goBackU0 (l : Launch) (g : GT) (x : Nat) (a : Nat → Nat → Nat) (kp : Int32) (rd : S2) (nw : S2) (i0 : S2) (i1 : S2) (fa : S2) (bo : S2) (pl : S2) (dr : S2) (u : Int32) (hu : u = 0) (hk : ¬ hb kp u) : Cx l g yX5_goBack cX5_goBack 2 (some .int) (k2_rm 2 60) [.ref (x), .int u] (wX g x a kp rd nw i0 i1 fa bo pl dr) (some (.int (-1000000003))) (wX g x a kp rd nw i0 i1 fa bo pl dr) := by
  refine meth (own := "ChalkedDoors") (by decide) rfl (Nat.le_of_ble_eq_true rfl) [some (.ref (x)), some (.int u)] rfl (fun X hX hQ => ?_)
  refine r_iload1 hX dX5_goBack_0 ?_
  refine r_if_lt hX dX5_goBack_1 (fun h1 => absurd h1 (by rw [hu]; decide)) (fun h1 => ?_)
  refine r_iload1 hX dX5_goBack_4 ?_
  refine r_push hX dX5_goBack_5 ?_
  refine r_ic_le hX dX5_goBack_6 (fun h6 => ?_) (fun h6 => absurd (by rw [hu]; decide) h6)
  refine r_aload0 hX dX5_goBack_12 ?_
  refine g_wX_0_8 hX dX5_goBack_13 ?_
  refine r_iload1 hX dX5_goBack_16 ?_
  refine r_nS2i hX dX5_goBack_17 kX5_has (c_X5_has l g _ _) (by decide) (Nat.le_of_ble_eq_true rfl) ?_
  refine r_if_ne hX dX5_goBack_20 (fun h20 => absurd (bI_nz h20) hk) (fun h20 => ?_)
  refine r_push hX dX5_goBack_23 ?_
  exact r_iret hX hQ dX5_goBack_25 (rfl) (rfl)
set_option maxHeartbeats 400000 in
theorem c_X5_keep1 (l : Launch) (g : GT) (x : Nat) (a : Nat → Nat → Nat) (kp : Int32) (rd : S2) (nw : S2) (i0 : S2) (i1 : S2) (fa : S2) (bo : S2) (pl : S2) (dr : S2) (u : Int32) (hu : u = 1) : Cx l g yX5_keep cX5_keep 2 (some .int) (k2_rm 2 60) [.ref (x), .int u] (wX g x a kp rd nw i0 i1 fa bo pl dr) (some (.int 1)) (wX g x a (kp ||| bit u) rd nw i0 (bcm i1 nw) fa bo pl dr) := by
  refine meth (own := "ChalkedDoors") (by decide) rfl (Nat.le_of_ble_eq_true rfl) [some (.ref (x)), some (.int u)] rfl (fun X hX hQ => ?_)
  refine r_iload1 hX dX5_keep_0 ?_
  refine r_if_lt hX dX5_keep_1 (fun h1 => absurd h1 (by rw [hu]; decide)) (fun h1 => ?_)
  refine r_iload1 hX dX5_keep_4 ?_
  refine r_push hX dX5_keep_5 ?_
  refine r_ic_le hX dX5_keep_6 (fun h6 => ?_) (fun h6 => absurd (by rw [hu]; decide) h6)
  refine r_aload0 hX dX5_keep_12 ?_
  refine r_iload1 hX dX5_keep_13 ?_
  refine r_aV1i hX dX5_keep_14 kX5_imageOf (c_X5_imageOf1 l g _ _ _ _ _ _ _ _ _ _ _ _ (by rw [hu]; decide)) ad_wX rfl (by decide) (Nat.le_of_ble_eq_true rfl) ?_
  refine r_aload0 hX dX5_keep_17 ?_
  refine g_wX_0_1 hX dX5_keep_18 ?_
  refine r_cV1v hX dX5_keep_21 kX4_become fr_wX_wSS_9_5 (c_X4_become l g _ _ _ _) rfl (by decide) (Nat.le_of_ble_eq_true rfl) ?_
  refine r_aload0 hX dX5_keep_24 ?_
  refine r_dup hX dX5_keep_25 rfl ?_
  refine g_wX_0_8 hX dX5_keep_26 ?_
  refine r_push hX dX5_keep_29 ?_
  refine r_iload1 hX dX5_keep_30 ?_
  refine r_ishl hX dX5_keep_31 ?_
  refine r_ior hX dX5_keep_32 ?_
  refine p_wX_0_8 hX dX5_keep_33 ?_
  refine r_push hX dX5_keep_36 ?_
  exact r_iret hX hQ dX5_keep_37 (rfl) (by rfl)
set_option maxHeartbeats 400000 in
theorem c_X5_goBack1 (l : Launch) (g : GT) (x : Nat) (a : Nat → Nat → Nat) (kp : Int32) (rd : S2) (nw : S2) (i0 : S2) (i1 : S2) (fa : S2) (bo : S2) (pl : S2) (dr : S2) (u : Int32) (hu : u = 1) (hk : hb kp u) : Cx l g yX5_goBack cX5_goBack 2 (some .int) (k2_rm 2 60) [.ref (x), .int u] (wX g x a kp rd nw i0 i1 fa bo pl dr) (some (.int 1)) (wX g x a kp rd (bcm nw i1) i0 i1 fa bo pl dr) := by
  refine meth (own := "ChalkedDoors") (by decide) rfl (Nat.le_of_ble_eq_true rfl) [some (.ref (x)), some (.int u)] rfl (fun X hX hQ => ?_)
  refine r_iload1 hX dX5_goBack_0 ?_
  refine r_if_lt hX dX5_goBack_1 (fun h1 => absurd h1 (by rw [hu]; decide)) (fun h1 => ?_)
  refine r_iload1 hX dX5_goBack_4 ?_
  refine r_push hX dX5_goBack_5 ?_
  refine r_ic_le hX dX5_goBack_6 (fun h6 => ?_) (fun h6 => absurd (by rw [hu]; decide) h6)
  refine r_aload0 hX dX5_goBack_12 ?_
  refine g_wX_0_8 hX dX5_goBack_13 ?_
  refine r_iload1 hX dX5_goBack_16 ?_
  refine r_nS2i hX dX5_goBack_17 kX5_has (c_X5_has l g _ _) (by decide) (Nat.le_of_ble_eq_true rfl) ?_
  refine r_if_ne hX dX5_goBack_20 (fun h20 => ?_) (fun h20 => absurd hk (bI_z h20))
  refine r_aload0 hX dX5_goBack_26 ?_
  refine g_wX_0_1 hX dX5_goBack_27 ?_
  refine r_aload0 hX dX5_goBack_30 ?_
  refine r_iload1 hX dX5_goBack_31 ?_
  refine r_aV1i hX dX5_goBack_32 kX5_imageOf (c_X5_imageOf1 l g _ _ _ _ _ _ _ _ _ _ _ _ (by rw [hu]; decide)) ad_wX rfl (by decide) (Nat.le_of_ble_eq_true rfl) ?_
  refine r_cV1v hX dX5_goBack_35 kX4_become fr_wX_wSS_3_11 (c_X4_become l g _ _ _ _) rfl (by decide) (Nat.le_of_ble_eq_true rfl) ?_
  refine r_push hX dX5_goBack_38 ?_
  exact r_iret hX hQ dX5_goBack_39 (rfl) (by rfl)
set_option maxHeartbeats 400000 in
theorem c_X5_goBackU1 (l : Launch) (g : GT) (x : Nat) (a : Nat → Nat → Nat) (kp : Int32) (rd : S2) (nw : S2) (i0 : S2) (i1 : S2) (fa : S2) (bo : S2) (pl : S2) (dr : S2) (u : Int32) (hu : u = 1) (hk : ¬ hb kp u) : Cx l g yX5_goBack cX5_goBack 2 (some .int) (k2_rm 2 60) [.ref (x), .int u] (wX g x a kp rd nw i0 i1 fa bo pl dr) (some (.int (-1000000003))) (wX g x a kp rd nw i0 i1 fa bo pl dr) := by
  refine meth (own := "ChalkedDoors") (by decide) rfl (Nat.le_of_ble_eq_true rfl) [some (.ref (x)), some (.int u)] rfl (fun X hX hQ => ?_)
  refine r_iload1 hX dX5_goBack_0 ?_
  refine r_if_lt hX dX5_goBack_1 (fun h1 => absurd h1 (by rw [hu]; decide)) (fun h1 => ?_)
  refine r_iload1 hX dX5_goBack_4 ?_
  refine r_push hX dX5_goBack_5 ?_
  refine r_ic_le hX dX5_goBack_6 (fun h6 => ?_) (fun h6 => absurd (by rw [hu]; decide) h6)
  refine r_aload0 hX dX5_goBack_12 ?_
  refine g_wX_0_8 hX dX5_goBack_13 ?_
  refine r_iload1 hX dX5_goBack_16 ?_
  refine r_nS2i hX dX5_goBack_17 kX5_has (c_X5_has l g _ _) (by decide) (Nat.le_of_ble_eq_true rfl) ?_
  refine r_if_ne hX dX5_goBack_20 (fun h20 => absurd (bI_nz h20) hk) (fun h20 => ?_)
  refine r_push hX dX5_goBack_23 ?_
  exact r_iret hX hQ dX5_goBack_25 (rfl) (rfl)
set_option maxHeartbeats 400000 in
theorem c_X5_keepN (l : Launch) (g : GT) (x : Nat) (a : Nat → Nat → Nat) (kp : Int32) (rd : S2) (nw : S2) (i0 : S2) (i1 : S2) (fa : S2) (bo : S2) (pl : S2) (dr : S2) (u : Int32) (hu : ¬ inB u.toInt 0 1) : Cx l g yX5_keep cX5_keep 2 (some .int) (k2_rm 2 60) [.ref (x), .int u] (wX g x a kp rd nw i0 i1 fa bo pl dr) (some (.int (-1000000001))) (wX g x a kp rd nw i0 i1 fa bo pl dr) := by
  refine meth (own := "ChalkedDoors") (by decide) rfl (Nat.le_of_ble_eq_true rfl) [some (.ref (x)), some (.int u)] rfl (fun X hX hQ => ?_)
  refine r_iload1 hX dX5_keep_0 ?_
  refine r_if_lt hX dX5_keep_1 (fun h1 => ?_) (fun h1 => ?_)
  · refine r_push hX dX5_keep_9 ?_
    exact r_iret hX hQ dX5_keep_11 (rfl) (rfl)
  · refine r_iload1 hX dX5_keep_4 ?_
    refine r_push hX dX5_keep_5 ?_
    refine r_ic_le hX dX5_keep_6 (fun h6 => absurd (inB_yes (a := 0) (z := 1) h1 h6 rfl rfl) hu) (fun h6 => ?_)
    refine r_push hX dX5_keep_9 ?_
    exact r_iret hX hQ dX5_keep_11 (rfl) (rfl)
set_option maxHeartbeats 400000 in
theorem c_X5_goBackN (l : Launch) (g : GT) (x : Nat) (a : Nat → Nat → Nat) (kp : Int32) (rd : S2) (nw : S2) (i0 : S2) (i1 : S2) (fa : S2) (bo : S2) (pl : S2) (dr : S2) (u : Int32) (hu : ¬ inB u.toInt 0 1) : Cx l g yX5_goBack cX5_goBack 2 (some .int) (k2_rm 2 60) [.ref (x), .int u] (wX g x a kp rd nw i0 i1 fa bo pl dr) (some (.int (-1000000001))) (wX g x a kp rd nw i0 i1 fa bo pl dr) := by
  refine meth (own := "ChalkedDoors") (by decide) rfl (Nat.le_of_ble_eq_true rfl) [some (.ref (x)), some (.int u)] rfl (fun X hX hQ => ?_)
  refine r_iload1 hX dX5_goBack_0 ?_
  refine r_if_lt hX dX5_goBack_1 (fun h1 => ?_) (fun h1 => ?_)
  · refine r_push hX dX5_goBack_9 ?_
    exact r_iret hX hQ dX5_goBack_11 (rfl) (rfl)
  · refine r_iload1 hX dX5_goBack_4 ?_
    refine r_push hX dX5_goBack_5 ?_
    refine r_ic_le hX dX5_goBack_6 (fun h6 => absurd (inB_yes (a := 0) (z := 1) h1 h6 rfl rfl) hu) (fun h6 => ?_)
    refine r_push hX dX5_goBack_9 ?_
    exact r_iret hX hQ dX5_goBack_11 (rfl) (rfl)
