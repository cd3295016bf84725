def wXs (g : GT) (x : Nat) (a : Nat → Nat → Nat) (kp : Int32) (rd : S2) (nw : S2) (i0 : S2) (i1 : S2) (fa : S2) (bo : S2) (pl : S2) (dr : S2) : va_W := [(x, .inr (5, [.ref (a 0 0), .ref (a 1 0), .ref (a 2 0), .ref (a 3 0), .ref (a 4 0), .ref (a 5 0), .ref (a 7 0), .ref (a 6 0), .int kp])), (a 0 0, .inr (3, [.ref (a 0 1), .int (rd.1 1), .int (rd.1 2), .int (rd.1 3), .int (rd.1 4), .int (rd.1 5), .int (rd.1 6), .int (rd.1 7)])), (a 0 1, .inl (g.2.1, 200, .inl (rd.2 0))), (a 1 0, .inr (4, [.ref (a 1 1), .ref (a 1 2), .int (nw.1 2), .int (nw.1 3), .int (nw.1 4)])), (a 1 1, .inl (g.2.1, 14, .inl (nw.2 0))), (a 1 2, .inl (g.2.1, 14, .inl (nw.2 1))), (a 2 0, .inr (4, [.ref (a 2 1), .ref (a 2 2), .int (i0.1 2), .int (i0.1 3), .int (i0.1 4)])), (a 2 1, .inl (g.2.1, 14, .inl (i0.2 0))), (a 2 2, .inl (g.2.1, 14, .inl (i0.2 1))), (a 3 0, .inr (4, [.ref (a 3 1), .ref (a 3 2), .int (i1.1 2), .int (i1.1 3), .int (i1.1 4)])), (a 3 1, .inl (g.2.1, 14, .inl (i1.2 0))), (a 3 2, .inl (g.2.1, 14, .inl (i1.2 1))), (a 4 0, .inr (1, [.ref (a 4 1), .ref (a 4 2), .ref (a 4 3), .int (fa.1 3)])), (a 4 1, .inl (g.2.1, 10, .inl (fa.2 0))), (a 4 2, .inl (g.2.1, 10, .inl (fa.2 1))), (a 4 3, .inl (g.2.2, 10, .inl (fa.2 2))), (a 5 0, .inr (0, [.ref (a 5 1), .ref (a 5 2), .int (bo.1 2)])), (a 5 1, .inl (g.2.1, 15, .inl (bo.2 0))), (a 5 2, .inl (g.2.1, 15, .inl (bo.2 1))), (a 6 0, .inr (2, [.int (pl.1 0), .int (pl.1 1), .ref (a 6 1), .ref (a 6 2), .ref (a 6 3), .ref (a 6 4), .ref (a 6 5), .int (pl.1 7), .int (pl.1 8), .int (pl.1 9)])), (a 6 1, .inl (g.2.1, 4, .inl (pl.2 2))), (a 6 2, .inl (g.2.1, 4, .inl (pl.2 3))), (a 6 3, .inl (g.2.1, 4, .inl (pl.2 4))), (a 6 4, .inl (g.2.1, 4, .inl (pl.2 5))), (a 6 5, .inl (g.2.1, 14, .inl (pl.2 6))), (a 7 0, .inr (2, [.int (dr.1 0), .int (dr.1 1), .ref (a 7 1), .ref (a 7 2), .ref (a 7 3), .ref (a 7 4), .ref (a 7 5), .int (dr.1 7), .int (dr.1 8), .int (dr.1 9)])), (a 7 1, .inl (g.2.1, 4, .inl (dr.2 2))), (a 7 2, .inl (g.2.1, 4, .inl (dr.2 3))), (a 7 3, .inl (g.2.1, 4, .inl (dr.2 4))), (a 7 4, .inl (g.2.1, 4, .inl (dr.2 5))), (a 7 5, .inl (g.2.1, 14, .inl (dr.2 6)))]
theorem g_wX_0_7 {X : CT} {l : Launch} {g : GT} {own : String} {cc : ByteArray} {R : Room} {cs sl pc nx : Nat} {lv : List (Option Value)} {st : List Value} {x : Nat} {a : Nat → Nat → Nat} {kp : Int32} {rd : S2} {nw : S2} {i0 : S2} {i1 : S2} {fa : S2} {bo : S2} {pl : S2} {dr : S2} (hX : oK X l g own cc R) (hd : dGf own cc pc 5 7 nx) (k : vJ X cs sl (wX g x a kp rd nw i0 i1 fa bo pl dr) nx lv (.ref (a 7 0) :: st)) : vJ X cs sl (wX g x a kp rd nw i0 i1 fa bo pl dr) pc lv (.ref (x) :: st) := r_get hX hd 0 rfl rfl k
theorem fr_wX_wRP_1_30 {g : GT} {x : Nat} {a : Nat → Nat → Nat} {kp : Int32} {rd : S2} {nw : S2} {i0 : S2} {i1 : S2} {fa : S2} {bo : S2} {pl : S2} {dr : S2} {σ' : S2} {π' : S2} : frm (wX g x a kp rd nw i0 i1 fa bo pl dr) (wRP g (a 0) rd (a 7) dr) (wRP g (a 0) σ' (a 7) π') (wX g x a kp σ' nw i0 i1 fa bo pl π') := frm_msk [1, 2, 25, 26, 27, 28, 29, 30] (fW_f (fW_t rfl (fW_t rfl (fW_f (fW_f (fW_f (fW_f (fW_f (fW_f (fW_f (fW_f (fW_f (fW_f (fW_f (fW_f (fW_f (fW_f (fW_f (fW_f (fW_f (fW_f (fW_f (fW_f (fW_f (fW_f (fW_t rfl (fW_t rfl (fW_t rfl (fW_t rfl (fW_t rfl (fW_t rfl (fW_n)))))))))))))))))))))))))))))))) rfl rfl rfl rfl
theorem g_wXs_0_1 {X : CT} {l : Launch} {g : GT} {own : String} {cc : ByteArray} {R : Room} {cs sl pc nx : Nat} {lv : List (Option Value)} {st : List Value} {x : Nat} {a : Nat → Nat → Nat} {kp : Int32} {rd : S2} {nw : S2} {i0 : S2} {i1 : S2} {fa : S2} {bo : S2} {pl : S2} {dr : S2} (hX : oK X l g own cc R) (hd : dGf own cc pc 5 1 nx) (k : vJ X cs sl (wXs g x a kp rd nw i0 i1 fa bo pl dr) nx lv (.ref (a 1 0) :: st)) : vJ X cs sl (wXs g x a kp rd nw i0 i1 fa bo pl dr) pc lv (.ref (x) :: st) := r_get hX hd 0 rfl rfl k
theorem g_wXs_0_6 {X : CT} {l : Launch} {g : GT} {own : String} {cc : ByteArray} {R : Room} {cs sl pc nx : Nat} {lv : List (Option Value)} {st : List Value} {x : Nat} {a : Nat → Nat → Nat} {kp : Int32} {rd : S2} {nw : S2} {i0 : S2} {i1 : S2} {fa : S2} {bo : S2} {pl : S2} {dr : S2} (hX : oK X l g own cc R) (hd : dGf own cc pc 5 6 nx) (k : vJ X cs sl (wXs g x a kp rd nw i0 i1 fa bo pl dr) nx lv (.ref (a 7 0) :: st)) : vJ X cs sl (wXs g x a kp rd nw i0 i1 fa bo pl dr) pc lv (.ref (x) :: st) := r_get hX hd 0 rfl rfl k
theorem fr_wXs_wSP_3_30 {g : GT} {x : Nat} {a : Nat → Nat → Nat} {kp : Int32} {rd : S2} {nw : S2} {i0 : S2} {i1 : S2} {fa : S2} {bo : S2} {pl : S2} {dr : S2} {σ' : S2} {π' : S2} : frm (wXs g x a kp rd nw i0 i1 fa bo pl dr) (wSP g (a 1) nw (a 7) dr) (wSP g (a 1) σ' (a 7) π') (wXs g x a kp rd σ' i0 i1 fa bo pl π') := frm_msk [3, 4, 5, 25, 26, 27, 28, 29, 30] (fW_f (fW_f (fW_f (fW_t rfl (fW_t rfl (fW_t rfl (fW_f (fW_f (fW_f (fW_f (fW_f (fW_f (fW_f (fW_f (fW_f (fW_f (fW_f (fW_f (fW_f (fW_f (fW_f (fW_f (fW_f (fW_f (fW_f (fW_t rfl (fW_t rfl (fW_t rfl (fW_t rfl (fW_t rfl (fW_t rfl (fW_n)))))))))))))))))))))))))))))))) rfl rfl rfl rfl
theorem g_wXs_0_4 {X : CT} {l : Launch} {g : GT} {own : String} {cc : ByteArray} {R : Room} {cs sl pc nx : Nat} {lv : List (Option Value)} {st : List Value} {x : Nat} {a : Nat → Nat → Nat} {kp : Int32} {rd : S2} {nw : S2} {i0 : S2} {i1 : S2} {fa : S2} {bo : S2} {pl : S2} {dr : S2} (hX : oK X l g own cc R) (hd : dGf own cc pc 5 4 nx) (k : vJ X cs sl (wXs g x a kp rd nw i0 i1 fa bo pl dr) nx lv (.ref (a 4 0) :: st)) : vJ X cs sl (wXs g x a kp rd nw i0 i1 fa bo pl dr) pc lv (.ref (x) :: st) := r_get hX hd 0 rfl rfl k
theorem p_wXs_12_3 {X : CT} {l : Launch} {g : GT} {own : String} {cc : ByteArray} {R : Room} {cs sl pc nx : Nat} {lv : List (Option Value)} {st : List Value} {x : Nat} {a : Nat → Nat → Nat} {kp : Int32} {rd : S2} {nw : S2} {i0 : S2} {i1 : S2} {fa : S2} {bo : S2} {pl : S2} {dr : S2} {v : Int32} (hX : oK X l g own cc R) (hd : dPf own cc pc 1 3 .int nx) (k : vJ X cs sl (wXs g x a kp rd nw i0 i1 (su fa 3 v) bo pl dr) nx lv st) : vJ X cs sl (wXs g x a kp rd nw i0 i1 fa bo pl dr) pc lv (.int v :: .ref (a 4 0) :: st) := r_put hX hd 12 rfl rfl rfl (Nat.le_of_ble_eq_true rfl) _ rfl k
theorem g_wXs_0_5 {X : CT} {l : Launch} {g : GT} {own : String} {cc : ByteArray} {R : Room} {cs sl pc nx : Nat} {lv : List (Option Value)} {st : List Value} {x : Nat} {a : Nat → Nat → Nat} {kp : Int32} {rd : S2} {nw : S2} {i0 : S2} {i1 : S2} {fa : S2} {bo : S2} {pl : S2} {dr : S2} (hX : oK X l g own cc R) (hd : dGf own cc pc 5 5 nx) (k : vJ X cs sl (wXs g x a kp rd nw i0 i1 fa bo pl dr) nx lv (.ref (a 5 0) :: st)) : vJ X cs sl (wXs g x a kp rd nw i0 i1 fa bo pl dr) pc lv (.ref (x) :: st) := r_get hX hd 0 rfl rfl k
theorem p_wXs_16_2 {X : CT} {l : Launch} {g : GT} {own : String} {cc : ByteArray} {R : Room} {cs sl pc nx : Nat} {lv : List (Option Value)} {st : List Value} {x : Nat} {a : Nat → Nat → Nat} {kp : Int32} {rd : S2} {nw : S2} {i0 : S2} {i1 : S2} {fa : S2} {bo : S2} {pl : S2} {dr : S2} {v : Int32} (hX : oK X l g own cc R) (hd : dPf own cc pc 0 2 .int nx) (k : vJ X cs sl (wXs g x a kp rd nw i0 i1 fa (su bo 2 v) pl dr) nx lv st) : vJ X cs sl (wXs g x a kp rd nw i0 i1 fa bo pl dr) pc lv (.int v :: .ref (a 5 0) :: st) := r_put hX hd 16 rfl rfl rfl (Nat.le_of_ble_eq_true rfl) _ rfl k
theorem p_wXs_0_8 {X : CT} {l : Launch} {g : GT} {own : String} {cc : ByteArray} {R : Room} {cs sl pc nx : Nat} {lv : List (Option Value)} {st : List Value} {x : Nat} {a : Nat → Nat → Nat} {kp : Int32} {rd : S2} {nw : S2} {i0 : S2} {i1 : S2} {fa : S2} {bo : S2} {pl : S2} {dr : S2} {v : Int32} (hX : oK X l g own cc R) (hd : dPf own cc pc 5 8 .int nx) (k : vJ X cs sl (wXs g x a v rd nw i0 i1 fa bo pl dr) nx lv st) : vJ X cs sl (wXs g x a kp rd nw i0 i1 fa bo pl dr) pc lv (.int v :: .ref (x) :: st) := r_put hX hd 0 rfl rfl rfl (Nat.le_of_ble_eq_true rfl) _ rfl k
theorem g_wXs_25_0 {X : CT} {l : Launch} {g : GT} {own : String} {cc : ByteArray} {R : Room} {cs sl pc nx : Nat} {lv : List (Option Value)} {st : List Value} {x : Nat} {a : Nat → Nat → Nat} {kp : Int32} {rd : S2} {nw : S2} {i0 : S2} {i1 : S2} {fa : S2} {bo : S2} {pl : S2} {dr : S2} (hX : oK X l g own cc R) (hd : dGf own cc pc 2 0 nx) (k : vJ X cs sl (wXs g x a kp rd nw i0 i1 fa bo pl dr) nx lv (.int (dr.1 0) :: st)) : vJ X cs sl (wXs g x a kp rd nw i0 i1 fa bo pl dr) pc lv (.ref (a 7 0) :: st) := r_get hX hd 25 rfl rfl k
set_option maxHeartbeats 400000 in
theorem c_X5_streetF (l : Launch) (g : GT) (x : Nat) (a : Nat → Nat → Nat) (kp : Int32) (rd : S2) (nw : S2) (i0 : S2) (i1 : S2) (fa : S2) (bo : S2) (pl : S2) (dr : S2)  (T : Nat) (hT : T ≤ 200) (eT : rd.1 1 = nI T) (hf : ¬ (xRdI rd dr).1.1 3 = 0) : Cx l g yX5_street cX5_street 3 (some .int) (k2_rm 5 150) [.ref (x)] (wX g x a kp rd nw i0 i1 fa bo pl dr) (some (.int (-10 - (xRdI rd dr).1.1 3))) (wX g x a kp (xRdI rd dr).1 nw i0 i1 fa bo pl (xRdI rd dr).2) := by
  refine meth (own := "ChalkedDoors") (by decide) rfl (Nat.le_of_ble_eq_true rfl) [some (.ref (x)), none, none] rfl (fun X hX hQ => ?_)
  refine r_aload0 hX dX5_street_0 ?_
  refine g_wX_0_0 hX dX5_street_1 ?_
  refine r_aload0 hX dX5_street_4 ?_
  refine g_wX_0_7 hX dX5_street_5 ?_
  refine r_cV1i hX dX5_street_8 kX3_readInto fr_wX_wRP_1_30 (c_X3_readInto l g _ _ _ _ T hT eT) rfl (by decide) (Nat.le_of_ble_eq_true rfl) ?_
  refine r_istore1 hX dX5_street_11 rfl ?_
  refine r_iload1 hX dX5_street_12 ?_
  refine r_if_eq hX dX5_street_13 (fun h13 => absurd h13 hf) (fun h13 => ?_)
  refine r_push hX dX5_street_16 ?_
  refine r_iload1 hX dX5_street_18 ?_
  refine r_isub hX dX5_street_19 ?_
  exact r_iret hX hQ dX5_street_20 (rfl) (by rfl)
def bgn (σ π : S2) : S2 := su (su (aw (aw σ 0 (cpN 14 (π.2 6) (σ.2 0))) 1 (cpN 14 (fun _ => 0) (σ.2 1))) 2 0) 3 0
set_option maxHeartbeats 400000 in
theorem c_X5_streetS (l : Launch) (g : GT) (x : Nat) (a : Nat → Nat → Nat) (kp : Int32) (rd : S2) (nw : S2) (i0 : S2) (i1 : S2) (fa : S2) (bo : S2) (pl : S2) (dr : S2)  (T : Nat) (hT : T ≤ 200) (eT : rd.1 1 = nI T) (hf : (xRdI rd dr).1.1 3 = 0) : Cx l g yX5_street cX5_street 3 (some .int) (k2_rm 5 150) [.ref (x)] (wX g x a kp rd nw i0 i1 fa bo pl dr) (some (.int ((xRdI rd dr).2.1 0))) (wXs g x a 0 (xRdI rd dr).1 (bgn nw (xRdI rd dr).2) i0 i1 (su fa 3 0) (su bo 2 0) pl (xRdI rd dr).2) := by
  refine meth (own := "ChalkedDoors") (by decide) rfl (Nat.le_of_ble_eq_true rfl) [some (.ref (x)), none, none] rfl (fun X hX hQ => ?_)
  have k39 : ∀ v : Int32, vJ X 0 0 (wXs g x a kp (xRdI rd dr).1 nw i0 i1 fa bo pl (xRdI rd dr).2) 39 [some (.ref x), some (.int v), some (.ref (a 6 0))] [] := by
    intro v
    generalize (xRdI rd dr) = P at hQ hf ⊢
    refine r_aload0 hX dX5_street_39 ?_
    refine g_wXs_0_1 hX dX5_street_40 ?_
    refine r_aload0 hX dX5_street_43 ?_
    refine g_wXs_0_6 hX dX5_street_44 ?_
    refine r_cV1v hX dX5_street_47 kX4_begin fr_wXs_wSP_3_30 (c_X4_begin l g _ _ _ _) rfl (by decide) (Nat.le_of_ble_eq_true rfl) ?_
    refine r_aload0 hX dX5_street_50 ?_
    refine g_wXs_0_4 hX dX5_street_51 ?_
    refine r_push hX dX5_street_54 ?_
    refine p_wXs_12_3 hX dX5_street_55 ?_
    refine r_aload0 hX dX5_street_58 ?_
    refine g_wXs_0_5 hX dX5_street_59 ?_
    refine r_push hX dX5_street_62 ?_
    refine p_wXs_16_2 hX dX5_street_63 ?_
    refine r_aload0 hX dX5_street_66 ?_
    refine r_push hX dX5_street_67 ?_
    refine p_wXs_0_8 hX dX5_street_68 ?_
    refine r_aload0 hX dX5_street_71 ?_
    refine g_wXs_0_6 hX dX5_street_72 ?_
    refine g_wXs_25_0 hX dX5_street_75 ?_
    exact r_iret hX hQ dX5_street_78 (rfl) (by rfl)
  refine r_aload0 hX dX5_street_0 ?_
  refine g_wX_0_0 hX dX5_street_1 ?_
  refine r_aload0 hX dX5_street_4 ?_
  refine g_wX_0_7 hX dX5_street_5 ?_
  refine r_cV1i hX dX5_street_8 kX3_readInto fr_wX_wRP_1_30 (c_X3_readInto l g _ _ _ _ T hT eT) rfl (by decide) (Nat.le_of_ble_eq_true rfl) ?_
  refine r_istore1 hX dX5_street_11 rfl ?_
  refine r_iload1 hX dX5_street_12 ?_
  refine r_if_eq hX dX5_street_13 (fun h13 => ?_) (fun h13 => absurd hf h13)
  refine r_aload0 hX dX5_street_21 ?_
  refine g_wX_0_6 hX dX5_street_22 ?_
  refine r_astore2 hX dX5_street_25 rfl ?_
  refine r_aload0 hX dX5_street_26 ?_
  refine r_aload0 hX dX5_street_27 ?_
  refine g_wX_0_7 hX dX5_street_28 ?_
  refine r_put hX dX5_street_31 0 rfl rfl rfl (Nat.le_of_ble_eq_true rfl) _ rfl ?_
  refine r_aload0 hX dX5_street_34 ?_
  refine r_aload2 hX dX5_street_35 ?_
  refine r_put hX dX5_street_36 0 rfl rfl rfl (Nat.le_of_ble_eq_true rfl) (wXs g x a kp (xRdI rd dr).1 nw i0 i1 fa bo pl (xRdI rd dr).2) rfl ?_
  exact k39 _
