theorem p_wX_12_3 {X : CT} {l : Launch} {g : GT} {own : String} {cc : ByteArray} {R : Room} {cs sl pc nx : Nat} {lv : List (Option Value)} {st : List Value} {x : Nat} {a : Nat → Nat → Nat} {kp : Int32} {rd : S2} {nw : S2} {i0 : S2} {i1 : S2} {fa : S2} {bo : S2} {pl : S2} {dr : S2} {v : Int32} (hX : oK X l g own cc R) (hd : dPf own cc pc 1 3 .int nx) (k : vJ X cs sl (wX g x a kp rd nw i0 i1 (su fa 3 v) bo pl dr) nx lv st) : vJ X cs sl (wX g x a kp rd nw i0 i1 fa bo pl dr) pc lv (.int v :: .ref (a 4 0) :: st) := r_put hX hd 12 rfl rfl rfl (Nat.le_of_ble_eq_true rfl) _ rfl k
theorem p_wX_16_2 {X : CT} {l : Launch} {g : GT} {own : String} {cc : ByteArray} {R : Room} {cs sl pc nx : Nat} {lv : List (Option Value)} {st : List Value} {x : Nat} {a : Nat → Nat → Nat} {kp : Int32} {rd : S2} {nw : S2} {i0 : S2} {i1 : S2} {fa : S2} {bo : S2} {pl : S2} {dr : S2} {v : Int32} (hX : oK X l g own cc R) (hd : dPf own cc pc 0 2 .int nx) (k : vJ X cs sl (wX g x a kp rd nw i0 i1 fa (su bo 2 v) pl dr) nx lv st) : vJ X cs sl (wX g x a kp rd nw i0 i1 fa bo pl dr) pc lv (.int v :: .ref (a 5 0) :: st) := r_put hX hd 16 rfl rfl rfl (Nat.le_of_ble_eq_true rfl) _ rfl k
theorem g_wX_3_4 {X : CT} {l : Launch} {g : GT} {own : String} {cc : ByteArray} {R : Room} {cs sl pc nx : Nat} {lv : List (Option Value)} {st : List Value} {x : Nat} {a : Nat → Nat → Nat} {kp : Int32} {rd : S2} {nw : S2} {i0 : S2} {i1 : S2} {fa : S2} {bo : S2} {pl : S2} {dr : S2} (hX : oK X l g own cc R) (hd : dGf own cc pc 4 4 nx) (k : vJ X cs sl (wX g x a kp rd nw i0 i1 fa bo pl dr) nx lv (.int (nw.1 4) :: st)) : vJ X cs sl (wX g x a kp rd nw i0 i1 fa bo pl dr) pc lv (.ref (a 1 0) :: st) := r_get hX hd 3 rfl rfl k
theorem p_wX_3_4 {X : CT} {l : Launch} {g : GT} {own : String} {cc : ByteArray} {R : Room} {cs sl pc nx : Nat} {lv : List (Option Value)} {st : List Value} {x : Nat} {a : Nat → Nat → Nat} {kp : Int32} {rd : S2} {nw : S2} {i0 : S2} {i1 : S2} {fa : S2} {bo : S2} {pl : S2} {dr : S2} {v : Int32} (hX : oK X l g own cc R) (hd : dPf own cc pc 4 4 .int nx) (k : vJ X cs sl (wX g x a kp rd (su nw 4 v) i0 i1 fa bo pl dr) nx lv st) : vJ X cs sl (wX g x a kp rd nw i0 i1 fa bo pl dr) pc lv (.int v :: .ref (a 1 0) :: st) := r_put hX hd 3 rfl rfl rfl (Nat.le_of_ble_eq_true rfl) _ rfl k
theorem fr_wX_wF_12_15 {g : GT} {x : Nat} {a : Nat → Nat → Nat} {kp : Int32} {rd : S2} {nw : S2} {i0 : S2} {i1 : S2} {fa : S2} {bo : S2} {pl : S2} {dr : S2} {σ' : S2} : frm (wX g x a kp rd nw i0 i1 fa bo pl dr) (wF g (a 4) fa) (wF g (a 4) σ') (wX g x a kp rd nw i0 i1 σ' bo pl dr) := frm_msk [12, 13, 14, 15] (fW_f (fW_f (fW_f (fW_f (fW_f (fW_f (fW_f (fW_f (fW_f (fW_f (fW_f (fW_f (fW_t rfl (fW_t rfl (fW_t rfl (fW_t rfl (fW_f (fW_f (fW_f (fW_f (fW_f (fW_f (fW_f (fW_f (fW_f (fW_f (fW_f (fW_f (fW_f (fW_f (fW_f (fW_n)))))))))))))))))))))))))))))))) rfl rfl rfl rfl
theorem fr_wX_wB_16_18 {g : GT} {x : Nat} {a : Nat → Nat → Nat} {kp : Int32} {rd : S2} {nw : S2} {i0 : S2} {i1 : S2} {fa : S2} {bo : S2} {pl : S2} {dr : S2} {σ' : S2} : frm (wX g x a kp rd nw i0 i1 fa bo pl dr) (wB g (a 5) bo) (wB g (a 5) σ') (wX g x a kp rd nw i0 i1 fa σ' pl dr) := frm_msk [16, 17, 18] (fW_f (fW_f (fW_f (fW_f (fW_f (fW_f (fW_f (fW_f (fW_f (fW_f (fW_f (fW_f (fW_f (fW_f (fW_f (fW_f (fW_t rfl (fW_t rfl (fW_t rfl (fW_f (fW_f (fW_f (fW_f (fW_f (fW_f (fW_f (fW_f (fW_f (fW_f (fW_f (fW_f (fW_n)))))))))))))))))))))))))))))))) rfl rfl rfl rfl
theorem fr_wX_wBA_16_4 {g : GT} {x : Nat} {a : Nat → Nat → Nat} {kp : Int32} {rd : S2} {nw : S2} {i0 : S2} {i1 : S2} {fa : S2} {bo : S2} {pl : S2} {dr : S2} {σ' : S2} {f' : Nat → Int32} : frm (wX g x a kp rd nw i0 i1 fa bo pl dr) (wBA g (a 5) bo (a 1 1) 14 (nw.2 0)) (wBA g (a 5) σ' (a 1 1) 14 f') (wX g x a kp rd (aw nw 0 f') i0 i1 fa σ' pl dr) := frm_msk [16, 17, 18, 4] (fW_f (fW_f (fW_f (fW_f (fW_t rfl (fW_f (fW_f (fW_f (fW_f (fW_f (fW_f (fW_f (fW_f (fW_f (fW_f (fW_f (fW_t rfl (fW_t rfl (fW_t rfl (fW_f (fW_f (fW_f (fW_f (fW_f (fW_f (fW_f (fW_f (fW_f (fW_f (fW_f (fW_f (fW_n)))))))))))))))))))))))))))))))) rfl rfl rfl rfl
theorem fr_wX_wSP_3_24 {g : GT} {x : Nat} {a : Nat → Nat → Nat} {kp : Int32} {rd : S2} {nw : S2} {i0 : S2} {i1 : S2} {fa : S2} {bo : S2} {pl : S2} {dr : S2} {σ' : S2} {π' : S2} : frm (wX g x a kp rd nw i0 i1 fa bo pl dr) (wSP g (a 1) nw (a 6) pl) (wSP g (a 1) σ' (a 6) π') (wX g x a kp rd σ' i0 i1 fa bo π' dr) := frm_msk [3, 4, 5, 19, 20, 21, 22, 23, 24] (fW_f (fW_f (fW_f (fW_t rfl (fW_t rfl (fW_t rfl (fW_f (fW_f (fW_f (fW_f (fW_f (fW_f (fW_f (fW_f (fW_f (fW_f (fW_f (fW_f (fW_f (fW_t rfl (fW_t rfl (fW_t rfl (fW_t rfl (fW_t rfl (fW_t rfl (fW_f (fW_f (fW_f (fW_f (fW_f (fW_f (fW_n)))))))))))))))))))))))))))))))) rfl rfl rfl rfl
theorem adN {v : Int32} {T N : Nat} {L : Int32} (hT : T ≤ N) (hN : N < 2 ^ 31) (eL : L = nI N) (e : v = nI T) : v < L ↔ ¬ v = L := by
  rw [e, eL]
  constructor
  · intro h q
    rw [q, Int32.lt_iff_toInt_lt] at h
    omega
  · intro h
    have : T ≠ N := fun q => h (by rw [q])
    exact nI_lt (by omega) hN
set_option maxHeartbeats 400000 in
theorem c_X5_tear (l : Launch) (g : GT) (x : Nat) (a : Nat → Nat → Nat) (kp : Int32) (rd : S2) (nw : S2) (i0 : S2) (i1 : S2) (fa : S2) (bo : S2) (pl : S2) (dr : S2)   : Cx l g yX5_tear cX5_tear 2 (some .int) (k2_rm 0 0) [.ref (x)] (wX g x a kp rd nw i0 i1 fa bo pl dr) (some (.int (fa.1 3 + bo.1 2))) (wX g x a kp rd nw i0 i1 (su fa 3 0) (su bo 2 0) pl dr) := by
  refine meth (own := "ChalkedDoors") (by decide) rfl (Nat.le_of_ble_eq_true rfl) [some (.ref (x)), none] rfl (fun X hX hQ => ?_)
  refine r_aload0 hX dX5_tear_0 ?_
  refine g_wX_0_4 hX dX5_tear_1 ?_
  refine g_wX_12_3 hX dX5_tear_4 ?_
  refine r_aload0 hX dX5_tear_7 ?_
  refine g_wX_0_5 hX dX5_tear_8 ?_
  refine g_wX_16_2 hX dX5_tear_11 ?_
  refine r_iadd hX dX5_tear_14 ?_
  refine r_istore1 hX dX5_tear_15 rfl ?_
  refine r_aload0 hX dX5_tear_16 ?_
  refine g_wX_0_4 hX dX5_tear_17 ?_
  refine r_push hX dX5_tear_20 ?_
  refine p_wX_12_3 hX dX5_tear_21 ?_
  refine r_aload0 hX dX5_tear_24 ?_
  refine g_wX_0_5 hX dX5_tear_25 ?_
  refine r_push hX dX5_tear_28 ?_
  refine p_wX_16_2 hX dX5_tear_29 ?_
  refine r_iload1 hX dX5_tear_32 ?_
  exact r_iret hX hQ dX5_tear_33 (rfl) (rfl)
set_option maxHeartbeats 400000 in
theorem c_X5_seed (l : Launch) (g : GT) (x : Nat) (a : Nat → Nat → Nat) (kp : Int32) (rd : S2) (nw : S2) (i0 : S2) (i1 : S2) (fa : S2) (bo : S2) (pl : S2) (dr : S2) (v : Int32)  : Cx l g yX5_seed cX5_seed 3 (some .int) (k2_rm 0 0) [.ref (x), .int v] (wX g x a kp rd nw i0 i1 fa bo pl dr) (some (.int (if 0 ≤ v then nw.1 4 else -1000000002))) (wX g x a kp rd (su nw 4 (if 0 ≤ v then v else nw.1 4)) i0 i1 fa bo pl dr) := by
  refine meth (own := "ChalkedDoors") (by decide) rfl (Nat.le_of_ble_eq_true rfl) [some (.ref (x)), some (.int v), none] rfl (fun X hX hQ => ?_)
  refine r_iload1 hX dX5_seed_0 ?_
  refine r_if_ge hX dX5_seed_1 (fun h1 => ?_) (fun h1 => ?_)
  · refine r_aload0 hX dX5_seed_7 ?_
    refine g_wX_0_1 hX dX5_seed_8 ?_
    refine g_wX_3_4 hX dX5_seed_11 ?_
    refine r_istore2 hX dX5_seed_14 rfl ?_
    refine r_aload0 hX dX5_seed_15 ?_
    refine g_wX_0_1 hX dX5_seed_16 ?_
    refine r_iload1 hX dX5_seed_19 ?_
    refine p_wX_3_4 hX dX5_seed_20 ?_
    refine r_iload2 hX dX5_seed_23 ?_
    exact r_iret hX hQ dX5_seed_24 (by rw [if_pos h1] <;> rfl) (by rw [if_pos h1] <;> rfl)
  · refine r_push hX dX5_seed_4 ?_
    exact r_iret hX hQ dX5_seed_6 (by rw [if_neg h1] <;> rfl) (by rw [if_neg h1] <;> rfl)
set_option maxHeartbeats 400000 in
theorem c_X5_note (l : Launch) (g : GT) (x : Nat) (a : Nat → Nat → Nat) (kp : Int32) (rd : S2) (nw : S2) (i0 : S2) (i1 : S2) (fa : S2) (bo : S2) (pl : S2) (dr : S2) (d n0 z : Int32) (N : Nat) (hN : N ≤ 10) (eN : fa.1 3 = nI N) : Cx l g yX5_note cX5_note 4 (some .int) (k2_rm 1 30) [.ref (x), .int d, .int n0, .int z] (wX g x a kp rd nw i0 i1 fa bo pl dr) (some (.int (noteF (pl.1 0) (fa.1 3) (fa.2 0) (fa.2 1) (fa.2 2) d n0 z).1)) (wX g x a kp rd nw i0 i1 (aw (aw (aw (su fa 3 (noteF (pl.1 0) (fa.1 3) (fa.2 0) (fa.2 1) (fa.2 2) d n0 z).2.1) 0 (noteF (pl.1 0) (fa.1 3) (fa.2 0) (fa.2 1) (fa.2 2) d n0 z).2.2.1) 1 (noteF (pl.1 0) (fa.1 3) (fa.2 0) (fa.2 1) (fa.2 2) d n0 z).2.2.2.1) 2 (noteF (pl.1 0) (fa.1 3) (fa.2 0) (fa.2 1) (fa.2 2) d n0 z).2.2.2.2) bo pl dr) := by
  refine meth (own := "ChalkedDoors") (by decide) rfl (Nat.le_of_ble_eq_true rfl) [some (.ref (x)), some (.int d), some (.int n0), some (.int z)] rfl (fun X hX hQ => ?_)
  refine r_aload0 hX dX5_note_0 ?_
  refine g_wX_0_6 hX dX5_note_1 ?_
  refine r_iload1 hX dX5_note_4 ?_
  refine r_cV1i hX dX5_note_5 kX2_hasDoor fr_wX_wP_19_24 (c_X2_hasDoor l g _ _ _) rfl (by decide) (Nat.le_of_ble_eq_true rfl) ?_
  refine r_if_ne hX dX5_note_8 (fun h8 => ?_) (fun h8 => ?_)
  · refine r_iload2 hX dX5_note_14 ?_
    refine r_if_lt hX dX5_note_15 (fun h15 => ?_) (fun h15 => ?_)
    · refine r_push hX dX5_note_24 ?_
      exact r_iret hX hQ dX5_note_26 (by unfold noteF; rw [if_pos (bI_nz h8), if_neg (show ¬ inB n0.toInt 0 30 from inB_no1 h15 rfl)] <;> rfl) (by unfold noteF; rw [if_pos (bI_nz h8), if_neg (show ¬ inB n0.toInt 0 30 from inB_no1 h15 rfl)] <;> rfl)
    · refine r_iload2 hX dX5_note_18 ?_
      refine r_push hX dX5_note_19 ?_
      refine r_ic_le hX dX5_note_21 (fun h21 => ?_) (fun h21 => ?_)
      · refine r_aload0 hX dX5_note_27 ?_
        refine g_wX_0_4 hX dX5_note_28 ?_
        refine r_iload1 hX dX5_note_31 ?_
        refine r_iload2 hX dX5_note_32 ?_
        refine r_iload3 hX dX5_note_33 ?_
        refine r_cV3i hX dX5_note_34 kX1_add fr_wX_wF_12_15 (c_X1_add l g _ _ _ _ _ N hN eN) rfl (by decide) (Nat.le_of_ble_eq_true rfl) ?_
        exact r_iret hX hQ dX5_note_37 (by unfold noteF; by_cases q : fa.1 3 = 10; (rw [if_pos (bI_nz h8), if_pos (show inB n0.toInt 0 30 from inB_yes h15 h21 rfl rfl), if_pos q, if_neg (show ¬ fa.1 3 < 10 from fun z => (adN hN (by decide) rfl eN).mp z q)] <;> rfl); (rw [if_pos (bI_nz h8), if_pos (show inB n0.toInt 0 30 from inB_yes h15 h21 rfl rfl), if_neg q, if_pos (show fa.1 3 < 10 from (adN hN (by decide) rfl eN).mpr q)] <;> rfl)) (by unfold noteF; by_cases q : fa.1 3 = 10; (rw [if_pos (bI_nz h8), if_pos (show inB n0.toInt 0 30 from inB_yes h15 h21 rfl rfl), if_pos q, if_neg (show ¬ fa.1 3 < 10 from fun z => (adN hN (by decide) rfl eN).mp z q)] <;> rfl); (rw [if_pos (bI_nz h8), if_pos (show inB n0.toInt 0 30 from inB_yes h15 h21 rfl rfl), if_neg q, if_pos (show fa.1 3 < 10 from (adN hN (by decide) rfl eN).mpr q)] <;> rfl))
      · refine r_push hX dX5_note_24 ?_
        exact r_iret hX hQ dX5_note_26 (by unfold noteF; rw [if_pos (bI_nz h8), if_neg (show ¬ inB n0.toInt 0 30 from inB_no2 h21 rfl)] <;> rfl) (by unfold noteF; rw [if_pos (bI_nz h8), if_neg (show ¬ inB n0.toInt 0 30 from inB_no2 h21 rfl)] <;> rfl)
  · refine r_push hX dX5_note_11 ?_
    exact r_iret hX hQ dX5_note_13 (by unfold noteF; rw [if_neg (bI_z h8)] <;> rfl) (by unfold noteF; rw [if_neg (bI_z h8)] <;> rfl)
set_option maxHeartbeats 400000 in
theorem c_X5_write (l : Launch) (g : GT) (x : Nat) (a : Nat → Nat → Nat) (kp : Int32) (rd : S2) (nw : S2) (i0 : S2) (i1 : S2) (fa : S2) (bo : S2) (pl : S2) (dr : S2) (d t : Int32) (N : Nat) (hN : N ≤ 15) (eN : bo.1 2 = nI N) : Cx l g yX5_write cX5_write 3 (some .int) (k2_rm 1 30) [.ref (x), .int d, .int t] (wX g x a kp rd nw i0 i1 fa bo pl dr) (some (.int (writeF (pl.1 0) (bo.1 2) (bo.2 0) (bo.2 1) d t).1)) (wX g x a kp rd nw i0 i1 fa (aw (aw (su bo 2 (writeF (pl.1 0) (bo.1 2) (bo.2 0) (bo.2 1) d t).2.1) 0 (writeF (pl.1 0) (bo.1 2) (bo.2 0) (bo.2 1) d t).2.2.1) 1 (writeF (pl.1 0) (bo.1 2) (bo.2 0) (bo.2 1) d t).2.2.2) pl dr) := by
  refine meth (own := "ChalkedDoors") (by decide) rfl (Nat.le_of_ble_eq_true rfl) [some (.ref (x)), some (.int d), some (.int t)] rfl (fun X hX hQ => ?_)
  refine r_aload0 hX dX5_write_0 ?_
  refine g_wX_0_6 hX dX5_write_1 ?_
  refine r_iload1 hX dX5_write_4 ?_
  refine r_cV1i hX dX5_write_5 kX2_hasDoor fr_wX_wP_19_24 (c_X2_hasDoor l g _ _ _) rfl (by decide) (Nat.le_of_ble_eq_true rfl) ?_
  refine r_if_ne hX dX5_write_8 (fun h8 => ?_) (fun h8 => ?_)
  · refine r_iload2 hX dX5_write_14 ?_
    refine r_if_lt hX dX5_write_15 (fun h15 => ?_) (fun h15 => ?_)
    · refine r_push hX dX5_write_24 ?_
      exact r_iret hX hQ dX5_write_26 (by unfold writeF; rw [if_pos (bI_nz h8), if_neg (show ¬ inB t.toInt 0 15 from inB_no1 h15 rfl)] <;> rfl) (by unfold writeF; rw [if_pos (bI_nz h8), if_neg (show ¬ inB t.toInt 0 15 from inB_no1 h15 rfl)] <;> rfl)
    · refine r_iload2 hX dX5_write_18 ?_
      refine r_push hX dX5_write_19 ?_
      refine r_ic_le hX dX5_write_21 (fun h21 => ?_) (fun h21 => ?_)
      · refine r_aload0 hX dX5_write_27 ?_
        refine g_wX_0_5 hX dX5_write_28 ?_
        refine r_iload1 hX dX5_write_31 ?_
        refine r_iload2 hX dX5_write_32 ?_
        refine r_cV2i hX dX5_write_33 kX0_add fr_wX_wB_16_18 (c_X0_add l g _ _ _ _ N hN eN) rfl (by decide) (Nat.le_of_ble_eq_true rfl) ?_
        exact r_iret hX hQ dX5_write_36 (by unfold writeF; by_cases q : bo.1 2 = 15; (rw [if_pos (bI_nz h8), if_pos (show inB t.toInt 0 15 from inB_yes h15 h21 rfl rfl), if_pos q, if_neg (show ¬ bo.1 2 < 15 from fun z => (adN hN (by decide) rfl eN).mp z q)] <;> rfl); (rw [if_pos (bI_nz h8), if_pos (show inB t.toInt 0 15 from inB_yes h15 h21 rfl rfl), if_neg q, if_pos (show bo.1 2 < 15 from (adN hN (by decide) rfl eN).mpr q)] <;> rfl)) (by unfold writeF; by_cases q : bo.1 2 = 15; (rw [if_pos (bI_nz h8), if_pos (show inB t.toInt 0 15 from inB_yes h15 h21 rfl rfl), if_pos q, if_neg (show ¬ bo.1 2 < 15 from fun z => (adN hN (by decide) rfl eN).mp z q)] <;> rfl); (rw [if_pos (bI_nz h8), if_pos (show inB t.toInt 0 15 from inB_yes h15 h21 rfl rfl), if_neg q, if_pos (show bo.1 2 < 15 from (adN hN (by decide) rfl eN).mpr q)] <;> rfl))
      · refine r_push hX dX5_write_24 ?_
        exact r_iret hX hQ dX5_write_26 (by unfold writeF; rw [if_pos (bI_nz h8), if_neg (show ¬ inB t.toInt 0 15 from inB_no2 h21 rfl)] <;> rfl) (by unfold writeF; rw [if_pos (bI_nz h8), if_neg (show ¬ inB t.toInt 0 15 from inB_no2 h21 rfl)] <;> rfl)
  · refine r_push hX dX5_write_11 ?_
    exact r_iret hX hQ dX5_write_13 (by unfold writeF; rw [if_neg (bI_z h8)] <;> rfl) (by unfold writeF; rw [if_neg (bI_z h8)] <;> rfl)
set_option maxHeartbeats 400000 in
theorem c_X5_judge (l : Launch) (g : GT) (x : Nat) (a : Nat → Nat → Nat) (kp : Int32) (rd : S2) (nw : S2) (i0 : S2) (i1 : S2) (fa : S2) (bo : S2) (pl : S2) (dr : S2)  (N : Nat) (hN : N ≤ 15) (eN : bo.1 2 = nI N) (hv : ∀ k, k < N → vp_in (bo.2 0 k) 14) : Cx l g yX5_judge cX5_judge 1 (some .int) (k2_rm 1 30) [.ref (x)] (wX g x a kp rd nw i0 i1 fa bo pl dr) (some (.int (judF N (nw.2 0) (bo.2 0) (bo.2 1)))) (wX g x a kp rd nw i0 i1 fa bo pl dr) := by
  refine meth (own := "ChalkedDoors") (by decide) rfl (Nat.le_of_ble_eq_true rfl) [some (.ref (x))] rfl (fun X hX hQ => ?_)
  refine r_aload0 hX dX5_judge_0 ?_
  refine g_wX_0_5 hX dX5_judge_1 ?_
  refine r_aload0 hX dX5_judge_4 ?_
  refine g_wX_0_1 hX dX5_judge_5 ?_
  refine g_wX_3_0 hX dX5_judge_8 ?_
  refine r_cV1i hX dX5_judge_11 kX0_firstWrong fr_wX_wBA_16_4 (c_X0_firstWrong l g _ _ _ _ _ rfl N hN eN hv) rfl (by decide) (Nat.le_of_ble_eq_true rfl) ?_
  exact r_iret hX hQ dX5_judge_14 (rfl) (rfl)
set_option maxHeartbeats 400000 in
theorem c_X5_first (l : Launch) (g : GT) (x : Nat) (a : Nat → Nat → Nat) (kp : Int32) (rd : S2) (nw : S2) (i0 : S2) (i1 : S2) (fa : S2) (bo : S2) (pl : S2) (dr : S2) (z : Int32) (D : Nat) (hD : D ≤ 14) (eD : pl.1 0 = nI D) (N : Nat) (hN : N ≤ 10) (eN : fa.1 3 = nI N) (hA : ∀ k, k < N → ∃ q : Nat, q < 14 ∧ fa.2 0 k = nI q) : Cx l g yX5_first cX5_first 6 (some .int) (k2_rm 2 60) [.ref (x), .int z] (wX g x a kp rd nw i0 i1 fa bo pl dr) (some (.int (firF D N (fa.2 0) (fa.2 1) (fa.2 2) z))) (wX g x a kp rd nw i0 i1 fa bo pl dr) := by
  refine meth (own := "ChalkedDoors") (by decide) rfl (Nat.le_of_ble_eq_true rfl) [some (.ref (x)), some (.int z), none, none, none, none] rfl (fun X hX hQ => ?_)
  generalize hsp : firF D N (fa.2 0) (fa.2 1) (fa.2 2) z = S at hQ
  unfold firF at hsp
  have hL7 : ∀ (n i : Nat) (u : Int32) (p q : Int32), u = nI i → i + n = 31 → S = firE z (fiG (fun g d => bI (canP N (fa.2 0) (fa.2 1) (fa.2 2) (nI g) (nI d))) z D n i (p, q)) → vJ X 0 0 (wX g x a kp rd nw i0 i1 fa bo pl dr) 7 [some (.ref (x)), some (.int z), some (.int p), some (.int q), some (.int u), none] [] := by
    intro n
    induction n with
    | zero =>
      intro i u p q hx hn hs
      refine r_iload4 hX dX5_first_7 ?_
      refine r_push hX dX5_first_9 ?_
      refine r_ic_gt hX dX5_first_11 (fun h11 => ?_) (fun h11 => absurd (lgx (e := 30) hx rfl (by omega) (by omega)) h11)
      refine r_iload1 hX dX5_first_79 ?_
      refine r_push hX dX5_first_80 ?_
      refine r_ic_ne hX dX5_first_82 (fun h82 => ?_) (fun h82 => ?_)
      · refine r_iload1 hX dX5_first_87 ?_
        refine r_push hX dX5_first_88 ?_
        refine r_ic_ne hX dX5_first_89 (fun h89 => ?_) (fun h89 => ?_)
        · refine r_push hX dX5_first_96 ?_
          exact r_iret hX hQ dX5_first_97 (by rw [hs]; show _ = some (Value.int (ite _ _ _)); rw [if_neg h89, if_neg h82]) (rfl)
        · refine r_iload2 hX dX5_first_92 ?_
          refine r_goto hX dX5_first_93 ?_
          exact r_iret hX hQ dX5_first_97 (by rw [hs]; show _ = some (Value.int (ite _ _ _)); rw [if_pos h89]) (rfl)
      · refine r_iload3 hX dX5_first_85 ?_
        exact r_iret hX hQ dX5_first_86 (by rw [hs]; show _ = some (Value.int (ite _ _ _)); rw [if_neg (fun e => absurd (h82.symm.trans e) (by decide)), if_pos h82]) (rfl)
    | succ n ih =>
      intro i u p q hx hn hs
      have hL17 : ∀ (n2 i2 : Nat) (y : Int32) (p' q' : Int32), y = nI i2 → i2 + n2 = D → fiD ((fun g d => bI (canP N (fa.2 0) (fa.2 1) (fa.2 2) (nI g) (nI d))) i) z i D 0 (p, q) = fiD ((fun g d => bI (canP N (fa.2 0) (fa.2 1) (fa.2 2) (nI g) (nI d))) i) z i n2 i2 (p', q') → vJ X 0 0 (wX g x a kp rd nw i0 i1 fa bo pl dr) 17 [some (.ref (x)), some (.int z), some (.int p'), some (.int q'), some (.int u), some (.int y)] [] := by
        intro n2
        induction n2 with
        | zero =>
          intro i2 y p' q' hx2 hn2 hT
          refine r_iload5 hX dX5_first_17 ?_
          refine r_aload0 hX dX5_first_19 ?_
          refine g_wX_0_6 hX dX5_first_20 ?_
          refine g_wX_19_0 hX dX5_first_23 ?_
          refine r_ic_ge hX dX5_first_26 (fun h26 => ?_) (fun h26 => absurd (lpx (e := D) hx2 eD (by omega) (by omega) (by omega)) h26)
          refine r_iinc4 hX dX5_first_73 rfl ?_
          refine r_goto hX dX5_first_76 ?_
          refine r_fg5 ?_
          exact ih (i + 1) _ _ _ (by rw [hx]; exact nI_1 i) (by omega) (by rw [hs, fiG_r (s' := (p', q')) (by rw [hT]; rfl)])
        | succ n2 ih2 =>
          intro i2 y p' q' hx2 hn2 hT
          refine r_iload5 hX dX5_first_17 ?_
          refine r_aload0 hX dX5_first_19 ?_
          refine g_wX_0_6 hX dX5_first_20 ?_
          refine g_wX_19_0 hX dX5_first_23 ?_
          refine r_ic_ge hX dX5_first_26 (fun h26 => absurd h26 (lpn (e := D) hx2 eD (by omega) (by omega))) (fun h26 => ?_)
          refine r_aload0 hX dX5_first_29 ?_
          refine g_wX_0_4 hX dX5_first_30 ?_
          refine r_iload5 hX dX5_first_33 ?_
          refine r_iload4 hX dX5_first_35 ?_
          refine r_cV2i hX dX5_first_37 kX1_allFits fr_wX_wF_12_15 (c_X1_allFits l g _ _ _ _ N hN eN (fun k hk => by obtain ⟨q0, hq1, hq2⟩ := hA k hk; rw [hq2, hx2]; exact absN (by omega) (by omega))) rfl (by decide) (Nat.le_of_ble_eq_true rfl) ?_
          refine r_if_eq hX dX5_first_40 (fun h40 => ?_) (fun h40 => ?_)
          · refine r_iinc5 hX dX5_first_67 rfl ?_
            refine r_goto hX dX5_first_70 ?_
            exact ih2 (i2 + 1) _ _ _ (by rw [hx2]; exact nI_1 i2) (by omega) (by rw [hT, fiD_s, if_pos (show bI (canP N (fa.2 0) (fa.2 1) (fa.2 2) (nI i) (nI i2)) = 0 by rw [← hx, ← hx2]; exact h40)])
          · refine r_iload2 hX dX5_first_43 ?_
            refine r_iload1 hX dX5_first_44 ?_
            refine r_ic_ne hX dX5_first_45 (fun h45 => ?_) (fun h45 => ?_)
            · refine r_iinc2 hX dX5_first_57 rfl ?_
              refine r_iload3 hX dX5_first_60 ?_
              refine r_push hX dX5_first_61 ?_
              refine r_iload5 hX dX5_first_62 ?_
              refine r_ishl hX dX5_first_64 ?_
              refine r_ior hX dX5_first_65 ?_
              refine r_istore3 hX dX5_first_66 rfl ?_
              refine r_iinc5 hX dX5_first_67 rfl ?_
              refine r_goto hX dX5_first_70 ?_
              exact ih2 (i2 + 1) _ _ _ (by rw [hx2]; exact nI_1 i2) (by omega) (by rw [hT, fiD_s, if_neg (show ¬ bI (canP N (fa.2 0) (fa.2 1) (fa.2 2) (nI i) (nI i2)) = 0 by rw [← hx, ← hx2]; exact h40), if_neg h45, ← hx2])
            · refine r_push hX dX5_first_48 ?_
              refine r_iload4 hX dX5_first_50 ?_
              refine r_imul hX dX5_first_52 ?_
              refine r_iload5 hX dX5_first_53 ?_
              refine r_iadd hX dX5_first_55 ?_
              exact r_iret hX hQ dX5_first_56 (by rw [hs, fiG_l (r := 100 * nI i + nI i2) (by rw [hT, fiD_s, if_neg (show ¬ bI (canP N (fa.2 0) (fa.2 1) (fa.2 2) (nI i) (nI i2)) = 0 by rw [← hx, ← hx2]; exact h40), if_pos h45]), hx, hx2] <;> rfl) (rfl)
      refine r_iload4 hX dX5_first_7 ?_
      refine r_push hX dX5_first_9 ?_
      refine r_ic_gt hX dX5_first_11 (fun h11 => absurd h11 (lgn (e := 30) hx rfl (by decide) (by omega))) (fun h11 => ?_)
      refine r_push hX dX5_first_14 ?_
      refine r_istore5 hX dX5_first_15 rfl ?_
      exact hL17 D 0 _ p q rfl (by omega) rfl
  refine r_push hX dX5_first_0 ?_
  refine r_istore2 hX dX5_first_1 rfl ?_
  refine r_push hX dX5_first_2 ?_
  refine r_istore3 hX dX5_first_3 rfl ?_
  refine r_push hX dX5_first_4 ?_
  refine r_istore4 hX dX5_first_5 rfl ?_
  exact hL7 31 0 _ _ _ rfl (by omega) hsp.symm
set_option maxHeartbeats 400000 in
theorem c_X5_night (l : Launch) (g : GT) (x : Nat) (a : Nat → Nat → Nat) (kp : Int32) (rd : S2) (nw : S2) (i0 : S2) (i1 : S2) (fa : S2) (bo : S2) (pl : S2) (dr : S2) (n0 : Int32) (D : Nat) (hD : D ≤ 14) (eD : pl.1 0 = nI D) (C : Nat) (hC : C ≤ 4) (eC : pl.1 1 = nI C) (hK : ∀ j, j < C → kind3 (pl.2 2 j)) : Cx l g yX5_night cX5_night 3 (some .int) (k2_rm 3 90) [.ref (x), .int n0] (wX g x a kp rd nw i0 i1 fa bo pl dr) (some (.int (nightF D C (fun c => wshF (pl.2 2 c) (pl.2 3 c)) (pl.2 5) (pl.1 7) (nw.2 0, nw.1 4) (nw.1 2) n0).1)) (wX g x a kp rd (su (su (aw nw 0 (nightF D C (fun c => wshF (pl.2 2 c) (pl.2 3 c)) (pl.2 5) (pl.1 7) (nw.2 0, nw.1 4) (nw.1 2) n0).2.1.1) 4 (nightF D C (fun c => wshF (pl.2 2 c) (pl.2 3 c)) (pl.2 5) (pl.1 7) (nw.2 0, nw.1 4) (nw.1 2) n0).2.1.2) 2 (nightF D C (fun c => wshF (pl.2 2 c) (pl.2 3 c)) (pl.2 5) (pl.1 7) (nw.2 0, nw.1 4) (nw.1 2) n0).2.2) i0 i1 fa bo pl dr) := by
  refine meth (own := "ChalkedDoors") (by decide) rfl (Nat.le_of_ble_eq_true rfl) [some (.ref (x)), some (.int n0), none] rfl (fun X hX hQ => ?_)
  by_cases hr : inB n0.toInt 1 99
  · have r1 : ¬ n0 < 1 := fun h => inB_no1 (a := 1) (z := 99) h rfl hr
    have r2 : n0 ≤ 99 := Decidable.not_not.mp (fun h => inB_no2 (a := 1) (z := 99) h rfl hr)
    by_cases h0 : D = 0
    · have e0 : (nightF D C (fun c => wshF (pl.2 2 c) (pl.2 3 c)) (pl.2 5) (pl.1 7) (nw.2 0, nw.1 4) (nw.1 2) n0) = (-1000000003, (nw.2 0, nw.1 4), nw.1 2) := by unfold nightF; rw [if_pos hr, if_pos h0]
      rw [e0] at hQ
      refine r_iload1 hX dX5_night_0 ?_
      refine r_push hX dX5_night_1 ?_
      refine r_ic_lt hX dX5_night_2 (fun h2 => absurd h2 r1) (fun h2 => ?_)
      refine r_iload1 hX dX5_night_5 ?_
      refine r_push hX dX5_night_6 ?_
      refine r_ic_le hX dX5_night_8 (fun h8 => ?_) (fun h8 => absurd r2 h8)
      refine r_aload0 hX dX5_night_14 ?_
      refine g_wX_0_6 hX dX5_night_15 ?_
      refine g_wX_19_0 hX dX5_night_18 ?_
      refine r_if_ne hX dX5_night_21 (fun h21 => absurd (by rw [eD, h0]; rfl) h21) (fun h21 => ?_)
      refine r_push hX dX5_night_24 ?_
      exact r_iret hX hQ dX5_night_26 (rfl) (rfl)
    · have hd0 : ¬ pl.1 0 = 0 := by rw [eD]; exact nI_ne0 (by omega) (by omega)
      by_cases hm : nw.1 2 ≤ 90000
      · have e0 : (nightF D C (fun c => wshF (pl.2 2 c) (pl.2 3 c)) (pl.2 5) (pl.1 7) (nw.2 0, nw.1 4) (nw.1 2) n0) = ((nightL D C (fun c => wshF (pl.2 2 c) (pl.2 3 c)) (pl.2 5) (pl.1 7) (cl n0) (nw.2 0, nw.1 4) (nw.1 2)).2, (nightL D C (fun c => wshF (pl.2 2 c) (pl.2 3 c)) (pl.2 5) (pl.1 7) (cl n0) (nw.2 0, nw.1 4) (nw.1 2))) := by unfold nightF; rw [if_pos hr, if_neg h0, if_pos hm]
        rw [e0] at hQ
        generalize hsp : (nightL D C (fun c => wshF (pl.2 2 c) (pl.2 3 c)) (pl.2 5) (pl.1 7) (cl n0) (nw.2 0, nw.1 4) (nw.1 2)) = S at hQ
        unfold nightL at hsp
        obtain ⟨en, hnn⟩ := clN hr (by decide)
        have hE : cl n0 ≤ 99 := by have := hr.2; omega
        have hL44 : ∀ (n i : Nat) (y : Int32) (mk : Nat → Int32) (sd nt : Int32), y = nI i → i + n = (cl n0) → S = lp (fun _ s => (nightS D C (fun c => wshF (pl.2 2 c) (pl.2 3 c)) (pl.2 5) (pl.1 7) s.1, s.2 + 1)) n i ((mk, sd), nt) → vJ X 0 0 (wX g x a kp rd (su (su (aw nw 0 mk) 4 sd) 2 nt) i0 i1 fa bo pl dr) 44 [some (.ref (x)), some (.int n0), some (.int y)] [] := by
          intro n
          induction n with
          | zero =>
            intro i y mk sd nt hx hn hs
            refine r_iload2 hX dX5_night_44 ?_
            refine r_iload1 hX dX5_night_45 ?_
            refine r_ic_ge hX dX5_night_46 (fun h46 => ?_) (fun h46 => absurd (lpx (e := (cl n0)) hx en (by omega) (by omega) (by omega)) h46)
            refine r_aload0 hX dX5_night_66 ?_
            refine g_wX_0_1 hX dX5_night_67 ?_
            refine g_wX_3_2 hX dX5_night_70 ?_
            exact r_iret hX hQ dX5_night_73 (by rw [hs] <;> rfl) (by rw [hs] <;> rfl)
          | succ n ih =>
            intro i y mk sd nt hx hn hs
            refine r_iload2 hX dX5_night_44 ?_
            refine r_iload1 hX dX5_night_45 ?_
            refine r_ic_ge hX dX5_night_46 (fun h46 => absurd h46 (lpn (e := (cl n0)) hx en (by omega) (by omega))) (fun h46 => ?_)
            refine r_aload0 hX dX5_night_49 ?_
            refine g_wX_0_1 hX dX5_night_50 ?_
            refine r_aload0 hX dX5_night_53 ?_
            refine g_wX_0_6 hX dX5_night_54 ?_
            refine r_cV1v hX dX5_night_57 kX4_passNight fr_wX_wSP_3_24 (c_X4_passNight l g _ _ _ _ D hD (by exact eD) C hC (by exact eC) (by exact hK)) rfl (by decide) (Nat.le_of_ble_eq_true rfl) ?_
            refine r_iinc2 hX dX5_night_60 rfl ?_
            refine r_goto hX dX5_night_63 ?_
            refine vJw (w' := wX g x a kp rd (su (su (aw nw 0 (nightS D C (fun c => wshF (pl.2 2 c) (pl.2 3 c)) (pl.2 5) (pl.1 7) (mk, sd)).1) 4 (nightS D C (fun c => wshF (pl.2 2 c) (pl.2 3 c)) (pl.2 5) (pl.1 7) (mk, sd)).2) 2 (nt + 1)) i0 i1 fa bo pl dr) rfl ?_
            exact ih (i + 1) _ _ _ _ (by rw [hx]; exact nI_1 i) (by omega) hs
        refine r_iload1 hX dX5_night_0 ?_
        refine r_push hX dX5_night_1 ?_
        refine r_ic_lt hX dX5_night_2 (fun h2 => absurd h2 r1) (fun h2 => ?_)
        refine r_iload1 hX dX5_night_5 ?_
        refine r_push hX dX5_night_6 ?_
        refine r_ic_le hX dX5_night_8 (fun h8 => ?_) (fun h8 => absurd r2 h8)
        refine r_aload0 hX dX5_night_14 ?_
        refine g_wX_0_6 hX dX5_night_15 ?_
        refine g_wX_19_0 hX dX5_night_18 ?_
        refine r_if_ne hX dX5_night_21 (fun h21 => ?_) (fun h21 => absurd h21 hd0)
        refine r_aload0 hX dX5_night_27 ?_
        refine g_wX_0_1 hX dX5_night_28 ?_
        refine g_wX_3_2 hX dX5_night_31 ?_
        refine r_push hX dX5_night_34 ?_
        refine r_ic_le hX dX5_night_36 (fun h36 => ?_) (fun h36 => absurd hm h36)
        refine r_push hX dX5_night_42 ?_
        refine r_istore2 hX dX5_night_43 rfl ?_
        refine vJw (w' := wX g x a kp rd (su (su (aw nw 0 (nw.2 0)) 4 (nw.1 4)) 2 (nw.1 2)) i0 i1 fa bo pl dr) rfl ?_
        exact hL44 (cl n0) 0 _ _ _ _ rfl (by omega) hsp.symm
      · have e0 : (nightF D C (fun c => wshF (pl.2 2 c) (pl.2 3 c)) (pl.2 5) (pl.1 7) (nw.2 0, nw.1 4) (nw.1 2) n0) = (-1000000004, (nw.2 0, nw.1 4), nw.1 2) := by unfold nightF; rw [if_pos hr, if_neg h0, if_neg hm]
        rw [e0] at hQ
        refine r_iload1 hX dX5_night_0 ?_
        refine r_push hX dX5_night_1 ?_
        refine r_ic_lt hX dX5_night_2 (fun h2 => absurd h2 r1) (fun h2 => ?_)
        refine r_iload1 hX dX5_night_5 ?_
        refine r_push hX dX5_night_6 ?_
        refine r_ic_le hX dX5_night_8 (fun h8 => ?_) (fun h8 => absurd r2 h8)
        refine r_aload0 hX dX5_night_14 ?_
        refine g_wX_0_6 hX dX5_night_15 ?_
        refine g_wX_19_0 hX dX5_night_18 ?_
        refine r_if_ne hX dX5_night_21 (fun h21 => ?_) (fun h21 => absurd h21 hd0)
        refine r_aload0 hX dX5_night_27 ?_
        refine g_wX_0_1 hX dX5_night_28 ?_
        refine g_wX_3_2 hX dX5_night_31 ?_
        refine r_push hX dX5_night_34 ?_
        refine r_ic_le hX dX5_night_36 (fun h36 => absurd h36 hm) (fun h36 => ?_)
        refine r_push hX dX5_night_39 ?_
        exact r_iret hX hQ dX5_night_41 (rfl) (rfl)
  · have e0 : (nightF D C (fun c => wshF (pl.2 2 c) (pl.2 3 c)) (pl.2 5) (pl.1 7) (nw.2 0, nw.1 4) (nw.1 2) n0) = (-1000000002, (nw.2 0, nw.1 4), nw.1 2) := by unfold nightF; rw [if_neg hr]
    rw [e0] at hQ
    refine r_iload1 hX dX5_night_0 ?_
    refine r_push hX dX5_night_1 ?_
    refine r_ic_lt hX dX5_night_2 (fun h2 => ?_) (fun h2 => ?_)
    · refine r_push hX dX5_night_11 ?_
      exact r_iret hX hQ dX5_night_13 (rfl) (rfl)
    · refine r_iload1 hX dX5_night_5 ?_
      refine r_push hX dX5_night_6 ?_
      refine r_ic_le hX dX5_night_8 (fun h8 => absurd (inB_yes (a := 1) (z := 99) h2 h8 rfl rfl) hr) (fun h8 => ?_)
      refine r_push hX dX5_night_11 ?_
      exact r_iret hX hQ dX5_night_13 (rfl) (rfl)
