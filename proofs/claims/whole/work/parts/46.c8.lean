theorem l_wX_4 {X : CT} {l : Launch} {g : GT} {own : String} {cc : ByteArray} {R : Room} {cs sl pc nx : Nat} {lv : List (Option Value)} {st : List Value} {x : Nat} {a : Nat → Nat → Nat} {kp : Int32} {rd : S2} {nw : S2} {i0 : S2} {i1 : S2} {fa : S2} {bo : S2} {pl : S2} {dr : S2} {i : Int32} (hX : oK X l g own cc R) (hd : dR cc pc (.iaload) 1 nx) (hi : vp_in i 14) (k : vJ X cs sl (wX g x a kp rd nw i0 i1 fa bo pl dr) nx lv (.int (nw.2 0 i.toNatClampNeg) :: st)) : vJ X cs sl (wX g x a kp rd nw i0 i1 fa bo pl dr) pc lv (.int i :: .ref (a 1 1) :: st) := r_iald hX hd 4 rfl hi k
theorem l_wX_5 {X : CT} {l : Launch} {g : GT} {own : String} {cc : ByteArray} {R : Room} {cs sl pc nx : Nat} {lv : List (Option Value)} {st : List Value} {x : Nat} {a : Nat → Nat → Nat} {kp : Int32} {rd : S2} {nw : S2} {i0 : S2} {i1 : S2} {fa : S2} {bo : S2} {pl : S2} {dr : S2} {i : Int32} (hX : oK X l g own cc R) (hd : dR cc pc (.iaload) 1 nx) (hi : vp_in i 14) (k : vJ X cs sl (wX g x a kp rd nw i0 i1 fa bo pl dr) nx lv (.int (nw.2 1 i.toNatClampNeg) :: st)) : vJ X cs sl (wX g x a kp rd nw i0 i1 fa bo pl dr) pc lv (.int i :: .ref (a 1 2) :: st) := r_iald hX hd 5 rfl hi k
theorem s_wX_4 {X : CT} {l : Launch} {g : GT} {own : String} {cc : ByteArray} {R : Room} {cs sl pc nx : Nat} {lv : List (Option Value)} {st : List Value} {x : Nat} {a : Nat → Nat → Nat} {kp : Int32} {rd : S2} {nw : S2} {i0 : S2} {i1 : S2} {fa : S2} {bo : S2} {pl : S2} {dr : S2} {i v : Int32} (hX : oK X l g own cc R) (hd : dR cc pc (.iastore) 1 nx) (hi : vp_in i 14) (k : vJ X cs sl (wX g x a kp rd (au nw 0 i.toNatClampNeg v) i0 i1 fa bo pl dr) nx lv st) : vJ X cs sl (wX g x a kp rd nw i0 i1 fa bo pl dr) pc lv (.int v :: .int i :: .ref (a 1 1) :: st) := r_iast hX hd 4 rfl hi _ rfl k
theorem fr_wX_wS_3_5 {g : GT} {x : Nat} {a : Nat → Nat → Nat} {kp : Int32} {rd : S2} {nw : S2} {i0 : S2} {i1 : S2} {fa : S2} {bo : S2} {pl : S2} {dr : S2} {σ' : S2} : frm (wX g x a kp rd nw i0 i1 fa bo pl dr) (wS g (a 1) nw) (wS g (a 1) σ') (wX g x a kp rd σ' i0 i1 fa bo pl dr) := frm_msk [3, 4, 5] (fW_f (fW_f (fW_f (fW_t rfl (fW_t rfl (fW_t rfl (fW_f (fW_f (fW_f (fW_f (fW_f (fW_f (fW_f (fW_f (fW_f (fW_f (fW_f (fW_f (fW_f (fW_f (fW_f (fW_f (fW_f (fW_f (fW_f (fW_f (fW_f (fW_f (fW_f (fW_f (fW_f (fW_n)))))))))))))))))))))))))))))))) rfl rfl rfl rfl
set_option maxHeartbeats 400000 in
theorem c_X5_door (l : Launch) (g : GT) (x : Nat) (a : Nat → Nat → Nat) (kp : Int32) (rd : S2) (nw : S2) (i0 : S2) (i1 : S2) (fa : S2) (bo : S2) (pl : S2) (dr : S2) (d t : Int32) (D : Nat) (hD : D ≤ 14) (eD : pl.1 0 = nI D) : Cx l g yX5_door cX5_door 3 (some .int) (k2_rm 1 30) [.ref (x), .int d, .int t] (wX g x a kp rd nw i0 i1 fa bo pl dr) (some (.int (if inD d (pl.1 0) then selF [nw.2 0 (cl d), nw.2 1 (cl d)] t else -1000000001))) (wX g x a kp rd nw i0 i1 fa bo pl dr) := by
  refine meth (own := "ChalkedDoors") (by decide) rfl (Nat.le_of_ble_eq_true rfl) [some (.ref (x)), some (.int d), some (.int t)] rfl (fun X hX hQ => ?_)
  have k14 : inD d (pl.1 0) → vJ X 0 0 (wX g x a kp rd nw i0 i1 fa bo pl dr) 14 [some (.ref (x)), some (.int d), some (.int t)] [] := by
    intro hd
    refine r_iload2 hX dX5_door_14 ?_
    by_cases hw0 : t = 0
    · refine r_look (tgt := 40) (off := 25) hX dX5_door_15 (by decide) (by rw [hw0]; rfl) (by decide) ?_
      refine r_aload0 hX dX5_door_40 ?_
      refine g_wX_0_1 hX dX5_door_41 ?_
      refine g_wX_3_0 hX dX5_door_44 ?_
      refine r_iload1 hX dX5_door_47 ?_
      refine l_wX_4 hX dX5_door_48 (vin hd eD hD (by decide)) ?_
      exact r_iret hX hQ dX5_door_49 (by rw [if_pos hd, hw0]; rfl) (rfl)
    · skip
      by_cases hw1 : t = 1
      · refine r_look (tgt := 50) (off := 35) hX dX5_door_15 (by decide) (by rw [hw1]; rfl) (by decide) ?_
        refine r_aload0 hX dX5_door_50 ?_
        refine g_wX_0_1 hX dX5_door_51 ?_
        refine g_wX_3_1 hX dX5_door_54 ?_
        refine r_iload1 hX dX5_door_57 ?_
        refine l_wX_5 hX dX5_door_58 (vin hd eD hD (by decide)) ?_
        exact r_iret hX hQ dX5_door_59 (by rw [if_pos hd, hw1]; rfl) (rfl)
      · skip
        refine r_look (tgt := 60) (off := 45) hX dX5_door_15 (by decide) (by show Op.lookupswitch.offset [(0, 25), (1, 35)] 45 _ = _; rw [lv_osw (k := 0) (a := 0) hw0 rfl, lv_osw (k := 1) (a := 1) hw1 rfl]; rfl) (by decide) ?_
        refine r_push hX dX5_door_60 ?_
        exact r_iret hX hQ dX5_door_62 (by rw [if_pos hd, sel_out (n := 2) rfl (sel2 hw0 hw1)]) (rfl)
  refine r_aload0 hX dX5_door_0 ?_
  refine g_wX_0_6 hX dX5_door_1 ?_
  refine r_iload1 hX dX5_door_4 ?_
  refine r_cV1i hX dX5_door_5 kX2_hasDoor fr_wX_wP_19_24 (c_X2_hasDoor l g _ _ _) rfl (by decide) (Nat.le_of_ble_eq_true rfl) ?_
  refine r_if_ne hX dX5_door_8 (fun h8 => ?_) (fun h8 => ?_)
  · exact k14 (bI_nz h8)
  · refine r_push hX dX5_door_11 ?_
    exact r_iret hX hQ dX5_door_13 (by rw [if_neg (bI_z h8)]) (rfl)
set_option maxHeartbeats 400000 in
theorem c_X5_mark (l : Launch) (g : GT) (x : Nat) (a : Nat → Nat → Nat) (kp : Int32) (rd : S2) (nw : S2) (i0 : S2) (i1 : S2) (fa : S2) (bo : S2) (pl : S2) (dr : S2) (d c : Int32) (D : Nat) (hD : D ≤ 14) (eD : pl.1 0 = nI D) (C : Nat) (hC : C ≤ 4) (eC : pl.1 1 = nI C) : Cx l g yX5_mark cX5_mark 3 (some .int) (k2_rm 2 60) [.ref (x), .int d, .int c] (wX g x a kp rd nw i0 i1 fa bo pl dr) (some (.int (markF (pl.1 0) (pl.1 1) (nw.2 0) (pl.2 4) (nw.1 3) d c).1)) (wX g x a kp rd (su (aw nw 0 (markF (pl.1 0) (pl.1 1) (nw.2 0) (pl.2 4) (nw.1 3) d c).2.1) 3 (markF (pl.1 0) (pl.1 1) (nw.2 0) (pl.2 4) (nw.1 3) d c).2.2) i0 i1 fa bo pl dr) := by
  refine meth (own := "ChalkedDoors") (by decide) rfl (Nat.le_of_ble_eq_true rfl) [some (.ref (x)), some (.int d), some (.int c)] rfl (fun X hX hQ => ?_)
  refine r_aload0 hX dX5_mark_0 ?_
  refine g_wX_0_6 hX dX5_mark_1 ?_
  refine r_iload1 hX dX5_mark_4 ?_
  refine r_cV1i hX dX5_mark_5 kX2_hasDoor fr_wX_wP_19_24 (c_X2_hasDoor l g _ _ _) rfl (by decide) (Nat.le_of_ble_eq_true rfl) ?_
  refine r_if_eq hX dX5_mark_8 (fun h8 => ?_) (fun h8 => ?_)
  · refine r_push hX dX5_mark_22 ?_
    exact r_iret hX hQ dX5_mark_24 (by unfold markF; rw [if_neg (fun h => bI_z h8 h.1)] <;> rfl) (by unfold markF; rw [if_neg (fun h => bI_z h8 h.1)] <;> rfl)
  · refine r_aload0 hX dX5_mark_11 ?_
    refine g_wX_0_6 hX dX5_mark_12 ?_
    refine r_iload2 hX dX5_mark_15 ?_
    refine r_cV1i hX dX5_mark_16 kX2_hasChalk fr_wX_wP_19_24 (c_X2_hasChalk l g _ _ _) rfl (by decide) (Nat.le_of_ble_eq_true rfl) ?_
    refine r_if_ne hX dX5_mark_19 (fun h19 => ?_) (fun h19 => ?_)
    · refine r_aload0 hX dX5_mark_25 ?_
      refine g_wX_0_1 hX dX5_mark_26 ?_
      refine g_wX_3_0 hX dX5_mark_29 ?_
      refine r_iload1 hX dX5_mark_32 ?_
      refine l_wX_4 hX dX5_mark_33 (vin (bI_nz h8) eD hD (by decide)) ?_
      refine r_iload2 hX dX5_mark_34 ?_
      refine r_nS2i hX dX5_mark_35 kX5_has (c_X5_has l g _ _) (by decide) (Nat.le_of_ble_eq_true rfl) ?_
      refine r_if_eq hX dX5_mark_38 (fun h38 => ?_) (fun h38 => ?_)
      · refine r_aload0 hX dX5_mark_44 ?_
        refine g_wX_0_1 hX dX5_mark_45 ?_
        refine g_wX_3_0 hX dX5_mark_48 ?_
        refine r_iload1 hX dX5_mark_51 ?_
        refine r_dup2 hX dX5_mark_52 rfl rfl ?_
        refine l_wX_4 hX dX5_mark_53 (vin (bI_nz h8) eD hD (by decide)) ?_
        refine r_push hX dX5_mark_54 ?_
        refine r_iload2 hX dX5_mark_55 ?_
        refine r_ishl hX dX5_mark_56 ?_
        refine r_ior hX dX5_mark_57 ?_
        refine s_wX_4 hX dX5_mark_58 (vin (bI_nz h8) eD hD (by decide)) ?_
        refine r_aload0 hX dX5_mark_59 ?_
        refine g_wX_0_1 hX dX5_mark_60 ?_
        refine r_aload0 hX dX5_mark_63 ?_
        refine g_wX_0_6 hX dX5_mark_64 ?_
        refine g_wX_19_4 hX dX5_mark_67 ?_
        refine r_iload2 hX dX5_mark_70 ?_
        refine l_wX_22 hX dX5_mark_71 (vin (bI_nz h19) eC hC (by decide)) ?_
        refine r_cV1v hX dX5_mark_72 kX4_spend fr_wX_wS_3_5 (c_X4_spend l g _ _ _) rfl (by decide) (Nat.le_of_ble_eq_true rfl) ?_
        refine r_aload0 hX dX5_mark_75 ?_
        refine g_wX_0_1 hX dX5_mark_76 ?_
        refine g_wX_3_3 hX dX5_mark_79 ?_
        exact r_iret hX hQ dX5_mark_82 (by unfold markF; rw [if_pos (⟨bI_nz h8, bI_nz h19⟩ : inD d (pl.1 0) ∧ inD c (pl.1 1)), if_neg (bI_z h38)] <;> rfl) (by unfold markF; rw [if_pos (⟨bI_nz h8, bI_nz h19⟩ : inD d (pl.1 0) ∧ inD c (pl.1 1)), if_neg (bI_z h38)] <;> rfl)
      · refine r_push hX dX5_mark_41 ?_
        exact r_iret hX hQ dX5_mark_43 (by unfold markF; rw [if_pos (⟨bI_nz h8, bI_nz h19⟩ : inD d (pl.1 0) ∧ inD c (pl.1 1)), if_pos (bI_nz h38)] <;> rfl) (by unfold markF; rw [if_pos (⟨bI_nz h8, bI_nz h19⟩ : inD d (pl.1 0) ∧ inD c (pl.1 1)), if_pos (bI_nz h38)] <;> rfl)
    · refine r_push hX dX5_mark_22 ?_
      exact r_iret hX hQ dX5_mark_24 (by unfold markF; rw [if_neg (fun h => bI_z h19 h.2)] <;> rfl) (by unfold markF; rw [if_neg (fun h => bI_z h19 h.2)] <;> rfl)
set_option maxHeartbeats 400000 in
theorem c_X5_wipe (l : Launch) (g : GT) (x : Nat) (a : Nat → Nat → Nat) (kp : Int32) (rd : S2) (nw : S2) (i0 : S2) (i1 : S2) (fa : S2) (bo : S2) (pl : S2) (dr : S2) (d c : Int32) (D : Nat) (hD : D ≤ 14) (eD : pl.1 0 = nI D) (C : Nat) (hC : C ≤ 4) (eC : pl.1 1 = nI C) : Cx l g yX5_wipe cX5_wipe 3 (some .int) (k2_rm 1 30) [.ref (x), .int d, .int c] (wX g x a kp rd nw i0 i1 fa bo pl dr) (some (.int (wipeF (pl.1 0) (pl.1 1) (nw.2 0) d c).1)) (wX g x a kp rd (aw nw 0 (wipeF (pl.1 0) (pl.1 1) (nw.2 0) d c).2) i0 i1 fa bo pl dr) := by
  refine meth (own := "ChalkedDoors") (by decide) rfl (Nat.le_of_ble_eq_true rfl) [some (.ref (x)), some (.int d), some (.int c)] rfl (fun X hX hQ => ?_)
  refine r_aload0 hX dX5_wipe_0 ?_
  refine g_wX_0_6 hX dX5_wipe_1 ?_
  refine r_iload1 hX dX5_wipe_4 ?_
  refine r_cV1i hX dX5_wipe_5 kX2_hasDoor fr_wX_wP_19_24 (c_X2_hasDoor l g _ _ _) rfl (by decide) (Nat.le_of_ble_eq_true rfl) ?_
  refine r_if_eq hX dX5_wipe_8 (fun h8 => ?_) (fun h8 => ?_)
  · refine r_push hX dX5_wipe_22 ?_
    exact r_iret hX hQ dX5_wipe_24 (by unfold wipeF; rw [if_neg (fun h => bI_z h8 h.1)] <;> first | rfl | (show some (Value.int (upd _ _ _ _)) = _; rw [pk_us])) (by unfold wipeF; rw [if_neg (fun h => bI_z h8 h.1)] <;> rfl)
  · refine r_aload0 hX dX5_wipe_11 ?_
    refine g_wX_0_6 hX dX5_wipe_12 ?_
    refine r_iload2 hX dX5_wipe_15 ?_
    refine r_cV1i hX dX5_wipe_16 kX2_hasChalk fr_wX_wP_19_24 (c_X2_hasChalk l g _ _ _) rfl (by decide) (Nat.le_of_ble_eq_true rfl) ?_
    refine r_if_ne hX dX5_wipe_19 (fun h19 => ?_) (fun h19 => ?_)
    · refine r_aload0 hX dX5_wipe_25 ?_
      refine g_wX_0_1 hX dX5_wipe_26 ?_
      refine g_wX_3_0 hX dX5_wipe_29 ?_
      refine r_iload1 hX dX5_wipe_32 ?_
      refine l_wX_4 hX dX5_wipe_33 (vin (bI_nz h8) eD hD (by decide)) ?_
      refine r_iload2 hX dX5_wipe_34 ?_
      refine r_nS2i hX dX5_wipe_35 kX5_has (c_X5_has l g _ _) (by decide) (Nat.le_of_ble_eq_true rfl) ?_
      refine r_if_ne hX dX5_wipe_38 (fun h38 => ?_) (fun h38 => ?_)
      · refine r_aload0 hX dX5_wipe_44 ?_
        refine g_wX_0_1 hX dX5_wipe_45 ?_
        refine g_wX_3_0 hX dX5_wipe_48 ?_
        refine r_iload1 hX dX5_wipe_51 ?_
        refine r_dup2 hX dX5_wipe_52 rfl rfl ?_
        refine l_wX_4 hX dX5_wipe_53 (vin (bI_nz h8) eD hD (by decide)) ?_
        refine r_push hX dX5_wipe_54 ?_
        refine r_iload2 hX dX5_wipe_55 ?_
        refine r_ishl hX dX5_wipe_56 ?_
        refine r_push hX dX5_wipe_57 ?_
        refine r_ixor hX dX5_wipe_58 ?_
        refine r_iand hX dX5_wipe_59 ?_
        refine s_wX_4 hX dX5_wipe_60 (vin (bI_nz h8) eD hD (by decide)) ?_
        refine r_aload0 hX dX5_wipe_61 ?_
        refine g_wX_0_1 hX dX5_wipe_62 ?_
        refine g_wX_3_0 hX dX5_wipe_65 ?_
        refine r_iload1 hX dX5_wipe_68 ?_
        refine l_wX_4 hX dX5_wipe_69 (vin (bI_nz h8) eD hD (by decide)) ?_
        exact r_iret hX hQ dX5_wipe_70 (by unfold wipeF; rw [if_pos (⟨bI_nz h8, bI_nz h19⟩ : inD d (pl.1 0) ∧ inD c (pl.1 1)), if_pos (bI_nz h38)] <;> first | rfl | (show some (Value.int (upd _ _ _ _)) = _; rw [pk_us])) (by unfold wipeF; rw [if_pos (⟨bI_nz h8, bI_nz h19⟩ : inD d (pl.1 0) ∧ inD c (pl.1 1)), if_pos (bI_nz h38)] <;> rfl)
      · refine r_push hX dX5_wipe_41 ?_
        exact r_iret hX hQ dX5_wipe_43 (by unfold wipeF; rw [if_pos (⟨bI_nz h8, bI_nz h19⟩ : inD d (pl.1 0) ∧ inD c (pl.1 1)), if_neg (bI_z h38)] <;> first | rfl | (show some (Value.int (upd _ _ _ _)) = _; rw [pk_us])) (by unfold wipeF; rw [if_pos (⟨bI_nz h8, bI_nz h19⟩ : inD d (pl.1 0) ∧ inD c (pl.1 1)), if_neg (bI_z h38)] <;> rfl)
    · refine r_push hX dX5_wipe_22 ?_
      exact r_iret hX hQ dX5_wipe_24 (by unfold wipeF; rw [if_neg (fun h => bI_z h19 h.2)] <;> first | rfl | (show some (Value.int (upd _ _ _ _)) = _; rw [pk_us])) (by unfold wipeF; rw [if_neg (fun h => bI_z h19 h.2)] <;> rfl)
set_option maxHeartbeats 400000 in
theorem c_X5_like (l : Launch) (g : GT) (x : Nat) (a : Nat → Nat → Nat) (kp : Int32) (rd : S2) (nw : S2) (i0 : S2) (i1 : S2) (fa : S2) (bo : S2) (pl : S2) (dr : S2) (t : Int32) (D : Nat) (hD : D ≤ 14) (eD : pl.1 0 = nI D) (C : Nat) (hC : C ≤ 4) (eC : pl.1 1 = nI C) : Cx l g yX5_like cX5_like 4 (some .int) (k2_rm 1 30) [.ref (x), .int t] (wX g x a kp rd nw i0 i1 fa bo pl dr) (some (.int (if stD t (pl.1 1) then likeF D (nw.2 0) t else -1000000001))) (wX g x a kp rd nw i0 i1 fa bo pl dr) := by
  refine meth (own := "ChalkedDoors") (by decide) rfl (Nat.le_of_ble_eq_true rfl) [some (.ref (x)), some (.int t), none, none] rfl (fun X hX hQ => ?_)
  generalize hsp : likeF D (nw.2 0) t = S at hQ
  unfold likeF at hsp
  have hL18 : ∀ (n i : Nat) (y : Int32) (r : Int32), y = nI i → i + n = D → stD t (pl.1 1) → S = lp (fun d r => if nw.2 0 d = t then r ||| bit (nI d) else r) n i r → vJ X 0 0 (wX g x a kp rd nw i0 i1 fa bo pl dr) 18 [some (.ref (x)), some (.int t), some (.int r), some (.int y)] [] := by
    intro n
    induction n with
    | zero =>
      intro i y r hx hn ht hs
      refine r_iload3 hX dX5_like_18 ?_
      refine r_aload0 hX dX5_like_19 ?_
      refine g_wX_0_6 hX dX5_like_20 ?_
      refine g_wX_19_0 hX dX5_like_23 ?_
      refine r_ic_ge hX dX5_like_26 (fun h26 => ?_) (fun h26 => absurd (lpx (e := D) hx eD (by omega) (by omega) (by omega)) h26)
      refine r_iload2 hX dX5_like_54 ?_
      exact r_iret hX hQ dX5_like_55 (by rw [if_pos ht, hs] <;> rfl) (rfl)
    | succ n ih =>
      intro i y r hx hn ht hs
      have hcx : cl y = i := by rw [hx]; exact nI_clamp (by omega)
      refine r_iload3 hX dX5_like_18 ?_
      refine r_aload0 hX dX5_like_19 ?_
      refine g_wX_0_6 hX dX5_like_20 ?_
      refine g_wX_19_0 hX dX5_like_23 ?_
      refine r_ic_ge hX dX5_like_26 (fun h26 => absurd h26 (lpn (e := D) hx eD (by omega) (by omega))) (fun h26 => ?_)
      refine r_aload0 hX dX5_like_29 ?_
      refine g_wX_0_1 hX dX5_like_30 ?_
      refine g_wX_3_0 hX dX5_like_33 ?_
      refine r_iload3 hX dX5_like_36 ?_
      refine l_wX_4 hX dX5_like_37 (by rw [hx]; exact vp_in_nI (by omega) (by omega)) ?_
      refine r_iload1 hX dX5_like_38 ?_
      refine r_ic_ne hX dX5_like_39 (fun h39 => ?_) (fun h39 => ?_)
      · refine r_iinc3 hX dX5_like_48 rfl ?_
        refine r_goto hX dX5_like_51 ?_
        exact ih (i + 1) _ _ (by rw [hx]; exact nI_1 i) (by omega) ht (by rw [hs]; show lp _ n (i + 1) (ite _ _ _) = _; rw [if_neg (show ¬ nw.2 0 i = t by rw [← hcx]; exact h39)])
      · refine r_iload2 hX dX5_like_42 ?_
        refine r_push hX dX5_like_43 ?_
        refine r_iload3 hX dX5_like_44 ?_
        refine r_ishl hX dX5_like_45 ?_
        refine r_ior hX dX5_like_46 ?_
        refine r_istore2 hX dX5_like_47 rfl ?_
        refine r_iinc3 hX dX5_like_48 rfl ?_
        refine r_goto hX dX5_like_51 ?_
        exact ih (i + 1) _ _ (by rw [hx]; exact nI_1 i) (by omega) ht (by rw [hs]; show lp _ n (i + 1) (ite _ _ _) = _; rw [if_pos (show nw.2 0 i = t by rw [← hcx]; exact h39), hx])
  refine r_aload0 hX dX5_like_0 ?_
  refine g_wX_0_6 hX dX5_like_1 ?_
  refine r_iload1 hX dX5_like_4 ?_
  refine r_cV1i hX dX5_like_5 kX2_hasChalksOf fr_wX_wP_19_24 (c_X2_hasChalksOf l g _ _ _) rfl (by decide) (Nat.le_of_ble_eq_true rfl) ?_
  refine r_if_ne hX dX5_like_8 (fun h8 => ?_) (fun h8 => ?_)
  · refine r_push hX dX5_like_14 ?_
    refine r_istore2 hX dX5_like_15 rfl ?_
    refine r_push hX dX5_like_16 ?_
    refine r_istore3 hX dX5_like_17 rfl ?_
    exact hL18 D 0 _ _ rfl (by omega) (bI_nz h8) hsp.symm
  · refine r_push hX dX5_like_11 ?_
    exact r_iret hX hQ dX5_like_13 (by rw [if_neg (bI_z h8)]) (rfl)
