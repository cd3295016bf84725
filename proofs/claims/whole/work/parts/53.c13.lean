set_option maxHeartbeats 400000 in
theorem c_X5_watchman (l : Launch) (g : GT) (x : Nat) (a : Nat → Nat → Nat) (kp : Int32) (rd : S2) (nw : S2) (i0 : S2) (i1 : S2) (fa : S2) (bo : S2) (pl : S2) (dr : S2) (t : Int32) (D : Nat) (hD : D ≤ 14) (eD : pl.1 0 = nI D) (S : Nat) (hS9 : S ≤ 9) (eS : pl.1 8 = nI S) (hS1 : ¬ pl.1 8 = 0 → 1 ≤ D) : Cx l g yX5_watchman cX5_watchman 2 (some .int) (k2_rm 2 60) [.ref (x), .int t] (wX g x a kp rd nw i0 i1 fa bo pl dr) (some (.int (if inB t.toInt 0 99999 then (if pl.1 8 = 0 then -1 else nI (wtN D (cl t / S))) else -1000000002))) (wX g x a kp rd nw i0 i1 fa bo pl dr) := by
  refine meth (own := "ChalkedDoors") (by decide) rfl (Nat.le_of_ble_eq_true rfl) [some (.ref (x)), some (.int t)] rfl (fun X hX hQ => ?_)
  refine r_iload1 hX dX5_watchman_0 ?_
  refine r_if_lt hX dX5_watchman_1 (fun h1 => ?_) (fun h1 => ?_)
  · refine r_push hX dX5_watchman_10 ?_
    exact r_iret hX hQ dX5_watchman_12 (by rw [if_neg (show ¬ inB t.toInt 0 99999 from inB_no1 h1 rfl)]) (rfl)
  · refine r_iload1 hX dX5_watchman_4 ?_
    refine r_push hX dX5_watchman_5 ?_
    refine r_ic_le hX dX5_watchman_7 (fun h7 => ?_) (fun h7 => ?_)
    · refine r_aload0 hX dX5_watchman_13 ?_
      refine g_wX_0_6 hX dX5_watchman_14 ?_
      refine g_wX_19_8 hX dX5_watchman_17 ?_
      refine r_if_ne hX dX5_watchman_20 (fun h20 => ?_) (fun h20 => ?_)
      · refine r_aload0 hX dX5_watchman_25 ?_
        have hz : inB t.toInt 0 99999 := inB_yes h1 h7 rfl rfl
        obtain ⟨ez, ez2⟩ := clN hz (by decide)
        have ek : cl t ≤ 99999 := by have := hz.2; omega
        have hS0 : 0 < S := Nat.pos_of_ne_zero (fun q => h20 (by rw [eS, q]; rfl))
        have eq1 : t / pl.1 8 = nI (cl t / S) := by rw [eS]; exact (congrArg (fun q => q / nI S) ez).trans (pk_div (by omega) hS0 (by omega))
        have hdv : cl t / S ≤ cl t := Nat.div_le_self _ _
        refine g_wX_0_6 hX dX5_watchman_26 ?_
        refine r_iload1 hX dX5_watchman_29 ?_
        refine r_aload0 hX dX5_watchman_30 ?_
        refine g_wX_0_6 hX dX5_watchman_31 ?_
        refine g_wX_19_8 hX dX5_watchman_34 ?_
        refine r_idiv hX dX5_watchman_37 h20 ?_
        refine r_cV1i hX dX5_watchman_38 kX2_doorAtStop fr_wX_wP_19_24 (c_X2_doorAtStop l g _ _ _ D hD (hS1 h20) eD (cl t / S) eq1 (by omega)) rfl (by decide) (Nat.le_of_ble_eq_true rfl) ?_
        exact r_iret hX hQ dX5_watchman_41 (by rw [if_pos hz, if_neg h20]) (rfl)
      · refine r_push hX dX5_watchman_23 ?_
        exact r_iret hX hQ dX5_watchman_24 (by rw [if_pos (show inB t.toInt 0 99999 from inB_yes h1 h7 rfl rfl), if_pos h20]) (rfl)
    · refine r_push hX dX5_watchman_10 ?_
      exact r_iret hX hQ dX5_watchman_12 (by rw [if_neg (show ¬ inB t.toInt 0 99999 from inB_no2 h7 rfl)]) (rfl)
set_option maxHeartbeats 400000 in
theorem c_X5_unseen (l : Launch) (g : GT) (x : Nat) (a : Nat → Nat → Nat) (kp : Int32) (rd : S2) (nw : S2) (i0 : S2) (i1 : S2) (fa : S2) (bo : S2) (pl : S2) (dr : S2) (d : Int32) (D : Nat) (hD : D ≤ 14) (eD : pl.1 0 = nI D) (hS1 : ¬ pl.1 8 = 0 → 1 ≤ D) : Cx l g yX5_unseen cX5_unseen 2 (some .int) (k2_rm 3 90) [.ref (x), .int d] (wX g x a kp rd nw i0 i1 fa bo pl dr) (some (.int (if inD d (pl.1 0) then (if pl.1 8 = 0 then -1 else lunF D (cl d) (pl.1 9) * pl.1 8) else -1000000001))) (wX g x a kp rd nw i0 i1 fa bo pl dr) := by
  refine meth (own := "ChalkedDoors") (by decide) rfl (Nat.le_of_ble_eq_true rfl) [some (.ref (x)), some (.int d)] rfl (fun X hX hQ => ?_)
  refine r_aload0 hX dX5_unseen_0 ?_
  refine g_wX_0_6 hX dX5_unseen_1 ?_
  refine r_iload1 hX dX5_unseen_4 ?_
  refine r_cV1i hX dX5_unseen_5 kX2_hasDoor fr_wX_wP_19_24 (c_X2_hasDoor l g _ _ _) rfl (by decide) (Nat.le_of_ble_eq_true rfl) ?_
  refine r_if_ne hX dX5_unseen_8 (fun h8 => ?_) (fun h8 => ?_)
  · refine r_aload0 hX dX5_unseen_14 ?_
    refine g_wX_0_6 hX dX5_unseen_15 ?_
    refine g_wX_19_8 hX dX5_unseen_18 ?_
    refine r_if_ne hX dX5_unseen_21 (fun h21 => ?_) (fun h21 => ?_)
    · refine r_aload0 hX dX5_unseen_26 ?_
      refine g_wX_0_6 hX dX5_unseen_27 ?_
      refine r_iload1 hX dX5_unseen_30 ?_
      refine r_aload0 hX dX5_unseen_31 ?_
      refine g_wX_0_6 hX dX5_unseen_32 ?_
      refine g_wX_19_9 hX dX5_unseen_35 ?_
      refine r_cV2i hX dX5_unseen_38 kX2_longestUnseen fr_wX_wP_19_24 (c_X2_longestUnseen l g _ _ _ _ D hD (hS1 h21) eD (cl d) (inD_nI (bI_nz h8)) (inD_cl (bI_nz h8) eD (by omega))) rfl (by decide) (Nat.le_of_ble_eq_true rfl) ?_
      exact r_iret hX hQ dX5_unseen_41 (by rw [if_pos (bI_nz h8), if_neg h21]) (rfl)
    · refine r_push hX dX5_unseen_24 ?_
      exact r_iret hX hQ dX5_unseen_25 (by rw [if_pos (bI_nz h8), if_pos h21]) (rfl)
  · refine r_push hX dX5_unseen_11 ?_
    exact r_iret hX hQ dX5_unseen_13 (by rw [if_neg (bI_z h8)]) (rfl)
noncomputable def sgtF (D : Nat) (S m : Int32) : Int32 := ffF (fun z => if bI (∀ d, d < D → lunF D d (nI z) * S < m) = 0 then none else some (nI z)) 14 0
set_option maxHeartbeats 400000 in
theorem c_X5_sight (l : Launch) (g : GT) (x : Nat) (a : Nat → Nat → Nat) (kp : Int32) (rd : S2) (nw : S2) (i0 : S2) (i1 : S2) (fa : S2) (bo : S2) (pl : S2) (dr : S2) (m : Int32) (D : Nat) (hD : D ≤ 14) (eD : pl.1 0 = nI D) (hS1 : ¬ pl.1 8 = 0 → 1 ≤ D) : Cx l g yX5_sight cX5_sight 3 (some .int) (k2_rm 4 120) [.ref (x), .int m] (wX g x a kp rd nw i0 i1 fa bo pl dr) (some (.int (if inB m.toInt 1 99 then (if pl.1 8 = 0 then -1 else sgtF D (pl.1 8) m) else -1000000002))) (wX g x a kp rd nw i0 i1 fa bo pl dr) := by
  refine meth (own := "ChalkedDoors") (by decide) rfl (Nat.le_of_ble_eq_true rfl) [some (.ref (x)), some (.int m), none] rfl (fun X hX hQ => ?_)
  generalize hsp : sgtF D (pl.1 8) m = S at hQ
  unfold sgtF at hsp
  have hL28 : ∀ (n i : Nat) (y : Int32) , y = nI i → i + n = 14 → inB m.toInt 1 99 → ¬ pl.1 8 = 0 → S = ffF (fun z => if bI (∀ d, d < D → lunF D d (nI z) * pl.1 8 < m) = 0 then none else some (nI z)) n i → vJ X 0 0 (wX g x a kp rd nw i0 i1 fa bo pl dr) 28 [some (.ref (x)), some (.int m), some (.int y)] [] := by
    intro n
    induction n with
    | zero =>
      intro i y  hx hn hz h0 hs
      refine r_iload2 hX dX5_sight_28 ?_
      refine r_push hX dX5_sight_29 ?_
      refine r_ic_gt hX dX5_sight_31 (fun h31 => ?_) (fun h31 => absurd (lgx (e := 13) hx rfl (by omega) (by omega)) h31)
      refine r_push hX dX5_sight_54 ?_
      exact r_iret hX hQ dX5_sight_55 (by rw [if_pos hz, if_neg h0, hs] <;> rfl) (rfl)
    | succ n ih =>
      intro i y  hx hn hz h0 hs
      refine r_iload2 hX dX5_sight_28 ?_
      refine r_push hX dX5_sight_29 ?_
      refine r_ic_gt hX dX5_sight_31 (fun h31 => absurd h31 (lgn (e := 13) hx rfl (by decide) (by omega))) (fun h31 => ?_)
      refine r_aload0 hX dX5_sight_34 ?_
      refine g_wX_0_6 hX dX5_sight_35 ?_
      refine r_iload1 hX dX5_sight_38 ?_
      refine r_iload2 hX dX5_sight_39 ?_
      refine r_cV2i hX dX5_sight_40 kX2_nobodyUnseen fr_wX_wP_19_24 (c_X2_nobodyUnseen l g _ _ _ _ D hD (hS1 h0) eD) rfl (by decide) (Nat.le_of_ble_eq_true rfl) ?_
      refine r_if_eq hX dX5_sight_43 (fun h43 => ?_) (fun h43 => ?_)
      · refine r_iinc2 hX dX5_sight_48 rfl ?_
        refine r_goto hX dX5_sight_51 ?_
        exact ih (i + 1) _ (by rw [hx]; exact nI_1 i) (by omega) hz h0 (by rw [hs, ffF_none (if_pos (by rw [← hx]; exact h43))])
      · refine r_iload2 hX dX5_sight_46 ?_
        exact r_iret hX hQ dX5_sight_47 (by rw [if_pos hz, if_neg h0, hs, ffF_some (if_neg (by rw [← hx]; exact h43)), hx]) (rfl)
  refine r_iload1 hX dX5_sight_0 ?_
  refine r_push hX dX5_sight_1 ?_
  refine r_ic_lt hX dX5_sight_2 (fun h2 => ?_) (fun h2 => ?_)
  · refine r_push hX dX5_sight_11 ?_
    exact r_iret hX hQ dX5_sight_13 (by rw [if_neg (show ¬ inB m.toInt 1 99 from inB_no1 h2 rfl)]) (rfl)
  · refine r_iload1 hX dX5_sight_5 ?_
    refine r_push hX dX5_sight_6 ?_
    refine r_ic_le hX dX5_sight_8 (fun h8 => ?_) (fun h8 => ?_)
    · refine r_aload0 hX dX5_sight_14 ?_
      refine g_wX_0_6 hX dX5_sight_15 ?_
      refine g_wX_19_8 hX dX5_sight_18 ?_
      refine r_if_ne hX dX5_sight_21 (fun h21 => ?_) (fun h21 => ?_)
      · refine r_push hX dX5_sight_26 ?_
        refine r_istore2 hX dX5_sight_27 rfl ?_
        exact hL28 14 0 _ rfl (by omega) (inB_yes h2 h8 rfl rfl) h21 hsp.symm
      · refine r_push hX dX5_sight_24 ?_
        exact r_iret hX hQ dX5_sight_25 (by rw [if_pos (show inB m.toInt 1 99 from inB_yes h2 h8 rfl rfl), if_pos h21]) (rfl)
    · refine r_push hX dX5_sight_11 ?_
      exact r_iret hX hQ dX5_sight_13 (by rw [if_neg (show ¬ inB m.toInt 1 99 from inB_no2 h8 rfl)]) (rfl)
set_option maxHeartbeats 400000 in
theorem c_X5_keys (l : Launch) (g : GT) (x : Nat) (a : Nat → Nat → Nat) (kp : Int32) (rd : S2) (nw : S2) (i0 : S2) (i1 : S2) (fa : S2) (bo : S2) (pl : S2) (dr : S2) (t z : Int32) (D : Nat) (hD : D ≤ 14) (eD : pl.1 0 = nI D) : Cx l g yX5_keys cX5_keys 6 (some .int) (k2_rm 2 60) [.ref (x), .int t, .int z] (wX g x a kp rd nw i0 i1 fa bo pl dr) (some (.int (keysF D (nw.2 0) t z))) (wX g x a kp rd nw i0 i1 fa bo pl dr) := by
  refine meth (own := "ChalkedDoors") (by decide) rfl (Nat.le_of_ble_eq_true rfl) [some (.ref (x)), some (.int t), some (.int z), none, none, none] rfl (fun X hX hQ => ?_)
  unfold keysF at hQ
  generalize hsp : lp (keyC D (nw.2 0) t) 256 0 (0, -1) = S at hQ
  have hL34 : ∀ (n i : Nat) (y : Int32) (p q : Int32), y = nI i → i + n = 256 → stD t (nI D) → inB z.toInt 0 1 → S = lp (keyC D (nw.2 0) t) n i (p, q) → vJ X 0 0 (wX g x a kp rd nw i0 i1 fa bo pl dr) 34 [some (.ref (x)), some (.int t), some (.int z), some (.int p), some (.int q), some (.int y)] [] := by
    intro n
    induction n with
    | zero =>
      intro i y p q hx hn ht hz hs
      refine r_iload5 hX dX5_keys_34 ?_
      refine r_push hX dX5_keys_36 ?_
      refine r_ic_ge hX dX5_keys_39 (fun h39 => ?_) (fun h39 => absurd (lpx (e := 256) hx rfl (by omega) (by omega) (by omega)) h39)
      refine r_iload2 hX dX5_keys_77 ?_
      refine r_if_ne hX dX5_keys_78 (fun h78 => ?_) (fun h78 => ?_)
      · refine r_iload4 hX dX5_keys_85 ?_
        exact r_iret hX hQ dX5_keys_87 (by rw [if_pos ht, if_pos hz, hs, if_neg h78] <;> rfl) (rfl)
      · refine r_iload3 hX dX5_keys_81 ?_
        refine r_goto hX dX5_keys_82 ?_
        exact r_iret hX hQ dX5_keys_87 (by rw [if_pos ht, if_pos hz, hs, if_pos h78] <;> rfl) (rfl)
    | succ n ih =>
      intro i y p q hx hn ht hz hs
      refine r_iload5 hX dX5_keys_34 ?_
      refine r_push hX dX5_keys_36 ?_
      refine r_ic_ge hX dX5_keys_39 (fun h39 => absurd h39 (lpn (e := 256) hx rfl (by omega) (by omega))) (fun h39 => ?_)
      refine r_aload0 hX dX5_keys_42 ?_
      refine r_iload5 hX dX5_keys_43 ?_
      refine r_push hX dX5_keys_45 ?_
      refine r_idiv hX dX5_keys_47 (by decide) ?_
      refine r_iload5 hX dX5_keys_48 ?_
      refine r_push hX dX5_keys_50 ?_
      refine r_irem hX dX5_keys_52 (by decide) ?_
      refine r_iload1 hX dX5_keys_53 ?_
      refine r_aV3i hX dX5_keys_54 kX5_keyFits (c_X5_keyFits l g _ _ _ _ _ _ _ _ _ _ _ _ _ _ D hD eD) ad_wX rfl (by decide) (Nat.le_of_ble_eq_true rfl) ?_
      refine r_if_eq hX dX5_keys_57 (fun h57 => ?_) (fun h57 => ?_)
      · refine r_iinc5 hX dX5_keys_71 rfl ?_
        refine r_goto hX dX5_keys_74 ?_
        exact ih (i + 1) _ _ _ (by rw [hx]; exact nI_1 i) (by omega) ht hz (by rw [hs]; show lp _ n (i + 1) (keyC _ _ _ i (p, q)) = _; unfold keyC; rw [← hx, kqF_eq, krF_eq, if_neg (bI_z h57)])
      · refine r_iload3 hX dX5_keys_60 ?_
        refine r_if_ne hX dX5_keys_61 (fun h61 => ?_) (fun h61 => ?_)
        · refine r_iinc3 hX dX5_keys_68 rfl ?_
          refine r_iinc5 hX dX5_keys_71 rfl ?_
          refine r_goto hX dX5_keys_74 ?_
          exact ih (i + 1) _ _ _ (by rw [hx]; exact nI_1 i) (by omega) ht hz (by rw [hs]; show lp _ n (i + 1) (keyC _ _ _ i (p, q)) = _; unfold keyC; rw [← hx, kqF_eq, krF_eq, if_pos (bI_nz h57)]; dsimp only; rw [if_neg h61])
        · refine r_iload5 hX dX5_keys_64 ?_
          refine r_istore4 hX dX5_keys_66 rfl ?_
          refine r_iinc3 hX dX5_keys_68 rfl ?_
          refine r_iinc5 hX dX5_keys_71 rfl ?_
          refine r_goto hX dX5_keys_74 ?_
          exact ih (i + 1) _ _ _ (by rw [hx]; exact nI_1 i) (by omega) ht hz (by rw [hs]; show lp _ n (i + 1) (keyC _ _ _ i (p, q)) = _; unfold keyC; rw [← hx, kqF_eq, krF_eq, if_pos (bI_nz h57)]; dsimp only; rw [if_pos h61])
  refine r_aload0 hX dX5_keys_0 ?_
  refine g_wX_0_6 hX dX5_keys_1 ?_
  refine r_iload1 hX dX5_keys_4 ?_
  refine r_cV1i hX dX5_keys_5 kX2_hasDoorsOf fr_wX_wP_19_24 (c_X2_hasDoorsOf l g _ _ _) rfl (by decide) (Nat.le_of_ble_eq_true rfl) ?_
  refine r_if_ne hX dX5_keys_8 (fun h8 => ?_) (fun h8 => ?_)
  · refine r_iload2 hX dX5_keys_14 ?_
    refine r_if_lt hX dX5_keys_15 (fun h15 => ?_) (fun h15 => ?_)
    · refine r_push hX dX5_keys_23 ?_
      exact r_iret hX hQ dX5_keys_25 (by rw [if_pos (show stD t (nI D) from eD ▸ (bI_nz h8)), if_neg (show ¬ inB z.toInt 0 1 from inB_no1 h15 rfl)]) (rfl)
    · refine r_iload2 hX dX5_keys_18 ?_
      refine r_push hX dX5_keys_19 ?_
      refine r_ic_le hX dX5_keys_20 (fun h20 => ?_) (fun h20 => ?_)
      · refine r_push hX dX5_keys_26 ?_
        refine r_istore3 hX dX5_keys_27 rfl ?_
        refine r_push hX dX5_keys_28 ?_
        refine r_istore4 hX dX5_keys_29 rfl ?_
        refine r_push hX dX5_keys_31 ?_
        refine r_istore5 hX dX5_keys_32 rfl ?_
        exact hL34 256 0 _ _ _ rfl (by omega) (eD ▸ (bI_nz h8)) (inB_yes h15 h20 rfl rfl) hsp.symm
      · refine r_push hX dX5_keys_23 ?_
        exact r_iret hX hQ dX5_keys_25 (by rw [if_pos (show stD t (nI D) from eD ▸ (bI_nz h8)), if_neg (show ¬ inB z.toInt 0 1 from inB_no2 h20 rfl)]) (rfl)
  · refine r_push hX dX5_keys_11 ?_
    exact r_iret hX hQ dX5_keys_13 (by rw [if_neg (fun q => bI_z h8 (eD ▸ q))]) (rfl)
noncomputable def codX (D C : Nat) (nD : Int32) (cost : Nat → Int32) (k r : Int32) : Int32 := if r = -1 ∨ inD r nD then (if inB k.toInt 0 2 then (if bstF D C cost (2 * k + 1) = -1 then -1 else if r = -1 then cocF C cost (bstF D C cost (2 * k + 1)) else brN (bstF D C cost (2 * k + 1)) r 31 0 0) else -1000000002) else -1000000001
set_option maxHeartbeats 400000 in
theorem c_X5_code (l : Launch) (g : GT) (x : Nat) (a : Nat → Nat → Nat) (kp : Int32) (rd : S2) (nw : S2) (i0 : S2) (i1 : S2) (fa : S2) (bo : S2) (pl : S2) (dr : S2) (k r : Int32) (D : Nat) (hD : D ≤ 14) (eD : pl.1 0 = nI D) (C : Nat) (hC : C ≤ 4) (eC : pl.1 1 = nI C) : Cx l g yX5_code cX5_code 4 (some .int) (k2_rm 5 150) [.ref (x), .int k, .int r] (wX g x a kp rd nw i0 i1 fa bo pl dr) (some (.int (codX D C (pl.1 0) (pl.2 4) k r))) (wX g x a kp rd nw i0 i1 fa bo pl dr) := by
  refine meth (own := "ChalkedDoors") (by decide) rfl (Nat.le_of_ble_eq_true rfl) [some (.ref (x)), some (.int k), some (.int r), none] rfl (fun X hX hQ => ?_)
  refine r_iload2 hX dX5_code_0 ?_
  refine r_push hX dX5_code_1 ?_
  refine r_ic_eq hX dX5_code_2 (fun h2 => ?_) (fun h2 => ?_)
  · refine r_iload1 hX dX5_code_19 ?_
    refine r_if_lt hX dX5_code_20 (fun h20 => ?_) (fun h20 => ?_)
    · refine r_push hX dX5_code_28 ?_
      exact r_iret hX hQ dX5_code_30 (by unfold codX; rw [if_pos (show r = -1 ∨ inD r (pl.1 0) from Or.inl h2), if_neg (show ¬ inB k.toInt 0 2 from inB_no1 h20 rfl)]) (rfl)
    · refine r_iload1 hX dX5_code_23 ?_
      refine r_push hX dX5_code_24 ?_
      refine r_ic_le hX dX5_code_25 (fun h25 => ?_) (fun h25 => ?_)
      · refine r_aload0 hX dX5_code_31 ?_
        refine g_wX_0_6 hX dX5_code_32 ?_
        refine r_push hX dX5_code_35 ?_
        refine r_iload1 hX dX5_code_36 ?_
        refine r_imul hX dX5_code_37 ?_
        refine r_push hX dX5_code_38 ?_
        refine r_iadd hX dX5_code_39 ?_
        refine r_cV1i hX dX5_code_40 kX2_bestCode fr_wX_wP_19_24 (c_X2_bestCode l g _ _ _ D hD eD C hC eC) rfl (by decide) (Nat.le_of_ble_eq_true rfl) ?_
        refine r_istore3 hX dX5_code_43 rfl ?_
        refine r_iload3 hX dX5_code_44 ?_
        refine r_push hX dX5_code_45 ?_
        refine r_ic_ne hX dX5_code_46 (fun h46 => ?_) (fun h46 => ?_)
        · refine r_iload2 hX dX5_code_51 ?_
          refine r_push hX dX5_code_52 ?_
          refine r_ic_ne hX dX5_code_53 (fun h53 => ?_) (fun h53 => ?_)
          · refine r_iload3 hX dX5_code_67 ?_
            refine r_iload2 hX dX5_code_68 ?_
            refine r_nS2i hX dX5_code_69 kX5_bitOfRank (c_X5_bitOfRank l g _ _) (by decide) (Nat.le_of_ble_eq_true rfl) ?_
            exact r_iret hX hQ dX5_code_72 (by unfold codX; rw [if_pos (show r = -1 ∨ inD r (pl.1 0) from Or.inl h2), if_pos (show inB k.toInt 0 2 from inB_yes h20 h25 rfl rfl), if_neg h46, if_neg h53]) (rfl)
          · refine r_aload0 hX dX5_code_56 ?_
            refine g_wX_0_6 hX dX5_code_57 ?_
            refine r_iload3 hX dX5_code_60 ?_
            refine r_cV1i hX dX5_code_61 kX2_costOfCode fr_wX_wP_19_24 (c_X2_costOfCode l g _ _ _ C hC eC) rfl (by decide) (Nat.le_of_ble_eq_true rfl) ?_
            refine r_goto hX dX5_code_64 ?_
            exact r_iret hX hQ dX5_code_72 (by unfold codX; rw [if_pos (show r = -1 ∨ inD r (pl.1 0) from Or.inl h2), if_pos (show inB k.toInt 0 2 from inB_yes h20 h25 rfl rfl), if_neg h46, if_pos h53]) (rfl)
        · refine r_push hX dX5_code_49 ?_
          exact r_iret hX hQ dX5_code_50 (by unfold codX; rw [if_pos (show r = -1 ∨ inD r (pl.1 0) from Or.inl h2), if_pos (show inB k.toInt 0 2 from inB_yes h20 h25 rfl rfl), if_pos h46]) (rfl)
      · refine r_push hX dX5_code_28 ?_
        exact r_iret hX hQ dX5_code_30 (by unfold codX; rw [if_pos (show r = -1 ∨ inD r (pl.1 0) from Or.inl h2), if_neg (show ¬ inB k.toInt 0 2 from inB_no2 h25 rfl)]) (rfl)
  · refine r_aload0 hX dX5_code_5 ?_
    refine g_wX_0_6 hX dX5_code_6 ?_
    refine r_iload2 hX dX5_code_9 ?_
    refine r_cV1i hX dX5_code_10 kX2_hasDoor fr_wX_wP_19_24 (c_X2_hasDoor l g _ _ _) rfl (by decide) (Nat.le_of_ble_eq_true rfl) ?_
    refine r_if_ne hX dX5_code_13 (fun h13 => ?_) (fun h13 => ?_)
    · refine r_iload1 hX dX5_code_19 ?_
      refine r_if_lt hX dX5_code_20 (fun h20 => ?_) (fun h20 => ?_)
      · refine r_push hX dX5_code_28 ?_
        exact r_iret hX hQ dX5_code_30 (by unfold codX; rw [if_pos (show r = -1 ∨ inD r (pl.1 0) from Or.inr (bI_nz h13)), if_neg (show ¬ inB k.toInt 0 2 from inB_no1 h20 rfl)]) (rfl)
      · refine r_iload1 hX dX5_code_23 ?_
        refine r_push hX dX5_code_24 ?_
        refine r_ic_le hX dX5_code_25 (fun h25 => ?_) (fun h25 => ?_)
        · refine r_aload0 hX dX5_code_31 ?_
          refine g_wX_0_6 hX dX5_code_32 ?_
          refine r_push hX dX5_code_35 ?_
          refine r_iload1 hX dX5_code_36 ?_
          refine r_imul hX dX5_code_37 ?_
          refine r_push hX dX5_code_38 ?_
          refine r_iadd hX dX5_code_39 ?_
          refine r_cV1i hX dX5_code_40 kX2_bestCode fr_wX_wP_19_24 (c_X2_bestCode l g _ _ _ D hD eD C hC eC) rfl (by decide) (Nat.le_of_ble_eq_true rfl) ?_
          refine r_istore3 hX dX5_code_43 rfl ?_
          refine r_iload3 hX dX5_code_44 ?_
          refine r_push hX dX5_code_45 ?_
          refine r_ic_ne hX dX5_code_46 (fun h46 => ?_) (fun h46 => ?_)
          · refine r_iload2 hX dX5_code_51 ?_
            refine r_push hX dX5_code_52 ?_
            refine r_ic_ne hX dX5_code_53 (fun h53 => ?_) (fun h53 => ?_)
            · refine r_iload3 hX dX5_code_67 ?_
              refine r_iload2 hX dX5_code_68 ?_
              refine r_nS2i hX dX5_code_69 kX5_bitOfRank (c_X5_bitOfRank l g _ _) (by decide) (Nat.le_of_ble_eq_true rfl) ?_
              exact r_iret hX hQ dX5_code_72 (by unfold codX; rw [if_pos (show r = -1 ∨ inD r (pl.1 0) from Or.inr (bI_nz h13)), if_pos (show inB k.toInt 0 2 from inB_yes h20 h25 rfl rfl), if_neg h46, if_neg h53]) (rfl)
            · refine r_aload0 hX dX5_code_56 ?_
              refine g_wX_0_6 hX dX5_code_57 ?_
              refine r_iload3 hX dX5_code_60 ?_
              refine r_cV1i hX dX5_code_61 kX2_costOfCode fr_wX_wP_19_24 (c_X2_costOfCode l g _ _ _ C hC eC) rfl (by decide) (Nat.le_of_ble_eq_true rfl) ?_
              refine r_goto hX dX5_code_64 ?_
              exact r_iret hX hQ dX5_code_72 (by unfold codX; rw [if_pos (show r = -1 ∨ inD r (pl.1 0) from Or.inr (bI_nz h13)), if_pos (show inB k.toInt 0 2 from inB_yes h20 h25 rfl rfl), if_neg h46, if_pos h53]) (rfl)
          · refine r_push hX dX5_code_49 ?_
            exact r_iret hX hQ dX5_code_50 (by unfold codX; rw [if_pos (show r = -1 ∨ inD r (pl.1 0) from Or.inr (bI_nz h13)), if_pos (show inB k.toInt 0 2 from inB_yes h20 h25 rfl rfl), if_pos h46]) (rfl)
        · refine r_push hX dX5_code_28 ?_
          exact r_iret hX hQ dX5_code_30 (by unfold codX; rw [if_pos (show r = -1 ∨ inD r (pl.1 0) from Or.inr (bI_nz h13)), if_neg (show ¬ inB k.toInt 0 2 from inB_no2 h25 rfl)]) (rfl)
    · refine r_push hX dX5_code_16 ?_
      exact r_iret hX hQ dX5_code_18 (by unfold codX; rw [if_neg (fun q => q.elim h2 (bI_z h13))]) (rfl)
