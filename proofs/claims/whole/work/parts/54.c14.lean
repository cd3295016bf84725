noncomputable def belX (D C : Nat) (wb ch mk : Nat → Int32) (set n d : Int32) : Int32 := if stD set (nI C) ∧ inD d (nI D) then (if inB n.toInt 1 9 then (if 0 < allF D C wb ch mk set (cl n) then partF (wtF C wb ch (mk (cl d)) set (cl n)) (allF D C wb ch mk set (cl n)) else 0) else -1000000002) else -1000000001
set_option maxHeartbeats 400000 in
theorem c_X5_belief (l : Launch) (g : GT) (x : Nat) (a : Nat → Nat → Nat) (kp : Int32) (rd : S2) (nw : S2) (i0 : S2) (i1 : S2) (fa : S2) (bo : S2) (pl : S2) (dr : S2) (t z d : Int32) (D : Nat) (hD : D ≤ 14) (eD : pl.1 0 = nI D) (C : Nat) (hC : C ≤ 4) (eC : pl.1 1 = nI C) (hK : ∀ j, j < C → kind3 (pl.2 2 j)) : Cx l g yX5_belief cX5_belief 7 (some .int) (k2_rm 3 90) [.ref (x), .int t, .int z, .int d] (wX g x a kp rd nw i0 i1 fa bo pl dr) (some (.int (belX D C (fun c => wshF (pl.2 2 c) (pl.2 3 c)) (pl.2 5) (nw.2 0) t z d))) (wX g x a kp rd nw i0 i1 fa bo pl dr) := by
  refine meth (own := "ChalkedDoors") (by decide) rfl (Nat.le_of_ble_eq_true rfl) [some (.ref (x)), some (.int t), some (.int z), some (.int d), none, none, none] rfl (fun X hX hQ => ?_)
  by_cases h1 : stD t (pl.1 1) ∧ inD d (pl.1 0)
  · by_cases h2 : inB z.toInt 1 9
    · obtain ⟨ez, ez2⟩ := clN h2 (by decide)
      have hz9 : cl z ≤ 9 := by have := h2.2; omega
      have r1 : ¬ z < 1 := fun h => inB_no1 (a := 1) (z := 9) h rfl h2
      have r2 : z ≤ 9 := Decidable.not_not.mp (fun h => inB_no2 (a := 1) (z := 9) h rfl h2)
      have hvd : vp_in d 14 := vin h1.2 eD hD (by decide)
      have e0 : belX D C (fun c => wshF (pl.2 2 c) (pl.2 3 c)) (pl.2 5) (nw.2 0) t z d = if 0 < allF D C (fun c => wshF (pl.2 2 c) (pl.2 3 c)) (pl.2 5) (nw.2 0) t (cl z) then partF (wtF C (fun c => wshF (pl.2 2 c) (pl.2 3 c)) (pl.2 5) (nw.2 0 (cl d)) t (cl z)) (allF D C (fun c => wshF (pl.2 2 c) (pl.2 3 c)) (pl.2 5) (nw.2 0) t (cl z)) else 0 := by
        unfold belX; rw [if_pos (⟨eC ▸ h1.1, eD ▸ h1.2⟩ : stD t (nI C) ∧ inD d (nI D)), if_pos h2]
      rw [e0] at hQ
      generalize hsp : allF D C (fun c => wshF (pl.2 2 c) (pl.2 3 c)) (pl.2 5) (nw.2 0) t (cl z) = S at hQ
      unfold allF at hsp
      have hL45 : ∀ (n i : Nat) (y : Int32) (w : Int64), y = nI i → i + n = D → S = lp (fun d a => a + wtF C (fun c => wshF (pl.2 2 c) (pl.2 3 c)) (pl.2 5) (nw.2 0 d) t (cl z)) n i w → vJ X 0 0 (wX g x a kp rd nw i0 i1 fa bo pl dr) 45 [some (.ref (x)), some (.int t), some (.int z), some (.int d), some (.long w), none, some (.int y)] [] := by
        intro n
        induction n with
        | zero =>
          intro i y w hx hn hs
          have hs : S = w := hs
          subst hs
          refine r_iload6 hX dX5_belief_45 ?_
          refine r_aload0 hX dX5_belief_47 ?_
          refine g_wX_0_6 hX dX5_belief_48 ?_
          refine g_wX_19_0 hX dX5_belief_51 ?_
          refine r_ic_ge hX dX5_belief_54 (fun h54 => ?_) (fun h54 => absurd (lpx (e := D) hx eD (by omega) (by omega) (by omega)) h54)
          refine r_lload4 hX dX5_belief_87 ?_
          refine r_pushl hX dX5_belief_89 ?_
          refine r_lcmp hX dX5_belief_90 ?_
          refine r_if_gt hX dX5_belief_91 (fun h91 => ?_) (fun h91 => ?_)
          · refine r_aload0 hX dX5_belief_96 ?_
            have hp : 0 < S := lgc_gt.mp h91
            refine g_wX_0_6 hX dX5_belief_97 ?_
            refine r_aload0 hX dX5_belief_100 ?_
            refine g_wX_0_1 hX dX5_belief_101 ?_
            refine g_wX_3_0 hX dX5_belief_104 ?_
            refine r_iload3 hX dX5_belief_107 ?_
            refine l_wX_4 hX dX5_belief_108 hvd ?_
            refine r_iload1 hX dX5_belief_109 ?_
            refine r_iload2 hX dX5_belief_110 ?_
            refine r_cV3i hX dX5_belief_111 kX2_weight fr_wX_wP_19_24 (c_X2_weight l g _ _ _ _ _ C hC eC hK (cl z) ez hz9) rfl (by decide) (Nat.le_of_ble_eq_true rfl) ?_
            refine r_pushl hX dX5_belief_114 ?_
            refine r_lmul hX dX5_belief_117 ?_
            refine r_lload4 hX dX5_belief_118 ?_
            refine r_ldiv hX dX5_belief_120 (fun h => by rw [h] at hp; exact absurd hp (by decide)) ?_
            refine r_l2i hX dX5_belief_121 ?_
            exact r_iret hX hQ dX5_belief_122 (by rw [if_pos hp, partF_eq]) (rfl)
          · refine r_push hX dX5_belief_94 ?_
            exact r_iret hX hQ dX5_belief_95 (by rw [if_neg (fun q => h91 (lgc_gt.mpr q))]) (rfl)
        | succ n ih =>
          intro i y w hx hn hs
          have hvx : vp_in y 14 := by rw [hx]; exact vp_in_nI (by omega) (by omega)
          have hcx : cl y = i := by rw [hx]; exact nI_clamp (by omega)
          have hcx' : y.toNatClampNeg = i := hcx
          refine r_iload6 hX dX5_belief_45 ?_
          refine r_aload0 hX dX5_belief_47 ?_
          refine g_wX_0_6 hX dX5_belief_48 ?_
          refine g_wX_19_0 hX dX5_belief_51 ?_
          refine r_ic_ge hX dX5_belief_54 (fun h54 => absurd h54 (lpn (e := D) hx eD (by omega) (by omega))) (fun h54 => ?_)
          refine r_lload4 hX dX5_belief_57 ?_
          refine r_aload0 hX dX5_belief_59 ?_
          refine g_wX_0_6 hX dX5_belief_60 ?_
          refine r_aload0 hX dX5_belief_63 ?_
          refine g_wX_0_1 hX dX5_belief_64 ?_
          refine g_wX_3_0 hX dX5_belief_67 ?_
          refine r_iload6 hX dX5_belief_70 ?_
          refine l_wX_4 hX dX5_belief_72 hvx ?_
          refine r_iload1 hX dX5_belief_73 ?_
          refine r_iload2 hX dX5_belief_74 ?_
          refine r_cV3i hX dX5_belief_75 kX2_weight fr_wX_wP_19_24 (c_X2_weight l g _ _ _ _ _ C hC eC hK (cl z) ez hz9) rfl (by decide) (Nat.le_of_ble_eq_true rfl) ?_
          refine r_ladd hX dX5_belief_78 ?_
          refine r_lstore4 hX dX5_belief_79 rfl ?_
          refine r_iinc6 hX dX5_belief_81 rfl ?_
          refine r_goto hX dX5_belief_84 ?_
          exact ih (i + 1) _ _ (by rw [hx]; exact nI_1 i) (by omega) (by rw [hs]; show lp _ n (i + 1) (w + _) = _; rw [hcx'])
      refine r_aload0 hX dX5_belief_0 ?_
      refine g_wX_0_6 hX dX5_belief_1 ?_
      refine r_iload1 hX dX5_belief_4 ?_
      refine r_cV1i hX dX5_belief_5 kX2_hasChalksOf fr_wX_wP_19_24 (c_X2_hasChalksOf l g _ _ _) rfl (by decide) (Nat.le_of_ble_eq_true rfl) ?_
      refine r_if_eq hX dX5_belief_8 (fun h8 => absurd h1.1 (bI_z h8)) (fun h8 => ?_)
      refine r_aload0 hX dX5_belief_11 ?_
      refine g_wX_0_6 hX dX5_belief_12 ?_
      refine r_iload3 hX dX5_belief_15 ?_
      refine r_cV1i hX dX5_belief_16 kX2_hasDoor fr_wX_wP_19_24 (c_X2_hasDoor l g _ _ _) rfl (by decide) (Nat.le_of_ble_eq_true rfl) ?_
      refine r_if_ne hX dX5_belief_19 (fun h19 => ?_) (fun h19 => absurd h1.2 (bI_z h19))
      refine r_iload2 hX dX5_belief_25 ?_
      refine r_push hX dX5_belief_26 ?_
      refine r_ic_lt hX dX5_belief_27 (fun h27 => absurd h27 r1) (fun h27 => ?_)
      refine r_iload2 hX dX5_belief_30 ?_
      refine r_push hX dX5_belief_31 ?_
      refine r_ic_le hX dX5_belief_33 (fun h33 => ?_) (fun h33 => absurd r2 h33)
      refine r_pushl hX dX5_belief_39 ?_
      refine r_lstore4 hX dX5_belief_40 rfl ?_
      refine r_push hX dX5_belief_42 ?_
      refine r_istore6 hX dX5_belief_43 rfl ?_
      exact hL45 D 0 _ _ rfl (by omega) hsp.symm
    · have e0 : belX D C (fun c => wshF (pl.2 2 c) (pl.2 3 c)) (pl.2 5) (nw.2 0) t z d = -1000000002 := by unfold belX; rw [if_pos (⟨eC ▸ h1.1, eD ▸ h1.2⟩ : stD t (nI C) ∧ inD d (nI D)), if_neg h2]
      rw [e0] at hQ
      refine r_aload0 hX dX5_belief_0 ?_
      refine g_wX_0_6 hX dX5_belief_1 ?_
      refine r_iload1 hX dX5_belief_4 ?_
      refine r_cV1i hX dX5_belief_5 kX2_hasChalksOf fr_wX_wP_19_24 (c_X2_hasChalksOf l g _ _ _) rfl (by decide) (Nat.le_of_ble_eq_true rfl) ?_
      refine r_if_eq hX dX5_belief_8 (fun h8 => absurd h1.1 (bI_z h8)) (fun h8 => ?_)
      refine r_aload0 hX dX5_belief_11 ?_
      refine g_wX_0_6 hX dX5_belief_12 ?_
      refine r_iload3 hX dX5_belief_15 ?_
      refine r_cV1i hX dX5_belief_16 kX2_hasDoor fr_wX_wP_19_24 (c_X2_hasDoor l g _ _ _) rfl (by decide) (Nat.le_of_ble_eq_true rfl) ?_
      refine r_if_ne hX dX5_belief_19 (fun h19 => ?_) (fun h19 => absurd h1.2 (bI_z h19))
      refine r_iload2 hX dX5_belief_25 ?_
      refine r_push hX dX5_belief_26 ?_
      refine r_ic_lt hX dX5_belief_27 (fun h27 => ?_) (fun h27 => ?_)
      · refine r_push hX dX5_belief_36 ?_
        exact r_iret hX hQ dX5_belief_38 (rfl) (rfl)
      · refine r_iload2 hX dX5_belief_30 ?_
        refine r_push hX dX5_belief_31 ?_
        refine r_ic_le hX dX5_belief_33 (fun h33 => absurd (inB_yes (a := 1) (z := 9) h27 h33 rfl rfl) h2) (fun h33 => ?_)
        refine r_push hX dX5_belief_36 ?_
        exact r_iret hX hQ dX5_belief_38 (rfl) (rfl)
  · have e0 : belX D C (fun c => wshF (pl.2 2 c) (pl.2 3 c)) (pl.2 5) (nw.2 0) t z d = -1000000001 := by unfold belX; rw [if_neg (fun h => h1 ⟨eC ▸ h.1, eD ▸ h.2⟩)]
    rw [e0] at hQ
    refine r_aload0 hX dX5_belief_0 ?_
    refine g_wX_0_6 hX dX5_belief_1 ?_
    refine r_iload1 hX dX5_belief_4 ?_
    refine r_cV1i hX dX5_belief_5 kX2_hasChalksOf fr_wX_wP_19_24 (c_X2_hasChalksOf l g _ _ _) rfl (by decide) (Nat.le_of_ble_eq_true rfl) ?_
    refine r_if_eq hX dX5_belief_8 (fun h8 => ?_) (fun h8 => ?_)
    · refine r_push hX dX5_belief_22 ?_
      exact r_iret hX hQ dX5_belief_24 (rfl) (rfl)
    · refine r_aload0 hX dX5_belief_11 ?_
      refine g_wX_0_6 hX dX5_belief_12 ?_
      refine r_iload3 hX dX5_belief_15 ?_
      refine r_cV1i hX dX5_belief_16 kX2_hasDoor fr_wX_wP_19_24 (c_X2_hasDoor l g _ _ _) rfl (by decide) (Nat.le_of_ble_eq_true rfl) ?_
      refine r_if_ne hX dX5_belief_19 (fun h19 => absurd ⟨bI_nz h8, bI_nz h19⟩ h1) (fun h19 => ?_)
      refine r_push hX dX5_belief_22 ?_
      exact r_iret hX hQ dX5_belief_24 (rfl) (rfl)
set_option maxHeartbeats 400000 in
theorem c_X5_bestDoor (l : Launch) (g : GT) (x : Nat) (a : Nat → Nat → Nat) (kp : Int32) (rd : S2) (nw : S2) (i0 : S2) (i1 : S2) (fa : S2) (bo : S2) (pl : S2) (dr : S2) (t z : Int32) (D : Nat) (hD : D ≤ 14) (eD : pl.1 0 = nI D) (C : Nat) (hC : C ≤ 4) (eC : pl.1 1 = nI C) (hK : ∀ j, j < C → kind3 (pl.2 2 j)) : Cx l g yX5_bestDoor cX5_bestDoor 9 (some .int) (k2_rm 3 90) [.ref (x), .int t, .int z] (wX g x a kp rd nw i0 i1 fa bo pl dr) (some (.int (bestF D C (fun c => wshF (pl.2 2 c) (pl.2 3 c)) (pl.2 5) (nw.2 0) t z))) (wX g x a kp rd nw i0 i1 fa bo pl dr) := by
  refine meth (own := "ChalkedDoors") (by decide) rfl (Nat.le_of_ble_eq_true rfl) [some (.ref (x)), some (.int t), some (.int z), none, none, none, none, none, none] rfl (fun X hX hQ => ?_)
  by_cases h1 : stD t (pl.1 1)
  · by_cases h2 : inB z.toInt 1 9
    · obtain ⟨ez, ez2⟩ := clN h2 (by decide)
      have hz9 : cl z ≤ 9 := by have := h2.2; omega
      have r1 : ¬ z < 1 := fun h => inB_no1 (a := 1) (z := 9) h rfl h2
      have r2 : z ≤ 9 := Decidable.not_not.mp (fun h => inB_no2 (a := 1) (z := 9) h rfl h2)
      have e0 : bestF D C (fun c => wshF (pl.2 2 c) (pl.2 3 c)) (pl.2 5) (nw.2 0) t z = (lp (bestC C (fun c => wshF (pl.2 2 c) (pl.2 3 c)) (pl.2 5) (nw.2 0) t (cl z)) D 0 (-1, 0)).1 := by
        unfold bestF; rw [if_pos (show stD t (nI C) from eC ▸ h1), if_pos h2]
      rw [e0] at hQ
      generalize hsp : lp (bestC C (fun c => wshF (pl.2 2 c) (pl.2 3 c)) (pl.2 5) (nw.2 0) t (cl z)) D 0 (-1, 0) = S at hQ
      have hL36 : ∀ (n i : Nat) (y : Int32) (r : Int32) (w : Int64), y = nI i → i + n = D → S = lp (bestC C (fun c => wshF (pl.2 2 c) (pl.2 3 c)) (pl.2 5) (nw.2 0) t (cl z)) n i (r, w) → vJ X 0 0 (wX g x a kp rd nw i0 i1 fa bo pl dr) 36 [some (.ref (x)), some (.int t), some (.int z), some (.int r), some (.long w), none, some (.int y), none, none] [] := by
        intro n
        induction n with
        | zero =>
          intro i y r w hx hn hs
          refine r_iload6 hX dX5_bestDoor_36 ?_
          refine r_aload0 hX dX5_bestDoor_38 ?_
          refine g_wX_0_6 hX dX5_bestDoor_39 ?_
          refine g_wX_19_0 hX dX5_bestDoor_42 ?_
          refine r_ic_ge hX dX5_bestDoor_45 (fun h45 => ?_) (fun h45 => absurd (lpx (e := D) hx eD (by omega) (by omega) (by omega)) h45)
          refine r_iload3 hX dX5_bestDoor_90 ?_
          exact r_iret hX hQ dX5_bestDoor_91 (by rw [hs] <;> rfl) (rfl)
        | succ n ih =>
          intro i y r w hx hn hs
          have hvx : vp_in y 14 := by rw [hx]; exact vp_in_nI (by omega) (by omega)
          have hcx : cl y = i := by rw [hx]; exact nI_clamp (by omega)
          refine r_iload6 hX dX5_bestDoor_36 ?_
          refine r_aload0 hX dX5_bestDoor_38 ?_
          refine g_wX_0_6 hX dX5_bestDoor_39 ?_
          refine g_wX_19_0 hX dX5_bestDoor_42 ?_
          refine r_ic_ge hX dX5_bestDoor_45 (fun h45 => absurd h45 (lpn (e := D) hx eD (by omega) (by omega))) (fun h45 => ?_)
          refine r_aload0 hX dX5_bestDoor_48 ?_
          refine g_wX_0_6 hX dX5_bestDoor_49 ?_
          refine r_aload0 hX dX5_bestDoor_52 ?_
          refine g_wX_0_1 hX dX5_bestDoor_53 ?_
          refine g_wX_3_0 hX dX5_bestDoor_56 ?_
          refine r_iload6 hX dX5_bestDoor_59 ?_
          refine l_wX_4 hX dX5_bestDoor_61 hvx ?_
          refine r_iload1 hX dX5_bestDoor_62 ?_
          refine r_iload2 hX dX5_bestDoor_63 ?_
          refine r_cV3i hX dX5_bestDoor_64 kX2_weight fr_wX_wP_19_24 (c_X2_weight l g _ _ _ _ _ C hC eC hK (cl z) ez hz9) rfl (by decide) (Nat.le_of_ble_eq_true rfl) ?_
          refine r_lstore7 hX dX5_bestDoor_67 rfl ?_
          refine r_lload7 hX dX5_bestDoor_69 ?_
          refine r_lload4 hX dX5_bestDoor_71 ?_
          refine r_lcmp hX dX5_bestDoor_73 ?_
          refine r_if_le hX dX5_bestDoor_74 (fun h74 => ?_) (fun h74 => ?_)
          · refine r_iinc6 hX dX5_bestDoor_84 rfl ?_
            refine r_goto hX dX5_bestDoor_87 ?_
            refine r_fg7 ?_
            exact ih (i + 1) _ _ _ (by rw [hx]; exact nI_1 i) (by omega) (by rw [hs]; show lp _ n (i + 1) (bestC _ _ _ _ _ _ i (r, w)) = _; unfold bestC; rw [if_neg (by rw [← hcx]; exact lgc_le.mp h74)])
          · refine r_lload7 hX dX5_bestDoor_77 ?_
            refine r_lstore4 hX dX5_bestDoor_79 rfl ?_
            refine r_iload6 hX dX5_bestDoor_81 ?_
            refine r_istore3 hX dX5_bestDoor_83 rfl ?_
            refine r_iinc6 hX dX5_bestDoor_84 rfl ?_
            refine r_goto hX dX5_bestDoor_87 ?_
            refine r_fg7 ?_
            exact ih (i + 1) _ _ _ (by rw [hx]; exact nI_1 i) (by omega) (by rw [hs]; show lp _ n (i + 1) (bestC _ _ _ _ _ _ i (r, w)) = _; unfold bestC; rw [if_pos (by rw [← hcx]; exact Decidable.not_not.mp (fun h => h74 (lgc_le.mpr h))), ← hx, ← hcx])
      refine r_aload0 hX dX5_bestDoor_0 ?_
      refine g_wX_0_6 hX dX5_bestDoor_1 ?_
      refine r_iload1 hX dX5_bestDoor_4 ?_
      refine r_cV1i hX dX5_bestDoor_5 kX2_hasChalksOf fr_wX_wP_19_24 (c_X2_hasChalksOf l g _ _ _) rfl (by decide) (Nat.le_of_ble_eq_true rfl) ?_
      refine r_if_ne hX dX5_bestDoor_8 (fun h8 => ?_) (fun h8 => absurd h8 (by rw [bI_t h1]; decide))
      refine r_iload2 hX dX5_bestDoor_14 ?_
      refine r_push hX dX5_bestDoor_15 ?_
      refine r_ic_lt hX dX5_bestDoor_16 (fun h16 => absurd h16 r1) (fun h16 => ?_)
      refine r_iload2 hX dX5_bestDoor_19 ?_
      refine r_push hX dX5_bestDoor_20 ?_
      refine r_ic_le hX dX5_bestDoor_22 (fun h22 => ?_) (fun h22 => absurd r2 h22)
      refine r_push hX dX5_bestDoor_28 ?_
      refine r_istore3 hX dX5_bestDoor_29 rfl ?_
      refine r_pushl hX dX5_bestDoor_30 ?_
      refine r_lstore4 hX dX5_bestDoor_31 rfl ?_
      refine r_push hX dX5_bestDoor_33 ?_
      refine r_istore6 hX dX5_bestDoor_34 rfl ?_
      exact hL36 D 0 _ _ _ rfl (by omega) hsp.symm
    · have e0 : bestF D C (fun c => wshF (pl.2 2 c) (pl.2 3 c)) (pl.2 5) (nw.2 0) t z = -1000000002 := by unfold bestF; rw [if_pos (show stD t (nI C) from eC ▸ h1), if_neg h2]
      rw [e0] at hQ
      refine r_aload0 hX dX5_bestDoor_0 ?_
      refine g_wX_0_6 hX dX5_bestDoor_1 ?_
      refine r_iload1 hX dX5_bestDoor_4 ?_
      refine r_cV1i hX dX5_bestDoor_5 kX2_hasChalksOf fr_wX_wP_19_24 (c_X2_hasChalksOf l g _ _ _) rfl (by decide) (Nat.le_of_ble_eq_true rfl) ?_
      refine r_if_ne hX dX5_bestDoor_8 (fun h8 => ?_) (fun h8 => absurd h8 (by rw [bI_t h1]; decide))
      refine r_iload2 hX dX5_bestDoor_14 ?_
      refine r_push hX dX5_bestDoor_15 ?_
      refine r_ic_lt hX dX5_bestDoor_16 (fun h16 => ?_) (fun h16 => ?_)
      · refine r_push hX dX5_bestDoor_25 ?_
        exact r_iret hX hQ dX5_bestDoor_27 (rfl) (rfl)
      · refine r_iload2 hX dX5_bestDoor_19 ?_
        refine r_push hX dX5_bestDoor_20 ?_
        refine r_ic_le hX dX5_bestDoor_22 (fun h22 => absurd (inB_yes (a := 1) (z := 9) h16 h22 rfl rfl) h2) (fun h22 => ?_)
        refine r_push hX dX5_bestDoor_25 ?_
        exact r_iret hX hQ dX5_bestDoor_27 (rfl) (rfl)
  · have e0 : bestF D C (fun c => wshF (pl.2 2 c) (pl.2 3 c)) (pl.2 5) (nw.2 0) t z = -1000000001 := by unfold bestF; rw [if_neg (fun h => h1 (eC ▸ h))]
    rw [e0] at hQ
    refine r_aload0 hX dX5_bestDoor_0 ?_
    refine g_wX_0_6 hX dX5_bestDoor_1 ?_
    refine r_iload1 hX dX5_bestDoor_4 ?_
    refine r_cV1i hX dX5_bestDoor_5 kX2_hasChalksOf fr_wX_wP_19_24 (c_X2_hasChalksOf l g _ _ _) rfl (by decide) (Nat.le_of_ble_eq_true rfl) ?_
    refine r_if_ne hX dX5_bestDoor_8 (fun h8 => absurd (bI_nz h8) h1) (fun h8 => ?_)
    refine r_push hX dX5_bestDoor_11 ?_
    exact r_iret hX hQ dX5_bestDoor_13 (rfl) (rfl)
