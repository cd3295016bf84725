set_option maxHeartbeats 400000 in
theorem c_X6_belief (l : Launch) (g : GT) (b : Nat → Nat) (σ : S2) (t z d : Int32) (D : Nat) (hD : D ≤ 14) (eD : σ.1 0 = nI D) (C : Nat) (hC : C ≤ 4) (eC : σ.1 1 = nI C) : Cx l g yX6_belief cX6_belief 7 (some .int) (k2_rm 3 90) [.ref (b 0), .int t, .int z, .int d] (wM g b σ) (some (.int (beliefF D C (fun c => wshF (σ.2 2 c) (σ.2 3 c)) (σ.2 5) (σ.2 9) t z d))) (wM g b σ) := by
  refine meth (own := "ChalkedDoorsModel") (by decide) rfl (Nat.le_of_ble_eq_true rfl) [some (.ref (b 0)), some (.int t), some (.int z), some (.int d), none, none, none] rfl (fun X hX hQ => ?_)
  by_cases h1 : stD t (σ.1 1) ∧ inD d (σ.1 0)
  · by_cases h2 : inB z.toInt 1 9
    · obtain ⟨ez, ez2⟩ := clN h2 (by decide)
      have hz9 : cl z ≤ 9 := by have := h2.2; omega
      have hvd : vp_in d 14 := vin h1.2 eD hD (by decide)
      have e0 : beliefF D C (fun c => wshF (σ.2 2 c) (σ.2 3 c)) (σ.2 5) (σ.2 9) t z d = if allF D C (fun c => wshF (σ.2 2 c) (σ.2 3 c)) (σ.2 5) (σ.2 9) t (cl z) = 0 then 0 else partF (wtF C (fun c => wshF (σ.2 2 c) (σ.2 3 c)) (σ.2 5) (σ.2 9 (cl d)) t (cl z)) (allF D C (fun c => wshF (σ.2 2 c) (σ.2 3 c)) (σ.2 5) (σ.2 9) t (cl z)) := by
        unfold beliefF; rw [if_pos (⟨eC ▸ h1.1, eD ▸ h1.2⟩ : stD t (nI C) ∧ inD d (nI D)), if_pos h2]
      rw [e0] at hQ
      generalize hsp : allF D C (fun c => wshF (σ.2 2 c) (σ.2 3 c)) (σ.2 5) (σ.2 9) t (cl z) = S at hQ
      unfold allF at hsp
      have hL40 : ∀ (n i : Nat) (x : Int32) (w : Int64), x = nI i → i + n = D → S = lp (fun d a => a + wtF C (fun c => wshF (σ.2 2 c) (σ.2 3 c)) (σ.2 5) (σ.2 9 d) t (cl z)) n i w → vJ X 0 0 (wM g b σ) 40 [some (.ref (b 0)), some (.int t), some (.int z), some (.int d), some (.long w), none, some (.int x)] [] := by
        intro n
        induction n with
        | zero =>
          intro i x w hx hn hs
          have hs : S = w := hs
          subst hs
          refine r_iload6 hX dX6_belief_40 ?_
          refine r_aload0 hX dX6_belief_42 ?_
          refine g_wM_0_0 hX dX6_belief_43 ?_
          refine r_ic_ge hX dX6_belief_46 (fun h46 => ?_) (fun h46 => absurd (lpx (e := D) hx eD (by omega) (by omega) (by omega)) h46)
          refine r_lload4 hX dX6_belief_68 ?_
          refine r_pushl hX dX6_belief_70 ?_
          refine r_lcmp hX dX6_belief_71 ?_
          refine r_if_ne hX dX6_belief_72 (fun h72 => ?_) (fun h72 => ?_)
          · refine r_aload0 hX dX6_belief_79 ?_
            refine r_iload1 hX dX6_belief_80 ?_
            refine r_iload2 hX dX6_belief_81 ?_
            refine r_iload3 hX dX6_belief_82 ?_
            refine r_aV3i hX dX6_belief_83 kX6_weightOf (c_X6_weightOf l g _ _ _ _ _ C hC eC hvd (cl z) ez hz9) ad_wM rfl (by decide) (Nat.le_of_ble_eq_true rfl) ?_
            refine r_pushl hX dX6_belief_86 ?_
            refine r_lmul hX dX6_belief_89 ?_
            refine r_lload4 hX dX6_belief_90 ?_
            refine r_ldiv hX dX6_belief_92 (fun h => h72 (lgc_eq.mpr h)) ?_
            refine r_l2i hX dX6_belief_93 ?_
            exact r_iret hX hQ dX6_belief_94 (by rw [if_neg (fun h => h72 (lgc_eq.mpr h)), partF_eq]) (rfl)
          · refine r_push hX dX6_belief_75 ?_
            refine r_goto hX dX6_belief_76 ?_
            exact r_iret hX hQ dX6_belief_94 (by rw [if_pos (lgc_eq.mp h72)]) (rfl)
        | succ n ih =>
          intro i x w hx hn hs
          have hvx : vp_in x 14 := by rw [hx]; exact vp_in_nI (by omega) (by omega)
          have hcx : cl x = i := by rw [hx]; exact nI_clamp (by omega)
          refine r_iload6 hX dX6_belief_40 ?_
          refine r_aload0 hX dX6_belief_42 ?_
          refine g_wM_0_0 hX dX6_belief_43 ?_
          refine r_ic_ge hX dX6_belief_46 (fun h46 => absurd h46 (lpn (e := D) hx eD (by omega) (by omega))) (fun h46 => ?_)
          refine r_lload4 hX dX6_belief_49 ?_
          refine r_aload0 hX dX6_belief_51 ?_
          refine r_iload1 hX dX6_belief_52 ?_
          refine r_iload2 hX dX6_belief_53 ?_
          refine r_iload6 hX dX6_belief_54 ?_
          refine r_aV3i hX dX6_belief_56 kX6_weightOf (c_X6_weightOf l g _ _ _ _ _ C hC eC hvx (cl z) ez hz9) ad_wM rfl (by decide) (Nat.le_of_ble_eq_true rfl) ?_
          refine r_ladd hX dX6_belief_59 ?_
          refine r_lstore4 hX dX6_belief_60 rfl ?_
          refine r_iinc6 hX dX6_belief_62 rfl ?_
          refine r_goto hX dX6_belief_65 ?_
          exact ih (i + 1) _ _ (by rw [hx]; exact nI_1 i) (by omega) (by rw [hs]; show lp _ n (i + 1) (w + _) = _; rw [hcx])
      refine r_aload0 hX dX6_belief_0 ?_
      refine r_iload1 hX dX6_belief_1 ?_
      refine r_aV1i hX dX6_belief_2 kX6_isSet (c_X6_isSet l g _ _ _ C hC eC) ad_wM rfl (by decide) (Nat.le_of_ble_eq_true rfl) ?_
      refine r_if_eq hX dX6_belief_5 (fun h5 => absurd h1.1 (bI_z h5)) (fun h5 => ?_)
      refine r_aload0 hX dX6_belief_8 ?_
      refine r_iload3 hX dX6_belief_9 ?_
      refine r_aV1i hX dX6_belief_10 kX6_isDoor (c_X6_isDoor l g _ _ _ D hD eD) ad_wM rfl (by decide) (Nat.le_of_ble_eq_true rfl) ?_
      refine r_if_ne hX dX6_belief_13 (fun h13 => ?_) (fun h13 => absurd h1.2 (bI_z h13))
      refine r_iload2 hX dX6_belief_19 ?_
      refine r_i2l hX dX6_belief_20 ?_
      refine r_pushl hX dX6_belief_21 ?_
      refine r_pushl hX dX6_belief_22 ?_
      refine r_nS3i hX dX6_belief_25 kX6_in (c_X6_in l g _ _ _) (by decide) (Nat.le_of_ble_eq_true rfl) ?_
      refine r_if_ne hX dX6_belief_28 (fun h28 => ?_) (fun h28 => absurd h28 (by rw [bI_t (p := inB z.toInt64.toInt (1 : Int64).toInt (9 : Int64).toInt) (by rw [Int32.toInt_toInt64]; exact h2)]; decide))
      refine r_pushl hX dX6_belief_34 ?_
      refine r_lstore4 hX dX6_belief_35 rfl ?_
      refine r_push hX dX6_belief_37 ?_
      refine r_istore6 hX dX6_belief_38 rfl ?_
      exact hL40 D 0 _ _ rfl (by omega) hsp.symm
    · have e0 : beliefF D C (fun c => wshF (σ.2 2 c) (σ.2 3 c)) (σ.2 5) (σ.2 9) t z d = -1000000002 := by unfold beliefF; rw [if_pos (⟨eC ▸ h1.1, eD ▸ h1.2⟩ : stD t (nI C) ∧ inD d (nI D)), if_neg h2]
      rw [e0] at hQ
      refine r_aload0 hX dX6_belief_0 ?_
      refine r_iload1 hX dX6_belief_1 ?_
      refine r_aV1i hX dX6_belief_2 kX6_isSet (c_X6_isSet l g _ _ _ C hC eC) ad_wM rfl (by decide) (Nat.le_of_ble_eq_true rfl) ?_
      refine r_if_eq hX dX6_belief_5 (fun h5 => absurd h1.1 (bI_z h5)) (fun h5 => ?_)
      refine r_aload0 hX dX6_belief_8 ?_
      refine r_iload3 hX dX6_belief_9 ?_
      refine r_aV1i hX dX6_belief_10 kX6_isDoor (c_X6_isDoor l g _ _ _ D hD eD) ad_wM rfl (by decide) (Nat.le_of_ble_eq_true rfl) ?_
      refine r_if_ne hX dX6_belief_13 (fun h13 => ?_) (fun h13 => absurd h1.2 (bI_z h13))
      refine r_iload2 hX dX6_belief_19 ?_
      refine r_i2l hX dX6_belief_20 ?_
      refine r_pushl hX dX6_belief_21 ?_
      refine r_pushl hX dX6_belief_22 ?_
      refine r_nS3i hX dX6_belief_25 kX6_in (c_X6_in l g _ _ _) (by decide) (Nat.le_of_ble_eq_true rfl) ?_
      refine r_if_ne hX dX6_belief_28 (fun h28 => absurd (bI_nz h28) (by rw [Int32.toInt_toInt64]; exact h2)) (fun h28 => ?_)
      refine r_push hX dX6_belief_31 ?_
      exact r_iret hX hQ dX6_belief_33 (rfl) (rfl)
  · have e0 : beliefF D C (fun c => wshF (σ.2 2 c) (σ.2 3 c)) (σ.2 5) (σ.2 9) t z d = -1000000001 := by unfold beliefF; rw [if_neg (fun h => h1 ⟨eC ▸ h.1, eD ▸ h.2⟩)]
    rw [e0] at hQ
    refine r_aload0 hX dX6_belief_0 ?_
    refine r_iload1 hX dX6_belief_1 ?_
    refine r_aV1i hX dX6_belief_2 kX6_isSet (c_X6_isSet l g _ _ _ C hC eC) ad_wM rfl (by decide) (Nat.le_of_ble_eq_true rfl) ?_
    refine r_if_eq hX dX6_belief_5 (fun h5 => ?_) (fun h5 => ?_)
    · refine r_push hX dX6_belief_16 ?_
      exact r_iret hX hQ dX6_belief_18 (rfl) (rfl)
    · refine r_aload0 hX dX6_belief_8 ?_
      refine r_iload3 hX dX6_belief_9 ?_
      refine r_aV1i hX dX6_belief_10 kX6_isDoor (c_X6_isDoor l g _ _ _ D hD eD) ad_wM rfl (by decide) (Nat.le_of_ble_eq_true rfl) ?_
      refine r_if_ne hX dX6_belief_13 (fun h13 => absurd ⟨bI_nz h5, bI_nz h13⟩ h1) (fun h13 => ?_)
      refine r_push hX dX6_belief_16 ?_
      exact r_iret hX hQ dX6_belief_18 (rfl) (rfl)
set_option maxHeartbeats 400000 in
theorem c_X6_bestDoor (l : Launch) (g : GT) (b : Nat → Nat) (σ : S2) (t z : Int32) (D : Nat) (hD : D ≤ 14) (eD : σ.1 0 = nI D) (C : Nat) (hC : C ≤ 4) (eC : σ.1 1 = nI C) : Cx l g yX6_bestDoor cX6_bestDoor 9 (some .int) (k2_rm 3 90) [.ref (b 0), .int t, .int z] (wM g b σ) (some (.int (bestF D C (fun c => wshF (σ.2 2 c) (σ.2 3 c)) (σ.2 5) (σ.2 9) t z))) (wM g b σ) := by
  refine meth (own := "ChalkedDoorsModel") (by decide) rfl (Nat.le_of_ble_eq_true rfl) [some (.ref (b 0)), some (.int t), some (.int z), none, none, none, none, none, none] rfl (fun X hX hQ => ?_)
  by_cases h1 : stD t (σ.1 1)
  · by_cases h2 : inB z.toInt 1 9
    · obtain ⟨ez, ez2⟩ := clN h2 (by decide)
      have hz9 : cl z ≤ 9 := by have := h2.2; omega
      have e0 : bestF D C (fun c => wshF (σ.2 2 c) (σ.2 3 c)) (σ.2 5) (σ.2 9) t z = (lp (bestC C (fun c => wshF (σ.2 2 c) (σ.2 3 c)) (σ.2 5) (σ.2 9) t (cl z)) D 0 (-1, 0)).1 := by
        unfold bestF; rw [if_pos (show stD t (nI C) from eC ▸ h1), if_pos h2]
      rw [e0] at hQ
      generalize hsp : lp (bestC C (fun c => wshF (σ.2 2 c) (σ.2 3 c)) (σ.2 5) (σ.2 9) t (cl z)) D 0 (-1, 0) = S at hQ
      have hL34 : ∀ (n i : Nat) (x : Int32) (r : Int32) (w : Int64), x = nI i → i + n = D → S = lp (bestC C (fun c => wshF (σ.2 2 c) (σ.2 3 c)) (σ.2 5) (σ.2 9) t (cl z)) n i (r, w) → vJ X 0 0 (wM g b σ) 34 [some (.ref (b 0)), some (.int t), some (.int z), some (.int r), some (.long w), none, some (.int x), none, none] [] := by
        intro n
        induction n with
        | zero =>
          intro i x r w hx hn hs
          refine r_iload6 hX dX6_bestDoor_34 ?_
          refine r_aload0 hX dX6_bestDoor_36 ?_
          refine g_wM_0_0 hX dX6_bestDoor_37 ?_
          refine r_ic_ge hX dX6_bestDoor_40 (fun h40 => ?_) (fun h40 => absurd (lpx (e := D) hx eD (by omega) (by omega) (by omega)) h40)
          refine r_iload3 hX dX6_bestDoor_91 ?_
          exact r_iret hX hQ dX6_bestDoor_92 (by rw [hs] <;> rfl) (rfl)
        | succ n ih =>
          intro i x r w hx hn hs
          have hvx : vp_in x 14 := by rw [hx]; exact vp_in_nI (by omega) (by omega)
          have hcx : cl x = i := by rw [hx]; exact nI_clamp (by omega)
          refine r_iload6 hX dX6_bestDoor_34 ?_
          refine r_aload0 hX dX6_bestDoor_36 ?_
          refine g_wM_0_0 hX dX6_bestDoor_37 ?_
          refine r_ic_ge hX dX6_bestDoor_40 (fun h40 => absurd h40 (lpn (e := D) hx eD (by omega) (by omega))) (fun h40 => ?_)
          refine r_aload0 hX dX6_bestDoor_43 ?_
          refine r_iload1 hX dX6_bestDoor_44 ?_
          refine r_iload2 hX dX6_bestDoor_45 ?_
          refine r_iload6 hX dX6_bestDoor_46 ?_
          refine r_aV3i hX dX6_bestDoor_48 kX6_weightOf (c_X6_weightOf l g _ _ _ _ _ C hC eC hvx (cl z) ez hz9) ad_wM rfl (by decide) (Nat.le_of_ble_eq_true rfl) ?_
          refine r_lstore7 hX dX6_bestDoor_51 rfl ?_
          refine r_lload7 hX dX6_bestDoor_53 ?_
          refine r_lload4 hX dX6_bestDoor_55 ?_
          refine r_lcmp hX dX6_bestDoor_57 ?_
          refine r_if_le hX dX6_bestDoor_58 (fun h58 => ?_) (fun h58 => ?_)
          · refine r_iload3 hX dX6_bestDoor_66 ?_
            refine r_istore3 hX dX6_bestDoor_67 rfl ?_
            refine r_lload7 hX dX6_bestDoor_68 ?_
            refine r_lload4 hX dX6_bestDoor_70 ?_
            refine r_lcmp hX dX6_bestDoor_72 ?_
            refine r_if_le hX dX6_bestDoor_73 (fun h73 => ?_) (fun h73 => ?_)
            · refine r_lload4 hX dX6_bestDoor_81 ?_
              refine r_lstore4 hX dX6_bestDoor_83 rfl ?_
              refine r_iinc6 hX dX6_bestDoor_85 rfl ?_
              refine r_goto hX dX6_bestDoor_88 ?_
              refine r_fg7 ?_
              exact ih (i + 1) _ _ _ (by rw [hx]; exact nI_1 i) (by omega) (by rw [hs]; show lp _ n (i + 1) (bestC _ _ _ _ _ _ i (r, w)) = _; unfold bestC; rw [if_neg (by rw [← hcx]; exact lgc_le.mp h58)])
            · refine r_lload7 hX dX6_bestDoor_76 ?_
              refine r_goto hX dX6_bestDoor_78 ?_
              refine r_lstore4 hX dX6_bestDoor_83 rfl ?_
              refine r_iinc6 hX dX6_bestDoor_85 rfl ?_
              refine r_goto hX dX6_bestDoor_88 ?_
              exact absurd h58 h73
          · refine r_iload6 hX dX6_bestDoor_61 ?_
            refine r_goto hX dX6_bestDoor_63 ?_
            refine r_istore3 hX dX6_bestDoor_67 rfl ?_
            refine r_lload7 hX dX6_bestDoor_68 ?_
            refine r_lload4 hX dX6_bestDoor_70 ?_
            refine r_lcmp hX dX6_bestDoor_72 ?_
            refine r_if_le hX dX6_bestDoor_73 (fun h73 => ?_) (fun h73 => ?_)
            · refine r_lload4 hX dX6_bestDoor_81 ?_
              refine r_lstore4 hX dX6_bestDoor_83 rfl ?_
              refine r_iinc6 hX dX6_bestDoor_85 rfl ?_
              refine r_goto hX dX6_bestDoor_88 ?_
              exact absurd h73 h58
            · refine r_lload7 hX dX6_bestDoor_76 ?_
              refine r_goto hX dX6_bestDoor_78 ?_
              refine r_lstore4 hX dX6_bestDoor_83 rfl ?_
              refine r_iinc6 hX dX6_bestDoor_85 rfl ?_
              refine r_goto hX dX6_bestDoor_88 ?_
              refine r_fg7 ?_
              exact ih (i + 1) _ _ _ (by rw [hx]; exact nI_1 i) (by omega) (by rw [hs]; show lp _ n (i + 1) (bestC _ _ _ _ _ _ i (r, w)) = _; unfold bestC; rw [if_pos (by rw [← hcx]; exact Decidable.not_not.mp (fun h => h58 (lgc_le.mpr h))), ← hx, ← hcx])
      refine r_aload0 hX dX6_bestDoor_0 ?_
      refine r_iload1 hX dX6_bestDoor_1 ?_
      refine r_aV1i hX dX6_bestDoor_2 kX6_isSet (c_X6_isSet l g _ _ _ C hC eC) ad_wM rfl (by decide) (Nat.le_of_ble_eq_true rfl) ?_
      refine r_if_ne hX dX6_bestDoor_5 (fun h5 => ?_) (fun h5 => absurd h5 (by rw [bI_t h1]; decide))
      refine r_iload2 hX dX6_bestDoor_11 ?_
      refine r_i2l hX dX6_bestDoor_12 ?_
      refine r_pushl hX dX6_bestDoor_13 ?_
      refine r_pushl hX dX6_bestDoor_14 ?_
      refine r_nS3i hX dX6_bestDoor_17 kX6_in (c_X6_in l g _ _ _) (by decide) (Nat.le_of_ble_eq_true rfl) ?_
      refine r_if_ne hX dX6_bestDoor_20 (fun h20 => ?_) (fun h20 => absurd h20 (by rw [bI_t (p := inB z.toInt64.toInt (1 : Int64).toInt (9 : Int64).toInt) (by rw [Int32.toInt_toInt64]; exact h2)]; decide))
      refine r_push hX dX6_bestDoor_26 ?_
      refine r_istore3 hX dX6_bestDoor_27 rfl ?_
      refine r_pushl hX dX6_bestDoor_28 ?_
      refine r_lstore4 hX dX6_bestDoor_29 rfl ?_
      refine r_push hX dX6_bestDoor_31 ?_
      refine r_istore6 hX dX6_bestDoor_32 rfl ?_
      exact hL34 D 0 _ _ _ rfl (by omega) hsp.symm
    · have e0 : bestF D C (fun c => wshF (σ.2 2 c) (σ.2 3 c)) (σ.2 5) (σ.2 9) t z = -1000000002 := by unfold bestF; rw [if_pos (show stD t (nI C) from eC ▸ h1), if_neg h2]
      rw [e0] at hQ
      refine r_aload0 hX dX6_bestDoor_0 ?_
      refine r_iload1 hX dX6_bestDoor_1 ?_
      refine r_aV1i hX dX6_bestDoor_2 kX6_isSet (c_X6_isSet l g _ _ _ C hC eC) ad_wM rfl (by decide) (Nat.le_of_ble_eq_true rfl) ?_
      refine r_if_ne hX dX6_bestDoor_5 (fun h5 => ?_) (fun h5 => absurd h5 (by rw [bI_t h1]; decide))
      refine r_iload2 hX dX6_bestDoor_11 ?_
      refine r_i2l hX dX6_bestDoor_12 ?_
      refine r_pushl hX dX6_bestDoor_13 ?_
      refine r_pushl hX dX6_bestDoor_14 ?_
      refine r_nS3i hX dX6_bestDoor_17 kX6_in (c_X6_in l g _ _ _) (by decide) (Nat.le_of_ble_eq_true rfl) ?_
      refine r_if_ne hX dX6_bestDoor_20 (fun h20 => absurd (bI_nz h20) (by rw [Int32.toInt_toInt64]; exact h2)) (fun h20 => ?_)
      refine r_push hX dX6_bestDoor_23 ?_
      exact r_iret hX hQ dX6_bestDoor_25 (rfl) (rfl)
  · have e0 : bestF D C (fun c => wshF (σ.2 2 c) (σ.2 3 c)) (σ.2 5) (σ.2 9) t z = -1000000001 := by unfold bestF; rw [if_neg (fun h => h1 (eC ▸ h))]
    rw [e0] at hQ
    refine r_aload0 hX dX6_bestDoor_0 ?_
    refine r_iload1 hX dX6_bestDoor_1 ?_
    refine r_aV1i hX dX6_bestDoor_2 kX6_isSet (c_X6_isSet l g _ _ _ C hC eC) ad_wM rfl (by decide) (Nat.le_of_ble_eq_true rfl) ?_
    refine r_if_ne hX dX6_bestDoor_5 (fun h5 => absurd (bI_nz h5) h1) (fun h5 => ?_)
    refine r_push hX dX6_bestDoor_8 ?_
    exact r_iret hX hQ dX6_bestDoor_10 (rfl) (rfl)
set_option maxHeartbeats 400000 in
theorem c_X6_watchedAt (l : Launch) (g : GT) (b : Nat → Nat) (σ : S2) (t : Int32) (D : Nat) (hD : D ≤ 14) (eD : σ.1 0 = nI D) (S : Nat) (hS : S ≤ 9) (eS : σ.1 7 = nI S) (hS0 : 1 ≤ S) : Cx l g yX6_watchedAt cX6_watchedAt 3 (some .int) (k2_rm 0 0) [.ref (b 0), .int t] (wM g b σ) (some (.int (watF (σ.1 0) (σ.1 7) t))) (wM g b σ) := by
  refine meth (own := "ChalkedDoorsModel") (by decide) rfl (Nat.le_of_ble_eq_true rfl) [some (.ref (b 0)), some (.int t), none] rfl (fun X hX hQ => ?_)
  refine r_aload0 hX dX6_watchedAt_0 ?_
  refine g_wM_0_0 hX dX6_watchedAt_1 ?_
  refine r_push hX dX6_watchedAt_4 ?_
  refine r_ic_ne hX dX6_watchedAt_5 (fun h5 => ?_) (fun h5 => ?_)
  · refine r_iload1 hX dX6_watchedAt_10 ?_
    refine r_aload0 hX dX6_watchedAt_11 ?_
    refine g_wM_0_7 hX dX6_watchedAt_12 ?_
    refine r_idiv hX dX6_watchedAt_15 (by rw [eS]; exact nI_ne0 (by omega) (by omega)) ?_
    refine r_push hX dX6_watchedAt_16 ?_
    refine r_aload0 hX dX6_watchedAt_17 ?_
    refine g_wM_0_0 hX dX6_watchedAt_18 ?_
    refine r_imul hX dX6_watchedAt_21 ?_
    refine r_push hX dX6_watchedAt_22 ?_
    refine r_isub hX dX6_watchedAt_23 ?_
    refine r_irem hX dX6_watchedAt_24 (by rw [eD]; exact rnd0 hD (by rw [← eD]; exact h5)) ?_
    refine r_istore2 hX dX6_watchedAt_25 rfl ?_
    refine r_iload2 hX dX6_watchedAt_26 ?_
    refine r_aload0 hX dX6_watchedAt_27 ?_
    refine g_wM_0_0 hX dX6_watchedAt_28 ?_
    refine r_ic_ge hX dX6_watchedAt_31 (fun h31 => ?_) (fun h31 => ?_)
    · refine r_push hX dX6_watchedAt_38 ?_
      refine r_aload0 hX dX6_watchedAt_39 ?_
      refine g_wM_0_0 hX dX6_watchedAt_40 ?_
      refine r_imul hX dX6_watchedAt_43 ?_
      refine r_push hX dX6_watchedAt_44 ?_
      refine r_isub hX dX6_watchedAt_45 ?_
      refine r_iload2 hX dX6_watchedAt_46 ?_
      refine r_isub hX dX6_watchedAt_47 ?_
      exact r_iret hX hQ dX6_watchedAt_48 (by rw [watF_eq, if_neg h5, if_pos h31]) (rfl)
    · refine r_iload2 hX dX6_watchedAt_34 ?_
      refine r_goto hX dX6_watchedAt_35 ?_
      exact r_iret hX hQ dX6_watchedAt_48 (by rw [watF_eq, if_neg h5, if_neg h31]) (rfl)
  · refine r_push hX dX6_watchedAt_8 ?_
    exact r_iret hX hQ dX6_watchedAt_9 (by rw [watF_eq, if_pos h5]) (rfl)
set_option maxHeartbeats 400000 in
theorem c_X6_watchman (l : Launch) (g : GT) (b : Nat → Nat) (σ : S2) (t : Int32) (D : Nat) (hD : D ≤ 14) (eD : σ.1 0 = nI D) (S : Nat) (hS : S ≤ 9) (eS : σ.1 7 = nI S) : Cx l g yX6_watchman cX6_watchman 2 (some .int) (k2_rm 1 30) [.ref (b 0), .int t] (wM g b σ) (some (.int (if inB t.toInt 0 99999 then (if σ.1 7 = 0 then -1 else watF (σ.1 0) (σ.1 7) t) else -1000000002))) (wM g b σ) := by
  refine meth (own := "ChalkedDoorsModel") (by decide) rfl (Nat.le_of_ble_eq_true rfl) [some (.ref (b 0)), some (.int t)] rfl (fun X hX hQ => ?_)
  refine r_iload1 hX dX6_watchman_0 ?_
  refine r_i2l hX dX6_watchman_1 ?_
  refine r_pushl hX dX6_watchman_2 ?_
  refine r_pushl hX dX6_watchman_3 ?_
  refine r_nS3i hX dX6_watchman_6 kX6_in (c_X6_in l g _ _ _) (by decide) (Nat.le_of_ble_eq_true rfl) ?_
  refine r_if_ne hX dX6_watchman_9 (fun h9 => ?_) (fun h9 => ?_)
  · refine r_aload0 hX dX6_watchman_15 ?_
    refine g_wM_0_7 hX dX6_watchman_16 ?_
    refine r_if_ne hX dX6_watchman_19 (fun h19 => ?_) (fun h19 => ?_)
    · refine r_aload0 hX dX6_watchman_26 ?_
      refine r_iload1 hX dX6_watchman_27 ?_
      refine r_aV1i hX dX6_watchman_28 kX6_watchedAt (c_X6_watchedAt l g _ _ _ D hD eD S hS eS (Nat.pos_of_ne_zero (fun h => h19 (by rw [eS, h]; rfl)))) ad_wM rfl (by decide) (Nat.le_of_ble_eq_true rfl) ?_
      exact r_iret hX hQ dX6_watchman_31 (by rw [if_pos (show inB t.toInt 0 99999 by have q := bI_nz h9; rw [Int32.toInt_toInt64] at q; exact q), if_neg h19]) (rfl)
    · refine r_push hX dX6_watchman_22 ?_
      refine r_goto hX dX6_watchman_23 ?_
      exact r_iret hX hQ dX6_watchman_31 (by rw [if_pos (show inB t.toInt 0 99999 by have q := bI_nz h9; rw [Int32.toInt_toInt64] at q; exact q), if_pos h19]) (rfl)
  · refine r_push hX dX6_watchman_12 ?_
    exact r_iret hX hQ dX6_watchman_14 (by rw [if_neg (fun h => bI_z h9 (by rw [Int32.toInt_toInt64]; exact h))]) (rfl)
set_option maxHeartbeats 400000 in
theorem c_X6_unseenBy (l : Launch) (g : GT) (b : Nat → Nat) (σ : S2) (d z : Int32) (D : Nat) (hD : D ≤ 14) (eD : σ.1 0 = nI D) (S : Nat) (hS : S ≤ 9) (eS : σ.1 7 = nI S) (hS0 : 1 ≤ S) (hD1 : 1 ≤ D) : Cx l g yX6_unseenBy cX6_unseenBy 7 (some .int) (k2_rm 1 30) [.ref (b 0), .int d, .int z] (wM g b σ) (some (.int (unsF D S d z))) (wM g b σ) := by
  refine meth (own := "ChalkedDoorsModel") (by decide) rfl (Nat.le_of_ble_eq_true rfl) [some (.ref (b 0)), some (.int d), some (.int z), none, none, none, none] rfl (fun X hX hQ => ?_)
  generalize hA : (if D = 1 then 1 else (2 * D - 2) * S) = A
  have hAb : A ≤ 234 := by
    rw [← hA]
    split
    · omega
    · have : (2 * D - 2) * S ≤ 26 * 9 := Nat.mul_le_mul (by omega) hS
      omega
  have e0 : unsF D S d z = (lp (unsC (nI D) (nI S) d z) (2 * A) 0 (0, 0)).1 := by unfold unsF; rw [hA]
  rw [e0] at hQ
  generalize hsp : lp (unsC (nI D) (nI S) d z) (2 * A) 0 (0, 0) = SS at hQ
  have hL35 : ∀ (al : Int32), al = nI A → ∀ (n i : Nat) (x : Int32) (p q : Int32), x = nI i → i + n = (2 * A) → SS = lp (unsC (nI D) (nI S) d z) n i (p, q) → vJ X 0 0 (wM g b σ) 35 [some (.ref (b 0)), some (.int d), some (.int z), some (.int al), some (.int p), some (.int q), some (.int x)] [] := by
    intro al hal n
    induction n with
    | zero =>
      intro i x p q hx hn hs
      refine r_iload6 hX dX6_unseenBy_35 ?_
      refine r_push hX dX6_unseenBy_37 ?_
      refine r_iload3 hX dX6_unseenBy_38 ?_
      refine r_imul hX dX6_unseenBy_39 ?_
      refine r_ic_ge hX dX6_unseenBy_40 (fun h40 => ?_) (fun h40 => absurd (lpx (e := (2 * A)) hx (show 2 * al = nI (2 * A) by rw [hal, show (2 : Int32) = nI 2 from rfl, pk_mul]) (by omega) (by omega) (by omega)) h40)
      refine r_iload4 hX dX6_unseenBy_89 ?_
      exact r_iret hX hQ dX6_unseenBy_91 (by rw [hs] <;> rfl) (rfl)
    | succ n ih =>
      intro i x p q hx hn hs
      refine r_iload6 hX dX6_unseenBy_35 ?_
      refine r_push hX dX6_unseenBy_37 ?_
      refine r_iload3 hX dX6_unseenBy_38 ?_
      refine r_imul hX dX6_unseenBy_39 ?_
      refine r_ic_ge hX dX6_unseenBy_40 (fun h40 => absurd h40 (lpn (e := (2 * A)) hx (show 2 * al = nI (2 * A) by rw [hal, show (2 : Int32) = nI 2 from rfl, pk_mul]) (by omega) (by omega))) (fun h40 => ?_)
      refine r_aload0 hX dX6_unseenBy_43 ?_
      refine r_iload6 hX dX6_unseenBy_44 ?_
      refine r_aV1i hX dX6_unseenBy_46 kX6_watchedAt (c_X6_watchedAt l g _ _ _ D hD eD S hS eS hS0) ad_wM rfl (by decide) (Nat.le_of_ble_eq_true rfl) ?_
      refine r_iload1 hX dX6_unseenBy_49 ?_
      refine r_nS2i hX dX6_unseenBy_50 kX6_away (c_X6_away l g _ _) (by decide) (Nat.le_of_ble_eq_true rfl) ?_
      refine r_iload2 hX dX6_unseenBy_53 ?_
      refine r_ic_le hX dX6_unseenBy_54 (fun h54 => ?_) (fun h54 => ?_)
      · refine r_push hX dX6_unseenBy_64 ?_
        refine r_istore5 hX dX6_unseenBy_65 rfl ?_
        refine r_iload5 hX dX6_unseenBy_67 ?_
        refine r_iload4 hX dX6_unseenBy_69 ?_
        refine r_ic_le hX dX6_unseenBy_71 (fun h71 => ?_) (fun h71 => ?_)
        · refine r_iload4 hX dX6_unseenBy_79 ?_
          refine r_istore4 hX dX6_unseenBy_81 rfl ?_
          refine r_iinc6 hX dX6_unseenBy_83 rfl ?_
          refine r_goto hX dX6_unseenBy_86 ?_
          exact ih (i + 1) _ _ _ (by rw [hx]; exact nI_1 i) (by omega) (by rw [hs]; show lp _ n (i + 1) (unsC _ _ _ _ i (p, q)) = _; unfold unsC; rw [if_pos (show awayF (watF (nI D) (nI S) (nI i)) d ≤ z by rw [← hx, ← eD, ← eS]; exact h54)]; dsimp only; rw [if_pos h71])
        · refine r_iload5 hX dX6_unseenBy_74 ?_
          refine r_goto hX dX6_unseenBy_76 ?_
          refine r_istore4 hX dX6_unseenBy_81 rfl ?_
          refine r_iinc6 hX dX6_unseenBy_83 rfl ?_
          refine r_goto hX dX6_unseenBy_86 ?_
          exact ih (i + 1) _ _ _ (by rw [hx]; exact nI_1 i) (by omega) (by rw [hs]; show lp _ n (i + 1) (unsC _ _ _ _ i (p, q)) = _; unfold unsC; rw [if_pos (show awayF (watF (nI D) (nI S) (nI i)) d ≤ z by rw [← hx, ← eD, ← eS]; exact h54)]; dsimp only; rw [if_neg h71])
      · refine r_iload5 hX dX6_unseenBy_57 ?_
        refine r_push hX dX6_unseenBy_59 ?_
        refine r_iadd hX dX6_unseenBy_60 ?_
        refine r_goto hX dX6_unseenBy_61 ?_
        refine r_istore5 hX dX6_unseenBy_65 rfl ?_
        refine r_iload5 hX dX6_unseenBy_67 ?_
        refine r_iload4 hX dX6_unseenBy_69 ?_
        refine r_ic_le hX dX6_unseenBy_71 (fun h71 => ?_) (fun h71 => ?_)
        · refine r_iload4 hX dX6_unseenBy_79 ?_
          refine r_istore4 hX dX6_unseenBy_81 rfl ?_
          refine r_iinc6 hX dX6_unseenBy_83 rfl ?_
          refine r_goto hX dX6_unseenBy_86 ?_
          exact ih (i + 1) _ _ _ (by rw [hx]; exact nI_1 i) (by omega) (by rw [hs]; show lp _ n (i + 1) (unsC _ _ _ _ i (p, q)) = _; unfold unsC; rw [if_neg (show ¬ awayF (watF (nI D) (nI S) (nI i)) d ≤ z by rw [← hx, ← eD, ← eS]; exact h54)]; dsimp only; rw [if_pos h71])
        · refine r_iload5 hX dX6_unseenBy_74 ?_
          refine r_goto hX dX6_unseenBy_76 ?_
          refine r_istore4 hX dX6_unseenBy_81 rfl ?_
          refine r_iinc6 hX dX6_unseenBy_83 rfl ?_
          refine r_goto hX dX6_unseenBy_86 ?_
          exact ih (i + 1) _ _ _ (by rw [hx]; exact nI_1 i) (by omega) (by rw [hs]; show lp _ n (i + 1) (unsC _ _ _ _ i (p, q)) = _; unfold unsC; rw [if_neg (show ¬ awayF (watF (nI D) (nI S) (nI i)) d ≤ z by rw [← hx, ← eD, ← eS]; exact h54)]; dsimp only; rw [if_neg h71])
  refine r_aload0 hX dX6_unseenBy_0 ?_
  refine g_wM_0_0 hX dX6_unseenBy_1 ?_
  refine r_push hX dX6_unseenBy_4 ?_
  refine r_ic_ne hX dX6_unseenBy_5 (fun h5 => ?_) (fun h5 => ?_)
  · refine r_push hX dX6_unseenBy_12 ?_
    refine r_aload0 hX dX6_unseenBy_13 ?_
    refine g_wM_0_0 hX dX6_unseenBy_14 ?_
    refine r_imul hX dX6_unseenBy_17 ?_
    refine r_push hX dX6_unseenBy_18 ?_
    refine r_isub hX dX6_unseenBy_19 ?_
    refine r_aload0 hX dX6_unseenBy_20 ?_
    refine g_wM_0_7 hX dX6_unseenBy_21 ?_
    refine r_imul hX dX6_unseenBy_24 ?_
    refine r_istore3 hX dX6_unseenBy_25 rfl ?_
    refine r_push hX dX6_unseenBy_26 ?_
    refine r_istore4 hX dX6_unseenBy_27 rfl ?_
    refine r_push hX dX6_unseenBy_29 ?_
    refine r_istore5 hX dX6_unseenBy_30 rfl ?_
    refine r_push hX dX6_unseenBy_32 ?_
    refine r_istore6 hX dX6_unseenBy_33 rfl ?_
    exact hL35 _ (by rw [← hA, if_neg (fun h => h5 (by rw [eD, h]; rfl)), eD, eS]; exact rndA hD hD1) (2 * A) 0 _ _ _ rfl (by omega) hsp.symm
  · refine r_push hX dX6_unseenBy_8 ?_
    refine r_goto hX dX6_unseenBy_9 ?_
    refine r_istore3 hX dX6_unseenBy_25 rfl ?_
    refine r_push hX dX6_unseenBy_26 ?_
    refine r_istore4 hX dX6_unseenBy_27 rfl ?_
    refine r_push hX dX6_unseenBy_29 ?_
    refine r_istore5 hX dX6_unseenBy_30 rfl ?_
    refine r_push hX dX6_unseenBy_32 ?_
    refine r_istore6 hX dX6_unseenBy_33 rfl ?_
    exact hL35 _ (by rw [← hA, if_pos ((nI_eq (by omega) (by decide)).mp (eD.symm.trans (h5.trans (show (1 : Int32) = nI 1 from rfl))))]; rfl) (2 * A) 0 _ _ _ rfl (by omega) hsp.symm
set_option maxHeartbeats 400000 in
theorem c_X6_unseen (l : Launch) (g : GT) (b : Nat → Nat) (σ : S2) (d : Int32) (D : Nat) (hD : D ≤ 14) (eD : σ.1 0 = nI D) (S : Nat) (hS : S ≤ 9) (eS : σ.1 7 = nI S) (hD1 : S ≠ 0 → 1 ≤ D) : Cx l g yX6_unseen cX6_unseen 2 (some .int) (k2_rm 2 60) [.ref (b 0), .int d] (wM g b σ) (some (.int (if inD d (σ.1 0) then (if σ.1 7 = 0 then -1 else unsF D S d (σ.1 8)) else -1000000001))) (wM g b σ) := by
  refine meth (own := "ChalkedDoorsModel") (by decide) rfl (Nat.le_of_ble_eq_true rfl) [some (.ref (b 0)), some (.int d)] rfl (fun X hX hQ => ?_)
  refine r_aload0 hX dX6_unseen_0 ?_
  refine r_iload1 hX dX6_unseen_1 ?_
  refine r_aV1i hX dX6_unseen_2 kX6_isDoor (c_X6_isDoor l g _ _ _ D hD eD) ad_wM rfl (by decide) (Nat.le_of_ble_eq_true rfl) ?_
  refine r_if_ne hX dX6_unseen_5 (fun h5 => ?_) (fun h5 => ?_)
  · refine r_aload0 hX dX6_unseen_11 ?_
    refine g_wM_0_7 hX dX6_unseen_12 ?_
    refine r_if_ne hX dX6_unseen_15 (fun h15 => ?_) (fun h15 => ?_)
    · refine r_aload0 hX dX6_unseen_22 ?_
      refine r_iload1 hX dX6_unseen_23 ?_
      refine r_aload0 hX dX6_unseen_24 ?_
      refine g_wM_0_8 hX dX6_unseen_25 ?_
      refine r_aV2i hX dX6_unseen_28 kX6_unseenBy (c_X6_unseenBy l g _ _ _ _ D hD eD S hS eS (Nat.pos_of_ne_zero (fun h => h15 (by rw [eS, h]; rfl))) (hD1 (fun h => h15 (by rw [eS, h]; rfl)))) ad_wM rfl (by decide) (Nat.le_of_ble_eq_true rfl) ?_
      exact r_iret hX hQ dX6_unseen_31 (by rw [if_pos (bI_nz h5), if_neg h15]) (rfl)
    · refine r_push hX dX6_unseen_18 ?_
      refine r_goto hX dX6_unseen_19 ?_
      exact r_iret hX hQ dX6_unseen_31 (by rw [if_pos (bI_nz h5), if_pos h15]) (rfl)
  · refine r_push hX dX6_unseen_8 ?_
    exact r_iret hX hQ dX6_unseen_10 (by rw [if_neg (bI_z h5)]) (rfl)
