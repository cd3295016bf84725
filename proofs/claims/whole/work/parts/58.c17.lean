noncomputable def copX (C : Nat) (cost : Nat → Int32) (m d f : Int32) (q : Nat) (s : (Nat → Int32) × Int32) : (Nat → Int32) × Int32 := if awayF (nI q) d ≤ f then (upd s.1 q m, payF s.2 (costF C cost (m &&& (s.1 q ^^^ -1)))) else s
noncomputable def copXF (D C : Nat) (cost mk : Nat → Int32) (sp d f : Int32) : Int32 × (Nat → Int32) × Int32 :=
  if inD d (nI D) then (if inB f.toInt 1 13 then ((lp (copX C cost (mk (cl d)) d f) D 0 (mk, sp)).2, (lp (copX C cost (mk (cl d)) d f) D 0 (mk, sp)).1, (lp (copX C cost (mk (cl d)) d f) D 0 (mk, sp)).2) else (-1000000002, mk, sp)) else (-1000000001, mk, sp)
set_option maxHeartbeats 400000 in
theorem c_X5_copy (l : Launch) (g : GT) (x : Nat) (a : Nat → Nat → Nat) (kp : Int32) (rd : S2) (nw : S2) (i0 : S2) (i1 : S2) (fa : S2) (bo : S2) (pl : S2) (dr : S2) (d f : Int32) (D : Nat) (hD : D ≤ 14) (eD : pl.1 0 = nI D) (C : Nat) (hC : C ≤ 4) (eC : pl.1 1 = nI C) : Cx l g yX5_copy cX5_copy 5 (some .int) (k2_rm 2 60) [.ref (x), .int d, .int f] (wX g x a kp rd nw i0 i1 fa bo pl dr) (some (.int (copXF D C (pl.2 4) (nw.2 0) (nw.1 3) d f).1)) (wX g x a kp rd (su (aw nw 0 (copXF D C (pl.2 4) (nw.2 0) (nw.1 3) d f).2.1) 3 (copXF D C (pl.2 4) (nw.2 0) (nw.1 3) d f).2.2) i0 i1 fa bo pl dr) := by
  refine meth (own := "ChalkedDoors") (by decide) rfl (Nat.le_of_ble_eq_true rfl) [some (.ref (x)), some (.int d), some (.int f), none, none] rfl (fun X hX hQ => ?_)
  by_cases hd : inD d (pl.1 0)
  · by_cases hf : inB f.toInt 1 13
    · have r1 : ¬ f < 1 := fun h => inB_no1 (a := 1) (z := 13) h rfl hf
      have r2 : f ≤ 13 := Decidable.not_not.mp (fun h => inB_no2 (a := 1) (z := 13) h rfl hf)
      have e0 : copXF D C (pl.2 4) (nw.2 0) (nw.1 3) d f = ((lp (copX C (pl.2 4) (nw.2 0 (cl d)) d f) D 0 (nw.2 0, nw.1 3)).2, (lp (copX C (pl.2 4) (nw.2 0 (cl d)) d f) D 0 (nw.2 0, nw.1 3)).1, (lp (copX C (pl.2 4) (nw.2 0 (cl d)) d f) D 0 (nw.2 0, nw.1 3)).2) := by
        unfold copXF; rw [if_pos (eD ▸ hd), if_pos hf]
      rw [e0] at hQ
      generalize hsp : lp (copX C (pl.2 4) (nw.2 0 (cl d)) d f) D 0 (nw.2 0, nw.1 3) = S at hQ
      have hvd : vp_in d 14 := vin hd eD hD (by decide)
      have hdn : d = nI (cl d) := inD_nI hd
      have hdl : cl d < D := inD_cl hd eD (by omega)
      have hL41 : ∀ (n i : Nat) (y : Int32) (mk : Nat → Int32) (sp : Int32), y = nI i → i + n = D → S = lp (copX C (pl.2 4) (nw.2 0 (cl d)) d f) n i (mk, sp) → vJ X 0 0 (wX g x a kp rd (su (aw nw 0 mk) 3 sp) i0 i1 fa bo pl dr) 41 [some (.ref (x)), some (.int d), some (.int f), some (.int (nw.2 0 (cl d))), some (.int y)] [] := by
        intro n
        induction n with
        | zero =>
          intro i y mk sp hx hn hs
          refine r_iload4 hX dX5_copy_41 ?_
          refine r_aload0 hX dX5_copy_43 ?_
          refine g_wX_0_6 hX dX5_copy_44 ?_
          refine g_wX_19_0 hX dX5_copy_47 ?_
          refine r_ic_ge hX dX5_copy_50 (fun h50 => ?_) (fun h50 => absurd (lpx (e := D) hx eD (by omega) (by omega) (by omega)) h50)
          refine r_aload0 hX dX5_copy_109 ?_
          refine g_wX_0_1 hX dX5_copy_110 ?_
          refine g_wX_3_3 hX dX5_copy_113 ?_
          exact r_iret hX hQ dX5_copy_116 (by rw [hs] <;> rfl) (by rw [hs] <;> rfl)
        | succ n ih =>
          intro i y mk sp hx hn hs
          have hvy : vp_in y 14 := by rw [hx]; exact vp_in_nI (by omega) (by omega)
          have hcx : cl y = i := by rw [hx]; exact nI_clamp (by omega)
          have hab : (if 0 ≤ y - d then y - d else 0 - (y - d)) = awayF (nI i) d := by rw [hx, hdn]; exact absN (by omega) (by omega)
          refine r_iload4 hX dX5_copy_41 ?_
          refine r_aload0 hX dX5_copy_43 ?_
          refine g_wX_0_6 hX dX5_copy_44 ?_
          refine g_wX_19_0 hX dX5_copy_47 ?_
          refine r_ic_ge hX dX5_copy_50 (fun h50 => absurd h50 (lpn (e := D) hx eD (by omega) (by omega))) (fun h50 => ?_)
          refine r_iload4 hX dX5_copy_53 ?_
          refine r_iload1 hX dX5_copy_55 ?_
          refine r_isub hX dX5_copy_56 ?_
          refine r_mabs hX dX5_copy_57 hm_abs_X5 (by decide) (Nat.le_of_ble_eq_true rfl) (by decide) (by decide) ?_
          refine r_iload2 hX dX5_copy_60 ?_
          refine r_ic_gt hX dX5_copy_61 (fun h61 => ?_) (fun h61 => ?_)
          · refine r_iinc4 hX dX5_copy_103 rfl ?_
            refine r_goto hX dX5_copy_106 ?_
            refine vJw (w' := wX g x a kp rd (su (aw nw 0 mk) 3 sp) i0 i1 fa bo pl dr) rfl ?_
            exact ih (i + 1) _ mk sp (by rw [hx]; exact nI_1 i) (by omega) (by rw [hs]; show lp _ n (i + 1) (copX _ _ _ _ _ i (mk, sp)) = _; unfold copX; rw [if_neg (show ¬ awayF (nI i) d ≤ f by rw [← hab]; exact nle_of_lt h61)])
          · refine r_aload0 hX dX5_copy_64 ?_
            refine g_wX_0_1 hX dX5_copy_65 ?_
            refine r_aload0 hX dX5_copy_68 ?_
            refine g_wX_0_6 hX dX5_copy_69 ?_
            refine r_iload3 hX dX5_copy_72 ?_
            refine r_aload0 hX dX5_copy_73 ?_
            refine g_wX_0_1 hX dX5_copy_74 ?_
            refine g_wX_3_0 hX dX5_copy_77 ?_
            refine r_iload4 hX dX5_copy_80 ?_
            refine l_wX_4 hX dX5_copy_82 hvy ?_
            refine r_push hX dX5_copy_83 ?_
            refine r_ixor hX dX5_copy_84 ?_
            refine r_iand hX dX5_copy_85 ?_
            refine r_cV1i hX dX5_copy_86 kX2_costOf fr_wX_wP_19_24 (c_X2_costOf l g _ _ _ C hC (by exact eC)) rfl (by decide) (Nat.le_of_ble_eq_true rfl) ?_
            refine r_cV1v hX dX5_copy_89 kX4_spend fr_wX_wS_3_5 (c_X4_spend l g _ _ _) rfl (by decide) (Nat.le_of_ble_eq_true rfl) ?_
            refine r_aload0 hX dX5_copy_92 ?_
            refine g_wX_0_1 hX dX5_copy_93 ?_
            refine g_wX_3_0 hX dX5_copy_96 ?_
            refine r_iload4 hX dX5_copy_99 ?_
            refine r_iload3 hX dX5_copy_101 ?_
            refine s_wX_4 hX dX5_copy_102 hvy ?_
            refine r_iinc4 hX dX5_copy_103 rfl ?_
            refine r_goto hX dX5_copy_106 ?_
            refine vJw (w' := wX g x a kp rd (su (aw nw 0 (upd mk (cl y) (nw.2 0 (cl d)))) 3 (payF sp (costF C (pl.2 4) (nw.2 0 (cl d) &&& (mk (cl y) ^^^ -1))))) i0 i1 fa bo pl dr) rfl ?_
            exact ih (i + 1) _ (upd mk (cl y) (nw.2 0 (cl d))) (payF sp (costF C (pl.2 4) (nw.2 0 (cl d) &&& (mk (cl y) ^^^ -1)))) (by rw [hx]; exact nI_1 i) (by omega) (by rw [hs]; show lp _ n (i + 1) (copX _ _ _ _ _ i (mk, sp)) = _; unfold copX; rw [if_pos (show awayF (nI i) d ≤ f by rw [← hab]; exact le_of_nlt h61), hcx])
      refine r_aload0 hX dX5_copy_0 ?_
      refine g_wX_0_6 hX dX5_copy_1 ?_
      refine r_iload1 hX dX5_copy_4 ?_
      refine r_cV1i hX dX5_copy_5 kX2_hasDoor fr_wX_wP_19_24 (c_X2_hasDoor l g _ _ _) rfl (by decide) (Nat.le_of_ble_eq_true rfl) ?_
      refine r_if_ne hX dX5_copy_8 (fun h8 => ?_) (fun h8 => absurd hd (bI_z h8))
      refine r_iload2 hX dX5_copy_14 ?_
      refine r_push hX dX5_copy_15 ?_
      refine r_ic_lt hX dX5_copy_16 (fun h16 => absurd h16 r1) (fun h16 => ?_)
      refine r_iload2 hX dX5_copy_19 ?_
      refine r_push hX dX5_copy_20 ?_
      refine r_ic_le hX dX5_copy_22 (fun h22 => ?_) (fun h22 => absurd r2 h22)
      refine r_aload0 hX dX5_copy_28 ?_
      refine g_wX_0_1 hX dX5_copy_29 ?_
      refine g_wX_3_0 hX dX5_copy_32 ?_
      refine r_iload1 hX dX5_copy_35 ?_
      refine l_wX_4 hX dX5_copy_36 hvd ?_
      refine r_istore3 hX dX5_copy_37 rfl ?_
      refine r_push hX dX5_copy_38 ?_
      refine r_istore4 hX dX5_copy_39 rfl ?_
      refine vJw (w' := wX g x a kp rd (su (aw nw 0 (nw.2 0)) 3 (nw.1 3)) i0 i1 fa bo pl dr) rfl ?_
      exact hL41 D 0 _ _ _ rfl (by omega) hsp.symm
    · have e0 : copXF D C (pl.2 4) (nw.2 0) (nw.1 3) d f = (-1000000002, nw.2 0, nw.1 3) := by unfold copXF; rw [if_pos (eD ▸ hd), if_neg hf]
      rw [e0] at hQ
      refine r_aload0 hX dX5_copy_0 ?_
      refine g_wX_0_6 hX dX5_copy_1 ?_
      refine r_iload1 hX dX5_copy_4 ?_
      refine r_cV1i hX dX5_copy_5 kX2_hasDoor fr_wX_wP_19_24 (c_X2_hasDoor l g _ _ _) rfl (by decide) (Nat.le_of_ble_eq_true rfl) ?_
      refine r_if_ne hX dX5_copy_8 (fun h8 => ?_) (fun h8 => absurd hd (bI_z h8))
      refine r_iload2 hX dX5_copy_14 ?_
      refine r_push hX dX5_copy_15 ?_
      refine r_ic_lt hX dX5_copy_16 (fun h16 => ?_) (fun h16 => ?_)
      · refine r_push hX dX5_copy_25 ?_
        exact r_iret hX hQ dX5_copy_27 (rfl) (rfl)
      · refine r_iload2 hX dX5_copy_19 ?_
        refine r_push hX dX5_copy_20 ?_
        refine r_ic_le hX dX5_copy_22 (fun h22 => absurd (inB_yes (a := 1) (z := 13) h16 h22 rfl rfl) hf) (fun h22 => ?_)
        refine r_push hX dX5_copy_25 ?_
        exact r_iret hX hQ dX5_copy_27 (rfl) (rfl)
  · have e0 : copXF D C (pl.2 4) (nw.2 0) (nw.1 3) d f = (-1000000001, nw.2 0, nw.1 3) := by unfold copXF; rw [if_neg (fun h => hd (eD ▸ h))]
    rw [e0] at hQ
    refine r_aload0 hX dX5_copy_0 ?_
    refine g_wX_0_6 hX dX5_copy_1 ?_
    refine r_iload1 hX dX5_copy_4 ?_
    refine r_cV1i hX dX5_copy_5 kX2_hasDoor fr_wX_wP_19_24 (c_X2_hasDoor l g _ _ _) rfl (by decide) (Nat.le_of_ble_eq_true rfl) ?_
    refine r_if_ne hX dX5_copy_8 (fun h8 => absurd (bI_nz h8) hd) (fun h8 => ?_)
    refine r_push hX dX5_copy_11 ?_
    exact r_iret hX hQ dX5_copy_13 (rfl) (rfl)
