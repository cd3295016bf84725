set_option maxHeartbeats 400000 in
theorem c_X5_forged (l : Launch) (g : GT) (x : Nat) (a : Nat → Nat → Nat) (kp : Int32) (rd : S2) (nw : S2) (i0 : S2) (i1 : S2) (fa : S2) (bo : S2) (pl : S2) (dr : S2) (u v : Int32) (D : Nat) (hD : D ≤ 14) (eD : pl.1 0 = nI D) : Cx l g yX5_forged cX5_forged 5 (some .int) (k2_rm 1 30) [.ref (x), .int u, .int v] (wX g x a kp rd nw i0 i1 fa bo pl dr) (some (.int (forgF D (nw.2 0) u v))) (wX g x a kp rd nw i0 i1 fa bo pl dr) := by
  refine meth (own := "ChalkedDoors") (by decide) rfl (Nat.le_of_ble_eq_true rfl) [some (.ref (x)), some (.int u), some (.int v), none, none] rfl (fun X hX hQ => ?_)
  unfold forgF at hQ
  generalize hsp : lp (forgC (nw.2 0) u v) D 0 0 = S at hQ
  have hL22 : ∀ (n i : Nat) (y : Int32) (r : Int32), y = nI i → i + n = D → inB u.toInt 0 15 ∧ inB v.toInt 0 15 → S = lp (forgC (nw.2 0) u v) n i r → vJ X 0 0 (wX g x a kp rd nw i0 i1 fa bo pl dr) 22 [some (.ref (x)), some (.int u), some (.int v), some (.int r), some (.int y)] [] := by
    intro n
    induction n with
    | zero =>
      intro i y r hx hn hab hs
      refine r_iload4 hX dX5_forged_22 ?_
      refine r_aload0 hX dX5_forged_24 ?_
      refine g_wX_0_6 hX dX5_forged_25 ?_
      refine g_wX_19_0 hX dX5_forged_28 ?_
      refine r_ic_ge hX dX5_forged_31 (fun h31 => ?_) (fun h31 => absurd (lpx (e := D) hx eD (by omega) (by omega) (by omega)) h31)
      refine r_iload3 hX dX5_forged_80 ?_
      exact r_iret hX hQ dX5_forged_81 (by rw [if_pos hab, hs] <;> rfl) (rfl)
    | succ n ih =>
      intro i y r hx hn hab hs
      have hvy : vp_in y 14 := by rw [hx]; exact vp_in_nI (by omega) (by omega)
      have hcx : cl y = i := by rw [hx]; exact nI_clamp (by omega)
      have hcx' : y.toNatClampNeg = i := hcx
      have hx' : y = nI (cl y) := by rw [hcx]; exact hx
      refine r_iload4 hX dX5_forged_22 ?_
      refine r_aload0 hX dX5_forged_24 ?_
      refine g_wX_0_6 hX dX5_forged_25 ?_
      refine g_wX_19_0 hX dX5_forged_28 ?_
      refine r_ic_ge hX dX5_forged_31 (fun h31 => absurd h31 (lpn (e := D) hx eD (by omega) (by omega))) (fun h31 => ?_)
      refine r_aload0 hX dX5_forged_34 ?_
      refine g_wX_0_1 hX dX5_forged_35 ?_
      refine g_wX_3_0 hX dX5_forged_38 ?_
      refine r_iload4 hX dX5_forged_41 ?_
      refine l_wX_4 hX dX5_forged_43 hvy ?_
      refine r_if_eq hX dX5_forged_44 (fun h44 => ?_) (fun h44 => ?_)
      · refine r_iinc4 hX dX5_forged_74 rfl ?_
        refine r_goto hX dX5_forged_77 ?_
        exact ih (i + 1) _ _ (by rw [hx]; exact nI_1 i) (by omega) hab (by rw [hs]; show lp _ n (i + 1) (forgC _ _ _ i r) = _; unfold forgC; rw [if_pos (Or.inl (by rw [← hcx]; exact h44))])
      · refine r_aload0 hX dX5_forged_47 ?_
        refine g_wX_0_1 hX dX5_forged_48 ?_
        refine g_wX_3_0 hX dX5_forged_51 ?_
        refine r_iload4 hX dX5_forged_54 ?_
        refine l_wX_4 hX dX5_forged_56 hvy ?_
        refine r_iload1 hX dX5_forged_57 ?_
        refine r_iload2 hX dX5_forged_58 ?_
        refine r_iload4 hX dX5_forged_59 ?_
        refine r_nS3i hX dX5_forged_61 kX5_sign (c_X5_sign l g _ _ _) (by decide) (Nat.le_of_ble_eq_true rfl) ?_
        refine r_ic_eq hX dX5_forged_64 (fun h64 => ?_) (fun h64 => ?_)
        · refine r_iinc4 hX dX5_forged_74 rfl ?_
          refine r_goto hX dX5_forged_77 ?_
          exact ih (i + 1) _ _ (by rw [hx]; exact nI_1 i) (by omega) hab (by rw [hs]; show lp _ n (i + 1) (forgC _ _ _ i r) = _; unfold forgC; rw [if_pos (Or.inr (by rw [← hcx, ← hx']; exact h64))])
        · refine r_iload3 hX dX5_forged_67 ?_
          refine r_push hX dX5_forged_68 ?_
          refine r_iload4 hX dX5_forged_69 ?_
          refine r_ishl hX dX5_forged_71 ?_
          refine r_ior hX dX5_forged_72 ?_
          refine r_istore3 hX dX5_forged_73 rfl ?_
          refine r_iinc4 hX dX5_forged_74 rfl ?_
          refine r_goto hX dX5_forged_77 ?_
          exact ih (i + 1) _ _ (by rw [hx]; exact nI_1 i) (by omega) hab (by rw [hs]; show lp _ n (i + 1) (forgC _ _ _ i r) = _; unfold forgC; rw [if_neg (fun h => h.elim (fun e => h44 (by rw [hcx']; exact e)) (fun e => h64 (by rw [hcx', hx]; exact e))), hx])
  refine r_iload1 hX dX5_forged_0 ?_
  refine r_nS1i hX dX5_forged_1 kX5_isKeyPart (c_X5_isKeyPart l g _) (by decide) (Nat.le_of_ble_eq_true rfl) ?_
  refine r_if_eq hX dX5_forged_4 (fun h4 => ?_) (fun h4 => ?_)
  · refine r_push hX dX5_forged_14 ?_
    exact r_iret hX hQ dX5_forged_16 (by rw [if_neg (fun q => bI_z h4 q.1)]) (rfl)
  · refine r_iload2 hX dX5_forged_7 ?_
    refine r_nS1i hX dX5_forged_8 kX5_isKeyPart (c_X5_isKeyPart l g _) (by decide) (Nat.le_of_ble_eq_true rfl) ?_
    refine r_if_ne hX dX5_forged_11 (fun h11 => ?_) (fun h11 => ?_)
    · refine r_push hX dX5_forged_17 ?_
      refine r_istore3 hX dX5_forged_18 rfl ?_
      refine r_push hX dX5_forged_19 ?_
      refine r_istore4 hX dX5_forged_20 rfl ?_
      exact hL22 D 0 _ _ rfl (by omega) ⟨bI_nz h4, bI_nz h11⟩ hsp.symm
    · refine r_push hX dX5_forged_14 ?_
      exact r_iret hX hQ dX5_forged_16 (by rw [if_neg (fun q => bI_z h11 q.2)]) (rfl)
set_option maxHeartbeats 400000 in
theorem c_X5_keyFits (l : Launch) (g : GT) (x : Nat) (a : Nat → Nat → Nat) (kp : Int32) (rd : S2) (nw : S2) (i0 : S2) (i1 : S2) (fa : S2) (bo : S2) (pl : S2) (dr : S2) (u v t : Int32) (D : Nat) (hD : D ≤ 14) (eD : pl.1 0 = nI D) : Cx l g yX5_keyFits cX5_keyFits 5 (some .boolean) (k2_rm 1 30) [.ref (x), .int u, .int v, .int t] (wX g x a kp rd nw i0 i1 fa bo pl dr) (some (.int (bI (keyP D (nw.2 0) t u v)))) (wX g x a kp rd nw i0 i1 fa bo pl dr) := by
  refine meth (own := "ChalkedDoors") (by decide) rfl (Nat.le_of_ble_eq_true rfl) [some (.ref (x)), some (.int u), some (.int v), some (.int t), none] rfl (fun X hX hQ => ?_)
  have hL3 : ∀ (n i : Nat) (y : Int32) , y = nI i → i + n = D → (keyP i (nw.2 0) t u v) → vJ X 0 0 (wX g x a kp rd nw i0 i1 fa bo pl dr) 3 [some (.ref (x)), some (.int u), some (.int v), some (.int t), some (.int y)] [] := by
    intro n
    induction n with
    | zero =>
      intro i y  hx hn hs
      refine r_iload4 hX dX5_keyFits_3 ?_
      refine r_aload0 hX dX5_keyFits_5 ?_
      refine g_wX_0_6 hX dX5_keyFits_6 ?_
      refine g_wX_19_0 hX dX5_keyFits_9 ?_
      refine r_ic_ge hX dX5_keyFits_12 (fun h12 => ?_) (fun h12 => absurd (lpx (e := D) hx eD (by omega) (by omega) (by omega)) h12)
      refine r_push hX dX5_keyFits_52 ?_
      exact r_zret hX hQ dX5_keyFits_53 rfl (by rw [bI_t (show keyP D (nw.2 0) t u v from fun k hk => hs k (by omega))]) (rfl)
    | succ n ih =>
      intro i y  hx hn hs
      have hvy : vp_in y 14 := by rw [hx]; exact vp_in_nI (by omega) (by omega)
      have hcx : cl y = i := by rw [hx]; exact nI_clamp (by omega)
      have hcx' : y.toNatClampNeg = i := hcx
      refine r_iload4 hX dX5_keyFits_3 ?_
      refine r_aload0 hX dX5_keyFits_5 ?_
      refine g_wX_0_6 hX dX5_keyFits_6 ?_
      refine g_wX_19_0 hX dX5_keyFits_9 ?_
      refine r_ic_ge hX dX5_keyFits_12 (fun h12 => absurd h12 (lpn (e := D) hx eD (by omega) (by omega))) (fun h12 => ?_)
      refine r_iload3 hX dX5_keyFits_15 ?_
      refine r_iload4 hX dX5_keyFits_16 ?_
      refine r_nS2i hX dX5_keyFits_18 kX5_has (c_X5_has l g _ _) (by decide) (Nat.le_of_ble_eq_true rfl) ?_
      refine r_if_eq hX dX5_keyFits_21 (fun h21 => ?_) (fun h21 => ?_)
      · refine r_iinc4 hX dX5_keyFits_46 rfl ?_
        refine r_goto hX dX5_keyFits_49 ?_
        exact ih (i + 1) _ (by rw [hx]; exact nI_1 i) (by omega) (ball_s.mpr ⟨hs, Or.inl (by rw [← hx]; exact bI_z h21)⟩)
      · refine r_aload0 hX dX5_keyFits_24 ?_
        refine g_wX_0_1 hX dX5_keyFits_25 ?_
        refine g_wX_3_0 hX dX5_keyFits_28 ?_
        refine r_iload4 hX dX5_keyFits_31 ?_
        refine l_wX_4 hX dX5_keyFits_33 hvy ?_
        refine r_iload1 hX dX5_keyFits_34 ?_
        refine r_iload2 hX dX5_keyFits_35 ?_
        refine r_iload4 hX dX5_keyFits_36 ?_
        refine r_nS3i hX dX5_keyFits_38 kX5_sign (c_X5_sign l g _ _ _) (by decide) (Nat.le_of_ble_eq_true rfl) ?_
        refine r_ic_eq hX dX5_keyFits_41 (fun h41 => ?_) (fun h41 => ?_)
        · refine r_iinc4 hX dX5_keyFits_46 rfl ?_
          refine r_goto hX dX5_keyFits_49 ?_
          exact ih (i + 1) _ (by rw [hx]; exact nI_1 i) (by omega) (ball_s.mpr ⟨hs, Or.inr (by rw [← hx, ← hcx']; exact h41)⟩)
        · refine r_push hX dX5_keyFits_44 ?_
          exact r_zret hX hQ dX5_keyFits_45 rfl (by rw [bI_f (show ¬ keyP D (nw.2 0) t u v from fun h => (h i (by omega)).elim (fun q => q (by rw [← hx]; exact bI_nz h21)) (fun q => h41 (by rw [hcx', q, hx])))]) (rfl)
  refine r_push hX dX5_keyFits_0 ?_
  refine r_istore4 hX dX5_keyFits_1 rfl ?_
  exact hL3 D 0 _ rfl (by omega) (fun k hk => absurd hk (Nat.not_lt_zero k))
set_option maxHeartbeats 400000 in
theorem c_X5_sameRow (l : Launch) (g : GT) (x : Nat) (a : Nat → Nat → Nat) (kp : Int32) (rd : S2) (nw : S2) (i0 : S2) (i1 : S2) (fa : S2) (bo : S2) (pl : S2) (dr : S2) (u v z : Int32) (A B L : Nat) (hA : u = nI A) (hB : v = nI B) (hL : z = nI L) (h1 : A + L ≤ 14) (h2 : B + L ≤ 14) : Cx l g yX5_sameRow cX5_sameRow 5 (some .boolean) (k2_rm 0 0) [.ref (x), .int u, .int v, .int z] (wX g x a kp rd nw i0 i1 fa bo pl dr) (some (.int (bI (sameP (nw.2 0) A B L)))) (wX g x a kp rd nw i0 i1 fa bo pl dr) := by
  refine meth (own := "ChalkedDoors") (by decide) rfl (Nat.le_of_ble_eq_true rfl) [some (.ref (x)), some (.int u), some (.int v), some (.int z), none] rfl (fun X hX hQ => ?_)
  have hL3 : ∀ (n i : Nat) (y : Int32) , y = nI i → i + n = L → (sameP (nw.2 0) A B i) → vJ X 0 0 (wX g x a kp rd nw i0 i1 fa bo pl dr) 3 [some (.ref (x)), some (.int u), some (.int v), some (.int z), some (.int y)] [] := by
    intro n
    induction n with
    | zero =>
      intro i y  hx hn hs
      refine r_iload4 hX dX5_sameRow_3 ?_
      refine r_iload3 hX dX5_sameRow_5 ?_
      refine r_ic_ge hX dX5_sameRow_6 (fun h6 => ?_) (fun h6 => absurd (lpx (e := L) hx hL (by omega) (by omega) (by omega)) h6)
      refine r_push hX dX5_sameRow_44 ?_
      exact r_zret hX hQ dX5_sameRow_45 rfl (by rw [bI_t (show sameP (nw.2 0) A B L from fun k hk => hs k (by omega))]) (rfl)
    | succ n ih =>
      intro i y  hx hn hs
      have e1 : (u + y).toNatClampNeg = A + i := by rw [hA, hx, nI_add]; exact nI_clamp (by omega)
      have e2 : (v + y).toNatClampNeg = B + i := by rw [hB, hx, nI_add]; exact nI_clamp (by omega)
      refine r_iload4 hX dX5_sameRow_3 ?_
      refine r_iload3 hX dX5_sameRow_5 ?_
      refine r_ic_ge hX dX5_sameRow_6 (fun h6 => absurd h6 (lpn (e := L) hx hL (by omega) (by omega))) (fun h6 => ?_)
      refine r_aload0 hX dX5_sameRow_9 ?_
      refine g_wX_0_1 hX dX5_sameRow_10 ?_
      refine g_wX_3_0 hX dX5_sameRow_13 ?_
      refine r_iload1 hX dX5_sameRow_16 ?_
      refine r_iload4 hX dX5_sameRow_17 ?_
      refine r_iadd hX dX5_sameRow_19 ?_
      refine l_wX_4 hX dX5_sameRow_20 (by rw [hA, hx, nI_add]; exact vp_in_nI (by omega) (by omega)) ?_
      refine r_aload0 hX dX5_sameRow_21 ?_
      refine g_wX_0_1 hX dX5_sameRow_22 ?_
      refine g_wX_3_0 hX dX5_sameRow_25 ?_
      refine r_iload2 hX dX5_sameRow_28 ?_
      refine r_iload4 hX dX5_sameRow_29 ?_
      refine r_iadd hX dX5_sameRow_31 ?_
      refine l_wX_4 hX dX5_sameRow_32 (by rw [hB, hx, nI_add]; exact vp_in_nI (by omega) (by omega)) ?_
      refine r_ic_eq hX dX5_sameRow_33 (fun h33 => ?_) (fun h33 => ?_)
      · refine r_iinc4 hX dX5_sameRow_38 rfl ?_
        refine r_goto hX dX5_sameRow_41 ?_
        exact ih (i + 1) _ (by rw [hx]; exact nI_1 i) (by omega) (sameP_s.mpr ⟨hs, by rw [← e1, ← e2]; exact h33⟩)
      · refine r_push hX dX5_sameRow_36 ?_
        exact r_zret hX hQ dX5_sameRow_37 rfl (by rw [bI_f (show ¬ sameP (nw.2 0) A B L from fun h => h33 (by rw [e1, e2]; exact h i (by omega)))]) (rfl)
  refine r_push hX dX5_sameRow_0 ?_
  refine r_istore4 hX dX5_sameRow_1 rfl ?_
  exact hL3 L 0 _ rfl (by omega) (fun k hk => absurd hk (Nat.not_lt_zero k))
