set_option maxHeartbeats 400000 in
theorem c_X6_areLike (l : Launch) (g : GT) (b : Nat → Nat) (σ : S2) (u v z : Int32) (A B L : Nat) (hA : u = nI A) (hB : v = nI B) (hL : z = nI L) (h1 : A + L ≤ 14) (h2 : B + L ≤ 14) : Cx l g yX6_areLike cX6_areLike 6 (some .boolean) (k2_rm 0 0) [.ref (b 0), .int u, .int v, .int z] (wM g b σ) (some (.int (bI (sameP (σ.2 9) A B L)))) (wM g b σ) := by
  refine meth (own := "ChalkedDoorsModel") (by decide) rfl (Nat.le_of_ble_eq_true rfl) [some (.ref (b 0)), some (.int u), some (.int v), some (.int z), none, none] rfl (fun X hX hQ => ?_)
  have hL6 : ∀ (n i : Nat) (x : Int32) (r : Int32), x = nI i → i + n = L → r = bI (sameP (σ.2 9) A B i) → vJ X 0 0 (wM g b σ) 6 [some (.ref (b 0)), some (.int u), some (.int v), some (.int z), some (.int r), some (.int x)] [] := by
    intro n
    induction n with
    | zero =>
      intro i x r hx hn hs
      refine r_iload5 hX dX6_areLike_6 ?_
      refine r_iload3 hX dX6_areLike_8 ?_
      refine r_ic_ge hX dX6_areLike_9 (fun h9 => ?_) (fun h9 => absurd (lpx (e := L) hx hL (by omega) (by omega) (by omega)) h9)
      refine r_iload4 hX dX6_areLike_51 ?_
      exact r_zret hX hQ dX6_areLike_53 (by rw [hs]; exact bI_n) (by rw [hs, show i = L by omega]) (rfl)
    | succ n ih =>
      intro i x r hx hn hs
      have e1 : (u + x).toNatClampNeg = A + i := by rw [hA, hx, nI_add]; exact nI_clamp (by omega)
      have e2 : (v + x).toNatClampNeg = B + i := by rw [hB, hx, nI_add]; exact nI_clamp (by omega)
      refine r_iload5 hX dX6_areLike_6 ?_
      refine r_iload3 hX dX6_areLike_8 ?_
      refine r_ic_ge hX dX6_areLike_9 (fun h9 => absurd h9 (lpn (e := L) hx hL (by omega) (by omega))) (fun h9 => ?_)
      refine r_iload4 hX dX6_areLike_12 ?_
      refine r_if_eq hX dX6_areLike_14 (fun h14 => ?_) (fun h14 => ?_)
      · refine r_push hX dX6_areLike_42 ?_
        refine r_istore4 hX dX6_areLike_43 rfl ?_
        refine r_iinc5 hX dX6_areLike_45 rfl ?_
        refine r_goto hX dX6_areLike_48 ?_
        exact ih (i + 1) _ 0 (by rw [hx]; exact nI_1 i) (by omega) (bI_f (fun h => bI_z (hs ▸ h14) (sameP_s.mp h).1)).symm
      · refine r_aload0 hX dX6_areLike_17 ?_
        refine g_wM_0_9 hX dX6_areLike_18 ?_
        refine r_iload1 hX dX6_areLike_21 ?_
        refine r_iload5 hX dX6_areLike_22 ?_
        refine r_iadd hX dX6_areLike_24 ?_
        refine l_wM_5 hX dX6_areLike_25 (by rw [hA, hx, nI_add]; exact vp_in_nI (by omega) (by omega)) ?_
        refine r_aload0 hX dX6_areLike_26 ?_
        refine g_wM_0_9 hX dX6_areLike_27 ?_
        refine r_iload2 hX dX6_areLike_30 ?_
        refine r_iload5 hX dX6_areLike_31 ?_
        refine r_iadd hX dX6_areLike_33 ?_
        refine l_wM_5 hX dX6_areLike_34 (by rw [hB, hx, nI_add]; exact vp_in_nI (by omega) (by omega)) ?_
        refine r_ic_ne hX dX6_areLike_35 (fun h35 => ?_) (fun h35 => ?_)
        · refine r_push hX dX6_areLike_42 ?_
          refine r_istore4 hX dX6_areLike_43 rfl ?_
          refine r_iinc5 hX dX6_areLike_45 rfl ?_
          refine r_goto hX dX6_areLike_48 ?_
          exact ih (i + 1) _ 0 (by rw [hx]; exact nI_1 i) (by omega) (bI_f (fun h => h35 (by rw [e1, e2]; exact (sameP_s.mp h).2))).symm
        · refine r_push hX dX6_areLike_38 ?_
          refine r_goto hX dX6_areLike_39 ?_
          refine r_istore4 hX dX6_areLike_43 rfl ?_
          refine r_iinc5 hX dX6_areLike_45 rfl ?_
          refine r_goto hX dX6_areLike_48 ?_
          exact ih (i + 1) _ 1 (by rw [hx]; exact nI_1 i) (by omega) (bI_t (sameP_s.mpr ⟨bI_nz (hs ▸ h14), by rw [← e1, ← e2]; exact h35⟩)).symm
  refine r_push hX dX6_areLike_0 ?_
  refine r_istore4 hX dX6_areLike_1 rfl ?_
  refine r_push hX dX6_areLike_3 ?_
  refine r_istore5 hX dX6_areLike_4 rfl ?_
  exact hL6 L 0 _ _ rfl (by omega) (bI_t (fun k hk => absurd hk (Nat.not_lt_zero k))).symm
set_option maxHeartbeats 400000 in
theorem c_X6_windowsOf (l : Launch) (g : GT) (b : Nat → Nat) (σ : S2) (z : Int32) (D : Nat) (hD : D ≤ 14) (eD : σ.1 0 = nI D) (L : Nat) (hL : z = nI L) (h1 : 1 ≤ L) (h2 : L ≤ D) : Cx l g yX6_windowsOf cX6_windowsOf 6 (some .int) (k2_rm 1 30) [.ref (b 0), .int z] (wM g b σ) (some (.int (winF (D + 1 - L) (σ.2 9) L))) (wM g b σ) := by
  refine meth (own := "ChalkedDoorsModel") (by decide) rfl (Nat.le_of_ble_eq_true rfl) [some (.ref (b 0)), some (.int z), none, none, none, none] rfl (fun X hX hQ => ?_)
  obtain ⟨E, hE⟩ : ∃ E, E = D + 1 - L := ⟨_, rfl⟩
  rw [← hE] at hQ
  generalize hsp : winF E (σ.2 9) L = S at hQ
  unfold winF at hsp
  have hL4 : ∀ (n i : Nat) (x : Int32) (r : Int32), x = nI i → i + n = E → S = lp (fun a n => n + bI (cntF E (σ.2 9) L a = 1)) n i r → vJ X 0 0 (wM g b σ) 4 [some (.ref (b 0)), some (.int z), some (.int r), some (.int x), none, none] [] := by
    intro n
    induction n with
    | zero =>
      intro i x r hx hn hs
      refine r_iload3 hX dX6_windowsOf_4 ?_
      refine r_iload1 hX dX6_windowsOf_5 ?_
      refine r_iadd hX dX6_windowsOf_6 ?_
      refine r_aload0 hX dX6_windowsOf_7 ?_
      refine g_wM_0_0 hX dX6_windowsOf_8 ?_
      refine r_ic_gt hX dX6_windowsOf_11 (fun h11 => ?_) (fun h11 => absurd (wgx hx hL eD (by omega) (by omega)) h11)
      refine r_iload2 hX dX6_windowsOf_78 ?_
      exact r_iret hX hQ dX6_windowsOf_79 (by rw [hs] <;> rfl) (rfl)
    | succ n ih =>
      intro i x r hx hn hs
      have hL20 : ∀ (n2 i2 : Nat) (y : Int32) (m : Int32), y = nI i2 → i2 + n2 = E → cntF E (σ.2 9) L i = lp (fun b m => m + bI (sameP (σ.2 9) i b L)) n2 i2 m → vJ X 0 0 (wM g b σ) 20 [some (.ref (b 0)), some (.int z), some (.int r), some (.int x), some (.int m), some (.int y)] [] := by
        intro n2
        induction n2 with
        | zero =>
          intro i2 y m hx2 hn2 hT
          refine r_iload5 hX dX6_windowsOf_20 ?_
          refine r_iload1 hX dX6_windowsOf_22 ?_
          refine r_iadd hX dX6_windowsOf_23 ?_
          refine r_aload0 hX dX6_windowsOf_24 ?_
          refine g_wM_0_0 hX dX6_windowsOf_25 ?_
          refine r_ic_gt hX dX6_windowsOf_28 (fun h28 => ?_) (fun h28 => absurd (wgx hx2 hL eD (by omega) (by omega)) h28)
          refine r_iload2 hX dX6_windowsOf_58 ?_
          refine r_iload4 hX dX6_windowsOf_59 ?_
          refine r_push hX dX6_windowsOf_61 ?_
          refine r_ic_ne hX dX6_windowsOf_62 (fun h62 => ?_) (fun h62 => ?_)
          · refine r_push hX dX6_windowsOf_69 ?_
            refine r_iadd hX dX6_windowsOf_70 ?_
            refine r_istore2 hX dX6_windowsOf_71 rfl ?_
            refine r_iinc3 hX dX6_windowsOf_72 rfl ?_
            refine r_goto hX dX6_windowsOf_75 ?_
            refine r_fg4 (r_fg5 ?_)
            exact ih (i + 1) _ _ (by rw [hx]; exact nI_1 i) (by omega) (by rw [hs]; show lp _ n (i + 1) (r + bI _) = _; rw [bI_f (show ¬ cntF E (σ.2 9) L i = 1 from fun h => h62 (hT.symm.trans h))])
          · refine r_push hX dX6_windowsOf_65 ?_
            refine r_goto hX dX6_windowsOf_66 ?_
            refine r_iadd hX dX6_windowsOf_70 ?_
            refine r_istore2 hX dX6_windowsOf_71 rfl ?_
            refine r_iinc3 hX dX6_windowsOf_72 rfl ?_
            refine r_goto hX dX6_windowsOf_75 ?_
            refine r_fg4 (r_fg5 ?_)
            exact ih (i + 1) _ _ (by rw [hx]; exact nI_1 i) (by omega) (by rw [hs]; show lp _ n (i + 1) (r + bI _) = _; rw [bI_t (show cntF E (σ.2 9) L i = 1 from hT.trans h62)])
        | succ n2 ih2 =>
          intro i2 y m hx2 hn2 hT
          refine r_iload5 hX dX6_windowsOf_20 ?_
          refine r_iload1 hX dX6_windowsOf_22 ?_
          refine r_iadd hX dX6_windowsOf_23 ?_
          refine r_aload0 hX dX6_windowsOf_24 ?_
          refine g_wM_0_0 hX dX6_windowsOf_25 ?_
          refine r_ic_gt hX dX6_windowsOf_28 (fun h28 => absurd h28 (wgn hx2 hL eD (by omega) (by omega))) (fun h28 => ?_)
          refine r_iload4 hX dX6_windowsOf_31 ?_
          refine r_aload0 hX dX6_windowsOf_33 ?_
          refine r_iload3 hX dX6_windowsOf_34 ?_
          refine r_iload5 hX dX6_windowsOf_35 ?_
          refine r_iload1 hX dX6_windowsOf_37 ?_
          refine r_aV3i hX dX6_windowsOf_38 kX6_areLike (c_X6_areLike l g _ _ _ _ _ i i2 L hx hx2 hL (by omega) (by omega)) ad_wM rfl (by decide) (Nat.le_of_ble_eq_true rfl) ?_
          refine r_if_eq hX dX6_windowsOf_41 (fun h41 => ?_) (fun h41 => ?_)
          · refine r_push hX dX6_windowsOf_48 ?_
            refine r_iadd hX dX6_windowsOf_49 ?_
            refine r_istore4 hX dX6_windowsOf_50 rfl ?_
            refine r_iinc5 hX dX6_windowsOf_52 rfl ?_
            refine r_goto hX dX6_windowsOf_55 ?_
            exact ih2 (i2 + 1) _ _ (by rw [hx2]; exact nI_1 i2) (by omega) (by rw [hT]; show lp _ n2 (i2 + 1) (m + bI _) = _; rw [bI_f (bI_z h41)])
          · refine r_push hX dX6_windowsOf_44 ?_
            refine r_goto hX dX6_windowsOf_45 ?_
            refine r_iadd hX dX6_windowsOf_49 ?_
            refine r_istore4 hX dX6_windowsOf_50 rfl ?_
            refine r_iinc5 hX dX6_windowsOf_52 rfl ?_
            refine r_goto hX dX6_windowsOf_55 ?_
            exact ih2 (i2 + 1) _ _ (by rw [hx2]; exact nI_1 i2) (by omega) (by rw [hT]; show lp _ n2 (i2 + 1) (m + bI _) = _; rw [bI_t (bI_nz h41)])
      refine r_iload3 hX dX6_windowsOf_4 ?_
      refine r_iload1 hX dX6_windowsOf_5 ?_
      refine r_iadd hX dX6_windowsOf_6 ?_
      refine r_aload0 hX dX6_windowsOf_7 ?_
      refine g_wM_0_0 hX dX6_windowsOf_8 ?_
      refine r_ic_gt hX dX6_windowsOf_11 (fun h11 => absurd h11 (wgn hx hL eD (by omega) (by omega))) (fun h11 => ?_)
      refine r_push hX dX6_windowsOf_14 ?_
      refine r_istore4 hX dX6_windowsOf_15 rfl ?_
      refine r_push hX dX6_windowsOf_17 ?_
      refine r_istore5 hX dX6_windowsOf_18 rfl ?_
      exact hL20 E 0 _ _ rfl (by omega) rfl
  refine r_push hX dX6_windowsOf_0 ?_
  refine r_istore2 hX dX6_windowsOf_1 rfl ?_
  refine r_push hX dX6_windowsOf_2 ?_
  refine r_istore3 hX dX6_windowsOf_3 rfl ?_
  exact hL4 E 0 _ _ rfl (by omega) hsp.symm
set_option maxHeartbeats 400000 in
theorem c_X6_windows (l : Launch) (g : GT) (b : Nat → Nat) (σ : S2) (z : Int32) (D : Nat) (hD : D ≤ 14) (eD : σ.1 0 = nI D) : Cx l g yX6_windows cX6_windows 2 (some .int) (k2_rm 2 60) [.ref (b 0), .int z] (wM g b σ) (some (.int (if inB z.toInt 1 D then winF (D + 1 - cl z) (σ.2 9) (cl z) else -1000000002))) (wM g b σ) := by
  refine meth (own := "ChalkedDoorsModel") (by decide) rfl (Nat.le_of_ble_eq_true rfl) [some (.ref (b 0)), some (.int z)] rfl (fun X hX hQ => ?_)
  refine r_iload1 hX dX6_windows_0 ?_
  refine r_i2l hX dX6_windows_1 ?_
  refine r_pushl hX dX6_windows_2 ?_
  refine r_aload0 hX dX6_windows_3 ?_
  refine g_wM_0_0 hX dX6_windows_4 ?_
  refine r_i2l hX dX6_windows_7 ?_
  refine r_nS3i hX dX6_windows_8 kX6_in (c_X6_in l g _ _ _) (by decide) (Nat.le_of_ble_eq_true rfl) ?_
  refine r_if_eq hX dX6_windows_11 (fun h11 => ?_) (fun h11 => ?_)
  · refine r_push hX dX6_windows_22 ?_
    exact r_iret hX hQ dX6_windows_24 (by rw [if_neg (fun h => bI_z h11 (by rw [Int32.toInt_toInt64, Int32.toInt_toInt64, eD, nI_toInt (by omega)]; exact h))]) (rfl)
  · have hz : inB z.toInt 1 D := by have q := bI_nz h11; rw [Int32.toInt_toInt64, Int32.toInt_toInt64, eD, nI_toInt (by omega)] at q; exact q
    obtain ⟨ez, ez2⟩ := clN hz (by decide)
    refine r_aload0 hX dX6_windows_14 ?_
    refine r_iload1 hX dX6_windows_15 ?_
    refine r_aV1i hX dX6_windows_16 kX6_windowsOf (c_X6_windowsOf l g _ _ _ D hD eD (cl z) ez (by have := hz.1; omega) (by have := hz.2; omega)) ad_wM rfl (by decide) (Nat.le_of_ble_eq_true rfl) ?_
    refine r_goto hX dX6_windows_19 ?_
    exact r_iret hX hQ dX6_windows_24 (by rw [if_pos hz]) (rfl)
set_option maxHeartbeats 400000 in
theorem c_X6_leastWindow (l : Launch) (g : GT) (b : Nat → Nat) (σ : S2)  (D : Nat) (hD : D ≤ 14) (eD : σ.1 0 = nI D) : Cx l g yX6_leastWindow cX6_leastWindow 2 (some .int) (k2_rm 2 60) [.ref (b 0)] (wM g b σ) (some (.int (lwF D (σ.2 9)))) (wM g b σ) := by
  refine meth (own := "ChalkedDoorsModel") (by decide) rfl (Nat.le_of_ble_eq_true rfl) [some (.ref (b 0)), none] rfl (fun X hX hQ => ?_)
  generalize hsp : lwF D (σ.2 9) = S at hQ
  unfold lwF at hsp
  have hL2 : ∀ (n i : Nat) (x : Int32) , x = nI i → i + n = D + 1 → 1 ≤ i → S = ffF (fun L => if winF (D + 1 - L) (σ.2 9) L = nI D - nI L + 1 then some (nI L) else none) n i → vJ X 0 0 (wM g b σ) 2 [some (.ref (b 0)), some (.int x)] [] := by
    intro n
    induction n with
    | zero =>
      intro i x  hx hn h1 hs
      refine r_iload1 hX dX6_leastWindow_2 ?_
      refine r_aload0 hX dX6_leastWindow_3 ?_
      refine g_wM_0_0 hX dX6_leastWindow_4 ?_
      refine r_ic_gt hX dX6_leastWindow_7 (fun h7 => ?_) (fun h7 => absurd (lgx (e := D) hx eD (by omega) (by omega)) h7)
      refine r_push hX dX6_leastWindow_34 ?_
      exact r_iret hX hQ dX6_leastWindow_35 (by rw [hs] <;> rfl) (rfl)
    | succ n ih =>
      intro i x  hx hn h1 hs
      refine r_iload1 hX dX6_leastWindow_2 ?_
      refine r_aload0 hX dX6_leastWindow_3 ?_
      refine g_wM_0_0 hX dX6_leastWindow_4 ?_
      refine r_ic_gt hX dX6_leastWindow_7 (fun h7 => absurd h7 (lgn (e := D) hx eD (by omega) (by omega))) (fun h7 => ?_)
      refine r_aload0 hX dX6_leastWindow_10 ?_
      refine r_iload1 hX dX6_leastWindow_11 ?_
      refine r_aV1i hX dX6_leastWindow_12 kX6_windowsOf (c_X6_windowsOf l g _ _ _ D hD eD i hx h1 (by omega)) ad_wM rfl (by decide) (Nat.le_of_ble_eq_true rfl) ?_
      refine r_aload0 hX dX6_leastWindow_15 ?_
      refine g_wM_0_0 hX dX6_leastWindow_16 ?_
      refine r_iload1 hX dX6_leastWindow_19 ?_
      refine r_isub hX dX6_leastWindow_20 ?_
      refine r_push hX dX6_leastWindow_21 ?_
      refine r_iadd hX dX6_leastWindow_22 ?_
      refine r_ic_ne hX dX6_leastWindow_23 (fun h23 => ?_) (fun h23 => ?_)
      · refine r_iinc1 hX dX6_leastWindow_28 rfl ?_
        refine r_goto hX dX6_leastWindow_31 ?_
        exact ih (i + 1) _ (by rw [hx]; exact nI_1 i) (by omega) (by omega) (by rw [hs, ffF_none (if_neg (by rw [← hx, ← eD]; exact h23))])
      · refine r_iload1 hX dX6_leastWindow_26 ?_
        exact r_iret hX hQ dX6_leastWindow_27 (by rw [hs, ffF_some (if_pos (by rw [← hx, ← eD]; exact h23)), hx]) (rfl)
  refine r_push hX dX6_leastWindow_0 ?_
  refine r_istore1 hX dX6_leastWindow_1 rfl ?_
  exact hL2 D 1 _ rfl (by omega) (by decide) hsp.symm
set_option maxHeartbeats 400000 in
theorem c_X6_stayOf (l : Launch) (g : GT) (b : Nat → Nat) (σ : S2) (c z : Int32) (hc : vp_in c 4) (N : Nat) (hN : z = nI N) (hN9 : N ≤ 9) : Cx l g yX6_stayOf cX6_stayOf 5 (some .int) (k2_rm 1 30) [.ref (b 0), .int c, .int z] (wM g b σ) (some (.int (stF (wshF (σ.2 2 (cl c)) (σ.2 3 (cl c))) N))) (wM g b σ) := by
  refine meth (own := "ChalkedDoorsModel") (by decide) rfl (Nat.le_of_ble_eq_true rfl) [some (.ref (b 0)), some (.int c), some (.int z), none, none] rfl (fun X hX hQ => ?_)
  generalize hw : wshF (σ.2 2 (cl c)) (σ.2 3 (cl c)) = wb at hQ
  generalize hsp : stF wb N = S at hQ
  rw [stF_eq] at hsp
  have hL7 : ∀ (n i : Nat) (x : Int32) (r : Int32), x = nI i → i + n = N → S = lp (fun _ p => p * (8 - wb) / 8) n i r → vJ X 0 0 (wM g b σ) 7 [some (.ref (b 0)), some (.int c), some (.int z), some (.int r), some (.int x)] [] := by
    intro n
    induction n with
    | zero =>
      intro i x r hx hn hs
      refine r_iload4 hX dX6_stayOf_7 ?_
      refine r_iload2 hX dX6_stayOf_9 ?_
      refine r_ic_ge hX dX6_stayOf_10 (fun h10 => ?_) (fun h10 => absurd (lpx (e := N) hx hN (by omega) (by omega) (by omega)) h10)
      refine r_iload3 hX dX6_stayOf_33 ?_
      exact r_iret hX hQ dX6_stayOf_34 (by rw [hs] <;> rfl) (rfl)
    | succ n ih =>
      intro i x r hx hn hs
      refine r_iload4 hX dX6_stayOf_7 ?_
      refine r_iload2 hX dX6_stayOf_9 ?_
      refine r_ic_ge hX dX6_stayOf_10 (fun h10 => absurd h10 (lpn (e := N) hx hN (by omega) (by omega))) (fun h10 => ?_)
      refine r_iload3 hX dX6_stayOf_13 ?_
      refine r_push hX dX6_stayOf_14 ?_
      refine r_aload0 hX dX6_stayOf_16 ?_
      refine r_iload1 hX dX6_stayOf_17 ?_
      refine r_aV1i hX dX6_stayOf_18 kX6_washedBy (c_X6_washedBy l g _ _ _ hc) ad_wM rfl (by decide) (Nat.le_of_ble_eq_true rfl) ?_
      refine r_isub hX dX6_stayOf_21 ?_
      refine r_imul hX dX6_stayOf_22 ?_
      refine r_push hX dX6_stayOf_23 ?_
      refine r_idiv hX dX6_stayOf_25 (by decide) ?_
      refine r_istore3 hX dX6_stayOf_26 rfl ?_
      refine r_iinc4 hX dX6_stayOf_27 rfl ?_
      refine r_goto hX dX6_stayOf_30 ?_
      exact ih (i + 1) _ _ (by rw [hx]; exact nI_1 i) (by omega) (by rw [hs, ← hw]; rfl)
  refine r_push hX dX6_stayOf_0 ?_
  refine r_istore3 hX dX6_stayOf_3 rfl ?_
  refine r_push hX dX6_stayOf_4 ?_
  refine r_istore4 hX dX6_stayOf_5 rfl ?_
  exact hL7 N 0 _ _ rfl (by omega) hsp.symm
set_option maxHeartbeats 400000 in
theorem c_X6_weightOf (l : Launch) (g : GT) (b : Nat → Nat) (σ : S2) (t z d : Int32) (C : Nat) (hC : C ≤ 4) (eC : σ.1 1 = nI C) (hd : vp_in d 14) (N : Nat) (hN : z = nI N) (hN9 : N ≤ 9) : Cx l g yX6_weightOf cX6_weightOf 9 (some .long) (k2_rm 2 60) [.ref (b 0), .int t, .int z, .int d] (wM g b σ) (some (.long (wtF C (fun c => wshF (σ.2 2 c) (σ.2 3 c)) (σ.2 5) (σ.2 9 (cl d)) t N))) (wM g b σ) := by
  refine meth (own := "ChalkedDoorsModel") (by decide) rfl (Nat.le_of_ble_eq_true rfl) [some (.ref (b 0)), some (.int t), some (.int z), some (.int d), none, none, none, none, none] rfl (fun X hX hQ => ?_)
  generalize hsp : wtF C (fun c => wshF (σ.2 2 c) (σ.2 3 c)) (σ.2 5) (σ.2 9 (cl d)) t N = S at hQ
  unfold wtF at hsp
  have hL8 : ∀ (n i : Nat) (x : Int32) (w : Int64) (o7 o8 : Option Value), x = nI i → i + n = C → S = lp (wtC (fun c => wshF (σ.2 2 c) (σ.2 3 c)) (σ.2 5) (σ.2 9 (cl d)) t N) n i w → vJ X 0 0 (wM g b σ) 8 [some (.ref (b 0)), some (.int t), some (.int z), some (.int d), some (.long w), none, some (.int x), o7, o8] [] := by
    intro n
    induction n with
    | zero =>
      intro i x w o7 o8 hx hn hs
      refine r_iload6 hX dX6_weightOf_8 ?_
      refine r_aload0 hX dX6_weightOf_10 ?_
      refine g_wM_0_1 hX dX6_weightOf_11 ?_
      refine r_ic_ge hX dX6_weightOf_14 (fun h14 => ?_) (fun h14 => absurd (lpx (e := C) hx eC (by omega) (by omega) (by omega)) h14)
      refine r_lload4 hX dX6_weightOf_118 ?_
      exact r_lret hX hQ dX6_weightOf_120 (by rw [hs] <;> rfl) (rfl)
    | succ n ih =>
      intro i x w o7 o8 hx hn hs
      have hvx : vp_in x 4 := by rw [hx]; exact vp_in_nI (by omega) (by omega)
      have hcx : cl x = i := by rw [hx]; exact nI_clamp (by omega)
      have hx0 : x = nI (cl x) := by rw [hcx]; exact hx
      refine r_iload6 hX dX6_weightOf_8 ?_
      refine r_aload0 hX dX6_weightOf_10 ?_
      refine g_wM_0_1 hX dX6_weightOf_11 ?_
      refine r_ic_ge hX dX6_weightOf_14 (fun h14 => absurd h14 (lpn (e := C) hx eC (by omega) (by omega))) (fun h14 => ?_)
      refine r_aload0 hX dX6_weightOf_17 ?_
      refine g_wM_0_9 hX dX6_weightOf_18 ?_
      refine r_iload3 hX dX6_weightOf_21 ?_
      refine l_wM_5 hX dX6_weightOf_22 hd ?_
      refine r_iload6 hX dX6_weightOf_23 ?_
      refine r_nS2i hX dX6_weightOf_25 kX6_has (c_X6_has l g _ _) (by decide) (Nat.le_of_ble_eq_true rfl) ?_
      refine r_istore7 hX dX6_weightOf_28 rfl ?_
      refine r_iload1 hX dX6_weightOf_30 ?_
      refine r_iload6 hX dX6_weightOf_31 ?_
      refine r_nS2i hX dX6_weightOf_33 kX6_has (c_X6_has l g _ _) (by decide) (Nat.le_of_ble_eq_true rfl) ?_
      refine r_if_eq hX dX6_weightOf_36 (fun h36 => ?_) (fun h36 => ?_)
      · refine r_lload4 hX dX6_weightOf_77 ?_
        refine r_iload7 hX dX6_weightOf_79 ?_
        refine r_if_eq hX dX6_weightOf_81 (fun h81 => ?_) (fun h81 => ?_)
        · refine r_push hX dX6_weightOf_94 ?_
          refine r_aload0 hX dX6_weightOf_96 ?_
          refine g_wM_0_5 hX dX6_weightOf_97 ?_
          refine r_iload6 hX dX6_weightOf_100 ?_
          refine l_wM_4 hX dX6_weightOf_102 hvx ?_
          refine r_isub hX dX6_weightOf_103 ?_
          refine r_i2l hX dX6_weightOf_104 ?_
          refine r_lmul hX dX6_weightOf_105 ?_
          refine r_pushl hX dX6_weightOf_106 ?_
          refine r_ldiv hX dX6_weightOf_109 (by decide) ?_
          refine r_lstore4 hX dX6_weightOf_110 rfl ?_
          refine r_iinc6 hX dX6_weightOf_112 rfl ?_
          refine r_goto hX dX6_weightOf_115 ?_
          subst hcx
          exact ih (cl x + 1) _ _ _ _ (by rw [← nI_1, ← hx0]) (by omega) (by rw [hs]; show lp _ n (cl x + 1) (wtC _ _ _ _ _ (cl x) w) = _; unfold wtC; rw [if_neg (show ¬ hb t (nI (cl x)) by rw [← hx0]; exact bI_z h36), if_neg (show ¬ hb (σ.2 9 (cl d)) (nI (cl x)) by rw [← hx0]; exact bI_z h81), w2F_eq])
        · refine r_aload0 hX dX6_weightOf_84 ?_
          refine g_wM_0_5 hX dX6_weightOf_85 ?_
          refine r_iload6 hX dX6_weightOf_88 ?_
          refine l_wM_4 hX dX6_weightOf_90 hvx ?_
          refine r_goto hX dX6_weightOf_91 ?_
          refine r_i2l hX dX6_weightOf_104 ?_
          refine r_lmul hX dX6_weightOf_105 ?_
          refine r_pushl hX dX6_weightOf_106 ?_
          refine r_ldiv hX dX6_weightOf_109 (by decide) ?_
          refine r_lstore4 hX dX6_weightOf_110 rfl ?_
          refine r_iinc6 hX dX6_weightOf_112 rfl ?_
          refine r_goto hX dX6_weightOf_115 ?_
          subst hcx
          exact ih (cl x + 1) _ _ _ _ (by rw [← nI_1, ← hx0]) (by omega) (by rw [hs]; show lp _ n (cl x + 1) (wtC _ _ _ _ _ (cl x) w) = _; unfold wtC; rw [if_neg (show ¬ hb t (nI (cl x)) by rw [← hx0]; exact bI_z h36), if_pos (show hb (σ.2 9 (cl d)) (nI (cl x)) by rw [← hx0]; exact bI_nz h81), w2F_eq])
      · refine r_aload0 hX dX6_weightOf_39 ?_
        refine r_iload6 hX dX6_weightOf_40 ?_
        refine r_iload2 hX dX6_weightOf_42 ?_
        refine r_aV2i hX dX6_weightOf_43 kX6_stayOf (c_X6_stayOf l g _ _ _ _ hvx N hN hN9) ad_wM rfl (by decide) (Nat.le_of_ble_eq_true rfl) ?_
        refine r_istore8 hX dX6_weightOf_46 rfl ?_
        refine r_lload4 hX dX6_weightOf_48 ?_
        refine r_iload7 hX dX6_weightOf_50 ?_
        refine r_if_eq hX dX6_weightOf_52 (fun h52 => ?_) (fun h52 => ?_)
        · refine r_push hX dX6_weightOf_60 ?_
          refine r_iload8 hX dX6_weightOf_63 ?_
          refine r_isub hX dX6_weightOf_65 ?_
          refine r_i2l hX dX6_weightOf_66 ?_
          refine r_lmul hX dX6_weightOf_67 ?_
          refine r_pushl hX dX6_weightOf_68 ?_
          refine r_ldiv hX dX6_weightOf_71 (by decide) ?_
          refine r_lstore4 hX dX6_weightOf_72 rfl ?_
          refine r_goto hX dX6_weightOf_74 ?_
          refine r_iinc6 hX dX6_weightOf_112 rfl ?_
          refine r_goto hX dX6_weightOf_115 ?_
          subst hcx
          exact ih (cl x + 1) _ _ _ _ (by rw [← nI_1, ← hx0]) (by omega) (by rw [hs]; show lp _ n (cl x + 1) (wtC _ _ _ _ _ (cl x) w) = _; unfold wtC; rw [if_pos (show hb t (nI (cl x)) by rw [← hx0]; exact bI_nz h36), if_neg (show ¬ hb (σ.2 9 (cl d)) (nI (cl x)) by rw [← hx0]; exact bI_z h52), w1F_eq])
        · refine r_iload8 hX dX6_weightOf_55 ?_
          refine r_goto hX dX6_weightOf_57 ?_
          refine r_i2l hX dX6_weightOf_66 ?_
          refine r_lmul hX dX6_weightOf_67 ?_
          refine r_pushl hX dX6_weightOf_68 ?_
          refine r_ldiv hX dX6_weightOf_71 (by decide) ?_
          refine r_lstore4 hX dX6_weightOf_72 rfl ?_
          refine r_goto hX dX6_weightOf_74 ?_
          refine r_iinc6 hX dX6_weightOf_112 rfl ?_
          refine r_goto hX dX6_weightOf_115 ?_
          subst hcx
          exact ih (cl x + 1) _ _ _ _ (by rw [← nI_1, ← hx0]) (by omega) (by rw [hs]; show lp _ n (cl x + 1) (wtC _ _ _ _ _ (cl x) w) = _; unfold wtC; rw [if_pos (show hb t (nI (cl x)) by rw [← hx0]; exact bI_nz h36), if_pos (show hb (σ.2 9 (cl d)) (nI (cl x)) by rw [← hx0]; exact bI_nz h52), w1F_eq])
  refine r_pushl hX dX6_weightOf_0 ?_
  refine r_lstore4 hX dX6_weightOf_3 rfl ?_
  refine r_push hX dX6_weightOf_5 ?_
  refine r_istore6 hX dX6_weightOf_6 rfl ?_
  exact hL8 C 0 _ _ _ _ rfl (by omega) hsp.symm
