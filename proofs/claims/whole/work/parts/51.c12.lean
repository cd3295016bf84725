set_option maxHeartbeats 400000 in
theorem c_X5_windows (l : Launch) (g : GT) (x : Nat) (a : Nat → Nat → Nat) (kp : Int32) (rd : S2) (nw : S2) (i0 : S2) (i1 : S2) (fa : S2) (bo : S2) (pl : S2) (dr : S2) (z : Int32) (D : Nat) (hD : D ≤ 14) (eD : pl.1 0 = nI D) : Cx l g yX5_windows cX5_windows 2 (some .int) (k2_rm 3 90) [.ref (x), .int z] (wX g x a kp rd nw i0 i1 fa bo pl dr) (some (.int (if inB z.toInt 1 D then winF (D + 1 - cl z) (nw.2 0) (cl z) else -1000000002))) (wX g x a kp rd nw i0 i1 fa bo pl dr) := by
  refine meth (own := "ChalkedDoors") (by decide) rfl (Nat.le_of_ble_eq_true rfl) [some (.ref (x)), some (.int z)] rfl (fun X hX hQ => ?_)
  refine r_iload1 hX dX5_windows_0 ?_
  refine r_push hX dX5_windows_1 ?_
  refine r_ic_lt hX dX5_windows_2 (fun h2 => ?_) (fun h2 => ?_)
  · refine r_push hX dX5_windows_16 ?_
    exact r_iret hX hQ dX5_windows_18 (by rw [if_neg (show ¬ inB z.toInt 1 D from inB_no1 h2 rfl)]) (rfl)
  · refine r_iload1 hX dX5_windows_5 ?_
    refine r_aload0 hX dX5_windows_6 ?_
    refine g_wX_0_6 hX dX5_windows_7 ?_
    refine g_wX_19_0 hX dX5_windows_10 ?_
    refine r_ic_le hX dX5_windows_13 (fun h13 => ?_) (fun h13 => ?_)
    · refine r_aload0 hX dX5_windows_19 ?_
      have hz : inB z.toInt 1 D := inB_yes h2 h13 rfl (by rw [eD]; exact nI_toInt (by omega))
      obtain ⟨ez, ez2⟩ := clN hz (by decide)
      refine r_iload1 hX dX5_windows_20 ?_
      refine r_aV1i hX dX5_windows_21 kX5_countSingleWindows (c_X5_countSingleWindows l g _ _ _ _ _ _ _ _ _ _ _ _ D hD eD (cl z) ez (by have := hz.1; omega) (by have := hz.2; omega)) ad_wX rfl (by decide) (Nat.le_of_ble_eq_true rfl) ?_
      exact r_iret hX hQ dX5_windows_24 (by rw [if_pos hz]) (rfl)
    · refine r_push hX dX5_windows_16 ?_
      exact r_iret hX hQ dX5_windows_18 (by rw [if_neg (show ¬ inB z.toInt 1 D from inB_no2 h13 (by rw [eD]; exact nI_toInt (by omega)))]) (rfl)
set_option maxHeartbeats 400000 in
theorem c_X5_leastWindow (l : Launch) (g : GT) (x : Nat) (a : Nat → Nat → Nat) (kp : Int32) (rd : S2) (nw : S2) (i0 : S2) (i1 : S2) (fa : S2) (bo : S2) (pl : S2) (dr : S2)  (D : Nat) (hD : D ≤ 14) (eD : pl.1 0 = nI D) : Cx l g yX5_leastWindow cX5_leastWindow 2 (some .int) (k2_rm 3 90) [.ref (x)] (wX g x a kp rd nw i0 i1 fa bo pl dr) (some (.int (lwF D (nw.2 0)))) (wX g x a kp rd nw i0 i1 fa bo pl dr) := by
  refine meth (own := "ChalkedDoors") (by decide) rfl (Nat.le_of_ble_eq_true rfl) [some (.ref (x)), none] rfl (fun X hX hQ => ?_)
  generalize hsp : lwF D (nw.2 0) = S at hQ
  unfold lwF at hsp
  have hL2 : ∀ (n i : Nat) (y : Int32) , y = nI i → i + n = D + 1 → 1 ≤ i → S = ffF (fun L => if winF (D + 1 - L) (nw.2 0) L = nI D - nI L + 1 then some (nI L) else none) n i → vJ X 0 0 (wX g x a kp rd nw i0 i1 fa bo pl dr) 2 [some (.ref (x)), some (.int y)] [] := by
    intro n
    induction n with
    | zero =>
      intro i y  hx hn h1 hs
      refine r_iload1 hX dX5_leastWindow_2 ?_
      refine r_aload0 hX dX5_leastWindow_3 ?_
      refine g_wX_0_6 hX dX5_leastWindow_4 ?_
      refine g_wX_19_0 hX dX5_leastWindow_7 ?_
      refine r_ic_gt hX dX5_leastWindow_10 (fun h10 => ?_) (fun h10 => absurd (lgx (e := D) hx eD (by omega) (by omega)) h10)
      refine r_push hX dX5_leastWindow_40 ?_
      exact r_iret hX hQ dX5_leastWindow_41 (by rw [hs] <;> rfl) (rfl)
    | succ n ih =>
      intro i y  hx hn h1 hs
      refine r_iload1 hX dX5_leastWindow_2 ?_
      refine r_aload0 hX dX5_leastWindow_3 ?_
      refine g_wX_0_6 hX dX5_leastWindow_4 ?_
      refine g_wX_19_0 hX dX5_leastWindow_7 ?_
      refine r_ic_gt hX dX5_leastWindow_10 (fun h10 => absurd h10 (lgn (e := D) hx eD (by omega) (by omega))) (fun h10 => ?_)
      refine r_aload0 hX dX5_leastWindow_13 ?_
      refine r_iload1 hX dX5_leastWindow_14 ?_
      refine r_aV1i hX dX5_leastWindow_15 kX5_countSingleWindows (c_X5_countSingleWindows l g _ _ _ _ _ _ _ _ _ _ _ _ D hD eD i hx h1 (by omega)) ad_wX rfl (by decide) (Nat.le_of_ble_eq_true rfl) ?_
      refine r_aload0 hX dX5_leastWindow_18 ?_
      refine g_wX_0_6 hX dX5_leastWindow_19 ?_
      refine g_wX_19_0 hX dX5_leastWindow_22 ?_
      refine r_iload1 hX dX5_leastWindow_25 ?_
      refine r_isub hX dX5_leastWindow_26 ?_
      refine r_push hX dX5_leastWindow_27 ?_
      refine r_iadd hX dX5_leastWindow_28 ?_
      refine r_ic_ne hX dX5_leastWindow_29 (fun h29 => ?_) (fun h29 => ?_)
      · refine r_iinc1 hX dX5_leastWindow_34 rfl ?_
        refine r_goto hX dX5_leastWindow_37 ?_
        exact ih (i + 1) _ (by rw [hx]; exact nI_1 i) (by omega) (by omega) (by rw [hs, ffF_none (if_neg (by rw [← hx, ← eD]; exact h29))])
      · refine r_iload1 hX dX5_leastWindow_32 ?_
        exact r_iret hX hQ dX5_leastWindow_33 (by rw [hs, ffF_some (if_pos (by rw [← hx, ← eD]; exact h29)), hx]) (rfl)
  refine r_push hX dX5_leastWindow_0 ?_
  refine r_istore1 hX dX5_leastWindow_1 rfl ?_
  exact hL2 D 1 _ rfl (by omega) (by decide) hsp.symm
