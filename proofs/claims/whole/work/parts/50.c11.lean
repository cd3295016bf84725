set_option maxHeartbeats 400000 in
theorem c_X5_comesButOnce (l : Launch) (g : GT) (x : Nat) (a : Nat → Nat → Nat) (kp : Int32) (rd : S2) (nw : S2) (i0 : S2) (i1 : S2) (fa : S2) (bo : S2) (pl : S2) (dr : S2) (u z : Int32) (D : Nat) (hD : D ≤ 14) (eD : pl.1 0 = nI D) (A L : Nat) (hA : u = nI A) (hL : z = nI L) (h1 : 1 ≤ L) (h2 : A + L ≤ D) : Cx l g yX5_comesButOnce cX5_comesButOnce 4 (some .boolean) (k2_rm 1 30) [.ref (x), .int u, .int z] (wX g x a kp rd nw i0 i1 fa bo pl dr) (some (.int (bI (onceP (D + 1 - L) (nw.2 0) L A)))) (wX g x a kp rd nw i0 i1 fa bo pl dr) := by
  refine meth (own := "ChalkedDoors") (by decide) rfl (Nat.le_of_ble_eq_true rfl) [some (.ref (x)), some (.int u), some (.int z), none] rfl (fun X hX hQ => ?_)
  obtain ⟨E, hE⟩ : ∃ E, E = D + 1 - L := ⟨_, rfl⟩
  rw [← hE] at hQ
  have hL2 : ∀ (n i : Nat) (y : Int32) , y = nI i → i + n = E → (∀ b, b < i → b ≠ A → ¬ sameP (nw.2 0) A b L) → vJ X 0 0 (wX g x a kp rd nw i0 i1 fa bo pl dr) 2 [some (.ref (x)), some (.int u), some (.int z), some (.int y)] [] := by
    intro n
    induction n with
    | zero =>
      intro i y  hx hn hs
      refine r_iload3 hX dX5_comesButOnce_2 ?_
      refine r_iload2 hX dX5_comesButOnce_3 ?_
      refine r_iadd hX dX5_comesButOnce_4 ?_
      refine r_aload0 hX dX5_comesButOnce_5 ?_
      refine g_wX_0_6 hX dX5_comesButOnce_6 ?_
      refine g_wX_19_0 hX dX5_comesButOnce_9 ?_
      refine r_ic_gt hX dX5_comesButOnce_12 (fun h12 => ?_) (fun h12 => absurd (wgx hx hL eD (by omega) (by omega)) h12)
      refine r_push hX dX5_comesButOnce_38 ?_
      exact r_zret hX hQ dX5_comesButOnce_39 rfl (by rw [bI_t (show onceP E (nw.2 0) L A from fun b b1 b2 => hs b (by omega) b2)]) (rfl)
    | succ n ih =>
      intro i y  hx hn hs
      refine r_iload3 hX dX5_comesButOnce_2 ?_
      refine r_iload2 hX dX5_comesButOnce_3 ?_
      refine r_iadd hX dX5_comesButOnce_4 ?_
      refine r_aload0 hX dX5_comesButOnce_5 ?_
      refine g_wX_0_6 hX dX5_comesButOnce_6 ?_
      refine g_wX_19_0 hX dX5_comesButOnce_9 ?_
      refine r_ic_gt hX dX5_comesButOnce_12 (fun h12 => absurd h12 (wgn hx hL eD (by omega) (by omega))) (fun h12 => ?_)
      refine r_iload3 hX dX5_comesButOnce_15 ?_
      refine r_iload1 hX dX5_comesButOnce_16 ?_
      refine r_ic_eq hX dX5_comesButOnce_17 (fun h17 => ?_) (fun h17 => ?_)
      · refine r_iinc3 hX dX5_comesButOnce_32 rfl ?_
        refine r_goto hX dX5_comesButOnce_35 ?_
        exact ih (i + 1) _ (by rw [hx]; exact nI_1 i) (by omega) (fun b b1 b2 => (Nat.lt_or_ge b i).elim (fun q => hs b q b2) (fun q => by have e : b = i := (by omega); exact absurd (e.trans (nI_inj0 (by omega) (by omega) (hx.symm.trans (h17.trans hA)))) b2))
      · refine r_aload0 hX dX5_comesButOnce_20 ?_
        refine r_iload1 hX dX5_comesButOnce_21 ?_
        refine r_iload3 hX dX5_comesButOnce_22 ?_
        refine r_iload2 hX dX5_comesButOnce_23 ?_
        refine r_aV3i hX dX5_comesButOnce_24 kX5_sameRow (c_X5_sameRow l g _ _ _ _ _ _ _ _ _ _ _ _ _ _ A i L hA hx hL (by omega) (by omega)) ad_wX rfl (by decide) (Nat.le_of_ble_eq_true rfl) ?_
        refine r_if_eq hX dX5_comesButOnce_27 (fun h27 => ?_) (fun h27 => ?_)
        · refine r_iinc3 hX dX5_comesButOnce_32 rfl ?_
          refine r_goto hX dX5_comesButOnce_35 ?_
          exact ih (i + 1) _ (by rw [hx]; exact nI_1 i) (by omega) (fun b b1 b2 => (Nat.lt_or_ge b i).elim (fun q => hs b q b2) (fun q => by have e : b = i := (by omega); rw [e]; exact bI_z h27))
        · refine r_push hX dX5_comesButOnce_30 ?_
          exact r_zret hX hQ dX5_comesButOnce_31 rfl (by rw [bI_f (show ¬ onceP E (nw.2 0) L A from fun h => h i (by omega) (fun e => h17 (by rw [hx, hA, e])) (bI_nz h27))]) (rfl)
  refine r_push hX dX5_comesButOnce_0 ?_
  refine r_istore3 hX dX5_comesButOnce_1 rfl ?_
  exact hL2 E 0 _ rfl (by omega) (fun b b1 b2 => absurd b1 (Nat.not_lt_zero b))
set_option maxHeartbeats 400000 in
theorem c_X5_countSingleWindows (l : Launch) (g : GT) (x : Nat) (a : Nat → Nat → Nat) (kp : Int32) (rd : S2) (nw : S2) (i0 : S2) (i1 : S2) (fa : S2) (bo : S2) (pl : S2) (dr : S2) (z : Int32) (D : Nat) (hD : D ≤ 14) (eD : pl.1 0 = nI D) (L : Nat) (hL : z = nI L) (h1 : 1 ≤ L) (h2 : L ≤ D) : Cx l g yX5_countSingleWindows cX5_countSingleWindows 4 (some .int) (k2_rm 2 60) [.ref (x), .int z] (wX g x a kp rd nw i0 i1 fa bo pl dr) (some (.int (winF (D + 1 - L) (nw.2 0) L))) (wX g x a kp rd nw i0 i1 fa bo pl dr) := by
  refine meth (own := "ChalkedDoors") (by decide) rfl (Nat.le_of_ble_eq_true rfl) [some (.ref (x)), some (.int z), none, none] rfl (fun X hX hQ => ?_)
  obtain ⟨E, hE⟩ : ∃ E, E = D + 1 - L := ⟨_, rfl⟩
  rw [← hE] at hQ
  generalize hsp : winF E (nw.2 0) L = S at hQ
  unfold winF at hsp
  have hL4 : ∀ (n i : Nat) (y : Int32) (r : Int32), y = nI i → i + n = E → S = lp (fun a n => n + bI (cntF E (nw.2 0) L a = 1)) n i r → vJ X 0 0 (wX g x a kp rd nw i0 i1 fa bo pl dr) 4 [some (.ref (x)), some (.int z), some (.int r), some (.int y)] [] := by
    intro n
    induction n with
    | zero =>
      intro i y r hx hn hs
      refine r_iload3 hX dX5_countSingleWindows_4 ?_
      refine r_iload1 hX dX5_countSingleWindows_5 ?_
      refine r_iadd hX dX5_countSingleWindows_6 ?_
      refine r_aload0 hX dX5_countSingleWindows_7 ?_
      refine g_wX_0_6 hX dX5_countSingleWindows_8 ?_
      refine g_wX_19_0 hX dX5_countSingleWindows_11 ?_
      refine r_ic_gt hX dX5_countSingleWindows_14 (fun h14 => ?_) (fun h14 => absurd (wgx hx hL eD (by omega) (by omega)) h14)
      refine r_iload2 hX dX5_countSingleWindows_35 ?_
      exact r_iret hX hQ dX5_countSingleWindows_36 (by rw [hs] <;> rfl) (rfl)
    | succ n ih =>
      intro i y r hx hn hs
      refine r_iload3 hX dX5_countSingleWindows_4 ?_
      refine r_iload1 hX dX5_countSingleWindows_5 ?_
      refine r_iadd hX dX5_countSingleWindows_6 ?_
      refine r_aload0 hX dX5_countSingleWindows_7 ?_
      refine g_wX_0_6 hX dX5_countSingleWindows_8 ?_
      refine g_wX_19_0 hX dX5_countSingleWindows_11 ?_
      refine r_ic_gt hX dX5_countSingleWindows_14 (fun h14 => absurd h14 (wgn hx hL eD (by omega) (by omega))) (fun h14 => ?_)
      refine r_aload0 hX dX5_countSingleWindows_17 ?_
      refine r_iload3 hX dX5_countSingleWindows_18 ?_
      refine r_iload1 hX dX5_countSingleWindows_19 ?_
      refine r_aV2i hX dX5_countSingleWindows_20 kX5_comesButOnce (c_X5_comesButOnce l g _ _ _ _ _ _ _ _ _ _ _ _ _ D hD eD i L hx hL h1 (by omega)) ad_wX rfl (by decide) (Nat.le_of_ble_eq_true rfl) ?_
      refine r_if_eq hX dX5_countSingleWindows_23 (fun h23 => ?_) (fun h23 => ?_)
      · refine r_iinc3 hX dX5_countSingleWindows_29 rfl ?_
        refine r_goto hX dX5_countSingleWindows_32 ?_
        have hO := cnt_once (E := E) (L := L) (a := i) (mk := nw.2 0) (by omega) (by omega)
        rw [← hE] at h23
        exact ih (i + 1) _ _ (by rw [hx]; exact nI_1 i) (by omega) (by rw [hs]; show lp _ n (i + 1) (r + bI _) = _; rw [bI_f (fun h => bI_z h23 (hO.mp h)), Int32.add_zero])
      · refine r_iinc2 hX dX5_countSingleWindows_26 rfl ?_
        refine r_iinc3 hX dX5_countSingleWindows_29 rfl ?_
        refine r_goto hX dX5_countSingleWindows_32 ?_
        have hO := cnt_once (E := E) (L := L) (a := i) (mk := nw.2 0) (by omega) (by omega)
        rw [← hE] at h23
        exact ih (i + 1) _ _ (by rw [hx]; exact nI_1 i) (by omega) (by rw [hs]; show lp _ n (i + 1) (r + bI _) = _; rw [bI_t (hO.mpr (bI_nz h23))])
  refine r_push hX dX5_countSingleWindows_0 ?_
  refine r_istore2 hX dX5_countSingleWindows_1 rfl ?_
  refine r_push hX dX5_countSingleWindows_2 ?_
  refine r_istore3 hX dX5_countSingleWindows_3 rfl ?_
  exact hL4 E 0 _ _ rfl (by omega) hsp.symm
