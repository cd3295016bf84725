theorem p_wM_0_11 {X : CT} {l : Launch} {g : GT} {own : String} {cc : ByteArray} {R : Room} {cs sl pc nx : Nat} {lv : List (Option Value)} {st : List Value} {b : Nat → Nat} {σ : S2} {v : Int32} (hX : oK X l g own cc R) (hd : dPf own cc pc 6 11 .int nx) (k : vJ X cs sl (wM g b (su σ 11 v)) nx lv st) : vJ X cs sl (wM g b σ) pc lv (.int v :: .ref (b 0) :: st) := r_put hX hd 0 rfl rfl rfl (Nat.le_of_ble_eq_true rfl) _ rfl k
set_option maxHeartbeats 400000 in
theorem c_X6_rain (l : Launch) (g : GT) (b : Nat → Nat) (σ : S2)  (D : Nat) (hD : D ≤ 14) (eD : σ.1 0 = nI D) (C : Nat) (hC : C ≤ 4) (eC : σ.1 1 = nI C) (hsd : 0 ≤ (σ.1 13).toInt) : Cx l g yX6_rain cX6_rain 4 none (k2_rm 1 30) [.ref (b 0)] (wM g b σ) none (wM g b (su (aw σ 9 (rainF D C (fun c => wshF (σ.2 2 c) (σ.2 3 c)) (σ.2 9, σ.1 13)).1) 13 (rainF D C (fun c => wshF (σ.2 2 c) (σ.2 3 c)) (σ.2 9, σ.1 13)).2)) := by
  refine meth (own := "ChalkedDoorsModel") (by decide) rfl (Nat.le_of_ble_eq_true rfl) [some (.ref (b 0)), none, none, none] rfl (fun X hX hQ => ?_)
  generalize hsp : rainF D C (fun c => wshF (σ.2 2 c) (σ.2 3 c)) (σ.2 9, σ.1 13) = S at hQ
  unfold rainF at hsp
  have hL2 : ∀ (n i : Nat) (x : Int32) (mk : Nat → Int32) (sd : Int32), x = nI i → i + n = D → 0 ≤ sd.toInt → S = lp (fun d s => lp (rainC (fun c => wshF (σ.2 2 c) (σ.2 3 c)) d (s.1 d)) C 0 s) n i (mk, sd) → vJ X 0 0 (wM g b (su (aw σ 9 mk) 13 sd)) 2 [some (.ref (b 0)), some (.int x), none, none] [] := by
    intro n
    induction n with
    | zero =>
      intro i x mk sd hx hn hsd1 hs
      refine r_iload1 hX dX6_rain_2 ?_
      refine r_aload0 hX dX6_rain_3 ?_
      refine g_wM_0_0 hX dX6_rain_4 ?_
      refine r_ic_ge hX dX6_rain_7 (fun h7 => ?_) (fun h7 => absurd (lpx (e := D) hx eD (by omega) (by omega) (by omega)) h7)
      exact r_vret hX hQ dX6_rain_75 (by rw [hs] <;> rfl)
    | succ n ih =>
      intro i x mk sd hx hn hsd1 hs
      have hvx : vp_in x 14 := by rw [hx]; exact vp_in_nI (by omega) (by omega)
      have hcx : cl x = i := by rw [hx]; exact nI_clamp (by omega)
      have hL19 : ∀ (n2 i2 : Nat) (y : Int32) (mk' : Nat → Int32) (sd' : Int32), y = nI i2 → i2 + n2 = C → 0 ≤ sd'.toInt → lp (rainC (fun c => wshF (σ.2 2 c) (σ.2 3 c)) i (mk i)) C 0 (mk, sd) = lp (rainC (fun c => wshF (σ.2 2 c) (σ.2 3 c)) i (mk i)) n2 i2 (mk', sd') → vJ X 0 0 (wM g b (su (aw σ 9 mk') 13 sd')) 19 [some (.ref (b 0)), some (.int x), some (.int (mk (cl x))), some (.int y)] [] := by
        intro n2
        induction n2 with
        | zero =>
          intro i2 y mk' sd' hx2 hn2 hsd2 hT
          refine r_iload3 hX dX6_rain_19 ?_
          refine r_aload0 hX dX6_rain_20 ?_
          refine g_wM_0_1 hX dX6_rain_21 ?_
          refine r_ic_ge hX dX6_rain_24 (fun h24 => ?_) (fun h24 => absurd (lpx (e := C) hx2 eC (by omega) (by omega) (by omega)) h24)
          refine r_iinc1 hX dX6_rain_69 rfl ?_
          refine r_goto hX dX6_rain_72 ?_
          refine r_fg2 (r_fg3 ?_)
          exact ih (i + 1) _ mk' sd' (by rw [hx]; exact nI_1 i) (by omega) hsd2 (by rw [hs]; show lp _ n (i + 1) (lp (rainC _ i (mk i)) C 0 (mk, sd)) = _; rw [hT]; rfl)
        | succ n2 ih2 =>
          intro i2 y mk' sd' hx2 hn2 hsd2 hT
          have hvy : vp_in y 4 := by rw [hx2]; exact vp_in_nI (by omega) (by omega)
          have hcy : cl y = i2 := by rw [hx2]; exact nI_clamp (by omega)
          refine r_iload3 hX dX6_rain_19 ?_
          refine r_aload0 hX dX6_rain_20 ?_
          refine g_wM_0_1 hX dX6_rain_21 ?_
          refine r_ic_ge hX dX6_rain_24 (fun h24 => absurd h24 (lpn (e := C) hx2 eC (by omega) (by omega))) (fun h24 => ?_)
          refine r_iload2 hX dX6_rain_27 ?_
          refine r_iload3 hX dX6_rain_28 ?_
          refine r_nS2i hX dX6_rain_29 kX6_has (c_X6_has l g _ _) (by decide) (Nat.le_of_ble_eq_true rfl) ?_
          refine r_if_eq hX dX6_rain_32 (fun h32 => ?_) (fun h32 => ?_)
          · refine r_iinc3 hX dX6_rain_63 rfl ?_
            refine r_goto hX dX6_rain_66 ?_
            refine vJw (w' := wM g b (su (aw σ 9 mk') 13 sd')) rfl ?_
            exact ih2 (i2 + 1) _ mk' sd' (by rw [hx2]; exact nI_1 i2) (by omega) hsd2 (by rw [hT]; show lp _ n2 (i2 + 1) (rainC _ _ _ i2 (mk', sd')) = _; rw [rainC_no (show ¬ hb (mk i) (nI i2) by rw [← hx2, ← hcx]; exact bI_z h32)])
          · refine r_aload0 hX dX6_rain_35 ?_
            refine r_push hX dX6_rain_36 ?_
            refine r_aV1i hX dX6_rain_38 kX6_draw (c_X6_draw l g _ _ _ hsd2 (by decide)) ad_wM rfl (by decide) (Nat.le_of_ble_eq_true rfl) ?_
            refine r_aload0 hX dX6_rain_41 ?_
            refine r_iload3 hX dX6_rain_42 ?_
            refine r_aV1i hX dX6_rain_43 kX6_washedBy (c_X6_washedBy l g _ _ _ hvy) ad_wM rfl (by decide) (Nat.le_of_ble_eq_true rfl) ?_
            refine r_ic_ge hX dX6_rain_46 (fun h46 => ?_) (fun h46 => ?_)
            · refine r_iinc3 hX dX6_rain_63 rfl ?_
              refine r_goto hX dX6_rain_66 ?_
              refine vJw (w' := wM g b (su (aw σ 9 mk') 13 (drawF sd'))) rfl ?_
              exact ih2 (i2 + 1) _ mk' (drawF sd') (by rw [hx2]; exact nI_1 i2) (by omega) (drawN _) (by rw [hT]; show lp _ n2 (i2 + 1) (rainC _ _ _ i2 (mk', sd')) = _; rw [rainC_st (m := mk') (z := sd') (wb := (fun c => wshF (σ.2 2 c) (σ.2 3 c))) (d := i) (show hb (mk i) (nI i2) by rw [← hx2, ← hcx]; exact bI_nz h32) (show wshF (σ.2 2 i2) (σ.2 3 i2) ≤ dvF (drawF sd') 8 by rw [← hcy]; exact h46)])
            · refine r_aload0 hX dX6_rain_49 ?_
              refine g_wM_0_9 hX dX6_rain_50 ?_
              refine r_iload1 hX dX6_rain_53 ?_
              refine r_dup2 hX dX6_rain_54 rfl rfl ?_
              refine l_wM_5 hX dX6_rain_55 hvx ?_
              refine r_push hX dX6_rain_56 ?_
              refine r_iload3 hX dX6_rain_57 ?_
              refine r_ishl hX dX6_rain_58 ?_
              refine r_push hX dX6_rain_59 ?_
              refine r_ixor hX dX6_rain_60 ?_
              refine r_iand hX dX6_rain_61 ?_
              refine s_wM_5 hX dX6_rain_62 hvx ?_
              refine r_iinc3 hX dX6_rain_63 rfl ?_
              refine r_goto hX dX6_rain_66 ?_
              refine vJw (w' := wM g b (su (aw σ 9 (upd mk' (cl x) (mk' (cl x) &&& (bit y ^^^ -1)))) 13 (drawF sd'))) rfl ?_
              exact ih2 (i2 + 1) _ (upd mk' (cl x) (mk' (cl x) &&& (bit y ^^^ -1))) (drawF sd') (by rw [hx2]; exact nI_1 i2) (by omega) (drawN _) (by rw [hT]; show lp _ n2 (i2 + 1) (rainC _ _ _ i2 (mk', sd')) = _; rw [rainC_wa (m := mk') (z := sd') (wb := (fun c => wshF (σ.2 2 c) (σ.2 3 c))) (d := i) (show hb (mk i) (nI i2) by rw [← hx2, ← hcx]; exact bI_nz h32) (show ¬ wshF (σ.2 2 i2) (σ.2 3 i2) ≤ dvF (drawF sd') 8 by rw [← hcy]; exact h46)]; rw [hcx, hx2])
      refine r_iload1 hX dX6_rain_2 ?_
      refine r_aload0 hX dX6_rain_3 ?_
      refine g_wM_0_0 hX dX6_rain_4 ?_
      refine r_ic_ge hX dX6_rain_7 (fun h7 => absurd h7 (lpn (e := D) hx eD (by omega) (by omega))) (fun h7 => ?_)
      refine r_aload0 hX dX6_rain_10 ?_
      refine g_wM_0_9 hX dX6_rain_11 ?_
      refine r_iload1 hX dX6_rain_14 ?_
      refine l_wM_5 hX dX6_rain_15 hvx ?_
      refine r_istore2 hX dX6_rain_16 rfl ?_
      refine r_push hX dX6_rain_17 ?_
      refine r_istore3 hX dX6_rain_18 rfl ?_
      exact hL19 C 0 _ mk sd rfl (by omega) hsd1 rfl
  refine r_push hX dX6_rain_0 ?_
  refine r_istore1 hX dX6_rain_1 rfl ?_
  refine vJw (w' := wM g b (su (aw σ 9 (σ.2 9)) 13 (σ.1 13))) rfl ?_
  exact hL2 D 0 _ _ _ rfl (by omega) hsd hsp.symm
set_option maxHeartbeats 400000 in
theorem c_X6_play (l : Launch) (g : GT) (b : Nat → Nat) (σ : S2)  (D : Nat) (hD : D ≤ 14) (eD : σ.1 0 = nI D) (C : Nat) (hC : C ≤ 4) (eC : σ.1 1 = nI C) (hsd : 0 ≤ (σ.1 13).toInt) : Cx l g yX6_play cX6_play 3 none (k2_rm 1 30) [.ref (b 0)] (wM g b σ) none (wM g b (su (aw σ 9 (playF D C (σ.2 5) (σ.2 9, σ.1 13)).1) 13 (playF D C (σ.2 5) (σ.2 9, σ.1 13)).2)) := by
  refine meth (own := "ChalkedDoorsModel") (by decide) rfl (Nat.le_of_ble_eq_true rfl) [some (.ref (b 0)), none, none] rfl (fun X hX hQ => ?_)
  generalize hsp : playF D C (σ.2 5) (σ.2 9, σ.1 13) = S at hQ
  unfold playF at hsp
  have hL2 : ∀ (n i : Nat) (x : Int32) (mk : Nat → Int32) (sd : Int32), x = nI i → i + n = D → 0 ≤ sd.toInt → S = lp (fun d s => lp (playC (σ.2 5) d) C 0 s) n i (mk, sd) → vJ X 0 0 (wM g b (su (aw σ 9 mk) 13 sd)) 2 [some (.ref (b 0)), some (.int x), none] [] := by
    intro n
    induction n with
    | zero =>
      intro i x mk sd hx hn hsd1 hs
      refine r_iload1 hX dX6_play_2 ?_
      refine r_aload0 hX dX6_play_3 ?_
      refine g_wM_0_0 hX dX6_play_4 ?_
      refine r_ic_ge hX dX6_play_7 (fun h7 => ?_) (fun h7 => absurd (lpx (e := D) hx eD (by omega) (by omega) (by omega)) h7)
      exact r_vret hX hQ dX6_play_68 (by rw [hs] <;> rfl)
    | succ n ih =>
      intro i x mk sd hx hn hsd1 hs
      have hvx : vp_in x 14 := by rw [hx]; exact vp_in_nI (by omega) (by omega)
      have hcx : cl x = i := by rw [hx]; exact nI_clamp (by omega)
      have hL12 : ∀ (n2 i2 : Nat) (y : Int32) (mk' : Nat → Int32) (sd' : Int32), y = nI i2 → i2 + n2 = C → 0 ≤ sd'.toInt → lp (playC (σ.2 5) i) C 0 (mk, sd) = lp (playC (σ.2 5) i) n2 i2 (mk', sd') → vJ X 0 0 (wM g b (su (aw σ 9 mk') 13 sd')) 12 [some (.ref (b 0)), some (.int x), some (.int y)] [] := by
        intro n2
        induction n2 with
        | zero =>
          intro i2 y mk' sd' hx2 hn2 hsd2 hT
          refine r_iload2 hX dX6_play_12 ?_
          refine r_aload0 hX dX6_play_13 ?_
          refine g_wM_0_1 hX dX6_play_14 ?_
          refine r_ic_ge hX dX6_play_17 (fun h17 => ?_) (fun h17 => absurd (lpx (e := C) hx2 eC (by omega) (by omega) (by omega)) h17)
          refine r_iinc1 hX dX6_play_62 rfl ?_
          refine r_goto hX dX6_play_65 ?_
          refine r_fg2 ?_
          exact ih (i + 1) _ mk' sd' (by rw [hx]; exact nI_1 i) (by omega) hsd2 (by rw [hs]; show lp _ n (i + 1) (lp (playC _ i) C 0 (mk, sd)) = _; rw [hT]; rfl)
        | succ n2 ih2 =>
          intro i2 y mk' sd' hx2 hn2 hsd2 hT
          have hvy : vp_in y 4 := by rw [hx2]; exact vp_in_nI (by omega) (by omega)
          have hcy : cl y = i2 := by rw [hx2]; exact nI_clamp (by omega)
          refine r_iload2 hX dX6_play_12 ?_
          refine r_aload0 hX dX6_play_13 ?_
          refine g_wM_0_1 hX dX6_play_14 ?_
          refine r_ic_ge hX dX6_play_17 (fun h17 => absurd h17 (lpn (e := C) hx2 eC (by omega) (by omega))) (fun h17 => ?_)
          refine r_aload0 hX dX6_play_20 ?_
          refine g_wM_0_5 hX dX6_play_21 ?_
          refine r_iload2 hX dX6_play_24 ?_
          refine l_wM_4 hX dX6_play_25 hvy ?_
          refine r_if_le hX dX6_play_26 (fun h26 => ?_) (fun h26 => ?_)
          · refine r_iinc2 hX dX6_play_56 rfl ?_
            refine r_goto hX dX6_play_59 ?_
            refine vJw (w' := wM g b (su (aw σ 9 mk') 13 sd')) rfl ?_
            exact ih2 (i2 + 1) _ mk' sd' (by rw [hx2]; exact nI_1 i2) (by omega) hsd2 (by rw [hT]; show lp _ n2 (i2 + 1) (playC _ _ i2 (mk', sd')) = _; rw [playC_no (show σ.2 5 i2 ≤ 0 by rw [← hcy]; exact h26)])
          · refine r_aload0 hX dX6_play_29 ?_
            refine r_push hX dX6_play_30 ?_
            refine r_aV1i hX dX6_play_32 kX6_draw (c_X6_draw l g _ _ _ hsd2 (by decide)) ad_wM rfl (by decide) (Nat.le_of_ble_eq_true rfl) ?_
            refine r_aload0 hX dX6_play_35 ?_
            refine g_wM_0_5 hX dX6_play_36 ?_
            refine r_iload2 hX dX6_play_39 ?_
            refine l_wM_4 hX dX6_play_40 hvy ?_
            refine r_ic_ge hX dX6_play_41 (fun h41 => ?_) (fun h41 => ?_)
            · refine r_iinc2 hX dX6_play_56 rfl ?_
              refine r_goto hX dX6_play_59 ?_
              refine vJw (w' := wM g b (su (aw σ 9 mk') 13 (drawF sd'))) rfl ?_
              exact ih2 (i2 + 1) _ mk' (drawF sd') (by rw [hx2]; exact nI_1 i2) (by omega) (drawN _) (by rw [hT]; show lp _ n2 (i2 + 1) (playC _ _ i2 (mk', sd')) = _; rw [playC_st (m := mk') (z := sd') (ch := σ.2 5) (d := i) (show ¬ σ.2 5 i2 ≤ 0 by rw [← hcy]; exact h26) (show σ.2 5 i2 ≤ dvF (drawF sd') 64 by rw [← hcy]; exact h41)])
            · refine r_aload0 hX dX6_play_44 ?_
              refine g_wM_0_9 hX dX6_play_45 ?_
              refine r_iload1 hX dX6_play_48 ?_
              refine r_dup2 hX dX6_play_49 rfl rfl ?_
              refine l_wM_5 hX dX6_play_50 hvx ?_
              refine r_push hX dX6_play_51 ?_
              refine r_iload2 hX dX6_play_52 ?_
              refine r_ishl hX dX6_play_53 ?_
              refine r_ior hX dX6_play_54 ?_
              refine s_wM_5 hX dX6_play_55 hvx ?_
              refine r_iinc2 hX dX6_play_56 rfl ?_
              refine r_goto hX dX6_play_59 ?_
              refine vJw (w' := wM g b (su (aw σ 9 (upd mk' (cl x) (mk' (cl x) ||| bit y))) 13 (drawF sd'))) rfl ?_
              exact ih2 (i2 + 1) _ (upd mk' (cl x) (mk' (cl x) ||| bit y)) (drawF sd') (by rw [hx2]; exact nI_1 i2) (by omega) (drawN _) (by rw [hT]; show lp _ n2 (i2 + 1) (playC _ _ i2 (mk', sd')) = _; rw [playC_pu (m := mk') (z := sd') (ch := σ.2 5) (d := i) (show ¬ σ.2 5 i2 ≤ 0 by rw [← hcy]; exact h26) (show ¬ σ.2 5 i2 ≤ dvF (drawF sd') 64 by rw [← hcy]; exact h41)]; rw [hcx, hx2])
      refine r_iload1 hX dX6_play_2 ?_
      refine r_aload0 hX dX6_play_3 ?_
      refine g_wM_0_0 hX dX6_play_4 ?_
      refine r_ic_ge hX dX6_play_7 (fun h7 => absurd h7 (lpn (e := D) hx eD (by omega) (by omega))) (fun h7 => ?_)
      refine r_push hX dX6_play_10 ?_
      refine r_istore2 hX dX6_play_11 rfl ?_
      exact hL12 C 0 _ mk sd rfl (by omega) hsd1 rfl
  refine r_push hX dX6_play_0 ?_
  refine r_istore1 hX dX6_play_1 rfl ?_
  refine vJw (w' := wM g b (su (aw σ 9 (σ.2 9)) 13 (σ.1 13))) rfl ?_
  exact hL2 D 0 _ _ _ rfl (by omega) hsd hsp.symm
set_option maxHeartbeats 400000 in
theorem c_X6_like (l : Launch) (g : GT) (b : Nat → Nat) (σ : S2) (t : Int32) (D : Nat) (hD : D ≤ 14) (eD : σ.1 0 = nI D) (C : Nat) (hC : C ≤ 4) (eC : σ.1 1 = nI C) : Cx l g yX6_like cX6_like 4 (some .int) (k2_rm 2 60) [.ref (b 0), .int t] (wM g b σ) (some (.int (if stD t (σ.1 1) then likeF D (σ.2 9) t else -1000000001))) (wM g b σ) := by
  refine meth (own := "ChalkedDoorsModel") (by decide) rfl (Nat.le_of_ble_eq_true rfl) [some (.ref (b 0)), some (.int t), none, none] rfl (fun X hX hQ => ?_)
  generalize hsp : likeF D (σ.2 9) t = S at hQ
  unfold likeF at hsp
  have hL15 : ∀ (n i : Nat) (x : Int32) (r : Int32), x = nI i → i + n = D → stD t (σ.1 1) → S = lp (fun d r => if σ.2 9 d = t then r ||| bit (nI d) else r) n i r → vJ X 0 0 (wM g b σ) 15 [some (.ref (b 0)), some (.int t), some (.int r), some (.int x)] [] := by
    intro n
    induction n with
    | zero =>
      intro i x r hx hn ht hs
      refine r_iload3 hX dX6_like_15 ?_
      refine r_aload0 hX dX6_like_16 ?_
      refine g_wM_0_0 hX dX6_like_17 ?_
      refine r_ic_ge hX dX6_like_20 (fun h20 => ?_) (fun h20 => absurd (lpx (e := D) hx eD (by omega) (by omega) (by omega)) h20)
      refine r_iload2 hX dX6_like_49 ?_
      exact r_iret hX hQ dX6_like_50 (by rw [if_pos ht, hs] <;> rfl) (rfl)
    | succ n ih =>
      intro i x r hx hn ht hs
      have hcx : cl x = i := by rw [hx]; exact nI_clamp (by omega)
      refine r_iload3 hX dX6_like_15 ?_
      refine r_aload0 hX dX6_like_16 ?_
      refine g_wM_0_0 hX dX6_like_17 ?_
      refine r_ic_ge hX dX6_like_20 (fun h20 => absurd h20 (lpn (e := D) hx eD (by omega) (by omega))) (fun h20 => ?_)
      refine r_iload2 hX dX6_like_23 ?_
      refine r_aload0 hX dX6_like_24 ?_
      refine g_wM_0_9 hX dX6_like_25 ?_
      refine r_iload3 hX dX6_like_28 ?_
      refine l_wM_5 hX dX6_like_29 (by rw [hx]; exact vp_in_nI (by omega) (by omega)) ?_
      refine r_iload1 hX dX6_like_30 ?_
      refine r_ic_ne hX dX6_like_31 (fun h31 => ?_) (fun h31 => ?_)
      · refine r_push hX dX6_like_40 ?_
        refine r_ior hX dX6_like_41 ?_
        refine r_istore2 hX dX6_like_42 rfl ?_
        refine r_iinc3 hX dX6_like_43 rfl ?_
        refine r_goto hX dX6_like_46 ?_
        exact ih (i + 1) _ _ (by rw [hx]; exact nI_1 i) (by omega) ht (by rw [hs]; show lp _ n (i + 1) (ite _ _ _) = _; rw [if_neg (show ¬ σ.2 9 i = t by rw [← hcx]; exact h31), Int32.or_zero])
      · refine r_push hX dX6_like_34 ?_
        refine r_iload3 hX dX6_like_35 ?_
        refine r_ishl hX dX6_like_36 ?_
        refine r_goto hX dX6_like_37 ?_
        refine r_ior hX dX6_like_41 ?_
        refine r_istore2 hX dX6_like_42 rfl ?_
        refine r_iinc3 hX dX6_like_43 rfl ?_
        refine r_goto hX dX6_like_46 ?_
        exact ih (i + 1) _ _ (by rw [hx]; exact nI_1 i) (by omega) ht (by rw [hs]; show lp _ n (i + 1) (ite _ _ _) = _; rw [if_pos (show σ.2 9 i = t by rw [← hcx]; exact h31), hx])
  refine r_aload0 hX dX6_like_0 ?_
  refine r_iload1 hX dX6_like_1 ?_
  refine r_aV1i hX dX6_like_2 kX6_isSet (c_X6_isSet l g _ _ _ C hC eC) ad_wM rfl (by decide) (Nat.le_of_ble_eq_true rfl) ?_
  refine r_if_ne hX dX6_like_5 (fun h5 => ?_) (fun h5 => ?_)
  · refine r_push hX dX6_like_11 ?_
    refine r_istore2 hX dX6_like_12 rfl ?_
    refine r_push hX dX6_like_13 ?_
    refine r_istore3 hX dX6_like_14 rfl ?_
    exact hL15 D 0 _ _ rfl (by omega) (bI_nz h5) hsp.symm
  · refine r_push hX dX6_like_8 ?_
    exact r_iret hX hQ dX6_like_10 (by rw [if_neg (bI_z h5)]) (rfl)
set_option maxHeartbeats 400000 in
theorem c_X6_night (l : Launch) (g : GT) (b : Nat → Nat) (σ : S2) (n0 : Int32) (D : Nat) (hD : D ≤ 14) (eD : σ.1 0 = nI D) (C : Nat) (hC : C ≤ 4) (eC : σ.1 1 = nI C) (hsd : 0 ≤ (σ.1 13).toInt) : Cx l g yX6_night cX6_night 3 (some .int) (k2_rm 2 60) [.ref (b 0), .int n0] (wM g b σ) (some (.int (nightF D C (fun c => wshF (σ.2 2 c) (σ.2 3 c)) (σ.2 5) (σ.1 6) (σ.2 9, σ.1 13) (σ.1 11) n0).1)) (wM g b (su (su (aw σ 9 (nightF D C (fun c => wshF (σ.2 2 c) (σ.2 3 c)) (σ.2 5) (σ.1 6) (σ.2 9, σ.1 13) (σ.1 11) n0).2.1.1) 13 (nightF D C (fun c => wshF (σ.2 2 c) (σ.2 3 c)) (σ.2 5) (σ.1 6) (σ.2 9, σ.1 13) (σ.1 11) n0).2.1.2) 11 (nightF D C (fun c => wshF (σ.2 2 c) (σ.2 3 c)) (σ.2 5) (σ.1 6) (σ.2 9, σ.1 13) (σ.1 11) n0).2.2)) := by
  refine meth (own := "ChalkedDoorsModel") (by decide) rfl (Nat.le_of_ble_eq_true rfl) [some (.ref (b 0)), some (.int n0), none] rfl (fun X hX hQ => ?_)
  by_cases hr : inB n0.toInt 1 99
  · by_cases h0 : D = 0
    · have e0 : (nightF D C (fun c => wshF (σ.2 2 c) (σ.2 3 c)) (σ.2 5) (σ.1 6) (σ.2 9, σ.1 13) (σ.1 11) n0) = (-1000000003, (σ.2 9, σ.1 13), σ.1 11) := by unfold nightF; rw [if_pos hr, if_pos h0]
      rw [e0] at hQ
      refine r_iload1 hX dX6_night_0 ?_
      refine r_i2l hX dX6_night_1 ?_
      refine r_pushl hX dX6_night_2 ?_
      refine r_pushl hX dX6_night_3 ?_
      refine r_nS3i hX dX6_night_6 kX6_in (c_X6_in l g _ _ _) (by decide) (Nat.le_of_ble_eq_true rfl) ?_
      refine r_if_ne hX dX6_night_9 (fun h9 => ?_) (fun h9 => absurd h9 (by rw [bI_t (p := inB n0.toInt64.toInt (1 : Int64).toInt (99 : Int64).toInt) (by rw [Int32.toInt_toInt64]; exact hr)]; decide))
      refine r_aload0 hX dX6_night_15 ?_
      refine g_wM_0_0 hX dX6_night_16 ?_
      refine r_if_ne hX dX6_night_19 (fun h19 => absurd (by rw [eD, h0]; rfl) h19) (fun h19 => ?_)
      refine r_push hX dX6_night_22 ?_
      exact r_iret hX hQ dX6_night_24 (rfl) (rfl)
    · have hd0 : ¬ σ.1 0 = 0 := by rw [eD]; exact nI_ne0 (by omega) (by omega)
      by_cases hm : σ.1 11 ≤ 90000
      · have e0 : (nightF D C (fun c => wshF (σ.2 2 c) (σ.2 3 c)) (σ.2 5) (σ.1 6) (σ.2 9, σ.1 13) (σ.1 11) n0) = ((nightL D C (fun c => wshF (σ.2 2 c) (σ.2 3 c)) (σ.2 5) (σ.1 6) (cl n0) (σ.2 9, σ.1 13) (σ.1 11)).2, (nightL D C (fun c => wshF (σ.2 2 c) (σ.2 3 c)) (σ.2 5) (σ.1 6) (cl n0) (σ.2 9, σ.1 13) (σ.1 11))) := by unfold nightF; rw [if_pos hr, if_neg h0, if_pos hm]
        rw [e0] at hQ
        generalize hsp : (nightL D C (fun c => wshF (σ.2 2 c) (σ.2 3 c)) (σ.2 5) (σ.1 6) (cl n0) (σ.2 9, σ.1 13) (σ.1 11)) = S at hQ
        unfold nightL at hsp
        obtain ⟨en, hnn⟩ := clN hr (by decide)
        have hE : cl n0 ≤ 99 := by have := hr.2; omega
        have hL39 : ∀ (n i : Nat) (x : Int32) (mk : Nat → Int32) (sd nt : Int32), x = nI i → i + n = (cl n0) → 0 ≤ sd.toInt → S = lp (fun _ s => (nightS D C (fun c => wshF (σ.2 2 c) (σ.2 3 c)) (σ.2 5) (σ.1 6) s.1, s.2 + 1)) n i ((mk, sd), nt) → vJ X 0 0 (wM g b (su (su (aw σ 9 mk) 13 sd) 11 nt)) 39 [some (.ref (b 0)), some (.int n0), some (.int x)] [] := by
          intro n
          induction n with
          | zero =>
            intro i x mk sd nt hx hn hsd1 hs
            refine r_iload2 hX dX6_night_39 ?_
            refine r_iload1 hX dX6_night_40 ?_
            refine r_ic_ge hX dX6_night_41 (fun h41 => ?_) (fun h41 => absurd (lpx (e := (cl n0)) hx en (by omega) (by omega) (by omega)) h41)
            refine r_aload0 hX dX6_night_81 ?_
            refine g_wM_0_11 hX dX6_night_82 ?_
            exact r_iret hX hQ dX6_night_85 (by rw [hs] <;> rfl) (by rw [hs] <;> rfl)
          | succ n ih =>
            intro i x mk sd nt hx hn hsd1 hs
            refine r_iload2 hX dX6_night_39 ?_
            refine r_iload1 hX dX6_night_40 ?_
            refine r_ic_ge hX dX6_night_41 (fun h41 => absurd h41 (lpn (e := (cl n0)) hx en (by omega) (by omega))) (fun h41 => ?_)
            refine r_aload0 hX dX6_night_44 ?_
            refine r_push hX dX6_night_45 ?_
            refine r_aV1i hX dX6_night_47 kX6_draw (c_X6_draw l g _ _ _ hsd1 (by decide)) ad_wM rfl (by decide) (Nat.le_of_ble_eq_true rfl) ?_
            refine r_aload0 hX dX6_night_50 ?_
            refine g_wM_0_6 hX dX6_night_51 ?_
            refine r_ic_ge hX dX6_night_54 (fun h54 => ?_) (fun h54 => ?_)
            · refine r_aload0 hX dX6_night_61 ?_
              refine r_aV0v hX dX6_night_62 kX6_play (c_X6_play l g _ _ D hD (by exact eD) C hC (by exact eC) (by first | exact drawN _ | exact rainN _ _ _ (_, _) (drawN _))) ad_wM rfl (by decide) (Nat.le_of_ble_eq_true rfl) ?_
              refine r_aload0 hX dX6_night_65 ?_
              refine r_dup hX dX6_night_66 rfl ?_
              refine g_wM_0_11 hX dX6_night_67 ?_
              refine r_push hX dX6_night_70 ?_
              refine r_iadd hX dX6_night_71 ?_
              refine p_wM_0_11 hX dX6_night_72 ?_
              refine r_iinc2 hX dX6_night_75 rfl ?_
              refine r_goto hX dX6_night_78 ?_
              refine vJw (w' := wM g b (su (su (aw σ 9 (playF D C (σ.2 5) (mk, drawF sd)).1) 13 (playF D C (σ.2 5) (mk, drawF sd)).2) 11 (nt + 1))) rfl ?_
              exact ih (i + 1) _ _ _ _ (by rw [hx]; exact nI_1 i) (by omega) (playN _ _ _ (_, _) (drawN _)) (by rw [hs]; show lp _ n (i + 1) (nightS _ _ _ _ _ (mk, sd), nt + 1) = _; unfold nightS; rw [if_pos (show σ.1 6 ≤ dvF (drawF sd) 8 from h54)])
            · refine r_aload0 hX dX6_night_57 ?_
              refine r_aV0v hX dX6_night_58 kX6_rain (c_X6_rain l g _ _ D hD (by exact eD) C hC (by exact eC) (by exact drawN _)) ad_wM rfl (by decide) (Nat.le_of_ble_eq_true rfl) ?_
              refine r_aload0 hX dX6_night_61 ?_
              refine r_aV0v hX dX6_night_62 kX6_play (c_X6_play l g _ _ D hD (by exact eD) C hC (by exact eC) (by first | exact drawN _ | exact rainN _ _ _ (_, _) (drawN _))) ad_wM rfl (by decide) (Nat.le_of_ble_eq_true rfl) ?_
              refine r_aload0 hX dX6_night_65 ?_
              refine r_dup hX dX6_night_66 rfl ?_
              refine g_wM_0_11 hX dX6_night_67 ?_
              refine r_push hX dX6_night_70 ?_
              refine r_iadd hX dX6_night_71 ?_
              refine p_wM_0_11 hX dX6_night_72 ?_
              refine r_iinc2 hX dX6_night_75 rfl ?_
              refine r_goto hX dX6_night_78 ?_
              refine vJw (w' := wM g b (su (su (aw σ 9 (playF D C (σ.2 5) (rainF D C (fun c => wshF (σ.2 2 c) (σ.2 3 c)) (mk, drawF sd))).1) 13 (playF D C (σ.2 5) (rainF D C (fun c => wshF (σ.2 2 c) (σ.2 3 c)) (mk, drawF sd))).2) 11 (nt + 1))) rfl ?_
              exact ih (i + 1) _ _ _ _ (by rw [hx]; exact nI_1 i) (by omega) (playN _ _ _ _ (rainN _ _ _ (_, _) (drawN _))) (by rw [hs]; show lp _ n (i + 1) (nightS _ _ _ _ _ (mk, sd), nt + 1) = _; unfold nightS; rw [if_neg (show ¬ σ.1 6 ≤ dvF (drawF sd) 8 from h54)])
        refine r_iload1 hX dX6_night_0 ?_
        refine r_i2l hX dX6_night_1 ?_
        refine r_pushl hX dX6_night_2 ?_
        refine r_pushl hX dX6_night_3 ?_
        refine r_nS3i hX dX6_night_6 kX6_in (c_X6_in l g _ _ _) (by decide) (Nat.le_of_ble_eq_true rfl) ?_
        refine r_if_ne hX dX6_night_9 (fun h9 => ?_) (fun h9 => absurd h9 (by rw [bI_t (p := inB n0.toInt64.toInt (1 : Int64).toInt (99 : Int64).toInt) (by rw [Int32.toInt_toInt64]; exact hr)]; decide))
        refine r_aload0 hX dX6_night_15 ?_
        refine g_wM_0_0 hX dX6_night_16 ?_
        refine r_if_ne hX dX6_night_19 (fun h19 => ?_) (fun h19 => absurd h19 hd0)
        refine r_aload0 hX dX6_night_25 ?_
        refine g_wM_0_11 hX dX6_night_26 ?_
        refine r_push hX dX6_night_29 ?_
        refine r_ic_le hX dX6_night_31 (fun h31 => ?_) (fun h31 => absurd hm h31)
        refine r_push hX dX6_night_37 ?_
        refine r_istore2 hX dX6_night_38 rfl ?_
        refine vJw (w' := wM g b (su (su (aw σ 9 (σ.2 9)) 13 (σ.1 13)) 11 (σ.1 11))) rfl ?_
        exact hL39 (cl n0) 0 _ _ _ _ rfl (by omega) hsd hsp.symm
      · have e0 : (nightF D C (fun c => wshF (σ.2 2 c) (σ.2 3 c)) (σ.2 5) (σ.1 6) (σ.2 9, σ.1 13) (σ.1 11) n0) = (-1000000004, (σ.2 9, σ.1 13), σ.1 11) := by unfold nightF; rw [if_pos hr, if_neg h0, if_neg hm]
        rw [e0] at hQ
        refine r_iload1 hX dX6_night_0 ?_
        refine r_i2l hX dX6_night_1 ?_
        refine r_pushl hX dX6_night_2 ?_
        refine r_pushl hX dX6_night_3 ?_
        refine r_nS3i hX dX6_night_6 kX6_in (c_X6_in l g _ _ _) (by decide) (Nat.le_of_ble_eq_true rfl) ?_
        refine r_if_ne hX dX6_night_9 (fun h9 => ?_) (fun h9 => absurd h9 (by rw [bI_t (p := inB n0.toInt64.toInt (1 : Int64).toInt (99 : Int64).toInt) (by rw [Int32.toInt_toInt64]; exact hr)]; decide))
        refine r_aload0 hX dX6_night_15 ?_
        refine g_wM_0_0 hX dX6_night_16 ?_
        refine r_if_ne hX dX6_night_19 (fun h19 => ?_) (fun h19 => absurd h19 hd0)
        refine r_aload0 hX dX6_night_25 ?_
        refine g_wM_0_11 hX dX6_night_26 ?_
        refine r_push hX dX6_night_29 ?_
        refine r_ic_le hX dX6_night_31 (fun h31 => absurd h31 hm) (fun h31 => ?_)
        refine r_push hX dX6_night_34 ?_
        exact r_iret hX hQ dX6_night_36 (rfl) (rfl)
  · have e0 : (nightF D C (fun c => wshF (σ.2 2 c) (σ.2 3 c)) (σ.2 5) (σ.1 6) (σ.2 9, σ.1 13) (σ.1 11) n0) = (-1000000002, (σ.2 9, σ.1 13), σ.1 11) := by unfold nightF; rw [if_neg hr]
    rw [e0] at hQ
    refine r_iload1 hX dX6_night_0 ?_
    refine r_i2l hX dX6_night_1 ?_
    refine r_pushl hX dX6_night_2 ?_
    refine r_pushl hX dX6_night_3 ?_
    refine r_nS3i hX dX6_night_6 kX6_in (c_X6_in l g _ _ _) (by decide) (Nat.le_of_ble_eq_true rfl) ?_
    refine r_if_ne hX dX6_night_9 (fun h9 => absurd (bI_nz h9) (by rw [Int32.toInt_toInt64]; exact hr)) (fun h9 => ?_)
    refine r_push hX dX6_night_12 ?_
    exact r_iret hX hQ dX6_night_14 (rfl) (rfl)
