theorem g_wS_0_3 {X : CT} {l : Launch} {g : GT} {own : String} {cc : ByteArray} {R : Room} {cs sl pc nx : Nat} {lv : List (Option Value)} {st : List Value} {b : Nat → Nat} {σ : S2} (hX : oK X l g own cc R) (hd : dGf own cc pc 4 3 nx) (k : vJ X cs sl (wS g b σ) nx lv (.int (σ.1 3) :: st)) : vJ X cs sl (wS g b σ) pc lv (.ref (b 0) :: st) := r_get hX hd 0 rfl rfl k
theorem p_wS_0_3 {X : CT} {l : Launch} {g : GT} {own : String} {cc : ByteArray} {R : Room} {cs sl pc nx : Nat} {lv : List (Option Value)} {st : List Value} {b : Nat → Nat} {σ : S2} {v : Int32} (hX : oK X l g own cc R) (hd : dPf own cc pc 4 3 .int nx) (k : vJ X cs sl (wS g b (su σ 3 v)) nx lv st) : vJ X cs sl (wS g b σ) pc lv (.int v :: .ref (b 0) :: st) := r_put hX hd 0 rfl rfl rfl (Nat.le_of_ble_eq_true rfl) _ rfl k
theorem g_wS_0_4 {X : CT} {l : Launch} {g : GT} {own : String} {cc : ByteArray} {R : Room} {cs sl pc nx : Nat} {lv : List (Option Value)} {st : List Value} {b : Nat → Nat} {σ : S2} (hX : oK X l g own cc R) (hd : dGf own cc pc 4 4 nx) (k : vJ X cs sl (wS g b σ) nx lv (.int (σ.1 4) :: st)) : vJ X cs sl (wS g b σ) pc lv (.ref (b 0) :: st) := r_get hX hd 0 rfl rfl k
theorem p_wS_0_4 {X : CT} {l : Launch} {g : GT} {own : String} {cc : ByteArray} {R : Room} {cs sl pc nx : Nat} {lv : List (Option Value)} {st : List Value} {b : Nat → Nat} {σ : S2} {v : Int32} (hX : oK X l g own cc R) (hd : dPf own cc pc 4 4 .int nx) (k : vJ X cs sl (wS g b (su σ 4 v)) nx lv st) : vJ X cs sl (wS g b σ) pc lv (.int v :: .ref (b 0) :: st) := r_put hX hd 0 rfl rfl rfl (Nat.le_of_ble_eq_true rfl) _ rfl k
theorem g_wSP_3_6 {X : CT} {l : Launch} {g : GT} {own : String} {cc : ByteArray} {R : Room} {cs sl pc nx : Nat} {lv : List (Option Value)} {st : List Value} {b : Nat → Nat} {σ : S2} {d : Nat → Nat} {π : S2} (hX : oK X l g own cc R) (hd : dGf own cc pc 2 6 nx) (k : vJ X cs sl (wSP g b σ d π) nx lv (.ref (d 5) :: st)) : vJ X cs sl (wSP g b σ d π) pc lv (.ref (d 0) :: st) := r_get hX hd 3 rfl rfl k
theorem g_wSP_0_0 {X : CT} {l : Launch} {g : GT} {own : String} {cc : ByteArray} {R : Room} {cs sl pc nx : Nat} {lv : List (Option Value)} {st : List Value} {b : Nat → Nat} {σ : S2} {d : Nat → Nat} {π : S2} (hX : oK X l g own cc R) (hd : dGf own cc pc 4 0 nx) (k : vJ X cs sl (wSP g b σ d π) nx lv (.ref (b 1) :: st)) : vJ X cs sl (wSP g b σ d π) pc lv (.ref (b 0) :: st) := r_get hX hd 0 rfl rfl k
theorem g_wSP_0_1 {X : CT} {l : Launch} {g : GT} {own : String} {cc : ByteArray} {R : Room} {cs sl pc nx : Nat} {lv : List (Option Value)} {st : List Value} {b : Nat → Nat} {σ : S2} {d : Nat → Nat} {π : S2} (hX : oK X l g own cc R) (hd : dGf own cc pc 4 1 nx) (k : vJ X cs sl (wSP g b σ d π) nx lv (.ref (b 2) :: st)) : vJ X cs sl (wSP g b σ d π) pc lv (.ref (b 0) :: st) := r_get hX hd 0 rfl rfl k
theorem fr_wSP_wA_2_2 {g : GT} {b : Nat → Nat} {σ : S2} {d : Nat → Nat} {π : S2} {f' : Nat → Int32} : frm (wSP g b σ d π) (wA g (b 2) 14 (σ.2 1)) (wA g (b 2) 14 f') (wSP g b (aw σ 1 f') d π) := frm_sub [2] [0, 1, 3, 4, 5, 6, 7, 8] rfl rfl rfl rfl rfl rfl
theorem p_wSP_0_2 {X : CT} {l : Launch} {g : GT} {own : String} {cc : ByteArray} {R : Room} {cs sl pc nx : Nat} {lv : List (Option Value)} {st : List Value} {b : Nat → Nat} {σ : S2} {d : Nat → Nat} {π : S2} {v : Int32} (hX : oK X l g own cc R) (hd : dPf own cc pc 4 2 .int nx) (k : vJ X cs sl (wSP g b (su σ 2 v) d π) nx lv st) : vJ X cs sl (wSP g b σ d π) pc lv (.int v :: .ref (b 0) :: st) := r_put hX hd 0 rfl rfl rfl (Nat.le_of_ble_eq_true rfl) _ rfl k
theorem p_wSP_0_3 {X : CT} {l : Launch} {g : GT} {own : String} {cc : ByteArray} {R : Room} {cs sl pc nx : Nat} {lv : List (Option Value)} {st : List Value} {b : Nat → Nat} {σ : S2} {d : Nat → Nat} {π : S2} {v : Int32} (hX : oK X l g own cc R) (hd : dPf own cc pc 4 3 .int nx) (k : vJ X cs sl (wSP g b (su σ 3 v) d π) nx lv st) : vJ X cs sl (wSP g b σ d π) pc lv (.int v :: .ref (b 0) :: st) := r_put hX hd 0 rfl rfl rfl (Nat.le_of_ble_eq_true rfl) _ rfl k
theorem g_wSS_3_0 {X : CT} {l : Launch} {g : GT} {own : String} {cc : ByteArray} {R : Room} {cs sl pc nx : Nat} {lv : List (Option Value)} {st : List Value} {b : Nat → Nat} {σ : S2} {d : Nat → Nat} {τ : S2} (hX : oK X l g own cc R) (hd : dGf own cc pc 4 0 nx) (k : vJ X cs sl (wSS g b σ d τ) nx lv (.ref (d 1) :: st)) : vJ X cs sl (wSS g b σ d τ) pc lv (.ref (d 0) :: st) := r_get hX hd 3 rfl rfl k
theorem g_wSS_0_0 {X : CT} {l : Launch} {g : GT} {own : String} {cc : ByteArray} {R : Room} {cs sl pc nx : Nat} {lv : List (Option Value)} {st : List Value} {b : Nat → Nat} {σ : S2} {d : Nat → Nat} {τ : S2} (hX : oK X l g own cc R) (hd : dGf own cc pc 4 0 nx) (k : vJ X cs sl (wSS g b σ d τ) nx lv (.ref (b 1) :: st)) : vJ X cs sl (wSS g b σ d τ) pc lv (.ref (b 0) :: st) := r_get hX hd 0 rfl rfl k
theorem g_wSS_3_1 {X : CT} {l : Launch} {g : GT} {own : String} {cc : ByteArray} {R : Room} {cs sl pc nx : Nat} {lv : List (Option Value)} {st : List Value} {b : Nat → Nat} {σ : S2} {d : Nat → Nat} {τ : S2} (hX : oK X l g own cc R) (hd : dGf own cc pc 4 1 nx) (k : vJ X cs sl (wSS g b σ d τ) nx lv (.ref (d 2) :: st)) : vJ X cs sl (wSS g b σ d τ) pc lv (.ref (d 0) :: st) := r_get hX hd 3 rfl rfl k
theorem g_wSS_0_1 {X : CT} {l : Launch} {g : GT} {own : String} {cc : ByteArray} {R : Room} {cs sl pc nx : Nat} {lv : List (Option Value)} {st : List Value} {b : Nat → Nat} {σ : S2} {d : Nat → Nat} {τ : S2} (hX : oK X l g own cc R) (hd : dGf own cc pc 4 1 nx) (k : vJ X cs sl (wSS g b σ d τ) nx lv (.ref (b 2) :: st)) : vJ X cs sl (wSS g b σ d τ) pc lv (.ref (b 0) :: st) := r_get hX hd 0 rfl rfl k
theorem g_wSS_3_2 {X : CT} {l : Launch} {g : GT} {own : String} {cc : ByteArray} {R : Room} {cs sl pc nx : Nat} {lv : List (Option Value)} {st : List Value} {b : Nat → Nat} {σ : S2} {d : Nat → Nat} {τ : S2} (hX : oK X l g own cc R) (hd : dGf own cc pc 4 2 nx) (k : vJ X cs sl (wSS g b σ d τ) nx lv (.int (τ.1 2) :: st)) : vJ X cs sl (wSS g b σ d τ) pc lv (.ref (d 0) :: st) := r_get hX hd 3 rfl rfl k
theorem p_wSS_0_2 {X : CT} {l : Launch} {g : GT} {own : String} {cc : ByteArray} {R : Room} {cs sl pc nx : Nat} {lv : List (Option Value)} {st : List Value} {b : Nat → Nat} {σ : S2} {d : Nat → Nat} {τ : S2} {v : Int32} (hX : oK X l g own cc R) (hd : dPf own cc pc 4 2 .int nx) (k : vJ X cs sl (wSS g b (su σ 2 v) d τ) nx lv st) : vJ X cs sl (wSS g b σ d τ) pc lv (.int v :: .ref (b 0) :: st) := r_put hX hd 0 rfl rfl rfl (Nat.le_of_ble_eq_true rfl) _ rfl k
theorem g_wSS_3_3 {X : CT} {l : Launch} {g : GT} {own : String} {cc : ByteArray} {R : Room} {cs sl pc nx : Nat} {lv : List (Option Value)} {st : List Value} {b : Nat → Nat} {σ : S2} {d : Nat → Nat} {τ : S2} (hX : oK X l g own cc R) (hd : dGf own cc pc 4 3 nx) (k : vJ X cs sl (wSS g b σ d τ) nx lv (.int (τ.1 3) :: st)) : vJ X cs sl (wSS g b σ d τ) pc lv (.ref (d 0) :: st) := r_get hX hd 3 rfl rfl k
theorem p_wSS_0_3 {X : CT} {l : Launch} {g : GT} {own : String} {cc : ByteArray} {R : Room} {cs sl pc nx : Nat} {lv : List (Option Value)} {st : List Value} {b : Nat → Nat} {σ : S2} {d : Nat → Nat} {τ : S2} {v : Int32} (hX : oK X l g own cc R) (hd : dPf own cc pc 4 3 .int nx) (k : vJ X cs sl (wSS g b (su σ 3 v) d τ) nx lv st) : vJ X cs sl (wSS g b σ d τ) pc lv (.int v :: .ref (b 0) :: st) := r_put hX hd 0 rfl rfl rfl (Nat.le_of_ble_eq_true rfl) _ rfl k
theorem g_wSS_3_4 {X : CT} {l : Launch} {g : GT} {own : String} {cc : ByteArray} {R : Room} {cs sl pc nx : Nat} {lv : List (Option Value)} {st : List Value} {b : Nat → Nat} {σ : S2} {d : Nat → Nat} {τ : S2} (hX : oK X l g own cc R) (hd : dGf own cc pc 4 4 nx) (k : vJ X cs sl (wSS g b σ d τ) nx lv (.int (τ.1 4) :: st)) : vJ X cs sl (wSS g b σ d τ) pc lv (.ref (d 0) :: st) := r_get hX hd 3 rfl rfl k
theorem p_wSS_0_4 {X : CT} {l : Launch} {g : GT} {own : String} {cc : ByteArray} {R : Room} {cs sl pc nx : Nat} {lv : List (Option Value)} {st : List Value} {b : Nat → Nat} {σ : S2} {d : Nat → Nat} {τ : S2} {v : Int32} (hX : oK X l g own cc R) (hd : dPf own cc pc 4 4 .int nx) (k : vJ X cs sl (wSS g b (su σ 4 v) d τ) nx lv st) : vJ X cs sl (wSS g b σ d τ) pc lv (.int v :: .ref (b 0) :: st) := r_put hX hd 0 rfl rfl rfl (Nat.le_of_ble_eq_true rfl) _ rfl k
set_option maxHeartbeats 400000 in
theorem c_X5_bitOfRank (l : Launch) (g : GT)  (s r : Int32)  : Cx l g yX5_bitOfRank cX5_bitOfRank 4 (some .int) (k2_rm 1 30) [.int s, .int r] [] (some (.int (brN s r 31 0 0))) [] := by
  refine meth (own := "ChalkedDoors") (by decide) rfl (Nat.le_of_ble_eq_true rfl) [some (.int s), some (.int r), none, none] rfl (fun X hX hQ => ?_)
  generalize hsp : brN s r 31 0 0 = S at hQ
  have hL4 : ∀ (n i : Nat) (x : Int32) (p : Int32), x = nI i → i + n = 31 → S = brN s r n i p → vJ X 0 0 ([]) 4 [some (.int s), some (.int r), some (.int p), some (.int x)] [] := by
    intro n
    induction n with
    | zero =>
      intro i x p hx hn hs
      refine r_iload3 hX dX5_bitOfRank_4 ?_
      refine r_push hX dX5_bitOfRank_5 ?_
      refine r_ic_ge hX dX5_bitOfRank_7 (fun h7 => ?_) (fun h7 => absurd (lpx (e := 31) hx rfl (by omega) (by omega) (by omega)) h7)
      refine r_push hX dX5_bitOfRank_34 ?_
      exact r_iret hX hQ dX5_bitOfRank_35 (by rw [hs] <;> rfl) (rfl)
    | succ n ih =>
      intro i x p hx hn hs
      refine r_iload3 hX dX5_bitOfRank_4 ?_
      refine r_push hX dX5_bitOfRank_5 ?_
      refine r_ic_ge hX dX5_bitOfRank_7 (fun h7 => absurd h7 (lpn (e := 31) hx rfl (by omega) (by omega))) (fun h7 => ?_)
      refine r_iload0 hX dX5_bitOfRank_10 ?_
      refine r_iload3 hX dX5_bitOfRank_11 ?_
      refine r_nS2i hX dX5_bitOfRank_12 kX5_has (c_X5_has l g _ _) (by decide) (Nat.le_of_ble_eq_true rfl) ?_
      refine r_if_eq hX dX5_bitOfRank_15 (fun h15 => ?_) (fun h15 => ?_)
      · refine r_iinc3 hX dX5_bitOfRank_28 rfl ?_
        refine r_goto hX dX5_bitOfRank_31 ?_
        exact ih (i + 1) _ _ (by rw [hx]; exact nI_1 i) (by omega) (by rw [hs, brN_s, ← hx, if_neg (bI_z h15)])
      · refine r_iload2 hX dX5_bitOfRank_18 ?_
        refine r_iload1 hX dX5_bitOfRank_19 ?_
        refine r_ic_ne hX dX5_bitOfRank_20 (fun h20 => ?_) (fun h20 => ?_)
        · refine r_iinc2 hX dX5_bitOfRank_25 rfl ?_
          refine r_iinc3 hX dX5_bitOfRank_28 rfl ?_
          refine r_goto hX dX5_bitOfRank_31 ?_
          exact ih (i + 1) _ _ (by rw [hx]; exact nI_1 i) (by omega) (by rw [hs, brN_s, ← hx, if_pos (bI_nz h15), if_neg h20])
        · refine r_iload3 hX dX5_bitOfRank_23 ?_
          exact r_iret hX hQ dX5_bitOfRank_24 (by rw [hs, brN_s, ← hx, if_pos (bI_nz h15), if_pos h20]) (rfl)
  refine r_push hX dX5_bitOfRank_0 ?_
  refine r_istore2 hX dX5_bitOfRank_1 rfl ?_
  refine r_push hX dX5_bitOfRank_2 ?_
  refine r_istore3 hX dX5_bitOfRank_3 rfl ?_
  exact hL4 31 0 _ _ rfl (by omega) hsp.symm
set_option maxHeartbeats 400000 in
theorem c_X2_cheapestSetBeside (l : Launch) (g : GT) (b : Nat → Nat) (σ : S2) (t : Int32) (C : Nat) (hC : C ≤ 4) (eC : σ.1 1 = nI C) : Cx l g yX2_cheapestSetBeside cX2_cheapestSetBeside 5 (some .int) (k2_rm 2 60) [.ref (b 0), .int t] (wP g b σ) (some (.int (csbF C (σ.2 4) t))) (wP g b σ) := by
  refine meth (own := "ChalkedDoors$Plan") (by decide) rfl (Nat.le_of_ble_eq_true rfl) [some (.ref (b 0)), some (.int t), none, none, none] rfl (fun X hX hQ => ?_)
  unfold csbF at hQ
  generalize hsp : lp (csbC C (σ.2 4) t) (2 ^ C) 0 (0, 161) = S at hQ
  obtain ⟨hp1, hp2⟩ := p1C (C := C) (by omega) eC
  have hp3 : 2 ^ C ≤ 16 := Nat.pow_le_pow_right (n := 2) (by decide) hC
  have hL9 : ∀ (n i : Nat) (x : Int32) (p q : Int32), x = nI i → i + n = (2 ^ C) → S = lp (csbC C (σ.2 4) t) n i (p, q) → vJ X 0 0 (wP g b σ) 9 [some (.ref (b 0)), some (.int t), some (.int p), some (.int q), some (.int x)] [] := by
    intro n
    induction n with
    | zero =>
      intro i x p q hx hn hs
      refine r_iload4 hX dX2_cheapestSetBeside_9 ?_
      refine r_push hX dX2_cheapestSetBeside_11 ?_
      refine r_aload0 hX dX2_cheapestSetBeside_12 ?_
      refine g_wP_0_1 hX dX2_cheapestSetBeside_13 ?_
      refine r_ishl hX dX2_cheapestSetBeside_16 ?_
      refine r_ic_ge hX dX2_cheapestSetBeside_17 (fun h17 => ?_) (fun h17 => absurd (lpx (e := (2 ^ C)) hx hp1 (by omega) (by omega) (by omega)) h17)
      refine r_iload2 hX dX2_cheapestSetBeside_55 ?_
      exact r_iret hX hQ dX2_cheapestSetBeside_56 (by rw [hs] <;> rfl) (rfl)
    | succ n ih =>
      intro i x p q hx hn hs
      refine r_iload4 hX dX2_cheapestSetBeside_9 ?_
      refine r_push hX dX2_cheapestSetBeside_11 ?_
      refine r_aload0 hX dX2_cheapestSetBeside_12 ?_
      refine g_wP_0_1 hX dX2_cheapestSetBeside_13 ?_
      refine r_ishl hX dX2_cheapestSetBeside_16 ?_
      refine r_ic_ge hX dX2_cheapestSetBeside_17 (fun h17 => absurd h17 (lpn (e := (2 ^ C)) hx hp1 (by omega) (by omega))) (fun h17 => ?_)
      refine r_iload1 hX dX2_cheapestSetBeside_20 ?_
      refine r_iload4 hX dX2_cheapestSetBeside_21 ?_
      refine r_nS2i hX dX2_cheapestSetBeside_23 kX5_has (c_X5_has l g _ _) (by decide) (Nat.le_of_ble_eq_true rfl) ?_
      refine r_if_ne hX dX2_cheapestSetBeside_26 (fun h26 => ?_) (fun h26 => ?_)
      · refine r_iinc4 hX dX2_cheapestSetBeside_49 rfl ?_
        refine r_goto hX dX2_cheapestSetBeside_52 ?_
        exact ih (i + 1) _ _ _ (by rw [hx]; exact nI_1 i) (by omega) (by rw [hs]; show lp _ n (i + 1) (csbC _ _ _ i (p, q)) = _; unfold csbC; rw [← hx, if_neg (fun z => z.1 (bI_nz h26))])
      · refine r_aload0 hX dX2_cheapestSetBeside_29 ?_
        refine r_iload4 hX dX2_cheapestSetBeside_30 ?_
        refine r_aV1i hX dX2_cheapestSetBeside_32 kX2_costOf (c_X2_costOf l g _ _ _ C hC eC) ad_wP rfl (by decide) (Nat.le_of_ble_eq_true rfl) ?_
        refine r_iload3 hX dX2_cheapestSetBeside_35 ?_
        refine r_ic_ge hX dX2_cheapestSetBeside_36 (fun h36 => ?_) (fun h36 => ?_)
        · refine r_iinc4 hX dX2_cheapestSetBeside_49 rfl ?_
          refine r_goto hX dX2_cheapestSetBeside_52 ?_
          exact ih (i + 1) _ _ _ (by rw [hx]; exact nI_1 i) (by omega) (by rw [hs]; show lp _ n (i + 1) (csbC _ _ _ i (p, q)) = _; unfold csbC; rw [← hx, if_neg (fun z => nle_of_lt z.2 h36)])
        · refine r_aload0 hX dX2_cheapestSetBeside_39 ?_
          refine r_iload4 hX dX2_cheapestSetBeside_40 ?_
          refine r_aV1i hX dX2_cheapestSetBeside_42 kX2_costOf (c_X2_costOf l g _ _ _ C hC eC) ad_wP rfl (by decide) (Nat.le_of_ble_eq_true rfl) ?_
          refine r_istore3 hX dX2_cheapestSetBeside_45 rfl ?_
          refine r_iload4 hX dX2_cheapestSetBeside_46 ?_
          refine r_istore2 hX dX2_cheapestSetBeside_48 rfl ?_
          refine r_iinc4 hX dX2_cheapestSetBeside_49 rfl ?_
          refine r_goto hX dX2_cheapestSetBeside_52 ?_
          exact ih (i + 1) _ _ _ (by rw [hx]; exact nI_1 i) (by omega) (by rw [hs]; show lp _ n (i + 1) (csbC _ _ _ i (p, q)) = _; unfold csbC; rw [← hx, if_pos ⟨bI_z h26, lt_of_nle h36⟩])
  refine r_push hX dX2_cheapestSetBeside_0 ?_
  refine r_istore2 hX dX2_cheapestSetBeside_1 rfl ?_
  refine r_push hX dX2_cheapestSetBeside_2 ?_
  refine r_istore3 hX dX2_cheapestSetBeside_5 rfl ?_
  refine r_push hX dX2_cheapestSetBeside_6 ?_
  refine r_istore4 hX dX2_cheapestSetBeside_7 rfl ?_
  exact hL9 (2 ^ C) 0 _ _ _ rfl (by omega) hsp.symm
set_option maxHeartbeats 400000 in
theorem c_X2_cheapestSets (l : Launch) (g : GT) (b : Nat → Nat) (σ : S2)  (D : Nat) (hD : D ≤ 14) (eD : σ.1 0 = nI D) (C : Nat) (hC : C ≤ 4) (eC : σ.1 1 = nI C) : Cx l g yX2_cheapestSets cX2_cheapestSets 3 (some .int) (k2_rm 3 90) [.ref (b 0)] (wP g b σ) (some (.int (csF D C (σ.2 4)))) (wP g b σ) := by
  refine meth (own := "ChalkedDoors$Plan") (by decide) rfl (Nat.le_of_ble_eq_true rfl) [some (.ref (b 0)), none, none] rfl (fun X hX hQ => ?_)
  unfold csF at hQ
  generalize hsp : lp (fun _ w => w ||| bit (csbF C (σ.2 4) w)) D 0 0 = S at hQ
  obtain ⟨hp1, hp2⟩ := p1C (C := C) (by omega) eC
  have hp3 : 2 ^ C ≤ 16 := Nat.pow_le_pow_right (n := 2) (by decide) hC
  have hL19 : ∀ (n i : Nat) (x : Int32) (r : Int32), x = nI i → i + n = D → nI D ≤ nI (2 ^ C) → S = lp (fun _ w => w ||| bit (csbF C (σ.2 4) w)) n i r → vJ X 0 0 (wP g b σ) 19 [some (.ref (b 0)), some (.int r), some (.int x)] [] := by
    intro n
    induction n with
    | zero =>
      intro i x r hx hn hle hs
      refine r_iload2 hX dX2_cheapestSets_19 ?_
      refine r_aload0 hX dX2_cheapestSets_20 ?_
      refine g_wP_0_0 hX dX2_cheapestSets_21 ?_
      refine r_ic_ge hX dX2_cheapestSets_24 (fun h24 => ?_) (fun h24 => absurd (lpx (e := D) hx eD (by omega) (by omega) (by omega)) h24)
      refine r_iload1 hX dX2_cheapestSets_43 ?_
      exact r_iret hX hQ dX2_cheapestSets_44 (by rw [if_pos hle, hs] <;> rfl) (rfl)
    | succ n ih =>
      intro i x r hx hn hle hs
      refine r_iload2 hX dX2_cheapestSets_19 ?_
      refine r_aload0 hX dX2_cheapestSets_20 ?_
      refine g_wP_0_0 hX dX2_cheapestSets_21 ?_
      refine r_ic_ge hX dX2_cheapestSets_24 (fun h24 => absurd h24 (lpn (e := D) hx eD (by omega) (by omega))) (fun h24 => ?_)
      refine r_iload1 hX dX2_cheapestSets_27 ?_
      refine r_push hX dX2_cheapestSets_28 ?_
      refine r_aload0 hX dX2_cheapestSets_29 ?_
      refine r_iload1 hX dX2_cheapestSets_30 ?_
      refine r_aV1i hX dX2_cheapestSets_31 kX2_cheapestSetBeside (c_X2_cheapestSetBeside l g _ _ _ C hC eC) ad_wP rfl (by decide) (Nat.le_of_ble_eq_true rfl) ?_
      refine r_ishl hX dX2_cheapestSets_34 ?_
      refine r_ior hX dX2_cheapestSets_35 ?_
      refine r_istore1 hX dX2_cheapestSets_36 rfl ?_
      refine r_iinc2 hX dX2_cheapestSets_37 rfl ?_
      refine r_goto hX dX2_cheapestSets_40 ?_
      exact ih (i + 1) _ _ (by rw [hx]; exact nI_1 i) (by omega) hle hs
  refine r_aload0 hX dX2_cheapestSets_0 ?_
  refine g_wP_0_0 hX dX2_cheapestSets_1 ?_
  refine r_push hX dX2_cheapestSets_4 ?_
  refine r_aload0 hX dX2_cheapestSets_5 ?_
  refine g_wP_0_1 hX dX2_cheapestSets_6 ?_
  refine r_ishl hX dX2_cheapestSets_9 ?_
  refine r_ic_le hX dX2_cheapestSets_10 (fun h10 => ?_) (fun h10 => ?_)
  · refine r_push hX dX2_cheapestSets_15 ?_
    refine r_istore1 hX dX2_cheapestSets_16 rfl ?_
    refine r_push hX dX2_cheapestSets_17 ?_
    refine r_istore2 hX dX2_cheapestSets_18 rfl ?_
    exact hL19 D 0 _ _ rfl (by omega) (by rw [← eD, ← hp1]; exact h10) hsp.symm
  · refine r_push hX dX2_cheapestSets_13 ?_
    exact r_iret hX hQ dX2_cheapestSets_14 (by rw [if_neg (show ¬ nI D ≤ nI (2 ^ C) by rw [← eD, ← hp1]; exact h10)]) (rfl)
set_option maxHeartbeats 400000 in
theorem c_X2_cheapestPair (l : Launch) (g : GT) (b : Nat → Nat) (σ : S2) (t : Int32) (C : Nat) (hC : C ≤ 4) (eC : σ.1 1 = nI C) : Cx l g yX2_cheapestPair cX2_cheapestPair 7 (some .int) (k2_rm 2 60) [.ref (b 0), .int t] (wP g b σ) (some (.int (prF C (σ.2 4) t))) (wP g b σ) := by
  refine meth (own := "ChalkedDoors$Plan") (by decide) rfl (Nat.le_of_ble_eq_true rfl) [some (.ref (b 0)), some (.int t), none, none, none, none, none] rfl (fun X hX hQ => ?_)
  unfold prF at hQ
  generalize hsp : lp (fun one z => lp (prC C (σ.2 4) t one) (2 ^ C - (one + 1)) (one + 1) z) (2 ^ C) 0 (-1, 161) = S at hQ
  obtain ⟨hp1, hp2⟩ := p1C (C := C) (by omega) eC
  have hp3 : 2 ^ C ≤ 16 := Nat.pow_le_pow_right (n := 2) (by decide) hC
  have hL9 : ∀ (n i : Nat) (x : Int32) (p q : Int32), x = nI i → i + n = (2 ^ C) → S = lp (fun one z => lp (prC C (σ.2 4) t one) (2 ^ C - (one + 1)) (one + 1) z) n i (p, q) → vJ X 0 0 (wP g b σ) 9 [some (.ref (b 0)), some (.int t), some (.int p), some (.int q), some (.int x), none, none] [] := by
    intro n
    induction n with
    | zero =>
      intro i x p q hx hn hs
      refine r_iload4 hX dX2_cheapestPair_9 ?_
      refine r_push hX dX2_cheapestPair_11 ?_
      refine r_aload0 hX dX2_cheapestPair_12 ?_
      refine g_wP_0_1 hX dX2_cheapestPair_13 ?_
      refine r_ishl hX dX2_cheapestPair_16 ?_
      refine r_ic_ge hX dX2_cheapestPair_17 (fun h17 => ?_) (fun h17 => absurd (lpx (e := (2 ^ C)) hx hp1 (by omega) (by omega) (by omega)) h17)
      refine r_iload2 hX dX2_cheapestPair_95 ?_
      exact r_iret hX hQ dX2_cheapestPair_96 (by rw [hs] <;> rfl) (rfl)
    | succ n ih =>
      intro i x p q hx hn hs
      have hL26 : ∀ (n2 i2 : Nat) (y : Int32) (p' q' : Int32) (o6 : Option Value), y = nI i2 → i2 + n2 = (2 ^ C) → lp (prC C (σ.2 4) t i) (2 ^ C - (i + 1)) (i + 1) (p, q) = lp (prC C (σ.2 4) t i) n2 i2 (p', q') → vJ X 0 0 (wP g b σ) 26 [some (.ref (b 0)), some (.int t), some (.int p'), some (.int q'), some (.int x), some (.int y), o6] [] := by
        intro n2
        induction n2 with
        | zero =>
          intro i2 y p' q' o6 hx2 hn2 hT
          refine r_iload5 hX dX2_cheapestPair_26 ?_
          refine r_push hX dX2_cheapestPair_28 ?_
          refine r_aload0 hX dX2_cheapestPair_29 ?_
          refine g_wP_0_1 hX dX2_cheapestPair_30 ?_
          refine r_ishl hX dX2_cheapestPair_33 ?_
          refine r_ic_ge hX dX2_cheapestPair_34 (fun h34 => ?_) (fun h34 => absurd (lpx (e := (2 ^ C)) hx2 hp1 (by omega) (by omega) (by omega)) h34)
          refine r_iinc4 hX dX2_cheapestPair_89 rfl ?_
          refine r_goto hX dX2_cheapestPair_92 ?_
          refine r_fg5 (r_fg6 ?_)
          exact ih (i + 1) _ _ _ (by rw [hx]; exact nI_1 i) (by omega) (by rw [hs]; show lp _ n (i + 1) (lp (prC _ _ _ i) (2 ^ C - (i + 1)) (i + 1) (p, q)) = _; rw [hT]; rfl)
        | succ n2 ih2 =>
          intro i2 y p' q' o6 hx2 hn2 hT
          refine r_iload5 hX dX2_cheapestPair_26 ?_
          refine r_push hX dX2_cheapestPair_28 ?_
          refine r_aload0 hX dX2_cheapestPair_29 ?_
          refine g_wP_0_1 hX dX2_cheapestPair_30 ?_
          refine r_ishl hX dX2_cheapestPair_33 ?_
          refine r_ic_ge hX dX2_cheapestPair_34 (fun h34 => absurd h34 (lpn (e := (2 ^ C)) hx2 hp1 (by omega) (by omega))) (fun h34 => ?_)
          refine r_aload0 hX dX2_cheapestPair_37 ?_
          refine r_iload4 hX dX2_cheapestPair_38 ?_
          refine r_aV1i hX dX2_cheapestPair_40 kX2_costOf (c_X2_costOf l g _ _ _ C hC eC) ad_wP rfl (by decide) (Nat.le_of_ble_eq_true rfl) ?_
          refine r_aload0 hX dX2_cheapestPair_43 ?_
          refine r_iload5 hX dX2_cheapestPair_44 ?_
          refine r_aV1i hX dX2_cheapestPair_46 kX2_costOf (c_X2_costOf l g _ _ _ C hC eC) ad_wP rfl (by decide) (Nat.le_of_ble_eq_true rfl) ?_
          refine r_iadd hX dX2_cheapestPair_49 ?_
          refine r_istore6 hX dX2_cheapestPair_50 rfl ?_
          refine r_iload4 hX dX2_cheapestPair_52 ?_
          refine r_iload5 hX dX2_cheapestPair_54 ?_
          refine r_ixor hX dX2_cheapestPair_56 ?_
          refine r_nS1i hX dX2_cheapestPair_57 kJ6_bitCount_0f7a4 (c_bitCount l g _) (by decide) (Nat.le_of_ble_eq_true rfl) ?_
          refine r_iload1 hX dX2_cheapestPair_60 ?_
          refine r_ic_lt hX dX2_cheapestPair_61 (fun h61 => ?_) (fun h61 => ?_)
          · refine r_iinc5 hX dX2_cheapestPair_83 rfl ?_
            refine r_goto hX dX2_cheapestPair_86 ?_
            exact ih2 (i2 + 1) _ _ _ _ (by rw [hx2]; exact nI_1 i2) (by omega) (by rw [hT]; show lp _ n2 (i2 + 1) (prC _ _ _ _ i2 (p', q')) = _; unfold prC; rw [← hx, ← hx2, if_neg (fun z => z.1 h61)])
          · refine r_iload6 hX dX2_cheapestPair_64 ?_
            refine r_iload3 hX dX2_cheapestPair_66 ?_
            refine r_ic_ge hX dX2_cheapestPair_67 (fun h67 => ?_) (fun h67 => ?_)
            · refine r_iinc5 hX dX2_cheapestPair_83 rfl ?_
              refine r_goto hX dX2_cheapestPair_86 ?_
              exact ih2 (i2 + 1) _ _ _ _ (by rw [hx2]; exact nI_1 i2) (by omega) (by rw [hT]; show lp _ n2 (i2 + 1) (prC _ _ _ _ i2 (p', q')) = _; unfold prC; rw [← hx, ← hx2, if_neg (fun z => nle_of_lt z.2 h67)])
            · refine r_iload6 hX dX2_cheapestPair_70 ?_
              refine r_istore3 hX dX2_cheapestPair_72 rfl ?_
              refine r_push hX dX2_cheapestPair_73 ?_
              refine r_iload4 hX dX2_cheapestPair_74 ?_
              refine r_ishl hX dX2_cheapestPair_76 ?_
              refine r_push hX dX2_cheapestPair_77 ?_
              refine r_iload5 hX dX2_cheapestPair_78 ?_
              refine r_ishl hX dX2_cheapestPair_80 ?_
              refine r_ior hX dX2_cheapestPair_81 ?_
              refine r_istore2 hX dX2_cheapestPair_82 rfl ?_
              refine r_iinc5 hX dX2_cheapestPair_83 rfl ?_
              refine r_goto hX dX2_cheapestPair_86 ?_
              exact ih2 (i2 + 1) _ _ _ _ (by rw [hx2]; exact nI_1 i2) (by omega) (by rw [hT]; show lp _ n2 (i2 + 1) (prC _ _ _ _ i2 (p', q')) = _; unfold prC; rw [← hx, ← hx2, if_pos ⟨h61, lt_of_nle h67⟩])
      refine r_iload4 hX dX2_cheapestPair_9 ?_
      refine r_push hX dX2_cheapestPair_11 ?_
      refine r_aload0 hX dX2_cheapestPair_12 ?_
      refine g_wP_0_1 hX dX2_cheapestPair_13 ?_
      refine r_ishl hX dX2_cheapestPair_16 ?_
      refine r_ic_ge hX dX2_cheapestPair_17 (fun h17 => absurd h17 (lpn (e := (2 ^ C)) hx hp1 (by omega) (by omega))) (fun h17 => ?_)
      refine r_iload4 hX dX2_cheapestPair_20 ?_
      refine r_push hX dX2_cheapestPair_22 ?_
      refine r_iadd hX dX2_cheapestPair_23 ?_
      refine r_istore5 hX dX2_cheapestPair_24 rfl ?_
      exact hL26 (2 ^ C - (i + 1)) (i + 1) _ p q _ (by rw [hx]; exact nI_1 i) (by omega) rfl
  refine r_push hX dX2_cheapestPair_0 ?_
  refine r_istore2 hX dX2_cheapestPair_1 rfl ?_
  refine r_push hX dX2_cheapestPair_2 ?_
  refine r_istore3 hX dX2_cheapestPair_5 rfl ?_
  refine r_push hX dX2_cheapestPair_6 ?_
  refine r_istore4 hX dX2_cheapestPair_7 rfl ?_
  exact hL9 (2 ^ C) 0 _ _ _ rfl (by omega) hsp.symm
set_option maxHeartbeats 400000 in
theorem c_X2_costOfCode (l : Launch) (g : GT) (b : Nat → Nat) (σ : S2) (t : Int32) (C : Nat) (hC : C ≤ 4) (eC : σ.1 1 = nI C) : Cx l g yX2_costOfCode cX2_costOfCode 4 (some .int) (k2_rm 2 60) [.ref (b 0), .int t] (wP g b σ) (some (.int (cocF C (σ.2 4) t))) (wP g b σ) := by
  refine meth (own := "ChalkedDoors$Plan") (by decide) rfl (Nat.le_of_ble_eq_true rfl) [some (.ref (b 0)), some (.int t), none, none] rfl (fun X hX hQ => ?_)
  generalize hsp : cocF C (σ.2 4) t = S at hQ
  unfold cocF at hsp
  obtain ⟨hp1, hp2⟩ := p1C (C := C) (by omega) eC
  have hp3 : 2 ^ C ≤ 16 := Nat.pow_le_pow_right (n := 2) (by decide) hC
  have hL4 : ∀ (n i : Nat) (x : Int32) (r : Int32), x = nI i → i + n = (2 ^ C) → S = lp (fun s a => if hb t (nI s) then a + costF C (σ.2 4) (nI s) else a) n i r → vJ X 0 0 (wP g b σ) 4 [some (.ref (b 0)), some (.int t), some (.int r), some (.int x)] [] := by
    intro n
    induction n with
    | zero =>
      intro i x r hx hn hs
      refine r_iload3 hX dX2_costOfCode_4 ?_
      refine r_push hX dX2_costOfCode_5 ?_
      refine r_aload0 hX dX2_costOfCode_6 ?_
      refine g_wP_0_1 hX dX2_costOfCode_7 ?_
      refine r_ishl hX dX2_costOfCode_10 ?_
      refine r_ic_ge hX dX2_costOfCode_11 (fun h11 => ?_) (fun h11 => absurd (lpx (e := (2 ^ C)) hx hp1 (by omega) (by omega) (by omega)) h11)
      refine r_iload2 hX dX2_costOfCode_36 ?_
      exact r_iret hX hQ dX2_costOfCode_37 (by rw [hs] <;> rfl) (rfl)
    | succ n ih =>
      intro i x r hx hn hs
      refine r_iload3 hX dX2_costOfCode_4 ?_
      refine r_push hX dX2_costOfCode_5 ?_
      refine r_aload0 hX dX2_costOfCode_6 ?_
      refine g_wP_0_1 hX dX2_costOfCode_7 ?_
      refine r_ishl hX dX2_costOfCode_10 ?_
      refine r_ic_ge hX dX2_costOfCode_11 (fun h11 => absurd h11 (lpn (e := (2 ^ C)) hx hp1 (by omega) (by omega))) (fun h11 => ?_)
      refine r_iload1 hX dX2_costOfCode_14 ?_
      refine r_iload3 hX dX2_costOfCode_15 ?_
      refine r_nS2i hX dX2_costOfCode_16 kX5_has (c_X5_has l g _ _) (by decide) (Nat.le_of_ble_eq_true rfl) ?_
      refine r_if_eq hX dX2_costOfCode_19 (fun h19 => ?_) (fun h19 => ?_)
      · refine r_iinc3 hX dX2_costOfCode_30 rfl ?_
        refine r_goto hX dX2_costOfCode_33 ?_
        exact ih (i + 1) _ _ (by rw [hx]; exact nI_1 i) (by omega) (by rw [hs]; show lp _ n (i + 1) (ite _ _ _) = _; rw [← hx, if_neg (bI_z h19)])
      · refine r_iload2 hX dX2_costOfCode_22 ?_
        refine r_aload0 hX dX2_costOfCode_23 ?_
        refine r_iload3 hX dX2_costOfCode_24 ?_
        refine r_aV1i hX dX2_costOfCode_25 kX2_costOf (c_X2_costOf l g _ _ _ C hC eC) ad_wP rfl (by decide) (Nat.le_of_ble_eq_true rfl) ?_
        refine r_iadd hX dX2_costOfCode_28 ?_
        refine r_istore2 hX dX2_costOfCode_29 rfl ?_
        refine r_iinc3 hX dX2_costOfCode_30 rfl ?_
        refine r_goto hX dX2_costOfCode_33 ?_
        exact ih (i + 1) _ _ (by rw [hx]; exact nI_1 i) (by omega) (by rw [hs]; show lp _ n (i + 1) (ite _ _ _) = _; rw [← hx, if_pos (bI_nz h19)])
  refine r_push hX dX2_costOfCode_0 ?_
  refine r_istore2 hX dX2_costOfCode_1 rfl ?_
  refine r_push hX dX2_costOfCode_2 ?_
  refine r_istore3 hX dX2_costOfCode_3 rfl ?_
  exact hL4 (2 ^ C) 0 _ _ rfl (by omega) hsp.symm
set_option maxHeartbeats 400000 in
theorem c_X2_bestCode (l : Launch) (g : GT) (b : Nat → Nat) (σ : S2) (t : Int32) (D : Nat) (hD : D ≤ 14) (eD : σ.1 0 = nI D) (C : Nat) (hC : C ≤ 4) (eC : σ.1 1 = nI C) : Cx l g yX2_bestCode cX2_bestCode 2 (some .int) (k2_rm 4 120) [.ref (b 0), .int t] (wP g b σ) (some (.int (bstF D C (σ.2 4) t))) (wP g b σ) := by
  refine meth (own := "ChalkedDoors$Plan") (by decide) rfl (Nat.le_of_ble_eq_true rfl) [some (.ref (b 0)), some (.int t)] rfl (fun X hX hQ => ?_)
  refine r_iload1 hX dX2_bestCode_0 ?_
  refine r_push hX dX2_bestCode_1 ?_
  refine r_ic_ne hX dX2_bestCode_2 (fun h2 => ?_) (fun h2 => ?_)
  · refine r_aload0 hX dX2_bestCode_10 ?_
    refine g_wP_0_0 hX dX2_bestCode_11 ?_
    refine r_push hX dX2_bestCode_14 ?_
    refine r_ic_ge hX dX2_bestCode_15 (fun h15 => ?_) (fun h15 => ?_)
    · refine r_aload0 hX dX2_bestCode_27 ?_
      refine g_wP_0_0 hX dX2_bestCode_28 ?_
      refine r_push hX dX2_bestCode_31 ?_
      refine r_ic_ne hX dX2_bestCode_32 (fun h32 => ?_) (fun h32 => ?_)
      · refine r_push hX dX2_bestCode_43 ?_
        exact r_iret hX hQ dX2_bestCode_44 (by unfold bstF; rw [if_neg h2, if_neg (show ¬ D < 2 from fun z => absurd h15 (by rw [eD]; exact nI_ge z (by decide))), if_neg (show ¬ D = 2 from fun z => h32 (by rw [eD, z]; rfl))]) (rfl)
      · refine r_aload0 hX dX2_bestCode_35 ?_
        refine r_iload1 hX dX2_bestCode_36 ?_
        refine r_aV1i hX dX2_bestCode_37 kX2_cheapestPair (c_X2_cheapestPair l g _ _ _ C hC eC) ad_wP rfl (by decide) (Nat.le_of_ble_eq_true rfl) ?_
        refine r_goto hX dX2_bestCode_40 ?_
        exact r_iret hX hQ dX2_bestCode_44 (by unfold bstF; rw [if_neg h2, if_neg (show ¬ D < 2 from fun z => absurd h15 (by rw [eD]; exact nI_ge z (by decide))), if_pos (show D = 2 from (nI_eq (by omega) (by decide)).mp (eD.symm.trans h32))]) (rfl)
    · refine r_push hX dX2_bestCode_18 ?_
      refine r_aload0 hX dX2_bestCode_19 ?_
      refine g_wP_0_0 hX dX2_bestCode_20 ?_
      refine r_ishl hX dX2_bestCode_23 ?_
      refine r_push hX dX2_bestCode_24 ?_
      refine r_isub hX dX2_bestCode_25 ?_
      exact r_iret hX hQ dX2_bestCode_26 (by unfold bstF; rw [if_neg h2, if_pos (show D < 2 from Nat.lt_of_not_le (fun z => h15 (by rw [eD]; exact nI_le z (by omega)))), ← eD]) (rfl)
  · refine r_aload0 hX dX2_bestCode_5 ?_
    refine r_aV0i hX dX2_bestCode_6 kX2_cheapestSets (c_X2_cheapestSets l g _ _ D hD eD C hC eC) ad_wP rfl (by decide) (Nat.le_of_ble_eq_true rfl) ?_
    exact r_iret hX hQ dX2_bestCode_9 (by unfold bstF; rw [if_pos h2]) (rfl)
set_option maxHeartbeats 400000 in
theorem c_X4_spend (l : Launch) (g : GT) (b : Nat → Nat) (σ : S2) (c : Int32)  : Cx l g yX4_spend cX4_spend 2 none (k2_rm 1 30) [.ref (b 0), .int c] (wS g b σ) none (wS g b (su σ 3 (payF (σ.1 3) c))) := by
  refine meth (own := "ChalkedDoors$Scene") (by decide) rfl (Nat.le_of_ble_eq_true rfl) [some (.ref (b 0)), some (.int c)] rfl (fun X hX hQ => ?_)
  refine r_aload0 hX dX4_spend_0 ?_
  refine r_push hX dX4_spend_1 ?_
  refine r_aload0 hX dX4_spend_3 ?_
  refine g_wS_0_3 hX dX4_spend_4 ?_
  refine r_iload1 hX dX4_spend_7 ?_
  refine r_iadd hX dX4_spend_8 ?_
  refine r_mmin hX dX4_spend_9 hm_min_X4 (by decide) (Nat.le_of_ble_eq_true rfl) (by decide) (by decide) ?_
  refine p_wS_0_3 hX dX4_spend_12 ?_
  exact r_vret hX hQ dX4_spend_15 (by rw [← minE])
set_option maxHeartbeats 400000 in
theorem c_X4_draw (l : Launch) (g : GT) (b : Nat → Nat) (σ : S2)   : Cx l g yX4_draw cX4_draw 1 (some .int) (k2_rm 0 0) [.ref (b 0)] (wS g b σ) (some (.int (dqF (drawF (σ.1 4))))) (wS g b (su σ 4 (drawF (σ.1 4)))) := by
  refine meth (own := "ChalkedDoors$Scene") (by decide) rfl (Nat.le_of_ble_eq_true rfl) [some (.ref (b 0))] rfl (fun X hX hQ => ?_)
  refine r_aload0 hX dX4_draw_0 ?_
  refine r_aload0 hX dX4_draw_1 ?_
  refine g_wS_0_4 hX dX4_draw_2 ?_
  refine r_i2l hX dX4_draw_5 ?_
  refine r_pushl hX dX4_draw_6 ?_
  refine r_lmul hX dX4_draw_9 ?_
  refine r_pushl hX dX4_draw_10 ?_
  refine r_ladd hX dX4_draw_13 ?_
  refine r_pushl hX dX4_draw_14 ?_
  refine r_land hX dX4_draw_17 ?_
  refine r_l2i hX dX4_draw_18 ?_
  refine p_wS_0_4 hX dX4_draw_19 ?_
  refine r_aload0 hX dX4_draw_22 ?_
  refine g_wS_0_4 hX dX4_draw_23 ?_
  refine r_push hX dX4_draw_26 ?_
  refine r_idiv hX dX4_draw_28 (by decide) ?_
  exact r_iret hX hQ dX4_draw_29 (by rw [dqF_eq, drawF_eq]; rfl) (by rw [drawF_eq] <;> rfl)
set_option maxHeartbeats 400000 in
theorem c_X4_begin (l : Launch) (g : GT) (b : Nat → Nat) (σ : S2) (d : Nat → Nat) (π : S2)   : Cx l g yX4_begin cX4_begin 2 none (k2_rm 1 30) [.ref (b 0), .ref (d 0)] (wSP g b σ d π) none (wSP g b (su (su (aw (aw σ 0 (cpN 14 (π.2 6) (σ.2 0))) 1 (cpN 14 (fun _ => 0) (σ.2 1))) 2 0) 3 0) d π) := by
  refine meth (own := "ChalkedDoors$Scene") (by decide) rfl (Nat.le_of_ble_eq_true rfl) [some (.ref (b 0)), some (.ref (d 0))] rfl (fun X hX hQ => ?_)
  refine r_aload1 hX dX4_begin_0 ?_
  refine g_wSP_3_6 hX dX4_begin_1 ?_
  refine r_push hX dX4_begin_4 ?_
  refine r_aload0 hX dX4_begin_5 ?_
  refine g_wSP_0_0 hX dX4_begin_6 ?_
  refine r_push hX dX4_begin_9 ?_
  refine r_push hX dX4_begin_10 ?_
  refine r_copy hX dX4_begin_12 hm_copy_X4 8 1 rfl rfl (by decide) (by decide) (by decide) (Nat.le_of_ble_eq_true rfl) (wSP g b (aw σ 0 (va_cpy (π.2 6) (σ.2 0) 0 0 14)) d π) rfl ?_
  rw [cpy_cpN]
  refine r_aload0 hX dX4_begin_15 ?_
  refine g_wSP_0_1 hX dX4_begin_16 ?_
  refine r_push hX dX4_begin_19 ?_
  refine r_cS2v hX dX4_begin_20 kJ7_fill_53178 fr_wSP_wA_2_2 (c_fill l g _ _ _ _ (by decide)) (by decide) (Nat.le_of_ble_eq_true rfl) ?_
  refine r_aload0 hX dX4_begin_23 ?_
  refine r_push hX dX4_begin_24 ?_
  refine p_wSP_0_2 hX dX4_begin_25 ?_
  refine r_aload0 hX dX4_begin_28 ?_
  refine r_push hX dX4_begin_29 ?_
  refine p_wSP_0_3 hX dX4_begin_30 ?_
  exact r_vret hX hQ dX4_begin_33 (rfl)
set_option maxHeartbeats 400000 in
theorem c_X4_become (l : Launch) (g : GT) (b : Nat → Nat) (σ : S2) (d : Nat → Nat) (τ : S2)   : Cx l g yX4_become cX4_become 2 none (k2_rm 1 30) [.ref (b 0), .ref (d 0)] (wSS g b σ d τ) none (wSS g b (su (su (su (aw (aw σ 0 (cpN 14 (τ.2 0) (σ.2 0))) 1 (cpN 14 (τ.2 1) (σ.2 1))) 2 (τ.1 2)) 3 (τ.1 3)) 4 (τ.1 4)) d τ) := by
  refine meth (own := "ChalkedDoors$Scene") (by decide) rfl (Nat.le_of_ble_eq_true rfl) [some (.ref (b 0)), some (.ref (d 0))] rfl (fun X hX hQ => ?_)
  refine r_aload1 hX dX4_become_0 ?_
  refine g_wSS_3_0 hX dX4_become_1 ?_
  refine r_push hX dX4_become_4 ?_
  refine r_aload0 hX dX4_become_5 ?_
  refine g_wSS_0_0 hX dX4_become_6 ?_
  refine r_push hX dX4_become_9 ?_
  refine r_push hX dX4_become_10 ?_
  refine r_copy hX dX4_become_12 hm_copy_X4 4 1 rfl rfl (by decide) (by decide) (by decide) (Nat.le_of_ble_eq_true rfl) (wSS g b (aw σ 0 (va_cpy (τ.2 0) (σ.2 0) 0 0 14)) d τ) rfl ?_
  rw [cpy_cpN]
  refine r_aload1 hX dX4_become_15 ?_
  refine g_wSS_3_1 hX dX4_become_16 ?_
  refine r_push hX dX4_become_19 ?_
  refine r_aload0 hX dX4_become_20 ?_
  refine g_wSS_0_1 hX dX4_become_21 ?_
  refine r_push hX dX4_become_24 ?_
  refine r_push hX dX4_become_25 ?_
  refine r_copy hX dX4_become_27 hm_copy_X4 5 2 rfl rfl (by decide) (by decide) (by decide) (Nat.le_of_ble_eq_true rfl) (wSS g b (aw (aw σ 0 (cpN 14 (τ.2 0) (σ.2 0))) 1 (va_cpy (τ.2 1) (σ.2 1) 0 0 14)) d τ) rfl ?_
  rw [cpy_cpN]
  refine r_aload0 hX dX4_become_30 ?_
  refine r_aload1 hX dX4_become_31 ?_
  refine g_wSS_3_2 hX dX4_become_32 ?_
  refine p_wSS_0_2 hX dX4_become_35 ?_
  refine r_aload0 hX dX4_become_38 ?_
  refine r_aload1 hX dX4_become_39 ?_
  refine g_wSS_3_3 hX dX4_become_40 ?_
  refine p_wSS_0_3 hX dX4_become_43 ?_
  refine r_aload0 hX dX4_become_46 ?_
  refine r_aload1 hX dX4_become_47 ?_
  refine g_wSS_3_4 hX dX4_become_48 ?_
  refine p_wSS_0_4 hX dX4_become_51 ?_
  exact r_vret hX hQ dX4_become_54 (rfl)
