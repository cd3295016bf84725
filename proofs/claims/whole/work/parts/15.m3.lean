theorem g_wM_0_15 {X : CT} {l : Launch} {g : GT} {own : String} {cc : ByteArray} {R : Room} {cs sl pc nx : Nat} {lv : List (Option Value)} {st : List Value} {b : Nat → Nat} {σ : S2} (hX : oK X l g own cc R) (hd : dGf own cc pc 6 15 nx) (k : vJ X cs sl (wM g b σ) nx lv (.int (σ.1 15) :: st)) : vJ X cs sl (wM g b σ) pc lv (.ref (b 0) :: st) := r_get hX hd 0 rfl rfl k
theorem g_wM_0_14 {X : CT} {l : Launch} {g : GT} {own : String} {cc : ByteArray} {R : Room} {cs sl pc nx : Nat} {lv : List (Option Value)} {st : List Value} {b : Nat → Nat} {σ : S2} (hX : oK X l g own cc R) (hd : dGf own cc pc 6 14 nx) (k : vJ X cs sl (wM g b σ) nx lv (.ref (b 7) :: st)) : vJ X cs sl (wM g b σ) pc lv (.ref (b 0) :: st) := r_get hX hd 0 rfl rfl k
theorem s_wM_7 {X : CT} {l : Launch} {g : GT} {own : String} {cc : ByteArray} {R : Room} {cs sl pc nx : Nat} {lv : List (Option Value)} {st : List Value} {b : Nat → Nat} {σ : S2} {i v : Int32} (hX : oK X l g own cc R) (hd : dR cc pc (.iastore) 1 nx) (hi : vp_in i 200) (k : vJ X cs sl (wM g b (au σ 14 i.toNatClampNeg v)) nx lv st) : vJ X cs sl (wM g b σ) pc lv (.int v :: .int i :: .ref (b 7) :: st) := r_iast hX hd 7 rfl hi _ rfl k
theorem p_wM_0_15 {X : CT} {l : Launch} {g : GT} {own : String} {cc : ByteArray} {R : Room} {cs sl pc nx : Nat} {lv : List (Option Value)} {st : List Value} {b : Nat → Nat} {σ : S2} {v : Int32} (hX : oK X l g own cc R) (hd : dPf own cc pc 6 15 .int nx) (k : vJ X cs sl (wM g b (su σ 15 v)) nx lv st) : vJ X cs sl (wM g b σ) pc lv (.int v :: .ref (b 0) :: st) := r_put hX hd 0 rfl rfl rfl (Nat.le_of_ble_eq_true rfl) _ rfl k
theorem l_wM_5 {X : CT} {l : Launch} {g : GT} {own : String} {cc : ByteArray} {R : Room} {cs sl pc nx : Nat} {lv : List (Option Value)} {st : List Value} {b : Nat → Nat} {σ : S2} {i : Int32} (hX : oK X l g own cc R) (hd : dR cc pc (.iaload) 1 nx) (hi : vp_in i 14) (k : vJ X cs sl (wM g b σ) nx lv (.int (σ.2 9 i.toNatClampNeg) :: st)) : vJ X cs sl (wM g b σ) pc lv (.int i :: .ref (b 5) :: st) := r_iald hX hd 5 rfl hi k
theorem l_wM_6 {X : CT} {l : Launch} {g : GT} {own : String} {cc : ByteArray} {R : Room} {cs sl pc nx : Nat} {lv : List (Option Value)} {st : List Value} {b : Nat → Nat} {σ : S2} {i : Int32} (hX : oK X l g own cc R) (hd : dR cc pc (.iaload) 1 nx) (hi : vp_in i 14) (k : vJ X cs sl (wM g b σ) nx lv (.int (σ.2 10 i.toNatClampNeg) :: st)) : vJ X cs sl (wM g b σ) pc lv (.int i :: .ref (b 6) :: st) := r_iald hX hd 6 rfl hi k
theorem g_wM_0_6 {X : CT} {l : Launch} {g : GT} {own : String} {cc : ByteArray} {R : Room} {cs sl pc nx : Nat} {lv : List (Option Value)} {st : List Value} {b : Nat → Nat} {σ : S2} (hX : oK X l g own cc R) (hd : dGf own cc pc 6 6 nx) (k : vJ X cs sl (wM g b σ) nx lv (.int (σ.1 6) :: st)) : vJ X cs sl (wM g b σ) pc lv (.ref (b 0) :: st) := r_get hX hd 0 rfl rfl k
theorem g_wM_0_7 {X : CT} {l : Launch} {g : GT} {own : String} {cc : ByteArray} {R : Room} {cs sl pc nx : Nat} {lv : List (Option Value)} {st : List Value} {b : Nat → Nat} {σ : S2} (hX : oK X l g own cc R) (hd : dGf own cc pc 6 7 nx) (k : vJ X cs sl (wM g b σ) nx lv (.int (σ.1 7) :: st)) : vJ X cs sl (wM g b σ) pc lv (.ref (b 0) :: st) := r_get hX hd 0 rfl rfl k
theorem g_wM_0_8 {X : CT} {l : Launch} {g : GT} {own : String} {cc : ByteArray} {R : Room} {cs sl pc nx : Nat} {lv : List (Option Value)} {st : List Value} {b : Nat → Nat} {σ : S2} (hX : oK X l g own cc R) (hd : dGf own cc pc 6 8 nx) (k : vJ X cs sl (wM g b σ) nx lv (.int (σ.1 8) :: st)) : vJ X cs sl (wM g b σ) pc lv (.ref (b 0) :: st) := r_get hX hd 0 rfl rfl k
theorem g_wM_0_11 {X : CT} {l : Launch} {g : GT} {own : String} {cc : ByteArray} {R : Room} {cs sl pc nx : Nat} {lv : List (Option Value)} {st : List Value} {b : Nat → Nat} {σ : S2} (hX : oK X l g own cc R) (hd : dGf own cc pc 6 11 nx) (k : vJ X cs sl (wM g b σ) nx lv (.int (σ.1 11) :: st)) : vJ X cs sl (wM g b σ) pc lv (.ref (b 0) :: st) := r_get hX hd 0 rfl rfl k
theorem g_wM_0_9 {X : CT} {l : Launch} {g : GT} {own : String} {cc : ByteArray} {R : Room} {cs sl pc nx : Nat} {lv : List (Option Value)} {st : List Value} {b : Nat → Nat} {σ : S2} (hX : oK X l g own cc R) (hd : dGf own cc pc 6 9 nx) (k : vJ X cs sl (wM g b σ) nx lv (.ref (b 5) :: st)) : vJ X cs sl (wM g b σ) pc lv (.ref (b 0) :: st) := r_get hX hd 0 rfl rfl k
theorem g_wM_0_10 {X : CT} {l : Launch} {g : GT} {own : String} {cc : ByteArray} {R : Room} {cs sl pc nx : Nat} {lv : List (Option Value)} {st : List Value} {b : Nat → Nat} {σ : S2} (hX : oK X l g own cc R) (hd : dGf own cc pc 6 10 nx) (k : vJ X cs sl (wM g b σ) nx lv (.ref (b 6) :: st)) : vJ X cs sl (wM g b σ) pc lv (.ref (b 0) :: st) := r_get hX hd 0 rfl rfl k
theorem g_wM_0_36 {X : CT} {l : Launch} {g : GT} {own : String} {cc : ByteArray} {R : Room} {cs sl pc nx : Nat} {lv : List (Option Value)} {st : List Value} {b : Nat → Nat} {σ : S2} (hX : oK X l g own cc R) (hd : dGf own cc pc 6 36 nx) (k : vJ X cs sl (wM g b σ) nx lv (.int (σ.1 36) :: st)) : vJ X cs sl (wM g b σ) pc lv (.ref (b 0) :: st) := r_get hX hd 0 rfl rfl k
theorem g_wM_0_40 {X : CT} {l : Launch} {g : GT} {own : String} {cc : ByteArray} {R : Room} {cs sl pc nx : Nat} {lv : List (Option Value)} {st : List Value} {b : Nat → Nat} {σ : S2} (hX : oK X l g own cc R) (hd : dGf own cc pc 6 40 nx) (k : vJ X cs sl (wM g b σ) nx lv (.int (σ.1 40) :: st)) : vJ X cs sl (wM g b σ) pc lv (.ref (b 0) :: st) := r_get hX hd 0 rfl rfl k
theorem g_wM_0_5 {X : CT} {l : Launch} {g : GT} {own : String} {cc : ByteArray} {R : Room} {cs sl pc nx : Nat} {lv : List (Option Value)} {st : List Value} {b : Nat → Nat} {σ : S2} (hX : oK X l g own cc R) (hd : dGf own cc pc 6 5 nx) (k : vJ X cs sl (wM g b σ) nx lv (.ref (b 4) :: st)) : vJ X cs sl (wM g b σ) pc lv (.ref (b 0) :: st) := r_get hX hd 0 rfl rfl k
theorem l_wM_4 {X : CT} {l : Launch} {g : GT} {own : String} {cc : ByteArray} {R : Room} {cs sl pc nx : Nat} {lv : List (Option Value)} {st : List Value} {b : Nat → Nat} {σ : S2} {i : Int32} (hX : oK X l g own cc R) (hd : dR cc pc (.iaload) 1 nx) (hi : vp_in i 4) (k : vJ X cs sl (wM g b σ) nx lv (.int (σ.2 5 i.toNatClampNeg) :: st)) : vJ X cs sl (wM g b σ) pc lv (.int i :: .ref (b 4) :: st) := r_iald hX hd 4 rfl hi k
theorem s_wM_5 {X : CT} {l : Launch} {g : GT} {own : String} {cc : ByteArray} {R : Room} {cs sl pc nx : Nat} {lv : List (Option Value)} {st : List Value} {b : Nat → Nat} {σ : S2} {i v : Int32} (hX : oK X l g own cc R) (hd : dR cc pc (.iastore) 1 nx) (hi : vp_in i 14) (k : vJ X cs sl (wM g b (au σ 9 i.toNatClampNeg v)) nx lv st) : vJ X cs sl (wM g b σ) pc lv (.int v :: .int i :: .ref (b 5) :: st) := r_iast hX hd 5 rfl hi _ rfl k
set_option maxHeartbeats 400000 in
theorem c_X6_feed (l : Launch) (g : GT) (b : Nat → Nat) (σ : S2) (t : Int32) (T : Nat) (hT : T ≤ 200) (eT : σ.1 15 = nI T) : Cx l g yX6_feed cX6_feed 2 (some .int) (k2_rm 1 30) [.ref (b 0), .int t] (wM g b σ) (some (.int (feedF (σ.1 15) t (σ.2 14)).1)) (wM g b (aw (su σ 15 (feedF (σ.1 15) t (σ.2 14)).2.1) 14 (feedF (σ.1 15) t (σ.2 14)).2.2)) := by
  refine meth (own := "ChalkedDoorsModel") (by decide) rfl (Nat.le_of_ble_eq_true rfl) [some (.ref (b 0)), some (.int t)] rfl (fun X hX hQ => ?_)
  refine r_iload1 hX dX6_feed_0 ?_
  refine r_i2l hX dX6_feed_1 ?_
  refine r_pushl hX dX6_feed_2 ?_
  refine r_pushl hX dX6_feed_3 ?_
  refine r_nS3i hX dX6_feed_6 kX6_in (c_X6_in l g _ _ _) (by decide) (Nat.le_of_ble_eq_true rfl) ?_
  refine r_if_ne hX dX6_feed_9 (fun h9 => ?_) (fun h9 => ?_)
  · refine r_aload0 hX dX6_feed_15 ?_
    refine g_wM_0_15 hX dX6_feed_16 ?_
    refine r_push hX dX6_feed_19 ?_
    refine r_ic_ne hX dX6_feed_22 (fun h22 => ?_) (fun h22 => ?_)
    · refine r_aload0 hX dX6_feed_28 ?_
      refine g_wM_0_14 hX dX6_feed_29 ?_
      refine r_aload0 hX dX6_feed_32 ?_
      refine g_wM_0_15 hX dX6_feed_33 ?_
      refine r_iload1 hX dX6_feed_36 ?_
      refine s_wM_7 hX dX6_feed_37 (by rw [eT]; refine vp_in_nI ?_ (by omega); rcases Nat.lt_or_ge T 200 with h | h; exact h; exact absurd (show σ.1 15 = 200 by rw [eT, show T = 200 by omega]; rfl) h22) ?_
      refine r_aload0 hX dX6_feed_38 ?_
      refine r_dup hX dX6_feed_39 rfl ?_
      refine g_wM_0_15 hX dX6_feed_40 ?_
      refine r_push hX dX6_feed_43 ?_
      refine r_iadd hX dX6_feed_44 ?_
      refine p_wM_0_15 hX dX6_feed_45 ?_
      refine r_aload0 hX dX6_feed_48 ?_
      refine g_wM_0_15 hX dX6_feed_49 ?_
      exact r_iret hX hQ dX6_feed_52 (by rw [Int32.toInt_toInt64] at h9; unfold feedF; rw [if_pos (show inB t.toInt 0 255 from bI_nz h9), if_neg h22]; rfl) (by rw [Int32.toInt_toInt64] at h9; unfold feedF; rw [if_pos (show inB t.toInt 0 255 from bI_nz h9), if_neg h22]; rfl)
    · refine r_push hX dX6_feed_25 ?_
      exact r_iret hX hQ dX6_feed_27 (by rw [Int32.toInt_toInt64] at h9; unfold feedF; rw [if_pos (show inB t.toInt 0 255 from bI_nz h9), if_pos h22]) (by rw [Int32.toInt_toInt64] at h9; unfold feedF; rw [if_pos (show inB t.toInt 0 255 from bI_nz h9), if_pos h22]; rfl)
  · refine r_push hX dX6_feed_12 ?_
    exact r_iret hX hQ dX6_feed_14 (by rw [Int32.toInt_toInt64] at h9; unfold feedF; rw [if_neg (show ¬ inB t.toInt 0 255 from bI_z h9)]) (by rw [Int32.toInt_toInt64] at h9; unfold feedF; rw [if_neg (show ¬ inB t.toInt 0 255 from bI_z h9)]; rfl)
set_option maxHeartbeats 400000 in
theorem c_X6_many9 (l : Launch) (g : GT) (b : Nat → Nat) (σ : S2)  (D : Nat) (hD : D ≤ 14) (eD : σ.1 0 = nI D) : Cx l g yX6_many cX6_many 4 (some .int) (k2_rm 1 30) [.ref (b 0), .ref (b 5)] (wM g b σ) (some (.int (manyF D (σ.2 9)))) (wM g b σ) := by
  refine meth (own := "ChalkedDoorsModel") (by decide) rfl (Nat.le_of_ble_eq_true rfl) [some (.ref (b 0)), some (.ref (b 5)), none, none] rfl (fun X hX hQ => ?_)
  generalize hsp : manyF D (σ.2 9) = sp at hQ
  have hL4 : ∀ (n i : Nat) (x : Int32) (r : Int32), x = nI i → i + n = D → sp = lp (fun d n => n + bitsF (σ.2 9 d)) n i r → vJ X 0 0 (wM g b σ) 4 [some (.ref (b 0)), some (.ref (b 5)), some (.int r), some (.int x)] [] := by
    intro n
    induction n with
    | zero =>
      intro i x r hx hn hs
      refine r_iload3 hX dX6_many_4 ?_
      refine r_aload0 hX dX6_many_5 ?_
      refine g_wM_0_0 hX dX6_many_6 ?_
      refine r_ic_ge hX dX6_many_9 (fun h9 => ?_) (fun h9 => absurd (lpx (e := D) hx eD (by omega) (by omega) (by omega)) h9)
      refine r_iload2 hX dX6_many_27 ?_
      exact r_iret hX hQ dX6_many_28 (by rw [hs]; rfl) (rfl)
    | succ n ih =>
      intro i x r hx hn hs
      refine r_iload3 hX dX6_many_4 ?_
      refine r_aload0 hX dX6_many_5 ?_
      refine g_wM_0_0 hX dX6_many_6 ?_
      refine r_ic_ge hX dX6_many_9 (fun h9 => absurd h9 (lpn (e := D) hx eD (by omega) (by omega))) (fun h9 => ?_)
      refine r_iload2 hX dX6_many_12 ?_
      refine r_aload1 hX dX6_many_13 ?_
      refine r_iload3 hX dX6_many_14 ?_
      refine l_wM_5 hX dX6_many_15 (by rw [hx]; exact vp_in_nI (by omega) (by omega)) ?_
      refine r_nS1i hX dX6_many_16 kX6_bits (c_X6_bits l g _) (by decide) (Nat.le_of_ble_eq_true rfl) ?_
      refine r_iadd hX dX6_many_19 ?_
      refine r_istore2 hX dX6_many_20 rfl ?_
      refine r_iinc3 hX dX6_many_21 rfl ?_
      refine r_goto hX dX6_many_24 ?_
      exact ih (i + 1) _ _ (by rw [hx]; exact nI_1 i) (by omega) (by rw [hs, hx, nI_clamp (by omega)]; rfl)
  refine r_push hX dX6_many_0 ?_
  refine r_istore2 hX dX6_many_1 rfl ?_
  refine r_push hX dX6_many_2 ?_
  refine r_istore3 hX dX6_many_3 rfl ?_
  exact hL4 D 0 _ _ rfl (by omega) hsp.symm
set_option maxHeartbeats 400000 in
theorem c_X6_many10 (l : Launch) (g : GT) (b : Nat → Nat) (σ : S2)  (D : Nat) (hD : D ≤ 14) (eD : σ.1 0 = nI D) : Cx l g yX6_many cX6_many 4 (some .int) (k2_rm 1 30) [.ref (b 0), .ref (b 6)] (wM g b σ) (some (.int (manyF D (σ.2 10)))) (wM g b σ) := by
  refine meth (own := "ChalkedDoorsModel") (by decide) rfl (Nat.le_of_ble_eq_true rfl) [some (.ref (b 0)), some (.ref (b 6)), none, none] rfl (fun X hX hQ => ?_)
  generalize hsp : manyF D (σ.2 10) = sp at hQ
  have hL4 : ∀ (n i : Nat) (x : Int32) (r : Int32), x = nI i → i + n = D → sp = lp (fun d n => n + bitsF (σ.2 10 d)) n i r → vJ X 0 0 (wM g b σ) 4 [some (.ref (b 0)), some (.ref (b 6)), some (.int r), some (.int x)] [] := by
    intro n
    induction n with
    | zero =>
      intro i x r hx hn hs
      refine r_iload3 hX dX6_many_4 ?_
      refine r_aload0 hX dX6_many_5 ?_
      refine g_wM_0_0 hX dX6_many_6 ?_
      refine r_ic_ge hX dX6_many_9 (fun h9 => ?_) (fun h9 => absurd (lpx (e := D) hx eD (by omega) (by omega) (by omega)) h9)
      refine r_iload2 hX dX6_many_27 ?_
      exact r_iret hX hQ dX6_many_28 (by rw [hs]; rfl) (rfl)
    | succ n ih =>
      intro i x r hx hn hs
      refine r_iload3 hX dX6_many_4 ?_
      refine r_aload0 hX dX6_many_5 ?_
      refine g_wM_0_0 hX dX6_many_6 ?_
      refine r_ic_ge hX dX6_many_9 (fun h9 => absurd h9 (lpn (e := D) hx eD (by omega) (by omega))) (fun h9 => ?_)
      refine r_iload2 hX dX6_many_12 ?_
      refine r_aload1 hX dX6_many_13 ?_
      refine r_iload3 hX dX6_many_14 ?_
      refine l_wM_6 hX dX6_many_15 (by rw [hx]; exact vp_in_nI (by omega) (by omega)) ?_
      refine r_nS1i hX dX6_many_16 kX6_bits (c_X6_bits l g _) (by decide) (Nat.le_of_ble_eq_true rfl) ?_
      refine r_iadd hX dX6_many_19 ?_
      refine r_istore2 hX dX6_many_20 rfl ?_
      refine r_iinc3 hX dX6_many_21 rfl ?_
      refine r_goto hX dX6_many_24 ?_
      exact ih (i + 1) _ _ (by rw [hx]; exact nI_1 i) (by omega) (by rw [hs, hx, nI_clamp (by omega)]; rfl)
  refine r_push hX dX6_many_0 ?_
  refine r_istore2 hX dX6_many_1 rfl ?_
  refine r_push hX dX6_many_2 ?_
  refine r_istore3 hX dX6_many_3 rfl ?_
  exact hL4 D 0 _ _ rfl (by omega) hsp.symm
set_option maxHeartbeats 400000 in
theorem c_X6_told (l : Launch) (g : GT) (b : Nat → Nat) (σ : S2) (t : Int32) (D : Nat) (hD : D ≤ 14) (eD : σ.1 0 = nI D) : Cx l g yX6_told cX6_told 2 (some .int) (k2_rm 2 60) [.ref (b 0), .int t] (wM g b σ) (some (.int (selF [σ.1 0, σ.1 1, σ.1 6, σ.1 7, σ.1 8, σ.1 15, σ.1 11, σ.1 12, manyF D (σ.2 9), manyF D (σ.2 10), σ.1 36, σ.1 40] t))) (wM g b σ) := by
  refine meth (own := "ChalkedDoorsModel") (by decide) rfl (Nat.le_of_ble_eq_true rfl) [some (.ref (b 0)), some (.int t)] rfl (fun X hX hQ => ?_)
  refine r_iload1 hX dX6_told_0 ?_
  rcases swc t 12 with ⟨j, hj, hs⟩ | hs
  · rcases (show j = 0 ∨ j = 1 ∨ j = 2 ∨ j = 3 ∨ j = 4 ∨ j = 5 ∨ j = 6 ∨ j = 7 ∨ j = 8 ∨ j = 9 ∨ j = 10 ∨ j = 11 by omega) with rfl | rfl | rfl | rfl | rfl | rfl | rfl | rfl | rfl | rfl | rfl | rfl
    · refine r_tin (tgt := 64) hX dX6_told_1 0 (by omega) (by decide) rfl (by decide) ?_
      refine r_aload0 hX dX6_told_64 ?_
      refine g_wM_0_0 hX dX6_told_65 ?_
      exact r_iret hX hQ dX6_told_68 (by rw [sel_in 0 hs]; rfl) (rfl)
    · refine r_tin (tgt := 69) hX dX6_told_1 1 (by omega) (by decide) rfl (by decide) ?_
      refine r_aload0 hX dX6_told_69 ?_
      refine g_wM_0_1 hX dX6_told_70 ?_
      exact r_iret hX hQ dX6_told_73 (by rw [sel_in 1 hs]; rfl) (rfl)
    · refine r_tin (tgt := 74) hX dX6_told_1 2 (by omega) (by decide) rfl (by decide) ?_
      refine r_aload0 hX dX6_told_74 ?_
      refine g_wM_0_6 hX dX6_told_75 ?_
      exact r_iret hX hQ dX6_told_78 (by rw [sel_in 2 hs]; rfl) (rfl)
    · refine r_tin (tgt := 79) hX dX6_told_1 3 (by omega) (by decide) rfl (by decide) ?_
      refine r_aload0 hX dX6_told_79 ?_
      refine g_wM_0_7 hX dX6_told_80 ?_
      exact r_iret hX hQ dX6_told_83 (by rw [sel_in 3 hs]; rfl) (rfl)
    · refine r_tin (tgt := 84) hX dX6_told_1 4 (by omega) (by decide) rfl (by decide) ?_
      refine r_aload0 hX dX6_told_84 ?_
      refine g_wM_0_8 hX dX6_told_85 ?_
      exact r_iret hX hQ dX6_told_88 (by rw [sel_in 4 hs]; rfl) (rfl)
    · refine r_tin (tgt := 89) hX dX6_told_1 5 (by omega) (by decide) rfl (by decide) ?_
      refine r_aload0 hX dX6_told_89 ?_
      refine g_wM_0_15 hX dX6_told_90 ?_
      exact r_iret hX hQ dX6_told_93 (by rw [sel_in 5 hs]; rfl) (rfl)
    · refine r_tin (tgt := 94) hX dX6_told_1 6 (by omega) (by decide) rfl (by decide) ?_
      refine r_aload0 hX dX6_told_94 ?_
      refine g_wM_0_11 hX dX6_told_95 ?_
      exact r_iret hX hQ dX6_told_98 (by rw [sel_in 6 hs]; rfl) (rfl)
    · refine r_tin (tgt := 99) hX dX6_told_1 7 (by omega) (by decide) rfl (by decide) ?_
      refine r_aload0 hX dX6_told_99 ?_
      refine g_wM_0_12 hX dX6_told_100 ?_
      exact r_iret hX hQ dX6_told_103 (by rw [sel_in 7 hs]; rfl) (rfl)
    · refine r_tin (tgt := 104) hX dX6_told_1 8 (by omega) (by decide) rfl (by decide) ?_
      refine r_aload0 hX dX6_told_104 ?_
      refine r_aload0 hX dX6_told_105 ?_
      refine g_wM_0_9 hX dX6_told_106 ?_
      refine r_aV1i hX dX6_told_109 kX6_many (c_X6_many9 l g _ _ D hD eD) ad_wM rfl (by decide) (Nat.le_of_ble_eq_true rfl) ?_
      exact r_iret hX hQ dX6_told_112 (by rw [sel_in 8 hs]; rfl) (rfl)
    · refine r_tin (tgt := 113) hX dX6_told_1 9 (by omega) (by decide) rfl (by decide) ?_
      refine r_aload0 hX dX6_told_113 ?_
      refine r_aload0 hX dX6_told_114 ?_
      refine g_wM_0_10 hX dX6_told_115 ?_
      refine r_aV1i hX dX6_told_118 kX6_many (c_X6_many10 l g _ _ D hD eD) ad_wM rfl (by decide) (Nat.le_of_ble_eq_true rfl) ?_
      exact r_iret hX hQ dX6_told_121 (by rw [sel_in 9 hs]; rfl) (rfl)
    · refine r_tin (tgt := 122) hX dX6_told_1 10 (by omega) (by decide) rfl (by decide) ?_
      refine r_aload0 hX dX6_told_122 ?_
      refine g_wM_0_36 hX dX6_told_123 ?_
      exact r_iret hX hQ dX6_told_126 (by rw [sel_in 10 hs]; rfl) (rfl)
    · refine r_tin (tgt := 127) hX dX6_told_1 11 (by omega) (by decide) rfl (by decide) ?_
      refine r_aload0 hX dX6_told_127 ?_
      refine g_wM_0_40 hX dX6_told_128 ?_
      exact r_iret hX hQ dX6_told_131 (by rw [sel_in 11 hs]; rfl) (rfl)
  · refine r_tout (tgt := 132) hX dX6_told_1 (by omega) (by decide) ?_
    refine r_push hX dX6_told_132 ?_
    exact r_iret hX hQ dX6_told_134 (by rw [sel_out (n := 12) rfl hs]) (rfl)
set_option maxHeartbeats 400000 in
theorem c_X6_chalk (l : Launch) (g : GT) (b : Nat → Nat) (σ : S2) (c t : Int32) (C : Nat) (hC : C ≤ 4) (eC : σ.1 1 = nI C) : Cx l g yX6_chalk cX6_chalk 3 (some .int) (k2_rm 2 60) [.ref (b 0), .int c, .int t] (wM g b σ) (some (.int (if inD c (σ.1 1) then selF [σ.2 2 (cl c), σ.2 3 (cl c), σ.2 4 (cl c), σ.2 5 (cl c), wshF (σ.2 2 (cl c)) (σ.2 3 (cl c))] t else -1000000001))) (wM g b σ) := by
  refine meth (own := "ChalkedDoorsModel") (by decide) rfl (Nat.le_of_ble_eq_true rfl) [some (.ref (b 0)), some (.int c), some (.int t)] rfl (fun X hX hQ => ?_)
  refine r_aload0 hX dX6_chalk_0 ?_
  refine r_iload1 hX dX6_chalk_1 ?_
  refine r_aV1i hX dX6_chalk_2 kX6_isChalk (c_X6_isChalk l g _ _ _ C hC eC) ad_wM rfl (by decide) (Nat.le_of_ble_eq_true rfl) ?_
  refine r_if_ne hX dX6_chalk_5 (fun h5 => ?_) (fun h5 => ?_)
  · refine r_iload2 hX dX6_chalk_11 ?_
    rcases swc t 5 with ⟨j, hj, hs⟩ | hs
    · rcases (show j = 0 ∨ j = 1 ∨ j = 2 ∨ j = 3 ∨ j = 4 by omega) with rfl | rfl | rfl | rfl | rfl
      · refine r_tin (tgt := 48) hX dX6_chalk_12 0 (by omega) (by decide) rfl (by decide) ?_
        refine r_aload0 hX dX6_chalk_48 ?_
        refine g_wM_0_2 hX dX6_chalk_49 ?_
        refine r_iload1 hX dX6_chalk_52 ?_
        refine l_wM_1 hX dX6_chalk_53 (vin (bI_nz h5) eC hC (by decide)) ?_
        exact r_iret hX hQ dX6_chalk_54 (by rw [if_pos (bI_nz h5), sel_in 0 hs]; rfl) (rfl)
      · refine r_tin (tgt := 55) hX dX6_chalk_12 1 (by omega) (by decide) rfl (by decide) ?_
        refine r_aload0 hX dX6_chalk_55 ?_
        refine g_wM_0_3 hX dX6_chalk_56 ?_
        refine r_iload1 hX dX6_chalk_59 ?_
        refine l_wM_2 hX dX6_chalk_60 (vin (bI_nz h5) eC hC (by decide)) ?_
        exact r_iret hX hQ dX6_chalk_61 (by rw [if_pos (bI_nz h5), sel_in 1 hs]; rfl) (rfl)
      · refine r_tin (tgt := 62) hX dX6_chalk_12 2 (by omega) (by decide) rfl (by decide) ?_
        refine r_aload0 hX dX6_chalk_62 ?_
        refine g_wM_0_4 hX dX6_chalk_63 ?_
        refine r_iload1 hX dX6_chalk_66 ?_
        refine l_wM_3 hX dX6_chalk_67 (vin (bI_nz h5) eC hC (by decide)) ?_
        exact r_iret hX hQ dX6_chalk_68 (by rw [if_pos (bI_nz h5), sel_in 2 hs]; rfl) (rfl)
      · refine r_tin (tgt := 69) hX dX6_chalk_12 3 (by omega) (by decide) rfl (by decide) ?_
        refine r_aload0 hX dX6_chalk_69 ?_
        refine g_wM_0_5 hX dX6_chalk_70 ?_
        refine r_iload1 hX dX6_chalk_73 ?_
        refine l_wM_4 hX dX6_chalk_74 (vin (bI_nz h5) eC hC (by decide)) ?_
        exact r_iret hX hQ dX6_chalk_75 (by rw [if_pos (bI_nz h5), sel_in 3 hs]; rfl) (rfl)
      · refine r_tin (tgt := 76) hX dX6_chalk_12 4 (by omega) (by decide) rfl (by decide) ?_
        refine r_aload0 hX dX6_chalk_76 ?_
        refine r_iload1 hX dX6_chalk_77 ?_
        refine r_aV1i hX dX6_chalk_78 kX6_washedBy (c_X6_washedBy l g _ _ _ (vin (bI_nz h5) eC hC (by decide))) ad_wM rfl (by decide) (Nat.le_of_ble_eq_true rfl) ?_
        exact r_iret hX hQ dX6_chalk_81 (by rw [if_pos (bI_nz h5), sel_in 4 hs]; rfl) (rfl)
    · refine r_tout (tgt := 82) hX dX6_chalk_12 (by omega) (by decide) ?_
      refine r_push hX dX6_chalk_82 ?_
      exact r_iret hX hQ dX6_chalk_84 (by rw [if_pos (bI_nz h5), sel_out (n := 5) rfl hs]) (rfl)
  · refine r_push hX dX6_chalk_8 ?_
    exact r_iret hX hQ dX6_chalk_10 (by rw [if_neg (bI_z h5)]) (rfl)
set_option maxHeartbeats 400000 in
theorem c_X6_door (l : Launch) (g : GT) (b : Nat → Nat) (σ : S2) (d t : Int32) (D : Nat) (hD : D ≤ 14) (eD : σ.1 0 = nI D) : Cx l g yX6_door cX6_door 3 (some .int) (k2_rm 2 60) [.ref (b 0), .int d, .int t] (wM g b σ) (some (.int (if inD d (σ.1 0) then selF [σ.2 9 (cl d), σ.2 10 (cl d)] t else -1000000001))) (wM g b σ) := by
  refine meth (own := "ChalkedDoorsModel") (by decide) rfl (Nat.le_of_ble_eq_true rfl) [some (.ref (b 0)), some (.int d), some (.int t)] rfl (fun X hX hQ => ?_)
  refine r_aload0 hX dX6_door_0 ?_
  refine r_iload1 hX dX6_door_1 ?_
  refine r_aV1i hX dX6_door_2 kX6_isDoor (c_X6_isDoor l g _ _ _ D hD eD) ad_wM rfl (by decide) (Nat.le_of_ble_eq_true rfl) ?_
  refine r_if_ne hX dX6_door_5 (fun h5 => ?_) (fun h5 => ?_)
  · refine r_iload2 hX dX6_door_11 ?_
    refine r_if_ne hX dX6_door_12 (fun h12 => ?_) (fun h12 => ?_)
    · refine r_iload2 hX dX6_door_24 ?_
      refine r_push hX dX6_door_25 ?_
      refine r_ic_ne hX dX6_door_26 (fun h26 => ?_) (fun h26 => ?_)
      · refine r_push hX dX6_door_38 ?_
        exact r_iret hX hQ dX6_door_40 (by rw [if_pos (bI_nz h5)]; first | (rw [h12]; rfl) | (rw [h26]; rfl) | (rw [sel_out (n := 2) rfl (sel2 h12 h26)])) (rfl)
      · refine r_aload0 hX dX6_door_29 ?_
        refine g_wM_0_10 hX dX6_door_30 ?_
        refine r_iload1 hX dX6_door_33 ?_
        refine l_wM_6 hX dX6_door_34 (vin (bI_nz h5) eD hD (by decide)) ?_
        refine r_goto hX dX6_door_35 ?_
        exact r_iret hX hQ dX6_door_40 (by rw [if_pos (bI_nz h5)]; first | (rw [h12]; rfl) | (rw [h26]; rfl) | (rw [sel_out (n := 2) rfl (sel2 h12 h26)])) (rfl)
    · refine r_aload0 hX dX6_door_15 ?_
      refine g_wM_0_9 hX dX6_door_16 ?_
      refine r_iload1 hX dX6_door_19 ?_
      refine l_wM_5 hX dX6_door_20 (vin (bI_nz h5) eD hD (by decide)) ?_
      refine r_goto hX dX6_door_21 ?_
      exact r_iret hX hQ dX6_door_40 (by rw [if_pos (bI_nz h5)]; first | (rw [h12]; rfl) | (rw [h26]; rfl) | (rw [sel_out (n := 2) rfl (sel2 h12 h26)])) (rfl)
  · refine r_push hX dX6_door_8 ?_
    exact r_iret hX hQ dX6_door_10 (by rw [if_neg (bI_z h5)]) (rfl)
set_option maxHeartbeats 400000 in
theorem c_X6_mark (l : Launch) (g : GT) (b : Nat → Nat) (σ : S2) (d c : Int32) (D : Nat) (hD : D ≤ 14) (eD : σ.1 0 = nI D) (C : Nat) (hC : C ≤ 4) (eC : σ.1 1 = nI C) : Cx l g yX6_mark cX6_mark 3 (some .int) (k2_rm 2 60) [.ref (b 0), .int d, .int c] (wM g b σ) (some (.int (markF (σ.1 0) (σ.1 1) (σ.2 9) (σ.2 4) (σ.1 12) d c).1)) (wM g b (su (aw σ 9 (markF (σ.1 0) (σ.1 1) (σ.2 9) (σ.2 4) (σ.1 12) d c).2.1) 12 (markF (σ.1 0) (σ.1 1) (σ.2 9) (σ.2 4) (σ.1 12) d c).2.2)) := by
  refine meth (own := "ChalkedDoorsModel") (by decide) rfl (Nat.le_of_ble_eq_true rfl) [some (.ref (b 0)), some (.int d), some (.int c)] rfl (fun X hX hQ => ?_)
  refine r_aload0 hX dX6_mark_0 ?_
  refine r_iload1 hX dX6_mark_1 ?_
  refine r_aV1i hX dX6_mark_2 kX6_isDoor (c_X6_isDoor l g _ _ _ D hD eD) ad_wM rfl (by decide) (Nat.le_of_ble_eq_true rfl) ?_
  refine r_if_eq hX dX6_mark_5 (fun h5 => ?_) (fun h5 => ?_)
  · refine r_push hX dX6_mark_16 ?_
    exact r_iret hX hQ dX6_mark_18 (by unfold markF; rw [if_neg (fun h => bI_z h5 h.1)] <;> rfl) (by unfold markF; rw [if_neg (fun h => bI_z h5 h.1)] <;> rfl)
  · refine r_aload0 hX dX6_mark_8 ?_
    refine r_iload2 hX dX6_mark_9 ?_
    refine r_aV1i hX dX6_mark_10 kX6_isChalk (c_X6_isChalk l g _ _ _ C hC eC) ad_wM rfl (by decide) (Nat.le_of_ble_eq_true rfl) ?_
    refine r_if_ne hX dX6_mark_13 (fun h13 => ?_) (fun h13 => ?_)
    · refine r_aload0 hX dX6_mark_19 ?_
      refine g_wM_0_9 hX dX6_mark_20 ?_
      refine r_iload1 hX dX6_mark_23 ?_
      refine l_wM_5 hX dX6_mark_24 (vin (bI_nz h5) eD hD (by decide)) ?_
      refine r_iload2 hX dX6_mark_25 ?_
      refine r_nS2i hX dX6_mark_26 kX6_has (c_X6_has l g _ _) (by decide) (Nat.le_of_ble_eq_true rfl) ?_
      refine r_if_eq hX dX6_mark_29 (fun h29 => ?_) (fun h29 => ?_)
      · refine r_aload0 hX dX6_mark_35 ?_
        refine g_wM_0_9 hX dX6_mark_36 ?_
        refine r_iload1 hX dX6_mark_39 ?_
        refine r_dup2 hX dX6_mark_40 rfl rfl ?_
        refine l_wM_5 hX dX6_mark_41 (vin (bI_nz h5) eD hD (by decide)) ?_
        refine r_push hX dX6_mark_42 ?_
        refine r_iload2 hX dX6_mark_43 ?_
        refine r_ishl hX dX6_mark_44 ?_
        refine r_ior hX dX6_mark_45 ?_
        refine s_wM_5 hX dX6_mark_46 (vin (bI_nz h5) eD hD (by decide)) ?_
        refine r_aload0 hX dX6_mark_47 ?_
        refine r_iload2 hX dX6_mark_48 ?_
        refine r_aV1v hX dX6_mark_49 kX6_pay (c_X6_pay l g _ _ _ (vin (bI_nz h13) eC hC (by decide))) ad_wM rfl (by decide) (Nat.le_of_ble_eq_true rfl) ?_
        refine r_aload0 hX dX6_mark_52 ?_
        refine g_wM_0_12 hX dX6_mark_53 ?_
        exact r_iret hX hQ dX6_mark_56 (by unfold markF; rw [if_pos (⟨bI_nz h5, bI_nz h13⟩ : inD d (σ.1 0) ∧ inD c (σ.1 1)), if_neg (bI_z h29)] <;> rfl) (by unfold markF; rw [if_pos (⟨bI_nz h5, bI_nz h13⟩ : inD d (σ.1 0) ∧ inD c (σ.1 1)), if_neg (bI_z h29)] <;> rfl)
      · refine r_push hX dX6_mark_32 ?_
        exact r_iret hX hQ dX6_mark_34 (by unfold markF; rw [if_pos (⟨bI_nz h5, bI_nz h13⟩ : inD d (σ.1 0) ∧ inD c (σ.1 1)), if_pos (bI_nz h29)] <;> rfl) (by unfold markF; rw [if_pos (⟨bI_nz h5, bI_nz h13⟩ : inD d (σ.1 0) ∧ inD c (σ.1 1)), if_pos (bI_nz h29)] <;> rfl)
    · refine r_push hX dX6_mark_16 ?_
      exact r_iret hX hQ dX6_mark_18 (by unfold markF; rw [if_neg (fun h => bI_z h13 h.2)] <;> rfl) (by unfold markF; rw [if_neg (fun h => bI_z h13 h.2)] <;> rfl)
set_option maxHeartbeats 400000 in
theorem c_X6_wipe (l : Launch) (g : GT) (b : Nat → Nat) (σ : S2) (d c : Int32) (D : Nat) (hD : D ≤ 14) (eD : σ.1 0 = nI D) (C : Nat) (hC : C ≤ 4) (eC : σ.1 1 = nI C) : Cx l g yX6_wipe cX6_wipe 3 (some .int) (k2_rm 2 60) [.ref (b 0), .int d, .int c] (wM g b σ) (some (.int (wipeF (σ.1 0) (σ.1 1) (σ.2 9) d c).1)) (wM g b (aw σ 9 (wipeF (σ.1 0) (σ.1 1) (σ.2 9) d c).2)) := by
  refine meth (own := "ChalkedDoorsModel") (by decide) rfl (Nat.le_of_ble_eq_true rfl) [some (.ref (b 0)), some (.int d), some (.int c)] rfl (fun X hX hQ => ?_)
  refine r_aload0 hX dX6_wipe_0 ?_
  refine r_iload1 hX dX6_wipe_1 ?_
  refine r_aV1i hX dX6_wipe_2 kX6_isDoor (c_X6_isDoor l g _ _ _ D hD eD) ad_wM rfl (by decide) (Nat.le_of_ble_eq_true rfl) ?_
  refine r_if_eq hX dX6_wipe_5 (fun h5 => ?_) (fun h5 => ?_)
  · refine r_push hX dX6_wipe_16 ?_
    exact r_iret hX hQ dX6_wipe_18 (by unfold wipeF; rw [if_neg (fun h => bI_z h5 h.1)] <;> first | rfl | (show some (Value.int (upd _ _ _ _)) = _; rw [pk_us])) (by unfold wipeF; rw [if_neg (fun h => bI_z h5 h.1)] <;> rfl)
  · refine r_aload0 hX dX6_wipe_8 ?_
    refine r_iload2 hX dX6_wipe_9 ?_
    refine r_aV1i hX dX6_wipe_10 kX6_isChalk (c_X6_isChalk l g _ _ _ C hC eC) ad_wM rfl (by decide) (Nat.le_of_ble_eq_true rfl) ?_
    refine r_if_ne hX dX6_wipe_13 (fun h13 => ?_) (fun h13 => ?_)
    · refine r_aload0 hX dX6_wipe_19 ?_
      refine g_wM_0_9 hX dX6_wipe_20 ?_
      refine r_iload1 hX dX6_wipe_23 ?_
      refine l_wM_5 hX dX6_wipe_24 (vin (bI_nz h5) eD hD (by decide)) ?_
      refine r_iload2 hX dX6_wipe_25 ?_
      refine r_nS2i hX dX6_wipe_26 kX6_has (c_X6_has l g _ _) (by decide) (Nat.le_of_ble_eq_true rfl) ?_
      refine r_if_ne hX dX6_wipe_29 (fun h29 => ?_) (fun h29 => ?_)
      · refine r_aload0 hX dX6_wipe_35 ?_
        refine g_wM_0_9 hX dX6_wipe_36 ?_
        refine r_iload1 hX dX6_wipe_39 ?_
        refine r_dup2 hX dX6_wipe_40 rfl rfl ?_
        refine l_wM_5 hX dX6_wipe_41 (vin (bI_nz h5) eD hD (by decide)) ?_
        refine r_push hX dX6_wipe_42 ?_
        refine r_iload2 hX dX6_wipe_43 ?_
        refine r_ishl hX dX6_wipe_44 ?_
        refine r_push hX dX6_wipe_45 ?_
        refine r_ixor hX dX6_wipe_46 ?_
        refine r_iand hX dX6_wipe_47 ?_
        refine s_wM_5 hX dX6_wipe_48 (vin (bI_nz h5) eD hD (by decide)) ?_
        refine r_aload0 hX dX6_wipe_49 ?_
        refine g_wM_0_9 hX dX6_wipe_50 ?_
        refine r_iload1 hX dX6_wipe_53 ?_
        refine l_wM_5 hX dX6_wipe_54 (vin (bI_nz h5) eD hD (by decide)) ?_
        exact r_iret hX hQ dX6_wipe_55 (by unfold wipeF; rw [if_pos (⟨bI_nz h5, bI_nz h13⟩ : inD d (σ.1 0) ∧ inD c (σ.1 1)), if_pos (bI_nz h29)] <;> first | rfl | (show some (Value.int (upd _ _ _ _)) = _; rw [pk_us])) (by unfold wipeF; rw [if_pos (⟨bI_nz h5, bI_nz h13⟩ : inD d (σ.1 0) ∧ inD c (σ.1 1)), if_pos (bI_nz h29)] <;> rfl)
      · refine r_push hX dX6_wipe_32 ?_
        exact r_iret hX hQ dX6_wipe_34 (by unfold wipeF; rw [if_pos (⟨bI_nz h5, bI_nz h13⟩ : inD d (σ.1 0) ∧ inD c (σ.1 1)), if_neg (bI_z h29)] <;> first | rfl | (show some (Value.int (upd _ _ _ _)) = _; rw [pk_us])) (by unfold wipeF; rw [if_pos (⟨bI_nz h5, bI_nz h13⟩ : inD d (σ.1 0) ∧ inD c (σ.1 1)), if_neg (bI_z h29)] <;> rfl)
    · refine r_push hX dX6_wipe_16 ?_
      exact r_iret hX hQ dX6_wipe_18 (by unfold wipeF; rw [if_neg (fun h => bI_z h13 h.2)] <;> first | rfl | (show some (Value.int (upd _ _ _ _)) = _; rw [pk_us])) (by unfold wipeF; rw [if_neg (fun h => bI_z h13 h.2)] <;> rfl)
