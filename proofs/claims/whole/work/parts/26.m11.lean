theorem g_wM_0_21 {X : CT} {l : Launch} {g : GT} {own : String} {cc : ByteArray} {R : Room} {cs sl pc nx : Nat} {lv : List (Option Value)} {st : List Value} {b : Nat → Nat} {σ : S2} (hX : oK X l g own cc R) (hd : dGf own cc pc 6 21 nx) (k : vJ X cs sl (wM g b σ) nx lv (.int (σ.1 21) :: st)) : vJ X cs sl (wM g b σ) pc lv (.ref (b 0) :: st) := r_get hX hd 0 rfl rfl k
theorem p_wM_0_21 {X : CT} {l : Launch} {g : GT} {own : String} {cc : ByteArray} {R : Room} {cs sl pc nx : Nat} {lv : List (Option Value)} {st : List Value} {b : Nat → Nat} {σ : S2} {v : Int32} (hX : oK X l g own cc R) (hd : dPf own cc pc 6 21 .int nx) (k : vJ X cs sl (wM g b (su σ 21 v)) nx lv st) : vJ X cs sl (wM g b σ) pc lv (.int v :: .ref (b 0) :: st) := r_put hX hd 0 rfl rfl rfl (Nat.le_of_ble_eq_true rfl) _ rfl k
theorem g_wM_0_22 {X : CT} {l : Launch} {g : GT} {own : String} {cc : ByteArray} {R : Room} {cs sl pc nx : Nat} {lv : List (Option Value)} {st : List Value} {b : Nat → Nat} {σ : S2} (hX : oK X l g own cc R) (hd : dGf own cc pc 6 22 nx) (k : vJ X cs sl (wM g b σ) nx lv (.ref (b 8) :: st)) : vJ X cs sl (wM g b σ) pc lv (.ref (b 0) :: st) := r_get hX hd 0 rfl rfl k
theorem g_wM_0_23 {X : CT} {l : Launch} {g : GT} {own : String} {cc : ByteArray} {R : Room} {cs sl pc nx : Nat} {lv : List (Option Value)} {st : List Value} {b : Nat → Nat} {σ : S2} (hX : oK X l g own cc R) (hd : dGf own cc pc 6 23 nx) (k : vJ X cs sl (wM g b σ) nx lv (.ref (b 9) :: st)) : vJ X cs sl (wM g b σ) pc lv (.ref (b 0) :: st) := r_get hX hd 0 rfl rfl k
theorem g_wM_0_24 {X : CT} {l : Launch} {g : GT} {own : String} {cc : ByteArray} {R : Room} {cs sl pc nx : Nat} {lv : List (Option Value)} {st : List Value} {b : Nat → Nat} {σ : S2} (hX : oK X l g own cc R) (hd : dGf own cc pc 6 24 nx) (k : vJ X cs sl (wM g b σ) nx lv (.ref (b 10) :: st)) : vJ X cs sl (wM g b σ) pc lv (.ref (b 0) :: st) := r_get hX hd 0 rfl rfl k
theorem g_wM_0_25 {X : CT} {l : Launch} {g : GT} {own : String} {cc : ByteArray} {R : Room} {cs sl pc nx : Nat} {lv : List (Option Value)} {st : List Value} {b : Nat → Nat} {σ : S2} (hX : oK X l g own cc R) (hd : dGf own cc pc 6 25 nx) (k : vJ X cs sl (wM g b σ) nx lv (.ref (b 11) :: st)) : vJ X cs sl (wM g b σ) pc lv (.ref (b 0) :: st) := r_get hX hd 0 rfl rfl k
theorem p_wM_0_28 {X : CT} {l : Launch} {g : GT} {own : String} {cc : ByteArray} {R : Room} {cs sl pc nx : Nat} {lv : List (Option Value)} {st : List Value} {b : Nat → Nat} {σ : S2} {v : Int32} (hX : oK X l g own cc R) (hd : dPf own cc pc 6 28 .boolean nx) (hn : narrow .boolean (.int v) = .int v) (hf : fits .boolean (.int v) = true) (k : vJ X cs sl (wM g b (su σ 28 v)) nx lv st) : vJ X cs sl (wM g b σ) pc lv (.int v :: .ref (b 0) :: st) := r_put hX hd 0 rfl hn hf (Nat.le_of_ble_eq_true rfl) _ rfl k
theorem g_wM_0_29 {X : CT} {l : Launch} {g : GT} {own : String} {cc : ByteArray} {R : Room} {cs sl pc nx : Nat} {lv : List (Option Value)} {st : List Value} {b : Nat → Nat} {σ : S2} (hX : oK X l g own cc R) (hd : dGf own cc pc 6 29 nx) (k : vJ X cs sl (wM g b σ) nx lv (.ref (b 13) :: st)) : vJ X cs sl (wM g b σ) pc lv (.ref (b 0) :: st) := r_get hX hd 0 rfl rfl k
theorem g_wM_0_30 {X : CT} {l : Launch} {g : GT} {own : String} {cc : ByteArray} {R : Room} {cs sl pc nx : Nat} {lv : List (Option Value)} {st : List Value} {b : Nat → Nat} {σ : S2} (hX : oK X l g own cc R) (hd : dGf own cc pc 6 30 nx) (k : vJ X cs sl (wM g b σ) nx lv (.ref (b 14) :: st)) : vJ X cs sl (wM g b σ) pc lv (.ref (b 0) :: st) := r_get hX hd 0 rfl rfl k
theorem g_wM_0_20 {X : CT} {l : Launch} {g : GT} {own : String} {cc : ByteArray} {R : Room} {cs sl pc nx : Nat} {lv : List (Option Value)} {st : List Value} {b : Nat → Nat} {σ : S2} (hX : oK X l g own cc R) (hd : dGf own cc pc 6 20 nx) (k : vJ X cs sl (wM g b σ) nx lv (.int (σ.1 20) :: st)) : vJ X cs sl (wM g b σ) pc lv (.ref (b 0) :: st) := r_get hX hd 0 rfl rfl k
theorem g_wM_0_26 {X : CT} {l : Launch} {g : GT} {own : String} {cc : ByteArray} {R : Room} {cs sl pc nx : Nat} {lv : List (Option Value)} {st : List Value} {b : Nat → Nat} {σ : S2} (hX : oK X l g own cc R) (hd : dGf own cc pc 6 26 nx) (k : vJ X cs sl (wM g b σ) nx lv (.int (σ.1 26) :: st)) : vJ X cs sl (wM g b σ) pc lv (.ref (b 0) :: st) := r_get hX hd 0 rfl rfl k
theorem p_wM_0_26 {X : CT} {l : Launch} {g : GT} {own : String} {cc : ByteArray} {R : Room} {cs sl pc nx : Nat} {lv : List (Option Value)} {st : List Value} {b : Nat → Nat} {σ : S2} {v : Int32} (hX : oK X l g own cc R) (hd : dPf own cc pc 6 26 .int nx) (k : vJ X cs sl (wM g b (su σ 26 v)) nx lv st) : vJ X cs sl (wM g b σ) pc lv (.int v :: .ref (b 0) :: st) := r_put hX hd 0 rfl rfl rfl (Nat.le_of_ble_eq_true rfl) _ rfl k
theorem g_wM_0_27 {X : CT} {l : Launch} {g : GT} {own : String} {cc : ByteArray} {R : Room} {cs sl pc nx : Nat} {lv : List (Option Value)} {st : List Value} {b : Nat → Nat} {σ : S2} (hX : oK X l g own cc R) (hd : dGf own cc pc 6 27 nx) (k : vJ X cs sl (wM g b σ) nx lv (.ref (b 12) :: st)) : vJ X cs sl (wM g b σ) pc lv (.ref (b 0) :: st) := r_get hX hd 0 rfl rfl k
set_option maxHeartbeats 400000 in
theorem c_X6_takeChalk (l : Launch) (g : GT) (b : Nat → Nat) (σ : S2)  (hp : PI σ) (hc : vp_in (σ.1 21) 4) : Cx l g yX6_takeChalk cX6_takeChalk 3 (some .int) (k2_rm 3 90) [.ref (b 0)] (wM g b σ) (some (.int (mChk σ).1)) (wM g b (mChk σ).2) := by
  refine meth (own := "ChalkedDoorsModel") (by decide) rfl (Nat.le_of_ble_eq_true rfl) [some (.ref (b 0)), none, none] rfl (fun X hX hQ => ?_)
  refine r_aload0 hX dX6_takeChalk_0 ?_
  refine g_wM_0_21 hX dX6_takeChalk_1 ?_
  refine r_istore1 hX dX6_takeChalk_4 rfl ?_
  refine r_aload0 hX dX6_takeChalk_5 ?_
  refine r_dup hX dX6_takeChalk_6 rfl ?_
  refine g_wM_0_21 hX dX6_takeChalk_7 ?_
  refine r_push hX dX6_takeChalk_10 ?_
  refine r_iadd hX dX6_takeChalk_11 ?_
  refine p_wM_0_21 hX dX6_takeChalk_12 ?_
  refine r_aload0 hX dX6_takeChalk_15 ?_
  refine r_aload0 hX dX6_takeChalk_16 ?_
  refine g_wM_0_22 hX dX6_takeChalk_17 ?_
  refine r_iload1 hX dX6_takeChalk_20 ?_
  refine r_push hX dX6_takeChalk_21 ?_
  refine r_push hX dX6_takeChalk_22 ?_
  refine r_aV4i hX dX6_takeChalk_23 kX6_into (c_X6_into22 l g _ _ _ _ _ (by (repeat with_reducible refine mInto_PI ?_); exact PI_su hp (by decide) (by decide)) (by exact hc)) ad_wM rfl (by decide) (Nat.le_of_ble_eq_true rfl) ?_
  refine r_istore2 hX dX6_takeChalk_26 rfl ?_
  refine r_iload2 hX dX6_takeChalk_27 ?_
  refine r_if_le hX dX6_takeChalk_28 (fun h28 => ?_) (fun h28 => ?_)
  · refine r_aload0 hX dX6_takeChalk_35 ?_
    refine r_aload0 hX dX6_takeChalk_36 ?_
    refine g_wM_0_23 hX dX6_takeChalk_37 ?_
    refine r_iload1 hX dX6_takeChalk_40 ?_
    refine r_push hX dX6_takeChalk_41 ?_
    refine r_push hX dX6_takeChalk_42 ?_
    refine r_aV4i hX dX6_takeChalk_44 kX6_into (c_X6_into23 l g _ _ _ _ _ (by (repeat with_reducible refine mInto_PI ?_); exact PI_su hp (by decide) (by decide)) (by exact hc)) ad_wM rfl (by decide) (Nat.le_of_ble_eq_true rfl) ?_
    refine r_istore2 hX dX6_takeChalk_47 rfl ?_
    refine r_iload2 hX dX6_takeChalk_48 ?_
    refine r_if_le hX dX6_takeChalk_49 (fun h49 => ?_) (fun h49 => ?_)
    · refine r_aload0 hX dX6_takeChalk_56 ?_
      refine r_aload0 hX dX6_takeChalk_57 ?_
      refine g_wM_0_24 hX dX6_takeChalk_58 ?_
      refine r_iload1 hX dX6_takeChalk_61 ?_
      refine r_push hX dX6_takeChalk_62 ?_
      refine r_push hX dX6_takeChalk_63 ?_
      refine r_aV4i hX dX6_takeChalk_65 kX6_into (c_X6_into24 l g _ _ _ _ _ (by (repeat with_reducible refine mInto_PI ?_); exact PI_su hp (by decide) (by decide)) (by exact hc)) ad_wM rfl (by decide) (Nat.le_of_ble_eq_true rfl) ?_
      refine r_istore2 hX dX6_takeChalk_68 rfl ?_
      refine r_iload2 hX dX6_takeChalk_69 ?_
      refine r_if_le hX dX6_takeChalk_70 (fun h70 => ?_) (fun h70 => ?_)
      · refine r_aload0 hX dX6_takeChalk_77 ?_
        refine r_aload0 hX dX6_takeChalk_78 ?_
        refine g_wM_0_25 hX dX6_takeChalk_79 ?_
        refine r_iload1 hX dX6_takeChalk_82 ?_
        refine r_push hX dX6_takeChalk_83 ?_
        refine r_push hX dX6_takeChalk_84 ?_
        refine r_aV4i hX dX6_takeChalk_86 kX6_into (c_X6_into25 l g _ _ _ _ _ (by (repeat with_reducible refine mInto_PI ?_); exact PI_su hp (by decide) (by decide)) (by exact hc)) ad_wM rfl (by decide) (Nat.le_of_ble_eq_true rfl) ?_
        exact r_iret hX hQ dX6_takeChalk_89 (by unfold mChk; rw [mThen_t h28, mThen_t h49, mThen_t h70] <;> rfl) (by unfold mChk; rw [mThen_t h28, mThen_t h49, mThen_t h70] <;> rfl)
      · refine r_iload2 hX dX6_takeChalk_73 ?_
        refine r_goto hX dX6_takeChalk_74 ?_
        exact r_iret hX hQ dX6_takeChalk_89 (by unfold mChk; rw [mThen_t h28, mThen_t h49, mThen_f h70] <;> rfl) (by unfold mChk; rw [mThen_t h28, mThen_t h49, mThen_f h70] <;> rfl)
    · refine r_iload2 hX dX6_takeChalk_52 ?_
      refine r_goto hX dX6_takeChalk_53 ?_
      refine r_istore2 hX dX6_takeChalk_68 rfl ?_
      refine r_iload2 hX dX6_takeChalk_69 ?_
      refine r_if_le hX dX6_takeChalk_70 (fun h70 => ?_) (fun h70 => ?_)
      · refine r_aload0 hX dX6_takeChalk_77 ?_
        refine r_aload0 hX dX6_takeChalk_78 ?_
        refine g_wM_0_25 hX dX6_takeChalk_79 ?_
        refine r_iload1 hX dX6_takeChalk_82 ?_
        refine r_push hX dX6_takeChalk_83 ?_
        refine r_push hX dX6_takeChalk_84 ?_
        refine r_aV4i hX dX6_takeChalk_86 kX6_into (c_X6_into25 l g _ _ _ _ _ (by (repeat with_reducible refine mInto_PI ?_); exact PI_su hp (by decide) (by decide)) (by exact hc)) ad_wM rfl (by decide) (Nat.le_of_ble_eq_true rfl) ?_
        exact r_iret hX hQ dX6_takeChalk_89 (absurd h70 h49) (absurd h70 h49)
      · refine r_iload2 hX dX6_takeChalk_73 ?_
        refine r_goto hX dX6_takeChalk_74 ?_
        exact r_iret hX hQ dX6_takeChalk_89 (by unfold mChk; rw [mThen_t h28, mThen_f h49, mThen_f h70] <;> rfl) (by unfold mChk; rw [mThen_t h28, mThen_f h49, mThen_f h70] <;> rfl)
  · refine r_iload2 hX dX6_takeChalk_31 ?_
    refine r_goto hX dX6_takeChalk_32 ?_
    refine r_istore2 hX dX6_takeChalk_47 rfl ?_
    refine r_iload2 hX dX6_takeChalk_48 ?_
    refine r_if_le hX dX6_takeChalk_49 (fun h49 => ?_) (fun h49 => ?_)
    · refine r_aload0 hX dX6_takeChalk_56 ?_
      refine r_aload0 hX dX6_takeChalk_57 ?_
      refine g_wM_0_24 hX dX6_takeChalk_58 ?_
      refine r_iload1 hX dX6_takeChalk_61 ?_
      refine r_push hX dX6_takeChalk_62 ?_
      refine r_push hX dX6_takeChalk_63 ?_
      refine r_aV4i hX dX6_takeChalk_65 kX6_into (c_X6_into24 l g _ _ _ _ _ (by (repeat with_reducible refine mInto_PI ?_); exact PI_su hp (by decide) (by decide)) (by exact hc)) ad_wM rfl (by decide) (Nat.le_of_ble_eq_true rfl) ?_
      refine r_istore2 hX dX6_takeChalk_68 rfl ?_
      refine r_iload2 hX dX6_takeChalk_69 ?_
      refine r_if_le hX dX6_takeChalk_70 (fun h70 => ?_) (fun h70 => ?_)
      · refine r_aload0 hX dX6_takeChalk_77 ?_
        refine r_aload0 hX dX6_takeChalk_78 ?_
        refine g_wM_0_25 hX dX6_takeChalk_79 ?_
        refine r_iload1 hX dX6_takeChalk_82 ?_
        refine r_push hX dX6_takeChalk_83 ?_
        refine r_push hX dX6_takeChalk_84 ?_
        refine r_aV4i hX dX6_takeChalk_86 kX6_into (c_X6_into25 l g _ _ _ _ _ (by (repeat with_reducible refine mInto_PI ?_); exact PI_su hp (by decide) (by decide)) (by exact hc)) ad_wM rfl (by decide) (Nat.le_of_ble_eq_true rfl) ?_
        exact r_iret hX hQ dX6_takeChalk_89 (absurd h49 h28) (absurd h49 h28)
      · refine r_iload2 hX dX6_takeChalk_73 ?_
        refine r_goto hX dX6_takeChalk_74 ?_
        exact r_iret hX hQ dX6_takeChalk_89 (absurd h49 h28) (absurd h49 h28)
    · refine r_iload2 hX dX6_takeChalk_52 ?_
      refine r_goto hX dX6_takeChalk_53 ?_
      refine r_istore2 hX dX6_takeChalk_68 rfl ?_
      refine r_iload2 hX dX6_takeChalk_69 ?_
      refine r_if_le hX dX6_takeChalk_70 (fun h70 => ?_) (fun h70 => ?_)
      · refine r_aload0 hX dX6_takeChalk_77 ?_
        refine r_aload0 hX dX6_takeChalk_78 ?_
        refine g_wM_0_25 hX dX6_takeChalk_79 ?_
        refine r_iload1 hX dX6_takeChalk_82 ?_
        refine r_push hX dX6_takeChalk_83 ?_
        refine r_push hX dX6_takeChalk_84 ?_
        refine r_aV4i hX dX6_takeChalk_86 kX6_into (c_X6_into25 l g _ _ _ _ _ (by (repeat with_reducible refine mInto_PI ?_); exact PI_su hp (by decide) (by decide)) (by exact hc)) ad_wM rfl (by decide) (Nat.le_of_ble_eq_true rfl) ?_
        exact r_iret hX hQ dX6_takeChalk_89 (absurd h70 h28) (absurd h70 h28)
      · refine r_iload2 hX dX6_takeChalk_73 ?_
        refine r_goto hX dX6_takeChalk_74 ?_
        exact r_iret hX hQ dX6_takeChalk_89 (by unfold mChk; rw [mThen_f h28, mThen_f h49, mThen_f h70] <;> rfl) (by unfold mChk; rw [mThen_f h28, mThen_f h49, mThen_f h70] <;> rfl)
set_option maxHeartbeats 400000 in
theorem c_X6_takeRain (l : Launch) (g : GT) (b : Nat → Nat) (σ : S2)  (hp : PI σ) : Cx l g yX6_takeRain cX6_takeRain 1 (some .int) (k2_rm 3 90) [.ref (b 0)] (wM g b σ) (some (.int (mRai σ).1)) (wM g b (mRai σ).2) := by
  refine meth (own := "ChalkedDoorsModel") (by decide) rfl (Nat.le_of_ble_eq_true rfl) [some (.ref (b 0))] rfl (fun X hX hQ => ?_)
  refine r_aload0 hX dX6_takeRain_0 ?_
  refine r_push hX dX6_takeRain_1 ?_
  refine p_wM_0_28 hX dX6_takeRain_2 rfl rfl ?_
  refine r_aload0 hX dX6_takeRain_5 ?_
  refine r_aload0 hX dX6_takeRain_6 ?_
  refine g_wM_0_29 hX dX6_takeRain_7 ?_
  refine r_push hX dX6_takeRain_10 ?_
  refine r_push hX dX6_takeRain_11 ?_
  refine r_push hX dX6_takeRain_12 ?_
  refine r_aV4i hX dX6_takeRain_14 kX6_into (c_X6_into29 l g _ _ _ _ _ (by exact hp) (vp_in_nI (n := 0) (by decide) (by decide))) ad_wM rfl (by decide) (Nat.le_of_ble_eq_true rfl) ?_
  exact r_iret hX hQ dX6_takeRain_17 (rfl) (rfl)
set_option maxHeartbeats 400000 in
theorem c_X6_takeWatch (l : Launch) (g : GT) (b : Nat → Nat) (σ : S2)  (hp : PI σ) : Cx l g yX6_takeWatch cX6_takeWatch 2 (some .int) (k2_rm 3 90) [.ref (b 0)] (wM g b σ) (some (.int (mWat σ).1)) (wM g b (mWat σ).2) := by
  refine meth (own := "ChalkedDoorsModel") (by decide) rfl (Nat.le_of_ble_eq_true rfl) [some (.ref (b 0)), none] rfl (fun X hX hQ => ?_)
  refine r_aload0 hX dX6_takeWatch_0 ?_
  refine r_aload0 hX dX6_takeWatch_1 ?_
  refine g_wM_0_30 hX dX6_takeWatch_2 ?_
  refine r_push hX dX6_takeWatch_5 ?_
  refine r_push hX dX6_takeWatch_6 ?_
  refine r_push hX dX6_takeWatch_7 ?_
  refine r_aV4i hX dX6_takeWatch_9 kX6_into (c_X6_into30 l g _ _ _ _ _ hp (vp_in_nI (n := 0) (by decide) (by decide))) ad_wM rfl (by decide) (Nat.le_of_ble_eq_true rfl) ?_
  refine r_istore1 hX dX6_takeWatch_12 rfl ?_
  refine r_iload1 hX dX6_takeWatch_13 ?_
  refine r_if_le hX dX6_takeWatch_14 (fun h14 => ?_) (fun h14 => ?_)
  · refine r_aload0 hX dX6_takeWatch_21 ?_
    refine r_aload0 hX dX6_takeWatch_22 ?_
    refine g_wM_0_30 hX dX6_takeWatch_23 ?_
    refine r_push hX dX6_takeWatch_26 ?_
    refine r_push hX dX6_takeWatch_27 ?_
    refine r_push hX dX6_takeWatch_28 ?_
    refine r_aV4i hX dX6_takeWatch_30 kX6_into (c_X6_into30 l g _ _ _ _ _ (by exact mInto_PI hp) (vp_in_nI (n := 1) (by decide) (by decide))) ad_wM rfl (by decide) (Nat.le_of_ble_eq_true rfl) ?_
    exact r_iret hX hQ dX6_takeWatch_33 (by unfold mWat; rw [mThen_t h14] <;> rfl) (by unfold mWat; rw [mThen_t h14] <;> rfl)
  · refine r_iload1 hX dX6_takeWatch_17 ?_
    refine r_goto hX dX6_takeWatch_18 ?_
    exact r_iret hX hQ dX6_takeWatch_33 (by unfold mWat; rw [mThen_f h14] <;> rfl) (by unfold mWat; rw [mThen_f h14] <;> rfl)
set_option maxHeartbeats 400000 in
theorem c_X6_takeMarks (l : Launch) (g : GT) (b : Nat → Nat) (σ : S2)  (hp : PI σ) (D : Nat) (hD : D ≤ 14) (hD1 : 1 ≤ D) (eD : σ.1 20 = nI D) : Cx l g yX6_takeMarks cX6_takeMarks 3 (some .int) (k2_rm 3 90) [.ref (b 0)] (wM g b σ) (some (.int (mMrk σ).1)) (wM g b (mMrk σ).2) := by
  refine meth (own := "ChalkedDoorsModel") (by decide) rfl (Nat.le_of_ble_eq_true rfl) [some (.ref (b 0)), none, none] rfl (fun X hX hQ => ?_)
  refine r_aload0 hX dX6_takeMarks_0 ?_
  refine r_push hX dX6_takeMarks_1 ?_
  refine r_aload0 hX dX6_takeMarks_2 ?_
  refine g_wM_0_20 hX dX6_takeMarks_3 ?_
  refine r_push hX dX6_takeMarks_6 ?_
  refine r_isub hX dX6_takeMarks_7 ?_
  refine r_aV2i hX dX6_takeMarks_8 kX6_takeNumber (c_X6_takeNumber l g _ _ _ _ hp) ad_wM rfl (by decide) (Nat.le_of_ble_eq_true rfl) ?_
  refine r_istore1 hX dX6_takeMarks_11 rfl ?_
  refine r_iload1 hX dX6_takeMarks_12 ?_
  refine r_if_le hX dX6_takeMarks_13 (fun h13 => ?_) (fun h13 => ?_)
  · refine r_aload0 hX dX6_takeMarks_18 ?_
    refine g_wM_0_18 hX dX6_takeMarks_19 ?_
    refine r_istore2 hX dX6_takeMarks_22 rfl ?_
    refine r_aload0 hX dX6_takeMarks_23 ?_
    refine g_wM_0_26 hX dX6_takeMarks_24 ?_
    refine r_iload2 hX dX6_takeMarks_27 ?_
    refine r_nS2i hX dX6_takeMarks_28 kX6_has (c_X6_has l g _ _) (by decide) (Nat.le_of_ble_eq_true rfl) ?_
    refine r_if_eq hX dX6_takeMarks_31 (fun h31 => ?_) (fun h31 => ?_)
    · refine r_aload0 hX dX6_takeMarks_44 ?_
      refine r_dup hX dX6_takeMarks_45 rfl ?_
      refine g_wM_0_26 hX dX6_takeMarks_46 ?_
      refine r_push hX dX6_takeMarks_49 ?_
      refine r_iload2 hX dX6_takeMarks_50 ?_
      refine r_ishl hX dX6_takeMarks_51 ?_
      refine r_ior hX dX6_takeMarks_52 ?_
      refine p_wM_0_26 hX dX6_takeMarks_53 ?_
      refine r_aload0 hX dX6_takeMarks_56 ?_
      refine r_aload0 hX dX6_takeMarks_57 ?_
      refine g_wM_0_27 hX dX6_takeMarks_58 ?_
      refine r_iload2 hX dX6_takeMarks_61 ?_
      refine r_push hX dX6_takeMarks_62 ?_
      refine r_push hX dX6_takeMarks_63 ?_
      refine r_aload0 hX dX6_takeMarks_64 ?_
      refine g_wM_0_21 hX dX6_takeMarks_65 ?_
      refine r_ishl hX dX6_takeMarks_68 ?_
      refine r_push hX dX6_takeMarks_69 ?_
      refine r_isub hX dX6_takeMarks_70 ?_
      refine r_aV4i hX dX6_takeMarks_71 kX6_into (c_X6_into27 l g _ _ _ _ _ (PI_su (mTN_PI hp) (by decide) (by decide)) (by exact inB_vin (mTN_ok h13) eD hD hD1)) ad_wM rfl (by decide) (Nat.le_of_ble_eq_true rfl) ?_
      exact r_iret hX hQ dX6_takeMarks_74 (by unfold mMrk; rw [if_pos h13]; unfold mMrk2; rw [if_neg (bI_z h31)] <;> rfl) (by unfold mMrk; rw [if_pos h13]; unfold mMrk2; rw [if_neg (bI_z h31)] <;> rfl)
    · refine r_aload0 hX dX6_takeMarks_34 ?_
      refine r_push hX dX6_takeMarks_35 ?_
      refine r_aload0 hX dX6_takeMarks_36 ?_
      refine g_wM_0_19 hX dX6_takeMarks_37 ?_
      refine r_aV2i hX dX6_takeMarks_40 kX6_fails (c_X6_fails l g _ _ _ _) ad_wM rfl (by decide) (Nat.le_of_ble_eq_true rfl) ?_
      exact r_iret hX hQ dX6_takeMarks_43 (by unfold mMrk; rw [if_pos h13]; unfold mMrk2; rw [if_pos (bI_nz h31)] <;> rfl) (by unfold mMrk; rw [if_pos h13]; unfold mMrk2; rw [if_pos (bI_nz h31)] <;> rfl)
  · refine r_iload1 hX dX6_takeMarks_16 ?_
    exact r_iret hX hQ dX6_takeMarks_17 (by unfold mMrk; rw [if_neg h13] <;> rfl) (by unfold mMrk; rw [if_neg h13] <;> rfl)
