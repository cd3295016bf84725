set_option maxHeartbeats 400000 in
theorem c_X6_in (l : Launch) (g : GT)  (v x y : Int64)  : Cx l g yX6_in cX6_in 6 (some .boolean) (k2_rm 0 0) [.long v, .long x, .long y] [] (some (.int (bI (inB v.toInt x.toInt y.toInt)))) [] := by
  refine meth (own := "ChalkedDoorsModel") (by decide) rfl (Nat.le_of_ble_eq_true rfl) [some (.long v), none, some (.long x), none, some (.long y), none] rfl (fun X hX hQ => ?_)
  refine r_lload0 hX dX6_in_0 ?_
  refine r_lload2 hX dX6_in_1 ?_
  refine r_lcmp hX dX6_in_2 ?_
  refine r_if_lt hX dX6_in_3 (fun h3 => ?_) (fun h3 => ?_)
  · refine r_push hX dX6_in_17 ?_
    exact r_zret hX hQ dX6_in_18 rfl (by rw [lgc_lt, Int64.lt_iff_toInt_lt] at h3; first | (rw [lgc_gt, Int64.lt_iff_toInt_lt] at h10; first | (rw [bI_t (p := inB v.toInt x.toInt y.toInt) (by constructor <;> omega)]; done) | (rw [bI_f (p := inB v.toInt x.toInt y.toInt) (by rintro ⟨ha, hc⟩; omega)]; done)) | (rw [bI_f (p := inB v.toInt x.toInt y.toInt) (by rintro ⟨ha, hc⟩; omega)])) (rfl)
  · refine r_lload0 hX dX6_in_6 ?_
    refine r_lload4 hX dX6_in_7 ?_
    refine r_lcmp hX dX6_in_9 ?_
    refine r_if_gt hX dX6_in_10 (fun h10 => ?_) (fun h10 => ?_)
    · refine r_push hX dX6_in_17 ?_
      exact r_zret hX hQ dX6_in_18 rfl (by rw [lgc_lt, Int64.lt_iff_toInt_lt] at h3; first | (rw [lgc_gt, Int64.lt_iff_toInt_lt] at h10; first | (rw [bI_t (p := inB v.toInt x.toInt y.toInt) (by constructor <;> omega)]; done) | (rw [bI_f (p := inB v.toInt x.toInt y.toInt) (by rintro ⟨ha, hc⟩; omega)]; done)) | (rw [bI_f (p := inB v.toInt x.toInt y.toInt) (by rintro ⟨ha, hc⟩; omega)])) (rfl)
    · refine r_push hX dX6_in_13 ?_
      refine r_goto hX dX6_in_14 ?_
      exact r_zret hX hQ dX6_in_18 rfl (by rw [lgc_lt, Int64.lt_iff_toInt_lt] at h3; first | (rw [lgc_gt, Int64.lt_iff_toInt_lt] at h10; first | (rw [bI_t (p := inB v.toInt x.toInt y.toInt) (by constructor <;> omega)]; done) | (rw [bI_f (p := inB v.toInt x.toInt y.toInt) (by rintro ⟨ha, hc⟩; omega)]; done)) | (rw [bI_f (p := inB v.toInt x.toInt y.toInt) (by rintro ⟨ha, hc⟩; omega)])) (rfl)
set_option maxHeartbeats 400000 in
theorem c_X6_has (l : Launch) (g : GT)  (s k : Int32)  : Cx l g yX6_has cX6_has 2 (some .boolean) (k2_rm 0 0) [.int s, .int k] [] (some (.int (bI (hb s k)))) [] := by
  refine meth (own := "ChalkedDoorsModel") (by decide) rfl (Nat.le_of_ble_eq_true rfl) [some (.int s), some (.int k)] rfl (fun X hX hQ => ?_)
  refine r_iload0 hX dX6_has_0 ?_
  refine r_iload1 hX dX6_has_1 ?_
  refine r_ishr hX dX6_has_2 ?_
  refine r_push hX dX6_has_3 ?_
  refine r_iand hX dX6_has_4 ?_
  refine r_push hX dX6_has_5 ?_
  refine r_ic_ne hX dX6_has_6 (fun h6 => ?_) (fun h6 => ?_)
  · refine r_push hX dX6_has_13 ?_
    exact r_zret hX hQ dX6_has_14 rfl (by first | (rw [bI_t (p := hb s k) (and1'.mp h6)]; done) | (rw [bI_f (p := hb s k) (fun h => h6 (and1'.mpr h))]; done)) (rfl)
  · refine r_push hX dX6_has_9 ?_
    refine r_goto hX dX6_has_10 ?_
    exact r_zret hX hQ dX6_has_14 rfl (by first | (rw [bI_t (p := hb s k) (and1'.mp h6)]; done) | (rw [bI_f (p := hb s k) (fun h => h6 (and1'.mpr h))]; done)) (rfl)
set_option maxHeartbeats 400000 in
theorem c_X5_has (l : Launch) (g : GT)  (s k : Int32)  : Cx l g yX5_has cX5_has 2 (some .boolean) (k2_rm 0 0) [.int s, .int k] [] (some (.int (bI (hb s k)))) [] := by
  refine meth (own := "ChalkedDoors") (by decide) rfl (Nat.le_of_ble_eq_true rfl) [some (.int s), some (.int k)] rfl (fun X hX hQ => ?_)
  refine r_iload0 hX dX5_has_0 ?_
  refine r_iload1 hX dX5_has_1 ?_
  refine r_ishr hX dX5_has_2 ?_
  refine r_push hX dX5_has_3 ?_
  refine r_iand hX dX5_has_4 ?_
  refine r_if_eq hX dX5_has_5 (fun h5 => ?_) (fun h5 => ?_)
  · refine r_push hX dX5_has_12 ?_
    exact r_zret hX hQ dX5_has_13 rfl (by first | (rw [bI_t (p := hb s k) h5]; done) | (rw [bI_f (p := hb s k) (fun h => h h5)]; done)) (rfl)
  · refine r_push hX dX5_has_8 ?_
    refine r_goto hX dX5_has_9 ?_
    exact r_zret hX hQ dX5_has_13 rfl (by first | (rw [bI_t (p := hb s k) h5]; done) | (rw [bI_f (p := hb s k) (fun h => h h5)]; done)) (rfl)
set_option maxHeartbeats 400000 in
theorem c_X6_away (l : Launch) (g : GT)  (u v : Int32)  : Cx l g yX6_away cX6_away 2 (some .int) (k2_rm 0 0) [.int u, .int v] [] (some (.int (awayF u v))) [] := by
  refine meth (own := "ChalkedDoorsModel") (by decide) rfl (Nat.le_of_ble_eq_true rfl) [some (.int u), some (.int v)] rfl (fun X hX hQ => ?_)
  refine r_iload0 hX dX6_away_0 ?_
  refine r_iload1 hX dX6_away_1 ?_
  refine r_ic_ge hX dX6_away_2 (fun h2 => ?_) (fun h2 => ?_)
  · refine r_iload0 hX dX6_away_11 ?_
    refine r_iload1 hX dX6_away_12 ?_
    refine r_isub hX dX6_away_13 ?_
    exact r_iret hX hQ dX6_away_14 (by rw [awayF_eq]; first | (rw [if_pos h2]; done) | (rw [if_neg h2]; done)) (rfl)
  · refine r_iload1 hX dX6_away_5 ?_
    refine r_iload0 hX dX6_away_6 ?_
    refine r_isub hX dX6_away_7 ?_
    refine r_goto hX dX6_away_8 ?_
    exact r_iret hX hQ dX6_away_14 (by rw [awayF_eq]; first | (rw [if_pos h2]; done) | (rw [if_neg h2]; done)) (rfl)
set_option maxHeartbeats 400000 in
theorem c_X6_bits (l : Launch) (g : GT)  (s : Int32)  : Cx l g yX6_bits cX6_bits 3 (some .int) (k2_rm 0 0) [.int s] [] (some (.int (bitsF s))) [] := by
  refine meth (own := "ChalkedDoorsModel") (by decide) rfl (Nat.le_of_ble_eq_true rfl) [some (.int s), none, none] rfl (fun X hX hQ => ?_)
  generalize hsp : bitsF s = sp at hQ
  rw [bitsF_eq] at hsp
  have hL4 : ∀ (n i : Nat) (x : Int32) (r : Int32), x = nI i → i + n = 16 → sp = lp (fun k n => n + ((s >>> (nI k &&& 31)) &&& 1)) n i r → vJ X 0 0 ([]) 4 [some (.int s), some (.int r), some (.int x)] [] := by
    intro n
    induction n with
    | zero =>
      intro i x r hx hn hs
      refine r_iload2 hX dX6_bits_4 ?_
      refine r_push hX dX6_bits_5 ?_
      refine r_ic_ge hX dX6_bits_7 (fun h7 => ?_) (fun h7 => absurd (lpx (e := 16) hx rfl (by omega) (by omega) (by omega)) h7)
      refine r_iload1 hX dX6_bits_24 ?_
      exact r_iret hX hQ dX6_bits_25 (by rw [hs]; rfl) (rfl)
    | succ n ih =>
      intro i x r hx hn hs
      refine r_iload2 hX dX6_bits_4 ?_
      refine r_push hX dX6_bits_5 ?_
      refine r_ic_ge hX dX6_bits_7 (fun h7 => absurd h7 (lpn (e := 16) hx rfl (by omega) (by omega))) (fun h7 => ?_)
      refine r_iload1 hX dX6_bits_10 ?_
      refine r_iload0 hX dX6_bits_11 ?_
      refine r_iload2 hX dX6_bits_12 ?_
      refine r_ishr hX dX6_bits_13 ?_
      refine r_push hX dX6_bits_14 ?_
      refine r_iand hX dX6_bits_15 ?_
      refine r_iadd hX dX6_bits_16 ?_
      refine r_istore1 hX dX6_bits_17 rfl ?_
      refine r_iinc2 hX dX6_bits_18 rfl ?_
      refine r_goto hX dX6_bits_21 ?_
      exact ih (i + 1) _ _ (by rw [hx]; exact nI_1 i) (by omega) (by rw [hs, hx]; rfl)
  refine r_push hX dX6_bits_0 ?_
  refine r_istore1 hX dX6_bits_1 rfl ?_
  refine r_push hX dX6_bits_2 ?_
  refine r_istore2 hX dX6_bits_3 rfl ?_
  exact hL4 16 0 _ _ rfl rfl hsp.symm
