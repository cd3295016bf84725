theorem s_wA_0 {X : CT} {l : Launch} {g : GT} {own : String} {cc : ByteArray} {R : Room} {cs sl pc nx : Nat} {lv : List (Option Value)} {st : List Value} {q : Nat} {n : Nat} {f : Nat → Int32} {i v : Int32} (hX : oK X l g own cc R) (hd : dR cc pc (.iastore) 1 nx) (hi : vp_in i n) (k : vJ X cs sl (wA g q n (upd f i.toNatClampNeg v)) nx lv st) : vJ X cs sl (wA g q n f) pc lv (.int v :: .int i :: .ref (q) :: st) := r_iast hX hd 0 rfl hi _ rfl k
theorem g_wP_0_0 {X : CT} {l : Launch} {g : GT} {own : String} {cc : ByteArray} {R : Room} {cs sl pc nx : Nat} {lv : List (Option Value)} {st : List Value} {b : Nat → Nat} {σ : S2} (hX : oK X l g own cc R) (hd : dGf own cc pc 2 0 nx) (k : vJ X cs sl (wP g b σ) nx lv (.int (σ.1 0) :: st)) : vJ X cs sl (wP g b σ) pc lv (.ref (b 0) :: st) := r_get hX hd 0 rfl rfl k
theorem g_wP_0_1 {X : CT} {l : Launch} {g : GT} {own : String} {cc : ByteArray} {R : Room} {cs sl pc nx : Nat} {lv : List (Option Value)} {st : List Value} {b : Nat → Nat} {σ : S2} (hX : oK X l g own cc R) (hd : dGf own cc pc 2 1 nx) (k : vJ X cs sl (wP g b σ) nx lv (.int (σ.1 1) :: st)) : vJ X cs sl (wP g b σ) pc lv (.ref (b 0) :: st) := r_get hX hd 0 rfl rfl k
theorem g_wP_0_2 {X : CT} {l : Launch} {g : GT} {own : String} {cc : ByteArray} {R : Room} {cs sl pc nx : Nat} {lv : List (Option Value)} {st : List Value} {b : Nat → Nat} {σ : S2} (hX : oK X l g own cc R) (hd : dGf own cc pc 2 2 nx) (k : vJ X cs sl (wP g b σ) nx lv (.ref (b 1) :: st)) : vJ X cs sl (wP g b σ) pc lv (.ref (b 0) :: st) := r_get hX hd 0 rfl rfl k
theorem l_wP_1 {X : CT} {l : Launch} {g : GT} {own : String} {cc : ByteArray} {R : Room} {cs sl pc nx : Nat} {lv : List (Option Value)} {st : List Value} {b : Nat → Nat} {σ : S2} {i : Int32} (hX : oK X l g own cc R) (hd : dR cc pc (.iaload) 1 nx) (hi : vp_in i 4) (k : vJ X cs sl (wP g b σ) nx lv (.int (σ.2 2 i.toNatClampNeg) :: st)) : vJ X cs sl (wP g b σ) pc lv (.int i :: .ref (b 1) :: st) := r_iald hX hd 1 rfl hi k
theorem g_wP_0_3 {X : CT} {l : Launch} {g : GT} {own : String} {cc : ByteArray} {R : Room} {cs sl pc nx : Nat} {lv : List (Option Value)} {st : List Value} {b : Nat → Nat} {σ : S2} (hX : oK X l g own cc R) (hd : dGf own cc pc 2 3 nx) (k : vJ X cs sl (wP g b σ) nx lv (.ref (b 2) :: st)) : vJ X cs sl (wP g b σ) pc lv (.ref (b 0) :: st) := r_get hX hd 0 rfl rfl k
theorem l_wP_2 {X : CT} {l : Launch} {g : GT} {own : String} {cc : ByteArray} {R : Room} {cs sl pc nx : Nat} {lv : List (Option Value)} {st : List Value} {b : Nat → Nat} {σ : S2} {i : Int32} (hX : oK X l g own cc R) (hd : dR cc pc (.iaload) 1 nx) (hi : vp_in i 4) (k : vJ X cs sl (wP g b σ) nx lv (.int (σ.2 3 i.toNatClampNeg) :: st)) : vJ X cs sl (wP g b σ) pc lv (.int i :: .ref (b 2) :: st) := r_iald hX hd 2 rfl hi k
theorem g_wP_0_4 {X : CT} {l : Launch} {g : GT} {own : String} {cc : ByteArray} {R : Room} {cs sl pc nx : Nat} {lv : List (Option Value)} {st : List Value} {b : Nat → Nat} {σ : S2} (hX : oK X l g own cc R) (hd : dGf own cc pc 2 4 nx) (k : vJ X cs sl (wP g b σ) nx lv (.ref (b 3) :: st)) : vJ X cs sl (wP g b σ) pc lv (.ref (b 0) :: st) := r_get hX hd 0 rfl rfl k
theorem l_wP_3 {X : CT} {l : Launch} {g : GT} {own : String} {cc : ByteArray} {R : Room} {cs sl pc nx : Nat} {lv : List (Option Value)} {st : List Value} {b : Nat → Nat} {σ : S2} {i : Int32} (hX : oK X l g own cc R) (hd : dR cc pc (.iaload) 1 nx) (hi : vp_in i 4) (k : vJ X cs sl (wP g b σ) nx lv (.int (σ.2 4 i.toNatClampNeg) :: st)) : vJ X cs sl (wP g b σ) pc lv (.int i :: .ref (b 3) :: st) := r_iald hX hd 3 rfl hi k
theorem g_wP_0_5 {X : CT} {l : Launch} {g : GT} {own : String} {cc : ByteArray} {R : Room} {cs sl pc nx : Nat} {lv : List (Option Value)} {st : List Value} {b : Nat → Nat} {σ : S2} (hX : oK X l g own cc R) (hd : dGf own cc pc 2 5 nx) (k : vJ X cs sl (wP g b σ) nx lv (.ref (b 4) :: st)) : vJ X cs sl (wP g b σ) pc lv (.ref (b 0) :: st) := r_get hX hd 0 rfl rfl k
theorem l_wP_4 {X : CT} {l : Launch} {g : GT} {own : String} {cc : ByteArray} {R : Room} {cs sl pc nx : Nat} {lv : List (Option Value)} {st : List Value} {b : Nat → Nat} {σ : S2} {i : Int32} (hX : oK X l g own cc R) (hd : dR cc pc (.iaload) 1 nx) (hi : vp_in i 4) (k : vJ X cs sl (wP g b σ) nx lv (.int (σ.2 5 i.toNatClampNeg) :: st)) : vJ X cs sl (wP g b σ) pc lv (.int i :: .ref (b 4) :: st) := r_iald hX hd 4 rfl hi k
theorem p_wP_0_0 {X : CT} {l : Launch} {g : GT} {own : String} {cc : ByteArray} {R : Room} {cs sl pc nx : Nat} {lv : List (Option Value)} {st : List Value} {b : Nat → Nat} {σ : S2} {v : Int32} (hX : oK X l g own cc R) (hd : dPf own cc pc 2 0 .int nx) (k : vJ X cs sl (wP g b (su σ 0 v)) nx lv st) : vJ X cs sl (wP g b σ) pc lv (.int v :: .ref (b 0) :: st) := r_put hX hd 0 rfl rfl rfl (Nat.le_of_ble_eq_true rfl) _ rfl k
theorem p_wP_0_1 {X : CT} {l : Launch} {g : GT} {own : String} {cc : ByteArray} {R : Room} {cs sl pc nx : Nat} {lv : List (Option Value)} {st : List Value} {b : Nat → Nat} {σ : S2} {v : Int32} (hX : oK X l g own cc R) (hd : dPf own cc pc 2 1 .int nx) (k : vJ X cs sl (wP g b (su σ 1 v)) nx lv st) : vJ X cs sl (wP g b σ) pc lv (.int v :: .ref (b 0) :: st) := r_put hX hd 0 rfl rfl rfl (Nat.le_of_ble_eq_true rfl) _ rfl k
theorem g_wP_0_6 {X : CT} {l : Launch} {g : GT} {own : String} {cc : ByteArray} {R : Room} {cs sl pc nx : Nat} {lv : List (Option Value)} {st : List Value} {b : Nat → Nat} {σ : S2} (hX : oK X l g own cc R) (hd : dGf own cc pc 2 6 nx) (k : vJ X cs sl (wP g b σ) nx lv (.ref (b 5) :: st)) : vJ X cs sl (wP g b σ) pc lv (.ref (b 0) :: st) := r_get hX hd 0 rfl rfl k
theorem fr_wP_wA_5_5 {g : GT} {b : Nat → Nat} {σ : S2} {f' : Nat → Int32} : frm (wP g b σ) (wA g (b 5) 14 (σ.2 6)) (wA g (b 5) 14 f') (wP g b (aw σ 6 f')) := frm_sub [5] [0, 1, 2, 3, 4] rfl rfl rfl rfl rfl rfl
theorem p_wP_0_7 {X : CT} {l : Launch} {g : GT} {own : String} {cc : ByteArray} {R : Room} {cs sl pc nx : Nat} {lv : List (Option Value)} {st : List Value} {b : Nat → Nat} {σ : S2} {v : Int32} (hX : oK X l g own cc R) (hd : dPf own cc pc 2 7 .int nx) (k : vJ X cs sl (wP g b (su σ 7 v)) nx lv st) : vJ X cs sl (wP g b σ) pc lv (.int v :: .ref (b 0) :: st) := r_put hX hd 0 rfl rfl rfl (Nat.le_of_ble_eq_true rfl) _ rfl k
theorem p_wP_0_8 {X : CT} {l : Launch} {g : GT} {own : String} {cc : ByteArray} {R : Room} {cs sl pc nx : Nat} {lv : List (Option Value)} {st : List Value} {b : Nat → Nat} {σ : S2} {v : Int32} (hX : oK X l g own cc R) (hd : dPf own cc pc 2 8 .int nx) (k : vJ X cs sl (wP g b (su σ 8 v)) nx lv st) : vJ X cs sl (wP g b σ) pc lv (.int v :: .ref (b 0) :: st) := r_put hX hd 0 rfl rfl rfl (Nat.le_of_ble_eq_true rfl) _ rfl k
theorem p_wP_0_9 {X : CT} {l : Launch} {g : GT} {own : String} {cc : ByteArray} {R : Room} {cs sl pc nx : Nat} {lv : List (Option Value)} {st : List Value} {b : Nat → Nat} {σ : S2} {v : Int32} (hX : oK X l g own cc R) (hd : dPf own cc pc 2 9 .int nx) (k : vJ X cs sl (wP g b (su σ 9 v)) nx lv st) : vJ X cs sl (wP g b σ) pc lv (.int v :: .ref (b 0) :: st) := r_put hX hd 0 rfl rfl rfl (Nat.le_of_ble_eq_true rfl) _ rfl k
theorem s_wP_1 {X : CT} {l : Launch} {g : GT} {own : String} {cc : ByteArray} {R : Room} {cs sl pc nx : Nat} {lv : List (Option Value)} {st : List Value} {b : Nat → Nat} {σ : S2} {i v : Int32} (hX : oK X l g own cc R) (hd : dR cc pc (.iastore) 1 nx) (hi : vp_in i 4) (k : vJ X cs sl (wP g b (au σ 2 i.toNatClampNeg v)) nx lv st) : vJ X cs sl (wP g b σ) pc lv (.int v :: .int i :: .ref (b 1) :: st) := r_iast hX hd 1 rfl hi _ rfl k
theorem s_wP_2 {X : CT} {l : Launch} {g : GT} {own : String} {cc : ByteArray} {R : Room} {cs sl pc nx : Nat} {lv : List (Option Value)} {st : List Value} {b : Nat → Nat} {σ : S2} {i v : Int32} (hX : oK X l g own cc R) (hd : dR cc pc (.iastore) 1 nx) (hi : vp_in i 4) (k : vJ X cs sl (wP g b (au σ 3 i.toNatClampNeg v)) nx lv st) : vJ X cs sl (wP g b σ) pc lv (.int v :: .int i :: .ref (b 2) :: st) := r_iast hX hd 2 rfl hi _ rfl k
theorem s_wP_3 {X : CT} {l : Launch} {g : GT} {own : String} {cc : ByteArray} {R : Room} {cs sl pc nx : Nat} {lv : List (Option Value)} {st : List Value} {b : Nat → Nat} {σ : S2} {i v : Int32} (hX : oK X l g own cc R) (hd : dR cc pc (.iastore) 1 nx) (hi : vp_in i 4) (k : vJ X cs sl (wP g b (au σ 4 i.toNatClampNeg v)) nx lv st) : vJ X cs sl (wP g b σ) pc lv (.int v :: .int i :: .ref (b 3) :: st) := r_iast hX hd 3 rfl hi _ rfl k
theorem s_wP_4 {X : CT} {l : Launch} {g : GT} {own : String} {cc : ByteArray} {R : Room} {cs sl pc nx : Nat} {lv : List (Option Value)} {st : List Value} {b : Nat → Nat} {σ : S2} {i v : Int32} (hX : oK X l g own cc R) (hd : dR cc pc (.iastore) 1 nx) (hi : vp_in i 4) (k : vJ X cs sl (wP g b (au σ 5 i.toNatClampNeg v)) nx lv st) : vJ X cs sl (wP g b σ) pc lv (.int v :: .int i :: .ref (b 4) :: st) := r_iast hX hd 4 rfl hi _ rfl k
theorem g_wP_0_8 {X : CT} {l : Launch} {g : GT} {own : String} {cc : ByteArray} {R : Room} {cs sl pc nx : Nat} {lv : List (Option Value)} {st : List Value} {b : Nat → Nat} {σ : S2} (hX : oK X l g own cc R) (hd : dGf own cc pc 2 8 nx) (k : vJ X cs sl (wP g b σ) nx lv (.int (σ.1 8) :: st)) : vJ X cs sl (wP g b σ) pc lv (.ref (b 0) :: st) := r_get hX hd 0 rfl rfl k
set_option maxHeartbeats 400000 in
theorem c_bitCount (l : Launch) (g : GT)  (s : Int32)  : Cx l g yJ6_bitCount_0f7a4 cJ6_bitCount_0f7a4 1 (some .int) (k2_rm 0 0) [.int s] [] (some (.int (bcF s))) [] := by
  refine meth (own := "java/lang/Integer") (by decide) rfl (Nat.le_of_ble_eq_true rfl) [some (.int s)] rfl (fun X hX hQ => ?_)
  refine r_iload0 hX dJ6_bitCount_0f7a4_0 ?_
  refine r_iload0 hX dJ6_bitCount_0f7a4_1 ?_
  refine r_push hX dJ6_bitCount_0f7a4_2 ?_
  refine r_iushr hX dJ6_bitCount_0f7a4_3 ?_
  refine r_push hX dJ6_bitCount_0f7a4_4 ?_
  refine r_iand hX dJ6_bitCount_0f7a4_7 ?_
  refine r_isub hX dJ6_bitCount_0f7a4_8 ?_
  refine r_istore0 hX dJ6_bitCount_0f7a4_9 ?_
  refine r_iload0 hX dJ6_bitCount_0f7a4_10 ?_
  refine r_push hX dJ6_bitCount_0f7a4_11 ?_
  refine r_iand hX dJ6_bitCount_0f7a4_14 ?_
  refine r_iload0 hX dJ6_bitCount_0f7a4_15 ?_
  refine r_push hX dJ6_bitCount_0f7a4_16 ?_
  refine r_iushr hX dJ6_bitCount_0f7a4_17 ?_
  refine r_push hX dJ6_bitCount_0f7a4_18 ?_
  refine r_iand hX dJ6_bitCount_0f7a4_21 ?_
  refine r_iadd hX dJ6_bitCount_0f7a4_22 ?_
  refine r_istore0 hX dJ6_bitCount_0f7a4_23 ?_
  refine r_iload0 hX dJ6_bitCount_0f7a4_24 ?_
  refine r_iload0 hX dJ6_bitCount_0f7a4_25 ?_
  refine r_push hX dJ6_bitCount_0f7a4_26 ?_
  refine r_iushr hX dJ6_bitCount_0f7a4_27 ?_
  refine r_iadd hX dJ6_bitCount_0f7a4_28 ?_
  refine r_push hX dJ6_bitCount_0f7a4_29 ?_
  refine r_iand hX dJ6_bitCount_0f7a4_32 ?_
  refine r_istore0 hX dJ6_bitCount_0f7a4_33 ?_
  refine r_iload0 hX dJ6_bitCount_0f7a4_34 ?_
  refine r_iload0 hX dJ6_bitCount_0f7a4_35 ?_
  refine r_push hX dJ6_bitCount_0f7a4_36 ?_
  refine r_iushr hX dJ6_bitCount_0f7a4_38 ?_
  refine r_iadd hX dJ6_bitCount_0f7a4_39 ?_
  refine r_istore0 hX dJ6_bitCount_0f7a4_40 ?_
  refine r_iload0 hX dJ6_bitCount_0f7a4_41 ?_
  refine r_iload0 hX dJ6_bitCount_0f7a4_42 ?_
  refine r_push hX dJ6_bitCount_0f7a4_43 ?_
  refine r_iushr hX dJ6_bitCount_0f7a4_45 ?_
  refine r_iadd hX dJ6_bitCount_0f7a4_46 ?_
  refine r_istore0 hX dJ6_bitCount_0f7a4_47 ?_
  refine r_iload0 hX dJ6_bitCount_0f7a4_48 ?_
  refine r_push hX dJ6_bitCount_0f7a4_49 ?_
  refine r_iand hX dJ6_bitCount_0f7a4_51 ?_
  exact r_iret hX hQ dJ6_bitCount_0f7a4_52 (by rw [bcF_eq]; rfl) (rfl)
set_option maxHeartbeats 400000 in
theorem c_fill (l : Launch) (g : GT) (q : Nat) (n : Nat) (f : Nat → Int32) (v : Int32) (hn : n < 2 ^ 31) : Cx l g yJ7_fill_53178 cJ7_fill_53178 4 none (k2_rm 0 0) [.ref (q), .int v] (wA g q n f) none (wA g q n (cpN n (fun _ => v) f)) := by
  refine meth (own := "java/util/Arrays") (by decide) rfl (Nat.le_of_ble_eq_true rfl) [some (.ref (q)), some (.int v), none, none] rfl (fun X hX hQ => ?_)
  generalize hsp : cpN n (fun _ => v) f = S at hQ
  unfold cpN at hsp
  have hL5 : ∀ (n0 i : Nat) (x : Int32) (h : Nat → Int32), x = nI i → i + n0 = n → S = lp (fun c f => upd f c v) n0 i h → vJ X 0 0 (wA g q n h) 5 [some (.ref (q)), some (.int v), some (.int x), some (.int (Int32.ofNat n))] [] := by
    intro n0
    induction n0 with
    | zero =>
      intro i x h hx hn hs
      refine r_iload2 hX dJ7_fill_53178_5 ?_
      refine r_iload3 hX dJ7_fill_53178_6 ?_
      refine r_ic_ge hX dJ7_fill_53178_7 (fun h7 => ?_) (fun h7 => absurd (lpx (e := n) hx rfl (by omega) (by omega) (by omega)) h7)
      exact r_vret hX hQ dJ7_fill_53178_20 (by rw [hs] <;> rfl)
    | succ n0 ih =>
      intro i x h hx hn hs
      have hcx : cl x = i := by rw [hx]; exact nI_clamp (by omega)
      refine r_iload2 hX dJ7_fill_53178_5 ?_
      refine r_iload3 hX dJ7_fill_53178_6 ?_
      refine r_ic_ge hX dJ7_fill_53178_7 (fun h7 => absurd h7 (lpn (e := n) hx rfl (by omega) (by omega))) (fun h7 => ?_)
      refine r_aload0 hX dJ7_fill_53178_10 ?_
      refine r_iload2 hX dJ7_fill_53178_11 ?_
      refine r_iload1 hX dJ7_fill_53178_12 ?_
      refine s_wA_0 hX dJ7_fill_53178_13 (by rw [hx]; exact vp_in_nI (by omega) (by omega)) ?_
      refine r_iinc2 hX dJ7_fill_53178_14 rfl ?_
      refine r_goto hX dJ7_fill_53178_17 ?_
      refine vJw (w' := wA g q n (upd h (cl x) v)) rfl ?_
      rw [hcx]
      exact ih (i + 1) _ _ (by rw [hx]; exact nI_1 i) (by omega) hs
  refine r_push hX dJ7_fill_53178_0 ?_
  refine r_istore2 hX dJ7_fill_53178_1 rfl ?_
  refine r_aload0 hX dJ7_fill_53178_2 ?_
  refine r_alen hX dJ7_fill_53178_3 0 rfl ?_
  refine r_istore3 hX dJ7_fill_53178_4 rfl ?_
  exact hL5 n 0 _ _ rfl (by omega) hsp.symm
set_option maxHeartbeats 400000 in
theorem c_X5_isKeyPart (l : Launch) (g : GT)  (s : Int32)  : Cx l g yX5_isKeyPart cX5_isKeyPart 1 (some .boolean) (k2_rm 0 0) [.int s] [] (some (.int (bI (inB s.toInt 0 15)))) [] := by
  refine meth (own := "ChalkedDoors") (by decide) rfl (Nat.le_of_ble_eq_true rfl) [some (.int s)] rfl (fun X hX hQ => ?_)
  refine r_iload0 hX dX5_isKeyPart_0 ?_
  refine r_if_lt hX dX5_isKeyPart_1 (fun h1 => ?_) (fun h1 => ?_)
  · refine r_push hX dX5_isKeyPart_14 ?_
    exact r_zret hX hQ dX5_isKeyPart_15 rfl (by rw [bI_f (p := inB s.toInt 0 15) (fun h => inD_no1 h1 (n := 16) ⟨h.1, Int.lt_of_le_of_lt h.2 (by decide)⟩)]) (rfl)
  · refine r_iload0 hX dX5_isKeyPart_4 ?_
    refine r_push hX dX5_isKeyPart_5 ?_
    refine r_ic_ge hX dX5_isKeyPart_7 (fun h7 => ?_) (fun h7 => ?_)
    · refine r_push hX dX5_isKeyPart_14 ?_
      exact r_zret hX hQ dX5_isKeyPart_15 rfl (by rw [bI_f (p := inB s.toInt 0 15) (fun h => inD_no2 h7 ⟨h.1, Int.lt_of_le_of_lt h.2 (by decide)⟩)]) (rfl)
    · refine r_push hX dX5_isKeyPart_10 ?_
      refine r_goto hX dX5_isKeyPart_11 ?_
      exact r_zret hX hQ dX5_isKeyPart_15 rfl (by rw [bI_t (p := inB s.toInt 0 15) (by have q := inD_yes h1 h7; exact ⟨q.1, Int.le_of_lt_add_one q.2⟩)]) (rfl)
set_option maxHeartbeats 400000 in
theorem c_X5_sign (l : Launch) (g : GT)  (u v d : Int32)  : Cx l g yX5_sign cX5_sign 3 (some .int) (k2_rm 0 0) [.int u, .int v, .int d] [] (some (.int (sgF u v d))) [] := by
  refine meth (own := "ChalkedDoors") (by decide) rfl (Nat.le_of_ble_eq_true rfl) [some (.int u), some (.int v), some (.int d)] rfl (fun X hX hQ => ?_)
  refine r_iload0 hX dX5_sign_0 ?_
  refine r_iload2 hX dX5_sign_1 ?_
  refine r_imul hX dX5_sign_2 ?_
  refine r_iload1 hX dX5_sign_3 ?_
  refine r_iadd hX dX5_sign_4 ?_
  refine r_push hX dX5_sign_5 ?_
  refine r_irem hX dX5_sign_7 (by decide) ?_
  exact r_iret hX hQ dX5_sign_8 (by rw [sgF_eq]) (rfl)
set_option maxHeartbeats 400000 in
theorem c_X2_hasDoor (l : Launch) (g : GT) (b : Nat → Nat) (σ : S2) (d : Int32)  : Cx l g yX2_hasDoor cX2_hasDoor 2 (some .boolean) (k2_rm 0 0) [.ref (b 0), .int d] (wP g b σ) (some (.int (bI (inD d (σ.1 0))))) (wP g b σ) := by
  refine meth (own := "ChalkedDoors$Plan") (by decide) rfl (Nat.le_of_ble_eq_true rfl) [some (.ref (b 0)), some (.int d)] rfl (fun X hX hQ => ?_)
  refine r_iload1 hX dX2_hasDoor_0 ?_
  refine r_if_lt hX dX2_hasDoor_1 (fun h1 => ?_) (fun h1 => ?_)
  · refine r_push hX dX2_hasDoor_16 ?_
    exact r_zret hX hQ dX2_hasDoor_17 rfl (by rw [bI_f (inD_no1 h1)]) (rfl)
  · refine r_iload1 hX dX2_hasDoor_4 ?_
    refine r_aload0 hX dX2_hasDoor_5 ?_
    refine g_wP_0_0 hX dX2_hasDoor_6 ?_
    refine r_ic_ge hX dX2_hasDoor_9 (fun h9 => ?_) (fun h9 => ?_)
    · refine r_push hX dX2_hasDoor_16 ?_
      exact r_zret hX hQ dX2_hasDoor_17 rfl (by rw [bI_f (inD_no2 h9)]) (rfl)
    · refine r_push hX dX2_hasDoor_12 ?_
      refine r_goto hX dX2_hasDoor_13 ?_
      exact r_zret hX hQ dX2_hasDoor_17 rfl (by rw [bI_t (inD_yes h1 h9)]) (rfl)
set_option maxHeartbeats 400000 in
theorem c_X2_hasChalk (l : Launch) (g : GT) (b : Nat → Nat) (σ : S2) (d : Int32)  : Cx l g yX2_hasChalk cX2_hasChalk 2 (some .boolean) (k2_rm 0 0) [.ref (b 0), .int d] (wP g b σ) (some (.int (bI (inD d (σ.1 1))))) (wP g b σ) := by
  refine meth (own := "ChalkedDoors$Plan") (by decide) rfl (Nat.le_of_ble_eq_true rfl) [some (.ref (b 0)), some (.int d)] rfl (fun X hX hQ => ?_)
  refine r_iload1 hX dX2_hasChalk_0 ?_
  refine r_if_lt hX dX2_hasChalk_1 (fun h1 => ?_) (fun h1 => ?_)
  · refine r_push hX dX2_hasChalk_16 ?_
    exact r_zret hX hQ dX2_hasChalk_17 rfl (by rw [bI_f (inD_no1 h1)]) (rfl)
  · refine r_iload1 hX dX2_hasChalk_4 ?_
    refine r_aload0 hX dX2_hasChalk_5 ?_
    refine g_wP_0_1 hX dX2_hasChalk_6 ?_
    refine r_ic_ge hX dX2_hasChalk_9 (fun h9 => ?_) (fun h9 => ?_)
    · refine r_push hX dX2_hasChalk_16 ?_
      exact r_zret hX hQ dX2_hasChalk_17 rfl (by rw [bI_f (inD_no2 h9)]) (rfl)
    · refine r_push hX dX2_hasChalk_12 ?_
      refine r_goto hX dX2_hasChalk_13 ?_
      exact r_zret hX hQ dX2_hasChalk_17 rfl (by rw [bI_t (inD_yes h1 h9)]) (rfl)
set_option maxHeartbeats 400000 in
theorem c_X2_hasDoorsOf (l : Launch) (g : GT) (b : Nat → Nat) (σ : S2) (d : Int32)  : Cx l g yX2_hasDoorsOf cX2_hasDoorsOf 2 (some .boolean) (k2_rm 0 0) [.ref (b 0), .int d] (wP g b σ) (some (.int (bI (stD d (σ.1 0))))) (wP g b σ) := by
  refine meth (own := "ChalkedDoors$Plan") (by decide) rfl (Nat.le_of_ble_eq_true rfl) [some (.ref (b 0)), some (.int d)] rfl (fun X hX hQ => ?_)
  refine r_iload1 hX dX2_hasDoorsOf_0 ?_
  refine r_if_lt hX dX2_hasDoorsOf_1 (fun h1 => ?_) (fun h1 => ?_)
  · refine r_push hX dX2_hasDoorsOf_18 ?_
    exact r_zret hX hQ dX2_hasDoorsOf_19 rfl (by rw [bI_f (inD_no1 h1)]) (rfl)
  · refine r_iload1 hX dX2_hasDoorsOf_4 ?_
    refine r_push hX dX2_hasDoorsOf_5 ?_
    refine r_aload0 hX dX2_hasDoorsOf_6 ?_
    refine g_wP_0_0 hX dX2_hasDoorsOf_7 ?_
    refine r_ishl hX dX2_hasDoorsOf_10 ?_
    refine r_ic_ge hX dX2_hasDoorsOf_11 (fun h11 => ?_) (fun h11 => ?_)
    · refine r_push hX dX2_hasDoorsOf_18 ?_
      exact r_zret hX hQ dX2_hasDoorsOf_19 rfl (by rw [bI_f (inD_no2 h11)]) (rfl)
    · refine r_push hX dX2_hasDoorsOf_14 ?_
      refine r_goto hX dX2_hasDoorsOf_15 ?_
      exact r_zret hX hQ dX2_hasDoorsOf_19 rfl (by rw [bI_t (inD_yes h1 h11)]) (rfl)
set_option maxHeartbeats 400000 in
theorem c_X2_hasChalksOf (l : Launch) (g : GT) (b : Nat → Nat) (σ : S2) (d : Int32)  : Cx l g yX2_hasChalksOf cX2_hasChalksOf 2 (some .boolean) (k2_rm 0 0) [.ref (b 0), .int d] (wP g b σ) (some (.int (bI (stD d (σ.1 1))))) (wP g b σ) := by
  refine meth (own := "ChalkedDoors$Plan") (by decide) rfl (Nat.le_of_ble_eq_true rfl) [some (.ref (b 0)), some (.int d)] rfl (fun X hX hQ => ?_)
  refine r_iload1 hX dX2_hasChalksOf_0 ?_
  refine r_if_lt hX dX2_hasChalksOf_1 (fun h1 => ?_) (fun h1 => ?_)
  · refine r_push hX dX2_hasChalksOf_18 ?_
    exact r_zret hX hQ dX2_hasChalksOf_19 rfl (by rw [bI_f (inD_no1 h1)]) (rfl)
  · refine r_iload1 hX dX2_hasChalksOf_4 ?_
    refine r_push hX dX2_hasChalksOf_5 ?_
    refine r_aload0 hX dX2_hasChalksOf_6 ?_
    refine g_wP_0_1 hX dX2_hasChalksOf_7 ?_
    refine r_ishl hX dX2_hasChalksOf_10 ?_
    refine r_ic_ge hX dX2_hasChalksOf_11 (fun h11 => ?_) (fun h11 => ?_)
    · refine r_push hX dX2_hasChalksOf_18 ?_
      exact r_zret hX hQ dX2_hasChalksOf_19 rfl (by rw [bI_f (inD_no2 h11)]) (rfl)
    · refine r_push hX dX2_hasChalksOf_14 ?_
      refine r_goto hX dX2_hasChalksOf_15 ?_
      exact r_zret hX hQ dX2_hasChalksOf_19 rfl (by rw [bI_t (inD_yes h1 h11)]) (rfl)
set_option maxHeartbeats 400000 in
theorem c_X2_washedBy (l : Launch) (g : GT) (b : Nat → Nat) (σ : S2) (c : Int32) (hc : vp_in c 4) (hk : kind3 (σ.2 2 (cl c))) : Cx l g yX2_washedBy cX2_washedBy 2 (some .int) (k2_rm 0 0) [.ref (b 0), .int c] (wP g b σ) (some (.int (wshF (σ.2 2 (cl c)) (σ.2 3 (cl c))))) (wP g b σ) := by
  refine meth (own := "ChalkedDoors$Plan") (by decide) rfl (Nat.le_of_ble_eq_true rfl) [some (.ref (b 0)), some (.int c)] rfl (fun X hX hQ => ?_)
  refine r_aload0 hX dX2_washedBy_0 ?_
  refine g_wP_0_2 hX dX2_washedBy_1 ?_
  refine r_iload1 hX dX2_washedBy_4 ?_
  refine l_wP_1 hX dX2_washedBy_5 hc ?_
  refine r_push hX dX2_washedBy_6 ?_
  refine r_ic_ne hX dX2_washedBy_7 (fun h7 => ?_) (fun h7 => ?_)
  · refine r_aload0 hX dX2_washedBy_12 ?_
    refine g_wP_0_2 hX dX2_washedBy_13 ?_
    refine r_iload1 hX dX2_washedBy_16 ?_
    refine l_wP_1 hX dX2_washedBy_17 hc ?_
    refine r_push hX dX2_washedBy_18 ?_
    refine r_ic_ne hX dX2_washedBy_19 (fun h19 => ?_) (fun h19 => ?_)
    · refine r_aload0 hX dX2_washedBy_33 ?_
      refine g_wP_0_3 hX dX2_washedBy_34 ?_
      refine r_iload1 hX dX2_washedBy_37 ?_
      refine l_wP_2 hX dX2_washedBy_38 hc ?_
      exact r_iret hX hQ dX2_washedBy_39 (by rw [wshF_eq, if_pos (hk.resolve_right (fun z => z.elim h19 h7))]) (rfl)
    · refine r_aload0 hX dX2_washedBy_22 ?_
      refine g_wP_0_3 hX dX2_washedBy_23 ?_
      refine r_iload1 hX dX2_washedBy_26 ?_
      refine l_wP_2 hX dX2_washedBy_27 hc ?_
      refine r_push hX dX2_washedBy_28 ?_
      refine r_idiv hX dX2_washedBy_29 (by decide) ?_
      refine r_goto hX dX2_washedBy_30 ?_
      exact r_iret hX hQ dX2_washedBy_39 (by rw [wshF_eq, if_neg (fun z => absurd (h19.symm.trans z) (by decide)), if_pos h19]) (rfl)
  · refine r_push hX dX2_washedBy_10 ?_
    exact r_iret hX hQ dX2_washedBy_11 (by rw [wshF_eq, if_neg (fun z => absurd (h7.symm.trans z) (by decide)), if_neg (fun z => absurd (h7.symm.trans z) (by decide))]) (rfl)
set_option maxHeartbeats 400000 in
theorem c_X2_costOf (l : Launch) (g : GT) (b : Nat → Nat) (σ : S2) (t : Int32) (C : Nat) (hC : C ≤ 4) (eC : σ.1 1 = nI C) : Cx l g yX2_costOf cX2_costOf 4 (some .int) (k2_rm 1 30) [.ref (b 0), .int t] (wP g b σ) (some (.int (costF C (σ.2 4) t))) (wP g b σ) := by
  refine meth (own := "ChalkedDoors$Plan") (by decide) rfl (Nat.le_of_ble_eq_true rfl) [some (.ref (b 0)), some (.int t), none, none] rfl (fun X hX hQ => ?_)
  generalize hsp : costF C (σ.2 4) t = S at hQ
  unfold costF at hsp
  have hL4 : ∀ (n i : Nat) (x : Int32) (r : Int32), x = nI i → i + n = C → S = lp (fun c s => if hb t (nI c) then s + σ.2 4 c else s) n i r → vJ X 0 0 (wP g b σ) 4 [some (.ref (b 0)), some (.int t), some (.int r), some (.int x)] [] := by
    intro n
    induction n with
    | zero =>
      intro i x r hx hn hs
      refine r_iload3 hX dX2_costOf_4 ?_
      refine r_aload0 hX dX2_costOf_5 ?_
      refine g_wP_0_1 hX dX2_costOf_6 ?_
      refine r_ic_ge hX dX2_costOf_9 (fun h9 => ?_) (fun h9 => absurd (lpx (e := C) hx eC (by omega) (by omega) (by omega)) h9)
      refine r_iload2 hX dX2_costOf_35 ?_
      exact r_iret hX hQ dX2_costOf_36 (by rw [hs] <;> rfl) (rfl)
    | succ n ih =>
      intro i x r hx hn hs
      have hcx : cl x = i := by rw [hx]; exact nI_clamp (by omega)
      refine r_iload3 hX dX2_costOf_4 ?_
      refine r_aload0 hX dX2_costOf_5 ?_
      refine g_wP_0_1 hX dX2_costOf_6 ?_
      refine r_ic_ge hX dX2_costOf_9 (fun h9 => absurd h9 (lpn (e := C) hx eC (by omega) (by omega))) (fun h9 => ?_)
      refine r_iload1 hX dX2_costOf_12 ?_
      refine r_iload3 hX dX2_costOf_13 ?_
      refine r_nS2i hX dX2_costOf_14 kX5_has (c_X5_has l g _ _) (by decide) (Nat.le_of_ble_eq_true rfl) ?_
      refine r_if_eq hX dX2_costOf_17 (fun h17 => ?_) (fun h17 => ?_)
      · refine r_iinc3 hX dX2_costOf_29 rfl ?_
        refine r_goto hX dX2_costOf_32 ?_
        exact ih (i + 1) _ _ (by rw [hx]; exact nI_1 i) (by omega) (by rw [hs]; show lp _ n (i + 1) (ite _ _ _) = _; rw [← hx, if_neg (bI_z h17)])
      · refine r_iload2 hX dX2_costOf_20 ?_
        refine r_aload0 hX dX2_costOf_21 ?_
        refine g_wP_0_4 hX dX2_costOf_22 ?_
        refine r_iload3 hX dX2_costOf_25 ?_
        refine l_wP_3 hX dX2_costOf_26 (by rw [hx]; exact vp_in_nI (by omega) (by omega)) ?_
        refine r_iadd hX dX2_costOf_27 ?_
        refine r_istore2 hX dX2_costOf_28 rfl ?_
        refine r_iinc3 hX dX2_costOf_29 rfl ?_
        refine r_goto hX dX2_costOf_32 ?_
        exact ih (i + 1) _ _ (by rw [hx]; exact nI_1 i) (by omega) (by rw [hs]; show lp _ n (i + 1) (ite _ _ _) = _; rw [← hx, if_pos (bI_nz h17), ← hcx])
  refine r_push hX dX2_costOf_0 ?_
  refine r_istore2 hX dX2_costOf_1 rfl ?_
  refine r_push hX dX2_costOf_2 ?_
  refine r_istore3 hX dX2_costOf_3 rfl ?_
  exact hL4 C 0 _ _ rfl (by omega) hsp.symm
set_option maxHeartbeats 400000 in
theorem c_X2_partThatStays (l : Launch) (g : GT) (b : Nat → Nat) (σ : S2) (c z : Int32) (hc : vp_in c 4) (hk : kind3 (σ.2 2 (cl c))) (N : Nat) (hN : z = nI N) (hN9 : N ≤ 9) : Cx l g yX2_partThatStays cX2_partThatStays 5 (some .int) (k2_rm 1 30) [.ref (b 0), .int c, .int z] (wP g b σ) (some (.int (stF (wshF (σ.2 2 (cl c)) (σ.2 3 (cl c))) N))) (wP g b σ) := by
  refine meth (own := "ChalkedDoors$Plan") (by decide) rfl (Nat.le_of_ble_eq_true rfl) [some (.ref (b 0)), some (.int c), some (.int z), none, none] rfl (fun X hX hQ => ?_)
  generalize hw : wshF (σ.2 2 (cl c)) (σ.2 3 (cl c)) = wb at hQ
  generalize hsp : stF wb N = S at hQ
  rw [stF_eq] at hsp
  have hL7 : ∀ (n i : Nat) (x : Int32) (r : Int32), x = nI i → i + n = N → S = lp (fun _ p => p * (8 - wb) / 8) n i r → vJ X 0 0 (wP g b σ) 7 [some (.ref (b 0)), some (.int c), some (.int z), some (.int r), some (.int x)] [] := by
    intro n
    induction n with
    | zero =>
      intro i x r hx hn hs
      refine r_iload4 hX dX2_partThatStays_7 ?_
      refine r_iload2 hX dX2_partThatStays_9 ?_
      refine r_ic_ge hX dX2_partThatStays_10 (fun h10 => ?_) (fun h10 => absurd (lpx (e := N) hx hN (by omega) (by omega) (by omega)) h10)
      refine r_iload3 hX dX2_partThatStays_33 ?_
      exact r_iret hX hQ dX2_partThatStays_34 (by rw [hs] <;> rfl) (rfl)
    | succ n ih =>
      intro i x r hx hn hs
      refine r_iload4 hX dX2_partThatStays_7 ?_
      refine r_iload2 hX dX2_partThatStays_9 ?_
      refine r_ic_ge hX dX2_partThatStays_10 (fun h10 => absurd h10 (lpn (e := N) hx hN (by omega) (by omega))) (fun h10 => ?_)
      refine r_iload3 hX dX2_partThatStays_13 ?_
      refine r_push hX dX2_partThatStays_14 ?_
      refine r_aload0 hX dX2_partThatStays_16 ?_
      refine r_iload1 hX dX2_partThatStays_17 ?_
      refine r_aV1i hX dX2_partThatStays_18 kX2_washedBy (c_X2_washedBy l g _ _ _ hc hk) ad_wP rfl (by decide) (Nat.le_of_ble_eq_true rfl) ?_
      refine r_isub hX dX2_partThatStays_21 ?_
      refine r_imul hX dX2_partThatStays_22 ?_
      refine r_push hX dX2_partThatStays_23 ?_
      refine r_idiv hX dX2_partThatStays_25 (by decide) ?_
      refine r_istore3 hX dX2_partThatStays_26 rfl ?_
      refine r_iinc4 hX dX2_partThatStays_27 rfl ?_
      refine r_goto hX dX2_partThatStays_30 ?_
      exact ih (i + 1) _ _ (by rw [hx]; exact nI_1 i) (by omega) (by rw [hs, ← hw]; rfl)
  refine r_push hX dX2_partThatStays_0 ?_
  refine r_istore3 hX dX2_partThatStays_3 rfl ?_
  refine r_push hX dX2_partThatStays_4 ?_
  refine r_istore4 hX dX2_partThatStays_5 rfl ?_
  exact hL7 N 0 _ _ rfl (by omega) hsp.symm
set_option maxHeartbeats 400000 in
theorem c_X2_weight (l : Launch) (g : GT) (b : Nat → Nat) (σ : S2) (m t z : Int32) (C : Nat) (hC : C ≤ 4) (eC : σ.1 1 = nI C) (hK : ∀ j, j < C → kind3 (σ.2 2 j)) (N : Nat) (hN : z = nI N) (hN9 : N ≤ 9) : Cx l g yX2_weight cX2_weight 8 (some .long) (k2_rm 2 60) [.ref (b 0), .int m, .int t, .int z] (wP g b σ) (some (.long (wtF C (fun c => wshF (σ.2 2 c) (σ.2 3 c)) (σ.2 5) m t N))) (wP g b σ) := by
  refine meth (own := "ChalkedDoors$Plan") (by decide) rfl (Nat.le_of_ble_eq_true rfl) [some (.ref (b 0)), some (.int m), some (.int t), some (.int z), none, none, none, none] rfl (fun X hX hQ => ?_)
  generalize hsp : wtF C (fun c => wshF (σ.2 2 c) (σ.2 3 c)) (σ.2 5) m t N = S at hQ
  unfold wtF at hsp
  have hL8 : ∀ (n i : Nat) (x : Int32) (w : Int64) (o7 : Option Value), x = nI i → i + n = C → S = lp (wtC (fun c => wshF (σ.2 2 c) (σ.2 3 c)) (σ.2 5) m t N) n i w → vJ X 0 0 (wP g b σ) 8 [some (.ref (b 0)), some (.int m), some (.int t), some (.int z), some (.long w), none, some (.int x), o7] [] := by
    intro n
    induction n with
    | zero =>
      intro i x w o7 hx hn hs
      refine r_iload6 hX dX2_weight_8 ?_
      refine r_aload0 hX dX2_weight_10 ?_
      refine g_wP_0_1 hX dX2_weight_11 ?_
      refine r_ic_ge hX dX2_weight_14 (fun h14 => ?_) (fun h14 => absurd (lpx (e := C) hx eC (by omega) (by omega) (by omega)) h14)
      refine r_lload4 hX dX2_weight_113 ?_
      exact r_lret hX hQ dX2_weight_115 (by rw [hs] <;> rfl) (rfl)
    | succ n ih =>
      intro i x w o7 hx hn hs
      have hvx : vp_in x 4 := by rw [hx]; exact vp_in_nI (by omega) (by omega)
      have hcx : cl x = i := by rw [hx]; exact nI_clamp (by omega)
      have hx0 : x = nI (cl x) := by rw [hcx]; exact hx
      refine r_iload6 hX dX2_weight_8 ?_
      refine r_aload0 hX dX2_weight_10 ?_
      refine g_wP_0_1 hX dX2_weight_11 ?_
      refine r_ic_ge hX dX2_weight_14 (fun h14 => absurd h14 (lpn (e := C) hx eC (by omega) (by omega))) (fun h14 => ?_)
      refine r_iload2 hX dX2_weight_17 ?_
      refine r_iload6 hX dX2_weight_18 ?_
      refine r_nS2i hX dX2_weight_20 kX5_has (c_X5_has l g _ _) (by decide) (Nat.le_of_ble_eq_true rfl) ?_
      refine r_if_eq hX dX2_weight_23 (fun h23 => ?_) (fun h23 => ?_)
      · refine r_lload4 hX dX2_weight_68 ?_
        refine r_iload1 hX dX2_weight_70 ?_
        refine r_iload6 hX dX2_weight_71 ?_
        refine r_nS2i hX dX2_weight_73 kX5_has (c_X5_has l g _ _) (by decide) (Nat.le_of_ble_eq_true rfl) ?_
        refine r_if_eq hX dX2_weight_76 (fun h76 => ?_) (fun h76 => ?_)
        · refine r_push hX dX2_weight_89 ?_
          refine r_aload0 hX dX2_weight_91 ?_
          refine g_wP_0_5 hX dX2_weight_92 ?_
          refine r_iload6 hX dX2_weight_95 ?_
          refine l_wP_4 hX dX2_weight_97 hvx ?_
          refine r_isub hX dX2_weight_98 ?_
          refine r_i2l hX dX2_weight_99 ?_
          refine r_lmul hX dX2_weight_100 ?_
          refine r_pushl hX dX2_weight_101 ?_
          refine r_ldiv hX dX2_weight_104 (by decide) ?_
          refine r_lstore4 hX dX2_weight_105 rfl ?_
          refine r_iinc6 hX dX2_weight_107 rfl ?_
          refine r_goto hX dX2_weight_110 ?_
          subst hcx
          exact ih (cl x + 1) _ _ _ (by rw [← nI_1, ← hx0]) (by omega) (by rw [hs]; show lp _ n (cl x + 1) (wtC _ _ _ _ _ (cl x) w) = _; unfold wtC; rw [if_neg (show ¬ hb t (nI (cl x)) by rw [← hx0]; exact bI_z h23), if_neg (show ¬ hb m (nI (cl x)) by rw [← hx0]; exact bI_z h76), w2F_eq])
        · refine r_aload0 hX dX2_weight_79 ?_
          refine g_wP_0_5 hX dX2_weight_80 ?_
          refine r_iload6 hX dX2_weight_83 ?_
          refine l_wP_4 hX dX2_weight_85 hvx ?_
          refine r_goto hX dX2_weight_86 ?_
          refine r_i2l hX dX2_weight_99 ?_
          refine r_lmul hX dX2_weight_100 ?_
          refine r_pushl hX dX2_weight_101 ?_
          refine r_ldiv hX dX2_weight_104 (by decide) ?_
          refine r_lstore4 hX dX2_weight_105 rfl ?_
          refine r_iinc6 hX dX2_weight_107 rfl ?_
          refine r_goto hX dX2_weight_110 ?_
          subst hcx
          exact ih (cl x + 1) _ _ _ (by rw [← nI_1, ← hx0]) (by omega) (by rw [hs]; show lp _ n (cl x + 1) (wtC _ _ _ _ _ (cl x) w) = _; unfold wtC; rw [if_neg (show ¬ hb t (nI (cl x)) by rw [← hx0]; exact bI_z h23), if_pos (show hb m (nI (cl x)) by rw [← hx0]; exact bI_nz h76), w2F_eq])
      · refine r_aload0 hX dX2_weight_26 ?_
        refine r_iload6 hX dX2_weight_27 ?_
        refine r_iload3 hX dX2_weight_29 ?_
        refine r_aV2i hX dX2_weight_30 kX2_partThatStays (c_X2_partThatStays l g _ _ _ _ hvx (by rw [hcx]; exact hK i (by omega)) N hN hN9) ad_wP rfl (by decide) (Nat.le_of_ble_eq_true rfl) ?_
        refine r_istore7 hX dX2_weight_33 rfl ?_
        refine r_lload4 hX dX2_weight_35 ?_
        refine r_iload1 hX dX2_weight_37 ?_
        refine r_iload6 hX dX2_weight_38 ?_
        refine r_nS2i hX dX2_weight_40 kX5_has (c_X5_has l g _ _) (by decide) (Nat.le_of_ble_eq_true rfl) ?_
        refine r_if_eq hX dX2_weight_43 (fun h43 => ?_) (fun h43 => ?_)
        · refine r_push hX dX2_weight_51 ?_
          refine r_iload7 hX dX2_weight_54 ?_
          refine r_isub hX dX2_weight_56 ?_
          refine r_i2l hX dX2_weight_57 ?_
          refine r_lmul hX dX2_weight_58 ?_
          refine r_pushl hX dX2_weight_59 ?_
          refine r_ldiv hX dX2_weight_62 (by decide) ?_
          refine r_lstore4 hX dX2_weight_63 rfl ?_
          refine r_goto hX dX2_weight_65 ?_
          refine r_iinc6 hX dX2_weight_107 rfl ?_
          refine r_goto hX dX2_weight_110 ?_
          subst hcx
          exact ih (cl x + 1) _ _ _ (by rw [← nI_1, ← hx0]) (by omega) (by rw [hs]; show lp _ n (cl x + 1) (wtC _ _ _ _ _ (cl x) w) = _; unfold wtC; rw [if_pos (show hb t (nI (cl x)) by rw [← hx0]; exact bI_nz h23), if_neg (show ¬ hb m (nI (cl x)) by rw [← hx0]; exact bI_z h43), w1F_eq])
        · refine r_iload7 hX dX2_weight_46 ?_
          refine r_goto hX dX2_weight_48 ?_
          refine r_i2l hX dX2_weight_57 ?_
          refine r_lmul hX dX2_weight_58 ?_
          refine r_pushl hX dX2_weight_59 ?_
          refine r_ldiv hX dX2_weight_62 (by decide) ?_
          refine r_lstore4 hX dX2_weight_63 rfl ?_
          refine r_goto hX dX2_weight_65 ?_
          refine r_iinc6 hX dX2_weight_107 rfl ?_
          refine r_goto hX dX2_weight_110 ?_
          subst hcx
          exact ih (cl x + 1) _ _ _ (by rw [← nI_1, ← hx0]) (by omega) (by rw [hs]; show lp _ n (cl x + 1) (wtC _ _ _ _ _ (cl x) w) = _; unfold wtC; rw [if_pos (show hb t (nI (cl x)) by rw [← hx0]; exact bI_nz h23), if_pos (show hb m (nI (cl x)) by rw [← hx0]; exact bI_nz h43), w1F_eq])
  refine r_pushl hX dX2_weight_0 ?_
  refine r_lstore4 hX dX2_weight_3 rfl ?_
  refine r_push hX dX2_weight_5 ?_
  refine r_istore6 hX dX2_weight_6 rfl ?_
  exact hL8 C 0 _ _ _ rfl (by omega) hsp.symm
set_option maxHeartbeats 400000 in
theorem c_X2_clear (l : Launch) (g : GT) (b : Nat → Nat) (σ : S2)   : Cx l g yX2_clear cX2_clear 1 none (k2_rm 1 30) [.ref (b 0)] (wP g b σ) none (wP g b (xClr σ)) := by
  refine meth (own := "ChalkedDoors$Plan") (by decide) rfl (Nat.le_of_ble_eq_true rfl) [some (.ref (b 0))] rfl (fun X hX hQ => ?_)
  refine r_aload0 hX dX2_clear_0 ?_
  refine r_push hX dX2_clear_1 ?_
  refine p_wP_0_0 hX dX2_clear_2 ?_
  refine r_aload0 hX dX2_clear_5 ?_
  refine r_push hX dX2_clear_6 ?_
  refine p_wP_0_1 hX dX2_clear_7 ?_
  refine r_aload0 hX dX2_clear_10 ?_
  refine g_wP_0_6 hX dX2_clear_11 ?_
  refine r_push hX dX2_clear_14 ?_
  refine r_cS2v hX dX2_clear_15 kJ7_fill_53178 fr_wP_wA_5_5 (c_fill l g _ _ _ _ (by decide)) (by decide) (Nat.le_of_ble_eq_true rfl) ?_
  refine r_aload0 hX dX2_clear_18 ?_
  refine r_push hX dX2_clear_19 ?_
  refine p_wP_0_7 hX dX2_clear_20 ?_
  refine r_aload0 hX dX2_clear_23 ?_
  refine r_push hX dX2_clear_24 ?_
  refine p_wP_0_8 hX dX2_clear_25 ?_
  refine r_aload0 hX dX2_clear_28 ?_
  refine r_push hX dX2_clear_29 ?_
  refine p_wP_0_9 hX dX2_clear_30 ?_
  exact r_vret hX hQ dX2_clear_33 (rfl)
set_option maxHeartbeats 400000 in
theorem c_X2_addChalk (l : Launch) (g : GT) (b : Nat → Nat) (σ : S2) (k w c h : Int32) (C : Nat) (hC : C ≤ 4) (eC : σ.1 1 = nI C) : Cx l g yX2_addChalk cX2_addChalk 5 none (k2_rm 0 0) [.ref (b 0), .int k, .int w, .int c, .int h] (wP g b σ) none (wP g b (xAdd k w c h σ)) := by
  refine meth (own := "ChalkedDoors$Plan") (by decide) rfl (Nat.le_of_ble_eq_true rfl) [some (.ref (b 0)), some (.int k), some (.int w), some (.int c), some (.int h)] rfl (fun X hX hQ => ?_)
  refine r_aload0 hX dX2_addChalk_0 ?_
  refine g_wP_0_1 hX dX2_addChalk_1 ?_
  refine r_push hX dX2_addChalk_4 ?_
  refine r_ic_lt hX dX2_addChalk_5 (fun h5 => ?_) (fun h5 => ?_)
  · refine r_aload0 hX dX2_addChalk_9 ?_
    refine g_wP_0_2 hX dX2_addChalk_10 ?_
    refine r_aload0 hX dX2_addChalk_13 ?_
    refine g_wP_0_1 hX dX2_addChalk_14 ?_
    refine r_iload1 hX dX2_addChalk_17 ?_
    refine s_wP_1 hX dX2_addChalk_18 (by show vp_in (σ.1 1) 4; rw [eC]; exact vp_in_nI (by rcases Nat.lt_or_ge C 4 with z | z; exact z; exact absurd h5 (by rw [eC]; exact nI_nlt z (by omega))) (by omega)) ?_
    refine r_aload0 hX dX2_addChalk_19 ?_
    refine g_wP_0_3 hX dX2_addChalk_20 ?_
    refine r_aload0 hX dX2_addChalk_23 ?_
    refine g_wP_0_1 hX dX2_addChalk_24 ?_
    refine r_iload2 hX dX2_addChalk_27 ?_
    refine s_wP_2 hX dX2_addChalk_28 (by show vp_in (σ.1 1) 4; rw [eC]; exact vp_in_nI (by rcases Nat.lt_or_ge C 4 with z | z; exact z; exact absurd h5 (by rw [eC]; exact nI_nlt z (by omega))) (by omega)) ?_
    refine r_aload0 hX dX2_addChalk_29 ?_
    refine g_wP_0_4 hX dX2_addChalk_30 ?_
    refine r_aload0 hX dX2_addChalk_33 ?_
    refine g_wP_0_1 hX dX2_addChalk_34 ?_
    refine r_iload3 hX dX2_addChalk_37 ?_
    refine s_wP_3 hX dX2_addChalk_38 (by show vp_in (σ.1 1) 4; rw [eC]; exact vp_in_nI (by rcases Nat.lt_or_ge C 4 with z | z; exact z; exact absurd h5 (by rw [eC]; exact nI_nlt z (by omega))) (by omega)) ?_
    refine r_aload0 hX dX2_addChalk_39 ?_
    refine g_wP_0_5 hX dX2_addChalk_40 ?_
    refine r_aload0 hX dX2_addChalk_43 ?_
    refine g_wP_0_1 hX dX2_addChalk_44 ?_
    refine r_iload4 hX dX2_addChalk_47 ?_
    refine s_wP_4 hX dX2_addChalk_49 (by show vp_in (σ.1 1) 4; rw [eC]; exact vp_in_nI (by rcases Nat.lt_or_ge C 4 with z | z; exact z; exact absurd h5 (by rw [eC]; exact nI_nlt z (by omega))) (by omega)) ?_
    refine r_aload0 hX dX2_addChalk_50 ?_
    refine r_dup hX dX2_addChalk_51 rfl ?_
    refine g_wP_0_1 hX dX2_addChalk_52 ?_
    refine r_push hX dX2_addChalk_55 ?_
    refine r_iadd hX dX2_addChalk_56 ?_
    refine p_wP_0_1 hX dX2_addChalk_57 ?_
    exact r_vret hX hQ dX2_addChalk_60 (by unfold xAdd; rw [if_pos h5] <;> rfl)
  · exact r_vret hX hQ dX2_addChalk_8 (by unfold xAdd; rw [if_neg h5] <;> rfl)
set_option maxHeartbeats 400000 in
theorem c_X2_stopsOfRound (l : Launch) (g : GT) (b : Nat → Nat) (σ : S2)  (D : Nat) (hD : D ≤ 14) (hD1 : 1 ≤ D) (eD : σ.1 0 = nI D) : Cx l g yX2_stopsOfRound cX2_stopsOfRound 1 (some .int) (k2_rm 0 0) [.ref (b 0)] (wP g b σ) (some (.int (nI (rdN D)))) (wP g b σ) := by
  refine meth (own := "ChalkedDoors$Plan") (by decide) rfl (Nat.le_of_ble_eq_true rfl) [some (.ref (b 0))] rfl (fun X hX hQ => ?_)
  refine r_aload0 hX dX2_stopsOfRound_0 ?_
  refine g_wP_0_0 hX dX2_stopsOfRound_1 ?_
  refine r_push hX dX2_stopsOfRound_4 ?_
  refine r_ic_le hX dX2_stopsOfRound_5 (fun h5 => ?_) (fun h5 => ?_)
  · refine r_push hX dX2_stopsOfRound_19 ?_
    exact r_iret hX hQ dX2_stopsOfRound_20 (by rw [show rdN D = 1 from if_neg (fun z => nle_of_lt (lgx (e := 1) (y := 1) (x := σ.1 0) eD rfl (by omega) z) h5)]; rfl) (rfl)
  · refine r_push hX dX2_stopsOfRound_8 ?_
    refine r_aload0 hX dX2_stopsOfRound_9 ?_
    refine g_wP_0_0 hX dX2_stopsOfRound_10 ?_
    refine r_push hX dX2_stopsOfRound_13 ?_
    refine r_isub hX dX2_stopsOfRound_14 ?_
    refine r_imul hX dX2_stopsOfRound_15 ?_
    refine r_goto hX dX2_stopsOfRound_16 ?_
    exact r_iret hX hQ dX2_stopsOfRound_20 (by rw [show rdN D = 2 * (D - 1) from if_pos (show 1 < D from Nat.lt_of_not_le (fun z => h5 (le_of_nlt (lgn (e := 1) (y := 1) (x := σ.1 0) eD rfl (by decide) z)))), eD, show (2 : Int32) = nI 2 from rfl, show (1 : Int32) = nI 1 from rfl, pk_sub hD1, pk_mul]) (rfl)
set_option maxHeartbeats 400000 in
theorem c_X2_doorAtStop (l : Launch) (g : GT) (b : Nat → Nat) (σ : S2) (t : Int32) (D : Nat) (hD : D ≤ 14) (hD1 : 1 ≤ D) (eD : σ.1 0 = nI D) (k : Nat) (hk : t = nI k) (hk2 : k < 2 ^ 31) : Cx l g yX2_doorAtStop cX2_doorAtStop 4 (some .int) (k2_rm 1 30) [.ref (b 0), .int t] (wP g b σ) (some (.int (nI (wtN D k)))) (wP g b σ) := by
  refine meth (own := "ChalkedDoors$Plan") (by decide) rfl (Nat.le_of_ble_eq_true rfl) [some (.ref (b 0)), some (.int t), none, none] rfl (fun X hX hQ => ?_)
  have hr : rdN D ≤ 26 := by unfold rdN; split <;> omega
  have hr0 : 0 < rdN D := by unfold rdN; split <;> omega
  have hmd := Nat.mod_lt k hr0
  have em : t - t / nI (rdN D) * nI (rdN D) = nI (k % rdN D) := by rw [hk]; exact pk_rem hk2 hr0 (by omega)
  refine r_aload0 hX dX2_doorAtStop_0 ?_
  refine r_aV0i hX dX2_doorAtStop_1 kX2_stopsOfRound (c_X2_stopsOfRound l g _ _ D hD hD1 eD) ad_wP rfl (by decide) (Nat.le_of_ble_eq_true rfl) ?_
  refine r_istore2 hX dX2_doorAtStop_4 rfl ?_
  refine r_iload1 hX dX2_doorAtStop_5 ?_
  refine r_iload2 hX dX2_doorAtStop_6 ?_
  refine r_irem hX dX2_doorAtStop_7 (nI_ne0 hr0 (by omega)) ?_
  refine r_istore3 hX dX2_doorAtStop_8 rfl ?_
  refine r_iload3 hX dX2_doorAtStop_9 ?_
  refine r_aload0 hX dX2_doorAtStop_10 ?_
  refine g_wP_0_0 hX dX2_doorAtStop_11 ?_
  refine r_ic_ge hX dX2_doorAtStop_14 (fun h14 => ?_) (fun h14 => ?_)
  · refine r_iload2 hX dX2_doorAtStop_21 ?_
    refine r_iload3 hX dX2_doorAtStop_22 ?_
    refine r_isub hX dX2_doorAtStop_23 ?_
    exact r_iret hX hQ dX2_doorAtStop_24 (by rw [wtN_rd hD1, if_neg (show ¬ k % rdN D < D from fun z => absurd h14 (by rw [em, eD]; exact nI_ge z (by omega))), em, pk_sub (Nat.le_of_lt (Nat.mod_lt _ hr0))]) (rfl)
  · refine r_iload3 hX dX2_doorAtStop_17 ?_
    refine r_goto hX dX2_doorAtStop_18 ?_
    exact r_iret hX hQ dX2_doorAtStop_24 (by rw [wtN_rd hD1, if_pos (show k % rdN D < D from Nat.lt_of_not_le (fun z => h14 (by rw [em, eD]; exact nI_le z (by omega)))), em]) (rfl)
set_option maxHeartbeats 400000 in
theorem c_X2_longestUnseen (l : Launch) (g : GT) (b : Nat → Nat) (σ : S2) (d z : Int32) (D : Nat) (hD : D ≤ 14) (hD1 : 1 ≤ D) (eD : σ.1 0 = nI D) (d0 : Nat) (hd : d = nI d0) (hd2 : d0 < D) : Cx l g yX2_longestUnseen cX2_longestUnseen 6 (some .int) (k2_rm 2 60) [.ref (b 0), .int d, .int z] (wP g b σ) (some (.int (lunF D d0 z * σ.1 8))) (wP g b σ) := by
  refine meth (own := "ChalkedDoors$Plan") (by decide) rfl (Nat.le_of_ble_eq_true rfl) [some (.ref (b 0)), some (.int d), some (.int z), none, none, none] rfl (fun X hX hQ => ?_)
  unfold lunF at hQ
  generalize hsp : lp (lunC D d0 z) (2 * rdN D) 0 (0, 0) = S at hQ
  have hr : rdN D ≤ 26 := by unfold rdN; split <;> omega
  have hL8 : ∀ (n i : Nat) (x : Int32) (p q : Int32), x = nI i → i + n = (2 * rdN D) → S = lp (lunC D d0 z) n i (p, q) → vJ X 0 0 (wP g b σ) 8 [some (.ref (b 0)), some (.int d), some (.int z), some (.int p), some (.int q), some (.int x)] [] := by
    intro n
    induction n with
    | zero =>
      intro i x p q hx hn hs
      refine r_iload5 hX dX2_longestUnseen_8 ?_
      refine r_push hX dX2_longestUnseen_10 ?_
      refine r_aload0 hX dX2_longestUnseen_11 ?_
      refine r_aV0i hX dX2_longestUnseen_12 kX2_stopsOfRound (c_X2_stopsOfRound l g _ _ D hD hD1 eD) ad_wP rfl (by decide) (Nat.le_of_ble_eq_true rfl) ?_
      refine r_imul hX dX2_longestUnseen_15 ?_
      refine r_ic_ge hX dX2_longestUnseen_16 (fun h16 => ?_) (fun h16 => absurd (lpx (e := (2 * rdN D)) hx (show 2 * nI (rdN D) = nI (2 * rdN D) by rw [show (2 : Int32) = nI 2 from rfl, pk_mul]) (by omega) (by omega) (by omega)) h16)
      refine r_iload3 hX dX2_longestUnseen_57 ?_
      refine r_aload0 hX dX2_longestUnseen_58 ?_
      refine g_wP_0_8 hX dX2_longestUnseen_59 ?_
      refine r_imul hX dX2_longestUnseen_62 ?_
      exact r_iret hX hQ dX2_longestUnseen_63 (by rw [hs] <;> rfl) (rfl)
    | succ n ih =>
      intro i x p q hx hn hs
      have hw := wtN_lt (D := D) (k := i) hD1
      have hab : (if 0 ≤ nI (wtN D i) - d then nI (wtN D i) - d else 0 - (nI (wtN D i) - d)) = awayF (nI (wtN D i)) (nI d0) := by rw [hd]; exact absN (by omega) (by omega)
      refine r_iload5 hX dX2_longestUnseen_8 ?_
      refine r_push hX dX2_longestUnseen_10 ?_
      refine r_aload0 hX dX2_longestUnseen_11 ?_
      refine r_aV0i hX dX2_longestUnseen_12 kX2_stopsOfRound (c_X2_stopsOfRound l g _ _ D hD hD1 eD) ad_wP rfl (by decide) (Nat.le_of_ble_eq_true rfl) ?_
      refine r_imul hX dX2_longestUnseen_15 ?_
      refine r_ic_ge hX dX2_longestUnseen_16 (fun h16 => absurd h16 (lpn (e := (2 * rdN D)) hx (show 2 * nI (rdN D) = nI (2 * rdN D) by rw [show (2 : Int32) = nI 2 from rfl, pk_mul]) (by omega) (by omega))) (fun h16 => ?_)
      refine r_aload0 hX dX2_longestUnseen_19 ?_
      refine r_iload5 hX dX2_longestUnseen_20 ?_
      refine r_aV1i hX dX2_longestUnseen_22 kX2_doorAtStop (c_X2_doorAtStop l g _ _ _ D hD hD1 eD i hx (by omega)) ad_wP rfl (by decide) (Nat.le_of_ble_eq_true rfl) ?_
      refine r_iload1 hX dX2_longestUnseen_25 ?_
      refine r_isub hX dX2_longestUnseen_26 ?_
      refine r_mabs hX dX2_longestUnseen_27 hm_abs_X2 (by decide) (Nat.le_of_ble_eq_true rfl) (by decide) (by decide) ?_
      refine r_iload2 hX dX2_longestUnseen_30 ?_
      refine r_ic_gt hX dX2_longestUnseen_31 (fun h31 => ?_) (fun h31 => ?_)
      · refine r_iload4 hX dX2_longestUnseen_38 ?_
        refine r_push hX dX2_longestUnseen_40 ?_
        refine r_iadd hX dX2_longestUnseen_41 ?_
        refine r_istore4 hX dX2_longestUnseen_42 rfl ?_
        refine r_iload3 hX dX2_longestUnseen_44 ?_
        refine r_iload4 hX dX2_longestUnseen_45 ?_
        refine r_mmax hX dX2_longestUnseen_47 hm_max_X2 (by decide) (Nat.le_of_ble_eq_true rfl) (by decide) (by decide) ?_
        refine r_istore3 hX dX2_longestUnseen_50 rfl ?_
        refine r_iinc5 hX dX2_longestUnseen_51 rfl ?_
        refine r_goto hX dX2_longestUnseen_54 ?_
        exact ih (i + 1) _ _ _ (by rw [hx]; exact nI_1 i) (by omega) (by rw [hs]; show lp _ n (i + 1) (lunC _ _ _ i (p, q)) = _; unfold lunC; rw [if_neg (show ¬ awayF (nI (wtN D i)) (nI d0) ≤ z by rw [← hab]; exact nle_of_lt h31)]; dsimp only; rw [mxE])
      · refine r_push hX dX2_longestUnseen_34 ?_
        refine r_goto hX dX2_longestUnseen_35 ?_
        refine r_istore4 hX dX2_longestUnseen_42 rfl ?_
        refine r_iload3 hX dX2_longestUnseen_44 ?_
        refine r_iload4 hX dX2_longestUnseen_45 ?_
        refine r_mmax hX dX2_longestUnseen_47 hm_max_X2 (by decide) (Nat.le_of_ble_eq_true rfl) (by decide) (by decide) ?_
        refine r_istore3 hX dX2_longestUnseen_50 rfl ?_
        refine r_iinc5 hX dX2_longestUnseen_51 rfl ?_
        refine r_goto hX dX2_longestUnseen_54 ?_
        exact ih (i + 1) _ _ _ (by rw [hx]; exact nI_1 i) (by omega) (by rw [hs]; show lp _ n (i + 1) (lunC _ _ _ i (p, q)) = _; unfold lunC; rw [if_pos (show awayF (nI (wtN D i)) (nI d0) ≤ z by rw [← hab]; exact le_of_nlt h31)]; dsimp only; rw [mxE])
  refine r_push hX dX2_longestUnseen_0 ?_
  refine r_istore3 hX dX2_longestUnseen_1 rfl ?_
  refine r_push hX dX2_longestUnseen_2 ?_
  refine r_istore4 hX dX2_longestUnseen_3 rfl ?_
  refine r_push hX dX2_longestUnseen_5 ?_
  refine r_istore5 hX dX2_longestUnseen_6 rfl ?_
  exact hL8 (2 * rdN D) 0 _ _ _ rfl (by omega) hsp.symm
set_option maxHeartbeats 400000 in
theorem c_X2_nobodyUnseen (l : Launch) (g : GT) (b : Nat → Nat) (σ : S2) (m z : Int32) (D : Nat) (hD : D ≤ 14) (hD1 : 1 ≤ D) (eD : σ.1 0 = nI D) : Cx l g yX2_nobodyUnseen cX2_nobodyUnseen 4 (some .boolean) (k2_rm 3 90) [.ref (b 0), .int m, .int z] (wP g b σ) (some (.int (bI (∀ d, d < D → lunF D d z * σ.1 8 < m)))) (wP g b σ) := by
  refine meth (own := "ChalkedDoors$Plan") (by decide) rfl (Nat.le_of_ble_eq_true rfl) [some (.ref (b 0)), some (.int m), some (.int z), none] rfl (fun X hX hQ => ?_)
  have hL2 : ∀ (n i : Nat) (x : Int32) , x = nI i → i + n = D → (∀ d, d < i → lunF D d z * σ.1 8 < m) → vJ X 0 0 (wP g b σ) 2 [some (.ref (b 0)), some (.int m), some (.int z), some (.int x)] [] := by
    intro n
    induction n with
    | zero =>
      intro i x  hx hn hs
      refine r_iload3 hX dX2_nobodyUnseen_2 ?_
      refine r_aload0 hX dX2_nobodyUnseen_3 ?_
      refine g_wP_0_0 hX dX2_nobodyUnseen_4 ?_
      refine r_ic_ge hX dX2_nobodyUnseen_7 (fun h7 => ?_) (fun h7 => absurd (lpx (e := D) hx eD (by omega) (by omega) (by omega)) h7)
      refine r_push hX dX2_nobodyUnseen_28 ?_
      exact r_zret hX hQ dX2_nobodyUnseen_29 rfl (by rw [bI_t (show ∀ d, d < D → lunF D d z * σ.1 8 < m from fun d hd => hs d (by omega))]) (rfl)
    | succ n ih =>
      intro i x  hx hn hs
      refine r_iload3 hX dX2_nobodyUnseen_2 ?_
      refine r_aload0 hX dX2_nobodyUnseen_3 ?_
      refine g_wP_0_0 hX dX2_nobodyUnseen_4 ?_
      refine r_ic_ge hX dX2_nobodyUnseen_7 (fun h7 => absurd h7 (lpn (e := D) hx eD (by omega) (by omega))) (fun h7 => ?_)
      refine r_aload0 hX dX2_nobodyUnseen_10 ?_
      refine r_iload3 hX dX2_nobodyUnseen_11 ?_
      refine r_iload2 hX dX2_nobodyUnseen_12 ?_
      refine r_aV2i hX dX2_nobodyUnseen_13 kX2_longestUnseen (c_X2_longestUnseen l g _ _ _ _ D hD hD1 eD i hx (by omega)) ad_wP rfl (by decide) (Nat.le_of_ble_eq_true rfl) ?_
      refine r_iload1 hX dX2_nobodyUnseen_16 ?_
      refine r_ic_lt hX dX2_nobodyUnseen_17 (fun h17 => ?_) (fun h17 => ?_)
      · refine r_iinc3 hX dX2_nobodyUnseen_22 rfl ?_
        refine r_goto hX dX2_nobodyUnseen_25 ?_
        exact ih (i + 1) _ (by rw [hx]; exact nI_1 i) (by omega) (ball_s.mpr ⟨hs, h17⟩)
      · refine r_push hX dX2_nobodyUnseen_20 ?_
        exact r_zret hX hQ dX2_nobodyUnseen_21 rfl (by rw [bI_f (fun q => h17 (q i (by omega)))]) (rfl)
  refine r_push hX dX2_nobodyUnseen_0 ?_
  refine r_istore3 hX dX2_nobodyUnseen_1 rfl ?_
  exact hL2 D 0 _ rfl (by omega) (fun d hd => absurd hd (Nat.not_lt_zero d))
