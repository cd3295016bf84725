theorem l_wM_12 {X : CT} {l : Launch} {g : GT} {own : String} {cc : ByteArray} {R : Room} {cs sl pc nx : Nat} {lv : List (Option Value)} {st : List Value} {b : Nat → Nat} {σ : S2} {i : Int32} (hX : oK X l g own cc R) (hd : dR cc pc (.iaload) 1 nx) (hi : vp_in i 14) (k : vJ X cs sl (wM g b σ) nx lv (.int (σ.2 27 i.toNatClampNeg) :: st)) : vJ X cs sl (wM g b σ) pc lv (.int i :: .ref (b 12) :: st) := r_iald hX hd 12 rfl hi k
theorem l_wM_8 {X : CT} {l : Launch} {g : GT} {own : String} {cc : ByteArray} {R : Room} {cs sl pc nx : Nat} {lv : List (Option Value)} {st : List Value} {b : Nat → Nat} {σ : S2} {i : Int32} (hX : oK X l g own cc R) (hd : dR cc pc (.iaload) 1 nx) (hi : vp_in i 4) (k : vJ X cs sl (wM g b σ) nx lv (.int (σ.2 22 i.toNatClampNeg) :: st)) : vJ X cs sl (wM g b σ) pc lv (.int i :: .ref (b 8) :: st) := r_iald hX hd 8 rfl hi k
theorem s_wM_1 {X : CT} {l : Launch} {g : GT} {own : String} {cc : ByteArray} {R : Room} {cs sl pc nx : Nat} {lv : List (Option Value)} {st : List Value} {b : Nat → Nat} {σ : S2} {i v : Int32} (hX : oK X l g own cc R) (hd : dR cc pc (.iastore) 1 nx) (hi : vp_in i 4) (k : vJ X cs sl (wM g b (au σ 2 i.toNatClampNeg v)) nx lv st) : vJ X cs sl (wM g b σ) pc lv (.int v :: .int i :: .ref (b 1) :: st) := r_iast hX hd 1 rfl hi _ rfl k
theorem l_wM_9 {X : CT} {l : Launch} {g : GT} {own : String} {cc : ByteArray} {R : Room} {cs sl pc nx : Nat} {lv : List (Option Value)} {st : List Value} {b : Nat → Nat} {σ : S2} {i : Int32} (hX : oK X l g own cc R) (hd : dR cc pc (.iaload) 1 nx) (hi : vp_in i 4) (k : vJ X cs sl (wM g b σ) nx lv (.int (σ.2 23 i.toNatClampNeg) :: st)) : vJ X cs sl (wM g b σ) pc lv (.int i :: .ref (b 9) :: st) := r_iald hX hd 9 rfl hi k
theorem s_wM_2 {X : CT} {l : Launch} {g : GT} {own : String} {cc : ByteArray} {R : Room} {cs sl pc nx : Nat} {lv : List (Option Value)} {st : List Value} {b : Nat → Nat} {σ : S2} {i v : Int32} (hX : oK X l g own cc R) (hd : dR cc pc (.iastore) 1 nx) (hi : vp_in i 4) (k : vJ X cs sl (wM g b (au σ 3 i.toNatClampNeg v)) nx lv st) : vJ X cs sl (wM g b σ) pc lv (.int v :: .int i :: .ref (b 2) :: st) := r_iast hX hd 2 rfl hi _ rfl k
theorem l_wM_10 {X : CT} {l : Launch} {g : GT} {own : String} {cc : ByteArray} {R : Room} {cs sl pc nx : Nat} {lv : List (Option Value)} {st : List Value} {b : Nat → Nat} {σ : S2} {i : Int32} (hX : oK X l g own cc R) (hd : dR cc pc (.iaload) 1 nx) (hi : vp_in i 4) (k : vJ X cs sl (wM g b σ) nx lv (.int (σ.2 24 i.toNatClampNeg) :: st)) : vJ X cs sl (wM g b σ) pc lv (.int i :: .ref (b 10) :: st) := r_iald hX hd 10 rfl hi k
theorem s_wM_3 {X : CT} {l : Launch} {g : GT} {own : String} {cc : ByteArray} {R : Room} {cs sl pc nx : Nat} {lv : List (Option Value)} {st : List Value} {b : Nat → Nat} {σ : S2} {i v : Int32} (hX : oK X l g own cc R) (hd : dR cc pc (.iastore) 1 nx) (hi : vp_in i 4) (k : vJ X cs sl (wM g b (au σ 4 i.toNatClampNeg v)) nx lv st) : vJ X cs sl (wM g b σ) pc lv (.int v :: .int i :: .ref (b 3) :: st) := r_iast hX hd 3 rfl hi _ rfl k
theorem l_wM_11 {X : CT} {l : Launch} {g : GT} {own : String} {cc : ByteArray} {R : Room} {cs sl pc nx : Nat} {lv : List (Option Value)} {st : List Value} {b : Nat → Nat} {σ : S2} {i : Int32} (hX : oK X l g own cc R) (hd : dR cc pc (.iaload) 1 nx) (hi : vp_in i 4) (k : vJ X cs sl (wM g b σ) nx lv (.int (σ.2 25 i.toNatClampNeg) :: st)) : vJ X cs sl (wM g b σ) pc lv (.int i :: .ref (b 11) :: st) := r_iald hX hd 11 rfl hi k
theorem s_wM_4 {X : CT} {l : Launch} {g : GT} {own : String} {cc : ByteArray} {R : Room} {cs sl pc nx : Nat} {lv : List (Option Value)} {st : List Value} {b : Nat → Nat} {σ : S2} {i v : Int32} (hX : oK X l g own cc R) (hd : dR cc pc (.iastore) 1 nx) (hi : vp_in i 4) (k : vJ X cs sl (wM g b (au σ 5 i.toNatClampNeg v)) nx lv st) : vJ X cs sl (wM g b σ) pc lv (.int v :: .int i :: .ref (b 4) :: st) := r_iast hX hd 4 rfl hi _ rfl k
theorem p_wM_0_0 {X : CT} {l : Launch} {g : GT} {own : String} {cc : ByteArray} {R : Room} {cs sl pc nx : Nat} {lv : List (Option Value)} {st : List Value} {b : Nat → Nat} {σ : S2} {v : Int32} (hX : oK X l g own cc R) (hd : dPf own cc pc 6 0 .int nx) (k : vJ X cs sl (wM g b (su σ 0 v)) nx lv st) : vJ X cs sl (wM g b σ) pc lv (.int v :: .ref (b 0) :: st) := r_put hX hd 0 rfl rfl rfl (Nat.le_of_ble_eq_true rfl) _ rfl k
theorem p_wM_0_1 {X : CT} {l : Launch} {g : GT} {own : String} {cc : ByteArray} {R : Room} {cs sl pc nx : Nat} {lv : List (Option Value)} {st : List Value} {b : Nat → Nat} {σ : S2} {v : Int32} (hX : oK X l g own cc R) (hd : dPf own cc pc 6 1 .int nx) (k : vJ X cs sl (wM g b (su σ 1 v)) nx lv st) : vJ X cs sl (wM g b σ) pc lv (.int v :: .ref (b 0) :: st) := r_put hX hd 0 rfl rfl rfl (Nat.le_of_ble_eq_true rfl) _ rfl k
theorem p_wM_0_6 {X : CT} {l : Launch} {g : GT} {own : String} {cc : ByteArray} {R : Room} {cs sl pc nx : Nat} {lv : List (Option Value)} {st : List Value} {b : Nat → Nat} {σ : S2} {v : Int32} (hX : oK X l g own cc R) (hd : dPf own cc pc 6 6 .int nx) (k : vJ X cs sl (wM g b (su σ 6 v)) nx lv st) : vJ X cs sl (wM g b σ) pc lv (.int v :: .ref (b 0) :: st) := r_put hX hd 0 rfl rfl rfl (Nat.le_of_ble_eq_true rfl) _ rfl k
theorem p_wM_0_7 {X : CT} {l : Launch} {g : GT} {own : String} {cc : ByteArray} {R : Room} {cs sl pc nx : Nat} {lv : List (Option Value)} {st : List Value} {b : Nat → Nat} {σ : S2} {v : Int32} (hX : oK X l g own cc R) (hd : dPf own cc pc 6 7 .int nx) (k : vJ X cs sl (wM g b (su σ 7 v)) nx lv st) : vJ X cs sl (wM g b σ) pc lv (.int v :: .ref (b 0) :: st) := r_put hX hd 0 rfl rfl rfl (Nat.le_of_ble_eq_true rfl) _ rfl k
theorem p_wM_0_8 {X : CT} {l : Launch} {g : GT} {own : String} {cc : ByteArray} {R : Room} {cs sl pc nx : Nat} {lv : List (Option Value)} {st : List Value} {b : Nat → Nat} {σ : S2} {v : Int32} (hX : oK X l g own cc R) (hd : dPf own cc pc 6 8 .int nx) (k : vJ X cs sl (wM g b (su σ 8 v)) nx lv st) : vJ X cs sl (wM g b σ) pc lv (.int v :: .ref (b 0) :: st) := r_put hX hd 0 rfl rfl rfl (Nat.le_of_ble_eq_true rfl) _ rfl k
theorem l_wM_13 {X : CT} {l : Launch} {g : GT} {own : String} {cc : ByteArray} {R : Room} {cs sl pc nx : Nat} {lv : List (Option Value)} {st : List Value} {b : Nat → Nat} {σ : S2} {i : Int32} (hX : oK X l g own cc R) (hd : dR cc pc (.iaload) 1 nx) (hi : vp_in i 1) (k : vJ X cs sl (wM g b σ) nx lv (.int (σ.2 29 i.toNatClampNeg) :: st)) : vJ X cs sl (wM g b σ) pc lv (.int i :: .ref (b 13) :: st) := r_iald hX hd 13 rfl hi k
set_option maxHeartbeats 400000 in
theorem c_X6_takeRead (l : Launch) (g : GT) (b : Nat → Nat) (σ : S2)   : Cx l g yX6_takeRead cX6_takeRead 2 none (k2_rm 0 0) [.ref (b 0)] (wM g b σ) none (wM g b (mRead σ)) := by
  refine meth (own := "ChalkedDoorsModel") (by decide) rfl (Nat.le_of_ble_eq_true rfl) [some (.ref (b 0)), none] rfl (fun X hX hQ => ?_)
  have e0 : mRead σ = aw (aw (aw (aw (aw (aw (su (su (su (su (su σ 0 (σ.1 20)) 1 (σ.1 21)) 6 (if σ.1 28 = 0 then 4 else σ.2 29 0)) 7 (σ.2 30 0)) 8 (σ.2 30 1)) 2 (cpN 4 (σ.2 22) (σ.2 2))) 3 (cpN 4 (σ.2 23) (σ.2 3))) 4 (cpN 4 (σ.2 24) (σ.2 4))) 5 (cpN 4 (σ.2 25) (σ.2 5))) 9 (cpN 14 (σ.2 27) (σ.2 9))) 10 (cpN 14 (fun _ => 0) (σ.2 10)) := rfl
  rw [e0] at hQ
  generalize hR : (if σ.1 28 = 0 then (4 : Int32) else σ.2 29 0) = R at hQ
  generalize hK : cpN 4 (σ.2 22) (σ.2 2) = K at hQ
  generalize hW : cpN 4 (σ.2 23) (σ.2 3) = W' at hQ
  generalize hC : cpN 4 (σ.2 24) (σ.2 4) = C' at hQ
  generalize hH : cpN 4 (σ.2 25) (σ.2 5) = H' at hQ
  generalize hM : cpN 14 (σ.2 27) (σ.2 9) = M' at hQ
  generalize hN : cpN 14 (fun _ => 0) (σ.2 10) = N' at hQ
  unfold cpN at hK hW hC hH hM hN
  have hL120 : ∀ (n i : Nat) (x : Int32) (m n' : Nat → Int32), x = nI i → i + n = 14 → M' = lp (fun c f => upd f c (σ.2 27 c)) n i m → N' = lp (fun c f => upd f c 0) n i n' → vJ X 0 0 (wM g b (aw (aw (aw (aw (aw (aw (su (su (su (su (su σ 0 (σ.1 20)) 1 (σ.1 21)) 6 R) 7 (σ.2 30 0)) 8 (σ.2 30 1)) 2 K) 3 W') 4 C') 5 H') 9 m) 10 n')) 120 [some (.ref (b 0)), some (.int x)] [] := by
    intro n
    induction n with
    | zero =>
      intro i x m n' hx hn hm hn'
      refine r_iload1 hX dX6_takeRead_120 ?_
      refine r_push hX dX6_takeRead_121 ?_
      refine r_ic_ge hX dX6_takeRead_123 (fun h123 => ?_) (fun h123 => absurd (lpx (e := 14) hx rfl (by omega) (by omega) (by omega)) h123)
      exact r_vret hX hQ dX6_takeRead_151 (by rw [hm, hn'] <;> rfl)
    | succ n ih =>
      intro i x m n' hx hn hm hn'
      have hvx : vp_in x 14 := by rw [hx]; exact vp_in_nI (by omega) (by omega)
      have hcx : cl x = i := by rw [hx]; exact nI_clamp (by omega)
      refine r_iload1 hX dX6_takeRead_120 ?_
      refine r_push hX dX6_takeRead_121 ?_
      refine r_ic_ge hX dX6_takeRead_123 (fun h123 => absurd h123 (lpn (e := 14) hx rfl (by omega) (by omega))) (fun h123 => ?_)
      refine r_aload0 hX dX6_takeRead_126 ?_
      refine g_wM_0_9 hX dX6_takeRead_127 ?_
      refine r_iload1 hX dX6_takeRead_130 ?_
      refine r_aload0 hX dX6_takeRead_131 ?_
      refine g_wM_0_27 hX dX6_takeRead_132 ?_
      refine r_iload1 hX dX6_takeRead_135 ?_
      refine l_wM_12 hX dX6_takeRead_136 hvx ?_
      refine s_wM_5 hX dX6_takeRead_137 hvx ?_
      refine r_aload0 hX dX6_takeRead_138 ?_
      refine g_wM_0_10 hX dX6_takeRead_139 ?_
      refine r_iload1 hX dX6_takeRead_142 ?_
      refine r_push hX dX6_takeRead_143 ?_
      refine s_wM_6 hX dX6_takeRead_144 hvx ?_
      refine r_iinc1 hX dX6_takeRead_145 rfl ?_
      refine r_goto hX dX6_takeRead_148 ?_
      refine vJw (w' := wM g b (aw (aw (aw (aw (aw (aw (su (su (su (su (su σ 0 (σ.1 20)) 1 (σ.1 21)) 6 R) 7 (σ.2 30 0)) 8 (σ.2 30 1)) 2 K) 3 W') 4 C') 5 H') 9 (upd m (cl x) (σ.2 27 (cl x)))) 10 (upd n' (cl x) 0))) rfl ?_
      rw [hcx]
      exact ih (i + 1) _ _ _ (by rw [hx]; exact nI_1 i) (by omega) hm hn'
  have hL59 : ∀ (n i : Nat) (x : Int32) (k w c h : Nat → Int32), x = nI i → i + n = 4 → K = lp (fun c f => upd f c (σ.2 22 c)) n i k → W' = lp (fun c f => upd f c (σ.2 23 c)) n i w → C' = lp (fun c f => upd f c (σ.2 24 c)) n i c → H' = lp (fun c f => upd f c (σ.2 25 c)) n i h → vJ X 0 0 (wM g b (aw (aw (aw (aw (su (su (su (su (su σ 0 (σ.1 20)) 1 (σ.1 21)) 6 R) 7 (σ.2 30 0)) 8 (σ.2 30 1)) 2 k) 3 w) 4 c) 5 h)) 59 [some (.ref (b 0)), some (.int x)] [] := by
    intro n
    induction n with
    | zero =>
      intro i x k w c h hx hn hk hw hc hh
      refine r_iload1 hX dX6_takeRead_59 ?_
      refine r_push hX dX6_takeRead_60 ?_
      refine r_ic_ge hX dX6_takeRead_61 (fun h61 => ?_) (fun h61 => absurd (lpx (e := 4) hx rfl (by omega) (by omega) (by omega)) h61)
      refine r_push hX dX6_takeRead_118 ?_
      refine r_istore1 hX dX6_takeRead_119 rfl ?_
      have hk : K = k := hk
      have hw : W' = w := hw
      have hc : C' = c := hc
      have hh : H' = h := hh
      subst hk
      subst hw
      subst hc
      subst hh
      refine vJw (w' := wM g b (aw (aw (aw (aw (aw (aw (su (su (su (su (su σ 0 (σ.1 20)) 1 (σ.1 21)) 6 R) 7 (σ.2 30 0)) 8 (σ.2 30 1)) 2 K) 3 W') 4 C') 5 H') 9 (σ.2 9)) 10 (σ.2 10))) rfl ?_
      exact hL120 14 0 _ _ _ rfl (by omega) hM.symm hN.symm
    | succ n ih =>
      intro i x k w c h hx hn hk hw hc hh
      have hvx : vp_in x 4 := by rw [hx]; exact vp_in_nI (by omega) (by omega)
      have hcx : cl x = i := by rw [hx]; exact nI_clamp (by omega)
      refine r_iload1 hX dX6_takeRead_59 ?_
      refine r_push hX dX6_takeRead_60 ?_
      refine r_ic_ge hX dX6_takeRead_61 (fun h61 => absurd h61 (lpn (e := 4) hx rfl (by omega) (by omega))) (fun h61 => ?_)
      refine r_aload0 hX dX6_takeRead_64 ?_
      refine g_wM_0_2 hX dX6_takeRead_65 ?_
      refine r_iload1 hX dX6_takeRead_68 ?_
      refine r_aload0 hX dX6_takeRead_69 ?_
      refine g_wM_0_22 hX dX6_takeRead_70 ?_
      refine r_iload1 hX dX6_takeRead_73 ?_
      refine l_wM_8 hX dX6_takeRead_74 hvx ?_
      refine s_wM_1 hX dX6_takeRead_75 hvx ?_
      refine r_aload0 hX dX6_takeRead_76 ?_
      refine g_wM_0_3 hX dX6_takeRead_77 ?_
      refine r_iload1 hX dX6_takeRead_80 ?_
      refine r_aload0 hX dX6_takeRead_81 ?_
      refine g_wM_0_23 hX dX6_takeRead_82 ?_
      refine r_iload1 hX dX6_takeRead_85 ?_
      refine l_wM_9 hX dX6_takeRead_86 hvx ?_
      refine s_wM_2 hX dX6_takeRead_87 hvx ?_
      refine r_aload0 hX dX6_takeRead_88 ?_
      refine g_wM_0_4 hX dX6_takeRead_89 ?_
      refine r_iload1 hX dX6_takeRead_92 ?_
      refine r_aload0 hX dX6_takeRead_93 ?_
      refine g_wM_0_24 hX dX6_takeRead_94 ?_
      refine r_iload1 hX dX6_takeRead_97 ?_
      refine l_wM_10 hX dX6_takeRead_98 hvx ?_
      refine s_wM_3 hX dX6_takeRead_99 hvx ?_
      refine r_aload0 hX dX6_takeRead_100 ?_
      refine g_wM_0_5 hX dX6_takeRead_101 ?_
      refine r_iload1 hX dX6_takeRead_104 ?_
      refine r_aload0 hX dX6_takeRead_105 ?_
      refine g_wM_0_25 hX dX6_takeRead_106 ?_
      refine r_iload1 hX dX6_takeRead_109 ?_
      refine l_wM_11 hX dX6_takeRead_110 hvx ?_
      refine s_wM_4 hX dX6_takeRead_111 hvx ?_
      refine r_iinc1 hX dX6_takeRead_112 rfl ?_
      refine r_goto hX dX6_takeRead_115 ?_
      refine vJw (w' := wM g b (aw (aw (aw (aw (su (su (su (su (su σ 0 (σ.1 20)) 1 (σ.1 21)) 6 R) 7 (σ.2 30 0)) 8 (σ.2 30 1)) 2 (upd k (cl x) (σ.2 22 (cl x)))) 3 (upd w (cl x) (σ.2 23 (cl x)))) 4 (upd c (cl x) (σ.2 24 (cl x)))) 5 (upd h (cl x) (σ.2 25 (cl x))))) rfl ?_
      rw [hcx]
      exact ih (i + 1) _ _ _ _ _ (by rw [hx]; exact nI_1 i) (by omega) hk hw hc hh
  refine r_aload0 hX dX6_takeRead_0 ?_
  refine r_aload0 hX dX6_takeRead_1 ?_
  refine g_wM_0_20 hX dX6_takeRead_2 ?_
  refine p_wM_0_0 hX dX6_takeRead_5 ?_
  refine r_aload0 hX dX6_takeRead_8 ?_
  refine r_aload0 hX dX6_takeRead_9 ?_
  refine g_wM_0_21 hX dX6_takeRead_10 ?_
  refine p_wM_0_1 hX dX6_takeRead_13 ?_
  refine r_aload0 hX dX6_takeRead_16 ?_
  refine r_aload0 hX dX6_takeRead_17 ?_
  refine g_wM_0_28 hX dX6_takeRead_18 ?_
  refine r_if_eq hX dX6_takeRead_21 (fun h21 => ?_) (fun h21 => ?_)
  · refine r_push hX dX6_takeRead_33 ?_
    refine p_wM_0_6 hX dX6_takeRead_34 ?_
    refine r_aload0 hX dX6_takeRead_37 ?_
    refine r_aload0 hX dX6_takeRead_38 ?_
    refine g_wM_0_30 hX dX6_takeRead_39 ?_
    refine r_push hX dX6_takeRead_42 ?_
    refine l_wM_14 hX dX6_takeRead_43 (vp_in_nI (n := 0) (by decide) (by decide)) ?_
    refine p_wM_0_7 hX dX6_takeRead_44 ?_
    refine r_aload0 hX dX6_takeRead_47 ?_
    refine r_aload0 hX dX6_takeRead_48 ?_
    refine g_wM_0_30 hX dX6_takeRead_49 ?_
    refine r_push hX dX6_takeRead_52 ?_
    refine l_wM_14 hX dX6_takeRead_53 (vp_in_nI (n := 1) (by decide) (by decide)) ?_
    refine p_wM_0_8 hX dX6_takeRead_54 ?_
    refine r_push hX dX6_takeRead_57 ?_
    refine r_istore1 hX dX6_takeRead_58 rfl ?_
    refine vJw (w' := wM g b (aw (aw (aw (aw (su (su (su (su (su σ 0 (σ.1 20)) 1 (σ.1 21)) 6 R) 7 (σ.2 30 0)) 8 (σ.2 30 1)) 2 (σ.2 2)) 3 (σ.2 3)) 4 (σ.2 4)) 5 (σ.2 5))) (by rw [← hR, if_pos (show σ.1 28 = 0 from h21)] <;> rfl) ?_
    exact hL59 4 0 _ _ _ _ _ rfl (by omega) hK.symm hW.symm hC.symm hH.symm
  · refine r_aload0 hX dX6_takeRead_24 ?_
    refine g_wM_0_29 hX dX6_takeRead_25 ?_
    refine r_push hX dX6_takeRead_28 ?_
    refine l_wM_13 hX dX6_takeRead_29 (vp_in_nI (n := 0) (by decide) (by decide)) ?_
    refine r_goto hX dX6_takeRead_30 ?_
    refine p_wM_0_6 hX dX6_takeRead_34 ?_
    refine r_aload0 hX dX6_takeRead_37 ?_
    refine r_aload0 hX dX6_takeRead_38 ?_
    refine g_wM_0_30 hX dX6_takeRead_39 ?_
    refine r_push hX dX6_takeRead_42 ?_
    refine l_wM_14 hX dX6_takeRead_43 (vp_in_nI (n := 0) (by decide) (by decide)) ?_
    refine p_wM_0_7 hX dX6_takeRead_44 ?_
    refine r_aload0 hX dX6_takeRead_47 ?_
    refine r_aload0 hX dX6_takeRead_48 ?_
    refine g_wM_0_30 hX dX6_takeRead_49 ?_
    refine r_push hX dX6_takeRead_52 ?_
    refine l_wM_14 hX dX6_takeRead_53 (vp_in_nI (n := 1) (by decide) (by decide)) ?_
    refine p_wM_0_8 hX dX6_takeRead_54 ?_
    refine r_push hX dX6_takeRead_57 ?_
    refine r_istore1 hX dX6_takeRead_58 rfl ?_
    refine vJw (w' := wM g b (aw (aw (aw (aw (su (su (su (su (su σ 0 (σ.1 20)) 1 (σ.1 21)) 6 R) 7 (σ.2 30 0)) 8 (σ.2 30 1)) 2 (σ.2 2)) 3 (σ.2 3)) 4 (σ.2 4)) 5 (σ.2 5))) (by rw [← hR, if_neg (show ¬ σ.1 28 = 0 from h21)] <;> rfl) ?_
    exact hL59 4 0 _ _ _ _ _ rfl (by omega) hK.symm hW.symm hC.symm hH.symm
set_option maxHeartbeats 400000 in
theorem c_X6_street (l : Launch) (g : GT) (b : Nat → Nat) (σ : S2)  (T : Nat) (hT : T ≤ 200) (eT : σ.1 15 = nI T) : Cx l g yX6_street cX6_street 2 (some .int) (k2_rm 5 150) [.ref (b 0)] (wM g b σ) (some (.int (mStreet σ).1)) (wM g b (mStreet σ).2) := by
  refine meth (own := "ChalkedDoorsModel") (by decide) rfl (Nat.le_of_ble_eq_true rfl) [some (.ref (b 0)), none] rfl (fun X hX hQ => ?_)
  unfold mStreet at hQ
  generalize hS : mPar 201 (mBeg σ) = S at hQ
  have hfin : vJ X 0 0 (wM g b S.2) 86 [some (.ref (b 0)), some (.int S.1)] [] := by
    refine r_aload0 hX dX6_street_86 ?_
    refine r_push hX dX6_street_87 ?_
    refine p_wM_0_15 hX dX6_street_88 ?_
    refine r_iload1 hX dX6_street_91 ?_
    refine r_if_le hX dX6_street_92 (fun h92 => ?_) (fun h92 => ?_)
    · refine r_aload0 hX dX6_street_100 ?_
      refine r_aV0v hX dX6_street_101 kX6_takeRead (c_X6_takeRead l g _ _) ad_wM rfl (by decide) (Nat.le_of_ble_eq_true rfl) ?_
      refine r_aload0 hX dX6_street_104 ?_
      refine r_push hX dX6_street_105 ?_
      refine p_wM_0_11 hX dX6_street_106 ?_
      refine r_aload0 hX dX6_street_109 ?_
      refine r_push hX dX6_street_110 ?_
      refine p_wM_0_12 hX dX6_street_111 ?_
      refine r_aload0 hX dX6_street_114 ?_
      refine r_push hX dX6_street_115 ?_
      refine p_wM_0_36 hX dX6_street_116 ?_
      refine r_aload0 hX dX6_street_119 ?_
      refine r_push hX dX6_street_120 ?_
      refine p_wM_0_40 hX dX6_street_121 ?_
      refine r_aload0 hX dX6_street_124 ?_
      refine g_wM_0_44 hX dX6_street_125 ?_
      refine r_push hX dX6_street_128 ?_
      refine r_push hX dX6_street_129 ?_
      refine s_wM_22 hX dX6_street_130 (vp_in_nI (n := 0) (by decide) (by decide)) ?_
      refine r_aload0 hX dX6_street_131 ?_
      refine g_wM_0_44 hX dX6_street_132 ?_
      refine r_push hX dX6_street_135 ?_
      refine r_push hX dX6_street_136 ?_
      refine s_wM_22 hX dX6_street_137 (vp_in_nI (n := 1) (by decide) (by decide)) ?_
      refine r_aload0 hX dX6_street_138 ?_
      refine g_wM_0_0 hX dX6_street_139 ?_
      exact r_iret hX hQ dX6_street_142 (by rw [if_pos h92] <;> rfl) (by rw [if_pos h92] <;> rfl)
    · refine r_push hX dX6_street_95 ?_
      refine r_iload1 hX dX6_street_97 ?_
      refine r_isub hX dX6_street_98 ?_
      exact r_iret hX hQ dX6_street_99 (by rw [if_neg h92] <;> rfl) (by rw [if_neg h92] <;> rfl)
  have hL : ∀ (n : Nat) (τ : S2), PQ τ → mT τ - mP τ < n → S = mPar n τ → vJ X 0 0 (wM g b τ) 67 [some (.ref (b 0)), some (.int 0)] [] := by
    intro n
    induction n with
    | zero => intro τ _ h; exact absurd h (Nat.not_lt_zero _)
    | succ n ih =>
      intro τ hq hn hs
      have hq1 : PQ (mHere τ).2 := ⟨mHere_PI hq.1, hq.2.1, hq.2.2⟩
      rw [mPar] at hs
      refine r_iload1 hX dX6_street_67 ?_
      refine r_if_ne hX dX6_street_68 (fun h68 => absurd h68 (by decide)) (fun h68 => ?_)
      refine r_aload0 hX dX6_street_71 ?_
      refine r_aV0i hX dX6_street_72 kX6_here (c_X6_here l g _ _ hq.1) ad_wM rfl (by decide) (Nat.le_of_ble_eq_true rfl) ?_
      refine r_if_lt hX dX6_street_75 (fun h75 => ?_) (fun h75 => ?_)
      · rw [if_pos h75] at hs
        have e1 : (0 : Int32) = S.1 := by rw [hs]
        have e2 : (mHere τ).2 = S.2 := by rw [hs]
        rw [e2]
        exact e1 ▸ hfin
      · refine r_aload0 hX dX6_street_78 ?_
        refine r_aV0i hX dX6_street_79 kX6_takeClause (c_X6_takeClause l g _ _ hq1.1 hq1.2.1.choose hq1.2.1.choose_spec.1 hq1.2.1.choose_spec.2 hq1.2.2.choose hq1.2.2.choose_spec.1 hq1.2.2.choose_spec.2) ad_wM rfl (by decide) (Nat.le_of_ble_eq_true rfl) ?_
        refine r_istore1 hX dX6_street_82 rfl ?_
        refine r_goto hX dX6_street_83 ?_
        rw [if_neg h75] at hs
        by_cases hr : (mCla (mHere τ).2).1 = 0
        · rw [if_pos hr] at hs
          obtain ⟨g1, g2, g3⟩ := mCla_ok hq1 hr
          have g4 := adv_Here hq.1
          have g5 : mP (mCla (mHere τ).2).2 ≤ mT (mCla (mHere τ).2).2 := by
            obtain ⟨T', p', b1, b2, b3, b4⟩ := g1.1
            rw [mP_of b4 (by omega)]
            show _ ≤ Int32.toNatClampNeg _
            rw [b3, nI_clamp (by omega)]
            exact b2
          rw [hr]
          exact ih _ g1 (by have := g4.2.1; have := g4.2.2.1; omega) hs
        · rw [if_neg hr] at hs
          have e1 : (mCla (mHere τ).2).1 = S.1 := by rw [hs]
          have e2 : (mCla (mHere τ).2).2 = S.2 := by rw [hs]
          rw [e2]
          refine r_iload1 hX dX6_street_67 ?_
          refine r_if_ne hX dX6_street_68 (fun h68 => ?_) (fun h68 => absurd h68 hr)
          rw [e1]
          exact hfin
  have e0 : mBeg σ = aw (aw (su (su (su (su (su (su σ 16 (-1)) 17 0) 20 0) 21 0) 26 0) 28 0) 30 (upd (upd (σ.2 30) 0 0) 1 0)) 27 (cpN 14 (fun _ => 0) (σ.2 27)) := rfl
  generalize hM : cpN 14 (fun _ => 0) (σ.2 27) = M' at e0
  unfold cpN at hM
  have hL46 : ∀ (n i : Nat) (x : Int32) (m : Nat → Int32), x = nI i → i + n = 14 → M' = lp (fun c f => upd f c 0) n i m → vJ X 0 0 (wM g b (aw (aw (su (su (su (su (su (su σ 16 (-1)) 17 0) 20 0) 21 0) 26 0) 28 0) 30 (upd (upd (σ.2 30) 0 0) 1 0)) 27 m)) 46 [some (.ref (b 0)), some (.int x)] [] := by
    intro n
    induction n with
    | zero =>
      intro i x m hx hn hm
      refine r_iload1 hX dX6_street_46 ?_
      refine r_push hX dX6_street_47 ?_
      refine r_ic_ge hX dX6_street_49 (fun h49 => ?_) (fun h49 => absurd (lpx (e := 14) hx rfl (by omega) (by omega) (by omega)) h49)
      refine r_push hX dX6_street_65 ?_
      refine r_istore1 hX dX6_street_66 rfl ?_
      have hm : M' = m := hm
      subst hm
      rw [← e0]
      exact hL 201 (mBeg σ) ⟨⟨T, 0, hT, Nat.zero_le _, eT, rfl⟩, ⟨0, by decide, rfl⟩, ⟨0, by decide, rfl⟩⟩ (by have : mT (mBeg σ) = T := (by show cl (σ.1 15) = T; rw [eT]; exact nI_clamp (by omega)); omega) hS.symm
    | succ n ih =>
      intro i x m hx hn hm
      have hvx : vp_in x 14 := by rw [hx]; exact vp_in_nI (by omega) (by omega)
      have hcx : cl x = i := by rw [hx]; exact nI_clamp (by omega)
      refine r_iload1 hX dX6_street_46 ?_
      refine r_push hX dX6_street_47 ?_
      refine r_ic_ge hX dX6_street_49 (fun h49 => absurd h49 (lpn (e := 14) hx rfl (by omega) (by omega))) (fun h49 => ?_)
      refine r_aload0 hX dX6_street_52 ?_
      refine g_wM_0_27 hX dX6_street_53 ?_
      refine r_iload1 hX dX6_street_56 ?_
      refine r_push hX dX6_street_57 ?_
      refine s_wM_12 hX dX6_street_58 hvx ?_
      refine r_iinc1 hX dX6_street_59 rfl ?_
      refine r_goto hX dX6_street_62 ?_
      refine vJw (w' := wM g b (aw (aw (su (su (su (su (su (su σ 16 (-1)) 17 0) 20 0) 21 0) 26 0) 28 0) 30 (upd (upd (σ.2 30) 0 0) 1 0)) 27 (upd m (cl x) 0))) rfl ?_
      rw [hcx]
      exact ih (i + 1) _ _ (by rw [hx]; exact nI_1 i) (by omega) hm
  refine r_aload0 hX dX6_street_0 ?_
  refine r_push hX dX6_street_1 ?_
  refine p_wM_0_16 hX dX6_street_2 ?_
  refine r_aload0 hX dX6_street_5 ?_
  refine r_push hX dX6_street_6 ?_
  refine p_wM_0_17 hX dX6_street_7 ?_
  refine r_aload0 hX dX6_street_10 ?_
  refine r_push hX dX6_street_11 ?_
  refine p_wM_0_20 hX dX6_street_12 ?_
  refine r_aload0 hX dX6_street_15 ?_
  refine r_push hX dX6_street_16 ?_
  refine p_wM_0_21 hX dX6_street_17 ?_
  refine r_aload0 hX dX6_street_20 ?_
  refine r_push hX dX6_street_21 ?_
  refine p_wM_0_26 hX dX6_street_22 ?_
  refine r_aload0 hX dX6_street_25 ?_
  refine r_push hX dX6_street_26 ?_
  refine p_wM_0_28 hX dX6_street_27 rfl rfl ?_
  refine r_aload0 hX dX6_street_30 ?_
  refine g_wM_0_30 hX dX6_street_31 ?_
  refine r_push hX dX6_street_34 ?_
  refine r_push hX dX6_street_35 ?_
  refine s_wM_14 hX dX6_street_36 (vp_in_nI (n := 0) (by decide) (by decide)) ?_
  refine r_aload0 hX dX6_street_37 ?_
  refine g_wM_0_30 hX dX6_street_38 ?_
  refine r_push hX dX6_street_41 ?_
  refine r_push hX dX6_street_42 ?_
  refine s_wM_14 hX dX6_street_43 (vp_in_nI (n := 1) (by decide) (by decide)) ?_
  refine r_push hX dX6_street_44 ?_
  refine r_istore1 hX dX6_street_45 rfl ?_
  refine vJw (w' := wM g b (aw (aw (su (su (su (su (su (su σ 16 (-1)) 17 0) 20 0) 21 0) 26 0) 28 0) 30 (upd (upd (σ.2 30) 0 0) 1 0)) 27 (σ.2 27))) rfl ?_
  exact hL46 14 0 _ _ rfl (by omega) hM.symm
