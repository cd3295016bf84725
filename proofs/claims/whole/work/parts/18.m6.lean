theorem g_wM_0_32 {X : CT} {l : Launch} {g : GT} {own : String} {cc : ByteArray} {R : Room} {cs sl pc nx : Nat} {lv : List (Option Value)} {st : List Value} {b : Nat → Nat} {σ : S2} (hX : oK X l g own cc R) (hd : dGf own cc pc 6 32 nx) (k : vJ X cs sl (wM g b σ) nx lv (.int (σ.1 32) :: st)) : vJ X cs sl (wM g b σ) pc lv (.ref (b 0) :: st) := r_get hX hd 0 rfl rfl k
theorem p_wM_0_32 {X : CT} {l : Launch} {g : GT} {own : String} {cc : ByteArray} {R : Room} {cs sl pc nx : Nat} {lv : List (Option Value)} {st : List Value} {b : Nat → Nat} {σ : S2} {v : Int32} (hX : oK X l g own cc R) (hd : dPf own cc pc 6 32 .int nx) (k : vJ X cs sl (wM g b (su σ 32 v)) nx lv st) : vJ X cs sl (wM g b σ) pc lv (.int v :: .ref (b 0) :: st) := r_put hX hd 0 rfl rfl rfl (Nat.le_of_ble_eq_true rfl) _ rfl k
theorem g_wM_0_31 {X : CT} {l : Launch} {g : GT} {own : String} {cc : ByteArray} {R : Room} {cs sl pc nx : Nat} {lv : List (Option Value)} {st : List Value} {b : Nat → Nat} {σ : S2} (hX : oK X l g own cc R) (hd : dGf own cc pc 6 31 nx) (k : vJ X cs sl (wM g b σ) nx lv (.int (σ.1 31) :: st)) : vJ X cs sl (wM g b σ) pc lv (.ref (b 0) :: st) := r_get hX hd 0 rfl rfl k
theorem p_wM_0_31 {X : CT} {l : Launch} {g : GT} {own : String} {cc : ByteArray} {R : Room} {cs sl pc nx : Nat} {lv : List (Option Value)} {st : List Value} {b : Nat → Nat} {σ : S2} {v : Int32} (hX : oK X l g own cc R) (hd : dPf own cc pc 6 31 .int nx) (k : vJ X cs sl (wM g b (su σ 31 v)) nx lv st) : vJ X cs sl (wM g b σ) pc lv (.int v :: .ref (b 0) :: st) := r_put hX hd 0 rfl rfl rfl (Nat.le_of_ble_eq_true rfl) _ rfl k
theorem g_wM_0_33 {X : CT} {l : Launch} {g : GT} {own : String} {cc : ByteArray} {R : Room} {cs sl pc nx : Nat} {lv : List (Option Value)} {st : List Value} {b : Nat → Nat} {σ : S2} (hX : oK X l g own cc R) (hd : dGf own cc pc 6 33 nx) (k : vJ X cs sl (wM g b σ) nx lv (.ref (b 15) :: st)) : vJ X cs sl (wM g b σ) pc lv (.ref (b 0) :: st) := r_get hX hd 0 rfl rfl k
theorem l_wM_15 {X : CT} {l : Launch} {g : GT} {own : String} {cc : ByteArray} {R : Room} {cs sl pc nx : Nat} {lv : List (Option Value)} {st : List Value} {b : Nat → Nat} {σ : S2} {i : Int32} (hX : oK X l g own cc R) (hd : dR cc pc (.iaload) 1 nx) (hi : vp_in i 16) (k : vJ X cs sl (wM g b σ) nx lv (.int (σ.2 33 i.toNatClampNeg) :: st)) : vJ X cs sl (wM g b σ) pc lv (.int i :: .ref (b 15) :: st) := r_iald hX hd 15 rfl hi k
set_option maxHeartbeats 400000 in
theorem c_X6_findFool (l : Launch) (g : GT) (b : Nat → Nat) (σ : S2) (t k : Int32) (D : Nat) (hD : D ≤ 14) (eD : σ.1 0 = nI D) : Cx l g yX6_findFool cX6_findFool 6 none (k2_rm 1 30) [.ref (b 0), .int t, .int k] (wM g b σ) none (wM g b (su (su σ 31 (foolL D (σ.2 9) t k).1) 32 (foolL D (σ.2 9) t k).2)) := by
  refine meth (own := "ChalkedDoorsModel") (by decide) rfl (Nat.le_of_ble_eq_true rfl) [some (.ref (b 0)), some (.int t), some (.int k), none, none, none] rfl (fun X hX hQ => ?_)
  generalize hsp : foolL D (σ.2 9) t k = S at hQ
  unfold foolL at hsp
  have hL12 : ∀ (n i : Nat) (x : Int32) (fm fd : Int32), x = nI i → i + n = 5 → S = lp (fun nd s => lp (foolC (σ.2 9) t k nd) D 0 s) n i (fm, fd) → vJ X 0 0 (wM g b (su (su σ 31 fm) 32 fd)) 12 [some (.ref (b 0)), some (.int t), some (.int k), some (.int x), none, none] [] := by
    intro n
    induction n with
    | zero =>
      intro i x fm fd hx hn hs
      refine r_iload3 hX dX6_findFool_12 ?_
      refine r_push hX dX6_findFool_13 ?_
      refine r_ic_gt hX dX6_findFool_14 (fun h14 => ?_) (fun h14 => absurd (lgx (e := 4) hx rfl (by omega) (by omega)) h14)
      exact r_vret hX hQ dX6_findFool_120 (by rw [hs] <;> rfl)
    | succ n ih =>
      intro i x fm fd hx hn hs
      have hL20 : ∀ (n2 i2 : Nat) (y : Int32) (fm' fd' : Int32) (o5 : Option Value), y = nI i2 → i2 + n2 = D → lp (foolC (σ.2 9) t k i) D 0 (fm, fd) = lp (foolC (σ.2 9) t k i) n2 i2 (fm', fd') → vJ X 0 0 (wM g b (su (su σ 31 fm') 32 fd')) 20 [some (.ref (b 0)), some (.int t), some (.int k), some (.int x), some (.int y), o5] [] := by
        intro n2
        induction n2 with
        | zero =>
          intro i2 y fm' fd' o5 hx2 hn2 hT
          refine r_iload4 hX dX6_findFool_20 ?_
          refine r_aload0 hX dX6_findFool_22 ?_
          refine g_wM_0_0 hX dX6_findFool_23 ?_
          refine r_ic_ge hX dX6_findFool_26 (fun h26 => ?_) (fun h26 => absurd (lpx (e := D) hx2 eD (by omega) (by omega) (by omega)) h26)
          refine r_iinc3 hX dX6_findFool_114 rfl ?_
          refine r_goto hX dX6_findFool_117 ?_
          refine r_fg4 (r_fg5 ?_)
          exact ih (i + 1) _ _ _ (by rw [hx]; exact nI_1 i) (by omega) (by rw [hs]; show lp _ n (i + 1) (lp (foolC _ _ _ i) D 0 (fm, fd)) = _; rw [hT]; rfl)
        | succ n2 ih2 =>
          intro i2 y fm' fd' o5 hx2 hn2 hT
          have hvy : vp_in y 14 := by rw [hx2]; exact vp_in_nI (by omega) (by omega)
          have hcy' : y.toNatClampNeg = i2 := by rw [hx2]; exact nI_clamp (by omega)
          refine r_iload4 hX dX6_findFool_20 ?_
          refine r_aload0 hX dX6_findFool_22 ?_
          refine g_wM_0_0 hX dX6_findFool_23 ?_
          refine r_ic_ge hX dX6_findFool_26 (fun h26 => absurd h26 (lpn (e := D) hx2 eD (by omega) (by omega))) (fun h26 => ?_)
          refine r_aload0 hX dX6_findFool_29 ?_
          refine g_wM_0_9 hX dX6_findFool_30 ?_
          refine r_iload4 hX dX6_findFool_33 ?_
          refine l_wM_5 hX dX6_findFool_35 hvy ?_
          refine r_iload1 hX dX6_findFool_36 ?_
          refine r_ixor hX dX6_findFool_37 ?_
          refine r_nS1i hX dX6_findFool_38 kX6_bits (c_X6_bits l g _) (by decide) (Nat.le_of_ble_eq_true rfl) ?_
          refine r_iload3 hX dX6_findFool_41 ?_
          refine r_ic_ne hX dX6_findFool_42 (fun h42 => ?_) (fun h42 => ?_)
          · refine r_push hX dX6_findFool_64 ?_
            refine r_istore5 hX dX6_findFool_65 rfl ?_
            refine r_aload0 hX dX6_findFool_67 ?_
            refine r_dup hX dX6_findFool_68 rfl ?_
            refine g_wM_0_32 hX dX6_findFool_69 ?_
            refine r_iload5 hX dX6_findFool_72 ?_
            refine r_if_eq hX dX6_findFool_74 (fun h74 => ?_) (fun h74 => absurd h74 (by decide))
            refine r_push hX dX6_findFool_84 ?_
            refine r_ior hX dX6_findFool_85 ?_
            refine p_wM_0_32 hX dX6_findFool_86 ?_
            refine r_aload0 hX dX6_findFool_89 ?_
            refine r_dup hX dX6_findFool_90 rfl ?_
            refine g_wM_0_31 hX dX6_findFool_91 ?_
            refine r_iload5 hX dX6_findFool_94 ?_
            refine r_if_eq hX dX6_findFool_96 (fun h96 => ?_) (fun h96 => absurd h96 (by decide))
            refine r_push hX dX6_findFool_103 ?_
            refine r_iadd hX dX6_findFool_104 ?_
            refine p_wM_0_31 hX dX6_findFool_105 ?_
            refine r_iinc4 hX dX6_findFool_108 rfl ?_
            refine r_goto hX dX6_findFool_111 ?_
            refine vJw (w' := wM g b (su (su σ 31 (fm' + 0)) 32 (fd' ||| 0))) rfl ?_
            exact ih2 (i2 + 1) _ _ _ _ (by rw [hx2]; exact nI_1 i2) (by omega) (by rw [hT]; show lp _ n2 (i2 + 1) (foolC _ _ _ _ i2 (fm', fd')) = _; rw [Int32.add_zero, Int32.or_zero, foolC_no (z := fd') (fun h => h42 (by rw [hcy', hx]; exact h.1))])
          · refine r_iload3 hX dX6_findFool_45 ?_
            refine r_if_eq hX dX6_findFool_46 (fun h46 => ?_) (fun h46 => ?_)
            · refine r_push hX dX6_findFool_60 ?_
              refine r_goto hX dX6_findFool_61 ?_
              refine r_istore5 hX dX6_findFool_65 rfl ?_
              refine r_aload0 hX dX6_findFool_67 ?_
              refine r_dup hX dX6_findFool_68 rfl ?_
              refine g_wM_0_32 hX dX6_findFool_69 ?_
              refine r_iload5 hX dX6_findFool_72 ?_
              refine r_if_eq hX dX6_findFool_74 (fun h74 => absurd h74 (by decide)) (fun h74 => ?_)
              refine r_push hX dX6_findFool_77 ?_
              refine r_iload4 hX dX6_findFool_78 ?_
              refine r_ishl hX dX6_findFool_80 ?_
              refine r_goto hX dX6_findFool_81 ?_
              refine r_ior hX dX6_findFool_85 ?_
              refine p_wM_0_32 hX dX6_findFool_86 ?_
              refine r_aload0 hX dX6_findFool_89 ?_
              refine r_dup hX dX6_findFool_90 rfl ?_
              refine g_wM_0_31 hX dX6_findFool_91 ?_
              refine r_iload5 hX dX6_findFool_94 ?_
              refine r_if_eq hX dX6_findFool_96 (fun h96 => absurd h96 (by decide)) (fun h96 => ?_)
              refine r_iload3 hX dX6_findFool_99 ?_
              refine r_goto hX dX6_findFool_100 ?_
              refine r_iadd hX dX6_findFool_104 ?_
              refine p_wM_0_31 hX dX6_findFool_105 ?_
              refine r_iinc4 hX dX6_findFool_108 rfl ?_
              refine r_goto hX dX6_findFool_111 ?_
              refine vJw (w' := wM g b (su (su σ 31 (fm' + x)) 32 (fd' ||| bit y))) rfl ?_
              exact ih2 (i2 + 1) _ _ _ _ (by rw [hx2]; exact nI_1 i2) (by omega) (by rw [hT]; show lp _ n2 (i2 + 1) (foolC _ _ _ _ i2 (fm', fd')) = _; rw [foolC_is (z := fd') ⟨by rw [← hx, ← hcy']; exact h42, Or.inl (Nat.eq_zero_of_not_pos (fun hp => nI_ne0 hp (by omega) (hx ▸ h46)))⟩, hx, hx2])
            · refine r_aload0 hX dX6_findFool_49 ?_
              refine g_wM_0_32 hX dX6_findFool_50 ?_
              refine r_nS1i hX dX6_findFool_53 kX6_bits (c_X6_bits l g _) (by decide) (Nat.le_of_ble_eq_true rfl) ?_
              refine r_iload2 hX dX6_findFool_56 ?_
              refine r_ic_ge hX dX6_findFool_57 (fun h57 => ?_) (fun h57 => ?_)
              · refine r_push hX dX6_findFool_64 ?_
                refine r_istore5 hX dX6_findFool_65 rfl ?_
                refine r_aload0 hX dX6_findFool_67 ?_
                refine r_dup hX dX6_findFool_68 rfl ?_
                refine g_wM_0_32 hX dX6_findFool_69 ?_
                refine r_iload5 hX dX6_findFool_72 ?_
                refine r_if_eq hX dX6_findFool_74 (fun h74 => ?_) (fun h74 => absurd h74 (by decide))
                refine r_push hX dX6_findFool_84 ?_
                refine r_ior hX dX6_findFool_85 ?_
                refine p_wM_0_32 hX dX6_findFool_86 ?_
                refine r_aload0 hX dX6_findFool_89 ?_
                refine r_dup hX dX6_findFool_90 rfl ?_
                refine g_wM_0_31 hX dX6_findFool_91 ?_
                refine r_iload5 hX dX6_findFool_94 ?_
                refine r_if_eq hX dX6_findFool_96 (fun h96 => ?_) (fun h96 => absurd h96 (by decide))
                refine r_push hX dX6_findFool_103 ?_
                refine r_iadd hX dX6_findFool_104 ?_
                refine p_wM_0_31 hX dX6_findFool_105 ?_
                refine r_iinc4 hX dX6_findFool_108 rfl ?_
                refine r_goto hX dX6_findFool_111 ?_
                refine vJw (w' := wM g b (su (su σ 31 (fm' + 0)) 32 (fd' ||| 0))) rfl ?_
                exact ih2 (i2 + 1) _ _ _ _ (by rw [hx2]; exact nI_1 i2) (by omega) (by rw [hT]; show lp _ n2 (i2 + 1) (foolC _ _ _ _ i2 (fm', fd')) = _; rw [Int32.add_zero, Int32.or_zero, foolC_no (z := fd') (fun h => h.2.elim (fun e => h46 (by rw [hx, e]; rfl)) (fun e => e h57))])
              · refine r_push hX dX6_findFool_60 ?_
                refine r_goto hX dX6_findFool_61 ?_
                refine r_istore5 hX dX6_findFool_65 rfl ?_
                refine r_aload0 hX dX6_findFool_67 ?_
                refine r_dup hX dX6_findFool_68 rfl ?_
                refine g_wM_0_32 hX dX6_findFool_69 ?_
                refine r_iload5 hX dX6_findFool_72 ?_
                refine r_if_eq hX dX6_findFool_74 (fun h74 => absurd h74 (by decide)) (fun h74 => ?_)
                refine r_push hX dX6_findFool_77 ?_
                refine r_iload4 hX dX6_findFool_78 ?_
                refine r_ishl hX dX6_findFool_80 ?_
                refine r_goto hX dX6_findFool_81 ?_
                refine r_ior hX dX6_findFool_85 ?_
                refine p_wM_0_32 hX dX6_findFool_86 ?_
                refine r_aload0 hX dX6_findFool_89 ?_
                refine r_dup hX dX6_findFool_90 rfl ?_
                refine g_wM_0_31 hX dX6_findFool_91 ?_
                refine r_iload5 hX dX6_findFool_94 ?_
                refine r_if_eq hX dX6_findFool_96 (fun h96 => absurd h96 (by decide)) (fun h96 => ?_)
                refine r_iload3 hX dX6_findFool_99 ?_
                refine r_goto hX dX6_findFool_100 ?_
                refine r_iadd hX dX6_findFool_104 ?_
                refine p_wM_0_31 hX dX6_findFool_105 ?_
                refine r_iinc4 hX dX6_findFool_108 rfl ?_
                refine r_goto hX dX6_findFool_111 ?_
                refine vJw (w' := wM g b (su (su σ 31 (fm' + x)) 32 (fd' ||| bit y))) rfl ?_
                exact ih2 (i2 + 1) _ _ _ _ (by rw [hx2]; exact nI_1 i2) (by omega) (by rw [hT]; show lp _ n2 (i2 + 1) (foolC _ _ _ _ i2 (fm', fd')) = _; rw [foolC_is (z := fd') ⟨by rw [← hx, ← hcy']; exact h42, Or.inr h57⟩, hx, hx2])
      refine r_iload3 hX dX6_findFool_12 ?_
      refine r_push hX dX6_findFool_13 ?_
      refine r_ic_gt hX dX6_findFool_14 (fun h14 => absurd h14 (lgn (e := 4) hx rfl (by decide) (by omega))) (fun h14 => ?_)
      refine r_push hX dX6_findFool_17 ?_
      refine r_istore4 hX dX6_findFool_18 rfl ?_
      exact hL20 D 0 _ fm fd _ rfl (by omega) rfl
  refine r_aload0 hX dX6_findFool_0 ?_
  refine r_push hX dX6_findFool_1 ?_
  refine p_wM_0_31 hX dX6_findFool_2 ?_
  refine r_aload0 hX dX6_findFool_5 ?_
  refine r_push hX dX6_findFool_6 ?_
  refine p_wM_0_32 hX dX6_findFool_7 ?_
  refine r_push hX dX6_findFool_10 ?_
  refine r_istore3 hX dX6_findFool_11 rfl ?_
  exact hL12 5 0 _ 0 0 rfl rfl hsp.symm
set_option maxHeartbeats 400000 in
theorem c_X6_fool (l : Launch) (g : GT) (b : Nat → Nat) (σ : S2) (t k z : Int32) (D : Nat) (hD : D ≤ 14) (eD : σ.1 0 = nI D) (C : Nat) (hC : C ≤ 4) (eC : σ.1 1 = nI C) : Cx l g yX6_fool cX6_fool 4 (some .int) (k2_rm 2 60) [.ref (b 0), .int t, .int k, .int z] (wM g b σ) (some (.int (foolF D (σ.1 1) (σ.2 9) t k z))) (wM g b (su (su σ 31 (foolX D (σ.1 1) (σ.2 9) t k z (σ.1 31) (σ.1 32)).1) 32 (foolX D (σ.1 1) (σ.2 9) t k z (σ.1 31) (σ.1 32)).2)) := by
  refine meth (own := "ChalkedDoorsModel") (by decide) rfl (Nat.le_of_ble_eq_true rfl) [some (.ref (b 0)), some (.int t), some (.int k), some (.int z)] rfl (fun X hX hQ => ?_)
  refine r_aload0 hX dX6_fool_0 ?_
  refine r_iload1 hX dX6_fool_1 ?_
  refine r_aV1i hX dX6_fool_2 kX6_isSet (c_X6_isSet l g _ _ _ C hC eC) ad_wM rfl (by decide) (Nat.le_of_ble_eq_true rfl) ?_
  refine r_if_ne hX dX6_fool_5 (fun h5 => ?_) (fun h5 => ?_)
  · refine r_iload2 hX dX6_fool_11 ?_
    refine r_i2l hX dX6_fool_12 ?_
    refine r_pushl hX dX6_fool_13 ?_
    refine r_pushl hX dX6_fool_16 ?_
    refine r_nS3i hX dX6_fool_19 kX6_in (c_X6_in l g _ _ _) (by decide) (Nat.le_of_ble_eq_true rfl) ?_
    refine r_if_eq hX dX6_fool_22 (fun h22 => ?_) (fun h22 => ?_)
    · refine r_push hX dX6_fool_35 ?_
      exact r_iret hX hQ dX6_fool_37 (by unfold foolF; rw [if_pos (bI_nz h5), if_neg (fun h => absurd h.1 (by have q := bI_z h22; rw [Int32.toInt_toInt64] at q; exact q))] <;> rfl) (by unfold foolX; rw [if_pos (bI_nz h5), if_neg (fun h => absurd h.1 (by have q := bI_z h22; rw [Int32.toInt_toInt64] at q; exact q))] <;> rfl)
    · refine r_iload3 hX dX6_fool_25 ?_
      refine r_i2l hX dX6_fool_26 ?_
      refine r_pushl hX dX6_fool_27 ?_
      refine r_pushl hX dX6_fool_28 ?_
      refine r_nS3i hX dX6_fool_29 kX6_in (c_X6_in l g _ _ _) (by decide) (Nat.le_of_ble_eq_true rfl) ?_
      refine r_if_ne hX dX6_fool_32 (fun h32 => ?_) (fun h32 => ?_)
      · refine r_iload2 hX dX6_fool_38 ?_
        refine r_aload0 hX dX6_fool_39 ?_
        refine g_wM_0_0 hX dX6_fool_40 ?_
        refine r_ic_le hX dX6_fool_43 (fun h43 => ?_) (fun h43 => ?_)
        · refine r_aload0 hX dX6_fool_48 ?_
          refine r_iload1 hX dX6_fool_49 ?_
          refine r_iload2 hX dX6_fool_50 ?_
          refine r_aV2v hX dX6_fool_51 kX6_findFool (c_X6_findFool l g _ _ _ _ D hD eD) ad_wM rfl (by decide) (Nat.le_of_ble_eq_true rfl) ?_
          refine r_iload3 hX dX6_fool_54 ?_
          refine r_if_ne hX dX6_fool_55 (fun h55 => ?_) (fun h55 => ?_)
          · refine r_aload0 hX dX6_fool_65 ?_
            refine g_wM_0_32 hX dX6_fool_66 ?_
            exact r_iret hX hQ dX6_fool_69 (by unfold foolF; rw [if_pos (bI_nz h5), if_pos (⟨by have q := bI_nz h22; rw [Int32.toInt_toInt64] at q; exact q, by have q := bI_nz h32; rw [Int32.toInt_toInt64] at q; exact q⟩ : inB k.toInt 2 14 ∧ inB z.toInt 0 1), if_pos (show k ≤ nI D from eD ▸ h43), if_neg h55] <;> rfl) (by unfold foolX; rw [if_pos (bI_nz h5), if_pos (⟨by have q := bI_nz h22; rw [Int32.toInt_toInt64] at q; exact q, by have q := bI_nz h32; rw [Int32.toInt_toInt64] at q; exact q⟩ : inB k.toInt 2 14 ∧ inB z.toInt 0 1), if_pos (show k ≤ nI D from eD ▸ h43)] <;> rfl)
          · refine r_aload0 hX dX6_fool_58 ?_
            refine g_wM_0_31 hX dX6_fool_59 ?_
            refine r_goto hX dX6_fool_62 ?_
            exact r_iret hX hQ dX6_fool_69 (by unfold foolF; rw [if_pos (bI_nz h5), if_pos (⟨by have q := bI_nz h22; rw [Int32.toInt_toInt64] at q; exact q, by have q := bI_nz h32; rw [Int32.toInt_toInt64] at q; exact q⟩ : inB k.toInt 2 14 ∧ inB z.toInt 0 1), if_pos (show k ≤ nI D from eD ▸ h43), if_pos h55] <;> rfl) (by unfold foolX; rw [if_pos (bI_nz h5), if_pos (⟨by have q := bI_nz h22; rw [Int32.toInt_toInt64] at q; exact q, by have q := bI_nz h32; rw [Int32.toInt_toInt64] at q; exact q⟩ : inB k.toInt 2 14 ∧ inB z.toInt 0 1), if_pos (show k ≤ nI D from eD ▸ h43)] <;> rfl)
        · refine r_push hX dX6_fool_46 ?_
          exact r_iret hX hQ dX6_fool_47 (by unfold foolF; rw [if_pos (bI_nz h5), if_pos (⟨by have q := bI_nz h22; rw [Int32.toInt_toInt64] at q; exact q, by have q := bI_nz h32; rw [Int32.toInt_toInt64] at q; exact q⟩ : inB k.toInt 2 14 ∧ inB z.toInt 0 1), if_neg (show ¬ k ≤ nI D from eD ▸ h43)] <;> rfl) (by unfold foolX; rw [if_pos (bI_nz h5), if_pos (⟨by have q := bI_nz h22; rw [Int32.toInt_toInt64] at q; exact q, by have q := bI_nz h32; rw [Int32.toInt_toInt64] at q; exact q⟩ : inB k.toInt 2 14 ∧ inB z.toInt 0 1), if_neg (show ¬ k ≤ nI D from eD ▸ h43)] <;> rfl)
      · refine r_push hX dX6_fool_35 ?_
        exact r_iret hX hQ dX6_fool_37 (by unfold foolF; rw [if_pos (bI_nz h5), if_neg (fun h => absurd h.2 (by have q := bI_z h32; rw [Int32.toInt_toInt64] at q; exact q))] <;> rfl) (by unfold foolX; rw [if_pos (bI_nz h5), if_neg (fun h => absurd h.2 (by have q := bI_z h32; rw [Int32.toInt_toInt64] at q; exact q))] <;> rfl)
  · refine r_push hX dX6_fool_8 ?_
    exact r_iret hX hQ dX6_fool_10 (by unfold foolF; rw [if_neg (bI_z h5)] <;> rfl) (by unfold foolX; rw [if_neg (bI_z h5)] <;> rfl)
set_option maxHeartbeats 400000 in
theorem c_X6_costOf (l : Launch) (g : GT) (b : Nat → Nat) (σ : S2) (t : Int32) (C : Nat) (hC : C ≤ 4) (eC : σ.1 1 = nI C) : Cx l g yX6_costOf cX6_costOf 4 (some .int) (k2_rm 1 30) [.ref (b 0), .int t] (wM g b σ) (some (.int (costF C (σ.2 4) t))) (wM g b σ) := by
  refine meth (own := "ChalkedDoorsModel") (by decide) rfl (Nat.le_of_ble_eq_true rfl) [some (.ref (b 0)), some (.int t), none, none] rfl (fun X hX hQ => ?_)
  generalize hsp : costF C (σ.2 4) t = S at hQ
  unfold costF at hsp
  have hL4 : ∀ (n i : Nat) (x : Int32) (r : Int32), x = nI i → i + n = C → S = lp (fun c s => if hb t (nI c) then s + σ.2 4 c else s) n i r → vJ X 0 0 (wM g b σ) 4 [some (.ref (b 0)), some (.int t), some (.int r), some (.int x)] [] := by
    intro n
    induction n with
    | zero =>
      intro i x r hx hn hs
      refine r_iload3 hX dX6_costOf_4 ?_
      refine r_aload0 hX dX6_costOf_5 ?_
      refine g_wM_0_1 hX dX6_costOf_6 ?_
      refine r_ic_ge hX dX6_costOf_9 (fun h9 => ?_) (fun h9 => absurd (lpx (e := C) hx eC (by omega) (by omega) (by omega)) h9)
      refine r_iload2 hX dX6_costOf_39 ?_
      exact r_iret hX hQ dX6_costOf_40 (by rw [hs] <;> rfl) (rfl)
    | succ n ih =>
      intro i x r hx hn hs
      have hcx : cl x = i := by rw [hx]; exact nI_clamp (by omega)
      refine r_iload3 hX dX6_costOf_4 ?_
      refine r_aload0 hX dX6_costOf_5 ?_
      refine g_wM_0_1 hX dX6_costOf_6 ?_
      refine r_ic_ge hX dX6_costOf_9 (fun h9 => absurd h9 (lpn (e := C) hx eC (by omega) (by omega))) (fun h9 => ?_)
      refine r_iload2 hX dX6_costOf_12 ?_
      refine r_iload1 hX dX6_costOf_13 ?_
      refine r_iload3 hX dX6_costOf_14 ?_
      refine r_nS2i hX dX6_costOf_15 kX6_has (c_X6_has l g _ _) (by decide) (Nat.le_of_ble_eq_true rfl) ?_
      refine r_if_eq hX dX6_costOf_18 (fun h18 => ?_) (fun h18 => ?_)
      · refine r_push hX dX6_costOf_30 ?_
        refine r_iadd hX dX6_costOf_31 ?_
        refine r_istore2 hX dX6_costOf_32 rfl ?_
        refine r_iinc3 hX dX6_costOf_33 rfl ?_
        refine r_goto hX dX6_costOf_36 ?_
        exact ih (i + 1) _ _ (by rw [hx]; exact nI_1 i) (by omega) (by rw [hs]; show lp _ n (i + 1) (ite _ _ _) = _; rw [← hx, if_neg (bI_z h18), Int32.add_zero])
      · refine r_aload0 hX dX6_costOf_21 ?_
        refine g_wM_0_4 hX dX6_costOf_22 ?_
        refine r_iload3 hX dX6_costOf_25 ?_
        refine l_wM_3 hX dX6_costOf_26 (by rw [hx]; exact vp_in_nI (by omega) (by omega)) ?_
        refine r_goto hX dX6_costOf_27 ?_
        refine r_iadd hX dX6_costOf_31 ?_
        refine r_istore2 hX dX6_costOf_32 rfl ?_
        refine r_iinc3 hX dX6_costOf_33 rfl ?_
        refine r_goto hX dX6_costOf_36 ?_
        exact ih (i + 1) _ _ (by rw [hx]; exact nI_1 i) (by omega) (by rw [hs]; show lp _ n (i + 1) (ite _ _ _) = _; rw [← hx, if_pos (bI_nz h18), ← hcx])
  refine r_push hX dX6_costOf_0 ?_
  refine r_istore2 hX dX6_costOf_1 rfl ?_
  refine r_push hX dX6_costOf_2 ?_
  refine r_istore3 hX dX6_costOf_3 rfl ?_
  exact hL4 C 0 _ _ rfl (by omega) hsp.symm
set_option maxHeartbeats 400000 in
theorem c_X6_costOfCode (l : Launch) (g : GT) (b : Nat → Nat) (σ : S2) (t : Int32) (C : Nat) (hC : C ≤ 4) (eC : σ.1 1 = nI C) : Cx l g yX6_costOfCode cX6_costOfCode 4 (some .int) (k2_rm 2 60) [.ref (b 0), .int t] (wM g b σ) (some (.int (ccF C (σ.2 4) (σ.2 33) t 16 0 0))) (wM g b σ) := by
  refine meth (own := "ChalkedDoorsModel") (by decide) rfl (Nat.le_of_ble_eq_true rfl) [some (.ref (b 0)), some (.int t), none, none] rfl (fun X hX hQ => ?_)
  generalize hsp : ccF C (σ.2 4) (σ.2 33) t 16 0 0 = S at hQ
  have hL4 : ∀ (n i : Nat) (x : Int32) (r : Int32), x = nI i → i + n = 16 → S = ccF C (σ.2 4) (σ.2 33) t n i r → vJ X 0 0 (wM g b σ) 4 [some (.ref (b 0)), some (.int t), some (.int r), some (.int x)] [] := by
    intro n
    induction n with
    | zero =>
      intro i x r hx hn hs
      refine r_iload3 hX dX6_costOfCode_4 ?_
      refine r_push hX dX6_costOfCode_5 ?_
      refine r_ic_ge hX dX6_costOfCode_7 (fun h7 => ?_) (fun h7 => absurd (lpx (e := 16) hx rfl (by omega) (by omega) (by omega)) h7)
      refine r_iload2 hX dX6_costOfCode_47 ?_
      exact r_iret hX hQ dX6_costOfCode_48 (by rw [hs] <;> rfl) (rfl)
    | succ n ih =>
      intro i x r hx hn hs
      have hcx : cl x = i := by rw [hx]; exact nI_clamp (by omega)
      refine r_iload3 hX dX6_costOfCode_4 ?_
      refine r_push hX dX6_costOfCode_5 ?_
      refine r_ic_ge hX dX6_costOfCode_7 (fun h7 => absurd h7 (lpn (e := 16) hx rfl (by omega) (by omega))) (fun h7 => ?_)
      refine r_iload1 hX dX6_costOfCode_10 ?_
      refine r_iload3 hX dX6_costOfCode_11 ?_
      refine r_nS2i hX dX6_costOfCode_12 kX6_has (c_X6_has l g _ _) (by decide) (Nat.le_of_ble_eq_true rfl) ?_
      refine r_if_eq hX dX6_costOfCode_15 (fun h15 => ?_) (fun h15 => ?_)
      · refine r_iinc3 hX dX6_costOfCode_41 rfl ?_
        refine r_goto hX dX6_costOfCode_44 ?_
        exact ih (i + 1) _ _ (by rw [hx]; exact nI_1 i) (by omega) (by rw [hs, ccF_s, ← hx, if_neg (bI_z h15)])
      · refine r_iload2 hX dX6_costOfCode_18 ?_
        refine r_aload0 hX dX6_costOfCode_19 ?_
        refine r_iload3 hX dX6_costOfCode_20 ?_
        refine r_aV1i hX dX6_costOfCode_21 kX6_costOf (c_X6_costOf l g _ _ _ C hC eC) ad_wM rfl (by decide) (Nat.le_of_ble_eq_true rfl) ?_
        refine r_iadd hX dX6_costOfCode_24 ?_
        refine r_istore2 hX dX6_costOfCode_25 rfl ?_
        refine r_iload1 hX dX6_costOfCode_26 ?_
        refine r_aload0 hX dX6_costOfCode_27 ?_
        refine g_wM_0_33 hX dX6_costOfCode_28 ?_
        refine r_iload3 hX dX6_costOfCode_31 ?_
        refine l_wM_15 hX dX6_costOfCode_32 (by rw [hx]; exact vp_in_nI (by omega) (by omega)) ?_
        refine r_iand hX dX6_costOfCode_33 ?_
        refine r_if_eq hX dX6_costOfCode_34 (fun h34 => ?_) (fun h34 => ?_)
        · refine r_iinc3 hX dX6_costOfCode_41 rfl ?_
          refine r_goto hX dX6_costOfCode_44 ?_
          exact ih (i + 1) _ _ (by rw [hx]; exact nI_1 i) (by omega) (by rw [hs, ccF_s, ← hx, if_pos (bI_nz h15), if_pos (show t &&& σ.2 33 i = 0 by rw [← hcx]; exact h34)])
        · refine r_push hX dX6_costOfCode_37 ?_
          exact r_iret hX hQ dX6_costOfCode_40 (by rw [hs, ccF_s, ← hx, if_pos (bI_nz h15), if_neg (show ¬ t &&& σ.2 33 i = 0 by rw [← hcx]; exact h34)]) (rfl)
  refine r_push hX dX6_costOfCode_0 ?_
  refine r_istore2 hX dX6_costOfCode_1 rfl ?_
  refine r_push hX dX6_costOfCode_2 ?_
  refine r_istore3 hX dX6_costOfCode_3 rfl ?_
  exact hL4 16 0 _ _ rfl (by omega) hsp.symm
