set_option maxHeartbeats 400000 in
theorem c_X6_code (l : Launch) (g : GT) (b : Nat → Nat) (σ : S2) (e d : Int32) (D : Nat) (hD : D ≤ 14) (eD : σ.1 0 = nI D) (C : Nat) (hC : C ≤ 4) (eC : σ.1 1 = nI C) : Cx l g yX6_code cX6_code 5 (some .int) (k2_rm 4 120) [.ref (b 0), .int e, .int d] (wM g b σ) (some (.int (codF D (fcF D C (σ.2 4) (cpN 16 (nearF e) (σ.2 33))) e d))) (wM g b (codS D C e d σ)) := by
  refine meth (own := "ChalkedDoorsModel") (by decide) rfl (Nat.le_of_ble_eq_true rfl) [some (.ref (b 0)), some (.int e), some (.int d), none, none] rfl (fun X hX hQ => ?_)
  by_cases h1 : d = -1 ∨ inD d (σ.1 0)
  · have h1' : d = -1 ∨ inD d (nI D) := eD ▸ h1
    by_cases h2 : inB e.toInt 0 2
    · have hb3 := fcF_bits D C hD (σ.2 4) (cpN 16 (nearF e) (σ.2 33))
      have e1 : codS D C e d σ = su (su (aw σ 33 (cpN 16 (nearF e) (σ.2 33))) 34 (fcF D C (σ.2 4) (cpN 16 (nearF e) (σ.2 33))).1) 35 (fcF D C (σ.2 4) (cpN 16 (nearF e) (σ.2 33))).2 := by unfold codS; rw [if_pos ⟨h1', h2⟩]
      have e2 : codF D (fcF D C (σ.2 4) (cpN 16 (nearF e) (σ.2 33))) e d = if (fcF D C (σ.2 4) (cpN 16 (nearF e) (σ.2 33))).2 = 1000000 then -1 else if d = -1 then (fcF D C (σ.2 4) (cpN 16 (nearF e) (σ.2 33))).2 else nI (rkN (fcF D C (σ.2 4) (cpN 16 (nearF e) (σ.2 33))).1 16 0 (cl d)) := by unfold codF; rw [if_pos h1', if_pos h2]
      rw [e1, e2] at hQ
      generalize hF : (fcF D C (σ.2 4) (cpN 16 (nearF e) (σ.2 33))) = F at hQ hb3
      have hL : ∀ (n s left : Nat) (o : Option Value), ¬ F.2 = 1000000 → ¬ d = -1 → s + n = 16 → left < ctN F.1 n s → rkN F.1 16 0 (cl d) = rkN F.1 n s left → vJ X 0 0 (wM g b (su (su (aw σ 33 (cpN 16 (nearF e) (σ.2 33))) 34 F.1) 35 F.2)) 75 [some (.ref (b 0)), some (.int e), some (.int d), some (.int (nI left)), some (.int (nI s))] [] := by
        intro n
        induction n with
        | zero => intro s left o _ _ _ h; exact absurd h (Nat.not_lt_zero _)
        | succ n ih =>
          intro s left o hv hd hn hc hr
          have hct := ctN_le F.1 (n + 1) s
          have hlb : left ≤ 16 := by omega
          rw [ctN_s (n := n) (s := s)] at hc
          rw [rkN_s (n := n) (s := s)] at hr
          refine r_aload0 hX dX6_code_75 ?_
          refine g_wM_0_34 hX dX6_code_76 ?_
          refine r_iload4 hX dX6_code_79 ?_
          refine r_nS2i hX dX6_code_81 kX6_has (c_X6_has l g _ _) (by decide) (Nat.le_of_ble_eq_true rfl) ?_
          refine r_if_eq hX dX6_code_84 (fun h84 => ?_) (fun h84 => ?_)
          · refine r_iload3 hX dX6_code_91 ?_
            refine r_aload0 hX dX6_code_92 ?_
            refine g_wM_0_34 hX dX6_code_93 ?_
            refine r_iload4 hX dX6_code_96 ?_
            refine r_nS2i hX dX6_code_98 kX6_has (c_X6_has l g _ _) (by decide) (Nat.le_of_ble_eq_true rfl) ?_
            refine r_if_eq hX dX6_code_101 (fun h101 => ?_) (fun h101 => ?_)
            · refine r_push hX dX6_code_108 ?_
              refine r_isub hX dX6_code_109 ?_
              refine r_istore3 hX dX6_code_110 rfl ?_
              refine r_iinc4 hX dX6_code_111 rfl ?_
              refine r_goto hX dX6_code_114 ?_
              rw [if_neg (show ¬ hb F.1 (nI s) from bI_z h84)] at hr hc
              rw [Int32.sub_zero, nI_1]
              exact ih (s + 1) left none hv hd (by omega) (by omega) hr
            · refine r_push hX dX6_code_104 ?_
              refine r_goto hX dX6_code_105 ?_
              refine r_isub hX dX6_code_109 ?_
              refine r_istore3 hX dX6_code_110 rfl ?_
              refine r_iinc4 hX dX6_code_111 rfl ?_
              refine r_goto hX dX6_code_114 ?_
              exact absurd h84 h101
          · refine r_iload3 hX dX6_code_87 ?_
            refine r_if_le hX dX6_code_88 (fun h88 => ?_) (fun h88 => ?_)
            · refine r_iload4 hX dX6_code_117 ?_
              exact r_iret hX hQ dX6_code_119 (by rw [if_pos (show hb F.1 (nI s) from bI_nz h84), if_pos (show left = 0 from Nat.eq_zero_of_not_pos (fun z => nI_nle z (by omega) h88))] at hr; rw [if_neg hv, if_neg hd, hr]) (rfl)
            · refine r_iload3 hX dX6_code_91 ?_
              refine r_aload0 hX dX6_code_92 ?_
              refine g_wM_0_34 hX dX6_code_93 ?_
              refine r_iload4 hX dX6_code_96 ?_
              refine r_nS2i hX dX6_code_98 kX6_has (c_X6_has l g _ _) (by decide) (Nat.le_of_ble_eq_true rfl) ?_
              refine r_if_eq hX dX6_code_101 (fun h101 => ?_) (fun h101 => ?_)
              · refine r_push hX dX6_code_108 ?_
                refine r_isub hX dX6_code_109 ?_
                refine r_istore3 hX dX6_code_110 rfl ?_
                refine r_iinc4 hX dX6_code_111 rfl ?_
                refine r_goto hX dX6_code_114 ?_
                exact absurd h101 h84
              · refine r_push hX dX6_code_104 ?_
                refine r_goto hX dX6_code_105 ?_
                refine r_isub hX dX6_code_109 ?_
                refine r_istore3 hX dX6_code_110 rfl ?_
                refine r_iinc4 hX dX6_code_111 rfl ?_
                refine r_goto hX dX6_code_114 ?_
                rw [if_pos (show hb F.1 (nI s) from bI_nz h84)] at hr hc
                have hl0 : left ≠ 0 := fun z => h88 (by rw [z]; decide)
                rw [if_neg hl0] at hr
                rw [show nI left - 1 = nI (left - 1) from (pk_sub (a := left) (b := 1) (by omega)), nI_1]
                exact ih (s + 1) (left - 1) none hv hd (by omega) (by omega) hr
      refine r_iload2 hX dX6_code_0 ?_
      refine r_push hX dX6_code_1 ?_
      refine r_ic_eq hX dX6_code_2 (fun h2_2 => ?_) (fun h2_2 => ?_)
      · refine r_iload1 hX dX6_code_16 ?_
        refine r_i2l hX dX6_code_17 ?_
        refine r_pushl hX dX6_code_18 ?_
        refine r_pushl hX dX6_code_19 ?_
        refine r_nS3i hX dX6_code_22 kX6_in (c_X6_in l g _ _ _) (by decide) (Nat.le_of_ble_eq_true rfl) ?_
        refine r_if_ne hX dX6_code_25 (fun h25 => ?_) (fun h25 => absurd h25 (by rw [bI_t (p := inB e.toInt64.toInt (0 : Int64).toInt (2 : Int64).toInt) (by rw [Int32.toInt_toInt64]; exact h2)]; decide))
        refine r_aload0 hX dX6_code_31 ?_
        refine r_iload1 hX dX6_code_32 ?_
        refine r_aV1v hX dX6_code_33 kX6_findCode (c_X6_findCode l g _ _ _ D hD eD C hC eC) ad_wM rfl (by decide) (Nat.le_of_ble_eq_true rfl) ?_
        refine r_aload0 hX dX6_code_36 ?_
        refine g_wM_0_35 hX dX6_code_37 ?_
        refine r_push hX dX6_code_40 ?_
        refine r_ic_eq hX dX6_code_43 (fun h43 => ?_) (fun h43 => ?_)
        · refine r_aload0 hX dX6_code_51 ?_
          refine g_wM_0_35 hX dX6_code_52 ?_
          refine r_push hX dX6_code_55 ?_
          refine r_ic_ne hX dX6_code_58 (fun h58 => ?_) (fun h58 => ?_)
          · refine r_aload0 hX dX6_code_65 ?_
            refine g_wM_0_35 hX dX6_code_66 ?_
            exact r_iret hX hQ dX6_code_69 (absurd h43 h58) (by rw [← hF])
          · refine r_push hX dX6_code_61 ?_
            refine r_goto hX dX6_code_62 ?_
            exact r_iret hX hQ dX6_code_69 (by rw [← hF, if_pos (show (fcF D C (σ.2 4) (cpN 16 (nearF e) (σ.2 33))).2 = 1000000 from h58)]) (by rw [← hF])
        · refine r_iload2 hX dX6_code_46 ?_
          refine r_push hX dX6_code_47 ?_
          refine r_ic_ne hX dX6_code_48 (fun h48 => ?_) (fun h48 => ?_)
          · have hd1 : inD d (nI D) := h1'.resolve_left h48
            refine r_iload2 hX dX6_code_70 ?_
            refine r_istore3 hX dX6_code_71 rfl ?_
            refine r_push hX dX6_code_72 ?_
            refine r_istore4 hX dX6_code_73 rfl ?_
            refine vJw (w' := wM g b (su (su (aw σ 33 (cpN 16 (nearF e) (σ.2 33))) 34 F.1) 35 F.2)) (by rw [← hF] <;> rfl) ?_
            have hdc : d = nI (cl d) ∧ ((cl d : Nat) : Int) = d.toInt := clN (a := 0) (z := d.toInt) ⟨hd1.1, Int.le_refl _⟩ (by decide)
            have hdD : cl d < D := by have := hd1.2; rw [nI_toInt (by omega)] at this; omega
            have hv : ¬ F.2 = 1000000 := by rw [← hF]; exact h43
            have := hL 16 0 (cl d) none hv h48 (by omega) (by rcases hb3 with z | z; exact absurd z hv; omega) rfl
            rw [← hdc.1] at this
            exact this
          · refine r_aload0 hX dX6_code_51 ?_
            refine g_wM_0_35 hX dX6_code_52 ?_
            refine r_push hX dX6_code_55 ?_
            refine r_ic_ne hX dX6_code_58 (fun h58 => ?_) (fun h58 => ?_)
            · refine r_aload0 hX dX6_code_65 ?_
              refine g_wM_0_35 hX dX6_code_66 ?_
              exact r_iret hX hQ dX6_code_69 (by rw [← hF, if_neg (show ¬ (fcF D C (σ.2 4) (cpN 16 (nearF e) (σ.2 33))).2 = 1000000 from h58), if_pos (show d = -1 from h48)] <;> rfl) (by rw [← hF])
            · refine r_push hX dX6_code_61 ?_
              refine r_goto hX dX6_code_62 ?_
              exact r_iret hX hQ dX6_code_69 (by rw [← hF, if_pos (show (fcF D C (σ.2 4) (cpN 16 (nearF e) (σ.2 33))).2 = 1000000 from h58)]) (by rw [← hF])
      · have hne : ¬ d = -1 := h2_2
        refine r_aload0 hX dX6_code_5 ?_
        refine r_iload2 hX dX6_code_6 ?_
        refine r_aV1i hX dX6_code_7 kX6_isDoor (c_X6_isDoor l g _ _ _ D hD eD) ad_wM rfl (by decide) (Nat.le_of_ble_eq_true rfl) ?_
        refine r_if_ne hX dX6_code_10 (fun h10 => ?_) (fun h10 => absurd h10 (by rw [bI_t (h1.resolve_left hne)]; decide))
        refine r_iload1 hX dX6_code_16 ?_
        refine r_i2l hX dX6_code_17 ?_
        refine r_pushl hX dX6_code_18 ?_
        refine r_pushl hX dX6_code_19 ?_
        refine r_nS3i hX dX6_code_22 kX6_in (c_X6_in l g _ _ _) (by decide) (Nat.le_of_ble_eq_true rfl) ?_
        refine r_if_ne hX dX6_code_25 (fun h25 => ?_) (fun h25 => absurd h25 (by rw [bI_t (p := inB e.toInt64.toInt (0 : Int64).toInt (2 : Int64).toInt) (by rw [Int32.toInt_toInt64]; exact h2)]; decide))
        refine r_aload0 hX dX6_code_31 ?_
        refine r_iload1 hX dX6_code_32 ?_
        refine r_aV1v hX dX6_code_33 kX6_findCode (c_X6_findCode l g _ _ _ D hD eD C hC eC) ad_wM rfl (by decide) (Nat.le_of_ble_eq_true rfl) ?_
        refine r_aload0 hX dX6_code_36 ?_
        refine g_wM_0_35 hX dX6_code_37 ?_
        refine r_push hX dX6_code_40 ?_
        refine r_ic_eq hX dX6_code_43 (fun h43 => ?_) (fun h43 => ?_)
        · refine r_aload0 hX dX6_code_51 ?_
          refine g_wM_0_35 hX dX6_code_52 ?_
          refine r_push hX dX6_code_55 ?_
          refine r_ic_ne hX dX6_code_58 (fun h58 => ?_) (fun h58 => ?_)
          · refine r_aload0 hX dX6_code_65 ?_
            refine g_wM_0_35 hX dX6_code_66 ?_
            exact r_iret hX hQ dX6_code_69 (absurd h43 h58) (by rw [← hF])
          · refine r_push hX dX6_code_61 ?_
            refine r_goto hX dX6_code_62 ?_
            exact r_iret hX hQ dX6_code_69 (by rw [← hF, if_pos (show (fcF D C (σ.2 4) (cpN 16 (nearF e) (σ.2 33))).2 = 1000000 from h58)]) (by rw [← hF])
        · refine r_iload2 hX dX6_code_46 ?_
          refine r_push hX dX6_code_47 ?_
          refine r_ic_ne hX dX6_code_48 (fun h48 => ?_) (fun h48 => ?_)
          · have hd1 : inD d (nI D) := h1'.resolve_left h48
            refine r_iload2 hX dX6_code_70 ?_
            refine r_istore3 hX dX6_code_71 rfl ?_
            refine r_push hX dX6_code_72 ?_
            refine r_istore4 hX dX6_code_73 rfl ?_
            refine vJw (w' := wM g b (su (su (aw σ 33 (cpN 16 (nearF e) (σ.2 33))) 34 F.1) 35 F.2)) (by rw [← hF] <;> rfl) ?_
            have hdc : d = nI (cl d) ∧ ((cl d : Nat) : Int) = d.toInt := clN (a := 0) (z := d.toInt) ⟨hd1.1, Int.le_refl _⟩ (by decide)
            have hdD : cl d < D := by have := hd1.2; rw [nI_toInt (by omega)] at this; omega
            have hv : ¬ F.2 = 1000000 := by rw [← hF]; exact h43
            have := hL 16 0 (cl d) none hv h48 (by omega) (by rcases hb3 with z | z; exact absurd z hv; omega) rfl
            rw [← hdc.1] at this
            exact this
          · refine r_aload0 hX dX6_code_51 ?_
            refine g_wM_0_35 hX dX6_code_52 ?_
            refine r_push hX dX6_code_55 ?_
            refine r_ic_ne hX dX6_code_58 (fun h58 => ?_) (fun h58 => ?_)
            · refine r_aload0 hX dX6_code_65 ?_
              refine g_wM_0_35 hX dX6_code_66 ?_
              exact r_iret hX hQ dX6_code_69 (by rw [← hF, if_neg (show ¬ (fcF D C (σ.2 4) (cpN 16 (nearF e) (σ.2 33))).2 = 1000000 from h58), if_pos (show d = -1 from h48)] <;> rfl) (by rw [← hF])
            · refine r_push hX dX6_code_61 ?_
              refine r_goto hX dX6_code_62 ?_
              exact r_iret hX hQ dX6_code_69 (by rw [← hF, if_pos (show (fcF D C (σ.2 4) (cpN 16 (nearF e) (σ.2 33))).2 = 1000000 from h58)]) (by rw [← hF])
    · have e1 : codS D C e d σ = σ := by unfold codS; rw [if_neg (fun z => h2 z.2)]
      have e2 : codF D (fcF D C (σ.2 4) (cpN 16 (nearF e) (σ.2 33))) e d = -1000000002 := by unfold codF; rw [if_pos h1', if_neg h2]
      rw [e1, e2] at hQ
      refine r_iload2 hX dX6_code_0 ?_
      refine r_push hX dX6_code_1 ?_
      refine r_ic_eq hX dX6_code_2 (fun h2_2 => ?_) (fun h2_2 => ?_)
      · refine r_iload1 hX dX6_code_16 ?_
        refine r_i2l hX dX6_code_17 ?_
        refine r_pushl hX dX6_code_18 ?_
        refine r_pushl hX dX6_code_19 ?_
        refine r_nS3i hX dX6_code_22 kX6_in (c_X6_in l g _ _ _) (by decide) (Nat.le_of_ble_eq_true rfl) ?_
        refine r_if_ne hX dX6_code_25 (fun h25 => absurd (bI_nz h25) (by rw [Int32.toInt_toInt64]; exact h2)) (fun h25 => ?_)
        refine r_push hX dX6_code_28 ?_
        exact r_iret hX hQ dX6_code_30 (rfl) (rfl)
      · refine r_aload0 hX dX6_code_5 ?_
        refine r_iload2 hX dX6_code_6 ?_
        refine r_aV1i hX dX6_code_7 kX6_isDoor (c_X6_isDoor l g _ _ _ D hD eD) ad_wM rfl (by decide) (Nat.le_of_ble_eq_true rfl) ?_
        refine r_if_ne hX dX6_code_10 (fun h10 => ?_) (fun h10 => absurd h10 (by rw [bI_t (h1.resolve_left h2_2)]; decide))
        refine r_iload1 hX dX6_code_16 ?_
        refine r_i2l hX dX6_code_17 ?_
        refine r_pushl hX dX6_code_18 ?_
        refine r_pushl hX dX6_code_19 ?_
        refine r_nS3i hX dX6_code_22 kX6_in (c_X6_in l g _ _ _) (by decide) (Nat.le_of_ble_eq_true rfl) ?_
        refine r_if_ne hX dX6_code_25 (fun h25 => absurd (bI_nz h25) (by rw [Int32.toInt_toInt64]; exact h2)) (fun h25 => ?_)
        refine r_push hX dX6_code_28 ?_
        exact r_iret hX hQ dX6_code_30 (rfl) (rfl)
  · have h1' : ¬ (d = -1 ∨ inD d (nI D)) := fun z => h1 (eD ▸ z)
    have e1 : codS D C e d σ = σ := by unfold codS; rw [if_neg (fun z => h1' z.1)]
    have e2 : codF D (fcF D C (σ.2 4) (cpN 16 (nearF e) (σ.2 33))) e d = -1000000001 := by unfold codF; rw [if_neg h1']
    rw [e1, e2] at hQ
    refine r_iload2 hX dX6_code_0 ?_
    refine r_push hX dX6_code_1 ?_
    refine r_ic_eq hX dX6_code_2 (fun h2 => absurd (Or.inl h2) h1) (fun h2 => ?_)
    refine r_aload0 hX dX6_code_5 ?_
    refine r_iload2 hX dX6_code_6 ?_
    refine r_aV1i hX dX6_code_7 kX6_isDoor (c_X6_isDoor l g _ _ _ D hD eD) ad_wM rfl (by decide) (Nat.le_of_ble_eq_true rfl) ?_
    refine r_if_ne hX dX6_code_10 (fun h10 => absurd (Or.inr (bI_nz h10)) h1) (fun h10 => ?_)
    refine r_push hX dX6_code_13 ?_
    exact r_iret hX hQ dX6_code_15 (rfl) (rfl)
