noncomputable def folC (mk : Nat → Int32) (set k : Int32) (nd d : Nat) (s : Int32 × Int32) : Int32 × Int32 := if bcF (mk d ^^^ set) = nI nd ∧ (nd = 0 ∨ ¬ k ≤ bcF s.2) then (s.1 + nI nd, s.2 ||| bit (nI d)) else s
noncomputable def folL (D : Nat) (mk : Nat → Int32) (set k : Int32) : Int32 × Int32 := lp (fun nd s => lp (folC mk set k nd) D 0 s) 5 0 (0, 0)
theorem folC_no {mk : Nat → Int32} {set k : Int32} {nd d : Nat} {a z : Int32} (h : ¬ (bcF (mk d ^^^ set) = nI nd ∧ (nd = 0 ∨ ¬ k ≤ bcF z))) : folC mk set k nd d (a, z) = (a, z) := if_neg h
theorem folC_is {mk : Nat → Int32} {set k : Int32} {nd d : Nat} {a z : Int32} (h : bcF (mk d ^^^ set) = nI nd ∧ (nd = 0 ∨ ¬ k ≤ bcF z)) : folC mk set k nd d (a, z) = (a + nI nd, z ||| bit (nI d)) := if_pos h
noncomputable def folF (D : Nat) (nC : Int32) (mk : Nat → Int32) (set k what : Int32) : Int32 := if stD set nC then (if inB k.toInt 2 14 ∧ inB what.toInt 0 1 then (if k ≤ nI D then (if what = 0 then (folL D mk set k).1 else (folL D mk set k).2) else -1) else -1000000002) else -1000000001
set_option maxHeartbeats 400000 in
theorem c_X5_fool (l : Launch) (g : GT) (x : Nat) (a : Nat → Nat → Nat) (kp : Int32) (rd : S2) (nw : S2) (i0 : S2) (i1 : S2) (fa : S2) (bo : S2) (pl : S2) (dr : S2) (t k w : Int32) (D : Nat) (hD : D ≤ 14) (eD : pl.1 0 = nI D) : Cx l g yX5_fool cX5_fool 9 (some .int) (k2_rm 1 30) [.ref (x), .int t, .int k, .int w] (wX g x a kp rd nw i0 i1 fa bo pl dr) (some (.int (folF D (pl.1 1) (nw.2 0) t k w))) (wX g x a kp rd nw i0 i1 fa bo pl dr) := by
  refine meth (own := "ChalkedDoors") (by decide) rfl (Nat.le_of_ble_eq_true rfl) [some (.ref (x)), some (.int t), some (.int k), some (.int w), none, none, none, none, none] rfl (fun X hX hQ => ?_)
  unfold folF at hQ
  generalize hsp : folL D (nw.2 0) t k = S at hQ
  unfold folL at hsp
  have hL59 : ∀ (n i : Nat) (u : Int32) (p q : Int32), u = nI i → i + n = 5 → (stD t (pl.1 1) ∧ (inB k.toInt 2 14 ∧ inB w.toInt 0 1) ∧ k ≤ nI D) → S = lp (fun nd s => lp (folC (nw.2 0) t k nd) D 0 s) n i (p, q) → vJ X 0 0 (wX g x a kp rd nw i0 i1 fa bo pl dr) 59 [some (.ref (x)), some (.int t), some (.int k), some (.int w), some (.int q), some (.int p), some (.int u), none, none] [] := by
    intro n
    induction n with
    | zero =>
      intro i u p q hx hn hA hs
      refine r_iload6 hX dX5_fool_59 ?_
      refine r_push hX dX5_fool_61 ?_
      refine r_ic_gt hX dX5_fool_62 (fun h62 => ?_) (fun h62 => absurd (lgx (e := 4) hx rfl (by omega) (by omega)) h62)
      refine r_iload3 hX dX5_fool_154 ?_
      refine r_if_ne hX dX5_fool_155 (fun h155 => ?_) (fun h155 => ?_)
      · refine r_iload4 hX dX5_fool_163 ?_
        exact r_iret hX hQ dX5_fool_165 (by rw [if_pos hA.1, if_pos hA.2.1, if_pos hA.2.2, if_neg h155, hs] <;> rfl) (rfl)
      · refine r_iload5 hX dX5_fool_158 ?_
        refine r_goto hX dX5_fool_160 ?_
        exact r_iret hX hQ dX5_fool_165 (by rw [if_pos hA.1, if_pos hA.2.1, if_pos hA.2.2, if_pos h155, hs] <;> rfl) (rfl)
    | succ n ih =>
      intro i u p q hx hn hA hs
      have hL68 : ∀ (n2 i2 : Nat) (y : Int32) (p' q' : Int32), y = nI i2 → i2 + n2 = D → lp (folC (nw.2 0) t k i) D 0 (p, q) = lp (folC (nw.2 0) t k i) n2 i2 (p', q') → vJ X 0 0 (wX g x a kp rd nw i0 i1 fa bo pl dr) 68 [some (.ref (x)), some (.int t), some (.int k), some (.int w), some (.int q'), some (.int p'), some (.int u), some (.int y), none] [] := by
        intro n2
        induction n2 with
        | zero =>
          intro i2 y p' q' hx2 hn2 hT
          refine r_iload7 hX dX5_fool_68 ?_
          refine r_aload0 hX dX5_fool_70 ?_
          refine g_wX_0_6 hX dX5_fool_71 ?_
          refine g_wX_19_0 hX dX5_fool_74 ?_
          refine r_ic_ge hX dX5_fool_77 (fun h77 => ?_) (fun h77 => absurd (lpx (e := D) hx2 eD (by omega) (by omega) (by omega)) h77)
          refine r_iinc6 hX dX5_fool_148 rfl ?_
          refine r_goto hX dX5_fool_151 ?_
          refine r_fg7 ?_
          exact ih (i + 1) _ _ _ (by rw [hx]; exact nI_1 i) (by omega) hA (by rw [hs]; show lp _ n (i + 1) (lp (folC _ _ _ i) D 0 (p, q)) = _; rw [hT]; rfl)
        | succ n2 ih2 =>
          intro i2 y p' q' hx2 hn2 hT
          have hcy : y.toNatClampNeg = i2 := by rw [hx2]; exact nI_clamp (by omega)
          refine r_iload7 hX dX5_fool_68 ?_
          refine r_aload0 hX dX5_fool_70 ?_
          refine g_wX_0_6 hX dX5_fool_71 ?_
          refine g_wX_19_0 hX dX5_fool_74 ?_
          refine r_ic_ge hX dX5_fool_77 (fun h77 => absurd h77 (lpn (e := D) hx2 eD (by omega) (by omega))) (fun h77 => ?_)
          refine r_iload6 hX dX5_fool_80 ?_
          refine r_if_eq hX dX5_fool_82 (fun h82 => ?_) (fun h82 => ?_)
          · refine r_push hX dX5_fool_94 ?_
            refine r_goto hX dX5_fool_95 ?_
            refine r_istore8 hX dX5_fool_99 rfl ?_
            refine r_iload8 hX dX5_fool_101 ?_
            refine r_if_eq hX dX5_fool_103 (fun h103 => absurd h103 (by decide)) (fun h103 => ?_)
            refine r_aload0 hX dX5_fool_106 ?_
            refine g_wX_0_1 hX dX5_fool_107 ?_
            refine g_wX_3_0 hX dX5_fool_110 ?_
            refine r_iload7 hX dX5_fool_113 ?_
            refine l_wX_4 hX dX5_fool_115 (by rw [hx2]; exact vp_in_nI (by omega) (by omega)) ?_
            refine r_iload1 hX dX5_fool_116 ?_
            refine r_ixor hX dX5_fool_117 ?_
            refine r_nS1i hX dX5_fool_118 kJ6_bitCount_0f7a4 (c_bitCount l g _) (by decide) (Nat.le_of_ble_eq_true rfl) ?_
            refine r_iload6 hX dX5_fool_121 ?_
            refine r_ic_ne hX dX5_fool_123 (fun h123 => ?_) (fun h123 => ?_)
            · refine r_iinc7 hX dX5_fool_142 rfl ?_
              refine r_goto hX dX5_fool_145 ?_
              refine r_fg8 ?_
              exact ih2 (i2 + 1) _ _ _ (by rw [hx2]; exact nI_1 i2) (by omega) (by rw [hT]; show lp _ n2 (i2 + 1) (folC _ _ _ _ i2 (p', q')) = _; rw [folC_no (fun h => h123 (by rw [hcy, hx]; exact h.1))])
            · refine r_iload4 hX dX5_fool_126 ?_
              refine r_push hX dX5_fool_128 ?_
              refine r_iload7 hX dX5_fool_129 ?_
              refine r_ishl hX dX5_fool_131 ?_
              refine r_ior hX dX5_fool_132 ?_
              refine r_istore4 hX dX5_fool_133 rfl ?_
              refine r_iload5 hX dX5_fool_135 ?_
              refine r_iload6 hX dX5_fool_137 ?_
              refine r_iadd hX dX5_fool_139 ?_
              refine r_istore5 hX dX5_fool_140 rfl ?_
              refine r_iinc7 hX dX5_fool_142 rfl ?_
              refine r_goto hX dX5_fool_145 ?_
              refine r_fg8 ?_
              exact ih2 (i2 + 1) _ _ _ (by rw [hx2]; exact nI_1 i2) (by omega) (by rw [hT]; show lp _ n2 (i2 + 1) (folC _ _ _ _ i2 (p', q')) = _; rw [folC_is ⟨by rw [← hcy, ← hx]; exact h123, Or.inl (nI_inj0 (by omega) (by decide) (hx.symm.trans h82))⟩, ← hx, ← hx2])
          · refine r_iload4 hX dX5_fool_85 ?_
            refine r_nS1i hX dX5_fool_87 kJ6_bitCount_0f7a4 (c_bitCount l g _) (by decide) (Nat.le_of_ble_eq_true rfl) ?_
            refine r_iload2 hX dX5_fool_90 ?_
            refine r_ic_ge hX dX5_fool_91 (fun h91 => ?_) (fun h91 => ?_)
            · refine r_push hX dX5_fool_98 ?_
              refine r_istore8 hX dX5_fool_99 rfl ?_
              refine r_iload8 hX dX5_fool_101 ?_
              refine r_if_eq hX dX5_fool_103 (fun h103 => ?_) (fun h103 => absurd h103 (by decide))
              refine r_iinc7 hX dX5_fool_142 rfl ?_
              refine r_goto hX dX5_fool_145 ?_
              refine r_fg8 ?_
              exact ih2 (i2 + 1) _ _ _ (by rw [hx2]; exact nI_1 i2) (by omega) (by rw [hT]; show lp _ n2 (i2 + 1) (folC _ _ _ _ i2 (p', q')) = _; rw [folC_no (fun h => h.2.elim (fun e => h82 (by rw [hx, e]; rfl)) (fun e => e h91))])
            · refine r_push hX dX5_fool_94 ?_
              refine r_goto hX dX5_fool_95 ?_
              refine r_istore8 hX dX5_fool_99 rfl ?_
              refine r_iload8 hX dX5_fool_101 ?_
              refine r_if_eq hX dX5_fool_103 (fun h103 => absurd h103 (by decide)) (fun h103 => ?_)
              refine r_aload0 hX dX5_fool_106 ?_
              refine g_wX_0_1 hX dX5_fool_107 ?_
              refine g_wX_3_0 hX dX5_fool_110 ?_
              refine r_iload7 hX dX5_fool_113 ?_
              refine l_wX_4 hX dX5_fool_115 (by rw [hx2]; exact vp_in_nI (by omega) (by omega)) ?_
              refine r_iload1 hX dX5_fool_116 ?_
              refine r_ixor hX dX5_fool_117 ?_
              refine r_nS1i hX dX5_fool_118 kJ6_bitCount_0f7a4 (c_bitCount l g _) (by decide) (Nat.le_of_ble_eq_true rfl) ?_
              refine r_iload6 hX dX5_fool_121 ?_
              refine r_ic_ne hX dX5_fool_123 (fun h123 => ?_) (fun h123 => ?_)
              · refine r_iinc7 hX dX5_fool_142 rfl ?_
                refine r_goto hX dX5_fool_145 ?_
                refine r_fg8 ?_
                exact ih2 (i2 + 1) _ _ _ (by rw [hx2]; exact nI_1 i2) (by omega) (by rw [hT]; show lp _ n2 (i2 + 1) (folC _ _ _ _ i2 (p', q')) = _; rw [folC_no (fun h => h123 (by rw [hcy, hx]; exact h.1))])
              · refine r_iload4 hX dX5_fool_126 ?_
                refine r_push hX dX5_fool_128 ?_
                refine r_iload7 hX dX5_fool_129 ?_
                refine r_ishl hX dX5_fool_131 ?_
                refine r_ior hX dX5_fool_132 ?_
                refine r_istore4 hX dX5_fool_133 rfl ?_
                refine r_iload5 hX dX5_fool_135 ?_
                refine r_iload6 hX dX5_fool_137 ?_
                refine r_iadd hX dX5_fool_139 ?_
                refine r_istore5 hX dX5_fool_140 rfl ?_
                refine r_iinc7 hX dX5_fool_142 rfl ?_
                refine r_goto hX dX5_fool_145 ?_
                refine r_fg8 ?_
                exact ih2 (i2 + 1) _ _ _ (by rw [hx2]; exact nI_1 i2) (by omega) (by rw [hT]; show lp _ n2 (i2 + 1) (folC _ _ _ _ i2 (p', q')) = _; rw [folC_is ⟨by rw [← hcy, ← hx]; exact h123, Or.inr h91⟩, ← hx, ← hx2])
      refine r_iload6 hX dX5_fool_59 ?_
      refine r_push hX dX5_fool_61 ?_
      refine r_ic_gt hX dX5_fool_62 (fun h62 => absurd h62 (lgn (e := 4) hx rfl (by decide) (by omega))) (fun h62 => ?_)
      refine r_push hX dX5_fool_65 ?_
      refine r_istore7 hX dX5_fool_66 rfl ?_
      exact hL68 D 0 _ p q rfl (by omega) rfl
  refine r_aload0 hX dX5_fool_0 ?_
  refine g_wX_0_6 hX dX5_fool_1 ?_
  refine r_iload1 hX dX5_fool_4 ?_
  refine r_cV1i hX dX5_fool_5 kX2_hasChalksOf fr_wX_wP_19_24 (c_X2_hasChalksOf l g _ _ _) rfl (by decide) (Nat.le_of_ble_eq_true rfl) ?_
  refine r_if_ne hX dX5_fool_8 (fun h8 => ?_) (fun h8 => ?_)
  · refine r_iload2 hX dX5_fool_14 ?_
    refine r_push hX dX5_fool_15 ?_
    refine r_ic_lt hX dX5_fool_16 (fun h16 => ?_) (fun h16 => ?_)
    · refine r_push hX dX5_fool_34 ?_
      exact r_iret hX hQ dX5_fool_36 (by rw [if_pos (bI_nz h8), if_neg (show ¬ (inB k.toInt 2 14 ∧ inB w.toInt 0 1) from fun q => inB_no1 h16 rfl q.1)]) (rfl)
    · refine r_iload2 hX dX5_fool_19 ?_
      refine r_push hX dX5_fool_20 ?_
      refine r_ic_gt hX dX5_fool_22 (fun h22 => ?_) (fun h22 => ?_)
      · refine r_push hX dX5_fool_34 ?_
        exact r_iret hX hQ dX5_fool_36 (by rw [if_pos (bI_nz h8), if_neg (show ¬ (inB k.toInt 2 14 ∧ inB w.toInt 0 1) from fun q => inB_no2 (nle_of_lt h22) rfl q.1)]) (rfl)
      · refine r_iload3 hX dX5_fool_25 ?_
        refine r_if_lt hX dX5_fool_26 (fun h26 => ?_) (fun h26 => ?_)
        · refine r_push hX dX5_fool_34 ?_
          exact r_iret hX hQ dX5_fool_36 (by rw [if_pos (bI_nz h8), if_neg (show ¬ (inB k.toInt 2 14 ∧ inB w.toInt 0 1) from fun q => inB_no1 h26 rfl q.2)]) (rfl)
        · refine r_iload3 hX dX5_fool_29 ?_
          refine r_push hX dX5_fool_30 ?_
          refine r_ic_le hX dX5_fool_31 (fun h31 => ?_) (fun h31 => ?_)
          · refine r_aload0 hX dX5_fool_37 ?_
            refine g_wX_0_6 hX dX5_fool_38 ?_
            refine g_wX_19_0 hX dX5_fool_41 ?_
            refine r_iload2 hX dX5_fool_44 ?_
            refine r_ic_ge hX dX5_fool_45 (fun h45 => ?_) (fun h45 => ?_)
            · refine r_push hX dX5_fool_50 ?_
              refine r_istore4 hX dX5_fool_51 rfl ?_
              refine r_push hX dX5_fool_53 ?_
              refine r_istore5 hX dX5_fool_54 rfl ?_
              refine r_push hX dX5_fool_56 ?_
              refine r_istore6 hX dX5_fool_57 rfl ?_
              exact hL59 5 0 _ _ _ rfl (by omega) ⟨bI_nz h8, ⟨inB_yes h16 (le_of_nlt h22) rfl rfl, inB_yes h26 h31 rfl rfl⟩, eD ▸ h45⟩ hsp.symm
            · refine r_push hX dX5_fool_48 ?_
              exact r_iret hX hQ dX5_fool_49 (by rw [if_pos (bI_nz h8), if_pos (⟨inB_yes h16 (le_of_nlt h22) rfl rfl, inB_yes h26 h31 rfl rfl⟩ : inB k.toInt 2 14 ∧ inB w.toInt 0 1), if_neg (show ¬ k ≤ nI D from eD ▸ h45)]) (rfl)
          · refine r_push hX dX5_fool_34 ?_
            exact r_iret hX hQ dX5_fool_36 (by rw [if_pos (bI_nz h8), if_neg (show ¬ (inB k.toInt 2 14 ∧ inB w.toInt 0 1) from fun q => inB_no2 h31 rfl q.2)]) (rfl)
  · refine r_push hX dX5_fool_11 ?_
    exact r_iret hX hQ dX5_fool_13 (by rw [if_neg (bI_z h8)]) (rfl)
