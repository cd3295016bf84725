theorem l_wM_14 {X : CT} {l : Launch} {g : GT} {own : String} {cc : ByteArray} {R : Room} {cs sl pc nx : Nat} {lv : List (Option Value)} {st : List Value} {b : Nat → Nat} {σ : S2} {i : Int32} (hX : oK X l g own cc R) (hd : dR cc pc (.iaload) 1 nx) (hi : vp_in i 2) (k : vJ X cs sl (wM g b σ) nx lv (.int (σ.2 30 i.toNatClampNeg) :: st)) : vJ X cs sl (wM g b σ) pc lv (.int i :: .ref (b 14) :: st) := r_iald hX hd 14 rfl hi k
theorem g_wM_0_28 {X : CT} {l : Launch} {g : GT} {own : String} {cc : ByteArray} {R : Room} {cs sl pc nx : Nat} {lv : List (Option Value)} {st : List Value} {b : Nat → Nat} {σ : S2} (hX : oK X l g own cc R) (hd : dGf own cc pc 6 28 nx) (k : vJ X cs sl (wM g b σ) nx lv (.int (σ.1 28) :: st)) : vJ X cs sl (wM g b σ) pc lv (.ref (b 0) :: st) := r_get hX hd 0 rfl rfl k
set_option maxHeartbeats 400000 in
theorem c_X6_takeClause (l : Launch) (g : GT) (b : Nat → Nat) (σ : S2)  (hp : PI σ) (D : Nat) (hD : D ≤ 14) (eD : σ.1 20 = nI D) (C : Nat) (hC : C ≤ 4) (eC : σ.1 21 = nI C) : Cx l g yX6_takeClause cX6_takeClause 5 (some .int) (k2_rm 4 120) [.ref (b 0)] (wM g b σ) (some (.int (mCla σ).1)) (wM g b (mCla σ).2) := by
  refine meth (own := "ChalkedDoorsModel") (by decide) rfl (Nat.le_of_ble_eq_true rfl) [some (.ref (b 0)), none, none, none, none] rfl (fun X hX hQ => ?_)
  refine r_aload0 hX dX6_takeClause_0 ?_
  refine r_aV0i hX dX6_takeClause_1 kX6_here (c_X6_here l g _ _ hp) ad_wM rfl (by decide) (Nat.le_of_ble_eq_true rfl) ?_
  refine r_istore1 hX dX6_takeClause_4 rfl ?_
  refine r_iload1 hX dX6_takeClause_5 ?_
  refine r_push hX dX6_takeClause_6 ?_
  refine r_ic_ne hX dX6_takeClause_8 (fun h8 => ?_) (fun h8 => ?_)
  · refine r_iload1 hX dX6_takeClause_15 ?_
    refine r_push hX dX6_takeClause_16 ?_
    refine r_ic_ne hX dX6_takeClause_18 (fun h18 => ?_) (fun h18 => ?_)
    · refine r_iload1 hX dX6_takeClause_25 ?_
      refine r_push hX dX6_takeClause_26 ?_
      refine r_ic_ne hX dX6_takeClause_28 (fun h28 => ?_) (fun h28 => ?_)
      · refine r_iload1 hX dX6_takeClause_35 ?_
        refine r_push hX dX6_takeClause_36 ?_
        refine r_ic_ne hX dX6_takeClause_38 (fun h38 => ?_) (fun h38 => ?_)
        · refine r_iload1 hX dX6_takeClause_45 ?_
          refine r_push hX dX6_takeClause_46 ?_
          refine r_ic_ne hX dX6_takeClause_48 (fun h48 => ?_) (fun h48 => ?_)
          · refine r_push hX dX6_takeClause_55 ?_
            refine r_istore2 hX dX6_takeClause_56 rfl ?_
            refine r_iload2 hX dX6_takeClause_57 ?_
            refine r_if_lt hX dX6_takeClause_58 (fun h58 => ?_) (fun h58 => absurd h58 (by decide))
            refine r_aload0 hX dX6_takeClause_72 ?_
            refine r_push hX dX6_takeClause_73 ?_
            refine r_aload0 hX dX6_takeClause_74 ?_
            refine g_wM_0_17 hX dX6_takeClause_75 ?_
            refine r_aV2i hX dX6_takeClause_78 kX6_fails (c_X6_fails l g _ _ _ _) ad_wM rfl (by decide) (Nat.le_of_ble_eq_true rfl) ?_
            exact r_iret hX hQ dX6_takeClause_81 (by unfold mCla mCl1; rw [if_neg h8, if_neg h18, if_neg h28, if_neg h38, if_neg h48] <;> rfl) (by unfold mCla mCl1; rw [if_neg h8, if_neg h18, if_neg h28, if_neg h38, if_neg h48] <;> rfl)
          · refine r_push hX dX6_takeClause_51 ?_
            refine r_goto hX dX6_takeClause_52 ?_
            refine r_istore2 hX dX6_takeClause_56 rfl ?_
            refine r_iload2 hX dX6_takeClause_57 ?_
            refine r_if_lt hX dX6_takeClause_58 (fun h58 => absurd h58 (by decide)) (fun h58 => ?_)
            refine r_iload2 hX dX6_takeClause_61 ?_
            refine r_if_le hX dX6_takeClause_62 (fun h62 => absurd h62 (by decide)) (fun h62 => ?_)
            refine r_aload0 hX dX6_takeClause_65 ?_
            refine g_wM_0_20 hX dX6_takeClause_66 ?_
            refine r_if_ne hX dX6_takeClause_69 (fun h69 => ?_) (fun h69 => ?_)
            · refine r_iload2 hX dX6_takeClause_82 ?_
              refine r_if_ne hX dX6_takeClause_83 (fun h83 => ?_) (fun h83 => absurd h83 (by decide))
              refine r_iload2 hX dX6_takeClause_101 ?_
              refine r_push hX dX6_takeClause_102 ?_
              refine r_ic_ne hX dX6_takeClause_103 (fun h103 => ?_) (fun h103 => absurd h103 (by decide))
              refine r_iload2 hX dX6_takeClause_122 ?_
              refine r_push hX dX6_takeClause_123 ?_
              refine r_ic_ne hX dX6_takeClause_124 (fun h124 => ?_) (fun h124 => absurd h124 (by decide))
              refine r_iload2 hX dX6_takeClause_134 ?_
              refine r_push hX dX6_takeClause_135 ?_
              refine r_ic_ne hX dX6_takeClause_136 (fun h136 => absurd h136 (by decide)) (fun h136 => ?_)
              refine r_aload0 hX dX6_takeClause_139 ?_
              refine g_wM_0_30 hX dX6_takeClause_140 ?_
              refine r_push hX dX6_takeClause_143 ?_
              refine l_wM_14 hX dX6_takeClause_144 (vp_in_nI (n := 0) (by decide) (by decide)) ?_
              refine r_if_le hX dX6_takeClause_145 (fun h145 => ?_) (fun h145 => ?_)
              · refine r_push hX dX6_takeClause_152 ?_
                refine r_istore3 hX dX6_takeClause_153 rfl ?_
                refine r_iload3 hX dX6_takeClause_154 ?_
                refine r_if_eq hX dX6_takeClause_155 (fun h155 => ?_) (fun h155 => absurd h155 (by decide))
                refine r_aload0 hX dX6_takeClause_168 ?_
                refine r_dup hX dX6_takeClause_169 rfl ?_
                refine g_wM_0_17 hX dX6_takeClause_170 ?_
                refine r_push hX dX6_takeClause_173 ?_
                refine r_iadd hX dX6_takeClause_174 ?_
                refine p_wM_0_17 hX dX6_takeClause_175 ?_
                refine r_iload2 hX dX6_takeClause_178 ?_
                refine r_if_ne hX dX6_takeClause_179 (fun h179 => ?_) (fun h179 => absurd h179 (by decide))
                refine r_iload2 hX dX6_takeClause_189 ?_
                refine r_push hX dX6_takeClause_190 ?_
                refine r_ic_ne hX dX6_takeClause_191 (fun h191 => ?_) (fun h191 => absurd h191 (by decide))
                refine r_iload2 hX dX6_takeClause_201 ?_
                refine r_push hX dX6_takeClause_202 ?_
                refine r_ic_ne hX dX6_takeClause_203 (fun h203 => ?_) (fun h203 => absurd h203 (by decide))
                refine r_iload2 hX dX6_takeClause_213 ?_
                refine r_push hX dX6_takeClause_214 ?_
                refine r_ic_ne hX dX6_takeClause_215 (fun h215 => ?_) (fun h215 => absurd h215 (by decide))
                refine r_aload0 hX dX6_takeClause_225 ?_
                refine r_aV0i hX dX6_takeClause_226 kX6_takeWatch (c_X6_takeWatch l g _ _ (by exact mStep_PI hp (by rw [h48]; decide))) ad_wM rfl (by decide) (Nat.le_of_ble_eq_true rfl) ?_
                refine r_istore4 hX dX6_takeClause_229 rfl ?_
                refine r_iload4 hX dX6_takeClause_231 ?_
                refine r_if_ne hX dX6_takeClause_233 (fun h233 => ?_) (fun h233 => ?_)
                · refine r_aload0 hX dX6_takeClause_255 ?_
                  refine r_dup hX dX6_takeClause_256 rfl ?_
                  refine g_wM_0_17 hX dX6_takeClause_257 ?_
                  refine r_push hX dX6_takeClause_260 ?_
                  refine r_iadd hX dX6_takeClause_261 ?_
                  refine p_wM_0_17 hX dX6_takeClause_262 ?_
                  refine r_iload4 hX dX6_takeClause_265 ?_
                  exact r_iret hX hQ dX6_takeClause_267 (by unfold mCla mCl1; rw [if_neg h8, if_neg h18, if_neg h28, if_neg h38, if_pos h48, if_neg h69]; unfold mGo; rw [if_neg (show ¬ 0 < (mHere σ).2.2 30 0 from nlt_of_le h145)]; unfold mEnd; rw [if_neg h233] <;> rfl) (by unfold mCla mCl1; rw [if_neg h8, if_neg h18, if_neg h28, if_neg h38, if_pos h48, if_neg h69]; unfold mGo; rw [if_neg (show ¬ 0 < (mHere σ).2.2 30 0 from nlt_of_le h145)]; unfold mEnd; rw [if_neg h233] <;> rfl)
                · refine r_aload0 hX dX6_takeClause_236 ?_
                  refine r_aV0i hX dX6_takeClause_237 kX6_here (c_X6_here l g _ _ (adv_Wat (mStep_PI hp (by rw [h48]; decide))).1) ad_wM rfl (by decide) (Nat.le_of_ble_eq_true rfl) ?_
                  refine r_push hX dX6_takeClause_240 ?_
                  refine r_ic_eq hX dX6_takeClause_242 (fun h242 => ?_) (fun h242 => ?_)
                  · refine r_aload0 hX dX6_takeClause_255 ?_
                    refine r_dup hX dX6_takeClause_256 rfl ?_
                    refine g_wM_0_17 hX dX6_takeClause_257 ?_
                    refine r_push hX dX6_takeClause_260 ?_
                    refine r_iadd hX dX6_takeClause_261 ?_
                    refine p_wM_0_17 hX dX6_takeClause_262 ?_
                    refine r_iload4 hX dX6_takeClause_265 ?_
                    exact r_iret hX hQ dX6_takeClause_267 (by unfold mCla mCl1; rw [if_neg h8, if_neg h18, if_neg h28, if_neg h38, if_pos h48, if_neg h69]; unfold mGo; rw [if_neg (show ¬ 0 < (mHere σ).2.2 30 0 from nlt_of_le h145)]; unfold mEnd; rw [if_pos h233, if_pos h242]; show some (Value.int _) = some (Value.int 0); rw [h233]) (by unfold mCla mCl1; rw [if_neg h8, if_neg h18, if_neg h28, if_neg h38, if_pos h48, if_neg h69]; unfold mGo; rw [if_neg (show ¬ 0 < (mHere σ).2.2 30 0 from nlt_of_le h145)]; unfold mEnd; rw [if_pos h233, if_pos h242] <;> rfl)
                  · refine r_aload0 hX dX6_takeClause_245 ?_
                    refine r_push hX dX6_takeClause_246 ?_
                    refine r_aload0 hX dX6_takeClause_247 ?_
                    refine g_wM_0_17 hX dX6_takeClause_248 ?_
                    refine r_aV2i hX dX6_takeClause_251 kX6_fails (c_X6_fails l g _ _ _ _) ad_wM rfl (by decide) (Nat.le_of_ble_eq_true rfl) ?_
                    exact r_iret hX hQ dX6_takeClause_254 (by unfold mCla mCl1; rw [if_neg h8, if_neg h18, if_neg h28, if_neg h38, if_pos h48, if_neg h69]; unfold mGo; rw [if_neg (show ¬ 0 < (mHere σ).2.2 30 0 from nlt_of_le h145)]; unfold mEnd; rw [if_pos h233, if_neg h242] <;> rfl) (by unfold mCla mCl1; rw [if_neg h8, if_neg h18, if_neg h28, if_neg h38, if_pos h48, if_neg h69]; unfold mGo; rw [if_neg (show ¬ 0 < (mHere σ).2.2 30 0 from nlt_of_le h145)]; unfold mEnd; rw [if_pos h233, if_neg h242] <;> rfl)
              · refine r_push hX dX6_takeClause_148 ?_
                refine r_goto hX dX6_takeClause_149 ?_
                refine r_istore3 hX dX6_takeClause_153 rfl ?_
                refine r_iload3 hX dX6_takeClause_154 ?_
                refine r_if_eq hX dX6_takeClause_155 (fun h155 => absurd h155 (by decide)) (fun h155 => ?_)
                refine r_aload0 hX dX6_takeClause_158 ?_
                refine r_push hX dX6_takeClause_159 ?_
                refine r_aload0 hX dX6_takeClause_160 ?_
                refine g_wM_0_17 hX dX6_takeClause_161 ?_
                refine r_aV2i hX dX6_takeClause_164 kX6_fails (c_X6_fails l g _ _ _ _) ad_wM rfl (by decide) (Nat.le_of_ble_eq_true rfl) ?_
                exact r_iret hX hQ dX6_takeClause_167 (by unfold mCla mCl1; rw [if_neg h8, if_neg h18, if_neg h28, if_neg h38, if_pos h48, if_neg h69]; unfold mGo; rw [if_pos (show 0 < (mHere σ).2.2 30 0 from lt_of_nle h145)] <;> rfl) (by unfold mCla mCl1; rw [if_neg h8, if_neg h18, if_neg h28, if_neg h38, if_pos h48, if_neg h69]; unfold mGo; rw [if_pos (show 0 < (mHere σ).2.2 30 0 from lt_of_nle h145)] <;> rfl)
            · refine r_aload0 hX dX6_takeClause_72 ?_
              refine r_push hX dX6_takeClause_73 ?_
              refine r_aload0 hX dX6_takeClause_74 ?_
              refine g_wM_0_17 hX dX6_takeClause_75 ?_
              refine r_aV2i hX dX6_takeClause_78 kX6_fails (c_X6_fails l g _ _ _ _) ad_wM rfl (by decide) (Nat.le_of_ble_eq_true rfl) ?_
              exact r_iret hX hQ dX6_takeClause_81 (by unfold mCla mCl1; rw [if_neg h8, if_neg h18, if_neg h28, if_neg h38, if_pos h48, if_pos h69] <;> rfl) (by unfold mCla mCl1; rw [if_neg h8, if_neg h18, if_neg h28, if_neg h38, if_pos h48, if_pos h69] <;> rfl)
        · refine r_push hX dX6_takeClause_41 ?_
          refine r_goto hX dX6_takeClause_42 ?_
          refine r_istore2 hX dX6_takeClause_56 rfl ?_
          refine r_iload2 hX dX6_takeClause_57 ?_
          refine r_if_lt hX dX6_takeClause_58 (fun h58 => absurd h58 (by decide)) (fun h58 => ?_)
          refine r_iload2 hX dX6_takeClause_61 ?_
          refine r_if_le hX dX6_takeClause_62 (fun h62 => absurd h62 (by decide)) (fun h62 => ?_)
          refine r_aload0 hX dX6_takeClause_65 ?_
          refine g_wM_0_20 hX dX6_takeClause_66 ?_
          refine r_if_ne hX dX6_takeClause_69 (fun h69 => ?_) (fun h69 => ?_)
          · refine r_iload2 hX dX6_takeClause_82 ?_
            refine r_if_ne hX dX6_takeClause_83 (fun h83 => ?_) (fun h83 => absurd h83 (by decide))
            refine r_iload2 hX dX6_takeClause_101 ?_
            refine r_push hX dX6_takeClause_102 ?_
            refine r_ic_ne hX dX6_takeClause_103 (fun h103 => ?_) (fun h103 => absurd h103 (by decide))
            refine r_iload2 hX dX6_takeClause_122 ?_
            refine r_push hX dX6_takeClause_123 ?_
            refine r_ic_ne hX dX6_takeClause_124 (fun h124 => absurd h124 (by decide)) (fun h124 => ?_)
            refine r_aload0 hX dX6_takeClause_127 ?_
            refine g_wM_0_28 hX dX6_takeClause_128 ?_
            refine r_goto hX dX6_takeClause_131 ?_
            refine r_istore3 hX dX6_takeClause_153 rfl ?_
            refine r_iload3 hX dX6_takeClause_154 ?_
            refine r_if_eq hX dX6_takeClause_155 (fun h155 => ?_) (fun h155 => ?_)
            · refine r_aload0 hX dX6_takeClause_168 ?_
              refine r_dup hX dX6_takeClause_169 rfl ?_
              refine g_wM_0_17 hX dX6_takeClause_170 ?_
              refine r_push hX dX6_takeClause_173 ?_
              refine r_iadd hX dX6_takeClause_174 ?_
              refine p_wM_0_17 hX dX6_takeClause_175 ?_
              refine r_iload2 hX dX6_takeClause_178 ?_
              refine r_if_ne hX dX6_takeClause_179 (fun h179 => ?_) (fun h179 => absurd h179 (by decide))
              refine r_iload2 hX dX6_takeClause_189 ?_
              refine r_push hX dX6_takeClause_190 ?_
              refine r_ic_ne hX dX6_takeClause_191 (fun h191 => ?_) (fun h191 => absurd h191 (by decide))
              refine r_iload2 hX dX6_takeClause_201 ?_
              refine r_push hX dX6_takeClause_202 ?_
              refine r_ic_ne hX dX6_takeClause_203 (fun h203 => ?_) (fun h203 => absurd h203 (by decide))
              refine r_iload2 hX dX6_takeClause_213 ?_
              refine r_push hX dX6_takeClause_214 ?_
              refine r_ic_ne hX dX6_takeClause_215 (fun h215 => absurd h215 (by decide)) (fun h215 => ?_)
              refine r_aload0 hX dX6_takeClause_218 ?_
              refine r_aV0i hX dX6_takeClause_219 kX6_takeRain (c_X6_takeRain l g _ _ (by exact mStep_PI hp (by rw [h38]; decide))) ad_wM rfl (by decide) (Nat.le_of_ble_eq_true rfl) ?_
              refine r_goto hX dX6_takeClause_222 ?_
              refine r_istore4 hX dX6_takeClause_229 rfl ?_
              refine r_iload4 hX dX6_takeClause_231 ?_
              refine r_if_ne hX dX6_takeClause_233 (fun h233 => ?_) (fun h233 => ?_)
              · refine r_aload0 hX dX6_takeClause_255 ?_
                refine r_dup hX dX6_takeClause_256 rfl ?_
                refine g_wM_0_17 hX dX6_takeClause_257 ?_
                refine r_push hX dX6_takeClause_260 ?_
                refine r_iadd hX dX6_takeClause_261 ?_
                refine p_wM_0_17 hX dX6_takeClause_262 ?_
                refine r_iload4 hX dX6_takeClause_265 ?_
                exact r_iret hX hQ dX6_takeClause_267 (by unfold mCla mCl1; rw [if_neg h8, if_neg h18, if_neg h28, if_pos h38, if_neg h69]; unfold mGo; rw [if_neg (fun z => z h155)]; unfold mEnd; rw [if_neg h233] <;> rfl) (by unfold mCla mCl1; rw [if_neg h8, if_neg h18, if_neg h28, if_pos h38, if_neg h69]; unfold mGo; rw [if_neg (fun z => z h155)]; unfold mEnd; rw [if_neg h233] <;> rfl)
              · refine r_aload0 hX dX6_takeClause_236 ?_
                refine r_aV0i hX dX6_takeClause_237 kX6_here (c_X6_here l g _ _ (adv_Rai (mStep_PI hp (by rw [h38]; decide))).1) ad_wM rfl (by decide) (Nat.le_of_ble_eq_true rfl) ?_
                refine r_push hX dX6_takeClause_240 ?_
                refine r_ic_eq hX dX6_takeClause_242 (fun h242 => ?_) (fun h242 => ?_)
                · refine r_aload0 hX dX6_takeClause_255 ?_
                  refine r_dup hX dX6_takeClause_256 rfl ?_
                  refine g_wM_0_17 hX dX6_takeClause_257 ?_
                  refine r_push hX dX6_takeClause_260 ?_
                  refine r_iadd hX dX6_takeClause_261 ?_
                  refine p_wM_0_17 hX dX6_takeClause_262 ?_
                  refine r_iload4 hX dX6_takeClause_265 ?_
                  exact r_iret hX hQ dX6_takeClause_267 (by unfold mCla mCl1; rw [if_neg h8, if_neg h18, if_neg h28, if_pos h38, if_neg h69]; unfold mGo; rw [if_neg (fun z => z h155)]; unfold mEnd; rw [if_pos h233, if_pos h242]; show some (Value.int _) = some (Value.int 0); rw [h233]) (by unfold mCla mCl1; rw [if_neg h8, if_neg h18, if_neg h28, if_pos h38, if_neg h69]; unfold mGo; rw [if_neg (fun z => z h155)]; unfold mEnd; rw [if_pos h233, if_pos h242] <;> rfl)
                · refine r_aload0 hX dX6_takeClause_245 ?_
                  refine r_push hX dX6_takeClause_246 ?_
                  refine r_aload0 hX dX6_takeClause_247 ?_
                  refine g_wM_0_17 hX dX6_takeClause_248 ?_
                  refine r_aV2i hX dX6_takeClause_251 kX6_fails (c_X6_fails l g _ _ _ _) ad_wM rfl (by decide) (Nat.le_of_ble_eq_true rfl) ?_
                  exact r_iret hX hQ dX6_takeClause_254 (by unfold mCla mCl1; rw [if_neg h8, if_neg h18, if_neg h28, if_pos h38, if_neg h69]; unfold mGo; rw [if_neg (fun z => z h155)]; unfold mEnd; rw [if_pos h233, if_neg h242] <;> rfl) (by unfold mCla mCl1; rw [if_neg h8, if_neg h18, if_neg h28, if_pos h38, if_neg h69]; unfold mGo; rw [if_neg (fun z => z h155)]; unfold mEnd; rw [if_pos h233, if_neg h242] <;> rfl)
            · refine r_aload0 hX dX6_takeClause_158 ?_
              refine r_push hX dX6_takeClause_159 ?_
              refine r_aload0 hX dX6_takeClause_160 ?_
              refine g_wM_0_17 hX dX6_takeClause_161 ?_
              refine r_aV2i hX dX6_takeClause_164 kX6_fails (c_X6_fails l g _ _ _ _) ad_wM rfl (by decide) (Nat.le_of_ble_eq_true rfl) ?_
              exact r_iret hX hQ dX6_takeClause_167 (by unfold mCla mCl1; rw [if_neg h8, if_neg h18, if_neg h28, if_pos h38, if_neg h69]; unfold mGo; rw [if_pos h155] <;> rfl) (by unfold mCla mCl1; rw [if_neg h8, if_neg h18, if_neg h28, if_pos h38, if_neg h69]; unfold mGo; rw [if_pos h155] <;> rfl)
          · refine r_aload0 hX dX6_takeClause_72 ?_
            refine r_push hX dX6_takeClause_73 ?_
            refine r_aload0 hX dX6_takeClause_74 ?_
            refine g_wM_0_17 hX dX6_takeClause_75 ?_
            refine r_aV2i hX dX6_takeClause_78 kX6_fails (c_X6_fails l g _ _ _ _) ad_wM rfl (by decide) (Nat.le_of_ble_eq_true rfl) ?_
            exact r_iret hX hQ dX6_takeClause_81 (by unfold mCla mCl1; rw [if_neg h8, if_neg h18, if_neg h28, if_pos h38, if_pos h69] <;> rfl) (by unfold mCla mCl1; rw [if_neg h8, if_neg h18, if_neg h28, if_pos h38, if_pos h69] <;> rfl)
      · refine r_push hX dX6_takeClause_31 ?_
        refine r_goto hX dX6_takeClause_32 ?_
        refine r_istore2 hX dX6_takeClause_56 rfl ?_
        refine r_iload2 hX dX6_takeClause_57 ?_
        refine r_if_lt hX dX6_takeClause_58 (fun h58 => absurd h58 (by decide)) (fun h58 => ?_)
        refine r_iload2 hX dX6_takeClause_61 ?_
        refine r_if_le hX dX6_takeClause_62 (fun h62 => absurd h62 (by decide)) (fun h62 => ?_)
        refine r_aload0 hX dX6_takeClause_65 ?_
        refine g_wM_0_20 hX dX6_takeClause_66 ?_
        refine r_if_ne hX dX6_takeClause_69 (fun h69 => ?_) (fun h69 => ?_)
        · refine r_iload2 hX dX6_takeClause_82 ?_
          refine r_if_ne hX dX6_takeClause_83 (fun h83 => ?_) (fun h83 => absurd h83 (by decide))
          refine r_iload2 hX dX6_takeClause_101 ?_
          refine r_push hX dX6_takeClause_102 ?_
          refine r_ic_ne hX dX6_takeClause_103 (fun h103 => ?_) (fun h103 => absurd h103 (by decide))
          refine r_iload2 hX dX6_takeClause_122 ?_
          refine r_push hX dX6_takeClause_123 ?_
          refine r_ic_ne hX dX6_takeClause_124 (fun h124 => ?_) (fun h124 => absurd h124 (by decide))
          refine r_iload2 hX dX6_takeClause_134 ?_
          refine r_push hX dX6_takeClause_135 ?_
          refine r_ic_ne hX dX6_takeClause_136 (fun h136 => ?_) (fun h136 => absurd h136 (by decide))
          refine r_push hX dX6_takeClause_152 ?_
          refine r_istore3 hX dX6_takeClause_153 rfl ?_
          refine r_iload3 hX dX6_takeClause_154 ?_
          refine r_if_eq hX dX6_takeClause_155 (fun h155 => ?_) (fun h155 => absurd h155 (by decide))
          refine r_aload0 hX dX6_takeClause_168 ?_
          refine r_dup hX dX6_takeClause_169 rfl ?_
          refine g_wM_0_17 hX dX6_takeClause_170 ?_
          refine r_push hX dX6_takeClause_173 ?_
          refine r_iadd hX dX6_takeClause_174 ?_
          refine p_wM_0_17 hX dX6_takeClause_175 ?_
          refine r_iload2 hX dX6_takeClause_178 ?_
          refine r_if_ne hX dX6_takeClause_179 (fun h179 => ?_) (fun h179 => absurd h179 (by decide))
          refine r_iload2 hX dX6_takeClause_189 ?_
          refine r_push hX dX6_takeClause_190 ?_
          refine r_ic_ne hX dX6_takeClause_191 (fun h191 => ?_) (fun h191 => absurd h191 (by decide))
          refine r_iload2 hX dX6_takeClause_201 ?_
          refine r_push hX dX6_takeClause_202 ?_
          refine r_ic_ne hX dX6_takeClause_203 (fun h203 => absurd h203 (by decide)) (fun h203 => ?_)
          refine r_aload0 hX dX6_takeClause_206 ?_
          refine r_aV0i hX dX6_takeClause_207 kX6_takeMarks (c_X6_takeMarks l g _ _ (by exact mStep_PI hp (by rw [h28]; decide)) D hD (Nat.pos_of_ne_zero (fun h => h69 (by show σ.1 20 = 0; rw [eD, h]; rfl))) (by exact eD)) ad_wM rfl (by decide) (Nat.le_of_ble_eq_true rfl) ?_
          refine r_goto hX dX6_takeClause_210 ?_
          refine r_istore4 hX dX6_takeClause_229 rfl ?_
          refine r_iload4 hX dX6_takeClause_231 ?_
          refine r_if_ne hX dX6_takeClause_233 (fun h233 => ?_) (fun h233 => ?_)
          · refine r_aload0 hX dX6_takeClause_255 ?_
            refine r_dup hX dX6_takeClause_256 rfl ?_
            refine g_wM_0_17 hX dX6_takeClause_257 ?_
            refine r_push hX dX6_takeClause_260 ?_
            refine r_iadd hX dX6_takeClause_261 ?_
            refine p_wM_0_17 hX dX6_takeClause_262 ?_
            refine r_iload4 hX dX6_takeClause_265 ?_
            exact r_iret hX hQ dX6_takeClause_267 (by unfold mCla mCl1; rw [if_neg h8, if_neg h18, if_pos h28, if_neg h69]; unfold mGo; rw [if_neg (fun z => z)]; unfold mEnd; rw [if_neg h233] <;> rfl) (by unfold mCla mCl1; rw [if_neg h8, if_neg h18, if_pos h28, if_neg h69]; unfold mGo; rw [if_neg (fun z => z)]; unfold mEnd; rw [if_neg h233] <;> rfl)
          · refine r_aload0 hX dX6_takeClause_236 ?_
            refine r_aV0i hX dX6_takeClause_237 kX6_here (c_X6_here l g _ _ (adv_Mrk (mStep_PI hp (by rw [h28]; decide))).1) ad_wM rfl (by decide) (Nat.le_of_ble_eq_true rfl) ?_
            refine r_push hX dX6_takeClause_240 ?_
            refine r_ic_eq hX dX6_takeClause_242 (fun h242 => ?_) (fun h242 => ?_)
            · refine r_aload0 hX dX6_takeClause_255 ?_
              refine r_dup hX dX6_takeClause_256 rfl ?_
              refine g_wM_0_17 hX dX6_takeClause_257 ?_
              refine r_push hX dX6_takeClause_260 ?_
              refine r_iadd hX dX6_takeClause_261 ?_
              refine p_wM_0_17 hX dX6_takeClause_262 ?_
              refine r_iload4 hX dX6_takeClause_265 ?_
              exact r_iret hX hQ dX6_takeClause_267 (by unfold mCla mCl1; rw [if_neg h8, if_neg h18, if_pos h28, if_neg h69]; unfold mGo; rw [if_neg (fun z => z)]; unfold mEnd; rw [if_pos h233, if_pos h242]; show some (Value.int _) = some (Value.int 0); rw [h233]) (by unfold mCla mCl1; rw [if_neg h8, if_neg h18, if_pos h28, if_neg h69]; unfold mGo; rw [if_neg (fun z => z)]; unfold mEnd; rw [if_pos h233, if_pos h242] <;> rfl)
            · refine r_aload0 hX dX6_takeClause_245 ?_
              refine r_push hX dX6_takeClause_246 ?_
              refine r_aload0 hX dX6_takeClause_247 ?_
              refine g_wM_0_17 hX dX6_takeClause_248 ?_
              refine r_aV2i hX dX6_takeClause_251 kX6_fails (c_X6_fails l g _ _ _ _) ad_wM rfl (by decide) (Nat.le_of_ble_eq_true rfl) ?_
              exact r_iret hX hQ dX6_takeClause_254 (by unfold mCla mCl1; rw [if_neg h8, if_neg h18, if_pos h28, if_neg h69]; unfold mGo; rw [if_neg (fun z => z)]; unfold mEnd; rw [if_pos h233, if_neg h242] <;> rfl) (by unfold mCla mCl1; rw [if_neg h8, if_neg h18, if_pos h28, if_neg h69]; unfold mGo; rw [if_neg (fun z => z)]; unfold mEnd; rw [if_pos h233, if_neg h242] <;> rfl)
        · refine r_aload0 hX dX6_takeClause_72 ?_
          refine r_push hX dX6_takeClause_73 ?_
          refine r_aload0 hX dX6_takeClause_74 ?_
          refine g_wM_0_17 hX dX6_takeClause_75 ?_
          refine r_aV2i hX dX6_takeClause_78 kX6_fails (c_X6_fails l g _ _ _ _) ad_wM rfl (by decide) (Nat.le_of_ble_eq_true rfl) ?_
          exact r_iret hX hQ dX6_takeClause_81 (by unfold mCla mCl1; rw [if_neg h8, if_neg h18, if_pos h28, if_pos h69] <;> rfl) (by unfold mCla mCl1; rw [if_neg h8, if_neg h18, if_pos h28, if_pos h69] <;> rfl)
    · refine r_push hX dX6_takeClause_21 ?_
      refine r_goto hX dX6_takeClause_22 ?_
      refine r_istore2 hX dX6_takeClause_56 rfl ?_
      refine r_iload2 hX dX6_takeClause_57 ?_
      refine r_if_lt hX dX6_takeClause_58 (fun h58 => absurd h58 (by decide)) (fun h58 => ?_)
      refine r_iload2 hX dX6_takeClause_61 ?_
      refine r_if_le hX dX6_takeClause_62 (fun h62 => absurd h62 (by decide)) (fun h62 => ?_)
      refine r_aload0 hX dX6_takeClause_65 ?_
      refine g_wM_0_20 hX dX6_takeClause_66 ?_
      refine r_if_ne hX dX6_takeClause_69 (fun h69 => ?_) (fun h69 => ?_)
      · refine r_iload2 hX dX6_takeClause_82 ?_
        refine r_if_ne hX dX6_takeClause_83 (fun h83 => ?_) (fun h83 => absurd h83 (by decide))
        refine r_iload2 hX dX6_takeClause_101 ?_
        refine r_push hX dX6_takeClause_102 ?_
        refine r_ic_ne hX dX6_takeClause_103 (fun h103 => absurd h103 (by decide)) (fun h103 => ?_)
        refine r_aload0 hX dX6_takeClause_106 ?_
        refine g_wM_0_21 hX dX6_takeClause_107 ?_
        refine r_push hX dX6_takeClause_110 ?_
        refine r_ic_ne hX dX6_takeClause_111 (fun h111 => ?_) (fun h111 => ?_)
        · refine r_push hX dX6_takeClause_118 ?_
          refine r_goto hX dX6_takeClause_119 ?_
          refine r_istore3 hX dX6_takeClause_153 rfl ?_
          refine r_iload3 hX dX6_takeClause_154 ?_
          refine r_if_eq hX dX6_takeClause_155 (fun h155 => ?_) (fun h155 => absurd h155 (by decide))
          refine r_aload0 hX dX6_takeClause_168 ?_
          refine r_dup hX dX6_takeClause_169 rfl ?_
          refine g_wM_0_17 hX dX6_takeClause_170 ?_
          refine r_push hX dX6_takeClause_173 ?_
          refine r_iadd hX dX6_takeClause_174 ?_
          refine p_wM_0_17 hX dX6_takeClause_175 ?_
          refine r_iload2 hX dX6_takeClause_178 ?_
          refine r_if_ne hX dX6_takeClause_179 (fun h179 => ?_) (fun h179 => absurd h179 (by decide))
          refine r_iload2 hX dX6_takeClause_189 ?_
          refine r_push hX dX6_takeClause_190 ?_
          refine r_ic_ne hX dX6_takeClause_191 (fun h191 => absurd h191 (by decide)) (fun h191 => ?_)
          refine r_aload0 hX dX6_takeClause_194 ?_
          refine r_aV0i hX dX6_takeClause_195 kX6_takeChalk (c_X6_takeChalk l g _ _ (by exact mStep_PI hp (by rw [h18]; decide)) (by show vp_in (σ.1 21) 4; rw [eC]; exact vp_in_nI (by rcases Nat.lt_or_ge C 4 with h | h; exact h; exact absurd (show (mHere σ).2.1 21 = 4 by show σ.1 21 = 4; rw [eC, show C = 4 by omega]; rfl) h111) (by omega))) ad_wM rfl (by decide) (Nat.le_of_ble_eq_true rfl) ?_
          refine r_goto hX dX6_takeClause_198 ?_
          refine r_istore4 hX dX6_takeClause_229 rfl ?_
          refine r_iload4 hX dX6_takeClause_231 ?_
          refine r_if_ne hX dX6_takeClause_233 (fun h233 => ?_) (fun h233 => ?_)
          · refine r_aload0 hX dX6_takeClause_255 ?_
            refine r_dup hX dX6_takeClause_256 rfl ?_
            refine g_wM_0_17 hX dX6_takeClause_257 ?_
            refine r_push hX dX6_takeClause_260 ?_
            refine r_iadd hX dX6_takeClause_261 ?_
            refine p_wM_0_17 hX dX6_takeClause_262 ?_
            refine r_iload4 hX dX6_takeClause_265 ?_
            exact r_iret hX hQ dX6_takeClause_267 (by unfold mCla mCl1; rw [if_neg h8, if_pos h18, if_neg h69]; unfold mGo; rw [if_neg h111]; unfold mEnd; rw [if_neg h233] <;> rfl) (by unfold mCla mCl1; rw [if_neg h8, if_pos h18, if_neg h69]; unfold mGo; rw [if_neg h111]; unfold mEnd; rw [if_neg h233] <;> rfl)
          · refine r_aload0 hX dX6_takeClause_236 ?_
            refine r_aV0i hX dX6_takeClause_237 kX6_here (c_X6_here l g _ _ (adv_Chk (mStep_PI hp (by rw [h18]; decide))).1) ad_wM rfl (by decide) (Nat.le_of_ble_eq_true rfl) ?_
            refine r_push hX dX6_takeClause_240 ?_
            refine r_ic_eq hX dX6_takeClause_242 (fun h242 => ?_) (fun h242 => ?_)
            · refine r_aload0 hX dX6_takeClause_255 ?_
              refine r_dup hX dX6_takeClause_256 rfl ?_
              refine g_wM_0_17 hX dX6_takeClause_257 ?_
              refine r_push hX dX6_takeClause_260 ?_
              refine r_iadd hX dX6_takeClause_261 ?_
              refine p_wM_0_17 hX dX6_takeClause_262 ?_
              refine r_iload4 hX dX6_takeClause_265 ?_
              exact r_iret hX hQ dX6_takeClause_267 (by unfold mCla mCl1; rw [if_neg h8, if_pos h18, if_neg h69]; unfold mGo; rw [if_neg h111]; unfold mEnd; rw [if_pos h233, if_pos h242]; show some (Value.int _) = some (Value.int 0); rw [h233]) (by unfold mCla mCl1; rw [if_neg h8, if_pos h18, if_neg h69]; unfold mGo; rw [if_neg h111]; unfold mEnd; rw [if_pos h233, if_pos h242] <;> rfl)
            · refine r_aload0 hX dX6_takeClause_245 ?_
              refine r_push hX dX6_takeClause_246 ?_
              refine r_aload0 hX dX6_takeClause_247 ?_
              refine g_wM_0_17 hX dX6_takeClause_248 ?_
              refine r_aV2i hX dX6_takeClause_251 kX6_fails (c_X6_fails l g _ _ _ _) ad_wM rfl (by decide) (Nat.le_of_ble_eq_true rfl) ?_
              exact r_iret hX hQ dX6_takeClause_254 (by unfold mCla mCl1; rw [if_neg h8, if_pos h18, if_neg h69]; unfold mGo; rw [if_neg h111]; unfold mEnd; rw [if_pos h233, if_neg h242] <;> rfl) (by unfold mCla mCl1; rw [if_neg h8, if_pos h18, if_neg h69]; unfold mGo; rw [if_neg h111]; unfold mEnd; rw [if_pos h233, if_neg h242] <;> rfl)
        · refine r_push hX dX6_takeClause_114 ?_
          refine r_goto hX dX6_takeClause_115 ?_
          refine r_istore3 hX dX6_takeClause_153 rfl ?_
          refine r_iload3 hX dX6_takeClause_154 ?_
          refine r_if_eq hX dX6_takeClause_155 (fun h155 => absurd h155 (by decide)) (fun h155 => ?_)
          refine r_aload0 hX dX6_takeClause_158 ?_
          refine r_push hX dX6_takeClause_159 ?_
          refine r_aload0 hX dX6_takeClause_160 ?_
          refine g_wM_0_17 hX dX6_takeClause_161 ?_
          refine r_aV2i hX dX6_takeClause_164 kX6_fails (c_X6_fails l g _ _ _ _) ad_wM rfl (by decide) (Nat.le_of_ble_eq_true rfl) ?_
          exact r_iret hX hQ dX6_takeClause_167 (by unfold mCla mCl1; rw [if_neg h8, if_pos h18, if_neg h69]; unfold mGo; rw [if_pos h111] <;> rfl) (by unfold mCla mCl1; rw [if_neg h8, if_pos h18, if_neg h69]; unfold mGo; rw [if_pos h111] <;> rfl)
      · refine r_aload0 hX dX6_takeClause_72 ?_
        refine r_push hX dX6_takeClause_73 ?_
        refine r_aload0 hX dX6_takeClause_74 ?_
        refine g_wM_0_17 hX dX6_takeClause_75 ?_
        refine r_aV2i hX dX6_takeClause_78 kX6_fails (c_X6_fails l g _ _ _ _) ad_wM rfl (by decide) (Nat.le_of_ble_eq_true rfl) ?_
        exact r_iret hX hQ dX6_takeClause_81 (by unfold mCla mCl1; rw [if_neg h8, if_pos h18, if_pos h69] <;> rfl) (by unfold mCla mCl1; rw [if_neg h8, if_pos h18, if_pos h69] <;> rfl)
  · refine r_push hX dX6_takeClause_11 ?_
    refine r_goto hX dX6_takeClause_12 ?_
    refine r_istore2 hX dX6_takeClause_56 rfl ?_
    refine r_iload2 hX dX6_takeClause_57 ?_
    refine r_if_lt hX dX6_takeClause_58 (fun h58 => absurd h58 (by decide)) (fun h58 => ?_)
    refine r_iload2 hX dX6_takeClause_61 ?_
    refine r_if_le hX dX6_takeClause_62 (fun h62 => ?_) (fun h62 => absurd h62 (by decide))
    refine r_iload2 hX dX6_takeClause_82 ?_
    refine r_if_ne hX dX6_takeClause_83 (fun h83 => absurd h83 (by decide)) (fun h83 => ?_)
    refine r_aload0 hX dX6_takeClause_86 ?_
    refine g_wM_0_20 hX dX6_takeClause_87 ?_
    refine r_if_le hX dX6_takeClause_90 (fun h90 => ?_) (fun h90 => ?_)
    · refine r_push hX dX6_takeClause_97 ?_
      refine r_goto hX dX6_takeClause_98 ?_
      refine r_istore3 hX dX6_takeClause_153 rfl ?_
      refine r_iload3 hX dX6_takeClause_154 ?_
      refine r_if_eq hX dX6_takeClause_155 (fun h155 => ?_) (fun h155 => absurd h155 (by decide))
      refine r_aload0 hX dX6_takeClause_168 ?_
      refine r_dup hX dX6_takeClause_169 rfl ?_
      refine g_wM_0_17 hX dX6_takeClause_170 ?_
      refine r_push hX dX6_takeClause_173 ?_
      refine r_iadd hX dX6_takeClause_174 ?_
      refine p_wM_0_17 hX dX6_takeClause_175 ?_
      refine r_iload2 hX dX6_takeClause_178 ?_
      refine r_if_ne hX dX6_takeClause_179 (fun h179 => absurd h179 (by decide)) (fun h179 => ?_)
      refine r_aload0 hX dX6_takeClause_182 ?_
      refine r_aV0i hX dX6_takeClause_183 kX6_takeStreet (c_X6_takeStreet l g _ _ (by exact mStep_PI hp (by rw [h8]; decide))) ad_wM rfl (by decide) (Nat.le_of_ble_eq_true rfl) ?_
      refine r_goto hX dX6_takeClause_186 ?_
      refine r_istore4 hX dX6_takeClause_229 rfl ?_
      refine r_iload4 hX dX6_takeClause_231 ?_
      refine r_if_ne hX dX6_takeClause_233 (fun h233 => ?_) (fun h233 => ?_)
      · refine r_aload0 hX dX6_takeClause_255 ?_
        refine r_dup hX dX6_takeClause_256 rfl ?_
        refine g_wM_0_17 hX dX6_takeClause_257 ?_
        refine r_push hX dX6_takeClause_260 ?_
        refine r_iadd hX dX6_takeClause_261 ?_
        refine p_wM_0_17 hX dX6_takeClause_262 ?_
        refine r_iload4 hX dX6_takeClause_265 ?_
        exact r_iret hX hQ dX6_takeClause_267 (by unfold mCla mCl1; rw [if_pos h8]; unfold mGo; rw [if_neg (show ¬ 0 < (mHere σ).2.1 20 from nlt_of_le h90)]; unfold mEnd; rw [if_neg h233] <;> rfl) (by unfold mCla mCl1; rw [if_pos h8]; unfold mGo; rw [if_neg (show ¬ 0 < (mHere σ).2.1 20 from nlt_of_le h90)]; unfold mEnd; rw [if_neg h233] <;> rfl)
      · refine r_aload0 hX dX6_takeClause_236 ?_
        refine r_aV0i hX dX6_takeClause_237 kX6_here (c_X6_here l g _ _ (mStr_PI (mStep_PI hp (by rw [h8]; decide)))) ad_wM rfl (by decide) (Nat.le_of_ble_eq_true rfl) ?_
        refine r_push hX dX6_takeClause_240 ?_
        refine r_ic_eq hX dX6_takeClause_242 (fun h242 => ?_) (fun h242 => ?_)
        · refine r_aload0 hX dX6_takeClause_255 ?_
          refine r_dup hX dX6_takeClause_256 rfl ?_
          refine g_wM_0_17 hX dX6_takeClause_257 ?_
          refine r_push hX dX6_takeClause_260 ?_
          refine r_iadd hX dX6_takeClause_261 ?_
          refine p_wM_0_17 hX dX6_takeClause_262 ?_
          refine r_iload4 hX dX6_takeClause_265 ?_
          exact r_iret hX hQ dX6_takeClause_267 (by unfold mCla mCl1; rw [if_pos h8]; unfold mGo; rw [if_neg (show ¬ 0 < (mHere σ).2.1 20 from nlt_of_le h90)]; unfold mEnd; rw [if_pos h233, if_pos h242]; show some (Value.int _) = some (Value.int 0); rw [h233]) (by unfold mCla mCl1; rw [if_pos h8]; unfold mGo; rw [if_neg (show ¬ 0 < (mHere σ).2.1 20 from nlt_of_le h90)]; unfold mEnd; rw [if_pos h233, if_pos h242] <;> rfl)
        · refine r_aload0 hX dX6_takeClause_245 ?_
          refine r_push hX dX6_takeClause_246 ?_
          refine r_aload0 hX dX6_takeClause_247 ?_
          refine g_wM_0_17 hX dX6_takeClause_248 ?_
          refine r_aV2i hX dX6_takeClause_251 kX6_fails (c_X6_fails l g _ _ _ _) ad_wM rfl (by decide) (Nat.le_of_ble_eq_true rfl) ?_
          exact r_iret hX hQ dX6_takeClause_254 (by unfold mCla mCl1; rw [if_pos h8]; unfold mGo; rw [if_neg (show ¬ 0 < (mHere σ).2.1 20 from nlt_of_le h90)]; unfold mEnd; rw [if_pos h233, if_neg h242] <;> rfl) (by unfold mCla mCl1; rw [if_pos h8]; unfold mGo; rw [if_neg (show ¬ 0 < (mHere σ).2.1 20 from nlt_of_le h90)]; unfold mEnd; rw [if_pos h233, if_neg h242] <;> rfl)
    · refine r_push hX dX6_takeClause_93 ?_
      refine r_goto hX dX6_takeClause_94 ?_
      refine r_istore3 hX dX6_takeClause_153 rfl ?_
      refine r_iload3 hX dX6_takeClause_154 ?_
      refine r_if_eq hX dX6_takeClause_155 (fun h155 => absurd h155 (by decide)) (fun h155 => ?_)
      refine r_aload0 hX dX6_takeClause_158 ?_
      refine r_push hX dX6_takeClause_159 ?_
      refine r_aload0 hX dX6_takeClause_160 ?_
      refine g_wM_0_17 hX dX6_takeClause_161 ?_
      refine r_aV2i hX dX6_takeClause_164 kX6_fails (c_X6_fails l g _ _ _ _) ad_wM rfl (by decide) (Nat.le_of_ble_eq_true rfl) ?_
      exact r_iret hX hQ dX6_takeClause_167 (by unfold mCla mCl1; rw [if_pos h8]; unfold mGo; rw [if_pos (show 0 < (mHere σ).2.1 20 from lt_of_nle h90)] <;> rfl) (by unfold mCla mCl1; rw [if_pos h8]; unfold mGo; rw [if_pos (show 0 < (mHere σ).2.1 20 from lt_of_nle h90)] <;> rfl)
