theorem s_wM_6 {X : CT} {l : Launch} {g : GT} {own : String} {cc : ByteArray} {R : Room} {cs sl pc nx : Nat} {lv : List (Option Value)} {st : List Value} {b : Nat → Nat} {σ : S2} {i v : Int32} (hX : oK X l g own cc R) (hd : dR cc pc (.iastore) 1 nx) (hi : vp_in i 14) (k : vJ X cs sl (wM g b (au σ 10 i.toNatClampNeg v)) nx lv st) : vJ X cs sl (wM g b σ) pc lv (.int v :: .int i :: .ref (b 6) :: st) := r_iast hX hd 6 rfl hi _ rfl k
theorem g_wM_0_13 {X : CT} {l : Launch} {g : GT} {own : String} {cc : ByteArray} {R : Room} {cs sl pc nx : Nat} {lv : List (Option Value)} {st : List Value} {b : Nat → Nat} {σ : S2} (hX : oK X l g own cc R) (hd : dGf own cc pc 6 13 nx) (k : vJ X cs sl (wM g b σ) nx lv (.int (σ.1 13) :: st)) : vJ X cs sl (wM g b σ) pc lv (.ref (b 0) :: st) := r_get hX hd 0 rfl rfl k
theorem p_wM_0_13 {X : CT} {l : Launch} {g : GT} {own : String} {cc : ByteArray} {R : Room} {cs sl pc nx : Nat} {lv : List (Option Value)} {st : List Value} {b : Nat → Nat} {σ : S2} {v : Int32} (hX : oK X l g own cc R) (hd : dPf own cc pc 6 13 .int nx) (k : vJ X cs sl (wM g b (su σ 13 v)) nx lv st) : vJ X cs sl (wM g b σ) pc lv (.int v :: .ref (b 0) :: st) := r_put hX hd 0 rfl rfl rfl (Nat.le_of_ble_eq_true rfl) _ rfl k
set_option maxHeartbeats 400000 in
theorem c_X6_hide (l : Launch) (g : GT) (b : Nat → Nat) (σ : S2) (d c z : Int32) (D : Nat) (hD : D ≤ 14) (eD : σ.1 0 = nI D) (C : Nat) (hC : C ≤ 4) (eC : σ.1 1 = nI C) : Cx l g yX6_hide cX6_hide 5 (some .int) (k2_rm 2 60) [.ref (b 0), .int d, .int c, .int z] (wM g b σ) (some (.int (hideF (σ.1 0) (σ.1 1) (σ.2 10) (σ.2 4) (σ.1 12) d c z).1)) (wM g b (su (aw σ 10 (hideF (σ.1 0) (σ.1 1) (σ.2 10) (σ.2 4) (σ.1 12) d c z).2.1) 12 (hideF (σ.1 0) (σ.1 1) (σ.2 10) (σ.2 4) (σ.1 12) d c z).2.2)) := by
  refine meth (own := "ChalkedDoorsModel") (by decide) rfl (Nat.le_of_ble_eq_true rfl) [some (.ref (b 0)), some (.int d), some (.int c), some (.int z), none] rfl (fun X hX hQ => ?_)
  refine r_aload0 hX dX6_hide_0 ?_
  refine r_iload1 hX dX6_hide_1 ?_
  refine r_aV1i hX dX6_hide_2 kX6_isDoor (c_X6_isDoor l g _ _ _ D hD eD) ad_wM rfl (by decide) (Nat.le_of_ble_eq_true rfl) ?_
  refine r_if_eq hX dX6_hide_5 (fun h5 => ?_) (fun h5 => ?_)
  · refine r_push hX dX6_hide_16 ?_
    exact r_iret hX hQ dX6_hide_18 (by unfold hideF; rw [if_neg (fun h => bI_z h5 h.1)] <;> rfl) (by unfold hideF; rw [if_neg (fun h => bI_z h5 h.1)] <;> rfl)
  · refine r_aload0 hX dX6_hide_8 ?_
    refine r_iload2 hX dX6_hide_9 ?_
    refine r_aV1i hX dX6_hide_10 kX6_isChalk (c_X6_isChalk l g _ _ _ C hC eC) ad_wM rfl (by decide) (Nat.le_of_ble_eq_true rfl) ?_
    refine r_if_ne hX dX6_hide_13 (fun h13 => ?_) (fun h13 => ?_)
    · refine r_aload0 hX dX6_hide_19 ?_
      refine g_wM_0_10 hX dX6_hide_20 ?_
      refine r_iload1 hX dX6_hide_23 ?_
      refine l_wM_6 hX dX6_hide_24 (vin (bI_nz h5) eD hD (by decide)) ?_
      refine r_iload2 hX dX6_hide_25 ?_
      refine r_nS2i hX dX6_hide_26 kX6_has (c_X6_has l g _ _) (by decide) (Nat.le_of_ble_eq_true rfl) ?_
      refine r_istore4 hX dX6_hide_29 rfl ?_
      refine r_iload3 hX dX6_hide_31 ?_
      refine r_if_eq hX dX6_hide_32 (fun h32 => ?_) (fun h32 => ?_)
      · refine r_aload0 hX dX6_hide_45 ?_
        refine g_wM_0_10 hX dX6_hide_46 ?_
        refine r_iload1 hX dX6_hide_49 ?_
        refine r_iload3 hX dX6_hide_50 ?_
        refine r_if_eq hX dX6_hide_51 (fun h51 => ?_) (fun h51 => ?_)
        · refine r_aload0 hX dX6_hide_67 ?_
          refine g_wM_0_10 hX dX6_hide_68 ?_
          refine r_iload1 hX dX6_hide_71 ?_
          refine l_wM_6 hX dX6_hide_72 (vin (bI_nz h5) eD hD (by decide)) ?_
          refine r_push hX dX6_hide_73 ?_
          refine r_iload2 hX dX6_hide_74 ?_
          refine r_ishl hX dX6_hide_75 ?_
          refine r_push hX dX6_hide_76 ?_
          refine r_ixor hX dX6_hide_77 ?_
          refine r_iand hX dX6_hide_78 ?_
          refine s_wM_6 hX dX6_hide_79 (vin (bI_nz h5) eD hD (by decide)) ?_
          refine r_iload4 hX dX6_hide_80 ?_
          refine r_if_eq hX dX6_hide_82 (fun h82 => ?_) (fun h82 => ?_)
          · refine r_push hX dX6_hide_89 ?_
            exact r_iret hX hQ dX6_hide_90 (by unfold hideF; rw [if_pos (⟨bI_nz h5, bI_nz h13⟩ : inD d (σ.1 0) ∧ inD c (σ.1 1))]; show some (Value.int 0) = some (Value.int (bI _)); rw [bI_f (bI_z h82)]) (by unfold hideF; rw [if_pos (⟨bI_nz h5, bI_nz h13⟩ : inD d (σ.1 0) ∧ inD c (σ.1 1))]; dsimp only; rw [if_pos h51, if_neg (fun h => h.1 h32)] <;> rfl)
          · refine r_push hX dX6_hide_85 ?_
            refine r_goto hX dX6_hide_86 ?_
            exact r_iret hX hQ dX6_hide_90 (by unfold hideF; rw [if_pos (⟨bI_nz h5, bI_nz h13⟩ : inD d (σ.1 0) ∧ inD c (σ.1 1))]; show some (Value.int 1) = some (Value.int (bI _)); rw [bI_t (bI_nz h82)]) (by unfold hideF; rw [if_pos (⟨bI_nz h5, bI_nz h13⟩ : inD d (σ.1 0) ∧ inD c (σ.1 1))]; dsimp only; rw [if_pos h51, if_neg (fun h => h.1 h32)] <;> rfl)
        · refine r_aload0 hX dX6_hide_54 ?_
          refine g_wM_0_10 hX dX6_hide_55 ?_
          refine r_iload1 hX dX6_hide_58 ?_
          refine l_wM_6 hX dX6_hide_59 (vin (bI_nz h5) eD hD (by decide)) ?_
          refine r_push hX dX6_hide_60 ?_
          refine r_iload2 hX dX6_hide_61 ?_
          refine r_ishl hX dX6_hide_62 ?_
          refine r_ior hX dX6_hide_63 ?_
          refine r_goto hX dX6_hide_64 ?_
          refine s_wM_6 hX dX6_hide_79 (vin (bI_nz h5) eD hD (by decide)) ?_
          refine r_iload4 hX dX6_hide_80 ?_
          refine r_if_eq hX dX6_hide_82 (fun h82 => ?_) (fun h82 => ?_)
          · refine r_push hX dX6_hide_89 ?_
            exact r_iret hX hQ dX6_hide_90 (absurd h32 h51) (absurd h32 h51)
          · refine r_push hX dX6_hide_85 ?_
            refine r_goto hX dX6_hide_86 ?_
            exact r_iret hX hQ dX6_hide_90 (absurd h32 h51) (absurd h32 h51)
      · refine r_iload4 hX dX6_hide_35 ?_
        refine r_if_ne hX dX6_hide_37 (fun h37 => ?_) (fun h37 => ?_)
        · refine r_aload0 hX dX6_hide_45 ?_
          refine g_wM_0_10 hX dX6_hide_46 ?_
          refine r_iload1 hX dX6_hide_49 ?_
          refine r_iload3 hX dX6_hide_50 ?_
          refine r_if_eq hX dX6_hide_51 (fun h51 => ?_) (fun h51 => ?_)
          · refine r_aload0 hX dX6_hide_67 ?_
            refine g_wM_0_10 hX dX6_hide_68 ?_
            refine r_iload1 hX dX6_hide_71 ?_
            refine l_wM_6 hX dX6_hide_72 (vin (bI_nz h5) eD hD (by decide)) ?_
            refine r_push hX dX6_hide_73 ?_
            refine r_iload2 hX dX6_hide_74 ?_
            refine r_ishl hX dX6_hide_75 ?_
            refine r_push hX dX6_hide_76 ?_
            refine r_ixor hX dX6_hide_77 ?_
            refine r_iand hX dX6_hide_78 ?_
            refine s_wM_6 hX dX6_hide_79 (vin (bI_nz h5) eD hD (by decide)) ?_
            refine r_iload4 hX dX6_hide_80 ?_
            refine r_if_eq hX dX6_hide_82 (fun h82 => ?_) (fun h82 => ?_)
            · refine r_push hX dX6_hide_89 ?_
              exact r_iret hX hQ dX6_hide_90 (absurd h51 h32) (absurd h51 h32)
            · refine r_push hX dX6_hide_85 ?_
              refine r_goto hX dX6_hide_86 ?_
              exact r_iret hX hQ dX6_hide_90 (absurd h51 h32) (absurd h51 h32)
          · refine r_aload0 hX dX6_hide_54 ?_
            refine g_wM_0_10 hX dX6_hide_55 ?_
            refine r_iload1 hX dX6_hide_58 ?_
            refine l_wM_6 hX dX6_hide_59 (vin (bI_nz h5) eD hD (by decide)) ?_
            refine r_push hX dX6_hide_60 ?_
            refine r_iload2 hX dX6_hide_61 ?_
            refine r_ishl hX dX6_hide_62 ?_
            refine r_ior hX dX6_hide_63 ?_
            refine r_goto hX dX6_hide_64 ?_
            refine s_wM_6 hX dX6_hide_79 (vin (bI_nz h5) eD hD (by decide)) ?_
            refine r_iload4 hX dX6_hide_80 ?_
            refine r_if_eq hX dX6_hide_82 (fun h82 => ?_) (fun h82 => ?_)
            · refine r_push hX dX6_hide_89 ?_
              exact r_iret hX hQ dX6_hide_90 (by unfold hideF; rw [if_pos (⟨bI_nz h5, bI_nz h13⟩ : inD d (σ.1 0) ∧ inD c (σ.1 1))]; show some (Value.int 0) = some (Value.int (bI _)); rw [bI_f (bI_z h82)]) (by unfold hideF; rw [if_pos (⟨bI_nz h5, bI_nz h13⟩ : inD d (σ.1 0) ∧ inD c (σ.1 1))]; dsimp only; rw [if_neg h51, if_neg (fun h => h.2 (bI_nz h37))] <;> rfl)
            · refine r_push hX dX6_hide_85 ?_
              refine r_goto hX dX6_hide_86 ?_
              exact r_iret hX hQ dX6_hide_90 (by unfold hideF; rw [if_pos (⟨bI_nz h5, bI_nz h13⟩ : inD d (σ.1 0) ∧ inD c (σ.1 1))]; show some (Value.int 1) = some (Value.int (bI _)); rw [bI_t (bI_nz h82)]) (by unfold hideF; rw [if_pos (⟨bI_nz h5, bI_nz h13⟩ : inD d (σ.1 0) ∧ inD c (σ.1 1))]; dsimp only; rw [if_neg h51, if_neg (fun h => h.2 (bI_nz h37))] <;> rfl)
        · refine r_aload0 hX dX6_hide_40 ?_
          refine r_iload2 hX dX6_hide_41 ?_
          refine r_aV1v hX dX6_hide_42 kX6_pay (c_X6_pay l g _ _ _ (vin (bI_nz h13) eC hC (by decide))) ad_wM rfl (by decide) (Nat.le_of_ble_eq_true rfl) ?_
          refine r_aload0 hX dX6_hide_45 ?_
          refine g_wM_0_10 hX dX6_hide_46 ?_
          refine r_iload1 hX dX6_hide_49 ?_
          refine r_iload3 hX dX6_hide_50 ?_
          refine r_if_eq hX dX6_hide_51 (fun h51 => ?_) (fun h51 => ?_)
          · refine r_aload0 hX dX6_hide_67 ?_
            refine g_wM_0_10 hX dX6_hide_68 ?_
            refine r_iload1 hX dX6_hide_71 ?_
            refine l_wM_6 hX dX6_hide_72 (vin (bI_nz h5) eD hD (by decide)) ?_
            refine r_push hX dX6_hide_73 ?_
            refine r_iload2 hX dX6_hide_74 ?_
            refine r_ishl hX dX6_hide_75 ?_
            refine r_push hX dX6_hide_76 ?_
            refine r_ixor hX dX6_hide_77 ?_
            refine r_iand hX dX6_hide_78 ?_
            refine s_wM_6 hX dX6_hide_79 (vin (bI_nz h5) eD hD (by decide)) ?_
            refine r_iload4 hX dX6_hide_80 ?_
            refine r_if_eq hX dX6_hide_82 (fun h82 => ?_) (fun h82 => ?_)
            · refine r_push hX dX6_hide_89 ?_
              exact r_iret hX hQ dX6_hide_90 (absurd h51 h32) (absurd h51 h32)
            · refine r_push hX dX6_hide_85 ?_
              refine r_goto hX dX6_hide_86 ?_
              exact r_iret hX hQ dX6_hide_90 (absurd h51 h32) (absurd h51 h32)
          · refine r_aload0 hX dX6_hide_54 ?_
            refine g_wM_0_10 hX dX6_hide_55 ?_
            refine r_iload1 hX dX6_hide_58 ?_
            refine l_wM_6 hX dX6_hide_59 (vin (bI_nz h5) eD hD (by decide)) ?_
            refine r_push hX dX6_hide_60 ?_
            refine r_iload2 hX dX6_hide_61 ?_
            refine r_ishl hX dX6_hide_62 ?_
            refine r_ior hX dX6_hide_63 ?_
            refine r_goto hX dX6_hide_64 ?_
            refine s_wM_6 hX dX6_hide_79 (vin (bI_nz h5) eD hD (by decide)) ?_
            refine r_iload4 hX dX6_hide_80 ?_
            refine r_if_eq hX dX6_hide_82 (fun h82 => ?_) (fun h82 => ?_)
            · refine r_push hX dX6_hide_89 ?_
              exact r_iret hX hQ dX6_hide_90 (by unfold hideF; rw [if_pos (⟨bI_nz h5, bI_nz h13⟩ : inD d (σ.1 0) ∧ inD c (σ.1 1))]; show some (Value.int 0) = some (Value.int (bI _)); rw [bI_f (bI_z h82)]) (by unfold hideF; rw [if_pos (⟨bI_nz h5, bI_nz h13⟩ : inD d (σ.1 0) ∧ inD c (σ.1 1))]; dsimp only; rw [if_neg h51, if_pos ⟨h32, bI_z h37⟩] <;> rfl)
            · refine r_push hX dX6_hide_85 ?_
              refine r_goto hX dX6_hide_86 ?_
              exact r_iret hX hQ dX6_hide_90 (by unfold hideF; rw [if_pos (⟨bI_nz h5, bI_nz h13⟩ : inD d (σ.1 0) ∧ inD c (σ.1 1))]; show some (Value.int 1) = some (Value.int (bI _)); rw [bI_t (bI_nz h82)]) (by unfold hideF; rw [if_pos (⟨bI_nz h5, bI_nz h13⟩ : inD d (σ.1 0) ∧ inD c (σ.1 1))]; dsimp only; rw [if_neg h51, if_pos ⟨h32, bI_z h37⟩] <;> rfl)
    · refine r_push hX dX6_hide_16 ?_
      exact r_iret hX hQ dX6_hide_18 (by unfold hideF; rw [if_neg (fun h => bI_z h13 h.2)] <;> rfl) (by unfold hideF; rw [if_neg (fun h => bI_z h13 h.2)] <;> rfl)
set_option maxHeartbeats 400000 in
theorem c_X6_draw (l : Launch) (g : GT) (b : Nat → Nat) (σ : S2) (n : Int32) (hs : 0 ≤ (σ.1 13).toInt) (hn : ¬ n = 0) : Cx l g yX6_draw cX6_draw 2 (some .int) (k2_rm 0 0) [.ref (b 0), .int n] (wM g b σ) (some (.int (dvF (drawF (σ.1 13)) n))) (wM g b (su σ 13 (drawF (σ.1 13)))) := by
  refine meth (own := "ChalkedDoorsModel") (by decide) rfl (Nat.le_of_ble_eq_true rfl) [some (.ref (b 0)), some (.int n)] rfl (fun X hX hQ => ?_)
  refine r_aload0 hX dX6_draw_0 ?_
  refine r_aload0 hX dX6_draw_1 ?_
  refine g_wM_0_13 hX dX6_draw_2 ?_
  refine r_i2l hX dX6_draw_5 ?_
  refine r_pushl hX dX6_draw_6 ?_
  refine r_lmul hX dX6_draw_9 ?_
  refine r_pushl hX dX6_draw_10 ?_
  refine r_ladd hX dX6_draw_13 ?_
  refine r_pushl hX dX6_draw_14 ?_
  refine r_lrem hX dX6_draw_17 (by decide) ?_
  refine r_l2i hX dX6_draw_18 ?_
  refine p_wM_0_13 hX dX6_draw_19 ?_
  refine r_aload0 hX dX6_draw_22 ?_
  refine g_wM_0_13 hX dX6_draw_23 ?_
  refine r_push hX dX6_draw_26 ?_
  refine r_idiv hX dX6_draw_28 (by decide) ?_
  refine r_iload1 hX dX6_draw_29 ?_
  refine r_irem hX dX6_draw_30 hn ?_
  exact r_iret hX hQ dX6_draw_31 (by rw [← drawE hs, dvF_eq]; rfl) (by rw [← drawE hs] <;> rfl)
set_option maxHeartbeats 400000 in
theorem c_X6_copy (l : Launch) (g : GT) (b : Nat → Nat) (σ : S2) (d f : Int32) (D : Nat) (hD : D ≤ 14) (eD : σ.1 0 = nI D) (C : Nat) (hC : C ≤ 4) (eC : σ.1 1 = nI C) : Cx l g yX6_copy cX6_copy 5 (some .int) (k2_rm 2 60) [.ref (b 0), .int d, .int f] (wM g b σ) (some (.int (copyF D C (σ.2 4) (σ.2 9) (σ.1 12) d f).1)) (wM g b (su (aw σ 9 (copyF D C (σ.2 4) (σ.2 9) (σ.1 12) d f).2.1) 12 (copyF D C (σ.2 4) (σ.2 9) (σ.1 12) d f).2.2)) := by
  refine meth (own := "ChalkedDoorsModel") (by decide) rfl (Nat.le_of_ble_eq_true rfl) [some (.ref (b 0)), some (.int d), some (.int f), none, none] rfl (fun X hX hQ => ?_)
  by_cases hd : inD d (σ.1 0)
  · by_cases hf : inB f.toInt 1 13
    · have hQ2 := hQ
      have e0 : copyF D C (σ.2 4) (σ.2 9) (σ.1 12) d f = ((lp (copyS C (σ.2 4) d f) D 0 (σ.2 9, σ.1 12)).2, (lp (copyS C (σ.2 4) d f) D 0 (σ.2 9, σ.1 12)).1, (lp (copyS C (σ.2 4) d f) D 0 (σ.2 9, σ.1 12)).2) := by
        unfold copyF; rw [if_pos (eD ▸ hd), if_pos hf]
      rw [e0] at hQ
      generalize hsp : lp (copyS C (σ.2 4) d f) D 0 (σ.2 9, σ.1 12) = S at hQ
      have hvd : vp_in d 14 := vin hd eD hD (by decide)
      have hO : ∀ (n i : Nat) (x : Int32) (mk : Nat → Int32) (sp : Int32), x = nI i → i + n = D → S = lp (copyS C (σ.2 4) d f) n i (mk, sp) → vJ X 0 0 (wM g b (su (aw σ 9 mk) 12 sp)) 28 [some (.ref (b 0)), some (.int d), some (.int f), some (.int x), none] [] := by
        intro n
        induction n with
        | zero =>
          intro i x mk sp hx hn hs
          refine r_iload3 hX dX6_copy_28 ?_
          refine r_aload0 hX dX6_copy_29 ?_
          refine g_wM_0_0 hX dX6_copy_30 ?_
          refine r_ic_ge hX dX6_copy_33 (fun h33 => ?_) (fun h33 => absurd (lpx (e := D) hx eD (by omega) (by omega) (by omega)) h33)
          refine r_aload0 hX dX6_copy_128 ?_
          refine g_wM_0_12 hX dX6_copy_129 ?_
          exact r_iret hX hQ dX6_copy_132 (by rw [hs] <;> rfl) (by rw [hs] <;> rfl)
        | succ n ih =>
          intro i x mk sp hx hn hs
          have hvx : vp_in x 14 := by rw [hx]; exact vp_in_nI (by omega) (by omega)
          have hcx : cl x = i := by rw [hx]; exact nI_clamp (by omega)
          by_cases hA : awayF x d ≤ f
          · have k92 : ∀ sp' : Int32, sp' = copyC C (σ.2 4) (mk (cl d) &&& (mk (cl x) ^^^ -1)) sp → vJ X 0 0 (wM g b (su (aw σ 9 mk) 12 sp')) 92 [some (.ref (b 0)), some (.int d), some (.int f), some (.int x), none] [] := by
              intro sp' hsp'
              refine r_aload0 hX dX6_copy_92 ?_
              refine g_wM_0_9 hX dX6_copy_93 ?_
              refine r_iload3 hX dX6_copy_96 ?_
              refine r_iload3 hX dX6_copy_97 ?_
              refine r_iload1 hX dX6_copy_98 ?_
              refine r_nS2i hX dX6_copy_99 kX6_away (c_X6_away l g _ _) (by decide) (Nat.le_of_ble_eq_true rfl) ?_
              refine r_iload2 hX dX6_copy_102 ?_
              refine r_ic_gt hX dX6_copy_103 (fun h103 => absurd h103 (fun h => by rw [Int32.lt_iff_toInt_lt] at h; rw [Int32.le_iff_toInt_le] at hA; omega)) (fun h103 => ?_)
              refine r_aload0 hX dX6_copy_106 ?_
              refine g_wM_0_9 hX dX6_copy_107 ?_
              refine r_iload1 hX dX6_copy_110 ?_
              refine l_wM_5 hX dX6_copy_111 hvd ?_
              refine r_goto hX dX6_copy_112 ?_
              refine s_wM_5 hX dX6_copy_121 hvx ?_
              refine r_iinc3 hX dX6_copy_122 rfl ?_
              refine r_goto hX dX6_copy_125 ?_
              refine vJw (w' := wM g b (su (aw σ 9 (upd mk (cl x) (mk (cl d)))) 12 sp')) rfl ?_
              exact ih (i + 1) _ _ _ (by rw [hx]; exact nI_1 i) (by omega) (by rw [hs]; show lp _ n (i + 1) (copyS C (σ.2 4) d f i (mk, sp)) = _; unfold copyS; rw [← hx, if_pos hA]; dsimp only; rw [hcx, hsp', hcx])
            have hI : ∀ (n2 j : Nat) (y sp' : Int32), y = nI j → j + n2 = C → copyC C (σ.2 4) (mk (cl d) &&& (mk (cl x) ^^^ -1)) sp = lp (fun c s => if hb (mk (cl d) &&& (mk (cl x) ^^^ -1)) (nI c) then payF s (σ.2 4 c) else s) n2 j sp' → vJ X 0 0 (wM g b (su (aw σ 9 mk) 12 sp')) 39 [some (.ref (b 0)), some (.int d), some (.int f), some (.int x), some (.int y)] [] := by
              intro n2
              induction n2 with
              | zero =>
                intro j y sp' hy hj hc
                refine r_iload4 hX dX6_copy_39 ?_
                refine r_aload0 hX dX6_copy_41 ?_
                refine g_wM_0_1 hX dX6_copy_42 ?_
                refine r_ic_ge hX dX6_copy_45 (fun h45 => ?_) (fun h45 => absurd (lpx (e := C) hy eC (by omega) (by omega) (by omega)) h45)
                exact r_fg4 (k92 sp' hc.symm)
              | succ n2 ih2 =>
                intro j y sp' hy hj hc
                have hvy : vp_in y 4 := by rw [hy]; exact vp_in_nI (by omega) (by omega)
                have hcy : cl y = j := by rw [hy]; exact nI_clamp (by omega)
                refine r_iload4 hX dX6_copy_39 ?_
                refine r_aload0 hX dX6_copy_41 ?_
                refine g_wM_0_1 hX dX6_copy_42 ?_
                refine r_ic_ge hX dX6_copy_45 (fun h45 => absurd h45 (lpn (e := C) hy eC (by omega) (by omega))) (fun h45 => ?_)
                refine r_iload3 hX dX6_copy_48 ?_
                refine r_iload1 hX dX6_copy_49 ?_
                refine r_nS2i hX dX6_copy_50 kX6_away (c_X6_away l g _ _) (by decide) (Nat.le_of_ble_eq_true rfl) ?_
                refine r_iload2 hX dX6_copy_53 ?_
                refine r_ic_gt hX dX6_copy_54 (fun h54 => absurd hA (fun h => by rw [Int32.lt_iff_toInt_lt] at h54; rw [Int32.le_iff_toInt_le] at h; omega)) (fun h54 => ?_)
                refine r_aload0 hX dX6_copy_57 ?_
                refine g_wM_0_9 hX dX6_copy_58 ?_
                refine r_iload1 hX dX6_copy_61 ?_
                refine l_wM_5 hX dX6_copy_62 hvd ?_
                refine r_aload0 hX dX6_copy_63 ?_
                refine g_wM_0_9 hX dX6_copy_64 ?_
                refine r_iload3 hX dX6_copy_67 ?_
                refine l_wM_5 hX dX6_copy_68 hvx ?_
                refine r_push hX dX6_copy_69 ?_
                refine r_ixor hX dX6_copy_70 ?_
                refine r_iand hX dX6_copy_71 ?_
                refine r_iload4 hX dX6_copy_72 ?_
                refine r_nS2i hX dX6_copy_74 kX6_has (c_X6_has l g _ _) (by decide) (Nat.le_of_ble_eq_true rfl) ?_
                refine r_if_eq hX dX6_copy_77 (fun h77 => ?_) (fun h77 => ?_)
                · refine r_iinc4 hX dX6_copy_86 rfl ?_
                  refine r_goto hX dX6_copy_89 ?_
                  first | exact ih2 (j + 1) _ _ (by rw [hy]; exact nI_1 j) (by omega) (by rw [hc]; show lp _ n2 (j + 1) (ite _ _ _) = _; rw [← hy, if_neg (show ¬ hb (mk (cl d) &&& (mk (cl x) ^^^ -1)) y from bI_z h77)]) | exact ih2 (j + 1) _ _ (by rw [hy]; exact nI_1 j) (by omega) (by rw [hc]; show lp _ n2 (j + 1) (ite _ _ _) = _; rw [← hy, if_pos (show hb (mk (cl d) &&& (mk (cl x) ^^^ -1)) y from bI_nz h77), ← hcy]; rfl)
                · refine r_aload0 hX dX6_copy_80 ?_
                  refine r_iload4 hX dX6_copy_81 ?_
                  refine r_aV1v hX dX6_copy_83 kX6_pay (c_X6_pay l g _ _ _ hvy) ad_wM rfl (by decide) (Nat.le_of_ble_eq_true rfl) ?_
                  refine r_iinc4 hX dX6_copy_86 rfl ?_
                  refine r_goto hX dX6_copy_89 ?_
                  first | exact ih2 (j + 1) _ _ (by rw [hy]; exact nI_1 j) (by omega) (by rw [hc]; show lp _ n2 (j + 1) (ite _ _ _) = _; rw [← hy, if_neg (show ¬ hb (mk (cl d) &&& (mk (cl x) ^^^ -1)) y from bI_z h77)]) | exact ih2 (j + 1) _ _ (by rw [hy]; exact nI_1 j) (by omega) (by rw [hc]; show lp _ n2 (j + 1) (ite _ _ _) = _; rw [← hy, if_pos (show hb (mk (cl d) &&& (mk (cl x) ^^^ -1)) y from bI_nz h77), ← hcy]; rfl)
            refine r_iload3 hX dX6_copy_28 ?_
            refine r_aload0 hX dX6_copy_29 ?_
            refine g_wM_0_0 hX dX6_copy_30 ?_
            refine r_ic_ge hX dX6_copy_33 (fun h33 => absurd h33 (lpn (e := D) hx eD (by omega) (by omega))) (fun h33 => ?_)
            refine r_push hX dX6_copy_36 ?_
            refine r_istore4 hX dX6_copy_37 rfl ?_
            exact hI C 0 _ _ rfl (by omega) rfl
          · have k92 : vJ X 0 0 (wM g b (su (aw σ 9 mk) 12 sp)) 92 [some (.ref (b 0)), some (.int d), some (.int f), some (.int x), none] [] := by
              refine r_aload0 hX dX6_copy_92 ?_
              refine g_wM_0_9 hX dX6_copy_93 ?_
              refine r_iload3 hX dX6_copy_96 ?_
              refine r_iload3 hX dX6_copy_97 ?_
              refine r_iload1 hX dX6_copy_98 ?_
              refine r_nS2i hX dX6_copy_99 kX6_away (c_X6_away l g _ _) (by decide) (Nat.le_of_ble_eq_true rfl) ?_
              refine r_iload2 hX dX6_copy_102 ?_
              refine r_ic_gt hX dX6_copy_103 (fun h103 => ?_) (fun h103 => absurd (show f < awayF x d by rw [Int32.lt_iff_toInt_lt]; rw [Int32.le_iff_toInt_le] at hA; omega) h103)
              refine r_aload0 hX dX6_copy_115 ?_
              refine g_wM_0_9 hX dX6_copy_116 ?_
              refine r_iload3 hX dX6_copy_119 ?_
              refine l_wM_5 hX dX6_copy_120 hvx ?_
              refine s_wM_5 hX dX6_copy_121 hvx ?_
              refine r_iinc3 hX dX6_copy_122 rfl ?_
              refine r_goto hX dX6_copy_125 ?_
              refine vJw (w' := wM g b (su (aw σ 9 (upd mk (cl x) (mk (cl x)))) 12 sp)) rfl ?_
              rw [upd_self]
              exact ih (i + 1) _ _ _ (by rw [hx]; exact nI_1 i) (by omega) (by rw [hs]; show lp _ n (i + 1) (copyS C (σ.2 4) d f i (mk, sp)) = _; unfold copyS; rw [← hx, if_neg hA])
            refine r_iload3 hX dX6_copy_28 ?_
            refine r_aload0 hX dX6_copy_29 ?_
            refine g_wM_0_0 hX dX6_copy_30 ?_
            refine r_ic_ge hX dX6_copy_33 (fun h33 => absurd h33 (lpn (e := D) hx eD (by omega) (by omega))) (fun h33 => ?_)
            refine r_push hX dX6_copy_36 ?_
            refine r_istore4 hX dX6_copy_37 rfl ?_
            refine r_iload4 hX dX6_copy_39 ?_
            refine r_aload0 hX dX6_copy_41 ?_
            refine g_wM_0_1 hX dX6_copy_42 ?_
            refine r_ic_ge hX dX6_copy_45 (fun h45 => ?_) (fun h45 => ?_)
            · exact r_fg4 k92
            · refine r_iload3 hX dX6_copy_48 ?_
              refine r_iload1 hX dX6_copy_49 ?_
              refine r_nS2i hX dX6_copy_50 kX6_away (c_X6_away l g _ _) (by decide) (Nat.le_of_ble_eq_true rfl) ?_
              refine r_iload2 hX dX6_copy_53 ?_
              refine r_ic_gt hX dX6_copy_54 (fun h54 => ?_) (fun h54 => absurd (show f < awayF x d by rw [Int32.lt_iff_toInt_lt]; rw [Int32.le_iff_toInt_le] at hA; omega) h54)
              exact r_fg4 k92
      refine r_aload0 hX dX6_copy_0 ?_
      refine r_iload1 hX dX6_copy_1 ?_
      refine r_aV1i hX dX6_copy_2 kX6_isDoor (c_X6_isDoor l g _ _ _ D hD eD) ad_wM rfl (by decide) (Nat.le_of_ble_eq_true rfl) ?_
      refine r_if_ne hX dX6_copy_5 (fun h5 => ?_) (fun h5 => absurd (h5) (by rw [bI_t hd]; decide))
      refine r_iload2 hX dX6_copy_11 ?_
      refine r_i2l hX dX6_copy_12 ?_
      refine r_pushl hX dX6_copy_13 ?_
      refine r_pushl hX dX6_copy_14 ?_
      refine r_nS3i hX dX6_copy_17 kX6_in (c_X6_in l g _ _ _) (by decide) (Nat.le_of_ble_eq_true rfl) ?_
      refine r_if_ne hX dX6_copy_20 (fun h20 => ?_) (fun h20 => absurd h20 (by rw [bI_t (p := inB f.toInt64.toInt (1 : Int64).toInt (13 : Int64).toInt) (by rw [Int32.toInt_toInt64]; exact hf)]; decide))
      refine r_push hX dX6_copy_26 ?_
      refine r_istore3 hX dX6_copy_27 rfl ?_
      refine vJw (w' := wM g b (su (aw σ 9 (σ.2 9)) 12 (σ.1 12))) rfl ?_
      exact hO D 0 _ _ _ rfl (by omega) hsp.symm
    · have e0 : copyF D C (σ.2 4) (σ.2 9) (σ.1 12) d f = (-1000000002, σ.2 9, σ.1 12) := by unfold copyF; rw [if_pos (eD ▸ hd), if_neg hf]
      rw [e0] at hQ
      refine r_aload0 hX dX6_copy_0 ?_
      refine r_iload1 hX dX6_copy_1 ?_
      refine r_aV1i hX dX6_copy_2 kX6_isDoor (c_X6_isDoor l g _ _ _ D hD eD) ad_wM rfl (by decide) (Nat.le_of_ble_eq_true rfl) ?_
      refine r_if_ne hX dX6_copy_5 (fun h5 => ?_) (fun h5 => absurd h5 (by rw [bI_t hd]; decide))
      refine r_iload2 hX dX6_copy_11 ?_
      refine r_i2l hX dX6_copy_12 ?_
      refine r_pushl hX dX6_copy_13 ?_
      refine r_pushl hX dX6_copy_14 ?_
      refine r_nS3i hX dX6_copy_17 kX6_in (c_X6_in l g _ _ _) (by decide) (Nat.le_of_ble_eq_true rfl) ?_
      refine r_if_ne hX dX6_copy_20 (fun h20 => absurd (bI_nz h20) (by rw [Int32.toInt_toInt64]; exact hf)) (fun h20 => ?_)
      refine r_push hX dX6_copy_23 ?_
      exact r_iret hX hQ dX6_copy_25 (rfl) (rfl)
  · have e0 : copyF D C (σ.2 4) (σ.2 9) (σ.1 12) d f = (-1000000001, σ.2 9, σ.1 12) := by unfold copyF; rw [if_neg (fun h => hd (eD ▸ h))]
    rw [e0] at hQ
    refine r_aload0 hX dX6_copy_0 ?_
    refine r_iload1 hX dX6_copy_1 ?_
    refine r_aV1i hX dX6_copy_2 kX6_isDoor (c_X6_isDoor l g _ _ _ D hD eD) ad_wM rfl (by decide) (Nat.le_of_ble_eq_true rfl) ?_
    refine r_if_ne hX dX6_copy_5 (fun h5 => absurd (bI_nz h5) hd) (fun h5 => ?_)
    refine r_push hX dX6_copy_8 ?_
    exact r_iret hX hQ dX6_copy_10 (rfl) (rfl)
