theorem s_wX_5 {X : CT} {l : Launch} {g : GT} {own : String} {cc : ByteArray} {R : Room} {cs sl pc nx : Nat} {lv : List (Option Value)} {st : List Value} {x : Nat} {a : Nat → Nat → Nat} {kp : Int32} {rd : S2} {nw : S2} {i0 : S2} {i1 : S2} {fa : S2} {bo : S2} {pl : S2} {dr : S2} {i v : Int32} (hX : oK X l g own cc R) (hd : dR cc pc (.iastore) 1 nx) (hi : vp_in i 14) (k : vJ X cs sl (wX g x a kp rd (au nw 1 i.toNatClampNeg v) i0 i1 fa bo pl dr) nx lv st) : vJ X cs sl (wX g x a kp rd nw i0 i1 fa bo pl dr) pc lv (.int v :: .int i :: .ref (a 1 2) :: st) := r_iast hX hd 5 rfl hi _ rfl k
set_option maxHeartbeats 400000 in
theorem c_X5_hide (l : Launch) (g : GT) (x : Nat) (a : Nat → Nat → Nat) (kp : Int32) (rd : S2) (nw : S2) (i0 : S2) (i1 : S2) (fa : S2) (bo : S2) (pl : S2) (dr : S2) (d c z : Int32) (D : Nat) (hD : D ≤ 14) (eD : pl.1 0 = nI D) (C : Nat) (hC : C ≤ 4) (eC : pl.1 1 = nI C) : Cx l g yX5_hide cX5_hide 5 (some .int) (k2_rm 2 60) [.ref (x), .int d, .int c, .int z] (wX g x a kp rd nw i0 i1 fa bo pl dr) (some (.int (hideF (pl.1 0) (pl.1 1) (nw.2 1) (pl.2 4) (nw.1 3) d c z).1)) (wX g x a kp rd (su (aw nw 1 (hideF (pl.1 0) (pl.1 1) (nw.2 1) (pl.2 4) (nw.1 3) d c z).2.1) 3 (hideF (pl.1 0) (pl.1 1) (nw.2 1) (pl.2 4) (nw.1 3) d c z).2.2) i0 i1 fa bo pl dr) := by
  refine meth (own := "ChalkedDoors") (by decide) rfl (Nat.le_of_ble_eq_true rfl) [some (.ref (x)), some (.int d), some (.int c), some (.int z), none] rfl (fun X hX hQ => ?_)
  refine r_aload0 hX dX5_hide_0 ?_
  refine g_wX_0_6 hX dX5_hide_1 ?_
  refine r_iload1 hX dX5_hide_4 ?_
  refine r_cV1i hX dX5_hide_5 kX2_hasDoor fr_wX_wP_19_24 (c_X2_hasDoor l g _ _ _) rfl (by decide) (Nat.le_of_ble_eq_true rfl) ?_
  refine r_if_eq hX dX5_hide_8 (fun h8 => ?_) (fun h8 => ?_)
  · refine r_push hX dX5_hide_22 ?_
    exact r_iret hX hQ dX5_hide_24 (by unfold hideF; rw [if_neg (fun h => bI_z h8 h.1)] <;> rfl) (by unfold hideF; rw [if_neg (fun h => bI_z h8 h.1)] <;> rfl)
  · refine r_aload0 hX dX5_hide_11 ?_
    refine g_wX_0_6 hX dX5_hide_12 ?_
    refine r_iload2 hX dX5_hide_15 ?_
    refine r_cV1i hX dX5_hide_16 kX2_hasChalk fr_wX_wP_19_24 (c_X2_hasChalk l g _ _ _) rfl (by decide) (Nat.le_of_ble_eq_true rfl) ?_
    refine r_if_ne hX dX5_hide_19 (fun h19 => ?_) (fun h19 => ?_)
    · refine r_aload0 hX dX5_hide_25 ?_
      have hcc : cl c < 4 := Nat.lt_of_lt_of_le (inD_cl (bI_nz h19) eC (by omega)) hC
      have hor : hb (nw.2 1 (cl d)) c → nw.2 1 (cl d) ||| bit c = nw.2 1 (cl d) := by rw [inD_nI (bI_nz h19)]; exact hb_or hcc
      refine g_wX_0_1 hX dX5_hide_26 ?_
      refine g_wX_3_1 hX dX5_hide_29 ?_
      refine r_iload1 hX dX5_hide_32 ?_
      refine l_wX_5 hX dX5_hide_33 (vin (bI_nz h8) eD hD (by decide)) ?_
      refine r_iload2 hX dX5_hide_34 ?_
      refine r_nS2i hX dX5_hide_35 kX5_has (c_X5_has l g _ _) (by decide) (Nat.le_of_ble_eq_true rfl) ?_
      refine r_istore4 hX dX5_hide_38 rfl ?_
      refine r_iload3 hX dX5_hide_40 ?_
      refine r_if_eq hX dX5_hide_41 (fun h41 => ?_) (fun h41 => ?_)
      · refine r_iload3 hX dX5_hide_80 ?_
        refine r_if_ne hX dX5_hide_81 (fun h81 => ?_) (fun h81 => ?_)
        · refine r_iload4 hX dX5_hide_101 ?_
          refine r_if_eq hX dX5_hide_103 (fun h103 => ?_) (fun h103 => ?_)
          · refine r_push hX dX5_hide_110 ?_
            exact r_iret hX hQ dX5_hide_111 (absurd h41 h81) (absurd h41 h81)
          · refine r_push hX dX5_hide_106 ?_
            refine r_goto hX dX5_hide_107 ?_
            exact r_iret hX hQ dX5_hide_111 (absurd h41 h81) (absurd h41 h81)
        · refine r_aload0 hX dX5_hide_84 ?_
          refine g_wX_0_1 hX dX5_hide_85 ?_
          refine g_wX_3_1 hX dX5_hide_88 ?_
          refine r_iload1 hX dX5_hide_91 ?_
          refine r_dup2 hX dX5_hide_92 rfl rfl ?_
          refine l_wX_5 hX dX5_hide_93 (vin (bI_nz h8) eD hD (by decide)) ?_
          refine r_push hX dX5_hide_94 ?_
          refine r_iload2 hX dX5_hide_95 ?_
          refine r_ishl hX dX5_hide_96 ?_
          refine r_push hX dX5_hide_97 ?_
          refine r_ixor hX dX5_hide_98 ?_
          refine r_iand hX dX5_hide_99 ?_
          refine s_wX_5 hX dX5_hide_100 (vin (bI_nz h8) eD hD (by decide)) ?_
          refine r_iload4 hX dX5_hide_101 ?_
          refine r_if_eq hX dX5_hide_103 (fun h103 => ?_) (fun h103 => ?_)
          · refine r_push hX dX5_hide_110 ?_
            exact r_iret hX hQ dX5_hide_111 (by unfold hideF; rw [if_pos (⟨bI_nz h8, bI_nz h19⟩ : inD d (pl.1 0) ∧ inD c (pl.1 1))]; show some (Value.int 0) = some (Value.int (bI _)); rw [bI_f (bI_z h103)]) (by unfold hideF; rw [if_pos (⟨bI_nz h8, bI_nz h19⟩ : inD d (pl.1 0) ∧ inD c (pl.1 1))]; dsimp only; rw [if_pos h41, if_neg (fun h => h.1 h41)] <;> rfl)
          · refine r_push hX dX5_hide_106 ?_
            refine r_goto hX dX5_hide_107 ?_
            exact r_iret hX hQ dX5_hide_111 (by unfold hideF; rw [if_pos (⟨bI_nz h8, bI_nz h19⟩ : inD d (pl.1 0) ∧ inD c (pl.1 1))]; show some (Value.int 1) = some (Value.int (bI _)); rw [bI_t (bI_nz h103)]) (by unfold hideF; rw [if_pos (⟨bI_nz h8, bI_nz h19⟩ : inD d (pl.1 0) ∧ inD c (pl.1 1))]; dsimp only; rw [if_pos h41, if_neg (fun h => h.1 h41)] <;> rfl)
      · refine r_iload4 hX dX5_hide_44 ?_
        refine r_if_ne hX dX5_hide_46 (fun h46 => ?_) (fun h46 => ?_)
        · refine r_iload3 hX dX5_hide_80 ?_
          refine r_if_ne hX dX5_hide_81 (fun h81 => ?_) (fun h81 => ?_)
          · refine r_iload4 hX dX5_hide_101 ?_
            refine r_if_eq hX dX5_hide_103 (fun h103 => ?_) (fun h103 => ?_)
            · refine r_push hX dX5_hide_110 ?_
              exact r_iret hX hQ dX5_hide_111 (by unfold hideF; rw [if_pos (⟨bI_nz h8, bI_nz h19⟩ : inD d (pl.1 0) ∧ inD c (pl.1 1))]; show some (Value.int 0) = some (Value.int (bI _)); rw [bI_f (bI_z h103)]) (by unfold hideF; rw [if_pos (⟨bI_nz h8, bI_nz h19⟩ : inD d (pl.1 0) ∧ inD c (pl.1 1))]; dsimp only; rw [if_neg h41, if_neg (fun h => h.2 (bI_nz h46)), hor (bI_nz h46), upd_self] <;> rfl)
            · refine r_push hX dX5_hide_106 ?_
              refine r_goto hX dX5_hide_107 ?_
              exact r_iret hX hQ dX5_hide_111 (by unfold hideF; rw [if_pos (⟨bI_nz h8, bI_nz h19⟩ : inD d (pl.1 0) ∧ inD c (pl.1 1))]; show some (Value.int 1) = some (Value.int (bI _)); rw [bI_t (bI_nz h103)]) (by unfold hideF; rw [if_pos (⟨bI_nz h8, bI_nz h19⟩ : inD d (pl.1 0) ∧ inD c (pl.1 1))]; dsimp only; rw [if_neg h41, if_neg (fun h => h.2 (bI_nz h46)), hor (bI_nz h46), upd_self] <;> rfl)
          · refine r_aload0 hX dX5_hide_84 ?_
            refine g_wX_0_1 hX dX5_hide_85 ?_
            refine g_wX_3_1 hX dX5_hide_88 ?_
            refine r_iload1 hX dX5_hide_91 ?_
            refine r_dup2 hX dX5_hide_92 rfl rfl ?_
            refine l_wX_5 hX dX5_hide_93 (vin (bI_nz h8) eD hD (by decide)) ?_
            refine r_push hX dX5_hide_94 ?_
            refine r_iload2 hX dX5_hide_95 ?_
            refine r_ishl hX dX5_hide_96 ?_
            refine r_push hX dX5_hide_97 ?_
            refine r_ixor hX dX5_hide_98 ?_
            refine r_iand hX dX5_hide_99 ?_
            refine s_wX_5 hX dX5_hide_100 (vin (bI_nz h8) eD hD (by decide)) ?_
            refine r_iload4 hX dX5_hide_101 ?_
            refine r_if_eq hX dX5_hide_103 (fun h103 => ?_) (fun h103 => ?_)
            · refine r_push hX dX5_hide_110 ?_
              exact r_iret hX hQ dX5_hide_111 (absurd h81 h41) (absurd h81 h41)
            · refine r_push hX dX5_hide_106 ?_
              refine r_goto hX dX5_hide_107 ?_
              exact r_iret hX hQ dX5_hide_111 (absurd h81 h41) (absurd h81 h41)
        · refine r_aload0 hX dX5_hide_49 ?_
          refine g_wX_0_1 hX dX5_hide_50 ?_
          refine g_wX_3_1 hX dX5_hide_53 ?_
          refine r_iload1 hX dX5_hide_56 ?_
          refine r_dup2 hX dX5_hide_57 rfl rfl ?_
          refine l_wX_5 hX dX5_hide_58 (vin (bI_nz h8) eD hD (by decide)) ?_
          refine r_push hX dX5_hide_59 ?_
          refine r_iload2 hX dX5_hide_60 ?_
          refine r_ishl hX dX5_hide_61 ?_
          refine r_ior hX dX5_hide_62 ?_
          refine s_wX_5 hX dX5_hide_63 (vin (bI_nz h8) eD hD (by decide)) ?_
          refine r_aload0 hX dX5_hide_64 ?_
          refine g_wX_0_1 hX dX5_hide_65 ?_
          refine r_aload0 hX dX5_hide_68 ?_
          refine g_wX_0_6 hX dX5_hide_69 ?_
          refine g_wX_19_4 hX dX5_hide_72 ?_
          refine r_iload2 hX dX5_hide_75 ?_
          refine l_wX_22 hX dX5_hide_76 (vin (bI_nz h19) eC hC (by decide)) ?_
          refine r_cV1v hX dX5_hide_77 kX4_spend fr_wX_wS_3_5 (c_X4_spend l g _ _ _) rfl (by decide) (Nat.le_of_ble_eq_true rfl) ?_
          refine r_iload3 hX dX5_hide_80 ?_
          refine r_if_ne hX dX5_hide_81 (fun h81 => ?_) (fun h81 => ?_)
          · refine r_iload4 hX dX5_hide_101 ?_
            refine r_if_eq hX dX5_hide_103 (fun h103 => ?_) (fun h103 => ?_)
            · refine r_push hX dX5_hide_110 ?_
              exact r_iret hX hQ dX5_hide_111 (by unfold hideF; rw [if_pos (⟨bI_nz h8, bI_nz h19⟩ : inD d (pl.1 0) ∧ inD c (pl.1 1))]; show some (Value.int 0) = some (Value.int (bI _)); rw [bI_f (bI_z h103)]) (by unfold hideF; rw [if_pos (⟨bI_nz h8, bI_nz h19⟩ : inD d (pl.1 0) ∧ inD c (pl.1 1))]; dsimp only; rw [if_neg h41, if_pos ⟨h41, bI_z h46⟩] <;> rfl)
            · refine r_push hX dX5_hide_106 ?_
              refine r_goto hX dX5_hide_107 ?_
              exact r_iret hX hQ dX5_hide_111 (by unfold hideF; rw [if_pos (⟨bI_nz h8, bI_nz h19⟩ : inD d (pl.1 0) ∧ inD c (pl.1 1))]; show some (Value.int 1) = some (Value.int (bI _)); rw [bI_t (bI_nz h103)]) (by unfold hideF; rw [if_pos (⟨bI_nz h8, bI_nz h19⟩ : inD d (pl.1 0) ∧ inD c (pl.1 1))]; dsimp only; rw [if_neg h41, if_pos ⟨h41, bI_z h46⟩] <;> rfl)
          · refine r_aload0 hX dX5_hide_84 ?_
            refine g_wX_0_1 hX dX5_hide_85 ?_
            refine g_wX_3_1 hX dX5_hide_88 ?_
            refine r_iload1 hX dX5_hide_91 ?_
            refine r_dup2 hX dX5_hide_92 rfl rfl ?_
            refine l_wX_5 hX dX5_hide_93 (vin (bI_nz h8) eD hD (by decide)) ?_
            refine r_push hX dX5_hide_94 ?_
            refine r_iload2 hX dX5_hide_95 ?_
            refine r_ishl hX dX5_hide_96 ?_
            refine r_push hX dX5_hide_97 ?_
            refine r_ixor hX dX5_hide_98 ?_
            refine r_iand hX dX5_hide_99 ?_
            refine s_wX_5 hX dX5_hide_100 (vin (bI_nz h8) eD hD (by decide)) ?_
            refine r_iload4 hX dX5_hide_101 ?_
            refine r_if_eq hX dX5_hide_103 (fun h103 => ?_) (fun h103 => ?_)
            · refine r_push hX dX5_hide_110 ?_
              exact r_iret hX hQ dX5_hide_111 (absurd h81 h41) (absurd h81 h41)
            · refine r_push hX dX5_hide_106 ?_
              refine r_goto hX dX5_hide_107 ?_
              exact r_iret hX hQ dX5_hide_111 (absurd h81 h41) (absurd h81 h41)
    · refine r_push hX dX5_hide_22 ?_
      exact r_iret hX hQ dX5_hide_24 (by unfold hideF; rw [if_neg (fun h => bI_z h19 h.2)] <;> rfl) (by unfold hideF; rw [if_neg (fun h => bI_z h19 h.2)] <;> rfl)
