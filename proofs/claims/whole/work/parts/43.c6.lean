theorem p_wRP_0_1 {X : CT} {l : Launch} {g : GT} {own : String} {cc : ByteArray} {R : Room} {cs sl pc nx : Nat} {lv : List (Option Value)} {st : List Value} {b : Nat → Nat} {σ : S2} {d : Nat → Nat} {π : S2} {v : Int32} (hX : oK X l g own cc R) (hd : dPf own cc pc 3 1 .int nx) (k : vJ X cs sl (wRP g b (su σ 1 v) d π) nx lv st) : vJ X cs sl (wRP g b σ d π) pc lv (.int v :: .ref (b 0) :: st) := r_put hX hd 0 rfl rfl rfl (Nat.le_of_ble_eq_true rfl) _ rfl k
theorem g_wRP_0_1 {X : CT} {l : Launch} {g : GT} {own : String} {cc : ByteArray} {R : Room} {cs sl pc nx : Nat} {lv : List (Option Value)} {st : List Value} {b : Nat → Nat} {σ : S2} {d : Nat → Nat} {π : S2} (hX : oK X l g own cc R) (hd : dGf own cc pc 3 1 nx) (k : vJ X cs sl (wRP g b σ d π) nx lv (.int (σ.1 1) :: st)) : vJ X cs sl (wRP g b σ d π) pc lv (.ref (b 0) :: st) := r_get hX hd 0 rfl rfl k
theorem g_wRP_0_0 {X : CT} {l : Launch} {g : GT} {own : String} {cc : ByteArray} {R : Room} {cs sl pc nx : Nat} {lv : List (Option Value)} {st : List Value} {b : Nat → Nat} {σ : S2} {d : Nat → Nat} {π : S2} (hX : oK X l g own cc R) (hd : dGf own cc pc 3 0 nx) (k : vJ X cs sl (wRP g b σ d π) nx lv (.ref (b 1) :: st)) : vJ X cs sl (wRP g b σ d π) pc lv (.ref (b 0) :: st) := r_get hX hd 0 rfl rfl k
theorem l_wRP_1 {X : CT} {l : Launch} {g : GT} {own : String} {cc : ByteArray} {R : Room} {cs sl pc nx : Nat} {lv : List (Option Value)} {st : List Value} {b : Nat → Nat} {σ : S2} {d : Nat → Nat} {π : S2} {i : Int32} (hX : oK X l g own cc R) (hd : dR cc pc (.iaload) 1 nx) (hi : vp_in i 200) (k : vJ X cs sl (wRP g b σ d π) nx lv (.int (σ.2 0 i.toNatClampNeg) :: st)) : vJ X cs sl (wRP g b σ d π) pc lv (.int i :: .ref (b 1) :: st) := r_iald hX hd 1 rfl hi k
theorem p_wRP_0_2 {X : CT} {l : Launch} {g : GT} {own : String} {cc : ByteArray} {R : Room} {cs sl pc nx : Nat} {lv : List (Option Value)} {st : List Value} {b : Nat → Nat} {σ : S2} {d : Nat → Nat} {π : S2} {v : Int32} (hX : oK X l g own cc R) (hd : dPf own cc pc 3 2 .int nx) (k : vJ X cs sl (wRP g b (su σ 2 v) d π) nx lv st) : vJ X cs sl (wRP g b σ d π) pc lv (.int v :: .ref (b 0) :: st) := r_put hX hd 0 rfl rfl rfl (Nat.le_of_ble_eq_true rfl) _ rfl k
theorem p_wRP_0_3 {X : CT} {l : Launch} {g : GT} {own : String} {cc : ByteArray} {R : Room} {cs sl pc nx : Nat} {lv : List (Option Value)} {st : List Value} {b : Nat → Nat} {σ : S2} {d : Nat → Nat} {π : S2} {v : Int32} (hX : oK X l g own cc R) (hd : dPf own cc pc 3 3 .int nx) (k : vJ X cs sl (wRP g b (su σ 3 v) d π) nx lv st) : vJ X cs sl (wRP g b σ d π) pc lv (.int v :: .ref (b 0) :: st) := r_put hX hd 0 rfl rfl rfl (Nat.le_of_ble_eq_true rfl) _ rfl k
theorem p_wRP_0_4 {X : CT} {l : Launch} {g : GT} {own : String} {cc : ByteArray} {R : Room} {cs sl pc nx : Nat} {lv : List (Option Value)} {st : List Value} {b : Nat → Nat} {σ : S2} {d : Nat → Nat} {π : S2} {v : Int32} (hX : oK X l g own cc R) (hd : dPf own cc pc 3 4 .int nx) (k : vJ X cs sl (wRP g b (su σ 4 v) d π) nx lv st) : vJ X cs sl (wRP g b σ d π) pc lv (.int v :: .ref (b 0) :: st) := r_put hX hd 0 rfl rfl rfl (Nat.le_of_ble_eq_true rfl) _ rfl k
set_option maxHeartbeats 400000 in
theorem c_X3_readInto (l : Launch) (g : GT) (b : Nat → Nat) (σ : S2) (d : Nat → Nat) (π : S2)  (T : Nat) (hT : T ≤ 200) (eT : σ.1 1 = nI T) : Cx l g yX3_readInto cX3_readInto 3 (some .int) (k2_rm 4 120) [.ref (b 0), .ref (d 0)] (wRP g b σ d π) (some (.int ((xRdI σ π).1.1 3))) (wRP g b (xRdI σ π).1 d (xRdI σ π).2) := by
  refine meth (own := "ChalkedDoors$Reader") (by decide) rfl (Nat.le_of_ble_eq_true rfl) [some (.ref (b 0)), some (.ref (d 0)), none] rfl (fun X hX hQ => ?_)
  unfold xRdI at hQ
  generalize hS : xPar 200 (xBeg σ) (xClr π) = S at hQ
  have hfin : ∀ o2 : Option Value, vJ X 0 0 (wRP g b S.1 d S.2) 83 [some (.ref (b 0)), some (.ref (d 0)), o2] [] := by
    intro o2
    refine r_aload0 hX dX3_readInto_83 ?_
    refine r_push hX dX3_readInto_84 ?_
    refine p_wRP_0_1 hX dX3_readInto_85 ?_
    refine r_aload0 hX dX3_readInto_88 ?_
    refine g_wRP_0_3 hX dX3_readInto_89 ?_
    exact r_iret hX hQ dX3_readInto_92 (rfl) (rfl)
  have hL : ∀ (n i : Nat) (x : Int32) (ρ' π' : S2), x = nI i → i + n = 200 → RQ ρ' π' → S = xPar n ρ' π' → vJ X 0 0 (wRP g b ρ' d π') 31 [some (.ref (b 0)), some (.ref (d 0)), some (.int x)] [] := by
    intro n
    induction n with
    | zero =>
      intro i x ρ' π' hx hn hq hs
      have e1 : ρ' = S.1 := by rw [hs]; rfl
      have e2 : π' = S.2 := by rw [hs]; rfl
      refine r_iload2 hX dX3_readInto_31 ?_
      refine r_push hX dX3_readInto_32 ?_
      refine r_ic_ge hX dX3_readInto_35 (fun h35 => ?_) (fun h35 => absurd (lpx (e := 200) hx rfl (by decide) (by omega) (by omega)) h35)
      rw [e1, e2]
      exact hfin _
    | succ n ih =>
      intro i x ρ' π' hx hn hq hs
      rw [xPar_s] at hs
      obtain ⟨hpT, hT2, eT2, ep2⟩ := RI_e hq.1
      have hkT := rK_le hq.1
      have hck : (nI (rK ρ')).toNatClampNeg = rK ρ' := nI_clamp (by omega)
      refine r_iload2 hX dX3_readInto_31 ?_
      refine r_push hX dX3_readInto_32 ?_
      refine r_ic_ge hX dX3_readInto_35 (fun h35 => absurd h35 (lpn (e := 200) hx rfl (by decide) (by omega))) (fun h35 => ?_)
      refine r_aload0 hX dX3_readInto_38 ?_
      refine g_wRP_0_3 hX dX3_readInto_39 ?_
      refine r_if_ne hX dX3_readInto_42 (fun h42 => ?_) (fun h42 => ?_)
      · rw [if_neg h42] at hs
        have e1 : ρ' = S.1 := by rw [hs]
        have e2 : π' = S.2 := by rw [hs]
        rw [e1, e2]
        exact hfin _
      · refine r_aload0 hX dX3_readInto_45 ?_
        refine r_cV0v hX dX3_readInto_46 kX3_skipBlanks fr_wRP_wR_0_1 (c_X3_skipBlanks l g _ _ hq.1) rfl (by decide) (Nat.le_of_ble_eq_true rfl) ?_
        refine r_aload0 hX dX3_readInto_49 ?_
        refine g_wRP_0_2 hX dX3_readInto_50 ?_
        refine r_aload0 hX dX3_readInto_53 ?_
        refine g_wRP_0_1 hX dX3_readInto_54 ?_
        refine r_ic_lt hX dX3_readInto_57 (fun h57 => ?_) (fun h57 => ?_)
        · have hlt : rK ρ' < rT ρ' := by
            have z : nI (rK ρ') < ρ'.1 1 := h57
            rw [eT2] at z
            exact (nI_ltI (by omega) (by omega)).mp z
          obtain ⟨D0, hD0, eD0⟩ := hq.2.1 h42
          obtain ⟨C0, hC0, eC0⟩ := hq.2.2
          rw [if_pos h42, if_pos hlt] at hs
          refine r_aload0 hX dX3_readInto_63 ?_
          refine r_aload1 hX dX3_readInto_64 ?_
          refine r_aload0 hX dX3_readInto_65 ?_
          refine g_wRP_0_0 hX dX3_readInto_66 ?_
          refine r_aload0 hX dX3_readInto_69 ?_
          refine g_wRP_0_2 hX dX3_readInto_70 ?_
          refine l_wRP_1 hX dX3_readInto_73 (vp_in_nI (n := rK ρ') (Nat.lt_of_lt_of_le hlt hT2) (by decide)) ?_
          refine r_aV2v hX dX3_readInto_74 kX3_readClause (c_X3_readClause l g _ _ _ _ _ (RJ_skp hq.1 hlt) D0 hD0 eD0 C0 hC0 eC0) ad_wRP rfl (by decide) (Nat.le_of_ble_eq_true rfl) ?_
          refine r_iinc2 hX dX3_readInto_77 rfl ?_
          refine r_goto hX dX3_readInto_80 ?_
          have ew : (xSkp ρ').2 0 ((xSkp ρ').1 2).toNatClampNeg = ρ'.2 0 (rK ρ') := by show ρ'.2 0 (nI (rK ρ')).toNatClampNeg = _; rw [hck]
          rw [ew]
          exact ih (i + 1) _ _ _ (by rw [hx]; exact nI_1 i) (by omega) (xCla_ok (RJ_skp hq.1 hlt) ⟨D0, hD0, eD0⟩ ⟨C0, hC0, eC0⟩) hs
        · refine r_goto hX dX3_readInto_60 ?_
          rw [if_pos h42, if_neg (show ¬ rK ρ' < rT ρ' from fun z => h57 (by show nI (rK ρ') < ρ'.1 1; rw [eT2]; exact nI_lt z (by omega)))] at hs
          have e1 : xSkp ρ' = S.1 := by rw [hs]
          have e2 : π' = S.2 := by rw [hs]
          rw [e1, e2]
          exact hfin _
  refine r_aload0 hX dX3_readInto_0 ?_
  refine r_push hX dX3_readInto_1 ?_
  refine p_wRP_0_2 hX dX3_readInto_2 ?_
  refine r_aload0 hX dX3_readInto_5 ?_
  refine r_push hX dX3_readInto_6 ?_
  refine p_wRP_0_3 hX dX3_readInto_7 ?_
  refine r_aload0 hX dX3_readInto_10 ?_
  refine r_push hX dX3_readInto_11 ?_
  refine p_wRP_0_4 hX dX3_readInto_12 ?_
  refine r_aload0 hX dX3_readInto_15 ?_
  refine r_push hX dX3_readInto_16 ?_
  refine p_wRP_0_6 hX dX3_readInto_17 rfl rfl ?_
  refine r_aload0 hX dX3_readInto_20 ?_
  refine r_push hX dX3_readInto_21 ?_
  refine p_wRP_0_7 hX dX3_readInto_22 ?_
  refine r_aload1 hX dX3_readInto_25 ?_
  refine r_cV0v hX dX3_readInto_26 kX2_clear fr_wRP_wP_2_7 (c_X2_clear l g _ _) rfl (by decide) (Nat.le_of_ble_eq_true rfl) ?_
  refine r_push hX dX3_readInto_29 ?_
  refine r_istore2 hX dX3_readInto_30 rfl ?_
  refine vJw (w' := wRP g b (xBeg σ) d (xClr π)) rfl ?_
  exact hL 200 0 _ _ _ rfl (by omega) ⟨⟨T, 0, hT, Nat.zero_le _, eT, rfl⟩, fun _ => ⟨0, by decide, rfl⟩, ⟨0, by decide, rfl⟩⟩ hS.symm
