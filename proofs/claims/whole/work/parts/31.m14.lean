theorem g_wM_0_35 {X : CT} {l : Launch} {g : GT} {own : String} {cc : ByteArray} {R : Room} {cs sl pc nx : Nat} {lv : List (Option Value)} {st : List Value} {b : Nat → Nat} {σ : S2} (hX : oK X l g own cc R) (hd : dGf own cc pc 6 35 nx) (k : vJ X cs sl (wM g b σ) nx lv (.int (σ.1 35) :: st)) : vJ X cs sl (wM g b σ) pc lv (.ref (b 0) :: st) := r_get hX hd 0 rfl rfl k
theorem p_wM_0_34 {X : CT} {l : Launch} {g : GT} {own : String} {cc : ByteArray} {R : Room} {cs sl pc nx : Nat} {lv : List (Option Value)} {st : List Value} {b : Nat → Nat} {σ : S2} {v : Int32} (hX : oK X l g own cc R) (hd : dPf own cc pc 6 34 .int nx) (k : vJ X cs sl (wM g b (su σ 34 v)) nx lv st) : vJ X cs sl (wM g b σ) pc lv (.int v :: .ref (b 0) :: st) := r_put hX hd 0 rfl rfl rfl (Nat.le_of_ble_eq_true rfl) _ rfl k
theorem p_wM_0_35 {X : CT} {l : Launch} {g : GT} {own : String} {cc : ByteArray} {R : Room} {cs sl pc nx : Nat} {lv : List (Option Value)} {st : List Value} {b : Nat → Nat} {σ : S2} {v : Int32} (hX : oK X l g own cc R) (hd : dPf own cc pc 6 35 .int nx) (k : vJ X cs sl (wM g b (su σ 35 v)) nx lv st) : vJ X cs sl (wM g b σ) pc lv (.int v :: .ref (b 0) :: st) := r_put hX hd 0 rfl rfl rfl (Nat.le_of_ble_eq_true rfl) _ rfl k
theorem g_wM_0_34 {X : CT} {l : Launch} {g : GT} {own : String} {cc : ByteArray} {R : Room} {cs sl pc nx : Nat} {lv : List (Option Value)} {st : List Value} {b : Nat → Nat} {σ : S2} (hX : oK X l g own cc R) (hd : dGf own cc pc 6 34 nx) (k : vJ X cs sl (wM g b σ) nx lv (.int (σ.1 34) :: st)) : vJ X cs sl (wM g b σ) pc lv (.ref (b 0) :: st) := r_get hX hd 0 rfl rfl k
theorem s_wM_15 {X : CT} {l : Launch} {g : GT} {own : String} {cc : ByteArray} {R : Room} {cs sl pc nx : Nat} {lv : List (Option Value)} {st : List Value} {b : Nat → Nat} {σ : S2} {i v : Int32} (hX : oK X l g own cc R) (hd : dR cc pc (.iastore) 1 nx) (hi : vp_in i 16) (k : vJ X cs sl (wM g b (au σ 33 i.toNatClampNeg v)) nx lv st) : vJ X cs sl (wM g b σ) pc lv (.int v :: .int i :: .ref (b 15) :: st) := r_iast hX hd 15 rfl hi _ rfl k
set_option maxHeartbeats 400000 in
theorem c_X6_sight (l : Launch) (g : GT) (b : Nat → Nat) (σ : S2) (m : Int32) (D : Nat) (hD : D ≤ 14) (eD : σ.1 0 = nI D) (S : Nat) (hS : S ≤ 9) (eS : σ.1 7 = nI S) (hD1 : S ≠ 0 → 1 ≤ D) : Cx l g yX6_sight cX6_sight 4 (some .int) (k2_rm 2 60) [.ref (b 0), .int m] (wM g b σ) (some (.int (if inB m.toInt 1 99 then (if σ.1 7 = 0 then -1 else nI (sigN D S m)) else -1000000002))) (wM g b σ) := by
  refine meth (own := "ChalkedDoorsModel") (by decide) rfl (Nat.le_of_ble_eq_true rfl) [some (.ref (b 0)), some (.int m), none, none] rfl (fun X hX hQ => ?_)
  generalize hsp : sigN D S m = Z at hQ
  unfold sigN at hsp
  have hS1 : ¬ σ.1 7 = 0 → 1 ≤ S ∧ 1 ≤ D := fun h => ⟨Nat.pos_of_ne_zero (fun z => h (by rw [eS, z]; rfl)), hD1 (fun z => h (by rw [eS, z]; rfl))⟩
  have hL28 : ∀ (n i : Nat) (x : Int32) (s : Nat), x = nI i → i + n = D → inB m.toInt 1 99 → ¬ σ.1 7 = 0 → s ≤ 13 → Z = lp (fun d s => sgI (fun s => unsF D S (nI d) (nI s)) m (13 - s) s) n i s → vJ X 0 0 (wM g b σ) 28 [some (.ref (b 0)), some (.int m), some (.int (nI s)), some (.int x)] [] := by
    intro n
    induction n with
    | zero =>
      intro i x s hx hn hm h7 hs13 hs
      refine r_iload3 hX dX6_sight_28 ?_
      refine r_aload0 hX dX6_sight_29 ?_
      refine g_wM_0_0 hX dX6_sight_30 ?_
      refine r_ic_ge hX dX6_sight_33 (fun h33 => ?_) (fun h33 => absurd (lpx (e := D) hx eD (by omega) (by omega) (by omega)) h33)
      refine r_iload2 hX dX6_sight_58 ?_
      exact r_iret hX hQ dX6_sight_59 (by rw [if_pos hm, if_neg h7, hs] <;> rfl) (rfl)
    | succ n ih =>
      intro i x s hx hn hm h7 hs13 hs
      have hS1 := hS1 h7
      have hi : i < D := by omega
      have hUx : ∀ s, unsF D S x (nI s) = unsF D S (nI i) (nI s) := fun s => by rw [hx]
      have hI : ∀ (n2 s' : Nat), s' + n2 = 13 → sgI (fun s => unsF D S (nI i) (nI s)) m (13 - s) s = sgI (fun s => unsF D S (nI i) (nI s)) m n2 s' → vJ X 0 0 (wM g b σ) 36 [some (.ref (b 0)), some (.int m), some (.int (nI s')), some (.int x)] [] := by
        intro n2
        induction n2 with
        | zero =>
          intro s' hs' hT
          have hT : sgI (fun s => unsF D S (nI i) (nI s)) m (13 - s) s = s' := hT
          refine r_aload0 hX dX6_sight_36 ?_
          refine r_iload3 hX dX6_sight_37 ?_
          refine r_iload2 hX dX6_sight_38 ?_
          refine r_aV2i hX dX6_sight_39 kX6_unseenBy (c_X6_unseenBy l g _ _ _ _ D hD eD S hS eS (by omega) (by omega)) ad_wM rfl (by decide) (Nat.le_of_ble_eq_true rfl) ?_
          refine r_iload1 hX dX6_sight_42 ?_
          refine r_ic_lt hX dX6_sight_43 (fun h43 => ?_) (fun h43 => absurd (show unsF D S x (nI s') < m by rw [hUx, uns13 (by omega) hD (by omega) hS hi (by omega) (by omega)]; rw [Int32.lt_iff_toInt_lt]; have := hm.1; have : (0 : Int32).toInt = 0 := rfl; omega) h43)
          refine r_iinc3 hX dX6_sight_52 rfl ?_
          refine r_goto hX dX6_sight_55 ?_
          exact ih (i + 1) _ s' (by rw [hx]; exact nI_1 i) (by omega) hm h7 (by omega) (by rw [hs]; show lp _ n (i + 1) (sgI _ m (13 - s) s) = _; rw [hT])
        | succ n2 ih2 =>
          intro s' hs' hT
          rw [sgI_s] at hT
          refine r_aload0 hX dX6_sight_36 ?_
          refine r_iload3 hX dX6_sight_37 ?_
          refine r_iload2 hX dX6_sight_38 ?_
          refine r_aV2i hX dX6_sight_39 kX6_unseenBy (c_X6_unseenBy l g _ _ _ _ D hD eD S hS eS (by omega) (by omega)) ad_wM rfl (by decide) (Nat.le_of_ble_eq_true rfl) ?_
          refine r_iload1 hX dX6_sight_42 ?_
          refine r_ic_lt hX dX6_sight_43 (fun h43 => ?_) (fun h43 => ?_)
          · refine r_iinc3 hX dX6_sight_52 rfl ?_
            refine r_goto hX dX6_sight_55 ?_
            rw [if_pos (by rw [← hUx]; exact h43)] at hT
            exact ih (i + 1) _ s' (by rw [hx]; exact nI_1 i) (by omega) hm h7 (by omega) (by rw [hs]; show lp _ n (i + 1) (sgI _ m (13 - s) s) = _; rw [hT])
          · refine r_iinc2 hX dX6_sight_46 rfl ?_
            refine r_goto hX dX6_sight_49 ?_
            rw [nI_1]
            exact ih2 (s' + 1) (by omega) (by rw [hT, if_neg (by rw [← hUx]; exact h43)])
      refine r_iload3 hX dX6_sight_28 ?_
      refine r_aload0 hX dX6_sight_29 ?_
      refine g_wM_0_0 hX dX6_sight_30 ?_
      refine r_ic_ge hX dX6_sight_33 (fun h33 => absurd h33 (lpn (e := D) hx eD (by omega) (by omega))) (fun h33 => ?_)
      exact hI (13 - s) s (by omega) rfl
  refine r_iload1 hX dX6_sight_0 ?_
  refine r_i2l hX dX6_sight_1 ?_
  refine r_pushl hX dX6_sight_2 ?_
  refine r_pushl hX dX6_sight_3 ?_
  refine r_nS3i hX dX6_sight_6 kX6_in (c_X6_in l g _ _ _) (by decide) (Nat.le_of_ble_eq_true rfl) ?_
  refine r_if_ne hX dX6_sight_9 (fun h9 => ?_) (fun h9 => ?_)
  · refine r_aload0 hX dX6_sight_15 ?_
    refine g_wM_0_7 hX dX6_sight_16 ?_
    refine r_if_ne hX dX6_sight_19 (fun h19 => ?_) (fun h19 => ?_)
    · refine r_push hX dX6_sight_24 ?_
      refine r_istore2 hX dX6_sight_25 rfl ?_
      refine r_push hX dX6_sight_26 ?_
      refine r_istore3 hX dX6_sight_27 rfl ?_
      exact hL28 D 0 _ 0 rfl (by omega) (by have q := bI_nz h9; rw [Int32.toInt_toInt64] at q; exact q) h19 (by decide) hsp.symm
    · refine r_push hX dX6_sight_22 ?_
      exact r_iret hX hQ dX6_sight_23 (by rw [if_pos (show inB m.toInt 1 99 by have q := bI_nz h9; rw [Int32.toInt_toInt64] at q; exact q), if_pos h19]) (rfl)
  · refine r_push hX dX6_sight_12 ?_
    exact r_iret hX hQ dX6_sight_14 (by rw [if_neg (fun q => bI_z h9 (by rw [Int32.toInt_toInt64]; exact q))]) (rfl)
set_option maxHeartbeats 400000 in
theorem c_X6_findCode (l : Launch) (g : GT) (b : Nat → Nat) (σ : S2) (e : Int32) (D : Nat) (hD : D ≤ 14) (eD : σ.1 0 = nI D) (C : Nat) (hC : C ≤ 4) (eC : σ.1 1 = nI C) : Cx l g yX6_findCode cX6_findCode 5 none (k2_rm 3 90) [.ref (b 0), .int e] (wM g b σ) none (wM g b (su (su (aw σ 33 (cpN 16 (nearF e) (σ.2 33))) 34 (fcF D C (σ.2 4) (cpN 16 (nearF e) (σ.2 33))).1) 35 (fcF D C (σ.2 4) (cpN 16 (nearF e) (σ.2 33))).2)) := by
  refine meth (own := "ChalkedDoorsModel") (by decide) rfl (Nat.le_of_ble_eq_true rfl) [some (.ref (b 0)), some (.int e), none, none, none] rfl (fun X hX hQ => ?_)
  generalize hN : cpN 16 (nearF e) (σ.2 33) = N' at hQ
  unfold cpN at hN
  generalize hF : fcF D C (σ.2 4) N' = F at hQ
  unfold fcF at hF
  obtain ⟨hp1, hp2⟩ := pw2 hC eC
  have hL84 : ∀ (n i : Nat) (x : Int32) (p q : Int32) (o3 o4 : Option Value), x = nI i → i + n = (2 ^ 2 ^ C) → F = lp (fcC D C (σ.2 4) N') n i (p, q) → vJ X 0 0 (wM g b (su (su (aw σ 33 N') 34 p) 35 q)) 84 [some (.ref (b 0)), some (.int e), some (.int x), o3, o4] [] := by
    intro n
    induction n with
    | zero =>
      intro i x p q o3 o4 hx hn hs
      refine r_iload2 hX dX6_findCode_84 ?_
      refine r_push hX dX6_findCode_85 ?_
      refine r_push hX dX6_findCode_86 ?_
      refine r_aload0 hX dX6_findCode_87 ?_
      refine g_wM_0_1 hX dX6_findCode_88 ?_
      refine r_ishl hX dX6_findCode_91 ?_
      refine r_ishl hX dX6_findCode_92 ?_
      refine r_ic_ge hX dX6_findCode_93 (fun h93 => ?_) (fun h93 => absurd (lpx (e := (2 ^ 2 ^ C)) hx hp1 (by omega) (by omega) (by omega)) h93)
      exact r_vret hX hQ dX6_findCode_194 (by rw [hs] <;> rfl)
    | succ n ih =>
      intro i x p q o3 o4 hx hn hs
      refine r_iload2 hX dX6_findCode_84 ?_
      refine r_push hX dX6_findCode_85 ?_
      refine r_push hX dX6_findCode_86 ?_
      refine r_aload0 hX dX6_findCode_87 ?_
      refine g_wM_0_1 hX dX6_findCode_88 ?_
      refine r_ishl hX dX6_findCode_91 ?_
      refine r_ishl hX dX6_findCode_92 ?_
      refine r_ic_ge hX dX6_findCode_93 (fun h93 => absurd h93 (lpn (e := (2 ^ 2 ^ C)) hx hp1 (by omega) (by omega))) (fun h93 => ?_)
      refine r_iload2 hX dX6_findCode_96 ?_
      refine r_nS1i hX dX6_findCode_97 kX6_bits (c_X6_bits l g _) (by decide) (Nat.le_of_ble_eq_true rfl) ?_
      refine r_aload0 hX dX6_findCode_100 ?_
      refine g_wM_0_0 hX dX6_findCode_101 ?_
      refine r_ic_ne hX dX6_findCode_104 (fun h104 => ?_) (fun h104 => ?_)
      · refine r_iinc2 hX dX6_findCode_188 rfl ?_
        refine r_goto hX dX6_findCode_191 ?_
        exact ih (i + 1) _ _ _ _ _ (by rw [hx]; exact nI_1 i) (by omega) (by rw [hs]; show lp _ n (i + 1) (fcC _ _ _ _ i (p, q)) = _; unfold fcC; rw [← hx, if_neg (show ¬ bitsF x = nI D by rw [← eD]; exact h104)])
      · refine r_aload0 hX dX6_findCode_107 ?_
        refine r_iload2 hX dX6_findCode_108 ?_
        refine r_aV1i hX dX6_findCode_109 kX6_costOfCode (c_X6_costOfCode l g _ _ _ C hC (by exact eC)) ad_wM rfl (by decide) (Nat.le_of_ble_eq_true rfl) ?_
        refine r_istore3 hX dX6_findCode_112 rfl ?_
        refine r_iload3 hX dX6_findCode_113 ?_
        refine r_aload0 hX dX6_findCode_114 ?_
        refine g_wM_0_35 hX dX6_findCode_115 ?_
        refine r_ic_lt hX dX6_findCode_118 (fun h118 => ?_) (fun h118 => ?_)
        · refine r_push hX dX6_findCode_147 ?_
          refine r_goto hX dX6_findCode_148 ?_
          refine r_istore4 hX dX6_findCode_152 rfl ?_
          refine r_aload0 hX dX6_findCode_154 ?_
          refine r_iload4 hX dX6_findCode_155 ?_
          refine r_if_eq hX dX6_findCode_157 (fun h157 => absurd h157 (by decide)) (fun h157 => ?_)
          refine r_iload2 hX dX6_findCode_160 ?_
          refine r_goto hX dX6_findCode_161 ?_
          refine p_wM_0_34 hX dX6_findCode_168 ?_
          refine r_aload0 hX dX6_findCode_171 ?_
          refine r_iload4 hX dX6_findCode_172 ?_
          refine r_if_eq hX dX6_findCode_174 (fun h174 => absurd h174 (by decide)) (fun h174 => ?_)
          refine r_iload3 hX dX6_findCode_177 ?_
          refine r_goto hX dX6_findCode_178 ?_
          refine p_wM_0_35 hX dX6_findCode_185 ?_
          refine r_iinc2 hX dX6_findCode_188 rfl ?_
          refine r_goto hX dX6_findCode_191 ?_
          refine vJw (w' := wM g b (su (su (aw σ 33 N') 34 x) 35 (ccF C (σ.2 4) N' x 16 0 0))) rfl ?_
          exact ih (i + 1) _ _ _ _ _ (by rw [hx]; exact nI_1 i) (by omega) (by rw [hs]; show lp _ n (i + 1) (fcC _ _ _ _ i (p, q)) = _; unfold fcC; rw [← hx, if_pos (show bitsF x = nI D by rw [← eD]; exact h104), if_pos (Or.inl (show ccF C (σ.2 4) N' x 16 0 0 < q from h118))])
        · refine r_iload3 hX dX6_findCode_121 ?_
          refine r_aload0 hX dX6_findCode_122 ?_
          refine g_wM_0_35 hX dX6_findCode_123 ?_
          refine r_ic_ne hX dX6_findCode_126 (fun h126 => ?_) (fun h126 => ?_)
          · refine r_push hX dX6_findCode_151 ?_
            refine r_istore4 hX dX6_findCode_152 rfl ?_
            refine r_aload0 hX dX6_findCode_154 ?_
            refine r_iload4 hX dX6_findCode_155 ?_
            refine r_if_eq hX dX6_findCode_157 (fun h157 => ?_) (fun h157 => absurd h157 (by decide))
            refine r_aload0 hX dX6_findCode_164 ?_
            refine g_wM_0_34 hX dX6_findCode_165 ?_
            refine p_wM_0_34 hX dX6_findCode_168 ?_
            refine r_aload0 hX dX6_findCode_171 ?_
            refine r_iload4 hX dX6_findCode_172 ?_
            refine r_if_eq hX dX6_findCode_174 (fun h174 => ?_) (fun h174 => absurd h174 (by decide))
            refine r_aload0 hX dX6_findCode_181 ?_
            refine g_wM_0_35 hX dX6_findCode_182 ?_
            refine p_wM_0_35 hX dX6_findCode_185 ?_
            refine r_iinc2 hX dX6_findCode_188 rfl ?_
            refine r_goto hX dX6_findCode_191 ?_
            refine vJw (w' := wM g b (su (su (aw σ 33 N') 34 p) 35 q)) rfl ?_
            exact ih (i + 1) _ _ _ _ _ (by rw [hx]; exact nI_1 i) (by omega) (by rw [hs]; show lp _ n (i + 1) (fcC _ _ _ _ i (p, q)) = _; unfold fcC; rw [← hx, if_pos (show bitsF x = nI D by rw [← eD]; exact h104), if_neg (fun z => z.elim (fun y => h118 y) (fun y => h126 y.1))])
          · refine r_iload3 hX dX6_findCode_129 ?_
            refine r_push hX dX6_findCode_130 ?_
            refine r_ic_ge hX dX6_findCode_133 (fun h133 => ?_) (fun h133 => ?_)
            · refine r_push hX dX6_findCode_151 ?_
              refine r_istore4 hX dX6_findCode_152 rfl ?_
              refine r_aload0 hX dX6_findCode_154 ?_
              refine r_iload4 hX dX6_findCode_155 ?_
              refine r_if_eq hX dX6_findCode_157 (fun h157 => ?_) (fun h157 => absurd h157 (by decide))
              refine r_aload0 hX dX6_findCode_164 ?_
              refine g_wM_0_34 hX dX6_findCode_165 ?_
              refine p_wM_0_34 hX dX6_findCode_168 ?_
              refine r_aload0 hX dX6_findCode_171 ?_
              refine r_iload4 hX dX6_findCode_172 ?_
              refine r_if_eq hX dX6_findCode_174 (fun h174 => ?_) (fun h174 => absurd h174 (by decide))
              refine r_aload0 hX dX6_findCode_181 ?_
              refine g_wM_0_35 hX dX6_findCode_182 ?_
              refine p_wM_0_35 hX dX6_findCode_185 ?_
              refine r_iinc2 hX dX6_findCode_188 rfl ?_
              refine r_goto hX dX6_findCode_191 ?_
              refine vJw (w' := wM g b (su (su (aw σ 33 N') 34 p) 35 q)) rfl ?_
              exact ih (i + 1) _ _ _ _ _ (by rw [hx]; exact nI_1 i) (by omega) (by rw [hs]; show lp _ n (i + 1) (fcC _ _ _ _ i (p, q)) = _; unfold fcC; rw [← hx, if_pos (show bitsF x = nI D by rw [← eD]; exact h104), if_neg (fun z => z.elim (fun y => h118 y) (fun y => nle_of_lt y.2.1 h133))])
            · refine r_iload2 hX dX6_findCode_136 ?_
              refine r_aload0 hX dX6_findCode_137 ?_
              refine g_wM_0_34 hX dX6_findCode_138 ?_
              refine r_nS2i hX dX6_findCode_141 kX6_isAhead (c_X6_isAhead l g _ _) (by decide) (Nat.le_of_ble_eq_true rfl) ?_
              refine r_if_eq hX dX6_findCode_144 (fun h144 => ?_) (fun h144 => ?_)
              · refine r_push hX dX6_findCode_151 ?_
                refine r_istore4 hX dX6_findCode_152 rfl ?_
                refine r_aload0 hX dX6_findCode_154 ?_
                refine r_iload4 hX dX6_findCode_155 ?_
                refine r_if_eq hX dX6_findCode_157 (fun h157 => ?_) (fun h157 => absurd h157 (by decide))
                refine r_aload0 hX dX6_findCode_164 ?_
                refine g_wM_0_34 hX dX6_findCode_165 ?_
                refine p_wM_0_34 hX dX6_findCode_168 ?_
                refine r_aload0 hX dX6_findCode_171 ?_
                refine r_iload4 hX dX6_findCode_172 ?_
                refine r_if_eq hX dX6_findCode_174 (fun h174 => ?_) (fun h174 => absurd h174 (by decide))
                refine r_aload0 hX dX6_findCode_181 ?_
                refine g_wM_0_35 hX dX6_findCode_182 ?_
                refine p_wM_0_35 hX dX6_findCode_185 ?_
                refine r_iinc2 hX dX6_findCode_188 rfl ?_
                refine r_goto hX dX6_findCode_191 ?_
                refine vJw (w' := wM g b (su (su (aw σ 33 N') 34 p) 35 q)) rfl ?_
                exact ih (i + 1) _ _ _ _ _ (by rw [hx]; exact nI_1 i) (by omega) (by rw [hs]; show lp _ n (i + 1) (fcC _ _ _ _ i (p, q)) = _; unfold fcC; rw [← hx, if_pos (show bitsF x = nI D by rw [← eD]; exact h104), if_neg (fun z => z.elim (fun y => h118 y) (fun y => absurd (show (1 : Int32) = 0 from (if_pos (show aheadF x p from y.2.2)).symm.trans h144) (by decide)))])
              · refine r_push hX dX6_findCode_147 ?_
                refine r_goto hX dX6_findCode_148 ?_
                refine r_istore4 hX dX6_findCode_152 rfl ?_
                refine r_aload0 hX dX6_findCode_154 ?_
                refine r_iload4 hX dX6_findCode_155 ?_
                refine r_if_eq hX dX6_findCode_157 (fun h157 => absurd h157 (by decide)) (fun h157 => ?_)
                refine r_iload2 hX dX6_findCode_160 ?_
                refine r_goto hX dX6_findCode_161 ?_
                refine p_wM_0_34 hX dX6_findCode_168 ?_
                refine r_aload0 hX dX6_findCode_171 ?_
                refine r_iload4 hX dX6_findCode_172 ?_
                refine r_if_eq hX dX6_findCode_174 (fun h174 => absurd h174 (by decide)) (fun h174 => ?_)
                refine r_iload3 hX dX6_findCode_177 ?_
                refine r_goto hX dX6_findCode_178 ?_
                refine p_wM_0_35 hX dX6_findCode_185 ?_
                refine r_iinc2 hX dX6_findCode_188 rfl ?_
                refine r_goto hX dX6_findCode_191 ?_
                refine vJw (w' := wM g b (su (su (aw σ 33 N') 34 x) 35 (ccF C (σ.2 4) N' x 16 0 0))) rfl ?_
                exact ih (i + 1) _ _ _ _ _ (by rw [hx]; exact nI_1 i) (by omega) (by rw [hs]; show lp _ n (i + 1) (fcC _ _ _ _ i (p, q)) = _; unfold fcC; rw [← hx, if_pos (show bitsF x = nI D by rw [← eD]; exact h104), if_pos (Or.inr ⟨(show ccF C (σ.2 4) N' x 16 0 0 = q from h126), lt_of_nle h133, (show aheadF x p from Classical.not_not.mp (fun w => h144 (if_neg w)))⟩)])
  have hL2 : ∀ (n i : Nat) (x : Int32) (f : Nat → Int32), x = nI i → i + n = 16 → N' = lp (fun c f => upd f c (nearF e c)) n i f → vJ X 0 0 (wM g b (aw σ 33 f)) 2 [some (.ref (b 0)), some (.int e), some (.int x), none, none] [] := by
    intro n
    induction n with
    | zero =>
      intro i x f hx hn hs
      refine r_iload2 hX dX6_findCode_2 ?_
      refine r_push hX dX6_findCode_3 ?_
      refine r_ic_ge hX dX6_findCode_5 (fun h5 => ?_) (fun h5 => absurd (lpx (e := 16) hx rfl (by omega) (by omega) (by omega)) h5)
      refine r_aload0 hX dX6_findCode_70 ?_
      refine r_push hX dX6_findCode_71 ?_
      refine p_wM_0_34 hX dX6_findCode_72 ?_
      refine r_aload0 hX dX6_findCode_75 ?_
      refine r_push hX dX6_findCode_76 ?_
      refine p_wM_0_35 hX dX6_findCode_79 ?_
      refine r_push hX dX6_findCode_82 ?_
      refine r_istore2 hX dX6_findCode_83 rfl ?_
      have hs : N' = f := hs
      subst hs
      refine vJw (w' := wM g b (su (su (aw σ 33 N') 34 0) 35 1000000)) rfl ?_
      exact hL84 (2 ^ 2 ^ C) 0 _ _ _ _ _ rfl (by omega) hF.symm
    | succ n ih =>
      intro i x f hx hn hs
      have hvx : vp_in x 16 := by rw [hx]; exact vp_in_nI (by omega) (by omega)
      have hcx : cl x = i := by rw [hx]; exact nI_clamp (by omega)
      have hL17 : ∀ (n2 i2 : Nat) (y : Int32) (r : Int32), y = nI i2 → i2 + n2 = 16 → nearF e i = lp (nrC e i) n2 i2 r → vJ X 0 0 (wM g b (aw σ 33 (upd f (cl x) r))) 17 [some (.ref (b 0)), some (.int e), some (.int x), some (.int y), none] [] := by
        intro n2
        induction n2 with
        | zero =>
          intro i2 y r hx2 hn2 hT
          refine r_iload3 hX dX6_findCode_17 ?_
          refine r_push hX dX6_findCode_18 ?_
          refine r_ic_ge hX dX6_findCode_20 (fun h20 => ?_) (fun h20 => absurd (lpx (e := 16) hx2 rfl (by omega) (by omega) (by omega)) h20)
          refine r_iinc2 hX dX6_findCode_64 rfl ?_
          refine r_goto hX dX6_findCode_67 ?_
          refine r_fg3 ?_
          have hT : nearF e i = r := hT
          rw [hcx, ← hT]
          exact ih (i + 1) _ _ (by rw [hx]; exact nI_1 i) (by omega) hs
        | succ n2 ih2 =>
          intro i2 y r hx2 hn2 hT
          refine r_iload3 hX dX6_findCode_17 ?_
          refine r_push hX dX6_findCode_18 ?_
          refine r_ic_ge hX dX6_findCode_20 (fun h20 => absurd h20 (lpn (e := 16) hx2 rfl (by omega) (by omega))) (fun h20 => ?_)
          refine r_aload0 hX dX6_findCode_23 ?_
          refine g_wM_0_33 hX dX6_findCode_24 ?_
          refine r_iload2 hX dX6_findCode_27 ?_
          refine r_dup2 hX dX6_findCode_28 rfl rfl ?_
          refine l_wM_15 hX dX6_findCode_29 hvx ?_
          refine r_iload3 hX dX6_findCode_30 ?_
          refine r_iload2 hX dX6_findCode_31 ?_
          refine r_ic_eq hX dX6_findCode_32 (fun h32 => ?_) (fun h32 => ?_)
          · refine r_push hX dX6_findCode_55 ?_
            refine r_ior hX dX6_findCode_56 ?_
            refine s_wM_15 hX dX6_findCode_57 hvx ?_
            refine r_iinc3 hX dX6_findCode_58 rfl ?_
            refine r_goto hX dX6_findCode_61 ?_
            refine vJw (w' := wM g b (aw σ 33 (upd (upd f (cl x) r) (cl x) (upd f (cl x) r (cl x) ||| 0)))) rfl ?_
            rw [uu2, pk_us]
            exact ih2 (i2 + 1) _ _ (by rw [hx2]; exact nI_1 i2) (by omega) (by rw [hT]; show lp _ n2 (i2 + 1) (nrC _ _ i2 r) = _; unfold nrC; rw [if_neg (show ¬ (¬ nI i2 = nI i ∧ bitsF (nI i ^^^ nI i2) < 2 * e + 1) from fun z => z.1 (by rw [← hx, ← hx2]; exact h32)), Int32.or_zero])
          · refine r_iload2 hX dX6_findCode_35 ?_
            refine r_iload3 hX dX6_findCode_36 ?_
            refine r_ixor hX dX6_findCode_37 ?_
            refine r_nS1i hX dX6_findCode_38 kX6_bits (c_X6_bits l g _) (by decide) (Nat.le_of_ble_eq_true rfl) ?_
            refine r_push hX dX6_findCode_41 ?_
            refine r_iload1 hX dX6_findCode_42 ?_
            refine r_imul hX dX6_findCode_43 ?_
            refine r_push hX dX6_findCode_44 ?_
            refine r_iadd hX dX6_findCode_45 ?_
            refine r_ic_ge hX dX6_findCode_46 (fun h46 => ?_) (fun h46 => ?_)
            · refine r_push hX dX6_findCode_55 ?_
              refine r_ior hX dX6_findCode_56 ?_
              refine s_wM_15 hX dX6_findCode_57 hvx ?_
              refine r_iinc3 hX dX6_findCode_58 rfl ?_
              refine r_goto hX dX6_findCode_61 ?_
              refine vJw (w' := wM g b (aw σ 33 (upd (upd f (cl x) r) (cl x) (upd f (cl x) r (cl x) ||| 0)))) rfl ?_
              rw [uu2, pk_us]
              exact ih2 (i2 + 1) _ _ (by rw [hx2]; exact nI_1 i2) (by omega) (by rw [hT]; show lp _ n2 (i2 + 1) (nrC _ _ i2 r) = _; unfold nrC; rw [if_neg (show ¬ (¬ nI i2 = nI i ∧ bitsF (nI i ^^^ nI i2) < 2 * e + 1) from fun z => nle_of_lt z.2 (by rw [← hx, ← hx2]; exact h46)), Int32.or_zero])
            · refine r_push hX dX6_findCode_49 ?_
              refine r_iload3 hX dX6_findCode_50 ?_
              refine r_ishl hX dX6_findCode_51 ?_
              refine r_goto hX dX6_findCode_52 ?_
              refine r_ior hX dX6_findCode_56 ?_
              refine s_wM_15 hX dX6_findCode_57 hvx ?_
              refine r_iinc3 hX dX6_findCode_58 rfl ?_
              refine r_goto hX dX6_findCode_61 ?_
              refine vJw (w' := wM g b (aw σ 33 (upd (upd f (cl x) r) (cl x) (upd f (cl x) r (cl x) ||| bit y)))) rfl ?_
              rw [uu2, pk_us]
              exact ih2 (i2 + 1) _ _ (by rw [hx2]; exact nI_1 i2) (by omega) (by rw [hT]; show lp _ n2 (i2 + 1) (nrC _ _ i2 r) = _; unfold nrC; rw [if_pos (show ¬ nI i2 = nI i ∧ bitsF (nI i ^^^ nI i2) < 2 * e + 1 from ⟨by rw [← hx, ← hx2]; exact h32, by rw [← hx, ← hx2]; exact lt_of_nle h46⟩), ← hx2])
      refine r_iload2 hX dX6_findCode_2 ?_
      refine r_push hX dX6_findCode_3 ?_
      refine r_ic_ge hX dX6_findCode_5 (fun h5 => absurd h5 (lpn (e := 16) hx rfl (by omega) (by omega))) (fun h5 => ?_)
      refine r_aload0 hX dX6_findCode_8 ?_
      refine g_wM_0_33 hX dX6_findCode_9 ?_
      refine r_iload2 hX dX6_findCode_12 ?_
      refine r_push hX dX6_findCode_13 ?_
      refine s_wM_15 hX dX6_findCode_14 hvx ?_
      refine r_push hX dX6_findCode_15 ?_
      refine r_istore3 hX dX6_findCode_16 rfl ?_
      refine vJw (w' := wM g b (aw σ 33 (upd f (cl x) 0))) rfl ?_
      exact hL17 16 0 _ _ rfl (by omega) rfl
  refine r_push hX dX6_findCode_0 ?_
  refine r_istore2 hX dX6_findCode_1 rfl ?_
  refine vJw (w' := wM g b (aw σ 33 (σ.2 33))) rfl ?_
  exact hL2 16 0 _ _ rfl (by omega) hN.symm
