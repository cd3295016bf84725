theorem kind3_of {v : Int32} (h : inB v.toInt (0 : Int32).toInt (2 : Int32).toInt) : kind3 v := by
  obtain ⟨k, k1, k2, rfl⟩ := rng (a := 0) (z := 2) rfl rfl h
  have : k = 0 ∨ k = 1 ∨ k = 2 := by omega
  rcases this with rfl | rfl | rfl
  · exact Or.inl rfl
  · exact Or.inr (Or.inl rfl)
  · exact Or.inr (Or.inr rfl)
theorem cla_c {ρ π σ : S2} (hB : BR ρ σ) (hq : mP σ < mT σ) (hD : DR ρ π σ) : CR (xChk ρ π).1 (xChk ρ π).2 (mGo (σ.1 21 = 4) mChk σ) (mP σ) := by
  have e21 : π.1 1 = σ.1 21 := hD.2.2.2.1
  obtain ⟨C0, hC0, eC0⟩ : ∃ C : Nat, C ≤ 4 ∧ σ.1 21 = nI C := by
    obtain ⟨d1, d2, d3, d4, d5, d6, d7, d8, D, C, S, q1, q2, q3, q4, q5, q6⟩ := hD
    exact ⟨C, q2, q5⟩
  unfold mGo xChk xC4 xC3 xC2 xC1
  dsimp only
  by_cases hf : σ.1 21 = 4
  · rw [if_pos hf]
    have hF := wrd_full (a := bI (4 ≤ π.1 1)) hB (by rw [e21, hf]; decide)
    have e : xEnd (xNum 0 7 (xNum 0 20 (xNum 0 8 (xNum 0 2 (xWrd (bI (4 ≤ π.1 1)) ρ)).2).2).2).2 = xWrd (bI (4 ≤ π.1 1)) ρ := by
      rw [xNum_f (FR_ne hF).1, xNum_f (FR_ne hF).1, xNum_f (FR_ne hF).1, xNum_f (FR_ne hF).1, xEnd_f (FR_ne hF).1]
    exact Or.inr (by rw [e]; exact hF)
  · rw [if_neg hf]
    have hC4 : C0 < 4 := by
      rcases Nat.lt_or_ge C0 4 with z | z
      · exact z
      · exact absurd (by rw [eC0, show C0 = 4 by omega]; rfl) hf
    obtain ⟨hB2, hP2⟩ := wrd_go (a := bI (4 ≤ π.1 1)) hB hq (by rw [e21, eC0]; exact bI_f (fun z => by
      have := (nI_leI (a := 4) (by decide) (by omega)).mp z
      omega))
    have hW6 : (xWrd (bI (4 ≤ π.1 1)) ρ).1 6 = ρ.1 6 := xWrd_k (by decide) (by decide) (by decide)
    have hW7 : (xWrd (bI (4 ≤ π.1 1)) ρ).1 7 = ρ.1 7 := xWrd_k (by decide) (by decide) (by decide)
    generalize xWrd (bI (4 ≤ π.1 1)) ρ = ρ2 at hB2 hW6 hW7 ⊢
    have hB3 : BR ρ2 (su (su σ 17 (σ.1 17 + 1)) 21 (σ.1 21 + 1)) := BR_su2 hB2 (by decide) (by decide) (by decide)
    have hadv := adv_Chk (BR_PI hB2)
    have hu : mChk (su σ 17 (σ.1 17 + 1)) = mThen (mThen (mThen (mInto 22 (σ.1 21) 0 2 (su (su σ 17 (σ.1 17 + 1)) 21 (σ.1 21 + 1))) (mInto 23 (σ.1 21) 0 8)) (mInto 24 (σ.1 21) 0 20)) (mInto 25 (σ.1 21) 0 7) := rfl
    rw [hu] at hadv ⊢
    have hadv : mP (su σ 17 (σ.1 17 + 1)) ≤ _ := hadv.2.1
    have z20 : (su (su σ 17 (σ.1 17 + 1)) 21 (σ.1 21 + 1)).1 20 = σ.1 20 := rfl
    have z21 : (su (su σ 17 (σ.1 17 + 1)) 21 (σ.1 21 + 1)).1 21 = σ.1 21 + 1 := rfl
    have z26 : (su (su σ 17 (σ.1 17 + 1)) 21 (σ.1 21 + 1)).1 26 = σ.1 26 := rfl
    have z28 : (su (su σ 17 (σ.1 17 + 1)) 21 (σ.1 21 + 1)).1 28 = σ.1 28 := rfl
    have zr : (su (su σ 17 (σ.1 17 + 1)) 21 (σ.1 21 + 1)).2 = σ.2 := rfl
    generalize su (su σ 17 (σ.1 17 + 1)) 21 (σ.1 21 + 1) = σ3 at hB3 hadv z20 z21 z26 z28 zr ⊢
    rcases into_rel (j := 22) (k := σ.1 21) (lo := 0) (hi := 2) (by decide) hB3 with ⟨h1, h2, h3, h5⟩ | h
    · rw [then_t (r := mInto 22 (σ.1 21) 0 2 σ3) h1] at hadv ⊢
      rcases into_rel (j := 23) (k := σ.1 21) (lo := 0) (hi := 8) (by decide) h3 with ⟨i1, i2, i3, i5⟩ | h
      · rw [then_t (r := mInto 23 (σ.1 21) 0 8 _) i1] at hadv ⊢
        rcases into_rel (j := 24) (k := σ.1 21) (lo := 0) (hi := 20) (by decide) i3 with ⟨j1, j2, j3, j5⟩ | h
        · rw [then_t (r := mInto 24 (σ.1 21) 0 20 _) j1] at hadv ⊢
          rcases into_rel (j := 25) (k := σ.1 21) (lo := 0) (hi := 7) (by decide) j3 with ⟨l1, l2, l3, l5⟩ | h
          · rcases end_rel (r := mInto 25 (σ.1 21) 0 7 (mInto 24 (σ.1 21) 0 20 (mInto 23 (σ.1 21) 0 8 (mInto 22 (σ.1 21) 0 2 σ3).2).2).2) l1 l3 with ⟨g1, g2, g3⟩ | g
            · refine Or.inl ⟨g1, g2, ?_, Nat.lt_of_le_of_lt (Nat.le_trans hP2 hadv) g3⟩
              rw [if_pos g2.1]
              obtain ⟨d1, d2, d3, d4, d5, d6, d7, d8, D, C, S, q1, q2, q3, q4, q5, q6, q7, q8, q9, q10⟩ := hD
              have hCC : C = C0 := (nI_eq (by omega) (by omega)).mp (q5.symm.trans eC0)
              subst hCC
              have hcl : cl (σ.1 21) = C := by rw [q5]; exact nI_clamp (by omega)
              unfold DR
              rw [xEnd_k (by decide) (by decide) (by decide), xEnd_k (by decide) (by decide) (by decide), mEnd_k (by decide) (by decide), mEnd_k (by decide) (by decide), mEnd_k (by decide) (by decide), mEnd_k (by decide) (by decide), mEnd_r]
              have k4 : ∀ (k : Nat) (lo hi : Int32) (τ : S2), k ≠ 2 → k ≠ 3 → k ≠ 4 → k ≠ 5 → (xNum lo hi τ).2.1 k = τ.1 k := fun k lo hi τ a b c d => xNum_k a b c d
              rw [k4 6 _ _ _ (by decide) (by decide) (by decide) (by decide), k4 6 _ _ _ (by decide) (by decide) (by decide) (by decide), k4 6 _ _ _ (by decide) (by decide) (by decide) (by decide), k4 6 _ _ _ (by decide) (by decide) (by decide) (by decide), k4 7 _ _ _ (by decide) (by decide) (by decide) (by decide), k4 7 _ _ _ (by decide) (by decide) (by decide) (by decide), k4 7 _ _ _ (by decide) (by decide) (by decide) (by decide), k4 7 _ _ _ (by decide) (by decide) (by decide) (by decide), hW6, hW7]
              have mk4 : ∀ i, i ≠ 16 → i ≠ 17 → i ≠ 18 → i ≠ 19 → (mInto 25 (σ.1 21) 0 7 (mInto 24 (σ.1 21) 0 20 (mInto 23 (σ.1 21) 0 8 (mInto 22 (σ.1 21) 0 2 σ3).2).2).2).2.1 i = σ3.1 i := fun i a b c d => by
                rw [mInto_k a b c d, mInto_k a b c d, mInto_k a b c d, mInto_k a b c d]
              rw [mk4 20 (by decide) (by decide) (by decide) (by decide), mk4 21 (by decide) (by decide) (by decide) (by decide), mk4 26 (by decide) (by decide) (by decide) (by decide), mk4 28 (by decide) (by decide) (by decide) (by decide), z20, z21, z26, z28]
              have r22 : (mInto 25 (σ.1 21) 0 7 (mInto 24 (σ.1 21) 0 20 (mInto 23 (σ.1 21) 0 8 (mInto 22 (σ.1 21) 0 2 σ3).2).2).2).2.2 22 = upd (σ.2 22) C (xNum 0 2 ρ2).1 := by
                rw [mInto_ri (by decide), mInto_ri (by decide), mInto_ri (by decide), mInto_rj, zr, hcl, h2]
              have r23 : (mInto 25 (σ.1 21) 0 7 (mInto 24 (σ.1 21) 0 20 (mInto 23 (σ.1 21) 0 8 (mInto 22 (σ.1 21) 0 2 σ3).2).2).2).2.2 23 = upd (σ.2 23) C (xNum 0 8 (xNum 0 2 ρ2).2).1 := by
                rw [mInto_ri (by decide), mInto_ri (by decide), mInto_rj, mInto_ri (by decide), zr, hcl, i2]
              have r24 : (mInto 25 (σ.1 21) 0 7 (mInto 24 (σ.1 21) 0 20 (mInto 23 (σ.1 21) 0 8 (mInto 22 (σ.1 21) 0 2 σ3).2).2).2).2.2 24 = upd (σ.2 24) C (xNum 0 20 (xNum 0 8 (xNum 0 2 ρ2).2).2).1 := by
                rw [mInto_ri (by decide), mInto_rj, mInto_ri (by decide), mInto_ri (by decide), zr, hcl, j2]
              have r25 : (mInto 25 (σ.1 21) 0 7 (mInto 24 (σ.1 21) 0 20 (mInto 23 (σ.1 21) 0 8 (mInto 22 (σ.1 21) 0 2 σ3).2).2).2).2.2 25 = upd (σ.2 25) C (xNum 0 7 (xNum 0 20 (xNum 0 8 (xNum 0 2 ρ2).2).2).2).1 := by
                rw [mInto_rj, mInto_ri (by decide), mInto_ri (by decide), mInto_ri (by decide), zr, hcl, l2]
              have rr : ∀ i, i ≠ 22 → i ≠ 23 → i ≠ 24 → i ≠ 25 → (mInto 25 (σ.1 21) 0 7 (mInto 24 (σ.1 21) 0 20 (mInto 23 (σ.1 21) 0 8 (mInto 22 (σ.1 21) 0 2 σ3).2).2).2).2.2 i = σ.2 i := fun i a b c d => by
                rw [mInto_ri d, mInto_ri c, mInto_ri b, mInto_ri a, zr]
              rw [r22, r23, r24, r25, rr 27 (by decide) (by decide) (by decide) (by decide), rr 29 (by decide) (by decide) (by decide) (by decide), rr 30 (by decide) (by decide) (by decide) (by decide)]
              have n2 := rng (a := 0) (z := 8) rfl rfl i5
              have n3 := rng (a := 0) (z := 20) rfl rfl j5
              have n4 := rng (a := 0) (z := 7) rfl rfl l5
              have n1 := kind3_of h5
              generalize (xNum 0 7 (xNum 0 20 (xNum 0 8 (xNum 0 2 ρ2).2).2).2).1 = v4 at n4 ⊢
              generalize (xNum 0 20 (xNum 0 8 (xNum 0 2 ρ2).2).2).1 = v3 at n3 ⊢
              generalize (xNum 0 8 (xNum 0 2 ρ2).2).1 = v2 at n2 ⊢
              generalize (xNum 0 2 ρ2).1 = v1 at n1 ⊢
              have ha : xAdd v1 v2 v3 v4 π = su (au (au (au (au π 2 C v1) 3 C v2) 4 C v3) 5 C v4) 1 (σ.1 21 + 1) := by
                unfold xAdd
                rw [e21, if_pos (by rw [q5]; exact (nI_ltI (b := 4) (by omega) (by decide)).mpr hC4), hcl]
              rw [ha]
              refine ⟨d1, d2, d3, rfl, d5, d6, d7, d8, D, C + 1, S, q1, by omega, q3, q4, by rw [q5, nI_1], q6, q7, q8, q9, fun j hj => ?_⟩
              have w2 : (su (au (au (au (au π 2 C v1) 3 C v2) 4 C v3) 5 C v4) 1 (σ.1 21 + 1)).2 2 j = upd (π.2 2) C v1 j := rfl
              have w3 : (su (au (au (au (au π 2 C v1) 3 C v2) 4 C v3) 5 C v4) 1 (σ.1 21 + 1)).2 3 j = upd (π.2 3) C v2 j := rfl
              have w4 : (su (au (au (au (au π 2 C v1) 3 C v2) 4 C v3) 5 C v4) 1 (σ.1 21 + 1)).2 4 j = upd (π.2 4) C v3 j := rfl
              have w5 : (su (au (au (au (au π 2 C v1) 3 C v2) 4 C v3) 5 C v4) 1 (σ.1 21 + 1)).2 5 j = upd (π.2 5) C v4 j := rfl
              unfold CkR
              rw [w2, w3, w4, w5]
              by_cases e : j = C
              · subst e
                simp only [pk_us]
                obtain ⟨m2, -, b2, c2⟩ := n2
                obtain ⟨m3, -, b3, c3⟩ := n3
                obtain ⟨m4, -, b4, c4⟩ := n4
                exact ⟨trivial, trivial, trivial, trivial, n1, ⟨m2, b2, c2⟩, ⟨m3, b3, c3⟩, ⟨m4, b4, c4⟩⟩
              · rw [pk_un e, pk_un e, pk_un e, pk_un e, pk_un e, pk_un e, pk_un e, pk_un e]
                exact q10 j (by omega)
            · exact Or.inr g
          · exact Or.inr (end_f h)
        · exact Or.inr (end_f (num_f (then_f h)))
      · exact Or.inr (end_f (num_f (then_f (num_f (then_f h)))))
    · exact Or.inr (end_f (num_f (then_f (num_f (then_f (num_f (then_f h)))))))
theorem cla_m {ρ π σ : S2} (hB : BR ρ σ) (hq : mP σ < mT σ) (hD : DR ρ π σ) (h0 : ¬ σ.1 20 = 0) : CR (xMrk ρ π).1 (xMrk ρ π).2 (mGo False mMrk σ) (mP σ) := by
  have e20 : π.1 0 = σ.1 20 := hD.2.2.1
  have e21 : π.1 1 = σ.1 21 := hD.2.2.2.1
  obtain ⟨D0, hD0, eD0, hD1⟩ : ∃ D : Nat, D ≤ 14 ∧ σ.1 20 = nI D ∧ 1 ≤ D := by
    obtain ⟨d1, d2, d3, d4, d5, d6, d7, d8, D, C, S, q1, q2, q3, q4, q5, q6⟩ := hD
    refine ⟨D, q1, q4, ?_⟩
    rcases Nat.eq_zero_or_pos D with z | z
    · exact absurd (by rw [q4, z]; rfl) h0
    · exact z
  obtain ⟨C0, hC0, eC0⟩ : ∃ C : Nat, C ≤ 4 ∧ σ.1 21 = nI C := by
    obtain ⟨d1, d2, d3, d4, d5, d6, d7, d8, D, C, S, q1, q2, q3, q4, q5, q6⟩ := hD
    exact ⟨C, q2, q5⟩
  have eG : mGo False mMrk σ = mEnd (mMrk (su σ 17 (σ.1 17 + 1))) := if_neg (fun h => h)
  rw [eG]
  obtain ⟨hB2, hP2⟩ := wrd_go (a := 0) hB hq rfl
  have hW6 : (xWrd 0 ρ).1 6 = ρ.1 6 := xWrd_k (by decide) (by decide) (by decide)
  have hW7 : (xWrd 0 ρ).1 7 = ρ.1 7 := xWrd_k (by decide) (by decide) (by decide)
  have hadv := adv_Mrk (BR_PI hB2)
  have hx1 : xM1 ρ π = xNum 0 (σ.1 20 - 1) (xWrd 0 ρ) := by unfold xM1; rw [e20]
  have hx3 : xM3 ρ π = xNum 0 (bit (σ.1 21) - 1) (xM2 ρ π) := by unfold xM3; rw [e21]
  have hm : mMrk (su σ 17 (σ.1 17 + 1)) = if (mTN 0 (σ.1 20 - 1) (su σ 17 (σ.1 17 + 1))).1 ≤ 0 then mMrk2 ((mTN 0 (σ.1 20 - 1) (su σ 17 (σ.1 17 + 1))).2.1 18) (mTN 0 (σ.1 20 - 1) (su σ 17 (σ.1 17 + 1))).2 else mTN 0 (σ.1 20 - 1) (su σ 17 (σ.1 17 + 1)) := rfl
  have nk : ∀ k, k ≠ 16 → k ≠ 17 → k ≠ 18 → k ≠ 19 → (mTN 0 (σ.1 20 - 1) (su σ 17 (σ.1 17 + 1))).2.1 k = (su σ 17 (σ.1 17 + 1)).1 k := fun k a b c d => mTN_keep a b c d
  have nr : (mTN 0 (σ.1 20 - 1) (su σ 17 (σ.1 17 + 1))).2.2 = σ.2 := mTN_rows
  have hrel := num_rel (lo := 0) (hi := σ.1 20 - 1) hB2
  rw [hm] at hadv ⊢
  have z20 : (mTN 0 (σ.1 20 - 1) (su σ 17 (σ.1 17 + 1))).2.1 20 = σ.1 20 := nk 20 (by decide) (by decide) (by decide) (by decide)
  have z21 : (mTN 0 (σ.1 20 - 1) (su σ 17 (σ.1 17 + 1))).2.1 21 = σ.1 21 := nk 21 (by decide) (by decide) (by decide) (by decide)
  have z26 : (mTN 0 (σ.1 20 - 1) (su σ 17 (σ.1 17 + 1))).2.1 26 = σ.1 26 := nk 26 (by decide) (by decide) (by decide) (by decide)
  have z28 : (mTN 0 (σ.1 20 - 1) (su σ 17 (σ.1 17 + 1))).2.1 28 = σ.1 28 := nk 28 (by decide) (by decide) (by decide) (by decide)
  have x6 : (xM1 ρ π).2.1 6 = ρ.1 6 := by rw [hx1, xNum_k (by decide) (by decide) (by decide) (by decide), hW6]
  have x7 : (xM1 ρ π).2.1 7 = ρ.1 7 := by rw [hx1, xNum_k (by decide) (by decide) (by decide) (by decide), hW7]
  rw [← hx1] at hrel
  have hM2 : xM2 ρ π = if (xM1 ρ π).2.1 3 = 0 ∧ hb ((xM1 ρ π).2.1 7) (xM1 ρ π).1 then xFal 4 ((xM1 ρ π).2.1 5) (xM1 ρ π).2 else (xM1 ρ π).2 := rfl
  have hMr : xMrk ρ π = if (xEnd (xM3 ρ π).2).1 3 = 0 ∧ inD (xM1 ρ π).1 (π.1 0) then (su (xEnd (xM3 ρ π).2) 7 ((xEnd (xM3 ρ π).2).1 7 ||| bit (xM1 ρ π).1), au π 6 (cl (xM1 ρ π).1) (xM3 ρ π).1) else (xEnd (xM3 ρ π).2, π) := rfl
  generalize mTN 0 (σ.1 20 - 1) (su σ 17 (σ.1 17 + 1)) = r1 at hrel hadv z20 z21 z26 z28 nr ⊢
  generalize xM1 ρ π = y1 at hrel x6 x7 hM2 hMr
  rcases hrel with ⟨h1, h2, h3, h4, h5⟩ | hF
  · rw [if_pos (by rw [h1]; decide)] at hadv ⊢
    obtain ⟨d, dd1, dd2, dd3⟩ : ∃ d : Nat, 0 ≤ d ∧ d ≤ D0 - 1 ∧ y1.1 = nI d := rng (a := 0) (z := D0 - 1) rfl (by
      rw [eD0]
      obtain ⟨m, hm1⟩ : ∃ m, D0 = m + 1 := ⟨D0 - 1, by omega⟩
      rw [hm1, nI_pred, nI_toInt (by omega)]
      omega) h5
    have hdd : (r1.2.1 18) = nI d := h2.symm.trans dd3
    have htold : y1.2.1 7 = r1.2.1 26 := by rw [x7, z26]; exact hD.2.1
    unfold mMrk2 at hadv ⊢
    rw [hdd] at hadv ⊢
    by_cases hh : hb (r1.2.1 26) (nI d)
    · rw [if_pos hh]
      rw [if_pos ⟨h3.1, by rw [htold, dd3]; exact hh⟩] at hM2
      have hF : FRr (xM2 ρ π) (4, su r1.2 16 (r1.2.1 19)) := by
        rw [hM2]
        exact ⟨show (0 : Int32) < 4 by decide, rfl, h4⟩
      have hF3 : FRr (xM3 ρ π).2 (4, su r1.2 16 (r1.2.1 19)) := by rw [hx3]; exact num_f hF
      rw [hMr, xEnd_f (FR_ne hF3).1, if_neg (fun z => (FR_ne hF3).1 z.1)]
      exact Or.inr (mEnd_f hF3)
    · rw [if_neg hh] at hadv ⊢
      rw [if_neg (fun z => hh (by rw [← htold, ← dd3]; exact z.2))] at hM2
      have hB3 : BR y1.2 (su r1.2 26 (r1.2.1 26 ||| bit (nI d))) := BR_su2 h3 (by decide) (by decide) (by decide)
      rw [hM2] at hx3
      rw [z21] at hadv ⊢
      rcases into_rel (j := 27) (k := nI d) (lo := 0) (hi := bit (σ.1 21) - 1) (by decide) hB3 with ⟨i1, i2, i3, i5⟩ | h
      · rw [← hx3] at i2 i3 i5
        rcases end_rel (r := mInto 27 (nI d) 0 (bit (σ.1 21) - 1) (su r1.2 26 (r1.2.1 26 ||| bit (nI d)))) i1 i3 with ⟨g1, g2, g3⟩ | g
        · have hin : inD y1.1 (π.1 0) := by
            rw [dd3, e20, eD0]
            exact ⟨by rw [nI_toInt (by omega)]; omega, by rw [nI_toInt (by omega), nI_toInt (by omega)]; omega⟩
          rw [hMr, if_pos ⟨g2.1, hin⟩]
          refine Or.inl ⟨g1, BR_su1 g2 (by decide) (by decide) (by decide) (by decide), ?_, Nat.lt_of_le_of_lt (Nat.le_trans hP2 hadv.2.1) g3⟩
          obtain ⟨d1, d2, d3, d4, d5, d6, d7, d8, D, C, S, q1, q2, q3, q4, q5, q6, q7, q8, q9, q10⟩ := hD
          have hDD : D = D0 := (nI_eq (by omega) (by omega)).mp (q4.symm.trans eD0)
          subst hDD
          obtain ⟨v, v1, v2, v3⟩ : ∃ v : Nat, 0 ≤ v ∧ v ≤ 15 ∧ (xM3 ρ π).1 = nI v := by
            obtain ⟨v, v1, v2, v3⟩ := rng (a := 0) (z := 2 ^ C - 1) rfl (by
              rw [q5, (p2_toInt C (by omega)).2]
              have : 1 ≤ 2 ^ C := Nat.one_le_two_pow
              rw [Int.ofNat_sub this]
              simp) i5
            have h4 : 2 ^ C ≤ 2 ^ 4 := Nat.pow_le_pow_right (by decide) q2
            exact ⟨v, v1, by omega, v3⟩
          have c6 : (su (xEnd (xM3 ρ π).2) 7 ((xEnd (xM3 ρ π).2).1 7 ||| bit y1.1)).1 6 = ρ.1 6 := by
            have : (su (xEnd (xM3 ρ π).2) 7 ((xEnd (xM3 ρ π).2).1 7 ||| bit y1.1)).1 6 = (xEnd (xM3 ρ π).2).1 6 := rfl
            rw [this, xEnd_k (by decide) (by decide) (by decide), hx3, xNum_k (by decide) (by decide) (by decide) (by decide), x6]
          have c7 : (su (xEnd (xM3 ρ π).2) 7 ((xEnd (xM3 ρ π).2).1 7 ||| bit y1.1)).1 7 = ρ.1 7 ||| bit (nI d) := by
            have : (su (xEnd (xM3 ρ π).2) 7 ((xEnd (xM3 ρ π).2).1 7 ||| bit y1.1)).1 7 = (xEnd (xM3 ρ π).2).1 7 ||| bit y1.1 := rfl
            rw [this, xEnd_k (by decide) (by decide) (by decide), hx3, xNum_k (by decide) (by decide) (by decide) (by decide), x7, dd3]
          unfold DR
          rw [c6, c7, mEnd_k (by decide) (by decide), mEnd_k (by decide) (by decide), mEnd_k (by decide) (by decide), mEnd_k (by decide) (by decide), mEnd_r]
          rw [mInto_k (by decide) (by decide) (by decide) (by decide), mInto_k (by decide) (by decide) (by decide) (by decide), mInto_k (by decide) (by decide) (by decide) (by decide), mInto_k (by decide) (by decide) (by decide) (by decide), mInto_ri (by decide), mInto_ri (by decide), mInto_ri (by decide), mInto_ri (by decide), mInto_rj, mInto_ri (by decide), mInto_ri (by decide), ← i2]
          have s20 : (su r1.2 26 (r1.2.1 26 ||| bit (nI d))).1 20 = σ.1 20 := z20
          have s21 : (su r1.2 26 (r1.2.1 26 ||| bit (nI d))).1 21 = σ.1 21 := z21
          have s26 : (su r1.2 26 (r1.2.1 26 ||| bit (nI d))).1 26 = σ.1 26 ||| bit (nI d) := by show r1.2.1 26 ||| bit (nI d) = _; rw [z26]
          have s28 : (su r1.2 26 (r1.2.1 26 ||| bit (nI d))).1 28 = σ.1 28 := z28
          have sr : (su r1.2 26 (r1.2.1 26 ||| bit (nI d))).2 = σ.2 := nr
          have hcl : cl (nI d) = d := nI_clamp (by omega)
          rw [s20, s21, s26, s28, sr, dd3, hcl, v3, d2]
          have w6 : (au π 6 d (nI v)).2 6 = upd (π.2 6) d (nI v) := rfl
          refine ⟨d1, rfl, d3, d4, d5, d6, d7, d8, D, C, S, q1, q2, q3, q4, q5, q6, q7, fun j hj => ?_, MkI_upd q9 (by omega) (by omega), q10⟩
          rw [w6]
          by_cases e : j = d
          · rw [e, pk_us, pk_us]
          · rw [pk_un e, pk_un e]; exact q8 j hj
        · rw [hMr, if_neg (fun z => (FR_ne g).1 z.1)]
          exact Or.inr g
      · have hF3 : FRr (xM3 ρ π).2 (mInto 27 (nI d) 0 (bit (σ.1 21) - 1) (su r1.2 26 (r1.2.1 26 ||| bit (nI d)))) := by rw [hx3]; exact h
        have g := end_f hF3
        rw [hMr, if_neg (fun z => (FR_ne g).1 z.1)]
        exact Or.inr g
  · rw [if_neg (FR_ne hF).2.2]
    rw [if_neg (fun z => (FR_ne hF).1 z.1)] at hM2
    have hF3 : FRr (xM3 ρ π).2 r1 := by rw [hx3, hM2]; exact num_f hF
    have g := end_f hF3
    rw [hMr, if_neg (fun z => (FR_ne g).1 z.1)]
    exact Or.inr g
