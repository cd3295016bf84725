theorem st_keep {l : Launch} {g : GT} {x : Nat} {a : Nat → Nat → Nat} {kp : Int32} {rd nw i0 i1 fa bo pl dr : S2} {b : Nat → Nat} {σ : S2} (hR : Rel kp rd nw i0 i1 fa bo pl σ) (u : Int32) : Go l g x a kp rd nw i0 i1 fa bo pl dr b σ yX5_keep cX5_keep 2 (k2_rm 2 60) yX6_keep cX6_keep 4 (k2_rm 1 30) [.int u] := by
  have hR0 := hR
  obtain ⟨D, C, S, hP, hS, hT, hF, hB, hI⟩ := hR
  obtain ⟨p1, p2, p3, p4, p5, p6, p7, p8, p9, p10, p11, p12, ⟨r, r1, r2⟩, p14⟩ := id hP
  obtain ⟨q1, q2, q3, q4, q5, m1, m2, m3, m4⟩ := id hS
  obtain ⟨t1, t2, T, T1, T2, T3, T4⟩ := id hT
  obtain ⟨f1, f2, f3, N, N1, N2, N3, N4⟩ := id hF
  obtain ⟨b1, b2, B, B1, B2, B3, B4⟩ := id hB
  obtain ⟨hK, agC, agH, agW, cst, wsC, wsW⟩ := RPl_K hP
  obtain ⟨j1, j2, j3, j4, j5⟩ := id hI
  by_cases h : inB u.toInt 0 1
  · rcases ix0 h with ⟨e, e32⟩ | ⟨e, e32⟩
    · subst e
      have cX := c_X5_keep0 l g x a kp rd nw i0 i1 fa bo pl dr (nI 0) rfl
      have cM := c_X6_keep0 l g b σ (nI 0) rfl e32
      obtain ⟨k1, k2, k3⟩ := kp_or0 j1
      refine ⟨1, _, rd, nw, (bcm i0 nw), i1, fa, bo, pl, dr, _, cX, cM, D, C, S, hP, hS, hT, hF, hB, k1, ?_, ?_, ?_, ?_⟩
      · exact ⟨fun _ => (by show ¬ upd (σ.2 44) 0 1 0 = 0; rw [pk_us]; decide), fun _ => k2⟩
      · show hb (kp ||| bit 0) 1 ↔ ¬ upd (σ.2 44) 0 1 1 = 0
        rw [pk_un (by decide)]
        exact k3.trans j3
      · exact fun _ => img_new hS
      · exact fun h => img_old (j5 (k3.mp h)) (by omega)
    · subst e
      have cX := c_X5_keep1 l g x a kp rd nw i0 i1 fa bo pl dr (nI 1) rfl
      have cM := c_X6_keep1 l g b σ (nI 1) rfl e32
      obtain ⟨k1, k2, k3⟩ := kp_or1 j1
      refine ⟨1, _, rd, nw, i0, (bcm i1 nw), fa, bo, pl, dr, _, cX, cM, D, C, S, hP, hS, hT, hF, hB, k1, ?_, ?_, ?_, ?_⟩
      · show hb (kp ||| bit 1) 0 ↔ ¬ upd (σ.2 44) 1 1 0 = 0
        rw [pk_un (by decide)]
        exact k3.trans j2
      · exact ⟨fun _ => (by show ¬ upd (σ.2 44) 1 1 1 = 0; rw [pk_us]; decide), fun _ => k2⟩
      · exact fun h => img_old (j4 (k3.mp h)) (by omega)
      · exact fun _ => img_new hS
  
  · exact ⟨_, kp, rd, nw, i0, i1, fa, bo, pl, dr, _, c_X5_keepN l g x a kp rd nw i0 i1 fa bo pl dr u h, c_X6_keepN l g b σ u h, hR0⟩
theorem st_goBack {l : Launch} {g : GT} {x : Nat} {a : Nat → Nat → Nat} {kp : Int32} {rd nw i0 i1 fa bo pl dr : S2} {b : Nat → Nat} {σ : S2} (hR : Rel kp rd nw i0 i1 fa bo pl σ) (u : Int32) : Go l g x a kp rd nw i0 i1 fa bo pl dr b σ yX5_goBack cX5_goBack 2 (k2_rm 2 60) yX6_goBack cX6_goBack 4 (k2_rm 1 30) [.int u] := by
  have hR0 := hR
  obtain ⟨D, C, S, hP, hS, hT, hF, hB, hI⟩ := hR
  obtain ⟨p1, p2, p3, p4, p5, p6, p7, p8, p9, p10, p11, p12, ⟨r, r1, r2⟩, p14⟩ := id hP
  obtain ⟨q1, q2, q3, q4, q5, m1, m2, m3, m4⟩ := id hS
  obtain ⟨t1, t2, T, T1, T2, T3, T4⟩ := id hT
  obtain ⟨f1, f2, f3, N, N1, N2, N3, N4⟩ := id hF
  obtain ⟨b1, b2, B, B1, B2, B3, B4⟩ := id hB
  obtain ⟨hK, agC, agH, agW, cst, wsC, wsW⟩ := RPl_K hP
  obtain ⟨j1, j2, j3, j4, j5⟩ := id hI
  by_cases h : inB u.toInt 0 1
  · rcases ix0 h with ⟨e, e32⟩ | ⟨e, e32⟩
    · subst e
      by_cases hk : hb kp 0
      · have cX := c_X5_goBack0 l g x a kp rd nw i0 i1 fa bo pl dr (nI 0) rfl hk
        have cM := c_X6_goBack0 l g b σ (nI 0) rfl e32 (j2.mp hk)
        exact ⟨1, kp, rd, _, i0, i1, fa, bo, pl, dr, _, cX, cM, D, C, S, hP, img_back hS (j4 hk), hT, hF, hB, hI⟩
      · have cX := c_X5_goBackU0 l g x a kp rd nw i0 i1 fa bo pl dr (nI 0) rfl hk
        have cM := c_X6_goBackU0 l g b σ (nI 0) rfl (Decidable.not_not.mp (fun z => hk (j2.mpr z)))
        exact ⟨_, kp, rd, nw, i0, i1, fa, bo, pl, dr, _, cX, cM, hR0⟩
    · subst e
      by_cases hk : hb kp 1
      · have cX := c_X5_goBack1 l g x a kp rd nw i0 i1 fa bo pl dr (nI 1) rfl hk
        have cM := c_X6_goBack1 l g b σ (nI 1) rfl e32 (j3.mp hk)
        exact ⟨1, kp, rd, _, i0, i1, fa, bo, pl, dr, _, cX, cM, D, C, S, hP, img_back hS (j5 hk), hT, hF, hB, hI⟩
      · have cX := c_X5_goBackU1 l g x a kp rd nw i0 i1 fa bo pl dr (nI 1) rfl hk
        have cM := c_X6_goBackU1 l g b σ (nI 1) rfl (Decidable.not_not.mp (fun z => hk (j3.mpr z)))
        exact ⟨_, kp, rd, nw, i0, i1, fa, bo, pl, dr, _, cX, cM, hR0⟩
  · exact ⟨_, kp, rd, nw, i0, i1, fa, bo, pl, dr, _, c_X5_goBackN l g x a kp rd nw i0 i1 fa bo pl dr u h, c_X6_goBackN l g b σ u h, hR0⟩
theorem st_street {l : Launch} {g : GT} {x : Nat} {a : Nat → Nat → Nat} {kp : Int32} {rd nw i0 i1 fa bo pl dr : S2} {b : Nat → Nat} {σ : S2} (hR : Rel kp rd nw i0 i1 fa bo pl σ) : Go l g x a kp rd nw i0 i1 fa bo pl dr b σ yX5_street cX5_street 3 (k2_rm 5 150) yX6_street cX6_street 2 (k2_rm 5 150) [] ∨ ∃ (o : Int32) (rd' nw' fa' bo' dr' σ' : S2), Cx l g yX5_street cX5_street 3 (some .int) (k2_rm 5 150) [.ref x] (wX g x a kp rd nw i0 i1 fa bo pl dr) (some (.int o)) (wXs g x a 0 rd' nw' i0 i1 fa' bo' pl dr') ∧ Cx l g yX6_street cX6_street 2 (some .int) (k2_rm 5 150) [.ref (b 0)] (wM g b σ) (some (.int o)) (wM g b σ') ∧ Rel 0 rd' nw' i0 i1 fa' bo' dr' σ' := by
  have hR0 := hR
  obtain ⟨D, C, S, hP, hS, hT, hF, hB, hI⟩ := hR
  obtain ⟨p1, p2, p3, p4, p5, p6, p7, p8, p9, p10, p11, p12, ⟨r, r1, r2⟩, p14⟩ := id hP
  obtain ⟨q1, q2, q3, q4, q5, m1, m2, m3, m4⟩ := id hS
  obtain ⟨t1, t2, T, T1, T2, T3, T4⟩ := id hT
  obtain ⟨f1, f2, f3, N, N1, N2, N3, N4⟩ := id hF
  obtain ⟨b1, b2, B, B1, B2, B3, B4⟩ := id hB
  obtain ⟨hK, agC, agH, agW, cst, wsC, wsW⟩ := RPl_K hP
  have cM := c_X6_street l g b σ T T1 T3
  rcases str_rel (dr := dr) hR0 with ⟨z1, z2, z3⟩ | ⟨z1, z2, z3⟩
  · have cX := c_X5_streetF l g x a kp rd nw i0 i1 fa bo pl dr T T1 T2 z1
    rw [z2] at cX
    exact Or.inl ⟨_, kp, _, nw, i0, i1, fa, bo, pl, _, _, cX, cM, z3⟩
  · have cX := c_X5_streetS l g x a kp rd nw i0 i1 fa bo pl dr T T1 T2 z1
    rw [z2] at cX
    exact Or.inr ⟨_, _, _, _, _, _, _, cX, cM, z3⟩
