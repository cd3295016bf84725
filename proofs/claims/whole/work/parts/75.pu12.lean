/-! what calls leave standing -/
section keepI
variable {C D : Nat} {cost mk hd wb ch : Nat → Int32} {sp d c f : Int32}
theorem pay_ok {k : Nat} {v : Int32} (hk : k ≤ 999999) (hv : ∃ q : Nat, q ≤ 80 ∧ v = nI q) : ∃ j : Nat, j ≤ 999999 ∧ payF (nI k) v = nI j := by
  obtain ⟨q, q1, rfl⟩ := hv
  exact ⟨payN k q, payN_le, payF_N (by omega)⟩
theorem mark_ok (hD : D ≤ 14) (hC : C ≤ 4) (hm : MkI D mk) (hc : Cst C cost) (hs : ∃ k : Nat, k ≤ 999999 ∧ sp = nI k) : MkI D (markF (nI D) (nI C) mk cost sp d c).2.1 ∧ ∃ k : Nat, k ≤ 999999 ∧ (markF (nI D) (nI C) mk cost sp d c).2.2 = nI k := by
  unfold markF
  by_cases hi : inD d (nI D) ∧ inD c (nI C)
  · rw [if_pos hi]
    by_cases h2 : hb (mk (cl d)) c
    · rw [if_pos h2]; exact ⟨hm, hs⟩
    · rw [if_neg h2]
      have hcl := cl_in hC hi.2
      obtain ⟨k, k1, k2⟩ := hs
      obtain ⟨q, q1, q2⟩ := hc _ hcl
      refine ⟨?_, ?_⟩
      · have := MkI_or (c := cl c) hm (inD_cl2 hi.1 (by omega)) hD (by omega)
        rw [← inD_nI hi.2] at this
        exact this
      · rw [k2]; exact pay_ok k1 ⟨q, by omega, q2⟩
  · rw [if_neg hi]; exact ⟨hm, hs⟩
theorem wipe_ok (hD : D ≤ 14) (hC : C ≤ 4) (hm : MkI D mk) : MkI D (wipeF (nI D) (nI C) mk d c).2 := by
  unfold wipeF
  by_cases hi : inD d (nI D) ∧ inD c (nI C)
  · rw [if_pos hi]
    by_cases h2 : hb (mk (cl d)) c
    · rw [if_pos h2]
      have hcl := cl_in hC hi.2
      have := MkI_cl (c := cl c) hm (inD_cl2 hi.1 (by omega)) hD (by omega)
      rw [← inD_nI hi.2] at this
      exact this
    · rw [if_neg h2]; exact hm
  · rw [if_neg hi]; exact hm
theorem hide_ok {z : Int32} (hD : D ≤ 14) (hC : C ≤ 4) (hm : MkI D hd) (hc : Cst C cost) (hs : ∃ k : Nat, k ≤ 999999 ∧ sp = nI k) : MkI D (hideF (nI D) (nI C) hd cost sp d c z).2.1 ∧ ∃ k : Nat, k ≤ 999999 ∧ (hideF (nI D) (nI C) hd cost sp d c z).2.2 = nI k := by
  unfold hideF
  by_cases hi : inD d (nI D) ∧ inD c (nI C)
  · rw [if_pos hi]
    have hcl := cl_in hC hi.2
    obtain ⟨k, k1, k2⟩ := hs
    obtain ⟨q, q1, q2⟩ := hc _ hcl
    refine ⟨?_, ?_⟩
    · show MkI D (upd hd (cl d) (if z = 0 then hd (cl d) &&& (bit c ^^^ -1) else hd (cl d) ||| bit c))
      by_cases hz : z = 0
      · rw [if_pos hz]
        have := MkI_cl (c := cl c) hm (inD_cl2 hi.1 (by omega)) hD (by omega)
        rw [← inD_nI hi.2] at this
        exact this
      · rw [if_neg hz]
        have := MkI_or (c := cl c) hm (inD_cl2 hi.1 (by omega)) hD (by omega)
        rw [← inD_nI hi.2] at this
        exact this
    · show ∃ k : Nat, k ≤ 999999 ∧ (if ¬ z = 0 ∧ ¬ hb (hd (cl d)) c then payF sp (cost (cl c)) else sp) = nI k
      rw [k2]
      by_cases hp : ¬ z = 0 ∧ ¬ hb (hd (cl d)) c
      · rw [if_pos hp]; exact pay_ok k1 ⟨q, by omega, q2⟩
      · rw [if_neg hp]; exact ⟨k, k1, rfl⟩
  · rw [if_neg hi]; exact ⟨hm, hs⟩
theorem copy_ok (hD : D ≤ 14) (hC : C ≤ 4) (hm : MkI D mk) (hc : Cst C cost) (hs : ∃ k : Nat, k ≤ 999999 ∧ sp = nI k) : MkI D (copyF D C cost mk sp d f).2.1 ∧ ∃ k : Nat, k ≤ 999999 ∧ (copyF D C cost mk sp d f).2.2 = nI k := by
  unfold copyF
  by_cases hi : inD d (nI D)
  · rw [if_pos hi]
    by_cases h2 : inB f.toInt 1 13
    · rw [if_pos h2]
      have hcl := inD_cl2 hi (by omega)
      exact lp_in (fun s : (Nat → Int32) × Int32 => MkI D s.1 ∧ ∃ k : Nat, k ≤ 999999 ∧ s.2 = nI k) D 0 (mk, sp) (fun q t _ hq ht => by
        obtain ⟨t1, k, k1, k2⟩ := ht
        unfold copyS
        by_cases ha : awayF (nI q) d ≤ f
        · rw [if_pos ha]
          obtain ⟨m, m1, m2⟩ := t1.1 (cl d) (by omega)
          obtain ⟨v, v1, v2⟩ := costF_N (w := t.1 (cl d) &&& (t.1 q ^^^ -1)) hc
          refine ⟨?_, ?_⟩
          · show MkI D (upd t.1 q (t.1 (cl d)))
            rw [m2]
            exact MkI_upd t1 (by omega) m1
          · show ∃ k : Nat, k ≤ 999999 ∧ copyC C cost (t.1 (cl d) &&& (t.1 q ^^^ -1)) t.2 = nI k
            rw [k2, copyC_pay hC hc k1]
            exact pay_ok k1 ⟨v, by omega, v2⟩
        · rw [if_neg ha]; exact ⟨t1, k, k1, k2⟩) ⟨hm, hs⟩
    · rw [if_neg h2]; exact ⟨hm, hs⟩
  · rw [if_neg hi]; exact ⟨hm, hs⟩
theorem rain_ok {s : MS} (hD : D ≤ 14) (hC : C ≤ 4) (hm : MkI D s.1) : MkI D (rainF D C wb s).1 := by
  unfold rainF
  refine lp_in (fun s : MS => MkI D s.1) D 0 s (fun d t _ hd ht => lp_in (fun s : MS => MkI D s.1) C 0 t (fun c u _ hc hu => ?_) ht) hm
  unfold rainC
  split
  · split
    · exact hu
    · exact MkI_cl hu (by omega) hD (by omega)
  · exact hu
theorem play_ok {s : MS} (hD : D ≤ 14) (hC : C ≤ 4) (hm : MkI D s.1) : MkI D (playF D C ch s).1 := by
  unfold playF
  refine lp_in (fun s : MS => MkI D s.1) D 0 s (fun d t _ hd ht => lp_in (fun s : MS => MkI D s.1) C 0 t (fun c u _ hc hu => ?_) ht) hm
  unfold playC
  split
  · exact hu
  · split
    · exact hu
    · exact MkI_or hu (by omega) hD (by omega)
theorem night_ok {s : MS} {rn nt n : Int32} (hD : D ≤ 14) (hC : C ≤ 4) (hm : MkI D s.1) (hs : 0 ≤ s.2.toInt) : MkI D (nightF D C wb ch rn s nt n).2.1.1 ∧ 0 ≤ (nightF D C wb ch rn s nt n).2.1.2.toInt := by
  have key : ∀ t : MS, MkI D t.1 ∧ 0 ≤ t.2.toInt → MkI D (nightS D C wb ch rn t).1 ∧ 0 ≤ (nightS D C wb ch rn t).2.toInt := by
    intro t ht
    unfold nightS
    split
    · exact ⟨play_ok hD hC ht.1, playN _ _ _ _ (drawN _)⟩
    · exact ⟨play_ok hD hC (rain_ok hD hC ht.1), playN _ _ _ _ (rainN _ _ _ _ (drawN _))⟩
  unfold nightF
  split
  · split
    · exact ⟨hm, hs⟩
    · split
      · unfold nightL
        exact lp_in (fun z : MS × Int32 => MkI D z.1.1 ∧ 0 ≤ z.1.2.toInt) (cl n) 0 (s, nt) (fun j z _ _ hz => key z.1 hz) ⟨hm, hs⟩
      · exact ⟨hm, hs⟩
  · exact ⟨hm, hs⟩
theorem feed_ok {T : Nat} {t : Int32} {tx : Nat → Int32} (hT : T ≤ 200) (h : ∀ j, j < T → 0 ≤ (tx j).toInt) : ∃ T' : Nat, T' ≤ 200 ∧ (feedF (nI T) t tx).2.1 = nI T' ∧ ∀ j, j < T' → 0 ≤ ((feedF (nI T) t tx).2.2 j).toInt := by
  unfold feedF
  by_cases h1 : inB t.toInt 0 255
  · rw [if_pos h1]
    by_cases h2 : nI T = 200
    · rw [if_pos h2]; exact ⟨T, hT, rfl, h⟩
    · rw [if_neg h2]
      have hne : T ≠ 200 := fun z => h2 (by rw [z]; rfl)
      refine ⟨T + 1, by omega, by show nI T + 1 = _; rw [nI_1], fun j hj => ?_⟩
      show 0 ≤ (upd tx (cl (nI T)) t j).toInt
      have hcl : cl (nI T) = T := nI_clamp (by omega)
      rw [hcl]
      by_cases e : j = T
      · rw [e, pk_us]; exact h1.1
      · rw [pk_un e]; exact h j (by omega)
  · rw [if_neg h1]; exact ⟨T, hT, rfl, h⟩
theorem note_ok {N : Nat} {n z : Int32} {nd nn nc : Nat → Int32} (hD : D ≤ 14) (hN : N ≤ 10) (h : ∀ k, k < N → ∃ q : Nat, q < 14 ∧ nd k = nI q) : ∃ N' : Nat, N' ≤ 10 ∧ (noteF (nI D) (nI N) nd nn nc d n z).2.1 = nI N' ∧ ∀ k, k < N' → ∃ q : Nat, q < 14 ∧ (noteF (nI D) (nI N) nd nn nc d n z).2.2.1 k = nI q := by
  unfold noteF
  by_cases h1 : inD d (nI D)
  · rw [if_pos h1]
    by_cases h2 : inB n.toInt 0 30
    · rw [if_pos h2]
      by_cases h3 : nI N = 10
      · rw [if_pos h3]; exact ⟨N, hN, rfl, h⟩
      · rw [if_neg h3]
        have hne : N ≠ 10 := fun z => h3 (by rw [z]; rfl)
        refine ⟨N + 1, by omega, by show nI N + 1 = _; rw [nI_1], fun k hk => ?_⟩
        show ∃ q : Nat, q < 14 ∧ upd nd (cl (nI N)) d k = nI q
        have hcl : cl (nI N) = N := nI_clamp (by omega)
        rw [hcl]
        by_cases e : k = N
        · rw [e, pk_us]; exact ⟨cl d, by have := inD_cl2 h1 (by omega); omega, inD_nI h1⟩
        · rw [pk_un e]; exact h k (by omega)
    · rw [if_neg h2]; exact ⟨N, hN, rfl, h⟩
  · rw [if_neg h1]; exact ⟨N, hN, rfl, h⟩
theorem write_ok {N : Nat} {s : Int32} {bd bm : Nat → Int32} (hD : D ≤ 14) (hN : N ≤ 15) (h : ∀ k, k < N → vp_in (bd k) 14) : ∃ N' : Nat, N' ≤ 15 ∧ (writeF (nI D) (nI N) bd bm d s).2.1 = nI N' ∧ ∀ k, k < N' → vp_in ((writeF (nI D) (nI N) bd bm d s).2.2.1 k) 14 := by
  unfold writeF
  by_cases h1 : inD d (nI D)
  · rw [if_pos h1]
    by_cases h2 : inB s.toInt 0 15
    · rw [if_pos h2]
      by_cases h3 : nI N = 15
      · rw [if_pos h3]; exact ⟨N, hN, rfl, h⟩
      · rw [if_neg h3]
        have hne : N ≠ 15 := fun z => h3 (by rw [z]; rfl)
        refine ⟨N + 1, by omega, by show nI N + 1 = _; rw [nI_1], fun k hk => ?_⟩
        show vp_in (upd bd (cl (nI N)) d k) 14
        have hcl : cl (nI N) = N := nI_clamp (by omega)
        rw [hcl]
        by_cases e : k = N
        · rw [e, pk_us]; exact vin h1 rfl hD (by decide)
        · rw [pk_un e]; exact h k (by omega)
    · rw [if_neg h2]; exact ⟨N, hN, rfl, h⟩
  · rw [if_neg h1]; exact ⟨N, hN, rfl, h⟩
end keepI
