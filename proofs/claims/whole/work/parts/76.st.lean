theorem st_fault {l : Launch} {g : GT} {x : Nat} {a : Nat → Nat → Nat} {kp : Int32} {rd nw i0 i1 fa bo pl dr : S2} {b : Nat → Nat} {σ : S2} (hR : Rel kp rd nw i0 i1 fa bo pl σ) : Go l g x a kp rd nw i0 i1 fa bo pl dr b σ yX5_fault cX5_fault 1 (k2_rm 0 0) yX6_fault cX6_fault 1 (k2_rm 0 0) [] := by
  have hR0 := hR
  obtain ⟨D, C, S, hP, hS, hT, hF, hB, hI⟩ := hR
  obtain ⟨p1, p2, p3, p4, p5, p6, p7, p8, p9, p10, p11, p12, ⟨r, r1, r2⟩, p14⟩ := id hP
  obtain ⟨q1, q2, q3, q4, q5, m1, m2, m3, m4⟩ := id hS
  obtain ⟨t1, t2, T, T1, T2, T3, T4⟩ := id hT
  obtain ⟨f1, f2, f3, N, N1, N2, N3, N4⟩ := id hF
  obtain ⟨b1, b2, B, B1, B2, B3, B4⟩ := id hB
  obtain ⟨hK, agC, agH, agW, cst, wsC, wsW⟩ := RPl_K hP
  refine ⟨_, kp, rd, nw, i0, i1, fa, bo, pl, dr, _, Cx_o ?_ (c_X5_fault l g x a kp rd nw i0 i1 fa bo pl dr  ), c_X6_fault l g b σ  , hR0⟩
  exact t1
theorem st_told {l : Launch} {g : GT} {x : Nat} {a : Nat → Nat → Nat} {kp : Int32} {rd nw i0 i1 fa bo pl dr : S2} {b : Nat → Nat} {σ : S2} (hR : Rel kp rd nw i0 i1 fa bo pl σ) (u : Int32) : Go l g x a kp rd nw i0 i1 fa bo pl dr b σ yX5_told cX5_told 2 (k2_rm 2 60) yX6_told cX6_told 2 (k2_rm 2 60) [.int u] := by
  have hR0 := hR
  obtain ⟨D, C, S, hP, hS, hT, hF, hB, hI⟩ := hR
  obtain ⟨p1, p2, p3, p4, p5, p6, p7, p8, p9, p10, p11, p12, ⟨r, r1, r2⟩, p14⟩ := id hP
  obtain ⟨q1, q2, q3, q4, q5, m1, m2, m3, m4⟩ := id hS
  obtain ⟨t1, t2, T, T1, T2, T3, T4⟩ := id hT
  obtain ⟨f1, f2, f3, N, N1, N2, N3, N4⟩ := id hF
  obtain ⟨b1, b2, B, B1, B2, B3, B4⟩ := id hB
  obtain ⟨hK, agC, agH, agW, cst, wsC, wsW⟩ := RPl_K hP
  refine ⟨_, kp, rd, nw, i0, i1, fa, bo, pl, dr, _, Cx_o ?_ (c_X5_told l g x a kp rd nw i0 i1 fa bo pl dr u ), c_X6_told l g b σ u D p1 p6, hR0⟩
  rw [p5, p6, p7, p8, p9, p10, p11, p12, T2, T3, q3, q4, q1, q2, man_eq p1 m1, man_eq p1 m2, N2, N3, B2, B3]
theorem st_chalk {l : Launch} {g : GT} {x : Nat} {a : Nat → Nat → Nat} {kp : Int32} {rd nw i0 i1 fa bo pl dr : S2} {b : Nat → Nat} {σ : S2} (hR : Rel kp rd nw i0 i1 fa bo pl σ) (u v : Int32) : Go l g x a kp rd nw i0 i1 fa bo pl dr b σ yX5_chalk cX5_chalk 3 (k2_rm 1 30) yX6_chalk cX6_chalk 3 (k2_rm 2 60) [.int u, .int v] := by
  have hR0 := hR
  obtain ⟨D, C, S, hP, hS, hT, hF, hB, hI⟩ := hR
  obtain ⟨p1, p2, p3, p4, p5, p6, p7, p8, p9, p10, p11, p12, ⟨r, r1, r2⟩, p14⟩ := id hP
  obtain ⟨q1, q2, q3, q4, q5, m1, m2, m3, m4⟩ := id hS
  obtain ⟨t1, t2, T, T1, T2, T3, T4⟩ := id hT
  obtain ⟨f1, f2, f3, N, N1, N2, N3, N4⟩ := id hF
  obtain ⟨b1, b2, B, B1, B2, B3, B4⟩ := id hB
  obtain ⟨hK, agC, agH, agW, cst, wsC, wsW⟩ := RPl_K hP
  refine ⟨_, kp, rd, nw, i0, i1, fa, bo, pl, dr, _, Cx_o ?_ (c_X5_chalk l g x a kp rd nw i0 i1 fa bo pl dr u v C p2 p7 hK), c_X6_chalk l g b σ u v C p2 p8, hR0⟩
  rw [p7, p8]
  by_cases h : inD u (nI C)
  · obtain ⟨k1, k2, k3, k4, -⟩ := p14 (cl u) (cl_in p2 h)
    rw [if_pos h, if_pos h, k1, k2, k3, k4]
  · rw [if_neg h, if_neg h]
theorem st_door {l : Launch} {g : GT} {x : Nat} {a : Nat → Nat → Nat} {kp : Int32} {rd nw i0 i1 fa bo pl dr : S2} {b : Nat → Nat} {σ : S2} (hR : Rel kp rd nw i0 i1 fa bo pl σ) (u v : Int32) : Go l g x a kp rd nw i0 i1 fa bo pl dr b σ yX5_door cX5_door 3 (k2_rm 1 30) yX6_door cX6_door 3 (k2_rm 2 60) [.int u, .int v] := by
  have hR0 := hR
  obtain ⟨D, C, S, hP, hS, hT, hF, hB, hI⟩ := hR
  obtain ⟨p1, p2, p3, p4, p5, p6, p7, p8, p9, p10, p11, p12, ⟨r, r1, r2⟩, p14⟩ := id hP
  obtain ⟨q1, q2, q3, q4, q5, m1, m2, m3, m4⟩ := id hS
  obtain ⟨t1, t2, T, T1, T2, T3, T4⟩ := id hT
  obtain ⟨f1, f2, f3, N, N1, N2, N3, N4⟩ := id hF
  obtain ⟨b1, b2, B, B1, B2, B3, B4⟩ := id hB
  obtain ⟨hK, agC, agH, agW, cst, wsC, wsW⟩ := RPl_K hP
  refine ⟨_, kp, rd, nw, i0, i1, fa, bo, pl, dr, _, Cx_o ?_ (c_X5_door l g x a kp rd nw i0 i1 fa bo pl dr u v D p1 p5), c_X6_door l g b σ u v D p1 p6, hR0⟩
  rw [p5, p6, q1, q2]
theorem st_like {l : Launch} {g : GT} {x : Nat} {a : Nat → Nat → Nat} {kp : Int32} {rd nw i0 i1 fa bo pl dr : S2} {b : Nat → Nat} {σ : S2} (hR : Rel kp rd nw i0 i1 fa bo pl σ) (u : Int32) : Go l g x a kp rd nw i0 i1 fa bo pl dr b σ yX5_like cX5_like 4 (k2_rm 1 30) yX6_like cX6_like 4 (k2_rm 2 60) [.int u] := by
  have hR0 := hR
  obtain ⟨D, C, S, hP, hS, hT, hF, hB, hI⟩ := hR
  obtain ⟨p1, p2, p3, p4, p5, p6, p7, p8, p9, p10, p11, p12, ⟨r, r1, r2⟩, p14⟩ := id hP
  obtain ⟨q1, q2, q3, q4, q5, m1, m2, m3, m4⟩ := id hS
  obtain ⟨t1, t2, T, T1, T2, T3, T4⟩ := id hT
  obtain ⟨f1, f2, f3, N, N1, N2, N3, N4⟩ := id hF
  obtain ⟨b1, b2, B, B1, B2, B3, B4⟩ := id hB
  obtain ⟨hK, agC, agH, agW, cst, wsC, wsW⟩ := RPl_K hP
  refine ⟨_, kp, rd, nw, i0, i1, fa, bo, pl, dr, _, Cx_o ?_ (c_X5_like l g x a kp rd nw i0 i1 fa bo pl dr u D p1 p5 C p2 p7), c_X6_like l g b σ u D p1 p6 C p2 p8, hR0⟩
  rw [p7, p8, q1]
theorem st_fool {l : Launch} {g : GT} {x : Nat} {a : Nat → Nat → Nat} {kp : Int32} {rd nw i0 i1 fa bo pl dr : S2} {b : Nat → Nat} {σ : S2} (hR : Rel kp rd nw i0 i1 fa bo pl σ) (u v w : Int32) : Go l g x a kp rd nw i0 i1 fa bo pl dr b σ yX5_fool cX5_fool 9 (k2_rm 1 30) yX6_fool cX6_fool 4 (k2_rm 2 60) [.int u, .int v, .int w] := by
  have hR0 := hR
  obtain ⟨D, C, S, hP, hS, hT, hF, hB, hI⟩ := hR
  obtain ⟨p1, p2, p3, p4, p5, p6, p7, p8, p9, p10, p11, p12, ⟨r, r1, r2⟩, p14⟩ := id hP
  obtain ⟨q1, q2, q3, q4, q5, m1, m2, m3, m4⟩ := id hS
  obtain ⟨t1, t2, T, T1, T2, T3, T4⟩ := id hT
  obtain ⟨f1, f2, f3, N, N1, N2, N3, N4⟩ := id hF
  obtain ⟨b1, b2, B, B1, B2, B3, B4⟩ := id hB
  obtain ⟨hK, agC, agH, agW, cst, wsC, wsW⟩ := RPl_K hP
  refine ⟨_, kp, rd, nw, i0, i1, fa, bo, pl, dr, _, Cx_o ?_ (c_X5_fool l g x a kp rd nw i0 i1 fa bo pl dr u v w D p1 p5), c_X6_fool l g b σ u v w D p1 p6 C p2 p8, ⟨D, C, S, hP, hS, hT, hF, hB, hI⟩⟩
  rw [p7, p8, q1]
  exact fol_eq p1 p2 m1
theorem st_windows {l : Launch} {g : GT} {x : Nat} {a : Nat → Nat → Nat} {kp : Int32} {rd nw i0 i1 fa bo pl dr : S2} {b : Nat → Nat} {σ : S2} (hR : Rel kp rd nw i0 i1 fa bo pl σ) (u : Int32) : Go l g x a kp rd nw i0 i1 fa bo pl dr b σ yX5_windows cX5_windows 2 (k2_rm 3 90) yX6_windows cX6_windows 2 (k2_rm 2 60) [.int u] := by
  have hR0 := hR
  obtain ⟨D, C, S, hP, hS, hT, hF, hB, hI⟩ := hR
  obtain ⟨p1, p2, p3, p4, p5, p6, p7, p8, p9, p10, p11, p12, ⟨r, r1, r2⟩, p14⟩ := id hP
  obtain ⟨q1, q2, q3, q4, q5, m1, m2, m3, m4⟩ := id hS
  obtain ⟨t1, t2, T, T1, T2, T3, T4⟩ := id hT
  obtain ⟨f1, f2, f3, N, N1, N2, N3, N4⟩ := id hF
  obtain ⟨b1, b2, B, B1, B2, B3, B4⟩ := id hB
  obtain ⟨hK, agC, agH, agW, cst, wsC, wsW⟩ := RPl_K hP
  refine ⟨_, kp, rd, nw, i0, i1, fa, bo, pl, dr, _, Cx_o ?_ (c_X5_windows l g x a kp rd nw i0 i1 fa bo pl dr u D p1 p5), c_X6_windows l g b σ u D p1 p6, hR0⟩
  rw [q1]
theorem st_leastWindow {l : Launch} {g : GT} {x : Nat} {a : Nat → Nat → Nat} {kp : Int32} {rd nw i0 i1 fa bo pl dr : S2} {b : Nat → Nat} {σ : S2} (hR : Rel kp rd nw i0 i1 fa bo pl σ) : Go l g x a kp rd nw i0 i1 fa bo pl dr b σ yX5_leastWindow cX5_leastWindow 2 (k2_rm 3 90) yX6_leastWindow cX6_leastWindow 2 (k2_rm 2 60) [] := by
  have hR0 := hR
  obtain ⟨D, C, S, hP, hS, hT, hF, hB, hI⟩ := hR
  obtain ⟨p1, p2, p3, p4, p5, p6, p7, p8, p9, p10, p11, p12, ⟨r, r1, r2⟩, p14⟩ := id hP
  obtain ⟨q1, q2, q3, q4, q5, m1, m2, m3, m4⟩ := id hS
  obtain ⟨t1, t2, T, T1, T2, T3, T4⟩ := id hT
  obtain ⟨f1, f2, f3, N, N1, N2, N3, N4⟩ := id hF
  obtain ⟨b1, b2, B, B1, B2, B3, B4⟩ := id hB
  obtain ⟨hK, agC, agH, agW, cst, wsC, wsW⟩ := RPl_K hP
  refine ⟨_, kp, rd, nw, i0, i1, fa, bo, pl, dr, _, Cx_o ?_ (c_X5_leastWindow l g x a kp rd nw i0 i1 fa bo pl dr  D p1 p5), c_X6_leastWindow l g b σ  D p1 p6, hR0⟩
  rw [q1]
theorem st_belief {l : Launch} {g : GT} {x : Nat} {a : Nat → Nat → Nat} {kp : Int32} {rd nw i0 i1 fa bo pl dr : S2} {b : Nat → Nat} {σ : S2} (hR : Rel kp rd nw i0 i1 fa bo pl σ) (u v w : Int32) : Go l g x a kp rd nw i0 i1 fa bo pl dr b σ yX5_belief cX5_belief 7 (k2_rm 3 90) yX6_belief cX6_belief 7 (k2_rm 3 90) [.int u, .int v, .int w] := by
  have hR0 := hR
  obtain ⟨D, C, S, hP, hS, hT, hF, hB, hI⟩ := hR
  obtain ⟨p1, p2, p3, p4, p5, p6, p7, p8, p9, p10, p11, p12, ⟨r, r1, r2⟩, p14⟩ := id hP
  obtain ⟨q1, q2, q3, q4, q5, m1, m2, m3, m4⟩ := id hS
  obtain ⟨t1, t2, T, T1, T2, T3, T4⟩ := id hT
  obtain ⟨f1, f2, f3, N, N1, N2, N3, N4⟩ := id hF
  obtain ⟨b1, b2, B, B1, B2, B3, B4⟩ := id hB
  obtain ⟨hK, agC, agH, agW, cst, wsC, wsW⟩ := RPl_K hP
  refine ⟨_, kp, rd, nw, i0, i1, fa, bo, pl, dr, _, Cx_o ?_ (c_X5_belief l g x a kp rd nw i0 i1 fa bo pl dr u v w D p1 p5 C p2 p7 hK), c_X6_belief l g b σ u v w D p1 p6 C p2 p8, hR0⟩
  rw [belX_cg agW agH, q1]
  exact bel_eq p1 wsW wsC
theorem st_bestDoor {l : Launch} {g : GT} {x : Nat} {a : Nat → Nat → Nat} {kp : Int32} {rd nw i0 i1 fa bo pl dr : S2} {b : Nat → Nat} {σ : S2} (hR : Rel kp rd nw i0 i1 fa bo pl σ) (u v : Int32) : Go l g x a kp rd nw i0 i1 fa bo pl dr b σ yX5_bestDoor cX5_bestDoor 9 (k2_rm 3 90) yX6_bestDoor cX6_bestDoor 9 (k2_rm 3 90) [.int u, .int v] := by
  have hR0 := hR
  obtain ⟨D, C, S, hP, hS, hT, hF, hB, hI⟩ := hR
  obtain ⟨p1, p2, p3, p4, p5, p6, p7, p8, p9, p10, p11, p12, ⟨r, r1, r2⟩, p14⟩ := id hP
  obtain ⟨q1, q2, q3, q4, q5, m1, m2, m3, m4⟩ := id hS
  obtain ⟨t1, t2, T, T1, T2, T3, T4⟩ := id hT
  obtain ⟨f1, f2, f3, N, N1, N2, N3, N4⟩ := id hF
  obtain ⟨b1, b2, B, B1, B2, B3, B4⟩ := id hB
  obtain ⟨hK, agC, agH, agW, cst, wsC, wsW⟩ := RPl_K hP
  refine ⟨_, kp, rd, nw, i0, i1, fa, bo, pl, dr, _, Cx_o ?_ (c_X5_bestDoor l g x a kp rd nw i0 i1 fa bo pl dr u v D p1 p5 C p2 p7 hK), c_X6_bestDoor l g b σ u v D p1 p6 C p2 p8, hR0⟩
  rw [bestF_cg agW agH, q1]
theorem st_watchman {l : Launch} {g : GT} {x : Nat} {a : Nat → Nat → Nat} {kp : Int32} {rd nw i0 i1 fa bo pl dr : S2} {b : Nat → Nat} {σ : S2} (hR : Rel kp rd nw i0 i1 fa bo pl σ) (u : Int32) : Go l g x a kp rd nw i0 i1 fa bo pl dr b σ yX5_watchman cX5_watchman 2 (k2_rm 2 60) yX6_watchman cX6_watchman 2 (k2_rm 1 30) [.int u] := by
  have hR0 := hR
  obtain ⟨D, C, S, hP, hS, hT, hF, hB, hI⟩ := hR
  obtain ⟨p1, p2, p3, p4, p5, p6, p7, p8, p9, p10, p11, p12, ⟨r, r1, r2⟩, p14⟩ := id hP
  obtain ⟨q1, q2, q3, q4, q5, m1, m2, m3, m4⟩ := id hS
  obtain ⟨t1, t2, T, T1, T2, T3, T4⟩ := id hT
  obtain ⟨f1, f2, f3, N, N1, N2, N3, N4⟩ := id hF
  obtain ⟨b1, b2, B, B1, B2, B3, B4⟩ := id hB
  obtain ⟨hK, agC, agH, agW, cst, wsC, wsW⟩ := RPl_K hP
  refine ⟨_, kp, rd, nw, i0, i1, fa, bo, pl, dr, _, Cx_o ?_ (c_X5_watchman l g x a kp rd nw i0 i1 fa bo pl dr u D p1 p5 S p3 p10 (fun h => p4 (fun z => h (by rw [p10, z]; rfl)))), c_X6_watchman l g b σ u D p1 p6 S p3 p11, hR0⟩
  rw [p10, p11, p6]
  by_cases h1 : inB u.toInt 0 99999
  · rw [if_pos h1, if_pos h1]
    by_cases h2 : nI S = 0
    · rw [if_pos h2, if_pos h2]
    · rw [if_neg h2, if_neg h2]
      have hS0 : S ≠ 0 := fun z => h2 (by rw [z]; rfl)
      obtain ⟨e1, e2⟩ := clN h1 (by decide)
      have hw := watN (D := D) (S := S) (t := cl u) (p4 hS0) p1 (by omega) p3 (by have := h1.2; omega)
      rw [← e1] at hw
      exact hw.symm
  · rw [if_neg h1, if_neg h1]
theorem st_unseen {l : Launch} {g : GT} {x : Nat} {a : Nat → Nat → Nat} {kp : Int32} {rd nw i0 i1 fa bo pl dr : S2} {b : Nat → Nat} {σ : S2} (hR : Rel kp rd nw i0 i1 fa bo pl σ) (u : Int32) : Go l g x a kp rd nw i0 i1 fa bo pl dr b σ yX5_unseen cX5_unseen 2 (k2_rm 3 90) yX6_unseen cX6_unseen 2 (k2_rm 2 60) [.int u] := by
  have hR0 := hR
  obtain ⟨D, C, S, hP, hS, hT, hF, hB, hI⟩ := hR
  obtain ⟨p1, p2, p3, p4, p5, p6, p7, p8, p9, p10, p11, p12, ⟨r, r1, r2⟩, p14⟩ := id hP
  obtain ⟨q1, q2, q3, q4, q5, m1, m2, m3, m4⟩ := id hS
  obtain ⟨t1, t2, T, T1, T2, T3, T4⟩ := id hT
  obtain ⟨f1, f2, f3, N, N1, N2, N3, N4⟩ := id hF
  obtain ⟨b1, b2, B, B1, B2, B3, B4⟩ := id hB
  obtain ⟨hK, agC, agH, agW, cst, wsC, wsW⟩ := RPl_K hP
  refine ⟨_, kp, rd, nw, i0, i1, fa, bo, pl, dr, _, Cx_o ?_ (c_X5_unseen l g x a kp rd nw i0 i1 fa bo pl dr u D p1 p5 (fun h => p4 (fun z => h (by rw [p10, z]; rfl)))), c_X6_unseen l g b σ u D p1 p6 S p3 p11 p4, hR0⟩
  rw [p10, p11, p12, p5, p6, r2]
  by_cases h1 : inD u (nI D)
  · rw [if_pos h1, if_pos h1]
    by_cases h2 : nI S = 0
    · rw [if_pos h2, if_pos h2]
    · rw [if_neg h2, if_neg h2]
      have hS0 : S ≠ 0 := fun z => h2 (by rw [z]; rfl)
      have hw := lun_uns (D := D) (S := S) (d := cl u) (z := r) (p4 hS0) p1 (by omega) p3 (inD_cl2 h1 (by omega)) (by omega)
      rw [← inD_nI h1] at hw
      exact hw
  · rw [if_neg h1, if_neg h1]
theorem st_sight {l : Launch} {g : GT} {x : Nat} {a : Nat → Nat → Nat} {kp : Int32} {rd nw i0 i1 fa bo pl dr : S2} {b : Nat → Nat} {σ : S2} (hR : Rel kp rd nw i0 i1 fa bo pl σ) (u : Int32) : Go l g x a kp rd nw i0 i1 fa bo pl dr b σ yX5_sight cX5_sight 3 (k2_rm 4 120) yX6_sight cX6_sight 4 (k2_rm 2 60) [.int u] := by
  have hR0 := hR
  obtain ⟨D, C, S, hP, hS, hT, hF, hB, hI⟩ := hR
  obtain ⟨p1, p2, p3, p4, p5, p6, p7, p8, p9, p10, p11, p12, ⟨r, r1, r2⟩, p14⟩ := id hP
  obtain ⟨q1, q2, q3, q4, q5, m1, m2, m3, m4⟩ := id hS
  obtain ⟨t1, t2, T, T1, T2, T3, T4⟩ := id hT
  obtain ⟨f1, f2, f3, N, N1, N2, N3, N4⟩ := id hF
  obtain ⟨b1, b2, B, B1, B2, B3, B4⟩ := id hB
  obtain ⟨hK, agC, agH, agW, cst, wsC, wsW⟩ := RPl_K hP
  refine ⟨_, kp, rd, nw, i0, i1, fa, bo, pl, dr, _, Cx_o ?_ (c_X5_sight l g x a kp rd nw i0 i1 fa bo pl dr u D p1 p5 (fun h => p4 (fun z => h (by rw [p10, z]; rfl)))), c_X6_sight l g b σ u D p1 p6 S p3 p11 p4, hR0⟩
  rw [p10, p11]
  by_cases h1 : inB u.toInt 1 99
  · rw [if_pos h1, if_pos h1]
    by_cases h2 : nI S = 0
    · rw [if_pos h2, if_pos h2]
    · rw [if_neg h2, if_neg h2]
      have hS0 : S ≠ 0 := fun z => h2 (by rw [z]; rfl)
      exact sgt_eq (p4 hS0) p1 (by omega) p3 h1
  · rw [if_neg h1, if_neg h1]
theorem st_forged {l : Launch} {g : GT} {x : Nat} {a : Nat → Nat → Nat} {kp : Int32} {rd nw i0 i1 fa bo pl dr : S2} {b : Nat → Nat} {σ : S2} (hR : Rel kp rd nw i0 i1 fa bo pl σ) (u v : Int32) : Go l g x a kp rd nw i0 i1 fa bo pl dr b σ yX5_forged cX5_forged 5 (k2_rm 1 30) yX6_forged cX6_forged 5 (k2_rm 1 30) [.int u, .int v] := by
  have hR0 := hR
  obtain ⟨D, C, S, hP, hS, hT, hF, hB, hI⟩ := hR
  obtain ⟨p1, p2, p3, p4, p5, p6, p7, p8, p9, p10, p11, p12, ⟨r, r1, r2⟩, p14⟩ := id hP
  obtain ⟨q1, q2, q3, q4, q5, m1, m2, m3, m4⟩ := id hS
  obtain ⟨t1, t2, T, T1, T2, T3, T4⟩ := id hT
  obtain ⟨f1, f2, f3, N, N1, N2, N3, N4⟩ := id hF
  obtain ⟨b1, b2, B, B1, B2, B3, B4⟩ := id hB
  obtain ⟨hK, agC, agH, agW, cst, wsC, wsW⟩ := RPl_K hP
  refine ⟨_, kp, rd, nw, i0, i1, fa, bo, pl, dr, _, Cx_o ?_ (c_X5_forged l g x a kp rd nw i0 i1 fa bo pl dr u v D p1 p5), c_X6_forged l g b σ u v D p1 p6, hR0⟩
  rw [q1]
theorem st_keys {l : Launch} {g : GT} {x : Nat} {a : Nat → Nat → Nat} {kp : Int32} {rd nw i0 i1 fa bo pl dr : S2} {b : Nat → Nat} {σ : S2} (hR : Rel kp rd nw i0 i1 fa bo pl σ) (u v : Int32) : Go l g x a kp rd nw i0 i1 fa bo pl dr b σ yX5_keys cX5_keys 6 (k2_rm 2 60) yX6_keys cX6_keys 7 (k2_rm 2 60) [.int u, .int v] := by
  have hR0 := hR
  obtain ⟨D, C, S, hP, hS, hT, hF, hB, hI⟩ := hR
  obtain ⟨p1, p2, p3, p4, p5, p6, p7, p8, p9, p10, p11, p12, ⟨r, r1, r2⟩, p14⟩ := id hP
  obtain ⟨q1, q2, q3, q4, q5, m1, m2, m3, m4⟩ := id hS
  obtain ⟨t1, t2, T, T1, T2, T3, T4⟩ := id hT
  obtain ⟨f1, f2, f3, N, N1, N2, N3, N4⟩ := id hF
  obtain ⟨b1, b2, B, B1, B2, B3, B4⟩ := id hB
  obtain ⟨hK, agC, agH, agW, cst, wsC, wsW⟩ := RPl_K hP
  refine ⟨_, kp, rd, nw, i0, i1, fa, bo, pl, dr, _, Cx_o ?_ (c_X5_keys l g x a kp rd nw i0 i1 fa bo pl dr u v D p1 p5), c_X6_keys l g b σ u v D p1 p6, hR0⟩
  rw [q1]
theorem st_first {l : Launch} {g : GT} {x : Nat} {a : Nat → Nat → Nat} {kp : Int32} {rd nw i0 i1 fa bo pl dr : S2} {b : Nat → Nat} {σ : S2} (hR : Rel kp rd nw i0 i1 fa bo pl σ) (u : Int32) : Go l g x a kp rd nw i0 i1 fa bo pl dr b σ yX5_first cX5_first 6 (k2_rm 2 60) yX6_first cX6_first 6 (k2_rm 2 60) [.int u] := by
  have hR0 := hR
  obtain ⟨D, C, S, hP, hS, hT, hF, hB, hI⟩ := hR
  obtain ⟨p1, p2, p3, p4, p5, p6, p7, p8, p9, p10, p11, p12, ⟨r, r1, r2⟩, p14⟩ := id hP
  obtain ⟨q1, q2, q3, q4, q5, m1, m2, m3, m4⟩ := id hS
  obtain ⟨t1, t2, T, T1, T2, T3, T4⟩ := id hT
  obtain ⟨f1, f2, f3, N, N1, N2, N3, N4⟩ := id hF
  obtain ⟨b1, b2, B, B1, B2, B3, B4⟩ := id hB
  obtain ⟨hK, agC, agH, agW, cst, wsC, wsW⟩ := RPl_K hP
  refine ⟨_, kp, rd, nw, i0, i1, fa, bo, pl, dr, _, Cx_o ?_ (c_X5_first l g x a kp rd nw i0 i1 fa bo pl dr u D p1 p5 N N1 N2 (fun k hk => by rw [f1]; exact N4 k hk)), c_X6_first l g b σ u D p1 p6 N N1 N3, hR0⟩
  rw [f1, f2, f3]
theorem st_judge {l : Launch} {g : GT} {x : Nat} {a : Nat → Nat → Nat} {kp : Int32} {rd nw i0 i1 fa bo pl dr : S2} {b : Nat → Nat} {σ : S2} (hR : Rel kp rd nw i0 i1 fa bo pl σ) : Go l g x a kp rd nw i0 i1 fa bo pl dr b σ yX5_judge cX5_judge 1 (k2_rm 1 30) yX6_judge cX6_judge 2 (k2_rm 0 0) [] := by
  have hR0 := hR
  obtain ⟨D, C, S, hP, hS, hT, hF, hB, hI⟩ := hR
  obtain ⟨p1, p2, p3, p4, p5, p6, p7, p8, p9, p10, p11, p12, ⟨r, r1, r2⟩, p14⟩ := id hP
  obtain ⟨q1, q2, q3, q4, q5, m1, m2, m3, m4⟩ := id hS
  obtain ⟨t1, t2, T, T1, T2, T3, T4⟩ := id hT
  obtain ⟨f1, f2, f3, N, N1, N2, N3, N4⟩ := id hF
  obtain ⟨b1, b2, B, B1, B2, B3, B4⟩ := id hB
  obtain ⟨hK, agC, agH, agW, cst, wsC, wsW⟩ := RPl_K hP
  refine ⟨_, kp, rd, nw, i0, i1, fa, bo, pl, dr, _, Cx_o ?_ (c_X5_judge l g x a kp rd nw i0 i1 fa bo pl dr  B B1 B2 (fun k hk => by rw [b1]; exact B4 k hk)), c_X6_judge l g b σ  B B1 B3 B4, hR0⟩
  rw [q1, b1, b2]
theorem st_code {l : Launch} {g : GT} {x : Nat} {a : Nat → Nat → Nat} {kp : Int32} {rd nw i0 i1 fa bo pl dr : S2} {b : Nat → Nat} {σ : S2} (hR : Rel kp rd nw i0 i1 fa bo pl σ) (u v : Int32) : Go l g x a kp rd nw i0 i1 fa bo pl dr b σ yX5_code cX5_code 4 (k2_rm 5 150) yX6_code cX6_code 5 (k2_rm 4 120) [.int u, .int v] := by
  have hR0 := hR
  obtain ⟨D, C, S, hP, hS, hT, hF, hB, hI⟩ := hR
  obtain ⟨p1, p2, p3, p4, p5, p6, p7, p8, p9, p10, p11, p12, ⟨r, r1, r2⟩, p14⟩ := id hP
  obtain ⟨q1, q2, q3, q4, q5, m1, m2, m3, m4⟩ := id hS
  obtain ⟨t1, t2, T, T1, T2, T3, T4⟩ := id hT
  obtain ⟨f1, f2, f3, N, N1, N2, N3, N4⟩ := id hF
  obtain ⟨b1, b2, B, B1, B2, B3, B4⟩ := id hB
  obtain ⟨hK, agC, agH, agW, cst, wsC, wsW⟩ := RPl_K hP
  refine ⟨_, kp, rd, nw, i0, i1, fa, bo, pl, dr, _, Cx_o ?_ (c_X5_code l g x a kp rd nw i0 i1 fa bo pl dr u v D p1 p5 C p2 p7), c_X6_code l g b σ u v D p1 p6 C p2 p8, (by unfold codS; split; exact ⟨D, C, S, hP, hS, hT, hF, hB, hI⟩; exact hR0)⟩
  rw [p5, codX_cg agC]
  exact cod_eq p2 p1 cst (fun i hi => by rw [cpN_at, if_pos hi])
theorem st_feed {l : Launch} {g : GT} {x : Nat} {a : Nat → Nat → Nat} {kp : Int32} {rd nw i0 i1 fa bo pl dr : S2} {b : Nat → Nat} {σ : S2} (hR : Rel kp rd nw i0 i1 fa bo pl σ) (u : Int32) : Go l g x a kp rd nw i0 i1 fa bo pl dr b σ yX5_feed cX5_feed 2 (k2_rm 1 30) yX6_feed cX6_feed 2 (k2_rm 1 30) [.int u] := by
  have hR0 := hR
  obtain ⟨D, C, S, hP, hS, hT, hF, hB, hI⟩ := hR
  obtain ⟨p1, p2, p3, p4, p5, p6, p7, p8, p9, p10, p11, p12, ⟨r, r1, r2⟩, p14⟩ := id hP
  obtain ⟨q1, q2, q3, q4, q5, m1, m2, m3, m4⟩ := id hS
  obtain ⟨t1, t2, T, T1, T2, T3, T4⟩ := id hT
  obtain ⟨f1, f2, f3, N, N1, N2, N3, N4⟩ := id hF
  obtain ⟨b1, b2, B, B1, B2, B3, B4⟩ := id hB
  obtain ⟨hK, agC, agH, agW, cst, wsC, wsW⟩ := RPl_K hP
  have cX := c_X5_feed l g x a kp rd nw i0 i1 fa bo pl dr u T T1 T2
  have cM := c_X6_feed l g b σ u T T1 T3
  rw [T2, t2] at cX
  rw [T3] at cM
  obtain ⟨T', z1, z2, z3⟩ := feed_ok (t := u) T1 T4
  generalize feedF (nI T) u (σ.2 14) = F at cX cM z2 z3
  refine ⟨_, kp, _, nw, i0, i1, fa, bo, pl, dr, _, cX, cM, D, C, S, hP, hS, ⟨t1, rfl, T', z1, z2, z2, z3⟩, hF, hB, hI⟩
theorem st_mark {l : Launch} {g : GT} {x : Nat} {a : Nat → Nat → Nat} {kp : Int32} {rd nw i0 i1 fa bo pl dr : S2} {b : Nat → Nat} {σ : S2} (hR : Rel kp rd nw i0 i1 fa bo pl σ) (u v : Int32) : Go l g x a kp rd nw i0 i1 fa bo pl dr b σ yX5_mark cX5_mark 3 (k2_rm 2 60) yX6_mark cX6_mark 3 (k2_rm 2 60) [.int u, .int v] := by
  have hR0 := hR
  obtain ⟨D, C, S, hP, hS, hT, hF, hB, hI⟩ := hR
  obtain ⟨p1, p2, p3, p4, p5, p6, p7, p8, p9, p10, p11, p12, ⟨r, r1, r2⟩, p14⟩ := id hP
  obtain ⟨q1, q2, q3, q4, q5, m1, m2, m3, m4⟩ := id hS
  obtain ⟨t1, t2, T, T1, T2, T3, T4⟩ := id hT
  obtain ⟨f1, f2, f3, N, N1, N2, N3, N4⟩ := id hF
  obtain ⟨b1, b2, B, B1, B2, B3, B4⟩ := id hB
  obtain ⟨hK, agC, agH, agW, cst, wsC, wsW⟩ := RPl_K hP
  have cX := c_X5_mark l g x a kp rd nw i0 i1 fa bo pl dr u v D p1 p5 C p2 p7
  have cM := c_X6_mark l g b σ u v D p1 p6 C p2 p8
  have e : markF (pl.1 0) (pl.1 1) (nw.2 0) (pl.2 4) (nw.1 3) u v = markF (nI D) (nI C) (σ.2 9) (σ.2 4) (σ.1 12) u v := by
    rw [p5, p7, q1, q4, markF_cg p2 agC]
  rw [e] at cX
  rw [p6, p8] at cM
  obtain ⟨z1, z2⟩ := mark_ok (d := u) (c := v) p1 p2 m1 cst m3
  generalize markF (nI D) (nI C) (σ.2 9) (σ.2 4) (σ.1 12) u v = F at cX cM z1 z2
  exact ⟨_, kp, rd, _, i0, i1, fa, bo, pl, dr, _, cX, cM, D, C, S, hP, ⟨rfl, q2, q3, rfl, q5, z1, m2, z2, m4⟩, hT, hF, hB, hI⟩
theorem st_wipe {l : Launch} {g : GT} {x : Nat} {a : Nat → Nat → Nat} {kp : Int32} {rd nw i0 i1 fa bo pl dr : S2} {b : Nat → Nat} {σ : S2} (hR : Rel kp rd nw i0 i1 fa bo pl σ) (u v : Int32) : Go l g x a kp rd nw i0 i1 fa bo pl dr b σ yX5_wipe cX5_wipe 3 (k2_rm 1 30) yX6_wipe cX6_wipe 3 (k2_rm 2 60) [.int u, .int v] := by
  have hR0 := hR
  obtain ⟨D, C, S, hP, hS, hT, hF, hB, hI⟩ := hR
  obtain ⟨p1, p2, p3, p4, p5, p6, p7, p8, p9, p10, p11, p12, ⟨r, r1, r2⟩, p14⟩ := id hP
  obtain ⟨q1, q2, q3, q4, q5, m1, m2, m3, m4⟩ := id hS
  obtain ⟨t1, t2, T, T1, T2, T3, T4⟩ := id hT
  obtain ⟨f1, f2, f3, N, N1, N2, N3, N4⟩ := id hF
  obtain ⟨b1, b2, B, B1, B2, B3, B4⟩ := id hB
  obtain ⟨hK, agC, agH, agW, cst, wsC, wsW⟩ := RPl_K hP
  have cX := c_X5_wipe l g x a kp rd nw i0 i1 fa bo pl dr u v D p1 p5 C p2 p7
  have cM := c_X6_wipe l g b σ u v D p1 p6 C p2 p8
  have e : wipeF (pl.1 0) (pl.1 1) (nw.2 0) u v = wipeF (nI D) (nI C) (σ.2 9) u v := by
    rw [p5, p7, q1]
  rw [e] at cX
  rw [p6, p8] at cM
  have z1 := wipe_ok (d := u) (c := v) p1 p2 m1
  generalize wipeF (nI D) (nI C) (σ.2 9) u v = F at cX cM z1
  exact ⟨_, kp, rd, _, i0, i1, fa, bo, pl, dr, _, cX, cM, D, C, S, hP, ⟨rfl, q2, q3, q4, q5, z1, m2, m3, m4⟩, hT, hF, hB, hI⟩
theorem st_hide {l : Launch} {g : GT} {x : Nat} {a : Nat → Nat → Nat} {kp : Int32} {rd nw i0 i1 fa bo pl dr : S2} {b : Nat → Nat} {σ : S2} (hR : Rel kp rd nw i0 i1 fa bo pl σ) (u v w : Int32) : Go l g x a kp rd nw i0 i1 fa bo pl dr b σ yX5_hide cX5_hide 5 (k2_rm 2 60) yX6_hide cX6_hide 5 (k2_rm 2 60) [.int u, .int v, .int w] := by
  have hR0 := hR
  obtain ⟨D, C, S, hP, hS, hT, hF, hB, hI⟩ := hR
  obtain ⟨p1, p2, p3, p4, p5, p6, p7, p8, p9, p10, p11, p12, ⟨r, r1, r2⟩, p14⟩ := id hP
  obtain ⟨q1, q2, q3, q4, q5, m1, m2, m3, m4⟩ := id hS
  obtain ⟨t1, t2, T, T1, T2, T3, T4⟩ := id hT
  obtain ⟨f1, f2, f3, N, N1, N2, N3, N4⟩ := id hF
  obtain ⟨b1, b2, B, B1, B2, B3, B4⟩ := id hB
  obtain ⟨hK, agC, agH, agW, cst, wsC, wsW⟩ := RPl_K hP
  have cX := c_X5_hide l g x a kp rd nw i0 i1 fa bo pl dr u v w D p1 p5 C p2 p7
  have cM := c_X6_hide l g b σ u v w D p1 p6 C p2 p8
  have e : hideF (pl.1 0) (pl.1 1) (nw.2 1) (pl.2 4) (nw.1 3) u v w = hideF (nI D) (nI C) (σ.2 10) (σ.2 4) (σ.1 12) u v w := by
    rw [p5, p7, q2, q4, hideF_cg p2 agC]
  rw [e] at cX
  rw [p6, p8] at cM
  obtain ⟨z1, z2⟩ := hide_ok (d := u) (c := v) (z := w) p1 p2 m2 cst m3
  generalize hideF (nI D) (nI C) (σ.2 10) (σ.2 4) (σ.1 12) u v w = F at cX cM z1 z2
  exact ⟨_, kp, rd, _, i0, i1, fa, bo, pl, dr, _, cX, cM, D, C, S, hP, ⟨q1, rfl, q3, rfl, q5, m1, z1, z2, m4⟩, hT, hF, hB, hI⟩
theorem st_copy {l : Launch} {g : GT} {x : Nat} {a : Nat → Nat → Nat} {kp : Int32} {rd nw i0 i1 fa bo pl dr : S2} {b : Nat → Nat} {σ : S2} (hR : Rel kp rd nw i0 i1 fa bo pl σ) (u v : Int32) : Go l g x a kp rd nw i0 i1 fa bo pl dr b σ yX5_copy cX5_copy 5 (k2_rm 2 60) yX6_copy cX6_copy 5 (k2_rm 2 60) [.int u, .int v] := by
  have hR0 := hR
  obtain ⟨D, C, S, hP, hS, hT, hF, hB, hI⟩ := hR
  obtain ⟨p1, p2, p3, p4, p5, p6, p7, p8, p9, p10, p11, p12, ⟨r, r1, r2⟩, p14⟩ := id hP
  obtain ⟨q1, q2, q3, q4, q5, m1, m2, m3, m4⟩ := id hS
  obtain ⟨t1, t2, T, T1, T2, T3, T4⟩ := id hT
  obtain ⟨f1, f2, f3, N, N1, N2, N3, N4⟩ := id hF
  obtain ⟨b1, b2, B, B1, B2, B3, B4⟩ := id hB
  obtain ⟨hK, agC, agH, agW, cst, wsC, wsW⟩ := RPl_K hP
  have cX := c_X5_copy l g x a kp rd nw i0 i1 fa bo pl dr u v D p1 p5 C p2 p7
  have cM := c_X6_copy l g b σ u v D p1 p6 C p2 p8
  have e : copXF D C (pl.2 4) (nw.2 0) (nw.1 3) u v = copyF D C (σ.2 4) (σ.2 9) (σ.1 12) u v := by
    rw [q1, q4, copXF_cg agC]
    exact cop_eq p2 cst m3
  rw [e] at cX
  skip
  obtain ⟨z1, z2⟩ := copy_ok (d := u) (f := v) p1 p2 m1 cst m3
  generalize copyF D C (σ.2 4) (σ.2 9) (σ.1 12) u v = F at cX cM z1 z2
  exact ⟨_, kp, rd, _, i0, i1, fa, bo, pl, dr, _, cX, cM, D, C, S, hP, ⟨rfl, q2, q3, rfl, q5, z1, m2, z2, m4⟩, hT, hF, hB, hI⟩
theorem st_night {l : Launch} {g : GT} {x : Nat} {a : Nat → Nat → Nat} {kp : Int32} {rd nw i0 i1 fa bo pl dr : S2} {b : Nat → Nat} {σ : S2} (hR : Rel kp rd nw i0 i1 fa bo pl σ) (u : Int32) : Go l g x a kp rd nw i0 i1 fa bo pl dr b σ yX5_night cX5_night 3 (k2_rm 3 90) yX6_night cX6_night 3 (k2_rm 2 60) [.int u] := by
  have hR0 := hR
  obtain ⟨D, C, S, hP, hS, hT, hF, hB, hI⟩ := hR
  obtain ⟨p1, p2, p3, p4, p5, p6, p7, p8, p9, p10, p11, p12, ⟨r, r1, r2⟩, p14⟩ := id hP
  obtain ⟨q1, q2, q3, q4, q5, m1, m2, m3, m4⟩ := id hS
  obtain ⟨t1, t2, T, T1, T2, T3, T4⟩ := id hT
  obtain ⟨f1, f2, f3, N, N1, N2, N3, N4⟩ := id hF
  obtain ⟨b1, b2, B, B1, B2, B3, B4⟩ := id hB
  obtain ⟨hK, agC, agH, agW, cst, wsC, wsW⟩ := RPl_K hP
  have cX := c_X5_night l g x a kp rd nw i0 i1 fa bo pl dr u D p1 p5 C p2 p7 hK
  have cM := c_X6_night l g b σ u D p1 p6 C p2 p8 m4
  have e : nightF D C (fun c => wshF (pl.2 2 c) (pl.2 3 c)) (pl.2 5) (pl.1 7) (nw.2 0, nw.1 4) (nw.1 2) u = nightF D C (fun c => wshF (σ.2 2 c) (σ.2 3 c)) (σ.2 5) (σ.1 6) (σ.2 9, σ.1 13) (σ.1 11) u := by
    rw [q1, q3, q5, p9]
    exact nightF_cg agW agH
  rw [e] at cX
  skip
  obtain ⟨z1, z2⟩ := night_ok (wb := fun c => wshF (σ.2 2 c) (σ.2 3 c)) (ch := σ.2 5) (rn := σ.1 6) (nt := σ.1 11) (n := u) (s := (σ.2 9, σ.1 13)) p1 p2 m1 m4
  generalize nightF D C (fun c => wshF (σ.2 2 c) (σ.2 3 c)) (σ.2 5) (σ.1 6) (σ.2 9, σ.1 13) (σ.1 11) u = F at cX cM z1 z2
  exact ⟨_, kp, rd, _, i0, i1, fa, bo, pl, dr, _, cX, cM, D, C, S, hP, ⟨rfl, q2, rfl, q4, rfl, z1, m2, m3, z2⟩, hT, hF, hB, hI⟩
theorem st_note {l : Launch} {g : GT} {x : Nat} {a : Nat → Nat → Nat} {kp : Int32} {rd nw i0 i1 fa bo pl dr : S2} {b : Nat → Nat} {σ : S2} (hR : Rel kp rd nw i0 i1 fa bo pl σ) (u v w : Int32) : Go l g x a kp rd nw i0 i1 fa bo pl dr b σ yX5_note cX5_note 4 (k2_rm 1 30) yX6_note cX6_note 4 (k2_rm 2 60) [.int u, .int v, .int w] := by
  have hR0 := hR
  obtain ⟨D, C, S, hP, hS, hT, hF, hB, hI⟩ := hR
  obtain ⟨p1, p2, p3, p4, p5, p6, p7, p8, p9, p10, p11, p12, ⟨r, r1, r2⟩, p14⟩ := id hP
  obtain ⟨q1, q2, q3, q4, q5, m1, m2, m3, m4⟩ := id hS
  obtain ⟨t1, t2, T, T1, T2, T3, T4⟩ := id hT
  obtain ⟨f1, f2, f3, N, N1, N2, N3, N4⟩ := id hF
  obtain ⟨b1, b2, B, B1, B2, B3, B4⟩ := id hB
  obtain ⟨hK, agC, agH, agW, cst, wsC, wsW⟩ := RPl_K hP
  have cX := c_X5_note l g x a kp rd nw i0 i1 fa bo pl dr u v w N N1 N2
  have cM := c_X6_note l g b σ u v w D p1 p6 N N1 N3
  rw [p5, N2, f1, f2, f3] at cX
  rw [p6, N3] at cM
  obtain ⟨N', z1, z2, z3⟩ := note_ok (d := u) (n := v) (z := w) (nn := σ.2 38) (nc := σ.2 39) p1 N1 N4
  generalize noteF (nI D) (nI N) (σ.2 37) (σ.2 38) (σ.2 39) u v w = F at cX cM z2 z3
  exact ⟨_, kp, rd, nw, i0, i1, _, bo, pl, dr, _, cX, cM, D, C, S, hP, hS, hT, ⟨rfl, rfl, rfl, N', z1, z2, z2, z3⟩, hB, hI⟩
theorem st_write {l : Launch} {g : GT} {x : Nat} {a : Nat → Nat → Nat} {kp : Int32} {rd nw i0 i1 fa bo pl dr : S2} {b : Nat → Nat} {σ : S2} (hR : Rel kp rd nw i0 i1 fa bo pl σ) (u v : Int32) : Go l g x a kp rd nw i0 i1 fa bo pl dr b σ yX5_write cX5_write 3 (k2_rm 1 30) yX6_write cX6_write 3 (k2_rm 2 60) [.int u, .int v] := by
  have hR0 := hR
  obtain ⟨D, C, S, hP, hS, hT, hF, hB, hI⟩ := hR
  obtain ⟨p1, p2, p3, p4, p5, p6, p7, p8, p9, p10, p11, p12, ⟨r, r1, r2⟩, p14⟩ := id hP
  obtain ⟨q1, q2, q3, q4, q5, m1, m2, m3, m4⟩ := id hS
  obtain ⟨t1, t2, T, T1, T2, T3, T4⟩ := id hT
  obtain ⟨f1, f2, f3, N, N1, N2, N3, N4⟩ := id hF
  obtain ⟨b1, b2, B, B1, B2, B3, B4⟩ := id hB
  obtain ⟨hK, agC, agH, agW, cst, wsC, wsW⟩ := RPl_K hP
  have cX := c_X5_write l g x a kp rd nw i0 i1 fa bo pl dr u v B B1 B2
  have cM := c_X6_write l g b σ u v D p1 p6 B B1 B3
  rw [p5, B2, b1, b2] at cX
  rw [p6, B3] at cM
  obtain ⟨N', z1, z2, z3⟩ := write_ok (d := u) (s := v) (bm := σ.2 42) p1 B1 B4
  generalize writeF (nI D) (nI B) (σ.2 41) (σ.2 42) u v = F at cX cM z2 z3
  exact ⟨_, kp, rd, nw, i0, i1, fa, _, pl, dr, _, cX, cM, D, C, S, hP, hS, hT, hF, ⟨rfl, rfl, N', z1, z2, z2, z3⟩, hI⟩
theorem st_tear {l : Launch} {g : GT} {x : Nat} {a : Nat → Nat → Nat} {kp : Int32} {rd nw i0 i1 fa bo pl dr : S2} {b : Nat → Nat} {σ : S2} (hR : Rel kp rd nw i0 i1 fa bo pl σ) : Go l g x a kp rd nw i0 i1 fa bo pl dr b σ yX5_tear cX5_tear 2 (k2_rm 0 0) yX6_tear cX6_tear 2 (k2_rm 0 0) [] := by
  have hR0 := hR
  obtain ⟨D, C, S, hP, hS, hT, hF, hB, hI⟩ := hR
  obtain ⟨p1, p2, p3, p4, p5, p6, p7, p8, p9, p10, p11, p12, ⟨r, r1, r2⟩, p14⟩ := id hP
  obtain ⟨q1, q2, q3, q4, q5, m1, m2, m3, m4⟩ := id hS
  obtain ⟨t1, t2, T, T1, T2, T3, T4⟩ := id hT
  obtain ⟨f1, f2, f3, N, N1, N2, N3, N4⟩ := id hF
  obtain ⟨b1, b2, B, B1, B2, B3, B4⟩ := id hB
  obtain ⟨hK, agC, agH, agW, cst, wsC, wsW⟩ := RPl_K hP
  have cX := c_X5_tear l g x a kp rd nw i0 i1 fa bo pl dr
  have cM := c_X6_tear l g b σ
  rw [N2, B2] at cX
  rw [N3, B3] at cM
  exact ⟨_, kp, rd, nw, i0, i1, _, _, pl, dr, _, cX, cM, D, C, S, hP, hS, hT, ⟨f1, f2, f3, 0, by decide, rfl, rfl, fun k hk => absurd hk (by omega)⟩, ⟨b1, b2, 0, by decide, rfl, rfl, fun k hk => absurd hk (by omega)⟩, hI⟩
theorem st_seed {l : Launch} {g : GT} {x : Nat} {a : Nat → Nat → Nat} {kp : Int32} {rd nw i0 i1 fa bo pl dr : S2} {b : Nat → Nat} {σ : S2} (hR : Rel kp rd nw i0 i1 fa bo pl σ) (u : Int32) : Go l g x a kp rd nw i0 i1 fa bo pl dr b σ yX5_seed cX5_seed 3 (k2_rm 0 0) yX6_seed cX6_seed 3 (k2_rm 0 0) [.int u] := by
  have hR0 := hR
  obtain ⟨D, C, S, hP, hS, hT, hF, hB, hI⟩ := hR
  obtain ⟨p1, p2, p3, p4, p5, p6, p7, p8, p9, p10, p11, p12, ⟨r, r1, r2⟩, p14⟩ := id hP
  obtain ⟨q1, q2, q3, q4, q5, m1, m2, m3, m4⟩ := id hS
  obtain ⟨t1, t2, T, T1, T2, T3, T4⟩ := id hT
  obtain ⟨f1, f2, f3, N, N1, N2, N3, N4⟩ := id hF
  obtain ⟨b1, b2, B, B1, B2, B3, B4⟩ := id hB
  obtain ⟨hK, agC, agH, agW, cst, wsC, wsW⟩ := RPl_K hP
  have cX := c_X5_seed l g x a kp rd nw i0 i1 fa bo pl dr u
  have cM := c_X6_seed l g b σ u
  rw [q5] at cX
  have z : 0 ≤ (if 0 ≤ u then u else σ.1 13).toInt := by
    by_cases h : 0 ≤ u
    · rw [if_pos h]
      rw [Int32.le_iff_toInt_le] at h
      exact h
    · rw [if_neg h]; exact m4
  generalize (if 0 ≤ u then u else σ.1 13) = v at cX cM z
  exact ⟨_, kp, rd, _, i0, i1, fa, bo, pl, dr, _, cX, cM, D, C, S, hP, ⟨q1, q2, q3, q4, rfl, m1, m2, m3, z⟩, hT, hF, hB, hI⟩
