set_option maxHeartbeats 1000000 in
theorem law_loop {X : CT} {l : Launch} {g : GT} {b0 L : Nat} {xs : Nat → Int32} {x : Nat} {b : Nat → Nat} (hX : oK X l g RL code room_1) (hL : pL X b0 L xs) (hL2 : L ≤ 256) : ∀ (n ix : Nat) (a : Nat → Nat → Nat) (kp : Int32) (rd nw i0 i1 fa bo pl dr σ : S2), ix ≤ L → L < ix + n → Rel kp rd nw i0 i1 fa bo pl σ → vJ X 54 927 (wX g x a kp rd nw i0 i1 fa bo pl dr ++ wM g b σ) 18 [some (.ref b0), some (.ref x), some (.ref (b 0)), some (.int (nI ix))] [] := by
  intro n
  induction n with
  | zero => intro ix a kp rd nw i0 i1 fa bo pl dr σ h1 h2; exact absurd h2 (by omega)
  | succ n ih =>
    intro ix a kp rd nw i0 i1 fa bo pl dr σ h1 h2 hR
    refine r_iload3 hX dL_law_18 ?_
    refine r_aload0 hX dL_law_19 ?_
    refine r_slen hX hL dL_law_20 ?_
    refine r_push hX dL_law_21 ?_
    refine r_isub hX dL_law_22 ?_
    refine r_ic_gt hX dL_law_23 (fun h => ?_) (fun h => ?_)
    · refine r_push hX dL_law_1053 ?_
      exact r_lawret hX hL dL_law_1054
    · have hi : ix + 4 ≤ L := by
        rw [Int32.lt_iff_toInt_lt, show (4 : Int32) = nI 4 from rfl, pk_sub_toInt (by omega) (by decide), nI_toInt (by omega)] at h
        omega
      have k : KK X g b0 x b ix := fun a kp rd nw i0 i1 fa bo pl dr σ hR => by
        refine r_iinc3 hX dL_law_1047 rfl ?_
        refine r_goto hX dL_law_1050 ?_
        have e : nI ix + 4 = nI (ix + 4) := by rw [show (4 : Int32) = nI 4 from rfl, nI_add]
        rw [e]
        exact ih (ix + 4) a kp rd nw i0 i1 fa bo pl dr σ hi (by omega) hR
      refine r_aload0 hX dL_law_26 ?_
      refine r_iload3 hX dL_law_27 ?_
      refine r_sld hX hL dL_law_28 (vp_in_nI (by omega) (by omega)) ?_
      refine r_push hX dL_law_29 ?_
      refine r_iand hX dL_law_31 ?_
      rcases swc (xs (nI ix).toNatClampNeg &&& 31) 31 with ⟨j, hj, hs⟩ | hs
      · rcases (show j = 0 ∨ j = 1 ∨ j = 2 ∨ j = 3 ∨ j = 4 ∨ j = 5 ∨ j = 6 ∨ j = 7 ∨ j = 8 ∨ j = 9 ∨ j = 10 ∨ j = 11 ∨ j = 12 ∨ j = 13 ∨ j = 14 ∨ j = 15 ∨ j = 16 ∨ j = 17 ∨ j = 18 ∨ j = 19 ∨ j = 20 ∨ j = 21 ∨ j = 22 ∨ j = 23 ∨ j = 24 ∨ j = 25 ∨ j = 26 ∨ j = 27 ∨ j = 28 ∨ j = 29 ∨ j = 30 by omega) with rfl | rfl | rfl | rfl | rfl | rfl | rfl | rfl | rfl | rfl | rfl | rfl | rfl | rfl | rfl | rfl | rfl | rfl | rfl | rfl | rfl | rfl | rfl | rfl | rfl | rfl | rfl | rfl | rfl | rfl | rfl
        · refine r_tin (tgt := 172) hX dL_law_32 0 (by omega) (by decide) rfl (by decide) ?_
          exact lc_feed hX hL hi hL2 hR k
        · refine r_tin (tgt := 195) hX dL_law_32 1 (by omega) (by decide) rfl (by decide) ?_
          exact lc_street hX hL hi hL2 hR k
        · refine r_tin (tgt := 208) hX dL_law_32 2 (by omega) (by decide) rfl (by decide) ?_
          exact lc_fault hX hL hi hL2 hR k
        · refine r_tin (tgt := 221) hX dL_law_32 3 (by omega) (by decide) rfl (by decide) ?_
          exact lc_told hX hL hi hL2 hR k
        · refine r_tin (tgt := 244) hX dL_law_32 4 (by omega) (by decide) rfl (by decide) ?_
          exact lc_chalk hX hL hi hL2 hR k
        · refine r_tin (tgt := 277) hX dL_law_32 5 (by omega) (by decide) rfl (by decide) ?_
          exact lc_door hX hL hi hL2 hR k
        · refine r_tin (tgt := 310) hX dL_law_32 6 (by omega) (by decide) rfl (by decide) ?_
          exact lc_mark hX hL hi hL2 hR k
        · refine r_tin (tgt := 343) hX dL_law_32 7 (by omega) (by decide) rfl (by decide) ?_
          exact lc_wipe hX hL hi hL2 hR k
        · refine r_tin (tgt := 376) hX dL_law_32 8 (by omega) (by decide) rfl (by decide) ?_
          exact lc_hide hX hL hi hL2 hR k
        · refine r_tin (tgt := 435) hX dL_law_32 9 (by omega) (by decide) rfl (by decide) ?_
          exact lc_copy hX hL hi hL2 hR k
        · refine r_tin (tgt := 468) hX dL_law_32 10 (by omega) (by decide) rfl (by decide) ?_
          exact lc_night hX hL hi hL2 hR k
        · refine r_tin (tgt := 491) hX dL_law_32 11 (by omega) (by decide) rfl (by decide) ?_
          exact lc_like hX hL hi hL2 hR k
        · refine r_tin (tgt := 514) hX dL_law_32 12 (by omega) (by decide) rfl (by decide) ?_
          exact lc_fool hX hL hi hL2 hR k
        · refine r_tin (tgt := 557) hX dL_law_32 13 (by omega) (by decide) rfl (by decide) ?_
          exact lc_code hX hL hi hL2 hR k
        · refine r_tin (tgt := 590) hX dL_law_32 14 (by omega) (by decide) rfl (by decide) ?_
          exact lc_windows hX hL hi hL2 hR k
        · refine r_tin (tgt := 613) hX dL_law_32 15 (by omega) (by decide) rfl (by decide) ?_
          exact lc_leastWindow hX hL hi hL2 hR k
        · refine r_tin (tgt := 626) hX dL_law_32 16 (by omega) (by decide) rfl (by decide) ?_
          exact lc_belief hX hL hi hL2 hR k
        · refine r_tin (tgt := 669) hX dL_law_32 17 (by omega) (by decide) rfl (by decide) ?_
          exact lc_bestDoor hX hL hi hL2 hR k
        · refine r_tin (tgt := 702) hX dL_law_32 18 (by omega) (by decide) rfl (by decide) ?_
          exact lc_watchman hX hL hi hL2 hR k
        · refine r_tin (tgt := 725) hX dL_law_32 19 (by omega) (by decide) rfl (by decide) ?_
          exact lc_unseen hX hL hi hL2 hR k
        · refine r_tin (tgt := 748) hX dL_law_32 20 (by omega) (by decide) rfl (by decide) ?_
          exact lc_sight hX hL hi hL2 hR k
        · refine r_tin (tgt := 771) hX dL_law_32 21 (by omega) (by decide) rfl (by decide) ?_
          exact lc_forged hX hL hi hL2 hR k
        · refine r_tin (tgt := 804) hX dL_law_32 22 (by omega) (by decide) rfl (by decide) ?_
          exact lc_keys hX hL hi hL2 hR k
        · refine r_tin (tgt := 837) hX dL_law_32 23 (by omega) (by decide) rfl (by decide) ?_
          exact lc_note hX hL hi hL2 hR k
        · refine r_tin (tgt := 896) hX dL_law_32 24 (by omega) (by decide) rfl (by decide) ?_
          exact lc_first hX hL hi hL2 hR k
        · refine r_tin (tgt := 919) hX dL_law_32 25 (by omega) (by decide) rfl (by decide) ?_
          exact lc_write hX hL hi hL2 hR k
        · refine r_tin (tgt := 952) hX dL_law_32 26 (by omega) (by decide) rfl (by decide) ?_
          exact lc_tear hX hL hi hL2 hR k
        · refine r_tin (tgt := 965) hX dL_law_32 27 (by omega) (by decide) rfl (by decide) ?_
          exact lc_judge hX hL hi hL2 hR k
        · refine r_tin (tgt := 978) hX dL_law_32 28 (by omega) (by decide) rfl (by decide) ?_
          exact lc_seed hX hL hi hL2 hR k
        · refine r_tin (tgt := 1001) hX dL_law_32 29 (by omega) (by decide) rfl (by decide) ?_
          exact lc_keep hX hL hi hL2 hR k
        · refine r_tin (tgt := 1024) hX dL_law_32 30 (by omega) (by decide) rfl (by decide) ?_
          exact lc_goBack hX hL hi hL2 hR k
      · refine r_tout (tgt := 1047) hX dL_law_32 (by omega) (by decide) ?_
        exact k a kp rd nw i0 i1 fa bo pl dr σ hR
theorem nwI0 : Cond.instantiable RX0 3 ∈ UW := mem_UW 183 (by decide +kernel) rfl
theorem nwI1 : Cond.instantiable RX1 4 ∈ UW := mem_UW 162 (by decide +kernel) rfl
theorem nwI2 : Cond.instantiable RX2 10 ∈ UW := mem_UW 200 (by decide +kernel) rfl
theorem nwI3 : Cond.instantiable RX3 8 ∈ UW := mem_UW 101 (by decide +kernel) rfl
theorem nwI4 : Cond.instantiable RX4 5 ∈ UW := mem_UW 135 (by decide +kernel) rfl
theorem nwI5 : Cond.instantiable RX5 9 ∈ UW := mem_UW 93 (by decide +kernel) rfl
theorem nwI6 : Cond.instantiable RX6 45 ∈ UW := mem_UW 668 (by decide +kernel) rfl
theorem arr_K {args : Array Value} {s : State} {ty : FieldType} (h : (Cond.arrayClass ty).before args s = true) : ∃ cA : ClassId, ArrOfT s cA ty ∧ s.vm.findClass ("[" ++ ty.toString) = some cA := by
  obtain ⟨cA, kA, comp, h1, h2, h3⟩ := Cond.arrayClass_spec h
  exact ⟨cA, fun n z => ⟨fun k h => (by cases h), kA, h2, comp, h3⟩, h1⟩
set_option maxHeartbeats 1000000 in
/-- from the entry, for every script of at most 256 ints, the law comes to its end with true -/
theorem whole_start {p : Program} {e : Env} {s : State} {m : MethodId} {below : List Frame} {meth : Method} {c : Code} (l : Launch) {b L : Nat} {xs : Nat → Int32} (hL : L ≤ 256) (C0 : lw_At p s m meth c b L xs) : W p l e room_1 s m #[Value.ref b] below meth c s.heap [] 0 0 (lw_Z below #[Value.ref b] s) (entryFrame m ([Value.ref b] : List Value).toArray 4) := by
  obtain ⟨hx, hb, hr, hml, hown, hts, hX, hbl, hlocks, hgv⟩ := id C0
  have hUW : ∀ w ∈ UW, w.before #[Value.ref b] s = true := fun w hw => hts w (List.mem_filter.mp hw).1
  obtain ⟨c0, iS0, hKn0⟩ := u_known (C := RX0) (T := TX0) (N := 3) (n := 3) hUW inU0 (hUW (.instantiable RX0 3) nwI0)
  obtain ⟨c1, iS1, hKn1⟩ := u_known (C := RX1) (T := TX1) (N := 4) (n := 4) hUW inU1 (hUW (.instantiable RX1 4) nwI1)
  obtain ⟨c2, iS2, hKn2⟩ := u_known (C := RX2) (T := TX2) (N := 10) (n := 10) hUW inU2 (hUW (.instantiable RX2 10) nwI2)
  obtain ⟨c3, iS3, hKn3⟩ := u_known (C := RX3) (T := TX3) (N := 8) (n := 8) hUW inU3 (hUW (.instantiable RX3 8) nwI3)
  obtain ⟨c4, iS4, hKn4⟩ := u_known (C := RX4) (T := TX4) (N := 5) (n := 5) hUW inU4 (hUW (.instantiable RX4 5) nwI4)
  obtain ⟨c5, iS5, hKn5⟩ := u_known (C := RX5) (T := TX5) (N := 9) (n := 9) hUW inU5 (hUW (.instantiable RX5 9) nwI5)
  obtain ⟨c6, iS6, hKn6⟩ := u_known (C := RX6) (T := TX6) (N := 45) (n := 45) hUW inU6 (hUW (.instantiable RX6 45) nwI6)
  obtain ⟨cI, aI1, aI2⟩ := arr_K (hUW _ uArrI)
  obtain ⟨cZ, aZ1, aZ2⟩ := arr_K (hUW _ uArrZ)
  obtain ⟨dC, dI, hKc⟩ : ∃ (dC : Nat → ClassId) (dI : Nat → Nat → Nat), ∀ (k : Nat) (q : vw_C), vwCl[k]? = some q → u_Kn s q.1 q.2.1 q.2.2 (dC k) (dI k) := by
    refine ⟨fun k => if k = 0 then c0 else if k = 1 then c1 else if k = 2 then c2 else if k = 3 then c3 else if k = 4 then c4 else if k = 5 then c5 else c6, fun k => if k = 0 then iS0 else if k = 1 then iS1 else if k = 2 then iS2 else if k = 3 then iS3 else if k = 4 then iS4 else if k = 5 then iS5 else iS6, ?_⟩
    intro k q hq
    match k, hq with
    | 0, hq => cases hq; exact hKn0
    | 1, hq => cases hq; exact hKn1
    | 2, hq => cases hq; exact hKn2
    | 3, hq => cases hq; exact hKn3
    | 4, hq => cases hq; exact hKn4
    | 5, hq => cases hq; exact hKn5
    | 6, hq => cases hq; exact hKn6
    | k + 7, hq => simp [vwCl] at hq
  have hK : va_K (dC, dI) vwCl [(cI, .int), (cZ, .boolean)] s := ⟨hKc, fun k q h => by
    match k, h with
    | 0, h => cases h; exact ⟨aI1, aI2⟩
    | 1, h => cases h; exact ⟨aZ1, aZ2⟩
    | k + 2, h => simp at h⟩
  have hN : ∀ w ∈ NW, va_Nw w s := fun w hw => by
    have h1 := hts w (List.mem_filter.mp hw).1
    have h2 := (List.mem_filter.mp hw).2
    cases w <;> first | exact va_Nw.of rfl h1 | cases h2
  have oX : oK (p, l, e, room_1, s, m, #[Value.ref b], below, meth, c, (dC, dI), (fun q : Nat => s.heap.size ≤ q), lw_Z below #[Value.ref b] s) l ((dC, dI), cI, cZ) RL code room_1 := ⟨rfl, rfl, rfl, hx, hb, hown, hUW, ⟨hK, hN⟩, fun _ h => h⟩
  have lX : pL (p, l, e, room_1, s, m, #[Value.ref b], below, meth, c, (dC, dI), (fun q : Nat => s.heap.size ≤ q), lw_Z below #[Value.ref b] s) b L xs := ⟨hr, hlocks, rfl, rfl, rfl, rfl, hX, hbl⟩
  have hl := lh_entry [.ref b] (n := 4) (Nat.le_of_ble_eq_true rfl)
  rw [lg_entry_eq]
  have key : vJ (p, l, e, room_1, s, m, #[Value.ref b], below, meth, c, (dC, dI), (fun q : Nat => s.heap.size ≤ q), lw_Z below #[Value.ref b] s) 0 0 [] 0 [some (.ref b), none, none, none] [] := by
    generalize (p, l, e, room_1, s, m, #[Value.ref b], below, meth, c, (dC, dI), (fun q : Nat => s.heap.size ≤ q), lw_Z below #[Value.ref b] s) = X at oX lX ⊢
    refine r_new oX 9 dL_law_0 nw_L_7 (Nat.le_of_ble_eq_true rfl) (Nat.le_of_ble_eq_true rfl) (fun q0 => ?_)
    refine r_dup oX dL_law_3 rfl ?_
    refine r_init oX dL_law_4 mi_L_9 kX5_init (c_X5_init l _ q0) ⟨rfl, rfl, (Nat.le_of_ble_eq_true rfl), (Nat.le_of_ble_eq_true rfl)⟩ (Nat.le_of_ble_eq_true rfl) (Nat.le_of_ble_eq_true rfl) (Nat.le_of_ble_eq_true rfl) (fun w0 hw0 => ?_)
    obtain ⟨a, rfl⟩ := hw0
    refine r_astore1 oX dL_law_7 rfl ?_
    refine r_new oX 45 dL_law_8 nw_L_10 (Nat.le_of_ble_eq_true rfl) (Nat.le_of_ble_eq_true rfl) (fun q1 => ?_)
    refine r_dup oX dL_law_11 rfl ?_
    refine r_init oX dL_law_12 mi_L_12 kX6_init (c_X6_init l _ q1) ⟨rfl, rfl, (Nat.le_of_ble_eq_true rfl), (Nat.le_of_ble_eq_true rfl)⟩ (Nat.le_of_ble_eq_true rfl) (Nat.le_of_ble_eq_true rfl) (Nat.le_of_ble_eq_true rfl) (fun w1 hw1 => ?_)
    obtain ⟨bm, rfl, rfl⟩ := hw1
    refine r_astore2 oX dL_law_15 rfl ?_
    refine r_push oX dL_law_16 ?_
    refine r_istore3 oX dL_law_17 rfl ?_
    refine vJn (cs' := 54) (sl' := 927) (w' := wX _ q0 a 0 s0R s0 s0 s0 s0 s0 s0P s0P ++ wM _ bm s0M) rfl rfl rfl ?_
    exact law_loop oX lX hL (L + 1) 0 a 0 s0R s0 s0 s0 s0 s0 s0P s0P s0M (Nat.zero_le _) (by omega) Rel_0
  exact key s.heap [] _ (fun k q h => by simp at h) ⟨fun i j p q h => by simp at h, fun k q h => by simp at h⟩ va_S.rf (by rw [hml]; exact hl)
