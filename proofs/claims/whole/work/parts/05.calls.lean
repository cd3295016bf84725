/-! the frame rule -/
def frm (w wc wc' w1 : va_W) : Prop := ∀ (D : va_G) (A : Nat → Prop) (H H1 : Heap), va_P D vwCl w H → va_D A w → (va_P D vwCl wc H ∧ va_D A wc) ∧ ((∀ q : Nat, q < H.size → ¬ va_A wc H.size q → H1[q]? = H[q]?) → va_P D vwCl wc' H1 → va_P D vwCl w1 H1 ∧ va_D A w1)
theorem va_D.same {A : Nat → Prop} {w w1 : va_W} (h : va_D A w) (ha : w1.map (fun q => q.1) = w.map (fun q => q.1)) : va_D A w1 := by
  have key : ∀ (k : Nat) (q : Nat × va_E), w1[k]? = some q → ∃ q0, w[k]? = some q0 ∧ q0.1 = q.1 := by
    intro k q hk
    have h1 : (w1.map (fun q => q.1))[k]? = some q.1 := by rw [List.getElem?_map, hk]; rfl
    rw [ha, List.getElem?_map] at h1
    cases h2 : w[k]? with
    | none => rw [h2] at h1; cases h1
    | some q0 => rw [h2] at h1; exact ⟨q0, rfl, Option.some.inj h1⟩
  refine ⟨fun i j x y hi hj hxy => ?_, fun k q hk => ?_⟩
  · obtain ⟨x0, h1, h2⟩ := key i x hi
    obtain ⟨y0, h3, h4⟩ := key j y hj
    exact h.1 i j x0 y0 h1 h3 (h2.trans (hxy.trans h4.symm))
  · obtain ⟨q0, h1, h2⟩ := key k q hk
    rw [← h2]
    exact h.2 k q0 h1
theorem frm_all {w w' : va_W} (ha : w'.map (fun q => q.1) = w.map (fun q => q.1)) : frm w w w' w' := fun D A H H1 hP hD => ⟨⟨hP, hD⟩, fun _ h => ⟨h, hD.same ha⟩⟩
theorem frm_none {w : va_W} : frm w [] [] w := fun D A H H1 hP hD => ⟨⟨fun k q h => by simp at h, fun i j p q h => by simp at h, fun k q h => by simp at h⟩, fun hk _ => ⟨hP.kept (fun k q hq => hk q.1 (hP k q hq).lt (fun h => by
  rcases h with ⟨k2, e, h⟩ | h
  · simp at h
  · exact absurd (hP k q hq).lt (Nat.not_lt.mpr h))), hD⟩⟩
theorem frm_sub {w wc wc' w1 : va_W} (is rs : List Nat) (hn : va_nd is = true) (h1 : is.map (fun i => w[i]?) = wc.map some) (h2 : is.map (fun i => w1[i]?) = wc'.map some) (h3 : rs.map (fun i => w[i]?) = rs.map (fun i => w1[i]?)) (hlen : ((List.range w1.length).all (fun k => decide (k ∈ is) || decide (k ∈ rs))) = true) (ha : w1.map (fun q => q.1) = w.map (fun q => q.1)) : frm w wc wc' w1 := by
  intro D A H H1 hP hD
  have pick : ∀ {is : List Nat} {w : va_W} {v : va_W}, is.map (fun i => w[i]?) = v.map some → ∀ (k : Nat) (q : Nat × va_E), v[k]? = some q → ∃ i, is[k]? = some i ∧ w[i]? = some q := by
    intro is w v hs k q hq
    have h1 : (is.map (fun i => w[i]?))[k]? = some (some q) := by rw [hs, List.getElem?_map, hq]; rfl
    rw [List.getElem?_map] at h1
    cases hi : is[k]? with
    | none => rw [hi] at h1; cases h1
    | some i => rw [hi] at h1; exact ⟨i, rfl, Option.some.inj h1⟩
  refine ⟨⟨fun k q hq => ?_, hD.sub is hn h1⟩, fun hk hP1 => ⟨fun k q hq => ?_, hD.same ha⟩⟩
  · obtain ⟨i, -, hi⟩ := pick h1 k q hq
    exact hP i q hi
  · by_cases hi : k ∈ is
    · obtain ⟨j, hj⟩ := List.getElem?_of_mem hi
      have h4 : (is.map (fun i => w1[i]?))[j]? = some (some q) := by rw [List.getElem?_map, hj]; show some (w1[k]?) = _; rw [hq]
      rw [h2, List.getElem?_map] at h4
      cases h5 : wc'[j]? with
      | none => rw [h5] at h4; cases h4
      | some q0 =>
        rw [h5] at h4
        have e : q0 = q := by
          have h6 : some (some q0) = some (some q) := h4
          cases h6; rfl
        subst e
        exact hP1 j q0 h5
    · have hl : k < w1.length := (List.getElem?_eq_some_iff.mp hq).1
      have hc := List.all_eq_true.mp hlen k (List.mem_range.mpr hl)
      have hr : k ∈ rs := by
        simp only [Bool.or_eq_true, decide_eq_true_eq] at hc
        exact hc.resolve_left hi
      obtain ⟨j, hj⟩ := List.getElem?_of_mem hr
      have h4 : (rs.map (fun i => w1[i]?))[j]? = some (some q) := by rw [List.getElem?_map, hj]; show some (w1[k]?) = _; rw [hq]
      rw [← h3, List.getElem?_map, hj] at h4
      have h5 : w[k]? = some q := by
        have h6 : some (w[k]?) = some (some q) := h4
        exact Option.some.inj h6
      have hlt := (hP k q h5).lt
      refine (hP k q h5).kept (hk q.1 hlt (fun h => ?_))
      rcases h with ⟨k2, e, h⟩ | h
      · obtain ⟨i, hi1, hi2⟩ := pick h1 k2 (q.1, e) h
        have := hD.1 k i q (q.1, e) h5 hi2 rfl
        subst this
        exact hi (List.mem_of_getElem? hi1)
      · exact absurd hlt (Nat.not_lt.mpr h)
theorem good_all {ws : List Cond} (h : ∀ w ∈ ws, w ∈ UW) : GoodIn UW ws := fun w hw => ⟨h w hw, good_of_word (List.mem_filter.mp (h w hw)).2⟩
section calls
variable {p : Program} {l : Launch} {e : Env} {R : Room} {s : State} {m : MethodId} {args : Array Value} {below : List Frame} {meth : Method} {c : Code} {H : Heap} {locs : List Loc} {cells slots : Nat} {Q : State → Prop} {pc : Nat} {ls : Array Slot} {rest st0 : List Value} {A0 A1 : Nat → Prop} {H0 : Heap} {free : Addr → Prop} {D : va_G} {w' : va_W} {o : Option Value}
theorem va_callX (hr : va_Run p l e R s m args below meth c H locs cells slots 0 0 (F0 m pc ls st0) rest (fun st oc t => oc = .returned o ∧ va_P D vwCl w' t.heap ∧ va_F A1 st t) free) (hS : va_S A0 H0 H locs) (hA : ∀ q, q < H.size → A1 q → A0 q) (hf : ∀ q, free q → A0 q)
    (kk : ∀ (H1 : Heap) (locs1 : List Loc), va_P D vwCl w' H1 → (∀ q : Nat, q < H.size → ¬ A1 q → H1[q]? = H[q]?) → va_S A0 H0 H1 locs1 → W p l e R s m args below meth c H1 locs1 cells slots Q (F0 m (pc + 3) ls (o.toList ++ rest))) : W p l e R s m args below meth c H locs cells slots Q (F0 m pc ls st0) := by
  intro T hT X
  obtain ⟨v, st₀, t, T', L, h0, X', hL, e1, e2, ⟨hv, hp, hz, hk⟩, st⟩ := hr T hT X
  cases hv
  rw [h0] at hz hk
  obtain ⟨t2, a1, b1⟩ := kk T'.heap (locs ++ L) (by rw [e1]; exact hp) (fun q h1 h2 => by rw [e1]; exact hk q h1 h2)
    ⟨Nat.le_trans hS.1 (by rw [e1]; exact hz), fun q h1 h2 => by rw [e1, hk q (Nat.lt_of_lt_of_le h1 hS.1) (fun z => h2 (hA q (Nat.lt_of_lt_of_le h1 hS.1) z))]; exact hS.2.1 q h1 h2, fun q hq => by
      rcases List.mem_append.mp hq with h | h
      · exact hS.2.2 q h
      · exact hf _ (hL q h)⟩ T' rfl X'
  exact ⟨t2, st t2 a1, b1⟩
end calls
section rules2
variable {X : CT} {l : Launch} {g : GT} {own : String} {cc : ByteArray} {R : Room} {cs sl : Nat} {w : va_W} {pc nx tgt : Nat} {lv : List (Option Value)} {st rest : List Value} {y : MethodName} {cc' : ByteArray} {maxL' : Nat} {ret' : Option FieldType} {rm' : Room} {n ci b : Nat} {As : List Value} {wc wc' w1 : va_W} {o : Option Value} {fs : List Value}
abbrev rmO (rm' : Room) (maxL' : Nat) (R : Room) (cs sl : Nat) : Prop := rm'.cells = 0 ∧ rm'.slots = 0 ∧ rm'.frames + 1 ≤ R.frames ∧ 8 + (maxL' + 11) + rm'.locals ≤ R.locals ∧ cs ≤ R.cells ∧ sl ≤ R.slots
theorem r_callV (hX : oK X l g own cc R) (hd : dIv own cc pc y nx) (hy : kV y cc' maxL' ret' n ci) (hC : Cx l g y cc' maxL' ret' rm' (.ref b :: As) wc o wc') (hrec : wc[0]? = some (b, .inr (ci, fs))) (hn : As.length = n) (hR : rmO rm' maxL' R cs sl) (hst : st = As.reverse ++ .ref b :: rest) (hrest : (rest.map fun v => v.category).sum ≤ 8) (hfr : frm w wc wc' w1) (k : vJ X cs sl w1 nx lv (o.toList ++ rest)) : vJ X cs sl w pc lv st := by
  obtain ⟨p, l', e, R', s, m, args, below, meth, c, D, A, Q⟩ := X
  obtain ⟨rfl, rfl, rfl, hx, hb, hown, hw, hK, hA⟩ := hX
  intro H locs ls hP hD hS hl
  obtain ⟨idx, ⟨hd, rfl⟩, hlk⟩ := hd
  have hF := fun H1 => hfr g.1 A H H1 hP hD
  obtain ⟨hPc, hDc⟩ := (hF H).1
  obtain ⟨r1, r2, r3, r4, r5, r6⟩ := hR
  have hfree : ∀ q, va_A wc H.size q → A q := fun q h => by
    rcases h with ⟨k2, e2, h⟩ | h
    · exact hDc.2 k2 _ h
    · exact hA q (Nat.le_trans hS.1 h)
  have hbl : FrameBlind (va_Pc (.ref b :: As) (gPre g H.size wc)) := fun a U gg mk q => by
    obtain ⟨q0, q1, qP, qK, qD⟩ := q
    exact ⟨q0, q1, qP, ⟨va_K.moved (u := U) (U := U.calling gg mk a) (Vm.Alike.refl U.vm) qK.1, nest_same (s := U) (U := U.calling gg mk a) rfl qK.2⟩, qD⟩
  have hpre : ∀ U : State, U.heap = H → s.WarmedH U.vm → va_Pc (.ref b :: As) (gPre g H.size wc) ((.ref b :: As)).toArray U := fun U hU hW => ⟨rfl, by rw [hU], by rw [hU]; exact hPc, ⟨va_K.moved hW.alike hK.1, nest_warm hW hK.2⟩, hDc.weaken (fun _ _ _ _ => trivial)⟩
  have hG : GoodIn UW (Cond.code y cc' maxL' ret' :: UW) := good_UW (fun _ h => h) hy.1.1
  subst hst
  obtain ⟨⟨k1, k2, k3, k4, k5⟩, ki, ks, q, hq, hqc⟩ := hy
  have hrc : ∃ cell : Cell, H[b]? = some cell ∧ cell.vm.isStatics = false ∧ s.vm.findClass y.cls = some cell.cls := by
    have := va_recv hK.1 hPc hq hrec
    rwa [hqc] at this
  rcases hlk with hlk | ⟨host, hlk⟩
  · have hT : GoodIn UW (wsV own idx y.cls y (Cond.code y cc' maxL' ret' :: UW)) := good_all (fun w h => by
      rcases List.mem_append.mp h with h | h
      · simp only [List.mem_cons, List.not_mem_nil, or_false] at h
        rcases h with rfl | rfl | rfl | rfl
        · exact hlk
        · exact ki
        · exact ks
        · exact k2
      · exact (hG w h).1)
    exact va_callX (va_runV (As := As) (rest := rest) ⟨hx, hb, rfl, hown, hw⟩ (hC H.size) (cwV n hw hT rfl r1 r2 ⟨rfl, k3, k4, k5⟩ ⟨r3, r4⟩) ⟨hbl, hrc, hpre⟩ rfl hn hl.1.1 rfl (lv_room hrest) hd ⟨r5, r6⟩) hS (fun q _ h => hfree q h) hfree (fun H1 locs1 hP1 hk1 hS1 => by have h2 := (hF H1).2 hk1 hP1; exact k H1 locs1 ls h2.1 h2.2 hS1 hl)
  · exact va_callX (va_runVN (As := As) (rest := rest) ⟨hx, hb, rfl, hown, hw⟩ (hC H.size) ⟨va_cnB n hw hG rfl r1 r2 (hK.2 _ hlk) (hw _ k2) ⟨k3, k4, k5⟩ ⟨r3, r4⟩, hw _ ki, hw _ ks⟩ ⟨hbl, hrc, hpre⟩ rfl hn hl.1.1 rfl (lv_room hrest) hd ⟨r5, r6⟩) hS (fun q _ h => hfree q h) hfree (fun H1 locs1 hP1 hk1 hS1 => by have h2 := (hF H1).2 hk1 hP1; exact k H1 locs1 ls h2.1 h2.2 hS1 hl)
theorem r_callS (hX : oK X l g own cc R) (hd : dSt own cc pc y nx) (hy : kS y cc' maxL' ret' n) (hC : Cx l g y cc' maxL' ret' rm' As wc o wc') (hn : As.length = n) (hR : rmO rm' maxL' R cs sl) (hst : st = As.reverse ++ rest) (hrest : (rest.map fun v => v.category).sum ≤ 8) (hfr : frm w wc wc' w1) (k : vJ X cs sl w1 nx lv (o.toList ++ rest)) : vJ X cs sl w pc lv st := by
  obtain ⟨p, l', e, R', s, m, args, below, meth, c, D, A, Q⟩ := X
  obtain ⟨rfl, rfl, rfl, hx, hb, hown, hw, hK, hA⟩ := hX
  intro H locs ls hP hD hS hl
  obtain ⟨idx, ⟨hd, rfl⟩, hlk⟩ := hd
  have hF := fun H1 => hfr g.1 A H H1 hP hD
  obtain ⟨hPc, hDc⟩ := (hF H).1
  obtain ⟨r1, r2, r3, r4, r5, r6⟩ := hR
  have hfree : ∀ q, va_A wc H.size q → A q := fun q h => by
    rcases h with ⟨k2, e2, h⟩ | h
    · exact hDc.2 k2 _ h
    · exact hA q (Nat.le_trans hS.1 h)
  have hbl : FrameBlind (va_Pc As (gPre g H.size wc)) := fun a U gg mk q => by
    obtain ⟨q0, q1, qP, qK, qD⟩ := q
    exact ⟨q0, q1, qP, ⟨va_K.moved (u := U) (U := U.calling gg mk a) (Vm.Alike.refl U.vm) qK.1, nest_same (s := U) (U := U.calling gg mk a) rfl qK.2⟩, qD⟩
  have hpre : ∀ U : State, U.heap = H → s.WarmedH U.vm → va_Pc As (gPre g H.size wc) (As).toArray U := fun U hU hW => ⟨rfl, by rw [hU], by rw [hU]; exact hPc, ⟨va_K.moved hW.alike hK.1, nest_warm hW hK.2⟩, hDc.weaken (fun _ _ _ _ => trivial)⟩
  have hG : GoodIn UW (Cond.code y cc' maxL' ret' :: UW) := good_UW (fun _ h => h) hy.1.1
  subst hst
  obtain ⟨⟨k1, k2, k3, k4, k5⟩, ks⟩ := hy
  rcases hlk with hlk | ⟨host, hlk⟩
  · have hT : GoodIn UW (va_wsS own idx y (Cond.code y cc' maxL' ret' :: UW)) := good_all (fun w h => by
      rcases List.mem_append.mp h with h | h
      · simp only [List.mem_cons, List.not_mem_nil, or_false] at h
        rcases h with rfl | rfl | rfl
        · exact hlk
        · exact ks
        · exact k2
      · exact (hG w h).1)
    exact va_callX (va_runS (As := As) (rest := rest) ⟨hx, hb, rfl, hown, hw⟩ (hC H.size) (va_cwS n hw hT rfl r1 r2 ⟨k3, k4, k5⟩ ⟨r3, r4⟩) ⟨hbl, hpre⟩ rfl hn hl.1.1 rfl (lv_room hrest) hd ⟨r5, r6⟩) hS (fun q _ h => hfree q h) hfree (fun H1 locs1 hP1 hk1 hS1 => by have h2 := (hF H1).2 hk1 hP1; exact k H1 locs1 ls h2.1 h2.2 hS1 hl)
  · exact va_callX (va_runSN (As := As) (rest := rest) ⟨hx, hb, rfl, hown, hw⟩ (hC H.size) ⟨va_cnB n hw hG rfl r1 r2 (hK.2 _ hlk) (hw _ k2) ⟨k3, k4, k5⟩ ⟨r3, r4⟩, hw _ ks, trivial⟩ ⟨hbl, hpre⟩ rfl hn hl.1.1 rfl (lv_room hrest) hd ⟨r5, r6⟩) hS (fun q _ h => hfree q h) hfree (fun H1 locs1 hP1 hk1 hS1 => by have h2 := (hF H1).2 hk1 hP1; exact k H1 locs1 ls h2.1 h2.2 hS1 hl)
theorem r_cV0i (hX : oK X l g own cc R) {v : Value} (hd : dIv own cc pc y nx) (hy : kV y cc' maxL' ret' 0 ci) (hfr : frm w wc wc' w1) (hC : Cx l g y cc' maxL' ret' rm' [.ref b] wc (some v) wc') (hrec : wc[0]? = some (b, .inr (ci, fs))) (hR : rmO rm' maxL' R cs sl) (hrest : (rest.map fun v => v.category).sum ≤ 8) (k : vJ X cs sl w1 nx lv (v :: rest)) : vJ X cs sl w pc lv (.ref b :: rest) := r_callV (As := []) hX hd hy hC hrec rfl hR rfl hrest hfr k
theorem r_aV0i (hX : oK X l g own cc R) {v : Value} (hd : dIv own cc pc y nx) (hy : kV y cc' maxL' ret' 0 ci) (hC : Cx l g y cc' maxL' ret' rm' [.ref b] w (some v) w1) (ha : w1.map (fun q => q.1) = w.map (fun q => q.1)) (hrec : w[0]? = some (b, .inr (ci, fs))) (hR : rmO rm' maxL' R cs sl) (hrest : (rest.map fun v => v.category).sum ≤ 8) (k : vJ X cs sl w1 nx lv (v :: rest)) : vJ X cs sl w pc lv (.ref b :: rest) := r_callV (As := []) hX hd hy hC hrec rfl hR rfl hrest (frm_all ha) k
theorem r_cV0v (hX : oK X l g own cc R) (hd : dIv own cc pc y nx) (hy : kV y cc' maxL' ret' 0 ci) (hfr : frm w wc wc' w1) (hC : Cx l g y cc' maxL' ret' rm' [.ref b] wc (none) wc') (hrec : wc[0]? = some (b, .inr (ci, fs))) (hR : rmO rm' maxL' R cs sl) (hrest : (rest.map fun v => v.category).sum ≤ 8) (k : vJ X cs sl w1 nx lv (rest)) : vJ X cs sl w pc lv (.ref b :: rest) := r_callV (As := []) hX hd hy hC hrec rfl hR rfl hrest hfr k
theorem r_aV0v (hX : oK X l g own cc R) (hd : dIv own cc pc y nx) (hy : kV y cc' maxL' ret' 0 ci) (hC : Cx l g y cc' maxL' ret' rm' [.ref b] w (none) w1) (ha : w1.map (fun q => q.1) = w.map (fun q => q.1)) (hrec : w[0]? = some (b, .inr (ci, fs))) (hR : rmO rm' maxL' R cs sl) (hrest : (rest.map fun v => v.category).sum ≤ 8) (k : vJ X cs sl w1 nx lv (rest)) : vJ X cs sl w pc lv (.ref b :: rest) := r_callV (As := []) hX hd hy hC hrec rfl hR rfl hrest (frm_all ha) k
theorem r_cV1i (hX : oK X l g own cc R) {v1 : Value} {v : Value} (hd : dIv own cc pc y nx) (hy : kV y cc' maxL' ret' 1 ci) (hfr : frm w wc wc' w1) (hC : Cx l g y cc' maxL' ret' rm' [.ref b, v1] wc (some v) wc') (hrec : wc[0]? = some (b, .inr (ci, fs))) (hR : rmO rm' maxL' R cs sl) (hrest : (rest.map fun v => v.category).sum ≤ 8) (k : vJ X cs sl w1 nx lv (v :: rest)) : vJ X cs sl w pc lv (v1 :: .ref b :: rest) := r_callV (As := [v1]) hX hd hy hC hrec rfl hR rfl hrest hfr k
theorem r_aV1i (hX : oK X l g own cc R) {v1 : Value} {v : Value} (hd : dIv own cc pc y nx) (hy : kV y cc' maxL' ret' 1 ci) (hC : Cx l g y cc' maxL' ret' rm' [.ref b, v1] w (some v) w1) (ha : w1.map (fun q => q.1) = w.map (fun q => q.1)) (hrec : w[0]? = some (b, .inr (ci, fs))) (hR : rmO rm' maxL' R cs sl) (hrest : (rest.map fun v => v.category).sum ≤ 8) (k : vJ X cs sl w1 nx lv (v :: rest)) : vJ X cs sl w pc lv (v1 :: .ref b :: rest) := r_callV (As := [v1]) hX hd hy hC hrec rfl hR rfl hrest (frm_all ha) k
theorem r_cV1v (hX : oK X l g own cc R) {v1 : Value} (hd : dIv own cc pc y nx) (hy : kV y cc' maxL' ret' 1 ci) (hfr : frm w wc wc' w1) (hC : Cx l g y cc' maxL' ret' rm' [.ref b, v1] wc (none) wc') (hrec : wc[0]? = some (b, .inr (ci, fs))) (hR : rmO rm' maxL' R cs sl) (hrest : (rest.map fun v => v.category).sum ≤ 8) (k : vJ X cs sl w1 nx lv (rest)) : vJ X cs sl w pc lv (v1 :: .ref b :: rest) := r_callV (As := [v1]) hX hd hy hC hrec rfl hR rfl hrest hfr k
theorem r_aV1v (hX : oK X l g own cc R) {v1 : Value} (hd : dIv own cc pc y nx) (hy : kV y cc' maxL' ret' 1 ci) (hC : Cx l g y cc' maxL' ret' rm' [.ref b, v1] w (none) w1) (ha : w1.map (fun q => q.1) = w.map (fun q => q.1)) (hrec : w[0]? = some (b, .inr (ci, fs))) (hR : rmO rm' maxL' R cs sl) (hrest : (rest.map fun v => v.category).sum ≤ 8) (k : vJ X cs sl w1 nx lv (rest)) : vJ X cs sl w pc lv (v1 :: .ref b :: rest) := r_callV (As := [v1]) hX hd hy hC hrec rfl hR rfl hrest (frm_all ha) k
theorem r_cV2i (hX : oK X l g own cc R) {v1 v2 : Value} {v : Value} (hd : dIv own cc pc y nx) (hy : kV y cc' maxL' ret' 2 ci) (hfr : frm w wc wc' w1) (hC : Cx l g y cc' maxL' ret' rm' [.ref b, v1, v2] wc (some v) wc') (hrec : wc[0]? = some (b, .inr (ci, fs))) (hR : rmO rm' maxL' R cs sl) (hrest : (rest.map fun v => v.category).sum ≤ 8) (k : vJ X cs sl w1 nx lv (v :: rest)) : vJ X cs sl w pc lv (v2 :: v1 :: .ref b :: rest) := r_callV (As := [v1, v2]) hX hd hy hC hrec rfl hR rfl hrest hfr k
theorem r_aV2i (hX : oK X l g own cc R) {v1 v2 : Value} {v : Value} (hd : dIv own cc pc y nx) (hy : kV y cc' maxL' ret' 2 ci) (hC : Cx l g y cc' maxL' ret' rm' [.ref b, v1, v2] w (some v) w1) (ha : w1.map (fun q => q.1) = w.map (fun q => q.1)) (hrec : w[0]? = some (b, .inr (ci, fs))) (hR : rmO rm' maxL' R cs sl) (hrest : (rest.map fun v => v.category).sum ≤ 8) (k : vJ X cs sl w1 nx lv (v :: rest)) : vJ X cs sl w pc lv (v2 :: v1 :: .ref b :: rest) := r_callV (As := [v1, v2]) hX hd hy hC hrec rfl hR rfl hrest (frm_all ha) k
theorem r_cV2v (hX : oK X l g own cc R) {v1 v2 : Value} (hd : dIv own cc pc y nx) (hy : kV y cc' maxL' ret' 2 ci) (hfr : frm w wc wc' w1) (hC : Cx l g y cc' maxL' ret' rm' [.ref b, v1, v2] wc (none) wc') (hrec : wc[0]? = some (b, .inr (ci, fs))) (hR : rmO rm' maxL' R cs sl) (hrest : (rest.map fun v => v.category).sum ≤ 8) (k : vJ X cs sl w1 nx lv (rest)) : vJ X cs sl w pc lv (v2 :: v1 :: .ref b :: rest) := r_callV (As := [v1, v2]) hX hd hy hC hrec rfl hR rfl hrest hfr k
theorem r_aV2v (hX : oK X l g own cc R) {v1 v2 : Value} (hd : dIv own cc pc y nx) (hy : kV y cc' maxL' ret' 2 ci) (hC : Cx l g y cc' maxL' ret' rm' [.ref b, v1, v2] w (none) w1) (ha : w1.map (fun q => q.1) = w.map (fun q => q.1)) (hrec : w[0]? = some (b, .inr (ci, fs))) (hR : rmO rm' maxL' R cs sl) (hrest : (rest.map fun v => v.category).sum ≤ 8) (k : vJ X cs sl w1 nx lv (rest)) : vJ X cs sl w pc lv (v2 :: v1 :: .ref b :: rest) := r_callV (As := [v1, v2]) hX hd hy hC hrec rfl hR rfl hrest (frm_all ha) k
theorem r_cV3i (hX : oK X l g own cc R) {v1 v2 v3 : Value} {v : Value} (hd : dIv own cc pc y nx) (hy : kV y cc' maxL' ret' 3 ci) (hfr : frm w wc wc' w1) (hC : Cx l g y cc' maxL' ret' rm' [.ref b, v1, v2, v3] wc (some v) wc') (hrec : wc[0]? = some (b, .inr (ci, fs))) (hR : rmO rm' maxL' R cs sl) (hrest : (rest.map fun v => v.category).sum ≤ 8) (k : vJ X cs sl w1 nx lv (v :: rest)) : vJ X cs sl w pc lv (v3 :: v2 :: v1 :: .ref b :: rest) := r_callV (As := [v1, v2, v3]) hX hd hy hC hrec rfl hR rfl hrest hfr k
theorem r_aV3i (hX : oK X l g own cc R) {v1 v2 v3 : Value} {v : Value} (hd : dIv own cc pc y nx) (hy : kV y cc' maxL' ret' 3 ci) (hC : Cx l g y cc' maxL' ret' rm' [.ref b, v1, v2, v3] w (some v) w1) (ha : w1.map (fun q => q.1) = w.map (fun q => q.1)) (hrec : w[0]? = some (b, .inr (ci, fs))) (hR : rmO rm' maxL' R cs sl) (hrest : (rest.map fun v => v.category).sum ≤ 8) (k : vJ X cs sl w1 nx lv (v :: rest)) : vJ X cs sl w pc lv (v3 :: v2 :: v1 :: .ref b :: rest) := r_callV (As := [v1, v2, v3]) hX hd hy hC hrec rfl hR rfl hrest (frm_all ha) k
theorem r_cV3v (hX : oK X l g own cc R) {v1 v2 v3 : Value} (hd : dIv own cc pc y nx) (hy : kV y cc' maxL' ret' 3 ci) (hfr : frm w wc wc' w1) (hC : Cx l g y cc' maxL' ret' rm' [.ref b, v1, v2, v3] wc (none) wc') (hrec : wc[0]? = some (b, .inr (ci, fs))) (hR : rmO rm' maxL' R cs sl) (hrest : (rest.map fun v => v.category).sum ≤ 8) (k : vJ X cs sl w1 nx lv (rest)) : vJ X cs sl w pc lv (v3 :: v2 :: v1 :: .ref b :: rest) := r_callV (As := [v1, v2, v3]) hX hd hy hC hrec rfl hR rfl hrest hfr k
theorem r_aV3v (hX : oK X l g own cc R) {v1 v2 v3 : Value} (hd : dIv own cc pc y nx) (hy : kV y cc' maxL' ret' 3 ci) (hC : Cx l g y cc' maxL' ret' rm' [.ref b, v1, v2, v3] w (none) w1) (ha : w1.map (fun q => q.1) = w.map (fun q => q.1)) (hrec : w[0]? = some (b, .inr (ci, fs))) (hR : rmO rm' maxL' R cs sl) (hrest : (rest.map fun v => v.category).sum ≤ 8) (k : vJ X cs sl w1 nx lv (rest)) : vJ X cs sl w pc lv (v3 :: v2 :: v1 :: .ref b :: rest) := r_callV (As := [v1, v2, v3]) hX hd hy hC hrec rfl hR rfl hrest (frm_all ha) k
theorem r_cV4i (hX : oK X l g own cc R) {v1 v2 v3 v4 : Value} {v : Value} (hd : dIv own cc pc y nx) (hy : kV y cc' maxL' ret' 4 ci) (hfr : frm w wc wc' w1) (hC : Cx l g y cc' maxL' ret' rm' [.ref b, v1, v2, v3, v4] wc (some v) wc') (hrec : wc[0]? = some (b, .inr (ci, fs))) (hR : rmO rm' maxL' R cs sl) (hrest : (rest.map fun v => v.category).sum ≤ 8) (k : vJ X cs sl w1 nx lv (v :: rest)) : vJ X cs sl w pc lv (v4 :: v3 :: v2 :: v1 :: .ref b :: rest) := r_callV (As := [v1, v2, v3, v4]) hX hd hy hC hrec rfl hR rfl hrest hfr k
theorem r_aV4i (hX : oK X l g own cc R) {v1 v2 v3 v4 : Value} {v : Value} (hd : dIv own cc pc y nx) (hy : kV y cc' maxL' ret' 4 ci) (hC : Cx l g y cc' maxL' ret' rm' [.ref b, v1, v2, v3, v4] w (some v) w1) (ha : w1.map (fun q => q.1) = w.map (fun q => q.1)) (hrec : w[0]? = some (b, .inr (ci, fs))) (hR : rmO rm' maxL' R cs sl) (hrest : (rest.map fun v => v.category).sum ≤ 8) (k : vJ X cs sl w1 nx lv (v :: rest)) : vJ X cs sl w pc lv (v4 :: v3 :: v2 :: v1 :: .ref b :: rest) := r_callV (As := [v1, v2, v3, v4]) hX hd hy hC hrec rfl hR rfl hrest (frm_all ha) k
theorem r_cV4v (hX : oK X l g own cc R) {v1 v2 v3 v4 : Value} (hd : dIv own cc pc y nx) (hy : kV y cc' maxL' ret' 4 ci) (hfr : frm w wc wc' w1) (hC : Cx l g y cc' maxL' ret' rm' [.ref b, v1, v2, v3, v4] wc (none) wc') (hrec : wc[0]? = some (b, .inr (ci, fs))) (hR : rmO rm' maxL' R cs sl) (hrest : (rest.map fun v => v.category).sum ≤ 8) (k : vJ X cs sl w1 nx lv (rest)) : vJ X cs sl w pc lv (v4 :: v3 :: v2 :: v1 :: .ref b :: rest) := r_callV (As := [v1, v2, v3, v4]) hX hd hy hC hrec rfl hR rfl hrest hfr k
theorem r_aV4v (hX : oK X l g own cc R) {v1 v2 v3 v4 : Value} (hd : dIv own cc pc y nx) (hy : kV y cc' maxL' ret' 4 ci) (hC : Cx l g y cc' maxL' ret' rm' [.ref b, v1, v2, v3, v4] w (none) w1) (ha : w1.map (fun q => q.1) = w.map (fun q => q.1)) (hrec : w[0]? = some (b, .inr (ci, fs))) (hR : rmO rm' maxL' R cs sl) (hrest : (rest.map fun v => v.category).sum ≤ 8) (k : vJ X cs sl w1 nx lv (rest)) : vJ X cs sl w pc lv (v4 :: v3 :: v2 :: v1 :: .ref b :: rest) := r_callV (As := [v1, v2, v3, v4]) hX hd hy hC hrec rfl hR rfl hrest (frm_all ha) k
theorem r_cV5i (hX : oK X l g own cc R) {v1 v2 v3 v4 v5 : Value} {v : Value} (hd : dIv own cc pc y nx) (hy : kV y cc' maxL' ret' 5 ci) (hfr : frm w wc wc' w1) (hC : Cx l g y cc' maxL' ret' rm' [.ref b, v1, v2, v3, v4, v5] wc (some v) wc') (hrec : wc[0]? = some (b, .inr (ci, fs))) (hR : rmO rm' maxL' R cs sl) (hrest : (rest.map fun v => v.category).sum ≤ 8) (k : vJ X cs sl w1 nx lv (v :: rest)) : vJ X cs sl w pc lv (v5 :: v4 :: v3 :: v2 :: v1 :: .ref b :: rest) := r_callV (As := [v1, v2, v3, v4, v5]) hX hd hy hC hrec rfl hR rfl hrest hfr k
theorem r_aV5i (hX : oK X l g own cc R) {v1 v2 v3 v4 v5 : Value} {v : Value} (hd : dIv own cc pc y nx) (hy : kV y cc' maxL' ret' 5 ci) (hC : Cx l g y cc' maxL' ret' rm' [.ref b, v1, v2, v3, v4, v5] w (some v) w1) (ha : w1.map (fun q => q.1) = w.map (fun q => q.1)) (hrec : w[0]? = some (b, .inr (ci, fs))) (hR : rmO rm' maxL' R cs sl) (hrest : (rest.map fun v => v.category).sum ≤ 8) (k : vJ X cs sl w1 nx lv (v :: rest)) : vJ X cs sl w pc lv (v5 :: v4 :: v3 :: v2 :: v1 :: .ref b :: rest) := r_callV (As := [v1, v2, v3, v4, v5]) hX hd hy hC hrec rfl hR rfl hrest (frm_all ha) k
theorem r_cV5v (hX : oK X l g own cc R) {v1 v2 v3 v4 v5 : Value} (hd : dIv own cc pc y nx) (hy : kV y cc' maxL' ret' 5 ci) (hfr : frm w wc wc' w1) (hC : Cx l g y cc' maxL' ret' rm' [.ref b, v1, v2, v3, v4, v5] wc (none) wc') (hrec : wc[0]? = some (b, .inr (ci, fs))) (hR : rmO rm' maxL' R cs sl) (hrest : (rest.map fun v => v.category).sum ≤ 8) (k : vJ X cs sl w1 nx lv (rest)) : vJ X cs sl w pc lv (v5 :: v4 :: v3 :: v2 :: v1 :: .ref b :: rest) := r_callV (As := [v1, v2, v3, v4, v5]) hX hd hy hC hrec rfl hR rfl hrest hfr k
theorem r_aV5v (hX : oK X l g own cc R) {v1 v2 v3 v4 v5 : Value} (hd : dIv own cc pc y nx) (hy : kV y cc' maxL' ret' 5 ci) (hC : Cx l g y cc' maxL' ret' rm' [.ref b, v1, v2, v3, v4, v5] w (none) w1) (ha : w1.map (fun q => q.1) = w.map (fun q => q.1)) (hrec : w[0]? = some (b, .inr (ci, fs))) (hR : rmO rm' maxL' R cs sl) (hrest : (rest.map fun v => v.category).sum ≤ 8) (k : vJ X cs sl w1 nx lv (rest)) : vJ X cs sl w pc lv (v5 :: v4 :: v3 :: v2 :: v1 :: .ref b :: rest) := r_callV (As := [v1, v2, v3, v4, v5]) hX hd hy hC hrec rfl hR rfl hrest (frm_all ha) k
theorem r_cS0i (hX : oK X l g own cc R) {v : Value} (hd : dSt own cc pc y nx) (hy : kS y cc' maxL' ret' 0) (hfr : frm w wc wc' w1) (hC : Cx l g y cc' maxL' ret' rm' [] wc (some v) wc') (hR : rmO rm' maxL' R cs sl) (hrest : (rest.map fun v => v.category).sum ≤ 8) (k : vJ X cs sl w1 nx lv (v :: rest)) : vJ X cs sl w pc lv (rest) := r_callS (As := []) hX hd hy hC rfl hR rfl hrest hfr k
theorem r_aS0i (hX : oK X l g own cc R) {v : Value} (hd : dSt own cc pc y nx) (hy : kS y cc' maxL' ret' 0) (hC : Cx l g y cc' maxL' ret' rm' [] w (some v) w1) (ha : w1.map (fun q => q.1) = w.map (fun q => q.1)) (hR : rmO rm' maxL' R cs sl) (hrest : (rest.map fun v => v.category).sum ≤ 8) (k : vJ X cs sl w1 nx lv (v :: rest)) : vJ X cs sl w pc lv (rest) := r_callS (As := []) hX hd hy hC rfl hR rfl hrest (frm_all ha) k
theorem r_nS0i (hX : oK X l g own cc R) {v : Value} (hd : dSt own cc pc y nx) (hy : kS y cc' maxL' ret' 0) (hC : Cx l g y cc' maxL' ret' rm' [] [] (some v) []) (hR : rmO rm' maxL' R cs sl) (hrest : (rest.map fun v => v.category).sum ≤ 8) (k : vJ X cs sl w nx lv (v :: rest)) : vJ X cs sl w pc lv (rest) := r_callS (As := []) hX hd hy hC rfl hR rfl hrest frm_none k
theorem r_cS0v (hX : oK X l g own cc R) (hd : dSt own cc pc y nx) (hy : kS y cc' maxL' ret' 0) (hfr : frm w wc wc' w1) (hC : Cx l g y cc' maxL' ret' rm' [] wc (none) wc') (hR : rmO rm' maxL' R cs sl) (hrest : (rest.map fun v => v.category).sum ≤ 8) (k : vJ X cs sl w1 nx lv (rest)) : vJ X cs sl w pc lv (rest) := r_callS (As := []) hX hd hy hC rfl hR rfl hrest hfr k
theorem r_aS0v (hX : oK X l g own cc R) (hd : dSt own cc pc y nx) (hy : kS y cc' maxL' ret' 0) (hC : Cx l g y cc' maxL' ret' rm' [] w (none) w1) (ha : w1.map (fun q => q.1) = w.map (fun q => q.1)) (hR : rmO rm' maxL' R cs sl) (hrest : (rest.map fun v => v.category).sum ≤ 8) (k : vJ X cs sl w1 nx lv (rest)) : vJ X cs sl w pc lv (rest) := r_callS (As := []) hX hd hy hC rfl hR rfl hrest (frm_all ha) k
theorem r_nS0v (hX : oK X l g own cc R) (hd : dSt own cc pc y nx) (hy : kS y cc' maxL' ret' 0) (hC : Cx l g y cc' maxL' ret' rm' [] [] (none) []) (hR : rmO rm' maxL' R cs sl) (hrest : (rest.map fun v => v.category).sum ≤ 8) (k : vJ X cs sl w nx lv (rest)) : vJ X cs sl w pc lv (rest) := r_callS (As := []) hX hd hy hC rfl hR rfl hrest frm_none k
theorem r_cS1i (hX : oK X l g own cc R) {v1 : Value} {v : Value} (hd : dSt own cc pc y nx) (hy : kS y cc' maxL' ret' 1) (hfr : frm w wc wc' w1) (hC : Cx l g y cc' maxL' ret' rm' [v1] wc (some v) wc') (hR : rmO rm' maxL' R cs sl) (hrest : (rest.map fun v => v.category).sum ≤ 8) (k : vJ X cs sl w1 nx lv (v :: rest)) : vJ X cs sl w pc lv (v1 :: rest) := r_callS (As := [v1]) hX hd hy hC rfl hR rfl hrest hfr k
theorem r_aS1i (hX : oK X l g own cc R) {v1 : Value} {v : Value} (hd : dSt own cc pc y nx) (hy : kS y cc' maxL' ret' 1) (hC : Cx l g y cc' maxL' ret' rm' [v1] w (some v) w1) (ha : w1.map (fun q => q.1) = w.map (fun q => q.1)) (hR : rmO rm' maxL' R cs sl) (hrest : (rest.map fun v => v.category).sum ≤ 8) (k : vJ X cs sl w1 nx lv (v :: rest)) : vJ X cs sl w pc lv (v1 :: rest) := r_callS (As := [v1]) hX hd hy hC rfl hR rfl hrest (frm_all ha) k
theorem r_nS1i (hX : oK X l g own cc R) {v1 : Value} {v : Value} (hd : dSt own cc pc y nx) (hy : kS y cc' maxL' ret' 1) (hC : Cx l g y cc' maxL' ret' rm' [v1] [] (some v) []) (hR : rmO rm' maxL' R cs sl) (hrest : (rest.map fun v => v.category).sum ≤ 8) (k : vJ X cs sl w nx lv (v :: rest)) : vJ X cs sl w pc lv (v1 :: rest) := r_callS (As := [v1]) hX hd hy hC rfl hR rfl hrest frm_none k
theorem r_cS1v (hX : oK X l g own cc R) {v1 : Value} (hd : dSt own cc pc y nx) (hy : kS y cc' maxL' ret' 1) (hfr : frm w wc wc' w1) (hC : Cx l g y cc' maxL' ret' rm' [v1] wc (none) wc') (hR : rmO rm' maxL' R cs sl) (hrest : (rest.map fun v => v.category).sum ≤ 8) (k : vJ X cs sl w1 nx lv (rest)) : vJ X cs sl w pc lv (v1 :: rest) := r_callS (As := [v1]) hX hd hy hC rfl hR rfl hrest hfr k
theorem r_aS1v (hX : oK X l g own cc R) {v1 : Value} (hd : dSt own cc pc y nx) (hy : kS y cc' maxL' ret' 1) (hC : Cx l g y cc' maxL' ret' rm' [v1] w (none) w1) (ha : w1.map (fun q => q.1) = w.map (fun q => q.1)) (hR : rmO rm' maxL' R cs sl) (hrest : (rest.map fun v => v.category).sum ≤ 8) (k : vJ X cs sl w1 nx lv (rest)) : vJ X cs sl w pc lv (v1 :: rest) := r_callS (As := [v1]) hX hd hy hC rfl hR rfl hrest (frm_all ha) k
theorem r_nS1v (hX : oK X l g own cc R) {v1 : Value} (hd : dSt own cc pc y nx) (hy : kS y cc' maxL' ret' 1) (hC : Cx l g y cc' maxL' ret' rm' [v1] [] (none) []) (hR : rmO rm' maxL' R cs sl) (hrest : (rest.map fun v => v.category).sum ≤ 8) (k : vJ X cs sl w nx lv (rest)) : vJ X cs sl w pc lv (v1 :: rest) := r_callS (As := [v1]) hX hd hy hC rfl hR rfl hrest frm_none k
theorem r_cS2i (hX : oK X l g own cc R) {v1 v2 : Value} {v : Value} (hd : dSt own cc pc y nx) (hy : kS y cc' maxL' ret' 2) (hfr : frm w wc wc' w1) (hC : Cx l g y cc' maxL' ret' rm' [v1, v2] wc (some v) wc') (hR : rmO rm' maxL' R cs sl) (hrest : (rest.map fun v => v.category).sum ≤ 8) (k : vJ X cs sl w1 nx lv (v :: rest)) : vJ X cs sl w pc lv (v2 :: v1 :: rest) := r_callS (As := [v1, v2]) hX hd hy hC rfl hR rfl hrest hfr k
theorem r_aS2i (hX : oK X l g own cc R) {v1 v2 : Value} {v : Value} (hd : dSt own cc pc y nx) (hy : kS y cc' maxL' ret' 2) (hC : Cx l g y cc' maxL' ret' rm' [v1, v2] w (some v) w1) (ha : w1.map (fun q => q.1) = w.map (fun q => q.1)) (hR : rmO rm' maxL' R cs sl) (hrest : (rest.map fun v => v.category).sum ≤ 8) (k : vJ X cs sl w1 nx lv (v :: rest)) : vJ X cs sl w pc lv (v2 :: v1 :: rest) := r_callS (As := [v1, v2]) hX hd hy hC rfl hR rfl hrest (frm_all ha) k
theorem r_nS2i (hX : oK X l g own cc R) {v1 v2 : Value} {v : Value} (hd : dSt own cc pc y nx) (hy : kS y cc' maxL' ret' 2) (hC : Cx l g y cc' maxL' ret' rm' [v1, v2] [] (some v) []) (hR : rmO rm' maxL' R cs sl) (hrest : (rest.map fun v => v.category).sum ≤ 8) (k : vJ X cs sl w nx lv (v :: rest)) : vJ X cs sl w pc lv (v2 :: v1 :: rest) := r_callS (As := [v1, v2]) hX hd hy hC rfl hR rfl hrest frm_none k
theorem r_cS2v (hX : oK X l g own cc R) {v1 v2 : Value} (hd : dSt own cc pc y nx) (hy : kS y cc' maxL' ret' 2) (hfr : frm w wc wc' w1) (hC : Cx l g y cc' maxL' ret' rm' [v1, v2] wc (none) wc') (hR : rmO rm' maxL' R cs sl) (hrest : (rest.map fun v => v.category).sum ≤ 8) (k : vJ X cs sl w1 nx lv (rest)) : vJ X cs sl w pc lv (v2 :: v1 :: rest) := r_callS (As := [v1, v2]) hX hd hy hC rfl hR rfl hrest hfr k
theorem r_aS2v (hX : oK X l g own cc R) {v1 v2 : Value} (hd : dSt own cc pc y nx) (hy : kS y cc' maxL' ret' 2) (hC : Cx l g y cc' maxL' ret' rm' [v1, v2] w (none) w1) (ha : w1.map (fun q => q.1) = w.map (fun q => q.1)) (hR : rmO rm' maxL' R cs sl) (hrest : (rest.map fun v => v.category).sum ≤ 8) (k : vJ X cs sl w1 nx lv (rest)) : vJ X cs sl w pc lv (v2 :: v1 :: rest) := r_callS (As := [v1, v2]) hX hd hy hC rfl hR rfl hrest (frm_all ha) k
theorem r_nS2v (hX : oK X l g own cc R) {v1 v2 : Value} (hd : dSt own cc pc y nx) (hy : kS y cc' maxL' ret' 2) (hC : Cx l g y cc' maxL' ret' rm' [v1, v2] [] (none) []) (hR : rmO rm' maxL' R cs sl) (hrest : (rest.map fun v => v.category).sum ≤ 8) (k : vJ X cs sl w nx lv (rest)) : vJ X cs sl w pc lv (v2 :: v1 :: rest) := r_callS (As := [v1, v2]) hX hd hy hC rfl hR rfl hrest frm_none k
theorem r_cS3i (hX : oK X l g own cc R) {v1 v2 v3 : Value} {v : Value} (hd : dSt own cc pc y nx) (hy : kS y cc' maxL' ret' 3) (hfr : frm w wc wc' w1) (hC : Cx l g y cc' maxL' ret' rm' [v1, v2, v3] wc (some v) wc') (hR : rmO rm' maxL' R cs sl) (hrest : (rest.map fun v => v.category).sum ≤ 8) (k : vJ X cs sl w1 nx lv (v :: rest)) : vJ X cs sl w pc lv (v3 :: v2 :: v1 :: rest) := r_callS (As := [v1, v2, v3]) hX hd hy hC rfl hR rfl hrest hfr k
theorem r_aS3i (hX : oK X l g own cc R) {v1 v2 v3 : Value} {v : Value} (hd : dSt own cc pc y nx) (hy : kS y cc' maxL' ret' 3) (hC : Cx l g y cc' maxL' ret' rm' [v1, v2, v3] w (some v) w1) (ha : w1.map (fun q => q.1) = w.map (fun q => q.1)) (hR : rmO rm' maxL' R cs sl) (hrest : (rest.map fun v => v.category).sum ≤ 8) (k : vJ X cs sl w1 nx lv (v :: rest)) : vJ X cs sl w pc lv (v3 :: v2 :: v1 :: rest) := r_callS (As := [v1, v2, v3]) hX hd hy hC rfl hR rfl hrest (frm_all ha) k
theorem r_nS3i (hX : oK X l g own cc R) {v1 v2 v3 : Value} {v : Value} (hd : dSt own cc pc y nx) (hy : kS y cc' maxL' ret' 3) (hC : Cx l g y cc' maxL' ret' rm' [v1, v2, v3] [] (some v) []) (hR : rmO rm' maxL' R cs sl) (hrest : (rest.map fun v => v.category).sum ≤ 8) (k : vJ X cs sl w nx lv (v :: rest)) : vJ X cs sl w pc lv (v3 :: v2 :: v1 :: rest) := r_callS (As := [v1, v2, v3]) hX hd hy hC rfl hR rfl hrest frm_none k
theorem r_cS3v (hX : oK X l g own cc R) {v1 v2 v3 : Value} (hd : dSt own cc pc y nx) (hy : kS y cc' maxL' ret' 3) (hfr : frm w wc wc' w1) (hC : Cx l g y cc' maxL' ret' rm' [v1, v2, v3] wc (none) wc') (hR : rmO rm' maxL' R cs sl) (hrest : (rest.map fun v => v.category).sum ≤ 8) (k : vJ X cs sl w1 nx lv (rest)) : vJ X cs sl w pc lv (v3 :: v2 :: v1 :: rest) := r_callS (As := [v1, v2, v3]) hX hd hy hC rfl hR rfl hrest hfr k
theorem r_aS3v (hX : oK X l g own cc R) {v1 v2 v3 : Value} (hd : dSt own cc pc y nx) (hy : kS y cc' maxL' ret' 3) (hC : Cx l g y cc' maxL' ret' rm' [v1, v2, v3] w (none) w1) (ha : w1.map (fun q => q.1) = w.map (fun q => q.1)) (hR : rmO rm' maxL' R cs sl) (hrest : (rest.map fun v => v.category).sum ≤ 8) (k : vJ X cs sl w1 nx lv (rest)) : vJ X cs sl w pc lv (v3 :: v2 :: v1 :: rest) := r_callS (As := [v1, v2, v3]) hX hd hy hC rfl hR rfl hrest (frm_all ha) k
theorem r_nS3v (hX : oK X l g own cc R) {v1 v2 v3 : Value} (hd : dSt own cc pc y nx) (hy : kS y cc' maxL' ret' 3) (hC : Cx l g y cc' maxL' ret' rm' [v1, v2, v3] [] (none) []) (hR : rmO rm' maxL' R cs sl) (hrest : (rest.map fun v => v.category).sum ≤ 8) (k : vJ X cs sl w nx lv (rest)) : vJ X cs sl w pc lv (v3 :: v2 :: v1 :: rest) := r_callS (As := [v1, v2, v3]) hX hd hy hC rfl hR rfl hrest frm_none k
theorem r_cS4i (hX : oK X l g own cc R) {v1 v2 v3 v4 : Value} {v : Value} (hd : dSt own cc pc y nx) (hy : kS y cc' maxL' ret' 4) (hfr : frm w wc wc' w1) (hC : Cx l g y cc' maxL' ret' rm' [v1, v2, v3, v4] wc (some v) wc') (hR : rmO rm' maxL' R cs sl) (hrest : (rest.map fun v => v.category).sum ≤ 8) (k : vJ X cs sl w1 nx lv (v :: rest)) : vJ X cs sl w pc lv (v4 :: v3 :: v2 :: v1 :: rest) := r_callS (As := [v1, v2, v3, v4]) hX hd hy hC rfl hR rfl hrest hfr k
theorem r_aS4i (hX : oK X l g own cc R) {v1 v2 v3 v4 : Value} {v : Value} (hd : dSt own cc pc y nx) (hy : kS y cc' maxL' ret' 4) (hC : Cx l g y cc' maxL' ret' rm' [v1, v2, v3, v4] w (some v) w1) (ha : w1.map (fun q => q.1) = w.map (fun q => q.1)) (hR : rmO rm' maxL' R cs sl) (hrest : (rest.map fun v => v.category).sum ≤ 8) (k : vJ X cs sl w1 nx lv (v :: rest)) : vJ X cs sl w pc lv (v4 :: v3 :: v2 :: v1 :: rest) := r_callS (As := [v1, v2, v3, v4]) hX hd hy hC rfl hR rfl hrest (frm_all ha) k
theorem r_nS4i (hX : oK X l g own cc R) {v1 v2 v3 v4 : Value} {v : Value} (hd : dSt own cc pc y nx) (hy : kS y cc' maxL' ret' 4) (hC : Cx l g y cc' maxL' ret' rm' [v1, v2, v3, v4] [] (some v) []) (hR : rmO rm' maxL' R cs sl) (hrest : (rest.map fun v => v.category).sum ≤ 8) (k : vJ X cs sl w nx lv (v :: rest)) : vJ X cs sl w pc lv (v4 :: v3 :: v2 :: v1 :: rest) := r_callS (As := [v1, v2, v3, v4]) hX hd hy hC rfl hR rfl hrest frm_none k
theorem r_cS4v (hX : oK X l g own cc R) {v1 v2 v3 v4 : Value} (hd : dSt own cc pc y nx) (hy : kS y cc' maxL' ret' 4) (hfr : frm w wc wc' w1) (hC : Cx l g y cc' maxL' ret' rm' [v1, v2, v3, v4] wc (none) wc') (hR : rmO rm' maxL' R cs sl) (hrest : (rest.map fun v => v.category).sum ≤ 8) (k : vJ X cs sl w1 nx lv (rest)) : vJ X cs sl w pc lv (v4 :: v3 :: v2 :: v1 :: rest) := r_callS (As := [v1, v2, v3, v4]) hX hd hy hC rfl hR rfl hrest hfr k
theorem r_aS4v (hX : oK X l g own cc R) {v1 v2 v3 v4 : Value} (hd : dSt own cc pc y nx) (hy : kS y cc' maxL' ret' 4) (hC : Cx l g y cc' maxL' ret' rm' [v1, v2, v3, v4] w (none) w1) (ha : w1.map (fun q => q.1) = w.map (fun q => q.1)) (hR : rmO rm' maxL' R cs sl) (hrest : (rest.map fun v => v.category).sum ≤ 8) (k : vJ X cs sl w1 nx lv (rest)) : vJ X cs sl w pc lv (v4 :: v3 :: v2 :: v1 :: rest) := r_callS (As := [v1, v2, v3, v4]) hX hd hy hC rfl hR rfl hrest (frm_all ha) k
theorem r_nS4v (hX : oK X l g own cc R) {v1 v2 v3 v4 : Value} (hd : dSt own cc pc y nx) (hy : kS y cc' maxL' ret' 4) (hC : Cx l g y cc' maxL' ret' rm' [v1, v2, v3, v4] [] (none) []) (hR : rmO rm' maxL' R cs sl) (hrest : (rest.map fun v => v.category).sum ≤ 8) (k : vJ X cs sl w nx lv (rest)) : vJ X cs sl w pc lv (v4 :: v3 :: v2 :: v1 :: rest) := r_callS (As := [v1, v2, v3, v4]) hX hd hy hC rfl hR rfl hrest frm_none k
theorem r_cS5i (hX : oK X l g own cc R) {v1 v2 v3 v4 v5 : Value} {v : Value} (hd : dSt own cc pc y nx) (hy : kS y cc' maxL' ret' 5) (hfr : frm w wc wc' w1) (hC : Cx l g y cc' maxL' ret' rm' [v1, v2, v3, v4, v5] wc (some v) wc') (hR : rmO rm' maxL' R cs sl) (hrest : (rest.map fun v => v.category).sum ≤ 8) (k : vJ X cs sl w1 nx lv (v :: rest)) : vJ X cs sl w pc lv (v5 :: v4 :: v3 :: v2 :: v1 :: rest) := r_callS (As := [v1, v2, v3, v4, v5]) hX hd hy hC rfl hR rfl hrest hfr k
theorem r_aS5i (hX : oK X l g own cc R) {v1 v2 v3 v4 v5 : Value} {v : Value} (hd : dSt own cc pc y nx) (hy : kS y cc' maxL' ret' 5) (hC : Cx l g y cc' maxL' ret' rm' [v1, v2, v3, v4, v5] w (some v) w1) (ha : w1.map (fun q => q.1) = w.map (fun q => q.1)) (hR : rmO rm' maxL' R cs sl) (hrest : (rest.map fun v => v.category).sum ≤ 8) (k : vJ X cs sl w1 nx lv (v :: rest)) : vJ X cs sl w pc lv (v5 :: v4 :: v3 :: v2 :: v1 :: rest) := r_callS (As := [v1, v2, v3, v4, v5]) hX hd hy hC rfl hR rfl hrest (frm_all ha) k
theorem r_nS5i (hX : oK X l g own cc R) {v1 v2 v3 v4 v5 : Value} {v : Value} (hd : dSt own cc pc y nx) (hy : kS y cc' maxL' ret' 5) (hC : Cx l g y cc' maxL' ret' rm' [v1, v2, v3, v4, v5] [] (some v) []) (hR : rmO rm' maxL' R cs sl) (hrest : (rest.map fun v => v.category).sum ≤ 8) (k : vJ X cs sl w nx lv (v :: rest)) : vJ X cs sl w pc lv (v5 :: v4 :: v3 :: v2 :: v1 :: rest) := r_callS (As := [v1, v2, v3, v4, v5]) hX hd hy hC rfl hR rfl hrest frm_none k
theorem r_cS5v (hX : oK X l g own cc R) {v1 v2 v3 v4 v5 : Value} (hd : dSt own cc pc y nx) (hy : kS y cc' maxL' ret' 5) (hfr : frm w wc wc' w1) (hC : Cx l g y cc' maxL' ret' rm' [v1, v2, v3, v4, v5] wc (none) wc') (hR : rmO rm' maxL' R cs sl) (hrest : (rest.map fun v => v.category).sum ≤ 8) (k : vJ X cs sl w1 nx lv (rest)) : vJ X cs sl w pc lv (v5 :: v4 :: v3 :: v2 :: v1 :: rest) := r_callS (As := [v1, v2, v3, v4, v5]) hX hd hy hC rfl hR rfl hrest hfr k
theorem r_aS5v (hX : oK X l g own cc R) {v1 v2 v3 v4 v5 : Value} (hd : dSt own cc pc y nx) (hy : kS y cc' maxL' ret' 5) (hC : Cx l g y cc' maxL' ret' rm' [v1, v2, v3, v4, v5] w (none) w1) (ha : w1.map (fun q => q.1) = w.map (fun q => q.1)) (hR : rmO rm' maxL' R cs sl) (hrest : (rest.map fun v => v.category).sum ≤ 8) (k : vJ X cs sl w1 nx lv (rest)) : vJ X cs sl w pc lv (v5 :: v4 :: v3 :: v2 :: v1 :: rest) := r_callS (As := [v1, v2, v3, v4, v5]) hX hd hy hC rfl hR rfl hrest (frm_all ha) k
theorem r_nS5v (hX : oK X l g own cc R) {v1 v2 v3 v4 v5 : Value} (hd : dSt own cc pc y nx) (hy : kS y cc' maxL' ret' 5) (hC : Cx l g y cc' maxL' ret' rm' [v1, v2, v3, v4, v5] [] (none) []) (hR : rmO rm' maxL' R cs sl) (hrest : (rest.map fun v => v.category).sum ≤ 8) (k : vJ X cs sl w nx lv (rest)) : vJ X cs sl w pc lv (v5 :: v4 :: v3 :: v2 :: v1 :: rest) := r_callS (As := [v1, v2, v3, v4, v5]) hX hd hy hC rfl hR rfl hrest frm_none k
theorem r_perm (is : List Nat) (hn : va_nd is = true) (hs : is.map (fun i => w[i]?) = w1.map some) (k : vJ X cs sl w1 pc lv st) : vJ X cs sl w pc lv st := by
  obtain ⟨p, l', e, R', s, m, args, below, meth, c, D, A, Q⟩ := X
  intro H locs ls hP hD hS hl
  refine k H locs ls (hP.sub is ?_) (hD.sub is hn hs) hS hl
  have h2 : ∀ (l : List (Option (Nat × va_E))) (v : va_W), l = v.map some → l.filterMap id = v := by
    intro l v h
    subst h
    simp
  have h3 := h2 _ _ hs
  rw [List.filterMap_map] at h3
  exact h3
end rules2
