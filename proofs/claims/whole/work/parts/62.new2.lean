/-! constructors: new objects, final fields, Object's own constructor, calls of constructors -/
def fF (own : String) (idx ci k : Nat) (ty : FieldType) : Prop := ∃ (C : String) (T : u_T) (N : Nat) (ty0 : Nat → FieldType), vwCl[ci]? = some (C, T, N) ∧ (∀ w ∈ u_ws C T N, w ∈ UW) ∧ k < N ∧ Cond.fieldLink own idx (T k).1 (T k).2.1 (T k).2.2.1 ∈ UW ∧ (∀ k, k < N → parseFieldDescriptor (T k).2.2.1 = some (ty0 k)) ∧ (∀ a, a < N → ∀ b, b < N → a ≠ b → (T a).2.1 ≠ (T b).2.1) ∧ (T k).2.2.2 = true ∧ (T k).1 = own ∧ parseFieldDescriptor (T k).2.2.1 = some ty
def nwL (own : String) (idx ci N : Nat) (fs : List Value) : Prop := ∃ (C : String) (T : u_T) (ty : Nat → FieldType), vwCl[ci]? = some (C, T, N) ∧ (∀ w ∈ u_ws C T N, w ∈ UW) ∧ (∀ k, k < N → parseFieldDescriptor (T k).2.2.1 = some (ty k)) ∧ Cond.classLink own idx C ∈ UW ∧ Cond.instantiable C N ∈ UW ∧ Cond.initialized C ∈ UW ∧ (∀ j, j < N → defaultValue (ty j) = vp_V fs j)
def kI (y : MethodName) (cc : ByteArray) (maxL : Nat) : Prop := kM y cc maxL none 0 ∧ Cond.instanceMethod y ∈ UW ∧ y.name = "<init>"
theorem uObj1 : Cond.instanceMethod objectInit ∈ UW := mem_UW 98 (by decide +kernel) rfl
theorem uObj2 : Cond.code objectInit ⟨#[0xb1]⟩ 1 none ∈ UW := mem_UW 99 (by decide +kernel) rfl
theorem uArrI : Cond.arrayClass .int ∈ UW := mem_UW 133 (by decide +kernel) rfl
theorem uArrZ : Cond.arrayClass .boolean ∈ UW := mem_UW 181 (by decide +kernel) rfl
section news2
variable {X : CT} {l : Launch} {g : GT} {own : String} {cc : ByteArray} {R : Room} {cs sl : Nat} {w : va_W} {pc nx tgt : Nat} {lv : List (Option Value)} {st : List Value}
theorem r_putF (hX : oK X l g own cc R) {Φ : va_W → Prop} {mc ms : Nat} (hQ : pN X Φ mc ms) {idx ci j a : Nat} {fs : List Value} {v : Value} {ty : FieldType} (hd : dR cc pc (.putfield idx) 3 nx) (hf : fF own idx ci j ty) (q0 : Nat) (he : w[q0]? = some (a, .inr (ci, fs))) (hn : narrow ty v = v) (hfi : fits ty v = true) (hlen : j < fs.length) (w1 : va_W) (hw1 : w.set q0 (a, .inr (ci, fs.set j v)) = w1) (k : vJ X cs sl w1 nx lv st) : vJ X cs sl w pc lv (v :: .ref a :: st) := by
  obtain ⟨p, l', e, R', s, m, args, below, meth, c, D, A, Q⟩ := X
  obtain ⟨rfl, rfl, rfl, hx, hb, hown, hw, hK, hA⟩ := hX
  intro H locs ls hP hD hS hl
  obtain ⟨hr, hlk, hnm, -⟩ := hQ
  obtain ⟨hd, rfl⟩ := hd
  obtain ⟨C, T, N, ty0, hc, hin, hk, hlk, hty, hnm2, hfin, hdecl, hp⟩ := hf
  subst hw1
  exact va_putF hx hb hw hin ty0 hty hnm2 hown hK.1 hP hD hS q0 he hc j hk (hw _ hlk) (fun _ h9 => h9) hfin hnm hdecl hp hn hfi hlen hd (fun H1 locs1 hP1 hD1 hS1 => k H1 locs1 ls hP1 hD1 hS1 hl)
theorem r_new (hX : oK X l g own cc R) {idx ci : Nat} {fs : List Value} (N : Nat) (hd : dR cc pc (.new idx) 3 nx) (hl : nwL own idx ci N fs) (hc : cs + 1 ≤ R.cells) (hs : sl + N ≤ R.slots) (k : ∀ q : Nat, vJ X (cs + 1) (sl + N) (w ++ [(q, .inr (ci, fs))]) nx lv (.ref q :: st)) : vJ X cs sl w pc lv st := by
  obtain ⟨p, l', e, R', s, m, args, below, meth, c, D, A, Q⟩ := X
  obtain ⟨rfl, rfl, rfl, hx, hb, hown, hw, hK, hA⟩ := hX
  intro H locs ls hP hD hS hlv
  obtain ⟨hd, rfl⟩ := hd
  obtain ⟨C, T, ty, hcl, hin, hty, h1, h2, h3, h4⟩ := hl
  exact va_new hx hb hw hin ty hty hown (hw _ h1) (hw _ h2) (hw _ h3) hK.1 hP hD hS hA hcl h4 hc hs hd (fun q H1 hP1 hD1 hS1 => k q H1 locs ls hP1 hD1 hS1 hlv)
theorem r_obj (hX : oK X l g own cc R) {idx a : Nat} (hd : dR cc pc (.invokespecial idx) 3 nx) (h1 : Cond.methodLink own idx objectInit ∈ UW) (hf : 1 ≤ R.frames) (hlo : 12 ≤ R.locals) (k : vJ X cs sl w nx lv []) : vJ X cs sl w pc lv [.ref a] := by
  obtain ⟨p, l', e, R', s, m, args, below, meth, c, D, A, Q⟩ := X
  obtain ⟨rfl, rfl, rfl, hx, hb, hown, hw, hK, hA⟩ := hX
  intro H locs ls hP hD hS hlv
  obtain ⟨hd, rfl⟩ := hd
  refine W.objInit hx hb hown (hw _ h1) (hw _ uObj1) (hw _ uObj2) rfl hlv.1.1 rfl hd hf (Nat.le_trans (Nat.le_of_ble_eq_true rfl) hlo) ?_
  exact k H locs ls hP hD hS hlv
theorem nd_range : ∀ (n k : Nat), va_nd (List.range' k n) = true := by
  intro n
  induction n with
  | zero => intro k; rfl
  | succ n ih =>
    intro k
    rw [List.range'_succ]
    unfold va_nd
    simp [ih]
theorem mp_range (w z : va_W) : (List.range' 0 w.length).map (fun i => (w ++ z)[i]?) = w.map some := by
  apply List.ext_getElem?
  intro i
  by_cases h : i < w.length
  · rw [List.getElem?_map, List.getElem?_map, List.getElem?_range' h, List.getElem?_eq_getElem h]
    simp [List.getElem?_append_left h]
  · rw [List.getElem?_eq_none (by simp; omega), List.getElem?_eq_none (by simp; omega)]
theorem r_init (hX : oK X l g own cc R) {q idx maxL' mc ms : Nat} {y : MethodName} {cc' : ByteArray} {rm' : Room} {Φ : va_W → Prop} {e0 : va_E} (hd : dR cc pc (.invokespecial idx) 3 nx) (hlk : mL own idx y) (hy : kI y cc' maxL') (hC : Cn l g y cc' maxL' rm' [.ref q] [(q, e0)] Φ mc ms) (hR : rm'.cells = mc ∧ rm'.slots = ms ∧ rm'.frames + 1 ≤ R.frames ∧ 8 + (maxL' + 11) + rm'.locals ≤ R.locals) (hcs : cs + mc ≤ R.cells) (hsl : sl + ms ≤ R.slots) (hrest : (st.map fun v => v.category).sum ≤ 8) (k : ∀ w' : va_W, Φ w' → vJ X (cs + mc) (sl + ms) (w ++ w') nx lv st) : vJ X cs sl (w ++ [(q, e0)]) pc lv (.ref q :: st) := by
  obtain ⟨p, l', e, R', s, m, args, below, meth, c, D, A, Q⟩ := X
  obtain ⟨rfl, rfl, rfl, hx, hb, hown, hw, hK, hA⟩ := hX
  intro H locs ls hP hD hS hl
  obtain ⟨hd, rfl⟩ := hd
  obtain ⟨r1, r2, r3, r4⟩ := hR
  have hsub : [w.length].map (fun i => (w ++ [(q, e0)])[i]?) = [(q, e0)].map some := by simp
  have hPc : va_P g.1 vwCl [(q, e0)] H := fun k2 x hx2 => hP (w.length + k2) x (by rw [List.getElem?_append_right (by omega)]; rw [show w.length + k2 - w.length = k2 by omega]; exact hx2)
  have hDc : va_D A [(q, e0)] := hD.sub [w.length] rfl hsub
  have hFc := va_free (wc := [(q, e0)]) hD hS hA [w.length] hsub
  have hbl : FrameBlind (va_Pc [.ref q] (gPre g H.size [(q, e0)])) := fun a U gg mk qq => by
    obtain ⟨q0, q1, qP, qK, qD⟩ := qq
    exact ⟨q0, q1, qP, ⟨va_K.moved (u := U) (U := U.calling gg mk a) (Vm.Alike.refl U.vm) qK.1, nest_same (s := U) (U := U.calling gg mk a) rfl qK.2⟩, qD⟩
  have hpre : ∀ U : State, U.heap = H → s.WarmedH U.vm → va_Pc [.ref q] (gPre g H.size [(q, e0)]) ([Value.ref q]).toArray U := fun U hU hW => ⟨rfl, by rw [hU], by rw [hU]; exact hPc, ⟨va_K.moved hW.alike hK.1, nest_warm hW hK.2⟩, hDc.weaken (fun _ _ _ _ => trivial)⟩
  have hG : GoodIn UW (Cond.code y cc' maxL' none :: UW) := good_UW (fun _ h => h) hy.1.1
  obtain ⟨⟨k1, k2, k3, k4, k5⟩, ki, kn⟩ := hy
  have fin : va_Run p l' e R' s m args below meth c H locs cs sl mc ms (F0 m pc ls (.ref q :: st)) st (fun st oc t => oc = .returned none ∧ (∃ w', Φ w' ∧ va_P g.1 vwCl w' t.heap ∧ va_D (va_A [(q, e0)] H.size) w') ∧ va_F (va_A [(q, e0)] H.size) st t) (va_A [(q, e0)] H.size) := by
    rcases hlk with hlk | ⟨host, hlk⟩
    · exact va_runI (As := []) (rest := st) ⟨hx, hb, rfl, hown, hw⟩ (hC H.size) (cwI 0 hw hG rfl r1 r2 (hw _ k2) (hw _ hlk) (hw _ ki) kn ⟨k3, k4, k5⟩ ⟨r3, r4⟩) ⟨hbl, hpre⟩ rfl rfl hl.1.1 rfl (lv_room hrest) hd ⟨hcs, hsl⟩
    · exact va_runIN (As := []) (rest := st) ⟨hx, hb, rfl, hown, hw⟩ (hC H.size) ⟨va_cnB 0 hw hG rfl r1 r2 (hK.2 _ hlk) (hw _ k2) ⟨k3, k4, k5⟩ ⟨r3, r4⟩, kn, hw _ ki⟩ ⟨hbl, hpre⟩ rfl rfl hl.1.1 rfl (lv_room hrest) hd ⟨hcs, hsl⟩
  intro T hT X
  obtain ⟨v, st₀, t, T', L, h0, X', hL, e1, e2, ⟨hv, ⟨w', hΦ, hp, hdw⟩, hz, hk⟩, stp⟩ := fin T hT X
  cases hv
  rw [h0] at hz hk
  have hk1 : ∀ q2 : Nat, q2 < H.size → ¬ va_A [(q, e0)] H.size q2 → T'.heap[q2]? = H[q2]? := fun q2 h1 h2 => by rw [e1]; exact hk q2 h1 h2
  have hj := va_join (wr := w) (w1 := w') (H1 := T'.heap) hP hD [w.length] (List.range' 0 w.length) hsub (mp_range w _) (nd_range _ _) (fun i hi hi2 => by
    simp at hi2
    subst hi2
    simp [List.mem_range'] at hi) hk1 hFc (by rw [e1]; exact hp) hdw
  obtain ⟨t2, a1, b1⟩ := k w' hΦ T'.heap (locs ++ L) ls hj.1 hj.2
    ⟨Nat.le_trans hS.1 (by rw [e1]; exact hz), fun q2 h1 h2 => by rw [hk1 q2 (Nat.lt_of_lt_of_le h1 hS.1) (fun z => h2 (hFc q2 z))]; exact hS.2.1 q2 h1 h2, fun q2 hq2 => by
      rcases List.mem_append.mp hq2 with h | h
      · exact hS.2.2 q2 h
      · exact hFc _ (hL q2 h)⟩ hl T' rfl X'
  exact ⟨t2, stp t2 a1, b1⟩
end news2
