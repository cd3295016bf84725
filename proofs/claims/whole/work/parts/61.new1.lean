/-! constructors: the world grows at its end -/
def pN (X : CT) (Φ : va_W → Prop) (mc ms : Nat) : Prop := match X with
  | (_, _, _, _, s, _, args, below, meth, _, D, A, Q) => meth.sig.returnType = none ∧ meth.locks = false ∧ meth.name = "<init>" ∧ Q = MQ below (fun _ st oc t => oc = .returned none ∧ (∃ w', Φ w' ∧ va_P D vwCl w' t.heap ∧ va_D A w') ∧ va_F A st t) args s mc ms A
def Cn (l : Launch) (g : GT) (y : MethodName) (cc : ByteArray) (maxL : Nat) (rm : Room) (av : List Value) (w : va_W) (Φ : va_W → Prop) (mc ms : Nat) : Prop :=
  ∀ sz : Nat, Met l y (.code y cc maxL none :: UW) rm (va_Pc av (gPre g sz w)) (fun _ st oc t => oc = .returned none ∧ (∃ w', Φ w' ∧ va_P g.1 vwCl w' t.heap ∧ va_D (va_A w sz) w') ∧ va_F (va_A w sz) st t) mc ms (va_A w sz)
theorem methN {l : Launch} {g : GT} {own : String} {y : MethodName} {cc : ByteArray} {maxL : Nat} {rm : Room} {av : List Value} {w : va_W} {Φ : va_W → Prop} {mc ms : Nat} (hy : plainName y.cls = true) (hyn : y.name = "<init>") (ho : y.cls = own) (hsl : (lg_sl av).length ≤ maxL) (lv : List (Option Value)) (hlv : lvE av maxL = lv)
    (h : ∀ X : CT, oK X l g own cc rm → pN X Φ mc ms → vJ X 0 0 w 0 lv []) : Cn l g y cc maxL rm av w Φ mc ms := by
  intro sz
  refine Met.ofW (cc := cc) (maxL := maxL) (ret := none) hy rfl ?_
  intro p e s m args below meth c s₁ B hml hv
  obtain ⟨rfl, hsz, hP, hK, hD0⟩ := hv
  have hts := atoms_spec (ws := Cond.code y cc maxL none :: UW) B.pre
  have hown : s.vm.findClass y.cls = some m.cls := findClass_of_methodNamed B.named
  have hin : meth.name = "<init>" := ((name_of_methodNamed B.named B.method).1).trans hyn
  subst hsz
  subst ho
  have hD := hD0.self (sz := s.heap.size)
  have hl := lh_entry av hsl
  rw [lg_entry_eq]
  subst hlv
  have h1 := h (p, l, e, rm, s, m, av.toArray, below, meth, c, g.1, va_A w s.heap.size, MQ below (fun _ st oc t => oc = .returned none ∧ (∃ w', Φ w' ∧ va_P g.1 vwCl w' t.heap ∧ va_D (va_A w s.heap.size) w') ∧ va_F (va_A w s.heap.size) st t) av.toArray s mc ms (va_A w s.heap.size)) ⟨rfl, rfl, rfl, B.exec, B.bytes, hown, fun w hw => hts w (List.mem_cons_of_mem _ hw), hK, fun q hq => Or.inr hq⟩ ⟨B.returns, B.notSynchronized, hin, rfl⟩
  exact h1 s.heap [] _ hP hD va_S.rf (by rw [hml]; exact hl)
section news
variable {X : CT} {l : Launch} {g : GT} {own : String} {cc : ByteArray} {R : Room} {cs sl : Nat} {w : va_W} {pc nx tgt : Nat} {lv : List (Option Value)} {st : List Value}
theorem r_vretN (hX : oK X l g own cc R) {Φ : va_W → Prop} (hQ : pN X Φ cs sl) (hd : dR cc pc (.return_) 1 nx) (hw' : Φ w) : vJ X cs sl w pc lv [] := by
  obtain ⟨p, l', e, R', s, m, args, below, meth, c, D, A, Q⟩ := X
  obtain ⟨rfl, rfl, rfl, hx, hb, hown, hw, hK, hA⟩ := hX
  intro H locs ls hP hD hS hl
  obtain ⟨hr, hlk, hnm, rfl⟩ := hQ
  obtain ⟨hd, rfl⟩ := hd
  exact W.vret hx hb hr (fun t ht hW => ⟨rfl, ⟨w, hw', by rw [ht]; exact hP, hD⟩, hS.F ht⟩) hS.2.2 hd hlk
theorem r_newi (hX : oK X l g own cc R) {n : Int32} (N : Nat) (hd : dR cc pc (.newarray .int) 2 nx) (hu : Cond.arrayClass .int ∈ UW) (hn : ¬ n < 0) (hN : n.toNatClampNeg = N) (hby : N * componentBytes .int ≤ 536870912) (hc : cs + 1 ≤ R.cells) (hs : sl + N ≤ R.slots)
    (k : ∀ q : Nat, vJ X (cs + 1) (sl + N) (w ++ [(q, .inl (g.2.1, N, .inl (fun _ => 0)))]) nx lv (.ref q :: st)) : vJ X cs sl w pc lv (.int n :: st) := by
  obtain ⟨p, l', e, R', s, m, args, below, meth, c, D, A, Q⟩ := X
  obtain ⟨rfl, rfl, rfl, hx, hb, hown, hw, hK, hA⟩ := hX
  intro H locs ls hP hD hS hl
  obtain ⟨hd, rfl⟩ := hd
  refine va_newa (atype := .int) (ty := .int) (a0 := (N, .inl (fun _ => 0))) hx hb (hw _ hu) rfl hK.1 hP hD hS hA (fun cA => by rw [vp_cell_i] <;> rfl) hn hN hby hc hs hd (fun q cA H1 hK1 hP1 hD1 hS1 => ?_)
  have e1 := (hK1.2 0 _ rfl).2
  have e2 := (hK1.2 2 _ rfl).2
  have e3 : g.2.1 = cA := Option.some.inj (e1.symm.trans e2)
  subst e3
  exact k q H1 locs ls hP1 hD1 hS1 hl
theorem r_newz (hX : oK X l g own cc R) {n : Int32} (N : Nat) (hd : dR cc pc (.newarray .boolean) 2 nx) (hu : Cond.arrayClass .boolean ∈ UW) (hn : ¬ n < 0) (hN : n.toNatClampNeg = N) (hby : N * componentBytes .boolean ≤ 536870912) (hc : cs + 1 ≤ R.cells) (hs : sl + N ≤ R.slots)
    (k : ∀ q : Nat, vJ X (cs + 1) (sl + N) (w ++ [(q, .inl (g.2.2, N, .inl (fun _ => 0)))]) nx lv (.ref q :: st)) : vJ X cs sl w pc lv (.int n :: st) := by
  obtain ⟨p, l', e, R', s, m, args, below, meth, c, D, A, Q⟩ := X
  obtain ⟨rfl, rfl, rfl, hx, hb, hown, hw, hK, hA⟩ := hX
  intro H locs ls hP hD hS hl
  obtain ⟨hd, rfl⟩ := hd
  refine va_newa (atype := .boolean) (ty := .boolean) (a0 := (N, .inl (fun _ => 0))) hx hb (hw _ hu) rfl hK.1 hP hD hS hA (fun cA => by rw [vp_cell_i] <;> rfl) hn hN hby hc hs hd (fun q cA H1 hK1 hP1 hD1 hS1 => ?_)
  have e1 := (hK1.2 1 _ rfl).2
  have e2 := (hK1.2 2 _ rfl).2
  have e3 : g.2.2 = cA := Option.some.inj (e1.symm.trans e2)
  subst e3
  exact k q H1 locs ls hP1 hD1 hS1 hl
end news
