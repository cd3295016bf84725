/-! THE CLAIM OUT OF ONE WALK OF THE LAW'S BODY. Your part is whole_start (and what it stands on); all else here is the same for every law, but numbers. -/
def R_law : String := "ChalkedDoorsLaw"
def lw_P (b : Addr) (xs : List Int32) (args : Array Value) (s : State) : Prop := args = #[.ref b] ∧ s.IntsAt b xs ∧ xs.length ≤ 256 ∧ (Jvm.Cond.and given_1 narrow_1).before args s = true
def lw_Q (_ : Array Value) (s : State) (o : Outcome) (t : State) : Prop := o = .returned (some (.int 1)) ∧ Framed s o t [] 54 927
def lw_Z (below : List Frame) (a : Array Value) (s : State) : State → Prop := fun t => ∃ o, t.status = .running ∧ Ended t below o ∧ lw_Q a s o t
/-- the law's own end, with 1 on the stack, nothing written that was there before, its room as the claim has it -/
theorem lw_ret {p : Program} {l : Launch} {e : Env} {s : State} {m : MethodId} {below : List Frame} {meth : Method} {c : Code} {b : Nat} (hx : p.tables.exec = Jvm.exec) (hb : c.code = code) (hr : meth.sig.returnType = ret) (hlocks : meth.locks = false) {pc : Nat} {H : Heap} {ls : Array Slot} (hdg : decode code pc = .ok (.ireturn, 1)) : W p l e room_1 s m #[Value.ref b] below meth c H [] 54 927 (lw_Z below #[Value.ref b] s) (F0 m pc ls [.int 1]) := by
  intro T hT X
  obtain ⟨fs, hret, hrun, hended, hW, hframe⟩ := X.leave (v := some (.int 1)) (hlocks := hlocks) (fun h => by rw [hr] at h; cases h)
  have hmeth' : T.vm.method? m = some meth := X.method'
  refine ⟨T.setFrames fs, ?_, .returned (some (.int 1)), hrun, hended, rfl, ⟨_, rfl⟩, hW, hframe⟩
  jvm_step X.here [X.here.top, hx, hb, hdg, hmeth', hr, ret, narrow_b1]
  (try refine ⟨rfl, ?_⟩); (try refine ⟨rfl, ?_⟩)
  first | (intro acts; rw [hret _ acts rfl rfl rfl]) | rw [hret _ _ rfl rfl rfl]
  exact Steps.refl _
/-- what holds at the law's entry: the machine, the code, the tables' words (any of lw_tbl by 'hts w (by decide +kernel)'), the script of L ints xs at the cell b, what the Statement gives of the start (any of its parts by flat_of_before) -/
def lw_At (p : Program) (s : State) (m : MethodId) (meth : Method) (c : Code) (b L : Nat) (xs : Nat → Int32) : Prop :=
  p.tables.exec = Jvm.exec ∧ c.code = code ∧ meth.sig.returnType = ret ∧ c.maxLocals = 4 ∧ s.vm.findClass R_law = some m.cls ∧ (∀ w ∈ lw_tbl, w.before #[Value.ref b] s = true) ∧ va_X b L xs s s.heap ∧ b < s.heap.size ∧ meth.locks = false ∧ (Jvm.Cond.and given_1 narrow_1).before #[Value.ref b] s = true
/-! the law's own rules -/
theorem frm_l {w1 w1' z : va_W} (ha : w1'.map (fun q => q.1) = w1.map (fun q => q.1)) : frm (w1 ++ z) w1 w1' (w1' ++ z) := by
  intro D A H H1 hP hD
  have gl : ∀ (k : Nat) (q : Nat × va_E), w1[k]? = some q → (w1 ++ z)[k]? = some q := fun k q h => by
    rw [List.getElem?_append_left (List.getElem?_eq_some_iff.mp h).1]; exact h
  have gr : ∀ (k : Nat) (q : Nat × va_E), z[k]? = some q → (w1 ++ z)[w1.length + k]? = some q := fun k q h => by
    rw [List.getElem?_append_right (by omega), show w1.length + k - w1.length = k by omega]; exact h
  refine ⟨⟨fun k q h => hP k q (gl k q h), fun i j p q hi hj e => hD.1 i j p q (gl i p hi) (gl j q hj) e, fun k q h => hD.2 k q (gl k q h)⟩, fun hk hP1 => ⟨va_P.app hP1 (fun k q h => ?_), hD.same (by rw [List.map_append, List.map_append, ha])⟩⟩
  have h2 := hP _ q (gr k q h)
  refine h2.kept (hk q.1 h2.lt (fun hA => ?_))
  rcases hA with ⟨k2, e, h3⟩ | h3
  · have h4 := hD.1 _ _ _ _ (gr k q h) (gl k2 (q.1, e) h3) rfl
    have hl := (List.getElem?_eq_some_iff.mp h3).1
    omega
  · exact absurd h2.lt (Nat.not_lt.mpr h3)
theorem frm_r {w1 w1' z : va_W} (ha : w1'.map (fun q => q.1) = w1.map (fun q => q.1)) : frm (z ++ w1) w1 w1' (z ++ w1') := by
  intro D A H H1 hP hD
  have gl : ∀ (k : Nat) (q : Nat × va_E), z[k]? = some q → (z ++ w1)[k]? = some q := fun k q h => by
    rw [List.getElem?_append_left (List.getElem?_eq_some_iff.mp h).1]; exact h
  have gr : ∀ (k : Nat) (q : Nat × va_E), w1[k]? = some q → (z ++ w1)[z.length + k]? = some q := fun k q h => by
    rw [List.getElem?_append_right (by omega), show z.length + k - z.length = k by omega]; exact h
  refine ⟨⟨fun k q h => hP _ q (gr k q h), fun i j p q hi hj e => ?_, fun k q h => hD.2 _ q (gr k q h)⟩, fun hk hP1 => ⟨va_P.app (fun k q h => ?_) hP1, hD.same (by rw [List.map_append, List.map_append, ha])⟩⟩
  · have := hD.1 _ _ p q (gr i p hi) (gr j q hj) e
    omega
  · have h2 := hP _ q (gl k q h)
    refine h2.kept (hk q.1 h2.lt (fun hA => ?_))
    rcases hA with ⟨k2, e, h3⟩ | h3
    · have h4 := hD.1 _ _ _ _ (gl k q h) (gr k2 (q.1, e) h3) rfl
      have hl := (List.getElem?_eq_some_iff.mp h).1
      omega
    · exact absurd h2.lt (Nat.not_lt.mpr h3)
def pL (X : CT) (b L : Nat) (xs : Nat → Int32) : Prop := match X with
  | (_, _, _, R, s, _, args, below, meth, _, _, A, Q) => meth.sig.returnType = ret ∧ meth.locks = false ∧ R = room_1 ∧ args = #[Value.ref b] ∧ A = (fun q : Nat => s.heap.size ≤ q) ∧ Q = lw_Z below #[Value.ref b] s ∧ va_X b L xs s s.heap ∧ b < s.heap.size
section lawr
variable {X : CT} {l : Launch} {g : GT} {own : String} {cc : ByteArray} {R : Room} {cs sl : Nat} {w : va_W} {pc nx : Nat} {lv : List (Option Value)} {st : List Value} {b L : Nat} {xs : Nat → Int32}
theorem r_lawret (hX : oK X l g own code R) (hL : pL X b L xs) (hd : dR code pc (.ireturn) 1 nx) : vJ X 54 927 w pc lv [.int 1] := by
  obtain ⟨p, l', e, R', s, m, args, below, meth, c, Dd, A, Q⟩ := X
  obtain ⟨rfl, rfl, rfl, hx, hb, hown, hw, hK, hA⟩ := hX
  obtain ⟨h1, h2, rfl, rfl, rfl, rfl, h3, h4⟩ := hL
  intro H locs ls hP hD hS hl
  obtain ⟨hd, -⟩ := hd
  refine va_forget (fun q hq => hS.2.2 q hq) ?_
  exact lw_ret hx hb h1 h2 hd
theorem r_slen (hX : oK X l g own cc R) (hL : pL X b L xs) (hd : dR cc pc (.arraylength) 1 nx) (k : vJ X cs sl w nx lv (.int (nI L) :: st)) : vJ X cs sl w pc lv (.ref b :: st) := by
  obtain ⟨p, l', e, R', s, m, args, below, meth, c, Dd, A, Q⟩ := X
  obtain ⟨rfl, rfl, rfl, hx, hb, hown, hw, hK, hA⟩ := hX
  obtain ⟨h1, h2, rfl, rfl, rfl, rfl, h3, h4⟩ := hL
  intro H locs ls hP hD hS hl
  obtain ⟨hd, rfl⟩ := hd
  exact va_slen hx hb h3 h4 (Nat.not_le.mpr h4) hS hd (k H locs ls hP hD hS hl)
theorem r_sld (hX : oK X l g own cc R) (hL : pL X b L xs) {i : Int32} (hd : dR cc pc (.iaload) 1 nx) (hi : vp_in i L) (k : vJ X cs sl w nx lv (.int (xs i.toNatClampNeg) :: st)) : vJ X cs sl w pc lv (.int i :: .ref b :: st) := by
  obtain ⟨p, l', e, R', s, m, args, below, meth, c, Dd, A, Q⟩ := X
  obtain ⟨rfl, rfl, rfl, hx, hb, hown, hw, hK, hA⟩ := hX
  obtain ⟨h1, h2, rfl, rfl, rfl, rfl, h3, h4⟩ := hL
  intro H locs ls hP hD hS hl
  obtain ⟨hd, rfl⟩ := hd
  exact va_sld hx hb h3 h4 (Nat.not_le.mpr h4) hS hi hd (k H locs ls hP hD hS hl)
end lawr
theorem sidx {ix k L : Nat} {v : Int32} (hv : v = nI k) (h : ix + k < L) (hL : L ≤ 256) : vp_in (nI ix + v) L := by
  rw [hv, nI_add]
  exact vp_in_nI h (by omega)
def KK (X : CT) (g : GT) (b0 x : Nat) (b : Nat → Nat) (ix : Nat) : Prop := ∀ (a : Nat → Nat → Nat) (kp : Int32) (rd nw i0 i1 fa bo pl dr σ : S2), Rel kp rd nw i0 i1 fa bo pl σ → vJ X 54 927 (wX g x a kp rd nw i0 i1 fa bo pl dr ++ wM g b σ) 1047 [some (.ref b0), some (.ref x), some (.ref (b 0)), some (.int (nI ix))] []
theorem ad_wXs {g : GT} {x : Nat} {a : Nat → Nat → Nat} {kp : Int32} {rd nw i0 i1 fa bo pl dr : S2} {kp' : Int32} {rd' nw' i0' i1' fa' bo' pl' dr' : S2} : (wXs g x a kp' rd' nw' i0' i1' fa' bo' pl' dr').map (fun q => q.1) = (wX g x a kp rd nw i0 i1 fa bo pl dr).map (fun q => q.1) := rfl
def swp (a : Nat → Nat → Nat) : Nat → Nat → Nat := fun k => if k = 6 then a 7 else if k = 7 then a 6 else a k
