/-! A small logic over the kit's rows: one judgement vJ (world, pc, locals, stack), one rule an instruction, one contract form Cx, the frame rule. -/
def UW : List Cond := lw_tbl.filter goodWord
def isNest : Cond → Bool
  | .fieldLinkNest .. => true
  | .methodLinkNest .. => true
  | _ => false
def NW : List Cond := lw_tbl.filter isNest
theorem mem_UW {w : Cond} (i : Nat) (h : lw_tbl[i]? = some w) (hg : goodWord w = true) : w ∈ UW := List.mem_filter.mpr ⟨List.mem_of_getElem? h, hg⟩
theorem mem_NW {w : Cond} (i : Nat) (h : lw_tbl[i]? = some w) (hg : isNest w = true) : w ∈ NW := List.mem_filter.mpr ⟨List.mem_of_getElem? h, hg⟩
theorem good_UW {c : Cond} {big : List Cond} (hb : ∀ w ∈ UW, w ∈ big) (hc : c ∈ UW) : GoodIn big (c :: UW) := by
  have key : ∀ w ∈ UW, w ∈ big ∧ ((w.onTables && w.keeps) = true ∨ ∃ ty, w = .arrayClass ty) := fun w hw => ⟨hb w hw, good_of_word (List.mem_filter.mp hw).2⟩
  intro w hw
  rcases List.mem_cons.mp hw with rfl | h
  · exact key _ hc
  · exact key _ h
theorem nest_warm {s U : State} (hW : s.WarmedH U.vm) (h : ∀ w ∈ NW, va_Nw w s) : ∀ w ∈ NW, va_Nw w U := by
  intro w hw
  have h1 := h w hw
  have h2 := (List.mem_filter.mp hw).2
  cases w <;> first | exact va_Nw.warmF hW h1 | exact va_Nw.warmM hW h1 | cases h2
theorem nest_same {s U : State} (hv : s.vm = U.vm) (h : ∀ w ∈ NW, va_Nw w s) : ∀ w ∈ NW, va_Nw w U := by
  intro w hw
  have h1 := h w hw
  have h2 := (List.mem_filter.mp hw).2
  cases w <;> first | (cases h2; done) | exact va_Nw.same rfl hv h1
/-! locals -/
def lvL (lv : List (Option Value)) : List (Nat × Value) := (List.range lv.length).filterMap (fun i => (lv[i]?.join).map (fun v => (i, v)))
theorem lvL_mem {lv : List (Option Value)} {i : Nat} {v : Value} : (i, v) ∈ lvL lv ↔ lv[i]? = some (some v) := by
  unfold lvL
  rw [List.mem_filterMap]
  constructor
  · rintro ⟨j, hj, h⟩
    cases h1 : lv[j]? with
    | none => rw [h1] at h; simp at h
    | some x =>
      cases x with
      | none => rw [h1] at h; simp at h
      | some y =>
        rw [h1] at h
        simp at h
        obtain ⟨rfl, rfl⟩ := h
        exact h1
  · intro h
    refine ⟨i, ?_, by rw [h]; rfl⟩
    rw [List.mem_range]
    exact (List.getElem?_eq_some_iff.mp h).1
/-- the locals that are known, by their places; the list is as long as the frame's locals -/
def lh (ls : Array Slot) (nL : Nat) (lv : List (Option Value)) : Prop := lv_has ls nL (lvL lv) ∧ lv.length = nL
theorem lh_at {ls : Array Slot} {nL : Nat} {lv : List (Option Value)} (h : lh ls nL lv) {i : Nat} {v : Value} (hv : lv[i]? = some (some v)) : ls[i]? = some (.val v) := h.1.2.2 (i, v) (lvL_mem.mpr hv)
def c2 (o : Option Value) : Bool := match o with
  | some v => v.category == 2
  | none => false
theorem lv_weak {ls : Array Slot} {nL : Nat} {l l' : List (Nat × Value)} (h : lv_has ls nL l) (hs : ∀ q ∈ l', q ∈ l) : lv_has ls nL l' := ⟨h.1, h.2.1, fun q hq => h.2.2 q (hs q hq)⟩
theorem lh_set1 {ls' : Array Slot} {nL i : Nat} {lv : List (Option Value)} {v : Value} (hlen : lv.length = nL) (hp : ∀ j, j + 1 = i → c2 (lv[j]?.join) = false) (h : lv_has ls' nL ((i, v) :: (lvL lv).filter (fun q => !(q.1 == i) && !(q.1 + 1 == i && q.2.category == 2)))) : lh ls' nL (lv.set i (some v)) := by
  refine ⟨lv_weak h ?_, by rw [List.length_set]; exact hlen⟩
  rintro ⟨j, x⟩ hq
  rw [lvL_mem] at hq
  by_cases hji : j = i
  · subst hji
    have hl : j < lv.length := by
      have := (List.getElem?_eq_some_iff.mp hq).1
      rwa [List.length_set] at this
    rw [List.getElem?_set_self hl] at hq
    cases hq
    exact List.mem_cons_self
  · rw [List.getElem?_set_ne (Ne.symm hji)] at hq
    refine List.mem_cons_of_mem _ (List.mem_filter.mpr ⟨lvL_mem.mpr hq, ?_⟩)
    simp only [Bool.and_eq_true, Bool.not_eq_true', Bool.and_eq_false_iff]
    refine ⟨by simpa using hji, ?_⟩
    by_cases hj1 : j + 1 = i
    · right
      have := hp j hj1
      rw [hq] at this
      simpa [c2] using this
    · left
      simpa using hj1
theorem lh_set2 {ls' : Array Slot} {nL i : Nat} {lv : List (Option Value)} {v : Value} (hlen : lv.length = nL) (hp : ∀ j, j + 1 = i → c2 (lv[j]?.join) = false) (h : lv_has ls' nL ((i, v) :: (lvL lv).filter (fun q => !(q.1 == i) && (!(q.1 == i + 1) && !(q.1 + 1 == i && q.2.category == 2))))) : lh ls' nL ((lv.set i (some v)).set (i + 1) none) := by
  refine ⟨lv_weak h ?_, by rw [List.length_set, List.length_set]; exact hlen⟩
  rintro ⟨j, x⟩ hq
  rw [lvL_mem] at hq
  by_cases hj2 : j = i + 1
  · subst hj2
    by_cases hl : i + 1 < (lv.set i (some v)).length
    · rw [List.getElem?_set_self hl] at hq
      cases hq
    · have := (List.getElem?_eq_some_iff.mp hq).1
      rw [List.length_set] at this
      exact absurd this hl
  · rw [List.getElem?_set_ne (Ne.symm hj2)] at hq
    by_cases hji : j = i
    · subst hji
      have hl : j < lv.length := by
        have := (List.getElem?_eq_some_iff.mp hq).1
        rwa [List.length_set] at this
      rw [List.getElem?_set_self hl] at hq
      cases hq
      exact List.mem_cons_self
    · rw [List.getElem?_set_ne (Ne.symm hji)] at hq
      refine List.mem_cons_of_mem _ (List.mem_filter.mpr ⟨lvL_mem.mpr hq, ?_⟩)
      simp only [Bool.and_eq_true, Bool.not_eq_true', Bool.and_eq_false_iff]
      refine ⟨by simpa using hji, by simpa using hj2, ?_⟩
      by_cases hj1 : j + 1 = i
      · right
        have := hp j hj1
        rw [hq] at this
        simpa [c2] using this
      · left
        simpa using hj1
/-! the judgement -/
abbrev CT : Type := Program × Launch × Env × Room × State × MethodId × Array Value × List Frame × Method × Code × va_G × (Nat → Prop) × (State → Prop)
abbrev GT : Type := va_G × ClassId × ClassId
def gK (g : GT) (s : State) : Prop := va_K g.1 vwCl [(g.2.1, .int), (g.2.2, .boolean)] s ∧ ∀ w ∈ NW, va_Nw w s
def vJ (X : CT) (cs sl : Nat) (w : va_W) (pc : Nat) (lv : List (Option Value)) (st : List Value) : Prop := match X with
  | (p, l, e, R, s, m, args, below, meth, c, D, A, Q) => ∀ (H : Heap) (locs : List Loc) (ls : Array Slot), va_P D vwCl w H → va_D A w → va_S A s.heap H locs → lh ls c.maxLocals lv → W p l e R s m args below meth c H locs cs sl Q (F0 m pc ls st)
def oK (X : CT) (l : Launch) (g : GT) (own : String) (cc : ByteArray) (R : Room) : Prop := match X with
  | (p, l', _, R', s, m, args, _, _, c, D, A, _) => l' = l ∧ R' = R ∧ D = g.1 ∧ p.tables.exec = Jvm.exec ∧ c.code = cc ∧ s.vm.findClass own = some m.cls ∧ (∀ w ∈ UW, w.before args s = true) ∧ gK g s ∧ (∀ q : Nat, s.heap.size ≤ q → A q)
def pS (X : CT) (ret : Option FieldType) (o : Option Value) (w' : va_W) (mc ms : Nat) : Prop := match X with
  | (_, _, _, _, s, _, args, below, meth, _, D, A, Q) => meth.sig.returnType = ret ∧ meth.locks = false ∧ Q = MQ below (fun _ st oc t => oc = .returned o ∧ va_P D vwCl w' t.heap ∧ va_F A st t) args s mc ms A
def gPre (g : GT) (sz : Nat) (w : va_W) (U : State) : Prop := U.heap.size = sz ∧ va_P g.1 vwCl w U.heap ∧ gK g U ∧ va_D (fun _ => True) w
/-- the contract: from arguments av and world w the method answers o, and the world is w' -/
def Cx (l : Launch) (g : GT) (y : MethodName) (cc : ByteArray) (maxL : Nat) (ret : Option FieldType) (rm : Room) (av : List Value) (w : va_W) (o : Option Value) (w' : va_W) : Prop :=
  ∀ sz : Nat, Met l y (.code y cc maxL ret :: UW) rm (va_Pc av (gPre g sz w)) (fun _ st oc t => oc = .returned o ∧ va_P g.1 vwCl w' t.heap ∧ va_F (va_A w sz) st t) 0 0 (va_A w sz)
def lvE (av : List Value) (n : Nat) : List (Option Value) :=
  let l : List (Option Value) := av.flatMap (fun v => if v.category = 2 then [some v, none] else [some v])
  l ++ List.replicate (n - l.length) none
theorem lvE_mem : ∀ (av : List Value) (k i : Nat) (v : Value), (av.flatMap (fun v => if v.category = 2 then [some v, none] else [some v]) : List (Option Value))[i]? = some (some v) → (k + i, v) ∈ lv_args k av := by
  intro av
  induction av with
  | nil => intro k i v h; simp at h
  | cons a l ih =>
    intro k i v h
    rw [List.flatMap_cons] at h
    by_cases hc : a.category = 2
    · rw [if_pos hc] at h
      match i, h with
      | 0, h =>
        have h : some (some a) = some (some v) := h
        cases h
        simp [lv_args]
      | 1, h => have h : some (none : Option Value) = some (some v) := h; cases h
      | i + 2, h =>
        have h : (l.flatMap (fun v => if v.category = 2 then [some v, none] else [some v]) : List (Option Value))[i]? = some (some v) := h
        have := ih (k + 2) i v h
        simp only [lv_args, hc]
        refine List.mem_cons_of_mem _ ?_
        have e : k + (i + 2) = k + 2 + i := by omega
        rw [e]
        exact this
    · have hc1 : a.category = 1 := by
        cases a <;> first | rfl | exact absurd rfl hc
      rw [if_neg hc] at h
      match i, h with
      | 0, h =>
        have h : some (some a) = some (some v) := h
        cases h
        simp [lv_args]
      | i + 1, h =>
        have h : (l.flatMap (fun v => if v.category = 2 then [some v, none] else [some v]) : List (Option Value))[i]? = some (some v) := h
        have := ih (k + 1) i v h
        simp only [lv_args, hc1]
        refine List.mem_cons_of_mem _ ?_
        have e : k + (i + 1) = k + 1 + i := by omega
        rw [e]
        exact this
theorem lg_len : ∀ av : List Value, (av.flatMap (fun v => if v.category = 2 then [some v, none] else [some v]) : List (Option Value)).length = (lg_sl av).length := by
  intro av
  induction av with
  | nil => rfl
  | cons a l ih =>
    simp only [lg_sl, List.flatMap_cons, List.length_append] at ih ⊢
    rw [ih]
    by_cases hc : a.category = 2
    · rw [if_pos hc, if_pos hc]; rfl
    · rw [if_neg hc, if_neg hc]; rfl
theorem lh_entry (av : List Value) {n : Nat} (h : (lg_sl av).length ≤ n) : lh ((lg_sl av ++ List.replicate (n - (lg_sl av).length) Slot.unset).toArray) n (lvE av n) := by
  have h0 := lv_entry av h
  refine ⟨lv_weak h0 ?_, ?_⟩
  · rintro ⟨i, v⟩ hq
    rw [lvL_mem] at hq
    unfold lvE at hq
    by_cases hl : i < (av.flatMap (fun v => if v.category = 2 then [some v, none] else [some v]) : List (Option Value)).length
    · rw [List.getElem?_append_left hl] at hq
      have := lvE_mem av 0 i v hq
      rwa [Nat.zero_add] at this
    · rw [List.getElem?_append_right (by omega)] at hq
      have := List.mem_of_getElem? hq
      have := List.eq_of_mem_replicate this
      cases this
  · unfold lvE
    rw [List.length_append, List.length_replicate, lg_len]
    omega
/-- a method's contract out of its walk -/
theorem meth {l : Launch} {g : GT} {own : String} {y : MethodName} {cc : ByteArray} {maxL : Nat} {ret : Option FieldType} {rm : Room} {av : List Value} {w : va_W} {o : Option Value} {w' : va_W} (hy : plainName y.cls = true) (ho : y.cls = own) (hsl : (lg_sl av).length ≤ maxL) (lv : List (Option Value)) (hlv : lvE av maxL = lv)
    (h : ∀ X : CT, oK X l g own cc rm → pS X ret o w' 0 0 → vJ X 0 0 w 0 lv []) : Cx l g y cc maxL ret rm av w o w' := by
  intro sz
  refine Met.ofW (cc := cc) (maxL := maxL) (ret := ret) hy rfl ?_
  intro p e s m args below meth c s₁ B hml hv
  obtain ⟨rfl, hsz, hP, hK, hD0⟩ := hv
  have hts := atoms_spec (ws := Cond.code y cc maxL ret :: UW) B.pre
  have hown : s.vm.findClass y.cls = some m.cls := findClass_of_methodNamed B.named
  subst hsz
  subst ho
  have hD := hD0.self (sz := s.heap.size)
  have hl := lh_entry av hsl
  rw [lg_entry_eq]
  subst hlv
  have h1 := h (p, l, e, rm, s, m, av.toArray, below, meth, c, g.1, va_A w s.heap.size, MQ below (fun _ st oc t => oc = .returned o ∧ va_P g.1 vwCl w' t.heap ∧ va_F (va_A w s.heap.size) st t) av.toArray s 0 0 (va_A w s.heap.size)) ⟨rfl, rfl, rfl, B.exec, B.bytes, hown, fun w hw => hts w (List.mem_cons_of_mem _ hw), hK, fun q hq => Or.inr hq⟩ ⟨B.returns, B.notSynchronized, rfl⟩
  exact h1 s.heap [] _ hP hD va_S.rf (by rw [hml]; exact hl)
