/-! decoded instructions, by what they do -/
def dR (cc : ByteArray) (pc : Nat) (i : Instr) (len nx : Nat) : Prop := decode cc pc = .ok (i, len) ∧ nx = pc + len
def dPu (own : String) (cc : ByteArray) (pc : Nat) (v : Int32) (nx : Nat) : Prop := (∃ n : Int, dR cc pc (.iconst n) 1 nx ∧ Int32.ofInt n = v) ∨ (∃ n : Int, dR cc pc (.bipush n) 2 nx ∧ (Int8.ofInt n).toInt32 = v) ∨ (∃ n : Int, dR cc pc (.sipush n) 3 nx ∧ (Int16.ofInt n).toInt32 = v) ∨ (∃ k : Nat, dR cc pc (.ldc k) 2 nx ∧ Cond.constant own k v ∈ UW) ∨ (∃ k : Nat, dR cc pc (.ldc_w k) 3 nx ∧ Cond.constant own k v ∈ UW)
def dPl (own : String) (cc : ByteArray) (pc : Nat) (v : Int64) (nx : Nat) : Prop := (∃ n : Fin 2, dR cc pc (.lconst n) 1 nx ∧ Int64.ofNat (n : Nat) = v) ∨ (∃ k : Nat, dR cc pc (.ldc2_w k) 3 nx ∧ Cond.constantLong own k v ∈ UW)
def dIl (cc : ByteArray) (pc i nx : Nat) : Prop := (∃ k : Fin 4, dR cc pc (.iload_n k) 1 nx ∧ (k : Nat) = i) ∨ dR cc pc (.iload i) 2 nx
def dAl (cc : ByteArray) (pc i nx : Nat) : Prop := (∃ k : Fin 4, dR cc pc (.aload_n k) 1 nx ∧ (k : Nat) = i) ∨ dR cc pc (.aload i) 2 nx
def dLl (cc : ByteArray) (pc i nx : Nat) : Prop := (∃ k : Fin 4, dR cc pc (.lload_n k) 1 nx ∧ (k : Nat) = i) ∨ dR cc pc (.lload i) 2 nx
def dIs (cc : ByteArray) (pc i nx : Nat) : Prop := (∃ k : Fin 4, dR cc pc (.istore_n k) 1 nx ∧ (k : Nat) = i) ∨ dR cc pc (.istore i) 2 nx
def dAs (cc : ByteArray) (pc i nx : Nat) : Prop := (∃ k : Fin 4, dR cc pc (.astore_n k) 1 nx ∧ (k : Nat) = i) ∨ dR cc pc (.astore i) 2 nx
def dLs (cc : ByteArray) (pc i nx : Nat) : Prop := (∃ k : Fin 4, dR cc pc (.lstore_n k) 1 nx ∧ (k : Nat) = i) ∨ dR cc pc (.lstore i) 2 nx
def dIn (cc : ByteArray) (pc i : Nat) (d : Int32) (nx : Nat) : Prop := ∃ n : Int, dR cc pc (.iinc i n) 3 nx ∧ Int32.ofInt n = d
def dIf (cc : ByteArray) (pc : Nat) (q : ClassFile.Cond) (tgt nx : Nat) : Prop := ∃ off : Int, dR cc pc (.ifCond q off) 3 nx ∧ (pc : Int) + off = (tgt : Int)
def dIc (cc : ByteArray) (pc : Nat) (q : ClassFile.Cond) (tgt nx : Nat) : Prop := ∃ off : Int, dR cc pc (.if_icmp q off) 3 nx ∧ (pc : Int) + off = (tgt : Int)
def dGo (cc : ByteArray) (pc tgt : Nat) : Prop := ∃ (off : Int) (nx : Nat), dR cc pc (.goto off) 3 nx ∧ (pc : Int) + off = (tgt : Int)
/-- a field by its link: the class's number and the slot -/
def fL (own : String) (idx ci k : Nat) : Prop := ∃ (C : String) (T : u_T) (N : Nat) (ty : Nat → FieldType), vwCl[ci]? = some (C, T, N) ∧ (∀ w ∈ u_ws C T N, w ∈ UW) ∧ k < N ∧ (Cond.fieldLink own idx (T k).1 (T k).2.1 (T k).2.2.1 ∈ UW ∨ ∃ host, Cond.fieldLinkNest own idx (T k).1 (T k).2.1 (T k).2.2.1 host ∈ NW) ∧ (∀ k, k < N → parseFieldDescriptor (T k).2.2.1 = some (ty k)) ∧ (∀ a, a < N → ∀ b, b < N → a ≠ b → (T a).2.1 ≠ (T b).2.1)
def dGf (own : String) (cc : ByteArray) (pc ci k nx : Nat) : Prop := ∃ idx : Nat, dR cc pc (.getfield idx) 3 nx ∧ fL own idx ci k
def fP (ci k : Nat) (ty : FieldType) : Prop := ∃ q : vw_C, vwCl[ci]? = some q ∧ (q.2.1 k).2.2.2 = false ∧ parseFieldDescriptor (q.2.1 k).2.2.1 = some ty
def dPf (own : String) (cc : ByteArray) (pc ci k : Nat) (ty : FieldType) (nx : Nat) : Prop := ∃ idx : Nat, dR cc pc (.putfield idx) 3 nx ∧ fL own idx ci k ∧ fP ci k ty
def kM (y : MethodName) (cc : ByteArray) (maxL : Nat) (ret : Option FieldType) (n : Nat) : Prop := Cond.code y cc maxL ret ∈ UW ∧ Cond.initialized y.cls ∈ UW ∧ y.cls ≠ "java/lang/invoke/MethodHandle" ∧ y.cls ≠ "java/lang/invoke/VarHandle" ∧ (parseMethodDescriptor y.desc).map (fun d => d.parameters.length) = some n
def kV (y : MethodName) (cc : ByteArray) (maxL : Nat) (ret : Option FieldType) (n ci : Nat) : Prop := kM y cc maxL ret n ∧ Cond.instanceMethod y ∈ UW ∧ Cond.selects y.cls y y ∈ UW ∧ ∃ q : vw_C, vwCl[ci]? = some q ∧ q.1 = y.cls
def kS (y : MethodName) (cc : ByteArray) (maxL : Nat) (ret : Option FieldType) (n : Nat) : Prop := kM y cc maxL ret n ∧ Cond.static y ∈ UW
def mL (own : String) (idx : Nat) (y : MethodName) : Prop := Cond.methodLink own idx y ∈ UW ∨ ∃ host, Cond.methodLinkNest own idx y host ∈ NW
def dIv (own : String) (cc : ByteArray) (pc : Nat) (y : MethodName) (nx : Nat) : Prop := ∃ idx : Nat, dR cc pc (.invokevirtual idx) 3 nx ∧ mL own idx y
def dSt (own : String) (cc : ByteArray) (pc : Nat) (y : MethodName) (nx : Nat) : Prop := ∃ idx : Nat, dR cc pc (.invokestatic idx) 3 nx ∧ mL own idx y

section rules
variable {X : CT} {l : Launch} {g : GT} {own : String} {cc : ByteArray} {R : Room} {cs sl : Nat} {w : va_W} {pc nx tgt : Nat} {lv : List (Option Value)} {st : List Value}
theorem r_iadd (hX : oK X l g own cc R) {x y : Int32} (hd : dR cc pc (.iadd) 1 nx)  (k : vJ X cs sl w nx lv (.int (x + y) :: st)) : vJ X cs sl w pc lv (.int y :: .int x :: st) := by
  obtain ⟨p, l', e, R', s, m, args, below, meth, c, D, A, Q⟩ := X
  obtain ⟨rfl, rfl, rfl, hx, hb, hown, hw, hK, hA⟩ := hX
  intro H locs ls hP hD hS hl
  obtain ⟨hd, rfl⟩ := hd
  exact lv_iadd hx hb hd (k H locs ls hP hD hS hl)
theorem r_isub (hX : oK X l g own cc R) {x y : Int32} (hd : dR cc pc (.isub) 1 nx)  (k : vJ X cs sl w nx lv (.int (x - y) :: st)) : vJ X cs sl w pc lv (.int y :: .int x :: st) := by
  obtain ⟨p, l', e, R', s, m, args, below, meth, c, D, A, Q⟩ := X
  obtain ⟨rfl, rfl, rfl, hx, hb, hown, hw, hK, hA⟩ := hX
  intro H locs ls hP hD hS hl
  obtain ⟨hd, rfl⟩ := hd
  exact lv_isub hx hb hd (k H locs ls hP hD hS hl)
theorem r_imul (hX : oK X l g own cc R) {x y : Int32} (hd : dR cc pc (.imul) 1 nx)  (k : vJ X cs sl w nx lv (.int (x * y) :: st)) : vJ X cs sl w pc lv (.int y :: .int x :: st) := by
  obtain ⟨p, l', e, R', s, m, args, below, meth, c, D, A, Q⟩ := X
  obtain ⟨rfl, rfl, rfl, hx, hb, hown, hw, hK, hA⟩ := hX
  intro H locs ls hP hD hS hl
  obtain ⟨hd, rfl⟩ := hd
  exact lv_imul hx hb hd (k H locs ls hP hD hS hl)
theorem r_iand (hX : oK X l g own cc R) {x y : Int32} (hd : dR cc pc (.iand) 1 nx)  (k : vJ X cs sl w nx lv (.int (x &&& y) :: st)) : vJ X cs sl w pc lv (.int y :: .int x :: st) := by
  obtain ⟨p, l', e, R', s, m, args, below, meth, c, D, A, Q⟩ := X
  obtain ⟨rfl, rfl, rfl, hx, hb, hown, hw, hK, hA⟩ := hX
  intro H locs ls hP hD hS hl
  obtain ⟨hd, rfl⟩ := hd
  exact lv_iand hx hb hd (k H locs ls hP hD hS hl)
theorem r_ior (hX : oK X l g own cc R) {x y : Int32} (hd : dR cc pc (.ior) 1 nx)  (k : vJ X cs sl w nx lv (.int (x ||| y) :: st)) : vJ X cs sl w pc lv (.int y :: .int x :: st) := by
  obtain ⟨p, l', e, R', s, m, args, below, meth, c, D, A, Q⟩ := X
  obtain ⟨rfl, rfl, rfl, hx, hb, hown, hw, hK, hA⟩ := hX
  intro H locs ls hP hD hS hl
  obtain ⟨hd, rfl⟩ := hd
  exact lv_ior hx hb hd (k H locs ls hP hD hS hl)
theorem r_ixor (hX : oK X l g own cc R) {x y : Int32} (hd : dR cc pc (.ixor) 1 nx)  (k : vJ X cs sl w nx lv (.int (x ^^^ y) :: st)) : vJ X cs sl w pc lv (.int y :: .int x :: st) := by
  obtain ⟨p, l', e, R', s, m, args, below, meth, c, D, A, Q⟩ := X
  obtain ⟨rfl, rfl, rfl, hx, hb, hown, hw, hK, hA⟩ := hX
  intro H locs ls hP hD hS hl
  obtain ⟨hd, rfl⟩ := hd
  exact lv_ixor hx hb hd (k H locs ls hP hD hS hl)
theorem r_ishl (hX : oK X l g own cc R) {x y : Int32} (hd : dR cc pc (.ishl) 1 nx)  (k : vJ X cs sl w nx lv (.int (x <<< (y &&& 31)) :: st)) : vJ X cs sl w pc lv (.int y :: .int x :: st) := by
  obtain ⟨p, l', e, R', s, m, args, below, meth, c, D, A, Q⟩ := X
  obtain ⟨rfl, rfl, rfl, hx, hb, hown, hw, hK, hA⟩ := hX
  intro H locs ls hP hD hS hl
  obtain ⟨hd, rfl⟩ := hd
  exact lv_ishl hx hb hd (k H locs ls hP hD hS hl)
theorem r_ishr (hX : oK X l g own cc R) {x y : Int32} (hd : dR cc pc (.ishr) 1 nx)  (k : vJ X cs sl w nx lv (.int (x >>> (y &&& 31)) :: st)) : vJ X cs sl w pc lv (.int y :: .int x :: st) := by
  obtain ⟨p, l', e, R', s, m, args, below, meth, c, D, A, Q⟩ := X
  obtain ⟨rfl, rfl, rfl, hx, hb, hown, hw, hK, hA⟩ := hX
  intro H locs ls hP hD hS hl
  obtain ⟨hd, rfl⟩ := hd
  exact lv_ishr hx hb hd (k H locs ls hP hD hS hl)
theorem r_idiv (hX : oK X l g own cc R) {x y : Int32} (hd : dR cc pc (.idiv) 1 nx) (hne : ¬ y = 0) (k : vJ X cs sl w nx lv (.int (x / y) :: st)) : vJ X cs sl w pc lv (.int y :: .int x :: st) := by
  obtain ⟨p, l', e, R', s, m, args, below, meth, c, D, A, Q⟩ := X
  obtain ⟨rfl, rfl, rfl, hx, hb, hown, hw, hK, hA⟩ := hX
  intro H locs ls hP hD hS hl
  obtain ⟨hd, rfl⟩ := hd
  exact lv_idiv hx hb hd hne (k H locs ls hP hD hS hl)
theorem r_irem (hX : oK X l g own cc R) {x y : Int32} (hd : dR cc pc (.irem) 1 nx) (hne : ¬ y = 0) (k : vJ X cs sl w nx lv (.int (x - x / y * y) :: st)) : vJ X cs sl w pc lv (.int y :: .int x :: st) := by
  obtain ⟨p, l', e, R', s, m, args, below, meth, c, D, A, Q⟩ := X
  obtain ⟨rfl, rfl, rfl, hx, hb, hown, hw, hK, hA⟩ := hX
  intro H locs ls hP hD hS hl
  obtain ⟨hd, rfl⟩ := hd
  exact lv_irem hx hb hd hne (k H locs ls hP hD hS hl)
theorem r_ladd (hX : oK X l g own cc R) {x y : Int64} (hd : dR cc pc (.ladd) 1 nx)  (k : vJ X cs sl w nx lv (.long (x + y) :: st)) : vJ X cs sl w pc lv (.long y :: .long x :: st) := by
  obtain ⟨p, l', e, R', s, m, args, below, meth, c, D, A, Q⟩ := X
  obtain ⟨rfl, rfl, rfl, hx, hb, hown, hw, hK, hA⟩ := hX
  intro H locs ls hP hD hS hl
  obtain ⟨hd, rfl⟩ := hd
  exact lv_ladd hx hb hd (k H locs ls hP hD hS hl)
theorem r_lmul (hX : oK X l g own cc R) {x y : Int64} (hd : dR cc pc (.lmul) 1 nx)  (k : vJ X cs sl w nx lv (.long (x * y) :: st)) : vJ X cs sl w pc lv (.long y :: .long x :: st) := by
  obtain ⟨p, l', e, R', s, m, args, below, meth, c, D, A, Q⟩ := X
  obtain ⟨rfl, rfl, rfl, hx, hb, hown, hw, hK, hA⟩ := hX
  intro H locs ls hP hD hS hl
  obtain ⟨hd, rfl⟩ := hd
  exact lv_lmul hx hb hd (k H locs ls hP hD hS hl)
theorem r_land (hX : oK X l g own cc R) {x y : Int64} (hd : dR cc pc (.land) 1 nx)  (k : vJ X cs sl w nx lv (.long (x &&& y) :: st)) : vJ X cs sl w pc lv (.long y :: .long x :: st) := by
  obtain ⟨p, l', e, R', s, m, args, below, meth, c, D, A, Q⟩ := X
  obtain ⟨rfl, rfl, rfl, hx, hb, hown, hw, hK, hA⟩ := hX
  intro H locs ls hP hD hS hl
  obtain ⟨hd, rfl⟩ := hd
  exact lv_land hx hb hd (k H locs ls hP hD hS hl)
theorem r_ldiv (hX : oK X l g own cc R) {x y : Int64} (hd : dR cc pc (.ldiv) 1 nx) (hne : ¬ y = 0) (k : vJ X cs sl w nx lv (.long (x / y) :: st)) : vJ X cs sl w pc lv (.long y :: .long x :: st) := by
  obtain ⟨p, l', e, R', s, m, args, below, meth, c, D, A, Q⟩ := X
  obtain ⟨rfl, rfl, rfl, hx, hb, hown, hw, hK, hA⟩ := hX
  intro H locs ls hP hD hS hl
  obtain ⟨hd, rfl⟩ := hd
  exact lv_ldiv hx hb hd hne (k H locs ls hP hD hS hl)
theorem r_lrem (hX : oK X l g own cc R) {x y : Int64} (hd : dR cc pc (.lrem) 1 nx) (hne : ¬ y = 0) (k : vJ X cs sl w nx lv (.long (x - x / y * y) :: st)) : vJ X cs sl w pc lv (.long y :: .long x :: st) := by
  obtain ⟨p, l', e, R', s, m, args, below, meth, c, D, A, Q⟩ := X
  obtain ⟨rfl, rfl, rfl, hx, hb, hown, hw, hK, hA⟩ := hX
  intro H locs ls hP hD hS hl
  obtain ⟨hd, rfl⟩ := hd
  exact lv_lrem hx hb hd hne (k H locs ls hP hD hS hl)
theorem r_lcmp (hX : oK X l g own cc R) {x y : Int64} (hd : dR cc pc (.lcmp) 1 nx)  (k : vJ X cs sl w nx lv (.int (lg_cmp x y) :: st)) : vJ X cs sl w pc lv (.long y :: .long x :: st) := by
  obtain ⟨p, l', e, R', s, m, args, below, meth, c, D, A, Q⟩ := X
  obtain ⟨rfl, rfl, rfl, hx, hb, hown, hw, hK, hA⟩ := hX
  intro H locs ls hP hD hS hl
  obtain ⟨hd, rfl⟩ := hd
  exact W.lcmp hx hb hd (k H locs ls hP hD hS hl)
theorem r_ineg (hX : oK X l g own cc R) {x : Int32} (hd : dR cc pc (.ineg) 1 nx)  (k : vJ X cs sl w nx lv (.int (-x) :: st)) : vJ X cs sl w pc lv (.int x :: st) := by
  obtain ⟨p, l', e, R', s, m, args, below, meth, c, D, A, Q⟩ := X
  obtain ⟨rfl, rfl, rfl, hx, hb, hown, hw, hK, hA⟩ := hX
  intro H locs ls hP hD hS hl
  obtain ⟨hd, rfl⟩ := hd
  exact lv_ineg hx hb hd (k H locs ls hP hD hS hl)
theorem r_i2l (hX : oK X l g own cc R) {x : Int32} (hd : dR cc pc (.i2l) 1 nx)  (k : vJ X cs sl w nx lv (.long x.toInt64 :: st)) : vJ X cs sl w pc lv (.int x :: st) := by
  obtain ⟨p, l', e, R', s, m, args, below, meth, c, D, A, Q⟩ := X
  obtain ⟨rfl, rfl, rfl, hx, hb, hown, hw, hK, hA⟩ := hX
  intro H locs ls hP hD hS hl
  obtain ⟨hd, rfl⟩ := hd
  exact lv_i2l hx hb hd rfl (k H locs ls hP hD hS hl)
theorem r_l2i (hX : oK X l g own cc R) {x : Int64} (hd : dR cc pc (.l2i) 1 nx)  (k : vJ X cs sl w nx lv (.int x.toInt32 :: st)) : vJ X cs sl w pc lv (.long x :: st) := by
  obtain ⟨p, l', e, R', s, m, args, below, meth, c, D, A, Q⟩ := X
  obtain ⟨rfl, rfl, rfl, hx, hb, hown, hw, hK, hA⟩ := hX
  intro H locs ls hP hD hS hl
  obtain ⟨hd, rfl⟩ := hd
  exact lv_l2i hx hb hd rfl (k H locs ls hP hD hS hl)
theorem r_dup (hX : oK X l g own cc R) {va : Value} (hd : dR cc pc (.dup) 1 nx) (hva : va.category = 1) (k : vJ X cs sl w nx lv (va :: va :: st)) : vJ X cs sl w pc lv (va :: st) := by
  obtain ⟨p, l', e, R', s, m, args, below, meth, c, D, A, Q⟩ := X
  obtain ⟨rfl, rfl, rfl, hx, hb, hown, hw, hK, hA⟩ := hX
  intro H locs ls hP hD hS hl
  obtain ⟨hd, rfl⟩ := hd
  exact lv_dup hx hb hd hva (k H locs ls hP hD hS hl)
theorem r_dup2 (hX : oK X l g own cc R) {va vb : Value} (hd : dR cc pc (.dup2) 1 nx) (hva : va.category = 1) (hvb : vb.category = 1) (k : vJ X cs sl w nx lv (va :: vb :: va :: vb :: st)) : vJ X cs sl w pc lv (va :: vb :: st) := by
  obtain ⟨p, l', e, R', s, m, args, below, meth, c, D, A, Q⟩ := X
  obtain ⟨rfl, rfl, rfl, hx, hb, hown, hw, hK, hA⟩ := hX
  intro H locs ls hP hD hS hl
  obtain ⟨hd, rfl⟩ := hd
  exact lv_dup2_11 hx hb hd hva hvb (k H locs ls hP hD hS hl)
theorem r_push (hX : oK X l g own cc R) {v : Int32} (hd : dPu own cc pc v nx) (k : vJ X cs sl w nx lv (.int v :: st)) : vJ X cs sl w pc lv st := by
  obtain ⟨p, l', e, R', s, m, args, below, meth, c, D, A, Q⟩ := X
  obtain ⟨rfl, rfl, rfl, hx, hb, hown, hw, hK, hA⟩ := hX
  intro H locs ls hP hD hS hl
  rcases hd with ⟨n, ⟨hd, rfl⟩, hv⟩ | ⟨n, ⟨hd, rfl⟩, hv⟩ | ⟨n, ⟨hd, rfl⟩, hv⟩ | ⟨n, ⟨hd, rfl⟩, hv⟩ | ⟨n, ⟨hd, rfl⟩, hv⟩
  · exact lv_iconst hx hb hd hv (k H locs ls hP hD hS hl)
  · exact lv_bipush hx hb hd hv (k H locs ls hP hD hS hl)
  · exact lv_sipush hx hb hd hv (k H locs ls hP hD hS hl)
  · exact lv_ldc hx hb hown (hw _ hv) hd (k H locs ls hP hD hS hl)
  · exact lv_ldcw hx hb hown (hw _ hv) hd (k H locs ls hP hD hS hl)
theorem r_pushl (hX : oK X l g own cc R) {v : Int64} (hd : dPl own cc pc v nx) (k : vJ X cs sl w nx lv (.long v :: st)) : vJ X cs sl w pc lv st := by
  obtain ⟨p, l', e, R', s, m, args, below, meth, c, D, A, Q⟩ := X
  obtain ⟨rfl, rfl, rfl, hx, hb, hown, hw, hK, hA⟩ := hX
  intro H locs ls hP hD hS hl
  rcases hd with ⟨n, ⟨hd, rfl⟩, hv⟩ | ⟨n, ⟨hd, rfl⟩, hv⟩
  · exact lv_lconst hx hb hd hv (k H locs ls hP hD hS hl)
  · exact lv_ldc2 hx hb hown (hw _ hv) hd (k H locs ls hP hD hS hl)
theorem r_iload (hX : oK X l g own cc R) {i : Nat} {x : Int32} (hd : dIl cc pc i nx) (hv : lv[i]? = some (some (.int x))) (k : vJ X cs sl w nx lv (.int x :: st)) : vJ X cs sl w pc lv st := by
  obtain ⟨p, l', e, R', s, m, args, below, meth, c, D, A, Q⟩ := X
  obtain ⟨rfl, rfl, rfl, hx, hb, hown, hw, hK, hA⟩ := hX
  intro H locs ls hP hD hS hl
  rcases hd with ⟨n, ⟨hd, rfl⟩, hi⟩ | ⟨hd, rfl⟩
  · exact lv_iload_n hx hb hd hi (lh_at hl hv) (k H locs ls hP hD hS hl)
  · exact lv_iload hx hb hd (lh_at hl hv) (k H locs ls hP hD hS hl)
theorem r_aload (hX : oK X l g own cc R) {i : Nat} {x : Nat} (hd : dAl cc pc i nx) (hv : lv[i]? = some (some (.ref x))) (k : vJ X cs sl w nx lv (.ref x :: st)) : vJ X cs sl w pc lv st := by
  obtain ⟨p, l', e, R', s, m, args, below, meth, c, D, A, Q⟩ := X
  obtain ⟨rfl, rfl, rfl, hx, hb, hown, hw, hK, hA⟩ := hX
  intro H locs ls hP hD hS hl
  rcases hd with ⟨n, ⟨hd, rfl⟩, hi⟩ | ⟨hd, rfl⟩
  · exact lv_aload_n hx hb hd hi (lh_at hl hv) (k H locs ls hP hD hS hl)
  · exact lv_aload hx hb hd (lh_at hl hv) (k H locs ls hP hD hS hl)
theorem r_lload (hX : oK X l g own cc R) {i : Nat} {x : Int64} (hd : dLl cc pc i nx) (hv : lv[i]? = some (some (.long x))) (k : vJ X cs sl w nx lv (.long x :: st)) : vJ X cs sl w pc lv st := by
  obtain ⟨p, l', e, R', s, m, args, below, meth, c, D, A, Q⟩ := X
  obtain ⟨rfl, rfl, rfl, hx, hb, hown, hw, hK, hA⟩ := hX
  intro H locs ls hP hD hS hl
  rcases hd with ⟨n, ⟨hd, rfl⟩, hi⟩ | ⟨hd, rfl⟩
  · exact lv_lload_n hx hb hd hi (lh_at hl hv) (k H locs ls hP hD hS hl)
  · exact lv_lload hx hb hd (lh_at hl hv) (k H locs ls hP hD hS hl)
theorem r_istore (hX : oK X l g own cc R) {i : Nat} {x : Int32} (hd : dIs cc pc i nx) (hi : i < lv.length) (hc : ∀ j, j + 1 = i → c2 (lv[j]?.join) = false) (k : vJ X cs sl w nx (lv.set i (some (.int x))) st) : vJ X cs sl w pc lv (.int x :: st) := by
  obtain ⟨p, l', e, R', s, m, args, below, meth, c, D, A, Q⟩ := X
  obtain ⟨rfl, rfl, rfl, hx, hb, hown, hw, hK, hA⟩ := hX
  intro H locs ls hP hD hS hl
  rcases hd with ⟨n, ⟨hd, rfl⟩, he⟩ | ⟨hd, rfl⟩
  · exact lv_istore_n hx hb hd he hl.1 (by rw [← hl.2]; exact hi) rfl (fun ls' hl' => k H locs ls' hP hD hS (lh_set1 hl.2 hc hl'))
  · exact lv_istore hx hb hd hl.1 (by rw [← hl.2]; exact hi) rfl (fun ls' hl' => k H locs ls' hP hD hS (lh_set1 hl.2 hc hl'))
theorem r_astore (hX : oK X l g own cc R) {i : Nat} {x : Nat} (hd : dAs cc pc i nx) (hi : i < lv.length) (hc : ∀ j, j + 1 = i → c2 (lv[j]?.join) = false) (k : vJ X cs sl w nx (lv.set i (some (.ref x))) st) : vJ X cs sl w pc lv (.ref x :: st) := by
  obtain ⟨p, l', e, R', s, m, args, below, meth, c, D, A, Q⟩ := X
  obtain ⟨rfl, rfl, rfl, hx, hb, hown, hw, hK, hA⟩ := hX
  intro H locs ls hP hD hS hl
  rcases hd with ⟨n, ⟨hd, rfl⟩, he⟩ | ⟨hd, rfl⟩
  · exact lv_astore_n hx hb hd he hl.1 (by rw [← hl.2]; exact hi) rfl (fun ls' hl' => k H locs ls' hP hD hS (lh_set1 hl.2 hc hl'))
  · exact lv_astore hx hb hd hl.1 (by rw [← hl.2]; exact hi) rfl (fun ls' hl' => k H locs ls' hP hD hS (lh_set1 hl.2 hc hl'))
theorem r_lstore (hX : oK X l g own cc R) {i : Nat} {x : Int64} (hd : dLs cc pc i nx) (hi : i + 1 < lv.length) (hc : ∀ j, j + 1 = i → c2 (lv[j]?.join) = false) (k : vJ X cs sl w nx ((lv.set i (some (.long x))).set (i + 1) none) st) : vJ X cs sl w pc lv (.long x :: st) := by
  obtain ⟨p, l', e, R', s, m, args, below, meth, c, D, A, Q⟩ := X
  obtain ⟨rfl, rfl, rfl, hx, hb, hown, hw, hK, hA⟩ := hX
  intro H locs ls hP hD hS hl
  rcases hd with ⟨n, ⟨hd, rfl⟩, he⟩ | ⟨hd, rfl⟩
  · exact lv_lstore_n hx hb hd he hl.1 (by rw [← hl.2]; exact hi) rfl (fun ls' hl' => k H locs ls' hP hD hS (lh_set2 hl.2 hc hl'))
  · exact lv_lstore hx hb hd hl.1 (by rw [← hl.2]; exact hi) rfl (fun ls' hl' => k H locs ls' hP hD hS (lh_set2 hl.2 hc hl'))
theorem r_iinc (hX : oK X l g own cc R) {i : Nat} {x d : Int32} (hd : dIn cc pc i d nx) (hi : lv[i]? = some (some (.int x))) (hc : ∀ j, j + 1 = i → c2 (lv[j]?.join) = false) (k : vJ X cs sl w nx (lv.set i (some (.int (x + d)))) st) : vJ X cs sl w pc lv st := by
  obtain ⟨p, l', e, R', s, m, args, below, meth, c, D, A, Q⟩ := X
  obtain ⟨rfl, rfl, rfl, hx, hb, hown, hw, hK, hA⟩ := hX
  intro H locs ls hP hD hS hl
  obtain ⟨n, ⟨hd, rfl⟩, rfl⟩ := hd
  obtain ⟨q, hq⟩ := List.getElem?_of_mem (lvL_mem.mpr hi)
  exact lv_iinc hx hb hd hl.1 hq rfl (by rw [← hl.2]; exact (List.getElem?_eq_some_iff.mp hi).1) rfl (fun ls' hl' => k H locs ls' hP hD hS (lh_set1 hl.2 hc hl'))
theorem r_iload0 (hX : oK X l g own cc R) {z : List (Option Value)} {x : Int32} (hd : dIl cc pc 0 nx) (k : vJ X cs sl w nx (some (.int x) :: z) (.int x :: st)) : vJ X cs sl w pc (some (.int x) :: z) st := r_iload hX hd rfl k
theorem r_aload0 (hX : oK X l g own cc R) {z : List (Option Value)} {x : Nat} (hd : dAl cc pc 0 nx) (k : vJ X cs sl w nx (some (.ref x) :: z) (.ref x :: st)) : vJ X cs sl w pc (some (.ref x) :: z) st := r_aload hX hd rfl k
theorem r_lload0 (hX : oK X l g own cc R) {z : List (Option Value)} {x : Int64} (hd : dLl cc pc 0 nx) (k : vJ X cs sl w nx (some (.long x) :: z) (.long x :: st)) : vJ X cs sl w pc (some (.long x) :: z) st := r_lload hX hd rfl k
theorem r_istore0 (hX : oK X l g own cc R) {b : Option Value} {z : List (Option Value)} {x : Int32} (hd : dIs cc pc 0 nx) (k : vJ X cs sl w nx (some (.int x) :: z) st) : vJ X cs sl w pc (b :: z) (.int x :: st) := r_istore hX hd (by simp only [List.length_cons]; omega) (fun j hj => by omega) k
theorem r_astore0 (hX : oK X l g own cc R) {b : Option Value} {z : List (Option Value)} {x : Nat} (hd : dAs cc pc 0 nx) (k : vJ X cs sl w nx (some (.ref x) :: z) st) : vJ X cs sl w pc (b :: z) (.ref x :: st) := r_astore hX hd (by simp only [List.length_cons]; omega) (fun j hj => by omega) k
theorem r_iinc0 (hX : oK X l g own cc R) {z : List (Option Value)} {x d : Int32} (hd : dIn cc pc 0 d nx) (k : vJ X cs sl w nx (some (.int (x + d)) :: z) st) : vJ X cs sl w pc (some (.int x) :: z) st := r_iinc hX hd rfl (fun j hj => by omega) k
theorem r_lstore0 (hX : oK X l g own cc R) {b d : Option Value} {z : List (Option Value)} {x : Int64} (hd : dLs cc pc 0 nx) (k : vJ X cs sl w nx (some (.long x) :: none :: z) st) : vJ X cs sl w pc (b :: d :: z) (.long x :: st) := r_lstore hX hd (by simp only [List.length_cons]; omega) (fun j hj => by omega) k
theorem r_iload1 (hX : oK X l g own cc R) {a0 : Option Value} {z : List (Option Value)} {x : Int32} (hd : dIl cc pc 1 nx) (k : vJ X cs sl w nx (a0 :: some (.int x) :: z) (.int x :: st)) : vJ X cs sl w pc (a0 :: some (.int x) :: z) st := r_iload hX hd rfl k
theorem r_aload1 (hX : oK X l g own cc R) {a0 : Option Value} {z : List (Option Value)} {x : Nat} (hd : dAl cc pc 1 nx) (k : vJ X cs sl w nx (a0 :: some (.ref x) :: z) (.ref x :: st)) : vJ X cs sl w pc (a0 :: some (.ref x) :: z) st := r_aload hX hd rfl k
theorem r_lload1 (hX : oK X l g own cc R) {a0 : Option Value} {z : List (Option Value)} {x : Int64} (hd : dLl cc pc 1 nx) (k : vJ X cs sl w nx (a0 :: some (.long x) :: z) (.long x :: st)) : vJ X cs sl w pc (a0 :: some (.long x) :: z) st := r_lload hX hd rfl k
theorem r_istore1 (hX : oK X l g own cc R) {a0 : Option Value} {b : Option Value} {z : List (Option Value)} {x : Int32} (hd : dIs cc pc 1 nx) (hc : c2 a0 = false) (k : vJ X cs sl w nx (a0 :: some (.int x) :: z) st) : vJ X cs sl w pc (a0 :: b :: z) (.int x :: st) := r_istore hX hd (by simp only [List.length_cons]; omega) (fun j hj => by have e : j = 0 := (by omega); subst e; exact hc) k
theorem r_astore1 (hX : oK X l g own cc R) {a0 : Option Value} {b : Option Value} {z : List (Option Value)} {x : Nat} (hd : dAs cc pc 1 nx) (hc : c2 a0 = false) (k : vJ X cs sl w nx (a0 :: some (.ref x) :: z) st) : vJ X cs sl w pc (a0 :: b :: z) (.ref x :: st) := r_astore hX hd (by simp only [List.length_cons]; omega) (fun j hj => by have e : j = 0 := (by omega); subst e; exact hc) k
theorem r_iinc1 (hX : oK X l g own cc R) {a0 : Option Value} {z : List (Option Value)} {x d : Int32} (hd : dIn cc pc 1 d nx) (hc : c2 a0 = false) (k : vJ X cs sl w nx (a0 :: some (.int (x + d)) :: z) st) : vJ X cs sl w pc (a0 :: some (.int x) :: z) st := r_iinc hX hd rfl (fun j hj => by have e : j = 0 := (by omega); subst e; exact hc) k
theorem r_lstore1 (hX : oK X l g own cc R) {a0 : Option Value} {b d : Option Value} {z : List (Option Value)} {x : Int64} (hd : dLs cc pc 1 nx) (hc : c2 a0 = false) (k : vJ X cs sl w nx (a0 :: some (.long x) :: none :: z) st) : vJ X cs sl w pc (a0 :: b :: d :: z) (.long x :: st) := r_lstore hX hd (by simp only [List.length_cons]; omega) (fun j hj => by have e : j = 0 := (by omega); subst e; exact hc) k
theorem r_iload2 (hX : oK X l g own cc R) {a0 a1 : Option Value} {z : List (Option Value)} {x : Int32} (hd : dIl cc pc 2 nx) (k : vJ X cs sl w nx (a0 :: a1 :: some (.int x) :: z) (.int x :: st)) : vJ X cs sl w pc (a0 :: a1 :: some (.int x) :: z) st := r_iload hX hd rfl k
theorem r_aload2 (hX : oK X l g own cc R) {a0 a1 : Option Value} {z : List (Option Value)} {x : Nat} (hd : dAl cc pc 2 nx) (k : vJ X cs sl w nx (a0 :: a1 :: some (.ref x) :: z) (.ref x :: st)) : vJ X cs sl w pc (a0 :: a1 :: some (.ref x) :: z) st := r_aload hX hd rfl k
theorem r_lload2 (hX : oK X l g own cc R) {a0 a1 : Option Value} {z : List (Option Value)} {x : Int64} (hd : dLl cc pc 2 nx) (k : vJ X cs sl w nx (a0 :: a1 :: some (.long x) :: z) (.long x :: st)) : vJ X cs sl w pc (a0 :: a1 :: some (.long x) :: z) st := r_lload hX hd rfl k
theorem r_istore2 (hX : oK X l g own cc R) {a0 a1 : Option Value} {b : Option Value} {z : List (Option Value)} {x : Int32} (hd : dIs cc pc 2 nx) (hc : c2 a1 = false) (k : vJ X cs sl w nx (a0 :: a1 :: some (.int x) :: z) st) : vJ X cs sl w pc (a0 :: a1 :: b :: z) (.int x :: st) := r_istore hX hd (by simp only [List.length_cons]; omega) (fun j hj => by have e : j = 1 := (by omega); subst e; exact hc) k
theorem r_astore2 (hX : oK X l g own cc R) {a0 a1 : Option Value} {b : Option Value} {z : List (Option Value)} {x : Nat} (hd : dAs cc pc 2 nx) (hc : c2 a1 = false) (k : vJ X cs sl w nx (a0 :: a1 :: some (.ref x) :: z) st) : vJ X cs sl w pc (a0 :: a1 :: b :: z) (.ref x :: st) := r_astore hX hd (by simp only [List.length_cons]; omega) (fun j hj => by have e : j = 1 := (by omega); subst e; exact hc) k
theorem r_iinc2 (hX : oK X l g own cc R) {a0 a1 : Option Value} {z : List (Option Value)} {x d : Int32} (hd : dIn cc pc 2 d nx) (hc : c2 a1 = false) (k : vJ X cs sl w nx (a0 :: a1 :: some (.int (x + d)) :: z) st) : vJ X cs sl w pc (a0 :: a1 :: some (.int x) :: z) st := r_iinc hX hd rfl (fun j hj => by have e : j = 1 := (by omega); subst e; exact hc) k
theorem r_lstore2 (hX : oK X l g own cc R) {a0 a1 : Option Value} {b d : Option Value} {z : List (Option Value)} {x : Int64} (hd : dLs cc pc 2 nx) (hc : c2 a1 = false) (k : vJ X cs sl w nx (a0 :: a1 :: some (.long x) :: none :: z) st) : vJ X cs sl w pc (a0 :: a1 :: b :: d :: z) (.long x :: st) := r_lstore hX hd (by simp only [List.length_cons]; omega) (fun j hj => by have e : j = 1 := (by omega); subst e; exact hc) k
theorem r_iload3 (hX : oK X l g own cc R) {a0 a1 a2 : Option Value} {z : List (Option Value)} {x : Int32} (hd : dIl cc pc 3 nx) (k : vJ X cs sl w nx (a0 :: a1 :: a2 :: some (.int x) :: z) (.int x :: st)) : vJ X cs sl w pc (a0 :: a1 :: a2 :: some (.int x) :: z) st := r_iload hX hd rfl k
theorem r_aload3 (hX : oK X l g own cc R) {a0 a1 a2 : Option Value} {z : List (Option Value)} {x : Nat} (hd : dAl cc pc 3 nx) (k : vJ X cs sl w nx (a0 :: a1 :: a2 :: some (.ref x) :: z) (.ref x :: st)) : vJ X cs sl w pc (a0 :: a1 :: a2 :: some (.ref x) :: z) st := r_aload hX hd rfl k
theorem r_lload3 (hX : oK X l g own cc R) {a0 a1 a2 : Option Value} {z : List (Option Value)} {x : Int64} (hd : dLl cc pc 3 nx) (k : vJ X cs sl w nx (a0 :: a1 :: a2 :: some (.long x) :: z) (.long x :: st)) : vJ X cs sl w pc (a0 :: a1 :: a2 :: some (.long x) :: z) st := r_lload hX hd rfl k
theorem r_istore3 (hX : oK X l g own cc R) {a0 a1 a2 : Option Value} {b : Option Value} {z : List (Option Value)} {x : Int32} (hd : dIs cc pc 3 nx) (hc : c2 a2 = false) (k : vJ X cs sl w nx (a0 :: a1 :: a2 :: some (.int x) :: z) st) : vJ X cs sl w pc (a0 :: a1 :: a2 :: b :: z) (.int x :: st) := r_istore hX hd (by simp only [List.length_cons]; omega) (fun j hj => by have e : j = 2 := (by omega); subst e; exact hc) k
theorem r_astore3 (hX : oK X l g own cc R) {a0 a1 a2 : Option Value} {b : Option Value} {z : List (Option Value)} {x : Nat} (hd : dAs cc pc 3 nx) (hc : c2 a2 = false) (k : vJ X cs sl w nx (a0 :: a1 :: a2 :: some (.ref x) :: z) st) : vJ X cs sl w pc (a0 :: a1 :: a2 :: b :: z) (.ref x :: st) := r_astore hX hd (by simp only [List.length_cons]; omega) (fun j hj => by have e : j = 2 := (by omega); subst e; exact hc) k
theorem r_iinc3 (hX : oK X l g own cc R) {a0 a1 a2 : Option Value} {z : List (Option Value)} {x d : Int32} (hd : dIn cc pc 3 d nx) (hc : c2 a2 = false) (k : vJ X cs sl w nx (a0 :: a1 :: a2 :: some (.int (x + d)) :: z) st) : vJ X cs sl w pc (a0 :: a1 :: a2 :: some (.int x) :: z) st := r_iinc hX hd rfl (fun j hj => by have e : j = 2 := (by omega); subst e; exact hc) k
theorem r_lstore3 (hX : oK X l g own cc R) {a0 a1 a2 : Option Value} {b d : Option Value} {z : List (Option Value)} {x : Int64} (hd : dLs cc pc 3 nx) (hc : c2 a2 = false) (k : vJ X cs sl w nx (a0 :: a1 :: a2 :: some (.long x) :: none :: z) st) : vJ X cs sl w pc (a0 :: a1 :: a2 :: b :: d :: z) (.long x :: st) := r_lstore hX hd (by simp only [List.length_cons]; omega) (fun j hj => by have e : j = 2 := (by omega); subst e; exact hc) k
theorem r_iload4 (hX : oK X l g own cc R) {a0 a1 a2 a3 : Option Value} {z : List (Option Value)} {x : Int32} (hd : dIl cc pc 4 nx) (k : vJ X cs sl w nx (a0 :: a1 :: a2 :: a3 :: some (.int x) :: z) (.int x :: st)) : vJ X cs sl w pc (a0 :: a1 :: a2 :: a3 :: some (.int x) :: z) st := r_iload hX hd rfl k
theorem r_aload4 (hX : oK X l g own cc R) {a0 a1 a2 a3 : Option Value} {z : List (Option Value)} {x : Nat} (hd : dAl cc pc 4 nx) (k : vJ X cs sl w nx (a0 :: a1 :: a2 :: a3 :: some (.ref x) :: z) (.ref x :: st)) : vJ X cs sl w pc (a0 :: a1 :: a2 :: a3 :: some (.ref x) :: z) st := r_aload hX hd rfl k
theorem r_lload4 (hX : oK X l g own cc R) {a0 a1 a2 a3 : Option Value} {z : List (Option Value)} {x : Int64} (hd : dLl cc pc 4 nx) (k : vJ X cs sl w nx (a0 :: a1 :: a2 :: a3 :: some (.long x) :: z) (.long x :: st)) : vJ X cs sl w pc (a0 :: a1 :: a2 :: a3 :: some (.long x) :: z) st := r_lload hX hd rfl k
theorem r_istore4 (hX : oK X l g own cc R) {a0 a1 a2 a3 : Option Value} {b : Option Value} {z : List (Option Value)} {x : Int32} (hd : dIs cc pc 4 nx) (hc : c2 a3 = false) (k : vJ X cs sl w nx (a0 :: a1 :: a2 :: a3 :: some (.int x) :: z) st) : vJ X cs sl w pc (a0 :: a1 :: a2 :: a3 :: b :: z) (.int x :: st) := r_istore hX hd (by simp only [List.length_cons]; omega) (fun j hj => by have e : j = 3 := (by omega); subst e; exact hc) k
theorem r_astore4 (hX : oK X l g own cc R) {a0 a1 a2 a3 : Option Value} {b : Option Value} {z : List (Option Value)} {x : Nat} (hd : dAs cc pc 4 nx) (hc : c2 a3 = false) (k : vJ X cs sl w nx (a0 :: a1 :: a2 :: a3 :: some (.ref x) :: z) st) : vJ X cs sl w pc (a0 :: a1 :: a2 :: a3 :: b :: z) (.ref x :: st) := r_astore hX hd (by simp only [List.length_cons]; omega) (fun j hj => by have e : j = 3 := (by omega); subst e; exact hc) k
theorem r_iinc4 (hX : oK X l g own cc R) {a0 a1 a2 a3 : Option Value} {z : List (Option Value)} {x d : Int32} (hd : dIn cc pc 4 d nx) (hc : c2 a3 = false) (k : vJ X cs sl w nx (a0 :: a1 :: a2 :: a3 :: some (.int (x + d)) :: z) st) : vJ X cs sl w pc (a0 :: a1 :: a2 :: a3 :: some (.int x) :: z) st := r_iinc hX hd rfl (fun j hj => by have e : j = 3 := (by omega); subst e; exact hc) k
theorem r_lstore4 (hX : oK X l g own cc R) {a0 a1 a2 a3 : Option Value} {b d : Option Value} {z : List (Option Value)} {x : Int64} (hd : dLs cc pc 4 nx) (hc : c2 a3 = false) (k : vJ X cs sl w nx (a0 :: a1 :: a2 :: a3 :: some (.long x) :: none :: z) st) : vJ X cs sl w pc (a0 :: a1 :: a2 :: a3 :: b :: d :: z) (.long x :: st) := r_lstore hX hd (by simp only [List.length_cons]; omega) (fun j hj => by have e : j = 3 := (by omega); subst e; exact hc) k
theorem r_iload5 (hX : oK X l g own cc R) {a0 a1 a2 a3 a4 : Option Value} {z : List (Option Value)} {x : Int32} (hd : dIl cc pc 5 nx) (k : vJ X cs sl w nx (a0 :: a1 :: a2 :: a3 :: a4 :: some (.int x) :: z) (.int x :: st)) : vJ X cs sl w pc (a0 :: a1 :: a2 :: a3 :: a4 :: some (.int x) :: z) st := r_iload hX hd rfl k
theorem r_aload5 (hX : oK X l g own cc R) {a0 a1 a2 a3 a4 : Option Value} {z : List (Option Value)} {x : Nat} (hd : dAl cc pc 5 nx) (k : vJ X cs sl w nx (a0 :: a1 :: a2 :: a3 :: a4 :: some (.ref x) :: z) (.ref x :: st)) : vJ X cs sl w pc (a0 :: a1 :: a2 :: a3 :: a4 :: some (.ref x) :: z) st := r_aload hX hd rfl k
theorem r_lload5 (hX : oK X l g own cc R) {a0 a1 a2 a3 a4 : Option Value} {z : List (Option Value)} {x : Int64} (hd : dLl cc pc 5 nx) (k : vJ X cs sl w nx (a0 :: a1 :: a2 :: a3 :: a4 :: some (.long x) :: z) (.long x :: st)) : vJ X cs sl w pc (a0 :: a1 :: a2 :: a3 :: a4 :: some (.long x) :: z) st := r_lload hX hd rfl k
theorem r_istore5 (hX : oK X l g own cc R) {a0 a1 a2 a3 a4 : Option Value} {b : Option Value} {z : List (Option Value)} {x : Int32} (hd : dIs cc pc 5 nx) (hc : c2 a4 = false) (k : vJ X cs sl w nx (a0 :: a1 :: a2 :: a3 :: a4 :: some (.int x) :: z) st) : vJ X cs sl w pc (a0 :: a1 :: a2 :: a3 :: a4 :: b :: z) (.int x :: st) := r_istore hX hd (by simp only [List.length_cons]; omega) (fun j hj => by have e : j = 4 := (by omega); subst e; exact hc) k
theorem r_astore5 (hX : oK X l g own cc R) {a0 a1 a2 a3 a4 : Option Value} {b : Option Value} {z : List (Option Value)} {x : Nat} (hd : dAs cc pc 5 nx) (hc : c2 a4 = false) (k : vJ X cs sl w nx (a0 :: a1 :: a2 :: a3 :: a4 :: some (.ref x) :: z) st) : vJ X cs sl w pc (a0 :: a1 :: a2 :: a3 :: a4 :: b :: z) (.ref x :: st) := r_astore hX hd (by simp only [List.length_cons]; omega) (fun j hj => by have e : j = 4 := (by omega); subst e; exact hc) k
theorem r_iinc5 (hX : oK X l g own cc R) {a0 a1 a2 a3 a4 : Option Value} {z : List (Option Value)} {x d : Int32} (hd : dIn cc pc 5 d nx) (hc : c2 a4 = false) (k : vJ X cs sl w nx (a0 :: a1 :: a2 :: a3 :: a4 :: some (.int (x + d)) :: z) st) : vJ X cs sl w pc (a0 :: a1 :: a2 :: a3 :: a4 :: some (.int x) :: z) st := r_iinc hX hd rfl (fun j hj => by have e : j = 4 := (by omega); subst e; exact hc) k
theorem r_lstore5 (hX : oK X l g own cc R) {a0 a1 a2 a3 a4 : Option Value} {b d : Option Value} {z : List (Option Value)} {x : Int64} (hd : dLs cc pc 5 nx) (hc : c2 a4 = false) (k : vJ X cs sl w nx (a0 :: a1 :: a2 :: a3 :: a4 :: some (.long x) :: none :: z) st) : vJ X cs sl w pc (a0 :: a1 :: a2 :: a3 :: a4 :: b :: d :: z) (.long x :: st) := r_lstore hX hd (by simp only [List.length_cons]; omega) (fun j hj => by have e : j = 4 := (by omega); subst e; exact hc) k
theorem r_iload6 (hX : oK X l g own cc R) {a0 a1 a2 a3 a4 a5 : Option Value} {z : List (Option Value)} {x : Int32} (hd : dIl cc pc 6 nx) (k : vJ X cs sl w nx (a0 :: a1 :: a2 :: a3 :: a4 :: a5 :: some (.int x) :: z) (.int x :: st)) : vJ X cs sl w pc (a0 :: a1 :: a2 :: a3 :: a4 :: a5 :: some (.int x) :: z) st := r_iload hX hd rfl k
theorem r_aload6 (hX : oK X l g own cc R) {a0 a1 a2 a3 a4 a5 : Option Value} {z : List (Option Value)} {x : Nat} (hd : dAl cc pc 6 nx) (k : vJ X cs sl w nx (a0 :: a1 :: a2 :: a3 :: a4 :: a5 :: some (.ref x) :: z) (.ref x :: st)) : vJ X cs sl w pc (a0 :: a1 :: a2 :: a3 :: a4 :: a5 :: some (.ref x) :: z) st := r_aload hX hd rfl k
theorem r_lload6 (hX : oK X l g own cc R) {a0 a1 a2 a3 a4 a5 : Option Value} {z : List (Option Value)} {x : Int64} (hd : dLl cc pc 6 nx) (k : vJ X cs sl w nx (a0 :: a1 :: a2 :: a3 :: a4 :: a5 :: some (.long x) :: z) (.long x :: st)) : vJ X cs sl w pc (a0 :: a1 :: a2 :: a3 :: a4 :: a5 :: some (.long x) :: z) st := r_lload hX hd rfl k
theorem r_istore6 (hX : oK X l g own cc R) {a0 a1 a2 a3 a4 a5 : Option Value} {b : Option Value} {z : List (Option Value)} {x : Int32} (hd : dIs cc pc 6 nx) (hc : c2 a5 = false) (k : vJ X cs sl w nx (a0 :: a1 :: a2 :: a3 :: a4 :: a5 :: some (.int x) :: z) st) : vJ X cs sl w pc (a0 :: a1 :: a2 :: a3 :: a4 :: a5 :: b :: z) (.int x :: st) := r_istore hX hd (by simp only [List.length_cons]; omega) (fun j hj => by have e : j = 5 := (by omega); subst e; exact hc) k
theorem r_astore6 (hX : oK X l g own cc R) {a0 a1 a2 a3 a4 a5 : Option Value} {b : Option Value} {z : List (Option Value)} {x : Nat} (hd : dAs cc pc 6 nx) (hc : c2 a5 = false) (k : vJ X cs sl w nx (a0 :: a1 :: a2 :: a3 :: a4 :: a5 :: some (.ref x) :: z) st) : vJ X cs sl w pc (a0 :: a1 :: a2 :: a3 :: a4 :: a5 :: b :: z) (.ref x :: st) := r_astore hX hd (by simp only [List.length_cons]; omega) (fun j hj => by have e : j = 5 := (by omega); subst e; exact hc) k
theorem r_iinc6 (hX : oK X l g own cc R) {a0 a1 a2 a3 a4 a5 : Option Value} {z : List (Option Value)} {x d : Int32} (hd : dIn cc pc 6 d nx) (hc : c2 a5 = false) (k : vJ X cs sl w nx (a0 :: a1 :: a2 :: a3 :: a4 :: a5 :: some (.int (x + d)) :: z) st) : vJ X cs sl w pc (a0 :: a1 :: a2 :: a3 :: a4 :: a5 :: some (.int x) :: z) st := r_iinc hX hd rfl (fun j hj => by have e : j = 5 := (by omega); subst e; exact hc) k
theorem r_lstore6 (hX : oK X l g own cc R) {a0 a1 a2 a3 a4 a5 : Option Value} {b d : Option Value} {z : List (Option Value)} {x : Int64} (hd : dLs cc pc 6 nx) (hc : c2 a5 = false) (k : vJ X cs sl w nx (a0 :: a1 :: a2 :: a3 :: a4 :: a5 :: some (.long x) :: none :: z) st) : vJ X cs sl w pc (a0 :: a1 :: a2 :: a3 :: a4 :: a5 :: b :: d :: z) (.long x :: st) := r_lstore hX hd (by simp only [List.length_cons]; omega) (fun j hj => by have e : j = 5 := (by omega); subst e; exact hc) k
theorem r_iload7 (hX : oK X l g own cc R) {a0 a1 a2 a3 a4 a5 a6 : Option Value} {z : List (Option Value)} {x : Int32} (hd : dIl cc pc 7 nx) (k : vJ X cs sl w nx (a0 :: a1 :: a2 :: a3 :: a4 :: a5 :: a6 :: some (.int x) :: z) (.int x :: st)) : vJ X cs sl w pc (a0 :: a1 :: a2 :: a3 :: a4 :: a5 :: a6 :: some (.int x) :: z) st := r_iload hX hd rfl k
theorem r_aload7 (hX : oK X l g own cc R) {a0 a1 a2 a3 a4 a5 a6 : Option Value} {z : List (Option Value)} {x : Nat} (hd : dAl cc pc 7 nx) (k : vJ X cs sl w nx (a0 :: a1 :: a2 :: a3 :: a4 :: a5 :: a6 :: some (.ref x) :: z) (.ref x :: st)) : vJ X cs sl w pc (a0 :: a1 :: a2 :: a3 :: a4 :: a5 :: a6 :: some (.ref x) :: z) st := r_aload hX hd rfl k
theorem r_lload7 (hX : oK X l g own cc R) {a0 a1 a2 a3 a4 a5 a6 : Option Value} {z : List (Option Value)} {x : Int64} (hd : dLl cc pc 7 nx) (k : vJ X cs sl w nx (a0 :: a1 :: a2 :: a3 :: a4 :: a5 :: a6 :: some (.long x) :: z) (.long x :: st)) : vJ X cs sl w pc (a0 :: a1 :: a2 :: a3 :: a4 :: a5 :: a6 :: some (.long x) :: z) st := r_lload hX hd rfl k
theorem r_istore7 (hX : oK X l g own cc R) {a0 a1 a2 a3 a4 a5 a6 : Option Value} {b : Option Value} {z : List (Option Value)} {x : Int32} (hd : dIs cc pc 7 nx) (hc : c2 a6 = false) (k : vJ X cs sl w nx (a0 :: a1 :: a2 :: a3 :: a4 :: a5 :: a6 :: some (.int x) :: z) st) : vJ X cs sl w pc (a0 :: a1 :: a2 :: a3 :: a4 :: a5 :: a6 :: b :: z) (.int x :: st) := r_istore hX hd (by simp only [List.length_cons]; omega) (fun j hj => by have e : j = 6 := (by omega); subst e; exact hc) k
theorem r_astore7 (hX : oK X l g own cc R) {a0 a1 a2 a3 a4 a5 a6 : Option Value} {b : Option Value} {z : List (Option Value)} {x : Nat} (hd : dAs cc pc 7 nx) (hc : c2 a6 = false) (k : vJ X cs sl w nx (a0 :: a1 :: a2 :: a3 :: a4 :: a5 :: a6 :: some (.ref x) :: z) st) : vJ X cs sl w pc (a0 :: a1 :: a2 :: a3 :: a4 :: a5 :: a6 :: b :: z) (.ref x :: st) := r_astore hX hd (by simp only [List.length_cons]; omega) (fun j hj => by have e : j = 6 := (by omega); subst e; exact hc) k
theorem r_iinc7 (hX : oK X l g own cc R) {a0 a1 a2 a3 a4 a5 a6 : Option Value} {z : List (Option Value)} {x d : Int32} (hd : dIn cc pc 7 d nx) (hc : c2 a6 = false) (k : vJ X cs sl w nx (a0 :: a1 :: a2 :: a3 :: a4 :: a5 :: a6 :: some (.int (x + d)) :: z) st) : vJ X cs sl w pc (a0 :: a1 :: a2 :: a3 :: a4 :: a5 :: a6 :: some (.int x) :: z) st := r_iinc hX hd rfl (fun j hj => by have e : j = 6 := (by omega); subst e; exact hc) k
theorem r_lstore7 (hX : oK X l g own cc R) {a0 a1 a2 a3 a4 a5 a6 : Option Value} {b d : Option Value} {z : List (Option Value)} {x : Int64} (hd : dLs cc pc 7 nx) (hc : c2 a6 = false) (k : vJ X cs sl w nx (a0 :: a1 :: a2 :: a3 :: a4 :: a5 :: a6 :: some (.long x) :: none :: z) st) : vJ X cs sl w pc (a0 :: a1 :: a2 :: a3 :: a4 :: a5 :: a6 :: b :: d :: z) (.long x :: st) := r_lstore hX hd (by simp only [List.length_cons]; omega) (fun j hj => by have e : j = 6 := (by omega); subst e; exact hc) k
theorem r_iload8 (hX : oK X l g own cc R) {a0 a1 a2 a3 a4 a5 a6 a7 : Option Value} {z : List (Option Value)} {x : Int32} (hd : dIl cc pc 8 nx) (k : vJ X cs sl w nx (a0 :: a1 :: a2 :: a3 :: a4 :: a5 :: a6 :: a7 :: some (.int x) :: z) (.int x :: st)) : vJ X cs sl w pc (a0 :: a1 :: a2 :: a3 :: a4 :: a5 :: a6 :: a7 :: some (.int x) :: z) st := r_iload hX hd rfl k
theorem r_aload8 (hX : oK X l g own cc R) {a0 a1 a2 a3 a4 a5 a6 a7 : Option Value} {z : List (Option Value)} {x : Nat} (hd : dAl cc pc 8 nx) (k : vJ X cs sl w nx (a0 :: a1 :: a2 :: a3 :: a4 :: a5 :: a6 :: a7 :: some (.ref x) :: z) (.ref x :: st)) : vJ X cs sl w pc (a0 :: a1 :: a2 :: a3 :: a4 :: a5 :: a6 :: a7 :: some (.ref x) :: z) st := r_aload hX hd rfl k
theorem r_lload8 (hX : oK X l g own cc R) {a0 a1 a2 a3 a4 a5 a6 a7 : Option Value} {z : List (Option Value)} {x : Int64} (hd : dLl cc pc 8 nx) (k : vJ X cs sl w nx (a0 :: a1 :: a2 :: a3 :: a4 :: a5 :: a6 :: a7 :: some (.long x) :: z) (.long x :: st)) : vJ X cs sl w pc (a0 :: a1 :: a2 :: a3 :: a4 :: a5 :: a6 :: a7 :: some (.long x) :: z) st := r_lload hX hd rfl k
theorem r_istore8 (hX : oK X l g own cc R) {a0 a1 a2 a3 a4 a5 a6 a7 : Option Value} {b : Option Value} {z : List (Option Value)} {x : Int32} (hd : dIs cc pc 8 nx) (hc : c2 a7 = false) (k : vJ X cs sl w nx (a0 :: a1 :: a2 :: a3 :: a4 :: a5 :: a6 :: a7 :: some (.int x) :: z) st) : vJ X cs sl w pc (a0 :: a1 :: a2 :: a3 :: a4 :: a5 :: a6 :: a7 :: b :: z) (.int x :: st) := r_istore hX hd (by simp only [List.length_cons]; omega) (fun j hj => by have e : j = 7 := (by omega); subst e; exact hc) k
theorem r_astore8 (hX : oK X l g own cc R) {a0 a1 a2 a3 a4 a5 a6 a7 : Option Value} {b : Option Value} {z : List (Option Value)} {x : Nat} (hd : dAs cc pc 8 nx) (hc : c2 a7 = false) (k : vJ X cs sl w nx (a0 :: a1 :: a2 :: a3 :: a4 :: a5 :: a6 :: a7 :: some (.ref x) :: z) st) : vJ X cs sl w pc (a0 :: a1 :: a2 :: a3 :: a4 :: a5 :: a6 :: a7 :: b :: z) (.ref x :: st) := r_astore hX hd (by simp only [List.length_cons]; omega) (fun j hj => by have e : j = 7 := (by omega); subst e; exact hc) k
theorem r_iinc8 (hX : oK X l g own cc R) {a0 a1 a2 a3 a4 a5 a6 a7 : Option Value} {z : List (Option Value)} {x d : Int32} (hd : dIn cc pc 8 d nx) (hc : c2 a7 = false) (k : vJ X cs sl w nx (a0 :: a1 :: a2 :: a3 :: a4 :: a5 :: a6 :: a7 :: some (.int (x + d)) :: z) st) : vJ X cs sl w pc (a0 :: a1 :: a2 :: a3 :: a4 :: a5 :: a6 :: a7 :: some (.int x) :: z) st := r_iinc hX hd rfl (fun j hj => by have e : j = 7 := (by omega); subst e; exact hc) k
theorem r_lstore8 (hX : oK X l g own cc R) {a0 a1 a2 a3 a4 a5 a6 a7 : Option Value} {b d : Option Value} {z : List (Option Value)} {x : Int64} (hd : dLs cc pc 8 nx) (hc : c2 a7 = false) (k : vJ X cs sl w nx (a0 :: a1 :: a2 :: a3 :: a4 :: a5 :: a6 :: a7 :: some (.long x) :: none :: z) st) : vJ X cs sl w pc (a0 :: a1 :: a2 :: a3 :: a4 :: a5 :: a6 :: a7 :: b :: d :: z) (.long x :: st) := r_lstore hX hd (by simp only [List.length_cons]; omega) (fun j hj => by have e : j = 7 := (by omega); subst e; exact hc) k
theorem r_iload9 (hX : oK X l g own cc R) {a0 a1 a2 a3 a4 a5 a6 a7 a8 : Option Value} {z : List (Option Value)} {x : Int32} (hd : dIl cc pc 9 nx) (k : vJ X cs sl w nx (a0 :: a1 :: a2 :: a3 :: a4 :: a5 :: a6 :: a7 :: a8 :: some (.int x) :: z) (.int x :: st)) : vJ X cs sl w pc (a0 :: a1 :: a2 :: a3 :: a4 :: a5 :: a6 :: a7 :: a8 :: some (.int x) :: z) st := r_iload hX hd rfl k
theorem r_aload9 (hX : oK X l g own cc R) {a0 a1 a2 a3 a4 a5 a6 a7 a8 : Option Value} {z : List (Option Value)} {x : Nat} (hd : dAl cc pc 9 nx) (k : vJ X cs sl w nx (a0 :: a1 :: a2 :: a3 :: a4 :: a5 :: a6 :: a7 :: a8 :: some (.ref x) :: z) (.ref x :: st)) : vJ X cs sl w pc (a0 :: a1 :: a2 :: a3 :: a4 :: a5 :: a6 :: a7 :: a8 :: some (.ref x) :: z) st := r_aload hX hd rfl k
theorem r_lload9 (hX : oK X l g own cc R) {a0 a1 a2 a3 a4 a5 a6 a7 a8 : Option Value} {z : List (Option Value)} {x : Int64} (hd : dLl cc pc 9 nx) (k : vJ X cs sl w nx (a0 :: a1 :: a2 :: a3 :: a4 :: a5 :: a6 :: a7 :: a8 :: some (.long x) :: z) (.long x :: st)) : vJ X cs sl w pc (a0 :: a1 :: a2 :: a3 :: a4 :: a5 :: a6 :: a7 :: a8 :: some (.long x) :: z) st := r_lload hX hd rfl k
theorem r_istore9 (hX : oK X l g own cc R) {a0 a1 a2 a3 a4 a5 a6 a7 a8 : Option Value} {b : Option Value} {z : List (Option Value)} {x : Int32} (hd : dIs cc pc 9 nx) (hc : c2 a8 = false) (k : vJ X cs sl w nx (a0 :: a1 :: a2 :: a3 :: a4 :: a5 :: a6 :: a7 :: a8 :: some (.int x) :: z) st) : vJ X cs sl w pc (a0 :: a1 :: a2 :: a3 :: a4 :: a5 :: a6 :: a7 :: a8 :: b :: z) (.int x :: st) := r_istore hX hd (by simp only [List.length_cons]; omega) (fun j hj => by have e : j = 8 := (by omega); subst e; exact hc) k
theorem r_astore9 (hX : oK X l g own cc R) {a0 a1 a2 a3 a4 a5 a6 a7 a8 : Option Value} {b : Option Value} {z : List (Option Value)} {x : Nat} (hd : dAs cc pc 9 nx) (hc : c2 a8 = false) (k : vJ X cs sl w nx (a0 :: a1 :: a2 :: a3 :: a4 :: a5 :: a6 :: a7 :: a8 :: some (.ref x) :: z) st) : vJ X cs sl w pc (a0 :: a1 :: a2 :: a3 :: a4 :: a5 :: a6 :: a7 :: a8 :: b :: z) (.ref x :: st) := r_astore hX hd (by simp only [List.length_cons]; omega) (fun j hj => by have e : j = 8 := (by omega); subst e; exact hc) k
theorem r_iinc9 (hX : oK X l g own cc R) {a0 a1 a2 a3 a4 a5 a6 a7 a8 : Option Value} {z : List (Option Value)} {x d : Int32} (hd : dIn cc pc 9 d nx) (hc : c2 a8 = false) (k : vJ X cs sl w nx (a0 :: a1 :: a2 :: a3 :: a4 :: a5 :: a6 :: a7 :: a8 :: some (.int (x + d)) :: z) st) : vJ X cs sl w pc (a0 :: a1 :: a2 :: a3 :: a4 :: a5 :: a6 :: a7 :: a8 :: some (.int x) :: z) st := r_iinc hX hd rfl (fun j hj => by have e : j = 8 := (by omega); subst e; exact hc) k
theorem r_lstore9 (hX : oK X l g own cc R) {a0 a1 a2 a3 a4 a5 a6 a7 a8 : Option Value} {b d : Option Value} {z : List (Option Value)} {x : Int64} (hd : dLs cc pc 9 nx) (hc : c2 a8 = false) (k : vJ X cs sl w nx (a0 :: a1 :: a2 :: a3 :: a4 :: a5 :: a6 :: a7 :: a8 :: some (.long x) :: none :: z) st) : vJ X cs sl w pc (a0 :: a1 :: a2 :: a3 :: a4 :: a5 :: a6 :: a7 :: a8 :: b :: d :: z) (.long x :: st) := r_lstore hX hd (by simp only [List.length_cons]; omega) (fun j hj => by have e : j = 8 := (by omega); subst e; exact hc) k
theorem r_iload10 (hX : oK X l g own cc R) {a0 a1 a2 a3 a4 a5 a6 a7 a8 a9 : Option Value} {z : List (Option Value)} {x : Int32} (hd : dIl cc pc 10 nx) (k : vJ X cs sl w nx (a0 :: a1 :: a2 :: a3 :: a4 :: a5 :: a6 :: a7 :: a8 :: a9 :: some (.int x) :: z) (.int x :: st)) : vJ X cs sl w pc (a0 :: a1 :: a2 :: a3 :: a4 :: a5 :: a6 :: a7 :: a8 :: a9 :: some (.int x) :: z) st := r_iload hX hd rfl k
theorem r_aload10 (hX : oK X l g own cc R) {a0 a1 a2 a3 a4 a5 a6 a7 a8 a9 : Option Value} {z : List (Option Value)} {x : Nat} (hd : dAl cc pc 10 nx) (k : vJ X cs sl w nx (a0 :: a1 :: a2 :: a3 :: a4 :: a5 :: a6 :: a7 :: a8 :: a9 :: some (.ref x) :: z) (.ref x :: st)) : vJ X cs sl w pc (a0 :: a1 :: a2 :: a3 :: a4 :: a5 :: a6 :: a7 :: a8 :: a9 :: some (.ref x) :: z) st := r_aload hX hd rfl k
theorem r_lload10 (hX : oK X l g own cc R) {a0 a1 a2 a3 a4 a5 a6 a7 a8 a9 : Option Value} {z : List (Option Value)} {x : Int64} (hd : dLl cc pc 10 nx) (k : vJ X cs sl w nx (a0 :: a1 :: a2 :: a3 :: a4 :: a5 :: a6 :: a7 :: a8 :: a9 :: some (.long x) :: z) (.long x :: st)) : vJ X cs sl w pc (a0 :: a1 :: a2 :: a3 :: a4 :: a5 :: a6 :: a7 :: a8 :: a9 :: some (.long x) :: z) st := r_lload hX hd rfl k
theorem r_istore10 (hX : oK X l g own cc R) {a0 a1 a2 a3 a4 a5 a6 a7 a8 a9 : Option Value} {b : Option Value} {z : List (Option Value)} {x : Int32} (hd : dIs cc pc 10 nx) (hc : c2 a9 = false) (k : vJ X cs sl w nx (a0 :: a1 :: a2 :: a3 :: a4 :: a5 :: a6 :: a7 :: a8 :: a9 :: some (.int x) :: z) st) : vJ X cs sl w pc (a0 :: a1 :: a2 :: a3 :: a4 :: a5 :: a6 :: a7 :: a8 :: a9 :: b :: z) (.int x :: st) := r_istore hX hd (by simp only [List.length_cons]; omega) (fun j hj => by have e : j = 9 := (by omega); subst e; exact hc) k
theorem r_astore10 (hX : oK X l g own cc R) {a0 a1 a2 a3 a4 a5 a6 a7 a8 a9 : Option Value} {b : Option Value} {z : List (Option Value)} {x : Nat} (hd : dAs cc pc 10 nx) (hc : c2 a9 = false) (k : vJ X cs sl w nx (a0 :: a1 :: a2 :: a3 :: a4 :: a5 :: a6 :: a7 :: a8 :: a9 :: some (.ref x) :: z) st) : vJ X cs sl w pc (a0 :: a1 :: a2 :: a3 :: a4 :: a5 :: a6 :: a7 :: a8 :: a9 :: b :: z) (.ref x :: st) := r_astore hX hd (by simp only [List.length_cons]; omega) (fun j hj => by have e : j = 9 := (by omega); subst e; exact hc) k
theorem r_iinc10 (hX : oK X l g own cc R) {a0 a1 a2 a3 a4 a5 a6 a7 a8 a9 : Option Value} {z : List (Option Value)} {x d : Int32} (hd : dIn cc pc 10 d nx) (hc : c2 a9 = false) (k : vJ X cs sl w nx (a0 :: a1 :: a2 :: a3 :: a4 :: a5 :: a6 :: a7 :: a8 :: a9 :: some (.int (x + d)) :: z) st) : vJ X cs sl w pc (a0 :: a1 :: a2 :: a3 :: a4 :: a5 :: a6 :: a7 :: a8 :: a9 :: some (.int x) :: z) st := r_iinc hX hd rfl (fun j hj => by have e : j = 9 := (by omega); subst e; exact hc) k
theorem r_iload11 (hX : oK X l g own cc R) {a0 a1 a2 a3 a4 a5 a6 a7 a8 a9 a10 : Option Value} {z : List (Option Value)} {x : Int32} (hd : dIl cc pc 11 nx) (k : vJ X cs sl w nx (a0 :: a1 :: a2 :: a3 :: a4 :: a5 :: a6 :: a7 :: a8 :: a9 :: a10 :: some (.int x) :: z) (.int x :: st)) : vJ X cs sl w pc (a0 :: a1 :: a2 :: a3 :: a4 :: a5 :: a6 :: a7 :: a8 :: a9 :: a10 :: some (.int x) :: z) st := r_iload hX hd rfl k
theorem r_aload11 (hX : oK X l g own cc R) {a0 a1 a2 a3 a4 a5 a6 a7 a8 a9 a10 : Option Value} {z : List (Option Value)} {x : Nat} (hd : dAl cc pc 11 nx) (k : vJ X cs sl w nx (a0 :: a1 :: a2 :: a3 :: a4 :: a5 :: a6 :: a7 :: a8 :: a9 :: a10 :: some (.ref x) :: z) (.ref x :: st)) : vJ X cs sl w pc (a0 :: a1 :: a2 :: a3 :: a4 :: a5 :: a6 :: a7 :: a8 :: a9 :: a10 :: some (.ref x) :: z) st := r_aload hX hd rfl k
theorem r_lload11 (hX : oK X l g own cc R) {a0 a1 a2 a3 a4 a5 a6 a7 a8 a9 a10 : Option Value} {z : List (Option Value)} {x : Int64} (hd : dLl cc pc 11 nx) (k : vJ X cs sl w nx (a0 :: a1 :: a2 :: a3 :: a4 :: a5 :: a6 :: a7 :: a8 :: a9 :: a10 :: some (.long x) :: z) (.long x :: st)) : vJ X cs sl w pc (a0 :: a1 :: a2 :: a3 :: a4 :: a5 :: a6 :: a7 :: a8 :: a9 :: a10 :: some (.long x) :: z) st := r_lload hX hd rfl k
theorem r_istore11 (hX : oK X l g own cc R) {a0 a1 a2 a3 a4 a5 a6 a7 a8 a9 a10 : Option Value} {b : Option Value} {z : List (Option Value)} {x : Int32} (hd : dIs cc pc 11 nx) (hc : c2 a10 = false) (k : vJ X cs sl w nx (a0 :: a1 :: a2 :: a3 :: a4 :: a5 :: a6 :: a7 :: a8 :: a9 :: a10 :: some (.int x) :: z) st) : vJ X cs sl w pc (a0 :: a1 :: a2 :: a3 :: a4 :: a5 :: a6 :: a7 :: a8 :: a9 :: a10 :: b :: z) (.int x :: st) := r_istore hX hd (by simp only [List.length_cons]; omega) (fun j hj => by have e : j = 10 := (by omega); subst e; exact hc) k
theorem r_astore11 (hX : oK X l g own cc R) {a0 a1 a2 a3 a4 a5 a6 a7 a8 a9 a10 : Option Value} {b : Option Value} {z : List (Option Value)} {x : Nat} (hd : dAs cc pc 11 nx) (hc : c2 a10 = false) (k : vJ X cs sl w nx (a0 :: a1 :: a2 :: a3 :: a4 :: a5 :: a6 :: a7 :: a8 :: a9 :: a10 :: some (.ref x) :: z) st) : vJ X cs sl w pc (a0 :: a1 :: a2 :: a3 :: a4 :: a5 :: a6 :: a7 :: a8 :: a9 :: a10 :: b :: z) (.ref x :: st) := r_astore hX hd (by simp only [List.length_cons]; omega) (fun j hj => by have e : j = 10 := (by omega); subst e; exact hc) k
theorem r_iinc11 (hX : oK X l g own cc R) {a0 a1 a2 a3 a4 a5 a6 a7 a8 a9 a10 : Option Value} {z : List (Option Value)} {x d : Int32} (hd : dIn cc pc 11 d nx) (hc : c2 a10 = false) (k : vJ X cs sl w nx (a0 :: a1 :: a2 :: a3 :: a4 :: a5 :: a6 :: a7 :: a8 :: a9 :: a10 :: some (.int (x + d)) :: z) st) : vJ X cs sl w pc (a0 :: a1 :: a2 :: a3 :: a4 :: a5 :: a6 :: a7 :: a8 :: a9 :: a10 :: some (.int x) :: z) st := r_iinc hX hd rfl (fun j hj => by have e : j = 10 := (by omega); subst e; exact hc) k
theorem r_if_eq (hX : oK X l g own cc R) {x : Int32} (hd : dIf cc pc .eq tgt nx) (kt : x = 0 → vJ X cs sl w tgt lv st) (kf : ¬ x = 0 → vJ X cs sl w nx lv st) : vJ X cs sl w pc lv (.int x :: st) := by
  obtain ⟨p, l', e, R', s, m, args, below, meth, c, D, A, Q⟩ := X
  obtain ⟨rfl, rfl, rfl, hx, hb, hown, hw, hK, hA⟩ := hX
  intro H locs ls hP hD hS hl
  obtain ⟨off, ⟨hd, rfl⟩, ht⟩ := hd
  exact lv_if_eq hx hb hd ht (fun h => kt h H locs ls hP hD hS hl) (fun h => kf h H locs ls hP hD hS hl)
theorem r_ic_eq (hX : oK X l g own cc R) {x y : Int32} (hd : dIc cc pc .eq tgt nx) (kt : x = y → vJ X cs sl w tgt lv st) (kf : ¬ x = y → vJ X cs sl w nx lv st) : vJ X cs sl w pc lv (.int y :: .int x :: st) := by
  obtain ⟨p, l', e, R', s, m, args, below, meth, c, D, A, Q⟩ := X
  obtain ⟨rfl, rfl, rfl, hx, hb, hown, hw, hK, hA⟩ := hX
  intro H locs ls hP hD hS hl
  obtain ⟨off, ⟨hd, rfl⟩, ht⟩ := hd
  exact lv_icmp_eq hx hb hd ht (fun h => kt h H locs ls hP hD hS hl) (fun h => kf h H locs ls hP hD hS hl)
theorem r_if_ne (hX : oK X l g own cc R) {x : Int32} (hd : dIf cc pc .ne tgt nx) (kt : ¬ x = 0 → vJ X cs sl w tgt lv st) (kf : x = 0 → vJ X cs sl w nx lv st) : vJ X cs sl w pc lv (.int x :: st) := by
  obtain ⟨p, l', e, R', s, m, args, below, meth, c, D, A, Q⟩ := X
  obtain ⟨rfl, rfl, rfl, hx, hb, hown, hw, hK, hA⟩ := hX
  intro H locs ls hP hD hS hl
  obtain ⟨off, ⟨hd, rfl⟩, ht⟩ := hd
  exact lv_if_ne hx hb hd ht (fun h => kt h H locs ls hP hD hS hl) (fun h => kf h H locs ls hP hD hS hl)
theorem r_ic_ne (hX : oK X l g own cc R) {x y : Int32} (hd : dIc cc pc .ne tgt nx) (kt : ¬ x = y → vJ X cs sl w tgt lv st) (kf : x = y → vJ X cs sl w nx lv st) : vJ X cs sl w pc lv (.int y :: .int x :: st) := by
  obtain ⟨p, l', e, R', s, m, args, below, meth, c, D, A, Q⟩ := X
  obtain ⟨rfl, rfl, rfl, hx, hb, hown, hw, hK, hA⟩ := hX
  intro H locs ls hP hD hS hl
  obtain ⟨off, ⟨hd, rfl⟩, ht⟩ := hd
  exact lv_icmp_ne hx hb hd ht (fun h => kt h H locs ls hP hD hS hl) (fun h => kf h H locs ls hP hD hS hl)
theorem r_if_lt (hX : oK X l g own cc R) {x : Int32} (hd : dIf cc pc .lt tgt nx) (kt : x < 0 → vJ X cs sl w tgt lv st) (kf : ¬ x < 0 → vJ X cs sl w nx lv st) : vJ X cs sl w pc lv (.int x :: st) := by
  obtain ⟨p, l', e, R', s, m, args, below, meth, c, D, A, Q⟩ := X
  obtain ⟨rfl, rfl, rfl, hx, hb, hown, hw, hK, hA⟩ := hX
  intro H locs ls hP hD hS hl
  obtain ⟨off, ⟨hd, rfl⟩, ht⟩ := hd
  exact lv_if_lt hx hb hd ht (fun h => kt h H locs ls hP hD hS hl) (fun h => kf h H locs ls hP hD hS hl)
theorem r_ic_lt (hX : oK X l g own cc R) {x y : Int32} (hd : dIc cc pc .lt tgt nx) (kt : x < y → vJ X cs sl w tgt lv st) (kf : ¬ x < y → vJ X cs sl w nx lv st) : vJ X cs sl w pc lv (.int y :: .int x :: st) := by
  obtain ⟨p, l', e, R', s, m, args, below, meth, c, D, A, Q⟩ := X
  obtain ⟨rfl, rfl, rfl, hx, hb, hown, hw, hK, hA⟩ := hX
  intro H locs ls hP hD hS hl
  obtain ⟨off, ⟨hd, rfl⟩, ht⟩ := hd
  exact lv_icmp_lt hx hb hd ht (fun h => kt h H locs ls hP hD hS hl) (fun h => kf h H locs ls hP hD hS hl)
theorem r_if_ge (hX : oK X l g own cc R) {x : Int32} (hd : dIf cc pc .ge tgt nx) (kt : 0 ≤ x → vJ X cs sl w tgt lv st) (kf : ¬ 0 ≤ x → vJ X cs sl w nx lv st) : vJ X cs sl w pc lv (.int x :: st) := by
  obtain ⟨p, l', e, R', s, m, args, below, meth, c, D, A, Q⟩ := X
  obtain ⟨rfl, rfl, rfl, hx, hb, hown, hw, hK, hA⟩ := hX
  intro H locs ls hP hD hS hl
  obtain ⟨off, ⟨hd, rfl⟩, ht⟩ := hd
  exact lv_if_ge hx hb hd ht (fun h => kt h H locs ls hP hD hS hl) (fun h => kf h H locs ls hP hD hS hl)
theorem r_ic_ge (hX : oK X l g own cc R) {x y : Int32} (hd : dIc cc pc .ge tgt nx) (kt : y ≤ x → vJ X cs sl w tgt lv st) (kf : ¬ y ≤ x → vJ X cs sl w nx lv st) : vJ X cs sl w pc lv (.int y :: .int x :: st) := by
  obtain ⟨p, l', e, R', s, m, args, below, meth, c, D, A, Q⟩ := X
  obtain ⟨rfl, rfl, rfl, hx, hb, hown, hw, hK, hA⟩ := hX
  intro H locs ls hP hD hS hl
  obtain ⟨off, ⟨hd, rfl⟩, ht⟩ := hd
  exact lv_icmp_ge hx hb hd ht (fun h => kt h H locs ls hP hD hS hl) (fun h => kf h H locs ls hP hD hS hl)
theorem r_if_gt (hX : oK X l g own cc R) {x : Int32} (hd : dIf cc pc .gt tgt nx) (kt : 0 < x → vJ X cs sl w tgt lv st) (kf : ¬ 0 < x → vJ X cs sl w nx lv st) : vJ X cs sl w pc lv (.int x :: st) := by
  obtain ⟨p, l', e, R', s, m, args, below, meth, c, D, A, Q⟩ := X
  obtain ⟨rfl, rfl, rfl, hx, hb, hown, hw, hK, hA⟩ := hX
  intro H locs ls hP hD hS hl
  obtain ⟨off, ⟨hd, rfl⟩, ht⟩ := hd
  exact lv_if_gt hx hb hd ht (fun h => kt h H locs ls hP hD hS hl) (fun h => kf h H locs ls hP hD hS hl)
theorem r_ic_gt (hX : oK X l g own cc R) {x y : Int32} (hd : dIc cc pc .gt tgt nx) (kt : y < x → vJ X cs sl w tgt lv st) (kf : ¬ y < x → vJ X cs sl w nx lv st) : vJ X cs sl w pc lv (.int y :: .int x :: st) := by
  obtain ⟨p, l', e, R', s, m, args, below, meth, c, D, A, Q⟩ := X
  obtain ⟨rfl, rfl, rfl, hx, hb, hown, hw, hK, hA⟩ := hX
  intro H locs ls hP hD hS hl
  obtain ⟨off, ⟨hd, rfl⟩, ht⟩ := hd
  exact lv_icmp_gt hx hb hd ht (fun h => kt h H locs ls hP hD hS hl) (fun h => kf h H locs ls hP hD hS hl)
theorem r_if_le (hX : oK X l g own cc R) {x : Int32} (hd : dIf cc pc .le tgt nx) (kt : x ≤ 0 → vJ X cs sl w tgt lv st) (kf : ¬ x ≤ 0 → vJ X cs sl w nx lv st) : vJ X cs sl w pc lv (.int x :: st) := by
  obtain ⟨p, l', e, R', s, m, args, below, meth, c, D, A, Q⟩ := X
  obtain ⟨rfl, rfl, rfl, hx, hb, hown, hw, hK, hA⟩ := hX
  intro H locs ls hP hD hS hl
  obtain ⟨off, ⟨hd, rfl⟩, ht⟩ := hd
  exact lv_if_le hx hb hd ht (fun h => kt h H locs ls hP hD hS hl) (fun h => kf h H locs ls hP hD hS hl)
theorem r_ic_le (hX : oK X l g own cc R) {x y : Int32} (hd : dIc cc pc .le tgt nx) (kt : x ≤ y → vJ X cs sl w tgt lv st) (kf : ¬ x ≤ y → vJ X cs sl w nx lv st) : vJ X cs sl w pc lv (.int y :: .int x :: st) := by
  obtain ⟨p, l', e, R', s, m, args, below, meth, c, D, A, Q⟩ := X
  obtain ⟨rfl, rfl, rfl, hx, hb, hown, hw, hK, hA⟩ := hX
  intro H locs ls hP hD hS hl
  obtain ⟨off, ⟨hd, rfl⟩, ht⟩ := hd
  exact lv_icmp_le hx hb hd ht (fun h => kt h H locs ls hP hD hS hl) (fun h => kf h H locs ls hP hD hS hl)
theorem r_goto (hX : oK X l g own cc R) (hd : dGo cc pc tgt) (k : vJ X cs sl w tgt lv st) : vJ X cs sl w pc lv st := by
  obtain ⟨p, l', e, R', s, m, args, below, meth, c, D, A, Q⟩ := X
  obtain ⟨rfl, rfl, rfl, hx, hb, hown, hw, hK, hA⟩ := hX
  intro H locs ls hP hD hS hl
  obtain ⟨off, nx, ⟨hd, rfl⟩, ht⟩ := hd
  exact lv_goto hx hb hd ht (k H locs ls hP hD hS hl)
theorem r_tin (hX : oK X l g own cc R) {x : Int32} {dflt lo hi : Int} {offs : Array Int} {len : Nat} (hd : decode cc pc = .ok (.tableswitch dflt lo hi offs, len)) (j : Nat) (h1 : x.toInt = lo + j) (h2 : lo + j ≤ hi) {off : Int} (ho : offs[j]? = some off) (ht : (pc : Int) + off = (tgt : Int)) (k : vJ X cs sl w tgt lv st) : vJ X cs sl w pc lv (.int x :: st) := by
  obtain ⟨p, l', e, R', s, m, args, below, meth, c, D, A, Q⟩ := X
  obtain ⟨rfl, rfl, rfl, hx, hb, hown, hw, hK, hA⟩ := hX
  intro H locs ls hP hD hS hl
  refine lv_tableIn hx hb hd (by omega) (by omega) (off := off) ?_ ht (k H locs ls hP hD hS hl)
  have e : (x.toInt - lo).toNat = j := by omega
  rw [e]; exact ho
theorem r_tout (hX : oK X l g own cc R) {x : Int32} {dflt lo hi : Int} {offs : Array Int} {len : Nat} (hd : decode cc pc = .ok (.tableswitch dflt lo hi offs, len)) (h : x.toInt < lo ∨ hi < x.toInt) (ht : (pc : Int) + dflt = (tgt : Int)) (k : vJ X cs sl w tgt lv st) : vJ X cs sl w pc lv (.int x :: st) := by
  obtain ⟨p, l', e, R', s, m, args, below, meth, c, D, A, Q⟩ := X
  obtain ⟨rfl, rfl, rfl, hx, hb, hown, hw, hK, hA⟩ := hX
  intro H locs ls hP hD hS hl
  exact lv_tableOut hx hb hd h ht (k H locs ls hP hD hS hl)
theorem r_look (hX : oK X l g own cc R) {x : Int32} {dflt : Int} {ps : Array (Int × Int)} {len : Nat} (hd : decode cc pc = .ok (.lookupswitch dflt ps, len)) (hp : (ps.toList.zip (ps.toList.drop 1)).all (fun (a, next) => a.1 < next.1) = true) {off : Int} (ho : Op.lookupswitch.offset ps.toList dflt x.toInt = off) (ht : (pc : Int) + off = (tgt : Int)) (k : vJ X cs sl w tgt lv st) : vJ X cs sl w pc lv (.int x :: st) := by
  obtain ⟨p, l', e, R', s, m, args, below, meth, c, D, A, Q⟩ := X
  obtain ⟨rfl, rfl, rfl, hx, hb, hown, hw, hK, hA⟩ := hX
  intro H locs ls hP hD hS hl
  exact lv_lookup hx hb hd hp ho ht (k H locs ls hP hD hS hl)
theorem r_get (hX : oK X l g own cc R) {ci j a : Nat} {fs : List Value} {v : Value} (hd : dGf own cc pc ci j nx) (q0 : Nat) (he : w[q0]? = some (a, .inr (ci, fs))) (hv : fs[j]? = some v) (k : vJ X cs sl w nx lv (v :: st)) : vJ X cs sl w pc lv (.ref a :: st) := by
  obtain ⟨p, l', e, R', s, m, args, below, meth, c, D, A, Q⟩ := X
  obtain ⟨rfl, rfl, rfl, hx, hb, hown, hw, hK, hA⟩ := hX
  intro H locs ls hP hD hS hl
  obtain ⟨idx, ⟨hd, rfl⟩, C, T, N, ty, hc, hin, hk, hlk, hty, hnm⟩ := hd
  rcases hlk with hlk | ⟨host, hlk⟩
  · exact va_get hx hb hw hin hown hK.1 hP q0 he hc j hk (hw _ hlk) (fun _ h9 => h9) hv hd (k H locs ls hP hD hS hl)
  · exact va_getN hx hb hw hin hown hK.1 hP q0 he hc j hk (va_Nw.use rfl (hK.2 _ hlk)) (fun _ h9 => h9) hv hd (k H locs ls hP hD hS hl)
theorem r_put (hX : oK X l g own cc R) {ci j a : Nat} {fs : List Value} {v : Value} {ty : FieldType} (hd : dPf own cc pc ci j ty nx) (q0 : Nat) (he : w[q0]? = some (a, .inr (ci, fs))) (hn : narrow ty v = v) (hf : fits ty v = true) (hlen : j < fs.length) (w1 : va_W) (hw1 : w.set q0 (a, .inr (ci, fs.set j v)) = w1) (k : vJ X cs sl w1 nx lv st) : vJ X cs sl w pc lv (v :: .ref a :: st) := by
  obtain ⟨p, l', e, R', s, m, args, below, meth, c, D, A, Q⟩ := X
  obtain ⟨rfl, rfl, rfl, hx, hb, hown, hw, hK, hA⟩ := hX
  intro H locs ls hP hD hS hl
  obtain ⟨idx, ⟨hd, rfl⟩, ⟨C, T, N, ty', hc, hin, hk, hlk, hty, hnm⟩, q, hq, hfin, hp⟩ := hd
  have e : q = (C, T, N) := Option.some.inj (hq.symm.trans hc)
  subst e
  subst hw1
  rcases hlk with hlk | ⟨host, hlk⟩
  · exact va_put hx hb hw hin ty' hty hnm hown hK.1 hP hD hS q0 he hc j hk (hw _ hlk) (fun _ h9 => h9) hfin hp hn hf hlen hd (fun H1 locs1 hP1 hD1 hS1 => k H1 locs1 ls hP1 hD1 hS1 hl)
  · exact va_putN hx hb hw hin ty' hty hnm hown hK.1 hP hD hS q0 he hc j hk (va_Nw.use rfl (hK.2 _ hlk)) (fun _ h9 => h9) hfin hp hn hf hlen hd (fun H1 locs1 hP1 hD1 hS1 => k H1 locs1 ls hP1 hD1 hS1 hl)
theorem r_iald (hX : oK X l g own cc R) {a n : Nat} {f : Nat → Int32} {i : Int32} (hd : dR cc pc (.iaload) 1 nx) (q0 : Nat) (he : w[q0]? = some (a, .inl (g.2.1, n, .inl f))) (hi : vp_in i n) (k : vJ X cs sl w nx lv (.int (f i.toNatClampNeg) :: st)) : vJ X cs sl w pc lv (.int i :: .ref a :: st) := by
  obtain ⟨p, l', e, R', s, m, args, below, meth, c, D, A, Q⟩ := X
  obtain ⟨rfl, rfl, rfl, hx, hb, hown, hw, hK, hA⟩ := hX
  intro H locs ls hP hD hS hl
  obtain ⟨hd, rfl⟩ := hd
  exact va_iald hx hb hK.1 hP q0 0 he rfl hi hd (k H locs ls hP hD hS hl)
theorem r_zald (hX : oK X l g own cc R) {a n : Nat} {f : Nat → Int32} {i : Int32} (hd : dR cc pc (.baload) 1 nx) (q0 : Nat) (he : w[q0]? = some (a, .inl (g.2.2, n, .inl f))) (hi : vp_in i n) (k : vJ X cs sl w nx lv (.int (f i.toNatClampNeg) :: st)) : vJ X cs sl w pc lv (.int i :: .ref a :: st) := by
  obtain ⟨p, l', e, R', s, m, args, below, meth, c, D, A, Q⟩ := X
  obtain ⟨rfl, rfl, rfl, hx, hb, hown, hw, hK, hA⟩ := hX
  intro H locs ls hP hD hS hl
  obtain ⟨hd, rfl⟩ := hd
  exact va_zald hx hb hK.1 hP q0 1 he rfl hi hd (k H locs ls hP hD hS hl)
theorem r_iast (hX : oK X l g own cc R) {a n : Nat} {f : Nat → Int32} {i x : Int32} (hd : dR cc pc (.iastore) 1 nx) (q0 : Nat) (he : w[q0]? = some (a, .inl (g.2.1, n, .inl f))) (hi : vp_in i n) (w1 : va_W) (hw1 : w.set q0 (a, .inl (g.2.1, n, .inl (upd f i.toNatClampNeg (x)))) = w1) (k : vJ X cs sl w1 nx lv st) : vJ X cs sl w pc lv (.int x :: .int i :: .ref a :: st) := by
  obtain ⟨p, l', e, R', s, m, args, below, meth, c, D, A, Q⟩ := X
  obtain ⟨rfl, rfl, rfl, hx, hb, hown, hw, hK, hA⟩ := hX
  intro H locs ls hP hD hS hl
  obtain ⟨hd, rfl⟩ := hd
  subst hw1
  exact va_iast hx hb hK.1 hP hD hS q0 0 he rfl hi hd (fun H1 locs1 hP1 hD1 hS1 => k H1 locs1 ls hP1 hD1 hS1 hl)
theorem r_zast (hX : oK X l g own cc R) {a n : Nat} {f : Nat → Int32} {i x : Int32} (hd : dR cc pc (.bastore) 1 nx) (q0 : Nat) (he : w[q0]? = some (a, .inl (g.2.2, n, .inl f))) (hi : vp_in i n) (w1 : va_W) (hw1 : w.set q0 (a, .inl (g.2.2, n, .inl (upd f i.toNatClampNeg (vp_nar .boolean x)))) = w1) (k : vJ X cs sl w1 nx lv st) : vJ X cs sl w pc lv (.int x :: .int i :: .ref a :: st) := by
  obtain ⟨p, l', e, R', s, m, args, below, meth, c, D, A, Q⟩ := X
  obtain ⟨rfl, rfl, rfl, hx, hb, hown, hw, hK, hA⟩ := hX
  intro H locs ls hP hD hS hl
  obtain ⟨hd, rfl⟩ := hd
  subst hw1
  exact va_zast hx hb hK.1 hP hD hS q0 1 he rfl hi hd (fun H1 locs1 hP1 hD1 hS1 => k H1 locs1 ls hP1 hD1 hS1 hl)
theorem r_alen (hX : oK X l g own cc R) {a n : Nat} {f : Nat → Int32} (hd : dR cc pc (.arraylength) 1 nx) (q0 : Nat) (he : w[q0]? = some (a, .inl (g.2.1, n, .inl f))) (k : vJ X cs sl w nx lv (.int (Int32.ofNat n) :: st)) : vJ X cs sl w pc lv (.ref a :: st) := by
  obtain ⟨p, l', e, R', s, m, args, below, meth, c, D, A, Q⟩ := X
  obtain ⟨rfl, rfl, rfl, hx, hb, hown, hw, hK, hA⟩ := hX
  intro H locs ls hP hD hS hl
  obtain ⟨hd, rfl⟩ := hd
  exact va_alen hx hb hK.1 hP q0 0 he (ty := .int) rfl rfl hd (k H locs ls hP hD hS hl)
theorem r_mabs (hX : oK X l g own cc R) {x : Int32} (hd : dSt own cc pc Lib.Math.abs.name nx) (hm : Cond.static Lib.Math.abs.name ∈ UW ∧ Cond.initialized "java/lang/Math" ∈ UW ∧ Cond.code Lib.Math.abs.name Lib.Math.abs.code 1 (some .int) ∈ UW ∧ ∀ idx host, Cond.methodLinkNest own idx Lib.Math.abs.name host ∉ NW) (hf : 1 ≤ R.frames) (hlo : (st.map fun v => v.category).sum + 13 ≤ R.locals) (hc : cs ≤ R.cells) (hs : sl ≤ R.slots) (k : vJ X cs sl w nx lv (.int (if 0 ≤ x then x else 0 - x) :: st)) : vJ X cs sl w pc lv (.int x :: st) := by
  obtain ⟨p, l', e, R', s, m, args, below, meth, c, D, A, Q⟩ := X
  obtain ⟨rfl, rfl, rfl, hx, hb, hown, hw, hK, hA⟩ := hX
  intro H locs ls hP hD hS hl
  obtain ⟨idx, ⟨hd, rfl⟩, hlk⟩ := hd
  obtain ⟨h1, h2, h3, h4⟩ := hm
  rcases hlk with hlk | ⟨host, hlk⟩
  · exact va_mabs hx hb hl.1.1.symm hown (hw _ hlk) (hw _ h1) (hw _ h2) (hw _ h3) hf hlo hc hs hd (k H locs ls hP hD hS hl)
  · exact absurd hlk (h4 idx host)
theorem r_mmax (hX : oK X l g own cc R) {x y : Int32} (hd : dSt own cc pc Lib.Math.max.name nx) (hm : Cond.static Lib.Math.max.name ∈ UW ∧ Cond.initialized "java/lang/Math" ∈ UW ∧ Cond.code Lib.Math.max.name Lib.Math.max.code 2 (some .int) ∈ UW ∧ ∀ idx host, Cond.methodLinkNest own idx Lib.Math.max.name host ∉ NW) (hf : 1 ≤ R.frames) (hlo : (st.map fun v => v.category).sum + 13 ≤ R.locals) (hc : cs ≤ R.cells) (hs : sl ≤ R.slots) (k : vJ X cs sl w nx lv (.int (if x < y then y else x) :: st)) : vJ X cs sl w pc lv (.int y :: .int x :: st) := by
  obtain ⟨p, l', e, R', s, m, args, below, meth, c, D, A, Q⟩ := X
  obtain ⟨rfl, rfl, rfl, hx, hb, hown, hw, hK, hA⟩ := hX
  intro H locs ls hP hD hS hl
  obtain ⟨idx, ⟨hd, rfl⟩, hlk⟩ := hd
  obtain ⟨h1, h2, h3, h4⟩ := hm
  rcases hlk with hlk | ⟨host, hlk⟩
  · exact va_mmax hx hb hl.1.1.symm hown (hw _ hlk) (hw _ h1) (hw _ h2) (hw _ h3) hf hlo hc hs hd (k H locs ls hP hD hS hl)
  · exact absurd hlk (h4 idx host)
theorem r_mmin (hX : oK X l g own cc R) {x y : Int32} (hd : dSt own cc pc Lib.Math.min.name nx) (hm : Cond.static Lib.Math.min.name ∈ UW ∧ Cond.initialized "java/lang/Math" ∈ UW ∧ Cond.code Lib.Math.min.name Lib.Math.min.code 2 (some .int) ∈ UW ∧ ∀ idx host, Cond.methodLinkNest own idx Lib.Math.min.name host ∉ NW) (hf : 1 ≤ R.frames) (hlo : (st.map fun v => v.category).sum + 13 ≤ R.locals) (hc : cs ≤ R.cells) (hs : sl ≤ R.slots) (k : vJ X cs sl w nx lv (.int (if y < x then y else x) :: st)) : vJ X cs sl w pc lv (.int y :: .int x :: st) := by
  obtain ⟨p, l', e, R', s, m, args, below, meth, c, D, A, Q⟩ := X
  obtain ⟨rfl, rfl, rfl, hx, hb, hown, hw, hK, hA⟩ := hX
  intro H locs ls hP hD hS hl
  obtain ⟨idx, ⟨hd, rfl⟩, hlk⟩ := hd
  obtain ⟨h1, h2, h3, h4⟩ := hm
  rcases hlk with hlk | ⟨host, hlk⟩
  · exact va_mmin hx hb hl.1.1.symm hown (hw _ hlk) (hw _ h1) (hw _ h2) (hw _ h3) hf hlo hc hs hd (k H locs ls hP hD hS hl)
  · exact absurd hlk (h4 idx host)
theorem r_iret (hX : oK X l g own cc R) {o : Option Value} {w' : va_W} {v : Int32} (hQ : pS X (some .int) o w' cs sl) (hd : dR cc pc (.ireturn) 1 nx) (ho : some (.int v) = o) (hw' : w = w') : vJ X cs sl w pc lv [.int v] := by
  obtain ⟨p, l', e, R', s, m, args, below, meth, c, D, A, Q⟩ := X
  obtain ⟨rfl, rfl, rfl, hx, hb, hown, hw, hK, hA⟩ := hX
  intro H locs ls hP hD hS hl
  obtain ⟨hr, hlk, rfl⟩ := hQ
  obtain ⟨hd, rfl⟩ := hd
  subst ho
  subst hw'
  exact W.iret hx hb hr (fun t ht hW => ⟨rfl, by rw [ht]; exact hP, hS.F ht⟩) hS.2.2 hd hlk
theorem r_zret (hX : oK X l g own cc R) {o : Option Value} {w' : va_W} {v : Int32} (hQ : pS X (some .boolean) o w' cs sl) (hd : dR cc pc (.ireturn) 1 nx) (hn : narrow .boolean (.int v) = .int v) (ho : some (.int v) = o) (hw' : w = w') : vJ X cs sl w pc lv [.int v] := by
  obtain ⟨p, l', e, R', s, m, args, below, meth, c, D, A, Q⟩ := X
  obtain ⟨rfl, rfl, rfl, hx, hb, hown, hw, hK, hA⟩ := hX
  intro H locs ls hP hD hS hl
  obtain ⟨hr, hlk, rfl⟩ := hQ
  obtain ⟨hd, rfl⟩ := hd
  subst ho
  subst hw'
  exact W.zret hx hb hr hn (fun t ht hW => ⟨rfl, by rw [ht]; exact hP, hS.F ht⟩) hS.2.2 hd hlk
theorem r_lret (hX : oK X l g own cc R) {o : Option Value} {w' : va_W} {v : Int64} (hQ : pS X (some .long) o w' cs sl) (hd : dR cc pc (.lreturn) 1 nx) (ho : some (.long v) = o) (hw' : w = w') : vJ X cs sl w pc lv [.long v] := by
  obtain ⟨p, l', e, R', s, m, args, below, meth, c, D, A, Q⟩ := X
  obtain ⟨rfl, rfl, rfl, hx, hb, hown, hw, hK, hA⟩ := hX
  intro H locs ls hP hD hS hl
  obtain ⟨hr, hlk, rfl⟩ := hQ
  obtain ⟨hd, rfl⟩ := hd
  subst ho
  subst hw'
  exact W.lret hx hb hr (fun t ht hW => ⟨rfl, by rw [ht]; exact hP, hS.F ht⟩) hS.2.2 hd hlk
theorem r_aret (hX : oK X l g own cc R) {o : Option Value} {w' : va_W} {a : Nat} {C : String} (hQ : pS X (some (.object C)) o w' cs sl) (hd : dR cc pc (.areturn) 1 nx) (ho : some (.ref a) = o) (hw' : w = w') : vJ X cs sl w pc lv [.ref a] := by
  obtain ⟨p, l', e, R', s, m, args, below, meth, c, D, A, Q⟩ := X
  obtain ⟨rfl, rfl, rfl, hx, hb, hown, hw, hK, hA⟩ := hX
  intro H locs ls hP hD hS hl
  obtain ⟨hr, hlk, rfl⟩ := hQ
  obtain ⟨hd, rfl⟩ := hd
  subst ho
  subst hw'
  exact W.aret hx hb hr (Or.inl ⟨C, rfl⟩) (Or.inr ⟨a, rfl⟩) (fun t ht hW => ⟨rfl, by rw [ht]; exact hP, hS.F ht⟩) hS.2.2 hd hlk
theorem r_vret (hX : oK X l g own cc R) {w' : va_W} (hQ : pS X none none w' cs sl) (hd : dR cc pc (.return_) 1 nx) (hw' : w = w') : vJ X cs sl w pc lv [] := by
  obtain ⟨p, l', e, R', s, m, args, below, meth, c, D, A, Q⟩ := X
  obtain ⟨rfl, rfl, rfl, hx, hb, hown, hw, hK, hA⟩ := hX
  intro H locs ls hP hD hS hl
  obtain ⟨hr, hlk, rfl⟩ := hQ
  obtain ⟨hd, rfl⟩ := hd
  subst hw'
  exact W.vret hx hb hr (fun t ht hW => ⟨rfl, by rw [ht]; exact hP, hS.F ht⟩) hS.2.2 hd hlk
end rules
