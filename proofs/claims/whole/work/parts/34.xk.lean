/-! more rules: a shift, Math's words, a copy of a row -/
section rules3
variable {X : CT} {l : Launch} {g : GT} {own : String} {cc : ByteArray} {R : Room} {cs sl : Nat} {w : va_W} {pc nx : Nat} {lv : List (Option Value)} {st : List Value}
theorem r_iushr (hX : oK X l g own cc R) {x y : Int32} (hd : dR cc pc (.iushr) 1 nx) (k : vJ X cs sl w nx lv (.int (x.toUInt32 >>> (y.toUInt32 &&& Int32.toUInt32 31)).toInt32 :: st)) : vJ X cs sl w pc lv (.int y :: .int x :: st) := by
  obtain ⟨p, l', e, R', s, m, args, below, meth, c, D, A, Q⟩ := X
  obtain ⟨rfl, rfl, rfl, hx, hb, hown, hw, hK, hA⟩ := hX
  intro H locs ls hP hD hS hl
  obtain ⟨hd, rfl⟩ := hd
  exact lv_iushr hx hb hd rfl (k H locs ls hP hD hS hl)
theorem r_copy (hX : oK X l g own cc R) {a0 a n0 n1 : Nat} {f h : Nat → Int32} (hd : dSt own cc pc arraycopyName nx) (hm : Cond.native arraycopyName ∈ UW ∧ Cond.static arraycopyName ∈ UW ∧ Cond.initialized "java/lang/System" ∈ UW ∧ ∀ idx host, Cond.methodLinkNest own idx arraycopyName host ∉ NW) (q0 q1 : Nat) (ha0 : w[q0]? = some (a0, .inl (g.2.1, n0, .inl f))) (ha1 : w[q1]? = some (a, .inl (g.2.1, n1, .inl h))) (hn0 : 14 ≤ n0) (hn1 : 14 ≤ n1) (hf : 1 ≤ R.frames) (hlo : (st.map fun v => v.category).sum + (nativeFrameWords "java/lang/System" "arraycopy" 5 + 11) ≤ R.locals) (w1 : va_W) (hw1 : w.set q1 (a, .inl (g.2.1, n1, .inl (va_cpy f h 0 0 14))) = w1) (k : vJ X cs sl w1 nx lv st) : vJ X cs sl w pc lv (.int 14 :: .int 0 :: .ref a :: .int 0 :: .ref a0 :: st) := by
  obtain ⟨p, l', e, R', s, m, args, below, meth, c, D, A, Q⟩ := X
  obtain ⟨rfl, rfl, rfl, hx, hb, hown, hw, hK, hA⟩ := hX
  intro H locs ls hP hD hS hl
  obtain ⟨idx, ⟨hd, rfl⟩, hlk⟩ := hd
  obtain ⟨m1, m2, m3, m4⟩ := hm
  subst hw1
  rcases hlk with hlk | ⟨host, hlk⟩
  · exact va_copyi hx hb hl.1.1.symm hown (hw _ hlk) (hw _ m1) (hw _ m2) (hw _ m3) hK.1 hP hD hS q0 q1 0 0 (ty := .int) ha0 ha1 rfl rfl rfl (by decide) (by decide) (by decide) hn0 hn1 (fun i hi => rfl) hf hlo hd (fun H1 locs1 hP1 hD1 hS1 => k H1 locs1 ls hP1 hD1 hS1 hl)
  · exact absurd hlk (m4 idx host)
end rules3
theorem nest_own : NW.all (fun w => match w with
    | .methodLinkNest _ _ y _ => y.cls != "java/lang/Math" && y.cls != "java/lang/System"
    | _ => true) = true := by decide +kernel
theorem nest_no {own : String} {idx : Nat} {y : MethodName} {host : String} (hy : (y.cls != "java/lang/Math" && y.cls != "java/lang/System") = false) : Cond.methodLinkNest own idx y host ∉ NW := by
  intro h
  have := List.all_eq_true.mp nest_own _ h
  have h2 : (y.cls != "java/lang/Math" && y.cls != "java/lang/System") = true := this
  rw [hy] at h2
  cases h2
theorem hm_abs_X1 : Cond.static Lib.Math.abs.name ∈ UW ∧ Cond.initialized "java/lang/Math" ∈ UW ∧ Cond.code Lib.Math.abs.name Lib.Math.abs.code 1 (some .int) ∈ UW ∧ ∀ idx host, Cond.methodLinkNest RX1 idx Lib.Math.abs.name host ∉ NW := ⟨mem_UW 434 (by decide +kernel) rfl, mem_UW 91 (by decide +kernel) rfl, mem_UW 435 (by decide +kernel) rfl, fun _ _ => nest_no (by decide)⟩
theorem hm_max_X1 : Cond.static Lib.Math.max.name ∈ UW ∧ Cond.initialized "java/lang/Math" ∈ UW ∧ Cond.code Lib.Math.max.name Lib.Math.max.code 2 (some .int) ∈ UW ∧ ∀ idx host, Cond.methodLinkNest RX1 idx Lib.Math.max.name host ∉ NW := ⟨mem_UW 575 (by decide +kernel) rfl, mem_UW 91 (by decide +kernel) rfl, mem_UW 576 (by decide +kernel) rfl, fun _ _ => nest_no (by decide)⟩
theorem hm_min_X1 : Cond.static Lib.Math.min.name ∈ UW ∧ Cond.initialized "java/lang/Math" ∈ UW ∧ Cond.code Lib.Math.min.name Lib.Math.min.code 2 (some .int) ∈ UW ∧ ∀ idx host, Cond.methodLinkNest RX1 idx Lib.Math.min.name host ∉ NW := ⟨mem_UW 419 (by decide +kernel) rfl, mem_UW 91 (by decide +kernel) rfl, mem_UW 420 (by decide +kernel) rfl, fun _ _ => nest_no (by decide)⟩
theorem hm_abs_X2 : Cond.static Lib.Math.abs.name ∈ UW ∧ Cond.initialized "java/lang/Math" ∈ UW ∧ Cond.code Lib.Math.abs.name Lib.Math.abs.code 1 (some .int) ∈ UW ∧ ∀ idx host, Cond.methodLinkNest RX2 idx Lib.Math.abs.name host ∉ NW := ⟨mem_UW 434 (by decide +kernel) rfl, mem_UW 91 (by decide +kernel) rfl, mem_UW 435 (by decide +kernel) rfl, fun _ _ => nest_no (by decide)⟩
theorem hm_max_X2 : Cond.static Lib.Math.max.name ∈ UW ∧ Cond.initialized "java/lang/Math" ∈ UW ∧ Cond.code Lib.Math.max.name Lib.Math.max.code 2 (some .int) ∈ UW ∧ ∀ idx host, Cond.methodLinkNest RX2 idx Lib.Math.max.name host ∉ NW := ⟨mem_UW 575 (by decide +kernel) rfl, mem_UW 91 (by decide +kernel) rfl, mem_UW 576 (by decide +kernel) rfl, fun _ _ => nest_no (by decide)⟩
theorem hm_min_X2 : Cond.static Lib.Math.min.name ∈ UW ∧ Cond.initialized "java/lang/Math" ∈ UW ∧ Cond.code Lib.Math.min.name Lib.Math.min.code 2 (some .int) ∈ UW ∧ ∀ idx host, Cond.methodLinkNest RX2 idx Lib.Math.min.name host ∉ NW := ⟨mem_UW 419 (by decide +kernel) rfl, mem_UW 91 (by decide +kernel) rfl, mem_UW 420 (by decide +kernel) rfl, fun _ _ => nest_no (by decide)⟩
theorem hm_abs_X4 : Cond.static Lib.Math.abs.name ∈ UW ∧ Cond.initialized "java/lang/Math" ∈ UW ∧ Cond.code Lib.Math.abs.name Lib.Math.abs.code 1 (some .int) ∈ UW ∧ ∀ idx host, Cond.methodLinkNest RX4 idx Lib.Math.abs.name host ∉ NW := ⟨mem_UW 434 (by decide +kernel) rfl, mem_UW 91 (by decide +kernel) rfl, mem_UW 435 (by decide +kernel) rfl, fun _ _ => nest_no (by decide)⟩
theorem hm_max_X4 : Cond.static Lib.Math.max.name ∈ UW ∧ Cond.initialized "java/lang/Math" ∈ UW ∧ Cond.code Lib.Math.max.name Lib.Math.max.code 2 (some .int) ∈ UW ∧ ∀ idx host, Cond.methodLinkNest RX4 idx Lib.Math.max.name host ∉ NW := ⟨mem_UW 575 (by decide +kernel) rfl, mem_UW 91 (by decide +kernel) rfl, mem_UW 576 (by decide +kernel) rfl, fun _ _ => nest_no (by decide)⟩
theorem hm_min_X4 : Cond.static Lib.Math.min.name ∈ UW ∧ Cond.initialized "java/lang/Math" ∈ UW ∧ Cond.code Lib.Math.min.name Lib.Math.min.code 2 (some .int) ∈ UW ∧ ∀ idx host, Cond.methodLinkNest RX4 idx Lib.Math.min.name host ∉ NW := ⟨mem_UW 419 (by decide +kernel) rfl, mem_UW 91 (by decide +kernel) rfl, mem_UW 420 (by decide +kernel) rfl, fun _ _ => nest_no (by decide)⟩
theorem hm_abs_X5 : Cond.static Lib.Math.abs.name ∈ UW ∧ Cond.initialized "java/lang/Math" ∈ UW ∧ Cond.code Lib.Math.abs.name Lib.Math.abs.code 1 (some .int) ∈ UW ∧ ∀ idx host, Cond.methodLinkNest RX5 idx Lib.Math.abs.name host ∉ NW := ⟨mem_UW 434 (by decide +kernel) rfl, mem_UW 91 (by decide +kernel) rfl, mem_UW 435 (by decide +kernel) rfl, fun _ _ => nest_no (by decide)⟩
theorem hm_max_X5 : Cond.static Lib.Math.max.name ∈ UW ∧ Cond.initialized "java/lang/Math" ∈ UW ∧ Cond.code Lib.Math.max.name Lib.Math.max.code 2 (some .int) ∈ UW ∧ ∀ idx host, Cond.methodLinkNest RX5 idx Lib.Math.max.name host ∉ NW := ⟨mem_UW 575 (by decide +kernel) rfl, mem_UW 91 (by decide +kernel) rfl, mem_UW 576 (by decide +kernel) rfl, fun _ _ => nest_no (by decide)⟩
theorem hm_min_X5 : Cond.static Lib.Math.min.name ∈ UW ∧ Cond.initialized "java/lang/Math" ∈ UW ∧ Cond.code Lib.Math.min.name Lib.Math.min.code 2 (some .int) ∈ UW ∧ ∀ idx host, Cond.methodLinkNest RX5 idx Lib.Math.min.name host ∉ NW := ⟨mem_UW 419 (by decide +kernel) rfl, mem_UW 91 (by decide +kernel) rfl, mem_UW 420 (by decide +kernel) rfl, fun _ _ => nest_no (by decide)⟩
theorem hm_copy_X4 : Cond.native arraycopyName ∈ UW ∧ Cond.static arraycopyName ∈ UW ∧ Cond.initialized "java/lang/System" ∈ UW ∧ ∀ idx host, Cond.methodLinkNest RX4 idx arraycopyName host ∉ NW := ⟨mem_UW 370 (by decide +kernel) rfl, mem_UW 369 (by decide +kernel) rfl, mem_UW 89 (by decide +kernel) rfl, fun _ _ => nest_no (by decide)⟩
theorem cpy_cpN (n : Nat) (f h : Nat → Int32) : va_cpy f h 0 0 n = cpN n f h := by
  funext j
  rw [cpN_at]
  unfold va_cpy
  by_cases q : j < n
  · rw [if_pos (by omega), if_pos q]; simp
  · rw [if_neg (by omega), if_neg q]
/-! the class's own -/
abbrev us (x k : Int32) : Int32 := (x.toUInt32 >>> (k.toUInt32 &&& Int32.toUInt32 31)).toInt32
def bc1 (x : Int32) : Int32 := x - (us x 1 &&& 1431655765)
def bc2 (x : Int32) : Int32 := (x &&& 858993459) + (us x 2 &&& 858993459)
def bc3 (x : Int32) : Int32 := (x + us x 4) &&& 252645135
def bcX (x : Int32) : Int32 := let y := bc3 (bc2 (bc1 x)); ((y + us y 8) + us (y + us y 8) 16) &&& 63
noncomputable def bcF : Int32 → Int32 := hid bcX
theorem bcF_eq (x : Int32) : bcF x = bcX x := by unfold bcF; rw [hid_eq]
abbrev kind3 (k : Int32) : Prop := k = 0 ∨ k = 1 ∨ k = 2
theorem inD_yes {d n : Int32} (h1 : ¬ d < 0) (h2 : ¬ n ≤ d) : inD d n := by
  rw [Int32.lt_iff_toInt_lt] at h1
  rw [Int32.le_iff_toInt_le] at h2
  have : (0 : Int32).toInt = 0 := rfl
  exact ⟨by omega, by omega⟩
theorem inD_no1 {d n : Int32} (h1 : d < 0) : ¬ inD d n := by
  rw [Int32.lt_iff_toInt_lt] at h1
  have : (0 : Int32).toInt = 0 := rfl
  rintro ⟨a, b⟩
  omega
theorem inD_no2 {d n : Int32} (h2 : n ≤ d) : ¬ inD d n := by
  rw [Int32.le_iff_toInt_le] at h2
  rintro ⟨a, b⟩
  omega
def xAdd (k w c h : Int32) (σ : S2) : S2 := if σ.1 1 < 4 then su (au (au (au (au σ 2 (cl (σ.1 1)) k) 3 (cl (σ.1 1)) w) 4 (cl (σ.1 1)) c) 5 (cl (σ.1 1)) h) 1 (σ.1 1 + 1) else σ
def xClr (σ : S2) : S2 := aw (su (su (su (su (su σ 0 0) 1 0) 7 4) 8 0) 9 0) 6 (cpN 14 (fun _ => 0) (σ.2 6))
/-! the watchman's stops -/
def rdN (D : Nat) : Nat := if 1 < D then 2 * (D - 1) else 1
theorem wtN_rd {D k : Nat} (h : 1 ≤ D) : wtN D k = if k % rdN D < D then k % rdN D else rdN D - k % rdN D := by
  unfold wtN rdN
  by_cases h1 : D = 1
  · subst h1; simp [Nat.mod_one]
  · have e : (if 1 < D then 2 * (D - 1) else 1) = 2 * D - 2 := by rw [if_pos (show 1 < D by omega)]; omega
    rw [if_neg h1, e]
    by_cases h2 : D ≤ k % (2 * D - 2)
    · rw [if_pos h2, if_neg (by omega)]
    · rw [if_neg h2, if_pos (by omega)]
/-- unseen, stop by stop: the most, and now -/
noncomputable def lunC (D d : Nat) (far : Int32) (t : Nat) (s : Int32 × Int32) : Int32 × Int32 :=
  let nw := if awayF (nI (wtN D t)) (nI d) ≤ far then 0 else s.2 + 1
  (if nw ≤ s.1 then s.1 else nw, nw)
noncomputable def lunF (D d : Nat) (far : Int32) : Int32 := (lp (lunC D d far) (2 * rdN D) 0 (0, 0)).1
theorem absN {a b : Nat} (ha : a < 2 ^ 30) (hb : b < 2 ^ 30) : (if 0 ≤ nI a - nI b then nI a - nI b else 0 - (nI a - nI b)) = awayF (nI a) (nI b) := by
  rw [awayN (by omega) (by omega)]
  by_cases h : b ≤ a
  · rw [pk_sub h, if_pos (nI_pos' (by omega)), if_pos h]
  · have hneg := pk_sneg hb (show a < b by omega)
    rw [if_neg (fun q => nle_of_lt hneg q), if_neg h]
    have e : (0 : Int32) - (nI a - nI b) = nI b - nI a := by
      rw [Int32.zero_sub, Int32.neg_sub]
    rw [e, pk_sub (by omega)]
theorem mxE {p q : Int32} : (if p < q then q else p) = if q ≤ p then p else q := by
  by_cases h : p < q
  · rw [if_pos h, if_neg (nle_of_lt h)]
  · rw [if_neg h, if_pos (le_of_nlt h)]
