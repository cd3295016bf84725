/-! signs and keys -/
noncomputable def sgF : Int32 → Int32 → Int32 → Int32 := hid (fun a b d => (a * d + b) - (a * d + b) / 16 * 16)
theorem sgF_eq (a b d : Int32) : sgF a b d = (a * d + b) - (a * d + b) / 16 * 16 := by unfold sgF; rw [hid_eq]
noncomputable def kqF : Int32 → Int32 := hid (fun k => k / 16)
theorem kqF_eq (k : Int32) : kqF k = k / 16 := by unfold kqF; rw [hid_eq]
noncomputable def krF : Int32 → Int32 := hid (fun k => k - k / 16 * 16)
theorem krF_eq (k : Int32) : krF k = k - k / 16 * 16 := by unfold krF; rw [hid_eq]
noncomputable def forgC (mk : Nat → Int32) (a b : Int32) (d : Nat) (s : Int32) : Int32 := if mk d = 0 ∨ mk d = sgF a b (nI d) then s else s ||| bit (nI d)
noncomputable def forgF (D : Nat) (mk : Nat → Int32) (a b : Int32) : Int32 := if inB a.toInt 0 15 ∧ inB b.toInt 0 15 then lp (forgC mk a b) D 0 0 else -1000000002
abbrev keyP (D : Nat) (mk : Nat → Int32) (told a b : Int32) : Prop := ∀ d, d < D → (¬ hb told (nI d) ∨ mk d = sgF a b (nI d))
theorem ball_s {P : Nat → Prop} {i : Nat} : (∀ d, d < i + 1 → P d) ↔ (∀ d, d < i → P d) ∧ P i := by
  constructor
  · intro h
    exact ⟨fun d hd => h d (by omega), h i (by omega)⟩
  · rintro ⟨h1, h2⟩ d hd
    rcases Nat.lt_or_ge d i with q | q
    · exact h1 d q
    · have : d = i := by omega
      subst this
      exact h2
noncomputable def keyC (D : Nat) (mk : Nat → Int32) (told : Int32) (k : Nat) (s : Int32 × Int32) : Int32 × Int32 := if keyP D mk told (kqF (nI k)) (krF (nI k)) then (s.1 + 1, if s.1 = 0 then nI k else s.2) else s
noncomputable def keysF (D : Nat) (mk : Nat → Int32) (told what : Int32) : Int32 := if stD told (nI D) then (if inB what.toInt 0 1 then (if what = 0 then (lp (keyC D mk told) 256 0 (0, -1)).1 else (lp (keyC D mk told) 256 0 (0, -1)).2) else -1000000002) else -1000000001
/-! notes -/
/-- note: the answer, how many, the doors, the nights, chalked or not -/
def noteF (nD : Int32) (cnt : Int32) (nd nn nc : Nat → Int32) (d n z : Int32) : Int32 × Int32 × (Nat → Int32) × (Nat → Int32) × (Nat → Int32) :=
  if inD d nD then (if inB n.toInt 0 30 then (if cnt = 10 then (-1000000004, cnt, nd, nn, nc) else (cnt + 1, cnt + 1, upd nd (cl cnt) d, upd nn (cl cnt) n, upd nc (cl cnt) (vp_nar .boolean z))) else (-1000000002, cnt, nd, nn, nc)) else (-1000000001, cnt, nd, nn, nc)
abbrev canP (N : Nat) (nd nn nc : Nat → Int32) (g d : Int32) : Prop := ∀ k, k < N → bI (awayF (nd k) d ≤ nn k - g) = nc k
noncomputable def fiD (c : Nat → Int32) (i : Int32) (g : Nat) : Nat → Nat → Int32 × Int32 → Int32 ⊕ (Int32 × Int32)
  | 0, _, s => .inr s
  | n + 1, d, s => if c d = 0 then fiD c i g n (d + 1) s else if s.1 = i then .inl (100 * nI g + nI d) else fiD c i g n (d + 1) (s.1 + 1, s.2 ||| bit (nI d))
theorem fiD_s {c : Nat → Int32} {i : Int32} {g n d : Nat} {s : Int32 × Int32} : fiD c i g (n + 1) d s = if c d = 0 then fiD c i g n (d + 1) s else if s.1 = i then .inl (100 * nI g + nI d) else fiD c i g n (d + 1) (s.1 + 1, s.2 ||| bit (nI d)) := rfl
noncomputable def fiG (c : Nat → Nat → Int32) (i : Int32) (D : Nat) : Nat → Nat → Int32 × Int32 → Int32 ⊕ (Int32 × Int32)
  | 0, _, s => .inr s
  | n + 1, g, s => match fiD (c g) i g D 0 s with
    | .inl r => .inl r
    | .inr s' => fiG c i D n (g + 1) s'
theorem fiG_l {c : Nat → Nat → Int32} {i : Int32} {D n g : Nat} {s : Int32 × Int32} {r : Int32} (h : fiD (c g) i g D 0 s = .inl r) : fiG c i D (n + 1) g s = .inl r := by rw [fiG, h]
theorem fiG_r {c : Nat → Nat → Int32} {i : Int32} {D n g : Nat} {s s' : Int32 × Int32} (h : fiD (c g) i g D 0 s = .inr s') : fiG c i D (n + 1) g s = fiG c i D n (g + 1) s' := by rw [fiG, h]
noncomputable def firE (i : Int32) (z : Int32 ⊕ (Int32 × Int32)) : Int32 := match z with
  | .inl r => r
  | .inr s => if i = -1 then s.1 else if i = -2 then s.2 else -1
noncomputable def firF (D N : Nat) (nd nn nc : Nat → Int32) (i : Int32) : Int32 := firE i (fiG (fun g d => bI (canP N nd nn nc (nI g) (nI d))) i D 31 0 (0, 0))
/-! the book, images -/
def writeF (nD cnt : Int32) (bd bm : Nat → Int32) (d s : Int32) : Int32 × Int32 × (Nat → Int32) × (Nat → Int32) :=
  if inD d nD then (if inB s.toInt 0 15 then (if cnt = 15 then (-1000000004, cnt, bd, bm) else (cnt + 1, cnt + 1, upd bd (cl cnt) d, upd bm (cl cnt) s)) else (-1000000002, cnt, bd, bm)) else (-1000000001, cnt, bd, bm)
def judF (B : Nat) (mk bd bm : Nat → Int32) : Int32 := ffF (fun k => if mk (cl (bd k)) = bm k then none else some (nI k)) B 0
/-- an image's row, from its first place k on -/
def imgF (k : Nat) (mk hd : Nat → Int32) (nt sp sd : Int32) (f : Nat → Int32) : Nat → Int32 := upd (upd (upd (lp (fun d f => upd (upd f (k + d) (mk d)) (k + 14 + d) (hd d)) 14 0 f) (k + 28) nt) (k + 29) sp) (k + 30) sd
def bakF (k : Nat) (f : Nat → Int32) (s : (Nat → Int32) × (Nat → Int32)) : (Nat → Int32) × (Nat → Int32) := lp (fun d s => (upd s.1 d (f (k + d)), upd s.2 d (f (k + 14 + d)))) 14 0 s
theorem ix0 {i : Int32} (h : inB i.toInt 0 1) : (i = nI 0 ∧ 32 * i = nI 0) ∨ (i = nI 1 ∧ 32 * i = nI 32) := by
  have h0 : i = nI (cl i) := (clN h (by decide)).1
  have h2 := (clN h (by decide)).2
  have : cl i = 0 ∨ cl i = 1 := by have := h.2; omega
  rcases this with e | e
  · rw [e] at h0; left; subst h0; exact ⟨rfl, by decide⟩
  · rw [e] at h0; right; subst h0; exact ⟨rfl, by decide⟩
theorem nle_of_lt {x y : Int32} (h : y < x) : ¬ x ≤ y := fun q => by rw [Int32.lt_iff_toInt_lt] at h; rw [Int32.le_iff_toInt_le] at q; omega
theorem le_of_nlt {x y : Int32} (h : ¬ y < x) : x ≤ y := by rw [Int32.lt_iff_toInt_lt] at h; rw [Int32.le_iff_toInt_le]; omega
