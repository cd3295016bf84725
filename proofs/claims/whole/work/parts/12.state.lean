/-! the worlds: an object of each class with its rows; a state is its numbers and its rows, by slots -/
abbrev S2 : Type := (Nat → Int32) × (Nat → Nat → Int32)
def su (σ : S2) (k : Nat) (v : Int32) : S2 := (va_up σ.1 k v, σ.2)
def au (σ : S2) (k i : Nat) (v : Int32) : S2 := (σ.1, va_up σ.2 k (upd (σ.2 k) i v))
def aw (σ : S2) (k : Nat) (f : Nat → Int32) : S2 := (σ.1, va_up σ.2 k f)
def wB (g : GT) (b : Nat → Nat) (σ : S2) : va_W := [(b 0, .inr (0, [.ref (b 1), .ref (b 2), .int (σ.1 2)])), (b 1, .inl (g.2.1, 15, .inl (σ.2 0))), (b 2, .inl (g.2.1, 15, .inl (σ.2 1)))]
def wF (g : GT) (b : Nat → Nat) (σ : S2) : va_W := [(b 0, .inr (1, [.ref (b 1), .ref (b 2), .ref (b 3), .int (σ.1 3)])), (b 1, .inl (g.2.1, 10, .inl (σ.2 0))), (b 2, .inl (g.2.1, 10, .inl (σ.2 1))), (b 3, .inl (g.2.2, 10, .inl (σ.2 2)))]
def wP (g : GT) (b : Nat → Nat) (σ : S2) : va_W := [(b 0, .inr (2, [.int (σ.1 0), .int (σ.1 1), .ref (b 1), .ref (b 2), .ref (b 3), .ref (b 4), .ref (b 5), .int (σ.1 7), .int (σ.1 8), .int (σ.1 9)])), (b 1, .inl (g.2.1, 4, .inl (σ.2 2))), (b 2, .inl (g.2.1, 4, .inl (σ.2 3))), (b 3, .inl (g.2.1, 4, .inl (σ.2 4))), (b 4, .inl (g.2.1, 4, .inl (σ.2 5))), (b 5, .inl (g.2.1, 14, .inl (σ.2 6)))]
def wR (g : GT) (b : Nat → Nat) (σ : S2) : va_W := [(b 0, .inr (3, [.ref (b 1), .int (σ.1 1), .int (σ.1 2), .int (σ.1 3), .int (σ.1 4), .int (σ.1 5), .int (σ.1 6), .int (σ.1 7)])), (b 1, .inl (g.2.1, 200, .inl (σ.2 0)))]
def wS (g : GT) (b : Nat → Nat) (σ : S2) : va_W := [(b 0, .inr (4, [.ref (b 1), .ref (b 2), .int (σ.1 2), .int (σ.1 3), .int (σ.1 4)])), (b 1, .inl (g.2.1, 14, .inl (σ.2 0))), (b 2, .inl (g.2.1, 14, .inl (σ.2 1)))]
def wM (g : GT) (b : Nat → Nat) (σ : S2) : va_W := [(b 0, .inr (6, [.int (σ.1 0), .int (σ.1 1), .ref (b 1), .ref (b 2), .ref (b 3), .ref (b 4), .int (σ.1 6), .int (σ.1 7), .int (σ.1 8), .ref (b 5), .ref (b 6), .int (σ.1 11), .int (σ.1 12), .int (σ.1 13), .ref (b 7), .int (σ.1 15), .int (σ.1 16), .int (σ.1 17), .int (σ.1 18), .int (σ.1 19), .int (σ.1 20), .int (σ.1 21), .ref (b 8), .ref (b 9), .ref (b 10), .ref (b 11), .int (σ.1 26), .ref (b 12), .int (σ.1 28), .ref (b 13), .ref (b 14), .int (σ.1 31), .int (σ.1 32), .ref (b 15), .int (σ.1 34), .int (σ.1 35), .int (σ.1 36), .ref (b 16), .ref (b 17), .ref (b 18), .int (σ.1 40), .ref (b 19), .ref (b 20), .ref (b 21), .ref (b 22)])), (b 1, .inl (g.2.1, 4, .inl (σ.2 2))), (b 2, .inl (g.2.1, 4, .inl (σ.2 3))), (b 3, .inl (g.2.1, 4, .inl (σ.2 4))), (b 4, .inl (g.2.1, 4, .inl (σ.2 5))), (b 5, .inl (g.2.1, 14, .inl (σ.2 9))), (b 6, .inl (g.2.1, 14, .inl (σ.2 10))), (b 7, .inl (g.2.1, 200, .inl (σ.2 14))), (b 8, .inl (g.2.1, 4, .inl (σ.2 22))), (b 9, .inl (g.2.1, 4, .inl (σ.2 23))), (b 10, .inl (g.2.1, 4, .inl (σ.2 24))), (b 11, .inl (g.2.1, 4, .inl (σ.2 25))), (b 12, .inl (g.2.1, 14, .inl (σ.2 27))), (b 13, .inl (g.2.1, 1, .inl (σ.2 29))), (b 14, .inl (g.2.1, 2, .inl (σ.2 30))), (b 15, .inl (g.2.1, 16, .inl (σ.2 33))), (b 16, .inl (g.2.1, 10, .inl (σ.2 37))), (b 17, .inl (g.2.1, 10, .inl (σ.2 38))), (b 18, .inl (g.2.2, 10, .inl (σ.2 39))), (b 19, .inl (g.2.1, 15, .inl (σ.2 41))), (b 20, .inl (g.2.1, 15, .inl (σ.2 42))), (b 21, .inl (g.2.1, 64, .inl (σ.2 43))), (b 22, .inl (g.2.2, 2, .inl (σ.2 44)))]
def wRP (g : GT) (b : Nat → Nat) (σ : S2) (d : Nat → Nat) (π : S2) : va_W := [(b 0, .inr (3, [.ref (b 1), .int (σ.1 1), .int (σ.1 2), .int (σ.1 3), .int (σ.1 4), .int (σ.1 5), .int (σ.1 6), .int (σ.1 7)])), (b 1, .inl (g.2.1, 200, .inl (σ.2 0))), (d 0, .inr (2, [.int (π.1 0), .int (π.1 1), .ref (d 1), .ref (d 2), .ref (d 3), .ref (d 4), .ref (d 5), .int (π.1 7), .int (π.1 8), .int (π.1 9)])), (d 1, .inl (g.2.1, 4, .inl (π.2 2))), (d 2, .inl (g.2.1, 4, .inl (π.2 3))), (d 3, .inl (g.2.1, 4, .inl (π.2 4))), (d 4, .inl (g.2.1, 4, .inl (π.2 5))), (d 5, .inl (g.2.1, 14, .inl (π.2 6)))]
def wSP (g : GT) (b : Nat → Nat) (σ : S2) (d : Nat → Nat) (π : S2) : va_W := [(b 0, .inr (4, [.ref (b 1), .ref (b 2), .int (σ.1 2), .int (σ.1 3), .int (σ.1 4)])), (b 1, .inl (g.2.1, 14, .inl (σ.2 0))), (b 2, .inl (g.2.1, 14, .inl (σ.2 1))), (d 0, .inr (2, [.int (π.1 0), .int (π.1 1), .ref (d 1), .ref (d 2), .ref (d 3), .ref (d 4), .ref (d 5), .int (π.1 7), .int (π.1 8), .int (π.1 9)])), (d 1, .inl (g.2.1, 4, .inl (π.2 2))), (d 2, .inl (g.2.1, 4, .inl (π.2 3))), (d 3, .inl (g.2.1, 4, .inl (π.2 4))), (d 4, .inl (g.2.1, 4, .inl (π.2 5))), (d 5, .inl (g.2.1, 14, .inl (π.2 6)))]
def wSS (g : GT) (b : Nat → Nat) (σ : S2) (d : Nat → Nat) (τ : S2) : va_W := [(b 0, .inr (4, [.ref (b 1), .ref (b 2), .int (σ.1 2), .int (σ.1 3), .int (σ.1 4)])), (b 1, .inl (g.2.1, 14, .inl (σ.2 0))), (b 2, .inl (g.2.1, 14, .inl (σ.2 1))), (d 0, .inr (4, [.ref (d 1), .ref (d 2), .int (τ.1 2), .int (τ.1 3), .int (τ.1 4)])), (d 1, .inl (g.2.1, 14, .inl (τ.2 0))), (d 2, .inl (g.2.1, 14, .inl (τ.2 1)))]
def wA (g : GT) (q : Nat) (n : Nat) (f : Nat → Int32) : va_W := [(q, .inl (g.2.1, n, .inl (f)))]
def wBA (g : GT) (b : Nat → Nat) (σ : S2) (q : Nat) (n : Nat) (f : Nat → Int32) : va_W := [(b 0, .inr (0, [.ref (b 1), .ref (b 2), .int (σ.1 2)])), (b 1, .inl (g.2.1, 15, .inl (σ.2 0))), (b 2, .inl (g.2.1, 15, .inl (σ.2 1))), (q, .inl (g.2.1, n, .inl (f)))]
def wX (g : GT) (x : Nat) (a : Nat → Nat → Nat) (kp : Int32) (rd : S2) (nw : S2) (i0 : S2) (i1 : S2) (fa : S2) (bo : S2) (pl : S2) (dr : S2) : va_W := [(x, .inr (5, [.ref (a 0 0), .ref (a 1 0), .ref (a 2 0), .ref (a 3 0), .ref (a 4 0), .ref (a 5 0), .ref (a 6 0), .ref (a 7 0), .int kp])), (a 0 0, .inr (3, [.ref (a 0 1), .int (rd.1 1), .int (rd.1 2), .int (rd.1 3), .int (rd.1 4), .int (rd.1 5), .int (rd.1 6), .int (rd.1 7)])), (a 0 1, .inl (g.2.1, 200, .inl (rd.2 0))), (a 1 0, .inr (4, [.ref (a 1 1), .ref (a 1 2), .int (nw.1 2), .int (nw.1 3), .int (nw.1 4)])), (a 1 1, .inl (g.2.1, 14, .inl (nw.2 0))), (a 1 2, .inl (g.2.1, 14, .inl (nw.2 1))), (a 2 0, .inr (4, [.ref (a 2 1), .ref (a 2 2), .int (i0.1 2), .int (i0.1 3), .int (i0.1 4)])), (a 2 1, .inl (g.2.1, 14, .inl (i0.2 0))), (a 2 2, .inl (g.2.1, 14, .inl (i0.2 1))), (a 3 0, .inr (4, [.ref (a 3 1), .ref (a 3 2), .int (i1.1 2), .int (i1.1 3), .int (i1.1 4)])), (a 3 1, .inl (g.2.1, 14, .inl (i1.2 0))), (a 3 2, .inl (g.2.1, 14, .inl (i1.2 1))), (a 4 0, .inr (1, [.ref (a 4 1), .ref (a 4 2), .ref (a 4 3), .int (fa.1 3)])), (a 4 1, .inl (g.2.1, 10, .inl (fa.2 0))), (a 4 2, .inl (g.2.1, 10, .inl (fa.2 1))), (a 4 3, .inl (g.2.2, 10, .inl (fa.2 2))), (a 5 0, .inr (0, [.ref (a 5 1), .ref (a 5 2), .int (bo.1 2)])), (a 5 1, .inl (g.2.1, 15, .inl (bo.2 0))), (a 5 2, .inl (g.2.1, 15, .inl (bo.2 1))), (a 6 0, .inr (2, [.int (pl.1 0), .int (pl.1 1), .ref (a 6 1), .ref (a 6 2), .ref (a 6 3), .ref (a 6 4), .ref (a 6 5), .int (pl.1 7), .int (pl.1 8), .int (pl.1 9)])), (a 6 1, .inl (g.2.1, 4, .inl (pl.2 2))), (a 6 2, .inl (g.2.1, 4, .inl (pl.2 3))), (a 6 3, .inl (g.2.1, 4, .inl (pl.2 4))), (a 6 4, .inl (g.2.1, 4, .inl (pl.2 5))), (a 6 5, .inl (g.2.1, 14, .inl (pl.2 6))), (a 7 0, .inr (2, [.int (dr.1 0), .int (dr.1 1), .ref (a 7 1), .ref (a 7 2), .ref (a 7 3), .ref (a 7 4), .ref (a 7 5), .int (dr.1 7), .int (dr.1 8), .int (dr.1 9)])), (a 7 1, .inl (g.2.1, 4, .inl (dr.2 2))), (a 7 2, .inl (g.2.1, 4, .inl (dr.2 3))), (a 7 3, .inl (g.2.1, 4, .inl (dr.2 4))), (a 7 4, .inl (g.2.1, 4, .inl (dr.2 5))), (a 7 5, .inl (g.2.1, 14, .inl (dr.2 6)))]
theorem ad_wB {g : GT} {b : Nat → Nat} {σ : S2} {σ' : S2} : (wB g b σ').map (fun q => q.1) = (wB g b σ).map (fun q => q.1) := rfl
theorem ad_wF {g : GT} {b : Nat → Nat} {σ : S2} {σ' : S2} : (wF g b σ').map (fun q => q.1) = (wF g b σ).map (fun q => q.1) := rfl
theorem ad_wP {g : GT} {b : Nat → Nat} {σ : S2} {σ' : S2} : (wP g b σ').map (fun q => q.1) = (wP g b σ).map (fun q => q.1) := rfl
theorem ad_wR {g : GT} {b : Nat → Nat} {σ : S2} {σ' : S2} : (wR g b σ').map (fun q => q.1) = (wR g b σ).map (fun q => q.1) := rfl
theorem ad_wS {g : GT} {b : Nat → Nat} {σ : S2} {σ' : S2} : (wS g b σ').map (fun q => q.1) = (wS g b σ).map (fun q => q.1) := rfl
theorem ad_wM {g : GT} {b : Nat → Nat} {σ : S2} {σ' : S2} : (wM g b σ').map (fun q => q.1) = (wM g b σ).map (fun q => q.1) := rfl
theorem ad_wRP {g : GT} {b : Nat → Nat} {σ : S2} {d : Nat → Nat} {π : S2} {σ' : S2} {π' : S2} : (wRP g b σ' d π').map (fun q => q.1) = (wRP g b σ d π).map (fun q => q.1) := rfl
theorem ad_wSP {g : GT} {b : Nat → Nat} {σ : S2} {d : Nat → Nat} {π : S2} {σ' : S2} {π' : S2} : (wSP g b σ' d π').map (fun q => q.1) = (wSP g b σ d π).map (fun q => q.1) := rfl
theorem ad_wSS {g : GT} {b : Nat → Nat} {σ : S2} {d : Nat → Nat} {τ : S2} {σ' : S2} {τ' : S2} : (wSS g b σ' d τ').map (fun q => q.1) = (wSS g b σ d τ).map (fun q => q.1) := rfl
theorem ad_wA {g : GT} {q : Nat} {n : Nat} {f : Nat → Int32} {f' : Nat → Int32} : (wA g q n f').map (fun q => q.1) = (wA g q n f).map (fun q => q.1) := rfl
theorem ad_wBA {g : GT} {b : Nat → Nat} {σ : S2} {q : Nat} {n : Nat} {f : Nat → Int32} {σ' : S2} {f' : Nat → Int32} : (wBA g b σ' q n f').map (fun q => q.1) = (wBA g b σ q n f).map (fun q => q.1) := rfl
theorem ad_wX {g : GT} {x : Nat} {a : Nat → Nat → Nat} {kp : Int32} {rd : S2} {nw : S2} {i0 : S2} {i1 : S2} {fa : S2} {bo : S2} {pl : S2} {dr : S2} {kp' : Int32} {rd' : S2} {nw' : S2} {i0' : S2} {i1' : S2} {fa' : S2} {bo' : S2} {pl' : S2} {dr' : S2} : (wX g x a kp' rd' nw' i0' i1' fa' bo' pl' dr').map (fun q => q.1) = (wX g x a kp rd nw i0 i1 fa bo pl dr).map (fun q => q.1) := rfl
/-! numbers -/
theorem hid_ex {α : Type} (f : α) : ∃ g : α, g = f := ⟨f, rfl⟩
/-- a function as it is, but one that no unfolding looks into -/
noncomputable def hid {α : Type} (f : α) : α := Classical.choose (hid_ex f)
theorem hid_eq {α : Type} (f : α) : hid f = f := Classical.choose_spec (hid_ex f)
def bI (p : Prop) [Decidable p] : Int32 := if p then 1 else 0
theorem bI_t {p : Prop} [Decidable p] (h : p) : bI p = 1 := if_pos h
theorem bI_f {p : Prop} [Decidable p] (h : ¬ p) : bI p = 0 := if_neg h
theorem bI_0 {p : Prop} [Decidable p] : bI p = 0 ↔ ¬ p := by unfold bI; split <;> simp [*]
theorem bI_1 {p : Prop} [Decidable p] : bI p = 1 ↔ p := by unfold bI; split <;> simp [*]
theorem bI_n {p : Prop} [Decidable p] : narrow .boolean (.int (bI p)) = .int (bI p) := by unfold bI; split <;> rfl
theorem bI_c {p q : Prop} [Decidable p] [Decidable q] (h : p ↔ q) : bI p = bI q := by unfold bI; simp [h]
abbrev hb (s k : Int32) : Prop := ¬ ((s >>> (k &&& 31)) &&& 1) = 0
theorem and1 (x : Int32) : x &&& 1 = 0 ∨ x &&& 1 = 1 := by
  rw [pk_and x (m := 1) 1 (by decide)]
  rcases (show x.toBitVec.toNat % 2 ^ 1 = 0 ∨ x.toBitVec.toNat % 2 ^ 1 = 1 by omega) with h | h <;> rw [h]
  · left; rfl
  · right; rfl
theorem and1' {x : Int32} : x &&& 1 = 1 ↔ ¬ x &&& 1 = 0 := by
  rcases and1 x with h | h <;> rw [h] <;> decide
theorem lpx {e i : Nat} {x y : Int32} (hx : x = nI i) (hy : y = nI e) (he : e < 2 ^ 31) (hi : i < 2 ^ 31) (h : e ≤ i) : y ≤ x := by rw [hx, hy]; exact nI_le h hi
theorem lpn {e i : Nat} {x y : Int32} (hx : x = nI i) (hy : y = nI e) (he : e < 2 ^ 31) (h : i < e) : ¬ y ≤ x := by rw [hx, hy]; exact nI_ge h he
theorem lgc_lt {x y : Int64} : lg_cmp x y < 0 ↔ x < y := by
  unfold lg_cmp
  by_cases h1 : x > y
  · rw [if_pos h1]
    constructor
    · intro h; exact absurd h (by decide)
    · intro h; rw [Int64.lt_iff_toInt_lt] at h; rw [gt_iff_lt, Int64.lt_iff_toInt_lt] at h1; omega
  · rw [if_neg h1]
    by_cases h2 : x = y
    · rw [if_pos h2]
      constructor
      · intro h; exact absurd h (by decide)
      · intro h; subst h2; rw [Int64.lt_iff_toInt_lt] at h; omega
    · rw [if_neg h2]
      constructor
      · intro _
        rw [gt_iff_lt, Int64.lt_iff_toInt_lt] at h1
        rw [Int64.lt_iff_toInt_lt]
        have : x.toInt ≠ y.toInt := fun h => h2 (Int64.toInt_inj.mp h)
        omega
      · intro _; decide
theorem lgc_gt {x y : Int64} : 0 < lg_cmp x y ↔ y < x := by
  unfold lg_cmp
  by_cases h1 : x > y
  · rw [if_pos h1]
    exact ⟨fun _ => h1, fun _ => by decide⟩
  · rw [if_neg h1]
    have h1' : ¬ y < x := h1
    by_cases h2 : x = y
    · rw [if_pos h2]
      exact ⟨fun h => absurd h (by decide), fun h => absurd h h1'⟩
    · rw [if_neg h2]
      exact ⟨fun h => absurd h (by decide), fun h => absurd h h1'⟩
/-- a loop that counts: n turns from i on -/
def lp {S : Type} (f : Nat → S → S) : Nat → Nat → S → S
  | 0, _, s => s
  | n + 1, i, s => lp f n (i + 1) (f i s)
noncomputable def bitsF : Int32 → Int32 := hid (fun x => lp (fun k n => n + ((x >>> (nI k &&& 31)) &&& 1)) 16 0 0)
theorem bitsF_eq (x : Int32) : bitsF x = lp (fun k n => n + ((x >>> (nI k &&& 31)) &&& 1)) 16 0 0 := by unfold bitsF; rw [hid_eq]
/-- between two bounds -/
abbrev inB (v lo hi : Int) : Prop := lo ≤ v ∧ v ≤ hi
noncomputable def awayF : Int32 → Int32 → Int32 := hid (fun a b => if b ≤ a then a - b else b - a)
theorem awayF_eq (a b : Int32) : awayF a b = if b ≤ a then a - b else b - a := by unfold awayF; rw [hid_eq]
def aheadF (one other : Int32) : Prop := ¬ (one &&& ((one ^^^ other) &&& -(one ^^^ other))) = 0
theorem bI_nz {p : Prop} [Decidable p] (h : ¬ bI p = 0) : p := by
  by_cases hp : p
  · exact hp
  · exact absurd (bI_f hp) h
theorem bI_z {p : Prop} [Decidable p] (h : bI p = 0) : ¬ p := bI_0.mp h
theorem vJw {X : CT} {cs sl : Nat} {w w' : va_W} {pc : Nat} {lv : List (Option Value)} {st : List Value} (h : w = w') (k : vJ X cs sl w' pc lv st) : vJ X cs sl w pc lv st := h ▸ k
/-- a number among n -/
abbrev inD (d n : Int32) : Prop := 0 ≤ d.toInt ∧ d.toInt < n.toInt
/-- a set of c chalks -/
abbrev stD (s c : Int32) : Prop := 0 ≤ s.toInt ∧ s.toInt < ((1 : Int32) <<< (c &&& 31)).toInt
theorem vin {d n : Int32} {D N : Nat} (h : inD d n) (e : n = nI D) (hD : D ≤ N) (hN : N < 2 ^ 31) : vp_in d N := by
  rw [vp_in_iff]
  obtain ⟨h1, h2⟩ := h
  rw [e, nI_toInt (by omega)] at h2
  omega
theorem inD_B {d n : Int32} {D : Nat} (e : n = nI D) (hD : D < 2 ^ 31) : inB d.toInt64.toInt (0 : Int64).toInt (n - 1).toInt64.toInt ↔ inD d n := by
  rw [Int32.toInt_toInt64, Int32.toInt_toInt64, e]
  unfold inD
  rw [nI_toInt (by omega)]
  have h0 : (0 : Int64).toInt = 0 := by decide
  rw [h0]
  cases D with
  | zero =>
    have h1 : (nI 0 - 1 : Int32).toInt = -1 := by decide
    rw [h1]
    unfold inB
    omega
  | succ D =>
    rw [nI_pred, nI_toInt (by omega)]
    unfold inB
    omega
theorem p2_toInt : ∀ c : Nat, c ≤ 14 → (((1 : Int32) <<< (nI c &&& 31)).toInt = 2 ^ c ∧ ((1 : Int32) <<< (nI c &&& 31) - 1).toInt = 2 ^ c - 1) := by
  intro c hc
  have : ∀ c : Fin 15, (((1 : Int32) <<< (nI c.val &&& 31)).toInt = 2 ^ c.val ∧ ((1 : Int32) <<< (nI c.val &&& 31) - 1).toInt = 2 ^ c.val - 1) := by decide +kernel
  exact this ⟨c, by omega⟩
theorem stD_B {s n : Int32} {C : Nat} (e : n = nI C) (hC : C ≤ 14) : inB s.toInt64.toInt (0 : Int64).toInt ((1 : Int32) <<< (n &&& 31) - 1).toInt64.toInt ↔ stD s n := by
  rw [Int32.toInt_toInt64, Int32.toInt_toInt64, e]
  unfold stD
  have h0 : (0 : Int64).toInt = 0 := by decide
  rw [h0, (p2_toInt C hC).1, (p2_toInt C hC).2]
  unfold inB
  omega
/-! what each call answers and does, in numbers and rows -/
noncomputable def manyF (D : Nat) (mk : Nat → Int32) : Int32 := lp (fun d n => n + bitsF (mk d)) D 0 0
noncomputable def wshF : Int32 → Int32 → Int32 := hid (fun k w => if k = 0 then w else if k = 1 then w / 2 else 0)
theorem wshF_eq (k w : Int32) : wshF k w = if k = 0 then w else if k = 1 then w / 2 else 0 := by unfold wshF; rw [hid_eq]
noncomputable def payF : Int32 → Int32 → Int32 := hid (fun s c => if s + c ≤ 999999 then s + c else 999999)
theorem payF_eq (s c : Int32) : payF s c = if s + c ≤ 999999 then s + c else 999999 := by unfold payF; rw [hid_eq]
abbrev bit (c : Int32) : Int32 := (1 : Int32) <<< (c &&& 31)
abbrev cl (d : Int32) : Nat := d.toNatClampNeg
/-- mark: the answer, the marks, what was spent -/
noncomputable def markF (nD nC : Int32) (mk cost : Nat → Int32) (sp d c : Int32) : Int32 × (Nat → Int32) × Int32 :=
  if inD d nD ∧ inD c nC then (if hb (mk (cl d)) c then (-1000000003, mk, sp) else (payF sp (cost (cl c)), upd mk (cl d) (mk (cl d) ||| bit c), payF sp (cost (cl c)))) else (-1000000001, mk, sp)
def wipeF (nD nC : Int32) (mk : Nat → Int32) (d c : Int32) : Int32 × (Nat → Int32) :=
  if inD d nD ∧ inD c nC then (if hb (mk (cl d)) c then (mk (cl d) &&& (bit c ^^^ -1), upd mk (cl d) (mk (cl d) &&& (bit c ^^^ -1))) else (-1000000003, mk)) else (-1000000001, mk)
/-- hide: the answer, the hidden ones, what was spent -/
noncomputable def hideF (nD nC : Int32) (hd cost : Nat → Int32) (sp d c is : Int32) : Int32 × (Nat → Int32) × Int32 :=
  if inD d nD ∧ inD c nC then (bI (hb (hd (cl d)) c), upd hd (cl d) (if is = 0 then hd (cl d) &&& (bit c ^^^ -1) else hd (cl d) ||| bit c), if ¬ is = 0 ∧ ¬ hb (hd (cl d)) c then payF sp (cost (cl c)) else sp) else (-1000000001, hd, sp)
def feedF (n t : Int32) (tx : Nat → Int32) : Int32 × Int32 × (Nat → Int32) :=
  if inB t.toInt 0 255 then (if n = 200 then (-1000000004, n, tx) else (n + 1, n + 1, upd tx (cl n) t)) else (-1000000002, n, tx)
theorem upd_self (f : Nat → Int32) (k : Nat) : upd f k (f k) = f := by
  funext j
  unfold upd
  split <;> simp [*]
theorem swc (x : Int32) (n : Nat) : (∃ j : Nat, j < n ∧ x.toInt = j) ∨ (x.toInt < 0 ∨ (n : Int) ≤ x.toInt) := by
  by_cases h : 0 ≤ x.toInt ∧ x.toInt < n
  · exact Or.inl ⟨x.toInt.toNat, by omega, by omega⟩
  · exact Or.inr (by omega)
/-- one of a row of answers, by its number; OUTSIDE -/
def selF (l : List Int32) (x : Int32) : Int32 := if 0 ≤ x.toInt then l.getD x.toInt.toNat (-1000000002) else -1000000002
theorem sel_in {l : List Int32} {x : Int32} (j : Nat) (h : x.toInt = j) : selF l x = l.getD j (-1000000002) := by
  unfold selF
  rw [if_pos (by omega), h]
  rfl
theorem sel_out {l : List Int32} {x : Int32} {n : Nat} (hl : l.length = n) (h : x.toInt < 0 ∨ (n : Int) ≤ x.toInt) : selF l x = -1000000002 := by
  unfold selF
  by_cases h0 : 0 ≤ x.toInt
  · rw [if_pos h0]
    rw [List.getD_eq_getElem?_getD, List.getElem?_eq_none (by omega)]
    rfl
  · rw [if_neg h0]
theorem sel2 {x : Int32} (h0 : ¬ x = 0) (h1 : ¬ x = 1) : x.toInt < 0 ∨ ((2 : Nat) : Int) ≤ x.toInt := by
  have a : x.toInt ≠ 0 := fun h => h0 (Int32.toInt_inj.mp (by rw [h]; rfl))
  have b : x.toInt ≠ 1 := fun h => h1 (Int32.toInt_inj.mp (by rw [h]; rfl))
  omega
theorem vJ_lv {X : CT} {cs sl : Nat} {w : va_W} {pc : Nat} {lv lv' : List (Option Value)} {st : List Value} (h : ∀ (i : Nat) (v : Value), lv'[i]? = some (some v) → lv[i]? = some (some v)) (hl : lv'.length = lv.length) (k : vJ X cs sl w pc lv' st) : vJ X cs sl w pc lv st := by
  obtain ⟨p, l', e, R', s, m, args, below, meth, c, D, A, Q⟩ := X
  intro H locs ls hP hD hS hl'
  exact k H locs ls hP hD hS ⟨lv_weak hl'.1 (fun q hq => lvL_mem.mpr (h q.1 q.2 (lvL_mem.mp hq))), hl.trans hl'.2⟩
theorem fg_aux {a z : List (Option Value)} {b : Option Value} : (∀ (i : Nat) (v : Value), (a ++ none :: z)[i]? = some (some v) → (a ++ b :: z)[i]? = some (some v)) ∧ (a ++ none :: z).length = (a ++ b :: z).length := by
  refine ⟨fun i v h => ?_, by simp⟩
  rcases Nat.lt_trichotomy i a.length with h1 | h1 | h1
  · rw [List.getElem?_append_left h1] at h ⊢; exact h
  · subst h1
    rw [List.getElem?_append_right (Nat.le_refl _), Nat.sub_self] at h
    cases h
  · rw [List.getElem?_append_right (by omega)] at h ⊢
    obtain ⟨k, hk⟩ : ∃ k, i - a.length = k + 1 := ⟨i - a.length - 1, by omega⟩
    rw [hk] at h ⊢
    exact h
theorem r_fg1 {X : CT} {cs sl : Nat} {w : va_W} {pc : Nat} {a0 b : Option Value} {z : List (Option Value)} {st : List Value} (k : vJ X cs sl w pc (a0 :: none :: z) st) : vJ X cs sl w pc (a0 :: b :: z) st := vJ_lv (fg_aux (a := [a0])).1 (fg_aux (a := [a0])).2 k
theorem r_fg2 {X : CT} {cs sl : Nat} {w : va_W} {pc : Nat} {a0 a1 b : Option Value} {z : List (Option Value)} {st : List Value} (k : vJ X cs sl w pc (a0 :: a1 :: none :: z) st) : vJ X cs sl w pc (a0 :: a1 :: b :: z) st := vJ_lv (fg_aux (a := [a0, a1])).1 (fg_aux (a := [a0, a1])).2 k
theorem r_fg3 {X : CT} {cs sl : Nat} {w : va_W} {pc : Nat} {a0 a1 a2 b : Option Value} {z : List (Option Value)} {st : List Value} (k : vJ X cs sl w pc (a0 :: a1 :: a2 :: none :: z) st) : vJ X cs sl w pc (a0 :: a1 :: a2 :: b :: z) st := vJ_lv (fg_aux (a := [a0, a1, a2])).1 (fg_aux (a := [a0, a1, a2])).2 k
theorem r_fg4 {X : CT} {cs sl : Nat} {w : va_W} {pc : Nat} {a0 a1 a2 a3 b : Option Value} {z : List (Option Value)} {st : List Value} (k : vJ X cs sl w pc (a0 :: a1 :: a2 :: a3 :: none :: z) st) : vJ X cs sl w pc (a0 :: a1 :: a2 :: a3 :: b :: z) st := vJ_lv (fg_aux (a := [a0, a1, a2, a3])).1 (fg_aux (a := [a0, a1, a2, a3])).2 k
theorem r_fg5 {X : CT} {cs sl : Nat} {w : va_W} {pc : Nat} {a0 a1 a2 a3 a4 b : Option Value} {z : List (Option Value)} {st : List Value} (k : vJ X cs sl w pc (a0 :: a1 :: a2 :: a3 :: a4 :: none :: z) st) : vJ X cs sl w pc (a0 :: a1 :: a2 :: a3 :: a4 :: b :: z) st := vJ_lv (fg_aux (a := [a0, a1, a2, a3, a4])).1 (fg_aux (a := [a0, a1, a2, a3, a4])).2 k
theorem r_fg6 {X : CT} {cs sl : Nat} {w : va_W} {pc : Nat} {a0 a1 a2 a3 a4 a5 b : Option Value} {z : List (Option Value)} {st : List Value} (k : vJ X cs sl w pc (a0 :: a1 :: a2 :: a3 :: a4 :: a5 :: none :: z) st) : vJ X cs sl w pc (a0 :: a1 :: a2 :: a3 :: a4 :: a5 :: b :: z) st := vJ_lv (fg_aux (a := [a0, a1, a2, a3, a4, a5])).1 (fg_aux (a := [a0, a1, a2, a3, a4, a5])).2 k
theorem r_fg7 {X : CT} {cs sl : Nat} {w : va_W} {pc : Nat} {a0 a1 a2 a3 a4 a5 a6 b : Option Value} {z : List (Option Value)} {st : List Value} (k : vJ X cs sl w pc (a0 :: a1 :: a2 :: a3 :: a4 :: a5 :: a6 :: none :: z) st) : vJ X cs sl w pc (a0 :: a1 :: a2 :: a3 :: a4 :: a5 :: a6 :: b :: z) st := vJ_lv (fg_aux (a := [a0, a1, a2, a3, a4, a5, a6])).1 (fg_aux (a := [a0, a1, a2, a3, a4, a5, a6])).2 k
theorem r_fg8 {X : CT} {cs sl : Nat} {w : va_W} {pc : Nat} {a0 a1 a2 a3 a4 a5 a6 a7 b : Option Value} {z : List (Option Value)} {st : List Value} (k : vJ X cs sl w pc (a0 :: a1 :: a2 :: a3 :: a4 :: a5 :: a6 :: a7 :: none :: z) st) : vJ X cs sl w pc (a0 :: a1 :: a2 :: a3 :: a4 :: a5 :: a6 :: a7 :: b :: z) st := vJ_lv (fg_aux (a := [a0, a1, a2, a3, a4, a5, a6, a7])).1 (fg_aux (a := [a0, a1, a2, a3, a4, a5, a6, a7])).2 k
theorem r_fg9 {X : CT} {cs sl : Nat} {w : va_W} {pc : Nat} {a0 a1 a2 a3 a4 a5 a6 a7 a8 b : Option Value} {z : List (Option Value)} {st : List Value} (k : vJ X cs sl w pc (a0 :: a1 :: a2 :: a3 :: a4 :: a5 :: a6 :: a7 :: a8 :: none :: z) st) : vJ X cs sl w pc (a0 :: a1 :: a2 :: a3 :: a4 :: a5 :: a6 :: a7 :: a8 :: b :: z) st := vJ_lv (fg_aux (a := [a0, a1, a2, a3, a4, a5, a6, a7, a8])).1 (fg_aux (a := [a0, a1, a2, a3, a4, a5, a6, a7, a8])).2 k
/-! copy, nights -/
noncomputable def copyC (C : Nat) (cost : Nat → Int32) (w sp : Int32) : Int32 := lp (fun c s => if hb w (nI c) then payF s (cost c) else s) C 0 sp
noncomputable def copyS (C : Nat) (cost : Nat → Int32) (d f : Int32) (q : Nat) (s : (Nat → Int32) × Int32) : (Nat → Int32) × Int32 := if awayF (nI q) d ≤ f then (upd s.1 q (s.1 (cl d)), copyC C cost (s.1 (cl d) &&& (s.1 q ^^^ -1)) s.2) else s
noncomputable def copyF (D C : Nat) (cost mk : Nat → Int32) (sp d f : Int32) : Int32 × (Nat → Int32) × Int32 :=
  if inD d (nI D) then (if inB f.toInt 1 13 then ((lp (copyS C cost d f) D 0 (mk, sp)).2, (lp (copyS C cost d f) D 0 (mk, sp)).1, (lp (copyS C cost d f) D 0 (mk, sp)).2) else (-1000000002, mk, sp)) else (-1000000001, mk, sp)
noncomputable def drawF : Int32 → Int32 := hid (fun s => ((s.toInt64 * 1103515245 + 12345) &&& 2147483647).toInt32)
theorem drawF_eq (s : Int32) : drawF s = ((s.toInt64 * 1103515245 + 12345) &&& 2147483647).toInt32 := by unfold drawF; rw [hid_eq]
noncomputable def dvF : Int32 → Int32 → Int32 := hid (fun s n => s / 65536 - s / 65536 / n * n)
theorem dvF_eq (s n : Int32) : dvF s n = s / 65536 - s / 65536 / n * n := by unfold dvF; rw [hid_eq]
abbrev MS : Type := (Nat → Int32) × Int32
noncomputable def rainC (wb : Nat → Int32) (d : Nat) (w : Int32) (c : Nat) (s : MS) : MS := if hb w (nI c) then (if wb c ≤ dvF (drawF s.2) 8 then (s.1, drawF s.2) else (upd s.1 d (s.1 d &&& (bit (nI c) ^^^ -1)), drawF s.2)) else s
noncomputable def rainF (D C : Nat) (wb : Nat → Int32) (s : MS) : MS := lp (fun d s => lp (rainC wb d (s.1 d)) C 0 s) D 0 s
noncomputable def playC (ch : Nat → Int32) (d c : Nat) (s : MS) : MS := if ch c ≤ 0 then s else (if ch c ≤ dvF (drawF s.2) 64 then (s.1, drawF s.2) else (upd s.1 d (s.1 d ||| bit (nI c)), drawF s.2))
noncomputable def playF (D C : Nat) (ch : Nat → Int32) (s : MS) : MS := lp (fun d s => lp (playC ch d) C 0 s) D 0 s
noncomputable def nightS (D C : Nat) (wb ch : Nat → Int32) (rn : Int32) (s : MS) : MS := playF D C ch (if rn ≤ dvF (drawF s.2) 8 then (s.1, drawF s.2) else rainF D C wb (s.1, drawF s.2))
noncomputable def nightL (D C : Nat) (wb ch : Nat → Int32) (rn : Int32) (n : Nat) (s : MS) (nt : Int32) : MS × Int32 := lp (fun _ s => (nightS D C wb ch rn s.1, s.2 + 1)) n 0 (s, nt)
noncomputable def nightF (D C : Nat) (wb ch : Nat → Int32) (rn : Int32) (s : MS) (nt n : Int32) : Int32 × MS × Int32 :=
  if inB n.toInt 1 99 then (if D = 0 then (-1000000003, s, nt) else (if nt ≤ 90000 then ((nightL D C wb ch rn (cl n) s nt).2, nightL D C wb ch rn (cl n) s nt) else (-1000000004, s, nt))) else (-1000000002, s, nt)
theorem drawE {s : Int32} (h : 0 ≤ s.toInt) : ((s.toInt64 * 1103515245 + 12345) - (s.toInt64 * 1103515245 + 12345) / 2147483648 * 2147483648).toInt32 = drawF s := by
  obtain ⟨k, hk, rfl⟩ := nI_of (x := s) (by rw [Int32.lt_iff_toInt_lt]; have : (0 : Int32).toInt = 0 := rfl; omega)
  rw [drawF_eq]
  rw [nI_l hk]
  have e1 : (1103515245 : Int64) = lN 1103515245 := by decide
  have e2 : (12345 : Int64) = lN 12345 := by decide
  have e3 : (2147483648 : Int64) = lN 2147483648 := by decide
  have e4 : (2147483647 : Int64) = lN 2147483647 := by decide
  rw [e1, e2, e3, e4, lN_mul, lN_add]
  have hb : k * 1103515245 + 12345 < 2 ^ 63 := by omega
  rw [pk_lRem hb (by decide) (by decide)]
  have hm : lN (k * 1103515245 + 12345) &&& lN 2147483647 = lN ((k * 1103515245 + 12345) % 2147483648) := by
    apply Int64.toBitVec_inj.mp
    rw [Int64.toBitVec_and]
    apply BitVec.eq_of_toNat_eq
    rw [BitVec.toNat_and]
    have t : ∀ n : Nat, n < 2 ^ 64 → (lN n).toBitVec.toNat = n := by
      intro n hn
      show (BitVec.ofNat 64 n).toNat = n
      rw [BitVec.toNat_ofNat, Nat.mod_eq_of_lt hn]
    rw [t _ (by omega), t _ (by decide), t _ (by omega)]
    exact Nat.and_two_pow_sub_one_eq_mod _ 31
  rw [hm]
theorem drawN (s : Int32) : 0 ≤ (drawF s).toInt := by
  rw [drawF_eq]
  generalize s.toInt64 * 1103515245 + 12345 = z
  have : (z &&& 2147483647).toInt32.toBitVec.msb = false := by
    show ((z.toBitVec &&& 2147483647#64).signExtend 32).msb = false
    rw [BitVec.msb_eq_getLsbD_last]
    simp [BitVec.getLsbD_signExtend]
  rw [← Int32.toInt_toBitVec]
  rw [BitVec.toInt_eq_msb_cond, this]
  simp
theorem rainC_no {wb : Nat → Int32} {d c : Nat} {w : Int32} {s : MS} (h : ¬ hb w (nI c)) : rainC wb d w c s = s := if_neg h
theorem rainC_st {wb : Nat → Int32} {d c : Nat} {w : Int32} {m : Nat → Int32} {z : Int32} (h : hb w (nI c)) (h2 : wb c ≤ dvF (drawF z) 8) : rainC wb d w c (m, z) = (m, drawF z) := by unfold rainC; rw [if_pos h, if_pos h2]
theorem rainC_wa {wb : Nat → Int32} {d c : Nat} {w : Int32} {m : Nat → Int32} {z : Int32} (h : hb w (nI c)) (h2 : ¬ wb c ≤ dvF (drawF z) 8) : rainC wb d w c (m, z) = (upd m d (m d &&& (bit (nI c) ^^^ -1)), drawF z) := by unfold rainC; rw [if_pos h, if_neg h2]
theorem playC_no {ch : Nat → Int32} {d c : Nat} {s : MS} (h : ch c ≤ 0) : playC ch d c s = s := if_pos h
theorem playC_st {ch : Nat → Int32} {d c : Nat} {m : Nat → Int32} {z : Int32} (h : ¬ ch c ≤ 0) (h2 : ch c ≤ dvF (drawF z) 64) : playC ch d c (m, z) = (m, drawF z) := by unfold playC; rw [if_neg h, if_pos h2]
theorem playC_pu {ch : Nat → Int32} {d c : Nat} {m : Nat → Int32} {z : Int32} (h : ¬ ch c ≤ 0) (h2 : ¬ ch c ≤ dvF (drawF z) 64) : playC ch d c (m, z) = (upd m d (m d ||| bit (nI c)), drawF z) := by unfold playC; rw [if_neg h, if_neg h2]
theorem clN {n : Int32} {a z : Int} (h : inB n.toInt a z) (ha : 0 ≤ a) : n = nI (cl n) ∧ ((cl n : Nat) : Int) = n.toInt := by
  obtain ⟨k, hk, rfl⟩ := nI_of (x := n) (by rw [Int32.lt_iff_toInt_lt]; have : (0 : Int32).toInt = 0 := rfl; have := h.1; omega)
  rw [nI_toInt hk]
  unfold cl
  rw [nI_clamp hk]
  exact ⟨rfl, rfl⟩
def likeF (D : Nat) (mk : Nat → Int32) (set : Int32) : Int32 := lp (fun d r => if mk d = set then r ||| bit (nI d) else r) D 0 0
theorem lp_inv {S : Type} {f : Nat → S → S} (P : S → Prop) (h : ∀ i s, P s → P (f i s)) : ∀ (n i : Nat) (s : S), P s → P (lp f n i s) := by
  intro n
  induction n with
  | zero => intro i s hs; exact hs
  | succ n ih => intro i s hs; exact ih (i + 1) (f i s) (h i s hs)
theorem rainN (D C : Nat) (wb : Nat → Int32) (s : MS) (h : 0 ≤ s.2.toInt) : 0 ≤ (rainF D C wb s).2.toInt := by
  refine lp_inv (fun s : MS => 0 ≤ s.2.toInt) (fun d s hs => lp_inv (fun s : MS => 0 ≤ s.2.toInt) (fun c t ht => ?_) C 0 s hs) D 0 s h
  unfold rainC
  split
  · split <;> exact drawN _
  · exact ht
theorem playN (D C : Nat) (ch : Nat → Int32) (s : MS) (h : 0 ≤ s.2.toInt) : 0 ≤ (playF D C ch s).2.toInt := by
  refine lp_inv (fun s : MS => 0 ≤ s.2.toInt) (fun d s hs => lp_inv (fun s : MS => 0 ≤ s.2.toInt) (fun c t ht => ?_) C 0 s hs) D 0 s h
  unfold playC
  split
  · exact ht
  · split <;> exact drawN _
theorem lgx {e i : Nat} {x y : Int32} (hx : x = nI i) (hy : y = nI e) (hi : i < 2 ^ 31) (h : e < i) : y < x := by rw [hx, hy]; exact nI_lt h hi
theorem lgn {e i : Nat} {x y : Int32} (hx : x = nI i) (hy : y = nI e) (he : e < 2 ^ 31) (h : i ≤ e) : ¬ y < x := by rw [hx, hy]; exact nI_nlt h he
/-! fool -/
noncomputable def foolC (mk : Nat → Int32) (set k : Int32) (nd d : Nat) (s : Int32 × Int32) : Int32 × Int32 := if bitsF (mk d ^^^ set) = nI nd ∧ (nd = 0 ∨ ¬ k ≤ bitsF s.2) then (s.1 + nI nd, s.2 ||| bit (nI d)) else s
noncomputable def foolL (D : Nat) (mk : Nat → Int32) (set k : Int32) : Int32 × Int32 := lp (fun nd s => lp (foolC mk set k nd) D 0 s) 5 0 (0, 0)
theorem foolC_no {mk : Nat → Int32} {set k : Int32} {nd d : Nat} {a z : Int32} (h : ¬ (bitsF (mk d ^^^ set) = nI nd ∧ (nd = 0 ∨ ¬ k ≤ bitsF z))) : foolC mk set k nd d (a, z) = (a, z) := if_neg h
theorem foolC_is {mk : Nat → Int32} {set k : Int32} {nd d : Nat} {a z : Int32} (h : bitsF (mk d ^^^ set) = nI nd ∧ (nd = 0 ∨ ¬ k ≤ bitsF z)) : foolC mk set k nd d (a, z) = (a + nI nd, z ||| bit (nI d)) := if_pos h
noncomputable def foolF (D : Nat) (nC : Int32) (mk : Nat → Int32) (set k what : Int32) : Int32 := if stD set nC then (if inB k.toInt 2 14 ∧ inB what.toInt 0 1 then (if k ≤ nI D then (if what = 0 then (foolL D mk set k).1 else (foolL D mk set k).2) else -1) else -1000000002) else -1000000001
/-! codes -/
noncomputable def costF (C : Nat) (cost : Nat → Int32) (set : Int32) : Int32 := lp (fun c s => if hb set (nI c) then s + cost c else s) C 0 0
/-- the cost of a code; a million, where two of its sets are near -/
noncomputable def ccF (C : Nat) (cost near : Nat → Int32) (code : Int32) : Nat → Nat → Int32 → Int32
  | 0, _, a => a
  | n + 1, i, a => if hb code (nI i) then (if code &&& near i = 0 then ccF C cost near code n (i + 1) (a + costF C cost (nI i)) else 1000000) else ccF C cost near code n (i + 1) a
/-! windows -/
abbrev sameP (mk : Nat → Int32) (a b L : Nat) : Prop := ∀ k, k < L → mk (a + k) = mk (b + k)
noncomputable def cntF (E : Nat) (mk : Nat → Int32) (L a : Nat) : Int32 := lp (fun b m => m + bI (sameP mk a b L)) E 0 0
noncomputable def winF (E : Nat) (mk : Nat → Int32) (L : Nat) : Int32 := lp (fun a n => n + bI (cntF E mk L a = 1)) E 0 0
/-- the first that fits -/
def ffF (p : Nat → Option Int32) : Nat → Nat → Int32
  | 0, _ => -1
  | n + 1, i => match p i with
    | some r => r
    | none => ffF p n (i + 1)
noncomputable def lwF (D : Nat) (mk : Nat → Int32) : Int32 := ffF (fun L => if winF (D + 1 - L) mk L = nI D - nI L + 1 then some (nI L) else none) D 1
/-! beliefs -/
noncomputable def stF : Int32 → Nat → Int32 := hid (fun wb n => lp (fun _ p => p * (8 - wb) / 8) n 0 10000)
theorem stF_eq (wb : Int32) (n : Nat) : stF wb n = lp (fun _ p => p * (8 - wb) / 8) n 0 10000 := by unfold stF; rw [hid_eq]
noncomputable def w1F : Int64 → Int32 → Int64 := hid (fun w z => w * z.toInt64 / 10000)
theorem w1F_eq (w : Int64) (z : Int32) : w1F w z = w * z.toInt64 / 10000 := by unfold w1F; rw [hid_eq]
noncomputable def w2F : Int64 → Int32 → Int64 := hid (fun w z => w * z.toInt64 / 8)
theorem w2F_eq (w : Int64) (z : Int32) : w2F w z = w * z.toInt64 / 8 := by unfold w2F; rw [hid_eq]
noncomputable def wtC (wb ch : Nat → Int32) (m set : Int32) (n c : Nat) (w : Int64) : Int64 := if hb set (nI c) then w1F w (if hb m (nI c) then stF (wb c) n else 10000 - stF (wb c) n) else w2F w (if hb m (nI c) then ch c else 8 - ch c)
noncomputable def wtF (C : Nat) (wb ch : Nat → Int32) (m set : Int32) (n : Nat) : Int64 := lp (wtC wb ch m set n) C 0 1000000000
noncomputable def allF (D C : Nat) (wb ch mk : Nat → Int32) (set : Int32) (n : Nat) : Int64 := lp (fun d a => a + wtF C wb ch (mk d) set n) D 0 0
noncomputable def partF : Int64 → Int64 → Int32 := hid (fun w a => (w * 1000000 / a).toInt32)
theorem partF_eq (w a : Int64) : partF w a = (w * 1000000 / a).toInt32 := by unfold partF; rw [hid_eq]
noncomputable def beliefF (D C : Nat) (wb ch mk : Nat → Int32) (set n d : Int32) : Int32 := if stD set (nI C) ∧ inD d (nI D) then (if inB n.toInt 1 9 then (if allF D C wb ch mk set (cl n) = 0 then 0 else partF (wtF C wb ch (mk (cl d)) set (cl n)) (allF D C wb ch mk set (cl n))) else -1000000002) else -1000000001
noncomputable def bestC (C : Nat) (wb ch mk : Nat → Int32) (set : Int32) (n d : Nat) (s : Int32 × Int64) : Int32 × Int64 := if s.2 < wtF C wb ch (mk d) set n then (nI d, wtF C wb ch (mk d) set n) else s
noncomputable def bestF (D C : Nat) (wb ch mk : Nat → Int32) (set n : Int32) : Int32 := if stD set (nI C) then (if inB n.toInt 1 9 then (lp (bestC C wb ch mk set (cl n)) D 0 (-1, 0)).1 else -1000000002) else -1000000001
/-! the watchman -/
noncomputable def watF : Int32 → Int32 → Int32 → Int32 := hid (fun nD stay t => if nD = 1 then 0 else (if nD ≤ t / stay - t / stay / (2 * nD - 2) * (2 * nD - 2) then 2 * nD - 2 - (t / stay - t / stay / (2 * nD - 2) * (2 * nD - 2)) else t / stay - t / stay / (2 * nD - 2) * (2 * nD - 2)))
theorem watF_eq (nD stay t : Int32) : watF nD stay t = if nD = 1 then 0 else (if nD ≤ t / stay - t / stay / (2 * nD - 2) * (2 * nD - 2) then 2 * nD - 2 - (t / stay - t / stay / (2 * nD - 2) * (2 * nD - 2)) else t / stay - t / stay / (2 * nD - 2) * (2 * nD - 2)) := by unfold watF; rw [hid_eq]
/-- unseen: the most, and now -/
noncomputable def unsC (nD stay d sight : Int32) (t : Nat) (s : Int32 × Int32) : Int32 × Int32 :=
  let nw := if awayF (watF nD stay (nI t)) d ≤ sight then 0 else s.2 + 1
  (if nw ≤ s.1 then s.1 else nw, nw)
noncomputable def unsF (D S : Nat) (d sight : Int32) : Int32 := (lp (unsC (nI D) (nI S) d sight) (2 * (if D = 1 then 1 else (2 * D - 2) * S)) 0 (0, 0)).1
noncomputable def foolX (D : Nat) (nC : Int32) (mk : Nat → Int32) (set k what a z : Int32) : Int32 × Int32 := if stD set nC then (if inB k.toInt 2 14 ∧ inB what.toInt 0 1 then (if k ≤ nI D then foolL D mk set k else (a, z)) else (a, z)) else (a, z)
theorem ccF_s {C : Nat} {cost near : Nat → Int32} {code : Int32} {n i : Nat} {a : Int32} : ccF C cost near code (n + 1) i a = if hb code (nI i) then (if code &&& near i = 0 then ccF C cost near code n (i + 1) (a + costF C cost (nI i)) else 1000000) else ccF C cost near code n (i + 1) a := rfl
theorem sameP_s {mk : Nat → Int32} {a b i : Nat} : sameP mk a b (i + 1) ↔ sameP mk a b i ∧ mk (a + i) = mk (b + i) := by
  constructor
  · intro h
    exact ⟨fun k hk => h k (by omega), h i (by omega)⟩
  · rintro ⟨h1, h2⟩ k hk
    rcases Nat.lt_or_ge k i with q | q
    · exact h1 k q
    · have : k = i := by omega
      subst this
      exact h2
theorem wgx {D L i : Nat} {x y z : Int32} (hx : x = nI i) (hz : z = nI L) (hy : y = nI D) (hb : i + L < 2 ^ 31) (h : D < i + L) : y < x + z := by rw [hx, hy, hz, nI_add]; exact nI_lt h hb
theorem wgn {D L i : Nat} {x y z : Int32} (hx : x = nI i) (hz : z = nI L) (hy : y = nI D) (hb : D < 2 ^ 31) (h : i + L ≤ D) : ¬ y < x + z := by rw [hx, hy, hz, nI_add]; exact nI_nlt h hb
theorem ffF_some {p : Nat → Option Int32} {n i : Nat} {r : Int32} (h : p i = some r) : ffF p (n + 1) i = r := by unfold ffF; rw [h]
theorem ffF_none {p : Nat → Option Int32} {n i : Nat} (h : p i = none) : ffF p (n + 1) i = ffF p n (i + 1) := by rw [ffF, h]
theorem lgc_le {x y : Int64} : lg_cmp x y ≤ 0 ↔ ¬ y < x := by
  rw [← lgc_gt, Int32.lt_iff_toInt_lt, Int32.le_iff_toInt_le]
  omega
theorem lgc_eq {x y : Int64} : lg_cmp x y = 0 ↔ x = y := by
  unfold lg_cmp
  by_cases h1 : x > y
  · rw [if_pos h1]
    constructor
    · intro h; exact absurd h (by decide)
    · intro h; subst h; rw [gt_iff_lt, Int64.lt_iff_toInt_lt] at h1; omega
  · rw [if_neg h1]
    by_cases h2 : x = y
    · rw [if_pos h2]; exact ⟨fun _ => h2, fun _ => rfl⟩
    · rw [if_neg h2]; exact ⟨fun h => absurd h (by decide), fun h => absurd h h2⟩
theorem rnd0 {D : Nat} (h : D ≤ 14) (h1 : ¬ nI D = 1) : ¬ (2 * nI D - 2 : Int32) = 0 := by
  have : ∀ D : Fin 15, ¬ nI D.val = 1 → ¬ (2 * nI D.val - 2 : Int32) = 0 := by decide +kernel
  exact this ⟨D, by omega⟩ h1
theorem rndA {D S : Nat} (h : D ≤ 14) (h0 : 1 ≤ D) : (2 * nI D - 2) * nI S = nI ((2 * D - 2) * S) := by
  have e : (2 * nI D - 2 : Int32) = nI (2 * D - 2) := by
    rw [show (2 : Int32) = nI 2 from rfl, pk_mul, pk_sub (by omega)]
  rw [e, pk_mul]
