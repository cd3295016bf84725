/-! frames in a long world, by a mask -/
def fW : List Bool → va_W → va_W → Prop
  | [], w, w1 => w = [] ∧ w1 = []
  | b :: m, w, w1 => ∃ (c c1 : Nat × va_E) (v v1 : va_W), w = c :: v ∧ w1 = c1 :: v1 ∧ (if b then c1.1 = c.1 else c1 = c) ∧ fW m v v1
theorem fW_n : fW [] [] [] := ⟨rfl, rfl⟩
theorem fW_t {m : List Bool} {c c1 : Nat × va_E} {w w1 : va_W} (h : c1.1 = c.1) (k : fW m w w1) : fW (true :: m) (c :: w) (c1 :: w1) := ⟨c, c1, w, w1, rfl, rfl, h, k⟩
theorem fW_f {m : List Bool} {c : Nat × va_E} {w w1 : va_W} (k : fW m w w1) : fW (false :: m) (c :: w) (c :: w1) := ⟨c, c, w, w1, rfl, rfl, rfl, k⟩
theorem fW_get : ∀ {m : List Bool} {w w1 : va_W}, fW m w w1 → (∀ k : Nat, m[k]? = some false → w[k]? = w1[k]?) ∧ w1.map (fun q => q.1) = w.map (fun q => q.1) ∧ w1.length = m.length := by
  intro m
  induction m with
  | nil =>
    intro w w1 h
    obtain ⟨rfl, rfl⟩ := h
    exact ⟨fun k hk => rfl, rfl, rfl⟩
  | cons b m ih =>
    intro w w1 h
    obtain ⟨c, c1, v, v1, rfl, rfl, hb, hr⟩ := h
    obtain ⟨i1, i2, i3⟩ := ih hr
    have ha : c1.1 = c.1 := by
      cases b
      · have hb' : c1 = c := hb
        rw [hb']
      · exact hb
    refine ⟨fun k hk => ?_, ?_, ?_⟩
    · cases k with
      | zero =>
        have e : b = false := by
          have : some b = some false := hk
          exact Option.some.inj this
        rw [e] at hb
        have hb' : c1 = c := hb
        show some c = some c1
        rw [hb']
      | succ k =>
        exact i1 k hk
    · rw [List.map_cons, List.map_cons, i2, ha]
    · rw [List.length_cons, List.length_cons, i3]
theorem frm_msk {w wc wc' w1 : va_W} {m : List Bool} (is : List Nat) (hf : fW m w w1) (hn : va_nd is = true) (h1 : is.map (fun i => w[i]?) = wc.map some) (h2 : is.map (fun i => w1[i]?) = wc'.map some) (hm : ((List.range m.length).all (fun k => decide (k ∈ is) || decide (m[k]? = some false))) = true) : frm w wc wc' w1 := by
  obtain ⟨g1, g2, g3⟩ := fW_get hf
  refine frm_sub is ((List.range m.length).filter (fun k => decide (m[k]? = some false))) hn h1 h2 ?_ ?_ g2
  · refine List.map_congr_left (fun k hk => ?_)
    have := (List.mem_filter.mp hk).2
    exact g1 k (of_decide_eq_true this)
  · rw [g3]
    rw [List.all_eq_true] at hm ⊢
    intro k hk
    have q := hm k hk
    rcases Bool.or_eq_true_iff.mp q with q | q
    · rw [q]; rfl
    · have : k ∈ (List.range m.length).filter (fun k => decide (m[k]? = some false)) := List.mem_filter.mpr ⟨hk, q⟩
      rw [decide_eq_true this, Bool.or_true]
theorem vin_lt {d : Int32} {N : Nat} (h : vp_in d N) : cl d < N := by
  rw [vp_in_iff] at h
  have : (cl d : Int) = d.toInt ∨ cl d = d.toInt.toNat := Or.inr rfl
  omega
theorem inD_cl {d n : Int32} {D : Nat} (h : inD d n) (e : n = nI D) (hD : D < 2 ^ 31) : cl d < D := by
  obtain ⟨h1, h2⟩ := h
  rw [e, nI_toInt hD] at h2
  have : cl d = d.toInt.toNat := rfl
  omega
