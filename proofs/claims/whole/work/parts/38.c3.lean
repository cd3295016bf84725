theorem g_wSP_3_0 {X : CT} {l : Launch} {g : GT} {own : String} {cc : ByteArray} {R : Room} {cs sl pc nx : Nat} {lv : List (Option Value)} {st : List Value} {b : Nat → Nat} {σ : S2} {d : Nat → Nat} {π : S2} (hX : oK X l g own cc R) (hd : dGf own cc pc 2 0 nx) (k : vJ X cs sl (wSP g b σ d π) nx lv (.int (π.1 0) :: st)) : vJ X cs sl (wSP g b σ d π) pc lv (.ref (d 0) :: st) := r_get hX hd 3 rfl rfl k
theorem g_wSP_3_1 {X : CT} {l : Launch} {g : GT} {own : String} {cc : ByteArray} {R : Room} {cs sl pc nx : Nat} {lv : List (Option Value)} {st : List Value} {b : Nat → Nat} {σ : S2} {d : Nat → Nat} {π : S2} (hX : oK X l g own cc R) (hd : dGf own cc pc 2 1 nx) (k : vJ X cs sl (wSP g b σ d π) nx lv (.int (π.1 1) :: st)) : vJ X cs sl (wSP g b σ d π) pc lv (.ref (d 0) :: st) := r_get hX hd 3 rfl rfl k
theorem l_wSP_1 {X : CT} {l : Launch} {g : GT} {own : String} {cc : ByteArray} {R : Room} {cs sl pc nx : Nat} {lv : List (Option Value)} {st : List Value} {b : Nat → Nat} {σ : S2} {d : Nat → Nat} {π : S2} {i : Int32} (hX : oK X l g own cc R) (hd : dR cc pc (.iaload) 1 nx) (hi : vp_in i 14) (k : vJ X cs sl (wSP g b σ d π) nx lv (.int (σ.2 0 i.toNatClampNeg) :: st)) : vJ X cs sl (wSP g b σ d π) pc lv (.int i :: .ref (b 1) :: st) := r_iald hX hd 1 rfl hi k
theorem fr_wSP_wS_0_2 {g : GT} {b : Nat → Nat} {σ : S2} {d : Nat → Nat} {π : S2} {σ' : S2} : frm (wSP g b σ d π) (wS g b σ) (wS g b σ') (wSP g b σ' d π) := frm_sub [0, 1, 2] [3, 4, 5, 6, 7, 8] rfl rfl rfl rfl rfl rfl
theorem fr_wSP_wP_3_8 {g : GT} {b : Nat → Nat} {σ : S2} {d : Nat → Nat} {π : S2} {σ' : S2} : frm (wSP g b σ d π) (wP g d π) (wP g d σ') (wSP g b σ d σ') := frm_sub [3, 4, 5, 6, 7, 8] [0, 1, 2] rfl rfl rfl rfl rfl rfl
theorem s_wSP_1 {X : CT} {l : Launch} {g : GT} {own : String} {cc : ByteArray} {R : Room} {cs sl pc nx : Nat} {lv : List (Option Value)} {st : List Value} {b : Nat → Nat} {σ : S2} {d : Nat → Nat} {π : S2} {i v : Int32} (hX : oK X l g own cc R) (hd : dR cc pc (.iastore) 1 nx) (hi : vp_in i 14) (k : vJ X cs sl (wSP g b (au σ 0 i.toNatClampNeg v) d π) nx lv st) : vJ X cs sl (wSP g b σ d π) pc lv (.int v :: .int i :: .ref (b 1) :: st) := r_iast hX hd 1 rfl hi _ rfl k
theorem g_wSP_3_5 {X : CT} {l : Launch} {g : GT} {own : String} {cc : ByteArray} {R : Room} {cs sl pc nx : Nat} {lv : List (Option Value)} {st : List Value} {b : Nat → Nat} {σ : S2} {d : Nat → Nat} {π : S2} (hX : oK X l g own cc R) (hd : dGf own cc pc 2 5 nx) (k : vJ X cs sl (wSP g b σ d π) nx lv (.ref (d 4) :: st)) : vJ X cs sl (wSP g b σ d π) pc lv (.ref (d 0) :: st) := r_get hX hd 3 rfl rfl k
theorem l_wSP_7 {X : CT} {l : Launch} {g : GT} {own : String} {cc : ByteArray} {R : Room} {cs sl pc nx : Nat} {lv : List (Option Value)} {st : List Value} {b : Nat → Nat} {σ : S2} {d : Nat → Nat} {π : S2} {i : Int32} (hX : oK X l g own cc R) (hd : dR cc pc (.iaload) 1 nx) (hi : vp_in i 4) (k : vJ X cs sl (wSP g b σ d π) nx lv (.int (π.2 5 i.toNatClampNeg) :: st)) : vJ X cs sl (wSP g b σ d π) pc lv (.int i :: .ref (d 4) :: st) := r_iald hX hd 7 rfl hi k
theorem g_wSP_3_7 {X : CT} {l : Launch} {g : GT} {own : String} {cc : ByteArray} {R : Room} {cs sl pc nx : Nat} {lv : List (Option Value)} {st : List Value} {b : Nat → Nat} {σ : S2} {d : Nat → Nat} {π : S2} (hX : oK X l g own cc R) (hd : dGf own cc pc 2 7 nx) (k : vJ X cs sl (wSP g b σ d π) nx lv (.int (π.1 7) :: st)) : vJ X cs sl (wSP g b σ d π) pc lv (.ref (d 0) :: st) := r_get hX hd 3 rfl rfl k
theorem g_wSP_0_2 {X : CT} {l : Launch} {g : GT} {own : String} {cc : ByteArray} {R : Room} {cs sl pc nx : Nat} {lv : List (Option Value)} {st : List Value} {b : Nat → Nat} {σ : S2} {d : Nat → Nat} {π : S2} (hX : oK X l g own cc R) (hd : dGf own cc pc 4 2 nx) (k : vJ X cs sl (wSP g b σ d π) nx lv (.int (σ.1 2) :: st)) : vJ X cs sl (wSP g b σ d π) pc lv (.ref (b 0) :: st) := r_get hX hd 0 rfl rfl k
theorem g_wF_0_3 {X : CT} {l : Launch} {g : GT} {own : String} {cc : ByteArray} {R : Room} {cs sl pc nx : Nat} {lv : List (Option Value)} {st : List Value} {b : Nat → Nat} {σ : S2} (hX : oK X l g own cc R) (hd : dGf own cc pc 1 3 nx) (k : vJ X cs sl (wF g b σ) nx lv (.int (σ.1 3) :: st)) : vJ X cs sl (wF g b σ) pc lv (.ref (b 0) :: st) := r_get hX hd 0 rfl rfl k
theorem g_wF_0_0 {X : CT} {l : Launch} {g : GT} {own : String} {cc : ByteArray} {R : Room} {cs sl pc nx : Nat} {lv : List (Option Value)} {st : List Value} {b : Nat → Nat} {σ : S2} (hX : oK X l g own cc R) (hd : dGf own cc pc 1 0 nx) (k : vJ X cs sl (wF g b σ) nx lv (.ref (b 1) :: st)) : vJ X cs sl (wF g b σ) pc lv (.ref (b 0) :: st) := r_get hX hd 0 rfl rfl k
theorem s_wF_1 {X : CT} {l : Launch} {g : GT} {own : String} {cc : ByteArray} {R : Room} {cs sl pc nx : Nat} {lv : List (Option Value)} {st : List Value} {b : Nat → Nat} {σ : S2} {i v : Int32} (hX : oK X l g own cc R) (hd : dR cc pc (.iastore) 1 nx) (hi : vp_in i 10) (k : vJ X cs sl (wF g b (au σ 0 i.toNatClampNeg v)) nx lv st) : vJ X cs sl (wF g b σ) pc lv (.int v :: .int i :: .ref (b 1) :: st) := r_iast hX hd 1 rfl hi _ rfl k
theorem g_wF_0_1 {X : CT} {l : Launch} {g : GT} {own : String} {cc : ByteArray} {R : Room} {cs sl pc nx : Nat} {lv : List (Option Value)} {st : List Value} {b : Nat → Nat} {σ : S2} (hX : oK X l g own cc R) (hd : dGf own cc pc 1 1 nx) (k : vJ X cs sl (wF g b σ) nx lv (.ref (b 2) :: st)) : vJ X cs sl (wF g b σ) pc lv (.ref (b 0) :: st) := r_get hX hd 0 rfl rfl k
theorem s_wF_2 {X : CT} {l : Launch} {g : GT} {own : String} {cc : ByteArray} {R : Room} {cs sl pc nx : Nat} {lv : List (Option Value)} {st : List Value} {b : Nat → Nat} {σ : S2} {i v : Int32} (hX : oK X l g own cc R) (hd : dR cc pc (.iastore) 1 nx) (hi : vp_in i 10) (k : vJ X cs sl (wF g b (au σ 1 i.toNatClampNeg v)) nx lv st) : vJ X cs sl (wF g b σ) pc lv (.int v :: .int i :: .ref (b 2) :: st) := r_iast hX hd 2 rfl hi _ rfl k
theorem g_wF_0_2 {X : CT} {l : Launch} {g : GT} {own : String} {cc : ByteArray} {R : Room} {cs sl pc nx : Nat} {lv : List (Option Value)} {st : List Value} {b : Nat → Nat} {σ : S2} (hX : oK X l g own cc R) (hd : dGf own cc pc 1 2 nx) (k : vJ X cs sl (wF g b σ) nx lv (.ref (b 3) :: st)) : vJ X cs sl (wF g b σ) pc lv (.ref (b 0) :: st) := r_get hX hd 0 rfl rfl k
theorem s_wF_3 {X : CT} {l : Launch} {g : GT} {own : String} {cc : ByteArray} {R : Room} {cs sl pc nx : Nat} {lv : List (Option Value)} {st : List Value} {b : Nat → Nat} {σ : S2} {i v : Int32} (hX : oK X l g own cc R) (hd : dR cc pc (.bastore) 1 nx) (hi : vp_in i 10) (k : vJ X cs sl (wF g b (au σ 2 i.toNatClampNeg (vp_nar .boolean v))) nx lv st) : vJ X cs sl (wF g b σ) pc lv (.int v :: .int i :: .ref (b 3) :: st) := r_zast hX hd 3 rfl hi _ rfl k
theorem p_wF_0_3 {X : CT} {l : Launch} {g : GT} {own : String} {cc : ByteArray} {R : Room} {cs sl pc nx : Nat} {lv : List (Option Value)} {st : List Value} {b : Nat → Nat} {σ : S2} {v : Int32} (hX : oK X l g own cc R) (hd : dPf own cc pc 1 3 .int nx) (k : vJ X cs sl (wF g b (su σ 3 v)) nx lv st) : vJ X cs sl (wF g b σ) pc lv (.int v :: .ref (b 0) :: st) := r_put hX hd 0 rfl rfl rfl (Nat.le_of_ble_eq_true rfl) _ rfl k
theorem g_wB_0_2 {X : CT} {l : Launch} {g : GT} {own : String} {cc : ByteArray} {R : Room} {cs sl pc nx : Nat} {lv : List (Option Value)} {st : List Value} {b : Nat → Nat} {σ : S2} (hX : oK X l g own cc R) (hd : dGf own cc pc 0 2 nx) (k : vJ X cs sl (wB g b σ) nx lv (.int (σ.1 2) :: st)) : vJ X cs sl (wB g b σ) pc lv (.ref (b 0) :: st) := r_get hX hd 0 rfl rfl k
theorem g_wB_0_0 {X : CT} {l : Launch} {g : GT} {own : String} {cc : ByteArray} {R : Room} {cs sl pc nx : Nat} {lv : List (Option Value)} {st : List Value} {b : Nat → Nat} {σ : S2} (hX : oK X l g own cc R) (hd : dGf own cc pc 0 0 nx) (k : vJ X cs sl (wB g b σ) nx lv (.ref (b 1) :: st)) : vJ X cs sl (wB g b σ) pc lv (.ref (b 0) :: st) := r_get hX hd 0 rfl rfl k
theorem s_wB_1 {X : CT} {l : Launch} {g : GT} {own : String} {cc : ByteArray} {R : Room} {cs sl pc nx : Nat} {lv : List (Option Value)} {st : List Value} {b : Nat → Nat} {σ : S2} {i v : Int32} (hX : oK X l g own cc R) (hd : dR cc pc (.iastore) 1 nx) (hi : vp_in i 15) (k : vJ X cs sl (wB g b (au σ 0 i.toNatClampNeg v)) nx lv st) : vJ X cs sl (wB g b σ) pc lv (.int v :: .int i :: .ref (b 1) :: st) := r_iast hX hd 1 rfl hi _ rfl k
theorem g_wB_0_1 {X : CT} {l : Launch} {g : GT} {own : String} {cc : ByteArray} {R : Room} {cs sl pc nx : Nat} {lv : List (Option Value)} {st : List Value} {b : Nat → Nat} {σ : S2} (hX : oK X l g own cc R) (hd : dGf own cc pc 0 1 nx) (k : vJ X cs sl (wB g b σ) nx lv (.ref (b 2) :: st)) : vJ X cs sl (wB g b σ) pc lv (.ref (b 0) :: st) := r_get hX hd 0 rfl rfl k
theorem s_wB_2 {X : CT} {l : Launch} {g : GT} {own : String} {cc : ByteArray} {R : Room} {cs sl pc nx : Nat} {lv : List (Option Value)} {st : List Value} {b : Nat → Nat} {σ : S2} {i v : Int32} (hX : oK X l g own cc R) (hd : dR cc pc (.iastore) 1 nx) (hi : vp_in i 15) (k : vJ X cs sl (wB g b (au σ 1 i.toNatClampNeg v)) nx lv st) : vJ X cs sl (wB g b σ) pc lv (.int v :: .int i :: .ref (b 2) :: st) := r_iast hX hd 2 rfl hi _ rfl k
theorem p_wB_0_2 {X : CT} {l : Launch} {g : GT} {own : String} {cc : ByteArray} {R : Room} {cs sl pc nx : Nat} {lv : List (Option Value)} {st : List Value} {b : Nat → Nat} {σ : S2} {v : Int32} (hX : oK X l g own cc R) (hd : dPf own cc pc 0 2 .int nx) (k : vJ X cs sl (wB g b (su σ 2 v)) nx lv st) : vJ X cs sl (wB g b σ) pc lv (.int v :: .ref (b 0) :: st) := r_put hX hd 0 rfl rfl rfl (Nat.le_of_ble_eq_true rfl) _ rfl k
theorem l_wF_1 {X : CT} {l : Launch} {g : GT} {own : String} {cc : ByteArray} {R : Room} {cs sl pc nx : Nat} {lv : List (Option Value)} {st : List Value} {b : Nat → Nat} {σ : S2} {i : Int32} (hX : oK X l g own cc R) (hd : dR cc pc (.iaload) 1 nx) (hi : vp_in i 10) (k : vJ X cs sl (wF g b σ) nx lv (.int (σ.2 0 i.toNatClampNeg) :: st)) : vJ X cs sl (wF g b σ) pc lv (.int i :: .ref (b 1) :: st) := r_iald hX hd 1 rfl hi k
theorem l_wF_2 {X : CT} {l : Launch} {g : GT} {own : String} {cc : ByteArray} {R : Room} {cs sl pc nx : Nat} {lv : List (Option Value)} {st : List Value} {b : Nat → Nat} {σ : S2} {i : Int32} (hX : oK X l g own cc R) (hd : dR cc pc (.iaload) 1 nx) (hi : vp_in i 10) (k : vJ X cs sl (wF g b σ) nx lv (.int (σ.2 1 i.toNatClampNeg) :: st)) : vJ X cs sl (wF g b σ) pc lv (.int i :: .ref (b 2) :: st) := r_iald hX hd 2 rfl hi k
theorem l_wF_3 {X : CT} {l : Launch} {g : GT} {own : String} {cc : ByteArray} {R : Room} {cs sl pc nx : Nat} {lv : List (Option Value)} {st : List Value} {b : Nat → Nat} {σ : S2} {i : Int32} (hX : oK X l g own cc R) (hd : dR cc pc (.baload) 1 nx) (hi : vp_in i 10) (k : vJ X cs sl (wF g b σ) nx lv (.int (σ.2 2 i.toNatClampNeg) :: st)) : vJ X cs sl (wF g b σ) pc lv (.int i :: .ref (b 3) :: st) := r_zald hX hd 3 rfl hi k
theorem g_wBA_0_2 {X : CT} {l : Launch} {g : GT} {own : String} {cc : ByteArray} {R : Room} {cs sl pc nx : Nat} {lv : List (Option Value)} {st : List Value} {b : Nat → Nat} {σ : S2} {q : Nat} {n : Nat} {f : Nat → Int32} (hX : oK X l g own cc R) (hd : dGf own cc pc 0 2 nx) (k : vJ X cs sl (wBA g b σ q n f) nx lv (.int (σ.1 2) :: st)) : vJ X cs sl (wBA g b σ q n f) pc lv (.ref (b 0) :: st) := r_get hX hd 0 rfl rfl k
theorem g_wBA_0_0 {X : CT} {l : Launch} {g : GT} {own : String} {cc : ByteArray} {R : Room} {cs sl pc nx : Nat} {lv : List (Option Value)} {st : List Value} {b : Nat → Nat} {σ : S2} {q : Nat} {n : Nat} {f : Nat → Int32} (hX : oK X l g own cc R) (hd : dGf own cc pc 0 0 nx) (k : vJ X cs sl (wBA g b σ q n f) nx lv (.ref (b 1) :: st)) : vJ X cs sl (wBA g b σ q n f) pc lv (.ref (b 0) :: st) := r_get hX hd 0 rfl rfl k
theorem l_wBA_1 {X : CT} {l : Launch} {g : GT} {own : String} {cc : ByteArray} {R : Room} {cs sl pc nx : Nat} {lv : List (Option Value)} {st : List Value} {b : Nat → Nat} {σ : S2} {q : Nat} {n : Nat} {f : Nat → Int32} {i : Int32} (hX : oK X l g own cc R) (hd : dR cc pc (.iaload) 1 nx) (hi : vp_in i 15) (k : vJ X cs sl (wBA g b σ q n f) nx lv (.int (σ.2 0 i.toNatClampNeg) :: st)) : vJ X cs sl (wBA g b σ q n f) pc lv (.int i :: .ref (b 1) :: st) := r_iald hX hd 1 rfl hi k
theorem l_wBA_3 {X : CT} {l : Launch} {g : GT} {own : String} {cc : ByteArray} {R : Room} {cs sl pc nx : Nat} {lv : List (Option Value)} {st : List Value} {b : Nat → Nat} {σ : S2} {q : Nat} {n : Nat} {f : Nat → Int32} {i : Int32} (hX : oK X l g own cc R) (hd : dR cc pc (.iaload) 1 nx) (hi : vp_in i n) (k : vJ X cs sl (wBA g b σ q n f) nx lv (.int (f i.toNatClampNeg) :: st)) : vJ X cs sl (wBA g b σ q n f) pc lv (.int i :: .ref (q) :: st) := r_iald hX hd 3 rfl hi k
theorem g_wBA_0_1 {X : CT} {l : Launch} {g : GT} {own : String} {cc : ByteArray} {R : Room} {cs sl pc nx : Nat} {lv : List (Option Value)} {st : List Value} {b : Nat → Nat} {σ : S2} {q : Nat} {n : Nat} {f : Nat → Int32} (hX : oK X l g own cc R) (hd : dGf own cc pc 0 1 nx) (k : vJ X cs sl (wBA g b σ q n f) nx lv (.ref (b 2) :: st)) : vJ X cs sl (wBA g b σ q n f) pc lv (.ref (b 0) :: st) := r_get hX hd 0 rfl rfl k
theorem l_wBA_2 {X : CT} {l : Launch} {g : GT} {own : String} {cc : ByteArray} {R : Room} {cs sl pc nx : Nat} {lv : List (Option Value)} {st : List Value} {b : Nat → Nat} {σ : S2} {q : Nat} {n : Nat} {f : Nat → Int32} {i : Int32} (hX : oK X l g own cc R) (hd : dR cc pc (.iaload) 1 nx) (hi : vp_in i 15) (k : vJ X cs sl (wBA g b σ q n f) nx lv (.int (σ.2 1 i.toNatClampNeg) :: st)) : vJ X cs sl (wBA g b σ q n f) pc lv (.int i :: .ref (b 2) :: st) := r_iald hX hd 2 rfl hi k
set_option maxHeartbeats 400000 in
theorem c_X4_washDoors (l : Launch) (g : GT) (b : Nat → Nat) (σ : S2) (d : Nat → Nat) (π : S2)  (D : Nat) (hD : D ≤ 14) (eD : π.1 0 = nI D) (C : Nat) (hC : C ≤ 4) (eC : π.1 1 = nI C) (hK : ∀ j, j < C → kind3 (π.2 2 j)) : Cx l g yX4_washDoors cX4_washDoors 4 none (k2_rm 1 30) [.ref (b 0), .ref (d 0)] (wSP g b σ d π) none (wSP g b (su (aw σ 0 (rainF D C (fun c => wshF (π.2 2 c) (π.2 3 c)) (σ.2 0, σ.1 4)).1) 4 (rainF D C (fun c => wshF (π.2 2 c) (π.2 3 c)) (σ.2 0, σ.1 4)).2) d π) := by
  refine meth (own := "ChalkedDoors$Scene") (by decide) rfl (Nat.le_of_ble_eq_true rfl) [some (.ref (b 0)), some (.ref (d 0)), none, none] rfl (fun X hX hQ => ?_)
  generalize hsp : rainF D C (fun c => wshF (π.2 2 c) (π.2 3 c)) (σ.2 0, σ.1 4) = S at hQ
  unfold rainF at hsp
  have hL2 : ∀ (n i : Nat) (x : Int32) (mk : Nat → Int32) (sd : Int32), x = nI i → i + n = D → S = lp (fun d s => lp (rainC (fun c => wshF (π.2 2 c) (π.2 3 c)) d (s.1 d)) C 0 s) n i (mk, sd) → vJ X 0 0 (wSP g b (su (aw σ 0 mk) 4 sd) d π) 2 [some (.ref (b 0)), some (.ref (d 0)), some (.int x), none] [] := by
    intro n
    induction n with
    | zero =>
      intro i x mk sd hx hn hs
      refine r_iload2 hX dX4_washDoors_2 ?_
      refine r_aload1 hX dX4_washDoors_3 ?_
      refine g_wSP_3_0 hX dX4_washDoors_4 ?_
      refine r_ic_ge hX dX4_washDoors_7 (fun h7 => ?_) (fun h7 => absurd (lpx (e := D) hx eD (by omega) (by omega) (by omega)) h7)
      exact r_vret hX hQ dX4_washDoors_74 (by rw [hs] <;> rfl)
    | succ n ih =>
      intro i x mk sd hx hn hs
      have hvx : vp_in x 14 := by rw [hx]; exact vp_in_nI (by omega) (by omega)
      have hcx : cl x = i := by rw [hx]; exact nI_clamp (by omega)
      have hL12 : ∀ (n2 i2 : Nat) (y : Int32) (mk' : Nat → Int32) (sd' : Int32), y = nI i2 → i2 + n2 = C → (∀ j, i2 ≤ j → j < 4 → (hb (mk' i) (nI j) ↔ hb (mk i) (nI j))) → lp (rainC (fun c => wshF (π.2 2 c) (π.2 3 c)) i (mk i)) C 0 (mk, sd) = lp (rainC (fun c => wshF (π.2 2 c) (π.2 3 c)) i (mk i)) n2 i2 (mk', sd') → vJ X 0 0 (wSP g b (su (aw σ 0 mk') 4 sd') d π) 12 [some (.ref (b 0)), some (.ref (d 0)), some (.int x), some (.int y)] [] := by
        intro n2
        induction n2 with
        | zero =>
          intro i2 y mk' sd' hx2 hn2 hW hT
          refine r_iload3 hX dX4_washDoors_12 ?_
          refine r_aload1 hX dX4_washDoors_13 ?_
          refine g_wSP_3_1 hX dX4_washDoors_14 ?_
          refine r_ic_ge hX dX4_washDoors_17 (fun h17 => ?_) (fun h17 => absurd (lpx (e := C) hx2 eC (by omega) (by omega) (by omega)) h17)
          refine r_iinc2 hX dX4_washDoors_68 rfl ?_
          refine r_goto hX dX4_washDoors_71 ?_
          refine r_fg3 ?_
          exact ih (i + 1) _ mk' sd' (by rw [hx]; exact nI_1 i) (by omega) (by rw [hs]; show lp _ n (i + 1) (lp (rainC _ i (mk i)) C 0 (mk, sd)) = _; rw [hT]; rfl)
        | succ n2 ih2 =>
          intro i2 y mk' sd' hx2 hn2 hW hT
          have hvy : vp_in y 4 := by rw [hx2]; exact vp_in_nI (by omega) (by omega)
          have hcy : cl y = i2 := by rw [hx2]; exact nI_clamp (by omega)
          have hcx' : x.toNatClampNeg = i := hcx
          refine r_iload3 hX dX4_washDoors_12 ?_
          refine r_aload1 hX dX4_washDoors_13 ?_
          refine g_wSP_3_1 hX dX4_washDoors_14 ?_
          refine r_ic_ge hX dX4_washDoors_17 (fun h17 => absurd h17 (lpn (e := C) hx2 eC (by omega) (by omega))) (fun h17 => ?_)
          refine r_aload0 hX dX4_washDoors_20 ?_
          refine g_wSP_0_0 hX dX4_washDoors_21 ?_
          refine r_iload2 hX dX4_washDoors_24 ?_
          refine l_wSP_1 hX dX4_washDoors_25 hvx ?_
          refine r_iload3 hX dX4_washDoors_26 ?_
          refine r_nS2i hX dX4_washDoors_27 kX5_has (c_X5_has l g _ _) (by decide) (Nat.le_of_ble_eq_true rfl) ?_
          refine r_if_eq hX dX4_washDoors_30 (fun h30 => ?_) (fun h30 => ?_)
          · refine r_iinc3 hX dX4_washDoors_62 rfl ?_
            refine r_goto hX dX4_washDoors_65 ?_
            refine vJw (w' := wSP g b (su (aw σ 0 mk') 4 sd') d π) rfl ?_
            exact ih2 (i2 + 1) _ mk' sd' (by rw [hx2]; exact nI_1 i2) (by omega) (fun j h1 h2 => hW j (by omega) h2) (by rw [hT]; show lp _ n2 (i2 + 1) (rainC _ _ _ i2 (mk', sd')) = _; rw [rainC_no (show ¬ hb (mk i) (nI i2) from fun z => bI_z h30 (by rw [hx2]; rw [← (hW i2 (Nat.le_refl _) (by omega))] at z; rw [hcx']; exact z))])
          · refine r_aload0 hX dX4_washDoors_33 ?_
            refine r_cV0i hX dX4_washDoors_34 kX4_draw fr_wSP_wS_0_2 (c_X4_draw l g _ _) rfl (by decide) (Nat.le_of_ble_eq_true rfl) ?_
            refine r_push hX dX4_washDoors_37 ?_
            refine r_irem hX dX4_washDoors_39 (by decide) ?_
            refine r_aload1 hX dX4_washDoors_40 ?_
            refine r_iload3 hX dX4_washDoors_41 ?_
            refine r_cV1i hX dX4_washDoors_42 kX2_washedBy fr_wSP_wP_3_8 (c_X2_washedBy l g _ _ _ hvy (by rw [hcy]; exact hK i2 (by omega))) rfl (by decide) (Nat.le_of_ble_eq_true rfl) ?_
            refine r_ic_ge hX dX4_washDoors_45 (fun h45 => ?_) (fun h45 => ?_)
            · refine r_iinc3 hX dX4_washDoors_62 rfl ?_
              refine r_goto hX dX4_washDoors_65 ?_
              refine vJw (w' := wSP g b (su (aw σ 0 mk') 4 (drawF sd')) d π) rfl ?_
              exact ih2 (i2 + 1) _ mk' (drawF sd') (by rw [hx2]; exact nI_1 i2) (by omega) (fun j h1 h2 => hW j (by omega) h2) (by rw [hT]; show lp _ n2 (i2 + 1) (rainC _ _ _ i2 (mk', sd')) = _; rw [rainC_st (m := mk') (z := sd') (wb := (fun c => wshF (π.2 2 c) (π.2 3 c))) (d := i) (show hb (mk i) (nI i2) by rw [← (hW i2 (Nat.le_refl _) (by omega)), ← hx2, ← hcx']; exact bI_nz h30) (show wshF (π.2 2 i2) (π.2 3 i2) ≤ dvF (drawF sd') 8 by rw [← dvQ, ← hcy]; exact h45)])
            · refine r_aload0 hX dX4_washDoors_48 ?_
              refine g_wSP_0_0 hX dX4_washDoors_49 ?_
              refine r_iload2 hX dX4_washDoors_52 ?_
              refine r_dup2 hX dX4_washDoors_53 rfl rfl ?_
              refine l_wSP_1 hX dX4_washDoors_54 hvx ?_
              refine r_push hX dX4_washDoors_55 ?_
              refine r_iload3 hX dX4_washDoors_56 ?_
              refine r_ishl hX dX4_washDoors_57 ?_
              refine r_push hX dX4_washDoors_58 ?_
              refine r_ixor hX dX4_washDoors_59 ?_
              refine r_iand hX dX4_washDoors_60 ?_
              refine s_wSP_1 hX dX4_washDoors_61 hvx ?_
              refine r_iinc3 hX dX4_washDoors_62 rfl ?_
              refine r_goto hX dX4_washDoors_65 ?_
              refine vJw (w' := wSP g b (su (aw σ 0 (upd mk' (cl x) (mk' (cl x) &&& (bit y ^^^ -1)))) 4 (drawF sd')) d π) rfl ?_
              exact ih2 (i2 + 1) _ (upd mk' (cl x) (mk' (cl x) &&& (bit y ^^^ -1))) (drawF sd') (by rw [hx2]; exact nI_1 i2) (by omega) (fun j h1 h2 => by rw [hcx, pk_us, hx2, hb_clr (by omega) (by omega) (by omega)]; exact hW j (by omega) h2) (by rw [hT]; show lp _ n2 (i2 + 1) (rainC _ _ _ i2 (mk', sd')) = _; rw [rainC_wa (m := mk') (z := sd') (wb := (fun c => wshF (π.2 2 c) (π.2 3 c))) (d := i) (show hb (mk i) (nI i2) by rw [← (hW i2 (Nat.le_refl _) (by omega)), ← hx2, ← hcx']; exact bI_nz h30) (show ¬ wshF (π.2 2 i2) (π.2 3 i2) ≤ dvF (drawF sd') 8 by rw [← dvQ, ← hcy]; exact h45)]; rw [hcx, hx2])
      refine r_iload2 hX dX4_washDoors_2 ?_
      refine r_aload1 hX dX4_washDoors_3 ?_
      refine g_wSP_3_0 hX dX4_washDoors_4 ?_
      refine r_ic_ge hX dX4_washDoors_7 (fun h7 => absurd h7 (lpn (e := D) hx eD (by omega) (by omega))) (fun h7 => ?_)
      refine r_push hX dX4_washDoors_10 ?_
      refine r_istore3 hX dX4_washDoors_11 rfl ?_
      exact hL12 C 0 _ mk sd rfl (by omega) (fun j _ _ => Iff.rfl) rfl
  refine r_push hX dX4_washDoors_0 ?_
  refine r_istore2 hX dX4_washDoors_1 rfl ?_
  refine vJw (w' := wSP g b (su (aw σ 0 (σ.2 0)) 4 (σ.1 4)) d π) rfl ?_
  exact hL2 D 0 _ _ _ rfl (by omega) hsp.symm
set_option maxHeartbeats 400000 in
theorem c_X4_letChildrenPlay (l : Launch) (g : GT) (b : Nat → Nat) (σ : S2) (d : Nat → Nat) (π : S2)  (D : Nat) (hD : D ≤ 14) (eD : π.1 0 = nI D) (C : Nat) (hC : C ≤ 4) (eC : π.1 1 = nI C) : Cx l g yX4_letChildrenPlay cX4_letChildrenPlay 4 none (k2_rm 1 30) [.ref (b 0), .ref (d 0)] (wSP g b σ d π) none (wSP g b (su (aw σ 0 (playF D C (π.2 5) (σ.2 0, σ.1 4)).1) 4 (playF D C (π.2 5) (σ.2 0, σ.1 4)).2) d π) := by
  refine meth (own := "ChalkedDoors$Scene") (by decide) rfl (Nat.le_of_ble_eq_true rfl) [some (.ref (b 0)), some (.ref (d 0)), none, none] rfl (fun X hX hQ => ?_)
  generalize hsp : playF D C (π.2 5) (σ.2 0, σ.1 4) = S at hQ
  unfold playF at hsp
  have hL2 : ∀ (n i : Nat) (x : Int32) (mk : Nat → Int32) (sd : Int32), x = nI i → i + n = D → S = lp (fun d s => lp (playC (π.2 5) d) C 0 s) n i (mk, sd) → vJ X 0 0 (wSP g b (su (aw σ 0 mk) 4 sd) d π) 2 [some (.ref (b 0)), some (.ref (d 0)), some (.int x), none] [] := by
    intro n
    induction n with
    | zero =>
      intro i x mk sd hx hn hs
      refine r_iload2 hX dX4_letChildrenPlay_2 ?_
      refine r_aload1 hX dX4_letChildrenPlay_3 ?_
      refine g_wSP_3_0 hX dX4_letChildrenPlay_4 ?_
      refine r_ic_ge hX dX4_letChildrenPlay_7 (fun h7 => ?_) (fun h7 => absurd (lpx (e := D) hx eD (by omega) (by omega) (by omega)) h7)
      exact r_vret hX hQ dX4_letChildrenPlay_69 (by rw [hs] <;> rfl)
    | succ n ih =>
      intro i x mk sd hx hn hs
      have hvx : vp_in x 14 := by rw [hx]; exact vp_in_nI (by omega) (by omega)
      have hcx : cl x = i := by rw [hx]; exact nI_clamp (by omega)
      have hL12 : ∀ (n2 i2 : Nat) (y : Int32) (mk' : Nat → Int32) (sd' : Int32), y = nI i2 → i2 + n2 = C → lp (playC (π.2 5) i) C 0 (mk, sd) = lp (playC (π.2 5) i) n2 i2 (mk', sd') → vJ X 0 0 (wSP g b (su (aw σ 0 mk') 4 sd') d π) 12 [some (.ref (b 0)), some (.ref (d 0)), some (.int x), some (.int y)] [] := by
        intro n2
        induction n2 with
        | zero =>
          intro i2 y mk' sd' hx2 hn2 hT
          refine r_iload3 hX dX4_letChildrenPlay_12 ?_
          refine r_aload1 hX dX4_letChildrenPlay_13 ?_
          refine g_wSP_3_1 hX dX4_letChildrenPlay_14 ?_
          refine r_ic_ge hX dX4_letChildrenPlay_17 (fun h17 => ?_) (fun h17 => absurd (lpx (e := C) hx2 eC (by omega) (by omega) (by omega)) h17)
          refine r_iinc2 hX dX4_letChildrenPlay_63 rfl ?_
          refine r_goto hX dX4_letChildrenPlay_66 ?_
          refine r_fg3 ?_
          exact ih (i + 1) _ mk' sd' (by rw [hx]; exact nI_1 i) (by omega) (by rw [hs]; show lp _ n (i + 1) (lp (playC _ i) C 0 (mk, sd)) = _; rw [hT]; rfl)
        | succ n2 ih2 =>
          intro i2 y mk' sd' hx2 hn2 hT
          have hvy : vp_in y 4 := by rw [hx2]; exact vp_in_nI (by omega) (by omega)
          have hcy : cl y = i2 := by rw [hx2]; exact nI_clamp (by omega)
          refine r_iload3 hX dX4_letChildrenPlay_12 ?_
          refine r_aload1 hX dX4_letChildrenPlay_13 ?_
          refine g_wSP_3_1 hX dX4_letChildrenPlay_14 ?_
          refine r_ic_ge hX dX4_letChildrenPlay_17 (fun h17 => absurd h17 (lpn (e := C) hx2 eC (by omega) (by omega))) (fun h17 => ?_)
          refine r_aload1 hX dX4_letChildrenPlay_20 ?_
          refine g_wSP_3_5 hX dX4_letChildrenPlay_21 ?_
          refine r_iload3 hX dX4_letChildrenPlay_24 ?_
          refine l_wSP_7 hX dX4_letChildrenPlay_25 hvy ?_
          refine r_if_le hX dX4_letChildrenPlay_26 (fun h26 => ?_) (fun h26 => ?_)
          · refine r_iinc3 hX dX4_letChildrenPlay_57 rfl ?_
            refine r_goto hX dX4_letChildrenPlay_60 ?_
            refine vJw (w' := wSP g b (su (aw σ 0 mk') 4 sd') d π) rfl ?_
            exact ih2 (i2 + 1) _ mk' sd' (by rw [hx2]; exact nI_1 i2) (by omega) (by rw [hT]; show lp _ n2 (i2 + 1) (playC _ _ i2 (mk', sd')) = _; rw [playC_no (show π.2 5 i2 ≤ 0 by rw [← hcy]; exact h26)])
          · refine r_aload0 hX dX4_letChildrenPlay_29 ?_
            refine r_cV0i hX dX4_letChildrenPlay_30 kX4_draw fr_wSP_wS_0_2 (c_X4_draw l g _ _) rfl (by decide) (Nat.le_of_ble_eq_true rfl) ?_
            refine r_push hX dX4_letChildrenPlay_33 ?_
            refine r_irem hX dX4_letChildrenPlay_35 (by decide) ?_
            refine r_aload1 hX dX4_letChildrenPlay_36 ?_
            refine g_wSP_3_5 hX dX4_letChildrenPlay_37 ?_
            refine r_iload3 hX dX4_letChildrenPlay_40 ?_
            refine l_wSP_7 hX dX4_letChildrenPlay_41 hvy ?_
            refine r_ic_ge hX dX4_letChildrenPlay_42 (fun h42 => ?_) (fun h42 => ?_)
            · refine r_iinc3 hX dX4_letChildrenPlay_57 rfl ?_
              refine r_goto hX dX4_letChildrenPlay_60 ?_
              refine vJw (w' := wSP g b (su (aw σ 0 mk') 4 (drawF sd')) d π) rfl ?_
              exact ih2 (i2 + 1) _ mk' (drawF sd') (by rw [hx2]; exact nI_1 i2) (by omega) (by rw [hT]; show lp _ n2 (i2 + 1) (playC _ _ i2 (mk', sd')) = _; rw [playC_st (m := mk') (z := sd') (ch := π.2 5) (d := i) (show ¬ π.2 5 i2 ≤ 0 by rw [← hcy]; exact h26) (show π.2 5 i2 ≤ dvF (drawF sd') 64 by rw [← dvQ, ← hcy]; exact h42)])
            · refine r_aload0 hX dX4_letChildrenPlay_45 ?_
              refine g_wSP_0_0 hX dX4_letChildrenPlay_46 ?_
              refine r_iload2 hX dX4_letChildrenPlay_49 ?_
              refine r_dup2 hX dX4_letChildrenPlay_50 rfl rfl ?_
              refine l_wSP_1 hX dX4_letChildrenPlay_51 hvx ?_
              refine r_push hX dX4_letChildrenPlay_52 ?_
              refine r_iload3 hX dX4_letChildrenPlay_53 ?_
              refine r_ishl hX dX4_letChildrenPlay_54 ?_
              refine r_ior hX dX4_letChildrenPlay_55 ?_
              refine s_wSP_1 hX dX4_letChildrenPlay_56 hvx ?_
              refine r_iinc3 hX dX4_letChildrenPlay_57 rfl ?_
              refine r_goto hX dX4_letChildrenPlay_60 ?_
              refine vJw (w' := wSP g b (su (aw σ 0 (upd mk' (cl x) (mk' (cl x) ||| bit y))) 4 (drawF sd')) d π) rfl ?_
              exact ih2 (i2 + 1) _ (upd mk' (cl x) (mk' (cl x) ||| bit y)) (drawF sd') (by rw [hx2]; exact nI_1 i2) (by omega) (by rw [hT]; show lp _ n2 (i2 + 1) (playC _ _ i2 (mk', sd')) = _; rw [playC_pu (m := mk') (z := sd') (ch := π.2 5) (d := i) (show ¬ π.2 5 i2 ≤ 0 by rw [← hcy]; exact h26) (show ¬ π.2 5 i2 ≤ dvF (drawF sd') 64 by rw [← dvQ, ← hcy]; exact h42)]; rw [hcx, hx2])
      refine r_iload2 hX dX4_letChildrenPlay_2 ?_
      refine r_aload1 hX dX4_letChildrenPlay_3 ?_
      refine g_wSP_3_0 hX dX4_letChildrenPlay_4 ?_
      refine r_ic_ge hX dX4_letChildrenPlay_7 (fun h7 => absurd h7 (lpn (e := D) hx eD (by omega) (by omega))) (fun h7 => ?_)
      refine r_push hX dX4_letChildrenPlay_10 ?_
      refine r_istore3 hX dX4_letChildrenPlay_11 rfl ?_
      exact hL12 C 0 _ mk sd rfl (by omega) rfl
  refine r_push hX dX4_letChildrenPlay_0 ?_
  refine r_istore2 hX dX4_letChildrenPlay_1 rfl ?_
  refine vJw (w' := wSP g b (su (aw σ 0 (σ.2 0)) 4 (σ.1 4)) d π) rfl ?_
  exact hL2 D 0 _ _ _ rfl (by omega) hsp.symm
set_option maxHeartbeats 400000 in
theorem c_X4_passNight (l : Launch) (g : GT) (b : Nat → Nat) (σ : S2) (d : Nat → Nat) (π : S2)  (D : Nat) (hD : D ≤ 14) (eD : π.1 0 = nI D) (C : Nat) (hC : C ≤ 4) (eC : π.1 1 = nI C) (hK : ∀ j, j < C → kind3 (π.2 2 j)) : Cx l g yX4_passNight cX4_passNight 2 none (k2_rm 2 60) [.ref (b 0), .ref (d 0)] (wSP g b σ d π) none (wSP g b (su (su (aw σ 0 (nightS D C (fun c => wshF (π.2 2 c) (π.2 3 c)) (π.2 5) (π.1 7) (σ.2 0, σ.1 4)).1) 4 (nightS D C (fun c => wshF (π.2 2 c) (π.2 3 c)) (π.2 5) (π.1 7) (σ.2 0, σ.1 4)).2) 2 (σ.1 2 + 1)) d π) := by
  refine meth (own := "ChalkedDoors$Scene") (by decide) rfl (Nat.le_of_ble_eq_true rfl) [some (.ref (b 0)), some (.ref (d 0))] rfl (fun X hX hQ => ?_)
  refine r_aload0 hX dX4_passNight_0 ?_
  refine r_cV0i hX dX4_passNight_1 kX4_draw fr_wSP_wS_0_2 (c_X4_draw l g _ _) rfl (by decide) (Nat.le_of_ble_eq_true rfl) ?_
  refine r_push hX dX4_passNight_4 ?_
  refine r_irem hX dX4_passNight_6 (by decide) ?_
  refine r_aload1 hX dX4_passNight_7 ?_
  refine g_wSP_3_7 hX dX4_passNight_8 ?_
  refine r_ic_ge hX dX4_passNight_11 (fun h11 => ?_) (fun h11 => ?_)
  · refine r_aload0 hX dX4_passNight_19 ?_
    refine r_aload1 hX dX4_passNight_20 ?_
    refine r_aV1v hX dX4_passNight_21 kX4_letChildrenPlay (c_X4_letChildrenPlay l g _ _ _ _ D hD eD C hC eC) ad_wSP rfl (by decide) (Nat.le_of_ble_eq_true rfl) ?_
    refine r_aload0 hX dX4_passNight_24 ?_
    refine r_dup hX dX4_passNight_25 rfl ?_
    refine g_wSP_0_2 hX dX4_passNight_26 ?_
    refine r_push hX dX4_passNight_29 ?_
    refine r_iadd hX dX4_passNight_30 ?_
    refine p_wSP_0_2 hX dX4_passNight_31 ?_
    exact r_vret hX hQ dX4_passNight_34 (by unfold nightS; rw [if_pos (show π.1 7 ≤ dvF (drawF (σ.1 4)) 8 by rw [← dvQ]; exact h11)] <;> rfl)
  · refine r_aload0 hX dX4_passNight_14 ?_
    refine r_aload1 hX dX4_passNight_15 ?_
    refine r_aV1v hX dX4_passNight_16 kX4_washDoors (c_X4_washDoors l g _ _ _ _ D hD eD C hC eC hK) ad_wSP rfl (by decide) (Nat.le_of_ble_eq_true rfl) ?_
    refine r_aload0 hX dX4_passNight_19 ?_
    refine r_aload1 hX dX4_passNight_20 ?_
    refine r_aV1v hX dX4_passNight_21 kX4_letChildrenPlay (c_X4_letChildrenPlay l g _ _ _ _ D hD eD C hC eC) ad_wSP rfl (by decide) (Nat.le_of_ble_eq_true rfl) ?_
    refine r_aload0 hX dX4_passNight_24 ?_
    refine r_dup hX dX4_passNight_25 rfl ?_
    refine g_wSP_0_2 hX dX4_passNight_26 ?_
    refine r_push hX dX4_passNight_29 ?_
    refine r_iadd hX dX4_passNight_30 ?_
    refine p_wSP_0_2 hX dX4_passNight_31 ?_
    exact r_vret hX hQ dX4_passNight_34 (by unfold nightS; rw [if_neg (show ¬ π.1 7 ≤ dvF (drawF (σ.1 4)) 8 by rw [← dvQ]; exact h11)] <;> rfl)
set_option maxHeartbeats 400000 in
theorem c_X1_add (l : Launch) (g : GT) (b : Nat → Nat) (σ : S2) (d n0 z : Int32) (N : Nat) (hN : N ≤ 10) (eN : σ.1 3 = nI N) : Cx l g yX1_add cX1_add 4 (some .int) (k2_rm 0 0) [.ref (b 0), .int d, .int n0, .int z] (wF g b σ) (some (.int (if σ.1 3 < 10 then σ.1 3 + 1 else -1000000004))) (wF g b (if σ.1 3 < 10 then su (au (au (au σ 0 (cl (σ.1 3)) d) 1 (cl (σ.1 3)) n0) 2 (cl (σ.1 3)) (vp_nar .boolean z)) 3 (σ.1 3 + 1) else σ)) := by
  refine meth (own := "ChalkedDoors$Fashion") (by decide) rfl (Nat.le_of_ble_eq_true rfl) [some (.ref (b 0)), some (.int d), some (.int n0), some (.int z)] rfl (fun X hX hQ => ?_)
  refine r_aload0 hX dX1_add_0 ?_
  refine g_wF_0_3 hX dX1_add_1 ?_
  refine r_push hX dX1_add_4 ?_
  refine r_ic_lt hX dX1_add_6 (fun h6 => ?_) (fun h6 => ?_)
  · refine r_aload0 hX dX1_add_12 ?_
    refine g_wF_0_0 hX dX1_add_13 ?_
    refine r_aload0 hX dX1_add_16 ?_
    refine g_wF_0_3 hX dX1_add_17 ?_
    refine r_iload1 hX dX1_add_20 ?_
    refine s_wF_1 hX dX1_add_21 (by show vp_in (σ.1 3) _; rw [eN]; exact vp_in_nI (Nat.lt_of_not_le (fun z => absurd h6 (by rw [eN]; exact nI_nlt z (by omega)))) (by omega)) ?_
    refine r_aload0 hX dX1_add_22 ?_
    refine g_wF_0_1 hX dX1_add_23 ?_
    refine r_aload0 hX dX1_add_26 ?_
    refine g_wF_0_3 hX dX1_add_27 ?_
    refine r_iload2 hX dX1_add_30 ?_
    refine s_wF_2 hX dX1_add_31 (by show vp_in (σ.1 3) _; rw [eN]; exact vp_in_nI (Nat.lt_of_not_le (fun z => absurd h6 (by rw [eN]; exact nI_nlt z (by omega)))) (by omega)) ?_
    refine r_aload0 hX dX1_add_32 ?_
    refine g_wF_0_2 hX dX1_add_33 ?_
    refine r_aload0 hX dX1_add_36 ?_
    refine g_wF_0_3 hX dX1_add_37 ?_
    refine r_iload3 hX dX1_add_40 ?_
    refine s_wF_3 hX dX1_add_41 (by show vp_in (σ.1 3) _; rw [eN]; exact vp_in_nI (Nat.lt_of_not_le (fun z => absurd h6 (by rw [eN]; exact nI_nlt z (by omega)))) (by omega)) ?_
    refine r_aload0 hX dX1_add_42 ?_
    refine r_dup hX dX1_add_43 rfl ?_
    refine g_wF_0_3 hX dX1_add_44 ?_
    refine r_push hX dX1_add_47 ?_
    refine r_iadd hX dX1_add_48 ?_
    refine p_wF_0_3 hX dX1_add_49 ?_
    refine r_aload0 hX dX1_add_52 ?_
    refine g_wF_0_3 hX dX1_add_53 ?_
    exact r_iret hX hQ dX1_add_56 (by rw [if_pos h6] <;> rfl) (by rw [if_pos h6] <;> rfl)
  · refine r_push hX dX1_add_9 ?_
    exact r_iret hX hQ dX1_add_11 (by rw [if_neg h6]) (by rw [if_neg h6])
set_option maxHeartbeats 400000 in
theorem c_X0_add (l : Launch) (g : GT) (b : Nat → Nat) (σ : S2) (d t : Int32) (N : Nat) (hN : N ≤ 15) (eN : σ.1 2 = nI N) : Cx l g yX0_add cX0_add 3 (some .int) (k2_rm 0 0) [.ref (b 0), .int d, .int t] (wB g b σ) (some (.int (if σ.1 2 < 15 then σ.1 2 + 1 else -1000000004))) (wB g b (if σ.1 2 < 15 then su (au (au σ 0 (cl (σ.1 2)) d) 1 (cl (σ.1 2)) t) 2 (σ.1 2 + 1) else σ)) := by
  refine meth (own := "ChalkedDoors$Book") (by decide) rfl (Nat.le_of_ble_eq_true rfl) [some (.ref (b 0)), some (.int d), some (.int t)] rfl (fun X hX hQ => ?_)
  refine r_aload0 hX dX0_add_0 ?_
  refine g_wB_0_2 hX dX0_add_1 ?_
  refine r_push hX dX0_add_4 ?_
  refine r_ic_lt hX dX0_add_6 (fun h6 => ?_) (fun h6 => ?_)
  · refine r_aload0 hX dX0_add_12 ?_
    refine g_wB_0_0 hX dX0_add_13 ?_
    refine r_aload0 hX dX0_add_16 ?_
    refine g_wB_0_2 hX dX0_add_17 ?_
    refine r_iload1 hX dX0_add_20 ?_
    refine s_wB_1 hX dX0_add_21 (by show vp_in (σ.1 2) _; rw [eN]; exact vp_in_nI (Nat.lt_of_not_le (fun z => absurd h6 (by rw [eN]; exact nI_nlt z (by omega)))) (by omega)) ?_
    refine r_aload0 hX dX0_add_22 ?_
    refine g_wB_0_1 hX dX0_add_23 ?_
    refine r_aload0 hX dX0_add_26 ?_
    refine g_wB_0_2 hX dX0_add_27 ?_
    refine r_iload2 hX dX0_add_30 ?_
    refine s_wB_2 hX dX0_add_31 (by show vp_in (σ.1 2) _; rw [eN]; exact vp_in_nI (Nat.lt_of_not_le (fun z => absurd h6 (by rw [eN]; exact nI_nlt z (by omega)))) (by omega)) ?_
    refine r_aload0 hX dX0_add_32 ?_
    refine r_dup hX dX0_add_33 rfl ?_
    refine g_wB_0_2 hX dX0_add_34 ?_
    refine r_push hX dX0_add_37 ?_
    refine r_iadd hX dX0_add_38 ?_
    refine p_wB_0_2 hX dX0_add_39 ?_
    refine r_aload0 hX dX0_add_42 ?_
    refine g_wB_0_2 hX dX0_add_43 ?_
    exact r_iret hX hQ dX0_add_46 (by rw [if_pos h6] <;> rfl) (by rw [if_pos h6] <;> rfl)
  · refine r_push hX dX0_add_9 ?_
    exact r_iret hX hQ dX0_add_11 (by rw [if_neg h6]) (by rw [if_neg h6])
set_option maxHeartbeats 400000 in
theorem c_X1_allFits (l : Launch) (g : GT) (b : Nat → Nat) (σ : S2) (d u : Int32) (N : Nat) (hN : N ≤ 10) (eN : σ.1 3 = nI N) (hA : ∀ k, k < N → (if 0 ≤ σ.2 0 k - d then σ.2 0 k - d else 0 - (σ.2 0 k - d)) = awayF (σ.2 0 k) d) : Cx l g yX1_allFits cX1_allFits 5 (some .boolean) (k2_rm 1 30) [.ref (b 0), .int d, .int u] (wF g b σ) (some (.int (bI (canP N (σ.2 0) (σ.2 1) (σ.2 2) u d)))) (wF g b σ) := by
  refine meth (own := "ChalkedDoors$Fashion") (by decide) rfl (Nat.le_of_ble_eq_true rfl) [some (.ref (b 0)), some (.int d), some (.int u), none, none] rfl (fun X hX hQ => ?_)
  have hL2 : ∀ (n i : Nat) (x : Int32) (o4 : Option Value), x = nI i → i + n = N → (canP i (σ.2 0) (σ.2 1) (σ.2 2) u d) → vJ X 0 0 (wF g b σ) 2 [some (.ref (b 0)), some (.int d), some (.int u), some (.int x), o4] [] := by
    intro n
    induction n with
    | zero =>
      intro i x o4 hx hn hs
      refine r_iload3 hX dX1_allFits_2 ?_
      refine r_aload0 hX dX1_allFits_3 ?_
      refine g_wF_0_3 hX dX1_allFits_4 ?_
      refine r_ic_ge hX dX1_allFits_7 (fun h7 => ?_) (fun h7 => absurd (lpx (e := N) hx eN (by omega) (by omega) (by omega)) h7)
      refine r_push hX dX1_allFits_58 ?_
      exact r_zret hX hQ dX1_allFits_59 rfl (by rw [bI_t (show canP N (σ.2 0) (σ.2 1) (σ.2 2) u d from fun k hk => hs k (by omega))]) (rfl)
    | succ n ih =>
      intro i x o4 hx hn hs
      have hvx : vp_in x 10 := by rw [hx]; exact vp_in_nI (by omega) (by omega)
      have hcx : cl x = i := by rw [hx]; exact nI_clamp (by omega)
      have hcx' : x.toNatClampNeg = i := hcx
      refine r_iload3 hX dX1_allFits_2 ?_
      refine r_aload0 hX dX1_allFits_3 ?_
      refine g_wF_0_3 hX dX1_allFits_4 ?_
      refine r_ic_ge hX dX1_allFits_7 (fun h7 => absurd h7 (lpn (e := N) hx eN (by omega) (by omega))) (fun h7 => ?_)
      refine r_aload0 hX dX1_allFits_10 ?_
      refine g_wF_0_0 hX dX1_allFits_11 ?_
      refine r_iload3 hX dX1_allFits_14 ?_
      refine l_wF_1 hX dX1_allFits_15 hvx ?_
      refine r_iload1 hX dX1_allFits_16 ?_
      refine r_isub hX dX1_allFits_17 ?_
      refine r_mabs hX dX1_allFits_18 hm_abs_X1 (by decide) (Nat.le_of_ble_eq_true rfl) (by decide) (by decide) ?_
      refine r_aload0 hX dX1_allFits_21 ?_
      refine g_wF_0_1 hX dX1_allFits_22 ?_
      refine r_iload3 hX dX1_allFits_25 ?_
      refine l_wF_2 hX dX1_allFits_26 hvx ?_
      refine r_iload2 hX dX1_allFits_27 ?_
      refine r_isub hX dX1_allFits_28 ?_
      refine r_ic_gt hX dX1_allFits_29 (fun h29 => ?_) (fun h29 => ?_)
      · refine r_push hX dX1_allFits_36 ?_
        refine r_istore4 hX dX1_allFits_37 rfl ?_
        refine r_iload4 hX dX1_allFits_39 ?_
        refine r_aload0 hX dX1_allFits_41 ?_
        refine g_wF_0_2 hX dX1_allFits_42 ?_
        refine r_iload3 hX dX1_allFits_45 ?_
        refine l_wF_3 hX dX1_allFits_46 hvx ?_
        refine r_ic_eq hX dX1_allFits_47 (fun h47 => ?_) (fun h47 => ?_)
        · refine r_iinc3 hX dX1_allFits_52 rfl ?_
          refine r_goto hX dX1_allFits_55 ?_
          exact ih (i + 1) _ _ (by rw [hx]; exact nI_1 i) (by omega) (ball_s.mpr ⟨hs, by rw [bI_f (show ¬ awayF (σ.2 0 i) d ≤ σ.2 1 i - u by rw [← hA i (by omega), ← hcx]; exact nle_of_lt h29), ← hcx']; exact h47⟩)
        · refine r_push hX dX1_allFits_50 ?_
          exact r_zret hX hQ dX1_allFits_51 rfl (by rw [bI_f (show ¬ canP N (σ.2 0) (σ.2 1) (σ.2 2) u d from fun q => h47 (by have z := q i (by omega); rw [bI_f (show ¬ awayF (σ.2 0 i) d ≤ σ.2 1 i - u by rw [← hA i (by omega), ← hcx]; exact nle_of_lt h29)] at z; rw [hcx']; exact z))]) (rfl)
      · refine r_push hX dX1_allFits_32 ?_
        refine r_goto hX dX1_allFits_33 ?_
        refine r_istore4 hX dX1_allFits_37 rfl ?_
        refine r_iload4 hX dX1_allFits_39 ?_
        refine r_aload0 hX dX1_allFits_41 ?_
        refine g_wF_0_2 hX dX1_allFits_42 ?_
        refine r_iload3 hX dX1_allFits_45 ?_
        refine l_wF_3 hX dX1_allFits_46 hvx ?_
        refine r_ic_eq hX dX1_allFits_47 (fun h47 => ?_) (fun h47 => ?_)
        · refine r_iinc3 hX dX1_allFits_52 rfl ?_
          refine r_goto hX dX1_allFits_55 ?_
          exact ih (i + 1) _ _ (by rw [hx]; exact nI_1 i) (by omega) (ball_s.mpr ⟨hs, by rw [bI_t (show awayF (σ.2 0 i) d ≤ σ.2 1 i - u by rw [← hA i (by omega), ← hcx]; exact le_of_nlt h29), ← hcx']; exact h47⟩)
        · refine r_push hX dX1_allFits_50 ?_
          exact r_zret hX hQ dX1_allFits_51 rfl (by rw [bI_f (show ¬ canP N (σ.2 0) (σ.2 1) (σ.2 2) u d from fun q => h47 (by have z := q i (by omega); rw [bI_t (show awayF (σ.2 0 i) d ≤ σ.2 1 i - u by rw [← hA i (by omega), ← hcx]; exact le_of_nlt h29)] at z; rw [hcx']; exact z))]) (rfl)
  refine r_push hX dX1_allFits_0 ?_
  refine r_istore3 hX dX1_allFits_1 rfl ?_
  exact hL2 N 0 _ _ rfl (by omega) (fun k hk => absurd hk (Nat.not_lt_zero k))
set_option maxHeartbeats 400000 in
theorem c_X0_firstWrong (l : Launch) (g : GT) (b : Nat → Nat) (σ : S2) (q : Nat) (n : Nat) (f : Nat → Int32)  (hn14 : n = 14) (N : Nat) (hN : N ≤ 15) (eN : σ.1 2 = nI N) (hv : ∀ k, k < N → vp_in (σ.2 0 k) 14) : Cx l g yX0_firstWrong cX0_firstWrong 3 (some .int) (k2_rm 0 0) [.ref (b 0), .ref (q)] (wBA g b σ q n f) (some (.int (judF N f (σ.2 0) (σ.2 1)))) (wBA g b σ q n f) := by
  refine meth (own := "ChalkedDoors$Book") (by decide) rfl (Nat.le_of_ble_eq_true rfl) [some (.ref (b 0)), some (.ref (q)), none] rfl (fun X hX hQ => ?_)
  subst hn14
  generalize hsp : judF N f (σ.2 0) (σ.2 1) = S at hQ
  unfold judF at hsp
  have hL2 : ∀ (n i : Nat) (x : Int32) , x = nI i → i + n = N → S = ffF (fun k => if f (cl (σ.2 0 k)) = σ.2 1 k then none else some (nI k)) n i → vJ X 0 0 (wBA g b σ q 14 f) 2 [some (.ref (b 0)), some (.ref (q)), some (.int x)] [] := by
    intro n
    induction n with
    | zero =>
      intro i x  hx hn hs
      refine r_iload2 hX dX0_firstWrong_2 ?_
      refine r_aload0 hX dX0_firstWrong_3 ?_
      refine g_wBA_0_2 hX dX0_firstWrong_4 ?_
      refine r_ic_ge hX dX0_firstWrong_7 (fun h7 => ?_) (fun h7 => absurd (lpx (e := N) hx eN (by omega) (by omega) (by omega)) h7)
      refine r_push hX dX0_firstWrong_35 ?_
      exact r_iret hX hQ dX0_firstWrong_36 (by rw [hs] <;> rfl) (rfl)
    | succ n ih =>
      intro i x  hx hn hs
      have hvx : vp_in x 15 := by rw [hx]; exact vp_in_nI (by omega) (by omega)
      have hcx : cl x = i := by rw [hx]; exact nI_clamp (by omega)
      have hcx' : x.toNatClampNeg = i := hcx
      refine r_iload2 hX dX0_firstWrong_2 ?_
      refine r_aload0 hX dX0_firstWrong_3 ?_
      refine g_wBA_0_2 hX dX0_firstWrong_4 ?_
      refine r_ic_ge hX dX0_firstWrong_7 (fun h7 => absurd h7 (lpn (e := N) hx eN (by omega) (by omega))) (fun h7 => ?_)
      refine r_aload1 hX dX0_firstWrong_10 ?_
      refine r_aload0 hX dX0_firstWrong_11 ?_
      refine g_wBA_0_0 hX dX0_firstWrong_12 ?_
      refine r_iload2 hX dX0_firstWrong_15 ?_
      refine l_wBA_1 hX dX0_firstWrong_16 hvx ?_
      refine l_wBA_3 hX dX0_firstWrong_17 (by rw [hcx']; exact hv i (by omega)) ?_
      refine r_aload0 hX dX0_firstWrong_18 ?_
      refine g_wBA_0_1 hX dX0_firstWrong_19 ?_
      refine r_iload2 hX dX0_firstWrong_22 ?_
      refine l_wBA_2 hX dX0_firstWrong_23 hvx ?_
      refine r_ic_eq hX dX0_firstWrong_24 (fun h24 => ?_) (fun h24 => ?_)
      · refine r_iinc2 hX dX0_firstWrong_29 rfl ?_
        refine r_goto hX dX0_firstWrong_32 ?_
        exact ih (i + 1) _ (by rw [hx]; exact nI_1 i) (by omega) (by rw [hs, ffF_none (if_pos (by rw [← hcx']; exact h24))])
      · refine r_iload2 hX dX0_firstWrong_27 ?_
        exact r_iret hX hQ dX0_firstWrong_28 (by rw [hs, ffF_some (if_neg (by rw [← hcx']; exact h24)), hx]) (rfl)
  refine r_push hX dX0_firstWrong_0 ?_
  refine r_istore2 hX dX0_firstWrong_1 rfl ?_
  exact hL2 N 0 _ rfl (by omega) hsp.symm
