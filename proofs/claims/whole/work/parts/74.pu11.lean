/-! what lies behind the last chalk is never looked at -/
def Ag (C : Nat) (f f' : Nat → Int32) : Prop := ∀ j, j < C → f j = f' j
section cg
variable {C D : Nat} {c c' wb wb' ch ch' : Nat → Int32}
theorem costF_cg (h : Ag C c c') : costF C c = costF C c' := by
  funext t
  unfold costF
  exact lp_ext _ _ _ (fun j s _ hj => by
    show (if hb t (nI j) then s + c j else s) = if hb t (nI j) then s + c' j else s
    rw [h j (by omega)])
theorem cl_in (hC : C ≤ 4) {x : Int32} (h : inD x (nI C)) : cl x < C := inD_cl2 h (by omega)
theorem markF_cg (hC : C ≤ 4) (h : Ag C c c') {nD sp d x : Int32} {mk : Nat → Int32} : markF nD (nI C) mk c sp d x = markF nD (nI C) mk c' sp d x := by
  unfold markF
  by_cases hi : inD d nD ∧ inD x (nI C)
  · rw [if_pos hi, if_pos hi, h _ (cl_in hC hi.2)]
  · rw [if_neg hi, if_neg hi]
theorem hideF_cg (hC : C ≤ 4) (h : Ag C c c') {nD sp d x z : Int32} {hd : Nat → Int32} : hideF nD (nI C) hd c sp d x z = hideF nD (nI C) hd c' sp d x z := by
  unfold hideF
  by_cases hi : inD d nD ∧ inD x (nI C)
  · rw [if_pos hi, if_pos hi, h _ (cl_in hC hi.2)]
  · rw [if_neg hi, if_neg hi]
theorem copXF_cg (h : Ag C c c') {mk : Nat → Int32} {sp d f : Int32} : copXF D C c mk sp d f = copXF D C c' mk sp d f := by
  have e : copX C c (mk (cl d)) d f = copX C c' (mk (cl d)) d f := by
    funext q s
    unfold copX
    rw [costF_cg h]
  unfold copXF
  rw [e]
theorem rainF_cg (h : Ag C wb wb') {s : MS} : rainF D C wb s = rainF D C wb' s := by
  unfold rainF
  refine lp_ext _ _ _ (fun d t _ _ => lp_ext _ _ _ (fun j u _ hj => ?_))
  unfold rainC
  rw [h j (by omega)]
theorem playF_cg (h : Ag C ch ch') {s : MS} : playF D C ch s = playF D C ch' s := by
  unfold playF
  refine lp_ext _ _ _ (fun d t _ _ => lp_ext _ _ _ (fun j u _ hj => ?_))
  unfold playC
  rw [h j (by omega)]
theorem nightS_cg (h : Ag C wb wb') (h2 : Ag C ch ch') {rn : Int32} : nightS D C wb ch rn = nightS D C wb' ch' rn := by
  funext s
  unfold nightS
  rw [rainF_cg h, playF_cg h2]
theorem nightF_cg (h : Ag C wb wb') (h2 : Ag C ch ch') {rn nt n : Int32} {s : MS} : nightF D C wb ch rn s nt n = nightF D C wb' ch' rn s nt n := by
  unfold nightF nightL
  rw [nightS_cg h h2]
theorem wtF_cg (h : Ag C wb wb') (h2 : Ag C ch ch') : wtF C wb ch = wtF C wb' ch' := by
  funext m set n
  unfold wtF
  refine lp_ext _ _ _ (fun j u _ hj => ?_)
  unfold wtC
  rw [h j (by omega), h2 j (by omega)]
theorem belX_cg (h : Ag C wb wb') (h2 : Ag C ch ch') {mk : Nat → Int32} {set n d : Int32} : belX D C wb ch mk set n d = belX D C wb' ch' mk set n d := by
  unfold belX allF
  rw [wtF_cg h h2]
theorem bestF_cg (h : Ag C wb wb') (h2 : Ag C ch ch') {mk : Nat → Int32} {set n : Int32} : bestF D C wb ch mk set n = bestF D C wb' ch' mk set n := by
  have e : bestC C wb ch mk set (cl n) = bestC C wb' ch' mk set (cl n) := by
    funext d s
    unfold bestC
    rw [wtF_cg h h2]
  unfold bestF
  rw [e]
theorem codX_cg (h : Ag C c c') {nD k r : Int32} : codX D C nD c k r = codX D C nD c' k r := by
  have e := costF_cg h
  have e1 : csbF C c = csbF C c' := by
    funext w
    unfold csbF
    have : csbC C c w = csbC C c' w := by funext s z; unfold csbC; rw [e]
    rw [this]
  have e2 : csF D C c = csF D C c' := by unfold csF; rw [e1]
  have e3 : prF C c = prF C c' := by
    funext t
    unfold prF
    have : prC C c t = prC C c' t := by funext a b z; unfold prC; rw [e]
    rw [this]
  have e4 : cocF C c = cocF C c' := by funext w; unfold cocF; rw [e]
  have e5 : bstF D C c = bstF D C c' := by funext t; unfold bstF; rw [e2, e3]
  unfold codX
  rw [e5, e4]
end cg
/-! class and reference stand alike -/
def RPl (D C S : Nat) (pl σ : S2) : Prop := D ≤ 14 ∧ C ≤ 4 ∧ S ≤ 9 ∧ (S ≠ 0 → 1 ≤ D) ∧ pl.1 0 = nI D ∧ σ.1 0 = nI D ∧ pl.1 1 = nI C ∧ σ.1 1 = nI C ∧ pl.1 7 = σ.1 6 ∧ pl.1 8 = nI S ∧ σ.1 7 = nI S ∧ pl.1 9 = σ.1 8 ∧ (∃ r : Nat, r ≤ 13 ∧ σ.1 8 = nI r) ∧ ∀ j, j < C → CkR pl (σ.2 2) (σ.2 3) (σ.2 4) (σ.2 5) j
def ScI (D : Nat) (mk hd : Nat → Int32) (sp sd : Int32) : Prop := MkI D mk ∧ MkI D hd ∧ (∃ k : Nat, k ≤ 999999 ∧ sp = nI k) ∧ 0 ≤ sd.toInt
def RSc (D : Nat) (nw σ : S2) : Prop := nw.2 0 = σ.2 9 ∧ nw.2 1 = σ.2 10 ∧ nw.1 2 = σ.1 11 ∧ nw.1 3 = σ.1 12 ∧ nw.1 4 = σ.1 13 ∧ ScI D (σ.2 9) (σ.2 10) (σ.1 12) (σ.1 13)
def RTx (rd σ : S2) : Prop := rd.1 4 = σ.1 16 ∧ rd.2 0 = σ.2 14 ∧ ∃ T : Nat, T ≤ 200 ∧ rd.1 1 = nI T ∧ σ.1 15 = nI T ∧ ∀ j, j < T → 0 ≤ (σ.2 14 j).toInt
def RFa (fa σ : S2) : Prop := fa.2 0 = σ.2 37 ∧ fa.2 1 = σ.2 38 ∧ fa.2 2 = σ.2 39 ∧ ∃ N : Nat, N ≤ 10 ∧ fa.1 3 = nI N ∧ σ.1 36 = nI N ∧ ∀ k, k < N → ∃ q : Nat, q < 14 ∧ σ.2 37 k = nI q
def RBo (bo σ : S2) : Prop := bo.2 0 = σ.2 41 ∧ bo.2 1 = σ.2 42 ∧ ∃ B : Nat, B ≤ 15 ∧ bo.1 2 = nI B ∧ σ.1 40 = nI B ∧ ∀ k, k < B → vp_in (σ.2 41 k) 14
def Img (D : Nat) (i : S2) (k : Nat) (f : Nat → Int32) : Prop := (∀ d, d < 14 → i.2 0 d = f (k + d) ∧ i.2 1 d = f (k + 14 + d)) ∧ i.1 2 = f (k + 28) ∧ i.1 3 = f (k + 29) ∧ i.1 4 = f (k + 30) ∧ ScI D (i.2 0) (i.2 1) (i.1 3) (i.1 4)
def RIm (D : Nat) (kp : Int32) (i0 i1 σ : S2) : Prop := (kp = 0 ∨ kp = 1 ∨ kp = 2 ∨ kp = 3) ∧ (hb kp 0 ↔ ¬ σ.2 44 0 = 0) ∧ (hb kp 1 ↔ ¬ σ.2 44 1 = 0) ∧ (hb kp 0 → Img D i0 0 (σ.2 43)) ∧ (hb kp 1 → Img D i1 32 (σ.2 43))
def Rel (kp : Int32) (rd nw i0 i1 fa bo pl σ : S2) : Prop := ∃ D C S : Nat, RPl D C S pl σ ∧ RSc D nw σ ∧ RTx rd σ ∧ RFa fa σ ∧ RBo bo σ ∧ RIm D kp i0 i1 σ
theorem Rel_0 : Rel 0 s0R s0 s0 s0 s0 s0 s0P s0M := by
  refine ⟨0, 0, 0, ⟨by decide, by decide, by decide, fun h => absurd rfl h, rfl, rfl, rfl, rfl, rfl, rfl, rfl, rfl, ⟨0, by decide, rfl⟩, fun j hj => absurd hj (by omega)⟩, ⟨rfl, rfl, rfl, rfl, rfl, ?_, ?_, ⟨0, by decide, rfl⟩, by decide⟩, ⟨rfl, rfl, 0, by decide, rfl, rfl, fun j hj => absurd hj (by omega)⟩, ⟨rfl, rfl, rfl, 0, by decide, rfl, rfl, fun j hj => absurd hj (by omega)⟩, ⟨rfl, rfl, 0, by decide, rfl, rfl, fun j hj => absurd hj (by omega)⟩, Or.inl rfl, ?_, ?_, ?_, ?_⟩
  · exact ⟨fun d _ => ⟨0, by decide, rfl⟩, fun d _ _ => rfl⟩
  · exact ⟨fun d _ => ⟨0, by decide, rfl⟩, fun d _ _ => rfl⟩
  · exact ⟨fun h => absurd h (by decide), fun h => absurd rfl h⟩
  · exact ⟨fun h => absurd h (by decide), fun h => absurd rfl h⟩
  · exact fun h => absurd h (by decide)
  · exact fun h => absurd h (by decide)
/-- one call on both sides: one answer, and they stand alike again -/
def Go (l : Launch) (g : GT) (x : Nat) (a : Nat → Nat → Nat) (kp : Int32) (rd nw i0 i1 fa bo pl dr : S2) (b : Nat → Nat) (σ : S2) (yX : MethodName) (cX : ByteArray) (mX : Nat) (rX : Room) (yM : MethodName) (cM : ByteArray) (mM : Nat) (rM : Room) (av : List Value) : Prop :=
  ∃ (o kp' : Int32) (rd' nw' i0' i1' fa' bo' pl' dr' σ' : S2), Cx l g yX cX mX (some .int) rX (.ref x :: av) (wX g x a kp rd nw i0 i1 fa bo pl dr) (some (.int o)) (wX g x a kp' rd' nw' i0' i1' fa' bo' pl' dr') ∧ Cx l g yM cM mM (some .int) rM (.ref (b 0) :: av) (wM g b σ) (some (.int o)) (wM g b σ') ∧ Rel kp' rd' nw' i0' i1' fa' bo' pl' σ'
theorem Cx_o {l : Launch} {g : GT} {y : MethodName} {cc : ByteArray} {m : Nat} {ret : Option FieldType} {rm : Room} {av : List Value} {w w' : va_W} {o o' : Int32} (h : o = o') (k : Cx l g y cc m ret rm av w (some (.int o)) w') : Cx l g y cc m ret rm av w (some (.int o')) w' := h ▸ k
theorem Cx_w {l : Launch} {g : GT} {y : MethodName} {cc : ByteArray} {m : Nat} {ret : Option FieldType} {rm : Room} {av : List Value} {w w' w2 : va_W} {o : Option Value} (h : w' = w2) (k : Cx l g y cc m ret rm av w o w') : Cx l g y cc m ret rm av w o w2 := h ▸ k
theorem RPl_K {D C S : Nat} {pl σ : S2} (h : RPl D C S pl σ) : (∀ j, j < C → kind3 (pl.2 2 j)) ∧ Ag C (pl.2 4) (σ.2 4) ∧ Ag C (pl.2 5) (σ.2 5) ∧ Ag C (fun c => wshF (pl.2 2 c) (pl.2 3 c)) (fun c => wshF (σ.2 2 c) (σ.2 3 c)) ∧ Cst C (σ.2 4) ∧ Wsh C (σ.2 5) ∧ Wsh C (fun c => wshF (σ.2 2 c) (σ.2 3 c)) := by
  have hk := h.2.2.2.2.2.2.2.2.2.2.2.2.2
  refine ⟨fun j hj => ?_, fun j hj => (hk j hj).2.2.1, fun j hj => (hk j hj).2.2.2.1, fun j hj => ?_, fun j hj => (hk j hj).2.2.2.2.2.2.1, fun j hj => ?_, fun j hj => ?_⟩
  · rw [(hk j hj).1]; exact (hk j hj).2.2.2.2.1
  · show wshF (pl.2 2 j) (pl.2 3 j) = wshF (σ.2 2 j) (σ.2 3 j)
    rw [(hk j hj).1, (hk j hj).2.1]
  · obtain ⟨k, k1, k2⟩ := (hk j hj).2.2.2.2.2.2.2
    exact ⟨k, by omega, k2⟩
  · exact wsh8 (hk j hj).2.2.2.2.1 (hk j hj).2.2.2.2.2.1
