theorem g_wX_0_0 {X : CT} {l : Launch} {g : GT} {own : String} {cc : ByteArray} {R : Room} {cs sl pc nx : Nat} {lv : List (Option Value)} {st : List Value} {x : Nat} {a : Nat → Nat → Nat} {kp : Int32} {rd : S2} {nw : S2} {i0 : S2} {i1 : S2} {fa : S2} {bo : S2} {pl : S2} {dr : S2} (hX : oK X l g own cc R) (hd : dGf own cc pc 5 0 nx) (k : vJ X cs sl (wX g x a kp rd nw i0 i1 fa bo pl dr) nx lv (.ref (a 0 0) :: st)) : vJ X cs sl (wX g x a kp rd nw i0 i1 fa bo pl dr) pc lv (.ref (x) :: st) := r_get hX hd 0 rfl rfl k
theorem fr_wX_wR_1_2 {g : GT} {x : Nat} {a : Nat → Nat → Nat} {kp : Int32} {rd : S2} {nw : S2} {i0 : S2} {i1 : S2} {fa : S2} {bo : S2} {pl : S2} {dr : S2} {σ' : S2} : frm (wX g x a kp rd nw i0 i1 fa bo pl dr) (wR g (a 0) rd) (wR g (a 0) σ') (wX g x a kp σ' nw i0 i1 fa bo pl dr) := frm_msk [1, 2] (fW_f (fW_t rfl (fW_t rfl (fW_f (fW_f (fW_f (fW_f (fW_f (fW_f (fW_f (fW_f (fW_f (fW_f (fW_f (fW_f (fW_f (fW_f (fW_f (fW_f (fW_f (fW_f (fW_f (fW_f (fW_f (fW_f (fW_f (fW_f (fW_f (fW_f (fW_f (fW_f (fW_n)))))))))))))))))))))))))))))))) rfl rfl rfl rfl
theorem g_wX_1_4 {X : CT} {l : Launch} {g : GT} {own : String} {cc : ByteArray} {R : Room} {cs sl pc nx : Nat} {lv : List (Option Value)} {st : List Value} {x : Nat} {a : Nat → Nat → Nat} {kp : Int32} {rd : S2} {nw : S2} {i0 : S2} {i1 : S2} {fa : S2} {bo : S2} {pl : S2} {dr : S2} (hX : oK X l g own cc R) (hd : dGf own cc pc 3 4 nx) (k : vJ X cs sl (wX g x a kp rd nw i0 i1 fa bo pl dr) nx lv (.int (rd.1 4) :: st)) : vJ X cs sl (wX g x a kp rd nw i0 i1 fa bo pl dr) pc lv (.ref (a 0 0) :: st) := r_get hX hd 1 rfl rfl k
theorem l_wA_0 {X : CT} {l : Launch} {g : GT} {own : String} {cc : ByteArray} {R : Room} {cs sl pc nx : Nat} {lv : List (Option Value)} {st : List Value} {q : Nat} {n : Nat} {f : Nat → Int32} {i : Int32} (hX : oK X l g own cc R) (hd : dR cc pc (.iaload) 1 nx) (hi : vp_in i n) (k : vJ X cs sl (wA g q n f) nx lv (.int (f i.toNatClampNeg) :: st)) : vJ X cs sl (wA g q n f) pc lv (.int i :: .ref (q) :: st) := r_iald hX hd 0 rfl hi k
theorem g_wX_0_6 {X : CT} {l : Launch} {g : GT} {own : String} {cc : ByteArray} {R : Room} {cs sl pc nx : Nat} {lv : List (Option Value)} {st : List Value} {x : Nat} {a : Nat → Nat → Nat} {kp : Int32} {rd : S2} {nw : S2} {i0 : S2} {i1 : S2} {fa : S2} {bo : S2} {pl : S2} {dr : S2} (hX : oK X l g own cc R) (hd : dGf own cc pc 5 6 nx) (k : vJ X cs sl (wX g x a kp rd nw i0 i1 fa bo pl dr) nx lv (.ref (a 6 0) :: st)) : vJ X cs sl (wX g x a kp rd nw i0 i1 fa bo pl dr) pc lv (.ref (x) :: st) := r_get hX hd 0 rfl rfl k
theorem g_wX_19_0 {X : CT} {l : Launch} {g : GT} {own : String} {cc : ByteArray} {R : Room} {cs sl pc nx : Nat} {lv : List (Option Value)} {st : List Value} {x : Nat} {a : Nat → Nat → Nat} {kp : Int32} {rd : S2} {nw : S2} {i0 : S2} {i1 : S2} {fa : S2} {bo : S2} {pl : S2} {dr : S2} (hX : oK X l g own cc R) (hd : dGf own cc pc 2 0 nx) (k : vJ X cs sl (wX g x a kp rd nw i0 i1 fa bo pl dr) nx lv (.int (pl.1 0) :: st)) : vJ X cs sl (wX g x a kp rd nw i0 i1 fa bo pl dr) pc lv (.ref (a 6 0) :: st) := r_get hX hd 19 rfl rfl k
theorem g_wX_19_1 {X : CT} {l : Launch} {g : GT} {own : String} {cc : ByteArray} {R : Room} {cs sl pc nx : Nat} {lv : List (Option Value)} {st : List Value} {x : Nat} {a : Nat → Nat → Nat} {kp : Int32} {rd : S2} {nw : S2} {i0 : S2} {i1 : S2} {fa : S2} {bo : S2} {pl : S2} {dr : S2} (hX : oK X l g own cc R) (hd : dGf own cc pc 2 1 nx) (k : vJ X cs sl (wX g x a kp rd nw i0 i1 fa bo pl dr) nx lv (.int (pl.1 1) :: st)) : vJ X cs sl (wX g x a kp rd nw i0 i1 fa bo pl dr) pc lv (.ref (a 6 0) :: st) := r_get hX hd 19 rfl rfl k
theorem g_wX_19_7 {X : CT} {l : Launch} {g : GT} {own : String} {cc : ByteArray} {R : Room} {cs sl pc nx : Nat} {lv : List (Option Value)} {st : List Value} {x : Nat} {a : Nat → Nat → Nat} {kp : Int32} {rd : S2} {nw : S2} {i0 : S2} {i1 : S2} {fa : S2} {bo : S2} {pl : S2} {dr : S2} (hX : oK X l g own cc R) (hd : dGf own cc pc 2 7 nx) (k : vJ X cs sl (wX g x a kp rd nw i0 i1 fa bo pl dr) nx lv (.int (pl.1 7) :: st)) : vJ X cs sl (wX g x a kp rd nw i0 i1 fa bo pl dr) pc lv (.ref (a 6 0) :: st) := r_get hX hd 19 rfl rfl k
theorem g_wX_19_8 {X : CT} {l : Launch} {g : GT} {own : String} {cc : ByteArray} {R : Room} {cs sl pc nx : Nat} {lv : List (Option Value)} {st : List Value} {x : Nat} {a : Nat → Nat → Nat} {kp : Int32} {rd : S2} {nw : S2} {i0 : S2} {i1 : S2} {fa : S2} {bo : S2} {pl : S2} {dr : S2} (hX : oK X l g own cc R) (hd : dGf own cc pc 2 8 nx) (k : vJ X cs sl (wX g x a kp rd nw i0 i1 fa bo pl dr) nx lv (.int (pl.1 8) :: st)) : vJ X cs sl (wX g x a kp rd nw i0 i1 fa bo pl dr) pc lv (.ref (a 6 0) :: st) := r_get hX hd 19 rfl rfl k
theorem g_wX_19_9 {X : CT} {l : Launch} {g : GT} {own : String} {cc : ByteArray} {R : Room} {cs sl pc nx : Nat} {lv : List (Option Value)} {st : List Value} {x : Nat} {a : Nat → Nat → Nat} {kp : Int32} {rd : S2} {nw : S2} {i0 : S2} {i1 : S2} {fa : S2} {bo : S2} {pl : S2} {dr : S2} (hX : oK X l g own cc R) (hd : dGf own cc pc 2 9 nx) (k : vJ X cs sl (wX g x a kp rd nw i0 i1 fa bo pl dr) nx lv (.int (pl.1 9) :: st)) : vJ X cs sl (wX g x a kp rd nw i0 i1 fa bo pl dr) pc lv (.ref (a 6 0) :: st) := r_get hX hd 19 rfl rfl k
theorem g_wX_1_1 {X : CT} {l : Launch} {g : GT} {own : String} {cc : ByteArray} {R : Room} {cs sl pc nx : Nat} {lv : List (Option Value)} {st : List Value} {x : Nat} {a : Nat → Nat → Nat} {kp : Int32} {rd : S2} {nw : S2} {i0 : S2} {i1 : S2} {fa : S2} {bo : S2} {pl : S2} {dr : S2} (hX : oK X l g own cc R) (hd : dGf own cc pc 3 1 nx) (k : vJ X cs sl (wX g x a kp rd nw i0 i1 fa bo pl dr) nx lv (.int (rd.1 1) :: st)) : vJ X cs sl (wX g x a kp rd nw i0 i1 fa bo pl dr) pc lv (.ref (a 0 0) :: st) := r_get hX hd 1 rfl rfl k
theorem g_wX_0_1 {X : CT} {l : Launch} {g : GT} {own : String} {cc : ByteArray} {R : Room} {cs sl pc nx : Nat} {lv : List (Option Value)} {st : List Value} {x : Nat} {a : Nat → Nat → Nat} {kp : Int32} {rd : S2} {nw : S2} {i0 : S2} {i1 : S2} {fa : S2} {bo : S2} {pl : S2} {dr : S2} (hX : oK X l g own cc R) (hd : dGf own cc pc 5 1 nx) (k : vJ X cs sl (wX g x a kp rd nw i0 i1 fa bo pl dr) nx lv (.ref (a 1 0) :: st)) : vJ X cs sl (wX g x a kp rd nw i0 i1 fa bo pl dr) pc lv (.ref (x) :: st) := r_get hX hd 0 rfl rfl k
theorem g_wX_3_2 {X : CT} {l : Launch} {g : GT} {own : String} {cc : ByteArray} {R : Room} {cs sl pc nx : Nat} {lv : List (Option Value)} {st : List Value} {x : Nat} {a : Nat → Nat → Nat} {kp : Int32} {rd : S2} {nw : S2} {i0 : S2} {i1 : S2} {fa : S2} {bo : S2} {pl : S2} {dr : S2} (hX : oK X l g own cc R) (hd : dGf own cc pc 4 2 nx) (k : vJ X cs sl (wX g x a kp rd nw i0 i1 fa bo pl dr) nx lv (.int (nw.1 2) :: st)) : vJ X cs sl (wX g x a kp rd nw i0 i1 fa bo pl dr) pc lv (.ref (a 1 0) :: st) := r_get hX hd 3 rfl rfl k
theorem g_wX_3_3 {X : CT} {l : Launch} {g : GT} {own : String} {cc : ByteArray} {R : Room} {cs sl pc nx : Nat} {lv : List (Option Value)} {st : List Value} {x : Nat} {a : Nat → Nat → Nat} {kp : Int32} {rd : S2} {nw : S2} {i0 : S2} {i1 : S2} {fa : S2} {bo : S2} {pl : S2} {dr : S2} (hX : oK X l g own cc R) (hd : dGf own cc pc 4 3 nx) (k : vJ X cs sl (wX g x a kp rd nw i0 i1 fa bo pl dr) nx lv (.int (nw.1 3) :: st)) : vJ X cs sl (wX g x a kp rd nw i0 i1 fa bo pl dr) pc lv (.ref (a 1 0) :: st) := r_get hX hd 3 rfl rfl k
theorem g_wX_3_0 {X : CT} {l : Launch} {g : GT} {own : String} {cc : ByteArray} {R : Room} {cs sl pc nx : Nat} {lv : List (Option Value)} {st : List Value} {x : Nat} {a : Nat → Nat → Nat} {kp : Int32} {rd : S2} {nw : S2} {i0 : S2} {i1 : S2} {fa : S2} {bo : S2} {pl : S2} {dr : S2} (hX : oK X l g own cc R) (hd : dGf own cc pc 4 0 nx) (k : vJ X cs sl (wX g x a kp rd nw i0 i1 fa bo pl dr) nx lv (.ref (a 1 1) :: st)) : vJ X cs sl (wX g x a kp rd nw i0 i1 fa bo pl dr) pc lv (.ref (a 1 0) :: st) := r_get hX hd 3 rfl rfl k
theorem fr_wX_wA_4_4 {g : GT} {x : Nat} {a : Nat → Nat → Nat} {kp : Int32} {rd : S2} {nw : S2} {i0 : S2} {i1 : S2} {fa : S2} {bo : S2} {pl : S2} {dr : S2} {f' : Nat → Int32} : frm (wX g x a kp rd nw i0 i1 fa bo pl dr) (wA g (a 1 1) 14 (nw.2 0)) (wA g (a 1 1) 14 f') (wX g x a kp rd (aw nw 0 f') i0 i1 fa bo pl dr) := frm_msk [4] (fW_f (fW_f (fW_f (fW_f (fW_t rfl (fW_f (fW_f (fW_f (fW_f (fW_f (fW_f (fW_f (fW_f (fW_f (fW_f (fW_f (fW_f (fW_f (fW_f (fW_f (fW_f (fW_f (fW_f (fW_f (fW_f (fW_f (fW_f (fW_f (fW_f (fW_f (fW_f (fW_n)))))))))))))))))))))))))))))))) rfl rfl rfl rfl
theorem g_wX_3_1 {X : CT} {l : Launch} {g : GT} {own : String} {cc : ByteArray} {R : Room} {cs sl pc nx : Nat} {lv : List (Option Value)} {st : List Value} {x : Nat} {a : Nat → Nat → Nat} {kp : Int32} {rd : S2} {nw : S2} {i0 : S2} {i1 : S2} {fa : S2} {bo : S2} {pl : S2} {dr : S2} (hX : oK X l g own cc R) (hd : dGf own cc pc 4 1 nx) (k : vJ X cs sl (wX g x a kp rd nw i0 i1 fa bo pl dr) nx lv (.ref (a 1 2) :: st)) : vJ X cs sl (wX g x a kp rd nw i0 i1 fa bo pl dr) pc lv (.ref (a 1 0) :: st) := r_get hX hd 3 rfl rfl k
theorem fr_wX_wA_5_5 {g : GT} {x : Nat} {a : Nat → Nat → Nat} {kp : Int32} {rd : S2} {nw : S2} {i0 : S2} {i1 : S2} {fa : S2} {bo : S2} {pl : S2} {dr : S2} {f' : Nat → Int32} : frm (wX g x a kp rd nw i0 i1 fa bo pl dr) (wA g (a 1 2) 14 (nw.2 1)) (wA g (a 1 2) 14 f') (wX g x a kp rd (aw nw 1 f') i0 i1 fa bo pl dr) := frm_msk [5] (fW_f (fW_f (fW_f (fW_f (fW_f (fW_t rfl (fW_f (fW_f (fW_f (fW_f (fW_f (fW_f (fW_f (fW_f (fW_f (fW_f (fW_f (fW_f (fW_f (fW_f (fW_f (fW_f (fW_f (fW_f (fW_f (fW_f (fW_f (fW_f (fW_f (fW_f (fW_f (fW_n)))))))))))))))))))))))))))))))) rfl rfl rfl rfl
theorem g_wX_0_4 {X : CT} {l : Launch} {g : GT} {own : String} {cc : ByteArray} {R : Room} {cs sl pc nx : Nat} {lv : List (Option Value)} {st : List Value} {x : Nat} {a : Nat → Nat → Nat} {kp : Int32} {rd : S2} {nw : S2} {i0 : S2} {i1 : S2} {fa : S2} {bo : S2} {pl : S2} {dr : S2} (hX : oK X l g own cc R) (hd : dGf own cc pc 5 4 nx) (k : vJ X cs sl (wX g x a kp rd nw i0 i1 fa bo pl dr) nx lv (.ref (a 4 0) :: st)) : vJ X cs sl (wX g x a kp rd nw i0 i1 fa bo pl dr) pc lv (.ref (x) :: st) := r_get hX hd 0 rfl rfl k
theorem g_wX_12_3 {X : CT} {l : Launch} {g : GT} {own : String} {cc : ByteArray} {R : Room} {cs sl pc nx : Nat} {lv : List (Option Value)} {st : List Value} {x : Nat} {a : Nat → Nat → Nat} {kp : Int32} {rd : S2} {nw : S2} {i0 : S2} {i1 : S2} {fa : S2} {bo : S2} {pl : S2} {dr : S2} (hX : oK X l g own cc R) (hd : dGf own cc pc 1 3 nx) (k : vJ X cs sl (wX g x a kp rd nw i0 i1 fa bo pl dr) nx lv (.int (fa.1 3) :: st)) : vJ X cs sl (wX g x a kp rd nw i0 i1 fa bo pl dr) pc lv (.ref (a 4 0) :: st) := r_get hX hd 12 rfl rfl k
theorem g_wX_0_5 {X : CT} {l : Launch} {g : GT} {own : String} {cc : ByteArray} {R : Room} {cs sl pc nx : Nat} {lv : List (Option Value)} {st : List Value} {x : Nat} {a : Nat → Nat → Nat} {kp : Int32} {rd : S2} {nw : S2} {i0 : S2} {i1 : S2} {fa : S2} {bo : S2} {pl : S2} {dr : S2} (hX : oK X l g own cc R) (hd : dGf own cc pc 5 5 nx) (k : vJ X cs sl (wX g x a kp rd nw i0 i1 fa bo pl dr) nx lv (.ref (a 5 0) :: st)) : vJ X cs sl (wX g x a kp rd nw i0 i1 fa bo pl dr) pc lv (.ref (x) :: st) := r_get hX hd 0 rfl rfl k
theorem g_wX_16_2 {X : CT} {l : Launch} {g : GT} {own : String} {cc : ByteArray} {R : Room} {cs sl pc nx : Nat} {lv : List (Option Value)} {st : List Value} {x : Nat} {a : Nat → Nat → Nat} {kp : Int32} {rd : S2} {nw : S2} {i0 : S2} {i1 : S2} {fa : S2} {bo : S2} {pl : S2} {dr : S2} (hX : oK X l g own cc R) (hd : dGf own cc pc 0 2 nx) (k : vJ X cs sl (wX g x a kp rd nw i0 i1 fa bo pl dr) nx lv (.int (bo.1 2) :: st)) : vJ X cs sl (wX g x a kp rd nw i0 i1 fa bo pl dr) pc lv (.ref (a 5 0) :: st) := r_get hX hd 16 rfl rfl k
theorem fr_wX_wP_19_24 {g : GT} {x : Nat} {a : Nat → Nat → Nat} {kp : Int32} {rd : S2} {nw : S2} {i0 : S2} {i1 : S2} {fa : S2} {bo : S2} {pl : S2} {dr : S2} {σ' : S2} : frm (wX g x a kp rd nw i0 i1 fa bo pl dr) (wP g (a 6) pl) (wP g (a 6) σ') (wX g x a kp rd nw i0 i1 fa bo σ' dr) := frm_msk [19, 20, 21, 22, 23, 24] (fW_f (fW_f (fW_f (fW_f (fW_f (fW_f (fW_f (fW_f (fW_f (fW_f (fW_f (fW_f (fW_f (fW_f (fW_f (fW_f (fW_f (fW_f (fW_f (fW_t rfl (fW_t rfl (fW_t rfl (fW_t rfl (fW_t rfl (fW_t rfl (fW_f (fW_f (fW_f (fW_f (fW_f (fW_f (fW_n)))))))))))))))))))))))))))))))) rfl rfl rfl rfl
theorem g_wX_19_2 {X : CT} {l : Launch} {g : GT} {own : String} {cc : ByteArray} {R : Room} {cs sl pc nx : Nat} {lv : List (Option Value)} {st : List Value} {x : Nat} {a : Nat → Nat → Nat} {kp : Int32} {rd : S2} {nw : S2} {i0 : S2} {i1 : S2} {fa : S2} {bo : S2} {pl : S2} {dr : S2} (hX : oK X l g own cc R) (hd : dGf own cc pc 2 2 nx) (k : vJ X cs sl (wX g x a kp rd nw i0 i1 fa bo pl dr) nx lv (.ref (a 6 1) :: st)) : vJ X cs sl (wX g x a kp rd nw i0 i1 fa bo pl dr) pc lv (.ref (a 6 0) :: st) := r_get hX hd 19 rfl rfl k
theorem l_wX_20 {X : CT} {l : Launch} {g : GT} {own : String} {cc : ByteArray} {R : Room} {cs sl pc nx : Nat} {lv : List (Option Value)} {st : List Value} {x : Nat} {a : Nat → Nat → Nat} {kp : Int32} {rd : S2} {nw : S2} {i0 : S2} {i1 : S2} {fa : S2} {bo : S2} {pl : S2} {dr : S2} {i : Int32} (hX : oK X l g own cc R) (hd : dR cc pc (.iaload) 1 nx) (hi : vp_in i 4) (k : vJ X cs sl (wX g x a kp rd nw i0 i1 fa bo pl dr) nx lv (.int (pl.2 2 i.toNatClampNeg) :: st)) : vJ X cs sl (wX g x a kp rd nw i0 i1 fa bo pl dr) pc lv (.int i :: .ref (a 6 1) :: st) := r_iald hX hd 20 rfl hi k
theorem g_wX_19_3 {X : CT} {l : Launch} {g : GT} {own : String} {cc : ByteArray} {R : Room} {cs sl pc nx : Nat} {lv : List (Option Value)} {st : List Value} {x : Nat} {a : Nat → Nat → Nat} {kp : Int32} {rd : S2} {nw : S2} {i0 : S2} {i1 : S2} {fa : S2} {bo : S2} {pl : S2} {dr : S2} (hX : oK X l g own cc R) (hd : dGf own cc pc 2 3 nx) (k : vJ X cs sl (wX g x a kp rd nw i0 i1 fa bo pl dr) nx lv (.ref (a 6 2) :: st)) : vJ X cs sl (wX g x a kp rd nw i0 i1 fa bo pl dr) pc lv (.ref (a 6 0) :: st) := r_get hX hd 19 rfl rfl k
theorem l_wX_21 {X : CT} {l : Launch} {g : GT} {own : String} {cc : ByteArray} {R : Room} {cs sl pc nx : Nat} {lv : List (Option Value)} {st : List Value} {x : Nat} {a : Nat → Nat → Nat} {kp : Int32} {rd : S2} {nw : S2} {i0 : S2} {i1 : S2} {fa : S2} {bo : S2} {pl : S2} {dr : S2} {i : Int32} (hX : oK X l g own cc R) (hd : dR cc pc (.iaload) 1 nx) (hi : vp_in i 4) (k : vJ X cs sl (wX g x a kp rd nw i0 i1 fa bo pl dr) nx lv (.int (pl.2 3 i.toNatClampNeg) :: st)) : vJ X cs sl (wX g x a kp rd nw i0 i1 fa bo pl dr) pc lv (.int i :: .ref (a 6 2) :: st) := r_iald hX hd 21 rfl hi k
theorem g_wX_19_4 {X : CT} {l : Launch} {g : GT} {own : String} {cc : ByteArray} {R : Room} {cs sl pc nx : Nat} {lv : List (Option Value)} {st : List Value} {x : Nat} {a : Nat → Nat → Nat} {kp : Int32} {rd : S2} {nw : S2} {i0 : S2} {i1 : S2} {fa : S2} {bo : S2} {pl : S2} {dr : S2} (hX : oK X l g own cc R) (hd : dGf own cc pc 2 4 nx) (k : vJ X cs sl (wX g x a kp rd nw i0 i1 fa bo pl dr) nx lv (.ref (a 6 3) :: st)) : vJ X cs sl (wX g x a kp rd nw i0 i1 fa bo pl dr) pc lv (.ref (a 6 0) :: st) := r_get hX hd 19 rfl rfl k
theorem l_wX_22 {X : CT} {l : Launch} {g : GT} {own : String} {cc : ByteArray} {R : Room} {cs sl pc nx : Nat} {lv : List (Option Value)} {st : List Value} {x : Nat} {a : Nat → Nat → Nat} {kp : Int32} {rd : S2} {nw : S2} {i0 : S2} {i1 : S2} {fa : S2} {bo : S2} {pl : S2} {dr : S2} {i : Int32} (hX : oK X l g own cc R) (hd : dR cc pc (.iaload) 1 nx) (hi : vp_in i 4) (k : vJ X cs sl (wX g x a kp rd nw i0 i1 fa bo pl dr) nx lv (.int (pl.2 4 i.toNatClampNeg) :: st)) : vJ X cs sl (wX g x a kp rd nw i0 i1 fa bo pl dr) pc lv (.int i :: .ref (a 6 3) :: st) := r_iald hX hd 22 rfl hi k
theorem g_wX_19_5 {X : CT} {l : Launch} {g : GT} {own : String} {cc : ByteArray} {R : Room} {cs sl pc nx : Nat} {lv : List (Option Value)} {st : List Value} {x : Nat} {a : Nat → Nat → Nat} {kp : Int32} {rd : S2} {nw : S2} {i0 : S2} {i1 : S2} {fa : S2} {bo : S2} {pl : S2} {dr : S2} (hX : oK X l g own cc R) (hd : dGf own cc pc 2 5 nx) (k : vJ X cs sl (wX g x a kp rd nw i0 i1 fa bo pl dr) nx lv (.ref (a 6 4) :: st)) : vJ X cs sl (wX g x a kp rd nw i0 i1 fa bo pl dr) pc lv (.ref (a 6 0) :: st) := r_get hX hd 19 rfl rfl k
theorem l_wX_23 {X : CT} {l : Launch} {g : GT} {own : String} {cc : ByteArray} {R : Room} {cs sl pc nx : Nat} {lv : List (Option Value)} {st : List Value} {x : Nat} {a : Nat → Nat → Nat} {kp : Int32} {rd : S2} {nw : S2} {i0 : S2} {i1 : S2} {fa : S2} {bo : S2} {pl : S2} {dr : S2} {i : Int32} (hX : oK X l g own cc R) (hd : dR cc pc (.iaload) 1 nx) (hi : vp_in i 4) (k : vJ X cs sl (wX g x a kp rd nw i0 i1 fa bo pl dr) nx lv (.int (pl.2 5 i.toNatClampNeg) :: st)) : vJ X cs sl (wX g x a kp rd nw i0 i1 fa bo pl dr) pc lv (.int i :: .ref (a 6 4) :: st) := r_iald hX hd 23 rfl hi k
theorem inB_no1 {v lo : Int32} {a z : Int} (h : v < lo) (e : lo.toInt = a) : ¬ inB v.toInt a z := by
  rw [Int32.lt_iff_toInt_lt] at h
  intro q
  have := q.1
  omega
theorem inB_no2 {v hi : Int32} {a z : Int} (h : ¬ v ≤ hi) (e : hi.toInt = z) : ¬ inB v.toInt a z := by
  rw [Int32.le_iff_toInt_le] at h
  intro q
  have := q.2
  omega
theorem inB_yes {v lo hi : Int32} {a z : Int} (h1 : ¬ v < lo) (h2 : v ≤ hi) (e1 : lo.toInt = a) (e2 : hi.toInt = z) : inB v.toInt a z := by
  rw [Int32.lt_iff_toInt_lt] at h1
  rw [Int32.le_iff_toInt_le] at h2
  exact ⟨by omega, by omega⟩
theorem ad200 {v : Int32} {T : Nat} (hT : T ≤ 200) (e : v = nI T) : v < 200 ↔ ¬ v = 200 := by
  rw [e]
  constructor
  · intro h q
    rw [q] at h
    exact absurd h (by decide)
  · intro h
    have : T ≠ 200 := fun q => h (by rw [q]; rfl)
    exact (nI_ltI (b := 200) (by omega) (by decide)).mpr (by omega)
set_option maxHeartbeats 400000 in
theorem c_X5_feed (l : Launch) (g : GT) (x : Nat) (a : Nat → Nat → Nat) (kp : Int32) (rd : S2) (nw : S2) (i0 : S2) (i1 : S2) (fa : S2) (bo : S2) (pl : S2) (dr : S2) (t : Int32) (T : Nat) (hT : T ≤ 200) (eT : rd.1 1 = nI T) : Cx l g yX5_feed cX5_feed 2 (some .int) (k2_rm 1 30) [.ref (x), .int t] (wX g x a kp rd nw i0 i1 fa bo pl dr) (some (.int (feedF (rd.1 1) t (rd.2 0)).1)) (wX g x a kp (aw (su rd 1 (feedF (rd.1 1) t (rd.2 0)).2.1) 0 (feedF (rd.1 1) t (rd.2 0)).2.2) nw i0 i1 fa bo pl dr) := by
  refine meth (own := "ChalkedDoors") (by decide) rfl (Nat.le_of_ble_eq_true rfl) [some (.ref (x)), some (.int t)] rfl (fun X hX hQ => ?_)
  refine r_iload1 hX dX5_feed_0 ?_
  refine r_if_lt hX dX5_feed_1 (fun h1 => ?_) (fun h1 => ?_)
  · refine r_push hX dX5_feed_11 ?_
    exact r_iret hX hQ dX5_feed_13 (by unfold feedF; rw [if_neg (show ¬ inB t.toInt 0 255 from inB_no1 h1 rfl)] <;> rfl) (by unfold feedF; rw [if_neg (show ¬ inB t.toInt 0 255 from inB_no1 h1 rfl)] <;> rfl)
  · refine r_iload1 hX dX5_feed_4 ?_
    refine r_push hX dX5_feed_5 ?_
    refine r_ic_le hX dX5_feed_8 (fun h8 => ?_) (fun h8 => ?_)
    · refine r_aload0 hX dX5_feed_14 ?_
      refine g_wX_0_0 hX dX5_feed_15 ?_
      refine r_iload1 hX dX5_feed_18 ?_
      refine r_cV1i hX dX5_feed_19 kX3_add fr_wX_wR_1_2 (c_X3_add l g _ _ _ T hT eT) rfl (by decide) (Nat.le_of_ble_eq_true rfl) ?_
      exact r_iret hX hQ dX5_feed_22 (by unfold feedF; rw [if_pos (show inB t.toInt 0 255 from inB_yes h1 h8 rfl rfl)]; by_cases q : rd.1 1 = 200; (rw [if_pos q, if_neg (fun z => (ad200 hT eT).mp z q)] <;> rfl); (rw [if_neg q, if_pos ((ad200 hT eT).mpr q)] <;> rfl)) (by unfold feedF; rw [if_pos (show inB t.toInt 0 255 from inB_yes h1 h8 rfl rfl)]; by_cases q : rd.1 1 = 200; (rw [if_pos q, if_neg (fun z => (ad200 hT eT).mp z q)] <;> rfl); (rw [if_neg q, if_pos ((ad200 hT eT).mpr q)] <;> rfl))
    · refine r_push hX dX5_feed_11 ?_
      exact r_iret hX hQ dX5_feed_13 (by unfold feedF; rw [if_neg (show ¬ inB t.toInt 0 255 from inB_no2 h8 rfl)] <;> rfl) (by unfold feedF; rw [if_neg (show ¬ inB t.toInt 0 255 from inB_no2 h8 rfl)] <;> rfl)
set_option maxHeartbeats 400000 in
theorem c_X5_fault (l : Launch) (g : GT) (x : Nat) (a : Nat → Nat → Nat) (kp : Int32) (rd : S2) (nw : S2) (i0 : S2) (i1 : S2) (fa : S2) (bo : S2) (pl : S2) (dr : S2)   : Cx l g yX5_fault cX5_fault 1 (some .int) (k2_rm 0 0) [.ref (x)] (wX g x a kp rd nw i0 i1 fa bo pl dr) (some (.int (rd.1 4))) (wX g x a kp rd nw i0 i1 fa bo pl dr) := by
  refine meth (own := "ChalkedDoors") (by decide) rfl (Nat.le_of_ble_eq_true rfl) [some (.ref (x))] rfl (fun X hX hQ => ?_)
  refine r_aload0 hX dX5_fault_0 ?_
  refine g_wX_0_0 hX dX5_fault_1 ?_
  refine g_wX_1_4 hX dX5_fault_4 ?_
  exact r_iret hX hQ dX5_fault_7 (rfl) (rfl)
noncomputable def manX (n : Nat) (f : Nat → Int32) : Int32 := lp (fun d n => n + bcF (f d)) n 0 0
set_option maxHeartbeats 400000 in
theorem c_X5_countBits (l : Launch) (g : GT) (q : Nat) (n : Nat) (f : Nat → Int32)  (hn : n < 2 ^ 31) : Cx l g yX5_countBits cX5_countBits 6 (some .int) (k2_rm 1 30) [.ref (q)] (wA g q n f) (some (.int (manX n f))) (wA g q n f) := by
  refine meth (own := "ChalkedDoors") (by decide) rfl (Nat.le_of_ble_eq_true rfl) [some (.ref (q)), none, none, none, none, none] rfl (fun X hX hQ => ?_)
  generalize hsp : manX n f = S at hQ
  unfold manX at hsp
  have hL10 : ∀ (n0 i : Nat) (x : Int32) (r y : Int32) (v5 : Option Value), x = nI i → i + n0 = n → y = nI n → S = lp (fun d n => n + bcF (f d)) n0 i r → vJ X 0 0 (wA g q n f) 10 [some (.ref q), some (.int r), some (.ref q), some (.int y), some (.int x), v5] [] := by
    intro n0
    induction n0 with
    | zero =>
      intro i x r y v5 hx hn hy hs
      refine r_iload4 hX dX5_countBits_10 ?_
      refine r_iload3 hX dX5_countBits_12 ?_
      refine r_ic_ge hX dX5_countBits_13 (fun h13 => ?_) (fun h13 => absurd (lpx (e := n) hx hy (by omega) (by omega) (by omega)) h13)
      refine r_iload1 hX dX5_countBits_36 ?_
      exact r_iret hX hQ dX5_countBits_37 (by rw [hs]; rfl) (rfl)
    | succ n0 ih =>
      intro i x r y v5 hx hn hy hs
      have hcx : cl x = i := by rw [hx]; exact nI_clamp (by omega)
      refine r_iload4 hX dX5_countBits_10 ?_
      refine r_iload3 hX dX5_countBits_12 ?_
      refine r_ic_ge hX dX5_countBits_13 (fun h13 => absurd h13 (lpn (e := n) hx hy (by omega) (by omega))) (fun h13 => ?_)
      refine r_aload2 hX dX5_countBits_16 ?_
      refine r_iload4 hX dX5_countBits_17 ?_
      refine l_wA_0 hX dX5_countBits_19 (by rw [hx]; exact vp_in_nI (by omega) (by omega)) ?_
      refine r_istore5 hX dX5_countBits_20 rfl ?_
      refine r_iload1 hX dX5_countBits_22 ?_
      refine r_iload5 hX dX5_countBits_23 ?_
      refine r_nS1i hX dX5_countBits_25 kJ6_bitCount_0f7a4 (c_bitCount l g _) (by decide) (Nat.le_of_ble_eq_true rfl) ?_
      refine r_iadd hX dX5_countBits_28 ?_
      refine r_istore1 hX dX5_countBits_29 rfl ?_
      refine r_iinc4 hX dX5_countBits_30 rfl ?_
      refine r_goto hX dX5_countBits_33 ?_
      exact ih (i + 1) _ _ _ _ (by rw [hx]; exact nI_1 i) (by omega) hy (by rw [hs, ← hcx]; rfl)
  refine r_push hX dX5_countBits_0 ?_
  refine r_istore1 hX dX5_countBits_1 rfl ?_
  refine r_aload0 hX dX5_countBits_2 ?_
  refine r_astore2 hX dX5_countBits_3 rfl ?_
  refine r_aload2 hX dX5_countBits_4 ?_
  refine r_alen hX dX5_countBits_5 0 rfl ?_
  refine r_istore3 hX dX5_countBits_6 rfl ?_
  refine r_push hX dX5_countBits_7 ?_
  refine r_istore4 hX dX5_countBits_8 rfl ?_
  exact hL10 n 0 _ _ _ _ rfl (by omega) rfl hsp.symm
set_option maxHeartbeats 400000 in
theorem c_X5_told (l : Launch) (g : GT) (x : Nat) (a : Nat → Nat → Nat) (kp : Int32) (rd : S2) (nw : S2) (i0 : S2) (i1 : S2) (fa : S2) (bo : S2) (pl : S2) (dr : S2) (t : Int32)  : Cx l g yX5_told cX5_told 2 (some .int) (k2_rm 2 60) [.ref (x), .int t] (wX g x a kp rd nw i0 i1 fa bo pl dr) (some (.int (selF [pl.1 0, pl.1 1, pl.1 7, pl.1 8, pl.1 9, rd.1 1, nw.1 2, nw.1 3, manX 14 (nw.2 0), manX 14 (nw.2 1), fa.1 3, bo.1 2] t))) (wX g x a kp rd nw i0 i1 fa bo pl dr) := by
  refine meth (own := "ChalkedDoors") (by decide) rfl (Nat.le_of_ble_eq_true rfl) [some (.ref (x)), some (.int t)] rfl (fun X hX hQ => ?_)
  refine r_iload1 hX dX5_told_0 ?_
  rcases swc t 12 with ⟨j, hj, hs⟩ | hs
  · rcases (show j = 0 ∨ j = 1 ∨ j = 2 ∨ j = 3 ∨ j = 4 ∨ j = 5 ∨ j = 6 ∨ j = 7 ∨ j = 8 ∨ j = 9 ∨ j = 10 ∨ j = 11 by omega) with rfl | rfl | rfl | rfl | rfl | rfl | rfl | rfl | rfl | rfl | rfl | rfl
    · refine r_tin (tgt := 64) hX dX5_told_1 0 (by omega) (by decide) rfl (by decide) ?_
      refine r_aload0 hX dX5_told_64 ?_
      refine g_wX_0_6 hX dX5_told_65 ?_
      refine g_wX_19_0 hX dX5_told_68 ?_
      exact r_iret hX hQ dX5_told_71 (by rw [sel_in 0 hs]; rfl) (rfl)
    · refine r_tin (tgt := 72) hX dX5_told_1 1 (by omega) (by decide) rfl (by decide) ?_
      refine r_aload0 hX dX5_told_72 ?_
      refine g_wX_0_6 hX dX5_told_73 ?_
      refine g_wX_19_1 hX dX5_told_76 ?_
      exact r_iret hX hQ dX5_told_79 (by rw [sel_in 1 hs]; rfl) (rfl)
    · refine r_tin (tgt := 80) hX dX5_told_1 2 (by omega) (by decide) rfl (by decide) ?_
      refine r_aload0 hX dX5_told_80 ?_
      refine g_wX_0_6 hX dX5_told_81 ?_
      refine g_wX_19_7 hX dX5_told_84 ?_
      exact r_iret hX hQ dX5_told_87 (by rw [sel_in 2 hs]; rfl) (rfl)
    · refine r_tin (tgt := 88) hX dX5_told_1 3 (by omega) (by decide) rfl (by decide) ?_
      refine r_aload0 hX dX5_told_88 ?_
      refine g_wX_0_6 hX dX5_told_89 ?_
      refine g_wX_19_8 hX dX5_told_92 ?_
      exact r_iret hX hQ dX5_told_95 (by rw [sel_in 3 hs]; rfl) (rfl)
    · refine r_tin (tgt := 96) hX dX5_told_1 4 (by omega) (by decide) rfl (by decide) ?_
      refine r_aload0 hX dX5_told_96 ?_
      refine g_wX_0_6 hX dX5_told_97 ?_
      refine g_wX_19_9 hX dX5_told_100 ?_
      exact r_iret hX hQ dX5_told_103 (by rw [sel_in 4 hs]; rfl) (rfl)
    · refine r_tin (tgt := 104) hX dX5_told_1 5 (by omega) (by decide) rfl (by decide) ?_
      refine r_aload0 hX dX5_told_104 ?_
      refine g_wX_0_0 hX dX5_told_105 ?_
      refine g_wX_1_1 hX dX5_told_108 ?_
      exact r_iret hX hQ dX5_told_111 (by rw [sel_in 5 hs]; rfl) (rfl)
    · refine r_tin (tgt := 112) hX dX5_told_1 6 (by omega) (by decide) rfl (by decide) ?_
      refine r_aload0 hX dX5_told_112 ?_
      refine g_wX_0_1 hX dX5_told_113 ?_
      refine g_wX_3_2 hX dX5_told_116 ?_
      exact r_iret hX hQ dX5_told_119 (by rw [sel_in 6 hs]; rfl) (rfl)
    · refine r_tin (tgt := 120) hX dX5_told_1 7 (by omega) (by decide) rfl (by decide) ?_
      refine r_aload0 hX dX5_told_120 ?_
      refine g_wX_0_1 hX dX5_told_121 ?_
      refine g_wX_3_3 hX dX5_told_124 ?_
      exact r_iret hX hQ dX5_told_127 (by rw [sel_in 7 hs]; rfl) (rfl)
    · refine r_tin (tgt := 128) hX dX5_told_1 8 (by omega) (by decide) rfl (by decide) ?_
      refine r_aload0 hX dX5_told_128 ?_
      refine g_wX_0_1 hX dX5_told_129 ?_
      refine g_wX_3_0 hX dX5_told_132 ?_
      refine r_cS1i hX dX5_told_135 kX5_countBits fr_wX_wA_4_4 (c_X5_countBits l g _ _ _ (by decide)) (by decide) (Nat.le_of_ble_eq_true rfl) ?_
      exact r_iret hX hQ dX5_told_138 (by rw [sel_in 8 hs]; rfl) (rfl)
    · refine r_tin (tgt := 139) hX dX5_told_1 9 (by omega) (by decide) rfl (by decide) ?_
      refine r_aload0 hX dX5_told_139 ?_
      refine g_wX_0_1 hX dX5_told_140 ?_
      refine g_wX_3_1 hX dX5_told_143 ?_
      refine r_cS1i hX dX5_told_146 kX5_countBits fr_wX_wA_5_5 (c_X5_countBits l g _ _ _ (by decide)) (by decide) (Nat.le_of_ble_eq_true rfl) ?_
      exact r_iret hX hQ dX5_told_149 (by rw [sel_in 9 hs]; rfl) (rfl)
    · refine r_tin (tgt := 150) hX dX5_told_1 10 (by omega) (by decide) rfl (by decide) ?_
      refine r_aload0 hX dX5_told_150 ?_
      refine g_wX_0_4 hX dX5_told_151 ?_
      refine g_wX_12_3 hX dX5_told_154 ?_
      exact r_iret hX hQ dX5_told_157 (by rw [sel_in 10 hs]; rfl) (rfl)
    · refine r_tin (tgt := 158) hX dX5_told_1 11 (by omega) (by decide) rfl (by decide) ?_
      refine r_aload0 hX dX5_told_158 ?_
      refine g_wX_0_5 hX dX5_told_159 ?_
      refine g_wX_16_2 hX dX5_told_162 ?_
      exact r_iret hX hQ dX5_told_165 (by rw [sel_in 11 hs]; rfl) (rfl)
  · refine r_tout (tgt := 166) hX dX5_told_1 (by omega) (by decide) ?_
    refine r_push hX dX5_told_166 ?_
    exact r_iret hX hQ dX5_told_168 (by rw [sel_out (n := 12) rfl hs]) (rfl)
set_option maxHeartbeats 400000 in
theorem c_X5_chalk (l : Launch) (g : GT) (x : Nat) (a : Nat → Nat → Nat) (kp : Int32) (rd : S2) (nw : S2) (i0 : S2) (i1 : S2) (fa : S2) (bo : S2) (pl : S2) (dr : S2) (c t : Int32) (C : Nat) (hC : C ≤ 4) (eC : pl.1 1 = nI C) (hK : ∀ j, j < C → kind3 (pl.2 2 j)) : Cx l g yX5_chalk cX5_chalk 3 (some .int) (k2_rm 1 30) [.ref (x), .int c, .int t] (wX g x a kp rd nw i0 i1 fa bo pl dr) (some (.int (if inD c (pl.1 1) then selF [pl.2 2 (cl c), pl.2 3 (cl c), pl.2 4 (cl c), pl.2 5 (cl c), wshF (pl.2 2 (cl c)) (pl.2 3 (cl c))] t else -1000000001))) (wX g x a kp rd nw i0 i1 fa bo pl dr) := by
  refine meth (own := "ChalkedDoors") (by decide) rfl (Nat.le_of_ble_eq_true rfl) [some (.ref (x)), some (.int c), some (.int t)] rfl (fun X hX hQ => ?_)
  refine r_aload0 hX dX5_chalk_0 ?_
  refine g_wX_0_6 hX dX5_chalk_1 ?_
  refine r_iload1 hX dX5_chalk_4 ?_
  refine r_cV1i hX dX5_chalk_5 kX2_hasChalk fr_wX_wP_19_24 (c_X2_hasChalk l g _ _ _) rfl (by decide) (Nat.le_of_ble_eq_true rfl) ?_
  refine r_if_ne hX dX5_chalk_8 (fun h8 => ?_) (fun h8 => ?_)
  · refine r_iload2 hX dX5_chalk_14 ?_
    rcases swc t 5 with ⟨j, hj, hs⟩ | hs
    · rcases (show j = 0 ∨ j = 1 ∨ j = 2 ∨ j = 3 ∨ j = 4 by omega) with rfl | rfl | rfl | rfl | rfl
      · refine r_tin (tgt := 48) hX dX5_chalk_15 0 (by omega) (by decide) rfl (by decide) ?_
        refine r_aload0 hX dX5_chalk_48 ?_
        refine g_wX_0_6 hX dX5_chalk_49 ?_
        refine g_wX_19_2 hX dX5_chalk_52 ?_
        refine r_iload1 hX dX5_chalk_55 ?_
        refine l_wX_20 hX dX5_chalk_56 (vin (bI_nz h8) eC hC (by decide)) ?_
        exact r_iret hX hQ dX5_chalk_57 (by rw [if_pos (bI_nz h8), sel_in 0 hs]; rfl) (rfl)
      · refine r_tin (tgt := 58) hX dX5_chalk_15 1 (by omega) (by decide) rfl (by decide) ?_
        refine r_aload0 hX dX5_chalk_58 ?_
        refine g_wX_0_6 hX dX5_chalk_59 ?_
        refine g_wX_19_3 hX dX5_chalk_62 ?_
        refine r_iload1 hX dX5_chalk_65 ?_
        refine l_wX_21 hX dX5_chalk_66 (vin (bI_nz h8) eC hC (by decide)) ?_
        exact r_iret hX hQ dX5_chalk_67 (by rw [if_pos (bI_nz h8), sel_in 1 hs]; rfl) (rfl)
      · refine r_tin (tgt := 68) hX dX5_chalk_15 2 (by omega) (by decide) rfl (by decide) ?_
        refine r_aload0 hX dX5_chalk_68 ?_
        refine g_wX_0_6 hX dX5_chalk_69 ?_
        refine g_wX_19_4 hX dX5_chalk_72 ?_
        refine r_iload1 hX dX5_chalk_75 ?_
        refine l_wX_22 hX dX5_chalk_76 (vin (bI_nz h8) eC hC (by decide)) ?_
        exact r_iret hX hQ dX5_chalk_77 (by rw [if_pos (bI_nz h8), sel_in 2 hs]; rfl) (rfl)
      · refine r_tin (tgt := 78) hX dX5_chalk_15 3 (by omega) (by decide) rfl (by decide) ?_
        refine r_aload0 hX dX5_chalk_78 ?_
        refine g_wX_0_6 hX dX5_chalk_79 ?_
        refine g_wX_19_5 hX dX5_chalk_82 ?_
        refine r_iload1 hX dX5_chalk_85 ?_
        refine l_wX_23 hX dX5_chalk_86 (vin (bI_nz h8) eC hC (by decide)) ?_
        exact r_iret hX hQ dX5_chalk_87 (by rw [if_pos (bI_nz h8), sel_in 3 hs]; rfl) (rfl)
      · refine r_tin (tgt := 88) hX dX5_chalk_15 4 (by omega) (by decide) rfl (by decide) ?_
        refine r_aload0 hX dX5_chalk_88 ?_
        refine g_wX_0_6 hX dX5_chalk_89 ?_
        refine r_iload1 hX dX5_chalk_92 ?_
        refine r_cV1i hX dX5_chalk_93 kX2_washedBy fr_wX_wP_19_24 (c_X2_washedBy l g _ _ _ (vin (bI_nz h8) eC hC (by decide)) (hK _ (inD_cl (bI_nz h8) eC (by omega)))) rfl (by decide) (Nat.le_of_ble_eq_true rfl) ?_
        exact r_iret hX hQ dX5_chalk_96 (by rw [if_pos (bI_nz h8), sel_in 4 hs]; rfl) (rfl)
    · refine r_tout (tgt := 97) hX dX5_chalk_15 (by omega) (by decide) ?_
      refine r_push hX dX5_chalk_97 ?_
      exact r_iret hX hQ dX5_chalk_99 (by rw [if_pos (bI_nz h8), sel_out (n := 5) rfl hs]) (rfl)
  · refine r_push hX dX5_chalk_11 ?_
    exact r_iret hX hQ dX5_chalk_13 (by rw [if_neg (bI_z h8)]) (rfl)
