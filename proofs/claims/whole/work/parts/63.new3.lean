/-! constructors -/
def s0 : S2 := (fun _ => 0, fun _ _ => 0)
def s0P : S2 := (fun k => match k with
  | 7 => 4
  | _ => 0, fun _ _ => 0)
def s0R : S2 := (fun k => match k with
  | 4 => -1
  | _ => 0, fun _ _ => 0)
def s0M : S2 := (fun k => match k with
  | 6 => 4
  | 16 => -1
  | _ => 0, fun _ _ => 0)
theorem vJn {X : CT} {cs cs' sl sl' : Nat} {w w' : va_W} {pc : Nat} {lv : List (Option Value)} {st : List Value} (hc : cs = cs') (hs : sl = sl') (hw : w = w') (k : vJ X cs' sl' w' pc lv st) : vJ X cs sl w pc lv st := by subst hc; subst hs; subst hw; exact k
abbrev rmN (h mc ms : Nat) : Room := { frames := h, cells := mc, slots := ms, locals := 30 * h }
abbrev zX0 : List Value := [.null, .null, .int 0]
theorem kX0_init : kI yX0_init cX0_init 1 := ⟨⟨mem_UW 186 (by decide +kernel) rfl, mem_UW 85 (by decide +kernel) rfl, by decide, by decide, by decide +kernel⟩, mem_UW 185 (by decide +kernel) rfl, rfl⟩
abbrev zX1 : List Value := [.null, .null, .null, .int 0]
theorem kX1_init : kI yX1_init cX1_init 1 := ⟨⟨mem_UW 165 (by decide +kernel) rfl, mem_UW 84 (by decide +kernel) rfl, by decide, by decide, by decide +kernel⟩, mem_UW 164 (by decide +kernel) rfl, rfl⟩
abbrev zX2 : List Value := [.int 0, .int 0, .null, .null, .null, .null, .null, .int 0, .int 0, .int 0]
theorem kX2_init : kI yX2_init cX2_init 1 := ⟨⟨mem_UW 203 (by decide +kernel) rfl, mem_UW 86 (by decide +kernel) rfl, by decide, by decide, by decide +kernel⟩, mem_UW 202 (by decide +kernel) rfl, rfl⟩
abbrev zX3 : List Value := [.null, .int 0, .int 0, .int 0, .int 0, .int 0, .int 0, .int 0]
theorem kX3_init : kI yX3_init cX3_init 1 := ⟨⟨mem_UW 104 (by decide +kernel) rfl, mem_UW 82 (by decide +kernel) rfl, by decide, by decide, by decide +kernel⟩, mem_UW 103 (by decide +kernel) rfl, rfl⟩
abbrev zX4 : List Value := [.null, .null, .int 0, .int 0, .int 0]
theorem kX4_init : kI yX4_init cX4_init 1 := ⟨⟨mem_UW 138 (by decide +kernel) rfl, mem_UW 83 (by decide +kernel) rfl, by decide, by decide, by decide +kernel⟩, mem_UW 137 (by decide +kernel) rfl, rfl⟩
abbrev zX5 : List Value := [.null, .null, .null, .null, .null, .null, .null, .null, .int 0]
theorem kX5_init : kI yX5_init cX5_init 1 := ⟨⟨mem_UW 96 (by decide +kernel) rfl, mem_UW 81 (by decide +kernel) rfl, by decide, by decide, by decide +kernel⟩, mem_UW 95 (by decide +kernel) rfl, rfl⟩
abbrev zX6 : List Value := [.int 0, .int 0, .null, .null, .null, .null, .int 0, .int 0, .int 0, .null, .null, .int 0, .int 0, .int 0, .null, .int 0, .int 0, .int 0, .int 0, .int 0, .int 0, .int 0, .null, .null, .null, .null, .int 0, .null, .int 0, .null, .null, .int 0, .int 0, .null, .int 0, .int 0, .int 0, .null, .null, .null, .int 0, .null, .null, .null, .null]
theorem kX6_init : kI yX6_init cX6_init 1 := ⟨⟨mem_UW 671 (by decide +kernel) rfl, mem_UW 87 (by decide +kernel) rfl, by decide, by decide, by decide +kernel⟩, mem_UW 670 (by decide +kernel) rfl, rfl⟩
theorem ff_0_9 : fF RX0 9 0 0 (.array .int) := ⟨RX0, TX0, 3, tyX0, rfl, inU0, by decide, mem_UW 188 (by decide +kernel) rfl, tyX0_ok, nmX0, rfl, rfl, by decide +kernel⟩
theorem ff_0_15 : fF RX0 15 0 1 (.array .int) := ⟨RX0, TX0, 3, tyX0, rfl, inU0, by decide, mem_UW 189 (by decide +kernel) rfl, tyX0_ok, nmX0, rfl, rfl, by decide +kernel⟩
set_option maxRecDepth 4000 in
set_option maxHeartbeats 1000000 in
theorem c_X0_init (l : Launch) (g : GT) (q : Nat) : Cn l g yX0_init cX0_init 1 (rmN 1 2 30) [.ref q] [(q, .inr (0, zX0))] (fun w => ∃ b : Nat → Nat, q = b 0 ∧ w = wB g b s0) 2 30 := by
  refine methN (own := RX0) (by decide) rfl rfl (Nat.le_of_ble_eq_true rfl) [some (.ref q)] rfl (fun X hX hQ => ?_)
  refine r_aload0 hX dX0_init_0 ?_
  refine r_obj hX dX0_init_1 (mem_UW 187 (by decide +kernel) rfl) (Nat.le_of_ble_eq_true rfl) (Nat.le_of_ble_eq_true rfl) ?_
  refine r_aload0 hX dX0_init_4 ?_
  refine r_push hX dX0_init_5 ?_
  refine r_newi hX 15 dX0_init_7 uArrI (by decide) (by decide) (by decide) (Nat.le_of_ble_eq_true rfl) (Nat.le_of_ble_eq_true rfl) (fun q1 => ?_)
  refine r_putF hX hQ dX0_init_9 ff_0_9 0 rfl rfl rfl (Nat.le_of_ble_eq_true rfl) _ rfl ?_
  refine r_aload0 hX dX0_init_12 ?_
  refine r_push hX dX0_init_13 ?_
  refine r_newi hX 15 dX0_init_15 uArrI (by decide) (by decide) (by decide) (Nat.le_of_ble_eq_true rfl) (Nat.le_of_ble_eq_true rfl) (fun q2 => ?_)
  refine r_putF hX hQ dX0_init_17 ff_0_15 0 rfl rfl rfl (Nat.le_of_ble_eq_true rfl) _ rfl ?_
  exact r_vretN hX hQ dX0_init_20 ⟨fun n => match n with | 0 => q | 1 => q1 | _ => q2, rfl, rfl⟩
theorem ff_1_9 : fF RX1 9 1 0 (.array .int) := ⟨RX1, TX1, 4, tyX1, rfl, inU1, by decide, mem_UW 167 (by decide +kernel) rfl, tyX1_ok, nmX1, rfl, rfl, by decide +kernel⟩
theorem ff_1_15 : fF RX1 15 1 1 (.array .int) := ⟨RX1, TX1, 4, tyX1, rfl, inU1, by decide, mem_UW 168 (by decide +kernel) rfl, tyX1_ok, nmX1, rfl, rfl, by decide +kernel⟩
theorem ff_1_18 : fF RX1 18 1 2 (.array .boolean) := ⟨RX1, TX1, 4, tyX1, rfl, inU1, by decide, mem_UW 169 (by decide +kernel) rfl, tyX1_ok, nmX1, rfl, rfl, by decide +kernel⟩
set_option maxRecDepth 4000 in
set_option maxHeartbeats 1000000 in
theorem c_X1_init (l : Launch) (g : GT) (q : Nat) : Cn l g yX1_init cX1_init 1 (rmN 1 3 30) [.ref q] [(q, .inr (1, zX1))] (fun w => ∃ b : Nat → Nat, q = b 0 ∧ w = wF g b s0) 3 30 := by
  refine methN (own := RX1) (by decide) rfl rfl (Nat.le_of_ble_eq_true rfl) [some (.ref q)] rfl (fun X hX hQ => ?_)
  refine r_aload0 hX dX1_init_0 ?_
  refine r_obj hX dX1_init_1 (mem_UW 166 (by decide +kernel) rfl) (Nat.le_of_ble_eq_true rfl) (Nat.le_of_ble_eq_true rfl) ?_
  refine r_aload0 hX dX1_init_4 ?_
  refine r_push hX dX1_init_5 ?_
  refine r_newi hX 10 dX1_init_7 uArrI (by decide) (by decide) (by decide) (Nat.le_of_ble_eq_true rfl) (Nat.le_of_ble_eq_true rfl) (fun q1 => ?_)
  refine r_putF hX hQ dX1_init_9 ff_1_9 0 rfl rfl rfl (Nat.le_of_ble_eq_true rfl) _ rfl ?_
  refine r_aload0 hX dX1_init_12 ?_
  refine r_push hX dX1_init_13 ?_
  refine r_newi hX 10 dX1_init_15 uArrI (by decide) (by decide) (by decide) (Nat.le_of_ble_eq_true rfl) (Nat.le_of_ble_eq_true rfl) (fun q2 => ?_)
  refine r_putF hX hQ dX1_init_17 ff_1_15 0 rfl rfl rfl (Nat.le_of_ble_eq_true rfl) _ rfl ?_
  refine r_aload0 hX dX1_init_20 ?_
  refine r_push hX dX1_init_21 ?_
  refine r_newz hX 10 dX1_init_23 uArrZ (by decide) (by decide) (by decide) (Nat.le_of_ble_eq_true rfl) (Nat.le_of_ble_eq_true rfl) (fun q3 => ?_)
  refine r_putF hX hQ dX1_init_25 ff_1_18 0 rfl rfl rfl (Nat.le_of_ble_eq_true rfl) _ rfl ?_
  exact r_vretN hX hQ dX1_init_28 ⟨fun n => match n with | 0 => q | 1 => q1 | 2 => q2 | _ => q3, rfl, rfl⟩
theorem ff_2_9 : fF RX2 9 2 2 (.array .int) := ⟨RX2, TX2, 10, tyX2, rfl, inU2, by decide, mem_UW 213 (by decide +kernel) rfl, tyX2_ok, nmX2, rfl, rfl, by decide +kernel⟩
theorem ff_2_15 : fF RX2 15 2 3 (.array .int) := ⟨RX2, TX2, 10, tyX2, rfl, inU2, by decide, mem_UW 215 (by decide +kernel) rfl, tyX2_ok, nmX2, rfl, rfl, by decide +kernel⟩
theorem ff_2_18 : fF RX2 18 2 4 (.array .int) := ⟨RX2, TX2, 10, tyX2, rfl, inU2, by decide, mem_UW 217 (by decide +kernel) rfl, tyX2_ok, nmX2, rfl, rfl, by decide +kernel⟩
theorem ff_2_21 : fF RX2 21 2 5 (.array .int) := ⟨RX2, TX2, 10, tyX2, rfl, inU2, by decide, mem_UW 219 (by decide +kernel) rfl, tyX2_ok, nmX2, rfl, rfl, by decide +kernel⟩
theorem ff_2_24 : fF RX2 24 2 6 (.array .int) := ⟨RX2, TX2, 10, tyX2, rfl, inU2, by decide, mem_UW 222 (by decide +kernel) rfl, tyX2_ok, nmX2, rfl, rfl, by decide +kernel⟩
set_option maxRecDepth 4000 in
set_option maxHeartbeats 1000000 in
theorem c_X2_init (l : Launch) (g : GT) (q : Nat) : Cn l g yX2_init cX2_init 1 (rmN 1 5 30) [.ref q] [(q, .inr (2, zX2))] (fun w => ∃ b : Nat → Nat, q = b 0 ∧ w = wP g b s0P) 5 30 := by
  refine methN (own := RX2) (by decide) rfl rfl (Nat.le_of_ble_eq_true rfl) [some (.ref q)] rfl (fun X hX hQ => ?_)
  refine r_aload0 hX dX2_init_0 ?_
  refine r_obj hX dX2_init_1 (mem_UW 204 (by decide +kernel) rfl) (Nat.le_of_ble_eq_true rfl) (Nat.le_of_ble_eq_true rfl) ?_
  refine r_aload0 hX dX2_init_4 ?_
  refine r_push hX dX2_init_5 ?_
  refine r_newi hX 4 dX2_init_6 uArrI (by decide) (by decide) (by decide) (Nat.le_of_ble_eq_true rfl) (Nat.le_of_ble_eq_true rfl) (fun q1 => ?_)
  refine r_putF hX hQ dX2_init_8 ff_2_9 0 rfl rfl rfl (Nat.le_of_ble_eq_true rfl) _ rfl ?_
  refine r_aload0 hX dX2_init_11 ?_
  refine r_push hX dX2_init_12 ?_
  refine r_newi hX 4 dX2_init_13 uArrI (by decide) (by decide) (by decide) (Nat.le_of_ble_eq_true rfl) (Nat.le_of_ble_eq_true rfl) (fun q2 => ?_)
  refine r_putF hX hQ dX2_init_15 ff_2_15 0 rfl rfl rfl (Nat.le_of_ble_eq_true rfl) _ rfl ?_
  refine r_aload0 hX dX2_init_18 ?_
  refine r_push hX dX2_init_19 ?_
  refine r_newi hX 4 dX2_init_20 uArrI (by decide) (by decide) (by decide) (Nat.le_of_ble_eq_true rfl) (Nat.le_of_ble_eq_true rfl) (fun q3 => ?_)
  refine r_putF hX hQ dX2_init_22 ff_2_18 0 rfl rfl rfl (Nat.le_of_ble_eq_true rfl) _ rfl ?_
  refine r_aload0 hX dX2_init_25 ?_
  refine r_push hX dX2_init_26 ?_
  refine r_newi hX 4 dX2_init_27 uArrI (by decide) (by decide) (by decide) (Nat.le_of_ble_eq_true rfl) (Nat.le_of_ble_eq_true rfl) (fun q4 => ?_)
  refine r_putF hX hQ dX2_init_29 ff_2_21 0 rfl rfl rfl (Nat.le_of_ble_eq_true rfl) _ rfl ?_
  refine r_aload0 hX dX2_init_32 ?_
  refine r_push hX dX2_init_33 ?_
  refine r_newi hX 14 dX2_init_35 uArrI (by decide) (by decide) (by decide) (Nat.le_of_ble_eq_true rfl) (Nat.le_of_ble_eq_true rfl) (fun q5 => ?_)
  refine r_putF hX hQ dX2_init_37 ff_2_24 0 rfl rfl rfl (Nat.le_of_ble_eq_true rfl) _ rfl ?_
  refine r_aload0 hX dX2_init_40 ?_
  refine r_push hX dX2_init_41 ?_
  refine r_put hX dX2_init_42 0 rfl rfl rfl (Nat.le_of_ble_eq_true rfl) _ rfl ?_
  exact r_vretN hX hQ dX2_init_45 ⟨fun n => match n with | 0 => q | 1 => q1 | 2 => q2 | 3 => q3 | 4 => q4 | _ => q5, rfl, rfl⟩
theorem ff_3_9 : fF RX3 9 3 0 (.array .int) := ⟨RX3, TX3, 8, tyX3, rfl, inU3, by decide, mem_UW 106 (by decide +kernel) rfl, tyX3_ok, nmX3, rfl, rfl, by decide +kernel⟩
set_option maxRecDepth 4000 in
set_option maxHeartbeats 1000000 in
theorem c_X3_init (l : Launch) (g : GT) (q : Nat) : Cn l g yX3_init cX3_init 1 (rmN 1 1 200) [.ref q] [(q, .inr (3, zX3))] (fun w => ∃ b : Nat → Nat, q = b 0 ∧ w = wR g b s0R) 1 200 := by
  refine methN (own := RX3) (by decide) rfl rfl (Nat.le_of_ble_eq_true rfl) [some (.ref q)] rfl (fun X hX hQ => ?_)
  refine r_aload0 hX dX3_init_0 ?_
  refine r_obj hX dX3_init_1 (mem_UW 105 (by decide +kernel) rfl) (Nat.le_of_ble_eq_true rfl) (Nat.le_of_ble_eq_true rfl) ?_
  refine r_aload0 hX dX3_init_4 ?_
  refine r_push hX dX3_init_5 ?_
  refine r_newi hX 200 dX3_init_8 uArrI (by decide) (by decide) (by decide) (Nat.le_of_ble_eq_true rfl) (Nat.le_of_ble_eq_true rfl) (fun q1 => ?_)
  refine r_putF hX hQ dX3_init_10 ff_3_9 0 rfl rfl rfl (Nat.le_of_ble_eq_true rfl) _ rfl ?_
  refine r_aload0 hX dX3_init_13 ?_
  refine r_push hX dX3_init_14 ?_
  refine r_put hX dX3_init_15 0 rfl rfl rfl (Nat.le_of_ble_eq_true rfl) _ rfl ?_
  exact r_vretN hX hQ dX3_init_18 ⟨fun n => match n with | 0 => q | _ => q1, rfl, rfl⟩
theorem ff_4_9 : fF RX4 9 4 0 (.array .int) := ⟨RX4, TX4, 5, tyX4, rfl, inU4, by decide, mem_UW 140 (by decide +kernel) rfl, tyX4_ok, nmX4, rfl, rfl, by decide +kernel⟩
theorem ff_4_15 : fF RX4 15 4 1 (.array .int) := ⟨RX4, TX4, 5, tyX4, rfl, inU4, by decide, mem_UW 142 (by decide +kernel) rfl, tyX4_ok, nmX4, rfl, rfl, by decide +kernel⟩
set_option maxRecDepth 4000 in
set_option maxHeartbeats 1000000 in
theorem c_X4_init (l : Launch) (g : GT) (q : Nat) : Cn l g yX4_init cX4_init 1 (rmN 1 2 28) [.ref q] [(q, .inr (4, zX4))] (fun w => ∃ b : Nat → Nat, q = b 0 ∧ w = wS g b s0) 2 28 := by
  refine methN (own := RX4) (by decide) rfl rfl (Nat.le_of_ble_eq_true rfl) [some (.ref q)] rfl (fun X hX hQ => ?_)
  refine r_aload0 hX dX4_init_0 ?_
  refine r_obj hX dX4_init_1 (mem_UW 139 (by decide +kernel) rfl) (Nat.le_of_ble_eq_true rfl) (Nat.le_of_ble_eq_true rfl) ?_
  refine r_aload0 hX dX4_init_4 ?_
  refine r_push hX dX4_init_5 ?_
  refine r_newi hX 14 dX4_init_7 uArrI (by decide) (by decide) (by decide) (Nat.le_of_ble_eq_true rfl) (Nat.le_of_ble_eq_true rfl) (fun q1 => ?_)
  refine r_putF hX hQ dX4_init_9 ff_4_9 0 rfl rfl rfl (Nat.le_of_ble_eq_true rfl) _ rfl ?_
  refine r_aload0 hX dX4_init_12 ?_
  refine r_push hX dX4_init_13 ?_
  refine r_newi hX 14 dX4_init_15 uArrI (by decide) (by decide) (by decide) (Nat.le_of_ble_eq_true rfl) (Nat.le_of_ble_eq_true rfl) (fun q2 => ?_)
  refine r_putF hX hQ dX4_init_17 ff_4_15 0 rfl rfl rfl (Nat.le_of_ble_eq_true rfl) _ rfl ?_
  exact r_vretN hX hQ dX4_init_20 ⟨fun n => match n with | 0 => q | 1 => q1 | _ => q2, rfl, rfl⟩
theorem ff_6_7 : fF RX6 7 6 2 (.array .int) := ⟨RX6, TX6, 45, tyX6, rfl, inU6, by decide, mem_UW 675 (by decide +kernel) rfl, tyX6_ok, nmX6, rfl, rfl, by decide +kernel⟩
theorem ff_6_13 : fF RX6 13 6 3 (.array .int) := ⟨RX6, TX6, 45, tyX6, rfl, inU6, by decide, mem_UW 676 (by decide +kernel) rfl, tyX6_ok, nmX6, rfl, rfl, by decide +kernel⟩
theorem ff_6_16 : fF RX6 16 6 4 (.array .int) := ⟨RX6, TX6, 45, tyX6, rfl, inU6, by decide, mem_UW 677 (by decide +kernel) rfl, tyX6_ok, nmX6, rfl, rfl, by decide +kernel⟩
theorem ff_6_19 : fF RX6 19 6 5 (.array .int) := ⟨RX6, TX6, 45, tyX6, rfl, inU6, by decide, mem_UW 678 (by decide +kernel) rfl, tyX6_ok, nmX6, rfl, rfl, by decide +kernel⟩
theorem ff_6_26 : fF RX6 26 6 9 (.array .int) := ⟨RX6, TX6, 45, tyX6, rfl, inU6, by decide, mem_UW 682 (by decide +kernel) rfl, tyX6_ok, nmX6, rfl, rfl, by decide +kernel⟩
theorem ff_6_29 : fF RX6 29 6 10 (.array .int) := ⟨RX6, TX6, 45, tyX6, rfl, inU6, by decide, mem_UW 683 (by decide +kernel) rfl, tyX6_ok, nmX6, rfl, rfl, by decide +kernel⟩
theorem ff_6_32 : fF RX6 32 6 14 (.array .int) := ⟨RX6, TX6, 45, tyX6, rfl, inU6, by decide, mem_UW 687 (by decide +kernel) rfl, tyX6_ok, nmX6, rfl, rfl, by decide +kernel⟩
theorem ff_6_38 : fF RX6 38 6 22 (.array .int) := ⟨RX6, TX6, 45, tyX6, rfl, inU6, by decide, mem_UW 695 (by decide +kernel) rfl, tyX6_ok, nmX6, rfl, rfl, by decide +kernel⟩
theorem ff_6_41 : fF RX6 41 6 23 (.array .int) := ⟨RX6, TX6, 45, tyX6, rfl, inU6, by decide, mem_UW 696 (by decide +kernel) rfl, tyX6_ok, nmX6, rfl, rfl, by decide +kernel⟩
theorem ff_6_44 : fF RX6 44 6 24 (.array .int) := ⟨RX6, TX6, 45, tyX6, rfl, inU6, by decide, mem_UW 697 (by decide +kernel) rfl, tyX6_ok, nmX6, rfl, rfl, by decide +kernel⟩
theorem ff_6_47 : fF RX6 47 6 25 (.array .int) := ⟨RX6, TX6, 45, tyX6, rfl, inU6, by decide, mem_UW 698 (by decide +kernel) rfl, tyX6_ok, nmX6, rfl, rfl, by decide +kernel⟩
theorem ff_6_50 : fF RX6 50 6 27 (.array .int) := ⟨RX6, TX6, 45, tyX6, rfl, inU6, by decide, mem_UW 700 (by decide +kernel) rfl, tyX6_ok, nmX6, rfl, rfl, by decide +kernel⟩
theorem ff_6_53 : fF RX6 53 6 29 (.array .int) := ⟨RX6, TX6, 45, tyX6, rfl, inU6, by decide, mem_UW 702 (by decide +kernel) rfl, tyX6_ok, nmX6, rfl, rfl, by decide +kernel⟩
theorem ff_6_56 : fF RX6 56 6 30 (.array .int) := ⟨RX6, TX6, 45, tyX6, rfl, inU6, by decide, mem_UW 703 (by decide +kernel) rfl, tyX6_ok, nmX6, rfl, rfl, by decide +kernel⟩
theorem ff_6_59 : fF RX6 59 6 33 (.array .int) := ⟨RX6, TX6, 45, tyX6, rfl, inU6, by decide, mem_UW 706 (by decide +kernel) rfl, tyX6_ok, nmX6, rfl, rfl, by decide +kernel⟩
theorem ff_6_62 : fF RX6 62 6 37 (.array .int) := ⟨RX6, TX6, 45, tyX6, rfl, inU6, by decide, mem_UW 710 (by decide +kernel) rfl, tyX6_ok, nmX6, rfl, rfl, by decide +kernel⟩
theorem ff_6_65 : fF RX6 65 6 38 (.array .int) := ⟨RX6, TX6, 45, tyX6, rfl, inU6, by decide, mem_UW 711 (by decide +kernel) rfl, tyX6_ok, nmX6, rfl, rfl, by decide +kernel⟩
theorem ff_6_68 : fF RX6 68 6 39 (.array .boolean) := ⟨RX6, TX6, 45, tyX6, rfl, inU6, by decide, mem_UW 712 (by decide +kernel) rfl, tyX6_ok, nmX6, rfl, rfl, by decide +kernel⟩
theorem ff_6_72 : fF RX6 72 6 41 (.array .int) := ⟨RX6, TX6, 45, tyX6, rfl, inU6, by decide, mem_UW 714 (by decide +kernel) rfl, tyX6_ok, nmX6, rfl, rfl, by decide +kernel⟩
theorem ff_6_75 : fF RX6 75 6 42 (.array .int) := ⟨RX6, TX6, 45, tyX6, rfl, inU6, by decide, mem_UW 715 (by decide +kernel) rfl, tyX6_ok, nmX6, rfl, rfl, by decide +kernel⟩
theorem ff_6_78 : fF RX6 78 6 43 (.array .int) := ⟨RX6, TX6, 45, tyX6, rfl, inU6, by decide, mem_UW 716 (by decide +kernel) rfl, tyX6_ok, nmX6, rfl, rfl, by decide +kernel⟩
theorem ff_6_81 : fF RX6 81 6 44 (.array .boolean) := ⟨RX6, TX6, 45, tyX6, rfl, inU6, by decide, mem_UW 717 (by decide +kernel) rfl, tyX6_ok, nmX6, rfl, rfl, by decide +kernel⟩
set_option maxRecDepth 4000 in
set_option maxHeartbeats 1000000 in
theorem c_X6_init (l : Launch) (g : GT) (q : Nat) : Cn l g yX6_init cX6_init 1 (rmN 1 22 419) [.ref q] [(q, .inr (6, zX6))] (fun w => ∃ b : Nat → Nat, q = b 0 ∧ w = wM g b s0M) 22 419 := by
  refine methN (own := RX6) (by decide) rfl rfl (Nat.le_of_ble_eq_true rfl) [some (.ref q)] rfl (fun X hX hQ => ?_)
  refine r_aload0 hX dX6_init_0 ?_
  refine r_obj hX dX6_init_1 (mem_UW 672 (by decide +kernel) rfl) (Nat.le_of_ble_eq_true rfl) (Nat.le_of_ble_eq_true rfl) ?_
  refine r_aload0 hX dX6_init_4 ?_
  refine r_push hX dX6_init_5 ?_
  refine r_newi hX 4 dX6_init_6 uArrI (by decide) (by decide) (by decide) (Nat.le_of_ble_eq_true rfl) (Nat.le_of_ble_eq_true rfl) (fun q1 => ?_)
  refine r_putF hX hQ dX6_init_8 ff_6_7 0 rfl rfl rfl (Nat.le_of_ble_eq_true rfl) _ rfl ?_
  refine vJn (cs' := 1) (sl' := 4) (w' := [(q, .inr (6, [.int 0, .int 0, .ref q1, .null, .null, .null, .int 0, .int 0, .int 0, .null, .null, .int 0, .int 0, .int 0, .null, .int 0, .int 0, .int 0, .int 0, .int 0, .int 0, .int 0, .null, .null, .null, .null, .int 0, .null, .int 0, .null, .null, .int 0, .int 0, .null, .int 0, .int 0, .int 0, .null, .null, .null, .int 0, .null, .null, .null, .null])), (q1, .inl (g.2.1, 4, .inl (fun _ => 0)))]) rfl rfl rfl ?_
  refine r_aload0 hX dX6_init_11 ?_
  refine r_push hX dX6_init_12 ?_
  refine r_newi hX 4 dX6_init_13 uArrI (by decide) (by decide) (by decide) (Nat.le_of_ble_eq_true rfl) (Nat.le_of_ble_eq_true rfl) (fun q2 => ?_)
  refine r_putF hX hQ dX6_init_15 ff_6_13 0 rfl rfl rfl (Nat.le_of_ble_eq_true rfl) _ rfl ?_
  refine vJn (cs' := 2) (sl' := 8) (w' := [(q, .inr (6, [.int 0, .int 0, .ref q1, .ref q2, .null, .null, .int 0, .int 0, .int 0, .null, .null, .int 0, .int 0, .int 0, .null, .int 0, .int 0, .int 0, .int 0, .int 0, .int 0, .int 0, .null, .null, .null, .null, .int 0, .null, .int 0, .null, .null, .int 0, .int 0, .null, .int 0, .int 0, .int 0, .null, .null, .null, .int 0, .null, .null, .null, .null])), (q1, .inl (g.2.1, 4, .inl (fun _ => 0))), (q2, .inl (g.2.1, 4, .inl (fun _ => 0)))]) rfl rfl rfl ?_
  refine r_aload0 hX dX6_init_18 ?_
  refine r_push hX dX6_init_19 ?_
  refine r_newi hX 4 dX6_init_20 uArrI (by decide) (by decide) (by decide) (Nat.le_of_ble_eq_true rfl) (Nat.le_of_ble_eq_true rfl) (fun q3 => ?_)
  refine r_putF hX hQ dX6_init_22 ff_6_16 0 rfl rfl rfl (Nat.le_of_ble_eq_true rfl) _ rfl ?_
  refine vJn (cs' := 3) (sl' := 12) (w' := [(q, .inr (6, [.int 0, .int 0, .ref q1, .ref q2, .ref q3, .null, .int 0, .int 0, .int 0, .null, .null, .int 0, .int 0, .int 0, .null, .int 0, .int 0, .int 0, .int 0, .int 0, .int 0, .int 0, .null, .null, .null, .null, .int 0, .null, .int 0, .null, .null, .int 0, .int 0, .null, .int 0, .int 0, .int 0, .null, .null, .null, .int 0, .null, .null, .null, .null])), (q1, .inl (g.2.1, 4, .inl (fun _ => 0))), (q2, .inl (g.2.1, 4, .inl (fun _ => 0))), (q3, .inl (g.2.1, 4, .inl (fun _ => 0)))]) rfl rfl rfl ?_
  refine r_aload0 hX dX6_init_25 ?_
  refine r_push hX dX6_init_26 ?_
  refine r_newi hX 4 dX6_init_27 uArrI (by decide) (by decide) (by decide) (Nat.le_of_ble_eq_true rfl) (Nat.le_of_ble_eq_true rfl) (fun q4 => ?_)
  refine r_putF hX hQ dX6_init_29 ff_6_19 0 rfl rfl rfl (Nat.le_of_ble_eq_true rfl) _ rfl ?_
  refine vJn (cs' := 4) (sl' := 16) (w' := [(q, .inr (6, [.int 0, .int 0, .ref q1, .ref q2, .ref q3, .ref q4, .int 0, .int 0, .int 0, .null, .null, .int 0, .int 0, .int 0, .null, .int 0, .int 0, .int 0, .int 0, .int 0, .int 0, .int 0, .null, .null, .null, .null, .int 0, .null, .int 0, .null, .null, .int 0, .int 0, .null, .int 0, .int 0, .int 0, .null, .null, .null, .int 0, .null, .null, .null, .null])), (q1, .inl (g.2.1, 4, .inl (fun _ => 0))), (q2, .inl (g.2.1, 4, .inl (fun _ => 0))), (q3, .inl (g.2.1, 4, .inl (fun _ => 0))), (q4, .inl (g.2.1, 4, .inl (fun _ => 0)))]) rfl rfl rfl ?_
  refine r_aload0 hX dX6_init_32 ?_
  refine r_push hX dX6_init_33 ?_
  refine r_put hX dX6_init_34 0 rfl rfl rfl (Nat.le_of_ble_eq_true rfl) _ rfl ?_
  refine vJn (cs' := 4) (sl' := 16) (w' := [(q, .inr (6, [.int 0, .int 0, .ref q1, .ref q2, .ref q3, .ref q4, .int (4), .int 0, .int 0, .null, .null, .int 0, .int 0, .int 0, .null, .int 0, .int 0, .int 0, .int 0, .int 0, .int 0, .int 0, .null, .null, .null, .null, .int 0, .null, .int 0, .null, .null, .int 0, .int 0, .null, .int 0, .int 0, .int 0, .null, .null, .null, .int 0, .null, .null, .null, .null])), (q1, .inl (g.2.1, 4, .inl (fun _ => 0))), (q2, .inl (g.2.1, 4, .inl (fun _ => 0))), (q3, .inl (g.2.1, 4, .inl (fun _ => 0))), (q4, .inl (g.2.1, 4, .inl (fun _ => 0)))]) rfl rfl rfl ?_
  refine r_aload0 hX dX6_init_37 ?_
  refine r_push hX dX6_init_38 ?_
  refine r_newi hX 14 dX6_init_40 uArrI (by decide) (by decide) (by decide) (Nat.le_of_ble_eq_true rfl) (Nat.le_of_ble_eq_true rfl) (fun q5 => ?_)
  refine r_putF hX hQ dX6_init_42 ff_6_26 0 rfl rfl rfl (Nat.le_of_ble_eq_true rfl) _ rfl ?_
  refine vJn (cs' := 5) (sl' := 30) (w' := [(q, .inr (6, [.int 0, .int 0, .ref q1, .ref q2, .ref q3, .ref q4, .int (4), .int 0, .int 0, .ref q5, .null, .int 0, .int 0, .int 0, .null, .int 0, .int 0, .int 0, .int 0, .int 0, .int 0, .int 0, .null, .null, .null, .null, .int 0, .null, .int 0, .null, .null, .int 0, .int 0, .null, .int 0, .int 0, .int 0, .null, .null, .null, .int 0, .null, .null, .null, .null])), (q1, .inl (g.2.1, 4, .inl (fun _ => 0))), (q2, .inl (g.2.1, 4, .inl (fun _ => 0))), (q3, .inl (g.2.1, 4, .inl (fun _ => 0))), (q4, .inl (g.2.1, 4, .inl (fun _ => 0))), (q5, .inl (g.2.1, 14, .inl (fun _ => 0)))]) rfl rfl rfl ?_
  refine r_aload0 hX dX6_init_45 ?_
  refine r_push hX dX6_init_46 ?_
  refine r_newi hX 14 dX6_init_48 uArrI (by decide) (by decide) (by decide) (Nat.le_of_ble_eq_true rfl) (Nat.le_of_ble_eq_true rfl) (fun q6 => ?_)
  refine r_putF hX hQ dX6_init_50 ff_6_29 0 rfl rfl rfl (Nat.le_of_ble_eq_true rfl) _ rfl ?_
  refine vJn (cs' := 6) (sl' := 44) (w' := [(q, .inr (6, [.int 0, .int 0, .ref q1, .ref q2, .ref q3, .ref q4, .int (4), .int 0, .int 0, .ref q5, .ref q6, .int 0, .int 0, .int 0, .null, .int 0, .int 0, .int 0, .int 0, .int 0, .int 0, .int 0, .null, .null, .null, .null, .int 0, .null, .int 0, .null, .null, .int 0, .int 0, .null, .int 0, .int 0, .int 0, .null, .null, .null, .int 0, .null, .null, .null, .null])), (q1, .inl (g.2.1, 4, .inl (fun _ => 0))), (q2, .inl (g.2.1, 4, .inl (fun _ => 0))), (q3, .inl (g.2.1, 4, .inl (fun _ => 0))), (q4, .inl (g.2.1, 4, .inl (fun _ => 0))), (q5, .inl (g.2.1, 14, .inl (fun _ => 0))), (q6, .inl (g.2.1, 14, .inl (fun _ => 0)))]) rfl rfl rfl ?_
  refine r_aload0 hX dX6_init_53 ?_
  refine r_push hX dX6_init_54 ?_
  refine r_newi hX 200 dX6_init_57 uArrI (by decide) (by decide) (by decide) (Nat.le_of_ble_eq_true rfl) (Nat.le_of_ble_eq_true rfl) (fun q7 => ?_)
  refine r_putF hX hQ dX6_init_59 ff_6_32 0 rfl rfl rfl (Nat.le_of_ble_eq_true rfl) _ rfl ?_
  refine vJn (cs' := 7) (sl' := 244) (w' := [(q, .inr (6, [.int 0, .int 0, .ref q1, .ref q2, .ref q3, .ref q4, .int (4), .int 0, .int 0, .ref q5, .ref q6, .int 0, .int 0, .int 0, .ref q7, .int 0, .int 0, .int 0, .int 0, .int 0, .int 0, .int 0, .null, .null, .null, .null, .int 0, .null, .int 0, .null, .null, .int 0, .int 0, .null, .int 0, .int 0, .int 0, .null, .null, .null, .int 0, .null, .null, .null, .null])), (q1, .inl (g.2.1, 4, .inl (fun _ => 0))), (q2, .inl (g.2.1, 4, .inl (fun _ => 0))), (q3, .inl (g.2.1, 4, .inl (fun _ => 0))), (q4, .inl (g.2.1, 4, .inl (fun _ => 0))), (q5, .inl (g.2.1, 14, .inl (fun _ => 0))), (q6, .inl (g.2.1, 14, .inl (fun _ => 0))), (q7, .inl (g.2.1, 200, .inl (fun _ => 0)))]) rfl rfl rfl ?_
  refine r_aload0 hX dX6_init_62 ?_
  refine r_push hX dX6_init_63 ?_
  refine r_put hX dX6_init_64 0 rfl rfl rfl (Nat.le_of_ble_eq_true rfl) _ rfl ?_
  refine vJn (cs' := 7) (sl' := 244) (w' := [(q, .inr (6, [.int 0, .int 0, .ref q1, .ref q2, .ref q3, .ref q4, .int (4), .int 0, .int 0, .ref q5, .ref q6, .int 0, .int 0, .int 0, .ref q7, .int 0, .int (-1), .int 0, .int 0, .int 0, .int 0, .int 0, .null, .null, .null, .null, .int 0, .null, .int 0, .null, .null, .int 0, .int 0, .null, .int 0, .int 0, .int 0, .null, .null, .null, .int 0, .null, .null, .null, .null])), (q1, .inl (g.2.1, 4, .inl (fun _ => 0))), (q2, .inl (g.2.1, 4, .inl (fun _ => 0))), (q3, .inl (g.2.1, 4, .inl (fun _ => 0))), (q4, .inl (g.2.1, 4, .inl (fun _ => 0))), (q5, .inl (g.2.1, 14, .inl (fun _ => 0))), (q6, .inl (g.2.1, 14, .inl (fun _ => 0))), (q7, .inl (g.2.1, 200, .inl (fun _ => 0)))]) rfl rfl rfl ?_
  refine r_aload0 hX dX6_init_67 ?_
  refine r_push hX dX6_init_68 ?_
  refine r_newi hX 4 dX6_init_69 uArrI (by decide) (by decide) (by decide) (Nat.le_of_ble_eq_true rfl) (Nat.le_of_ble_eq_true rfl) (fun q8 => ?_)
  refine r_putF hX hQ dX6_init_71 ff_6_38 0 rfl rfl rfl (Nat.le_of_ble_eq_true rfl) _ rfl ?_
  refine vJn (cs' := 8) (sl' := 248) (w' := [(q, .inr (6, [.int 0, .int 0, .ref q1, .ref q2, .ref q3, .ref q4, .int (4), .int 0, .int 0, .ref q5, .ref q6, .int 0, .int 0, .int 0, .ref q7, .int 0, .int (-1), .int 0, .int 0, .int 0, .int 0, .int 0, .ref q8, .null, .null, .null, .int 0, .null, .int 0, .null, .null, .int 0, .int 0, .null, .int 0, .int 0, .int 0, .null, .null, .null, .int 0, .null, .null, .null, .null])), (q1, .inl (g.2.1, 4, .inl (fun _ => 0))), (q2, .inl (g.2.1, 4, .inl (fun _ => 0))), (q3, .inl (g.2.1, 4, .inl (fun _ => 0))), (q4, .inl (g.2.1, 4, .inl (fun _ => 0))), (q5, .inl (g.2.1, 14, .inl (fun _ => 0))), (q6, .inl (g.2.1, 14, .inl (fun _ => 0))), (q7, .inl (g.2.1, 200, .inl (fun _ => 0))), (q8, .inl (g.2.1, 4, .inl (fun _ => 0)))]) rfl rfl rfl ?_
  refine r_aload0 hX dX6_init_74 ?_
  refine r_push hX dX6_init_75 ?_
  refine r_newi hX 4 dX6_init_76 uArrI (by decide) (by decide) (by decide) (Nat.le_of_ble_eq_true rfl) (Nat.le_of_ble_eq_true rfl) (fun q9 => ?_)
  refine r_putF hX hQ dX6_init_78 ff_6_41 0 rfl rfl rfl (Nat.le_of_ble_eq_true rfl) _ rfl ?_
  refine vJn (cs' := 9) (sl' := 252) (w' := [(q, .inr (6, [.int 0, .int 0, .ref q1, .ref q2, .ref q3, .ref q4, .int (4), .int 0, .int 0, .ref q5, .ref q6, .int 0, .int 0, .int 0, .ref q7, .int 0, .int (-1), .int 0, .int 0, .int 0, .int 0, .int 0, .ref q8, .ref q9, .null, .null, .int 0, .null, .int 0, .null, .null, .int 0, .int 0, .null, .int 0, .int 0, .int 0, .null, .null, .null, .int 0, .null, .null, .null, .null])), (q1, .inl (g.2.1, 4, .inl (fun _ => 0))), (q2, .inl (g.2.1, 4, .inl (fun _ => 0))), (q3, .inl (g.2.1, 4, .inl (fun _ => 0))), (q4, .inl (g.2.1, 4, .inl (fun _ => 0))), (q5, .inl (g.2.1, 14, .inl (fun _ => 0))), (q6, .inl (g.2.1, 14, .inl (fun _ => 0))), (q7, .inl (g.2.1, 200, .inl (fun _ => 0))), (q8, .inl (g.2.1, 4, .inl (fun _ => 0))), (q9, .inl (g.2.1, 4, .inl (fun _ => 0)))]) rfl rfl rfl ?_
  refine r_aload0 hX dX6_init_81 ?_
  refine r_push hX dX6_init_82 ?_
  refine r_newi hX 4 dX6_init_83 uArrI (by decide) (by decide) (by decide) (Nat.le_of_ble_eq_true rfl) (Nat.le_of_ble_eq_true rfl) (fun q10 => ?_)
  refine r_putF hX hQ dX6_init_85 ff_6_44 0 rfl rfl rfl (Nat.le_of_ble_eq_true rfl) _ rfl ?_
  refine vJn (cs' := 10) (sl' := 256) (w' := [(q, .inr (6, [.int 0, .int 0, .ref q1, .ref q2, .ref q3, .ref q4, .int (4), .int 0, .int 0, .ref q5, .ref q6, .int 0, .int 0, .int 0, .ref q7, .int 0, .int (-1), .int 0, .int 0, .int 0, .int 0, .int 0, .ref q8, .ref q9, .ref q10, .null, .int 0, .null, .int 0, .null, .null, .int 0, .int 0, .null, .int 0, .int 0, .int 0, .null, .null, .null, .int 0, .null, .null, .null, .null])), (q1, .inl (g.2.1, 4, .inl (fun _ => 0))), (q2, .inl (g.2.1, 4, .inl (fun _ => 0))), (q3, .inl (g.2.1, 4, .inl (fun _ => 0))), (q4, .inl (g.2.1, 4, .inl (fun _ => 0))), (q5, .inl (g.2.1, 14, .inl (fun _ => 0))), (q6, .inl (g.2.1, 14, .inl (fun _ => 0))), (q7, .inl (g.2.1, 200, .inl (fun _ => 0))), (q8, .inl (g.2.1, 4, .inl (fun _ => 0))), (q9, .inl (g.2.1, 4, .inl (fun _ => 0))), (q10, .inl (g.2.1, 4, .inl (fun _ => 0)))]) rfl rfl rfl ?_
  refine r_aload0 hX dX6_init_88 ?_
  refine r_push hX dX6_init_89 ?_
  refine r_newi hX 4 dX6_init_90 uArrI (by decide) (by decide) (by decide) (Nat.le_of_ble_eq_true rfl) (Nat.le_of_ble_eq_true rfl) (fun q11 => ?_)
  refine r_putF hX hQ dX6_init_92 ff_6_47 0 rfl rfl rfl (Nat.le_of_ble_eq_true rfl) _ rfl ?_
  refine vJn (cs' := 11) (sl' := 260) (w' := [(q, .inr (6, [.int 0, .int 0, .ref q1, .ref q2, .ref q3, .ref q4, .int (4), .int 0, .int 0, .ref q5, .ref q6, .int 0, .int 0, .int 0, .ref q7, .int 0, .int (-1), .int 0, .int 0, .int 0, .int 0, .int 0, .ref q8, .ref q9, .ref q10, .ref q11, .int 0, .null, .int 0, .null, .null, .int 0, .int 0, .null, .int 0, .int 0, .int 0, .null, .null, .null, .int 0, .null, .null, .null, .null])), (q1, .inl (g.2.1, 4, .inl (fun _ => 0))), (q2, .inl (g.2.1, 4, .inl (fun _ => 0))), (q3, .inl (g.2.1, 4, .inl (fun _ => 0))), (q4, .inl (g.2.1, 4, .inl (fun _ => 0))), (q5, .inl (g.2.1, 14, .inl (fun _ => 0))), (q6, .inl (g.2.1, 14, .inl (fun _ => 0))), (q7, .inl (g.2.1, 200, .inl (fun _ => 0))), (q8, .inl (g.2.1, 4, .inl (fun _ => 0))), (q9, .inl (g.2.1, 4, .inl (fun _ => 0))), (q10, .inl (g.2.1, 4, .inl (fun _ => 0))), (q11, .inl (g.2.1, 4, .inl (fun _ => 0)))]) rfl rfl rfl ?_
  refine r_aload0 hX dX6_init_95 ?_
  refine r_push hX dX6_init_96 ?_
  refine r_newi hX 14 dX6_init_98 uArrI (by decide) (by decide) (by decide) (Nat.le_of_ble_eq_true rfl) (Nat.le_of_ble_eq_true rfl) (fun q12 => ?_)
  refine r_putF hX hQ dX6_init_100 ff_6_50 0 rfl rfl rfl (Nat.le_of_ble_eq_true rfl) _ rfl ?_
  refine vJn (cs' := 12) (sl' := 274) (w' := [(q, .inr (6, [.int 0, .int 0, .ref q1, .ref q2, .ref q3, .ref q4, .int (4), .int 0, .int 0, .ref q5, .ref q6, .int 0, .int 0, .int 0, .ref q7, .int 0, .int (-1), .int 0, .int 0, .int 0, .int 0, .int 0, .ref q8, .ref q9, .ref q10, .ref q11, .int 0, .ref q12, .int 0, .null, .null, .int 0, .int 0, .null, .int 0, .int 0, .int 0, .null, .null, .null, .int 0, .null, .null, .null, .null])), (q1, .inl (g.2.1, 4, .inl (fun _ => 0))), (q2, .inl (g.2.1, 4, .inl (fun _ => 0))), (q3, .inl (g.2.1, 4, .inl (fun _ => 0))), (q4, .inl (g.2.1, 4, .inl (fun _ => 0))), (q5, .inl (g.2.1, 14, .inl (fun _ => 0))), (q6, .inl (g.2.1, 14, .inl (fun _ => 0))), (q7, .inl (g.2.1, 200, .inl (fun _ => 0))), (q8, .inl (g.2.1, 4, .inl (fun _ => 0))), (q9, .inl (g.2.1, 4, .inl (fun _ => 0))), (q10, .inl (g.2.1, 4, .inl (fun _ => 0))), (q11, .inl (g.2.1, 4, .inl (fun _ => 0))), (q12, .inl (g.2.1, 14, .inl (fun _ => 0)))]) rfl rfl rfl ?_
  refine r_aload0 hX dX6_init_103 ?_
  refine r_push hX dX6_init_104 ?_
  refine r_newi hX 1 dX6_init_105 uArrI (by decide) (by decide) (by decide) (Nat.le_of_ble_eq_true rfl) (Nat.le_of_ble_eq_true rfl) (fun q13 => ?_)
  refine r_putF hX hQ dX6_init_107 ff_6_53 0 rfl rfl rfl (Nat.le_of_ble_eq_true rfl) _ rfl ?_
  refine vJn (cs' := 13) (sl' := 275) (w' := [(q, .inr (6, [.int 0, .int 0, .ref q1, .ref q2, .ref q3, .ref q4, .int (4), .int 0, .int 0, .ref q5, .ref q6, .int 0, .int 0, .int 0, .ref q7, .int 0, .int (-1), .int 0, .int 0, .int 0, .int 0, .int 0, .ref q8, .ref q9, .ref q10, .ref q11, .int 0, .ref q12, .int 0, .ref q13, .null, .int 0, .int 0, .null, .int 0, .int 0, .int 0, .null, .null, .null, .int 0, .null, .null, .null, .null])), (q1, .inl (g.2.1, 4, .inl (fun _ => 0))), (q2, .inl (g.2.1, 4, .inl (fun _ => 0))), (q3, .inl (g.2.1, 4, .inl (fun _ => 0))), (q4, .inl (g.2.1, 4, .inl (fun _ => 0))), (q5, .inl (g.2.1, 14, .inl (fun _ => 0))), (q6, .inl (g.2.1, 14, .inl (fun _ => 0))), (q7, .inl (g.2.1, 200, .inl (fun _ => 0))), (q8, .inl (g.2.1, 4, .inl (fun _ => 0))), (q9, .inl (g.2.1, 4, .inl (fun _ => 0))), (q10, .inl (g.2.1, 4, .inl (fun _ => 0))), (q11, .inl (g.2.1, 4, .inl (fun _ => 0))), (q12, .inl (g.2.1, 14, .inl (fun _ => 0))), (q13, .inl (g.2.1, 1, .inl (fun _ => 0)))]) rfl rfl rfl ?_
  refine r_aload0 hX dX6_init_110 ?_
  refine r_push hX dX6_init_111 ?_
  refine r_newi hX 2 dX6_init_112 uArrI (by decide) (by decide) (by decide) (Nat.le_of_ble_eq_true rfl) (Nat.le_of_ble_eq_true rfl) (fun q14 => ?_)
  refine r_putF hX hQ dX6_init_114 ff_6_56 0 rfl rfl rfl (Nat.le_of_ble_eq_true rfl) _ rfl ?_
  refine vJn (cs' := 14) (sl' := 277) (w' := [(q, .inr (6, [.int 0, .int 0, .ref q1, .ref q2, .ref q3, .ref q4, .int (4), .int 0, .int 0, .ref q5, .ref q6, .int 0, .int 0, .int 0, .ref q7, .int 0, .int (-1), .int 0, .int 0, .int 0, .int 0, .int 0, .ref q8, .ref q9, .ref q10, .ref q11, .int 0, .ref q12, .int 0, .ref q13, .ref q14, .int 0, .int 0, .null, .int 0, .int 0, .int 0, .null, .null, .null, .int 0, .null, .null, .null, .null])), (q1, .inl (g.2.1, 4, .inl (fun _ => 0))), (q2, .inl (g.2.1, 4, .inl (fun _ => 0))), (q3, .inl (g.2.1, 4, .inl (fun _ => 0))), (q4, .inl (g.2.1, 4, .inl (fun _ => 0))), (q5, .inl (g.2.1, 14, .inl (fun _ => 0))), (q6, .inl (g.2.1, 14, .inl (fun _ => 0))), (q7, .inl (g.2.1, 200, .inl (fun _ => 0))), (q8, .inl (g.2.1, 4, .inl (fun _ => 0))), (q9, .inl (g.2.1, 4, .inl (fun _ => 0))), (q10, .inl (g.2.1, 4, .inl (fun _ => 0))), (q11, .inl (g.2.1, 4, .inl (fun _ => 0))), (q12, .inl (g.2.1, 14, .inl (fun _ => 0))), (q13, .inl (g.2.1, 1, .inl (fun _ => 0))), (q14, .inl (g.2.1, 2, .inl (fun _ => 0)))]) rfl rfl rfl ?_
  refine r_aload0 hX dX6_init_117 ?_
  refine r_push hX dX6_init_118 ?_
  refine r_newi hX 16 dX6_init_120 uArrI (by decide) (by decide) (by decide) (Nat.le_of_ble_eq_true rfl) (Nat.le_of_ble_eq_true rfl) (fun q15 => ?_)
  refine r_putF hX hQ dX6_init_122 ff_6_59 0 rfl rfl rfl (Nat.le_of_ble_eq_true rfl) _ rfl ?_
  refine vJn (cs' := 15) (sl' := 293) (w' := [(q, .inr (6, [.int 0, .int 0, .ref q1, .ref q2, .ref q3, .ref q4, .int (4), .int 0, .int 0, .ref q5, .ref q6, .int 0, .int 0, .int 0, .ref q7, .int 0, .int (-1), .int 0, .int 0, .int 0, .int 0, .int 0, .ref q8, .ref q9, .ref q10, .ref q11, .int 0, .ref q12, .int 0, .ref q13, .ref q14, .int 0, .int 0, .ref q15, .int 0, .int 0, .int 0, .null, .null, .null, .int 0, .null, .null, .null, .null])), (q1, .inl (g.2.1, 4, .inl (fun _ => 0))), (q2, .inl (g.2.1, 4, .inl (fun _ => 0))), (q3, .inl (g.2.1, 4, .inl (fun _ => 0))), (q4, .inl (g.2.1, 4, .inl (fun _ => 0))), (q5, .inl (g.2.1, 14, .inl (fun _ => 0))), (q6, .inl (g.2.1, 14, .inl (fun _ => 0))), (q7, .inl (g.2.1, 200, .inl (fun _ => 0))), (q8, .inl (g.2.1, 4, .inl (fun _ => 0))), (q9, .inl (g.2.1, 4, .inl (fun _ => 0))), (q10, .inl (g.2.1, 4, .inl (fun _ => 0))), (q11, .inl (g.2.1, 4, .inl (fun _ => 0))), (q12, .inl (g.2.1, 14, .inl (fun _ => 0))), (q13, .inl (g.2.1, 1, .inl (fun _ => 0))), (q14, .inl (g.2.1, 2, .inl (fun _ => 0))), (q15, .inl (g.2.1, 16, .inl (fun _ => 0)))]) rfl rfl rfl ?_
  refine r_aload0 hX dX6_init_125 ?_
  refine r_push hX dX6_init_126 ?_
  refine r_newi hX 10 dX6_init_128 uArrI (by decide) (by decide) (by decide) (Nat.le_of_ble_eq_true rfl) (Nat.le_of_ble_eq_true rfl) (fun q16 => ?_)
  refine r_putF hX hQ dX6_init_130 ff_6_62 0 rfl rfl rfl (Nat.le_of_ble_eq_true rfl) _ rfl ?_
  refine vJn (cs' := 16) (sl' := 303) (w' := [(q, .inr (6, [.int 0, .int 0, .ref q1, .ref q2, .ref q3, .ref q4, .int (4), .int 0, .int 0, .ref q5, .ref q6, .int 0, .int 0, .int 0, .ref q7, .int 0, .int (-1), .int 0, .int 0, .int 0, .int 0, .int 0, .ref q8, .ref q9, .ref q10, .ref q11, .int 0, .ref q12, .int 0, .ref q13, .ref q14, .int 0, .int 0, .ref q15, .int 0, .int 0, .int 0, .ref q16, .null, .null, .int 0, .null, .null, .null, .null])), (q1, .inl (g.2.1, 4, .inl (fun _ => 0))), (q2, .inl (g.2.1, 4, .inl (fun _ => 0))), (q3, .inl (g.2.1, 4, .inl (fun _ => 0))), (q4, .inl (g.2.1, 4, .inl (fun _ => 0))), (q5, .inl (g.2.1, 14, .inl (fun _ => 0))), (q6, .inl (g.2.1, 14, .inl (fun _ => 0))), (q7, .inl (g.2.1, 200, .inl (fun _ => 0))), (q8, .inl (g.2.1, 4, .inl (fun _ => 0))), (q9, .inl (g.2.1, 4, .inl (fun _ => 0))), (q10, .inl (g.2.1, 4, .inl (fun _ => 0))), (q11, .inl (g.2.1, 4, .inl (fun _ => 0))), (q12, .inl (g.2.1, 14, .inl (fun _ => 0))), (q13, .inl (g.2.1, 1, .inl (fun _ => 0))), (q14, .inl (g.2.1, 2, .inl (fun _ => 0))), (q15, .inl (g.2.1, 16, .inl (fun _ => 0))), (q16, .inl (g.2.1, 10, .inl (fun _ => 0)))]) rfl rfl rfl ?_
  refine r_aload0 hX dX6_init_133 ?_
  refine r_push hX dX6_init_134 ?_
  refine r_newi hX 10 dX6_init_136 uArrI (by decide) (by decide) (by decide) (Nat.le_of_ble_eq_true rfl) (Nat.le_of_ble_eq_true rfl) (fun q17 => ?_)
  refine r_putF hX hQ dX6_init_138 ff_6_65 0 rfl rfl rfl (Nat.le_of_ble_eq_true rfl) _ rfl ?_
  refine vJn (cs' := 17) (sl' := 313) (w' := [(q, .inr (6, [.int 0, .int 0, .ref q1, .ref q2, .ref q3, .ref q4, .int (4), .int 0, .int 0, .ref q5, .ref q6, .int 0, .int 0, .int 0, .ref q7, .int 0, .int (-1), .int 0, .int 0, .int 0, .int 0, .int 0, .ref q8, .ref q9, .ref q10, .ref q11, .int 0, .ref q12, .int 0, .ref q13, .ref q14, .int 0, .int 0, .ref q15, .int 0, .int 0, .int 0, .ref q16, .ref q17, .null, .int 0, .null, .null, .null, .null])), (q1, .inl (g.2.1, 4, .inl (fun _ => 0))), (q2, .inl (g.2.1, 4, .inl (fun _ => 0))), (q3, .inl (g.2.1, 4, .inl (fun _ => 0))), (q4, .inl (g.2.1, 4, .inl (fun _ => 0))), (q5, .inl (g.2.1, 14, .inl (fun _ => 0))), (q6, .inl (g.2.1, 14, .inl (fun _ => 0))), (q7, .inl (g.2.1, 200, .inl (fun _ => 0))), (q8, .inl (g.2.1, 4, .inl (fun _ => 0))), (q9, .inl (g.2.1, 4, .inl (fun _ => 0))), (q10, .inl (g.2.1, 4, .inl (fun _ => 0))), (q11, .inl (g.2.1, 4, .inl (fun _ => 0))), (q12, .inl (g.2.1, 14, .inl (fun _ => 0))), (q13, .inl (g.2.1, 1, .inl (fun _ => 0))), (q14, .inl (g.2.1, 2, .inl (fun _ => 0))), (q15, .inl (g.2.1, 16, .inl (fun _ => 0))), (q16, .inl (g.2.1, 10, .inl (fun _ => 0))), (q17, .inl (g.2.1, 10, .inl (fun _ => 0)))]) rfl rfl rfl ?_
  refine r_aload0 hX dX6_init_141 ?_
  refine r_push hX dX6_init_142 ?_
  refine r_newz hX 10 dX6_init_144 uArrZ (by decide) (by decide) (by decide) (Nat.le_of_ble_eq_true rfl) (Nat.le_of_ble_eq_true rfl) (fun q18 => ?_)
  refine r_putF hX hQ dX6_init_146 ff_6_68 0 rfl rfl rfl (Nat.le_of_ble_eq_true rfl) _ rfl ?_
  refine vJn (cs' := 18) (sl' := 323) (w' := [(q, .inr (6, [.int 0, .int 0, .ref q1, .ref q2, .ref q3, .ref q4, .int (4), .int 0, .int 0, .ref q5, .ref q6, .int 0, .int 0, .int 0, .ref q7, .int 0, .int (-1), .int 0, .int 0, .int 0, .int 0, .int 0, .ref q8, .ref q9, .ref q10, .ref q11, .int 0, .ref q12, .int 0, .ref q13, .ref q14, .int 0, .int 0, .ref q15, .int 0, .int 0, .int 0, .ref q16, .ref q17, .ref q18, .int 0, .null, .null, .null, .null])), (q1, .inl (g.2.1, 4, .inl (fun _ => 0))), (q2, .inl (g.2.1, 4, .inl (fun _ => 0))), (q3, .inl (g.2.1, 4, .inl (fun _ => 0))), (q4, .inl (g.2.1, 4, .inl (fun _ => 0))), (q5, .inl (g.2.1, 14, .inl (fun _ => 0))), (q6, .inl (g.2.1, 14, .inl (fun _ => 0))), (q7, .inl (g.2.1, 200, .inl (fun _ => 0))), (q8, .inl (g.2.1, 4, .inl (fun _ => 0))), (q9, .inl (g.2.1, 4, .inl (fun _ => 0))), (q10, .inl (g.2.1, 4, .inl (fun _ => 0))), (q11, .inl (g.2.1, 4, .inl (fun _ => 0))), (q12, .inl (g.2.1, 14, .inl (fun _ => 0))), (q13, .inl (g.2.1, 1, .inl (fun _ => 0))), (q14, .inl (g.2.1, 2, .inl (fun _ => 0))), (q15, .inl (g.2.1, 16, .inl (fun _ => 0))), (q16, .inl (g.2.1, 10, .inl (fun _ => 0))), (q17, .inl (g.2.1, 10, .inl (fun _ => 0))), (q18, .inl (g.2.2, 10, .inl (fun _ => 0)))]) rfl rfl rfl ?_
  refine r_aload0 hX dX6_init_149 ?_
  refine r_push hX dX6_init_150 ?_
  refine r_newi hX 15 dX6_init_152 uArrI (by decide) (by decide) (by decide) (Nat.le_of_ble_eq_true rfl) (Nat.le_of_ble_eq_true rfl) (fun q19 => ?_)
  refine r_putF hX hQ dX6_init_154 ff_6_72 0 rfl rfl rfl (Nat.le_of_ble_eq_true rfl) _ rfl ?_
  refine vJn (cs' := 19) (sl' := 338) (w' := [(q, .inr (6, [.int 0, .int 0, .ref q1, .ref q2, .ref q3, .ref q4, .int (4), .int 0, .int 0, .ref q5, .ref q6, .int 0, .int 0, .int 0, .ref q7, .int 0, .int (-1), .int 0, .int 0, .int 0, .int 0, .int 0, .ref q8, .ref q9, .ref q10, .ref q11, .int 0, .ref q12, .int 0, .ref q13, .ref q14, .int 0, .int 0, .ref q15, .int 0, .int 0, .int 0, .ref q16, .ref q17, .ref q18, .int 0, .ref q19, .null, .null, .null])), (q1, .inl (g.2.1, 4, .inl (fun _ => 0))), (q2, .inl (g.2.1, 4, .inl (fun _ => 0))), (q3, .inl (g.2.1, 4, .inl (fun _ => 0))), (q4, .inl (g.2.1, 4, .inl (fun _ => 0))), (q5, .inl (g.2.1, 14, .inl (fun _ => 0))), (q6, .inl (g.2.1, 14, .inl (fun _ => 0))), (q7, .inl (g.2.1, 200, .inl (fun _ => 0))), (q8, .inl (g.2.1, 4, .inl (fun _ => 0))), (q9, .inl (g.2.1, 4, .inl (fun _ => 0))), (q10, .inl (g.2.1, 4, .inl (fun _ => 0))), (q11, .inl (g.2.1, 4, .inl (fun _ => 0))), (q12, .inl (g.2.1, 14, .inl (fun _ => 0))), (q13, .inl (g.2.1, 1, .inl (fun _ => 0))), (q14, .inl (g.2.1, 2, .inl (fun _ => 0))), (q15, .inl (g.2.1, 16, .inl (fun _ => 0))), (q16, .inl (g.2.1, 10, .inl (fun _ => 0))), (q17, .inl (g.2.1, 10, .inl (fun _ => 0))), (q18, .inl (g.2.2, 10, .inl (fun _ => 0))), (q19, .inl (g.2.1, 15, .inl (fun _ => 0)))]) rfl rfl rfl ?_
  refine r_aload0 hX dX6_init_157 ?_
  refine r_push hX dX6_init_158 ?_
  refine r_newi hX 15 dX6_init_160 uArrI (by decide) (by decide) (by decide) (Nat.le_of_ble_eq_true rfl) (Nat.le_of_ble_eq_true rfl) (fun q20 => ?_)
  refine r_putF hX hQ dX6_init_162 ff_6_75 0 rfl rfl rfl (Nat.le_of_ble_eq_true rfl) _ rfl ?_
  refine vJn (cs' := 20) (sl' := 353) (w' := [(q, .inr (6, [.int 0, .int 0, .ref q1, .ref q2, .ref q3, .ref q4, .int (4), .int 0, .int 0, .ref q5, .ref q6, .int 0, .int 0, .int 0, .ref q7, .int 0, .int (-1), .int 0, .int 0, .int 0, .int 0, .int 0, .ref q8, .ref q9, .ref q10, .ref q11, .int 0, .ref q12, .int 0, .ref q13, .ref q14, .int 0, .int 0, .ref q15, .int 0, .int 0, .int 0, .ref q16, .ref q17, .ref q18, .int 0, .ref q19, .ref q20, .null, .null])), (q1, .inl (g.2.1, 4, .inl (fun _ => 0))), (q2, .inl (g.2.1, 4, .inl (fun _ => 0))), (q3, .inl (g.2.1, 4, .inl (fun _ => 0))), (q4, .inl (g.2.1, 4, .inl (fun _ => 0))), (q5, .inl (g.2.1, 14, .inl (fun _ => 0))), (q6, .inl (g.2.1, 14, .inl (fun _ => 0))), (q7, .inl (g.2.1, 200, .inl (fun _ => 0))), (q8, .inl (g.2.1, 4, .inl (fun _ => 0))), (q9, .inl (g.2.1, 4, .inl (fun _ => 0))), (q10, .inl (g.2.1, 4, .inl (fun _ => 0))), (q11, .inl (g.2.1, 4, .inl (fun _ => 0))), (q12, .inl (g.2.1, 14, .inl (fun _ => 0))), (q13, .inl (g.2.1, 1, .inl (fun _ => 0))), (q14, .inl (g.2.1, 2, .inl (fun _ => 0))), (q15, .inl (g.2.1, 16, .inl (fun _ => 0))), (q16, .inl (g.2.1, 10, .inl (fun _ => 0))), (q17, .inl (g.2.1, 10, .inl (fun _ => 0))), (q18, .inl (g.2.2, 10, .inl (fun _ => 0))), (q19, .inl (g.2.1, 15, .inl (fun _ => 0))), (q20, .inl (g.2.1, 15, .inl (fun _ => 0)))]) rfl rfl rfl ?_
  refine r_aload0 hX dX6_init_165 ?_
  refine r_push hX dX6_init_166 ?_
  refine r_newi hX 64 dX6_init_168 uArrI (by decide) (by decide) (by decide) (Nat.le_of_ble_eq_true rfl) (Nat.le_of_ble_eq_true rfl) (fun q21 => ?_)
  refine r_putF hX hQ dX6_init_170 ff_6_78 0 rfl rfl rfl (Nat.le_of_ble_eq_true rfl) _ rfl ?_
  refine vJn (cs' := 21) (sl' := 417) (w' := [(q, .inr (6, [.int 0, .int 0, .ref q1, .ref q2, .ref q3, .ref q4, .int (4), .int 0, .int 0, .ref q5, .ref q6, .int 0, .int 0, .int 0, .ref q7, .int 0, .int (-1), .int 0, .int 0, .int 0, .int 0, .int 0, .ref q8, .ref q9, .ref q10, .ref q11, .int 0, .ref q12, .int 0, .ref q13, .ref q14, .int 0, .int 0, .ref q15, .int 0, .int 0, .int 0, .ref q16, .ref q17, .ref q18, .int 0, .ref q19, .ref q20, .ref q21, .null])), (q1, .inl (g.2.1, 4, .inl (fun _ => 0))), (q2, .inl (g.2.1, 4, .inl (fun _ => 0))), (q3, .inl (g.2.1, 4, .inl (fun _ => 0))), (q4, .inl (g.2.1, 4, .inl (fun _ => 0))), (q5, .inl (g.2.1, 14, .inl (fun _ => 0))), (q6, .inl (g.2.1, 14, .inl (fun _ => 0))), (q7, .inl (g.2.1, 200, .inl (fun _ => 0))), (q8, .inl (g.2.1, 4, .inl (fun _ => 0))), (q9, .inl (g.2.1, 4, .inl (fun _ => 0))), (q10, .inl (g.2.1, 4, .inl (fun _ => 0))), (q11, .inl (g.2.1, 4, .inl (fun _ => 0))), (q12, .inl (g.2.1, 14, .inl (fun _ => 0))), (q13, .inl (g.2.1, 1, .inl (fun _ => 0))), (q14, .inl (g.2.1, 2, .inl (fun _ => 0))), (q15, .inl (g.2.1, 16, .inl (fun _ => 0))), (q16, .inl (g.2.1, 10, .inl (fun _ => 0))), (q17, .inl (g.2.1, 10, .inl (fun _ => 0))), (q18, .inl (g.2.2, 10, .inl (fun _ => 0))), (q19, .inl (g.2.1, 15, .inl (fun _ => 0))), (q20, .inl (g.2.1, 15, .inl (fun _ => 0))), (q21, .inl (g.2.1, 64, .inl (fun _ => 0)))]) rfl rfl rfl ?_
  refine r_aload0 hX dX6_init_173 ?_
  refine r_push hX dX6_init_174 ?_
  refine r_newz hX 2 dX6_init_175 uArrZ (by decide) (by decide) (by decide) (Nat.le_of_ble_eq_true rfl) (Nat.le_of_ble_eq_true rfl) (fun q22 => ?_)
  refine r_putF hX hQ dX6_init_177 ff_6_81 0 rfl rfl rfl (Nat.le_of_ble_eq_true rfl) _ rfl ?_
  refine vJn (cs' := 22) (sl' := 419) (w' := [(q, .inr (6, [.int 0, .int 0, .ref q1, .ref q2, .ref q3, .ref q4, .int (4), .int 0, .int 0, .ref q5, .ref q6, .int 0, .int 0, .int 0, .ref q7, .int 0, .int (-1), .int 0, .int 0, .int 0, .int 0, .int 0, .ref q8, .ref q9, .ref q10, .ref q11, .int 0, .ref q12, .int 0, .ref q13, .ref q14, .int 0, .int 0, .ref q15, .int 0, .int 0, .int 0, .ref q16, .ref q17, .ref q18, .int 0, .ref q19, .ref q20, .ref q21, .ref q22])), (q1, .inl (g.2.1, 4, .inl (fun _ => 0))), (q2, .inl (g.2.1, 4, .inl (fun _ => 0))), (q3, .inl (g.2.1, 4, .inl (fun _ => 0))), (q4, .inl (g.2.1, 4, .inl (fun _ => 0))), (q5, .inl (g.2.1, 14, .inl (fun _ => 0))), (q6, .inl (g.2.1, 14, .inl (fun _ => 0))), (q7, .inl (g.2.1, 200, .inl (fun _ => 0))), (q8, .inl (g.2.1, 4, .inl (fun _ => 0))), (q9, .inl (g.2.1, 4, .inl (fun _ => 0))), (q10, .inl (g.2.1, 4, .inl (fun _ => 0))), (q11, .inl (g.2.1, 4, .inl (fun _ => 0))), (q12, .inl (g.2.1, 14, .inl (fun _ => 0))), (q13, .inl (g.2.1, 1, .inl (fun _ => 0))), (q14, .inl (g.2.1, 2, .inl (fun _ => 0))), (q15, .inl (g.2.1, 16, .inl (fun _ => 0))), (q16, .inl (g.2.1, 10, .inl (fun _ => 0))), (q17, .inl (g.2.1, 10, .inl (fun _ => 0))), (q18, .inl (g.2.2, 10, .inl (fun _ => 0))), (q19, .inl (g.2.1, 15, .inl (fun _ => 0))), (q20, .inl (g.2.1, 15, .inl (fun _ => 0))), (q21, .inl (g.2.1, 64, .inl (fun _ => 0))), (q22, .inl (g.2.2, 2, .inl (fun _ => 0)))]) rfl rfl rfl ?_
  refine r_aload0 hX dX6_init_180 ?_
  refine r_push hX dX6_init_181 ?_
  refine r_put hX dX6_init_182 0 rfl rfl rfl (Nat.le_of_ble_eq_true rfl) _ rfl ?_
  refine vJn (cs' := 22) (sl' := 419) (w' := [(q, .inr (6, [.int (0), .int 0, .ref q1, .ref q2, .ref q3, .ref q4, .int (4), .int 0, .int 0, .ref q5, .ref q6, .int 0, .int 0, .int 0, .ref q7, .int 0, .int (-1), .int 0, .int 0, .int 0, .int 0, .int 0, .ref q8, .ref q9, .ref q10, .ref q11, .int 0, .ref q12, .int 0, .ref q13, .ref q14, .int 0, .int 0, .ref q15, .int 0, .int 0, .int 0, .ref q16, .ref q17, .ref q18, .int 0, .ref q19, .ref q20, .ref q21, .ref q22])), (q1, .inl (g.2.1, 4, .inl (fun _ => 0))), (q2, .inl (g.2.1, 4, .inl (fun _ => 0))), (q3, .inl (g.2.1, 4, .inl (fun _ => 0))), (q4, .inl (g.2.1, 4, .inl (fun _ => 0))), (q5, .inl (g.2.1, 14, .inl (fun _ => 0))), (q6, .inl (g.2.1, 14, .inl (fun _ => 0))), (q7, .inl (g.2.1, 200, .inl (fun _ => 0))), (q8, .inl (g.2.1, 4, .inl (fun _ => 0))), (q9, .inl (g.2.1, 4, .inl (fun _ => 0))), (q10, .inl (g.2.1, 4, .inl (fun _ => 0))), (q11, .inl (g.2.1, 4, .inl (fun _ => 0))), (q12, .inl (g.2.1, 14, .inl (fun _ => 0))), (q13, .inl (g.2.1, 1, .inl (fun _ => 0))), (q14, .inl (g.2.1, 2, .inl (fun _ => 0))), (q15, .inl (g.2.1, 16, .inl (fun _ => 0))), (q16, .inl (g.2.1, 10, .inl (fun _ => 0))), (q17, .inl (g.2.1, 10, .inl (fun _ => 0))), (q18, .inl (g.2.2, 10, .inl (fun _ => 0))), (q19, .inl (g.2.1, 15, .inl (fun _ => 0))), (q20, .inl (g.2.1, 15, .inl (fun _ => 0))), (q21, .inl (g.2.1, 64, .inl (fun _ => 0))), (q22, .inl (g.2.2, 2, .inl (fun _ => 0)))]) rfl rfl rfl ?_
  exact r_vretN hX hQ dX6_init_185 ⟨fun n => match n with | 0 => q | 1 => q1 | 2 => q2 | 3 => q3 | 4 => q4 | 5 => q5 | 6 => q6 | 7 => q7 | 8 => q8 | 9 => q9 | 10 => q10 | 11 => q11 | 12 => q12 | 13 => q13 | 14 => q14 | 15 => q15 | 16 => q16 | 17 => q17 | 18 => q18 | 19 => q19 | 20 => q20 | 21 => q21 | _ => q22, rfl, rfl⟩
theorem nw_5_9 : nwL RX5 9 3 8 zX3 := ⟨RX3, TX3, tyX3, rfl, inU3, tyX3_ok, mem_UW 100 (by decide +kernel) rfl, mem_UW 101 (by decide +kernel) rfl, mem_UW 82 (by decide +kernel) rfl, fun j hj => by rcases (show j = 0 ∨ j = 1 ∨ j = 2 ∨ j = 3 ∨ j = 4 ∨ j = 5 ∨ j = 6 ∨ j = 7 by omega) with rfl | rfl | rfl | rfl | rfl | rfl | rfl | rfl <;> rfl⟩
theorem mi_5_11 : mL RX5 11 yX3_init := Or.inr ⟨"ChalkedDoors", mem_NW 102 (by decide +kernel) rfl⟩
theorem ff_5_12 : fF RX5 12 5 0 (.object "ChalkedDoors$Reader") := ⟨RX5, TX5, 9, tyX5, rfl, inU5, by decide, mem_UW 256 (by decide +kernel) rfl, tyX5_ok, nmX5, rfl, rfl, by decide +kernel⟩
theorem nw_5_16 : nwL RX5 16 4 5 zX4 := ⟨RX4, TX4, tyX4, rfl, inU4, tyX4_ok, mem_UW 134 (by decide +kernel) rfl, mem_UW 135 (by decide +kernel) rfl, mem_UW 83 (by decide +kernel) rfl, fun j hj => by rcases (show j = 0 ∨ j = 1 ∨ j = 2 ∨ j = 3 ∨ j = 4 by omega) with rfl | rfl | rfl | rfl | rfl <;> rfl⟩
theorem mi_5_18 : mL RX5 18 yX4_init := Or.inr ⟨"ChalkedDoors", mem_NW 136 (by decide +kernel) rfl⟩
theorem ff_5_19 : fF RX5 19 5 1 (.object "ChalkedDoors$Scene") := ⟨RX5, TX5, 9, tyX5, rfl, inU5, by decide, mem_UW 257 (by decide +kernel) rfl, tyX5_ok, nmX5, rfl, rfl, by decide +kernel⟩
theorem ff_5_23 : fF RX5 23 5 2 (.object "ChalkedDoors$Scene") := ⟨RX5, TX5, 9, tyX5, rfl, inU5, by decide, mem_UW 258 (by decide +kernel) rfl, tyX5_ok, nmX5, rfl, rfl, by decide +kernel⟩
theorem ff_5_26 : fF RX5 26 5 3 (.object "ChalkedDoors$Scene") := ⟨RX5, TX5, 9, tyX5, rfl, inU5, by decide, mem_UW 259 (by decide +kernel) rfl, tyX5_ok, nmX5, rfl, rfl, by decide +kernel⟩
theorem nw_5_29 : nwL RX5 29 1 4 zX1 := ⟨RX1, TX1, tyX1, rfl, inU1, tyX1_ok, mem_UW 161 (by decide +kernel) rfl, mem_UW 162 (by decide +kernel) rfl, mem_UW 84 (by decide +kernel) rfl, fun j hj => by rcases (show j = 0 ∨ j = 1 ∨ j = 2 ∨ j = 3 by omega) with rfl | rfl | rfl | rfl <;> rfl⟩
theorem mi_5_31 : mL RX5 31 yX1_init := Or.inr ⟨"ChalkedDoors", mem_NW 163 (by decide +kernel) rfl⟩
theorem ff_5_32 : fF RX5 32 5 4 (.object "ChalkedDoors$Fashion") := ⟨RX5, TX5, 9, tyX5, rfl, inU5, by decide, mem_UW 260 (by decide +kernel) rfl, tyX5_ok, nmX5, rfl, rfl, by decide +kernel⟩
theorem nw_5_36 : nwL RX5 36 0 3 zX0 := ⟨RX0, TX0, tyX0, rfl, inU0, tyX0_ok, mem_UW 182 (by decide +kernel) rfl, mem_UW 183 (by decide +kernel) rfl, mem_UW 85 (by decide +kernel) rfl, fun j hj => by rcases (show j = 0 ∨ j = 1 ∨ j = 2 by omega) with rfl | rfl | rfl <;> rfl⟩
theorem mi_5_38 : mL RX5 38 yX0_init := Or.inr ⟨"ChalkedDoors", mem_NW 184 (by decide +kernel) rfl⟩
theorem ff_5_39 : fF RX5 39 5 5 (.object "ChalkedDoors$Book") := ⟨RX5, TX5, 9, tyX5, rfl, inU5, by decide, mem_UW 261 (by decide +kernel) rfl, tyX5_ok, nmX5, rfl, rfl, by decide +kernel⟩
theorem nw_5_43 : nwL RX5 43 2 10 zX2 := ⟨RX2, TX2, tyX2, rfl, inU2, tyX2_ok, mem_UW 199 (by decide +kernel) rfl, mem_UW 200 (by decide +kernel) rfl, mem_UW 86 (by decide +kernel) rfl, fun j hj => by rcases (show j = 0 ∨ j = 1 ∨ j = 2 ∨ j = 3 ∨ j = 4 ∨ j = 5 ∨ j = 6 ∨ j = 7 ∨ j = 8 ∨ j = 9 by omega) with rfl | rfl | rfl | rfl | rfl | rfl | rfl | rfl | rfl | rfl <;> rfl⟩
theorem mi_5_45 : mL RX5 45 yX2_init := Or.inr ⟨"ChalkedDoors", mem_NW 201 (by decide +kernel) rfl⟩
set_option maxRecDepth 4000 in
set_option maxHeartbeats 1000000 in
theorem c_X5_init (l : Launch) (g : GT) (x : Nat) : Cn l g yX5_init cX5_init 1 (rmN 2 30 454) [.ref x] [(x, .inr (5, zX5))] (fun w => ∃ a : Nat → Nat → Nat, w = wX g x a 0 s0R s0 s0 s0 s0 s0 s0P s0P) 30 454 := by
  refine methN (own := RX5) (by decide) rfl rfl (Nat.le_of_ble_eq_true rfl) [some (.ref x)] rfl (fun X hX hQ => ?_)
  refine r_aload0 hX dX5_init_0 ?_
  refine r_obj hX dX5_init_1 (mem_UW 97 (by decide +kernel) rfl) (Nat.le_of_ble_eq_true rfl) (Nat.le_of_ble_eq_true rfl) ?_
  refine r_aload0 hX dX5_init_4 ?_
  refine r_new hX 8 dX5_init_5 nw_5_9 (Nat.le_of_ble_eq_true rfl) (Nat.le_of_ble_eq_true rfl) (fun q0 => ?_)
  refine r_dup hX dX5_init_8 rfl ?_
  refine r_init hX dX5_init_9 mi_5_11 kX3_init (c_X3_init l g q0) ⟨rfl, rfl, (Nat.le_of_ble_eq_true rfl), (Nat.le_of_ble_eq_true rfl)⟩ (Nat.le_of_ble_eq_true rfl) (Nat.le_of_ble_eq_true rfl) (Nat.le_of_ble_eq_true rfl) (fun w0 hw0 => ?_)
  obtain ⟨b0, rfl, rfl⟩ := hw0
  refine r_putF hX hQ dX5_init_12 ff_5_12 0 rfl rfl rfl (Nat.le_of_ble_eq_true rfl) _ rfl ?_
  refine vJw (w' := (([(x, .inr (5, [.ref (b0 0), .null, .null, .null, .null, .null, .null, .null, .int 0]))] : va_W) ++ wR g b0 s0R)) rfl ?_
  refine r_aload0 hX dX5_init_15 ?_
  refine r_new hX 5 dX5_init_16 nw_5_16 (Nat.le_of_ble_eq_true rfl) (Nat.le_of_ble_eq_true rfl) (fun q1 => ?_)
  refine r_dup hX dX5_init_19 rfl ?_
  refine r_init hX dX5_init_20 mi_5_18 kX4_init (c_X4_init l g q1) ⟨rfl, rfl, (Nat.le_of_ble_eq_true rfl), (Nat.le_of_ble_eq_true rfl)⟩ (Nat.le_of_ble_eq_true rfl) (Nat.le_of_ble_eq_true rfl) (Nat.le_of_ble_eq_true rfl) (fun w1 hw1 => ?_)
  obtain ⟨b1, rfl, rfl⟩ := hw1
  refine r_putF hX hQ dX5_init_23 ff_5_19 0 rfl rfl rfl (Nat.le_of_ble_eq_true rfl) _ rfl ?_
  refine vJw (w' := ((([(x, .inr (5, [.ref (b0 0), .ref (b1 0), .null, .null, .null, .null, .null, .null, .int 0]))] : va_W) ++ wR g b0 s0R) ++ wS g b1 s0)) rfl ?_
  refine r_aload0 hX dX5_init_26 ?_
  refine r_new hX 5 dX5_init_27 nw_5_16 (Nat.le_of_ble_eq_true rfl) (Nat.le_of_ble_eq_true rfl) (fun q2 => ?_)
  refine r_dup hX dX5_init_30 rfl ?_
  refine r_init hX dX5_init_31 mi_5_18 kX4_init (c_X4_init l g q2) ⟨rfl, rfl, (Nat.le_of_ble_eq_true rfl), (Nat.le_of_ble_eq_true rfl)⟩ (Nat.le_of_ble_eq_true rfl) (Nat.le_of_ble_eq_true rfl) (Nat.le_of_ble_eq_true rfl) (fun w2 hw2 => ?_)
  obtain ⟨b2, rfl, rfl⟩ := hw2
  refine r_putF hX hQ dX5_init_34 ff_5_23 0 rfl rfl rfl (Nat.le_of_ble_eq_true rfl) _ rfl ?_
  refine vJw (w' := (((([(x, .inr (5, [.ref (b0 0), .ref (b1 0), .ref (b2 0), .null, .null, .null, .null, .null, .int 0]))] : va_W) ++ wR g b0 s0R) ++ wS g b1 s0) ++ wS g b2 s0)) rfl ?_
  refine r_aload0 hX dX5_init_37 ?_
  refine r_new hX 5 dX5_init_38 nw_5_16 (Nat.le_of_ble_eq_true rfl) (Nat.le_of_ble_eq_true rfl) (fun q3 => ?_)
  refine r_dup hX dX5_init_41 rfl ?_
  refine r_init hX dX5_init_42 mi_5_18 kX4_init (c_X4_init l g q3) ⟨rfl, rfl, (Nat.le_of_ble_eq_true rfl), (Nat.le_of_ble_eq_true rfl)⟩ (Nat.le_of_ble_eq_true rfl) (Nat.le_of_ble_eq_true rfl) (Nat.le_of_ble_eq_true rfl) (fun w3 hw3 => ?_)
  obtain ⟨b3, rfl, rfl⟩ := hw3
  refine r_putF hX hQ dX5_init_45 ff_5_26 0 rfl rfl rfl (Nat.le_of_ble_eq_true rfl) _ rfl ?_
  refine vJw (w' := ((((([(x, .inr (5, [.ref (b0 0), .ref (b1 0), .ref (b2 0), .ref (b3 0), .null, .null, .null, .null, .int 0]))] : va_W) ++ wR g b0 s0R) ++ wS g b1 s0) ++ wS g b2 s0) ++ wS g b3 s0)) rfl ?_
  refine r_aload0 hX dX5_init_48 ?_
  refine r_new hX 4 dX5_init_49 nw_5_29 (Nat.le_of_ble_eq_true rfl) (Nat.le_of_ble_eq_true rfl) (fun q4 => ?_)
  refine r_dup hX dX5_init_52 rfl ?_
  refine r_init hX dX5_init_53 mi_5_31 kX1_init (c_X1_init l g q4) ⟨rfl, rfl, (Nat.le_of_ble_eq_true rfl), (Nat.le_of_ble_eq_true rfl)⟩ (Nat.le_of_ble_eq_true rfl) (Nat.le_of_ble_eq_true rfl) (Nat.le_of_ble_eq_true rfl) (fun w4 hw4 => ?_)
  obtain ⟨b4, rfl, rfl⟩ := hw4
  refine r_putF hX hQ dX5_init_56 ff_5_32 0 rfl rfl rfl (Nat.le_of_ble_eq_true rfl) _ rfl ?_
  refine vJw (w' := (((((([(x, .inr (5, [.ref (b0 0), .ref (b1 0), .ref (b2 0), .ref (b3 0), .ref (b4 0), .null, .null, .null, .int 0]))] : va_W) ++ wR g b0 s0R) ++ wS g b1 s0) ++ wS g b2 s0) ++ wS g b3 s0) ++ wF g b4 s0)) rfl ?_
  refine r_aload0 hX dX5_init_59 ?_
  refine r_new hX 3 dX5_init_60 nw_5_36 (Nat.le_of_ble_eq_true rfl) (Nat.le_of_ble_eq_true rfl) (fun q5 => ?_)
  refine r_dup hX dX5_init_63 rfl ?_
  refine r_init hX dX5_init_64 mi_5_38 kX0_init (c_X0_init l g q5) ⟨rfl, rfl, (Nat.le_of_ble_eq_true rfl), (Nat.le_of_ble_eq_true rfl)⟩ (Nat.le_of_ble_eq_true rfl) (Nat.le_of_ble_eq_true rfl) (Nat.le_of_ble_eq_true rfl) (fun w5 hw5 => ?_)
  obtain ⟨b5, rfl, rfl⟩ := hw5
  refine r_putF hX hQ dX5_init_67 ff_5_39 0 rfl rfl rfl (Nat.le_of_ble_eq_true rfl) _ rfl ?_
  refine vJw (w' := ((((((([(x, .inr (5, [.ref (b0 0), .ref (b1 0), .ref (b2 0), .ref (b3 0), .ref (b4 0), .ref (b5 0), .null, .null, .int 0]))] : va_W) ++ wR g b0 s0R) ++ wS g b1 s0) ++ wS g b2 s0) ++ wS g b3 s0) ++ wF g b4 s0) ++ wB g b5 s0)) rfl ?_
  refine r_aload0 hX dX5_init_70 ?_
  refine r_new hX 10 dX5_init_71 nw_5_43 (Nat.le_of_ble_eq_true rfl) (Nat.le_of_ble_eq_true rfl) (fun q6 => ?_)
  refine r_dup hX dX5_init_74 rfl ?_
  refine r_init hX dX5_init_75 mi_5_45 kX2_init (c_X2_init l g q6) ⟨rfl, rfl, (Nat.le_of_ble_eq_true rfl), (Nat.le_of_ble_eq_true rfl)⟩ (Nat.le_of_ble_eq_true rfl) (Nat.le_of_ble_eq_true rfl) (Nat.le_of_ble_eq_true rfl) (fun w6 hw6 => ?_)
  obtain ⟨b6, rfl, rfl⟩ := hw6
  refine r_put hX dX5_init_78 0 rfl rfl rfl (Nat.le_of_ble_eq_true rfl) _ rfl ?_
  refine vJw (w' := (((((((([(x, .inr (5, [.ref (b0 0), .ref (b1 0), .ref (b2 0), .ref (b3 0), .ref (b4 0), .ref (b5 0), .ref (b6 0), .null, .int 0]))] : va_W) ++ wR g b0 s0R) ++ wS g b1 s0) ++ wS g b2 s0) ++ wS g b3 s0) ++ wF g b4 s0) ++ wB g b5 s0) ++ wP g b6 s0P)) rfl ?_
  refine r_aload0 hX dX5_init_81 ?_
  refine r_new hX 10 dX5_init_82 nw_5_43 (Nat.le_of_ble_eq_true rfl) (Nat.le_of_ble_eq_true rfl) (fun q7 => ?_)
  refine r_dup hX dX5_init_85 rfl ?_
  refine r_init hX dX5_init_86 mi_5_45 kX2_init (c_X2_init l g q7) ⟨rfl, rfl, (Nat.le_of_ble_eq_true rfl), (Nat.le_of_ble_eq_true rfl)⟩ (Nat.le_of_ble_eq_true rfl) (Nat.le_of_ble_eq_true rfl) (Nat.le_of_ble_eq_true rfl) (fun w7 hw7 => ?_)
  obtain ⟨b7, rfl, rfl⟩ := hw7
  refine r_put hX dX5_init_89 0 rfl rfl rfl (Nat.le_of_ble_eq_true rfl) _ rfl ?_
  refine vJw (w' := ((((((((([(x, .inr (5, [.ref (b0 0), .ref (b1 0), .ref (b2 0), .ref (b3 0), .ref (b4 0), .ref (b5 0), .ref (b6 0), .ref (b7 0), .int 0]))] : va_W) ++ wR g b0 s0R) ++ wS g b1 s0) ++ wS g b2 s0) ++ wS g b3 s0) ++ wF g b4 s0) ++ wB g b5 s0) ++ wP g b6 s0P) ++ wP g b7 s0P)) rfl ?_
  exact r_vretN hX hQ dX5_init_92 ⟨fun n => match n with | 0 => b0 | 1 => b1 | 2 => b2 | 3 => b3 | 4 => b4 | 5 => b5 | 6 => b6 | _ => b7, rfl⟩
theorem nw_L_7 : nwL RL 7 5 9 zX5 := ⟨RX5, TX5, tyX5, rfl, inU5, tyX5_ok, mem_UW 92 (by decide +kernel) rfl, mem_UW 93 (by decide +kernel) rfl, mem_UW 81 (by decide +kernel) rfl, fun j hj => by rcases (show j = 0 ∨ j = 1 ∨ j = 2 ∨ j = 3 ∨ j = 4 ∨ j = 5 ∨ j = 6 ∨ j = 7 ∨ j = 8 by omega) with rfl | rfl | rfl | rfl | rfl | rfl | rfl | rfl | rfl <;> rfl⟩
theorem nw_L_10 : nwL RL 10 6 45 zX6 := ⟨RX6, TX6, tyX6, rfl, inU6, tyX6_ok, mem_UW 667 (by decide +kernel) rfl, mem_UW 668 (by decide +kernel) rfl, mem_UW 87 (by decide +kernel) rfl, fun j hj => by rcases (show j = 0 ∨ j = 1 ∨ j = 2 ∨ j = 3 ∨ j = 4 ∨ j = 5 ∨ j = 6 ∨ j = 7 ∨ j = 8 ∨ j = 9 ∨ j = 10 ∨ j = 11 ∨ j = 12 ∨ j = 13 ∨ j = 14 ∨ j = 15 ∨ j = 16 ∨ j = 17 ∨ j = 18 ∨ j = 19 ∨ j = 20 ∨ j = 21 ∨ j = 22 ∨ j = 23 ∨ j = 24 ∨ j = 25 ∨ j = 26 ∨ j = 27 ∨ j = 28 ∨ j = 29 ∨ j = 30 ∨ j = 31 ∨ j = 32 ∨ j = 33 ∨ j = 34 ∨ j = 35 ∨ j = 36 ∨ j = 37 ∨ j = 38 ∨ j = 39 ∨ j = 40 ∨ j = 41 ∨ j = 42 ∨ j = 43 ∨ j = 44 by omega) with rfl | rfl | rfl | rfl | rfl | rfl | rfl | rfl | rfl | rfl | rfl | rfl | rfl | rfl | rfl | rfl | rfl | rfl | rfl | rfl | rfl | rfl | rfl | rfl | rfl | rfl | rfl | rfl | rfl | rfl | rfl | rfl | rfl | rfl | rfl | rfl | rfl | rfl | rfl | rfl | rfl | rfl | rfl | rfl | rfl <;> rfl⟩
theorem mi_L_9 : mL RL 9 yX5_init := Or.inl (mem_UW 94 (by decide +kernel) rfl)
theorem mi_L_12 : mL RL 12 yX6_init := Or.inl (mem_UW 669 (by decide +kernel) rfl)
