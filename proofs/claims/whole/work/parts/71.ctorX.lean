/-! ===== the constructors of the parts ===== -/
def fX0 (cs : C3) (_ : Nat) (fs : List Value) (w : va_W) : Prop := ∃ (q1 : Nat) (q2 : Nat), fs = [.int 0, .ref q1, .ref q2] ∧ w = [(q1, .inl (cs.1, 8, .inl (fun _ => 0))), (q2, .inl (cs.1, 8, .inl (fun _ => 0)))]
set_option maxRecDepth 100000 in
theorem iX0 : CtorM nX0 0 [.int 0, .null, .null] 1 2 16 fX0 := by
  refine mkCtor (by decide +kernel) rfl (fun X hF hE => ?_)
  refine cg_obj hF dX0_init_0 dX0_init_1 lk0_3 obW (by decide) ?_
  refine cg_int (N := 8) (idx := 9) (j := 1) hF dX0_init_4 (pu_b (v := 8) (q := 7) dX0_init_5 (by decide +kernel) rfl) (by decide +kernel) rfl (by decide) acI dX0_init_7 dX0_init_9 (p2 := 12) rfl ff0_9 (Nat.le_of_ble_eq_true rfl) (Nat.le_of_ble_eq_true rfl) (Nat.le_of_ble_eq_true rfl) (fun q1 => ?_)
  refine cg_int (N := 8) (idx := 15) (j := 2) hF dX0_init_12 (pu_b (v := 8) (q := 15) dX0_init_13 (by decide +kernel) rfl) (by decide +kernel) rfl (by decide) acI dX0_init_15 dX0_init_17 (p2 := 20) rfl ff0_15 (Nat.le_of_ble_eq_true rfl) (Nat.le_of_ble_eq_true rfl) (Nat.le_of_ble_eq_true rfl) (fun q2 => ?_)
  exact cg_ret hF hE dX0_init_20 (Nat.le_of_ble_eq_true rfl) (Nat.le_of_ble_eq_true rfl) ⟨q1, q2, rfl, rfl⟩
def fX1 (cs : C3) (_ : Nat) (fs : List Value) (w : va_W) : Prop := ∃ (q1 : Nat) (r1 : Nat → Nat) (q2 : Nat) (r2 : Nat → Nat), fs = [.int 0, .int 0, .int 0, .ref q1, .ref q2] ∧ w = [(q1, .inl (cs.2.2, 11, .inr (.inr (.inr (.inr (fun i => if i < 11 then some (r1 i) else none)))))), (r1 0, .inl (cs.1, 11, .inl (fun _ => 0))), (r1 1, .inl (cs.1, 11, .inl (fun _ => 0))), (r1 2, .inl (cs.1, 11, .inl (fun _ => 0))), (r1 3, .inl (cs.1, 11, .inl (fun _ => 0))), (r1 4, .inl (cs.1, 11, .inl (fun _ => 0))), (r1 5, .inl (cs.1, 11, .inl (fun _ => 0))), (r1 6, .inl (cs.1, 11, .inl (fun _ => 0))), (r1 7, .inl (cs.1, 11, .inl (fun _ => 0))), (r1 8, .inl (cs.1, 11, .inl (fun _ => 0))), (r1 9, .inl (cs.1, 11, .inl (fun _ => 0))), (r1 10, .inl (cs.1, 11, .inl (fun _ => 0))), (q2, .inl (cs.2.2, 11, .inr (.inr (.inr (.inr (fun i => if i < 11 then some (r2 i) else none)))))), (r2 0, .inl (cs.1, 11, .inl (fun _ => 0))), (r2 1, .inl (cs.1, 11, .inl (fun _ => 0))), (r2 2, .inl (cs.1, 11, .inl (fun _ => 0))), (r2 3, .inl (cs.1, 11, .inl (fun _ => 0))), (r2 4, .inl (cs.1, 11, .inl (fun _ => 0))), (r2 5, .inl (cs.1, 11, .inl (fun _ => 0))), (r2 6, .inl (cs.1, 11, .inl (fun _ => 0))), (r2 7, .inl (cs.1, 11, .inl (fun _ => 0))), (r2 8, .inl (cs.1, 11, .inl (fun _ => 0))), (r2 9, .inl (cs.1, 11, .inl (fun _ => 0))), (r2 10, .inl (cs.1, 11, .inl (fun _ => 0)))]
set_option maxRecDepth 100000 in
theorem iX1 : CtorM nX1 1 [.int 0, .int 0, .int 0, .null, .null] 1 24 264 fX1 := by
  refine mkCtor (by decide +kernel) rfl (fun X hF hE => ?_)
  refine cg_obj hF dX1_init_0 dX1_init_1 lk1_3 obW (by decide) ?_
  refine cg_rows (N := 11) (K := 11) (idx := 11) (j := 3) hF dX1_init_4 (pu_b (v := 11) (q := 7) dX1_init_5 (by decide +kernel) rfl) (pu_b (v := 11) (q := 9) dX1_init_7 (by decide +kernel) rfl) (by decide +kernel) (by decide +kernel) rfl rfl (by decide) (by decide) acI cr1_9 dX1_init_9 dX1_init_13 (p3 := 16) rfl ff1_11 (Nat.le_of_ble_eq_true rfl) (Nat.le_of_ble_eq_true rfl) (Nat.le_of_ble_eq_true rfl) (fun q1 r1 => ?_)
  refine cg_rows (N := 11) (K := 11) (idx := 16) (j := 4) hF dX1_init_16 (pu_b (v := 11) (q := 19) dX1_init_17 (by decide +kernel) rfl) (pu_b (v := 11) (q := 21) dX1_init_19 (by decide +kernel) rfl) (by decide +kernel) (by decide +kernel) rfl rfl (by decide) (by decide) acI cr1_9 dX1_init_21 dX1_init_25 (p3 := 28) rfl ff1_16 (Nat.le_of_ble_eq_true rfl) (Nat.le_of_ble_eq_true rfl) (Nat.le_of_ble_eq_true rfl) (fun q2 r2 => ?_)
  exact cg_ret hF hE dX1_init_28 (Nat.le_of_ble_eq_true rfl) (Nat.le_of_ble_eq_true rfl) ⟨q1, r1, q2, r2, rfl, rfl⟩
def fX2 (cs : C3) (_ : Nat) (fs : List Value) (w : va_W) : Prop := ∃ (q1 : Nat) (q2 : Nat) (q3 : Nat) (q4 : Nat), fs = [.ref q1, .ref q2, .ref q3, .ref q4] ∧ w = [(q1, .inl (cs.1, 5, .inl (fun _ => 0))), (q2, .inl (cs.1, 5, .inl (fun _ => 0))), (q3, .inl (cs.1, 5, .inl (fun _ => 0))), (q4, .inl (cs.1, 3, .inl (fun _ => 0)))]
set_option maxRecDepth 100000 in
theorem iX2 : CtorM nX2 2 [.null, .null, .null, .null] 1 4 18 fX2 := by
  refine mkCtor (by decide +kernel) rfl (fun X hF hE => ?_)
  refine cg_obj hF dX2_init_0 dX2_init_1 lk2_3 obW (by decide) ?_
  refine cg_int (N := 5) (idx := 9) (j := 0) hF dX2_init_4 (pu_i (v := 5) (q := 6) dX2_init_5 (by decide +kernel) rfl) (by decide +kernel) rfl (by decide) acI dX2_init_6 dX2_init_8 (p2 := 11) rfl ff2_9 (Nat.le_of_ble_eq_true rfl) (Nat.le_of_ble_eq_true rfl) (Nat.le_of_ble_eq_true rfl) (fun q1 => ?_)
  refine cg_int (N := 5) (idx := 15) (j := 1) hF dX2_init_11 (pu_i (v := 5) (q := 13) dX2_init_12 (by decide +kernel) rfl) (by decide +kernel) rfl (by decide) acI dX2_init_13 dX2_init_15 (p2 := 18) rfl ff2_15 (Nat.le_of_ble_eq_true rfl) (Nat.le_of_ble_eq_true rfl) (Nat.le_of_ble_eq_true rfl) (fun q2 => ?_)
  refine cg_int (N := 5) (idx := 18) (j := 2) hF dX2_init_18 (pu_i (v := 5) (q := 20) dX2_init_19 (by decide +kernel) rfl) (by decide +kernel) rfl (by decide) acI dX2_init_20 dX2_init_22 (p2 := 25) rfl ff2_18 (Nat.le_of_ble_eq_true rfl) (Nat.le_of_ble_eq_true rfl) (Nat.le_of_ble_eq_true rfl) (fun q3 => ?_)
  refine cg_int (N := 3) (idx := 21) (j := 3) hF dX2_init_25 (pu_i (v := 3) (q := 27) dX2_init_26 (by decide +kernel) rfl) (by decide +kernel) rfl (by decide) acI dX2_init_27 dX2_init_29 (p2 := 32) rfl ff2_21 (Nat.le_of_ble_eq_true rfl) (Nat.le_of_ble_eq_true rfl) (Nat.le_of_ble_eq_true rfl) (fun q4 => ?_)
  exact cg_ret hF hE dX2_init_32 (Nat.le_of_ble_eq_true rfl) (Nat.le_of_ble_eq_true rfl) ⟨q1, q2, q3, q4, rfl, rfl⟩
def fX3 (cs : C3) (_ : Nat) (fs : List Value) (w : va_W) : Prop := ∃ (q1 : Nat) (q2 : Nat) (q3 : Nat) (q4 : Nat), fs = [.int 0, .ref q1, .ref q2, .ref q3, .ref q4] ∧ w = [(q1, .inl (cs.1, 5, .inl (fun _ => 0))), (q2, .inl (cs.1, 5, .inl (fun _ => 0))), (q3, .inl (cs.1, 3, .inl (fun _ => 0))), (q4, .inl (cs.1, 6, .inl (fun _ => 0)))]
set_option maxRecDepth 100000 in
theorem iX3 : CtorM nX3 3 [.int 0, .null, .null, .null, .null] 1 4 19 fX3 := by
  refine mkCtor (by decide +kernel) rfl (fun X hF hE => ?_)
  refine cg_obj hF dX3_init_0 dX3_init_1 lk3_3 obW (by decide) ?_
  refine cg_int (N := 5) (idx := 9) (j := 1) hF dX3_init_4 (pu_i (v := 5) (q := 6) dX3_init_5 (by decide +kernel) rfl) (by decide +kernel) rfl (by decide) acI dX3_init_6 dX3_init_8 (p2 := 11) rfl ff3_9 (Nat.le_of_ble_eq_true rfl) (Nat.le_of_ble_eq_true rfl) (Nat.le_of_ble_eq_true rfl) (fun q1 => ?_)
  refine cg_int (N := 5) (idx := 15) (j := 2) hF dX3_init_11 (pu_i (v := 5) (q := 13) dX3_init_12 (by decide +kernel) rfl) (by decide +kernel) rfl (by decide) acI dX3_init_13 dX3_init_15 (p2 := 18) rfl ff3_15 (Nat.le_of_ble_eq_true rfl) (Nat.le_of_ble_eq_true rfl) (Nat.le_of_ble_eq_true rfl) (fun q2 => ?_)
  refine cg_int (N := 3) (idx := 18) (j := 3) hF dX3_init_18 (pu_i (v := 3) (q := 20) dX3_init_19 (by decide +kernel) rfl) (by decide +kernel) rfl (by decide) acI dX3_init_20 dX3_init_22 (p2 := 25) rfl ff3_18 (Nat.le_of_ble_eq_true rfl) (Nat.le_of_ble_eq_true rfl) (Nat.le_of_ble_eq_true rfl) (fun q3 => ?_)
  refine cg_int (N := 6) (idx := 21) (j := 4) hF dX3_init_25 (pu_b (v := 6) (q := 28) dX3_init_26 (by decide +kernel) rfl) (by decide +kernel) rfl (by decide) acI dX3_init_28 dX3_init_30 (p2 := 33) rfl ff3_21 (Nat.le_of_ble_eq_true rfl) (Nat.le_of_ble_eq_true rfl) (Nat.le_of_ble_eq_true rfl) (fun q4 => ?_)
  exact cg_ret hF hE dX3_init_33 (Nat.le_of_ble_eq_true rfl) (Nat.le_of_ble_eq_true rfl) ⟨q1, q2, q3, q4, rfl, rfl⟩
def fX4 (cs : C3) (_ : Nat) (fs : List Value) (w : va_W) : Prop := ∃ (q1 : Nat) (q2 : Nat) (q3 : Nat) (r3 : Nat → Nat) (q4 : Nat), fs = [.int 0, .int 0, .ref q1, .ref q2, .ref q3, .ref q4] ∧ w = [(q1, .inl (cs.1, 3, .inl (fun _ => 0))), (q2, .inl (cs.1, 5, .inl (fun _ => 0))), (q3, .inl (cs.2.2, 5, .inr (.inr (.inr (.inr (fun i => if i < 5 then some (r3 i) else none)))))), (r3 0, .inl (cs.1, 3, .inl (fun _ => 0))), (r3 1, .inl (cs.1, 3, .inl (fun _ => 0))), (r3 2, .inl (cs.1, 3, .inl (fun _ => 0))), (r3 3, .inl (cs.1, 3, .inl (fun _ => 0))), (r3 4, .inl (cs.1, 3, .inl (fun _ => 0))), (q4, .inl (cs.1, 7, .inl (fun _ => 0)))]
set_option maxRecDepth 100000 in
theorem iX4 : CtorM nX4 4 [.int 0, .int 0, .null, .null, .null, .null] 1 9 35 fX4 := by
  refine mkCtor (by decide +kernel) rfl (fun X hF hE => ?_)
  refine cg_obj hF dX4_init_0 dX4_init_1 lk4_3 obW (by decide) ?_
  refine cg_int (N := 3) (idx := 9) (j := 2) hF dX4_init_4 (pu_i (v := 3) (q := 6) dX4_init_5 (by decide +kernel) rfl) (by decide +kernel) rfl (by decide) acI dX4_init_6 dX4_init_8 (p2 := 11) rfl ff4_9 (Nat.le_of_ble_eq_true rfl) (Nat.le_of_ble_eq_true rfl) (Nat.le_of_ble_eq_true rfl) (fun q1 => ?_)
  refine cg_int (N := 5) (idx := 15) (j := 3) hF dX4_init_11 (pu_i (v := 5) (q := 13) dX4_init_12 (by decide +kernel) rfl) (by decide +kernel) rfl (by decide) acI dX4_init_13 dX4_init_15 (p2 := 18) rfl ff4_15 (Nat.le_of_ble_eq_true rfl) (Nat.le_of_ble_eq_true rfl) (Nat.le_of_ble_eq_true rfl) (fun q2 => ?_)
  refine cg_rows (N := 5) (K := 3) (idx := 20) (j := 4) hF dX4_init_18 (pu_i (v := 5) (q := 20) dX4_init_19 (by decide +kernel) rfl) (pu_i (v := 3) (q := 21) dX4_init_20 (by decide +kernel) rfl) (by decide +kernel) (by decide +kernel) rfl rfl (by decide) (by decide) acI cr4_18 dX4_init_21 dX4_init_25 (p3 := 28) rfl ff4_20 (Nat.le_of_ble_eq_true rfl) (Nat.le_of_ble_eq_true rfl) (Nat.le_of_ble_eq_true rfl) (fun q3 r3 => ?_)
  refine cg_int (N := 7) (idx := 23) (j := 5) hF dX4_init_28 (pu_b (v := 7) (q := 31) dX4_init_29 (by decide +kernel) rfl) (by decide +kernel) rfl (by decide) acI dX4_init_31 dX4_init_33 (p2 := 36) rfl ff4_23 (Nat.le_of_ble_eq_true rfl) (Nat.le_of_ble_eq_true rfl) (Nat.le_of_ble_eq_true rfl) (fun q4 => ?_)
  exact cg_ret hF hE dX4_init_36 (Nat.le_of_ble_eq_true rfl) (Nat.le_of_ble_eq_true rfl) ⟨q1, q2, q3, r3, q4, rfl, rfl⟩
def fX5 (cs : C3) (_ : Nat) (fs : List Value) (w : va_W) : Prop := ∃ (q1 : Nat) (q2 : Nat) (q3 : Nat), fs = [.int 0, .int 0, .ref q1, .ref q2, .ref q3] ∧ w = [(q1, .inl (cs.1, 3, .inl (fun _ => 0))), (q2, .inl (cs.1, 3, .inl (fun _ => 0))), (q3, .inl (cs.1, 3, .inl (fun _ => 0)))]
set_option maxRecDepth 100000 in
theorem iX5 : CtorM nX5 5 [.int 0, .int 0, .null, .null, .null] 1 3 9 fX5 := by
  refine mkCtor (by decide +kernel) rfl (fun X hF hE => ?_)
  refine cg_obj hF dX5_init_0 dX5_init_1 lk5_3 obW (by decide) ?_
  refine cg_int (N := 3) (idx := 9) (j := 2) hF dX5_init_4 (pu_i (v := 3) (q := 6) dX5_init_5 (by decide +kernel) rfl) (by decide +kernel) rfl (by decide) acI dX5_init_6 dX5_init_8 (p2 := 11) rfl ff5_9 (Nat.le_of_ble_eq_true rfl) (Nat.le_of_ble_eq_true rfl) (Nat.le_of_ble_eq_true rfl) (fun q1 => ?_)
  refine cg_int (N := 3) (idx := 15) (j := 3) hF dX5_init_11 (pu_i (v := 3) (q := 13) dX5_init_12 (by decide +kernel) rfl) (by decide +kernel) rfl (by decide) acI dX5_init_13 dX5_init_15 (p2 := 18) rfl ff5_15 (Nat.le_of_ble_eq_true rfl) (Nat.le_of_ble_eq_true rfl) (Nat.le_of_ble_eq_true rfl) (fun q2 => ?_)
  refine cg_int (N := 3) (idx := 18) (j := 4) hF dX5_init_18 (pu_i (v := 3) (q := 20) dX5_init_19 (by decide +kernel) rfl) (by decide +kernel) rfl (by decide) acI dX5_init_20 dX5_init_22 (p2 := 25) rfl ff5_18 (Nat.le_of_ble_eq_true rfl) (Nat.le_of_ble_eq_true rfl) (Nat.le_of_ble_eq_true rfl) (fun q3 => ?_)
  exact cg_ret hF hE dX5_init_25 (Nat.le_of_ble_eq_true rfl) (Nat.le_of_ble_eq_true rfl) ⟨q1, q2, q3, rfl, rfl⟩
def fX6 (cs : C3) (_ : Nat) (fs : List Value) (w : va_W) : Prop := ∃ (q1 : Nat) (r1 : Nat → Nat), fs = [.int 0, .ref q1] ∧ w = [(q1, .inl (cs.2.2, 2, .inr (.inr (.inr (.inr (fun i => if i < 2 then some (r1 i) else none)))))), (r1 0, .inl (cs.1, 7, .inl (fun _ => 0))), (r1 1, .inl (cs.1, 7, .inl (fun _ => 0)))]
set_option maxRecDepth 100000 in
theorem iX6 : CtorM nX6 6 [.int 0, .null] 1 3 16 fX6 := by
  refine mkCtor (by decide +kernel) rfl (fun X hF hE => ?_)
  refine cg_obj hF dX6_init_0 dX6_init_1 lk6_3 obW (by decide) ?_
  refine cg_rows (N := 2) (K := 7) (idx := 11) (j := 1) hF dX6_init_4 (pu_i (v := 2) (q := 6) dX6_init_5 (by decide +kernel) rfl) (pu_b (v := 7) (q := 8) dX6_init_6 (by decide +kernel) rfl) (by decide +kernel) (by decide +kernel) rfl rfl (by decide) (by decide) acI cr6_9 dX6_init_8 dX6_init_12 (p3 := 15) rfl ff6_11 (Nat.le_of_ble_eq_true rfl) (Nat.le_of_ble_eq_true rfl) (Nat.le_of_ble_eq_true rfl) (fun q1 r1 => ?_)
  exact cg_ret hF hE dX6_init_15 (Nat.le_of_ble_eq_true rfl) (Nat.le_of_ble_eq_true rfl) ⟨q1, r1, rfl, rfl⟩
def fX7 (cs : C3) (_ : Nat) (fs : List Value) (w : va_W) : Prop := ∃ (q1 : Nat) (q2 : Nat), fs = [.int 0, .ref q1, .ref q2] ∧ w = [(q1, .inl (cs.1, 6, .inl (fun _ => 0))), (q2, .inl (cs.1, 6, .inl (fun _ => 0)))]
set_option maxRecDepth 100000 in
theorem iX7 : CtorM nX7 7 [.int 0, .null, .null] 1 2 12 fX7 := by
  refine mkCtor (by decide +kernel) rfl (fun X hF hE => ?_)
  refine cg_obj hF dX7_init_0 dX7_init_1 lk7_3 obW (by decide) ?_
  refine cg_int (N := 6) (idx := 9) (j := 1) hF dX7_init_4 (pu_b (v := 6) (q := 7) dX7_init_5 (by decide +kernel) rfl) (by decide +kernel) rfl (by decide) acI dX7_init_7 dX7_init_9 (p2 := 12) rfl ff7_9 (Nat.le_of_ble_eq_true rfl) (Nat.le_of_ble_eq_true rfl) (Nat.le_of_ble_eq_true rfl) (fun q1 => ?_)
  refine cg_int (N := 6) (idx := 15) (j := 2) hF dX7_init_12 (pu_b (v := 6) (q := 15) dX7_init_13 (by decide +kernel) rfl) (by decide +kernel) rfl (by decide) acI dX7_init_15 dX7_init_17 (p2 := 20) rfl ff7_15 (Nat.le_of_ble_eq_true rfl) (Nat.le_of_ble_eq_true rfl) (Nat.le_of_ble_eq_true rfl) (fun q2 => ?_)
  exact cg_ret hF hE dX7_init_20 (Nat.le_of_ble_eq_true rfl) (Nat.le_of_ble_eq_true rfl) ⟨q1, q2, rfl, rfl⟩
def fX8 (cs : C3) (_ : Nat) (fs : List Value) (w : va_W) : Prop := ∃ (q1 : Nat) (q2 : Nat), fs = [.int 0, .ref q1, .ref q2] ∧ w = [(q1, .inl (cs.2.1, 300, .inl (fun _ => 0))), (q2, .inl (cs.1, 3, .inl (fun _ => 0)))]
set_option maxRecDepth 100000 in
theorem iX8 : CtorM nX8 8 [.int 0, .null, .null] 1 2 303 fX8 := by
  refine mkCtor (by decide +kernel) rfl (fun X hF hE => ?_)
  refine cg_obj hF dX8_init_0 dX8_init_1 lk8_3 obW (by decide) ?_
  refine cg_byte (N := 300) (idx := 9) (j := 1) hF dX8_init_4 (pu_s (v := 300) (q := 8) dX8_init_5 (by decide +kernel) rfl) (by decide +kernel) rfl (by decide) acB dX8_init_8 dX8_init_10 (p2 := 13) rfl ff8_9 (Nat.le_of_ble_eq_true rfl) (Nat.le_of_ble_eq_true rfl) (Nat.le_of_ble_eq_true rfl) (fun q1 => ?_)
  refine cg_int (N := 3) (idx := 15) (j := 2) hF dX8_init_13 (pu_i (v := 3) (q := 15) dX8_init_14 (by decide +kernel) rfl) (by decide +kernel) rfl (by decide) acI dX8_init_15 dX8_init_17 (p2 := 20) rfl ff8_15 (Nat.le_of_ble_eq_true rfl) (Nat.le_of_ble_eq_true rfl) (Nat.le_of_ble_eq_true rfl) (fun q2 => ?_)
  exact cg_ret hF hE dX8_init_20 (Nat.le_of_ble_eq_true rfl) (Nat.le_of_ble_eq_true rfl) ⟨q1, q2, rfl, rfl⟩
