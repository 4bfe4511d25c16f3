set_option maxHeartbeats 4000000 in
set_option maxRecDepth 100000 in
theorem iX9 : CtorM nX9 9 fs09 3 72 769 f9 := by
  refine mkCtor (by decide +kernel) rfl (fun X hF hE => ?_)
  refine cg_obj hF dX9_init_0 dX9_init_1 lk9_3 obW (by decide) ?_
  refine cg_new (idx := 12) (j := 0) hF iX8 cn9_9 cbX8 lk9_11 dX9_init_4 dX9_init_5 dX9_init_8 dX9_init_9 dX9_init_12 (p2 := 15) rfl ff9_12 (Nat.le_of_ble_eq_true rfl) (by decide) (Nat.le_of_ble_eq_true rfl) (Nat.le_of_ble_eq_true rfl) (fun t1 fst1 wt1 ht1 => ?_)
  obtain ⟨q1t1, q2t1, rfl, rfl⟩ := ht1
  refine cg_new (idx := 19) (j := 1) hF iX4 cn9_16 cbX4 lk9_18 dX9_init_15 dX9_init_16 dX9_init_19 dX9_init_20 dX9_init_23 (p2 := 26) rfl ff9_19 (Nat.le_of_ble_eq_true rfl) (by decide) (Nat.le_of_ble_eq_true rfl) (Nat.le_of_ble_eq_true rfl) (fun t2 fst2 wt2 ht2 => ?_)
  obtain ⟨q1t2, q2t2, q3t2, r3t2, q4t2, rfl, rfl⟩ := ht2
  refine cg_new (idx := 23) (j := 2) hF iX4 cn9_16 cbX4 lk9_18 dX9_init_26 dX9_init_27 dX9_init_30 dX9_init_31 dX9_init_34 (p2 := 37) rfl ff9_23 (Nat.le_of_ble_eq_true rfl) (by decide) (Nat.le_of_ble_eq_true rfl) (Nat.le_of_ble_eq_true rfl) (fun t3 fst3 wt3 ht3 => ?_)
  obtain ⟨q1t3, q2t3, q3t3, r3t3, q4t3, rfl, rfl⟩ := ht3
  refine cg_new (idx := 29) (j := 3) hF iX2 cn9_26 cbX2 lk9_28 dX9_init_37 dX9_init_38 dX9_init_41 dX9_init_42 dX9_init_45 (p2 := 48) rfl ff9_29 (Nat.le_of_ble_eq_true rfl) (by decide) (Nat.le_of_ble_eq_true rfl) (Nat.le_of_ble_eq_true rfl) (fun t4 fst4 wt4 ht4 => ?_)
  obtain ⟨q1t4, q2t4, q3t4, q4t4, rfl, rfl⟩ := ht4
  refine cg_new (idx := 36) (j := 4) hF iX1 cn9_33 cbX1 lk9_35 dX9_init_48 dX9_init_49 dX9_init_52 dX9_init_53 dX9_init_56 (p2 := 59) rfl ff9_36 (Nat.le_of_ble_eq_true rfl) (by decide) (Nat.le_of_ble_eq_true rfl) (Nat.le_of_ble_eq_true rfl) (fun t5 fst5 wt5 ht5 => ?_)
  obtain ⟨q1t5, r1t5, q2t5, r2t5, rfl, rfl⟩ := ht5
  refine cg_new (idx := 43) (j := 5) hF iX3 cn9_40 cbX3 lk9_42 dX9_init_59 dX9_init_60 dX9_init_63 dX9_init_64 dX9_init_67 (p2 := 70) rfl ff9_43 (Nat.le_of_ble_eq_true rfl) (by decide) (Nat.le_of_ble_eq_true rfl) (Nat.le_of_ble_eq_true rfl) (fun t6 fst6 wt6 ht6 => ?_)
  obtain ⟨q1t6, q2t6, q3t6, q4t6, rfl, rfl⟩ := ht6
  refine cg_new (idx := 50) (j := 6) hF iX5 cn9_47 cbX5 lk9_49 dX9_init_70 dX9_init_71 dX9_init_74 dX9_init_75 dX9_init_78 (p2 := 81) rfl ff9_50 (Nat.le_of_ble_eq_true rfl) (by decide) (Nat.le_of_ble_eq_true rfl) (Nat.le_of_ble_eq_true rfl) (fun t7 fst7 wt7 ht7 => ?_)
  obtain ⟨q1t7, q2t7, q3t7, rfl, rfl⟩ := ht7
  refine cg_new (idx := 57) (j := 7) hF iX7 cn9_54 cbX7 lk9_56 dX9_init_81 dX9_init_82 dX9_init_85 dX9_init_86 dX9_init_89 (p2 := 92) rfl ff9_57 (Nat.le_of_ble_eq_true rfl) (by decide) (Nat.le_of_ble_eq_true rfl) (Nat.le_of_ble_eq_true rfl) (fun t8 fst8 wt8 ht8 => ?_)
  obtain ⟨q1t8, q2t8, rfl, rfl⟩ := ht8
  refine cg_new (idx := 64) (j := 8) hF iX0 cn9_61 cbX0 lk9_63 dX9_init_92 dX9_init_93 dX9_init_96 dX9_init_97 dX9_init_100 (p2 := 103) rfl ff9_64 (Nat.le_of_ble_eq_true rfl) (by decide) (Nat.le_of_ble_eq_true rfl) (Nat.le_of_ble_eq_true rfl) (fun t9 fst9 wt9 ht9 => ?_)
  obtain ⟨q1t9, q2t9, rfl, rfl⟩ := ht9
  refine cg_new (idx := 71) (j := 9) hF iX6 cn9_68 cbX6 lk9_70 dX9_init_103 dX9_init_104 dX9_init_107 dX9_init_108 dX9_init_111 (p2 := 114) rfl ff9_71 (Nat.le_of_ble_eq_true rfl) (by decide) (Nat.le_of_ble_eq_true rfl) (Nat.le_of_ble_eq_true rfl) (fun t10 fst10 wt10 ht10 => ?_)
  obtain ⟨q1t10, r1t10, rfl, rfl⟩ := ht10
  refine x9_mid hF hE (fun k => ([xh0 X, t1, q1t1, q2t1, t2, q1t2, q2t2, q3t2, r3t2 0, r3t2 1, r3t2 2, r3t2 3, r3t2 4, q4t2, t3, q1t3, q2t3, q3t3, r3t3 0, r3t3 1, r3t3 2, r3t3 3, r3t3 4, q4t3, t4, q1t4, q2t4, q3t4, q4t4, t5, q1t5, r1t5 0, r1t5 1, r1t5 2, r1t5 3, r1t5 4, r1t5 5, r1t5 6, r1t5 7, r1t5 8, r1t5 9, r1t5 10, q2t5, r2t5 0, r2t5 1, r2t5 2, r2t5 3, r2t5 4, r2t5 5, r2t5 6, r2t5 7, r2t5 8, r2t5 9, r2t5 10, t6, q1t6, q2t6, q3t6, q4t6, t7, q1t7, q2t7, q3t7, t8, q1t8, q2t8, t9, q1t9, q2t9, t10, q1t10, r1t10 0, r1t10 1] : List Nat).getD k 0) (Nat.le_of_ble_eq_true rfl) (Nat.le_of_ble_eq_true rfl) ?_
  generalize hAd : (fun k => ([xh0 X, t1, q1t1, q2t1, t2, q1t2, q2t2, q3t2, r3t2 0, r3t2 1, r3t2 2, r3t2 3, r3t2 4, q4t2, t3, q1t3, q2t3, q3t3, r3t3 0, r3t3 1, r3t3 2, r3t3 3, r3t3 4, q4t3, t4, q1t4, q2t4, q3t4, q4t4, t5, q1t5, r1t5 0, r1t5 1, r1t5 2, r1t5 3, r1t5 4, r1t5 5, r1t5 6, r1t5 7, r1t5 8, r1t5 9, r1t5 10, q2t5, r2t5 0, r2t5 1, r2t5 2, r2t5 3, r2t5 4, r2t5 5, r2t5 6, r2t5 7, r2t5 8, r2t5 9, r2t5 10, t6, q1t6, q2t6, q3t6, q4t6, t7, q1t7, q2t7, q3t7, t8, q1t8, q2t8, t9, q1t9, q2t9, t10, q1t10, r1t10 0, r1t10 1] : List Nat).getD k 0) = ad
  have e8 : (fun i => if i < 5 then some (r3t2 i) else none) = (fun i => if i < 5 then some (ad (8 + i)) else none) := outer_eq (fun i hi => by
    subst hAd
    rcases (show i = 0 ∨ i = 1 ∨ i = 2 ∨ i = 3 ∨ i = 4 by omega) with rfl | rfl | rfl | rfl | rfl <;> rfl)
  have e18 : (fun i => if i < 5 then some (r3t3 i) else none) = (fun i => if i < 5 then some (ad (18 + i)) else none) := outer_eq (fun i hi => by
    subst hAd
    rcases (show i = 0 ∨ i = 1 ∨ i = 2 ∨ i = 3 ∨ i = 4 by omega) with rfl | rfl | rfl | rfl | rfl <;> rfl)
  have e31 : (fun i => if i < 11 then some (r1t5 i) else none) = (fun i => if i < 11 then some (ad (31 + i)) else none) := outer_eq (fun i hi => by
    subst hAd
    rcases (show i = 0 ∨ i = 1 ∨ i = 2 ∨ i = 3 ∨ i = 4 ∨ i = 5 ∨ i = 6 ∨ i = 7 ∨ i = 8 ∨ i = 9 ∨ i = 10 by omega) with rfl | rfl | rfl | rfl | rfl | rfl | rfl | rfl | rfl | rfl | rfl <;> rfl)
  have e43 : (fun i => if i < 11 then some (r2t5 i) else none) = (fun i => if i < 11 then some (ad (43 + i)) else none) := outer_eq (fun i hi => by
    subst hAd
    rcases (show i = 0 ∨ i = 1 ∨ i = 2 ∨ i = 3 ∨ i = 4 ∨ i = 5 ∨ i = 6 ∨ i = 7 ∨ i = 8 ∨ i = 9 ∨ i = 10 by omega) with rfl | rfl | rfl | rfl | rfl | rfl | rfl | rfl | rfl | rfl | rfl <;> rfl)
  have e71 : (fun i => if i < 2 then some (r1t10 i) else none) = (fun i => if i < 2 then some (ad (71 + i)) else none) := outer_eq (fun i hi => by
    subst hAd
    rcases (show i = 0 ∨ i = 1 by omega) with rfl | rfl <;> rfl)
  rw [mkW_h_go, e8, e18, e31, e43, e71, i32_0]
  subst hAd
  rfl
