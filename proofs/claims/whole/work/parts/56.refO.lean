/-- the reference's second place holds what was read -/
def RdM (σ : Sg) (F : FD) : Prop := σ 75 1 = (f_nm F : Int) ∧ σ 77 1 = (f_nl F : Int) ∧ (∀ m : Nat, m < f_nm F → σ 76 (3 + (m : Int)) = f_rm F m) ∧ (∀ i : Nat, i < f_nl F → σ 78 (5 + (i : Int)) = f_kd F i) ∧ (∀ i m : Nat, i < 5 → m < 3 → σ 79 (15 + 3 * (i : Int) + (m : Int)) = f_wt F i m) ∧ (∀ i : Nat, i < f_nl F → σ 80 (5 + (i : Int)) = f_lm F i) ∧ σ 81 1 = f_ca F ∧ σ 82 1 = f_sp F
/-- the first place, and all else that is kept, stays -/
def QFr (σ σ' : Sg) : Prop := (∀ k, k < 73 ∨ k = 74 ∨ (83 ≤ k ∧ k < 86) → σ' k = σ k) ∧ (∀ j : Int, j < 16 → σ' 73 j = σ 73 j) ∧ (∀ j : Int, j ≠ 1 → σ' 75 j = σ 75 j ∧ σ' 77 j = σ 77 j ∧ σ' 81 j = σ 81 j ∧ σ' 82 j = σ 82 j) ∧ (∀ j : Int, j < 3 → σ' 76 j = σ 76 j) ∧ (∀ j : Int, j < 5 ∨ 10 ≤ j → σ' 78 j = σ 78 j ∧ σ' 80 j = σ 80 j) ∧ ∀ j : Int, j < 15 → σ' 79 j = σ 79 j
theorem QFr.rf (σ : Sg) : QFr σ σ := ⟨fun _ _ => rfl, fun _ _ => rfl, fun _ _ => ⟨rfl, rfl, rfl, rfl⟩, fun _ _ => rfl, fun _ _ => ⟨rfl, rfl⟩, fun _ _ => rfl⟩
theorem QFr.tr {a b c : Sg} (h : QFr a b) (h2 : QFr b c) : QFr a c := by
  obtain ⟨p1, p2, p3, p4, p5, p6⟩ := h
  obtain ⟨q1, q2, q3, q4, q5, q6⟩ := h2
  refine ⟨fun k hk => by rw [q1 k hk]; exact p1 k hk, fun j hj => by rw [q2 j hj]; exact p2 j hj, fun j hj => ?_, fun j hj => by rw [q4 j hj]; exact p4 j hj, fun j hj => ?_, fun j hj => by rw [q6 j hj]; exact p6 j hj⟩
  · obtain ⟨a1, a2, a3, a4⟩ := q3 j hj
    rw [a1, a2, a3, a4]
    exact p3 j hj
  · obtain ⟨a1, a2⟩ := q5 j hj
    rw [a1, a2]
    exact p5 j hj
theorem PFr.q {σ σ' : Sg} (h : PFr σ σ') : QFr σ σ' := by
  refine ⟨fun k hk => h.1 k (by omega) (by omega), fun j hj => h.2 j (by omega), fun j _ => ?_, fun j _ => ?_, fun j _ => ?_, fun j _ => ?_⟩
  · rw [h.1 75 (by decide) (by decide), h.1 77 (by decide) (by decide), h.1 81 (by decide) (by decide), h.1 82 (by decide) (by decide)]
    exact ⟨rfl, rfl, rfl, rfl⟩
  · rw [h.1 76 (by decide) (by decide)]
  · rw [h.1 78 (by decide) (by decide), h.1 80 (by decide) (by decide)]
    exact ⟨rfl, rfl⟩
  · rw [h.1 79 (by decide) (by decide)]
theorem RdM.pf {σ σ' : Sg} {F : FD} (h : RdM σ F) (hf : PFr σ σ') : RdM σ' F := by
  unfold RdM
  rw [hf.1 75 (by decide) (by decide), hf.1 77 (by decide) (by decide), hf.1 76 (by decide) (by decide), hf.1 78 (by decide) (by decide), hf.1 79 (by decide) (by decide), hf.1 80 (by decide) (by decide), hf.1 81 (by decide) (by decide), hf.1 82 (by decide) (by decide)]
  exact h
theorem RM.qf {σ σ' : Sg} {A : AS} (h : RM σ A) (ok : okA A) (hf : QFr σ σ') : RM σ' A := by
  obtain ⟨len, B, F, nu, W, V, nk, S, ns, M, Y⟩ := A
  have h5 : f_nl F ≤ 5 := ok.2.2.1.2.1
  have h3 : f_nm F ≤ 3 := ok.2.2.1.1
  obtain ⟨⟨t1, t3⟩, ⟨q1, q2, q3, q4, q5, q6, q7, q8⟩, ⟨c1, c2⟩, ⟨k1, k2⟩, s1, s2⟩ := h
  obtain ⟨p1, p2, p3, p4, p5, p6⟩ := hf
  refine ⟨⟨?_, fun k hk => ?_⟩, ⟨?_, ?_, fun m hm => ?_, fun i hi => ?_, fun i m hi hm => ?_, fun i hi => ?_, ?_, ?_⟩, ⟨?_, fun j hj => ?_⟩, ⟨?_, fun k hk => ⟨fun i hi => ?_, ?_, ?_⟩⟩, ?_, fun j hj => ?_⟩
  · rw [p2 0 (by decide)]; exact t1
  · rw [p1 74 (by omega)]; exact t3 k hk
  · rw [(p3 0 (by decide)).1]; exact q1
  · rw [(p3 0 (by decide)).2.1]; exact q2
  · rw [p4 _ (by omega)]; exact q3 m hm
  · rw [(p5 _ (by omega)).1]; exact q4 i hi
  · rw [p6 _ (by omega)]; exact q5 i m hi hm
  · rw [(p5 _ (by omega)).2]; exact q6 i hi
  · rw [(p3 0 (by decide)).2.2.1]; exact q7
  · rw [(p3 0 (by decide)).2.2.2]; exact q8
  · rw [p2 11 (by decide)]; exact c1
  · rw [p1 83 (by omega)]; exact c2 j hj
  · rw [p2 10 (by decide)]; exact k1
  · rw [(p5 _ (by omega)).2]; exact (k2 k hk).1 i hi
  · rw [(p3 _ (by omega)).2.2.1]; exact (k2 k hk).2.1
  · rw [(p3 _ (by omega)).2.2.2]; exact (k2 k hk).2.2
  · rw [p2 13 (by decide)]; exact s1
  · rw [p1 84 (by omega), p1 85 (by omega)]; exact s2 j hj
set_option maxRecDepth 100000 in
theorem m_noFair1 (σ : Sg) : RV mX10_noFair 1 [vR 73, vI 1] σ (fun σ' => RdM σ' F00 ∧ QFr σ σ') := by
  refine mkRun (by decide +kernel) (Nat.le_of_ble_eq_true rfl) (fun X hF hR => ?_)
  refine jr_aload_n hF dX10_noFair_0 (q := 1) rfl rfl ?_
  refine jr_getR (ci := 10) (j := 2) hF dX10_noFair_1 (q := 4) rfl rfl rfl fl10_13 ?_
  refine jr_iload_n hF dX10_noFair_4 (q := 5) rfl rfl ?_
  refine jr_iconst hF dX10_noFair_5 (q := 6) rfl (by decide) ?_
  refine jr_iast hF dX10_noFair_6 (q := 7) rfl rfl (by omega) ?_
  refine jr_aload_n hF dX10_noFair_7 (q := 8) rfl rfl ?_
  refine jr_getR (ci := 10) (j := 4) hF dX10_noFair_8 (q := 11) rfl rfl rfl fl10_19 ?_
  refine jr_iload_n hF dX10_noFair_11 (q := 12) rfl rfl ?_
  refine jr_iconst hF dX10_noFair_12 (q := 13) rfl (by decide) ?_
  refine jr_iast hF dX10_noFair_13 (q := 14) rfl rfl (by omega) ?_
  refine jr_aload_n hF dX10_noFair_14 (q := 15) rfl rfl ?_
  refine jr_getR (ci := 10) (j := 8) hF dX10_noFair_15 (q := 18) rfl rfl rfl fl10_31 ?_
  refine jr_iload_n hF dX10_noFair_18 (q := 19) rfl rfl ?_
  refine jr_iconst hF dX10_noFair_19 (q := 20) rfl (by decide) ?_
  refine jr_iast hF dX10_noFair_20 (q := 21) rfl rfl (by omega) ?_
  refine jr_aload_n hF dX10_noFair_21 (q := 22) rfl rfl ?_
  refine jr_getR (ci := 10) (j := 9) hF dX10_noFair_22 (q := 25) rfl rfl rfl fl10_34 ?_
  refine jr_iload_n hF dX10_noFair_25 (q := 26) rfl rfl ?_
  refine jr_iconst hF dX10_noFair_26 (q := 27) rfl (by decide) ?_
  refine jr_iast hF dX10_noFair_27 (q := 28) rfl rfl (by omega) ?_
  refine jr_iconst hF dX10_noFair_28 (q := 29) rfl (by decide) ?_
  refine jr_istore_n hF dX10_noFair_29 (q := 30) rfl (by decide) rfl ?_
  refine gs_loop (α := Sg) (fun k _ => [some (vR 73), some (vI 1), some (vI (k : Int))]) (fun σ' => σ') (fun k σ' => (∀ j : Int, 15 ≤ j → j < 15 + (k : Int) → σ' 79 j = 0) ∧ (∀ j : Int, j < 15 → σ' 79 j = σ 79 j) ∧ ∀ c, c ≠ 79 → σ' c = (up (up (up (up σ 75 1 0) 77 1 0) 81 1 0) 82 1 1) c) 15 (fun σ1 h1 => ?_) (fun k σ1 hk h1 ih => ?_) _ ⟨fun j h1 h2 => by omega, fun j _ => by rw [up_ne (by decide), up_ne (by decide), up_ne (by decide), up_ne (by decide)], fun _ _ => rfl⟩
  · obtain ⟨i1, i2, i3⟩ := h1
    refine jr_iload_n hF dX10_noFair_30 (q := 31) rfl rfl ?_
    refine jr_bipush hF dX10_noFair_31 (q := 33) rfl (by decide) (by decide +kernel) ?_
    refine jr_icmp_ge hF dX10_noFair_33 (q := 36) rfl 54 (by decide) (fun a1 => ?_) (fun a1 => ?_)
    · refine jr_retV hF hR dX10_noFair_54 rfl ⟨⟨?_, ?_, fun m hm => absurd hm (Nat.not_lt_zero m), fun i hi => absurd hi (Nat.not_lt_zero i), fun i m hi hm => ?_, fun i hi => absurd hi (Nat.not_lt_zero i), ?_, ?_⟩, fun k hk => ?_, fun j hj => ?_, fun j hj => ⟨?_, ?_, ?_, ?_⟩, fun j hj => ?_, fun j hj => ⟨?_, ?_⟩, fun j hj => i2 j hj⟩
      · rw [i3 75 (by decide)]; simp [up, F00]
      · rw [i3 77 (by decide)]; simp [up, F00]
      · rw [i1 _ (by omega) (by omega)]; rfl
      · rw [i3 81 (by decide)]; simp [up, F00]
      · rw [i3 82 (by decide)]; simp [up, F00]
      · rw [i3 k (by omega), up_ne (by omega), up_ne (by omega), up_ne (by omega), up_ne (by omega)]
      · rw [i3 73 (by decide), up_ne (by decide), up_ne (by decide), up_ne (by decide), up_ne (by decide)]
      · rw [i3 75 (by decide)]; simp [up, hj]
      · rw [i3 77 (by decide)]; simp [up, hj]
      · rw [i3 81 (by decide)]; simp [up, hj]
      · rw [i3 82 (by decide)]; simp [up, hj]
      · rw [i3 76 (by decide), up_ne (by decide), up_ne (by decide), up_ne (by decide), up_ne (by decide)]
      · rw [i3 78 (by decide), up_ne (by decide), up_ne (by decide), up_ne (by decide), up_ne (by decide)]
      · rw [i3 80 (by decide), up_ne (by decide), up_ne (by decide), up_ne (by decide), up_ne (by decide)]
    · omega
  · obtain ⟨i1, i2, i3⟩ := h1
    have ih1 := ih (up σ1 79 (15 * 1 + (k : Int)) 0) ⟨fun j h1 h2 => by
      unfold up
      by_cases e : j = 15 * 1 + (k : Int)
      · rw [if_pos ⟨rfl, e⟩]
      · rw [if_neg (fun hh => e hh.2)]; exact i1 j h1 (by omega), fun j hj => by
      unfold up
      rw [if_neg (by omega)]; exact i2 j hj, fun c hc => by rw [up_ne hc]; exact i3 c hc⟩
    refine jr_iload_n hF dX10_noFair_30 (q := 31) rfl rfl ?_
    refine jr_bipush hF dX10_noFair_31 (q := 33) rfl (by decide) (by decide +kernel) ?_
    refine jr_icmp_ge hF dX10_noFair_33 (q := 36) rfl 54 (by decide) (fun a1 => ?_) (fun a1 => ?_)
    · omega
    · refine jr_aload_n hF dX10_noFair_36 (q := 37) rfl rfl ?_
      refine jr_getR (ci := 10) (j := 6) hF dX10_noFair_37 (q := 40) rfl rfl rfl fl10_25 ?_
      refine jr_bipush hF dX10_noFair_40 (q := 42) rfl (by decide) (by decide +kernel) ?_
      refine jr_iload_n hF dX10_noFair_42 (q := 43) rfl rfl ?_
      refine jr_imul hF dX10_noFair_43 (q := 44) rfl (by omega) ?_
      refine jr_iload_n hF dX10_noFair_44 (q := 45) rfl rfl ?_
      refine jr_iadd hF dX10_noFair_45 (q := 46) rfl (by omega) ?_
      refine jr_iconst hF dX10_noFair_46 (q := 47) rfl (by decide) ?_
      refine jr_iast hF dX10_noFair_47 (q := 48) rfl rfl (by omega) ?_
      refine jr_iinc hF dX10_noFair_48 (q := 51) rfl (by decide) rfl rfl (by omega) ?_
      refine jr_goto hF dX10_noFair_51 30 (by decide) ?_
      exact ih1

