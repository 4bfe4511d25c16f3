/-! ===== the plan's methods over the first 73 cells ===== -/
set_option maxRecDepth 100000 in
theorem c_isWithin_h (σ : Sg) (a lo hi : Int) : RI_h mX9_isWithin 1 [vI a, vI lo, vI hi] σ (fun z σ' => z = (if lo ≤ a ∧ a ≤ hi then 1 else 0) ∧ σ = σ') := by
  refine mkRun_h (by decide +kernel) (Nat.le_of_ble_eq_true rfl) (fun X hF hR => ?_)
  refine jr_iload_n_h hF dX9_isWithin_0 (q := 1) rfl rfl ?_
  refine jr_iload_n_h hF dX9_isWithin_1 (q := 2) rfl rfl ?_
  refine jr_icmp_lt_h hF dX9_isWithin_2 (q := 5) rfl 14 (by decide) (fun h1 => ?_) (fun h1 => ?_)
  · refine jr_iconst_h hF dX9_isWithin_14 (q := 15) rfl (by decide) ?_
    refine jr_retZ_h hF hR dX9_isWithin_15 rfl (by first | exact Or.inl rfl | exact Or.inr rfl | omega) ⟨by rw [if_neg (by omega)], rfl⟩
  · refine jr_iload_n_h hF dX9_isWithin_5 (q := 6) rfl rfl ?_
    refine jr_iload_n_h hF dX9_isWithin_6 (q := 7) rfl rfl ?_
    refine jr_icmp_gt_h hF dX9_isWithin_7 (q := 10) rfl 14 (by decide) (fun h2 => ?_) (fun h2 => ?_)
    · refine jr_iconst_h hF dX9_isWithin_14 (q := 15) rfl (by decide) ?_
      refine jr_retZ_h hF hR dX9_isWithin_15 rfl (by first | exact Or.inl rfl | exact Or.inr rfl | omega) ⟨by rw [if_neg (by omega)], rfl⟩
    · refine jr_iconst_h hF dX9_isWithin_10 (q := 11) rfl (by decide) ?_
      refine jr_goto_h hF dX9_isWithin_11 15 (by decide) ?_
      refine jr_retZ_h hF hR dX9_isWithin_15 rfl (by first | exact Or.inl rfl | exact Or.inr rfl | omega) ⟨by rw [if_pos (by omega)], rfl⟩
set_option maxRecDepth 100000 in
theorem c_hasLad_h (σ : Sg) (pl : Nat) (hpl : pl = 4 ∨ pl = 14) (i : Int) : RI_h mX4_hasLad 1 [vR pl, vI i] σ (fun z σ' => z = (if 0 ≤ i ∧ i < σ pl 1 then 1 else 0) ∧ σ = σ') := by
  rcases hpl with rfl | rfl
  all_goals
    refine mkRun_h (by decide +kernel) (Nat.le_of_ble_eq_true rfl) (fun X hF hR => ?_)
    refine jr_iload_n_h hF dX4_hasLad_0 (q := 1) rfl rfl ?_
    refine jr_if_lt_h hF dX4_hasLad_1 (q := 4) rfl 16 (by decide) (fun h1 => ?_) (fun h1 => ?_)
    · refine jr_iconst_h hF dX4_hasLad_16 (q := 17) rfl (by decide) ?_
      refine jr_retZ_h hF hR dX4_hasLad_17 rfl (by first | exact Or.inl rfl | exact Or.inr rfl | omega) ⟨by rw [if_neg (by omega)], rfl⟩
    · refine jr_iload_n_h hF dX4_hasLad_4 (q := 5) rfl rfl ?_
      refine jr_aload_n_h hF dX4_hasLad_5 (q := 6) rfl rfl ?_
      refine jr_getI_h (ci := 4) (j := 1) hF 1 rfl dX4_hasLad_6 (q := 9) rfl rfl rfl fl4_30 ?_
      refine jr_icmp_ge_h hF dX4_hasLad_9 (q := 12) rfl 16 (by decide) (fun h2 => ?_) (fun h2 => ?_)
      · refine jr_iconst_h hF dX4_hasLad_16 (q := 17) rfl (by decide) ?_
        refine jr_retZ_h hF hR dX4_hasLad_17 rfl (by first | exact Or.inl rfl | exact Or.inr rfl | omega) ⟨by rw [if_neg (by omega)], rfl⟩
      · refine jr_iconst_h hF dX4_hasLad_12 (q := 13) rfl (by decide) ?_
        refine jr_goto_h hF dX4_hasLad_13 17 (by decide) ?_
        refine jr_retZ_h hF hR dX4_hasLad_17 rfl (by first | exact Or.inl rfl | exact Or.inr rfl | omega) ⟨by rw [if_pos (by omega)], rfl⟩
set_option maxRecDepth 100000 in
theorem c_hasMaster_h (σ : Sg) (pl : Nat) (hpl : pl = 4 ∨ pl = 14) (i : Int) : RI_h mX4_hasMaster 1 [vR pl, vI i] σ (fun z σ' => z = (if 0 ≤ i ∧ i < σ pl 0 then 1 else 0) ∧ σ = σ') := by
  rcases hpl with rfl | rfl
  all_goals
    refine mkRun_h (by decide +kernel) (Nat.le_of_ble_eq_true rfl) (fun X hF hR => ?_)
    refine jr_iload_n_h hF dX4_hasMaster_0 (q := 1) rfl rfl ?_
    refine jr_if_lt_h hF dX4_hasMaster_1 (q := 4) rfl 16 (by decide) (fun h1 => ?_) (fun h1 => ?_)
    · refine jr_iconst_h hF dX4_hasMaster_16 (q := 17) rfl (by decide) ?_
      refine jr_retZ_h hF hR dX4_hasMaster_17 rfl (by first | exact Or.inl rfl | exact Or.inr rfl | omega) ⟨by rw [if_neg (by omega)], rfl⟩
    · refine jr_iload_n_h hF dX4_hasMaster_4 (q := 5) rfl rfl ?_
      refine jr_aload_n_h hF dX4_hasMaster_5 (q := 6) rfl rfl ?_
      refine jr_getI_h (ci := 4) (j := 0) hF 0 rfl dX4_hasMaster_6 (q := 9) rfl rfl rfl fl4_26 ?_
      refine jr_icmp_ge_h hF dX4_hasMaster_9 (q := 12) rfl 16 (by decide) (fun h2 => ?_) (fun h2 => ?_)
      · refine jr_iconst_h hF dX4_hasMaster_16 (q := 17) rfl (by decide) ?_
        refine jr_retZ_h hF hR dX4_hasMaster_17 rfl (by first | exact Or.inl rfl | exact Or.inr rfl | omega) ⟨by rw [if_neg (by omega)], rfl⟩
      · refine jr_iconst_h hF dX4_hasMaster_12 (q := 13) rfl (by decide) ?_
        refine jr_goto_h hF dX4_hasMaster_13 17 (by decide) ?_
        refine jr_retZ_h hF hR dX4_hasMaster_17 rfl (by first | exact Or.inl rfl | exact Or.inr rfl | omega) ⟨by rw [if_pos (by omega)], rfl⟩
set_option maxRecDepth 100000 in
theorem c_fill_h (σ : Sg) (a n b : Nat) (fs : List (Option Nat)) (hL : Lay_h[a]? = some (1, n, b, fs)) (hn : n < 1000) (v : Int) : RV_h mJ7_fill_53178 1 [vR a, vI v] σ (fun σ' => uc σ a (fun j => if 0 ≤ j ∧ j < (n : Int) then v else σ a j) = σ') := by
  refine mkRun_h (by decide +kernel) (Nat.le_of_ble_eq_true rfl) (fun X hF hR => ?_)
  refine jr_iconst_h hF dJ7_fill_53178_0 (q := 1) rfl (by decide) ?_
  refine jr_istore_n_h hF dJ7_fill_53178_1 (q := 2) rfl (by decide) rfl ?_
  refine jr_aload_n_h hF dJ7_fill_53178_2 (q := 3) rfl rfl ?_
  refine jr_alen_h hF dJ7_fill_53178_3 (q := 4) rfl hL hn ?_
  refine jr_istore_n_h hF dJ7_fill_53178_4 (q := 5) rfl (by decide) rfl ?_
  have e0 : σ = uc σ a (fun j => if 0 ≤ j ∧ j < ((0 : Nat) : Int) then v else σ a j) := by
    have : (fun j => if 0 ≤ j ∧ j < ((0 : Nat) : Int) then v else σ a j) = σ a := by
      funext j
      rw [if_neg (by omega)]
    rw [this, uc_self]
  have key := gs_loop (X := X) (pc := 5) (α := Unit) (fun k _ => [some (vR a), some (vI v), some (vI (k : Int)), some (vI (n : Int))]) (fun _ => σ) (fun k _ => True) n
  have main : ∀ j k : Nat, k + j = n → Gs_h X 5 [some (vR a), some (vI v), some (vI (k : Int)), some (vI (n : Int))] [] (uc σ a (fun j => if 0 ≤ j ∧ j < (k : Int) then v else σ a j)) := by
    intro j
    induction j with
    | zero =>
      intro k hk
      have e : k = n := by omega
      subst e
      refine jr_iload_n_h hF dJ7_fill_53178_5 (q := 6) rfl rfl ?_
      refine jr_iload_n_h hF dJ7_fill_53178_6 (q := 7) rfl rfl ?_
      refine jr_icmp_ge_h hF dJ7_fill_53178_7 (q := 10) rfl 20 (by decide) (fun h => ?_) (fun h => ?_)
      · refine jr_retV_h hF hR dJ7_fill_53178_20 rfl rfl
      · omega
    | succ j ih =>
      intro k hk
      have ih1 := ih (k + 1) (by omega)
      refine jr_iload_n_h hF dJ7_fill_53178_5 (q := 6) rfl rfl ?_
      refine jr_iload_n_h hF dJ7_fill_53178_6 (q := 7) rfl rfl ?_
      refine jr_icmp_ge_h hF dJ7_fill_53178_7 (q := 10) rfl 20 (by decide) (fun h => ?_) (fun h => ?_)
      · omega
      · refine jr_aload_n_h hF dJ7_fill_53178_10 (q := 11) rfl rfl ?_
        refine jr_iload_n_h hF dJ7_fill_53178_11 (q := 12) rfl rfl ?_
        refine jr_iload_n_h hF dJ7_fill_53178_12 (q := 13) rfl rfl ?_
        refine jr_iast_h hF dJ7_fill_53178_13 (q := 14) rfl hL (by omega) ?_
        refine jr_iinc_h hF dJ7_fill_53178_14 (q := 17) rfl (by decide) rfl rfl (by omega) ?_
        refine jr_goto_h hF dJ7_fill_53178_17 5 (by decide) ?_
        rw [up_uc, uc_uc, uc_eq]
        have e1 : (fun j => if j = (k : Int) then v else if 0 ≤ j ∧ j < (k : Int) then v else σ a j) = (fun j => if 0 ≤ j ∧ j < ((k + 1 : Nat) : Int) then v else σ a j) := by
          funext j
          by_cases h1 : j = (k : Int)
          · rw [if_pos h1, if_pos (by omega)]
          · rw [if_neg h1]
            by_cases h2 : 0 ≤ j ∧ j < (k : Int)
            · rw [if_pos h2, if_pos (by omega)]
            · rw [if_neg h2, if_neg (by omega)]
        rw [e1]
        exact ih1
  have h0 := main n 0 (by omega)
  rw [← e0] at h0
  exact h0


theorem L_pl_h {pl : Nat} (h : pl = 4 ∨ pl = 14) : Lay_h[pl]? = some (0, 4, 0, [none, none, some (pl + 1), some (pl + 2), some (pl + 3), some (pl + 9)]) := by rcases h with rfl | rfl <;> rfl
theorem L_rm_h {pl : Nat} (h : pl = 4 ∨ pl = 14) : Lay_h[pl + 1]? = some (1, 3, 0, []) := by rcases h with rfl | rfl <;> rfl
theorem L_kd_h {pl : Nat} (h : pl = 4 ∨ pl = 14) : Lay_h[pl + 2]? = some (1, 5, 0, []) := by rcases h with rfl | rfl <;> rfl
theorem L_wo_h {pl : Nat} (h : pl = 4 ∨ pl = 14) : Lay_h[pl + 3]? = some (3, 5, pl + 4, []) := by rcases h with rfl | rfl <;> rfl
theorem L_lw_h {pl : Nat} (h : pl = 4 ∨ pl = 14) : Lay_h[pl + 9]? = some (1, 7, 0, []) := by rcases h with rfl | rfl <;> rfl
theorem L_wr_h {pl i : Nat} (h : pl = 4 ∨ pl = 14) (hi : i < 5) : Lay_h[pl + 4 + i]? = some (1, 3, 0, []) := by
  have : i = 0 ∨ i = 1 ∨ i = 2 ∨ i = 3 ∨ i = 4 := by omega
  rcases h with rfl | rfl <;> rcases this with rfl | rfl | rfl | rfl | rfl <;> rfl
set_option maxRecDepth 100000 in
theorem c_clear_h (σ : Sg) (pl : Nat) (hpl : pl = 4 ∨ pl = 14) : RV_h mX4_clear 1 [vR pl] σ (fun σ' => RdC σ' pl F00 ∧ ∀ k, k < pl ∨ pl + 9 < k → σ' k = σ k) := by
  refine mkRun_h (by decide +kernel) (Nat.le_of_ble_eq_true rfl) (fun X hF hR => ?_)
  refine jr_aload_n_h hF dX4_clear_0 (q := 1) rfl rfl ?_
  refine jr_iconst_h hF dX4_clear_1 (q := 2) rfl (by decide) ?_
  refine jr_putI_h (ci := 4) (j := 0) hF 0 rfl dX4_clear_2 (q := 5) rfl (by first | rfl | exact L_pl_h hpl | exact L_rm_h hpl | exact L_kd_h hpl | exact L_lw_h hpl | exact L_wo_h hpl | exact L_wr_h hpl (by omega) | exact L_pl_h hp2 | exact L_rm_h hp2 | exact L_kd_h hp2 | exact L_lw_h hp2 | exact L_wo_h hp2 | exact L_wr_h hp2 (by omega)) rfl fp4_26 ?_
  refine jr_aload_n_h hF dX4_clear_5 (q := 6) rfl rfl ?_
  refine jr_iconst_h hF dX4_clear_6 (q := 7) rfl (by decide) ?_
  refine jr_putI_h (ci := 4) (j := 1) hF 1 rfl dX4_clear_7 (q := 10) rfl (by first | rfl | exact L_pl_h hpl | exact L_rm_h hpl | exact L_kd_h hpl | exact L_lw_h hpl | exact L_wo_h hpl | exact L_wr_h hpl (by omega) | exact L_pl_h hp2 | exact L_rm_h hp2 | exact L_kd_h hp2 | exact L_lw_h hp2 | exact L_wo_h hp2 | exact L_wr_h hp2 (by omega)) rfl fp4_30 ?_
  refine jr_aload_n_h hF dX4_clear_10 (q := 11) rfl rfl ?_
  refine jr_getR_h (ci := 4) (j := 5) hF dX4_clear_11 (q := 14) rfl (by first | rfl | exact L_pl_h hpl | exact L_rm_h hpl | exact L_kd_h hpl | exact L_lw_h hpl | exact L_wo_h hpl | exact L_wr_h hpl (by omega) | exact L_pl_h hp2 | exact L_rm_h hp2 | exact L_kd_h hp2 | exact L_lw_h hp2 | exact L_wo_h hp2 | exact L_wr_h hp2 (by omega)) rfl fl4_23 ?_
  refine jr_iconst_h hF dX4_clear_14 (q := 15) rfl (by decide) ?_
  refine jr_iconst_h hF dX4_clear_15 (q := 16) rfl (by decide) ?_
  refine jr_iast_h hF dX4_clear_16 (q := 17) rfl (by first | rfl | exact L_pl_h hpl | exact L_rm_h hpl | exact L_kd_h hpl | exact L_lw_h hpl | exact L_wo_h hpl | exact L_wr_h hpl (by omega) | exact L_pl_h hp2 | exact L_rm_h hp2 | exact L_kd_h hp2 | exact L_lw_h hp2 | exact L_wo_h hp2 | exact L_wr_h hp2 (by omega)) (by omega) ?_
  refine jr_aload_n_h hF dX4_clear_17 (q := 18) rfl rfl ?_
  refine jr_getR_h (ci := 4) (j := 5) hF dX4_clear_18 (q := 21) rfl (by first | rfl | exact L_pl_h hpl | exact L_rm_h hpl | exact L_kd_h hpl | exact L_lw_h hpl | exact L_wo_h hpl | exact L_wr_h hpl (by omega) | exact L_pl_h hp2 | exact L_rm_h hp2 | exact L_kd_h hp2 | exact L_lw_h hp2 | exact L_wo_h hp2 | exact L_wr_h hp2 (by omega)) rfl fl4_23 ?_
  refine jr_bipush_h hF dX4_clear_21 (q := 23) rfl (by decide) (by decide +kernel) ?_
  refine jr_iconst_h hF dX4_clear_23 (q := 24) rfl (by decide) ?_
  refine jr_iast_h hF dX4_clear_24 (q := 25) rfl (by first | rfl | exact L_pl_h hpl | exact L_rm_h hpl | exact L_kd_h hpl | exact L_lw_h hpl | exact L_wo_h hpl | exact L_wr_h hpl (by omega) | exact L_pl_h hp2 | exact L_rm_h hp2 | exact L_kd_h hp2 | exact L_lw_h hp2 | exact L_wo_h hp2 | exact L_wr_h hp2 (by omega)) (by omega) ?_
  refine jr_retV_h hF hR dX4_clear_25 rfl ⟨⟨⟨?_, ?_, ?_, ?_, ?_, ?_, ?_, ?_⟩, ?_⟩, fun k hk => ?_⟩
  · rw [up_ne (by omega), up_ne (by omega)]; simp [up, F00]
  · rw [up_ne (by omega), up_ne (by omega)]; simp [up, F00]
  · exact fun m h => absurd h (Nat.not_lt_zero m)
  · exact fun m h => absurd h (Nat.not_lt_zero m)
  · exact fun i m h => absurd h (Nat.not_lt_zero i)
  · exact fun m h => absurd h (Nat.not_lt_zero m)
  · simp [up, F00]
  · simp [up, F00]
  · exact fun i m h => absurd h (Nat.not_lt_zero i)
  · rw [up_ne (by omega), up_ne (by omega), up_ne (by omega), up_ne (by omega)]
set_option maxRecDepth 100000 in
theorem c_addMaster_h (σ : Sg) (pl : Nat) (hpl : pl = 4 ∨ pl = 14) (F : FD) (hC : RdC σ pl F) (hz : FZ F) (ok : okF F) (c : Int) : RI_h mX4_addMaster 2 [vR pl, vI c] σ (fun z σ' => told σ pl (t_m F c) z σ') := by
  have h3 := ok.1
  have h5 := ok.2.1
  have r1 := hC.1.1
  refine mkRun_h (by decide +kernel) (Nat.le_of_ble_eq_true rfl) (fun X hF hR => ?_)
  refine jr_aload_n_h hF dX4_addMaster_0 (q := 1) rfl rfl ?_
  refine jr_getI_h (ci := 4) (j := 0) hF 0 rfl dX4_addMaster_1 (q := 4) rfl (by first | rfl | exact L_pl_h hpl | exact L_rm_h hpl | exact L_kd_h hpl | exact L_lw_h hpl | exact L_wo_h hpl | exact L_wr_h hpl (by omega) | exact L_pl_h hp2 | exact L_rm_h hp2 | exact L_kd_h hp2 | exact L_lw_h hp2 | exact L_wo_h hp2 | exact L_wr_h hp2 (by omega)) rfl fl4_26 ?_
  refine jr_iconst_h hF dX4_addMaster_4 (q := 5) rfl (by decide) ?_
  refine jr_icmp_ge_h hF dX4_addMaster_5 (q := 8) rfl 17 (by decide) (fun h1 => ?_) (fun h1 => ?_)
  · refine jr_iconst_h hF dX4_addMaster_17 (q := 18) rfl (by decide) ?_
    refine jr_retZ_h hF hR dX4_addMaster_18 rfl (by first | exact Or.inl rfl | exact Or.inr rfl | omega) ⟨fun _ _ => rfl, by unfold t_m; rw [if_neg (by omega)]⟩
  · refine jr_iload_n_h hF dX4_addMaster_8 (q := 9) rfl rfl ?_
    refine jr_iconst_h hF dX4_addMaster_9 (q := 10) rfl (by decide) ?_
    refine jr_iconst_h hF dX4_addMaster_10 (q := 11) rfl (by decide) ?_
    refine jr_cN3I_h hF (c_isWithin_h σ c 1 3) dX4_addMaster_11 (q := 14) rfl rfl rfl vX9_isWithin kX9_isWithin (by decide) (Nat.le_of_ble_eq_true rfl) (fun z σ1 hz1 => ?_)
    obtain ⟨rfl, rfl⟩ := hz1
    refine jr_if_ne_h hF dX4_addMaster_14 (q := 17) rfl 19 (by decide) (fun h2 => ?_) (fun h2 => ?_)
    · have hc : 1 ≤ c ∧ c ≤ 3 := Classical.byContradiction fun h => h2 (by rw [if_neg h])
      refine jr_aload_n_h hF dX4_addMaster_19 (q := 20) rfl rfl ?_
      refine jr_getR_h (ci := 4) (j := 2) hF dX4_addMaster_20 (q := 23) rfl (by first | rfl | exact L_pl_h hpl | exact L_rm_h hpl | exact L_kd_h hpl | exact L_lw_h hpl | exact L_wo_h hpl | exact L_wr_h hpl (by omega) | exact L_pl_h hp2 | exact L_rm_h hp2 | exact L_kd_h hp2 | exact L_lw_h hp2 | exact L_wo_h hp2 | exact L_wr_h hp2 (by omega)) rfl fl4_9 ?_
      refine jr_aload_n_h hF dX4_addMaster_23 (q := 24) rfl rfl ?_
      refine jr_getI_h (ci := 4) (j := 0) hF 0 rfl dX4_addMaster_24 (q := 27) rfl (by first | rfl | exact L_pl_h hpl | exact L_rm_h hpl | exact L_kd_h hpl | exact L_lw_h hpl | exact L_wo_h hpl | exact L_wr_h hpl (by omega) | exact L_pl_h hp2 | exact L_rm_h hp2 | exact L_kd_h hp2 | exact L_lw_h hp2 | exact L_wo_h hp2 | exact L_wr_h hp2 (by omega)) rfl fl4_26 ?_
      rw [r1]
      refine jr_iload_n_h hF dX4_addMaster_27 (q := 28) rfl rfl ?_
      refine jr_iast_h hF dX4_addMaster_28 (q := 29) rfl (by first | rfl | exact L_pl_h hpl | exact L_rm_h hpl | exact L_kd_h hpl | exact L_lw_h hpl | exact L_wo_h hpl | exact L_wr_h hpl (by omega) | exact L_pl_h hp2 | exact L_rm_h hp2 | exact L_kd_h hp2 | exact L_lw_h hp2 | exact L_wo_h hp2 | exact L_wr_h hp2 (by omega)) (by omega) ?_
      refine jr_aload_n_h hF dX4_addMaster_29 (q := 30) rfl rfl ?_
      refine jr_dup_h hF dX4_addMaster_30 (q := 31) rfl rfl ?_
      refine jr_getI_h (ci := 4) (j := 0) hF 0 rfl dX4_addMaster_31 (q := 34) rfl (by first | rfl | exact L_pl_h hpl | exact L_rm_h hpl | exact L_kd_h hpl | exact L_lw_h hpl | exact L_wo_h hpl | exact L_wr_h hpl (by omega) | exact L_pl_h hp2 | exact L_rm_h hp2 | exact L_kd_h hp2 | exact L_lw_h hp2 | exact L_wo_h hp2 | exact L_wr_h hp2 (by omega)) rfl fl4_26 ?_
      rw [up_ne (show pl ≠ pl + 1 by omega), r1]
      refine jr_iconst_h hF dX4_addMaster_34 (q := 35) rfl (by decide) ?_
      refine jr_iadd_h hF dX4_addMaster_35 (q := 36) rfl (by omega) ?_
      refine jr_putI_h (ci := 4) (j := 0) hF 0 rfl dX4_addMaster_36 (q := 39) rfl (by first | rfl | exact L_pl_h hpl | exact L_rm_h hpl | exact L_kd_h hpl | exact L_lw_h hpl | exact L_wo_h hpl | exact L_wr_h hpl (by omega) | exact L_pl_h hp2 | exact L_rm_h hp2 | exact L_kd_h hp2 | exact L_lw_h hp2 | exact L_wo_h hp2 | exact L_wr_h hp2 (by omega)) rfl fp4_26 ?_
      refine jr_iconst_h hF dX4_addMaster_39 (q := 40) rfl (by decide) ?_
      refine jr_retZ_h hF hR dX4_addMaster_40 rfl (Or.inr rfl) ⟨fun k hk => by rw [up_ne (by omega), up_ne (by omega)], ?_⟩
      obtain ⟨⟨q1, q2, q3, q4, q5, q6, q7, q8⟩, q9⟩ := hC
      have e : t_m F c = some (f_nm F + 1, f_nl F, st1 (f_rm F) (f_nm F) c, f_kd F, f_wt F, f_lm F, f_ca F, f_sp F) := by unfold t_m; rw [if_pos (by omega)]
      rw [e]
      refine ⟨rfl, ⟨?_, ?_, fun m hm => ?_, fun i hi => ?_, fun i m hi hm => ?_, fun i hi => ?_, ?_, ?_⟩, fun i m hi hm hm3 => ?_⟩
      · first | (simp [up]; done) | (simp [up]; rfl)
      · rw [← q2]; simp [up]
      · rw [up_ne (by omega), up_nat]
        show _ = st1 (f_rm F) (f_nm F) c m
        unfold st1
        split
        · rfl
        · replace hm : m < f_nm F + 1 := hm
          exact q3 m (by omega)
      · rw [up_ne (by omega), up_ne (by omega)]; exact q4 i hi
      · rw [up_ne (by omega), up_ne (by omega)]
        replace hm : m < f_nm F + 1 := hm
        by_cases em : m = f_nm F
        · subst em
          show _ = f_wt F i (f_nm F)
          rw [hz i (f_nm F) (Or.inr (Nat.le_refl _))]
          exact q9 i _ hi (Nat.le_refl _) (by omega)
        · exact q5 i m hi (by omega)
      · rw [up_ne (by omega), up_ne (by omega)]; exact q6 i hi
      · rw [up_ne (by omega), up_ne (by omega)]; exact q7
      · rw [up_ne (by omega), up_ne (by omega)]; exact q8
      · rw [up_ne (by omega), up_ne (by omega)]
        replace hm : f_nm F + 1 ≤ m := hm
        exact q9 i m hi (by omega) hm3
    · refine jr_iconst_h hF dX4_addMaster_17 (q := 18) rfl (by decide) ?_
      have hc : ¬ (1 ≤ c ∧ c ≤ 3) := fun h => by rw [if_pos h] at h2; omega
      refine jr_retZ_h hF hR dX4_addMaster_18 rfl (by first | exact Or.inl rfl | exact Or.inr rfl | omega) ⟨fun _ _ => rfl, by unfold t_m; rw [if_neg (by omega)]⟩
set_option maxRecDepth 100000 in
theorem c_addLad_h (σ : Sg) (pl : Nat) (hpl : pl = 4 ∨ pl = 14) (F : FD) (hC : RdC σ pl F) (hz : FZ F) (ok : okF F) (l k : Int) : RI_h mX4_addLad 2 [vR pl, vI l, vI k] σ (fun z σ' => told σ pl (t_l F l k) z σ') := by
  have h3 := ok.1
  have h5 := ok.2.1
  have r1 := hC.1.2.1
  refine mkRun_h (by decide +kernel) (Nat.le_of_ble_eq_true rfl) (fun X hF hR => ?_)
  refine jr_aload_n_h hF dX4_addLad_0 (q := 1) rfl rfl ?_
  refine jr_getI_h (ci := 4) (j := 1) hF 1 rfl dX4_addLad_1 (q := 4) rfl (by first | rfl | exact L_pl_h hpl | exact L_rm_h hpl | exact L_kd_h hpl | exact L_lw_h hpl | exact L_wo_h hpl | exact L_wr_h hpl (by omega) | exact L_pl_h hp2 | exact L_rm_h hp2 | exact L_kd_h hp2 | exact L_lw_h hp2 | exact L_wo_h hp2 | exact L_wr_h hp2 (by omega)) rfl fl4_30 ?_
  refine jr_iconst_h hF dX4_addLad_4 (q := 5) rfl (by decide) ?_
  refine jr_icmp_ge_h hF dX4_addLad_5 (q := 8) rfl 27 (by decide) (fun h1 => ?_) (fun h1 => ?_)
  · refine jr_iconst_h hF dX4_addLad_27 (q := 28) rfl (by decide) ?_
    refine jr_retZ_h hF hR dX4_addLad_28 rfl (by first | exact Or.inl rfl | exact Or.inr rfl | omega) ⟨fun _ _ => rfl, by unfold t_l; rw [if_neg (by omega)]⟩
  · refine jr_iload_n_h hF dX4_addLad_8 (q := 9) rfl rfl ?_
    refine jr_iconst_h hF dX4_addLad_9 (q := 10) rfl (by decide) ?_
    refine jr_bipush_h hF dX4_addLad_10 (q := 12) rfl (by decide) (by decide +kernel) ?_
    refine jr_cN3I_h hF (c_isWithin_h σ l 1 10) dX4_addLad_12 (q := 15) rfl rfl rfl vX9_isWithin kX9_isWithin (by decide) (Nat.le_of_ble_eq_true rfl) (fun z σ1 hz1 => ?_)
    obtain ⟨rfl, rfl⟩ := hz1
    refine jr_if_eq_h hF dX4_addLad_15 (q := 18) rfl 27 (by decide) (fun h2 => ?_) (fun h2 => ?_)
    · have hc : ¬ (1 ≤ l ∧ l ≤ 10) := fun h => by rw [if_pos h] at h2; omega
      refine jr_iconst_h hF dX4_addLad_27 (q := 28) rfl (by decide) ?_
      refine jr_retZ_h hF hR dX4_addLad_28 rfl (by first | exact Or.inl rfl | exact Or.inr rfl | omega) ⟨fun _ _ => rfl, by unfold t_l; rw [if_neg (by omega)]⟩
    · have hc : 1 ≤ l ∧ l ≤ 10 := Classical.byContradiction fun h => h2 (by rw [if_neg h])
      refine jr_iload_n_h hF dX4_addLad_18 (q := 19) rfl rfl ?_
      refine jr_iconst_h hF dX4_addLad_19 (q := 20) rfl (by decide) ?_
      refine jr_iconst_h hF dX4_addLad_20 (q := 21) rfl (by decide) ?_
      refine jr_cN3I_h hF (c_isWithin_h σ k 0 3) dX4_addLad_21 (q := 24) rfl rfl rfl vX9_isWithin kX9_isWithin (by decide) (Nat.le_of_ble_eq_true rfl) (fun z σ1 hz1 => ?_)
      obtain ⟨rfl, rfl⟩ := hz1
      refine jr_if_ne_h hF dX4_addLad_24 (q := 27) rfl 29 (by decide) (fun h4 => ?_) (fun h4 => ?_)
      · have hd : 0 ≤ k ∧ k ≤ 3 := Classical.byContradiction fun h => h4 (by rw [if_neg h])
        refine jr_aload_n_h hF dX4_addLad_29 (q := 30) rfl rfl ?_
        refine jr_getR_h (ci := 4) (j := 5) hF dX4_addLad_30 (q := 33) rfl (by first | rfl | exact L_pl_h hpl | exact L_rm_h hpl | exact L_kd_h hpl | exact L_lw_h hpl | exact L_wo_h hpl | exact L_wr_h hpl (by omega) | exact L_pl_h hp2 | exact L_rm_h hp2 | exact L_kd_h hp2 | exact L_lw_h hp2 | exact L_wo_h hp2 | exact L_wr_h hp2 (by omega)) rfl fl4_23 ?_
        refine jr_aload_n_h hF dX4_addLad_33 (q := 34) rfl rfl ?_
        refine jr_getI_h (ci := 4) (j := 1) hF 1 rfl dX4_addLad_34 (q := 37) rfl (by first | rfl | exact L_pl_h hpl | exact L_rm_h hpl | exact L_kd_h hpl | exact L_lw_h hpl | exact L_wo_h hpl | exact L_wr_h hpl (by omega) | exact L_pl_h hp2 | exact L_rm_h hp2 | exact L_kd_h hp2 | exact L_lw_h hp2 | exact L_wo_h hp2 | exact L_wr_h hp2 (by omega)) rfl fl4_30 ?_
        rw [r1]
        refine jr_iload_n_h hF dX4_addLad_37 (q := 38) rfl rfl ?_
        refine jr_iast_h hF dX4_addLad_38 (q := 39) rfl (by first | rfl | exact L_pl_h hpl | exact L_rm_h hpl | exact L_kd_h hpl | exact L_lw_h hpl | exact L_wo_h hpl | exact L_wr_h hpl (by omega) | exact L_pl_h hp2 | exact L_rm_h hp2 | exact L_kd_h hp2 | exact L_lw_h hp2 | exact L_wo_h hp2 | exact L_wr_h hp2 (by omega)) (by omega) ?_
        refine jr_aload_n_h hF dX4_addLad_39 (q := 40) rfl rfl ?_
        refine jr_getR_h (ci := 4) (j := 3) hF dX4_addLad_40 (q := 43) rfl (by first | rfl | exact L_pl_h hpl | exact L_rm_h hpl | exact L_kd_h hpl | exact L_lw_h hpl | exact L_wo_h hpl | exact L_wr_h hpl (by omega) | exact L_pl_h hp2 | exact L_rm_h hp2 | exact L_kd_h hp2 | exact L_lw_h hp2 | exact L_wo_h hp2 | exact L_wr_h hp2 (by omega)) rfl fl4_15 ?_
        refine jr_aload_n_h hF dX4_addLad_43 (q := 44) rfl rfl ?_
        refine jr_getI_h (ci := 4) (j := 1) hF 1 rfl dX4_addLad_44 (q := 47) rfl (by first | rfl | exact L_pl_h hpl | exact L_rm_h hpl | exact L_kd_h hpl | exact L_lw_h hpl | exact L_wo_h hpl | exact L_wr_h hpl (by omega) | exact L_pl_h hp2 | exact L_rm_h hp2 | exact L_kd_h hp2 | exact L_lw_h hp2 | exact L_wo_h hp2 | exact L_wr_h hp2 (by omega)) rfl fl4_30 ?_
        rw [up_ne (show pl ≠ pl + 9 by omega), r1]
        refine jr_iload_n_h hF dX4_addLad_47 (q := 48) rfl rfl ?_
        refine jr_iast_h hF dX4_addLad_48 (q := 49) rfl (by first | rfl | exact L_pl_h hpl | exact L_rm_h hpl | exact L_kd_h hpl | exact L_lw_h hpl | exact L_wo_h hpl | exact L_wr_h hpl (by omega) | exact L_pl_h hp2 | exact L_rm_h hp2 | exact L_kd_h hp2 | exact L_lw_h hp2 | exact L_wo_h hp2 | exact L_wr_h hp2 (by omega)) (by omega) ?_
        refine jr_aload_n_h hF dX4_addLad_49 (q := 50) rfl rfl ?_
        refine jr_getR_h (ci := 4) (j := 4) hF dX4_addLad_50 (q := 53) rfl (by first | rfl | exact L_pl_h hpl | exact L_rm_h hpl | exact L_kd_h hpl | exact L_lw_h hpl | exact L_wo_h hpl | exact L_wr_h hpl (by omega) | exact L_pl_h hp2 | exact L_rm_h hp2 | exact L_kd_h hp2 | exact L_lw_h hp2 | exact L_wo_h hp2 | exact L_wr_h hp2 (by omega)) rfl fl4_20 ?_
        refine jr_aload_n_h hF dX4_addLad_53 (q := 54) rfl rfl ?_
        refine jr_getI_h (ci := 4) (j := 1) hF 1 rfl dX4_addLad_54 (q := 57) rfl (by first | rfl | exact L_pl_h hpl | exact L_rm_h hpl | exact L_kd_h hpl | exact L_lw_h hpl | exact L_wo_h hpl | exact L_wr_h hpl (by omega) | exact L_pl_h hp2 | exact L_rm_h hp2 | exact L_kd_h hp2 | exact L_lw_h hp2 | exact L_wo_h hp2 | exact L_wr_h hp2 (by omega)) rfl fl4_30 ?_
        rw [up_ne (show pl ≠ pl + 2 by omega), up_ne (show pl ≠ pl + 9 by omega), r1]
        refine jr_aald_h hF dX4_addLad_57 (q := 58) rfl (by first | rfl | exact L_pl_h hpl | exact L_rm_h hpl | exact L_kd_h hpl | exact L_lw_h hpl | exact L_wo_h hpl | exact L_wr_h hpl (by omega) | exact L_pl_h hp2 | exact L_rm_h hp2 | exact L_kd_h hp2 | exact L_lw_h hp2 | exact L_wo_h hp2 | exact L_wr_h hp2 (by omega)) (by omega) ?_
        rw [tn]
        refine jr_iconst_h hF dX4_addLad_58 (q := 59) rfl (by decide) ?_
        refine jr_cS2V_h hF (c_fill_h _ (pl + 4 + f_nl F) 3 0 [] (L_wr_h hpl (by omega)) (by decide) 0) dX4_addLad_59 (q := 62) rfl lk4_43 vJ7_fill_53178 kJ7_fill_53178 (by decide) (Nat.le_of_ble_eq_true rfl) (fun σ1 hz1 => ?_)
        have g1 : ∀ c, c ≠ pl + 4 + f_nl F → c ≠ pl + 2 → c ≠ pl + 9 → σ1 c = σ c := fun c a1 a2 a3 => by rw [← hz1, uc_ne a1, up_ne a2, up_ne a3]
        have g2 : ∀ j : Nat, σ1 (pl + 2) (j : Int) = if j = f_nl F then k else σ (pl + 2) (j : Int) := fun j => by rw [← hz1, uc_ne (by omega), up_nat, up_ne (by omega)]
        have g3 : ∀ j : Nat, σ1 (pl + 9) (j : Int) = if j = f_nl F then l else σ (pl + 9) (j : Int) := fun j => by rw [← hz1, uc_ne (by omega), up_ne (by omega), up_nat]
        have g4 : ∀ m : Nat, m < 3 → σ1 (pl + 4 + f_nl F) (m : Int) = 0 := fun m hm => by rw [← hz1, uc_eq, if_pos (by omega)]
        have r1' : σ1 pl 1 = (f_nl F : Int) := by rw [g1 pl (by omega) (by omega) (by omega)]; exact r1
        clear hz1
        refine jr_aload_n_h hF dX4_addLad_62 (q := 63) rfl rfl ?_
        refine jr_dup_h hF dX4_addLad_63 (q := 64) rfl rfl ?_
        refine jr_getI_h (ci := 4) (j := 1) hF 1 rfl dX4_addLad_64 (q := 67) rfl (by first | rfl | exact L_pl_h hpl | exact L_rm_h hpl | exact L_kd_h hpl | exact L_lw_h hpl | exact L_wo_h hpl | exact L_wr_h hpl (by omega) | exact L_pl_h hp2 | exact L_rm_h hp2 | exact L_kd_h hp2 | exact L_lw_h hp2 | exact L_wo_h hp2 | exact L_wr_h hp2 (by omega)) rfl fl4_30 ?_
        rw [r1']
        refine jr_iconst_h hF dX4_addLad_67 (q := 68) rfl (by decide) ?_
        refine jr_iadd_h hF dX4_addLad_68 (q := 69) rfl (by omega) ?_
        refine jr_putI_h (ci := 4) (j := 1) hF 1 rfl dX4_addLad_69 (q := 72) rfl (by first | rfl | exact L_pl_h hpl | exact L_rm_h hpl | exact L_kd_h hpl | exact L_lw_h hpl | exact L_wo_h hpl | exact L_wr_h hpl (by omega) | exact L_pl_h hp2 | exact L_rm_h hp2 | exact L_kd_h hp2 | exact L_lw_h hp2 | exact L_wo_h hp2 | exact L_wr_h hp2 (by omega)) rfl fp4_30 ?_
        refine jr_iconst_h hF dX4_addLad_72 (q := 73) rfl (by decide) ?_
        refine jr_retZ_h hF hR dX4_addLad_73 rfl (Or.inr rfl) ⟨fun k hk => by rw [up_ne (by omega)]; exact g1 k (by omega) (by omega) (by omega), ?_⟩
        obtain ⟨⟨q1, q2, q3, q4, q5, q6, q7, q8⟩, q9⟩ := hC
        have e : t_l F l k = some (f_nm F, f_nl F + 1, f_rm F, st1 (f_kd F) (f_nl F) k, f_wt F, st1 (f_lm F) (f_nl F) l, f_ca F, f_sp F) := by unfold t_l; rw [if_pos (by omega)]
        rw [e]
        refine ⟨rfl, ⟨?_, ?_, fun m hm => ?_, fun i hi => ?_, fun i m hi hm => ?_, fun i hi => ?_, ?_, ?_⟩, fun i m hi hm hm3 => ?_⟩
        · rw [← q1, ← g1 pl (by omega) (by omega) (by omega)]; simp [up]
        · first | (simp [up]; done) | (simp [up]; rfl)
        · rw [up_ne (by omega), g1 _ (by omega) (by omega) (by omega)]; exact q3 m hm
        · rw [up_ne (by omega), g2]
          show _ = st1 (f_kd F) (f_nl F) k i
          unfold st1
          split
          · rfl
          · replace hi : i < f_nl F + 1 := hi
            exact q4 i (by omega)
        · rw [up_ne (by omega)]
          replace hi : i < f_nl F + 1 := hi
          replace hm : m < f_nm F := hm
          by_cases ei : i = f_nl F
          · subst ei
            show _ = f_wt F (f_nl F) m
            rw [hz _ m (Or.inl (Nat.le_refl _))]
            exact g4 m (by omega)
          · rw [g1 _ (by omega) (by omega) (by omega)]
            exact q5 i m (by omega) hm
        · rw [up_ne (by omega), g3]
          show _ = st1 (f_lm F) (f_nl F) l i
          unfold st1
          split
          · rfl
          · replace hi : i < f_nl F + 1 := hi
            exact q6 i (by omega)
        · rw [up_ne (by omega)]
          have := g3 5
          rw [if_neg (by omega)] at this
          exact this.trans q7
        · rw [up_ne (by omega)]
          have := g3 6
          rw [if_neg (by omega)] at this
          exact this.trans q8
        · rw [up_ne (by omega)]
          replace hi : i < f_nl F + 1 := hi
          replace hm : f_nm F ≤ m := hm
          by_cases ei : i = f_nl F
          · subst ei
            exact g4 m hm3
          · rw [g1 _ (by omega) (by omega) (by omega)]
            exact q9 i m (by omega) hm hm3
      · have hd : ¬ (0 ≤ k ∧ k ≤ 3) := fun h => by rw [if_pos h] at h4; omega
        refine jr_iconst_h hF dX4_addLad_27 (q := 28) rfl (by decide) ?_
        refine jr_retZ_h hF hR dX4_addLad_28 rfl (by first | exact Or.inl rfl | exact Or.inr rfl | omega) ⟨fun _ _ => rfl, by unfold t_l; rw [if_neg (by omega)]⟩
set_option maxRecDepth 100000 in
theorem c_addWant_h (σ : Sg) (pl : Nat) (hpl : pl = 4 ∨ pl = 14) (F : FD) (hC : RdC σ pl F) (ok : okF F) (i m w : Int) : RI_h mX4_addWant 2 [vR pl, vI i, vI m, vI w] σ (fun z σ' => told σ pl (t_w F i m w) z σ') := by
  have h3 := ok.1
  have h5 := ok.2.1
  have r1 := hC.1.1
  have r2 := hC.1.2.1
  refine mkRun_h (by decide +kernel) (Nat.le_of_ble_eq_true rfl) (fun X hF hR => ?_)
  refine jr_aload_n_h hF dX4_addWant_0 (q := 1) rfl rfl ?_
  refine jr_iload_n_h hF dX4_addWant_1 (q := 2) rfl rfl ?_
  refine jr_cV1I_h hF (c_hasLad_h σ pl hpl i) dX4_addWant_2 (q := 5) rfl lk4_49 vX4_hasLad kX4_hasLad (by first | rfl | exact L_pl_h hpl | exact L_rm_h hpl | exact L_kd_h hpl | exact L_lw_h hpl | exact L_wo_h hpl | exact L_wr_h hpl (by omega) | exact L_pl_h hp2 | exact L_rm_h hp2 | exact L_kd_h hp2 | exact L_lw_h hp2 | exact L_wo_h hp2 | exact L_wr_h hp2 (by omega)) rfl rfl (by decide) (Nat.le_of_ble_eq_true rfl) (fun z σ1 hz => ?_)
  obtain ⟨rfl, rfl⟩ := hz
  refine jr_if_eq_h hF dX4_addWant_5 (q := 8) rfl 26 (by decide) (fun a1 => ?_) (fun a1 => ?_)
  · have b1 : ¬ (0 ≤ i ∧ i < σ pl 1) := fun h => by rw [if_pos h] at a1; omega
    refine jr_iconst_h hF dX4_addWant_26 (q := 27) rfl (by decide) ?_
    refine jr_retZ_h hF hR dX4_addWant_27 rfl (by first | exact Or.inl rfl | exact Or.inr rfl | omega) ⟨fun _ _ => rfl, by unfold t_w; rw [if_neg (by omega)]⟩
  · have b1 : 0 ≤ i ∧ i < σ pl 1 := Classical.byContradiction fun h => a1 (by rw [if_neg h])
    refine jr_aload_n_h hF dX4_addWant_8 (q := 9) rfl rfl ?_
    refine jr_iload_n_h hF dX4_addWant_9 (q := 10) rfl rfl ?_
    refine jr_cV1I_h hF (c_hasMaster_h σ pl hpl m) dX4_addWant_10 (q := 13) rfl lk4_53 vX4_hasMaster kX4_hasMaster (by first | rfl | exact L_pl_h hpl | exact L_rm_h hpl | exact L_kd_h hpl | exact L_lw_h hpl | exact L_wo_h hpl | exact L_wr_h hpl (by omega) | exact L_pl_h hp2 | exact L_rm_h hp2 | exact L_kd_h hp2 | exact L_lw_h hp2 | exact L_wo_h hp2 | exact L_wr_h hp2 (by omega)) rfl rfl (by decide) (Nat.le_of_ble_eq_true rfl) (fun z σ1 hz => ?_)
    obtain ⟨rfl, rfl⟩ := hz
    refine jr_if_eq_h hF dX4_addWant_13 (q := 16) rfl 26 (by decide) (fun a2 => ?_) (fun a2 => ?_)
    · have b2 : ¬ (0 ≤ m ∧ m < σ pl 0) := fun h => by rw [if_pos h] at a2; omega
      refine jr_iconst_h hF dX4_addWant_26 (q := 27) rfl (by decide) ?_
      refine jr_retZ_h hF hR dX4_addWant_27 rfl (by first | exact Or.inl rfl | exact Or.inr rfl | omega) ⟨fun _ _ => rfl, by unfold t_w; rw [if_neg (by omega)]⟩
    · have b2 : 0 ≤ m ∧ m < σ pl 0 := Classical.byContradiction fun h => a2 (by rw [if_neg h])
      refine jr_iload_n_h hF dX4_addWant_16 (q := 17) rfl rfl ?_
      refine jr_iconst_h hF dX4_addWant_17 (q := 18) rfl (by decide) ?_
      refine jr_bipush_h hF dX4_addWant_18 (q := 20) rfl (by decide) (by decide +kernel) ?_
      refine jr_cN3I_h hF (c_isWithin_h σ w 0 10) dX4_addWant_20 (q := 23) rfl rfl rfl vX9_isWithin kX9_isWithin (by decide) (Nat.le_of_ble_eq_true rfl) (fun z σ1 hz => ?_)
      obtain ⟨rfl, rfl⟩ := hz
      refine jr_if_ne_h hF dX4_addWant_23 (q := 26) rfl 28 (by decide) (fun a3 => ?_) (fun a3 => ?_)
      · have b3 : 0 ≤ w ∧ w ≤ 10 := Classical.byContradiction fun h => a3 (by rw [if_neg h])
        obtain ⟨i', rfl⟩ : ∃ i' : Nat, i = (i' : Int) := ⟨i.toNat, by omega⟩
        obtain ⟨m', rfl⟩ : ∃ m' : Nat, m = (m' : Int) := ⟨m.toNat, by omega⟩
        refine jr_aload_n_h hF dX4_addWant_28 (q := 29) rfl rfl ?_
        refine jr_getR_h (ci := 4) (j := 4) hF dX4_addWant_29 (q := 32) rfl (by first | rfl | exact L_pl_h hpl | exact L_rm_h hpl | exact L_kd_h hpl | exact L_lw_h hpl | exact L_wo_h hpl | exact L_wr_h hpl (by omega) | exact L_pl_h hp2 | exact L_rm_h hp2 | exact L_kd_h hp2 | exact L_lw_h hp2 | exact L_wo_h hp2 | exact L_wr_h hp2 (by omega)) rfl fl4_20 ?_
        refine jr_iload_n_h hF dX4_addWant_32 (q := 33) rfl rfl ?_
        refine jr_aald_h hF dX4_addWant_33 (q := 34) rfl (by first | rfl | exact L_pl_h hpl | exact L_rm_h hpl | exact L_kd_h hpl | exact L_lw_h hpl | exact L_wo_h hpl | exact L_wr_h hpl (by omega) | exact L_pl_h hp2 | exact L_rm_h hp2 | exact L_kd_h hp2 | exact L_lw_h hp2 | exact L_wo_h hp2 | exact L_wr_h hp2 (by omega)) (by omega) ?_
        rw [tn]
        refine jr_iload_n_h hF dX4_addWant_34 (q := 35) rfl rfl ?_
        refine jr_iload_n_h hF dX4_addWant_35 (q := 36) rfl rfl ?_
        refine jr_iast_h hF dX4_addWant_36 (q := 37) rfl (by first | rfl | exact L_pl_h hpl | exact L_rm_h hpl | exact L_kd_h hpl | exact L_lw_h hpl | exact L_wo_h hpl | exact L_wr_h hpl (by omega) | exact L_pl_h hp2 | exact L_rm_h hp2 | exact L_kd_h hp2 | exact L_lw_h hp2 | exact L_wo_h hp2 | exact L_wr_h hp2 (by omega)) (by omega) ?_
        refine jr_iconst_h hF dX4_addWant_37 (q := 38) rfl (by decide) ?_
        refine jr_retZ_h hF hR dX4_addWant_38 rfl (Or.inr rfl) ⟨fun k hk => by rw [up_ne (by omega)], ?_⟩
        obtain ⟨⟨q1, q2, q3, q4, q5, q6, q7, q8⟩, q9⟩ := hC
        have e : t_w F (i' : Int) (m' : Int) w = some (f_nm F, f_nl F, f_rm F, f_kd F, st2 (f_wt F) i' m' w, f_lm F, f_ca F, f_sp F) := by unfold t_w; rw [if_pos (by omega)]; rfl
        rw [e]
        refine ⟨rfl, ⟨?_, ?_, fun m hm => ?_, fun i hi => ?_, fun i m hi hm => ?_, fun i hi => ?_, ?_, ?_⟩, fun i m hi hm hm3 => ?_⟩
        · rw [up_ne (by omega)]; exact q1
        · rw [up_ne (by omega)]; exact q2
        · rw [up_ne (by omega)]; exact q3 m hm
        · rw [up_ne (by omega)]; exact q4 i hi
        · replace hi : i < f_nl F := hi
          replace hm : m < f_nm F := hm
          show _ = st2 (f_wt F) i' m' w i m
          unfold st2
          by_cases ei : i = i'
          · subst ei
            rw [up_nat]
            by_cases em : m = m'
            · rw [if_pos em, if_pos ⟨rfl, em⟩]
            · rw [if_neg em, if_neg (fun h => em h.2)]
              exact q5 i m hi hm
          · rw [up_ne (by omega), if_neg (fun h => ei h.1)]
            exact q5 i m hi hm
        · rw [up_ne (by omega)]; exact q6 i hi
        · rw [up_ne (by omega)]; exact q7
        · rw [up_ne (by omega)]; exact q8
        · replace hi : i < f_nl F := hi
          replace hm : f_nm F ≤ m := hm
          by_cases ei : i = i'
          · subst ei
            rw [up_nat, if_neg (by omega)]
            exact q9 i m hi hm hm3
          · rw [up_ne (by omega)]
            exact q9 i m hi hm hm3
      · have b3 : ¬ (0 ≤ w ∧ w ≤ 10) := fun h => by rw [if_pos h] at a3; omega
        refine jr_iconst_h hF dX4_addWant_26 (q := 27) rfl (by decide) ?_
        refine jr_retZ_h hF hR dX4_addWant_27 rfl (by first | exact Or.inl rfl | exact Or.inr rfl | omega) ⟨fun _ _ => rfl, by unfold t_w; rw [if_neg (by omega)]⟩
