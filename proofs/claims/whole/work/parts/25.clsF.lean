/-! ===== Plan: cleared, copied, told ===== -/
def FZ (F : FD) : Prop := ∀ i m : Nat, f_nl F ≤ i ∨ f_nm F ≤ m → f_wt F i m = 0
def RdC (σ : Sg) (pl : Nat) (F : FD) : Prop := RepC σ pl F ∧ ∀ i m : Nat, i < f_nl F → f_nm F ≤ m → m < 3 → σ (pl + 4 + i) (m : Int) = 0
def F00 : FD := (0, 0, fun _ => 0, fun _ => 0, fun _ _ => 0, fun _ => 0, 0, 1)
theorem okF_00 : okF F00 := ⟨by decide, by decide, fun m h => absurd h (Nat.not_lt_zero m), fun m h => absurd h (Nat.not_lt_zero m), fun i m h => absurd h (Nat.not_lt_zero i), fun m h => absurd h (Nat.not_lt_zero m), by decide, by decide⟩
theorem FZ_00 : FZ F00 := fun _ _ _ => rfl
/-- a master, a lad, a want, calls, a step told; none if it is not so -/
def t_m (F : FD) (c : Int) : Option FD := if f_nm F < 3 ∧ 1 ≤ c ∧ c ≤ 3 then some (f_nm F + 1, f_nl F, st1 (f_rm F) (f_nm F) c, f_kd F, f_wt F, f_lm F, f_ca F, f_sp F) else none
def t_l (F : FD) (l k : Int) : Option FD := if f_nl F < 5 ∧ 1 ≤ l ∧ l ≤ 10 ∧ 0 ≤ k ∧ k ≤ 3 then some (f_nm F, f_nl F + 1, f_rm F, st1 (f_kd F) (f_nl F) k, f_wt F, st1 (f_lm F) (f_nl F) l, f_ca F, f_sp F) else none
def st2 (f : Nat → Nat → Int) (a b : Nat) (v : Int) : Nat → Nat → Int := fun i j => if i = a ∧ j = b then v else f i j
def t_w (F : FD) (i m w : Int) : Option FD := if 0 ≤ i ∧ i < f_nl F ∧ 0 ≤ m ∧ m < f_nm F ∧ 0 ≤ w ∧ w ≤ 10 then some (f_nm F, f_nl F, f_rm F, f_kd F, st2 (f_wt F) i.toNat m.toNat w, f_lm F, f_ca F, f_sp F) else none
def t_c (F : FD) (k : Int) : Option FD := if 0 ≤ k ∧ k ≤ 2 then some (f_nm F, f_nl F, f_rm F, f_kd F, f_wt F, f_lm F, k, f_sp F) else none
def t_s (F : FD) (s : Int) : Option FD := if 1 ≤ s ∧ s ≤ 3 then some (f_nm F, f_nl F, f_rm F, f_kd F, f_wt F, f_lm F, f_ca F, s) else none
/-- what is told comes to z (0: refused, nothing changed) and to a plan -/
def told (σ : Sg) (pl : Nat) (o : Option FD) (z : Int) (σ' : Sg) : Prop := (∀ k, k < pl ∨ pl + 9 < k → σ' k = σ k) ∧ match o with
  | none => z = 0
  | some F => z = 1 ∧ RdC σ' pl F
set_option maxRecDepth 100000 in
theorem c_clear (σ : Sg) (pl : Nat) (hpl : pl = 4 ∨ pl = 14) : RV mX4_clear 1 [vR pl] σ (fun σ' => RdC σ' pl F00 ∧ ∀ k, k < pl ∨ pl + 9 < k → σ' k = σ k) := by
  refine mkRun (by decide +kernel) (Nat.le_of_ble_eq_true rfl) (fun X hF hR => ?_)
  refine jr_aload_n hF dX4_clear_0 (q := 1) rfl rfl ?_
  refine jr_iconst hF dX4_clear_1 (q := 2) rfl (by decide) ?_
  refine jr_putI (ci := 4) (j := 0) hF 0 rfl dX4_clear_2 (q := 5) rfl (by first | rfl | exact L_pl hpl | exact L_rm hpl | exact L_kd hpl | exact L_lw hpl | exact L_wo hpl | exact L_wr hpl (by omega) | exact L_pl hp2 | exact L_rm hp2 | exact L_kd hp2 | exact L_lw hp2 | exact L_wo hp2 | exact L_wr hp2 (by omega)) rfl fp4_26 ?_
  refine jr_aload_n hF dX4_clear_5 (q := 6) rfl rfl ?_
  refine jr_iconst hF dX4_clear_6 (q := 7) rfl (by decide) ?_
  refine jr_putI (ci := 4) (j := 1) hF 1 rfl dX4_clear_7 (q := 10) rfl (by first | rfl | exact L_pl hpl | exact L_rm hpl | exact L_kd hpl | exact L_lw hpl | exact L_wo hpl | exact L_wr hpl (by omega) | exact L_pl hp2 | exact L_rm hp2 | exact L_kd hp2 | exact L_lw hp2 | exact L_wo hp2 | exact L_wr hp2 (by omega)) rfl fp4_30 ?_
  refine jr_aload_n hF dX4_clear_10 (q := 11) rfl rfl ?_
  refine jr_getR (ci := 4) (j := 5) hF dX4_clear_11 (q := 14) rfl (by first | rfl | exact L_pl hpl | exact L_rm hpl | exact L_kd hpl | exact L_lw hpl | exact L_wo hpl | exact L_wr hpl (by omega) | exact L_pl hp2 | exact L_rm hp2 | exact L_kd hp2 | exact L_lw hp2 | exact L_wo hp2 | exact L_wr hp2 (by omega)) rfl fl4_23 ?_
  refine jr_iconst hF dX4_clear_14 (q := 15) rfl (by decide) ?_
  refine jr_iconst hF dX4_clear_15 (q := 16) rfl (by decide) ?_
  refine jr_iast hF dX4_clear_16 (q := 17) rfl (by first | rfl | exact L_pl hpl | exact L_rm hpl | exact L_kd hpl | exact L_lw hpl | exact L_wo hpl | exact L_wr hpl (by omega) | exact L_pl hp2 | exact L_rm hp2 | exact L_kd hp2 | exact L_lw hp2 | exact L_wo hp2 | exact L_wr hp2 (by omega)) (by omega) ?_
  refine jr_aload_n hF dX4_clear_17 (q := 18) rfl rfl ?_
  refine jr_getR (ci := 4) (j := 5) hF dX4_clear_18 (q := 21) rfl (by first | rfl | exact L_pl hpl | exact L_rm hpl | exact L_kd hpl | exact L_lw hpl | exact L_wo hpl | exact L_wr hpl (by omega) | exact L_pl hp2 | exact L_rm hp2 | exact L_kd hp2 | exact L_lw hp2 | exact L_wo hp2 | exact L_wr hp2 (by omega)) rfl fl4_23 ?_
  refine jr_bipush hF dX4_clear_21 (q := 23) rfl (by decide) (by decide +kernel) ?_
  refine jr_iconst hF dX4_clear_23 (q := 24) rfl (by decide) ?_
  refine jr_iast hF dX4_clear_24 (q := 25) rfl (by first | rfl | exact L_pl hpl | exact L_rm hpl | exact L_kd hpl | exact L_lw hpl | exact L_wo hpl | exact L_wr hpl (by omega) | exact L_pl hp2 | exact L_rm hp2 | exact L_kd hp2 | exact L_lw hp2 | exact L_wo hp2 | exact L_wr hp2 (by omega)) (by omega) ?_
  refine jr_retV hF hR dX4_clear_25 rfl ⟨⟨⟨?_, ?_, ?_, ?_, ?_, ?_, ?_, ?_⟩, ?_⟩, fun k hk => ?_⟩
  · rw [up_ne (by omega), up_ne (by omega)]; simp [up, F00]
  · rw [up_ne (by omega), up_ne (by omega)]; simp [up, F00]
  · exact fun m h => absurd h (Nat.not_lt_zero m)
  · exact fun m h => absurd h (Nat.not_lt_zero m)
  · exact fun i m h => absurd h (Nat.not_lt_zero i)
  · exact fun m h => absurd h (Nat.not_lt_zero m)
  · simp [up, F00]
  · simp [up, F00]
  · exact fun i m h => absurd h (Nat.not_lt_zero i)
  · rw [up_ne (by omega), up_ne (by omega), up_ne (by omega), up_ne (by omega)]
set_option maxRecDepth 100000 in
theorem c_addMaster (σ : Sg) (pl : Nat) (hpl : pl = 4 ∨ pl = 14) (F : FD) (hC : RdC σ pl F) (hz : FZ F) (ok : okF F) (c : Int) : RI mX4_addMaster 2 [vR pl, vI c] σ (fun z σ' => told σ pl (t_m F c) z σ') := by
  have h3 := ok.1
  have h5 := ok.2.1
  have r1 := hC.1.1
  refine mkRun (by decide +kernel) (Nat.le_of_ble_eq_true rfl) (fun X hF hR => ?_)
  refine jr_aload_n hF dX4_addMaster_0 (q := 1) rfl rfl ?_
  refine jr_getI (ci := 4) (j := 0) hF 0 rfl dX4_addMaster_1 (q := 4) rfl (by first | rfl | exact L_pl hpl | exact L_rm hpl | exact L_kd hpl | exact L_lw hpl | exact L_wo hpl | exact L_wr hpl (by omega) | exact L_pl hp2 | exact L_rm hp2 | exact L_kd hp2 | exact L_lw hp2 | exact L_wo hp2 | exact L_wr hp2 (by omega)) rfl fl4_26 ?_
  refine jr_iconst hF dX4_addMaster_4 (q := 5) rfl (by decide) ?_
  refine jr_icmp_ge hF dX4_addMaster_5 (q := 8) rfl 17 (by decide) (fun h1 => ?_) (fun h1 => ?_)
  · refine jr_iconst hF dX4_addMaster_17 (q := 18) rfl (by decide) ?_
    refine jr_retZ hF hR dX4_addMaster_18 rfl (by first | exact Or.inl rfl | exact Or.inr rfl | omega) ⟨fun _ _ => rfl, by unfold t_m; rw [if_neg (by omega)]⟩
  · refine jr_iload_n hF dX4_addMaster_8 (q := 9) rfl rfl ?_
    refine jr_iconst hF dX4_addMaster_9 (q := 10) rfl (by decide) ?_
    refine jr_iconst hF dX4_addMaster_10 (q := 11) rfl (by decide) ?_
    refine jr_cN3I hF (c_isWithin σ c 1 3) dX4_addMaster_11 (q := 14) rfl rfl rfl vX9_isWithin kX9_isWithin (by decide) (Nat.le_of_ble_eq_true rfl) (fun z σ1 hz1 => ?_)
    obtain ⟨rfl, rfl⟩ := hz1
    refine jr_if_ne hF dX4_addMaster_14 (q := 17) rfl 19 (by decide) (fun h2 => ?_) (fun h2 => ?_)
    · have hc : 1 ≤ c ∧ c ≤ 3 := Classical.byContradiction fun h => h2 (by rw [if_neg h])
      refine jr_aload_n hF dX4_addMaster_19 (q := 20) rfl rfl ?_
      refine jr_getR (ci := 4) (j := 2) hF dX4_addMaster_20 (q := 23) rfl (by first | rfl | exact L_pl hpl | exact L_rm hpl | exact L_kd hpl | exact L_lw hpl | exact L_wo hpl | exact L_wr hpl (by omega) | exact L_pl hp2 | exact L_rm hp2 | exact L_kd hp2 | exact L_lw hp2 | exact L_wo hp2 | exact L_wr hp2 (by omega)) rfl fl4_9 ?_
      refine jr_aload_n hF dX4_addMaster_23 (q := 24) rfl rfl ?_
      refine jr_getI (ci := 4) (j := 0) hF 0 rfl dX4_addMaster_24 (q := 27) rfl (by first | rfl | exact L_pl hpl | exact L_rm hpl | exact L_kd hpl | exact L_lw hpl | exact L_wo hpl | exact L_wr hpl (by omega) | exact L_pl hp2 | exact L_rm hp2 | exact L_kd hp2 | exact L_lw hp2 | exact L_wo hp2 | exact L_wr hp2 (by omega)) rfl fl4_26 ?_
      rw [r1]
      refine jr_iload_n hF dX4_addMaster_27 (q := 28) rfl rfl ?_
      refine jr_iast hF dX4_addMaster_28 (q := 29) rfl (by first | rfl | exact L_pl hpl | exact L_rm hpl | exact L_kd hpl | exact L_lw hpl | exact L_wo hpl | exact L_wr hpl (by omega) | exact L_pl hp2 | exact L_rm hp2 | exact L_kd hp2 | exact L_lw hp2 | exact L_wo hp2 | exact L_wr hp2 (by omega)) (by omega) ?_
      refine jr_aload_n hF dX4_addMaster_29 (q := 30) rfl rfl ?_
      refine jr_dup hF dX4_addMaster_30 (q := 31) rfl rfl ?_
      refine jr_getI (ci := 4) (j := 0) hF 0 rfl dX4_addMaster_31 (q := 34) rfl (by first | rfl | exact L_pl hpl | exact L_rm hpl | exact L_kd hpl | exact L_lw hpl | exact L_wo hpl | exact L_wr hpl (by omega) | exact L_pl hp2 | exact L_rm hp2 | exact L_kd hp2 | exact L_lw hp2 | exact L_wo hp2 | exact L_wr hp2 (by omega)) rfl fl4_26 ?_
      rw [up_ne (show pl ≠ pl + 1 by omega), r1]
      refine jr_iconst hF dX4_addMaster_34 (q := 35) rfl (by decide) ?_
      refine jr_iadd hF dX4_addMaster_35 (q := 36) rfl (by omega) ?_
      refine jr_putI (ci := 4) (j := 0) hF 0 rfl dX4_addMaster_36 (q := 39) rfl (by first | rfl | exact L_pl hpl | exact L_rm hpl | exact L_kd hpl | exact L_lw hpl | exact L_wo hpl | exact L_wr hpl (by omega) | exact L_pl hp2 | exact L_rm hp2 | exact L_kd hp2 | exact L_lw hp2 | exact L_wo hp2 | exact L_wr hp2 (by omega)) rfl fp4_26 ?_
      refine jr_iconst hF dX4_addMaster_39 (q := 40) rfl (by decide) ?_
      refine jr_retZ hF hR dX4_addMaster_40 rfl (Or.inr rfl) ⟨fun k hk => by rw [up_ne (by omega), up_ne (by omega)], ?_⟩
      obtain ⟨⟨q1, q2, q3, q4, q5, q6, q7, q8⟩, q9⟩ := hC
      have e : t_m F c = some (f_nm F + 1, f_nl F, st1 (f_rm F) (f_nm F) c, f_kd F, f_wt F, f_lm F, f_ca F, f_sp F) := by unfold t_m; rw [if_pos (by omega)]
      rw [e]
      refine ⟨rfl, ⟨?_, ?_, fun m hm => ?_, fun i hi => ?_, fun i m hi hm => ?_, fun i hi => ?_, ?_, ?_⟩, fun i m hi hm hm3 => ?_⟩
      · first | (simp [up]; done) | (simp [up]; rfl)
      · rw [← q2]; simp [up]
      · rw [up_ne (by omega), up_nat]
        show _ = st1 (f_rm F) (f_nm F) c m
        unfold st1
        split
        · rfl
        · replace hm : m < f_nm F + 1 := hm
          exact q3 m (by omega)
      · rw [up_ne (by omega), up_ne (by omega)]; exact q4 i hi
      · rw [up_ne (by omega), up_ne (by omega)]
        replace hm : m < f_nm F + 1 := hm
        by_cases em : m = f_nm F
        · subst em
          show _ = f_wt F i (f_nm F)
          rw [hz i (f_nm F) (Or.inr (Nat.le_refl _))]
          exact q9 i _ hi (Nat.le_refl _) (by omega)
        · exact q5 i m hi (by omega)
      · rw [up_ne (by omega), up_ne (by omega)]; exact q6 i hi
      · rw [up_ne (by omega), up_ne (by omega)]; exact q7
      · rw [up_ne (by omega), up_ne (by omega)]; exact q8
      · rw [up_ne (by omega), up_ne (by omega)]
        replace hm : f_nm F + 1 ≤ m := hm
        exact q9 i m hi (by omega) hm3
    · refine jr_iconst hF dX4_addMaster_17 (q := 18) rfl (by decide) ?_
      have hc : ¬ (1 ≤ c ∧ c ≤ 3) := fun h => by rw [if_pos h] at h2; omega
      refine jr_retZ hF hR dX4_addMaster_18 rfl (by first | exact Or.inl rfl | exact Or.inr rfl | omega) ⟨fun _ _ => rfl, by unfold t_m; rw [if_neg (by omega)]⟩
set_option maxRecDepth 100000 in
theorem c_addLad (σ : Sg) (pl : Nat) (hpl : pl = 4 ∨ pl = 14) (F : FD) (hC : RdC σ pl F) (hz : FZ F) (ok : okF F) (l k : Int) : RI mX4_addLad 2 [vR pl, vI l, vI k] σ (fun z σ' => told σ pl (t_l F l k) z σ') := by
  have h3 := ok.1
  have h5 := ok.2.1
  have r1 := hC.1.2.1
  refine mkRun (by decide +kernel) (Nat.le_of_ble_eq_true rfl) (fun X hF hR => ?_)
  refine jr_aload_n hF dX4_addLad_0 (q := 1) rfl rfl ?_
  refine jr_getI (ci := 4) (j := 1) hF 1 rfl dX4_addLad_1 (q := 4) rfl (by first | rfl | exact L_pl hpl | exact L_rm hpl | exact L_kd hpl | exact L_lw hpl | exact L_wo hpl | exact L_wr hpl (by omega) | exact L_pl hp2 | exact L_rm hp2 | exact L_kd hp2 | exact L_lw hp2 | exact L_wo hp2 | exact L_wr hp2 (by omega)) rfl fl4_30 ?_
  refine jr_iconst hF dX4_addLad_4 (q := 5) rfl (by decide) ?_
  refine jr_icmp_ge hF dX4_addLad_5 (q := 8) rfl 27 (by decide) (fun h1 => ?_) (fun h1 => ?_)
  · refine jr_iconst hF dX4_addLad_27 (q := 28) rfl (by decide) ?_
    refine jr_retZ hF hR dX4_addLad_28 rfl (by first | exact Or.inl rfl | exact Or.inr rfl | omega) ⟨fun _ _ => rfl, by unfold t_l; rw [if_neg (by omega)]⟩
  · refine jr_iload_n hF dX4_addLad_8 (q := 9) rfl rfl ?_
    refine jr_iconst hF dX4_addLad_9 (q := 10) rfl (by decide) ?_
    refine jr_bipush hF dX4_addLad_10 (q := 12) rfl (by decide) (by decide +kernel) ?_
    refine jr_cN3I hF (c_isWithin σ l 1 10) dX4_addLad_12 (q := 15) rfl rfl rfl vX9_isWithin kX9_isWithin (by decide) (Nat.le_of_ble_eq_true rfl) (fun z σ1 hz1 => ?_)
    obtain ⟨rfl, rfl⟩ := hz1
    refine jr_if_eq hF dX4_addLad_15 (q := 18) rfl 27 (by decide) (fun h2 => ?_) (fun h2 => ?_)
    · have hc : ¬ (1 ≤ l ∧ l ≤ 10) := fun h => by rw [if_pos h] at h2; omega
      refine jr_iconst hF dX4_addLad_27 (q := 28) rfl (by decide) ?_
      refine jr_retZ hF hR dX4_addLad_28 rfl (by first | exact Or.inl rfl | exact Or.inr rfl | omega) ⟨fun _ _ => rfl, by unfold t_l; rw [if_neg (by omega)]⟩
    · have hc : 1 ≤ l ∧ l ≤ 10 := Classical.byContradiction fun h => h2 (by rw [if_neg h])
      refine jr_iload_n hF dX4_addLad_18 (q := 19) rfl rfl ?_
      refine jr_iconst hF dX4_addLad_19 (q := 20) rfl (by decide) ?_
      refine jr_iconst hF dX4_addLad_20 (q := 21) rfl (by decide) ?_
      refine jr_cN3I hF (c_isWithin σ k 0 3) dX4_addLad_21 (q := 24) rfl rfl rfl vX9_isWithin kX9_isWithin (by decide) (Nat.le_of_ble_eq_true rfl) (fun z σ1 hz1 => ?_)
      obtain ⟨rfl, rfl⟩ := hz1
      refine jr_if_ne hF dX4_addLad_24 (q := 27) rfl 29 (by decide) (fun h4 => ?_) (fun h4 => ?_)
      · have hd : 0 ≤ k ∧ k ≤ 3 := Classical.byContradiction fun h => h4 (by rw [if_neg h])
        refine jr_aload_n hF dX4_addLad_29 (q := 30) rfl rfl ?_
        refine jr_getR (ci := 4) (j := 5) hF dX4_addLad_30 (q := 33) rfl (by first | rfl | exact L_pl hpl | exact L_rm hpl | exact L_kd hpl | exact L_lw hpl | exact L_wo hpl | exact L_wr hpl (by omega) | exact L_pl hp2 | exact L_rm hp2 | exact L_kd hp2 | exact L_lw hp2 | exact L_wo hp2 | exact L_wr hp2 (by omega)) rfl fl4_23 ?_
        refine jr_aload_n hF dX4_addLad_33 (q := 34) rfl rfl ?_
        refine jr_getI (ci := 4) (j := 1) hF 1 rfl dX4_addLad_34 (q := 37) rfl (by first | rfl | exact L_pl hpl | exact L_rm hpl | exact L_kd hpl | exact L_lw hpl | exact L_wo hpl | exact L_wr hpl (by omega) | exact L_pl hp2 | exact L_rm hp2 | exact L_kd hp2 | exact L_lw hp2 | exact L_wo hp2 | exact L_wr hp2 (by omega)) rfl fl4_30 ?_
        rw [r1]
        refine jr_iload_n hF dX4_addLad_37 (q := 38) rfl rfl ?_
        refine jr_iast hF dX4_addLad_38 (q := 39) rfl (by first | rfl | exact L_pl hpl | exact L_rm hpl | exact L_kd hpl | exact L_lw hpl | exact L_wo hpl | exact L_wr hpl (by omega) | exact L_pl hp2 | exact L_rm hp2 | exact L_kd hp2 | exact L_lw hp2 | exact L_wo hp2 | exact L_wr hp2 (by omega)) (by omega) ?_
        refine jr_aload_n hF dX4_addLad_39 (q := 40) rfl rfl ?_
        refine jr_getR (ci := 4) (j := 3) hF dX4_addLad_40 (q := 43) rfl (by first | rfl | exact L_pl hpl | exact L_rm hpl | exact L_kd hpl | exact L_lw hpl | exact L_wo hpl | exact L_wr hpl (by omega) | exact L_pl hp2 | exact L_rm hp2 | exact L_kd hp2 | exact L_lw hp2 | exact L_wo hp2 | exact L_wr hp2 (by omega)) rfl fl4_15 ?_
        refine jr_aload_n hF dX4_addLad_43 (q := 44) rfl rfl ?_
        refine jr_getI (ci := 4) (j := 1) hF 1 rfl dX4_addLad_44 (q := 47) rfl (by first | rfl | exact L_pl hpl | exact L_rm hpl | exact L_kd hpl | exact L_lw hpl | exact L_wo hpl | exact L_wr hpl (by omega) | exact L_pl hp2 | exact L_rm hp2 | exact L_kd hp2 | exact L_lw hp2 | exact L_wo hp2 | exact L_wr hp2 (by omega)) rfl fl4_30 ?_
        rw [up_ne (show pl ≠ pl + 9 by omega), r1]
        refine jr_iload_n hF dX4_addLad_47 (q := 48) rfl rfl ?_
        refine jr_iast hF dX4_addLad_48 (q := 49) rfl (by first | rfl | exact L_pl hpl | exact L_rm hpl | exact L_kd hpl | exact L_lw hpl | exact L_wo hpl | exact L_wr hpl (by omega) | exact L_pl hp2 | exact L_rm hp2 | exact L_kd hp2 | exact L_lw hp2 | exact L_wo hp2 | exact L_wr hp2 (by omega)) (by omega) ?_
        refine jr_aload_n hF dX4_addLad_49 (q := 50) rfl rfl ?_
        refine jr_getR (ci := 4) (j := 4) hF dX4_addLad_50 (q := 53) rfl (by first | rfl | exact L_pl hpl | exact L_rm hpl | exact L_kd hpl | exact L_lw hpl | exact L_wo hpl | exact L_wr hpl (by omega) | exact L_pl hp2 | exact L_rm hp2 | exact L_kd hp2 | exact L_lw hp2 | exact L_wo hp2 | exact L_wr hp2 (by omega)) rfl fl4_20 ?_
        refine jr_aload_n hF dX4_addLad_53 (q := 54) rfl rfl ?_
        refine jr_getI (ci := 4) (j := 1) hF 1 rfl dX4_addLad_54 (q := 57) rfl (by first | rfl | exact L_pl hpl | exact L_rm hpl | exact L_kd hpl | exact L_lw hpl | exact L_wo hpl | exact L_wr hpl (by omega) | exact L_pl hp2 | exact L_rm hp2 | exact L_kd hp2 | exact L_lw hp2 | exact L_wo hp2 | exact L_wr hp2 (by omega)) rfl fl4_30 ?_
        rw [up_ne (show pl ≠ pl + 2 by omega), up_ne (show pl ≠ pl + 9 by omega), r1]
        refine jr_aald hF dX4_addLad_57 (q := 58) rfl (by first | rfl | exact L_pl hpl | exact L_rm hpl | exact L_kd hpl | exact L_lw hpl | exact L_wo hpl | exact L_wr hpl (by omega) | exact L_pl hp2 | exact L_rm hp2 | exact L_kd hp2 | exact L_lw hp2 | exact L_wo hp2 | exact L_wr hp2 (by omega)) (by omega) ?_
        rw [tn]
        refine jr_iconst hF dX4_addLad_58 (q := 59) rfl (by decide) ?_
        refine jr_cS2V hF (c_fill _ (pl + 4 + f_nl F) 3 0 [] (L_wr hpl (by omega)) (by decide) 0) dX4_addLad_59 (q := 62) rfl lk4_43 vJ7_fill_53178 kJ7_fill_53178 (by decide) (Nat.le_of_ble_eq_true rfl) (fun σ1 hz1 => ?_)
        have g1 : ∀ c, c ≠ pl + 4 + f_nl F → c ≠ pl + 2 → c ≠ pl + 9 → σ1 c = σ c := fun c a1 a2 a3 => by rw [← hz1, uc_ne a1, up_ne a2, up_ne a3]
        have g2 : ∀ j : Nat, σ1 (pl + 2) (j : Int) = if j = f_nl F then k else σ (pl + 2) (j : Int) := fun j => by rw [← hz1, uc_ne (by omega), up_nat, up_ne (by omega)]
        have g3 : ∀ j : Nat, σ1 (pl + 9) (j : Int) = if j = f_nl F then l else σ (pl + 9) (j : Int) := fun j => by rw [← hz1, uc_ne (by omega), up_ne (by omega), up_nat]
        have g4 : ∀ m : Nat, m < 3 → σ1 (pl + 4 + f_nl F) (m : Int) = 0 := fun m hm => by rw [← hz1, uc_eq, if_pos (by omega)]
        have r1' : σ1 pl 1 = (f_nl F : Int) := by rw [g1 pl (by omega) (by omega) (by omega)]; exact r1
        clear hz1
        refine jr_aload_n hF dX4_addLad_62 (q := 63) rfl rfl ?_
        refine jr_dup hF dX4_addLad_63 (q := 64) rfl rfl ?_
        refine jr_getI (ci := 4) (j := 1) hF 1 rfl dX4_addLad_64 (q := 67) rfl (by first | rfl | exact L_pl hpl | exact L_rm hpl | exact L_kd hpl | exact L_lw hpl | exact L_wo hpl | exact L_wr hpl (by omega) | exact L_pl hp2 | exact L_rm hp2 | exact L_kd hp2 | exact L_lw hp2 | exact L_wo hp2 | exact L_wr hp2 (by omega)) rfl fl4_30 ?_
        rw [r1']
        refine jr_iconst hF dX4_addLad_67 (q := 68) rfl (by decide) ?_
        refine jr_iadd hF dX4_addLad_68 (q := 69) rfl (by omega) ?_
        refine jr_putI (ci := 4) (j := 1) hF 1 rfl dX4_addLad_69 (q := 72) rfl (by first | rfl | exact L_pl hpl | exact L_rm hpl | exact L_kd hpl | exact L_lw hpl | exact L_wo hpl | exact L_wr hpl (by omega) | exact L_pl hp2 | exact L_rm hp2 | exact L_kd hp2 | exact L_lw hp2 | exact L_wo hp2 | exact L_wr hp2 (by omega)) rfl fp4_30 ?_
        refine jr_iconst hF dX4_addLad_72 (q := 73) rfl (by decide) ?_
        refine jr_retZ hF hR dX4_addLad_73 rfl (Or.inr rfl) ⟨fun k hk => by rw [up_ne (by omega)]; exact g1 k (by omega) (by omega) (by omega), ?_⟩
        obtain ⟨⟨q1, q2, q3, q4, q5, q6, q7, q8⟩, q9⟩ := hC
        have e : t_l F l k = some (f_nm F, f_nl F + 1, f_rm F, st1 (f_kd F) (f_nl F) k, f_wt F, st1 (f_lm F) (f_nl F) l, f_ca F, f_sp F) := by unfold t_l; rw [if_pos (by omega)]
        rw [e]
        refine ⟨rfl, ⟨?_, ?_, fun m hm => ?_, fun i hi => ?_, fun i m hi hm => ?_, fun i hi => ?_, ?_, ?_⟩, fun i m hi hm hm3 => ?_⟩
        · rw [← q1, ← g1 pl (by omega) (by omega) (by omega)]; simp [up]
        · first | (simp [up]; done) | (simp [up]; rfl)
        · rw [up_ne (by omega), g1 _ (by omega) (by omega) (by omega)]; exact q3 m hm
        · rw [up_ne (by omega), g2]
          show _ = st1 (f_kd F) (f_nl F) k i
          unfold st1
          split
          · rfl
          · replace hi : i < f_nl F + 1 := hi
            exact q4 i (by omega)
        · rw [up_ne (by omega)]
          replace hi : i < f_nl F + 1 := hi
          replace hm : m < f_nm F := hm
          by_cases ei : i = f_nl F
          · subst ei
            show _ = f_wt F (f_nl F) m
            rw [hz _ m (Or.inl (Nat.le_refl _))]
            exact g4 m (by omega)
          · rw [g1 _ (by omega) (by omega) (by omega)]
            exact q5 i m (by omega) hm
        · rw [up_ne (by omega), g3]
          show _ = st1 (f_lm F) (f_nl F) l i
          unfold st1
          split
          · rfl
          · replace hi : i < f_nl F + 1 := hi
            exact q6 i (by omega)
        · rw [up_ne (by omega)]
          have := g3 5
          rw [if_neg (by omega)] at this
          exact this.trans q7
        · rw [up_ne (by omega)]
          have := g3 6
          rw [if_neg (by omega)] at this
          exact this.trans q8
        · rw [up_ne (by omega)]
          replace hi : i < f_nl F + 1 := hi
          replace hm : f_nm F ≤ m := hm
          by_cases ei : i = f_nl F
          · subst ei
            exact g4 m hm3
          · rw [g1 _ (by omega) (by omega) (by omega)]
            exact q9 i m (by omega) hm hm3
      · have hd : ¬ (0 ≤ k ∧ k ≤ 3) := fun h => by rw [if_pos h] at h4; omega
        refine jr_iconst hF dX4_addLad_27 (q := 28) rfl (by decide) ?_
        refine jr_retZ hF hR dX4_addLad_28 rfl (by first | exact Or.inl rfl | exact Or.inr rfl | omega) ⟨fun _ _ => rfl, by unfold t_l; rw [if_neg (by omega)]⟩
set_option maxRecDepth 100000 in
theorem c_addWant (σ : Sg) (pl : Nat) (hpl : pl = 4 ∨ pl = 14) (F : FD) (hC : RdC σ pl F) (ok : okF F) (i m w : Int) : RI mX4_addWant 2 [vR pl, vI i, vI m, vI w] σ (fun z σ' => told σ pl (t_w F i m w) z σ') := by
  have h3 := ok.1
  have h5 := ok.2.1
  have r1 := hC.1.1
  have r2 := hC.1.2.1
  refine mkRun (by decide +kernel) (Nat.le_of_ble_eq_true rfl) (fun X hF hR => ?_)
  refine jr_aload_n hF dX4_addWant_0 (q := 1) rfl rfl ?_
  refine jr_iload_n hF dX4_addWant_1 (q := 2) rfl rfl ?_
  refine jr_cV1I hF (c_hasLad σ pl hpl i) dX4_addWant_2 (q := 5) rfl lk4_49 vX4_hasLad kX4_hasLad (by first | rfl | exact L_pl hpl | exact L_rm hpl | exact L_kd hpl | exact L_lw hpl | exact L_wo hpl | exact L_wr hpl (by omega) | exact L_pl hp2 | exact L_rm hp2 | exact L_kd hp2 | exact L_lw hp2 | exact L_wo hp2 | exact L_wr hp2 (by omega)) rfl rfl (by decide) (Nat.le_of_ble_eq_true rfl) (fun z σ1 hz => ?_)
  obtain ⟨rfl, rfl⟩ := hz
  refine jr_if_eq hF dX4_addWant_5 (q := 8) rfl 26 (by decide) (fun a1 => ?_) (fun a1 => ?_)
  · have b1 : ¬ (0 ≤ i ∧ i < σ pl 1) := fun h => by rw [if_pos h] at a1; omega
    refine jr_iconst hF dX4_addWant_26 (q := 27) rfl (by decide) ?_
    refine jr_retZ hF hR dX4_addWant_27 rfl (by first | exact Or.inl rfl | exact Or.inr rfl | omega) ⟨fun _ _ => rfl, by unfold t_w; rw [if_neg (by omega)]⟩
  · have b1 : 0 ≤ i ∧ i < σ pl 1 := Classical.byContradiction fun h => a1 (by rw [if_neg h])
    refine jr_aload_n hF dX4_addWant_8 (q := 9) rfl rfl ?_
    refine jr_iload_n hF dX4_addWant_9 (q := 10) rfl rfl ?_
    refine jr_cV1I hF (c_hasMaster σ pl hpl m) dX4_addWant_10 (q := 13) rfl lk4_53 vX4_hasMaster kX4_hasMaster (by first | rfl | exact L_pl hpl | exact L_rm hpl | exact L_kd hpl | exact L_lw hpl | exact L_wo hpl | exact L_wr hpl (by omega) | exact L_pl hp2 | exact L_rm hp2 | exact L_kd hp2 | exact L_lw hp2 | exact L_wo hp2 | exact L_wr hp2 (by omega)) rfl rfl (by decide) (Nat.le_of_ble_eq_true rfl) (fun z σ1 hz => ?_)
    obtain ⟨rfl, rfl⟩ := hz
    refine jr_if_eq hF dX4_addWant_13 (q := 16) rfl 26 (by decide) (fun a2 => ?_) (fun a2 => ?_)
    · have b2 : ¬ (0 ≤ m ∧ m < σ pl 0) := fun h => by rw [if_pos h] at a2; omega
      refine jr_iconst hF dX4_addWant_26 (q := 27) rfl (by decide) ?_
      refine jr_retZ hF hR dX4_addWant_27 rfl (by first | exact Or.inl rfl | exact Or.inr rfl | omega) ⟨fun _ _ => rfl, by unfold t_w; rw [if_neg (by omega)]⟩
    · have b2 : 0 ≤ m ∧ m < σ pl 0 := Classical.byContradiction fun h => a2 (by rw [if_neg h])
      refine jr_iload_n hF dX4_addWant_16 (q := 17) rfl rfl ?_
      refine jr_iconst hF dX4_addWant_17 (q := 18) rfl (by decide) ?_
      refine jr_bipush hF dX4_addWant_18 (q := 20) rfl (by decide) (by decide +kernel) ?_
      refine jr_cN3I hF (c_isWithin σ w 0 10) dX4_addWant_20 (q := 23) rfl rfl rfl vX9_isWithin kX9_isWithin (by decide) (Nat.le_of_ble_eq_true rfl) (fun z σ1 hz => ?_)
      obtain ⟨rfl, rfl⟩ := hz
      refine jr_if_ne hF dX4_addWant_23 (q := 26) rfl 28 (by decide) (fun a3 => ?_) (fun a3 => ?_)
      · have b3 : 0 ≤ w ∧ w ≤ 10 := Classical.byContradiction fun h => a3 (by rw [if_neg h])
        obtain ⟨i', rfl⟩ : ∃ i' : Nat, i = (i' : Int) := ⟨i.toNat, by omega⟩
        obtain ⟨m', rfl⟩ : ∃ m' : Nat, m = (m' : Int) := ⟨m.toNat, by omega⟩
        refine jr_aload_n hF dX4_addWant_28 (q := 29) rfl rfl ?_
        refine jr_getR (ci := 4) (j := 4) hF dX4_addWant_29 (q := 32) rfl (by first | rfl | exact L_pl hpl | exact L_rm hpl | exact L_kd hpl | exact L_lw hpl | exact L_wo hpl | exact L_wr hpl (by omega) | exact L_pl hp2 | exact L_rm hp2 | exact L_kd hp2 | exact L_lw hp2 | exact L_wo hp2 | exact L_wr hp2 (by omega)) rfl fl4_20 ?_
        refine jr_iload_n hF dX4_addWant_32 (q := 33) rfl rfl ?_
        refine jr_aald hF dX4_addWant_33 (q := 34) rfl (by first | rfl | exact L_pl hpl | exact L_rm hpl | exact L_kd hpl | exact L_lw hpl | exact L_wo hpl | exact L_wr hpl (by omega) | exact L_pl hp2 | exact L_rm hp2 | exact L_kd hp2 | exact L_lw hp2 | exact L_wo hp2 | exact L_wr hp2 (by omega)) (by omega) ?_
        rw [tn]
        refine jr_iload_n hF dX4_addWant_34 (q := 35) rfl rfl ?_
        refine jr_iload_n hF dX4_addWant_35 (q := 36) rfl rfl ?_
        refine jr_iast hF dX4_addWant_36 (q := 37) rfl (by first | rfl | exact L_pl hpl | exact L_rm hpl | exact L_kd hpl | exact L_lw hpl | exact L_wo hpl | exact L_wr hpl (by omega) | exact L_pl hp2 | exact L_rm hp2 | exact L_kd hp2 | exact L_lw hp2 | exact L_wo hp2 | exact L_wr hp2 (by omega)) (by omega) ?_
        refine jr_iconst hF dX4_addWant_37 (q := 38) rfl (by decide) ?_
        refine jr_retZ hF hR dX4_addWant_38 rfl (Or.inr rfl) ⟨fun k hk => by rw [up_ne (by omega)], ?_⟩
        obtain ⟨⟨q1, q2, q3, q4, q5, q6, q7, q8⟩, q9⟩ := hC
        have e : t_w F (i' : Int) (m' : Int) w = some (f_nm F, f_nl F, f_rm F, f_kd F, st2 (f_wt F) i' m' w, f_lm F, f_ca F, f_sp F) := by unfold t_w; rw [if_pos (by omega)]; rfl
        rw [e]
        refine ⟨rfl, ⟨?_, ?_, fun m hm => ?_, fun i hi => ?_, fun i m hi hm => ?_, fun i hi => ?_, ?_, ?_⟩, fun i m hi hm hm3 => ?_⟩
        · rw [up_ne (by omega)]; exact q1
        · rw [up_ne (by omega)]; exact q2
        · rw [up_ne (by omega)]; exact q3 m hm
        · rw [up_ne (by omega)]; exact q4 i hi
        · replace hi : i < f_nl F := hi
          replace hm : m < f_nm F := hm
          show _ = st2 (f_wt F) i' m' w i m
          unfold st2
          by_cases ei : i = i'
          · subst ei
            rw [up_nat]
            by_cases em : m = m'
            · rw [if_pos em, if_pos ⟨rfl, em⟩]
            · rw [if_neg em, if_neg (fun h => em h.2)]
              exact q5 i m hi hm
          · rw [up_ne (by omega), if_neg (fun h => ei h.1)]
            exact q5 i m hi hm
        · rw [up_ne (by omega)]; exact q6 i hi
        · rw [up_ne (by omega)]; exact q7
        · rw [up_ne (by omega)]; exact q8
        · replace hi : i < f_nl F := hi
          replace hm : f_nm F ≤ m := hm
          by_cases ei : i = i'
          · subst ei
            rw [up_nat, if_neg (by omega)]
            exact q9 i m hi hm hm3
          · rw [up_ne (by omega)]
            exact q9 i m hi hm hm3
      · have b3 : ¬ (0 ≤ w ∧ w ≤ 10) := fun h => by rw [if_pos h] at a3; omega
        refine jr_iconst hF dX4_addWant_26 (q := 27) rfl (by decide) ?_
        refine jr_retZ hF hR dX4_addWant_27 rfl (by first | exact Or.inl rfl | exact Or.inr rfl | omega) ⟨fun _ _ => rfl, by unfold t_w; rw [if_neg (by omega)]⟩
set_option maxRecDepth 100000 in
theorem c_tellCalls (σ : Sg) (pl : Nat) (hpl : pl = 4 ∨ pl = 14) (F : FD) (hC : RdC σ pl F) (ok : okF F) (k : Int) : RI mX4_tellCalls 2 [vR pl, vI k] σ (fun z σ' => told σ pl (t_c F k) z σ') := by
  have h5 := ok.2.1
  refine mkRun (by decide +kernel) (Nat.le_of_ble_eq_true rfl) (fun X hF hR => ?_)
  refine jr_iload_n hF dX4_tellCalls_0 (q := 1) rfl rfl ?_
  refine jr_iconst hF dX4_tellCalls_1 (q := 2) rfl (by decide) ?_
  refine jr_iconst hF dX4_tellCalls_2 (q := 3) rfl (by decide) ?_
  refine jr_cN3I hF (c_isWithin σ k 0 2) dX4_tellCalls_3 (q := 6) rfl rfl rfl vX9_isWithin kX9_isWithin (by decide) (Nat.le_of_ble_eq_true rfl) (fun z σ1 hz => ?_)
  obtain ⟨rfl, rfl⟩ := hz
  refine jr_if_ne hF dX4_tellCalls_6 (q := 9) rfl 11 (by decide) (fun a1 => ?_) (fun a1 => ?_)
  · have b1 : 0 ≤ k ∧ k ≤ 2 := Classical.byContradiction fun h => a1 (by rw [if_neg h])
    refine jr_aload_n hF dX4_tellCalls_11 (q := 12) rfl rfl ?_
    refine jr_getR (ci := 4) (j := 5) hF dX4_tellCalls_12 (q := 15) rfl (by first | rfl | exact L_pl hpl | exact L_rm hpl | exact L_kd hpl | exact L_lw hpl | exact L_wo hpl | exact L_wr hpl (by omega) | exact L_pl hp2 | exact L_rm hp2 | exact L_kd hp2 | exact L_lw hp2 | exact L_wo hp2 | exact L_wr hp2 (by omega)) rfl fl4_23 ?_
    refine jr_iconst hF dX4_tellCalls_15 (q := 16) rfl (by decide) ?_
    refine jr_iload_n hF dX4_tellCalls_16 (q := 17) rfl rfl ?_
    refine jr_iast hF dX4_tellCalls_17 (q := 18) rfl (by first | rfl | exact L_pl hpl | exact L_rm hpl | exact L_kd hpl | exact L_lw hpl | exact L_wo hpl | exact L_wr hpl (by omega) | exact L_pl hp2 | exact L_rm hp2 | exact L_kd hp2 | exact L_lw hp2 | exact L_wo hp2 | exact L_wr hp2 (by omega)) (by omega) ?_
    refine jr_iconst hF dX4_tellCalls_18 (q := 19) rfl (by decide) ?_
    refine jr_retZ hF hR dX4_tellCalls_19 rfl (Or.inr rfl) ⟨fun k hk => by rw [up_ne (by omega)], ?_⟩
    obtain ⟨⟨q1, q2, q3, q4, q5, q6, q7, q8⟩, q9⟩ := hC
    have e : t_c F k = some (f_nm F, f_nl F, f_rm F, f_kd F, f_wt F, f_lm F, k, f_sp F) := by unfold t_c; rw [if_pos (by omega)]
    rw [e]
    refine ⟨rfl, ⟨?_, ?_, fun m hm => ?_, fun i hi => ?_, fun i m hi hm => ?_, fun i hi => ?_, ?_, ?_⟩, fun i m hi hm hm3 => ?_⟩
    · rw [up_ne (by omega)]; exact q1
    · rw [up_ne (by omega)]; exact q2
    · rw [up_ne (by omega)]; exact q3 m hm
    · rw [up_ne (by omega)]; exact q4 i hi
    · replace hi : i < f_nl F := hi
      rw [up_ne (by omega)]; exact q5 i m hi hm
    · replace hi : i < f_nl F := hi
      rw [show (5 : Int) = ((5 : Nat) : Int) from rfl, up_nat, if_neg (by omega)]; exact q6 i hi
    · simp [up]
    · rw [← q8]; simp [up]
    · replace hi : i < f_nl F := hi
      rw [up_ne (by omega)]; exact q9 i m hi hm hm3
  · have b1 : ¬ (0 ≤ k ∧ k ≤ 2) := fun h => by rw [if_pos h] at a1; omega
    refine jr_iconst hF dX4_tellCalls_9 (q := 10) rfl (by decide) ?_
    refine jr_retZ hF hR dX4_tellCalls_10 rfl (by first | exact Or.inl rfl | exact Or.inr rfl | omega) ⟨fun _ _ => rfl, by unfold t_c; rw [if_neg (by omega)]⟩
set_option maxRecDepth 100000 in
theorem c_tellStep (σ : Sg) (pl : Nat) (hpl : pl = 4 ∨ pl = 14) (F : FD) (hC : RdC σ pl F) (ok : okF F) (k : Int) : RI mX4_tellStep 2 [vR pl, vI k] σ (fun z σ' => told σ pl (t_s F k) z σ') := by
  have h5 := ok.2.1
  refine mkRun (by decide +kernel) (Nat.le_of_ble_eq_true rfl) (fun X hF hR => ?_)
  refine jr_iload_n hF dX4_tellStep_0 (q := 1) rfl rfl ?_
  refine jr_iconst hF dX4_tellStep_1 (q := 2) rfl (by decide) ?_
  refine jr_iconst hF dX4_tellStep_2 (q := 3) rfl (by decide) ?_
  refine jr_cN3I hF (c_isWithin σ k 1 3) dX4_tellStep_3 (q := 6) rfl rfl rfl vX9_isWithin kX9_isWithin (by decide) (Nat.le_of_ble_eq_true rfl) (fun z σ1 hz => ?_)
  obtain ⟨rfl, rfl⟩ := hz
  refine jr_if_ne hF dX4_tellStep_6 (q := 9) rfl 11 (by decide) (fun a1 => ?_) (fun a1 => ?_)
  · have b1 : 1 ≤ k ∧ k ≤ 3 := Classical.byContradiction fun h => a1 (by rw [if_neg h])
    refine jr_aload_n hF dX4_tellStep_11 (q := 12) rfl rfl ?_
    refine jr_getR (ci := 4) (j := 5) hF dX4_tellStep_12 (q := 15) rfl (by first | rfl | exact L_pl hpl | exact L_rm hpl | exact L_kd hpl | exact L_lw hpl | exact L_wo hpl | exact L_wr hpl (by omega) | exact L_pl hp2 | exact L_rm hp2 | exact L_kd hp2 | exact L_lw hp2 | exact L_wo hp2 | exact L_wr hp2 (by omega)) rfl fl4_23 ?_
    refine jr_bipush hF dX4_tellStep_15 (q := 17) rfl (by decide) (by decide +kernel) ?_
    refine jr_iload_n hF dX4_tellStep_17 (q := 18) rfl rfl ?_
    refine jr_iast hF dX4_tellStep_18 (q := 19) rfl (by first | rfl | exact L_pl hpl | exact L_rm hpl | exact L_kd hpl | exact L_lw hpl | exact L_wo hpl | exact L_wr hpl (by omega) | exact L_pl hp2 | exact L_rm hp2 | exact L_kd hp2 | exact L_lw hp2 | exact L_wo hp2 | exact L_wr hp2 (by omega)) (by omega) ?_
    refine jr_iconst hF dX4_tellStep_19 (q := 20) rfl (by decide) ?_
    refine jr_retZ hF hR dX4_tellStep_20 rfl (Or.inr rfl) ⟨fun k hk => by rw [up_ne (by omega)], ?_⟩
    obtain ⟨⟨q1, q2, q3, q4, q5, q6, q7, q8⟩, q9⟩ := hC
    have e : t_s F k = some (f_nm F, f_nl F, f_rm F, f_kd F, f_wt F, f_lm F, f_ca F, k) := by unfold t_s; rw [if_pos (by omega)]
    rw [e]
    refine ⟨rfl, ⟨?_, ?_, fun m hm => ?_, fun i hi => ?_, fun i m hi hm => ?_, fun i hi => ?_, ?_, ?_⟩, fun i m hi hm hm3 => ?_⟩
    · rw [up_ne (by omega)]; exact q1
    · rw [up_ne (by omega)]; exact q2
    · rw [up_ne (by omega)]; exact q3 m hm
    · rw [up_ne (by omega)]; exact q4 i hi
    · replace hi : i < f_nl F := hi
      rw [up_ne (by omega)]; exact q5 i m hi hm
    · replace hi : i < f_nl F := hi
      rw [show (6 : Int) = ((6 : Nat) : Int) from rfl, up_nat, if_neg (by omega)]; exact q6 i hi
    · rw [← q7]; simp [up]
    · simp [up]
    · replace hi : i < f_nl F := hi
      rw [up_ne (by omega)]; exact q9 i m hi hm hm3
  · have b1 : ¬ (1 ≤ k ∧ k ≤ 3) := fun h => by rw [if_pos h] at a1; omega
    refine jr_iconst hF dX4_tellStep_9 (q := 10) rfl (by decide) ?_
    refine jr_retZ hF hR dX4_tellStep_10 rfl (by first | exact Or.inl rfl | exact Or.inr rfl | omega) ⟨fun _ _ => rfl, by unfold t_s; rw [if_neg (by omega)]⟩
theorem jr_copy0 {M : MM} {d : Nat} {X : CT} (hF : Fix M d X) {pc : Nat} {lv : List (Option PV)} {st : List PV} {σ : Sg} {idx a b na nb xa xb : Nat} {n : Int} {fa fb : List (Option Nat)} (hw : cpW) (hdg : decode M.2.1 pc = .ok (.invokestatic idx, 3)) {q : Nat} (hq : pc + 3 = q) (hlk0 : Cond.methodLink M.1.cls idx arraycopyName ∈ wsT) (hLa : Lay[a]? = some (1, na, xa, fa)) (hLb : Lay[b]? = some (1, nb, xb, fb)) (h0 : 0 ≤ n ∧ n ≤ (na : Int) ∧ n ≤ (nb : Int)) (hr : (st.map pcat).sum ≤ 8) (hd : 1 ≤ d) (k : ∀ σ' : Sg, (∀ c, c ≠ b → σ' c = σ c) → (∀ j : Int, σ' b j = if 0 ≤ j ∧ j < n then σ a j else σ b j) → Gs X q lv st σ') : Gs X pc lv (vI n :: vI 0 :: vR b :: vI 0 :: vR a :: st) σ := by
  refine jr_copy hF hw hdg hq hlk0 hLa hLb (by omega) hr hd (k _ (fun c hc => uc_ne hc) (fun j => ?_))
  rw [uc_eq]
  by_cases h : 0 ≤ j ∧ j < n
  · rw [if_pos (by omega), if_pos h, show (0 : Int) + (j - 0) = j by omega]
  · rw [if_neg (by omega), if_neg h]
set_option maxRecDepth 100000 in
theorem c_copyFrom (σ : Sg) (pl p2 : Nat) (hpl : pl = 4 ∨ pl = 14) (hp2 : p2 = 4 ∨ p2 = 14) (hne : pl ≠ p2) (F : FD) (hC : RepC σ p2 F) (ok : okF F) : RV mX4_copyFrom 1 [vR pl, vR p2] σ (fun σ' => RepC σ' pl F ∧ ∀ k, k < pl ∨ pl + 9 < k → σ' k = σ k) := by
  have h3 := ok.1
  have h5 := ok.2.1
  obtain ⟨q1, q2, q3, q4, q5, q6, q7, q8⟩ := hC
  refine mkRun (by decide +kernel) (Nat.le_of_ble_eq_true rfl) (fun X hF hR => ?_)
  refine jr_aload_n hF dX4_copyFrom_0 (q := 1) rfl rfl ?_
  refine jr_aload_n hF dX4_copyFrom_1 (q := 2) rfl rfl ?_
  refine jr_getI (ci := 4) (j := 0) hF 0 rfl dX4_copyFrom_2 (q := 5) rfl (by first | rfl | exact L_pl hpl | exact L_rm hpl | exact L_kd hpl | exact L_lw hpl | exact L_wo hpl | exact L_wr hpl (by omega) | exact L_pl hp2 | exact L_rm hp2 | exact L_kd hp2 | exact L_lw hp2 | exact L_wo hp2 | exact L_wr hp2 (by omega)) rfl fl4_26 ?_
  rw [q1]
  refine jr_putI (ci := 4) (j := 0) hF 0 rfl dX4_copyFrom_5 (q := 8) rfl (by first | rfl | exact L_pl hpl | exact L_rm hpl | exact L_kd hpl | exact L_lw hpl | exact L_wo hpl | exact L_wr hpl (by omega) | exact L_pl hp2 | exact L_rm hp2 | exact L_kd hp2 | exact L_lw hp2 | exact L_wo hp2 | exact L_wr hp2 (by omega)) rfl fp4_26 ?_
  refine jr_aload_n hF dX4_copyFrom_8 (q := 9) rfl rfl ?_
  refine jr_aload_n hF dX4_copyFrom_9 (q := 10) rfl rfl ?_
  refine jr_getI (ci := 4) (j := 1) hF 1 rfl dX4_copyFrom_10 (q := 13) rfl (by first | rfl | exact L_pl hpl | exact L_rm hpl | exact L_kd hpl | exact L_lw hpl | exact L_wo hpl | exact L_wr hpl (by omega) | exact L_pl hp2 | exact L_rm hp2 | exact L_kd hp2 | exact L_lw hp2 | exact L_wo hp2 | exact L_wr hp2 (by omega)) rfl fl4_30 ?_
  rw [up_ne (show p2 ≠ pl by omega), q2]
  refine jr_putI (ci := 4) (j := 1) hF 1 rfl dX4_copyFrom_13 (q := 16) rfl (by first | rfl | exact L_pl hpl | exact L_rm hpl | exact L_kd hpl | exact L_lw hpl | exact L_wo hpl | exact L_wr hpl (by omega) | exact L_pl hp2 | exact L_rm hp2 | exact L_kd hp2 | exact L_lw hp2 | exact L_wo hp2 | exact L_wr hp2 (by omega)) rfl fp4_30 ?_
  refine jr_aload_n hF dX4_copyFrom_16 (q := 17) rfl rfl ?_
  refine jr_getR (ci := 4) (j := 2) hF dX4_copyFrom_17 (q := 20) rfl (by first | rfl | exact L_pl hpl | exact L_rm hpl | exact L_kd hpl | exact L_lw hpl | exact L_wo hpl | exact L_wr hpl (by omega) | exact L_pl hp2 | exact L_rm hp2 | exact L_kd hp2 | exact L_lw hp2 | exact L_wo hp2 | exact L_wr hp2 (by omega)) rfl fl4_9 ?_
  refine jr_iconst hF dX4_copyFrom_20 (q := 21) rfl (by decide) ?_
  refine jr_aload_n hF dX4_copyFrom_21 (q := 22) rfl rfl ?_
  refine jr_getR (ci := 4) (j := 2) hF dX4_copyFrom_22 (q := 25) rfl (by first | rfl | exact L_pl hpl | exact L_rm hpl | exact L_kd hpl | exact L_lw hpl | exact L_wo hpl | exact L_wr hpl (by omega) | exact L_pl hp2 | exact L_rm hp2 | exact L_kd hp2 | exact L_lw hp2 | exact L_wo hp2 | exact L_wr hp2 (by omega)) rfl fl4_9 ?_
  refine jr_iconst hF dX4_copyFrom_25 (q := 26) rfl (by decide) ?_
  refine jr_iconst hF dX4_copyFrom_26 (q := 27) rfl (by decide) ?_
  refine jr_copy0 hF cpW_ok dX4_copyFrom_27 (q := 30) rfl lk4_33 (by first | rfl | exact L_pl hpl | exact L_rm hpl | exact L_kd hpl | exact L_lw hpl | exact L_wo hpl | exact L_wr hpl (by omega) | exact L_pl hp2 | exact L_rm hp2 | exact L_kd hp2 | exact L_lw hp2 | exact L_wo hp2 | exact L_wr hp2 (by omega)) (by first | rfl | exact L_pl hpl | exact L_rm hpl | exact L_kd hpl | exact L_lw hpl | exact L_wo hpl | exact L_wr hpl (by omega) | exact L_pl hp2 | exact L_rm hp2 | exact L_kd hp2 | exact L_lw hp2 | exact L_wo hp2 | exact L_wr hp2 (by omega)) (by omega) (Nat.le_of_ble_eq_true rfl) (by decide) (fun σ1 f1 g1 => ?_)
  refine jr_aload_n hF dX4_copyFrom_30 (q := 31) rfl rfl ?_
  refine jr_getR (ci := 4) (j := 3) hF dX4_copyFrom_31 (q := 34) rfl (by first | rfl | exact L_pl hpl | exact L_rm hpl | exact L_kd hpl | exact L_lw hpl | exact L_wo hpl | exact L_wr hpl (by omega) | exact L_pl hp2 | exact L_rm hp2 | exact L_kd hp2 | exact L_lw hp2 | exact L_wo hp2 | exact L_wr hp2 (by omega)) rfl fl4_15 ?_
  refine jr_iconst hF dX4_copyFrom_34 (q := 35) rfl (by decide) ?_
  refine jr_aload_n hF dX4_copyFrom_35 (q := 36) rfl rfl ?_
  refine jr_getR (ci := 4) (j := 3) hF dX4_copyFrom_36 (q := 39) rfl (by first | rfl | exact L_pl hpl | exact L_rm hpl | exact L_kd hpl | exact L_lw hpl | exact L_wo hpl | exact L_wr hpl (by omega) | exact L_pl hp2 | exact L_rm hp2 | exact L_kd hp2 | exact L_lw hp2 | exact L_wo hp2 | exact L_wr hp2 (by omega)) rfl fl4_15 ?_
  refine jr_iconst hF dX4_copyFrom_39 (q := 40) rfl (by decide) ?_
  refine jr_iconst hF dX4_copyFrom_40 (q := 41) rfl (by decide) ?_
  refine jr_copy0 hF cpW_ok dX4_copyFrom_41 (q := 44) rfl lk4_33 (by first | rfl | exact L_pl hpl | exact L_rm hpl | exact L_kd hpl | exact L_lw hpl | exact L_wo hpl | exact L_wr hpl (by omega) | exact L_pl hp2 | exact L_rm hp2 | exact L_kd hp2 | exact L_lw hp2 | exact L_wo hp2 | exact L_wr hp2 (by omega)) (by first | rfl | exact L_pl hpl | exact L_rm hpl | exact L_kd hpl | exact L_lw hpl | exact L_wo hpl | exact L_wr hpl (by omega) | exact L_pl hp2 | exact L_rm hp2 | exact L_kd hp2 | exact L_lw hp2 | exact L_wo hp2 | exact L_wr hp2 (by omega)) (by omega) (Nat.le_of_ble_eq_true rfl) (by decide) (fun σ2 f2 g2 => ?_)
  refine jr_aload_n hF dX4_copyFrom_44 (q := 45) rfl rfl ?_
  refine jr_getR (ci := 4) (j := 5) hF dX4_copyFrom_45 (q := 48) rfl (by first | rfl | exact L_pl hpl | exact L_rm hpl | exact L_kd hpl | exact L_lw hpl | exact L_wo hpl | exact L_wr hpl (by omega) | exact L_pl hp2 | exact L_rm hp2 | exact L_kd hp2 | exact L_lw hp2 | exact L_wo hp2 | exact L_wr hp2 (by omega)) rfl fl4_23 ?_
  refine jr_iconst hF dX4_copyFrom_48 (q := 49) rfl (by decide) ?_
  refine jr_aload_n hF dX4_copyFrom_49 (q := 50) rfl rfl ?_
  refine jr_getR (ci := 4) (j := 5) hF dX4_copyFrom_50 (q := 53) rfl (by first | rfl | exact L_pl hpl | exact L_rm hpl | exact L_kd hpl | exact L_lw hpl | exact L_wo hpl | exact L_wr hpl (by omega) | exact L_pl hp2 | exact L_rm hp2 | exact L_kd hp2 | exact L_lw hp2 | exact L_wo hp2 | exact L_wr hp2 (by omega)) rfl fl4_23 ?_
  refine jr_iconst hF dX4_copyFrom_53 (q := 54) rfl (by decide) ?_
  refine jr_bipush hF dX4_copyFrom_54 (q := 56) rfl (by decide) (by decide +kernel) ?_
  refine jr_copy0 hF cpW_ok dX4_copyFrom_56 (q := 59) rfl lk4_33 (by first | rfl | exact L_pl hpl | exact L_rm hpl | exact L_kd hpl | exact L_lw hpl | exact L_wo hpl | exact L_wr hpl (by omega) | exact L_pl hp2 | exact L_rm hp2 | exact L_kd hp2 | exact L_lw hp2 | exact L_wo hp2 | exact L_wr hp2 (by omega)) (by first | rfl | exact L_pl hpl | exact L_rm hpl | exact L_kd hpl | exact L_lw hpl | exact L_wo hpl | exact L_wr hpl (by omega) | exact L_pl hp2 | exact L_rm hp2 | exact L_kd hp2 | exact L_lw hp2 | exact L_wo hp2 | exact L_wr hp2 (by omega)) (by omega) (Nat.le_of_ble_eq_true rfl) (by decide) (fun σ3 f3 g3 => ?_)
  have e0 : ∀ k, k ≠ pl → k ≠ pl + 1 → k ≠ pl + 2 → k ≠ pl + 9 → σ3 k = σ k := fun k a1 a2 a3 a4 => by rw [f3 k a4, f2 k a3, f1 k a2, up_ne a1, up_ne a1]
  have e1 : σ3 pl 0 = (f_nm F : Int) := by rw [f3 pl (by omega), f2 pl (by omega), f1 pl (by omega)]; simp [up]
  have e2 : σ3 pl 1 = (f_nl F : Int) := by rw [f3 pl (by omega), f2 pl (by omega), f1 pl (by omega)]; simp [up]
  have e3 : ∀ m : Nat, m < f_nm F → σ3 (pl + 1) (m : Int) = f_rm F m := fun m hm => by
    rw [f3 _ (by omega), f2 _ (by omega), g1, if_pos (by omega), up_ne (by omega), up_ne (by omega)]
    exact q3 m hm
  have e4 : ∀ i : Nat, i < f_nl F → σ3 (pl + 2) (i : Int) = f_kd F i := fun i hi => by
    rw [f3 _ (by omega), g2, if_pos (by omega), f1 _ (by omega), up_ne (by omega), up_ne (by omega)]
    exact q4 i hi
  have e9 : ∀ j : Int, 0 ≤ j ∧ j < 7 → σ3 (pl + 9) j = σ (p2 + 9) j := fun j hj => by
    rw [g3, if_pos hj, f2 _ (by omega), f1 _ (by omega), up_ne (by omega), up_ne (by omega)]
  clear f1 f2 f3 g1 g2 g3
  refine jr_iconst hF dX4_copyFrom_59 (q := 60) rfl (by decide) ?_
  refine jr_istore_n hF dX4_copyFrom_60 (q := 61) rfl (by decide) rfl ?_
  refine gs_loop (α := Sg) (fun k _ => [some (vR pl), some (vR p2), some (vI (k : Int))]) (fun σ' => σ') (fun i σ' => (∀ k, k < pl + 4 ∨ pl + 9 ≤ k → σ' k = σ3 k) ∧ ∀ j m : Nat, j < i → m < 3 → σ' (pl + 4 + j) (m : Int) = σ (p2 + 4 + j) (m : Int)) (f_nl F) (fun σ' h => ?_) (fun i σ' hi h ih => ?_) σ3 ⟨fun _ _ => rfl, fun j m hj => by omega⟩
  · obtain ⟨a1, a2⟩ := h
    have b2 : σ' pl 1 = (f_nl F : Int) := by rw [a1 pl (by omega)]; exact e2
    refine jr_iload_n hF dX4_copyFrom_61 (q := 62) rfl rfl ?_
    refine jr_aload_n hF dX4_copyFrom_62 (q := 63) rfl rfl ?_
    refine jr_getI (ci := 4) (j := 1) hF 1 rfl dX4_copyFrom_63 (q := 66) rfl (by first | rfl | exact L_pl hpl | exact L_rm hpl | exact L_kd hpl | exact L_lw hpl | exact L_wo hpl | exact L_wr hpl (by omega) | exact L_pl hp2 | exact L_rm hp2 | exact L_kd hp2 | exact L_lw hp2 | exact L_wo hp2 | exact L_wr hp2 (by omega)) rfl fl4_30 ?_
    refine jr_icmp_ge hF dX4_copyFrom_66 (q := 69) rfl 93 (by decide) (fun hc => ?_) (fun hc => ?_)
    · refine jr_retV hF hR dX4_copyFrom_93 rfl ⟨⟨?_, b2, fun m hm => ?_, fun i hi => ?_, fun i m hi hm => ?_, fun i hi => ?_, ?_, ?_⟩, fun k hk => ?_⟩
      · rw [a1 pl (by omega)]; exact e1
      · rw [a1 _ (by omega)]; exact e3 m hm
      · rw [a1 _ (by omega)]; exact e4 i hi
      · rw [a2 i m hi (by omega)]; exact q5 i m hi hm
      · rw [a1 _ (by omega), e9 _ (by omega)]; exact q6 i hi
      · rw [a1 _ (by omega), e9 _ (by omega)]; exact q7
      · rw [a1 _ (by omega), e9 _ (by omega)]; exact q8
      · rw [a1 k (by omega), e0 k (by omega) (by omega) (by omega) (by omega)]
    · omega
  · obtain ⟨a1, a2⟩ := h
    have b2 : σ' pl 1 = (f_nl F : Int) := by rw [a1 pl (by omega)]; exact e2
    refine jr_iload_n hF dX4_copyFrom_61 (q := 62) rfl rfl ?_
    refine jr_aload_n hF dX4_copyFrom_62 (q := 63) rfl rfl ?_
    refine jr_getI (ci := 4) (j := 1) hF 1 rfl dX4_copyFrom_63 (q := 66) rfl (by first | rfl | exact L_pl hpl | exact L_rm hpl | exact L_kd hpl | exact L_lw hpl | exact L_wo hpl | exact L_wr hpl (by omega) | exact L_pl hp2 | exact L_rm hp2 | exact L_kd hp2 | exact L_lw hp2 | exact L_wo hp2 | exact L_wr hp2 (by omega)) rfl fl4_30 ?_
    refine jr_icmp_ge hF dX4_copyFrom_66 (q := 69) rfl 93 (by decide) (fun hc => ?_) (fun hc => ?_)
    · omega
    · refine jr_aload_n hF dX4_copyFrom_69 (q := 70) rfl rfl ?_
      refine jr_getR (ci := 4) (j := 4) hF dX4_copyFrom_70 (q := 73) rfl (by first | rfl | exact L_pl hpl | exact L_rm hpl | exact L_kd hpl | exact L_lw hpl | exact L_wo hpl | exact L_wr hpl (by omega) | exact L_pl hp2 | exact L_rm hp2 | exact L_kd hp2 | exact L_lw hp2 | exact L_wo hp2 | exact L_wr hp2 (by omega)) rfl fl4_20 ?_
      refine jr_iload_n hF dX4_copyFrom_73 (q := 74) rfl rfl ?_
      refine jr_aald hF dX4_copyFrom_74 (q := 75) rfl (by first | rfl | exact L_pl hpl | exact L_rm hpl | exact L_kd hpl | exact L_lw hpl | exact L_wo hpl | exact L_wr hpl (by omega) | exact L_pl hp2 | exact L_rm hp2 | exact L_kd hp2 | exact L_lw hp2 | exact L_wo hp2 | exact L_wr hp2 (by omega)) (by omega) ?_
      rw [tn]
      refine jr_iconst hF dX4_copyFrom_75 (q := 76) rfl (by decide) ?_
      refine jr_aload_n hF dX4_copyFrom_76 (q := 77) rfl rfl ?_
      refine jr_getR (ci := 4) (j := 4) hF dX4_copyFrom_77 (q := 80) rfl (by first | rfl | exact L_pl hpl | exact L_rm hpl | exact L_kd hpl | exact L_lw hpl | exact L_wo hpl | exact L_wr hpl (by omega) | exact L_pl hp2 | exact L_rm hp2 | exact L_kd hp2 | exact L_lw hp2 | exact L_wo hp2 | exact L_wr hp2 (by omega)) rfl fl4_20 ?_
      refine jr_iload_n hF dX4_copyFrom_80 (q := 81) rfl rfl ?_
      refine jr_aald hF dX4_copyFrom_81 (q := 82) rfl (by first | rfl | exact L_pl hpl | exact L_rm hpl | exact L_kd hpl | exact L_lw hpl | exact L_wo hpl | exact L_wr hpl (by omega) | exact L_pl hp2 | exact L_rm hp2 | exact L_kd hp2 | exact L_lw hp2 | exact L_wo hp2 | exact L_wr hp2 (by omega)) (by omega) ?_
      rw [tn]
      refine jr_iconst hF dX4_copyFrom_82 (q := 83) rfl (by decide) ?_
      refine jr_iconst hF dX4_copyFrom_83 (q := 84) rfl (by decide) ?_
      refine jr_copy0 hF cpW_ok dX4_copyFrom_84 (q := 87) rfl lk4_33 (by first | rfl | exact L_pl hpl | exact L_rm hpl | exact L_kd hpl | exact L_lw hpl | exact L_wo hpl | exact L_wr hpl (by omega) | exact L_pl hp2 | exact L_rm hp2 | exact L_kd hp2 | exact L_lw hp2 | exact L_wo hp2 | exact L_wr hp2 (by omega)) (by first | rfl | exact L_pl hpl | exact L_rm hpl | exact L_kd hpl | exact L_lw hpl | exact L_wo hpl | exact L_wr hpl (by omega) | exact L_pl hp2 | exact L_rm hp2 | exact L_kd hp2 | exact L_lw hp2 | exact L_wo hp2 | exact L_wr hp2 (by omega)) (by omega) (Nat.le_of_ble_eq_true rfl) (by decide) (fun σ4 f4 g4 => ?_)
      refine jr_iinc hF dX4_copyFrom_87 (q := 90) rfl (by decide) rfl rfl (by omega) ?_
      refine jr_goto hF dX4_copyFrom_90 61 (by decide) ?_
      refine ih σ4 ⟨fun k hk => ?_, fun j m hj hm => ?_⟩
      · rw [f4 k (by omega)]
        exact a1 k hk
      · by_cases ej : j = i
        · subst ej
          rw [g4, if_pos (by omega)]
          rw [a1 (p2 + 4 + j) (by omega), e0 _ (by omega) (by omega) (by omega) (by omega)]
        · rw [f4 _ (by omega)]
          exact a2 j m (by omega) hm

