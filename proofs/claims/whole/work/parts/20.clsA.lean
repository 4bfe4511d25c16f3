/-! ===== small methods: bounds, who is in ===== -/
def cnt (f : Nat → Bool) (n : Nat) : Int := match n with
  | 0 => 0
  | n + 1 => cnt f n + (if f n = true then 1 else 0)
theorem cnt_le (f : Nat → Bool) (n : Nat) : 0 ≤ cnt f n ∧ cnt f n ≤ n := by
  induction n with
  | zero => exact ⟨Int.le_refl _, Int.le_refl _⟩
  | succ n ih =>
    unfold cnt
    split <;> omega
set_option maxRecDepth 100000 in
theorem c_isWithin (σ : Sg) (a lo hi : Int) : RI mX9_isWithin 1 [vI a, vI lo, vI hi] σ (fun z σ' => z = (if lo ≤ a ∧ a ≤ hi then 1 else 0) ∧ σ' = σ) := by
  refine mkRun (by decide +kernel) (Nat.le_of_ble_eq_true rfl) (fun X hF hR => ?_)
  refine jr_iload_n hF dX9_isWithin_0 (q := 1) rfl rfl ?_
  refine jr_iload_n hF dX9_isWithin_1 (q := 2) rfl rfl ?_
  refine jr_icmp_lt hF dX9_isWithin_2 (q := 5) rfl 14 (by decide) (fun h1 => ?_) (fun h1 => ?_)
  · refine jr_iconst hF dX9_isWithin_14 (q := 15) rfl (by decide) ?_
    refine jr_retZ hF hR dX9_isWithin_15 rfl (by first | exact Or.inl rfl | exact Or.inr rfl | omega) ⟨by rw [if_neg (by omega)], rfl⟩
  · refine jr_iload_n hF dX9_isWithin_5 (q := 6) rfl rfl ?_
    refine jr_iload_n hF dX9_isWithin_6 (q := 7) rfl rfl ?_
    refine jr_icmp_gt hF dX9_isWithin_7 (q := 10) rfl 14 (by decide) (fun h2 => ?_) (fun h2 => ?_)
    · refine jr_iconst hF dX9_isWithin_14 (q := 15) rfl (by decide) ?_
      refine jr_retZ hF hR dX9_isWithin_15 rfl (by first | exact Or.inl rfl | exact Or.inr rfl | omega) ⟨by rw [if_neg (by omega)], rfl⟩
    · refine jr_iconst hF dX9_isWithin_10 (q := 11) rfl (by decide) ?_
      refine jr_goto hF dX9_isWithin_11 15 (by decide) ?_
      refine jr_retZ hF hR dX9_isWithin_15 rfl (by first | exact Or.inl rfl | exact Or.inr rfl | omega) ⟨by rw [if_pos (by omega)], rfl⟩
set_option maxRecDepth 100000 in
theorem c_hasLad (σ : Sg) (pl : Nat) (hpl : pl = 4 ∨ pl = 14) (i : Int) : RI mX4_hasLad 1 [vR pl, vI i] σ (fun z σ' => z = (if 0 ≤ i ∧ i < σ pl 1 then 1 else 0) ∧ σ' = σ) := by
  rcases hpl with rfl | rfl
  all_goals
    refine mkRun (by decide +kernel) (Nat.le_of_ble_eq_true rfl) (fun X hF hR => ?_)
    refine jr_iload_n hF dX4_hasLad_0 (q := 1) rfl rfl ?_
    refine jr_if_lt hF dX4_hasLad_1 (q := 4) rfl 16 (by decide) (fun h1 => ?_) (fun h1 => ?_)
    · refine jr_iconst hF dX4_hasLad_16 (q := 17) rfl (by decide) ?_
      refine jr_retZ hF hR dX4_hasLad_17 rfl (by first | exact Or.inl rfl | exact Or.inr rfl | omega) ⟨by rw [if_neg (by omega)], rfl⟩
    · refine jr_iload_n hF dX4_hasLad_4 (q := 5) rfl rfl ?_
      refine jr_aload_n hF dX4_hasLad_5 (q := 6) rfl rfl ?_
      refine jr_getI (ci := 4) (j := 1) hF 1 rfl dX4_hasLad_6 (q := 9) rfl rfl rfl fl4_30 ?_
      refine jr_icmp_ge hF dX4_hasLad_9 (q := 12) rfl 16 (by decide) (fun h2 => ?_) (fun h2 => ?_)
      · refine jr_iconst hF dX4_hasLad_16 (q := 17) rfl (by decide) ?_
        refine jr_retZ hF hR dX4_hasLad_17 rfl (by first | exact Or.inl rfl | exact Or.inr rfl | omega) ⟨by rw [if_neg (by omega)], rfl⟩
      · refine jr_iconst hF dX4_hasLad_12 (q := 13) rfl (by decide) ?_
        refine jr_goto hF dX4_hasLad_13 17 (by decide) ?_
        refine jr_retZ hF hR dX4_hasLad_17 rfl (by first | exact Or.inl rfl | exact Or.inr rfl | omega) ⟨by rw [if_pos (by omega)], rfl⟩
set_option maxRecDepth 100000 in
theorem c_isIn (σ : Sg) (i p : Int) (hi : 0 ≤ i ∧ i < 5) : RI mX2_isIn 1 [vR 24, vI i, vI p] σ (fun z σ' => z = (if σ 25 i = -4 ∧ p ≤ σ 27 i then 1 else 0) ∧ σ' = σ) := by
  refine mkRun (by decide +kernel) (Nat.le_of_ble_eq_true rfl) (fun X hF hR => ?_)
  refine jr_aload_n hF dX2_isIn_0 (q := 1) rfl rfl ?_
  refine jr_getR (ci := 2) (j := 0) hF dX2_isIn_1 (q := 4) rfl rfl rfl fl2_9 ?_
  refine jr_iload_n hF dX2_isIn_4 (q := 5) rfl rfl ?_
  refine jr_iald hF dX2_isIn_5 (q := 6) rfl rfl (by omega) ?_
  refine jr_bipush hF dX2_isIn_6 (q := 8) rfl (by decide) (by decide +kernel) ?_
  refine jr_icmp_ne hF dX2_isIn_8 (q := 11) rfl 25 (by decide) (fun h1 => ?_) (fun h1 => ?_)
  · refine jr_iconst hF dX2_isIn_25 (q := 26) rfl (by decide) ?_
    refine jr_retZ hF hR dX2_isIn_26 rfl (by first | exact Or.inl rfl | exact Or.inr rfl | omega) ⟨by rw [if_neg (by omega)], rfl⟩
  · refine jr_aload_n hF dX2_isIn_11 (q := 12) rfl rfl ?_
    refine jr_getR (ci := 2) (j := 2) hF dX2_isIn_12 (q := 15) rfl rfl rfl fl2_18 ?_
    refine jr_iload_n hF dX2_isIn_15 (q := 16) rfl rfl ?_
    refine jr_iald hF dX2_isIn_16 (q := 17) rfl rfl (by omega) ?_
    refine jr_iload_n hF dX2_isIn_17 (q := 18) rfl rfl ?_
    refine jr_icmp_lt hF dX2_isIn_18 (q := 21) rfl 25 (by decide) (fun h2 => ?_) (fun h2 => ?_)
    · refine jr_iconst hF dX2_isIn_25 (q := 26) rfl (by decide) ?_
      refine jr_retZ hF hR dX2_isIn_26 rfl (by first | exact Or.inl rfl | exact Or.inr rfl | omega) ⟨by rw [if_neg (by omega)], rfl⟩
    · refine jr_iconst hF dX2_isIn_21 (q := 22) rfl (by decide) ?_
      refine jr_goto hF dX2_isIn_22 26 (by decide) ?_
      refine jr_retZ hF hR dX2_isIn_26 rfl (by first | exact Or.inl rfl | exact Or.inr rfl | omega) ⟨by rw [if_pos (by omega)], rfl⟩
set_option maxRecDepth 100000 in
theorem howManyIn_loop {X : CT} (hF : Fix mX2_howManyIn 2 X) (σ : Sg) (pl : Nat) (hpl : pl = 4 ∨ pl = 14) (p : Int) (nl : Nat) (hn : σ pl 1 = (nl : Int)) (h5 : nl ≤ 5)
    (kx : Gs X 33 [some (vR 24), some (vR pl), some (vI p), some (vI (cnt (fun i => decide (σ 25 (i : Int) = -4 ∧ p ≤ σ 27 (i : Int))) nl)), some (vI (nl : Int))] [] σ) :
    ∀ (n k : Nat), k + n = nl → Gs X 5 [some (vR 24), some (vR pl), some (vI p), some (vI (cnt (fun i => decide (σ 25 (i : Int) = -4 ∧ p ≤ σ 27 (i : Int))) k)), some (vI (k : Int))] [] σ := by
  intro n
  induction n with
  | zero =>
    intro k hk
    have e : k = nl := by omega
    subst e
    rcases hpl with rfl | rfl
    all_goals
      refine jr_iload hF dX2_howManyIn_5 (q := 7) rfl rfl ?_
      refine jr_aload_n hF dX2_howManyIn_7 (q := 8) rfl rfl ?_
      refine jr_getI (ci := 4) (j := 1) hF 1 rfl dX2_howManyIn_8 (q := 11) rfl rfl rfl fl2_36 ?_
      refine jr_icmp_ge hF dX2_howManyIn_11 (q := 14) rfl 33 (by decide) (fun h1 => ?_) (fun h1 => ?_)
      · exact kx
      · omega
  | succ n ih =>
    intro k hk
    have hc := cnt_le (fun i => decide (σ 25 (i : Int) = -4 ∧ p ≤ σ 27 (i : Int))) k
    have ih1 := ih (k + 1) (by omega)
    rcases hpl with rfl | rfl
    all_goals
      refine jr_iload hF dX2_howManyIn_5 (q := 7) rfl rfl ?_
      refine jr_aload_n hF dX2_howManyIn_7 (q := 8) rfl rfl ?_
      refine jr_getI (ci := 4) (j := 1) hF 1 rfl dX2_howManyIn_8 (q := 11) rfl rfl rfl fl2_36 ?_
      refine jr_icmp_ge hF dX2_howManyIn_11 (q := 14) rfl 33 (by decide) (fun h1 => ?_) (fun h1 => ?_)
      · omega
      · refine jr_aload_n hF dX2_howManyIn_14 (q := 15) rfl rfl ?_
        refine jr_iload hF dX2_howManyIn_15 (q := 17) rfl rfl ?_
        refine jr_iload_n hF dX2_howManyIn_17 (q := 18) rfl rfl ?_
        refine jr_cV2I hF (c_isIn σ k p (by omega)) dX2_howManyIn_18 (q := 21) rfl lk2_65 vX2_isIn kX2_isIn rfl rfl rfl (by decide) (Nat.le_of_ble_eq_true rfl) (fun z σ1 h1 => ?_)
        obtain ⟨rfl, rfl⟩ := h1
        refine jr_if_eq hF dX2_howManyIn_21 (q := 24) rfl 27 (by decide) (fun h2 => ?_) (fun h2 => ?_)
        · refine jr_iinc hF dX2_howManyIn_27 (q := 30) rfl (by decide) rfl rfl (by omega) ?_
          refine jr_goto hF dX2_howManyIn_30 5 (by decide) ?_
          have e : ¬ (σ1 25 (k : Int) = -4 ∧ p ≤ σ1 27 (k : Int)) := fun h => by rw [if_pos h] at h2; omega
          have e2 : cnt (fun i => decide (σ1 25 (i : Int) = -4 ∧ p ≤ σ1 27 (i : Int))) (k + 1) = cnt (fun i => decide (σ1 25 (i : Int) = -4 ∧ p ≤ σ1 27 (i : Int))) k := by
            rw [cnt]
            simp [e]
          rw [e2] at ih1
          exact ih1
        · refine jr_iinc hF dX2_howManyIn_24 (q := 27) rfl (by decide) rfl rfl (by omega) ?_
          refine jr_iinc hF dX2_howManyIn_27 (q := 30) rfl (by decide) rfl rfl (by omega) ?_
          refine jr_goto hF dX2_howManyIn_30 5 (by decide) ?_
          have e : σ1 25 (k : Int) = -4 ∧ p ≤ σ1 27 (k : Int) := Classical.byContradiction fun h => by rw [if_neg h] at h2; omega
          have e2 : cnt (fun i => decide (σ1 25 (i : Int) = -4 ∧ p ≤ σ1 27 (i : Int))) (k + 1) = cnt (fun i => decide (σ1 25 (i : Int) = -4 ∧ p ≤ σ1 27 (i : Int))) k + 1 := by
            rw [cnt]
            simp [e]
          rw [e2] at ih1
          exact ih1
set_option maxRecDepth 100000 in
theorem c_howManyIn (σ : Sg) (pl : Nat) (hpl : pl = 4 ∨ pl = 14) (p : Int) (nl : Nat) (hn : σ pl 1 = (nl : Int)) (h5 : nl ≤ 5) : RI mX2_howManyIn 2 [vR 24, vR pl, vI p] σ (fun z σ' => z = cnt (fun i => decide (σ 25 (i : Int) = -4 ∧ p ≤ σ 27 (i : Int))) nl ∧ σ' = σ) := by
  refine mkRun (by decide +kernel) (Nat.le_of_ble_eq_true rfl) (fun X hF hR => ?_)
  refine jr_iconst hF dX2_howManyIn_0 (q := 1) rfl (by decide) ?_
  refine jr_istore_n hF dX2_howManyIn_1 (q := 2) rfl (by decide) rfl ?_
  refine jr_iconst hF dX2_howManyIn_2 (q := 3) rfl (by decide) ?_
  refine jr_istore hF dX2_howManyIn_3 (q := 5) rfl (by decide) rfl ?_
  refine howManyIn_loop hF σ pl hpl p nl hn h5 ?_ nl 0 (by omega)
  refine jr_iload_n hF dX2_howManyIn_33 (q := 34) rfl rfl ?_
  refine jr_retI hF hR dX2_howManyIn_34 rfl ⟨rfl, rfl⟩

