/-! ===== small methods: bounds, who is in ===== -/
set_option maxRecDepth 100000 in
theorem c_isWithin (σ : Sg) (a lo hi : Int) : RI mX9_isWithin 1 [vI a, vI lo, vI hi] σ (fun z σ' => z = (if lo ≤ a ∧ a ≤ hi then 1 else 0) ∧ σ = σ') := by
  refine mkRun (by decide +kernel) (Nat.le_of_ble_eq_true rfl) (fun X hF hR => ?_)
  refine jr_iload_n hF dX9_isWithin_0 (q := 1) rfl rfl ?_
  refine jr_iload_n hF dX9_isWithin_1 (q := 2) rfl rfl ?_
  refine jr_icmp_lt hF dX9_isWithin_2 (q := 5) rfl 14 (by decide) (fun h1 => ?_) (fun h1 => ?_)
  · refine jr_iconst hF dX9_isWithin_14 (q := 15) rfl (by decide) ?_
    refine jr_retZ hF hR dX9_isWithin_15 rfl (by first | exact Or.inl rfl | exact Or.inr rfl | omega) ⟨by rw [if_neg (by omega)], rfl⟩
  · refine jr_iload_n hF dX9_isWithin_5 (q := 6) rfl rfl ?_
    refine jr_iload_n hF dX9_isWithin_6 (q := 7) rfl rfl ?_
    refine jr_icmp_gt hF dX9_isWithin_7 (q := 10) rfl 14 (by decide) (fun h2 => ?_) (fun h2 => ?_)
    · refine jr_iconst hF dX9_isWithin_14 (q := 15) rfl (by decide) ?_
      refine jr_retZ hF hR dX9_isWithin_15 rfl (by first | exact Or.inl rfl | exact Or.inr rfl | omega) ⟨by rw [if_neg (by omega)], rfl⟩
    · refine jr_iconst hF dX9_isWithin_10 (q := 11) rfl (by decide) ?_
      refine jr_goto hF dX9_isWithin_11 15 (by decide) ?_
      refine jr_retZ hF hR dX9_isWithin_15 rfl (by first | exact Or.inl rfl | exact Or.inr rfl | omega) ⟨by rw [if_pos (by omega)], rfl⟩
set_option maxRecDepth 100000 in
theorem c_hasLad (σ : Sg) (pl : Nat) (hpl : pl = 4 ∨ pl = 14) (i : Int) : RI mX4_hasLad 1 [vR pl, vI i] σ (fun z σ' => z = (if 0 ≤ i ∧ i < σ pl 1 then 1 else 0) ∧ σ = σ') := by
  rcases hpl with rfl | rfl
  all_goals
    refine mkRun (by decide +kernel) (Nat.le_of_ble_eq_true rfl) (fun X hF hR => ?_)
    refine jr_iload_n hF dX4_hasLad_0 (q := 1) rfl rfl ?_
    refine jr_if_lt hF dX4_hasLad_1 (q := 4) rfl 16 (by decide) (fun h1 => ?_) (fun h1 => ?_)
    · refine jr_iconst hF dX4_hasLad_16 (q := 17) rfl (by decide) ?_
      refine jr_retZ hF hR dX4_hasLad_17 rfl (by first | exact Or.inl rfl | exact Or.inr rfl | omega) ⟨by rw [if_neg (by omega)], rfl⟩
    · refine jr_iload_n hF dX4_hasLad_4 (q := 5) rfl rfl ?_
      refine jr_aload_n hF dX4_hasLad_5 (q := 6) rfl rfl ?_
      refine jr_getI (ci := 4) (j := 1) hF 1 rfl dX4_hasLad_6 (q := 9) rfl rfl rfl fl4_30 ?_
      refine jr_icmp_ge hF dX4_hasLad_9 (q := 12) rfl 16 (by decide) (fun h2 => ?_) (fun h2 => ?_)
      · refine jr_iconst hF dX4_hasLad_16 (q := 17) rfl (by decide) ?_
        refine jr_retZ hF hR dX4_hasLad_17 rfl (by first | exact Or.inl rfl | exact Or.inr rfl | omega) ⟨by rw [if_neg (by omega)], rfl⟩
      · refine jr_iconst hF dX4_hasLad_12 (q := 13) rfl (by decide) ?_
        refine jr_goto hF dX4_hasLad_13 17 (by decide) ?_
        refine jr_retZ hF hR dX4_hasLad_17 rfl (by first | exact Or.inl rfl | exact Or.inr rfl | omega) ⟨by rw [if_pos (by omega)], rfl⟩
set_option maxRecDepth 100000 in
theorem c_hasMaster (σ : Sg) (pl : Nat) (hpl : pl = 4 ∨ pl = 14) (i : Int) : RI mX4_hasMaster 1 [vR pl, vI i] σ (fun z σ' => z = (if 0 ≤ i ∧ i < σ pl 0 then 1 else 0) ∧ σ = σ') := by
  rcases hpl with rfl | rfl
  all_goals
    refine mkRun (by decide +kernel) (Nat.le_of_ble_eq_true rfl) (fun X hF hR => ?_)
    refine jr_iload_n hF dX4_hasMaster_0 (q := 1) rfl rfl ?_
    refine jr_if_lt hF dX4_hasMaster_1 (q := 4) rfl 16 (by decide) (fun h1 => ?_) (fun h1 => ?_)
    · refine jr_iconst hF dX4_hasMaster_16 (q := 17) rfl (by decide) ?_
      refine jr_retZ hF hR dX4_hasMaster_17 rfl (by first | exact Or.inl rfl | exact Or.inr rfl | omega) ⟨by rw [if_neg (by omega)], rfl⟩
    · refine jr_iload_n hF dX4_hasMaster_4 (q := 5) rfl rfl ?_
      refine jr_aload_n hF dX4_hasMaster_5 (q := 6) rfl rfl ?_
      refine jr_getI (ci := 4) (j := 0) hF 0 rfl dX4_hasMaster_6 (q := 9) rfl rfl rfl fl4_26 ?_
      refine jr_icmp_ge hF dX4_hasMaster_9 (q := 12) rfl 16 (by decide) (fun h2 => ?_) (fun h2 => ?_)
      · refine jr_iconst hF dX4_hasMaster_16 (q := 17) rfl (by decide) ?_
        refine jr_retZ hF hR dX4_hasMaster_17 rfl (by first | exact Or.inl rfl | exact Or.inr rfl | omega) ⟨by rw [if_neg (by omega)], rfl⟩
      · refine jr_iconst hF dX4_hasMaster_12 (q := 13) rfl (by decide) ?_
        refine jr_goto hF dX4_hasMaster_13 17 (by decide) ?_
        refine jr_retZ hF hR dX4_hasMaster_17 rfl (by first | exact Or.inl rfl | exact Or.inr rfl | omega) ⟨by rw [if_pos (by omega)], rfl⟩
set_option maxRecDepth 100000 in
theorem c_isIn (σ : Sg) (i p : Int) (hi : 0 ≤ i ∧ i < 5) : RI mX2_isIn 1 [vR 24, vI i, vI p] σ (fun z σ' => z = (if σ 25 i = -4 ∧ p ≤ σ 27 i then 1 else 0) ∧ σ = σ') := by
  refine mkRun (by decide +kernel) (Nat.le_of_ble_eq_true rfl) (fun X hF hR => ?_)
  refine jr_aload_n hF dX2_isIn_0 (q := 1) rfl rfl ?_
  refine jr_getR (ci := 2) (j := 0) hF dX2_isIn_1 (q := 4) rfl rfl rfl fl2_9 ?_
  refine jr_iload_n hF dX2_isIn_4 (q := 5) rfl rfl ?_
  refine jr_iald hF dX2_isIn_5 (q := 6) rfl rfl (by omega) ?_
  refine jr_bipush hF dX2_isIn_6 (q := 8) rfl (by decide) (by decide +kernel) ?_
  refine jr_icmp_ne hF dX2_isIn_8 (q := 11) rfl 25 (by decide) (fun h1 => ?_) (fun h1 => ?_)
  · refine jr_iconst hF dX2_isIn_25 (q := 26) rfl (by decide) ?_
    refine jr_retZ hF hR dX2_isIn_26 rfl (by first | exact Or.inl rfl | exact Or.inr rfl | omega) ⟨by rw [if_neg (by omega)], rfl⟩
  · refine jr_aload_n hF dX2_isIn_11 (q := 12) rfl rfl ?_
    refine jr_getR (ci := 2) (j := 2) hF dX2_isIn_12 (q := 15) rfl rfl rfl fl2_18 ?_
    refine jr_iload_n hF dX2_isIn_15 (q := 16) rfl rfl ?_
    refine jr_iald hF dX2_isIn_16 (q := 17) rfl rfl (by omega) ?_
    refine jr_iload_n hF dX2_isIn_17 (q := 18) rfl rfl ?_
    refine jr_icmp_lt hF dX2_isIn_18 (q := 21) rfl 25 (by decide) (fun h2 => ?_) (fun h2 => ?_)
    · refine jr_iconst hF dX2_isIn_25 (q := 26) rfl (by decide) ?_
      refine jr_retZ hF hR dX2_isIn_26 rfl (by first | exact Or.inl rfl | exact Or.inr rfl | omega) ⟨by rw [if_neg (by omega)], rfl⟩
    · refine jr_iconst hF dX2_isIn_21 (q := 22) rfl (by decide) ?_
      refine jr_goto hF dX2_isIn_22 26 (by decide) ?_
      refine jr_retZ hF hR dX2_isIn_26 rfl (by first | exact Or.inl rfl | exact Or.inr rfl | omega) ⟨by rw [if_pos (by omega)], rfl⟩
/-- Arrays.fill -/
theorem uc_uc (σ : Sg) (a : Nat) (f g : Int → Int) : uc (uc σ a f) a g = uc σ a g := by
  funext k
  unfold uc
  split <;> rfl
theorem uc_self (σ : Sg) (a : Nat) : uc σ a (σ a) = σ := by
  funext k
  unfold uc
  split
  · rename_i h; rw [h]
  · rfl
set_option maxRecDepth 100000 in
theorem c_fill (σ : Sg) (a n b : Nat) (fs : List (Option Nat)) (hL : Lay[a]? = some (1, n, b, fs)) (hn : n < 1000) (v : Int) : RV mJ7_fill_53178 1 [vR a, vI v] σ (fun σ' => uc σ a (fun j => if 0 ≤ j ∧ j < (n : Int) then v else σ a j) = σ') := by
  refine mkRun (by decide +kernel) (Nat.le_of_ble_eq_true rfl) (fun X hF hR => ?_)
  refine jr_iconst hF dJ7_fill_53178_0 (q := 1) rfl (by decide) ?_
  refine jr_istore_n hF dJ7_fill_53178_1 (q := 2) rfl (by decide) rfl ?_
  refine jr_aload_n hF dJ7_fill_53178_2 (q := 3) rfl rfl ?_
  refine jr_alen hF dJ7_fill_53178_3 (q := 4) rfl hL hn ?_
  refine jr_istore_n hF dJ7_fill_53178_4 (q := 5) rfl (by decide) rfl ?_
  have e0 : σ = uc σ a (fun j => if 0 ≤ j ∧ j < ((0 : Nat) : Int) then v else σ a j) := by
    have : (fun j => if 0 ≤ j ∧ j < ((0 : Nat) : Int) then v else σ a j) = σ a := by
      funext j
      rw [if_neg (by omega)]
    rw [this, uc_self]
  have key := gs_loop (X := X) (pc := 5) (α := Unit) (fun k _ => [some (vR a), some (vI v), some (vI (k : Int)), some (vI (n : Int))]) (fun _ => σ) (fun k _ => True) n
  have main : ∀ j k : Nat, k + j = n → Gs X 5 [some (vR a), some (vI v), some (vI (k : Int)), some (vI (n : Int))] [] (uc σ a (fun j => if 0 ≤ j ∧ j < (k : Int) then v else σ a j)) := by
    intro j
    induction j with
    | zero =>
      intro k hk
      have e : k = n := by omega
      subst e
      refine jr_iload_n hF dJ7_fill_53178_5 (q := 6) rfl rfl ?_
      refine jr_iload_n hF dJ7_fill_53178_6 (q := 7) rfl rfl ?_
      refine jr_icmp_ge hF dJ7_fill_53178_7 (q := 10) rfl 20 (by decide) (fun h => ?_) (fun h => ?_)
      · refine jr_retV hF hR dJ7_fill_53178_20 rfl rfl
      · omega
    | succ j ih =>
      intro k hk
      have ih1 := ih (k + 1) (by omega)
      refine jr_iload_n hF dJ7_fill_53178_5 (q := 6) rfl rfl ?_
      refine jr_iload_n hF dJ7_fill_53178_6 (q := 7) rfl rfl ?_
      refine jr_icmp_ge hF dJ7_fill_53178_7 (q := 10) rfl 20 (by decide) (fun h => ?_) (fun h => ?_)
      · omega
      · refine jr_aload_n hF dJ7_fill_53178_10 (q := 11) rfl rfl ?_
        refine jr_iload_n hF dJ7_fill_53178_11 (q := 12) rfl rfl ?_
        refine jr_iload_n hF dJ7_fill_53178_12 (q := 13) rfl rfl ?_
        refine jr_iast hF dJ7_fill_53178_13 (q := 14) rfl hL (by omega) ?_
        refine jr_iinc hF dJ7_fill_53178_14 (q := 17) rfl (by decide) rfl rfl (by omega) ?_
        refine jr_goto hF dJ7_fill_53178_17 5 (by decide) ?_
        rw [up_uc, uc_uc, uc_eq]
        have e1 : (fun j => if j = (k : Int) then v else if 0 ≤ j ∧ j < (k : Int) then v else σ a j) = (fun j => if 0 ≤ j ∧ j < ((k + 1 : Nat) : Int) then v else σ a j) := by
          funext j
          by_cases h1 : j = (k : Int)
          · rw [if_pos h1, if_pos (by omega)]
          · rw [if_neg h1]
            by_cases h2 : 0 ≤ j ∧ j < (k : Int)
            · rw [if_pos h2, if_pos (by omega)]
            · rw [if_neg h2, if_neg (by omega)]
        rw [e1]
        exact ih1
  have h0 := main n 0 (by omega)
  rw [← e0] at h0
  exact h0

