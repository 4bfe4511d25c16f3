set_option maxRecDepth 100000 in
theorem m_prices (σ : Sg) (F : FD) (hC : RepM σ F) (ok : okF F) (c : Nat) (hc : c < 2000) : RI mX10_takePrices 1 [vR 73, vI (c : Int)] σ (fun z σ' => z = psm (f_nm F) c ∧ (∀ m : Nat, m < f_nm F → σ' 91 (m : Int) = prc (f_nm F) c m) ∧ ∀ k, k ≠ 91 → σ' k = σ k) := by
  have h3 := ok.1
  have r1 := hC.1
  refine mkRun (by decide +kernel) (Nat.le_of_ble_eq_true rfl) (fun X hF hR => ?_)
  refine jr_iload_n hF dX10_takePrices_0 (q := 1) rfl rfl ?_
  refine jr_istore_n hF dX10_takePrices_1 (q := 2) rfl (by decide) rfl ?_
  refine jr_iconst hF dX10_takePrices_2 (q := 3) rfl (by decide) ?_
  refine jr_istore_n hF dX10_takePrices_3 (q := 4) rfl (by decide) rfl ?_
  refine jr_aload_n hF dX10_takePrices_4 (q := 5) rfl rfl ?_
  refine jr_getR (ci := 10) (j := 2) hF dX10_takePrices_5 (q := 8) rfl rfl rfl fl10_13 ?_
  refine jr_iconst hF dX10_takePrices_8 (q := 9) rfl (by decide) ?_
  refine jr_iald hF dX10_takePrices_9 (q := 10) rfl rfl (by omega) ?_
  rw [r1]
  refine jr_iconst hF dX10_takePrices_10 (q := 11) rfl (by decide) ?_
  refine jr_isub hF dX10_takePrices_11 (q := 12) rfl (by omega) ?_
  refine jr_istore hF dX10_takePrices_12 (q := 14) rfl (by decide) rfl ?_
  suffices start : Gs X 14 [some (vR 73), some (vI (c : Int)), some (vI ((c / 11 ^ (f_nm F - f_nm F) : Nat) : Int)), some (vI 0), some (vI ((f_nm F : Int) - 1))] [] σ by
    rw [Nat.sub_self, Nat.pow_zero, Nat.div_one] at start
    exact start
  refine gs_down (α := Sg × Nat × Int) (fun a => [some (vR 73), some (vI (c : Int)), some (vI ((c / 11 ^ (f_nm F - a.2.1) : Nat) : Int)), some (vI a.2.2), some (vI ((a.2.1 : Int) - 1))]) (fun a => a.1) (fun n a => a.2.1 = n ∧ a.2.1 ≤ f_nm F ∧ (0 ≤ a.2.2 ∧ a.2.2 ≤ 10 * ((f_nm F : Int) - a.2.1)) ∧ sumF (prc (f_nm F) c) a.2.1 + a.2.2 = psm (f_nm F) c ∧ (∀ j : Nat, a.2.1 ≤ j → j < f_nm F → a.1 91 (j : Int) = prc (f_nm F) c j) ∧ ∀ k, k ≠ 91 → a.1 k = σ k) (fun a hI => ?_) (fun n a hI ih => ?_) (f_nm F) (σ, f_nm F, 0) ⟨rfl, Nat.le_refl _, by show (0 : Int) ≤ 0 ∧ (0 : Int) ≤ 10 * ((f_nm F : Int) - (f_nm F : Int)); omega, by show sumF (prc (f_nm F) c) (f_nm F) + 0 = _; rw [Int.add_zero]; rfl, fun j h1 h2 => absurd h2 (by show ¬ j < f_nm F; exact Nat.not_lt.mpr h1), fun _ _ => rfl⟩
  · obtain ⟨σ2, k, s⟩ := a
    obtain ⟨c1, c2, c3, c4, c5, c6⟩ := hI
    dsimp only at c1 c2 c3 c4 c5 c6 ⊢
    subst c1
    have e0 : sumF (prc (f_nm F) c) 0 = 0 := rfl
    refine jr_iload hF dX10_takePrices_14 (q := 16) rfl rfl ?_
    refine jr_if_lt hF dX10_takePrices_16 (q := 19) rfl 51 (by decide) (fun a1 => ?_) (fun a1 => ?_)
    · refine jr_iload_n hF dX10_takePrices_51 (q := 52) rfl rfl ?_
      refine jr_retI hF hR dX10_takePrices_52 rfl ⟨by omega, fun m hm => c5 m (by omega) hm, c6⟩
    · omega
  · obtain ⟨σ2, k, s⟩ := a
    obtain ⟨c1, c2, c3, c4, c5, c6⟩ := hI
    dsimp only at c1 c2 c3 c4 c5 c6 ⊢
    subst c1
    have e0 : sumF (prc (f_nm F) c) (n + 1) = sumF (prc (f_nm F) c) n + prc (f_nm F) c n := rfl
    have hpl := prc_le (f_nm F) c n
    have e1 : prc (f_nm F) c n = ((c / 11 ^ (f_nm F - (n + 1)) % 11 : Nat) : Int) := by
      unfold prc dgp
      rw [if_pos (by omega), show f_nm F - 1 - n = f_nm F - (n + 1) by omega]
    have e2 : c / 11 ^ (f_nm F - n) = c / 11 ^ (f_nm F - (n + 1)) / 11 := by
      rw [Nat.div_div_eq_div_mul, ← Nat.pow_succ, show (f_nm F - (n + 1)).succ = f_nm F - n by omega]
    have hle : c / 11 ^ (f_nm F - (n + 1)) ≤ c := Nat.div_le_self _ _
    have ih1 := ih (up σ2 91 (n : Int) (prc (f_nm F) c n), n, s + prc (f_nm F) c n) ⟨rfl, by show n ≤ _; omega, by show 0 ≤ s + prc (f_nm F) c n ∧ s + prc (f_nm F) c n ≤ 10 * ((f_nm F : Int) - (n : Int)); omega, by show sumF (prc (f_nm F) c) n + (s + prc (f_nm F) c n) = _; omega, fun j l1 l2 => by
      show up σ2 91 (n : Int) _ 91 (j : Int) = _
      rw [up_nat]
      by_cases ej : j = n
      · rw [if_pos ej, ej]
      · rw [if_neg ej]
        replace l1 : n ≤ j := l1
        exact c5 j (by omega) l2, fun k hk => by show up σ2 91 _ _ k = _; rw [up_ne hk]; exact c6 k hk⟩
    dsimp only at ih1
    rw [e2] at ih1
    generalize c / 11 ^ (f_nm F - (n + 1)) = v at *
    refine jr_iload hF dX10_takePrices_14 (q := 16) rfl rfl ?_
    refine jr_if_lt hF dX10_takePrices_16 (q := 19) rfl 51 (by decide) (fun a1 => ?_) (fun a1 => ?_)
    · omega
    · refine jr_aload_n hF dX10_takePrices_19 (q := 20) rfl rfl ?_
      refine jr_getR (ci := 10) (j := 25) hF dX10_takePrices_20 (q := 23) rfl rfl rfl fl10_61 ?_
      refine jr_iload hF dX10_takePrices_23 (q := 25) rfl rfl ?_
      refine jr_iload_n hF dX10_takePrices_25 (q := 26) rfl rfl ?_
      refine jr_bipush hF dX10_takePrices_26 (q := 28) rfl (by decide) (by decide +kernel) ?_
      refine jr_irem hF dX10_takePrices_28 (q := 29) rfl (by omega) (by omega) ?_
      rw [show (v : Int) % 11 = prc (f_nm F) c n by rw [e1]; omega, show ((n + 1 : Nat) : Int) - 1 = (n : Int) by omega]
      refine jr_iast hF dX10_takePrices_29 (q := 30) rfl rfl (by omega) ?_
      refine jr_iload_n hF dX10_takePrices_30 (q := 31) rfl rfl ?_
      refine jr_aload_n hF dX10_takePrices_31 (q := 32) rfl rfl ?_
      refine jr_getR (ci := 10) (j := 25) hF dX10_takePrices_32 (q := 35) rfl rfl rfl fl10_61 ?_
      refine jr_iload hF dX10_takePrices_35 (q := 37) rfl rfl ?_
      refine jr_iald hF dX10_takePrices_37 (q := 38) rfl rfl (by omega) ?_
      rw [show (up σ2 91 (n : Int) (prc (f_nm F) c n)) 91 (n : Int) = prc (f_nm F) c n by rw [up_nat, if_pos rfl]]
      refine jr_iadd hF dX10_takePrices_38 (q := 39) rfl (by omega) ?_
      refine jr_istore_n hF dX10_takePrices_39 (q := 40) rfl (by decide) rfl ?_
      refine jr_iload_n hF dX10_takePrices_40 (q := 41) rfl rfl ?_
      refine jr_bipush hF dX10_takePrices_41 (q := 43) rfl (by decide) (by decide +kernel) ?_
      refine jr_idiv hF dX10_takePrices_43 (q := 44) rfl (by omega) (by omega) ?_
      rw [show (v : Int) / 11 = ((v / 11 : Nat) : Int) by omega]
      refine jr_istore_n hF dX10_takePrices_44 (q := 45) rfl (by decide) rfl ?_
      refine jr_iinc hF dX10_takePrices_45 (q := 48) rfl (by decide) rfl rfl (by omega) ?_
      refine jr_goto hF dX10_takePrices_48 14 (by decide) ?_
      exact ih1
theorem WM.fr {σ σ' : Sg} {F : FD} {c : Nat} (h : WM σ F c) (h1 : σ' 92 = σ 92) (h2 : σ' 93 = σ 93) : WM σ' F c := ⟨fun j hj => by rw [h1]; exact h.1 j hj, fun m hm => by rw [h2]; exact h.2 m hm⟩
set_option maxRecDepth 100000 in
theorem m_canRest (σ : Sg) (F : FD) (hC : RepM σ F) (ok : okF F) (pr : Nat → Int) (hP : ∀ m : Nat, m < f_nm F → σ 91 (m : Int) = pr m) (hp : ∀ m, 0 ≤ pr m ∧ pr m ≤ 10) : RI mX10_canRest 3 [vR 73] σ (fun z σ' => z = (if arB F (xJ F) pr = true then 1 else 0) ∧ ∀ k, k ≠ 92 → k ≠ 93 → σ' k = σ k) := by
  obtain ⟨x1, x2, -⟩ := xJ_spec ok
  have h5 := ok.2.1
  have h3 := ok.1
  have hpw : f_bs F ^ f_nl F ≤ 4 ^ 5 := Nat.le_trans (Nat.pow_le_pow_left (show f_nm F + 1 ≤ 4 by omega) _) (Nat.pow_le_pow_right (by decide) (by omega))
  refine mkRun (by decide +kernel) (Nat.le_of_ble_eq_true rfl) (fun X hF hR => ?_)
  refine jr_iconst hF dX10_canRest_0 (q := 1) rfl (by decide) ?_
  refine jr_istore_n hF dX10_canRest_1 (q := 2) rfl (by decide) rfl ?_
  refine gs_loop (α := Sg) (fun k _ => [some (vR 73), some (vI (k : Int))]) (fun σ' => σ') (fun k σ' => (∀ c, c < k → ¬ (fsB F 99 (f_nl F) c = true ∧ arB F c pr = true)) ∧ ∀ k, k ≠ 92 → k ≠ 93 → σ' k = σ k) (f_bs F ^ f_nl F) (fun σ1 h1 => ?_) (fun k σ1 hk h1 ih => ?_) σ ⟨fun c hc => absurd hc (Nat.not_lt_zero c), fun _ _ _ => rfl⟩
  · obtain ⟨i1, i2⟩ := h1
    have hC1 : RepM σ1 F := hC.fr (fun k l1 l2 => i2 k (by omega) (by omega))
    refine jr_iload_n hF dX10_canRest_2 (q := 3) rfl rfl ?_
    refine jr_aload_n hF dX10_canRest_3 (q := 4) rfl rfl ?_
    refine jr_cV0I hF (m_codes σ1 F hC1 ok) dX10_canRest_4 (q := 7) rfl lk10_200 vX10_codes kX10_codes rfl rfl rfl (by decide) (Nat.le_of_ble_eq_true rfl) (fun z σ2 hz => ?_)
    obtain ⟨rfl, rfl⟩ := hz
    refine jr_icmp_ge hF dX10_canRest_7 (q := 10) rfl 33 (by decide) (fun a1 => ?_) (fun a1 => ?_)
    · refine jr_iconst hF dX10_canRest_33 (q := 34) rfl (by decide) ?_
      refine jr_retZ hF hR dX10_canRest_34 rfl (by first | exact Or.inl rfl | exact Or.inr rfl | omega) ⟨by rw [if_neg (fun hh => i1 _ x1 ⟨x2, hh⟩)], i2⟩
    · omega
  · obtain ⟨i1, i2⟩ := h1
    have hC1 : RepM σ1 F := hC.fr (fun k l1 l2 => i2 k (by omega) (by omega))
    refine jr_iload_n hF dX10_canRest_2 (q := 3) rfl rfl ?_
    refine jr_aload_n hF dX10_canRest_3 (q := 4) rfl rfl ?_
    refine jr_cV0I hF (m_codes σ1 F hC1 ok) dX10_canRest_4 (q := 7) rfl lk10_200 vX10_codes kX10_codes rfl rfl rfl (by decide) (Nat.le_of_ble_eq_true rfl) (fun z σ2 hz => ?_)
    obtain ⟨rfl, rfl⟩ := hz
    refine jr_icmp_ge hF dX10_canRest_7 (q := 10) rfl 33 (by decide) (fun a1 => ?_) (fun a1 => ?_)
    · omega
    · refine jr_aload_n hF dX10_canRest_10 (q := 11) rfl rfl ?_
      refine jr_iload_n hF dX10_canRest_11 (q := 12) rfl rfl ?_
      refine jr_cV1I hF (m_seatAll σ1 F hC1 ok k hk) dX10_canRest_12 (q := 15) rfl lk10_203 vX10_seatAll kX10_seatAll rfl rfl rfl (by decide) (Nat.le_of_ble_eq_true rfl) (fun z σ2 hz => ?_)
      obtain ⟨rfl, g1, g2⟩ := hz
      have hfr : ∀ k, k ≠ 92 → k ≠ 93 → σ2 k = σ k := fun k n1 n2 => by rw [g2 k n1 n2]; exact i2 k n1 n2
      have hC2 : RepM σ2 F := hC.fr (fun k l1 l2 => hfr k (by omega) (by omega))
      have hnext : ¬ (fsB F 99 (f_nl F) k = true ∧ arB F k pr = true) → Gs X 27 [some (vR 73), some (vI (k : Int))] [] σ2 := by
        intro hn
        have ih1 := ih σ2 ⟨fun c hc => by
          by_cases e : c = k
          · subst e; exact hn
          · exact i1 c (by omega), hfr⟩
        refine jr_iinc hF dX10_canRest_27 (q := 30) rfl (by decide) rfl rfl (by omega) ?_
        refine jr_goto hF dX10_canRest_30 2 (by decide) ?_
        exact ih1
      refine jr_if_eq hF dX10_canRest_15 (q := 18) rfl 27 (by decide) (fun a2 => ?_) (fun a2 => ?_)
      · exact hnext (fun hh => by rw [bi_0 a2] at hh; exact absurd hh.1 (by decide))
      · refine jr_aload_n hF dX10_canRest_18 (q := 19) rfl rfl ?_
        refine jr_cV0I hF (m_atRest σ2 F hC2 ok k g1 pr (fun m hm => by rw [hfr 91 (by decide) (by decide)]; exact hP m hm) hp) dX10_canRest_19 (q := 22) rfl lk10_206 vX10_isAtRest kX10_isAtRest rfl rfl rfl (by decide) (Nat.le_of_ble_eq_true rfl) (fun z σ3 hz => ?_)
        obtain ⟨rfl, rfl⟩ := hz
        refine jr_if_eq hF dX10_canRest_22 (q := 25) rfl 27 (by decide) (fun a3 => ?_) (fun a3 => ?_)
        · exact hnext (fun hh => by rw [bi_0 a3] at hh; exact absurd hh.2 (by decide))
        · refine jr_iconst hF dX10_canRest_25 (q := 26) rfl (by decide) ?_
          refine jr_retZ hF hR dX10_canRest_26 rfl (by first | exact Or.inl rfl | exact Or.inr rfl | omega) ⟨by rw [if_pos (dual ok (fun m _ => (hp m).1) hk (bi_1 a2) (bi_1 a3))], hfr⟩
theorem vlp_sum {F : FD} {z0 : Int} (hz : z0 < 0) (c : Nat) : sumF (fun i => if (i : Int) = z0 then 0 else tm F i (dgp (f_bs F) (f_nl F) c i)) (f_nl F) = vlp F (f_nl F) c := by
  unfold vlp
  apply sumF_congr
  intro i _
  rw [if_neg (by omega)]
theorem sum_wo (a : Nat → Int) (i : Nat) : ∀ n, sumF (fun j => if (j : Int) = (i : Int) then 0 else a j) n = sumF a n - (if i < n then a i else 0) := by
  intro n
  induction n with
  | zero => rfl
  | succ n ih =>
    unfold sumF
    rw [ih]
    by_cases e : n = i
    · subst e
      rw [if_pos rfl, if_neg (show ¬ n < n by omega), if_pos (show n < n + 1 by omega)]
      omega
    · rw [if_neg (show ¬ (n : Int) = (i : Int) by omega)]
      by_cases e2 : i < n
      · rw [if_pos e2, if_pos (by omega)]
        omega
      · rw [if_neg e2, if_neg (by omega)]
        omega
set_option maxRecDepth 100000 in
theorem m_bestWay (σ : Sg) (F : FD) (hC : RepM σ F) (ok : okF F) (az : Int) (ab : Nat) (hab : (az < 0 ∧ ab = 99) ∨ (az = (ab : Int) ∧ ab < f_nl F)) : RI mX10_bestWay 3 [vR 73, vI az] σ (fun z σ' => z = ((wB F ab (f_bs F ^ f_nl F)).2 : Int) ∧ ∀ k, k ≠ 92 → k ≠ 93 → σ' k = σ k) := by
  have h5 := ok.2.1
  have h3 := ok.1
  have hpos := wB_pos ok ab
  have hpw : f_bs F ^ f_nl F ≤ 4 ^ 5 := Nat.le_trans (Nat.pow_le_pow_left (show f_nm F + 1 ≤ 4 by omega) _) (Nat.pow_le_pow_right (by decide) (by omega))
  refine mkRun (by decide +kernel) (Nat.le_of_ble_eq_true rfl) (fun X hF hR => ?_)
  refine jr_bipush hF dX10_bestWay_0 (q := 2) rfl (by decide) (by decide +kernel) ?_
  refine jr_istore_n hF dX10_bestWay_2 (q := 3) rfl (by decide) rfl ?_
  refine jr_bipush hF dX10_bestWay_3 (q := 5) rfl (by decide) (by decide +kernel) ?_
  refine jr_istore_n hF dX10_bestWay_5 (q := 6) rfl (by decide) rfl ?_
  refine jr_iconst hF dX10_bestWay_6 (q := 7) rfl (by decide) ?_
  refine jr_istore hF dX10_bestWay_7 (q := 9) rfl (by decide) rfl ?_
  refine gs_loop (α := Sg × Int × Int) (fun k a => [some (vR 73), some (vI az), some (vI a.2.1), some (vI a.2.2), some (vI (k : Int)), none, none]) (fun a => a.1) (fun k a => (((wB F ab k).1 = -1 ∧ a.2.2 = -4) ∨ (0 ≤ (wB F ab k).1 ∧ a.2.2 = (wB F ab k).1 ∧ a.2.1 = ((wB F ab k).2 : Int))) ∧ ∀ k, k ≠ 92 → k ≠ 93 → a.1 k = σ k) (f_bs F ^ f_nl F) (fun a h1 => ?_) (fun k a hk h1 ih => ?_) (σ, -4, -4) ⟨Or.inl ⟨rfl, rfl⟩, fun _ _ _ => rfl⟩
  · obtain ⟨σ1, b, t⟩ := a
    obtain ⟨i1, i2⟩ := h1
    dsimp only at i1 i2 ⊢
    have hC1 : RepM σ1 F := hC.fr (fun k l1 l2 => i2 k (by omega) (by omega))
    refine jr_iload hF dX10_bestWay_9 (q := 11) rfl rfl ?_
    refine jr_aload_n hF dX10_bestWay_11 (q := 12) rfl rfl ?_
    refine jr_cV0I hF (m_codes σ1 F hC1 ok) dX10_bestWay_12 (q := 15) rfl lk10_200 vX10_codes kX10_codes rfl rfl rfl (by decide) (Nat.le_of_ble_eq_true rfl) (fun z σ2 hz => ?_)
    obtain ⟨rfl, rfl⟩ := hz
    refine jr_icmp_ge hF dX10_bestWay_15 (q := 18) rfl 103 (by decide) (fun a1 => ?_) (fun a1 => ?_)
    · refine jr_iload_n hF dX10_bestWay_103 (q := 104) rfl rfl ?_
      refine jr_retI hF hR dX10_bestWay_104 rfl ⟨by omega, i2⟩
    · omega
  · obtain ⟨σ1, b, t⟩ := a
    obtain ⟨i1, i2⟩ := h1
    dsimp only at i1 i2 ⊢
    have hC1 : RepM σ1 F := hC.fr (fun k l1 l2 => i2 k (by omega) (by omega))
    have hvl := vlp_le ok (f_nl F) k (Nat.le_refl _)
    have eW : wB F ab (k + 1) = if fsB F ab (f_nl F) k = true ∧ (wB F ab k).1 < vlp F (f_nl F) k then (vlp F (f_nl F) k, k) else wB F ab k := rfl
    refine jr_iload hF dX10_bestWay_9 (q := 11) rfl rfl ?_
    refine jr_aload_n hF dX10_bestWay_11 (q := 12) rfl rfl ?_
    refine jr_cV0I hF (m_codes σ1 F hC1 ok) dX10_bestWay_12 (q := 15) rfl lk10_200 vX10_codes kX10_codes rfl rfl rfl (by decide) (Nat.le_of_ble_eq_true rfl) (fun z σ2 hz => ?_)
    obtain ⟨rfl, rfl⟩ := hz
    refine jr_icmp_ge hF dX10_bestWay_15 (q := 18) rfl 103 (by decide) (fun a1 => ?_) (fun a1 => ?_)
    · omega
    · refine jr_aload_n hF dX10_bestWay_18 (q := 19) rfl rfl ?_
      refine jr_iload hF dX10_bestWay_19 (q := 21) rfl rfl ?_
      refine jr_cV1I hF (m_seatAll σ1 F hC1 ok k hk) dX10_bestWay_21 (q := 24) rfl lk10_203 vX10_seatAll kX10_seatAll rfl rfl rfl (by decide) (Nat.le_of_ble_eq_true rfl) (fun z σ2 hz => ?_)
      obtain ⟨rfl, g1, g2⟩ := hz
      have hfr : ∀ k, k ≠ 92 → k ≠ 93 → σ2 k = σ k := fun k n1 n2 => by rw [g2 k n1 n2]; exact i2 k n1 n2
      have hC2 : RepM σ2 F := hC.fr (fun k l1 l2 => hfr k (by omega) (by omega))
      have r1 := hC2.1
      have hafter : ∀ (cz sm : Int), ((fsB F ab (f_nl F) k = true ∧ sm = vlp F (f_nl F) k) ∨ (fsB F ab (f_nl F) k = false ∧ sm = -4)) → Gs X 69 [some (vR 73), some (vI az), some (vI b), some (vI t), some (vI (k : Int)), some (vI cz), none] [vI sm] σ2 := by
        intro cz sm hsm
        refine jr_istore hF dX10_bestWay_69 (q := 71) rfl (by decide) rfl ?_
        refine jr_iload hF dX10_bestWay_71 (q := 73) rfl rfl ?_
        refine jr_iload_n hF dX10_bestWay_73 (q := 74) rfl rfl ?_
        by_cases hc : fsB F ab (f_nl F) k = true ∧ (wB F ab k).1 < vlp F (f_nl F) k
        · rw [if_pos hc] at eW
          have ih1 := ih (σ2, (k : Int), vlp F (f_nl F) k) ⟨Or.inr ⟨by rw [eW]; exact hvl.1, by rw [eW], by rw [eW]⟩, hfr⟩
          dsimp only at ih1
          have e : sm = vlp F (f_nl F) k := by
            rcases hsm with h | h
            · exact h.2
            · rw [hc.1] at h; exact absurd h.1 (by decide)
          subst e
          refine jr_icmp_le hF dX10_bestWay_74 (q := 77) rfl 82 (by decide) (fun a3 => ?_) (fun a3 => ?_)
          · omega
          · refine jr_iload hF dX10_bestWay_77 (q := 79) rfl rfl ?_
            refine jr_goto hF dX10_bestWay_79 83 (by decide) ?_
            refine jr_istore_n hF dX10_bestWay_83 (q := 84) rfl (by decide) rfl ?_
            refine jr_iload hF dX10_bestWay_84 (q := 86) rfl rfl ?_
            refine jr_iload_n hF dX10_bestWay_86 (q := 87) rfl rfl ?_
            refine jr_icmp_le hF dX10_bestWay_87 (q := 90) rfl 95 (by decide) (fun a4 => ?_) (fun a4 => ?_)
            · omega
            · refine jr_iload hF dX10_bestWay_90 (q := 92) rfl rfl ?_
              refine jr_goto hF dX10_bestWay_92 96 (by decide) ?_
              refine jr_istore_n hF dX10_bestWay_96 (q := 97) rfl (by decide) rfl ?_
              refine jr_fg 5 (jr_fg 6 ?_)
              refine jr_iinc hF dX10_bestWay_97 (q := 100) rfl (by decide) rfl rfl (by omega) ?_
              refine jr_goto hF dX10_bestWay_100 9 (by decide) ?_
              exact ih1
        · rw [if_neg hc] at eW
          have ih1 := ih (σ2, b, t) ⟨by rw [eW]; exact i1, hfr⟩
          dsimp only at ih1
          have e : sm ≤ t := by
            rcases hsm with h | h
            · have : ¬ (wB F ab k).1 < vlp F (f_nl F) k := fun hh => hc ⟨h.1, hh⟩
              omega
            · omega
          refine jr_icmp_le hF dX10_bestWay_74 (q := 77) rfl 82 (by decide) (fun a3 => ?_) (fun a3 => ?_)
          · refine jr_iload_n hF dX10_bestWay_82 (q := 83) rfl rfl ?_
            refine jr_istore_n hF dX10_bestWay_83 (q := 84) rfl (by decide) rfl ?_
            refine jr_iload hF dX10_bestWay_84 (q := 86) rfl rfl ?_
            refine jr_iload_n hF dX10_bestWay_86 (q := 87) rfl rfl ?_
            refine jr_icmp_le hF dX10_bestWay_87 (q := 90) rfl 95 (by decide) (fun a4 => ?_) (fun a4 => ?_)
            · refine jr_iload_n hF dX10_bestWay_95 (q := 96) rfl rfl ?_
              refine jr_istore_n hF dX10_bestWay_96 (q := 97) rfl (by decide) rfl ?_
              refine jr_fg 5 (jr_fg 6 ?_)
              refine jr_iinc hF dX10_bestWay_97 (q := 100) rfl (by decide) rfl rfl (by omega) ?_
              refine jr_goto hF dX10_bestWay_100 9 (by decide) ?_
              exact ih1
            · omega
          · omega
      have hno : fsB F ab (f_nl F) k = false → Gs X 50 [some (vR 73), some (vI az), some (vI b), some (vI t), some (vI (k : Int)), none, none] [] σ2 := by
        intro hn
        refine jr_iconst hF dX10_bestWay_50 (q := 51) rfl (by decide) ?_
        refine jr_istore hF dX10_bestWay_51 (q := 53) rfl (by decide) rfl ?_
        refine jr_iload hF dX10_bestWay_53 (q := 55) rfl rfl ?_
        refine jr_if_eq hF dX10_bestWay_55 (q := 58) rfl 67 (by decide) (fun a3 => ?_) (fun a3 => ?_)
        · refine jr_bipush hF dX10_bestWay_67 (q := 69) rfl (by decide) (by decide +kernel) ?_
          exact hafter _ _ (Or.inr ⟨hn, rfl⟩)
        · exact absurd rfl a3
      have hyes : fsB F ab (f_nl F) k = true → Gs X 46 [some (vR 73), some (vI az), some (vI b), some (vI t), some (vI (k : Int)), none, none] [] σ2 := by
        intro hn
        refine jr_iconst hF dX10_bestWay_46 (q := 47) rfl (by decide) ?_
        refine jr_goto hF dX10_bestWay_47 51 (by decide) ?_
        refine jr_istore hF dX10_bestWay_51 (q := 53) rfl (by decide) rfl ?_
        refine jr_iload hF dX10_bestWay_53 (q := 55) rfl rfl ?_
        refine jr_if_eq hF dX10_bestWay_55 (q := 58) rfl 67 (by decide) (fun a3 => ?_) (fun a3 => ?_)
        · exact absurd a3 (by decide)
        · refine jr_aload_n hF dX10_bestWay_58 (q := 59) rfl rfl ?_
          refine jr_bipush hF dX10_bestWay_59 (q := 61) rfl (by decide) (by decide +kernel) ?_
          refine jr_cV1I hF (m_sumOf σ2 F hC2 ok k g1 (-4)) dX10_bestWay_61 (q := 64) rfl lk10_215 vX10_sumOf kX10_sumOf rfl rfl rfl (by decide) (Nat.le_of_ble_eq_true rfl) (fun z σ3 hz => ?_)
          obtain ⟨hz1, rfl⟩ := hz
          rw [vlp_sum (by decide)] at hz1
          subst hz1
          refine jr_goto hF dX10_bestWay_64 69 (by decide) ?_
          exact hafter _ _ (Or.inl ⟨hn, rfl⟩)
      have h99 : fsB F 99 (f_nl F) k = true ↔ ∀ m, m < f_nm F → cnd F (f_nl F) k m ≤ f_rm F m := by
        rw [fsB_iff]
        exact ⟨fun hh => hh.1, fun hh => ⟨hh, fun hh2 => by omega⟩⟩
      have hab2 : fsB F ab (f_nl F) k = true ↔ fsB F 99 (f_nl F) k = true ∧ (ab < f_nl F → dgp (f_bs F) (f_nl F) k ab = f_nm F) := by
        rw [h99, fsB_iff]
      refine jr_if_eq hF dX10_bestWay_24 (q := 27) rfl 50 (by decide) (fun a2 => ?_) (fun a2 => ?_)
      · refine hno ?_
        have := bi_0 a2
        rw [← Bool.not_eq_true]
        intro hh
        rw [(hab2.mp hh).1] at this
        exact absurd this (by decide)
      · refine jr_iload_n hF dX10_bestWay_27 (q := 28) rfl rfl ?_
        refine jr_if_lt hF dX10_bestWay_28 (q := 31) rfl 46 (by decide) (fun a3 => ?_) (fun a3 => ?_)
        · exact hyes (hab2.mpr ⟨bi_1 a2, fun hh => by omega⟩)
        · obtain ⟨e1, e2⟩ : az = (ab : Int) ∧ ab < f_nl F := by omega
          have ed := g1.1 ab e2
          refine jr_aload_n hF dX10_bestWay_31 (q := 32) rfl rfl ?_
          refine jr_getR (ci := 10) (j := 26) hF dX10_bestWay_32 (q := 35) rfl rfl rfl fl10_64 ?_
          refine jr_iload_n hF dX10_bestWay_35 (q := 36) rfl rfl ?_
          rw [e1]
          refine jr_iald hF dX10_bestWay_36 (q := 37) rfl rfl (by omega) ?_
          refine jr_aload_n hF dX10_bestWay_37 (q := 38) rfl rfl ?_
          refine jr_getR (ci := 10) (j := 2) hF dX10_bestWay_38 (q := 41) rfl rfl rfl fl10_13 ?_
          refine jr_iconst hF dX10_bestWay_41 (q := 42) rfl (by decide) ?_
          refine jr_iald hF dX10_bestWay_42 (q := 43) rfl rfl (by omega) ?_
          rw [ed, r1, ← e1]
          refine jr_icmp_ne hF dX10_bestWay_43 (q := 46) rfl 50 (by decide) (fun a4 => ?_) (fun a4 => ?_)
          · refine hno ?_
            rw [← Bool.not_eq_true]
            intro hh
            have := (hab2.mp hh).2 e2
            omega
          · exact hyes (hab2.mpr ⟨bi_1 a2, fun _ => by omega⟩)

