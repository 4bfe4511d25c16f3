set_option maxRecDepth 100000 in
theorem m_copy (σ : Sg) (a b : Int) (ha : 0 ≤ a ∧ a < 4) (hb : 0 ≤ b ∧ b < 4) (hne : a ≠ b) : RV mX10_copy 1 [vR 73, vI a, vI b] σ (fun σ' => (∀ j : Int, σ' 80 j = if 5 * b ≤ j ∧ j < 5 * b + 5 then σ 80 (j - 5 * b + 5 * a) else σ 80 j) ∧ (∀ j : Int, σ' 81 j = if j = b then σ 81 a else σ 81 j) ∧ (∀ j : Int, σ' 82 j = if j = b then σ 82 a else σ 82 j) ∧ ∀ k, k < 80 ∨ 82 < k → σ' k = σ k) := by
  refine mkRun (by decide +kernel) (Nat.le_of_ble_eq_true rfl) (fun X hF hR => ?_)
  refine jr_iconst hF dX10_copy_0 (q := 1) rfl (by decide) ?_
  refine jr_istore_n hF dX10_copy_1 (q := 2) rfl (by decide) rfl ?_
  refine gs_loop (α := Sg) (fun k _ => [some (vR 73), some (vI a), some (vI b), some (vI (k : Int))]) (fun σ' => σ') (fun n σ' => (∀ j : Int, σ' 80 j = if 5 * b ≤ j ∧ j < 5 * b + (n : Int) then σ 80 (j - 5 * b + 5 * a) else σ 80 j) ∧ ∀ k, k ≠ 80 → σ' k = σ k) 5 (fun σ1 h1 => ?_) (fun k σ1 hk h1 ih => ?_) σ ⟨fun j => by rw [if_neg (by omega)], fun _ _ => rfl⟩
  · obtain ⟨i1, i2⟩ := h1
    refine jr_iload_n hF dX10_copy_2 (q := 3) rfl rfl ?_
    refine jr_iconst hF dX10_copy_3 (q := 4) rfl (by decide) ?_
    refine jr_icmp_ge hF dX10_copy_4 (q := 7) rfl 33 (by decide) (fun a1 => ?_) (fun a1 => ?_)
    · refine jr_aload_n hF dX10_copy_33 (q := 34) rfl rfl ?_
      refine jr_getR (ci := 10) (j := 8) hF dX10_copy_34 (q := 37) rfl rfl rfl fl10_31 ?_
      refine jr_iload_n hF dX10_copy_37 (q := 38) rfl rfl ?_
      refine jr_aload_n hF dX10_copy_38 (q := 39) rfl rfl ?_
      refine jr_getR (ci := 10) (j := 8) hF dX10_copy_39 (q := 42) rfl rfl rfl fl10_31 ?_
      refine jr_iload_n hF dX10_copy_42 (q := 43) rfl rfl ?_
      refine jr_iald hF dX10_copy_43 (q := 44) rfl rfl (by omega) ?_
      refine jr_iast hF dX10_copy_44 (q := 45) rfl rfl (by omega) ?_
      refine jr_aload_n hF dX10_copy_45 (q := 46) rfl rfl ?_
      refine jr_getR (ci := 10) (j := 9) hF dX10_copy_46 (q := 49) rfl rfl rfl fl10_34 ?_
      refine jr_iload_n hF dX10_copy_49 (q := 50) rfl rfl ?_
      refine jr_aload_n hF dX10_copy_50 (q := 51) rfl rfl ?_
      refine jr_getR (ci := 10) (j := 9) hF dX10_copy_51 (q := 54) rfl rfl rfl fl10_34 ?_
      refine jr_iload_n hF dX10_copy_54 (q := 55) rfl rfl ?_
      refine jr_iald hF dX10_copy_55 (q := 56) rfl rfl (by omega) ?_
      refine jr_iast hF dX10_copy_56 (q := 57) rfl rfl (by omega) ?_
      refine jr_retV hF hR dX10_copy_57 rfl ⟨fun j => ?_, fun j => ?_, fun j => ?_, fun k hk => ?_⟩
      · rw [up_ne (by decide), up_ne (by decide)]; exact i1 j
      · rw [up_ne (by decide), i2 81 (by decide)]
        unfold up
        by_cases e : j = b
        · rw [if_pos ⟨rfl, e⟩, if_pos e]
        · rw [if_neg (fun hh => e hh.2), if_neg e, i2 81 (by decide)]
      · unfold up
        by_cases e : j = b
        · rw [if_pos ⟨rfl, e⟩, if_pos e, if_neg (by omega), i2 82 (by decide)]
        · rw [if_neg (fun hh => e hh.2), if_neg e, if_neg (by omega), i2 82 (by decide)]
      · rw [up_ne (by omega), up_ne (by omega)]; exact i2 k (by omega)
    · omega
  · obtain ⟨i1, i2⟩ := h1
    refine jr_iload_n hF dX10_copy_2 (q := 3) rfl rfl ?_
    refine jr_iconst hF dX10_copy_3 (q := 4) rfl (by decide) ?_
    refine jr_icmp_ge hF dX10_copy_4 (q := 7) rfl 33 (by decide) (fun a1 => ?_) (fun a1 => ?_)
    · omega
    · have e : σ1 80 (5 * a + (k : Int)) = σ 80 (5 * a + (k : Int)) := by rw [i1, if_neg (by omega)]
      have ih1 := ih (up σ1 80 (5 * b + (k : Int)) (σ 80 (5 * a + (k : Int)))) ⟨fun j => ?_, fun c hc => by rw [up_ne hc]; exact i2 c hc⟩
      · refine jr_aload_n hF dX10_copy_7 (q := 8) rfl rfl ?_
        refine jr_getR (ci := 10) (j := 7) hF dX10_copy_8 (q := 11) rfl rfl rfl fl10_28 ?_
        refine jr_iconst hF dX10_copy_11 (q := 12) rfl (by decide) ?_
        refine jr_iload_n hF dX10_copy_12 (q := 13) rfl rfl ?_
        refine jr_imul hF dX10_copy_13 (q := 14) rfl (by omega) ?_
        refine jr_iload_n hF dX10_copy_14 (q := 15) rfl rfl ?_
        refine jr_iadd hF dX10_copy_15 (q := 16) rfl (by omega) ?_
        refine jr_aload_n hF dX10_copy_16 (q := 17) rfl rfl ?_
        refine jr_getR (ci := 10) (j := 7) hF dX10_copy_17 (q := 20) rfl rfl rfl fl10_28 ?_
        refine jr_iconst hF dX10_copy_20 (q := 21) rfl (by decide) ?_
        refine jr_iload_n hF dX10_copy_21 (q := 22) rfl rfl ?_
        refine jr_imul hF dX10_copy_22 (q := 23) rfl (by omega) ?_
        refine jr_iload_n hF dX10_copy_23 (q := 24) rfl rfl ?_
        refine jr_iadd hF dX10_copy_24 (q := 25) rfl (by omega) ?_
        refine jr_iald hF dX10_copy_25 (q := 26) rfl rfl (by omega) ?_
        rw [e]
        refine jr_iast hF dX10_copy_26 (q := 27) rfl rfl (by omega) ?_
        refine jr_iinc hF dX10_copy_27 (q := 30) rfl (by decide) rfl rfl (by omega) ?_
        refine jr_goto hF dX10_copy_30 2 (by decide) ?_
        exact ih1
      · unfold up
        by_cases ej : j = 5 * b + (k : Int)
        · rw [if_pos ⟨rfl, ej⟩, if_pos (by omega), show j - 5 * b + 5 * a = 5 * a + (k : Int) by omega]
        · rw [if_neg (by omega), i1]
          by_cases ek : 5 * b ≤ j ∧ j < 5 * b + (k : Int)
          · rw [if_pos ek, if_pos (by omega)]
          · rw [if_neg ek, if_neg (by omega)]
section
variable (σ : Sg) (len : Nat) (B : Nat → Int) (F : FD) (nu : Nat) (W V : Nat → Int) (nk : Nat) (S : Nat → Int → Int) (ns : Nat) (M Y : Nat → Int)
set_option maxRecDepth 100000 in
theorem m_undo (h : RM σ (len, B, F, nu, W, V, nk, S, ns, M, Y)) (ok : okA (len, B, F, nu, W, V, nk, S, ns, M, Y)) : RI mX10_undo 10 [vR 73] σ (fun z σ' => z = (if nu = 0 then -2 else (nu : Int) - 1) ∧ RM σ' (nx_undo (len, B, F, nu, W, V, nk, S, ns, M, Y)) ∧ ∀ k, k < 73 → σ' k = σ k) := by
  have h0 := h
  obtain ⟨⟨t1, t3⟩, hC, ⟨c1, c2⟩, hK, s1, s2⟩ := h
  have h5 : f_nl F ≤ 5 := ok.2.2.1.2.1
  have hnu : nu ≤ 8 := ok.2.2.2.2.2.1
  have hvl : ∀ j, j < nu → vld (f_nl F) (W j) (V j) := ok.2.2.2.2.2.2.1
  refine mkRun (by decide +kernel) (Nat.le_of_ble_eq_true rfl) (fun X hF hR => ?_)
  refine jr_aload_n hF dX10_undo_0 (q := 1) rfl rfl ?_
  refine jr_getI (ci := 10) (j := 11) hF 11 rfl dX10_undo_1 (q := 4) rfl rfl rfl fl10_125 ?_
  rw [c1]
  refine jr_if_ne hF dX10_undo_4 (q := 7) rfl 10 (by decide) (fun a1 => ?_) (fun a1 => ?_)
  · have hn0 : nu ≠ 0 := by omega
    rw [if_neg hn0] at hR
    have hv := hvl (nu - 1) (by omega)
    unfold vld at hv
    obtain ⟨e1, e2⟩ := c2 (nu - 1) (by omega)
    have ei : ((nu - 1 : Nat) : Int) = (nu : Int) - 1 := by omega
    rw [ei] at e1 e2
    have eg : up σ 73 11 ((nu : Int) - 1) 73 11 = (nu : Int) - 1 := by simp [up]
    refine jr_aload_n hF dX10_undo_10 (q := 11) rfl rfl ?_
    refine jr_dup hF dX10_undo_11 (q := 12) rfl rfl ?_
    refine jr_getI (ci := 10) (j := 11) hF 11 rfl dX10_undo_12 (q := 15) rfl rfl rfl fl10_125 ?_
    rw [c1]
    refine jr_iconst hF dX10_undo_15 (q := 16) rfl (by decide) ?_
    refine jr_isub hF dX10_undo_16 (q := 17) rfl (by omega) ?_
    refine jr_putI (ci := 10) (j := 11) hF 11 rfl dX10_undo_17 (q := 20) rfl rfl rfl fp10_125 ?_
    refine jr_aload_n hF dX10_undo_20 (q := 21) rfl rfl ?_
    refine jr_getR (ci := 10) (j := 12) hF dX10_undo_21 (q := 24) rfl rfl rfl fl10_37 ?_
    refine jr_iconst hF dX10_undo_24 (q := 25) rfl (by decide) ?_
    refine jr_aload_n hF dX10_undo_25 (q := 26) rfl rfl ?_
    refine jr_getI (ci := 10) (j := 11) hF 11 rfl dX10_undo_26 (q := 29) rfl rfl rfl fl10_125 ?_
    rw [eg]
    refine jr_imul hF dX10_undo_29 (q := 30) rfl (by omega) ?_
    refine jr_iald hF dX10_undo_30 (q := 31) rfl rfl (by omega) ?_
    rw [up_ne (show (83 : Nat) ≠ 73 by decide), e1]
    refine jr_istore_n hF dX10_undo_31 (q := 32) rfl (by decide) rfl ?_
    refine jr_aload_n hF dX10_undo_32 (q := 33) rfl rfl ?_
    refine jr_getR (ci := 10) (j := 12) hF dX10_undo_33 (q := 36) rfl rfl rfl fl10_37 ?_
    refine jr_iconst hF dX10_undo_36 (q := 37) rfl (by decide) ?_
    refine jr_aload_n hF dX10_undo_37 (q := 38) rfl rfl ?_
    refine jr_getI (ci := 10) (j := 11) hF 11 rfl dX10_undo_38 (q := 41) rfl rfl rfl fl10_125 ?_
    rw [eg]
    refine jr_imul hF dX10_undo_41 (q := 42) rfl (by omega) ?_
    refine jr_iconst hF dX10_undo_42 (q := 43) rfl (by decide) ?_
    refine jr_iadd hF dX10_undo_43 (q := 44) rfl (by omega) ?_
    refine jr_iald hF dX10_undo_44 (q := 45) rfl rfl (by omega) ?_
    rw [up_ne (show (83 : Nat) ≠ 73 by decide), e2]
    refine jr_istore_n hF dX10_undo_45 (q := 46) rfl (by decide) rfl ?_
    refine jr_iload_n hF dX10_undo_46 (q := 47) rfl rfl ?_
    refine jr_iconst hF dX10_undo_47 (q := 48) rfl (by decide) ?_
    have hw : (0 ≤ W (nu - 1) ∧ W (nu - 1) < f_nl F) ∨ W (nu - 1) = 5 ∨ W (nu - 1) = 6 := by omega
    have hC1 : RepM (up σ 73 11 ((nu : Int) - 1)) F := hC.fr (fun k l1 l2 => up_ne (by omega))
    have hK1 : KM (up σ 73 11 ((nu : Int) - 1)) (f_nl F) nk S := ⟨by rw [← hK.1]; simp [up], fun k hk => by rw [up_ne (by decide), up_ne (by decide), up_ne (by decide)]; exact hK.2 k hk⟩
    have hend : Gs X 84 [some (vR 73), some (vI (W (nu - 1))), some (vI (V (nu - 1)))] [] (upM (up σ 73 11 ((nu : Int) - 1)) (W (nu - 1)) (V (nu - 1))) := by
      refine jr_aload_n hF dX10_undo_84 (q := 85) rfl rfl ?_
      refine jr_getI (ci := 10) (j := 11) hF 11 rfl dX10_undo_85 (q := 88) rfl rfl rfl fl10_125 ?_
      rw [upM_ne (by omega), eg]
      refine jr_retI hF hR dX10_undo_88 rfl ⟨rfl, ?_, fun k hk => by rw [upM_ne (by omega), up_ne (by omega)]⟩
      have e : nx_undo (len, B, F, nu, W, V, nk, S, ns, M, Y) = (len, B, f_set F (W (nu - 1)) (V (nu - 1)), nu - 1, W, V, nk, S, ns, M, Y) := by
        unfold nx_undo
        rw [if_neg (show ¬ nu = 0 from hn0)]
      rw [e]
      refine ⟨⟨?_, fun k hk => ?_⟩, hC1.set h5 hw _, ⟨?_, fun j hj => ?_⟩, ?_, ?_, fun j hj => ?_⟩
      · rw [upM_ne (by omega), ← t1]; simp [up]
      · rw [upM_ne (by omega), up_ne (by decide)]; exact t3 k hk
      · rw [upM_ne (by omega), eg]; omega
      · rw [upM_ne (by omega), up_ne (by decide)]; exact c2 j (by omega)
      · rw [(f_set_nl F _ _).1]; exact hK1.set (by omega)
      · rw [upM_ne (by omega), ← s1]; simp [up]
      · rw [upM_ne (by omega), upM_ne (by omega), up_ne (by decide), up_ne (by decide)]; exact s2 j hj
    refine jr_icmp_ne hF dX10_undo_48 (q := 51) rfl 61 (by decide) (fun a2 => ?_) (fun a2 => ?_)
    · refine jr_iload_n hF dX10_undo_61 (q := 62) rfl rfl ?_
      refine jr_bipush hF dX10_undo_62 (q := 64) rfl (by decide) (by decide +kernel) ?_
      refine jr_icmp_ne hF dX10_undo_64 (q := 67) rfl 77 (by decide) (fun a3 => ?_) (fun a3 => ?_)
      · unfold upM at hend
        rw [if_neg a2, if_neg a3] at hend
        refine jr_aload_n hF dX10_undo_77 (q := 78) rfl rfl ?_
        refine jr_getR (ci := 10) (j := 7) hF dX10_undo_78 (q := 81) rfl rfl rfl fl10_28 ?_
        refine jr_iload_n hF dX10_undo_81 (q := 82) rfl rfl ?_
        refine jr_iload_n hF dX10_undo_82 (q := 83) rfl rfl ?_
        refine jr_iast hF dX10_undo_83 (q := 84) rfl rfl (by omega) ?_
        exact hend
      · unfold upM at hend
        rw [if_neg a2, if_pos a3] at hend
        refine jr_aload_n hF dX10_undo_67 (q := 68) rfl rfl ?_
        refine jr_getR (ci := 10) (j := 9) hF dX10_undo_68 (q := 71) rfl rfl rfl fl10_34 ?_
        refine jr_iconst hF dX10_undo_71 (q := 72) rfl (by decide) ?_
        refine jr_iload_n hF dX10_undo_72 (q := 73) rfl rfl ?_
        refine jr_iast hF dX10_undo_73 (q := 74) rfl rfl (by omega) ?_
        refine jr_goto hF dX10_undo_74 84 (by decide) ?_
        exact hend
    · unfold upM at hend
      rw [if_pos a2] at hend
      refine jr_aload_n hF dX10_undo_51 (q := 52) rfl rfl ?_
      refine jr_getR (ci := 10) (j := 8) hF dX10_undo_52 (q := 55) rfl rfl rfl fl10_31 ?_
      refine jr_iconst hF dX10_undo_55 (q := 56) rfl (by decide) ?_
      refine jr_iload_n hF dX10_undo_56 (q := 57) rfl rfl ?_
      refine jr_iast hF dX10_undo_57 (q := 58) rfl rfl (by omega) ?_
      refine jr_goto hF dX10_undo_58 84 (by decide) ?_
      exact hend
  · have hn0 : nu = 0 := by omega
    rw [if_pos hn0] at hR
    refine jr_bipush hF dX10_undo_7 (q := 9) rfl (by decide) (by decide +kernel) ?_
    refine jr_retI hF hR dX10_undo_9 rfl ⟨rfl, by unfold nx_undo; rw [if_pos (show nu = 0 from hn0)]; exact h0, fun _ _ => rfl⟩
set_option maxRecDepth 100000 in
theorem m_keep (h : RM σ (len, B, F, nu, W, V, nk, S, ns, M, Y)) (ok : okA (len, B, F, nu, W, V, nk, S, ns, M, Y)) : RI mX10_keep 10 [vR 73] σ (fun z σ' => z = (if nk = 2 then -3 else (nk : Int) + 1) ∧ RM σ' (nx_keep (len, B, F, nu, W, V, nk, S, ns, M, Y)) ∧ ∀ k, k < 73 → σ' k = σ k) := by
  have h0 := h
  obtain ⟨⟨t1, t3⟩, hC, ⟨c1, c2⟩, ⟨k1, k2⟩, s1, s2⟩ := h
  have h5 : f_nl F ≤ 5 := ok.2.2.1.2.1
  have hnk : nk ≤ 2 := ok.2.2.2.2.2.2.2.1
  refine mkRun (by decide +kernel) (Nat.le_of_ble_eq_true rfl) (fun X hF hR => ?_)
  refine jr_aload_n hF dX10_keep_0 (q := 1) rfl rfl ?_
  refine jr_getI (ci := 10) (j := 10) hF 10 rfl dX10_keep_1 (q := 4) rfl rfl rfl fl10_122 ?_
  rw [k1]
  refine jr_iconst hF dX10_keep_4 (q := 5) rfl (by decide) ?_
  refine jr_icmp_ne hF dX10_keep_5 (q := 8) rfl 11 (by decide) (fun a1 => ?_) (fun a1 => ?_)
  · have hn2 : nk ≠ 2 := by omega
    rw [if_neg hn2] at hR
    have eg : up σ 73 10 ((nk : Int) + 1) 73 10 = (nk : Int) + 1 := by simp [up]
    refine jr_aload_n hF dX10_keep_11 (q := 12) rfl rfl ?_
    refine jr_dup hF dX10_keep_12 (q := 13) rfl rfl ?_
    refine jr_getI (ci := 10) (j := 10) hF 10 rfl dX10_keep_13 (q := 16) rfl rfl rfl fl10_122 ?_
    rw [k1]
    refine jr_iconst hF dX10_keep_16 (q := 17) rfl (by decide) ?_
    refine jr_iadd hF dX10_keep_17 (q := 18) rfl (by omega) ?_
    refine jr_putI (ci := 10) (j := 10) hF 10 rfl dX10_keep_18 (q := 21) rfl rfl rfl fp10_122 ?_
    refine jr_aload_n hF dX10_keep_21 (q := 22) rfl rfl ?_
    refine jr_iconst hF dX10_keep_22 (q := 23) rfl (by decide) ?_
    refine jr_iconst hF dX10_keep_23 (q := 24) rfl (by decide) ?_
    refine jr_aload_n hF dX10_keep_24 (q := 25) rfl rfl ?_
    refine jr_getI (ci := 10) (j := 10) hF 10 rfl dX10_keep_25 (q := 28) rfl rfl rfl fl10_122 ?_
    rw [eg]
    refine jr_iadd hF dX10_keep_28 (q := 29) rfl (by omega) ?_
    refine jr_cV2V hF (m_copy _ 0 (1 + ((nk : Int) + 1)) (by omega) (by omega) (by omega)) dX10_keep_29 (q := 32) rfl lk10_118 vX10_copy kX10_copy rfl rfl rfl (by decide) (Nat.le_of_ble_eq_true rfl) (fun σ1 hz => ?_)
    obtain ⟨g1, g2, g3, g4⟩ := hz
    refine jr_aload_n hF dX10_keep_32 (q := 33) rfl rfl ?_
    refine jr_getI (ci := 10) (j := 10) hF 10 rfl dX10_keep_33 (q := 36) rfl rfl rfl fl10_122 ?_
    rw [g4 73 (by omega), eg]
    refine jr_retI hF hR dX10_keep_36 rfl ⟨rfl, ?_, fun k hk => by rw [g4 k (by omega), up_ne (by omega)]⟩
    have e : nx_keep (len, B, F, nu, W, V, nk, S, ns, M, Y) = (len, B, F, nu, W, V, nk + 1, (fun k => if k = nk then f_get F else S k), ns, M, Y) := by
      unfold nx_keep
      rw [if_neg (show ¬ nk = 2 from hn2)]
    rw [e]
    have hC1 : RepM σ1 F := by
      obtain ⟨q1, q2, q3, q4, q5, q6, q7, q8⟩ := hC
      refine ⟨?_, ?_, fun m hm => ?_, fun i hi => ?_, fun i m hi hm => ?_, fun i hi => ?_, ?_, ?_⟩
      · rw [g4 75 (by omega), up_ne (by decide)]; exact q1
      · rw [g4 77 (by omega), up_ne (by decide)]; exact q2
      · rw [g4 76 (by omega), up_ne (by decide)]; exact q3 m hm
      · rw [g4 78 (by omega), up_ne (by decide)]; exact q4 i hi
      · rw [g4 79 (by omega), up_ne (by decide)]; exact q5 i m hi hm
      · rw [g1, if_neg (by omega), up_ne (by decide)]; exact q6 i hi
      · rw [g2, if_neg (by omega), up_ne (by decide)]; exact q7
      · rw [g3, if_neg (by omega), up_ne (by decide)]; exact q8
    refine ⟨⟨?_, fun k hk => ?_⟩, hC1, ⟨?_, fun j hj => ?_⟩, ⟨?_, fun k hk => ?_⟩, ?_, fun j hj => ?_⟩
    · rw [g4 73 (by omega), ← t1]; simp [up]
    · rw [g4 74 (by omega), up_ne (by decide)]; exact t3 k hk
    · rw [g4 73 (by omega), ← c1]; simp [up]
    · rw [g4 83 (by omega), up_ne (by decide)]; exact c2 j hj
    · rw [g4 73 (by omega), eg]; omega
    · by_cases ek : k = nk
      · subst ek
        dsimp only
        rw [if_pos rfl]
        refine ⟨fun i hi => ?_, ?_, ?_⟩
        · rw [g1, if_pos (by omega), up_ne (by decide), show 5 * (1 + ((k + 1 : Nat) : Int)) + (i : Int) - 5 * (1 + ((k : Int) + 1)) + 5 * 0 = (i : Int) by omega, hC.lim hi]
          unfold f_get
          rw [if_neg (by omega), if_neg (by omega), show ((i : Int)).toNat = i by omega]
        · rw [g2, if_pos (by omega), up_ne (by decide)]; exact hC.2.2.2.2.2.2.1
        · rw [g3, if_pos (by omega), up_ne (by decide)]; exact hC.2.2.2.2.2.2.2
      · dsimp only
        rw [if_neg ek]
        obtain ⟨j1, j2, j3⟩ := k2 k (by omega)
        refine ⟨fun i hi => ?_, ?_, ?_⟩
        · rw [g1, if_neg (by omega), up_ne (by decide)]; exact j1 i hi
        · rw [g2, if_neg (by omega), up_ne (by decide)]; exact j2
        · rw [g3, if_neg (by omega), up_ne (by decide)]; exact j3
    · rw [g4 73 (by omega), ← s1]; simp [up]
    · rw [g4 84 (by omega), g4 85 (by omega), up_ne (by decide), up_ne (by decide)]; exact s2 j hj
  · have hn2 : nk = 2 := by omega
    rw [if_pos hn2] at hR
    refine jr_bipush hF dX10_keep_8 (q := 10) rfl (by decide) (by decide +kernel) ?_
    refine jr_retI hF hR dX10_keep_10 rfl ⟨rfl, by unfold nx_keep; rw [if_pos (show nk = 2 from hn2)]; exact h0, fun _ _ => rfl⟩
set_option maxRecDepth 100000 in
theorem m_back (h : RM σ (len, B, F, nu, W, V, nk, S, ns, M, Y)) (ok : okA (len, B, F, nu, W, V, nk, S, ns, M, Y)) : RI mX10_back 10 [vR 73] σ (fun z σ' => z = (if nk = 0 then -2 else (nk : Int) - 1) ∧ RM σ' (nx_back (len, B, F, nu, W, V, nk, S, ns, M, Y)) ∧ ∀ k, k < 73 → σ' k = σ k) := by
  have h0 := h
  obtain ⟨⟨t1, t3⟩, hC, ⟨c1, c2⟩, ⟨k1, k2⟩, s1, s2⟩ := h
  have h5 : f_nl F ≤ 5 := ok.2.2.1.2.1
  have hnk : nk ≤ 2 := ok.2.2.2.2.2.2.2.1
  refine mkRun (by decide +kernel) (Nat.le_of_ble_eq_true rfl) (fun X hF hR => ?_)
  refine jr_aload_n hF dX10_back_0 (q := 1) rfl rfl ?_
  refine jr_getI (ci := 10) (j := 10) hF 10 rfl dX10_back_1 (q := 4) rfl rfl rfl fl10_122 ?_
  rw [k1]
  refine jr_if_ne hF dX10_back_4 (q := 7) rfl 10 (by decide) (fun a1 => ?_) (fun a1 => ?_)
  · have hn2 : nk ≠ 0 := by omega
    rw [if_neg hn2] at hR
    obtain ⟨j1, j2, j3⟩ := k2 (nk - 1) (by omega)
    rw [show ((nk - 1 + 1 : Nat) : Int) = (nk : Int) by omega] at j1 j2 j3
    refine jr_aload_n hF dX10_back_10 (q := 11) rfl rfl ?_
    refine jr_iconst hF dX10_back_11 (q := 12) rfl (by decide) ?_
    refine jr_aload_n hF dX10_back_12 (q := 13) rfl rfl ?_
    refine jr_getI (ci := 10) (j := 10) hF 10 rfl dX10_back_13 (q := 16) rfl rfl rfl fl10_122 ?_
    rw [k1]
    refine jr_iadd hF dX10_back_16 (q := 17) rfl (by omega) ?_
    refine jr_iconst hF dX10_back_17 (q := 18) rfl (by decide) ?_
    refine jr_cV2V hF (m_copy σ (1 + (nk : Int)) 0 (by omega) (by omega) (by omega)) dX10_back_18 (q := 21) rfl lk10_118 vX10_copy kX10_copy rfl rfl rfl (by decide) (Nat.le_of_ble_eq_true rfl) (fun σ1 hz => ?_)
    obtain ⟨g1, g2, g3, g4⟩ := hz
    have eg : σ1 73 10 = (nk : Int) := by rw [g4 73 (by omega)]; exact k1
    refine jr_aload_n hF dX10_back_21 (q := 22) rfl rfl ?_
    refine jr_dup hF dX10_back_22 (q := 23) rfl rfl ?_
    refine jr_getI (ci := 10) (j := 10) hF 10 rfl dX10_back_23 (q := 26) rfl rfl rfl fl10_122 ?_
    rw [eg]
    refine jr_iconst hF dX10_back_26 (q := 27) rfl (by decide) ?_
    refine jr_isub hF dX10_back_27 (q := 28) rfl (by omega) ?_
    refine jr_putI (ci := 10) (j := 10) hF 10 rfl dX10_back_28 (q := 31) rfl rfl rfl fp10_122 ?_
    refine jr_aload_n hF dX10_back_31 (q := 32) rfl rfl ?_
    refine jr_iconst hF dX10_back_32 (q := 33) rfl (by decide) ?_
    refine jr_putI (ci := 10) (j := 11) hF 11 rfl dX10_back_33 (q := 36) rfl rfl rfl fp10_125 ?_
    refine jr_aload_n hF dX10_back_36 (q := 37) rfl rfl ?_
    refine jr_getI (ci := 10) (j := 10) hF 10 rfl dX10_back_37 (q := 40) rfl rfl rfl fl10_122 ?_
    have ez : up (up σ1 73 10 ((nk : Int) - 1)) 73 11 0 73 10 = (nk : Int) - 1 := by simp [up]
    rw [ez]
    refine jr_retI hF hR dX10_back_40 rfl ⟨rfl, ?_, fun k hk => by rw [up_ne (by omega), up_ne (by omega), g4 k (by omega)]⟩
    have e : nx_back (len, B, F, nu, W, V, nk, S, ns, M, Y) = (len, B, f_law F (S (nk - 1)), 0, W, V, nk - 1, S, ns, M, Y) := by
      unfold nx_back
      rw [if_neg (show ¬ nk = 0 from hn2)]
    rw [e]
    have hC1 : RepM (up (up σ1 73 10 ((nk : Int) - 1)) 73 11 0) (f_law F (S (nk - 1))) := by
      obtain ⟨q1, q2, q3, q4, q5, q6, q7, q8⟩ := hC
      refine ⟨?_, ?_, fun m hm => ?_, fun i hi => ?_, fun i m hi hm => ?_, fun i hi => ?_, ?_, ?_⟩
      · rw [up_ne (by decide), up_ne (by decide), g4 75 (by omega)]; exact q1
      · rw [up_ne (by decide), up_ne (by decide), g4 77 (by omega)]; exact q2
      · rw [up_ne (by decide), up_ne (by decide), g4 76 (by omega)]; exact q3 m hm
      · rw [up_ne (by decide), up_ne (by decide), g4 78 (by omega)]; exact q4 i hi
      · rw [up_ne (by decide), up_ne (by decide), g4 79 (by omega)]; exact q5 i m hi hm
      · replace hi : i < f_nl F := hi
        rw [up_ne (by decide), up_ne (by decide), g1, if_pos (by omega), show (i : Int) - 5 * 0 + 5 * (1 + (nk : Int)) = 5 * (1 + (nk : Int)) + (i : Int) by omega]
        exact j1 i hi
      · rw [up_ne (by decide), up_ne (by decide), g2, if_pos rfl]; exact j2
      · rw [up_ne (by decide), up_ne (by decide), g3, if_pos rfl]; exact j3
    refine ⟨⟨?_, fun k hk => ?_⟩, hC1, ⟨?_, fun j hj => absurd hj (Nat.not_lt_zero j)⟩, ⟨?_, fun k hk => ?_⟩, ?_, fun j hj => ?_⟩
    · rw [← t1, ← g4 73 (by omega)]; simp [up]
    · rw [up_ne (by decide), up_ne (by decide), g4 74 (by omega)]; exact t3 k hk
    · simp [up]
    · rw [ez]; omega
    · obtain ⟨j1, j2, j3⟩ := k2 k (by omega)
      refine ⟨fun i hi => ?_, ?_, ?_⟩
      · replace hi : i < f_nl F := hi
        rw [up_ne (by decide), up_ne (by decide), g1, if_neg (by omega)]; exact j1 i hi
      · rw [up_ne (by decide), up_ne (by decide), g2, if_neg (by omega)]; exact j2
      · rw [up_ne (by decide), up_ne (by decide), g3, if_neg (by omega)]; exact j3
    · rw [← s1, ← g4 73 (by omega)]; simp [up]
    · rw [up_ne (by decide), up_ne (by decide), up_ne (by decide), up_ne (by decide), g4 84 (by omega), g4 85 (by omega)]; exact s2 j hj
  · have hn2 : nk = 0 := by omega
    rw [if_pos hn2] at hR
    refine jr_bipush hF dX10_back_7 (q := 9) rfl (by decide) (by decide +kernel) ?_
    refine jr_retI hF hR dX10_back_9 rfl ⟨rfl, by unfold nx_back; rw [if_pos (show nk = 0 from hn2)]; exact h0, fun _ _ => rfl⟩
set_option maxRecDepth 100000 in
theorem m_seenSo (h : RM σ (len, B, F, nu, W, V, nk, S, ns, M, Y)) (ok : okA (len, B, F, nu, W, V, nk, S, ns, M, Y)) (az : Int) (ab : Nat) (hab : absR az ab) : RI mX10_isSeenSo 7 [vR 73, vI az] σ (fun z σ' => z = (if fitF F ns M Y ab = true then 1 else 0) ∧ MFr σ σ') := by
  have hC := h.2.1
  have okF' := ok.2.2.1
  have h5 := okF'.2.1
  have hns : ns ≤ 6 := ok.2.2.2.2.2.2.2.2.2.1
  have hcond : ∀ b : Bool, (if b = true then (1 : Int) else 0) = 0 ∨ (if b = true then (1 : Int) else 0) = 1 := fun b => by cases b <;> simp
  refine mkRun (by decide +kernel) (Nat.le_of_ble_eq_true rfl) (fun X hF hR => ?_)
  refine jr_aload_n hF dX10_isSeenSo_0 (q := 1) rfl rfl ?_
  refine jr_iload_n hF dX10_isSeenSo_1 (q := 2) rfl rfl ?_
  refine jr_cV1V hF (m_goFair σ F hC okF' az ab hab) dX10_isSeenSo_2 (q := 5) rfl lk10_182 vX10_goFair kX10_goFair rfl rfl rfl (by decide) (Nat.le_of_ble_eq_true rfl) (fun σ1 hz => ?_)
  obtain ⟨g1, g2⟩ := hz
  have h1 := h.mf g2
  obtain ⟨-, hC1, -, -, s1, s2⟩ := h1
  refine jr_iconst hF dX10_isSeenSo_5 (q := 6) rfl (by decide) ?_
  refine jr_istore_n hF dX10_isSeenSo_6 (q := 7) rfl (by decide) rfl ?_
  refine jr_iconst hF dX10_isSeenSo_7 (q := 8) rfl (by decide) ?_
  refine jr_istore_n hF dX10_isSeenSo_8 (q := 9) rfl (by decide) rfl ?_
  refine gs_loop (α := Unit) (fun k _ => [some (vR 73), some (vI az), some (vI (if fitB (f_fair F ab (f_nm F)) (f_nl F) M Y k = true then 1 else 0)), some (vI (k : Int))]) (fun _ => σ1) (fun _ _ => True) ns (fun _ _ => ?_) (fun k _ hk _ ih => ?_) () trivial
  · refine jr_iload_n hF dX10_isSeenSo_9 (q := 10) rfl rfl ?_
    refine jr_aload_n hF dX10_isSeenSo_10 (q := 11) rfl rfl ?_
    refine jr_getI (ci := 10) (j := 13) hF 13 rfl dX10_isSeenSo_11 (q := 14) rfl rfl rfl fl10_128 ?_
    rw [s1]
    refine jr_icmp_ge hF dX10_isSeenSo_14 (q := 17) rfl 52 (by decide) (fun a1 => ?_) (fun a1 => ?_)
    · refine jr_iload_n hF dX10_isSeenSo_52 (q := 53) rfl rfl ?_
      refine jr_retZ hF hR dX10_isSeenSo_53 rfl (hcond _) ⟨rfl, g2⟩
    · omega
  · obtain ⟨e1, e2⟩ := s2 k hk
    have ef : fitB (f_fair F ab (f_nm F)) (f_nl F) M Y (k + 1) = (fitB (f_fair F ab (f_nm F)) (f_nl F) M Y k && decide (mostF (fun i => decide ((f_fair F ab (f_nm F)).1 i = M k)) (f_fair F ab (f_nm F)).2 (f_nl F) = Y k)) := rfl
    have ih1 := ih () trivial
    rw [ef] at ih1
    refine jr_iload_n hF dX10_isSeenSo_9 (q := 10) rfl rfl ?_
    refine jr_aload_n hF dX10_isSeenSo_10 (q := 11) rfl rfl ?_
    refine jr_getI (ci := 10) (j := 13) hF 13 rfl dX10_isSeenSo_11 (q := 14) rfl rfl rfl fl10_128 ?_
    rw [s1]
    refine jr_icmp_ge hF dX10_isSeenSo_14 (q := 17) rfl 52 (by decide) (fun a1 => ?_) (fun a1 => ?_)
    · omega
    · refine jr_iload_n hF dX10_isSeenSo_17 (q := 18) rfl rfl ?_
      refine jr_if_eq hF dX10_isSeenSo_18 (q := 21) rfl 44 (by decide) (fun a2 => ?_) (fun a2 => ?_)
      · rw [bi_0 a2] at ih1 ⊢
        rw [Bool.false_and] at ih1
        refine jr_iconst hF dX10_isSeenSo_44 (q := 45) rfl (by decide) ?_
        refine jr_istore_n hF dX10_isSeenSo_45 (q := 46) rfl (by decide) rfl ?_
        refine jr_iinc hF dX10_isSeenSo_46 (q := 49) rfl (by decide) rfl rfl (by omega) ?_
        refine jr_goto hF dX10_isSeenSo_49 9 (by decide) ?_
        exact ih1
      · rw [bi_1 a2] at ih1 ⊢
        rw [Bool.true_and] at ih1
        refine jr_aload_n hF dX10_isSeenSo_21 (q := 22) rfl rfl ?_
        refine jr_aload_n hF dX10_isSeenSo_22 (q := 23) rfl rfl ?_
        refine jr_getR (ci := 10) (j := 14) hF dX10_isSeenSo_23 (q := 26) rfl rfl rfl fl10_40 ?_
        refine jr_iload_n hF dX10_isSeenSo_26 (q := 27) rfl rfl ?_
        refine jr_iald hF dX10_isSeenSo_27 (q := 28) rfl rfl (by omega) ?_
        rw [e1]
        refine jr_cV1I hF (m_mostOf σ1 (f_nl F) hC1.2.1 h5 _ g1 (M k)) dX10_isSeenSo_28 (q := 31) rfl lk10_194 vX10_mostOf kX10_mostOf rfl rfl rfl (by decide) (Nat.le_of_ble_eq_true rfl) (fun z σ2 hz => ?_)
        obtain ⟨rfl, rfl⟩ := hz
        refine jr_aload_n hF dX10_isSeenSo_31 (q := 32) rfl rfl ?_
        refine jr_getR (ci := 10) (j := 15) hF dX10_isSeenSo_32 (q := 35) rfl rfl rfl fl10_43 ?_
        refine jr_iload_n hF dX10_isSeenSo_35 (q := 36) rfl rfl ?_
        refine jr_iald hF dX10_isSeenSo_36 (q := 37) rfl rfl (by omega) ?_
        rw [e2]
        refine jr_icmp_ne hF dX10_isSeenSo_37 (q := 40) rfl 44 (by decide) (fun a3 => ?_) (fun a3 => ?_)
        · rw [decide_eq_false a3] at ih1
          refine jr_iconst hF dX10_isSeenSo_44 (q := 45) rfl (by decide) ?_
          refine jr_istore_n hF dX10_isSeenSo_45 (q := 46) rfl (by decide) rfl ?_
          refine jr_iinc hF dX10_isSeenSo_46 (q := 49) rfl (by decide) rfl rfl (by omega) ?_
          refine jr_goto hF dX10_isSeenSo_49 9 (by decide) ?_
          exact ih1
        · rw [decide_eq_true a3] at ih1
          refine jr_iconst hF dX10_isSeenSo_40 (q := 41) rfl (by decide) ?_
          refine jr_goto hF dX10_isSeenSo_41 45 (by decide) ?_
          refine jr_istore_n hF dX10_isSeenSo_45 (q := 46) rfl (by decide) rfl ?_
          refine jr_iinc hF dX10_isSeenSo_46 (q := 49) rfl (by decide) rfl rfl (by omega) ?_
          refine jr_goto hF dX10_isSeenSo_49 9 (by decide) ?_
          exact ih1
end
theorem or32 : ∀ k : Fin 32, ∀ n : Fin 5, orb ((Int32.ofInt (k.val : Int) ||| Int32.ofInt 32).toInt) n.val = (Int32.ofInt (orb (k.val : Int) n.val) ||| Int32.ofInt 32).toInt := by decide +kernel
theorem or32r : ∀ k : Fin 32, 0 ≤ (Int32.ofInt (k.val : Int) ||| Int32.ofInt 32).toInt ∧ (Int32.ofInt (k.val : Int) ||| Int32.ofInt 32).toInt < 64 := by decide +kernel
/-- 32 first or last -/
def or3 (c : Bool) (a : Int) : Int := if c = true then (Int32.ofInt a ||| Int32.ofInt 32).toInt else a
theorem or3_orb (c : Bool) (f : Nat → Bool) (n : Nat) (hn : n < 5) : orb (or3 c (bitsF f n)) n = or3 c (orb (bitsF f n) n) := by
  unfold or3
  split
  · rw [bitsF_bN f n (by omega)]
    exact or32 ⟨bN f n, bN_32 f n (by omega)⟩ ⟨n, hn⟩
  · rfl
theorem or3_rg (c : Bool) (f : Nat → Bool) (n : Nat) (hn : n ≤ 5) : 0 ≤ or3 c (bitsF f n) ∧ or3 c (bitsF f n) < 64 := by
  have := bN_32 f n hn
  unfold or3
  rw [bitsF_bN f n hn]
  split
  · exact or32r ⟨bN f n, this⟩
  · omega
section
variable (σ : Sg) (len : Nat) (B : Nat → Int) (F : FD) (nu : Nat) (W V : Nat → Int) (nk : Nat) (S : Nat → Int → Int) (ns : Nat) (M Y : Nat → Int)
set_option maxRecDepth 100000 in
theorem m_cousins (h : RM σ (len, B, F, nu, W, V, nk, S, ns, M, Y)) (ok : okA (len, B, F, nu, W, V, nk, S, ns, M, Y)) : RI mX10_cousins 10 [vR 73] σ (fun z σ' => z = an_cousins F ns M Y ∧ RM σ' (len, B, F, nu, W, V, nk, S, ns, M, Y) ∧ ∀ k, k < 73 → σ' k = σ k) := by
  have okF' := ok.2.2.1
  have h5 := okF'.2.1
  have eA : an_cousins F ns M Y = or3 (fitF F ns M Y 99) (bitsF (fitF F ns M Y) (f_nl F)) := rfl
  refine mkRun (by decide +kernel) (Nat.le_of_ble_eq_true rfl) (fun X hF hR => ?_)
  rw [eA] at hR
  refine jr_aload_n hF dX10_cousins_0 (q := 1) rfl rfl ?_
  refine jr_bipush hF dX10_cousins_1 (q := 3) rfl (by decide) (by decide +kernel) ?_
  refine jr_cV1I hF (m_seenSo σ len B F nu W V nk S ns M Y h ok (-4) 99 abM4) dX10_cousins_3 (q := 6) rfl lk10_221 vX10_isSeenSo kX10_isSeenSo rfl rfl rfl (by decide) (Nat.le_of_ble_eq_true rfl) (fun z σ1 hz => ?_)
  obtain ⟨rfl, g1⟩ := hz
  have hloop : Gs X 18 [some (vR 73), some (vI (or3 (fitF F ns M Y 99) 0)), some (vI 0)] [] σ1 := by
    refine gs_loop (α := Sg) (fun k _ => [some (vR 73), some (vI (or3 (fitF F ns M Y 99) (bitsF (fitF F ns M Y) k))), some (vI (k : Int))]) (fun σ' => σ') (fun k σ' => MFr σ σ') (f_nl F) (fun σ2 h2 => ?_) (fun k σ2 hk h2 ih => ?_) σ1 g1
    · have h3 := h.mf h2
      have r2 := h3.2.1.2.1
      refine jr_iload_n hF dX10_cousins_18 (q := 19) rfl rfl ?_
      refine jr_aload_n hF dX10_cousins_19 (q := 20) rfl rfl ?_
      refine jr_getR (ci := 10) (j := 4) hF dX10_cousins_20 (q := 23) rfl rfl rfl fl10_19 ?_
      refine jr_iconst hF dX10_cousins_23 (q := 24) rfl (by decide) ?_
      refine jr_iald hF dX10_cousins_24 (q := 25) rfl rfl (by omega) ?_
      refine jr_icmp_ge hF dX10_cousins_25 (q := 28) rfl 52 (by decide) (fun a1 => ?_) (fun a1 => ?_)
      · refine jr_iload_n hF dX10_cousins_52 (q := 53) rfl rfl ?_
        refine jr_retI hF hR dX10_cousins_53 rfl ⟨rfl, h3, h2.lo⟩
      · omega
    · have h3 := h.mf h2
      have r2 := h3.2.1.2.1
      have eb : bitsF (fitF F ns M Y) (k + 1) = if fitF F ns M Y k = true then orb (bitsF (fitF F ns M Y) k) k else bitsF (fitF F ns M Y) k := rfl
      refine jr_iload_n hF dX10_cousins_18 (q := 19) rfl rfl ?_
      refine jr_aload_n hF dX10_cousins_19 (q := 20) rfl rfl ?_
      refine jr_getR (ci := 10) (j := 4) hF dX10_cousins_20 (q := 23) rfl rfl rfl fl10_19 ?_
      refine jr_iconst hF dX10_cousins_23 (q := 24) rfl (by decide) ?_
      refine jr_iald hF dX10_cousins_24 (q := 25) rfl rfl (by omega) ?_
      refine jr_icmp_ge hF dX10_cousins_25 (q := 28) rfl 52 (by decide) (fun a1 => ?_) (fun a1 => ?_)
      · omega
      · refine jr_iload_n hF dX10_cousins_28 (q := 29) rfl rfl ?_
        refine jr_aload_n hF dX10_cousins_29 (q := 30) rfl rfl ?_
        refine jr_iload_n hF dX10_cousins_30 (q := 31) rfl rfl ?_
        refine jr_cV1I hF (m_seenSo σ2 len B F nu W V nk S ns M Y h3 ok k k (Or.inr ⟨rfl, by omega⟩)) dX10_cousins_31 (q := 34) rfl lk10_221 vX10_isSeenSo kX10_isSeenSo rfl rfl rfl (by decide) (Nat.le_of_ble_eq_true rfl) (fun z σ3 hz => ?_)
        obtain ⟨rfl, g3⟩ := hz
        have ih1 := ih σ3 (h2.tr g3)
        rw [eb] at ih1
        refine jr_if_eq hF dX10_cousins_34 (q := 37) rfl 43 (by decide) (fun a2 => ?_) (fun a2 => ?_)
        · rw [if_neg (by rw [bi_0 a2]; decide)] at ih1
          refine jr_iconst hF dX10_cousins_43 (q := 44) rfl (by decide) ?_
          refine jr_ior hF dX10_cousins_44 (q := 45) rfl ?_
          rw [or_0 _ (or3_rg _ _ k (by omega))]
          refine jr_istore_n hF dX10_cousins_45 (q := 46) rfl (by decide) rfl ?_
          refine jr_iinc hF dX10_cousins_46 (q := 49) rfl (by decide) rfl rfl (by omega) ?_
          refine jr_goto hF dX10_cousins_49 18 (by decide) ?_
          exact ih1
        · rw [if_pos (bi_1 a2), ← or3_orb _ _ k (by omega)] at ih1
          refine jr_iconst hF dX10_cousins_37 (q := 38) rfl (by decide) ?_
          refine jr_iload_n hF dX10_cousins_38 (q := 39) rfl rfl ?_
          refine jr_ishl hF dX10_cousins_39 (q := 40) rfl ?_
          refine jr_goto hF dX10_cousins_40 44 (by decide) ?_
          refine jr_ior hF dX10_cousins_44 (q := 45) rfl ?_
          refine jr_istore_n hF dX10_cousins_45 (q := 46) rfl (by decide) rfl ?_
          refine jr_iinc hF dX10_cousins_46 (q := 49) rfl (by decide) rfl rfl (by omega) ?_
          refine jr_goto hF dX10_cousins_49 18 (by decide) ?_
          exact ih1
  refine jr_if_eq hF dX10_cousins_6 (q := 9) rfl 14 (by decide) (fun a2 => ?_) (fun a2 => ?_)
  · rw [bi_0 a2] at hloop
    refine jr_iconst hF dX10_cousins_14 (q := 15) rfl (by decide) ?_
    refine jr_istore_n hF dX10_cousins_15 (q := 16) rfl (by decide) rfl ?_
    refine jr_iconst hF dX10_cousins_16 (q := 17) rfl (by decide) ?_
    refine jr_istore_n hF dX10_cousins_17 (q := 18) rfl (by decide) rfl ?_
    exact hloop
  · rw [bi_1 a2] at hloop
    refine jr_bipush hF dX10_cousins_9 (q := 11) rfl (by decide) (by decide +kernel) ?_
    refine jr_goto hF dX10_cousins_11 15 (by decide) ?_
    refine jr_istore_n hF dX10_cousins_15 (q := 16) rfl (by decide) rfl ?_
    refine jr_iconst hF dX10_cousins_16 (q := 17) rfl (by decide) ?_
    refine jr_istore_n hF dX10_cousins_17 (q := 18) rfl (by decide) rfl ?_
    exact hloop
end

