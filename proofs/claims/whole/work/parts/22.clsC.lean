/-! ===== Hiring: the calls from below, from above, the fair ===== -/
theorem jr_fg {X : CT} {pc : Nat} {lv : List (Option PV)} {st : List PV} {σ : Sg} (i : Nat) (k : Gs X pc (lv.set i none) st σ) : Gs X pc lv st σ := by
  refine jr_drop (lv.set i none) (fun j v h => ?_) k
  by_cases e : j = i
  · subst e
    by_cases hl : j < lv.length
    · rw [List.getElem?_set_self hl] at h
      cases h
    · rw [List.getElem?_eq_none (by rw [List.length_set]; omega)] at h
      cases h
  · rw [List.getElem?_set_ne (Ne.symm e)] at h
    exact h
theorem RepC.fr {σ σ' : Sg} {pl : Nat} {F : FD} (h : RepC σ pl F) (h5 : f_nl F ≤ 5) (hf : ∀ k, pl ≤ k → k ≤ pl + 9 → σ' k = σ k) : RepC σ' pl F := by
  obtain ⟨r1, r2, r3, r4, r5, r6, r7, r8⟩ := h
  refine ⟨?_, ?_, fun m hm => ?_, fun i hi => ?_, fun i m hi hm => ?_, fun i hi => ?_, ?_, ?_⟩
  · rw [hf pl (by omega) (by omega)]; exact r1
  · rw [hf pl (by omega) (by omega)]; exact r2
  · rw [hf (pl + 1) (by omega) (by omega)]; exact r3 m hm
  · rw [hf (pl + 2) (by omega) (by omega)]; exact r4 i hi
  · rw [hf (pl + 4 + i) (by omega) (by omega)]; exact r5 i m hi hm
  · rw [hf (pl + 9) (by omega) (by omega)]; exact r6 i hi
  · rw [hf (pl + 9) (by omega) (by omega)]; exact r7
  · rw [hf (pl + 9) (by omega) (by omega)]; exact r8
theorem f_end_ge {F : FD} (ok : okF F) (ab : Nat) (g : Nat → Int) (m : Nat) : f_end F ab g m = 1 ∨ 1 + f_sp F ≤ f_end F ab g m := f_pB_ge ok ab g m 11 1
theorem f_in_sec {F : FD} (ok : okF F) {ab m : Nat} {w : GY} (hm : m < f_nm F) : ∀ i, i < f_nl F → f_in F ab (f_bel1 F ab m w).1 m (f_end F ab w.1 m - f_sp F) i = (f_in F ab w.1 m (f_end F ab w.1 m - f_sp F) i && !f_in F ab w.1 m (f_end F ab w.1 m) i) := by
  intro i hi
  have h1 : cnt (f_in F ab w.1 m (f_end F ab w.1 m)) (f_nl F) ≤ f_rm F m := f_pB_cnt ok ab w.1 hm 11 1 (by omega)
  have h2 := (grant_all (f_in F ab w.1 m (f_end F ab w.1 m)) m (f_end F ab w.1 m) (w.1, w.2, f_rm F m) (f_nl F) h1).2 i hi
  replace h2 : (f_bel1 F ab m w).1 i = if f_in F ab w.1 m (f_end F ab w.1 m) i = true then (m : Int) else w.1 i := h2
  by_cases hS : f_in F ab w.1 m (f_end F ab w.1 m) i = true
  · rw [if_pos hS] at h2
    rw [hS]
    simp only [Bool.not_true, Bool.and_false]
    unfold f_in
    exact decide_eq_false (fun hh => by omega)
  · rw [if_neg hS] at h2
    have hS2 : f_in F ab w.1 m (f_end F ab w.1 m) i = false := by simpa using hS
    rw [hS2]
    simp only [Bool.not_false, Bool.and_true]
    unfold f_in
    rw [h2]
theorem HR.fr {σ σ' : Sg} {g y : Nat → Int} (h : HR σ g y) (h1 : σ' 25 = σ 25) (h2 : σ' 26 = σ 26) : HR σ' g y := fun j hj => by rw [h1, h2]; exact h j hj
theorem HB.fr {σ σ' : Sg} {F : FD} {ab m : Nat} (h : HB σ F ab m) (h1 : σ' 27 = σ 27) : HB σ' F ab m := fun j hj => by rw [h1]; exact h j hj
set_option maxRecDepth 100000 in
theorem c_stride (σ : Sg) (pl : Nat) (hpl : pl = 4 ∨ pl = 14) (F : FD) (hC : RepC σ pl F) (ok : okF F) : RI mX4_stride 1 [vR pl] σ (fun z σ' => z = f_sp F ∧ σ = σ') := by
  have hsp := ok.2.2.2.2.2.2.2
  have r8 := hC.2.2.2.2.2.2.2
  refine mkRun (by decide +kernel) (Nat.le_of_ble_eq_true rfl) (fun X hF hR => ?_)
  refine jr_iconst hF dX4_stride_0 (q := 1) rfl (by decide) ?_
  refine jr_aload_n hF dX4_stride_1 (q := 2) rfl rfl ?_
  refine jr_getR (ci := 4) (j := 5) hF dX4_stride_2 (q := 5) rfl (by first | rfl | exact L_pl hpl | exact L_rm hpl | exact L_kd hpl | exact L_lw hpl | exact L_wo hpl | exact L_wr hpl (by omega) | exact L_pl hp2 | exact L_rm hp2 | exact L_kd hp2 | exact L_lw hp2 | exact L_wo hp2 | exact L_wr hp2 (by omega)) rfl fl4_23 ?_
  refine jr_bipush hF dX4_stride_5 (q := 7) rfl (by decide) (by decide +kernel) ?_
  refine jr_iald hF dX4_stride_7 (q := 8) rfl (by first | rfl | exact L_pl hpl | exact L_rm hpl | exact L_kd hpl | exact L_lw hpl | exact L_wo hpl | exact L_wr hpl (by omega) | exact L_pl hp2 | exact L_rm hp2 | exact L_kd hp2 | exact L_lw hp2 | exact L_wo hp2 | exact L_wr hp2 (by omega)) (by omega) ?_
  rw [r8]
  refine jr_max hF mxW_ok dX4_stride_8 (q := 11) rfl lk4_56 (Nat.le_of_ble_eq_true rfl) (by decide) ?_
  refine jr_retI hF hR dX4_stride_11 rfl ⟨by split <;> omega, rfl⟩
set_option maxRecDepth 100000 in
theorem c_below (σ : Sg) (pl : Nat) (hpl : pl = 4 ∨ pl = 14) (F : FD) (hC : RepC σ pl F) (ok : okF F) (ab m : Nat) (hm : m < f_nm F) (g y : Nat → Int) (hH : HR σ g y) (hB : HB σ F ab m) : RV mX2_callFromBelow 3 [vR 24, vR pl, vI (m : Int)] σ (fun σ' => HR σ' (f_bel F ab m (g, y)).1 (f_bel F ab m (g, y)).2.1 ∧ (∀ j : Nat, σ' 28 (j : Int) = if j = m then f_end F ab g m else σ 28 (j : Int)) ∧ ∀ k, k ≠ 25 → k ≠ 26 → k ≠ 28 → σ' k = σ k) := by
  have h5 := ok.2.1
  have h3 := ok.1
  have hsp := ok.2.2.2.2.2.2.2
  have hrm := ok.2.2.1 m hm
  have r2 := hC.2.1
  have r3 := hC.room hm
  have r8 := hC.2.2.2.2.2.2.2
  have hP1 := f_end_ge ok ab g m
  have hP2 : f_end F ab g m ≤ 13 := f_pB_le ok ab g hm 11 1 (by omega)
  refine mkRun (by decide +kernel) (Nat.le_of_ble_eq_true rfl) (fun X hF hR => ?_)
  have hexit : Gs X 40 [some (vR 24), some (vR pl), some (vI (m : Int)), some (vI (f_sp F)), some (vI (f_end F ab g m)), none] [] σ := by
    refine jr_aload_n hF dX2_callFromBelow_40 (q := 41) rfl rfl ?_
    refine jr_getR (ci := 2) (j := 3) hF dX2_callFromBelow_41 (q := 44) rfl (by first | rfl | exact L_pl hpl | exact L_rm hpl | exact L_kd hpl | exact L_lw hpl | exact L_wo hpl | exact L_wr hpl (by omega) | exact L_pl hp2 | exact L_rm hp2 | exact L_kd hp2 | exact L_lw hp2 | exact L_wo hp2 | exact L_wr hp2 (by omega)) rfl fl2_21 ?_
    refine jr_iload_n hF dX2_callFromBelow_44 (q := 45) rfl rfl ?_
    refine jr_iload hF dX2_callFromBelow_45 (q := 47) rfl rfl ?_
    refine jr_iast hF dX2_callFromBelow_47 (q := 48) rfl (by first | rfl | exact L_pl hpl | exact L_rm hpl | exact L_kd hpl | exact L_lw hpl | exact L_wo hpl | exact L_wr hpl (by omega) | exact L_pl hp2 | exact L_rm hp2 | exact L_kd hp2 | exact L_lw hp2 | exact L_wo hp2 | exact L_wr hp2 (by omega)) (by omega) ?_
    refine jr_aload_n hF dX2_callFromBelow_48 (q := 49) rfl rfl ?_
    refine jr_aload_n hF dX2_callFromBelow_49 (q := 50) rfl rfl ?_
    refine jr_iload_n hF dX2_callFromBelow_50 (q := 51) rfl rfl ?_
    refine jr_iload hF dX2_callFromBelow_51 (q := 53) rfl rfl ?_
    refine jr_aload_n hF dX2_callFromBelow_53 (q := 54) rfl rfl ?_
    refine jr_getR (ci := 4) (j := 2) hF dX2_callFromBelow_54 (q := 57) rfl (by first | rfl | exact L_pl hpl | exact L_rm hpl | exact L_kd hpl | exact L_lw hpl | exact L_wo hpl | exact L_wr hpl (by omega) | exact L_pl hp2 | exact L_rm hp2 | exact L_kd hp2 | exact L_lw hp2 | exact L_wo hp2 | exact L_wr hp2 (by omega)) rfl fl2_62 ?_
    refine jr_iload_n hF dX2_callFromBelow_57 (q := 58) rfl rfl ?_
    refine jr_iald hF dX2_callFromBelow_58 (q := 59) rfl (by first | rfl | exact L_pl hpl | exact L_rm hpl | exact L_kd hpl | exact L_lw hpl | exact L_wo hpl | exact L_wr hpl (by omega) | exact L_pl hp2 | exact L_rm hp2 | exact L_kd hp2 | exact L_lw hp2 | exact L_wo hp2 | exact L_wr hp2 (by omega)) (by omega) ?_
    rw [up_ne (show pl + 1 ≠ 28 by omega), r3]
    have hH1 : HR (up σ 28 (m : Int) (f_end F ab g m)) g y := hH.fr (up_ne (by decide)) (up_ne (by decide))
    have hB1 : HB (up σ 28 (m : Int) (f_end F ab g m)) F ab m := hB.fr (up_ne (by decide))
    have r2' : up σ 28 (m : Int) (f_end F ab g m) pl 1 = (f_nl F : Int) := by rw [up_ne (by omega)]; exact r2
    refine jr_cV4I hF (c_hire _ pl hpl F r2' h5 ab m g y hH1 hB1 (f_end F ab g m) (f_rm F m) (by omega)) dX2_callFromBelow_59 (q := 62) rfl lk2_65 vX2_hire kX2_hire rfl rfl rfl (by decide) (Nat.le_of_ble_eq_true rfl) (fun z σ1 hz => ?_)
    obtain ⟨rfl, hH2, hf2⟩ := hz
    refine jr_istore hF dX2_callFromBelow_62 (q := 64) rfl (by decide) rfl ?_
    refine jr_iload hF dX2_callFromBelow_64 (q := 66) rfl rfl ?_
    refine jr_iconst hF dX2_callFromBelow_66 (q := 67) rfl (by decide) ?_
    refine jr_icmp_le hF dX2_callFromBelow_67 (q := 70) rfl 83 (by decide) (fun hc => ?_) (fun hc => ?_)
    · have e : f_bel F ab m (g, y) = grant (f_in F ab g m (f_end F ab g m)) m (f_end F ab g m) (f_nl F) (g, y, f_rm F m) := by
        unfold f_bel
        rw [if_neg (by show ¬ 1 < f_end F ab g m; omega)]
        rfl
      refine jr_retV hF hR dX2_callFromBelow_83 rfl ⟨by rw [e]; exact hH2, fun j => by rw [hf2 28 (by decide) (by decide), up_nat], fun k h1 h2 h3 => by rw [hf2 k h1 h2, up_ne h3]⟩
    · refine jr_aload_n hF dX2_callFromBelow_70 (q := 71) rfl rfl ?_
      refine jr_aload_n hF dX2_callFromBelow_71 (q := 72) rfl rfl ?_
      refine jr_iload_n hF dX2_callFromBelow_72 (q := 73) rfl rfl ?_
      refine jr_iload hF dX2_callFromBelow_73 (q := 75) rfl rfl ?_
      refine jr_iload_n hF dX2_callFromBelow_75 (q := 76) rfl rfl ?_
      refine jr_isub hF dX2_callFromBelow_76 (q := 77) rfl (by omega) ?_
      refine jr_iload hF dX2_callFromBelow_77 (q := 79) rfl rfl ?_
      have hl := grant_left (f_in F ab g m (f_end F ab g m)) m (f_end F ab g m) (f_nl F) (g, y, f_rm F m) (by show 0 ≤ f_rm F m; omega)
      have hl2 : (grant (f_in F ab g m (f_end F ab g m)) m (f_end F ab g m) (f_nl F) (g, y, f_rm F m)).2.2 ≤ f_rm F m := hl.2
      have hB2 : HB σ1 F ab m := hB1.fr (hf2 27 (by decide) (by decide))
      have r2'' : σ1 pl 1 = (f_nl F : Int) := by rw [hf2 pl (by omega) (by omega)]; exact r2'
      refine jr_cV4I hF (c_hire _ pl hpl F r2'' h5 ab m _ _ hH2 hB2 (f_end F ab g m - f_sp F) _ (by omega)) dX2_callFromBelow_79 (q := 82) rfl lk2_65 vX2_hire kX2_hire rfl rfl rfl (by decide) (Nat.le_of_ble_eq_true rfl) (fun z σ2 hz => ?_)
      obtain ⟨rfl, hH3, hf3⟩ := hz
      refine jr_pop hF dX2_callFromBelow_82 (q := 83) rfl rfl ?_
      have e : f_bel F ab m (g, y) = grant (f_in F ab (grant (f_in F ab g m (f_end F ab g m)) m (f_end F ab g m) (f_nl F) (g, y, f_rm F m)).1 m (f_end F ab g m - f_sp F)) m (f_end F ab g m - f_sp F) (f_nl F) (grant (f_in F ab g m (f_end F ab g m)) m (f_end F ab g m) (f_nl F) (g, y, f_rm F m)) := by
        unfold f_bel
        rw [if_pos (by show 1 < f_end F ab g m; omega)]
        exact (grant_congr (fun i hi => f_in_sec (w := (g, y)) ok hm i hi)).symm
      refine jr_retV hF hR dX2_callFromBelow_83 rfl ⟨by rw [e]; exact hH3, fun j => by rw [hf3 28 (by decide) (by decide), hf2 28 (by decide) (by decide), up_nat], fun k h1 h2 h3 => by rw [hf3 k h1 h2, hf2 k h1 h2, up_ne h3]⟩
  refine jr_aload_n hF dX2_callFromBelow_0 (q := 1) rfl rfl ?_
  refine jr_cV0I hF (c_stride σ pl hpl F hC ok) dX2_callFromBelow_1 (q := 4) rfl lk2_50 vX4_stride kX4_stride (by first | rfl | exact L_pl hpl | exact L_rm hpl | exact L_kd hpl | exact L_lw hpl | exact L_wo hpl | exact L_wr hpl (by omega) | exact L_pl hp2 | exact L_rm hp2 | exact L_kd hp2 | exact L_lw hp2 | exact L_wo hp2 | exact L_wr hp2 (by omega)) rfl rfl (by decide) (Nat.le_of_ble_eq_true rfl) (fun z σ1 hz => ?_)
  obtain ⟨rfl, rfl⟩ := hz
  refine jr_istore_n hF dX2_callFromBelow_4 (q := 5) rfl (by decide) rfl ?_
  refine jr_iconst hF dX2_callFromBelow_5 (q := 6) rfl (by decide) ?_
  refine jr_istore hF dX2_callFromBelow_6 (q := 8) rfl (by decide) rfl ?_
  refine gs_down (α := Int) (fun p => [some (vR 24), some (vR pl), some (vI (m : Int)), some (vI (f_sp F)), some (vI p), none]) (fun _ => σ) (fun n p => f_pB F ab g m n p = f_end F ab g m ∧ 12 ≤ p + n ∧ 1 ≤ p ∧ p ≤ 13) (fun p hI => ?_) (fun n p hI ih => ?_) 11 1 ⟨rfl, by omega, by omega, by omega⟩
  · have e : p = f_end F ab g m := hI.1
    refine jr_iload hF dX2_callFromBelow_8 (q := 10) rfl rfl ?_
    refine jr_bipush hF dX2_callFromBelow_10 (q := 12) rfl (by decide) (by decide +kernel) ?_
    refine jr_icmp_gt hF dX2_callFromBelow_12 (q := 15) rfl 40 (by decide) (fun hc => ?_) (fun hc => ?_)
    · rw [e]
      exact hexit
    · omega
  · have e0 : f_pB F ab g m (n + 1) p = if cnt (f_in F ab g m p) (f_nl F) ≤ f_rm F m then p else f_pB F ab g m n (p + f_sp F) := rfl
    have hn := hI.2.1
    have ec : cnt (fun i : Nat => decide (σ 25 (i : Int) = -4 ∧ p ≤ σ 27 (i : Int))) (f_nl F) = cnt (f_in F ab g m p) (f_nl F) := by
      apply cnt_congr
      intro i hi
      unfold f_in
      rw [(hH i (by omega)).1, hB i hi]
    refine jr_iload hF dX2_callFromBelow_8 (q := 10) rfl rfl ?_
    refine jr_bipush hF dX2_callFromBelow_10 (q := 12) rfl (by decide) (by decide +kernel) ?_
    refine jr_icmp_gt hF dX2_callFromBelow_12 (q := 15) rfl 40 (by decide) (fun hc => ?_) (fun hc => ?_)
    · have e : p = f_end F ab g m := by
        rw [← hI.1, e0, if_pos]
        rw [f_in_big ok hm hc]
        omega
      rw [e]
      exact hexit
    · refine jr_aload_n hF dX2_callFromBelow_15 (q := 16) rfl rfl ?_
      refine jr_aload_n hF dX2_callFromBelow_16 (q := 17) rfl rfl ?_
      refine jr_iload hF dX2_callFromBelow_17 (q := 19) rfl rfl ?_
      refine jr_cV2I hF (c_howManyIn σ pl hpl p (f_nl F) r2 h5) dX2_callFromBelow_19 (q := 22) rfl lk2_58 vX2_howManyIn kX2_howManyIn rfl rfl rfl (by decide) (Nat.le_of_ble_eq_true rfl) (fun z σ1 hz => ?_)
      obtain ⟨rfl, rfl⟩ := hz
      rw [ec]
      refine jr_aload_n hF dX2_callFromBelow_22 (q := 23) rfl rfl ?_
      refine jr_getR (ci := 4) (j := 2) hF dX2_callFromBelow_23 (q := 26) rfl (by first | rfl | exact L_pl hpl | exact L_rm hpl | exact L_kd hpl | exact L_lw hpl | exact L_wo hpl | exact L_wr hpl (by omega) | exact L_pl hp2 | exact L_rm hp2 | exact L_kd hp2 | exact L_lw hp2 | exact L_wo hp2 | exact L_wr hp2 (by omega)) rfl fl2_62 ?_
      refine jr_iload_n hF dX2_callFromBelow_26 (q := 27) rfl rfl ?_
      refine jr_iald hF dX2_callFromBelow_27 (q := 28) rfl (by first | rfl | exact L_pl hpl | exact L_rm hpl | exact L_kd hpl | exact L_lw hpl | exact L_wo hpl | exact L_wr hpl (by omega) | exact L_pl hp2 | exact L_rm hp2 | exact L_kd hp2 | exact L_lw hp2 | exact L_wo hp2 | exact L_wr hp2 (by omega)) (by omega) ?_
      rw [r3]
      refine jr_icmp_le hF dX2_callFromBelow_28 (q := 31) rfl 40 (by decide) (fun hd => ?_) (fun hd => ?_)
      · have e : p = f_end F ab g m := by rw [← hI.1, e0, if_pos hd]
        rw [e]
        exact hexit
      · refine jr_iload hF dX2_callFromBelow_31 (q := 33) rfl rfl ?_
        refine jr_iload_n hF dX2_callFromBelow_33 (q := 34) rfl rfl ?_
        refine jr_iadd hF dX2_callFromBelow_34 (q := 35) rfl (by omega) ?_
        refine jr_istore hF dX2_callFromBelow_35 (q := 37) rfl (by decide) rfl ?_
        refine jr_goto hF dX2_callFromBelow_37 8 (by decide) ?_
        have e : f_pB F ab g m n (p + f_sp F) = f_end F ab g m := by rw [← hI.1, e0, if_neg (by omega)]
        exact ih (p + f_sp F) ⟨e, by omega, by omega, by omega⟩
theorem f_abv_lo {F : FD} {ab m : Nat} {s : Int} {q : GYL} {k : Nat} (hs : 1 ≤ s) (h : 10 - (k : Int) * s < 1) : ∀ n, k ≤ n → f_abv F ab m s n q = f_abv F ab m s k q := by
  intro n
  induction n with
  | zero =>
    intro hk
    have e : k = 0 := by omega
    subst e
    rfl
  | succ n ih =>
    intro hk
    by_cases e : k = n + 1
    · subst e; rfl
    · have h1 : (k : Int) * s ≤ (n : Int) * s := Int.mul_le_mul_of_nonneg_right (by omega) (by omega)
      rw [f_abv, if_neg (by omega)]
      exact ih (by omega)
theorem f_abv_stop {F : FD} {ab m : Nat} {s : Int} {q : GYL} {k : Nat} (h : (f_abv F ab m s k q).2.2 ≤ 0) : ∀ n, k ≤ n → f_abv F ab m s n q = f_abv F ab m s k q := by
  intro n
  induction n with
  | zero =>
    intro hk
    have e : k = 0 := by omega
    subst e
    rfl
  | succ n ih =>
    intro hk
    by_cases e : k = n + 1
    · subst e; rfl
    · have h1 := ih (by omega)
      rw [f_abv]
      split
      · rw [h1]
        exact grant_stop _ _ _ _ 0 h _ (Nat.zero_le _)
      · exact h1
theorem f_abv_left {F : FD} {ab m : Nat} {s : Int} {q : GYL} (h : 0 ≤ q.2.2) : ∀ n, 0 ≤ (f_abv F ab m s n q).2.2 ∧ (f_abv F ab m s n q).2.2 ≤ q.2.2 := by
  intro n
  induction n with
  | zero => exact ⟨h, Int.le_refl _⟩
  | succ n ih =>
    rw [f_abv]
    split
    · have := grant_left (f_in F ab (f_abv F ab m s n q).1 m (10 - n * s)) m (10 - n * s) (f_nl F) (f_abv F ab m s n q) ih.1
      omega
    · exact ih
set_option maxRecDepth 100000 in
theorem c_above (σ : Sg) (pl : Nat) (hpl : pl = 4 ∨ pl = 14) (F : FD) (hC : RepC σ pl F) (ok : okF F) (ab m : Nat) (hm : m < f_nm F) (g y : Nat → Int) (hH : HR σ g y) (hB : HB σ F ab m) (s : Int) (hs : 1 ≤ s ∧ s ≤ 3) : RV mX2_callFromAbove 3 [vR 24, vR pl, vI (m : Int), vI s] σ (fun σ' => HR σ' (f_abv F ab m s 10 (g, y, f_rm F m)).1 (f_abv F ab m s 10 (g, y, f_rm F m)).2.1 ∧ ∀ k, k ≠ 25 → k ≠ 26 → σ' k = σ k) := by
  have h5 := ok.2.1
  have h3 := ok.1
  have hrm := ok.2.2.1 m hm
  have r2 := hC.2.1
  have r3 := hC.room hm
  refine mkRun (by decide +kernel) (Nat.le_of_ble_eq_true rfl) (fun X hF hR => ?_)
  refine jr_aload_n hF dX2_callFromAbove_0 (q := 1) rfl rfl ?_
  refine jr_getR (ci := 4) (j := 2) hF dX2_callFromAbove_1 (q := 4) rfl (by first | rfl | exact L_pl hpl | exact L_rm hpl | exact L_kd hpl | exact L_lw hpl | exact L_wo hpl | exact L_wr hpl (by omega) | exact L_pl hp2 | exact L_rm hp2 | exact L_kd hp2 | exact L_lw hp2 | exact L_wo hp2 | exact L_wr hp2 (by omega)) rfl fl2_62 ?_
  refine jr_iload_n hF dX2_callFromAbove_4 (q := 5) rfl rfl ?_
  refine jr_iald hF dX2_callFromAbove_5 (q := 6) rfl (by first | rfl | exact L_pl hpl | exact L_rm hpl | exact L_kd hpl | exact L_lw hpl | exact L_wo hpl | exact L_wr hpl (by omega) | exact L_pl hp2 | exact L_rm hp2 | exact L_kd hp2 | exact L_lw hp2 | exact L_wo hp2 | exact L_wr hp2 (by omega)) (by omega) ?_
  refine jr_istore hF dX2_callFromAbove_6 (q := 8) rfl (by decide) rfl ?_
  refine jr_bipush hF dX2_callFromAbove_8 (q := 10) rfl (by decide) (by decide +kernel) ?_
  refine jr_istore hF dX2_callFromAbove_10 (q := 12) rfl (by decide) rfl ?_
  rw [r3]
  have e0 : (10 : Int) = 10 - ((0 : Nat) : Int) * s := by omega
  rw [e0]
  refine gs_loop (α := Sg) (fun k _ => [some (vR 24), some (vR pl), some (vI (m : Int)), some (vI s), some (vI (f_abv F ab m s k (g, y, f_rm F m)).2.2), some (vI (10 - (k : Int) * s))]) (fun σ' => σ') (fun k σ' => HR σ' (f_abv F ab m s k (g, y, f_rm F m)).1 (f_abv F ab m s k (g, y, f_rm F m)).2.1 ∧ ∀ c, c ≠ 25 → c ≠ 26 → σ' c = σ c) 10 (fun σ' h => ?_) (fun k σ' hk h ih => ?_) σ ⟨hH, fun _ _ _ => rfl⟩
  · refine jr_iload hF dX2_callFromAbove_12 (q := 14) rfl rfl ?_
    refine jr_iconst hF dX2_callFromAbove_14 (q := 15) rfl (by decide) ?_
    refine jr_icmp_lt hF dX2_callFromAbove_15 (q := 18) rfl 44 (by decide) (fun hc => ?_) (fun hc => ?_)
    · refine jr_retV hF hR dX2_callFromAbove_44 rfl h
    · omega
  · have hl := f_abv_left (F := F) (ab := ab) (m := m) (s := s) (q := (g, y, f_rm F m)) (by show 0 ≤ f_rm F m; omega) k
    have hl2 : (f_abv F ab m s k (g, y, f_rm F m)).2.2 ≤ f_rm F m := hl.2
    have hks : 0 ≤ (k : Int) * s := Int.mul_nonneg (by omega) (by omega)
    have hks2 : ((k + 1 : Nat) : Int) * s = (k : Int) * s + s := by
      rw [show ((k + 1 : Nat) : Int) = (k : Int) + 1 from rfl, Int.add_mul, Int.one_mul]
    refine jr_iload hF dX2_callFromAbove_12 (q := 14) rfl rfl ?_
    refine jr_iconst hF dX2_callFromAbove_14 (q := 15) rfl (by decide) ?_
    refine jr_icmp_lt hF dX2_callFromAbove_15 (q := 18) rfl 44 (by decide) (fun hc => ?_) (fun hc => ?_)
    · have e := f_abv_lo (F := F) (ab := ab) (m := m) (q := (g, y, f_rm F m)) hs.1 hc 10 (by omega)
      refine jr_retV hF hR dX2_callFromAbove_44 rfl (by rw [e]; exact h)
    · refine jr_iload hF dX2_callFromAbove_18 (q := 20) rfl rfl ?_
      refine jr_if_le hF dX2_callFromAbove_20 (q := 23) rfl 44 (by decide) (fun hd => ?_) (fun hd => ?_)
      · have e := f_abv_stop (F := F) (ab := ab) (m := m) (s := s) (q := (g, y, f_rm F m)) hd 10 (by omega)
        refine jr_retV hF hR dX2_callFromAbove_44 rfl (by rw [e]; exact h)
      · refine jr_aload_n hF dX2_callFromAbove_23 (q := 24) rfl rfl ?_
        refine jr_aload_n hF dX2_callFromAbove_24 (q := 25) rfl rfl ?_
        refine jr_iload_n hF dX2_callFromAbove_25 (q := 26) rfl rfl ?_
        refine jr_iload hF dX2_callFromAbove_26 (q := 28) rfl rfl ?_
        refine jr_iload hF dX2_callFromAbove_28 (q := 30) rfl rfl ?_
        have r2' : σ' pl 1 = (f_nl F : Int) := by rw [h.2 pl (by omega) (by omega)]; exact r2
        have hB' : HB σ' F ab m := hB.fr (h.2 27 (by decide) (by decide))
        refine jr_cV4I hF (c_hire σ' pl hpl F r2' h5 ab m _ _ h.1 hB' (10 - (k : Int) * s) (f_abv F ab m s k (g, y, f_rm F m)).2.2 (by omega)) dX2_callFromAbove_30 (q := 33) rfl lk2_65 vX2_hire kX2_hire rfl rfl rfl (by decide) (Nat.le_of_ble_eq_true rfl) (fun z σ1 hz => ?_)
        obtain ⟨rfl, hH2, hf2⟩ := hz
        have e : f_abv F ab m s (k + 1) (g, y, f_rm F m) = grant (f_in F ab (f_abv F ab m s k (g, y, f_rm F m)).1 m (10 - (k : Int) * s)) m (10 - (k : Int) * s) (f_nl F) (f_abv F ab m s k (g, y, f_rm F m)) := by
          rw [f_abv, if_pos hc]
        have ih1 := ih σ1 ⟨by rw [e]; exact hH2, fun c h1 h2 => by rw [hf2 c h1 h2, h.2 c h1 h2]⟩
        rw [e, show 10 - ((k + 1 : Nat) : Int) * s = 10 - (k : Int) * s - s by omega] at ih1
        refine jr_istore hF dX2_callFromAbove_33 (q := 35) rfl (by decide) rfl ?_
        refine jr_iload hF dX2_callFromAbove_35 (q := 37) rfl rfl ?_
        refine jr_iload_n hF dX2_callFromAbove_37 (q := 38) rfl rfl ?_
        refine jr_isub hF dX2_callFromAbove_38 (q := 39) rfl (by omega) ?_
        refine jr_istore hF dX2_callFromAbove_39 (q := 41) rfl (by decide) rfl ?_
        refine jr_goto hF dX2_callFromAbove_41 12 (by decide) ?_
        exact ih1

