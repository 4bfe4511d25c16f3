theorem lsw2 {c o1 o2 d : Int} : Op.lookupswitch.offset [(0, o1), (1, o2)] d c = if 0 = c then o1 else if 1 = c then o2 else d := by
  rw [Op.lookupswitch.offset_cons, Op.lookupswitch.offset_cons]
  rfl
set_option maxRecDepth 100000 in
theorem m_one (σ : Sg) (F : FD) (hC : RepM σ F) (ok : okF F) (az : Int) (ab : Nat) (hab : absR az ab) (ho : σ 73 20 = az) (g y : Nat → Int) (hH : HM σ g y) (hg : gOK g) (m : Nat) (hm : m < f_nm F) (kd : Int) (hk : 0 ≤ kd ∧ kd ≤ 2) : RV mX10_callOne 5 [vR 73, vI (m : Int), vI kd] σ (fun σ' => HM σ' (f_one (f_cal F kd) ab m (g, y)).1 (f_one (f_cal F kd) ab m (g, y)).2 ∧ (kd = 0 → σ' 73 22 = f_end F ab g m) ∧ σ' 73 20 = σ 73 20 ∧ MFr σ σ') := by
  have h5 := ok.2.1
  have h3 := ok.1
  have hrm := ok.2.2.1 m hm
  have r3 := hC.room hm
  have hC1 : RepM (up σ 73 21 (f_rm F m)) F := hC.fr (fun k l1 l2 => up_ne (by omega))
  have ho1 : (up σ 73 21 (f_rm F m)) 73 20 = az := by rw [← ho]; simp [up]
  have hl1 : (up σ 73 21 (f_rm F m)) 73 21 = f_rm F m := by simp [up]
  have hH1 : HM (up σ 73 21 (f_rm F m)) g y := hH.fr (up_ne (by decide)) (up_ne (by decide))
  have hF1 : MFr σ (up σ 73 21 (f_rm F m)) := ⟨fun k h1 _ _ => up_ne h1, fun j hj => by unfold up; rw [if_neg (by omega)]⟩
  have h20 : (up σ 73 21 (f_rm F m)) 73 20 = σ 73 20 := by simp [up]
  refine mkRun (by decide +kernel) (Nat.le_of_ble_eq_true rfl) (fun X hF hR => ?_)
  refine jr_aload_n hF dX10_callOne_0 (q := 1) rfl rfl ?_
  refine jr_aload_n hF dX10_callOne_1 (q := 2) rfl rfl ?_
  refine jr_getR (ci := 10) (j := 3) hF dX10_callOne_2 (q := 5) rfl rfl rfl fl10_16 ?_
  refine jr_iload_n hF dX10_callOne_5 (q := 6) rfl rfl ?_
  refine jr_iald hF dX10_callOne_6 (q := 7) rfl rfl (by omega) ?_
  rw [r3]
  refine jr_putI (ci := 10) (j := 21) hF 21 rfl dX10_callOne_7 (q := 10) rfl rfl rfl fp10_146 ?_
  refine jr_iload_n hF dX10_callOne_10 (q := 11) rfl rfl ?_
  by_cases e0 : kd = 0
  · subst e0
    refine jr_lsw hF dX10_callOne_11 (by decide +kernel) 36 lsw2 (by decide) ?_
    refine jr_aload_n hF dX10_callOne_36 (q := 37) rfl rfl ?_
    refine jr_iload_n hF dX10_callOne_37 (q := 38) rfl rfl ?_
    refine jr_cV1V hF (m_below _ F hC1 ok az ab hab ho1 g y hH1 hg m hm hl1) dX10_callOne_38 (q := 41) rfl lk10_162 vX10_callBelow kX10_callBelow rfl rfl rfl (by decide) (Nat.le_of_ble_eq_true rfl) (fun σ2 hz => ?_)
    obtain ⟨g1, g2, g3, g4⟩ := hz
    refine jr_goto hF dX10_callOne_41 57 (by decide) ?_
    refine jr_retV hF hR dX10_callOne_57 rfl ⟨?_, fun _ => g2, g3.trans h20, hF1.tr g4⟩
    unfold f_one
    rw [if_pos (show f_ca (f_cal F 0) = 0 from rfl), f_bel_cal]
    exact g1
  · by_cases e1 : kd = 1
    · subst e1
      refine jr_lsw hF dX10_callOne_11 (by decide +kernel) 44 lsw2 (by decide) ?_
      refine jr_aload_n hF dX10_callOne_44 (q := 45) rfl rfl ?_
      refine jr_iload_n hF dX10_callOne_45 (q := 46) rfl rfl ?_
      refine jr_cV1V hF (m_above _ F hC1 ok az ab hab ho1 g y hH1 hg m hm hl1) dX10_callOne_46 (q := 49) rfl lk10_165 vX10_callAbove kX10_callAbove rfl rfl rfl (by decide) (Nat.le_of_ble_eq_true rfl) (fun σ2 hz => ?_)
      obtain ⟨g1, g3, g4⟩ := hz
      refine jr_goto hF dX10_callOne_49 57 (by decide) ?_
      refine jr_retV hF hR dX10_callOne_57 rfl ⟨?_, fun h => absurd h e0, g3.trans h20, hF1.tr g4⟩
      unfold f_one
      rw [if_neg (show ¬ f_ca (f_cal F 1) = 0 from e0), if_pos (show f_ca (f_cal F 1) = 1 from rfl), f_abv_cal]
      exact g1
    · refine jr_lsw hF dX10_callOne_11 (by decide +kernel) 52 (lsw2.trans (by rw [if_neg (Ne.symm e0), if_neg (Ne.symm e1)])) (by decide) ?_
      refine jr_aload_n hF dX10_callOne_52 (q := 53) rfl rfl ?_
      refine jr_iload_n hF dX10_callOne_53 (q := 54) rfl rfl ?_
      refine jr_cV1V hF (m_sealed _ F hC1 ok az ab hab ho1 g y hH1 hg m hm hl1) dX10_callOne_54 (q := 57) rfl lk10_168 vX10_callSealed kX10_callSealed rfl rfl rfl (by decide) (Nat.le_of_ble_eq_true rfl) (fun σ2 hz => ?_)
      obtain ⟨g1, g3, g4⟩ := hz
      refine jr_retV hF hR dX10_callOne_57 rfl ⟨?_, fun h => absurd h e0, g3.trans h20, hF1.tr g4⟩
      unfold f_one
      rw [if_neg (show ¬ f_ca (f_cal F kd) = 0 from e0), if_neg (show ¬ f_ca (f_cal F kd) = 1 from e1), f_abv_cal]
      exact g1
set_option maxRecDepth 100000 in
theorem m_begin (σ : Sg) (az : Int) : RV mX10_begin 1 [vR 73, vI az] σ (fun σ' => HM σ' (fun _ => -4) (fun _ => 0) ∧ σ' 73 20 = az ∧ MFr σ σ') := by
  refine mkRun (by decide +kernel) (Nat.le_of_ble_eq_true rfl) (fun X hF hR => ?_)
  refine jr_aload_n hF dX10_begin_0 (q := 1) rfl rfl ?_
  refine jr_iload_n hF dX10_begin_1 (q := 2) rfl rfl ?_
  refine jr_putI (ci := 10) (j := 20) hF 20 rfl dX10_begin_2 (q := 5) rfl rfl rfl fp10_131 ?_
  refine jr_iconst hF dX10_begin_5 (q := 6) rfl (by decide) ?_
  refine jr_istore_n hF dX10_begin_6 (q := 7) rfl (by decide) rfl ?_
  refine gs_loop (α := Sg) (fun k _ => [some (vR 73), some (vI az), some (vI (k : Int))]) (fun σ' => σ') (fun n σ' => (∀ j : Nat, j < n → σ' 87 (j : Int) = -4 ∧ σ' 88 (j : Int) = 0) ∧ σ' 73 20 = az ∧ MFr σ σ') 5 (fun σ1 h1 => ?_) (fun k σ1 hk h1 ih => ?_) (up σ 73 20 az) ⟨fun j hj => absurd hj (Nat.not_lt_zero j), by simp [up], fun k h1 _ _ => up_ne h1, fun j hj => by unfold up; rw [if_neg (by omega)]⟩
  · refine jr_iload_n hF dX10_begin_7 (q := 8) rfl rfl ?_
    refine jr_iconst hF dX10_begin_8 (q := 9) rfl (by decide) ?_
    refine jr_icmp_ge hF dX10_begin_9 (q := 12) rfl 33 (by decide) (fun a1 => ?_) (fun a1 => ?_)
    · refine jr_retV hF hR dX10_begin_33 rfl ⟨h1.1, h1.2⟩
    · omega
  · obtain ⟨i1, i2, i3⟩ := h1
    refine jr_iload_n hF dX10_begin_7 (q := 8) rfl rfl ?_
    refine jr_iconst hF dX10_begin_8 (q := 9) rfl (by decide) ?_
    refine jr_icmp_ge hF dX10_begin_9 (q := 12) rfl 33 (by decide) (fun a1 => ?_) (fun a1 => ?_)
    · omega
    · have ih1 := ih (up (up σ1 87 (k : Int) (-4)) 88 (k : Int) 0) ⟨fun j hj => ⟨?_, ?_⟩, ?_, i3.tr ⟨fun k h1 h2 h3 => by rw [up_ne h3, up_ne h2], fun j hj => by rw [up_ne (by decide), up_ne (by decide)]⟩⟩
      · refine jr_aload_n hF dX10_begin_12 (q := 13) rfl rfl ?_
        refine jr_getR (ci := 10) (j := 18) hF dX10_begin_13 (q := 16) rfl rfl rfl fl10_49 ?_
        refine jr_iload_n hF dX10_begin_16 (q := 17) rfl rfl ?_
        refine jr_bipush hF dX10_begin_17 (q := 19) rfl (by decide) (by decide +kernel) ?_
        refine jr_iast hF dX10_begin_19 (q := 20) rfl rfl (by omega) ?_
        refine jr_aload_n hF dX10_begin_20 (q := 21) rfl rfl ?_
        refine jr_getR (ci := 10) (j := 19) hF dX10_begin_21 (q := 24) rfl rfl rfl fl10_52 ?_
        refine jr_iload_n hF dX10_begin_24 (q := 25) rfl rfl ?_
        refine jr_iconst hF dX10_begin_25 (q := 26) rfl (by decide) ?_
        refine jr_iast hF dX10_begin_26 (q := 27) rfl rfl (by omega) ?_
        refine jr_iinc hF dX10_begin_27 (q := 30) rfl (by decide) rfl rfl (by omega) ?_
        refine jr_goto hF dX10_begin_30 7 (by decide) ?_
        exact ih1
      · rw [up_ne (by decide), up_nat]
        split
        · rfl
        · exact (i1 j (by omega)).1
      · rw [up_nat, up_ne (by decide)]
        split
        · rfl
        · exact (i1 j (by omega)).2
      · rw [up_ne (by decide), up_ne (by decide)]; exact i2
set_option maxRecDepth 100000 in
theorem m_goFair (σ : Sg) (F : FD) (hC : RepM σ F) (ok : okF F) (az : Int) (ab : Nat) (hab : absR az ab) : RV mX10_goFair 6 [vR 73, vI az] σ (fun σ' => HM σ' (f_fair F ab (f_nm F)).1 (f_fair F ab (f_nm F)).2 ∧ MFr σ σ') := by
  have hca := ok.2.2.2.2.2.2.1
  have h3 := ok.1
  refine mkRun (by decide +kernel) (Nat.le_of_ble_eq_true rfl) (fun X hF hR => ?_)
  refine jr_aload_n hF dX10_goFair_0 (q := 1) rfl rfl ?_
  refine jr_iload_n hF dX10_goFair_1 (q := 2) rfl rfl ?_
  refine jr_cV1V hF (m_begin σ az) dX10_goFair_2 (q := 5) rfl lk10_171 vX10_begin kX10_begin rfl rfl rfl (by decide) (Nat.le_of_ble_eq_true rfl) (fun σ1 hz => ?_)
  obtain ⟨g1, g2, g3⟩ := hz
  refine jr_iconst hF dX10_goFair_5 (q := 6) rfl (by decide) ?_
  refine jr_istore_n hF dX10_goFair_6 (q := 7) rfl (by decide) rfl ?_
  refine gs_loop (α := Sg) (fun k _ => [some (vR 73), some (vI az), some (vI (k : Int))]) (fun σ' => σ') (fun n σ' => HM σ' (f_fair F ab n).1 (f_fair F ab n).2 ∧ σ' 73 20 = az ∧ MFr σ σ') (f_nm F) (fun σ2 h2 => ?_) (fun k σ2 hk h2 ih => ?_) σ1 ⟨g1, g2, g3⟩
  · have r1 := (hC.mf h2.2.2).1
    refine jr_iload_n hF dX10_goFair_7 (q := 8) rfl rfl ?_
    refine jr_aload_n hF dX10_goFair_8 (q := 9) rfl rfl ?_
    refine jr_getR (ci := 10) (j := 2) hF dX10_goFair_9 (q := 12) rfl rfl rfl fl10_13 ?_
    refine jr_iconst hF dX10_goFair_12 (q := 13) rfl (by decide) ?_
    refine jr_iald hF dX10_goFair_13 (q := 14) rfl rfl (by omega) ?_
    refine jr_icmp_ge hF dX10_goFair_14 (q := 17) rfl 34 (by decide) (fun a1 => ?_) (fun a1 => ?_)
    · refine jr_retV hF hR dX10_goFair_34 rfl ⟨h2.1, h2.2.2⟩
    · omega
  · obtain ⟨i1, i2, i3⟩ := h2
    have hC2 := hC.mf i3
    have r1 := hC2.1
    have r7 := hC2.2.2.2.2.2.2.1
    refine jr_iload_n hF dX10_goFair_7 (q := 8) rfl rfl ?_
    refine jr_aload_n hF dX10_goFair_8 (q := 9) rfl rfl ?_
    refine jr_getR (ci := 10) (j := 2) hF dX10_goFair_9 (q := 12) rfl rfl rfl fl10_13 ?_
    refine jr_iconst hF dX10_goFair_12 (q := 13) rfl (by decide) ?_
    refine jr_iald hF dX10_goFair_13 (q := 14) rfl rfl (by omega) ?_
    refine jr_icmp_ge hF dX10_goFair_14 (q := 17) rfl 34 (by decide) (fun a1 => ?_) (fun a1 => ?_)
    · omega
    · refine jr_aload_n hF dX10_goFair_17 (q := 18) rfl rfl ?_
      refine jr_iload_n hF dX10_goFair_18 (q := 19) rfl rfl ?_
      refine jr_aload_n hF dX10_goFair_19 (q := 20) rfl rfl ?_
      refine jr_getR (ci := 10) (j := 8) hF dX10_goFair_20 (q := 23) rfl rfl rfl fl10_31 ?_
      refine jr_iconst hF dX10_goFair_23 (q := 24) rfl (by decide) ?_
      refine jr_iald hF dX10_goFair_24 (q := 25) rfl rfl (by omega) ?_
      rw [r7]
      refine jr_cV2V hF (m_one σ2 F hC2 ok az ab hab i2 _ _ i1 (gOK_fair F ab k) k hk (f_ca F) hca) dX10_goFair_25 (q := 28) rfl lk10_174 vX10_callOne kX10_callOne rfl rfl rfl (by decide) (Nat.le_of_ble_eq_true rfl) (fun σ3 hz => ?_)
      obtain ⟨j1, -, j3, j4⟩ := hz
      have ih1 := ih σ3 ⟨j1, by rw [j3]; exact i2, i3.tr j4⟩
      refine jr_iinc hF dX10_goFair_28 (q := 31) rfl (by decide) rfl rfl (by omega) ?_
      refine jr_goto hF dX10_goFair_31 7 (by decide) ?_
      exact ih1
set_option maxRecDepth 100000 in
theorem m_gainOf (σ : Sg) (F : FD) (hC : RepM σ F) (ok : okF F) (ab : Nat) (w : GY) (hw : wOK F ab (f_nm F) w) (hH : HM σ w.1 w.2) (i : Nat) (hi : i < f_nl F) : RI mX10_gainOf 1 [vR 73, vI (i : Int)] σ (fun z σ' => z = f_gn F w i ∧ σ = σ') := by
  have h5 := ok.2.1
  have h3 := ok.1
  have hg := f_gn_le ok hw i
  have hy := wOK_y ok hw i
  obtain ⟨e1, e2⟩ := hH i (by omega)
  refine mkRun (by decide +kernel) (Nat.le_of_ble_eq_true rfl) (fun X hF hR => ?_)
  refine jr_aload_n hF dX10_gainOf_0 (q := 1) rfl rfl ?_
  refine jr_getR (ci := 10) (j := 18) hF dX10_gainOf_1 (q := 4) rfl rfl rfl fl10_49 ?_
  refine jr_iload_n hF dX10_gainOf_4 (q := 5) rfl rfl ?_
  refine jr_iald hF dX10_gainOf_5 (q := 6) rfl rfl (by omega) ?_
  rw [e1]
  refine jr_if_ge hF dX10_gainOf_6 (q := 9) rfl 13 (by decide) (fun hc => ?_) (fun hc => ?_)
  · rcases hw i with ⟨a1, -⟩ | ⟨m, a1, a2, a3, -⟩
    · omega
    · have e3 := hC.want a2 a1
      have e4 : f_gn F w i = f_wt F i m - w.2 i := by
        unfold f_gn
        rw [if_neg (by omega), a3, show ((m : Int)).toNat = m by omega]
      refine jr_aload_n hF dX10_gainOf_13 (q := 14) rfl rfl ?_
      refine jr_getR (ci := 10) (j := 6) hF dX10_gainOf_14 (q := 17) rfl rfl rfl fl10_25 ?_
      refine jr_iconst hF dX10_gainOf_17 (q := 18) rfl (by decide) ?_
      refine jr_iload_n hF dX10_gainOf_18 (q := 19) rfl rfl ?_
      refine jr_imul hF dX10_gainOf_19 (q := 20) rfl (by omega) ?_
      refine jr_aload_n hF dX10_gainOf_20 (q := 21) rfl rfl ?_
      refine jr_getR (ci := 10) (j := 18) hF dX10_gainOf_21 (q := 24) rfl rfl rfl fl10_49 ?_
      refine jr_iload_n hF dX10_gainOf_24 (q := 25) rfl rfl ?_
      refine jr_iald hF dX10_gainOf_25 (q := 26) rfl rfl (by omega) ?_
      rw [e1, a3]
      refine jr_iadd hF dX10_gainOf_26 (q := 27) rfl (by omega) ?_
      refine jr_iald hF dX10_gainOf_27 (q := 28) rfl rfl (by omega) ?_
      refine jr_aload_n hF dX10_gainOf_28 (q := 29) rfl rfl ?_
      refine jr_getR (ci := 10) (j := 19) hF dX10_gainOf_29 (q := 32) rfl rfl rfl fl10_52 ?_
      refine jr_iload_n hF dX10_gainOf_32 (q := 33) rfl rfl ?_
      refine jr_iald hF dX10_gainOf_33 (q := 34) rfl rfl (by omega) ?_
      rw [e3, e2]
      refine jr_isub hF dX10_gainOf_34 (q := 35) rfl (by omega) ?_
      refine jr_retI hF hR dX10_gainOf_35 rfl ⟨e4.symm, rfl⟩
  · have e4 : f_gn F w i = 0 := by
      unfold f_gn
      rcases hw i with ⟨a1, -⟩ | ⟨m, a1, a2, a3, -⟩
      · rw [if_pos a1]
      · omega
    refine jr_iconst hF dX10_gainOf_9 (q := 10) rfl (by decide) ?_
    refine jr_goto hF dX10_gainOf_10 35 (by decide) ?_
    refine jr_retI hF hR dX10_gainOf_35 rfl ⟨e4.symm, rfl⟩
set_option maxRecDepth 100000 in
theorem m_ladsOf (σ : Sg) (nl : Nat) (hn : σ 77 0 = (nl : Int)) (h5 : nl ≤ 5) (w : GY) (hH : HM σ w.1 w.2) (m : Int) : RI mX10_ladsOf 1 [vR 73, vI m] σ (fun z σ' => z = bitsF (fun i => decide (w.1 i = m)) nl ∧ σ = σ') := by
  refine mkRun (by decide +kernel) (Nat.le_of_ble_eq_true rfl) (fun X hF hR => ?_)
  refine jr_iconst hF dX10_ladsOf_0 (q := 1) rfl (by decide) ?_
  refine jr_istore_n hF dX10_ladsOf_1 (q := 2) rfl (by decide) rfl ?_
  refine jr_iconst hF dX10_ladsOf_2 (q := 3) rfl (by decide) ?_
  refine jr_istore_n hF dX10_ladsOf_3 (q := 4) rfl (by decide) rfl ?_
  refine gs_loop (α := Unit) (fun k _ => [some (vR 73), some (vI m), some (vI (bitsF (fun i => decide (w.1 i = m)) k)), some (vI (k : Int))]) (fun _ => σ) (fun _ _ => True) nl (fun _ _ => ?_) (fun k _ hk _ ih => ?_) () trivial
  · refine jr_iload_n hF dX10_ladsOf_4 (q := 5) rfl rfl ?_
    refine jr_aload_n hF dX10_ladsOf_5 (q := 6) rfl rfl ?_
    refine jr_getR (ci := 10) (j := 4) hF dX10_ladsOf_6 (q := 9) rfl rfl rfl fl10_19 ?_
    refine jr_iconst hF dX10_ladsOf_9 (q := 10) rfl (by decide) ?_
    refine jr_iald hF dX10_ladsOf_10 (q := 11) rfl rfl (by omega) ?_
    refine jr_icmp_ge hF dX10_ladsOf_11 (q := 14) rfl 40 (by decide) (fun h1 => ?_) (fun h1 => ?_)
    · refine jr_iload_n hF dX10_ladsOf_40 (q := 41) rfl rfl ?_
      refine jr_retI hF hR dX10_ladsOf_41 rfl ⟨rfl, rfl⟩
    · omega
  · have eb : bitsF (fun i => decide (w.1 i = m)) (k + 1) = if decide (w.1 k = m) = true then orb (bitsF (fun i => decide (w.1 i = m)) k) k else bitsF (fun i => decide (w.1 i = m)) k := rfl
    have e1 := (hH k (by omega)).1
    have ih1 := ih () trivial
    rw [eb] at ih1
    refine jr_iload_n hF dX10_ladsOf_4 (q := 5) rfl rfl ?_
    refine jr_aload_n hF dX10_ladsOf_5 (q := 6) rfl rfl ?_
    refine jr_getR (ci := 10) (j := 4) hF dX10_ladsOf_6 (q := 9) rfl rfl rfl fl10_19 ?_
    refine jr_iconst hF dX10_ladsOf_9 (q := 10) rfl (by decide) ?_
    refine jr_iald hF dX10_ladsOf_10 (q := 11) rfl rfl (by omega) ?_
    refine jr_icmp_ge hF dX10_ladsOf_11 (q := 14) rfl 40 (by decide) (fun h1 => ?_) (fun h1 => ?_)
    · omega
    · refine jr_iload_n hF dX10_ladsOf_14 (q := 15) rfl rfl ?_
      refine jr_aload_n hF dX10_ladsOf_15 (q := 16) rfl rfl ?_
      refine jr_getR (ci := 10) (j := 18) hF dX10_ladsOf_16 (q := 19) rfl rfl rfl fl10_49 ?_
      refine jr_iload_n hF dX10_ladsOf_19 (q := 20) rfl rfl ?_
      refine jr_iald hF dX10_ladsOf_20 (q := 21) rfl rfl (by omega) ?_
      rw [e1]
      refine jr_iload_n hF dX10_ladsOf_21 (q := 22) rfl rfl ?_
      refine jr_icmp_ne hF dX10_ladsOf_22 (q := 25) rfl 31 (by decide) (fun h2 => ?_) (fun h2 => ?_)
      · rw [decide_eq_false h2, if_neg (by decide)] at ih1
        refine jr_iconst hF dX10_ladsOf_31 (q := 32) rfl (by decide) ?_
        refine jr_ior hF dX10_ladsOf_32 (q := 33) rfl ?_
        rw [or_0 _ (by rw [bitsF_bN _ _ (by omega)]; have := bN_32 (fun i => decide (w.1 i = m)) k (by omega); omega)]
        refine jr_istore_n hF dX10_ladsOf_33 (q := 34) rfl (by decide) rfl ?_
        refine jr_iinc hF dX10_ladsOf_34 (q := 37) rfl (by decide) rfl rfl (by omega) ?_
        refine jr_goto hF dX10_ladsOf_37 4 (by decide) ?_
        exact ih1
      · rw [decide_eq_true h2, if_pos rfl] at ih1
        refine jr_iconst hF dX10_ladsOf_25 (q := 26) rfl (by decide) ?_
        refine jr_iload_n hF dX10_ladsOf_26 (q := 27) rfl rfl ?_
        refine jr_ishl hF dX10_ladsOf_27 (q := 28) rfl ?_
        refine jr_goto hF dX10_ladsOf_28 32 (by decide) ?_
        refine jr_ior hF dX10_ladsOf_32 (q := 33) rfl ?_
        refine jr_istore_n hF dX10_ladsOf_33 (q := 34) rfl (by decide) rfl ?_
        refine jr_iinc hF dX10_ladsOf_34 (q := 37) rfl (by decide) rfl rfl (by omega) ?_
        refine jr_goto hF dX10_ladsOf_37 4 (by decide) ?_
        exact ih1
set_option maxRecDepth 100000 in
theorem m_mostOf (σ : Sg) (nl : Nat) (hn : σ 77 0 = (nl : Int)) (h5 : nl ≤ 5) (w : GY) (hH : HM σ w.1 w.2) (m : Int) : RI mX10_mostOf 1 [vR 73, vI m] σ (fun z σ' => z = mostF (fun i => decide (w.1 i = m)) w.2 nl ∧ σ = σ') := by
  refine mkRun (by decide +kernel) (Nat.le_of_ble_eq_true rfl) (fun X hF hR => ?_)
  refine jr_iconst hF dX10_mostOf_0 (q := 1) rfl (by decide) ?_
  refine jr_istore_n hF dX10_mostOf_1 (q := 2) rfl (by decide) rfl ?_
  refine jr_iconst hF dX10_mostOf_2 (q := 3) rfl (by decide) ?_
  refine jr_istore_n hF dX10_mostOf_3 (q := 4) rfl (by decide) rfl ?_
  refine gs_loop (α := Unit) (fun k _ => [some (vR 73), some (vI m), some (vI (mostF (fun i => decide (w.1 i = m)) w.2 k)), some (vI (k : Int))]) (fun _ => σ) (fun _ _ => True) nl (fun _ _ => ?_) (fun k _ hk _ ih => ?_) () trivial
  · refine jr_iload_n hF dX10_mostOf_4 (q := 5) rfl rfl ?_
    refine jr_aload_n hF dX10_mostOf_5 (q := 6) rfl rfl ?_
    refine jr_getR (ci := 10) (j := 4) hF dX10_mostOf_6 (q := 9) rfl rfl rfl fl10_19 ?_
    refine jr_iconst hF dX10_mostOf_9 (q := 10) rfl (by decide) ?_
    refine jr_iald hF dX10_mostOf_10 (q := 11) rfl rfl (by omega) ?_
    refine jr_icmp_ge hF dX10_mostOf_11 (q := 14) rfl 51 (by decide) (fun h1 => ?_) (fun h1 => ?_)
    · refine jr_iload_n hF dX10_mostOf_51 (q := 52) rfl rfl ?_
      refine jr_retI hF hR dX10_mostOf_52 rfl ⟨rfl, rfl⟩
    · omega
  · have e2 : mostF (fun i => decide (w.1 i = m)) w.2 (k + 1) = if decide (w.1 k = m) = true ∧ mostF (fun i => decide (w.1 i = m)) w.2 k < w.2 k then w.2 k else mostF (fun i => decide (w.1 i = m)) w.2 k := rfl
    obtain ⟨e1, e3⟩ := hH k (by omega)
    have ih1 := ih () trivial
    rw [e2] at ih1
    refine jr_iload_n hF dX10_mostOf_4 (q := 5) rfl rfl ?_
    refine jr_aload_n hF dX10_mostOf_5 (q := 6) rfl rfl ?_
    refine jr_getR (ci := 10) (j := 4) hF dX10_mostOf_6 (q := 9) rfl rfl rfl fl10_19 ?_
    refine jr_iconst hF dX10_mostOf_9 (q := 10) rfl (by decide) ?_
    refine jr_iald hF dX10_mostOf_10 (q := 11) rfl rfl (by omega) ?_
    refine jr_icmp_ge hF dX10_mostOf_11 (q := 14) rfl 51 (by decide) (fun h1 => ?_) (fun h1 => ?_)
    · omega
    · refine jr_aload_n hF dX10_mostOf_14 (q := 15) rfl rfl ?_
      refine jr_getR (ci := 10) (j := 18) hF dX10_mostOf_15 (q := 18) rfl rfl rfl fl10_49 ?_
      refine jr_iload_n hF dX10_mostOf_18 (q := 19) rfl rfl ?_
      refine jr_iald hF dX10_mostOf_19 (q := 20) rfl rfl (by omega) ?_
      rw [e1]
      refine jr_iload_n hF dX10_mostOf_20 (q := 21) rfl rfl ?_
      refine jr_icmp_ne hF dX10_mostOf_21 (q := 24) rfl 43 (by decide) (fun h2 => ?_) (fun h2 => ?_)
      · rw [if_neg (fun hh => h2 (of_decide_eq_true hh.1))] at ih1
        refine jr_iload_n hF dX10_mostOf_43 (q := 44) rfl rfl ?_
        refine jr_istore_n hF dX10_mostOf_44 (q := 45) rfl (by decide) rfl ?_
        refine jr_iinc hF dX10_mostOf_45 (q := 48) rfl (by decide) rfl rfl (by omega) ?_
        refine jr_goto hF dX10_mostOf_48 4 (by decide) ?_
        exact ih1
      · refine jr_aload_n hF dX10_mostOf_24 (q := 25) rfl rfl ?_
        refine jr_getR (ci := 10) (j := 19) hF dX10_mostOf_25 (q := 28) rfl rfl rfl fl10_52 ?_
        refine jr_iload_n hF dX10_mostOf_28 (q := 29) rfl rfl ?_
        refine jr_iald hF dX10_mostOf_29 (q := 30) rfl rfl (by omega) ?_
        rw [e3]
        refine jr_iload_n hF dX10_mostOf_30 (q := 31) rfl rfl ?_
        refine jr_icmp_le hF dX10_mostOf_31 (q := 34) rfl 43 (by decide) (fun h4 => ?_) (fun h4 => ?_)
        · rw [if_neg (fun hh => by omega)] at ih1
          refine jr_iload_n hF dX10_mostOf_43 (q := 44) rfl rfl ?_
          refine jr_istore_n hF dX10_mostOf_44 (q := 45) rfl (by decide) rfl ?_
          refine jr_iinc hF dX10_mostOf_45 (q := 48) rfl (by decide) rfl rfl (by omega) ?_
          refine jr_goto hF dX10_mostOf_48 4 (by decide) ?_
          exact ih1
        · rw [if_pos ⟨decide_eq_true h2, by omega⟩] at ih1
          refine jr_aload_n hF dX10_mostOf_34 (q := 35) rfl rfl ?_
          refine jr_getR (ci := 10) (j := 19) hF dX10_mostOf_35 (q := 38) rfl rfl rfl fl10_52 ?_
          refine jr_iload_n hF dX10_mostOf_38 (q := 39) rfl rfl ?_
          refine jr_iald hF dX10_mostOf_39 (q := 40) rfl rfl (by omega) ?_
          rw [e3]
          refine jr_goto hF dX10_mostOf_40 44 (by decide) ?_
          refine jr_istore_n hF dX10_mostOf_44 (q := 45) rfl (by decide) rfl ?_
          refine jr_iinc hF dX10_mostOf_45 (q := 48) rfl (by decide) rfl rfl (by omega) ?_
          refine jr_goto hF dX10_mostOf_48 4 (by decide) ?_
          exact ih1
def ub (b : Int) : Int := if b < 0 then b + 256 else b
/-- the reference holds this state -/
def TxM (σ : Sg) (B : Nat → Int) (len : Nat) : Prop := σ 73 0 = (len : Int) ∧ ∀ k : Nat, k < len → σ 74 (k : Int) = ub (B k)
def UM (σ : Sg) (n : Nat) (W V : Nat → Int) : Prop := σ 73 11 = (n : Int) ∧ ∀ j : Nat, j < n → σ 83 (2 * (j : Int)) = W j ∧ σ 83 (2 * (j : Int) + 1) = V j
def KM (σ : Sg) (nl n : Nat) (S : Nat → Int → Int) : Prop := σ 73 10 = (n : Int) ∧ ∀ k : Nat, k < n → (∀ i : Nat, i < nl → σ 80 (5 * (1 + ((k + 1 : Nat) : Int)) + (i : Int)) = S k (i : Int)) ∧ σ 81 (1 + ((k + 1 : Nat) : Int)) = S k 5 ∧ σ 82 (1 + ((k + 1 : Nat) : Int)) = S k 6
def SM (σ : Sg) (n : Nat) (M Y : Nat → Int) : Prop := σ 73 13 = (n : Int) ∧ ∀ j : Nat, j < n → σ 84 (j : Int) = M j ∧ σ 85 (j : Int) = Y j
def RM (σ : Sg) (A : AS) : Prop := match A with
  | (len, B, F, nu, W, V, nk, S, ns, M, Y) => TxM σ B len ∧ RepM σ F ∧ UM σ nu W V ∧ KM σ (f_nl F) nk S ∧ SM σ ns M Y
theorem RM.fr {σ σ' : Sg} {A : AS} (h : RM σ A) (hf : ∀ k, 74 ≤ k → k ≤ 85 → σ' k = σ k) (hj : ∀ j : Int, j < 16 → σ' 73 j = σ 73 j) : RM σ' A := by
  obtain ⟨len, B, F, nu, W, V, nk, S, ns, M, Y⟩ := A
  obtain ⟨⟨t1, t3⟩, hC, ⟨c1, c2⟩, ⟨k1, k2⟩, s1, s2⟩ := h
  refine ⟨⟨?_, fun k hk => ?_⟩, hC.fr (fun k l1 l2 => hf k (by omega) (by omega)), ⟨?_, fun j hj => ?_⟩, ⟨?_, fun k hk => ?_⟩, ?_, fun j hj => ?_⟩
  · rw [hj 0 (by omega)]; exact t1
  · rw [hf 74 (by omega) (by omega)]; exact t3 k hk
  · rw [hj 11 (by omega)]; exact c1
  · rw [hf 83 (by omega) (by omega)]; exact c2 j hj
  · rw [hj 10 (by omega)]; exact k1
  · rw [hf 80 (by omega) (by omega), hf 81 (by omega) (by omega), hf 82 (by omega) (by omega)]; exact k2 k hk
  · rw [hj 13 (by omega)]; exact s1
  · rw [hf 84 (by omega) (by omega), hf 85 (by omega) (by omega)]; exact s2 j hj
theorem RM.mf {σ σ' : Sg} {A : AS} (h : RM σ A) (hf : MFr σ σ') : RM σ' A := h.fr (fun k l1 l2 => hf.1 k (by omega) (by omega) (by omega)) (fun j hj => hf.2 j (by omega))
theorem MFr.lo {σ σ' : Sg} (hf : MFr σ σ') : ∀ k, k < 73 → σ' k = σ k := fun k hk => hf.1 k (by omega) (by omega) (by omega)
theorem abM4 : absR (-4) 99 := Or.inl ⟨by decide, rfl⟩

