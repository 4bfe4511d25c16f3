theorem f_pB_cal (F : FD) (k : Int) (ab : Nat) (g : Nat → Int) (m n : Nat) : ∀ p, f_pB (f_cal F k) ab g m n p = f_pB F ab g m n p := by
  induction n with
  | zero => intro p; rfl
  | succ n ih =>
    intro p
    unfold f_pB
    rw [ih]
    rfl
theorem f_end_cal (F : FD) (k : Int) (ab : Nat) (g : Nat → Int) (m : Nat) : f_end (f_cal F k) ab g m = f_end F ab g m := f_pB_cal F k ab g m 11 1
theorem f_bel_cal (F : FD) (k : Int) (ab m : Nat) (w : GY) : f_bel (f_cal F k) ab m w = f_bel F ab m w := by
  unfold f_bel f_bel1
  rw [f_end_cal]
  rfl
theorem f_abv_cal (F : FD) (k : Int) (ab m : Nat) (s : Int) (q : GYL) (n : Nat) : f_abv (f_cal F k) ab m s n q = f_abv F ab m s n q := by
  induction n with
  | zero => rfl
  | succ n ih =>
    unfold f_abv
    rw [ih]
    rfl
theorem gOK_grant {S : Nat → Bool} {m : Nat} {p : Int} {n : Nat} {q : GYL} (h : gOK q.1) : gOK (grant S m p n q).1 := by
  intro i
  rcases grant_cases S m p n q i with ⟨h1, -⟩ | ⟨-, -, h1, -⟩
  · rw [h1]; exact h i
  · rw [h1]; omega
theorem gOK_abv {F : FD} {ab m : Nat} {s : Int} {q : GYL} (h : gOK q.1) : ∀ n, gOK (f_abv F ab m s n q).1 := by
  intro n
  induction n with
  | zero => exact h
  | succ n ih =>
    unfold f_abv
    split
    · exact gOK_grant ih
    · exact ih
theorem gOK_bel {F : FD} {ab m : Nat} {w : GY} (h : gOK w.1) : gOK (f_bel F ab m w).1 := by
  unfold f_bel
  split
  · exact gOK_grant (gOK_grant h)
  · exact gOK_grant h
theorem gOK_one {F : FD} {ab m : Nat} {w : GY} (h : gOK w.1) : gOK (f_one F ab m w).1 := by
  unfold f_one
  split
  · exact gOK_bel h
  · exact gOK_abv (q := (w.1, w.2, f_rm F m)) h 10
theorem gOK_fair (F : FD) (ab : Nat) : ∀ n, gOK (f_fair F ab n).1 := by
  intro n
  induction n with
  | zero => exact fun i => Or.inl rfl
  | succ n ih => exact gOK_one ih
theorem HM.fr {σ σ' : Sg} {g y : Nat → Int} (h : HM σ g y) (h1 : σ' 87 = σ 87) (h2 : σ' 88 = σ 88) : HM σ' g y := fun j hj => by rw [h1, h2]; exact h j hj
set_option maxRecDepth 100000 in
theorem m_below (σ : Sg) (F : FD) (hC : RepM σ F) (ok : okF F) (az : Int) (ab : Nat) (hab : absR az ab) (ho : σ 73 20 = az) (g y : Nat → Int) (hH : HM σ g y) (hg : gOK g) (m : Nat) (hm : m < f_nm F) (hl : σ 73 21 = f_rm F m) : RV mX10_callBelow 4 [vR 73, vI (m : Int)] σ (fun σ' => HM σ' (f_bel F ab m (g, y)).1 (f_bel F ab m (g, y)).2.1 ∧ σ' 73 22 = f_end F ab g m ∧ σ' 73 20 = σ 73 20 ∧ MFr σ σ') := by
  have h5 := ok.2.1
  have h3 := ok.1
  have hsp := ok.2.2.2.2.2.2.2
  have hrm := ok.2.2.1 m hm
  have r2 := hC.2.1
  have r3 := hC.room hm
  have r8 := hC.2.2.2.2.2.2.2
  have hP1 := f_end_ge ok ab g m
  have hP2 : f_end F ab g m ≤ 13 := f_pB_le ok ab g hm 11 1 (by omega)
  refine mkRun (by decide +kernel) (Nat.le_of_ble_eq_true rfl) (fun X hF hR => ?_)
  have hexit : ∀ (p : Int) (a : Nat), p = f_end F ab g m → ((p = 1 ∧ a = 0) ∨ (1 + f_sp F ≤ p ∧ a = bN (f_in F ab g m (p - f_sp F)) (f_nl F))) → Gs X 49 [some (vR 73), some (vI (m : Int)), some (vI p), some (vI (a : Int)), some (vI (bN (f_in F ab g m p) (f_nl F) : Int))] [] σ := by
    intro p a hp ha
    have ha32 : a < 32 := by
      rcases ha with ⟨-, ha⟩ | ⟨-, ha⟩
      · omega
      · rw [ha]; exact bN_32 _ _ h5
    have hb32 := bN_32 (f_in F ab g m p) (f_nl F) h5
    have hn1 : (up σ 73 22 p) 77 0 = (f_nl F : Int) := by rw [up_ne (by decide)]; exact r2
    have hl1 : (up σ 73 22 p) 73 21 = f_rm F m := by rw [← hl]; simp [up]
    have hH1 : HM (up σ 73 22 p) g y := hH.fr (up_ne (by decide)) (up_ne (by decide))
    refine jr_aload_n hF dX10_callBelow_49 (q := 50) rfl rfl ?_
    refine jr_iload_n hF dX10_callBelow_50 (q := 51) rfl rfl ?_
    refine jr_putI (ci := 10) (j := 22) hF 22 rfl dX10_callBelow_51 (q := 54) rfl rfl rfl fp10_155 ?_
    refine jr_aload_n hF dX10_callBelow_54 (q := 55) rfl rfl ?_
    refine jr_iload hF dX10_callBelow_55 (q := 57) rfl rfl ?_
    refine jr_iload_n hF dX10_callBelow_57 (q := 58) rfl rfl ?_
    refine jr_iload_n hF dX10_callBelow_58 (q := 59) rfl rfl ?_
    refine jr_cV3V hF (m_give _ (f_nl F) hn1 h5 _ hb32 (f_in F ab g m p) (fun i hi => bN_mem _ _ i hi) m p g y hH1 _ hl1 (by omega)) dX10_callBelow_59 (q := 62) rfl lk10_158 vX10_give kX10_give rfl rfl rfl (by decide) (Nat.le_of_ble_eq_true rfl) (fun σ1 hz => ?_)
    obtain ⟨g1, g2, g3, g4⟩ := hz
    obtain ⟨c1, c2⟩ := an_fin ⟨a, ha32⟩ ⟨_, hb32⟩
    dsimp only at c1 c2
    have hbit := an_bit ⟨a, ha32⟩ ⟨_, hb32⟩
    dsimp only at hbit
    have r8' : σ1 82 0 = f_sp F := by rw [g3 82 (by decide) (by decide) (by decide), up_ne (by decide)]; exact r8
    have hn2 : σ1 77 0 = (f_nl F : Int) := by rw [g3 77 (by decide) (by decide) (by decide)]; exact hn1
    have hlf := grant_left (f_in F ab g m p) m p (f_nl F) (g, y, f_rm F m) (by show 0 ≤ f_rm F m; omega)
    have hlf2 : (grant (f_in F ab g m p) m p (f_nl F) (g, y, f_rm F m)).2.2 ≤ f_rm F m := hlf.2
    refine jr_aload_n hF dX10_callBelow_62 (q := 63) rfl rfl ?_
    refine jr_iload_n hF dX10_callBelow_63 (q := 64) rfl rfl ?_
    refine jr_iload hF dX10_callBelow_64 (q := 66) rfl rfl ?_
    refine jr_iconst hF dX10_callBelow_66 (q := 67) rfl (by decide) ?_
    refine jr_ixor hF dX10_callBelow_67 (q := 68) rfl ?_
    refine jr_iand hF dX10_callBelow_68 (q := 69) rfl ?_
    rw [c1]
    refine jr_iload_n hF dX10_callBelow_69 (q := 70) rfl rfl ?_
    refine jr_iload_n hF dX10_callBelow_70 (q := 71) rfl rfl ?_
    refine jr_aload_n hF dX10_callBelow_71 (q := 72) rfl rfl ?_
    refine jr_getR (ci := 10) (j := 9) hF dX10_callBelow_72 (q := 75) rfl rfl rfl fl10_34 ?_
    refine jr_iconst hF dX10_callBelow_75 (q := 76) rfl (by decide) ?_
    refine jr_iald hF dX10_callBelow_76 (q := 77) rfl rfl (by omega) ?_
    rw [r8']
    refine jr_isub hF dX10_callBelow_77 (q := 78) rfl (by omega) ?_
    have hS : ∀ i, i < f_nl F → ((anN a (bN (f_in F ab g m p) (f_nl F)) / 2 ^ i % 2 = 1) ↔ (decide (1 < p) && (f_in F ab g m (p - f_sp F) i && !f_in F ab g m p i)) = true) := by
      intro i hi
      rw [hbit ⟨i, by omega⟩]
      show (a / 2 ^ i % 2 = 1 ∧ ¬ bN (f_in F ab g m p) (f_nl F) / 2 ^ i % 2 = 1) ↔ _
      rw [bN_mem _ _ i hi]
      rcases ha with ⟨hp1, ha⟩ | ⟨hp1, ha⟩
      · rw [ha, decide_eq_false (show ¬ 1 < p by omega)]
        simp
      · rw [ha, bN_mem _ _ i hi, decide_eq_true (show 1 < p by omega)]
        simp
    refine jr_cV3V hF (m_give σ1 (f_nl F) hn2 h5 _ c2 _ hS m (p - f_sp F) _ _ g1 _ g2 (by omega)) dX10_callBelow_78 (q := 81) rfl lk10_158 vX10_give kX10_give rfl rfl rfl (by decide) (Nat.le_of_ble_eq_true rfl) (fun σ2 hz => ?_)
    obtain ⟨k1, k2, k3, k4⟩ := hz
    have e : (f_bel F ab m (g, y)) = grant (fun i => decide (1 < p) && (f_in F ab g m (p - f_sp F) i && !f_in F ab g m p i)) m (p - f_sp F) (f_nl F) (grant (f_in F ab g m p) m p (f_nl F) (g, y, f_rm F m)) := by
      unfold f_bel f_bel1
      dsimp only
      rw [← hp]
      by_cases h1 : 1 < p
      · rw [if_pos h1, decide_eq_true h1]
        exact grant_congr (fun i _ => by rw [Bool.true_and])
      · rw [if_neg h1, decide_eq_false h1]
        exact (grant_empty (fun i _ => by rw [Bool.false_and])).symm
    refine jr_retV hF hR dX10_callBelow_81 rfl ⟨?_, ?_, ?_, ?_, ?_⟩
    · rw [e]; exact k1
    · rw [k4 22 (by decide), g4 22 (by decide), ← hp]; simp [up]
    · rw [k4 20 (by decide), g4 20 (by decide)]; simp [up]
    · intro k h1 h2 h3
      rw [k3 k h1 h2 h3, g3 k h1 h2 h3, up_ne h1]
    · intro j hj
      rw [k4 j (by omega), g4 j (by omega)]
      unfold up
      rw [if_neg (by omega)]
  refine jr_iconst hF dX10_callBelow_0 (q := 1) rfl (by decide) ?_
  refine jr_istore_n hF dX10_callBelow_1 (q := 2) rfl (by decide) rfl ?_
  refine jr_iconst hF dX10_callBelow_2 (q := 3) rfl (by decide) ?_
  refine jr_istore_n hF dX10_callBelow_3 (q := 4) rfl (by decide) rfl ?_
  refine jr_aload_n hF dX10_callBelow_4 (q := 5) rfl rfl ?_
  refine jr_iload_n hF dX10_callBelow_5 (q := 6) rfl rfl ?_
  refine jr_iload_n hF dX10_callBelow_6 (q := 7) rfl rfl ?_
  refine jr_cV2I hF (m_inSet σ F hC ok az ab hab ho g y hH hg m hm 1 (by omega)) dX10_callBelow_7 (q := 10) rfl lk10_149 vX10_inSet kX10_inSet rfl rfl rfl (by decide) (Nat.le_of_ble_eq_true rfl) (fun z σ1 hz => ?_)
  obtain ⟨rfl, rfl⟩ := hz
  refine jr_istore hF dX10_callBelow_10 (q := 12) rfl (by decide) rfl ?_
  refine gs_down (α := Int × Nat) (fun q => [some (vR 73), some (vI (m : Int)), some (vI q.1), some (vI (q.2 : Int)), some (vI (bN (f_in F ab g m q.1) (f_nl F) : Int))]) (fun _ => σ) (fun n q => f_pB F ab g m n q.1 = f_end F ab g m ∧ 12 ≤ q.1 + n ∧ (1 ≤ q.1 ∧ q.1 ≤ 13) ∧ ((q.1 = 1 ∧ q.2 = 0) ∨ (1 + f_sp F ≤ q.1 ∧ q.2 = bN (f_in F ab g m (q.1 - f_sp F)) (f_nl F)))) (fun q hI => ?_) (fun n q hI ih => ?_) 11 (1, 0) ⟨rfl, by show (12 : Int) ≤ 1 + 11; omega, by show (1 : Int) ≤ 1 ∧ (1 : Int) ≤ 13; omega, Or.inl ⟨rfl, rfl⟩⟩
  · obtain ⟨p, a⟩ := q
    obtain ⟨b1, b2, b3, b4⟩ := hI
    dsimp only at b1 b2 b3 b4 ⊢
    have e : p = f_end F ab g m := b1
    have hb32 := bN_32 (f_in F ab g m p) (f_nl F) h5
    refine jr_iload hF dX10_callBelow_12 (q := 14) rfl rfl ?_
    refine jr_cS1I hF (m_bits σ _ hb32) dX10_callBelow_14 (q := 17) rfl lk10_152 vX10_bits kX10_bits (by decide) (Nat.le_of_ble_eq_true rfl) (fun z σ1 hz => ?_)
    obtain ⟨rfl, rfl⟩ := hz
    rw [pcN_cnt _ _ h5]
    refine jr_aload_n hF dX10_callBelow_17 (q := 18) rfl rfl ?_
    refine jr_getR (ci := 10) (j := 3) hF dX10_callBelow_18 (q := 21) rfl rfl rfl fl10_16 ?_
    refine jr_iload_n hF dX10_callBelow_21 (q := 22) rfl rfl ?_
    refine jr_iald hF dX10_callBelow_22 (q := 23) rfl rfl (by omega) ?_
    rw [r3]
    refine jr_icmp_le hF dX10_callBelow_23 (q := 26) rfl 49 (by decide) (fun hc => ?_) (fun hc => ?_)
    · exact hexit p a e b4
    · rw [f_in_big ok hm (by omega)] at hc
      omega
  · obtain ⟨p, a⟩ := q
    obtain ⟨b1, b2, b3, b4⟩ := hI
    dsimp only at b1 b2 b3 b4 ⊢
    have e0 : f_pB F ab g m (n + 1) p = if cnt (f_in F ab g m p) (f_nl F) ≤ f_rm F m then p else f_pB F ab g m n (p + f_sp F) := rfl
    have hb32 := bN_32 (f_in F ab g m p) (f_nl F) h5
    refine jr_iload hF dX10_callBelow_12 (q := 14) rfl rfl ?_
    refine jr_cS1I hF (m_bits σ _ hb32) dX10_callBelow_14 (q := 17) rfl lk10_152 vX10_bits kX10_bits (by decide) (Nat.le_of_ble_eq_true rfl) (fun z σ1 hz => ?_)
    obtain ⟨rfl, rfl⟩ := hz
    rw [pcN_cnt _ _ h5]
    refine jr_aload_n hF dX10_callBelow_17 (q := 18) rfl rfl ?_
    refine jr_getR (ci := 10) (j := 3) hF dX10_callBelow_18 (q := 21) rfl rfl rfl fl10_16 ?_
    refine jr_iload_n hF dX10_callBelow_21 (q := 22) rfl rfl ?_
    refine jr_iald hF dX10_callBelow_22 (q := 23) rfl rfl (by omega) ?_
    rw [r3]
    refine jr_icmp_le hF dX10_callBelow_23 (q := 26) rfl 49 (by decide) (fun hc => ?_) (fun hc => ?_)
    · rw [e0, if_pos hc] at b1
      exact hexit p a b1 b4
    · have hp10 : p ≤ 10 := Classical.byContradiction fun hh => by
        rw [f_in_big ok hm (by omega)] at hc
        omega
      rw [e0, if_neg (by omega)] at b1
      refine jr_iload hF dX10_callBelow_26 (q := 28) rfl rfl ?_
      refine jr_istore_n hF dX10_callBelow_28 (q := 29) rfl (by decide) rfl ?_
      refine jr_iload_n hF dX10_callBelow_29 (q := 30) rfl rfl ?_
      refine jr_aload_n hF dX10_callBelow_30 (q := 31) rfl rfl ?_
      refine jr_getR (ci := 10) (j := 9) hF dX10_callBelow_31 (q := 34) rfl rfl rfl fl10_34 ?_
      refine jr_iconst hF dX10_callBelow_34 (q := 35) rfl (by decide) ?_
      refine jr_iald hF dX10_callBelow_35 (q := 36) rfl rfl (by omega) ?_
      rw [r8]
      refine jr_iadd hF dX10_callBelow_36 (q := 37) rfl (by omega) ?_
      refine jr_istore_n hF dX10_callBelow_37 (q := 38) rfl (by decide) rfl ?_
      refine jr_aload_n hF dX10_callBelow_38 (q := 39) rfl rfl ?_
      refine jr_iload_n hF dX10_callBelow_39 (q := 40) rfl rfl ?_
      refine jr_iload_n hF dX10_callBelow_40 (q := 41) rfl rfl ?_
      refine jr_cV2I hF (m_inSet σ F hC ok az ab hab ho g y hH hg m hm (p + f_sp F) (by omega)) dX10_callBelow_41 (q := 44) rfl lk10_149 vX10_inSet kX10_inSet rfl rfl rfl (by decide) (Nat.le_of_ble_eq_true rfl) (fun z σ1 hz => ?_)
      obtain ⟨rfl, rfl⟩ := hz
      have ih1 := ih (p + f_sp F, bN (f_in F ab g m p) (f_nl F)) ⟨b1, by show 12 ≤ p + f_sp F + (n : Int); omega, by show 1 ≤ p + f_sp F ∧ p + f_sp F ≤ 13; omega, Or.inr ⟨by show 1 + f_sp F ≤ p + f_sp F; omega, by show _ = bN (f_in F ab g m (p + f_sp F - f_sp F)) (f_nl F); rw [show p + f_sp F - f_sp F = p by omega]⟩⟩
      dsimp only at ih1
      refine jr_istore hF dX10_callBelow_44 (q := 46) rfl (by decide) rfl ?_
      refine jr_goto hF dX10_callBelow_46 12 (by decide) ?_
      exact ih1
set_option maxRecDepth 100000 in
theorem m_above (σ : Sg) (F : FD) (hC : RepM σ F) (ok : okF F) (az : Int) (ab : Nat) (hab : absR az ab) (ho : σ 73 20 = az) (g y : Nat → Int) (hH : HM σ g y) (hg : gOK g) (m : Nat) (hm : m < f_nm F) (hl : σ 73 21 = f_rm F m) : RV mX10_callAbove 4 [vR 73, vI (m : Int)] σ (fun σ' => HM σ' (f_abv F ab m (f_sp F) 10 (g, y, f_rm F m)).1 (f_abv F ab m (f_sp F) 10 (g, y, f_rm F m)).2.1 ∧ σ' 73 20 = σ 73 20 ∧ MFr σ σ') := by
  have h5 := ok.2.1
  have h3 := ok.1
  have hs := ok.2.2.2.2.2.2.2
  have hrm := ok.2.2.1 m hm
  refine mkRun (by decide +kernel) (Nat.le_of_ble_eq_true rfl) (fun X hF hR => ?_)
  refine jr_bipush hF dX10_callAbove_0 (q := 2) rfl (by decide) (by decide +kernel) ?_
  refine jr_istore_n hF dX10_callAbove_2 (q := 3) rfl (by decide) rfl ?_
  have e0 : (10 : Int) = 10 - ((0 : Nat) : Int) * f_sp F := by omega
  rw [e0]
  refine gs_loop (α := Sg) (fun k _ => [some (vR 73), some (vI (m : Int)), some (vI (10 - (k : Int) * f_sp F))]) (fun σ' => σ') (fun k σ' => HM σ' (f_abv F ab m (f_sp F) k (g, y, f_rm F m)).1 (f_abv F ab m (f_sp F) k (g, y, f_rm F m)).2.1 ∧ σ' 73 21 = (f_abv F ab m (f_sp F) k (g, y, f_rm F m)).2.2 ∧ σ' 73 20 = σ 73 20 ∧ MFr σ σ') 10 (fun σ1 h1 => ?_) (fun k σ1 hk h1 ih => ?_) σ ⟨hH, hl, rfl, MFr.rf σ⟩
  · refine jr_iload_n hF dX10_callAbove_3 (q := 4) rfl rfl ?_
    refine jr_iconst hF dX10_callAbove_4 (q := 5) rfl (by decide) ?_
    refine jr_icmp_lt hF dX10_callAbove_5 (q := 8) rfl 32 (by decide) (fun hc => ?_) (fun hc => ?_)
    · refine jr_retV hF hR dX10_callAbove_32 rfl ⟨h1.1, h1.2.2⟩
    · omega
  · obtain ⟨i1, i2, i3, i4⟩ := h1
    have hC1 := hC.mf i4
    have r8 := hC1.2.2.2.2.2.2.2
    have hlf := f_abv_left (F := F) (ab := ab) (m := m) (s := f_sp F) (q := (g, y, f_rm F m)) (by show 0 ≤ f_rm F m; omega) k
    have hl2 : (f_abv F ab m (f_sp F) k (g, y, f_rm F m)).2.2 ≤ f_rm F m := hlf.2
    have hks : 0 ≤ (k : Int) * f_sp F := Int.mul_nonneg (by omega) (by omega)
    have hks2 : ((k + 1 : Nat) : Int) * f_sp F = (k : Int) * f_sp F + f_sp F := by
      rw [show ((k + 1 : Nat) : Int) = (k : Int) + 1 from rfl, Int.add_mul, Int.one_mul]
    refine jr_iload_n hF dX10_callAbove_3 (q := 4) rfl rfl ?_
    refine jr_iconst hF dX10_callAbove_4 (q := 5) rfl (by decide) ?_
    refine jr_icmp_lt hF dX10_callAbove_5 (q := 8) rfl 32 (by decide) (fun hc => ?_) (fun hc => ?_)
    · have e := f_abv_lo (F := F) (ab := ab) (m := m) (q := (g, y, f_rm F m)) hs.1 hc 10 (by omega)
      refine jr_retV hF hR dX10_callAbove_32 rfl (by rw [e]; exact ⟨i1, i3, i4⟩)
    · refine jr_aload_n hF dX10_callAbove_8 (q := 9) rfl rfl ?_
      refine jr_aload_n hF dX10_callAbove_9 (q := 10) rfl rfl ?_
      refine jr_iload_n hF dX10_callAbove_10 (q := 11) rfl rfl ?_
      refine jr_iload_n hF dX10_callAbove_11 (q := 12) rfl rfl ?_
      refine jr_cV2I hF (m_inSet σ1 F hC1 ok az ab hab (by rw [i3]; exact ho) _ _ i1 (gOK_abv (q := (g, y, f_rm F m)) hg k) m hm _ hc) dX10_callAbove_12 (q := 15) rfl lk10_149 vX10_inSet kX10_inSet rfl rfl rfl (by decide) (Nat.le_of_ble_eq_true rfl) (fun z σ2 hz => ?_)
      obtain ⟨rfl, rfl⟩ := hz
      refine jr_iload_n hF dX10_callAbove_15 (q := 16) rfl rfl ?_
      refine jr_iload_n hF dX10_callAbove_16 (q := 17) rfl rfl ?_
      refine jr_cV3V hF (m_give σ1 (f_nl F) hC1.2.1 h5 _ (bN_32 _ _ h5) _ (fun i hi => bN_mem _ _ i hi) m (10 - (k : Int) * f_sp F) _ _ i1 _ i2 (by omega)) dX10_callAbove_17 (q := 20) rfl lk10_158 vX10_give kX10_give rfl rfl rfl (by decide) (Nat.le_of_ble_eq_true rfl) (fun σ2 hz => ?_)
      obtain ⟨k1, k2, k3, k4⟩ := hz
      have e : f_abv F ab m (f_sp F) (k + 1) (g, y, f_rm F m) = grant (f_in F ab (f_abv F ab m (f_sp F) k (g, y, f_rm F m)).1 m (10 - (k : Int) * f_sp F)) m (10 - (k : Int) * f_sp F) (f_nl F) (f_abv F ab m (f_sp F) k (g, y, f_rm F m)) := by
        rw [f_abv, if_pos hc]
      have r8' : σ2 82 0 = f_sp F := by rw [k3 82 (by decide) (by decide) (by decide)]; exact r8
      have ih1 := ih σ2 ⟨by rw [e]; exact k1, by rw [e]; exact k2, by rw [k4 20 (by decide)]; exact i3, i4.tr ⟨k3, fun j hj => k4 j (by omega)⟩⟩
      rw [show 10 - ((k + 1 : Nat) : Int) * f_sp F = 10 - (k : Int) * f_sp F - f_sp F by omega] at ih1
      refine jr_iload_n hF dX10_callAbove_20 (q := 21) rfl rfl ?_
      refine jr_aload_n hF dX10_callAbove_21 (q := 22) rfl rfl ?_
      refine jr_getR (ci := 10) (j := 9) hF dX10_callAbove_22 (q := 25) rfl rfl rfl fl10_34 ?_
      refine jr_iconst hF dX10_callAbove_25 (q := 26) rfl (by decide) ?_
      refine jr_iald hF dX10_callAbove_26 (q := 27) rfl rfl (by omega) ?_
      rw [r8']
      refine jr_isub hF dX10_callAbove_27 (q := 28) rfl (by omega) ?_
      refine jr_istore_n hF dX10_callAbove_28 (q := 29) rfl (by decide) rfl ?_
      refine jr_goto hF dX10_callAbove_29 3 (by decide) ?_
      exact ih1
set_option maxRecDepth 100000 in
theorem m_sealed (σ : Sg) (F : FD) (hC : RepM σ F) (ok : okF F) (az : Int) (ab : Nat) (hab : absR az ab) (ho : σ 73 20 = az) (g y : Nat → Int) (hH : HM σ g y) (hg : gOK g) (m : Nat) (hm : m < f_nm F) (hl : σ 73 21 = f_rm F m) : RV mX10_callSealed 4 [vR 73, vI (m : Int)] σ (fun σ' => HM σ' (f_abv F ab m 1 10 (g, y, f_rm F m)).1 (f_abv F ab m 1 10 (g, y, f_rm F m)).2.1 ∧ σ' 73 20 = σ 73 20 ∧ MFr σ σ') := by
  have h5 := ok.2.1
  have h3 := ok.1
  have hrm := ok.2.2.1 m hm
  refine mkRun (by decide +kernel) (Nat.le_of_ble_eq_true rfl) (fun X hF hR => ?_)
  refine jr_bipush hF dX10_callSealed_0 (q := 2) rfl (by decide) (by decide +kernel) ?_
  refine jr_istore_n hF dX10_callSealed_2 (q := 3) rfl (by decide) rfl ?_
  have e0 : (10 : Int) = 10 - ((0 : Nat) : Int) * 1 := by omega
  rw [e0]
  refine gs_loop (α := Sg) (fun k _ => [some (vR 73), some (vI (m : Int)), some (vI (10 - (k : Int) * 1))]) (fun σ' => σ') (fun k σ' => HM σ' (f_abv F ab m 1 k (g, y, f_rm F m)).1 (f_abv F ab m 1 k (g, y, f_rm F m)).2.1 ∧ σ' 73 21 = (f_abv F ab m 1 k (g, y, f_rm F m)).2.2 ∧ σ' 73 20 = σ 73 20 ∧ MFr σ σ') 10 (fun σ1 h1 => ?_) (fun k σ1 hk h1 ih => ?_) σ ⟨hH, hl, rfl, MFr.rf σ⟩
  · refine jr_iload_n hF dX10_callSealed_3 (q := 4) rfl rfl ?_
    refine jr_iconst hF dX10_callSealed_4 (q := 5) rfl (by decide) ?_
    refine jr_icmp_lt hF dX10_callSealed_5 (q := 8) rfl 26 (by decide) (fun hc => ?_) (fun hc => ?_)
    · refine jr_retV hF hR dX10_callSealed_26 rfl ⟨h1.1, h1.2.2⟩
    · omega
  · obtain ⟨i1, i2, i3, i4⟩ := h1
    have hC1 := hC.mf i4
    have hlf := f_abv_left (F := F) (ab := ab) (m := m) (s := 1) (q := (g, y, f_rm F m)) (by show 0 ≤ f_rm F m; omega) k
    have hl2 : (f_abv F ab m 1 k (g, y, f_rm F m)).2.2 ≤ f_rm F m := hlf.2
    refine jr_iload_n hF dX10_callSealed_3 (q := 4) rfl rfl ?_
    refine jr_iconst hF dX10_callSealed_4 (q := 5) rfl (by decide) ?_
    refine jr_icmp_lt hF dX10_callSealed_5 (q := 8) rfl 26 (by decide) (fun hc => ?_) (fun hc => ?_)
    · omega
    · refine jr_aload_n hF dX10_callSealed_8 (q := 9) rfl rfl ?_
      refine jr_aload_n hF dX10_callSealed_9 (q := 10) rfl rfl ?_
      refine jr_iload_n hF dX10_callSealed_10 (q := 11) rfl rfl ?_
      refine jr_iload_n hF dX10_callSealed_11 (q := 12) rfl rfl ?_
      refine jr_cV2I hF (m_inSet σ1 F hC1 ok az ab hab (by rw [i3]; exact ho) _ _ i1 (gOK_abv (q := (g, y, f_rm F m)) hg k) m hm _ hc) dX10_callSealed_12 (q := 15) rfl lk10_149 vX10_inSet kX10_inSet rfl rfl rfl (by decide) (Nat.le_of_ble_eq_true rfl) (fun z σ2 hz => ?_)
      obtain ⟨rfl, rfl⟩ := hz
      refine jr_iload_n hF dX10_callSealed_15 (q := 16) rfl rfl ?_
      refine jr_iload_n hF dX10_callSealed_16 (q := 17) rfl rfl ?_
      refine jr_cV3V hF (m_give σ1 (f_nl F) hC1.2.1 h5 _ (bN_32 _ _ h5) _ (fun i hi => bN_mem _ _ i hi) m (10 - (k : Int) * 1) _ _ i1 _ i2 (by omega)) dX10_callSealed_17 (q := 20) rfl lk10_158 vX10_give kX10_give rfl rfl rfl (by decide) (Nat.le_of_ble_eq_true rfl) (fun σ2 hz => ?_)
      obtain ⟨k1, k2, k3, k4⟩ := hz
      have e : f_abv F ab m 1 (k + 1) (g, y, f_rm F m) = grant (f_in F ab (f_abv F ab m 1 k (g, y, f_rm F m)).1 m (10 - (k : Int) * 1)) m (10 - (k : Int) * 1) (f_nl F) (f_abv F ab m 1 k (g, y, f_rm F m)) := by
        rw [f_abv, if_pos hc]
      have ih1 := ih σ2 ⟨by rw [e]; exact k1, by rw [e]; exact k2, by rw [k4 20 (by decide)]; exact i3, i4.tr ⟨k3, fun j hj => k4 j (by omega)⟩⟩
      rw [show 10 - ((k + 1 : Nat) : Int) * 1 = 10 - (k : Int) * 1 + -1 by omega] at ih1
      refine jr_iinc hF dX10_callSealed_20 (q := 23) rfl (by decide) rfl rfl (by omega) ?_
      refine jr_goto hF dX10_callSealed_23 3 (by decide) ?_
      exact ih1

