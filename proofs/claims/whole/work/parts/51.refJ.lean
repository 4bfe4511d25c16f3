/-! ===== the reference's ways ===== -/
set_option maxRecDepth 100000 in
theorem m_codes (σ : Sg) (F : FD) (hC : RepM σ F) (ok : okF F) : RI mX10_codes 1 [vR 73] σ (fun z σ' => z = ((f_bs F ^ f_nl F : Nat) : Int) ∧ σ = σ') := by
  have h5 := ok.2.1
  have h3 := ok.1
  have r1 := hC.1
  have r2 := hC.2.1
  refine mkRun (by decide +kernel) (Nat.le_of_ble_eq_true rfl) (fun X hF hR => ?_)
  refine jr_iconst hF dX10_codes_0 (q := 1) rfl (by decide) ?_
  refine jr_istore_n hF dX10_codes_1 (q := 2) rfl (by decide) rfl ?_
  refine jr_iconst hF dX10_codes_2 (q := 3) rfl (by decide) ?_
  refine jr_istore_n hF dX10_codes_3 (q := 4) rfl (by decide) rfl ?_
  refine gs_loop (α := Unit) (fun k _ => [some (vR 73), some (vI ((f_bs F ^ k : Nat) : Int)), some (vI (k : Int))]) (fun _ => σ) (fun _ _ => True) (f_nl F) (fun _ _ => ?_) (fun k _ hk _ ih => ?_) () trivial
  · refine jr_iload_n hF dX10_codes_4 (q := 5) rfl rfl ?_
    refine jr_aload_n hF dX10_codes_5 (q := 6) rfl rfl ?_
    refine jr_getR (ci := 10) (j := 4) hF dX10_codes_6 (q := 9) rfl rfl rfl fl10_19 ?_
    refine jr_iconst hF dX10_codes_9 (q := 10) rfl (by decide) ?_
    refine jr_iald hF dX10_codes_10 (q := 11) rfl rfl (by omega) ?_
    refine jr_icmp_ge hF dX10_codes_11 (q := 14) rfl 31 (by decide) (fun h1 => ?_) (fun h1 => ?_)
    · refine jr_iload_n hF dX10_codes_31 (q := 32) rfl rfl ?_
      refine jr_retI hF hR dX10_codes_32 rfl ⟨rfl, rfl⟩
    · omega
  · have hp : f_bs F ^ k ≤ 4 ^ 5 := Nat.le_trans (Nat.pow_le_pow_left (show f_nm F + 1 ≤ 4 by omega) k) (Nat.pow_le_pow_right (by decide) (by omega))
    have hp2 : f_bs F ^ (k + 1) ≤ 4 ^ 5 := Nat.le_trans (Nat.pow_le_pow_left (show f_nm F + 1 ≤ 4 by omega) (k + 1)) (Nat.pow_le_pow_right (by decide) (by omega))
    have e : ((f_bs F ^ (k + 1) : Nat) : Int) = ((f_bs F ^ k : Nat) : Int) * ((f_nm F : Int) + 1) := by
      rw [Nat.pow_succ, Int.natCast_mul]
      rfl
    have ih1 := ih () trivial
    rw [e] at ih1
    refine jr_iload_n hF dX10_codes_4 (q := 5) rfl rfl ?_
    refine jr_aload_n hF dX10_codes_5 (q := 6) rfl rfl ?_
    refine jr_getR (ci := 10) (j := 4) hF dX10_codes_6 (q := 9) rfl rfl rfl fl10_19 ?_
    refine jr_iconst hF dX10_codes_9 (q := 10) rfl (by decide) ?_
    refine jr_iald hF dX10_codes_10 (q := 11) rfl rfl (by omega) ?_
    refine jr_icmp_ge hF dX10_codes_11 (q := 14) rfl 31 (by decide) (fun h1 => ?_) (fun h1 => ?_)
    · omega
    · refine jr_iload_n hF dX10_codes_14 (q := 15) rfl rfl ?_
      refine jr_aload_n hF dX10_codes_15 (q := 16) rfl rfl ?_
      refine jr_getR (ci := 10) (j := 2) hF dX10_codes_16 (q := 19) rfl rfl rfl fl10_13 ?_
      refine jr_iconst hF dX10_codes_19 (q := 20) rfl (by decide) ?_
      refine jr_iald hF dX10_codes_20 (q := 21) rfl rfl (by omega) ?_
      rw [r1]
      refine jr_iconst hF dX10_codes_21 (q := 22) rfl (by decide) ?_
      refine jr_iadd hF dX10_codes_22 (q := 23) rfl (by omega) ?_
      refine jr_imul hF dX10_codes_23 (q := 24) rfl (by omega) ?_
      refine jr_istore_n hF dX10_codes_24 (q := 25) rfl (by decide) rfl ?_
      refine jr_iinc hF dX10_codes_25 (q := 28) rfl (by decide) rfl rfl (by omega) ?_
      refine jr_goto hF dX10_codes_28 4 (by decide) ?_
      exact ih1
/-- the reference's lads sit by figure c -/
def WM (σ : Sg) (F : FD) (c : Nat) : Prop := (∀ j : Nat, j < f_nl F → σ 92 (j : Int) = (dgp (f_bs F) (f_nl F) c j : Int)) ∧ ∀ m : Nat, m < f_nm F → σ 93 (m : Int) = cnd F (f_nl F) c m
theorem fsB_99 {F : FD} (ok : okF F) (c : Nat) : fsB F 99 (f_nl F) c = allB (fun m => decide (cnd F (f_nl F) c m ≤ f_rm F m)) (f_nm F) := by
  have h5 := ok.2.1
  unfold fsB
  rw [decide_eq_true (show f_nl F ≤ 99 by omega), Bool.true_or, Bool.and_true]
/-- room so far -/
theorem room_step {nm : Nat} {d : Nat → Nat} {r : Nat → Int} {k : Nat} (hd : d k < nm) : allB (fun m => decide (cnt (fun j => decide (d j = m)) (k + 1) ≤ r m)) nm = (allB (fun m => decide (cnt (fun j => decide (d j = m)) k ≤ r m)) nm && decide (cnt (fun j => decide (d j = d k)) k + 1 ≤ r (d k))) := by
  have e : ∀ m, cnt (fun j => decide (d j = m)) (k + 1) = cnt (fun j => decide (d j = m)) k + (if decide (d k = m) = true then 1 else 0) := fun m => rfl
  rw [Bool.eq_iff_iff, Bool.and_eq_true, allB_iff, allB_iff, decide_eq_true_iff]
  constructor
  · intro h
    refine ⟨fun m hm => ?_, ?_⟩
    · have := of_decide_eq_true (h m hm)
      rw [e] at this
      refine decide_eq_true ?_
      split at this <;> omega
    · have := of_decide_eq_true (h (d k) hd)
      rw [e, decide_eq_true rfl, if_pos rfl] at this
      exact this
  · intro ⟨h1, h2⟩ m hm
    refine decide_eq_true ?_
    have := of_decide_eq_true (h1 m hm)
    rw [e]
    by_cases em : d k = m
    · rw [decide_eq_true em, if_pos rfl, ← em]
      exact h2
    · rw [decide_eq_false em, if_neg (by decide)]
      omega
theorem room_skip {nm : Nat} {d : Nat → Nat} {r : Nat → Int} {k : Nat} (hd : nm ≤ d k) : allB (fun m => decide (cnt (fun j => decide (d j = m)) (k + 1) ≤ r m)) nm = allB (fun m => decide (cnt (fun j => decide (d j = m)) k ≤ r m)) nm := by
  have e : ∀ m, cnt (fun j => decide (d j = m)) (k + 1) = cnt (fun j => decide (d j = m)) k + (if decide (d k = m) = true then 1 else 0) := fun m => rfl
  rw [Bool.eq_iff_iff, allB_iff, allB_iff]
  have e2 : ∀ m, m < nm → cnt (fun j => decide (d j = m)) (k + 1) = cnt (fun j => decide (d j = m)) k := fun m hm => by
    rw [e, decide_eq_false (show ¬ d k = m by omega), if_neg (by decide)]
    omega
  constructor
  · intro h m hm
    have := h m hm
    rw [e2 m hm] at this
    exact this
  · intro h m hm
    have := h m hm
    rw [e2 m hm]
    exact this
set_option maxRecDepth 100000 in
theorem m_seatAll (σ : Sg) (F : FD) (hC : RepM σ F) (ok : okF F) (c : Nat) (hc : c < f_bs F ^ f_nl F) : RI mX10_seatAll 2 [vR 73, vI (c : Int)] σ (fun z σ' => z = (if fsB F 99 (f_nl F) c = true then 1 else 0) ∧ WM σ' F c ∧ ∀ k, k ≠ 92 → k ≠ 93 → σ' k = σ k) := by
  have h5 := ok.2.1
  have h3 := ok.1
  have hcond : ∀ b : Bool, (if b = true then (1 : Int) else 0) = 0 ∨ (if b = true then (1 : Int) else 0) = 1 := fun b => by cases b <;> simp
  have hp : f_bs F ^ f_nl F ≤ 4 ^ 5 := Nat.le_trans (Nat.pow_le_pow_left (show f_nm F + 1 ≤ 4 by omega) _) (Nat.pow_le_pow_right (by decide) (by omega))
  refine mkRun (by decide +kernel) (Nat.le_of_ble_eq_true rfl) (fun X hF hR => ?_)
  rw [fsB_99 ok] at hR
  have hdl := dgp_lt F (f_nl F) c
  refine jr_iload_n hF dX10_seatAll_0 (q := 1) rfl rfl ?_
  refine jr_istore_n hF dX10_seatAll_1 (q := 2) rfl (by decide) rfl ?_
  refine jr_iconst hF dX10_seatAll_2 (q := 3) rfl (by decide) ?_
  refine jr_istore_n hF dX10_seatAll_3 (q := 4) rfl (by decide) rfl ?_
  refine gs_loop (α := Sg) (fun k _ => [some (vR 73), some (vI (c : Int)), some (vI (c : Int)), some (vI (k : Int)), none]) (fun σ' => σ') (fun n σ' => (∀ j : Nat, j < n → σ' 93 (j : Int) = 0) ∧ ∀ k, k ≠ 93 → σ' k = σ k) 3 (fun σ1 h1 => ?_) (fun k σ1 hk h1 ih => ?_) σ ⟨fun j hj => absurd hj (Nat.not_lt_zero j), fun _ _ => rfl⟩
  · obtain ⟨i1, i2⟩ := h1
    have hC1 : RepM σ1 F := hC.fr (fun k l1 l2 => i2 k (by omega))
    refine jr_iload_n hF dX10_seatAll_4 (q := 5) rfl rfl ?_
    refine jr_iconst hF dX10_seatAll_5 (q := 6) rfl (by decide) ?_
    refine jr_icmp_ge hF dX10_seatAll_6 (q := 9) rfl 22 (by decide) (fun a1 => ?_) (fun a1 => ?_)
    · refine jr_aload_n hF dX10_seatAll_22 (q := 23) rfl rfl ?_
      refine jr_getR (ci := 10) (j := 4) hF dX10_seatAll_23 (q := 26) rfl rfl rfl fl10_19 ?_
      refine jr_iconst hF dX10_seatAll_26 (q := 27) rfl (by decide) ?_
      refine jr_iald hF dX10_seatAll_27 (q := 28) rfl rfl (by omega) ?_
      rw [hC1.2.1]
      refine jr_iconst hF dX10_seatAll_28 (q := 29) rfl (by decide) ?_
      refine jr_isub hF dX10_seatAll_29 (q := 30) rfl (by omega) ?_
      refine jr_istore_n hF dX10_seatAll_30 (q := 31) rfl (by decide) rfl ?_
      suffices start : Gs X 31 [some (vR 73), some (vI (c : Int)), some (vI ((c / f_bs F ^ (f_nl F - f_nl F) : Nat) : Int)), some (vI ((f_nl F : Int) - 1)), none] [] σ1 by
        rw [Nat.sub_self, Nat.pow_zero, Nat.div_one] at start
        exact start
      refine gs_down (α := Sg × Nat) (fun a => [some (vR 73), some (vI (c : Int)), some (vI ((c / f_bs F ^ (f_nl F - a.2) : Nat) : Int)), some (vI ((a.2 : Int) - 1)), none]) (fun a => a.1) (fun n a => a.2 = n ∧ a.2 ≤ f_nl F ∧ (∀ j : Nat, a.2 ≤ j → j < f_nl F → a.1 92 (j : Int) = (dgp (f_bs F) (f_nl F) c j : Int)) ∧ ∀ k, k ≠ 92 → a.1 k = σ1 k) (fun a hI => ?_) (fun n a hI ih => ?_) (f_nl F) (σ1, f_nl F) ⟨rfl, Nat.le_refl _, fun j h1 h2 => absurd h2 (by show ¬ j < f_nl F; exact Nat.not_lt.mpr h1), fun _ _ => rfl⟩
      · obtain ⟨σ2, k⟩ := a
        obtain ⟨c1, c2, c3, c4⟩ := hI
        dsimp only at c1 c2 c3 c4 ⊢
        subst c1
        have hC2 : RepM σ2 F := hC1.fr (fun k l1 l2 => c4 k (by omega))
        have hu : ∀ j : Nat, j < 3 → σ2 93 (j : Int) = 0 := fun j hj => by rw [c4 93 (by decide)]; exact i1 j hj
        refine jr_iload_n hF dX10_seatAll_31 (q := 32) rfl rfl ?_
        refine jr_if_lt hF dX10_seatAll_32 (q := 35) rfl 68 (by decide) (fun a2 => ?_) (fun a2 => ?_)
        · refine jr_iconst hF dX10_seatAll_68 (q := 69) rfl (by decide) ?_
          refine jr_istore_n hF dX10_seatAll_69 (q := 70) rfl (by decide) rfl ?_
          refine jr_iconst hF dX10_seatAll_70 (q := 71) rfl (by decide) ?_
          refine jr_istore hF dX10_seatAll_71 (q := 73) rfl (by decide) rfl ?_
          refine jr_fg 2 ?_
          generalize hdd : dgp (f_bs F) (f_nl F) c = d at *
          have e0 : allB (fun m => decide (cnt (fun j => decide (d j = m)) 0 ≤ f_rm F m)) (f_nm F) = true := by
            rw [allB_iff]
            intro m hm
            have := ok.2.2.1 m hm
            exact decide_eq_true (by show (0 : Int) ≤ f_rm F m; omega)
          suffices start : Gs X 73 [some (vR 73), some (vI (c : Int)), none, some (vI (if allB (fun m => decide (cnt (fun j => decide (d j = m)) 0 ≤ f_rm F m)) (f_nm F) = true then 1 else 0)), some (vI ((0 : Nat) : Int))] [] σ2 by
            rw [e0] at start
            exact start
          refine gs_loop (α := Sg) (fun k _ => [some (vR 73), some (vI (c : Int)), none, some (vI (if allB (fun m => decide (cnt (fun j => decide (d j = m)) k ≤ f_rm F m)) (f_nm F) = true then 1 else 0)), some (vI (k : Int))]) (fun σ' => σ') (fun k σ' => (∀ m : Nat, m < f_nm F → σ' 93 (m : Int) = cnt (fun j => decide (d j = m)) k) ∧ ∀ c, c ≠ 93 → σ' c = σ2 c) (f_nl F) (fun σ3 h3 => ?_) (fun k σ3 hk h3 ih => ?_) σ2 ⟨fun m hm => hu m (by omega), fun _ _ => rfl⟩
          · obtain ⟨j1, j2⟩ := h3
            have r2 : σ3 77 0 = (f_nl F : Int) := by rw [j2 77 (by decide)]; exact hC2.2.1
            refine jr_iload hF dX10_seatAll_73 (q := 75) rfl rfl ?_
            refine jr_aload_n hF dX10_seatAll_75 (q := 76) rfl rfl ?_
            refine jr_getR (ci := 10) (j := 4) hF dX10_seatAll_76 (q := 79) rfl rfl rfl fl10_19 ?_
            refine jr_iconst hF dX10_seatAll_79 (q := 80) rfl (by decide) ?_
            refine jr_iald hF dX10_seatAll_80 (q := 81) rfl rfl (by omega) ?_
            refine jr_icmp_ge hF dX10_seatAll_81 (q := 84) rfl 159 (by decide) (fun a3 => ?_) (fun a3 => ?_)
            · refine jr_iload_n hF dX10_seatAll_159 (q := 160) rfl rfl ?_
              refine jr_retZ hF hR dX10_seatAll_160 rfl (hcond _) ⟨?_, ⟨fun j hj => ?_, fun m hm => ?_⟩, fun k n1 n2 => ?_⟩
              · unfold cnd
                rw [hdd]
              · rw [j2 92 (by decide), hdd]; exact c3 j (by omega) hj
              · unfold cnd
                rw [hdd]; exact j1 m hm
              · rw [j2 k n2, c4 k n1, i2 k n2]
            · omega
          · obtain ⟨j1, j2⟩ := h3
            have hC3 : RepM σ3 F := hC2.fr (fun k l1 l2 => j2 k (by omega))
            have r1 := hC3.1
            have r2 := hC3.2.1
            have ed : σ3 92 (k : Int) = (d k : Int) := by rw [j2 92 (by decide)]; exact c3 k (by omega) hk
            have hdk := hdl k
            refine jr_iload hF dX10_seatAll_73 (q := 75) rfl rfl ?_
            refine jr_aload_n hF dX10_seatAll_75 (q := 76) rfl rfl ?_
            refine jr_getR (ci := 10) (j := 4) hF dX10_seatAll_76 (q := 79) rfl rfl rfl fl10_19 ?_
            refine jr_iconst hF dX10_seatAll_79 (q := 80) rfl (by decide) ?_
            refine jr_iald hF dX10_seatAll_80 (q := 81) rfl rfl (by omega) ?_
            refine jr_icmp_ge hF dX10_seatAll_81 (q := 84) rfl 159 (by decide) (fun a3 => ?_) (fun a3 => ?_)
            · omega
            · refine jr_aload_n hF dX10_seatAll_84 (q := 85) rfl rfl ?_
              refine jr_getR (ci := 10) (j := 26) hF dX10_seatAll_85 (q := 88) rfl rfl rfl fl10_64 ?_
              refine jr_iload hF dX10_seatAll_88 (q := 90) rfl rfl ?_
              refine jr_iald hF dX10_seatAll_90 (q := 91) rfl rfl (by omega) ?_
              refine jr_aload_n hF dX10_seatAll_91 (q := 92) rfl rfl ?_
              refine jr_getR (ci := 10) (j := 2) hF dX10_seatAll_92 (q := 95) rfl rfl rfl fl10_13 ?_
              refine jr_iconst hF dX10_seatAll_95 (q := 96) rfl (by decide) ?_
              refine jr_iald hF dX10_seatAll_96 (q := 97) rfl rfl (by omega) ?_
              rw [ed, r1]
              refine jr_icmp_ge hF dX10_seatAll_97 (q := 100) rfl 153 (by decide) (fun a4 => ?_) (fun a4 => ?_)
              · have ih1 := ih σ3 ⟨fun m hm => by
                  rw [j1 m hm]
                  show _ = cnt (fun j => decide (d j = m)) k + (if decide (d k = m) = true then 1 else 0)
                  rw [decide_eq_false (show ¬ d k = m by omega), if_neg (by decide)]
                  omega, j2⟩
                rw [room_skip (by omega)] at ih1
                refine jr_iinc hF dX10_seatAll_153 (q := 156) rfl (by decide) rfl rfl (by omega) ?_
                refine jr_goto hF dX10_seatAll_156 73 (by decide) ?_
                exact ih1
              · have hcl := cnt_le (fun j => decide (d j = d k)) k
                have e93 := j1 (d k) (by omega)
                have erm := hC3.room (m := d k) (by omega)
                have ih1 := ih (up σ3 93 (d k : Int) (cnt (fun j => decide (d j = d k)) k + 1)) ⟨fun m hm => by
                  rw [up_nat]
                  show _ = cnt (fun j => decide (d j = m)) k + (if decide (d k = m) = true then 1 else 0)
                  by_cases em : m = d k
                  · rw [if_pos em, em, decide_eq_true rfl, if_pos rfl]
                  · rw [if_neg em, decide_eq_false (fun hh => em hh.symm), if_neg (by decide), j1 m hm]
                    omega, fun c hc => by rw [up_ne hc]; exact j2 c hc⟩
                rw [room_step (by omega)] at ih1
                refine jr_aload_n hF dX10_seatAll_100 (q := 101) rfl rfl ?_
                refine jr_getR (ci := 10) (j := 27) hF dX10_seatAll_101 (q := 104) rfl rfl rfl fl10_67 ?_
                refine jr_aload_n hF dX10_seatAll_104 (q := 105) rfl rfl ?_
                refine jr_getR (ci := 10) (j := 26) hF dX10_seatAll_105 (q := 108) rfl rfl rfl fl10_64 ?_
                refine jr_iload hF dX10_seatAll_108 (q := 110) rfl rfl ?_
                refine jr_iald hF dX10_seatAll_110 (q := 111) rfl rfl (by omega) ?_
                rw [ed]
                refine jr_dup2 hF dX10_seatAll_111 (q := 112) rfl rfl rfl ?_
                refine jr_iald hF dX10_seatAll_112 (q := 113) rfl rfl (by omega) ?_
                rw [e93]
                refine jr_iconst hF dX10_seatAll_113 (q := 114) rfl (by decide) ?_
                refine jr_iadd hF dX10_seatAll_114 (q := 115) rfl (by omega) ?_
                refine jr_iast hF dX10_seatAll_115 (q := 116) rfl rfl (by omega) ?_
                refine jr_iload_n hF dX10_seatAll_116 (q := 117) rfl rfl ?_
                have ed2 : (up σ3 93 (d k : Int) (cnt (fun j => decide (d j = d k)) k + 1)) 92 (k : Int) = (d k : Int) := by rw [up_ne (by decide)]; exact ed
                have eu2 : (up σ3 93 (d k : Int) (cnt (fun j => decide (d j = d k)) k + 1)) 93 (d k : Int) = cnt (fun j => decide (d j = d k)) k + 1 := by rw [up_nat, if_pos rfl]
                refine jr_if_eq hF dX10_seatAll_117 (q := 120) rfl 151 (by decide) (fun a5 => ?_) (fun a5 => ?_)
                · rw [bi_0 a5, Bool.false_and] at ih1
                  refine jr_iconst hF dX10_seatAll_151 (q := 152) rfl (by decide) ?_
                  refine jr_istore_n hF dX10_seatAll_152 (q := 153) rfl (by decide) rfl ?_
                  refine jr_iinc hF dX10_seatAll_153 (q := 156) rfl (by decide) rfl rfl (by omega) ?_
                  refine jr_goto hF dX10_seatAll_156 73 (by decide) ?_
                  exact ih1
                · rw [bi_1 a5, Bool.true_and] at ih1
                  refine jr_aload_n hF dX10_seatAll_120 (q := 121) rfl rfl ?_
                  refine jr_getR (ci := 10) (j := 27) hF dX10_seatAll_121 (q := 124) rfl rfl rfl fl10_67 ?_
                  refine jr_aload_n hF dX10_seatAll_124 (q := 125) rfl rfl ?_
                  refine jr_getR (ci := 10) (j := 26) hF dX10_seatAll_125 (q := 128) rfl rfl rfl fl10_64 ?_
                  refine jr_iload hF dX10_seatAll_128 (q := 130) rfl rfl ?_
                  refine jr_iald hF dX10_seatAll_130 (q := 131) rfl rfl (by omega) ?_
                  rw [ed2]
                  refine jr_iald hF dX10_seatAll_131 (q := 132) rfl rfl (by omega) ?_
                  refine jr_aload_n hF dX10_seatAll_132 (q := 133) rfl rfl ?_
                  refine jr_getR (ci := 10) (j := 3) hF dX10_seatAll_133 (q := 136) rfl rfl rfl fl10_16 ?_
                  refine jr_aload_n hF dX10_seatAll_136 (q := 137) rfl rfl ?_
                  refine jr_getR (ci := 10) (j := 26) hF dX10_seatAll_137 (q := 140) rfl rfl rfl fl10_64 ?_
                  refine jr_iload hF dX10_seatAll_140 (q := 142) rfl rfl ?_
                  refine jr_iald hF dX10_seatAll_142 (q := 143) rfl rfl (by omega) ?_
                  rw [ed2, eu2]
                  refine jr_iald hF dX10_seatAll_143 (q := 144) rfl rfl (by omega) ?_
                  rw [up_ne (show (76 : Nat) ≠ 93 by decide), erm]
                  refine jr_icmp_gt hF dX10_seatAll_144 (q := 147) rfl 151 (by decide) (fun a6 => ?_) (fun a6 => ?_)
                  · rw [decide_eq_false (by omega)] at ih1
                    refine jr_iconst hF dX10_seatAll_151 (q := 152) rfl (by decide) ?_
                    refine jr_istore_n hF dX10_seatAll_152 (q := 153) rfl (by decide) rfl ?_
                    refine jr_iinc hF dX10_seatAll_153 (q := 156) rfl (by decide) rfl rfl (by omega) ?_
                    refine jr_goto hF dX10_seatAll_156 73 (by decide) ?_
                    exact ih1
                  · rw [decide_eq_true (by omega)] at ih1
                    refine jr_iconst hF dX10_seatAll_147 (q := 148) rfl (by decide) ?_
                    refine jr_goto hF dX10_seatAll_148 152 (by decide) ?_
                    refine jr_istore_n hF dX10_seatAll_152 (q := 153) rfl (by decide) rfl ?_
                    refine jr_iinc hF dX10_seatAll_153 (q := 156) rfl (by decide) rfl rfl (by omega) ?_
                    refine jr_goto hF dX10_seatAll_156 73 (by decide) ?_
                    exact ih1
        · omega
      · obtain ⟨σ2, k⟩ := a
        obtain ⟨c1, c2, c3, c4⟩ := hI
        dsimp only at c1 c2 c3 c4 ⊢
        subst c1
        have hC2 : RepM σ2 F := hC1.fr (fun k l1 l2 => c4 k (by omega))
        have r1 := hC2.1
        have e1 : dgp (f_bs F) (f_nl F) c n = c / f_bs F ^ (f_nl F - (n + 1)) % f_bs F := by
          unfold dgp
          rw [show f_nl F - 1 - n = f_nl F - (n + 1) by omega]
        have e2 : c / f_bs F ^ (f_nl F - n) = c / f_bs F ^ (f_nl F - (n + 1)) / f_bs F := by
          rw [Nat.div_div_eq_div_mul, ← Nat.pow_succ, show (f_nl F - (n + 1)).succ = f_nl F - n by omega]
        have hle : c / f_bs F ^ (f_nl F - (n + 1)) ≤ c := Nat.div_le_self _ _
        have ih1 := ih (up σ2 92 (n : Int) (dgp (f_bs F) (f_nl F) c n : Int), n) ⟨rfl, by show n ≤ _; omega, fun j l1 l2 => by
          show up σ2 92 (n : Int) _ 92 (j : Int) = _
          rw [up_nat]
          by_cases ej : j = n
          · rw [if_pos ej, ej]
          · rw [if_neg ej]
            replace l1 : n ≤ j := l1
            exact c3 j (by omega) l2, fun k hk => by show up σ2 92 _ _ k = _; rw [up_ne hk]; exact c4 k hk⟩
        dsimp only at ih1
        rw [e2] at ih1
        generalize c / f_bs F ^ (f_nl F - (n + 1)) = v at *
        refine jr_iload_n hF dX10_seatAll_31 (q := 32) rfl rfl ?_
        refine jr_if_lt hF dX10_seatAll_32 (q := 35) rfl 68 (by decide) (fun a2 => ?_) (fun a2 => ?_)
        · omega
        · refine jr_aload_n hF dX10_seatAll_35 (q := 36) rfl rfl ?_
          refine jr_getR (ci := 10) (j := 26) hF dX10_seatAll_36 (q := 39) rfl rfl rfl fl10_64 ?_
          refine jr_iload_n hF dX10_seatAll_39 (q := 40) rfl rfl ?_
          refine jr_iload_n hF dX10_seatAll_40 (q := 41) rfl rfl ?_
          refine jr_aload_n hF dX10_seatAll_41 (q := 42) rfl rfl ?_
          refine jr_getR (ci := 10) (j := 2) hF dX10_seatAll_42 (q := 45) rfl rfl rfl fl10_13 ?_
          refine jr_iconst hF dX10_seatAll_45 (q := 46) rfl (by decide) ?_
          refine jr_iald hF dX10_seatAll_46 (q := 47) rfl rfl (by omega) ?_
          rw [r1, show ((n + 1 : Nat) : Int) - 1 = (n : Int) by omega]
          refine jr_iconst hF dX10_seatAll_47 (q := 48) rfl (by decide) ?_
          refine jr_iadd hF dX10_seatAll_48 (q := 49) rfl (by omega) ?_
          refine jr_irem hF dX10_seatAll_49 (q := 50) rfl (by omega) (by omega) ?_
          rw [show (v : Int) % ((f_nm F : Int) + 1) = (dgp (f_bs F) (f_nl F) c n : Int) by rw [e1]; exact (Int.natCast_emod v (f_bs F)).symm]
          refine jr_iast hF dX10_seatAll_50 (q := 51) rfl rfl (by omega) ?_
          refine jr_iload_n hF dX10_seatAll_51 (q := 52) rfl rfl ?_
          refine jr_aload_n hF dX10_seatAll_52 (q := 53) rfl rfl ?_
          refine jr_getR (ci := 10) (j := 2) hF dX10_seatAll_53 (q := 56) rfl rfl rfl fl10_13 ?_
          refine jr_iconst hF dX10_seatAll_56 (q := 57) rfl (by decide) ?_
          refine jr_iald hF dX10_seatAll_57 (q := 58) rfl rfl (by omega) ?_
          rw [up_ne (show (75 : Nat) ≠ 92 by decide), r1]
          refine jr_iconst hF dX10_seatAll_58 (q := 59) rfl (by decide) ?_
          refine jr_iadd hF dX10_seatAll_59 (q := 60) rfl (by omega) ?_
          refine jr_idiv hF dX10_seatAll_60 (q := 61) rfl (by omega) (by omega) ?_
          rw [show (v : Int) / ((f_nm F : Int) + 1) = ((v / f_bs F : Nat) : Int) from (Int.natCast_ediv v (f_bs F)).symm]
          refine jr_istore_n hF dX10_seatAll_61 (q := 62) rfl (by decide) rfl ?_
          refine jr_iinc hF dX10_seatAll_62 (q := 65) rfl (by decide) rfl rfl (by omega) ?_
          refine jr_goto hF dX10_seatAll_65 31 (by decide) ?_
          exact ih1
    · omega
  · obtain ⟨i1, i2⟩ := h1
    have ih1 := ih (up σ1 93 (k : Int) 0) ⟨fun j hj => by
      rw [up_nat]
      by_cases ej : j = k
      · rw [if_pos ej]
      · rw [if_neg ej]; exact i1 j (by omega), fun c hc => by rw [up_ne hc]; exact i2 c hc⟩
    refine jr_iload_n hF dX10_seatAll_4 (q := 5) rfl rfl ?_
    refine jr_iconst hF dX10_seatAll_5 (q := 6) rfl (by decide) ?_
    refine jr_icmp_ge hF dX10_seatAll_6 (q := 9) rfl 22 (by decide) (fun a1 => ?_) (fun a1 => ?_)
    · omega
    · refine jr_aload_n hF dX10_seatAll_9 (q := 10) rfl rfl ?_
      refine jr_getR (ci := 10) (j := 27) hF dX10_seatAll_10 (q := 13) rfl rfl rfl fl10_67 ?_
      refine jr_iload_n hF dX10_seatAll_13 (q := 14) rfl rfl ?_
      refine jr_iconst hF dX10_seatAll_14 (q := 15) rfl (by decide) ?_
      refine jr_iast hF dX10_seatAll_15 (q := 16) rfl rfl (by omega) ?_
      refine jr_iinc hF dX10_seatAll_16 (q := 19) rfl (by decide) rfl rfl (by omega) ?_
      refine jr_goto hF dX10_seatAll_19 4 (by decide) ?_
      exact ih1

