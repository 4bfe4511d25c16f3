/-! ===== Plan.boundOf; Hiring: how many are in, hire ===== -/
def RepC (σ : Sg) (pl : Nat) (F : FD) : Prop := σ pl 0 = (f_nm F : Int) ∧ σ pl 1 = (f_nl F : Int) ∧ (∀ m : Nat, m < f_nm F → σ (pl + 1) (m : Int) = f_rm F m) ∧ (∀ i : Nat, i < f_nl F → σ (pl + 2) (i : Int) = f_kd F i) ∧ (∀ i m : Nat, i < f_nl F → m < f_nm F → σ (pl + 4 + i) (m : Int) = f_wt F i m) ∧ (∀ i : Nat, i < f_nl F → σ (pl + 9) (i : Int) = f_lm F i) ∧ σ (pl + 9) 5 = f_ca F ∧ σ (pl + 9) 6 = f_sp F
theorem tn (b i : Nat) : b + ((i : Int)).toNat = b + i := by omega
theorem L_pl {pl : Nat} (h : pl = 4 ∨ pl = 14) : Lay[pl]? = some (0, 4, 0, [none, none, some (pl + 1), some (pl + 2), some (pl + 3), some (pl + 9)]) := by rcases h with rfl | rfl <;> rfl
theorem L_rm {pl : Nat} (h : pl = 4 ∨ pl = 14) : Lay[pl + 1]? = some (1, 3, 0, []) := by rcases h with rfl | rfl <;> rfl
theorem L_kd {pl : Nat} (h : pl = 4 ∨ pl = 14) : Lay[pl + 2]? = some (1, 5, 0, []) := by rcases h with rfl | rfl <;> rfl
theorem L_wo {pl : Nat} (h : pl = 4 ∨ pl = 14) : Lay[pl + 3]? = some (3, 5, pl + 4, []) := by rcases h with rfl | rfl <;> rfl
theorem L_lw {pl : Nat} (h : pl = 4 ∨ pl = 14) : Lay[pl + 9]? = some (1, 7, 0, []) := by rcases h with rfl | rfl <;> rfl
theorem L_wr {pl i : Nat} (h : pl = 4 ∨ pl = 14) (hi : i < 5) : Lay[pl + 4 + i]? = some (1, 3, 0, []) := by
  have : i = 0 ∨ i = 1 ∨ i = 2 ∨ i = 3 ∨ i = 4 := by omega
  rcases h with rfl | rfl <;> rcases this with rfl | rfl | rfl | rfl | rfl <;> rfl
theorem up_nat {σ : Sg} {a k j : Nat} {v : Int} : up σ a (k : Int) v a (j : Int) = if j = k then v else σ a (j : Int) := by
  unfold up
  by_cases h : j = k
  · subst h; rw [if_pos ⟨rfl, rfl⟩, if_pos rfl]
  · rw [if_neg (by omega), if_neg h]
theorem RepC.want {σ : Sg} {pl : Nat} {F : FD} (h : RepC σ pl F) {i m : Nat} (hi : i < f_nl F) (hm : m < f_nm F) : σ (pl + 4 + i) (m : Int) = f_wt F i m := h.2.2.2.2.1 i m hi hm
theorem RepC.lim {σ : Sg} {pl : Nat} {F : FD} (h : RepC σ pl F) {i : Nat} (hi : i < f_nl F) : σ (pl + 9) (i : Int) = f_lm F i := h.2.2.2.2.2.1 i hi
theorem RepC.kind {σ : Sg} {pl : Nat} {F : FD} (h : RepC σ pl F) {i : Nat} (hi : i < f_nl F) : σ (pl + 2) (i : Int) = f_kd F i := h.2.2.2.1 i hi
theorem RepC.room {σ : Sg} {pl : Nat} {F : FD} (h : RepC σ pl F) {m : Nat} (hm : m < f_nm F) : σ (pl + 1) (m : Int) = f_rm F m := h.2.2.1 m hm
set_option maxRecDepth 100000 in
theorem c_boundOf (σ : Sg) (pl : Nat) (hpl : pl = 4 ∨ pl = 14) (F : FD) (hC : RepC σ pl F) (ok : okF F) (i m : Nat) (hi : i < f_nl F) (hm : m < f_nm F) : RI mX4_boundOf 1 [vR pl, vI (i : Int), vI (m : Int)] σ (fun z σ' => z = f_bnd F i m ∧ σ = σ') := by
  have hn := ok.2.1
  have hn2 := ok.1
  have hk := ok.2.2.2.1 i hi
  have hw := ok.2.2.2.2.1 i m hi hm
  have hl := ok.2.2.2.2.2.1 i hi
  have r4 := hC.kind hi
  have r5 := hC.want hi hm
  have r6 := hC.lim hi
  have hv : 0 ≤ (if f_lm F i < f_wt F i m then f_lm F i else f_wt F i m) ∧ (if f_lm F i < f_wt F i m then f_lm F i else f_wt F i m) ≤ 10 := by split <;> omega
  refine mkRun (by decide +kernel) (Nat.le_of_ble_eq_true rfl) (fun X hF hR => ?_)
  refine jr_aload_n hF dX4_boundOf_0 (q := 1) rfl rfl ?_
  refine jr_getR (ci := 4) (j := 4) hF dX4_boundOf_1 (q := 4) rfl (by first | rfl | exact L_pl hpl | exact L_rm hpl | exact L_kd hpl | exact L_lw hpl | exact L_wo hpl | exact L_wr hpl (by omega) | exact L_pl hp2 | exact L_rm hp2 | exact L_kd hp2 | exact L_lw hp2 | exact L_wo hp2 | exact L_wr hp2 (by omega)) rfl fl4_20 ?_
  refine jr_iload_n hF dX4_boundOf_4 (q := 5) rfl rfl ?_
  refine jr_aald hF dX4_boundOf_5 (q := 6) rfl (by first | rfl | exact L_pl hpl | exact L_rm hpl | exact L_kd hpl | exact L_lw hpl | exact L_wo hpl | exact L_wr hpl (by omega) | exact L_pl hp2 | exact L_rm hp2 | exact L_kd hp2 | exact L_lw hp2 | exact L_wo hp2 | exact L_wr hp2 (by omega)) (by omega) ?_
  rw [tn]
  refine jr_iload_n hF dX4_boundOf_6 (q := 7) rfl rfl ?_
  refine jr_iald hF dX4_boundOf_7 (q := 8) rfl (by first | rfl | exact L_pl hpl | exact L_rm hpl | exact L_kd hpl | exact L_lw hpl | exact L_wo hpl | exact L_wr hpl (by omega) | exact L_pl hp2 | exact L_rm hp2 | exact L_kd hp2 | exact L_lw hp2 | exact L_wo hp2 | exact L_wr hp2 (by omega)) (by omega) ?_
  refine jr_aload_n hF dX4_boundOf_8 (q := 9) rfl rfl ?_
  refine jr_getR (ci := 4) (j := 5) hF dX4_boundOf_9 (q := 12) rfl (by first | rfl | exact L_pl hpl | exact L_rm hpl | exact L_kd hpl | exact L_lw hpl | exact L_wo hpl | exact L_wr hpl (by omega) | exact L_pl hp2 | exact L_rm hp2 | exact L_kd hp2 | exact L_lw hp2 | exact L_wo hp2 | exact L_wr hp2 (by omega)) rfl fl4_23 ?_
  refine jr_iload_n hF dX4_boundOf_12 (q := 13) rfl rfl ?_
  refine jr_iald hF dX4_boundOf_13 (q := 14) rfl (by first | rfl | exact L_pl hpl | exact L_rm hpl | exact L_kd hpl | exact L_lw hpl | exact L_wo hpl | exact L_wr hpl (by omega) | exact L_pl hp2 | exact L_rm hp2 | exact L_kd hp2 | exact L_lw hp2 | exact L_wo hp2 | exact L_wr hp2 (by omega)) (by omega) ?_
  refine jr_min hF mnW_ok dX4_boundOf_14 (q := 17) rfl lk4_62 (Nat.le_of_ble_eq_true rfl) (by decide) ?_
  refine jr_istore_n hF dX4_boundOf_17 (q := 18) rfl (by decide) rfl ?_
  refine jr_aload_n hF dX4_boundOf_18 (q := 19) rfl rfl ?_
  refine jr_getR (ci := 4) (j := 3) hF dX4_boundOf_19 (q := 22) rfl (by first | rfl | exact L_pl hpl | exact L_rm hpl | exact L_kd hpl | exact L_lw hpl | exact L_wo hpl | exact L_wr hpl (by omega) | exact L_pl hp2 | exact L_rm hp2 | exact L_kd hp2 | exact L_lw hp2 | exact L_wo hp2 | exact L_wr hp2 (by omega)) rfl fl4_15 ?_
  refine jr_iload_n hF dX4_boundOf_22 (q := 23) rfl rfl ?_
  refine jr_iald hF dX4_boundOf_23 (q := 24) rfl (by first | rfl | exact L_pl hpl | exact L_rm hpl | exact L_kd hpl | exact L_lw hpl | exact L_wo hpl | exact L_wr hpl (by omega) | exact L_pl hp2 | exact L_rm hp2 | exact L_kd hp2 | exact L_lw hp2 | exact L_wo hp2 | exact L_wr hp2 (by omega)) (by omega) ?_
  rw [r4, r5, r6]
  have hc : f_kd F i = 0 ∨ f_kd F i = 1 ∨ f_kd F i = 2 ∨ f_kd F i = 3 := by omega
  rcases hc with hc | hc | hc | hc
  · rw [hc]
    refine jr_tout hF dX4_boundOf_24 80 (by omega) (by decide) ?_
    refine jr_iload_n hF dX4_boundOf_80 (q := 81) rfl rfl ?_
    refine jr_retI hF hR dX4_boundOf_81 rfl ⟨by simp [f_bnd, hc], rfl⟩
  · rw [hc]
    refine jr_tin hF dX4_boundOf_24 52 (by decide) (by decide) rfl (by decide) ?_
    refine jr_iload_n hF dX4_boundOf_52 (q := 53) rfl rfl ?_
    refine jr_iconst hF dX4_boundOf_53 (q := 54) rfl (by decide) ?_
    refine jr_idiv hF dX4_boundOf_54 (q := 55) rfl (by omega) (by omega) ?_
    refine jr_retI hF hR dX4_boundOf_55 rfl ⟨by simp [f_bnd, hc], rfl⟩
  · rw [hc]
    refine jr_tin hF dX4_boundOf_24 56 (by decide) (by decide) rfl (by decide) ?_
    refine jr_aload_n hF dX4_boundOf_56 (q := 57) rfl rfl ?_
    refine jr_getR (ci := 4) (j := 4) hF dX4_boundOf_57 (q := 60) rfl (by first | rfl | exact L_pl hpl | exact L_rm hpl | exact L_kd hpl | exact L_lw hpl | exact L_wo hpl | exact L_wr hpl (by omega) | exact L_pl hp2 | exact L_rm hp2 | exact L_kd hp2 | exact L_lw hp2 | exact L_wo hp2 | exact L_wr hp2 (by omega)) rfl fl4_20 ?_
    refine jr_iload_n hF dX4_boundOf_60 (q := 61) rfl rfl ?_
    refine jr_aald hF dX4_boundOf_61 (q := 62) rfl (by first | rfl | exact L_pl hpl | exact L_rm hpl | exact L_kd hpl | exact L_lw hpl | exact L_wo hpl | exact L_wr hpl (by omega) | exact L_pl hp2 | exact L_rm hp2 | exact L_kd hp2 | exact L_lw hp2 | exact L_wo hp2 | exact L_wr hp2 (by omega)) (by omega) ?_
    rw [tn]
    refine jr_iload_n hF dX4_boundOf_62 (q := 63) rfl rfl ?_
    refine jr_iald hF dX4_boundOf_63 (q := 64) rfl (by first | rfl | exact L_pl hpl | exact L_rm hpl | exact L_kd hpl | exact L_lw hpl | exact L_wo hpl | exact L_wr hpl (by omega) | exact L_pl hp2 | exact L_rm hp2 | exact L_kd hp2 | exact L_lw hp2 | exact L_wo hp2 | exact L_wr hp2 (by omega)) (by omega) ?_
    refine jr_iconst hF dX4_boundOf_64 (q := 65) rfl (by decide) ?_
    rw [r5]
    refine jr_icmp_lt hF dX4_boundOf_65 (q := 68) rfl 72 (by decide) (fun h => ?_) (fun h => ?_)
    · refine jr_iconst hF dX4_boundOf_72 (q := 73) rfl (by decide) ?_
      refine jr_retI hF hR dX4_boundOf_73 rfl ⟨by simp [f_bnd, hc, show ¬ 5 ≤ f_wt F i m by omega], rfl⟩
    · refine jr_iload_n hF dX4_boundOf_68 (q := 69) rfl rfl ?_
      refine jr_goto hF dX4_boundOf_69 73 (by decide) ?_
      refine jr_retI hF hR dX4_boundOf_73 rfl ⟨by simp [f_bnd, hc, h], rfl⟩
  · rw [hc]
    refine jr_tin hF dX4_boundOf_24 74 (by decide) (by decide) rfl (by decide) ?_
    refine jr_iload_n hF dX4_boundOf_74 (q := 75) rfl rfl ?_
    refine jr_iload_n hF dX4_boundOf_75 (q := 76) rfl rfl ?_
    refine jr_iconst hF dX4_boundOf_76 (q := 77) rfl (by decide) ?_
    refine jr_irem hF dX4_boundOf_77 (q := 78) rfl (by omega) (by omega) ?_
    refine jr_isub hF dX4_boundOf_78 (q := 79) rfl (by omega) ?_
    refine jr_retI hF hR dX4_boundOf_79 rfl ⟨by simp [f_bnd, hc], rfl⟩
set_option maxRecDepth 100000 in
theorem c_howManyIn (σ : Sg) (pl : Nat) (hpl : pl = 4 ∨ pl = 14) (p : Int) (nl : Nat) (hn : σ pl 1 = (nl : Int)) (h5 : nl ≤ 5) : RI mX2_howManyIn 2 [vR 24, vR pl, vI p] σ (fun z σ' => z = cnt (fun i => decide (σ 25 (i : Int) = -4 ∧ p ≤ σ 27 (i : Int))) nl ∧ σ = σ') := by
  refine mkRun (by decide +kernel) (Nat.le_of_ble_eq_true rfl) (fun X hF hR => ?_)
  generalize hf : (fun i : Nat => decide (σ 25 (i : Int) = -4 ∧ p ≤ σ 27 (i : Int))) = f at hR
  refine jr_iconst hF dX2_howManyIn_0 (q := 1) rfl (by decide) ?_
  refine jr_istore_n hF dX2_howManyIn_1 (q := 2) rfl (by decide) rfl ?_
  refine jr_iconst hF dX2_howManyIn_2 (q := 3) rfl (by decide) ?_
  refine jr_istore hF dX2_howManyIn_3 (q := 5) rfl (by decide) rfl ?_
  refine gs_loop (α := Unit) (fun k _ => [some (vR 24), some (vR pl), some (vI p), some (vI (cnt f k)), some (vI (k : Int))]) (fun _ => σ) (fun _ _ => True) nl (fun _ _ => ?_) (fun k _ hk _ ih => ?_) () trivial
  · refine jr_iload hF dX2_howManyIn_5 (q := 7) rfl rfl ?_
    refine jr_aload_n hF dX2_howManyIn_7 (q := 8) rfl rfl ?_
    refine jr_getI (ci := 4) (j := 1) hF 1 rfl dX2_howManyIn_8 (q := 11) rfl (by first | rfl | exact L_pl hpl | exact L_rm hpl | exact L_kd hpl | exact L_lw hpl | exact L_wo hpl | exact L_wr hpl (by omega) | exact L_pl hp2 | exact L_rm hp2 | exact L_kd hp2 | exact L_lw hp2 | exact L_wo hp2 | exact L_wr hp2 (by omega)) rfl fl2_36 ?_
    refine jr_icmp_ge hF dX2_howManyIn_11 (q := 14) rfl 33 (by decide) (fun h1 => ?_) (fun h1 => ?_)
    · refine jr_iload_n hF dX2_howManyIn_33 (q := 34) rfl rfl ?_
      refine jr_retI hF hR dX2_howManyIn_34 rfl ⟨rfl, rfl⟩
    · omega
  · have hc := cnt_le f k
    have e : f k = decide (σ 25 (k : Int) = -4 ∧ p ≤ σ 27 (k : Int)) := by rw [← hf]
    have e2 : cnt f (k + 1) = cnt f k + (if f k = true then 1 else 0) := rfl
    refine jr_iload hF dX2_howManyIn_5 (q := 7) rfl rfl ?_
    refine jr_aload_n hF dX2_howManyIn_7 (q := 8) rfl rfl ?_
    refine jr_getI (ci := 4) (j := 1) hF 1 rfl dX2_howManyIn_8 (q := 11) rfl (by first | rfl | exact L_pl hpl | exact L_rm hpl | exact L_kd hpl | exact L_lw hpl | exact L_wo hpl | exact L_wr hpl (by omega) | exact L_pl hp2 | exact L_rm hp2 | exact L_kd hp2 | exact L_lw hp2 | exact L_wo hp2 | exact L_wr hp2 (by omega)) rfl fl2_36 ?_
    refine jr_icmp_ge hF dX2_howManyIn_11 (q := 14) rfl 33 (by decide) (fun h1 => ?_) (fun h1 => ?_)
    · omega
    · refine jr_aload_n hF dX2_howManyIn_14 (q := 15) rfl rfl ?_
      refine jr_iload hF dX2_howManyIn_15 (q := 17) rfl rfl ?_
      refine jr_iload_n hF dX2_howManyIn_17 (q := 18) rfl rfl ?_
      refine jr_cV2I hF (c_isIn σ k p (by omega)) dX2_howManyIn_18 (q := 21) rfl lk2_69 vX2_isIn kX2_isIn rfl rfl rfl (by decide) (Nat.le_of_ble_eq_true rfl) (fun z σ1 h3 => ?_)
      obtain ⟨rfl, rfl⟩ := h3
      have ih1 := ih () trivial
      refine jr_if_eq hF dX2_howManyIn_21 (q := 24) rfl 27 (by decide) (fun h2 => ?_) (fun h2 => ?_)
      · refine jr_iinc hF dX2_howManyIn_27 (q := 30) rfl (by decide) rfl rfl (by omega) ?_
        refine jr_goto hF dX2_howManyIn_30 5 (by decide) ?_
        have e3 : ¬ (σ 25 (k : Int) = -4 ∧ p ≤ σ 27 (k : Int)) := fun h => by rw [if_pos h] at h2; omega
        rw [e, decide_eq_false e3, if_neg (by decide), Int.add_zero] at e2
        rw [e2] at ih1
        exact ih1
      · refine jr_iinc hF dX2_howManyIn_24 (q := 27) rfl (by decide) rfl rfl (by omega) ?_
        refine jr_iinc hF dX2_howManyIn_27 (q := 30) rfl (by decide) rfl rfl (by omega) ?_
        refine jr_goto hF dX2_howManyIn_30 5 (by decide) ?_
        have e3 : σ 25 (k : Int) = -4 ∧ p ≤ σ 27 (k : Int) := Classical.byContradiction fun h => by rw [if_neg h] at h2; omega
        rw [e, decide_eq_true e3, if_pos rfl] at e2
        rw [e2] at ih1
        exact ih1
/-- the hiring's rows hold who has whom and for how long -/
def HR (σ : Sg) (g y : Nat → Int) : Prop := ∀ j : Nat, j < 5 → σ 25 (j : Int) = g j ∧ σ 26 (j : Int) = y j
def HB (σ : Sg) (F : FD) (ab m : Nat) : Prop := ∀ i : Nat, i < f_nl F → σ 27 (i : Int) = f_bd F ab i m
set_option maxRecDepth 100000 in
theorem c_hire (σ : Sg) (pl : Nat) (hpl : pl = 4 ∨ pl = 14) (F : FD) (hn : σ pl 1 = (f_nl F : Int)) (h5 : f_nl F ≤ 5) (ab m : Nat) (g y : Nat → Int) (hH : HR σ g y) (hB : HB σ F ab m) (p room : Int) (hr : 0 ≤ room ∧ room ≤ 3) : RI mX2_hire 2 [vR 24, vR pl, vI (m : Int), vI p, vI room] σ (fun z σ' => z = (grant (f_in F ab g m p) m p (f_nl F) (g, y, room)).2.2 ∧ HR σ' (grant (f_in F ab g m p) m p (f_nl F) (g, y, room)).1 (grant (f_in F ab g m p) m p (f_nl F) (g, y, room)).2.1 ∧ ∀ k, k ≠ 25 → k ≠ 26 → σ' k = σ k) := by
  refine mkRun (by decide +kernel) (Nat.le_of_ble_eq_true rfl) (fun X hF hR => ?_)
  refine jr_iload hF dX2_hire_0 (q := 2) rfl rfl ?_
  refine jr_istore hF dX2_hire_2 (q := 4) rfl (by decide) rfl ?_
  refine jr_iconst hF dX2_hire_4 (q := 5) rfl (by decide) ?_
  refine jr_istore hF dX2_hire_5 (q := 7) rfl (by decide) rfl ?_
  refine gs_loop (α := Sg) (fun k _ => [some (vR 24), some (vR pl), some (vI (m : Int)), some (vI p), some (vI room), some (vI (grant (f_in F ab g m p) m p k (g, y, room)).2.2), some (vI (k : Int))]) (fun σ' => σ') (fun k σ' => HR σ' (grant (f_in F ab g m p) m p k (g, y, room)).1 (grant (f_in F ab g m p) m p k (g, y, room)).2.1 ∧ ∀ k, k ≠ 25 → k ≠ 26 → σ' k = σ k) (f_nl F) (fun σ' h => ?_) (fun k σ' hk h ih => ?_) σ ⟨hH, fun _ _ _ => rfl⟩
  · have e1 : σ' pl 1 = (f_nl F : Int) := by rw [h.2 pl (by omega) (by omega)]; exact hn
    refine jr_iload hF dX2_hire_7 (q := 9) rfl rfl ?_
    refine jr_aload_n hF dX2_hire_9 (q := 10) rfl rfl ?_
    refine jr_getI (ci := 4) (j := 1) hF 1 rfl dX2_hire_10 (q := 13) rfl (by first | rfl | exact L_pl hpl | exact L_rm hpl | exact L_kd hpl | exact L_lw hpl | exact L_wo hpl | exact L_wr hpl (by omega) | exact L_pl hp2 | exact L_rm hp2 | exact L_kd hp2 | exact L_lw hp2 | exact L_wo hp2 | exact L_wr hp2 (by omega)) rfl fl2_36 ?_
    refine jr_icmp_ge hF dX2_hire_13 (q := 16) rfl 56 (by decide) (fun h1 => ?_) (fun h1 => ?_)
    · refine jr_iload hF dX2_hire_56 (q := 58) rfl rfl ?_
      refine jr_retI hF hR dX2_hire_58 rfl ⟨rfl, h⟩
    · omega
  · have e1 : σ' pl 1 = (f_nl F : Int) := by rw [h.2 pl (by omega) (by omega)]; exact hn
    have hl := grant_left (f_in F ab g m p) m p k (g, y, room) hr.1
    have hl2 : (grant (f_in F ab g m p) m p k (g, y, room)).2.2 ≤ room := hl.2
    have e2 : σ' 25 (k : Int) = g k := ((h.1 k (by omega)).1).trans (grant_hi (f_in F ab g m p) m p k (g, y, room) k (Nat.le_refl _)).1
    have e3 : σ' 27 (k : Int) = f_bd F ab k m := by rw [h.2 27 (by decide) (by decide)]; exact hB k hk
    refine jr_iload hF dX2_hire_7 (q := 9) rfl rfl ?_
    refine jr_aload_n hF dX2_hire_9 (q := 10) rfl rfl ?_
    refine jr_getI (ci := 4) (j := 1) hF 1 rfl dX2_hire_10 (q := 13) rfl (by first | rfl | exact L_pl hpl | exact L_rm hpl | exact L_kd hpl | exact L_lw hpl | exact L_wo hpl | exact L_wr hpl (by omega) | exact L_pl hp2 | exact L_rm hp2 | exact L_kd hp2 | exact L_lw hp2 | exact L_wo hp2 | exact L_wr hp2 (by omega)) rfl fl2_36 ?_
    refine jr_icmp_ge hF dX2_hire_13 (q := 16) rfl 56 (by decide) (fun h1 => ?_) (fun h1 => ?_)
    · omega
    · refine jr_iload hF dX2_hire_16 (q := 18) rfl rfl ?_
      refine jr_if_le hF dX2_hire_18 (q := 21) rfl 56 (by decide) (fun h2 => ?_) (fun h2 => ?_)
      · have hs := grant_stop (f_in F ab g m p) m p (g, y, room) k h2 (f_nl F) (by omega)
        refine jr_iload hF dX2_hire_56 (q := 58) rfl rfl ?_
        refine jr_retI hF hR dX2_hire_58 rfl ⟨by rw [hs], by rw [hs]; exact h⟩
      · refine jr_aload_n hF dX2_hire_21 (q := 22) rfl rfl ?_
        refine jr_iload hF dX2_hire_22 (q := 24) rfl rfl ?_
        refine jr_iload_n hF dX2_hire_24 (q := 25) rfl rfl ?_
        refine jr_cV2I hF (c_isIn σ' k p (by omega)) dX2_hire_25 (q := 28) rfl lk2_69 vX2_isIn kX2_isIn rfl rfl rfl (by decide) (Nat.le_of_ble_eq_true rfl) (fun z σ1 h3 => ?_)
        obtain ⟨rfl, rfl⟩ := h3
        rw [e2, e3]
        refine jr_if_eq hF dX2_hire_28 (q := 31) rfl 50 (by decide) (fun h4 => ?_) (fun h4 => ?_)
        · have hS : f_in F ab g m p k = false := by
            unfold f_in
            exact decide_eq_false (fun hh => by rw [if_pos hh] at h4; omega)
          have eg : grant (f_in F ab g m p) m p (k + 1) (g, y, room) = grant (f_in F ab g m p) m p k (g, y, room) := by
            rw [grant, if_neg (by rw [hS]; simp)]
          have ih1 := ih σ' (by rw [eg]; exact h)
          rw [eg] at ih1
          refine jr_iinc hF dX2_hire_50 (q := 53) rfl (by decide) rfl rfl (by omega) ?_
          refine jr_goto hF dX2_hire_53 7 (by decide) ?_
          exact ih1
        · have hS : f_in F ab g m p k = true := by
            unfold f_in
            exact decide_eq_true (Classical.byContradiction fun hh => by rw [if_neg hh] at h4; omega)
          have eg : grant (f_in F ab g m p) m p (k + 1) (g, y, room) = (st1 (grant (f_in F ab g m p) m p k (g, y, room)).1 k m, st1 (grant (f_in F ab g m p) m p k (g, y, room)).2.1 k p, (grant (f_in F ab g m p) m p k (g, y, room)).2.2 - 1) := by
            rw [grant, if_pos ⟨hS, h2⟩]
          have ih1 := ih (up (up σ' 25 (k : Int) m) 26 (k : Int) p) (by
            rw [eg]
            refine ⟨fun j hj => ⟨?_, ?_⟩, fun c h1 h2 => ?_⟩
            · rw [up_ne (by decide), up_nat, (h.1 j hj).1]
              rfl
            · rw [up_nat, up_ne (by decide), (h.1 j hj).2]
              rfl
            · rw [up_ne h2, up_ne h1]
              exact h.2 c h1 h2)
          rw [eg] at ih1
          refine jr_aload_n hF dX2_hire_31 (q := 32) rfl rfl ?_
          refine jr_getR (ci := 2) (j := 0) hF dX2_hire_32 (q := 35) rfl rfl rfl fl2_9 ?_
          refine jr_iload hF dX2_hire_35 (q := 37) rfl rfl ?_
          refine jr_iload_n hF dX2_hire_37 (q := 38) rfl rfl ?_
          refine jr_iast hF dX2_hire_38 (q := 39) rfl rfl (by omega) ?_
          refine jr_aload_n hF dX2_hire_39 (q := 40) rfl rfl ?_
          refine jr_getR (ci := 2) (j := 1) hF dX2_hire_40 (q := 43) rfl rfl rfl fl2_15 ?_
          refine jr_iload hF dX2_hire_43 (q := 45) rfl rfl ?_
          refine jr_iload_n hF dX2_hire_45 (q := 46) rfl rfl ?_
          refine jr_iast hF dX2_hire_46 (q := 47) rfl rfl (by omega) ?_
          refine jr_iinc hF dX2_hire_47 (q := 50) rfl (by decide) rfl rfl (by omega) ?_
          refine jr_iinc hF dX2_hire_50 (q := 53) rfl (by decide) rfl rfl (by omega) ?_
          refine jr_goto hF dX2_hire_53 7 (by decide) ?_
          exact ih1

