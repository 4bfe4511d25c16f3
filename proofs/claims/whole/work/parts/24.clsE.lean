/-! ===== Hiring: what is read off a fair ===== -/
def f_gn (F : FD) (w : GY) (i : Nat) : Int := if w.1 i = -4 then 0 else f_wt F i (w.1 i).toNat - w.2 i
theorem f_gn_le {F : FD} (ok : okF F) {ab : Nat} {w : GY} (hw : wOK F ab (f_nm F) w) (i : Nat) : 0 ≤ f_gn F w i ∧ f_gn F w i ≤ 10 := by
  unfold f_gn
  rcases hw i with ⟨h1, h2⟩ | ⟨m, h1, h2, h3, h4, h5⟩
  · rw [if_pos h1]
    omega
  · rw [if_neg (by omega), h3]
    have a1 := f_bd_le ok ab h2 h1
    have a2 := ok.2.2.2.2.1 i m h2 h1
    rw [show ((m : Int)).toNat = m by omega]
    omega
theorem wOK_y {F : FD} (ok : okF F) {ab : Nat} {w : GY} (hw : wOK F ab (f_nm F) w) (i : Nat) : 0 ≤ w.2 i ∧ w.2 i ≤ 10 := by
  rcases hw i with ⟨h1, h2⟩ | ⟨m, h1, h2, h3, h4, h5⟩
  · omega
  · have a1 := f_bd_le ok ab h2 h1
    omega
def orb (a : Int) (k : Nat) : Int := (Int32.ofInt a ||| Int32.ofInt (Int32.ofInt 1 <<< (Int32.ofInt (k : Int) &&& 31)).toInt).toInt
def bitsF (f : Nat → Bool) (n : Nat) : Int := match n with
  | 0 => 0
  | n + 1 => if f n = true then orb (bitsF f n) n else bitsF f n
def mostF (f : Nat → Bool) (y : Nat → Int) (n : Nat) : Int := match n with
  | 0 => 0
  | n + 1 => if f n = true ∧ mostF f y n < y n then y n else mostF f y n
def sumF (y : Nat → Int) (n : Nat) : Int := match n with
  | 0 => 0
  | n + 1 => sumF y n + y n
theorem sumF_le {y : Nat → Int} {n : Nat} (h : ∀ i, i < n → 0 ≤ y i ∧ y i ≤ 10) : 0 ≤ sumF y n ∧ sumF y n ≤ 10 * n := by
  induction n with
  | zero => exact ⟨Int.le_refl _, Int.le_refl _⟩
  | succ n ih =>
    have := ih (fun i hi => h i (by omega))
    have := h n (by omega)
    unfold sumF
    omega
theorem sumF_congr {y y' : Nat → Int} {n : Nat} (h : ∀ i, i < n → y i = y' i) : sumF y n = sumF y' n := by
  induction n with
  | zero => rfl
  | succ n ih =>
    unfold sumF
    rw [ih (fun i hi => h i (by omega)), h n (by omega)]
set_option maxRecDepth 100000 in
theorem c_gainOf (σ : Sg) (pl : Nat) (hpl : pl = 4 ∨ pl = 14) (F : FD) (hC : RepC σ pl F) (ok : okF F) (ab : Nat) (w : GY) (hw : wOK F ab (f_nm F) w) (hH : HR σ w.1 w.2) (i : Nat) (hi : i < f_nl F) : RI mX2_gainOf 1 [vR 24, vR pl, vI (i : Int)] σ (fun z σ' => z = f_gn F w i ∧ σ = σ') := by
  have h5 := ok.2.1
  have h3 := ok.1
  have hg := f_gn_le ok hw i
  have hy := wOK_y ok hw i
  obtain ⟨e1, e2⟩ := hH i (by omega)
  refine mkRun (by decide +kernel) (Nat.le_of_ble_eq_true rfl) (fun X hF hR => ?_)
  refine jr_aload_n hF dX2_gainOf_0 (q := 1) rfl rfl ?_
  refine jr_getR (ci := 2) (j := 0) hF dX2_gainOf_1 (q := 4) rfl rfl rfl fl2_9 ?_
  refine jr_iload_n hF dX2_gainOf_4 (q := 5) rfl rfl ?_
  refine jr_iald hF dX2_gainOf_5 (q := 6) rfl rfl (by omega) ?_
  refine jr_bipush hF dX2_gainOf_6 (q := 8) rfl (by decide) (by decide +kernel) ?_
  rw [e1]
  refine jr_icmp_ne hF dX2_gainOf_8 (q := 11) rfl 15 (by decide) (fun hc => ?_) (fun hc => ?_)
  · rcases hw i with ⟨a1, -⟩ | ⟨m, a1, a2, a3, -⟩
    · exact absurd a1 hc
    · have e3 := hC.want a2 a1
      have e4 : f_gn F w i = f_wt F i m - w.2 i := by
        unfold f_gn
        rw [if_neg hc, a3, show ((m : Int)).toNat = m by omega]
      refine jr_aload_n hF dX2_gainOf_15 (q := 16) rfl rfl ?_
      refine jr_getR (ci := 4) (j := 4) hF dX2_gainOf_16 (q := 19) rfl (by first | rfl | exact L_pl hpl | exact L_rm hpl | exact L_kd hpl | exact L_lw hpl | exact L_wo hpl | exact L_wr hpl (by omega) | exact L_pl hp2 | exact L_rm hp2 | exact L_kd hp2 | exact L_lw hp2 | exact L_wo hp2 | exact L_wr hp2 (by omega)) rfl fl2_73 ?_
      refine jr_iload_n hF dX2_gainOf_19 (q := 20) rfl rfl ?_
      refine jr_aald hF dX2_gainOf_20 (q := 21) rfl (by first | rfl | exact L_pl hpl | exact L_rm hpl | exact L_kd hpl | exact L_lw hpl | exact L_wo hpl | exact L_wr hpl (by omega) | exact L_pl hp2 | exact L_rm hp2 | exact L_kd hp2 | exact L_lw hp2 | exact L_wo hp2 | exact L_wr hp2 (by omega)) (by omega) ?_
      rw [tn]
      refine jr_aload_n hF dX2_gainOf_21 (q := 22) rfl rfl ?_
      refine jr_getR (ci := 2) (j := 0) hF dX2_gainOf_22 (q := 25) rfl rfl rfl fl2_9 ?_
      refine jr_iload_n hF dX2_gainOf_25 (q := 26) rfl rfl ?_
      refine jr_iald hF dX2_gainOf_26 (q := 27) rfl rfl (by omega) ?_
      rw [e1, a3]
      refine jr_iald hF dX2_gainOf_27 (q := 28) rfl (by first | rfl | exact L_pl hpl | exact L_rm hpl | exact L_kd hpl | exact L_lw hpl | exact L_wo hpl | exact L_wr hpl (by omega) | exact L_pl hp2 | exact L_rm hp2 | exact L_kd hp2 | exact L_lw hp2 | exact L_wo hp2 | exact L_wr hp2 (by omega)) (by omega) ?_
      refine jr_aload_n hF dX2_gainOf_28 (q := 29) rfl rfl ?_
      refine jr_getR (ci := 2) (j := 1) hF dX2_gainOf_29 (q := 32) rfl (by first | rfl | exact L_pl hpl | exact L_rm hpl | exact L_kd hpl | exact L_lw hpl | exact L_wo hpl | exact L_wr hpl (by omega) | exact L_pl hp2 | exact L_rm hp2 | exact L_kd hp2 | exact L_lw hp2 | exact L_wo hp2 | exact L_wr hp2 (by omega)) rfl fl2_15 ?_
      refine jr_iload_n hF dX2_gainOf_32 (q := 33) rfl rfl ?_
      refine jr_iald hF dX2_gainOf_33 (q := 34) rfl (by first | rfl | exact L_pl hpl | exact L_rm hpl | exact L_kd hpl | exact L_lw hpl | exact L_wo hpl | exact L_wr hpl (by omega) | exact L_pl hp2 | exact L_rm hp2 | exact L_kd hp2 | exact L_lw hp2 | exact L_wo hp2 | exact L_wr hp2 (by omega)) (by omega) ?_
      rw [e3, e2]
      refine jr_isub hF dX2_gainOf_34 (q := 35) rfl (by omega) ?_
      refine jr_retI hF hR dX2_gainOf_35 rfl ⟨by rw [e4], rfl⟩
  · refine jr_iconst hF dX2_gainOf_11 (q := 12) rfl (by decide) ?_
    refine jr_goto hF dX2_gainOf_12 35 (by decide) ?_
    refine jr_retI hF hR dX2_gainOf_35 rfl ⟨by unfold f_gn; rw [if_pos hc], rfl⟩
set_option maxRecDepth 100000 in
theorem c_ladsOf (σ : Sg) (pl : Nat) (hpl : pl = 4 ∨ pl = 14) (nl : Nat) (hn : σ pl 1 = (nl : Int)) (h5 : nl ≤ 5) (w : GY) (hH : HR σ w.1 w.2) (m : Int) : RI mX2_ladsOf 1 [vR 24, vR pl, vI m] σ (fun z σ' => z = bitsF (fun i => decide (w.1 i = m)) nl ∧ σ = σ') := by
  refine mkRun (by decide +kernel) (Nat.le_of_ble_eq_true rfl) (fun X hF hR => ?_)
  refine jr_iconst hF dX2_ladsOf_0 (q := 1) rfl (by decide) ?_
  refine jr_istore_n hF dX2_ladsOf_1 (q := 2) rfl (by decide) rfl ?_
  refine jr_iconst hF dX2_ladsOf_2 (q := 3) rfl (by decide) ?_
  refine jr_istore hF dX2_ladsOf_3 (q := 5) rfl (by decide) rfl ?_
  refine gs_loop (α := Unit) (fun k _ => [some (vR 24), some (vR pl), some (vI m), some (vI (bitsF (fun i => decide (w.1 i = m)) k)), some (vI (k : Int))]) (fun _ => σ) (fun _ _ => True) nl (fun _ _ => ?_) (fun k _ hk _ ih => ?_) () trivial
  · refine jr_iload hF dX2_ladsOf_5 (q := 7) rfl rfl ?_
    refine jr_aload_n hF dX2_ladsOf_7 (q := 8) rfl rfl ?_
    refine jr_getI (ci := 4) (j := 1) hF 1 rfl dX2_ladsOf_8 (q := 11) rfl (by first | rfl | exact L_pl hpl | exact L_rm hpl | exact L_kd hpl | exact L_lw hpl | exact L_wo hpl | exact L_wr hpl (by omega) | exact L_pl hp2 | exact L_rm hp2 | exact L_kd hp2 | exact L_lw hp2 | exact L_wo hp2 | exact L_wr hp2 (by omega)) rfl fl2_36 ?_
    refine jr_icmp_ge hF dX2_ladsOf_11 (q := 14) rfl 38 (by decide) (fun h1 => ?_) (fun h1 => ?_)
    · refine jr_iload_n hF dX2_ladsOf_38 (q := 39) rfl rfl ?_
      refine jr_retI hF hR dX2_ladsOf_39 rfl ⟨rfl, rfl⟩
    · omega
  · have e1 := (hH k (by omega)).1
    have e2 : bitsF (fun i => decide (w.1 i = m)) (k + 1) = if decide (w.1 k = m) = true then orb (bitsF (fun i => decide (w.1 i = m)) k) k else bitsF (fun i => decide (w.1 i = m)) k := rfl
    have ih1 := ih () trivial
    refine jr_iload hF dX2_ladsOf_5 (q := 7) rfl rfl ?_
    refine jr_aload_n hF dX2_ladsOf_7 (q := 8) rfl rfl ?_
    refine jr_getI (ci := 4) (j := 1) hF 1 rfl dX2_ladsOf_8 (q := 11) rfl (by first | rfl | exact L_pl hpl | exact L_rm hpl | exact L_kd hpl | exact L_lw hpl | exact L_wo hpl | exact L_wr hpl (by omega) | exact L_pl hp2 | exact L_rm hp2 | exact L_kd hp2 | exact L_lw hp2 | exact L_wo hp2 | exact L_wr hp2 (by omega)) rfl fl2_36 ?_
    refine jr_icmp_ge hF dX2_ladsOf_11 (q := 14) rfl 38 (by decide) (fun h1 => ?_) (fun h1 => ?_)
    · omega
    · refine jr_aload_n hF dX2_ladsOf_14 (q := 15) rfl rfl ?_
      refine jr_getR (ci := 2) (j := 0) hF dX2_ladsOf_15 (q := 18) rfl rfl rfl fl2_9 ?_
      refine jr_iload hF dX2_ladsOf_18 (q := 20) rfl rfl ?_
      refine jr_iald hF dX2_ladsOf_20 (q := 21) rfl rfl (by omega) ?_
      refine jr_iload_n hF dX2_ladsOf_21 (q := 22) rfl rfl ?_
      rw [e1]
      refine jr_icmp_ne hF dX2_ladsOf_22 (q := 25) rfl 32 (by decide) (fun h2 => ?_) (fun h2 => ?_)
      · rw [e2, decide_eq_false h2, if_neg (by decide)] at ih1
        refine jr_iinc hF dX2_ladsOf_32 (q := 35) rfl (by decide) rfl rfl (by omega) ?_
        refine jr_goto hF dX2_ladsOf_35 5 (by decide) ?_
        exact ih1
      · rw [e2, decide_eq_true h2, if_pos rfl] at ih1
        refine jr_iload_n hF dX2_ladsOf_25 (q := 26) rfl rfl ?_
        refine jr_iconst hF dX2_ladsOf_26 (q := 27) rfl (by decide) ?_
        refine jr_iload hF dX2_ladsOf_27 (q := 29) rfl rfl ?_
        refine jr_ishl hF dX2_ladsOf_29 (q := 30) rfl ?_
        refine jr_ior hF dX2_ladsOf_30 (q := 31) rfl ?_
        refine jr_istore_n hF dX2_ladsOf_31 (q := 32) rfl (by decide) rfl ?_
        refine jr_iinc hF dX2_ladsOf_32 (q := 35) rfl (by decide) rfl rfl (by omega) ?_
        refine jr_goto hF dX2_ladsOf_35 5 (by decide) ?_
        exact ih1
theorem mostF_le {f : Nat → Bool} {y : Nat → Int} {n : Nat} (h : ∀ i, i < n → 0 ≤ y i ∧ y i ≤ 10) : 0 ≤ mostF f y n ∧ mostF f y n ≤ 10 := by
  induction n with
  | zero => exact ⟨Int.le_refl 0, (by decide : (0 : Int) ≤ 10)⟩
  | succ n ih =>
    have := ih (fun i hi => h i (by omega))
    have := h n (by omega)
    unfold mostF
    split <;> omega
set_option maxRecDepth 100000 in
theorem c_mostYearsOf (σ : Sg) (pl : Nat) (hpl : pl = 4 ∨ pl = 14) (nl : Nat) (hn : σ pl 1 = (nl : Int)) (h5 : nl ≤ 5) (w : GY) (hH : HR σ w.1 w.2) (m : Int) : RI mX2_mostYearsOf 1 [vR 24, vR pl, vI m] σ (fun z σ' => z = mostF (fun i => decide (w.1 i = m)) w.2 nl ∧ σ = σ') := by
  refine mkRun (by decide +kernel) (Nat.le_of_ble_eq_true rfl) (fun X hF hR => ?_)
  refine jr_iconst hF dX2_mostYearsOf_0 (q := 1) rfl (by decide) ?_
  refine jr_istore_n hF dX2_mostYearsOf_1 (q := 2) rfl (by decide) rfl ?_
  refine jr_iconst hF dX2_mostYearsOf_2 (q := 3) rfl (by decide) ?_
  refine jr_istore hF dX2_mostYearsOf_3 (q := 5) rfl (by decide) rfl ?_
  refine gs_loop (α := Unit) (fun k _ => [some (vR 24), some (vR pl), some (vI m), some (vI (mostF (fun i => decide (w.1 i = m)) w.2 k)), some (vI (k : Int))]) (fun _ => σ) (fun _ _ => True) nl (fun _ _ => ?_) (fun k _ hk _ ih => ?_) () trivial
  · refine jr_iload hF dX2_mostYearsOf_5 (q := 7) rfl rfl ?_
    refine jr_aload_n hF dX2_mostYearsOf_7 (q := 8) rfl rfl ?_
    refine jr_getI (ci := 4) (j := 1) hF 1 rfl dX2_mostYearsOf_8 (q := 11) rfl (by first | rfl | exact L_pl hpl | exact L_rm hpl | exact L_kd hpl | exact L_lw hpl | exact L_wo hpl | exact L_wr hpl (by omega) | exact L_pl hp2 | exact L_rm hp2 | exact L_kd hp2 | exact L_lw hp2 | exact L_wo hp2 | exact L_wr hp2 (by omega)) rfl fl2_36 ?_
    refine jr_icmp_ge hF dX2_mostYearsOf_11 (q := 14) rfl 43 (by decide) (fun h1 => ?_) (fun h1 => ?_)
    · refine jr_iload_n hF dX2_mostYearsOf_43 (q := 44) rfl rfl ?_
      refine jr_retI hF hR dX2_mostYearsOf_44 rfl ⟨rfl, rfl⟩
    · omega
  · obtain ⟨e1, e3⟩ := hH k (by omega)
    have e2 : mostF (fun i => decide (w.1 i = m)) w.2 (k + 1) = if decide (w.1 k = m) = true ∧ mostF (fun i => decide (w.1 i = m)) w.2 k < w.2 k then w.2 k else mostF (fun i => decide (w.1 i = m)) w.2 k := rfl
    have ih1 := ih () trivial
    refine jr_iload hF dX2_mostYearsOf_5 (q := 7) rfl rfl ?_
    refine jr_aload_n hF dX2_mostYearsOf_7 (q := 8) rfl rfl ?_
    refine jr_getI (ci := 4) (j := 1) hF 1 rfl dX2_mostYearsOf_8 (q := 11) rfl (by first | rfl | exact L_pl hpl | exact L_rm hpl | exact L_kd hpl | exact L_lw hpl | exact L_wo hpl | exact L_wr hpl (by omega) | exact L_pl hp2 | exact L_rm hp2 | exact L_kd hp2 | exact L_lw hp2 | exact L_wo hp2 | exact L_wr hp2 (by omega)) rfl fl2_36 ?_
    refine jr_icmp_ge hF dX2_mostYearsOf_11 (q := 14) rfl 43 (by decide) (fun h1 => ?_) (fun h1 => ?_)
    · omega
    · refine jr_aload_n hF dX2_mostYearsOf_14 (q := 15) rfl rfl ?_
      refine jr_getR (ci := 2) (j := 0) hF dX2_mostYearsOf_15 (q := 18) rfl rfl rfl fl2_9 ?_
      refine jr_iload hF dX2_mostYearsOf_18 (q := 20) rfl rfl ?_
      refine jr_iald hF dX2_mostYearsOf_20 (q := 21) rfl rfl (by omega) ?_
      refine jr_iload_n hF dX2_mostYearsOf_21 (q := 22) rfl rfl ?_
      rw [e1]
      refine jr_icmp_ne hF dX2_mostYearsOf_22 (q := 25) rfl 37 (by decide) (fun h2 => ?_) (fun h2 => ?_)
      · rw [e2, if_neg (by rw [decide_eq_false h2]; simp)] at ih1
        refine jr_iinc hF dX2_mostYearsOf_37 (q := 40) rfl (by decide) rfl rfl (by omega) ?_
        refine jr_goto hF dX2_mostYearsOf_40 5 (by decide) ?_
        exact ih1
      · refine jr_iload_n hF dX2_mostYearsOf_25 (q := 26) rfl rfl ?_
        refine jr_aload_n hF dX2_mostYearsOf_26 (q := 27) rfl rfl ?_
        refine jr_getR (ci := 2) (j := 1) hF dX2_mostYearsOf_27 (q := 30) rfl rfl rfl fl2_15 ?_
        refine jr_iload hF dX2_mostYearsOf_30 (q := 32) rfl rfl ?_
        refine jr_iald hF dX2_mostYearsOf_32 (q := 33) rfl rfl (by omega) ?_
        refine jr_max hF mxW_ok dX2_mostYearsOf_33 (q := 36) rfl lk2_77 (Nat.le_of_ble_eq_true rfl) (by decide) ?_
        refine jr_istore_n hF dX2_mostYearsOf_36 (q := 37) rfl (by decide) rfl ?_
        refine jr_iinc hF dX2_mostYearsOf_37 (q := 40) rfl (by decide) rfl rfl (by omega) ?_
        refine jr_goto hF dX2_mostYearsOf_40 5 (by decide) ?_
        rw [e3]
        have e4 : (if mostF (fun i => decide (w.1 i = m)) w.2 k < w.2 k then w.2 k else mostF (fun i => decide (w.1 i = m)) w.2 k) = mostF (fun i => decide (w.1 i = m)) w.2 (k + 1) := by
          rw [e2]
          simp [h2]
        rw [e4]
        exact ih1
set_option maxRecDepth 100000 in
theorem c_yearsOfAll (σ : Sg) (pl : Nat) (hpl : pl = 4 ∨ pl = 14) (nl : Nat) (hn : σ pl 1 = (nl : Int)) (h5 : nl ≤ 5) (w : GY) (hH : HR σ w.1 w.2) (hy : ∀ i, 0 ≤ w.2 i ∧ w.2 i ≤ 10) : RI mX2_yearsOfAll 1 [vR 24, vR pl] σ (fun z σ' => z = sumF w.2 nl ∧ σ = σ') := by
  refine mkRun (by decide +kernel) (Nat.le_of_ble_eq_true rfl) (fun X hF hR => ?_)
  refine jr_iconst hF dX2_yearsOfAll_0 (q := 1) rfl (by decide) ?_
  refine jr_istore_n hF dX2_yearsOfAll_1 (q := 2) rfl (by decide) rfl ?_
  refine jr_iconst hF dX2_yearsOfAll_2 (q := 3) rfl (by decide) ?_
  refine jr_istore_n hF dX2_yearsOfAll_3 (q := 4) rfl (by decide) rfl ?_
  refine gs_loop (α := Unit) (fun k _ => [some (vR 24), some (vR pl), some (vI (sumF w.2 k)), some (vI (k : Int))]) (fun _ => σ) (fun _ _ => True) nl (fun _ _ => ?_) (fun k _ hk _ ih => ?_) () trivial
  · refine jr_iload_n hF dX2_yearsOfAll_4 (q := 5) rfl rfl ?_
    refine jr_aload_n hF dX2_yearsOfAll_5 (q := 6) rfl rfl ?_
    refine jr_getI (ci := 4) (j := 1) hF 1 rfl dX2_yearsOfAll_6 (q := 9) rfl (by first | rfl | exact L_pl hpl | exact L_rm hpl | exact L_kd hpl | exact L_lw hpl | exact L_wo hpl | exact L_wr hpl (by omega) | exact L_pl hp2 | exact L_rm hp2 | exact L_kd hp2 | exact L_lw hp2 | exact L_wo hp2 | exact L_wr hp2 (by omega)) rfl fl2_36 ?_
    refine jr_icmp_ge hF dX2_yearsOfAll_9 (q := 12) rfl 27 (by decide) (fun h1 => ?_) (fun h1 => ?_)
    · refine jr_iload_n hF dX2_yearsOfAll_27 (q := 28) rfl rfl ?_
      refine jr_retI hF hR dX2_yearsOfAll_28 rfl ⟨rfl, rfl⟩
    · omega
  · obtain ⟨e1, e3⟩ := hH k (by omega)
    have hs := sumF_le (n := k) (fun i _ => hy i)
    have hyk := hy k
    have ih1 := ih () trivial
    refine jr_iload_n hF dX2_yearsOfAll_4 (q := 5) rfl rfl ?_
    refine jr_aload_n hF dX2_yearsOfAll_5 (q := 6) rfl rfl ?_
    refine jr_getI (ci := 4) (j := 1) hF 1 rfl dX2_yearsOfAll_6 (q := 9) rfl (by first | rfl | exact L_pl hpl | exact L_rm hpl | exact L_kd hpl | exact L_lw hpl | exact L_wo hpl | exact L_wr hpl (by omega) | exact L_pl hp2 | exact L_rm hp2 | exact L_kd hp2 | exact L_lw hp2 | exact L_wo hp2 | exact L_wr hp2 (by omega)) rfl fl2_36 ?_
    refine jr_icmp_ge hF dX2_yearsOfAll_9 (q := 12) rfl 27 (by decide) (fun h1 => ?_) (fun h1 => ?_)
    · omega
    · refine jr_iload_n hF dX2_yearsOfAll_12 (q := 13) rfl rfl ?_
      refine jr_aload_n hF dX2_yearsOfAll_13 (q := 14) rfl rfl ?_
      refine jr_getR (ci := 2) (j := 1) hF dX2_yearsOfAll_14 (q := 17) rfl rfl rfl fl2_15 ?_
      refine jr_iload_n hF dX2_yearsOfAll_17 (q := 18) rfl rfl ?_
      refine jr_iald hF dX2_yearsOfAll_18 (q := 19) rfl rfl (by omega) ?_
      refine jr_iadd hF dX2_yearsOfAll_19 (q := 20) rfl (by rw [e3]; omega) ?_
      refine jr_istore_n hF dX2_yearsOfAll_20 (q := 21) rfl (by decide) rfl ?_
      refine jr_iinc hF dX2_yearsOfAll_21 (q := 24) rfl (by decide) rfl rfl (by omega) ?_
      refine jr_goto hF dX2_yearsOfAll_24 4 (by decide) ?_
      rw [e3]
      exact ih1
set_option maxRecDepth 100000 in
theorem c_gainsOfAll (σ : Sg) (pl : Nat) (hpl : pl = 4 ∨ pl = 14) (F : FD) (hC : RepC σ pl F) (ok : okF F) (ab : Nat) (w : GY) (hw : wOK F ab (f_nm F) w) (hH : HR σ w.1 w.2) : RI mX2_gainsOfAll 2 [vR 24, vR pl] σ (fun z σ' => z = sumF (f_gn F w) (f_nl F) ∧ σ = σ') := by
  have hn := hC.2.1
  have h5 := ok.2.1
  refine mkRun (by decide +kernel) (Nat.le_of_ble_eq_true rfl) (fun X hF hR => ?_)
  refine jr_iconst hF dX2_gainsOfAll_0 (q := 1) rfl (by decide) ?_
  refine jr_istore_n hF dX2_gainsOfAll_1 (q := 2) rfl (by decide) rfl ?_
  refine jr_iconst hF dX2_gainsOfAll_2 (q := 3) rfl (by decide) ?_
  refine jr_istore_n hF dX2_gainsOfAll_3 (q := 4) rfl (by decide) rfl ?_
  refine gs_loop (α := Unit) (fun k _ => [some (vR 24), some (vR pl), some (vI (sumF (f_gn F w) k)), some (vI (k : Int))]) (fun _ => σ) (fun _ _ => True) (f_nl F) (fun _ _ => ?_) (fun k _ hk _ ih => ?_) () trivial
  · refine jr_iload_n hF dX2_gainsOfAll_4 (q := 5) rfl rfl ?_
    refine jr_aload_n hF dX2_gainsOfAll_5 (q := 6) rfl rfl ?_
    refine jr_getI (ci := 4) (j := 1) hF 1 rfl dX2_gainsOfAll_6 (q := 9) rfl (by first | rfl | exact L_pl hpl | exact L_rm hpl | exact L_kd hpl | exact L_lw hpl | exact L_wo hpl | exact L_wr hpl (by omega) | exact L_pl hp2 | exact L_rm hp2 | exact L_kd hp2 | exact L_lw hp2 | exact L_wo hp2 | exact L_wr hp2 (by omega)) rfl fl2_36 ?_
    refine jr_icmp_ge hF dX2_gainsOfAll_9 (q := 12) rfl 27 (by decide) (fun h1 => ?_) (fun h1 => ?_)
    · refine jr_iload_n hF dX2_gainsOfAll_27 (q := 28) rfl rfl ?_
      refine jr_retI hF hR dX2_gainsOfAll_28 rfl ⟨rfl, rfl⟩
    · omega
  · have hs := sumF_le (n := k) (fun i _ => f_gn_le ok hw i)
    have hyk := f_gn_le ok hw k
    have ih1 := ih () trivial
    refine jr_iload_n hF dX2_gainsOfAll_4 (q := 5) rfl rfl ?_
    refine jr_aload_n hF dX2_gainsOfAll_5 (q := 6) rfl rfl ?_
    refine jr_getI (ci := 4) (j := 1) hF 1 rfl dX2_gainsOfAll_6 (q := 9) rfl (by first | rfl | exact L_pl hpl | exact L_rm hpl | exact L_kd hpl | exact L_lw hpl | exact L_wo hpl | exact L_wr hpl (by omega) | exact L_pl hp2 | exact L_rm hp2 | exact L_kd hp2 | exact L_lw hp2 | exact L_wo hp2 | exact L_wr hp2 (by omega)) rfl fl2_36 ?_
    refine jr_icmp_ge hF dX2_gainsOfAll_9 (q := 12) rfl 27 (by decide) (fun h1 => ?_) (fun h1 => ?_)
    · omega
    · refine jr_iload_n hF dX2_gainsOfAll_12 (q := 13) rfl rfl ?_
      refine jr_aload_n hF dX2_gainsOfAll_13 (q := 14) rfl rfl ?_
      refine jr_aload_n hF dX2_gainsOfAll_14 (q := 15) rfl rfl ?_
      refine jr_iload_n hF dX2_gainsOfAll_15 (q := 16) rfl rfl ?_
      refine jr_cV2I hF (c_gainOf σ pl hpl F hC ok ab w hw hH k hk) dX2_gainsOfAll_16 (q := 19) rfl lk2_82 vX2_gainOf kX2_gainOf rfl rfl rfl (by decide) (Nat.le_of_ble_eq_true rfl) (fun z σ1 hz => ?_)
      obtain ⟨rfl, rfl⟩ := hz
      refine jr_iadd hF dX2_gainsOfAll_19 (q := 20) rfl (by omega) ?_
      refine jr_istore_n hF dX2_gainsOfAll_20 (q := 21) rfl (by decide) rfl ?_
      refine jr_iinc hF dX2_gainsOfAll_21 (q := 24) rfl (by decide) rfl rfl (by omega) ?_
      refine jr_goto hF dX2_gainsOfAll_24 4 (by decide) ?_
      exact ih1
set_option maxRecDepth 100000 in
theorem c_ladsHired (σ : Sg) (pl : Nat) (hpl : pl = 4 ∨ pl = 14) (nl : Nat) (hn : σ pl 1 = (nl : Int)) (h5 : nl ≤ 5) (w : GY) (hH : HR σ w.1 w.2) : RI mX2_ladsHired 1 [vR 24, vR pl] σ (fun z σ' => z = cnt (fun i => decide (w.1 i ≠ -4)) nl ∧ σ = σ') := by
  refine mkRun (by decide +kernel) (Nat.le_of_ble_eq_true rfl) (fun X hF hR => ?_)
  refine jr_iconst hF dX2_ladsHired_0 (q := 1) rfl (by decide) ?_
  refine jr_istore_n hF dX2_ladsHired_1 (q := 2) rfl (by decide) rfl ?_
  refine jr_iconst hF dX2_ladsHired_2 (q := 3) rfl (by decide) ?_
  refine jr_istore_n hF dX2_ladsHired_3 (q := 4) rfl (by decide) rfl ?_
  refine gs_loop (α := Unit) (fun k _ => [some (vR 24), some (vR pl), some (vI (cnt (fun i => decide (w.1 i ≠ -4)) k)), some (vI (k : Int))]) (fun _ => σ) (fun _ _ => True) nl (fun _ _ => ?_) (fun k _ hk _ ih => ?_) () trivial
  · refine jr_iload_n hF dX2_ladsHired_4 (q := 5) rfl rfl ?_
    refine jr_aload_n hF dX2_ladsHired_5 (q := 6) rfl rfl ?_
    refine jr_getI (ci := 4) (j := 1) hF 1 rfl dX2_ladsHired_6 (q := 9) rfl (by first | rfl | exact L_pl hpl | exact L_rm hpl | exact L_kd hpl | exact L_lw hpl | exact L_wo hpl | exact L_wr hpl (by omega) | exact L_pl hp2 | exact L_rm hp2 | exact L_kd hp2 | exact L_lw hp2 | exact L_wo hp2 | exact L_wr hp2 (by omega)) rfl fl2_36 ?_
    refine jr_icmp_ge hF dX2_ladsHired_9 (q := 12) rfl 32 (by decide) (fun h1 => ?_) (fun h1 => ?_)
    · refine jr_iload_n hF dX2_ladsHired_32 (q := 33) rfl rfl ?_
      refine jr_retI hF hR dX2_ladsHired_33 rfl ⟨rfl, rfl⟩
    · omega
  · obtain ⟨e1, e3⟩ := hH k (by omega)
    have hc := cnt_le (fun i => decide (w.1 i ≠ -4)) k
    have e2 : cnt (fun i => decide (w.1 i ≠ -4)) (k + 1) = cnt (fun i => decide (w.1 i ≠ -4)) k + if decide (w.1 k ≠ -4) = true then 1 else 0 := rfl
    have ih1 := ih () trivial
    refine jr_iload_n hF dX2_ladsHired_4 (q := 5) rfl rfl ?_
    refine jr_aload_n hF dX2_ladsHired_5 (q := 6) rfl rfl ?_
    refine jr_getI (ci := 4) (j := 1) hF 1 rfl dX2_ladsHired_6 (q := 9) rfl (by first | rfl | exact L_pl hpl | exact L_rm hpl | exact L_kd hpl | exact L_lw hpl | exact L_wo hpl | exact L_wr hpl (by omega) | exact L_pl hp2 | exact L_rm hp2 | exact L_kd hp2 | exact L_lw hp2 | exact L_wo hp2 | exact L_wr hp2 (by omega)) rfl fl2_36 ?_
    refine jr_icmp_ge hF dX2_ladsHired_9 (q := 12) rfl 32 (by decide) (fun h1 => ?_) (fun h1 => ?_)
    · omega
    · refine jr_aload_n hF dX2_ladsHired_12 (q := 13) rfl rfl ?_
      refine jr_getR (ci := 2) (j := 0) hF dX2_ladsHired_13 (q := 16) rfl rfl rfl fl2_9 ?_
      refine jr_iload_n hF dX2_ladsHired_16 (q := 17) rfl rfl ?_
      refine jr_iald hF dX2_ladsHired_17 (q := 18) rfl rfl (by omega) ?_
      refine jr_bipush hF dX2_ladsHired_18 (q := 20) rfl (by decide) (by decide +kernel) ?_
      rw [e1]
      refine jr_icmp_eq hF dX2_ladsHired_20 (q := 23) rfl 26 (by decide) (fun h2 => ?_) (fun h2 => ?_)
      · rw [e2, decide_eq_false (by omega), if_neg (by decide), Int.add_zero] at ih1
        refine jr_iinc hF dX2_ladsHired_26 (q := 29) rfl (by decide) rfl rfl (by omega) ?_
        refine jr_goto hF dX2_ladsHired_29 4 (by decide) ?_
        exact ih1
      · rw [e2, decide_eq_true h2, if_pos rfl] at ih1
        refine jr_iinc hF dX2_ladsHired_23 (q := 26) rfl (by decide) rfl rfl (by omega) ?_
        refine jr_iinc hF dX2_ladsHired_26 (q := 29) rfl (by decide) rfl rfl (by omega) ?_
        refine jr_goto hF dX2_ladsHired_29 4 (by decide) ?_
        exact ih1
set_option maxRecDepth 100000 in
theorem c_mastersAlone (σ : Sg) (pl : Nat) (hpl : pl = 4 ∨ pl = 14) (nl nm : Nat) (hn : σ pl 1 = (nl : Int)) (hm : σ pl 0 = (nm : Int)) (h5 : nl ≤ 5) (h3 : nm ≤ 3) (w : GY) (hH : HR σ w.1 w.2) : RI mX2_mastersAlone 2 [vR 24, vR pl] σ (fun z σ' => z = cnt (fun m => decide (bitsF (fun i => decide (w.1 i = (m : Int))) nl = 0)) nm ∧ σ = σ') := by
  refine mkRun (by decide +kernel) (Nat.le_of_ble_eq_true rfl) (fun X hF hR => ?_)
  refine jr_iconst hF dX2_mastersAlone_0 (q := 1) rfl (by decide) ?_
  refine jr_istore_n hF dX2_mastersAlone_1 (q := 2) rfl (by decide) rfl ?_
  refine jr_iconst hF dX2_mastersAlone_2 (q := 3) rfl (by decide) ?_
  refine jr_istore_n hF dX2_mastersAlone_3 (q := 4) rfl (by decide) rfl ?_
  refine gs_loop (α := Unit) (fun k _ => [some (vR 24), some (vR pl), some (vI (cnt (fun m => decide (bitsF (fun i => decide (w.1 i = (m : Int))) nl = 0)) k)), some (vI (k : Int))]) (fun _ => σ) (fun _ _ => True) nm (fun _ _ => ?_) (fun k _ hk _ ih => ?_) () trivial
  · refine jr_iload_n hF dX2_mastersAlone_4 (q := 5) rfl rfl ?_
    refine jr_aload_n hF dX2_mastersAlone_5 (q := 6) rfl rfl ?_
    refine jr_getI (ci := 4) (j := 0) hF 0 rfl dX2_mastersAlone_6 (q := 9) rfl (by first | rfl | exact L_pl hpl | exact L_rm hpl | exact L_kd hpl | exact L_lw hpl | exact L_wo hpl | exact L_wr hpl (by omega) | exact L_pl hp2 | exact L_rm hp2 | exact L_kd hp2 | exact L_lw hp2 | exact L_wo hp2 | exact L_wr hp2 (by omega)) rfl fl2_30 ?_
    refine jr_icmp_ge hF dX2_mastersAlone_9 (q := 12) rfl 30 (by decide) (fun h1 => ?_) (fun h1 => ?_)
    · refine jr_iload_n hF dX2_mastersAlone_30 (q := 31) rfl rfl ?_
      refine jr_retI hF hR dX2_mastersAlone_31 rfl ⟨rfl, rfl⟩
    · omega
  · have hc := cnt_le (fun m => decide (bitsF (fun i => decide (w.1 i = (m : Int))) nl = 0)) k
    have e2 : cnt (fun m => decide (bitsF (fun i => decide (w.1 i = (m : Int))) nl = 0)) (k + 1) = cnt (fun m => decide (bitsF (fun i => decide (w.1 i = (m : Int))) nl = 0)) k + if decide (bitsF (fun i => decide (w.1 i = (k : Int))) nl = 0) = true then 1 else 0 := rfl
    have ih1 := ih () trivial
    refine jr_iload_n hF dX2_mastersAlone_4 (q := 5) rfl rfl ?_
    refine jr_aload_n hF dX2_mastersAlone_5 (q := 6) rfl rfl ?_
    refine jr_getI (ci := 4) (j := 0) hF 0 rfl dX2_mastersAlone_6 (q := 9) rfl (by first | rfl | exact L_pl hpl | exact L_rm hpl | exact L_kd hpl | exact L_lw hpl | exact L_wo hpl | exact L_wr hpl (by omega) | exact L_pl hp2 | exact L_rm hp2 | exact L_kd hp2 | exact L_lw hp2 | exact L_wo hp2 | exact L_wr hp2 (by omega)) rfl fl2_30 ?_
    refine jr_icmp_ge hF dX2_mastersAlone_9 (q := 12) rfl 30 (by decide) (fun h1 => ?_) (fun h1 => ?_)
    · omega
    · refine jr_aload_n hF dX2_mastersAlone_12 (q := 13) rfl rfl ?_
      refine jr_aload_n hF dX2_mastersAlone_13 (q := 14) rfl rfl ?_
      refine jr_iload_n hF dX2_mastersAlone_14 (q := 15) rfl rfl ?_
      refine jr_cV2I hF (c_ladsOf σ pl hpl nl hn h5 w hH k) dX2_mastersAlone_15 (q := 18) rfl lk2_85 vX2_ladsOf kX2_ladsOf rfl rfl rfl (by decide) (Nat.le_of_ble_eq_true rfl) (fun z σ1 hz => ?_)
      obtain ⟨rfl, rfl⟩ := hz
      refine jr_if_ne hF dX2_mastersAlone_18 (q := 21) rfl 24 (by decide) (fun h2 => ?_) (fun h2 => ?_)
      · rw [e2, decide_eq_false h2, if_neg (by decide), Int.add_zero] at ih1
        refine jr_iinc hF dX2_mastersAlone_24 (q := 27) rfl (by decide) rfl rfl (by omega) ?_
        refine jr_goto hF dX2_mastersAlone_27 4 (by decide) ?_
        exact ih1
      · rw [e2, decide_eq_true h2, if_pos rfl] at ih1
        refine jr_iinc hF dX2_mastersAlone_21 (q := 24) rfl (by decide) rfl rfl (by omega) ?_
        refine jr_iinc hF dX2_mastersAlone_24 (q := 27) rfl (by decide) rfl rfl (by omega) ?_
        refine jr_goto hF dX2_mastersAlone_27 4 (by decide) ?_
        exact ih1
set_option maxRecDepth 100000 in
theorem c_hadGot (σ : Sg) (i m : Int) (hi : 0 ≤ i ∧ i < 5) : RI mX2_hadGotAnother 1 [vR 24, vI i, vI m] σ (fun z σ' => z = (if σ 25 i ≠ -4 ∧ σ 25 i < m then 1 else 0) ∧ σ = σ') := by
  refine mkRun (by decide +kernel) (Nat.le_of_ble_eq_true rfl) (fun X hF hR => ?_)
  refine jr_aload_n hF dX2_hadGotAnother_0 (q := 1) rfl rfl ?_
  refine jr_getR (ci := 2) (j := 0) hF dX2_hadGotAnother_1 (q := 4) rfl rfl rfl fl2_9 ?_
  refine jr_iload_n hF dX2_hadGotAnother_4 (q := 5) rfl rfl ?_
  refine jr_iald hF dX2_hadGotAnother_5 (q := 6) rfl rfl (by omega) ?_
  refine jr_bipush hF dX2_hadGotAnother_6 (q := 8) rfl (by decide) (by decide +kernel) ?_
  refine jr_icmp_eq hF dX2_hadGotAnother_8 (q := 11) rfl 25 (by decide) (fun h1 => ?_) (fun h1 => ?_)
  · refine jr_iconst hF dX2_hadGotAnother_25 (q := 26) rfl (by decide) ?_
    refine jr_retZ hF hR dX2_hadGotAnother_26 rfl (by first | exact Or.inl rfl | exact Or.inr rfl | omega) ⟨by rw [if_neg (by omega)], rfl⟩
  · refine jr_aload_n hF dX2_hadGotAnother_11 (q := 12) rfl rfl ?_
    refine jr_getR (ci := 2) (j := 0) hF dX2_hadGotAnother_12 (q := 15) rfl rfl rfl fl2_9 ?_
    refine jr_iload_n hF dX2_hadGotAnother_15 (q := 16) rfl rfl ?_
    refine jr_iald hF dX2_hadGotAnother_16 (q := 17) rfl rfl (by omega) ?_
    refine jr_iload_n hF dX2_hadGotAnother_17 (q := 18) rfl rfl ?_
    refine jr_icmp_ge hF dX2_hadGotAnother_18 (q := 21) rfl 25 (by decide) (fun h2 => ?_) (fun h2 => ?_)
    · refine jr_iconst hF dX2_hadGotAnother_25 (q := 26) rfl (by decide) ?_
      refine jr_retZ hF hR dX2_hadGotAnother_26 rfl (by first | exact Or.inl rfl | exact Or.inr rfl | omega) ⟨by rw [if_neg (by omega)], rfl⟩
    · refine jr_iconst hF dX2_hadGotAnother_21 (q := 22) rfl (by decide) ?_
      refine jr_goto hF dX2_hadGotAnother_22 26 (by decide) ?_
      refine jr_retZ hF hR dX2_hadGotAnother_26 rfl (by first | exact Or.inl rfl | exact Or.inr rfl | omega) ⟨by rw [if_pos (by omega)], rfl⟩
/-- the first call that a bound B does not answer, of those up to E -/
def f_out (sp E B : Int) (n : Nat) (p : Int) : Int := match n with
  | 0 => p
  | n + 1 => if p ≤ E ∧ p ≤ B then f_out sp E B n (p + sp) else p
theorem f_out_ge {sp E B : Int} (h : 1 ≤ sp ∧ sp ≤ 3) (n : Nat) : ∀ p, f_out sp E B n p = p ∨ p + sp ≤ f_out sp E B n p := by
  induction n with
  | zero => intro p; exact Or.inl rfl
  | succ n ih =>
    intro p
    unfold f_out
    split
    · rcases ih (p + sp) with e | e <;> omega
    · exact Or.inl rfl
theorem f_out_le {sp E B : Int} (h : 1 ≤ sp ∧ sp ≤ 3) (hB : B ≤ 10) (n : Nat) : ∀ p, p ≤ 13 → f_out sp E B n p ≤ 13 := by
  induction n with
  | zero => intro p hp; exact hp
  | succ n ih =>
    intro p hp
    unfold f_out
    split
    · exact ih _ (by omega)
    · exact hp
set_option maxRecDepth 100000 in
theorem c_firstOut (σ : Sg) (pl : Nat) (hpl : pl = 4 ∨ pl = 14) (F : FD) (hC : RepC σ pl F) (ok : okF F) (i m : Nat) (hi : i < f_nl F) (hm : m < f_nm F) : RI mX2_firstCallOut 2 [vR 24, vR pl, vI (i : Int), vI (m : Int)] σ (fun z σ' => z = f_out (f_sp F) (σ 28 (m : Int)) (f_bnd F i m) 11 1 ∧ σ = σ') := by
  have h5 := ok.2.1
  have h3 := ok.1
  have hsp := ok.2.2.2.2.2.2.2
  have hb := f_bnd_le ok hi hm
  have r8 := hC.2.2.2.2.2.2.2
  refine mkRun (by decide +kernel) (Nat.le_of_ble_eq_true rfl) (fun X hF hR => ?_)
  refine jr_aload_n hF dX2_firstCallOut_0 (q := 1) rfl rfl ?_
  refine jr_iload_n hF dX2_firstCallOut_1 (q := 2) rfl rfl ?_
  refine jr_iload_n hF dX2_firstCallOut_2 (q := 3) rfl rfl ?_
  refine jr_cV2I hF (c_boundOf σ pl hpl F hC ok i m hi hm) dX2_firstCallOut_3 (q := 6) rfl lk2_39 vX4_boundOf kX4_boundOf (by first | rfl | exact L_pl hpl | exact L_rm hpl | exact L_kd hpl | exact L_lw hpl | exact L_wo hpl | exact L_wr hpl (by omega) | exact L_pl hp2 | exact L_rm hp2 | exact L_kd hp2 | exact L_lw hp2 | exact L_wo hp2 | exact L_wr hp2 (by omega)) rfl rfl (by decide) (Nat.le_of_ble_eq_true rfl) (fun z σ1 hz => ?_)
  obtain ⟨rfl, rfl⟩ := hz
  refine jr_istore hF dX2_firstCallOut_6 (q := 8) rfl (by decide) rfl ?_
  refine jr_iconst hF dX2_firstCallOut_8 (q := 9) rfl (by decide) ?_
  refine jr_istore hF dX2_firstCallOut_9 (q := 11) rfl (by decide) rfl ?_
  refine gs_down (α := Int) (fun p => [some (vR 24), some (vR pl), some (vI (i : Int)), some (vI (m : Int)), some (vI (f_bnd F i m)), some (vI p)]) (fun _ => σ) (fun n p => f_out (f_sp F) (σ 28 (m : Int)) (f_bnd F i m) n p = f_out (f_sp F) (σ 28 (m : Int)) (f_bnd F i m) 11 1 ∧ 12 ≤ p + n ∧ 1 ≤ p ∧ p ≤ 13) (fun p hI => ?_) (fun n p hI ih => ?_) 11 1 ⟨rfl, by omega, by omega, by omega⟩
  · have e : p = _ := hI.1
    refine jr_iload hF dX2_firstCallOut_11 (q := 13) rfl rfl ?_
    refine jr_aload_n hF dX2_firstCallOut_13 (q := 14) rfl rfl ?_
    refine jr_getR (ci := 2) (j := 3) hF dX2_firstCallOut_14 (q := 17) rfl rfl rfl fl2_21 ?_
    refine jr_iload_n hF dX2_firstCallOut_17 (q := 18) rfl rfl ?_
    refine jr_iald hF dX2_firstCallOut_18 (q := 19) rfl rfl (by omega) ?_
    refine jr_icmp_gt hF dX2_firstCallOut_19 (q := 22) rfl 41 (by decide) (fun hc => ?_) (fun hc => ?_)
    · refine jr_iload hF dX2_firstCallOut_41 (q := 43) rfl rfl ?_
      refine jr_retI hF hR dX2_firstCallOut_43 rfl ⟨e, rfl⟩
    · refine jr_iload hF dX2_firstCallOut_22 (q := 24) rfl rfl ?_
      refine jr_iload hF dX2_firstCallOut_24 (q := 26) rfl rfl ?_
      refine jr_icmp_gt hF dX2_firstCallOut_26 (q := 29) rfl 41 (by decide) (fun hd => ?_) (fun hd => ?_)
      · refine jr_iload hF dX2_firstCallOut_41 (q := 43) rfl rfl ?_
        refine jr_retI hF hR dX2_firstCallOut_43 rfl ⟨e, rfl⟩
      · omega
  · have e0 : f_out (f_sp F) (σ 28 (m : Int)) (f_bnd F i m) (n + 1) p = if p ≤ σ 28 (m : Int) ∧ p ≤ f_bnd F i m then f_out (f_sp F) (σ 28 (m : Int)) (f_bnd F i m) n (p + f_sp F) else p := rfl
    have hI1 := hI.1
    have hn := hI.2.1
    refine jr_iload hF dX2_firstCallOut_11 (q := 13) rfl rfl ?_
    refine jr_aload_n hF dX2_firstCallOut_13 (q := 14) rfl rfl ?_
    refine jr_getR (ci := 2) (j := 3) hF dX2_firstCallOut_14 (q := 17) rfl rfl rfl fl2_21 ?_
    refine jr_iload_n hF dX2_firstCallOut_17 (q := 18) rfl rfl ?_
    refine jr_iald hF dX2_firstCallOut_18 (q := 19) rfl rfl (by omega) ?_
    refine jr_icmp_gt hF dX2_firstCallOut_19 (q := 22) rfl 41 (by decide) (fun hc => ?_) (fun hc => ?_)
    · refine jr_iload hF dX2_firstCallOut_41 (q := 43) rfl rfl ?_
      rw [e0, if_neg (by omega)] at hI1
      refine jr_retI hF hR dX2_firstCallOut_43 rfl ⟨hI1, rfl⟩
    · refine jr_iload hF dX2_firstCallOut_22 (q := 24) rfl rfl ?_
      refine jr_iload hF dX2_firstCallOut_24 (q := 26) rfl rfl ?_
      refine jr_icmp_gt hF dX2_firstCallOut_26 (q := 29) rfl 41 (by decide) (fun hd => ?_) (fun hd => ?_)
      · refine jr_iload hF dX2_firstCallOut_41 (q := 43) rfl rfl ?_
        rw [e0, if_neg (by omega)] at hI1
        refine jr_retI hF hR dX2_firstCallOut_43 rfl ⟨hI1, rfl⟩
      · rw [e0, if_pos ⟨hc, hd⟩] at hI1
        refine jr_iload hF dX2_firstCallOut_29 (q := 31) rfl rfl ?_
        refine jr_aload_n hF dX2_firstCallOut_31 (q := 32) rfl rfl ?_
        refine jr_cV0I hF (c_stride σ pl hpl F hC ok) dX2_firstCallOut_32 (q := 35) rfl lk2_50 vX4_stride kX4_stride (by first | rfl | exact L_pl hpl | exact L_rm hpl | exact L_kd hpl | exact L_lw hpl | exact L_wo hpl | exact L_wr hpl (by omega) | exact L_pl hp2 | exact L_rm hp2 | exact L_kd hp2 | exact L_lw hp2 | exact L_wo hp2 | exact L_wr hp2 (by omega)) rfl rfl (by decide) (Nat.le_of_ble_eq_true rfl) (fun z σ1 hz => ?_)
        obtain ⟨rfl, rfl⟩ := hz
        refine jr_iadd hF dX2_firstCallOut_35 (q := 36) rfl (by omega) ?_
        refine jr_istore hF dX2_firstCallOut_36 (q := 38) rfl (by decide) rfl ?_
        refine jr_goto hF dX2_firstCallOut_38 11 (by decide) ?_
        exact ih _ ⟨hI1, by omega, by omega, by omega⟩
set_option maxRecDepth 100000 in
theorem c_spanFrom (σ : Sg) (pl : Nat) (hpl : pl = 4 ∨ pl = 14) (F : FD) (hC : RepC σ pl F) (ok : okF F) (i m : Nat) (hi : i < f_nl F) (hm : m < f_nm F) : RI mX2_spanFrom 3 [vR 24, vR pl, vI (i : Int), vI (m : Int)] σ (fun z σ' => z = (if σ 25 (i : Int) ≠ -4 ∧ σ 25 (i : Int) < (m : Int) then 0 else if f_out (f_sp F) (σ 28 (m : Int)) (f_bnd F i m) 11 1 = 1 then 0 else f_out (f_sp F) (σ 28 (m : Int)) (f_bnd F i m) 11 1 - f_sp F) ∧ σ = σ') := by
  have h5 := ok.2.1
  have hsp := ok.2.2.2.2.2.2.2
  have r8 := hC.2.2.2.2.2.2.2
  have hb := f_bnd_le ok hi hm
  have ho := f_out_ge (E := σ 28 (m : Int)) (B := f_bnd F i m) hsp 11 1
  have ho2 := f_out_le (E := σ 28 (m : Int)) (B := f_bnd F i m) hsp hb.2.1 11 1 (by omega)
  refine mkRun (by decide +kernel) (Nat.le_of_ble_eq_true rfl) (fun X hF hR => ?_)
  refine jr_aload_n hF dX2_spanFrom_0 (q := 1) rfl rfl ?_
  refine jr_iload_n hF dX2_spanFrom_1 (q := 2) rfl rfl ?_
  refine jr_iload_n hF dX2_spanFrom_2 (q := 3) rfl rfl ?_
  refine jr_cV2I hF (c_hadGot σ i m (by omega)) dX2_spanFrom_3 (q := 6) rfl lk2_88 vX2_hadGotAnother kX2_hadGotAnother rfl rfl rfl (by decide) (Nat.le_of_ble_eq_true rfl) (fun z σ1 hz => ?_)
  obtain ⟨rfl, rfl⟩ := hz
  refine jr_if_eq hF dX2_spanFrom_6 (q := 9) rfl 11 (by decide) (fun hc => ?_) (fun hc => ?_)
  · have hc2 : ¬ (σ 25 (i : Int) ≠ -4 ∧ σ 25 (i : Int) < (m : Int)) := fun h => by rw [if_pos h] at hc; omega
    refine jr_iconst hF dX2_spanFrom_11 (q := 12) rfl (by decide) ?_
    refine jr_aload_n hF dX2_spanFrom_12 (q := 13) rfl rfl ?_
    refine jr_aload_n hF dX2_spanFrom_13 (q := 14) rfl rfl ?_
    refine jr_iload_n hF dX2_spanFrom_14 (q := 15) rfl rfl ?_
    refine jr_iload_n hF dX2_spanFrom_15 (q := 16) rfl rfl ?_
    refine jr_cV3I hF (c_firstOut σ pl hpl F hC ok i m hi hm) dX2_spanFrom_16 (q := 19) rfl lk2_91 vX2_firstCallOut kX2_firstCallOut rfl rfl rfl (by decide) (Nat.le_of_ble_eq_true rfl) (fun z σ1 hz => ?_)
    obtain ⟨rfl, rfl⟩ := hz
    refine jr_aload_n hF dX2_spanFrom_19 (q := 20) rfl rfl ?_
    refine jr_cV0I hF (c_stride σ pl hpl F hC ok) dX2_spanFrom_20 (q := 23) rfl lk2_50 vX4_stride kX4_stride (by first | rfl | exact L_pl hpl | exact L_rm hpl | exact L_kd hpl | exact L_lw hpl | exact L_wo hpl | exact L_wr hpl (by omega) | exact L_pl hp2 | exact L_rm hp2 | exact L_kd hp2 | exact L_lw hp2 | exact L_wo hp2 | exact L_wr hp2 (by omega)) rfl rfl (by decide) (Nat.le_of_ble_eq_true rfl) (fun z σ1 hz => ?_)
    obtain ⟨rfl, rfl⟩ := hz
    refine jr_isub hF dX2_spanFrom_23 (q := 24) rfl (by omega) ?_
    refine jr_max hF mxW_ok dX2_spanFrom_24 (q := 27) rfl lk2_77 (Nat.le_of_ble_eq_true rfl) (by decide) ?_
    refine jr_retI hF hR dX2_spanFrom_27 rfl ⟨by rw [if_neg hc2]; split <;> split <;> omega, rfl⟩
  · have hc2 : σ 25 (i : Int) ≠ -4 ∧ σ 25 (i : Int) < (m : Int) := Classical.byContradiction fun h => by rw [if_neg h] at hc; omega
    refine jr_iconst hF dX2_spanFrom_9 (q := 10) rfl (by decide) ?_
    refine jr_retI hF hR dX2_spanFrom_10 rfl ⟨by rw [if_pos hc2], rfl⟩
set_option maxRecDepth 100000 in
theorem c_spanTo (σ : Sg) (pl : Nat) (hpl : pl = 4 ∨ pl = 14) (F : FD) (hC : RepC σ pl F) (ok : okF F) (i m : Nat) (hi : i < f_nl F) (hm : m < f_nm F) : RI mX2_spanTo 3 [vR 24, vR pl, vI (i : Int), vI (m : Int)] σ (fun z σ' => z = (if σ 25 (i : Int) ≠ -4 ∧ σ 25 (i : Int) < (m : Int) then 10 else if σ 28 (m : Int) < f_out (f_sp F) (σ 28 (m : Int)) (f_bnd F i m) 11 1 then 10 else f_out (f_sp F) (σ 28 (m : Int)) (f_bnd F i m) 11 1 - 1) ∧ σ = σ') := by
  have h5 := ok.2.1
  have h3 := ok.1
  have hsp := ok.2.2.2.2.2.2.2
  have hb := f_bnd_le ok hi hm
  have ho := f_out_ge (E := σ 28 (m : Int)) (B := f_bnd F i m) hsp 11 1
  have ho2 := f_out_le (E := σ 28 (m : Int)) (B := f_bnd F i m) hsp hb.2.1 11 1 (by omega)
  refine mkRun (by decide +kernel) (Nat.le_of_ble_eq_true rfl) (fun X hF hR => ?_)
  refine jr_aload_n hF dX2_spanTo_0 (q := 1) rfl rfl ?_
  refine jr_iload_n hF dX2_spanTo_1 (q := 2) rfl rfl ?_
  refine jr_iload_n hF dX2_spanTo_2 (q := 3) rfl rfl ?_
  refine jr_cV2I hF (c_hadGot σ i m (by omega)) dX2_spanTo_3 (q := 6) rfl lk2_88 vX2_hadGotAnother kX2_hadGotAnother rfl rfl rfl (by decide) (Nat.le_of_ble_eq_true rfl) (fun z σ1 hz => ?_)
  obtain ⟨rfl, rfl⟩ := hz
  refine jr_if_eq hF dX2_spanTo_6 (q := 9) rfl 12 (by decide) (fun hc => ?_) (fun hc => ?_)
  · have hc2 : ¬ (σ 25 (i : Int) ≠ -4 ∧ σ 25 (i : Int) < (m : Int)) := fun h => by rw [if_pos h] at hc; omega
    refine jr_aload_n hF dX2_spanTo_12 (q := 13) rfl rfl ?_
    refine jr_aload_n hF dX2_spanTo_13 (q := 14) rfl rfl ?_
    refine jr_iload_n hF dX2_spanTo_14 (q := 15) rfl rfl ?_
    refine jr_iload_n hF dX2_spanTo_15 (q := 16) rfl rfl ?_
    refine jr_cV3I hF (c_firstOut σ pl hpl F hC ok i m hi hm) dX2_spanTo_16 (q := 19) rfl lk2_91 vX2_firstCallOut kX2_firstCallOut rfl rfl rfl (by decide) (Nat.le_of_ble_eq_true rfl) (fun z σ1 hz => ?_)
    obtain ⟨rfl, rfl⟩ := hz
    refine jr_istore hF dX2_spanTo_19 (q := 21) rfl (by decide) rfl ?_
    refine jr_iload hF dX2_spanTo_21 (q := 23) rfl rfl ?_
    refine jr_aload_n hF dX2_spanTo_23 (q := 24) rfl rfl ?_
    refine jr_getR (ci := 2) (j := 3) hF dX2_spanTo_24 (q := 27) rfl rfl rfl fl2_21 ?_
    refine jr_iload_n hF dX2_spanTo_27 (q := 28) rfl rfl ?_
    refine jr_iald hF dX2_spanTo_28 (q := 29) rfl rfl (by omega) ?_
    refine jr_icmp_le hF dX2_spanTo_29 (q := 32) rfl 37 (by decide) (fun hd => ?_) (fun hd => ?_)
    · refine jr_iload hF dX2_spanTo_37 (q := 39) rfl rfl ?_
      refine jr_iconst hF dX2_spanTo_39 (q := 40) rfl (by decide) ?_
      refine jr_isub hF dX2_spanTo_40 (q := 41) rfl (by omega) ?_
      refine jr_retI hF hR dX2_spanTo_41 rfl ⟨by rw [if_neg hc2, if_neg (by omega)], rfl⟩
    · refine jr_bipush hF dX2_spanTo_32 (q := 34) rfl (by decide) (by decide +kernel) ?_
      refine jr_goto hF dX2_spanTo_34 41 (by decide) ?_
      refine jr_retI hF hR dX2_spanTo_41 rfl ⟨by rw [if_neg hc2, if_pos hd], rfl⟩
  · have hc2 : σ 25 (i : Int) ≠ -4 ∧ σ 25 (i : Int) < (m : Int) := Classical.byContradiction fun h => by rw [if_neg h] at hc; omega
    refine jr_bipush hF dX2_spanTo_9 (q := 11) rfl (by decide) (by decide +kernel) ?_
    refine jr_retI hF hR dX2_spanTo_11 rfl ⟨by rw [if_pos hc2], rfl⟩

