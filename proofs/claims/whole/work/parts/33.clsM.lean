/-! ===== Prices: count, better, note, search ===== -/
set_option maxRecDepth 100000 in
theorem c_countHeld (σ : Sg) (F : FD) (hC : RepC σ 4 F) (ok : okF F) (x : Nat) (hx : ∀ j : Nat, j < f_nl F → σ 55 (j : Int) = dz F (dgp (f_bs F) (f_nl F) x j)) : RV mX5_countHeld 2 [vR 59, vR 4, vR 55] σ (fun σ' => (∀ m : Nat, m < f_nm F → σ' 62 (m : Int) = cnd F (f_nl F) x m) ∧ ∀ k, k ≠ 62 → σ' k = σ k) := by
  have h5 := ok.2.1
  have h3 := ok.1
  have r2 := hC.2.1
  refine mkRun (by decide +kernel) (Nat.le_of_ble_eq_true rfl) (fun X hF hR => ?_)
  refine jr_aload_n hF dX5_countHeld_0 (q := 1) rfl rfl ?_
  refine jr_getR (ci := 5) (j := 4) hF dX5_countHeld_1 (q := 4) rfl rfl rfl fl5_18 ?_
  refine jr_iconst hF dX5_countHeld_4 (q := 5) rfl (by decide) ?_
  refine jr_cS2V hF (c_fill σ 62 3 0 [] rfl (by decide) 0) dX5_countHeld_5 (q := 8) rfl lk5_47 vJ7_fill_53178 kJ7_fill_53178 (by decide) (Nat.le_of_ble_eq_true rfl) (fun σ1 hz => ?_)
  have e1 : ∀ m : Nat, m < 3 → σ1 62 (m : Int) = 0 := fun m hm => by rw [← hz, uc_eq, if_pos (by omega)]
  have e2 : ∀ k, k ≠ 62 → σ1 k = σ k := fun k hk => by rw [← hz, uc_ne hk]
  clear hz
  refine jr_iconst hF dX5_countHeld_8 (q := 9) rfl (by decide) ?_
  refine jr_istore_n hF dX5_countHeld_9 (q := 10) rfl (by decide) rfl ?_
  refine gs_loop (α := Sg) (fun k _ => [some (vR 59), some (vR 4), some (vR 55), some (vI (k : Int))]) (fun σ' => σ') (fun k σ' => (∀ m : Nat, m < f_nm F → σ' 62 (m : Int) = cnt (fun j => decide (dgp (f_bs F) (f_nl F) x j = m)) k) ∧ ∀ k, k ≠ 62 → σ' k = σ k) (f_nl F) (fun σ' h => ?_) (fun k σ' hk h ih => ?_) σ1 ⟨fun m hm => e1 m (by omega), e2⟩
  · have q2 : σ' 4 1 = (f_nl F : Int) := by rw [h.2 4 (by decide)]; exact r2
    refine jr_iload_n hF dX5_countHeld_10 (q := 11) rfl rfl ?_
    refine jr_aload_n hF dX5_countHeld_11 (q := 12) rfl rfl ?_
    refine jr_getI (ci := 4) (j := 1) hF 1 rfl dX5_countHeld_12 (q := 15) rfl rfl rfl fl5_53 ?_
    refine jr_icmp_ge hF dX5_countHeld_15 (q := 18) rfl 44 (by decide) (fun a1 => ?_) (fun a1 => ?_)
    · refine jr_retV hF hR dX5_countHeld_44 rfl h
    · omega
  · obtain ⟨i1, i2⟩ := h
    have q2 : σ' 4 1 = (f_nl F : Int) := by rw [i2 4 (by decide)]; exact r2
    have ex : σ' 55 (k : Int) = dz F (dgp (f_bs F) (f_nl F) x k) := by rw [i2 55 (by decide)]; exact hx k hk
    have hdl := dgp_lt F (f_nl F) x k
    have ec : ∀ m : Nat, cnt (fun j => decide (dgp (f_bs F) (f_nl F) x j = m)) (k + 1) = cnt (fun j => decide (dgp (f_bs F) (f_nl F) x j = m)) k + (if decide (dgp (f_bs F) (f_nl F) x k = m) = true then 1 else 0) := fun m => rfl
    refine jr_iload_n hF dX5_countHeld_10 (q := 11) rfl rfl ?_
    refine jr_aload_n hF dX5_countHeld_11 (q := 12) rfl rfl ?_
    refine jr_getI (ci := 4) (j := 1) hF 1 rfl dX5_countHeld_12 (q := 15) rfl rfl rfl fl5_53 ?_
    refine jr_icmp_ge hF dX5_countHeld_15 (q := 18) rfl 44 (by decide) (fun a1 => ?_) (fun a1 => ?_)
    · omega
    · refine jr_aload_n hF dX5_countHeld_18 (q := 19) rfl rfl ?_
      refine jr_iload_n hF dX5_countHeld_19 (q := 20) rfl rfl ?_
      refine jr_iald hF dX5_countHeld_20 (q := 21) rfl rfl (by omega) ?_
      rw [ex]
      refine jr_bipush hF dX5_countHeld_21 (q := 23) rfl (by decide) (by decide +kernel) ?_
      refine jr_icmp_eq hF dX5_countHeld_23 (q := 26) rfl 38 (by decide) (fun a2 => ?_) (fun a2 => ?_)
      · have hdn : dgp (f_bs F) (f_nl F) x k = f_nm F := by
          unfold dz at a2
          split at a2
          · assumption
          · omega
        refine jr_iinc hF dX5_countHeld_38 (q := 41) rfl (by decide) rfl rfl (by omega) ?_
        refine jr_goto hF dX5_countHeld_41 10 (by decide) ?_
        refine ih σ' ⟨fun m hm => ?_, i2⟩
        rw [ec, decide_eq_false (by omega), if_neg (by decide), Int.add_zero]
        exact i1 m hm
      · have hdn : dgp (f_bs F) (f_nl F) x k ≠ f_nm F := fun e => a2 (by unfold dz; rw [if_pos e])
        have ed : dz F (dgp (f_bs F) (f_nl F) x k) = (dgp (f_bs F) (f_nl F) x k : Int) := by unfold dz; rw [if_neg hdn]
        have hcl := cnt_le (fun j => decide (dgp (f_bs F) (f_nl F) x j = dgp (f_bs F) (f_nl F) x k)) k
        have eh := i1 (dgp (f_bs F) (f_nl F) x k) (by omega)
        refine jr_aload_n hF dX5_countHeld_26 (q := 27) rfl rfl ?_
        refine jr_getR (ci := 5) (j := 4) hF dX5_countHeld_27 (q := 30) rfl rfl rfl fl5_18 ?_
        refine jr_aload_n hF dX5_countHeld_30 (q := 31) rfl rfl ?_
        refine jr_iload_n hF dX5_countHeld_31 (q := 32) rfl rfl ?_
        refine jr_iald hF dX5_countHeld_32 (q := 33) rfl rfl (by omega) ?_
        rw [ex, ed]
        refine jr_dup2 hF dX5_countHeld_33 (q := 34) rfl rfl rfl ?_
        refine jr_iald hF dX5_countHeld_34 (q := 35) rfl rfl (by omega) ?_
        rw [eh]
        refine jr_iconst hF dX5_countHeld_35 (q := 36) rfl (by decide) ?_
        refine jr_iadd hF dX5_countHeld_36 (q := 37) rfl (by omega) ?_
        refine jr_iast hF dX5_countHeld_37 (q := 38) rfl rfl (by omega) ?_
        refine jr_iinc hF dX5_countHeld_38 (q := 41) rfl (by decide) rfl rfl (by omega) ?_
        refine jr_goto hF dX5_countHeld_41 10 (by decide) ?_
        refine ih _ ⟨fun m hm => ?_, fun k hk => by rw [up_ne hk]; exact i2 k hk⟩
        rw [up_nat, ec]
        by_cases e : m = dgp (f_bs F) (f_nl F) x k
        · rw [if_pos e, decide_eq_true e.symm, if_pos rfl, ← e]
        · rw [if_neg e, decide_eq_false (Ne.symm e), if_neg (by decide), Int.add_zero]
          exact i1 m hm
set_option maxRecDepth 100000 in
theorem c_isBetter (σ : Sg) (t gz : Int) : RI mX5_isBetter 1 [vR 59, vI t, vI gz] σ (fun z σ' => z = (if σ 59 0 = 0 then 1 else if gz = 0 then (if t < σ 59 1 then 1 else 0) else (if σ 59 1 < t then 1 else 0)) ∧ σ = σ') := by
  refine mkRun (by decide +kernel) (Nat.le_of_ble_eq_true rfl) (fun X hF hR => ?_)
  refine jr_aload_n hF dX5_isBetter_0 (q := 1) rfl rfl ?_
  refine jr_getI (ci := 5) (j := 0) hF 0 rfl dX5_isBetter_1 (q := 4) rfl rfl rfl fl5_21 ?_
  refine jr_if_ne hF dX5_isBetter_4 (q := 7) rfl 9 (by decide) (fun a1 => ?_) (fun a1 => ?_)
  · refine jr_iload_n hF dX5_isBetter_9 (q := 10) rfl rfl ?_
    refine jr_if_eq hF dX5_isBetter_10 (q := 13) rfl 29 (by decide) (fun a2 => ?_) (fun a2 => ?_)
    · refine jr_iload_n hF dX5_isBetter_29 (q := 30) rfl rfl ?_
      refine jr_aload_n hF dX5_isBetter_30 (q := 31) rfl rfl ?_
      refine jr_getI (ci := 5) (j := 1) hF 1 rfl dX5_isBetter_31 (q := 34) rfl rfl rfl fl5_56 ?_
      refine jr_icmp_ge hF dX5_isBetter_34 (q := 37) rfl 41 (by decide) (fun a3 => ?_) (fun a3 => ?_)
      · refine jr_iconst hF dX5_isBetter_41 (q := 42) rfl (by decide) ?_
        refine jr_retZ hF hR dX5_isBetter_42 rfl (by first | exact Or.inl rfl | exact Or.inr rfl | omega) ⟨by rw [if_neg a1, if_pos a2, if_neg (by omega)], rfl⟩
      · refine jr_iconst hF dX5_isBetter_37 (q := 38) rfl (by decide) ?_
        refine jr_goto hF dX5_isBetter_38 42 (by decide) ?_
        refine jr_retZ hF hR dX5_isBetter_42 rfl (by first | exact Or.inl rfl | exact Or.inr rfl | omega) ⟨by rw [if_neg a1, if_pos a2, if_pos a3], rfl⟩
    · refine jr_iload_n hF dX5_isBetter_13 (q := 14) rfl rfl ?_
      refine jr_aload_n hF dX5_isBetter_14 (q := 15) rfl rfl ?_
      refine jr_getI (ci := 5) (j := 1) hF 1 rfl dX5_isBetter_15 (q := 18) rfl rfl rfl fl5_56 ?_
      refine jr_icmp_le hF dX5_isBetter_18 (q := 21) rfl 25 (by decide) (fun a3 => ?_) (fun a3 => ?_)
      · refine jr_iconst hF dX5_isBetter_25 (q := 26) rfl (by decide) ?_
        refine jr_goto hF dX5_isBetter_26 42 (by decide) ?_
        refine jr_retZ hF hR dX5_isBetter_42 rfl (by first | exact Or.inl rfl | exact Or.inr rfl | omega) ⟨by rw [if_neg a1, if_neg a2, if_neg (by omega)], rfl⟩
      · refine jr_iconst hF dX5_isBetter_21 (q := 22) rfl (by decide) ?_
        refine jr_goto hF dX5_isBetter_22 42 (by decide) ?_
        refine jr_retZ hF hR dX5_isBetter_42 rfl (by first | exact Or.inl rfl | exact Or.inr rfl | omega) ⟨by rw [if_neg a1, if_neg a2, if_pos a3], rfl⟩
  · refine jr_iconst hF dX5_isBetter_7 (q := 8) rfl (by decide) ?_
    refine jr_retZ hF hR dX5_isBetter_8 rfl (by first | exact Or.inl rfl | exact Or.inr rfl | omega) ⟨by rw [if_pos a1], rfl⟩
set_option maxRecDepth 100000 in
theorem c_noteAsked (σ : Sg) (t : Int) : RV mX5_noteAsked 1 [vR 59, vI t] σ (fun σ' => σ' 59 0 = 1 ∧ σ' 59 1 = t ∧ (∀ m : Nat, m < 3 → σ' 60 (m : Int) = σ 61 (m : Int)) ∧ ∀ k, k ≠ 59 → k ≠ 60 → σ' k = σ k) := by
  refine mkRun (by decide +kernel) (Nat.le_of_ble_eq_true rfl) (fun X hF hR => ?_)
  refine jr_aload_n hF dX5_noteAsked_0 (q := 1) rfl rfl ?_
  refine jr_iconst hF dX5_noteAsked_1 (q := 2) rfl (by decide) ?_
  refine jr_putZ (ci := 5) (j := 0) hF 0 rfl dX5_noteAsked_2 (q := 5) rfl rfl rfl fp5_21 (by decide) ?_
  refine jr_aload_n hF dX5_noteAsked_5 (q := 6) rfl rfl ?_
  refine jr_iload_n hF dX5_noteAsked_6 (q := 7) rfl rfl ?_
  refine jr_putI (ci := 5) (j := 1) hF 1 rfl dX5_noteAsked_7 (q := 10) rfl rfl rfl fp5_56 ?_
  refine jr_aload_n hF dX5_noteAsked_10 (q := 11) rfl rfl ?_
  refine jr_getR (ci := 5) (j := 3) hF dX5_noteAsked_11 (q := 14) rfl rfl rfl fl5_15 ?_
  refine jr_iconst hF dX5_noteAsked_14 (q := 15) rfl (by decide) ?_
  refine jr_aload_n hF dX5_noteAsked_15 (q := 16) rfl rfl ?_
  refine jr_getR (ci := 5) (j := 2) hF dX5_noteAsked_16 (q := 19) rfl rfl rfl fl5_9 ?_
  refine jr_iconst hF dX5_noteAsked_19 (q := 20) rfl (by decide) ?_
  refine jr_iconst hF dX5_noteAsked_20 (q := 21) rfl (by decide) ?_
  refine jr_copy0 hF cpW_ok dX5_noteAsked_21 (q := 24) rfl lk5_59 rfl rfl (by omega) (Nat.le_of_ble_eq_true rfl) (by decide) (fun σ1 f1 g1 => ?_)
  refine jr_retV hF hR dX5_noteAsked_24 rfl ⟨?_, ?_, fun m hm => ?_, fun k h1 h2 => ?_⟩
  · rw [f1 59 (by decide)]; simp [up]
  · rw [f1 59 (by decide)]; simp [up]
  · rw [g1, if_pos (by omega), up_ne (by decide), up_ne (by decide)]
  · rw [f1 k h2, up_ne h1, up_ne h1]
/-- years by a figure of elevens, master 0 the highest -/
def prc (nm q m : Nat) : Int := if m < nm then (dgp 11 nm q m : Int) else 0
theorem prc_le (nm q m : Nat) : 0 ≤ prc nm q m ∧ prc nm q m ≤ 10 := by
  unfold prc
  split
  · have : dgp 11 nm q m < 11 := Nat.mod_lt _ (by decide)
    omega
  · omega
def psm (nm q : Nat) : Int := sumF (prc nm q) nm
theorem prc_abc {nm a b c tb tc : Nat} (hnm : nm = 1 ∨ nm = 2 ∨ nm = 3) (htb : tb = if 1 < nm then 10 else 0) (htc : tc = if 2 < nm then 10 else 0) (ha : a ≤ 10) (hb : b ≤ tb) (hc : c ≤ tc) : prc nm ((a * (tb + 1) + b) * (tc + 1) + c) 0 = (a : Int) ∧ prc nm ((a * (tb + 1) + b) * (tc + 1) + c) 1 = (b : Int) ∧ prc nm ((a * (tb + 1) + b) * (tc + 1) + c) 2 = (c : Int) ∧ psm nm ((a * (tb + 1) + b) * (tc + 1) + c) = (a : Int) + b + c := by
  rcases hnm with rfl | rfl | rfl
  · rw [if_neg (by decide)] at htb htc
    subst htb; subst htc
    simp only [psm, sumF, prc, dgp]
    simp
    omega
  · rw [if_pos (by decide)] at htb
    rw [if_neg (by decide)] at htc
    subst htb; subst htc
    simp only [psm, sumF, prc, dgp]
    simp
    omega
  · rw [if_pos (by decide)] at htb htc
    subst htb; subst htc
    simp only [psm, sumF, prc, dgp]
    simp
    omega
def btr (g : Bool) (p s : Int) : Bool := decide (p = -1) || (if g = true then decide (p < s) else decide (s < p))
/-- the first best of the years below q at which A holds -/
def prT (nm : Nat) (A : Nat → Bool) (g : Bool) (q : Nat) : Int × Nat := match q with
  | 0 => (-1, 0)
  | q + 1 => if btr g (prT nm A g q).1 (psm nm q) = true ∧ A q = true then (psm nm q, q) else prT nm A g q
def PT (σ : Sg) (nm : Nat) (A : Nat → Bool) (g : Bool) (q : Nat) : Prop := ((prT nm A g q).1 = -1 ∧ σ 59 0 = 0) ∨ ((prT nm A g q).1 ≠ -1 ∧ σ 59 0 = 1 ∧ σ 59 1 = (prT nm A g q).1 ∧ ∀ m : Nat, m < nm → σ 60 (m : Int) = prc nm (prT nm A g q).2 m)
theorem PT.fr {σ σ' : Sg} {nm : Nat} {A : Nat → Bool} {g : Bool} {q : Nat} (h : PT σ nm A g q) (h1 : σ' 59 = σ 59) (h2 : σ' 60 = σ 60) : PT σ' nm A g q := by
  unfold PT
  rw [h1, h2]
  exact h
set_option maxRecDepth 100000 in
theorem c_rsearch (σ : Sg) (F : FD) (hC : RepC σ 4 F) (ok : okF F) (hn1 : 1 ≤ f_nm F) (x : Nat) (hx : ∀ j : Nat, j < f_nl F → σ 55 (j : Int) = dz F (dgp (f_bs F) (f_nl F) x j)) (g : Bool) (gz : Int) (hg : gz = if g = true then 1 else 0) : RV mX5_search 3 [vR 59, vR 4, vR 55, vI gz] σ (fun σ' => PT σ' (f_nm F) (fun q => arB F x (prc (f_nm F) q)) g (11 ^ f_nm F) ∧ ∀ k, k < 59 ∨ 62 < k → σ' k = σ k) := by
  have h5 := ok.2.1
  have h3 := ok.1
  have r1 := hC.1
  have hnm : f_nm F = 1 ∨ f_nm F = 2 ∨ f_nm F = 3 := by omega
  refine mkRun (by decide +kernel) (Nat.le_of_ble_eq_true rfl) (fun X hF hR => ?_)
  refine jr_aload_n hF dX5_search_0 (q := 1) rfl rfl ?_
  refine jr_iconst hF dX5_search_1 (q := 2) rfl (by decide) ?_
  refine jr_putZ (ci := 5) (j := 0) hF 0 rfl dX5_search_2 (q := 5) rfl rfl rfl fp5_21 (by decide) ?_
  refine jr_aload_n hF dX5_search_5 (q := 6) rfl rfl ?_
  refine jr_aload_n hF dX5_search_6 (q := 7) rfl rfl ?_
  refine jr_aload_n hF dX5_search_7 (q := 8) rfl rfl ?_
  have hC0 : RepC (up σ 59 0 0) 4 F := hC.fr h5 (fun k l1 l2 => up_ne (by omega))
  refine jr_cV2V hF (c_countHeld _ F hC0 ok x (fun j hj => by rw [up_ne (by decide)]; exact hx j hj)) dX5_search_8 (q := 11) rfl lk5_25 vX5_countHeld kX5_countHeld rfl rfl rfl (by decide) (Nat.le_of_ble_eq_true rfl) (fun σ1 hz => ?_)
  obtain ⟨hh, hfr⟩ := hz
  have f1 : ∀ k, k < 59 ∨ 62 < k → σ1 k = σ k := fun k hk => by rw [hfr k (by omega), up_ne (by omega)]
  have f0 : σ1 59 0 = 0 := by rw [hfr 59 (by decide)]; simp [up]
  clear hfr
  have q1 : σ1 4 0 = (f_nm F : Int) := by rw [f1 4 (by omega)]; exact r1
  obtain ⟨tb, htb⟩ : ∃ tb : Nat, tb = if 1 < f_nm F then 10 else 0 := ⟨_, rfl⟩
  obtain ⟨tc, htc⟩ : ∃ tc : Nat, tc = if 2 < f_nm F then 10 else 0 := ⟨_, rfl⟩
  have htb2 : tb ≤ 10 := by rw [htb]; split <;> omega
  have htc2 : tc ≤ 10 := by rw [htc]; split <;> omega
  have hpow : 11 * (tb + 1) * (tc + 1) = 11 ^ f_nm F := by
    rcases hnm with e | e | e <;> rw [htb, htc, e] <;> rfl
  generalize hA : (fun q => arB F x (prc (f_nm F) q)) = A at hR
  have hloops : Gs X 43 [some (vR 59), some (vR 4), some (vR 55), some (vI gz), some (vI (tb : Int)), some (vI (tc : Int)), none, none, none] [] σ1 := by
    refine jr_iconst hF dX5_search_43 (q := 44) rfl (by decide) ?_
    refine jr_istore hF dX5_search_44 (q := 46) rfl (by decide) rfl ?_
    refine gs_loop (α := Sg) (fun k _ => [some (vR 59), some (vR 4), some (vR 55), some (vI gz), some (vI (tb : Int)), some (vI (tc : Int)), some (vI (k : Int)), none, none]) (fun σ' => σ') (fun a σ' => PT σ' (f_nm F) A g (a * (tb + 1) * (tc + 1)) ∧ (∀ k, k ≠ 59 → k ≠ 60 → k ≠ 61 → σ' k = σ1 k)) 11 (fun σ' h => ?_) (fun a σ' ha h ih => ?_) σ1 ⟨Or.inl ⟨by rw [Nat.zero_mul, Nat.zero_mul]; rfl, f0⟩, fun _ _ _ _ => rfl⟩
    · refine jr_iload hF dX5_search_46 (q := 48) rfl rfl ?_
      refine jr_bipush hF dX5_search_48 (q := 50) rfl (by decide) (by decide +kernel) ?_
      refine jr_icmp_gt hF dX5_search_50 (q := 53) rfl 152 (by decide) (fun a1 => ?_) (fun a1 => ?_)
      · rw [hpow] at h
        refine jr_retV hF hR dX5_search_152 rfl ⟨h.1, fun k hk => by rw [h.2 k (by omega) (by omega) (by omega), f1 k hk]⟩
      · omega
    · refine jr_iload hF dX5_search_46 (q := 48) rfl rfl ?_
      refine jr_bipush hF dX5_search_48 (q := 50) rfl (by decide) (by decide +kernel) ?_
      refine jr_icmp_gt hF dX5_search_50 (q := 53) rfl 152 (by decide) (fun a1 => ?_) (fun a1 => ?_)
      · omega
      · refine jr_iconst hF dX5_search_53 (q := 54) rfl (by decide) ?_
        refine jr_istore hF dX5_search_54 (q := 56) rfl (by decide) rfl ?_
        refine gs_loop (α := Sg) (fun k _ => [some (vR 59), some (vR 4), some (vR 55), some (vI gz), some (vI (tb : Int)), some (vI (tc : Int)), some (vI (a : Int)), some (vI (k : Int)), none]) (fun σ' => σ') (fun b σ' => PT σ' (f_nm F) A g ((a * (tb + 1) + b) * (tc + 1)) ∧ (∀ k, k ≠ 59 → k ≠ 60 → k ≠ 61 → σ' k = σ1 k)) (tb + 1) (fun σ2 h2 => ?_) (fun b σ2 hb h2 ih2 => ?_) σ' h
        · refine jr_iload hF dX5_search_56 (q := 58) rfl rfl ?_
          refine jr_iload hF dX5_search_58 (q := 60) rfl rfl ?_
          refine jr_icmp_gt hF dX5_search_60 (q := 63) rfl 146 (by decide) (fun a2 => ?_) (fun a2 => ?_)
          · refine jr_fg 7 ?_
            refine jr_iinc hF dX5_search_146 (q := 149) rfl (by decide) rfl rfl (by omega) ?_
            refine jr_goto hF dX5_search_149 46 (by decide) ?_
            rw [← Nat.succ_mul] at h2
            exact ih σ2 h2
          · omega
        · refine jr_iload hF dX5_search_56 (q := 58) rfl rfl ?_
          refine jr_iload hF dX5_search_58 (q := 60) rfl rfl ?_
          refine jr_icmp_gt hF dX5_search_60 (q := 63) rfl 146 (by decide) (fun a2 => ?_) (fun a2 => ?_)
          · omega
          · refine jr_iconst hF dX5_search_63 (q := 64) rfl (by decide) ?_
            refine jr_istore hF dX5_search_64 (q := 66) rfl (by decide) rfl ?_
            refine gs_loop (α := Sg) (fun k _ => [some (vR 59), some (vR 4), some (vR 55), some (vI gz), some (vI (tb : Int)), some (vI (tc : Int)), some (vI (a : Int)), some (vI (b : Int)), some (vI (k : Int))]) (fun σ' => σ') (fun c σ' => PT σ' (f_nm F) A g ((a * (tb + 1) + b) * (tc + 1) + c) ∧ (∀ k, k ≠ 59 → k ≠ 60 → k ≠ 61 → σ' k = σ1 k)) (tc + 1) (fun σ3 h3 => ?_) (fun c σ3 hc h3 ih3 => ?_) σ2 h2
            · refine jr_iload hF dX5_search_66 (q := 68) rfl rfl ?_
              refine jr_iload hF dX5_search_68 (q := 70) rfl rfl ?_
              refine jr_icmp_gt hF dX5_search_70 (q := 73) rfl 140 (by decide) (fun a3 => ?_) (fun a3 => ?_)
              · refine jr_fg 8 ?_
                refine jr_iinc hF dX5_search_140 (q := 143) rfl (by decide) rfl rfl (by omega) ?_
                refine jr_goto hF dX5_search_143 56 (by decide) ?_
                rw [← Nat.succ_mul] at h3
                exact ih2 σ3 h3
              · omega
            · obtain ⟨i1, i2⟩ := h3
              obtain ⟨p0, p1, p2, p3⟩ := prc_abc hnm htb htc (show a ≤ 10 by omega) (show b ≤ tb by omega) (show c ≤ tc by omega)
              generalize hq : (a * (tb + 1) + b) * (tc + 1) + c = q at i1 p0 p1 p2 p3
              have eT : prT (f_nm F) A g (q + 1) = if btr g (prT (f_nm F) A g q).1 (psm (f_nm F) q) = true ∧ A q = true then (psm (f_nm F) q, q) else prT (f_nm F) A g q := rfl
              have hskip : ∀ σ4 : Sg, PT σ4 (f_nm F) A g (q + 1) → (∀ k, k ≠ 59 → k ≠ 60 → k ≠ 61 → σ4 k = σ1 k) → Gs X 134 [some (vR 59), some (vR 4), some (vR 55), some (vI gz), some (vI (tb : Int)), some (vI (tc : Int)), some (vI (a : Int)), some (vI (b : Int)), some (vI (c : Int))] [] σ4 := by
                intro σ4 j1 j2
                refine jr_iinc hF dX5_search_134 (q := 137) rfl (by decide) rfl rfl (by omega) ?_
                refine jr_goto hF dX5_search_137 66 (by decide) ?_
                exact ih3 σ4 ⟨by rw [← Nat.add_assoc, hq]; exact j1, j2⟩
              refine jr_iload hF dX5_search_66 (q := 68) rfl rfl ?_
              refine jr_iload hF dX5_search_68 (q := 70) rfl rfl ?_
              refine jr_icmp_gt hF dX5_search_70 (q := 73) rfl 140 (by decide) (fun a3 => ?_) (fun a3 => ?_)
              · omega
              · refine jr_aload_n hF dX5_search_73 (q := 74) rfl rfl ?_
                refine jr_getR (ci := 5) (j := 3) hF dX5_search_74 (q := 77) rfl rfl rfl fl5_15 ?_
                refine jr_iconst hF dX5_search_77 (q := 78) rfl (by decide) ?_
                refine jr_iload hF dX5_search_78 (q := 80) rfl rfl ?_
                refine jr_iast hF dX5_search_80 (q := 81) rfl rfl (by omega) ?_
                refine jr_aload_n hF dX5_search_81 (q := 82) rfl rfl ?_
                refine jr_getR (ci := 5) (j := 3) hF dX5_search_82 (q := 85) rfl rfl rfl fl5_15 ?_
                refine jr_iconst hF dX5_search_85 (q := 86) rfl (by decide) ?_
                refine jr_iload hF dX5_search_86 (q := 88) rfl rfl ?_
                refine jr_iast hF dX5_search_88 (q := 89) rfl rfl (by omega) ?_
                refine jr_aload_n hF dX5_search_89 (q := 90) rfl rfl ?_
                refine jr_getR (ci := 5) (j := 3) hF dX5_search_90 (q := 93) rfl rfl rfl fl5_15 ?_
                refine jr_iconst hF dX5_search_93 (q := 94) rfl (by decide) ?_
                refine jr_iload hF dX5_search_94 (q := 96) rfl rfl ?_
                refine jr_iast hF dX5_search_96 (q := 97) rfl rfl (by omega) ?_
                obtain ⟨σ4, hσ4⟩ : ∃ σ4, σ4 = up (up (up σ3 61 0 (a : Int)) 61 1 (b : Int)) 61 2 (c : Int) := ⟨_, rfl⟩
                rw [← hσ4]
                have j1 : ∀ k, k ≠ 61 → σ4 k = σ3 k := fun k hk => by rw [hσ4, up_ne hk, up_ne hk, up_ne hk]
                have j2 : ∀ m : Nat, m < f_nm F → σ4 61 (m : Int) = prc (f_nm F) q m := by
                  intro m hm
                  have : m = 0 ∨ m = 1 ∨ m = 2 := by omega
                  rcases this with rfl | rfl | rfl
                  · rw [p0, hσ4]; simp [up]
                  · rw [p1, hσ4]; simp [up]
                  · rw [p2, hσ4]; simp [up]
                clear hσ4
                have hPT4 : PT σ4 (f_nm F) A g q := i1.fr (j1 59 (by decide)) (j1 60 (by decide))
                have hfr4 : ∀ k, k ≠ 59 → k ≠ 60 → k ≠ 61 → σ4 k = σ1 k := fun k h1 h2 h3 => by rw [j1 k h3]; exact i2 k h1 h2 h3
                have hC4 : RepC σ4 4 F := hC.fr h5 (fun k l1 l2 => by rw [hfr4 k (by omega) (by omega) (by omega), f1 k (by omega)])
                refine jr_aload_n hF dX5_search_97 (q := 98) rfl rfl ?_
                refine jr_iload hF dX5_search_98 (q := 100) rfl rfl ?_
                refine jr_iload hF dX5_search_100 (q := 102) rfl rfl ?_
                refine jr_iadd hF dX5_search_102 (q := 103) rfl (by omega) ?_
                refine jr_iload hF dX5_search_103 (q := 105) rfl rfl ?_
                refine jr_iadd hF dX5_search_105 (q := 106) rfl (by omega) ?_
                refine jr_iload_n hF dX5_search_106 (q := 107) rfl rfl ?_
                rw [← p3]
                refine jr_cV2I hF (c_isBetter σ4 (psm (f_nm F) q) gz) dX5_search_107 (q := 110) rfl lk5_35 vX5_isBetter kX5_isBetter rfl rfl rfl (by decide) (Nat.le_of_ble_eq_true rfl) (fun z σ5 hz => ?_)
                obtain ⟨rfl, rfl⟩ := hz
                have hbt : (if σ4 59 0 = 0 then (1 : Int) else if gz = 0 then (if psm (f_nm F) q < σ4 59 1 then 1 else 0) else (if σ4 59 1 < psm (f_nm F) q then 1 else 0)) = if btr g (prT (f_nm F) A g q).1 (psm (f_nm F) q) = true then 1 else 0 := by
                  unfold btr
                  rcases hPT4 with ⟨k1, k2⟩ | ⟨k1, k2, k3, -⟩
                  · rw [if_pos k2, decide_eq_true k1]
                    rfl
                  · rw [if_neg (by omega), decide_eq_false k1, Bool.false_or, k3, hg]
                    cases g <;> simp
                rw [hbt]
                refine jr_if_eq hF dX5_search_110 (q := 113) rfl 134 (by decide) (fun a4 => ?_) (fun a4 => ?_)
                · have hb0 := bi_0 a4
                  refine hskip σ4 ?_ hfr4
                  unfold PT
                  rw [eT, if_neg (fun hh => by rw [hb0] at hh; exact absurd hh.1 (by decide))]
                  exact hPT4
                · have hb1 := bi_1 a4
                  refine jr_aload_n hF dX5_search_113 (q := 114) rfl rfl ?_
                  refine jr_aload_n hF dX5_search_114 (q := 115) rfl rfl ?_
                  refine jr_aload_n hF dX5_search_115 (q := 116) rfl rfl ?_
                  refine jr_cV2I hF (c_isAtRestC σ4 F hC4 ok (prc (f_nm F) q) j2 (fun m => prc_le _ _ _) x (fun j hj => by rw [hfr4 55 (by decide) (by decide) (by decide), f1 55 (by omega)]; exact hx j hj) (fun m hm => by rw [hfr4 62 (by decide) (by decide) (by decide)]; exact hh m hm)) dX5_search_116 (q := 119) rfl lk5_39 vX5_isAtRest kX5_isAtRest rfl rfl rfl (by decide) (Nat.le_of_ble_eq_true rfl) (fun z σ5 hz => ?_)
                  obtain ⟨rfl, rfl⟩ := hz
                  have eA : arB F x (prc (f_nm F) q) = A q := by rw [← hA]
                  rw [eA]
                  refine jr_if_eq hF dX5_search_119 (q := 122) rfl 134 (by decide) (fun a5 => ?_) (fun a5 => ?_)
                  · have hb0 := bi_0 a5
                    refine hskip σ4 ?_ hfr4
                    unfold PT
                    rw [eT, if_neg (fun hh => by rw [hb0] at hh; exact absurd hh.2 (by decide))]
                    exact hPT4
                  · have hb2 := bi_1 a5
                    refine jr_aload_n hF dX5_search_122 (q := 123) rfl rfl ?_
                    refine jr_iload hF dX5_search_123 (q := 125) rfl rfl ?_
                    refine jr_iload hF dX5_search_125 (q := 127) rfl rfl ?_
                    refine jr_iadd hF dX5_search_127 (q := 128) rfl (by omega) ?_
                    refine jr_iload hF dX5_search_128 (q := 130) rfl rfl ?_
                    refine jr_iadd hF dX5_search_130 (q := 131) rfl (by omega) ?_
                    rw [← p3]
                    refine jr_cV1V hF (c_noteAsked σ4 (psm (f_nm F) q)) dX5_search_131 (q := 134) rfl lk5_43 vX5_noteAsked kX5_noteAsked rfl rfl rfl (by decide) (Nat.le_of_ble_eq_true rfl) (fun σ5 hz => ?_)
                    obtain ⟨n1, n2, n3, n4⟩ := hz
                    refine hskip σ5 ?_ (fun k h1 h2 h3 => by rw [n4 k h1 h2]; exact hfr4 k h1 h2 h3)
                    unfold PT
                    rw [eT, if_pos ⟨hb1, hb2⟩]
                    refine Or.inr ⟨?_, n1, n2, fun m hm => ?_⟩
                    · show psm (f_nm F) q ≠ -1
                      omega
                    · rw [n3 m (by omega)]
                      exact j2 m hm
  refine jr_aload_n hF dX5_search_11 (q := 12) rfl rfl ?_
  refine jr_getI (ci := 4) (j := 0) hF 0 rfl dX5_search_12 (q := 15) rfl rfl rfl fl5_29 ?_
  refine jr_iconst hF dX5_search_15 (q := 16) rfl (by decide) ?_
  rw [q1]
  refine jr_icmp_le hF dX5_search_16 (q := 19) rfl 24 (by decide) (fun a1 => ?_) (fun a1 => ?_)
  · refine jr_iconst hF dX5_search_24 (q := 25) rfl (by decide) ?_
    refine jr_istore hF dX5_search_25 (q := 27) rfl (by decide) rfl ?_
    refine jr_aload_n hF dX5_search_27 (q := 28) rfl rfl ?_
    refine jr_getI (ci := 4) (j := 0) hF 0 rfl dX5_search_28 (q := 31) rfl rfl rfl fl5_29 ?_
    refine jr_iconst hF dX5_search_31 (q := 32) rfl (by decide) ?_
    rw [q1]
    rw [if_neg (by omega)] at htb
    refine jr_icmp_le hF dX5_search_32 (q := 35) rfl 40 (by decide) (fun a2 => ?_) (fun a2 => ?_)
    · refine jr_iconst hF dX5_search_40 (q := 41) rfl (by decide) ?_
      refine jr_istore hF dX5_search_41 (q := 43) rfl (by decide) rfl ?_
      rw [if_neg (by omega)] at htc
      rw [htb, htc] at hloops
      exact hloops
    · omega
  · refine jr_bipush hF dX5_search_19 (q := 21) rfl (by decide) (by decide +kernel) ?_
    refine jr_goto hF dX5_search_21 25 (by decide) ?_
    refine jr_istore hF dX5_search_25 (q := 27) rfl (by decide) rfl ?_
    refine jr_aload_n hF dX5_search_27 (q := 28) rfl rfl ?_
    refine jr_getI (ci := 4) (j := 0) hF 0 rfl dX5_search_28 (q := 31) rfl rfl rfl fl5_29 ?_
    refine jr_iconst hF dX5_search_31 (q := 32) rfl (by decide) ?_
    rw [q1]
    rw [if_pos (by omega)] at htb
    refine jr_icmp_le hF dX5_search_32 (q := 35) rfl 40 (by decide) (fun a2 => ?_) (fun a2 => ?_)
    · refine jr_iconst hF dX5_search_40 (q := 41) rfl (by decide) ?_
      refine jr_istore hF dX5_search_41 (q := 43) rfl (by decide) rfl ?_
      rw [if_neg (by omega)] at htc
      rw [htb, htc] at hloops
      exact hloops
    · refine jr_bipush hF dX5_search_35 (q := 37) rfl (by decide) (by decide +kernel) ?_
      refine jr_goto hF dX5_search_37 41 (by decide) ?_
      refine jr_istore hF dX5_search_41 (q := 43) rfl (by decide) rfl ?_
      rw [if_pos (by omega)] at htc
      rw [htb, htc] at hloops
      exact hloops

