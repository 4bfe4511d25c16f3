/-! ===== what is changed, kept, seen; bytes put behind ===== -/
def CH (σ : Sg) (n : Nat) (W V : Nat → Int) : Prop := σ 66 0 = (n : Int) ∧ ∀ j : Nat, j < n → σ 67 (j : Int) = W j ∧ σ 68 (j : Int) = V j
def nt (n : Nat) (W : Nat → Int) (v : Int) : Nat → Int := if n < 8 then st1 W n v else st1 (fun j => W (j + 1)) 7 v
def nn8 (n : Nat) : Nat := if n < 8 then n + 1 else 8
set_option maxRecDepth 100000 in
theorem c_note (σ : Sg) (n : Nat) (hn : n ≤ 8) (W V : Nat → Int) (hC : CH σ n W V) (a v : Int) : RV mX0_note 1 [vR 66, vI a, vI v] σ (fun σ' => CH σ' (nn8 n) (nt n W a) (nt n V v) ∧ ∀ k, k ≠ 66 → k ≠ 67 → k ≠ 68 → σ' k = σ k) := by
  obtain ⟨c1, c2⟩ := hC
  refine mkRun (by decide +kernel) (Nat.le_of_ble_eq_true rfl) (fun X hF hR => ?_)
  have main : ∀ (m : Nat) (σ2 : Sg) (W' V' : Nat → Int), m < 8 → σ2 66 0 = (m : Int) → (∀ j : Nat, j < m → σ2 67 (j : Int) = W' j ∧ σ2 68 (j : Int) = V' j) → m + 1 = nn8 n → st1 W' m a = nt n W a → st1 V' m v = nt n V v → (∀ k, k ≠ 66 → k ≠ 67 → k ≠ 68 → σ2 k = σ k) → Gs X 45 [some (vR 66), some (vI a), some (vI v)] [] σ2 := by
    intro m σ2 W' V' hm d1 d2 d3 d4 d5 d6
    refine jr_aload_n hF dX0_note_45 (q := 46) rfl rfl ?_
    refine jr_getR (ci := 0) (j := 1) hF dX0_note_46 (q := 49) rfl rfl rfl fl0_9 ?_
    refine jr_aload_n hF dX0_note_49 (q := 50) rfl rfl ?_
    refine jr_getI (ci := 0) (j := 0) hF 0 rfl dX0_note_50 (q := 53) rfl rfl rfl fl0_18 ?_
    rw [d1]
    refine jr_iload_n hF dX0_note_53 (q := 54) rfl rfl ?_
    refine jr_iast hF dX0_note_54 (q := 55) rfl rfl (by omega) ?_
    refine jr_aload_n hF dX0_note_55 (q := 56) rfl rfl ?_
    refine jr_getR (ci := 0) (j := 2) hF dX0_note_56 (q := 59) rfl rfl rfl fl0_15 ?_
    refine jr_aload_n hF dX0_note_59 (q := 60) rfl rfl ?_
    refine jr_getI (ci := 0) (j := 0) hF 0 rfl dX0_note_60 (q := 63) rfl rfl rfl fl0_18 ?_
    rw [up_ne (show 66 ≠ 67 by decide), d1]
    refine jr_iload_n hF dX0_note_63 (q := 64) rfl rfl ?_
    refine jr_iast hF dX0_note_64 (q := 65) rfl rfl (by omega) ?_
    refine jr_aload_n hF dX0_note_65 (q := 66) rfl rfl ?_
    refine jr_dup hF dX0_note_66 (q := 67) rfl rfl ?_
    refine jr_getI (ci := 0) (j := 0) hF 0 rfl dX0_note_67 (q := 70) rfl rfl rfl fl0_18 ?_
    rw [up_ne (show 66 ≠ 68 by decide), up_ne (show 66 ≠ 67 by decide), d1]
    refine jr_iconst hF dX0_note_70 (q := 71) rfl (by decide) ?_
    refine jr_iadd hF dX0_note_71 (q := 72) rfl (by omega) ?_
    refine jr_putI (ci := 0) (j := 0) hF 0 rfl dX0_note_72 (q := 75) rfl rfl rfl fp0_18 ?_
    refine jr_retV hF hR dX0_note_75 rfl ⟨⟨?_, fun j hj => ⟨?_, ?_⟩⟩, fun k h1 h2 h3 => ?_⟩
    · rw [← d3]; simp [up]
    · rw [up_ne (by decide), up_ne (by decide), up_nat, ← d4]
      unfold st1
      split
      · rfl
      · exact (d2 j (by omega)).1
    · rw [up_ne (by decide), up_nat, up_ne (by decide), ← d5]
      unfold st1
      split
      · rfl
      · exact (d2 j (by omega)).2
    · rw [up_ne h1, up_ne h3, up_ne h2]
      exact d6 k h1 h2 h3
  refine jr_aload_n hF dX0_note_0 (q := 1) rfl rfl ?_
  refine jr_getI (ci := 0) (j := 0) hF 0 rfl dX0_note_1 (q := 4) rfl rfl rfl fl0_18 ?_
  refine jr_bipush hF dX0_note_4 (q := 6) rfl (by decide) (by decide +kernel) ?_
  refine jr_icmp_lt hF dX0_note_6 (q := 9) rfl 45 (by decide) (fun h1 => ?_) (fun h1 => ?_)
  · exact main n σ W V (by omega) c1 c2 (by unfold nn8; rw [if_pos (by omega)]) (by unfold nt; rw [if_pos (by omega)]) (by unfold nt; rw [if_pos (by omega)]) (fun _ _ _ _ => rfl)
  · have en : n = 8 := by omega
    subst en
    refine jr_aload_n hF dX0_note_9 (q := 10) rfl rfl ?_
    refine jr_getR (ci := 0) (j := 1) hF dX0_note_10 (q := 13) rfl rfl rfl fl0_9 ?_
    refine jr_iconst hF dX0_note_13 (q := 14) rfl (by decide) ?_
    refine jr_aload_n hF dX0_note_14 (q := 15) rfl rfl ?_
    refine jr_getR (ci := 0) (j := 1) hF dX0_note_15 (q := 18) rfl rfl rfl fl0_9 ?_
    refine jr_iconst hF dX0_note_18 (q := 19) rfl (by decide) ?_
    refine jr_bipush hF dX0_note_19 (q := 21) rfl (by decide) (by decide +kernel) ?_
    refine jr_copy hF cpW_ok dX0_note_21 (q := 24) rfl lk0_22 rfl rfl (by omega) (Nat.le_of_ble_eq_true rfl) (by decide) ?_
    refine jr_aload_n hF dX0_note_24 (q := 25) rfl rfl ?_
    refine jr_getR (ci := 0) (j := 2) hF dX0_note_25 (q := 28) rfl rfl rfl fl0_15 ?_
    refine jr_iconst hF dX0_note_28 (q := 29) rfl (by decide) ?_
    refine jr_aload_n hF dX0_note_29 (q := 30) rfl rfl ?_
    refine jr_getR (ci := 0) (j := 2) hF dX0_note_30 (q := 33) rfl rfl rfl fl0_15 ?_
    refine jr_iconst hF dX0_note_33 (q := 34) rfl (by decide) ?_
    refine jr_bipush hF dX0_note_34 (q := 36) rfl (by decide) (by decide +kernel) ?_
    refine jr_copy hF cpW_ok dX0_note_36 (q := 39) rfl lk0_22 rfl rfl (by omega) (Nat.le_of_ble_eq_true rfl) (by decide) ?_
    refine jr_aload_n hF dX0_note_39 (q := 40) rfl rfl ?_
    refine jr_bipush hF dX0_note_40 (q := 42) rfl (by decide) (by decide +kernel) ?_
    refine jr_putI (ci := 0) (j := 0) hF 0 rfl dX0_note_42 (q := 45) rfl rfl rfl fp0_18 ?_
    refine main 7 _ (fun j => W (j + 1)) (fun j => V (j + 1)) (by decide) (by simp [up]) (fun j hj => ⟨?_, ?_⟩) (by decide) (by unfold nt; rw [if_neg (by decide)]) (by unfold nt; rw [if_neg (by decide)]) (fun k h1 h2 h3 => by rw [up_ne h1, uc_ne h3, uc_ne h2])
    · rw [up_ne (by decide), uc_ne (by decide), uc_eq, if_pos (by omega)]
      rw [show (1 : Int) + ((j : Int) - 0) = ((j + 1 : Nat) : Int) by omega]
      exact (c2 (j + 1) (by omega)).1
    · rw [up_ne (by decide), uc_eq, if_pos (by omega), uc_ne (by decide)]
      rw [show (1 : Int) + ((j : Int) - 0) = ((j + 1 : Nat) : Int) by omega]
      exact (c2 (j + 1) (by omega)).2
set_option maxRecDepth 100000 in
theorem c_takeBack (σ : Sg) (pl : Nat) (hpl : pl = 4 ∨ pl = 14) (n : Nat) (hn : 1 ≤ n ∧ n ≤ 8) (W V : Nat → Int) (hC : CH σ n W V) (hw : 0 ≤ W (n - 1) ∧ W (n - 1) < 7) : RV mX0_takeBack 1 [vR 66, vR pl] σ (fun σ' => σ' = up (up σ 66 0 ((n - 1 : Nat) : Int)) (pl + 9) (W (n - 1)) (V (n - 1))) := by
  obtain ⟨c1, c2⟩ := hC
  obtain ⟨e1, e2⟩ := c2 (n - 1) (by omega)
  refine mkRun (by decide +kernel) (Nat.le_of_ble_eq_true rfl) (fun X hF hR => ?_)
  refine jr_aload_n hF dX0_takeBack_0 (q := 1) rfl rfl ?_
  refine jr_dup hF dX0_takeBack_1 (q := 2) rfl rfl ?_
  refine jr_getI (ci := 0) (j := 0) hF 0 rfl dX0_takeBack_2 (q := 5) rfl rfl rfl fl0_18 ?_
  rw [c1]
  refine jr_iconst hF dX0_takeBack_5 (q := 6) rfl (by decide) ?_
  refine jr_isub hF dX0_takeBack_6 (q := 7) rfl (by omega) ?_
  rw [show (n : Int) - 1 = ((n - 1 : Nat) : Int) by omega]
  refine jr_putI (ci := 0) (j := 0) hF 0 rfl dX0_takeBack_7 (q := 10) rfl (by first | rfl | exact L_pl hpl | exact L_rm hpl | exact L_kd hpl | exact L_lw hpl | exact L_wo hpl | exact L_wr hpl (by omega) | exact L_pl hp2 | exact L_rm hp2 | exact L_kd hp2 | exact L_lw hp2 | exact L_wo hp2 | exact L_wr hp2 (by omega)) rfl fp0_18 ?_
  refine jr_aload_n hF dX0_takeBack_10 (q := 11) rfl rfl ?_
  refine jr_getR (ci := 4) (j := 5) hF dX0_takeBack_11 (q := 14) rfl (by first | rfl | exact L_pl hpl | exact L_rm hpl | exact L_kd hpl | exact L_lw hpl | exact L_wo hpl | exact L_wr hpl (by omega) | exact L_pl hp2 | exact L_rm hp2 | exact L_kd hp2 | exact L_lw hp2 | exact L_wo hp2 | exact L_wr hp2 (by omega)) rfl fl0_28 ?_
  refine jr_aload_n hF dX0_takeBack_14 (q := 15) rfl rfl ?_
  refine jr_getR (ci := 0) (j := 1) hF dX0_takeBack_15 (q := 18) rfl (by first | rfl | exact L_pl hpl | exact L_rm hpl | exact L_kd hpl | exact L_lw hpl | exact L_wo hpl | exact L_wr hpl (by omega) | exact L_pl hp2 | exact L_rm hp2 | exact L_kd hp2 | exact L_lw hp2 | exact L_wo hp2 | exact L_wr hp2 (by omega)) rfl fl0_9 ?_
  refine jr_aload_n hF dX0_takeBack_18 (q := 19) rfl rfl ?_
  refine jr_getI (ci := 0) (j := 0) hF 0 rfl dX0_takeBack_19 (q := 22) rfl (by first | rfl | exact L_pl hpl | exact L_rm hpl | exact L_kd hpl | exact L_lw hpl | exact L_wo hpl | exact L_wr hpl (by omega) | exact L_pl hp2 | exact L_rm hp2 | exact L_kd hp2 | exact L_lw hp2 | exact L_wo hp2 | exact L_wr hp2 (by omega)) rfl fl0_18 ?_
  have e0 : up σ 66 0 ((n - 1 : Nat) : Int) 66 0 = ((n - 1 : Nat) : Int) := by simp [up]
  rw [e0]
  refine jr_iald hF dX0_takeBack_22 (q := 23) rfl rfl (by omega) ?_
  refine jr_aload_n hF dX0_takeBack_23 (q := 24) rfl rfl ?_
  refine jr_getR (ci := 0) (j := 2) hF dX0_takeBack_24 (q := 27) rfl rfl rfl fl0_15 ?_
  refine jr_aload_n hF dX0_takeBack_27 (q := 28) rfl rfl ?_
  refine jr_getI (ci := 0) (j := 0) hF 0 rfl dX0_takeBack_28 (q := 31) rfl rfl rfl fl0_18 ?_
  rw [e0, up_ne (show 67 ≠ 66 by decide), e1]
  refine jr_iald hF dX0_takeBack_31 (q := 32) rfl rfl (by omega) ?_
  rw [up_ne (show 68 ≠ 66 by decide), e2]
  refine jr_iast hF dX0_takeBack_32 (q := 33) rfl (by first | rfl | exact L_pl hpl | exact L_rm hpl | exact L_kd hpl | exact L_lw hpl | exact L_wo hpl | exact L_wr hpl (by omega) | exact L_pl hp2 | exact L_rm hp2 | exact L_kd hp2 | exact L_lw hp2 | exact L_wo hp2 | exact L_wr hp2 (by omega)) (by omega) ?_
  refine jr_retV hF hR dX0_takeBack_33 rfl rfl
def KP (σ : Sg) (n : Nat) (S : Nat → Int → Int) : Prop := σ 69 0 = (n : Int) ∧ ∀ (k : Nat) (j : Int), k < n → 0 ≤ j → j < 7 → σ (71 + k) j = S k j
theorem L_sh {k : Nat} (h : k < 2) : Lay[71 + k]? = some (1, 7, 0, []) := by
  have : k = 0 ∨ k = 1 := by omega
  rcases this with rfl | rfl <;> rfl
set_option maxRecDepth 100000 in
theorem c_put (σ : Sg) (pl : Nat) (hpl : pl = 4 ∨ pl = 14) (n : Nat) (hn : n < 2) (S : Nat → Int → Int) (hC : KP σ n S) : RV mX6_put 1 [vR 69, vR pl] σ (fun σ' => KP σ' (n + 1) (fun k => if k = n then σ (pl + 9) else S k) ∧ ∀ k, k ≠ 69 → k ≠ 71 + n → σ' k = σ k) := by
  obtain ⟨c1, c2⟩ := hC
  refine mkRun (by decide +kernel) (Nat.le_of_ble_eq_true rfl) (fun X hF hR => ?_)
  refine jr_aload_n hF dX6_put_0 (q := 1) rfl rfl ?_
  refine jr_getR (ci := 4) (j := 5) hF dX6_put_1 (q := 4) rfl (by first | rfl | exact L_pl hpl | exact L_rm hpl | exact L_kd hpl | exact L_lw hpl | exact L_wo hpl | exact L_wr hpl (by omega) | exact L_pl hp2 | exact L_rm hp2 | exact L_kd hp2 | exact L_lw hp2 | exact L_wo hp2 | exact L_wr hp2 (by omega)) rfl fl6_16 ?_
  refine jr_iconst hF dX6_put_4 (q := 5) rfl (by decide) ?_
  refine jr_aload_n hF dX6_put_5 (q := 6) rfl rfl ?_
  refine jr_getR (ci := 6) (j := 1) hF dX6_put_6 (q := 9) rfl (by first | rfl | exact L_pl hpl | exact L_rm hpl | exact L_kd hpl | exact L_lw hpl | exact L_wo hpl | exact L_wr hpl (by omega) | exact L_pl hp2 | exact L_rm hp2 | exact L_kd hp2 | exact L_lw hp2 | exact L_wo hp2 | exact L_wr hp2 (by omega)) rfl fl6_11 ?_
  refine jr_aload_n hF dX6_put_9 (q := 10) rfl rfl ?_
  refine jr_getI (ci := 6) (j := 0) hF 0 rfl dX6_put_10 (q := 13) rfl (by first | rfl | exact L_pl hpl | exact L_rm hpl | exact L_kd hpl | exact L_lw hpl | exact L_wo hpl | exact L_wr hpl (by omega) | exact L_pl hp2 | exact L_rm hp2 | exact L_kd hp2 | exact L_lw hp2 | exact L_wo hp2 | exact L_wr hp2 (by omega)) rfl fl6_22 ?_
  rw [c1]
  refine jr_aald hF dX6_put_13 (q := 14) rfl rfl (by omega) ?_
  rw [tn]
  refine jr_iconst hF dX6_put_14 (q := 15) rfl (by decide) ?_
  refine jr_bipush hF dX6_put_15 (q := 17) rfl (by decide) (by decide +kernel) ?_
  refine jr_copy0 hF cpW_ok dX6_put_17 (q := 20) rfl lk6_26 (L_lw hpl) (L_sh hn) (by omega) (Nat.le_of_ble_eq_true rfl) (by decide) (fun σ1 f1 g1 => ?_)
  refine jr_aload_n hF dX6_put_20 (q := 21) rfl rfl ?_
  refine jr_dup hF dX6_put_21 (q := 22) rfl rfl ?_
  refine jr_getI (ci := 6) (j := 0) hF 0 rfl dX6_put_22 (q := 25) rfl rfl rfl fl6_22 ?_
  rw [f1 69 (by omega), c1]
  refine jr_iconst hF dX6_put_25 (q := 26) rfl (by decide) ?_
  refine jr_iadd hF dX6_put_26 (q := 27) rfl (by omega) ?_
  refine jr_putI (ci := 6) (j := 0) hF 0 rfl dX6_put_27 (q := 30) rfl rfl rfl fp6_22 ?_
  refine jr_retV hF hR dX6_put_30 rfl ⟨⟨by simp [up], fun k j hk h0 h7 => ?_⟩, fun k h1 h2 => by rw [up_ne h1, f1 k h2]⟩
  rw [up_ne (by omega)]
  show _ = (if k = n then σ (pl + 9) else S k) j
  by_cases e : k = n
  · rw [if_pos e]
    subst e
    rw [g1, if_pos ⟨h0, h7⟩]
  · rw [if_neg e, f1 _ (by omega)]
    exact c2 k j (by omega) h0 h7
set_option maxRecDepth 100000 in
theorem c_takeInto (σ : Sg) (pl : Nat) (hpl : pl = 4 ∨ pl = 14) (n : Nat) (hn : 1 ≤ n ∧ n ≤ 2) (S : Nat → Int → Int) (hC : KP σ n S) : RV mX6_takeInto 1 [vR 69, vR pl] σ (fun σ' => KP σ' (n - 1) S ∧ (∀ j : Int, 0 ≤ j → j < 7 → σ' (pl + 9) j = S (n - 1) j) ∧ ∀ k, k ≠ 69 → k ≠ pl + 9 → σ' k = σ k) := by
  obtain ⟨c1, c2⟩ := hC
  refine mkRun (by decide +kernel) (Nat.le_of_ble_eq_true rfl) (fun X hF hR => ?_)
  refine jr_aload_n hF dX6_takeInto_0 (q := 1) rfl rfl ?_
  refine jr_dup hF dX6_takeInto_1 (q := 2) rfl rfl ?_
  refine jr_getI (ci := 6) (j := 0) hF 0 rfl dX6_takeInto_2 (q := 5) rfl rfl rfl fl6_22 ?_
  rw [c1]
  refine jr_iconst hF dX6_takeInto_5 (q := 6) rfl (by decide) ?_
  refine jr_isub hF dX6_takeInto_6 (q := 7) rfl (by omega) ?_
  rw [show (n : Int) - 1 = ((n - 1 : Nat) : Int) by omega]
  refine jr_putI (ci := 6) (j := 0) hF 0 rfl dX6_takeInto_7 (q := 10) rfl rfl rfl fp6_22 ?_
  refine jr_aload_n hF dX6_takeInto_10 (q := 11) rfl rfl ?_
  refine jr_getR (ci := 6) (j := 1) hF dX6_takeInto_11 (q := 14) rfl rfl rfl fl6_11 ?_
  refine jr_aload_n hF dX6_takeInto_14 (q := 15) rfl rfl ?_
  refine jr_getI (ci := 6) (j := 0) hF 0 rfl dX6_takeInto_15 (q := 18) rfl rfl rfl fl6_22 ?_
  rw [show up σ 69 0 ((n - 1 : Nat) : Int) 69 0 = ((n - 1 : Nat) : Int) by simp [up]]
  refine jr_aald hF dX6_takeInto_18 (q := 19) rfl rfl (by omega) ?_
  rw [tn]
  refine jr_iconst hF dX6_takeInto_19 (q := 20) rfl (by decide) ?_
  refine jr_aload_n hF dX6_takeInto_20 (q := 21) rfl rfl ?_
  refine jr_getR (ci := 4) (j := 5) hF dX6_takeInto_21 (q := 24) rfl (by first | rfl | exact L_pl hpl | exact L_rm hpl | exact L_kd hpl | exact L_lw hpl | exact L_wo hpl | exact L_wr hpl (by omega) | exact L_pl hp2 | exact L_rm hp2 | exact L_kd hp2 | exact L_lw hp2 | exact L_wo hp2 | exact L_wr hp2 (by omega)) rfl fl6_16 ?_
  refine jr_iconst hF dX6_takeInto_24 (q := 25) rfl (by decide) ?_
  refine jr_bipush hF dX6_takeInto_25 (q := 27) rfl (by decide) (by decide +kernel) ?_
  refine jr_copy0 hF cpW_ok dX6_takeInto_27 (q := 30) rfl lk6_26 (L_sh (by omega)) (L_lw hpl) (by omega) (Nat.le_of_ble_eq_true rfl) (by decide) (fun σ1 f1 g1 => ?_)
  refine jr_retV hF hR dX6_takeInto_30 rfl ⟨⟨by rw [f1 69 (by omega)]; simp [up], fun k j hk h0 h7 => ?_⟩, fun j h0 h7 => ?_, fun k h1 h2 => by rw [f1 k h2, up_ne h1]⟩
  · rw [f1 _ (by omega), up_ne (by omega)]
    exact c2 k j (by omega) h0 h7
  · rw [g1, if_pos ⟨h0, h7⟩, up_ne (by omega)]
    exact c2 (n - 1) j (by omega) h0 h7
def SE (σ : Sg) (n : Nat) (M Y : Nat → Int) : Prop := σ 63 0 = (n : Int) ∧ ∀ j : Nat, j < n → σ 64 (j : Int) = M j ∧ σ 65 (j : Int) = Y j
set_option maxRecDepth 100000 in
theorem c_add (σ : Sg) (n : Nat) (hn : n < 6) (M Y : Nat → Int) (hC : SE σ n M Y) (m p : Int) : RV mX7_add 1 [vR 63, vI m, vI p] σ (fun σ' => SE σ' (n + 1) (st1 M n m) (st1 Y n p) ∧ ∀ k, k ≠ 63 → k ≠ 64 → k ≠ 65 → σ' k = σ k) := by
  obtain ⟨c1, c2⟩ := hC
  refine mkRun (by decide +kernel) (Nat.le_of_ble_eq_true rfl) (fun X hF hR => ?_)
  refine jr_aload_n hF dX7_add_0 (q := 1) rfl rfl ?_
  refine jr_getR (ci := 7) (j := 1) hF dX7_add_1 (q := 4) rfl rfl rfl fl7_9 ?_
  refine jr_aload_n hF dX7_add_4 (q := 5) rfl rfl ?_
  refine jr_getI (ci := 7) (j := 0) hF 0 rfl dX7_add_5 (q := 8) rfl rfl rfl fl7_18 ?_
  rw [c1]
  refine jr_iload_n hF dX7_add_8 (q := 9) rfl rfl ?_
  refine jr_iast hF dX7_add_9 (q := 10) rfl rfl (by omega) ?_
  refine jr_aload_n hF dX7_add_10 (q := 11) rfl rfl ?_
  refine jr_getR (ci := 7) (j := 2) hF dX7_add_11 (q := 14) rfl rfl rfl fl7_15 ?_
  refine jr_aload_n hF dX7_add_14 (q := 15) rfl rfl ?_
  refine jr_getI (ci := 7) (j := 0) hF 0 rfl dX7_add_15 (q := 18) rfl rfl rfl fl7_18 ?_
  rw [up_ne (show 63 ≠ 64 by decide), c1]
  refine jr_iload_n hF dX7_add_18 (q := 19) rfl rfl ?_
  refine jr_iast hF dX7_add_19 (q := 20) rfl rfl (by omega) ?_
  refine jr_aload_n hF dX7_add_20 (q := 21) rfl rfl ?_
  refine jr_dup hF dX7_add_21 (q := 22) rfl rfl ?_
  refine jr_getI (ci := 7) (j := 0) hF 0 rfl dX7_add_22 (q := 25) rfl rfl rfl fl7_18 ?_
  rw [up_ne (show 63 ≠ 65 by decide), up_ne (show 63 ≠ 64 by decide), c1]
  refine jr_iconst hF dX7_add_25 (q := 26) rfl (by decide) ?_
  refine jr_iadd hF dX7_add_26 (q := 27) rfl (by omega) ?_
  refine jr_putI (ci := 7) (j := 0) hF 0 rfl dX7_add_27 (q := 30) rfl rfl rfl fp7_18 ?_
  refine jr_retV hF hR dX7_add_30 rfl ⟨⟨by simp [up], fun j hj => ⟨?_, ?_⟩⟩, fun k h1 h2 h3 => by rw [up_ne h1, up_ne h3, up_ne h2]⟩
  · rw [up_ne (by decide), up_ne (by decide), up_nat]
    unfold st1
    split
    · rfl
    · exact (c2 j (by omega)).1
  · rw [up_ne (by decide), up_nat, up_ne (by decide)]
    unfold st1
    split
    · rfl
    · exact (c2 j (by omega)).2
def fitB (w : GY) (nl : Nat) (M Y : Nat → Int) (n : Nat) : Bool := match n with
  | 0 => true
  | n + 1 => fitB w nl M Y n && decide (mostF (fun i => decide (w.1 i = M n)) w.2 nl = Y n)
theorem fitB_false {w : GY} {nl : Nat} {M Y : Nat → Int} {k : Nat} (h : fitB w nl M Y k = false) : ∀ n, k ≤ n → fitB w nl M Y n = false := by
  intro n
  induction n with
  | zero =>
    intro hk
    have e : k = 0 := by omega
    subst e
    exact h
  | succ n ih =>
    intro hk
    by_cases e : k = n + 1
    · subst e; exact h
    · rw [fitB, ih (by omega)]
      rfl
set_option maxRecDepth 100000 in
theorem c_fit (σ : Sg) (pl : Nat) (hpl : pl = 4 ∨ pl = 14) (nl : Nat) (hnl : σ pl 1 = (nl : Int)) (h5 : nl ≤ 5) (w : GY) (hH : HR σ w.1 w.2) (n : Nat) (hn : n ≤ 6) (M Y : Nat → Int) (hC : SE σ n M Y) : RI mX7_fit 2 [vR 63, vR pl, vR 24] σ (fun z σ' => z = (if fitB w nl M Y n = true then 1 else 0) ∧ σ = σ') := by
  obtain ⟨c1, c2⟩ := hC
  refine mkRun (by decide +kernel) (Nat.le_of_ble_eq_true rfl) (fun X hF hR => ?_)
  refine jr_iconst hF dX7_fit_0 (q := 1) rfl (by decide) ?_
  refine jr_istore_n hF dX7_fit_1 (q := 2) rfl (by decide) rfl ?_
  refine gs_loop (α := Unit) (fun k _ => [some (vR 63), some (vR pl), some (vR 24), some (vI (k : Int))]) (fun _ => σ) (fun k _ => fitB w nl M Y k = true) n (fun _ h => ?_) (fun k _ hk h ih => ?_) () rfl
  · refine jr_iload_n hF dX7_fit_2 (q := 3) rfl rfl ?_
    refine jr_aload_n hF dX7_fit_3 (q := 4) rfl rfl ?_
    refine jr_getI (ci := 7) (j := 0) hF 0 rfl dX7_fit_4 (q := 7) rfl rfl rfl fl7_18 ?_
    refine jr_icmp_ge hF dX7_fit_7 (q := 10) rfl 38 (by decide) (fun h1 => ?_) (fun h1 => ?_)
    · refine jr_iconst hF dX7_fit_38 (q := 39) rfl (by decide) ?_
      refine jr_retZ hF hR dX7_fit_39 rfl (by first | exact Or.inl rfl | exact Or.inr rfl | omega) ⟨by rw [if_pos h], rfl⟩
    · omega
  · obtain ⟨e1, e2⟩ := c2 k hk
    refine jr_iload_n hF dX7_fit_2 (q := 3) rfl rfl ?_
    refine jr_aload_n hF dX7_fit_3 (q := 4) rfl rfl ?_
    refine jr_getI (ci := 7) (j := 0) hF 0 rfl dX7_fit_4 (q := 7) rfl rfl rfl fl7_18 ?_
    refine jr_icmp_ge hF dX7_fit_7 (q := 10) rfl 38 (by decide) (fun h1 => ?_) (fun h1 => ?_)
    · omega
    · refine jr_aload_n hF dX7_fit_10 (q := 11) rfl rfl ?_
      refine jr_aload_n hF dX7_fit_11 (q := 12) rfl rfl ?_
      refine jr_aload_n hF dX7_fit_12 (q := 13) rfl rfl ?_
      refine jr_getR (ci := 7) (j := 1) hF dX7_fit_13 (q := 16) rfl rfl rfl fl7_9 ?_
      refine jr_iload_n hF dX7_fit_16 (q := 17) rfl rfl ?_
      refine jr_iald hF dX7_fit_17 (q := 18) rfl rfl (by omega) ?_
      rw [e1]
      refine jr_cV2I hF (c_mostYearsOf σ pl hpl nl hnl h5 w hH (M k)) dX7_fit_18 (q := 21) rfl lk7_22 vX2_mostYearsOf kX2_mostYearsOf rfl rfl rfl (by decide) (Nat.le_of_ble_eq_true rfl) (fun z σ1 hz => ?_)
      obtain ⟨rfl, rfl⟩ := hz
      refine jr_aload_n hF dX7_fit_21 (q := 22) rfl rfl ?_
      refine jr_getR (ci := 7) (j := 2) hF dX7_fit_22 (q := 25) rfl rfl rfl fl7_15 ?_
      refine jr_iload_n hF dX7_fit_25 (q := 26) rfl rfl ?_
      refine jr_iald hF dX7_fit_26 (q := 27) rfl rfl (by omega) ?_
      rw [e2]
      refine jr_icmp_eq hF dX7_fit_27 (q := 30) rfl 32 (by decide) (fun h2 => ?_) (fun h2 => ?_)
      · refine jr_iinc hF dX7_fit_32 (q := 35) rfl (by decide) rfl rfl (by omega) ?_
        refine jr_goto hF dX7_fit_35 2 (by decide) ?_
        exact ih () (by rw [fitB, h, decide_eq_true h2]; rfl)
      · refine jr_iconst hF dX7_fit_30 (q := 31) rfl (by decide) ?_
        have hf : fitB w nl M Y (k + 1) = false := by rw [fitB, decide_eq_false h2, Bool.and_false]
        refine jr_retZ hF hR dX7_fit_31 rfl (by first | exact Or.inl rfl | exact Or.inr rfl | omega) ⟨by rw [fitB_false hf n (by omega)]; rfl, rfl⟩
/-- the byte that the class puts down -/
def bv (v : Int) (k : Nat) : Int := (Int8.ofInt (Int32.ofInt (Int64.ofInt v >>> ((Int32.ofInt (8 * (k : Int))).toInt64 &&& 63)).toInt).toInt).toInt
theorem i8_le (x : Int8) : -128 ≤ x.toInt ∧ x.toInt ≤ 127 := ⟨by have := x.le_toInt; omega, by have := x.toInt_lt; omega⟩
def Bap (B : Nat → Int) (len n : Nat) (v : Int) : Nat → Int := fun k => if k < len then B k else bv v (n - 1 - (k - len))
set_option maxRecDepth 100000 in
theorem c_append (σ : Sg) (B : Nat → Int) (len : Nat) (hT : TxC σ B len) (n : Nat) (hn : 1 ≤ n ∧ n ≤ 8) (hl : len + n ≤ 300) (v : Int) : RV mX8_append 1 [vR 1, vI (n : Int), vL v] σ (fun σ' => TxC σ' (Bap B len n v) (len + n) ∧ ∀ k, k ≠ 1 → k ≠ 2 → σ' k = σ k) := by
  obtain ⟨t1, t2, t3⟩ := hT
  refine mkRun (by decide +kernel) (Nat.le_of_ble_eq_true rfl) (fun X hF hR => ?_)
  refine jr_iload_n hF dX8_append_0 (q := 1) rfl rfl ?_
  refine jr_iconst hF dX8_append_1 (q := 2) rfl (by decide) ?_
  refine jr_isub hF dX8_append_2 (q := 3) rfl (by omega) ?_
  refine jr_istore hF dX8_append_3 (q := 5) rfl (by decide) rfl ?_
  rw [show (n : Int) - 1 = (n : Int) - 1 - ((0 : Nat) : Int) by omega]
  refine gs_loop (α := Sg) (fun j _ => [some (vR 1), some (vI (n : Int)), some (vL v), none, some (vI ((n : Int) - 1 - (j : Int)))]) (fun σ' => σ') (fun j σ' => σ' 1 0 = ((len + j : Nat) : Int) ∧ (∀ k : Nat, k < len + j → σ' 2 (k : Int) = Bap B len n v k) ∧ ∀ k, k ≠ 1 → k ≠ 2 → σ' k = σ k) n (fun σ' h => ?_) (fun j σ' hj h ih => ?_) σ ⟨t1, fun k hk => by unfold Bap; rw [if_pos (by omega)]; exact t3 k (by omega), fun _ _ _ => rfl⟩
  · obtain ⟨i1, i2, i3⟩ := h
    refine jr_iload hF dX8_append_5 (q := 7) rfl rfl ?_
    refine jr_if_lt hF dX8_append_7 (q := 10) rfl 54 (by decide) (fun h1 => ?_) (fun h1 => ?_)
    · refine jr_retV hF hR dX8_append_54 rfl ⟨⟨i1, by omega, i2⟩, i3⟩
    · omega
  · obtain ⟨i1, i2, i3⟩ := h
    refine jr_iload hF dX8_append_5 (q := 7) rfl rfl ?_
    refine jr_if_lt hF dX8_append_7 (q := 10) rfl 54 (by decide) (fun h1 => ?_) (fun h1 => ?_)
    · omega
    · refine jr_aload_n hF dX8_append_10 (q := 11) rfl rfl ?_
      refine jr_getI (ci := 8) (j := 0) hF 0 rfl dX8_append_11 (q := 14) rfl rfl rfl fl8_19 ?_
      refine jr_sipush hF dX8_append_14 (q := 17) rfl (by decide) (by decide +kernel) ?_
      rw [i1]
      refine jr_icmp_ge hF dX8_append_17 (q := 20) rfl 54 (by decide) (fun h2 => ?_) (fun h2 => ?_)
      · omega
      · refine jr_aload_n hF dX8_append_20 (q := 21) rfl rfl ?_
        refine jr_getR (ci := 8) (j := 1) hF dX8_append_21 (q := 24) rfl rfl rfl fl8_9 ?_
        refine jr_aload_n hF dX8_append_24 (q := 25) rfl rfl ?_
        refine jr_getI (ci := 8) (j := 0) hF 0 rfl dX8_append_25 (q := 28) rfl rfl rfl fl8_19 ?_
        rw [i1]
        refine jr_lload_n hF dX8_append_28 (q := 29) rfl rfl ?_
        refine jr_bipush hF dX8_append_29 (q := 31) rfl (by decide) (by decide +kernel) ?_
        refine jr_iload hF dX8_append_31 (q := 33) rfl rfl ?_
        refine jr_imul hF dX8_append_33 (q := 34) rfl (by omega) ?_
        refine jr_lshr hF dX8_append_34 (q := 35) rfl ?_
        rw [show (8 : Int) * ((n : Int) - 1 - (j : Int)) = 8 * ((n - 1 - j : Nat) : Int) by omega]
        refine jr_l2iw hF dX8_append_35 (q := 36) rfl ?_
        refine jr_i2b hF dX8_append_36 (q := 37) rfl ?_
        have eb : (Int8.ofInt (Int32.ofInt (Int64.ofInt v >>> ((Int32.ofInt (8 * ((n - 1 - j : Nat) : Int))).toInt64 &&& 63)).toInt).toInt).toInt = bv v (n - 1 - j) := rfl
        rw [eb]
        have hb := i8_le (Int8.ofInt (Int32.ofInt (Int64.ofInt v >>> ((Int32.ofInt (8 * ((n - 1 - j : Nat) : Int))).toInt64 &&& 63)).toInt).toInt)
        rw [eb] at hb
        refine jr_bast hF dX8_append_37 (q := 38) rfl rfl (by omega) (by omega) ?_
        refine jr_aload_n hF dX8_append_38 (q := 39) rfl rfl ?_
        refine jr_dup hF dX8_append_39 (q := 40) rfl rfl ?_
        refine jr_getI (ci := 8) (j := 0) hF 0 rfl dX8_append_40 (q := 43) rfl rfl rfl fl8_19 ?_
        rw [up_ne (show 1 ≠ 2 by decide), i1]
        refine jr_iconst hF dX8_append_43 (q := 44) rfl (by decide) ?_
        refine jr_iadd hF dX8_append_44 (q := 45) rfl (by omega) ?_
        refine jr_putI (ci := 8) (j := 0) hF 0 rfl dX8_append_45 (q := 48) rfl rfl rfl fp8_19 ?_
        refine jr_iinc hF dX8_append_48 (q := 51) rfl (by decide) rfl rfl (by omega) ?_
        refine jr_goto hF dX8_append_51 5 (by decide) ?_
        rw [show (n : Int) - 1 - (j : Int) + -1 = (n : Int) - 1 - ((j + 1 : Nat) : Int) by omega]
        refine ih _ ⟨?_, fun k hk => ?_, fun k h3 h4 => by rw [up_ne h3, up_ne h4]; exact i3 k h3 h4⟩
        · simp [up]; omega
        · rw [up_ne (by decide), up_nat]
          by_cases e : k = len + j
          · subst e
            rw [if_pos rfl]
            unfold Bap
            rw [if_neg (by omega), show n - 1 - (len + j - len) = n - 1 - j by omega]
          · rw [if_neg e]
            exact i2 k (by omega)

