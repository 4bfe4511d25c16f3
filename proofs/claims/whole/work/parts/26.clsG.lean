/-! ===== Plan.drawWants; the text and how it is read ===== -/
def f_x (z : Int) (i m : Nat) : Int := 7919 * z + 6151 * (i : Int) + 3571 * (m : Int) + 1
def f_draw (z : Int) (i m : Nat) : Int := f_x z i m * f_x z i m % 65521 % 11
theorem f_x_le {z : Int} {i m : Nat} (hz : 0 ≤ z ∧ z ≤ 9999) (hi : i < 5) (hm : m < 3) : 0 ≤ f_x z i m ∧ f_x z i m ≤ 80000000 := by
  unfold f_x
  omega
theorem sq_le {x : Int} (h : 0 ≤ x ∧ x ≤ 80000000) : 0 ≤ x * x ∧ x * x ≤ 6400000000000000 := by
  have h1 : x * x ≤ 80000000 * 80000000 := Int.mul_le_mul h.2 h.2 h.1 (by decide)
  have h2 : 0 ≤ x * x := Int.mul_nonneg h.1 h.1
  omega
theorem f_draw_le (z : Int) (i m : Nat) : 0 ≤ f_draw z i m ∧ f_draw z i m ≤ 10 := by
  unfold f_draw
  omega
def f_drawn (F : FD) (z : Int) : FD := (f_nm F, f_nl F, f_rm F, f_kd F, f_draw z, f_lm F, f_ca F, f_sp F)
theorem okF_drawn {F : FD} (ok : okF F) (z : Int) : okF (f_drawn F z) := ⟨ok.1, ok.2.1, ok.2.2.1, ok.2.2.2.1, fun i m _ _ => f_draw_le z i m, ok.2.2.2.2.2⟩
set_option maxRecDepth 100000 in
theorem c_drawWants (σ : Sg) (pl : Nat) (hpl : pl = 4 ∨ pl = 14) (F : FD) (hC : RepC σ pl F) (ok : okF F) (z : Int) (hz : 0 ≤ z ∧ z ≤ 9999) : RV mX4_drawWants 1 [vR pl, vI z] σ (fun σ' => RepC σ' pl (f_drawn F z) ∧ ∀ k, k < pl + 4 ∨ pl + 8 < k → σ' k = σ k) := by
  have h3 := ok.1
  have h5 := ok.2.1
  obtain ⟨q1, q2, q3, q4, q5, q6, q7, q8⟩ := hC
  refine mkRun (by decide +kernel) (Nat.le_of_ble_eq_true rfl) (fun X hF hR => ?_)
  refine jr_iconst hF dX4_drawWants_0 (q := 1) rfl (by decide) ?_
  refine jr_istore_n hF dX4_drawWants_1 (q := 2) rfl (by decide) rfl ?_
  refine gs_loop (α := Sg) (fun k _ => [some (vR pl), some (vI z), some (vI (k : Int)), none, none, none]) (fun σ' => σ') (fun i σ' => (∀ k, k < pl + 4 ∨ pl + 8 < k → σ' k = σ k) ∧ ∀ j m : Nat, j < i → m < f_nm F → σ' (pl + 4 + j) (m : Int) = f_draw z j m) (f_nl F) (fun σ' h => ?_) (fun i σ' hi h ih => ?_) σ ⟨fun _ _ => rfl, fun j m hj => by omega⟩
  · obtain ⟨a1, a2⟩ := h
    have b2 : σ' pl 1 = (f_nl F : Int) := by rw [a1 pl (by omega)]; exact q2
    refine jr_iload_n hF dX4_drawWants_2 (q := 3) rfl rfl ?_
    refine jr_aload_n hF dX4_drawWants_3 (q := 4) rfl rfl ?_
    refine jr_getI (ci := 4) (j := 1) hF 1 rfl dX4_drawWants_4 (q := 7) rfl (by first | rfl | exact L_pl hpl | exact L_rm hpl | exact L_kd hpl | exact L_lw hpl | exact L_wo hpl | exact L_wr hpl (by omega) | exact L_pl hp2 | exact L_rm hp2 | exact L_kd hp2 | exact L_lw hp2 | exact L_wo hp2 | exact L_wr hp2 (by omega)) rfl fl4_30 ?_
    refine jr_icmp_ge hF dX4_drawWants_7 (q := 10) rfl 78 (by decide) (fun hc => ?_) (fun hc => ?_)
    · refine jr_retV hF hR dX4_drawWants_78 rfl ⟨⟨?_, b2, fun m hm => ?_, fun i hi => ?_, fun i m hi hm => ?_, fun i hi => ?_, ?_, ?_⟩, a1⟩
      · rw [a1 pl (by omega)]; exact q1
      · rw [a1 _ (by omega)]; exact q3 m hm
      · rw [a1 _ (by omega)]; exact q4 i hi
      · exact a2 i m hi hm
      · rw [a1 _ (by omega)]; exact q6 i hi
      · rw [a1 _ (by omega)]; exact q7
      · rw [a1 _ (by omega)]; exact q8
    · omega
  · obtain ⟨a1, a2⟩ := h
    have b2 : σ' pl 1 = (f_nl F : Int) := by rw [a1 pl (by omega)]; exact q2
    refine jr_iload_n hF dX4_drawWants_2 (q := 3) rfl rfl ?_
    refine jr_aload_n hF dX4_drawWants_3 (q := 4) rfl rfl ?_
    refine jr_getI (ci := 4) (j := 1) hF 1 rfl dX4_drawWants_4 (q := 7) rfl (by first | rfl | exact L_pl hpl | exact L_rm hpl | exact L_kd hpl | exact L_lw hpl | exact L_wo hpl | exact L_wr hpl (by omega) | exact L_pl hp2 | exact L_rm hp2 | exact L_kd hp2 | exact L_lw hp2 | exact L_wo hp2 | exact L_wr hp2 (by omega)) rfl fl4_30 ?_
    refine jr_icmp_ge hF dX4_drawWants_7 (q := 10) rfl 78 (by decide) (fun hc => ?_) (fun hc => ?_)
    · omega
    · refine jr_iconst hF dX4_drawWants_10 (q := 11) rfl (by decide) ?_
      refine jr_istore_n hF dX4_drawWants_11 (q := 12) rfl (by decide) rfl ?_
      refine gs_loop (α := Sg) (fun k _ => [some (vR pl), some (vI z), some (vI (i : Int)), some (vI (k : Int)), none, none]) (fun σ' => σ') (fun m σ2 => (∀ k, k ≠ pl + 4 + i → σ2 k = σ' k) ∧ ∀ j : Nat, j < m → σ2 (pl + 4 + i) (j : Int) = f_draw z i j) (f_nm F) (fun σ2 h2 => ?_) (fun m σ2 hm h2 ih2 => ?_) σ' ⟨fun _ _ => rfl, fun j hj => by omega⟩
      · obtain ⟨c1, c2⟩ := h2
        have d1 : σ2 pl 0 = (f_nm F : Int) := by rw [c1 pl (by omega), a1 pl (by omega)]; exact q1
        refine jr_iload_n hF dX4_drawWants_12 (q := 13) rfl rfl ?_
        refine jr_aload_n hF dX4_drawWants_13 (q := 14) rfl rfl ?_
        refine jr_getI (ci := 4) (j := 0) hF 0 rfl dX4_drawWants_14 (q := 17) rfl (by first | rfl | exact L_pl hpl | exact L_rm hpl | exact L_kd hpl | exact L_lw hpl | exact L_wo hpl | exact L_wr hpl (by omega) | exact L_pl hp2 | exact L_rm hp2 | exact L_kd hp2 | exact L_lw hp2 | exact L_wo hp2 | exact L_wr hp2 (by omega)) rfl fl4_26 ?_
        refine jr_icmp_ge hF dX4_drawWants_17 (q := 20) rfl 72 (by decide) (fun hd => ?_) (fun hd => ?_)
        · refine jr_fg 3 ?_
          refine jr_iinc hF dX4_drawWants_72 (q := 75) rfl (by decide) rfl rfl (by omega) ?_
          refine jr_goto hF dX4_drawWants_75 2 (by decide) ?_
          refine ih σ2 ⟨fun k hk => by rw [c1 k (by omega)]; exact a1 k hk, fun j m hj hm => ?_⟩
          by_cases ej : j = i
          · subst ej
            exact c2 m hm
          · rw [c1 _ (by omega)]
            exact a2 j m (by omega) hm
        · omega
      · obtain ⟨c1, c2⟩ := h2
        have d1 : σ2 pl 0 = (f_nm F : Int) := by rw [c1 pl (by omega), a1 pl (by omega)]; exact q1
        have hx := f_x_le hz (show i < 5 by omega) (show m < 3 by omega)
        have hs := sq_le hx
        have hdw := f_draw_le z i m
        refine jr_iload_n hF dX4_drawWants_12 (q := 13) rfl rfl ?_
        refine jr_aload_n hF dX4_drawWants_13 (q := 14) rfl rfl ?_
        refine jr_getI (ci := 4) (j := 0) hF 0 rfl dX4_drawWants_14 (q := 17) rfl (by first | rfl | exact L_pl hpl | exact L_rm hpl | exact L_kd hpl | exact L_lw hpl | exact L_wo hpl | exact L_wr hpl (by omega) | exact L_pl hp2 | exact L_rm hp2 | exact L_kd hp2 | exact L_lw hp2 | exact L_wo hp2 | exact L_wr hp2 (by omega)) rfl fl4_26 ?_
        refine jr_icmp_ge hF dX4_drawWants_17 (q := 20) rfl 72 (by decide) (fun hd => ?_) (fun hd => ?_)
        · omega
        · refine jr_ldc2 hF 7919 dX4_drawWants_20 (q := 23) rfl kl4_65 (by decide) (by decide +kernel) ?_
          refine jr_iload_n hF dX4_drawWants_23 (q := 24) rfl rfl ?_
          refine jr_i2l hF dX4_drawWants_24 (q := 25) rfl ?_
          refine jr_lmul hF dX4_drawWants_25 (q := 26) rfl (by omega) ?_
          refine jr_ldc2 hF 6151 dX4_drawWants_26 (q := 29) rfl kl4_67 (by decide) (by decide +kernel) ?_
          refine jr_iload_n hF dX4_drawWants_29 (q := 30) rfl rfl ?_
          refine jr_i2l hF dX4_drawWants_30 (q := 31) rfl ?_
          refine jr_lmul hF dX4_drawWants_31 (q := 32) rfl (by omega) ?_
          refine jr_ladd hF dX4_drawWants_32 (q := 33) rfl (by omega) ?_
          refine jr_ldc2 hF 3571 dX4_drawWants_33 (q := 36) rfl kl4_69 (by decide) (by decide +kernel) ?_
          refine jr_iload_n hF dX4_drawWants_36 (q := 37) rfl rfl ?_
          refine jr_i2l hF dX4_drawWants_37 (q := 38) rfl ?_
          refine jr_lmul hF dX4_drawWants_38 (q := 39) rfl (by omega) ?_
          refine jr_ladd hF dX4_drawWants_39 (q := 40) rfl (by omega) ?_
          refine jr_lconst hF 1 dX4_drawWants_40 (q := 41) rfl (by decide) (by decide +kernel) ?_
          refine jr_ladd hF dX4_drawWants_41 (q := 42) rfl (by omega) ?_
          have ex : 7919 * z + 6151 * (i : Int) + 3571 * (m : Int) + 1 = f_x z i m := rfl
          rw [ex]
          refine jr_lstore hF dX4_drawWants_42 (q := 44) rfl (by decide) rfl ?_
          refine jr_aload_n hF dX4_drawWants_44 (q := 45) rfl rfl ?_
          refine jr_getR (ci := 4) (j := 4) hF dX4_drawWants_45 (q := 48) rfl (by first | rfl | exact L_pl hpl | exact L_rm hpl | exact L_kd hpl | exact L_lw hpl | exact L_wo hpl | exact L_wr hpl (by omega) | exact L_pl hp2 | exact L_rm hp2 | exact L_kd hp2 | exact L_lw hp2 | exact L_wo hp2 | exact L_wr hp2 (by omega)) rfl fl4_20 ?_
          refine jr_iload_n hF dX4_drawWants_48 (q := 49) rfl rfl ?_
          refine jr_aald hF dX4_drawWants_49 (q := 50) rfl (by first | rfl | exact L_pl hpl | exact L_rm hpl | exact L_kd hpl | exact L_lw hpl | exact L_wo hpl | exact L_wr hpl (by omega) | exact L_pl hp2 | exact L_rm hp2 | exact L_kd hp2 | exact L_lw hp2 | exact L_wo hp2 | exact L_wr hp2 (by omega)) (by omega) ?_
          rw [tn]
          refine jr_iload_n hF dX4_drawWants_50 (q := 51) rfl rfl ?_
          refine jr_lload hF dX4_drawWants_51 (q := 53) rfl rfl ?_
          refine jr_lload hF dX4_drawWants_53 (q := 55) rfl rfl ?_
          refine jr_lmul hF dX4_drawWants_55 (q := 56) rfl (by omega) ?_
          refine jr_ldc2 hF 65521 dX4_drawWants_56 (q := 59) rfl kl4_71 (by decide) (by decide +kernel) ?_
          refine jr_lrem hF dX4_drawWants_59 (q := 60) rfl (by omega) (by omega) ?_
          refine jr_ldc2 hF 11 dX4_drawWants_60 (q := 63) rfl kl4_73 (by decide) (by decide +kernel) ?_
          refine jr_lrem hF dX4_drawWants_63 (q := 64) rfl (by omega) (by omega) ?_
          have ed : f_x z i m * f_x z i m % 65521 % 11 = f_draw z i m := rfl
          rw [ed]
          refine jr_l2i hF dX4_drawWants_64 (q := 65) rfl (by omega) ?_
          refine jr_iast hF dX4_drawWants_65 (q := 66) rfl (by first | rfl | exact L_pl hpl | exact L_rm hpl | exact L_kd hpl | exact L_lw hpl | exact L_wo hpl | exact L_wr hpl (by omega) | exact L_pl hp2 | exact L_rm hp2 | exact L_kd hp2 | exact L_lw hp2 | exact L_wo hp2 | exact L_wr hp2 (by omega)) (by omega) ?_
          refine jr_fg 4 ?_
          refine jr_iinc hF dX4_drawWants_66 (q := 69) rfl (by decide) rfl rfl (by omega) ?_
          refine jr_goto hF dX4_drawWants_69 12 (by decide) ?_
          refine ih2 _ ⟨fun k hk => by rw [up_ne hk]; exact c1 k hk, fun j hj => ?_⟩
          rw [up_nat]
          by_cases ej : j = m
          · subst ej
            rw [if_pos rfl]
          · rw [if_neg ej]
            exact c2 j (by omega)
/-- the text: its bytes (-128 to 127), how many -/
def TxC (σ : Sg) (B : Nat → Int) (len : Nat) : Prop := σ 1 0 = (len : Int) ∧ len ≤ 300 ∧ ∀ k : Nat, k < len → σ 2 (k : Int) = B k
def dg (B : Nat → Int) (len k : Nat) : Prop := k < len ∧ 48 ≤ B k ∧ B k ≤ 57
def sg (B : Nat → Int) (len k : Nat) (v : Int) : Prop := k < len ∧ B k = v
def dgb (B : Nat → Int) (len k : Nat) : Bool := decide (k < len ∧ 48 ≤ B k ∧ B k ≤ 57)
def sgb (B : Nat → Int) (len k : Nat) (v : Int) : Bool := decide (k < len ∧ B k = v)
def nfig (B : Nat → Int) (len k : Nat) : Nat := if dgb B len k = true then (if dgb B len (k + 1) = true then 2 else 1) else 0
def nval (B : Nat → Int) (k f : Nat) : Int := if f = 2 then 10 * (B k - 48) + (B (k + 1) - 48) else B k - 48
/-- r numbers more, of many; the place behind them, and what they are -/
def rdN (B : Nat → Int) (len many : Nat) (r : Nat) (pl : Nat) (a : Nat → Int) : Option (Nat × (Nat → Int)) := match r with
  | 0 => some (pl, a)
  | r + 1 => if nfig B len pl = 0 then none else if sgb B len (pl + nfig B len pl) (if r = 0 then 59 else 44) = true then rdN B len many r (pl + nfig B len pl + 1) (st1 a (many - (r + 1)) (nval B pl (nfig B len pl))) else none
def nOf (c : Int) : Nat := if c = 109 then 1 else if c = 108 then 2 else if c = 119 then 3 else if c = 99 then 1 else if c = 115 then 1 else 0
def tellF (F : FD) (c : Int) (a : Nat → Int) : Option FD := if c = 109 then t_m F (a 0) else if c = 108 then t_l F (a 0) (a 1) else if c = 119 then t_w F (a 0) (a 1) (a 2) else if c = 99 then t_c F (a 0) else if c = 115 then t_s F (a 0) else none
def itemF (B : Nat → Int) (len pl : Nat) (F : FD) (a : Nat → Int) : Option (Nat × FD × (Nat → Int)) := match rdN B len (nOf (B pl)) (nOf (B pl)) (pl + 1) a with
  | none => none
  | some (q, b) => match tellF F (B pl) b with
    | none => none
    | some F' => some (q, F', b)
def rdAll (B : Nat → Int) (len : Nat) (n : Nat) (pl : Nat) (F : FD) (a : Nat → Int) : Int × FD := match n with
  | 0 => (-4, F)
  | n + 1 => if len ≤ pl then (-4, F) else match itemF B len pl F a with
    | none => ((pl : Int), F)
    | some (q, F', b) => rdAll B len n q F' b
set_option maxRecDepth 100000 in
theorem c_isFigureAt (σ : Sg) (B : Nat → Int) (len : Nat) (hT : TxC σ B len) (k : Nat) : RI mX8_isFigureAt 1 [vR 1, vI (k : Int)] σ (fun z σ' => z = (if dgb B len k = true then 1 else 0) ∧ σ = σ') := by
  obtain ⟨t1, t2, t3⟩ := hT
  refine mkRun (by decide +kernel) (Nat.le_of_ble_eq_true rfl) (fun X hF hR => ?_)
  refine jr_iload_n hF dX8_isFigureAt_0 (q := 1) rfl rfl ?_
  refine jr_aload_n hF dX8_isFigureAt_1 (q := 2) rfl rfl ?_
  refine jr_getI (ci := 8) (j := 0) hF 0 rfl dX8_isFigureAt_2 (q := 5) rfl rfl rfl fl8_19 ?_
  refine jr_icmp_ge hF dX8_isFigureAt_5 (q := 8) rfl 34 (by decide) (fun h1 => ?_) (fun h1 => ?_)
  · refine jr_iconst hF dX8_isFigureAt_34 (q := 35) rfl (by decide) ?_
    refine jr_retZ hF hR dX8_isFigureAt_35 rfl (by first | exact Or.inl rfl | exact Or.inr rfl | omega) ⟨by rw [if_neg]; unfold dgb; rw [decide_eq_false (by omega)]; decide, rfl⟩
  · have e := t3 k (by omega)
    refine jr_aload_n hF dX8_isFigureAt_8 (q := 9) rfl rfl ?_
    refine jr_getR (ci := 8) (j := 1) hF dX8_isFigureAt_9 (q := 12) rfl rfl rfl fl8_9 ?_
    refine jr_iload_n hF dX8_isFigureAt_12 (q := 13) rfl rfl ?_
    refine jr_bald hF dX8_isFigureAt_13 (q := 14) rfl rfl (by omega) ?_
    rw [e]
    refine jr_bipush hF dX8_isFigureAt_14 (q := 16) rfl (by decide) (by decide +kernel) ?_
    refine jr_icmp_lt hF dX8_isFigureAt_16 (q := 19) rfl 34 (by decide) (fun h2 => ?_) (fun h2 => ?_)
    · refine jr_iconst hF dX8_isFigureAt_34 (q := 35) rfl (by decide) ?_
      refine jr_retZ hF hR dX8_isFigureAt_35 rfl (by first | exact Or.inl rfl | exact Or.inr rfl | omega) ⟨by rw [if_neg]; unfold dgb; rw [decide_eq_false (by omega)]; decide, rfl⟩
    · refine jr_aload_n hF dX8_isFigureAt_19 (q := 20) rfl rfl ?_
      refine jr_getR (ci := 8) (j := 1) hF dX8_isFigureAt_20 (q := 23) rfl rfl rfl fl8_9 ?_
      refine jr_iload_n hF dX8_isFigureAt_23 (q := 24) rfl rfl ?_
      refine jr_bald hF dX8_isFigureAt_24 (q := 25) rfl rfl (by omega) ?_
      rw [e]
      refine jr_bipush hF dX8_isFigureAt_25 (q := 27) rfl (by decide) (by decide +kernel) ?_
      refine jr_icmp_gt hF dX8_isFigureAt_27 (q := 30) rfl 34 (by decide) (fun h3 => ?_) (fun h3 => ?_)
      · refine jr_iconst hF dX8_isFigureAt_34 (q := 35) rfl (by decide) ?_
        refine jr_retZ hF hR dX8_isFigureAt_35 rfl (by first | exact Or.inl rfl | exact Or.inr rfl | omega) ⟨by rw [if_neg]; unfold dgb; rw [decide_eq_false (by omega)]; decide, rfl⟩
      · refine jr_iconst hF dX8_isFigureAt_30 (q := 31) rfl (by decide) ?_
        refine jr_goto hF dX8_isFigureAt_31 35 (by decide) ?_
        refine jr_retZ hF hR dX8_isFigureAt_35 rfl (by first | exact Or.inl rfl | exact Or.inr rfl | omega) ⟨by rw [if_pos]; unfold dgb; exact decide_eq_true (by omega), rfl⟩
set_option maxRecDepth 100000 in
theorem c_isSignAt (σ : Sg) (B : Nat → Int) (len : Nat) (hT : TxC σ B len) (k : Nat) (v : Int) : RI mX8_isSignAt 1 [vR 1, vI (k : Int), vI v] σ (fun z σ' => z = (if sgb B len k v = true then 1 else 0) ∧ σ = σ') := by
  obtain ⟨t1, t2, t3⟩ := hT
  refine mkRun (by decide +kernel) (Nat.le_of_ble_eq_true rfl) (fun X hF hR => ?_)
  refine jr_iload_n hF dX8_isSignAt_0 (q := 1) rfl rfl ?_
  refine jr_aload_n hF dX8_isSignAt_1 (q := 2) rfl rfl ?_
  refine jr_getI (ci := 8) (j := 0) hF 0 rfl dX8_isSignAt_2 (q := 5) rfl rfl rfl fl8_19 ?_
  refine jr_icmp_ge hF dX8_isSignAt_5 (q := 8) rfl 22 (by decide) (fun h1 => ?_) (fun h1 => ?_)
  · refine jr_iconst hF dX8_isSignAt_22 (q := 23) rfl (by decide) ?_
    refine jr_retZ hF hR dX8_isSignAt_23 rfl (by first | exact Or.inl rfl | exact Or.inr rfl | omega) ⟨by rw [if_neg]; unfold sgb; rw [decide_eq_false (by omega)]; decide, rfl⟩
  · have e := t3 k (by omega)
    refine jr_aload_n hF dX8_isSignAt_8 (q := 9) rfl rfl ?_
    refine jr_getR (ci := 8) (j := 1) hF dX8_isSignAt_9 (q := 12) rfl rfl rfl fl8_9 ?_
    refine jr_iload_n hF dX8_isSignAt_12 (q := 13) rfl rfl ?_
    refine jr_bald hF dX8_isSignAt_13 (q := 14) rfl rfl (by omega) ?_
    rw [e]
    refine jr_iload_n hF dX8_isSignAt_14 (q := 15) rfl rfl ?_
    refine jr_icmp_ne hF dX8_isSignAt_15 (q := 18) rfl 22 (by decide) (fun h2 => ?_) (fun h2 => ?_)
    · refine jr_iconst hF dX8_isSignAt_22 (q := 23) rfl (by decide) ?_
      refine jr_retZ hF hR dX8_isSignAt_23 rfl (by first | exact Or.inl rfl | exact Or.inr rfl | omega) ⟨by rw [if_neg]; unfold sgb; rw [decide_eq_false (by omega)]; decide, rfl⟩
    · refine jr_iconst hF dX8_isSignAt_18 (q := 19) rfl (by decide) ?_
      refine jr_goto hF dX8_isSignAt_19 23 (by decide) ?_
      refine jr_retZ hF hR dX8_isSignAt_23 rfl (by first | exact Or.inl rfl | exact Or.inr rfl | omega) ⟨by rw [if_pos]; unfold sgb; exact decide_eq_true (by omega), rfl⟩
theorem bi_1 {b : Bool} (h : (if b = true then (1 : Int) else 0) ≠ 0) : b = true := by
  cases b
  · exact absurd rfl h
  · rfl
theorem bi_0 {b : Bool} (h : (if b = true then (1 : Int) else 0) = 0) : b = false := by
  cases b
  · rfl
  · exact absurd h (by decide)
set_option maxRecDepth 100000 in
theorem c_figuresAt (σ : Sg) (B : Nat → Int) (len : Nat) (hT : TxC σ B len) (k : Nat) (hk : k ≤ 400) : RI mX8_figuresAt 2 [vR 1, vI (k : Int)] σ (fun z σ' => z = (nfig B len k : Int) ∧ σ = σ') := by
  refine mkRun (by decide +kernel) (Nat.le_of_ble_eq_true rfl) (fun X hF hR => ?_)
  refine jr_aload_n hF dX8_figuresAt_0 (q := 1) rfl rfl ?_
  refine jr_iload_n hF dX8_figuresAt_1 (q := 2) rfl rfl ?_
  refine jr_cV1I hF (c_isFigureAt σ B len hT k) dX8_figuresAt_2 (q := 5) rfl lk8_68 vX8_isFigureAt kX8_isFigureAt rfl rfl rfl (by decide) (Nat.le_of_ble_eq_true rfl) (fun z σ1 hz => ?_)
  obtain ⟨rfl, rfl⟩ := hz
  refine jr_if_ne hF dX8_figuresAt_5 (q := 8) rfl 10 (by decide) (fun h1 => ?_) (fun h1 => ?_)
  · have e1 := bi_1 h1
    refine jr_aload_n hF dX8_figuresAt_10 (q := 11) rfl rfl ?_
    refine jr_iload_n hF dX8_figuresAt_11 (q := 12) rfl rfl ?_
    refine jr_iconst hF dX8_figuresAt_12 (q := 13) rfl (by decide) ?_
    refine jr_iadd hF dX8_figuresAt_13 (q := 14) rfl (by omega) ?_
    refine jr_cV1I hF (c_isFigureAt σ B len hT (k + 1)) dX8_figuresAt_14 (q := 17) rfl lk8_68 vX8_isFigureAt kX8_isFigureAt rfl rfl rfl (by decide) (Nat.le_of_ble_eq_true rfl) (fun z σ1 hz => ?_)
    obtain ⟨rfl, rfl⟩ := hz
    refine jr_if_eq hF dX8_figuresAt_17 (q := 20) rfl 24 (by decide) (fun h2 => ?_) (fun h2 => ?_)
    · have e2 := bi_0 h2
      refine jr_iconst hF dX8_figuresAt_24 (q := 25) rfl (by decide) ?_
      refine jr_retI hF hR dX8_figuresAt_25 rfl ⟨by unfold nfig; rw [if_pos e1, e2]; rfl, rfl⟩
    · have e2 := bi_1 h2
      refine jr_iconst hF dX8_figuresAt_20 (q := 21) rfl (by decide) ?_
      refine jr_goto hF dX8_figuresAt_21 25 (by decide) ?_
      refine jr_retI hF hR dX8_figuresAt_25 rfl ⟨by unfold nfig; rw [if_pos e1, if_pos e2]; rfl, rfl⟩
  · have e1 := bi_0 h1
    refine jr_iconst hF dX8_figuresAt_8 (q := 9) rfl (by decide) ?_
    refine jr_retI hF hR dX8_figuresAt_9 rfl ⟨by unfold nfig; rw [e1]; rfl, rfl⟩
theorem nfig_spec {B : Nat → Int} {len k : Nat} : nfig B len k = 0 ∨ (nfig B len k = 1 ∧ k < len ∧ 48 ≤ B k ∧ B k ≤ 57) ∨ (nfig B len k = 2 ∧ k + 1 < len ∧ 48 ≤ B k ∧ B k ≤ 57 ∧ 48 ≤ B (k + 1) ∧ B (k + 1) ≤ 57) := by
  unfold nfig
  by_cases h1 : dgb B len k = true
  · have a1 : k < len ∧ 48 ≤ B k ∧ B k ≤ 57 := of_decide_eq_true h1
    rw [if_pos h1]
    by_cases h2 : dgb B len (k + 1) = true
    · have a2 : k + 1 < len ∧ 48 ≤ B (k + 1) ∧ B (k + 1) ≤ 57 := of_decide_eq_true h2
      rw [if_pos h2]
      omega
    · rw [if_neg h2]
      omega
  · rw [if_neg h1]
    omega
set_option maxRecDepth 100000 in
theorem c_numberAt (σ : Sg) (B : Nat → Int) (len : Nat) (hT : TxC σ B len) (k : Nat) (hf : nfig B len k ≠ 0) : RI mX8_numberAt 1 [vR 1, vI (k : Int), vI (nfig B len k : Int)] σ (fun z σ' => z = nval B k (nfig B len k) ∧ σ = σ') := by
  obtain ⟨t1, t2, t3⟩ := hT
  refine mkRun (by decide +kernel) (Nat.le_of_ble_eq_true rfl) (fun X hF hR => ?_)
  rcases nfig_spec (B := B) (len := len) (k := k) with h | ⟨h, a1, a2, a3⟩ | ⟨h, a1, a2, a3, a4, a5⟩
  · exact absurd h hf
  · rw [h] at hR ⊢
    have e := t3 k a1
    refine jr_iconst hF dX8_numberAt_0 (q := 1) rfl (by decide) ?_
    refine jr_istore_n hF dX8_numberAt_1 (q := 2) rfl (by decide) rfl ?_
    refine jr_iconst hF dX8_numberAt_2 (q := 3) rfl (by decide) ?_
    refine jr_istore hF dX8_numberAt_3 (q := 5) rfl (by decide) rfl ?_
    refine jr_iload hF dX8_numberAt_5 (q := 7) rfl rfl ?_
    refine jr_iload_n hF dX8_numberAt_7 (q := 8) rfl rfl ?_
    refine jr_icmp_ge hF dX8_numberAt_8 (q := 11) rfl 35 (by decide) (fun h1 => ?_) (fun h1 => ?_)
    · exact absurd h1 (by decide)
    · refine jr_bipush hF dX8_numberAt_11 (q := 13) rfl (by decide) (by decide +kernel) ?_
      refine jr_iload_n hF dX8_numberAt_13 (q := 14) rfl rfl ?_
      refine jr_imul hF dX8_numberAt_14 (q := 15) rfl (by omega) ?_
      refine jr_aload_n hF dX8_numberAt_15 (q := 16) rfl rfl ?_
      refine jr_getR (ci := 8) (j := 1) hF dX8_numberAt_16 (q := 19) rfl rfl rfl fl8_9 ?_
      refine jr_iload_n hF dX8_numberAt_19 (q := 20) rfl rfl ?_
      refine jr_iload hF dX8_numberAt_20 (q := 22) rfl rfl ?_
      refine jr_iadd hF dX8_numberAt_22 (q := 23) rfl (by omega) ?_
      refine jr_bald hF dX8_numberAt_23 (q := 24) rfl rfl (by omega) ?_
      rw [show (k : Int) + 0 = (k : Int) by omega, e]
      refine jr_iadd hF dX8_numberAt_24 (q := 25) rfl (by omega) ?_
      refine jr_bipush hF dX8_numberAt_25 (q := 27) rfl (by decide) (by decide +kernel) ?_
      refine jr_isub hF dX8_numberAt_27 (q := 28) rfl (by omega) ?_
      refine jr_istore_n hF dX8_numberAt_28 (q := 29) rfl (by decide) rfl ?_
      refine jr_iinc hF dX8_numberAt_29 (q := 32) rfl (by decide) rfl rfl (by omega) ?_
      refine jr_goto hF dX8_numberAt_32 5 (by decide) ?_
      refine jr_iload hF dX8_numberAt_5 (q := 7) rfl rfl ?_
      refine jr_iload_n hF dX8_numberAt_7 (q := 8) rfl rfl ?_
      refine jr_icmp_ge hF dX8_numberAt_8 (q := 11) rfl 35 (by decide) (fun h2 => ?_) (fun h2 => ?_)
      · refine jr_iload_n hF dX8_numberAt_35 (q := 36) rfl rfl ?_
        refine jr_retI hF hR dX8_numberAt_36 rfl ⟨by unfold nval; rw [if_neg (by decide)]; omega, rfl⟩
      · exact absurd h2 (by decide)
  · rw [h] at hR ⊢
    have e := t3 k (by omega)
    have e' := t3 (k + 1) a1
    refine jr_iconst hF dX8_numberAt_0 (q := 1) rfl (by decide) ?_
    refine jr_istore_n hF dX8_numberAt_1 (q := 2) rfl (by decide) rfl ?_
    refine jr_iconst hF dX8_numberAt_2 (q := 3) rfl (by decide) ?_
    refine jr_istore hF dX8_numberAt_3 (q := 5) rfl (by decide) rfl ?_
    refine jr_iload hF dX8_numberAt_5 (q := 7) rfl rfl ?_
    refine jr_iload_n hF dX8_numberAt_7 (q := 8) rfl rfl ?_
    refine jr_icmp_ge hF dX8_numberAt_8 (q := 11) rfl 35 (by decide) (fun h1 => ?_) (fun h1 => ?_)
    · exact absurd h1 (by decide)
    · refine jr_bipush hF dX8_numberAt_11 (q := 13) rfl (by decide) (by decide +kernel) ?_
      refine jr_iload_n hF dX8_numberAt_13 (q := 14) rfl rfl ?_
      refine jr_imul hF dX8_numberAt_14 (q := 15) rfl (by omega) ?_
      refine jr_aload_n hF dX8_numberAt_15 (q := 16) rfl rfl ?_
      refine jr_getR (ci := 8) (j := 1) hF dX8_numberAt_16 (q := 19) rfl rfl rfl fl8_9 ?_
      refine jr_iload_n hF dX8_numberAt_19 (q := 20) rfl rfl ?_
      refine jr_iload hF dX8_numberAt_20 (q := 22) rfl rfl ?_
      refine jr_iadd hF dX8_numberAt_22 (q := 23) rfl (by omega) ?_
      refine jr_bald hF dX8_numberAt_23 (q := 24) rfl rfl (by omega) ?_
      rw [show (k : Int) + 0 = (k : Int) by omega, e]
      refine jr_iadd hF dX8_numberAt_24 (q := 25) rfl (by omega) ?_
      refine jr_bipush hF dX8_numberAt_25 (q := 27) rfl (by decide) (by decide +kernel) ?_
      refine jr_isub hF dX8_numberAt_27 (q := 28) rfl (by omega) ?_
      refine jr_istore_n hF dX8_numberAt_28 (q := 29) rfl (by decide) rfl ?_
      refine jr_iinc hF dX8_numberAt_29 (q := 32) rfl (by decide) rfl rfl (by omega) ?_
      refine jr_goto hF dX8_numberAt_32 5 (by decide) ?_
      refine jr_iload hF dX8_numberAt_5 (q := 7) rfl rfl ?_
      refine jr_iload_n hF dX8_numberAt_7 (q := 8) rfl rfl ?_
      refine jr_icmp_ge hF dX8_numberAt_8 (q := 11) rfl 35 (by decide) (fun h2 => ?_) (fun h2 => ?_)
      · exact absurd h2 (by decide)
      · refine jr_bipush hF dX8_numberAt_11 (q := 13) rfl (by decide) (by decide +kernel) ?_
        refine jr_iload_n hF dX8_numberAt_13 (q := 14) rfl rfl ?_
        refine jr_imul hF dX8_numberAt_14 (q := 15) rfl (by omega) ?_
        refine jr_aload_n hF dX8_numberAt_15 (q := 16) rfl rfl ?_
        refine jr_getR (ci := 8) (j := 1) hF dX8_numberAt_16 (q := 19) rfl rfl rfl fl8_9 ?_
        refine jr_iload_n hF dX8_numberAt_19 (q := 20) rfl rfl ?_
        refine jr_iload hF dX8_numberAt_20 (q := 22) rfl rfl ?_
        refine jr_iadd hF dX8_numberAt_22 (q := 23) rfl (by omega) ?_
        refine jr_bald hF dX8_numberAt_23 (q := 24) rfl rfl (by omega) ?_
        rw [show (k : Int) + (0 + 1) = ((k + 1 : Nat) : Int) by omega, e']
        refine jr_iadd hF dX8_numberAt_24 (q := 25) rfl (by omega) ?_
        refine jr_bipush hF dX8_numberAt_25 (q := 27) rfl (by decide) (by decide +kernel) ?_
        refine jr_isub hF dX8_numberAt_27 (q := 28) rfl (by omega) ?_
        refine jr_istore_n hF dX8_numberAt_28 (q := 29) rfl (by decide) rfl ?_
        refine jr_iinc hF dX8_numberAt_29 (q := 32) rfl (by decide) rfl rfl (by omega) ?_
        refine jr_goto hF dX8_numberAt_32 5 (by decide) ?_
        refine jr_iload hF dX8_numberAt_5 (q := 7) rfl rfl ?_
        refine jr_iload_n hF dX8_numberAt_7 (q := 8) rfl rfl ?_
        refine jr_icmp_ge hF dX8_numberAt_8 (q := 11) rfl 35 (by decide) (fun h3 => ?_) (fun h3 => ?_)
        · refine jr_iload_n hF dX8_numberAt_35 (q := 36) rfl rfl ?_
          refine jr_retI hF hR dX8_numberAt_36 rfl ⟨by unfold nval; rw [if_pos rfl]; omega, rfl⟩
        · exact absurd h3 (by decide)

