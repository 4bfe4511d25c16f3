/-! ===== Pairing.search; Prices ===== -/
theorem wB_mono {F : FD} {ab c : Nat} : ∀ n, (wB F ab c).1 ≤ (wB F ab (c + n)).1 := by
  intro n
  induction n with
  | zero => exact Int.le_refl _
  | succ n ih =>
    show _ ≤ (wB F ab (c + n + 1)).1
    rw [wB]
    split
    · rename_i h
      show _ ≤ vlp F (f_nl F) (c + n)
      omega
    · exact ih
theorem allNone (F : FD) : ∀ n, f_bs F ^ (n + 1) - 1 = (f_bs F ^ n - 1) * f_bs F + f_nm F := by
  intro n
  have h1 : 0 < f_bs F ^ n := Nat.pow_pos (Nat.succ_pos _)
  have h2 : f_bs F ^ (n + 1) = f_bs F ^ n * f_bs F := Nat.pow_succ _ _
  have h3 : (f_bs F ^ n - 1) * f_bs F = f_bs F ^ n * f_bs F - f_bs F := by rw [Nat.sub_mul, Nat.one_mul]
  have h4 : f_bs F ≤ f_bs F ^ n * f_bs F := Nat.le_mul_of_pos_left _ h1
  have h5 : f_bs F = f_nm F + 1 := rfl
  rw [h2, h3]
  omega
theorem fsB_none {F : FD} (ok : okF F) (ab : Nat) : ∀ n, fsB F ab n (f_bs F ^ n - 1) = true := by
  intro n
  induction n with
  | zero =>
    rw [fsB_iff]
    refine ⟨fun m hm => ?_, fun h => by omega⟩
    have := ok.2.2.1 m hm
    show (0 : Int) ≤ f_rm F m
    omega
  | succ n ih =>
    rw [allNone]
    exact fsB_ext (Nat.le_refl _) ih (fun h => by omega)
theorem wB_pos {F : FD} (ok : okF F) (ab : Nat) : 0 ≤ (wB F ab (f_bs F ^ f_nl F)).1 := by
  have h1 : 0 < f_bs F ^ f_nl F := Nat.pow_pos (Nat.succ_pos _)
  have h2 := fsB_none ok ab (f_nl F)
  have h3 := vlp_le ok (f_nl F) (f_bs F ^ f_nl F - 1) (Nat.le_refl _)
  have e : f_bs F ^ f_nl F = (f_bs F ^ f_nl F - 1) + 1 := by omega
  rw [e, wB]
  split
  · exact h3.1
  · rename_i h
    have : ¬ (wB F ab (f_bs F ^ f_nl F - 1)).1 < vlp F (f_nl F) (f_bs F ^ f_nl F - 1) := fun hh => h ⟨h2, hh⟩
    omega
set_option maxRecDepth 100000 in
theorem c_psearch (σ : Sg) (F : FD) (hC : RepC σ 4 F) (ok : okF F) (az : Int) (ab : Nat) (hab : absR az ab) : RV mX3_search 8 [vR 54, vR 4, vI az] σ (fun σ' => PB σ' F ab (f_bs F ^ f_nl F) ∧ ∀ k, k < 54 ∨ 58 < k → σ' k = σ k) := by
  have hpl : (4 : Nat) = 4 ∨ (4 : Nat) = 14 := Or.inl rfl
  have h5 := ok.2.1
  have h3 := ok.1
  have r2 := hC.2.1
  refine mkRun (by decide +kernel) (Nat.le_of_ble_eq_true rfl) (fun X hF hR => ?_)
  refine jr_aload_n hF dX3_search_0 (q := 1) rfl rfl ?_
  refine jr_getR (ci := 4) (j := 2) hF dX3_search_1 (q := 4) rfl rfl rfl fl3_24 ?_
  refine jr_iconst hF dX3_search_4 (q := 5) rfl (by decide) ?_
  refine jr_aload_n hF dX3_search_5 (q := 6) rfl rfl ?_
  refine jr_getR (ci := 3) (j := 3) hF dX3_search_6 (q := 9) rfl rfl rfl fl3_18 ?_
  refine jr_iconst hF dX3_search_9 (q := 10) rfl (by decide) ?_
  refine jr_iconst hF dX3_search_10 (q := 11) rfl (by decide) ?_
  refine jr_copy0 hF cpW_ok dX3_search_11 (q := 14) rfl lk3_29 rfl rfl (by omega) (Nat.le_of_ble_eq_true rfl) (by decide) (fun σ1 f1 g1 => ?_)
  have q2 : σ1 4 1 = (f_nl F : Int) := by rw [f1 4 (by decide)]; exact r2
  refine jr_aload_n hF dX3_search_14 (q := 15) rfl rfl ?_
  refine jr_getR (ci := 3) (j := 4) hF dX3_search_15 (q := 18) rfl rfl rfl fl3_21 ?_
  refine jr_aload_n hF dX3_search_18 (q := 19) rfl rfl ?_
  refine jr_getI (ci := 4) (j := 1) hF 1 rfl dX3_search_19 (q := 22) rfl rfl rfl fl3_35 ?_
  rw [q2]
  refine jr_iconst hF dX3_search_22 (q := 23) rfl (by decide) ?_
  refine jr_iast hF dX3_search_23 (q := 24) rfl rfl (by omega) ?_
  refine jr_aload_n hF dX3_search_24 (q := 25) rfl rfl ?_
  refine jr_getI (ci := 4) (j := 1) hF 1 rfl dX3_search_25 (q := 28) rfl rfl rfl fl3_35 ?_
  rw [up_ne (show 4 ≠ 58 by decide), q2]
  refine jr_iconst hF dX3_search_28 (q := 29) rfl (by decide) ?_
  refine jr_isub hF dX3_search_29 (q := 30) rfl (by omega) ?_
  refine jr_istore_n hF dX3_search_30 (q := 31) rfl (by decide) rfl ?_
  rw [show (f_nl F : Int) - 1 = (f_nl F : Int) - 1 - ((0 : Nat) : Int) by omega]
  refine gs_loop (α := Sg) (fun k _ => [some (vR 54), some (vR 4), some (vI az), some (vI ((f_nl F : Int) - 1 - (k : Int)))]) (fun σ' => σ') (fun j σ' => (∀ k : Nat, k ≤ f_nl F → f_nl F ≤ k + j → σ' 58 (k : Int) = hopR F ab (f_nl F - k)) ∧ ∀ k, k ≠ 58 → σ' k = σ1 k) (f_nl F) (fun σ' h => ?_) (fun j σ' hj h ih => ?_) _ ⟨fun k a1 a2 => by rw [up_nat, if_pos (by omega), show f_nl F - k = 0 by omega]; rfl, fun k hk => up_ne hk⟩
  · obtain ⟨i1, i2⟩ := h
    refine jr_iload_n hF dX3_search_31 (q := 32) rfl rfl ?_
    refine jr_if_lt hF dX3_search_32 (q := 35) rfl 70 (by decide) (fun a1 => ?_) (fun a1 => ?_)
    · refine jr_aload_n hF dX3_search_70 (q := 71) rfl rfl ?_
      refine jr_iconst hF dX3_search_71 (q := 72) rfl (by decide) ?_
      refine jr_putI (ci := 3) (j := 0) hF 0 rfl dX3_search_72 (q := 75) rfl rfl rfl fp3_43 ?_
      refine jr_aload_n hF dX3_search_75 (q := 76) rfl rfl ?_
      refine jr_aload_n hF dX3_search_76 (q := 77) rfl rfl ?_
      refine jr_iload_n hF dX3_search_77 (q := 78) rfl rfl ?_
      refine jr_iconst hF dX3_search_78 (q := 79) rfl (by decide) ?_
      refine jr_iconst hF dX3_search_79 (q := 80) rfl (by decide) ?_
      have hC2 : RepC (up σ' 54 0 (-1)) 4 F := hC.fr h5 (fun k l1 l2 => by rw [up_ne (by omega), i2 k (by omega), f1 k (by omega)])
      have hW2 : PW (up σ' 54 0 (-1)) F ab 0 0 := by
        refine ⟨fun j hj => by omega, fun m hm => ?_, fun k hk => ?_⟩
        · rw [up_ne (by decide), i2 57 (by decide), g1, if_pos (by omega)]
          show _ = f_rm F m - 0
          rw [Int.sub_zero]
          exact hC.room hm
        · rw [up_ne (by decide)]
          exact i1 k hk (by omega)
      have hB2 : PB (up σ' 54 0 (-1)) F ab (0 * f_bs F ^ f_nl F) := by
        rw [Nat.zero_mul]
        exact ⟨by simp [up, wB], fun h => absurd rfl h⟩
      have hf : fsB F ab 0 0 = true := by
        rw [fsB_iff]
        refine ⟨fun m hm => ?_, fun h => by omega⟩
        have := ok.2.2.1 m hm
        show (0 : Int) ≤ f_rm F m
        omega
      have hcall := c_place F ok az ab hab (f_nl F) 0 (by omega) _ 0 hC2 hW2 hB2 hf
      rw [show vlp F 0 0 = 0 from rfl] at hcall
      refine jr_cS5V hF (hcall) dX3_search_80 (q := 83) rfl lk3_46 vX3_place kX3_place (by omega) (Nat.le_of_ble_eq_true rfl) (fun σ3 hz => ?_)
      obtain ⟨c1, c2, c3⟩ := hz
      rw [Nat.zero_add, Nat.one_mul] at c2
      refine jr_retV hF hR dX3_search_83 rfl ⟨c2, fun k hk => by rw [c3 k (by omega) (by omega) (by omega) (by omega), up_ne (by omega), i2 k (by omega), f1 k (by omega)]⟩
    · omega
  · obtain ⟨i1, i2⟩ := h
    have hC2 : RepC σ' 4 F := hC.fr h5 (fun k l1 l2 => by rw [i2 k (by omega), f1 k (by omega)])
    obtain ⟨i, hi⟩ : ∃ i : Nat, i + 1 + j = f_nl F := ⟨f_nl F - 1 - j, by omega⟩
    rw [show (f_nl F : Int) - 1 - (j : Int) = (i : Int) by omega]
    have e1 := i1 (i + 1) (by omega) (by omega)
    rw [show f_nl F - (i + 1) = j by omega] at e1
    have hh := hopR_le ok ab j (by omega)
    have hwl := hw_le ok ab (show i < f_nl F by omega)
    have ha := absR_iff hab (show i < 5 by omega)
    have e2 : hopR F ab (j + 1) = hopR F ab j + hw F ab i := by
      show hopR F ab j + hw F ab (f_nl F - (j + 1)) = _
      rw [show f_nl F - (j + 1) = i by omega]
    have hfin : ∀ v : Int, v = hw F ab i → Gs X 62 [some (vR 54), some (vR 4), some (vI az), some (vI (i : Int))] [vI v, vI (hopR F ab j), vI (i : Int), vR 58] σ' := by
      intro v hv
      subst hv
      refine jr_iadd hF dX3_search_62 (q := 63) rfl (by omega) ?_
      refine jr_iast hF dX3_search_63 (q := 64) rfl rfl (by omega) ?_
      refine jr_iinc hF dX3_search_64 (q := 67) rfl (by decide) rfl rfl (by omega) ?_
      refine jr_goto hF dX3_search_67 31 (by decide) ?_
      rw [show (i : Int) + -1 = (f_nl F : Int) - 1 - ((j + 1 : Nat) : Int) by omega]
      refine ih _ ⟨fun k a1 a2 => ?_, fun k hk => by rw [up_ne hk]; exact i2 k hk⟩
      rw [up_nat]
      by_cases e : k = i
      · rw [if_pos e, show f_nl F - k = j + 1 by omega, e2]
      · rw [if_neg e]
        exact i1 k a1 (by omega)
    refine jr_iload_n hF dX3_search_31 (q := 32) rfl rfl ?_
    refine jr_if_lt hF dX3_search_32 (q := 35) rfl 70 (by decide) (fun a1 => ?_) (fun a1 => ?_)
    · omega
    · refine jr_aload_n hF dX3_search_35 (q := 36) rfl rfl ?_
      refine jr_getR (ci := 3) (j := 4) hF dX3_search_36 (q := 39) rfl rfl rfl fl3_21 ?_
      refine jr_iload_n hF dX3_search_39 (q := 40) rfl rfl ?_
      refine jr_aload_n hF dX3_search_40 (q := 41) rfl rfl ?_
      refine jr_getR (ci := 3) (j := 4) hF dX3_search_41 (q := 44) rfl rfl rfl fl3_21 ?_
      refine jr_iload_n hF dX3_search_44 (q := 45) rfl rfl ?_
      refine jr_iconst hF dX3_search_45 (q := 46) rfl (by decide) ?_
      refine jr_iadd hF dX3_search_46 (q := 47) rfl (by omega) ?_
      rw [show (i : Int) + 1 = ((i + 1 : Nat) : Int) by omega]
      refine jr_iald hF dX3_search_47 (q := 48) rfl rfl (by omega) ?_
      rw [e1]
      refine jr_iload_n hF dX3_search_48 (q := 49) rfl rfl ?_
      refine jr_iload_n hF dX3_search_49 (q := 50) rfl rfl ?_
      refine jr_icmp_ne hF dX3_search_50 (q := 53) rfl 57 (by decide) (fun a2 => ?_) (fun a2 => ?_)
      · refine jr_aload_n hF dX3_search_57 (q := 58) rfl rfl ?_
        refine jr_iload_n hF dX3_search_58 (q := 59) rfl rfl ?_
        refine jr_cS2I hF (c_mostWantOf σ' 4 hpl F hC2 ok i (by omega)) dX3_search_59 (q := 62) rfl lk3_39 vX3_mostWantOf kX3_mostWantOf (by decide) (Nat.le_of_ble_eq_true rfl) (fun z σ2 hz => ?_)
        obtain ⟨rfl, rfl⟩ := hz
        exact hfin _ (by unfold hw; rw [if_neg (by omega)])
      · refine jr_iconst hF dX3_search_53 (q := 54) rfl (by decide) ?_
        refine jr_goto hF dX3_search_54 62 (by decide) ?_
        exact hfin 0 (by unfold hw; rw [if_pos (by omega)])
/-! the years at rest -/
def own (F : FD) (pr : Nat → Int) (i d : Nat) : Int := if d = f_nm F then 0 else f_wt F i d - pr d
def ctB (F : FD) (pr : Nat → Int) (i d : Nat) : Bool := decide (0 ≤ own F pr i d) && allB (fun m => decide (f_wt F i m - pr m ≤ own F pr i d)) (f_nm F)
def arB (F : FD) (x : Nat) (pr : Nat → Int) : Bool := allB (fun m => decide (pr m ≤ 0 ∨ cnd F (f_nl F) x m = f_rm F m)) (f_nm F) && allB (fun i => ctB F pr i (dgp (f_bs F) (f_nl F) x i)) (f_nl F)
theorem allB_false {f : Nat → Bool} {k : Nat} (h : f k = false) {n : Nat} (hk : k < n) : allB f n = false := by
  by_cases e : allB f n = true
  · have := allB_iff.mp e k hk
    rw [h] at this
    cases this
  · simpa using e
set_option maxRecDepth 100000 in
theorem c_isContent (σ : Sg) (F : FD) (hC : RepC σ 4 F) (ok : okF F) (pr : Nat → Int) (hp : ∀ m : Nat, m < f_nm F → σ 61 (m : Int) = pr m) (hp2 : ∀ m, 0 ≤ pr m ∧ pr m ≤ 10) (i d : Nat) (hi : i < f_nl F) (hd : d ≤ f_nm F) : RI mX5_isContent 1 [vR 59, vR 4, vI (i : Int), vI (dz F d)] σ (fun z σ' => z = (if ctB F pr i d = true then 1 else 0) ∧ σ = σ') := by
  have hpl : (4 : Nat) = 4 ∨ (4 : Nat) = 14 := Or.inl rfl
  have h5 := ok.2.1
  have h3 := ok.1
  have r1 := hC.1
  refine mkRun (by decide +kernel) (Nat.le_of_ble_eq_true rfl) (fun X hF hR => ?_)
  have hob : own F pr i d ≤ 10 ∧ -10 ≤ own F pr i d := by
    unfold own
    split
    · omega
    · have := ok.2.2.2.2.1 i d hi (by omega)
      have := hp2 d
      omega
  have hcont : Gs X 25 [some (vR 59), some (vR 4), some (vI (i : Int)), some (vI (dz F d)), none, none] [vI (own F pr i d)] σ := by
    refine jr_istore hF dX5_isContent_25 (q := 27) rfl (by decide) rfl ?_
    refine jr_iload hF dX5_isContent_27 (q := 29) rfl rfl ?_
    refine jr_if_ge hF dX5_isContent_29 (q := 32) rfl 34 (by decide) (fun a1 => ?_) (fun a1 => ?_)
    · refine jr_iconst hF dX5_isContent_34 (q := 35) rfl (by decide) ?_
      refine jr_istore hF dX5_isContent_35 (q := 37) rfl (by decide) rfl ?_
      refine gs_loop (α := Unit) (fun k _ => [some (vR 59), some (vR 4), some (vI (i : Int)), some (vI (dz F d)), some (vI (own F pr i d)), some (vI (k : Int))]) (fun _ => σ) (fun k _ => allB (fun m => decide (f_wt F i m - pr m ≤ own F pr i d)) k = true) (f_nm F) (fun _ h => ?_) (fun k _ hk h ih => ?_) () rfl
      · refine jr_iload hF dX5_isContent_37 (q := 39) rfl rfl ?_
        refine jr_aload_n hF dX5_isContent_39 (q := 40) rfl rfl ?_
        refine jr_getI (ci := 4) (j := 0) hF 0 rfl dX5_isContent_40 (q := 43) rfl rfl rfl fl5_29 ?_
        refine jr_icmp_ge hF dX5_isContent_43 (q := 46) rfl 76 (by decide) (fun a2 => ?_) (fun a2 => ?_)
        · refine jr_iconst hF dX5_isContent_76 (q := 77) rfl (by decide) ?_
          refine jr_retZ hF hR dX5_isContent_77 rfl (by first | exact Or.inl rfl | exact Or.inr rfl | omega) ⟨by unfold ctB; rw [h, decide_eq_true a1]; rfl, rfl⟩
        · omega
      · have r5 : σ (8 + i) (k : Int) = f_wt F i k := hC.want hi hk
        have hwt := ok.2.2.2.2.1 i k hi hk
        have hpk := hp2 k
        have ep := hp k hk
        refine jr_iload hF dX5_isContent_37 (q := 39) rfl rfl ?_
        refine jr_aload_n hF dX5_isContent_39 (q := 40) rfl rfl ?_
        refine jr_getI (ci := 4) (j := 0) hF 0 rfl dX5_isContent_40 (q := 43) rfl rfl rfl fl5_29 ?_
        refine jr_icmp_ge hF dX5_isContent_43 (q := 46) rfl 76 (by decide) (fun a2 => ?_) (fun a2 => ?_)
        · omega
        · refine jr_aload_n hF dX5_isContent_46 (q := 47) rfl rfl ?_
          refine jr_getR (ci := 4) (j := 4) hF dX5_isContent_47 (q := 50) rfl rfl rfl fl5_72 ?_
          refine jr_iload_n hF dX5_isContent_50 (q := 51) rfl rfl ?_
          refine jr_aald hF dX5_isContent_51 (q := 52) rfl rfl (by omega) ?_
          rw [tn]
          refine jr_iload hF dX5_isContent_52 (q := 54) rfl rfl ?_
          refine jr_iald hF dX5_isContent_54 (q := 55) rfl (by first | rfl | exact L_pl hpl | exact L_rm hpl | exact L_kd hpl | exact L_lw hpl | exact L_wo hpl | exact L_wr hpl (by omega) | exact L_pl hp2 | exact L_rm hp2 | exact L_kd hp2 | exact L_lw hp2 | exact L_wo hp2 | exact L_wr hp2 (by omega)) (by omega) ?_
          refine jr_aload_n hF dX5_isContent_55 (q := 56) rfl rfl ?_
          refine jr_getR (ci := 5) (j := 3) hF dX5_isContent_56 (q := 59) rfl (by first | rfl | exact L_pl hpl | exact L_rm hpl | exact L_kd hpl | exact L_lw hpl | exact L_wo hpl | exact L_wr hpl (by omega) | exact L_pl hp2 | exact L_rm hp2 | exact L_kd hp2 | exact L_lw hp2 | exact L_wo hp2 | exact L_wr hp2 (by omega)) rfl fl5_15 ?_
          refine jr_iload hF dX5_isContent_59 (q := 61) rfl rfl ?_
          refine jr_iald hF dX5_isContent_61 (q := 62) rfl (by first | rfl | exact L_pl hpl | exact L_rm hpl | exact L_kd hpl | exact L_lw hpl | exact L_wo hpl | exact L_wr hpl (by omega) | exact L_pl hp2 | exact L_rm hp2 | exact L_kd hp2 | exact L_lw hp2 | exact L_wo hp2 | exact L_wr hp2 (by omega)) (by omega) ?_
          rw [r5, ep]
          refine jr_isub hF dX5_isContent_62 (q := 63) rfl (by omega) ?_
          refine jr_iload hF dX5_isContent_63 (q := 65) rfl rfl ?_
          refine jr_icmp_le hF dX5_isContent_65 (q := 68) rfl 70 (by decide) (fun a3 => ?_) (fun a3 => ?_)
          · refine jr_iinc hF dX5_isContent_70 (q := 73) rfl (by decide) rfl rfl (by omega) ?_
            refine jr_goto hF dX5_isContent_73 37 (by decide) ?_
            exact ih () (by rw [allB, h, decide_eq_true a3]; rfl)
          · refine jr_iconst hF dX5_isContent_68 (q := 69) rfl (by decide) ?_
            have hf := allB_false (f := fun m => decide (f_wt F i m - pr m ≤ own F pr i d)) (k := k) (decide_eq_false (by omega)) hk
            refine jr_retZ hF hR dX5_isContent_69 rfl (by first | exact Or.inl rfl | exact Or.inr rfl | omega) ⟨by unfold ctB; rw [hf, Bool.and_false]; rfl, rfl⟩
    · refine jr_iconst hF dX5_isContent_32 (q := 33) rfl (by decide) ?_
      refine jr_retZ hF hR dX5_isContent_33 rfl (by first | exact Or.inl rfl | exact Or.inr rfl | omega) ⟨by unfold ctB; rw [decide_eq_false (by omega), Bool.false_and]; rfl, rfl⟩
  refine jr_iload_n hF dX5_isContent_0 (q := 1) rfl rfl ?_
  refine jr_bipush hF dX5_isContent_1 (q := 3) rfl (by decide) (by decide +kernel) ?_
  refine jr_icmp_ne hF dX5_isContent_3 (q := 6) rfl 10 (by decide) (fun a1 => ?_) (fun a1 => ?_)
  · have hdn : d ≠ f_nm F := fun e => a1 (by unfold dz; rw [if_pos e])
    have ed : dz F d = (d : Int) := by unfold dz; rw [if_neg hdn]
    have r5 : σ (8 + i) (d : Int) = f_wt F i d := hC.want hi (by omega)
    have hwt := ok.2.2.2.2.1 i d hi (by omega)
    have hpk := hp2 d
    have ep := hp d (by omega)
    have eo : own F pr i d = f_wt F i d - pr d := by unfold own; rw [if_neg hdn]
    rw [eo, ed] at hcont
    rw [ed]
    refine jr_aload_n hF dX5_isContent_10 (q := 11) rfl rfl ?_
    refine jr_getR (ci := 4) (j := 4) hF dX5_isContent_11 (q := 14) rfl rfl rfl fl5_72 ?_
    refine jr_iload_n hF dX5_isContent_14 (q := 15) rfl rfl ?_
    refine jr_aald hF dX5_isContent_15 (q := 16) rfl rfl (by omega) ?_
    rw [tn]
    refine jr_iload_n hF dX5_isContent_16 (q := 17) rfl rfl ?_
    refine jr_iald hF dX5_isContent_17 (q := 18) rfl (by first | rfl | exact L_pl hpl | exact L_rm hpl | exact L_kd hpl | exact L_lw hpl | exact L_wo hpl | exact L_wr hpl (by omega) | exact L_pl hp2 | exact L_rm hp2 | exact L_kd hp2 | exact L_lw hp2 | exact L_wo hp2 | exact L_wr hp2 (by omega)) (by omega) ?_
    refine jr_aload_n hF dX5_isContent_18 (q := 19) rfl rfl ?_
    refine jr_getR (ci := 5) (j := 3) hF dX5_isContent_19 (q := 22) rfl (by first | rfl | exact L_pl hpl | exact L_rm hpl | exact L_kd hpl | exact L_lw hpl | exact L_wo hpl | exact L_wr hpl (by omega) | exact L_pl hp2 | exact L_rm hp2 | exact L_kd hp2 | exact L_lw hp2 | exact L_wo hp2 | exact L_wr hp2 (by omega)) rfl fl5_15 ?_
    refine jr_iload_n hF dX5_isContent_22 (q := 23) rfl rfl ?_
    refine jr_iald hF dX5_isContent_23 (q := 24) rfl (by first | rfl | exact L_pl hpl | exact L_rm hpl | exact L_kd hpl | exact L_lw hpl | exact L_wo hpl | exact L_wr hpl (by omega) | exact L_pl hp2 | exact L_rm hp2 | exact L_kd hp2 | exact L_lw hp2 | exact L_wo hp2 | exact L_wr hp2 (by omega)) (by omega) ?_
    rw [r5, ep]
    refine jr_isub hF dX5_isContent_24 (q := 25) rfl (by omega) ?_
    exact hcont
  · have hdn : d = f_nm F := by
      unfold dz at a1
      split at a1
      · assumption
      · omega
    have eo : own F pr i d = 0 := by unfold own; rw [if_pos hdn]
    rw [eo] at hcont
    refine jr_iconst hF dX5_isContent_6 (q := 7) rfl (by decide) ?_
    refine jr_goto hF dX5_isContent_7 25 (by decide) ?_
    exact hcont
set_option maxRecDepth 100000 in
theorem c_isAtRestC (σ : Sg) (F : FD) (hC : RepC σ 4 F) (ok : okF F) (pr : Nat → Int) (hp : ∀ m : Nat, m < f_nm F → σ 61 (m : Int) = pr m) (hp2 : ∀ m, 0 ≤ pr m ∧ pr m ≤ 10) (x : Nat) (hx : ∀ j : Nat, j < f_nl F → σ 55 (j : Int) = dz F (dgp (f_bs F) (f_nl F) x j)) (hh : ∀ m : Nat, m < f_nm F → σ 62 (m : Int) = cnd F (f_nl F) x m) : RI mX5_isAtRest 2 [vR 59, vR 4, vR 55] σ (fun z σ' => z = (if arB F x pr = true then 1 else 0) ∧ σ = σ') := by
  have h5 := ok.2.1
  have h3 := ok.1
  have r1 := hC.1
  have r2 := hC.2.1
  refine mkRun (by decide +kernel) (Nat.le_of_ble_eq_true rfl) (fun X hF hR => ?_)
  refine jr_iconst hF dX5_isAtRest_0 (q := 1) rfl (by decide) ?_
  refine jr_istore_n hF dX5_isAtRest_1 (q := 2) rfl (by decide) rfl ?_
  refine gs_loop (α := Unit) (fun k _ => [some (vR 59), some (vR 4), some (vR 55), some (vI (k : Int))]) (fun _ => σ) (fun k _ => allB (fun m => decide (pr m ≤ 0 ∨ cnd F (f_nl F) x m = f_rm F m)) k = true) (f_nm F) (fun _ h => ?_) (fun k _ hk h ih => ?_) () rfl
  · refine jr_iload_n hF dX5_isAtRest_2 (q := 3) rfl rfl ?_
    refine jr_aload_n hF dX5_isAtRest_3 (q := 4) rfl rfl ?_
    refine jr_getI (ci := 4) (j := 0) hF 0 rfl dX5_isAtRest_4 (q := 7) rfl rfl rfl fl5_29 ?_
    refine jr_icmp_ge hF dX5_isAtRest_7 (q := 10) rfl 42 (by decide) (fun a1 => ?_) (fun a1 => ?_)
    · refine jr_iconst hF dX5_isAtRest_42 (q := 43) rfl (by decide) ?_
      refine jr_istore_n hF dX5_isAtRest_43 (q := 44) rfl (by decide) rfl ?_
      refine gs_loop (α := Unit) (fun k _ => [some (vR 59), some (vR 4), some (vR 55), some (vI (k : Int))]) (fun _ => σ) (fun k _ => allB (fun i => ctB F pr i (dgp (f_bs F) (f_nl F) x i)) k = true) (f_nl F) (fun _ h2 => ?_) (fun k _ hk h2 ih => ?_) () rfl
      · refine jr_iload_n hF dX5_isAtRest_44 (q := 45) rfl rfl ?_
        refine jr_aload_n hF dX5_isAtRest_45 (q := 46) rfl rfl ?_
        refine jr_getI (ci := 4) (j := 1) hF 1 rfl dX5_isAtRest_46 (q := 49) rfl rfl rfl fl5_53 ?_
        refine jr_icmp_ge hF dX5_isAtRest_49 (q := 52) rfl 72 (by decide) (fun a2 => ?_) (fun a2 => ?_)
        · refine jr_iconst hF dX5_isAtRest_72 (q := 73) rfl (by decide) ?_
          refine jr_retZ hF hR dX5_isAtRest_73 rfl (by first | exact Or.inl rfl | exact Or.inr rfl | omega) ⟨by unfold arB; rw [h, h2]; rfl, rfl⟩
        · omega
      · refine jr_iload_n hF dX5_isAtRest_44 (q := 45) rfl rfl ?_
        refine jr_aload_n hF dX5_isAtRest_45 (q := 46) rfl rfl ?_
        refine jr_getI (ci := 4) (j := 1) hF 1 rfl dX5_isAtRest_46 (q := 49) rfl rfl rfl fl5_53 ?_
        refine jr_icmp_ge hF dX5_isAtRest_49 (q := 52) rfl 72 (by decide) (fun a2 => ?_) (fun a2 => ?_)
        · omega
        · refine jr_aload_n hF dX5_isAtRest_52 (q := 53) rfl rfl ?_
          refine jr_aload_n hF dX5_isAtRest_53 (q := 54) rfl rfl ?_
          refine jr_iload_n hF dX5_isAtRest_54 (q := 55) rfl rfl ?_
          refine jr_aload_n hF dX5_isAtRest_55 (q := 56) rfl rfl ?_
          refine jr_iload_n hF dX5_isAtRest_56 (q := 57) rfl rfl ?_
          refine jr_iald hF dX5_isAtRest_57 (q := 58) rfl rfl (by omega) ?_
          rw [hx k hk]
          refine jr_cV3I hF (c_isContent σ F hC ok pr hp hp2 k _ hk (dgp_lt F (f_nl F) x k)) dX5_isAtRest_58 (q := 61) rfl lk5_68 vX5_isContent kX5_isContent rfl rfl rfl (by decide) (Nat.le_of_ble_eq_true rfl) (fun z σ1 hz => ?_)
          obtain ⟨rfl, rfl⟩ := hz
          refine jr_if_ne hF dX5_isAtRest_61 (q := 64) rfl 66 (by decide) (fun a3 => ?_) (fun a3 => ?_)
          · refine jr_iinc hF dX5_isAtRest_66 (q := 69) rfl (by decide) rfl rfl (by omega) ?_
            refine jr_goto hF dX5_isAtRest_69 44 (by decide) ?_
            exact ih () (by rw [allB, h2, bi_1 a3]; rfl)
          · refine jr_iconst hF dX5_isAtRest_64 (q := 65) rfl (by decide) ?_
            have hf := allB_false (f := fun i => ctB F pr i (dgp (f_bs F) (f_nl F) x i)) (k := k) (bi_0 a3) hk
            refine jr_retZ hF hR dX5_isAtRest_65 rfl (by first | exact Or.inl rfl | exact Or.inr rfl | omega) ⟨by unfold arB; rw [hf, Bool.and_false]; rfl, rfl⟩
    · omega
  · have ep := hp k hk
    have eh := hh k hk
    have er : σ 5 (k : Int) = f_rm F k := hC.room hk
    have hnext : (pr k ≤ 0 ∨ cnd F (f_nl F) x k = f_rm F k) → Gs X 36 [some (vR 59), some (vR 4), some (vR 55), some (vI (k : Int))] [] σ := by
      intro hc
      refine jr_iinc hF dX5_isAtRest_36 (q := 39) rfl (by decide) rfl rfl (by omega) ?_
      refine jr_goto hF dX5_isAtRest_39 2 (by decide) ?_
      exact ih () (by rw [allB, h, decide_eq_true hc]; rfl)
    refine jr_iload_n hF dX5_isAtRest_2 (q := 3) rfl rfl ?_
    refine jr_aload_n hF dX5_isAtRest_3 (q := 4) rfl rfl ?_
    refine jr_getI (ci := 4) (j := 0) hF 0 rfl dX5_isAtRest_4 (q := 7) rfl rfl rfl fl5_29 ?_
    refine jr_icmp_ge hF dX5_isAtRest_7 (q := 10) rfl 42 (by decide) (fun a1 => ?_) (fun a1 => ?_)
    · omega
    · refine jr_aload_n hF dX5_isAtRest_10 (q := 11) rfl rfl ?_
      refine jr_getR (ci := 5) (j := 3) hF dX5_isAtRest_11 (q := 14) rfl rfl rfl fl5_15 ?_
      refine jr_iload_n hF dX5_isAtRest_14 (q := 15) rfl rfl ?_
      refine jr_iald hF dX5_isAtRest_15 (q := 16) rfl rfl (by omega) ?_
      rw [ep]
      refine jr_if_le hF dX5_isAtRest_16 (q := 19) rfl 36 (by decide) (fun a2 => ?_) (fun a2 => ?_)
      · exact hnext (Or.inl a2)
      · refine jr_aload_n hF dX5_isAtRest_19 (q := 20) rfl rfl ?_
        refine jr_getR (ci := 5) (j := 4) hF dX5_isAtRest_20 (q := 23) rfl rfl rfl fl5_18 ?_
        refine jr_iload_n hF dX5_isAtRest_23 (q := 24) rfl rfl ?_
        refine jr_iald hF dX5_isAtRest_24 (q := 25) rfl rfl (by omega) ?_
        refine jr_aload_n hF dX5_isAtRest_25 (q := 26) rfl rfl ?_
        refine jr_getR (ci := 4) (j := 2) hF dX5_isAtRest_26 (q := 29) rfl rfl rfl fl5_65 ?_
        refine jr_iload_n hF dX5_isAtRest_29 (q := 30) rfl rfl ?_
        refine jr_iald hF dX5_isAtRest_30 (q := 31) rfl rfl (by omega) ?_
        rw [eh, er]
        refine jr_icmp_eq hF dX5_isAtRest_31 (q := 34) rfl 36 (by decide) (fun a3 => ?_) (fun a3 => ?_)
        · exact hnext (Or.inr a3)
        · refine jr_iconst hF dX5_isAtRest_34 (q := 35) rfl (by decide) ?_
          have hf := allB_false (f := fun m => decide (pr m ≤ 0 ∨ cnd F (f_nl F) x m = f_rm F m)) (k := k) (decide_eq_false (by omega)) hk
          refine jr_retZ hF hR dX5_isAtRest_35 rfl (by first | exact Or.inl rfl | exact Or.inr rfl | omega) ⟨by unfold arB; rw [hf, Bool.false_and]; rfl, rfl⟩

