/-! ===== Text: numbers, items, all ===== -/
theorem rdN_le {B : Nat → Int} {len many : Nat} : ∀ (r pl : Nat) (a : Nat → Int) (q : Nat) (b : Nat → Int), pl ≤ len → rdN B len many r pl a = some (q, b) → q ≤ len ∧ pl + 2 * r ≤ q := by
  intro r
  induction r with
  | zero =>
    intro pl a q b hp h
    simp only [rdN, Option.some.injEq, Prod.mk.injEq] at h
    omega
  | succ r ih =>
    intro pl a q b hp h
    rw [rdN] at h
    by_cases hf : nfig B len pl = 0
    · rw [if_pos hf] at h
      cases h
    · rw [if_neg hf] at h
      generalize (if r = 0 then (59 : Int) else 44) = v at h
      by_cases hs : sgb B len (pl + nfig B len pl) v = true
      · rw [if_pos hs] at h
        have h1 : pl + nfig B len pl < len ∧ _ := of_decide_eq_true hs
        have h2 := ih _ _ q b (by omega) h
        omega
      · rw [if_neg hs] at h
        cases h
set_option maxRecDepth 100000 in
theorem c_readNumbers (σ : Sg) (B : Nat → Int) (len : Nat) (hT : TxC σ B len) (many at0 : Nat) (hm : many ≤ 3) (ha : at0 ≤ len) (a : Nat → Int) (hN : ∀ j : Nat, j < 3 → σ 3 (j : Int) = a j) : RI mX8_readNumbers 3 [vR 1, vI (at0 : Int), vI (many : Int)] σ (fun z σ' => (∀ c, c ≠ 3 → σ' c = σ c) ∧ match rdN B len many many at0 a with
    | none => z = -4
    | some (q, b) => z = (q : Int) ∧ ∀ j : Nat, j < 3 → σ' 3 (j : Int) = b j) := by
  have hlen := hT.2.1
  refine mkRun (by decide +kernel) (Nat.le_of_ble_eq_true rfl) (fun X hF hR => ?_)
  generalize hRes : rdN B len many many at0 a = Res at hR
  refine jr_iload_n hF dX8_readNumbers_0 (q := 1) rfl rfl ?_
  refine jr_istore_n hF dX8_readNumbers_1 (q := 2) rfl (by decide) rfl ?_
  refine jr_iconst hF dX8_readNumbers_2 (q := 3) rfl (by decide) ?_
  refine jr_istore hF dX8_readNumbers_3 (q := 5) rfl (by decide) rfl ?_
  refine gs_loop (α := Nat × Sg × (Nat → Int)) (fun k w => [some (vR 1), some (vI (at0 : Int)), some (vI (many : Int)), some (vI (w.1 : Int)), some (vI (k : Int)), none]) (fun w => w.2.1) (fun k w => rdN B len many (many - k) w.1 w.2.2 = Res ∧ w.1 ≤ len ∧ (∀ c, c ≠ 3 → w.2.1 c = σ c) ∧ ∀ j : Nat, j < 3 → w.2.1 3 (j : Int) = w.2.2 j) many (fun w h => ?_) (fun k w hk h ih => ?_) (at0, σ, a) ⟨hRes, ha, fun _ _ => rfl, hN⟩
  · obtain ⟨pl, σ', b⟩ := w
    obtain ⟨i1, i2, i3, i4⟩ := h
    dsimp only at i1 i2 i3 i4 ⊢
    rw [Nat.sub_self, rdN] at i1
    refine jr_iload hF dX8_readNumbers_5 (q := 7) rfl rfl ?_
    refine jr_iload_n hF dX8_readNumbers_7 (q := 8) rfl rfl ?_
    refine jr_icmp_ge hF dX8_readNumbers_8 (q := 11) rfl 80 (by decide) (fun h1 => ?_) (fun h1 => ?_)
    · refine jr_iload_n hF dX8_readNumbers_80 (q := 81) rfl rfl ?_
      rw [← i1] at hR
      refine jr_retI hF hR dX8_readNumbers_81 rfl ⟨i3, rfl, i4⟩
    · omega
  · obtain ⟨pl, σ', b⟩ := w
    obtain ⟨i1, i2, i3, i4⟩ := h
    dsimp only at i1 i2 i3 i4 ⊢
    have hT' : TxC σ' B len := ⟨by rw [i3 1 (by decide)]; exact hT.1, hT.2.1, fun k hk => by rw [i3 2 (by decide)]; exact hT.2.2 k hk⟩
    rw [show many - k = (many - (k + 1)) + 1 by omega, rdN] at i1
    have hfs := nfig_spec (B := B) (len := len) (k := pl)
    refine jr_iload hF dX8_readNumbers_5 (q := 7) rfl rfl ?_
    refine jr_iload_n hF dX8_readNumbers_7 (q := 8) rfl rfl ?_
    refine jr_icmp_ge hF dX8_readNumbers_8 (q := 11) rfl 80 (by decide) (fun h1 => ?_) (fun h1 => ?_)
    · omega
    · refine jr_aload_n hF dX8_readNumbers_11 (q := 12) rfl rfl ?_
      refine jr_iload_n hF dX8_readNumbers_12 (q := 13) rfl rfl ?_
      refine jr_cV1I hF (c_figuresAt σ' B len hT' pl (by omega)) dX8_readNumbers_13 (q := 16) rfl lk8_58 vX8_figuresAt kX8_figuresAt rfl rfl rfl (by decide) (Nat.le_of_ble_eq_true rfl) (fun z σ1 hz => ?_)
      obtain ⟨rfl, rfl⟩ := hz
      refine jr_istore hF dX8_readNumbers_16 (q := 18) rfl (by decide) rfl ?_
      refine jr_iload hF dX8_readNumbers_18 (q := 20) rfl rfl ?_
      refine jr_if_ne hF dX8_readNumbers_20 (q := 23) rfl 26 (by decide) (fun h2 => ?_) (fun h2 => ?_)
      · have hf : nfig B len pl ≠ 0 := by omega
        rw [if_neg hf] at i1
        refine jr_aload_n hF dX8_readNumbers_26 (q := 27) rfl rfl ?_
        refine jr_getR (ci := 8) (j := 2) hF dX8_readNumbers_27 (q := 30) rfl rfl rfl fl8_15 ?_
        refine jr_iload hF dX8_readNumbers_30 (q := 32) rfl rfl ?_
        refine jr_aload_n hF dX8_readNumbers_32 (q := 33) rfl rfl ?_
        refine jr_iload_n hF dX8_readNumbers_33 (q := 34) rfl rfl ?_
        refine jr_iload hF dX8_readNumbers_34 (q := 36) rfl rfl ?_
        refine jr_cV2I hF (c_numberAt σ' B len hT' pl hf) dX8_readNumbers_36 (q := 39) rfl lk8_61 vX8_numberAt kX8_numberAt rfl rfl rfl (by decide) (Nat.le_of_ble_eq_true rfl) (fun z σ1 hz => ?_)
        obtain ⟨rfl, rfl⟩ := hz
        refine jr_iast hF dX8_readNumbers_39 (q := 40) rfl rfl (by omega) ?_
        refine jr_iload_n hF dX8_readNumbers_40 (q := 41) rfl rfl ?_
        refine jr_iload hF dX8_readNumbers_41 (q := 43) rfl rfl ?_
        refine jr_iadd hF dX8_readNumbers_43 (q := 44) rfl (by omega) ?_
        refine jr_istore_n hF dX8_readNumbers_44 (q := 45) rfl (by decide) rfl ?_
        refine jr_aload_n hF dX8_readNumbers_45 (q := 46) rfl rfl ?_
        refine jr_iload_n hF dX8_readNumbers_46 (q := 47) rfl rfl ?_
        refine jr_iload hF dX8_readNumbers_47 (q := 49) rfl rfl ?_
        refine jr_iload_n hF dX8_readNumbers_49 (q := 50) rfl rfl ?_
        refine jr_iconst hF dX8_readNumbers_50 (q := 51) rfl (by decide) ?_
        refine jr_isub hF dX8_readNumbers_51 (q := 52) rfl (by omega) ?_
        have hcont : ∀ v : Int, v = (if many - (k + 1) = 0 then 59 else 44) → Gs X 62 [some (vR 1), some (vI (at0 : Int)), some (vI (many : Int)), some (vI ((pl : Int) + (nfig B len pl : Int))), some (vI (k : Int)), some (vI (nfig B len pl : Int))] [vI v, vI ((pl : Int) + (nfig B len pl : Int)), vR 1] (up σ' 3 (k : Int) (nval B pl (nfig B len pl))) := by
          intro v hv
          have hT2 : TxC (up σ' 3 (k : Int) (nval B pl (nfig B len pl))) B len := ⟨by rw [up_ne (by decide)]; exact hT'.1, hT'.2.1, fun k hk => by rw [up_ne (by decide)]; exact hT'.2.2 k hk⟩
          have hS := c_isSignAt _ B len hT2 (pl + nfig B len pl) v
          rw [show ((pl + nfig B len pl : Nat) : Int) = (pl : Int) + (nfig B len pl : Int) by omega] at hS
          refine jr_cV2I hF (hS) dX8_readNumbers_62 (q := 65) rfl lk8_64 vX8_isSignAt kX8_isSignAt rfl rfl rfl (by decide) (Nat.le_of_ble_eq_true rfl) (fun z σ1 hz => ?_)
          obtain ⟨rfl, rfl⟩ := hz
          refine jr_if_ne hF dX8_readNumbers_65 (q := 68) rfl 71 (by decide) (fun h3 => ?_) (fun h3 => ?_)
          · have hs := bi_1 h3
            rw [hv] at hs
            rw [if_pos hs] at i1
            have h4 : pl + nfig B len pl < len ∧ _ := of_decide_eq_true hs
            refine jr_fg 5 ?_
            refine jr_iinc hF dX8_readNumbers_71 (q := 74) rfl (by decide) rfl rfl (by omega) ?_
            refine jr_iinc hF dX8_readNumbers_74 (q := 77) rfl (by decide) rfl rfl (by omega) ?_
            refine jr_goto hF dX8_readNumbers_77 5 (by decide) ?_
            have := ih (pl + nfig B len pl + 1, up σ' 3 (k : Int) (nval B pl (nfig B len pl)), st1 b (many - (many - (k + 1) + 1)) (nval B pl (nfig B len pl))) ⟨i1, by show pl + nfig B len pl + 1 ≤ len; omega, fun c hc => by show up σ' 3 (k : Int) _ c = σ c; rw [up_ne hc]; exact i3 c hc, fun j hj => ?_⟩
            · exact this
            · show up σ' 3 (k : Int) _ 3 (j : Int) = st1 b _ _ j
              rw [up_nat]
              unfold st1
              rw [show many - (many - (k + 1) + 1) = k by omega]
              split
              · rfl
              · exact i4 j hj
          · have hs := bi_0 h3
            rw [hv] at hs
            rw [if_neg (by rw [hs]; decide)] at i1
            refine jr_bipush hF dX8_readNumbers_68 (q := 70) rfl (by decide) (by decide +kernel) ?_
            rw [← i1] at hR
            refine jr_retI hF hR dX8_readNumbers_70 rfl ⟨fun c hc => by rw [up_ne hc]; exact i3 c hc, rfl⟩
        refine jr_icmp_ne hF dX8_readNumbers_52 (q := 55) rfl 60 (by decide) (fun h5 => ?_) (fun h5 => ?_)
        · refine jr_bipush hF dX8_readNumbers_60 (q := 62) rfl (by decide) (by decide +kernel) ?_
          exact hcont 44 (by rw [if_neg (by omega)])
        · refine jr_bipush hF dX8_readNumbers_55 (q := 57) rfl (by decide) (by decide +kernel) ?_
          refine jr_goto hF dX8_readNumbers_57 62 (by decide) ?_
          exact hcont 59 (by rw [if_pos (by omega)])
      · have hf : nfig B len pl = 0 := by omega
        rw [if_pos hf] at i1
        refine jr_bipush hF dX8_readNumbers_23 (q := 25) rfl (by decide) (by decide +kernel) ?_
        rw [← i1] at hR
        refine jr_retI hF hR dX8_readNumbers_25 rfl ⟨i3, rfl⟩
theorem lsw5 {c o1 o2 o3 o4 o5 d : Int} : Op.lookupswitch.offset [(99, o1), (108, o2), (109, o3), (115, o4), (119, o5)] d c = if 99 = c then o1 else if 108 = c then o2 else if 109 = c then o3 else if 115 = c then o4 else if 119 = c then o5 else d := by
  rw [Op.lookupswitch.offset_cons, Op.lookupswitch.offset_cons, Op.lookupswitch.offset_cons, Op.lookupswitch.offset_cons, Op.lookupswitch.offset_cons]
  rfl
set_option maxRecDepth 100000 in
theorem c_numbersOf (σ : Sg) (c : Int) : RI mX8_numbersOf 1 [vI c] σ (fun z σ' => z = (nOf c : Int) ∧ σ = σ') := by
  refine mkRun (by decide +kernel) (Nat.le_of_ble_eq_true rfl) (fun X hF hR => ?_)
  refine jr_iload_n hF dX8_numbersOf_0 (q := 1) rfl rfl ?_
  by_cases h1 : c = 99
  · subst h1
    refine jr_lsw hF dX8_numbersOf_1 (by decide +kernel) 58 lsw5 (by decide) ?_
    refine jr_iconst hF dX8_numbersOf_58 (q := 59) rfl (by decide) ?_
    refine jr_retI hF hR dX8_numbersOf_59 rfl ⟨by decide, rfl⟩
  by_cases h2 : c = 108
  · subst h2
    refine jr_lsw hF dX8_numbersOf_1 (by decide +kernel) 54 lsw5 (by decide) ?_
    refine jr_iconst hF dX8_numbersOf_54 (q := 55) rfl (by decide) ?_
    refine jr_retI hF hR dX8_numbersOf_55 rfl ⟨by decide, rfl⟩
  by_cases h3 : c = 109
  · subst h3
    refine jr_lsw hF dX8_numbersOf_1 (by decide +kernel) 52 lsw5 (by decide) ?_
    refine jr_iconst hF dX8_numbersOf_52 (q := 53) rfl (by decide) ?_
    refine jr_retI hF hR dX8_numbersOf_53 rfl ⟨by decide, rfl⟩
  by_cases h4 : c = 115
  · subst h4
    refine jr_lsw hF dX8_numbersOf_1 (by decide +kernel) 60 lsw5 (by decide) ?_
    refine jr_iconst hF dX8_numbersOf_60 (q := 61) rfl (by decide) ?_
    refine jr_retI hF hR dX8_numbersOf_61 rfl ⟨by decide, rfl⟩
  by_cases h5 : c = 119
  · subst h5
    refine jr_lsw hF dX8_numbersOf_1 (by decide +kernel) 56 lsw5 (by decide) ?_
    refine jr_iconst hF dX8_numbersOf_56 (q := 57) rfl (by decide) ?_
    refine jr_retI hF hR dX8_numbersOf_57 rfl ⟨by decide, rfl⟩
  refine jr_lsw hF dX8_numbersOf_1 (by decide +kernel) 62 (lsw5.trans (by rw [if_neg (Ne.symm h1), if_neg (Ne.symm h2), if_neg (Ne.symm h3), if_neg (Ne.symm h4), if_neg (Ne.symm h5)])) (by decide) ?_
  refine jr_iconst hF dX8_numbersOf_62 (q := 63) rfl (by decide) ?_
  refine jr_retI hF hR dX8_numbersOf_63 rfl ⟨by simp [nOf, h1, h2, h3, h4, h5], rfl⟩
set_option maxRecDepth 100000 in
theorem c_tell (σ : Sg) (pl : Nat) (hpl : pl = 4 ∨ pl = 14) (F : FD) (hC : RdC σ pl F) (hz : FZ F) (ok : okF F) (a : Nat → Int) (hN : ∀ j : Nat, j < 3 → σ 3 (j : Int) = a j) (c : Int) : RI mX8_tell 3 [vR 1, vR pl, vI c] σ (fun z σ' => told σ pl (tellF F c a) z σ') := by
  have n0 : σ 3 0 = a 0 := hN 0 (by decide)
  have n1 : σ 3 1 = a 1 := hN 1 (by decide)
  have n2 : σ 3 2 = a 2 := hN 2 (by decide)
  have fin : ∀ {o : Option FD} {z : Int} {σ' : Sg}, told σ pl o z σ' → z = 0 ∨ z = 1 := by
    intro o z σ' h
    cases o with
    | none => exact Or.inl h.2
    | some F => exact Or.inr h.2.1
  refine mkRun (by decide +kernel) (Nat.le_of_ble_eq_true rfl) (fun X hF hR => ?_)
  refine jr_iload_n hF dX8_tell_0 (q := 1) rfl rfl ?_
  by_cases h1 : c = 99
  · subst h1
    refine jr_lsw hF dX8_tell_1 (by decide +kernel) 103 lsw5 (by decide) ?_
    refine jr_aload_n hF dX8_tell_103 (q := 104) rfl rfl ?_
    refine jr_aload_n hF dX8_tell_104 (q := 105) rfl rfl ?_
    refine jr_getR (ci := 8) (j := 2) hF dX8_tell_105 (q := 108) rfl rfl rfl fl8_15 ?_
    refine jr_iconst hF dX8_tell_108 (q := 109) rfl (by decide) ?_
    refine jr_iald hF dX8_tell_109 (q := 110) rfl rfl (by omega) ?_
    rw [n0]
    refine jr_cV1I hF (c_tellCalls σ pl hpl F hC ok (a 0)) dX8_tell_110 (q := 113) rfl lk8_52 vX4_tellCalls kX4_tellCalls (by first | rfl | exact L_pl hpl | exact L_rm hpl | exact L_kd hpl | exact L_lw hpl | exact L_wo hpl | exact L_wr hpl (by omega) | exact L_pl hp2 | exact L_rm hp2 | exact L_kd hp2 | exact L_lw hp2 | exact L_wo hp2 | exact L_wr hp2 (by omega)) rfl rfl (by decide) (Nat.le_of_ble_eq_true rfl) (fun z σ1 h => ?_)
    exact jr_retZ hF hR dX8_tell_113 rfl (fin h) h
  by_cases h2 : c = 108
  · subst h2
    refine jr_lsw hF dX8_tell_1 (by decide +kernel) 63 lsw5 (by decide) ?_
    refine jr_aload_n hF dX8_tell_63 (q := 64) rfl rfl ?_
    refine jr_aload_n hF dX8_tell_64 (q := 65) rfl rfl ?_
    refine jr_getR (ci := 8) (j := 2) hF dX8_tell_65 (q := 68) rfl rfl rfl fl8_15 ?_
    refine jr_iconst hF dX8_tell_68 (q := 69) rfl (by decide) ?_
    refine jr_iald hF dX8_tell_69 (q := 70) rfl rfl (by omega) ?_
    refine jr_aload_n hF dX8_tell_70 (q := 71) rfl rfl ?_
    refine jr_getR (ci := 8) (j := 2) hF dX8_tell_71 (q := 74) rfl rfl rfl fl8_15 ?_
    refine jr_iconst hF dX8_tell_74 (q := 75) rfl (by decide) ?_
    refine jr_iald hF dX8_tell_75 (q := 76) rfl rfl (by omega) ?_
    rw [n0, n1]
    refine jr_cV2I hF (c_addLad σ pl hpl F hC hz ok (a 0) (a 1)) dX8_tell_76 (q := 79) rfl lk8_44 vX4_addLad kX4_addLad (by first | rfl | exact L_pl hpl | exact L_rm hpl | exact L_kd hpl | exact L_lw hpl | exact L_wo hpl | exact L_wr hpl (by omega) | exact L_pl hp2 | exact L_rm hp2 | exact L_kd hp2 | exact L_lw hp2 | exact L_wo hp2 | exact L_wr hp2 (by omega)) rfl rfl (by decide) (Nat.le_of_ble_eq_true rfl) (fun z σ1 h => ?_)
    exact jr_retZ hF hR dX8_tell_79 rfl (fin h) h
  by_cases h3 : c = 109
  · subst h3
    refine jr_lsw hF dX8_tell_1 (by decide +kernel) 52 lsw5 (by decide) ?_
    refine jr_aload_n hF dX8_tell_52 (q := 53) rfl rfl ?_
    refine jr_aload_n hF dX8_tell_53 (q := 54) rfl rfl ?_
    refine jr_getR (ci := 8) (j := 2) hF dX8_tell_54 (q := 57) rfl rfl rfl fl8_15 ?_
    refine jr_iconst hF dX8_tell_57 (q := 58) rfl (by decide) ?_
    refine jr_iald hF dX8_tell_58 (q := 59) rfl rfl (by omega) ?_
    rw [n0]
    refine jr_cV1I hF (c_addMaster σ pl hpl F hC hz ok (a 0)) dX8_tell_59 (q := 62) rfl lk8_40 vX4_addMaster kX4_addMaster (by first | rfl | exact L_pl hpl | exact L_rm hpl | exact L_kd hpl | exact L_lw hpl | exact L_wo hpl | exact L_wr hpl (by omega) | exact L_pl hp2 | exact L_rm hp2 | exact L_kd hp2 | exact L_lw hp2 | exact L_wo hp2 | exact L_wr hp2 (by omega)) rfl rfl (by decide) (Nat.le_of_ble_eq_true rfl) (fun z σ1 h => ?_)
    exact jr_retZ hF hR dX8_tell_62 rfl (fin h) h
  by_cases h4 : c = 115
  · subst h4
    refine jr_lsw hF dX8_tell_1 (by decide +kernel) 114 lsw5 (by decide) ?_
    refine jr_aload_n hF dX8_tell_114 (q := 115) rfl rfl ?_
    refine jr_aload_n hF dX8_tell_115 (q := 116) rfl rfl ?_
    refine jr_getR (ci := 8) (j := 2) hF dX8_tell_116 (q := 119) rfl rfl rfl fl8_15 ?_
    refine jr_iconst hF dX8_tell_119 (q := 120) rfl (by decide) ?_
    refine jr_iald hF dX8_tell_120 (q := 121) rfl rfl (by omega) ?_
    rw [n0]
    refine jr_cV1I hF (c_tellStep σ pl hpl F hC ok (a 0)) dX8_tell_121 (q := 124) rfl lk8_55 vX4_tellStep kX4_tellStep (by first | rfl | exact L_pl hpl | exact L_rm hpl | exact L_kd hpl | exact L_lw hpl | exact L_wo hpl | exact L_wr hpl (by omega) | exact L_pl hp2 | exact L_rm hp2 | exact L_kd hp2 | exact L_lw hp2 | exact L_wo hp2 | exact L_wr hp2 (by omega)) rfl rfl (by decide) (Nat.le_of_ble_eq_true rfl) (fun z σ1 h => ?_)
    exact jr_retZ hF hR dX8_tell_124 rfl (fin h) h
  by_cases h5 : c = 119
  · subst h5
    refine jr_lsw hF dX8_tell_1 (by decide +kernel) 80 lsw5 (by decide) ?_
    refine jr_aload_n hF dX8_tell_80 (q := 81) rfl rfl ?_
    refine jr_aload_n hF dX8_tell_81 (q := 82) rfl rfl ?_
    refine jr_getR (ci := 8) (j := 2) hF dX8_tell_82 (q := 85) rfl rfl rfl fl8_15 ?_
    refine jr_iconst hF dX8_tell_85 (q := 86) rfl (by decide) ?_
    refine jr_iald hF dX8_tell_86 (q := 87) rfl rfl (by omega) ?_
    refine jr_aload_n hF dX8_tell_87 (q := 88) rfl rfl ?_
    refine jr_getR (ci := 8) (j := 2) hF dX8_tell_88 (q := 91) rfl rfl rfl fl8_15 ?_
    refine jr_iconst hF dX8_tell_91 (q := 92) rfl (by decide) ?_
    refine jr_iald hF dX8_tell_92 (q := 93) rfl rfl (by omega) ?_
    refine jr_aload_n hF dX8_tell_93 (q := 94) rfl rfl ?_
    refine jr_getR (ci := 8) (j := 2) hF dX8_tell_94 (q := 97) rfl rfl rfl fl8_15 ?_
    refine jr_iconst hF dX8_tell_97 (q := 98) rfl (by decide) ?_
    refine jr_iald hF dX8_tell_98 (q := 99) rfl rfl (by omega) ?_
    rw [n0, n1, n2]
    refine jr_cV3I hF (c_addWant σ pl hpl F hC ok (a 0) (a 1) (a 2)) dX8_tell_99 (q := 102) rfl lk8_48 vX4_addWant kX4_addWant (by first | rfl | exact L_pl hpl | exact L_rm hpl | exact L_kd hpl | exact L_lw hpl | exact L_wo hpl | exact L_wr hpl (by omega) | exact L_pl hp2 | exact L_rm hp2 | exact L_kd hp2 | exact L_lw hp2 | exact L_wo hp2 | exact L_wr hp2 (by omega)) rfl rfl (by decide) (Nat.le_of_ble_eq_true rfl) (fun z σ1 h => ?_)
    exact jr_retZ hF hR dX8_tell_102 rfl (fin h) h
  refine jr_lsw hF dX8_tell_1 (by decide +kernel) 125 (lsw5.trans (by rw [if_neg (Ne.symm h1), if_neg (Ne.symm h2), if_neg (Ne.symm h3), if_neg (Ne.symm h4), if_neg (Ne.symm h5)])) (by decide) ?_
  refine jr_iconst hF dX8_tell_125 (q := 126) rfl (by decide) ?_
  refine jr_retZ hF hR dX8_tell_126 rfl (by first | exact Or.inl rfl | exact Or.inr rfl | omega) ⟨fun _ _ => rfl, by simp [tellF, h1, h2, h3, h4, h5]⟩
theorem tellF_ok {F F' : FD} {c : Int} {a : Nat → Int} (ok : okF F) (hz : FZ F) (h : tellF F c a = some F') : okF F' ∧ FZ F' := by
  obtain ⟨o1, o2, o3, o4, o5, o6, o7, o8⟩ := ok
  unfold tellF at h
  split at h
  · unfold t_m at h
    split at h
    · rename_i hc
      cases h
      refine ⟨⟨by show f_nm F + 1 ≤ 3; omega, o2, fun m hm => ?_, o4, fun i m hi hm => ?_, o6, o7, o8⟩, fun i m h => ?_⟩
      · show 1 ≤ st1 (f_rm F) (f_nm F) (a 0) m ∧ st1 (f_rm F) (f_nm F) (a 0) m ≤ 3
        unfold st1
        split
        · omega
        · replace hm : m < f_nm F + 1 := hm
          exact o3 m (by omega)
      · show 0 ≤ f_wt F i m ∧ f_wt F i m ≤ 10
        replace hm : m < f_nm F + 1 := hm
        by_cases e : m < f_nm F
        · exact o5 i m hi e
        · rw [hz i m (Or.inr (by omega))]
          omega
      · replace h : f_nl F ≤ i ∨ f_nm F + 1 ≤ m := h
        exact hz i m (by omega)
    · cases h
  · split at h
    · unfold t_l at h
      split at h
      · rename_i hc
        cases h
        refine ⟨⟨o1, by show f_nl F + 1 ≤ 5; omega, o3, fun i hi => ?_, fun i m hi hm => ?_, fun i hi => ?_, o7, o8⟩, fun i m h => ?_⟩
        · show 0 ≤ st1 (f_kd F) (f_nl F) (a 1) i ∧ st1 (f_kd F) (f_nl F) (a 1) i ≤ 3
          unfold st1
          split
          · omega
          · replace hi : i < f_nl F + 1 := hi
            exact o4 i (by omega)
        · show 0 ≤ f_wt F i m ∧ f_wt F i m ≤ 10
          replace hi : i < f_nl F + 1 := hi
          by_cases e : i < f_nl F
          · exact o5 i m e hm
          · rw [hz i m (Or.inl (by omega))]
            omega
        · show 1 ≤ st1 (f_lm F) (f_nl F) (a 0) i ∧ st1 (f_lm F) (f_nl F) (a 0) i ≤ 10
          unfold st1
          split
          · omega
          · replace hi : i < f_nl F + 1 := hi
            exact o6 i (by omega)
        · replace h : f_nl F + 1 ≤ i ∨ f_nm F ≤ m := h
          exact hz i m (by omega)
      · cases h
    · split at h
      · unfold t_w at h
        split at h
        · rename_i hc
          cases h
          refine ⟨⟨o1, o2, o3, o4, fun i m hi hm => ?_, o6, o7, o8⟩, fun i m h => ?_⟩
          · show 0 ≤ st2 (f_wt F) _ _ (a 2) i m ∧ st2 (f_wt F) _ _ (a 2) i m ≤ 10
            unfold st2
            split
            · omega
            · exact o5 i m hi hm
          · show st2 (f_wt F) _ _ (a 2) i m = 0
            replace h : f_nl F ≤ i ∨ f_nm F ≤ m := h
            unfold st2
            rw [if_neg (by omega)]
            exact hz i m h
        · cases h
      · split at h
        · unfold t_c at h
          split at h
          · rename_i hc
            cases h
            exact ⟨⟨o1, o2, o3, o4, o5, o6, hc, o8⟩, hz⟩
          · cases h
        · split at h
          · unfold t_s at h
            split at h
            · rename_i hc
              cases h
              exact ⟨⟨o1, o2, o3, o4, o5, o6, o7, hc⟩, hz⟩
            · cases h
          · cases h
theorem nOf_le (c : Int) : nOf c ≤ 3 := by
  unfold nOf
  repeat' split
  all_goals omega
set_option maxRecDepth 100000 in
theorem c_readInto (σ : Sg) (B : Nat → Int) (len : Nat) (hT : TxC σ B len) (a : Nat → Int) (hN : ∀ j : Nat, j < 3 → σ 3 (j : Int) = a j) : RI mX8_readInto 4 [vR 1, vR 14] σ (fun z σ' => (∀ c, c ≠ 3 → c < 14 ∨ 23 < c → σ' c = σ c) ∧ z = (rdAll B len 300 0 F00 a).1 ∧ (z = -4 → RdC σ' 14 (rdAll B len 300 0 F00 a).2 ∧ okF (rdAll B len 300 0 F00 a).2)) := by
  have hpl : (14 : Nat) = 4 ∨ (14 : Nat) = 14 := Or.inr rfl
  have hlen := hT.2.1
  refine mkRun (by decide +kernel) (Nat.le_of_ble_eq_true rfl) (fun X hF hR => ?_)
  refine jr_aload_n hF dX8_readInto_0 (q := 1) rfl rfl ?_
  refine jr_cV0V hF (c_clear σ 14 hpl) dX8_readInto_1 (q := 4) rfl lk8_23 vX4_clear kX4_clear rfl rfl rfl (by decide) (Nat.le_of_ble_eq_true rfl) (fun σ1 hz => ?_)
  obtain ⟨hC0, hf0⟩ := hz
  refine jr_iconst hF dX8_readInto_4 (q := 5) rfl (by decide) ?_
  refine jr_istore_n hF dX8_readInto_5 (q := 6) rfl (by decide) rfl ?_
  refine jr_iconst hF dX8_readInto_6 (q := 7) rfl (by decide) ?_
  refine jr_istore_n hF dX8_readInto_7 (q := 8) rfl (by decide) rfl ?_
  generalize hRes : rdAll B len 300 0 F00 a = Res at hR
  refine gs_loop (α := Nat × Sg × FD × (Nat → Int)) (fun k w => [some (vR 1), some (vR 14), some (vI (w.1 : Int)), some (vI (k : Int)), none, none]) (fun w => w.2.1) (fun k w => rdAll B len (300 - k) w.1 w.2.2.1 w.2.2.2 = Res ∧ w.1 ≤ len ∧ (∀ c, c ≠ 3 → c < 14 ∨ 23 < c → w.2.1 c = σ c) ∧ (∀ j : Nat, j < 3 → w.2.1 3 (j : Int) = w.2.2.2 j) ∧ RdC w.2.1 14 w.2.2.1 ∧ okF w.2.2.1 ∧ FZ w.2.2.1) 300 (fun w h => ?_) (fun k w hk h ih => ?_) (0, σ1, F00, a) ⟨hRes, Nat.zero_le _, fun c h1 h2 => hf0 c (by omega), fun j hj => by show σ1 3 _ = _; rw [hf0 3 (by omega)]; exact hN j hj, hC0, okF_00, FZ_00⟩
  · obtain ⟨pl, σ', F', b⟩ := w
    obtain ⟨i1, i2, i3, i4, i5, i6, i7⟩ := h
    replace i1 : ((-4 : Int), F') = Res := i1
    refine jr_iload_n hF dX8_readInto_8 (q := 9) rfl rfl ?_
    refine jr_sipush hF dX8_readInto_9 (q := 12) rfl (by decide) (by decide +kernel) ?_
    refine jr_icmp_ge hF dX8_readInto_12 (q := 15) rfl 73 (by decide) (fun h1 => ?_) (fun h1 => ?_)
    · refine jr_bipush hF dX8_readInto_73 (q := 75) rfl (by decide) (by decide +kernel) ?_
      rw [← i1] at hR
      refine jr_retI hF hR dX8_readInto_75 rfl ⟨i3, rfl, fun _ => ⟨i5, i6⟩⟩
    · omega
  · obtain ⟨pl, σ', F', b⟩ := w
    obtain ⟨i1, i2, i3, i4, i5, i6, i7⟩ := h
    dsimp only at i1 i2 i3 i4 i5 i6 i7 ⊢
    have hT' : TxC σ' B len := ⟨by rw [i3 1 (by decide) (by omega)]; exact hT.1, hT.2.1, fun k hk => by rw [i3 2 (by decide) (by omega)]; exact hT.2.2 k hk⟩
    rw [show 300 - k = (300 - (k + 1)) + 1 by omega, rdAll] at i1
    have t1 := hT'.1
    refine jr_iload_n hF dX8_readInto_8 (q := 9) rfl rfl ?_
    refine jr_sipush hF dX8_readInto_9 (q := 12) rfl (by decide) (by decide +kernel) ?_
    refine jr_icmp_ge hF dX8_readInto_12 (q := 15) rfl 73 (by decide) (fun h1 => ?_) (fun h1 => ?_)
    · omega
    · refine jr_iload_n hF dX8_readInto_15 (q := 16) rfl rfl ?_
      refine jr_aload_n hF dX8_readInto_16 (q := 17) rfl rfl ?_
      refine jr_getI (ci := 8) (j := 0) hF 0 rfl dX8_readInto_17 (q := 20) rfl rfl rfl fl8_19 ?_
      refine jr_icmp_ge hF dX8_readInto_20 (q := 23) rfl 73 (by decide) (fun h2 => ?_) (fun h2 => ?_)
      · rw [if_pos (by omega)] at i1
        refine jr_bipush hF dX8_readInto_73 (q := 75) rfl (by decide) (by decide +kernel) ?_
        rw [← i1] at hR
        refine jr_retI hF hR dX8_readInto_75 rfl ⟨i3, rfl, fun _ => ⟨i5, i6⟩⟩
      · have hlt : pl < len := by omega
        rw [if_neg (by omega)] at i1
        have eb := hT'.2.2 pl hlt
        refine jr_aload_n hF dX8_readInto_23 (q := 24) rfl rfl ?_
        refine jr_getR (ci := 8) (j := 1) hF dX8_readInto_24 (q := 27) rfl rfl rfl fl8_9 ?_
        refine jr_iload_n hF dX8_readInto_27 (q := 28) rfl rfl ?_
        refine jr_bald hF dX8_readInto_28 (q := 29) rfl rfl (by omega) ?_
        rw [eb]
        refine jr_istore hF dX8_readInto_29 (q := 31) rfl (by decide) rfl ?_
        refine jr_aload_n hF dX8_readInto_31 (q := 32) rfl rfl ?_
        refine jr_iload_n hF dX8_readInto_32 (q := 33) rfl rfl ?_
        refine jr_iconst hF dX8_readInto_33 (q := 34) rfl (by decide) ?_
        refine jr_iadd hF dX8_readInto_34 (q := 35) rfl (by omega) ?_
        refine jr_iload hF dX8_readInto_35 (q := 37) rfl rfl ?_
        refine jr_cS1I hF (c_numbersOf σ' (B pl)) dX8_readInto_37 (q := 40) rfl lk8_28 vX8_numbersOf kX8_numbersOf (by decide) (Nat.le_of_ble_eq_true rfl) (fun z σ2 hz => ?_)
        obtain ⟨rfl, rfl⟩ := hz
        have hRN := c_readNumbers σ' B len hT' (nOf (B pl)) (pl + 1) (nOf_le _) hlt b i4
        unfold itemF at i1
        generalize hq : rdN B len (nOf (B pl)) (nOf (B pl)) (pl + 1) b = q at hRN i1
        refine jr_cV2I hF (hRN) dX8_readInto_40 (q := 43) rfl lk8_32 vX8_readNumbers kX8_readNumbers rfl rfl rfl (by decide) (Nat.le_of_ble_eq_true rfl) (fun z σ2 hz => ?_)
        obtain ⟨g1, g2⟩ := hz
        cases q with
        | none =>
          dsimp only at g2 i1
          subst g2
          refine jr_istore hF dX8_readInto_43 (q := 45) rfl (by decide) rfl ?_
          refine jr_iload hF dX8_readInto_45 (q := 47) rfl rfl ?_
          refine jr_bipush hF dX8_readInto_47 (q := 49) rfl (by decide) (by decide +kernel) ?_
          refine jr_icmp_eq hF dX8_readInto_49 (q := 52) rfl 62 (by decide) (fun h3 => ?_) (fun h3 => ?_)
          · refine jr_iload_n hF dX8_readInto_62 (q := 63) rfl rfl ?_
            rw [← i1] at hR
            refine jr_retI hF hR dX8_readInto_63 rfl ⟨fun c h4 h5 => by rw [g1 c h4]; exact i3 c h4 h5, rfl, fun h => by omega⟩
          · exact absurd rfl h3
        | some qb =>
          obtain ⟨q, b'⟩ := qb
          dsimp only at g2 i1
          obtain ⟨rfl, g3⟩ := g2
          have hql := rdN_le _ _ _ _ _ (show pl + 1 ≤ len by omega) hq
          refine jr_istore hF dX8_readInto_43 (q := 45) rfl (by decide) rfl ?_
          refine jr_iload hF dX8_readInto_45 (q := 47) rfl rfl ?_
          refine jr_bipush hF dX8_readInto_47 (q := 49) rfl (by decide) (by decide +kernel) ?_
          refine jr_icmp_eq hF dX8_readInto_49 (q := 52) rfl 62 (by decide) (fun h3 => ?_) (fun h3 => ?_)
          · omega
          · refine jr_aload_n hF dX8_readInto_52 (q := 53) rfl rfl ?_
            refine jr_aload_n hF dX8_readInto_53 (q := 54) rfl rfl ?_
            refine jr_iload hF dX8_readInto_54 (q := 56) rfl rfl ?_
            have hC2 : RdC σ2 14 F' := ⟨i5.1.fr i6.2.1 (fun k h4 h5 => g1 k (by omega)), fun i m h4 h5 h6 => by have := i6.2.1; rw [g1 _ (by omega)]; exact i5.2 i m h4 h5 h6⟩
            refine jr_cV2I hF (c_tell σ2 14 hpl F' hC2 i7 i6 b' g3 (B pl)) dX8_readInto_56 (q := 59) rfl lk8_36 vX8_tell kX8_tell rfl rfl rfl (by decide) (Nat.le_of_ble_eq_true rfl) (fun z σ3 hz => ?_)
            obtain ⟨g4, g5⟩ := hz
            generalize ht : tellF F' (B pl) b' = t at g5 i1
            cases t with
            | none =>
              dsimp only at g5 i1
              subst g5
              refine jr_if_ne hF dX8_readInto_59 (q := 62) rfl 64 (by decide) (fun h4 => ?_) (fun h4 => ?_)
              · exact absurd rfl h4
              · refine jr_iload_n hF dX8_readInto_62 (q := 63) rfl rfl ?_
                rw [← i1] at hR
                refine jr_retI hF hR dX8_readInto_63 rfl ⟨fun c h4 h5 => by rw [g4 c (by omega), g1 c h4]; exact i3 c h4 h5, rfl, fun h => by omega⟩
            | some F2 =>
              dsimp only at g5 i1
              obtain ⟨rfl, g6⟩ := g5
              have hok := tellF_ok i6 i7 ht
              refine jr_if_ne hF dX8_readInto_59 (q := 62) rfl 64 (by decide) (fun h4 => ?_) (fun h4 => ?_)
              · refine jr_iload hF dX8_readInto_64 (q := 66) rfl rfl ?_
                refine jr_istore_n hF dX8_readInto_66 (q := 67) rfl (by decide) rfl ?_
                refine jr_fg 4 (jr_fg 5 ?_)
                refine jr_iinc hF dX8_readInto_67 (q := 70) rfl (by decide) rfl rfl (by omega) ?_
                refine jr_goto hF dX8_readInto_70 8 (by decide) ?_
                exact ih (q, σ3, F2, b') ⟨i1, hql.1, fun c h4 h5 => by show σ3 c = σ c; rw [g4 c (by omega), g1 c h4]; exact i3 c h4 h5, fun j hj => by show σ3 3 _ = _; rw [g4 3 (by omega)]; exact g3 j hj, g6, hok.1, hok.2⟩
              · exact absurd h4 (by decide)

