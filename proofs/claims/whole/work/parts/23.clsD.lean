/-! ===== Hiring.hold: the fair ===== -/
/-- who is away: nobody (-1 in the class, any number below 0), or a lad -/
def absR (z : Int) (ab : Nat) : Prop := (z < 0 ∧ ab = 99) ∨ (z = (ab : Int) ∧ ab < 5)
theorem absR_iff {z : Int} {ab i : Nat} (h : absR z ab) (hi : i < 5) : (i : Int) = z ↔ i = ab := by
  unfold absR at h
  omega
set_option maxRecDepth 100000 in
theorem c_hold (σ : Sg) (pl : Nat) (hpl : pl = 4 ∨ pl = 14) (F : FD) (hC : RepC σ pl F) (ok : okF F) (az : Int) (ab : Nat) (hab : absR az ab) : RV mX2_hold 4 [vR 24, vR pl, vI az] σ (fun σ' => HR σ' (f_fair F ab (f_nm F)).1 (f_fair F ab (f_nm F)).2 ∧ (f_ca F = 0 → ∀ m : Nat, m < f_nm F → σ' 28 (m : Int) = f_end F ab (f_fair F ab m).1 m) ∧ ∀ k, k ≠ 25 → k ≠ 26 → k ≠ 27 → k ≠ 28 → σ' k = σ k) := by
  have h5 := ok.2.1
  have h3 := ok.1
  have hsp := ok.2.2.2.2.2.2.2
  have hca := ok.2.2.2.2.2.2.1
  refine mkRun (by decide +kernel) (Nat.le_of_ble_eq_true rfl) (fun X hF hR => ?_)
  refine jr_aload_n hF dX2_hold_0 (q := 1) rfl rfl ?_
  refine jr_getR (ci := 2) (j := 0) hF dX2_hold_1 (q := 4) rfl rfl rfl fl2_9 ?_
  refine jr_bipush hF dX2_hold_4 (q := 6) rfl (by decide) (by decide +kernel) ?_
  refine jr_cS2V hF (c_fill σ 25 5 0 [] rfl (by decide) (-4)) dX2_hold_6 (q := 9) rfl lk2_24 vJ7_fill_53178 kJ7_fill_53178 (by decide) (Nat.le_of_ble_eq_true rfl) (fun σ1 hz => ?_)
  subst hz
  refine jr_aload_n hF dX2_hold_9 (q := 10) rfl rfl ?_
  refine jr_getR (ci := 2) (j := 1) hF dX2_hold_10 (q := 13) rfl rfl rfl fl2_15 ?_
  refine jr_iconst hF dX2_hold_13 (q := 14) rfl (by decide) ?_
  refine jr_cS2V hF (c_fill _ 26 5 0 [] rfl (by decide) 0) dX2_hold_14 (q := 17) rfl lk2_24 vJ7_fill_53178 kJ7_fill_53178 (by decide) (Nat.le_of_ble_eq_true rfl) (fun σ1 hz => ?_)
  have hI0 : HR σ1 (f_fair F ab 0).1 (f_fair F ab 0).2 := by
    intro j hj
    rw [← hz]
    rw [uc_ne (show 25 ≠ 26 by decide), uc_eq, uc_eq, if_pos (by omega), if_pos (by omega)]
    exact ⟨rfl, rfl⟩
  have hfr0 : ∀ k, k ≠ 25 → k ≠ 26 → k ≠ 27 → k ≠ 28 → σ1 k = σ k := fun k h1 h2 _ _ => by rw [← hz, uc_ne h2, uc_ne h1]
  clear hz
  refine jr_iconst hF dX2_hold_17 (q := 18) rfl (by decide) ?_
  refine jr_istore_n hF dX2_hold_18 (q := 19) rfl (by decide) rfl ?_
  refine gs_loop (α := Sg) (fun k _ => [some (vR 24), some (vR pl), some (vI az), some (vI (k : Int)), none]) (fun σ' => σ') (fun m σ' => HR σ' (f_fair F ab m).1 (f_fair F ab m).2 ∧ (f_ca F = 0 → ∀ j : Nat, j < m → σ' 28 (j : Int) = f_end F ab (f_fair F ab j).1 j) ∧ ∀ k, k ≠ 25 → k ≠ 26 → k ≠ 27 → k ≠ 28 → σ' k = σ k) (f_nm F) (fun σ' h => ?_) (fun m σ' hm h ih => ?_) σ1 ⟨hI0, fun _ j hj => by omega, hfr0⟩
  · have hC' : RepC σ' pl F := hC.fr h5 (fun k h1 h2 => h.2.2 k (by omega) (by omega) (by omega) (by omega))
    have r1 := hC'.1
    refine jr_iload_n hF dX2_hold_19 (q := 20) rfl rfl ?_
    refine jr_aload_n hF dX2_hold_20 (q := 21) rfl rfl ?_
    refine jr_getI (ci := 4) (j := 0) hF 0 rfl dX2_hold_21 (q := 24) rfl (by first | rfl | exact L_pl hpl | exact L_rm hpl | exact L_kd hpl | exact L_lw hpl | exact L_wo hpl | exact L_wr hpl (by omega) | exact L_pl hp2 | exact L_rm hp2 | exact L_kd hp2 | exact L_lw hp2 | exact L_wo hp2 | exact L_wr hp2 (by omega)) rfl fl2_30 ?_
    refine jr_icmp_ge hF dX2_hold_24 (q := 27) rfl 117 (by decide) (fun hc => ?_) (fun hc => ?_)
    · refine jr_retV hF hR dX2_hold_117 rfl h
    · omega
  · obtain ⟨hH, hE, hfr⟩ := h
    have hC' : RepC σ' pl F := hC.fr h5 (fun k h1 h2 => hfr k (by omega) (by omega) (by omega) (by omega))
    have r1 := hC'.1
    refine jr_iload_n hF dX2_hold_19 (q := 20) rfl rfl ?_
    refine jr_aload_n hF dX2_hold_20 (q := 21) rfl rfl ?_
    refine jr_getI (ci := 4) (j := 0) hF 0 rfl dX2_hold_21 (q := 24) rfl (by first | rfl | exact L_pl hpl | exact L_rm hpl | exact L_kd hpl | exact L_lw hpl | exact L_wo hpl | exact L_wr hpl (by omega) | exact L_pl hp2 | exact L_rm hp2 | exact L_kd hp2 | exact L_lw hp2 | exact L_wo hp2 | exact L_wr hp2 (by omega)) rfl fl2_30 ?_
    refine jr_icmp_ge hF dX2_hold_24 (q := 27) rfl 117 (by decide) (fun hc => ?_) (fun hc => ?_)
    · omega
    · refine jr_iconst hF dX2_hold_27 (q := 28) rfl (by decide) ?_
      refine jr_istore hF dX2_hold_28 (q := 30) rfl (by decide) rfl ?_
      refine gs_loop (α := Sg) (fun k _ => [some (vR 24), some (vR pl), some (vI az), some (vI (m : Int)), some (vI (k : Int))]) (fun σ' => σ') (fun i σ2 => (∀ j : Nat, j < i → σ2 27 (j : Int) = f_bd F ab j m) ∧ ∀ k, k ≠ 27 → σ2 k = σ' k) (f_nl F) (fun σ2 h2 => ?_) (fun i σ2 hi h2 ih2 => ?_) σ' ⟨fun j hj => by omega, fun _ _ => rfl⟩
      · have hC2 : RepC σ2 pl F := hC'.fr h5 (fun k h1 h3 => h2.2 k (by omega))
        have q2 := hC2.2.1
        have q7 := hC2.2.2.2.2.2.2.1
        have q8 := hC2.2.2.2.2.2.2.2
        have hH2 : HR σ2 (f_fair F ab m).1 (f_fair F ab m).2 := hH.fr (h2.2 25 (by decide)) (h2.2 26 (by decide))
        have hB2 : HB σ2 F ab m := h2.1
        refine jr_iload hF dX2_hold_30 (q := 32) rfl rfl ?_
        refine jr_aload_n hF dX2_hold_32 (q := 33) rfl rfl ?_
        refine jr_getI (ci := 4) (j := 1) hF 1 rfl dX2_hold_33 (q := 36) rfl (by first | rfl | exact L_pl hpl | exact L_rm hpl | exact L_kd hpl | exact L_lw hpl | exact L_wo hpl | exact L_wr hpl (by omega) | exact L_pl hp2 | exact L_rm hp2 | exact L_kd hp2 | exact L_lw hp2 | exact L_wo hp2 | exact L_wr hp2 (by omega)) rfl fl2_36 ?_
        refine jr_icmp_ge hF dX2_hold_36 (q := 39) rfl 69 (by decide) (fun hc2 => ?_) (fun hc2 => ?_)
        · refine jr_aload_n hF dX2_hold_69 (q := 70) rfl rfl ?_
          refine jr_getR (ci := 4) (j := 5) hF dX2_hold_70 (q := 73) rfl (by first | rfl | exact L_pl hpl | exact L_rm hpl | exact L_kd hpl | exact L_lw hpl | exact L_wo hpl | exact L_wr hpl (by omega) | exact L_pl hp2 | exact L_rm hp2 | exact L_kd hp2 | exact L_lw hp2 | exact L_wo hp2 | exact L_wr hp2 (by omega)) rfl fl2_43 ?_
          refine jr_iconst hF dX2_hold_73 (q := 74) rfl (by decide) ?_
          refine jr_iald hF dX2_hold_74 (q := 75) rfl (by first | rfl | exact L_pl hpl | exact L_rm hpl | exact L_kd hpl | exact L_lw hpl | exact L_wo hpl | exact L_wr hpl (by omega) | exact L_pl hp2 | exact L_rm hp2 | exact L_kd hp2 | exact L_lw hp2 | exact L_wo hp2 | exact L_wr hp2 (by omega)) (by omega) ?_
          rw [q7]
          refine jr_if_ne hF dX2_hold_75 (q := 78) rfl 87 (by decide) (fun hc3 => ?_) (fun hc3 => ?_)
          · refine jr_aload_n hF dX2_hold_87 (q := 88) rfl rfl ?_
            refine jr_aload_n hF dX2_hold_88 (q := 89) rfl rfl ?_
            refine jr_iload_n hF dX2_hold_89 (q := 90) rfl rfl ?_
            refine jr_aload_n hF dX2_hold_90 (q := 91) rfl rfl ?_
            refine jr_getR (ci := 4) (j := 5) hF dX2_hold_91 (q := 94) rfl (by first | rfl | exact L_pl hpl | exact L_rm hpl | exact L_kd hpl | exact L_lw hpl | exact L_wo hpl | exact L_wr hpl (by omega) | exact L_pl hp2 | exact L_rm hp2 | exact L_kd hp2 | exact L_lw hp2 | exact L_wo hp2 | exact L_wr hp2 (by omega)) rfl fl2_43 ?_
            refine jr_iconst hF dX2_hold_94 (q := 95) rfl (by decide) ?_
            refine jr_iald hF dX2_hold_95 (q := 96) rfl (by first | rfl | exact L_pl hpl | exact L_rm hpl | exact L_kd hpl | exact L_lw hpl | exact L_wo hpl | exact L_wr hpl (by omega) | exact L_pl hp2 | exact L_rm hp2 | exact L_kd hp2 | exact L_lw hp2 | exact L_wo hp2 | exact L_wr hp2 (by omega)) (by omega) ?_
            refine jr_iconst hF dX2_hold_96 (q := 97) rfl (by decide) ?_
            rw [q7]
            have hfin : ∀ s : Int, 1 ≤ s ∧ s ≤ 3 → s = (if f_ca F = 1 then f_sp F else 1) → Gs X 108 [some (vR 24), some (vR pl), some (vI az), some (vI (m : Int)), some (vI (f_nl F : Int))] [vI s, vI (m : Int), vR pl, vR 24] σ2 := by
              intro s hs hs2
              refine jr_cV3V hF (c_above σ2 pl hpl F hC2 ok ab m hm _ _ hH2 hB2 s hs) dX2_hold_108 (q := 111) rfl lk2_54 vX2_callFromAbove kX2_callFromAbove rfl rfl rfl (by decide) (Nat.le_of_ble_eq_true rfl) (fun σ3 hz => ?_)
              refine jr_fg 4 ?_
              refine jr_iinc hF dX2_hold_111 (q := 114) rfl (by decide) rfl rfl (by omega) ?_
              refine jr_goto hF dX2_hold_114 19 (by decide) ?_
              have e : f_fair F ab (m + 1) = ((f_abv F ab m s 10 ((f_fair F ab m).1, (f_fair F ab m).2, f_rm F m)).1, (f_abv F ab m s 10 ((f_fair F ab m).1, (f_fair F ab m).2, f_rm F m)).2.1) := by
                rw [f_fair, f_one, if_neg hc3, hs2]
              refine ih σ3 ⟨by rw [e]; exact hz.1, fun h => absurd h hc3, fun k h1 h3 h4 h6 => by rw [hz.2 k h1 h3, h2.2 k h4, hfr k h1 h3 h4 h6]⟩
            refine jr_icmp_ne hF dX2_hold_97 (q := 100) rfl 107 (by decide) (fun hc4 => ?_) (fun hc4 => ?_)
            · refine jr_iconst hF dX2_hold_107 (q := 108) rfl (by decide) ?_
              exact hfin 1 (by omega) (by rw [if_neg hc4])
            · refine jr_aload_n hF dX2_hold_100 (q := 101) rfl rfl ?_
              refine jr_cV0I hF (c_stride σ2 pl hpl F hC2 ok) dX2_hold_101 (q := 104) rfl lk2_50 vX4_stride kX4_stride (by first | rfl | exact L_pl hpl | exact L_rm hpl | exact L_kd hpl | exact L_lw hpl | exact L_wo hpl | exact L_wr hpl (by omega) | exact L_pl hp2 | exact L_rm hp2 | exact L_kd hp2 | exact L_lw hp2 | exact L_wo hp2 | exact L_wr hp2 (by omega)) rfl rfl (by decide) (Nat.le_of_ble_eq_true rfl) (fun z σ3 hz => ?_)
              obtain ⟨rfl, rfl⟩ := hz
              refine jr_goto hF dX2_hold_104 108 (by decide) ?_
              exact hfin (f_sp F) hsp (by rw [if_pos hc4])
          · refine jr_aload_n hF dX2_hold_78 (q := 79) rfl rfl ?_
            refine jr_aload_n hF dX2_hold_79 (q := 80) rfl rfl ?_
            refine jr_iload_n hF dX2_hold_80 (q := 81) rfl rfl ?_
            refine jr_cV2V hF (c_below σ2 pl hpl F hC2 ok ab m hm _ _ hH2 hB2) dX2_hold_81 (q := 84) rfl lk2_46 vX2_callFromBelow kX2_callFromBelow rfl rfl rfl (by decide) (Nat.le_of_ble_eq_true rfl) (fun σ3 hz => ?_)
            refine jr_fg 4 ?_
            refine jr_goto hF dX2_hold_84 111 (by decide) ?_
            refine jr_iinc hF dX2_hold_111 (q := 114) rfl (by decide) rfl rfl (by omega) ?_
            refine jr_goto hF dX2_hold_114 19 (by decide) ?_
            have e : f_fair F ab (m + 1) = ((f_bel F ab m (f_fair F ab m)).1, (f_bel F ab m (f_fair F ab m)).2.1) := by
              rw [f_fair, f_one, if_pos hc3]
            refine ih σ3 ⟨by rw [e]; exact hz.1, fun h j hj => ?_, fun k h1 h3 h4 h6 => by rw [hz.2.2 k h1 h3 h6, h2.2 k h4, hfr k h1 h3 h4 h6]⟩
            rw [hz.2.1 j]
            by_cases ej : j = m
            · subst ej
              rw [if_pos rfl]
            · rw [if_neg ej, h2.2 28 (by decide)]
              exact hE h j (by omega)
        · omega
      · have hC2 : RepC σ2 pl F := hC'.fr h5 (fun k h1 h3 => h2.2 k (by omega))
        have q2 := hC2.2.1
        have ha := absR_iff hab (show i < 5 by omega)
        have hfin : ∀ v : Int, v = f_bd F ab i m → Gs X 62 [some (vR 24), some (vR pl), some (vI az), some (vI (m : Int)), some (vI (i : Int))] [vI v, vI (i : Int), vR 27] σ2 := by
          intro v hv
          refine jr_iast hF dX2_hold_62 (q := 63) rfl rfl (by omega) ?_
          refine jr_iinc hF dX2_hold_63 (q := 66) rfl (by decide) rfl rfl (by omega) ?_
          refine jr_goto hF dX2_hold_66 30 (by decide) ?_
          refine ih2 _ ⟨fun j hj => ?_, fun k hk => by rw [up_ne hk]; exact h2.2 k hk⟩
          rw [up_nat]
          by_cases ej : j = i
          · subst ej
            rw [if_pos rfl]
            exact hv
          · rw [if_neg ej]
            exact h2.1 j (by omega)
        refine jr_iload hF dX2_hold_30 (q := 32) rfl rfl ?_
        refine jr_aload_n hF dX2_hold_32 (q := 33) rfl rfl ?_
        refine jr_getI (ci := 4) (j := 1) hF 1 rfl dX2_hold_33 (q := 36) rfl (by first | rfl | exact L_pl hpl | exact L_rm hpl | exact L_kd hpl | exact L_lw hpl | exact L_wo hpl | exact L_wr hpl (by omega) | exact L_pl hp2 | exact L_rm hp2 | exact L_kd hp2 | exact L_lw hp2 | exact L_wo hp2 | exact L_wr hp2 (by omega)) rfl fl2_36 ?_
        refine jr_icmp_ge hF dX2_hold_36 (q := 39) rfl 69 (by decide) (fun hc2 => ?_) (fun hc2 => ?_)
        · omega
        · refine jr_aload_n hF dX2_hold_39 (q := 40) rfl rfl ?_
          refine jr_getR (ci := 2) (j := 2) hF dX2_hold_40 (q := 43) rfl rfl rfl fl2_18 ?_
          refine jr_iload hF dX2_hold_43 (q := 45) rfl rfl ?_
          refine jr_iload hF dX2_hold_45 (q := 47) rfl rfl ?_
          refine jr_iload_n hF dX2_hold_47 (q := 48) rfl rfl ?_
          refine jr_icmp_ne hF dX2_hold_48 (q := 51) rfl 55 (by decide) (fun hc3 => ?_) (fun hc3 => ?_)
          · refine jr_aload_n hF dX2_hold_55 (q := 56) rfl rfl ?_
            refine jr_iload hF dX2_hold_56 (q := 58) rfl rfl ?_
            refine jr_iload_n hF dX2_hold_58 (q := 59) rfl rfl ?_
            refine jr_cV2I hF (c_boundOf σ2 pl hpl F hC2 ok i m hi hm) dX2_hold_59 (q := 62) rfl lk2_39 vX4_boundOf kX4_boundOf (by first | rfl | exact L_pl hpl | exact L_rm hpl | exact L_kd hpl | exact L_lw hpl | exact L_wo hpl | exact L_wr hpl (by omega) | exact L_pl hp2 | exact L_rm hp2 | exact L_kd hp2 | exact L_lw hp2 | exact L_wo hp2 | exact L_wr hp2 (by omega)) rfl rfl (by decide) (Nat.le_of_ble_eq_true rfl) (fun z σ3 hz => ?_)
            obtain ⟨rfl, rfl⟩ := hz
            exact hfin _ (by unfold f_bd; rw [if_neg (by omega)])
          · refine jr_iconst hF dX2_hold_51 (q := 52) rfl (by decide) ?_
            refine jr_goto hF dX2_hold_52 62 (by decide) ?_
            exact hfin 0 (by unfold f_bd; rw [if_pos (by omega)])

