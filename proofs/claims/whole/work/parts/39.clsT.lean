section
variable (σ : Sg) (len : Nat) (B : Nat → Int) (F : FD) (nu : Nat) (W V : Nat → Int) (nk : Nat) (S : Nat → Int → Int) (ns : Nat) (M Y : Nat → Int)
set_option maxRecDepth 100000 in
theorem o_span (h : RC σ (len, B, F, nu, W, V, nk, S, ns, M, Y)) (ok : okA (len, B, F, nu, W, V, nk, S, ns, M, Y)) (i m what : Int) : RI mX9_span 10 [vR 0, vI i, vI m, vI what] σ (fun z σ' => z = an_span F i m what ∧ RC σ' (len, B, F, nu, W, V, nk, S, ns, M, Y) ∧ ∀ k, 73 ≤ k → σ' k = σ k) := by
  have hC := h.2.1
  have okF' := ok.2.2.1
  have h5 := okF'.2.1
  have r1 := hC.1
  have r2 := hC.2.1
  refine mkRun (by decide +kernel) (Nat.le_of_ble_eq_true rfl) (fun X hF hR => ?_)
  have hbad : ¬ ((0 ≤ i ∧ i < f_nl F) ∧ (0 ≤ m ∧ m < f_nm F) ∧ 0 ≤ what ∧ what ≤ 1) → Gs X 31 (entryL [vR 0, vI i, vI m, vI what] mX9_span.2.2.1) [] σ := by
    intro hc
    refine jr_iconst hF dX9_span_31 (q := 32) rfl (by decide) ?_
    refine jr_retI hF hR dX9_span_32 rfl ⟨by unfold an_span; rw [if_pos hc], h, fun _ _ => rfl⟩
  refine jr_aload_n hF dX9_span_0 (q := 1) rfl rfl ?_
  refine jr_getR (ci := 9) (j := 1) hF dX9_span_1 (q := 4) rfl rfl rfl fl9_19 ?_
  refine jr_iload_n hF dX9_span_4 (q := 5) rfl rfl ?_
  refine jr_cV1I hF (c_hasLad σ 4 pl4 i) dX9_span_5 (q := 8) rfl lk9_120 vX4_hasLad kX4_hasLad rfl rfl rfl (by decide) (Nat.le_of_ble_eq_true rfl) (fun z σ1 hz => ?_)
  obtain ⟨rfl, rfl⟩ := hz
  refine jr_if_eq hF dX9_span_8 (q := 11) rfl 31 (by decide) (fun a1 => ?_) (fun a1 => ?_)
  · exact hbad (fun hh => by rw [if_pos (by omega)] at a1; omega)
  · have b1 : 0 ≤ i ∧ i < σ 4 1 := Classical.byContradiction fun h => a1 (by rw [if_neg h])
    refine jr_aload_n hF dX9_span_11 (q := 12) rfl rfl ?_
    refine jr_getR (ci := 9) (j := 1) hF dX9_span_12 (q := 15) rfl rfl rfl fl9_19 ?_
    refine jr_iload_n hF dX9_span_15 (q := 16) rfl rfl ?_
    refine jr_cV1I hF (c_hasMaster σ 4 pl4 m) dX9_span_16 (q := 19) rfl lk9_144 vX4_hasMaster kX4_hasMaster rfl rfl rfl (by decide) (Nat.le_of_ble_eq_true rfl) (fun z σ1 hz => ?_)
    obtain ⟨rfl, rfl⟩ := hz
    refine jr_if_eq hF dX9_span_19 (q := 22) rfl 31 (by decide) (fun a2 => ?_) (fun a2 => ?_)
    · exact hbad (fun hh => by rw [if_pos (by omega)] at a2; omega)
    · have b2 : 0 ≤ m ∧ m < σ 4 0 := Classical.byContradiction fun h => a2 (by rw [if_neg h])
      refine jr_iload_n hF dX9_span_22 (q := 23) rfl rfl ?_
      refine jr_iconst hF dX9_span_23 (q := 24) rfl (by decide) ?_
      refine jr_iconst hF dX9_span_24 (q := 25) rfl (by decide) ?_
      refine jr_cS3I hF (c_isWithin σ what 0 1) dX9_span_25 (q := 28) rfl lk9_90 vX9_isWithin kX9_isWithin (by decide) (Nat.le_of_ble_eq_true rfl) (fun z σ1 hz => ?_)
      obtain ⟨rfl, rfl⟩ := hz
      refine jr_if_ne hF dX9_span_28 (q := 31) rfl 33 (by decide) (fun a4 => ?_) (fun a4 => ?_)
      · have b4 : 0 ≤ what ∧ what ≤ 1 := Classical.byContradiction fun h => a4 (by rw [if_neg h])
        obtain ⟨p, rfl⟩ : ∃ p : Nat, i = (p : Int) := ⟨i.toNat, by omega⟩
        obtain ⟨q, rfl⟩ : ∃ q : Nat, m = (q : Int) := ⟨m.toNat, by omega⟩
        have hp : p < f_nl F := by omega
        have hq : q < f_nm F := by omega
        have hG : f_set F 5 0 = f_cal F 0 := by unfold f_set; rw [if_pos rfl]
        have okG : okF (f_cal F 0) := by rw [← hG]; exact okF_set okF' (by unfold vld; omega)
        unfold an_span at hR
        rw [if_neg (by omega)] at hR
        have hst := fair_stage okG rfl (ab := 99) (m := q) (i := p) (f_nm F) (by omega)
        refine jr_aload_n hF dX9_span_33 (q := 34) rfl rfl ?_
        refine jr_getR (ci := 9) (j := 2) hF dX9_span_34 (q := 37) rfl rfl rfl fl9_23 ?_
        refine jr_aload_n hF dX9_span_37 (q := 38) rfl rfl ?_
        refine jr_getR (ci := 9) (j := 1) hF dX9_span_38 (q := 41) rfl rfl rfl fl9_19 ?_
        refine jr_cV1V hF (c_copyFrom σ 14 4 pl14 pl4 (by decide) F hC okF') dX9_span_41 (q := 44) rfl lk9_111 vX4_copyFrom kX4_copyFrom rfl rfl rfl (by decide) (Nat.le_of_ble_eq_true rfl) (fun σ1 hz => ?_)
        obtain ⟨g1, g2⟩ := hz
        refine jr_aload_n hF dX9_span_44 (q := 45) rfl rfl ?_
        refine jr_getR (ci := 9) (j := 2) hF dX9_span_45 (q := 48) rfl rfl rfl fl9_23 ?_
        refine jr_getR (ci := 4) (j := 5) hF dX9_span_48 (q := 51) rfl rfl rfl fl9_123 ?_
        refine jr_iconst hF dX9_span_51 (q := 52) rfl (by decide) ?_
        refine jr_iconst hF dX9_span_52 (q := 53) rfl (by decide) ?_
        refine jr_iast hF dX9_span_53 (q := 54) rfl rfl (by omega) ?_
        refine jr_aload_n hF dX9_span_54 (q := 55) rfl rfl ?_
        refine jr_getR (ci := 9) (j := 3) hF dX9_span_55 (q := 58) rfl rfl rfl fl9_29 ?_
        refine jr_aload_n hF dX9_span_58 (q := 59) rfl rfl ?_
        refine jr_getR (ci := 9) (j := 2) hF dX9_span_59 (q := 62) rfl rfl rfl fl9_23 ?_
        refine jr_iconst hF dX9_span_62 (q := 63) rfl (by decide) ?_
        have hC1 : RepC (up σ1 23 5 0) 14 (f_cal F 0) := by
          rw [← hG]
          exact g1.set h5 (by omega) 0
        refine jr_cV2V hF (c_hold _ 14 pl14 _ hC1 okG (-1) 99 ab99) dX9_span_63 (q := 66) rfl lk9_130 vX2_hold kX2_hold rfl rfl rfl (by decide) (Nat.le_of_ble_eq_true rfl) (fun σ2 hz => ?_)
        obtain ⟨k1, k2, k3⟩ := hz
        have hC2 : RepC σ2 14 (f_cal F 0) := hC1.fr h5 (fun k l1 l2 => k3 k (by omega) (by omega) (by omega) (by omega))
        have hfr : ∀ k, k < 14 ∨ 28 < k → σ2 k = σ k := fun k hk => by rw [k3 k (by omega) (by omega) (by omega) (by omega), up_ne (by omega), g2 k (by omega)]
        have hRC2 : RC σ2 (len, B, F, nu, W, V, nk, S, ns, M, Y) := h.fr h5 ok.2.2.2.2.2.2.2.1 (fun k hk => hfr k (by omega))
        have eg : σ2 25 (p : Int) = (f_fair (f_cal F 0) 99 (f_nm F)).1 p := (k1 p (by omega)).1
        have ee : σ2 28 (q : Int) = f_end (f_cal F 0) 99 (f_fair (f_cal F 0) 99 q).1 q := k2 rfl q hq
        refine jr_iload_n hF dX9_span_66 (q := 67) rfl rfl ?_
        refine jr_if_ne hF dX9_span_67 (q := 70) rfl 86 (by decide) (fun a5 => ?_) (fun a5 => ?_)
        · refine jr_aload_n hF dX9_span_86 (q := 87) rfl rfl ?_
          refine jr_getR (ci := 9) (j := 3) hF dX9_span_87 (q := 90) rfl rfl rfl fl9_29 ?_
          refine jr_aload_n hF dX9_span_90 (q := 91) rfl rfl ?_
          refine jr_getR (ci := 9) (j := 2) hF dX9_span_91 (q := 94) rfl rfl rfl fl9_23 ?_
          refine jr_iload_n hF dX9_span_94 (q := 95) rfl rfl ?_
          refine jr_iload_n hF dX9_span_95 (q := 96) rfl rfl ?_
          refine jr_cV3I hF (c_spanTo σ2 14 pl14 _ hC2 okG p q hp hq) dX9_span_96 (q := 99) rfl lk9_229 vX2_spanTo kX2_spanTo rfl rfl rfl (by decide) (Nat.le_of_ble_eq_true rfl) (fun z σ3 hz => ?_)
          obtain ⟨rfl, rfl⟩ := hz
          refine jr_retI hF hR dX9_span_99 rfl ⟨?_, hRC2, fun k hk => hfr k (by omega)⟩
          rw [if_neg a5, if_neg a5, eg, ee]
          by_cases hc : (f_fair (f_cal F 0) 99 q).1 p ≠ -4
          · rw [if_pos (hst.mpr hc)]
            exact (if_pos hc).symm
          · rw [if_neg (fun hh => hc (hst.mp hh))]
            exact (if_neg hc).symm
        · refine jr_aload_n hF dX9_span_70 (q := 71) rfl rfl ?_
          refine jr_getR (ci := 9) (j := 3) hF dX9_span_71 (q := 74) rfl rfl rfl fl9_29 ?_
          refine jr_aload_n hF dX9_span_74 (q := 75) rfl rfl ?_
          refine jr_getR (ci := 9) (j := 2) hF dX9_span_75 (q := 78) rfl rfl rfl fl9_23 ?_
          refine jr_iload_n hF dX9_span_78 (q := 79) rfl rfl ?_
          refine jr_iload_n hF dX9_span_79 (q := 80) rfl rfl ?_
          refine jr_cV3I hF (c_spanFrom σ2 14 pl14 _ hC2 okG p q hp hq) dX9_span_80 (q := 83) rfl lk9_225 vX2_spanFrom kX2_spanFrom rfl rfl rfl (by decide) (Nat.le_of_ble_eq_true rfl) (fun z σ3 hz => ?_)
          obtain ⟨rfl, rfl⟩ := hz
          refine jr_goto hF dX9_span_83 99 (by decide) ?_
          refine jr_retI hF hR dX9_span_99 rfl ⟨?_, hRC2, fun k hk => hfr k (by omega)⟩
          rw [if_pos a5, if_pos a5, eg, ee]
          by_cases hc : (f_fair (f_cal F 0) 99 q).1 p ≠ -4
          · rw [if_pos (hst.mpr hc)]
            exact (if_pos hc).symm
          · rw [if_neg (fun hh => hc (hst.mp hh))]
            exact (if_neg hc).symm
      · exact hbad (fun hh => by rw [if_pos (by omega)] at a4; omega)
set_option maxRecDepth 100000 in
theorem o_year (h : RC σ (len, B, F, nu, W, V, nk, S, ns, M, Y)) (ok : okA (len, B, F, nu, W, V, nk, S, ns, M, Y)) (y what : Int) : RI mX9_year 10 [vR 0, vI y, vI what] σ (fun z σ' => z = an_year F y what ∧ RC σ' (len, B, F, nu, W, V, nk, S, ns, M, Y) ∧ ∀ k, 73 ≤ k → σ' k = σ k) := by
  have hC := h.2.1
  have okF' := ok.2.2.1
  have h5 := okF'.2.1
  have h3 := okF'.1
  refine mkRun (by decide +kernel) (Nat.le_of_ble_eq_true rfl) (fun X hF hR => ?_)
  have hbad : ¬ ((0 ≤ y ∧ y ≤ 9999) ∧ 0 ≤ what ∧ what ≤ 1) → Gs X 20 (entryL [vR 0, vI y, vI what] mX9_year.2.2.1) [] σ := by
    intro hc
    refine jr_iconst hF dX9_year_20 (q := 21) rfl (by decide) ?_
    refine jr_retI hF hR dX9_year_21 rfl ⟨by unfold an_year; rw [if_pos hc], h, fun _ _ => rfl⟩
  refine jr_iload_n hF dX9_year_0 (q := 1) rfl rfl ?_
  refine jr_iconst hF dX9_year_1 (q := 2) rfl (by decide) ?_
  refine jr_sipush hF dX9_year_2 (q := 5) rfl (by decide) (by decide +kernel) ?_
  refine jr_cS3I hF (c_isWithin σ y 0 9999) dX9_year_5 (q := 8) rfl lk9_90 vX9_isWithin kX9_isWithin (by decide) (Nat.le_of_ble_eq_true rfl) (fun z σ1 hz => ?_)
  obtain ⟨rfl, rfl⟩ := hz
  refine jr_if_eq hF dX9_year_8 (q := 11) rfl 20 (by decide) (fun a1 => ?_) (fun a1 => ?_)
  · exact hbad (fun hh => by rw [if_pos (by omega)] at a1; omega)
  · have b1 : 0 ≤ y ∧ y ≤ 9999 := Classical.byContradiction fun h => a1 (by rw [if_neg h])
    refine jr_iload_n hF dX9_year_11 (q := 12) rfl rfl ?_
    refine jr_iconst hF dX9_year_12 (q := 13) rfl (by decide) ?_
    refine jr_iconst hF dX9_year_13 (q := 14) rfl (by decide) ?_
    refine jr_cS3I hF (c_isWithin σ what 0 1) dX9_year_14 (q := 17) rfl lk9_90 vX9_isWithin kX9_isWithin (by decide) (Nat.le_of_ble_eq_true rfl) (fun z σ1 hz => ?_)
    obtain ⟨rfl, rfl⟩ := hz
    refine jr_if_ne hF dX9_year_17 (q := 20) rfl 22 (by decide) (fun a2 => ?_) (fun a2 => ?_)
    · have b2 : 0 ≤ what ∧ what ≤ 1 := Classical.byContradiction fun h => a2 (by rw [if_neg h])
      have okG := okF_drawn okF' y
      unfold an_year at hR
      rw [if_neg (by omega)] at hR
      refine jr_aload_n hF dX9_year_22 (q := 23) rfl rfl ?_
      refine jr_getR (ci := 9) (j := 2) hF dX9_year_23 (q := 26) rfl rfl rfl fl9_23 ?_
      refine jr_aload_n hF dX9_year_26 (q := 27) rfl rfl ?_
      refine jr_getR (ci := 9) (j := 1) hF dX9_year_27 (q := 30) rfl rfl rfl fl9_19 ?_
      refine jr_cV1V hF (c_copyFrom σ 14 4 pl14 pl4 (by decide) F hC okF') dX9_year_30 (q := 33) rfl lk9_111 vX4_copyFrom kX4_copyFrom rfl rfl rfl (by decide) (Nat.le_of_ble_eq_true rfl) (fun σ1 hz => ?_)
      obtain ⟨g1, g2⟩ := hz
      refine jr_aload_n hF dX9_year_33 (q := 34) rfl rfl ?_
      refine jr_getR (ci := 9) (j := 2) hF dX9_year_34 (q := 37) rfl rfl rfl fl9_23 ?_
      refine jr_iload_n hF dX9_year_37 (q := 38) rfl rfl ?_
      refine jr_cV1V hF (c_drawWants σ1 14 pl14 F g1 okF' y b1) dX9_year_38 (q := 41) rfl lk9_232 vX4_drawWants kX4_drawWants rfl rfl rfl (by decide) (Nat.le_of_ble_eq_true rfl) (fun σ2 hz => ?_)
      obtain ⟨j1, j2⟩ := hz
      refine jr_aload_n hF dX9_year_41 (q := 42) rfl rfl ?_
      refine jr_getR (ci := 9) (j := 3) hF dX9_year_42 (q := 45) rfl rfl rfl fl9_29 ?_
      refine jr_aload_n hF dX9_year_45 (q := 46) rfl rfl ?_
      refine jr_getR (ci := 9) (j := 2) hF dX9_year_46 (q := 49) rfl rfl rfl fl9_23 ?_
      refine jr_iconst hF dX9_year_49 (q := 50) rfl (by decide) ?_
      refine jr_cV2V hF (c_hold _ 14 pl14 _ j1 okG (-1) 99 ab99) dX9_year_50 (q := 53) rfl lk9_130 vX2_hold kX2_hold rfl rfl rfl (by decide) (Nat.le_of_ble_eq_true rfl) (fun σ3 hz => ?_)
      obtain ⟨k1, k2, k3⟩ := hz
      have hC3 : RepC σ3 14 (f_drawn F y) := j1.fr h5 (fun k l1 l2 => k3 k (by omega) (by omega) (by omega) (by omega))
      have hfr : ∀ k, k < 14 ∨ 28 < k → σ3 k = σ k := fun k hk => by rw [k3 k (by omega) (by omega) (by omega) (by omega), j2 k (by omega), g2 k (by omega)]
      have hRC3 : RC σ3 (len, B, F, nu, W, V, nk, S, ns, M, Y) := h.fr h5 ok.2.2.2.2.2.2.2.1 (fun k hk => hfr k (by omega))
      refine jr_iload_n hF dX9_year_53 (q := 54) rfl rfl ?_
      refine jr_if_ne hF dX9_year_54 (q := 57) rfl 71 (by decide) (fun a5 => ?_) (fun a5 => ?_)
      · refine jr_aload_n hF dX9_year_71 (q := 72) rfl rfl ?_
        refine jr_getR (ci := 9) (j := 3) hF dX9_year_72 (q := 75) rfl rfl rfl fl9_29 ?_
        refine jr_aload_n hF dX9_year_75 (q := 76) rfl rfl ?_
        refine jr_getR (ci := 9) (j := 2) hF dX9_year_76 (q := 79) rfl rfl rfl fl9_23 ?_
        refine jr_cV1I hF (c_mastersAlone σ3 14 pl14 (f_nl F) (f_nm F) hC3.2.1 hC3.1 h5 h3 (f_fair (f_drawn F y) 99 (f_nm F)) k1) dX9_year_79 (q := 82) rfl lk9_236 vX2_mastersAlone kX2_mastersAlone rfl rfl rfl (by decide) (Nat.le_of_ble_eq_true rfl) (fun z σ4 hz => ?_)
        obtain ⟨rfl, rfl⟩ := hz
        refine jr_retI hF hR dX9_year_82 rfl ⟨?_, hRC3, fun k hk => hfr k (by omega)⟩
        rw [if_neg a5]
      · refine jr_aload_n hF dX9_year_57 (q := 58) rfl rfl ?_
        refine jr_getR (ci := 9) (j := 3) hF dX9_year_58 (q := 61) rfl rfl rfl fl9_29 ?_
        refine jr_aload_n hF dX9_year_61 (q := 62) rfl rfl ?_
        refine jr_getR (ci := 9) (j := 2) hF dX9_year_62 (q := 65) rfl rfl rfl fl9_23 ?_
        refine jr_cV1I hF (c_yearsOfAll σ3 14 pl14 (f_nl F) hC3.2.1 h5 (f_fair (f_drawn F y) 99 (f_nm F)) k1 (wOK_y okG (wOK_fair okG 99 (f_nm F)))) dX9_year_65 (q := 68) rfl lk9_164 vX2_yearsOfAll kX2_yearsOfAll rfl rfl rfl (by decide) (Nat.le_of_ble_eq_true rfl) (fun z σ4 hz => ?_)
        obtain ⟨rfl, rfl⟩ := hz
        refine jr_goto hF dX9_year_68 82 (by decide) ?_
        refine jr_retI hF hR dX9_year_82 rfl ⟨?_, hRC3, fun k hk => hfr k (by omega)⟩
        rw [if_pos a5]
    · exact hbad (fun hh => by rw [if_pos (by omega)] at a2; omega)
end

