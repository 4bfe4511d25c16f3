/-! ===== the reference's calls ===== -/
section
variable (σ : Sg) (len : Nat) (B : Nat → Int) (F : FD) (nu : Nat) (W V : Nat → Int) (nk : Nat) (S : Nat → Int → Int) (ns : Nat) (M Y : Nat → Int)
set_option maxRecDepth 100000 in
theorem m_lad (h : RM σ (len, B, F, nu, W, V, nk, S, ns, M, Y)) (ok : okA (len, B, F, nu, W, V, nk, S, ns, M, Y)) (i what : Int) : RI mX10_lad 10 [vR 73, vI i, vI what] σ (fun z σ' => z = an_lad F i what ∧ RM σ' (len, B, F, nu, W, V, nk, S, ns, M, Y) ∧ ∀ k, k < 73 → σ' k = σ k) := by
  have hC := h.2.1
  have okF' := ok.2.2.1
  have h5 := okF'.2.1
  refine mkRun (by decide +kernel) (Nat.le_of_ble_eq_true rfl) (fun X hF hR => ?_)
  have hbad : ¬ ((0 ≤ i ∧ i < f_nl F) ∧ 0 ≤ what ∧ what ≤ 4) → Gs X 20 (entryL [vR 73, vI i, vI what] mX10_lad.2.2.1) [] σ := by
    intro hc
    refine jr_iconst hF dX10_lad_20 (q := 21) rfl (by decide) ?_
    refine jr_retI hF hR dX10_lad_21 rfl ⟨by unfold an_lad; rw [if_pos hc], h, fun _ _ => rfl⟩
  refine jr_aload_n hF dX10_lad_0 (q := 1) rfl rfl ?_
  refine jr_iload_n hF dX10_lad_1 (q := 2) rfl rfl ?_
  refine jr_cV1I hF (m_isLad σ F hC okF' i) dX10_lad_2 (q := 5) rfl lk10_177 vX10_isLad kX10_isLad rfl rfl rfl (by decide) (Nat.le_of_ble_eq_true rfl) (fun z σ1 hz => ?_)
  obtain ⟨rfl, rfl⟩ := hz
  refine jr_if_eq hF dX10_lad_5 (q := 8) rfl 20 (by decide) (fun a1 => ?_) (fun a1 => ?_)
  · exact hbad (fun hh => by rw [if_pos (by omega)] at a1; omega)
  · have b1 : 0 ≤ i ∧ i < f_nl F := Classical.byContradiction fun h => a1 (by rw [if_neg h])
    refine jr_iload_n hF dX10_lad_8 (q := 9) rfl rfl ?_
    refine jr_i2l hF dX10_lad_9 (q := 10) rfl ?_
    refine jr_lconst hF 0 dX10_lad_10 (q := 11) rfl (by decide) (by decide +kernel) ?_
    refine jr_ldc2 hF 4 dX10_lad_11 (q := 14) rfl kl10_180 (by decide) (by decide +kernel) ?_
    refine jr_cS3I hF (m_in σ what 0 4) dX10_lad_14 (q := 17) rfl lk10_79 vX10_in kX10_in (by decide) (Nat.le_of_ble_eq_true rfl) (fun z σ1 hz => ?_)
    obtain ⟨rfl, rfl⟩ := hz
    refine jr_if_ne hF dX10_lad_17 (q := 20) rfl 22 (by decide) (fun a2 => ?_) (fun a2 => ?_)
    · have b2 : 0 ≤ what ∧ what ≤ 4 := Classical.byContradiction fun h => a2 (by rw [if_neg h])
      obtain ⟨j, rfl⟩ : ∃ j : Nat, i = (j : Int) := ⟨i.toNat, by omega⟩
      have hj : j < f_nl F := by omega
      unfold an_lad at hR
      rw [if_neg (by omega)] at hR
      have hl := hC.lim hj
      have hk := hC.kind hj
      refine jr_iload_n hF dX10_lad_22 (q := 23) rfl rfl ?_
      refine jr_iconst hF dX10_lad_23 (q := 24) rfl (by decide) ?_
      refine jr_icmp_ge hF dX10_lad_24 (q := 27) rfl 47 (by decide) (fun a3 => ?_) (fun a3 => ?_)
      · refine jr_aload_n hF dX10_lad_47 (q := 48) rfl rfl ?_
        refine jr_bipush hF dX10_lad_48 (q := 50) rfl (by decide) (by decide +kernel) ?_
        refine jr_cV1V hF (m_goFair σ F hC okF' (-4) 99 abM4) dX10_lad_50 (q := 53) rfl lk10_182 vX10_goFair kX10_goFair rfl rfl rfl (by decide) (Nat.le_of_ble_eq_true rfl) (fun σ1 hz => ?_)
        obtain ⟨g1, g2⟩ := hz
        have hw := wOK_fair okF' 99 (f_nm F)
        obtain ⟨e1, e2⟩ := g1 j (by omega)
        refine jr_iload_n hF dX10_lad_53 (q := 54) rfl rfl ?_
        refine jr_iconst hF dX10_lad_54 (q := 55) rfl (by decide) ?_
        refine jr_icmp_ne hF dX10_lad_55 (q := 58) rfl 67 (by decide) (fun a4 => ?_) (fun a4 => ?_)
        · refine jr_iload_n hF dX10_lad_67 (q := 68) rfl rfl ?_
          refine jr_iconst hF dX10_lad_68 (q := 69) rfl (by decide) ?_
          refine jr_icmp_ne hF dX10_lad_69 (q := 72) rfl 81 (by decide) (fun a5 => ?_) (fun a5 => ?_)
          · refine jr_aload_n hF dX10_lad_81 (q := 82) rfl rfl ?_
            refine jr_iload_n hF dX10_lad_82 (q := 83) rfl rfl ?_
            refine jr_cV1I hF (m_gainOf σ1 F (hC.mf g2) okF' 99 _ hw g1 j hj) dX10_lad_83 (q := 86) rfl lk10_185 vX10_gainOf kX10_gainOf rfl rfl rfl (by decide) (Nat.le_of_ble_eq_true rfl) (fun z σ2 hz => ?_)
            obtain ⟨rfl, rfl⟩ := hz
            refine jr_retI hF hR dX10_lad_86 rfl ⟨by rw [if_neg (by omega), if_neg (by omega), if_neg a4, if_neg a5]; rfl, h.mf g2, g2.lo⟩
          · refine jr_aload_n hF dX10_lad_72 (q := 73) rfl rfl ?_
            refine jr_getR (ci := 10) (j := 19) hF dX10_lad_73 (q := 76) rfl rfl rfl fl10_52 ?_
            refine jr_iload_n hF dX10_lad_76 (q := 77) rfl rfl ?_
            refine jr_iald hF dX10_lad_77 (q := 78) rfl rfl (by omega) ?_
            refine jr_goto hF dX10_lad_78 86 (by decide) ?_
            rw [e2]
            refine jr_retI hF hR dX10_lad_86 rfl ⟨by rw [if_neg (by omega), if_neg (by omega), if_neg a4, if_pos a5]; rfl, h.mf g2, g2.lo⟩
        · refine jr_aload_n hF dX10_lad_58 (q := 59) rfl rfl ?_
          refine jr_getR (ci := 10) (j := 18) hF dX10_lad_59 (q := 62) rfl rfl rfl fl10_49 ?_
          refine jr_iload_n hF dX10_lad_62 (q := 63) rfl rfl ?_
          refine jr_iald hF dX10_lad_63 (q := 64) rfl rfl (by omega) ?_
          refine jr_goto hF dX10_lad_64 86 (by decide) ?_
          rw [e1]
          refine jr_retI hF hR dX10_lad_86 rfl ⟨by rw [if_neg (by omega), if_neg (by omega), if_pos a4]; rfl, h.mf g2, g2.lo⟩
      · refine jr_iload_n hF dX10_lad_27 (q := 28) rfl rfl ?_
        refine jr_if_ne hF dX10_lad_28 (q := 31) rfl 40 (by decide) (fun a4 => ?_) (fun a4 => ?_)
        · refine jr_aload_n hF dX10_lad_40 (q := 41) rfl rfl ?_
          refine jr_getR (ci := 10) (j := 5) hF dX10_lad_41 (q := 44) rfl rfl rfl fl10_22 ?_
          refine jr_iload_n hF dX10_lad_44 (q := 45) rfl rfl ?_
          refine jr_iald hF dX10_lad_45 (q := 46) rfl rfl (by omega) ?_
          refine jr_retI hF hR dX10_lad_46 rfl ⟨by rw [if_neg a4, if_pos (by omega)]; exact hk, h, fun _ _ => rfl⟩
        · refine jr_aload_n hF dX10_lad_31 (q := 32) rfl rfl ?_
          refine jr_getR (ci := 10) (j := 7) hF dX10_lad_32 (q := 35) rfl rfl rfl fl10_28 ?_
          refine jr_iload_n hF dX10_lad_35 (q := 36) rfl rfl ?_
          refine jr_iald hF dX10_lad_36 (q := 37) rfl rfl (by omega) ?_
          refine jr_goto hF dX10_lad_37 46 (by decide) ?_
          refine jr_retI hF hR dX10_lad_46 rfl ⟨by rw [if_pos a4]; exact hl, h, fun _ _ => rfl⟩
    · exact hbad (fun hh => by rw [if_pos (by omega)] at a2; omega)
set_option maxRecDepth 100000 in
theorem m_master (h : RM σ (len, B, F, nu, W, V, nk, S, ns, M, Y)) (ok : okA (len, B, F, nu, W, V, nk, S, ns, M, Y)) (i what : Int) : RI mX10_master 10 [vR 73, vI i, vI what] σ (fun z σ' => z = an_master F i what ∧ RM σ' (len, B, F, nu, W, V, nk, S, ns, M, Y) ∧ ∀ k, k < 73 → σ' k = σ k) := by
  have hC := h.2.1
  have okF' := ok.2.2.1
  have h5 := okF'.2.1
  have h3 := okF'.1
  refine mkRun (by decide +kernel) (Nat.le_of_ble_eq_true rfl) (fun X hF hR => ?_)
  have hbad : ¬ ((0 ≤ i ∧ i < f_nm F) ∧ 0 ≤ what ∧ what ≤ 2) → Gs X 20 (entryL [vR 73, vI i, vI what] mX10_master.2.2.1) [] σ := by
    intro hc
    refine jr_iconst hF dX10_master_20 (q := 21) rfl (by decide) ?_
    refine jr_retI hF hR dX10_master_21 rfl ⟨by unfold an_master; rw [if_pos hc], h, fun _ _ => rfl⟩
  refine jr_aload_n hF dX10_master_0 (q := 1) rfl rfl ?_
  refine jr_iload_n hF dX10_master_1 (q := 2) rfl rfl ?_
  refine jr_cV1I hF (m_isMaster σ F hC okF' i) dX10_master_2 (q := 5) rfl lk10_188 vX10_isMaster kX10_isMaster rfl rfl rfl (by decide) (Nat.le_of_ble_eq_true rfl) (fun z σ1 hz => ?_)
  obtain ⟨rfl, rfl⟩ := hz
  refine jr_if_eq hF dX10_master_5 (q := 8) rfl 20 (by decide) (fun a1 => ?_) (fun a1 => ?_)
  · exact hbad (fun hh => by rw [if_pos (by omega)] at a1; omega)
  · have b1 : 0 ≤ i ∧ i < f_nm F := Classical.byContradiction fun h => a1 (by rw [if_neg h])
    refine jr_iload_n hF dX10_master_8 (q := 9) rfl rfl ?_
    refine jr_i2l hF dX10_master_9 (q := 10) rfl ?_
    refine jr_lconst hF 0 dX10_master_10 (q := 11) rfl (by decide) (by decide +kernel) ?_
    refine jr_ldc2 hF 2 dX10_master_11 (q := 14) rfl kl10_100 (by decide) (by decide +kernel) ?_
    refine jr_cS3I hF (m_in σ what 0 2) dX10_master_14 (q := 17) rfl lk10_79 vX10_in kX10_in (by decide) (Nat.le_of_ble_eq_true rfl) (fun z σ1 hz => ?_)
    obtain ⟨rfl, rfl⟩ := hz
    refine jr_if_ne hF dX10_master_17 (q := 20) rfl 22 (by decide) (fun a2 => ?_) (fun a2 => ?_)
    · have b2 : 0 ≤ what ∧ what ≤ 2 := Classical.byContradiction fun h => a2 (by rw [if_neg h])
      obtain ⟨j, rfl⟩ : ∃ j : Nat, i = (j : Int) := ⟨i.toNat, by omega⟩
      have hj : j < f_nm F := by omega
      unfold an_master at hR
      rw [if_neg (by omega)] at hR
      have hl := hC.room hj
      refine jr_iload_n hF dX10_master_22 (q := 23) rfl rfl ?_
      refine jr_if_ne hF dX10_master_23 (q := 26) rfl 33 (by decide) (fun a3 => ?_) (fun a3 => ?_)
      · refine jr_aload_n hF dX10_master_33 (q := 34) rfl rfl ?_
        refine jr_bipush hF dX10_master_34 (q := 36) rfl (by decide) (by decide +kernel) ?_
        refine jr_cV1V hF (m_goFair σ F hC okF' (-4) 99 abM4) dX10_master_36 (q := 39) rfl lk10_182 vX10_goFair kX10_goFair rfl rfl rfl (by decide) (Nat.le_of_ble_eq_true rfl) (fun σ1 hz => ?_)
        obtain ⟨g1, g2⟩ := hz
        have hC1 := hC.mf g2
        refine jr_iload_n hF dX10_master_39 (q := 40) rfl rfl ?_
        refine jr_iconst hF dX10_master_40 (q := 41) rfl (by decide) ?_
        refine jr_icmp_ne hF dX10_master_41 (q := 44) rfl 52 (by decide) (fun a4 => ?_) (fun a4 => ?_)
        · refine jr_aload_n hF dX10_master_52 (q := 53) rfl rfl ?_
          refine jr_iload_n hF dX10_master_53 (q := 54) rfl rfl ?_
          refine jr_cV1I hF (m_mostOf σ1 (f_nl F) hC1.2.1 h5 _ g1 (j : Int)) dX10_master_54 (q := 57) rfl lk10_194 vX10_mostOf kX10_mostOf rfl rfl rfl (by decide) (Nat.le_of_ble_eq_true rfl) (fun z σ2 hz => ?_)
          obtain ⟨rfl, rfl⟩ := hz
          refine jr_retI hF hR dX10_master_57 rfl ⟨by rw [if_neg a3, if_neg a4], h.mf g2, g2.lo⟩
        · refine jr_aload_n hF dX10_master_44 (q := 45) rfl rfl ?_
          refine jr_iload_n hF dX10_master_45 (q := 46) rfl rfl ?_
          refine jr_cV1I hF (m_ladsOf σ1 (f_nl F) hC1.2.1 h5 _ g1 (j : Int)) dX10_master_46 (q := 49) rfl lk10_191 vX10_ladsOf kX10_ladsOf rfl rfl rfl (by decide) (Nat.le_of_ble_eq_true rfl) (fun z σ2 hz => ?_)
          obtain ⟨rfl, rfl⟩ := hz
          refine jr_goto hF dX10_master_49 57 (by decide) ?_
          refine jr_retI hF hR dX10_master_57 rfl ⟨by rw [if_neg a3, if_pos a4], h.mf g2, g2.lo⟩
      · refine jr_aload_n hF dX10_master_26 (q := 27) rfl rfl ?_
        refine jr_getR (ci := 10) (j := 3) hF dX10_master_27 (q := 30) rfl rfl rfl fl10_16 ?_
        refine jr_iload_n hF dX10_master_30 (q := 31) rfl rfl ?_
        refine jr_iald hF dX10_master_31 (q := 32) rfl rfl (by omega) ?_
        refine jr_retI hF hR dX10_master_32 rfl ⟨by rw [if_pos a3]; exact hl, h, fun _ _ => rfl⟩
    · exact hbad (fun hh => by rw [if_pos (by omega)] at a2; omega)
set_option maxRecDepth 100000 in
theorem m_wants (h : RM σ (len, B, F, nu, W, V, nk, S, ns, M, Y)) (ok : okA (len, B, F, nu, W, V, nk, S, ns, M, Y)) (i m what : Int) : RI mX10_wants 10 [vR 73, vI i, vI m, vI what] σ (fun z σ' => z = an_wants F i m what ∧ RM σ' (len, B, F, nu, W, V, nk, S, ns, M, Y) ∧ ∀ k, k < 73 → σ' k = σ k) := by
  have hC := h.2.1
  have okF' := ok.2.2.1
  have h5 := okF'.2.1
  have h3 := okF'.1
  refine mkRun (by decide +kernel) (Nat.le_of_ble_eq_true rfl) (fun X hF hR => ?_)
  have hbad : ¬ ((0 ≤ i ∧ i < f_nl F) ∧ (0 ≤ m ∧ m < f_nm F) ∧ 0 ≤ what ∧ what ≤ 1) → Gs X 26 (entryL [vR 73, vI i, vI m, vI what] mX10_wants.2.2.1) [] σ := by
    intro hc
    refine jr_iconst hF dX10_wants_26 (q := 27) rfl (by decide) ?_
    refine jr_retI hF hR dX10_wants_27 rfl ⟨by unfold an_wants; rw [if_pos hc], h, fun _ _ => rfl⟩
  refine jr_aload_n hF dX10_wants_0 (q := 1) rfl rfl ?_
  refine jr_iload_n hF dX10_wants_1 (q := 2) rfl rfl ?_
  refine jr_cV1I hF (m_isLad σ F hC okF' i) dX10_wants_2 (q := 5) rfl lk10_177 vX10_isLad kX10_isLad rfl rfl rfl (by decide) (Nat.le_of_ble_eq_true rfl) (fun z σ1 hz => ?_)
  obtain ⟨rfl, rfl⟩ := hz
  refine jr_if_eq hF dX10_wants_5 (q := 8) rfl 26 (by decide) (fun a1 => ?_) (fun a1 => ?_)
  · exact hbad (fun hh => by rw [if_pos (by omega)] at a1; omega)
  · have b1 : 0 ≤ i ∧ i < f_nl F := Classical.byContradiction fun h => a1 (by rw [if_neg h])
    refine jr_aload_n hF dX10_wants_8 (q := 9) rfl rfl ?_
    refine jr_iload_n hF dX10_wants_9 (q := 10) rfl rfl ?_
    refine jr_cV1I hF (m_isMaster σ F hC okF' m) dX10_wants_10 (q := 13) rfl lk10_188 vX10_isMaster kX10_isMaster rfl rfl rfl (by decide) (Nat.le_of_ble_eq_true rfl) (fun z σ1 hz => ?_)
    obtain ⟨rfl, rfl⟩ := hz
    refine jr_if_eq hF dX10_wants_13 (q := 16) rfl 26 (by decide) (fun a0 => ?_) (fun a0 => ?_)
    · exact hbad (fun hh => by rw [if_pos (by omega)] at a0; omega)
    · have b0 : 0 ≤ m ∧ m < f_nm F := Classical.byContradiction fun h => a0 (by rw [if_neg h])
      refine jr_iload_n hF dX10_wants_16 (q := 17) rfl rfl ?_
      refine jr_i2l hF dX10_wants_17 (q := 18) rfl ?_
      refine jr_lconst hF 0 dX10_wants_18 (q := 19) rfl (by decide) (by decide +kernel) ?_
      refine jr_lconst hF 1 dX10_wants_19 (q := 20) rfl (by decide) (by decide +kernel) ?_
      refine jr_cS3I hF (m_in σ what 0 1) dX10_wants_20 (q := 23) rfl lk10_79 vX10_in kX10_in (by decide) (Nat.le_of_ble_eq_true rfl) (fun z σ1 hz => ?_)
      obtain ⟨rfl, rfl⟩ := hz
      refine jr_if_ne hF dX10_wants_23 (q := 26) rfl 28 (by decide) (fun a2 => ?_) (fun a2 => ?_)
      · have b2 : 0 ≤ what ∧ what ≤ 1 := Classical.byContradiction fun h => a2 (by rw [if_neg h])
        obtain ⟨p, rfl⟩ : ∃ j : Nat, i = (j : Int) := ⟨i.toNat, by omega⟩
        obtain ⟨q, rfl⟩ : ∃ j : Nat, m = (j : Int) := ⟨m.toNat, by omega⟩
        have hp : p < f_nl F := by omega
        have hq : q < f_nm F := by omega
        unfold an_wants at hR
        rw [if_neg (by omega)] at hR
        refine jr_iload_n hF dX10_wants_28 (q := 29) rfl rfl ?_
        refine jr_if_ne hF dX10_wants_29 (q := 32) rfl 45 (by decide) (fun a3 => ?_) (fun a3 => ?_)
        · refine jr_aload_n hF dX10_wants_45 (q := 46) rfl rfl ?_
          refine jr_iload_n hF dX10_wants_46 (q := 47) rfl rfl ?_
          refine jr_iload_n hF dX10_wants_47 (q := 48) rfl rfl ?_
          refine jr_cV2I hF (m_boundOf σ F hC okF' p q hp hq) dX10_wants_48 (q := 51) rfl lk10_134 vX10_boundOf kX10_boundOf rfl rfl rfl (by decide) (Nat.le_of_ble_eq_true rfl) (fun z σ2 hz => ?_)
          obtain ⟨rfl, rfl⟩ := hz
          refine jr_retI hF hR dX10_wants_51 rfl ⟨by rw [if_neg a3]; rfl, h, fun _ _ => rfl⟩
        · refine jr_aload_n hF dX10_wants_32 (q := 33) rfl rfl ?_
          refine jr_getR (ci := 10) (j := 6) hF dX10_wants_33 (q := 36) rfl rfl rfl fl10_25 ?_
          refine jr_iconst hF dX10_wants_36 (q := 37) rfl (by decide) ?_
          refine jr_iload_n hF dX10_wants_37 (q := 38) rfl rfl ?_
          refine jr_imul hF dX10_wants_38 (q := 39) rfl (by omega) ?_
          refine jr_iload_n hF dX10_wants_39 (q := 40) rfl rfl ?_
          refine jr_iadd hF dX10_wants_40 (q := 41) rfl (by omega) ?_
          refine jr_iald hF dX10_wants_41 (q := 42) rfl rfl (by omega) ?_
          refine jr_goto hF dX10_wants_42 51 (by decide) ?_
          refine jr_retI hF hR dX10_wants_51 rfl ⟨by rw [if_pos a3]; exact hC.want hp hq, h, fun _ _ => rfl⟩
      · exact hbad (fun hh => by rw [if_pos (by omega)] at a2; omega)
set_option maxRecDepth 100000 in
theorem m_all (h : RM σ (len, B, F, nu, W, V, nk, S, ns, M, Y)) (ok : okA (len, B, F, nu, W, V, nk, S, ns, M, Y)) (what : Int) : RI mX10_all 10 [vR 73, vI what] σ (fun z σ' => z = an_all F what ∧ RM σ' (len, B, F, nu, W, V, nk, S, ns, M, Y) ∧ ∀ k, k < 73 → σ' k = σ k) := by
  have hC := h.2.1
  have okF' := ok.2.2.1
  have h5 := okF'.2.1
  have h3 := okF'.1
  have hw := wOK_fair okF' 99 (f_nm F)
  have hcnt : ∀ n, cnt (fun i => decide ((f_fair F 99 (f_nm F)).1 i ≠ -4)) n = sumF (fun i => if (f_fair F 99 (f_nm F)).1 i = -4 then 0 else 1) n := by
    intro n
    induction n with
    | zero => rfl
    | succ n ih =>
      unfold cnt sumF
      rw [ih]
      by_cases e : (f_fair F 99 (f_nm F)).1 n = -4 <;> simp [e]
  refine mkRun (by decide +kernel) (Nat.le_of_ble_eq_true rfl) (fun X hF hR => ?_)
  refine jr_iload_n hF dX10_all_0 (q := 1) rfl rfl ?_
  refine jr_i2l hF dX10_all_1 (q := 2) rfl ?_
  refine jr_lconst hF 0 dX10_all_2 (q := 3) rfl (by decide) (by decide +kernel) ?_
  refine jr_ldc2 hF 2 dX10_all_3 (q := 6) rfl kl10_100 (by decide) (by decide +kernel) ?_
  refine jr_cS3I hF (m_in σ what 0 2) dX10_all_6 (q := 9) rfl lk10_79 vX10_in kX10_in (by decide) (Nat.le_of_ble_eq_true rfl) (fun z σ1 hz => ?_)
  obtain ⟨rfl, rfl⟩ := hz
  refine jr_if_ne hF dX10_all_9 (q := 12) rfl 14 (by decide) (fun a2 => ?_) (fun a2 => ?_)
  · have b2 : 0 ≤ what ∧ what ≤ 2 := Classical.byContradiction fun h => a2 (by rw [if_neg h])
    refine jr_aload_n hF dX10_all_14 (q := 15) rfl rfl ?_
    refine jr_bipush hF dX10_all_15 (q := 17) rfl (by decide) (by decide +kernel) ?_
    refine jr_cV1V hF (m_goFair σ F hC okF' (-4) 99 abM4) dX10_all_17 (q := 20) rfl lk10_182 vX10_goFair kX10_goFair rfl rfl rfl (by decide) (Nat.le_of_ble_eq_true rfl) (fun σ1 hz => ?_)
    obtain ⟨g1, g2⟩ := hz
    have hC1 := hC.mf g2
    have r2 := hC1.2.1
    have eA : an_all F what = sumF (fun i => if what = 0 then (f_fair F 99 (f_nm F)).2 i else if what = 1 then f_gn F (f_fair F 99 (f_nm F)) i else if (f_fair F 99 (f_nm F)).1 i = -4 then 0 else 1) (f_nl F) := by
      unfold an_all
      rw [if_neg (by omega)]
      by_cases e0 : what = 0
      · rw [if_pos e0]; exact sumF_congr (fun i _ => by rw [if_pos e0])
      · rw [if_neg e0]
        by_cases e1 : what = 1
        · rw [if_pos e1]; exact sumF_congr (fun i _ => by rw [if_neg e0, if_pos e1])
        · rw [if_neg e1, hcnt]; exact sumF_congr (fun i _ => by rw [if_neg e0, if_neg e1])
    rw [eA] at hR
    generalize hff : (fun i => if what = 0 then (f_fair F 99 (f_nm F)).2 i else if what = 1 then f_gn F (f_fair F 99 (f_nm F)) i else if (f_fair F 99 (f_nm F)).1 i = -4 then 0 else 1) = ff at hR
    have hle : ∀ i, 0 ≤ ff i ∧ ff i ≤ 10 := by
      intro i
      have q1 := wOK_y okF' hw i
      have q2 := f_gn_le okF' hw i
      rw [← hff]
      dsimp only
      repeat' split
      all_goals omega
    refine jr_iconst hF dX10_all_20 (q := 21) rfl (by decide) ?_
    refine jr_istore_n hF dX10_all_21 (q := 22) rfl (by decide) rfl ?_
    refine jr_iconst hF dX10_all_22 (q := 23) rfl (by decide) ?_
    refine jr_istore_n hF dX10_all_23 (q := 24) rfl (by decide) rfl ?_
    refine gs_loop (α := Unit) (fun k _ => [some (vR 73), some (vI what), some (vI (sumF ff k)), some (vI (k : Int))]) (fun _ => σ1) (fun _ _ => True) (f_nl F) (fun _ _ => ?_) (fun k _ hk _ ih => ?_) () trivial
    · refine jr_iload_n hF dX10_all_24 (q := 25) rfl rfl ?_
      refine jr_aload_n hF dX10_all_25 (q := 26) rfl rfl ?_
      refine jr_getR (ci := 10) (j := 4) hF dX10_all_26 (q := 29) rfl rfl rfl fl10_19 ?_
      refine jr_iconst hF dX10_all_29 (q := 30) rfl (by decide) ?_
      refine jr_iald hF dX10_all_30 (q := 31) rfl rfl (by omega) ?_
      refine jr_icmp_ge hF dX10_all_31 (q := 34) rfl 83 (by decide) (fun h1 => ?_) (fun h1 => ?_)
      · refine jr_iload_n hF dX10_all_83 (q := 84) rfl rfl ?_
        refine jr_retI hF hR dX10_all_84 rfl ⟨rfl, h.mf g2, g2.lo⟩
      · omega
    · have hs := sumF_le (y := ff) (n := k) (fun i _ => hle i)
      have hk1 := hle k
      have ih1 := ih () trivial
      have hcont : ∀ v : Int, v = ff k → Gs X 75 [some (vR 73), some (vI what), some (vI (sumF ff k)), some (vI (k : Int))] [vI v, vI (sumF ff k)] σ1 := by
        intro v hv
        subst hv
        refine jr_iadd hF dX10_all_75 (q := 76) rfl (by omega) ?_
        refine jr_istore_n hF dX10_all_76 (q := 77) rfl (by decide) rfl ?_
        refine jr_iinc hF dX10_all_77 (q := 80) rfl (by decide) rfl rfl (by omega) ?_
        refine jr_goto hF dX10_all_80 24 (by decide) ?_
        exact ih1
      obtain ⟨e1, e2⟩ := g1 k (by omega)
      refine jr_iload_n hF dX10_all_24 (q := 25) rfl rfl ?_
      refine jr_aload_n hF dX10_all_25 (q := 26) rfl rfl ?_
      refine jr_getR (ci := 10) (j := 4) hF dX10_all_26 (q := 29) rfl rfl rfl fl10_19 ?_
      refine jr_iconst hF dX10_all_29 (q := 30) rfl (by decide) ?_
      refine jr_iald hF dX10_all_30 (q := 31) rfl rfl (by omega) ?_
      refine jr_icmp_ge hF dX10_all_31 (q := 34) rfl 83 (by decide) (fun h1 => ?_) (fun h1 => ?_)
      · omega
      · refine jr_iload_n hF dX10_all_34 (q := 35) rfl rfl ?_
        refine jr_iload_n hF dX10_all_35 (q := 36) rfl rfl ?_
        refine jr_if_ne hF dX10_all_36 (q := 39) rfl 48 (by decide) (fun h2 => ?_) (fun h2 => ?_)
        · refine jr_iload_n hF dX10_all_48 (q := 49) rfl rfl ?_
          refine jr_iconst hF dX10_all_49 (q := 50) rfl (by decide) ?_
          refine jr_icmp_ne hF dX10_all_50 (q := 53) rfl 61 (by decide) (fun h4 => ?_) (fun h4 => ?_)
          · refine jr_aload_n hF dX10_all_61 (q := 62) rfl rfl ?_
            refine jr_getR (ci := 10) (j := 18) hF dX10_all_62 (q := 65) rfl rfl rfl fl10_49 ?_
            refine jr_iload_n hF dX10_all_65 (q := 66) rfl rfl ?_
            refine jr_iald hF dX10_all_66 (q := 67) rfl rfl (by omega) ?_
            rw [e1]
            have hgk := gOK_fair F 99 (f_nm F) k
            refine jr_if_ge hF dX10_all_67 (q := 70) rfl 74 (by decide) (fun h6 => ?_) (fun h6 => ?_)
            · refine jr_iconst hF dX10_all_74 (q := 75) rfl (by decide) ?_
              refine hcont _ ?_
              rw [← hff]
              dsimp only
              rw [if_neg h2, if_neg h4, if_neg (by omega)]
            · refine jr_iconst hF dX10_all_70 (q := 71) rfl (by decide) ?_
              refine jr_goto hF dX10_all_71 75 (by decide) ?_
              refine hcont _ ?_
              rw [← hff]
              dsimp only
              rw [if_neg h2, if_neg h4, if_pos (by omega)]
          · refine jr_aload_n hF dX10_all_53 (q := 54) rfl rfl ?_
            refine jr_iload_n hF dX10_all_54 (q := 55) rfl rfl ?_
            refine jr_cV1I hF (m_gainOf σ1 F hC1 okF' 99 _ hw g1 k hk) dX10_all_55 (q := 58) rfl lk10_185 vX10_gainOf kX10_gainOf rfl rfl rfl (by decide) (Nat.le_of_ble_eq_true rfl) (fun z σ2 hz => ?_)
            obtain ⟨rfl, rfl⟩ := hz
            refine jr_goto hF dX10_all_58 75 (by decide) ?_
            refine hcont _ ?_
            rw [← hff]
            dsimp only
            rw [if_neg h2, if_pos h4]
        · refine jr_aload_n hF dX10_all_39 (q := 40) rfl rfl ?_
          refine jr_getR (ci := 10) (j := 19) hF dX10_all_40 (q := 43) rfl rfl rfl fl10_52 ?_
          refine jr_iload_n hF dX10_all_43 (q := 44) rfl rfl ?_
          refine jr_iald hF dX10_all_44 (q := 45) rfl rfl (by omega) ?_
          refine jr_goto hF dX10_all_45 75 (by decide) ?_
          rw [e2]
          refine hcont _ ?_
          rw [← hff]
          dsimp only
          rw [if_pos h2]
  · have b2 : ¬ (0 ≤ what ∧ what ≤ 2) := fun h => by rw [if_pos h] at a2; omega
    refine jr_iconst hF dX10_all_12 (q := 13) rfl (by decide) ?_
    refine jr_retI hF hR dX10_all_13 rfl ⟨by unfold an_all; rw [if_pos b2], h, fun _ _ => rfl⟩
set_option maxRecDepth 100000 in
theorem m_forget (h : RM σ (len, B, F, nu, W, V, nk, S, ns, M, Y)) : RI mX10_forget 10 [vR 73] σ (fun z σ' => z = (ns : Int) ∧ RM σ' (nx_forget (len, B, F, nu, W, V, nk, S, ns, M, Y)) ∧ ∀ k, k < 73 → σ' k = σ k) := by
  obtain ⟨⟨t1, t3⟩, hC, ⟨c1, c2⟩, ⟨k1, k2⟩, s1, s2⟩ := h
  refine mkRun (by decide +kernel) (Nat.le_of_ble_eq_true rfl) (fun X hF hR => ?_)
  refine jr_aload_n hF dX10_forget_0 (q := 1) rfl rfl ?_
  refine jr_getI (ci := 10) (j := 13) hF 13 rfl dX10_forget_1 (q := 4) rfl rfl rfl fl10_128 ?_
  refine jr_istore_n hF dX10_forget_4 (q := 5) rfl (by decide) rfl ?_
  refine jr_aload_n hF dX10_forget_5 (q := 6) rfl rfl ?_
  refine jr_iconst hF dX10_forget_6 (q := 7) rfl (by decide) ?_
  refine jr_putI (ci := 10) (j := 13) hF 13 rfl dX10_forget_7 (q := 10) rfl rfl rfl fp10_128 ?_
  refine jr_iload_n hF dX10_forget_10 (q := 11) rfl rfl ?_
  refine jr_retI hF hR dX10_forget_11 rfl ⟨s1, ⟨⟨?_, fun k hk => ?_⟩, hC.fr (fun k l1 l2 => up_ne (by omega)), ⟨?_, fun j hj => ?_⟩, ⟨?_, fun k hk => ?_⟩, ?_, fun j hj => absurd hj (Nat.not_lt_zero j)⟩, fun k hk => up_ne (by omega)⟩
  · rw [← t1]; simp [up]
  · rw [up_ne (by decide)]; exact t3 k hk
  · rw [← c1]; simp [up]
  · rw [up_ne (by decide)]; exact c2 j hj
  · rw [← k1]; simp [up]
  · rw [up_ne (by decide), up_ne (by decide), up_ne (by decide)]; exact k2 k hk
  · simp [up]
set_option maxRecDepth 100000 in
theorem m_wipe (h : RM σ (len, B, F, nu, W, V, nk, S, ns, M, Y)) : RI mX10_wipe 10 [vR 73] σ (fun z σ' => z = (len : Int) ∧ RM σ' (nx_wipe (len, B, F, nu, W, V, nk, S, ns, M, Y)) ∧ ∀ k, k < 73 → σ' k = σ k) := by
  obtain ⟨⟨t1, t3⟩, hC, ⟨c1, c2⟩, ⟨k1, k2⟩, s1, s2⟩ := h
  refine mkRun (by decide +kernel) (Nat.le_of_ble_eq_true rfl) (fun X hF hR => ?_)
  refine jr_aload_n hF dX10_wipe_0 (q := 1) rfl rfl ?_
  refine jr_getI (ci := 10) (j := 0) hF 0 rfl dX10_wipe_1 (q := 4) rfl rfl rfl fl10_83 ?_
  refine jr_istore_n hF dX10_wipe_4 (q := 5) rfl (by decide) rfl ?_
  refine jr_aload_n hF dX10_wipe_5 (q := 6) rfl rfl ?_
  refine jr_iconst hF dX10_wipe_6 (q := 7) rfl (by decide) ?_
  refine jr_putI (ci := 10) (j := 0) hF 0 rfl dX10_wipe_7 (q := 10) rfl rfl rfl fp10_83 ?_
  refine jr_iload_n hF dX10_wipe_10 (q := 11) rfl rfl ?_
  refine jr_retI hF hR dX10_wipe_11 rfl ⟨t1, ⟨⟨?_, fun k hk => absurd hk (Nat.not_lt_zero k)⟩, hC.fr (fun k l1 l2 => up_ne (by omega)), ⟨?_, fun j hj => ?_⟩, ⟨?_, fun k hk => ?_⟩, ?_, fun j hj => ?_⟩, fun k hk => up_ne (by omega)⟩
  · simp [up]
  · rw [← c1]; simp [up]
  · rw [up_ne (by decide)]; exact c2 j hj
  · rw [← k1]; simp [up]
  · rw [up_ne (by decide), up_ne (by decide), up_ne (by decide)]; exact k2 k hk
  · rw [← s1]; simp [up]
  · rw [up_ne (by decide), up_ne (by decide)]; exact s2 j hj
set_option maxRecDepth 100000 in
theorem m_seen (h : RM σ (len, B, F, nu, W, V, nk, S, ns, M, Y)) (ok : okA (len, B, F, nu, W, V, nk, S, ns, M, Y)) (m p : Int) : RI mX10_seen 10 [vR 73, vI m, vI p] σ (fun z σ' => z = an_seen F ns m p ∧ RM σ' (nx_seen (len, B, F, nu, W, V, nk, S, ns, M, Y) m p) ∧ ∀ k, k < 73 → σ' k = σ k) := by
  have h0 := h
  have okF' := ok.2.2.1
  have h6 := ok.2.2.2.2.2.2.2.2.2.1
  replace h6 : ns ≤ 6 := h6
  obtain ⟨⟨t1, t3⟩, hC, ⟨c1, c2⟩, ⟨k1, k2⟩, s1, s2⟩ := h
  refine mkRun (by decide +kernel) (Nat.le_of_ble_eq_true rfl) (fun X hF hR => ?_)
  have hbad : ¬ ((0 ≤ m ∧ m < f_nm F) ∧ 0 ≤ p ∧ p ≤ 10) → Gs X 20 (entryL [vR 73, vI m, vI p] mX10_seen.2.2.1) [] σ := by
    intro hc
    refine jr_iconst hF dX10_seen_20 (q := 21) rfl (by decide) ?_
    refine jr_retI hF hR dX10_seen_21 rfl ⟨by unfold an_seen; rw [if_pos hc], by unfold nx_seen; rw [if_neg (fun hh => hc hh.1)]; exact h0, fun _ _ => rfl⟩
  refine jr_aload_n hF dX10_seen_0 (q := 1) rfl rfl ?_
  refine jr_iload_n hF dX10_seen_1 (q := 2) rfl rfl ?_
  refine jr_cV1I hF (m_isMaster σ F hC okF' m) dX10_seen_2 (q := 5) rfl lk10_188 vX10_isMaster kX10_isMaster rfl rfl rfl (by decide) (Nat.le_of_ble_eq_true rfl) (fun z σ1 hz => ?_)
  obtain ⟨rfl, rfl⟩ := hz
  refine jr_if_eq hF dX10_seen_5 (q := 8) rfl 20 (by decide) (fun a1 => ?_) (fun a1 => ?_)
  · exact hbad (fun hh => by rw [if_pos (by omega)] at a1; omega)
  · have b1 : 0 ≤ m ∧ m < f_nm F := Classical.byContradiction fun h => a1 (by rw [if_neg h])
    refine jr_iload_n hF dX10_seen_8 (q := 9) rfl rfl ?_
    refine jr_i2l hF dX10_seen_9 (q := 10) rfl ?_
    refine jr_lconst hF 0 dX10_seen_10 (q := 11) rfl (by decide) (by decide +kernel) ?_
    refine jr_ldc2 hF 10 dX10_seen_11 (q := 14) rfl kl10_108 (by decide) (by decide +kernel) ?_
    refine jr_cS3I hF (m_in σ p 0 10) dX10_seen_14 (q := 17) rfl lk10_79 vX10_in kX10_in (by decide) (Nat.le_of_ble_eq_true rfl) (fun z σ1 hz => ?_)
    obtain ⟨rfl, rfl⟩ := hz
    refine jr_if_ne hF dX10_seen_17 (q := 20) rfl 22 (by decide) (fun a2 => ?_) (fun a2 => ?_)
    · have b2 : 0 ≤ p ∧ p ≤ 10 := Classical.byContradiction fun h => a2 (by rw [if_neg h])
      unfold an_seen at hR
      rw [if_neg (by omega)] at hR
      refine jr_aload_n hF dX10_seen_22 (q := 23) rfl rfl ?_
      refine jr_getI (ci := 10) (j := 13) hF 13 rfl dX10_seen_23 (q := 26) rfl rfl rfl fl10_128 ?_
      rw [s1]
      refine jr_bipush hF dX10_seen_26 (q := 28) rfl (by decide) (by decide +kernel) ?_
      refine jr_icmp_ne hF dX10_seen_28 (q := 31) rfl 34 (by decide) (fun a3 => ?_) (fun a3 => ?_)
      · have hns : ns ≠ 6 := by omega
        rw [if_neg hns] at hR
        refine jr_aload_n hF dX10_seen_34 (q := 35) rfl rfl ?_
        refine jr_getR (ci := 10) (j := 14) hF dX10_seen_35 (q := 38) rfl rfl rfl fl10_40 ?_
        refine jr_aload_n hF dX10_seen_38 (q := 39) rfl rfl ?_
        refine jr_getI (ci := 10) (j := 13) hF 13 rfl dX10_seen_39 (q := 42) rfl rfl rfl fl10_128 ?_
        rw [s1]
        refine jr_iload_n hF dX10_seen_42 (q := 43) rfl rfl ?_
        refine jr_iast hF dX10_seen_43 (q := 44) rfl rfl (by omega) ?_
        refine jr_aload_n hF dX10_seen_44 (q := 45) rfl rfl ?_
        refine jr_getR (ci := 10) (j := 15) hF dX10_seen_45 (q := 48) rfl rfl rfl fl10_43 ?_
        refine jr_aload_n hF dX10_seen_48 (q := 49) rfl rfl ?_
        refine jr_getI (ci := 10) (j := 13) hF 13 rfl dX10_seen_49 (q := 52) rfl rfl rfl fl10_128 ?_
        rw [up_ne (show (73 : Nat) ≠ 84 by decide), s1]
        refine jr_iload_n hF dX10_seen_52 (q := 53) rfl rfl ?_
        refine jr_iast hF dX10_seen_53 (q := 54) rfl rfl (by omega) ?_
        refine jr_aload_n hF dX10_seen_54 (q := 55) rfl rfl ?_
        refine jr_dup hF dX10_seen_55 (q := 56) rfl rfl ?_
        refine jr_getI (ci := 10) (j := 13) hF 13 rfl dX10_seen_56 (q := 59) rfl rfl rfl fl10_128 ?_
        rw [up_ne (show (73 : Nat) ≠ 85 by decide), up_ne (show (73 : Nat) ≠ 84 by decide), s1]
        refine jr_iconst hF dX10_seen_59 (q := 60) rfl (by decide) ?_
        refine jr_iadd hF dX10_seen_60 (q := 61) rfl (by omega) ?_
        refine jr_putI (ci := 10) (j := 13) hF 13 rfl dX10_seen_61 (q := 64) rfl rfl rfl fp10_128 ?_
        refine jr_aload_n hF dX10_seen_64 (q := 65) rfl rfl ?_
        refine jr_getI (ci := 10) (j := 13) hF 13 rfl dX10_seen_65 (q := 68) rfl rfl rfl fl10_128 ?_
        refine jr_retI hF hR dX10_seen_68 rfl ⟨by simp [up], ?_, fun k hk => by rw [up_ne (by omega), up_ne (by omega), up_ne (by omega)]⟩
        have e : nx_seen (len, B, F, nu, W, V, nk, S, ns, M, Y) m p = (len, B, F, nu, W, V, nk, S, ns + 1, st1 M ns m, st1 Y ns p) := by
          unfold nx_seen
          rw [if_pos ⟨⟨b1, b2⟩, hns⟩]
        rw [e]
        refine ⟨⟨?_, fun k hk => ?_⟩, hC.fr (fun k l1 l2 => by rw [up_ne (by omega), up_ne (by omega), up_ne (by omega)]), ⟨?_, fun j hj => ?_⟩, ⟨?_, fun k hk => ?_⟩, ?_, fun j hj => ⟨?_, ?_⟩⟩
        · rw [← t1]; simp [up]
        · rw [up_ne (by decide), up_ne (by decide), up_ne (by decide)]; exact t3 k hk
        · rw [← c1]; simp [up]
        · rw [up_ne (by decide), up_ne (by decide), up_ne (by decide)]; exact c2 j hj
        · rw [← k1]; simp [up]
        · rw [up_ne (by decide), up_ne (by decide), up_ne (by decide), up_ne (by decide), up_ne (by decide), up_ne (by decide), up_ne (by decide), up_ne (by decide), up_ne (by decide)]; exact k2 k hk
        · simp [up]
        · rw [up_ne (by decide), up_ne (by decide), up_nat]
          unfold st1
          split
          · rfl
          · exact (s2 j (by omega)).1
        · rw [up_ne (by decide), up_nat, up_ne (by decide)]
          unfold st1
          split
          · rfl
          · exact (s2 j (by omega)).2
      · rw [if_pos (show ns = 6 by omega)] at hR
        refine jr_bipush hF dX10_seen_31 (q := 33) rfl (by decide) (by decide +kernel) ?_
        refine jr_retI hF hR dX10_seen_33 rfl ⟨rfl, by unfold nx_seen; rw [if_neg (fun hh => hh.2 (show ns = 6 by omega))]; exact h0, fun _ _ => rfl⟩
    · exact hbad (fun hh => by rw [if_pos (by omega)] at a2; omega)
set_option maxRecDepth 100000 in
theorem m_count (h : RM σ (len, B, F, nu, W, V, nk, S, ns, M, Y)) (what : Int) : RI mX10_count 10 [vR 73, vI what] σ (fun z σ' => z = an_count (len, B, F, nu, W, V, nk, S, ns, M, Y) what ∧ RM σ' (len, B, F, nu, W, V, nk, S, ns, M, Y) ∧ ∀ k, k < 73 → σ' k = σ k) := by
  have h0 := h
  obtain ⟨⟨t1, t3⟩, hC, ⟨c1, c2⟩, ⟨k1, k2⟩, s1, s2⟩ := h
  refine mkRun (by decide +kernel) (Nat.le_of_ble_eq_true rfl) (fun X hF hR => ?_)
  refine jr_iload_n hF dX10_count_0 (q := 1) rfl rfl ?_
  by_cases hw : what < 0 ∨ 7 < what
  · refine jr_tout hF dX10_count_1 96 hw (by decide) ?_
    refine jr_iconst hF dX10_count_96 (q := 97) rfl (by decide) ?_
    refine jr_retI hF hR dX10_count_97 rfl ⟨by unfold an_count; rw [if_neg (by omega), if_neg (by omega), if_neg (by omega), if_neg (by omega), if_neg (by omega), if_neg (by omega), if_neg (by omega), if_neg (by omega)], h0, fun _ _ => rfl⟩
  · have hc : what = 0 ∨ what = 1 ∨ what = 2 ∨ what = 3 ∨ what = 4 ∨ what = 5 ∨ what = 6 ∨ what = 7 := by omega
    rcases hc with rfl | rfl | rfl | rfl | rfl | rfl | rfl | rfl
    · refine jr_tin hF dX10_count_1 48 (by decide) (by decide) rfl (by decide) ?_
      refine jr_aload_n hF dX10_count_48 (q := 49) rfl rfl ?_
      refine jr_getR (ci := 10) (j := 2) hF dX10_count_49 (q := 52) rfl rfl rfl fl10_13 ?_
      refine jr_iconst hF dX10_count_52 (q := 53) rfl (by decide) ?_
      refine jr_iald hF dX10_count_53 (q := 54) rfl rfl (by omega) ?_
      refine jr_retI hF hR dX10_count_54 rfl ⟨hC.1, h0, fun _ _ => rfl⟩
    · refine jr_tin hF dX10_count_1 55 (by decide) (by decide) rfl (by decide) ?_
      refine jr_aload_n hF dX10_count_55 (q := 56) rfl rfl ?_
      refine jr_getR (ci := 10) (j := 4) hF dX10_count_56 (q := 59) rfl rfl rfl fl10_19 ?_
      refine jr_iconst hF dX10_count_59 (q := 60) rfl (by decide) ?_
      refine jr_iald hF dX10_count_60 (q := 61) rfl rfl (by omega) ?_
      refine jr_retI hF hR dX10_count_61 rfl ⟨hC.2.1, h0, fun _ _ => rfl⟩
    · refine jr_tin hF dX10_count_1 62 (by decide) (by decide) rfl (by decide) ?_
      refine jr_aload_n hF dX10_count_62 (q := 63) rfl rfl ?_
      refine jr_getR (ci := 10) (j := 8) hF dX10_count_63 (q := 66) rfl rfl rfl fl10_31 ?_
      refine jr_iconst hF dX10_count_66 (q := 67) rfl (by decide) ?_
      refine jr_iald hF dX10_count_67 (q := 68) rfl rfl (by omega) ?_
      refine jr_retI hF hR dX10_count_68 rfl ⟨hC.2.2.2.2.2.2.1, h0, fun _ _ => rfl⟩
    · refine jr_tin hF dX10_count_1 69 (by decide) (by decide) rfl (by decide) ?_
      refine jr_aload_n hF dX10_count_69 (q := 70) rfl rfl ?_
      refine jr_getR (ci := 10) (j := 9) hF dX10_count_70 (q := 73) rfl rfl rfl fl10_34 ?_
      refine jr_iconst hF dX10_count_73 (q := 74) rfl (by decide) ?_
      refine jr_iald hF dX10_count_74 (q := 75) rfl rfl (by omega) ?_
      refine jr_retI hF hR dX10_count_75 rfl ⟨hC.2.2.2.2.2.2.2, h0, fun _ _ => rfl⟩
    · refine jr_tin hF dX10_count_1 76 (by decide) (by decide) rfl (by decide) ?_
      refine jr_aload_n hF dX10_count_76 (q := 77) rfl rfl ?_
      refine jr_getI (ci := 10) (j := 13) hF 13 rfl dX10_count_77 (q := 80) rfl rfl rfl fl10_128 ?_
      refine jr_retI hF hR dX10_count_80 rfl ⟨s1, h0, fun _ _ => rfl⟩
    · refine jr_tin hF dX10_count_1 81 (by decide) (by decide) rfl (by decide) ?_
      refine jr_aload_n hF dX10_count_81 (q := 82) rfl rfl ?_
      refine jr_getI (ci := 10) (j := 11) hF 11 rfl dX10_count_82 (q := 85) rfl rfl rfl fl10_125 ?_
      refine jr_retI hF hR dX10_count_85 rfl ⟨c1, h0, fun _ _ => rfl⟩
    · refine jr_tin hF dX10_count_1 86 (by decide) (by decide) rfl (by decide) ?_
      refine jr_aload_n hF dX10_count_86 (q := 87) rfl rfl ?_
      refine jr_getI (ci := 10) (j := 10) hF 10 rfl dX10_count_87 (q := 90) rfl rfl rfl fl10_122 ?_
      refine jr_retI hF hR dX10_count_90 rfl ⟨k1, h0, fun _ _ => rfl⟩
    · refine jr_tin hF dX10_count_1 91 (by decide) (by decide) rfl (by decide) ?_
      refine jr_aload_n hF dX10_count_91 (q := 92) rfl rfl ?_
      refine jr_getI (ci := 10) (j := 0) hF 0 rfl dX10_count_92 (q := 95) rfl rfl rfl fl10_83 ?_
      refine jr_retI hF hR dX10_count_95 rfl ⟨t1, h0, fun _ _ => rfl⟩
end

