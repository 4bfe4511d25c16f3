/-! ===== the class's calls: lad, master, wants, all ===== -/
def an_lad (F : FD) (i what : Int) : Int := if ¬ ((0 ≤ i ∧ i < f_nl F) ∧ 0 ≤ what ∧ what ≤ 4) then -1 else if what = 0 then f_lm F i.toNat else if what = 1 then f_kd F i.toNat else if what = 2 then (f_fair F 99 (f_nm F)).1 i.toNat else if what = 3 then (f_fair F 99 (f_nm F)).2 i.toNat else f_gn F (f_fair F 99 (f_nm F)) i.toNat
def an_master (F : FD) (m what : Int) : Int := if ¬ ((0 ≤ m ∧ m < f_nm F) ∧ 0 ≤ what ∧ what ≤ 2) then -1 else if what = 0 then f_rm F m.toNat else if what = 1 then bitsF (fun i => decide ((f_fair F 99 (f_nm F)).1 i = m)) (f_nl F) else mostF (fun i => decide ((f_fair F 99 (f_nm F)).1 i = m)) (f_fair F 99 (f_nm F)).2 (f_nl F)
def an_wants (F : FD) (i m what : Int) : Int := if ¬ ((0 ≤ i ∧ i < f_nl F) ∧ (0 ≤ m ∧ m < f_nm F) ∧ 0 ≤ what ∧ what ≤ 1) then -1 else if what = 0 then f_wt F i.toNat m.toNat else f_bnd F i.toNat m.toNat
def an_all (F : FD) (what : Int) : Int := if ¬ (0 ≤ what ∧ what ≤ 2) then -1 else if what = 0 then sumF (f_fair F 99 (f_nm F)).2 (f_nl F) else if what = 1 then sumF (f_gn F (f_fair F 99 (f_nm F))) (f_nl F) else cnt (fun i => decide ((f_fair F 99 (f_nm F)).1 i ≠ -4)) (f_nl F)
theorem ab99 : absR (-1) 99 := Or.inl ⟨by decide, rfl⟩
theorem pl4 : (4 : Nat) = 4 ∨ (4 : Nat) = 14 := Or.inl rfl
theorem pl14 : (14 : Nat) = 4 ∨ (14 : Nat) = 14 := Or.inr rfl
section
variable (σ : Sg) (len : Nat) (B : Nat → Int) (F : FD) (nu : Nat) (W V : Nat → Int) (nk : Nat) (S : Nat → Int → Int) (ns : Nat) (M Y : Nat → Int)
set_option maxRecDepth 100000 in
theorem o_lad (h : RC σ (len, B, F, nu, W, V, nk, S, ns, M, Y)) (ok : okA (len, B, F, nu, W, V, nk, S, ns, M, Y)) (i what : Int) : RI mX9_lad 10 [vR 0, vI i, vI what] σ (fun z σ' => z = an_lad F i what ∧ RC σ' (len, B, F, nu, W, V, nk, S, ns, M, Y) ∧ ∀ k, 73 ≤ k → σ' k = σ k) := by
  have hpl := pl4
  have hC := h.2.1
  have okF' := ok.2.2.1
  have h5 := okF'.2.1
  have r2 := hC.2.1
  refine mkRun (by decide +kernel) (Nat.le_of_ble_eq_true rfl) (fun X hF hR => ?_)
  have hbad : ¬ ((0 ≤ i ∧ i < f_nl F) ∧ 0 ≤ what ∧ what ≤ 4) → Gs X 20 (entryL [vR 0, vI i, vI what] mX9_lad.2.2.1) [] σ := by
    intro hc
    refine jr_iconst hF dX9_lad_20 (q := 21) rfl (by decide) ?_
    refine jr_retI hF hR dX9_lad_21 rfl ⟨by unfold an_lad; rw [if_pos hc], h, fun _ _ => rfl⟩
  refine jr_aload_n hF dX9_lad_0 (q := 1) rfl rfl ?_
  refine jr_getR (ci := 9) (j := 1) hF dX9_lad_1 (q := 4) rfl rfl rfl fl9_19 ?_
  refine jr_iload_n hF dX9_lad_4 (q := 5) rfl rfl ?_
  refine jr_cV1I hF (c_hasLad σ 4 hpl i) dX9_lad_5 (q := 8) rfl lk9_120 vX4_hasLad kX4_hasLad rfl rfl rfl (by decide) (Nat.le_of_ble_eq_true rfl) (fun z σ1 hz => ?_)
  obtain ⟨rfl, rfl⟩ := hz
  refine jr_if_eq hF dX9_lad_8 (q := 11) rfl 20 (by decide) (fun a1 => ?_) (fun a1 => ?_)
  · exact hbad (fun hh => by rw [if_pos (by omega)] at a1; omega)
  · have b1 : 0 ≤ i ∧ i < σ 4 1 := Classical.byContradiction fun h => a1 (by rw [if_neg h])
    refine jr_iload_n hF dX9_lad_11 (q := 12) rfl rfl ?_
    refine jr_iconst hF dX9_lad_12 (q := 13) rfl (by decide) ?_
    refine jr_iconst hF dX9_lad_13 (q := 14) rfl (by decide) ?_
    refine jr_cS3I hF (c_isWithin σ what 0 4) dX9_lad_14 (q := 17) rfl lk9_90 vX9_isWithin kX9_isWithin (by decide) (Nat.le_of_ble_eq_true rfl) (fun z σ1 hz => ?_)
    obtain ⟨rfl, rfl⟩ := hz
    refine jr_if_ne hF dX9_lad_17 (q := 20) rfl 22 (by decide) (fun a2 => ?_) (fun a2 => ?_)
    · have b2 : 0 ≤ what ∧ what ≤ 4 := Classical.byContradiction fun h => a2 (by rw [if_neg h])
      obtain ⟨j, rfl⟩ : ∃ j : Nat, i = (j : Int) := ⟨i.toNat, by omega⟩
      have hj : j < f_nl F := by omega
      have eA : an_lad F (j : Int) what = if what = 0 then f_lm F j else if what = 1 then f_kd F j else if what = 2 then (f_fair F 99 (f_nm F)).1 j else if what = 3 then (f_fair F 99 (f_nm F)).2 j else f_gn F (f_fair F 99 (f_nm F)) j := by
        unfold an_lad
        rw [if_neg (by omega)]
        rfl
      rw [eA] at hR
      refine jr_iload_n hF dX9_lad_22 (q := 23) rfl rfl ?_
      refine jr_if_ne hF dX9_lad_23 (q := 26) rfl 36 (by decide) (fun a3 => ?_) (fun a3 => ?_)
      · refine jr_iload_n hF dX9_lad_36 (q := 37) rfl rfl ?_
        refine jr_iconst hF dX9_lad_37 (q := 38) rfl (by decide) ?_
        refine jr_icmp_ne hF dX9_lad_38 (q := 41) rfl 51 (by decide) (fun a4 => ?_) (fun a4 => ?_)
        · refine jr_aload_n hF dX9_lad_51 (q := 52) rfl rfl ?_
          refine jr_getR (ci := 9) (j := 3) hF dX9_lad_52 (q := 55) rfl rfl rfl fl9_29 ?_
          refine jr_aload_n hF dX9_lad_55 (q := 56) rfl rfl ?_
          refine jr_getR (ci := 9) (j := 1) hF dX9_lad_56 (q := 59) rfl rfl rfl fl9_19 ?_
          refine jr_iconst hF dX9_lad_59 (q := 60) rfl (by decide) ?_
          refine jr_cV2V hF (c_hold σ 4 hpl F hC okF' (-1) 99 ab99) dX9_lad_60 (q := 63) rfl lk9_130 vX2_hold kX2_hold rfl rfl rfl (by decide) (Nat.le_of_ble_eq_true rfl) (fun σ1 hz => ?_)
          obtain ⟨k1, -, k3⟩ := hz
          have hRC1 : RC σ1 (len, B, F, nu, W, V, nk, S, ns, M, Y) := h.fr h5 ok.2.2.2.2.2.2.2.1 (fun k hk => k3 k (by omega) (by omega) (by omega) (by omega))
          have hfr1 : ∀ k, 73 ≤ k → σ1 k = σ k := fun k hk => k3 k (by omega) (by omega) (by omega) (by omega)
          obtain ⟨e1, e2⟩ := k1 j (by omega)
          refine jr_iload_n hF dX9_lad_63 (q := 64) rfl rfl ?_
          refine jr_iconst hF dX9_lad_64 (q := 65) rfl (by decide) ?_
          refine jr_icmp_ne hF dX9_lad_65 (q := 68) rfl 78 (by decide) (fun a5 => ?_) (fun a5 => ?_)
          · refine jr_iload_n hF dX9_lad_78 (q := 79) rfl rfl ?_
            refine jr_iconst hF dX9_lad_79 (q := 80) rfl (by decide) ?_
            refine jr_icmp_ne hF dX9_lad_80 (q := 83) rfl 95 (by decide) (fun a6 => ?_) (fun a6 => ?_)
            · refine jr_aload_n hF dX9_lad_95 (q := 96) rfl rfl ?_
              refine jr_getR (ci := 9) (j := 3) hF dX9_lad_96 (q := 99) rfl rfl rfl fl9_29 ?_
              refine jr_aload_n hF dX9_lad_99 (q := 100) rfl rfl ?_
              refine jr_getR (ci := 9) (j := 1) hF dX9_lad_100 (q := 103) rfl rfl rfl fl9_19 ?_
              refine jr_iload_n hF dX9_lad_103 (q := 104) rfl rfl ?_
              refine jr_cV2I hF (c_gainOf σ1 4 hpl F hRC1.2.1 okF' 99 _ (wOK_fair okF' 99 _) k1 j hj) dX9_lad_104 (q := 107) rfl lk9_140 vX2_gainOf kX2_gainOf rfl rfl rfl (by decide) (Nat.le_of_ble_eq_true rfl) (fun z σ2 hz => ?_)
              obtain ⟨rfl, rfl⟩ := hz
              refine jr_retI hF hR dX9_lad_107 rfl ⟨by rw [if_neg a3, if_neg a4, if_neg a5, if_neg a6], hRC1, hfr1⟩
            · refine jr_aload_n hF dX9_lad_83 (q := 84) rfl rfl ?_
              refine jr_getR (ci := 9) (j := 3) hF dX9_lad_84 (q := 87) rfl rfl rfl fl9_29 ?_
              refine jr_getR (ci := 2) (j := 1) hF dX9_lad_87 (q := 90) rfl rfl rfl fl9_137 ?_
              refine jr_iload_n hF dX9_lad_90 (q := 91) rfl rfl ?_
              refine jr_iald hF dX9_lad_91 (q := 92) rfl rfl (by omega) ?_
              refine jr_goto hF dX9_lad_92 107 (by decide) ?_
              refine jr_retI hF hR dX9_lad_107 rfl ⟨by rw [if_neg a3, if_neg a4, if_neg a5, if_pos a6]; exact e2, hRC1, hfr1⟩
          · refine jr_aload_n hF dX9_lad_68 (q := 69) rfl rfl ?_
            refine jr_getR (ci := 9) (j := 3) hF dX9_lad_69 (q := 72) rfl rfl rfl fl9_29 ?_
            refine jr_getR (ci := 2) (j := 0) hF dX9_lad_72 (q := 75) rfl rfl rfl fl9_134 ?_
            refine jr_iload_n hF dX9_lad_75 (q := 76) rfl rfl ?_
            refine jr_iald hF dX9_lad_76 (q := 77) rfl rfl (by omega) ?_
            refine jr_retI hF hR dX9_lad_77 rfl ⟨by rw [if_neg a3, if_neg a4, if_pos a5]; exact e1, hRC1, hfr1⟩
        · have e := hC.kind hj
          refine jr_aload_n hF dX9_lad_41 (q := 42) rfl rfl ?_
          refine jr_getR (ci := 9) (j := 1) hF dX9_lad_42 (q := 45) rfl rfl rfl fl9_19 ?_
          refine jr_getR (ci := 4) (j := 3) hF dX9_lad_45 (q := 48) rfl rfl rfl fl9_127 ?_
          refine jr_iload_n hF dX9_lad_48 (q := 49) rfl rfl ?_
          refine jr_iald hF dX9_lad_49 (q := 50) rfl rfl (by omega) ?_
          refine jr_retI hF hR dX9_lad_50 rfl ⟨by rw [if_neg a3, if_pos a4]; exact e, h, fun _ _ => rfl⟩
      · have e := hC.lim hj
        refine jr_aload_n hF dX9_lad_26 (q := 27) rfl rfl ?_
        refine jr_getR (ci := 9) (j := 1) hF dX9_lad_27 (q := 30) rfl rfl rfl fl9_19 ?_
        refine jr_getR (ci := 4) (j := 5) hF dX9_lad_30 (q := 33) rfl rfl rfl fl9_123 ?_
        refine jr_iload_n hF dX9_lad_33 (q := 34) rfl rfl ?_
        refine jr_iald hF dX9_lad_34 (q := 35) rfl rfl (by omega) ?_
        refine jr_retI hF hR dX9_lad_35 rfl ⟨by rw [if_pos a3]; exact e, h, fun _ _ => rfl⟩
    · exact hbad (fun hh => by rw [if_pos (by omega)] at a2; omega)
set_option maxRecDepth 100000 in
theorem o_master (h : RC σ (len, B, F, nu, W, V, nk, S, ns, M, Y)) (ok : okA (len, B, F, nu, W, V, nk, S, ns, M, Y)) (i what : Int) : RI mX9_master 10 [vR 0, vI i, vI what] σ (fun z σ' => z = an_master F i what ∧ RC σ' (len, B, F, nu, W, V, nk, S, ns, M, Y) ∧ ∀ k, 73 ≤ k → σ' k = σ k) := by
  have hpl := pl4
  have hC := h.2.1
  have okF' := ok.2.2.1
  have h5 := okF'.2.1
  have h3 := okF'.1
  have r1 := hC.1
  have r2 := hC.2.1
  refine mkRun (by decide +kernel) (Nat.le_of_ble_eq_true rfl) (fun X hF hR => ?_)
  have hbad : ¬ ((0 ≤ i ∧ i < f_nm F) ∧ 0 ≤ what ∧ what ≤ 2) → Gs X 20 (entryL [vR 0, vI i, vI what] mX9_master.2.2.1) [] σ := by
    intro hc
    refine jr_iconst hF dX9_master_20 (q := 21) rfl (by decide) ?_
    refine jr_retI hF hR dX9_master_21 rfl ⟨by unfold an_master; rw [if_pos hc], h, fun _ _ => rfl⟩
  refine jr_aload_n hF dX9_master_0 (q := 1) rfl rfl ?_
  refine jr_getR (ci := 9) (j := 1) hF dX9_master_1 (q := 4) rfl rfl rfl fl9_19 ?_
  refine jr_iload_n hF dX9_master_4 (q := 5) rfl rfl ?_
  refine jr_cV1I hF (c_hasMaster σ 4 hpl i) dX9_master_5 (q := 8) rfl lk9_144 vX4_hasMaster kX4_hasMaster rfl rfl rfl (by decide) (Nat.le_of_ble_eq_true rfl) (fun z σ1 hz => ?_)
  obtain ⟨rfl, rfl⟩ := hz
  refine jr_if_eq hF dX9_master_8 (q := 11) rfl 20 (by decide) (fun a1 => ?_) (fun a1 => ?_)
  · exact hbad (fun hh => by rw [if_pos (by omega)] at a1; omega)
  · have b1 : 0 ≤ i ∧ i < σ 4 0 := Classical.byContradiction fun h => a1 (by rw [if_neg h])
    refine jr_iload_n hF dX9_master_11 (q := 12) rfl rfl ?_
    refine jr_iconst hF dX9_master_12 (q := 13) rfl (by decide) ?_
    refine jr_iconst hF dX9_master_13 (q := 14) rfl (by decide) ?_
    refine jr_cS3I hF (c_isWithin σ what 0 2) dX9_master_14 (q := 17) rfl lk9_90 vX9_isWithin kX9_isWithin (by decide) (Nat.le_of_ble_eq_true rfl) (fun z σ1 hz => ?_)
    obtain ⟨rfl, rfl⟩ := hz
    refine jr_if_ne hF dX9_master_17 (q := 20) rfl 22 (by decide) (fun a2 => ?_) (fun a2 => ?_)
    · have b2 : 0 ≤ what ∧ what ≤ 2 := Classical.byContradiction fun h => a2 (by rw [if_neg h])
      obtain ⟨j, rfl⟩ : ∃ j : Nat, i = (j : Int) := ⟨i.toNat, by omega⟩
      have hj : j < f_nm F := by omega
      have eA : an_master F (j : Int) what = if what = 0 then f_rm F j else if what = 1 then bitsF (fun i => decide ((f_fair F 99 (f_nm F)).1 i = (j : Int))) (f_nl F) else mostF (fun i => decide ((f_fair F 99 (f_nm F)).1 i = (j : Int))) (f_fair F 99 (f_nm F)).2 (f_nl F) := by
        unfold an_master
        rw [if_neg (by omega)]
        rfl
      rw [eA] at hR
      refine jr_iload_n hF dX9_master_22 (q := 23) rfl rfl ?_
      refine jr_if_ne hF dX9_master_23 (q := 26) rfl 36 (by decide) (fun a3 => ?_) (fun a3 => ?_)
      · refine jr_aload_n hF dX9_master_36 (q := 37) rfl rfl ?_
        refine jr_getR (ci := 9) (j := 3) hF dX9_master_37 (q := 40) rfl rfl rfl fl9_29 ?_
        refine jr_aload_n hF dX9_master_40 (q := 41) rfl rfl ?_
        refine jr_getR (ci := 9) (j := 1) hF dX9_master_41 (q := 44) rfl rfl rfl fl9_19 ?_
        refine jr_iconst hF dX9_master_44 (q := 45) rfl (by decide) ?_
        refine jr_cV2V hF (c_hold σ 4 hpl F hC okF' (-1) 99 ab99) dX9_master_45 (q := 48) rfl lk9_130 vX2_hold kX2_hold rfl rfl rfl (by decide) (Nat.le_of_ble_eq_true rfl) (fun σ1 hz => ?_)
        obtain ⟨k1, -, k3⟩ := hz
        have hRC1 : RC σ1 (len, B, F, nu, W, V, nk, S, ns, M, Y) := h.fr h5 ok.2.2.2.2.2.2.2.1 (fun k hk => k3 k (by omega) (by omega) (by omega) (by omega))
        have hfr1 : ∀ k, 73 ≤ k → σ1 k = σ k := fun k hk => k3 k (by omega) (by omega) (by omega) (by omega)
        refine jr_iload_n hF dX9_master_48 (q := 49) rfl rfl ?_
        refine jr_iconst hF dX9_master_49 (q := 50) rfl (by decide) ?_
        refine jr_icmp_ne hF dX9_master_50 (q := 53) rfl 68 (by decide) (fun a4 => ?_) (fun a4 => ?_)
        · refine jr_aload_n hF dX9_master_68 (q := 69) rfl rfl ?_
          refine jr_getR (ci := 9) (j := 3) hF dX9_master_69 (q := 72) rfl rfl rfl fl9_29 ?_
          refine jr_aload_n hF dX9_master_72 (q := 73) rfl rfl ?_
          refine jr_getR (ci := 9) (j := 1) hF dX9_master_73 (q := 76) rfl rfl rfl fl9_19 ?_
          refine jr_iload_n hF dX9_master_76 (q := 77) rfl rfl ?_
          refine jr_cV2I hF (c_mostYearsOf σ1 4 hpl (f_nl F) hRC1.2.1.2.1 h5 (f_fair F 99 (f_nm F)) k1 j) dX9_master_77 (q := 80) rfl lk9_153 vX2_mostYearsOf kX2_mostYearsOf rfl rfl rfl (by decide) (Nat.le_of_ble_eq_true rfl) (fun z σ2 hz => ?_)
          obtain ⟨rfl, rfl⟩ := hz
          refine jr_retI hF hR dX9_master_80 rfl ⟨by rw [if_neg a3, if_neg a4], hRC1, hfr1⟩
        · refine jr_aload_n hF dX9_master_53 (q := 54) rfl rfl ?_
          refine jr_getR (ci := 9) (j := 3) hF dX9_master_54 (q := 57) rfl rfl rfl fl9_29 ?_
          refine jr_aload_n hF dX9_master_57 (q := 58) rfl rfl ?_
          refine jr_getR (ci := 9) (j := 1) hF dX9_master_58 (q := 61) rfl rfl rfl fl9_19 ?_
          refine jr_iload_n hF dX9_master_61 (q := 62) rfl rfl ?_
          refine jr_cV2I hF (c_ladsOf σ1 4 hpl (f_nl F) hRC1.2.1.2.1 h5 (f_fair F 99 (f_nm F)) k1 j) dX9_master_62 (q := 65) rfl lk9_150 vX2_ladsOf kX2_ladsOf rfl rfl rfl (by decide) (Nat.le_of_ble_eq_true rfl) (fun z σ2 hz => ?_)
          obtain ⟨rfl, rfl⟩ := hz
          refine jr_goto hF dX9_master_65 80 (by decide) ?_
          refine jr_retI hF hR dX9_master_80 rfl ⟨by rw [if_neg a3, if_pos a4], hRC1, hfr1⟩
      · have e := hC.room hj
        refine jr_aload_n hF dX9_master_26 (q := 27) rfl rfl ?_
        refine jr_getR (ci := 9) (j := 1) hF dX9_master_27 (q := 30) rfl rfl rfl fl9_19 ?_
        refine jr_getR (ci := 4) (j := 2) hF dX9_master_30 (q := 33) rfl rfl rfl fl9_147 ?_
        refine jr_iload_n hF dX9_master_33 (q := 34) rfl rfl ?_
        refine jr_iald hF dX9_master_34 (q := 35) rfl rfl (by omega) ?_
        refine jr_retI hF hR dX9_master_35 rfl ⟨by rw [if_pos a3]; exact e, h, fun _ _ => rfl⟩
    · exact hbad (fun hh => by rw [if_pos (by omega)] at a2; omega)
set_option maxRecDepth 100000 in
theorem o_wants (h : RC σ (len, B, F, nu, W, V, nk, S, ns, M, Y)) (ok : okA (len, B, F, nu, W, V, nk, S, ns, M, Y)) (i m what : Int) : RI mX9_wants 10 [vR 0, vI i, vI m, vI what] σ (fun z σ' => z = an_wants F i m what ∧ RC σ' (len, B, F, nu, W, V, nk, S, ns, M, Y) ∧ ∀ k, 73 ≤ k → σ' k = σ k) := by
  have hpl := pl4
  have hC := h.2.1
  have okF' := ok.2.2.1
  have h5 := okF'.2.1
  have h3 := okF'.1
  have r1 := hC.1
  have r2 := hC.2.1
  refine mkRun (by decide +kernel) (Nat.le_of_ble_eq_true rfl) (fun X hF hR => ?_)
  have hbad : ¬ ((0 ≤ i ∧ i < f_nl F) ∧ (0 ≤ m ∧ m < f_nm F) ∧ 0 ≤ what ∧ what ≤ 1) → Gs X 31 (entryL [vR 0, vI i, vI m, vI what] mX9_wants.2.2.1) [] σ := by
    intro hc
    refine jr_iconst hF dX9_wants_31 (q := 32) rfl (by decide) ?_
    refine jr_retI hF hR dX9_wants_32 rfl ⟨by unfold an_wants; rw [if_pos hc], h, fun _ _ => rfl⟩
  refine jr_aload_n hF dX9_wants_0 (q := 1) rfl rfl ?_
  refine jr_getR (ci := 9) (j := 1) hF dX9_wants_1 (q := 4) rfl rfl rfl fl9_19 ?_
  refine jr_iload_n hF dX9_wants_4 (q := 5) rfl rfl ?_
  refine jr_cV1I hF (c_hasLad σ 4 hpl i) dX9_wants_5 (q := 8) rfl lk9_120 vX4_hasLad kX4_hasLad rfl rfl rfl (by decide) (Nat.le_of_ble_eq_true rfl) (fun z σ1 hz => ?_)
  obtain ⟨rfl, rfl⟩ := hz
  refine jr_if_eq hF dX9_wants_8 (q := 11) rfl 31 (by decide) (fun a1 => ?_) (fun a1 => ?_)
  · exact hbad (fun hh => by rw [if_pos (by omega)] at a1; omega)
  · have b1 : 0 ≤ i ∧ i < σ 4 1 := Classical.byContradiction fun h => a1 (by rw [if_neg h])
    refine jr_aload_n hF dX9_wants_11 (q := 12) rfl rfl ?_
    refine jr_getR (ci := 9) (j := 1) hF dX9_wants_12 (q := 15) rfl rfl rfl fl9_19 ?_
    refine jr_iload_n hF dX9_wants_15 (q := 16) rfl rfl ?_
    refine jr_cV1I hF (c_hasMaster σ 4 hpl m) dX9_wants_16 (q := 19) rfl lk9_144 vX4_hasMaster kX4_hasMaster rfl rfl rfl (by decide) (Nat.le_of_ble_eq_true rfl) (fun z σ1 hz => ?_)
    obtain ⟨rfl, rfl⟩ := hz
    refine jr_if_eq hF dX9_wants_19 (q := 22) rfl 31 (by decide) (fun a2 => ?_) (fun a2 => ?_)
    · exact hbad (fun hh => by rw [if_pos (by omega)] at a2; omega)
    · have b2 : 0 ≤ m ∧ m < σ 4 0 := Classical.byContradiction fun h => a2 (by rw [if_neg h])
      refine jr_iload_n hF dX9_wants_22 (q := 23) rfl rfl ?_
      refine jr_iconst hF dX9_wants_23 (q := 24) rfl (by decide) ?_
      refine jr_iconst hF dX9_wants_24 (q := 25) rfl (by decide) ?_
      refine jr_cS3I hF (c_isWithin σ what 0 1) dX9_wants_25 (q := 28) rfl lk9_90 vX9_isWithin kX9_isWithin (by decide) (Nat.le_of_ble_eq_true rfl) (fun z σ1 hz => ?_)
      obtain ⟨rfl, rfl⟩ := hz
      refine jr_if_ne hF dX9_wants_28 (q := 31) rfl 33 (by decide) (fun a3 => ?_) (fun a3 => ?_)
      · have b3 : 0 ≤ what ∧ what ≤ 1 := Classical.byContradiction fun h => a3 (by rw [if_neg h])
        obtain ⟨j, rfl⟩ : ∃ j : Nat, i = (j : Int) := ⟨i.toNat, by omega⟩
        obtain ⟨n, rfl⟩ : ∃ n : Nat, m = (n : Int) := ⟨m.toNat, by omega⟩
        have hj : j < f_nl F := by omega
        have hn : n < f_nm F := by omega
        have e : σ (8 + j) (n : Int) = f_wt F j n := hC.want hj hn
        refine jr_iload_n hF dX9_wants_33 (q := 34) rfl rfl ?_
        refine jr_if_ne hF dX9_wants_34 (q := 37) rfl 51 (by decide) (fun a4 => ?_) (fun a4 => ?_)
        · refine jr_aload_n hF dX9_wants_51 (q := 52) rfl rfl ?_
          refine jr_getR (ci := 9) (j := 1) hF dX9_wants_52 (q := 55) rfl rfl rfl fl9_19 ?_
          refine jr_iload_n hF dX9_wants_55 (q := 56) rfl rfl ?_
          refine jr_iload_n hF dX9_wants_56 (q := 57) rfl rfl ?_
          refine jr_cV2I hF (c_boundOf σ 4 hpl F hC okF' j n hj hn) dX9_wants_57 (q := 60) rfl lk9_160 vX4_boundOf kX4_boundOf rfl rfl rfl (by decide) (Nat.le_of_ble_eq_true rfl) (fun z σ1 hz => ?_)
          obtain ⟨rfl, rfl⟩ := hz
          refine jr_retI hF hR dX9_wants_60 rfl ⟨by unfold an_wants; rw [if_neg (by omega), if_neg a4]; rfl, h, fun _ _ => rfl⟩
        · refine jr_aload_n hF dX9_wants_37 (q := 38) rfl rfl ?_
          refine jr_getR (ci := 9) (j := 1) hF dX9_wants_38 (q := 41) rfl rfl rfl fl9_19 ?_
          refine jr_getR (ci := 4) (j := 4) hF dX9_wants_41 (q := 44) rfl rfl rfl fl9_156 ?_
          refine jr_iload_n hF dX9_wants_44 (q := 45) rfl rfl ?_
          refine jr_aald hF dX9_wants_45 (q := 46) rfl rfl (by omega) ?_
          rw [tn]
          refine jr_iload_n hF dX9_wants_46 (q := 47) rfl rfl ?_
          refine jr_iald hF dX9_wants_47 (q := 48) rfl (by first | rfl | exact L_pl hpl | exact L_rm hpl | exact L_kd hpl | exact L_lw hpl | exact L_wo hpl | exact L_wr hpl (by omega) | exact L_pl hp2 | exact L_rm hp2 | exact L_kd hp2 | exact L_lw hp2 | exact L_wo hp2 | exact L_wr hp2 (by omega)) (by omega) ?_
          refine jr_goto hF dX9_wants_48 60 (by decide) ?_
          rw [e]
          refine jr_retI hF hR dX9_wants_60 rfl ⟨by unfold an_wants; rw [if_neg (by omega), if_pos a4]; rfl, h, fun _ _ => rfl⟩
      · exact hbad (fun hh => by rw [if_pos (by omega)] at a3; omega)
set_option maxRecDepth 100000 in
theorem o_all (h : RC σ (len, B, F, nu, W, V, nk, S, ns, M, Y)) (ok : okA (len, B, F, nu, W, V, nk, S, ns, M, Y)) (what : Int) : RI mX9_all 10 [vR 0, vI what] σ (fun z σ' => z = an_all F what ∧ RC σ' (len, B, F, nu, W, V, nk, S, ns, M, Y) ∧ ∀ k, 73 ≤ k → σ' k = σ k) := by
  have hpl := pl4
  have hC := h.2.1
  have okF' := ok.2.2.1
  have h5 := okF'.2.1
  refine mkRun (by decide +kernel) (Nat.le_of_ble_eq_true rfl) (fun X hF hR => ?_)
  refine jr_iload_n hF dX9_all_0 (q := 1) rfl rfl ?_
  refine jr_iconst hF dX9_all_1 (q := 2) rfl (by decide) ?_
  refine jr_iconst hF dX9_all_2 (q := 3) rfl (by decide) ?_
  refine jr_cS3I hF (c_isWithin σ what 0 2) dX9_all_3 (q := 6) rfl lk9_90 vX9_isWithin kX9_isWithin (by decide) (Nat.le_of_ble_eq_true rfl) (fun z σ1 hz => ?_)
  obtain ⟨rfl, rfl⟩ := hz
  refine jr_if_ne hF dX9_all_6 (q := 9) rfl 11 (by decide) (fun a1 => ?_) (fun a1 => ?_)
  · have b1 : 0 ≤ what ∧ what ≤ 2 := Classical.byContradiction fun h => a1 (by rw [if_neg h])
    unfold an_all at hR
    rw [if_neg (fun hh => hh b1)] at hR
    refine jr_aload_n hF dX9_all_11 (q := 12) rfl rfl ?_
    refine jr_getR (ci := 9) (j := 3) hF dX9_all_12 (q := 15) rfl rfl rfl fl9_29 ?_
    refine jr_aload_n hF dX9_all_15 (q := 16) rfl rfl ?_
    refine jr_getR (ci := 9) (j := 1) hF dX9_all_16 (q := 19) rfl rfl rfl fl9_19 ?_
    refine jr_iconst hF dX9_all_19 (q := 20) rfl (by decide) ?_
    refine jr_cV2V hF (c_hold σ 4 hpl F hC okF' (-1) 99 ab99) dX9_all_20 (q := 23) rfl lk9_130 vX2_hold kX2_hold rfl rfl rfl (by decide) (Nat.le_of_ble_eq_true rfl) (fun σ1 hz => ?_)
    obtain ⟨k1, -, k3⟩ := hz
    have hRC1 : RC σ1 (len, B, F, nu, W, V, nk, S, ns, M, Y) := h.fr h5 ok.2.2.2.2.2.2.2.1 (fun k hk => k3 k (by omega) (by omega) (by omega) (by omega))
    have hfr1 : ∀ k, 73 ≤ k → σ1 k = σ k := fun k hk => k3 k (by omega) (by omega) (by omega) (by omega)
    have hw := wOK_fair okF' 99 (f_nm F)
    refine jr_iload_n hF dX9_all_23 (q := 24) rfl rfl ?_
    refine jr_if_ne hF dX9_all_24 (q := 27) rfl 39 (by decide) (fun a2 => ?_) (fun a2 => ?_)
    · refine jr_iload_n hF dX9_all_39 (q := 40) rfl rfl ?_
      refine jr_iconst hF dX9_all_40 (q := 41) rfl (by decide) ?_
      refine jr_icmp_ne hF dX9_all_41 (q := 44) rfl 58 (by decide) (fun a3 => ?_) (fun a3 => ?_)
      · refine jr_aload_n hF dX9_all_58 (q := 59) rfl rfl ?_
        refine jr_getR (ci := 9) (j := 3) hF dX9_all_59 (q := 62) rfl rfl rfl fl9_29 ?_
        refine jr_aload_n hF dX9_all_62 (q := 63) rfl rfl ?_
        refine jr_getR (ci := 9) (j := 1) hF dX9_all_63 (q := 66) rfl rfl rfl fl9_19 ?_
        refine jr_cV1I hF (c_ladsHired σ1 4 hpl (f_nl F) hRC1.2.1.2.1 h5 (f_fair F 99 (f_nm F)) k1) dX9_all_66 (q := 69) rfl lk9_170 vX2_ladsHired kX2_ladsHired rfl rfl rfl (by decide) (Nat.le_of_ble_eq_true rfl) (fun z σ2 hz => ?_)
        obtain ⟨rfl, rfl⟩ := hz
        refine jr_retI hF hR dX9_all_69 rfl ⟨by rw [if_neg a2, if_neg a3], hRC1, hfr1⟩
      · refine jr_aload_n hF dX9_all_44 (q := 45) rfl rfl ?_
        refine jr_getR (ci := 9) (j := 3) hF dX9_all_45 (q := 48) rfl rfl rfl fl9_29 ?_
        refine jr_aload_n hF dX9_all_48 (q := 49) rfl rfl ?_
        refine jr_getR (ci := 9) (j := 1) hF dX9_all_49 (q := 52) rfl rfl rfl fl9_19 ?_
        refine jr_cV1I hF (c_gainsOfAll σ1 4 hpl F hRC1.2.1 okF' 99 _ hw k1) dX9_all_52 (q := 55) rfl lk9_167 vX2_gainsOfAll kX2_gainsOfAll rfl rfl rfl (by decide) (Nat.le_of_ble_eq_true rfl) (fun z σ2 hz => ?_)
        obtain ⟨rfl, rfl⟩ := hz
        refine jr_goto hF dX9_all_55 69 (by decide) ?_
        refine jr_retI hF hR dX9_all_69 rfl ⟨by rw [if_neg a2, if_pos a3], hRC1, hfr1⟩
    · refine jr_aload_n hF dX9_all_27 (q := 28) rfl rfl ?_
      refine jr_getR (ci := 9) (j := 3) hF dX9_all_28 (q := 31) rfl rfl rfl fl9_29 ?_
      refine jr_aload_n hF dX9_all_31 (q := 32) rfl rfl ?_
      refine jr_getR (ci := 9) (j := 1) hF dX9_all_32 (q := 35) rfl rfl rfl fl9_19 ?_
      refine jr_cV1I hF (c_yearsOfAll σ1 4 hpl (f_nl F) hRC1.2.1.2.1 h5 (f_fair F 99 (f_nm F)) k1 (wOK_y okF' hw)) dX9_all_35 (q := 38) rfl lk9_164 vX2_yearsOfAll kX2_yearsOfAll rfl rfl rfl (by decide) (Nat.le_of_ble_eq_true rfl) (fun z σ2 hz => ?_)
      obtain ⟨rfl, rfl⟩ := hz
      refine jr_retI hF hR dX9_all_38 rfl ⟨by rw [if_pos a2], hRC1, hfr1⟩
  · have b1 : ¬ (0 ≤ what ∧ what ≤ 2) := fun h => by rw [if_pos h] at a1; omega
    refine jr_iconst hF dX9_all_9 (q := 10) rfl (by decide) ?_
    refine jr_retI hF hR dX9_all_10 rfl ⟨by unfold an_all; rw [if_pos b1], h, fun _ _ => rfl⟩
end

