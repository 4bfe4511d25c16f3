theorem RepM.lim1 {σ : Sg} {F : FD} (h : RepM σ F) (h5 : f_nl F ≤ 5) {i : Nat} (hi : i < f_nl F) (a : Int) : RepM (up σ 80 (i : Int) a) (f_lim F i a) := by
  have := h.set h5 (w := (i : Int)) (by omega) a
  unfold upM f_set at this
  rw [if_neg (by omega), if_neg (by omega), if_neg (by omega), if_neg (by omega), show ((i : Int)).toNat = i by omega] at this
  exact this
/-- what may have changed while limits are said anew -/
def LFr (P : Int → Prop) (σ σ' : Sg) : Prop := (∀ k, k < 73 ∨ (73 < k ∧ k < 80) ∨ (80 < k ∧ k < 86) → σ' k = σ k) ∧ (∀ x, ¬ P x → σ' 80 x = σ 80 x) ∧ ∀ j : Int, j < 20 → σ' 73 j = σ 73 j
theorem LFr.mf {P : Int → Prop} {a b c : Sg} (h : LFr P a b) (h2 : MFr b c) : LFr P a c := ⟨fun k hk => by rw [h2.1 k (by omega) (by omega) (by omega)]; exact h.1 k hk, fun x hx => by rw [h2.1 80 (by decide) (by decide) (by decide)]; exact h.2.1 x hx, fun j hj => by rw [h2.2 j hj]; exact h.2.2 j hj⟩
theorem LFr.st {P : Int → Prop} {a b : Sg} (h : LFr P a b) {i v : Int} (hi : P i) : LFr P a (up b 80 i v) := ⟨fun k hk => by rw [up_ne (by omega)]; exact h.1 k hk, fun x hx => by unfold up; rw [if_neg (show ¬ ((80 : Nat) = 80 ∧ x = i) from fun hh => hx (by rw [hh.2]; exact hi))]; exact h.2.1 x hx, fun j hj => by rw [up_ne (by decide)]; exact h.2.2 j hj⟩
theorem RM.lf {P : Int → Prop} {σ σ' : Sg} {A : AS} (h : RM σ A) (hf : LFr P σ σ') (h80 : σ' 80 = σ 80) : RM σ' A := h.fr (fun k l1 l2 => by
  by_cases e : k = 80
  · subst e; exact h80
  · exact hf.1 k (by omega)) (fun j hj => hf.2.2 j (by omega))
section
variable (σ : Sg) (len : Nat) (B : Nat → Int) (F : FD) (nu : Nat) (W V : Nat → Int) (nk : Nat) (S : Nat → Int → Int) (ns : Nat) (M Y : Nat → Int)
set_option maxRecDepth 100000 in
theorem m_lie (h : RM σ (len, B, F, nu, W, V, nk, S, ns, M, Y)) (ok : okA (len, B, F, nu, W, V, nk, S, ns, M, Y)) (i what : Int) : RI mX10_lie 10 [vR 73, vI i, vI what] σ (fun z σ' => z = an_lie F i what ∧ RM σ' (len, B, F, nu, W, V, nk, S, ns, M, Y) ∧ ∀ k, k < 73 → σ' k = σ k) := by
  have hC := h.2.1
  have okF' := ok.2.2.1
  have h5 := okF'.2.1
  refine mkRun (by decide +kernel) (Nat.le_of_ble_eq_true rfl) (fun X hF hR => ?_)
  have hbad : ¬ ((0 ≤ i ∧ i < f_nl F) ∧ 0 ≤ what ∧ what ≤ 1) → Gs X 18 (entryL [vR 73, vI i, vI what] mX10_lie.2.2.1) [] σ := by
    intro hc
    refine jr_iconst hF dX10_lie_18 (q := 19) rfl (by decide) ?_
    refine jr_retI hF hR dX10_lie_19 rfl ⟨by unfold an_lie; rw [if_pos hc], h, fun _ _ => rfl⟩
  refine jr_aload_n hF dX10_lie_0 (q := 1) rfl rfl ?_
  refine jr_iload_n hF dX10_lie_1 (q := 2) rfl rfl ?_
  refine jr_cV1I hF (m_isLad σ F hC okF' i) dX10_lie_2 (q := 5) rfl lk10_177 vX10_isLad kX10_isLad rfl rfl rfl (by decide) (Nat.le_of_ble_eq_true rfl) (fun z σ1 hz => ?_)
  obtain ⟨rfl, rfl⟩ := hz
  refine jr_if_eq hF dX10_lie_5 (q := 8) rfl 18 (by decide) (fun a1 => ?_) (fun a1 => ?_)
  · exact hbad (fun hh => by rw [if_pos (by omega)] at a1; omega)
  · have b1 : 0 ≤ i ∧ i < f_nl F := Classical.byContradiction fun h => a1 (by rw [if_neg h])
    refine jr_iload_n hF dX10_lie_8 (q := 9) rfl rfl ?_
    refine jr_i2l hF dX10_lie_9 (q := 10) rfl ?_
    refine jr_lconst hF 0 dX10_lie_10 (q := 11) rfl (by decide) (by decide +kernel) ?_
    refine jr_lconst hF 1 dX10_lie_11 (q := 12) rfl (by decide) (by decide +kernel) ?_
    refine jr_cS3I hF (m_in σ what 0 1) dX10_lie_12 (q := 15) rfl lk10_79 vX10_in kX10_in (by decide) (Nat.le_of_ble_eq_true rfl) (fun z σ1 hz => ?_)
    obtain ⟨rfl, rfl⟩ := hz
    refine jr_if_ne hF dX10_lie_15 (q := 18) rfl 20 (by decide) (fun a2 => ?_) (fun a2 => ?_)
    · have b2 : 0 ≤ what ∧ what ≤ 1 := Classical.byContradiction fun h => a2 (by rw [if_neg h])
      obtain ⟨j, rfl⟩ : ∃ j : Nat, i = (j : Int) := ⟨i.toNat, by omega⟩
      have hj : j < f_nl F := by omega
      have eA : an_lie F (j : Int) what = if what = 0 then (lieT (g_l F j) 10).2 else (lieT (g_l F j) 10).1 - g_l F j (f_lm F j) := by
        unfold an_lie
        rw [if_neg (by omega)]
        rfl
      have eO : g_l F j (f_lm F j) = f_gn F (f_fair F 99 (f_nm F)) j := by
        unfold g_l
        rw [f_lim_self]
      rw [eA, eO] at hR
      have hg : ∀ l : Int, 1 ≤ l → l ≤ 10 → 0 ≤ g_l F j l ∧ g_l F j l ≤ 10 := fun l h1 h2 => g_l_le okF' ⟨h1, h2⟩
      have hO := f_gn_le okF' (wOK_fair okF' 99 (f_nm F)) j
      refine jr_aload_n hF dX10_lie_20 (q := 21) rfl rfl ?_
      refine jr_bipush hF dX10_lie_21 (q := 23) rfl (by decide) (by decide +kernel) ?_
      refine jr_cV1V hF (m_goFair σ F hC okF' (-4) 99 abM4) dX10_lie_23 (q := 26) rfl lk10_182 vX10_goFair kX10_goFair rfl rfl rfl (by decide) (Nat.le_of_ble_eq_true rfl) (fun σ1 hz => ?_)
      obtain ⟨g1, g2⟩ := hz
      have hC1 := hC.mf g2
      refine jr_aload_n hF dX10_lie_26 (q := 27) rfl rfl ?_
      refine jr_iload_n hF dX10_lie_27 (q := 28) rfl rfl ?_
      refine jr_cV1I hF (m_gainOf σ1 F hC1 okF' 99 _ (wOK_fair okF' 99 _) g1 j hj) dX10_lie_28 (q := 31) rfl lk10_185 vX10_gainOf kX10_gainOf rfl rfl rfl (by decide) (Nat.le_of_ble_eq_true rfl) (fun z σ2 hz => ?_)
      obtain ⟨rfl, rfl⟩ := hz
      refine jr_istore_n hF dX10_lie_31 (q := 32) rfl (by decide) rfl ?_
      refine jr_aload_n hF dX10_lie_32 (q := 33) rfl rfl ?_
      refine jr_getR (ci := 10) (j := 7) hF dX10_lie_33 (q := 36) rfl rfl rfl fl10_28 ?_
      refine jr_iload_n hF dX10_lie_36 (q := 37) rfl rfl ?_
      refine jr_iald hF dX10_lie_37 (q := 38) rfl rfl (by omega) ?_
      rw [hC1.lim hj]
      refine jr_istore hF dX10_lie_38 (q := 40) rfl (by decide) rfl ?_
      refine jr_iconst hF dX10_lie_40 (q := 41) rfl (by decide) ?_
      refine jr_istore hF dX10_lie_41 (q := 43) rfl (by decide) rfl ?_
      refine jr_bipush hF dX10_lie_43 (q := 45) rfl (by decide) (by decide +kernel) ?_
      refine jr_istore hF dX10_lie_45 (q := 47) rfl (by decide) rfl ?_
      refine jr_iconst hF dX10_lie_47 (q := 48) rfl (by decide) ?_
      refine jr_istore hF dX10_lie_48 (q := 50) rfl (by decide) rfl ?_
      refine gs_loop (α := Sg) (fun k _ => [some (vR 73), some (vI (j : Int)), some (vI what), some (vI (f_gn F (f_fair F 99 (f_nm F)) j)), some (vI (f_lm F j)), some (vI (lieT (g_l F j) k).2), some (vI (lieT (g_l F j) k).1), some (vI ((k + 1 : Nat) : Int)), none]) (fun σ' => σ') (fun k σ' => (∃ u, RepM σ' (f_lim F j u)) ∧ LFr (fun x => x = (j : Int)) σ σ') 10 (fun σ3 h3 => ?_) (fun k σ3 hk h3 ih => ?_) σ1 ⟨⟨f_lm F j, by rw [f_lim_self]; exact hC1⟩, LFr.mf (P := fun x => x = (j : Int)) ⟨fun _ _ => rfl, fun _ _ => rfl, fun _ _ => rfl⟩ g2⟩
      · obtain ⟨⟨u, i1⟩, i2⟩ := h3
        have hlt := lieT_le hg 10 (by omega)
        refine jr_iload hF dX10_lie_50 (q := 52) rfl rfl ?_
        refine jr_bipush hF dX10_lie_52 (q := 54) rfl (by decide) (by decide +kernel) ?_
        refine jr_icmp_gt hF dX10_lie_54 (q := 57) rfl 116 (by decide) (fun a3 => ?_) (fun a3 => ?_)
        · have h80 : (up σ3 80 (j : Int) (f_lm F j)) 80 = σ 80 := by
            funext x
            unfold up
            by_cases e : x = (j : Int)
            · rw [if_pos ⟨rfl, e⟩, e]; exact (hC.lim hj).symm
            · rw [if_neg (fun hh => e hh.2)]; exact i2.2.1 x e
          have hfin := LFr.st i2 (v := f_lm F j) (show (fun x => x = (j : Int)) (j : Int) from rfl)
          refine jr_aload_n hF dX10_lie_116 (q := 117) rfl rfl ?_
          refine jr_getR (ci := 10) (j := 7) hF dX10_lie_117 (q := 120) rfl rfl rfl fl10_28 ?_
          refine jr_iload_n hF dX10_lie_120 (q := 121) rfl rfl ?_
          refine jr_iload hF dX10_lie_121 (q := 123) rfl rfl ?_
          refine jr_iast hF dX10_lie_123 (q := 124) rfl rfl (by omega) ?_
          refine jr_iload_n hF dX10_lie_124 (q := 125) rfl rfl ?_
          refine jr_if_ne hF dX10_lie_125 (q := 128) rfl 133 (by decide) (fun a4 => ?_) (fun a4 => ?_)
          · refine jr_iload hF dX10_lie_133 (q := 135) rfl rfl ?_
            refine jr_iload_n hF dX10_lie_135 (q := 136) rfl rfl ?_
            refine jr_isub hF dX10_lie_136 (q := 137) rfl (by omega) ?_
            refine jr_retI hF hR dX10_lie_137 rfl ⟨by rw [if_neg a4], h.lf hfin h80, fun k hk => hfin.1 k (by omega)⟩
          · refine jr_iload hF dX10_lie_128 (q := 130) rfl rfl ?_
            refine jr_goto hF dX10_lie_130 137 (by decide) ?_
            refine jr_retI hF hR dX10_lie_137 rfl ⟨by rw [if_pos a4], h.lf hfin h80, fun k hk => hfin.1 k (by omega)⟩
        · omega
      · obtain ⟨⟨u, i1⟩, i2⟩ := h3
        have ok2 : okF (f_lim F j ((k + 1 : Nat) : Int)) := okF_lim okF' j (by omega)
        have hC3 : RepM (up σ3 80 (j : Int) ((k + 1 : Nat) : Int)) (f_lim F j ((k + 1 : Nat) : Int)) := by
          have := i1.lim1 (i := j) h5 hj ((k + 1 : Nat) : Int)
          rw [f_lim_lim] at this
          exact this
        refine jr_iload hF dX10_lie_50 (q := 52) rfl rfl ?_
        refine jr_bipush hF dX10_lie_52 (q := 54) rfl (by decide) (by decide +kernel) ?_
        refine jr_icmp_gt hF dX10_lie_54 (q := 57) rfl 116 (by decide) (fun a3 => ?_) (fun a3 => ?_)
        · omega
        · refine jr_aload_n hF dX10_lie_57 (q := 58) rfl rfl ?_
          refine jr_getR (ci := 10) (j := 7) hF dX10_lie_58 (q := 61) rfl rfl rfl fl10_28 ?_
          refine jr_iload_n hF dX10_lie_61 (q := 62) rfl rfl ?_
          refine jr_iload hF dX10_lie_62 (q := 64) rfl rfl ?_
          refine jr_iast hF dX10_lie_64 (q := 65) rfl rfl (by omega) ?_
          refine jr_aload_n hF dX10_lie_65 (q := 66) rfl rfl ?_
          refine jr_bipush hF dX10_lie_66 (q := 68) rfl (by decide) (by decide +kernel) ?_
          refine jr_cV1V hF (m_goFair _ _ hC3 ok2 (-4) 99 abM4) dX10_lie_68 (q := 71) rfl lk10_182 vX10_goFair kX10_goFair rfl rfl rfl (by decide) (Nat.le_of_ble_eq_true rfl) (fun σ4 hz => ?_)
          obtain ⟨j1, j2⟩ := hz
          refine jr_aload_n hF dX10_lie_71 (q := 72) rfl rfl ?_
          refine jr_iload_n hF dX10_lie_72 (q := 73) rfl rfl ?_
          refine jr_cV1I hF (m_gainOf σ4 _ (hC3.mf j2) ok2 99 _ (wOK_fair ok2 99 _) j1 j hj) dX10_lie_73 (q := 76) rfl lk10_185 vX10_gainOf kX10_gainOf rfl rfl rfl (by decide) (Nat.le_of_ble_eq_true rfl) (fun z σ5 hz => ?_)
          obtain ⟨hz1, rfl⟩ := hz
          replace hz1 : z = g_l F j ((k + 1 : Nat) : Int) := hz1
          subst hz1
          have eT : lieT (g_l F j) (k + 1) = if (lieT (g_l F j) k).1 < g_l F j ((k + 1 : Nat) : Int) then (g_l F j ((k + 1 : Nat) : Int), ((k + 1 : Nat) : Int)) else lieT (g_l F j) k := rfl
          have ih1 := ih σ4 ⟨⟨_, hC3.mf j2⟩, LFr.mf (LFr.st i2 (show (fun x => x = (j : Int)) (j : Int) from rfl)) j2⟩
          rw [eT] at ih1
          refine jr_istore hF dX10_lie_76 (q := 78) rfl (by decide) rfl ?_
          refine jr_iload hF dX10_lie_78 (q := 80) rfl rfl ?_
          refine jr_iload hF dX10_lie_80 (q := 82) rfl rfl ?_
          refine jr_icmp_le hF dX10_lie_82 (q := 85) rfl 90 (by decide) (fun a4 => ?_) (fun a4 => ?_)
          · rw [if_neg (Int.not_lt.mpr a4)] at ih1
            refine jr_iload hF dX10_lie_90 (q := 92) rfl rfl ?_
            refine jr_istore hF dX10_lie_92 (q := 94) rfl (by decide) rfl ?_
            refine jr_iload hF dX10_lie_94 (q := 96) rfl rfl ?_
            refine jr_iload hF dX10_lie_96 (q := 98) rfl rfl ?_
            refine jr_icmp_le hF dX10_lie_98 (q := 101) rfl 106 (by decide) (fun a5 => ?_) (fun a5 => ?_)
            · refine jr_iload hF dX10_lie_106 (q := 108) rfl rfl ?_
              refine jr_istore hF dX10_lie_108 (q := 110) rfl (by decide) rfl ?_
              refine jr_fg 8 ?_
              refine jr_iinc hF dX10_lie_110 (q := 113) rfl (by decide) rfl rfl (by omega) ?_
              refine jr_goto hF dX10_lie_113 50 (by decide) ?_
              exact ih1
            · omega
          · rw [if_pos (by omega)] at ih1
            refine jr_iload hF dX10_lie_85 (q := 87) rfl rfl ?_
            refine jr_goto hF dX10_lie_87 92 (by decide) ?_
            refine jr_istore hF dX10_lie_92 (q := 94) rfl (by decide) rfl ?_
            refine jr_iload hF dX10_lie_94 (q := 96) rfl rfl ?_
            refine jr_iload hF dX10_lie_96 (q := 98) rfl rfl ?_
            refine jr_icmp_le hF dX10_lie_98 (q := 101) rfl 106 (by decide) (fun a5 => ?_) (fun a5 => ?_)
            · omega
            · refine jr_iload hF dX10_lie_101 (q := 103) rfl rfl ?_
              refine jr_goto hF dX10_lie_103 108 (by decide) ?_
              refine jr_istore hF dX10_lie_108 (q := 110) rfl (by decide) rfl ?_
              refine jr_fg 8 ?_
              refine jr_iinc hF dX10_lie_110 (q := 113) rfl (by decide) rfl rfl (by omega) ?_
              refine jr_goto hF dX10_lie_113 50 (by decide) ?_
              exact ih1
    · exact hbad (fun hh => by rw [if_pos (by omega)] at a2; omega)
set_option maxRecDepth 100000 in
theorem m_span (h : RM σ (len, B, F, nu, W, V, nk, S, ns, M, Y)) (ok : okA (len, B, F, nu, W, V, nk, S, ns, M, Y)) (i m what : Int) : RI mX10_span 10 [vR 73, vI i, vI m, vI what] σ (fun z σ' => z = an_span F i m what ∧ RM σ' (len, B, F, nu, W, V, nk, S, ns, M, Y) ∧ ∀ k, k < 73 → σ' k = σ k) := by
  have hC := h.2.1
  have okF' := ok.2.2.1
  have h5 := okF'.2.1
  have h3 := okF'.1
  have hsp := okF'.2.2.2.2.2.2.2
  refine mkRun (by decide +kernel) (Nat.le_of_ble_eq_true rfl) (fun X hF hR => ?_)
  have hbad : ¬ ((0 ≤ i ∧ i < f_nl F) ∧ (0 ≤ m ∧ m < f_nm F) ∧ 0 ≤ what ∧ what ≤ 1) → Gs X 26 (entryL [vR 73, vI i, vI m, vI what] mX10_span.2.2.1) [] σ := by
    intro hc
    refine jr_iconst hF dX10_span_26 (q := 27) rfl (by decide) ?_
    refine jr_retI hF hR dX10_span_27 rfl ⟨by unfold an_span; rw [if_pos hc], h, fun _ _ => rfl⟩
  refine jr_aload_n hF dX10_span_0 (q := 1) rfl rfl ?_
  refine jr_iload_n hF dX10_span_1 (q := 2) rfl rfl ?_
  refine jr_cV1I hF (m_isLad σ F hC okF' i) dX10_span_2 (q := 5) rfl lk10_177 vX10_isLad kX10_isLad rfl rfl rfl (by decide) (Nat.le_of_ble_eq_true rfl) (fun z σ1 hz => ?_)
  obtain ⟨rfl, rfl⟩ := hz
  refine jr_if_eq hF dX10_span_5 (q := 8) rfl 26 (by decide) (fun a1 => ?_) (fun a1 => ?_)
  · exact hbad (fun hh => by rw [if_pos (by omega)] at a1; omega)
  · have b1 : 0 ≤ i ∧ i < f_nl F := Classical.byContradiction fun h => a1 (by rw [if_neg h])
    refine jr_aload_n hF dX10_span_8 (q := 9) rfl rfl ?_
    refine jr_iload_n hF dX10_span_9 (q := 10) rfl rfl ?_
    refine jr_cV1I hF (m_isMaster σ F hC okF' m) dX10_span_10 (q := 13) rfl lk10_188 vX10_isMaster kX10_isMaster rfl rfl rfl (by decide) (Nat.le_of_ble_eq_true rfl) (fun z σ1 hz => ?_)
    obtain ⟨rfl, rfl⟩ := hz
    refine jr_if_eq hF dX10_span_13 (q := 16) rfl 26 (by decide) (fun a0 => ?_) (fun a0 => ?_)
    · exact hbad (fun hh => by rw [if_pos (by omega)] at a0; omega)
    · have b0 : 0 ≤ m ∧ m < f_nm F := Classical.byContradiction fun h => a0 (by rw [if_neg h])
      refine jr_iload_n hF dX10_span_16 (q := 17) rfl rfl ?_
      refine jr_i2l hF dX10_span_17 (q := 18) rfl ?_
      refine jr_lconst hF 0 dX10_span_18 (q := 19) rfl (by decide) (by decide +kernel) ?_
      refine jr_lconst hF 1 dX10_span_19 (q := 20) rfl (by decide) (by decide +kernel) ?_
      refine jr_cS3I hF (m_in σ what 0 1) dX10_span_20 (q := 23) rfl lk10_79 vX10_in kX10_in (by decide) (Nat.le_of_ble_eq_true rfl) (fun z σ1 hz => ?_)
      obtain ⟨rfl, rfl⟩ := hz
      refine jr_if_ne hF dX10_span_23 (q := 26) rfl 28 (by decide) (fun a2 => ?_) (fun a2 => ?_)
      · have b2 : 0 ≤ what ∧ what ≤ 1 := Classical.byContradiction fun h => a2 (by rw [if_neg h])
        obtain ⟨p, rfl⟩ : ∃ j : Nat, i = (j : Int) := ⟨i.toNat, by omega⟩
        obtain ⟨q, rfl⟩ : ∃ j : Nat, m = (j : Int) := ⟨m.toNat, by omega⟩
        have hp : p < f_nl F := by omega
        have hq : q < f_nm F := by omega
        have hbd := f_bnd_le okF' hp hq
        unfold an_span at hR
        rw [if_neg (by omega), show ((p : Int)).toNat = p by omega, show ((q : Int)).toNat = q by omega] at hR
        refine jr_aload_n hF dX10_span_28 (q := 29) rfl rfl ?_
        refine jr_bipush hF dX10_span_29 (q := 31) rfl (by decide) (by decide +kernel) ?_
        refine jr_cV1V hF (m_begin σ (-4)) dX10_span_31 (q := 34) rfl lk10_171 vX10_begin kX10_begin rfl rfl rfl (by decide) (Nat.le_of_ble_eq_true rfl) (fun σ1 hz => ?_)
        obtain ⟨g1, g2, g3⟩ := hz
        refine jr_iconst hF dX10_span_34 (q := 35) rfl (by decide) ?_
        refine jr_istore hF dX10_span_35 (q := 37) rfl (by decide) rfl ?_
        refine gs_loop (α := Sg) (fun k _ => [some (vR 73), some (vI (p : Int)), some (vI (q : Int)), some (vI what), some (vI (k : Int)), none, none]) (fun σ' => σ') (fun k σ' => HM σ' (f_fair (f_cal F 0) 99 k).1 (f_fair (f_cal F 0) 99 k).2 ∧ σ' 73 20 = -4 ∧ MFr σ σ') q (fun σ2 h2 => ?_) (fun k σ2 hk h2 ih => ?_) σ1 ⟨g1, g2, g3⟩
        · obtain ⟨i1, i2, i3⟩ := h2
          obtain ⟨e1, e2⟩ := i1 p (by omega)
          have hC2 := hC.mf i3
          have hgp := gOK_fair (f_cal F 0) 99 q p
          refine jr_iload hF dX10_span_37 (q := 39) rfl rfl ?_
          refine jr_iload_n hF dX10_span_39 (q := 40) rfl rfl ?_
          refine jr_icmp_ge hF dX10_span_40 (q := 43) rfl 56 (by decide) (fun a3 => ?_) (fun a3 => ?_)
          · refine jr_aload_n hF dX10_span_56 (q := 57) rfl rfl ?_
            refine jr_getR (ci := 10) (j := 18) hF dX10_span_57 (q := 60) rfl rfl rfl fl10_49 ?_
            refine jr_iload_n hF dX10_span_60 (q := 61) rfl rfl ?_
            refine jr_iald hF dX10_span_61 (q := 62) rfl rfl (by omega) ?_
            rw [e1]
            refine jr_if_lt hF dX10_span_62 (q := 65) rfl 76 (by decide) (fun a4 => ?_) (fun a4 => ?_)
            · rw [if_neg (by omega)] at hR
              refine jr_aload_n hF dX10_span_76 (q := 77) rfl rfl ?_
              refine jr_iload_n hF dX10_span_77 (q := 78) rfl rfl ?_
              refine jr_iconst hF dX10_span_78 (q := 79) rfl (by decide) ?_
              refine jr_cV2V hF (m_one σ2 F hC2 okF' (-4) 99 abM4 i2 _ _ i1 (gOK_fair (f_cal F 0) 99 q) q hq 0 (by omega)) dX10_span_79 (q := 82) rfl lk10_174 vX10_callOne kX10_callOne rfl rfl rfl (by decide) (Nat.le_of_ble_eq_true rfl) (fun σ3 hz => ?_)
              obtain ⟨-, j2, -, j4⟩ := hz
              have hE := j2 rfl
              rw [← f_end_cal F 0] at hE
              have hC3 := hC2.mf j4
              have r8 := hC3.2.2.2.2.2.2.2
              generalize f_end (f_cal F 0) 99 (f_fair (f_cal F 0) 99 q).1 q = E at hE hR
              have hfr := i3.tr j4
              refine jr_iconst hF dX10_span_82 (q := 83) rfl (by decide) ?_
              refine jr_istore hF dX10_span_83 (q := 85) rfl (by decide) rfl ?_
              refine jr_aload_n hF dX10_span_85 (q := 86) rfl rfl ?_
              refine jr_iload_n hF dX10_span_86 (q := 87) rfl rfl ?_
              refine jr_iload_n hF dX10_span_87 (q := 88) rfl rfl ?_
              refine jr_cV2I hF (m_boundOf σ3 F hC3 okF' p q hp hq) dX10_span_88 (q := 91) rfl lk10_134 vX10_boundOf kX10_boundOf rfl rfl rfl (by decide) (Nat.le_of_ble_eq_true rfl) (fun z σ4 hz => ?_)
              obtain ⟨rfl, rfl⟩ := hz
              generalize hP : f_out (f_sp F) E (f_bnd F p q) 11 1 = P at hR
              have hP13 : P ≤ 13 := by rw [← hP]; exact f_out_le hsp (by omega) 11 1 (by omega)
              have hend : ∀ pp last : Int, pp = P → 1 ≤ pp → ((pp = 1 ∧ last = 0) ∨ (1 + f_sp F ≤ pp ∧ last = pp - f_sp F)) → Gs X 130 [some (vR 73), some (vI (p : Int)), some (vI (q : Int)), some (vI what), some (vI last), some (vI (f_bnd F p q)), some (vI pp)] [] σ3 := by
                intro pp last hpp hp1 hl
                refine jr_iload_n hF dX10_span_130 (q := 131) rfl rfl ?_
                refine jr_if_ne hF dX10_span_131 (q := 134) rfl 139 (by decide) (fun a5 => ?_) (fun a5 => ?_)
                · rw [if_neg a5] at hR
                  refine jr_iload hF dX10_span_139 (q := 141) rfl rfl ?_
                  refine jr_aload_n hF dX10_span_141 (q := 142) rfl rfl ?_
                  refine jr_getI (ci := 10) (j := 22) hF 22 rfl dX10_span_142 (q := 145) rfl rfl rfl fl10_155 ?_
                  rw [hE]
                  refine jr_icmp_le hF dX10_span_145 (q := 148) rfl 153 (by decide) (fun a6 => ?_) (fun a6 => ?_)
                  · refine jr_iload hF dX10_span_153 (q := 155) rfl rfl ?_
                    refine jr_iconst hF dX10_span_155 (q := 156) rfl (by decide) ?_
                    refine jr_isub hF dX10_span_156 (q := 157) rfl (by omega) ?_
                    refine jr_retI hF hR dX10_span_157 rfl ⟨by rw [if_neg (by omega), hpp], h.mf hfr, hfr.lo⟩
                  · refine jr_bipush hF dX10_span_148 (q := 150) rfl (by decide) (by decide +kernel) ?_
                    refine jr_goto hF dX10_span_150 157 (by decide) ?_
                    refine jr_retI hF hR dX10_span_157 rfl ⟨by rw [if_pos (by omega)], h.mf hfr, hfr.lo⟩
                · rw [if_pos a5] at hR
                  refine jr_iload hF dX10_span_134 (q := 136) rfl rfl ?_
                  refine jr_goto hF dX10_span_136 157 (by decide) ?_
                  refine jr_retI hF hR dX10_span_157 rfl ⟨?_, h.mf hfr, hfr.lo⟩
                  by_cases e : P = 1
                  · rw [if_pos e]; omega
                  · rw [if_neg e]; omega
              refine jr_istore hF dX10_span_91 (q := 93) rfl (by decide) rfl ?_
              refine jr_iconst hF dX10_span_93 (q := 94) rfl (by decide) ?_
              refine jr_istore hF dX10_span_94 (q := 96) rfl (by decide) rfl ?_
              refine gs_down (α := Int × Int) (fun a => [some (vR 73), some (vI (p : Int)), some (vI (q : Int)), some (vI what), some (vI a.2), some (vI (f_bnd F p q)), some (vI a.1)]) (fun _ => σ3) (fun n a => f_out (f_sp F) E (f_bnd F p q) n a.1 = P ∧ 12 ≤ a.1 + n ∧ (1 ≤ a.1 ∧ a.1 ≤ 13) ∧ ((a.1 = 1 ∧ a.2 = 0) ∨ (1 + f_sp F ≤ a.1 ∧ a.2 = a.1 - f_sp F))) (fun a hI => ?_) (fun n a hI ih => ?_) 11 (1, 0) ⟨hP, by show (12 : Int) ≤ 1 + 11; omega, by show (1 : Int) ≤ 1 ∧ (1 : Int) ≤ 13; omega, Or.inl ⟨rfl, rfl⟩⟩
              · obtain ⟨pp, last⟩ := a
                obtain ⟨c1, c2, c3, c4⟩ := hI
                dsimp only at c1 c2 c3 c4 ⊢
                replace c1 : pp = P := c1
                refine jr_iload hF dX10_span_96 (q := 98) rfl rfl ?_
                refine jr_aload_n hF dX10_span_98 (q := 99) rfl rfl ?_
                refine jr_getI (ci := 10) (j := 22) hF 22 rfl dX10_span_99 (q := 102) rfl rfl rfl fl10_155 ?_
                rw [hE]
                refine jr_icmp_gt hF dX10_span_102 (q := 105) rfl 130 (by decide) (fun a5 => ?_) (fun a5 => ?_)
                · exact hend pp last c1 c3.1 c4
                · refine jr_iload hF dX10_span_105 (q := 107) rfl rfl ?_
                  refine jr_iload hF dX10_span_107 (q := 109) rfl rfl ?_
                  refine jr_icmp_lt hF dX10_span_109 (q := 112) rfl 130 (by decide) (fun a6 => ?_) (fun a6 => ?_)
                  · exact hend pp last c1 c3.1 c4
                  · omega
              · obtain ⟨pp, last⟩ := a
                obtain ⟨c1, c2, c3, c4⟩ := hI
                dsimp only at c1 c2 c3 c4 ⊢
                have e0 : f_out (f_sp F) E (f_bnd F p q) (n + 1) pp = if pp ≤ E ∧ pp ≤ f_bnd F p q then f_out (f_sp F) E (f_bnd F p q) n (pp + f_sp F) else pp := rfl
                refine jr_iload hF dX10_span_96 (q := 98) rfl rfl ?_
                refine jr_aload_n hF dX10_span_98 (q := 99) rfl rfl ?_
                refine jr_getI (ci := 10) (j := 22) hF 22 rfl dX10_span_99 (q := 102) rfl rfl rfl fl10_155 ?_
                rw [hE]
                refine jr_icmp_gt hF dX10_span_102 (q := 105) rfl 130 (by decide) (fun a5 => ?_) (fun a5 => ?_)
                · rw [e0, if_neg (by omega)] at c1
                  exact hend pp last c1 c3.1 c4
                · refine jr_iload hF dX10_span_105 (q := 107) rfl rfl ?_
                  refine jr_iload hF dX10_span_107 (q := 109) rfl rfl ?_
                  refine jr_icmp_lt hF dX10_span_109 (q := 112) rfl 130 (by decide) (fun a6 => ?_) (fun a6 => ?_)
                  · rw [e0, if_neg (by omega)] at c1
                    exact hend pp last c1 c3.1 c4
                  · rw [e0, if_pos ⟨by omega, by omega⟩] at c1
                    have ih1 := ih (pp + f_sp F, pp) ⟨c1, by show 12 ≤ pp + f_sp F + (n : Int); omega, by show 1 ≤ pp + f_sp F ∧ pp + f_sp F ≤ 13; omega, Or.inr ⟨by show 1 + f_sp F ≤ pp + f_sp F; omega, by show pp = pp + f_sp F - f_sp F; omega⟩⟩
                    dsimp only at ih1
                    refine jr_iload hF dX10_span_112 (q := 114) rfl rfl ?_
                    refine jr_istore hF dX10_span_114 (q := 116) rfl (by decide) rfl ?_
                    refine jr_iload hF dX10_span_116 (q := 118) rfl rfl ?_
                    refine jr_aload_n hF dX10_span_118 (q := 119) rfl rfl ?_
                    refine jr_getR (ci := 10) (j := 9) hF dX10_span_119 (q := 122) rfl rfl rfl fl10_34 ?_
                    refine jr_iconst hF dX10_span_122 (q := 123) rfl (by decide) ?_
                    refine jr_iald hF dX10_span_123 (q := 124) rfl rfl (by omega) ?_
                    rw [r8]
                    refine jr_iadd hF dX10_span_124 (q := 125) rfl (by omega) ?_
                    refine jr_istore hF dX10_span_125 (q := 127) rfl (by decide) rfl ?_
                    refine jr_goto hF dX10_span_127 96 (by decide) ?_
                    exact ih1
            · rw [if_pos (by omega)] at hR
              refine jr_iload_n hF dX10_span_65 (q := 66) rfl rfl ?_
              refine jr_if_ne hF dX10_span_66 (q := 69) rfl 73 (by decide) (fun a5 => ?_) (fun a5 => ?_)
              · refine jr_bipush hF dX10_span_73 (q := 75) rfl (by decide) (by decide +kernel) ?_
                refine jr_retI hF hR dX10_span_75 rfl ⟨by rw [if_neg a5], h.mf i3, i3.lo⟩
              · refine jr_iconst hF dX10_span_69 (q := 70) rfl (by decide) ?_
                refine jr_goto hF dX10_span_70 75 (by decide) ?_
                refine jr_retI hF hR dX10_span_75 rfl ⟨by rw [if_pos a5], h.mf i3, i3.lo⟩
          · omega
        · obtain ⟨i1, i2, i3⟩ := h2
          refine jr_iload hF dX10_span_37 (q := 39) rfl rfl ?_
          refine jr_iload_n hF dX10_span_39 (q := 40) rfl rfl ?_
          refine jr_icmp_ge hF dX10_span_40 (q := 43) rfl 56 (by decide) (fun a3 => ?_) (fun a3 => ?_)
          · omega
          · refine jr_aload_n hF dX10_span_43 (q := 44) rfl rfl ?_
            refine jr_iload hF dX10_span_44 (q := 46) rfl rfl ?_
            refine jr_iconst hF dX10_span_46 (q := 47) rfl (by decide) ?_
            refine jr_cV2V hF (m_one σ2 F (hC.mf i3) okF' (-4) 99 abM4 i2 _ _ i1 (gOK_fair (f_cal F 0) 99 k) k (by omega) 0 (by omega)) dX10_span_47 (q := 50) rfl lk10_174 vX10_callOne kX10_callOne rfl rfl rfl (by decide) (Nat.le_of_ble_eq_true rfl) (fun σ3 hz => ?_)
            obtain ⟨j1, -, j3, j4⟩ := hz
            have ih1 := ih σ3 ⟨j1, by rw [j3]; exact i2, i3.tr j4⟩
            refine jr_iinc hF dX10_span_50 (q := 53) rfl (by decide) rfl rfl (by omega) ?_
            refine jr_goto hF dX10_span_53 37 (by decide) ?_
            exact ih1
      · exact hbad (fun hh => by rw [if_pos (by omega)] at a2; omega)
end

