/-- only what the ways are found with changed -/
def SFr (σ σ' : Sg) : Prop := ∀ k, k ≠ 91 → k ≠ 92 → k ≠ 93 → σ' k = σ k
theorem SFr.rf (σ : Sg) : SFr σ σ := fun _ _ _ _ => rfl
theorem SFr.tr {a b c : Sg} (h : SFr a b) (h2 : SFr b c) : SFr a c := fun k h1 h3 h4 => by rw [h2 k h1 h3 h4]; exact h k h1 h3 h4
theorem RepM.sf {σ σ' : Sg} {F : FD} (h : RepM σ F) (hf : SFr σ σ') : RepM σ' F := h.fr (fun k l1 l2 => hf k (by omega) (by omega) (by omega))
theorem RM.sf {σ σ' : Sg} {A : AS} (h : RM σ A) (hf : SFr σ σ') : RM σ' A := h.fr (fun k l1 l2 => hf k (by omega) (by omega) (by omega)) (fun j _ => by rw [hf 73 (by decide) (by decide) (by decide)])
set_option maxRecDepth 100000 in
theorem m_sumOf (σ : Sg) (F : FD) (hC : RepM σ F) (ok : okF F) (c : Nat) (hW : WM σ F c) (z0 : Int) : RI mX10_sumOf 1 [vR 73, vI z0] σ (fun z σ' => z = sumF (fun i => if (i : Int) = z0 then 0 else tm F i (dgp (f_bs F) (f_nl F) c i)) (f_nl F) ∧ σ = σ') := by
  have h5 := ok.2.1
  have h3 := ok.1
  have r1 := hC.1
  have r2 := hC.2.1
  have hle : ∀ i, i < f_nl F → 0 ≤ (if (i : Int) = z0 then 0 else tm F i (dgp (f_bs F) (f_nl F) c i)) ∧ (if (i : Int) = z0 then 0 else tm F i (dgp (f_bs F) (f_nl F) c i)) ≤ 10 := by
    intro i hi
    have := tm_le ok hi (dgp_lt F (f_nl F) c i)
    split <;> omega
  refine mkRun (by decide +kernel) (Nat.le_of_ble_eq_true rfl) (fun X hF hR => ?_)
  refine jr_iconst hF dX10_sumOf_0 (q := 1) rfl (by decide) ?_
  refine jr_istore_n hF dX10_sumOf_1 (q := 2) rfl (by decide) rfl ?_
  refine jr_iconst hF dX10_sumOf_2 (q := 3) rfl (by decide) ?_
  refine jr_istore_n hF dX10_sumOf_3 (q := 4) rfl (by decide) rfl ?_
  refine gs_loop (α := Unit) (fun k _ => [some (vR 73), some (vI z0), some (vI (sumF (fun i => if (i : Int) = z0 then 0 else tm F i (dgp (f_bs F) (f_nl F) c i)) k)), some (vI (k : Int))]) (fun _ => σ) (fun _ _ => True) (f_nl F) (fun _ _ => ?_) (fun k _ hk _ ih => ?_) () trivial
  · refine jr_iload_n hF dX10_sumOf_4 (q := 5) rfl rfl ?_
    refine jr_aload_n hF dX10_sumOf_5 (q := 6) rfl rfl ?_
    refine jr_getR (ci := 10) (j := 4) hF dX10_sumOf_6 (q := 9) rfl rfl rfl fl10_19 ?_
    refine jr_iconst hF dX10_sumOf_9 (q := 10) rfl (by decide) ?_
    refine jr_iald hF dX10_sumOf_10 (q := 11) rfl rfl (by omega) ?_
    refine jr_icmp_ge hF dX10_sumOf_11 (q := 14) rfl 62 (by decide) (fun h1 => ?_) (fun h1 => ?_)
    · refine jr_iload_n hF dX10_sumOf_62 (q := 63) rfl rfl ?_
      refine jr_retI hF hR dX10_sumOf_63 rfl ⟨rfl, rfl⟩
    · omega
  · have hs := sumF_le (n := k) (fun i hi => hle i (by omega))
    have hk1 := hle k hk
    have ih1 := ih () trivial
    have es : sumF (fun i => if (i : Int) = z0 then 0 else tm F i (dgp (f_bs F) (f_nl F) c i)) (k + 1) = sumF (fun i => if (i : Int) = z0 then 0 else tm F i (dgp (f_bs F) (f_nl F) c i)) k + (if (k : Int) = z0 then 0 else tm F k (dgp (f_bs F) (f_nl F) c k)) := rfl
    rw [es] at ih1
    have ed := hW.1 k hk
    have hdk := dgp_lt F (f_nl F) c k
    have htm : tm F k (dgp (f_bs F) (f_nl F) c k) = if dgp (f_bs F) (f_nl F) c k = f_nm F then 0 else f_wt F k (dgp (f_bs F) (f_nl F) c k) := rfl
    generalize dgp (f_bs F) (f_nl F) c k = d at *
    generalize sumF (fun i => if (i : Int) = z0 then 0 else tm F i (dgp (f_bs F) (f_nl F) c i)) k = sm at *
    refine jr_iload_n hF dX10_sumOf_4 (q := 5) rfl rfl ?_
    refine jr_aload_n hF dX10_sumOf_5 (q := 6) rfl rfl ?_
    refine jr_getR (ci := 10) (j := 4) hF dX10_sumOf_6 (q := 9) rfl rfl rfl fl10_19 ?_
    refine jr_iconst hF dX10_sumOf_9 (q := 10) rfl (by decide) ?_
    refine jr_iald hF dX10_sumOf_10 (q := 11) rfl rfl (by omega) ?_
    refine jr_icmp_ge hF dX10_sumOf_11 (q := 14) rfl 62 (by decide) (fun h1 => ?_) (fun h1 => ?_)
    · omega
    · refine jr_iload_n hF dX10_sumOf_14 (q := 15) rfl rfl ?_
      refine jr_iload_n hF dX10_sumOf_15 (q := 16) rfl rfl ?_
      refine jr_iload_n hF dX10_sumOf_16 (q := 17) rfl rfl ?_
      refine jr_icmp_eq hF dX10_sumOf_17 (q := 20) rfl 35 (by decide) (fun h2 => ?_) (fun h2 => ?_)
      · rw [if_pos h2] at ih1
        refine jr_iconst hF dX10_sumOf_35 (q := 36) rfl (by decide) ?_
        refine jr_goto hF dX10_sumOf_36 54 (by decide) ?_
        refine jr_iadd hF dX10_sumOf_54 (q := 55) rfl (by omega) ?_
        refine jr_istore_n hF dX10_sumOf_55 (q := 56) rfl (by decide) rfl ?_
        refine jr_iinc hF dX10_sumOf_56 (q := 59) rfl (by decide) rfl rfl (by omega) ?_
        refine jr_goto hF dX10_sumOf_59 4 (by decide) ?_
        exact ih1
      · rw [if_neg h2] at ih1 hk1
        refine jr_aload_n hF dX10_sumOf_20 (q := 21) rfl rfl ?_
        refine jr_getR (ci := 10) (j := 26) hF dX10_sumOf_21 (q := 24) rfl rfl rfl fl10_64 ?_
        refine jr_iload_n hF dX10_sumOf_24 (q := 25) rfl rfl ?_
        refine jr_iald hF dX10_sumOf_25 (q := 26) rfl rfl (by omega) ?_
        refine jr_aload_n hF dX10_sumOf_26 (q := 27) rfl rfl ?_
        refine jr_getR (ci := 10) (j := 2) hF dX10_sumOf_27 (q := 30) rfl rfl rfl fl10_13 ?_
        refine jr_iconst hF dX10_sumOf_30 (q := 31) rfl (by decide) ?_
        refine jr_iald hF dX10_sumOf_31 (q := 32) rfl rfl (by omega) ?_
        rw [ed, r1]
        refine jr_icmp_ne hF dX10_sumOf_32 (q := 35) rfl 39 (by decide) (fun h4 => ?_) (fun h4 => ?_)
        · rw [htm, if_neg (by omega)] at ih1 hk1
          have ew := hC.want hk (show d < f_nm F by omega)
          refine jr_aload_n hF dX10_sumOf_39 (q := 40) rfl rfl ?_
          refine jr_getR (ci := 10) (j := 6) hF dX10_sumOf_40 (q := 43) rfl rfl rfl fl10_25 ?_
          refine jr_iconst hF dX10_sumOf_43 (q := 44) rfl (by decide) ?_
          refine jr_iload_n hF dX10_sumOf_44 (q := 45) rfl rfl ?_
          refine jr_imul hF dX10_sumOf_45 (q := 46) rfl (by omega) ?_
          refine jr_aload_n hF dX10_sumOf_46 (q := 47) rfl rfl ?_
          refine jr_getR (ci := 10) (j := 26) hF dX10_sumOf_47 (q := 50) rfl rfl rfl fl10_64 ?_
          refine jr_iload_n hF dX10_sumOf_50 (q := 51) rfl rfl ?_
          refine jr_iald hF dX10_sumOf_51 (q := 52) rfl rfl (by omega) ?_
          rw [ed]
          refine jr_iadd hF dX10_sumOf_52 (q := 53) rfl (by omega) ?_
          refine jr_iald hF dX10_sumOf_53 (q := 54) rfl rfl (by omega) ?_
          rw [ew]
          refine jr_iadd hF dX10_sumOf_54 (q := 55) rfl (by omega) ?_
          refine jr_istore_n hF dX10_sumOf_55 (q := 56) rfl (by decide) rfl ?_
          refine jr_iinc hF dX10_sumOf_56 (q := 59) rfl (by decide) rfl rfl (by omega) ?_
          refine jr_goto hF dX10_sumOf_59 4 (by decide) ?_
          exact ih1
        · rw [htm, if_pos (by omega)] at ih1
          refine jr_iconst hF dX10_sumOf_35 (q := 36) rfl (by decide) ?_
          refine jr_goto hF dX10_sumOf_36 54 (by decide) ?_
          refine jr_iadd hF dX10_sumOf_54 (q := 55) rfl (by omega) ?_
          refine jr_istore_n hF dX10_sumOf_55 (q := 56) rfl (by decide) rfl ?_
          refine jr_iinc hF dX10_sumOf_56 (q := 59) rfl (by decide) rfl rfl (by omega) ?_
          refine jr_goto hF dX10_sumOf_59 4 (by decide) ?_
          exact ih1
set_option maxRecDepth 100000 in
theorem m_atRest (σ : Sg) (F : FD) (hC : RepM σ F) (ok : okF F) (c : Nat) (hW : WM σ F c) (pr : Nat → Int) (hP : ∀ m : Nat, m < f_nm F → σ 91 (m : Int) = pr m) (hp : ∀ m, 0 ≤ pr m ∧ pr m ≤ 10) : RI mX10_isAtRest 1 [vR 73] σ (fun z σ' => z = (if arB F c pr = true then 1 else 0) ∧ σ = σ') := by
  have h5 := ok.2.1
  have h3 := ok.1
  have r1 := hC.1
  have r2 := hC.2.1
  have hcond : ∀ b : Bool, (if b = true then (1 : Int) else 0) = 0 ∨ (if b = true then (1 : Int) else 0) = 1 := fun b => by cases b <;> simp
  refine mkRun (by decide +kernel) (Nat.le_of_ble_eq_true rfl) (fun X hF hR => ?_)
  refine jr_iconst hF dX10_isAtRest_0 (q := 1) rfl (by decide) ?_
  refine jr_istore_n hF dX10_isAtRest_1 (q := 2) rfl (by decide) rfl ?_
  refine jr_iconst hF dX10_isAtRest_2 (q := 3) rfl (by decide) ?_
  refine jr_istore_n hF dX10_isAtRest_3 (q := 4) rfl (by decide) rfl ?_
  refine gs_loop (α := Unit) (fun k _ => [some (vR 73), some (vI (if allB (fun m => decide (pr m ≤ 0 ∨ cnd F (f_nl F) c m = f_rm F m)) k = true then 1 else 0)), some (vI (k : Int)), none, none]) (fun _ => σ) (fun _ _ => True) (f_nm F) (fun _ _ => ?_) (fun k _ hk _ ih => ?_) () trivial
  · refine jr_iload_n hF dX10_isAtRest_4 (q := 5) rfl rfl ?_
    refine jr_aload_n hF dX10_isAtRest_5 (q := 6) rfl rfl ?_
    refine jr_getR (ci := 10) (j := 2) hF dX10_isAtRest_6 (q := 9) rfl rfl rfl fl10_13 ?_
    refine jr_iconst hF dX10_isAtRest_9 (q := 10) rfl (by decide) ?_
    refine jr_iald hF dX10_isAtRest_10 (q := 11) rfl rfl (by omega) ?_
    refine jr_icmp_ge hF dX10_isAtRest_11 (q := 14) rfl 54 (by decide) (fun a1 => ?_) (fun a1 => ?_)
    · refine jr_iconst hF dX10_isAtRest_54 (q := 55) rfl (by decide) ?_
      refine jr_istore_n hF dX10_isAtRest_55 (q := 56) rfl (by decide) rfl ?_
      have eA : arB F c pr = (allB (fun m => decide (pr m ≤ 0 ∨ cnd F (f_nl F) c m = f_rm F m)) (f_nm F) && allB (fun i => ctB F pr i (dgp (f_bs F) (f_nl F) c i)) (f_nl F)) := rfl
      rw [eA] at hR
      generalize allB (fun m => decide (pr m ≤ 0 ∨ cnd F (f_nl F) c m = f_rm F m)) (f_nm F) = b0 at *
      suffices start : Gs X 56 [some (vR 73), some (vI (if (b0 && allB (fun i => ctB F pr i (dgp (f_bs F) (f_nl F) c i)) 0) = true then 1 else 0)), some (vI ((0 : Nat) : Int)), none, none] [] σ by
        have e0 : (b0 && allB (fun i => ctB F pr i (dgp (f_bs F) (f_nl F) c i)) 0) = b0 := Bool.and_true b0
        rw [e0] at start
        exact start
      refine gs_loop (α := Unit) (fun k _ => [some (vR 73), some (vI (if (b0 && allB (fun i => ctB F pr i (dgp (f_bs F) (f_nl F) c i)) k) = true then 1 else 0)), some (vI (k : Int)), none, none]) (fun _ => σ) (fun _ _ => True) (f_nl F) (fun _ _ => ?_) (fun k _ hk _ ih => ?_) () trivial
      · refine jr_iload_n hF dX10_isAtRest_56 (q := 57) rfl rfl ?_
        refine jr_aload_n hF dX10_isAtRest_57 (q := 58) rfl rfl ?_
        refine jr_getR (ci := 10) (j := 4) hF dX10_isAtRest_58 (q := 61) rfl rfl rfl fl10_19 ?_
        refine jr_iconst hF dX10_isAtRest_61 (q := 62) rfl (by decide) ?_
        refine jr_iald hF dX10_isAtRest_62 (q := 63) rfl rfl (by omega) ?_
        refine jr_icmp_ge hF dX10_isAtRest_63 (q := 66) rfl 186 (by decide) (fun a2 => ?_) (fun a2 => ?_)
        · refine jr_iload_n hF dX10_isAtRest_186 (q := 187) rfl rfl ?_
          refine jr_retZ hF hR dX10_isAtRest_187 rfl (hcond _) ⟨rfl, rfl⟩
        · omega
      · have ih1 := ih () trivial
        have ed := hW.1 k hk
        have hdk := dgp_lt F (f_nl F) c k
        have e1 : (b0 && allB (fun i => ctB F pr i (dgp (f_bs F) (f_nl F) c i)) (k + 1)) = ((b0 && allB (fun i => ctB F pr i (dgp (f_bs F) (f_nl F) c i)) k) && ctB F pr k (dgp (f_bs F) (f_nl F) c k)) := by
          rw [Bool.and_assoc]
          rfl
        rw [e1] at ih1
        generalize (b0 && allB (fun i => ctB F pr i (dgp (f_bs F) (f_nl F) c i)) k) = b1 at *
        generalize dgp (f_bs F) (f_nl F) c k = d at *
        have hcont : ∀ o : Int, o = own F pr k d → Gs X 112 [some (vR 73), some (vI (if b1 = true then 1 else 0)), some (vI (k : Int)), none, none] [vI o] σ := by
          intro o ho
          have eC : ctB F pr k d = (decide (0 ≤ o) && allB (fun m => decide (f_wt F k m - pr m ≤ o)) (f_nm F)) := by rw [ho]; rfl
          rw [eC, ← Bool.and_assoc] at ih1
          have hin : ∀ b2 : Bool, b2 = (b1 && decide (0 ≤ o)) → Gs X 126 [some (vR 73), some (vI (if b1 = true then 1 else 0)), some (vI (k : Int)), some (vI o), none] [vI (if b2 = true then 1 else 0)] σ := by
            intro b2 hb2
            rw [← hb2] at ih1
            refine jr_istore_n hF dX10_isAtRest_126 (q := 127) rfl (by decide) rfl ?_
            refine jr_iconst hF dX10_isAtRest_127 (q := 128) rfl (by decide) ?_
            refine jr_istore hF dX10_isAtRest_128 (q := 130) rfl (by decide) rfl ?_
            suffices start : Gs X 130 [some (vR 73), some (vI (if (b2 && allB (fun m => decide (f_wt F k m - pr m ≤ o)) 0) = true then 1 else 0)), some (vI (k : Int)), some (vI o), some (vI ((0 : Nat) : Int))] [] σ by
              have e0 : (b2 && allB (fun m => decide (f_wt F k m - pr m ≤ o)) 0) = b2 := Bool.and_true b2
              rw [e0] at start
              exact start
            refine gs_loop (α := Unit) (fun m _ => [some (vR 73), some (vI (if (b2 && allB (fun m => decide (f_wt F k m - pr m ≤ o)) m) = true then 1 else 0)), some (vI (k : Int)), some (vI o), some (vI (m : Int))]) (fun _ => σ) (fun _ _ => True) (f_nm F) (fun _ _ => ?_) (fun m _ hm _ ih2 => ?_) () trivial
            · refine jr_iload hF dX10_isAtRest_130 (q := 132) rfl rfl ?_
              refine jr_aload_n hF dX10_isAtRest_132 (q := 133) rfl rfl ?_
              refine jr_getR (ci := 10) (j := 2) hF dX10_isAtRest_133 (q := 136) rfl rfl rfl fl10_13 ?_
              refine jr_iconst hF dX10_isAtRest_136 (q := 137) rfl (by decide) ?_
              refine jr_iald hF dX10_isAtRest_137 (q := 138) rfl rfl (by omega) ?_
              refine jr_icmp_ge hF dX10_isAtRest_138 (q := 141) rfl 180 (by decide) (fun a3 => ?_) (fun a3 => ?_)
              · refine jr_fg 3 (jr_fg 4 ?_)
                refine jr_iinc hF dX10_isAtRest_180 (q := 183) rfl (by decide) rfl rfl (by omega) ?_
                refine jr_goto hF dX10_isAtRest_183 56 (by decide) ?_
                exact ih1
              · omega
            · have ih3 := ih2 () trivial
              have e2 : (b2 && allB (fun m => decide (f_wt F k m - pr m ≤ o)) (m + 1)) = ((b2 && allB (fun m => decide (f_wt F k m - pr m ≤ o)) m) && decide (f_wt F k m - pr m ≤ o)) := by
                rw [Bool.and_assoc]
                rfl
              rw [e2] at ih3
              generalize (b2 && allB (fun m => decide (f_wt F k m - pr m ≤ o)) m) = b3 at *
              have ew := hC.want hk hm
              have hwl := ok.2.2.2.2.1 k m hk hm
              have hpm := hp m
              refine jr_iload hF dX10_isAtRest_130 (q := 132) rfl rfl ?_
              refine jr_aload_n hF dX10_isAtRest_132 (q := 133) rfl rfl ?_
              refine jr_getR (ci := 10) (j := 2) hF dX10_isAtRest_133 (q := 136) rfl rfl rfl fl10_13 ?_
              refine jr_iconst hF dX10_isAtRest_136 (q := 137) rfl (by decide) ?_
              refine jr_iald hF dX10_isAtRest_137 (q := 138) rfl rfl (by omega) ?_
              refine jr_icmp_ge hF dX10_isAtRest_138 (q := 141) rfl 180 (by decide) (fun a3 => ?_) (fun a3 => ?_)
              · omega
              · refine jr_iload_n hF dX10_isAtRest_141 (q := 142) rfl rfl ?_
                refine jr_if_eq hF dX10_isAtRest_142 (q := 145) rfl 172 (by decide) (fun a4 => ?_) (fun a4 => ?_)
                · rw [bi_0 a4, Bool.false_and] at ih3
                  refine jr_iconst hF dX10_isAtRest_172 (q := 173) rfl (by decide) ?_
                  refine jr_istore_n hF dX10_isAtRest_173 (q := 174) rfl (by decide) rfl ?_
                  refine jr_iinc hF dX10_isAtRest_174 (q := 177) rfl (by decide) rfl rfl (by omega) ?_
                  refine jr_goto hF dX10_isAtRest_177 130 (by decide) ?_
                  exact ih3
                · rw [bi_1 a4, Bool.true_and] at ih3
                  refine jr_aload_n hF dX10_isAtRest_145 (q := 146) rfl rfl ?_
                  refine jr_getR (ci := 10) (j := 6) hF dX10_isAtRest_146 (q := 149) rfl rfl rfl fl10_25 ?_
                  refine jr_iconst hF dX10_isAtRest_149 (q := 150) rfl (by decide) ?_
                  refine jr_iload_n hF dX10_isAtRest_150 (q := 151) rfl rfl ?_
                  refine jr_imul hF dX10_isAtRest_151 (q := 152) rfl (by omega) ?_
                  refine jr_iload hF dX10_isAtRest_152 (q := 154) rfl rfl ?_
                  refine jr_iadd hF dX10_isAtRest_154 (q := 155) rfl (by omega) ?_
                  refine jr_iald hF dX10_isAtRest_155 (q := 156) rfl rfl (by omega) ?_
                  refine jr_aload_n hF dX10_isAtRest_156 (q := 157) rfl rfl ?_
                  refine jr_getR (ci := 10) (j := 25) hF dX10_isAtRest_157 (q := 160) rfl rfl rfl fl10_61 ?_
                  refine jr_iload hF dX10_isAtRest_160 (q := 162) rfl rfl ?_
                  refine jr_iald hF dX10_isAtRest_162 (q := 163) rfl rfl (by omega) ?_
                  rw [ew, hP m hm]
                  refine jr_isub hF dX10_isAtRest_163 (q := 164) rfl (by omega) ?_
                  refine jr_iload_n hF dX10_isAtRest_164 (q := 165) rfl rfl ?_
                  refine jr_icmp_gt hF dX10_isAtRest_165 (q := 168) rfl 172 (by decide) (fun a5 => ?_) (fun a5 => ?_)
                  · rw [decide_eq_false (by omega)] at ih3
                    refine jr_iconst hF dX10_isAtRest_172 (q := 173) rfl (by decide) ?_
                    refine jr_istore_n hF dX10_isAtRest_173 (q := 174) rfl (by decide) rfl ?_
                    refine jr_iinc hF dX10_isAtRest_174 (q := 177) rfl (by decide) rfl rfl (by omega) ?_
                    refine jr_goto hF dX10_isAtRest_177 130 (by decide) ?_
                    exact ih3
                  · rw [decide_eq_true (by omega)] at ih3
                    refine jr_iconst hF dX10_isAtRest_168 (q := 169) rfl (by decide) ?_
                    refine jr_goto hF dX10_isAtRest_169 173 (by decide) ?_
                    refine jr_istore_n hF dX10_isAtRest_173 (q := 174) rfl (by decide) rfl ?_
                    refine jr_iinc hF dX10_isAtRest_174 (q := 177) rfl (by decide) rfl rfl (by omega) ?_
                    refine jr_goto hF dX10_isAtRest_177 130 (by decide) ?_
                    exact ih3
          refine jr_istore_n hF dX10_isAtRest_112 (q := 113) rfl (by decide) rfl ?_
          refine jr_iload_n hF dX10_isAtRest_113 (q := 114) rfl rfl ?_
          refine jr_if_eq hF dX10_isAtRest_114 (q := 117) rfl 125 (by decide) (fun a4 => ?_) (fun a4 => ?_)
          · refine jr_iconst hF dX10_isAtRest_125 (q := 126) rfl (by decide) ?_
            have := hin false (by rw [bi_0 a4]; rfl)
            exact this
          · refine jr_iload_n hF dX10_isAtRest_117 (q := 118) rfl rfl ?_
            refine jr_if_lt hF dX10_isAtRest_118 (q := 121) rfl 125 (by decide) (fun a5 => ?_) (fun a5 => ?_)
            · refine jr_iconst hF dX10_isAtRest_125 (q := 126) rfl (by decide) ?_
              exact hin false (by rw [decide_eq_false (by omega), Bool.and_false])
            · refine jr_iconst hF dX10_isAtRest_121 (q := 122) rfl (by decide) ?_
              refine jr_goto hF dX10_isAtRest_122 126 (by decide) ?_
              exact hin true (by rw [bi_1 a4, decide_eq_true (by omega)]; rfl)
        refine jr_iload_n hF dX10_isAtRest_56 (q := 57) rfl rfl ?_
        refine jr_aload_n hF dX10_isAtRest_57 (q := 58) rfl rfl ?_
        refine jr_getR (ci := 10) (j := 4) hF dX10_isAtRest_58 (q := 61) rfl rfl rfl fl10_19 ?_
        refine jr_iconst hF dX10_isAtRest_61 (q := 62) rfl (by decide) ?_
        refine jr_iald hF dX10_isAtRest_62 (q := 63) rfl rfl (by omega) ?_
        refine jr_icmp_ge hF dX10_isAtRest_63 (q := 66) rfl 186 (by decide) (fun a2 => ?_) (fun a2 => ?_)
        · omega
        · refine jr_aload_n hF dX10_isAtRest_66 (q := 67) rfl rfl ?_
          refine jr_getR (ci := 10) (j := 26) hF dX10_isAtRest_67 (q := 70) rfl rfl rfl fl10_64 ?_
          refine jr_iload_n hF dX10_isAtRest_70 (q := 71) rfl rfl ?_
          refine jr_iald hF dX10_isAtRest_71 (q := 72) rfl rfl (by omega) ?_
          refine jr_aload_n hF dX10_isAtRest_72 (q := 73) rfl rfl ?_
          refine jr_getR (ci := 10) (j := 2) hF dX10_isAtRest_73 (q := 76) rfl rfl rfl fl10_13 ?_
          refine jr_iconst hF dX10_isAtRest_76 (q := 77) rfl (by decide) ?_
          refine jr_iald hF dX10_isAtRest_77 (q := 78) rfl rfl (by omega) ?_
          rw [ed, r1]
          refine jr_icmp_ne hF dX10_isAtRest_78 (q := 81) rfl 85 (by decide) (fun a3 => ?_) (fun a3 => ?_)
          · have hd : d < f_nm F := by omega
            have ew := hC.want hk hd
            have hwl := ok.2.2.2.2.1 k d hk hd
            have hpm := hp d
            refine jr_aload_n hF dX10_isAtRest_85 (q := 86) rfl rfl ?_
            refine jr_getR (ci := 10) (j := 6) hF dX10_isAtRest_86 (q := 89) rfl rfl rfl fl10_25 ?_
            refine jr_iconst hF dX10_isAtRest_89 (q := 90) rfl (by decide) ?_
            refine jr_iload_n hF dX10_isAtRest_90 (q := 91) rfl rfl ?_
            refine jr_imul hF dX10_isAtRest_91 (q := 92) rfl (by omega) ?_
            refine jr_aload_n hF dX10_isAtRest_92 (q := 93) rfl rfl ?_
            refine jr_getR (ci := 10) (j := 26) hF dX10_isAtRest_93 (q := 96) rfl rfl rfl fl10_64 ?_
            refine jr_iload_n hF dX10_isAtRest_96 (q := 97) rfl rfl ?_
            refine jr_iald hF dX10_isAtRest_97 (q := 98) rfl rfl (by omega) ?_
            rw [ed]
            refine jr_iadd hF dX10_isAtRest_98 (q := 99) rfl (by omega) ?_
            refine jr_iald hF dX10_isAtRest_99 (q := 100) rfl rfl (by omega) ?_
            refine jr_aload_n hF dX10_isAtRest_100 (q := 101) rfl rfl ?_
            refine jr_getR (ci := 10) (j := 25) hF dX10_isAtRest_101 (q := 104) rfl rfl rfl fl10_61 ?_
            refine jr_aload_n hF dX10_isAtRest_104 (q := 105) rfl rfl ?_
            refine jr_getR (ci := 10) (j := 26) hF dX10_isAtRest_105 (q := 108) rfl rfl rfl fl10_64 ?_
            refine jr_iload_n hF dX10_isAtRest_108 (q := 109) rfl rfl ?_
            refine jr_iald hF dX10_isAtRest_109 (q := 110) rfl rfl (by omega) ?_
            rw [ew, ed]
            refine jr_iald hF dX10_isAtRest_110 (q := 111) rfl rfl (by omega) ?_
            rw [hP d hd]
            refine jr_isub hF dX10_isAtRest_111 (q := 112) rfl (by omega) ?_
            exact hcont _ (by unfold own; rw [if_neg (by omega)])
          · refine jr_iconst hF dX10_isAtRest_81 (q := 82) rfl (by decide) ?_
            refine jr_goto hF dX10_isAtRest_82 112 (by decide) ?_
            exact hcont _ (by unfold own; rw [if_pos (by omega)])
    · omega
  · have ih1 := ih () trivial
    have e1 : allB (fun m => decide (pr m ≤ 0 ∨ cnd F (f_nl F) c m = f_rm F m)) (k + 1) = (allB (fun m => decide (pr m ≤ 0 ∨ cnd F (f_nl F) c m = f_rm F m)) k && decide (pr k ≤ 0 ∨ cnd F (f_nl F) c k = f_rm F k)) := rfl
    rw [e1] at ih1
    have hu := hW.2 k hk
    have hrm := hC.room hk
    have hpk := hp k
    refine jr_iload_n hF dX10_isAtRest_4 (q := 5) rfl rfl ?_
    refine jr_aload_n hF dX10_isAtRest_5 (q := 6) rfl rfl ?_
    refine jr_getR (ci := 10) (j := 2) hF dX10_isAtRest_6 (q := 9) rfl rfl rfl fl10_13 ?_
    refine jr_iconst hF dX10_isAtRest_9 (q := 10) rfl (by decide) ?_
    refine jr_iald hF dX10_isAtRest_10 (q := 11) rfl rfl (by omega) ?_
    refine jr_icmp_ge hF dX10_isAtRest_11 (q := 14) rfl 54 (by decide) (fun a1 => ?_) (fun a1 => ?_)
    · omega
    · refine jr_iload_n hF dX10_isAtRest_14 (q := 15) rfl rfl ?_
      refine jr_if_eq hF dX10_isAtRest_15 (q := 18) rfl 46 (by decide) (fun a2 => ?_) (fun a2 => ?_)
      · rw [bi_0 a2] at ih1 ⊢
        rw [Bool.false_and] at ih1
        refine jr_iconst hF dX10_isAtRest_46 (q := 47) rfl (by decide) ?_
        refine jr_istore_n hF dX10_isAtRest_47 (q := 48) rfl (by decide) rfl ?_
        refine jr_iinc hF dX10_isAtRest_48 (q := 51) rfl (by decide) rfl rfl (by omega) ?_
        refine jr_goto hF dX10_isAtRest_51 4 (by decide) ?_
        exact ih1
      · rw [bi_1 a2] at ih1 ⊢
        rw [Bool.true_and] at ih1
        refine jr_aload_n hF dX10_isAtRest_18 (q := 19) rfl rfl ?_
        refine jr_getR (ci := 10) (j := 25) hF dX10_isAtRest_19 (q := 22) rfl rfl rfl fl10_61 ?_
        refine jr_iload_n hF dX10_isAtRest_22 (q := 23) rfl rfl ?_
        refine jr_iald hF dX10_isAtRest_23 (q := 24) rfl rfl (by omega) ?_
        rw [hP k hk]
        refine jr_if_eq hF dX10_isAtRest_24 (q := 27) rfl 42 (by decide) (fun a3 => ?_) (fun a3 => ?_)
        · rw [decide_eq_true (by omega)] at ih1
          refine jr_iconst hF dX10_isAtRest_42 (q := 43) rfl (by decide) ?_
          refine jr_goto hF dX10_isAtRest_43 47 (by decide) ?_
          refine jr_istore_n hF dX10_isAtRest_47 (q := 48) rfl (by decide) rfl ?_
          refine jr_iinc hF dX10_isAtRest_48 (q := 51) rfl (by decide) rfl rfl (by omega) ?_
          refine jr_goto hF dX10_isAtRest_51 4 (by decide) ?_
          exact ih1
        · refine jr_aload_n hF dX10_isAtRest_27 (q := 28) rfl rfl ?_
          refine jr_getR (ci := 10) (j := 27) hF dX10_isAtRest_28 (q := 31) rfl rfl rfl fl10_67 ?_
          refine jr_iload_n hF dX10_isAtRest_31 (q := 32) rfl rfl ?_
          refine jr_iald hF dX10_isAtRest_32 (q := 33) rfl rfl (by omega) ?_
          refine jr_aload_n hF dX10_isAtRest_33 (q := 34) rfl rfl ?_
          refine jr_getR (ci := 10) (j := 3) hF dX10_isAtRest_34 (q := 37) rfl rfl rfl fl10_16 ?_
          refine jr_iload_n hF dX10_isAtRest_37 (q := 38) rfl rfl ?_
          refine jr_iald hF dX10_isAtRest_38 (q := 39) rfl rfl (by omega) ?_
          rw [hu, hrm]
          refine jr_icmp_ne hF dX10_isAtRest_39 (q := 42) rfl 46 (by decide) (fun a4 => ?_) (fun a4 => ?_)
          · rw [decide_eq_false (by omega)] at ih1
            refine jr_iconst hF dX10_isAtRest_46 (q := 47) rfl (by decide) ?_
            refine jr_istore_n hF dX10_isAtRest_47 (q := 48) rfl (by decide) rfl ?_
            refine jr_iinc hF dX10_isAtRest_48 (q := 51) rfl (by decide) rfl rfl (by omega) ?_
            refine jr_goto hF dX10_isAtRest_51 4 (by decide) ?_
            exact ih1
          · rw [decide_eq_true (by omega)] at ih1
            refine jr_iconst hF dX10_isAtRest_42 (q := 43) rfl (by decide) ?_
            refine jr_goto hF dX10_isAtRest_43 47 (by decide) ?_
            refine jr_istore_n hF dX10_isAtRest_47 (q := 48) rfl (by decide) rfl ?_
            refine jr_iinc hF dX10_isAtRest_48 (q := 51) rfl (by decide) rfl rfl (by omega) ?_
            refine jr_goto hF dX10_isAtRest_51 4 (by decide) ?_
            exact ih1

