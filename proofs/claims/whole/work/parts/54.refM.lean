theorem wB_at {F : FD} (ok : okF F) (ab : Nat) : (wB F ab (f_bs F ^ f_nl F)).2 < f_bs F ^ f_nl F ∧ (wB F ab (f_bs F ^ f_nl F)).1 = vlp F (f_nl F) (wB F ab (f_bs F ^ f_nl F)).2 := by
  have hp := wB_pos ok ab
  rcases (wB_spec F ab (f_bs F ^ f_nl F)).1 with h1 | ⟨h3, h4, h5⟩
  · omega
  · exact ⟨h3, h5⟩
theorem psm_le (nm q : Nat) : 0 ≤ psm nm q ∧ psm nm q ≤ 10 * nm := sumF_le (fun i _ => prc_le nm q i)
section
variable (σ : Sg) (len : Nat) (B : Nat → Int) (F : FD) (nu : Nat) (W V : Nat → Int) (nk : Nat) (S : Nat → Int → Int) (ns : Nat) (M Y : Nat → Int)
set_option maxRecDepth 100000 in
theorem m_joint (h : RM σ (len, B, F, nu, W, V, nk, S, ns, M, Y)) (ok : okA (len, B, F, nu, W, V, nk, S, ns, M, Y)) (i : Int) : RI mX10_joint 10 [vR 73, vI i] σ (fun z σ' => z = an_joint F i ∧ RM σ' (len, B, F, nu, W, V, nk, S, ns, M, Y) ∧ ∀ k, k < 73 → σ' k = σ k) := by
  have hC := h.2.1
  have okF' := ok.2.2.1
  have h5 := okF'.2.1
  obtain ⟨w1, w2⟩ := wB_at okF' 99
  refine mkRun (by decide +kernel) (Nat.le_of_ble_eq_true rfl) (fun X hF hR => ?_)
  have hgo : (i = -1 ∨ (0 ≤ i ∧ i < f_nl F)) → Gs X 15 (entryL [vR 73, vI i] mX10_joint.2.2.1) [] σ := by
    intro hm
    unfold an_joint at hR
    rw [if_neg (fun hh => hh hm)] at hR
    refine jr_aload_n hF dX10_joint_15 (q := 16) rfl rfl ?_
    refine jr_aload_n hF dX10_joint_16 (q := 17) rfl rfl ?_
    refine jr_bipush hF dX10_joint_17 (q := 19) rfl (by decide) (by decide +kernel) ?_
    refine jr_cV1I hF (m_bestWay σ F hC okF' (-4) 99 (Or.inl ⟨by decide, rfl⟩)) dX10_joint_19 (q := 22) rfl lk10_218 vX10_bestWay kX10_bestWay rfl rfl rfl (by decide) (Nat.le_of_ble_eq_true rfl) (fun z σ1 hz => ?_)
    obtain ⟨rfl, g1⟩ := hz
    have hC1 : RepM σ1 F := hC.fr (fun k l1 l2 => g1 k (by omega) (by omega))
    refine jr_cV1I hF (m_seatAll σ1 F hC1 okF' _ w1) dX10_joint_22 (q := 25) rfl lk10_203 vX10_seatAll kX10_seatAll rfl rfl rfl (by decide) (Nat.le_of_ble_eq_true rfl) (fun z σ2 hz => ?_)
    obtain ⟨-, j1, j2⟩ := hz
    have hfr : SFr σ σ2 := fun k n1 n2 n3 => by rw [j2 k n2 n3]; exact g1 k n2 n3
    have hC2 := hC.sf hfr
    have hlo : ∀ k, k < 73 → σ2 k = σ k := fun k hk => hfr k (by omega) (by omega) (by omega)
    have r1 := hC2.1
    refine jr_pop hF dX10_joint_25 (q := 26) rfl rfl ?_
    refine jr_iload_n hF dX10_joint_26 (q := 27) rfl rfl ?_
    refine jr_if_ge hF dX10_joint_27 (q := 30) rfl 39 (by decide) (fun a2 => ?_) (fun a2 => ?_)
    · obtain ⟨n, rfl⟩ : ∃ n : Nat, i = (n : Int) := ⟨i.toNat, by omega⟩
      have hn : n < f_nl F := by omega
      have ed := j1.1 n hn
      rw [if_neg (by omega), show ((n : Int)).toNat = n by omega] at hR
      have hx : (wB F 99 (f_bs F ^ f_nl F)).2 = xJ F := rfl
      rw [hx] at ed
      refine jr_aload_n hF dX10_joint_39 (q := 40) rfl rfl ?_
      refine jr_getR (ci := 10) (j := 26) hF dX10_joint_40 (q := 43) rfl rfl rfl fl10_64 ?_
      refine jr_iload_n hF dX10_joint_43 (q := 44) rfl rfl ?_
      refine jr_iald hF dX10_joint_44 (q := 45) rfl rfl (by omega) ?_
      refine jr_aload_n hF dX10_joint_45 (q := 46) rfl rfl ?_
      refine jr_getR (ci := 10) (j := 2) hF dX10_joint_46 (q := 49) rfl rfl rfl fl10_13 ?_
      refine jr_iconst hF dX10_joint_49 (q := 50) rfl (by decide) ?_
      refine jr_iald hF dX10_joint_50 (q := 51) rfl rfl (by omega) ?_
      rw [ed, r1]
      refine jr_icmp_ne hF dX10_joint_51 (q := 54) rfl 59 (by decide) (fun a3 => ?_) (fun a3 => ?_)
      · refine jr_aload_n hF dX10_joint_59 (q := 60) rfl rfl ?_
        refine jr_getR (ci := 10) (j := 26) hF dX10_joint_60 (q := 63) rfl rfl rfl fl10_64 ?_
        refine jr_iload_n hF dX10_joint_63 (q := 64) rfl rfl ?_
        refine jr_iald hF dX10_joint_64 (q := 65) rfl rfl (by omega) ?_
        rw [ed]
        refine jr_retI hF hR dX10_joint_65 rfl ⟨by unfold dz; rw [if_neg (by omega)], h.sf hfr, hlo⟩
      · refine jr_bipush hF dX10_joint_54 (q := 56) rfl (by decide) (by decide +kernel) ?_
        refine jr_goto hF dX10_joint_56 65 (by decide) ?_
        refine jr_retI hF hR dX10_joint_65 rfl ⟨by unfold dz; rw [if_pos (by omega)], h.sf hfr, hlo⟩
    · rw [if_pos (by omega)] at hR
      refine jr_aload_n hF dX10_joint_30 (q := 31) rfl rfl ?_
      refine jr_bipush hF dX10_joint_31 (q := 33) rfl (by decide) (by decide +kernel) ?_
      refine jr_cV1I hF (m_sumOf σ2 F hC2 okF' _ j1 (-4)) dX10_joint_33 (q := 36) rfl lk10_215 vX10_sumOf kX10_sumOf rfl rfl rfl (by decide) (Nat.le_of_ble_eq_true rfl) (fun z σ3 hz => ?_)
      obtain ⟨hz1, rfl⟩ := hz
      rw [vlp_sum (by decide)] at hz1
      subst hz1
      refine jr_goto hF dX10_joint_36 65 (by decide) ?_
      refine jr_retI hF hR dX10_joint_65 rfl ⟨w2.symm, h.sf hfr, hlo⟩
  refine jr_iload_n hF dX10_joint_0 (q := 1) rfl rfl ?_
  refine jr_iconst hF dX10_joint_1 (q := 2) rfl (by decide) ?_
  refine jr_icmp_eq hF dX10_joint_2 (q := 5) rfl 15 (by decide) (fun a1 => ?_) (fun a1 => ?_)
  · exact hgo (Or.inl a1)
  · refine jr_aload_n hF dX10_joint_5 (q := 6) rfl rfl ?_
    refine jr_iload_n hF dX10_joint_6 (q := 7) rfl rfl ?_
    refine jr_cV1I hF (m_isLad σ F hC okF' i) dX10_joint_7 (q := 10) rfl lk10_177 vX10_isLad kX10_isLad rfl rfl rfl (by decide) (Nat.le_of_ble_eq_true rfl) (fun z σ1 hz => ?_)
    obtain ⟨rfl, rfl⟩ := hz
    refine jr_if_ne hF dX10_joint_10 (q := 13) rfl 15 (by decide) (fun a2 => ?_) (fun a2 => ?_)
    · have b2 : 0 ≤ i ∧ i < f_nl F := Classical.byContradiction fun h => a2 (by rw [if_neg h])
      exact hgo (Or.inr b2)
    · have b2 : ¬ (0 ≤ i ∧ i < f_nl F) := fun h => by rw [if_pos h] at a2; omega
      refine jr_iconst hF dX10_joint_13 (q := 14) rfl (by decide) ?_
      refine jr_retI hF hR dX10_joint_14 rfl ⟨by unfold an_joint; rw [if_pos (by omega)], h, fun _ _ => rfl⟩
set_option maxRecDepth 100000 in
theorem m_pay (h : RM σ (len, B, F, nu, W, V, nk, S, ns, M, Y)) (ok : okA (len, B, F, nu, W, V, nk, S, ns, M, Y)) (i : Int) : RI mX10_pay 10 [vR 73, vI i] σ (fun z σ' => z = an_pay F i ∧ RM σ' (len, B, F, nu, W, V, nk, S, ns, M, Y) ∧ ∀ k, k < 73 → σ' k = σ k) := by
  have hC := h.2.1
  have okF' := ok.2.2.1
  have h5 := okF'.2.1
  obtain ⟨w1, w2⟩ := wB_at okF' 99
  refine mkRun (by decide +kernel) (Nat.le_of_ble_eq_true rfl) (fun X hF hR => ?_)
  refine jr_aload_n hF dX10_pay_0 (q := 1) rfl rfl ?_
  refine jr_iload_n hF dX10_pay_1 (q := 2) rfl rfl ?_
  refine jr_cV1I hF (m_isLad σ F hC okF' i) dX10_pay_2 (q := 5) rfl lk10_177 vX10_isLad kX10_isLad rfl rfl rfl (by decide) (Nat.le_of_ble_eq_true rfl) (fun z σ1 hz => ?_)
  obtain ⟨rfl, rfl⟩ := hz
  refine jr_if_ne hF dX10_pay_5 (q := 8) rfl 10 (by decide) (fun a2 => ?_) (fun a2 => ?_)
  · have b2 : 0 ≤ i ∧ i < f_nl F := Classical.byContradiction fun h => a2 (by rw [if_neg h])
    obtain ⟨n, rfl⟩ : ∃ n : Nat, i = (n : Int) := ⟨i.toNat, by omega⟩
    have hn : n < f_nl F := by omega
    obtain ⟨v1, v2⟩ := wB_at okF' n
    have hb1 := vlp_le okF' (f_nl F) (wB F n (f_bs F ^ f_nl F)).2 (Nat.le_refl _)
    have hb2 := vlp_le okF' (f_nl F) (wB F 99 (f_bs F ^ f_nl F)).2 (Nat.le_refl _)
    have htm := tm_le okF' hn (dgp_lt F (f_nl F) (xJ F) n)
    unfold an_pay at hR
    rw [if_neg (by omega), show ((n : Int)).toNat = n by omega] at hR
    refine jr_aload_n hF dX10_pay_10 (q := 11) rfl rfl ?_
    refine jr_aload_n hF dX10_pay_11 (q := 12) rfl rfl ?_
    refine jr_iload_n hF dX10_pay_12 (q := 13) rfl rfl ?_
    refine jr_cV1I hF (m_bestWay σ F hC okF' n n (Or.inr ⟨rfl, hn⟩)) dX10_pay_13 (q := 16) rfl lk10_218 vX10_bestWay kX10_bestWay rfl rfl rfl (by decide) (Nat.le_of_ble_eq_true rfl) (fun z σ1 hz => ?_)
    obtain ⟨rfl, g1⟩ := hz
    have hf1 : SFr σ σ1 := fun k n1 n2 n3 => g1 k n2 n3
    refine jr_cV1I hF (m_seatAll σ1 F (hC.sf hf1) okF' _ v1) dX10_pay_16 (q := 19) rfl lk10_203 vX10_seatAll kX10_seatAll rfl rfl rfl (by decide) (Nat.le_of_ble_eq_true rfl) (fun z σ2 hz => ?_)
    obtain ⟨-, j1, j2⟩ := hz
    have hf2 : SFr σ σ2 := hf1.tr (fun k n1 n2 n3 => j2 k n2 n3)
    refine jr_pop hF dX10_pay_19 (q := 20) rfl rfl ?_
    refine jr_aload_n hF dX10_pay_20 (q := 21) rfl rfl ?_
    refine jr_bipush hF dX10_pay_21 (q := 23) rfl (by decide) (by decide +kernel) ?_
    refine jr_cV1I hF (m_sumOf σ2 F (hC.sf hf2) okF' _ j1 (-4)) dX10_pay_23 (q := 26) rfl lk10_215 vX10_sumOf kX10_sumOf rfl rfl rfl (by decide) (Nat.le_of_ble_eq_true rfl) (fun z σ3 hz => ?_)
    obtain ⟨hz1, rfl⟩ := hz
    rw [vlp_sum (by decide)] at hz1
    subst hz1
    refine jr_istore_n hF dX10_pay_26 (q := 27) rfl (by decide) rfl ?_
    refine jr_aload_n hF dX10_pay_27 (q := 28) rfl rfl ?_
    refine jr_aload_n hF dX10_pay_28 (q := 29) rfl rfl ?_
    refine jr_bipush hF dX10_pay_29 (q := 31) rfl (by decide) (by decide +kernel) ?_
    refine jr_cV1I hF (m_bestWay σ2 F (hC.sf hf2) okF' (-4) 99 (Or.inl ⟨by decide, rfl⟩)) dX10_pay_31 (q := 34) rfl lk10_218 vX10_bestWay kX10_bestWay rfl rfl rfl (by decide) (Nat.le_of_ble_eq_true rfl) (fun z σ3 hz => ?_)
    obtain ⟨rfl, g3⟩ := hz
    have hf3 : SFr σ σ3 := hf2.tr (fun k n1 n2 n3 => g3 k n2 n3)
    refine jr_cV1I hF (m_seatAll σ3 F (hC.sf hf3) okF' _ w1) dX10_pay_34 (q := 37) rfl lk10_203 vX10_seatAll kX10_seatAll rfl rfl rfl (by decide) (Nat.le_of_ble_eq_true rfl) (fun z σ4 hz => ?_)
    obtain ⟨-, j3, j4⟩ := hz
    have hf4 : SFr σ σ4 := hf3.tr (fun k n1 n2 n3 => j4 k n2 n3)
    refine jr_pop hF dX10_pay_37 (q := 38) rfl rfl ?_
    refine jr_iload_n hF dX10_pay_38 (q := 39) rfl rfl ?_
    refine jr_aload_n hF dX10_pay_39 (q := 40) rfl rfl ?_
    refine jr_iload_n hF dX10_pay_40 (q := 41) rfl rfl ?_
    refine jr_cV1I hF (m_sumOf σ4 F (hC.sf hf4) okF' _ j3 (n : Int)) dX10_pay_41 (q := 44) rfl lk10_215 vX10_sumOf kX10_sumOf rfl rfl rfl (by decide) (Nat.le_of_ble_eq_true rfl) (fun z σ5 hz => ?_)
    obtain ⟨hz1, rfl⟩ := hz
    have e1 := sum_wo (fun j => tm F j (dgp (f_bs F) (f_nl F) (wB F 99 (f_bs F ^ f_nl F)).2 j)) n (f_nl F)
    rw [if_pos hn] at e1
    have e2 : z = vlp F (f_nl F) (wB F 99 (f_bs F ^ f_nl F)).2 - tm F n (dgp (f_bs F) (f_nl F) (xJ F) n) := hz1.trans e1
    refine jr_isub hF dX10_pay_44 (q := 45) rfl (by omega) ?_
    refine jr_retI hF hR dX10_pay_45 rfl ⟨?_, h.sf hf4, fun k hk => hf4 k (by omega) (by omega) (by omega)⟩
    rw [e2, v2, w2]
  · have b2 : ¬ (0 ≤ i ∧ i < f_nl F) := fun h => by rw [if_pos h] at a2; omega
    refine jr_iconst hF dX10_pay_8 (q := 9) rfl (by decide) ?_
    refine jr_retI hF hR dX10_pay_9 rfl ⟨by unfold an_pay; rw [if_pos b2], h, fun _ _ => rfl⟩
set_option maxRecDepth 100000 in
theorem m_rest (h : RM σ (len, B, F, nu, W, V, nk, S, ns, M, Y)) (ok : okA (len, B, F, nu, W, V, nk, S, ns, M, Y)) (m : Int) (g : Bool) (gz : Int) (hg : gz = if g = true then 1 else 0) : RI mX10_rest 10 [vR 73, vI m, vI gz] σ (fun z σ' => z = an_rest F m g ∧ RM σ' (len, B, F, nu, W, V, nk, S, ns, M, Y) ∧ ∀ k, k < 73 → σ' k = σ k) := by
  have hC := h.2.1
  have okF' := ok.2.2.1
  have h5 := okF'.2.1
  have h3 := okF'.1
  have hn1 : 1 ≤ f_nm F := ok.2.2.2.1
  have r1 := hC.1
  have hpw : 11 ^ f_nm F < 2000 := Nat.lt_of_le_of_lt (Nat.pow_le_pow_right (show 0 < 11 by decide) h3) (by decide)
  refine mkRun (by decide +kernel) (Nat.le_of_ble_eq_true rfl) (fun X hF hR => ?_)
  have hgo : (m = -1 ∨ (0 ≤ m ∧ m < f_nm F)) → Gs X 15 (entryL [vR 73, vI m, vI gz] mX10_rest.2.2.1) [] σ := by
    intro hm
    unfold an_rest at hR
    rw [if_neg (fun hh => hh hm)] at hR
    have hloop : Gs X 48 [some (vR 73), some (vI m), some (vI gz), none, none, none, none, none, none] [vI ((11 ^ f_nm F : Nat) : Int)] σ := by
      refine jr_istore_n hF dX10_rest_48 (q := 49) rfl (by decide) rfl ?_
      refine jr_bipush hF dX10_rest_49 (q := 51) rfl (by decide) (by decide +kernel) ?_
      refine jr_istore hF dX10_rest_51 (q := 53) rfl (by decide) rfl ?_
      refine jr_iconst hF dX10_rest_53 (q := 54) rfl (by decide) ?_
      refine jr_istore hF dX10_rest_54 (q := 56) rfl (by decide) rfl ?_
      refine jr_iconst hF dX10_rest_56 (q := 57) rfl (by decide) ?_
      refine jr_istore hF dX10_rest_57 (q := 59) rfl (by decide) rfl ?_
      generalize hA : (fun q => arB F (xJ F) (prc (f_nm F) q)) = A at hR
      refine gs_loop (α := Sg × Int × Int) (fun k a => [some (vR 73), some (vI m), some (vI gz), some (vI ((11 ^ f_nm F : Nat) : Int)), some (vI a.2.1), some (vI a.2.2), some (vI (k : Int)), none, none]) (fun a => a.1) (fun k a => (((prT (f_nm F) A g k).1 = -1 ∧ a.2.1 = -4) ∨ (0 ≤ (prT (f_nm F) A g k).1 ∧ a.2.1 = ((prT (f_nm F) A g k).2 : Int) ∧ a.2.2 = (prT (f_nm F) A g k).1 ∧ (prT (f_nm F) A g k).2 < k)) ∧ SFr σ a.1) (11 ^ f_nm F) (fun a h1 => ?_) (fun k a hk h1 ih => ?_) (σ, -4, 0) ⟨Or.inl ⟨rfl, rfl⟩, SFr.rf σ⟩
      · obtain ⟨σ1, b, t⟩ := a
        obtain ⟨i1, i2⟩ := h1
        dsimp only at i1 i2 ⊢
        refine jr_iload hF dX10_rest_59 (q := 61) rfl rfl ?_
        refine jr_iload_n hF dX10_rest_61 (q := 62) rfl rfl ?_
        refine jr_icmp_ge hF dX10_rest_62 (q := 65) rfl 132 (by decide) (fun a1 => ?_) (fun a1 => ?_)
        · refine jr_iload hF dX10_rest_132 (q := 134) rfl rfl ?_
          rcases i1 with ⟨c1, c2⟩ | ⟨c1, c2, c3, c4⟩
          · rw [if_pos c1] at hR
            refine jr_if_ge hF dX10_rest_134 (q := 137) rfl 140 (by decide) (fun a2 => ?_) (fun a2 => ?_)
            · omega
            · refine jr_bipush hF dX10_rest_137 (q := 139) rfl (by decide) (by decide +kernel) ?_
              refine jr_retI hF hR dX10_rest_139 rfl ⟨rfl, h.sf i2, fun k hk => i2 k (by omega) (by omega) (by omega)⟩
          · rw [if_neg (show ¬ (prT (f_nm F) A g (11 ^ f_nm F)).1 = -1 by omega)] at hR
            refine jr_if_ge hF dX10_rest_134 (q := 137) rfl 140 (by decide) (fun a2 => ?_) (fun a2 => ?_)
            · refine jr_aload_n hF dX10_rest_140 (q := 141) rfl rfl ?_
              refine jr_iload hF dX10_rest_141 (q := 143) rfl rfl ?_
              rw [c2]
              refine jr_cV1I hF (m_prices σ1 F (hC.sf i2) okF' (prT (f_nm F) A g (11 ^ f_nm F)).2 (by omega)) dX10_rest_143 (q := 146) rfl lk10_209 vX10_takePrices kX10_takePrices rfl rfl rfl (by decide) (Nat.le_of_ble_eq_true rfl) (fun z σ2 hz => ?_)
              obtain ⟨-, j1, j2⟩ := hz
              have hf2 : SFr σ σ2 := i2.tr (fun k n1 n2 n3 => j2 k n1)
              refine jr_pop hF dX10_rest_146 (q := 147) rfl rfl ?_
              refine jr_iload_n hF dX10_rest_147 (q := 148) rfl rfl ?_
              refine jr_if_ge hF dX10_rest_148 (q := 151) rfl 156 (by decide) (fun a3 => ?_) (fun a3 => ?_)
              · obtain ⟨n, rfl⟩ : ∃ n : Nat, m = (n : Int) := ⟨m.toNat, by omega⟩
                rw [if_neg (show ¬ (n : Int) = -1 by omega), show ((n : Int)).toNat = n by omega] at hR
                have e := j1 n (by omega)
                refine jr_aload_n hF dX10_rest_156 (q := 157) rfl rfl ?_
                refine jr_getR (ci := 10) (j := 25) hF dX10_rest_157 (q := 160) rfl rfl rfl fl10_61 ?_
                refine jr_iload_n hF dX10_rest_160 (q := 161) rfl rfl ?_
                refine jr_iald hF dX10_rest_161 (q := 162) rfl rfl (by omega) ?_
                refine jr_retI hF hR dX10_rest_162 rfl ⟨e, h.sf hf2, fun k hk => hf2 k (by omega) (by omega) (by omega)⟩
              · rw [if_pos (by omega)] at hR
                refine jr_iload hF dX10_rest_151 (q := 153) rfl rfl ?_
                refine jr_goto hF dX10_rest_153 162 (by decide) ?_
                refine jr_retI hF hR dX10_rest_162 rfl ⟨c3, h.sf hf2, fun k hk => hf2 k (by omega) (by omega) (by omega)⟩
            · omega
        · omega
      · obtain ⟨σ1, b, t⟩ := a
        obtain ⟨i1, i2⟩ := h1
        dsimp only at i1 i2 ⊢
        have eT : prT (f_nm F) A g (k + 1) = if btr g (prT (f_nm F) A g k).1 (psm (f_nm F) k) = true ∧ A k = true then (psm (f_nm F) k, k) else prT (f_nm F) A g k := rfl
        have hps := psm_le (f_nm F) k
        have eAk : A k = arB F (xJ F) (prc (f_nm F) k) := by rw [← hA]
        refine jr_iload hF dX10_rest_59 (q := 61) rfl rfl ?_
        refine jr_iload_n hF dX10_rest_61 (q := 62) rfl rfl ?_
        refine jr_icmp_ge hF dX10_rest_62 (q := 65) rfl 132 (by decide) (fun a1 => ?_) (fun a1 => ?_)
        · omega
        · refine jr_aload_n hF dX10_rest_65 (q := 66) rfl rfl ?_
          refine jr_iload hF dX10_rest_66 (q := 68) rfl rfl ?_
          refine jr_cV1I hF (m_prices σ1 F (hC.sf i2) okF' k (by omega)) dX10_rest_68 (q := 71) rfl lk10_209 vX10_takePrices kX10_takePrices rfl rfl rfl (by decide) (Nat.le_of_ble_eq_true rfl) (fun z σ2 hz => ?_)
          obtain ⟨rfl, j1, j2⟩ := hz
          have hf2 : SFr σ σ2 := i2.tr (fun k n1 n2 n3 => j2 k n1)
          have hno : ∀ (σ3 : Sg) (bz : Int), SFr σ σ3 → ¬ (btr g (prT (f_nm F) A g k).1 (psm (f_nm F) k) = true ∧ A k = true) → Gs X 126 [some (vR 73), some (vI m), some (vI gz), some (vI ((11 ^ f_nm F : Nat) : Int)), some (vI b), some (vI t), some (vI (k : Int)), some (vI (psm (f_nm F) k)), some (vI bz)] [] σ3 := by
            intro σ3 bz h3 hn
            rw [if_neg hn] at eT
            have ih1 := ih (σ3, b, t) ⟨by
              rw [eT]
              rcases i1 with c | ⟨c1, c2, c3, c4⟩
              · exact Or.inl c
              · exact Or.inr ⟨c1, c2, c3, by omega⟩, h3⟩
            dsimp only at ih1
            refine jr_fg 7 (jr_fg 8 ?_)
            refine jr_iinc hF dX10_rest_126 (q := 129) rfl (by decide) rfl rfl (by omega) ?_
            refine jr_goto hF dX10_rest_129 59 (by decide) ?_
            exact ih1
          have hlow : btr g (prT (f_nm F) A g k).1 (psm (f_nm F) k) = false → Gs X 103 [some (vR 73), some (vI m), some (vI gz), some (vI ((11 ^ f_nm F : Nat) : Int)), some (vI b), some (vI t), some (vI (k : Int)), some (vI (psm (f_nm F) k)), none] [] σ2 := by
            intro hb
            refine jr_iconst hF dX10_rest_103 (q := 104) rfl (by decide) ?_
            refine jr_istore hF dX10_rest_104 (q := 106) rfl (by decide) rfl ?_
            refine jr_iload hF dX10_rest_106 (q := 108) rfl rfl ?_
            refine jr_if_eq hF dX10_rest_108 (q := 111) rfl 126 (by decide) (fun a3 => ?_) (fun a3 => ?_)
            · exact hno σ2 0 hf2 (fun hh => by rw [hb] at hh; exact absurd hh.1 (by decide))
            · exact absurd rfl a3
          have hhi : btr g (prT (f_nm F) A g k).1 (psm (f_nm F) k) = true → Gs X 99 [some (vR 73), some (vI m), some (vI gz), some (vI ((11 ^ f_nm F : Nat) : Int)), some (vI b), some (vI t), some (vI (k : Int)), some (vI (psm (f_nm F) k)), none] [] σ2 := by
            intro hb
            refine jr_iconst hF dX10_rest_99 (q := 100) rfl (by decide) ?_
            refine jr_goto hF dX10_rest_100 104 (by decide) ?_
            refine jr_istore hF dX10_rest_104 (q := 106) rfl (by decide) rfl ?_
            refine jr_iload hF dX10_rest_106 (q := 108) rfl rfl ?_
            refine jr_if_eq hF dX10_rest_108 (q := 111) rfl 126 (by decide) (fun a3 => ?_) (fun a3 => ?_)
            · exact absurd a3 (by decide)
            · refine jr_aload_n hF dX10_rest_111 (q := 112) rfl rfl ?_
              refine jr_cV0I hF (m_canRest σ2 F (hC.sf hf2) okF' (prc (f_nm F) k) j1 (fun q => prc_le (f_nm F) k q)) dX10_rest_112 (q := 115) rfl lk10_212 vX10_canRest kX10_canRest rfl rfl rfl (by decide) (Nat.le_of_ble_eq_true rfl) (fun z σ3 hz => ?_)
              obtain ⟨rfl, j3⟩ := hz
              have hf3 : SFr σ σ3 := hf2.tr (fun k n1 n2 n3 => j3 k n2 n3)
              refine jr_if_eq hF dX10_rest_115 (q := 118) rfl 126 (by decide) (fun a4 => ?_) (fun a4 => ?_)
              · exact hno σ3 1 hf3 (fun hh => by rw [eAk, bi_0 a4] at hh; exact absurd hh.2 (by decide))
              · have hAk : A k = true := by rw [eAk]; exact bi_1 a4
                rw [if_pos ⟨hb, hAk⟩] at eT
                have ih1 := ih (σ3, (k : Int), psm (f_nm F) k) ⟨Or.inr ⟨by rw [eT]; exact hps.1, by rw [eT], by rw [eT], by rw [eT]; exact Nat.lt_succ_self k⟩, hf3⟩
                dsimp only at ih1
                refine jr_iload hF dX10_rest_118 (q := 120) rfl rfl ?_
                refine jr_istore hF dX10_rest_120 (q := 122) rfl (by decide) rfl ?_
                refine jr_iload hF dX10_rest_122 (q := 124) rfl rfl ?_
                refine jr_istore hF dX10_rest_124 (q := 126) rfl (by decide) rfl ?_
                refine jr_fg 7 (jr_fg 8 ?_)
                refine jr_iinc hF dX10_rest_126 (q := 129) rfl (by decide) rfl rfl (by omega) ?_
                refine jr_goto hF dX10_rest_129 59 (by decide) ?_
                exact ih1
          refine jr_istore hF dX10_rest_71 (q := 73) rfl (by decide) rfl ?_
          refine jr_iload hF dX10_rest_73 (q := 75) rfl rfl ?_
          rcases i1 with ⟨c1, c2⟩ | ⟨c1, c2, c3, c4⟩
          · have hb : btr g (prT (f_nm F) A g k).1 (psm (f_nm F) k) = true := by
              unfold btr
              rw [decide_eq_true c1, Bool.true_or]
            refine jr_if_lt hF dX10_rest_75 (q := 78) rfl 99 (by decide) (fun a2 => ?_) (fun a2 => ?_)
            · exact hhi hb
            · omega
          · have hb : btr g (prT (f_nm F) A g k).1 (psm (f_nm F) k) = (if g = true then decide ((prT (f_nm F) A g k).1 < psm (f_nm F) k) else decide (psm (f_nm F) k < (prT (f_nm F) A g k).1)) := by
              unfold btr
              rw [decide_eq_false (show ¬ (prT (f_nm F) A g k).1 = -1 by omega), Bool.false_or]
            refine jr_if_lt hF dX10_rest_75 (q := 78) rfl 99 (by decide) (fun a2 => ?_) (fun a2 => ?_)
            · omega
            · refine jr_iload_n hF dX10_rest_78 (q := 79) rfl rfl ?_
              refine jr_if_eq hF dX10_rest_79 (q := 82) rfl 92 (by decide) (fun a3 => ?_) (fun a3 => ?_)
              · have hgf : ¬ g = true := fun hh => by rw [if_pos hh] at hg; omega
                rw [if_neg hgf] at hb
                refine jr_iload hF dX10_rest_92 (q := 94) rfl rfl ?_
                refine jr_iload hF dX10_rest_94 (q := 96) rfl rfl ?_
                refine jr_icmp_ge hF dX10_rest_96 (q := 99) rfl 103 (by decide) (fun a4 => ?_) (fun a4 => ?_)
                · exact hlow (by rw [hb]; exact decide_eq_false (by omega))
                · exact hhi (by rw [hb]; exact decide_eq_true (by omega))
              · have hgf : g = true := Classical.byContradiction fun hh => by rw [if_neg hh] at hg; omega
                rw [if_pos hgf] at hb
                refine jr_iload hF dX10_rest_82 (q := 84) rfl rfl ?_
                refine jr_iload hF dX10_rest_84 (q := 86) rfl rfl ?_
                refine jr_icmp_le hF dX10_rest_86 (q := 89) rfl 103 (by decide) (fun a4 => ?_) (fun a4 => ?_)
                · exact hlow (by rw [hb]; exact decide_eq_false (by omega))
                · refine jr_goto hF dX10_rest_89 99 (by decide) ?_
                  exact hhi (by rw [hb]; exact decide_eq_true (by omega))
    refine jr_aload_n hF dX10_rest_15 (q := 16) rfl rfl ?_
    refine jr_getR (ci := 10) (j := 2) hF dX10_rest_16 (q := 19) rfl rfl rfl fl10_13 ?_
    refine jr_iconst hF dX10_rest_19 (q := 20) rfl (by decide) ?_
    refine jr_iald hF dX10_rest_20 (q := 21) rfl rfl (by omega) ?_
    rw [r1]
    refine jr_iconst hF dX10_rest_21 (q := 22) rfl (by decide) ?_
    refine jr_icmp_ne hF dX10_rest_22 (q := 25) rfl 30 (by decide) (fun a1 => ?_) (fun a1 => ?_)
    · refine jr_aload_n hF dX10_rest_30 (q := 31) rfl rfl ?_
      refine jr_getR (ci := 10) (j := 2) hF dX10_rest_31 (q := 34) rfl rfl rfl fl10_13 ?_
      refine jr_iconst hF dX10_rest_34 (q := 35) rfl (by decide) ?_
      refine jr_iald hF dX10_rest_35 (q := 36) rfl rfl (by omega) ?_
      rw [r1]
      refine jr_iconst hF dX10_rest_36 (q := 37) rfl (by decide) ?_
      refine jr_icmp_ne hF dX10_rest_37 (q := 40) rfl 45 (by decide) (fun a2 => ?_) (fun a2 => ?_)
      · have e : f_nm F = 3 := by omega
        rw [e] at hloop
        refine jr_sipush hF dX10_rest_45 (q := 48) rfl (by decide) (by decide +kernel) ?_
        exact hloop
      · have e : f_nm F = 2 := by omega
        rw [e] at hloop
        refine jr_bipush hF dX10_rest_40 (q := 42) rfl (by decide) (by decide +kernel) ?_
        refine jr_goto hF dX10_rest_42 48 (by decide) ?_
        exact hloop
    · have e : f_nm F = 1 := by omega
      rw [e] at hloop
      refine jr_bipush hF dX10_rest_25 (q := 27) rfl (by decide) (by decide +kernel) ?_
      refine jr_goto hF dX10_rest_27 48 (by decide) ?_
      exact hloop
  refine jr_iload_n hF dX10_rest_0 (q := 1) rfl rfl ?_
  refine jr_iconst hF dX10_rest_1 (q := 2) rfl (by decide) ?_
  refine jr_icmp_eq hF dX10_rest_2 (q := 5) rfl 15 (by decide) (fun a1 => ?_) (fun a1 => ?_)
  · exact hgo (Or.inl a1)
  · refine jr_aload_n hF dX10_rest_5 (q := 6) rfl rfl ?_
    refine jr_iload_n hF dX10_rest_6 (q := 7) rfl rfl ?_
    refine jr_cV1I hF (m_isMaster σ F hC okF' m) dX10_rest_7 (q := 10) rfl lk10_188 vX10_isMaster kX10_isMaster rfl rfl rfl (by decide) (Nat.le_of_ble_eq_true rfl) (fun z σ1 hz => ?_)
    obtain ⟨rfl, rfl⟩ := hz
    refine jr_if_ne hF dX10_rest_10 (q := 13) rfl 15 (by decide) (fun a2 => ?_) (fun a2 => ?_)
    · have b2 : 0 ≤ m ∧ m < f_nm F := Classical.byContradiction fun h => a2 (by rw [if_neg h])
      exact hgo (Or.inr b2)
    · have b2 : ¬ (0 ≤ m ∧ m < f_nm F) := fun h => by rw [if_pos h] at a2; omega
      refine jr_iconst hF dX10_rest_13 (q := 14) rfl (by decide) ?_
      refine jr_retI hF hR dX10_rest_14 rfl ⟨by unfold an_rest; rw [if_pos (by omega)], h, fun _ _ => rfl⟩
end

