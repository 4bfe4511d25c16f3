theorem bel_got {F : FD} {ab n : Nat} {w : GY} (i : Nat) : (f_bel F ab n w).1 i = w.1 i ∨ (w.1 i = -4 ∧ (f_bel F ab n w).1 i = (n : Int)) := by
  have h1 : (f_bel1 F ab n w).1 i = w.1 i ∨ (w.1 i = -4 ∧ (f_bel1 F ab n w).1 i = (n : Int)) := by
    rcases grant_cases (f_in F ab w.1 n (f_end F ab w.1 n)) n (f_end F ab w.1 n) (f_nl F) (w.1, w.2, f_rm F n) i with h | h
    · exact Or.inl h.1
    · exact Or.inr ⟨(f_in_bd h.2.1).1, h.2.2.1⟩
  unfold f_bel
  split
  · rcases grant_cases (fun i => f_in F ab w.1 n (f_end F ab w.1 n - f_sp F) i && !f_in F ab w.1 n (f_end F ab w.1 n) i) n (f_end F ab w.1 n - f_sp F) (f_nl F) (f_bel1 F ab n w) i with h | h
    · rw [h.1]
      exact h1
    · have h2 := h.2.1
      rw [Bool.and_eq_true] at h2
      exact Or.inr ⟨(f_in_bd h2.1).1, h.2.2.1⟩
  · exact h1
theorem fair_stage {F : FD} (ok : okF F) (hc : f_ca F = 0) {ab m i : Nat} : ∀ n, m ≤ n → (((f_fair F ab n).1 i ≠ -4 ∧ (f_fair F ab n).1 i < (m : Int)) ↔ (f_fair F ab m).1 i ≠ -4) := by
  intro n
  induction n with
  | zero =>
    intro hn
    have e : m = 0 := by omega
    subst e
    exact ⟨fun h => absurd rfl h.1, fun h => absurd rfl h⟩
  | succ n ih =>
    intro hn
    by_cases e : m = n + 1
    · subst e
      constructor
      · exact fun h => h.1
      · intro h
        refine ⟨h, ?_⟩
        rcases wOK_fair ok ab (n + 1) i with ⟨h1, -⟩ | ⟨m', h1, -, h3, -⟩
        · exact absurd h1 h
        · rw [h3]
          omega
    · have h1 := ih (by omega)
      have e2 : (f_fair F ab (n + 1)).1 i = (f_bel F ab n (f_fair F ab n)).1 i := by
        rw [f_fair, f_one, if_pos hc]
      rw [e2]
      rcases bel_got (F := F) (ab := ab) (n := n) (w := f_fair F ab n) i with h2 | ⟨h2, h3⟩
      · rw [h2]
        exact h1
      · rw [h3]
        constructor
        · intro h
          omega
        · intro h
          have := h1.mpr h
          exact absurd h2 this.1
section
variable (σ : Sg) (len : Nat) (B : Nat → Int) (F : FD) (nu : Nat) (W V : Nat → Int) (nk : Nat) (S : Nat → Int → Int) (ns : Nat) (M Y : Nat → Int)
set_option maxRecDepth 100000 in
theorem o_rest (h : RC σ (len, B, F, nu, W, V, nk, S, ns, M, Y)) (ok : okA (len, B, F, nu, W, V, nk, S, ns, M, Y)) (m : Int) (g : Bool) (gz : Int) (hg : gz = if g = true then 1 else 0) : RI mX9_rest 10 [vR 0, vI m, vI gz] σ (fun z σ' => z = an_rest F m g ∧ RC σ' (len, B, F, nu, W, V, nk, S, ns, M, Y) ∧ ∀ k, 73 ≤ k → σ' k = σ k) := by
  have hC := h.2.1
  have okF' := ok.2.2.1
  have h5 := okF'.2.1
  have h3 := okF'.1
  have r1 := hC.1
  have hpos := wB_pos okF' 99
  refine mkRun (by decide +kernel) (Nat.le_of_ble_eq_true rfl) (fun X hF hR => ?_)
  have hgo : (m = -1 ∨ (0 ≤ m ∧ m < f_nm F)) → Gs X 18 (entryL [vR 0, vI m, vI gz] mX9_rest.2.2.1) [] σ := by
    intro hm
    unfold an_rest at hR
    rw [if_neg (fun hh => hh hm)] at hR
    refine jr_aload_n hF dX9_rest_18 (q := 19) rfl rfl ?_
    refine jr_getR (ci := 9) (j := 5) hF dX9_rest_19 (q := 22) rfl rfl rfl fl9_43 ?_
    refine jr_aload_n hF dX9_rest_22 (q := 23) rfl rfl ?_
    refine jr_getR (ci := 9) (j := 1) hF dX9_rest_23 (q := 26) rfl rfl rfl fl9_19 ?_
    refine jr_iconst hF dX9_rest_26 (q := 27) rfl (by decide) ?_
    refine jr_cV2V hF (c_psearch σ F hC okF' (-1) 99 ab99) dX9_rest_27 (q := 30) rfl lk9_198 vX3_search kX3_search rfl rfl rfl (by decide) (Nat.le_of_ble_eq_true rfl) (fun σ1 hz => ?_)
    obtain ⟨⟨p1, p2⟩, p3⟩ := hz
    refine jr_aload_n hF dX9_rest_30 (q := 31) rfl rfl ?_
    refine jr_getR (ci := 9) (j := 6) hF dX9_rest_31 (q := 34) rfl rfl rfl fl9_50 ?_
    refine jr_aload_n hF dX9_rest_34 (q := 35) rfl rfl ?_
    refine jr_getR (ci := 9) (j := 1) hF dX9_rest_35 (q := 38) rfl rfl rfl fl9_19 ?_
    refine jr_aload_n hF dX9_rest_38 (q := 39) rfl rfl ?_
    refine jr_getR (ci := 9) (j := 5) hF dX9_rest_39 (q := 42) rfl rfl rfl fl9_43 ?_
    refine jr_getR (ci := 3) (j := 1) hF dX9_rest_42 (q := 45) rfl rfl rfl fl9_201 ?_
    refine jr_iload_n hF dX9_rest_45 (q := 46) rfl rfl ?_
    have hC1 : RepC σ1 4 F := hC.fr h5 (fun k l1 l2 => p3 k (by omega))
    refine jr_cV3V hF (c_rsearch σ1 F hC1 okF' ok.2.2.2.1 (xJ F) (p2 (by omega)) g gz hg) dX9_rest_46 (q := 49) rfl lk9_204 vX5_search kX5_search rfl rfl rfl (by decide) (Nat.le_of_ble_eq_true rfl) (fun σ2 hz => ?_)
    obtain ⟨t1, t2⟩ := hz
    have hfr : ∀ k, k < 54 ∨ 62 < k → σ2 k = σ k := fun k hk => by rw [t2 k (by omega), p3 k (by omega)]
    have hRC2 : RC σ2 (len, B, F, nu, W, V, nk, S, ns, M, Y) := h.fr h5 ok.2.2.2.2.2.2.2.1 (fun k hk => hfr k (by omega))
    refine jr_aload_n hF dX9_rest_49 (q := 50) rfl rfl ?_
    refine jr_getR (ci := 9) (j := 6) hF dX9_rest_50 (q := 53) rfl rfl rfl fl9_50 ?_
    refine jr_getI (ci := 5) (j := 0) hF 0 rfl dX9_rest_53 (q := 56) rfl rfl rfl fl9_207 ?_
    rcases t1 with ⟨c1, c2⟩ | ⟨c1, c2, c3, c4⟩
    · rw [if_pos c1] at hR
      refine jr_if_ne hF dX9_rest_56 (q := 59) rfl 62 (by decide) (fun a1 => ?_) (fun a1 => ?_)
      · exact absurd c2 a1
      · refine jr_bipush hF dX9_rest_59 (q := 61) rfl (by decide) (by decide +kernel) ?_
        refine jr_retI hF hR dX9_rest_61 rfl ⟨rfl, hRC2, fun k hk => hfr k (by omega)⟩
    · rw [if_neg c1] at hR
      refine jr_if_ne hF dX9_rest_56 (q := 59) rfl 62 (by decide) (fun a1 => ?_) (fun a1 => ?_)
      · refine jr_iload_n hF dX9_rest_62 (q := 63) rfl rfl ?_
        refine jr_iconst hF dX9_rest_63 (q := 64) rfl (by decide) ?_
        refine jr_icmp_ne hF dX9_rest_64 (q := 67) rfl 77 (by decide) (fun a2 => ?_) (fun a2 => ?_)
        · obtain ⟨n, rfl⟩ : ∃ n : Nat, m = (n : Int) := ⟨m.toNat, by omega⟩
          refine jr_aload_n hF dX9_rest_77 (q := 78) rfl rfl ?_
          refine jr_getR (ci := 9) (j := 6) hF dX9_rest_78 (q := 81) rfl rfl rfl fl9_50 ?_
          refine jr_getR (ci := 5) (j := 2) hF dX9_rest_81 (q := 84) rfl rfl rfl fl9_214 ?_
          refine jr_iload_n hF dX9_rest_84 (q := 85) rfl rfl ?_
          refine jr_iald hF dX9_rest_85 (q := 86) rfl rfl (by omega) ?_
          refine jr_retI hF hR dX9_rest_86 rfl ⟨by rw [if_neg a2]; exact c4 n (by omega), hRC2, fun k hk => hfr k (by omega)⟩
        · refine jr_aload_n hF dX9_rest_67 (q := 68) rfl rfl ?_
          refine jr_getR (ci := 9) (j := 6) hF dX9_rest_68 (q := 71) rfl rfl rfl fl9_50 ?_
          refine jr_getI (ci := 5) (j := 1) hF 1 rfl dX9_rest_71 (q := 74) rfl rfl rfl fl9_211 ?_
          refine jr_goto hF dX9_rest_74 86 (by decide) ?_
          refine jr_retI hF hR dX9_rest_86 rfl ⟨by rw [if_pos a2]; exact c3, hRC2, fun k hk => hfr k (by omega)⟩
      · omega
  refine jr_iload_n hF dX9_rest_0 (q := 1) rfl rfl ?_
  refine jr_iconst hF dX9_rest_1 (q := 2) rfl (by decide) ?_
  refine jr_icmp_eq hF dX9_rest_2 (q := 5) rfl 18 (by decide) (fun a1 => ?_) (fun a1 => ?_)
  · exact hgo (Or.inl a1)
  · refine jr_aload_n hF dX9_rest_5 (q := 6) rfl rfl ?_
    refine jr_getR (ci := 9) (j := 1) hF dX9_rest_6 (q := 9) rfl rfl rfl fl9_19 ?_
    refine jr_iload_n hF dX9_rest_9 (q := 10) rfl rfl ?_
    refine jr_cV1I hF (c_hasMaster σ 4 pl4 m) dX9_rest_10 (q := 13) rfl lk9_144 vX4_hasMaster kX4_hasMaster rfl rfl rfl (by decide) (Nat.le_of_ble_eq_true rfl) (fun z σ1 hz => ?_)
    obtain ⟨rfl, rfl⟩ := hz
    refine jr_if_ne hF dX9_rest_13 (q := 16) rfl 18 (by decide) (fun a2 => ?_) (fun a2 => ?_)
    · have b2 : 0 ≤ m ∧ m < σ 4 0 := Classical.byContradiction fun h => a2 (by rw [if_neg h])
      exact hgo (Or.inr (by omega))
    · have b2 : ¬ (0 ≤ m ∧ m < σ 4 0) := fun h => by rw [if_pos h] at a2; omega
      refine jr_iconst hF dX9_rest_16 (q := 17) rfl (by decide) ?_
      refine jr_retI hF hR dX9_rest_17 rfl ⟨by unfold an_rest; rw [if_pos (by omega)], h, fun _ _ => rfl⟩
set_option maxRecDepth 100000 in
theorem o_joint (h : RC σ (len, B, F, nu, W, V, nk, S, ns, M, Y)) (ok : okA (len, B, F, nu, W, V, nk, S, ns, M, Y)) (i : Int) : RI mX9_joint 10 [vR 0, vI i] σ (fun z σ' => z = an_joint F i ∧ RC σ' (len, B, F, nu, W, V, nk, S, ns, M, Y) ∧ ∀ k, 73 ≤ k → σ' k = σ k) := by
  have hC := h.2.1
  have okF' := ok.2.2.1
  have h5 := okF'.2.1
  have r2 := hC.2.1
  have hpos := wB_pos okF' 99
  refine mkRun (by decide +kernel) (Nat.le_of_ble_eq_true rfl) (fun X hF hR => ?_)
  have hgo : (i = -1 ∨ (0 ≤ i ∧ i < f_nl F)) → Gs X 18 (entryL [vR 0, vI i] mX9_joint.2.2.1) [] σ := by
    intro hm
    unfold an_joint at hR
    rw [if_neg (fun hh => hh hm)] at hR
    refine jr_aload_n hF dX9_joint_18 (q := 19) rfl rfl ?_
    refine jr_getR (ci := 9) (j := 5) hF dX9_joint_19 (q := 22) rfl rfl rfl fl9_43 ?_
    refine jr_aload_n hF dX9_joint_22 (q := 23) rfl rfl ?_
    refine jr_getR (ci := 9) (j := 1) hF dX9_joint_23 (q := 26) rfl rfl rfl fl9_19 ?_
    refine jr_iconst hF dX9_joint_26 (q := 27) rfl (by decide) ?_
    refine jr_cV2V hF (c_psearch σ F hC okF' (-1) 99 ab99) dX9_joint_27 (q := 30) rfl lk9_198 vX3_search kX3_search rfl rfl rfl (by decide) (Nat.le_of_ble_eq_true rfl) (fun σ1 hz => ?_)
    obtain ⟨⟨p1, p2⟩, p3⟩ := hz
    have hRC2 : RC σ1 (len, B, F, nu, W, V, nk, S, ns, M, Y) := h.fr h5 ok.2.2.2.2.2.2.2.1 (fun k hk => p3 k (by omega))
    refine jr_iload_n hF dX9_joint_30 (q := 31) rfl rfl ?_
    refine jr_iconst hF dX9_joint_31 (q := 32) rfl (by decide) ?_
    refine jr_icmp_ne hF dX9_joint_32 (q := 35) rfl 45 (by decide) (fun a2 => ?_) (fun a2 => ?_)
    · obtain ⟨n, rfl⟩ : ∃ n : Nat, i = (n : Int) := ⟨i.toNat, by omega⟩
      refine jr_aload_n hF dX9_joint_45 (q := 46) rfl rfl ?_
      refine jr_getR (ci := 9) (j := 5) hF dX9_joint_46 (q := 49) rfl rfl rfl fl9_43 ?_
      refine jr_getR (ci := 3) (j := 1) hF dX9_joint_49 (q := 52) rfl rfl rfl fl9_201 ?_
      refine jr_iload_n hF dX9_joint_52 (q := 53) rfl rfl ?_
      refine jr_iald hF dX9_joint_53 (q := 54) rfl rfl (by omega) ?_
      refine jr_retI hF hR dX9_joint_54 rfl ⟨by rw [if_neg a2]; exact p2 (by omega) n (by omega), hRC2, fun k hk => p3 k (by omega)⟩
    · refine jr_aload_n hF dX9_joint_35 (q := 36) rfl rfl ?_
      refine jr_getR (ci := 9) (j := 5) hF dX9_joint_36 (q := 39) rfl rfl rfl fl9_43 ?_
      refine jr_getI (ci := 3) (j := 0) hF 0 rfl dX9_joint_39 (q := 42) rfl rfl rfl fl9_215 ?_
      refine jr_goto hF dX9_joint_42 54 (by decide) ?_
      refine jr_retI hF hR dX9_joint_54 rfl ⟨by rw [if_pos a2]; exact p1, hRC2, fun k hk => p3 k (by omega)⟩
  refine jr_iload_n hF dX9_joint_0 (q := 1) rfl rfl ?_
  refine jr_iconst hF dX9_joint_1 (q := 2) rfl (by decide) ?_
  refine jr_icmp_eq hF dX9_joint_2 (q := 5) rfl 18 (by decide) (fun a1 => ?_) (fun a1 => ?_)
  · exact hgo (Or.inl a1)
  · refine jr_aload_n hF dX9_joint_5 (q := 6) rfl rfl ?_
    refine jr_getR (ci := 9) (j := 1) hF dX9_joint_6 (q := 9) rfl rfl rfl fl9_19 ?_
    refine jr_iload_n hF dX9_joint_9 (q := 10) rfl rfl ?_
    refine jr_cV1I hF (c_hasLad σ 4 pl4 i) dX9_joint_10 (q := 13) rfl lk9_120 vX4_hasLad kX4_hasLad rfl rfl rfl (by decide) (Nat.le_of_ble_eq_true rfl) (fun z σ1 hz => ?_)
    obtain ⟨rfl, rfl⟩ := hz
    refine jr_if_ne hF dX9_joint_13 (q := 16) rfl 18 (by decide) (fun a2 => ?_) (fun a2 => ?_)
    · have b2 : 0 ≤ i ∧ i < σ 4 1 := Classical.byContradiction fun h => a2 (by rw [if_neg h])
      exact hgo (Or.inr (by omega))
    · have b2 : ¬ (0 ≤ i ∧ i < σ 4 1) := fun h => by rw [if_pos h] at a2; omega
      refine jr_iconst hF dX9_joint_16 (q := 17) rfl (by decide) ?_
      refine jr_retI hF hR dX9_joint_17 rfl ⟨by unfold an_joint; rw [if_pos (by omega)], h, fun _ _ => rfl⟩
set_option maxRecDepth 100000 in
theorem o_pay (h : RC σ (len, B, F, nu, W, V, nk, S, ns, M, Y)) (ok : okA (len, B, F, nu, W, V, nk, S, ns, M, Y)) (i : Int) : RI mX9_pay 10 [vR 0, vI i] σ (fun z σ' => z = an_pay F i ∧ RC σ' (len, B, F, nu, W, V, nk, S, ns, M, Y) ∧ ∀ k, 73 ≤ k → σ' k = σ k) := by
  have hpl := pl4
  have hC := h.2.1
  have okF' := ok.2.2.1
  have h5 := okF'.2.1
  have h3 := okF'.1
  have r2 := hC.2.1
  have hpos := wB_pos okF' 99
  have hle := wB_le okF' 99 (f_bs F ^ f_nl F)
  refine mkRun (by decide +kernel) (Nat.le_of_ble_eq_true rfl) (fun X hF hR => ?_)
  refine jr_aload_n hF dX9_pay_0 (q := 1) rfl rfl ?_
  refine jr_getR (ci := 9) (j := 1) hF dX9_pay_1 (q := 4) rfl rfl rfl fl9_19 ?_
  refine jr_iload_n hF dX9_pay_4 (q := 5) rfl rfl ?_
  refine jr_cV1I hF (c_hasLad σ 4 pl4 i) dX9_pay_5 (q := 8) rfl lk9_120 vX4_hasLad kX4_hasLad rfl rfl rfl (by decide) (Nat.le_of_ble_eq_true rfl) (fun z σ1 hz => ?_)
  obtain ⟨rfl, rfl⟩ := hz
  refine jr_if_ne hF dX9_pay_8 (q := 11) rfl 13 (by decide) (fun a1 => ?_) (fun a1 => ?_)
  · have b2 : 0 ≤ i ∧ i < σ 4 1 := Classical.byContradiction fun h => a1 (by rw [if_neg h])
    obtain ⟨n, rfl⟩ : ∃ n : Nat, i = (n : Int) := ⟨i.toNat, by omega⟩
    have hn : n < f_nl F := by omega
    have hle2 := wB_le okF' n (f_bs F ^ f_nl F)
    have eA : an_pay F (n : Int) = (wB F n (f_bs F ^ f_nl F)).1 - ((wB F 99 (f_bs F ^ f_nl F)).1 - tm F n (dgp (f_bs F) (f_nl F) (xJ F) n)) := by
      unfold an_pay
      rw [if_neg (by omega)]
      rfl
    rw [eA] at hR
    refine jr_aload_n hF dX9_pay_13 (q := 14) rfl rfl ?_
    refine jr_getR (ci := 9) (j := 5) hF dX9_pay_14 (q := 17) rfl rfl rfl fl9_43 ?_
    refine jr_aload_n hF dX9_pay_17 (q := 18) rfl rfl ?_
    refine jr_getR (ci := 9) (j := 1) hF dX9_pay_18 (q := 21) rfl rfl rfl fl9_19 ?_
    refine jr_iconst hF dX9_pay_21 (q := 22) rfl (by decide) ?_
    refine jr_cV2V hF (c_psearch σ F hC okF' (-1) 99 ab99) dX9_pay_22 (q := 25) rfl lk9_198 vX3_search kX3_search rfl rfl rfl (by decide) (Nat.le_of_ble_eq_true rfl) (fun σ1 hz => ?_)
    obtain ⟨⟨p1, p2⟩, p3⟩ := hz
    have p2' := p2 (by omega) n hn
    have hC1 : RepC σ1 4 F := hC.fr h5 (fun k l1 l2 => p3 k (by omega))
    have hdl := dgp_lt F (f_nl F) (xJ F) n
    have htm := tm_le okF' hn hdl
    have hcont : ∀ v : Int, v = (wB F 99 (f_bs F ^ f_nl F)).1 - tm F n (dgp (f_bs F) (f_nl F) (xJ F) n) → Gs X 69 [some (vR 0), some (vI (n : Int)), some (vI v)] [] σ1 := by
      intro v hv
      subst hv
      refine jr_aload_n hF dX9_pay_69 (q := 70) rfl rfl ?_
      refine jr_getR (ci := 9) (j := 5) hF dX9_pay_70 (q := 73) rfl rfl rfl fl9_43 ?_
      refine jr_aload_n hF dX9_pay_73 (q := 74) rfl rfl ?_
      refine jr_getR (ci := 9) (j := 1) hF dX9_pay_74 (q := 77) rfl rfl rfl fl9_19 ?_
      refine jr_iload_n hF dX9_pay_77 (q := 78) rfl rfl ?_
      refine jr_cV2V hF (c_psearch σ1 F hC1 okF' n n (Or.inr ⟨rfl, by omega⟩)) dX9_pay_78 (q := 81) rfl lk9_198 vX3_search kX3_search rfl rfl rfl (by decide) (Nat.le_of_ble_eq_true rfl) (fun σ2 hz => ?_)
      obtain ⟨⟨t1, -⟩, t3⟩ := hz
      refine jr_aload_n hF dX9_pay_81 (q := 82) rfl rfl ?_
      refine jr_getR (ci := 9) (j := 5) hF dX9_pay_82 (q := 85) rfl rfl rfl fl9_43 ?_
      refine jr_getI (ci := 3) (j := 0) hF 0 rfl dX9_pay_85 (q := 88) rfl rfl rfl fl9_215 ?_
      rw [t1]
      refine jr_iload_n hF dX9_pay_88 (q := 89) rfl rfl ?_
      refine jr_isub hF dX9_pay_89 (q := 90) rfl (by omega) ?_
      refine jr_retI hF hR dX9_pay_90 rfl ⟨rfl, h.fr h5 ok.2.2.2.2.2.2.2.1 (fun k hk => by rw [t3 k (by omega), p3 k (by omega)]), fun k hk => by rw [t3 k (by omega), p3 k (by omega)]⟩
    refine jr_aload_n hF dX9_pay_25 (q := 26) rfl rfl ?_
    refine jr_getR (ci := 9) (j := 5) hF dX9_pay_26 (q := 29) rfl rfl rfl fl9_43 ?_
    refine jr_getI (ci := 3) (j := 0) hF 0 rfl dX9_pay_29 (q := 32) rfl rfl rfl fl9_215 ?_
    rw [p1]
    refine jr_istore_n hF dX9_pay_32 (q := 33) rfl (by decide) rfl ?_
    refine jr_aload_n hF dX9_pay_33 (q := 34) rfl rfl ?_
    refine jr_getR (ci := 9) (j := 5) hF dX9_pay_34 (q := 37) rfl rfl rfl fl9_43 ?_
    refine jr_getR (ci := 3) (j := 1) hF dX9_pay_37 (q := 40) rfl rfl rfl fl9_201 ?_
    refine jr_iload_n hF dX9_pay_40 (q := 41) rfl rfl ?_
    refine jr_iald hF dX9_pay_41 (q := 42) rfl rfl (by omega) ?_
    rw [p2']
    refine jr_bipush hF dX9_pay_42 (q := 44) rfl (by decide) (by decide +kernel) ?_
    refine jr_icmp_eq hF dX9_pay_44 (q := 47) rfl 69 (by decide) (fun a2 => ?_) (fun a2 => ?_)
    · have hdn : dgp (f_bs F) (f_nl F) (xJ F) n = f_nm F := by
        have a2' : dz F (dgp (f_bs F) (f_nl F) (xJ F) n) = -4 := a2
        unfold dz at a2'
        split at a2'
        · assumption
        · omega
      refine hcont _ ?_
      unfold tm
      rw [if_pos hdn, Int.sub_zero]
    · have hdn : dgp (f_bs F) (f_nl F) (xJ F) n ≠ f_nm F := fun e => a2 (by show dz F (dgp (f_bs F) (f_nl F) (xJ F) n) = -4; unfold dz; rw [if_pos e])
      have ed : dz F (dgp (f_bs F) (f_nl F) (wB F 99 (f_bs F ^ f_nl F)).2 n) = (dgp (f_bs F) (f_nl F) (xJ F) n : Int) := by
        show dz F (dgp (f_bs F) (f_nl F) (xJ F) n) = _
        unfold dz
        rw [if_neg hdn]
      have ew : σ1 (8 + n) (dgp (f_bs F) (f_nl F) (xJ F) n : Int) = f_wt F n (dgp (f_bs F) (f_nl F) (xJ F) n) := hC1.want hn (by omega)
      have et : tm F n (dgp (f_bs F) (f_nl F) (xJ F) n) = f_wt F n (dgp (f_bs F) (f_nl F) (xJ F) n) := by unfold tm; rw [if_neg hdn]
      refine jr_iload_n hF dX9_pay_47 (q := 48) rfl rfl ?_
      refine jr_aload_n hF dX9_pay_48 (q := 49) rfl rfl ?_
      refine jr_getR (ci := 9) (j := 1) hF dX9_pay_49 (q := 52) rfl rfl rfl fl9_19 ?_
      refine jr_getR (ci := 4) (j := 4) hF dX9_pay_52 (q := 55) rfl rfl rfl fl9_156 ?_
      refine jr_iload_n hF dX9_pay_55 (q := 56) rfl rfl ?_
      refine jr_aald hF dX9_pay_56 (q := 57) rfl rfl (by omega) ?_
      rw [tn]
      refine jr_aload_n hF dX9_pay_57 (q := 58) rfl rfl ?_
      refine jr_getR (ci := 9) (j := 5) hF dX9_pay_58 (q := 61) rfl rfl rfl fl9_43 ?_
      refine jr_getR (ci := 3) (j := 1) hF dX9_pay_61 (q := 64) rfl rfl rfl fl9_201 ?_
      refine jr_iload_n hF dX9_pay_64 (q := 65) rfl rfl ?_
      refine jr_iald hF dX9_pay_65 (q := 66) rfl rfl (by omega) ?_
      rw [p2', ed]
      refine jr_iald hF dX9_pay_66 (q := 67) rfl (by first | rfl | exact L_pl hpl | exact L_rm hpl | exact L_kd hpl | exact L_lw hpl | exact L_wo hpl | exact L_wr hpl (by omega) | exact L_pl hp2 | exact L_rm hp2 | exact L_kd hp2 | exact L_lw hp2 | exact L_wo hp2 | exact L_wr hp2 (by omega)) (by omega) ?_
      rw [ew]
      refine jr_isub hF dX9_pay_67 (q := 68) rfl (by omega) ?_
      refine jr_istore_n hF dX9_pay_68 (q := 69) rfl (by decide) rfl ?_
      exact hcont _ (by rw [et])
  · have b2 : ¬ (0 ≤ i ∧ i < σ 4 1) := fun h => by rw [if_pos h] at a1; omega
    refine jr_iconst hF dX9_pay_11 (q := 12) rfl (by decide) ?_
    refine jr_retI hF hR dX9_pay_12 rfl ⟨by unfold an_pay; rw [if_pos (by omega)], h, fun _ _ => rfl⟩
set_option maxRecDepth 100000 in
theorem c_asSeen (h : RC σ (len, B, F, nu, W, V, nk, S, ns, M, Y)) (ok : okA (len, B, F, nu, W, V, nk, S, ns, M, Y)) (az : Int) (ab : Nat) (hab : absR az ab) : RI mX9_isAsSeenWithout 5 [vR 0, vI az] σ (fun z σ' => z = (if fitF F ns M Y ab = true then 1 else 0) ∧ ∀ k, k < 25 ∨ 28 < k → σ' k = σ k) := by
  have hC := h.2.1
  have okF' := ok.2.2.1
  have h5 := okF'.2.1
  refine mkRun (by decide +kernel) (Nat.le_of_ble_eq_true rfl) (fun X hF hR => ?_)
  refine jr_aload_n hF dX9_isAsSeenWithout_0 (q := 1) rfl rfl ?_
  refine jr_getR (ci := 9) (j := 3) hF dX9_isAsSeenWithout_1 (q := 4) rfl rfl rfl fl9_29 ?_
  refine jr_aload_n hF dX9_isAsSeenWithout_4 (q := 5) rfl rfl ?_
  refine jr_getR (ci := 9) (j := 1) hF dX9_isAsSeenWithout_5 (q := 8) rfl rfl rfl fl9_19 ?_
  refine jr_iload_n hF dX9_isAsSeenWithout_8 (q := 9) rfl rfl ?_
  refine jr_cV2V hF (c_hold σ 4 pl4 F hC okF' az ab hab) dX9_isAsSeenWithout_9 (q := 12) rfl lk9_130 vX2_hold kX2_hold rfl rfl rfl (by decide) (Nat.le_of_ble_eq_true rfl) (fun σ1 hz => ?_)
  obtain ⟨k1, -, k3⟩ := hz
  have hRC1 : RC σ1 (len, B, F, nu, W, V, nk, S, ns, M, Y) := h.fr h5 ok.2.2.2.2.2.2.2.1 (fun k hk => k3 k (by omega) (by omega) (by omega) (by omega))
  refine jr_aload_n hF dX9_isAsSeenWithout_12 (q := 13) rfl rfl ?_
  refine jr_getR (ci := 9) (j := 7) hF dX9_isAsSeenWithout_13 (q := 16) rfl rfl rfl fl9_57 ?_
  refine jr_aload_n hF dX9_isAsSeenWithout_16 (q := 17) rfl rfl ?_
  refine jr_getR (ci := 9) (j := 1) hF dX9_isAsSeenWithout_17 (q := 20) rfl rfl rfl fl9_19 ?_
  refine jr_aload_n hF dX9_isAsSeenWithout_20 (q := 21) rfl rfl ?_
  refine jr_getR (ci := 9) (j := 3) hF dX9_isAsSeenWithout_21 (q := 24) rfl rfl rfl fl9_29 ?_
  refine jr_cV2I hF (c_fit σ1 4 pl4 (f_nl F) hRC1.2.1.2.1 h5 (f_fair F ab (f_nm F)) k1 ns ok.2.2.2.2.2.2.2.2.2.1 M Y hRC1.2.2.2.2) dX9_isAsSeenWithout_24 (q := 27) rfl lk9_248 vX7_fit kX7_fit rfl rfl rfl (by decide) (Nat.le_of_ble_eq_true rfl) (fun z σ2 hz => ?_)
  obtain ⟨rfl, rfl⟩ := hz
  refine jr_retZ hF hR dX9_isAsSeenWithout_27 rfl (by split <;> omega) ⟨rfl, fun k hk => k3 k (by omega) (by omega) (by omega) (by omega)⟩
set_option maxRecDepth 100000 in
theorem o_cousins (h : RC σ (len, B, F, nu, W, V, nk, S, ns, M, Y)) (ok : okA (len, B, F, nu, W, V, nk, S, ns, M, Y)) : RI mX9_cousins 10 [vR 0] σ (fun z σ' => z = an_cousins F ns M Y ∧ RC σ' (len, B, F, nu, W, V, nk, S, ns, M, Y) ∧ ∀ k, 73 ≤ k → σ' k = σ k) := by
  have okF' := ok.2.2.1
  have h5 := okF'.2.1
  refine mkRun (by decide +kernel) (Nat.le_of_ble_eq_true rfl) (fun X hF hR => ?_)
  refine jr_iconst hF dX9_cousins_0 (q := 1) rfl (by decide) ?_
  refine jr_istore_n hF dX9_cousins_1 (q := 2) rfl (by decide) rfl ?_
  refine jr_iconst hF dX9_cousins_2 (q := 3) rfl (by decide) ?_
  refine jr_istore_n hF dX9_cousins_3 (q := 4) rfl (by decide) rfl ?_
  refine gs_loop (α := Sg) (fun k _ => [some (vR 0), some (vI (bitsF (fitF F ns M Y) k)), some (vI (k : Int))]) (fun σ' => σ') (fun k σ' => ∀ k, k < 25 ∨ 28 < k → σ' k = σ k) (f_nl F) (fun σ1 h1 => ?_) (fun k σ1 hk h1 ih => ?_) σ (fun _ _ => rfl)
  · have hRC1 : RC σ1 (len, B, F, nu, W, V, nk, S, ns, M, Y) := h.fr h5 ok.2.2.2.2.2.2.2.1 (fun k hk => h1 k (by omega))
    have q2 := hRC1.2.1.2.1
    refine jr_iload_n hF dX9_cousins_4 (q := 5) rfl rfl ?_
    refine jr_aload_n hF dX9_cousins_5 (q := 6) rfl rfl ?_
    refine jr_getR (ci := 9) (j := 1) hF dX9_cousins_6 (q := 9) rfl rfl rfl fl9_19 ?_
    refine jr_getI (ci := 4) (j := 1) hF 1 rfl dX9_cousins_9 (q := 12) rfl rfl rfl fl9_108 ?_
    refine jr_icmp_ge hF dX9_cousins_12 (q := 15) rfl 35 (by decide) (fun a1 => ?_) (fun a1 => ?_)
    · refine jr_aload_n hF dX9_cousins_35 (q := 36) rfl rfl ?_
      refine jr_iconst hF dX9_cousins_36 (q := 37) rfl (by decide) ?_
      refine jr_cV1I hF (c_asSeen σ1 len B F nu W V nk S ns M Y hRC1 ok (-1) 99 ab99) dX9_cousins_37 (q := 40) rfl lk9_222 vX9_isAsSeenWithout kX9_isAsSeenWithout rfl rfl rfl (by decide) (Nat.le_of_ble_eq_true rfl) (fun z σ2 hz => ?_)
      obtain ⟨rfl, g2⟩ := hz
      have hRC2 : RC σ2 (len, B, F, nu, W, V, nk, S, ns, M, Y) := hRC1.fr h5 ok.2.2.2.2.2.2.2.1 (fun k hk => g2 k (by omega))
      have hfr : ∀ k, 73 ≤ k → σ2 k = σ k := fun k hk => by rw [g2 k (by omega), h1 k (by omega)]
      refine jr_if_eq hF dX9_cousins_40 (q := 43) rfl 50 (by decide) (fun a2 => ?_) (fun a2 => ?_)
      · have e := bi_0 a2
        refine jr_iload_n hF dX9_cousins_50 (q := 51) rfl rfl ?_
        refine jr_retI hF hR dX9_cousins_51 rfl ⟨by unfold an_cousins; rw [if_neg (by rw [e]; decide)], hRC2, hfr⟩
      · have e := bi_1 a2
        refine jr_iload_n hF dX9_cousins_43 (q := 44) rfl rfl ?_
        refine jr_bipush hF dX9_cousins_44 (q := 46) rfl (by decide) (by decide +kernel) ?_
        refine jr_ior hF dX9_cousins_46 (q := 47) rfl ?_
        refine jr_goto hF dX9_cousins_47 51 (by decide) ?_
        refine jr_retI hF hR dX9_cousins_51 rfl ⟨by unfold an_cousins; rw [if_pos e], hRC2, hfr⟩
    · omega
  · have hRC1 : RC σ1 (len, B, F, nu, W, V, nk, S, ns, M, Y) := h.fr h5 ok.2.2.2.2.2.2.2.1 (fun k hk => h1 k (by omega))
    have q2 := hRC1.2.1.2.1
    have eb : bitsF (fitF F ns M Y) (k + 1) = if fitF F ns M Y k = true then orb (bitsF (fitF F ns M Y) k) k else bitsF (fitF F ns M Y) k := rfl
    refine jr_iload_n hF dX9_cousins_4 (q := 5) rfl rfl ?_
    refine jr_aload_n hF dX9_cousins_5 (q := 6) rfl rfl ?_
    refine jr_getR (ci := 9) (j := 1) hF dX9_cousins_6 (q := 9) rfl rfl rfl fl9_19 ?_
    refine jr_getI (ci := 4) (j := 1) hF 1 rfl dX9_cousins_9 (q := 12) rfl rfl rfl fl9_108 ?_
    refine jr_icmp_ge hF dX9_cousins_12 (q := 15) rfl 35 (by decide) (fun a1 => ?_) (fun a1 => ?_)
    · omega
    · refine jr_aload_n hF dX9_cousins_15 (q := 16) rfl rfl ?_
      refine jr_iload_n hF dX9_cousins_16 (q := 17) rfl rfl ?_
      refine jr_cV1I hF (c_asSeen σ1 len B F nu W V nk S ns M Y hRC1 ok k k (Or.inr ⟨rfl, by omega⟩)) dX9_cousins_17 (q := 20) rfl lk9_222 vX9_isAsSeenWithout kX9_isAsSeenWithout rfl rfl rfl (by decide) (Nat.le_of_ble_eq_true rfl) (fun z σ2 hz => ?_)
      obtain ⟨rfl, g2⟩ := hz
      have ih1 := ih σ2 (fun k hk => by rw [g2 k hk]; exact h1 k hk)
      rw [eb] at ih1
      refine jr_if_eq hF dX9_cousins_20 (q := 23) rfl 29 (by decide) (fun a2 => ?_) (fun a2 => ?_)
      · have e := bi_0 a2
        rw [if_neg (by rw [e]; decide)] at ih1
        refine jr_iinc hF dX9_cousins_29 (q := 32) rfl (by decide) rfl rfl (by omega) ?_
        refine jr_goto hF dX9_cousins_32 4 (by decide) ?_
        exact ih1
      · have e := bi_1 a2
        rw [if_pos e] at ih1
        refine jr_iload_n hF dX9_cousins_23 (q := 24) rfl rfl ?_
        refine jr_iconst hF dX9_cousins_24 (q := 25) rfl (by decide) ?_
        refine jr_iload_n hF dX9_cousins_25 (q := 26) rfl rfl ?_
        refine jr_ishl hF dX9_cousins_26 (q := 27) rfl ?_
        refine jr_ior hF dX9_cousins_27 (q := 28) rfl ?_
        refine jr_istore_n hF dX9_cousins_28 (q := 29) rfl (by decide) rfl ?_
        refine jr_iinc hF dX9_cousins_29 (q := 32) rfl (by decide) rfl rfl (by omega) ?_
        refine jr_goto hF dX9_cousins_32 4 (by decide) ?_
        exact ih1
end

