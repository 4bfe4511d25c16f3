theorem TxM.qf {σ σ' : Sg} {B : Nat → Int} {len : Nat} (h : TxM σ B len) (hf : QFr σ σ') : TxM σ' B len := ⟨by rw [hf.2.1 0 (by decide)]; exact h.1, fun k hk => by rw [hf.1 74 (by omega)]; exact h.2 k hk⟩
theorem itemF_ok {B : Nat → Int} {len pl : Nat} {F F' : FD} {a b : Nat → Int} {q : Nat} (hpl : pl < len) (ok : okF F) (hz : FZ F) (h : itemF B len pl F a = some (q, F', b)) : pl < q ∧ q ≤ len ∧ okF F' ∧ FZ F' := by
  unfold itemF at h
  cases h1 : rdN B len (nOf (B pl)) (nOf (B pl)) (pl + 1) a with
  | none => rw [h1] at h; exact absurd h (by simp)
  | some qb =>
    obtain ⟨q', b'⟩ := qb
    rw [h1] at h
    dsimp only at h
    have hle := rdN_le _ _ _ _ _ (show pl + 1 ≤ len by omega) h1
    cases h2 : tellF F (B pl) b' with
    | none => rw [h2] at h; exact absurd h (by simp)
    | some F2 =>
      rw [h2] at h
      dsimp only at h
      have e := Option.some.inj h
      have e1 := (Prod.mk.inj e).1
      have e2 := (Prod.mk.inj (Prod.mk.inj e).2).1
      have hok := tellF_ok ok hz h2
      rw [← e1, ← e2]
      exact ⟨by omega, hle.1, hok⟩
set_option maxRecDepth 100000 in
theorem m_readAll (σ : Sg) (B : Nat → Int) (len : Nat) (hT : TxM σ B len) (h3 : len ≤ 300) (hB : bOK B len) : RI mX10_readAll 4 [vR 73] σ (fun z σ' => QFr σ σ' ∧ z = (rdF B len).1 ∧ (z = -4 → RdM σ' (rdF B len).2 ∧ okF (rdF B len).2)) := by
  refine mkRun (by decide +kernel) (Nat.le_of_ble_eq_true rfl) (fun X hF hR => ?_)
  refine jr_aload_n hF dX10_readAll_0 (q := 1) rfl rfl ?_
  refine jr_iconst hF dX10_readAll_1 (q := 2) rfl (by decide) ?_
  refine jr_cV1V hF (m_noFair1 σ) dX10_readAll_2 (q := 5) rfl lk10_73 vX10_noFair kX10_noFair rfl rfl rfl (by decide) (Nat.le_of_ble_eq_true rfl) (fun σ1 hz => ?_)
  obtain ⟨hC0, hf0⟩ := hz
  refine jr_aload_n hF dX10_readAll_5 (q := 6) rfl rfl ?_
  refine jr_iconst hF dX10_readAll_6 (q := 7) rfl (by decide) ?_
  refine jr_putI (ci := 10) (j := 16) hF 16 rfl dX10_readAll_7 (q := 10) rfl rfl rfl fp10_89 ?_
  have hp0 : PFr σ1 (up σ1 73 16 0) := (PFr.rf σ1).pl 0
  have eR : rdAll B len 300 0 F00 (fun j => (up σ1 73 16 0) 86 (j : Int)) = rdF B len := rdAll_ind 300 0 F00 _ _
  generalize rdF B len = Res at hR eR
  refine gs_loop (α := Nat × Sg × FD × (Nat → Int)) (fun k w => [some (vR 73), none]) (fun w => w.2.1) (fun k w => rdAll B len (300 - k) w.1 w.2.2.1 w.2.2.2 = Res ∧ w.1 ≤ len ∧ k ≤ w.1 ∧ QFr σ w.2.1 ∧ w.2.1 73 16 = (w.1 : Int) ∧ (∀ j : Nat, j < 3 → w.2.1 86 (j : Int) = w.2.2.2 j) ∧ RdM w.2.1 w.2.2.1 ∧ okF w.2.2.1 ∧ FZ w.2.2.1) 300 (fun w h => ?_) (fun k w hk h ih => ?_) (0, up σ1 73 16 0, F00, fun j => (up σ1 73 16 0) 86 (j : Int)) ⟨eR, Nat.zero_le _, Nat.le_refl _, hf0.tr hp0.q, by show (up σ1 73 16 0) 73 16 = 0; simp [up], fun _ _ => rfl, hC0.pf hp0, okF_00, FZ_00⟩
  · obtain ⟨pl, σ2, F2, b⟩ := w
    obtain ⟨i1, i2, i3, i4, i5, i6, i7, i8, i9⟩ := h
    dsimp only at i1 i2 i3 i4 i5 i6 i7 i8 i9 ⊢
    replace i1 : ((-4 : Int), F2) = Res := i1
    have t1 := (hT.qf i4).1
    refine jr_aload_n hF dX10_readAll_10 (q := 11) rfl rfl ?_
    refine jr_getI (ci := 10) (j := 16) hF 16 rfl dX10_readAll_11 (q := 14) rfl rfl rfl fl10_89 ?_
    refine jr_aload_n hF dX10_readAll_14 (q := 15) rfl rfl ?_
    refine jr_getI (ci := 10) (j := 0) hF 0 rfl dX10_readAll_15 (q := 18) rfl rfl rfl fl10_83 ?_
    rw [i5, t1]
    refine jr_icmp_ge hF dX10_readAll_18 (q := 21) rfl 38 (by decide) (fun a1 => ?_) (fun a1 => ?_)
    · refine jr_bipush hF dX10_readAll_38 (q := 40) rfl (by decide) (by decide +kernel) ?_
      rw [← i1] at hR
      refine jr_retI hF hR dX10_readAll_40 rfl ⟨i4, rfl, fun _ => ⟨i7, i8⟩⟩
    · omega
  · obtain ⟨pl, σ2, F2, b⟩ := w
    obtain ⟨i1, i2, i3, i4, i5, i6, i7, i8, i9⟩ := h
    dsimp only at i1 i2 i3 i4 i5 i6 i7 i8 i9 ⊢
    have hT2 := hT.qf i4
    have t1 := hT2.1
    rw [show 300 - k = (300 - (k + 1)) + 1 by omega, rdAll] at i1
    refine jr_aload_n hF dX10_readAll_10 (q := 11) rfl rfl ?_
    refine jr_getI (ci := 10) (j := 16) hF 16 rfl dX10_readAll_11 (q := 14) rfl rfl rfl fl10_89 ?_
    refine jr_aload_n hF dX10_readAll_14 (q := 15) rfl rfl ?_
    refine jr_getI (ci := 10) (j := 0) hF 0 rfl dX10_readAll_15 (q := 18) rfl rfl rfl fl10_83 ?_
    rw [i5, t1]
    refine jr_icmp_ge hF dX10_readAll_18 (q := 21) rfl 38 (by decide) (fun a1 => ?_) (fun a1 => ?_)
    · rw [if_pos (by omega)] at i1
      refine jr_bipush hF dX10_readAll_38 (q := 40) rfl (by decide) (by decide +kernel) ?_
      rw [← i1] at hR
      refine jr_retI hF hR dX10_readAll_40 rfl ⟨i4, rfl, fun _ => ⟨i7, i8⟩⟩
    · have hlt : pl < len := by omega
      rw [if_neg (by omega)] at i1
      have hI := m_item σ2 B len hT2 h3 hB F2 i7 i8 pl hlt i5 b i6
      have hok := @itemF_ok B len pl F2
      generalize hq : itemF B len pl F2 b = o at hI i1
      refine jr_aload_n hF dX10_readAll_21 (q := 22) rfl rfl ?_
      refine jr_getI (ci := 10) (j := 16) hF 16 rfl dX10_readAll_22 (q := 25) rfl rfl rfl fl10_89 ?_
      rw [i5]
      refine jr_istore_n hF dX10_readAll_25 (q := 26) rfl (by decide) rfl ?_
      refine jr_aload_n hF dX10_readAll_26 (q := 27) rfl rfl ?_
      refine jr_cV0I hF (hI) dX10_readAll_27 (q := 30) rfl lk10_110 vX10_item kX10_item rfl rfl rfl (by decide) (Nat.le_of_ble_eq_true rfl) (fun z σ3 hz => ?_)
      obtain ⟨g1, g2⟩ := hz
      cases o with
      | none =>
        dsimp only at g2 i1
        subst g2
        refine jr_if_ne hF dX10_readAll_30 (q := 33) rfl 35 (by decide) (fun a2 => ?_) (fun a2 => ?_)
        · exact absurd rfl a2
        · refine jr_iload_n hF dX10_readAll_33 (q := 34) rfl rfl ?_
          rw [← i1] at hR
          refine jr_retI hF hR dX10_readAll_34 rfl ⟨i4.tr g1, rfl, fun hh => absurd hh (by show ¬ (pl : Int) = -4; omega)⟩
      | some qb =>
        obtain ⟨q, F3, b3⟩ := qb
        dsimp only at g2 i1
        obtain ⟨rfl, g3, g4, g5, g6⟩ := g2
        obtain ⟨o1, o2, o3, o4⟩ := hok hlt i8 i9 hq
        refine jr_if_ne hF dX10_readAll_30 (q := 33) rfl 35 (by decide) (fun a2 => ?_) (fun a2 => ?_)
        · refine jr_fg 1 ?_
          refine jr_goto hF dX10_readAll_35 10 (by decide) ?_
          exact ih (q, σ3, F3, b3) ⟨i1, o2, by show k + 1 ≤ q; omega, i4.tr g1, g4, g6, g5, o3, o4⟩
        · exact absurd a2 (by decide)
section
variable (σ : Sg) (len : Nat) (B : Nat → Int) (F : FD) (nu : Nat) (W V : Nat → Int) (nk : Nat) (S : Nat → Int → Int) (ns : Nat) (M Y : Nat → Int)
theorem QFr.lo {σ σ' : Sg} (h : QFr σ σ') : ∀ k, k < 73 → σ' k = σ k := fun k hk => h.1 k (by omega)
set_option maxRecDepth 100000 in
theorem m_fault (h : RM σ (len, B, F, nu, W, V, nk, S, ns, M, Y)) (ok : okA (len, B, F, nu, W, V, nk, S, ns, M, Y)) : RI mX10_fault 10 [vR 73] σ (fun z σ' => z = (rdF B len).1 ∧ RM σ' (len, B, F, nu, W, V, nk, S, ns, M, Y) ∧ ∀ k, k < 73 → σ' k = σ k) := by
  refine mkRun (by decide +kernel) (Nat.le_of_ble_eq_true rfl) (fun X hF hR => ?_)
  refine jr_aload_n hF dX10_fault_0 (q := 1) rfl rfl ?_
  refine jr_cV0I hF (m_readAll σ B len h.1 ok.1 ok.2.1) dX10_fault_1 (q := 4) rfl lk10_114 vX10_readAll kX10_readAll rfl rfl rfl (by decide) (Nat.le_of_ble_eq_true rfl) (fun z σ1 hz => ?_)
  obtain ⟨g1, g2, -⟩ := hz
  refine jr_retI hF hR dX10_fault_4 rfl ⟨g2, h.qf ok g1, g1.lo⟩
end

