theorem TxC.fr {σ σ' : Sg} {B : Nat → Int} {len : Nat} (h : TxC σ B len) (h1 : σ' 1 = σ 1) (h2 : σ' 2 = σ 2) : TxC σ' B len := by
  unfold TxC
  rw [h1, h2]
  exact h
theorem CH.fr {σ σ' : Sg} {n : Nat} {W V : Nat → Int} (h : CH σ n W V) (h1 : σ' 66 = σ 66) (h2 : σ' 67 = σ 67) (h3 : σ' 68 = σ 68) : CH σ' n W V := by
  unfold CH
  rw [h1, h2, h3]
  exact h
theorem SE.fr {σ σ' : Sg} {n : Nat} {W V : Nat → Int} (h : SE σ n W V) (h1 : σ' 63 = σ 63) (h2 : σ' 64 = σ 64) (h3 : σ' 65 = σ 65) : SE σ' n W V := by
  unfold SE
  rw [h1, h2, h3]
  exact h
theorem KW.fr {σ σ' : Sg} {nl n : Nat} {S : Nat → Int → Int} (h : KW σ nl n S) (hn : n ≤ 2) (hf : ∀ k, 69 ≤ k → k ≤ 72 → σ' k = σ k) : KW σ' nl n S := by
  obtain ⟨h1, h2⟩ := h
  refine ⟨by rw [hf 69 (by omega) (by omega)]; exact h1, fun k hk => ?_⟩
  rw [hf (71 + k) (by omega) (by omega)]
  exact h2 k hk
section
variable (σ : Sg) (len : Nat) (B : Nat → Int) (F : FD) (nu : Nat) (W V : Nat → Int) (nk : Nat) (S : Nat → Int → Int) (ns : Nat) (M Y : Nat → Int)
def nx_wipe (A : AS) : AS := (0, A.2)
set_option maxRecDepth 100000 in
theorem o_wipe (h : RC σ (len, B, F, nu, W, V, nk, S, ns, M, Y)) (ok : okA (len, B, F, nu, W, V, nk, S, ns, M, Y)) : RI mX9_wipe 10 [vR 0] σ (fun z σ' => z = (len : Int) ∧ RC σ' (nx_wipe (len, B, F, nu, W, V, nk, S, ns, M, Y)) ∧ ∀ k, 73 ≤ k → σ' k = σ k) := by
  obtain ⟨⟨t1, t2, t3⟩, hC, h3, h4, h5⟩ := h
  refine mkRun (by decide +kernel) (Nat.le_of_ble_eq_true rfl) (fun X hF hR => ?_)
  refine jr_aload_n hF dX9_wipe_0 (q := 1) rfl rfl ?_
  refine jr_getR (ci := 9) (j := 0) hF dX9_wipe_1 (q := 4) rfl rfl rfl fl9_12 ?_
  refine jr_getI (ci := 8) (j := 0) hF 0 rfl dX9_wipe_4 (q := 7) rfl rfl rfl fl9_93 ?_
  refine jr_istore_n hF dX9_wipe_7 (q := 8) rfl (by decide) rfl ?_
  refine jr_aload_n hF dX9_wipe_8 (q := 9) rfl rfl ?_
  refine jr_getR (ci := 9) (j := 0) hF dX9_wipe_9 (q := 12) rfl rfl rfl fl9_12 ?_
  refine jr_iconst hF dX9_wipe_12 (q := 13) rfl (by decide) ?_
  refine jr_putI (ci := 8) (j := 0) hF 0 rfl dX9_wipe_13 (q := 16) rfl rfl rfl fp9_93 ?_
  refine jr_iload_n hF dX9_wipe_16 (q := 17) rfl rfl ?_
  refine jr_retI hF hR dX9_wipe_17 rfl ⟨t1, ⟨⟨by simp [up], Nat.zero_le _, fun k hk => by omega⟩, hC.fr ok.2.2.1.2.1 (fun k l1 l2 => up_ne (by omega)), h3.fr (up_ne (by decide)) (up_ne (by decide)) (up_ne (by decide)), h4.fr ok.2.2.2.2.2.2.2.1 (fun k l1 l2 => up_ne (by omega)), h5.fr (up_ne (by decide)) (up_ne (by decide)) (up_ne (by decide))⟩, fun k hk => up_ne (by omega)⟩
end
/-! what is read does not hang on what stood in the numbers' row before -/
theorem rdN_ind {B : Nat → Int} {len many : Nat} : ∀ (r pl : Nat) (a a' : Nat → Int), r ≤ many → (∀ j, j < many - r → a j = a' j) → match rdN B len many r pl a, rdN B len many r pl a' with
    | none, none => True
    | some (q, b), some (q', b') => q = q' ∧ ∀ j, j < many → b j = b' j
    | _, _ => False := by
  intro r
  induction r with
  | zero =>
    intro pl a a' hr h
    rw [rdN, rdN]
    exact ⟨rfl, fun j hj => h j (by omega)⟩
  | succ r ih =>
    intro pl a a' hr h
    rw [rdN, rdN]
    by_cases h1 : nfig B len pl = 0
    · rw [if_pos h1, if_pos h1]
      trivial
    · rw [if_neg h1, if_neg h1]
      generalize (if r = 0 then (59 : Int) else 44) = v
      by_cases h2 : sgb B len (pl + nfig B len pl) v = true
      · rw [if_pos h2, if_pos h2]
        apply ih _ _ _ (by omega)
        intro j hj
        unfold st1
        split
        · rfl
        · exact h j (by omega)
      · rw [if_neg h2, if_neg h2]
        trivial
theorem tellF_ind {F : FD} {c : Int} {a a' : Nat → Int} (h : ∀ j, j < nOf c → a j = a' j) : tellF F c a = tellF F c a' := by
  unfold tellF
  unfold nOf at h
  by_cases h1 : c = 109
  · rw [if_pos h1] at h ⊢
    rw [if_pos h1, h 0 (by omega)]
  rw [if_neg h1] at h ⊢
  rw [if_neg h1]
  by_cases h2 : c = 108
  · rw [if_pos h2] at h ⊢
    rw [if_pos h2, h 0 (by omega), h 1 (by omega)]
  rw [if_neg h2] at h ⊢
  rw [if_neg h2]
  by_cases h3 : c = 119
  · rw [if_pos h3] at h ⊢
    rw [if_pos h3, h 0 (by omega), h 1 (by omega), h 2 (by omega)]
  rw [if_neg h3] at h ⊢
  rw [if_neg h3]
  by_cases h4 : c = 99
  · rw [if_pos h4] at h ⊢
    rw [if_pos h4, h 0 (by omega)]
  rw [if_neg h4] at h ⊢
  rw [if_neg h4]
  by_cases h6 : c = 115
  · rw [if_pos h6] at h ⊢
    rw [if_pos h6, h 0 (by omega)]
  rw [if_neg h6, if_neg h6]
theorem rdAll_ind {B : Nat → Int} {len : Nat} : ∀ (n pl : Nat) (F : FD) (a a' : Nat → Int), rdAll B len n pl F a = rdAll B len n pl F a' := by
  intro n
  induction n with
  | zero => intro pl F a a'; rfl
  | succ n ih =>
    intro pl F a a'
    rw [rdAll, rdAll]
    by_cases h : len ≤ pl
    · rw [if_pos h, if_pos h]
    · rw [if_neg h, if_neg h]
      have key := rdN_ind (B := B) (len := len) (many := nOf (B pl)) (nOf (B pl)) (pl + 1) a a' (Nat.le_refl _) (fun j hj => by omega)
      unfold itemF
      cases h1 : rdN B len (nOf (B pl)) (nOf (B pl)) (pl + 1) a with
      | none =>
        cases h2 : rdN B len (nOf (B pl)) (nOf (B pl)) (pl + 1) a' with
        | none => rfl
        | some qb => rw [h1, h2] at key; exact key.elim
      | some qb =>
        obtain ⟨q, b⟩ := qb
        cases h2 : rdN B len (nOf (B pl)) (nOf (B pl)) (pl + 1) a' with
        | none => rw [h1, h2] at key; exact key.elim
        | some qb' =>
          obtain ⟨q', b'⟩ := qb'
          rw [h1, h2] at key
          obtain ⟨rfl, hb⟩ := key
          dsimp only
          rw [tellF_ind (F := F) hb]
          cases tellF F (B pl) b' with
          | none => rfl
          | some F' => exact ih q F' b b'
def rdF (B : Nat → Int) (len : Nat) : Int × FD := rdAll B len 300 0 F00 (fun _ => 0)
section
variable (σ : Sg) (len : Nat) (B : Nat → Int) (F : FD) (nu : Nat) (W V : Nat → Int) (nk : Nat) (S : Nat → Int → Int) (ns : Nat) (M Y : Nat → Int)
set_option maxRecDepth 100000 in
theorem o_fault (h : RC σ (len, B, F, nu, W, V, nk, S, ns, M, Y)) (ok : okA (len, B, F, nu, W, V, nk, S, ns, M, Y)) : RI mX9_fault 10 [vR 0] σ (fun z σ' => z = (rdF B len).1 ∧ RC σ' (len, B, F, nu, W, V, nk, S, ns, M, Y) ∧ ∀ k, 73 ≤ k → σ' k = σ k) := by
  refine mkRun (by decide +kernel) (Nat.le_of_ble_eq_true rfl) (fun X hF hR => ?_)
  refine jr_aload_n hF dX9_fault_0 (q := 1) rfl rfl ?_
  refine jr_getR (ci := 9) (j := 0) hF dX9_fault_1 (q := 4) rfl rfl rfl fl9_12 ?_
  refine jr_aload_n hF dX9_fault_4 (q := 5) rfl rfl ?_
  refine jr_getR (ci := 9) (j := 2) hF dX9_fault_5 (q := 8) rfl rfl rfl fl9_23 ?_
  refine jr_cV1I hF (c_readInto σ B len h.1 (fun j => σ 3 (j : Int)) (fun j _ => rfl)) dX9_fault_8 (q := 11) rfl lk9_101 vX8_readInto kX8_readInto rfl rfl rfl (by decide) (Nat.le_of_ble_eq_true rfl) (fun z σ1 hz => ?_)
  obtain ⟨g1, g2, g3⟩ := hz
  refine jr_retI hF hR dX9_fault_11 rfl ⟨?_, h.fr ok.2.2.1.2.1 ok.2.2.2.2.2.2.2.1 (fun k hk => g1 k (by omega) (by omega)), fun k hk => g1 k (by omega) (by omega)⟩
  rw [g2, rdAll_ind _ _ _ _ (fun _ => 0)]
  rfl
def layB (B : Nat → Int) (len : Nat) : Prop := (rdF B len).1 = -4 ∧ f_nm (rdF B len).2 ≠ 0 ∧ f_nl (rdF B len).2 ≠ 0
def lyb (B : Nat → Int) (len : Nat) : Bool := decide ((rdF B len).1 = -4 ∧ f_nm (rdF B len).2 ≠ 0 ∧ f_nl (rdF B len).2 ≠ 0)
def an_lay (B : Nat → Int) (len : Nat) : Int := if lyb B len = true then (f_nl (rdF B len).2 : Int) else -2
def nx_lay (A : AS) : AS := if lyb A.2.1 A.1 = true then (A.1, A.2.1, (rdF A.2.1 A.1).2, 0, A.2.2.2.2.1, A.2.2.2.2.2.1, 0, A.2.2.2.2.2.2.2.1, 0, A.2.2.2.2.2.2.2.2.2) else A
set_option maxRecDepth 100000 in
theorem o_lay (h : RC σ (len, B, F, nu, W, V, nk, S, ns, M, Y)) (ok : okA (len, B, F, nu, W, V, nk, S, ns, M, Y)) : RI mX9_lay 10 [vR 0] σ (fun z σ' => z = an_lay B len ∧ RC σ' (nx_lay (len, B, F, nu, W, V, nk, S, ns, M, Y)) ∧ ∀ k, 73 ≤ k → σ' k = σ k) := by
  refine mkRun (by decide +kernel) (Nat.le_of_ble_eq_true rfl) (fun X hF hR => ?_)
  refine jr_aload_n hF dX9_lay_0 (q := 1) rfl rfl ?_
  refine jr_getR (ci := 9) (j := 0) hF dX9_lay_1 (q := 4) rfl rfl rfl fl9_12 ?_
  refine jr_aload_n hF dX9_lay_4 (q := 5) rfl rfl ?_
  refine jr_getR (ci := 9) (j := 2) hF dX9_lay_5 (q := 8) rfl rfl rfl fl9_23 ?_
  refine jr_cV1I hF (c_readInto σ B len h.1 (fun j => σ 3 (j : Int)) (fun j _ => rfl)) dX9_lay_8 (q := 11) rfl lk9_101 vX8_readInto kX8_readInto rfl rfl rfl (by decide) (Nat.le_of_ble_eq_true rfl) (fun z σ1 hz => ?_)
  obtain ⟨g1, g2, g3⟩ := hz
  rw [rdAll_ind _ _ _ _ (fun _ => 0)] at g2 g3
  change z = (rdF B len).1 at g2
  change z = -4 → RdC σ1 14 (rdF B len).2 ∧ okF (rdF B len).2 at g3
  have hno : ¬ ((rdF B len).1 = -4 ∧ f_nm (rdF B len).2 ≠ 0 ∧ f_nl (rdF B len).2 ≠ 0) → Gs X 36 (entryL [vR 0] mX9_lay.2.2.1) [] σ1 := by
    intro hc
    have hl : lyb B len = false := decide_eq_false hc
    refine jr_bipush hF dX9_lay_36 (q := 38) rfl (by decide) (by decide +kernel) ?_
    refine jr_retI hF hR dX9_lay_38 rfl ⟨?_, ?_, fun k hk => g1 k (by omega) (by omega)⟩
    · unfold an_lay
      rw [if_neg (by rw [hl]; decide)]
    · unfold nx_lay
      rw [if_neg (by show ¬ lyb B len = true; rw [hl]; decide)]
      exact h.fr ok.2.2.1.2.1 ok.2.2.2.2.2.2.2.1 (fun k hk => g1 k (by omega) (by omega))
  refine jr_bipush hF dX9_lay_11 (q := 13) rfl (by decide) (by decide +kernel) ?_
  refine jr_icmp_ne hF dX9_lay_13 (q := 16) rfl 36 (by decide) (fun a1 => ?_) (fun a1 => ?_)
  · exact hno (fun hh => a1 (g2.trans hh.1))
  · obtain ⟨hC1, ok1⟩ := g3 a1
    have r1 := hC1.1.1
    have r2 := hC1.1.2.1
    refine jr_aload_n hF dX9_lay_16 (q := 17) rfl rfl ?_
    refine jr_getR (ci := 9) (j := 2) hF dX9_lay_17 (q := 20) rfl rfl rfl fl9_23 ?_
    refine jr_getI (ci := 4) (j := 0) hF 0 rfl dX9_lay_20 (q := 23) rfl rfl rfl fl9_105 ?_
    rw [r1]
    refine jr_if_eq hF dX9_lay_23 (q := 26) rfl 36 (by decide) (fun a2 => ?_) (fun a2 => ?_)
    · exact hno (fun hh => hh.2.1 (by omega))
    · refine jr_aload_n hF dX9_lay_26 (q := 27) rfl rfl ?_
      refine jr_getR (ci := 9) (j := 2) hF dX9_lay_27 (q := 30) rfl rfl rfl fl9_23 ?_
      refine jr_getI (ci := 4) (j := 1) hF 1 rfl dX9_lay_30 (q := 33) rfl rfl rfl fl9_108 ?_
      rw [r2]
      refine jr_if_ne hF dX9_lay_33 (q := 36) rfl 39 (by decide) (fun a3 => ?_) (fun a3 => ?_)
      · have hl : lyb B len = true := decide_eq_true ⟨by omega, by omega, by omega⟩
        refine jr_aload_n hF dX9_lay_39 (q := 40) rfl rfl ?_
        refine jr_getR (ci := 9) (j := 1) hF dX9_lay_40 (q := 43) rfl rfl rfl fl9_19 ?_
        refine jr_aload_n hF dX9_lay_43 (q := 44) rfl rfl ?_
        refine jr_getR (ci := 9) (j := 2) hF dX9_lay_44 (q := 47) rfl rfl rfl fl9_23 ?_
        refine jr_cV1V hF (c_copyFrom σ1 4 14 (Or.inl rfl) (Or.inr rfl) (by decide) _ hC1.1 ok1) dX9_lay_47 (q := 50) rfl lk9_111 vX4_copyFrom kX4_copyFrom rfl rfl rfl (by decide) (Nat.le_of_ble_eq_true rfl) (fun σ2 hz => ?_)
        obtain ⟨j1, j2⟩ := hz
        refine jr_aload_n hF dX9_lay_50 (q := 51) rfl rfl ?_
        refine jr_getR (ci := 9) (j := 7) hF dX9_lay_51 (q := 54) rfl rfl rfl fl9_57 ?_
        refine jr_iconst hF dX9_lay_54 (q := 55) rfl (by decide) ?_
        refine jr_putI (ci := 7) (j := 0) hF 0 rfl dX9_lay_55 (q := 58) rfl rfl rfl fp9_115 ?_
        refine jr_aload_n hF dX9_lay_58 (q := 59) rfl rfl ?_
        refine jr_getR (ci := 9) (j := 8) hF dX9_lay_59 (q := 62) rfl rfl rfl fl9_64 ?_
        refine jr_iconst hF dX9_lay_62 (q := 63) rfl (by decide) ?_
        refine jr_putI (ci := 0) (j := 0) hF 0 rfl dX9_lay_63 (q := 66) rfl rfl rfl fp9_118 ?_
        refine jr_aload_n hF dX9_lay_66 (q := 67) rfl rfl ?_
        refine jr_getR (ci := 9) (j := 9) hF dX9_lay_67 (q := 70) rfl rfl rfl fl9_71 ?_
        refine jr_iconst hF dX9_lay_70 (q := 71) rfl (by decide) ?_
        refine jr_putI (ci := 6) (j := 0) hF 0 rfl dX9_lay_71 (q := 74) rfl rfl rfl fp9_119 ?_
        refine jr_aload_n hF dX9_lay_74 (q := 75) rfl rfl ?_
        refine jr_getR (ci := 9) (j := 1) hF dX9_lay_75 (q := 78) rfl rfl rfl fl9_19 ?_
        refine jr_getI (ci := 4) (j := 1) hF 1 rfl dX9_lay_78 (q := 81) rfl rfl rfl fl9_108 ?_
        have e2 := j1.2.1
        refine jr_retI hF hR dX9_lay_81 rfl ⟨?_, ?_, fun k hk => ?_⟩
        · unfold an_lay
          rw [if_pos hl, up_ne (by decide), up_ne (by decide), up_ne (by decide)]
          exact e2
        · unfold nx_lay
          rw [if_pos (show lyb B len = true from hl)]
          obtain ⟨t, -, -, -, -⟩ := h
          refine ⟨t.fr ?_ ?_, j1.fr ok1.2.1 (fun k l1 l2 => by rw [up_ne (by omega), up_ne (by omega), up_ne (by omega)]), ⟨?_, fun j hj => by omega⟩, ⟨?_, fun j hj => by omega⟩, ?_, fun j hj => by omega⟩
          · rw [up_ne (by decide), up_ne (by decide), up_ne (by decide), j2 1 (by omega), g1 1 (by decide) (by omega)]
          · rw [up_ne (by decide), up_ne (by decide), up_ne (by decide), j2 2 (by omega), g1 2 (by decide) (by omega)]
          · simp [up]
          · simp [up]
          · simp [up]
        · rw [up_ne (by omega), up_ne (by omega), up_ne (by omega), j2 k (by omega), g1 k (by omega) (by omega)]
      · exact hno (fun hh => hh.2.2 (by omega))
end

