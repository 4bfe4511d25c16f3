/-! ===== what is true of a state stays true ===== -/
theorem rdAll_ok {B : Nat → Int} {len : Nat} : ∀ (n pl : Nat) (F : FD) (a : Nat → Int), okF F → FZ F → okF (rdAll B len n pl F a).2 := by
  intro n
  induction n with
  | zero => intro pl F a h _; exact h
  | succ n ih =>
    intro pl F a h hz
    rw [rdAll]
    by_cases hl : len ≤ pl
    · rw [if_pos hl]; exact h
    · rw [if_neg hl]
      cases hq : itemF B len pl F a with
      | none => exact h
      | some qb =>
        obtain ⟨q, F', b⟩ := qb
        have := itemF_ok (by omega) h hz hq
        exact ih q F' b this.2.2.1 this.2.2.2
section
variable (len : Nat) (B : Nat → Int) (F : FD) (nu : Nat) (W V : Nat → Int) (nk : Nat) (S : Nat → Int → Int) (ns : Nat) (M Y : Nat → Int)
theorem k_write (ok : okA (len, B, F, nu, W, V, nk, S, ns, M, Y)) (n v : Int) : okA (nx_write (len, B, F, nu, W, V, nk, S, ns, M, Y) n v) := by
  unfold nx_write
  split
  · rename_i hc
    replace hc : (1 ≤ n ∧ n ≤ 8) ∧ (len : Int) + n ≤ 300 := hc
    refine ⟨by show len + n.toNat ≤ 300; omega, fun k hk => ?_, ok.2.2⟩
    show -128 ≤ Bap B len n.toNat v k ∧ Bap B len n.toNat v k ≤ 127
    unfold Bap
    by_cases e : k < len
    · rw [if_pos e]; exact ok.2.1 k e
    · rw [if_neg e]
      unfold bv
      exact i8_le _
  · exact ok
theorem k_wipe (ok : okA (len, B, F, nu, W, V, nk, S, ns, M, Y)) : okA (nx_wipe (len, B, F, nu, W, V, nk, S, ns, M, Y)) := ⟨Nat.zero_le _, fun k hk => absurd hk (Nat.not_lt_zero k), ok.2.2⟩
theorem k_lay (ok : okA (len, B, F, nu, W, V, nk, S, ns, M, Y)) : okA (nx_lay (len, B, F, nu, W, V, nk, S, ns, M, Y)) := by
  unfold nx_lay
  split
  · rename_i hc
    have hd := of_decide_eq_true (show decide ((rdF B len).1 = -4 ∧ f_nm (rdF B len).2 ≠ 0 ∧ f_nl (rdF B len).2 ≠ 0) = true from hc)
    refine ⟨ok.1, ok.2.1, rdAll_ok 300 0 F00 _ okF_00 FZ_00, ?_, ?_, Nat.zero_le _, fun j hj => absurd hj (Nat.not_lt_zero j), Nat.zero_le _, fun j hj => absurd hj (Nat.not_lt_zero j), Nat.zero_le _, fun j hj => absurd hj (Nat.not_lt_zero j)⟩
    · show 1 ≤ f_nm (rdF B len).2
      omega
    · show 1 ≤ f_nl (rdF B len).2
      omega
  · exact ok
theorem vld_get {F : FD} (ok : okF F) {w : Int} (hw : (0 ≤ w ∧ w < f_nl F) ∨ w = 5 ∨ w = 6) : vld (f_nl F) w (f_get F w) := by
  obtain ⟨o1, o2, o3, o4, o5, o6, o7, o8⟩ := ok
  unfold vld f_get
  by_cases e5 : w = 5
  · rw [if_pos e5]
    omega
  · rw [if_neg e5]
    by_cases e6 : w = 6
    · rw [if_pos e6]
      omega
    · rw [if_neg e6]
      have := o6 w.toNat (by omega)
      omega
theorem k_chg (ok : okA (len, B, F, nu, W, V, nk, S, ns, M, Y)) (w v : Int) (hv : vld (f_nl F) w v) : okA (nx_chg (len, B, F, nu, W, V, nk, S, ns, M, Y) w v) := by
  obtain ⟨p1, p2, p3, p4, p5, p6, p7, p8, p9, p10, p11⟩ := ok
  have hw : (0 ≤ w ∧ w < f_nl F) ∨ w = 5 ∨ w = 6 := by unfold vld at hv; omega
  have hg := vld_get p3 hw
  obtain ⟨n1, n2⟩ := f_set_nl F w v
  refine ⟨p1, p2, okF_set p3 hv, ?_, ?_, ?_, fun j hj => ?_, p8, fun k hk => ?_, p10, fun j hj => ?_⟩
  · show 1 ≤ f_nm (f_set F w v); rw [n2]; exact p4
  · show 1 ≤ f_nl (f_set F w v); rw [n1]; exact p5
  · show nn8 nu ≤ 8
    unfold nn8
    split <;> omega
  · show vld (f_nl (f_set F w v)) (nt nu W w j) (nt nu V (f_get F w) j)
    rw [n1]
    replace hj : j < nn8 nu := hj
    unfold nn8 at hj
    unfold nt st1
    by_cases e8 : nu < 8
    · rw [if_pos e8] at hj
      rw [if_pos e8, if_pos e8]
      by_cases ej : j = nu
      · rw [if_pos ej, if_pos ej]; exact hg
      · rw [if_neg ej, if_neg ej]; exact p7 j (by omega)
    · rw [if_neg e8] at hj
      rw [if_neg e8, if_neg e8]
      by_cases ej : j = 7
      · rw [if_pos ej, if_pos ej]; exact hg
      · rw [if_neg ej, if_neg ej]; exact p7 (j + 1) (by omega)
  · show (∀ i : Nat, i < f_nl (f_set F w v) → _) ∧ _
    rw [n1]
    exact p9 k hk
  · show (0 ≤ M j ∧ M j < f_nm (f_set F w v)) ∧ _
    rw [n2]
    exact p11 j hj
theorem k_undo (ok : okA (len, B, F, nu, W, V, nk, S, ns, M, Y)) : okA (nx_undo (len, B, F, nu, W, V, nk, S, ns, M, Y)) := by
  unfold nx_undo
  split
  · exact ok
  · rename_i hc
    replace hc : ¬ nu = 0 := hc
    obtain ⟨p1, p2, p3, p4, p5, p6, p7, p8, p9, p10, p11⟩ := ok
    have hv := p7 (nu - 1) (by omega)
    obtain ⟨n1, n2⟩ := f_set_nl F (W (nu - 1)) (V (nu - 1))
    refine ⟨p1, p2, okF_set p3 hv, ?_, ?_, ?_, fun j hj => ?_, p8, fun k hk => ?_, p10, fun j hj => ?_⟩
    · show 1 ≤ f_nm (f_set F (W (nu - 1)) (V (nu - 1))); rw [n2]; exact p4
    · show 1 ≤ f_nl (f_set F (W (nu - 1)) (V (nu - 1))); rw [n1]; exact p5
    · show nu - 1 ≤ 8
      omega
    · show vld (f_nl (f_set F (W (nu - 1)) (V (nu - 1)))) (W j) (V j)
      replace hj : j < nu - 1 := hj
      rw [n1]; exact p7 j (by omega)
    · show (∀ i : Nat, i < f_nl (f_set F (W (nu - 1)) (V (nu - 1))) → _) ∧ _
      rw [n1]
      exact p9 k hk
    · show (0 ≤ M j ∧ M j < f_nm (f_set F (W (nu - 1)) (V (nu - 1)))) ∧ _
      rw [n2]
      exact p11 j hj
theorem k_keep (ok : okA (len, B, F, nu, W, V, nk, S, ns, M, Y)) : okA (nx_keep (len, B, F, nu, W, V, nk, S, ns, M, Y)) := by
  unfold nx_keep
  split
  · exact ok
  · rename_i hc
    replace hc : ¬ nk = 2 := hc
    obtain ⟨p1, p2, p3, p4, p5, p6, p7, p8, p9, p10, p11⟩ := ok
    refine ⟨p1, p2, p3, p4, p5, p6, p7, by show nk + 1 ≤ 2; omega, fun k hk => ?_, p10, p11⟩
    replace hk : k < nk + 1 := hk
    dsimp only
    by_cases e : k = nk
    · rw [if_pos e]
      obtain ⟨o1, o2, o3, o4, o5, o6, o7, o8⟩ := p3
      refine ⟨fun i hi => ?_, ?_, ?_⟩
      · unfold f_get
        rw [if_neg (by omega), if_neg (by omega), show ((i : Int)).toNat = i by omega]
        exact o6 i hi
      · exact o7
      · exact o8
    · rw [if_neg e]; exact p9 k (by omega)
theorem k_back (ok : okA (len, B, F, nu, W, V, nk, S, ns, M, Y)) : okA (nx_back (len, B, F, nu, W, V, nk, S, ns, M, Y)) := by
  unfold nx_back
  split
  · exact ok
  · rename_i hc
    replace hc : ¬ nk = 0 := hc
    obtain ⟨p1, p2, p3, p4, p5, p6, p7, p8, p9, p10, p11⟩ := ok
    obtain ⟨o1, o2, o3, o4, o5, o6, o7, o8⟩ := p3
    obtain ⟨q1, q2, q3⟩ := p9 (nk - 1) (by omega)
    exact ⟨p1, p2, ⟨o1, o2, o3, o4, o5, q1, q2, q3⟩, p4, p5, Nat.zero_le _, fun j hj => absurd hj (Nat.not_lt_zero j), by show nk - 1 ≤ 2; omega, fun k hk => p9 k (by replace hk : k < nk - 1 := hk; omega), p10, p11⟩
theorem k_seen (ok : okA (len, B, F, nu, W, V, nk, S, ns, M, Y)) (m p : Int) : okA (nx_seen (len, B, F, nu, W, V, nk, S, ns, M, Y) m p) := by
  unfold nx_seen
  split
  · rename_i hc
    replace hc : ((0 ≤ m ∧ m < f_nm F) ∧ 0 ≤ p ∧ p ≤ 10) ∧ ns ≠ 6 := hc
    obtain ⟨p1, p2, p3, p4, p5, p6, p7, p8, p9, p10, p11⟩ := ok
    refine ⟨p1, p2, p3, p4, p5, p6, p7, p8, p9, by show ns + 1 ≤ 6; omega, fun j hj => ?_⟩
    replace hj : j < ns + 1 := hj
    show (0 ≤ st1 M ns m j ∧ st1 M ns m j < f_nm F) ∧ 0 ≤ st1 Y ns p j ∧ st1 Y ns p j ≤ 10
    unfold st1
    by_cases e : j = ns
    · rw [if_pos e, if_pos e]; exact hc.1
    · rw [if_neg e, if_neg e]; exact p11 j (by omega)
  · exact ok
theorem k_forget (ok : okA (len, B, F, nu, W, V, nk, S, ns, M, Y)) : okA (nx_forget (len, B, F, nu, W, V, nk, S, ns, M, Y)) := by
  obtain ⟨p1, p2, p3, p4, p5, p6, p7, p8, p9, p10, p11⟩ := ok
  exact ⟨p1, p2, p3, p4, p5, p6, p7, p8, p9, Nat.zero_le _, fun j hj => absurd hj (Nat.not_lt_zero j)⟩
end

