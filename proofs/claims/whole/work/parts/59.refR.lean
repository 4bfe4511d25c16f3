theorem ub_byte (X : Int64) : (X &&& Int64.ofInt 255).toInt = ub ((Int8.ofInt (Int32.ofInt X.toInt).toInt).toInt) := by
  have h1 : (X &&& Int64.ofInt 255).toInt = X.toInt % 256 := by
    have e1 : (X &&& Int64.ofInt 255).toInt = (X.toBitVec &&& 255#64).toInt := by
      rw [← Int64.toInt_toBitVec, Int64.toBitVec_and]
      rfl
    have e2 : (X.toBitVec &&& 255#64).toNat = X.toBitVec.toNat % 256 := by
      rw [BitVec.toNat_and]
      exact Nat.and_two_pow_sub_one_eq_mod X.toBitVec.toNat 8
    have e3 : X.toInt = X.toBitVec.toInt := (Int64.toInt_toBitVec X).symm
    have h64 := X.toBitVec.isLt
    rw [e1, e3, BitVec.toInt_eq_toNat_cond, BitVec.toInt_eq_toNat_cond, e2]
    rw [if_pos (by omega)]
    split <;> omega
  have h2 : (Int8.ofInt (Int32.ofInt X.toInt).toInt).toInt = X.toInt.bmod 256 := by
    rw [Int8.toInt_ofInt, Int32.toInt_ofInt]
    exact Int.bmod_bmod_of_dvd (by decide)
  rw [h1, h2]
  unfold ub Int.bmod
  simp only []
  split <;> split <;> omega
section
variable (σ : Sg) (len : Nat) (B : Nat → Int) (F : FD) (nu : Nat) (W V : Nat → Int) (nk : Nat) (S : Nat → Int → Int) (ns : Nat) (M Y : Nat → Int)
set_option maxRecDepth 100000 in
theorem m_write (h : RM σ (len, B, F, nu, W, V, nk, S, ns, M, Y)) (ok : okA (len, B, F, nu, W, V, nk, S, ns, M, Y)) (n v : Int) : RI mX10_write 10 [vR 73, vI n, vL v] σ (fun z σ' => z = an_write len n ∧ RM σ' (nx_write (len, B, F, nu, W, V, nk, S, ns, M, Y) n v) ∧ ∀ k, k < 73 → σ' k = σ k) := by
  have h0 := h
  have h300 : len ≤ 300 := ok.1
  obtain ⟨⟨t1, t3⟩, hC, ⟨c1, c2⟩, ⟨k1, k2⟩, s1, s2⟩ := h
  refine mkRun (by decide +kernel) (Nat.le_of_ble_eq_true rfl) (fun X hF hR => ?_)
  refine jr_iload_n hF dX10_write_0 (q := 1) rfl rfl ?_
  refine jr_i2l hF dX10_write_1 (q := 2) rfl ?_
  refine jr_lconst hF 1 dX10_write_2 (q := 3) rfl (by decide) (by decide +kernel) ?_
  refine jr_ldc2 hF 8 dX10_write_3 (q := 6) rfl kl10_77 (by decide) (by decide +kernel) ?_
  refine jr_cS3I hF (m_in σ n 1 8) dX10_write_6 (q := 9) rfl lk10_79 vX10_in kX10_in (by decide) (Nat.le_of_ble_eq_true rfl) (fun z σ1 hz => ?_)
  obtain ⟨rfl, rfl⟩ := hz
  refine jr_if_ne hF dX10_write_9 (q := 12) rfl 14 (by decide) (fun a1 => ?_) (fun a1 => ?_)
  · have b1 : 1 ≤ n ∧ n ≤ 8 := Classical.byContradiction fun h => a1 (by rw [if_neg h])
    obtain ⟨m, rfl⟩ : ∃ m : Nat, n = (m : Int) := ⟨n.toNat, by omega⟩
    unfold an_write at hR
    rw [if_neg (by omega)] at hR
    refine jr_aload_n hF dX10_write_14 (q := 15) rfl rfl ?_
    refine jr_getI (ci := 10) (j := 0) hF 0 rfl dX10_write_15 (q := 18) rfl rfl rfl fl10_83 ?_
    rw [t1]
    refine jr_iload_n hF dX10_write_18 (q := 19) rfl rfl ?_
    refine jr_iadd hF dX10_write_19 (q := 20) rfl (by omega) ?_
    refine jr_sipush hF dX10_write_20 (q := 23) rfl (by decide) (by decide +kernel) ?_
    refine jr_icmp_le hF dX10_write_23 (q := 26) rfl 29 (by decide) (fun a2 => ?_) (fun a2 => ?_)
    · rw [if_neg (by omega)] at hR
      refine jr_iload_n hF dX10_write_29 (q := 30) rfl rfl ?_
      refine jr_iconst hF dX10_write_30 (q := 31) rfl (by decide) ?_
      refine jr_isub hF dX10_write_31 (q := 32) rfl (by omega) ?_
      refine jr_istore hF dX10_write_32 (q := 34) rfl (by decide) rfl ?_
      refine gs_down (α := Sg × Nat) (fun a => [some (vR 73), some (vI (m : Int)), some (vL v), none, some (vI ((a.2 : Int) - 1))]) (fun a => a.1) (fun k a => a.2 = k ∧ a.2 ≤ m ∧ a.1 73 0 = ((len + (m - a.2) : Nat) : Int) ∧ (∀ j : Nat, j < len + (m - a.2) → a.1 74 (j : Int) = ub (Bap B len m v j)) ∧ (∀ c, c ≠ 73 → c ≠ 74 → a.1 c = σ c) ∧ ∀ j, j ≠ 0 → a.1 73 j = σ 73 j) (fun a hI => ?_) (fun k a hI ih => ?_) m (σ, m) ⟨rfl, Nat.le_refl _, by show σ 73 0 = ((len + (m - m) : Nat) : Int); rw [t1, Nat.sub_self]; rfl, fun j hj => by
        show σ 74 (j : Int) = _
        replace hj : j < len + (m - m) := hj
        unfold Bap
        rw [if_pos (by omega)]
        exact t3 j (by omega), fun _ _ _ => rfl, fun _ _ => rfl⟩
      · obtain ⟨σ1, k⟩ := a
        obtain ⟨i1, i2, i3, i4, i5, i6⟩ := hI
        dsimp only at i1 i2 i3 i4 i5 i6 ⊢
        subst i1
        refine jr_iload hF dX10_write_34 (q := 36) rfl rfl ?_
        refine jr_if_lt hF dX10_write_36 (q := 39) rfl 76 (by decide) (fun a3 => ?_) (fun a3 => ?_)
        · refine jr_aload_n hF dX10_write_76 (q := 77) rfl rfl ?_
          refine jr_getI (ci := 10) (j := 0) hF 0 rfl dX10_write_77 (q := 80) rfl rfl rfl fl10_83 ?_
          rw [i3]
          refine jr_retI hF hR dX10_write_80 rfl ⟨by omega, ?_, fun k hk => i5 k (by omega) (by omega)⟩
          have e : nx_write (len, B, F, nu, W, V, nk, S, ns, M, Y) (m : Int) v = (len + m, Bap B len m v, F, nu, W, V, nk, S, ns, M, Y) := by
            unfold nx_write
            rw [if_pos ⟨b1, a2⟩, show ((m : Int)).toNat = m by omega]
          rw [e]
          refine ⟨⟨?_, fun k hk => ?_⟩, hC.fr (fun k l1 l2 => i5 k (by omega) (by omega)), ⟨?_, fun j hj => ?_⟩, ⟨?_, fun k hk => ?_⟩, ?_, fun j hj => ?_⟩
          · rw [i3]; rfl
          · exact i4 k hk
          · rw [i6 11 (by decide)]; exact c1
          · rw [i5 83 (by decide) (by decide)]; exact c2 j hj
          · rw [i6 10 (by decide)]; exact k1
          · rw [i5 80 (by decide) (by decide), i5 81 (by decide) (by decide), i5 82 (by decide) (by decide)]; exact k2 k hk
          · rw [i6 13 (by decide)]; exact s1
          · rw [i5 84 (by decide) (by decide), i5 85 (by decide) (by decide)]; exact s2 j hj
        · omega
      · obtain ⟨σ1, k'⟩ := a
        obtain ⟨i1, i2, i3, i4, i5, i6⟩ := hI
        dsimp only at i1 i2 i3 i4 i5 i6 ⊢
        subst i1
        have eb : ub (Bap B len m v (len + (m - (k + 1)))) = (Int64.ofInt (Int64.ofInt v >>> ((Int32.ofInt (8 * (k : Int))).toInt64 &&& 63)).toInt &&& Int64.ofInt 255).toInt := by
          unfold Bap bv
          rw [if_neg (by omega), show m - 1 - (len + (m - (k + 1)) - len) = k by omega, Int64.ofInt_toInt]
          exact (ub_byte _).symm
        have hbr : 0 ≤ ub (Bap B len m v (len + (m - (k + 1)))) ∧ ub (Bap B len m v (len + (m - (k + 1)))) ≤ 255 := by
          have : -128 ≤ Bap B len m v (len + (m - (k + 1))) ∧ Bap B len m v (len + (m - (k + 1))) ≤ 127 := by
            unfold Bap bv
            rw [if_neg (by omega)]
            exact i8_le _
          unfold ub
          split <;> omega
        have ih1 := ih (up (up σ1 74 ((len + (m - (k + 1)) : Nat) : Int) (ub (Bap B len m v (len + (m - (k + 1)))))) 73 0 ((len + (m - k) : Nat) : Int), k) ⟨rfl, by show k ≤ m; omega, by show up (up σ1 74 ((len + (m - (k + 1)) : Nat) : Int) (ub (Bap B len m v (len + (m - (k + 1)))))) 73 0 ((len + (m - k) : Nat) : Int) 73 0 = ((len + (m - k) : Nat) : Int); simp [up], fun j hj => by
          show up (up σ1 74 ((len + (m - (k + 1)) : Nat) : Int) (ub (Bap B len m v (len + (m - (k + 1)))))) 73 0 ((len + (m - k) : Nat) : Int) 74 (j : Int) = _
          replace hj : j < len + (m - k) := hj
          rw [up_ne (by decide), up_nat]
          by_cases ej : j = len + (m - (k + 1))
          · rw [if_pos ej, ej]
          · rw [if_neg ej]; exact i4 j (by omega), fun c n1 n2 => by
          show up (up σ1 74 ((len + (m - (k + 1)) : Nat) : Int) (ub (Bap B len m v (len + (m - (k + 1)))))) 73 0 ((len + (m - k) : Nat) : Int) c = _
          rw [up_ne n1, up_ne n2]; exact i5 c n1 n2, fun j hj => by
          show up (up σ1 74 ((len + (m - (k + 1)) : Nat) : Int) (ub (Bap B len m v (len + (m - (k + 1)))))) 73 0 ((len + (m - k) : Nat) : Int) 73 j = _
          rw [← i6 j hj]
          simp [up, hj]⟩
        dsimp only at ih1
        refine jr_iload hF dX10_write_34 (q := 36) rfl rfl ?_
        refine jr_if_lt hF dX10_write_36 (q := 39) rfl 76 (by decide) (fun a3 => ?_) (fun a3 => ?_)
        · omega
        · refine jr_aload_n hF dX10_write_39 (q := 40) rfl rfl ?_
          refine jr_getR (ci := 10) (j := 1) hF dX10_write_40 (q := 43) rfl rfl rfl fl10_7 ?_
          refine jr_aload_n hF dX10_write_43 (q := 44) rfl rfl ?_
          refine jr_getI (ci := 10) (j := 0) hF 0 rfl dX10_write_44 (q := 47) rfl rfl rfl fl10_83 ?_
          rw [i3, show ((k + 1 : Nat) : Int) - 1 = (k : Int) by omega]
          refine jr_lload_n hF dX10_write_47 (q := 48) rfl rfl ?_
          refine jr_bipush hF dX10_write_48 (q := 50) rfl (by decide) (by decide +kernel) ?_
          refine jr_iload hF dX10_write_50 (q := 52) rfl rfl ?_
          refine jr_imul hF dX10_write_52 (q := 53) rfl (by omega) ?_
          refine jr_lshr hF dX10_write_53 (q := 54) rfl ?_
          refine jr_ldc2 hF 255 dX10_write_54 (q := 57) rfl kl10_87 (by decide) (by decide +kernel) ?_
          refine jr_land hF dX10_write_57 (q := 58) rfl ?_
          rw [← eb]
          refine jr_l2i hF dX10_write_58 (q := 59) rfl (by omega) ?_
          refine jr_iast hF dX10_write_59 (q := 60) rfl rfl (by omega) ?_
          refine jr_aload_n hF dX10_write_60 (q := 61) rfl rfl ?_
          refine jr_dup hF dX10_write_61 (q := 62) rfl rfl ?_
          refine jr_getI (ci := 10) (j := 0) hF 0 rfl dX10_write_62 (q := 65) rfl rfl rfl fl10_83 ?_
          rw [up_ne (show (73 : Nat) ≠ 74 by decide), i3]
          refine jr_iconst hF dX10_write_65 (q := 66) rfl (by decide) ?_
          refine jr_iadd hF dX10_write_66 (q := 67) rfl (by omega) ?_
          rw [show ((len + (m - (k + 1)) : Nat) : Int) + 1 = ((len + (m - k) : Nat) : Int) by omega]
          refine jr_putI (ci := 10) (j := 0) hF 0 rfl dX10_write_67 (q := 70) rfl rfl rfl fp10_83 ?_
          refine jr_iinc hF dX10_write_70 (q := 73) rfl (by decide) rfl rfl (by omega) ?_
          refine jr_goto hF dX10_write_73 34 (by decide) ?_
          exact ih1
    · rw [if_pos (by omega)] at hR
      refine jr_bipush hF dX10_write_26 (q := 28) rfl (by decide) (by decide +kernel) ?_
      refine jr_retI hF hR dX10_write_28 rfl ⟨rfl, ?_, fun k hk => rfl⟩
      unfold nx_write
      rw [if_neg (by show ¬ (_ ∧ (len : Int) + _ ≤ 300); omega)]
      exact h0
  · have b1 : ¬ (1 ≤ n ∧ n ≤ 8) := fun h => by rw [if_pos h] at a1; omega
    refine jr_iconst hF dX10_write_12 (q := 13) rfl (by decide) ?_
    refine jr_retI hF hR dX10_write_13 rfl ⟨?_, ?_, fun k hk => rfl⟩
    · unfold an_write
      rw [if_pos b1]
    · unfold nx_write
      rw [if_neg (fun h => b1 h.1)]
      exact h0
end

