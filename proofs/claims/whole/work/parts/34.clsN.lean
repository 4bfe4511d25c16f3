/-! ===== the state that class and reference share; the class's calls ===== -/
/-- length and bytes of the text; the fair; how many changes, which, what was; how many kept, their laws; how many seen, of whom, years -/
abbrev AS : Type := Nat × (Nat → Int) × FD × Nat × (Nat → Int) × (Nat → Int) × Nat × (Nat → Int → Int) × Nat × (Nat → Int) × (Nat → Int)
def KW (σ : Sg) (nl n : Nat) (S : Nat → Int → Int) : Prop := σ 69 0 = (n : Int) ∧ ∀ k : Nat, k < n → (∀ i : Nat, i < nl → σ (71 + k) (i : Int) = S k (i : Int)) ∧ σ (71 + k) 5 = S k 5 ∧ σ (71 + k) 6 = S k 6
def RC (σ : Sg) (A : AS) : Prop := match A with
  | (len, B, F, nu, W, V, nk, S, ns, M, Y) => TxC σ B len ∧ RepC σ 4 F ∧ CH σ nu W V ∧ KW σ (f_nl F) nk S ∧ SE σ ns M Y
def vld (nl : Nat) (w v : Int) : Prop := (0 ≤ w ∧ w < nl ∧ 1 ≤ v ∧ v ≤ 10) ∨ (w = 5 ∧ 0 ≤ v ∧ v ≤ 2) ∨ (w = 6 ∧ 1 ≤ v ∧ v ≤ 3)
def okA (A : AS) : Prop := match A with
  | (len, B, F, nu, W, V, nk, S, ns, M, Y) => len ≤ 300 ∧ (∀ k, k < len → -128 ≤ B k ∧ B k ≤ 127) ∧ okF F ∧ 1 ≤ f_nm F ∧ 1 ≤ f_nl F ∧ nu ≤ 8 ∧ (∀ j, j < nu → vld (f_nl F) (W j) (V j)) ∧ nk ≤ 2 ∧ (∀ k : Nat, k < nk → (∀ i : Nat, i < f_nl F → 1 ≤ S k (i : Int) ∧ S k (i : Int) ≤ 10) ∧ (0 ≤ S k 5 ∧ S k 5 ≤ 2) ∧ (1 ≤ S k 6 ∧ S k 6 ≤ 3)) ∧ ns ≤ 6 ∧ ∀ j, j < ns → (0 ≤ M j ∧ M j < f_nm F) ∧ 0 ≤ Y j ∧ Y j ≤ 10
theorem RC.fr {σ σ' : Sg} {A : AS} (h : RC σ A) (h5 : f_nl A.2.2.1 ≤ 5) (hk : A.2.2.2.2.2.2.1 ≤ 2) (hf : ∀ k, k = 1 ∨ k = 2 ∨ (4 ≤ k ∧ k ≤ 13) ∨ (63 ≤ k ∧ k ≤ 72) → σ' k = σ k) : RC σ' A := by
  obtain ⟨len, B, F, nu, W, V, nk, S, ns, M, Y⟩ := A
  obtain ⟨⟨t1, t2, t3⟩, hC, ⟨c1, c2⟩, ⟨k1, k2⟩, s1, s2⟩ := h
  replace hk : nk ≤ 2 := hk
  refine ⟨⟨?_, t2, fun k hk => ?_⟩, hC.fr h5 (fun k l1 l2 => hf k (by omega)), ⟨?_, fun j hj => ?_⟩, ⟨?_, fun k hk => ?_⟩, ?_, fun j hj => ?_⟩
  · rw [hf 1 (by omega)]; exact t1
  · rw [hf 2 (by omega)]; exact t3 k hk
  · rw [hf 66 (by omega)]; exact c1
  · rw [hf 67 (by omega), hf 68 (by omega)]; exact c2 j hj
  · rw [hf 69 (by omega)]; exact k1
  · rw [hf (71 + k) (by omega)]; exact k2 k hk
  · rw [hf 63 (by omega)]; exact s1
  · rw [hf 64 (by omega), hf 65 (by omega)]; exact s2 j hj
section
variable (σ : Sg) (len : Nat) (B : Nat → Int) (F : FD) (nu : Nat) (W V : Nat → Int) (nk : Nat) (S : Nat → Int → Int) (ns : Nat) (M Y : Nat → Int)
def an_write (len : Nat) (n : Int) : Int := if ¬ (1 ≤ n ∧ n ≤ 8) then -1 else if 300 < (len : Int) + n then -3 else (len : Int) + n
def nx_write (A : AS) (n v : Int) : AS := if (1 ≤ n ∧ n ≤ 8) ∧ (A.1 : Int) + n ≤ 300 then (A.1 + n.toNat, Bap A.2.1 A.1 n.toNat v, A.2.2) else A
set_option maxRecDepth 100000 in
theorem o_write (h : RC σ (len, B, F, nu, W, V, nk, S, ns, M, Y)) (ok : okA (len, B, F, nu, W, V, nk, S, ns, M, Y)) (n v : Int) : RI mX9_write 10 [vR 0, vI n, vL v] σ (fun z σ' => z = an_write len n ∧ RC σ' (nx_write (len, B, F, nu, W, V, nk, S, ns, M, Y) n v) ∧ ∀ k, 73 ≤ k → σ' k = σ k) := by
  have hT := h.1
  obtain ⟨t1, t2, t3⟩ := hT
  refine mkRun (by decide +kernel) (Nat.le_of_ble_eq_true rfl) (fun X hF hR => ?_)
  refine jr_iload_n hF dX9_write_0 (q := 1) rfl rfl ?_
  refine jr_iconst hF dX9_write_1 (q := 2) rfl (by decide) ?_
  refine jr_bipush hF dX9_write_2 (q := 4) rfl (by decide) (by decide +kernel) ?_
  refine jr_cS3I hF (c_isWithin σ n 1 8) dX9_write_4 (q := 7) rfl lk9_90 vX9_isWithin kX9_isWithin (by decide) (Nat.le_of_ble_eq_true rfl) (fun z σ1 hz => ?_)
  obtain ⟨rfl, rfl⟩ := hz
  refine jr_if_ne hF dX9_write_7 (q := 10) rfl 12 (by decide) (fun a1 => ?_) (fun a1 => ?_)
  · have b1 : 1 ≤ n ∧ n ≤ 8 := Classical.byContradiction fun h => a1 (by rw [if_neg h])
    obtain ⟨m, rfl⟩ : ∃ m : Nat, n = (m : Int) := ⟨n.toNat, by omega⟩
    refine jr_aload_n hF dX9_write_12 (q := 13) rfl rfl ?_
    refine jr_getR (ci := 9) (j := 0) hF dX9_write_13 (q := 16) rfl rfl rfl fl9_12 ?_
    refine jr_getI (ci := 8) (j := 0) hF 0 rfl dX9_write_16 (q := 19) rfl rfl rfl fl9_93 ?_
    rw [t1]
    refine jr_iload_n hF dX9_write_19 (q := 20) rfl rfl ?_
    refine jr_iadd hF dX9_write_20 (q := 21) rfl (by omega) ?_
    refine jr_sipush hF dX9_write_21 (q := 24) rfl (by decide) (by decide +kernel) ?_
    refine jr_icmp_le hF dX9_write_24 (q := 27) rfl 30 (by decide) (fun a2 => ?_) (fun a2 => ?_)
    · refine jr_aload_n hF dX9_write_30 (q := 31) rfl rfl ?_
      refine jr_getR (ci := 9) (j := 0) hF dX9_write_31 (q := 34) rfl rfl rfl fl9_12 ?_
      refine jr_iload_n hF dX9_write_34 (q := 35) rfl rfl ?_
      refine jr_lload_n hF dX9_write_35 (q := 36) rfl rfl ?_
      refine jr_cV2V hF (c_append σ B len h.1 m (by omega) (by omega) v) dX9_write_36 (q := 39) rfl lk9_97 vX8_append kX8_append rfl rfl rfl (by decide) (Nat.le_of_ble_eq_true rfl) (fun σ1 hz => ?_)
      obtain ⟨g1, g2⟩ := hz
      refine jr_aload_n hF dX9_write_39 (q := 40) rfl rfl ?_
      refine jr_getR (ci := 9) (j := 0) hF dX9_write_40 (q := 43) rfl rfl rfl fl9_12 ?_
      refine jr_getI (ci := 8) (j := 0) hF 0 rfl dX9_write_43 (q := 46) rfl rfl rfl fl9_93 ?_
      rw [g1.1]
      refine jr_retI hF hR dX9_write_46 rfl ⟨?_, ?_, fun k hk => g2 k (by omega) (by omega)⟩
      · unfold an_write
        rw [if_neg (by omega), if_neg (by omega)]
        omega
      · unfold nx_write
        rw [if_pos ⟨b1, a2⟩]
        have h2 := RC.fr (σ' := uc (uc σ1 1 (σ 1)) 2 (σ 2)) h ok.2.2.1.2.1 ok.2.2.2.2.2.2.2.1 (fun k hk => by
          by_cases e2 : k = 2
          · subst e2; rw [uc_eq]
          · rw [uc_ne e2]
            by_cases e1 : k = 1
            · subst e1; rw [uc_eq]
            · rw [uc_ne e1]; exact g2 k e1 e2)
        obtain ⟨-, j2, j3, j4, j5⟩ := h2
        refine ⟨g1, ?_, ?_, ?_, ?_⟩
        · exact j2.fr ok.2.2.1.2.1 (fun k l1 l2 => by rw [uc_ne (by omega), uc_ne (by omega)])
        · obtain ⟨c1, c2⟩ := j3
          exact ⟨c1, c2⟩
        · obtain ⟨c1, c2⟩ := j4
          refine ⟨c1, fun k hk => ?_⟩
          have := c2 k hk
          rw [uc_ne (by omega), uc_ne (by omega)] at this
          exact this
        · obtain ⟨c1, c2⟩ := j5
          exact ⟨c1, c2⟩
    · refine jr_bipush hF dX9_write_27 (q := 29) rfl (by decide) (by decide +kernel) ?_
      refine jr_retI hF hR dX9_write_29 rfl ⟨?_, ?_, fun k hk => rfl⟩
      · unfold an_write
        rw [if_neg (by omega), if_pos (by omega)]
      · unfold nx_write
        rw [if_neg (by show ¬ (_ ∧ (len : Int) + _ ≤ 300); omega)]
        exact h
  · have b1 : ¬ (1 ≤ n ∧ n ≤ 8) := fun h => by rw [if_pos h] at a1; omega
    refine jr_iconst hF dX9_write_10 (q := 11) rfl (by decide) ?_
    refine jr_retI hF hR dX9_write_11 rfl ⟨?_, ?_, fun k hk => rfl⟩
    · unfold an_write
      rw [if_pos b1]
    · unfold nx_write
      rw [if_neg (fun h => b1 h.1)]
      exact h
end

