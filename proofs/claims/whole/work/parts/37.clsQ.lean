/-! ===== the class's calls: changes, undo, keep, back, seen, forget, count ===== -/
def f_cal (F : FD) (k : Int) : FD := (f_nm F, f_nl F, f_rm F, f_kd F, f_wt F, f_lm F, k, f_sp F)
def f_stp (F : FD) (k : Int) : FD := (f_nm F, f_nl F, f_rm F, f_kd F, f_wt F, f_lm F, f_ca F, k)
/-- law w becomes v -/
def f_set (F : FD) (w v : Int) : FD := if w = 5 then f_cal F v else if w = 6 then f_stp F v else f_lim F w.toNat v
theorem RepC.set {σ : Sg} {pl : Nat} {F : FD} (h : RepC σ pl F) (h5 : f_nl F ≤ 5) {w : Int} (hw : (0 ≤ w ∧ w < f_nl F) ∨ w = 5 ∨ w = 6) (v : Int) : RepC (up σ (pl + 9) w v) pl (f_set F w v) := by
  unfold f_set
  by_cases e5 : w = 5
  · subst e5
    rw [if_pos rfl]
    obtain ⟨q1, q2, q3, q4, q5, q6, q7, q8⟩ := h
    refine ⟨?_, ?_, fun m hm => ?_, fun k hk => ?_, fun k m hk hm => ?_, fun k hk => ?_, ?_, ?_⟩
    · rw [up_ne (by omega)]; exact q1
    · rw [up_ne (by omega)]; exact q2
    · rw [up_ne (by omega)]; exact q3 m hm
    · rw [up_ne (by omega)]; exact q4 k hk
    · replace hk : k < f_nl F := hk
      rw [up_ne (by omega)]; exact q5 k m hk hm
    · replace hk : k < f_nl F := hk
      refine Eq.trans ?_ (q6 k hk)
      unfold up
      rw [if_neg (by omega)]
    · unfold up
      rw [if_pos ⟨rfl, rfl⟩]
      rfl
    · refine Eq.trans ?_ q8
      unfold up
      rw [if_neg (by omega)]
  · rw [if_neg e5]
    by_cases e6 : w = 6
    · subst e6
      rw [if_pos rfl]
      obtain ⟨q1, q2, q3, q4, q5, q6, q7, q8⟩ := h
      refine ⟨?_, ?_, fun m hm => ?_, fun k hk => ?_, fun k m hk hm => ?_, fun k hk => ?_, ?_, ?_⟩
      · rw [up_ne (by omega)]; exact q1
      · rw [up_ne (by omega)]; exact q2
      · rw [up_ne (by omega)]; exact q3 m hm
      · rw [up_ne (by omega)]; exact q4 k hk
      · replace hk : k < f_nl F := hk
        rw [up_ne (by omega)]; exact q5 k m hk hm
      · replace hk : k < f_nl F := hk
        refine Eq.trans ?_ (q6 k hk)
        unfold up
        rw [if_neg (by omega)]
      · refine Eq.trans ?_ q7
        unfold up
        rw [if_neg (by omega)]
      · unfold up
        rw [if_pos ⟨rfl, rfl⟩]
        rfl
    · rw [if_neg e6]
      obtain ⟨i, rfl⟩ : ∃ i : Nat, w = (i : Int) := ⟨w.toNat, by omega⟩
      exact h.lim1 h5 (by omega) v
theorem f_set_nl (F : FD) (w v : Int) : f_nl (f_set F w v) = f_nl F ∧ f_nm (f_set F w v) = f_nm F := by
  unfold f_set
  split
  · exact ⟨rfl, rfl⟩
  · split <;> exact ⟨rfl, rfl⟩
theorem okF_set {F : FD} (ok : okF F) {w v : Int} (h : vld (f_nl F) w v) : okF (f_set F w v) := by
  unfold f_set
  obtain ⟨o1, o2, o3, o4, o5, o6, o7, o8⟩ := ok
  by_cases e5 : w = 5
  · rw [if_pos e5]
    exact ⟨o1, o2, o3, o4, o5, o6, by unfold vld at h; show 0 ≤ v ∧ v ≤ 2; omega, o8⟩
  · rw [if_neg e5]
    by_cases e6 : w = 6
    · rw [if_pos e6]
      exact ⟨o1, o2, o3, o4, o5, o6, o7, by unfold vld at h; show 1 ≤ v ∧ v ≤ 3; omega⟩
    · rw [if_neg e6]
      exact okF_lim ⟨o1, o2, o3, o4, o5, o6, o7, o8⟩ _ (by unfold vld at h; omega)
/-- what law w is -/
def f_get (F : FD) (w : Int) : Int := if w = 5 then f_ca F else if w = 6 then f_sp F else f_lm F w.toNat
theorem RepC.get {σ : Sg} {pl : Nat} {F : FD} (h : RepC σ pl F) {w : Int} (hw : (0 ≤ w ∧ w < f_nl F) ∨ w = 5 ∨ w = 6) (h5 : f_nl F ≤ 5) : σ (pl + 9) w = f_get F w := by
  unfold f_get
  by_cases e5 : w = 5
  · rw [if_pos e5, e5]; exact h.2.2.2.2.2.2.1
  · rw [if_neg e5]
    by_cases e6 : w = 6
    · rw [if_pos e6, e6]; exact h.2.2.2.2.2.2.2
    · rw [if_neg e6]
      obtain ⟨i, rfl⟩ : ∃ i : Nat, w = (i : Int) := ⟨w.toNat, by omega⟩
      exact h.lim (by omega)
def nx_chg (A : AS) (w v : Int) : AS := (A.1, A.2.1, f_set A.2.2.1 w v, nn8 A.2.2.2.1, nt A.2.2.2.1 A.2.2.2.2.1 w, nt A.2.2.2.1 A.2.2.2.2.2.1 (f_get A.2.2.1 w), A.2.2.2.2.2.2)
def nx_undo (A : AS) : AS := if A.2.2.2.1 = 0 then A else (A.1, A.2.1, f_set A.2.2.1 (A.2.2.2.2.1 (A.2.2.2.1 - 1)) (A.2.2.2.2.2.1 (A.2.2.2.1 - 1)), A.2.2.2.1 - 1, A.2.2.2.2)
def f_row (F : FD) (j : Int) : Int := f_get F j
def f_law (F : FD) (s : Int → Int) : FD := (f_nm F, f_nl F, f_rm F, f_kd F, f_wt F, fun i => s (i : Int), s 5, s 6)
def nx_keep (A : AS) : AS := if A.2.2.2.2.2.2.1 = 2 then A else (A.1, A.2.1, A.2.2.1, A.2.2.2.1, A.2.2.2.2.1, A.2.2.2.2.2.1, A.2.2.2.2.2.2.1 + 1, (fun k => if k = A.2.2.2.2.2.2.1 then f_get A.2.2.1 else A.2.2.2.2.2.2.2.1 k), A.2.2.2.2.2.2.2.2)
def nx_back (A : AS) : AS := if A.2.2.2.2.2.2.1 = 0 then A else (A.1, A.2.1, f_law A.2.2.1 (A.2.2.2.2.2.2.2.1 (A.2.2.2.2.2.2.1 - 1)), 0, A.2.2.2.2.1, A.2.2.2.2.2.1, A.2.2.2.2.2.2.1 - 1, A.2.2.2.2.2.2.2)
def an_seen (F : FD) (ns : Nat) (m p : Int) : Int := if ¬ ((0 ≤ m ∧ m < f_nm F) ∧ 0 ≤ p ∧ p ≤ 10) then -1 else if ns = 6 then -3 else (ns : Int) + 1
def nx_seen (A : AS) (m p : Int) : AS := if ((0 ≤ m ∧ m < f_nm A.2.2.1) ∧ 0 ≤ p ∧ p ≤ 10) ∧ A.2.2.2.2.2.2.2.2.1 ≠ 6 then (A.1, A.2.1, A.2.2.1, A.2.2.2.1, A.2.2.2.2.1, A.2.2.2.2.2.1, A.2.2.2.2.2.2.1, A.2.2.2.2.2.2.2.1, A.2.2.2.2.2.2.2.2.1 + 1, st1 A.2.2.2.2.2.2.2.2.2.1 A.2.2.2.2.2.2.2.2.1 m, st1 A.2.2.2.2.2.2.2.2.2.2 A.2.2.2.2.2.2.2.2.1 p) else A
def nx_forget (A : AS) : AS := (A.1, A.2.1, A.2.2.1, A.2.2.2.1, A.2.2.2.2.1, A.2.2.2.2.2.1, A.2.2.2.2.2.2.1, A.2.2.2.2.2.2.2.1, 0, A.2.2.2.2.2.2.2.2.2)
def an_count (A : AS) (what : Int) : Int := if what = 0 then (f_nm A.2.2.1 : Int) else if what = 1 then (f_nl A.2.2.1 : Int) else if what = 2 then f_ca A.2.2.1 else if what = 3 then f_sp A.2.2.1 else if what = 4 then (A.2.2.2.2.2.2.2.2.1 : Int) else if what = 5 then (A.2.2.2.1 : Int) else if what = 6 then (A.2.2.2.2.2.2.1 : Int) else if what = 7 then (A.1 : Int) else -1
section
variable (σ : Sg) (len : Nat) (B : Nat → Int) (F : FD) (nu : Nat) (W V : Nat → Int) (nk : Nat) (S : Nat → Int → Int) (ns : Nat) (M Y : Nat → Int)
set_option maxRecDepth 100000 in
theorem c_change (h : RC σ (len, B, F, nu, W, V, nk, S, ns, M, Y)) (ok : okA (len, B, F, nu, W, V, nk, S, ns, M, Y)) (w v : Int) (hw : (0 ≤ w ∧ w < f_nl F) ∨ w = 5 ∨ w = 6) : RI mX9_change 2 [vR 0, vI w, vI v] σ (fun z σ' => z = f_get F w ∧ RC σ' (nx_chg (len, B, F, nu, W, V, nk, S, ns, M, Y) w v) ∧ ∀ k, 73 ≤ k → σ' k = σ k) := by
  obtain ⟨hT, hC, hH, hK, hS⟩ := h
  have h5 := ok.2.2.1.2.1
  have hu := ok.2.2.2.2.2.1
  have eg : σ 13 w = f_get F w := hC.get hw h5
  refine mkRun (by decide +kernel) (Nat.le_of_ble_eq_true rfl) (fun X hF hR => ?_)
  refine jr_aload_n hF dX9_change_0 (q := 1) rfl rfl ?_
  refine jr_getR (ci := 9) (j := 1) hF dX9_change_1 (q := 4) rfl rfl rfl fl9_19 ?_
  refine jr_getR (ci := 4) (j := 5) hF dX9_change_4 (q := 7) rfl rfl rfl fl9_123 ?_
  refine jr_iload_n hF dX9_change_7 (q := 8) rfl rfl ?_
  refine jr_iald hF dX9_change_8 (q := 9) rfl rfl (by omega) ?_
  rw [eg]
  refine jr_istore_n hF dX9_change_9 (q := 10) rfl (by decide) rfl ?_
  refine jr_aload_n hF dX9_change_10 (q := 11) rfl rfl ?_
  refine jr_getR (ci := 9) (j := 8) hF dX9_change_11 (q := 14) rfl rfl rfl fl9_64 ?_
  refine jr_iload_n hF dX9_change_14 (q := 15) rfl rfl ?_
  refine jr_iload_n hF dX9_change_15 (q := 16) rfl rfl ?_
  refine jr_cV2V hF (c_note σ nu hu W V hH w (f_get F w)) dX9_change_16 (q := 19) rfl lk9_245 vX0_note kX0_note rfl rfl rfl (by decide) (Nat.le_of_ble_eq_true rfl) (fun σ1 hz => ?_)
  obtain ⟨g1, g2⟩ := hz
  refine jr_aload_n hF dX9_change_19 (q := 20) rfl rfl ?_
  refine jr_getR (ci := 9) (j := 1) hF dX9_change_20 (q := 23) rfl rfl rfl fl9_19 ?_
  refine jr_getR (ci := 4) (j := 5) hF dX9_change_23 (q := 26) rfl rfl rfl fl9_123 ?_
  refine jr_iload_n hF dX9_change_26 (q := 27) rfl rfl ?_
  refine jr_iload_n hF dX9_change_27 (q := 28) rfl rfl ?_
  refine jr_iast hF dX9_change_28 (q := 29) rfl rfl (by omega) ?_
  refine jr_iload_n hF dX9_change_29 (q := 30) rfl rfl ?_
  have hC1 : RepC σ1 4 F := hC.fr h5 (fun k l1 l2 => g2 k (by omega) (by omega) (by omega))
  refine jr_retI hF hR dX9_change_30 rfl ⟨rfl, ⟨hT.fr ?_ ?_, hC1.set h5 hw v, g1.fr (up_ne (by decide)) (up_ne (by decide)) (up_ne (by decide)), ?_, hS.fr ?_ ?_ ?_⟩, fun k hk => ?_⟩
  · rw [up_ne (by decide), g2 1 (by decide) (by decide) (by decide)]
  · rw [up_ne (by decide), g2 2 (by decide) (by decide) (by decide)]
  · rw [(f_set_nl F w v).1]
    exact hK.fr ok.2.2.2.2.2.2.2.1 (fun k l1 l2 => by rw [up_ne (by omega), g2 k (by omega) (by omega) (by omega)])
  · rw [up_ne (by decide), g2 63 (by decide) (by decide) (by decide)]
  · rw [up_ne (by decide), g2 64 (by decide) (by decide) (by decide)]
  · rw [up_ne (by decide), g2 65 (by decide) (by decide) (by decide)]
  · rw [up_ne (by omega), g2 k (by omega) (by omega) (by omega)]
set_option maxRecDepth 100000 in
theorem o_limit (h : RC σ (len, B, F, nu, W, V, nk, S, ns, M, Y)) (ok : okA (len, B, F, nu, W, V, nk, S, ns, M, Y)) (i l : Int) : RI mX9_limit 10 [vR 0, vI i, vI l] σ (fun z σ' => z = (if (0 ≤ i ∧ i < f_nl F) ∧ 1 ≤ l ∧ l ≤ 10 then f_get F i else -1) ∧ RC σ' (if (0 ≤ i ∧ i < f_nl F) ∧ 1 ≤ l ∧ l ≤ 10 then nx_chg (len, B, F, nu, W, V, nk, S, ns, M, Y) i l else (len, B, F, nu, W, V, nk, S, ns, M, Y)) ∧ ∀ k, 73 ≤ k → σ' k = σ k) := by
  have r2 := h.2.1.2.1
  refine mkRun (by decide +kernel) (Nat.le_of_ble_eq_true rfl) (fun X hF hR => ?_)
  have hbad : ¬ ((0 ≤ i ∧ i < f_nl F) ∧ 1 ≤ l ∧ l ≤ 10) → Gs X 21 (entryL [vR 0, vI i, vI l] mX9_limit.2.2.1) [] σ := by
    intro hc
    refine jr_iconst hF dX9_limit_21 (q := 22) rfl (by decide) ?_
    refine jr_retI hF hR dX9_limit_22 rfl ⟨by rw [if_neg hc], by rw [if_neg hc]; exact h, fun _ _ => rfl⟩
  refine jr_aload_n hF dX9_limit_0 (q := 1) rfl rfl ?_
  refine jr_getR (ci := 9) (j := 1) hF dX9_limit_1 (q := 4) rfl rfl rfl fl9_19 ?_
  refine jr_iload_n hF dX9_limit_4 (q := 5) rfl rfl ?_
  refine jr_cV1I hF (c_hasLad σ 4 pl4 i) dX9_limit_5 (q := 8) rfl lk9_120 vX4_hasLad kX4_hasLad rfl rfl rfl (by decide) (Nat.le_of_ble_eq_true rfl) (fun z σ1 hz => ?_)
  obtain ⟨rfl, rfl⟩ := hz
  refine jr_if_eq hF dX9_limit_8 (q := 11) rfl 21 (by decide) (fun a1 => ?_) (fun a1 => ?_)
  · exact hbad (fun hh => by rw [if_pos (by omega)] at a1; omega)
  · have b1 : 0 ≤ i ∧ i < σ 4 1 := Classical.byContradiction fun h => a1 (by rw [if_neg h])
    refine jr_iload_n hF dX9_limit_11 (q := 12) rfl rfl ?_
    refine jr_iconst hF dX9_limit_12 (q := 13) rfl (by decide) ?_
    refine jr_bipush hF dX9_limit_13 (q := 15) rfl (by decide) (by decide +kernel) ?_
    refine jr_cS3I hF (c_isWithin σ l 1 10) dX9_limit_15 (q := 18) rfl lk9_90 vX9_isWithin kX9_isWithin (by decide) (Nat.le_of_ble_eq_true rfl) (fun z σ1 hz => ?_)
    obtain ⟨rfl, rfl⟩ := hz
    refine jr_if_ne hF dX9_limit_18 (q := 21) rfl 23 (by decide) (fun a2 => ?_) (fun a2 => ?_)
    · have b2 : 1 ≤ l ∧ l ≤ 10 := Classical.byContradiction fun h => a2 (by rw [if_neg h])
      have hc : (0 ≤ i ∧ i < f_nl F) ∧ 1 ≤ l ∧ l ≤ 10 := by omega
      refine jr_aload_n hF dX9_limit_23 (q := 24) rfl rfl ?_
      refine jr_iload_n hF dX9_limit_24 (q := 25) rfl rfl ?_
      refine jr_iload_n hF dX9_limit_25 (q := 26) rfl rfl ?_
      refine jr_cV2I hF (c_change σ len B F nu W V nk S ns M Y h ok i l (Or.inl hc.1)) dX9_limit_26 (q := 29) rfl lk9_173 vX9_change kX9_change rfl rfl rfl (by decide) (Nat.le_of_ble_eq_true rfl) (fun z σ1 hz => ?_)
      refine jr_retI hF hR dX9_limit_29 rfl (by rw [if_pos hc, if_pos hc]; exact hz)
    · exact hbad (fun hh => by rw [if_pos (by omega)] at a2; omega)
set_option maxRecDepth 100000 in
theorem o_calls (h : RC σ (len, B, F, nu, W, V, nk, S, ns, M, Y)) (ok : okA (len, B, F, nu, W, V, nk, S, ns, M, Y)) (k : Int) : RI mX9_calls 10 [vR 0, vI k] σ (fun z σ' => z = (if 0 ≤ k ∧ k ≤ 2 then f_get F 5 else -1) ∧ RC σ' (if 0 ≤ k ∧ k ≤ 2 then nx_chg (len, B, F, nu, W, V, nk, S, ns, M, Y) 5 k else (len, B, F, nu, W, V, nk, S, ns, M, Y)) ∧ ∀ k, 73 ≤ k → σ' k = σ k) := by
  refine mkRun (by decide +kernel) (Nat.le_of_ble_eq_true rfl) (fun X hF hR => ?_)
  refine jr_iload_n hF dX9_calls_0 (q := 1) rfl rfl ?_
  refine jr_iconst hF dX9_calls_1 (q := 2) rfl (by decide) ?_
  refine jr_iconst hF dX9_calls_2 (q := 3) rfl (by decide) ?_
  refine jr_cS3I hF (c_isWithin σ k 0 2) dX9_calls_3 (q := 6) rfl lk9_90 vX9_isWithin kX9_isWithin (by decide) (Nat.le_of_ble_eq_true rfl) (fun z σ1 hz => ?_)
  obtain ⟨rfl, rfl⟩ := hz
  refine jr_if_ne hF dX9_calls_6 (q := 9) rfl 11 (by decide) (fun a1 => ?_) (fun a1 => ?_)
  · have b2 : 0 ≤ k ∧ k ≤ 2 := Classical.byContradiction fun h => a1 (by rw [if_neg h])
    refine jr_aload_n hF dX9_calls_11 (q := 12) rfl rfl ?_
    refine jr_iconst hF dX9_calls_12 (q := 13) rfl (by decide) ?_
    refine jr_iload_n hF dX9_calls_13 (q := 14) rfl rfl ?_
    refine jr_cV2I hF (c_change σ len B F nu W V nk S ns M Y h ok 5 k (Or.inr (Or.inl rfl))) dX9_calls_14 (q := 17) rfl lk9_173 vX9_change kX9_change rfl rfl rfl (by decide) (Nat.le_of_ble_eq_true rfl) (fun z σ1 hz => ?_)
    refine jr_retI hF hR dX9_calls_17 rfl (by rw [if_pos b2, if_pos b2]; exact hz)
  · have b2 : ¬ (0 ≤ k ∧ k ≤ 2) := fun h => by rw [if_pos h] at a1; omega
    refine jr_iconst hF dX9_calls_9 (q := 10) rfl (by decide) ?_
    refine jr_retI hF hR dX9_calls_10 rfl ⟨by rw [if_neg b2], by rw [if_neg b2]; exact h, fun _ _ => rfl⟩
set_option maxRecDepth 100000 in
theorem o_step (h : RC σ (len, B, F, nu, W, V, nk, S, ns, M, Y)) (ok : okA (len, B, F, nu, W, V, nk, S, ns, M, Y)) (k : Int) : RI mX9_step 10 [vR 0, vI k] σ (fun z σ' => z = (if 1 ≤ k ∧ k ≤ 3 then f_get F 6 else -1) ∧ RC σ' (if 1 ≤ k ∧ k ≤ 3 then nx_chg (len, B, F, nu, W, V, nk, S, ns, M, Y) 6 k else (len, B, F, nu, W, V, nk, S, ns, M, Y)) ∧ ∀ k, 73 ≤ k → σ' k = σ k) := by
  refine mkRun (by decide +kernel) (Nat.le_of_ble_eq_true rfl) (fun X hF hR => ?_)
  refine jr_iload_n hF dX9_step_0 (q := 1) rfl rfl ?_
  refine jr_iconst hF dX9_step_1 (q := 2) rfl (by decide) ?_
  refine jr_iconst hF dX9_step_2 (q := 3) rfl (by decide) ?_
  refine jr_cS3I hF (c_isWithin σ k 1 3) dX9_step_3 (q := 6) rfl lk9_90 vX9_isWithin kX9_isWithin (by decide) (Nat.le_of_ble_eq_true rfl) (fun z σ1 hz => ?_)
  obtain ⟨rfl, rfl⟩ := hz
  refine jr_if_ne hF dX9_step_6 (q := 9) rfl 11 (by decide) (fun a1 => ?_) (fun a1 => ?_)
  · have b2 : 1 ≤ k ∧ k ≤ 3 := Classical.byContradiction fun h => a1 (by rw [if_neg h])
    refine jr_aload_n hF dX9_step_11 (q := 12) rfl rfl ?_
    refine jr_bipush hF dX9_step_12 (q := 14) rfl (by decide) (by decide +kernel) ?_
    refine jr_iload_n hF dX9_step_14 (q := 15) rfl rfl ?_
    refine jr_cV2I hF (c_change σ len B F nu W V nk S ns M Y h ok 6 k (Or.inr (Or.inr rfl))) dX9_step_15 (q := 18) rfl lk9_173 vX9_change kX9_change rfl rfl rfl (by decide) (Nat.le_of_ble_eq_true rfl) (fun z σ1 hz => ?_)
    refine jr_retI hF hR dX9_step_18 rfl (by rw [if_pos b2, if_pos b2]; exact hz)
  · have b2 : ¬ (1 ≤ k ∧ k ≤ 3) := fun h => by rw [if_pos h] at a1; omega
    refine jr_iconst hF dX9_step_9 (q := 10) rfl (by decide) ?_
    refine jr_retI hF hR dX9_step_10 rfl ⟨by rw [if_neg b2], by rw [if_neg b2]; exact h, fun _ _ => rfl⟩
set_option maxRecDepth 100000 in
theorem o_undo (h : RC σ (len, B, F, nu, W, V, nk, S, ns, M, Y)) (ok : okA (len, B, F, nu, W, V, nk, S, ns, M, Y)) : RI mX9_undo 10 [vR 0] σ (fun z σ' => z = (if nu = 0 then -2 else (nu : Int) - 1) ∧ RC σ' (nx_undo (len, B, F, nu, W, V, nk, S, ns, M, Y)) ∧ ∀ k, 73 ≤ k → σ' k = σ k) := by
  have h0 := h
  obtain ⟨hT, hC, hH, hK, hS⟩ := h
  have h5 := ok.2.2.1.2.1
  have hu := ok.2.2.2.2.2.1
  have c1 := hH.1
  refine mkRun (by decide +kernel) (Nat.le_of_ble_eq_true rfl) (fun X hF hR => ?_)
  refine jr_aload_n hF dX9_undo_0 (q := 1) rfl rfl ?_
  refine jr_getR (ci := 9) (j := 8) hF dX9_undo_1 (q := 4) rfl rfl rfl fl9_64 ?_
  refine jr_getI (ci := 0) (j := 0) hF 0 rfl dX9_undo_4 (q := 7) rfl rfl rfl fl9_118 ?_
  rw [c1]
  refine jr_if_ne hF dX9_undo_7 (q := 10) rfl 13 (by decide) (fun a1 => ?_) (fun a1 => ?_)
  · have hv := ok.2.2.2.2.2.2.1 (nu - 1) (by omega)
    have hw : (0 ≤ W (nu - 1) ∧ W (nu - 1) < f_nl F) ∨ W (nu - 1) = 5 ∨ W (nu - 1) = 6 := by unfold vld at hv; omega
    refine jr_aload_n hF dX9_undo_13 (q := 14) rfl rfl ?_
    refine jr_getR (ci := 9) (j := 8) hF dX9_undo_14 (q := 17) rfl rfl rfl fl9_64 ?_
    refine jr_aload_n hF dX9_undo_17 (q := 18) rfl rfl ?_
    refine jr_getR (ci := 9) (j := 1) hF dX9_undo_18 (q := 21) rfl rfl rfl fl9_19 ?_
    refine jr_cV1V hF (c_takeBack σ 4 pl4 nu (by omega) W V hH (by omega)) dX9_undo_21 (q := 24) rfl lk9_176 vX0_takeBack kX0_takeBack rfl rfl rfl (by decide) (Nat.le_of_ble_eq_true rfl) (fun σ1 hz => ?_)
    subst hz
    refine jr_aload_n hF dX9_undo_24 (q := 25) rfl rfl ?_
    refine jr_getR (ci := 9) (j := 8) hF dX9_undo_25 (q := 28) rfl rfl rfl fl9_64 ?_
    refine jr_getI (ci := 0) (j := 0) hF 0 rfl dX9_undo_28 (q := 31) rfl rfl rfl fl9_118 ?_
    have e0 : up (up σ 66 0 ((nu - 1 : Nat) : Int)) (4 + 9) (W (nu - 1)) (V (nu - 1)) 66 0 = ((nu - 1 : Nat) : Int) := by rw [up_ne (by decide)]; simp [up]
    rw [e0]
    refine jr_retI hF hR dX9_undo_31 rfl ⟨by rw [if_neg (by omega)]; omega, ?_, fun k hk => by rw [up_ne (by omega), up_ne (by omega)]⟩
    unfold nx_undo
    rw [if_neg (by show ¬ nu = 0; omega)]
    have hC1 : RepC (up σ 66 0 ((nu - 1 : Nat) : Int)) 4 F := hC.fr h5 (fun k l1 l2 => up_ne (by omega))
    refine ⟨hT.fr ?_ ?_, hC1.set h5 hw _, ⟨e0, fun j hj => ?_⟩, ?_, hS.fr ?_ ?_ ?_⟩
    · rw [up_ne (by decide), up_ne (by decide)]
    · rw [up_ne (by decide), up_ne (by decide)]
    · replace hj : j < nu - 1 := hj
      rw [up_ne (by decide), up_ne (by decide), up_ne (by decide), up_ne (by decide)]
      exact hH.2 j (by omega)
    · show KW _ (f_nl (f_set F _ _)) nk S
      rw [(f_set_nl F _ _).1]
      exact hK.fr ok.2.2.2.2.2.2.2.1 (fun k l1 l2 => by rw [up_ne (by omega), up_ne (by omega)])
    · rw [up_ne (by decide), up_ne (by decide)]
    · rw [up_ne (by decide), up_ne (by decide)]
    · rw [up_ne (by decide), up_ne (by decide)]
  · refine jr_bipush hF dX9_undo_10 (q := 12) rfl (by decide) (by decide +kernel) ?_
    refine jr_retI hF hR dX9_undo_12 rfl ⟨by rw [if_pos (by omega)], by unfold nx_undo; rw [if_pos (show nu = 0 by omega)]; exact h0, fun _ _ => rfl⟩
set_option maxRecDepth 100000 in
theorem o_seen (h : RC σ (len, B, F, nu, W, V, nk, S, ns, M, Y)) (ok : okA (len, B, F, nu, W, V, nk, S, ns, M, Y)) (m p : Int) : RI mX9_seen 10 [vR 0, vI m, vI p] σ (fun z σ' => z = an_seen F ns m p ∧ RC σ' (nx_seen (len, B, F, nu, W, V, nk, S, ns, M, Y) m p) ∧ ∀ k, 73 ≤ k → σ' k = σ k) := by
  have h0 := h
  obtain ⟨hT, hC, hH, hK, hS⟩ := h
  have h5 := ok.2.2.1.2.1
  have hns := ok.2.2.2.2.2.2.2.2.2.1
  have r1 := hC.1
  have s1 := hS.1
  refine mkRun (by decide +kernel) (Nat.le_of_ble_eq_true rfl) (fun X hF hR => ?_)
  have hbad : ¬ ((0 ≤ m ∧ m < f_nm F) ∧ 0 ≤ p ∧ p ≤ 10) → Gs X 21 (entryL [vR 0, vI m, vI p] mX9_seen.2.2.1) [] σ := by
    intro hc
    refine jr_iconst hF dX9_seen_21 (q := 22) rfl (by decide) ?_
    refine jr_retI hF hR dX9_seen_22 rfl ⟨by unfold an_seen; rw [if_pos hc], by unfold nx_seen; rw [if_neg (fun hh => hc hh.1)]; exact h0, fun _ _ => rfl⟩
  refine jr_aload_n hF dX9_seen_0 (q := 1) rfl rfl ?_
  refine jr_getR (ci := 9) (j := 1) hF dX9_seen_1 (q := 4) rfl rfl rfl fl9_19 ?_
  refine jr_iload_n hF dX9_seen_4 (q := 5) rfl rfl ?_
  refine jr_cV1I hF (c_hasMaster σ 4 pl4 m) dX9_seen_5 (q := 8) rfl lk9_144 vX4_hasMaster kX4_hasMaster rfl rfl rfl (by decide) (Nat.le_of_ble_eq_true rfl) (fun z σ1 hz => ?_)
  obtain ⟨rfl, rfl⟩ := hz
  refine jr_if_eq hF dX9_seen_8 (q := 11) rfl 21 (by decide) (fun a1 => ?_) (fun a1 => ?_)
  · exact hbad (fun hh => by rw [if_pos (by omega)] at a1; omega)
  · have b1 : 0 ≤ m ∧ m < σ 4 0 := Classical.byContradiction fun h => a1 (by rw [if_neg h])
    refine jr_iload_n hF dX9_seen_11 (q := 12) rfl rfl ?_
    refine jr_iconst hF dX9_seen_12 (q := 13) rfl (by decide) ?_
    refine jr_bipush hF dX9_seen_13 (q := 15) rfl (by decide) (by decide +kernel) ?_
    refine jr_cS3I hF (c_isWithin σ p 0 10) dX9_seen_15 (q := 18) rfl lk9_90 vX9_isWithin kX9_isWithin (by decide) (Nat.le_of_ble_eq_true rfl) (fun z σ1 hz => ?_)
    obtain ⟨rfl, rfl⟩ := hz
    refine jr_if_ne hF dX9_seen_18 (q := 21) rfl 23 (by decide) (fun a2 => ?_) (fun a2 => ?_)
    · have b2 : 0 ≤ p ∧ p ≤ 10 := Classical.byContradiction fun h => a2 (by rw [if_neg h])
      have hc : (0 ≤ m ∧ m < f_nm F) ∧ 0 ≤ p ∧ p ≤ 10 := by omega
      refine jr_aload_n hF dX9_seen_23 (q := 24) rfl rfl ?_
      refine jr_getR (ci := 9) (j := 7) hF dX9_seen_24 (q := 27) rfl rfl rfl fl9_57 ?_
      refine jr_getI (ci := 7) (j := 0) hF 0 rfl dX9_seen_27 (q := 30) rfl rfl rfl fl9_115 ?_
      refine jr_bipush hF dX9_seen_30 (q := 32) rfl (by decide) (by decide +kernel) ?_
      rw [s1]
      refine jr_icmp_lt hF dX9_seen_32 (q := 35) rfl 38 (by decide) (fun a3 => ?_) (fun a3 => ?_)
      · refine jr_aload_n hF dX9_seen_38 (q := 39) rfl rfl ?_
        refine jr_getR (ci := 9) (j := 7) hF dX9_seen_39 (q := 42) rfl rfl rfl fl9_57 ?_
        refine jr_iload_n hF dX9_seen_42 (q := 43) rfl rfl ?_
        refine jr_iload_n hF dX9_seen_43 (q := 44) rfl rfl ?_
        refine jr_cV2V hF (c_add σ ns (by omega) M Y hS m p) dX9_seen_44 (q := 47) rfl lk9_218 vX7_add kX7_add rfl rfl rfl (by decide) (Nat.le_of_ble_eq_true rfl) (fun σ1 hz => ?_)
        obtain ⟨g1, g2⟩ := hz
        refine jr_aload_n hF dX9_seen_47 (q := 48) rfl rfl ?_
        refine jr_getR (ci := 9) (j := 7) hF dX9_seen_48 (q := 51) rfl rfl rfl fl9_57 ?_
        refine jr_getI (ci := 7) (j := 0) hF 0 rfl dX9_seen_51 (q := 54) rfl rfl rfl fl9_115 ?_
        rw [g1.1]
        refine jr_retI hF hR dX9_seen_54 rfl ⟨?_, ?_, fun k hk => g2 k (by omega) (by omega) (by omega)⟩
        · unfold an_seen
          rw [if_neg (fun hh => hh hc), if_neg (by omega)]
          omega
        · unfold nx_seen
          rw [if_pos ⟨hc, by show ns ≠ 6; omega⟩]
          exact ⟨hT.fr (g2 1 (by decide) (by decide) (by decide)) (g2 2 (by decide) (by decide) (by decide)), hC.fr h5 (fun k l1 l2 => g2 k (by omega) (by omega) (by omega)), hH.fr (g2 66 (by decide) (by decide) (by decide)) (g2 67 (by decide) (by decide) (by decide)) (g2 68 (by decide) (by decide) (by decide)), hK.fr ok.2.2.2.2.2.2.2.1 (fun k l1 l2 => g2 k (by omega) (by omega) (by omega)), g1⟩
      · refine jr_bipush hF dX9_seen_35 (q := 37) rfl (by decide) (by decide +kernel) ?_
        refine jr_retI hF hR dX9_seen_37 rfl ⟨by unfold an_seen; rw [if_neg (fun hh => hh hc), if_pos (by omega)], by unfold nx_seen; rw [if_neg (fun hh => hh.2 (show ns = 6 by omega))]; exact h0, fun _ _ => rfl⟩
    · exact hbad (fun hh => by rw [if_pos (by omega)] at a2; omega)
set_option maxRecDepth 100000 in
theorem o_forget (h : RC σ (len, B, F, nu, W, V, nk, S, ns, M, Y)) (ok : okA (len, B, F, nu, W, V, nk, S, ns, M, Y)) : RI mX9_forget 10 [vR 0] σ (fun z σ' => z = (ns : Int) ∧ RC σ' (nx_forget (len, B, F, nu, W, V, nk, S, ns, M, Y)) ∧ ∀ k, 73 ≤ k → σ' k = σ k) := by
  obtain ⟨hT, hC, hH, hK, hS⟩ := h
  refine mkRun (by decide +kernel) (Nat.le_of_ble_eq_true rfl) (fun X hF hR => ?_)
  refine jr_aload_n hF dX9_forget_0 (q := 1) rfl rfl ?_
  refine jr_getR (ci := 9) (j := 7) hF dX9_forget_1 (q := 4) rfl rfl rfl fl9_57 ?_
  refine jr_getI (ci := 7) (j := 0) hF 0 rfl dX9_forget_4 (q := 7) rfl rfl rfl fl9_115 ?_
  refine jr_istore_n hF dX9_forget_7 (q := 8) rfl (by decide) rfl ?_
  refine jr_aload_n hF dX9_forget_8 (q := 9) rfl rfl ?_
  refine jr_getR (ci := 9) (j := 7) hF dX9_forget_9 (q := 12) rfl rfl rfl fl9_57 ?_
  refine jr_iconst hF dX9_forget_12 (q := 13) rfl (by decide) ?_
  refine jr_putI (ci := 7) (j := 0) hF 0 rfl dX9_forget_13 (q := 16) rfl rfl rfl fp9_115 ?_
  refine jr_iload_n hF dX9_forget_16 (q := 17) rfl rfl ?_
  refine jr_retI hF hR dX9_forget_17 rfl ⟨hS.1, ⟨hT.fr (up_ne (by decide)) (up_ne (by decide)), hC.fr ok.2.2.1.2.1 (fun k l1 l2 => up_ne (by omega)), hH.fr (up_ne (by decide)) (up_ne (by decide)) (up_ne (by decide)), hK.fr ok.2.2.2.2.2.2.2.1 (fun k l1 l2 => up_ne (by omega)), ⟨by simp [up], fun j hj => by omega⟩⟩, fun k hk => up_ne (by omega)⟩
set_option maxRecDepth 100000 in
theorem o_keep (h : RC σ (len, B, F, nu, W, V, nk, S, ns, M, Y)) (ok : okA (len, B, F, nu, W, V, nk, S, ns, M, Y)) : RI mX9_keep 10 [vR 0] σ (fun z σ' => z = (if nk = 2 then -3 else (nk : Int) + 1) ∧ RC σ' (nx_keep (len, B, F, nu, W, V, nk, S, ns, M, Y)) ∧ ∀ k, 73 ≤ k → σ' k = σ k) := by
  have h0 := h
  obtain ⟨hT, hC, hH, hK, hS⟩ := h
  have h5 := ok.2.2.1.2.1
  have hk2 := ok.2.2.2.2.2.2.2.1
  have k1 := hK.1
  refine mkRun (by decide +kernel) (Nat.le_of_ble_eq_true rfl) (fun X hF hR => ?_)
  refine jr_aload_n hF dX9_keep_0 (q := 1) rfl rfl ?_
  refine jr_getR (ci := 9) (j := 9) hF dX9_keep_1 (q := 4) rfl rfl rfl fl9_71 ?_
  refine jr_getI (ci := 6) (j := 0) hF 0 rfl dX9_keep_4 (q := 7) rfl rfl rfl fl9_119 ?_
  refine jr_iconst hF dX9_keep_7 (q := 8) rfl (by decide) ?_
  rw [k1]
  refine jr_icmp_lt hF dX9_keep_8 (q := 11) rfl 14 (by decide) (fun a1 => ?_) (fun a1 => ?_)
  · refine jr_aload_n hF dX9_keep_14 (q := 15) rfl rfl ?_
    refine jr_getR (ci := 9) (j := 9) hF dX9_keep_15 (q := 18) rfl rfl rfl fl9_71 ?_
    refine jr_aload_n hF dX9_keep_18 (q := 19) rfl rfl ?_
    refine jr_getR (ci := 9) (j := 1) hF dX9_keep_19 (q := 22) rfl rfl rfl fl9_19 ?_
    refine jr_cV1V hF (c_put σ 4 pl4 nk (by omega) (fun k => σ (71 + k)) ⟨k1, fun _ _ _ _ _ => rfl⟩) dX9_keep_22 (q := 25) rfl lk9_239 vX6_put kX6_put rfl rfl rfl (by decide) (Nat.le_of_ble_eq_true rfl) (fun σ1 hz => ?_)
    obtain ⟨⟨g1, g2⟩, g3⟩ := hz
    refine jr_aload_n hF dX9_keep_25 (q := 26) rfl rfl ?_
    refine jr_getR (ci := 9) (j := 9) hF dX9_keep_26 (q := 29) rfl rfl rfl fl9_71 ?_
    refine jr_getI (ci := 6) (j := 0) hF 0 rfl dX9_keep_29 (q := 32) rfl rfl rfl fl9_119 ?_
    rw [g1]
    refine jr_retI hF hR dX9_keep_32 rfl ⟨by rw [if_neg (by omega)]; omega, ?_, fun k hk => g3 k (by omega) (by omega)⟩
    unfold nx_keep
    rw [if_neg (by show ¬ nk = 2; omega)]
    refine ⟨hT.fr (g3 1 (by decide) (by omega)) (g3 2 (by decide) (by omega)), hC.fr h5 (fun k l1 l2 => g3 k (by omega) (by omega)), hH.fr (g3 66 (by decide) (by omega)) (g3 67 (by decide) (by omega)) (g3 68 (by decide) (by omega)), ⟨g1, fun k hk => ?_⟩, hS.fr (g3 63 (by decide) (by omega)) (g3 64 (by decide) (by omega)) (g3 65 (by decide) (by omega))⟩
    replace hk : k < nk + 1 := hk
    show (∀ i : Nat, i < f_nl F → σ1 (71 + k) (i : Int) = (if k = nk then f_get F else S k) (i : Int)) ∧ σ1 (71 + k) 5 = (if k = nk then f_get F else S k) 5 ∧ σ1 (71 + k) 6 = (if k = nk then f_get F else S k) 6
    have e1 := fun (j : Int) (a : 0 ≤ j) (b : j < 7) => g2 k j hk a b
    by_cases e : k = nk
    · simp only [if_pos e] at e1 ⊢
      refine ⟨fun i hi => ?_, ?_, ?_⟩
      · rw [e1 i (by omega) (by omega)]
        exact hC.get (Or.inl ⟨by omega, by omega⟩) h5
      · rw [e1 5 (by omega) (by omega)]
        exact hC.get (Or.inr (Or.inl rfl)) h5
      · rw [e1 6 (by omega) (by omega)]
        exact hC.get (Or.inr (Or.inr rfl)) h5
    · simp only [if_neg e] at e1 ⊢
      have e2 := hK.2 k (by omega)
      refine ⟨fun i hi => ?_, ?_, ?_⟩
      · rw [e1 i (by omega) (by omega)]
        exact e2.1 i hi
      · rw [e1 5 (by omega) (by omega)]
        exact e2.2.1
      · rw [e1 6 (by omega) (by omega)]
        exact e2.2.2
  · refine jr_bipush hF dX9_keep_11 (q := 13) rfl (by decide) (by decide +kernel) ?_
    refine jr_retI hF hR dX9_keep_13 rfl ⟨by rw [if_pos (by omega)], by unfold nx_keep; rw [if_pos (show nk = 2 by omega)]; exact h0, fun _ _ => rfl⟩
set_option maxRecDepth 100000 in
theorem o_back (h : RC σ (len, B, F, nu, W, V, nk, S, ns, M, Y)) (ok : okA (len, B, F, nu, W, V, nk, S, ns, M, Y)) : RI mX9_back 10 [vR 0] σ (fun z σ' => z = (if nk = 0 then -2 else (nk : Int) - 1) ∧ RC σ' (nx_back (len, B, F, nu, W, V, nk, S, ns, M, Y)) ∧ ∀ k, 73 ≤ k → σ' k = σ k) := by
  have h0 := h
  obtain ⟨hT, hC, hH, hK, hS⟩ := h
  have h5 := ok.2.2.1.2.1
  have hk2 := ok.2.2.2.2.2.2.2.1
  have k1 := hK.1
  refine mkRun (by decide +kernel) (Nat.le_of_ble_eq_true rfl) (fun X hF hR => ?_)
  refine jr_aload_n hF dX9_back_0 (q := 1) rfl rfl ?_
  refine jr_getR (ci := 9) (j := 9) hF dX9_back_1 (q := 4) rfl rfl rfl fl9_71 ?_
  refine jr_getI (ci := 6) (j := 0) hF 0 rfl dX9_back_4 (q := 7) rfl rfl rfl fl9_119 ?_
  rw [k1]
  refine jr_if_ne hF dX9_back_7 (q := 10) rfl 13 (by decide) (fun a1 => ?_) (fun a1 => ?_)
  · refine jr_aload_n hF dX9_back_13 (q := 14) rfl rfl ?_
    refine jr_getR (ci := 9) (j := 9) hF dX9_back_14 (q := 17) rfl rfl rfl fl9_71 ?_
    refine jr_aload_n hF dX9_back_17 (q := 18) rfl rfl ?_
    refine jr_getR (ci := 9) (j := 1) hF dX9_back_18 (q := 21) rfl rfl rfl fl9_19 ?_
    refine jr_cV1V hF (c_takeInto σ 4 pl4 nk (by omega) (fun k => σ (71 + k)) ⟨k1, fun _ _ _ _ _ => rfl⟩) dX9_back_21 (q := 24) rfl lk9_242 vX6_takeInto kX6_takeInto rfl rfl rfl (by decide) (Nat.le_of_ble_eq_true rfl) (fun σ1 hz => ?_)
    obtain ⟨⟨g1, g2⟩, g3, g4⟩ := hz
    refine jr_aload_n hF dX9_back_24 (q := 25) rfl rfl ?_
    refine jr_getR (ci := 9) (j := 8) hF dX9_back_25 (q := 28) rfl rfl rfl fl9_64 ?_
    refine jr_iconst hF dX9_back_28 (q := 29) rfl (by decide) ?_
    refine jr_putI (ci := 0) (j := 0) hF 0 rfl dX9_back_29 (q := 32) rfl rfl rfl fp9_118 ?_
    refine jr_aload_n hF dX9_back_32 (q := 33) rfl rfl ?_
    refine jr_getR (ci := 9) (j := 9) hF dX9_back_33 (q := 36) rfl rfl rfl fl9_71 ?_
    refine jr_getI (ci := 6) (j := 0) hF 0 rfl dX9_back_36 (q := 39) rfl rfl rfl fl9_119 ?_
    rw [up_ne (show 69 ≠ 66 by decide), g1]
    refine jr_retI hF hR dX9_back_39 rfl ⟨by rw [if_neg (by omega)]; omega, ?_, fun k hk => by rw [up_ne (by omega)]; exact g4 k (by omega) (by omega)⟩
    unfold nx_back
    rw [if_neg (by show ¬ nk = 0; omega)]
    have e2 := hK.2 (nk - 1) (by omega)
    obtain ⟨q1, q2, q3, q4, q5, q6, q7, q8⟩ := hC
    refine ⟨hT.fr ?_ ?_, ⟨?_, ?_, fun m hm => ?_, fun i hi => ?_, fun i m hi hm => ?_, fun i hi => ?_, ?_, ?_⟩, ⟨by simp [up], fun j hj => by omega⟩, ⟨?_, fun k hk => ?_⟩, hS.fr ?_ ?_ ?_⟩
    · rw [up_ne (by decide), g4 1 (by decide) (by decide)]
    · rw [up_ne (by decide), g4 2 (by decide) (by decide)]
    · rw [up_ne (by decide), g4 4 (by decide) (by decide)]; exact q1
    · rw [up_ne (by decide), g4 4 (by decide) (by decide)]; exact q2
    · rw [up_ne (by decide), g4 _ (by decide) (by decide)]; exact q3 m hm
    · rw [up_ne (by decide), g4 _ (by decide) (by decide)]; exact q4 i hi
    · replace hi : i < f_nl F := hi
      rw [up_ne (by omega), g4 _ (by omega) (by omega)]; exact q5 i m hi hm
    · replace hi : i < f_nl F := hi
      rw [up_ne (by decide), g3 _ (by omega) (by omega)]; exact e2.1 i hi
    · rw [up_ne (by decide), g3 _ (by omega) (by omega)]; exact e2.2.1
    · rw [up_ne (by decide), g3 _ (by omega) (by omega)]; exact e2.2.2
    · rw [up_ne (by decide)]; exact g1
    · replace hk : k < nk - 1 := hk
      rw [up_ne (by omega), g4 _ (by omega) (by omega)]
      exact hK.2 k (by omega)
    · rw [up_ne (by decide), g4 63 (by decide) (by decide)]
    · rw [up_ne (by decide), g4 64 (by decide) (by decide)]
    · rw [up_ne (by decide), g4 65 (by decide) (by decide)]
  · refine jr_bipush hF dX9_back_10 (q := 12) rfl (by decide) (by decide +kernel) ?_
    refine jr_retI hF hR dX9_back_12 rfl ⟨by rw [if_pos (by omega)], by unfold nx_back; rw [if_pos (show nk = 0 by omega)]; exact h0, fun _ _ => rfl⟩
set_option maxRecDepth 100000 in
theorem o_count (h : RC σ (len, B, F, nu, W, V, nk, S, ns, M, Y)) (what : Int) : RI mX9_count 10 [vR 0, vI what] σ (fun z σ' => z = an_count (len, B, F, nu, W, V, nk, S, ns, M, Y) what ∧ RC σ' (len, B, F, nu, W, V, nk, S, ns, M, Y) ∧ ∀ k, 73 ≤ k → σ' k = σ k) := by
  have h0 := h
  obtain ⟨hT, hC, hH, hK, hS⟩ := h
  refine mkRun (by decide +kernel) (Nat.le_of_ble_eq_true rfl) (fun X hF hR => ?_)
  refine jr_iload_n hF dX9_count_0 (q := 1) rfl rfl ?_
  by_cases hw : 0 ≤ what ∧ what ≤ 7
  · have : what = 0 ∨ what = 1 ∨ what = 2 ∨ what = 3 ∨ what = 4 ∨ what = 5 ∨ what = 6 ∨ what = 7 := by omega
    rcases this with rfl | rfl | rfl | rfl | rfl | rfl | rfl | rfl
    · refine jr_tin hF dX9_count_1 48 (by decide) (by decide) rfl (by decide) ?_
      refine jr_aload_n hF dX9_count_48 (q := 49) rfl rfl ?_
      refine jr_getR (ci := 9) (j := 1) hF dX9_count_49 (q := 52) rfl rfl rfl fl9_19 ?_
      refine jr_getI (ci := 4) (j := 0) hF 0 rfl dX9_count_52 (q := 55) rfl rfl rfl fl9_105 ?_
      refine jr_retI hF hR dX9_count_55 rfl ⟨hC.1, h0, fun _ _ => rfl⟩
    · refine jr_tin hF dX9_count_1 56 (by decide) (by decide) rfl (by decide) ?_
      refine jr_aload_n hF dX9_count_56 (q := 57) rfl rfl ?_
      refine jr_getR (ci := 9) (j := 1) hF dX9_count_57 (q := 60) rfl rfl rfl fl9_19 ?_
      refine jr_getI (ci := 4) (j := 1) hF 1 rfl dX9_count_60 (q := 63) rfl rfl rfl fl9_108 ?_
      refine jr_retI hF hR dX9_count_63 rfl ⟨hC.2.1, h0, fun _ _ => rfl⟩
    · refine jr_tin hF dX9_count_1 64 (by decide) (by decide) rfl (by decide) ?_
      refine jr_aload_n hF dX9_count_64 (q := 65) rfl rfl ?_
      refine jr_getR (ci := 9) (j := 1) hF dX9_count_65 (q := 68) rfl rfl rfl fl9_19 ?_
      refine jr_getR (ci := 4) (j := 5) hF dX9_count_68 (q := 71) rfl rfl rfl fl9_123 ?_
      refine jr_iconst hF dX9_count_71 (q := 72) rfl (by decide) ?_
      refine jr_iald hF dX9_count_72 (q := 73) rfl rfl (by omega) ?_
      refine jr_retI hF hR dX9_count_73 rfl ⟨hC.2.2.2.2.2.2.1, h0, fun _ _ => rfl⟩
    · refine jr_tin hF dX9_count_1 74 (by decide) (by decide) rfl (by decide) ?_
      refine jr_aload_n hF dX9_count_74 (q := 75) rfl rfl ?_
      refine jr_getR (ci := 9) (j := 1) hF dX9_count_75 (q := 78) rfl rfl rfl fl9_19 ?_
      refine jr_getR (ci := 4) (j := 5) hF dX9_count_78 (q := 81) rfl rfl rfl fl9_123 ?_
      refine jr_bipush hF dX9_count_81 (q := 83) rfl (by decide) (by decide +kernel) ?_
      refine jr_iald hF dX9_count_83 (q := 84) rfl rfl (by omega) ?_
      refine jr_retI hF hR dX9_count_84 rfl ⟨hC.2.2.2.2.2.2.2, h0, fun _ _ => rfl⟩
    · refine jr_tin hF dX9_count_1 85 (by decide) (by decide) rfl (by decide) ?_
      refine jr_aload_n hF dX9_count_85 (q := 86) rfl rfl ?_
      refine jr_getR (ci := 9) (j := 7) hF dX9_count_86 (q := 89) rfl rfl rfl fl9_57 ?_
      refine jr_getI (ci := 7) (j := 0) hF 0 rfl dX9_count_89 (q := 92) rfl rfl rfl fl9_115 ?_
      refine jr_retI hF hR dX9_count_92 rfl ⟨hS.1, h0, fun _ _ => rfl⟩
    · refine jr_tin hF dX9_count_1 93 (by decide) (by decide) rfl (by decide) ?_
      refine jr_aload_n hF dX9_count_93 (q := 94) rfl rfl ?_
      refine jr_getR (ci := 9) (j := 8) hF dX9_count_94 (q := 97) rfl rfl rfl fl9_64 ?_
      refine jr_getI (ci := 0) (j := 0) hF 0 rfl dX9_count_97 (q := 100) rfl rfl rfl fl9_118 ?_
      refine jr_retI hF hR dX9_count_100 rfl ⟨hH.1, h0, fun _ _ => rfl⟩
    · refine jr_tin hF dX9_count_1 101 (by decide) (by decide) rfl (by decide) ?_
      refine jr_aload_n hF dX9_count_101 (q := 102) rfl rfl ?_
      refine jr_getR (ci := 9) (j := 9) hF dX9_count_102 (q := 105) rfl rfl rfl fl9_71 ?_
      refine jr_getI (ci := 6) (j := 0) hF 0 rfl dX9_count_105 (q := 108) rfl rfl rfl fl9_119 ?_
      refine jr_retI hF hR dX9_count_108 rfl ⟨hK.1, h0, fun _ _ => rfl⟩
    · refine jr_tin hF dX9_count_1 109 (by decide) (by decide) rfl (by decide) ?_
      refine jr_aload_n hF dX9_count_109 (q := 110) rfl rfl ?_
      refine jr_getR (ci := 9) (j := 0) hF dX9_count_110 (q := 113) rfl rfl rfl fl9_12 ?_
      refine jr_getI (ci := 8) (j := 0) hF 0 rfl dX9_count_113 (q := 116) rfl rfl rfl fl9_93 ?_
      refine jr_retI hF hR dX9_count_116 rfl ⟨hT.1, h0, fun _ _ => rfl⟩
  · refine jr_tout hF dX9_count_1 117 (by omega) (by decide) ?_
    refine jr_iconst hF dX9_count_117 (q := 118) rfl (by decide) ?_
    refine jr_retI hF hR dX9_count_118 rfl ⟨by unfold an_count; rw [if_neg (by omega), if_neg (by omega), if_neg (by omega), if_neg (by omega), if_neg (by omega), if_neg (by omega), if_neg (by omega), if_neg (by omega)], h0, fun _ _ => rfl⟩
end

