/-- the reference's law w becomes v -/
def upM (σ : Sg) (w v : Int) : Sg := if w = 5 then up σ 81 0 v else if w = 6 then up σ 82 0 v else up σ 80 w v
theorem upM_ne {σ : Sg} {w v : Int} {k : Nat} (h : k < 80 ∨ 82 < k) : upM σ w v k = σ k := by
  unfold upM
  split
  · exact up_ne (by omega)
  · split <;> exact up_ne (by omega)
theorem upM_80 {σ : Sg} {w v : Int} {j : Int} (hw : w = 5 ∨ w = 6 ∨ j ≠ w) : upM σ w v 80 j = σ 80 j := by
  unfold upM
  split
  · rw [up_ne (by decide)]
  · split
    · rw [up_ne (by decide)]
    · unfold up
      rw [if_neg (by omega)]
theorem upM_81 {σ : Sg} {w v : Int} {j : Int} (hw : w ≠ 5 ∨ j ≠ 0) : upM σ w v 81 j = σ 81 j := by
  unfold upM
  split
  · unfold up
    rw [if_neg (by omega)]
  · split <;> rw [up_ne (by decide)]
theorem upM_82 {σ : Sg} {w v : Int} {j : Int} (hw : w ≠ 6 ∨ j ≠ 0) : upM σ w v 82 j = σ 82 j := by
  unfold upM
  split
  · rw [up_ne (by decide)]
  · split
    · unfold up
      rw [if_neg (by omega)]
    · rw [up_ne (by decide)]
theorem RepM.set {σ : Sg} {F : FD} (h : RepM σ F) (h5 : f_nl F ≤ 5) {w : Int} (hw : (0 ≤ w ∧ w < f_nl F) ∨ w = 5 ∨ w = 6) (v : Int) : RepM (upM σ w v) (f_set F w v) := by
  obtain ⟨q1, q2, q3, q4, q5, q6, q7, q8⟩ := h
  unfold f_set
  by_cases e5 : w = 5
  · subst e5
    rw [if_pos rfl]
    refine ⟨?_, ?_, fun m hm => ?_, fun k hk => ?_, fun k m hk hm => ?_, fun k hk => ?_, ?_, ?_⟩
    · rw [upM_ne (by omega)]; exact q1
    · rw [upM_ne (by omega)]; exact q2
    · rw [upM_ne (by omega)]; exact q3 m hm
    · rw [upM_ne (by omega)]; exact q4 k hk
    · rw [upM_ne (by omega)]; exact q5 k m hk hm
    · rw [upM_80 (by omega)]; exact q6 k hk
    · simp [upM, up, f_cal]
    · rw [upM_82 (by omega)]; exact q8
  · rw [if_neg e5]
    by_cases e6 : w = 6
    · subst e6
      rw [if_pos rfl]
      refine ⟨?_, ?_, fun m hm => ?_, fun k hk => ?_, fun k m hk hm => ?_, fun k hk => ?_, ?_, ?_⟩
      · rw [upM_ne (by omega)]; exact q1
      · rw [upM_ne (by omega)]; exact q2
      · rw [upM_ne (by omega)]; exact q3 m hm
      · rw [upM_ne (by omega)]; exact q4 k hk
      · rw [upM_ne (by omega)]; exact q5 k m hk hm
      · rw [upM_80 (by omega)]; exact q6 k hk
      · rw [upM_81 (by omega)]; exact q7
      · simp [upM, up, f_stp]
    · rw [if_neg e6]
      obtain ⟨i, rfl⟩ : ∃ i : Nat, w = (i : Int) := ⟨w.toNat, by omega⟩
      refine ⟨?_, ?_, fun m hm => ?_, fun k hk => ?_, fun k m hk hm => ?_, fun k hk => ?_, ?_, ?_⟩
      · rw [upM_ne (by omega)]; exact q1
      · rw [upM_ne (by omega)]; exact q2
      · rw [upM_ne (by omega)]; exact q3 m hm
      · rw [upM_ne (by omega)]; exact q4 k hk
      · rw [upM_ne (by omega)]; exact q5 k m hk hm
      · show _ = st1 (f_lm F) (i : Int).toNat v k
        unfold upM st1
        rw [if_neg e5, if_neg e6, up_nat, show ((i : Int)).toNat = i by omega]
        split
        · rfl
        · exact q6 k hk
      · rw [upM_81 (by omega)]; exact q7
      · rw [upM_82 (by omega)]; exact q8
theorem RepM.get {σ : Sg} {F : FD} (h : RepM σ F) {w : Int} (hw : (0 ≤ w ∧ w < f_nl F) ∨ w = 5 ∨ w = 6) (h5 : f_nl F ≤ 5) : (if w = 5 then σ 81 0 else if w = 6 then σ 82 0 else σ 80 w) = f_get F w := by
  unfold f_get
  by_cases e5 : w = 5
  · rw [if_pos e5, if_pos e5]; exact h.2.2.2.2.2.2.1
  · rw [if_neg e5, if_neg e5]
    by_cases e6 : w = 6
    · rw [if_pos e6, if_pos e6]; exact h.2.2.2.2.2.2.2
    · rw [if_neg e6, if_neg e6]
      obtain ⟨i, rfl⟩ : ∃ i : Nat, w = (i : Int) := ⟨w.toNat, by omega⟩
      exact h.lim (by omega)
theorem KM.set {σ : Sg} {nl n : Nat} {S : Nat → Int → Int} (h : KM σ nl n S) {w v : Int} (hw : (0 ≤ w ∧ w < 5) ∨ w = 5 ∨ w = 6) : KM (upM σ w v) nl n S := by
  obtain ⟨k1, k2⟩ := h
  refine ⟨by rw [upM_ne (by omega)]; exact k1, fun k hk => ⟨fun i hi => ?_, ?_, ?_⟩⟩
  · rw [upM_80 (by omega)]; exact (k2 k hk).1 i hi
  · rw [upM_81 (by omega)]; exact (k2 k hk).2.1
  · rw [upM_82 (by omega)]; exact (k2 k hk).2.2
set_option maxRecDepth 100000 in
theorem m_note (σ : Sg) (n : Nat) (hn : n ≤ 8) (W V : Nat → Int) (hC : UM σ n W V) (w v : Int) : RI mX10_note 1 [vR 73, vI w, vI v] σ (fun z σ' => z = v ∧ UM σ' (nn8 n) (nt n W w) (nt n V v) ∧ (∀ k, k ≠ 73 → k ≠ 83 → σ' k = σ k) ∧ ∀ j, j ≠ 11 → σ' 73 j = σ 73 j) := by
  obtain ⟨c1, c2⟩ := hC
  refine mkRun (by decide +kernel) (Nat.le_of_ble_eq_true rfl) (fun X hF hR => ?_)
  have main : ∀ (n' : Nat) (σ1 : Sg) (W' V' : Nat → Int) (l3 : Option PV), n' < 8 → σ1 73 11 = (n' : Int) → (∀ j : Nat, j < n' → σ1 83 (2 * (j : Int)) = W' j ∧ σ1 83 (2 * (j : Int) + 1) = V' j) → nn8 n = n' + 1 → nt n W w = st1 W' n' w → nt n V v = st1 V' n' v → (∀ k, k ≠ 73 → k ≠ 83 → σ1 k = σ k) → (∀ j, j ≠ 11 → σ1 73 j = σ 73 j) → Gs X 47 [some (vR 73), some (vI w), some (vI v), none] [] σ1 := by
    intro n' σ1 W' V' l3 hn' d1 d2 d3 d4 d5 d6 d7
    refine jr_aload_n hF dX10_note_47 (q := 48) rfl rfl ?_
    refine jr_getR (ci := 10) (j := 12) hF dX10_note_48 (q := 51) rfl rfl rfl fl10_37 ?_
    refine jr_iconst hF dX10_note_51 (q := 52) rfl (by decide) ?_
    refine jr_aload_n hF dX10_note_52 (q := 53) rfl rfl ?_
    refine jr_getI (ci := 10) (j := 11) hF 11 rfl dX10_note_53 (q := 56) rfl rfl rfl fl10_125 ?_
    rw [d1]
    refine jr_imul hF dX10_note_56 (q := 57) rfl (by omega) ?_
    refine jr_iload_n hF dX10_note_57 (q := 58) rfl rfl ?_
    refine jr_iast hF dX10_note_58 (q := 59) rfl rfl (by omega) ?_
    refine jr_aload_n hF dX10_note_59 (q := 60) rfl rfl ?_
    refine jr_getR (ci := 10) (j := 12) hF dX10_note_60 (q := 63) rfl rfl rfl fl10_37 ?_
    refine jr_iconst hF dX10_note_63 (q := 64) rfl (by decide) ?_
    refine jr_aload_n hF dX10_note_64 (q := 65) rfl rfl ?_
    refine jr_getI (ci := 10) (j := 11) hF 11 rfl dX10_note_65 (q := 68) rfl rfl rfl fl10_125 ?_
    rw [up_ne (show (73 : Nat) ≠ 83 by decide), d1]
    refine jr_imul hF dX10_note_68 (q := 69) rfl (by omega) ?_
    refine jr_iconst hF dX10_note_69 (q := 70) rfl (by decide) ?_
    refine jr_iadd hF dX10_note_70 (q := 71) rfl (by omega) ?_
    refine jr_iload_n hF dX10_note_71 (q := 72) rfl rfl ?_
    refine jr_iast hF dX10_note_72 (q := 73) rfl rfl (by omega) ?_
    refine jr_aload_n hF dX10_note_73 (q := 74) rfl rfl ?_
    refine jr_dup hF dX10_note_74 (q := 75) rfl rfl ?_
    refine jr_getI (ci := 10) (j := 11) hF 11 rfl dX10_note_75 (q := 78) rfl rfl rfl fl10_125 ?_
    rw [up_ne (show (73 : Nat) ≠ 83 by decide), up_ne (show (73 : Nat) ≠ 83 by decide), d1]
    refine jr_iconst hF dX10_note_78 (q := 79) rfl (by decide) ?_
    refine jr_iadd hF dX10_note_79 (q := 80) rfl (by omega) ?_
    refine jr_putI (ci := 10) (j := 11) hF 11 rfl dX10_note_80 (q := 83) rfl rfl rfl fp10_125 ?_
    refine jr_iload_n hF dX10_note_83 (q := 84) rfl rfl ?_
    refine jr_retI hF hR dX10_note_84 rfl ⟨rfl, ⟨?_, fun j hj => ⟨?_, ?_⟩⟩, fun k h1 h2 => ?_, fun j hj => ?_⟩
    · rw [d3]; simp [up]
    · rw [d3] at hj
      rw [d4, up_ne (by decide)]
      unfold up st1
      rw [if_neg (by omega)]
      by_cases e : j = n'
      · rw [if_pos (by omega), if_pos e]
      · rw [if_neg (by omega), if_neg e]
        exact (d2 j (by omega)).1
    · rw [d3] at hj
      rw [d5, up_ne (by decide)]
      unfold up st1
      by_cases e : j = n'
      · rw [if_pos (by omega), if_pos e]
      · rw [if_neg (by omega), if_neg (by omega), if_neg e]
        exact (d2 j (by omega)).2
    · rw [up_ne h1, up_ne h2, up_ne h2]; exact d6 k h1 h2
    · unfold up
      rw [if_neg (by omega), if_neg (by omega), if_neg (by omega)]
      exact d7 j hj
  refine jr_aload_n hF dX10_note_0 (q := 1) rfl rfl ?_
  refine jr_getI (ci := 10) (j := 11) hF 11 rfl dX10_note_1 (q := 4) rfl rfl rfl fl10_125 ?_
  rw [c1]
  refine jr_bipush hF dX10_note_4 (q := 6) rfl (by decide) (by decide +kernel) ?_
  refine jr_icmp_ne hF dX10_note_6 (q := 9) rfl 47 (by decide) (fun a1 => ?_) (fun a1 => ?_)
  · exact main n σ W V none (by omega) c1 c2 (by unfold nn8; rw [if_pos (by omega)]) (by unfold nt; rw [if_pos (by omega)]) (by unfold nt; rw [if_pos (by omega)]) (fun _ _ _ => rfl) (fun _ _ => rfl)
  · have en : n = 8 := by omega
    subst en
    refine jr_iconst hF dX10_note_9 (q := 10) rfl (by decide) ?_
    refine jr_istore_n hF dX10_note_10 (q := 11) rfl (by decide) rfl ?_
    refine gs_loop (α := Sg) (fun k _ => [some (vR 73), some (vI w), some (vI v), some (vI (k : Int))]) (fun σ' => σ') (fun k σ' => (∀ j : Int, σ' 83 j = if 0 ≤ j ∧ j < (k : Int) then σ 83 (j + 2) else σ 83 j) ∧ ∀ c, c ≠ 83 → σ' c = σ c) 14 (fun σ1 h1 => ?_) (fun k σ1 hk h1 ih => ?_) σ ⟨fun j => by rw [if_neg (by omega)], fun _ _ => rfl⟩
    · obtain ⟨i1, i2⟩ := h1
      refine jr_iload_n hF dX10_note_11 (q := 12) rfl rfl ?_
      refine jr_bipush hF dX10_note_12 (q := 14) rfl (by decide) (by decide +kernel) ?_
      refine jr_icmp_ge hF dX10_note_14 (q := 17) rfl 37 (by decide) (fun a2 => ?_) (fun a2 => ?_)
      · refine jr_aload_n hF dX10_note_37 (q := 38) rfl rfl ?_
        refine jr_dup hF dX10_note_38 (q := 39) rfl rfl ?_
        refine jr_getI (ci := 10) (j := 11) hF 11 rfl dX10_note_39 (q := 42) rfl rfl rfl fl10_125 ?_
        rw [i2 73 (by decide), c1]
        refine jr_fg 3 ?_
        refine jr_iconst hF dX10_note_42 (q := 43) rfl (by decide) ?_
        refine jr_isub hF dX10_note_43 (q := 44) rfl (by omega) ?_
        refine jr_putI (ci := 10) (j := 11) hF 11 rfl dX10_note_44 (q := 47) rfl rfl rfl fp10_125 ?_
        refine main 7 _ (fun j => W (j + 1)) (fun j => V (j + 1)) none (by decide) (by simp [up]) (fun j hj => ⟨?_, ?_⟩) (by decide) (by unfold nt; rw [if_neg (by decide)]) (by unfold nt; rw [if_neg (by decide)]) (fun k h1 h2 => by rw [up_ne h1, i2 k h2]) (fun j hj => ?_)
        · rw [up_ne (by decide), i1, if_pos (by omega), show 2 * (j : Int) + 2 = 2 * ((j + 1 : Nat) : Int) by omega]
          exact (c2 (j + 1) (by omega)).1
        · rw [up_ne (by decide), i1, if_pos (by omega), show 2 * (j : Int) + 1 + 2 = 2 * ((j + 1 : Nat) : Int) + 1 by omega]
          exact (c2 (j + 1) (by omega)).2
        · rw [← i2 73 (by decide)]
          simp [up, hj]
      · omega
    · obtain ⟨i1, i2⟩ := h1
      refine jr_iload_n hF dX10_note_11 (q := 12) rfl rfl ?_
      refine jr_bipush hF dX10_note_12 (q := 14) rfl (by decide) (by decide +kernel) ?_
      refine jr_icmp_ge hF dX10_note_14 (q := 17) rfl 37 (by decide) (fun a2 => ?_) (fun a2 => ?_)
      · omega
      · have e : σ1 83 ((k : Int) + 2) = σ 83 ((k : Int) + 2) := by rw [i1, if_neg (by omega)]
        have ih1 := ih (up σ1 83 (k : Int) (σ 83 ((k : Int) + 2))) ⟨fun j => ?_, fun c hc => by rw [up_ne hc]; exact i2 c hc⟩
        · refine jr_aload_n hF dX10_note_17 (q := 18) rfl rfl ?_
          refine jr_getR (ci := 10) (j := 12) hF dX10_note_18 (q := 21) rfl rfl rfl fl10_37 ?_
          refine jr_iload_n hF dX10_note_21 (q := 22) rfl rfl ?_
          refine jr_aload_n hF dX10_note_22 (q := 23) rfl rfl ?_
          refine jr_getR (ci := 10) (j := 12) hF dX10_note_23 (q := 26) rfl rfl rfl fl10_37 ?_
          refine jr_iload_n hF dX10_note_26 (q := 27) rfl rfl ?_
          refine jr_iconst hF dX10_note_27 (q := 28) rfl (by decide) ?_
          refine jr_iadd hF dX10_note_28 (q := 29) rfl (by omega) ?_
          refine jr_iald hF dX10_note_29 (q := 30) rfl rfl (by omega) ?_
          rw [e]
          refine jr_iast hF dX10_note_30 (q := 31) rfl rfl (by omega) ?_
          refine jr_iinc hF dX10_note_31 (q := 34) rfl (by decide) rfl rfl (by omega) ?_
          refine jr_goto hF dX10_note_34 11 (by decide) ?_
          exact ih1
        · unfold up
          by_cases ej : j = (k : Int)
          · rw [if_pos ⟨rfl, ej⟩, if_pos (by omega), ej]
          · rw [if_neg (by omega), i1]
            by_cases ek : 0 ≤ j ∧ j < (k : Int)
            · rw [if_pos ek, if_pos (by omega)]
            · rw [if_neg ek, if_neg (by omega)]
section
variable (σ : Sg) (len : Nat) (B : Nat → Int) (F : FD) (nu : Nat) (W V : Nat → Int) (nk : Nat) (S : Nat → Int → Int) (ns : Nat) (M Y : Nat → Int)
/-- a change noted and made -/
theorem RM_chg (h : RM σ (len, B, F, nu, W, V, nk, S, ns, M, Y)) (ok : okA (len, B, F, nu, W, V, nk, S, ns, M, Y)) {σ' : Sg} {w v : Int} (hw : (0 ≤ w ∧ w < f_nl F) ∨ w = 5 ∨ w = 6) (h1 : UM σ' (nn8 nu) (nt nu W w) (nt nu V (f_get F w))) (h2 : ∀ k, k ≠ 73 → k ≠ 83 → σ' k = σ k) (h3 : ∀ j, j ≠ 11 → σ' 73 j = σ 73 j) : RM (upM σ' w v) (nx_chg (len, B, F, nu, W, V, nk, S, ns, M, Y) w v) := by
  obtain ⟨⟨t1, t3⟩, hC, -, ⟨k1, k2⟩, s1, s2⟩ := h
  have h5 := ok.2.2.1.2.1
  replace h5 : f_nl F ≤ 5 := h5
  have hK : KM σ' (f_nl F) nk S := ⟨by rw [h3 10 (by decide)]; exact k1, fun k hk => by rw [h2 80 (by decide) (by decide), h2 81 (by decide) (by decide), h2 82 (by decide) (by decide)]; exact k2 k hk⟩
  have hR : RepM σ' F := hC.fr (fun k l1 l2 => h2 k (by omega) (by omega))
  refine ⟨⟨?_, fun k hk => ?_⟩, hR.set h5 hw v, ⟨?_, fun j hj => ?_⟩, ?_, ?_, fun j hj => ?_⟩
  · rw [upM_ne (by omega), h3 0 (by decide)]; exact t1
  · rw [upM_ne (by omega), h2 74 (by decide) (by decide)]; exact t3 k hk
  · rw [upM_ne (by omega)]; exact h1.1
  · rw [upM_ne (by omega)]; exact h1.2 j hj
  · rw [(f_set_nl F w v).1]
    exact hK.set (by omega)
  · rw [upM_ne (by omega), h3 13 (by decide)]; exact s1
  · rw [upM_ne (by omega), upM_ne (by omega), h2 84 (by decide) (by decide), h2 85 (by decide) (by decide)]; exact s2 j hj
set_option maxRecDepth 100000 in
theorem m_limit (h : RM σ (len, B, F, nu, W, V, nk, S, ns, M, Y)) (ok : okA (len, B, F, nu, W, V, nk, S, ns, M, Y)) (i l : Int) : RI mX10_limit 10 [vR 73, vI i, vI l] σ (fun z σ' => z = (if (0 ≤ i ∧ i < f_nl F) ∧ 1 ≤ l ∧ l ≤ 10 then f_get F i else -1) ∧ RM σ' (if (0 ≤ i ∧ i < f_nl F) ∧ 1 ≤ l ∧ l ≤ 10 then nx_chg (len, B, F, nu, W, V, nk, S, ns, M, Y) i l else (len, B, F, nu, W, V, nk, S, ns, M, Y)) ∧ ∀ k, k < 73 → σ' k = σ k) := by
  have hC := h.2.1
  have okF' := ok.2.2.1
  have h5 := okF'.2.1
  have hnu : nu ≤ 8 := ok.2.2.2.2.2.1
  refine mkRun (by decide +kernel) (Nat.le_of_ble_eq_true rfl) (fun X hF hR => ?_)
  have hbad : ¬ ((0 ≤ i ∧ i < f_nl F) ∧ 1 ≤ l ∧ l ≤ 10) → Gs X 20 [some (vR 73), some (vI i), some (vI l), none] [] σ := by
    intro hc
    rw [if_neg hc, if_neg hc] at hR
    refine jr_iconst hF dX10_limit_20 (q := 21) rfl (by decide) ?_
    refine jr_retI hF hR dX10_limit_21 rfl ⟨rfl, h, fun _ _ => rfl⟩
  refine jr_aload_n hF dX10_limit_0 (q := 1) rfl rfl ?_
  refine jr_iload_n hF dX10_limit_1 (q := 2) rfl rfl ?_
  refine jr_cV1I hF (m_isLad σ F hC okF' i) dX10_limit_2 (q := 5) rfl lk10_177 vX10_isLad kX10_isLad rfl rfl rfl (by decide) (Nat.le_of_ble_eq_true rfl) (fun z σ1 hz => ?_)
  obtain ⟨rfl, rfl⟩ := hz
  refine jr_if_eq hF dX10_limit_5 (q := 8) rfl 20 (by decide) (fun a1 => ?_) (fun a1 => ?_)
  · exact hbad (fun hh => by rw [if_pos (by omega)] at a1; omega)
  · have b1 : 0 ≤ i ∧ i < f_nl F := Classical.byContradiction fun h => a1 (by rw [if_neg h])
    refine jr_iload_n hF dX10_limit_8 (q := 9) rfl rfl ?_
    refine jr_i2l hF dX10_limit_9 (q := 10) rfl ?_
    refine jr_lconst hF 1 dX10_limit_10 (q := 11) rfl (by decide) (by decide +kernel) ?_
    refine jr_ldc2 hF 10 dX10_limit_11 (q := 14) rfl kl10_108 (by decide) (by decide +kernel) ?_
    refine jr_cS3I hF (m_in σ l 1 10) dX10_limit_14 (q := 17) rfl lk10_79 vX10_in kX10_in (by decide) (Nat.le_of_ble_eq_true rfl) (fun z σ1 hz => ?_)
    obtain ⟨rfl, rfl⟩ := hz
    refine jr_if_ne hF dX10_limit_17 (q := 20) rfl 22 (by decide) (fun a2 => ?_) (fun a2 => ?_)
    · have b2 : 1 ≤ l ∧ l ≤ 10 := Classical.byContradiction fun h => a2 (by rw [if_neg h])
      rw [if_pos ⟨b1, b2⟩, if_pos ⟨b1, b2⟩] at hR
      have hg := hC.get (w := i) (Or.inl b1) h5
      rw [if_neg (by omega), if_neg (by omega)] at hg
      refine jr_aload_n hF dX10_limit_22 (q := 23) rfl rfl ?_
      refine jr_iload_n hF dX10_limit_23 (q := 24) rfl rfl ?_
      refine jr_aload_n hF dX10_limit_24 (q := 25) rfl rfl ?_
      refine jr_getR (ci := 10) (j := 7) hF dX10_limit_25 (q := 28) rfl rfl rfl fl10_28 ?_
      refine jr_iload_n hF dX10_limit_28 (q := 29) rfl rfl ?_
      refine jr_iald hF dX10_limit_29 (q := 30) rfl rfl (by omega) ?_
      rw [hg]
      refine jr_cV2I hF (m_note σ nu hnu W V h.2.2.1 i (f_get F i)) dX10_limit_30 (q := 33) rfl lk10_197 vX10_note kX10_note rfl rfl rfl (by decide) (Nat.le_of_ble_eq_true rfl) (fun z σ1 hz => ?_)
      obtain ⟨rfl, g1, g2, g3⟩ := hz
      refine jr_istore_n hF dX10_limit_33 (q := 34) rfl (by decide) rfl ?_
      refine jr_aload_n hF dX10_limit_34 (q := 35) rfl rfl ?_
      refine jr_getR (ci := 10) (j := 7) hF dX10_limit_35 (q := 38) rfl rfl rfl fl10_28 ?_
      refine jr_iload_n hF dX10_limit_38 (q := 39) rfl rfl ?_
      refine jr_iload_n hF dX10_limit_39 (q := 40) rfl rfl ?_
      refine jr_iast hF dX10_limit_40 (q := 41) rfl rfl (by omega) ?_
      refine jr_iload_n hF dX10_limit_41 (q := 42) rfl rfl ?_
      refine jr_retI hF hR dX10_limit_42 rfl ⟨rfl, ?_, fun k hk => by rw [up_ne (by omega)]; exact g2 k (by omega) (by omega)⟩
      have := RM_chg σ len B F nu W V nk S ns M Y h ok (v := l) (Or.inl b1) g1 g2 g3
      unfold upM at this
      rw [if_neg (by omega), if_neg (by omega)] at this
      exact this
    · exact hbad (fun hh => by rw [if_pos (by omega)] at a2; omega)
set_option maxRecDepth 100000 in
theorem m_calls (h : RM σ (len, B, F, nu, W, V, nk, S, ns, M, Y)) (ok : okA (len, B, F, nu, W, V, nk, S, ns, M, Y)) (k : Int) : RI mX10_calls 10 [vR 73, vI k] σ (fun z σ' => z = (if 0 ≤ k ∧ k ≤ 2 then f_get F 5 else -1) ∧ RM σ' (if 0 ≤ k ∧ k ≤ 2 then nx_chg (len, B, F, nu, W, V, nk, S, ns, M, Y) 5 k else (len, B, F, nu, W, V, nk, S, ns, M, Y)) ∧ ∀ k, k < 73 → σ' k = σ k) := by
  have hC := h.2.1
  have h5 := ok.2.2.1.2.1
  have hnu : nu ≤ 8 := ok.2.2.2.2.2.1
  refine mkRun (by decide +kernel) (Nat.le_of_ble_eq_true rfl) (fun X hF hR => ?_)
  refine jr_iload_n hF dX10_calls_0 (q := 1) rfl rfl ?_
  refine jr_i2l hF dX10_calls_1 (q := 2) rfl ?_
  refine jr_lconst hF 0 dX10_calls_2 (q := 3) rfl (by decide) (by decide +kernel) ?_
  refine jr_ldc2 hF 2 dX10_calls_3 (q := 6) rfl kl10_100 (by decide) (by decide +kernel) ?_
  refine jr_cS3I hF (m_in σ k 0 2) dX10_calls_6 (q := 9) rfl lk10_79 vX10_in kX10_in (by decide) (Nat.le_of_ble_eq_true rfl) (fun z σ1 hz => ?_)
  obtain ⟨rfl, rfl⟩ := hz
  refine jr_if_ne hF dX10_calls_9 (q := 12) rfl 14 (by decide) (fun a2 => ?_) (fun a2 => ?_)
  · have b2 : 0 ≤ k ∧ k ≤ 2 := Classical.byContradiction fun h => a2 (by rw [if_neg h])
    rw [if_pos b2, if_pos b2] at hR
    have hg := hC.get (w := 5) (Or.inr (Or.inl rfl)) h5
    rw [if_pos rfl] at hg
    refine jr_aload_n hF dX10_calls_14 (q := 15) rfl rfl ?_
    refine jr_iconst hF dX10_calls_15 (q := 16) rfl (by decide) ?_
    refine jr_aload_n hF dX10_calls_16 (q := 17) rfl rfl ?_
    refine jr_getR (ci := 10) (j := 8) hF dX10_calls_17 (q := 20) rfl rfl rfl fl10_31 ?_
    refine jr_iconst hF dX10_calls_20 (q := 21) rfl (by decide) ?_
    refine jr_iald hF dX10_calls_21 (q := 22) rfl rfl (by omega) ?_
    rw [hg]
    refine jr_cV2I hF (m_note σ nu hnu W V h.2.2.1 5 (f_get F 5)) dX10_calls_22 (q := 25) rfl lk10_197 vX10_note kX10_note rfl rfl rfl (by decide) (Nat.le_of_ble_eq_true rfl) (fun z σ1 hz => ?_)
    obtain ⟨rfl, g1, g2, g3⟩ := hz
    refine jr_istore_n hF dX10_calls_25 (q := 26) rfl (by decide) rfl ?_
    refine jr_aload_n hF dX10_calls_26 (q := 27) rfl rfl ?_
    refine jr_getR (ci := 10) (j := 8) hF dX10_calls_27 (q := 30) rfl rfl rfl fl10_31 ?_
    refine jr_iconst hF dX10_calls_30 (q := 31) rfl (by decide) ?_
    refine jr_iload_n hF dX10_calls_31 (q := 32) rfl rfl ?_
    refine jr_iast hF dX10_calls_32 (q := 33) rfl rfl (by omega) ?_
    refine jr_iload_n hF dX10_calls_33 (q := 34) rfl rfl ?_
    refine jr_retI hF hR dX10_calls_34 rfl ⟨rfl, ?_, fun k hk => by rw [up_ne (by omega)]; exact g2 k (by omega) (by omega)⟩
    have := RM_chg σ len B F nu W V nk S ns M Y h ok (v := k) (Or.inr (Or.inl rfl)) g1 g2 g3
    unfold upM at this
    rw [if_pos rfl] at this
    exact this
  · have b2 : ¬ (0 ≤ k ∧ k ≤ 2) := fun h => by rw [if_pos h] at a2; omega
    rw [if_neg b2, if_neg b2] at hR
    refine jr_iconst hF dX10_calls_12 (q := 13) rfl (by decide) ?_
    refine jr_retI hF hR dX10_calls_13 rfl ⟨rfl, h, fun _ _ => rfl⟩
set_option maxRecDepth 100000 in
theorem m_step (h : RM σ (len, B, F, nu, W, V, nk, S, ns, M, Y)) (ok : okA (len, B, F, nu, W, V, nk, S, ns, M, Y)) (k : Int) : RI mX10_step 10 [vR 73, vI k] σ (fun z σ' => z = (if 1 ≤ k ∧ k ≤ 3 then f_get F 6 else -1) ∧ RM σ' (if 1 ≤ k ∧ k ≤ 3 then nx_chg (len, B, F, nu, W, V, nk, S, ns, M, Y) 6 k else (len, B, F, nu, W, V, nk, S, ns, M, Y)) ∧ ∀ k, k < 73 → σ' k = σ k) := by
  have hC := h.2.1
  have h5 := ok.2.2.1.2.1
  have hnu : nu ≤ 8 := ok.2.2.2.2.2.1
  refine mkRun (by decide +kernel) (Nat.le_of_ble_eq_true rfl) (fun X hF hR => ?_)
  refine jr_iload_n hF dX10_step_0 (q := 1) rfl rfl ?_
  refine jr_i2l hF dX10_step_1 (q := 2) rfl ?_
  refine jr_lconst hF 1 dX10_step_2 (q := 3) rfl (by decide) (by decide +kernel) ?_
  refine jr_ldc2 hF 3 dX10_step_3 (q := 6) rfl kl10_106 (by decide) (by decide +kernel) ?_
  refine jr_cS3I hF (m_in σ k 1 3) dX10_step_6 (q := 9) rfl lk10_79 vX10_in kX10_in (by decide) (Nat.le_of_ble_eq_true rfl) (fun z σ1 hz => ?_)
  obtain ⟨rfl, rfl⟩ := hz
  refine jr_if_ne hF dX10_step_9 (q := 12) rfl 14 (by decide) (fun a2 => ?_) (fun a2 => ?_)
  · have b2 : 1 ≤ k ∧ k ≤ 3 := Classical.byContradiction fun h => a2 (by rw [if_neg h])
    rw [if_pos b2, if_pos b2] at hR
    have hg := hC.get (w := 6) (Or.inr (Or.inr rfl)) h5
    rw [if_neg (by decide), if_pos rfl] at hg
    refine jr_aload_n hF dX10_step_14 (q := 15) rfl rfl ?_
    refine jr_bipush hF dX10_step_15 (q := 17) rfl (by decide) (by decide +kernel) ?_
    refine jr_aload_n hF dX10_step_17 (q := 18) rfl rfl ?_
    refine jr_getR (ci := 10) (j := 9) hF dX10_step_18 (q := 21) rfl rfl rfl fl10_34 ?_
    refine jr_iconst hF dX10_step_21 (q := 22) rfl (by decide) ?_
    refine jr_iald hF dX10_step_22 (q := 23) rfl rfl (by omega) ?_
    rw [hg]
    refine jr_cV2I hF (m_note σ nu hnu W V h.2.2.1 6 (f_get F 6)) dX10_step_23 (q := 26) rfl lk10_197 vX10_note kX10_note rfl rfl rfl (by decide) (Nat.le_of_ble_eq_true rfl) (fun z σ1 hz => ?_)
    obtain ⟨rfl, g1, g2, g3⟩ := hz
    refine jr_istore_n hF dX10_step_26 (q := 27) rfl (by decide) rfl ?_
    refine jr_aload_n hF dX10_step_27 (q := 28) rfl rfl ?_
    refine jr_getR (ci := 10) (j := 9) hF dX10_step_28 (q := 31) rfl rfl rfl fl10_34 ?_
    refine jr_iconst hF dX10_step_31 (q := 32) rfl (by decide) ?_
    refine jr_iload_n hF dX10_step_32 (q := 33) rfl rfl ?_
    refine jr_iast hF dX10_step_33 (q := 34) rfl rfl (by omega) ?_
    refine jr_iload_n hF dX10_step_34 (q := 35) rfl rfl ?_
    refine jr_retI hF hR dX10_step_35 rfl ⟨rfl, ?_, fun k hk => by rw [up_ne (by omega)]; exact g2 k (by omega) (by omega)⟩
    have := RM_chg σ len B F nu W V nk S ns M Y h ok (v := k) (Or.inr (Or.inr rfl)) g1 g2 g3
    unfold upM at this
    rw [if_neg (by decide), if_pos rfl] at this
    exact this
  · have b2 : ¬ (1 ≤ k ∧ k ≤ 3) := fun h => by rw [if_pos h] at a2; omega
    rw [if_neg b2, if_neg b2] at hR
    refine jr_iconst hF dX10_step_12 (q := 13) rfl (by decide) ?_
    refine jr_retI hF hR dX10_step_13 rfl ⟨rfl, h, fun _ _ => rfl⟩
end

