/-! ===== the reference: who is in, the calls, the fair ===== -/
set_option maxRecDepth 100000 in
theorem m_in (σ : Sg) (a lo hi : Int) : RI mX10_in 1 [vL a, vL lo, vL hi] σ (fun z σ' => z = (if lo ≤ a ∧ a ≤ hi then 1 else 0) ∧ σ = σ') := by
  refine mkRun (by decide +kernel) (Nat.le_of_ble_eq_true rfl) (fun X hF hR => ?_)
  refine jr_lload_n hF dX10_in_0 (q := 1) rfl rfl ?_
  refine jr_lload_n hF dX10_in_1 (q := 2) rfl rfl ?_
  refine jr_lcmp hF dX10_in_2 (q := 3) rfl ?_
  refine jr_if_lt hF dX10_in_3 (q := 6) rfl 17 (by decide) (fun h1 => ?_) (fun h1 => ?_)
  · have : a < lo := by split at h1 <;> (try split at h1) <;> omega
    refine jr_iconst hF dX10_in_17 (q := 18) rfl (by decide) ?_
    refine jr_retZ hF hR dX10_in_18 rfl (by first | exact Or.inl rfl | exact Or.inr rfl | omega) ⟨by rw [if_neg (by omega)], rfl⟩
  · have : lo ≤ a := by split at h1 <;> (try split at h1) <;> omega
    refine jr_lload_n hF dX10_in_6 (q := 7) rfl rfl ?_
    refine jr_lload hF dX10_in_7 (q := 9) rfl rfl ?_
    refine jr_lcmp hF dX10_in_9 (q := 10) rfl ?_
    refine jr_if_gt hF dX10_in_10 (q := 13) rfl 17 (by decide) (fun h2 => ?_) (fun h2 => ?_)
    · have : hi < a := by split at h2 <;> (try split at h2) <;> omega
      refine jr_iconst hF dX10_in_17 (q := 18) rfl (by decide) ?_
      refine jr_retZ hF hR dX10_in_18 rfl (by first | exact Or.inl rfl | exact Or.inr rfl | omega) ⟨by rw [if_neg (by omega)], rfl⟩
    · have : a ≤ hi := by split at h2 <;> (try split at h2) <;> omega
      refine jr_iconst hF dX10_in_13 (q := 14) rfl (by decide) ?_
      refine jr_goto hF dX10_in_14 18 (by decide) ?_
      refine jr_retZ hF hR dX10_in_18 rfl (by first | exact Or.inl rfl | exact Or.inr rfl | omega) ⟨by rw [if_pos (by omega)], rfl⟩
set_option maxRecDepth 100000 in
theorem m_has (σ : Sg) (k i : Nat) (hk : k < 32) (hi : i < 5) : RI mX10_has 1 [vI (k : Int), vI (i : Int)] σ (fun z σ' => z = (if k / 2 ^ i % 2 = 1 then 1 else 0) ∧ σ = σ') := by
  have hf := has_fin ⟨k, hk⟩ ⟨i, hi⟩
  dsimp only at hf
  refine mkRun (by decide +kernel) (Nat.le_of_ble_eq_true rfl) (fun X hF hR => ?_)
  refine jr_iload_n hF dX10_has_0 (q := 1) rfl rfl ?_
  refine jr_iload_n hF dX10_has_1 (q := 2) rfl rfl ?_
  refine jr_ishr hF dX10_has_2 (q := 3) rfl ?_
  refine jr_iconst hF dX10_has_3 (q := 4) rfl (by decide) ?_
  refine jr_iand hF dX10_has_4 (q := 5) rfl ?_
  rw [hf]
  refine jr_iconst hF dX10_has_5 (q := 6) rfl (by decide) ?_
  refine jr_icmp_ne hF dX10_has_6 (q := 9) rfl 13 (by decide) (fun h1 => ?_) (fun h1 => ?_)
  · refine jr_iconst hF dX10_has_13 (q := 14) rfl (by decide) ?_
    refine jr_retZ hF hR dX10_has_14 rfl (by first | exact Or.inl rfl | exact Or.inr rfl | omega) ⟨by rw [if_neg (by omega)], rfl⟩
  · refine jr_iconst hF dX10_has_9 (q := 10) rfl (by decide) ?_
    refine jr_goto hF dX10_has_10 14 (by decide) ?_
    refine jr_retZ hF hR dX10_has_14 rfl (by first | exact Or.inl rfl | exact Or.inr rfl | omega) ⟨by rw [if_pos (by omega)], rfl⟩
/-- the reference holds this fair -/
def RepM (σ : Sg) (F : FD) : Prop := σ 75 0 = (f_nm F : Int) ∧ σ 77 0 = (f_nl F : Int) ∧ (∀ m : Nat, m < f_nm F → σ 76 (m : Int) = f_rm F m) ∧ (∀ i : Nat, i < f_nl F → σ 78 (i : Int) = f_kd F i) ∧ (∀ i m : Nat, i < f_nl F → m < f_nm F → σ 79 (3 * (i : Int) + (m : Int)) = f_wt F i m) ∧ (∀ i : Nat, i < f_nl F → σ 80 (i : Int) = f_lm F i) ∧ σ 81 0 = f_ca F ∧ σ 82 0 = f_sp F
theorem RepM.want {σ : Sg} {F : FD} (h : RepM σ F) {i m : Nat} (hi : i < f_nl F) (hm : m < f_nm F) : σ 79 (3 * (i : Int) + (m : Int)) = f_wt F i m := h.2.2.2.2.1 i m hi hm
theorem RepM.lim {σ : Sg} {F : FD} (h : RepM σ F) {i : Nat} (hi : i < f_nl F) : σ 80 (i : Int) = f_lm F i := h.2.2.2.2.2.1 i hi
theorem RepM.kind {σ : Sg} {F : FD} (h : RepM σ F) {i : Nat} (hi : i < f_nl F) : σ 78 (i : Int) = f_kd F i := h.2.2.2.1 i hi
theorem RepM.room {σ : Sg} {F : FD} (h : RepM σ F) {m : Nat} (hm : m < f_nm F) : σ 76 (m : Int) = f_rm F m := h.2.2.1 m hm
theorem RepM.fr {σ σ' : Sg} {F : FD} (h : RepM σ F) (hf : ∀ k, 75 ≤ k → k ≤ 82 → σ' k = σ k) : RepM σ' F := by
  obtain ⟨r1, r2, r3, r4, r5, r6, r7, r8⟩ := h
  refine ⟨?_, ?_, fun m hm => ?_, fun i hi => ?_, fun i m hi hm => ?_, fun i hi => ?_, ?_, ?_⟩
  · rw [hf 75 (by omega) (by omega)]; exact r1
  · rw [hf 77 (by omega) (by omega)]; exact r2
  · rw [hf 76 (by omega) (by omega)]; exact r3 m hm
  · rw [hf 78 (by omega) (by omega)]; exact r4 i hi
  · rw [hf 79 (by omega) (by omega)]; exact r5 i m hi hm
  · rw [hf 80 (by omega) (by omega)]; exact r6 i hi
  · rw [hf 81 (by omega) (by omega)]; exact r7
  · rw [hf 82 (by omega) (by omega)]; exact r8
/-- who has whom and for how long -/
def HM (σ : Sg) (g y : Nat → Int) : Prop := ∀ j : Nat, j < 5 → σ 87 (j : Int) = g j ∧ σ 88 (j : Int) = y j
/-- only the fair's own rows changed -/
def MFr (σ σ' : Sg) : Prop := (∀ k, k ≠ 73 → k ≠ 87 → k ≠ 88 → σ' k = σ k) ∧ ∀ j : Int, j < 20 → σ' 73 j = σ 73 j
theorem MFr.rf (σ : Sg) : MFr σ σ := ⟨fun _ _ _ _ => rfl, fun _ _ => rfl⟩
theorem MFr.tr {a b c : Sg} (h : MFr a b) (h2 : MFr b c) : MFr a c := ⟨fun k h1 h3 h4 => by rw [h2.1 k h1 h3 h4]; exact h.1 k h1 h3 h4, fun j hj => by rw [h2.2 j hj]; exact h.2 j hj⟩
theorem RepM.mf {σ σ' : Sg} {F : FD} (h : RepM σ F) (hf : MFr σ σ') : RepM σ' F := h.fr (fun k l1 l2 => hf.1 k (by omega) (by omega) (by omega))
set_option maxRecDepth 100000 in
theorem m_isLad (σ : Sg) (F : FD) (hC : RepM σ F) (ok : okF F) (i : Int) : RI mX10_isLad 2 [vR 73, vI i] σ (fun z σ' => z = (if 0 ≤ i ∧ i < f_nl F then 1 else 0) ∧ σ = σ') := by
  have h5 := ok.2.1
  have r2 := hC.2.1
  refine mkRun (by decide +kernel) (Nat.le_of_ble_eq_true rfl) (fun X hF hR => ?_)
  refine jr_iload_n hF dX10_isLad_0 (q := 1) rfl rfl ?_
  refine jr_i2l hF dX10_isLad_1 (q := 2) rfl ?_
  refine jr_lconst hF 0 dX10_isLad_2 (q := 3) rfl (by decide) (by decide +kernel) ?_
  refine jr_aload_n hF dX10_isLad_3 (q := 4) rfl rfl ?_
  refine jr_getR (ci := 10) (j := 4) hF dX10_isLad_4 (q := 7) rfl rfl rfl fl10_19 ?_
  refine jr_iconst hF dX10_isLad_7 (q := 8) rfl (by decide) ?_
  refine jr_iald hF dX10_isLad_8 (q := 9) rfl rfl (by omega) ?_
  refine jr_iconst hF dX10_isLad_9 (q := 10) rfl (by decide) ?_
  refine jr_isub hF dX10_isLad_10 (q := 11) rfl (by omega) ?_
  refine jr_i2l hF dX10_isLad_11 (q := 12) rfl ?_
  refine jr_cS3I hF (m_in σ i 0 (σ 77 0 - 1)) dX10_isLad_12 (q := 15) rfl lk10_79 vX10_in kX10_in (by decide) (Nat.le_of_ble_eq_true rfl) (fun z σ1 hz => ?_)
  obtain ⟨rfl, rfl⟩ := hz
  refine jr_retZ hF hR dX10_isLad_15 rfl (by split <;> omega) ⟨?_, rfl⟩
  split <;> split <;> omega
set_option maxRecDepth 100000 in
theorem m_isMaster (σ : Sg) (F : FD) (hC : RepM σ F) (ok : okF F) (i : Int) : RI mX10_isMaster 2 [vR 73, vI i] σ (fun z σ' => z = (if 0 ≤ i ∧ i < f_nm F then 1 else 0) ∧ σ = σ') := by
  have h5 := ok.1
  have r2 := hC.1
  refine mkRun (by decide +kernel) (Nat.le_of_ble_eq_true rfl) (fun X hF hR => ?_)
  refine jr_iload_n hF dX10_isMaster_0 (q := 1) rfl rfl ?_
  refine jr_i2l hF dX10_isMaster_1 (q := 2) rfl ?_
  refine jr_lconst hF 0 dX10_isMaster_2 (q := 3) rfl (by decide) (by decide +kernel) ?_
  refine jr_aload_n hF dX10_isMaster_3 (q := 4) rfl rfl ?_
  refine jr_getR (ci := 10) (j := 2) hF dX10_isMaster_4 (q := 7) rfl rfl rfl fl10_13 ?_
  refine jr_iconst hF dX10_isMaster_7 (q := 8) rfl (by decide) ?_
  refine jr_iald hF dX10_isMaster_8 (q := 9) rfl rfl (by omega) ?_
  refine jr_iconst hF dX10_isMaster_9 (q := 10) rfl (by decide) ?_
  refine jr_isub hF dX10_isMaster_10 (q := 11) rfl (by omega) ?_
  refine jr_i2l hF dX10_isMaster_11 (q := 12) rfl ?_
  refine jr_cS3I hF (m_in σ i 0 (σ 75 0 - 1)) dX10_isMaster_12 (q := 15) rfl lk10_79 vX10_in kX10_in (by decide) (Nat.le_of_ble_eq_true rfl) (fun z σ1 hz => ?_)
  obtain ⟨rfl, rfl⟩ := hz
  refine jr_retZ hF hR dX10_isMaster_15 rfl (by split <;> omega) ⟨?_, rfl⟩
  split <;> split <;> omega
set_option maxRecDepth 100000 in
theorem m_boundOf (σ : Sg) (F : FD) (hC : RepM σ F) (ok : okF F) (i m : Nat) (hi : i < f_nl F) (hm : m < f_nm F) : RI mX10_boundOf 1 [vR 73, vI (i : Int), vI (m : Int)] σ (fun z σ' => z = f_bnd F i m ∧ σ = σ') := by
  have hn := ok.2.1
  have hn2 := ok.1
  have hk := ok.2.2.2.1 i hi
  have hw := ok.2.2.2.2.1 i m hi hm
  have hl := ok.2.2.2.2.2.1 i hi
  have r4 := hC.kind hi
  have r5 := hC.want hi hm
  have r6 := hC.lim hi
  refine mkRun (by decide +kernel) (Nat.le_of_ble_eq_true rfl) (fun X hF hR => ?_)
  have hcont : ∀ v : Int, v = (if f_lm F i < f_wt F i m then f_lm F i else f_wt F i m) → Gs X 31 [some (vR 73), some (vI (i : Int)), some (vI (m : Int)), some (vI (f_wt F i m)), none] [vI v] σ := by
    intro v hv
    have hv2 : 0 ≤ v ∧ v ≤ 10 := by rw [hv]; split <;> omega
    refine jr_istore hF dX10_boundOf_31 (q := 33) rfl (by decide) rfl ?_
    refine jr_aload_n hF dX10_boundOf_33 (q := 34) rfl rfl ?_
    refine jr_getR (ci := 10) (j := 5) hF dX10_boundOf_34 (q := 37) rfl rfl rfl fl10_22 ?_
    refine jr_iload_n hF dX10_boundOf_37 (q := 38) rfl rfl ?_
    refine jr_iald hF dX10_boundOf_38 (q := 39) rfl rfl (by omega) ?_
    rw [r4]
    have hc : f_kd F i = 0 ∨ f_kd F i = 1 ∨ f_kd F i = 2 ∨ f_kd F i = 3 := by omega
    rcases hc with hc | hc | hc | hc
    · rw [hc]
      refine jr_tout hF dX10_boundOf_39 89 (by omega) (by decide) ?_
      refine jr_iload hF dX10_boundOf_89 (q := 91) rfl rfl ?_
      refine jr_retI hF hR dX10_boundOf_91 rfl ⟨by simp [f_bnd, hc, hv], rfl⟩
    · rw [hc]
      refine jr_tin hF dX10_boundOf_39 64 (by decide) (by decide) rfl (by decide) ?_
      refine jr_iload hF dX10_boundOf_64 (q := 66) rfl rfl ?_
      refine jr_iconst hF dX10_boundOf_66 (q := 67) rfl (by decide) ?_
      refine jr_idiv hF dX10_boundOf_67 (q := 68) rfl (by omega) (by omega) ?_
      refine jr_retI hF hR dX10_boundOf_68 rfl ⟨by simp [f_bnd, hc, hv], rfl⟩
    · rw [hc]
      refine jr_tin hF dX10_boundOf_39 69 (by decide) (by decide) rfl (by decide) ?_
      refine jr_iload_n hF dX10_boundOf_69 (q := 70) rfl rfl ?_
      refine jr_iconst hF dX10_boundOf_70 (q := 71) rfl (by decide) ?_
      refine jr_icmp_lt hF dX10_boundOf_71 (q := 74) rfl 79 (by decide) (fun h => ?_) (fun h => ?_)
      · refine jr_iconst hF dX10_boundOf_79 (q := 80) rfl (by decide) ?_
        refine jr_retI hF hR dX10_boundOf_80 rfl ⟨by simp [f_bnd, hc, show ¬ 5 ≤ f_wt F i m by omega], rfl⟩
      · refine jr_iload hF dX10_boundOf_74 (q := 76) rfl rfl ?_
        refine jr_goto hF dX10_boundOf_76 80 (by decide) ?_
        refine jr_retI hF hR dX10_boundOf_80 rfl ⟨by simp [f_bnd, hc, h, hv], rfl⟩
    · rw [hc]
      refine jr_tin hF dX10_boundOf_39 81 (by decide) (by decide) rfl (by decide) ?_
      refine jr_iload hF dX10_boundOf_81 (q := 83) rfl rfl ?_
      refine jr_iload hF dX10_boundOf_83 (q := 85) rfl rfl ?_
      refine jr_iconst hF dX10_boundOf_85 (q := 86) rfl (by decide) ?_
      refine jr_irem hF dX10_boundOf_86 (q := 87) rfl (by omega) (by omega) ?_
      refine jr_isub hF dX10_boundOf_87 (q := 88) rfl (by omega) ?_
      refine jr_retI hF hR dX10_boundOf_88 rfl ⟨by simp [f_bnd, hc, hv], rfl⟩
  refine jr_aload_n hF dX10_boundOf_0 (q := 1) rfl rfl ?_
  refine jr_getR (ci := 10) (j := 6) hF dX10_boundOf_1 (q := 4) rfl rfl rfl fl10_25 ?_
  refine jr_iconst hF dX10_boundOf_4 (q := 5) rfl (by decide) ?_
  refine jr_iload_n hF dX10_boundOf_5 (q := 6) rfl rfl ?_
  refine jr_imul hF dX10_boundOf_6 (q := 7) rfl (by omega) ?_
  refine jr_iload_n hF dX10_boundOf_7 (q := 8) rfl rfl ?_
  refine jr_iadd hF dX10_boundOf_8 (q := 9) rfl (by omega) ?_
  refine jr_iald hF dX10_boundOf_9 (q := 10) rfl rfl (by omega) ?_
  rw [r5]
  refine jr_istore_n hF dX10_boundOf_10 (q := 11) rfl (by decide) rfl ?_
  refine jr_iload_n hF dX10_boundOf_11 (q := 12) rfl rfl ?_
  refine jr_aload_n hF dX10_boundOf_12 (q := 13) rfl rfl ?_
  refine jr_getR (ci := 10) (j := 7) hF dX10_boundOf_13 (q := 16) rfl rfl rfl fl10_28 ?_
  refine jr_iload_n hF dX10_boundOf_16 (q := 17) rfl rfl ?_
  refine jr_iald hF dX10_boundOf_17 (q := 18) rfl rfl (by omega) ?_
  rw [r6]
  refine jr_icmp_ge hF dX10_boundOf_18 (q := 21) rfl 25 (by decide) (fun h1 => ?_) (fun h1 => ?_)
  · refine jr_aload_n hF dX10_boundOf_25 (q := 26) rfl rfl ?_
    refine jr_getR (ci := 10) (j := 7) hF dX10_boundOf_26 (q := 29) rfl rfl rfl fl10_28 ?_
    refine jr_iload_n hF dX10_boundOf_29 (q := 30) rfl rfl ?_
    refine jr_iald hF dX10_boundOf_30 (q := 31) rfl rfl (by omega) ?_
    rw [r6]
    exact hcont _ (by split <;> omega)
  · refine jr_iload_n hF dX10_boundOf_21 (q := 22) rfl rfl ?_
    refine jr_goto hF dX10_boundOf_22 31 (by decide) ?_
    exact hcont _ (by split <;> omega)
/-- whom the reference leaves out, and whom he has -/
def gOK (g : Nat → Int) : Prop := ∀ i, g i = -4 ∨ 0 ≤ g i
set_option maxRecDepth 100000 in
theorem m_isIn (σ : Sg) (F : FD) (hC : RepM σ F) (ok : okF F) (az : Int) (ab : Nat) (hab : absR az ab) (ho : σ 73 20 = az) (g y : Nat → Int) (hH : HM σ g y) (hg : gOK g) (i m : Nat) (hi : i < f_nl F) (hm : m < f_nm F) (p : Int) (hp : 1 ≤ p) : RI mX10_isIn 2 [vR 73, vI (i : Int), vI (m : Int), vI p] σ (fun z σ' => z = (if f_in F ab g m p i = true then 1 else 0) ∧ σ = σ') := by
  have h5 := ok.2.1
  obtain ⟨e1, e2⟩ := hH i (by omega)
  have hgi := hg i
  unfold absR at hab
  have hfi : f_in F ab g m p i = decide (g i = -4 ∧ p ≤ if i = ab then 0 else f_bnd F i m) := rfl
  refine mkRun (by decide +kernel) (Nat.le_of_ble_eq_true rfl) (fun X hF hR => ?_)
  refine jr_iload_n hF dX10_isIn_0 (q := 1) rfl rfl ?_
  refine jr_aload_n hF dX10_isIn_1 (q := 2) rfl rfl ?_
  refine jr_getI (ci := 10) (j := 20) hF 20 rfl dX10_isIn_2 (q := 5) rfl rfl rfl fl10_131 ?_
  refine jr_icmp_eq hF dX10_isIn_5 (q := 8) rfl 31 (by decide) (fun h1 => ?_) (fun h1 => ?_)
  · refine jr_iconst hF dX10_isIn_31 (q := 32) rfl (by decide) ?_
    refine jr_retZ hF hR dX10_isIn_32 rfl (Or.inl rfl) ⟨?_, rfl⟩
    rw [hfi, if_pos (show i = ab by omega), if_neg]
    rw [decide_eq_true_iff]
    omega
  · refine jr_aload_n hF dX10_isIn_8 (q := 9) rfl rfl ?_
    refine jr_getR (ci := 10) (j := 18) hF dX10_isIn_9 (q := 12) rfl rfl rfl fl10_49 ?_
    refine jr_iload_n hF dX10_isIn_12 (q := 13) rfl rfl ?_
    refine jr_iald hF dX10_isIn_13 (q := 14) rfl rfl (by omega) ?_
    rw [e1]
    refine jr_if_ge hF dX10_isIn_14 (q := 17) rfl 31 (by decide) (fun h2 => ?_) (fun h2 => ?_)
    · refine jr_iconst hF dX10_isIn_31 (q := 32) rfl (by decide) ?_
      refine jr_retZ hF hR dX10_isIn_32 rfl (Or.inl rfl) ⟨?_, rfl⟩
      rw [hfi, if_neg]
      rw [decide_eq_true_iff]
      omega
    · refine jr_aload_n hF dX10_isIn_17 (q := 18) rfl rfl ?_
      refine jr_iload_n hF dX10_isIn_18 (q := 19) rfl rfl ?_
      refine jr_iload_n hF dX10_isIn_19 (q := 20) rfl rfl ?_
      refine jr_cV2I hF (m_boundOf σ F hC ok i m hi hm) dX10_isIn_20 (q := 23) rfl lk10_134 vX10_boundOf kX10_boundOf rfl rfl rfl (by decide) (Nat.le_of_ble_eq_true rfl) (fun z σ1 hz => ?_)
      obtain ⟨rfl, rfl⟩ := hz
      refine jr_iload_n hF dX10_isIn_23 (q := 24) rfl rfl ?_
      rw [if_neg (show ¬ i = ab by omega)] at hfi
      refine jr_icmp_lt hF dX10_isIn_24 (q := 27) rfl 31 (by decide) (fun h3 => ?_) (fun h3 => ?_)
      · refine jr_iconst hF dX10_isIn_31 (q := 32) rfl (by decide) ?_
        refine jr_retZ hF hR dX10_isIn_32 rfl (Or.inl rfl) ⟨?_, rfl⟩
        rw [hfi, if_neg]
        rw [decide_eq_true_iff]
        omega
      · refine jr_iconst hF dX10_isIn_27 (q := 28) rfl (by decide) ?_
        refine jr_goto hF dX10_isIn_28 32 (by decide) ?_
        refine jr_retZ hF hR dX10_isIn_32 rfl (Or.inr rfl) ⟨?_, rfl⟩
        rw [hfi, if_pos]
        rw [decide_eq_true_iff]
        omega
theorem or_0 (a : Int) (ha : 0 ≤ a ∧ a < 64) : (Int32.ofInt a ||| Int32.ofInt 0).toInt = a := by
  have : ∀ k : Fin 64, (Int32.ofInt (k.val : Int) ||| Int32.ofInt 0).toInt = (k.val : Int) := by decide +kernel
  obtain ⟨n, rfl⟩ : ∃ n : Nat, a = (n : Int) := ⟨a.toNat, by omega⟩
  exact this ⟨n, by omega⟩
set_option maxRecDepth 100000 in
theorem m_inSet (σ : Sg) (F : FD) (hC : RepM σ F) (ok : okF F) (az : Int) (ab : Nat) (hab : absR az ab) (ho : σ 73 20 = az) (g y : Nat → Int) (hH : HM σ g y) (hg : gOK g) (m : Nat) (hm : m < f_nm F) (p : Int) (hp : 1 ≤ p) : RI mX10_inSet 3 [vR 73, vI (m : Int), vI p] σ (fun z σ' => z = (bN (f_in F ab g m p) (f_nl F) : Int) ∧ σ = σ') := by
  have h5 := ok.2.1
  have r2 := hC.2.1
  refine mkRun (by decide +kernel) (Nat.le_of_ble_eq_true rfl) (fun X hF hR => ?_)
  rw [← bitsF_bN _ _ h5] at hR
  refine jr_iconst hF dX10_inSet_0 (q := 1) rfl (by decide) ?_
  refine jr_istore_n hF dX10_inSet_1 (q := 2) rfl (by decide) rfl ?_
  refine jr_iconst hF dX10_inSet_2 (q := 3) rfl (by decide) ?_
  refine jr_istore hF dX10_inSet_3 (q := 5) rfl (by decide) rfl ?_
  refine gs_loop (α := Unit) (fun k _ => [some (vR 73), some (vI (m : Int)), some (vI p), some (vI (bitsF (f_in F ab g m p) k)), some (vI (k : Int))]) (fun _ => σ) (fun _ _ => True) (f_nl F) (fun _ _ => ?_) (fun k _ hk _ ih => ?_) () trivial
  · refine jr_iload hF dX10_inSet_5 (q := 7) rfl rfl ?_
    refine jr_aload_n hF dX10_inSet_7 (q := 8) rfl rfl ?_
    refine jr_getR (ci := 10) (j := 4) hF dX10_inSet_8 (q := 11) rfl rfl rfl fl10_19 ?_
    refine jr_iconst hF dX10_inSet_11 (q := 12) rfl (by decide) ?_
    refine jr_iald hF dX10_inSet_12 (q := 13) rfl rfl (by omega) ?_
    refine jr_icmp_ge hF dX10_inSet_13 (q := 16) rfl 44 (by decide) (fun h1 => ?_) (fun h1 => ?_)
    · refine jr_iload_n hF dX10_inSet_44 (q := 45) rfl rfl ?_
      refine jr_retI hF hR dX10_inSet_45 rfl ⟨rfl, rfl⟩
    · omega
  · have eb : bitsF (f_in F ab g m p) (k + 1) = if f_in F ab g m p k = true then orb (bitsF (f_in F ab g m p) k) k else bitsF (f_in F ab g m p) k := rfl
    refine jr_iload hF dX10_inSet_5 (q := 7) rfl rfl ?_
    refine jr_aload_n hF dX10_inSet_7 (q := 8) rfl rfl ?_
    refine jr_getR (ci := 10) (j := 4) hF dX10_inSet_8 (q := 11) rfl rfl rfl fl10_19 ?_
    refine jr_iconst hF dX10_inSet_11 (q := 12) rfl (by decide) ?_
    refine jr_iald hF dX10_inSet_12 (q := 13) rfl rfl (by omega) ?_
    refine jr_icmp_ge hF dX10_inSet_13 (q := 16) rfl 44 (by decide) (fun h1 => ?_) (fun h1 => ?_)
    · omega
    · refine jr_iload_n hF dX10_inSet_16 (q := 17) rfl rfl ?_
      refine jr_aload_n hF dX10_inSet_17 (q := 18) rfl rfl ?_
      refine jr_iload hF dX10_inSet_18 (q := 20) rfl rfl ?_
      refine jr_iload_n hF dX10_inSet_20 (q := 21) rfl rfl ?_
      refine jr_iload_n hF dX10_inSet_21 (q := 22) rfl rfl ?_
      refine jr_cV3I hF (m_isIn σ F hC ok az ab hab ho g y hH hg k m hk hm p hp) dX10_inSet_22 (q := 25) rfl lk10_138 vX10_isIn kX10_isIn rfl rfl rfl (by decide) (Nat.le_of_ble_eq_true rfl) (fun z σ1 hz => ?_)
      obtain ⟨rfl, rfl⟩ := hz
      have ih1 := ih () trivial
      rw [eb] at ih1
      refine jr_if_eq hF dX10_inSet_25 (q := 28) rfl 35 (by decide) (fun h2 => ?_) (fun h2 => ?_)
      · have e := bi_0 h2
        rw [if_neg (by rw [e]; decide)] at ih1
        refine jr_iconst hF dX10_inSet_35 (q := 36) rfl (by decide) ?_
        refine jr_ior hF dX10_inSet_36 (q := 37) rfl ?_
        rw [or_0 _ (by rw [bitsF_bN _ _ (by omega)]; have := bN_32 (f_in F ab g m p) k (by omega); omega)]
        refine jr_istore_n hF dX10_inSet_37 (q := 38) rfl (by decide) rfl ?_
        refine jr_iinc hF dX10_inSet_38 (q := 41) rfl (by decide) rfl rfl (by omega) ?_
        refine jr_goto hF dX10_inSet_41 5 (by decide) ?_
        exact ih1
      · have e := bi_1 h2
        rw [if_pos e] at ih1
        refine jr_iconst hF dX10_inSet_28 (q := 29) rfl (by decide) ?_
        refine jr_iload hF dX10_inSet_29 (q := 31) rfl rfl ?_
        refine jr_ishl hF dX10_inSet_31 (q := 32) rfl ?_
        refine jr_goto hF dX10_inSet_32 36 (by decide) ?_
        refine jr_ior hF dX10_inSet_36 (q := 37) rfl ?_
        refine jr_istore_n hF dX10_inSet_37 (q := 38) rfl (by decide) rfl ?_
        refine jr_iinc hF dX10_inSet_38 (q := 41) rfl (by decide) rfl rfl (by omega) ?_
        refine jr_goto hF dX10_inSet_41 5 (by decide) ?_
        exact ih1
set_option maxRecDepth 100000 in
theorem m_bits (σ : Sg) (k : Nat) (hk : k < 32) : RI mX10_bits 1 [vI (k : Int)] σ (fun z σ' => z = (pcN k : Int) ∧ σ = σ') := by
  refine mkRun (by decide +kernel) (Nat.le_of_ble_eq_true rfl) (fun X hF hR => ?_)
  refine jr_iconst hF dX10_bits_0 (q := 1) rfl (by decide) ?_
  refine jr_istore_n hF dX10_bits_1 (q := 2) rfl (by decide) rfl ?_
  refine jr_iload_n hF dX10_bits_2 (q := 3) rfl rfl ?_
  refine jr_istore_n hF dX10_bits_3 (q := 4) rfl (by decide) rfl ?_
  refine gs_down (α := Nat × Nat) (fun a => [some (vI (k : Int)), some (vI (a.1 : Int)), some (vI (a.2 : Int))]) (fun _ => σ) (fun n a => a.2 ≤ n ∧ a.2 < 32 ∧ a.1 < 100 - a.2 ∧ a.1 + pcN a.2 = pcN k) (fun a h => ?_) (fun n a h ih => ?_) 32 (0, k) ⟨by show k ≤ 32; omega, hk, by show 0 < 100 - k; omega, by show 0 + pcN k = _; omega⟩
  · obtain ⟨n, q⟩ := a
    obtain ⟨b1, b2, b3, b4⟩ := h
    dsimp only at b1 b2 b3 b4 ⊢
    have e : q = 0 := by omega
    subst e
    have e2 : pcN 0 = 0 := rfl
    refine jr_iload_n hF dX10_bits_4 (q := 5) rfl rfl ?_
    refine jr_if_eq hF dX10_bits_5 (q := 8) rfl 20 (by decide) (fun h1 => ?_) (fun h1 => ?_)
    · refine jr_iload_n hF dX10_bits_20 (q := 21) rfl rfl ?_
      refine jr_retI hF hR dX10_bits_21 rfl ⟨by omega, rfl⟩
    · omega
  · obtain ⟨n', q⟩ := a
    obtain ⟨b1, b2, b3, b4⟩ := h
    dsimp only at b1 b2 b3 b4 ⊢
    refine jr_iload_n hF dX10_bits_4 (q := 5) rfl rfl ?_
    refine jr_if_eq hF dX10_bits_5 (q := 8) rfl 20 (by decide) (fun h1 => ?_) (fun h1 => ?_)
    · have e : q = 0 := by omega
      subst e
      have e2 : pcN 0 = 0 := rfl
      refine jr_iload_n hF dX10_bits_20 (q := 21) rfl rfl ?_
      refine jr_retI hF hR dX10_bits_21 rfl ⟨by omega, rfl⟩
    · obtain ⟨r, c1, c2, c3⟩ := pcN_step ⟨q, b2⟩ (by show q ≠ 0; omega)
      dsimp only at c1 c2 c3
      have ih1 := ih (n' + 1, r.val) ⟨by show r.val ≤ _; omega, r.isLt, by show n' + 1 < 100 - r.val; omega, by show n' + 1 + pcN r.val = _; omega⟩
      dsimp only at ih1
      refine jr_iinc hF dX10_bits_8 (q := 11) rfl (by decide) rfl rfl (by omega) ?_
      refine jr_iload_n hF dX10_bits_11 (q := 12) rfl rfl ?_
      refine jr_iload_n hF dX10_bits_12 (q := 13) rfl rfl ?_
      refine jr_iconst hF dX10_bits_13 (q := 14) rfl (by decide) ?_
      refine jr_isub hF dX10_bits_14 (q := 15) rfl (by omega) ?_
      refine jr_iand hF dX10_bits_15 (q := 16) rfl ?_
      rw [c3]
      refine jr_istore_n hF dX10_bits_16 (q := 17) rfl (by decide) rfl ?_
      refine jr_goto hF dX10_bits_17 4 (by decide) ?_
      exact ih1
set_option maxRecDepth 100000 in
theorem m_give (σ : Sg) (nl : Nat) (hn : σ 77 0 = (nl : Int)) (h5 : nl ≤ 5) (s : Nat) (hs : s < 32) (S : Nat → Bool) (hS : ∀ i, i < nl → ((s / 2 ^ i % 2 = 1) ↔ S i = true)) (m : Nat) (p : Int) (g y : Nat → Int) (hH : HM σ g y) (room : Int) (hl : σ 73 21 = room) (hr : 0 ≤ room ∧ room ≤ 3) : RV mX10_give 2 [vR 73, vI (s : Int), vI (m : Int), vI p] σ (fun σ' => HM σ' (grant S m p nl (g, y, room)).1 (grant S m p nl (g, y, room)).2.1 ∧ σ' 73 21 = (grant S m p nl (g, y, room)).2.2 ∧ (∀ k, k ≠ 73 → k ≠ 87 → k ≠ 88 → σ' k = σ k) ∧ ∀ j, j ≠ 21 → σ' 73 j = σ 73 j) := by
  refine mkRun (by decide +kernel) (Nat.le_of_ble_eq_true rfl) (fun X hF hR => ?_)
  refine jr_iconst hF dX10_give_0 (q := 1) rfl (by decide) ?_
  refine jr_istore hF dX10_give_1 (q := 3) rfl (by decide) rfl ?_
  refine gs_loop (α := Sg) (fun k _ => [some (vR 73), some (vI (s : Int)), some (vI (m : Int)), some (vI p), some (vI (k : Int))]) (fun σ' => σ') (fun n σ' => HM σ' (grant S m p n (g, y, room)).1 (grant S m p n (g, y, room)).2.1 ∧ σ' 73 21 = (grant S m p n (g, y, room)).2.2 ∧ (∀ k, k ≠ 73 → k ≠ 87 → k ≠ 88 → σ' k = σ k) ∧ ∀ j, j ≠ 21 → σ' 73 j = σ 73 j) nl (fun σ1 h1 => ?_) (fun k σ1 hk h1 ih => ?_) σ ⟨hH, hl, fun _ _ _ _ => rfl, fun _ _ => rfl⟩
  · have e1 : σ1 77 0 = (nl : Int) := by rw [h1.2.2.1 77 (by omega) (by omega) (by omega)]; exact hn
    refine jr_iload hF dX10_give_3 (q := 5) rfl rfl ?_
    refine jr_aload_n hF dX10_give_5 (q := 6) rfl rfl ?_
    refine jr_getR (ci := 10) (j := 4) hF dX10_give_6 (q := 9) rfl rfl rfl fl10_19 ?_
    refine jr_iconst hF dX10_give_9 (q := 10) rfl (by decide) ?_
    refine jr_iald hF dX10_give_10 (q := 11) rfl rfl (by omega) ?_
    refine jr_icmp_ge hF dX10_give_11 (q := 14) rfl 62 (by decide) (fun a1 => ?_) (fun a1 => ?_)
    · refine jr_retV hF hR dX10_give_62 rfl h1
    · omega
  · obtain ⟨i1, i2, i3, i4⟩ := h1
    have e1 : σ1 77 0 = (nl : Int) := by rw [i3 77 (by omega) (by omega) (by omega)]; exact hn
    have hlt := grant_left S m p k (g, y, room) hr.1
    have hl2 : (grant S m p k (g, y, room)).2.2 ≤ room := hlt.2
    have hSk := hS k hk
    refine jr_iload hF dX10_give_3 (q := 5) rfl rfl ?_
    refine jr_aload_n hF dX10_give_5 (q := 6) rfl rfl ?_
    refine jr_getR (ci := 10) (j := 4) hF dX10_give_6 (q := 9) rfl rfl rfl fl10_19 ?_
    refine jr_iconst hF dX10_give_9 (q := 10) rfl (by decide) ?_
    refine jr_iald hF dX10_give_10 (q := 11) rfl rfl (by omega) ?_
    refine jr_icmp_ge hF dX10_give_11 (q := 14) rfl 62 (by decide) (fun a1 => ?_) (fun a1 => ?_)
    · omega
    · refine jr_iload_n hF dX10_give_14 (q := 15) rfl rfl ?_
      refine jr_iload hF dX10_give_15 (q := 17) rfl rfl ?_
      refine jr_cS2I hF (m_has σ1 s k hs (by omega)) dX10_give_17 (q := 20) rfl lk10_142 vX10_has kX10_has (by decide) (Nat.le_of_ble_eq_true rfl) (fun z σ2 hz => ?_)
      obtain ⟨rfl, rfl⟩ := hz
      have hskip : ¬ (S k = true ∧ 0 < (grant S m p k (g, y, room)).2.2) → Gs X 56 [some (vR 73), some (vI (s : Int)), some (vI (m : Int)), some (vI p), some (vI (k : Int))] [] σ1 := by
        intro hc
        have eg : grant S m p (k + 1) (g, y, room) = grant S m p k (g, y, room) := by rw [grant, if_neg hc]
        have ih1 := ih σ1 (by rw [eg]; exact ⟨i1, i2, i3, i4⟩)
        refine jr_iinc hF dX10_give_56 (q := 59) rfl (by decide) rfl rfl (by omega) ?_
        refine jr_goto hF dX10_give_59 3 (by decide) ?_
        exact ih1
      refine jr_if_eq hF dX10_give_20 (q := 23) rfl 56 (by decide) (fun a2 => ?_) (fun a2 => ?_)
      · have : ¬ S k = true := fun hh => by rw [if_pos (hSk.mpr hh)] at a2; omega
        exact hskip (fun hh => this hh.1)
      · have hSt : S k = true := hSk.mp (Classical.byContradiction fun hh => a2 (by rw [if_neg hh]))
        refine jr_aload_n hF dX10_give_23 (q := 24) rfl rfl ?_
        refine jr_getI (ci := 10) (j := 21) hF 21 rfl dX10_give_24 (q := 27) rfl rfl rfl fl10_146 ?_
        refine jr_if_le hF dX10_give_27 (q := 30) rfl 56 (by decide) (fun a3 => ?_) (fun a3 => ?_)
        · exact hskip (fun hh => by omega)
        · have eg : grant S m p (k + 1) (g, y, room) = (st1 (grant S m p k (g, y, room)).1 k m, st1 (grant S m p k (g, y, room)).2.1 k p, (grant S m p k (g, y, room)).2.2 - 1) := by
            rw [grant, if_pos ⟨hSt, by omega⟩]
          have ih1 := ih (up (up (up σ1 87 (k : Int) m) 88 (k : Int) p) 73 21 (σ1 73 21 - 1)) (by
            rw [eg]
            refine ⟨fun j hj => ⟨?_, ?_⟩, ?_, fun c h1 h2 h3 => ?_, fun j hj => ?_⟩
            · rw [up_ne (by decide), up_ne (by decide), up_nat, (i1 j hj).1]
              rfl
            · rw [up_ne (by decide), up_nat, up_ne (by decide), (i1 j hj).2]
              rfl
            · show _ = _ - 1
              rw [← i2]
              simp [up]
            · rw [up_ne h1, up_ne h3, up_ne h2]
              exact i3 c h1 h2 h3
            · rw [← i4 j hj]
              simp [up, hj])
          refine jr_aload_n hF dX10_give_30 (q := 31) rfl rfl ?_
          refine jr_getR (ci := 10) (j := 18) hF dX10_give_31 (q := 34) rfl rfl rfl fl10_49 ?_
          refine jr_iload hF dX10_give_34 (q := 36) rfl rfl ?_
          refine jr_iload_n hF dX10_give_36 (q := 37) rfl rfl ?_
          refine jr_iast hF dX10_give_37 (q := 38) rfl rfl (by omega) ?_
          refine jr_aload_n hF dX10_give_38 (q := 39) rfl rfl ?_
          refine jr_getR (ci := 10) (j := 19) hF dX10_give_39 (q := 42) rfl rfl rfl fl10_52 ?_
          refine jr_iload hF dX10_give_42 (q := 44) rfl rfl ?_
          refine jr_iload_n hF dX10_give_44 (q := 45) rfl rfl ?_
          refine jr_iast hF dX10_give_45 (q := 46) rfl rfl (by omega) ?_
          refine jr_aload_n hF dX10_give_46 (q := 47) rfl rfl ?_
          refine jr_dup hF dX10_give_47 (q := 48) rfl rfl ?_
          refine jr_getI (ci := 10) (j := 21) hF 21 rfl dX10_give_48 (q := 51) rfl rfl rfl fl10_146 ?_
          rw [up_ne (show (73 : Nat) ≠ 88 by decide), up_ne (show (73 : Nat) ≠ 87 by decide)]
          refine jr_iconst hF dX10_give_51 (q := 52) rfl (by decide) ?_
          refine jr_isub hF dX10_give_52 (q := 53) rfl (by omega) ?_
          refine jr_putI (ci := 10) (j := 21) hF 21 rfl dX10_give_53 (q := 56) rfl rfl rfl fp10_146 ?_
          refine jr_iinc hF dX10_give_56 (q := 59) rfl (by decide) rfl rfl (by omega) ?_
          refine jr_goto hF dX10_give_59 3 (by decide) ?_
          exact ih1

