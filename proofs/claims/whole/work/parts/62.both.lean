/-! ===== both sides at once ===== -/
def JI (σ : Sg) : Prop := ∃ A, RC σ A ∧ RM σ A ∧ okA A
theorem RM.lo {σ σ' : Sg} {A : AS} (h : RM σ A) (hf : ∀ k, 73 ≤ k → σ' k = σ k) : RM σ' A := h.fr (fun k l1 _ => hf k (by omega)) (fun j _ => by rw [hf 73 (Nat.le_refl _)])
theorem RC.lo {σ σ' : Sg} {A : AS} (h : RC σ A) (ok : okA A) (hf : ∀ k, k < 73 → σ' k = σ k) : RC σ' A := by
  obtain ⟨len, B, F, nu, W, V, nk, S, ns, M, Y⟩ := A
  exact h.fr ok.2.2.1.2.1 ok.2.2.2.2.2.2.2.1 (fun k hk => hf k (by omega))
theorem p_write (σ : Sg) (h : JI σ) (n v : Int) : RI mX9_write 10 [vR 0, vI n, vL v] σ (fun z σ1 => RI mX10_write 10 [vR 73, vI n, vL v] σ1 (fun z' σ2 => z' = z ∧ JI σ2)) := by
  obtain ⟨⟨len, B, F, nu, W, V, nk, S, ns, M, Y⟩, hC, hM, ok⟩ := h
  refine (o_write σ len B F nu W V nk S ns M Y hC ok n v).mono (fun z σ1 hz => ?_)
  obtain ⟨e1, hC1, hf1⟩ := hz
  refine (m_write σ1 len B F nu W V nk S ns M Y (hM.lo hf1) ok n v).mono (fun z' σ2 hz' => ?_)
  obtain ⟨e2, hM2, hf2⟩ := hz'
  have hk : okA _ := k_write len B F nu W V nk S ns M Y ok n v
  exact ⟨e2.trans e1.symm, _, hC1.lo hk hf2, hM2, hk⟩
theorem p_wipe (σ : Sg) (h : JI σ)  : RI mX9_wipe 10 [vR 0] σ (fun z σ1 => RI mX10_wipe 10 [vR 73] σ1 (fun z' σ2 => z' = z ∧ JI σ2)) := by
  obtain ⟨⟨len, B, F, nu, W, V, nk, S, ns, M, Y⟩, hC, hM, ok⟩ := h
  refine (o_wipe σ len B F nu W V nk S ns M Y hC ok ).mono (fun z σ1 hz => ?_)
  obtain ⟨e1, hC1, hf1⟩ := hz
  refine (m_wipe σ1 len B F nu W V nk S ns M Y (hM.lo hf1) ).mono (fun z' σ2 hz' => ?_)
  obtain ⟨e2, hM2, hf2⟩ := hz'
  have hk : okA _ := k_wipe len B F nu W V nk S ns M Y ok
  exact ⟨e2.trans e1.symm, _, hC1.lo hk hf2, hM2, hk⟩
theorem p_fault (σ : Sg) (h : JI σ)  : RI mX9_fault 10 [vR 0] σ (fun z σ1 => RI mX10_fault 10 [vR 73] σ1 (fun z' σ2 => z' = z ∧ JI σ2)) := by
  obtain ⟨⟨len, B, F, nu, W, V, nk, S, ns, M, Y⟩, hC, hM, ok⟩ := h
  refine (o_fault σ len B F nu W V nk S ns M Y hC ok ).mono (fun z σ1 hz => ?_)
  obtain ⟨e1, hC1, hf1⟩ := hz
  refine (m_fault σ1 len B F nu W V nk S ns M Y (hM.lo hf1) ok ).mono (fun z' σ2 hz' => ?_)
  obtain ⟨e2, hM2, hf2⟩ := hz'
  have hk : okA _ := ok
  exact ⟨e2.trans e1.symm, _, hC1.lo hk hf2, hM2, hk⟩
theorem p_lay (σ : Sg) (h : JI σ)  : RI mX9_lay 10 [vR 0] σ (fun z σ1 => RI mX10_lay 10 [vR 73] σ1 (fun z' σ2 => z' = z ∧ JI σ2)) := by
  obtain ⟨⟨len, B, F, nu, W, V, nk, S, ns, M, Y⟩, hC, hM, ok⟩ := h
  refine (o_lay σ len B F nu W V nk S ns M Y hC ok ).mono (fun z σ1 hz => ?_)
  obtain ⟨e1, hC1, hf1⟩ := hz
  refine (m_lay σ1 len B F nu W V nk S ns M Y (hM.lo hf1) ok ).mono (fun z' σ2 hz' => ?_)
  obtain ⟨e2, hM2, hf2⟩ := hz'
  have hk : okA _ := k_lay len B F nu W V nk S ns M Y ok
  exact ⟨e2.trans e1.symm, _, hC1.lo hk hf2, hM2, hk⟩
theorem p_lad (σ : Sg) (h : JI σ) (i what : Int) : RI mX9_lad 10 [vR 0, vI i, vI what] σ (fun z σ1 => RI mX10_lad 10 [vR 73, vI i, vI what] σ1 (fun z' σ2 => z' = z ∧ JI σ2)) := by
  obtain ⟨⟨len, B, F, nu, W, V, nk, S, ns, M, Y⟩, hC, hM, ok⟩ := h
  refine (o_lad σ len B F nu W V nk S ns M Y hC ok i what).mono (fun z σ1 hz => ?_)
  obtain ⟨e1, hC1, hf1⟩ := hz
  refine (m_lad σ1 len B F nu W V nk S ns M Y (hM.lo hf1) ok i what).mono (fun z' σ2 hz' => ?_)
  obtain ⟨e2, hM2, hf2⟩ := hz'
  have hk : okA _ := ok
  exact ⟨e2.trans e1.symm, _, hC1.lo hk hf2, hM2, hk⟩
theorem p_master (σ : Sg) (h : JI σ) (i what : Int) : RI mX9_master 10 [vR 0, vI i, vI what] σ (fun z σ1 => RI mX10_master 10 [vR 73, vI i, vI what] σ1 (fun z' σ2 => z' = z ∧ JI σ2)) := by
  obtain ⟨⟨len, B, F, nu, W, V, nk, S, ns, M, Y⟩, hC, hM, ok⟩ := h
  refine (o_master σ len B F nu W V nk S ns M Y hC ok i what).mono (fun z σ1 hz => ?_)
  obtain ⟨e1, hC1, hf1⟩ := hz
  refine (m_master σ1 len B F nu W V nk S ns M Y (hM.lo hf1) ok i what).mono (fun z' σ2 hz' => ?_)
  obtain ⟨e2, hM2, hf2⟩ := hz'
  have hk : okA _ := ok
  exact ⟨e2.trans e1.symm, _, hC1.lo hk hf2, hM2, hk⟩
theorem p_wants (σ : Sg) (h : JI σ) (i m what : Int) : RI mX9_wants 10 [vR 0, vI i, vI m, vI what] σ (fun z σ1 => RI mX10_wants 10 [vR 73, vI i, vI m, vI what] σ1 (fun z' σ2 => z' = z ∧ JI σ2)) := by
  obtain ⟨⟨len, B, F, nu, W, V, nk, S, ns, M, Y⟩, hC, hM, ok⟩ := h
  refine (o_wants σ len B F nu W V nk S ns M Y hC ok i m what).mono (fun z σ1 hz => ?_)
  obtain ⟨e1, hC1, hf1⟩ := hz
  refine (m_wants σ1 len B F nu W V nk S ns M Y (hM.lo hf1) ok i m what).mono (fun z' σ2 hz' => ?_)
  obtain ⟨e2, hM2, hf2⟩ := hz'
  have hk : okA _ := ok
  exact ⟨e2.trans e1.symm, _, hC1.lo hk hf2, hM2, hk⟩
theorem p_all (σ : Sg) (h : JI σ) (what : Int) : RI mX9_all 10 [vR 0, vI what] σ (fun z σ1 => RI mX10_all 10 [vR 73, vI what] σ1 (fun z' σ2 => z' = z ∧ JI σ2)) := by
  obtain ⟨⟨len, B, F, nu, W, V, nk, S, ns, M, Y⟩, hC, hM, ok⟩ := h
  refine (o_all σ len B F nu W V nk S ns M Y hC ok what).mono (fun z σ1 hz => ?_)
  obtain ⟨e1, hC1, hf1⟩ := hz
  refine (m_all σ1 len B F nu W V nk S ns M Y (hM.lo hf1) ok what).mono (fun z' σ2 hz' => ?_)
  obtain ⟨e2, hM2, hf2⟩ := hz'
  have hk : okA _ := ok
  exact ⟨e2.trans e1.symm, _, hC1.lo hk hf2, hM2, hk⟩
theorem p_limit (σ : Sg) (h : JI σ) (i l : Int) : RI mX9_limit 10 [vR 0, vI i, vI l] σ (fun z σ1 => RI mX10_limit 10 [vR 73, vI i, vI l] σ1 (fun z' σ2 => z' = z ∧ JI σ2)) := by
  obtain ⟨⟨len, B, F, nu, W, V, nk, S, ns, M, Y⟩, hC, hM, ok⟩ := h
  refine (o_limit σ len B F nu W V nk S ns M Y hC ok i l).mono (fun z σ1 hz => ?_)
  obtain ⟨e1, hC1, hf1⟩ := hz
  refine (m_limit σ1 len B F nu W V nk S ns M Y (hM.lo hf1) ok i l).mono (fun z' σ2 hz' => ?_)
  obtain ⟨e2, hM2, hf2⟩ := hz'
  have hk : okA (if (0 ≤ i ∧ i < f_nl F) ∧ 1 ≤ l ∧ l ≤ 10 then nx_chg (len, B, F, nu, W, V, nk, S, ns, M, Y) i l else (len, B, F, nu, W, V, nk, S, ns, M, Y)) := by
    split
    · rename_i hc
      exact k_chg len B F nu W V nk S ns M Y ok i l (by unfold vld; omega)
    · exact ok
  exact ⟨e2.trans e1.symm, _, hC1.lo hk hf2, hM2, hk⟩
theorem p_calls (σ : Sg) (h : JI σ) (k : Int) : RI mX9_calls 10 [vR 0, vI k] σ (fun z σ1 => RI mX10_calls 10 [vR 73, vI k] σ1 (fun z' σ2 => z' = z ∧ JI σ2)) := by
  obtain ⟨⟨len, B, F, nu, W, V, nk, S, ns, M, Y⟩, hC, hM, ok⟩ := h
  refine (o_calls σ len B F nu W V nk S ns M Y hC ok k).mono (fun z σ1 hz => ?_)
  obtain ⟨e1, hC1, hf1⟩ := hz
  refine (m_calls σ1 len B F nu W V nk S ns M Y (hM.lo hf1) ok k).mono (fun z' σ2 hz' => ?_)
  obtain ⟨e2, hM2, hf2⟩ := hz'
  have hk : okA (if 0 ≤ k ∧ k ≤ 2 then nx_chg (len, B, F, nu, W, V, nk, S, ns, M, Y) 5 k else (len, B, F, nu, W, V, nk, S, ns, M, Y)) := by
    split
    · rename_i hc
      exact k_chg len B F nu W V nk S ns M Y ok 5 k (by unfold vld; omega)
    · exact ok
  exact ⟨e2.trans e1.symm, _, hC1.lo hk hf2, hM2, hk⟩
theorem p_step (σ : Sg) (h : JI σ) (k : Int) : RI mX9_step 10 [vR 0, vI k] σ (fun z σ1 => RI mX10_step 10 [vR 73, vI k] σ1 (fun z' σ2 => z' = z ∧ JI σ2)) := by
  obtain ⟨⟨len, B, F, nu, W, V, nk, S, ns, M, Y⟩, hC, hM, ok⟩ := h
  refine (o_step σ len B F nu W V nk S ns M Y hC ok k).mono (fun z σ1 hz => ?_)
  obtain ⟨e1, hC1, hf1⟩ := hz
  refine (m_step σ1 len B F nu W V nk S ns M Y (hM.lo hf1) ok k).mono (fun z' σ2 hz' => ?_)
  obtain ⟨e2, hM2, hf2⟩ := hz'
  have hk : okA (if 1 ≤ k ∧ k ≤ 3 then nx_chg (len, B, F, nu, W, V, nk, S, ns, M, Y) 6 k else (len, B, F, nu, W, V, nk, S, ns, M, Y)) := by
    split
    · rename_i hc
      exact k_chg len B F nu W V nk S ns M Y ok 6 k (by unfold vld; omega)
    · exact ok
  exact ⟨e2.trans e1.symm, _, hC1.lo hk hf2, hM2, hk⟩
theorem p_undo (σ : Sg) (h : JI σ)  : RI mX9_undo 10 [vR 0] σ (fun z σ1 => RI mX10_undo 10 [vR 73] σ1 (fun z' σ2 => z' = z ∧ JI σ2)) := by
  obtain ⟨⟨len, B, F, nu, W, V, nk, S, ns, M, Y⟩, hC, hM, ok⟩ := h
  refine (o_undo σ len B F nu W V nk S ns M Y hC ok ).mono (fun z σ1 hz => ?_)
  obtain ⟨e1, hC1, hf1⟩ := hz
  refine (m_undo σ1 len B F nu W V nk S ns M Y (hM.lo hf1) ok ).mono (fun z' σ2 hz' => ?_)
  obtain ⟨e2, hM2, hf2⟩ := hz'
  have hk : okA _ := k_undo len B F nu W V nk S ns M Y ok
  exact ⟨e2.trans e1.symm, _, hC1.lo hk hf2, hM2, hk⟩
theorem p_lie (σ : Sg) (h : JI σ) (i what : Int) : RI mX9_lie 10 [vR 0, vI i, vI what] σ (fun z σ1 => RI mX10_lie 10 [vR 73, vI i, vI what] σ1 (fun z' σ2 => z' = z ∧ JI σ2)) := by
  obtain ⟨⟨len, B, F, nu, W, V, nk, S, ns, M, Y⟩, hC, hM, ok⟩ := h
  refine (o_lie σ len B F nu W V nk S ns M Y hC ok i what).mono (fun z σ1 hz => ?_)
  obtain ⟨e1, hC1, hf1⟩ := hz
  refine (m_lie σ1 len B F nu W V nk S ns M Y (hM.lo hf1) ok i what).mono (fun z' σ2 hz' => ?_)
  obtain ⟨e2, hM2, hf2⟩ := hz'
  have hk : okA _ := ok
  exact ⟨e2.trans e1.symm, _, hC1.lo hk hf2, hM2, hk⟩
theorem p_game (σ : Sg) (h : JI σ) (i j what : Int) : RI mX9_game 10 [vR 0, vI i, vI j, vI what] σ (fun z σ1 => RI mX10_game 10 [vR 73, vI i, vI j, vI what] σ1 (fun z' σ2 => z' = z ∧ JI σ2)) := by
  obtain ⟨⟨len, B, F, nu, W, V, nk, S, ns, M, Y⟩, hC, hM, ok⟩ := h
  refine (o_game σ len B F nu W V nk S ns M Y hC ok i j what).mono (fun z σ1 hz => ?_)
  obtain ⟨e1, hC1, hf1⟩ := hz
  refine (m_game σ1 len B F nu W V nk S ns M Y (hM.lo hf1) ok i j what).mono (fun z' σ2 hz' => ?_)
  obtain ⟨e2, hM2, hf2⟩ := hz'
  have hk : okA _ := ok
  exact ⟨e2.trans e1.symm, _, hC1.lo hk hf2, hM2, hk⟩
theorem p_rest (σ : Sg) (h : JI σ) (m : Int) (g : Bool) (gz : Int) (hg : gz = if g = true then 1 else 0) : RI mX9_rest 10 [vR 0, vI m, vI gz] σ (fun z σ1 => RI mX10_rest 10 [vR 73, vI m, vI gz] σ1 (fun z' σ2 => z' = z ∧ JI σ2)) := by
  obtain ⟨⟨len, B, F, nu, W, V, nk, S, ns, M, Y⟩, hC, hM, ok⟩ := h
  refine (o_rest σ len B F nu W V nk S ns M Y hC ok m g gz hg).mono (fun z σ1 hz => ?_)
  obtain ⟨e1, hC1, hf1⟩ := hz
  refine (m_rest σ1 len B F nu W V nk S ns M Y (hM.lo hf1) ok m g gz hg).mono (fun z' σ2 hz' => ?_)
  obtain ⟨e2, hM2, hf2⟩ := hz'
  have hk : okA _ := ok
  exact ⟨e2.trans e1.symm, _, hC1.lo hk hf2, hM2, hk⟩
theorem p_joint (σ : Sg) (h : JI σ) (i : Int) : RI mX9_joint 10 [vR 0, vI i] σ (fun z σ1 => RI mX10_joint 10 [vR 73, vI i] σ1 (fun z' σ2 => z' = z ∧ JI σ2)) := by
  obtain ⟨⟨len, B, F, nu, W, V, nk, S, ns, M, Y⟩, hC, hM, ok⟩ := h
  refine (o_joint σ len B F nu W V nk S ns M Y hC ok i).mono (fun z σ1 hz => ?_)
  obtain ⟨e1, hC1, hf1⟩ := hz
  refine (m_joint σ1 len B F nu W V nk S ns M Y (hM.lo hf1) ok i).mono (fun z' σ2 hz' => ?_)
  obtain ⟨e2, hM2, hf2⟩ := hz'
  have hk : okA _ := ok
  exact ⟨e2.trans e1.symm, _, hC1.lo hk hf2, hM2, hk⟩
theorem p_pay (σ : Sg) (h : JI σ) (i : Int) : RI mX9_pay 10 [vR 0, vI i] σ (fun z σ1 => RI mX10_pay 10 [vR 73, vI i] σ1 (fun z' σ2 => z' = z ∧ JI σ2)) := by
  obtain ⟨⟨len, B, F, nu, W, V, nk, S, ns, M, Y⟩, hC, hM, ok⟩ := h
  refine (o_pay σ len B F nu W V nk S ns M Y hC ok i).mono (fun z σ1 hz => ?_)
  obtain ⟨e1, hC1, hf1⟩ := hz
  refine (m_pay σ1 len B F nu W V nk S ns M Y (hM.lo hf1) ok i).mono (fun z' σ2 hz' => ?_)
  obtain ⟨e2, hM2, hf2⟩ := hz'
  have hk : okA _ := ok
  exact ⟨e2.trans e1.symm, _, hC1.lo hk hf2, hM2, hk⟩
theorem p_seen (σ : Sg) (h : JI σ) (m p : Int) : RI mX9_seen 10 [vR 0, vI m, vI p] σ (fun z σ1 => RI mX10_seen 10 [vR 73, vI m, vI p] σ1 (fun z' σ2 => z' = z ∧ JI σ2)) := by
  obtain ⟨⟨len, B, F, nu, W, V, nk, S, ns, M, Y⟩, hC, hM, ok⟩ := h
  refine (o_seen σ len B F nu W V nk S ns M Y hC ok m p).mono (fun z σ1 hz => ?_)
  obtain ⟨e1, hC1, hf1⟩ := hz
  refine (m_seen σ1 len B F nu W V nk S ns M Y (hM.lo hf1) ok m p).mono (fun z' σ2 hz' => ?_)
  obtain ⟨e2, hM2, hf2⟩ := hz'
  have hk : okA _ := k_seen len B F nu W V nk S ns M Y ok m p
  exact ⟨e2.trans e1.symm, _, hC1.lo hk hf2, hM2, hk⟩
theorem p_forget (σ : Sg) (h : JI σ)  : RI mX9_forget 10 [vR 0] σ (fun z σ1 => RI mX10_forget 10 [vR 73] σ1 (fun z' σ2 => z' = z ∧ JI σ2)) := by
  obtain ⟨⟨len, B, F, nu, W, V, nk, S, ns, M, Y⟩, hC, hM, ok⟩ := h
  refine (o_forget σ len B F nu W V nk S ns M Y hC ok ).mono (fun z σ1 hz => ?_)
  obtain ⟨e1, hC1, hf1⟩ := hz
  refine (m_forget σ1 len B F nu W V nk S ns M Y (hM.lo hf1) ).mono (fun z' σ2 hz' => ?_)
  obtain ⟨e2, hM2, hf2⟩ := hz'
  have hk : okA _ := k_forget len B F nu W V nk S ns M Y ok
  exact ⟨e2.trans e1.symm, _, hC1.lo hk hf2, hM2, hk⟩
theorem p_cousins (σ : Sg) (h : JI σ)  : RI mX9_cousins 10 [vR 0] σ (fun z σ1 => RI mX10_cousins 10 [vR 73] σ1 (fun z' σ2 => z' = z ∧ JI σ2)) := by
  obtain ⟨⟨len, B, F, nu, W, V, nk, S, ns, M, Y⟩, hC, hM, ok⟩ := h
  refine (o_cousins σ len B F nu W V nk S ns M Y hC ok ).mono (fun z σ1 hz => ?_)
  obtain ⟨e1, hC1, hf1⟩ := hz
  refine (m_cousins σ1 len B F nu W V nk S ns M Y (hM.lo hf1) ok ).mono (fun z' σ2 hz' => ?_)
  obtain ⟨e2, hM2, hf2⟩ := hz'
  have hk : okA _ := ok
  exact ⟨e2.trans e1.symm, _, hC1.lo hk hf2, hM2, hk⟩
theorem p_span (σ : Sg) (h : JI σ) (i m what : Int) : RI mX9_span 10 [vR 0, vI i, vI m, vI what] σ (fun z σ1 => RI mX10_span 10 [vR 73, vI i, vI m, vI what] σ1 (fun z' σ2 => z' = z ∧ JI σ2)) := by
  obtain ⟨⟨len, B, F, nu, W, V, nk, S, ns, M, Y⟩, hC, hM, ok⟩ := h
  refine (o_span σ len B F nu W V nk S ns M Y hC ok i m what).mono (fun z σ1 hz => ?_)
  obtain ⟨e1, hC1, hf1⟩ := hz
  refine (m_span σ1 len B F nu W V nk S ns M Y (hM.lo hf1) ok i m what).mono (fun z' σ2 hz' => ?_)
  obtain ⟨e2, hM2, hf2⟩ := hz'
  have hk : okA _ := ok
  exact ⟨e2.trans e1.symm, _, hC1.lo hk hf2, hM2, hk⟩
theorem p_year (σ : Sg) (h : JI σ) (y what : Int) : RI mX9_year 10 [vR 0, vI y, vI what] σ (fun z σ1 => RI mX10_year 10 [vR 73, vI y, vI what] σ1 (fun z' σ2 => z' = z ∧ JI σ2)) := by
  obtain ⟨⟨len, B, F, nu, W, V, nk, S, ns, M, Y⟩, hC, hM, ok⟩ := h
  refine (o_year σ len B F nu W V nk S ns M Y hC ok y what).mono (fun z σ1 hz => ?_)
  obtain ⟨e1, hC1, hf1⟩ := hz
  refine (m_year σ1 len B F nu W V nk S ns M Y (hM.lo hf1) ok y what).mono (fun z' σ2 hz' => ?_)
  obtain ⟨e2, hM2, hf2⟩ := hz'
  have hk : okA _ := ok
  exact ⟨e2.trans e1.symm, _, hC1.lo hk hf2, hM2, hk⟩
theorem p_keep (σ : Sg) (h : JI σ)  : RI mX9_keep 10 [vR 0] σ (fun z σ1 => RI mX10_keep 10 [vR 73] σ1 (fun z' σ2 => z' = z ∧ JI σ2)) := by
  obtain ⟨⟨len, B, F, nu, W, V, nk, S, ns, M, Y⟩, hC, hM, ok⟩ := h
  refine (o_keep σ len B F nu W V nk S ns M Y hC ok ).mono (fun z σ1 hz => ?_)
  obtain ⟨e1, hC1, hf1⟩ := hz
  refine (m_keep σ1 len B F nu W V nk S ns M Y (hM.lo hf1) ok ).mono (fun z' σ2 hz' => ?_)
  obtain ⟨e2, hM2, hf2⟩ := hz'
  have hk : okA _ := k_keep len B F nu W V nk S ns M Y ok
  exact ⟨e2.trans e1.symm, _, hC1.lo hk hf2, hM2, hk⟩
theorem p_back (σ : Sg) (h : JI σ)  : RI mX9_back 10 [vR 0] σ (fun z σ1 => RI mX10_back 10 [vR 73] σ1 (fun z' σ2 => z' = z ∧ JI σ2)) := by
  obtain ⟨⟨len, B, F, nu, W, V, nk, S, ns, M, Y⟩, hC, hM, ok⟩ := h
  refine (o_back σ len B F nu W V nk S ns M Y hC ok ).mono (fun z σ1 hz => ?_)
  obtain ⟨e1, hC1, hf1⟩ := hz
  refine (m_back σ1 len B F nu W V nk S ns M Y (hM.lo hf1) ok ).mono (fun z' σ2 hz' => ?_)
  obtain ⟨e2, hM2, hf2⟩ := hz'
  have hk : okA _ := k_back len B F nu W V nk S ns M Y ok
  exact ⟨e2.trans e1.symm, _, hC1.lo hk hf2, hM2, hk⟩
theorem p_count (σ : Sg) (h : JI σ) (what : Int) : RI mX9_count 10 [vR 0, vI what] σ (fun z σ1 => RI mX10_count 10 [vR 73, vI what] σ1 (fun z' σ2 => z' = z ∧ JI σ2)) := by
  obtain ⟨⟨len, B, F, nu, W, V, nk, S, ns, M, Y⟩, hC, hM, ok⟩ := h
  refine (o_count σ len B F nu W V nk S ns M Y hC what).mono (fun z σ1 hz => ?_)
  obtain ⟨e1, hC1, hf1⟩ := hz
  refine (m_count σ1 len B F nu W V nk S ns M Y (hM.lo hf1) what).mono (fun z' σ2 hz' => ?_)
  obtain ⟨e2, hM2, hf2⟩ := hz'
  have hk : okA _ := ok
  exact ⟨e2.trans e1.symm, _, hC1.lo hk hf2, hM2, hk⟩

