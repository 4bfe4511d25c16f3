/-! ===== LotsBid's constructor: its first plan ===== -/
def F1c : FD := (1, 0, st1 (fun _ => 0) 0 1, fun _ => 0, fun _ _ => 0, fun _ => 0, 0, 1)
def F2c : FD := (1, 1, st1 (fun _ => 0) 0 1, st1 (fun _ => 0) 0 0, fun _ _ => 0, st1 (fun _ => 0) 0 8, 0, 1)
def F3c : FD := (1, 2, st1 (fun _ => 0) 0 1, st1 (st1 (fun _ => 0) 0 0) 1 0, fun _ _ => 0, st1 (st1 (fun _ => 0) 0 8) 1 5, 0, 1)
def F4c : FD := (1, 2, st1 (fun _ => 0) 0 1, st1 (st1 (fun _ => 0) 0 0) 1 0, st2 (fun _ _ => 0) 0 0 9, st1 (st1 (fun _ => 0) 0 8) 1 5, 0, 1)
def F5c : FD := (1, 2, st1 (fun _ => 0) 0 1, st1 (st1 (fun _ => 0) 0 0) 1 0, st2 (st2 (fun _ _ => 0) 0 0 9) 1 0 6, st1 (st1 (fun _ => 0) 0 8) 1 5, 0, 1)
theorem tF1c : t_m F00 1 = some F1c := by unfold t_m; rw [if_pos (by decide)]; rfl
theorem tF2c : t_l F1c 8 0 = some F2c := by unfold t_l; rw [if_pos (by decide)]; rfl
theorem tF3c : t_l F2c 5 0 = some F3c := by unfold t_l; rw [if_pos (by decide)]; rfl
theorem tF4c : t_w F3c 0 0 9 = some F4c := by unfold t_w; rw [if_pos (by decide)]; rfl
theorem tF5c : t_w F4c 1 0 6 = some F5c := by unfold t_w; rw [if_pos (by decide)]; rfl
theorem okF1c : okF F1c ∧ FZ F1c := tellF_ok okF_00 FZ_00 (c := 109) (a := fun _ => 1) (by unfold tellF; rw [if_pos rfl]; exact tF1c)
theorem okF2c : okF F2c ∧ FZ F2c := tellF_ok okF1c.1 okF1c.2 (c := 108) (a := fun j => if j = 0 then 8 else 0) (by unfold tellF; rw [if_neg (by decide), if_pos rfl]; exact tF2c)
theorem okF3c : okF F3c ∧ FZ F3c := tellF_ok okF2c.1 okF2c.2 (c := 108) (a := fun j => if j = 0 then 5 else 0) (by unfold tellF; rw [if_neg (by decide), if_pos rfl]; exact tF3c)
theorem okF4c : okF F4c ∧ FZ F4c := tellF_ok okF3c.1 okF3c.2 (c := 119) (a := fun j => if j = 2 then 9 else 0) (by unfold tellF; rw [if_neg (by decide), if_neg (by decide), if_pos rfl]; exact tF4c)
/-- the class's cells as the first state has them -/
def Ini9 (σ : Sg) : Prop := σ 1 0 = 0 ∧ σ 4 0 = 1 ∧ σ 4 1 = 2 ∧ σ 5 0 = 1 ∧ σ 6 0 = 0 ∧ σ 6 1 = 0 ∧ σ 8 0 = 9 ∧ σ 9 0 = 6 ∧ σ 13 0 = 8 ∧ σ 13 1 = 5 ∧ σ 13 5 = 0 ∧ σ 13 6 = 1 ∧ σ 66 0 = 0 ∧ σ 69 0 = 0 ∧ σ 63 0 = 0
theorem Ini9_of {σ : Sg} (h : RdC σ 4 F5c) (h0 : ∀ k, k < 4 ∨ 13 < k → σ k = fun _ => 0) : Ini9 σ := by
  obtain ⟨⟨a1, a2, a3, a4, a5, a6, a7, a8⟩, -⟩ := h
  exact ⟨by rw [h0 1 (by decide)], a1, a2, a3 0 (by decide), a4 0 (by decide), a4 1 (by decide), a5 0 0 (by decide) (by decide), a5 1 0 (by decide) (by decide), a6 0 (by decide), a6 1 (by decide), a7, a8, by rw [h0 66 (by decide)], by rw [h0 69 (by decide)], by rw [h0 63 (by decide)]⟩
set_option maxRecDepth 100000 in
theorem x9_tail {X : CT} (hF : Fix_h nX9 3 X) (hdone : ∀ σ', Ini9 σ' → Gs_h X 175 [some (vR 0)] [] σ') : Gs_h X 114 [some (vR 0)] [] (fun _ _ => 0) := by
  refine jr_aload_n_h hF dX9_init_114 (q := 115) rfl rfl ?_
  refine jr_getR_h (ci := 9) (j := 1) hF dX9_init_115 (q := 118) rfl rfl rfl fl9_19 ?_
  refine jr_cV0V_h hF (c_clear_h _ 4 (Or.inl rfl)) dX9_init_118 (q := 121) rfl lk9_75 vX4_clear kX4_clear rfl rfl rfl (by decide) (Nat.le_of_ble_eq_true rfl) (fun σ1 h1 => ?_)
  refine jr_aload_n_h hF dX9_init_121 (q := 122) rfl rfl ?_
  refine jr_getR_h (ci := 9) (j := 1) hF dX9_init_122 (q := 125) rfl rfl rfl fl9_19 ?_
  refine jr_iconst_h hF dX9_init_125 (q := 126) rfl (by decide) ?_
  refine jr_cV1I_h hF (c_addMaster_h σ1 4 (Or.inl rfl) F00 h1.1 FZ_00 okF_00 1) dX9_init_126 (q := 129) rfl lk9_78 vX4_addMaster kX4_addMaster rfl rfl rfl (by decide) (Nat.le_of_ble_eq_true rfl) (fun z2 σ2 h2 => ?_)
  rw [tF1c] at h2
  refine jr_pop_h hF dX9_init_129 (q := 130) rfl rfl ?_
  refine jr_aload_n_h hF dX9_init_130 (q := 131) rfl rfl ?_
  refine jr_getR_h (ci := 9) (j := 1) hF dX9_init_131 (q := 134) rfl rfl rfl fl9_19 ?_
  refine jr_bipush_h hF dX9_init_134 (q := 136) rfl (by decide) (by decide +kernel) ?_
  refine jr_iconst_h hF dX9_init_136 (q := 137) rfl (by decide) ?_
  refine jr_cV2I_h hF (c_addLad_h σ2 4 (Or.inl rfl) F1c h2.2.2 okF1c.2 okF1c.1 8 0) dX9_init_137 (q := 140) rfl lk9_82 vX4_addLad kX4_addLad rfl rfl rfl (by decide) (Nat.le_of_ble_eq_true rfl) (fun z3 σ3 h3 => ?_)
  rw [tF2c] at h3
  refine jr_pop_h hF dX9_init_140 (q := 141) rfl rfl ?_
  refine jr_aload_n_h hF dX9_init_141 (q := 142) rfl rfl ?_
  refine jr_getR_h (ci := 9) (j := 1) hF dX9_init_142 (q := 145) rfl rfl rfl fl9_19 ?_
  refine jr_iconst_h hF dX9_init_145 (q := 146) rfl (by decide) ?_
  refine jr_iconst_h hF dX9_init_146 (q := 147) rfl (by decide) ?_
  refine jr_cV2I_h hF (c_addLad_h σ3 4 (Or.inl rfl) F2c h3.2.2 okF2c.2 okF2c.1 5 0) dX9_init_147 (q := 150) rfl lk9_82 vX4_addLad kX4_addLad rfl rfl rfl (by decide) (Nat.le_of_ble_eq_true rfl) (fun z4 σ4 h4 => ?_)
  rw [tF3c] at h4
  refine jr_pop_h hF dX9_init_150 (q := 151) rfl rfl ?_
  refine jr_aload_n_h hF dX9_init_151 (q := 152) rfl rfl ?_
  refine jr_getR_h (ci := 9) (j := 1) hF dX9_init_152 (q := 155) rfl rfl rfl fl9_19 ?_
  refine jr_iconst_h hF dX9_init_155 (q := 156) rfl (by decide) ?_
  refine jr_iconst_h hF dX9_init_156 (q := 157) rfl (by decide) ?_
  refine jr_bipush_h hF dX9_init_157 (q := 159) rfl (by decide) (by decide +kernel) ?_
  refine jr_cV3I_h hF (c_addWant_h σ4 4 (Or.inl rfl) F3c h4.2.2 okF3c.1 0 0 9) dX9_init_159 (q := 162) rfl lk9_86 vX4_addWant kX4_addWant rfl rfl rfl (by decide) (Nat.le_of_ble_eq_true rfl) (fun z5 σ5 h5 => ?_)
  rw [tF4c] at h5
  refine jr_pop_h hF dX9_init_162 (q := 163) rfl rfl ?_
  refine jr_aload_n_h hF dX9_init_163 (q := 164) rfl rfl ?_
  refine jr_getR_h (ci := 9) (j := 1) hF dX9_init_164 (q := 167) rfl rfl rfl fl9_19 ?_
  refine jr_iconst_h hF dX9_init_167 (q := 168) rfl (by decide) ?_
  refine jr_iconst_h hF dX9_init_168 (q := 169) rfl (by decide) ?_
  refine jr_bipush_h hF dX9_init_169 (q := 171) rfl (by decide) (by decide +kernel) ?_
  refine jr_cV3I_h hF (c_addWant_h σ5 4 (Or.inl rfl) F4c h5.2.2 okF4c.1 1 0 6) dX9_init_171 (q := 174) rfl lk9_86 vX4_addWant kX4_addWant rfl rfl rfl (by decide) (Nat.le_of_ble_eq_true rfl) (fun z6 σ6 h6 => ?_)
  rw [tF5c] at h6
  refine jr_pop_h hF dX9_init_174 (q := 175) rfl rfl ?_
  exact hdone σ6 (Ini9_of h6.2.2 (fun k hk => by rw [h6.1 k hk, h5.1 k hk, h4.1 k hk, h3.1 k hk, h2.1 k hk, h1.2 k hk]))
/-! ===== the cells of the lay-out, one behind the other ===== -/
def goW (ad : Nat → Nat) (cs : C3) (σ : Sg) (k : Nat) (L : List LC) : va_W := match L with
  | [] => []
  | c :: r => (ad k, cE ad cs σ k c) :: goW ad cs σ (k + 1) r
theorem goW_eq (ad : Nat → Nat) (cs : C3) (σ : Sg) : ∀ (L : List LC) (k : Nat), L.mapIdx (fun i c => (ad (k + i), cE ad cs σ (k + i) c)) = goW ad cs σ k L
  | [], _ => rfl
  | c :: r, k => by
    rw [List.mapIdx_cons]
    show (ad (k + 0), cE ad cs σ (k + 0) c) :: _ = (ad k, cE ad cs σ k c) :: goW ad cs σ (k + 1) r
    rw [← goW_eq ad cs σ r (k + 1)]
    have e : (fun i c => (ad (k + (i + 1)), cE ad cs σ (k + (i + 1)) c)) = (fun (i : Nat) (c : LC) => (ad (k + 1 + i), cE ad cs σ (k + 1 + i) c)) := by
      funext i c
      rw [show k + (i + 1) = k + 1 + i by omega]
    rw [e]
    rfl
theorem mkW_h_go (ad : Nat → Nat) (cs : C3) (σ : Sg) : mkW_h ad cs σ = goW ad cs σ 0 Lay_h := by
  unfold mkW_h
  rw [← goW_eq]
  congr 1
  funext i c
  rw [Nat.zero_add]
theorem outer_eq {n : Nat} {f g : Nat → Nat} (h : ∀ i, i < n → f i = g i) : (fun i => if i < n then some (f i) else none) = (fun i => if i < n then some (g i) else none) := by
  funext i
  by_cases hi : i < n
  · rw [if_pos hi, if_pos hi, h i hi]
  · rw [if_neg hi, if_neg hi]
theorem adI_of_h {A : Nat → Prop} {ad : Nat → Nat} {cs : C3} {σ : Sg} (h : va_D A (mkW_h ad cs σ)) : adI_h ad ∧ ∀ k, k < 73 → A (ad k) := by
  have hc : ∀ k, k < 73 → ∃ c, Lay_h[k]? = some c := fun k hk => by
    have h1 : k < Lay_h.length := by rw [Lay_len_h]; exact hk
    exact ⟨Lay_h[k], List.getElem?_eq_getElem h1⟩
  refine ⟨fun i j hi hj e => ?_, fun k hk => ?_⟩
  · obtain ⟨c1, h1⟩ := hc i hi
    obtain ⟨c2, h2⟩ := hc j hj
    exact h.1 i j _ _ (mkW_at_h h1) (mkW_at_h h2) e
  · obtain ⟨c1, h1⟩ := hc k hk
    exact h.2 k _ (mkW_at_h h1)
theorem lvok_one {ad : Nat → Nat} {ls : Array Slot} {n h0 k : Nat} (hn : n = 1) (hl : lv_has ls 1 [(0, .ref h0)]) (h : ad k = h0) : lvok ad [some (vR k)] n ls := by
  subst hn
  refine ⟨hl.1, hl.2.1, fun i v hv => ?_⟩
  have hi : i < 1 := (List.getElem?_eq_some_iff.mp hv).1
  rw [show i = 0 by omega] at hv ⊢
  cases hv
  have h1 := hl.2.2 (0, .ref h0) List.mem_cons_self
  refine ⟨?_, trivial⟩
  show ls[0]? = some (.val (.ref (ad k)))
  rw [h]
  exact h1
abbrev fs09 : List Value := [.null, .null, .null, .null, .null, .null, .null, .null, .null, .null]
def f9 (cs : C3) (h0 : Nat) (fs : List Value) (w : va_W) : Prop := ∃ (ad : Nat → Nat) (σ : Sg), (((h0, .inr (9, fs)) :: w : va_W)) = mkW_h ad cs σ ∧ (∀ (k : Nat) (j : Int), inR (σ k j)) ∧ Ini9 σ
theorem mkW_h_cons (ad : Nat → Nat) (cs : C3) (σ : Sg) : mkW_h ad cs σ = (ad 0, .inr (9, [.ref (ad 1), .ref (ad 4), .ref (ad 14), .ref (ad 24), .ref (ad 29), .ref (ad 54), .ref (ad 59), .ref (ad 63), .ref (ad 66), .ref (ad 69)])) :: (mkW_h ad cs σ).tail := by
  rw [mkW_h_go]
  rfl
theorem x9_mid {X : CX} (hF : CF nX9 3 72 769 X) (hE : CE X 9 fs09 72 769 f9) {fs : List Value} {w : va_W} {k n : Nat} (ad : Nat → Nat) (hk : k ≤ 72) (hn : n ≤ 769) (hw : (((xh0 X, .inr (9, fs)) :: w : va_W)) = mkW_h ad (xcs X) (fun _ _ => 0)) : Cg X 9 114 fs w k n := by
  obtain ⟨p, l, e, R, s, m, args, below, meth, c, D, cs, A, a0, Q⟩ := X
  obtain ⟨hx, hb, hml, hown, hts, hr, hlocks, hK, hA, hin, hd1, hd2, hd3, hd4⟩ := hF
  obtain ⟨rfl, hAe⟩ := hE
  intro H locs ls hl hP hD hS
  have hw : (((a0, .inr (9, fs)) :: w : va_W)) = mkW_h ad cs (fun _ _ => 0) := hw
  rw [hw] at hP hD
  obtain ⟨hi, hAd⟩ := adI_of_h hD
  have h00 : ad 0 = a0 := by
    have h1 := hw
    rw [mkW_h_cons] at h1
    exact (congrArg Prod.fst (List.cons.inj h1).1).symm
  have hg := x9_tail (X := (p, l, e, R, s, m, args, below, meth, c, D, cs, ad, A, k, n, MQ below (cQ D cs a0 s.heap.size 9 fs09 f9) args s 72 769 (va_A [(a0, .inr (9, fs09))] s.heap.size))) ⟨hx, hb, hml, hown, hts, hr, hlocks, hK.1, hK.2.2, hi, hAd, hd1, hd2, by omega, by omega⟩
  refine hg ?_ H locs ls (lvok_one hml hl h00) (fun _ h => by cases h) (fun _ _ => (show inR 0 from ⟨by decide, by decide⟩)) hP hS
  · intro σ' hI H9 locs9 ls9 hl9 hst9 hσ9 hP9 hS9
    refine W.widen (k := 72) (n := 769) hk hn ?_
    obtain ⟨fs', w', e1⟩ : ∃ (fs' : List Value) (w' : va_W), mkW_h ad cs σ' = (a0, .inr (9, fs')) :: w' := ⟨_, _, by rw [← h00]; exact mkW_h_cons ad cs σ'⟩
    have hD9 : va_D A (mkW_h ad cs σ') := mkW_D_h hi hAd
    rw [e1] at hP9 hD9
    refine W.vret hx hb hr (fun t ht hW => ⟨⟨(fs', w'), rfl, ⟨ad, σ', e1.symm, hσ9, hI⟩, ?_, ?_⟩, ?_⟩) ?_ dX9_init_175
    · rw [← hAe]
      exact hS9.2.2
    · rw [ht]
      exact hP9
    · rw [← hAe]
      exact hD9
    · rw [← hAe]
      exact hS9.F ht
