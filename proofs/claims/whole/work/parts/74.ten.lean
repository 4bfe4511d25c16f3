/-! ===== the reference's constructor: its first state ===== -/
set_option maxRecDepth 100000 in
theorem m_noFair0 (σ : Sg) : RV mX10_noFair 1 [vR 73, vI 0] σ (fun σ' => ∀ c, c ≠ 79 → σ' c = (up (up (up (up σ 75 0 0) 77 0 0) 81 0 0) 82 0 1) c) := by
  refine mkRun (by decide +kernel) (Nat.le_of_ble_eq_true rfl) (fun X hF hR => ?_)
  refine jr_aload_n hF dX10_noFair_0 (q := 1) rfl rfl ?_
  refine jr_getR (ci := 10) (j := 2) hF dX10_noFair_1 (q := 4) rfl rfl rfl fl10_13 ?_
  refine jr_iload_n hF dX10_noFair_4 (q := 5) rfl rfl ?_
  refine jr_iconst hF dX10_noFair_5 (q := 6) rfl (by decide) ?_
  refine jr_iast hF dX10_noFair_6 (q := 7) rfl rfl (by omega) ?_
  refine jr_aload_n hF dX10_noFair_7 (q := 8) rfl rfl ?_
  refine jr_getR (ci := 10) (j := 4) hF dX10_noFair_8 (q := 11) rfl rfl rfl fl10_19 ?_
  refine jr_iload_n hF dX10_noFair_11 (q := 12) rfl rfl ?_
  refine jr_iconst hF dX10_noFair_12 (q := 13) rfl (by decide) ?_
  refine jr_iast hF dX10_noFair_13 (q := 14) rfl rfl (by omega) ?_
  refine jr_aload_n hF dX10_noFair_14 (q := 15) rfl rfl ?_
  refine jr_getR (ci := 10) (j := 8) hF dX10_noFair_15 (q := 18) rfl rfl rfl fl10_31 ?_
  refine jr_iload_n hF dX10_noFair_18 (q := 19) rfl rfl ?_
  refine jr_iconst hF dX10_noFair_19 (q := 20) rfl (by decide) ?_
  refine jr_iast hF dX10_noFair_20 (q := 21) rfl rfl (by omega) ?_
  refine jr_aload_n hF dX10_noFair_21 (q := 22) rfl rfl ?_
  refine jr_getR (ci := 10) (j := 9) hF dX10_noFair_22 (q := 25) rfl rfl rfl fl10_34 ?_
  refine jr_iload_n hF dX10_noFair_25 (q := 26) rfl rfl ?_
  refine jr_iconst hF dX10_noFair_26 (q := 27) rfl (by decide) ?_
  refine jr_iast hF dX10_noFair_27 (q := 28) rfl rfl (by omega) ?_
  refine jr_iconst hF dX10_noFair_28 (q := 29) rfl (by decide) ?_
  refine jr_istore_n hF dX10_noFair_29 (q := 30) rfl (by decide) rfl ?_
  refine gs_loop (α := Sg) (fun k _ => [some (vR 73), some (vI 0), some (vI (k : Int))]) (fun σ' => σ') (fun k σ' => ∀ c, c ≠ 79 → σ' c = (up (up (up (up σ 75 0 0) 77 0 0) 81 0 0) 82 0 1) c) 15 (fun σ1 h1 => ?_) (fun k σ1 hk h1 ih => ?_) _ (fun c hc => rfl)
  · refine jr_iload_n hF dX10_noFair_30 (q := 31) rfl rfl ?_
    refine jr_bipush hF dX10_noFair_31 (q := 33) rfl (by decide) (by decide +kernel) ?_
    refine jr_icmp_ge hF dX10_noFair_33 (q := 36) rfl 54 (by decide) (fun a1 => ?_) (fun a1 => ?_)
    · exact jr_retV hF hR dX10_noFair_54 rfl h1
    · omega
  · have ih1 := ih (up σ1 79 (15 * 0 + (k : Int)) 0) (fun c hc => by rw [up_ne hc]; exact h1 c hc)
    refine jr_iload_n hF dX10_noFair_30 (q := 31) rfl rfl ?_
    refine jr_bipush hF dX10_noFair_31 (q := 33) rfl (by decide) (by decide +kernel) ?_
    refine jr_icmp_ge hF dX10_noFair_33 (q := 36) rfl 54 (by decide) (fun a1 => ?_) (fun a1 => ?_)
    · omega
    · refine jr_aload_n hF dX10_noFair_36 (q := 37) rfl rfl ?_
      refine jr_getR (ci := 10) (j := 6) hF dX10_noFair_37 (q := 40) rfl rfl rfl fl10_25 ?_
      refine jr_bipush hF dX10_noFair_40 (q := 42) rfl (by decide) (by decide +kernel) ?_
      refine jr_iload_n hF dX10_noFair_42 (q := 43) rfl rfl ?_
      refine jr_imul hF dX10_noFair_43 (q := 44) rfl (by omega) ?_
      refine jr_iload_n hF dX10_noFair_44 (q := 45) rfl rfl ?_
      refine jr_iadd hF dX10_noFair_45 (q := 46) rfl (by omega) ?_
      refine jr_iconst hF dX10_noFair_46 (q := 47) rfl (by decide) ?_
      refine jr_iast hF dX10_noFair_47 (q := 48) rfl rfl (by omega) ?_
      refine jr_iinc hF dX10_noFair_48 (q := 51) rfl (by decide) rfl rfl (by omega) ?_
      refine jr_goto hF dX10_noFair_51 30 (by decide) ?_
      exact ih1
/-- the reference's cells as the first state has them -/
def Ini10 (σ : Sg) : Prop := σ 73 0 = 0 ∧ σ 73 10 = 0 ∧ σ 73 11 = 0 ∧ σ 73 13 = 0 ∧ σ 75 0 = 1 ∧ σ 76 0 = 1 ∧ σ 77 0 = 2 ∧ σ 78 0 = 0 ∧ σ 78 1 = 0 ∧ σ 79 0 = 9 ∧ σ 79 3 = 6 ∧ σ 80 0 = 8 ∧ σ 80 1 = 5 ∧ σ 81 0 = 0 ∧ σ 82 0 = 1
set_option maxRecDepth 100000 in
theorem x10_tail {X : CT} (hF : Fix nX10 2 X) {σ : Sg} (h0 : ∀ k, 73 ≤ k → σ k = fun _ => 0) (hdone : ∀ σ', Ini10 σ' → (∀ k, k < 73 → σ' k = σ k) → Gs X 220 [some (vR 73)] [] σ') : Gs X 163 [some (vR 73)] [] σ := by
  refine jr_aload_n hF dX10_init_163 (q := 164) rfl rfl ?_
  refine jr_iconst hF dX10_init_164 (q := 165) rfl (by decide) ?_
  refine jr_cV1V hF (m_noFair0 σ) dX10_init_165 (q := 168) rfl lk10_73 vX10_noFair kX10_noFair rfl rfl rfl (by decide) (Nat.le_of_ble_eq_true rfl) (fun σ1 h1 => ?_)
  refine jr_aload_n hF dX10_init_168 (q := 169) rfl rfl ?_
  refine jr_getR (ci := 10) (j := 2) hF dX10_init_169 (q := 172) rfl rfl rfl fl10_13 ?_
  refine jr_iconst hF dX10_init_172 (q := 173) rfl (by decide) ?_
  refine jr_iconst hF dX10_init_173 (q := 174) rfl (by decide) ?_
  refine jr_iast hF dX10_init_174 (q := 175) rfl rfl (by decide) ?_
  refine jr_aload_n hF dX10_init_175 (q := 176) rfl rfl ?_
  refine jr_getR (ci := 10) (j := 3) hF dX10_init_176 (q := 179) rfl rfl rfl fl10_16 ?_
  refine jr_iconst hF dX10_init_179 (q := 180) rfl (by decide) ?_
  refine jr_iconst hF dX10_init_180 (q := 181) rfl (by decide) ?_
  refine jr_iast hF dX10_init_181 (q := 182) rfl rfl (by decide) ?_
  refine jr_aload_n hF dX10_init_182 (q := 183) rfl rfl ?_
  refine jr_getR (ci := 10) (j := 4) hF dX10_init_183 (q := 186) rfl rfl rfl fl10_19 ?_
  refine jr_iconst hF dX10_init_186 (q := 187) rfl (by decide) ?_
  refine jr_iconst hF dX10_init_187 (q := 188) rfl (by decide) ?_
  refine jr_iast hF dX10_init_188 (q := 189) rfl rfl (by decide) ?_
  refine jr_aload_n hF dX10_init_189 (q := 190) rfl rfl ?_
  refine jr_getR (ci := 10) (j := 7) hF dX10_init_190 (q := 193) rfl rfl rfl fl10_28 ?_
  refine jr_iconst hF dX10_init_193 (q := 194) rfl (by decide) ?_
  refine jr_bipush hF dX10_init_194 (q := 196) rfl (by decide) (by decide +kernel) ?_
  refine jr_iast hF dX10_init_196 (q := 197) rfl rfl (by decide) ?_
  refine jr_aload_n hF dX10_init_197 (q := 198) rfl rfl ?_
  refine jr_getR (ci := 10) (j := 7) hF dX10_init_198 (q := 201) rfl rfl rfl fl10_28 ?_
  refine jr_iconst hF dX10_init_201 (q := 202) rfl (by decide) ?_
  refine jr_iconst hF dX10_init_202 (q := 203) rfl (by decide) ?_
  refine jr_iast hF dX10_init_203 (q := 204) rfl rfl (by decide) ?_
  refine jr_aload_n hF dX10_init_204 (q := 205) rfl rfl ?_
  refine jr_getR (ci := 10) (j := 6) hF dX10_init_205 (q := 208) rfl rfl rfl fl10_25 ?_
  refine jr_iconst hF dX10_init_208 (q := 209) rfl (by decide) ?_
  refine jr_bipush hF dX10_init_209 (q := 211) rfl (by decide) (by decide +kernel) ?_
  refine jr_iast hF dX10_init_211 (q := 212) rfl rfl (by decide) ?_
  refine jr_aload_n hF dX10_init_212 (q := 213) rfl rfl ?_
  refine jr_getR (ci := 10) (j := 6) hF dX10_init_213 (q := 216) rfl rfl rfl fl10_25 ?_
  refine jr_iconst hF dX10_init_216 (q := 217) rfl (by decide) ?_
  refine jr_bipush hF dX10_init_217 (q := 219) rfl (by decide) (by decide +kernel) ?_
  refine jr_iast hF dX10_init_219 (q := 220) rfl rfl (by decide) ?_
  refine hdone _ ?_ ?_
  · have g := fun c (hc : c ≠ 79) (hc0 : 73 ≤ c) => (h1 c hc)
    have z := fun c (hc : 73 ≤ c) => h0 c hc
    have e73 : σ1 73 = fun _ => 0 := by rw [h1 73 (by decide), up_ne (by decide), up_ne (by decide), up_ne (by decide), up_ne (by decide)]; exact h0 73 (by decide)
    have e78 : σ1 78 = fun _ => 0 := by rw [h1 78 (by decide), up_ne (by decide), up_ne (by decide), up_ne (by decide), up_ne (by decide)]; exact h0 78 (by decide)
    have e81 : σ1 81 0 = 0 := by rw [h1 81 (by decide)]; simp [up]
    have e82 : σ1 82 0 = 1 := by rw [h1 82 (by decide)]; simp [up]
    refine ⟨?_, ?_, ?_, ?_, ?_, ?_, ?_, ?_, ?_, ?_, ?_, ?_, ?_, ?_, ?_⟩
    all_goals simp [up, e73, e78, e81, e82]
  · intro k hk
    rw [up_ne (by omega), up_ne (by omega), up_ne (by omega), up_ne (by omega), up_ne (by omega), up_ne (by omega), up_ne (by omega), h1 k (by omega), up_ne (by omega), up_ne (by omega), up_ne (by omega), up_ne (by omega)]
/-! ===== the two halves of the lay-out ===== -/
def LayR : List LC := Lay.drop 73
theorem Lay_two : Lay = Lay_h ++ LayR := by decide +kernel
theorem two_refs : ∀ c ∈ Lay_h, (c.1 = 0 → ∀ f ∈ c.2.2.2, ∀ r, f = some r → r < 73) ∧ (c.1 ≠ 0 → c.1 ≠ 1 → c.1 ≠ 2 → c.2.2.1 + c.2.1 ≤ 73) := by
  have h : ∀ c ∈ Lay_h, (c.2.2.2.all (fun f => match f with | some r => decide (r < 73) | none => true)) = true ∧ (c.1 ≠ 0 → c.1 ≠ 1 → c.1 ≠ 2 → c.2.2.1 + c.2.1 ≤ 73) := by decide +kernel
  intro c hc
  obtain ⟨h1, h2⟩ := h c hc
  refine ⟨fun _ f hf r hr => ?_, h2⟩
  have h3 := List.all_eq_true.mp h1 f hf
  rw [hr] at h3
  exact of_decide_eq_true h3
theorem cE_half {ad ad' : Nat → Nat} {cs : C3} {σ σ' : Sg} (ha : ∀ k, k < 73 → ad' k = ad k) (hs : ∀ k, k < 73 → σ' k = σ k) {k : Nat} {c : LC} (h : Lay_h[k]? = some c) : cE ad' cs σ' k c = cE ad cs σ k c := by
  have hk := Lay_lt_h h
  obtain ⟨r1, r2⟩ := two_refs c (List.mem_of_getElem? h)
  obtain ⟨t, n, b, fs⟩ := c
  rcases t with _ | _ | _ | t
  · show Sum.inr (n, fs.mapIdx (fun j f => fE ad' σ' k j f)) = Sum.inr (n, fs.mapIdx (fun j f => fE ad σ k j f))
    congr 2
    apply List.ext_getElem?
    intro j
    rw [List.getElem?_mapIdx, List.getElem?_mapIdx]
    cases hf : fs[j]? with
    | none => rfl
    | some f =>
      cases f with
      | none =>
        show some (Value.int (Int32.ofInt (σ' k (j : Int)))) = some (Value.int (Int32.ofInt (σ k (j : Int))))
        rw [hs k hk]
      | some r =>
        show some (Value.ref (ad' r)) = some (Value.ref (ad r))
        rw [ha r (r1 rfl _ (List.mem_of_getElem? hf) r rfl)]
  · show Sum.inl (cs.1, n, Sum.inl (fun j : Nat => Int32.ofInt (σ' k (j : Int)))) = Sum.inl (cs.1, n, Sum.inl (fun j : Nat => Int32.ofInt (σ k (j : Int))))
    rw [hs k hk]
  · show Sum.inl (cs.2.1, n, Sum.inl (fun j : Nat => Int32.ofInt (σ' k (j : Int)))) = Sum.inl (cs.2.1, n, Sum.inl (fun j : Nat => Int32.ofInt (σ k (j : Int))))
    rw [hs k hk]
  · have h3 : b + n ≤ 73 := r2 (by omega) (by omega) (by omega)
    show Sum.inl (cs.2.2, n, Sum.inr (Sum.inr (Sum.inr (Sum.inr (fun j => if j < n then some (ad' (b + j)) else none))))) = Sum.inl (cs.2.2, n, Sum.inr (Sum.inr (Sum.inr (Sum.inr (fun j => if j < n then some (ad (b + j)) else none)))))
    rw [outer_eq (fun i hi => ha (b + i) (by omega))]
theorem va_P_two {D : va_G} {cs : C3} {ad ad' : Nat → Nat} {σ σ' : Sg} {H : Heap} (ha : ∀ k, k < 73 → ad' k = ad k) (hs : ∀ k, k < 73 → σ' k = σ k) (h1 : va_P D vwCl (mkW_h ad cs σ) H) (h2 : va_P D vwCl (goW ad' cs σ' 73 LayR) H) : va_P D vwCl (mkW ad' cs σ') H := by
  intro k q hq
  obtain ⟨c, hc, rfl⟩ := mkW_inv hq
  rw [Lay_two] at hc
  by_cases hk : k < 73
  · rw [List.getElem?_append_left (by rw [Lay_len_h]; exact hk)] at hc
    have h3 := h1 k _ (mkW_at_h hc)
    rw [ha k hk, cE_half ha hs hc]
    exact h3
  · rw [List.getElem?_append_right (by rw [Lay_len_h]; omega), Lay_len_h] at hc
    refine h2 (k - 73) _ ?_
    rw [← goW_eq, List.getElem?_mapIdx, hc]
    show some (ad' (73 + (k - 73)), cE ad' cs σ' (73 + (k - 73)) c) = _
    rw [show 73 + (k - 73) = k by omega]
theorem goR_at {ad' : Nat → Nat} {cs : C3} {σ' : Sg} {k : Nat} (h1 : 73 ≤ k) (h2 : k < 95) : ∃ e, (goW ad' cs σ' 73 LayR)[k - 73]? = some (ad' k, e) := by
  have hl : k < Lay.length := by rw [Lay_len]; exact h2
  have hc : Lay[k]? = some Lay[k] := List.getElem?_eq_getElem hl
  generalize Lay[k] = c at hc
  rw [Lay_two, List.getElem?_append_right (by rw [Lay_len_h]; omega), Lay_len_h] at hc
  refine ⟨cE ad' cs σ' k c, ?_⟩
  rw [← goW_eq, List.getElem?_mapIdx, hc]
  show some (ad' (73 + (k - 73)), cE ad' cs σ' (73 + (k - 73)) c) = _
  rw [show 73 + (k - 73) = k by omega]
