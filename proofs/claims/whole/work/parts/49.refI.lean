theorem frst_dn {R : Nat → Bool} {n : Nat} {f T : Int} (h : T = if frst R (n + 1) ≠ -4 then frst R (n + 1) else f) : T = if frst R n ≠ -4 then frst R n else if R n = true then (n : Int) else f := by
  have e2 : frst R (n + 1) = if frst R n ≠ -4 then frst R n else if R n = true then (n : Int) else -4 := rfl
  have hn : ((n : Int)) ≠ -4 := by omega
  rw [h, e2]
  by_cases ez : frst R n = -4
  · by_cases er : R n = true
    · simp [ez, er, hn]
    · simp [ez, er]
  · simp [ez]
section
variable (σ : Sg) (len : Nat) (B : Nat → Int) (F : FD) (nu : Nat) (W V : Nat → Int) (nk : Nat) (S : Nat → Int → Int) (ns : Nat) (M Y : Nat → Int)
set_option maxRecDepth 100000 in
theorem m_game (h : RM σ (len, B, F, nu, W, V, nk, S, ns, M, Y)) (ok : okA (len, B, F, nu, W, V, nk, S, ns, M, Y)) (i j what : Int) : RI mX10_game 10 [vR 73, vI i, vI j, vI what] σ (fun z σ' => z = an_game F i j what ∧ RM σ' (len, B, F, nu, W, V, nk, S, ns, M, Y) ∧ ∀ k, k < 73 → σ' k = σ k) := by
  have hC := h.2.1
  have okF' := ok.2.2.1
  have h5 := okF'.2.1
  refine mkRun (by decide +kernel) (Nat.le_of_ble_eq_true rfl) (fun X hF hR => ?_)
  have hbad : ¬ ((0 ≤ i ∧ i < f_nl F) ∧ (0 ≤ j ∧ j < f_nl F) ∧ i ≠ j ∧ 0 ≤ what ∧ what ≤ 2) → Gs X 33 (entryL [vR 73, vI i, vI j, vI what] mX10_game.2.2.1) [] σ := by
    intro hc
    refine jr_iconst hF dX10_game_33 (q := 34) rfl (by decide) ?_
    refine jr_retI hF hR dX10_game_34 rfl ⟨by unfold an_game; rw [if_pos hc], h, fun _ _ => rfl⟩
  refine jr_aload_n hF dX10_game_0 (q := 1) rfl rfl ?_
  refine jr_iload_n hF dX10_game_1 (q := 2) rfl rfl ?_
  refine jr_cV1I hF (m_isLad σ F hC okF' i) dX10_game_2 (q := 5) rfl lk10_177 vX10_isLad kX10_isLad rfl rfl rfl (by decide) (Nat.le_of_ble_eq_true rfl) (fun z σ1 hz => ?_)
  obtain ⟨rfl, rfl⟩ := hz
  refine jr_if_eq hF dX10_game_5 (q := 8) rfl 33 (by decide) (fun a1 => ?_) (fun a1 => ?_)
  · exact hbad (fun hh => by rw [if_pos (by omega)] at a1; omega)
  · have b1 : 0 ≤ i ∧ i < f_nl F := Classical.byContradiction fun h => a1 (by rw [if_neg h])
    refine jr_aload_n hF dX10_game_8 (q := 9) rfl rfl ?_
    refine jr_iload_n hF dX10_game_9 (q := 10) rfl rfl ?_
    refine jr_cV1I hF (m_isLad σ F hC okF' j) dX10_game_10 (q := 13) rfl lk10_177 vX10_isLad kX10_isLad rfl rfl rfl (by decide) (Nat.le_of_ble_eq_true rfl) (fun z σ1 hz => ?_)
    obtain ⟨rfl, rfl⟩ := hz
    refine jr_if_eq hF dX10_game_13 (q := 16) rfl 33 (by decide) (fun a2 => ?_) (fun a2 => ?_)
    · exact hbad (fun hh => by rw [if_pos (by omega)] at a2; omega)
    · have b2 : 0 ≤ j ∧ j < f_nl F := Classical.byContradiction fun h => a2 (by rw [if_neg h])
      refine jr_iload_n hF dX10_game_16 (q := 17) rfl rfl ?_
      refine jr_iload_n hF dX10_game_17 (q := 18) rfl rfl ?_
      refine jr_icmp_eq hF dX10_game_18 (q := 21) rfl 33 (by decide) (fun a3 => ?_) (fun a3 => ?_)
      · exact hbad (fun hh => hh.2.2.1 a3)
      · refine jr_iload_n hF dX10_game_21 (q := 22) rfl rfl ?_
        refine jr_i2l hF dX10_game_22 (q := 23) rfl ?_
        refine jr_lconst hF 0 dX10_game_23 (q := 24) rfl (by decide) (by decide +kernel) ?_
        refine jr_ldc2 hF 2 dX10_game_24 (q := 27) rfl kl10_100 (by decide) (by decide +kernel) ?_
        refine jr_cS3I hF (m_in σ what 0 2) dX10_game_27 (q := 30) rfl lk10_79 vX10_in kX10_in (by decide) (Nat.le_of_ble_eq_true rfl) (fun z σ1 hz => ?_)
        obtain ⟨rfl, rfl⟩ := hz
        refine jr_if_ne hF dX10_game_30 (q := 33) rfl 35 (by decide) (fun a4 => ?_) (fun a4 => ?_)
        · have b4 : 0 ≤ what ∧ what ≤ 2 := Classical.byContradiction fun h => a4 (by rw [if_neg h])
          obtain ⟨p, rfl⟩ : ∃ p : Nat, i = (p : Int) := ⟨i.toNat, by omega⟩
          obtain ⟨q, rfl⟩ : ∃ q : Nat, j = (q : Int) := ⟨j.toNat, by omega⟩
          have hp : p < f_nl F := by omega
          have hq : q < f_nl F := by omega
          have hpq : p ≠ q := by omega
          have eA : an_game F (p : Int) (q : Int) what = if what = 0 then cnt (rsR F p q) 100 else if cnt (rsR F p q) 100 = 0 then -4 else if what = 1 then frst (rsR F p q) 100 / 10 + 1 else frst (rsR F p q) 100 % 10 + 1 := by
            unfold an_game
            rw [if_neg (by omega)]
            rfl
          rw [eA] at hR
          refine jr_aload_n hF dX10_game_35 (q := 36) rfl rfl ?_
          refine jr_getR (ci := 10) (j := 7) hF dX10_game_36 (q := 39) rfl rfl rfl fl10_28 ?_
          refine jr_iload_n hF dX10_game_39 (q := 40) rfl rfl ?_
          refine jr_iald hF dX10_game_40 (q := 41) rfl rfl (by omega) ?_
          rw [hC.lim hp]
          refine jr_istore hF dX10_game_41 (q := 43) rfl (by decide) rfl ?_
          refine jr_aload_n hF dX10_game_43 (q := 44) rfl rfl ?_
          refine jr_getR (ci := 10) (j := 7) hF dX10_game_44 (q := 47) rfl rfl rfl fl10_28 ?_
          refine jr_iload_n hF dX10_game_47 (q := 48) rfl rfl ?_
          refine jr_iald hF dX10_game_48 (q := 49) rfl rfl (by omega) ?_
          rw [hC.lim hq]
          refine jr_istore hF dX10_game_49 (q := 51) rfl (by decide) rfl ?_
          refine jr_iconst hF dX10_game_51 (q := 52) rfl (by decide) ?_
          refine jr_istore hF dX10_game_52 (q := 54) rfl (by decide) rfl ?_
          refine gs_loop (α := Sg) (fun k _ => [some (vR 73), some (vI (p : Int)), some (vI (q : Int)), some (vI what), some (vI (f_lm F p)), some (vI (f_lm F q)), some (vI (k : Int)), none, none, none, none]) (fun σ' => σ') (fun k σ' => (∃ u v, RepM σ' (f_lim2 F p q u v)) ∧ LFr (fun x => x = (p : Int) ∨ x = (q : Int)) σ σ' ∧ ∀ t : Nat, t < k → σ' 89 (t : Int) = g_one F p q (t / 10 + 1) (t % 10 + 1) ∧ σ' 90 (t : Int) = g_two F p q (t / 10 + 1) (t % 10 + 1)) 100 (fun σ1 h1 => ?_) (fun k σ1 hk h1 ih => ?_) σ ⟨⟨f_lm F p, f_lm F q, by unfold f_lim2; rw [f_lim_self, f_lim_self]; exact hC⟩, ⟨fun _ _ => rfl, fun _ _ => rfl, fun _ _ => rfl⟩, fun t ht => absurd ht (Nat.not_lt_zero t)⟩
          · obtain ⟨-, i2, i3⟩ := h1
            have hfin : LFr (fun x => x = (p : Int) ∨ x = (q : Int)) σ (up (up σ1 80 (p : Int) (f_lm F p)) 80 (q : Int) (f_lm F q)) := LFr.st (LFr.st i2 (show (fun x => x = (p : Int) ∨ x = (q : Int)) (p : Int) from Or.inl rfl)) (show (fun x => x = (p : Int) ∨ x = (q : Int)) (q : Int) from Or.inr rfl)
            have h80 : (up (up σ1 80 (p : Int) (f_lm F p)) 80 (q : Int) (f_lm F q)) 80 = σ 80 := by
              funext x
              unfold up
              by_cases e : x = (q : Int)
              · rw [if_pos ⟨rfl, e⟩, e]; exact (hC.lim hq).symm
              · rw [if_neg (fun hh => e hh.2)]
                by_cases e2 : x = (p : Int)
                · rw [if_pos ⟨rfl, e2⟩, e2]; exact (hC.lim hp).symm
                · rw [if_neg (fun hh => e2 hh.2)]
                  exact i2.2.1 x (fun hh => hh.elim e2 e)
            have i3' : ∀ t : Nat, t < 100 → (up (up σ1 80 (p : Int) (f_lm F p)) 80 (q : Int) (f_lm F q)) 89 (t : Int) = g_one F p q (t / 10 + 1) (t % 10 + 1) ∧ (up (up σ1 80 (p : Int) (f_lm F p)) 80 (q : Int) (f_lm F q)) 90 (t : Int) = g_two F p q (t / 10 + 1) (t % 10 + 1) := fun t ht => by
              rw [up_ne (by decide), up_ne (by decide), up_ne (by decide), up_ne (by decide)]
              exact i3 t ht
            refine jr_iload hF dX10_game_54 (q := 56) rfl rfl ?_
            refine jr_bipush hF dX10_game_56 (q := 58) rfl (by decide) (by decide +kernel) ?_
            refine jr_icmp_ge hF dX10_game_58 (q := 61) rfl 123 (by decide) (fun a5 => ?_) (fun a5 => ?_)
            · refine jr_aload_n hF dX10_game_123 (q := 124) rfl rfl ?_
              refine jr_getR (ci := 10) (j := 7) hF dX10_game_124 (q := 127) rfl rfl rfl fl10_28 ?_
              refine jr_iload_n hF dX10_game_127 (q := 128) rfl rfl ?_
              refine jr_iload hF dX10_game_128 (q := 130) rfl rfl ?_
              refine jr_iast hF dX10_game_130 (q := 131) rfl rfl (by omega) ?_
              refine jr_aload_n hF dX10_game_131 (q := 132) rfl rfl ?_
              refine jr_getR (ci := 10) (j := 7) hF dX10_game_132 (q := 135) rfl rfl rfl fl10_28 ?_
              refine jr_iload_n hF dX10_game_135 (q := 136) rfl rfl ?_
              refine jr_iload hF dX10_game_136 (q := 138) rfl rfl ?_
              refine jr_iast hF dX10_game_138 (q := 139) rfl rfl (by omega) ?_
              refine jr_iconst hF dX10_game_139 (q := 140) rfl (by decide) ?_
              refine jr_istore hF dX10_game_140 (q := 142) rfl (by decide) rfl ?_
              refine jr_bipush hF dX10_game_142 (q := 144) rfl (by decide) (by decide +kernel) ?_
              refine jr_istore hF dX10_game_144 (q := 146) rfl (by decide) rfl ?_
              refine jr_bipush hF dX10_game_146 (q := 148) rfl (by decide) (by decide +kernel) ?_
              refine jr_istore hF dX10_game_148 (q := 150) rfl (by decide) rfl ?_
              generalize up (up σ1 80 (p : Int) (f_lm F p)) 80 (q : Int) (f_lm F q) = σ2 at hfin h80 i3' ⊢
              have hRM := h.lf hfin h80
              have hlo : ∀ k, k < 73 → σ2 k = σ k := fun k hk => hfin.1 k (by omega)
              have hfc := frst_cnt (rsR F p q) 100
              have hend : ∀ n f : Int, n = cnt (rsR F p q) 100 → f = frst (rsR F p q) 100 → Gs X 273 [some (vR 73), some (vI (p : Int)), some (vI (q : Int)), some (vI what), some (vI (f_lm F p)), some (vI (f_lm F q)), some (vI n), some (vI f), none, none, none] [] σ2 := by
                intro n f hn hf
                subst hn
                subst hf
                refine jr_iload_n hF dX10_game_273 (q := 274) rfl rfl ?_
                refine jr_if_ne hF dX10_game_274 (q := 277) rfl 282 (by decide) (fun a6 => ?_) (fun a6 => ?_)
                · rw [if_neg a6] at hR
                  refine jr_iload hF dX10_game_282 (q := 284) rfl rfl ?_
                  refine jr_if_ge hF dX10_game_284 (q := 287) rfl 292 (by decide) (fun a7 => ?_) (fun a7 => ?_)
                  · rw [if_neg (by omega)] at hR
                    refine jr_iload_n hF dX10_game_292 (q := 293) rfl rfl ?_
                    refine jr_iconst hF dX10_game_293 (q := 294) rfl (by decide) ?_
                    refine jr_icmp_ne hF dX10_game_294 (q := 297) rfl 307 (by decide) (fun a8 => ?_) (fun a8 => ?_)
                    · refine jr_iconst hF dX10_game_307 (q := 308) rfl (by decide) ?_
                      refine jr_iload hF dX10_game_308 (q := 310) rfl rfl ?_
                      refine jr_bipush hF dX10_game_310 (q := 312) rfl (by decide) (by decide +kernel) ?_
                      refine jr_irem hF dX10_game_312 (q := 313) rfl (by omega) (by omega) ?_
                      refine jr_iadd hF dX10_game_313 (q := 314) rfl (by omega) ?_
                      refine jr_retI hF hR dX10_game_314 rfl ⟨by rw [if_neg a8]; exact Int.add_comm _ _, hRM, hlo⟩
                    · refine jr_iconst hF dX10_game_297 (q := 298) rfl (by decide) ?_
                      refine jr_iload hF dX10_game_298 (q := 300) rfl rfl ?_
                      refine jr_bipush hF dX10_game_300 (q := 302) rfl (by decide) (by decide +kernel) ?_
                      refine jr_idiv hF dX10_game_302 (q := 303) rfl (by omega) (by omega) ?_
                      refine jr_iadd hF dX10_game_303 (q := 304) rfl (by omega) ?_
                      refine jr_goto hF dX10_game_304 314 (by decide) ?_
                      refine jr_retI hF hR dX10_game_314 rfl ⟨by rw [if_pos a8]; exact Int.add_comm _ _, hRM, hlo⟩
                  · rw [if_pos (by omega)] at hR
                    refine jr_bipush hF dX10_game_287 (q := 289) rfl (by decide) (by decide +kernel) ?_
                    refine jr_goto hF dX10_game_289 314 (by decide) ?_
                    refine jr_retI hF hR dX10_game_314 rfl ⟨rfl, hRM, hlo⟩
                · rw [if_pos a6] at hR
                  refine jr_iload hF dX10_game_277 (q := 279) rfl rfl ?_
                  refine jr_goto hF dX10_game_279 314 (by decide) ?_
                  refine jr_retI hF hR dX10_game_314 rfl ⟨rfl, hRM, hlo⟩
              refine gs_down (α := Nat × Int × Int) (fun a => [some (vR 73), some (vI (p : Int)), some (vI (q : Int)), some (vI what), some (vI (f_lm F p)), some (vI (f_lm F q)), some (vI a.2.1), some (vI a.2.2), some (vI ((a.1 : Int) - 1)), none, none]) (fun _ => σ2) (fun n a => a.1 = n ∧ a.1 ≤ 100 ∧ a.2.1 + cnt (rsR F p q) a.1 = cnt (rsR F p q) 100 ∧ frst (rsR F p q) 100 = (if frst (rsR F p q) a.1 ≠ -4 then frst (rsR F p q) a.1 else a.2.2)) (fun a hI => ?_) (fun n a hI ih => ?_) 100 (100, 0, -4) ⟨rfl, Nat.le_refl _, by show 0 + cnt (rsR F p q) 100 = _; omega, by
                show frst (rsR F p q) 100 = if frst (rsR F p q) 100 ≠ -4 then frst (rsR F p q) 100 else -4
                split <;> omega⟩
              · obtain ⟨k, n', f'⟩ := a
                obtain ⟨c1, c2, c3, c4⟩ := hI
                dsimp only at c1 c2 c3 c4 ⊢
                subst c1
                have e1 : cnt (rsR F p q) 0 = 0 := rfl
                have e2 : frst (rsR F p q) 0 = -4 := rfl
                rw [if_neg (by omega)] at c4
                refine jr_iload hF dX10_game_150 (q := 152) rfl rfl ?_
                refine jr_if_lt hF dX10_game_152 (q := 155) rfl 273 (by decide) (fun a6 => ?_) (fun a6 => ?_)
                · refine jr_fg 8 ?_
                  exact hend n' f' (by omega) c4.symm
                · omega
              · obtain ⟨k', n', f'⟩ := a
                obtain ⟨c1, c2, c3, c4⟩ := hI
                dsimp only at c1 c2 c3 c4 ⊢
                subst c1
                have e1 : cnt (rsR F p q) (n + 1) = cnt (rsR F p q) n + (if rsR F p q n = true then 1 else 0) := rfl
                have e2 : frst (rsR F p q) (n + 1) = if frst (rsR F p q) n ≠ -4 then frst (rsR F p q) n else if rsR F p q n = true then (n : Int) else -4 := rfl
                have hc1 := cnt_le (rsR F p q) n
                have hc2 := cnt_le (rsR F p q) 100
                obtain ⟨o1, o2⟩ := i3' n (by omega)
                refine jr_iload hF dX10_game_150 (q := 152) rfl rfl ?_
                refine jr_if_lt hF dX10_game_152 (q := 155) rfl 273 (by decide) (fun a6 => ?_) (fun a6 => ?_)
                · omega
                · refine jr_iconst hF dX10_game_155 (q := 156) rfl (by decide) ?_
                  refine jr_istore hF dX10_game_156 (q := 158) rfl (by decide) rfl ?_
                  refine jr_iconst hF dX10_game_158 (q := 159) rfl (by decide) ?_
                  refine jr_istore hF dX10_game_159 (q := 161) rfl (by decide) rfl ?_
                  rw [show ((n + 1 : Nat) : Int) - 1 = (n : Int) by omega]
                  refine gs_loop (α := Unit) (fun v _ => [some (vR 73), some (vI (p : Int)), some (vI (q : Int)), some (vI what), some (vI (f_lm F p)), some (vI (f_lm F q)), some (vI n'), some (vI f'), some (vI (n : Int)), some (vI (if rsB (g_one F p q) (g_two F p q) (n / 10 + 1) (n % 10 + 1) v = true then 1 else 0)), some (vI (v : Int))]) (fun _ => σ2) (fun _ _ => True) 10 (fun _ _ => ?_) (fun v _ hv _ ih2 => ?_) () trivial
                  · refine jr_iload hF dX10_game_161 (q := 163) rfl rfl ?_
                    refine jr_bipush hF dX10_game_163 (q := 165) rfl (by decide) (by decide +kernel) ?_
                    refine jr_icmp_ge hF dX10_game_165 (q := 168) rfl 238 (by decide) (fun a7 => ?_) (fun a7 => ?_)
                    · have eR : rsB (g_one F p q) (g_two F p q) (n / 10 + 1) (n % 10 + 1) 10 = rsR F p q n := rfl
                      rw [eR]
                      refine jr_fg 10 ?_
                      refine jr_iload hF dX10_game_238 (q := 240) rfl rfl ?_
                      refine jr_iload hF dX10_game_240 (q := 242) rfl rfl ?_
                      refine jr_if_eq hF dX10_game_242 (q := 245) rfl 249 (by decide) (fun a8 => ?_) (fun a8 => ?_)
                      · have eb := bi_0 a8
                        rw [eb] at e1 e2 ⊢
                        have ih1 := ih (n, n' + 0, f') ⟨rfl, by show n ≤ 100; omega, by
                          show n' + 0 + cnt (rsR F p q) n = _
                          rw [if_neg (by decide)] at e1
                          omega, by
                          show _ = if frst (rsR F p q) n ≠ -4 then frst (rsR F p q) n else f'
                          have := frst_dn c4
                          rw [eb, if_neg (show ¬ (false = true) by decide)] at this
                          exact this⟩
                        dsimp only at ih1
                        refine jr_iconst hF dX10_game_249 (q := 250) rfl (by decide) ?_
                        refine jr_iadd hF dX10_game_250 (q := 251) rfl (by omega) ?_
                        refine jr_istore hF dX10_game_251 (q := 253) rfl (by decide) rfl ?_
                        refine jr_iload hF dX10_game_253 (q := 255) rfl rfl ?_
                        refine jr_if_eq hF dX10_game_255 (q := 258) rfl 263 (by decide) (fun a9 => ?_) (fun a9 => ?_)
                        · refine jr_fg 9 ?_
                          refine jr_iload hF dX10_game_263 (q := 265) rfl rfl ?_
                          refine jr_istore hF dX10_game_265 (q := 267) rfl (by decide) rfl ?_
                          refine jr_iinc hF dX10_game_267 (q := 270) rfl (by decide) rfl rfl (by omega) ?_
                          refine jr_goto hF dX10_game_270 150 (by decide) ?_
                          exact ih1
                        · exact absurd rfl a9
                      · have eb := bi_1 a8
                        rw [eb] at e1 e2 ⊢
                        rw [if_pos rfl] at e1
                        have ih1 := ih (n, n' + 1, (n : Int)) ⟨rfl, by show n ≤ 100; omega, by
                          show n' + 1 + cnt (rsR F p q) n = _
                          omega, by
                          show _ = if frst (rsR F p q) n ≠ -4 then frst (rsR F p q) n else (n : Int)
                          have := frst_dn c4
                          rw [eb, if_pos rfl] at this
                          exact this⟩
                        dsimp only at ih1
                        refine jr_iconst hF dX10_game_245 (q := 246) rfl (by decide) ?_
                        refine jr_goto hF dX10_game_246 250 (by decide) ?_
                        refine jr_iadd hF dX10_game_250 (q := 251) rfl (by omega) ?_
                        refine jr_istore hF dX10_game_251 (q := 253) rfl (by decide) rfl ?_
                        refine jr_iload hF dX10_game_253 (q := 255) rfl rfl ?_
                        refine jr_if_eq hF dX10_game_255 (q := 258) rfl 263 (by decide) (fun a9 => ?_) (fun a9 => ?_)
                        · exact absurd a9 (by decide)
                        · refine jr_fg 9 ?_
                          refine jr_iload hF dX10_game_258 (q := 260) rfl rfl ?_
                          refine jr_goto hF dX10_game_260 265 (by decide) ?_
                          refine jr_istore hF dX10_game_265 (q := 267) rfl (by decide) rfl ?_
                          refine jr_iinc hF dX10_game_267 (q := 270) rfl (by decide) rfl rfl (by omega) ?_
                          refine jr_goto hF dX10_game_270 150 (by decide) ?_
                          exact ih1
                    · omega
                  · have er : rsB (g_one F p q) (g_two F p q) (n / 10 + 1) (n % 10 + 1) (v + 1) = (rsB (g_one F p q) (g_two F p q) (n / 10 + 1) (n % 10 + 1) v && decide (g_one F p q (v + 1) (n % 10 + 1) ≤ g_one F p q (n / 10 + 1) (n % 10 + 1) ∧ g_two F p q (n / 10 + 1) (v + 1) ≤ g_two F p q (n / 10 + 1) (n % 10 + 1))) := rfl
                    have ih1 := ih2 () trivial
                    rw [er] at ih1
                    have d1 := (i3' (10 * v + n % 10) (by omega)).1
                    rw [show (10 * v + n % 10) / 10 = v by omega, show (10 * v + n % 10) % 10 = n % 10 by omega, show ((10 * v + n % 10 : Nat) : Int) = 10 * (v : Int) + (n : Int) % 10 by omega] at d1
                    have d2 := (i3' (n / 10 * 10 + v) (by omega)).2
                    rw [show (n / 10 * 10 + v) / 10 = n / 10 by omega, show (n / 10 * 10 + v) % 10 = v by omega, show ((n / 10 * 10 + v : Nat) : Int) = (n : Int) / 10 * 10 + (v : Int) by omega] at d2
                    refine jr_iload hF dX10_game_161 (q := 163) rfl rfl ?_
                    refine jr_bipush hF dX10_game_163 (q := 165) rfl (by decide) (by decide +kernel) ?_
                    refine jr_icmp_ge hF dX10_game_165 (q := 168) rfl 238 (by decide) (fun a7 => ?_) (fun a7 => ?_)
                    · omega
                    · refine jr_iload hF dX10_game_168 (q := 170) rfl rfl ?_
                      refine jr_if_eq hF dX10_game_170 (q := 173) rfl 229 (by decide) (fun a8 => ?_) (fun a8 => ?_)
                      · rw [bi_0 a8] at ih1 ⊢
                        rw [Bool.false_and] at ih1
                        refine jr_iconst hF dX10_game_229 (q := 230) rfl (by decide) ?_
                        refine jr_istore hF dX10_game_230 (q := 232) rfl (by decide) rfl ?_
                        refine jr_iinc hF dX10_game_232 (q := 235) rfl (by decide) rfl rfl (by omega) ?_
                        refine jr_goto hF dX10_game_235 161 (by decide) ?_
                        exact ih1
                      · rw [bi_1 a8] at ih1 ⊢
                        rw [Bool.true_and] at ih1
                        refine jr_aload_n hF dX10_game_173 (q := 174) rfl rfl ?_
                        refine jr_getR (ci := 10) (j := 23) hF dX10_game_174 (q := 177) rfl rfl rfl fl10_55 ?_
                        refine jr_bipush hF dX10_game_177 (q := 179) rfl (by decide) (by decide +kernel) ?_
                        refine jr_iload hF dX10_game_179 (q := 181) rfl rfl ?_
                        refine jr_imul hF dX10_game_181 (q := 182) rfl (by omega) ?_
                        refine jr_iload hF dX10_game_182 (q := 184) rfl rfl ?_
                        refine jr_bipush hF dX10_game_184 (q := 186) rfl (by decide) (by decide +kernel) ?_
                        refine jr_irem hF dX10_game_186 (q := 187) rfl (by omega) (by omega) ?_
                        refine jr_iadd hF dX10_game_187 (q := 188) rfl (by omega) ?_
                        refine jr_iald hF dX10_game_188 (q := 189) rfl rfl (by omega) ?_
                        refine jr_aload_n hF dX10_game_189 (q := 190) rfl rfl ?_
                        refine jr_getR (ci := 10) (j := 23) hF dX10_game_190 (q := 193) rfl rfl rfl fl10_55 ?_
                        refine jr_iload hF dX10_game_193 (q := 195) rfl rfl ?_
                        refine jr_iald hF dX10_game_195 (q := 196) rfl rfl (by omega) ?_
                        rw [d1, o1]
                        refine jr_icmp_gt hF dX10_game_196 (q := 199) rfl 229 (by decide) (fun a9 => ?_) (fun a9 => ?_)
                        · rw [decide_eq_false (fun hh => by omega)] at ih1
                          refine jr_iconst hF dX10_game_229 (q := 230) rfl (by decide) ?_
                          refine jr_istore hF dX10_game_230 (q := 232) rfl (by decide) rfl ?_
                          refine jr_iinc hF dX10_game_232 (q := 235) rfl (by decide) rfl rfl (by omega) ?_
                          refine jr_goto hF dX10_game_235 161 (by decide) ?_
                          exact ih1
                        · refine jr_aload_n hF dX10_game_199 (q := 200) rfl rfl ?_
                          refine jr_getR (ci := 10) (j := 24) hF dX10_game_200 (q := 203) rfl rfl rfl fl10_58 ?_
                          refine jr_iload hF dX10_game_203 (q := 205) rfl rfl ?_
                          refine jr_bipush hF dX10_game_205 (q := 207) rfl (by decide) (by decide +kernel) ?_
                          refine jr_idiv hF dX10_game_207 (q := 208) rfl (by omega) (by omega) ?_
                          refine jr_bipush hF dX10_game_208 (q := 210) rfl (by decide) (by decide +kernel) ?_
                          refine jr_imul hF dX10_game_210 (q := 211) rfl (by omega) ?_
                          refine jr_iload hF dX10_game_211 (q := 213) rfl rfl ?_
                          refine jr_iadd hF dX10_game_213 (q := 214) rfl (by omega) ?_
                          refine jr_iald hF dX10_game_214 (q := 215) rfl rfl (by omega) ?_
                          refine jr_aload_n hF dX10_game_215 (q := 216) rfl rfl ?_
                          refine jr_getR (ci := 10) (j := 24) hF dX10_game_216 (q := 219) rfl rfl rfl fl10_58 ?_
                          refine jr_iload hF dX10_game_219 (q := 221) rfl rfl ?_
                          refine jr_iald hF dX10_game_221 (q := 222) rfl rfl (by omega) ?_
                          rw [d2, o2]
                          refine jr_icmp_gt hF dX10_game_222 (q := 225) rfl 229 (by decide) (fun a10 => ?_) (fun a10 => ?_)
                          · rw [decide_eq_false (fun hh => by omega)] at ih1
                            refine jr_iconst hF dX10_game_229 (q := 230) rfl (by decide) ?_
                            refine jr_istore hF dX10_game_230 (q := 232) rfl (by decide) rfl ?_
                            refine jr_iinc hF dX10_game_232 (q := 235) rfl (by decide) rfl rfl (by omega) ?_
                            refine jr_goto hF dX10_game_235 161 (by decide) ?_
                            exact ih1
                          · rw [decide_eq_true (by omega)] at ih1
                            refine jr_iconst hF dX10_game_225 (q := 226) rfl (by decide) ?_
                            refine jr_goto hF dX10_game_226 230 (by decide) ?_
                            refine jr_istore hF dX10_game_230 (q := 232) rfl (by decide) rfl ?_
                            refine jr_iinc hF dX10_game_232 (q := 235) rfl (by decide) rfl rfl (by omega) ?_
                            refine jr_goto hF dX10_game_235 161 (by decide) ?_
                            exact ih1
            · omega
          · obtain ⟨⟨u, v, i1⟩, i2, i3⟩ := h1
            have ea : 1 + (k : Int) / 10 = ((k / 10 + 1 : Nat) : Int) := by omega
            have eb : 1 + (k : Int) % 10 = ((k % 10 + 1 : Nat) : Int) := by omega
            have ok2 : okF (f_lim2 F p q ((k / 10 + 1 : Nat) : Int) ((k % 10 + 1 : Nat) : Int)) := okF_lim (okF_lim okF' p (by omega)) q (by omega)
            have hC2 : RepM (up (up σ1 80 (p : Int) ((k / 10 + 1 : Nat) : Int)) 80 (q : Int) ((k % 10 + 1 : Nat) : Int)) (f_lim2 F p q ((k / 10 + 1 : Nat) : Int) ((k % 10 + 1 : Nat) : Int)) := by
              have t1 := i1.lim1 (i := p) h5 hp ((k / 10 + 1 : Nat) : Int)
              have t2 := t1.lim1 (i := q) h5 hq ((k % 10 + 1 : Nat) : Int)
              unfold f_lim2 at t2 ⊢
              rw [f_lim_comm (f_lim F p u) (Ne.symm hpq), f_lim_lim, f_lim_lim] at t2
              exact t2
            have hL2 : LFr (fun x => x = (p : Int) ∨ x = (q : Int)) σ (up (up σ1 80 (p : Int) ((k / 10 + 1 : Nat) : Int)) 80 (q : Int) ((k % 10 + 1 : Nat) : Int)) := LFr.st (LFr.st i2 (show (fun x => x = (p : Int) ∨ x = (q : Int)) (p : Int) from Or.inl rfl)) (show (fun x => x = (p : Int) ∨ x = (q : Int)) (q : Int) from Or.inr rfl)
            refine jr_iload hF dX10_game_54 (q := 56) rfl rfl ?_
            refine jr_bipush hF dX10_game_56 (q := 58) rfl (by decide) (by decide +kernel) ?_
            refine jr_icmp_ge hF dX10_game_58 (q := 61) rfl 123 (by decide) (fun a5 => ?_) (fun a5 => ?_)
            · omega
            · refine jr_aload_n hF dX10_game_61 (q := 62) rfl rfl ?_
              refine jr_getR (ci := 10) (j := 7) hF dX10_game_62 (q := 65) rfl rfl rfl fl10_28 ?_
              refine jr_iload_n hF dX10_game_65 (q := 66) rfl rfl ?_
              refine jr_iconst hF dX10_game_66 (q := 67) rfl (by decide) ?_
              refine jr_iload hF dX10_game_67 (q := 69) rfl rfl ?_
              refine jr_bipush hF dX10_game_69 (q := 71) rfl (by decide) (by decide +kernel) ?_
              refine jr_idiv hF dX10_game_71 (q := 72) rfl (by omega) (by omega) ?_
              refine jr_iadd hF dX10_game_72 (q := 73) rfl (by omega) ?_
              rw [ea]
              refine jr_iast hF dX10_game_73 (q := 74) rfl rfl (by omega) ?_
              refine jr_aload_n hF dX10_game_74 (q := 75) rfl rfl ?_
              refine jr_getR (ci := 10) (j := 7) hF dX10_game_75 (q := 78) rfl rfl rfl fl10_28 ?_
              refine jr_iload_n hF dX10_game_78 (q := 79) rfl rfl ?_
              refine jr_iconst hF dX10_game_79 (q := 80) rfl (by decide) ?_
              refine jr_iload hF dX10_game_80 (q := 82) rfl rfl ?_
              refine jr_bipush hF dX10_game_82 (q := 84) rfl (by decide) (by decide +kernel) ?_
              refine jr_irem hF dX10_game_84 (q := 85) rfl (by omega) (by omega) ?_
              refine jr_iadd hF dX10_game_85 (q := 86) rfl (by omega) ?_
              rw [eb]
              refine jr_iast hF dX10_game_86 (q := 87) rfl rfl (by omega) ?_
              refine jr_aload_n hF dX10_game_87 (q := 88) rfl rfl ?_
              refine jr_bipush hF dX10_game_88 (q := 90) rfl (by decide) (by decide +kernel) ?_
              refine jr_cV1V hF (m_goFair _ _ hC2 ok2 (-4) 99 abM4) dX10_game_90 (q := 93) rfl lk10_182 vX10_goFair kX10_goFair rfl rfl rfl (by decide) (Nat.le_of_ble_eq_true rfl) (fun σ2 hz => ?_)
              obtain ⟨g1, g2⟩ := hz
              have hC3 := hC2.mf g2
              have hw := wOK_fair ok2 99 (f_nm F)
              refine jr_aload_n hF dX10_game_93 (q := 94) rfl rfl ?_
              refine jr_getR (ci := 10) (j := 23) hF dX10_game_94 (q := 97) rfl rfl rfl fl10_55 ?_
              refine jr_iload hF dX10_game_97 (q := 99) rfl rfl ?_
              refine jr_aload_n hF dX10_game_99 (q := 100) rfl rfl ?_
              refine jr_iload_n hF dX10_game_100 (q := 101) rfl rfl ?_
              refine jr_cV1I hF (m_gainOf σ2 _ hC3 ok2 99 _ hw g1 p hp) dX10_game_101 (q := 104) rfl lk10_185 vX10_gainOf kX10_gainOf rfl rfl rfl (by decide) (Nat.le_of_ble_eq_true rfl) (fun z σ3 hz => ?_)
              obtain ⟨hz1, rfl⟩ := hz
              replace hz1 : z = g_one F p q (k / 10 + 1) (k % 10 + 1) := hz1
              subst hz1
              refine jr_iast hF dX10_game_104 (q := 105) rfl rfl (by omega) ?_
              refine jr_aload_n hF dX10_game_105 (q := 106) rfl rfl ?_
              refine jr_getR (ci := 10) (j := 24) hF dX10_game_106 (q := 109) rfl rfl rfl fl10_58 ?_
              refine jr_iload hF dX10_game_109 (q := 111) rfl rfl ?_
              refine jr_aload_n hF dX10_game_111 (q := 112) rfl rfl ?_
              refine jr_iload_n hF dX10_game_112 (q := 113) rfl rfl ?_
              have hC4 : RepM (up σ2 89 (k : Int) (g_one F p q (k / 10 + 1) (k % 10 + 1))) (f_lim2 F p q ((k / 10 + 1 : Nat) : Int) ((k % 10 + 1 : Nat) : Int)) := hC3.fr (fun k l1 l2 => up_ne (by omega))
              have g4 : HM (up σ2 89 (k : Int) (g_one F p q (k / 10 + 1) (k % 10 + 1))) _ _ := g1.fr (up_ne (by decide)) (up_ne (by decide))
              refine jr_cV1I hF (m_gainOf _ _ hC4 ok2 99 _ hw g4 q hq) dX10_game_113 (q := 116) rfl lk10_185 vX10_gainOf kX10_gainOf rfl rfl rfl (by decide) (Nat.le_of_ble_eq_true rfl) (fun z σ3 hz => ?_)
              obtain ⟨hz1, rfl⟩ := hz
              replace hz1 : z = g_two F p q (k / 10 + 1) (k % 10 + 1) := hz1
              subst hz1
              have hL3 := LFr.mf hL2 g2
              have ih1 := ih (up (up σ2 89 (k : Int) (g_one F p q (k / 10 + 1) (k % 10 + 1))) 90 (k : Int) (g_two F p q (k / 10 + 1) (k % 10 + 1))) ⟨⟨_, _, hC4.fr (fun k l1 l2 => up_ne (by omega))⟩, ⟨fun c hc => by rw [up_ne (by omega), up_ne (by omega)]; exact hL3.1 c hc, fun x hx => by rw [up_ne (by decide), up_ne (by decide)]; exact hL3.2.1 x hx, fun x hx => by rw [up_ne (by decide), up_ne (by decide)]; exact hL3.2.2 x hx⟩, fun t ht => ⟨?_, ?_⟩⟩
              · refine jr_iast hF dX10_game_116 (q := 117) rfl rfl (by omega) ?_
                refine jr_iinc hF dX10_game_117 (q := 120) rfl (by decide) rfl rfl (by omega) ?_
                refine jr_goto hF dX10_game_120 54 (by decide) ?_
                exact ih1
              · rw [up_ne (by decide), up_nat]
                by_cases et : t = k
                · rw [if_pos et, et]
                · rw [if_neg et, g2.1 89 (by decide) (by decide) (by decide), up_ne (by decide), up_ne (by decide)]
                  exact (i3 t (by omega)).1
              · rw [up_nat, up_ne (by decide)]
                by_cases et : t = k
                · rw [if_pos et, et]
                · rw [if_neg et, g2.1 90 (by decide) (by decide) (by decide), up_ne (by decide), up_ne (by decide)]
                  exact (i3 t (by omega)).2
        · exact hbad (fun hh => by rw [if_pos (by omega)] at a4; omega)
end

