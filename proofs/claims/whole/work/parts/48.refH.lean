section
variable (σ : Sg) (len : Nat) (B : Nat → Int) (F : FD) (nu : Nat) (W V : Nat → Int) (nk : Nat) (S : Nat → Int → Int) (ns : Nat) (M Y : Nat → Int)
set_option maxRecDepth 100000 in
theorem m_year (h : RM σ (len, B, F, nu, W, V, nk, S, ns, M, Y)) (ok : okA (len, B, F, nu, W, V, nk, S, ns, M, Y)) (y what : Int) : RI mX10_year 10 [vR 73, vI y, vI what] σ (fun z σ' => z = an_year F y what ∧ RM σ' (len, B, F, nu, W, V, nk, S, ns, M, Y) ∧ ∀ k, k < 73 → σ' k = σ k) := by
  have hC := h.2.1
  have okF' := ok.2.2.1
  have h5 := okF'.2.1
  have h3 := okF'.1
  have okG := okF_drawn okF' y
  refine mkRun (by decide +kernel) (Nat.le_of_ble_eq_true rfl) (fun X hF hR => ?_)
  have hbad : ¬ ((0 ≤ y ∧ y ≤ 9999) ∧ 0 ≤ what ∧ what ≤ 1) → Gs X 22 (entryL [vR 73, vI y, vI what] mX10_year.2.2.1) [] σ := by
    intro hc
    refine jr_iconst hF dX10_year_22 (q := 23) rfl (by decide) ?_
    refine jr_retI hF hR dX10_year_23 rfl ⟨by unfold an_year; rw [if_pos hc], h, fun _ _ => rfl⟩
  refine jr_iload_n hF dX10_year_0 (q := 1) rfl rfl ?_
  refine jr_i2l hF dX10_year_1 (q := 2) rfl ?_
  refine jr_lconst hF 0 dX10_year_2 (q := 3) rfl (by decide) (by decide +kernel) ?_
  refine jr_ldc2 hF 9999 dX10_year_3 (q := 6) rfl kl10_224 (by decide) (by decide +kernel) ?_
  refine jr_cS3I hF (m_in σ y 0 9999) dX10_year_6 (q := 9) rfl lk10_79 vX10_in kX10_in (by decide) (Nat.le_of_ble_eq_true rfl) (fun z σ1 hz => ?_)
  obtain ⟨rfl, rfl⟩ := hz
  refine jr_if_eq hF dX10_year_9 (q := 12) rfl 22 (by decide) (fun a1 => ?_) (fun a1 => ?_)
  · exact hbad (fun hh => by rw [if_pos (by omega)] at a1; omega)
  · have b1 : 0 ≤ y ∧ y ≤ 9999 := Classical.byContradiction fun h => a1 (by rw [if_neg h])
    refine jr_iload_n hF dX10_year_12 (q := 13) rfl rfl ?_
    refine jr_i2l hF dX10_year_13 (q := 14) rfl ?_
    refine jr_lconst hF 0 dX10_year_14 (q := 15) rfl (by decide) (by decide +kernel) ?_
    refine jr_lconst hF 1 dX10_year_15 (q := 16) rfl (by decide) (by decide +kernel) ?_
    refine jr_cS3I hF (m_in σ what 0 1) dX10_year_16 (q := 19) rfl lk10_79 vX10_in kX10_in (by decide) (Nat.le_of_ble_eq_true rfl) (fun z σ1 hz => ?_)
    obtain ⟨rfl, rfl⟩ := hz
    refine jr_if_ne hF dX10_year_19 (q := 22) rfl 24 (by decide) (fun a2 => ?_) (fun a2 => ?_)
    · have b2 : 0 ≤ what ∧ what ≤ 1 := Classical.byContradiction fun h => a2 (by rw [if_neg h])
      unfold an_year at hR
      rw [if_neg (by omega)] at hR
      refine jr_iconst hF dX10_year_24 (q := 25) rfl (by decide) ?_
      refine jr_istore_n hF dX10_year_25 (q := 26) rfl (by decide) rfl ?_
      refine gs_loop (α := Sg) (fun k _ => [some (vR 73), some (vI y), some (vI what), some (vI (k : Int)), none, none]) (fun σ' => σ') (fun k σ' => (∀ j : Nat, j < k → σ' 94 (j : Int) = σ 79 (j : Int) ∧ σ' 79 (j : Int) = f_draw y (j / 3) (j % 3)) ∧ (∀ x : Int, x < 0 ∨ (k : Int) ≤ x → σ' 79 x = σ 79 x) ∧ ∀ c, c ≠ 79 → c ≠ 94 → σ' c = σ c) 15 (fun σ1 h1 => ?_) (fun k σ1 hk h1 ih => ?_) σ ⟨fun j hj => absurd hj (Nat.not_lt_zero j), fun _ _ => rfl, fun _ _ _ => rfl⟩
      · obtain ⟨i1, i2, i3⟩ := h1
        have hC1 : RepM σ1 (f_drawn F y) := by
          obtain ⟨q1, q2, q3, q4, q5, q6, q7, q8⟩ := hC
          refine ⟨?_, ?_, fun m hm => ?_, fun i hi => ?_, fun i m hi hm => ?_, fun i hi => ?_, ?_, ?_⟩
          · rw [i3 75 (by decide) (by decide)]; exact q1
          · rw [i3 77 (by decide) (by decide)]; exact q2
          · rw [i3 76 (by decide) (by decide)]; exact q3 m hm
          · rw [i3 78 (by decide) (by decide)]; exact q4 i hi
          · replace hi : i < f_nl F := hi
            replace hm : m < f_nm F := hm
            have := (i1 (3 * i + m) (by omega)).2
            rw [show (3 * i + m) / 3 = i by omega, show (3 * i + m) % 3 = m by omega, show ((3 * i + m : Nat) : Int) = 3 * (i : Int) + (m : Int) by omega] at this
            exact this
          · rw [i3 80 (by decide) (by decide)]; exact q6 i hi
          · rw [i3 81 (by decide) (by decide)]; exact q7
          · rw [i3 82 (by decide) (by decide)]; exact q8
        refine jr_iload_n hF dX10_year_26 (q := 27) rfl rfl ?_
        refine jr_bipush hF dX10_year_27 (q := 29) rfl (by decide) (by decide +kernel) ?_
        refine jr_icmp_ge hF dX10_year_29 (q := 32) rfl 98 (by decide) (fun a3 => ?_) (fun a3 => ?_)
        · refine jr_aload_n hF dX10_year_98 (q := 99) rfl rfl ?_
          refine jr_bipush hF dX10_year_99 (q := 101) rfl (by decide) (by decide +kernel) ?_
          refine jr_cV1V hF (m_goFair σ1 _ hC1 okG (-4) 99 abM4) dX10_year_101 (q := 104) rfl lk10_182 vX10_goFair kX10_goFair rfl rfl rfl (by decide) (Nat.le_of_ble_eq_true rfl) (fun σ2 hz => ?_)
          obtain ⟨g1, g2⟩ := hz
          have hC2 := hC1.mf g2
          have hw := wOK_fair okG 99 (f_nm (f_drawn F y))
          replace g1 : HM σ2 (f_fair (f_drawn F y) 99 (f_nm F)).1 (f_fair (f_drawn F y) 99 (f_nm F)).2 := g1
          replace hw : wOK (f_drawn F y) 99 (f_nm F) (f_fair (f_drawn F y) 99 (f_nm F)) := hw
          have hyy := wOK_y okG hw
          generalize f_fair (f_drawn F y) 99 (f_nm F) = w at g1 hw hR hyy
          have r1 : σ2 75 0 = (f_nm F : Int) := hC2.1
          have r2 : σ2 77 0 = (f_nl F : Int) := hC2.2.1
          refine jr_iconst hF dX10_year_104 (q := 105) rfl (by decide) ?_
          refine jr_istore_n hF dX10_year_105 (q := 106) rfl (by decide) rfl ?_
          refine jr_iconst hF dX10_year_106 (q := 107) rfl (by decide) ?_
          refine jr_istore hF dX10_year_107 (q := 109) rfl (by decide) rfl ?_
          refine jr_iconst hF dX10_year_109 (q := 110) rfl (by decide) ?_
          refine jr_istore hF dX10_year_110 (q := 112) rfl (by decide) rfl ?_
          refine gs_loop (α := Unit) (fun k _ => [some (vR 73), some (vI y), some (vI what), some (vI (sumF w.2 k)), some (vI 0), some (vI (k : Int))]) (fun _ => σ2) (fun _ _ => True) (f_nl F) (fun _ _ => ?_) (fun k _ hk _ ih => ?_) () trivial
          · refine jr_iload hF dX10_year_112 (q := 114) rfl rfl ?_
            refine jr_aload_n hF dX10_year_114 (q := 115) rfl rfl ?_
            refine jr_getR (ci := 10) (j := 4) hF dX10_year_115 (q := 118) rfl rfl rfl fl10_19 ?_
            refine jr_iconst hF dX10_year_118 (q := 119) rfl (by decide) ?_
            refine jr_iald hF dX10_year_119 (q := 120) rfl rfl (by omega) ?_
            refine jr_icmp_ge hF dX10_year_120 (q := 123) rfl 139 (by decide) (fun a4 => ?_) (fun a4 => ?_)
            · refine jr_iconst hF dX10_year_139 (q := 140) rfl (by decide) ?_
              refine jr_istore hF dX10_year_140 (q := 142) rfl (by decide) rfl ?_
              refine gs_loop (α := Unit) (fun k _ => [some (vR 73), some (vI y), some (vI what), some (vI (sumF w.2 (f_nl F))), some (vI (cnt (fun m => decide (bitsF (fun i => decide (w.1 i = (m : Int))) (f_nl F) = 0)) k)), some (vI (k : Int))]) (fun _ => σ2) (fun _ _ => True) (f_nm F) (fun _ _ => ?_) (fun k _ hk _ ih => ?_) () trivial
              · refine jr_iload hF dX10_year_142 (q := 144) rfl rfl ?_
                refine jr_aload_n hF dX10_year_144 (q := 145) rfl rfl ?_
                refine jr_getR (ci := 10) (j := 2) hF dX10_year_145 (q := 148) rfl rfl rfl fl10_13 ?_
                refine jr_iconst hF dX10_year_148 (q := 149) rfl (by decide) ?_
                refine jr_iald hF dX10_year_149 (q := 150) rfl rfl (by omega) ?_
                refine jr_icmp_ge hF dX10_year_150 (q := 153) rfl 178 (by decide) (fun a5 => ?_) (fun a5 => ?_)
                · refine jr_iconst hF dX10_year_178 (q := 179) rfl (by decide) ?_
                  refine jr_istore hF dX10_year_179 (q := 181) rfl (by decide) rfl ?_
                  refine gs_loop (α := Sg) (fun k _ => [some (vR 73), some (vI y), some (vI what), some (vI (sumF w.2 (f_nl F))), some (vI (cnt (fun m => decide (bitsF (fun i => decide (w.1 i = (m : Int))) (f_nl F) = 0)) (f_nm F))), some (vI (k : Int))]) (fun σ' => σ') (fun k σ' => (∀ x : Int, x < (k : Int) ∨ 15 ≤ x → σ' 79 x = σ 79 x) ∧ ∀ c, c ≠ 79 → σ' c = σ2 c) 15 (fun σ3 h3 => ?_) (fun k σ3 hk h3 ih => ?_) σ2 ⟨fun x hx => by rw [g2.1 79 (by decide) (by decide) (by decide)]; exact i2 x (by omega), fun _ _ => rfl⟩
                  · obtain ⟨j1, j2⟩ := h3
                    have e79 : σ3 79 = σ 79 := by
                      funext x
                      exact j1 x (by omega)
                    have hfr : ∀ k, k ≠ 73 → k ≠ 87 → k ≠ 88 → k ≠ 94 → σ3 k = σ k := by
                      intro k n1 n2 n3 n4
                      by_cases e : k = 79
                      · subst e; exact e79
                      · rw [j2 k e, g2.1 k n1 n2 n3, i3 k e n4]
                    have hRM : RM σ3 (len, B, F, nu, W, V, nk, S, ns, M, Y) := h.fr (fun k l1 l2 => hfr k (by omega) (by omega) (by omega) (by omega)) (fun j hj => by rw [j2 73 (by decide), g2.2 j (by omega), i3 73 (by decide) (by decide)])
                    refine jr_iload hF dX10_year_181 (q := 183) rfl rfl ?_
                    refine jr_bipush hF dX10_year_183 (q := 185) rfl (by decide) (by decide +kernel) ?_
                    refine jr_icmp_ge hF dX10_year_185 (q := 188) rfl 208 (by decide) (fun a6 => ?_) (fun a6 => ?_)
                    · refine jr_iload_n hF dX10_year_208 (q := 209) rfl rfl ?_
                      refine jr_if_ne hF dX10_year_209 (q := 212) rfl 216 (by decide) (fun a7 => ?_) (fun a7 => ?_)
                      · refine jr_iload hF dX10_year_216 (q := 218) rfl rfl ?_
                        refine jr_retI hF hR dX10_year_218 rfl ⟨by rw [if_neg a7], hRM, fun k hk => hfr k (by omega) (by omega) (by omega) (by omega)⟩
                      · refine jr_iload_n hF dX10_year_212 (q := 213) rfl rfl ?_
                        refine jr_goto hF dX10_year_213 218 (by decide) ?_
                        refine jr_retI hF hR dX10_year_218 rfl ⟨by rw [if_pos a7], hRM, fun k hk => hfr k (by omega) (by omega) (by omega) (by omega)⟩
                    · omega
                  · obtain ⟨j1, j2⟩ := h3
                    have e : σ3 94 (k : Int) = σ 79 (k : Int) := by
                      rw [j2 94 (by decide), g2.1 94 (by decide) (by decide) (by decide)]
                      exact (i1 k hk).1
                    have ih1 := ih (up σ3 79 (k : Int) (σ 79 (k : Int))) ⟨fun x hx => ?_, fun c hc => by rw [up_ne hc]; exact j2 c hc⟩
                    · refine jr_iload hF dX10_year_181 (q := 183) rfl rfl ?_
                      refine jr_bipush hF dX10_year_183 (q := 185) rfl (by decide) (by decide +kernel) ?_
                      refine jr_icmp_ge hF dX10_year_185 (q := 188) rfl 208 (by decide) (fun a6 => ?_) (fun a6 => ?_)
                      · omega
                      · refine jr_aload_n hF dX10_year_188 (q := 189) rfl rfl ?_
                        refine jr_getR (ci := 10) (j := 6) hF dX10_year_189 (q := 192) rfl rfl rfl fl10_25 ?_
                        refine jr_iload hF dX10_year_192 (q := 194) rfl rfl ?_
                        refine jr_aload_n hF dX10_year_194 (q := 195) rfl rfl ?_
                        refine jr_getR (ci := 10) (j := 28) hF dX10_year_195 (q := 198) rfl rfl rfl fl10_70 ?_
                        refine jr_iload hF dX10_year_198 (q := 200) rfl rfl ?_
                        refine jr_iald hF dX10_year_200 (q := 201) rfl rfl (by omega) ?_
                        rw [e]
                        refine jr_iast hF dX10_year_201 (q := 202) rfl rfl (by omega) ?_
                        refine jr_iinc hF dX10_year_202 (q := 205) rfl (by decide) rfl rfl (by omega) ?_
                        refine jr_goto hF dX10_year_205 181 (by decide) ?_
                        exact ih1
                    · unfold up
                      by_cases ex : x = (k : Int)
                      · rw [if_pos ⟨rfl, ex⟩, ex]
                      · rw [if_neg (by omega)]
                        exact j1 x (by omega)
                · omega
              · have ec : cnt (fun m => decide (bitsF (fun i => decide (w.1 i = (m : Int))) (f_nl F) = 0)) (k + 1) = cnt (fun m => decide (bitsF (fun i => decide (w.1 i = (m : Int))) (f_nl F) = 0)) k + (if decide (bitsF (fun i => decide (w.1 i = (k : Int))) (f_nl F) = 0) = true then 1 else 0) := rfl
                have hc := cnt_le (fun m => decide (bitsF (fun i => decide (w.1 i = (m : Int))) (f_nl F) = 0)) k
                have ih1 := ih () trivial
                rw [ec] at ih1
                refine jr_iload hF dX10_year_142 (q := 144) rfl rfl ?_
                refine jr_aload_n hF dX10_year_144 (q := 145) rfl rfl ?_
                refine jr_getR (ci := 10) (j := 2) hF dX10_year_145 (q := 148) rfl rfl rfl fl10_13 ?_
                refine jr_iconst hF dX10_year_148 (q := 149) rfl (by decide) ?_
                refine jr_iald hF dX10_year_149 (q := 150) rfl rfl (by omega) ?_
                refine jr_icmp_ge hF dX10_year_150 (q := 153) rfl 178 (by decide) (fun a5 => ?_) (fun a5 => ?_)
                · omega
                · refine jr_iload hF dX10_year_153 (q := 155) rfl rfl ?_
                  refine jr_aload_n hF dX10_year_155 (q := 156) rfl rfl ?_
                  refine jr_iload hF dX10_year_156 (q := 158) rfl rfl ?_
                  refine jr_cV1I hF (m_ladsOf σ2 (f_nl F) r2 h5 w g1 (k : Int)) dX10_year_158 (q := 161) rfl lk10_191 vX10_ladsOf kX10_ladsOf rfl rfl rfl (by decide) (Nat.le_of_ble_eq_true rfl) (fun z σ3 hz => ?_)
                  obtain ⟨rfl, rfl⟩ := hz
                  refine jr_if_ne hF dX10_year_161 (q := 164) rfl 168 (by decide) (fun a6 => ?_) (fun a6 => ?_)
                  · rw [decide_eq_false a6, if_neg (by decide)] at ih1
                    refine jr_iconst hF dX10_year_168 (q := 169) rfl (by decide) ?_
                    refine jr_iadd hF dX10_year_169 (q := 170) rfl (by omega) ?_
                    refine jr_istore hF dX10_year_170 (q := 172) rfl (by decide) rfl ?_
                    refine jr_iinc hF dX10_year_172 (q := 175) rfl (by decide) rfl rfl (by omega) ?_
                    refine jr_goto hF dX10_year_175 142 (by decide) ?_
                    exact ih1
                  · rw [decide_eq_true a6, if_pos rfl] at ih1
                    refine jr_iconst hF dX10_year_164 (q := 165) rfl (by decide) ?_
                    refine jr_goto hF dX10_year_165 169 (by decide) ?_
                    refine jr_iadd hF dX10_year_169 (q := 170) rfl (by omega) ?_
                    refine jr_istore hF dX10_year_170 (q := 172) rfl (by decide) rfl ?_
                    refine jr_iinc hF dX10_year_172 (q := 175) rfl (by decide) rfl rfl (by omega) ?_
                    refine jr_goto hF dX10_year_175 142 (by decide) ?_
                    exact ih1
            · omega
          · have hs := sumF_le (y := w.2) (n := k) (fun i _ => hyy i)
            have hk1 := hyy k
            have ih1 := ih () trivial
            have e2 := (g1 k (by omega)).2
            refine jr_iload hF dX10_year_112 (q := 114) rfl rfl ?_
            refine jr_aload_n hF dX10_year_114 (q := 115) rfl rfl ?_
            refine jr_getR (ci := 10) (j := 4) hF dX10_year_115 (q := 118) rfl rfl rfl fl10_19 ?_
            refine jr_iconst hF dX10_year_118 (q := 119) rfl (by decide) ?_
            refine jr_iald hF dX10_year_119 (q := 120) rfl rfl (by omega) ?_
            refine jr_icmp_ge hF dX10_year_120 (q := 123) rfl 139 (by decide) (fun a4 => ?_) (fun a4 => ?_)
            · omega
            · refine jr_iload_n hF dX10_year_123 (q := 124) rfl rfl ?_
              refine jr_aload_n hF dX10_year_124 (q := 125) rfl rfl ?_
              refine jr_getR (ci := 10) (j := 19) hF dX10_year_125 (q := 128) rfl rfl rfl fl10_52 ?_
              refine jr_iload hF dX10_year_128 (q := 130) rfl rfl ?_
              refine jr_iald hF dX10_year_130 (q := 131) rfl rfl (by omega) ?_
              rw [e2]
              refine jr_iadd hF dX10_year_131 (q := 132) rfl (by omega) ?_
              refine jr_istore_n hF dX10_year_132 (q := 133) rfl (by decide) rfl ?_
              refine jr_iinc hF dX10_year_133 (q := 136) rfl (by decide) rfl rfl (by omega) ?_
              refine jr_goto hF dX10_year_136 112 (by decide) ?_
              exact ih1
        · omega
      · obtain ⟨i1, i2, i3⟩ := h1
        have hx := f_x_le b1 (show k / 3 < 5 by omega) (show k % 3 < 3 by omega)
        have hs := sq_le hx
        have ex : 7919 * y + 6151 * ((k : Int) / 3) + 3571 * ((k : Int) % 3) + 1 = f_x y (k / 3) (k % 3) := by
          unfold f_x
          omega
        have hd := f_draw_le y (k / 3) (k % 3)
        have ih1 := ih (up (up σ1 94 (k : Int) (σ1 79 (k : Int))) 79 (k : Int) (f_draw y (k / 3) (k % 3))) ⟨fun j hj => ⟨?_, ?_⟩, fun x hx => ?_, fun c hc1 hc2 => by rw [up_ne hc1, up_ne hc2]; exact i3 c hc1 hc2⟩
        · refine jr_iload_n hF dX10_year_26 (q := 27) rfl rfl ?_
          refine jr_bipush hF dX10_year_27 (q := 29) rfl (by decide) (by decide +kernel) ?_
          refine jr_icmp_ge hF dX10_year_29 (q := 32) rfl 98 (by decide) (fun a3 => ?_) (fun a3 => ?_)
          · omega
          · refine jr_ldc2 hF 7919 dX10_year_32 (q := 35) rfl kl10_226 (by decide) (by decide +kernel) ?_
            refine jr_iload_n hF dX10_year_35 (q := 36) rfl rfl ?_
            refine jr_i2l hF dX10_year_36 (q := 37) rfl ?_
            refine jr_lmul hF dX10_year_37 (q := 38) rfl (by omega) ?_
            refine jr_ldc2 hF 6151 dX10_year_38 (q := 41) rfl kl10_228 (by decide) (by decide +kernel) ?_
            refine jr_iload_n hF dX10_year_41 (q := 42) rfl rfl ?_
            refine jr_iconst hF dX10_year_42 (q := 43) rfl (by decide) ?_
            refine jr_idiv hF dX10_year_43 (q := 44) rfl (by omega) (by omega) ?_
            refine jr_i2l hF dX10_year_44 (q := 45) rfl ?_
            refine jr_lmul hF dX10_year_45 (q := 46) rfl (by omega) ?_
            refine jr_ladd hF dX10_year_46 (q := 47) rfl (by omega) ?_
            refine jr_ldc2 hF 3571 dX10_year_47 (q := 50) rfl kl10_230 (by decide) (by decide +kernel) ?_
            refine jr_iload_n hF dX10_year_50 (q := 51) rfl rfl ?_
            refine jr_iconst hF dX10_year_51 (q := 52) rfl (by decide) ?_
            refine jr_irem hF dX10_year_52 (q := 53) rfl (by omega) (by omega) ?_
            refine jr_i2l hF dX10_year_53 (q := 54) rfl ?_
            refine jr_lmul hF dX10_year_54 (q := 55) rfl (by omega) ?_
            refine jr_ladd hF dX10_year_55 (q := 56) rfl (by omega) ?_
            refine jr_lconst hF 1 dX10_year_56 (q := 57) rfl (by decide) (by decide +kernel) ?_
            refine jr_ladd hF dX10_year_57 (q := 58) rfl (by omega) ?_
            rw [ex]
            refine jr_lstore hF dX10_year_58 (q := 60) rfl (by decide) rfl ?_
            refine jr_aload_n hF dX10_year_60 (q := 61) rfl rfl ?_
            refine jr_getR (ci := 10) (j := 28) hF dX10_year_61 (q := 64) rfl rfl rfl fl10_70 ?_
            refine jr_iload_n hF dX10_year_64 (q := 65) rfl rfl ?_
            refine jr_aload_n hF dX10_year_65 (q := 66) rfl rfl ?_
            refine jr_getR (ci := 10) (j := 6) hF dX10_year_66 (q := 69) rfl rfl rfl fl10_25 ?_
            refine jr_iload_n hF dX10_year_69 (q := 70) rfl rfl ?_
            refine jr_iald hF dX10_year_70 (q := 71) rfl rfl (by omega) ?_
            refine jr_iast hF dX10_year_71 (q := 72) rfl rfl (by omega) ?_
            refine jr_aload_n hF dX10_year_72 (q := 73) rfl rfl ?_
            refine jr_getR (ci := 10) (j := 6) hF dX10_year_73 (q := 76) rfl rfl rfl fl10_25 ?_
            refine jr_iload_n hF dX10_year_76 (q := 77) rfl rfl ?_
            refine jr_lload hF dX10_year_77 (q := 79) rfl rfl ?_
            refine jr_lload hF dX10_year_79 (q := 81) rfl rfl ?_
            refine jr_lmul hF dX10_year_81 (q := 82) rfl (by omega) ?_
            refine jr_ldc2 hF 65521 dX10_year_82 (q := 85) rfl kl10_232 (by decide) (by decide +kernel) ?_
            refine jr_lrem hF dX10_year_85 (q := 86) rfl (by omega) (by omega) ?_
            refine jr_ldc2 hF 11 dX10_year_86 (q := 89) rfl kl10_234 (by decide) (by decide +kernel) ?_
            refine jr_lrem hF dX10_year_89 (q := 90) rfl (by omega) (by omega) ?_
            refine jr_l2i hF dX10_year_90 (q := 91) rfl (by omega) ?_
            refine jr_fg 4 (jr_fg 5 ?_)
            refine jr_iast hF dX10_year_91 (q := 92) rfl rfl (by omega) ?_
            refine jr_iinc hF dX10_year_92 (q := 95) rfl (by decide) rfl rfl (by omega) ?_
            refine jr_goto hF dX10_year_95 26 (by decide) ?_
            exact ih1
        · rw [up_ne (by decide), up_nat]
          by_cases ej : j = k
          · rw [if_pos ej, ej]; exact i2 _ (by omega)
          · rw [if_neg ej]; exact (i1 j (by omega)).1
        · rw [up_nat, up_ne (by decide)]
          by_cases ej : j = k
          · rw [if_pos ej, ej]
          · rw [if_neg ej]; exact (i1 j (by omega)).2
        · unfold up
          rw [if_neg (by omega), if_neg (by omega)]
          exact i2 x (by omega)
    · exact hbad (fun hh => by rw [if_pos (by omega)] at a2; omega)
end

