section
variable (σ : Sg) (len : Nat) (B : Nat → Int) (F : FD) (nu : Nat) (W V : Nat → Int) (nk : Nat) (S : Nat → Int → Int) (ns : Nat) (M Y : Nat → Int)
set_option maxRecDepth 100000 in
theorem m_lay (h : RM σ (len, B, F, nu, W, V, nk, S, ns, M, Y)) (ok : okA (len, B, F, nu, W, V, nk, S, ns, M, Y)) : RI mX10_lay 10 [vR 73] σ (fun z σ' => z = an_lay B len ∧ RM σ' (nx_lay (len, B, F, nu, W, V, nk, S, ns, M, Y)) ∧ ∀ k, k < 73 → σ' k = σ k) := by
  refine mkRun (by decide +kernel) (Nat.le_of_ble_eq_true rfl) (fun X hF hR => ?_)
  have hbad : ∀ σ1 : Sg, QFr σ σ1 → ¬ ((rdF B len).1 = -4 ∧ f_nm (rdF B len).2 ≠ 0 ∧ f_nl (rdF B len).2 ≠ 0) → Gs X 27 [some (vR 73), none] [] σ1 := by
    intro σ1 hq hc
    have e : lyb B len = false := decide_eq_false hc
    refine jr_bipush hF dX10_lay_27 (q := 29) rfl (by decide) (by decide +kernel) ?_
    refine jr_retI hF hR dX10_lay_29 rfl ⟨?_, ?_, hq.lo⟩
    · unfold an_lay
      rw [e]
      rfl
    · unfold nx_lay
      rw [if_neg (by show ¬ lyb B len = true; rw [e]; decide)]
      exact h.qf ok hq
  refine jr_aload_n hF dX10_lay_0 (q := 1) rfl rfl ?_
  refine jr_cV0I hF (m_readAll σ B len h.1 ok.1 ok.2.1) dX10_lay_1 (q := 4) rfl lk10_114 vX10_readAll kX10_readAll rfl rfl rfl (by decide) (Nat.le_of_ble_eq_true rfl) (fun z σ1 hz => ?_)
  obtain ⟨g1, g2, g3⟩ := hz
  refine jr_bipush hF dX10_lay_4 (q := 6) rfl (by decide) (by decide +kernel) ?_
  refine jr_icmp_ne hF dX10_lay_6 (q := 9) rfl 27 (by decide) (fun a1 => ?_) (fun a1 => ?_)
  · exact hbad σ1 g1 (fun hh => a1 (by rw [g2]; exact hh.1))
  · obtain ⟨hG, okG⟩ := g3 a1
    have hz1 : (rdF B len).1 = -4 := by rw [← g2]; exact a1
    generalize hGe : (rdF B len).2 = G at hG okG hbad
    have hnm := okG.1
    have hnl := okG.2.1
    obtain ⟨r1, r2, r3, r4, r5, r6, r7, r8⟩ := hG
    refine jr_aload_n hF dX10_lay_9 (q := 10) rfl rfl ?_
    refine jr_getR (ci := 10) (j := 2) hF dX10_lay_10 (q := 13) rfl rfl rfl fl10_13 ?_
    refine jr_iconst hF dX10_lay_13 (q := 14) rfl (by decide) ?_
    refine jr_iald hF dX10_lay_14 (q := 15) rfl rfl (by omega) ?_
    rw [r1]
    refine jr_if_eq hF dX10_lay_15 (q := 18) rfl 27 (by decide) (fun a2 => ?_) (fun a2 => ?_)
    · exact hbad σ1 g1 (fun hh => by omega)
    · refine jr_aload_n hF dX10_lay_18 (q := 19) rfl rfl ?_
      refine jr_getR (ci := 10) (j := 4) hF dX10_lay_19 (q := 22) rfl rfl rfl fl10_19 ?_
      refine jr_iconst hF dX10_lay_22 (q := 23) rfl (by decide) ?_
      refine jr_iald hF dX10_lay_23 (q := 24) rfl rfl (by omega) ?_
      rw [r2]
      refine jr_if_ne hF dX10_lay_24 (q := 27) rfl 30 (by decide) (fun a3 => ?_) (fun a3 => ?_)
      · have e : lyb B len = true := decide_eq_true ⟨hz1, by rw [hGe]; omega, by rw [hGe]; omega⟩
        have eA : an_lay B len = (f_nl G : Int) := by unfold an_lay; rw [e, if_pos rfl, hGe]
        have eN : nx_lay (len, B, F, nu, W, V, nk, S, ns, M, Y) = (len, B, G, 0, W, V, 0, S, 0, M, Y) := by
          unfold nx_lay
          rw [if_pos (show lyb B len = true from e), hGe]
        rw [eA, eN] at hR
        obtain ⟨p1, p2, -, -, -, -⟩ := g1
        obtain ⟨⟨t1, t3⟩, -, -, -, -⟩ := h
        refine jr_aload_n hF dX10_lay_30 (q := 31) rfl rfl ?_
        refine jr_getR (ci := 10) (j := 2) hF dX10_lay_31 (q := 34) rfl rfl rfl fl10_13 ?_
        refine jr_iconst hF dX10_lay_34 (q := 35) rfl (by decide) ?_
        refine jr_aload_n hF dX10_lay_35 (q := 36) rfl rfl ?_
        refine jr_getR (ci := 10) (j := 2) hF dX10_lay_36 (q := 39) rfl rfl rfl fl10_13 ?_
        refine jr_iconst hF dX10_lay_39 (q := 40) rfl (by decide) ?_
        refine jr_iald hF dX10_lay_40 (q := 41) rfl rfl (by omega) ?_
        rw [r1]
        refine jr_iast hF dX10_lay_41 (q := 42) rfl rfl (by omega) ?_
        refine jr_aload_n hF dX10_lay_42 (q := 43) rfl rfl ?_
        refine jr_getR (ci := 10) (j := 4) hF dX10_lay_43 (q := 46) rfl rfl rfl fl10_19 ?_
        refine jr_iconst hF dX10_lay_46 (q := 47) rfl (by decide) ?_
        refine jr_aload_n hF dX10_lay_47 (q := 48) rfl rfl ?_
        refine jr_getR (ci := 10) (j := 4) hF dX10_lay_48 (q := 51) rfl rfl rfl fl10_19 ?_
        refine jr_iconst hF dX10_lay_51 (q := 52) rfl (by decide) ?_
        refine jr_iald hF dX10_lay_52 (q := 53) rfl rfl (by omega) ?_
        rw [up_ne (show (77 : Nat) ≠ 75 by decide), r2]
        refine jr_iast hF dX10_lay_53 (q := 54) rfl rfl (by omega) ?_
        refine jr_iconst hF dX10_lay_54 (q := 55) rfl (by decide) ?_
        refine jr_istore_n hF dX10_lay_55 (q := 56) rfl (by decide) rfl ?_
        generalize hsA : up (up σ1 75 0 (f_nm G : Int)) 77 0 (f_nl G : Int) = σA
        have A1 : ∀ c, c ≠ 75 → c ≠ 77 → σA c = σ1 c := fun c n1 n2 => by rw [← hsA, up_ne n2, up_ne n1]
        have A2 : σA 75 0 = (f_nm G : Int) ∧ σA 77 0 = (f_nl G : Int) := by rw [← hsA]; constructor <;> simp [up]
        refine gs_loop (α := Sg) (fun k _ => [some (vR 73), some (vI (k : Int))]) (fun σ' => σ') (fun n σ' => (∀ j : Nat, j < n → σ' 76 (j : Int) = σ1 76 (3 + (j : Int))) ∧ (∀ j : Int, (n : Int) ≤ j → σ' 76 j = σ1 76 j) ∧ ∀ c, c ≠ 76 → σ' c = σA c) 3 (fun σ2 h2 => ?_) (fun k σ2 hk h2 ih => ?_) σA ⟨fun j hj => absurd hj (Nat.not_lt_zero j), fun j _ => by rw [A1 76 (by decide) (by decide)], fun _ _ => rfl⟩
        · obtain ⟨i1, -, i3⟩ := h2
          refine jr_iload_n hF dX10_lay_56 (q := 57) rfl rfl ?_
          refine jr_iconst hF dX10_lay_57 (q := 58) rfl (by decide) ?_
          refine jr_icmp_ge hF dX10_lay_58 (q := 61) rfl 81 (by decide) (fun a4 => ?_) (fun a4 => ?_)
          · refine jr_iconst hF dX10_lay_81 (q := 82) rfl (by decide) ?_
            refine jr_istore_n hF dX10_lay_82 (q := 83) rfl (by decide) rfl ?_
            refine gs_loop (α := Sg) (fun k _ => [some (vR 73), some (vI (k : Int))]) (fun σ' => σ') (fun n σ' => (∀ j : Nat, j < n → σ' 78 (j : Int) = σ1 78 (5 + (j : Int))) ∧ (∀ j : Int, (n : Int) ≤ j → σ' 78 j = σ1 78 j) ∧ ∀ c, c ≠ 78 → σ' c = σ2 c) 5 (fun σ3 h3 => ?_) (fun k σ3 hk h3 ih => ?_) σ2 ⟨fun j hj => absurd hj (Nat.not_lt_zero j), fun j _ => by rw [i3 78 (by decide), A1 78 (by decide) (by decide)], fun _ _ => rfl⟩
            · obtain ⟨j1, -, j3⟩ := h3
              refine jr_iload_n hF dX10_lay_83 (q := 84) rfl rfl ?_
              refine jr_iconst hF dX10_lay_84 (q := 85) rfl (by decide) ?_
              refine jr_icmp_ge hF dX10_lay_85 (q := 88) rfl 108 (by decide) (fun a5 => ?_) (fun a5 => ?_)
              · refine jr_iconst hF dX10_lay_108 (q := 109) rfl (by decide) ?_
                refine jr_istore_n hF dX10_lay_109 (q := 110) rfl (by decide) rfl ?_
                refine gs_loop (α := Sg) (fun k _ => [some (vR 73), some (vI (k : Int))]) (fun σ' => σ') (fun n σ' => (∀ j : Nat, j < n → σ' 79 (j : Int) = σ1 79 (15 + (j : Int))) ∧ (∀ j : Int, (n : Int) ≤ j → σ' 79 j = σ1 79 j) ∧ ∀ c, c ≠ 79 → σ' c = σ3 c) 15 (fun σ4 h4 => ?_) (fun k σ4 hk h4 ih => ?_) σ3 ⟨fun j hj => absurd hj (Nat.not_lt_zero j), fun j _ => by rw [j3 79 (by decide), i3 79 (by decide), A1 79 (by decide) (by decide)], fun _ _ => rfl⟩
                · obtain ⟨k1, -, k3⟩ := h4
                  refine jr_iload_n hF dX10_lay_110 (q := 111) rfl rfl ?_
                  refine jr_bipush hF dX10_lay_111 (q := 113) rfl (by decide) (by decide +kernel) ?_
                  refine jr_icmp_ge hF dX10_lay_113 (q := 116) rfl 137 (by decide) (fun a6 => ?_) (fun a6 => ?_)
                  · refine jr_aload_n hF dX10_lay_137 (q := 138) rfl rfl ?_
                    refine jr_iconst hF dX10_lay_138 (q := 139) rfl (by decide) ?_
                    refine jr_iconst hF dX10_lay_139 (q := 140) rfl (by decide) ?_
                    refine jr_cV2V hF (m_copy σ4 1 0 (by decide) (by decide) (by decide)) dX10_lay_140 (q := 143) rfl lk10_118 vX10_copy kX10_copy rfl rfl rfl (by decide) (Nat.le_of_ble_eq_true rfl) (fun σ5 hz => ?_)
                    obtain ⟨m1, m2, m3, m4⟩ := hz
                    have hfr : ∀ c, c < 75 ∨ 82 < c → σ5 c = σ1 c := fun c hc => by rw [m4 c (by omega), k3 c (by omega), j3 c (by omega), i3 c (by omega), A1 c (by omega) (by omega)]
                    have f80 : ∀ j, σ4 80 j = σ1 80 j := fun j => by rw [k3 80 (by decide), j3 80 (by decide), i3 80 (by decide), A1 80 (by decide) (by decide)]
                    have f81 : ∀ j, σ4 81 j = σ1 81 j := fun j => by rw [k3 81 (by decide), j3 81 (by decide), i3 81 (by decide), A1 81 (by decide) (by decide)]
                    have f82 : ∀ j, σ4 82 j = σ1 82 j := fun j => by rw [k3 82 (by decide), j3 82 (by decide), i3 82 (by decide), A1 82 (by decide) (by decide)]
                    have f77 : σ5 77 0 = (f_nl G : Int) := by rw [m4 77 (by omega), k3 77 (by decide), j3 77 (by decide), i3 77 (by decide)]; exact A2.2
                    refine jr_aload_n hF dX10_lay_143 (q := 144) rfl rfl ?_
                    refine jr_iconst hF dX10_lay_144 (q := 145) rfl (by decide) ?_
                    refine jr_putI (ci := 10) (j := 10) hF 10 rfl dX10_lay_145 (q := 148) rfl rfl rfl fp10_122 ?_
                    refine jr_aload_n hF dX10_lay_148 (q := 149) rfl rfl ?_
                    refine jr_iconst hF dX10_lay_149 (q := 150) rfl (by decide) ?_
                    refine jr_putI (ci := 10) (j := 11) hF 11 rfl dX10_lay_150 (q := 153) rfl rfl rfl fp10_125 ?_
                    refine jr_aload_n hF dX10_lay_153 (q := 154) rfl rfl ?_
                    refine jr_iconst hF dX10_lay_154 (q := 155) rfl (by decide) ?_
                    refine jr_putI (ci := 10) (j := 13) hF 13 rfl dX10_lay_155 (q := 158) rfl rfl rfl fp10_128 ?_
                    refine jr_aload_n hF dX10_lay_158 (q := 159) rfl rfl ?_
                    refine jr_getR (ci := 10) (j := 4) hF dX10_lay_159 (q := 162) rfl rfl rfl fl10_19 ?_
                    refine jr_iconst hF dX10_lay_162 (q := 163) rfl (by decide) ?_
                    refine jr_iald hF dX10_lay_163 (q := 164) rfl rfl (by omega) ?_
                    rw [up_ne (show (77 : Nat) ≠ 73 by decide), up_ne (show (77 : Nat) ≠ 73 by decide), up_ne (show (77 : Nat) ≠ 73 by decide), f77]
                    refine jr_retI hF hR dX10_lay_164 rfl ⟨rfl, ⟨⟨?_, fun k hk => ?_⟩, ⟨?_, ?_, fun m hm => ?_, fun i hi => ?_, fun i m hi hm => ?_, fun i hi => ?_, ?_, ?_⟩, ⟨?_, fun j hj => absurd hj (Nat.not_lt_zero j)⟩, ⟨?_, fun j hj => absurd hj (Nat.not_lt_zero j)⟩, ?_, fun j hj => absurd hj (Nat.not_lt_zero j)⟩, fun k hk => ?_⟩
                    · rw [← t1, ← p2 0 (by decide), ← hfr 73 (by omega)]; simp [up]
                    · rw [up_ne (by decide), up_ne (by decide), up_ne (by decide), hfr 74 (by omega), p1 74 (by omega)]; exact t3 k hk
                    · rw [up_ne (by decide), up_ne (by decide), up_ne (by decide), m4 75 (by omega), k3 75 (by decide), j3 75 (by decide), i3 75 (by decide)]; exact A2.1
                    · rw [up_ne (by decide), up_ne (by decide), up_ne (by decide)]; exact f77
                    · rw [up_ne (by decide), up_ne (by decide), up_ne (by decide), m4 76 (by omega), k3 76 (by decide), j3 76 (by decide), i1 m (by omega)]; exact r3 m hm
                    · rw [up_ne (by decide), up_ne (by decide), up_ne (by decide), m4 78 (by omega), k3 78 (by decide), j1 i (by omega)]; exact r4 i hi
                    · have e1 := k1 (3 * i + m) (by omega)
                      rw [show ((3 * i + m : Nat) : Int) = 3 * (i : Int) + (m : Int) by omega, show 15 + (3 * (i : Int) + (m : Int)) = 15 + 3 * (i : Int) + (m : Int) by omega] at e1
                      rw [up_ne (by decide), up_ne (by decide), up_ne (by decide), m4 79 (by omega), e1]; exact r5 i m (by omega) (by omega)
                    · rw [up_ne (by decide), up_ne (by decide), up_ne (by decide), m1, if_pos (by omega), f80, show (i : Int) - 5 * 0 + 5 * 1 = 5 + (i : Int) by omega]; exact r6 i hi
                    · rw [up_ne (by decide), up_ne (by decide), up_ne (by decide), m2, if_pos rfl, f81]; exact r7
                    · rw [up_ne (by decide), up_ne (by decide), up_ne (by decide), m3, if_pos rfl, f82]; exact r8
                    · simp [up]
                    · simp [up]
                    · simp [up]
                    · rw [up_ne (by omega), up_ne (by omega), up_ne (by omega), hfr k (by omega)]; exact p1 k (by omega)
                  · omega
                · obtain ⟨k1, k2, k3⟩ := h4
                  have e1 := k2 (15 + (k : Int)) (by omega)
                  have ih1 := ih (up σ4 79 (k : Int) (σ1 79 (15 + (k : Int)))) ⟨fun j hj => by
                    rw [up_nat]
                    by_cases ej : j = k
                    · rw [if_pos ej, ej]
                    · rw [if_neg ej]; exact k1 j (by omega), fun j hj => by
                    unfold up
                    rw [if_neg (by omega)]
                    exact k2 j (by omega), fun c hc => by rw [up_ne hc]; exact k3 c hc⟩
                  refine jr_iload_n hF dX10_lay_110 (q := 111) rfl rfl ?_
                  refine jr_bipush hF dX10_lay_111 (q := 113) rfl (by decide) (by decide +kernel) ?_
                  refine jr_icmp_ge hF dX10_lay_113 (q := 116) rfl 137 (by decide) (fun a6 => ?_) (fun a6 => ?_)
                  · omega
                  · refine jr_aload_n hF dX10_lay_116 (q := 117) rfl rfl ?_
                    refine jr_getR (ci := 10) (j := 6) hF dX10_lay_117 (q := 120) rfl rfl rfl fl10_25 ?_
                    refine jr_iload_n hF dX10_lay_120 (q := 121) rfl rfl ?_
                    refine jr_aload_n hF dX10_lay_121 (q := 122) rfl rfl ?_
                    refine jr_getR (ci := 10) (j := 6) hF dX10_lay_122 (q := 125) rfl rfl rfl fl10_25 ?_
                    refine jr_bipush hF dX10_lay_125 (q := 127) rfl (by decide) (by decide +kernel) ?_
                    refine jr_iload_n hF dX10_lay_127 (q := 128) rfl rfl ?_
                    refine jr_iadd hF dX10_lay_128 (q := 129) rfl (by omega) ?_
                    refine jr_iald hF dX10_lay_129 (q := 130) rfl rfl (by omega) ?_
                    rw [e1]
                    refine jr_iast hF dX10_lay_130 (q := 131) rfl rfl (by omega) ?_
                    refine jr_iinc hF dX10_lay_131 (q := 134) rfl (by decide) rfl rfl (by omega) ?_
                    refine jr_goto hF dX10_lay_134 110 (by decide) ?_
                    exact ih1
              · omega
            · obtain ⟨k1, k2, k3⟩ := h3
              have e1 := k2 (5 + (k : Int)) (by omega)
              have ih1 := ih (up σ3 78 (k : Int) (σ1 78 (5 + (k : Int)))) ⟨fun j hj => by
                rw [up_nat]
                by_cases ej : j = k
                · rw [if_pos ej, ej]
                · rw [if_neg ej]; exact k1 j (by omega), fun j hj => by
                unfold up
                rw [if_neg (by omega)]
                exact k2 j (by omega), fun c hc => by rw [up_ne hc]; exact k3 c hc⟩
              refine jr_iload_n hF dX10_lay_83 (q := 84) rfl rfl ?_
              refine jr_iconst hF dX10_lay_84 (q := 85) rfl (by decide) ?_
              refine jr_icmp_ge hF dX10_lay_85 (q := 88) rfl 108 (by decide) (fun a6 => ?_) (fun a6 => ?_)
              · omega
              · refine jr_aload_n hF dX10_lay_88 (q := 89) rfl rfl ?_
                refine jr_getR (ci := 10) (j := 5) hF dX10_lay_89 (q := 92) rfl rfl rfl fl10_22 ?_
                refine jr_iload_n hF dX10_lay_92 (q := 93) rfl rfl ?_
                refine jr_aload_n hF dX10_lay_93 (q := 94) rfl rfl ?_
                refine jr_getR (ci := 10) (j := 5) hF dX10_lay_94 (q := 97) rfl rfl rfl fl10_22 ?_
                refine jr_iconst hF dX10_lay_97 (q := 98) rfl (by decide) ?_
                refine jr_iload_n hF dX10_lay_98 (q := 99) rfl rfl ?_
                refine jr_iadd hF dX10_lay_99 (q := 100) rfl (by omega) ?_
                refine jr_iald hF dX10_lay_100 (q := 101) rfl rfl (by omega) ?_
                rw [e1]
                refine jr_iast hF dX10_lay_101 (q := 102) rfl rfl (by omega) ?_
                refine jr_iinc hF dX10_lay_102 (q := 105) rfl (by decide) rfl rfl (by omega) ?_
                refine jr_goto hF dX10_lay_105 83 (by decide) ?_
                exact ih1
          · omega
        · obtain ⟨k1, k2, k3⟩ := h2
          have e1 := k2 (3 + (k : Int)) (by omega)
          have ih1 := ih (up σ2 76 (k : Int) (σ1 76 (3 + (k : Int)))) ⟨fun j hj => by
            rw [up_nat]
            by_cases ej : j = k
            · rw [if_pos ej, ej]
            · rw [if_neg ej]; exact k1 j (by omega), fun j hj => by
            unfold up
            rw [if_neg (by omega)]
            exact k2 j (by omega), fun c hc => by rw [up_ne hc]; exact k3 c hc⟩
          refine jr_iload_n hF dX10_lay_56 (q := 57) rfl rfl ?_
          refine jr_iconst hF dX10_lay_57 (q := 58) rfl (by decide) ?_
          refine jr_icmp_ge hF dX10_lay_58 (q := 61) rfl 81 (by decide) (fun a6 => ?_) (fun a6 => ?_)
          · omega
          · refine jr_aload_n hF dX10_lay_61 (q := 62) rfl rfl ?_
            refine jr_getR (ci := 10) (j := 3) hF dX10_lay_62 (q := 65) rfl rfl rfl fl10_16 ?_
            refine jr_iload_n hF dX10_lay_65 (q := 66) rfl rfl ?_
            refine jr_aload_n hF dX10_lay_66 (q := 67) rfl rfl ?_
            refine jr_getR (ci := 10) (j := 3) hF dX10_lay_67 (q := 70) rfl rfl rfl fl10_16 ?_
            refine jr_iconst hF dX10_lay_70 (q := 71) rfl (by decide) ?_
            refine jr_iload_n hF dX10_lay_71 (q := 72) rfl rfl ?_
            refine jr_iadd hF dX10_lay_72 (q := 73) rfl (by omega) ?_
            refine jr_iald hF dX10_lay_73 (q := 74) rfl rfl (by omega) ?_
            rw [e1]
            refine jr_iast hF dX10_lay_74 (q := 75) rfl rfl (by omega) ?_
            refine jr_iinc hF dX10_lay_75 (q := 78) rfl (by decide) rfl rfl (by omega) ?_
            refine jr_goto hF dX10_lay_78 56 (by decide) ?_
            exact ih1
      · exact hbad σ1 ⟨g1.1, g1.2⟩ (fun hh => by omega)
end

