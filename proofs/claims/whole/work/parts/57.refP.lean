theorem nval_rg {B : Nat → Int} {len p : Nat} (h : nfig B len p ≠ 0) : 0 ≤ nval B p (nfig B len p) ∧ nval B p (nfig B len p) ≤ 99 := by
  unfold nfig at h ⊢
  by_cases g1 : dgb B len p = true
  · have q1 := bt_eq g1
    rw [if_pos g1] at h ⊢
    by_cases g2 : dgb B len (p + 1) = true
    · have q2 := bt_eq g2
      rw [if_pos g2]
      unfold nval
      rw [if_pos rfl]
      omega
    · rw [if_neg g2]
      unfold nval
      rw [if_neg (by decide)]
      omega
  · rw [if_neg g1] at h
    exact absurd rfl h
theorem rdN_rg {B : Nat → Int} {len many : Nat} : ∀ (r pl : Nat) (a : Nat → Int) (q : Nat) (b : Nat → Int), r ≤ many → (∀ j, j < many - r → 0 ≤ a j ∧ a j ≤ 99) → rdN B len many r pl a = some (q, b) → ∀ j, j < many → 0 ≤ b j ∧ b j ≤ 99 := by
  intro r
  induction r with
  | zero =>
    intro pl a q b _ ha h j hj
    have e : (pl, a) = (q, b) := Option.some.inj h
    rw [← (Prod.mk.inj e).2]
    exact ha j (by omega)
  | succ r ih =>
    intro pl a q b hr ha h
    rw [rdN] at h
    by_cases h0 : nfig B len pl = 0
    · rw [if_pos h0] at h
      exact absurd h (by simp)
    · rw [if_neg h0] at h
      have hv := nval_rg h0
      by_cases h1 : sgb B len (pl + nfig B len pl) (if r = 0 then 59 else 44) = true
      · rw [if_pos h1] at h
        refine ih _ _ q b (by omega) (fun j hj => ?_) h
        unfold st1
        split
        · exact hv
        · exact ha j (by omega)
      · rw [if_neg h1] at h
        exact absurd h (by simp)
/-- what the reference read comes to z and to a plan -/
def tolM (σ σ' : Sg) (len : Nat) (o : Option (Nat × FD × (Nat → Int))) (z : Int) : Prop := QFr σ σ' ∧ match o with
  | none => z = 0
  | some (q, F, b) => z = 1 ∧ q ≤ len ∧ σ' 73 16 = (q : Int) ∧ RdM σ' F ∧ ∀ j : Nat, j < 3 → σ' 86 (j : Int) = b j
theorem ub_eq {b v : Int} (hb : -128 ≤ b ∧ b ≤ 127) (hv : 0 ≤ v ∧ v < 128) : ub b = v ↔ b = v := by
  unfold ub
  split <;> omega
set_option maxRecDepth 100000 in
theorem m_item (σ : Sg) (B : Nat → Int) (len : Nat) (hT : TxM σ B len) (h3 : len ≤ 300) (hB : bOK B len) (F : FD) (hC : RdM σ F) (ok : okF F) (pl : Nat) (hpl : pl < len) (hp : σ 73 16 = (pl : Int)) (a : Nat → Int) (ha : ∀ j : Nat, j < 3 → σ 86 (j : Int) = a j) : RI mX10_item 3 [vR 73] σ (fun z σ' => tolM σ σ' len (itemF B len pl F a) z) := by
  have hnm := ok.1
  have hnl := ok.2.1
  have hbb := hB pl hpl
  have hpu : PFr σ (up σ 73 16 ((pl + 1 : Nat) : Int)) := (PFr.rf σ).pl _
  have hTu := hT.pf hpu
  have hpl1 : (up σ 73 16 ((pl + 1 : Nat) : Int)) 73 16 = ((pl + 1 : Nat) : Int) := by simp [up]
  have hau : ∀ j : Nat, j < 3 → (up σ 73 16 ((pl + 1 : Nat) : Int)) 86 (j : Int) = a j := fun j hj => by rw [up_ne (by decide)]; exact ha j hj
  refine mkRun (by decide +kernel) (Nat.le_of_ble_eq_true rfl) (fun X hF hR => ?_)
  refine jr_aload_n hF dX10_item_0 (q := 1) rfl rfl ?_
  refine jr_aload_n hF dX10_item_1 (q := 2) rfl rfl ?_
  refine jr_getI (ci := 10) (j := 16) hF 16 rfl dX10_item_2 (q := 5) rfl rfl rfl fl10_89 ?_
  rw [hp]
  refine jr_cV1I hF (m_byteAt σ B len hT h3 pl) dX10_item_5 (q := 8) rfl lk10_92 vX10_byteAt kX10_byteAt rfl rfl rfl (by decide) (Nat.le_of_ble_eq_true rfl) (fun z σ1 hz => ?_)
  obtain ⟨rfl, rfl⟩ := hz
  rw [show bt B len pl = ub (B pl) by unfold bt; rw [if_pos hpl]]
  refine jr_istore_n hF dX10_item_8 (q := 9) rfl (by decide) rfl ?_
  refine jr_aload_n hF dX10_item_9 (q := 10) rfl rfl ?_
  refine jr_dup hF dX10_item_10 (q := 11) rfl rfl ?_
  refine jr_getI (ci := 10) (j := 16) hF 16 rfl dX10_item_11 (q := 14) rfl rfl rfl fl10_89 ?_
  rw [hp]
  refine jr_iconst hF dX10_item_14 (q := 15) rfl (by decide) ?_
  refine jr_iadd hF dX10_item_15 (q := 16) rfl (by omega) ?_
  rw [show (pl : Int) + 1 = ((pl + 1 : Nat) : Int) by omega]
  refine jr_putI (ci := 10) (j := 16) hF 16 rfl dX10_item_16 (q := 19) rfl rfl rfl fp10_89 ?_
  refine jr_iload_n hF dX10_item_19 (q := 20) rfl rfl ?_
  have hfig : ∀ n : Nat, 1 ≤ n ∧ n ≤ 3 → _ := fun n hn => m_figures _ B len hTu h3 hB n hn (pl + 1) hpl hpl1 a hau
  by_cases c1 : B pl = 109
  · rw [(ub_eq hbb (by decide)).mpr c1]
    have eI : itemF B len pl F a = match rdN B len 1 1 (pl + 1) a with
      | none => none
      | some (q, b) => match t_m F (b 0) with
        | none => none
        | some F' => some (q, F', b) := by unfold itemF; rw [c1]; rfl
    rw [eI] at hR
    refine jr_lsw hF dX10_item_20 (by decide +kernel) 72 lsw5 (by decide) ?_
    have hf := hfig 1 (by decide)
    generalize hq : rdN B len 1 1 (pl + 1) a = o at hf hR
    refine jr_aload_n hF dX10_item_72 (q := 73) rfl rfl ?_
    refine jr_iconst hF dX10_item_73 (q := 74) rfl (by decide) ?_
    refine jr_cV1I hF (hf) dX10_item_74 (q := 77) rfl lk10_102 vX10_figures kX10_figures rfl rfl rfl (by decide) (Nat.le_of_ble_eq_true rfl) (fun z σ2 hz => ?_)
    obtain ⟨g1, g2⟩ := hz
    have hq2 := (hpu.tr g1).q
    have hC2 := (hC.pf (hpu.tr g1))
    cases o with
    | none =>
      dsimp only at g2
      subst g2
      refine jr_if_eq hF dX10_item_77 (q := 80) rfl 107 (by decide) (fun a1 => ?_) (fun a1 => ?_)
      · refine jr_iconst hF dX10_item_107 (q := 108) rfl (by decide) ?_
        refine jr_retZ hF hR dX10_item_108 rfl (by first | exact Or.inl rfl | exact Or.inr rfl | omega) ⟨hq2, rfl⟩
      · exact absurd rfl a1
    | some qb =>
      obtain ⟨q, b⟩ := qb
      dsimp only at g2 hR
      obtain ⟨rfl, g3, g4, g5⟩ := g2
      have hrg := rdN_rg 1 _ _ _ _ (Nat.le_refl _) (fun j hj => absurd hj (by omega)) hq 0 (by decide)
      obtain ⟨r1, r2, r3, r4, r5, r6, r7, r8⟩ := hC2
      have e0 : σ2 86 0 = b 0 := g5 0 (by decide)
      have hno : ¬ (f_nm F < 3 ∧ 1 ≤ b 0 ∧ b 0 ≤ 3) → Gs X 107 [some (vR 73), some (vI 109)] [] σ2 := by
        intro hn
        have et : t_m F (b 0) = none := by unfold t_m; rw [if_neg hn]
        rw [et] at hR
        refine jr_iconst hF dX10_item_107 (q := 108) rfl (by decide) ?_
        refine jr_retZ hF hR dX10_item_108 rfl (by first | exact Or.inl rfl | exact Or.inr rfl | omega) ⟨hq2, rfl⟩
      refine jr_if_eq hF dX10_item_77 (q := 80) rfl 107 (by decide) (fun a1 => ?_) (fun a1 => ?_)
      · exact absurd a1 (by decide)
      · refine jr_aload_n hF dX10_item_80 (q := 81) rfl rfl ?_
        refine jr_getR (ci := 10) (j := 2) hF dX10_item_81 (q := 84) rfl rfl rfl fl10_13 ?_
        refine jr_iconst hF dX10_item_84 (q := 85) rfl (by decide) ?_
        refine jr_iald hF dX10_item_85 (q := 86) rfl rfl (by omega) ?_
        rw [r1]
        refine jr_iconst hF dX10_item_86 (q := 87) rfl (by decide) ?_
        refine jr_icmp_eq hF dX10_item_87 (q := 90) rfl 107 (by decide) (fun a2 => ?_) (fun a2 => ?_)
        · exact hno (fun hh => by omega)
        · refine jr_aload_n hF dX10_item_90 (q := 91) rfl rfl ?_
          refine jr_getR (ci := 10) (j := 17) hF dX10_item_91 (q := 94) rfl rfl rfl fl10_46 ?_
          refine jr_iconst hF dX10_item_94 (q := 95) rfl (by decide) ?_
          refine jr_iald hF dX10_item_95 (q := 96) rfl rfl (by omega) ?_
          rw [e0]
          refine jr_i2l hF dX10_item_96 (q := 97) rfl ?_
          refine jr_lconst hF 1 dX10_item_97 (q := 98) rfl (by decide) (by decide +kernel) ?_
          refine jr_ldc2 hF 3 dX10_item_98 (q := 101) rfl kl10_106 (by decide) (by decide +kernel) ?_
          refine jr_cS3I hF (m_in σ2 (b 0) 1 3) dX10_item_101 (q := 104) rfl lk10_79 vX10_in kX10_in (by decide) (Nat.le_of_ble_eq_true rfl) (fun z σ3 hz => ?_)
          obtain ⟨rfl, rfl⟩ := hz
          refine jr_if_ne hF dX10_item_104 (q := 107) rfl 109 (by decide) (fun a3 => ?_) (fun a3 => ?_)
          · have b3 : 1 ≤ b 0 ∧ b 0 ≤ 3 := Classical.byContradiction fun hh => a3 (by rw [if_neg hh])
            have et : t_m F (b 0) = some (f_nm F + 1, f_nl F, st1 (f_rm F) (f_nm F) (b 0), f_kd F, f_wt F, f_lm F, f_ca F, f_sp F) := by unfold t_m; rw [if_pos (by omega)]
            rw [et] at hR
            dsimp only at hR
            refine jr_aload_n hF dX10_item_109 (q := 110) rfl rfl ?_
            refine jr_getR (ci := 10) (j := 3) hF dX10_item_110 (q := 113) rfl rfl rfl fl10_16 ?_
            refine jr_iconst hF dX10_item_113 (q := 114) rfl (by decide) ?_
            refine jr_aload_n hF dX10_item_114 (q := 115) rfl rfl ?_
            refine jr_getR (ci := 10) (j := 2) hF dX10_item_115 (q := 118) rfl rfl rfl fl10_13 ?_
            refine jr_iconst hF dX10_item_118 (q := 119) rfl (by decide) ?_
            refine jr_iald hF dX10_item_119 (q := 120) rfl rfl (by omega) ?_
            rw [r1]
            refine jr_iadd hF dX10_item_120 (q := 121) rfl (by omega) ?_
            refine jr_aload_n hF dX10_item_121 (q := 122) rfl rfl ?_
            refine jr_getR (ci := 10) (j := 17) hF dX10_item_122 (q := 125) rfl rfl rfl fl10_46 ?_
            refine jr_iconst hF dX10_item_125 (q := 126) rfl (by decide) ?_
            refine jr_iald hF dX10_item_126 (q := 127) rfl rfl (by omega) ?_
            rw [e0]
            refine jr_iast hF dX10_item_127 (q := 128) rfl rfl (by omega) ?_
            refine jr_aload_n hF dX10_item_128 (q := 129) rfl rfl ?_
            refine jr_getR (ci := 10) (j := 2) hF dX10_item_129 (q := 132) rfl rfl rfl fl10_13 ?_
            refine jr_iconst hF dX10_item_132 (q := 133) rfl (by decide) ?_
            refine jr_dup2 hF dX10_item_133 (q := 134) rfl rfl rfl ?_
            refine jr_iald hF dX10_item_134 (q := 135) rfl rfl (by omega) ?_
            rw [up_ne (show (75 : Nat) ≠ 76 by decide), r1]
            refine jr_iconst hF dX10_item_135 (q := 136) rfl (by decide) ?_
            refine jr_iadd hF dX10_item_136 (q := 137) rfl (by omega) ?_
            refine jr_iast hF dX10_item_137 (q := 138) rfl rfl (by omega) ?_
            refine jr_iconst hF dX10_item_138 (q := 139) rfl (by decide) ?_
            refine jr_retZ hF hR dX10_item_139 rfl (Or.inr rfl) ⟨hq2.tr ?_, rfl, g3, ?_, ⟨?_, ?_, fun m hm => ?_, fun i hi => ?_, fun i m hi hm => ?_, fun i hi => ?_, ?_, ?_⟩, fun j hj => ?_⟩
            · refine ⟨fun k hk => by rw [up_ne (by omega), up_ne (by omega)], fun j _ => by rw [up_ne (by decide), up_ne (by decide)], fun j hj => ⟨?_, ?_, ?_, ?_⟩, fun j hj => ?_, fun j _ => by rw [up_ne (by decide), up_ne (by decide), up_ne (by decide), up_ne (by decide)]; exact ⟨rfl, rfl⟩, fun j _ => by rw [up_ne (by decide), up_ne (by decide)]⟩
              · simp [up, hj]
              · rw [up_ne (by decide), up_ne (by decide)]
              · rw [up_ne (by decide), up_ne (by decide)]
              · rw [up_ne (by decide), up_ne (by decide)]
              · rw [up_ne (by decide)]
                unfold up
                rw [if_neg (by omega)]
            · rw [up_ne (by decide), up_ne (by decide)]; exact g4
            · show up _ 75 1 _ 75 1 = ((f_nm F + 1 : Nat) : Int)
              simp [up]
            · rw [up_ne (by decide), up_ne (by decide)]; exact r2
            · rw [up_ne (by decide)]
              show _ = st1 (f_rm F) (f_nm F) (b 0) m
              replace hm : m < f_nm F + 1 := hm
              unfold up st1
              by_cases em : m = f_nm F
              · rw [if_pos ⟨rfl, by omega⟩, if_pos em]
              · rw [if_neg (by omega), if_neg em]; exact r3 m (by omega)
            · rw [up_ne (by decide), up_ne (by decide)]; exact r4 i hi
            · rw [up_ne (by decide), up_ne (by decide)]; exact r5 i m hi hm
            · rw [up_ne (by decide), up_ne (by decide)]; exact r6 i hi
            · rw [up_ne (by decide), up_ne (by decide)]; exact r7
            · rw [up_ne (by decide), up_ne (by decide)]; exact r8
            · rw [up_ne (by decide), up_ne (by decide)]; exact g5 j hj
          · exact hno (fun hh => by rw [if_pos hh.2] at a3; omega)
  have d1 : ub (B pl) ≠ 109 := fun hh => c1 ((ub_eq hbb (by decide)).mp hh)
  by_cases c2 : B pl = 108
  · rw [(ub_eq hbb (by decide)).mpr c2]
    have eI : itemF B len pl F a = match rdN B len 2 2 (pl + 1) a with
      | none => none
      | some (q, b) => match t_l F (b 0) (b 1) with
        | none => none
        | some F' => some (q, F', b) := by unfold itemF; rw [c2]; rfl
    rw [eI] at hR
    refine jr_lsw hF dX10_item_20 (by decide +kernel) 140 lsw5 (by decide) ?_
    have hf := hfig 2 (by decide)
    generalize hq : rdN B len 2 2 (pl + 1) a = o at hf hR
    refine jr_aload_n hF dX10_item_140 (q := 141) rfl rfl ?_
    refine jr_iconst hF dX10_item_141 (q := 142) rfl (by decide) ?_
    refine jr_cV1I hF (hf) dX10_item_142 (q := 145) rfl lk10_102 vX10_figures kX10_figures rfl rfl rfl (by decide) (Nat.le_of_ble_eq_true rfl) (fun z σ2 hz => ?_)
    obtain ⟨g1, g2⟩ := hz
    have hq2 := (hpu.tr g1).q
    have hC2 := (hC.pf (hpu.tr g1))
    cases o with
    | none =>
      dsimp only at g2
      subst g2
      refine jr_if_eq hF dX10_item_145 (q := 148) rfl 185 (by decide) (fun a1 => ?_) (fun a1 => ?_)
      · refine jr_iconst hF dX10_item_185 (q := 186) rfl (by decide) ?_
        refine jr_retZ hF hR dX10_item_186 rfl (by first | exact Or.inl rfl | exact Or.inr rfl | omega) ⟨hq2, rfl⟩
      · exact absurd rfl a1
    | some qb =>
      obtain ⟨q, b⟩ := qb
      dsimp only at g2 hR
      obtain ⟨rfl, g3, g4, g5⟩ := g2
      have hrg := rdN_rg 2 _ _ _ _ (Nat.le_refl _) (fun j hj => absurd hj (by omega)) hq
      have hr0 := hrg 0 (by decide)
      have hr1 := hrg 1 (by decide)
      obtain ⟨r1, r2, r3, r4, r5, r6, r7, r8⟩ := hC2
      have e0 : σ2 86 0 = b 0 := g5 0 (by decide)
      have e1 : σ2 86 1 = b 1 := g5 1 (by decide)
      have hno : ¬ (f_nl F < 5 ∧ 1 ≤ b 0 ∧ b 0 ≤ 10 ∧ 0 ≤ b 1 ∧ b 1 ≤ 3) → Gs X 185 [some (vR 73), some (vI 108)] [] σ2 := by
        intro hn
        have et : t_l F (b 0) (b 1) = none := by unfold t_l; rw [if_neg hn]
        rw [et] at hR
        refine jr_iconst hF dX10_item_185 (q := 186) rfl (by decide) ?_
        refine jr_retZ hF hR dX10_item_186 rfl (by first | exact Or.inl rfl | exact Or.inr rfl | omega) ⟨hq2, rfl⟩
      refine jr_if_eq hF dX10_item_145 (q := 148) rfl 185 (by decide) (fun a1 => ?_) (fun a1 => ?_)
      · exact absurd a1 (by decide)
      · refine jr_aload_n hF dX10_item_148 (q := 149) rfl rfl ?_
        refine jr_getR (ci := 10) (j := 4) hF dX10_item_149 (q := 152) rfl rfl rfl fl10_19 ?_
        refine jr_iconst hF dX10_item_152 (q := 153) rfl (by decide) ?_
        refine jr_iald hF dX10_item_153 (q := 154) rfl rfl (by omega) ?_
        rw [r2]
        refine jr_iconst hF dX10_item_154 (q := 155) rfl (by decide) ?_
        refine jr_icmp_eq hF dX10_item_155 (q := 158) rfl 185 (by decide) (fun a2 => ?_) (fun a2 => ?_)
        · exact hno (fun hh => by omega)
        · refine jr_aload_n hF dX10_item_158 (q := 159) rfl rfl ?_
          refine jr_getR (ci := 10) (j := 17) hF dX10_item_159 (q := 162) rfl rfl rfl fl10_46 ?_
          refine jr_iconst hF dX10_item_162 (q := 163) rfl (by decide) ?_
          refine jr_iald hF dX10_item_163 (q := 164) rfl rfl (by omega) ?_
          rw [e0]
          refine jr_i2l hF dX10_item_164 (q := 165) rfl ?_
          refine jr_lconst hF 1 dX10_item_165 (q := 166) rfl (by decide) (by decide +kernel) ?_
          refine jr_ldc2 hF 10 dX10_item_166 (q := 169) rfl kl10_108 (by decide) (by decide +kernel) ?_
          refine jr_cS3I hF (m_in σ2 (b 0) 1 10) dX10_item_169 (q := 172) rfl lk10_79 vX10_in kX10_in (by decide) (Nat.le_of_ble_eq_true rfl) (fun z σ3 hz => ?_)
          obtain ⟨rfl, rfl⟩ := hz
          refine jr_if_eq hF dX10_item_172 (q := 175) rfl 185 (by decide) (fun a3 => ?_) (fun a3 => ?_)
          · exact hno (fun hh => by rw [if_pos ⟨hh.2.1, hh.2.2.1⟩] at a3; omega)
          · have b3 : 1 ≤ b 0 ∧ b 0 ≤ 10 := Classical.byContradiction fun hh => a3 (by rw [if_neg hh])
            refine jr_aload_n hF dX10_item_175 (q := 176) rfl rfl ?_
            refine jr_getR (ci := 10) (j := 17) hF dX10_item_176 (q := 179) rfl rfl rfl fl10_46 ?_
            refine jr_iconst hF dX10_item_179 (q := 180) rfl (by decide) ?_
            refine jr_iald hF dX10_item_180 (q := 181) rfl rfl (by omega) ?_
            rw [e1]
            refine jr_iconst hF dX10_item_181 (q := 182) rfl (by decide) ?_
            refine jr_icmp_le hF dX10_item_182 (q := 185) rfl 187 (by decide) (fun a4 => ?_) (fun a4 => ?_)
            · have et : t_l F (b 0) (b 1) = some (f_nm F, f_nl F + 1, f_rm F, st1 (f_kd F) (f_nl F) (b 1), f_wt F, st1 (f_lm F) (f_nl F) (b 0), f_ca F, f_sp F) := by unfold t_l; rw [if_pos (by omega)]
              rw [et] at hR
              dsimp only at hR
              refine jr_aload_n hF dX10_item_187 (q := 188) rfl rfl ?_
              refine jr_getR (ci := 10) (j := 7) hF dX10_item_188 (q := 191) rfl rfl rfl fl10_28 ?_
              refine jr_iconst hF dX10_item_191 (q := 192) rfl (by decide) ?_
              refine jr_aload_n hF dX10_item_192 (q := 193) rfl rfl ?_
              refine jr_getR (ci := 10) (j := 4) hF dX10_item_193 (q := 196) rfl rfl rfl fl10_19 ?_
              refine jr_iconst hF dX10_item_196 (q := 197) rfl (by decide) ?_
              refine jr_iald hF dX10_item_197 (q := 198) rfl rfl (by omega) ?_
              rw [r2]
              refine jr_iadd hF dX10_item_198 (q := 199) rfl (by omega) ?_
              refine jr_aload_n hF dX10_item_199 (q := 200) rfl rfl ?_
              refine jr_getR (ci := 10) (j := 17) hF dX10_item_200 (q := 203) rfl rfl rfl fl10_46 ?_
              refine jr_iconst hF dX10_item_203 (q := 204) rfl (by decide) ?_
              refine jr_iald hF dX10_item_204 (q := 205) rfl rfl (by omega) ?_
              rw [e0]
              refine jr_iast hF dX10_item_205 (q := 206) rfl rfl (by omega) ?_
              refine jr_aload_n hF dX10_item_206 (q := 207) rfl rfl ?_
              refine jr_getR (ci := 10) (j := 5) hF dX10_item_207 (q := 210) rfl rfl rfl fl10_22 ?_
              refine jr_iconst hF dX10_item_210 (q := 211) rfl (by decide) ?_
              refine jr_aload_n hF dX10_item_211 (q := 212) rfl rfl ?_
              refine jr_getR (ci := 10) (j := 4) hF dX10_item_212 (q := 215) rfl rfl rfl fl10_19 ?_
              refine jr_iconst hF dX10_item_215 (q := 216) rfl (by decide) ?_
              refine jr_iald hF dX10_item_216 (q := 217) rfl rfl (by omega) ?_
              rw [up_ne (show (77 : Nat) ≠ 80 by decide), r2]
              refine jr_iadd hF dX10_item_217 (q := 218) rfl (by omega) ?_
              refine jr_aload_n hF dX10_item_218 (q := 219) rfl rfl ?_
              refine jr_getR (ci := 10) (j := 17) hF dX10_item_219 (q := 222) rfl rfl rfl fl10_46 ?_
              refine jr_iconst hF dX10_item_222 (q := 223) rfl (by decide) ?_
              refine jr_iald hF dX10_item_223 (q := 224) rfl rfl (by omega) ?_
              rw [up_ne (show (86 : Nat) ≠ 80 by decide), e1]
              refine jr_iast hF dX10_item_224 (q := 225) rfl rfl (by omega) ?_
              refine jr_aload_n hF dX10_item_225 (q := 226) rfl rfl ?_
              refine jr_getR (ci := 10) (j := 4) hF dX10_item_226 (q := 229) rfl rfl rfl fl10_19 ?_
              refine jr_iconst hF dX10_item_229 (q := 230) rfl (by decide) ?_
              refine jr_dup2 hF dX10_item_230 (q := 231) rfl rfl rfl ?_
              refine jr_iald hF dX10_item_231 (q := 232) rfl rfl (by omega) ?_
              rw [up_ne (show (77 : Nat) ≠ 78 by decide), up_ne (show (77 : Nat) ≠ 80 by decide), r2]
              refine jr_iconst hF dX10_item_232 (q := 233) rfl (by decide) ?_
              refine jr_iadd hF dX10_item_233 (q := 234) rfl (by omega) ?_
              refine jr_iast hF dX10_item_234 (q := 235) rfl rfl (by omega) ?_
              refine jr_iconst hF dX10_item_235 (q := 236) rfl (by decide) ?_
              refine jr_retZ hF hR dX10_item_236 rfl (Or.inr rfl) ⟨hq2.tr ?_, rfl, g3, ?_, ⟨?_, ?_, fun m hm => ?_, fun i hi => ?_, fun i m hi hm => ?_, fun i hi => ?_, ?_, ?_⟩, fun j hj => ?_⟩
              · refine ⟨fun k hk => by rw [up_ne (by omega), up_ne (by omega), up_ne (by omega)], fun j _ => by rw [up_ne (by decide), up_ne (by decide), up_ne (by decide)], fun j hj => ⟨?_, ?_, ?_, ?_⟩, fun j _ => by rw [up_ne (by decide), up_ne (by decide), up_ne (by decide)], fun j hj => ⟨?_, ?_⟩, fun j _ => by rw [up_ne (by decide), up_ne (by decide), up_ne (by decide)]⟩
                · rw [up_ne (by decide), up_ne (by decide), up_ne (by decide)]
                · simp [up, hj]
                · rw [up_ne (by decide), up_ne (by decide), up_ne (by decide)]
                · rw [up_ne (by decide), up_ne (by decide), up_ne (by decide)]
                · rw [up_ne (by decide)]
                  unfold up
                  rw [if_neg (by omega), if_neg (by omega)]
                · rw [up_ne (by decide), up_ne (by decide)]
                  unfold up
                  rw [if_neg (by omega)]
              · rw [up_ne (by decide), up_ne (by decide), up_ne (by decide)]; exact g4
              · rw [up_ne (by decide), up_ne (by decide), up_ne (by decide)]; exact r1
              · show up _ 77 1 _ 77 1 = ((f_nl F + 1 : Nat) : Int)
                simp [up]
              · rw [up_ne (by decide), up_ne (by decide), up_ne (by decide)]; exact r3 m hm
              · rw [up_ne (by decide)]
                show _ = st1 (f_kd F) (f_nl F) (b 1) i
                replace hi : i < f_nl F + 1 := hi
                unfold up st1
                by_cases em : i = f_nl F
                · rw [if_pos ⟨rfl, by omega⟩, if_pos em]
                · rw [if_neg (by omega), if_neg (by omega), if_neg em]; exact r4 i (by omega)
              · rw [up_ne (by decide), up_ne (by decide), up_ne (by decide)]; exact r5 i m hi hm
              · rw [up_ne (by decide), up_ne (by decide)]
                show _ = st1 (f_lm F) (f_nl F) (b 0) i
                replace hi : i < f_nl F + 1 := hi
                unfold up st1
                by_cases em : i = f_nl F
                · rw [if_pos ⟨rfl, by omega⟩, if_pos em]
                · rw [if_neg (by omega), if_neg em]; exact r6 i (by omega)
              · rw [up_ne (by decide), up_ne (by decide), up_ne (by decide)]; exact r7
              · rw [up_ne (by decide), up_ne (by decide), up_ne (by decide)]; exact r8
              · rw [up_ne (by decide), up_ne (by decide), up_ne (by decide)]; exact g5 j hj
            · exact hno (fun hh => by omega)
  have d2 : ub (B pl) ≠ 108 := fun hh => c2 ((ub_eq hbb (by decide)).mp hh)
  by_cases c3 : B pl = 119
  · rw [(ub_eq hbb (by decide)).mpr c3]
    have eI : itemF B len pl F a = match rdN B len 3 3 (pl + 1) a with
      | none => none
      | some (q, b) => match t_w F (b 0) (b 1) (b 2) with
        | none => none
        | some F' => some (q, F', b) := by unfold itemF; rw [c3]; rfl
    rw [eI] at hR
    refine jr_lsw hF dX10_item_20 (by decide +kernel) 237 lsw5 (by decide) ?_
    have hf := hfig 3 (by decide)
    generalize hq : rdN B len 3 3 (pl + 1) a = o at hf hR
    refine jr_aload_n hF dX10_item_237 (q := 238) rfl rfl ?_
    refine jr_iconst hF dX10_item_238 (q := 239) rfl (by decide) ?_
    refine jr_cV1I hF (hf) dX10_item_239 (q := 242) rfl lk10_102 vX10_figures kX10_figures rfl rfl rfl (by decide) (Nat.le_of_ble_eq_true rfl) (fun z σ2 hz => ?_)
    obtain ⟨g1, g2⟩ := hz
    have hq2 := (hpu.tr g1).q
    have hC2 := (hC.pf (hpu.tr g1))
    cases o with
    | none =>
      dsimp only at g2
      subst g2
      refine jr_if_eq hF dX10_item_242 (q := 245) rfl 286 (by decide) (fun a1 => ?_) (fun a1 => ?_)
      · refine jr_iconst hF dX10_item_286 (q := 287) rfl (by decide) ?_
        refine jr_retZ hF hR dX10_item_287 rfl (by first | exact Or.inl rfl | exact Or.inr rfl | omega) ⟨hq2, rfl⟩
      · exact absurd rfl a1
    | some qb =>
      obtain ⟨q, b⟩ := qb
      dsimp only at g2 hR
      obtain ⟨rfl, g3, g4, g5⟩ := g2
      have hrg := rdN_rg 3 _ _ _ _ (Nat.le_refl _) (fun j hj => absurd hj (by omega)) hq
      have hr0 := hrg 0 (by decide)
      have hr1 := hrg 1 (by decide)
      have hr2 := hrg 2 (by decide)
      obtain ⟨r1, r2, r3, r4, r5, r6, r7, r8⟩ := hC2
      have e0 : σ2 86 0 = b 0 := g5 0 (by decide)
      have e1 : σ2 86 1 = b 1 := g5 1 (by decide)
      have e2 : σ2 86 2 = b 2 := g5 2 (by decide)
      have hno : ¬ (0 ≤ b 0 ∧ b 0 < f_nl F ∧ 0 ≤ b 1 ∧ b 1 < f_nm F ∧ 0 ≤ b 2 ∧ b 2 ≤ 10) → Gs X 286 [some (vR 73), some (vI 119)] [] σ2 := by
        intro hn
        have et : t_w F (b 0) (b 1) (b 2) = none := by unfold t_w; rw [if_neg hn]
        rw [et] at hR
        refine jr_iconst hF dX10_item_286 (q := 287) rfl (by decide) ?_
        refine jr_retZ hF hR dX10_item_287 rfl (by first | exact Or.inl rfl | exact Or.inr rfl | omega) ⟨hq2, rfl⟩
      refine jr_if_eq hF dX10_item_242 (q := 245) rfl 286 (by decide) (fun a1 => ?_) (fun a1 => ?_)
      · exact absurd a1 (by decide)
      · refine jr_aload_n hF dX10_item_245 (q := 246) rfl rfl ?_
        refine jr_getR (ci := 10) (j := 17) hF dX10_item_246 (q := 249) rfl rfl rfl fl10_46 ?_
        refine jr_iconst hF dX10_item_249 (q := 250) rfl (by decide) ?_
        refine jr_iald hF dX10_item_250 (q := 251) rfl rfl (by omega) ?_
        refine jr_aload_n hF dX10_item_251 (q := 252) rfl rfl ?_
        refine jr_getR (ci := 10) (j := 4) hF dX10_item_252 (q := 255) rfl rfl rfl fl10_19 ?_
        refine jr_iconst hF dX10_item_255 (q := 256) rfl (by decide) ?_
        refine jr_iald hF dX10_item_256 (q := 257) rfl rfl (by omega) ?_
        rw [e0, r2]
        refine jr_icmp_ge hF dX10_item_257 (q := 260) rfl 286 (by decide) (fun a2 => ?_) (fun a2 => ?_)
        · exact hno (fun hh => by omega)
        · refine jr_aload_n hF dX10_item_260 (q := 261) rfl rfl ?_
          refine jr_getR (ci := 10) (j := 17) hF dX10_item_261 (q := 264) rfl rfl rfl fl10_46 ?_
          refine jr_iconst hF dX10_item_264 (q := 265) rfl (by decide) ?_
          refine jr_iald hF dX10_item_265 (q := 266) rfl rfl (by omega) ?_
          refine jr_aload_n hF dX10_item_266 (q := 267) rfl rfl ?_
          refine jr_getR (ci := 10) (j := 2) hF dX10_item_267 (q := 270) rfl rfl rfl fl10_13 ?_
          refine jr_iconst hF dX10_item_270 (q := 271) rfl (by decide) ?_
          refine jr_iald hF dX10_item_271 (q := 272) rfl rfl (by omega) ?_
          rw [e1, r1]
          refine jr_icmp_ge hF dX10_item_272 (q := 275) rfl 286 (by decide) (fun a3 => ?_) (fun a3 => ?_)
          · exact hno (fun hh => by omega)
          · refine jr_aload_n hF dX10_item_275 (q := 276) rfl rfl ?_
            refine jr_getR (ci := 10) (j := 17) hF dX10_item_276 (q := 279) rfl rfl rfl fl10_46 ?_
            refine jr_iconst hF dX10_item_279 (q := 280) rfl (by decide) ?_
            refine jr_iald hF dX10_item_280 (q := 281) rfl rfl (by omega) ?_
            rw [e2]
            refine jr_bipush hF dX10_item_281 (q := 283) rfl (by decide) (by decide +kernel) ?_
            refine jr_icmp_le hF dX10_item_283 (q := 286) rfl 288 (by decide) (fun a4 => ?_) (fun a4 => ?_)
            · have et : t_w F (b 0) (b 1) (b 2) = some (f_nm F, f_nl F, f_rm F, f_kd F, st2 (f_wt F) (b 0).toNat (b 1).toNat (b 2), f_lm F, f_ca F, f_sp F) := by unfold t_w; rw [if_pos (by omega)]
              rw [et] at hR
              dsimp only at hR
              refine jr_aload_n hF dX10_item_288 (q := 289) rfl rfl ?_
              refine jr_getR (ci := 10) (j := 6) hF dX10_item_289 (q := 292) rfl rfl rfl fl10_25 ?_
              refine jr_bipush hF dX10_item_292 (q := 294) rfl (by decide) (by decide +kernel) ?_
              refine jr_iconst hF dX10_item_294 (q := 295) rfl (by decide) ?_
              refine jr_aload_n hF dX10_item_295 (q := 296) rfl rfl ?_
              refine jr_getR (ci := 10) (j := 17) hF dX10_item_296 (q := 299) rfl rfl rfl fl10_46 ?_
              refine jr_iconst hF dX10_item_299 (q := 300) rfl (by decide) ?_
              refine jr_iald hF dX10_item_300 (q := 301) rfl rfl (by omega) ?_
              rw [e0]
              refine jr_imul hF dX10_item_301 (q := 302) rfl (by omega) ?_
              refine jr_iadd hF dX10_item_302 (q := 303) rfl (by omega) ?_
              refine jr_aload_n hF dX10_item_303 (q := 304) rfl rfl ?_
              refine jr_getR (ci := 10) (j := 17) hF dX10_item_304 (q := 307) rfl rfl rfl fl10_46 ?_
              refine jr_iconst hF dX10_item_307 (q := 308) rfl (by decide) ?_
              refine jr_iald hF dX10_item_308 (q := 309) rfl rfl (by omega) ?_
              rw [e1]
              refine jr_iadd hF dX10_item_309 (q := 310) rfl (by omega) ?_
              refine jr_aload_n hF dX10_item_310 (q := 311) rfl rfl ?_
              refine jr_getR (ci := 10) (j := 17) hF dX10_item_311 (q := 314) rfl rfl rfl fl10_46 ?_
              refine jr_iconst hF dX10_item_314 (q := 315) rfl (by decide) ?_
              refine jr_iald hF dX10_item_315 (q := 316) rfl rfl (by omega) ?_
              rw [e2]
              refine jr_iast hF dX10_item_316 (q := 317) rfl rfl (by omega) ?_
              refine jr_iconst hF dX10_item_317 (q := 318) rfl (by decide) ?_
              refine jr_retZ hF hR dX10_item_318 rfl (Or.inr rfl) ⟨hq2.tr ?_, rfl, g3, ?_, ⟨?_, ?_, fun m hm => ?_, fun i hi => ?_, fun i m hi hm => ?_, fun i hi => ?_, ?_, ?_⟩, fun j hj => ?_⟩
              · refine ⟨fun k hk => by rw [up_ne (by omega)], fun j _ => by rw [up_ne (by decide)], fun j hj => by rw [up_ne (by decide), up_ne (by decide), up_ne (by decide), up_ne (by decide)]; exact ⟨rfl, rfl, rfl, rfl⟩, fun j _ => by rw [up_ne (by decide)], fun j _ => by rw [up_ne (by decide), up_ne (by decide)]; exact ⟨rfl, rfl⟩, fun j hj => ?_⟩
                unfold up
                rw [if_neg (by omega)]
              · rw [up_ne (by decide)]; exact g4
              · rw [up_ne (by decide)]; exact r1
              · rw [up_ne (by decide)]; exact r2
              · rw [up_ne (by decide)]; exact r3 m hm
              · rw [up_ne (by decide)]; exact r4 i hi
              · show _ = st2 (f_wt F) (b 0).toNat (b 1).toNat (b 2) i m
                unfold up st2
                by_cases em : i = (b 0).toNat ∧ m = (b 1).toNat
                · rw [if_pos ⟨rfl, by omega⟩, if_pos em]
                · rw [if_neg (by omega), if_neg em]; exact r5 i m hi hm
              · rw [up_ne (by decide)]; exact r6 i hi
              · rw [up_ne (by decide)]; exact r7
              · rw [up_ne (by decide)]; exact r8
              · rw [up_ne (by decide)]; exact g5 j hj
            · exact hno (fun hh => by omega)
  have d3 : ub (B pl) ≠ 119 := fun hh => c3 ((ub_eq hbb (by decide)).mp hh)
  by_cases c4 : B pl = 99
  · rw [(ub_eq hbb (by decide)).mpr c4]
    have eI : itemF B len pl F a = match rdN B len 1 1 (pl + 1) a with
      | none => none
      | some (q, b) => match t_c F (b 0) with
        | none => none
        | some F' => some (q, F', b) := by unfold itemF; rw [c4]; rfl
    rw [eI] at hR
    refine jr_lsw hF dX10_item_20 (by decide +kernel) 319 lsw5 (by decide) ?_
    have hf := hfig 1 (by decide)
    generalize hq : rdN B len 1 1 (pl + 1) a = o at hf hR
    refine jr_aload_n hF dX10_item_319 (q := 320) rfl rfl ?_
    refine jr_iconst hF dX10_item_320 (q := 321) rfl (by decide) ?_
    refine jr_cV1I hF (hf) dX10_item_321 (q := 324) rfl lk10_102 vX10_figures kX10_figures rfl rfl rfl (by decide) (Nat.le_of_ble_eq_true rfl) (fun z σ2 hz => ?_)
    obtain ⟨g1, g2⟩ := hz
    have hq2 := (hpu.tr g1).q
    have hC2 := (hC.pf (hpu.tr g1))
    cases o with
    | none =>
      dsimp only at g2
      subst g2
      refine jr_if_eq hF dX10_item_324 (q := 327) rfl 337 (by decide) (fun a1 => ?_) (fun a1 => ?_)
      · refine jr_iconst hF dX10_item_337 (q := 338) rfl (by decide) ?_
        refine jr_retZ hF hR dX10_item_338 rfl (by first | exact Or.inl rfl | exact Or.inr rfl | omega) ⟨hq2, rfl⟩
      · exact absurd rfl a1
    | some qb =>
      obtain ⟨q, b⟩ := qb
      dsimp only at g2 hR
      obtain ⟨rfl, g3, g4, g5⟩ := g2
      have hr0 := rdN_rg 1 _ _ _ _ (Nat.le_refl _) (fun j hj => absurd hj (by omega)) hq 0 (by decide)
      obtain ⟨r1, r2, r3, r4, r5, r6, r7, r8⟩ := hC2
      have e0 : σ2 86 0 = b 0 := g5 0 (by decide)
      refine jr_if_eq hF dX10_item_324 (q := 327) rfl 337 (by decide) (fun a1 => ?_) (fun a1 => ?_)
      · exact absurd a1 (by decide)
      · refine jr_aload_n hF dX10_item_327 (q := 328) rfl rfl ?_
        refine jr_getR (ci := 10) (j := 17) hF dX10_item_328 (q := 331) rfl rfl rfl fl10_46 ?_
        refine jr_iconst hF dX10_item_331 (q := 332) rfl (by decide) ?_
        refine jr_iald hF dX10_item_332 (q := 333) rfl rfl (by omega) ?_
        rw [e0]
        refine jr_iconst hF dX10_item_333 (q := 334) rfl (by decide) ?_
        refine jr_icmp_le hF dX10_item_334 (q := 337) rfl 339 (by decide) (fun a2 => ?_) (fun a2 => ?_)
        · have et : t_c F (b 0) = some (f_nm F, f_nl F, f_rm F, f_kd F, f_wt F, f_lm F, b 0, f_sp F) := by unfold t_c; rw [if_pos (by omega)]
          rw [et] at hR
          dsimp only at hR
          refine jr_aload_n hF dX10_item_339 (q := 340) rfl rfl ?_
          refine jr_getR (ci := 10) (j := 8) hF dX10_item_340 (q := 343) rfl rfl rfl fl10_31 ?_
          refine jr_iconst hF dX10_item_343 (q := 344) rfl (by decide) ?_
          refine jr_aload_n hF dX10_item_344 (q := 345) rfl rfl ?_
          refine jr_getR (ci := 10) (j := 17) hF dX10_item_345 (q := 348) rfl rfl rfl fl10_46 ?_
          refine jr_iconst hF dX10_item_348 (q := 349) rfl (by decide) ?_
          refine jr_iald hF dX10_item_349 (q := 350) rfl rfl (by omega) ?_
          rw [e0]
          refine jr_iast hF dX10_item_350 (q := 351) rfl rfl (by omega) ?_
          refine jr_iconst hF dX10_item_351 (q := 352) rfl (by decide) ?_
          refine jr_retZ hF hR dX10_item_352 rfl (Or.inr rfl) ⟨hq2.tr ?_, rfl, g3, ?_, ⟨?_, ?_, fun m hm => ?_, fun i hi => ?_, fun i m hi hm => ?_, fun i hi => ?_, ?_, ?_⟩, fun j hj => ?_⟩
          · refine ⟨fun k hk => by rw [up_ne (by omega)], fun j _ => by rw [up_ne (by decide)], fun j hj => ⟨?_, ?_, ?_, ?_⟩, fun j _ => by rw [up_ne (by decide)], fun j _ => by rw [up_ne (by decide), up_ne (by decide)]; exact ⟨rfl, rfl⟩, fun j hj => by rw [up_ne (by decide)]⟩
            · rw [up_ne (by decide)]
            · rw [up_ne (by decide)]
            · simp [up, hj]
            · rw [up_ne (by decide)]
          · rw [up_ne (by decide)]; exact g4
          · rw [up_ne (by decide)]; exact r1
          · rw [up_ne (by decide)]; exact r2
          · rw [up_ne (by decide)]; exact r3 m hm
          · rw [up_ne (by decide)]; exact r4 i hi
          · rw [up_ne (by decide)]; exact r5 i m hi hm
          · rw [up_ne (by decide)]; exact r6 i hi
          · simp [up]
          · rw [up_ne (by decide)]; exact r8
          · rw [up_ne (by decide)]; exact g5 j hj
        · have et : t_c F (b 0) = none := by unfold t_c; rw [if_neg (by omega)]
          rw [et] at hR
          refine jr_iconst hF dX10_item_337 (q := 338) rfl (by decide) ?_
          refine jr_retZ hF hR dX10_item_338 rfl (by first | exact Or.inl rfl | exact Or.inr rfl | omega) ⟨hq2, rfl⟩
  have d4 : ub (B pl) ≠ 99 := fun hh => c4 ((ub_eq hbb (by decide)).mp hh)
  by_cases c5 : B pl = 115
  · rw [(ub_eq hbb (by decide)).mpr c5]
    have eI : itemF B len pl F a = match rdN B len 1 1 (pl + 1) a with
      | none => none
      | some (q, b) => match t_s F (b 0) with
        | none => none
        | some F' => some (q, F', b) := by unfold itemF; rw [c5]; rfl
    rw [eI] at hR
    refine jr_lsw hF dX10_item_20 (by decide +kernel) 353 lsw5 (by decide) ?_
    have hf := hfig 1 (by decide)
    generalize hq : rdN B len 1 1 (pl + 1) a = o at hf hR
    refine jr_aload_n hF dX10_item_353 (q := 354) rfl rfl ?_
    refine jr_iconst hF dX10_item_354 (q := 355) rfl (by decide) ?_
    refine jr_cV1I hF (hf) dX10_item_355 (q := 358) rfl lk10_102 vX10_figures kX10_figures rfl rfl rfl (by decide) (Nat.le_of_ble_eq_true rfl) (fun z σ2 hz => ?_)
    obtain ⟨g1, g2⟩ := hz
    have hq2 := (hpu.tr g1).q
    have hC2 := (hC.pf (hpu.tr g1))
    cases o with
    | none =>
      dsimp only at g2
      subst g2
      refine jr_if_eq hF dX10_item_358 (q := 361) rfl 378 (by decide) (fun a1 => ?_) (fun a1 => ?_)
      · refine jr_iconst hF dX10_item_378 (q := 379) rfl (by decide) ?_
        refine jr_retZ hF hR dX10_item_379 rfl (by first | exact Or.inl rfl | exact Or.inr rfl | omega) ⟨hq2, rfl⟩
      · exact absurd rfl a1
    | some qb =>
      obtain ⟨q, b⟩ := qb
      dsimp only at g2 hR
      obtain ⟨rfl, g3, g4, g5⟩ := g2
      obtain ⟨r1, r2, r3, r4, r5, r6, r7, r8⟩ := hC2
      have e0 : σ2 86 0 = b 0 := g5 0 (by decide)
      refine jr_if_eq hF dX10_item_358 (q := 361) rfl 378 (by decide) (fun a1 => ?_) (fun a1 => ?_)
      · exact absurd a1 (by decide)
      · refine jr_aload_n hF dX10_item_361 (q := 362) rfl rfl ?_
        refine jr_getR (ci := 10) (j := 17) hF dX10_item_362 (q := 365) rfl rfl rfl fl10_46 ?_
        refine jr_iconst hF dX10_item_365 (q := 366) rfl (by decide) ?_
        refine jr_iald hF dX10_item_366 (q := 367) rfl rfl (by omega) ?_
        rw [e0]
        refine jr_i2l hF dX10_item_367 (q := 368) rfl ?_
        refine jr_lconst hF 1 dX10_item_368 (q := 369) rfl (by decide) (by decide +kernel) ?_
        refine jr_ldc2 hF 3 dX10_item_369 (q := 372) rfl kl10_106 (by decide) (by decide +kernel) ?_
        refine jr_cS3I hF (m_in σ2 (b 0) 1 3) dX10_item_372 (q := 375) rfl lk10_79 vX10_in kX10_in (by decide) (Nat.le_of_ble_eq_true rfl) (fun z σ3 hz => ?_)
        obtain ⟨rfl, rfl⟩ := hz
        refine jr_if_ne hF dX10_item_375 (q := 378) rfl 380 (by decide) (fun a2 => ?_) (fun a2 => ?_)
        · have b2 : 1 ≤ b 0 ∧ b 0 ≤ 3 := Classical.byContradiction fun hh => a2 (by rw [if_neg hh])
          have et : t_s F (b 0) = some (f_nm F, f_nl F, f_rm F, f_kd F, f_wt F, f_lm F, f_ca F, b 0) := by unfold t_s; rw [if_pos b2]
          rw [et] at hR
          dsimp only at hR
          refine jr_aload_n hF dX10_item_380 (q := 381) rfl rfl ?_
          refine jr_getR (ci := 10) (j := 9) hF dX10_item_381 (q := 384) rfl rfl rfl fl10_34 ?_
          refine jr_iconst hF dX10_item_384 (q := 385) rfl (by decide) ?_
          refine jr_aload_n hF dX10_item_385 (q := 386) rfl rfl ?_
          refine jr_getR (ci := 10) (j := 17) hF dX10_item_386 (q := 389) rfl rfl rfl fl10_46 ?_
          refine jr_iconst hF dX10_item_389 (q := 390) rfl (by decide) ?_
          refine jr_iald hF dX10_item_390 (q := 391) rfl rfl (by omega) ?_
          rw [e0]
          refine jr_iast hF dX10_item_391 (q := 392) rfl rfl (by omega) ?_
          refine jr_iconst hF dX10_item_392 (q := 393) rfl (by decide) ?_
          refine jr_retZ hF hR dX10_item_393 rfl (Or.inr rfl) ⟨hq2.tr ?_, rfl, g3, ?_, ⟨?_, ?_, fun m hm => ?_, fun i hi => ?_, fun i m hi hm => ?_, fun i hi => ?_, ?_, ?_⟩, fun j hj => ?_⟩
          · refine ⟨fun k hk => by rw [up_ne (by omega)], fun j _ => by rw [up_ne (by decide)], fun j hj => ⟨?_, ?_, ?_, ?_⟩, fun j _ => by rw [up_ne (by decide)], fun j _ => by rw [up_ne (by decide), up_ne (by decide)]; exact ⟨rfl, rfl⟩, fun j hj => by rw [up_ne (by decide)]⟩
            · rw [up_ne (by decide)]
            · rw [up_ne (by decide)]
            · rw [up_ne (by decide)]
            · simp [up, hj]
          · rw [up_ne (by decide)]; exact g4
          · rw [up_ne (by decide)]; exact r1
          · rw [up_ne (by decide)]; exact r2
          · rw [up_ne (by decide)]; exact r3 m hm
          · rw [up_ne (by decide)]; exact r4 i hi
          · rw [up_ne (by decide)]; exact r5 i m hi hm
          · rw [up_ne (by decide)]; exact r6 i hi
          · rw [up_ne (by decide)]; exact r7
          · simp [up]
          · rw [up_ne (by decide)]; exact g5 j hj
        · have b2 : ¬ (1 ≤ b 0 ∧ b 0 ≤ 3) := fun hh => by rw [if_pos hh] at a2; omega
          have et : t_s F (b 0) = none := by unfold t_s; rw [if_neg b2]
          rw [et] at hR
          refine jr_iconst hF dX10_item_378 (q := 379) rfl (by decide) ?_
          refine jr_retZ hF hR dX10_item_379 rfl (by first | exact Or.inl rfl | exact Or.inr rfl | omega) ⟨hq2, rfl⟩
  have d5 : ub (B pl) ≠ 115 := fun hh => c5 ((ub_eq hbb (by decide)).mp hh)
  refine jr_lsw hF dX10_item_20 (by decide +kernel) 394 (lsw5.trans (by rw [if_neg (Ne.symm d4), if_neg (Ne.symm d2), if_neg (Ne.symm d1), if_neg (Ne.symm d5), if_neg (Ne.symm d3)])) (by decide) ?_
  have eI : itemF B len pl F a = none := by
    have e1 : tellF F (B pl) = fun _ => none := by
      funext x
      unfold tellF
      rw [if_neg c1, if_neg c2, if_neg c3, if_neg c4, if_neg c5]
    unfold itemF
    rw [e1]
    split <;> rfl
  rw [eI] at hR
  refine jr_iconst hF dX10_item_394 (q := 395) rfl (by decide) ?_
  refine jr_retZ hF hR dX10_item_395 rfl (by first | exact Or.inl rfl | exact Or.inr rfl | omega) ⟨hpu.q, rfl⟩

