/-! ===== the reference: the text ===== -/
def bt (B : Nat → Int) (len k : Nat) : Int := if k < len then ub (B k) else 0
def bOK (B : Nat → Int) (len : Nat) : Prop := ∀ k, k < len → -128 ≤ B k ∧ B k ≤ 127
theorem bt_dg {B : Nat → Int} {len : Nat} (h : bOK B len) (k : Nat) : (48 ≤ bt B len k ∧ bt B len k ≤ 57) ↔ dgb B len k = true := by
  unfold dgb bt ub
  rw [decide_eq_true_iff]
  by_cases hk : k < len
  · have := h k hk
    rw [if_pos hk]
    split <;> omega
  · rw [if_neg hk]
    omega
theorem bt_eq {B : Nat → Int} {len : Nat} {k : Nat} (h : dgb B len k = true) : bt B len k = B k ∧ 48 ≤ B k ∧ B k ≤ 57 ∧ k < len := by
  unfold dgb at h
  have := of_decide_eq_true h
  unfold bt ub
  rw [if_pos this.1, if_neg (by omega)]
  omega
theorem bt_sg {B : Nat → Int} {len : Nat} (h : bOK B len) (k : Nat) {v : Int} (hv : 0 < v ∧ v < 128) : bt B len k = v ↔ sgb B len k v = true := by
  unfold sgb bt ub
  rw [decide_eq_true_iff]
  by_cases hk : k < len
  · have := h k hk
    rw [if_pos hk]
    split <;> omega
  · rw [if_neg hk]
    omega
set_option maxRecDepth 100000 in
theorem m_byteAt (σ : Sg) (B : Nat → Int) (len : Nat) (hT : TxM σ B len) (h3 : len ≤ 300) (k : Nat) : RI mX10_byteAt 1 [vR 73, vI (k : Int)] σ (fun z σ' => z = bt B len k ∧ σ = σ') := by
  obtain ⟨t1, t2⟩ := hT
  refine mkRun (by decide +kernel) (Nat.le_of_ble_eq_true rfl) (fun X hF hR => ?_)
  refine jr_iload_n hF dX10_byteAt_0 (q := 1) rfl rfl ?_
  refine jr_aload_n hF dX10_byteAt_1 (q := 2) rfl rfl ?_
  refine jr_getI (ci := 10) (j := 0) hF 0 rfl dX10_byteAt_2 (q := 5) rfl rfl rfl fl10_83 ?_
  rw [t1]
  refine jr_icmp_ge hF dX10_byteAt_5 (q := 8) rfl 17 (by decide) (fun a1 => ?_) (fun a1 => ?_)
  · refine jr_iconst hF dX10_byteAt_17 (q := 18) rfl (by decide) ?_
    refine jr_retI hF hR dX10_byteAt_18 rfl ⟨by unfold bt; rw [if_neg (by omega)], rfl⟩
  · refine jr_aload_n hF dX10_byteAt_8 (q := 9) rfl rfl ?_
    refine jr_getR (ci := 10) (j := 1) hF dX10_byteAt_9 (q := 12) rfl rfl rfl fl10_7 ?_
    refine jr_iload_n hF dX10_byteAt_12 (q := 13) rfl rfl ?_
    refine jr_iald hF dX10_byteAt_13 (q := 14) rfl rfl (by omega) ?_
    rw [t2 k (by omega)]
    refine jr_goto hF dX10_byteAt_14 18 (by decide) ?_
    refine jr_retI hF hR dX10_byteAt_18 rfl ⟨by unfold bt; rw [if_pos (by omega)], rfl⟩
/-- only the place and what was told changed -/
def PFr (σ σ' : Sg) : Prop := (∀ k, k ≠ 73 → k ≠ 86 → σ' k = σ k) ∧ ∀ j, j ≠ 16 → σ' 73 j = σ 73 j
theorem PFr.rf (σ : Sg) : PFr σ σ := ⟨fun _ _ _ => rfl, fun _ _ => rfl⟩
theorem PFr.tr {a b c : Sg} (h : PFr a b) (h2 : PFr b c) : PFr a c := ⟨fun k h1 h3 => by rw [h2.1 k h1 h3]; exact h.1 k h1 h3, fun j hj => by rw [h2.2 j hj]; exact h.2 j hj⟩
theorem PFr.pl {a b : Sg} (h : PFr a b) (v : Int) : PFr a (up b 73 16 v) := ⟨fun k h1 h3 => by rw [up_ne h1]; exact h.1 k h1 h3, fun j hj => by
  have : up b 73 16 v 73 j = b 73 j := by unfold up; rw [if_neg (by omega)]
  rw [this]; exact h.2 j hj⟩
theorem TxM.pf {σ σ' : Sg} {B : Nat → Int} {len : Nat} (h : TxM σ B len) (hf : PFr σ σ') : TxM σ' B len := ⟨by rw [hf.2 0 (by decide)]; exact h.1, fun k hk => by rw [hf.1 74 (by decide) (by decide)]; exact h.2 k hk⟩
set_option maxRecDepth 100000 in
theorem m_figures (σ : Sg) (B : Nat → Int) (len : Nat) (hT : TxM σ B len) (h3 : len ≤ 300) (hB : bOK B len) (n : Nat) (hn : 1 ≤ n ∧ n ≤ 3) (pl : Nat) (hpl : pl ≤ len) (hp : σ 73 16 = (pl : Int)) (a : Nat → Int) (ha : ∀ j : Nat, j < 3 → σ 86 (j : Int) = a j) : RI mX10_figures 2 [vR 73, vI (n : Int)] σ (fun z σ' => PFr σ σ' ∧ match rdN B len n n pl a with
    | none => z = 0
    | some (q, b) => z = 1 ∧ q ≤ len ∧ σ' 73 16 = (q : Int) ∧ ∀ j : Nat, j < 3 → σ' 86 (j : Int) = b j) := by
  refine mkRun (by decide +kernel) (Nat.le_of_ble_eq_true rfl) (fun X hF hR => ?_)
  refine jr_iconst hF dX10_figures_0 (q := 1) rfl (by decide) ?_
  refine jr_istore_n hF dX10_figures_1 (q := 2) rfl (by decide) rfl ?_
  refine gs_loop (α := Sg × Nat × (Nat → Int)) (fun k _ => [some (vR 73), some (vI (n : Int)), some (vI (k : Int)), none, none]) (fun s => s.1) (fun k s => PFr σ s.1 ∧ s.2.1 ≤ len ∧ s.1 73 16 = (s.2.1 : Int) ∧ (∀ j : Nat, j < 3 → s.1 86 (j : Int) = s.2.2 j) ∧ rdN B len n (n - k) s.2.1 s.2.2 = rdN B len n n pl a) n (fun s h1 => ?_) (fun k s hk h1 ih => ?_) (σ, pl, a) ⟨PFr.rf σ, hpl, hp, ha, rfl⟩
  · obtain ⟨σ1, p, b⟩ := s
    obtain ⟨i1, i2, i3, i4, i5⟩ := h1
    dsimp only at i1 i2 i3 i4 i5 ⊢
    rw [Nat.sub_self] at i5
    rw [← i5] at hR
    refine jr_iload_n hF dX10_figures_2 (q := 3) rfl rfl ?_
    refine jr_iload_n hF dX10_figures_3 (q := 4) rfl rfl ?_
    refine jr_icmp_ge hF dX10_figures_4 (q := 7) rfl 136 (by decide) (fun a1 => ?_) (fun a1 => ?_)
    · refine jr_iconst hF dX10_figures_136 (q := 137) rfl (by decide) ?_
      refine jr_retZ hF hR dX10_figures_137 rfl (by first | exact Or.inl rfl | exact Or.inr rfl | omega) ⟨i1, rfl, i2, i3, i4⟩
    · omega
  · obtain ⟨σ1, p, b⟩ := s
    obtain ⟨i1, i2, i3, i4, i5⟩ := h1
    dsimp only at i1 i2 i3 i4 i5 ⊢
    obtain ⟨r, er⟩ : ∃ r, n - k = r + 1 := ⟨n - k - 1, by omega⟩
    rw [er] at i5
    have e0 : rdN B len n (r + 1) p b = if nfig B len p = 0 then none else if sgb B len (p + nfig B len p) (if r = 0 then 59 else 44) = true then rdN B len n r (p + nfig B len p + 1) (st1 b (n - (r + 1)) (nval B p (nfig B len p))) else none := rfl
    rw [e0] at i5
    have hfalse : ∀ (σ2 : Sg) (l3 l4 : Option PV), PFr σ σ2 → rdN B len n n pl a = none → Gs X 110 [some (vR 73), some (vI (n : Int)), some (vI (k : Int)), none, none] [] σ2 := by
      intro σ2 _ _ h2 hno
      rw [hno] at hR
      refine jr_iconst hF dX10_figures_110 (q := 111) rfl (by decide) ?_
      refine jr_retZ hF hR dX10_figures_111 rfl (by first | exact Or.inl rfl | exact Or.inr rfl | omega) ⟨h2, rfl⟩
    have hstop : ∀ (f : Nat) (v : Int) (q : Nat) (σ2 : Sg), PFr σ σ2 → σ2 73 16 = (q : Int) → (dgb B len q = false ∨ f = 3) → f ≤ 3 → Gs X 73 [some (vR 73), some (vI (n : Int)), some (vI (k : Int)), some (vI (f : Int)), some (vI v)] [] σ2 → Gs X 12 [some (vR 73), some (vI (n : Int)), some (vI (k : Int)), some (vI (f : Int)), some (vI v)] [] σ2 := by
      intro f v q σ2 h2 hq hd hf3 hnext
      refine jr_aload_n hF dX10_figures_12 (q := 13) rfl rfl ?_
      refine jr_aload_n hF dX10_figures_13 (q := 14) rfl rfl ?_
      refine jr_getI (ci := 10) (j := 16) hF 16 rfl dX10_figures_14 (q := 17) rfl rfl rfl fl10_89 ?_
      rw [hq]
      refine jr_cV1I hF (m_byteAt σ2 B len (hT.pf h2) h3 q) dX10_figures_17 (q := 20) rfl lk10_92 vX10_byteAt kX10_byteAt rfl rfl rfl (by decide) (Nat.le_of_ble_eq_true rfl) (fun z σ3 hz => ?_)
      obtain ⟨rfl, rfl⟩ := hz
      refine jr_i2l hF dX10_figures_20 (q := 21) rfl ?_
      refine jr_ldc2 hF 48 dX10_figures_21 (q := 24) rfl kl10_96 (by decide) (by decide +kernel) ?_
      refine jr_ldc2 hF 57 dX10_figures_24 (q := 27) rfl kl10_98 (by decide) (by decide +kernel) ?_
      refine jr_cS3I hF (m_in σ2 (bt B len q) 48 57) dX10_figures_27 (q := 30) rfl lk10_79 vX10_in kX10_in (by decide) (Nat.le_of_ble_eq_true rfl) (fun z σ3 hz => ?_)
      obtain ⟨rfl, rfl⟩ := hz
      refine jr_if_eq hF dX10_figures_30 (q := 33) rfl 73 (by decide) (fun a2 => ?_) (fun a2 => ?_)
      · exact hnext
      · have hdt : dgb B len q = true := (bt_dg hB q).mp (Classical.byContradiction fun hh => a2 (by rw [if_neg hh]))
        have e3 : f = 3 := hd.resolve_left (by rw [hdt]; decide)
        refine jr_iload_n hF dX10_figures_33 (q := 34) rfl rfl ?_
        refine jr_iconst hF dX10_figures_34 (q := 35) rfl (by decide) ?_
        refine jr_icmp_ge hF dX10_figures_35 (q := 38) rfl 73 (by decide) (fun a3 => ?_) (fun a3 => ?_)
        · exact hnext
        · omega
    have hstep : ∀ (f : Nat) (v : Int) (q : Nat) (σ2 : Sg), PFr σ σ2 → σ2 73 16 = (q : Int) → dgb B len q = true → f < 3 → (0 ≤ v ∧ v ≤ 99) → Gs X 12 [some (vR 73), some (vI (n : Int)), some (vI (k : Int)), some (vI ((f + 1 : Nat) : Int)), some (vI (10 * v + B q - 48))] [] (up σ2 73 16 ((q + 1 : Nat) : Int)) → Gs X 12 [some (vR 73), some (vI (n : Int)), some (vI (k : Int)), some (vI (f : Int)), some (vI v)] [] σ2 := by
      intro f v q σ2 h2 hq hd hf3 hv hnext
      obtain ⟨d1, d2, d3, d4⟩ := bt_eq hd
      have hin := (bt_dg hB q).mpr hd
      refine jr_aload_n hF dX10_figures_12 (q := 13) rfl rfl ?_
      refine jr_aload_n hF dX10_figures_13 (q := 14) rfl rfl ?_
      refine jr_getI (ci := 10) (j := 16) hF 16 rfl dX10_figures_14 (q := 17) rfl rfl rfl fl10_89 ?_
      rw [hq]
      refine jr_cV1I hF (m_byteAt σ2 B len (hT.pf h2) h3 q) dX10_figures_17 (q := 20) rfl lk10_92 vX10_byteAt kX10_byteAt rfl rfl rfl (by decide) (Nat.le_of_ble_eq_true rfl) (fun z σ3 hz => ?_)
      obtain ⟨rfl, rfl⟩ := hz
      refine jr_i2l hF dX10_figures_20 (q := 21) rfl ?_
      refine jr_ldc2 hF 48 dX10_figures_21 (q := 24) rfl kl10_96 (by decide) (by decide +kernel) ?_
      refine jr_ldc2 hF 57 dX10_figures_24 (q := 27) rfl kl10_98 (by decide) (by decide +kernel) ?_
      refine jr_cS3I hF (m_in σ2 (bt B len q) 48 57) dX10_figures_27 (q := 30) rfl lk10_79 vX10_in kX10_in (by decide) (Nat.le_of_ble_eq_true rfl) (fun z σ3 hz => ?_)
      obtain ⟨rfl, rfl⟩ := hz
      rw [if_pos hin]
      refine jr_if_eq hF dX10_figures_30 (q := 33) rfl 73 (by decide) (fun a2 => ?_) (fun a2 => ?_)
      · exact absurd a2 (by decide)
      · refine jr_iload_n hF dX10_figures_33 (q := 34) rfl rfl ?_
        refine jr_iconst hF dX10_figures_34 (q := 35) rfl (by decide) ?_
        refine jr_icmp_ge hF dX10_figures_35 (q := 38) rfl 73 (by decide) (fun a3 => ?_) (fun a3 => ?_)
        · omega
        · refine jr_bipush hF dX10_figures_38 (q := 40) rfl (by decide) (by decide +kernel) ?_
          refine jr_iload hF dX10_figures_40 (q := 42) rfl rfl ?_
          refine jr_imul hF dX10_figures_42 (q := 43) rfl (by omega) ?_
          refine jr_aload_n hF dX10_figures_43 (q := 44) rfl rfl ?_
          refine jr_aload_n hF dX10_figures_44 (q := 45) rfl rfl ?_
          refine jr_getI (ci := 10) (j := 16) hF 16 rfl dX10_figures_45 (q := 48) rfl rfl rfl fl10_89 ?_
          rw [hq]
          refine jr_cV1I hF (m_byteAt σ2 B len (hT.pf h2) h3 q) dX10_figures_48 (q := 51) rfl lk10_92 vX10_byteAt kX10_byteAt rfl rfl rfl (by decide) (Nat.le_of_ble_eq_true rfl) (fun z σ3 hz => ?_)
          obtain ⟨rfl, rfl⟩ := hz
          rw [d1]
          refine jr_iadd hF dX10_figures_51 (q := 52) rfl (by omega) ?_
          refine jr_bipush hF dX10_figures_52 (q := 54) rfl (by decide) (by decide +kernel) ?_
          refine jr_isub hF dX10_figures_54 (q := 55) rfl (by omega) ?_
          refine jr_istore hF dX10_figures_55 (q := 57) rfl (by decide) rfl ?_
          refine jr_iinc hF dX10_figures_57 (q := 60) rfl (by decide) rfl rfl (by omega) ?_
          refine jr_aload_n hF dX10_figures_60 (q := 61) rfl rfl ?_
          refine jr_dup hF dX10_figures_61 (q := 62) rfl rfl ?_
          refine jr_getI (ci := 10) (j := 16) hF 16 rfl dX10_figures_62 (q := 65) rfl rfl rfl fl10_89 ?_
          rw [hq]
          refine jr_iconst hF dX10_figures_65 (q := 66) rfl (by decide) ?_
          refine jr_iadd hF dX10_figures_66 (q := 67) rfl (by omega) ?_
          rw [show (q : Int) + 1 = ((q + 1 : Nat) : Int) by omega]
          refine jr_putI (ci := 10) (j := 16) hF 16 rfl dX10_figures_67 (q := 70) rfl rfl rfl fp10_89 ?_
          refine jr_goto hF dX10_figures_70 12 (by decide) ?_
          exact hnext
    have hend : ∀ (f : Nat) (v : Int) (q : Nat) (σ2 : Sg), PFr σ σ2 → (∀ j : Nat, j < 3 → σ2 86 (j : Int) = b j) → σ2 73 16 = (q : Int) → (f = 1 ∨ f = 2) → nfig B len p = f → q = p + f → v = nval B p f → Gs X 73 [some (vR 73), some (vI (n : Int)), some (vI (k : Int)), some (vI (f : Int)), some (vI v)] [] σ2 := by
      intro f v q σ2 h2 hb hq hf hnf hqe hv
      rw [hnf, if_neg (by omega), ← hqe, ← hv] at i5
      refine jr_iload_n hF dX10_figures_73 (q := 74) rfl rfl ?_
      refine jr_i2l hF dX10_figures_74 (q := 75) rfl ?_
      refine jr_lconst hF 1 dX10_figures_75 (q := 76) rfl (by decide) (by decide +kernel) ?_
      refine jr_ldc2 hF 2 dX10_figures_76 (q := 79) rfl kl10_100 (by decide) (by decide +kernel) ?_
      refine jr_cS3I hF (m_in σ2 (f : Int) 1 2) dX10_figures_79 (q := 82) rfl lk10_79 vX10_in kX10_in (by decide) (Nat.le_of_ble_eq_true rfl) (fun z σ3 hz => ?_)
      obtain ⟨rfl, rfl⟩ := hz
      rw [if_pos (by omega)]
      refine jr_if_eq hF dX10_figures_82 (q := 85) rfl 110 (by decide) (fun a2 => ?_) (fun a2 => ?_)
      · exact absurd a2 (by decide)
      · refine jr_aload_n hF dX10_figures_85 (q := 86) rfl rfl ?_
        refine jr_aload_n hF dX10_figures_86 (q := 87) rfl rfl ?_
        refine jr_getI (ci := 10) (j := 16) hF 16 rfl dX10_figures_87 (q := 90) rfl rfl rfl fl10_89 ?_
        rw [hq]
        refine jr_cV1I hF (m_byteAt σ2 B len (hT.pf h2) h3 q) dX10_figures_90 (q := 93) rfl lk10_92 vX10_byteAt kX10_byteAt rfl rfl rfl (by decide) (Nat.le_of_ble_eq_true rfl) (fun z σ3 hz => ?_)
        obtain ⟨rfl, rfl⟩ := hz
        have hfin : ∀ s : Int, s = (if r = 0 then 59 else 44) → Gs X 107 [some (vR 73), some (vI (n : Int)), some (vI (k : Int)), some (vI (f : Int)), some (vI v)] [vI s, vI (bt B len q)] σ2 := by
          intro s hs
          rw [← hs] at i5
          have hs2 : 0 < s ∧ s < 128 := by rw [hs]; split <;> omega
          have hsg := bt_sg hB q hs2
          refine jr_icmp_eq hF dX10_figures_107 (q := 110) rfl 112 (by decide) (fun a3 => ?_) (fun a3 => ?_)
          · rw [if_pos (hsg.mp a3)] at i5
            have hql : q < len := by
              have := hsg.mp a3
              unfold sgb at this
              exact (of_decide_eq_true this).1
            have hu : PFr σ2 (up σ2 86 (k : Int) v) := ⟨fun c n1 n2 => up_ne n2, fun j _ => by rw [up_ne (by decide)]⟩
            have ih1 := ih (up (up σ2 86 (k : Int) v) 73 16 ((q + 1 : Nat) : Int), q + 1, st1 b k v) ⟨(h2.tr hu).pl _, by show q + 1 ≤ len; omega, by show up (up σ2 86 (k : Int) v) 73 16 ((q + 1 : Nat) : Int) 73 16 = ((q + 1 : Nat) : Int); simp [up], fun j hj => by
              show up (up σ2 86 (k : Int) v) 73 16 ((q + 1 : Nat) : Int) 86 (j : Int) = st1 b k v j
              rw [up_ne (by decide), up_nat, hb j hj]
              rfl, by
              show rdN B len n (n - (k + 1)) (q + 1) (st1 b k v) = _
              rw [show n - (r + 1) = k by omega] at i5
              rw [show n - (k + 1) = r by omega]
              exact i5⟩
            dsimp only at ih1
            refine jr_aload_n hF dX10_figures_112 (q := 113) rfl rfl ?_
            refine jr_getR (ci := 10) (j := 17) hF dX10_figures_113 (q := 116) rfl rfl rfl fl10_46 ?_
            refine jr_iload_n hF dX10_figures_116 (q := 117) rfl rfl ?_
            refine jr_iload hF dX10_figures_117 (q := 119) rfl rfl ?_
            refine jr_iast hF dX10_figures_119 (q := 120) rfl rfl (by omega) ?_
            refine jr_aload_n hF dX10_figures_120 (q := 121) rfl rfl ?_
            refine jr_dup hF dX10_figures_121 (q := 122) rfl rfl ?_
            refine jr_getI (ci := 10) (j := 16) hF 16 rfl dX10_figures_122 (q := 125) rfl rfl rfl fl10_89 ?_
            rw [up_ne (show (73 : Nat) ≠ 86 by decide), hq]
            refine jr_iconst hF dX10_figures_125 (q := 126) rfl (by decide) ?_
            refine jr_iadd hF dX10_figures_126 (q := 127) rfl (by omega) ?_
            rw [show (q : Int) + 1 = ((q + 1 : Nat) : Int) by omega]
            refine jr_fg 3 (jr_fg 4 ?_)
            refine jr_putI (ci := 10) (j := 16) hF 16 rfl dX10_figures_127 (q := 130) rfl rfl rfl fp10_89 ?_
            refine jr_iinc hF dX10_figures_130 (q := 133) rfl (by decide) rfl rfl (by omega) ?_
            refine jr_goto hF dX10_figures_133 2 (by decide) ?_
            exact ih1
          · rw [if_neg (fun hh => a3 (hsg.mpr hh))] at i5
            refine jr_fg 3 (jr_fg 4 ?_)
            exact hfalse σ2 none none h2 i5.symm
        refine jr_iload_n hF dX10_figures_93 (q := 94) rfl rfl ?_
        refine jr_iload_n hF dX10_figures_94 (q := 95) rfl rfl ?_
        refine jr_iconst hF dX10_figures_95 (q := 96) rfl (by decide) ?_
        refine jr_isub hF dX10_figures_96 (q := 97) rfl (by omega) ?_
        refine jr_icmp_ge hF dX10_figures_97 (q := 100) rfl 105 (by decide) (fun a4 => ?_) (fun a4 => ?_)
        · refine jr_bipush hF dX10_figures_105 (q := 107) rfl (by decide) (by decide +kernel) ?_
          exact hfin _ (by rw [if_pos (by omega)])
        · refine jr_bipush hF dX10_figures_100 (q := 102) rfl (by decide) (by decide +kernel) ?_
          refine jr_goto hF dX10_figures_102 107 (by decide) ?_
          exact hfin _ (by rw [if_neg (by omega)])
    have hbadf : ∀ (f : Nat) (v : Int) (σ2 : Sg), PFr σ σ2 → (f = 0 ∨ f = 3) → rdN B len n n pl a = none → Gs X 73 [some (vR 73), some (vI (n : Int)), some (vI (k : Int)), some (vI (f : Int)), some (vI v)] [] σ2 := by
      intro f v σ2 h2 hf hno
      refine jr_iload_n hF dX10_figures_73 (q := 74) rfl rfl ?_
      refine jr_i2l hF dX10_figures_74 (q := 75) rfl ?_
      refine jr_lconst hF 1 dX10_figures_75 (q := 76) rfl (by decide) (by decide +kernel) ?_
      refine jr_ldc2 hF 2 dX10_figures_76 (q := 79) rfl kl10_100 (by decide) (by decide +kernel) ?_
      refine jr_cS3I hF (m_in σ2 (f : Int) 1 2) dX10_figures_79 (q := 82) rfl lk10_79 vX10_in kX10_in (by decide) (Nat.le_of_ble_eq_true rfl) (fun z σ3 hz => ?_)
      obtain ⟨rfl, rfl⟩ := hz
      rw [if_neg (by omega)]
      refine jr_if_eq hF dX10_figures_82 (q := 85) rfl 110 (by decide) (fun a2 => ?_) (fun a2 => ?_)
      · refine jr_fg 3 (jr_fg 4 ?_)
        exact hfalse σ2 none none h2 hno
      · exact absurd rfl a2
    refine jr_iload_n hF dX10_figures_2 (q := 3) rfl rfl ?_
    refine jr_iload_n hF dX10_figures_3 (q := 4) rfl rfl ?_
    refine jr_icmp_ge hF dX10_figures_4 (q := 7) rfl 136 (by decide) (fun a1 => ?_) (fun a1 => ?_)
    · omega
    · refine jr_iconst hF dX10_figures_7 (q := 8) rfl (by decide) ?_
      refine jr_istore_n hF dX10_figures_8 (q := 9) rfl (by decide) rfl ?_
      refine jr_iconst hF dX10_figures_9 (q := 10) rfl (by decide) ?_
      refine jr_istore hF dX10_figures_10 (q := 12) rfl (by decide) rfl ?_
      have u1 : PFr σ (up σ1 73 16 ((p + 1 : Nat) : Int)) := i1.pl _
      have u2 : PFr σ (up (up σ1 73 16 ((p + 1 : Nat) : Int)) 73 16 ((p + 1 + 1 : Nat) : Int)) := u1.pl _
      have u3 : PFr σ (up (up (up σ1 73 16 ((p + 1 : Nat) : Int)) 73 16 ((p + 1 + 1 : Nat) : Int)) 73 16 ((p + 1 + 1 + 1 : Nat) : Int)) := u2.pl _
      by_cases g1 : dgb B len p = true
      · have q1 := bt_eq g1
        refine hstep 0 0 p σ1 i1 i3 g1 (by decide) (by decide) ?_
        by_cases g2 : dgb B len (p + 1) = true
        · have q2 := bt_eq g2
          have hnf : nfig B len p = 2 := by unfold nfig; rw [if_pos g1, if_pos g2]
          refine hstep 1 (10 * 0 + B p - 48) (p + 1) _ u1 (by simp [up]) g2 (by decide) (by omega) ?_
          by_cases g3 : dgb B len (p + 1 + 1) = true
          · have q3 := bt_eq g3
            refine hstep 2 (10 * (10 * 0 + B p - 48) + B (p + 1) - 48) (p + 1 + 1) _ u2 (by simp [up]) g3 (by decide) (by omega) ?_
            refine hstop 3 _ (p + 1 + 1 + 1) _ u3 (by simp [up]) (Or.inr rfl) (by decide) ?_
            refine hbadf 3 _ _ u3 (Or.inr rfl) ?_
            rw [← i5, hnf, if_neg (by decide), if_neg]
            intro hh
            unfold sgb at hh
            have := (of_decide_eq_true hh).2
            have e : p + 2 = p + 1 + 1 := rfl
            rw [e] at this
            split at this <;> omega
          · refine hstop 2 _ (p + 1 + 1) _ u2 (by simp [up]) (Or.inl (by simpa using g3)) (by decide) ?_
            refine hend 2 _ (p + 1 + 1) _ u2 (fun j hj => by rw [up_ne (by decide), up_ne (by decide)]; exact i4 j hj) (by simp [up]) (Or.inr rfl) hnf rfl ?_
            unfold nval
            rw [if_pos rfl]
            omega
        · have hnf : nfig B len p = 1 := by unfold nfig; rw [if_pos g1, if_neg g2]
          refine hstop 1 _ (p + 1) _ u1 (by simp [up]) (Or.inl (by simpa using g2)) (by decide) ?_
          refine hend 1 _ (p + 1) _ u1 (fun j hj => by rw [up_ne (by decide)]; exact i4 j hj) (by simp [up]) (Or.inl rfl) hnf rfl ?_
          unfold nval
          rw [if_neg (by decide)]
          omega
      · have hnf : nfig B len p = 0 := by unfold nfig; rw [if_neg g1]
        refine hstop 0 0 p σ1 i1 i3 (Or.inl (by simpa using g1)) (by decide) ?_
        refine hbadf 0 _ _ i1 (Or.inl rfl) ?_
        rw [← i5, hnf, if_pos rfl]

