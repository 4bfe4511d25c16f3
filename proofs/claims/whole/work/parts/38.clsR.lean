/-! ===== the class's calls: lies, games, years at rest, joint, pay, cousins, spans, years by draws ===== -/
def g_l (F : FD) (i : Nat) (l : Int) : Int := f_gn (f_lim F i l) (f_fair (f_lim F i l) 99 (f_nm F)) i
def lieT (g : Int → Int) (n : Nat) : Int × Int := match n with
  | 0 => (-4, 0)
  | n + 1 => if (lieT g n).1 < g ((n + 1 : Nat) : Int) then (g ((n + 1 : Nat) : Int), ((n + 1 : Nat) : Int)) else lieT g n
def an_lie (F : FD) (i what : Int) : Int := if ¬ ((0 ≤ i ∧ i < f_nl F) ∧ 0 ≤ what ∧ what ≤ 1) then -1 else if what = 0 then (lieT (g_l F i.toNat) 10).2 else (lieT (g_l F i.toNat) 10).1 - g_l F i.toNat (f_lm F i.toNat)
def an_game (F : FD) (i j what : Int) : Int := if ¬ ((0 ≤ i ∧ i < f_nl F) ∧ (0 ≤ j ∧ j < f_nl F) ∧ i ≠ j ∧ 0 ≤ what ∧ what ≤ 2) then -1 else if what = 0 then cnt (rsR F i.toNat j.toNat) 100 else if cnt (rsR F i.toNat j.toNat) 100 = 0 then -4 else if what = 1 then frst (rsR F i.toNat j.toNat) 100 / 10 + 1 else frst (rsR F i.toNat j.toNat) 100 % 10 + 1
/-- the joint way -/
def xJ (F : FD) : Nat := (wB F 99 (f_bs F ^ f_nl F)).2
def an_rest (F : FD) (m : Int) (g : Bool) : Int := if ¬ (m = -1 ∨ (0 ≤ m ∧ m < f_nm F)) then -1 else if (prT (f_nm F) (fun q => arB F (xJ F) (prc (f_nm F) q)) g (11 ^ f_nm F)).1 = -1 then -4 else if m = -1 then (prT (f_nm F) (fun q => arB F (xJ F) (prc (f_nm F) q)) g (11 ^ f_nm F)).1 else prc (f_nm F) (prT (f_nm F) (fun q => arB F (xJ F) (prc (f_nm F) q)) g (11 ^ f_nm F)).2 m.toNat
def an_joint (F : FD) (i : Int) : Int := if ¬ (i = -1 ∨ (0 ≤ i ∧ i < f_nl F)) then -1 else if i = -1 then (wB F 99 (f_bs F ^ f_nl F)).1 else dz F (dgp (f_bs F) (f_nl F) (xJ F) i.toNat)
def an_pay (F : FD) (i : Int) : Int := if ¬ (0 ≤ i ∧ i < f_nl F) then -1 else (wB F i.toNat (f_bs F ^ f_nl F)).1 - ((wB F 99 (f_bs F ^ f_nl F)).1 - tm F i.toNat (dgp (f_bs F) (f_nl F) (xJ F) i.toNat))
def fitF (F : FD) (ns : Nat) (M Y : Nat → Int) (ab : Nat) : Bool := fitB (f_fair F ab (f_nm F)) (f_nl F) M Y ns
def an_cousins (F : FD) (ns : Nat) (M Y : Nat → Int) : Int := if fitF F ns M Y 99 = true then (Int32.ofInt (bitsF (fitF F ns M Y) (f_nl F)) ||| Int32.ofInt 32).toInt else bitsF (fitF F ns M Y) (f_nl F)
def an_span (F : FD) (i m what : Int) : Int := if ¬ ((0 ≤ i ∧ i < f_nl F) ∧ (0 ≤ m ∧ m < f_nm F) ∧ 0 ≤ what ∧ what ≤ 1) then -1 else if (f_fair (f_cal F 0) 99 m.toNat).1 i.toNat ≠ -4 then (if what = 0 then 0 else 10) else if what = 0 then (if f_out (f_sp F) (f_end (f_cal F 0) 99 (f_fair (f_cal F 0) 99 m.toNat).1 m.toNat) (f_bnd F i.toNat m.toNat) 11 1 = 1 then 0 else f_out (f_sp F) (f_end (f_cal F 0) 99 (f_fair (f_cal F 0) 99 m.toNat).1 m.toNat) (f_bnd F i.toNat m.toNat) 11 1 - f_sp F) else (if f_end (f_cal F 0) 99 (f_fair (f_cal F 0) 99 m.toNat).1 m.toNat < f_out (f_sp F) (f_end (f_cal F 0) 99 (f_fair (f_cal F 0) 99 m.toNat).1 m.toNat) (f_bnd F i.toNat m.toNat) 11 1 then 10 else f_out (f_sp F) (f_end (f_cal F 0) 99 (f_fair (f_cal F 0) 99 m.toNat).1 m.toNat) (f_bnd F i.toNat m.toNat) 11 1 - 1)
def an_year (F : FD) (z what : Int) : Int := if ¬ ((0 ≤ z ∧ z ≤ 9999) ∧ 0 ≤ what ∧ what ≤ 1) then -1 else if what = 0 then sumF (f_fair (f_drawn F z) 99 (f_nm F)).2 (f_nl F) else cnt (fun m => decide (bitsF (fun i => decide ((f_fair (f_drawn F z) 99 (f_nm F)).1 i = (m : Int))) (f_nl F) = 0)) (f_nm F)
theorem g_l_le {F : FD} (ok : okF F) {i : Nat} {l : Int} (hl : 1 ≤ l ∧ l ≤ 10) : 0 ≤ g_l F i l ∧ g_l F i l ≤ 10 := f_gn_le (okF_lim ok i hl) (wOK_fair (okF_lim ok i hl) 99 (f_nm F)) i
set_option maxRecDepth 100000 in
theorem c_saying (σ : Sg) (F : FD) (ok : okF F) (i : Nat) (hi : i < f_nl F) (u l : Int) (hl : 1 ≤ l ∧ l ≤ 10) (hC : RepC σ 14 (f_lim F i u)) : RI mX9_gainBySaying 5 [vR 0, vI (i : Int), vI l] σ (fun z σ' => z = g_l F i l ∧ RepC σ' 14 (f_lim F i l) ∧ ∀ k, k < 23 ∨ 28 < k → σ' k = σ k) := by
  have h5 := ok.2.1
  have ok2 := okF_lim ok i hl
  refine mkRun (by decide +kernel) (Nat.le_of_ble_eq_true rfl) (fun X hF hR => ?_)
  refine jr_aload_n hF dX9_gainBySaying_0 (q := 1) rfl rfl ?_
  refine jr_getR (ci := 9) (j := 2) hF dX9_gainBySaying_1 (q := 4) rfl rfl rfl fl9_23 ?_
  refine jr_getR (ci := 4) (j := 5) hF dX9_gainBySaying_4 (q := 7) rfl rfl rfl fl9_123 ?_
  refine jr_iload_n hF dX9_gainBySaying_7 (q := 8) rfl rfl ?_
  refine jr_iload_n hF dX9_gainBySaying_8 (q := 9) rfl rfl ?_
  refine jr_iast hF dX9_gainBySaying_9 (q := 10) rfl rfl (by omega) ?_
  refine jr_aload_n hF dX9_gainBySaying_10 (q := 11) rfl rfl ?_
  refine jr_getR (ci := 9) (j := 3) hF dX9_gainBySaying_11 (q := 14) rfl rfl rfl fl9_29 ?_
  refine jr_aload_n hF dX9_gainBySaying_14 (q := 15) rfl rfl ?_
  refine jr_getR (ci := 9) (j := 2) hF dX9_gainBySaying_15 (q := 18) rfl rfl rfl fl9_23 ?_
  refine jr_iconst hF dX9_gainBySaying_18 (q := 19) rfl (by decide) ?_
  have hC1 : RepC (up σ 23 (i : Int) l) 14 (f_lim F i l) := by
    have := hC.lim1 (i := i) h5 (by omega) l
    rw [f_lim_lim] at this
    exact this
  refine jr_cV2V hF (c_hold _ 14 pl14 _ hC1 ok2 (-1) 99 ab99) dX9_gainBySaying_19 (q := 22) rfl lk9_130 vX2_hold kX2_hold rfl rfl rfl (by decide) (Nat.le_of_ble_eq_true rfl) (fun σ1 hz => ?_)
  obtain ⟨k1, -, k3⟩ := hz
  have hC2 : RepC σ1 14 (f_lim F i l) := hC1.fr h5 (fun k l1 l2 => k3 k (by omega) (by omega) (by omega) (by omega))
  refine jr_aload_n hF dX9_gainBySaying_22 (q := 23) rfl rfl ?_
  refine jr_getR (ci := 9) (j := 3) hF dX9_gainBySaying_23 (q := 26) rfl rfl rfl fl9_29 ?_
  refine jr_aload_n hF dX9_gainBySaying_26 (q := 27) rfl rfl ?_
  refine jr_getR (ci := 9) (j := 2) hF dX9_gainBySaying_27 (q := 30) rfl rfl rfl fl9_23 ?_
  refine jr_iload_n hF dX9_gainBySaying_30 (q := 31) rfl rfl ?_
  refine jr_cV2I hF (c_gainOf σ1 14 pl14 _ hC2 ok2 99 _ (wOK_fair ok2 99 _) k1 i hi) dX9_gainBySaying_31 (q := 34) rfl lk9_140 vX2_gainOf kX2_gainOf rfl rfl rfl (by decide) (Nat.le_of_ble_eq_true rfl) (fun z σ2 hz => ?_)
  obtain ⟨rfl, rfl⟩ := hz
  refine jr_retI hF hR dX9_gainBySaying_34 rfl ⟨rfl, hC2, fun k hk => by rw [k3 k (by omega) (by omega) (by omega) (by omega), up_ne (by omega)]⟩
theorem lieT_le {g : Int → Int} (h : ∀ l : Int, 1 ≤ l → l ≤ 10 → 0 ≤ g l ∧ g l ≤ 10) : ∀ n, n ≤ 10 → -4 ≤ (lieT g n).1 ∧ (lieT g n).1 ≤ 10 := by
  intro n
  induction n with
  | zero => intro _; exact ⟨Int.le_refl _, by show (-4 : Int) ≤ 10; decide⟩
  | succ n ih =>
    intro hn
    have := ih (by omega)
    have := h ((n + 1 : Nat) : Int) (by omega) (by omega)
    unfold lieT
    split
    · show -4 ≤ g _ ∧ g _ ≤ 10
      omega
    · assumption
section
variable (σ : Sg) (len : Nat) (B : Nat → Int) (F : FD) (nu : Nat) (W V : Nat → Int) (nk : Nat) (S : Nat → Int → Int) (ns : Nat) (M Y : Nat → Int)
set_option maxRecDepth 100000 in
theorem o_lie (h : RC σ (len, B, F, nu, W, V, nk, S, ns, M, Y)) (ok : okA (len, B, F, nu, W, V, nk, S, ns, M, Y)) (i what : Int) : RI mX9_lie 10 [vR 0, vI i, vI what] σ (fun z σ' => z = an_lie F i what ∧ RC σ' (len, B, F, nu, W, V, nk, S, ns, M, Y) ∧ ∀ k, 73 ≤ k → σ' k = σ k) := by
  have hC := h.2.1
  have okF' := ok.2.2.1
  have h5 := okF'.2.1
  have r2 := hC.2.1
  refine mkRun (by decide +kernel) (Nat.le_of_ble_eq_true rfl) (fun X hF hR => ?_)
  have hbad : ¬ ((0 ≤ i ∧ i < f_nl F) ∧ 0 ≤ what ∧ what ≤ 1) → Gs X 20 (entryL [vR 0, vI i, vI what] mX9_lie.2.2.1) [] σ := by
    intro hc
    refine jr_iconst hF dX9_lie_20 (q := 21) rfl (by decide) ?_
    refine jr_retI hF hR dX9_lie_21 rfl ⟨by unfold an_lie; rw [if_pos hc], h, fun _ _ => rfl⟩
  refine jr_aload_n hF dX9_lie_0 (q := 1) rfl rfl ?_
  refine jr_getR (ci := 9) (j := 1) hF dX9_lie_1 (q := 4) rfl rfl rfl fl9_19 ?_
  refine jr_iload_n hF dX9_lie_4 (q := 5) rfl rfl ?_
  refine jr_cV1I hF (c_hasLad σ 4 pl4 i) dX9_lie_5 (q := 8) rfl lk9_120 vX4_hasLad kX4_hasLad rfl rfl rfl (by decide) (Nat.le_of_ble_eq_true rfl) (fun z σ1 hz => ?_)
  obtain ⟨rfl, rfl⟩ := hz
  refine jr_if_eq hF dX9_lie_8 (q := 11) rfl 20 (by decide) (fun a1 => ?_) (fun a1 => ?_)
  · exact hbad (fun hh => by rw [if_pos (by omega)] at a1; omega)
  · have b1 : 0 ≤ i ∧ i < σ 4 1 := Classical.byContradiction fun h => a1 (by rw [if_neg h])
    refine jr_iload_n hF dX9_lie_11 (q := 12) rfl rfl ?_
    refine jr_iconst hF dX9_lie_12 (q := 13) rfl (by decide) ?_
    refine jr_iconst hF dX9_lie_13 (q := 14) rfl (by decide) ?_
    refine jr_cS3I hF (c_isWithin σ what 0 1) dX9_lie_14 (q := 17) rfl lk9_90 vX9_isWithin kX9_isWithin (by decide) (Nat.le_of_ble_eq_true rfl) (fun z σ1 hz => ?_)
    obtain ⟨rfl, rfl⟩ := hz
    refine jr_if_ne hF dX9_lie_17 (q := 20) rfl 22 (by decide) (fun a2 => ?_) (fun a2 => ?_)
    · have b2 : 0 ≤ what ∧ what ≤ 1 := Classical.byContradiction fun h => a2 (by rw [if_neg h])
      obtain ⟨j, rfl⟩ : ∃ j : Nat, i = (j : Int) := ⟨i.toNat, by omega⟩
      have hj : j < f_nl F := by omega
      have eA : an_lie F (j : Int) what = if what = 0 then (lieT (g_l F j) 10).2 else (lieT (g_l F j) 10).1 - g_l F j (f_lm F j) := by
        unfold an_lie
        rw [if_neg (by omega)]
        rfl
      rw [eA] at hR
      have hg : ∀ l : Int, 1 ≤ l → l ≤ 10 → 0 ≤ g_l F j l ∧ g_l F j l ≤ 10 := fun l h1 h2 => g_l_le okF' ⟨h1, h2⟩
      refine jr_aload_n hF dX9_lie_22 (q := 23) rfl rfl ?_
      refine jr_getR (ci := 9) (j := 2) hF dX9_lie_23 (q := 26) rfl rfl rfl fl9_23 ?_
      refine jr_aload_n hF dX9_lie_26 (q := 27) rfl rfl ?_
      refine jr_getR (ci := 9) (j := 1) hF dX9_lie_27 (q := 30) rfl rfl rfl fl9_19 ?_
      refine jr_cV1V hF (c_copyFrom σ 14 4 pl14 pl4 (by decide) F hC okF') dX9_lie_30 (q := 33) rfl lk9_111 vX4_copyFrom kX4_copyFrom rfl rfl rfl (by decide) (Nat.le_of_ble_eq_true rfl) (fun σ1 hz => ?_)
      obtain ⟨g1, g2⟩ := hz
      refine jr_iconst hF dX9_lie_33 (q := 34) rfl (by decide) ?_
      refine jr_istore_n hF dX9_lie_34 (q := 35) rfl (by decide) rfl ?_
      refine jr_aload_n hF dX9_lie_35 (q := 36) rfl rfl ?_
      refine jr_iload_n hF dX9_lie_36 (q := 37) rfl rfl ?_
      refine jr_iload_n hF dX9_lie_37 (q := 38) rfl rfl ?_
      have hC1 : RepC σ1 14 (f_lim F j (f_lm F j)) := by rw [f_lim_self]; exact g1
      refine jr_cV2I hF (c_saying σ1 F okF' j hj _ 1 (by omega) hC1) dX9_lie_38 (q := 41) rfl lk9_179 vX9_gainBySaying kX9_gainBySaying rfl rfl rfl (by decide) (Nat.le_of_ble_eq_true rfl) (fun z σ2 hz => ?_)
      obtain ⟨rfl, hC2, hf2⟩ := hz
      refine jr_istore hF dX9_lie_41 (q := 43) rfl (by decide) rfl ?_
      refine jr_iconst hF dX9_lie_43 (q := 44) rfl (by decide) ?_
      refine jr_istore hF dX9_lie_44 (q := 46) rfl (by decide) rfl ?_
      have e1 : lieT (g_l F j) 1 = (g_l F j 1, 1) := by
        have := hg 1 (by omega) (by omega)
        unfold lieT
        rw [if_pos (by show (-4 : Int) < g_l F j 1; omega)]
        rfl
      suffices start : Gs X 46 [some (vR 0), some (vI (j : Int)), some (vI what), some (vI (lieT (g_l F j) 1).2), some (vI (lieT (g_l F j) 1).1), some (vI 2), none] [] σ2 by
        rw [e1] at start
        exact start
      refine gs_loop (α := Sg) (fun k _ => [some (vR 0), some (vI (j : Int)), some (vI what), some (vI (lieT (g_l F j) (k + 1)).2), some (vI (lieT (g_l F j) (k + 1)).1), some (vI ((k + 2 : Nat) : Int)), none]) (fun σ' => σ') (fun k σ' => (∃ u, RepC σ' 14 (f_lim F j u)) ∧ ∀ k, k < 14 ∨ 28 < k → σ' k = σ k) 9 (fun σ3 h3 => ?_) (fun k σ3 hk h3 ih => ?_) σ2 ⟨⟨_, hC2⟩, fun k hk => by rw [hf2 k (by omega), g2 k (by omega)]⟩
      · obtain ⟨⟨u, i1⟩, i2⟩ := h3
        have hlt : -4 ≤ (lieT (g_l F j) (9 + 1)).1 ∧ (lieT (g_l F j) (9 + 1)).1 ≤ 10 := lieT_le hg 10 (by omega)
        have hRC3 : RC σ3 (len, B, F, nu, W, V, nk, S, ns, M, Y) := h.fr h5 ok.2.2.2.2.2.2.2.1 (fun k hk => i2 k (by omega))
        refine jr_iload hF dX9_lie_46 (q := 48) rfl rfl ?_
        refine jr_bipush hF dX9_lie_48 (q := 50) rfl (by decide) (by decide +kernel) ?_
        refine jr_icmp_gt hF dX9_lie_50 (q := 53) rfl 82 (by decide) (fun a3 => ?_) (fun a3 => ?_)
        · refine jr_iload_n hF dX9_lie_82 (q := 83) rfl rfl ?_
          refine jr_if_ne hF dX9_lie_83 (q := 86) rfl 90 (by decide) (fun a4 => ?_) (fun a4 => ?_)
          · have el : σ3 13 (j : Int) = f_lm F j := hRC3.2.1.lim hj
            have hl := okF'.2.2.2.2.2.1 j hj
            refine jr_iload hF dX9_lie_90 (q := 92) rfl rfl ?_
            refine jr_aload_n hF dX9_lie_92 (q := 93) rfl rfl ?_
            refine jr_iload_n hF dX9_lie_93 (q := 94) rfl rfl ?_
            refine jr_aload_n hF dX9_lie_94 (q := 95) rfl rfl ?_
            refine jr_getR (ci := 9) (j := 1) hF dX9_lie_95 (q := 98) rfl rfl rfl fl9_19 ?_
            refine jr_getR (ci := 4) (j := 5) hF dX9_lie_98 (q := 101) rfl rfl rfl fl9_123 ?_
            refine jr_iload_n hF dX9_lie_101 (q := 102) rfl rfl ?_
            refine jr_iald hF dX9_lie_102 (q := 103) rfl rfl (by omega) ?_
            rw [el]
            refine jr_cV2I hF (c_saying σ3 F okF' j hj u _ hl i1) dX9_lie_103 (q := 106) rfl lk9_179 vX9_gainBySaying kX9_gainBySaying rfl rfl rfl (by decide) (Nat.le_of_ble_eq_true rfl) (fun z σ4 hz => ?_)
            obtain ⟨rfl, hC4, hf4⟩ := hz
            have := hg (f_lm F j) hl.1 hl.2
            refine jr_isub hF dX9_lie_106 (q := 107) rfl (by omega) ?_
            refine jr_retI hF hR dX9_lie_107 rfl ⟨by rw [if_neg a4], hRC3.fr h5 ok.2.2.2.2.2.2.2.1 (fun k hk => hf4 k (by omega)), fun k hk => by rw [hf4 k (by omega)]; exact i2 k (by omega)⟩
          · refine jr_iload_n hF dX9_lie_86 (q := 87) rfl rfl ?_
            refine jr_goto hF dX9_lie_87 107 (by decide) ?_
            refine jr_retI hF hR dX9_lie_107 rfl ⟨by rw [if_pos a4], hRC3, fun k hk => i2 k (by omega)⟩
        · omega
      · obtain ⟨⟨u, i1⟩, i2⟩ := h3
        refine jr_iload hF dX9_lie_46 (q := 48) rfl rfl ?_
        refine jr_bipush hF dX9_lie_48 (q := 50) rfl (by decide) (by decide +kernel) ?_
        refine jr_icmp_gt hF dX9_lie_50 (q := 53) rfl 82 (by decide) (fun a3 => ?_) (fun a3 => ?_)
        · omega
        · refine jr_aload_n hF dX9_lie_53 (q := 54) rfl rfl ?_
          refine jr_iload_n hF dX9_lie_54 (q := 55) rfl rfl ?_
          refine jr_iload hF dX9_lie_55 (q := 57) rfl rfl ?_
          refine jr_cV2I hF (c_saying σ3 F okF' j hj u _ (by omega) i1) dX9_lie_57 (q := 60) rfl lk9_179 vX9_gainBySaying kX9_gainBySaying rfl rfl rfl (by decide) (Nat.le_of_ble_eq_true rfl) (fun z σ4 hz => ?_)
          obtain ⟨rfl, hC4, hf4⟩ := hz
          refine jr_istore hF dX9_lie_60 (q := 62) rfl (by decide) rfl ?_
          refine jr_iload hF dX9_lie_62 (q := 64) rfl rfl ?_
          refine jr_iload hF dX9_lie_64 (q := 66) rfl rfl ?_
          have eT : lieT (g_l F j) (k + 1 + 1) = if (lieT (g_l F j) (k + 1)).1 < g_l F j ((k + 1 + 1 : Nat) : Int) then (g_l F j ((k + 1 + 1 : Nat) : Int), ((k + 1 + 1 : Nat) : Int)) else lieT (g_l F j) (k + 1) := rfl
          have ih1 := ih σ4 ⟨⟨_, hC4⟩, fun k hk => by rw [hf4 k (by omega)]; exact i2 k hk⟩
          rw [eT] at ih1
          refine jr_icmp_le hF dX9_lie_66 (q := 69) rfl 76 (by decide) (fun a4 => ?_) (fun a4 => ?_)
          · rw [if_neg (show ¬ (lieT (g_l F j) (k + 1)).1 < g_l F j ((k + 1 + 1 : Nat) : Int) from Int.not_lt.mpr a4)] at ih1
            refine jr_fg 6 ?_
            refine jr_iinc hF dX9_lie_76 (q := 79) rfl (by decide) rfl rfl (by omega) ?_
            refine jr_goto hF dX9_lie_79 46 (by decide) ?_
            exact ih1
          · rw [if_pos (show (lieT (g_l F j) (k + 1)).1 < g_l F j ((k + 1 + 1 : Nat) : Int) from a4)] at ih1
            refine jr_iload hF dX9_lie_69 (q := 71) rfl rfl ?_
            refine jr_istore hF dX9_lie_71 (q := 73) rfl (by decide) rfl ?_
            refine jr_iload hF dX9_lie_73 (q := 75) rfl rfl ?_
            refine jr_istore_n hF dX9_lie_75 (q := 76) rfl (by decide) rfl ?_
            refine jr_fg 6 ?_
            refine jr_iinc hF dX9_lie_76 (q := 79) rfl (by decide) rfl rfl (by omega) ?_
            refine jr_goto hF dX9_lie_79 46 (by decide) ?_
            exact ih1
    · exact hbad (fun hh => by rw [if_pos (by omega)] at a2; omega)
set_option maxRecDepth 100000 in
theorem o_game (h : RC σ (len, B, F, nu, W, V, nk, S, ns, M, Y)) (ok : okA (len, B, F, nu, W, V, nk, S, ns, M, Y)) (i j what : Int) : RI mX9_game 10 [vR 0, vI i, vI j, vI what] σ (fun z σ' => z = an_game F i j what ∧ RC σ' (len, B, F, nu, W, V, nk, S, ns, M, Y) ∧ ∀ k, 73 ≤ k → σ' k = σ k) := by
  have hC := h.2.1
  have okF' := ok.2.2.1
  have h5 := okF'.2.1
  have r2 := hC.2.1
  refine mkRun (by decide +kernel) (Nat.le_of_ble_eq_true rfl) (fun X hF hR => ?_)
  have hbad : ¬ ((0 ≤ i ∧ i < f_nl F) ∧ (0 ≤ j ∧ j < f_nl F) ∧ i ≠ j ∧ 0 ≤ what ∧ what ≤ 2) → Gs X 36 (entryL [vR 0, vI i, vI j, vI what] mX9_game.2.2.1) [] σ := by
    intro hc
    refine jr_iconst hF dX9_game_36 (q := 37) rfl (by decide) ?_
    refine jr_retI hF hR dX9_game_37 rfl ⟨by unfold an_game; rw [if_pos hc], h, fun _ _ => rfl⟩
  refine jr_aload_n hF dX9_game_0 (q := 1) rfl rfl ?_
  refine jr_getR (ci := 9) (j := 1) hF dX9_game_1 (q := 4) rfl rfl rfl fl9_19 ?_
  refine jr_iload_n hF dX9_game_4 (q := 5) rfl rfl ?_
  refine jr_cV1I hF (c_hasLad σ 4 pl4 i) dX9_game_5 (q := 8) rfl lk9_120 vX4_hasLad kX4_hasLad rfl rfl rfl (by decide) (Nat.le_of_ble_eq_true rfl) (fun z σ1 hz => ?_)
  obtain ⟨rfl, rfl⟩ := hz
  refine jr_if_eq hF dX9_game_8 (q := 11) rfl 36 (by decide) (fun a1 => ?_) (fun a1 => ?_)
  · exact hbad (fun hh => by rw [if_pos (by omega)] at a1; omega)
  · have b1 : 0 ≤ i ∧ i < σ 4 1 := Classical.byContradiction fun h => a1 (by rw [if_neg h])
    refine jr_aload_n hF dX9_game_11 (q := 12) rfl rfl ?_
    refine jr_getR (ci := 9) (j := 1) hF dX9_game_12 (q := 15) rfl rfl rfl fl9_19 ?_
    refine jr_iload_n hF dX9_game_15 (q := 16) rfl rfl ?_
    refine jr_cV1I hF (c_hasLad σ 4 pl4 j) dX9_game_16 (q := 19) rfl lk9_120 vX4_hasLad kX4_hasLad rfl rfl rfl (by decide) (Nat.le_of_ble_eq_true rfl) (fun z σ1 hz => ?_)
    obtain ⟨rfl, rfl⟩ := hz
    refine jr_if_eq hF dX9_game_19 (q := 22) rfl 36 (by decide) (fun a2 => ?_) (fun a2 => ?_)
    · exact hbad (fun hh => by rw [if_pos (by omega)] at a2; omega)
    · have b2 : 0 ≤ j ∧ j < σ 4 1 := Classical.byContradiction fun h => a2 (by rw [if_neg h])
      refine jr_iload_n hF dX9_game_22 (q := 23) rfl rfl ?_
      refine jr_iload_n hF dX9_game_23 (q := 24) rfl rfl ?_
      refine jr_icmp_eq hF dX9_game_24 (q := 27) rfl 36 (by decide) (fun a3 => ?_) (fun a3 => ?_)
      · exact hbad (fun hh => hh.2.2.1 a3)
      · refine jr_iload_n hF dX9_game_27 (q := 28) rfl rfl ?_
        refine jr_iconst hF dX9_game_28 (q := 29) rfl (by decide) ?_
        refine jr_iconst hF dX9_game_29 (q := 30) rfl (by decide) ?_
        refine jr_cS3I hF (c_isWithin σ what 0 2) dX9_game_30 (q := 33) rfl lk9_90 vX9_isWithin kX9_isWithin (by decide) (Nat.le_of_ble_eq_true rfl) (fun z σ1 hz => ?_)
        obtain ⟨rfl, rfl⟩ := hz
        refine jr_if_ne hF dX9_game_33 (q := 36) rfl 38 (by decide) (fun a4 => ?_) (fun a4 => ?_)
        · have b4 : 0 ≤ what ∧ what ≤ 2 := Classical.byContradiction fun h => a4 (by rw [if_neg h])
          obtain ⟨p, rfl⟩ : ∃ p : Nat, i = (p : Int) := ⟨i.toNat, by omega⟩
          obtain ⟨q, rfl⟩ : ∃ q : Nat, j = (q : Int) := ⟨j.toNat, by omega⟩
          have eA : an_game F (p : Int) (q : Int) what = if what = 0 then cnt (rsR F p q) 100 else if cnt (rsR F p q) 100 = 0 then -4 else if what = 1 then frst (rsR F p q) 100 / 10 + 1 else frst (rsR F p q) 100 % 10 + 1 := by
            unfold an_game
            rw [if_neg (by omega)]
            rfl
          rw [eA] at hR
          refine jr_aload_n hF dX9_game_38 (q := 39) rfl rfl ?_
          refine jr_getR (ci := 9) (j := 2) hF dX9_game_39 (q := 42) rfl rfl rfl fl9_23 ?_
          refine jr_aload_n hF dX9_game_42 (q := 43) rfl rfl ?_
          refine jr_getR (ci := 9) (j := 1) hF dX9_game_43 (q := 46) rfl rfl rfl fl9_19 ?_
          refine jr_cV1V hF (c_copyFrom σ 14 4 pl14 pl4 (by decide) F hC okF') dX9_game_46 (q := 49) rfl lk9_111 vX4_copyFrom kX4_copyFrom rfl rfl rfl (by decide) (Nat.le_of_ble_eq_true rfl) (fun σ1 hz => ?_)
          obtain ⟨g1, g2⟩ := hz
          refine jr_aload_n hF dX9_game_49 (q := 50) rfl rfl ?_
          refine jr_getR (ci := 9) (j := 4) hF dX9_game_50 (q := 53) rfl rfl rfl fl9_36 ?_
          refine jr_aload_n hF dX9_game_53 (q := 54) rfl rfl ?_
          refine jr_getR (ci := 9) (j := 2) hF dX9_game_54 (q := 57) rfl rfl rfl fl9_23 ?_
          refine jr_aload_n hF dX9_game_57 (q := 58) rfl rfl ?_
          refine jr_getR (ci := 9) (j := 3) hF dX9_game_58 (q := 61) rfl rfl rfl fl9_29 ?_
          refine jr_iload_n hF dX9_game_61 (q := 62) rfl rfl ?_
          refine jr_iload_n hF dX9_game_62 (q := 63) rfl rfl ?_
          refine jr_cV4V hF (c_play σ1 F g1 okF' p q (by omega) (by omega) (by omega)) dX9_game_63 (q := 66) rfl lk9_182 vX1_play kX1_play rfl rfl rfl (by decide) (Nat.le_of_ble_eq_true rfl) (fun σ2 hz => ?_)
          obtain ⟨j1, j2⟩ := hz
          refine jr_aload_n hF dX9_game_66 (q := 67) rfl rfl ?_
          refine jr_getR (ci := 9) (j := 4) hF dX9_game_67 (q := 70) rfl rfl rfl fl9_36 ?_
          refine jr_cV0V hF (c_findRests σ2 F p q j1) dX9_game_70 (q := 73) rfl lk9_186 vX1_findRests kX1_findRests rfl rfl rfl (by decide) (Nat.le_of_ble_eq_true rfl) (fun σ3 hz => ?_)
          obtain ⟨⟨f1, f2⟩, f3⟩ := hz
          have hfr : ∀ k, k < 14 ∨ 53 < k → σ3 k = σ k := fun k hk => by rw [f3 k (by omega), j2 k (by omega), g2 k (by omega)]
          have hRC3 : RC σ3 (len, B, F, nu, W, V, nk, S, ns, M, Y) := h.fr h5 ok.2.2.2.2.2.2.2.1 (fun k hk => hfr k (by omega))
          refine jr_iload_n hF dX9_game_73 (q := 74) rfl rfl ?_
          refine jr_if_ne hF dX9_game_74 (q := 77) rfl 85 (by decide) (fun a5 => ?_) (fun a5 => ?_)
          · refine jr_aload_n hF dX9_game_85 (q := 86) rfl rfl ?_
            refine jr_getR (ci := 9) (j := 4) hF dX9_game_86 (q := 89) rfl rfl rfl fl9_36 ?_
            refine jr_getI (ci := 1) (j := 0) hF 0 rfl dX9_game_89 (q := 92) rfl rfl rfl fl9_189 ?_
            rw [f1]
            refine jr_if_ne hF dX9_game_92 (q := 95) rfl 98 (by decide) (fun a6 => ?_) (fun a6 => ?_)
            · refine jr_iload_n hF dX9_game_98 (q := 99) rfl rfl ?_
              refine jr_iconst hF dX9_game_99 (q := 100) rfl (by decide) ?_
              refine jr_icmp_ne hF dX9_game_100 (q := 103) rfl 113 (by decide) (fun a7 => ?_) (fun a7 => ?_)
              · refine jr_aload_n hF dX9_game_113 (q := 114) rfl rfl ?_
                refine jr_getR (ci := 9) (j := 4) hF dX9_game_114 (q := 117) rfl rfl rfl fl9_36 ?_
                refine jr_getI (ci := 1) (j := 2) hF 2 rfl dX9_game_117 (q := 120) rfl rfl rfl fl9_195 ?_
                refine jr_retI hF hR dX9_game_120 rfl ⟨by rw [if_neg a5, if_neg a6, if_neg a7]; exact (f2 a6).2, hRC3, fun k hk => hfr k (by omega)⟩
              · refine jr_aload_n hF dX9_game_103 (q := 104) rfl rfl ?_
                refine jr_getR (ci := 9) (j := 4) hF dX9_game_104 (q := 107) rfl rfl rfl fl9_36 ?_
                refine jr_getI (ci := 1) (j := 1) hF 1 rfl dX9_game_107 (q := 110) rfl rfl rfl fl9_192 ?_
                refine jr_goto hF dX9_game_110 120 (by decide) ?_
                refine jr_retI hF hR dX9_game_120 rfl ⟨by rw [if_neg a5, if_neg a6, if_pos a7]; exact (f2 a6).1, hRC3, fun k hk => hfr k (by omega)⟩
            · refine jr_bipush hF dX9_game_95 (q := 97) rfl (by decide) (by decide +kernel) ?_
              refine jr_retI hF hR dX9_game_97 rfl ⟨by rw [if_neg a5, if_pos a6], hRC3, fun k hk => hfr k (by omega)⟩
          · refine jr_aload_n hF dX9_game_77 (q := 78) rfl rfl ?_
            refine jr_getR (ci := 9) (j := 4) hF dX9_game_78 (q := 81) rfl rfl rfl fl9_36 ?_
            refine jr_getI (ci := 1) (j := 0) hF 0 rfl dX9_game_81 (q := 84) rfl rfl rfl fl9_189 ?_
            refine jr_retI hF hR dX9_game_84 rfl ⟨by rw [if_pos a5]; exact f1, hRC3, fun k hk => hfr k (by omega)⟩
        · exact hbad (fun hh => by rw [if_pos (by omega)] at a4; omega)
end

