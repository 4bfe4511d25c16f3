/-! ===== Pairing ===== -/
set_option maxRecDepth 100000 in
theorem c_mostWantOf (σ : Sg) (pl : Nat) (hpl : pl = 4 ∨ pl = 14) (F : FD) (hC : RepC σ pl F) (ok : okF F) (i : Nat) (hi : i < f_nl F) : RI mX3_mostWantOf 1 [vR pl, vI (i : Int)] σ (fun z σ' => z = mwN F i (f_nm F) ∧ σ = σ') := by
  have h5 := ok.2.1
  have h3 := ok.1
  have r1 := hC.1
  refine mkRun (by decide +kernel) (Nat.le_of_ble_eq_true rfl) (fun X hF hR => ?_)
  refine jr_iconst hF dX3_mostWantOf_0 (q := 1) rfl (by decide) ?_
  refine jr_istore_n hF dX3_mostWantOf_1 (q := 2) rfl (by decide) rfl ?_
  refine jr_iconst hF dX3_mostWantOf_2 (q := 3) rfl (by decide) ?_
  refine jr_istore_n hF dX3_mostWantOf_3 (q := 4) rfl (by decide) rfl ?_
  refine gs_loop (α := Unit) (fun k _ => [some (vR pl), some (vI (i : Int)), some (vI (mwN F i k)), some (vI (k : Int))]) (fun _ => σ) (fun _ _ => True) (f_nm F) (fun _ _ => ?_) (fun k _ hk _ ih => ?_) () trivial
  · refine jr_iload_n hF dX3_mostWantOf_4 (q := 5) rfl rfl ?_
    refine jr_aload_n hF dX3_mostWantOf_5 (q := 6) rfl rfl ?_
    refine jr_getI (ci := 4) (j := 0) hF 0 rfl dX3_mostWantOf_6 (q := 9) rfl (by first | rfl | exact L_pl hpl | exact L_rm hpl | exact L_kd hpl | exact L_lw hpl | exact L_wo hpl | exact L_wr hpl (by omega) | exact L_pl hp2 | exact L_rm hp2 | exact L_kd hp2 | exact L_lw hp2 | exact L_wo hp2 | exact L_wr hp2 (by omega)) rfl fl3_50 ?_
    refine jr_icmp_ge hF dX3_mostWantOf_9 (q := 12) rfl 31 (by decide) (fun h1 => ?_) (fun h1 => ?_)
    · refine jr_iload_n hF dX3_mostWantOf_31 (q := 32) rfl rfl ?_
      refine jr_retI hF hR dX3_mostWantOf_32 rfl ⟨rfl, rfl⟩
    · omega
  · have r5 := hC.want hi hk
    refine jr_iload_n hF dX3_mostWantOf_4 (q := 5) rfl rfl ?_
    refine jr_aload_n hF dX3_mostWantOf_5 (q := 6) rfl rfl ?_
    refine jr_getI (ci := 4) (j := 0) hF 0 rfl dX3_mostWantOf_6 (q := 9) rfl (by first | rfl | exact L_pl hpl | exact L_rm hpl | exact L_kd hpl | exact L_lw hpl | exact L_wo hpl | exact L_wr hpl (by omega) | exact L_pl hp2 | exact L_rm hp2 | exact L_kd hp2 | exact L_lw hp2 | exact L_wo hp2 | exact L_wr hp2 (by omega)) rfl fl3_50 ?_
    refine jr_icmp_ge hF dX3_mostWantOf_9 (q := 12) rfl 31 (by decide) (fun h1 => ?_) (fun h1 => ?_)
    · omega
    · refine jr_iload_n hF dX3_mostWantOf_12 (q := 13) rfl rfl ?_
      refine jr_aload_n hF dX3_mostWantOf_13 (q := 14) rfl rfl ?_
      refine jr_getR (ci := 4) (j := 4) hF dX3_mostWantOf_14 (q := 17) rfl (by first | rfl | exact L_pl hpl | exact L_rm hpl | exact L_kd hpl | exact L_lw hpl | exact L_wo hpl | exact L_wr hpl (by omega) | exact L_pl hp2 | exact L_rm hp2 | exact L_kd hp2 | exact L_lw hp2 | exact L_wo hp2 | exact L_wr hp2 (by omega)) rfl fl3_53 ?_
      refine jr_iload_n hF dX3_mostWantOf_17 (q := 18) rfl rfl ?_
      refine jr_aald hF dX3_mostWantOf_18 (q := 19) rfl (by first | rfl | exact L_pl hpl | exact L_rm hpl | exact L_kd hpl | exact L_lw hpl | exact L_wo hpl | exact L_wr hpl (by omega) | exact L_pl hp2 | exact L_rm hp2 | exact L_kd hp2 | exact L_lw hp2 | exact L_wo hp2 | exact L_wr hp2 (by omega)) (by omega) ?_
      rw [tn]
      refine jr_iload_n hF dX3_mostWantOf_19 (q := 20) rfl rfl ?_
      refine jr_iald hF dX3_mostWantOf_20 (q := 21) rfl (by first | rfl | exact L_pl hpl | exact L_rm hpl | exact L_kd hpl | exact L_lw hpl | exact L_wo hpl | exact L_wr hpl (by omega) | exact L_pl hp2 | exact L_rm hp2 | exact L_kd hp2 | exact L_lw hp2 | exact L_wo hp2 | exact L_wr hp2 (by omega)) (by omega) ?_
      rw [r5]
      refine jr_max hF mxW_ok dX3_mostWantOf_21 (q := 24) rfl lk3_57 (Nat.le_of_ble_eq_true rfl) (by decide) ?_
      refine jr_istore_n hF dX3_mostWantOf_24 (q := 25) rfl (by decide) rfl ?_
      refine jr_iinc hF dX3_mostWantOf_25 (q := 28) rfl (by decide) rfl rfl (by omega) ?_
      refine jr_goto hF dX3_mostWantOf_28 4 (by decide) ?_
      exact ih () trivial
def dz (F : FD) (x : Nat) : Int := if x = f_nm F then -4 else (x : Int)
/-- the way's first i lads by the figure p, the room that is left, what is hoped for -/
def PW (σ : Sg) (F : FD) (ab i p : Nat) : Prop := (∀ j : Nat, j < i → σ 56 (j : Int) = dz F (dgp (f_bs F) i p j)) ∧ (∀ m : Nat, m < f_nm F → σ 57 (m : Int) = f_rm F m - cnd F i p m) ∧ ∀ k : Nat, k ≤ f_nl F → σ 58 (k : Int) = hopR F ab (f_nl F - k)
/-- the best of the ways below c -/
def PB (σ : Sg) (F : FD) (ab c : Nat) : Prop := σ 54 0 = (wB F ab c).1 ∧ ((wB F ab c).1 ≠ -1 → ∀ j : Nat, j < f_nl F → σ 55 (j : Int) = dz F (dgp (f_bs F) (f_nl F) (wB F ab c).2 j))
theorem PB.eq {σ : Sg} {F : FD} {ab c c' : Nat} (h : PB σ F ab c) (e : wB F ab c' = wB F ab c) : PB σ F ab c' := by
  unfold PB
  rw [e]
  exact h
theorem PB.fr {σ σ' : Sg} {F : FD} {ab c : Nat} (h : PB σ F ab c) (h1 : σ' 54 = σ 54) (h2 : σ' 55 = σ 55) : PB σ' F ab c := by
  unfold PB
  rw [h1, h2]
  exact h
theorem mod_bs {F : FD} {p x : Nat} (hx : x ≤ f_nm F) : (p * f_bs F + x) % f_bs F = x ∧ (p * f_bs F + x) / f_bs F = p := by
  have hb : x < f_bs F := Nat.lt_succ_of_le hx
  constructor
  · exact Nat.mul_add_mod_of_lt hb
  · rw [Nat.mul_comm, Nat.mul_add_div (Nat.succ_pos _), Nat.div_eq_of_lt hb, Nat.add_zero]
theorem PW.fr {σ σ' : Sg} {F : FD} {ab i p : Nat} (h : PW σ F ab i p) (h1 : σ' 56 = σ 56) (h2 : σ' 57 = σ 57) (h3 : σ' 58 = σ 58) : PW σ' F ab i p := by
  unfold PW
  rw [h1, h2, h3]
  exact h
theorem cnd_ext {F : FD} {i p x m : Nat} (hx : x ≤ f_nm F) : cnd F (i + 1) (p * f_bs F + x) m = cnd F i p m + (if x = m then 1 else 0) := by
  rw [cnd_succ, (mod_bs hx).1, (mod_bs hx).2]
theorem vlp_ext {F : FD} {i p x : Nat} (hx : x ≤ f_nm F) : vlp F (i + 1) (p * f_bs F + x) = vlp F i p + tm F i x := by
  rw [vlp_succ, (mod_bs hx).1, (mod_bs hx).2]
theorem dgp_ext {F : FD} {i p x : Nat} (hx : x ≤ f_nm F) : (∀ j, j < i → dgp (f_bs F) (i + 1) (p * f_bs F + x) j = dgp (f_bs F) i p j) ∧ dgp (f_bs F) (i + 1) (p * f_bs F + x) i = x := by
  refine ⟨fun j hj => ?_, ?_⟩
  · rw [dgp_succ _ _ _ hj, (mod_bs hx).2]
  · rw [dgp_last, (mod_bs hx).1]
theorem cnd_le (F : FD) (i p m : Nat) : 0 ≤ cnd F i p m ∧ cnd F i p m ≤ i := cnt_le _ _
theorem fsB_ext {F : FD} {ab i p x : Nat} (hx : x ≤ f_nm F) (h : fsB F ab i p = true) (h1 : x < f_nm F → cnd F i p x < f_rm F x ∧ i ≠ ab) : fsB F ab (i + 1) (p * f_bs F + x) = true := by
  rw [fsB_iff] at h ⊢
  refine ⟨fun m hm => ?_, fun ha => ?_⟩
  · rw [cnd_ext hx]
    have := h.1 m hm
    by_cases e : x = m
    · subst e
      rw [if_pos rfl]
      have := h1 hm
      omega
    · rw [if_neg e]
      omega
  · by_cases e : ab = i
    · subst e
      rw [(dgp_ext hx).2]
      by_cases hx2 : x < f_nm F
      · exact absurd rfl (h1 hx2).2
      · omega
    · rw [(dgp_ext hx).1 ab (by omega)]
      exact h.2 (by omega)
theorem pw_mul (p B r : Nat) : p * B ^ (r + 1) = p * B * B ^ r := by rw [Nat.pow_succ, Nat.mul_comm (B ^ r) B, Nat.mul_assoc]
set_option maxRecDepth 100000 in
theorem c_place (F : FD) (ok : okF F) (az : Int) (ab : Nat) (hab : absR az ab) : ∀ (r i : Nat), i + r = f_nl F → ∀ (σ : Sg) (p : Nat), RepC σ 4 F → PW σ F ab i p → PB σ F ab (p * f_bs F ^ r) → fsB F ab i p = true → RV mX3_place (r + 2) [vR 54, vR 4, vI az, vI (i : Int), vI (vlp F i p)] σ (fun σ' => PW σ' F ab i p ∧ PB σ' F ab ((p + 1) * f_bs F ^ r) ∧ ∀ k, k ≠ 54 → k ≠ 55 → k ≠ 56 → k ≠ 57 → σ' k = σ k) := by
  have hpl : (4 : Nat) = 4 ∨ (4 : Nat) = 14 := Or.inl rfl
  have h5 := ok.2.1
  have h3 := ok.1
  intro r
  induction r with
  | zero =>
    intro i hi σ p hC hW hB hf
    have e2 := hW.2.2 i (by omega)
    have e3 := hB.1
    have r2 := hC.2.1
    have hv := vlp_le ok i p (by omega)
    have hh := hopR_le ok ab (f_nl F - i) (by omega)
    have hwb := wB_le ok ab (p * f_bs F ^ 0)
    refine mkRun (by decide +kernel) (Nat.le_of_ble_eq_true rfl) (fun X hF hR => ?_)
    refine jr_iload_n hF dX3_place_0 (q := 1) rfl rfl ?_
    refine jr_iconst hF dX3_place_1 (q := 2) rfl (by decide) ?_
    refine jr_icmp_gt hF dX3_place_2 (q := 5) rfl 21 (by decide) (fun a1 => ?_) (fun a1 => ?_)
    · omega
    · refine jr_iload hF dX3_place_5 (q := 7) rfl rfl ?_
      refine jr_aload_n hF dX3_place_7 (q := 8) rfl rfl ?_
      refine jr_getR (ci := 3) (j := 4) hF dX3_place_8 (q := 11) rfl rfl rfl fl3_21 ?_
      refine jr_iload_n hF dX3_place_11 (q := 12) rfl rfl ?_
      refine jr_iald hF dX3_place_12 (q := 13) rfl rfl (by omega) ?_
      rw [e2]
      refine jr_iadd hF dX3_place_13 (q := 14) rfl (by omega) ?_
      refine jr_aload_n hF dX3_place_14 (q := 15) rfl rfl ?_
      refine jr_getI (ci := 3) (j := 0) hF 0 rfl dX3_place_15 (q := 18) rfl rfl rfl fl3_43 ?_
      rw [e3]
      refine jr_icmp_gt hF dX3_place_18 (q := 21) rfl 22 (by decide) (fun a2 => ?_) (fun a2 => ?_)
      · refine jr_iload_n hF dX3_place_22 (q := 23) rfl rfl ?_
        refine jr_aload_n hF dX3_place_23 (q := 24) rfl rfl ?_
        refine jr_getI (ci := 4) (j := 1) hF 1 rfl dX3_place_24 (q := 27) rfl rfl rfl fl3_35 ?_
        refine jr_icmp_lt hF dX3_place_27 (q := 30) rfl 51 (by decide) (fun a3 => ?_) (fun a3 => ?_)
        · omega
        · refine jr_aload_n hF dX3_place_30 (q := 31) rfl rfl ?_
          refine jr_iload hF dX3_place_31 (q := 33) rfl rfl ?_
          refine jr_putI (ci := 3) (j := 0) hF 0 rfl dX3_place_33 (q := 36) rfl rfl rfl fp3_43 ?_
          refine jr_aload_n hF dX3_place_36 (q := 37) rfl rfl ?_
          refine jr_getR (ci := 3) (j := 2) hF dX3_place_37 (q := 40) rfl rfl rfl fl3_15 ?_
          refine jr_iconst hF dX3_place_40 (q := 41) rfl (by decide) ?_
          refine jr_aload_n hF dX3_place_41 (q := 42) rfl rfl ?_
          refine jr_getR (ci := 3) (j := 1) hF dX3_place_42 (q := 45) rfl rfl rfl fl3_9 ?_
          refine jr_iconst hF dX3_place_45 (q := 46) rfl (by decide) ?_
          refine jr_iconst hF dX3_place_46 (q := 47) rfl (by decide) ?_
          refine jr_copy0 hF cpW_ok dX3_place_47 (q := 50) rfl lk3_29 rfl rfl (by omega) (Nat.le_of_ble_eq_true rfl) (by decide) (fun σ1 f1 g1 => ?_)
          have ei : i = f_nl F := by omega
          subst ei
          rw [Nat.sub_self] at a2
          replace a2 : (wB F ab (p * f_bs F ^ 0)).1 < vlp F (f_nl F) p + 0 := a2
          rw [Nat.pow_zero, Nat.mul_one] at a2 hB
          have ew : wB F ab ((p + 1) * f_bs F ^ 0) = (vlp F (f_nl F) p, p) := by
            rw [Nat.pow_zero, Nat.mul_one, wB, if_pos ⟨hf, by omega⟩]
          refine jr_retV hF hR dX3_place_50 rfl ⟨hW.fr ?_ ?_ ?_, ⟨?_, fun _ j hj => ?_⟩, fun k b1 b2 b3 b4 => ?_⟩
          · rw [f1 56 (by decide), up_ne (by decide)]
          · rw [f1 57 (by decide), up_ne (by decide)]
          · rw [f1 58 (by decide), up_ne (by decide)]
          · rw [ew, f1 54 (by decide)]; simp [up]
          · rw [ew, g1, if_pos (by omega), up_ne (by decide)]
            exact hW.1 j hj
          · rw [f1 k b2, up_ne b1]
      · have ec := wB_cut (ab := ab) (p := p) (r := 0) hi (fun _ => by rw [show f_nl F - i = 0 by omega] at a2; exact a2)
        refine jr_retV hF hR dX3_place_21 rfl ⟨hW, hB.eq ec, fun _ _ _ _ _ => rfl⟩
  | succ r ih0 =>
    intro i hi σ p hC hW hB hf
    have e2 := hW.2.2 i (by omega)
    have e3 := hB.1
    have r2 := hC.2.1
    have hv := vlp_le ok i p (by omega)
    have hh := hopR_le ok ab (f_nl F - i) (by omega)
    have hwb := wB_le ok ab (p * f_bs F ^ (r + 1))
    have ha := absR_iff hab (show i < 5 by omega)
    refine mkRun (by decide +kernel) (Nat.le_of_ble_eq_true rfl) (fun X hF hR => ?_)
    have hexit : ∀ (m : Int) (σ2 : Sg), PW σ2 F ab i p → PB σ2 F ab ((p * f_bs F + f_nm F) * f_bs F ^ r) → (∀ k, k ≠ 54 → k ≠ 55 → k ≠ 56 → k ≠ 57 → σ2 k = σ k) → Gs X 135 [some (vR 54), some (vR 4), some (vI az), some (vI (i : Int)), some (vI (vlp F i p)), some (vI m)] [] σ2 := by
      intro m σ2 b1 b2 b3
      refine jr_aload_n hF dX3_place_135 (q := 136) rfl rfl ?_
      refine jr_getR (ci := 3) (j := 2) hF dX3_place_136 (q := 139) rfl rfl rfl fl3_15 ?_
      refine jr_iload_n hF dX3_place_139 (q := 140) rfl rfl ?_
      refine jr_bipush hF dX3_place_140 (q := 142) rfl (by decide) (by decide +kernel) ?_
      refine jr_iast hF dX3_place_142 (q := 143) rfl rfl (by omega) ?_
      refine jr_aload_n hF dX3_place_143 (q := 144) rfl rfl ?_
      refine jr_aload_n hF dX3_place_144 (q := 145) rfl rfl ?_
      refine jr_iload_n hF dX3_place_145 (q := 146) rfl rfl ?_
      refine jr_iload_n hF dX3_place_146 (q := 147) rfl rfl ?_
      refine jr_iconst hF dX3_place_147 (q := 148) rfl (by decide) ?_
      refine jr_iadd hF dX3_place_148 (q := 149) rfl (by omega) ?_
      refine jr_iload hF dX3_place_149 (q := 151) rfl rfl ?_
      have hC2 : RepC (up σ2 56 (i : Int) (-4)) 4 F := hC.fr h5 (fun k l1 l2 => by rw [up_ne (by omega)]; exact b3 k (by omega) (by omega) (by omega) (by omega))
      have hW2 : PW (up σ2 56 (i : Int) (-4)) F ab (i + 1) (p * f_bs F + f_nm F) := by
        refine ⟨fun j hj => ?_, fun m hm => ?_, fun k hk => ?_⟩
        · rw [up_nat]
          by_cases e : j = i
          · subst e
            rw [if_pos rfl, (dgp_ext (Nat.le_refl _)).2]
            unfold dz
            rw [if_pos rfl]
          · rw [if_neg e, (dgp_ext (Nat.le_refl _)).1 j (by omega)]
            exact b1.1 j (by omega)
        · rw [up_ne (by decide), cnd_ext (Nat.le_refl _), if_neg (by omega), Int.add_zero]
          exact b1.2.1 m hm
        · rw [up_ne (by decide)]
          exact b1.2.2 k hk
      have hB2 := b2.fr (σ' := up σ2 56 (i : Int) (-4)) (up_ne (by decide)) (up_ne (by decide))
      have hfs : fsB F ab (i + 1) (p * f_bs F + f_nm F) = true := fsB_ext (Nat.le_refl _) hf (fun h => by omega)
      have hcall := ih0 (i + 1) (by omega) _ _ hC2 hW2 hB2 hfs
      rw [vlp_ext (Nat.le_refl _), show tm F i (f_nm F) = 0 by unfold tm; rw [if_pos rfl], Int.add_zero] at hcall
      refine jr_cS5V hF (hcall) dX3_place_151 (q := 154) rfl lk3_46 vX3_place kX3_place (by omega) (Nat.le_of_ble_eq_true rfl) (fun σ3 hz => ?_)
      obtain ⟨c1, c2, c3⟩ := hz
      refine jr_retV hF hR dX3_place_154 rfl ⟨⟨fun j hj => ?_, fun m hm => ?_, c1.2.2⟩, ?_, fun k l1 l2 l3 l4 => ?_⟩
      · rw [c1.1 j (by omega), (dgp_ext (Nat.le_refl _)).1 j hj]
      · rw [c1.2.1 m hm, cnd_ext (Nat.le_refl _), if_neg (by omega), Int.add_zero]
      · rw [show (p + 1) * f_bs F ^ (r + 1) = (p * f_bs F + f_nm F + 1) * f_bs F ^ r by rw [pw_mul, Nat.add_mul, Nat.one_mul]; rfl]
        exact c2
      · rw [c3 k l1 l2 l3 l4, up_ne l3]
        exact b3 k l1 l2 l3 l4
    refine jr_iload_n hF dX3_place_0 (q := 1) rfl rfl ?_
    refine jr_iconst hF dX3_place_1 (q := 2) rfl (by decide) ?_
    refine jr_icmp_gt hF dX3_place_2 (q := 5) rfl 21 (by decide) (fun a1 => ?_) (fun a1 => ?_)
    · omega
    · refine jr_iload hF dX3_place_5 (q := 7) rfl rfl ?_
      refine jr_aload_n hF dX3_place_7 (q := 8) rfl rfl ?_
      refine jr_getR (ci := 3) (j := 4) hF dX3_place_8 (q := 11) rfl rfl rfl fl3_21 ?_
      refine jr_iload_n hF dX3_place_11 (q := 12) rfl rfl ?_
      refine jr_iald hF dX3_place_12 (q := 13) rfl rfl (by omega) ?_
      rw [e2]
      refine jr_iadd hF dX3_place_13 (q := 14) rfl (by omega) ?_
      refine jr_aload_n hF dX3_place_14 (q := 15) rfl rfl ?_
      refine jr_getI (ci := 3) (j := 0) hF 0 rfl dX3_place_15 (q := 18) rfl rfl rfl fl3_43 ?_
      rw [e3]
      refine jr_icmp_gt hF dX3_place_18 (q := 21) rfl 22 (by decide) (fun a2 => ?_) (fun a2 => ?_)
      · refine jr_iload_n hF dX3_place_22 (q := 23) rfl rfl ?_
        refine jr_aload_n hF dX3_place_23 (q := 24) rfl rfl ?_
        refine jr_getI (ci := 4) (j := 1) hF 1 rfl dX3_place_24 (q := 27) rfl rfl rfl fl3_35 ?_
        refine jr_icmp_lt hF dX3_place_27 (q := 30) rfl 51 (by decide) (fun a3 => ?_) (fun a3 => ?_)
        · refine jr_iconst hF dX3_place_51 (q := 52) rfl (by decide) ?_
          refine jr_istore hF dX3_place_52 (q := 54) rfl (by decide) rfl ?_
          refine gs_loop (α := Sg) (fun k _ => [some (vR 54), some (vR 4), some (vI az), some (vI (i : Int)), some (vI (vlp F i p)), some (vI (k : Int))]) (fun σ' => σ') (fun m σ2 => PW σ2 F ab i p ∧ PB σ2 F ab ((p * f_bs F + m) * f_bs F ^ r) ∧ ∀ k, k ≠ 54 → k ≠ 55 → k ≠ 56 → k ≠ 57 → σ2 k = σ k) (f_nm F) (fun σ2 h => ?_) (fun m σ2 hm h ih => ?_) σ ⟨hW, by rw [pw_mul] at hB; exact hB, fun _ _ _ _ _ => rfl⟩
          · obtain ⟨b1, b2, b3⟩ := h
            have q1 : σ2 4 0 = (f_nm F : Int) := by rw [b3 4 (by decide) (by decide) (by decide) (by decide)]; exact hC.1
            refine jr_iload hF dX3_place_54 (q := 56) rfl rfl ?_
            refine jr_aload_n hF dX3_place_56 (q := 57) rfl rfl ?_
            refine jr_getI (ci := 4) (j := 0) hF 0 rfl dX3_place_57 (q := 60) rfl rfl rfl fl3_50 ?_
            refine jr_icmp_ge hF dX3_place_60 (q := 63) rfl 135 (by decide) (fun a4 => ?_) (fun a4 => ?_)
            · exact hexit _ σ2 b1 b2 b3
            · omega
          · obtain ⟨b1, b2, b3⟩ := h
            have hC2 : RepC σ2 4 F := hC.fr h5 (fun k l1 l2 => b3 k (by omega) (by omega) (by omega) (by omega))
            have q1 := hC2.1
            have q5 : σ2 (8 + i) (m : Int) = f_wt F i m := hC2.want (by omega) hm
            have hwt := ok.2.2.2.2.1 i m (by omega) hm
            have hrm := ok.2.2.1 m hm
            have e4 := b1.2.1 m hm
            have hcd := cnd_le F i p m
            refine jr_iload hF dX3_place_54 (q := 56) rfl rfl ?_
            refine jr_aload_n hF dX3_place_56 (q := 57) rfl rfl ?_
            refine jr_getI (ci := 4) (j := 0) hF 0 rfl dX3_place_57 (q := 60) rfl rfl rfl fl3_50 ?_
            refine jr_icmp_ge hF dX3_place_60 (q := 63) rfl 135 (by decide) (fun a4 => ?_) (fun a4 => ?_)
            · omega
            · refine jr_iload_n hF dX3_place_63 (q := 64) rfl rfl ?_
              refine jr_iload_n hF dX3_place_64 (q := 65) rfl rfl ?_
              refine jr_icmp_eq hF dX3_place_65 (q := 68) rfl 135 (by decide) (fun a5 => ?_) (fun a5 => ?_)
              · have hia : i = ab := by omega
                refine hexit _ σ2 b1 ?_ b3
                have key : ∀ n : Nat, m + n = f_nm F → wB F ab ((p * f_bs F + (m + n)) * f_bs F ^ r) = wB F ab ((p * f_bs F + m) * f_bs F ^ r) := by
                  have gen : ∀ n : Nat, m + n ≤ f_nm F → wB F ab ((p * f_bs F + (m + n)) * f_bs F ^ r) = wB F ab ((p * f_bs F + m) * f_bs F ^ r) := by
                    intro n
                    induction n with
                    | zero => intro _; rfl
                    | succ n ihn =>
                      intro hn
                      rw [← ihn (by omega)]
                      refine wB_cut (i := i + 1) (p := p * f_bs F + (m + n)) (by omega) (fun hfs => ?_)
                      have := (fsB_iff.mp hfs).2 (by omega)
                      rw [← hia, (dgp_ext (by omega)).2] at this
                      omega
                  exact fun n hn => gen n (by omega)
                have := key (f_nm F - m) (by omega)
                rw [show m + (f_nm F - m) = f_nm F by omega] at this
                exact b2.eq this
              · refine jr_aload_n hF dX3_place_68 (q := 69) rfl rfl ?_
                refine jr_getR (ci := 3) (j := 3) hF dX3_place_69 (q := 72) rfl rfl rfl fl3_18 ?_
                refine jr_iload hF dX3_place_72 (q := 74) rfl rfl ?_
                refine jr_iald hF dX3_place_74 (q := 75) rfl rfl (by omega) ?_
                rw [e4]
                refine jr_if_le hF dX3_place_75 (q := 78) rfl 129 (by decide) (fun a6 => ?_) (fun a6 => ?_)
                · refine jr_iinc hF dX3_place_129 (q := 132) rfl (by decide) rfl rfl (by omega) ?_
                  refine jr_goto hF dX3_place_132 54 (by decide) ?_
                  refine ih σ2 ⟨b1, b2.eq (wB_cut (i := i + 1) (p := p * f_bs F + m) (by omega) (fun hfs => ?_)), b3⟩
                  have := (fsB_iff.mp hfs).1 m hm
                  rw [cnd_ext (by omega), if_pos rfl] at this
                  omega
                · refine jr_aload_n hF dX3_place_78 (q := 79) rfl rfl ?_
                  refine jr_getR (ci := 3) (j := 3) hF dX3_place_79 (q := 82) rfl rfl rfl fl3_18 ?_
                  refine jr_iload hF dX3_place_82 (q := 84) rfl rfl ?_
                  refine jr_dup2 hF dX3_place_84 (q := 85) rfl rfl rfl ?_
                  refine jr_iald hF dX3_place_85 (q := 86) rfl rfl (by omega) ?_
                  rw [e4]
                  refine jr_iconst hF dX3_place_86 (q := 87) rfl (by decide) ?_
                  refine jr_isub hF dX3_place_87 (q := 88) rfl (by omega) ?_
                  refine jr_iast hF dX3_place_88 (q := 89) rfl rfl (by omega) ?_
                  refine jr_aload_n hF dX3_place_89 (q := 90) rfl rfl ?_
                  refine jr_getR (ci := 3) (j := 2) hF dX3_place_90 (q := 93) rfl rfl rfl fl3_15 ?_
                  refine jr_iload_n hF dX3_place_93 (q := 94) rfl rfl ?_
                  refine jr_iload hF dX3_place_94 (q := 96) rfl rfl ?_
                  refine jr_iast hF dX3_place_96 (q := 97) rfl rfl (by omega) ?_
                  refine jr_aload_n hF dX3_place_97 (q := 98) rfl rfl ?_
                  refine jr_aload_n hF dX3_place_98 (q := 99) rfl rfl ?_
                  refine jr_iload_n hF dX3_place_99 (q := 100) rfl rfl ?_
                  refine jr_iload_n hF dX3_place_100 (q := 101) rfl rfl ?_
                  refine jr_iconst hF dX3_place_101 (q := 102) rfl (by decide) ?_
                  refine jr_iadd hF dX3_place_102 (q := 103) rfl (by omega) ?_
                  refine jr_iload hF dX3_place_103 (q := 105) rfl rfl ?_
                  refine jr_aload_n hF dX3_place_105 (q := 106) rfl rfl ?_
                  refine jr_getR (ci := 4) (j := 4) hF dX3_place_106 (q := 109) rfl rfl rfl fl3_53 ?_
                  refine jr_iload_n hF dX3_place_109 (q := 110) rfl rfl ?_
                  refine jr_aald hF dX3_place_110 (q := 111) rfl rfl (by omega) ?_
                  rw [tn]
                  refine jr_iload hF dX3_place_111 (q := 113) rfl rfl ?_
                  refine jr_iald hF dX3_place_113 (q := 114) rfl (by first | rfl | exact L_pl hpl | exact L_rm hpl | exact L_kd hpl | exact L_lw hpl | exact L_wo hpl | exact L_wr hpl (by omega) | exact L_pl hp2 | exact L_rm hp2 | exact L_kd hp2 | exact L_lw hp2 | exact L_wo hp2 | exact L_wr hp2 (by omega)) (by omega) ?_
                  rw [up_ne (show 8 + i ≠ 56 by omega), up_ne (show 8 + i ≠ 57 by omega), q5]
                  refine jr_iadd hF dX3_place_114 (q := 115) rfl (by omega) ?_
                  have hC3 : RepC (up (up σ2 57 (m : Int) (f_rm F m - cnd F i p m - 1)) 56 (i : Int) (m : Int)) 4 F := hC2.fr h5 (fun k l1 l2 => by rw [up_ne (by omega), up_ne (by omega)])
                  have hW3 : PW (up (up σ2 57 (m : Int) (f_rm F m - cnd F i p m - 1)) 56 (i : Int) (m : Int)) F ab (i + 1) (p * f_bs F + m) := by
                    refine ⟨fun j hj => ?_, fun m' hm' => ?_, fun k hk => ?_⟩
                    · rw [up_nat]
                      by_cases e : j = i
                      · subst e
                        rw [if_pos rfl, (dgp_ext (by omega)).2]
                        unfold dz
                        rw [if_neg (by omega)]
                      · rw [if_neg e, (dgp_ext (by omega)).1 j (by omega), up_ne (by decide)]
                        exact b1.1 j (by omega)
                    · rw [up_ne (by decide), up_nat, cnd_ext (by omega)]
                      by_cases e : m' = m
                      · rw [if_pos e, if_pos e.symm, e]
                        omega
                      · rw [if_neg e, if_neg (by omega), Int.add_zero]
                        exact b1.2.1 m' hm'
                    · rw [up_ne (by decide), up_ne (by decide)]
                      exact b1.2.2 k hk
                  have hB3 := b2.fr (σ' := up (up σ2 57 (m : Int) (f_rm F m - cnd F i p m - 1)) 56 (i : Int) (m : Int)) (by rw [up_ne (by decide), up_ne (by decide)]) (by rw [up_ne (by decide), up_ne (by decide)])
                  have hfs : fsB F ab (i + 1) (p * f_bs F + m) = true := fsB_ext (by omega) hf (fun _ => ⟨by omega, by omega⟩)
                  have hcall := ih0 (i + 1) (by omega) _ _ hC3 hW3 hB3 hfs
                  rw [vlp_ext (by omega), show tm F i m = f_wt F i m by unfold tm; rw [if_neg (by omega)]] at hcall
                  refine jr_cS5V hF (hcall) dX3_place_115 (q := 118) rfl lk3_46 vX3_place kX3_place (by omega) (Nat.le_of_ble_eq_true rfl) (fun σ3 hz => ?_)
                  obtain ⟨c1, c2, c3⟩ := hz
                  have e5 := c1.2.1 m hm
                  rw [cnd_ext (by omega), if_pos rfl] at e5
                  refine jr_aload_n hF dX3_place_118 (q := 119) rfl rfl ?_
                  refine jr_getR (ci := 3) (j := 3) hF dX3_place_119 (q := 122) rfl rfl rfl fl3_18 ?_
                  refine jr_iload hF dX3_place_122 (q := 124) rfl rfl ?_
                  refine jr_dup2 hF dX3_place_124 (q := 125) rfl rfl rfl ?_
                  refine jr_iald hF dX3_place_125 (q := 126) rfl rfl (by omega) ?_
                  rw [e5]
                  refine jr_iconst hF dX3_place_126 (q := 127) rfl (by decide) ?_
                  refine jr_iadd hF dX3_place_127 (q := 128) rfl (by omega) ?_
                  refine jr_iast hF dX3_place_128 (q := 129) rfl rfl (by omega) ?_
                  refine jr_iinc hF dX3_place_129 (q := 132) rfl (by decide) rfl rfl (by omega) ?_
                  refine jr_goto hF dX3_place_132 54 (by decide) ?_
                  refine ih _ ⟨⟨fun j hj => ?_, fun m' hm' => ?_, fun k hk => ?_⟩, ?_, fun k l1 l2 l3 l4 => ?_⟩
                  · rw [up_ne (by decide), c1.1 j (by omega), (dgp_ext (by omega)).1 j hj]
                  · rw [up_nat]
                    by_cases e : m' = m
                    · rw [if_pos e, e]
                      omega
                    · rw [if_neg e, c1.2.1 m' hm', cnd_ext (by omega), if_neg (by omega), Int.add_zero]
                  · rw [up_ne (by decide)]
                    exact c1.2.2 k hk
                  · exact c2.fr (up_ne (by decide)) (up_ne (by decide))
                  · rw [up_ne l4, c3 k l1 l2 l3 l4, up_ne l3, up_ne l4]
                    exact b3 k l1 l2 l3 l4
        · omega
      · have ec := wB_cut (ab := ab) (p := p) hi (fun _ => by rw [show f_nl F - i = r + 1 by omega] at a2; exact a2)
        refine jr_retV hF hR dX3_place_21 rfl ⟨hW, hB.eq ec, fun _ _ _ _ _ => rfl⟩

