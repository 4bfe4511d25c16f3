/-! ===== Game ===== -/
def f_lim (F : FD) (i : Nat) (a : Int) : FD := (f_nm F, f_nl F, f_rm F, f_kd F, f_wt F, st1 (f_lm F) i a, f_ca F, f_sp F)
theorem okF_lim {F : FD} (ok : okF F) (i : Nat) {a : Int} (ha : 1 ≤ a ∧ a ≤ 10) : okF (f_lim F i a) := by
  obtain ⟨o1, o2, o3, o4, o5, o6, o7, o8⟩ := ok
  refine ⟨o1, o2, o3, o4, o5, fun k hk => ?_, o7, o8⟩
  show 1 ≤ st1 (f_lm F) i a k ∧ st1 (f_lm F) i a k ≤ 10
  unfold st1
  split
  · exact ha
  · exact o6 k hk
theorem RepC.lim1 {σ : Sg} {pl : Nat} {F : FD} (h : RepC σ pl F) (h5 : f_nl F ≤ 5) {i : Nat} (hi : i < 5) (a : Int) : RepC (up σ (pl + 9) (i : Int) a) pl (f_lim F i a) := by
  obtain ⟨q1, q2, q3, q4, q5, q6, q7, q8⟩ := h
  refine ⟨?_, ?_, fun m hm => ?_, fun k hk => ?_, fun k m hk hm => ?_, fun k hk => ?_, ?_, ?_⟩
  · rw [up_ne (by omega)]; exact q1
  · rw [up_ne (by omega)]; exact q2
  · rw [up_ne (by omega)]; exact q3 m hm
  · rw [up_ne (by omega)]; exact q4 k hk
  · replace hk : k < f_nl F := hk
    rw [up_ne (by omega)]; exact q5 k m hk hm
  · rw [up_nat]
    show _ = st1 (f_lm F) i a k
    unfold st1
    split
    · rfl
    · exact q6 k hk
  · refine Eq.trans ?_ q7
    unfold up
    rw [if_neg (by omega)]
  · refine Eq.trans ?_ q8
    unfold up
    rw [if_neg (by omega)]
/-- the limits of two lads said anew -/
def f_lim2 (F : FD) (i j : Nat) (a b : Int) : FD := f_lim (f_lim F i a) j b
theorem f_lim_self (F : FD) (i : Nat) : f_lim F i (f_lm F i) = F := by
  unfold f_lim
  have : st1 (f_lm F) i (f_lm F i) = f_lm F := by
    funext k
    unfold st1
    split
    · rename_i h; rw [h]
    · rfl
  rw [this]
theorem f_lim_lim (F : FD) (i : Nat) (a b : Int) : f_lim (f_lim F i a) i b = f_lim F i b := by
  unfold f_lim
  have : st1 (st1 (f_lm F) i a) i b = st1 (f_lm F) i b := by
    funext k
    unfold st1
    split <;> rfl
  show (_, _, _, _, _, st1 (st1 (f_lm F) i a) i b, _, _) = _
  rw [this]
theorem f_lim_comm (F : FD) {i j : Nat} (h : i ≠ j) (a b : Int) : f_lim (f_lim F i a) j b = f_lim (f_lim F j b) i a := by
  unfold f_lim
  have : st1 (st1 (f_lm F) i a) j b = st1 (st1 (f_lm F) j b) i a := by
    funext k
    unfold st1
    by_cases h1 : k = j
    · rw [if_pos h1, if_neg (by omega), if_pos h1]
    · rw [if_neg h1, if_neg h1]
  show (_, _, _, _, _, st1 (st1 (f_lm F) i a) j b, _, _) = (_, _, _, _, _, st1 (st1 (f_lm F) j b) i a, _, _)
  rw [this]
def g_one (F : FD) (i j : Nat) (a b : Nat) : Int := f_gn (f_lim2 F i j a b) (f_fair (f_lim2 F i j a b) 99 (f_nm F)) i
def g_two (F : FD) (i j : Nat) (a b : Nat) : Int := f_gn (f_lim2 F i j a b) (f_fair (f_lim2 F i j a b) 99 (f_nm F)) j
theorem L_g1 {a : Nat} (h : a < 11) : Lay[31 + a]? = some (1, 11, 0, []) := by
  have : a = 0 ∨ a = 1 ∨ a = 2 ∨ a = 3 ∨ a = 4 ∨ a = 5 ∨ a = 6 ∨ a = 7 ∨ a = 8 ∨ a = 9 ∨ a = 10 := by omega
  rcases this with rfl | rfl | rfl | rfl | rfl | rfl | rfl | rfl | rfl | rfl | rfl <;> rfl
theorem L_g2 {a : Nat} (h : a < 11) : Lay[43 + a]? = some (1, 11, 0, []) := by
  have : a = 0 ∨ a = 1 ∨ a = 2 ∨ a = 3 ∨ a = 4 ∨ a = 5 ∨ a = 6 ∨ a = 7 ∨ a = 8 ∨ a = 9 ∨ a = 10 := by omega
  rcases this with rfl | rfl | rfl | rfl | rfl | rfl | rfl | rfl | rfl | rfl | rfl <;> rfl
/-- the rows of gains, up to row A and in it up to B -/
def GR (σ : Sg) (F : FD) (i j : Nat) (A B : Nat) : Prop := ∀ a b : Nat, 1 ≤ a → 1 ≤ b → b ≤ 10 → (a < A ∨ (a = A ∧ b < B)) → σ (31 + a) (b : Int) = g_one F i j a b ∧ σ (43 + a) (b : Int) = g_two F i j a b
set_option maxRecDepth 100000 in
theorem c_play (σ : Sg) (F : FD) (hC : RepC σ 14 F) (ok : okF F) (i j : Nat) (hi : i < f_nl F) (hj : j < f_nl F) (hij : i ≠ j) : RV mX1_play 5 [vR 29, vR 14, vR 24, vI (i : Int), vI (j : Int)] σ (fun σ' => GR σ' F i j 11 0 ∧ ∀ k, k < 23 ∨ 53 < k ∨ k = 24 ∨ k = 29 → σ' k = σ k) := by
  have hpl : (14 : Nat) = 4 ∨ (14 : Nat) = 14 := Or.inr rfl
  have h5 := ok.2.1
  have hab : absR (-1) 99 := Or.inl ⟨by decide, rfl⟩
  refine mkRun (by decide +kernel) (Nat.le_of_ble_eq_true rfl) (fun X hF hR => ?_)
  refine jr_iconst hF dX1_play_0 (q := 1) rfl (by decide) ?_
  refine jr_istore hF dX1_play_1 (q := 3) rfl (by decide) rfl ?_
  refine gs_loop (α := Sg) (fun k _ => [some (vR 29), some (vR 14), some (vR 24), some (vI (i : Int)), some (vI (j : Int)), some (vI ((k + 1 : Nat) : Int)), none]) (fun σ' => σ') (fun A σ' => GR σ' F i j (A + 1) 0 ∧ (∃ u v, RepC σ' 14 (f_lim2 F i j u v)) ∧ ∀ k, k < 23 ∨ 53 < k ∨ k = 24 ∨ k = 29 → σ' k = σ k) 10 (fun σ' h => ?_) (fun A σ' hA h ih => ?_) σ ⟨fun a b h1 h2 h3 h4 => by omega, ⟨f_lm F i, f_lm F j, by unfold f_lim2; rw [f_lim_self, f_lim_self]; exact hC⟩, fun _ _ => rfl⟩
  · obtain ⟨i1, i2, i3⟩ := h
    refine jr_iload hF dX1_play_3 (q := 5) rfl rfl ?_
    refine jr_bipush hF dX1_play_5 (q := 7) rfl (by decide) (by decide +kernel) ?_
    refine jr_icmp_gt hF dX1_play_7 (q := 10) rfl 88 (by decide) (fun h1 => ?_) (fun h1 => ?_)
    · refine jr_retV hF hR dX1_play_88 rfl ⟨i1, i3⟩
    · omega
  · obtain ⟨i1, ⟨u, v, i2⟩, i3⟩ := h
    refine jr_iload hF dX1_play_3 (q := 5) rfl rfl ?_
    refine jr_bipush hF dX1_play_5 (q := 7) rfl (by decide) (by decide +kernel) ?_
    refine jr_icmp_gt hF dX1_play_7 (q := 10) rfl 88 (by decide) (fun h1 => ?_) (fun h1 => ?_)
    · omega
    · refine jr_aload_n hF dX1_play_10 (q := 11) rfl rfl ?_
      refine jr_getR (ci := 4) (j := 5) hF dX1_play_11 (q := 14) rfl rfl rfl fl1_19 ?_
      refine jr_iload_n hF dX1_play_14 (q := 15) rfl rfl ?_
      refine jr_iload hF dX1_play_15 (q := 17) rfl rfl ?_
      refine jr_iast hF dX1_play_17 (q := 18) rfl rfl (by omega) ?_
      refine jr_iconst hF dX1_play_18 (q := 19) rfl (by decide) ?_
      refine jr_istore hF dX1_play_19 (q := 21) rfl (by decide) rfl ?_
      have hC1 : RepC (up σ' 23 (i : Int) ((A + 1 : Nat) : Int)) 14 (f_lim2 F i j ((A + 1 : Nat) : Int) v) := by
        have := i2.lim1 (i := i) h5 (by omega) ((A + 1 : Nat) : Int)
        unfold f_lim2 at this ⊢
        rw [f_lim_comm _ (Ne.symm hij), f_lim_lim] at this
        exact this
      refine gs_loop (α := Sg) (fun k _ => [some (vR 29), some (vR 14), some (vR 24), some (vI (i : Int)), some (vI (j : Int)), some (vI ((A + 1 : Nat) : Int)), some (vI ((k + 1 : Nat) : Int))]) (fun σ' => σ') (fun B σ2 => GR σ2 F i j (A + 1) (B + 1) ∧ (∃ v, RepC σ2 14 (f_lim2 F i j ((A + 1 : Nat) : Int) v)) ∧ ∀ k, k < 23 ∨ 53 < k ∨ k = 24 ∨ k = 29 → σ2 k = σ k) 10 (fun σ2 h2 => ?_) (fun B σ2 hB h2 ih2 => ?_) _ ⟨fun a b h1 h2 h3 h4 => by rw [up_ne (by omega), up_ne (by omega)]; exact i1 a b h1 h2 h3 (by omega), ⟨v, hC1⟩, fun k hk => by rw [up_ne (by omega)]; exact i3 k hk⟩
      · obtain ⟨j1, ⟨v2, j2⟩, j3⟩ := h2
        refine jr_iload hF dX1_play_21 (q := 23) rfl rfl ?_
        refine jr_bipush hF dX1_play_23 (q := 25) rfl (by decide) (by decide +kernel) ?_
        refine jr_icmp_gt hF dX1_play_25 (q := 28) rfl 82 (by decide) (fun h3 => ?_) (fun h3 => ?_)
        · refine jr_fg 6 ?_
          refine jr_iinc hF dX1_play_82 (q := 85) rfl (by decide) rfl rfl (by omega) ?_
          refine jr_goto hF dX1_play_85 3 (by decide) ?_
          exact ih σ2 ⟨fun a b k1 k2 k3 k4 => j1 a b k1 k2 k3 (by omega), ⟨_, _, j2⟩, j3⟩
        · omega
      · obtain ⟨j1, ⟨v2, j2⟩, j3⟩ := h2
        refine jr_iload hF dX1_play_21 (q := 23) rfl rfl ?_
        refine jr_bipush hF dX1_play_23 (q := 25) rfl (by decide) (by decide +kernel) ?_
        refine jr_icmp_gt hF dX1_play_25 (q := 28) rfl 82 (by decide) (fun h3 => ?_) (fun h3 => ?_)
        · omega
        · refine jr_aload_n hF dX1_play_28 (q := 29) rfl rfl ?_
          refine jr_getR (ci := 4) (j := 5) hF dX1_play_29 (q := 32) rfl rfl rfl fl1_19 ?_
          refine jr_iload hF dX1_play_32 (q := 34) rfl rfl ?_
          refine jr_iload hF dX1_play_34 (q := 36) rfl rfl ?_
          refine jr_iast hF dX1_play_36 (q := 37) rfl rfl (by omega) ?_
          refine jr_aload_n hF dX1_play_37 (q := 38) rfl rfl ?_
          refine jr_aload_n hF dX1_play_38 (q := 39) rfl rfl ?_
          refine jr_iconst hF dX1_play_39 (q := 40) rfl (by decide) ?_
          have hC2 : RepC (up σ2 23 (j : Int) ((B + 1 : Nat) : Int)) 14 (f_lim2 F i j ((A + 1 : Nat) : Int) ((B + 1 : Nat) : Int)) := by
            have := j2.lim1 (i := j) h5 (by omega) ((B + 1 : Nat) : Int)
            unfold f_lim2 at this ⊢
            rw [f_lim_lim] at this
            exact this
          have ok2 : okF (f_lim2 F i j ((A + 1 : Nat) : Int) ((B + 1 : Nat) : Int)) := okF_lim (okF_lim ok i (by omega)) j (by omega)
          refine jr_cV2V hF (c_hold _ 14 hpl _ hC2 ok2 (-1) 99 hab) dX1_play_40 (q := 43) rfl lk1_25 vX2_hold kX2_hold rfl rfl rfl (by decide) (Nat.le_of_ble_eq_true rfl) (fun σ3 hz => ?_)
          obtain ⟨k1, -, k3⟩ := hz
          have hC3 : RepC σ3 14 (f_lim2 F i j ((A + 1 : Nat) : Int) ((B + 1 : Nat) : Int)) := hC2.fr ok2.2.1 (fun k l1 l2 => k3 k (by omega) (by omega) (by omega) (by omega))
          have hw := wOK_fair ok2 99 (f_nm (f_lim2 F i j ((A + 1 : Nat) : Int) ((B + 1 : Nat) : Int)))
          refine jr_aload_n hF dX1_play_43 (q := 44) rfl rfl ?_
          refine jr_getR (ci := 1) (j := 3) hF dX1_play_44 (q := 47) rfl rfl rfl fl1_11 ?_
          refine jr_iload hF dX1_play_47 (q := 49) rfl rfl ?_
          refine jr_aald hF dX1_play_49 (q := 50) rfl rfl (by omega) ?_
          rw [tn]
          refine jr_iload hF dX1_play_50 (q := 52) rfl rfl ?_
          refine jr_aload_n hF dX1_play_52 (q := 53) rfl rfl ?_
          refine jr_aload_n hF dX1_play_53 (q := 54) rfl rfl ?_
          refine jr_iload_n hF dX1_play_54 (q := 55) rfl rfl ?_
          refine jr_cV2I hF (c_gainOf σ3 14 hpl _ hC3 ok2 99 _ hw k1 i hi) dX1_play_55 (q := 58) rfl lk1_31 vX2_gainOf kX2_gainOf rfl rfl rfl (by decide) (Nat.le_of_ble_eq_true rfl) (fun z σ4 hz => ?_)
          obtain ⟨rfl, rfl⟩ := hz
          refine jr_iast hF dX1_play_58 (q := 59) rfl (L_g1 (by omega)) (by omega) ?_
          refine jr_aload_n hF dX1_play_59 (q := 60) rfl rfl ?_
          refine jr_getR (ci := 1) (j := 4) hF dX1_play_60 (q := 63) rfl rfl rfl fl1_16 ?_
          refine jr_iload hF dX1_play_63 (q := 65) rfl rfl ?_
          refine jr_aald hF dX1_play_65 (q := 66) rfl rfl (by omega) ?_
          rw [tn]
          have k1' : HR (up σ3 (31 + (A + 1)) ((B + 1 : Nat) : Int) (f_gn (f_lim2 F i j ((A + 1 : Nat) : Int) ((B + 1 : Nat) : Int)) (f_fair (f_lim2 F i j ((A + 1 : Nat) : Int) ((B + 1 : Nat) : Int)) 99 (f_nm (f_lim2 F i j ((A + 1 : Nat) : Int) ((B + 1 : Nat) : Int)))) i)) _ _ := k1.fr (up_ne (by omega)) (up_ne (by omega))
          have hC4 := hC3.fr (σ' := up σ3 (31 + (A + 1)) ((B + 1 : Nat) : Int) (f_gn (f_lim2 F i j ((A + 1 : Nat) : Int) ((B + 1 : Nat) : Int)) (f_fair (f_lim2 F i j ((A + 1 : Nat) : Int) ((B + 1 : Nat) : Int)) 99 (f_nm (f_lim2 F i j ((A + 1 : Nat) : Int) ((B + 1 : Nat) : Int)))) i)) ok2.2.1 (fun k l1 l2 => up_ne (by omega))
          refine jr_iload hF dX1_play_66 (q := 68) rfl rfl ?_
          refine jr_aload_n hF dX1_play_68 (q := 69) rfl rfl ?_
          refine jr_aload_n hF dX1_play_69 (q := 70) rfl rfl ?_
          refine jr_iload hF dX1_play_70 (q := 72) rfl rfl ?_
          refine jr_cV2I hF (c_gainOf _ 14 hpl _ hC4 ok2 99 _ hw k1' j hj) dX1_play_72 (q := 75) rfl lk1_31 vX2_gainOf kX2_gainOf rfl rfl rfl (by decide) (Nat.le_of_ble_eq_true rfl) (fun z σ4 hz => ?_)
          obtain ⟨rfl, rfl⟩ := hz
          refine jr_iast hF dX1_play_75 (q := 76) rfl (L_g2 (by omega)) (by omega) ?_
          refine jr_iinc hF dX1_play_76 (q := 79) rfl (by decide) rfl rfl (by omega) ?_
          refine jr_goto hF dX1_play_79 21 (by decide) ?_
          refine ih2 _ ⟨fun a b l1 l2 l3 l4 => ?_, ⟨_, hC4.fr ok2.2.1 (fun k m1 m2 => up_ne (by omega))⟩, fun k hk => ?_⟩
          · by_cases ea : a = A + 1
            · subst ea
              by_cases eb : b = B + 1
              · subst eb
                constructor
                · rw [up_ne (by omega), up_nat, if_pos rfl]; rfl
                · rw [up_nat, if_pos rfl]; rfl
              · rw [up_ne (show 31 + (A + 1) ≠ 43 + (A + 1) by omega), up_nat, if_neg eb, up_nat, if_neg eb, up_ne (show 43 + (A + 1) ≠ 31 + (A + 1) by omega), k3 _ (by omega) (by omega) (by omega) (by omega), k3 _ (by omega) (by omega) (by omega) (by omega), up_ne (by omega), up_ne (by omega)]
                exact j1 (A + 1) b l1 l2 l3 (by omega)
            · rw [up_ne (by omega), up_ne (by omega), up_ne (by omega), up_ne (by omega), k3 _ (by omega) (by omega) (by omega) (by omega), k3 _ (by omega) (by omega) (by omega) (by omega), up_ne (by omega), up_ne (by omega)]
              exact j1 a b l1 l2 l3 (by omega)
          · rw [up_ne (by omega), up_ne (by omega), k3 k (by omega) (by omega) (by omega) (by omega), up_ne (by omega)]
            exact j3 k hk
def rsB (g1 g2 : Nat → Nat → Int) (a b : Nat) (n : Nat) : Bool := match n with
  | 0 => true
  | n + 1 => rsB g1 g2 a b n && decide (g1 (n + 1) b ≤ g1 a b ∧ g2 a (n + 1) ≤ g2 a b)
theorem rsB_false {g1 g2 : Nat → Nat → Int} {a b k : Nat} (h : rsB g1 g2 a b k = false) : ∀ n, k ≤ n → rsB g1 g2 a b n = false := by
  intro n
  induction n with
  | zero =>
    intro hk
    have e : k = 0 := by omega
    subst e
    exact h
  | succ n ih =>
    intro hk
    by_cases e : k = n + 1
    · subst e; exact h
    · rw [rsB, ih (by omega)]
      rfl
set_option maxRecDepth 100000 in
theorem c_isRest (σ : Sg) (F : FD) (i j : Nat) (hG : GR σ F i j 11 0) (a b : Nat) (ha : 1 ≤ a ∧ a ≤ 10) (hb : 1 ≤ b ∧ b ≤ 10) : RI mX1_isRest 1 [vR 29, vI (a : Int), vI (b : Int)] σ (fun z σ' => z = (if rsB (g_one F i j) (g_two F i j) a b 10 = true then 1 else 0) ∧ σ = σ') := by
  have e1 := (hG a b ha.1 hb.1 hb.2 (Or.inl (by omega))).1
  have e2 := (hG a b ha.1 hb.1 hb.2 (Or.inl (by omega))).2
  refine mkRun (by decide +kernel) (Nat.le_of_ble_eq_true rfl) (fun X hF hR => ?_)
  refine jr_iconst hF dX1_isRest_0 (q := 1) rfl (by decide) ?_
  refine jr_istore_n hF dX1_isRest_1 (q := 2) rfl (by decide) rfl ?_
  refine gs_loop (α := Unit) (fun k _ => [some (vR 29), some (vI (a : Int)), some (vI (b : Int)), some (vI ((k + 1 : Nat) : Int))]) (fun _ => σ) (fun k _ => rsB (g_one F i j) (g_two F i j) a b k = true) 10 (fun _ h => ?_) (fun k _ hk h ih => ?_) () rfl
  · refine jr_iload_n hF dX1_isRest_2 (q := 3) rfl rfl ?_
    refine jr_bipush hF dX1_isRest_3 (q := 5) rfl (by decide) (by decide +kernel) ?_
    refine jr_icmp_gt hF dX1_isRest_5 (q := 8) rfl 54 (by decide) (fun h1 => ?_) (fun h1 => ?_)
    · refine jr_iconst hF dX1_isRest_54 (q := 55) rfl (by decide) ?_
      refine jr_retZ hF hR dX1_isRest_55 rfl (by first | exact Or.inl rfl | exact Or.inr rfl | omega) ⟨by rw [if_pos h], rfl⟩
    · omega
  · have e3 := (hG (k + 1) b (by omega) hb.1 hb.2 (Or.inl (by omega))).1
    have e4 := (hG a (k + 1) ha.1 (by omega) (by omega) (Or.inl (by omega))).2
    have hfin : ¬ (g_one F i j (k + 1) b ≤ g_one F i j a b ∧ g_two F i j a (k + 1) ≤ g_two F i j a b) → Gs X 46 [some (vR 29), some (vI (a : Int)), some (vI (b : Int)), some (vI ((k + 1 : Nat) : Int))] [] σ := by
      intro hn
      have hf : rsB (g_one F i j) (g_two F i j) a b (k + 1) = false := by rw [rsB, decide_eq_false hn, Bool.and_false]
      refine jr_iconst hF dX1_isRest_46 (q := 47) rfl (by decide) ?_
      refine jr_retZ hF hR dX1_isRest_47 rfl (by first | exact Or.inl rfl | exact Or.inr rfl | omega) ⟨by rw [rsB_false hf 10 (by omega)]; rfl, rfl⟩
    refine jr_iload_n hF dX1_isRest_2 (q := 3) rfl rfl ?_
    refine jr_bipush hF dX1_isRest_3 (q := 5) rfl (by decide) (by decide +kernel) ?_
    refine jr_icmp_gt hF dX1_isRest_5 (q := 8) rfl 54 (by decide) (fun h1 => ?_) (fun h1 => ?_)
    · omega
    · refine jr_aload_n hF dX1_isRest_8 (q := 9) rfl rfl ?_
      refine jr_getR (ci := 1) (j := 3) hF dX1_isRest_9 (q := 12) rfl rfl rfl fl1_11 ?_
      refine jr_iload_n hF dX1_isRest_12 (q := 13) rfl rfl ?_
      refine jr_aald hF dX1_isRest_13 (q := 14) rfl rfl (by omega) ?_
      rw [tn]
      refine jr_iload_n hF dX1_isRest_14 (q := 15) rfl rfl ?_
      refine jr_iald hF dX1_isRest_15 (q := 16) rfl (L_g1 (by omega)) (by omega) ?_
      refine jr_aload_n hF dX1_isRest_16 (q := 17) rfl rfl ?_
      refine jr_getR (ci := 1) (j := 3) hF dX1_isRest_17 (q := 20) rfl rfl rfl fl1_11 ?_
      refine jr_iload_n hF dX1_isRest_20 (q := 21) rfl rfl ?_
      refine jr_aald hF dX1_isRest_21 (q := 22) rfl rfl (by omega) ?_
      rw [tn]
      refine jr_iload_n hF dX1_isRest_22 (q := 23) rfl rfl ?_
      refine jr_iald hF dX1_isRest_23 (q := 24) rfl (L_g1 (by omega)) (by omega) ?_
      rw [e1, e3]
      refine jr_icmp_gt hF dX1_isRest_24 (q := 27) rfl 46 (by decide) (fun h2 => ?_) (fun h2 => ?_)
      · exact hfin (by omega)
      · refine jr_aload_n hF dX1_isRest_27 (q := 28) rfl rfl ?_
        refine jr_getR (ci := 1) (j := 4) hF dX1_isRest_28 (q := 31) rfl rfl rfl fl1_16 ?_
        refine jr_iload_n hF dX1_isRest_31 (q := 32) rfl rfl ?_
        refine jr_aald hF dX1_isRest_32 (q := 33) rfl rfl (by omega) ?_
        rw [tn]
        refine jr_iload_n hF dX1_isRest_33 (q := 34) rfl rfl ?_
        refine jr_iald hF dX1_isRest_34 (q := 35) rfl (L_g2 (by omega)) (by omega) ?_
        refine jr_aload_n hF dX1_isRest_35 (q := 36) rfl rfl ?_
        refine jr_getR (ci := 1) (j := 4) hF dX1_isRest_36 (q := 39) rfl rfl rfl fl1_16 ?_
        refine jr_iload_n hF dX1_isRest_39 (q := 40) rfl rfl ?_
        refine jr_aald hF dX1_isRest_40 (q := 41) rfl rfl (by omega) ?_
        rw [tn]
        refine jr_iload_n hF dX1_isRest_41 (q := 42) rfl rfl ?_
        refine jr_iald hF dX1_isRest_42 (q := 43) rfl (L_g2 (by omega)) (by omega) ?_
        rw [e2, e4]
        refine jr_icmp_le hF dX1_isRest_43 (q := 46) rfl 48 (by decide) (fun h3 => ?_) (fun h3 => ?_)
        · refine jr_iinc hF dX1_isRest_48 (q := 51) rfl (by decide) rfl rfl (by omega) ?_
          refine jr_goto hF dX1_isRest_51 2 (by decide) ?_
          exact ih () (by rw [rsB, h, decide_eq_true ⟨h2, h3⟩]; rfl)
        · exact hfin (by omega)
set_option maxRecDepth 100000 in
theorem c_noteRest (σ : Sg) (a b : Int) (hr : 0 ≤ σ 29 0 ∧ σ 29 0 ≤ 1000) : RV mX1_noteRest 1 [vR 29, vI a, vI b] σ (fun σ' => (∀ k, k ≠ 29 → σ' k = σ k) ∧ σ' 29 0 = σ 29 0 + 1 ∧ (σ 29 0 = 0 → σ' 29 1 = a ∧ σ' 29 2 = b) ∧ (σ 29 0 ≠ 0 → σ' 29 1 = σ 29 1 ∧ σ' 29 2 = σ 29 2)) := by
  refine mkRun (by decide +kernel) (Nat.le_of_ble_eq_true rfl) (fun X hF hR => ?_)
  refine jr_aload_n hF dX1_noteRest_0 (q := 1) rfl rfl ?_
  refine jr_getI (ci := 1) (j := 0) hF 0 rfl dX1_noteRest_1 (q := 4) rfl rfl rfl fl1_35 ?_
  refine jr_if_ne hF dX1_noteRest_4 (q := 7) rfl 17 (by decide) (fun h1 => ?_) (fun h1 => ?_)
  · refine jr_aload_n hF dX1_noteRest_17 (q := 18) rfl rfl ?_
    refine jr_dup hF dX1_noteRest_18 (q := 19) rfl rfl ?_
    refine jr_getI (ci := 1) (j := 0) hF 0 rfl dX1_noteRest_19 (q := 22) rfl rfl rfl fl1_35 ?_
    refine jr_iconst hF dX1_noteRest_22 (q := 23) rfl (by decide) ?_
    refine jr_iadd hF dX1_noteRest_23 (q := 24) rfl (by omega) ?_
    refine jr_putI (ci := 1) (j := 0) hF 0 rfl dX1_noteRest_24 (q := 27) rfl rfl rfl fp1_35 ?_
    refine jr_retV hF hR dX1_noteRest_27 rfl ⟨fun k hk => up_ne hk, ?_, fun h => absurd h h1, fun _ => ⟨?_, ?_⟩⟩
    · simp [up]
    · simp [up]
    · simp [up]
  · refine jr_aload_n hF dX1_noteRest_7 (q := 8) rfl rfl ?_
    refine jr_iload_n hF dX1_noteRest_8 (q := 9) rfl rfl ?_
    refine jr_putI (ci := 1) (j := 1) hF 1 rfl dX1_noteRest_9 (q := 12) rfl rfl rfl fp1_47 ?_
    refine jr_aload_n hF dX1_noteRest_12 (q := 13) rfl rfl ?_
    refine jr_iload_n hF dX1_noteRest_13 (q := 14) rfl rfl ?_
    refine jr_putI (ci := 1) (j := 2) hF 2 rfl dX1_noteRest_14 (q := 17) rfl rfl rfl fp1_50 ?_
    refine jr_aload_n hF dX1_noteRest_17 (q := 18) rfl rfl ?_
    refine jr_dup hF dX1_noteRest_18 (q := 19) rfl rfl ?_
    refine jr_getI (ci := 1) (j := 0) hF 0 rfl dX1_noteRest_19 (q := 22) rfl rfl rfl fl1_35 ?_
    rw [show up (up σ 29 1 a) 29 2 b 29 0 = σ 29 0 by simp [up]]
    refine jr_iconst hF dX1_noteRest_22 (q := 23) rfl (by decide) ?_
    refine jr_iadd hF dX1_noteRest_23 (q := 24) rfl (by omega) ?_
    refine jr_putI (ci := 1) (j := 0) hF 0 rfl dX1_noteRest_24 (q := 27) rfl rfl rfl fp1_35 ?_
    refine jr_retV hF hR dX1_noteRest_27 rfl ⟨fun k hk => by rw [up_ne hk, up_ne hk, up_ne hk], ?_, fun _ => ⟨?_, ?_⟩, fun h => absurd h1 h⟩
    · simp [up]
    · simp [up]
    · simp [up]
def frst (R : Nat → Bool) (n : Nat) : Int := match n with
  | 0 => -4
  | n + 1 => if frst R n ≠ -4 then frst R n else if R n = true then (n : Int) else -4
theorem frst_cnt (R : Nat → Bool) (n : Nat) : (cnt R n = 0 ∧ frst R n = -4) ∨ (0 < cnt R n ∧ 0 ≤ frst R n ∧ frst R n < n) := by
  induction n with
  | zero => exact Or.inl ⟨rfl, rfl⟩
  | succ n ih =>
    have hc := cnt_le R n
    have e1 : cnt R (n + 1) = cnt R n + (if R n = true then 1 else 0) := rfl
    have e2 : frst R (n + 1) = if frst R n ≠ -4 then frst R n else if R n = true then (n : Int) else -4 := rfl
    rw [e1, e2]
    rcases ih with ⟨h1, h2⟩ | ⟨h1, h2, h3⟩
    · rw [if_neg (show ¬ frst R n ≠ -4 by omega)]
      by_cases hr : R n = true
      · rw [if_pos hr, if_pos hr]
        omega
      · rw [if_neg hr, if_neg hr]
        omega
    · rw [if_pos (show frst R n ≠ -4 by omega)]
      by_cases hr : R n = true
      · rw [if_pos hr]
        omega
      · rw [if_neg hr]
        omega
def rsR (F : FD) (i j : Nat) (k : Nat) : Bool := rsB (g_one F i j) (g_two F i j) (k / 10 + 1) (k % 10 + 1) 10
/-- the rests that were found among the first k pairs -/
def FR (σ : Sg) (R : Nat → Bool) (k : Nat) : Prop := σ 29 0 = cnt R k ∧ (cnt R k ≠ 0 → σ 29 1 = frst R k / 10 + 1 ∧ σ 29 2 = frst R k % 10 + 1)
set_option maxRecDepth 100000 in
theorem c_findRests (σ : Sg) (F : FD) (i j : Nat) (hG : GR σ F i j 11 0) : RV mX1_findRests 2 [vR 29] σ (fun σ' => FR σ' (rsR F i j) 100 ∧ ∀ k, k ≠ 29 → σ' k = σ k) := by
  refine mkRun (by decide +kernel) (Nat.le_of_ble_eq_true rfl) (fun X hF hR => ?_)
  refine jr_aload_n hF dX1_findRests_0 (q := 1) rfl rfl ?_
  refine jr_iconst hF dX1_findRests_1 (q := 2) rfl (by decide) ?_
  refine jr_putI (ci := 1) (j := 0) hF 0 rfl dX1_findRests_2 (q := 5) rfl rfl rfl fp1_35 ?_
  refine jr_iconst hF dX1_findRests_5 (q := 6) rfl (by decide) ?_
  refine jr_istore_n hF dX1_findRests_6 (q := 7) rfl (by decide) rfl ?_
  refine gs_loop (α := Sg) (fun k _ => [some (vR 29), some (vI ((k + 1 : Nat) : Int)), none]) (fun σ' => σ') (fun A σ' => FR σ' (rsR F i j) (10 * A) ∧ ∀ k, k ≠ 29 → σ' k = σ k) 10 (fun σ' h => ?_) (fun A σ' hA h ih => ?_) _ ⟨⟨by simp [up, cnt], fun h => absurd rfl h⟩, fun k hk => up_ne hk⟩
  · refine jr_iload_n hF dX1_findRests_7 (q := 8) rfl rfl ?_
    refine jr_bipush hF dX1_findRests_8 (q := 10) rfl (by decide) (by decide +kernel) ?_
    refine jr_icmp_gt hF dX1_findRests_10 (q := 13) rfl 48 (by decide) (fun h1 => ?_) (fun h1 => ?_)
    · refine jr_retV hF hR dX1_findRests_48 rfl h
    · omega
  · refine jr_iload_n hF dX1_findRests_7 (q := 8) rfl rfl ?_
    refine jr_bipush hF dX1_findRests_8 (q := 10) rfl (by decide) (by decide +kernel) ?_
    refine jr_icmp_gt hF dX1_findRests_10 (q := 13) rfl 48 (by decide) (fun h1 => ?_) (fun h1 => ?_)
    · omega
    · refine jr_iconst hF dX1_findRests_13 (q := 14) rfl (by decide) ?_
      refine jr_istore_n hF dX1_findRests_14 (q := 15) rfl (by decide) rfl ?_
      refine gs_loop (α := Sg) (fun k _ => [some (vR 29), some (vI ((A + 1 : Nat) : Int)), some (vI ((k + 1 : Nat) : Int))]) (fun σ' => σ') (fun B σ' => FR σ' (rsR F i j) (10 * A + B) ∧ ∀ k, k ≠ 29 → σ' k = σ k) 10 (fun σ2 h2 => ?_) (fun B σ2 hB h2 ih2 => ?_) _ h
      · refine jr_iload_n hF dX1_findRests_15 (q := 16) rfl rfl ?_
        refine jr_bipush hF dX1_findRests_16 (q := 18) rfl (by decide) (by decide +kernel) ?_
        refine jr_icmp_gt hF dX1_findRests_18 (q := 21) rfl 42 (by decide) (fun h3 => ?_) (fun h3 => ?_)
        · refine jr_fg 2 ?_
          refine jr_iinc hF dX1_findRests_42 (q := 45) rfl (by decide) rfl rfl (by omega) ?_
          refine jr_goto hF dX1_findRests_45 7 (by decide) ?_
          exact ih σ2 h2
        · omega
      · obtain ⟨⟨i1, i2⟩, i3⟩ := h2
        have hc := cnt_le (rsR F i j) (10 * A + B)
        have hf := frst_cnt (rsR F i j) (10 * A + B)
        have hG2 : GR σ2 F i j 11 0 := fun a b l1 l2 l3 l4 => by rw [i3 _ (by omega), i3 _ (by omega)]; exact hG a b l1 l2 l3 l4
        have eR : rsR F i j (10 * A + B) = rsB (g_one F i j) (g_two F i j) (A + 1) (B + 1) 10 := by
          unfold rsR
          rw [show (10 * A + B) / 10 = A by omega, show (10 * A + B) % 10 = B by omega]
        have ec : cnt (rsR F i j) (10 * A + B + 1) = cnt (rsR F i j) (10 * A + B) + (if rsR F i j (10 * A + B) = true then 1 else 0) := rfl
        have ef : frst (rsR F i j) (10 * A + B + 1) = if frst (rsR F i j) (10 * A + B) ≠ -4 then frst (rsR F i j) (10 * A + B) else if rsR F i j (10 * A + B) = true then ((10 * A + B : Nat) : Int) else -4 := rfl
        refine jr_iload_n hF dX1_findRests_15 (q := 16) rfl rfl ?_
        refine jr_bipush hF dX1_findRests_16 (q := 18) rfl (by decide) (by decide +kernel) ?_
        refine jr_icmp_gt hF dX1_findRests_18 (q := 21) rfl 42 (by decide) (fun h3 => ?_) (fun h3 => ?_)
        · omega
        · refine jr_aload_n hF dX1_findRests_21 (q := 22) rfl rfl ?_
          refine jr_iload_n hF dX1_findRests_22 (q := 23) rfl rfl ?_
          refine jr_iload_n hF dX1_findRests_23 (q := 24) rfl rfl ?_
          refine jr_cV2I hF (c_isRest σ2 F i j hG2 (A + 1) (B + 1) (by omega) (by omega)) dX1_findRests_24 (q := 27) rfl lk1_39 vX1_isRest kX1_isRest rfl rfl rfl (by decide) (Nat.le_of_ble_eq_true rfl) (fun z σ3 hz => ?_)
          obtain ⟨rfl, rfl⟩ := hz
          refine jr_if_eq hF dX1_findRests_27 (q := 30) rfl 36 (by decide) (fun h4 => ?_) (fun h4 => ?_)
          · have hr := bi_0 h4
            rw [eR, hr, if_neg (by decide), Int.add_zero] at ec
            rw [eR, hr, if_neg (by decide : ¬ false = true)] at ef
            have ef2 : frst (rsR F i j) (10 * A + B + 1) = frst (rsR F i j) (10 * A + B) := by rw [ef]; split <;> omega
            refine jr_iinc hF dX1_findRests_36 (q := 39) rfl (by decide) rfl rfl (by omega) ?_
            refine jr_goto hF dX1_findRests_39 15 (by decide) ?_
            refine ih2 σ2 ⟨⟨?_, ?_⟩, i3⟩
            · show _ = cnt _ (10 * A + B + 1)
              rw [ec]; exact i1
            · show cnt _ (10 * A + B + 1) ≠ 0 → _ = frst _ (10 * A + B + 1) / 10 + 1 ∧ _ = frst _ (10 * A + B + 1) % 10 + 1
              rw [ec, ef2]; exact i2
          · have hr := bi_1 h4
            rw [eR, hr, if_pos rfl] at ec
            rw [eR, hr, if_pos (rfl : true = true)] at ef
            refine jr_aload_n hF dX1_findRests_30 (q := 31) rfl rfl ?_
            refine jr_iload_n hF dX1_findRests_31 (q := 32) rfl rfl ?_
            refine jr_iload_n hF dX1_findRests_32 (q := 33) rfl rfl ?_
            refine jr_cV2V hF (c_noteRest σ2 _ _ (by omega)) dX1_findRests_33 (q := 36) rfl lk1_43 vX1_noteRest kX1_noteRest rfl rfl rfl (by decide) (Nat.le_of_ble_eq_true rfl) (fun σ3 hz => ?_)
            obtain ⟨n1, n2, n3, n4⟩ := hz
            refine jr_iinc hF dX1_findRests_36 (q := 39) rfl (by decide) rfl rfl (by omega) ?_
            refine jr_goto hF dX1_findRests_39 15 (by decide) ?_
            refine ih2 σ3 ⟨⟨?_, fun _ => ?_⟩, fun k hk => by rw [n1 k hk]; exact i3 k hk⟩
            · show _ = cnt _ (10 * A + B + 1)
              rw [ec, n2, i1]
            · show _ = frst _ (10 * A + B + 1) / 10 + 1 ∧ _ = frst _ (10 * A + B + 1) % 10 + 1
              rw [ef]
              by_cases h0 : cnt (rsR F i j) (10 * A + B) = 0
              · have := n3 (by omega)
                rw [if_neg (by omega), this.1, this.2]
                omega
              · have := n4 (by omega)
                have i2' := i2 h0
                rw [if_pos (by omega), this.1, this.2, i2'.1, i2'.2]
                exact ⟨rfl, rfl⟩

