/-! ===== what the start gives: classes, array classes ===== -/
theorem kn_of {own : String} {iN cc NN : Nat} {fs0 : List Value} (h : CN own iN cc NN fs0) {args : Array Value} {s : State} (hts : ∀ w ∈ wsT, w.before args s = true) : ∃ d : ClassId × (Nat → Nat), ∀ q : vw_C, vwCl[cc]? = some q → u_Kn s q.1 q.2.1 q.2.2 d.1 d.2 := by
  obtain ⟨C, T, ty0, c1, c2, c3, c4, c5, c6, c7⟩ := h
  obtain ⟨cC, iS, hk⟩ := u_known hts c5 (hts _ c3)
  refine ⟨(cC, iS), fun q hq => ?_⟩
  have e : q = (C, T, NN) := Option.some.inj (hq.symm.trans c1)
  subst e
  exact hk
theorem start_D {args : Array Value} {s : State} (hts : ∀ w ∈ wsT, w.before args s = true) : ∃ D : va_G, ∀ (c : Nat) (q : vw_C), vwCl[c]? = some q → u_Kn s q.1 q.2.1 q.2.2 (D.1 c) (D.2 c) := by
  have hk : ∀ c : Nat, ∃ d : ClassId × (Nat → Nat), ∀ q : vw_C, vwCl[c]? = some q → u_Kn s q.1 q.2.1 q.2.2 d.1 d.2 := by
    intro c
    match c with
    | 0 => exact kn_of cn9_61 hts
    | 1 => exact kn_of cn9_33 hts
    | 2 => exact kn_of cn9_26 hts
    | 3 => exact kn_of cn9_40 hts
    | 4 => exact kn_of cn9_16 hts
    | 5 => exact kn_of cn9_47 hts
    | 6 => exact kn_of cn9_68 hts
    | 7 => exact kn_of cn9_54 hts
    | 8 => exact kn_of cn9_9 hts
    | 9 => exact kn_of cnL_7 hts
    | 10 => exact kn_of cnL_10 hts
    | n + 11 =>
      obtain ⟨d, -⟩ := kn_of cnL_10 hts
      exact ⟨d, fun q hq => by simp [vwCl] at hq⟩
  exact ⟨(fun c => (Classical.choose (hk c)).1, fun c => (Classical.choose (hk c)).2), fun c q hq => Classical.choose_spec (hk c) q hq⟩
theorem start_K {args : Array Value} {s : State} (hts : ∀ w ∈ wsT, w.before args s = true) (hov : (Cond.arrayOver (.array .int)).before args s = true) (hnw : nestW.before args s = true) : ∃ (D : va_G) (cs : C3), K3 D cs s := by
  obtain ⟨D, hD⟩ := start_D hts
  obtain ⟨cI, kI, pI, i1, i2, i3⟩ := Cond.arrayClass_spec (hts _ acI)
  obtain ⟨cB, kB, pB, b1, b2, b3⟩ := Cond.arrayClass_spec (hts _ acB)
  obtain ⟨pA, cA, kA, -, -, a2, a3, a1⟩ := arrayOverA_spec hov
  refine ⟨D, (cI, cB, cA), ⟨hD, fun k q hk => ?_⟩, hov, va_Nw.of rfl hnw⟩
  match k, hk with
  | 0, hk => cases hk; exact ⟨fun n z => ⟨fun k h => (by cases h), kI, i2, pI, i3⟩, i1⟩
  | 1, hk => cases hk; exact ⟨fun n z => ⟨fun k h => (by cases h), kB, b2, pB, b3⟩, b1⟩
  | 2, hk => cases hk; exact ⟨fun n z => ⟨fun k h => (by cases h), kA, a2, pA, a3⟩, a1⟩
  | k + 3, hk => simp at hk
theorem pre10_blind (D : va_G) (cs : C3) (ad : Nat → Nat) (σ : Sg) (h0 sz : Nat) : FrameBlind (va_Pc [.ref h0] (pre10 D cs ad σ h0 sz)) := by
  intro a U g mk h
  obtain ⟨h1, h2, h3, h4, h5⟩ := h
  exact ⟨h1, h2, h3, h4, h5.same (rfl : U.vm = (U.calling g mk a).vm)⟩
/-- from the law's entry to its loop: both objects made -/
theorem law_made {p : Program} {l : Launch} {e : Env} {s : State} {m : MethodId} {args : Array Value} {below : List Frame} {meth : Method} {c : Code} {R : Room} {Q : State → Prop} {D : va_G} {cs : C3} {b : Nat} {ls : Array Slot} (hx : p.tables.exec = Jvm.exec) (hb : c.code = code) (hml : c.maxLocals = 4) (hown : s.vm.findClass RL = some m.cls) (hts : ∀ w ∈ wsT, w.before args s = true) (hK : K3 D cs s) (hR : 20 ≤ R.frames ∧ 64 * 20 ≤ R.locals ∧ 95 ≤ R.cells ∧ 1453 ≤ R.slots) (hl : lv_has ls 4 [(0, .ref b)])
    (kk : ∀ (ad : Nat → Nat) (σ : Sg) (H : Heap) (locs : List Loc) (ls : Array Slot), ad 95 = b → adI ad → (∀ k, k < 95 → s.heap.size ≤ ad k) → (∀ (k : Nat) (j : Int), inR (σ k j)) → JI σ → va_P D vwCl (mkW ad cs σ) H → va_S (fun q => s.heap.size ≤ q) s.heap H locs → lv_has ls 4 [(3, .int 0), (2, .ref (ad 73)), (1, .ref (ad 0)), (0, .ref b)] → W p l e R s m args below meth c H locs 95 1453 Q (F0 m 18 ls [])) : W p l e R s m args below meth c s.heap [] 0 0 Q (F0 m 0 ls []) := by
  have hA : ∀ q : Nat, s.heap.size ≤ q → (fun q : Nat => s.heap.size ≤ q) q := fun _ h => h
  have hP : va_P D vwCl [] s.heap := fun k q h => by simp at h
  have hD : va_D (fun q : Nat => s.heap.size ≤ q) [] := ⟨fun i j p q h => by simp at h, fun k q h => by simp at h⟩
  refine va_made (M := mL_law) (d := 20) iX9 hx hb hml hown hts hK hA cnL_7 cbX9 lkL_9 hl.1 hP hD va_S.rf dL_law_0 dL_law_3 dL_law_4 (p2 := 7) rfl (by decide) (by decide) hR.1 hR.2.1 (by omega) (by omega) (fun q0 fs' w' H locs hf hP hD hS => ?_)
  obtain ⟨ad, σ, e1, hσ, hI⟩ := hf
  have hP : va_P D vwCl ((q0, .inr (9, fs')) :: w') H := hP
  have hD : va_D (fun q : Nat => s.heap.size ≤ q) ((q0, .inr (9, fs')) :: w') := hD
  have h00 : ad 0 = q0 := by
    have h1 := e1
    rw [mkW_h_cons] at h1
    exact (congrArg Prod.fst (List.cons.inj h1).1).symm
  rw [e1] at hP hD
  obtain ⟨hi, hAd⟩ := adI_of_h hD
  refine lv_astore_n (lv' := [(1, .ref q0), (0, .ref b)]) hx hb dL_law_7 rfl hl (by decide) rfl (fun ls hl => ?_)
  obtain ⟨C, T, ty0, c1, c2, c3, c4, c5, c6, c7⟩ := cnL_10
  refine va_new (ci := 10) (fs := fs010) (C := C) (T := T) (N := 29) hx hb hts c5 ty0 c6 hown (hts _ c2) (hts _ c3) (hts _ c4) hK.1 hP hD hS hA c1 c7 (by omega) (by omega) dL_law_8 (fun q1 H1 hP1 hD1 hS1 => ?_)
  refine lv_dup hx hb dL_law_11 rfl ?_
  have hlen : (mkW_h ad cs σ).length = 73 := by
    unfold mkW_h
    rw [List.length_mapIdx, Lay_len_h]
  have hin : ∀ (k : Nat) (q : Nat × va_E), (mkW_h ad cs σ)[k]? = some q → (mkW_h ad cs σ ++ [(q1, .inr (10, fs010))])[k]? = some q := fun k q h => by
    rw [List.getElem?_append_left (List.getElem?_eq_some_iff.mp h).1]; exact h
  have hx1 : (mkW_h ad cs σ ++ [(q1, .inr (10, fs010))])[73]? = some (q1, .inr (10, fs010)) := by
    rw [List.getElem?_append_right (by rw [hlen]; exact Nat.le_refl _), hlen]
    rfl
  have hPh : va_P D vwCl (mkW_h ad cs σ) H1 := fun k q h => hP1 k q (hin k q h)
  have hPc : va_P D vwCl [(q1, .inr (10, fs010))] H1 := fun j x hj => by
    have h3 : j < 1 := (List.getElem?_eq_some_iff.mp hj).1
    rw [show j = 0 by omega] at hj
    cases hj
    exact hP1 73 _ hx1
  have hne : ∀ k, k < 73 → ad k ≠ q1 := by
    intro k hk e9
    have h1 : Lay_h[k]? = some (Lay_h[k]'(by rw [Lay_len_h]; exact hk)) := List.getElem?_eq_getElem (by rw [Lay_len_h]; exact hk)
    have := hD1.1 k 73 _ _ (hin k _ (mkW_at_h h1)) hx1 e9
    omega
  have hFc : ∀ q9, A10 ad q1 H1.size q9 → s.heap.size ≤ q9 := by
    intro q9 h
    rcases h with (⟨j, e9, h⟩ | h) | ⟨k, h2, rfl⟩
    · have h3 : j < 1 := (List.getElem?_eq_some_iff.mp h).1
      rw [show j = 0 by omega] at h
      cases h
      exact hD1.2 73 _ hx1
    · exact Nat.le_trans hS1.1 h
    · exact hAd k h2
  obtain ⟨b1, b2, b3, b4, b5⟩ := cbX10
  refine va_callv (va_runI (As := []) (rest := [.ref q1]) ⟨hx, hb, hml, hown, hts⟩ (iX10 l D cs ad σ q1 H1.size b hi hne hσ) (cwI 0 hts (goodT b1) rfl rfl rfl (hts _ b2) (hts _ lkL_12) (hts _ b3) b4 b5 ⟨by show 2 + 1 ≤ R.frames; omega, by show 8 + (1 + 11) + 64 * 2 ≤ R.locals; omega⟩) ⟨pre10_blind D cs ad σ q1 H1.size, fun U hU hW => ⟨rfl, by rw [hU], by rw [hU]; exact hPc, by rw [hU]; exact hPh, hK.warm hW⟩⟩ rfl rfl hl.1 rfl (by show 2 * 0 + (1 + 0) ≤ 8; omega) dL_law_12 ⟨by omega, by omega⟩) hS1 (fun q9 _ h => hFc q9 h) hFc (fun u t H2 locs2 ht hvm hw hB hz1 hk1 hS2 => ?_)
  obtain ⟨ad2, σ2⟩ := u
  obtain ⟨w1, w2, w3, w4, w5, w6, w7, w8⟩ := hw
  have hB : va_P D vwCl (mkW ad2 cs σ2) t.heap := hB
  rw [ht] at hB
  have w1 : ∀ k, k < 73 → ad2 k = ad k := w1
  have w2 : ad2 73 = q1 := w2
  have w6 : ∀ k, k < 73 → σ2 k = σ k := w6
  refine lv_astore_n (lv' := [(2, .ref q1), (1, .ref q0), (0, .ref b)]) hx hb dL_law_15 rfl hl (by decide) rfl (fun ls hl => ?_)
  refine lv_iconst (v := 0) hx hb dL_law_16 (by decide) ?_
  refine lv_istore_n (lv' := [(3, .int 0), (2, .ref q1), (1, .ref q0), (0, .ref b)]) hx hb dL_law_17 rfl hl (by decide) rfl (fun ls hl => ?_)
  have hI2 : Ini9 σ2 := by
    obtain ⟨i1, i2, i3, i4, i5, i6, i7, i8, i9, i10, i11, i12, i13, i14, i15⟩ := hI
    exact ⟨by rw [w6 1 (by decide)]; exact i1, by rw [w6 4 (by decide)]; exact i2, by rw [w6 4 (by decide)]; exact i3, by rw [w6 5 (by decide)]; exact i4, by rw [w6 6 (by decide)]; exact i5, by rw [w6 6 (by decide)]; exact i6, by rw [w6 8 (by decide)]; exact i7, by rw [w6 9 (by decide)]; exact i8, by rw [w6 13 (by decide)]; exact i9, by rw [w6 13 (by decide)]; exact i10, by rw [w6 13 (by decide)]; exact i11, by rw [w6 13 (by decide)]; exact i12, by rw [w6 66 (by decide)]; exact i13, by rw [w6 69 (by decide)]; exact i14, by rw [w6 63 (by decide)]; exact i15⟩
  have hJ : JI σ2 := JI_first σ2 hI2 w7
  refine W.eq (g2 := F0 m 18 ls []) rfl ?_
  exact W.widen (k := 95) (n := 1453) (by omega) (by omega) (kk ad2 σ2 H2 locs2 ls w8 w3 (fun k hk => hFc _ (w4 k hk)) w5 hJ hB hS2 (by rw [w2, w1 0 (by decide), h00]; exact hl))
