/-- a field that the class own reaches by its pool's entry idx: field j of class ci -/
def FL (own : String) (idx ci j : Nat) : Prop := ∃ (C : String) (T : u_T) (N : Nat), vwCl[ci]? = some (C, T, N) ∧ j < N ∧ Cond.fieldLink own idx (T j).1 (T j).2.1 (T j).2.2.1 ∈ wsT ∧ ∀ w ∈ u_ws C T N, w ∈ wsT
/-- the same, and it may be written: its type -/
def FP (own : String) (idx ci j : Nat) (ty : FieldType) : Prop := ∃ (C : String) (T : u_T) (N : Nat) (ty0 : Nat → FieldType), vwCl[ci]? = some (C, T, N) ∧ j < N ∧ Cond.fieldLink own idx (T j).1 (T j).2.1 (T j).2.2.1 ∈ wsT ∧ (∀ w ∈ u_ws C T N, w ∈ wsT) ∧ (∀ k, k < N → parseFieldDescriptor (T k).2.2.1 = some (ty0 k)) ∧ (∀ a, a < N → ∀ b, b < N → a ≠ b → (T a).2.1 ≠ (T b).2.1) ∧ (T j).2.2.2 = false ∧ parseFieldDescriptor (T j).2.2.1 = some ty
theorem fE_at {ad : Nat → Nat} {σ : Sg} {k j : Nat} {fs : List (Option Nat)} {f : Option Nat} (h : fs[j]? = some f) : (fs.mapIdx (fun j f => fE ad σ k j f))[j]? = some (fE ad σ k j f) := by
  rw [List.getElem?_mapIdx, h]
  rfl
theorem jr_getI {M : MM} {d : Nat} {X : CT} (hF : Fix M d X) {pc : Nat} {lv : List (Option PV)} {st : List PV} {σ : Sg} {idx a ci j : Nat} {fs : List (Option Nat)} (j0 : Int) (hj0 : (j : Int) = j0) (hdg : decode M.2.1 pc = .ok (.getfield idx, 3)) {q : Nat} (hq : pc + 3 = q) (hL : Lay[a]? = some (0, ci, 0, fs)) (hj : fs[j]? = some none) (hf : FL M.1.cls idx ci j) (k : Gs X q lv (vI (σ a j0) :: st) σ) : Gs X pc lv (vR a :: st) σ := by
  subst hj0
  obtain ⟨p, l, e, R, s, m, args, below, meth, c, D, cs, ad, A, cells, slots, Q⟩ := X
  obtain ⟨hx, hb, hml, hown, hts, hret, hlk, hK, hN, hi, hA, hd1, hd2, hd3, hd4⟩ := hF
  intro H locs ls hl hst hσ hP hS
  subst hq
  obtain ⟨C, T, N, h1, h2, h3, h4⟩ := hf
  exact va_get hx hb hts h4 hown hK hP a (mkW_at hL) h1 j h2 (hts _ h3) (fun _ h9 => h9) (fE_at hj) hdg (k H locs ls hl (ok_cs (hσ a j) (ok_tl hst)) hσ hP hS)
theorem jr_getR {M : MM} {d : Nat} {X : CT} (hF : Fix M d X) {pc : Nat} {lv : List (Option PV)} {st : List PV} {σ : Sg} {idx a ci j r : Nat} {fs : List (Option Nat)} (hdg : decode M.2.1 pc = .ok (.getfield idx, 3)) {q : Nat} (hq : pc + 3 = q) (hL : Lay[a]? = some (0, ci, 0, fs)) (hj : fs[j]? = some (some r)) (hf : FL M.1.cls idx ci j) (k : Gs X q lv (vR r :: st) σ) : Gs X pc lv (vR a :: st) σ := by
  obtain ⟨p, l, e, R, s, m, args, below, meth, c, D, cs, ad, A, cells, slots, Q⟩ := X
  obtain ⟨hx, hb, hml, hown, hts, hret, hlk, hK, hN, hi, hA, hd1, hd2, hd3, hd4⟩ := hF
  intro H locs ls hl hst hσ hP hS
  subst hq
  obtain ⟨C, T, N, h1, h2, h3, h4⟩ := hf
  exact va_get hx hb hts h4 hown hK hP a (mkW_at hL) h1 j h2 (hts _ h3) (fun _ h9 => h9) (fE_at hj) hdg (k H locs ls hl (ok_cs (v := vR r) trivial (ok_tl hst)) hσ hP hS)
theorem cE_put {ad : Nat → Nat} {cs : C3} {σ : Sg} {a ci j : Nat} {fs : List (Option Nat)} {z : Int} (hj : fs[j]? = some none) : cE ad cs (uc σ a (fun i => if i = (j : Int) then z else σ a i)) a (0, ci, 0, fs) = .inr (ci, (fs.mapIdx (fun j f => fE ad σ a j f)).set j (.int (Int32.ofInt z))) := by
  show (Sum.inr (ci, _) : va_E) = _
  refine congrArg (fun x => (Sum.inr (ci, x) : va_E)) ?_
  apply List.ext_getElem?
  intro k
  have hl : j < fs.length := (List.getElem?_eq_some_iff.mp hj).1
  by_cases e : k = j
  · subst e
    rw [List.getElem?_set_self (by rw [List.length_mapIdx]; exact hl), fE_at hj]
    simp [fE, uc]
  · rw [List.getElem?_set_ne (Ne.symm e), List.getElem?_mapIdx, List.getElem?_mapIdx]
    cases hk : fs[k]? with
    | none => rfl
    | some f =>
      cases f with
      | some r => rfl
      | none =>
        have e2 : ¬ (k : Int) = (j : Int) := by omega
        simp [fE, uc, e2]
theorem inR_up {σ : Sg} {a : Nat} {i z : Int} (hσ : ∀ (k : Nat) (j : Int), inR (σ k j)) (hz : inR z) : ∀ (k : Nat) (j : Int), inR (up σ a i z k j) := by
  intro k j
  unfold up
  split
  · exact hz
  · exact hσ k j
theorem jr_putI {M : MM} {d : Nat} {X : CT} (hF : Fix M d X) {pc : Nat} {lv : List (Option PV)} {st : List PV} {σ : Sg} {idx a ci j : Nat} {z : Int} {fs : List (Option Nat)} (j0 : Int) (hj0 : (j : Int) = j0) (hdg : decode M.2.1 pc = .ok (.putfield idx, 3)) {q : Nat} (hq : pc + 3 = q) (hL : Lay[a]? = some (0, ci, 0, fs)) (hj : fs[j]? = some none) (hf : FP M.1.cls idx ci j .int) (k : Gs X q lv st (up σ a j0 z)) : Gs X pc lv (vI z :: vR a :: st) σ := by
  subst hj0
  obtain ⟨p, l, e, R, s, m, args, below, meth, c, D, cs, ad, A, cells, slots, Q⟩ := X
  obtain ⟨hx, hb, hml, hown, hts, hret, hlk, hK, hN, hi, hA, hd1, hd2, hd3, hd4⟩ := hF
  intro H locs ls hl hst hσ hP hS
  subst hq
  obtain ⟨C, T, N, ty0, h1, h2, h3, h4, h5, h6, h7, h8⟩ := hf
  refine va_put (v := .int (Int32.ofInt z)) hx hb hts h4 ty0 h5 h6 hown hK hP (mkW_D hi hA) hS a (mkW_at hL) h1 j h2 (hts _ h3) (fun _ h9 => h9) h7 h8 rfl rfl (by rw [List.length_mapIdx]; exact (List.getElem?_eq_some_iff.mp hj).1) hdg (fun H1 locs1 hP1 hD1 hS1 => ?_)
  rw [mkW_uc hL (cE_put hj), ← up_uc] at hP1
  exact k H1 locs1 ls hl (ok_tl (ok_tl hst)) (inR_up hσ (ok_hd hst)) hP1 hS1
theorem jr_putZ {M : MM} {d : Nat} {X : CT} (hF : Fix M d X) {pc : Nat} {lv : List (Option PV)} {st : List PV} {σ : Sg} {idx a ci j : Nat} {z : Int} {fs : List (Option Nat)} (j0 : Int) (hj0 : (j : Int) = j0) (hdg : decode M.2.1 pc = .ok (.putfield idx, 3)) {q : Nat} (hq : pc + 3 = q) (hL : Lay[a]? = some (0, ci, 0, fs)) (hj : fs[j]? = some none) (hf : FP M.1.cls idx ci j .boolean) (hz : z = 0 ∨ z = 1) (k : Gs X q lv st (up σ a j0 z)) : Gs X pc lv (vI z :: vR a :: st) σ := by
  subst hj0
  obtain ⟨p, l, e, R, s, m, args, below, meth, c, D, cs, ad, A, cells, slots, Q⟩ := X
  obtain ⟨hx, hb, hml, hown, hts, hret, hlk, hK, hN, hi, hA, hd1, hd2, hd3, hd4⟩ := hF
  intro H locs ls hl hst hσ hP hS
  subst hq
  obtain ⟨C, T, N, ty0, h1, h2, h3, h4, h5, h6, h7, h8⟩ := hf
  refine va_put (v := .int (Int32.ofInt z)) hx hb hts h4 ty0 h5 h6 hown hK hP (mkW_D hi hA) hS a (mkW_at hL) h1 j h2 (hts _ h3) (fun _ h9 => h9) h7 h8 (by rcases hz with rfl | rfl <;> decide +kernel) (by rcases hz with rfl | rfl <;> decide +kernel) (by rw [List.length_mapIdx]; exact (List.getElem?_eq_some_iff.mp hj).1) hdg (fun H1 locs1 hP1 hD1 hS1 => ?_)
  rw [mkW_uc hL (cE_put hj), ← up_uc] at hP1
  exact k H1 locs1 ls hl (ok_tl (ok_tl hst)) (inR_up hσ (ok_hd hst)) hP1 hS1
theorem jr_iald {M : MM} {d : Nat} {X : CT} (hF : Fix M d X) {pc : Nat} {lv : List (Option PV)} {st : List PV} {σ : Sg} {a n b : Nat} {i : Int} {fs : List (Option Nat)} (hdg : decode M.2.1 pc = .ok (.iaload, 1)) {q : Nat} (hq : pc + 1 = q) (hL : Lay[a]? = some (1, n, b, fs)) (h0 : 0 ≤ i ∧ i < (n : Int)) (k : Gs X q lv (vI (σ a i) :: st) σ) : Gs X pc lv (vI i :: vR a :: st) σ := by
  obtain ⟨p, l, e, R, s, m, args, below, meth, c, D, cs, ad, A, cells, slots, Q⟩ := X
  obtain ⟨hx, hb, hml, hown, hts, hret, hlk, hK, hN, hi, hA, hd1, hd2, hd3, hd4⟩ := hF
  intro H locs ls hl hst hσ hP hS
  subst hq
  have oi : inR i := ok_hd hst
  refine va_iald (i := Int32.ofInt i) hx hb hK hP a 0 (mkW_at hL) rfl (i32_vp oi h0.1 h0.2) hdg ?_
  rw [i32_cl oi, show ((i.toNat : Nat) : Int) = i by omega]
  exact k H locs ls hl (ok_cs (hσ a i) (ok_tl (ok_tl hst))) hσ hP hS
theorem jr_bald {M : MM} {d : Nat} {X : CT} (hF : Fix M d X) {pc : Nat} {lv : List (Option PV)} {st : List PV} {σ : Sg} {a n b : Nat} {i : Int} {fs : List (Option Nat)} (hdg : decode M.2.1 pc = .ok (.baload, 1)) {q : Nat} (hq : pc + 1 = q) (hL : Lay[a]? = some (2, n, b, fs)) (h0 : 0 ≤ i ∧ i < (n : Int)) (k : Gs X q lv (vI (σ a i) :: st) σ) : Gs X pc lv (vI i :: vR a :: st) σ := by
  obtain ⟨p, l, e, R, s, m, args, below, meth, c, D, cs, ad, A, cells, slots, Q⟩ := X
  obtain ⟨hx, hb, hml, hown, hts, hret, hlk, hK, hN, hi, hA, hd1, hd2, hd3, hd4⟩ := hF
  intro H locs ls hl hst hσ hP hS
  subst hq
  have oi : inR i := ok_hd hst
  refine va_bald (i := Int32.ofInt i) hx hb hK hP a 1 (mkW_at hL) rfl (i32_vp oi h0.1 h0.2) hdg ?_
  rw [i32_cl oi, show ((i.toNat : Nat) : Int) = i by omega]
  exact k H locs ls hl (ok_cs (hσ a i) (ok_tl (ok_tl hst))) hσ hP hS
theorem upd_up {σ : Sg} {a : Nat} {i v : Int} (h0 : 0 ≤ i) : (fun j : Nat => Int32.ofInt ((uc σ a (fun j => if j = i then v else σ a j)) a (j : Int))) = upd (fun j => Int32.ofInt (σ a (j : Int))) i.toNat (Int32.ofInt v) := by
  funext j
  unfold upd
  rw [uc_eq]
  by_cases h : (j : Int) = i
  · have h2 : j = i.toNat := by omega
    rw [if_pos h, if_pos h2]
  · have h2 : ¬ j = i.toNat := by omega
    rw [if_neg h, if_neg h2]
theorem jr_iast {M : MM} {d : Nat} {X : CT} (hF : Fix M d X) {pc : Nat} {lv : List (Option PV)} {st : List PV} {σ : Sg} {a n b : Nat} {i v : Int} {fs : List (Option Nat)} (hdg : decode M.2.1 pc = .ok (.iastore, 1)) {q : Nat} (hq : pc + 1 = q) (hL : Lay[a]? = some (1, n, b, fs)) (h0 : 0 ≤ i ∧ i < (n : Int)) (k : Gs X q lv st (up σ a i v)) : Gs X pc lv (vI v :: vI i :: vR a :: st) σ := by
  obtain ⟨p, l, e, R, s, m, args, below, meth, c, D, cs, ad, A, cells, slots, Q⟩ := X
  obtain ⟨hx, hb, hml, hown, hts, hret, hlk, hK, hN, hi, hA, hd1, hd2, hd3, hd4⟩ := hF
  intro H locs ls hl hst hσ hP hS
  subst hq
  have oi : inR i := ok_hd (ok_tl hst)
  refine va_iast (i := Int32.ofInt i) (x := Int32.ofInt v) hx hb hK hP (mkW_D hi hA) hS a 0 (mkW_at hL) rfl (i32_vp oi h0.1 h0.2) hdg (fun H1 locs1 hP1 hD1 hS1 => ?_)
  rw [i32_cl oi, ← upd_up h0.1, mkW_uc (f := fun j => if j = i then v else σ a j) (e := .inl (cs.1, n, .inl (fun j : Nat => Int32.ofInt (uc σ a (fun j => if j = i then v else σ a j) a (j : Int))))) hL rfl, ← up_uc] at hP1
  exact k H1 locs1 ls hl (ok_tl (ok_tl (ok_tl hst))) (inR_up hσ (ok_hd hst)) hP1 hS1
theorem byte_nar {v : Int} (h : -128 ≤ v ∧ v ≤ 127) : vp_nar .byte (Int32.ofInt v) = Int32.ofInt v := by
  rw [vp_nar_byte, Int32.toInt8_ofInt, ← Int32.toInt_inj, Int8.toInt_toInt32, Int8.toInt_ofInt_of_le (by omega) (by omega), i32_in ⟨by omega, by omega⟩]
theorem jr_bast {M : MM} {d : Nat} {X : CT} (hF : Fix M d X) {pc : Nat} {lv : List (Option PV)} {st : List PV} {σ : Sg} {a n b : Nat} {i v : Int} {fs : List (Option Nat)} (hdg : decode M.2.1 pc = .ok (.bastore, 1)) {q : Nat} (hq : pc + 1 = q) (hL : Lay[a]? = some (2, n, b, fs)) (h0 : 0 ≤ i ∧ i < (n : Int)) (hv : -128 ≤ v ∧ v ≤ 127) (k : Gs X q lv st (up σ a i v)) : Gs X pc lv (vI v :: vI i :: vR a :: st) σ := by
  obtain ⟨p, l, e, R, s, m, args, below, meth, c, D, cs, ad, A, cells, slots, Q⟩ := X
  obtain ⟨hx, hb, hml, hown, hts, hret, hlk, hK, hN, hi, hA, hd1, hd2, hd3, hd4⟩ := hF
  intro H locs ls hl hst hσ hP hS
  subst hq
  have oi : inR i := ok_hd (ok_tl hst)
  refine va_bast (i := Int32.ofInt i) (x := Int32.ofInt v) hx hb hK hP (mkW_D hi hA) hS a 1 (mkW_at hL) rfl (i32_vp oi h0.1 h0.2) hdg (fun H1 locs1 hP1 hD1 hS1 => ?_)
  rw [i32_cl oi, byte_nar hv, ← upd_up h0.1, mkW_uc (f := fun j => if j = i then v else σ a j) (e := .inl (cs.2.1, n, .inl (fun j : Nat => Int32.ofInt (uc σ a (fun j => if j = i then v else σ a j) a (j : Int))))) hL rfl, ← up_uc] at hP1
  exact k H1 locs1 ls hl (ok_tl (ok_tl (ok_tl hst))) (inR_up hσ (ok_hd hst)) hP1 hS1
theorem jr_aald {M : MM} {d : Nat} {X : CT} (hF : Fix M d X) {pc : Nat} {lv : List (Option PV)} {st : List PV} {σ : Sg} {a n b : Nat} {i : Int} {fs : List (Option Nat)} (hdg : decode M.2.1 pc = .ok (.aaload, 1)) {q : Nat} (hq : pc + 1 = q) (hL : Lay[a]? = some (3, n, b, fs)) (h0 : 0 ≤ i ∧ i < (n : Int)) (k : Gs X q lv (vR (b + i.toNat) :: st) σ) : Gs X pc lv (vI i :: vR a :: st) σ := by
  obtain ⟨p, l, e, R, s, m, args, below, meth, c, D, cs, ad, A, cells, slots, Q⟩ := X
  obtain ⟨hx, hb, hml, hown, hts, hret, hlk, hK, hN, hi, hA, hd1, hd2, hd3, hd4⟩ := hF
  intro H locs ls hl hst hσ hP hS
  subst hq
  have oi : inR i := ok_hd hst
  have hin : vp_in (Int32.ofInt i) n := i32_vp oi h0.1 h0.2
  have hlt : (Int32.ofInt i).toNatClampNeg < n := Nat.not_le.mp fun q => hin (Or.inr q)
  have ha := mkW_at (ad := ad) (cs := cs) (σ := σ) hL
  refine W.aald (v := .ref (ad (b + i.toNat))) (ty := .array .int) hx hb (hP a _ ha) ((hK.2 2 _ rfl).1 n (fun j => va_rf (if j < n then some (ad (b + j)) else none))) rfl (fun q => by cases q) (by show ¬ (_ ∨ (arrV _ _ _).slots.size ≤ _); rw [arrV_size]; exact hin) (by show (arrV _ _ _).slots[_]? = _; rw [arrV_read _ _ hlt]; show some (va_rf (if (Int32.ofInt i).toNatClampNeg < n then _ else _)) = _; rw [if_pos hlt, i32_cl oi]; rfl) rfl rfl hdg ?_
  exact k H locs ls hl (ok_cs (v := vR _) trivial (ok_tl (ok_tl hst))) hσ hP hS
theorem jr_alen {M : MM} {d : Nat} {X : CT} (hF : Fix M d X) {pc : Nat} {lv : List (Option PV)} {st : List PV} {σ : Sg} {a n b : Nat} {fs : List (Option Nat)} (hdg : decode M.2.1 pc = .ok (.arraylength, 1)) {q : Nat} (hq : pc + 1 = q) (hL : Lay[a]? = some (1, n, b, fs)) (hn : n < 1000) (k : Gs X q lv (vI (n : Int) :: st) σ) : Gs X pc lv (vR a :: st) σ := by
  obtain ⟨p, l, e, R, s, m, args, below, meth, c, D, cs, ad, A, cells, slots, Q⟩ := X
  obtain ⟨hx, hb, hml, hown, hts, hret, hlk, hK, hN, hi, hA, hd1, hd2, hd3, hd4⟩ := hF
  intro H locs ls hl hst hσ hP hS
  subst hq
  refine va_alen hx hb hK hP a 0 (mkW_at hL) rfl (v := Int32.ofInt (n : Int)) Int32.ofInt_eq_ofNat.symm hdg ?_
  exact k H locs ls hl (ok_cs (v := vI n) (show inR (n : Int) from ⟨by omega, by omega⟩) (ok_tl hst)) hσ hP hS
theorem cat_sum (ad : Nat → Nat) (st : List PV) : ((st.map (tV ad)).map fun v => v.category).sum = (st.map pcat).sum := by
  induction st with
  | nil => rfl
  | cons v st ih =>
    rw [List.map_cons, List.map_cons, List.map_cons, List.sum_cons, List.sum_cons, ih, pcat_eq]
theorem cpy_uc {σ : Sg} {a b : Nat} {sp dp n : Int} (h1 : 0 ≤ sp) (h2 : 0 ≤ dp) (h3 : 0 ≤ n) : (fun j : Nat => Int32.ofInt ((uc σ b (fun j => if dp ≤ j ∧ j < dp + n then σ a (sp + (j - dp)) else σ b j)) b (j : Int))) = va_cpy (fun j => Int32.ofInt (σ a (j : Int))) (fun j => Int32.ofInt (σ b (j : Int))) sp.toNat dp.toNat n.toNat := by
  funext j
  unfold va_cpy
  rw [uc_eq]
  by_cases h : dp ≤ (j : Int) ∧ (j : Int) < dp + n
  · rw [if_pos h, if_pos (show dp.toNat ≤ j ∧ j < dp.toNat + n.toNat by omega)]
    show _ = Int32.ofInt (σ a ((sp.toNat + (j - dp.toNat) : Nat) : Int))
    rw [show ((sp.toNat + (j - dp.toNat) : Nat) : Int) = sp + ((j : Int) - dp) by omega]
  · rw [if_neg h, if_neg (show ¬ (dp.toNat ≤ j ∧ j < dp.toNat + n.toNat) by omega)]
def cpW : Prop := Cond.native arraycopyName ∈ wsT ∧ Cond.static arraycopyName ∈ wsT ∧ Cond.initialized "java/lang/System" ∈ wsT
theorem jr_copy {M : MM} {d : Nat} {X : CT} (hF : Fix M d X) {pc : Nat} {lv : List (Option PV)} {st : List PV} {σ : Sg} {idx a b na nb xa xb : Nat} {sp dp n : Int} {fa fb : List (Option Nat)} (hw : cpW) (hdg : decode M.2.1 pc = .ok (.invokestatic idx, 3)) {q : Nat} (hq : pc + 3 = q) (hlk0 : Cond.methodLink M.1.cls idx arraycopyName ∈ wsT) (hLa : Lay[a]? = some (1, na, xa, fa)) (hLb : Lay[b]? = some (1, nb, xb, fb)) (h0 : 0 ≤ sp ∧ 0 ≤ dp ∧ 0 ≤ n ∧ sp + n ≤ (na : Int) ∧ dp + n ≤ (nb : Int)) (hr : (st.map pcat).sum ≤ 8) (hd : 1 ≤ d) (k : Gs X q lv st (uc σ b (fun j => if dp ≤ j ∧ j < dp + n then σ a (sp + (j - dp)) else σ b j))) : Gs X pc lv (vI n :: vI dp :: vR b :: vI sp :: vR a :: st) σ := by
  obtain ⟨p, l, e, R, s, m, args, below, meth, c, D, cs, ad, A, cells, slots, Q⟩ := X
  obtain ⟨hx, hb, hml, hown, hts, hret, hlk, hK, hN, hi, hA, hd1, hd2, hd3, hd4⟩ := hF
  intro H locs ls hl hst hσ hP hS
  subst hq
  have on : inR n := ok_hd hst
  have od : inR dp := ok_hd (ok_tl hst)
  have os : inR sp := ok_hd (ok_tl (ok_tl (ok_tl hst)))
  obtain ⟨h1, h2, h3, h4, h5⟩ := h0
  have nn : ∀ z : Int, inR z → 0 ≤ z → ¬ Int32.ofInt z < 0 := fun z hz hz0 h => by
    have := (i32_lt hz (b := 0) ⟨by decide, by decide⟩).mp (i32_0 ▸ h)
    omega
  refine va_copyi (sp := Int32.ofInt sp) (dp := Int32.ofInt dp) (n := Int32.ofInt n) (ty := .int) hx hb (hl.1.symm) hown (hts _ hlk0) (hts _ hw.1) (hts _ hw.2.1) (hts _ hw.2.2) hK hP (mkW_D hi hA) hS a b 0 0 (mkW_at hLa) (mkW_at hLb) rfl rfl rfl (nn sp os h1) (nn dp od h2) (nn n on h3) (by rw [i32_cl os, i32_cl on]; omega) (by rw [i32_cl od, i32_cl on]; omega) (fun _ _ => rfl) (by omega) (by rw [cat_sum, show nativeFrameWords "java/lang/System" "arraycopy" 5 = 7 by decide +kernel]; omega) hdg (fun H1 locs1 hP1 hD1 hS1 => ?_)
  rw [i32_cl os, i32_cl od, i32_cl on, ← cpy_uc h1 h2 h3, mkW_uc (f := fun j => if dp ≤ j ∧ j < dp + n then σ a (sp + (j - dp)) else σ b j) (e := .inl (cs.1, nb, .inl (fun j : Nat => Int32.ofInt (uc σ b (fun j => if dp ≤ j ∧ j < dp + n then σ a (sp + (j - dp)) else σ b j) b (j : Int))))) hLb rfl] at hP1
  refine k H1 locs1 ls hl (ok_tl (ok_tl (ok_tl (ok_tl (ok_tl hst))))) (fun k9 j9 => ?_) hP1 hS1
  by_cases e9 : k9 = b
  · subst e9
    rw [uc_eq]
    split <;> exact hσ _ _
  · rw [uc_ne e9]
    exact hσ _ _
def mxW : Prop := Cond.static Lib.Math.max.name ∈ wsT ∧ Cond.initialized "java/lang/Math" ∈ wsT ∧ Cond.code Lib.Math.max.name Lib.Math.max.code 2 (some .int) ∈ wsT
def mnW : Prop := Cond.static Lib.Math.min.name ∈ wsT ∧ Cond.initialized "java/lang/Math" ∈ wsT ∧ Cond.code Lib.Math.min.name Lib.Math.min.code 2 (some .int) ∈ wsT
theorem jr_max {M : MM} {d : Nat} {X : CT} (hF : Fix M d X) {pc : Nat} {lv : List (Option PV)} {st : List PV} {σ : Sg} {idx : Nat} {a b : Int} (hw : mxW) (hdg : decode M.2.1 pc = .ok (.invokestatic idx, 3)) {q : Nat} (hq : pc + 3 = q) (hlk0 : Cond.methodLink M.1.cls idx Lib.Math.max.name ∈ wsT) (hr : (st.map pcat).sum ≤ 8) (hd : 1 ≤ d) (k : Gs X q lv (vI (if a < b then b else a) :: st) σ) : Gs X pc lv (vI b :: vI a :: st) σ := by
  obtain ⟨p, l, e, R, s, m, args, below, meth, c, D, cs, ad, A, cells, slots, Q⟩ := X
  obtain ⟨hx, hb, hml, hown, hts, hret, hlk, hK, hN, hi, hA, hd1, hd2, hd3, hd4⟩ := hF
  intro H locs ls hl hst hσ hP hS
  subst hq
  have oa : inR a := ok_hd (ok_tl hst)
  have ob : inR b := ok_hd hst
  refine va_mmax (x := Int32.ofInt a) (y := Int32.ofInt b) hx hb (hl.1.symm) hown (hts _ hlk0) (hts _ hw.1) (hts _ hw.2.1) (hts _ hw.2.2) (by omega) (by rw [cat_sum]; omega) hd3 hd4 hdg ?_
  have e1 : (if Int32.ofInt a < Int32.ofInt b then Int32.ofInt b else Int32.ofInt a) = Int32.ofInt (if a < b then b else a) := by
    by_cases h : a < b
    · rw [if_pos h, if_pos ((i32_lt oa ob).mpr h)]
    · rw [if_neg h, if_neg (fun z => h ((i32_lt oa ob).mp z))]
  rw [e1]
  refine k H locs ls hl (ok_cs (v := vI _) ?_ (ok_tl (ok_tl hst))) hσ hP hS
  show inR (if a < b then b else a)
  split <;> assumption
theorem jr_min {M : MM} {d : Nat} {X : CT} (hF : Fix M d X) {pc : Nat} {lv : List (Option PV)} {st : List PV} {σ : Sg} {idx : Nat} {a b : Int} (hw : mnW) (hdg : decode M.2.1 pc = .ok (.invokestatic idx, 3)) {q : Nat} (hq : pc + 3 = q) (hlk0 : Cond.methodLink M.1.cls idx Lib.Math.min.name ∈ wsT) (hr : (st.map pcat).sum ≤ 8) (hd : 1 ≤ d) (k : Gs X q lv (vI (if b < a then b else a) :: st) σ) : Gs X pc lv (vI b :: vI a :: st) σ := by
  obtain ⟨p, l, e, R, s, m, args, below, meth, c, D, cs, ad, A, cells, slots, Q⟩ := X
  obtain ⟨hx, hb, hml, hown, hts, hret, hlk, hK, hN, hi, hA, hd1, hd2, hd3, hd4⟩ := hF
  intro H locs ls hl hst hσ hP hS
  subst hq
  have oa : inR a := ok_hd (ok_tl hst)
  have ob : inR b := ok_hd hst
  refine va_mmin (x := Int32.ofInt a) (y := Int32.ofInt b) hx hb (hl.1.symm) hown (hts _ hlk0) (hts _ hw.1) (hts _ hw.2.1) (hts _ hw.2.2) (by omega) (by rw [cat_sum]; omega) hd3 hd4 hdg ?_
  have e1 : (if Int32.ofInt b < Int32.ofInt a then Int32.ofInt b else Int32.ofInt a) = Int32.ofInt (if b < a then b else a) := by
    by_cases h : b < a
    · rw [if_pos h, if_pos ((i32_lt ob oa).mpr h)]
    · rw [if_neg h, if_neg (fun z => h ((i32_lt ob oa).mp z))]
  rw [e1]
  refine k H locs ls hl (ok_cs (v := vI _) ?_ (ok_tl (ok_tl hst))) hσ hP hS
  show inR (if b < a then b else a)
  split <;> assumption
theorem jr_ireturn {M : MM} {d : Nat} {X : CT} (hF : Fix M d X) {pc : Nat} {lv : List (Option PV)} {st : List PV} {σ : Sg} {Q : Option PV → Sg → Prop} (hR : Ret X Q) (hr : M.2.2.2 = some .int) {z : Int} (hdg : decode M.2.1 pc = .ok (.ireturn, 1)) (h : Q (some (vI z)) σ) : Gs X pc lv [vI z] σ := by
  obtain ⟨p, l, e, R, s, m, args, below, meth, c, D, cs, ad, A, cells, slots, Qs⟩ := X
  obtain ⟨hx, hb, hml, hown, hts, hret, hlk, hK, hN, hi, hA, hd1, hd2, hd3, hd4⟩ := hF
  obtain ⟨rfl, rfl, rfl, rfl⟩ := hR
  intro H locs ls hl hst hσ hP hS
  exact W.iret (v := Int32.ofInt z) hx hb (hret.trans hr) (fun t ht _ => ⟨some (vI z), σ, rfl, fun v hv => by cases hv; exact ok_hd hst, hσ, by rw [ht]; exact hP, hS.F ht, h⟩) hS.2.2 hdg hlk
theorem jr_zreturn {M : MM} {d : Nat} {X : CT} (hF : Fix M d X) {pc : Nat} {lv : List (Option PV)} {st : List PV} {σ : Sg} {Q : Option PV → Sg → Prop} (hR : Ret X Q) (hr : M.2.2.2 = some .boolean) {z : Int} (hdg : decode M.2.1 pc = .ok (.ireturn, 1)) (hz : z = 0 ∨ z = 1) (h : Q (some (vI z)) σ) : Gs X pc lv [vI z] σ := by
  obtain ⟨p, l, e, R, s, m, args, below, meth, c, D, cs, ad, A, cells, slots, Qs⟩ := X
  obtain ⟨hx, hb, hml, hown, hts, hret, hlk, hK, hN, hi, hA, hd1, hd2, hd3, hd4⟩ := hF
  obtain ⟨rfl, rfl, rfl, rfl⟩ := hR
  intro H locs ls hl hst hσ hP hS
  exact W.zret (v := Int32.ofInt z) hx hb (hret.trans hr) (by rcases hz with rfl | rfl <;> decide +kernel) (fun t ht _ => ⟨some (vI z), σ, rfl, fun v hv => by cases hv; exact ok_hd hst, hσ, by rw [ht]; exact hP, hS.F ht, h⟩) hS.2.2 hdg hlk
theorem jr_return {M : MM} {d : Nat} {X : CT} (hF : Fix M d X) {pc : Nat} {lv : List (Option PV)} {st : List PV} {σ : Sg} {Q : Option PV → Sg → Prop} (hR : Ret X Q) (hr : M.2.2.2 = none) (hdg : decode M.2.1 pc = .ok (.return_, 1)) (h : Q none σ) : Gs X pc lv [] σ := by
  obtain ⟨p, l, e, R, s, m, args, below, meth, c, D, cs, ad, A, cells, slots, Qs⟩ := X
  obtain ⟨hx, hb, hml, hown, hts, hret, hlk, hK, hN, hi, hA, hd1, hd2, hd3, hd4⟩ := hF
  obtain ⟨rfl, rfl, rfl, rfl⟩ := hR
  intro H locs ls hl hst hσ hP hS
  exact W.vret hx hb (hret.trans hr) (fun t ht _ => ⟨none, σ, rfl, fun v hv => (by cases hv), hσ, by rw [ht]; exact hP, hS.F ht, h⟩) hS.2.2 hdg hlk
/-- what the frame knows of the world, the locals -/
theorem jr_wf {X : CT} {pc : Nat} {lv : List (Option PV)} {st : List PV} {σ : Sg} (k : (∀ (k : Nat) (j : Int), inR (σ k j)) → Gs X pc lv st σ) : Gs X pc lv st σ := by
  obtain ⟨p, l, e, R, s, m, args, below, meth, c, D, cs, ad, A, cells, slots, Qs⟩ := X
  intro H locs ls hl hst hσ hP hS
  exact k hσ H locs ls hl hst hσ hP hS
theorem jr_lok {X : CT} {pc : Nat} {lv : List (Option PV)} {st : List PV} {σ : Sg} (i : Nat) {v : PV} (h : lv[i]? = some (some v)) (k : okP v → Gs X pc lv st σ) : Gs X pc lv st σ := by
  obtain ⟨p, l, e, R, s, m, args, below, meth, c, D, cs, ad, A, cells, slots, Qs⟩ := X
  intro H locs ls hl hst hσ hP hS
  exact k (hl.2.2 _ _ h).2 H locs ls hl hst hσ hP hS
theorem jr_drop {X : CT} {pc : Nat} {lv : List (Option PV)} {st : List PV} {σ : Sg} (lv' : List (Option PV)) (h : ∀ (i : Nat) (v : PV), lv'[i]? = some (some v) → lv[i]? = some (some v)) (k : Gs X pc lv' st σ) : Gs X pc lv st σ := by
  obtain ⟨p, l, e, R, s, m, args, below, meth, c, D, cs, ad, A, cells, slots, Qs⟩ := X
  intro H locs ls hl hst hσ hP hS
  exact k H locs ls ⟨hl.1, hl.2.1, fun i v hv => hl.2.2 i v (h i v hv)⟩ hst hσ hP hS
theorem preB_blind (as : List Value) (D : va_G) (cs : C3) (ad : Nat → Nat) (σ : Sg) : FrameBlind (va_Pc as (PreB D cs ad σ)) := by
  intro a U g mk h
  obtain ⟨h1, h2, h3, h4, h5⟩ := h
  exact ⟨h1, h2, h3, va_K.moved (u := U) (U := U.calling g mk a) (Vm.Alike.refl U.vm) h4, va_Nw.same rfl (rfl : U.vm = (U.calling g mk a).vm) h5⟩
/-- what a call of M needs of the tables, apart from the link -/
def CV (M : MM) (n : Nat) : Prop := Cond.code M.1 M.2.1 M.2.2.1 M.2.2.2 ∈ wsT ∧ Cond.initialized M.1.cls ∈ wsT ∧ (M.1.cls ≠ "java/lang/invoke/MethodHandle" ∧ M.1.cls ≠ "java/lang/invoke/VarHandle" ∧ (parseMethodDescriptor M.1.desc).map (fun d => d.parameters.length) = some n) ∧ M.2.2.1 ≤ 40
def CI (M : MM) : Prop := Cond.instanceMethod M.1 ∈ wsT ∧ Cond.selects M.1.cls M.1 M.1 ∈ wsT
theorem jr_callV {M : MM} {d : Nat} {X : CT} (hF : Fix M d X) {pc : Nat} {lv : List (Option PV)} {st : List PV} {σ : Sg} {Mc : MM} {dc idx b ci : Nat} {fs : List (Option Nat)} {C : String} {T : u_T} {N : Nat} {Q' : Option PV → Sg → Prop} (as : List PV) (hM : RunsM Mc dc (vR b :: as) σ Q') (hdg : decode M.2.1 pc = .ok (.invokevirtual idx, 3)) {q : Nat} (hq : pc + 3 = q) (hlk0 : Cond.methodLink M.1.cls idx Mc.1 ∈ wsT) (hc : CV Mc as.length) (hci : CI Mc) (hL : Lay[b]? = some (0, ci, 0, fs)) (hC : vwCl[ci]? = some (C, T, N)) (hCC : C = Mc.1.cls) (hdd : dc < d) (hrs : (st.map pcat).sum ≤ 8) (k : ∀ (r : Option PV) (σ' : Sg), Q' r σ' → Gs X q lv (r.toList ++ st) σ') : Gs X pc lv (as.reverse ++ vR b :: st) σ := by
  obtain ⟨p, l, e, R, s, m, args, below, meth, c, D, cs, ad, A, cells, slots, Q⟩ := X
  obtain ⟨hx, hb, hml, hown, hts, hret, hlk, hK, hN, hi, hA, hd1, hd2, hd3, hd4⟩ := hF
  intro H locs ls hl hst hσ hP hS
  subst hq
  subst hCC
  have hrest : ∀ x ∈ st, okP x := fun x h => hst x (List.mem_append_right _ (List.mem_cons_of_mem _ h))
  have has : ∀ x ∈ vR b :: as, okP x := ok_cs (v := vR b) trivial (fun x h => hst x (List.mem_append_left _ (List.mem_reverse.mpr h)))
  have cw : CallW R s args M.1.cls Mc.1.cls idx Mc.1 Mc.2.1 Mc.2.2.1 Mc.2.2.2 (.code Mc.1 Mc.2.1 Mc.2.2.1 Mc.2.2.2 :: wsT) (rmD dc) 0 0 as.length :=
    ⟨callB_of as.length hts (goodT hc.1) rfl rfl rfl (hts _ hc.2.1) (hts _ hlk0) hc.2.2.1 ⟨by show dc + 1 ≤ R.frames; omega, by show 8 + (Mc.2.2.1 + 11) + 64 * dc ≤ R.locals; have := hc.2.2.2; omega⟩, hts _ hci.1, hts _ hci.2⟩
  have hr := va_runV (g := F0 m pc ls ((as.reverse ++ vR b :: st).map (tV ad))) (cells := cells) (slots := slots) (locs := locs) (below := below) (meth := meth) (As := as.map (tV ad)) (rest := st.map (tV ad)) (b := ad b) (e := e) ⟨hx, hb, hml, hown, hts⟩ (hM l D cs ad hi has) cw ⟨preB_blind _ D cs ad σ, va_recv hK hP hC (mkW_at hL), fun U hU hW => ⟨rfl, hσ, by rw [hU]; exact hP, va_K.moved hW.alike hK, va_Nw.warmM hW hN⟩⟩ rfl (by rw [List.length_map]) (hl.1.trans hml) (by show List.map _ _ = _; rw [List.map_append, List.map_reverse]; rfl) (by show 2 * 0 + _ ≤ 8; rw [cat_sum]; omega) hdg ⟨by omega, by omega⟩
  intro T hT Xs
  obtain ⟨v, st₀, t, T', L, h0, X', hL, e1, e2, ⟨r, σ', hv, hor, hσ', hP', hF', hq'⟩, stp⟩ := hr T hT Xs
  obtain ⟨hz, hk⟩ := hF'
  rw [h0] at hz hk
  have hv2 : v = r.map (tV ad) := by cases hv; rfl
  subst hv2
  have hAD : ∀ q, AD ad q → A q := fun q hq => by obtain ⟨k9, h9, rfl⟩ := hq; exact hA k9 h9
  have hS' : va_S A s.heap T'.heap (locs ++ L) := ⟨Nat.le_trans hS.1 (by rw [e1]; exact hz), fun q h1 h2 => by rw [e1, hk q (Nat.lt_of_lt_of_le h1 hS.1) (fun z => h2 (hAD q z))]; exact hS.2.1 q h1 h2, fun q hq => by
    rcases List.mem_append.mp hq with h | h
    · exact hS.2.2 q h
    · exact hAD _ (hL q h)⟩
  have hst' : ∀ x ∈ r.toList ++ st, okP x := fun x hx9 => by
    rcases List.mem_append.mp hx9 with h | h
    · exact hor x (by simpa using h)
    · exact hrest x h
  obtain ⟨t2, a1, b1⟩ := k r σ' hq' T'.heap (locs ++ L) ls hl hst' hσ' (by rw [e1]; exact hP') hS' T' rfl (by simpa using X')
  refine ⟨t2, stp t2 ?_, b1⟩
  have e9 : (r.map (tV ad)).toList ++ st.map (tV ad) = (r.toList ++ st).map (tV ad) := by
    cases r <;> simp
  rw [e9]
  exact a1
theorem jr_callS {M : MM} {d : Nat} {X : CT} (hF : Fix M d X) {pc : Nat} {lv : List (Option PV)} {st : List PV} {σ : Sg} {Mc : MM} {dc idx : Nat} {Q' : Option PV → Sg → Prop} (as : List PV) (hM : RunsM Mc dc as σ Q') (hdg : decode M.2.1 pc = .ok (.invokestatic idx, 3)) {q : Nat} (hq : pc + 3 = q) (hlk0 : Cond.methodLink M.1.cls idx Mc.1 ∈ wsT) (hc : CV Mc as.length) (hci : Cond.static Mc.1 ∈ wsT) (hdd : dc < d) (hrs : (st.map pcat).sum ≤ 8) (k : ∀ (r : Option PV) (σ' : Sg), Q' r σ' → Gs X q lv (r.toList ++ st) σ') : Gs X pc lv (as.reverse ++ st) σ := by
  obtain ⟨p, l, e, R, s, m, args, below, meth, c, D, cs, ad, A, cells, slots, Q⟩ := X
  obtain ⟨hx, hb, hml, hown, hts, hret, hlk, hK, hN, hi, hA, hd1, hd2, hd3, hd4⟩ := hF
  intro H locs ls hl hst hσ hP hS
  subst hq
  have hrest : ∀ x ∈ st, okP x := fun x h => hst x (List.mem_append_right _ h)
  have has : ∀ x ∈ as, okP x := fun x h => hst x (List.mem_append_left _ (List.mem_reverse.mpr h))
  have cw : CallB R s args M.1.cls idx Mc.1 Mc.2.1 Mc.2.2.1 Mc.2.2.2 (.code Mc.1 Mc.2.1 Mc.2.2.1 Mc.2.2.2 :: wsT) (rmD dc) 0 0 as.length ∧ (Cond.static Mc.1).before args s = true :=
    ⟨callB_of as.length hts (goodT hc.1) rfl rfl rfl (hts _ hc.2.1) (hts _ hlk0) hc.2.2.1 ⟨by show dc + 1 ≤ R.frames; omega, by show 8 + (Mc.2.2.1 + 11) + 64 * dc ≤ R.locals; have := hc.2.2.2; omega⟩, hts _ hci⟩
  have hr := va_runS (g := F0 m pc ls ((as.reverse ++ st).map (tV ad))) (cells := cells) (slots := slots) (locs := locs) (below := below) (meth := meth) (As := as.map (tV ad)) (rest := st.map (tV ad)) (e := e) ⟨hx, hb, hml, hown, hts⟩ (hM l D cs ad hi has) cw ⟨preB_blind _ D cs ad σ, fun U hU hW => ⟨rfl, hσ, by rw [hU]; exact hP, va_K.moved hW.alike hK, va_Nw.warmM hW hN⟩⟩ rfl (by rw [List.length_map]) (hl.1.trans hml) (by show List.map _ _ = _; rw [List.map_append, List.map_reverse]) (by show 2 * 0 + _ ≤ 8; rw [cat_sum]; omega) hdg ⟨by omega, by omega⟩
  intro T hT Xs
  obtain ⟨v, st₀, t, T', L, h0, X', hL, e1, e2, ⟨r, σ', hv, hor, hσ', hP', hF', hq'⟩, stp⟩ := hr T hT Xs
  obtain ⟨hz, hk⟩ := hF'
  rw [h0] at hz hk
  have hv2 : v = r.map (tV ad) := by cases hv; rfl
  subst hv2
  have hAD : ∀ q, AD ad q → A q := fun q hq => by obtain ⟨k9, h9, rfl⟩ := hq; exact hA k9 h9
  have hS' : va_S A s.heap T'.heap (locs ++ L) := ⟨Nat.le_trans hS.1 (by rw [e1]; exact hz), fun q h1 h2 => by rw [e1, hk q (Nat.lt_of_lt_of_le h1 hS.1) (fun z => h2 (hAD q z))]; exact hS.2.1 q h1 h2, fun q hq => by
    rcases List.mem_append.mp hq with h | h
    · exact hS.2.2 q h
    · exact hAD _ (hL q h)⟩
  have hst' : ∀ x ∈ r.toList ++ st, okP x := fun x hx9 => by
    rcases List.mem_append.mp hx9 with h | h
    · exact hor x (by simpa using h)
    · exact hrest x h
  obtain ⟨t2, a1, b1⟩ := k r σ' hq' T'.heap (locs ++ L) ls hl hst' hσ' (by rw [e1]; exact hP') hS' T' rfl (by simpa using X')
  refine ⟨t2, stp t2 ?_, b1⟩
  have e9 : (r.map (tV ad)).toList ++ st.map (tV ad) = (r.toList ++ st).map (tV ad) := by
    cases r <;> simp
  rw [e9]
  exact a1
theorem jr_callN {M : MM} {d : Nat} {X : CT} (hF : Fix M d X) {pc : Nat} {lv : List (Option PV)} {st : List PV} {σ : Sg} {Mc : MM} {dc : Nat} {Q' : Option PV → Sg → Prop} (as : List PV) (hM : RunsM Mc dc as σ Q') (hdg : decode M.2.1 pc = .ok (.invokestatic 39, 3)) {q : Nat} (hq : pc + 3 = q) (hown4 : M.1.cls = RX4) (hMc : Mc.1 = yX9_isWithin) (hc : CV Mc as.length) (hci : Cond.static Mc.1 ∈ wsT) (hdd : dc < d) (hrs : (st.map pcat).sum ≤ 8) (k : ∀ (r : Option PV) (σ' : Sg), Q' r σ' → Gs X q lv (r.toList ++ st) σ') : Gs X pc lv (as.reverse ++ st) σ := by
  obtain ⟨p, l, e, R, s, m, args, below, meth, c, D, cs, ad, A, cells, slots, Q⟩ := X
  obtain ⟨hx, hb, hml, hown, hts, hret, hlk, hK, hN, hi, hA, hd1, hd2, hd3, hd4⟩ := hF
  intro H locs ls hl hst hσ hP hS
  subst hq
  have hrest : ∀ x ∈ st, okP x := fun x h => hst x (List.mem_append_right _ h)
  have has : ∀ x ∈ as, okP x := fun x h => hst x (List.mem_append_left _ (List.mem_reverse.mpr h))
  have hN2 : va_Nw (.methodLinkNest M.1.cls 39 Mc.1 RX9) s := by rw [hown4, hMc]; exact hN
  have cw : va_CN R s args M.1.cls 39 Mc.1 RX9 Mc.2.1 Mc.2.2.1 Mc.2.2.2 (.code Mc.1 Mc.2.1 Mc.2.2.1 Mc.2.2.2 :: wsT) (rmD dc) 0 0 as.length ∧ (Cond.static Mc.1).before args s = true ∧ True :=
    ⟨va_cnB as.length hts (goodT hc.1) rfl rfl rfl hN2 (hts _ hc.2.1) hc.2.2.1 ⟨by show dc + 1 ≤ R.frames; omega, by show 8 + (Mc.2.2.1 + 11) + 64 * dc ≤ R.locals; have := hc.2.2.2; omega⟩, hts _ hci, trivial⟩
  have hr := va_runSN (g := F0 m pc ls ((as.reverse ++ st).map (tV ad))) (cells := cells) (slots := slots) (locs := locs) (below := below) (meth := meth) (As := as.map (tV ad)) (rest := st.map (tV ad)) (e := e) ⟨hx, hb, hml, hown, hts⟩ (hM l D cs ad hi has) cw ⟨preB_blind _ D cs ad σ, fun U hU hW => ⟨rfl, hσ, by rw [hU]; exact hP, va_K.moved hW.alike hK, va_Nw.warmM hW hN⟩⟩ rfl (by rw [List.length_map]) (hl.1.trans hml) (by show List.map _ _ = _; rw [List.map_append, List.map_reverse]) (by show 2 * 0 + _ ≤ 8; rw [cat_sum]; omega) hdg ⟨by omega, by omega⟩
  intro T hT Xs
  obtain ⟨v, st₀, t, T', L, h0, X', hL, e1, e2, ⟨r, σ', hv, hor, hσ', hP', hF', hq'⟩, stp⟩ := hr T hT Xs
  obtain ⟨hz, hk⟩ := hF'
  rw [h0] at hz hk
  have hv2 : v = r.map (tV ad) := by cases hv; rfl
  subst hv2
  have hAD : ∀ q, AD ad q → A q := fun q hq => by obtain ⟨k9, h9, rfl⟩ := hq; exact hA k9 h9
  have hS' : va_S A s.heap T'.heap (locs ++ L) := ⟨Nat.le_trans hS.1 (by rw [e1]; exact hz), fun q h1 h2 => by rw [e1, hk q (Nat.lt_of_lt_of_le h1 hS.1) (fun z => h2 (hAD q z))]; exact hS.2.1 q h1 h2, fun q hq => by
    rcases List.mem_append.mp hq with h | h
    · exact hS.2.2 q h
    · exact hAD _ (hL q h)⟩
  have hst' : ∀ x ∈ r.toList ++ st, okP x := fun x hx9 => by
    rcases List.mem_append.mp hx9 with h | h
    · exact hor x (by simpa using h)
    · exact hrest x h
  obtain ⟨t2, a1, b1⟩ := k r σ' hq' T'.heap (locs ++ L) ls hl hst' hσ' (by rw [e1]; exact hP') hS' T' rfl (by simpa using X')
  refine ⟨t2, stp t2 ?_, b1⟩
  have e9 : (r.map (tV ad)).toList ++ st.map (tV ad) = (r.toList ++ st).map (tV ad) := by
    cases r <;> simp
  rw [e9]
  exact a1
def eL (as : List PV) : List (Option PV) := match as with
  | [] => []
  | .inl z :: r => some (.inl z) :: eL r
  | .inr (.inl z) :: r => some (.inr (.inl z)) :: none :: eL r
  | .inr (.inr z) :: r => some (.inr (.inr z)) :: eL r
def entryL (as : List PV) (n : Nat) : List (Option PV) := eL as ++ List.replicate (n - (eL as).length) none
theorem eL_args (ad : Nat → Nat) : ∀ (as : List PV) (o i : Nat) (v : PV), (eL as)[i]? = some (some v) → (o + i, tV ad v) ∈ lv_args o (as.map (tV ad)) ∧ v ∈ as := by
  intro as
  induction as with
  | nil => intro o i v h; simp [eL] at h
  | cons a r ih =>
    intro o i v h
    rcases a with z | z | z
    · cases i with
      | zero =>
        simp only [eL, List.getElem?_cons_zero] at h
        cases h
        exact ⟨List.mem_cons_self, List.mem_cons_self⟩
      | succ i =>
        simp only [eL, List.getElem?_cons_succ] at h
        have h2 := ih (o + 1) i v h
        refine ⟨List.mem_cons_of_mem _ ?_, List.mem_cons_of_mem _ h2.2⟩
        rw [show o + (i + 1) = o + 1 + i by omega]
        exact h2.1
    · cases i with
      | zero =>
        simp only [eL, List.getElem?_cons_zero] at h
        cases h
        exact ⟨List.mem_cons_self, List.mem_cons_self⟩
      | succ i =>
        cases i with
        | zero =>
          simp only [eL, List.getElem?_cons_succ, List.getElem?_cons_zero] at h
          cases h
        | succ i =>
          simp only [eL, List.getElem?_cons_succ] at h
          have h2 := ih (o + 2) i v h
          refine ⟨List.mem_cons_of_mem _ ?_, List.mem_cons_of_mem _ h2.2⟩
          rw [show o + (i + 1 + 1) = o + 2 + i by omega]
          exact h2.1
    · cases i with
      | zero =>
        simp only [eL, List.getElem?_cons_zero] at h
        cases h
        exact ⟨List.mem_cons_self, List.mem_cons_self⟩
      | succ i =>
        simp only [eL, List.getElem?_cons_succ] at h
        have h2 := ih (o + 1) i v h
        refine ⟨List.mem_cons_of_mem _ ?_, List.mem_cons_of_mem _ h2.2⟩
        rw [show o + (i + 1) = o + 1 + i by omega]
        exact h2.1
theorem eL_len (ad : Nat → Nat) : ∀ (as : List PV), (lg_sl (as.map (tV ad))).length = (eL as).length := by
  intro as
  induction as with
  | nil => rfl
  | cons a r ih =>
    rcases a with z | z | z
    · show ((if (tV ad (.inl z)).category = 2 then _ else _) ++ lg_sl (r.map (tV ad)) : List Slot).length = _
      rw [List.length_append, ih]
      simp [eL, tV, Value.category]; omega
    · show ((if (tV ad (.inr (.inl z))).category = 2 then _ else _) ++ lg_sl (r.map (tV ad)) : List Slot).length = _
      rw [List.length_append, ih]
      simp [eL, tV, Value.category]; omega
    · show ((if (tV ad (.inr (.inr z))).category = 2 then _ else _) ++ lg_sl (r.map (tV ad)) : List Slot).length = _
      rw [List.length_append, ih]
      simp [eL, tV, Value.category]; omega
/-- a method's contract out of the walk of its body -/
theorem mkRun {M : MM} {d : Nat} {as : List PV} {σ : Sg} {Q : Option PV → Sg → Prop} (hy : plainName M.1.cls = true) (hn : (eL as).length ≤ M.2.2.1) (body : ∀ X : CT, Fix M d X → Ret X Q → Gs X 0 (entryL as M.2.2.1) [] σ) : RunsM M d as σ Q := by
  intro l D cs ad hi has
  refine Met.ofW (cc := M.2.1) (maxL := M.2.2.1) (ret := M.2.2.2) hy rfl ?_
  intro p e s m args below meth c s₁ B hml hv
  obtain ⟨rfl, hσ, hP, hK, hN⟩ := hv
  have hts := atoms_spec B.pre
  have hown : s.vm.findClass M.1.cls = some m.cls := findClass_of_methodNamed B.named
  have hb := body (p, l, e, (headSpec (.code M.1 M.2.1 M.2.2.1 M.2.2.2 :: wsT) (rmD d)).room, s, m, (as.map (tV ad)).toArray, below, meth, c, D, cs, ad, AD ad, 0, 0, MQ below (QcB D cs ad Q) (as.map (tV ad)).toArray s 0 0 (AD ad))
    ⟨B.exec, B.bytes, hml, hown, fun w hw => hts w (List.mem_cons_of_mem _ hw), B.returns, B.notSynchronized, hK, hN, hi, fun k hk => ⟨k, hk, rfl⟩, Nat.le_refl _, Nat.le_refl _, Nat.zero_le _, Nat.zero_le _⟩ ⟨rfl, rfl, rfl, rfl⟩
  have hl := lv_entry (as.map (tV ad)) (n := M.2.2.1) (by rw [eL_len]; exact hn)
  rw [lg_entry_eq]
  generalize (lg_sl (as.map (tV ad)) ++ List.replicate (M.2.2.1 - (lg_sl (as.map (tV ad))).length) Slot.unset).toArray = ls at hl ⊢
  refine hb s.heap [] ls ⟨hl.1.trans hml.symm, hl.2.1, fun i v hv => ?_⟩ (fun _ h => by cases h) hσ hP va_S.rf
  unfold entryL at hv
  by_cases h : i < (eL as).length
  · rw [List.getElem?_append_left h] at hv
    have h2 := eL_args ad as 0 i v hv
    rw [Nat.zero_add] at h2
    exact ⟨hl.2.2 _ h2.1, has v h2.2⟩
  · rw [List.getElem?_append_right (by omega)] at hv
    have := List.eq_of_mem_replicate (List.mem_of_getElem? hv)
    cases this
theorem RunsM.mono {M : MM} {d : Nat} {as : List PV} {σ : Sg} {Q Q' : Option PV → Sg → Prop} (h : RunsM M d as σ Q) (hq : ∀ r σ', Q r σ' → Q' r σ') : RunsM M d as σ Q' := by
  intro l D cs ad hi has
  have h1 := h l D cs ad hi has
  intro p e ha hc hk s m args below hf hap hP hK
  obtain ⟨t, o, a1, b1, b2, ⟨⟨r, σ', c1, c2, c3, c4, c5, c6⟩, b4⟩⟩ := h1 p e ha hc hk s m args below hf hap hP hK
  exact ⟨t, o, a1, b1, b2, ⟨⟨r, σ', c1, c2, c3, c4, c5, hq r σ' c6⟩, b4⟩⟩
