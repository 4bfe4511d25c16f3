theorem i32_div {a b : Int} (oa : inR a) (ob : inR b) (ha : 0 ≤ a) (hb : 0 < b) : ¬ Int32.ofInt b = 0 ∧ Int32.ofInt a / Int32.ofInt b = Int32.ofInt (a / b) ∧ inR (a / b) ∧ Int32.ofInt a - Int32.ofInt a / Int32.ofInt b * Int32.ofInt b = Int32.ofInt (a % b) ∧ inR (a % b) := by
  have h0 : ¬ Int32.ofInt b = 0 := fun h => by
    have := (i32_eq ob (b := 0) ⟨by decide, by decide⟩).mp (h.trans i32_0)
    omega
  have hle : a / b ≤ a := Int.ediv_le_self _ ha
  have hge : 0 ≤ a / b := Int.ediv_nonneg ha (by omega)
  have h1 : inR (a / b) := ⟨by omega, by omega⟩
  have e1 : Int32.ofInt a / Int32.ofInt b = Int32.ofInt (a / b) := by
    rw [← Int32.toInt_inj, Int32.toInt_div_of_ne_right, i32_in oa, i32_in ob, i32_in h1, Int.tdiv_eq_ediv_of_nonneg ha]
    intro h
    have h2 := congrArg Int32.toInt h
    rw [i32_in ob] at h2
    have h3 : (-1 : Int32).toInt = -1 := by decide +kernel
    omega
  have hm : a % b = a - a / b * b := by rw [Int.emod_def, Int.mul_comm]
  have h5 := Int.emod_nonneg a (show b ≠ 0 by omega)
  have h6 := Int.emod_lt_of_pos a hb
  refine ⟨h0, e1, h1, ?_, ⟨by omega, by omega⟩⟩
  rw [e1, hm, Int32.ofInt_sub, Int32.ofInt_mul]
theorem i64_rem {a b : Int} (oa : inL a) (ob : inL b) (ha : 0 ≤ a) (hb : 0 < b) : ¬ Int64.ofInt b = 0 ∧ Int64.ofInt a - Int64.ofInt a / Int64.ofInt b * Int64.ofInt b = Int64.ofInt (a % b) ∧ inL (a % b) := by
  have h0 : ¬ Int64.ofInt b = 0 := fun h => by
    have h2 := congrArg Int64.toInt h
    rw [i64_in ob] at h2
    have h3 : (0 : Int64).toInt = 0 := by decide +kernel
    omega
  have hle : a / b ≤ a := Int.ediv_le_self _ ha
  have hge : 0 ≤ a / b := Int.ediv_nonneg ha (by omega)
  have h1 : inL (a / b) := ⟨by omega, by omega⟩
  have e1 : Int64.ofInt a / Int64.ofInt b = Int64.ofInt (a / b) := by
    rw [← Int64.toInt_inj, Int64.toInt_div_of_ne_right, i64_in oa, i64_in ob, i64_in h1, Int.tdiv_eq_ediv_of_nonneg ha]
    intro h
    have h2 := congrArg Int64.toInt h
    rw [i64_in ob] at h2
    have h3 : (-1 : Int64).toInt = -1 := by decide +kernel
    omega
  have hm : a % b = a - a / b * b := by rw [Int.emod_def, Int.mul_comm]
  have h5 := Int.emod_nonneg a (show b ≠ 0 by omega)
  have h6 := Int.emod_lt_of_pos a hb
  refine ⟨h0, ?_, ⟨by omega, by omega⟩⟩
  rw [e1, hm, Int64.ofInt_sub, Int64.ofInt_mul]
theorem i32_64 {a : Int} (oa : inR a) : (Int32.ofInt a).toInt64 = Int64.ofInt a := by
  rw [← Int64.toInt_inj, Int32.toInt_toInt64, i32_in oa, i64_in ⟨by omega, by omega⟩]
theorem i64_32 (a : Int) : (Int64.ofInt a).toInt32 = Int32.ofInt a := by simp
theorem i64_cmp {a b : Int} (oa : inL a) (ob : inL b) : lg_cmp (Int64.ofInt a) (Int64.ofInt b) = Int32.ofInt (if b < a then 1 else if a = b then 0 else -1) := by
  unfold lg_cmp
  simp only [gt_iff_lt, Int64.lt_iff_toInt_lt, ← Int64.toInt_inj, i64_in oa, i64_in ob]
  split
  · decide +kernel
  · split <;> decide +kernel
theorem jr_iconst {M : MM} {d : Nat} {X : CT} (hF : Fix M d X) {pc : Nat} {lv : List (Option PV)} {st : List PV} {σ : Sg} {n : Int} (hdg : decode M.2.1 pc = .ok (.iconst n, 1)) {q : Nat} (hq : pc + 1 = q) (hn : inR n) (k : Gs X q lv (vI n :: st) σ) : Gs X pc lv (st) σ := by
  obtain ⟨p, l, e, R, s, m, args, below, meth, c, D, cs, ad, A, cells, slots, Q⟩ := X
  obtain ⟨hx, hb, hml, hown, hts, hret, hlk, hK, hN, hi, hA, hd1, hd2, hd3, hd4⟩ := hF
  intro H locs ls hl hst hσ hP hS
  subst hq
  exact lv_iconst hx hb hdg rfl (k H locs ls hl (ok_cs hn hst) hσ hP hS)
theorem jr_bipush {M : MM} {d : Nat} {X : CT} (hF : Fix M d X) {pc : Nat} {lv : List (Option PV)} {st : List PV} {σ : Sg} {n : Int} (hdg : decode M.2.1 pc = .ok (.bipush n, 2)) {q : Nat} (hq : pc + 2 = q) (hn : inR n) (hv : (Int8.ofInt n).toInt32 = Int32.ofInt n) (k : Gs X q lv (vI n :: st) σ) : Gs X pc lv (st) σ := by
  obtain ⟨p, l, e, R, s, m, args, below, meth, c, D, cs, ad, A, cells, slots, Q⟩ := X
  obtain ⟨hx, hb, hml, hown, hts, hret, hlk, hK, hN, hi, hA, hd1, hd2, hd3, hd4⟩ := hF
  intro H locs ls hl hst hσ hP hS
  subst hq
  exact lv_bipush hx hb hdg hv (k H locs ls hl (ok_cs hn hst) hσ hP hS)
theorem jr_sipush {M : MM} {d : Nat} {X : CT} (hF : Fix M d X) {pc : Nat} {lv : List (Option PV)} {st : List PV} {σ : Sg} {n : Int} (hdg : decode M.2.1 pc = .ok (.sipush n, 3)) {q : Nat} (hq : pc + 3 = q) (hn : inR n) (hv : (Int16.ofInt n).toInt32 = Int32.ofInt n) (k : Gs X q lv (vI n :: st) σ) : Gs X pc lv (st) σ := by
  obtain ⟨p, l, e, R, s, m, args, below, meth, c, D, cs, ad, A, cells, slots, Q⟩ := X
  obtain ⟨hx, hb, hml, hown, hts, hret, hlk, hK, hN, hi, hA, hd1, hd2, hd3, hd4⟩ := hF
  intro H locs ls hl hst hσ hP hS
  subst hq
  exact lv_sipush hx hb hdg hv (k H locs ls hl (ok_cs hn hst) hσ hP hS)
theorem jr_lconst {M : MM} {d : Nat} {X : CT} (hF : Fix M d X) {pc : Nat} {lv : List (Option PV)} {st : List PV} {σ : Sg} {n : Fin 2} (z : Int) (hdg : decode M.2.1 pc = .ok (.lconst n, 1)) {q : Nat} (hq : pc + 1 = q) (hn : inL z) (hv : Int64.ofNat (n : Nat) = Int64.ofInt z) (k : Gs X q lv (vL z :: st) σ) : Gs X pc lv (st) σ := by
  obtain ⟨p, l, e, R, s, m, args, below, meth, c, D, cs, ad, A, cells, slots, Q⟩ := X
  obtain ⟨hx, hb, hml, hown, hts, hret, hlk, hK, hN, hi, hA, hd1, hd2, hd3, hd4⟩ := hF
  intro H locs ls hl hst hσ hP hS
  subst hq
  exact lv_lconst hx hb hdg hv (k H locs ls hl (ok_cs hn hst) hσ hP hS)
theorem jr_ldc2 {M : MM} {d : Nat} {X : CT} (hF : Fix M d X) {pc : Nat} {lv : List (Option PV)} {st : List PV} {σ : Sg} {idx : Nat} {v : Int64} (z : Int) (hdg : decode M.2.1 pc = .ok (.ldc2_w idx, 3)) {q : Nat} (hq : pc + 3 = q) (hw : Cond.constantLong M.1.cls idx v ∈ wsT) (hn : inL z) (hv : v = Int64.ofInt z) (k : Gs X q lv (vL z :: st) σ) : Gs X pc lv (st) σ := by
  obtain ⟨p, l, e, R, s, m, args, below, meth, c, D, cs, ad, A, cells, slots, Q⟩ := X
  obtain ⟨hx, hb, hml, hown, hts, hret, hlk, hK, hN, hi, hA, hd1, hd2, hd3, hd4⟩ := hF
  intro H locs ls hl hst hσ hP hS
  subst hq
  subst hv
  exact lv_ldc2 hx hb hown (hts _ hw) hdg (k H locs ls hl (ok_cs hn hst) hσ hP hS)
theorem jr_iload_n {M : MM} {d : Nat} {X : CT} (hF : Fix M d X) {pc : Nat} {lv : List (Option PV)} {st : List PV} {σ : Sg} {n : Fin 4} {z : Int} (hdg : decode M.2.1 pc = .ok (.iload_n n, 1)) {q : Nat} (hq : pc + 1 = q) (h : lv[(n : Nat)]? = some (some (vI z))) (k : Gs X q lv (vI z :: st) σ) : Gs X pc lv (st) σ := by
  obtain ⟨p, l, e, R, s, m, args, below, meth, c, D, cs, ad, A, cells, slots, Q⟩ := X
  obtain ⟨hx, hb, hml, hown, hts, hret, hlk, hK, hN, hi, hA, hd1, hd2, hd3, hd4⟩ := hF
  intro H locs ls hl hst hσ hP hS
  subst hq
  exact lv_iload_n hx hb hdg rfl (hl.2.2 _ _ h).1 (k H locs ls hl (ok_cs (hl.2.2 _ _ h).2 hst) hσ hP hS)
theorem jr_iload {M : MM} {d : Nat} {X : CT} (hF : Fix M d X) {pc : Nat} {lv : List (Option PV)} {st : List PV} {σ : Sg} {n : Nat} {z : Int} (hdg : decode M.2.1 pc = .ok (.iload n, 2)) {q : Nat} (hq : pc + 2 = q) (h : lv[n]? = some (some (vI z))) (k : Gs X q lv (vI z :: st) σ) : Gs X pc lv (st) σ := by
  obtain ⟨p, l, e, R, s, m, args, below, meth, c, D, cs, ad, A, cells, slots, Q⟩ := X
  obtain ⟨hx, hb, hml, hown, hts, hret, hlk, hK, hN, hi, hA, hd1, hd2, hd3, hd4⟩ := hF
  intro H locs ls hl hst hσ hP hS
  subst hq
  exact lv_iload hx hb hdg (hl.2.2 _ _ h).1 (k H locs ls hl (ok_cs (hl.2.2 _ _ h).2 hst) hσ hP hS)
theorem jr_lload_n {M : MM} {d : Nat} {X : CT} (hF : Fix M d X) {pc : Nat} {lv : List (Option PV)} {st : List PV} {σ : Sg} {n : Fin 4} {z : Int} (hdg : decode M.2.1 pc = .ok (.lload_n n, 1)) {q : Nat} (hq : pc + 1 = q) (h : lv[(n : Nat)]? = some (some (vL z))) (k : Gs X q lv (vL z :: st) σ) : Gs X pc lv (st) σ := by
  obtain ⟨p, l, e, R, s, m, args, below, meth, c, D, cs, ad, A, cells, slots, Q⟩ := X
  obtain ⟨hx, hb, hml, hown, hts, hret, hlk, hK, hN, hi, hA, hd1, hd2, hd3, hd4⟩ := hF
  intro H locs ls hl hst hσ hP hS
  subst hq
  exact lv_lload_n hx hb hdg rfl (hl.2.2 _ _ h).1 (k H locs ls hl (ok_cs (hl.2.2 _ _ h).2 hst) hσ hP hS)
theorem jr_lload {M : MM} {d : Nat} {X : CT} (hF : Fix M d X) {pc : Nat} {lv : List (Option PV)} {st : List PV} {σ : Sg} {n : Nat} {z : Int} (hdg : decode M.2.1 pc = .ok (.lload n, 2)) {q : Nat} (hq : pc + 2 = q) (h : lv[n]? = some (some (vL z))) (k : Gs X q lv (vL z :: st) σ) : Gs X pc lv (st) σ := by
  obtain ⟨p, l, e, R, s, m, args, below, meth, c, D, cs, ad, A, cells, slots, Q⟩ := X
  obtain ⟨hx, hb, hml, hown, hts, hret, hlk, hK, hN, hi, hA, hd1, hd2, hd3, hd4⟩ := hF
  intro H locs ls hl hst hσ hP hS
  subst hq
  exact lv_lload hx hb hdg (hl.2.2 _ _ h).1 (k H locs ls hl (ok_cs (hl.2.2 _ _ h).2 hst) hσ hP hS)
theorem jr_aload_n {M : MM} {d : Nat} {X : CT} (hF : Fix M d X) {pc : Nat} {lv : List (Option PV)} {st : List PV} {σ : Sg} {n : Fin 4} {z : Nat} (hdg : decode M.2.1 pc = .ok (.aload_n n, 1)) {q : Nat} (hq : pc + 1 = q) (h : lv[(n : Nat)]? = some (some (vR z))) (k : Gs X q lv (vR z :: st) σ) : Gs X pc lv (st) σ := by
  obtain ⟨p, l, e, R, s, m, args, below, meth, c, D, cs, ad, A, cells, slots, Q⟩ := X
  obtain ⟨hx, hb, hml, hown, hts, hret, hlk, hK, hN, hi, hA, hd1, hd2, hd3, hd4⟩ := hF
  intro H locs ls hl hst hσ hP hS
  subst hq
  exact lv_aload_n hx hb hdg rfl (hl.2.2 _ _ h).1 (k H locs ls hl (ok_cs (hl.2.2 _ _ h).2 hst) hσ hP hS)
theorem jr_aload {M : MM} {d : Nat} {X : CT} (hF : Fix M d X) {pc : Nat} {lv : List (Option PV)} {st : List PV} {σ : Sg} {n : Nat} {z : Nat} (hdg : decode M.2.1 pc = .ok (.aload n, 2)) {q : Nat} (hq : pc + 2 = q) (h : lv[n]? = some (some (vR z))) (k : Gs X q lv (vR z :: st) σ) : Gs X pc lv (st) σ := by
  obtain ⟨p, l, e, R, s, m, args, below, meth, c, D, cs, ad, A, cells, slots, Q⟩ := X
  obtain ⟨hx, hb, hml, hown, hts, hret, hlk, hK, hN, hi, hA, hd1, hd2, hd3, hd4⟩ := hF
  intro H locs ls hl hst hσ hP hS
  subst hq
  exact lv_aload hx hb hdg (hl.2.2 _ _ h).1 (k H locs ls hl (ok_cs (hl.2.2 _ _ h).2 hst) hσ hP hS)
theorem jr_iadd {M : MM} {d : Nat} {X : CT} (hF : Fix M d X) {pc : Nat} {lv : List (Option PV)} {st : List PV} {σ : Sg} {a b : Int} (hdg : decode M.2.1 pc = .ok (.iadd, 1)) {q : Nat} (hq : pc + 1 = q) (h : inR (a + b)) (k : Gs X q lv (vI (a + b) :: st) σ) : Gs X pc lv (vI b :: vI a :: st) σ := by
  obtain ⟨p, l, e, R, s, m, args, below, meth, c, D, cs, ad, A, cells, slots, Q⟩ := X
  obtain ⟨hx, hb, hml, hown, hts, hret, hlk, hK, hN, hi, hA, hd1, hd2, hd3, hd4⟩ := hF
  intro H locs ls hl hst hσ hP hS
  subst hq
  refine lv_iadd (x := Int32.ofInt a) (y := Int32.ofInt b) hx hb hdg ?_
  rw [← Int32.ofInt_add]
  exact k H locs ls hl (ok_cs h (ok_tl (ok_tl hst))) hσ hP hS
theorem jr_isub {M : MM} {d : Nat} {X : CT} (hF : Fix M d X) {pc : Nat} {lv : List (Option PV)} {st : List PV} {σ : Sg} {a b : Int} (hdg : decode M.2.1 pc = .ok (.isub, 1)) {q : Nat} (hq : pc + 1 = q) (h : inR (a - b)) (k : Gs X q lv (vI (a - b) :: st) σ) : Gs X pc lv (vI b :: vI a :: st) σ := by
  obtain ⟨p, l, e, R, s, m, args, below, meth, c, D, cs, ad, A, cells, slots, Q⟩ := X
  obtain ⟨hx, hb, hml, hown, hts, hret, hlk, hK, hN, hi, hA, hd1, hd2, hd3, hd4⟩ := hF
  intro H locs ls hl hst hσ hP hS
  subst hq
  refine lv_isub (x := Int32.ofInt a) (y := Int32.ofInt b) hx hb hdg ?_
  rw [← Int32.ofInt_sub]
  exact k H locs ls hl (ok_cs h (ok_tl (ok_tl hst))) hσ hP hS
theorem jr_imul {M : MM} {d : Nat} {X : CT} (hF : Fix M d X) {pc : Nat} {lv : List (Option PV)} {st : List PV} {σ : Sg} {a b : Int} (hdg : decode M.2.1 pc = .ok (.imul, 1)) {q : Nat} (hq : pc + 1 = q) (h : inR (a * b)) (k : Gs X q lv (vI (a * b) :: st) σ) : Gs X pc lv (vI b :: vI a :: st) σ := by
  obtain ⟨p, l, e, R, s, m, args, below, meth, c, D, cs, ad, A, cells, slots, Q⟩ := X
  obtain ⟨hx, hb, hml, hown, hts, hret, hlk, hK, hN, hi, hA, hd1, hd2, hd3, hd4⟩ := hF
  intro H locs ls hl hst hσ hP hS
  subst hq
  refine lv_imul (x := Int32.ofInt a) (y := Int32.ofInt b) hx hb hdg ?_
  rw [← Int32.ofInt_mul]
  exact k H locs ls hl (ok_cs h (ok_tl (ok_tl hst))) hσ hP hS
theorem jr_idiv {M : MM} {d : Nat} {X : CT} (hF : Fix M d X) {pc : Nat} {lv : List (Option PV)} {st : List PV} {σ : Sg} {a b : Int} (hdg : decode M.2.1 pc = .ok (.idiv, 1)) {q : Nat} (hq : pc + 1 = q) (ha : 0 ≤ a) (hb0 : 0 < b) (k : Gs X q lv (vI (a / b) :: st) σ) : Gs X pc lv (vI b :: vI a :: st) σ := by
  obtain ⟨p, l, e, R, s, m, args, below, meth, c, D, cs, ad, A, cells, slots, Q⟩ := X
  obtain ⟨hx, hb, hml, hown, hts, hret, hlk, hK, hN, hi, hA, hd1, hd2, hd3, hd4⟩ := hF
  intro H locs ls hl hst hσ hP hS
  subst hq
  have oa : inR a := ok_hd (ok_tl hst)
  have ob : inR b := ok_hd hst
  have e1 := i32_div oa ob ha hb0
  refine lv_idiv (x := Int32.ofInt a) (y := Int32.ofInt b) hx hb hdg e1.1 ?_
  rw [e1.2.1]
  exact k H locs ls hl (ok_cs e1.2.2.1 (ok_tl (ok_tl hst))) hσ hP hS
theorem jr_irem {M : MM} {d : Nat} {X : CT} (hF : Fix M d X) {pc : Nat} {lv : List (Option PV)} {st : List PV} {σ : Sg} {a b : Int} (hdg : decode M.2.1 pc = .ok (.irem, 1)) {q : Nat} (hq : pc + 1 = q) (ha : 0 ≤ a) (hb0 : 0 < b) (k : Gs X q lv (vI (a % b) :: st) σ) : Gs X pc lv (vI b :: vI a :: st) σ := by
  obtain ⟨p, l, e, R, s, m, args, below, meth, c, D, cs, ad, A, cells, slots, Q⟩ := X
  obtain ⟨hx, hb, hml, hown, hts, hret, hlk, hK, hN, hi, hA, hd1, hd2, hd3, hd4⟩ := hF
  intro H locs ls hl hst hσ hP hS
  subst hq
  have oa : inR a := ok_hd (ok_tl hst)
  have ob : inR b := ok_hd hst
  have e1 := i32_div oa ob ha hb0
  refine lv_irem (x := Int32.ofInt a) (y := Int32.ofInt b) hx hb hdg e1.1 ?_
  rw [e1.2.2.2.1]
  exact k H locs ls hl (ok_cs e1.2.2.2.2 (ok_tl (ok_tl hst))) hσ hP hS
theorem jr_iand {M : MM} {d : Nat} {X : CT} (hF : Fix M d X) {pc : Nat} {lv : List (Option PV)} {st : List PV} {σ : Sg} {a b : Int} (hdg : decode M.2.1 pc = .ok (.iand, 1)) {q : Nat} (hq : pc + 1 = q)  (k : Gs X q lv (vI (Int32.ofInt a &&& Int32.ofInt b).toInt :: st) σ) : Gs X pc lv (vI b :: vI a :: st) σ := by
  obtain ⟨p, l, e, R, s, m, args, below, meth, c, D, cs, ad, A, cells, slots, Q⟩ := X
  obtain ⟨hx, hb, hml, hown, hts, hret, hlk, hK, hN, hi, hA, hd1, hd2, hd3, hd4⟩ := hF
  intro H locs ls hl hst hσ hP hS
  subst hq
  refine lv_iand (x := Int32.ofInt a) (y := Int32.ofInt b) hx hb hdg ?_
  have h := k H locs ls hl (ok_cs (inR_toInt _) (ok_tl (ok_tl hst))) hσ hP hS
  rw [List.map_cons, show tV ad (vI (Int32.ofInt a &&& Int32.ofInt b).toInt) = Value.int (Int32.ofInt (Int32.ofInt a &&& Int32.ofInt b).toInt) from rfl, Int32.ofInt_toInt] at h
  exact h
theorem jr_ior {M : MM} {d : Nat} {X : CT} (hF : Fix M d X) {pc : Nat} {lv : List (Option PV)} {st : List PV} {σ : Sg} {a b : Int} (hdg : decode M.2.1 pc = .ok (.ior, 1)) {q : Nat} (hq : pc + 1 = q)  (k : Gs X q lv (vI (Int32.ofInt a ||| Int32.ofInt b).toInt :: st) σ) : Gs X pc lv (vI b :: vI a :: st) σ := by
  obtain ⟨p, l, e, R, s, m, args, below, meth, c, D, cs, ad, A, cells, slots, Q⟩ := X
  obtain ⟨hx, hb, hml, hown, hts, hret, hlk, hK, hN, hi, hA, hd1, hd2, hd3, hd4⟩ := hF
  intro H locs ls hl hst hσ hP hS
  subst hq
  refine lv_ior (x := Int32.ofInt a) (y := Int32.ofInt b) hx hb hdg ?_
  have h := k H locs ls hl (ok_cs (inR_toInt _) (ok_tl (ok_tl hst))) hσ hP hS
  rw [List.map_cons, show tV ad (vI (Int32.ofInt a ||| Int32.ofInt b).toInt) = Value.int (Int32.ofInt (Int32.ofInt a ||| Int32.ofInt b).toInt) from rfl, Int32.ofInt_toInt] at h
  exact h
theorem jr_ixor {M : MM} {d : Nat} {X : CT} (hF : Fix M d X) {pc : Nat} {lv : List (Option PV)} {st : List PV} {σ : Sg} {a b : Int} (hdg : decode M.2.1 pc = .ok (.ixor, 1)) {q : Nat} (hq : pc + 1 = q)  (k : Gs X q lv (vI (Int32.ofInt a ^^^ Int32.ofInt b).toInt :: st) σ) : Gs X pc lv (vI b :: vI a :: st) σ := by
  obtain ⟨p, l, e, R, s, m, args, below, meth, c, D, cs, ad, A, cells, slots, Q⟩ := X
  obtain ⟨hx, hb, hml, hown, hts, hret, hlk, hK, hN, hi, hA, hd1, hd2, hd3, hd4⟩ := hF
  intro H locs ls hl hst hσ hP hS
  subst hq
  refine lv_ixor (x := Int32.ofInt a) (y := Int32.ofInt b) hx hb hdg ?_
  have h := k H locs ls hl (ok_cs (inR_toInt _) (ok_tl (ok_tl hst))) hσ hP hS
  rw [List.map_cons, show tV ad (vI (Int32.ofInt a ^^^ Int32.ofInt b).toInt) = Value.int (Int32.ofInt (Int32.ofInt a ^^^ Int32.ofInt b).toInt) from rfl, Int32.ofInt_toInt] at h
  exact h
theorem jr_ishl {M : MM} {d : Nat} {X : CT} (hF : Fix M d X) {pc : Nat} {lv : List (Option PV)} {st : List PV} {σ : Sg} {a b : Int} (hdg : decode M.2.1 pc = .ok (.ishl, 1)) {q : Nat} (hq : pc + 1 = q)  (k : Gs X q lv (vI (Int32.ofInt a <<< (Int32.ofInt b &&& 31)).toInt :: st) σ) : Gs X pc lv (vI b :: vI a :: st) σ := by
  obtain ⟨p, l, e, R, s, m, args, below, meth, c, D, cs, ad, A, cells, slots, Q⟩ := X
  obtain ⟨hx, hb, hml, hown, hts, hret, hlk, hK, hN, hi, hA, hd1, hd2, hd3, hd4⟩ := hF
  intro H locs ls hl hst hσ hP hS
  subst hq
  refine lv_ishl (x := Int32.ofInt a) (y := Int32.ofInt b) hx hb hdg ?_
  have h := k H locs ls hl (ok_cs (inR_toInt _) (ok_tl (ok_tl hst))) hσ hP hS
  rw [List.map_cons, show tV ad (vI (Int32.ofInt a <<< (Int32.ofInt b &&& 31)).toInt) = Value.int (Int32.ofInt (Int32.ofInt a <<< (Int32.ofInt b &&& 31)).toInt) from rfl, Int32.ofInt_toInt] at h
  exact h
theorem jr_ishr {M : MM} {d : Nat} {X : CT} (hF : Fix M d X) {pc : Nat} {lv : List (Option PV)} {st : List PV} {σ : Sg} {a b : Int} (hdg : decode M.2.1 pc = .ok (.ishr, 1)) {q : Nat} (hq : pc + 1 = q)  (k : Gs X q lv (vI (Int32.ofInt a >>> (Int32.ofInt b &&& 31)).toInt :: st) σ) : Gs X pc lv (vI b :: vI a :: st) σ := by
  obtain ⟨p, l, e, R, s, m, args, below, meth, c, D, cs, ad, A, cells, slots, Q⟩ := X
  obtain ⟨hx, hb, hml, hown, hts, hret, hlk, hK, hN, hi, hA, hd1, hd2, hd3, hd4⟩ := hF
  intro H locs ls hl hst hσ hP hS
  subst hq
  refine lv_ishr (x := Int32.ofInt a) (y := Int32.ofInt b) hx hb hdg ?_
  have h := k H locs ls hl (ok_cs (inR_toInt _) (ok_tl (ok_tl hst))) hσ hP hS
  rw [List.map_cons, show tV ad (vI (Int32.ofInt a >>> (Int32.ofInt b &&& 31)).toInt) = Value.int (Int32.ofInt (Int32.ofInt a >>> (Int32.ofInt b &&& 31)).toInt) from rfl, Int32.ofInt_toInt] at h
  exact h
theorem jr_i2l {M : MM} {d : Nat} {X : CT} (hF : Fix M d X) {pc : Nat} {lv : List (Option PV)} {st : List PV} {σ : Sg} {a : Int} (hdg : decode M.2.1 pc = .ok (.i2l, 1)) {q : Nat} (hq : pc + 1 = q)  (k : Gs X q lv (vL a :: st) σ) : Gs X pc lv (vI a :: st) σ := by
  obtain ⟨p, l, e, R, s, m, args, below, meth, c, D, cs, ad, A, cells, slots, Q⟩ := X
  obtain ⟨hx, hb, hml, hown, hts, hret, hlk, hK, hN, hi, hA, hd1, hd2, hd3, hd4⟩ := hF
  intro H locs ls hl hst hσ hP hS
  subst hq
  have oa : inR a := ok_hd hst
  refine lv_i2l (x := Int32.ofInt a) (v := Int64.ofInt a) hx hb hdg (i32_64 oa) ?_
  exact k H locs ls hl (ok_cs (show inL a from ⟨by omega, by omega⟩) (ok_tl hst)) hσ hP hS
theorem jr_l2i {M : MM} {d : Nat} {X : CT} (hF : Fix M d X) {pc : Nat} {lv : List (Option PV)} {st : List PV} {σ : Sg} {a : Int} (hdg : decode M.2.1 pc = .ok (.l2i, 1)) {q : Nat} (hq : pc + 1 = q) (h : inR a) (k : Gs X q lv (vI a :: st) σ) : Gs X pc lv (vL a :: st) σ := by
  obtain ⟨p, l, e, R, s, m, args, below, meth, c, D, cs, ad, A, cells, slots, Q⟩ := X
  obtain ⟨hx, hb, hml, hown, hts, hret, hlk, hK, hN, hi, hA, hd1, hd2, hd3, hd4⟩ := hF
  intro H locs ls hl hst hσ hP hS
  subst hq
  refine lv_l2i (x := Int64.ofInt a) (v := Int32.ofInt a) hx hb hdg (i64_32 a) ?_
  exact k H locs ls hl (ok_cs h (ok_tl hst)) hσ hP hS
theorem jr_l2iw {M : MM} {d : Nat} {X : CT} (hF : Fix M d X) {pc : Nat} {lv : List (Option PV)} {st : List PV} {σ : Sg} {a : Int} (hdg : decode M.2.1 pc = .ok (.l2i, 1)) {q : Nat} (hq : pc + 1 = q)  (k : Gs X q lv (vI (Int32.ofInt a).toInt :: st) σ) : Gs X pc lv (vL a :: st) σ := by
  obtain ⟨p, l, e, R, s, m, args, below, meth, c, D, cs, ad, A, cells, slots, Q⟩ := X
  obtain ⟨hx, hb, hml, hown, hts, hret, hlk, hK, hN, hi, hA, hd1, hd2, hd3, hd4⟩ := hF
  intro H locs ls hl hst hσ hP hS
  subst hq
  refine lv_l2i (x := Int64.ofInt a) (v := Int32.ofInt a) hx hb hdg (i64_32 a) ?_
  have h := k H locs ls hl (ok_cs (inR_toInt _) (ok_tl hst)) hσ hP hS
  rw [List.map_cons, show tV ad (vI (Int32.ofInt a).toInt) = Value.int (Int32.ofInt (Int32.ofInt a).toInt) from rfl, Int32.ofInt_toInt] at h
  exact h
theorem jr_i2b {M : MM} {d : Nat} {X : CT} (hF : Fix M d X) {pc : Nat} {lv : List (Option PV)} {st : List PV} {σ : Sg} {a : Int} (hdg : decode M.2.1 pc = .ok (.i2b, 1)) {q : Nat} (hq : pc + 1 = q)  (k : Gs X q lv (vI (Int8.ofInt a).toInt :: st) σ) : Gs X pc lv (vI a :: st) σ := by
  obtain ⟨p, l, e, R, s, m, args, below, meth, c, D, cs, ad, A, cells, slots, Q⟩ := X
  obtain ⟨hx, hb, hml, hown, hts, hret, hlk, hK, hN, hi, hA, hd1, hd2, hd3, hd4⟩ := hF
  intro H locs ls hl hst hσ hP hS
  subst hq
  refine lv_i2b (x := Int32.ofInt a) (v := Int32.ofInt (Int8.ofInt a).toInt) hx hb hdg (by rw [Int32.toInt8_ofInt]; rfl) ?_
  exact k H locs ls hl (ok_cs (show inR (Int8.ofInt a).toInt from ⟨by have := (Int8.ofInt a).le_toInt; omega, by have := (Int8.ofInt a).toInt_lt; omega⟩) (ok_tl hst)) hσ hP hS
theorem jr_ladd {M : MM} {d : Nat} {X : CT} (hF : Fix M d X) {pc : Nat} {lv : List (Option PV)} {st : List PV} {σ : Sg} {a b : Int} (hdg : decode M.2.1 pc = .ok (.ladd, 1)) {q : Nat} (hq : pc + 1 = q) (h : inL (a + b)) (k : Gs X q lv (vL (a + b) :: st) σ) : Gs X pc lv (vL b :: vL a :: st) σ := by
  obtain ⟨p, l, e, R, s, m, args, below, meth, c, D, cs, ad, A, cells, slots, Q⟩ := X
  obtain ⟨hx, hb, hml, hown, hts, hret, hlk, hK, hN, hi, hA, hd1, hd2, hd3, hd4⟩ := hF
  intro H locs ls hl hst hσ hP hS
  subst hq
  refine lv_ladd (x := Int64.ofInt a) (y := Int64.ofInt b) hx hb hdg ?_
  rw [← Int64.ofInt_add]
  exact k H locs ls hl (ok_cs h (ok_tl (ok_tl hst))) hσ hP hS
theorem jr_lmul {M : MM} {d : Nat} {X : CT} (hF : Fix M d X) {pc : Nat} {lv : List (Option PV)} {st : List PV} {σ : Sg} {a b : Int} (hdg : decode M.2.1 pc = .ok (.lmul, 1)) {q : Nat} (hq : pc + 1 = q) (h : inL (a * b)) (k : Gs X q lv (vL (a * b) :: st) σ) : Gs X pc lv (vL b :: vL a :: st) σ := by
  obtain ⟨p, l, e, R, s, m, args, below, meth, c, D, cs, ad, A, cells, slots, Q⟩ := X
  obtain ⟨hx, hb, hml, hown, hts, hret, hlk, hK, hN, hi, hA, hd1, hd2, hd3, hd4⟩ := hF
  intro H locs ls hl hst hσ hP hS
  subst hq
  refine lv_lmul (x := Int64.ofInt a) (y := Int64.ofInt b) hx hb hdg ?_
  rw [← Int64.ofInt_mul]
  exact k H locs ls hl (ok_cs h (ok_tl (ok_tl hst))) hσ hP hS
theorem jr_lrem {M : MM} {d : Nat} {X : CT} (hF : Fix M d X) {pc : Nat} {lv : List (Option PV)} {st : List PV} {σ : Sg} {a b : Int} (hdg : decode M.2.1 pc = .ok (.lrem, 1)) {q : Nat} (hq : pc + 1 = q) (ha : 0 ≤ a) (hb0 : 0 < b) (k : Gs X q lv (vL (a % b) :: st) σ) : Gs X pc lv (vL b :: vL a :: st) σ := by
  obtain ⟨p, l, e, R, s, m, args, below, meth, c, D, cs, ad, A, cells, slots, Q⟩ := X
  obtain ⟨hx, hb, hml, hown, hts, hret, hlk, hK, hN, hi, hA, hd1, hd2, hd3, hd4⟩ := hF
  intro H locs ls hl hst hσ hP hS
  subst hq
  have oa : inL a := ok_hd (ok_tl hst)
  have ob : inL b := ok_hd hst
  have e1 := i64_rem oa ob ha hb0
  refine lv_lrem (x := Int64.ofInt a) (y := Int64.ofInt b) hx hb hdg e1.1 ?_
  rw [e1.2.1]
  exact k H locs ls hl (ok_cs e1.2.2 (ok_tl (ok_tl hst))) hσ hP hS
theorem jr_land {M : MM} {d : Nat} {X : CT} (hF : Fix M d X) {pc : Nat} {lv : List (Option PV)} {st : List PV} {σ : Sg} {a b : Int} (hdg : decode M.2.1 pc = .ok (.land, 1)) {q : Nat} (hq : pc + 1 = q)  (k : Gs X q lv (vL (Int64.ofInt a &&& Int64.ofInt b).toInt :: st) σ) : Gs X pc lv (vL b :: vL a :: st) σ := by
  obtain ⟨p, l, e, R, s, m, args, below, meth, c, D, cs, ad, A, cells, slots, Q⟩ := X
  obtain ⟨hx, hb, hml, hown, hts, hret, hlk, hK, hN, hi, hA, hd1, hd2, hd3, hd4⟩ := hF
  intro H locs ls hl hst hσ hP hS
  subst hq
  refine lv_land (x := Int64.ofInt a) (y := Int64.ofInt b) hx hb hdg ?_
  have h := k H locs ls hl (ok_cs (inL_toInt _) (ok_tl (ok_tl hst))) hσ hP hS
  rw [List.map_cons, show tV ad (vL (Int64.ofInt a &&& Int64.ofInt b).toInt) = Value.long (Int64.ofInt (Int64.ofInt a &&& Int64.ofInt b).toInt) from rfl, Int64.ofInt_toInt] at h
  exact h
theorem jr_lor {M : MM} {d : Nat} {X : CT} (hF : Fix M d X) {pc : Nat} {lv : List (Option PV)} {st : List PV} {σ : Sg} {a b : Int} (hdg : decode M.2.1 pc = .ok (.lor, 1)) {q : Nat} (hq : pc + 1 = q)  (k : Gs X q lv (vL (Int64.ofInt a ||| Int64.ofInt b).toInt :: st) σ) : Gs X pc lv (vL b :: vL a :: st) σ := by
  obtain ⟨p, l, e, R, s, m, args, below, meth, c, D, cs, ad, A, cells, slots, Q⟩ := X
  obtain ⟨hx, hb, hml, hown, hts, hret, hlk, hK, hN, hi, hA, hd1, hd2, hd3, hd4⟩ := hF
  intro H locs ls hl hst hσ hP hS
  subst hq
  refine lv_lor (x := Int64.ofInt a) (y := Int64.ofInt b) hx hb hdg ?_
  have h := k H locs ls hl (ok_cs (inL_toInt _) (ok_tl (ok_tl hst))) hσ hP hS
  rw [List.map_cons, show tV ad (vL (Int64.ofInt a ||| Int64.ofInt b).toInt) = Value.long (Int64.ofInt (Int64.ofInt a ||| Int64.ofInt b).toInt) from rfl, Int64.ofInt_toInt] at h
  exact h
theorem jr_lshl {M : MM} {d : Nat} {X : CT} (hF : Fix M d X) {pc : Nat} {lv : List (Option PV)} {st : List PV} {σ : Sg} {a b : Int} (hdg : decode M.2.1 pc = .ok (.lshl, 1)) {q : Nat} (hq : pc + 1 = q)  (k : Gs X q lv (vL (Int64.ofInt a <<< ((Int32.ofInt b).toInt64 &&& 63)).toInt :: st) σ) : Gs X pc lv (vI b :: vL a :: st) σ := by
  obtain ⟨p, l, e, R, s, m, args, below, meth, c, D, cs, ad, A, cells, slots, Q⟩ := X
  obtain ⟨hx, hb, hml, hown, hts, hret, hlk, hK, hN, hi, hA, hd1, hd2, hd3, hd4⟩ := hF
  intro H locs ls hl hst hσ hP hS
  subst hq
  refine lv_lshl (x := Int64.ofInt a) (y := Int32.ofInt b) hx hb hdg rfl ?_
  have h := k H locs ls hl (ok_cs (inL_toInt _) (ok_tl (ok_tl hst))) hσ hP hS
  rw [List.map_cons, show tV ad (vL (Int64.ofInt a <<< ((Int32.ofInt b).toInt64 &&& 63)).toInt) = Value.long (Int64.ofInt (Int64.ofInt a <<< ((Int32.ofInt b).toInt64 &&& 63)).toInt) from rfl, Int64.ofInt_toInt] at h
  exact h
theorem jr_lshr {M : MM} {d : Nat} {X : CT} (hF : Fix M d X) {pc : Nat} {lv : List (Option PV)} {st : List PV} {σ : Sg} {a b : Int} (hdg : decode M.2.1 pc = .ok (.lshr, 1)) {q : Nat} (hq : pc + 1 = q)  (k : Gs X q lv (vL (Int64.ofInt a >>> ((Int32.ofInt b).toInt64 &&& 63)).toInt :: st) σ) : Gs X pc lv (vI b :: vL a :: st) σ := by
  obtain ⟨p, l, e, R, s, m, args, below, meth, c, D, cs, ad, A, cells, slots, Q⟩ := X
  obtain ⟨hx, hb, hml, hown, hts, hret, hlk, hK, hN, hi, hA, hd1, hd2, hd3, hd4⟩ := hF
  intro H locs ls hl hst hσ hP hS
  subst hq
  refine lv_lshr (x := Int64.ofInt a) (y := Int32.ofInt b) hx hb hdg rfl ?_
  have h := k H locs ls hl (ok_cs (inL_toInt _) (ok_tl (ok_tl hst))) hσ hP hS
  rw [List.map_cons, show tV ad (vL (Int64.ofInt a >>> ((Int32.ofInt b).toInt64 &&& 63)).toInt) = Value.long (Int64.ofInt (Int64.ofInt a >>> ((Int32.ofInt b).toInt64 &&& 63)).toInt) from rfl, Int64.ofInt_toInt] at h
  exact h
theorem jr_lcmp {M : MM} {d : Nat} {X : CT} (hF : Fix M d X) {pc : Nat} {lv : List (Option PV)} {st : List PV} {σ : Sg} {a b : Int} (hdg : decode M.2.1 pc = .ok (.lcmp, 1)) {q : Nat} (hq : pc + 1 = q)  (k : Gs X q lv (vI (if b < a then 1 else if a = b then 0 else -1) :: st) σ) : Gs X pc lv (vL b :: vL a :: st) σ := by
  obtain ⟨p, l, e, R, s, m, args, below, meth, c, D, cs, ad, A, cells, slots, Q⟩ := X
  obtain ⟨hx, hb, hml, hown, hts, hret, hlk, hK, hN, hi, hA, hd1, hd2, hd3, hd4⟩ := hF
  intro H locs ls hl hst hσ hP hS
  subst hq
  have oa : inL a := ok_hd (ok_tl hst)
  have ob : inL b := ok_hd hst
  refine W.lcmp (x := Int64.ofInt a) (y := Int64.ofInt b) hx hb hdg ?_
  rw [i64_cmp oa ob]
  exact k H locs ls hl (ok_cs (show inR _ by split; exact ⟨by decide, by decide⟩; split <;> exact ⟨by decide, by decide⟩) (ok_tl (ok_tl hst))) hσ hP hS
theorem jr_dup {M : MM} {d : Nat} {X : CT} (hF : Fix M d X) {pc : Nat} {lv : List (Option PV)} {st : List PV} {σ : Sg} {v : PV} (hdg : decode M.2.1 pc = .ok (.dup, 1)) {q : Nat} (hq : pc + 1 = q) (hv : pcat v = 1) (k : Gs X q lv (v :: v :: st) σ) : Gs X pc lv (v :: st) σ := by
  obtain ⟨p, l, e, R, s, m, args, below, meth, c, D, cs, ad, A, cells, slots, Q⟩ := X
  obtain ⟨hx, hb, hml, hown, hts, hret, hlk, hK, hN, hi, hA, hd1, hd2, hd3, hd4⟩ := hF
  intro H locs ls hl hst hσ hP hS
  subst hq
  exact lv_dup hx hb hdg ((pcat_eq ad v).trans hv) (k H locs ls hl (ok_cs (ok_hd hst) hst) hσ hP hS)
theorem jr_pop {M : MM} {d : Nat} {X : CT} (hF : Fix M d X) {pc : Nat} {lv : List (Option PV)} {st : List PV} {σ : Sg} {v : PV} (hdg : decode M.2.1 pc = .ok (.pop, 1)) {q : Nat} (hq : pc + 1 = q) (hv : pcat v = 1) (k : Gs X q lv (st) σ) : Gs X pc lv (v :: st) σ := by
  obtain ⟨p, l, e, R, s, m, args, below, meth, c, D, cs, ad, A, cells, slots, Q⟩ := X
  obtain ⟨hx, hb, hml, hown, hts, hret, hlk, hK, hN, hi, hA, hd1, hd2, hd3, hd4⟩ := hF
  intro H locs ls hl hst hσ hP hS
  subst hq
  exact lv_pop hx hb hdg ((pcat_eq ad v).trans hv) (k H locs ls hl (ok_tl hst) hσ hP hS)
theorem jr_dup2 {M : MM} {d : Nat} {X : CT} (hF : Fix M d X) {pc : Nat} {lv : List (Option PV)} {st : List PV} {σ : Sg} {v w : PV} (hdg : decode M.2.1 pc = .ok (.dup2, 1)) {q : Nat} (hq : pc + 1 = q) (hv : pcat v = 1) (hw : pcat w = 1) (k : Gs X q lv (v :: w :: v :: w :: st) σ) : Gs X pc lv (v :: w :: st) σ := by
  obtain ⟨p, l, e, R, s, m, args, below, meth, c, D, cs, ad, A, cells, slots, Q⟩ := X
  obtain ⟨hx, hb, hml, hown, hts, hret, hlk, hK, hN, hi, hA, hd1, hd2, hd3, hd4⟩ := hF
  intro H locs ls hl hst hσ hP hS
  subst hq
  exact lv_dup2_11 hx hb hdg ((pcat_eq ad v).trans hv) ((pcat_eq ad w).trans hw) (k H locs ls hl (ok_cs (ok_hd hst) (ok_cs (ok_hd (ok_tl hst)) hst)) hσ hP hS)
theorem jr_icmp_eq {M : MM} {d : Nat} {X : CT} (hF : Fix M d X) {pc : Nat} {lv : List (Option PV)} {st : List PV} {σ : Sg} {a b : Int} {off : Int} (hdg : decode M.2.1 pc = .ok (.if_icmp .eq off, 3)) {q : Nat} (hq : pc + 3 = q) (t : Nat) (ht : (pc : Int) + off = (t : Int)) (kt : a = b → Gs X t lv (st) σ) (kf : a ≠ b → Gs X q lv (st) σ) : Gs X pc lv (vI b :: vI a :: st) σ := by
  obtain ⟨p, l, e, R, s, m, args, below, meth, c, D, cs, ad, A, cells, slots, Q⟩ := X
  obtain ⟨hx, hb, hml, hown, hts, hret, hlk, hK, hN, hi, hA, hd1, hd2, hd3, hd4⟩ := hF
  intro H locs ls hl hst hσ hP hS
  subst hq
  have oa : inR a := ok_hd (ok_tl hst)
  have ob : inR b := ok_hd hst
  refine lv_icmp_eq (x := Int32.ofInt a) (y := Int32.ofInt b) hx hb hdg ht (fun h => ?_) (fun h => ?_)
  · exact kt ((i32_eq oa ob).mp h) H locs ls hl (ok_tl (ok_tl hst)) hσ hP hS
  · exact kf (fun z => h ((i32_eq oa ob).mpr z)) H locs ls hl (ok_tl (ok_tl hst)) hσ hP hS
theorem jr_icmp_ne {M : MM} {d : Nat} {X : CT} (hF : Fix M d X) {pc : Nat} {lv : List (Option PV)} {st : List PV} {σ : Sg} {a b : Int} {off : Int} (hdg : decode M.2.1 pc = .ok (.if_icmp .ne off, 3)) {q : Nat} (hq : pc + 3 = q) (t : Nat) (ht : (pc : Int) + off = (t : Int)) (kt : a ≠ b → Gs X t lv (st) σ) (kf : a = b → Gs X q lv (st) σ) : Gs X pc lv (vI b :: vI a :: st) σ := by
  obtain ⟨p, l, e, R, s, m, args, below, meth, c, D, cs, ad, A, cells, slots, Q⟩ := X
  obtain ⟨hx, hb, hml, hown, hts, hret, hlk, hK, hN, hi, hA, hd1, hd2, hd3, hd4⟩ := hF
  intro H locs ls hl hst hσ hP hS
  subst hq
  have oa : inR a := ok_hd (ok_tl hst)
  have ob : inR b := ok_hd hst
  refine lv_icmp_ne (x := Int32.ofInt a) (y := Int32.ofInt b) hx hb hdg ht (fun h => ?_) (fun h => ?_)
  · exact kt (fun z => h ((i32_eq oa ob).mpr z)) H locs ls hl (ok_tl (ok_tl hst)) hσ hP hS
  · exact kf ((i32_eq oa ob).mp h) H locs ls hl (ok_tl (ok_tl hst)) hσ hP hS
theorem jr_icmp_lt {M : MM} {d : Nat} {X : CT} (hF : Fix M d X) {pc : Nat} {lv : List (Option PV)} {st : List PV} {σ : Sg} {a b : Int} {off : Int} (hdg : decode M.2.1 pc = .ok (.if_icmp .lt off, 3)) {q : Nat} (hq : pc + 3 = q) (t : Nat) (ht : (pc : Int) + off = (t : Int)) (kt : a < b → Gs X t lv (st) σ) (kf : b ≤ a → Gs X q lv (st) σ) : Gs X pc lv (vI b :: vI a :: st) σ := by
  obtain ⟨p, l, e, R, s, m, args, below, meth, c, D, cs, ad, A, cells, slots, Q⟩ := X
  obtain ⟨hx, hb, hml, hown, hts, hret, hlk, hK, hN, hi, hA, hd1, hd2, hd3, hd4⟩ := hF
  intro H locs ls hl hst hσ hP hS
  subst hq
  have oa : inR a := ok_hd (ok_tl hst)
  have ob : inR b := ok_hd hst
  refine lv_icmp_lt (x := Int32.ofInt a) (y := Int32.ofInt b) hx hb hdg ht (fun h => ?_) (fun h => ?_)
  · exact kt ((i32_lt oa ob).mp h) H locs ls hl (ok_tl (ok_tl hst)) hσ hP hS
  · exact kf (Int.not_lt.mp fun z => h ((i32_lt oa ob).mpr z)) H locs ls hl (ok_tl (ok_tl hst)) hσ hP hS
theorem jr_icmp_ge {M : MM} {d : Nat} {X : CT} (hF : Fix M d X) {pc : Nat} {lv : List (Option PV)} {st : List PV} {σ : Sg} {a b : Int} {off : Int} (hdg : decode M.2.1 pc = .ok (.if_icmp .ge off, 3)) {q : Nat} (hq : pc + 3 = q) (t : Nat) (ht : (pc : Int) + off = (t : Int)) (kt : b ≤ a → Gs X t lv (st) σ) (kf : a < b → Gs X q lv (st) σ) : Gs X pc lv (vI b :: vI a :: st) σ := by
  obtain ⟨p, l, e, R, s, m, args, below, meth, c, D, cs, ad, A, cells, slots, Q⟩ := X
  obtain ⟨hx, hb, hml, hown, hts, hret, hlk, hK, hN, hi, hA, hd1, hd2, hd3, hd4⟩ := hF
  intro H locs ls hl hst hσ hP hS
  subst hq
  have oa : inR a := ok_hd (ok_tl hst)
  have ob : inR b := ok_hd hst
  refine lv_icmp_ge (x := Int32.ofInt a) (y := Int32.ofInt b) hx hb hdg ht (fun h => ?_) (fun h => ?_)
  · exact kt ((i32_le ob oa).mp h) H locs ls hl (ok_tl (ok_tl hst)) hσ hP hS
  · exact kf (Int.not_le.mp fun z => h ((i32_le ob oa).mpr z)) H locs ls hl (ok_tl (ok_tl hst)) hσ hP hS
theorem jr_icmp_gt {M : MM} {d : Nat} {X : CT} (hF : Fix M d X) {pc : Nat} {lv : List (Option PV)} {st : List PV} {σ : Sg} {a b : Int} {off : Int} (hdg : decode M.2.1 pc = .ok (.if_icmp .gt off, 3)) {q : Nat} (hq : pc + 3 = q) (t : Nat) (ht : (pc : Int) + off = (t : Int)) (kt : b < a → Gs X t lv (st) σ) (kf : a ≤ b → Gs X q lv (st) σ) : Gs X pc lv (vI b :: vI a :: st) σ := by
  obtain ⟨p, l, e, R, s, m, args, below, meth, c, D, cs, ad, A, cells, slots, Q⟩ := X
  obtain ⟨hx, hb, hml, hown, hts, hret, hlk, hK, hN, hi, hA, hd1, hd2, hd3, hd4⟩ := hF
  intro H locs ls hl hst hσ hP hS
  subst hq
  have oa : inR a := ok_hd (ok_tl hst)
  have ob : inR b := ok_hd hst
  refine lv_icmp_gt (x := Int32.ofInt a) (y := Int32.ofInt b) hx hb hdg ht (fun h => ?_) (fun h => ?_)
  · exact kt ((i32_lt ob oa).mp h) H locs ls hl (ok_tl (ok_tl hst)) hσ hP hS
  · exact kf (Int.not_lt.mp fun z => h ((i32_lt ob oa).mpr z)) H locs ls hl (ok_tl (ok_tl hst)) hσ hP hS
theorem jr_icmp_le {M : MM} {d : Nat} {X : CT} (hF : Fix M d X) {pc : Nat} {lv : List (Option PV)} {st : List PV} {σ : Sg} {a b : Int} {off : Int} (hdg : decode M.2.1 pc = .ok (.if_icmp .le off, 3)) {q : Nat} (hq : pc + 3 = q) (t : Nat) (ht : (pc : Int) + off = (t : Int)) (kt : a ≤ b → Gs X t lv (st) σ) (kf : b < a → Gs X q lv (st) σ) : Gs X pc lv (vI b :: vI a :: st) σ := by
  obtain ⟨p, l, e, R, s, m, args, below, meth, c, D, cs, ad, A, cells, slots, Q⟩ := X
  obtain ⟨hx, hb, hml, hown, hts, hret, hlk, hK, hN, hi, hA, hd1, hd2, hd3, hd4⟩ := hF
  intro H locs ls hl hst hσ hP hS
  subst hq
  have oa : inR a := ok_hd (ok_tl hst)
  have ob : inR b := ok_hd hst
  refine lv_icmp_le (x := Int32.ofInt a) (y := Int32.ofInt b) hx hb hdg ht (fun h => ?_) (fun h => ?_)
  · exact kt ((i32_le oa ob).mp h) H locs ls hl (ok_tl (ok_tl hst)) hσ hP hS
  · exact kf (Int.not_le.mp fun z => h ((i32_le oa ob).mpr z)) H locs ls hl (ok_tl (ok_tl hst)) hσ hP hS
theorem jr_if_eq {M : MM} {d : Nat} {X : CT} (hF : Fix M d X) {pc : Nat} {lv : List (Option PV)} {st : List PV} {σ : Sg} {a : Int} {off : Int} (hdg : decode M.2.1 pc = .ok (.ifCond .eq off, 3)) {q : Nat} (hq : pc + 3 = q) (t : Nat) (ht : (pc : Int) + off = (t : Int)) (kt : a = 0 → Gs X t lv (st) σ) (kf : a ≠ 0 → Gs X q lv (st) σ) : Gs X pc lv (vI a :: st) σ := by
  obtain ⟨p, l, e, R, s, m, args, below, meth, c, D, cs, ad, A, cells, slots, Q⟩ := X
  obtain ⟨hx, hb, hml, hown, hts, hret, hlk, hK, hN, hi, hA, hd1, hd2, hd3, hd4⟩ := hF
  intro H locs ls hl hst hσ hP hS
  subst hq
  have oa : inR a := ok_hd hst
  have oz : inR 0 := ⟨by decide, by decide⟩
  refine lv_if_eq (x := Int32.ofInt a) hx hb hdg ht (fun h => ?_) (fun h => ?_)
  · exact kt ((i32_eq oa oz).mp (h.trans i32_0)) H locs ls hl (ok_tl hst) hσ hP hS
  · exact kf (fun z => h (((i32_eq oa oz).mpr z).trans i32_0.symm)) H locs ls hl (ok_tl hst) hσ hP hS
theorem jr_if_ne {M : MM} {d : Nat} {X : CT} (hF : Fix M d X) {pc : Nat} {lv : List (Option PV)} {st : List PV} {σ : Sg} {a : Int} {off : Int} (hdg : decode M.2.1 pc = .ok (.ifCond .ne off, 3)) {q : Nat} (hq : pc + 3 = q) (t : Nat) (ht : (pc : Int) + off = (t : Int)) (kt : a ≠ 0 → Gs X t lv (st) σ) (kf : a = 0 → Gs X q lv (st) σ) : Gs X pc lv (vI a :: st) σ := by
  obtain ⟨p, l, e, R, s, m, args, below, meth, c, D, cs, ad, A, cells, slots, Q⟩ := X
  obtain ⟨hx, hb, hml, hown, hts, hret, hlk, hK, hN, hi, hA, hd1, hd2, hd3, hd4⟩ := hF
  intro H locs ls hl hst hσ hP hS
  subst hq
  have oa : inR a := ok_hd hst
  have oz : inR 0 := ⟨by decide, by decide⟩
  refine lv_if_ne (x := Int32.ofInt a) hx hb hdg ht (fun h => ?_) (fun h => ?_)
  · exact kt (fun z => h (((i32_eq oa oz).mpr z).trans i32_0.symm)) H locs ls hl (ok_tl hst) hσ hP hS
  · exact kf ((i32_eq oa oz).mp (h.trans i32_0)) H locs ls hl (ok_tl hst) hσ hP hS
theorem jr_if_lt {M : MM} {d : Nat} {X : CT} (hF : Fix M d X) {pc : Nat} {lv : List (Option PV)} {st : List PV} {σ : Sg} {a : Int} {off : Int} (hdg : decode M.2.1 pc = .ok (.ifCond .lt off, 3)) {q : Nat} (hq : pc + 3 = q) (t : Nat) (ht : (pc : Int) + off = (t : Int)) (kt : a < 0 → Gs X t lv (st) σ) (kf : 0 ≤ a → Gs X q lv (st) σ) : Gs X pc lv (vI a :: st) σ := by
  obtain ⟨p, l, e, R, s, m, args, below, meth, c, D, cs, ad, A, cells, slots, Q⟩ := X
  obtain ⟨hx, hb, hml, hown, hts, hret, hlk, hK, hN, hi, hA, hd1, hd2, hd3, hd4⟩ := hF
  intro H locs ls hl hst hσ hP hS
  subst hq
  have oa : inR a := ok_hd hst
  have oz : inR 0 := ⟨by decide, by decide⟩
  refine lv_if_lt (x := Int32.ofInt a) hx hb hdg ht (fun h => ?_) (fun h => ?_)
  · exact kt ((i32_lt oa oz).mp (i32_0 ▸ h)) H locs ls hl (ok_tl hst) hσ hP hS
  · exact kf (Int.not_lt.mp fun z => h (i32_0 ▸ (i32_lt oa oz).mpr z)) H locs ls hl (ok_tl hst) hσ hP hS
theorem jr_if_ge {M : MM} {d : Nat} {X : CT} (hF : Fix M d X) {pc : Nat} {lv : List (Option PV)} {st : List PV} {σ : Sg} {a : Int} {off : Int} (hdg : decode M.2.1 pc = .ok (.ifCond .ge off, 3)) {q : Nat} (hq : pc + 3 = q) (t : Nat) (ht : (pc : Int) + off = (t : Int)) (kt : 0 ≤ a → Gs X t lv (st) σ) (kf : a < 0 → Gs X q lv (st) σ) : Gs X pc lv (vI a :: st) σ := by
  obtain ⟨p, l, e, R, s, m, args, below, meth, c, D, cs, ad, A, cells, slots, Q⟩ := X
  obtain ⟨hx, hb, hml, hown, hts, hret, hlk, hK, hN, hi, hA, hd1, hd2, hd3, hd4⟩ := hF
  intro H locs ls hl hst hσ hP hS
  subst hq
  have oa : inR a := ok_hd hst
  have oz : inR 0 := ⟨by decide, by decide⟩
  refine lv_if_ge (x := Int32.ofInt a) hx hb hdg ht (fun h => ?_) (fun h => ?_)
  · exact kt ((i32_le oz oa).mp (i32_0 ▸ h)) H locs ls hl (ok_tl hst) hσ hP hS
  · exact kf (Int.not_le.mp fun z => h (i32_0 ▸ (i32_le oz oa).mpr z)) H locs ls hl (ok_tl hst) hσ hP hS
theorem jr_if_gt {M : MM} {d : Nat} {X : CT} (hF : Fix M d X) {pc : Nat} {lv : List (Option PV)} {st : List PV} {σ : Sg} {a : Int} {off : Int} (hdg : decode M.2.1 pc = .ok (.ifCond .gt off, 3)) {q : Nat} (hq : pc + 3 = q) (t : Nat) (ht : (pc : Int) + off = (t : Int)) (kt : 0 < a → Gs X t lv (st) σ) (kf : a ≤ 0 → Gs X q lv (st) σ) : Gs X pc lv (vI a :: st) σ := by
  obtain ⟨p, l, e, R, s, m, args, below, meth, c, D, cs, ad, A, cells, slots, Q⟩ := X
  obtain ⟨hx, hb, hml, hown, hts, hret, hlk, hK, hN, hi, hA, hd1, hd2, hd3, hd4⟩ := hF
  intro H locs ls hl hst hσ hP hS
  subst hq
  have oa : inR a := ok_hd hst
  have oz : inR 0 := ⟨by decide, by decide⟩
  refine lv_if_gt (x := Int32.ofInt a) hx hb hdg ht (fun h => ?_) (fun h => ?_)
  · exact kt ((i32_lt oz oa).mp (i32_0 ▸ h)) H locs ls hl (ok_tl hst) hσ hP hS
  · exact kf (Int.not_lt.mp fun z => h (i32_0 ▸ (i32_lt oz oa).mpr z)) H locs ls hl (ok_tl hst) hσ hP hS
theorem jr_if_le {M : MM} {d : Nat} {X : CT} (hF : Fix M d X) {pc : Nat} {lv : List (Option PV)} {st : List PV} {σ : Sg} {a : Int} {off : Int} (hdg : decode M.2.1 pc = .ok (.ifCond .le off, 3)) {q : Nat} (hq : pc + 3 = q) (t : Nat) (ht : (pc : Int) + off = (t : Int)) (kt : a ≤ 0 → Gs X t lv (st) σ) (kf : 0 < a → Gs X q lv (st) σ) : Gs X pc lv (vI a :: st) σ := by
  obtain ⟨p, l, e, R, s, m, args, below, meth, c, D, cs, ad, A, cells, slots, Q⟩ := X
  obtain ⟨hx, hb, hml, hown, hts, hret, hlk, hK, hN, hi, hA, hd1, hd2, hd3, hd4⟩ := hF
  intro H locs ls hl hst hσ hP hS
  subst hq
  have oa : inR a := ok_hd hst
  have oz : inR 0 := ⟨by decide, by decide⟩
  refine lv_if_le (x := Int32.ofInt a) hx hb hdg ht (fun h => ?_) (fun h => ?_)
  · exact kt ((i32_le oa oz).mp (i32_0 ▸ h)) H locs ls hl (ok_tl hst) hσ hP hS
  · exact kf (Int.not_le.mp fun z => h (i32_0 ▸ (i32_le oa oz).mpr z)) H locs ls hl (ok_tl hst) hσ hP hS
theorem jr_goto {M : MM} {d : Nat} {X : CT} (hF : Fix M d X) {pc : Nat} {lv : List (Option PV)} {st : List PV} {σ : Sg} {off : Int} (hdg : decode M.2.1 pc = .ok (.goto off, 3)) (t : Nat) (ht : (pc : Int) + off = (t : Int)) (k : Gs X t lv st σ) : Gs X pc lv st σ := by
  obtain ⟨p, l, e, R, s, m, args, below, meth, c, D, cs, ad, A, cells, slots, Q⟩ := X
  obtain ⟨hx, hb, hml, hown, hts, hret, hlk, hK, hN, hi, hA, hd1, hd2, hd3, hd4⟩ := hF
  intro H locs ls hl hst hσ hP hS
  exact lv_goto hx hb hdg ht (k H locs ls hl hst hσ hP hS)
theorem jr_tin {M : MM} {d : Nat} {X : CT} (hF : Fix M d X) {pc : Nat} {lv : List (Option PV)} {st : List PV} {σ : Sg} {a dflt lo hi off : Int} {offs : Array Int} {len : Nat} (hdg : decode M.2.1 pc = .ok (.tableswitch dflt lo hi offs, len)) (t : Nat) (h1 : lo ≤ a) (h2 : a ≤ hi) (ho : offs[(a - lo).toNat]? = some off) (ht : (pc : Int) + off = (t : Int)) (k : Gs X t lv st σ) : Gs X pc lv (vI a :: st) σ := by
  obtain ⟨p, l, e, R, s, m, args, below, meth, c, D, cs, ad, A, cells, slots, Q⟩ := X
  obtain ⟨hx, hb, hml, hown, hts, hret, hlk, hK, hN, hi, hA, hd1, hd2, hd3, hd4⟩ := hF
  intro H locs ls hl hst hσ hP hS
  have oa : inR a := ok_hd hst
  refine lv_tableIn (x := Int32.ofInt a) hx hb hdg (by rw [i32_in oa]; omega) (by rw [i32_in oa]; omega) (by rw [i32_in oa]; exact ho) ht ?_
  exact k H locs ls hl (ok_tl hst) hσ hP hS
theorem jr_tout {M : MM} {d : Nat} {X : CT} (hF : Fix M d X) {pc : Nat} {lv : List (Option PV)} {st : List PV} {σ : Sg} {a dflt lo hi : Int} {offs : Array Int} {len : Nat} (hdg : decode M.2.1 pc = .ok (.tableswitch dflt lo hi offs, len)) (t : Nat) (h : a < lo ∨ hi < a) (ht : (pc : Int) + dflt = (t : Int)) (k : Gs X t lv st σ) : Gs X pc lv (vI a :: st) σ := by
  obtain ⟨p, l, e, R, s, m, args, below, meth, c, D, cs, ad, A, cells, slots, Q⟩ := X
  obtain ⟨hx, hb, hml, hown, hts, hret, hlk, hK, hN, hi, hA, hd1, hd2, hd3, hd4⟩ := hF
  intro H locs ls hl hst hσ hP hS
  have oa : inR a := ok_hd hst
  refine lv_tableOut (x := Int32.ofInt a) hx hb hdg (by rw [i32_in oa]; exact h) ht ?_
  exact k H locs ls hl (ok_tl hst) hσ hP hS
theorem jr_lsw {M : MM} {d : Nat} {X : CT} (hF : Fix M d X) {pc : Nat} {lv : List (Option PV)} {st : List PV} {σ : Sg} {a dflt off : Int} {ps : Array (Int × Int)} {len : Nat} (hdg : decode M.2.1 pc = .ok (.lookupswitch dflt ps, len)) (hp : (ps.toList.zip (ps.toList.drop 1)).all (fun (a, next) => a.1 < next.1) = true) (t : Nat) (ho : Op.lookupswitch.offset ps.toList dflt a = off) (ht : (pc : Int) + off = (t : Int)) (k : Gs X t lv st σ) : Gs X pc lv (vI a :: st) σ := by
  obtain ⟨p, l, e, R, s, m, args, below, meth, c, D, cs, ad, A, cells, slots, Q⟩ := X
  obtain ⟨hx, hb, hml, hown, hts, hret, hlk, hK, hN, hi, hA, hd1, hd2, hd3, hd4⟩ := hF
  intro H locs ls hl hst hσ hP hS
  have oa : inR a := ok_hd hst
  refine lv_lookup (x := Int32.ofInt a) hx hb hdg hp (by rw [i32_in oa]; exact ho) ht ?_
  exact k H locs ls hl (ok_tl hst) hσ hP hS
def lvp (ad : Nat → Nat) (lv : List (Option PV)) : List (Nat × Value) := (List.range lv.length).filterMap (fun i => match lv[i]? with
  | some (some v) => some (i, tV ad v)
  | _ => none)
theorem lvp_mem {ad : Nat → Nat} {lv : List (Option PV)} {i : Nat} {v : PV} (h : lv[i]? = some (some v)) : (i, tV ad v) ∈ lvp ad lv := by
  refine List.mem_filterMap.mpr ⟨i, List.mem_range.mpr (List.getElem?_eq_some_iff.mp h).1, ?_⟩
  rw [h]
theorem lvp_has {ad : Nat → Nat} {lv : List (Option PV)} {n : Nat} {ls : Array Slot} (h : lvok ad lv n ls) : lv_has ls n (lvp ad lv) := by
  refine ⟨h.1, h.2.1, fun q hq => ?_⟩
  obtain ⟨i, -, hi⟩ := List.mem_filterMap.mp hq
  split at hi
  · rename_i v hv
    cases hi
    exact (h.2.2 _ _ hv).1
  · cases hi
def prevL (lv : List (Option PV)) (i : Nat) : Bool := match i with
  | 0 => false
  | j + 1 => match lv[j]? with
    | some (some (.inr (.inl _))) => true
    | _ => false
theorem lvok_set1 {ad : Nat → Nat} {lv : List (Option PV)} {n i : Nat} {ls ls' : Array Slot} {v : PV} (h : lvok ad lv n ls) (hp : prevL lv i = false) (hv : okP v)
    (h' : lv_has ls' n ((i, tV ad v) :: (lvp ad lv).filter (fun q => !(q.1 == i) && !(q.1 + 1 == i && q.2.category == 2)))) : lvok ad (lv.set i (some v)) n ls' := by
  refine ⟨h'.1, h'.2.1, fun j w hj => ?_⟩
  by_cases e : j = i
  · subst e
    by_cases hl : j < lv.length
    · rw [List.getElem?_set_self hl] at hj
      cases hj
      exact ⟨h'.2.2 _ List.mem_cons_self, hv⟩
    · rw [List.getElem?_eq_none (by rw [List.length_set]; omega)] at hj
      cases hj
  · rw [List.getElem?_set_ne (Ne.symm e)] at hj
    refine ⟨h'.2.2 (j, tV ad w) (List.mem_cons_of_mem _ (List.mem_filter.mpr ⟨lvp_mem hj, ?_⟩)), (h.2.2 _ _ hj).2⟩
    have e1 : (j == i) = false := by simp [e]
    simp only [e1, Bool.not_false, Bool.true_and, Bool.not_eq_true', Bool.and_eq_false_iff]
    by_cases e2 : j + 1 = i
    · right
      subst e2
      rw [pcat_eq]
      rcases w with z | z | z
      · rfl
      · exact absurd hp (by show ¬ (match lv[j]? with | some (some (.inr (.inl _))) => true | _ => false) = false; rw [hj]; exact fun h => by cases h)
      · rfl
    · left
      simp [e2]
theorem lvok_set2 {ad : Nat → Nat} {lv : List (Option PV)} {n i : Nat} {ls ls' : Array Slot} {v : PV} (h : lvok ad lv n ls) (hp : prevL lv i = false) (hv : okP v)
    (h' : lv_has ls' n ((i, tV ad v) :: (lvp ad lv).filter (fun q => !(q.1 == i) && (!(q.1 == i + 1) && !(q.1 + 1 == i && q.2.category == 2))))) : lvok ad ((lv.set i (some v)).set (i + 1) none) n ls' := by
  refine ⟨h'.1, h'.2.1, fun j w hj => ?_⟩
  by_cases e0 : j = i + 1
  · subst e0
    by_cases hl : i + 1 < (lv.set i (some v)).length
    · rw [List.getElem?_set_self hl] at hj
      cases hj
    · rw [List.getElem?_eq_none (by rw [List.length_set]; omega)] at hj
      cases hj
  · rw [List.getElem?_set_ne (Ne.symm e0)] at hj
    by_cases e : j = i
    · subst e
      by_cases hl : j < lv.length
      · rw [List.getElem?_set_self hl] at hj
        cases hj
        exact ⟨h'.2.2 _ List.mem_cons_self, hv⟩
      · rw [List.getElem?_eq_none (by rw [List.length_set]; omega)] at hj
        cases hj
    · rw [List.getElem?_set_ne (Ne.symm e)] at hj
      refine ⟨h'.2.2 (j, tV ad w) (List.mem_cons_of_mem _ (List.mem_filter.mpr ⟨lvp_mem hj, ?_⟩)), (h.2.2 _ _ hj).2⟩
      have e1 : (j == i) = false := by simp [e]
      have e3 : (j == i + 1) = false := by simp [e0]
      simp only [e1, e3, Bool.not_false, Bool.true_and, Bool.not_eq_true', Bool.and_eq_false_iff]
      by_cases e2 : j + 1 = i
      · right
        subst e2
        rw [pcat_eq]
        rcases w with z | z | z
        · rfl
        · exact absurd hp (by show ¬ (match lv[j]? with | some (some (.inr (.inl _))) => true | _ => false) = false; rw [hj]; exact fun h => by cases h)
        · rfl
      · left
        simp [e2]
theorem jr_istore_n {M : MM} {d : Nat} {X : CT} (hF : Fix M d X) {pc : Nat} {lv : List (Option PV)} {st : List PV} {σ : Sg} {n : Fin 4} {z : Int} (hdg : decode M.2.1 pc = .ok (.istore_n n, 1)) {q : Nat} (hq : pc + 1 = q) (hn : (n : Nat) < M.2.2.1) (hp : prevL lv (n : Nat) = false) (k : Gs X q (lv.set (n : Nat) (some (vI z))) st σ) : Gs X pc lv (vI z :: st) σ := by
  obtain ⟨p, l, e, R, s, m, args, below, meth, c, D, cs, ad, A, cells, slots, Q⟩ := X
  obtain ⟨hx, hb, hml, hown, hts, hret, hlk, hK, hN, hi, hA, hd1, hd2, hd3, hd4⟩ := hF
  intro H locs ls hl hst hσ hP hS
  subst hq
  refine lv_istore_n (x := Int32.ofInt z) (nL := c.maxLocals) hx hb hdg rfl (lvp_has hl) (by rw [hml]; exact hn) rfl (fun ls' hl' => ?_)
  exact k H locs ls' (lvok_set1 hl hp (ok_hd hst) hl') (ok_tl hst) hσ hP hS
theorem jr_istore {M : MM} {d : Nat} {X : CT} (hF : Fix M d X) {pc : Nat} {lv : List (Option PV)} {st : List PV} {σ : Sg} {n : Nat} {z : Int} (hdg : decode M.2.1 pc = .ok (.istore n, 2)) {q : Nat} (hq : pc + 2 = q) (hn : n < M.2.2.1) (hp : prevL lv n = false) (k : Gs X q (lv.set n (some (vI z))) st σ) : Gs X pc lv (vI z :: st) σ := by
  obtain ⟨p, l, e, R, s, m, args, below, meth, c, D, cs, ad, A, cells, slots, Q⟩ := X
  obtain ⟨hx, hb, hml, hown, hts, hret, hlk, hK, hN, hi, hA, hd1, hd2, hd3, hd4⟩ := hF
  intro H locs ls hl hst hσ hP hS
  subst hq
  refine lv_istore (x := Int32.ofInt z) (nL := c.maxLocals) hx hb hdg (lvp_has hl) (by rw [hml]; exact hn) rfl (fun ls' hl' => ?_)
  exact k H locs ls' (lvok_set1 hl hp (ok_hd hst) hl') (ok_tl hst) hσ hP hS
theorem jr_astore_n {M : MM} {d : Nat} {X : CT} (hF : Fix M d X) {pc : Nat} {lv : List (Option PV)} {st : List PV} {σ : Sg} {n : Fin 4} {z : Nat} (hdg : decode M.2.1 pc = .ok (.astore_n n, 1)) {q : Nat} (hq : pc + 1 = q) (hn : (n : Nat) < M.2.2.1) (hp : prevL lv (n : Nat) = false) (k : Gs X q (lv.set (n : Nat) (some (vR z))) st σ) : Gs X pc lv (vR z :: st) σ := by
  obtain ⟨p, l, e, R, s, m, args, below, meth, c, D, cs, ad, A, cells, slots, Q⟩ := X
  obtain ⟨hx, hb, hml, hown, hts, hret, hlk, hK, hN, hi, hA, hd1, hd2, hd3, hd4⟩ := hF
  intro H locs ls hl hst hσ hP hS
  subst hq
  refine lv_astore_n (x := ad z) (nL := c.maxLocals) hx hb hdg rfl (lvp_has hl) (by rw [hml]; exact hn) rfl (fun ls' hl' => ?_)
  exact k H locs ls' (lvok_set1 hl hp (ok_hd hst) hl') (ok_tl hst) hσ hP hS
theorem jr_lstore {M : MM} {d : Nat} {X : CT} (hF : Fix M d X) {pc : Nat} {lv : List (Option PV)} {st : List PV} {σ : Sg} {n : Nat} {z : Int} (hdg : decode M.2.1 pc = .ok (.lstore n, 2)) {q : Nat} (hq : pc + 2 = q) (hn : n + 1 < M.2.2.1) (hp : prevL lv n = false) (k : Gs X q ((lv.set n (some (vL z))).set (n + 1) none) st σ) : Gs X pc lv (vL z :: st) σ := by
  obtain ⟨p, l, e, R, s, m, args, below, meth, c, D, cs, ad, A, cells, slots, Q⟩ := X
  obtain ⟨hx, hb, hml, hown, hts, hret, hlk, hK, hN, hi, hA, hd1, hd2, hd3, hd4⟩ := hF
  intro H locs ls hl hst hσ hP hS
  subst hq
  refine lv_lstore (x := Int64.ofInt z) (nL := c.maxLocals) hx hb hdg (lvp_has hl) (by rw [hml]; exact hn) rfl (fun ls' hl' => ?_)
  exact k H locs ls' (lvok_set2 hl hp (ok_hd hst) hl') (ok_tl hst) hσ hP hS
theorem jr_iinc {M : MM} {d : Nat} {X : CT} (hF : Fix M d X) {pc : Nat} {lv : List (Option PV)} {st : List PV} {σ : Sg} {n : Nat} {z w : Int} (hdg : decode M.2.1 pc = .ok (.iinc n w, 3)) {q : Nat} (hq : pc + 3 = q) (hn : n < M.2.2.1) (hp : prevL lv n = false) (h : lv[n]? = some (some (vI z))) (hr : inR (z + w)) (k : Gs X q (lv.set n (some (vI (z + w)))) st σ) : Gs X pc lv st σ := by
  obtain ⟨p, l, e, R, s, m, args, below, meth, c, D, cs, ad, A, cells, slots, Q⟩ := X
  obtain ⟨hx, hb, hml, hown, hts, hret, hlk, hK, hN, hi, hA, hd1, hd2, hd3, hd4⟩ := hF
  intro H locs ls hl hst hσ hP hS
  subst hq
  obtain ⟨i9, hi9⟩ := List.getElem?_of_mem (lvp_mem (ad := ad) h)
  refine lv_iinc (x := Int32.ofInt z) (v := Int32.ofInt (z + w)) (nL := c.maxLocals) hx hb hdg (lvp_has hl) (k := i9) hi9 (by rw [Int32.ofInt_add]) (by rw [hml]; exact hn) rfl (fun ls' hl' => ?_)
  exact k H locs ls' (lvok_set1 (v := vI (z + w)) hl hp hr hl') hst hσ hP hS
