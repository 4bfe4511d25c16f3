/-! ===== the pure layer once more, over the first 73 cells ===== -/
def Lay_h : List LC := [
  (0, 9, 0, [some 1, some 4, some 14, some 24, some 29, some 54, some 59, some 63, some 66, some 69]),
  (0, 8, 0, [none, some 2, some 3]), (2, 300, 0, []), (1, 3, 0, []),
  (0, 4, 0, [none, none, some 5, some 6, some 7, some 13]), (1, 3, 0, []), (1, 5, 0, []), (3, 5, 8, []), (1, 3, 0, []), (1, 3, 0, []), (1, 3, 0, []), (1, 3, 0, []), (1, 3, 0, []), (1, 7, 0, []),
  (0, 4, 0, [none, none, some 15, some 16, some 17, some 23]), (1, 3, 0, []), (1, 5, 0, []), (3, 5, 18, []), (1, 3, 0, []), (1, 3, 0, []), (1, 3, 0, []), (1, 3, 0, []), (1, 3, 0, []), (1, 7, 0, []),
  (0, 2, 0, [some 25, some 26, some 27, some 28]), (1, 5, 0, []), (1, 5, 0, []), (1, 5, 0, []), (1, 3, 0, []),
  (0, 1, 0, [none, none, none, some 30, some 42]),
  (3, 11, 31, []), (1, 11, 0, []), (1, 11, 0, []), (1, 11, 0, []), (1, 11, 0, []), (1, 11, 0, []), (1, 11, 0, []), (1, 11, 0, []), (1, 11, 0, []), (1, 11, 0, []), (1, 11, 0, []), (1, 11, 0, []),
  (3, 11, 43, []), (1, 11, 0, []), (1, 11, 0, []), (1, 11, 0, []), (1, 11, 0, []), (1, 11, 0, []), (1, 11, 0, []), (1, 11, 0, []), (1, 11, 0, []), (1, 11, 0, []), (1, 11, 0, []), (1, 11, 0, []),
  (0, 3, 0, [none, some 55, some 56, some 57, some 58]), (1, 5, 0, []), (1, 5, 0, []), (1, 3, 0, []), (1, 6, 0, []),
  (0, 5, 0, [none, none, some 60, some 61, some 62]), (1, 3, 0, []), (1, 3, 0, []), (1, 3, 0, []),
  (0, 7, 0, [none, some 64, some 65]), (1, 6, 0, []), (1, 6, 0, []),
  (0, 0, 0, [none, some 67, some 68]), (1, 8, 0, []), (1, 8, 0, []),
  (0, 6, 0, [none, some 70]), (3, 2, 71, []), (1, 7, 0, []), (1, 7, 0, [])]
theorem Lay_len_h : Lay_h.length = 73 := by decide +kernel
def mkW_h (ad : Nat → Nat) (cs : C3) (σ : Sg) : va_W := Lay_h.mapIdx (fun k c => (ad k, cE ad cs σ k c))
theorem mkW_at_h {ad : Nat → Nat} {cs : C3} {σ : Sg} {k : Nat} {c : LC} (h : Lay_h[k]? = some c) : (mkW_h ad cs σ)[k]? = some (ad k, cE ad cs σ k c) := by
  unfold mkW_h
  rw [List.getElem?_mapIdx, h]
  rfl
theorem mkW_inv_h {ad : Nat → Nat} {cs : C3} {σ : Sg} {k : Nat} {q : Nat × va_E} (h : (mkW_h ad cs σ)[k]? = some q) : ∃ c, Lay_h[k]? = some c ∧ q = (ad k, cE ad cs σ k c) := by
  unfold mkW_h at h
  rw [List.getElem?_mapIdx] at h
  cases hc : Lay_h[k]? with
  | none => rw [hc] at h; cases h
  | some c => rw [hc] at h; exact ⟨c, rfl, (Option.some.inj h).symm⟩
def adI_h (ad : Nat → Nat) : Prop := ∀ i j : Nat, i < 73 → j < 73 → ad i = ad j → i = j
theorem Lay_lt_h {k : Nat} {c : LC} (h : Lay_h[k]? = some c) : k < 73 := by
  have := (List.getElem?_eq_some_iff.mp h).1
  rw [Lay_len_h] at this
  exact this
theorem mkW_D_h {ad : Nat → Nat} {cs : C3} {σ : Sg} {A : Nat → Prop} (hi : adI_h ad) (hA : ∀ k, k < 73 → A (ad k)) : va_D A (mkW_h ad cs σ) := by
  refine ⟨fun i j p q hp hq e => ?_, fun k q hq => ?_⟩
  · obtain ⟨c, h1, rfl⟩ := mkW_inv_h hp
    obtain ⟨c', h2, rfl⟩ := mkW_inv_h hq
    exact hi i j (Lay_lt_h h1) (Lay_lt_h h2) e
  · obtain ⟨c, h1, rfl⟩ := mkW_inv_h hq
    exact hA k (Lay_lt_h h1)
theorem mkW_uc_h {ad : Nat → Nat} {cs : C3} {σ : Sg} {a : Nat} {c : LC} {f : Int → Int} {e : va_E} (h : Lay_h[a]? = some c) (he : cE ad cs (uc σ a f) a c = e) : (mkW_h ad cs σ).set a (ad a, e) = mkW_h ad cs (uc σ a f) := by
  apply List.ext_getElem?
  intro k
  have hl : a < (mkW_h ad cs σ).length := (List.getElem?_eq_some_iff.mp (mkW_at_h h)).1
  by_cases hk : k = a
  · subst hk
    rw [List.getElem?_set_self hl, mkW_at_h h, he]
  · rw [List.getElem?_set_ne (Ne.symm hk)]
    cases hc : Lay_h[k]? with
    | none =>
      unfold mkW_h
      rw [List.getElem?_mapIdx, List.getElem?_mapIdx, hc]
      rfl
    | some c' =>
      rw [mkW_at_h hc, mkW_at_h hc]
      have e1 : cE ad cs (uc σ a f) k c' = cE ad cs σ k c' := by
        obtain ⟨t, n, b, fs⟩ := c'
        unfold cE fE
        rw [uc_ne hk]
      rw [e1]
def Gs_h (X : CT) (pc : Nat) (lv : List (Option PV)) (st : List PV) (σ : Sg) : Prop := match X with
  | (p, l, e, R, s, m, args, below, meth, c, D, cs, ad, A, cells, slots, Q) =>
    ∀ (H : Heap) (locs : List Loc) (ls : Array Slot), lvok ad lv c.maxLocals ls → (∀ v ∈ st, okP v) → (∀ (k : Nat) (j : Int), inR (σ k j)) → va_P D vwCl (mkW_h ad cs σ) H → va_S A s.heap H locs →
      W p l e R s m args below meth c H locs cells slots Q (F0 m pc ls (st.map (tV ad)))
def Fix_h (M : MM) (d : Nat) (X : CT) : Prop := match X with
  | (p, l, e, R, s, m, args, below, meth, c, D, cs, ad, A, cells, slots, Q) =>
    p.tables.exec = Jvm.exec ∧ c.code = M.2.1 ∧ c.maxLocals = M.2.2.1 ∧ s.vm.findClass M.1.cls = some m.cls ∧ (∀ w ∈ wsT, w.before args s = true) ∧ meth.sig.returnType = M.2.2.2 ∧ meth.locks = false ∧ va_K D vwCl [(cs.1, .int), (cs.2.1, .byte), (cs.2.2, .array .int)] s ∧ va_Nw nestW s ∧ adI_h ad ∧ (∀ k, k < 73 → A (ad k)) ∧ d ≤ R.frames ∧ 64 * d ≤ R.locals ∧ cells ≤ R.cells ∧ slots ≤ R.slots
def AD_h (ad : Nat → Nat) : Nat → Prop := fun q => ∃ k, k < 73 ∧ q = ad k
def PreB_h (D : va_G) (cs : C3) (ad : Nat → Nat) (σ : Sg) (U : State) : Prop := (∀ (k : Nat) (j : Int), inR (σ k j)) ∧ va_P D vwCl (mkW_h ad cs σ) U.heap ∧ va_K D vwCl [(cs.1, .int), (cs.2.1, .byte), (cs.2.2, .array .int)] U ∧ va_Nw nestW U
def QcB_h (D : va_G) (cs : C3) (ad : Nat → Nat) (Q : Option PV → Sg → Prop) : Array Value → State → Outcome → State → Prop := fun _ st o t =>
  ∃ (r : Option PV) (σ : Sg), o = .returned (r.map (tV ad)) ∧ (∀ v, r = some v → okP v) ∧ (∀ (k : Nat) (j : Int), inR (σ k j)) ∧ va_P D vwCl (mkW_h ad cs σ) t.heap ∧ va_F (AD_h ad) st t ∧ Q r σ
def RunsM_h (M : MM) (d : Nat) (as : List PV) (σ : Sg) (Q : Option PV → Sg → Prop) : Prop :=
  ∀ (l : Launch) (D : va_G) (cs : C3) (ad : Nat → Nat), adI_h ad → (∀ v ∈ as, okP v) → Met l M.1 (.code M.1 M.2.1 M.2.2.1 M.2.2.2 :: wsT) (rmD d) (va_Pc (as.map (tV ad)) (PreB_h D cs ad σ)) (QcB_h D cs ad Q) 0 0 (AD_h ad)
def Ret_h (X : CT) (Q : Option PV → Sg → Prop) : Prop := match X with
  | (p, l, e, R, s, m, args, below, meth, c, D, cs, ad, A, cells, slots, Qs) => Qs = MQ below (QcB_h D cs ad Q) args s 0 0 (AD_h ad) ∧ cells = 0 ∧ slots = 0 ∧ A = AD_h ad
theorem jr_iconst_h {M : MM} {d : Nat} {X : CT} (hF : Fix_h M d X) {pc : Nat} {lv : List (Option PV)} {st : List PV} {σ : Sg} {n : Int} (hdg : decode M.2.1 pc = .ok (.iconst n, 1)) {q : Nat} (hq : pc + 1 = q) (hn : inR n) (k : Gs_h X q lv (vI n :: st) σ) : Gs_h X pc lv (st) σ := by
  obtain ⟨p, l, e, R, s, m, args, below, meth, c, D, cs, ad, A, cells, slots, Q⟩ := X
  obtain ⟨hx, hb, hml, hown, hts, hret, hlk, hK, hN, hi, hA, hd1, hd2, hd3, hd4⟩ := hF
  intro H locs ls hl hst hσ hP hS
  subst hq
  exact lv_iconst hx hb hdg rfl (k H locs ls hl (ok_cs hn hst) hσ hP hS)
theorem jr_bipush_h {M : MM} {d : Nat} {X : CT} (hF : Fix_h M d X) {pc : Nat} {lv : List (Option PV)} {st : List PV} {σ : Sg} {n : Int} (hdg : decode M.2.1 pc = .ok (.bipush n, 2)) {q : Nat} (hq : pc + 2 = q) (hn : inR n) (hv : (Int8.ofInt n).toInt32 = Int32.ofInt n) (k : Gs_h X q lv (vI n :: st) σ) : Gs_h X pc lv (st) σ := by
  obtain ⟨p, l, e, R, s, m, args, below, meth, c, D, cs, ad, A, cells, slots, Q⟩ := X
  obtain ⟨hx, hb, hml, hown, hts, hret, hlk, hK, hN, hi, hA, hd1, hd2, hd3, hd4⟩ := hF
  intro H locs ls hl hst hσ hP hS
  subst hq
  exact lv_bipush hx hb hdg hv (k H locs ls hl (ok_cs hn hst) hσ hP hS)
theorem jr_iload_n_h {M : MM} {d : Nat} {X : CT} (hF : Fix_h M d X) {pc : Nat} {lv : List (Option PV)} {st : List PV} {σ : Sg} {n : Fin 4} {z : Int} (hdg : decode M.2.1 pc = .ok (.iload_n n, 1)) {q : Nat} (hq : pc + 1 = q) (h : lv[(n : Nat)]? = some (some (vI z))) (k : Gs_h X q lv (vI z :: st) σ) : Gs_h X pc lv (st) σ := by
  obtain ⟨p, l, e, R, s, m, args, below, meth, c, D, cs, ad, A, cells, slots, Q⟩ := X
  obtain ⟨hx, hb, hml, hown, hts, hret, hlk, hK, hN, hi, hA, hd1, hd2, hd3, hd4⟩ := hF
  intro H locs ls hl hst hσ hP hS
  subst hq
  exact lv_iload_n hx hb hdg rfl (hl.2.2 _ _ h).1 (k H locs ls hl (ok_cs (hl.2.2 _ _ h).2 hst) hσ hP hS)
theorem jr_aload_n_h {M : MM} {d : Nat} {X : CT} (hF : Fix_h M d X) {pc : Nat} {lv : List (Option PV)} {st : List PV} {σ : Sg} {n : Fin 4} {z : Nat} (hdg : decode M.2.1 pc = .ok (.aload_n n, 1)) {q : Nat} (hq : pc + 1 = q) (h : lv[(n : Nat)]? = some (some (vR z))) (k : Gs_h X q lv (vR z :: st) σ) : Gs_h X pc lv (st) σ := by
  obtain ⟨p, l, e, R, s, m, args, below, meth, c, D, cs, ad, A, cells, slots, Q⟩ := X
  obtain ⟨hx, hb, hml, hown, hts, hret, hlk, hK, hN, hi, hA, hd1, hd2, hd3, hd4⟩ := hF
  intro H locs ls hl hst hσ hP hS
  subst hq
  exact lv_aload_n hx hb hdg rfl (hl.2.2 _ _ h).1 (k H locs ls hl (ok_cs (hl.2.2 _ _ h).2 hst) hσ hP hS)
theorem jr_iadd_h {M : MM} {d : Nat} {X : CT} (hF : Fix_h M d X) {pc : Nat} {lv : List (Option PV)} {st : List PV} {σ : Sg} {a b : Int} (hdg : decode M.2.1 pc = .ok (.iadd, 1)) {q : Nat} (hq : pc + 1 = q) (h : inR (a + b)) (k : Gs_h X q lv (vI (a + b) :: st) σ) : Gs_h X pc lv (vI b :: vI a :: st) σ := by
  obtain ⟨p, l, e, R, s, m, args, below, meth, c, D, cs, ad, A, cells, slots, Q⟩ := X
  obtain ⟨hx, hb, hml, hown, hts, hret, hlk, hK, hN, hi, hA, hd1, hd2, hd3, hd4⟩ := hF
  intro H locs ls hl hst hσ hP hS
  subst hq
  refine lv_iadd (x := Int32.ofInt a) (y := Int32.ofInt b) hx hb hdg ?_
  rw [← Int32.ofInt_add]
  exact k H locs ls hl (ok_cs h (ok_tl (ok_tl hst))) hσ hP hS
theorem jr_dup_h {M : MM} {d : Nat} {X : CT} (hF : Fix_h M d X) {pc : Nat} {lv : List (Option PV)} {st : List PV} {σ : Sg} {v : PV} (hdg : decode M.2.1 pc = .ok (.dup, 1)) {q : Nat} (hq : pc + 1 = q) (hv : pcat v = 1) (k : Gs_h X q lv (v :: v :: st) σ) : Gs_h X pc lv (v :: st) σ := by
  obtain ⟨p, l, e, R, s, m, args, below, meth, c, D, cs, ad, A, cells, slots, Q⟩ := X
  obtain ⟨hx, hb, hml, hown, hts, hret, hlk, hK, hN, hi, hA, hd1, hd2, hd3, hd4⟩ := hF
  intro H locs ls hl hst hσ hP hS
  subst hq
  exact lv_dup hx hb hdg ((pcat_eq ad v).trans hv) (k H locs ls hl (ok_cs (ok_hd hst) hst) hσ hP hS)
theorem jr_pop_h {M : MM} {d : Nat} {X : CT} (hF : Fix_h M d X) {pc : Nat} {lv : List (Option PV)} {st : List PV} {σ : Sg} {v : PV} (hdg : decode M.2.1 pc = .ok (.pop, 1)) {q : Nat} (hq : pc + 1 = q) (hv : pcat v = 1) (k : Gs_h X q lv (st) σ) : Gs_h X pc lv (v :: st) σ := by
  obtain ⟨p, l, e, R, s, m, args, below, meth, c, D, cs, ad, A, cells, slots, Q⟩ := X
  obtain ⟨hx, hb, hml, hown, hts, hret, hlk, hK, hN, hi, hA, hd1, hd2, hd3, hd4⟩ := hF
  intro H locs ls hl hst hσ hP hS
  subst hq
  exact lv_pop hx hb hdg ((pcat_eq ad v).trans hv) (k H locs ls hl (ok_tl hst) hσ hP hS)
theorem jr_icmp_lt_h {M : MM} {d : Nat} {X : CT} (hF : Fix_h M d X) {pc : Nat} {lv : List (Option PV)} {st : List PV} {σ : Sg} {a b : Int} {off : Int} (hdg : decode M.2.1 pc = .ok (.if_icmp .lt off, 3)) {q : Nat} (hq : pc + 3 = q) (t : Nat) (ht : (pc : Int) + off = (t : Int)) (kt : a < b → Gs_h X t lv (st) σ) (kf : b ≤ a → Gs_h X q lv (st) σ) : Gs_h X pc lv (vI b :: vI a :: st) σ := by
  obtain ⟨p, l, e, R, s, m, args, below, meth, c, D, cs, ad, A, cells, slots, Q⟩ := X
  obtain ⟨hx, hb, hml, hown, hts, hret, hlk, hK, hN, hi, hA, hd1, hd2, hd3, hd4⟩ := hF
  intro H locs ls hl hst hσ hP hS
  subst hq
  have oa : inR a := ok_hd (ok_tl hst)
  have ob : inR b := ok_hd hst
  refine lv_icmp_lt (x := Int32.ofInt a) (y := Int32.ofInt b) hx hb hdg ht (fun h => ?_) (fun h => ?_)
  · exact kt ((i32_lt oa ob).mp h) H locs ls hl (ok_tl (ok_tl hst)) hσ hP hS
  · exact kf (Int.not_lt.mp fun z => h ((i32_lt oa ob).mpr z)) H locs ls hl (ok_tl (ok_tl hst)) hσ hP hS
theorem jr_icmp_ge_h {M : MM} {d : Nat} {X : CT} (hF : Fix_h M d X) {pc : Nat} {lv : List (Option PV)} {st : List PV} {σ : Sg} {a b : Int} {off : Int} (hdg : decode M.2.1 pc = .ok (.if_icmp .ge off, 3)) {q : Nat} (hq : pc + 3 = q) (t : Nat) (ht : (pc : Int) + off = (t : Int)) (kt : b ≤ a → Gs_h X t lv (st) σ) (kf : a < b → Gs_h X q lv (st) σ) : Gs_h X pc lv (vI b :: vI a :: st) σ := by
  obtain ⟨p, l, e, R, s, m, args, below, meth, c, D, cs, ad, A, cells, slots, Q⟩ := X
  obtain ⟨hx, hb, hml, hown, hts, hret, hlk, hK, hN, hi, hA, hd1, hd2, hd3, hd4⟩ := hF
  intro H locs ls hl hst hσ hP hS
  subst hq
  have oa : inR a := ok_hd (ok_tl hst)
  have ob : inR b := ok_hd hst
  refine lv_icmp_ge (x := Int32.ofInt a) (y := Int32.ofInt b) hx hb hdg ht (fun h => ?_) (fun h => ?_)
  · exact kt ((i32_le ob oa).mp h) H locs ls hl (ok_tl (ok_tl hst)) hσ hP hS
  · exact kf (Int.not_le.mp fun z => h ((i32_le ob oa).mpr z)) H locs ls hl (ok_tl (ok_tl hst)) hσ hP hS
theorem jr_icmp_gt_h {M : MM} {d : Nat} {X : CT} (hF : Fix_h M d X) {pc : Nat} {lv : List (Option PV)} {st : List PV} {σ : Sg} {a b : Int} {off : Int} (hdg : decode M.2.1 pc = .ok (.if_icmp .gt off, 3)) {q : Nat} (hq : pc + 3 = q) (t : Nat) (ht : (pc : Int) + off = (t : Int)) (kt : b < a → Gs_h X t lv (st) σ) (kf : a ≤ b → Gs_h X q lv (st) σ) : Gs_h X pc lv (vI b :: vI a :: st) σ := by
  obtain ⟨p, l, e, R, s, m, args, below, meth, c, D, cs, ad, A, cells, slots, Q⟩ := X
  obtain ⟨hx, hb, hml, hown, hts, hret, hlk, hK, hN, hi, hA, hd1, hd2, hd3, hd4⟩ := hF
  intro H locs ls hl hst hσ hP hS
  subst hq
  have oa : inR a := ok_hd (ok_tl hst)
  have ob : inR b := ok_hd hst
  refine lv_icmp_gt (x := Int32.ofInt a) (y := Int32.ofInt b) hx hb hdg ht (fun h => ?_) (fun h => ?_)
  · exact kt ((i32_lt ob oa).mp h) H locs ls hl (ok_tl (ok_tl hst)) hσ hP hS
  · exact kf (Int.not_lt.mp fun z => h ((i32_lt ob oa).mpr z)) H locs ls hl (ok_tl (ok_tl hst)) hσ hP hS
theorem jr_if_eq_h {M : MM} {d : Nat} {X : CT} (hF : Fix_h M d X) {pc : Nat} {lv : List (Option PV)} {st : List PV} {σ : Sg} {a : Int} {off : Int} (hdg : decode M.2.1 pc = .ok (.ifCond .eq off, 3)) {q : Nat} (hq : pc + 3 = q) (t : Nat) (ht : (pc : Int) + off = (t : Int)) (kt : a = 0 → Gs_h X t lv (st) σ) (kf : a ≠ 0 → Gs_h X q lv (st) σ) : Gs_h X pc lv (vI a :: st) σ := by
  obtain ⟨p, l, e, R, s, m, args, below, meth, c, D, cs, ad, A, cells, slots, Q⟩ := X
  obtain ⟨hx, hb, hml, hown, hts, hret, hlk, hK, hN, hi, hA, hd1, hd2, hd3, hd4⟩ := hF
  intro H locs ls hl hst hσ hP hS
  subst hq
  have oa : inR a := ok_hd hst
  have oz : inR 0 := ⟨by decide, by decide⟩
  refine lv_if_eq (x := Int32.ofInt a) hx hb hdg ht (fun h => ?_) (fun h => ?_)
  · exact kt ((i32_eq oa oz).mp (h.trans i32_0)) H locs ls hl (ok_tl hst) hσ hP hS
  · exact kf (fun z => h (((i32_eq oa oz).mpr z).trans i32_0.symm)) H locs ls hl (ok_tl hst) hσ hP hS
theorem jr_if_ne_h {M : MM} {d : Nat} {X : CT} (hF : Fix_h M d X) {pc : Nat} {lv : List (Option PV)} {st : List PV} {σ : Sg} {a : Int} {off : Int} (hdg : decode M.2.1 pc = .ok (.ifCond .ne off, 3)) {q : Nat} (hq : pc + 3 = q) (t : Nat) (ht : (pc : Int) + off = (t : Int)) (kt : a ≠ 0 → Gs_h X t lv (st) σ) (kf : a = 0 → Gs_h X q lv (st) σ) : Gs_h X pc lv (vI a :: st) σ := by
  obtain ⟨p, l, e, R, s, m, args, below, meth, c, D, cs, ad, A, cells, slots, Q⟩ := X
  obtain ⟨hx, hb, hml, hown, hts, hret, hlk, hK, hN, hi, hA, hd1, hd2, hd3, hd4⟩ := hF
  intro H locs ls hl hst hσ hP hS
  subst hq
  have oa : inR a := ok_hd hst
  have oz : inR 0 := ⟨by decide, by decide⟩
  refine lv_if_ne (x := Int32.ofInt a) hx hb hdg ht (fun h => ?_) (fun h => ?_)
  · exact kt (fun z => h (((i32_eq oa oz).mpr z).trans i32_0.symm)) H locs ls hl (ok_tl hst) hσ hP hS
  · exact kf ((i32_eq oa oz).mp (h.trans i32_0)) H locs ls hl (ok_tl hst) hσ hP hS
theorem jr_if_lt_h {M : MM} {d : Nat} {X : CT} (hF : Fix_h M d X) {pc : Nat} {lv : List (Option PV)} {st : List PV} {σ : Sg} {a : Int} {off : Int} (hdg : decode M.2.1 pc = .ok (.ifCond .lt off, 3)) {q : Nat} (hq : pc + 3 = q) (t : Nat) (ht : (pc : Int) + off = (t : Int)) (kt : a < 0 → Gs_h X t lv (st) σ) (kf : 0 ≤ a → Gs_h X q lv (st) σ) : Gs_h X pc lv (vI a :: st) σ := by
  obtain ⟨p, l, e, R, s, m, args, below, meth, c, D, cs, ad, A, cells, slots, Q⟩ := X
  obtain ⟨hx, hb, hml, hown, hts, hret, hlk, hK, hN, hi, hA, hd1, hd2, hd3, hd4⟩ := hF
  intro H locs ls hl hst hσ hP hS
  subst hq
  have oa : inR a := ok_hd hst
  have oz : inR 0 := ⟨by decide, by decide⟩
  refine lv_if_lt (x := Int32.ofInt a) hx hb hdg ht (fun h => ?_) (fun h => ?_)
  · exact kt ((i32_lt oa oz).mp (i32_0 ▸ h)) H locs ls hl (ok_tl hst) hσ hP hS
  · exact kf (Int.not_lt.mp fun z => h (i32_0 ▸ (i32_lt oa oz).mpr z)) H locs ls hl (ok_tl hst) hσ hP hS
theorem jr_goto_h {M : MM} {d : Nat} {X : CT} (hF : Fix_h M d X) {pc : Nat} {lv : List (Option PV)} {st : List PV} {σ : Sg} {off : Int} (hdg : decode M.2.1 pc = .ok (.goto off, 3)) (t : Nat) (ht : (pc : Int) + off = (t : Int)) (k : Gs_h X t lv st σ) : Gs_h X pc lv st σ := by
  obtain ⟨p, l, e, R, s, m, args, below, meth, c, D, cs, ad, A, cells, slots, Q⟩ := X
  obtain ⟨hx, hb, hml, hown, hts, hret, hlk, hK, hN, hi, hA, hd1, hd2, hd3, hd4⟩ := hF
  intro H locs ls hl hst hσ hP hS
  exact lv_goto hx hb hdg ht (k H locs ls hl hst hσ hP hS)
theorem jr_istore_n_h {M : MM} {d : Nat} {X : CT} (hF : Fix_h M d X) {pc : Nat} {lv : List (Option PV)} {st : List PV} {σ : Sg} {n : Fin 4} {z : Int} (hdg : decode M.2.1 pc = .ok (.istore_n n, 1)) {q : Nat} (hq : pc + 1 = q) (hn : (n : Nat) < M.2.2.1) (hp : prevL lv (n : Nat) = false) (k : Gs_h X q (lv.set (n : Nat) (some (vI z))) st σ) : Gs_h X pc lv (vI z :: st) σ := by
  obtain ⟨p, l, e, R, s, m, args, below, meth, c, D, cs, ad, A, cells, slots, Q⟩ := X
  obtain ⟨hx, hb, hml, hown, hts, hret, hlk, hK, hN, hi, hA, hd1, hd2, hd3, hd4⟩ := hF
  intro H locs ls hl hst hσ hP hS
  subst hq
  refine lv_istore_n (x := Int32.ofInt z) (nL := c.maxLocals) hx hb hdg rfl (lvp_has hl) (by rw [hml]; exact hn) rfl (fun ls' hl' => ?_)
  exact k H locs ls' (lvok_set1 hl hp (ok_hd hst) hl') (ok_tl hst) hσ hP hS
theorem jr_iinc_h {M : MM} {d : Nat} {X : CT} (hF : Fix_h M d X) {pc : Nat} {lv : List (Option PV)} {st : List PV} {σ : Sg} {n : Nat} {z w : Int} (hdg : decode M.2.1 pc = .ok (.iinc n w, 3)) {q : Nat} (hq : pc + 3 = q) (hn : n < M.2.2.1) (hp : prevL lv n = false) (h : lv[n]? = some (some (vI z))) (hr : inR (z + w)) (k : Gs_h X q (lv.set n (some (vI (z + w)))) st σ) : Gs_h X pc lv st σ := by
  obtain ⟨p, l, e, R, s, m, args, below, meth, c, D, cs, ad, A, cells, slots, Q⟩ := X
  obtain ⟨hx, hb, hml, hown, hts, hret, hlk, hK, hN, hi, hA, hd1, hd2, hd3, hd4⟩ := hF
  intro H locs ls hl hst hσ hP hS
  subst hq
  obtain ⟨i9, hi9⟩ := List.getElem?_of_mem (lvp_mem (ad := ad) h)
  refine lv_iinc (x := Int32.ofInt z) (v := Int32.ofInt (z + w)) (nL := c.maxLocals) hx hb hdg (lvp_has hl) (k := i9) hi9 (by rw [Int32.ofInt_add]) (by rw [hml]; exact hn) rfl (fun ls' hl' => ?_)
  exact k H locs ls' (lvok_set1 (v := vI (z + w)) hl hp hr hl') hst hσ hP hS

theorem jr_getI_h {M : MM} {d : Nat} {X : CT} (hF : Fix_h M d X) {pc : Nat} {lv : List (Option PV)} {st : List PV} {σ : Sg} {idx a ci j : Nat} {fs : List (Option Nat)} (j0 : Int) (hj0 : (j : Int) = j0) (hdg : decode M.2.1 pc = .ok (.getfield idx, 3)) {q : Nat} (hq : pc + 3 = q) (hL : Lay_h[a]? = some (0, ci, 0, fs)) (hj : fs[j]? = some none) (hf : FL M.1.cls idx ci j) (k : Gs_h X q lv (vI (σ a j0) :: st) σ) : Gs_h X pc lv (vR a :: st) σ := by
  subst hj0
  obtain ⟨p, l, e, R, s, m, args, below, meth, c, D, cs, ad, A, cells, slots, Q⟩ := X
  obtain ⟨hx, hb, hml, hown, hts, hret, hlk, hK, hN, hi, hA, hd1, hd2, hd3, hd4⟩ := hF
  intro H locs ls hl hst hσ hP hS
  subst hq
  obtain ⟨C, T, N, h1, h2, h3, h4⟩ := hf
  exact va_get hx hb hts h4 hown hK hP a (mkW_at_h hL) h1 j h2 (hts _ h3) (fun _ h9 => h9) (fE_at hj) hdg (k H locs ls hl (ok_cs (hσ a j) (ok_tl hst)) hσ hP hS)
theorem jr_getR_h {M : MM} {d : Nat} {X : CT} (hF : Fix_h M d X) {pc : Nat} {lv : List (Option PV)} {st : List PV} {σ : Sg} {idx a ci j r : Nat} {fs : List (Option Nat)} (hdg : decode M.2.1 pc = .ok (.getfield idx, 3)) {q : Nat} (hq : pc + 3 = q) (hL : Lay_h[a]? = some (0, ci, 0, fs)) (hj : fs[j]? = some (some r)) (hf : FL M.1.cls idx ci j) (k : Gs_h X q lv (vR r :: st) σ) : Gs_h X pc lv (vR a :: st) σ := by
  obtain ⟨p, l, e, R, s, m, args, below, meth, c, D, cs, ad, A, cells, slots, Q⟩ := X
  obtain ⟨hx, hb, hml, hown, hts, hret, hlk, hK, hN, hi, hA, hd1, hd2, hd3, hd4⟩ := hF
  intro H locs ls hl hst hσ hP hS
  subst hq
  obtain ⟨C, T, N, h1, h2, h3, h4⟩ := hf
  exact va_get hx hb hts h4 hown hK hP a (mkW_at_h hL) h1 j h2 (hts _ h3) (fun _ h9 => h9) (fE_at hj) hdg (k H locs ls hl (ok_cs (v := vR r) trivial (ok_tl hst)) hσ hP hS)
theorem jr_putI_h {M : MM} {d : Nat} {X : CT} (hF : Fix_h M d X) {pc : Nat} {lv : List (Option PV)} {st : List PV} {σ : Sg} {idx a ci j : Nat} {z : Int} {fs : List (Option Nat)} (j0 : Int) (hj0 : (j : Int) = j0) (hdg : decode M.2.1 pc = .ok (.putfield idx, 3)) {q : Nat} (hq : pc + 3 = q) (hL : Lay_h[a]? = some (0, ci, 0, fs)) (hj : fs[j]? = some none) (hf : FP M.1.cls idx ci j .int) (k : Gs_h X q lv st (up σ a j0 z)) : Gs_h X pc lv (vI z :: vR a :: st) σ := by
  subst hj0
  obtain ⟨p, l, e, R, s, m, args, below, meth, c, D, cs, ad, A, cells, slots, Q⟩ := X
  obtain ⟨hx, hb, hml, hown, hts, hret, hlk, hK, hN, hi, hA, hd1, hd2, hd3, hd4⟩ := hF
  intro H locs ls hl hst hσ hP hS
  subst hq
  obtain ⟨C, T, N, ty0, h1, h2, h3, h4, h5, h6, h7, h8⟩ := hf
  refine va_put (v := .int (Int32.ofInt z)) hx hb hts h4 ty0 h5 h6 hown hK hP (mkW_D_h hi hA) hS a (mkW_at_h hL) h1 j h2 (hts _ h3) (fun _ h9 => h9) h7 h8 rfl rfl (by rw [List.length_mapIdx]; exact (List.getElem?_eq_some_iff.mp hj).1) hdg (fun H1 locs1 hP1 hD1 hS1 => ?_)
  rw [mkW_uc_h hL (cE_put hj), ← up_uc] at hP1
  exact k H1 locs1 ls hl (ok_tl (ok_tl hst)) (inR_up hσ (ok_hd hst)) hP1 hS1
theorem jr_iast_h {M : MM} {d : Nat} {X : CT} (hF : Fix_h M d X) {pc : Nat} {lv : List (Option PV)} {st : List PV} {σ : Sg} {a n b : Nat} {i v : Int} {fs : List (Option Nat)} (hdg : decode M.2.1 pc = .ok (.iastore, 1)) {q : Nat} (hq : pc + 1 = q) (hL : Lay_h[a]? = some (1, n, b, fs)) (h0 : 0 ≤ i ∧ i < (n : Int)) (k : Gs_h X q lv st (up σ a i v)) : Gs_h X pc lv (vI v :: vI i :: vR a :: st) σ := by
  obtain ⟨p, l, e, R, s, m, args, below, meth, c, D, cs, ad, A, cells, slots, Q⟩ := X
  obtain ⟨hx, hb, hml, hown, hts, hret, hlk, hK, hN, hi, hA, hd1, hd2, hd3, hd4⟩ := hF
  intro H locs ls hl hst hσ hP hS
  subst hq
  have oi : inR i := ok_hd (ok_tl hst)
  refine va_iast (i := Int32.ofInt i) (x := Int32.ofInt v) hx hb hK hP (mkW_D_h hi hA) hS a 0 (mkW_at_h hL) rfl (i32_vp oi h0.1 h0.2) hdg (fun H1 locs1 hP1 hD1 hS1 => ?_)
  rw [i32_cl oi, ← upd_up h0.1, mkW_uc_h (f := fun j => if j = i then v else σ a j) (e := .inl (cs.1, n, .inl (fun j : Nat => Int32.ofInt (uc σ a (fun j => if j = i then v else σ a j) a (j : Int))))) hL rfl, ← up_uc] at hP1
  exact k H1 locs1 ls hl (ok_tl (ok_tl (ok_tl hst))) (inR_up hσ (ok_hd hst)) hP1 hS1
theorem jr_aald_h {M : MM} {d : Nat} {X : CT} (hF : Fix_h M d X) {pc : Nat} {lv : List (Option PV)} {st : List PV} {σ : Sg} {a n b : Nat} {i : Int} {fs : List (Option Nat)} (hdg : decode M.2.1 pc = .ok (.aaload, 1)) {q : Nat} (hq : pc + 1 = q) (hL : Lay_h[a]? = some (3, n, b, fs)) (h0 : 0 ≤ i ∧ i < (n : Int)) (k : Gs_h X q lv (vR (b + i.toNat) :: st) σ) : Gs_h X pc lv (vI i :: vR a :: st) σ := by
  obtain ⟨p, l, e, R, s, m, args, below, meth, c, D, cs, ad, A, cells, slots, Q⟩ := X
  obtain ⟨hx, hb, hml, hown, hts, hret, hlk, hK, hN, hi, hA, hd1, hd2, hd3, hd4⟩ := hF
  intro H locs ls hl hst hσ hP hS
  subst hq
  have oi : inR i := ok_hd hst
  have hin : vp_in (Int32.ofInt i) n := i32_vp oi h0.1 h0.2
  have hlt : (Int32.ofInt i).toNatClampNeg < n := Nat.not_le.mp fun q => hin (Or.inr q)
  have ha := mkW_at_h (ad := ad) (cs := cs) (σ := σ) hL
  refine W.aald (v := .ref (ad (b + i.toNat))) (ty := .array .int) hx hb (hP a _ ha) ((hK.2 2 _ rfl).1 n (fun j => va_rf (if j < n then some (ad (b + j)) else none))) rfl (fun q => by cases q) (by show ¬ (_ ∨ (arrV _ _ _).slots.size ≤ _); rw [arrV_size]; exact hin) (by show (arrV _ _ _).slots[_]? = _; rw [arrV_read _ _ hlt]; show some (va_rf (if (Int32.ofInt i).toNatClampNeg < n then _ else _)) = _; rw [if_pos hlt, i32_cl oi]; rfl) rfl rfl hdg ?_
  exact k H locs ls hl (ok_cs (v := vR _) trivial (ok_tl (ok_tl hst))) hσ hP hS
theorem jr_alen_h {M : MM} {d : Nat} {X : CT} (hF : Fix_h M d X) {pc : Nat} {lv : List (Option PV)} {st : List PV} {σ : Sg} {a n b : Nat} {fs : List (Option Nat)} (hdg : decode M.2.1 pc = .ok (.arraylength, 1)) {q : Nat} (hq : pc + 1 = q) (hL : Lay_h[a]? = some (1, n, b, fs)) (hn : n < 1000) (k : Gs_h X q lv (vI (n : Int) :: st) σ) : Gs_h X pc lv (vR a :: st) σ := by
  obtain ⟨p, l, e, R, s, m, args, below, meth, c, D, cs, ad, A, cells, slots, Q⟩ := X
  obtain ⟨hx, hb, hml, hown, hts, hret, hlk, hK, hN, hi, hA, hd1, hd2, hd3, hd4⟩ := hF
  intro H locs ls hl hst hσ hP hS
  subst hq
  refine va_alen hx hb hK hP a 0 (mkW_at_h hL) rfl (v := Int32.ofInt (n : Int)) Int32.ofInt_eq_ofNat.symm hdg ?_
  exact k H locs ls hl (ok_cs (v := vI n) (show inR (n : Int) from ⟨by omega, by omega⟩) (ok_tl hst)) hσ hP hS
theorem jr_zreturn_h {M : MM} {d : Nat} {X : CT} (hF : Fix_h M d X) {pc : Nat} {lv : List (Option PV)} {st : List PV} {σ : Sg} {Q : Option PV → Sg → Prop} (hR : Ret_h X Q) (hr : M.2.2.2 = some .boolean) {z : Int} (hdg : decode M.2.1 pc = .ok (.ireturn, 1)) (hz : z = 0 ∨ z = 1) (h : Q (some (vI z)) σ) : Gs_h X pc lv [vI z] σ := by
  obtain ⟨p, l, e, R, s, m, args, below, meth, c, D, cs, ad, A, cells, slots, Qs⟩ := X
  obtain ⟨hx, hb, hml, hown, hts, hret, hlk, hK, hN, hi, hA, hd1, hd2, hd3, hd4⟩ := hF
  obtain ⟨rfl, rfl, rfl, rfl⟩ := hR
  intro H locs ls hl hst hσ hP hS
  exact W.zret (v := Int32.ofInt z) hx hb (hret.trans hr) (by rcases hz with rfl | rfl <;> decide +kernel) (fun t ht _ => ⟨some (vI z), σ, rfl, fun v hv => by cases hv; exact ok_hd hst, hσ, by rw [ht]; exact hP, hS.F ht, h⟩) hS.2.2 hdg hlk
theorem jr_return_h {M : MM} {d : Nat} {X : CT} (hF : Fix_h M d X) {pc : Nat} {lv : List (Option PV)} {st : List PV} {σ : Sg} {Q : Option PV → Sg → Prop} (hR : Ret_h X Q) (hr : M.2.2.2 = none) (hdg : decode M.2.1 pc = .ok (.return_, 1)) (h : Q none σ) : Gs_h X pc lv [] σ := by
  obtain ⟨p, l, e, R, s, m, args, below, meth, c, D, cs, ad, A, cells, slots, Qs⟩ := X
  obtain ⟨hx, hb, hml, hown, hts, hret, hlk, hK, hN, hi, hA, hd1, hd2, hd3, hd4⟩ := hF
  obtain ⟨rfl, rfl, rfl, rfl⟩ := hR
  intro H locs ls hl hst hσ hP hS
  exact W.vret hx hb (hret.trans hr) (fun t ht _ => ⟨none, σ, rfl, fun v hv => (by cases hv), hσ, by rw [ht]; exact hP, hS.F ht, h⟩) hS.2.2 hdg hlk
theorem preB_blind_h (as : List Value) (D : va_G) (cs : C3) (ad : Nat → Nat) (σ : Sg) : FrameBlind (va_Pc as (PreB_h D cs ad σ)) := by
  intro a U g mk h
  obtain ⟨h1, h2, h3, h4, h5⟩ := h
  exact ⟨h1, h2, h3, va_K.moved (u := U) (U := U.calling g mk a) (Vm.Alike.refl U.vm) h4, va_Nw.same rfl (rfl : U.vm = (U.calling g mk a).vm) h5⟩
theorem jr_callV_h {M : MM} {d : Nat} {X : CT} (hF : Fix_h M d X) {pc : Nat} {lv : List (Option PV)} {st : List PV} {σ : Sg} {Mc : MM} {dc idx b ci : Nat} {fs : List (Option Nat)} {C : String} {T : u_T} {N : Nat} {Q' : Option PV → Sg → Prop} (as : List PV) (hM : RunsM_h Mc dc (vR b :: as) σ Q') (hdg : decode M.2.1 pc = .ok (.invokevirtual idx, 3)) {q : Nat} (hq : pc + 3 = q) (hlk0 : Cond.methodLink M.1.cls idx Mc.1 ∈ wsT) (hc : CV Mc as.length) (hci : CI Mc) (hL : Lay_h[b]? = some (0, ci, 0, fs)) (hC : vwCl[ci]? = some (C, T, N)) (hCC : C = Mc.1.cls) (hdd : dc < d) (hrs : (st.map pcat).sum ≤ 8) (k : ∀ (r : Option PV) (σ' : Sg), Q' r σ' → Gs_h X q lv (r.toList ++ st) σ') : Gs_h X pc lv (as.reverse ++ vR b :: st) σ := by
  obtain ⟨p, l, e, R, s, m, args, below, meth, c, D, cs, ad, A, cells, slots, Q⟩ := X
  obtain ⟨hx, hb, hml, hown, hts, hret, hlk, hK, hN, hi, hA, hd1, hd2, hd3, hd4⟩ := hF
  intro H locs ls hl hst hσ hP hS
  subst hq
  subst hCC
  have hrest : ∀ x ∈ st, okP x := fun x h => hst x (List.mem_append_right _ (List.mem_cons_of_mem _ h))
  have has : ∀ x ∈ vR b :: as, okP x := ok_cs (v := vR b) trivial (fun x h => hst x (List.mem_append_left _ (List.mem_reverse.mpr h)))
  have cw : CallW R s args M.1.cls Mc.1.cls idx Mc.1 Mc.2.1 Mc.2.2.1 Mc.2.2.2 (.code Mc.1 Mc.2.1 Mc.2.2.1 Mc.2.2.2 :: wsT) (rmD dc) 0 0 as.length :=
    ⟨callB_of as.length hts (goodT hc.1) rfl rfl rfl (hts _ hc.2.1) (hts _ hlk0) hc.2.2.1 ⟨by show dc + 1 ≤ R.frames; omega, by show 8 + (Mc.2.2.1 + 11) + 64 * dc ≤ R.locals; have := hc.2.2.2; omega⟩, hts _ hci.1, hts _ hci.2⟩
  have hr := va_runV (g := F0 m pc ls ((as.reverse ++ vR b :: st).map (tV ad))) (cells := cells) (slots := slots) (locs := locs) (below := below) (meth := meth) (As := as.map (tV ad)) (rest := st.map (tV ad)) (b := ad b) (e := e) ⟨hx, hb, hml, hown, hts⟩ (hM l D cs ad hi has) cw ⟨preB_blind_h _ D cs ad σ, va_recv hK hP hC (mkW_at_h hL), fun U hU hW => ⟨rfl, hσ, by rw [hU]; exact hP, va_K.moved hW.alike hK, va_Nw.warmM hW hN⟩⟩ rfl (by rw [List.length_map]) (hl.1.trans hml) (by show List.map _ _ = _; rw [List.map_append, List.map_reverse]; rfl) (by show 2 * 0 + _ ≤ 8; rw [cat_sum]; omega) hdg ⟨by omega, by omega⟩
  intro T hT Xs
  obtain ⟨v, st₀, t, T', L, h0, X', hL, e1, e2, ⟨r, σ', hv, hor, hσ', hP', hF', hq'⟩, stp⟩ := hr T hT Xs
  obtain ⟨hz, hk⟩ := hF'
  rw [h0] at hz hk
  have hv2 : v = r.map (tV ad) := by cases hv; rfl
  subst hv2
  have hAD : ∀ q, AD_h ad q → A q := fun q hq => by obtain ⟨k9, h9, rfl⟩ := hq; exact hA k9 h9
  have hS' : va_S A s.heap T'.heap (locs ++ L) := ⟨Nat.le_trans hS.1 (by rw [e1]; exact hz), fun q h1 h2 => by rw [e1, hk q (Nat.lt_of_lt_of_le h1 hS.1) (fun z => h2 (hAD q z))]; exact hS.2.1 q h1 h2, fun q hq => by
    rcases List.mem_append.mp hq with h | h
    · exact hS.2.2 q h
    · exact hAD _ (hL q h)⟩
  have hst' : ∀ x ∈ r.toList ++ st, okP x := fun x hx9 => by
    rcases List.mem_append.mp hx9 with h | h
    · exact hor x (by simpa using h)
    · exact hrest x h
  obtain ⟨t2, a1, b1⟩ := k r σ' hq' T'.heap (locs ++ L) ls hl hst' hσ' (by rw [e1]; exact hP') hS' T' rfl (by simpa using X')
  refine ⟨t2, stp t2 ?_, b1⟩
  have e9 : (r.map (tV ad)).toList ++ st.map (tV ad) = (r.toList ++ st).map (tV ad) := by
    cases r <;> simp
  rw [e9]
  exact a1
theorem jr_callS_h {M : MM} {d : Nat} {X : CT} (hF : Fix_h M d X) {pc : Nat} {lv : List (Option PV)} {st : List PV} {σ : Sg} {Mc : MM} {dc idx : Nat} {Q' : Option PV → Sg → Prop} (as : List PV) (hM : RunsM_h Mc dc as σ Q') (hdg : decode M.2.1 pc = .ok (.invokestatic idx, 3)) {q : Nat} (hq : pc + 3 = q) (hlk0 : Cond.methodLink M.1.cls idx Mc.1 ∈ wsT) (hc : CV Mc as.length) (hci : Cond.static Mc.1 ∈ wsT) (hdd : dc < d) (hrs : (st.map pcat).sum ≤ 8) (k : ∀ (r : Option PV) (σ' : Sg), Q' r σ' → Gs_h X q lv (r.toList ++ st) σ') : Gs_h X pc lv (as.reverse ++ st) σ := by
  obtain ⟨p, l, e, R, s, m, args, below, meth, c, D, cs, ad, A, cells, slots, Q⟩ := X
  obtain ⟨hx, hb, hml, hown, hts, hret, hlk, hK, hN, hi, hA, hd1, hd2, hd3, hd4⟩ := hF
  intro H locs ls hl hst hσ hP hS
  subst hq
  have hrest : ∀ x ∈ st, okP x := fun x h => hst x (List.mem_append_right _ h)
  have has : ∀ x ∈ as, okP x := fun x h => hst x (List.mem_append_left _ (List.mem_reverse.mpr h))
  have cw : CallB R s args M.1.cls idx Mc.1 Mc.2.1 Mc.2.2.1 Mc.2.2.2 (.code Mc.1 Mc.2.1 Mc.2.2.1 Mc.2.2.2 :: wsT) (rmD dc) 0 0 as.length ∧ (Cond.static Mc.1).before args s = true :=
    ⟨callB_of as.length hts (goodT hc.1) rfl rfl rfl (hts _ hc.2.1) (hts _ hlk0) hc.2.2.1 ⟨by show dc + 1 ≤ R.frames; omega, by show 8 + (Mc.2.2.1 + 11) + 64 * dc ≤ R.locals; have := hc.2.2.2; omega⟩, hts _ hci⟩
  have hr := va_runS (g := F0 m pc ls ((as.reverse ++ st).map (tV ad))) (cells := cells) (slots := slots) (locs := locs) (below := below) (meth := meth) (As := as.map (tV ad)) (rest := st.map (tV ad)) (e := e) ⟨hx, hb, hml, hown, hts⟩ (hM l D cs ad hi has) cw ⟨preB_blind_h _ D cs ad σ, fun U hU hW => ⟨rfl, hσ, by rw [hU]; exact hP, va_K.moved hW.alike hK, va_Nw.warmM hW hN⟩⟩ rfl (by rw [List.length_map]) (hl.1.trans hml) (by show List.map _ _ = _; rw [List.map_append, List.map_reverse]) (by show 2 * 0 + _ ≤ 8; rw [cat_sum]; omega) hdg ⟨by omega, by omega⟩
  intro T hT Xs
  obtain ⟨v, st₀, t, T', L, h0, X', hL, e1, e2, ⟨r, σ', hv, hor, hσ', hP', hF', hq'⟩, stp⟩ := hr T hT Xs
  obtain ⟨hz, hk⟩ := hF'
  rw [h0] at hz hk
  have hv2 : v = r.map (tV ad) := by cases hv; rfl
  subst hv2
  have hAD : ∀ q, AD_h ad q → A q := fun q hq => by obtain ⟨k9, h9, rfl⟩ := hq; exact hA k9 h9
  have hS' : va_S A s.heap T'.heap (locs ++ L) := ⟨Nat.le_trans hS.1 (by rw [e1]; exact hz), fun q h1 h2 => by rw [e1, hk q (Nat.lt_of_lt_of_le h1 hS.1) (fun z => h2 (hAD q z))]; exact hS.2.1 q h1 h2, fun q hq => by
    rcases List.mem_append.mp hq with h | h
    · exact hS.2.2 q h
    · exact hAD _ (hL q h)⟩
  have hst' : ∀ x ∈ r.toList ++ st, okP x := fun x hx9 => by
    rcases List.mem_append.mp hx9 with h | h
    · exact hor x (by simpa using h)
    · exact hrest x h
  obtain ⟨t2, a1, b1⟩ := k r σ' hq' T'.heap (locs ++ L) ls hl hst' hσ' (by rw [e1]; exact hP') hS' T' rfl (by simpa using X')
  refine ⟨t2, stp t2 ?_, b1⟩
  have e9 : (r.map (tV ad)).toList ++ st.map (tV ad) = (r.toList ++ st).map (tV ad) := by
    cases r <;> simp
  rw [e9]
  exact a1
theorem jr_callN_h {M : MM} {d : Nat} {X : CT} (hF : Fix_h M d X) {pc : Nat} {lv : List (Option PV)} {st : List PV} {σ : Sg} {Mc : MM} {dc : Nat} {Q' : Option PV → Sg → Prop} (as : List PV) (hM : RunsM_h Mc dc as σ Q') (hdg : decode M.2.1 pc = .ok (.invokestatic 39, 3)) {q : Nat} (hq : pc + 3 = q) (hown4 : M.1.cls = RX4) (hMc : Mc.1 = yX9_isWithin) (hc : CV Mc as.length) (hci : Cond.static Mc.1 ∈ wsT) (hdd : dc < d) (hrs : (st.map pcat).sum ≤ 8) (k : ∀ (r : Option PV) (σ' : Sg), Q' r σ' → Gs_h X q lv (r.toList ++ st) σ') : Gs_h X pc lv (as.reverse ++ st) σ := by
  obtain ⟨p, l, e, R, s, m, args, below, meth, c, D, cs, ad, A, cells, slots, Q⟩ := X
  obtain ⟨hx, hb, hml, hown, hts, hret, hlk, hK, hN, hi, hA, hd1, hd2, hd3, hd4⟩ := hF
  intro H locs ls hl hst hσ hP hS
  subst hq
  have hrest : ∀ x ∈ st, okP x := fun x h => hst x (List.mem_append_right _ h)
  have has : ∀ x ∈ as, okP x := fun x h => hst x (List.mem_append_left _ (List.mem_reverse.mpr h))
  have hN2 : va_Nw (.methodLinkNest M.1.cls 39 Mc.1 RX9) s := by rw [hown4, hMc]; exact hN
  have cw : va_CN R s args M.1.cls 39 Mc.1 RX9 Mc.2.1 Mc.2.2.1 Mc.2.2.2 (.code Mc.1 Mc.2.1 Mc.2.2.1 Mc.2.2.2 :: wsT) (rmD dc) 0 0 as.length ∧ (Cond.static Mc.1).before args s = true ∧ True :=
    ⟨va_cnB as.length hts (goodT hc.1) rfl rfl rfl hN2 (hts _ hc.2.1) hc.2.2.1 ⟨by show dc + 1 ≤ R.frames; omega, by show 8 + (Mc.2.2.1 + 11) + 64 * dc ≤ R.locals; have := hc.2.2.2; omega⟩, hts _ hci, trivial⟩
  have hr := va_runSN (g := F0 m pc ls ((as.reverse ++ st).map (tV ad))) (cells := cells) (slots := slots) (locs := locs) (below := below) (meth := meth) (As := as.map (tV ad)) (rest := st.map (tV ad)) (e := e) ⟨hx, hb, hml, hown, hts⟩ (hM l D cs ad hi has) cw ⟨preB_blind_h _ D cs ad σ, fun U hU hW => ⟨rfl, hσ, by rw [hU]; exact hP, va_K.moved hW.alike hK, va_Nw.warmM hW hN⟩⟩ rfl (by rw [List.length_map]) (hl.1.trans hml) (by show List.map _ _ = _; rw [List.map_append, List.map_reverse]) (by show 2 * 0 + _ ≤ 8; rw [cat_sum]; omega) hdg ⟨by omega, by omega⟩
  intro T hT Xs
  obtain ⟨v, st₀, t, T', L, h0, X', hL, e1, e2, ⟨r, σ', hv, hor, hσ', hP', hF', hq'⟩, stp⟩ := hr T hT Xs
  obtain ⟨hz, hk⟩ := hF'
  rw [h0] at hz hk
  have hv2 : v = r.map (tV ad) := by cases hv; rfl
  subst hv2
  have hAD : ∀ q, AD_h ad q → A q := fun q hq => by obtain ⟨k9, h9, rfl⟩ := hq; exact hA k9 h9
  have hS' : va_S A s.heap T'.heap (locs ++ L) := ⟨Nat.le_trans hS.1 (by rw [e1]; exact hz), fun q h1 h2 => by rw [e1, hk q (Nat.lt_of_lt_of_le h1 hS.1) (fun z => h2 (hAD q z))]; exact hS.2.1 q h1 h2, fun q hq => by
    rcases List.mem_append.mp hq with h | h
    · exact hS.2.2 q h
    · exact hAD _ (hL q h)⟩
  have hst' : ∀ x ∈ r.toList ++ st, okP x := fun x hx9 => by
    rcases List.mem_append.mp hx9 with h | h
    · exact hor x (by simpa using h)
    · exact hrest x h
  obtain ⟨t2, a1, b1⟩ := k r σ' hq' T'.heap (locs ++ L) ls hl hst' hσ' (by rw [e1]; exact hP') hS' T' rfl (by simpa using X')
  refine ⟨t2, stp t2 ?_, b1⟩
  have e9 : (r.map (tV ad)).toList ++ st.map (tV ad) = (r.toList ++ st).map (tV ad) := by
    cases r <;> simp
  rw [e9]
  exact a1
theorem mkRun_h {M : MM} {d : Nat} {as : List PV} {σ : Sg} {Q : Option PV → Sg → Prop} (hy : plainName M.1.cls = true) (hn : (eL as).length ≤ M.2.2.1) (body : ∀ X : CT, Fix_h M d X → Ret_h X Q → Gs_h X 0 (entryL as M.2.2.1) [] σ) : RunsM_h M d as σ Q := by
  intro l D cs ad hi has
  refine Met.ofW (cc := M.2.1) (maxL := M.2.2.1) (ret := M.2.2.2) hy rfl ?_
  intro p e s m args below meth c s₁ B hml hv
  obtain ⟨rfl, hσ, hP, hK, hN⟩ := hv
  have hts := atoms_spec B.pre
  have hown : s.vm.findClass M.1.cls = some m.cls := findClass_of_methodNamed B.named
  have hb := body (p, l, e, (headSpec (.code M.1 M.2.1 M.2.2.1 M.2.2.2 :: wsT) (rmD d)).room, s, m, (as.map (tV ad)).toArray, below, meth, c, D, cs, ad, AD_h ad, 0, 0, MQ below (QcB_h D cs ad Q) (as.map (tV ad)).toArray s 0 0 (AD_h ad))
    ⟨B.exec, B.bytes, hml, hown, fun w hw => hts w (List.mem_cons_of_mem _ hw), B.returns, B.notSynchronized, hK, hN, hi, fun k hk => ⟨k, hk, rfl⟩, Nat.le_refl _, Nat.le_refl _, Nat.zero_le _, Nat.zero_le _⟩ ⟨rfl, rfl, rfl, rfl⟩
  have hl := lv_entry (as.map (tV ad)) (n := M.2.2.1) (by rw [eL_len]; exact hn)
  rw [lg_entry_eq]
  generalize (lg_sl (as.map (tV ad)) ++ List.replicate (M.2.2.1 - (lg_sl (as.map (tV ad))).length) Slot.unset).toArray = ls at hl ⊢
  refine hb s.heap [] ls ⟨hl.1.trans hml.symm, hl.2.1, fun i v hv => ?_⟩ (fun _ h => by cases h) hσ hP va_S.rf
  unfold entryL at hv
  by_cases h : i < (eL as).length
  · rw [List.getElem?_append_left h] at hv
    have h2 := eL_args ad as 0 i v hv
    rw [Nat.zero_add] at h2
    exact ⟨hl.2.2 _ h2.1, has v h2.2⟩
  · rw [List.getElem?_append_right (by omega)] at hv
    have := List.eq_of_mem_replicate (List.mem_of_getElem? hv)
    cases this
theorem RunsM_h.mono {M : MM} {d : Nat} {as : List PV} {σ : Sg} {Q Q' : Option PV → Sg → Prop} (h : RunsM_h M d as σ Q) (hq : ∀ r σ', Q r σ' → Q' r σ') : RunsM_h M d as σ Q' := by
  intro l D cs ad hi has
  have h1 := h l D cs ad hi has
  intro p e ha hc hk s m args below hf hap hP hK
  obtain ⟨t, o, a1, b1, b2, ⟨⟨r, σ', c1, c2, c3, c4, c5, c6⟩, b4⟩⟩ := h1 p e ha hc hk s m args below hf hap hP hK
  exact ⟨t, o, a1, b1, b2, ⟨⟨r, σ', c1, c2, c3, c4, c5, hq r σ' c6⟩, b4⟩⟩

abbrev RI_h (M : MM) (d : Nat) (as : List PV) (σ : Sg) (P : Int → Sg → Prop) : Prop := RunsM_h M d as σ (qI P)
abbrev RV_h (M : MM) (d : Nat) (as : List PV) (σ : Sg) (P : Sg → Prop) : Prop := RunsM_h M d as σ (qV P)
theorem RI_h.mono {M : MM} {d : Nat} {as : List PV} {σ : Sg} {P P' : Int → Sg → Prop} (h : RI_h M d as σ P) (hq : ∀ z σ', P z σ' → P' z σ') : RI_h M d as σ P' := RunsM_h.mono h (fun r σ' ⟨z, h1, h2⟩ => ⟨z, h1, hq z σ' h2⟩)
theorem RV_h.mono {M : MM} {d : Nat} {as : List PV} {σ : Sg} {P P' : Sg → Prop} (h : RV_h M d as σ P) (hq : ∀ σ', P σ' → P' σ') : RV_h M d as σ P' := RunsM_h.mono h (fun r σ' ⟨h1, h2⟩ => ⟨h1, hq σ' h2⟩)
theorem jr_retZ_h {M : MM} {d : Nat} {X : CT} (hF : Fix_h M d X) {pc : Nat} {lv : List (Option PV)} {σ : Sg} {P : Int → Sg → Prop} (hR : Ret_h X (qI P)) {z : Int} (hdg : decode M.2.1 pc = .ok (.ireturn, 1)) (hr : M.2.2.2 = some .boolean) (hz : z = 0 ∨ z = 1) (h : P z σ) : Gs_h X pc lv [vI z] σ := jr_zreturn_h (st := []) hF hR hr hdg hz ⟨z, rfl, h⟩
theorem jr_retV_h {M : MM} {d : Nat} {X : CT} (hF : Fix_h M d X) {pc : Nat} {lv : List (Option PV)} {σ : Sg} {P : Sg → Prop} (hR : Ret_h X (qV P)) (hdg : decode M.2.1 pc = .ok (.return_, 1)) (hr : M.2.2.2 = none) (h : P σ) : Gs_h X pc lv [] σ := jr_return_h (st := []) hF hR hr hdg ⟨rfl, h⟩
theorem jr_cV0V_h {M : MM} {d : Nat} {X : CT} (hF : Fix_h M d X) {pc : Nat} {lv : List (Option PV)} {st : List PV} {σ : Sg} {Mc : MM} {dc idx b ci : Nat} {fs : List (Option Nat)} {C : String} {T : u_T} {N : Nat} {P : Sg → Prop} (hM : RV_h Mc dc [vR b] σ P) (hdg : decode M.2.1 pc = .ok (.invokevirtual idx, 3)) {q : Nat} (hq : pc + 3 = q) (hlk0 : Cond.methodLink M.1.cls idx Mc.1 ∈ wsT) (hc : CV Mc 0) (hci : CI Mc) (hL : Lay_h[b]? = some (0, ci, 0, fs)) (hC : vwCl[ci]? = some (C, T, N)) (hCC : C = Mc.1.cls) (hdd : dc < d) (hrs : (st.map pcat).sum ≤ 8) (k : ∀ σ1 : Sg, P σ1 → Gs_h X q lv st σ1) : Gs_h X pc lv (vR b :: st) σ := jr_callV_h hF [] hM hdg hq hlk0 hc hci hL hC hCC hdd hrs (fun r σ1 ⟨h1, h2⟩ => by subst h1; exact k σ1 h2)
theorem jr_cV1I_h {M : MM} {d : Nat} {X : CT} (hF : Fix_h M d X) {pc : Nat} {lv : List (Option PV)} {st : List PV} {σ : Sg} {Mc : MM} {dc idx b ci : Nat} {fs : List (Option Nat)} {C : String} {T : u_T} {N : Nat} {P : Int → Sg → Prop} {a1 : PV} (hM : RI_h Mc dc [vR b, a1] σ P) (hdg : decode M.2.1 pc = .ok (.invokevirtual idx, 3)) {q : Nat} (hq : pc + 3 = q) (hlk0 : Cond.methodLink M.1.cls idx Mc.1 ∈ wsT) (hc : CV Mc 1) (hci : CI Mc) (hL : Lay_h[b]? = some (0, ci, 0, fs)) (hC : vwCl[ci]? = some (C, T, N)) (hCC : C = Mc.1.cls) (hdd : dc < d) (hrs : (st.map pcat).sum ≤ 8) (k : ∀ (z : Int) (σ1 : Sg), P z σ1 → Gs_h X q lv (vI z :: st) σ1) : Gs_h X pc lv (a1 :: vR b :: st) σ := jr_callV_h hF [a1] hM hdg hq hlk0 hc hci hL hC hCC hdd hrs (fun r σ1 ⟨z, h1, h2⟩ => by subst h1; exact k z σ1 h2)
theorem jr_cV2I_h {M : MM} {d : Nat} {X : CT} (hF : Fix_h M d X) {pc : Nat} {lv : List (Option PV)} {st : List PV} {σ : Sg} {Mc : MM} {dc idx b ci : Nat} {fs : List (Option Nat)} {C : String} {T : u_T} {N : Nat} {P : Int → Sg → Prop} {a1 a2 : PV} (hM : RI_h Mc dc [vR b, a1, a2] σ P) (hdg : decode M.2.1 pc = .ok (.invokevirtual idx, 3)) {q : Nat} (hq : pc + 3 = q) (hlk0 : Cond.methodLink M.1.cls idx Mc.1 ∈ wsT) (hc : CV Mc 2) (hci : CI Mc) (hL : Lay_h[b]? = some (0, ci, 0, fs)) (hC : vwCl[ci]? = some (C, T, N)) (hCC : C = Mc.1.cls) (hdd : dc < d) (hrs : (st.map pcat).sum ≤ 8) (k : ∀ (z : Int) (σ1 : Sg), P z σ1 → Gs_h X q lv (vI z :: st) σ1) : Gs_h X pc lv (a2 :: a1 :: vR b :: st) σ := jr_callV_h hF [a1, a2] hM hdg hq hlk0 hc hci hL hC hCC hdd hrs (fun r σ1 ⟨z, h1, h2⟩ => by subst h1; exact k z σ1 h2)
theorem jr_cS2V_h {M : MM} {d : Nat} {X : CT} (hF : Fix_h M d X) {pc : Nat} {lv : List (Option PV)} {st : List PV} {σ : Sg} {Mc : MM} {dc idx : Nat} {P : Sg → Prop} {a1 a2 : PV} (hM : RV_h Mc dc [a1, a2] σ P) (hdg : decode M.2.1 pc = .ok (.invokestatic idx, 3)) {q : Nat} (hq : pc + 3 = q) (hlk0 : Cond.methodLink M.1.cls idx Mc.1 ∈ wsT) (hc : CV Mc 2) (hci : Cond.static Mc.1 ∈ wsT) (hdd : dc < d) (hrs : (st.map pcat).sum ≤ 8) (k : ∀ σ1 : Sg, P σ1 → Gs_h X q lv st σ1) : Gs_h X pc lv (a2 :: a1 :: st) σ := jr_callS_h hF [a1, a2] hM hdg hq hlk0 hc hci hdd hrs (fun r σ1 ⟨h1, h2⟩ => by subst h1; exact k σ1 h2)
theorem jr_cV3I_h {M : MM} {d : Nat} {X : CT} (hF : Fix_h M d X) {pc : Nat} {lv : List (Option PV)} {st : List PV} {σ : Sg} {Mc : MM} {dc idx b ci : Nat} {fs : List (Option Nat)} {C : String} {T : u_T} {N : Nat} {P : Int → Sg → Prop} {a1 a2 a3 : PV} (hM : RI_h Mc dc [vR b, a1, a2, a3] σ P) (hdg : decode M.2.1 pc = .ok (.invokevirtual idx, 3)) {q : Nat} (hq : pc + 3 = q) (hlk0 : Cond.methodLink M.1.cls idx Mc.1 ∈ wsT) (hc : CV Mc 3) (hci : CI Mc) (hL : Lay_h[b]? = some (0, ci, 0, fs)) (hC : vwCl[ci]? = some (C, T, N)) (hCC : C = Mc.1.cls) (hdd : dc < d) (hrs : (st.map pcat).sum ≤ 8) (k : ∀ (z : Int) (σ1 : Sg), P z σ1 → Gs_h X q lv (vI z :: st) σ1) : Gs_h X pc lv (a3 :: a2 :: a1 :: vR b :: st) σ := jr_callV_h hF [a1, a2, a3] hM hdg hq hlk0 hc hci hL hC hCC hdd hrs (fun r σ1 ⟨z, h1, h2⟩ => by subst h1; exact k z σ1 h2)
theorem jr_cN3I_h {M : MM} {d : Nat} {X : CT} (hF : Fix_h M d X) {pc : Nat} {lv : List (Option PV)} {st : List PV} {σ : Sg} {Mc : MM} {dc : Nat} {P : Int → Sg → Prop} {a1 a2 a3 : PV} (hM : RI_h Mc dc [a1, a2, a3] σ P) (hdg : decode M.2.1 pc = .ok (.invokestatic 39, 3)) {q : Nat} (hq : pc + 3 = q) (hown4 : M.1.cls = RX4) (hMc : Mc.1 = yX9_isWithin) (hc : CV Mc 3) (hci : Cond.static Mc.1 ∈ wsT) (hdd : dc < d) (hrs : (st.map pcat).sum ≤ 8) (k : ∀ (z : Int) (σ1 : Sg), P z σ1 → Gs_h X q lv (vI z :: st) σ1) : Gs_h X pc lv (a3 :: a2 :: a1 :: st) σ := jr_callN_h hF [a1, a2, a3] hM hdg hq hown4 hMc hc hci hdd hrs (fun r σ1 ⟨z, h1, h2⟩ => by subst h1; exact k z σ1 h2)
