/-! ===== the script ===== -/
def Sc (X : CT) (L : Nat) (xs : Nat → Int32) : Prop := match X with
  | (p, l, e, R, s, m, args, below, meth, c, D, cs, ad, A, cells, slots, Q) => va_X (ad 95) L xs s s.heap ∧ ad 95 < s.heap.size ∧ ¬ A (ad 95) ∧ L ≤ 2147483647
theorem jr_sld {M : MM} {d : Nat} {X : CT} (hF : Fix M d X) {L : Nat} {xs : Nat → Int32} (hX : Sc X L xs) {pc : Nat} {lv : List (Option PV)} {st : List PV} {σ : Sg} {i : Int} (hdg : decode M.2.1 pc = .ok (.iaload, 1)) {q : Nat} (hq : pc + 1 = q) (h0 : 0 ≤ i ∧ i < (L : Int)) (k : Gs X q lv (vI (xs i.toNat).toInt :: st) σ) : Gs X pc lv (vI i :: vR 95 :: st) σ := by
  obtain ⟨p, l, e, R, s, m, args, below, meth, c, D, cs, ad, A, cells, slots, Q⟩ := X
  obtain ⟨hx, hb, hml, hown, hts, hret, hlk, hK, hN, hi, hA, hd1, hd2, hd3, hd4⟩ := hF
  obtain ⟨x1, x2, x3, x4⟩ := hX
  intro H locs ls hl hst hσ hP hS
  subst hq
  have oi : inR i := ok_hd hst
  refine va_sld (i := Int32.ofInt i) hx hb x1 x2 x3 hS (i32_vp oi h0.1 h0.2) hdg ?_
  have hk := k H locs ls hl (ok_cs (v := vI (xs i.toNat).toInt) (inR_toInt _) (ok_tl (ok_tl hst))) hσ hP hS
  rw [i32_cl oi]
  have e1 : (vI (xs i.toNat).toInt :: st).map (tV ad) = .int (xs i.toNat) :: st.map (tV ad) := by
    show Value.int (Int32.ofInt (xs i.toNat).toInt) :: _ = _
    rw [Int32.ofInt_toInt]
  rw [e1] at hk
  exact hk
theorem jr_slen {M : MM} {d : Nat} {X : CT} (hF : Fix M d X) {L : Nat} {xs : Nat → Int32} (hX : Sc X L xs) {pc : Nat} {lv : List (Option PV)} {st : List PV} {σ : Sg} (hdg : decode M.2.1 pc = .ok (.arraylength, 1)) {q : Nat} (hq : pc + 1 = q) (k : Gs X q lv (vI (L : Int) :: st) σ) : Gs X pc lv (vR 95 :: st) σ := by
  obtain ⟨p, l, e, R, s, m, args, below, meth, c, D, cs, ad, A, cells, slots, Q⟩ := X
  obtain ⟨hx, hb, hml, hown, hts, hret, hlk, hK, hN, hi, hA, hd1, hd2, hd3, hd4⟩ := hF
  obtain ⟨x1, x2, x3, x4⟩ := hX
  intro H locs ls hl hst hσ hP hS
  subst hq
  refine va_slen hx hb x1 x2 x3 hS hdg ?_
  have hk := k H locs ls hl (ok_cs (v := vI (L : Int)) (show inR (L : Int) from ⟨by omega, by omega⟩) (ok_tl hst)) hσ hP hS
  have e1 : (vI (L : Int) :: st).map (tV ad) = .int (Int32.ofNat L) :: st.map (tV ad) := by
    show Value.int (Int32.ofInt (L : Int)) :: _ = _
    rw [Int32.ofInt_eq_ofNat]
  rw [e1] at hk
  exact hk
theorem and31 (x : Int32) : 0 ≤ (x &&& Int32.ofInt 31).toInt ∧ (x &&& Int32.ofInt 31).toInt ≤ 31 := by
  have e1 : (x &&& Int32.ofInt 31).toInt = (x.toBitVec &&& 31#32).toInt := by
    rw [← Int32.toInt_toBitVec, Int32.toBitVec_and]
    rfl
  have e2 : (x.toBitVec &&& 31#32).toNat = x.toBitVec.toNat % 32 := by
    rw [BitVec.toNat_and]
    exact Nat.and_two_pow_sub_one_eq_mod x.toBitVec.toNat 5
  rw [e1, BitVec.toInt_eq_toNat_cond, e2, if_pos (by omega)]
  omega

