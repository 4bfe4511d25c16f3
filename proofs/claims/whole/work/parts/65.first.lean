/-! ===== the first state ===== -/
def Ff : FD := (1, 2, fun _ => 1, fun _ => 0, fun i _ => if i = 0 then 9 else 6, fun i => if i = 0 then 8 else 5, 0, 1)
theorem JI_first (σ : Sg) (hc : σ 1 0 = 0 ∧ σ 4 0 = 1 ∧ σ 4 1 = 2 ∧ σ 5 0 = 1 ∧ σ 6 0 = 0 ∧ σ 6 1 = 0 ∧ σ 8 0 = 9 ∧ σ 9 0 = 6 ∧ σ 13 0 = 8 ∧ σ 13 1 = 5 ∧ σ 13 5 = 0 ∧ σ 13 6 = 1 ∧ σ 66 0 = 0 ∧ σ 69 0 = 0 ∧ σ 63 0 = 0)
    (hm : σ 73 0 = 0 ∧ σ 73 10 = 0 ∧ σ 73 11 = 0 ∧ σ 73 13 = 0 ∧ σ 75 0 = 1 ∧ σ 76 0 = 1 ∧ σ 77 0 = 2 ∧ σ 78 0 = 0 ∧ σ 78 1 = 0 ∧ σ 79 0 = 9 ∧ σ 79 3 = 6 ∧ σ 80 0 = 8 ∧ σ 80 1 = 5 ∧ σ 81 0 = 0 ∧ σ 82 0 = 1) : JI σ := by
  obtain ⟨c1, c2, c3, c4, c5, c6, c7, c8, c9, c10, c11, c12, c13, c14, c15⟩ := hc
  obtain ⟨m1, m2, m3, m4, m5, m6, m7, m8, m9, m10, m11, m12, m13, m14, m15⟩ := hm
  have n2 : ∀ i : Nat, i < f_nl Ff → i = 0 ∨ i = 1 := fun i hi => by replace hi : i < 2 := hi; omega
  have n1 : ∀ i : Nat, i < f_nm Ff → i = 0 := fun i hi => by replace hi : i < 1 := hi; omega
  refine ⟨(0, fun _ => 0, Ff, 0, fun _ => 0, fun _ => 0, 0, fun _ _ => 0, 0, fun _ => 0, fun _ => 0), ⟨⟨c1, Nat.zero_le _, fun k hk => absurd hk (Nat.not_lt_zero k)⟩, ⟨c2, c3, fun m hm => ?_, fun i hi => ?_, fun i m hi hm => ?_, fun i hi => ?_, c11, c12⟩, ⟨c13, fun j hj => absurd hj (Nat.not_lt_zero j)⟩, ⟨c14, fun j hj => absurd hj (Nat.not_lt_zero j)⟩, c15, fun j hj => absurd hj (Nat.not_lt_zero j)⟩, ⟨⟨m1, fun k hk => absurd hk (Nat.not_lt_zero k)⟩, ⟨m5, m7, fun m hm => ?_, fun i hi => ?_, fun i m hi hm => ?_, fun i hi => ?_, m14, m15⟩, ⟨m3, fun j hj => absurd hj (Nat.not_lt_zero j)⟩, ⟨m2, fun j hj => absurd hj (Nat.not_lt_zero j)⟩, m4, fun j hj => absurd hj (Nat.not_lt_zero j)⟩, Nat.zero_le _, fun k hk => absurd hk (Nat.not_lt_zero k), ⟨by decide, by decide, fun m hm => ?_, fun i hi => ?_, fun i m hi hm => ?_, fun i hi => ?_, by decide, by decide⟩, by decide, by decide, Nat.zero_le _, fun j hj => absurd hj (Nat.not_lt_zero j), Nat.zero_le _, fun j hj => absurd hj (Nat.not_lt_zero j), Nat.zero_le _, fun j hj => absurd hj (Nat.not_lt_zero j)⟩
  · rw [n1 m hm]; exact c4
  · rcases n2 i hi with rfl | rfl
    · exact c5
    · exact c6
  · rw [n1 m hm]
    rcases n2 i hi with rfl | rfl
    · exact c7
    · exact c8
  · rcases n2 i hi with rfl | rfl
    · exact c9
    · exact c10
  · rw [n1 m hm]; exact m6
  · rcases n2 i hi with rfl | rfl
    · exact m8
    · exact m9
  · rw [n1 m hm]
    rcases n2 i hi with rfl | rfl
    · exact m10
    · exact m11
  · rcases n2 i hi with rfl | rfl
    · exact m12
    · exact m13
  · exact ⟨by show (1 : Int) ≤ 1; decide, by show (1 : Int) ≤ 3; decide⟩
  · exact ⟨by show (0 : Int) ≤ 0; decide, by show (0 : Int) ≤ 3; decide⟩
  · show 0 ≤ (if i = 0 then (9 : Int) else 6) ∧ (if i = 0 then (9 : Int) else 6) ≤ 10
    split <;> decide
  · show 1 ≤ (if i = 0 then (8 : Int) else 5) ∧ (if i = 0 then (8 : Int) else 5) ≤ 10
    split <;> decide

