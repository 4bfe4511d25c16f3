/-! ===== sets as figures ===== -/
def bN (f : Nat → Bool) (n : Nat) : Nat := match n with
  | 0 => 0
  | n + 1 => bN f n + (if f n = true then 2 ^ n else 0)
theorem bN_lt (f : Nat → Bool) (n : Nat) : bN f n < 2 ^ n := by
  induction n with
  | zero => exact Nat.one_pos
  | succ n ih =>
    unfold bN
    have : 2 ^ (n + 1) = 2 ^ n + 2 ^ n := by rw [Nat.pow_succ]; omega
    split <;> omega
theorem orb_fin : ∀ n : Fin 5, ∀ k : Fin 16, k.val < 2 ^ n.val → orb (k.val : Int) n.val = ((k.val + 2 ^ n.val : Nat) : Int) := by decide +kernel
theorem p2_le : ∀ n : Nat, n ≤ 5 → 2 ^ n ≤ 32 := by
  intro n h
  exact Nat.pow_le_pow_right (by decide) h
theorem bitsF_bN (f : Nat → Bool) (n : Nat) (hn : n ≤ 5) : bitsF f n = (bN f n : Int) := by
  induction n with
  | zero => rfl
  | succ n ih =>
    have h1 := ih (by omega)
    have h2 := bN_lt f n
    have h3 : 2 ^ n ≤ 2 ^ 4 := Nat.pow_le_pow_right (by decide) (by omega)
    unfold bitsF bN
    rw [h1]
    split
    · exact orb_fin ⟨n, by omega⟩ ⟨bN f n, by omega⟩ h2
    · rfl
theorem bN_32 (f : Nat → Bool) (n : Nat) (hn : n ≤ 5) : bN f n < 32 := Nat.lt_of_lt_of_le (bN_lt f n) (p2_le n hn)
theorem bN_bit (f : Nat → Bool) (n : Nat) : ∀ i, i < n → bN f n / 2 ^ i % 2 = if f i = true then 1 else 0 := by
  induction n with
  | zero => intro i hi; omega
  | succ n ih =>
    intro i hi
    have h2 := bN_lt f n
    have h0 : 0 < 2 ^ n := Nat.two_pow_pos n
    unfold bN
    by_cases e : i = n
    · subst e
      split
      · rw [Nat.add_div_right _ h0, Nat.div_eq_of_lt h2]
      · rw [Nat.add_zero, Nat.div_eq_of_lt h2]
    · have h3 := ih i (by omega)
      split
      · have e2 : 2 ^ n = 2 ^ i * (2 * 2 ^ (n - i - 1)) := by
          rw [← Nat.pow_succ', ← Nat.pow_add]
          congr 1
          omega
        rw [e2, Nat.add_mul_div_left _ _ (Nat.two_pow_pos i), Nat.add_mul_mod_self_left]
        exact h3
      · rw [Nat.add_zero]
        exact h3
def pcN (k : Nat) : Nat := k % 2 + k / 2 % 2 + k / 4 % 2 + k / 8 % 2 + k / 16 % 2
theorem pcN_step : ∀ k : Fin 32, k.val ≠ 0 → ∃ q : Fin 32, q.val < k.val ∧ pcN k.val = pcN q.val + 1 ∧ (Int32.ofInt (k.val : Int) &&& Int32.ofInt ((k.val : Int) - 1)).toInt = (q.val : Int) := by decide +kernel
theorem pcN_cnt (f : Nat → Bool) (n : Nat) (hn : n ≤ 5) : (pcN (bN f n) : Int) = cnt f n := by
  have hb := bN_lt f n
  have hz : ∀ i, n ≤ i → bN f n / 2 ^ i % 2 = 0 := fun i hi => by
    rw [Nat.div_eq_of_lt (Nat.lt_of_lt_of_le hb (Nat.pow_le_pow_right (by decide) hi))]
  have hb := bN_bit f n
  have e : pcN (bN f n) = bN f n / 2 ^ 0 % 2 + bN f n / 2 ^ 1 % 2 + bN f n / 2 ^ 2 % 2 + bN f n / 2 ^ 3 % 2 + bN f n / 2 ^ 4 % 2 := by unfold pcN; simp
  rw [e]
  have hc : n = 0 ∨ n = 1 ∨ n = 2 ∨ n = 3 ∨ n = 4 ∨ n = 5 := by omega
  rcases hc with rfl | rfl | rfl | rfl | rfl | rfl
  · rw [hz 0 (by omega), hz 1 (by omega), hz 2 (by omega), hz 3 (by omega), hz 4 (by omega)]; rfl
  · rw [hb 0 (by omega), hz 1 (by omega), hz 2 (by omega), hz 3 (by omega), hz 4 (by omega)]; simp only [cnt]; cases f 0 <;> rfl
  · rw [hb 0 (by omega), hb 1 (by omega), hz 2 (by omega), hz 3 (by omega), hz 4 (by omega)]; simp only [cnt]; cases f 0 <;> cases f 1 <;> rfl
  · rw [hb 0 (by omega), hb 1 (by omega), hb 2 (by omega), hz 3 (by omega), hz 4 (by omega)]; simp only [cnt]; cases f 0 <;> cases f 1 <;> cases f 2 <;> rfl
  · rw [hb 0 (by omega), hb 1 (by omega), hb 2 (by omega), hb 3 (by omega), hz 4 (by omega)]; simp only [cnt]; cases f 0 <;> cases f 1 <;> cases f 2 <;> cases f 3 <;> rfl
  · rw [hb 0 (by omega), hb 1 (by omega), hb 2 (by omega), hb 3 (by omega), hb 4 (by omega)]; simp only [cnt]; cases f 0 <;> cases f 1 <;> cases f 2 <;> cases f 3 <;> cases f 4 <;> rfl
theorem has_fin : ∀ k : Fin 32, ∀ i : Fin 5, (Int32.ofInt (Int32.ofInt (k.val : Int) >>> (Int32.ofInt (i.val : Int) &&& 31)).toInt &&& Int32.ofInt 1).toInt = ((k.val / 2 ^ i.val % 2 : Nat) : Int) := by decide +kernel
/-- one set without another -/
def anN (a b : Nat) : Nat := a &&& (31 ^^^ b)
theorem an_fin : ∀ a : Fin 32, ∀ b : Fin 32, (Int32.ofInt (a.val : Int) &&& Int32.ofInt (Int32.ofInt (b.val : Int) ^^^ Int32.ofInt (-1)).toInt).toInt = ((anN a.val b.val : Nat) : Int) ∧ anN a.val b.val < 32 := by decide +kernel
theorem an_bit : ∀ a : Fin 32, ∀ b : Fin 32, ∀ i : Fin 5, (anN a.val b.val / 2 ^ i.val % 2 = 1) ↔ (a.val / 2 ^ i.val % 2 = 1 ∧ ¬ b.val / 2 ^ i.val % 2 = 1) := by decide +kernel
theorem bN_mem (f : Nat → Bool) (n i : Nat) (hi : i < n) : (bN f n / 2 ^ i % 2 = 1) ↔ f i = true := by
  rw [bN_bit f n i hi]
  split <;> simp_all

