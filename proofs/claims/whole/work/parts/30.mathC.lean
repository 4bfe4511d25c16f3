/-! ===== ways as figures: lad 0 the highest, nm masters mean none ===== -/
def allB (f : Nat → Bool) (n : Nat) : Bool := match n with
  | 0 => true
  | n + 1 => allB f n && f n
theorem allB_iff {f : Nat → Bool} {n : Nat} : allB f n = true ↔ ∀ i, i < n → f i = true := by
  induction n with
  | zero => exact ⟨fun _ i h => by omega, fun _ => rfl⟩
  | succ n ih =>
    unfold allB
    rw [Bool.and_eq_true, ih]
    constructor
    · intro h i hi
      by_cases e : i = n
      · subst e; exact h.2
      · exact h.1 i (by omega)
    · exact fun h => ⟨fun i hi => h i (by omega), h n (by omega)⟩
abbrev f_bs (F : FD) : Nat := f_nm F + 1
def dgp (B i p j : Nat) : Nat := p / B ^ (i - 1 - j) % B
theorem dgp_last (B i p : Nat) : dgp B (i + 1) p i = p % B := by
  unfold dgp
  rw [show i + 1 - 1 - i = 0 by omega, Nat.pow_zero, Nat.div_one]
theorem dgp_succ (B i p : Nat) {j : Nat} (h : j < i) : dgp B (i + 1) p j = dgp B i (p / B) j := by
  unfold dgp
  rw [show i + 1 - 1 - j = (i - 1 - j) + 1 by omega, Nat.pow_succ, Nat.mul_comm, Nat.div_div_eq_div_mul]
theorem dgp_lt (F : FD) (i p j : Nat) : dgp (f_bs F) i p j ≤ f_nm F := by
  exact Nat.le_of_lt_succ (Nat.mod_lt _ (Nat.succ_pos _))
def tm (F : FD) (j x : Nat) : Int := if x = f_nm F then 0 else f_wt F j x
def vlp (F : FD) (i p : Nat) : Int := sumF (fun j => tm F j (dgp (f_bs F) i p j)) i
theorem vlp_succ (F : FD) (i p : Nat) : vlp F (i + 1) p = vlp F i (p / f_bs F) + tm F i (p % f_bs F) := by
  unfold vlp
  rw [sumF, dgp_last]
  congr 1
  apply sumF_congr
  intro j hj
  rw [dgp_succ _ _ _ hj]
def cnd (F : FD) (i p m : Nat) : Int := cnt (fun j => decide (dgp (f_bs F) i p j = m)) i
theorem cnd_succ (F : FD) (i p m : Nat) : cnd F (i + 1) p m = cnd F i (p / f_bs F) m + (if p % f_bs F = m then 1 else 0) := by
  unfold cnd
  rw [cnt, dgp_last]
  congr 1
  · apply cnt_congr
    intro j hj
    rw [dgp_succ _ _ _ hj]
  · by_cases h : p % f_bs F = m
    · rw [if_pos h, if_pos (decide_eq_true h)]
    · rw [if_neg h, if_neg (by rw [decide_eq_false h]; decide)]
def fsB (F : FD) (ab i p : Nat) : Bool := allB (fun m => decide (cnd F i p m ≤ f_rm F m)) (f_nm F) && (decide (i ≤ ab) || decide (dgp (f_bs F) i p ab = f_nm F))
theorem fsB_iff {F : FD} {ab i p : Nat} : fsB F ab i p = true ↔ (∀ m, m < f_nm F → cnd F i p m ≤ f_rm F m) ∧ (ab < i → dgp (f_bs F) i p ab = f_nm F) := by
  unfold fsB
  rw [Bool.and_eq_true, allB_iff, Bool.or_eq_true, decide_eq_true_eq, decide_eq_true_eq]
  constructor
  · intro ⟨h1, h2⟩
    exact ⟨fun m hm => of_decide_eq_true (h1 m hm), fun h => h2.resolve_left (by omega)⟩
  · intro ⟨h1, h2⟩
    refine ⟨fun m hm => decide_eq_true (h1 m hm), ?_⟩
    by_cases h : ab < i
    · exact Or.inr (h2 h)
    · exact Or.inl (by omega)
theorem fsB_pre {F : FD} {ab i p : Nat} (h : fsB F ab (i + 1) p = true) : fsB F ab i (p / f_bs F) = true := by
  rw [fsB_iff] at h ⊢
  refine ⟨fun m hm => ?_, fun ha => ?_⟩
  · have := h.1 m hm
    rw [cnd_succ] at this
    split at this <;> omega
  · rw [← dgp_succ _ _ _ ha]
    exact h.2 (by omega)
theorem fsB_up {F : FD} {ab i r x : Nat} : fsB F ab (i + r) x = true → fsB F ab i (x / f_bs F ^ r) = true := by
  induction r generalizing x with
  | zero => intro h; rw [Nat.pow_zero, Nat.div_one]; exact h
  | succ r ih =>
    intro h
    have h1 := ih (fsB_pre (i := i + r) h)
    rw [Nat.div_div_eq_div_mul, Nat.mul_comm, ← Nat.pow_succ] at h1
    exact h1
def mwN (F : FD) (i n : Nat) : Int := match n with
  | 0 => 0
  | n + 1 => if mwN F i n < f_wt F i n then f_wt F i n else mwN F i n
theorem mwN_ge (F : FD) (i n : Nat) : 0 ≤ mwN F i n ∧ ∀ m, m < n → f_wt F i m ≤ mwN F i n := by
  induction n with
  | zero => exact ⟨Int.le_refl _, fun m hm => by omega⟩
  | succ n ih =>
    unfold mwN
    split
    · refine ⟨by omega, fun m hm => ?_⟩
      by_cases e : m = n
      · subst e; exact Int.le_refl _
      · have := ih.2 m (by omega); omega
    · refine ⟨ih.1, fun m hm => ?_⟩
      by_cases e : m = n
      · subst e; omega
      · exact ih.2 m (by omega)
theorem mwN_le {F : FD} (ok : okF F) {i : Nat} (hi : i < f_nl F) : ∀ n, n ≤ f_nm F → mwN F i n ≤ 10 := by
  intro n
  induction n with
  | zero => intro _; show (0 : Int) ≤ 10; decide
  | succ n ih =>
    intro hn
    have := ok.2.2.2.2.1 i n hi (by omega)
    have := ih (by omega)
    unfold mwN
    split <;> omega
def hw (F : FD) (ab i : Nat) : Int := if i = ab then 0 else mwN F i (f_nm F)
def hopR (F : FD) (ab r : Nat) : Int := match r with
  | 0 => 0
  | r + 1 => hopR F ab r + hw F ab (f_nl F - (r + 1))
theorem hw_le {F : FD} (ok : okF F) (ab : Nat) {i : Nat} (hi : i < f_nl F) : 0 ≤ hw F ab i ∧ hw F ab i ≤ 10 := by
  have h1 := (mwN_ge F i (f_nm F)).1
  have h2 := mwN_le ok hi (f_nm F) (Nat.le_refl _)
  unfold hw
  split <;> omega
theorem hopR_le {F : FD} (ok : okF F) (ab : Nat) : ∀ r, r ≤ f_nl F → 0 ≤ hopR F ab r ∧ hopR F ab r ≤ 10 * r := by
  intro r
  induction r with
  | zero => intro _; exact ⟨Int.le_refl _, Int.le_refl _⟩
  | succ r ih =>
    intro hr
    have := ih (by omega)
    have := hw_le ok ab (show f_nl F - (r + 1) < f_nl F by omega)
    unfold hopR
    omega
theorem tm_le {F : FD} (ok : okF F) {j x : Nat} (hj : j < f_nl F) (hx : x ≤ f_nm F) : 0 ≤ tm F j x ∧ tm F j x ≤ 10 := by
  unfold tm
  split
  · omega
  · exact ok.2.2.2.2.1 j x hj (by omega)
theorem vlp_le {F : FD} (ok : okF F) : ∀ i p, i ≤ f_nl F → 0 ≤ vlp F i p ∧ vlp F i p ≤ 10 * i := by
  intro i p hi
  unfold vlp
  exact sumF_le (fun j hj => tm_le ok (by omega) (dgp_lt F i p j))
/-- whatever comes behind a way's first lads wants no more than what is hoped for -/
theorem vlp_hope {F : FD} {ab i r x : Nat} (hn : i + r = f_nl F) (hf : fsB F ab (i + r) x = true) : vlp F (i + r) x ≤ vlp F i (x / f_bs F ^ r) + hopR F ab r := by
  induction r generalizing x i with
  | zero => rw [Nat.pow_zero, Nat.div_one]; show vlp F i x ≤ vlp F i x + 0; omega
  | succ r ih =>
    have h1 := ih (i := i + 1) (x := x) (by omega) (by rw [show i + 1 + r = i + (r + 1) by omega]; exact hf)
    rw [show i + 1 + r = i + (r + 1) by omega] at h1
    rw [vlp_succ] at h1
    have h2 : x / f_bs F ^ r / f_bs F = x / f_bs F ^ (r + 1) := by rw [Nat.div_div_eq_div_mul, ← Nat.pow_succ]
    rw [h2] at h1
    have h3 : tm F i (x / f_bs F ^ r % f_bs F) ≤ hw F ab i := by
      have hlt : x / f_bs F ^ r % f_bs F ≤ f_nm F := Nat.le_of_lt_succ (Nat.mod_lt _ (Nat.succ_pos _))
      unfold tm hw
      by_cases ea : i = ab
      · have hp := fsB_up (i := i + 1) (r := r) (x := x) (F := F) (ab := ab) (by rw [show i + 1 + r = i + (r + 1) by omega]; exact hf)
        have := (fsB_iff.mp hp).2 (by omega)
        rw [← ea, dgp_last] at this
        rw [if_pos this, if_pos ea]
        exact Int.le_refl _
      · rw [if_neg ea]
        have hm := mwN_ge F i (f_nm F)
        split
        · exact hm.1
        · exact hm.2 _ (by omega)
    have h4 : hopR F ab (r + 1) = hopR F ab r + hw F ab i := by
      show hopR F ab r + hw F ab (f_nl F - (r + 1)) = _
      rw [show f_nl F - (r + 1) = i by omega]
    omega
/-- the best of the ways below c: what it wants, which -/
def wB (F : FD) (ab c : Nat) : Int × Nat := match c with
  | 0 => (-1, 0)
  | c + 1 => if fsB F ab (f_nl F) c = true ∧ (wB F ab c).1 < vlp F (f_nl F) c then (vlp F (f_nl F) c, c) else wB F ab c
theorem wB_skip {F : FD} {ab lo : Nat} : ∀ n, (∀ x, lo ≤ x → x < lo + n → ¬ (fsB F ab (f_nl F) x = true ∧ (wB F ab lo).1 < vlp F (f_nl F) x)) → wB F ab (lo + n) = wB F ab lo := by
  intro n
  induction n with
  | zero => intro _; rfl
  | succ n ih =>
    intro h
    have h1 := ih (fun x h2 h3 => h x h2 (by omega))
    show wB F ab (lo + n + 1) = _
    rw [wB, h1, if_neg]
    exact h (lo + n) (by omega) (by omega)
theorem wB_le {F : FD} (ok : okF F) (ab : Nat) : ∀ c, -1 ≤ (wB F ab c).1 ∧ (wB F ab c).1 ≤ 50 := by
  have h5 := ok.2.1
  intro c
  induction c with
  | zero => exact ⟨Int.le_refl _, by show (-1 : Int) ≤ 50; decide⟩
  | succ c ih =>
    have := vlp_le ok (f_nl F) c (Nat.le_refl _)
    unfold wB
    split
    · show -1 ≤ vlp F (f_nl F) c ∧ vlp F (f_nl F) c ≤ 50
      omega
    · exact ih
theorem rng_div {B r p x : Nat} (h1 : p * B ^ r ≤ x) (h2 : x < (p + 1) * B ^ r) : x / B ^ r = p := by
  have hB : 0 < B ^ r := by
    rcases Nat.eq_zero_or_pos (B ^ r) with h | h
    · rw [h, Nat.mul_zero] at h2; omega
    · exact h
  exact Nat.div_eq_of_lt_le h1 h2
theorem rng_len (B r p : Nat) : (p + 1) * B ^ r = p * B ^ r + B ^ r := by rw [Nat.add_mul, Nat.one_mul]
/-- a part of the ways that can't be, or can't be better, is passed over -/
theorem wB_cut {F : FD} {ab i r p : Nat} (hn : i + r = f_nl F) (h : fsB F ab i p = true → vlp F i p + hopR F ab r ≤ (wB F ab (p * f_bs F ^ r)).1) : wB F ab ((p + 1) * f_bs F ^ r) = wB F ab (p * f_bs F ^ r) := by
  rw [rng_len]
  apply wB_skip
  intro x h1 h2 ⟨h3, h4⟩
  have e := rng_div (B := f_bs F) (r := r) (p := p) h1 (by rw [rng_len]; exact h2)
  rw [← hn] at h3 h4
  have h5 := fsB_up h3
  have h6 := vlp_hope hn h3
  rw [e] at h5 h6
  have := h h5
  omega

