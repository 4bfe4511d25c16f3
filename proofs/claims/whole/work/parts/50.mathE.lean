/-! ===== the best way is at rest by all years by which some way is ===== -/
theorem wB_spec (F : FD) (ab : Nat) : ∀ c, (((wB F ab c).1 = -1 ∧ (wB F ab c).2 = 0) ∨ ((wB F ab c).2 < c ∧ fsB F ab (f_nl F) (wB F ab c).2 = true ∧ (wB F ab c).1 = vlp F (f_nl F) (wB F ab c).2)) ∧ ∀ x, x < c → fsB F ab (f_nl F) x = true → vlp F (f_nl F) x ≤ (wB F ab c).1 := by
  intro c
  induction c with
  | zero => exact ⟨Or.inl ⟨rfl, rfl⟩, fun x hx => absurd hx (Nat.not_lt_zero x)⟩
  | succ c ih =>
    obtain ⟨h1, h2⟩ := ih
    unfold wB
    split
    · rename_i hc
      refine ⟨Or.inr ⟨Nat.lt_succ_self c, hc.1, rfl⟩, fun x hx hf => ?_⟩
      show _ ≤ vlp F (f_nl F) c
      by_cases e : x = c
      · subst e; exact Int.le_refl _
      · have := h2 x (by omega) hf
        omega
    · rename_i hc
      refine ⟨?_, fun x hx hf => ?_⟩
      · rcases h1 with h1 | ⟨h3, h4⟩
        · exact Or.inl h1
        · exact Or.inr ⟨by omega, h4⟩
      · by_cases e : x = c
        · subst e
          exact Int.not_lt.mp (fun hh => hc ⟨hf, hh⟩)
        · exact h2 x (by omega) hf
theorem sumF_mono {a b : Nat → Int} {n : Nat} (h : ∀ i, i < n → a i ≤ b i) : sumF a n ≤ sumF b n := by
  induction n with
  | zero => exact Int.le_refl _
  | succ n ih =>
    have := ih (fun i hi => h i (by omega))
    have := h n (by omega)
    unfold sumF
    omega
theorem sumF_eq {a b : Nat → Int} {n : Nat} (h : ∀ i, i < n → a i ≤ b i) (hs : sumF b n ≤ sumF a n) : ∀ i, i < n → a i = b i := by
  induction n with
  | zero => intro i hi; omega
  | succ n ih =>
    have h1 := sumF_mono (n := n) (fun i hi => h i (by omega))
    have h2 := h n (by omega)
    unfold sumF at hs
    intro i hi
    by_cases e : i = n
    · subst e; omega
    · exact ih (fun i hi => h i (by omega)) (by omega) i (by omega)
theorem sumF_add (a b : Nat → Int) (n : Nat) : sumF (fun i => a i + b i) n = sumF a n + sumF b n := by
  induction n with
  | zero => rfl
  | succ n ih =>
    unfold sumF
    rw [ih]
    omega
theorem sumF_pt (p : Nat → Int) (x : Nat) : ∀ n, sumF (fun m => p m * (if decide (x = m) = true then 1 else 0)) n = if x < n then p x else 0 := by
  intro n
  induction n with
  | zero => rfl
  | succ n ih =>
    unfold sumF
    rw [ih]
    by_cases e : x = n
    · subst e
      rw [if_neg (show ¬ x < x by omega), if_pos (show x < x + 1 by omega), decide_eq_true (show x = x from rfl), if_pos rfl]
      omega
    · rw [decide_eq_false e, if_neg (show ¬ (false = true) by decide), Int.mul_zero, Int.add_zero]
      by_cases e2 : x < n
      · rw [if_pos e2, if_pos (by omega)]
      · rw [if_neg e2, if_neg (by omega)]
theorem sumF_sw (p : Nat → Int) (d : Nat → Nat) (nm : Nat) : ∀ n, sumF (fun i => if d i < nm then p (d i) else 0) n = sumF (fun m => p m * cnt (fun j => decide (d j = m)) n) nm := by
  intro n
  induction n with
  | zero =>
    have : ∀ k, sumF (fun m => p m * cnt (fun j => decide (d j = m)) 0) k = 0 := by
      intro k
      induction k with
      | zero => rfl
      | succ k ih =>
        unfold sumF
        rw [ih]
        show 0 + p k * 0 = 0
        omega
    rw [this]
    rfl
  | succ n ih =>
    have e1 : sumF (fun i => if d i < nm then p (d i) else 0) (n + 1) = sumF (fun i => if d i < nm then p (d i) else 0) n + (if d n < nm then p (d n) else 0) := rfl
    rw [e1, ih, ← sumF_pt p (d n) nm, ← sumF_add]
    apply sumF_congr
    intro m _
    have e2 : cnt (fun j => decide (d j = m)) (n + 1) = cnt (fun j => decide (d j = m)) n + (if decide (d n = m) = true then 1 else 0) := rfl
    rw [e2, Int.mul_add]
theorem vlp_own (F : FD) (pr : Nat → Int) (x : Nat) : vlp F (f_nl F) x = sumF (fun i => own F pr i (dgp (f_bs F) (f_nl F) x i)) (f_nl F) + sumF (fun m => pr m * cnd F (f_nl F) x m) (f_nm F) := by
  have e := sumF_sw pr (fun j => dgp (f_bs F) (f_nl F) x j) (f_nm F) (f_nl F)
  show _ = _ + sumF (fun m => pr m * cnt (fun j => decide (dgp (f_bs F) (f_nl F) x j = m)) (f_nl F)) (f_nm F)
  rw [← e, ← sumF_add]
  unfold vlp
  apply sumF_congr
  intro i _
  have hl := dgp_lt F (f_nl F) x i
  unfold tm own
  by_cases h : dgp (f_bs F) (f_nl F) x i = f_nm F
  · rw [if_pos h, if_pos h, if_neg (by omega)]
    rfl
  · rw [if_neg h, if_neg h, if_pos (by omega)]
    omega
theorem arB_iff {F : FD} {x : Nat} {pr : Nat → Int} : arB F x pr = true ↔ (∀ m, m < f_nm F → pr m ≤ 0 ∨ cnd F (f_nl F) x m = f_rm F m) ∧ ∀ i, i < f_nl F → 0 ≤ own F pr i (dgp (f_bs F) (f_nl F) x i) ∧ ∀ m, m < f_nm F → f_wt F i m - pr m ≤ own F pr i (dgp (f_bs F) (f_nl F) x i) := by
  unfold arB
  rw [Bool.and_eq_true, allB_iff, allB_iff]
  constructor
  · intro ⟨h1, h2⟩
    refine ⟨fun m hm => of_decide_eq_true (h1 m hm), fun i hi => ?_⟩
    have := h2 i hi
    unfold ctB at this
    rw [Bool.and_eq_true, allB_iff] at this
    exact ⟨of_decide_eq_true this.1, fun m hm => of_decide_eq_true (this.2 m hm)⟩
  · intro ⟨h1, h2⟩
    refine ⟨fun m hm => decide_eq_true (h1 m hm), fun i hi => ?_⟩
    unfold ctB
    rw [Bool.and_eq_true, allB_iff]
    exact ⟨decide_eq_true (h2 i hi).1, fun m hm => decide_eq_true ((h2 i hi).2 m hm)⟩
theorem xJ_spec {F : FD} (ok : okF F) : xJ F < f_bs F ^ f_nl F ∧ fsB F 99 (f_nl F) (xJ F) = true ∧ ∀ x, x < f_bs F ^ f_nl F → fsB F 99 (f_nl F) x = true → vlp F (f_nl F) x ≤ vlp F (f_nl F) (xJ F) := by
  have hp := wB_pos ok 99
  obtain ⟨h1, h2⟩ := wB_spec F 99 (f_bs F ^ f_nl F)
  rcases h1 with h1 | ⟨h3, h4, h5⟩
  · omega
  · exact ⟨h3, h4, fun x hx hf => by have := h2 x hx hf; rw [h5] at this; exact this⟩
theorem dual {F : FD} (ok : okF F) {pr : Nat → Int} (hpr : ∀ m, m < f_nm F → 0 ≤ pr m) {c : Nat} (hc : c < f_bs F ^ f_nl F) (hf : fsB F 99 (f_nl F) c = true) (ha : arB F c pr = true) : arB F (xJ F) pr = true := by
  obtain ⟨x1, x2, x3⟩ := xJ_spec ok
  have hv := x3 c hc hf
  rw [vlp_own F pr c, vlp_own F pr (xJ F)] at hv
  rw [arB_iff] at ha ⊢
  obtain ⟨a1, a2⟩ := ha
  have hfx := (fsB_iff.mp x2).1
  have o1 : ∀ i, i < f_nl F → own F pr i (dgp (f_bs F) (f_nl F) (xJ F) i) ≤ own F pr i (dgp (f_bs F) (f_nl F) c i) := by
    intro i hi
    obtain ⟨b1, b2⟩ := a2 i hi
    have hl := dgp_lt F (f_nl F) (xJ F) i
    generalize own F pr i (dgp (f_bs F) (f_nl F) c i) = v at b1 b2
    unfold own
    split
    · exact b1
    · exact b2 _ (by omega)
  have o2 : ∀ m, m < f_nm F → pr m * cnd F (f_nl F) (xJ F) m ≤ pr m * cnd F (f_nl F) c m := by
    intro m hm
    rcases a1 m hm with b | b
    · have : pr m = 0 := by have := hpr m hm; omega
      rw [this]
      omega
    · rw [b]
      exact Int.mul_le_mul_of_nonneg_left (hfx m hm) (hpr m hm)
  have s1 := sumF_mono o1
  have s2 := sumF_mono o2
  have e1 := sumF_eq o1 (by omega)
  have e2 := sumF_eq o2 (by omega)
  refine ⟨fun m hm => ?_, fun i hi => ?_⟩
  · have hp := hpr m hm
    by_cases hz : pr m = 0
    · exact Or.inl (by omega)
    · have h1 := e2 m hm
      have h2 : cnd F (f_nl F) (xJ F) m = cnd F (f_nl F) c m := Int.eq_of_mul_eq_mul_left hz h1
      rcases a1 m hm with b | b
      · exact Or.inl b
      · exact Or.inr (by rw [h2]; exact b)
  · have := e1 i hi
    rw [this]
    exact a2 i hi

