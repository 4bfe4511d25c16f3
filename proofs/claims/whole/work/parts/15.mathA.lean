/-! ===== the fair, as numbers ===== -/
theorem gs_loop {X : CT} {pc : Nat} {α : Type} (L : Nat → α → List (Option PV)) (S : α → Sg) (I : Nat → α → Prop) (n : Nat) (hx : ∀ a, I n a → Gs X pc (L n a) [] (S a)) (hs : ∀ k a, k < n → I k a → (∀ a', I (k + 1) a' → Gs X pc (L (k + 1) a') [] (S a')) → Gs X pc (L k a) [] (S a)) (a : α) (h0 : I 0 a) : Gs X pc (L 0 a) [] (S a) := by
  have key : ∀ (j k : Nat) (a : α), k + j = n → I k a → Gs X pc (L k a) [] (S a) := by
    intro j
    induction j with
    | zero =>
      intro k a hk hI
      have e : k = n := by omega
      subst e
      exact hx a hI
    | succ j ih =>
      intro k a hk hI
      exact hs k a (by omega) hI (fun a' h' => ih (k + 1) a' (by omega) h')
  exact key n 0 a (by omega) h0
theorem gs_down {X : CT} {pc : Nat} {α : Type} (L : α → List (Option PV)) (S : α → Sg) (I : Nat → α → Prop) (hz : ∀ a, I 0 a → Gs X pc (L a) [] (S a)) (hs : ∀ k a, I (k + 1) a → (∀ a', I k a' → Gs X pc (L a') [] (S a')) → Gs X pc (L a) [] (S a)) (n : Nat) (a : α) (h0 : I n a) : Gs X pc (L a) [] (S a) := by
  have key : ∀ (k : Nat) (a : α), I k a → Gs X pc (L a) [] (S a) := by
    intro k
    induction k with
    | zero => exact hz
    | succ k ih => exact fun a h => hs k a h ih
  exact key n a h0
def cnt (f : Nat → Bool) (n : Nat) : Int := match n with
  | 0 => 0
  | n + 1 => cnt f n + (if f n = true then 1 else 0)
theorem cnt_le (f : Nat → Bool) (n : Nat) : 0 ≤ cnt f n ∧ cnt f n ≤ n := by
  induction n with
  | zero => exact ⟨Int.le_refl _, Int.le_refl _⟩
  | succ n ih =>
    unfold cnt
    split <;> omega
theorem cnt_congr {f g : Nat → Bool} {n : Nat} (h : ∀ i, i < n → f i = g i) : cnt f n = cnt g n := by
  induction n with
  | zero => rfl
  | succ n ih =>
    unfold cnt
    rw [ih (fun i hi => h i (by omega)), h n (by omega)]
theorem cnt_zero {f : Nat → Bool} {n : Nat} (h : ∀ i, i < n → f i = false) : cnt f n = 0 := by
  induction n with
  | zero => rfl
  | succ n ih =>
    unfold cnt
    rw [ih (fun i hi => h i (by omega)), h n (by omega)]
    rfl
/-- masters, lads, room, kind, want, limit, calls, step -/
abbrev FD : Type := Nat × Nat × (Nat → Int) × (Nat → Int) × (Nat → Nat → Int) × (Nat → Int) × Int × Int
abbrev f_nm (F : FD) : Nat := F.1
abbrev f_nl (F : FD) : Nat := F.2.1
abbrev f_rm (F : FD) : Nat → Int := F.2.2.1
abbrev f_kd (F : FD) : Nat → Int := F.2.2.2.1
abbrev f_wt (F : FD) : Nat → Nat → Int := F.2.2.2.2.1
abbrev f_lm (F : FD) : Nat → Int := F.2.2.2.2.2.1
abbrev f_ca (F : FD) : Int := F.2.2.2.2.2.2.1
abbrev f_sp (F : FD) : Int := F.2.2.2.2.2.2.2
def okF (F : FD) : Prop := f_nm F ≤ 3 ∧ f_nl F ≤ 5 ∧ (∀ m, m < f_nm F → 1 ≤ f_rm F m ∧ f_rm F m ≤ 3) ∧ (∀ i, i < f_nl F → 0 ≤ f_kd F i ∧ f_kd F i ≤ 3) ∧ (∀ i m, i < f_nl F → m < f_nm F → 0 ≤ f_wt F i m ∧ f_wt F i m ≤ 10) ∧ (∀ i, i < f_nl F → 1 ≤ f_lm F i ∧ f_lm F i ≤ 10) ∧ (0 ≤ f_ca F ∧ f_ca F ≤ 2) ∧ (1 ≤ f_sp F ∧ f_sp F ≤ 3)
def f_bnd (F : FD) (i m : Nat) : Int :=
  if f_kd F i = 1 then (if f_lm F i < f_wt F i m then f_lm F i else f_wt F i m) / 2
  else if f_kd F i = 2 then (if 5 ≤ f_wt F i m then (if f_lm F i < f_wt F i m then f_lm F i else f_wt F i m) else 0)
  else if f_kd F i = 3 then (if f_lm F i < f_wt F i m then f_lm F i else f_wt F i m) - (if f_lm F i < f_wt F i m then f_lm F i else f_wt F i m) % 2
  else (if f_lm F i < f_wt F i m then f_lm F i else f_wt F i m)
theorem f_bnd_le {F : FD} (h : okF F) {i m : Nat} (hi : i < f_nl F) (hm : m < f_nm F) : 0 ≤ f_bnd F i m ∧ f_bnd F i m ≤ 10 ∧ f_bnd F i m ≤ f_wt F i m := by
  obtain ⟨h1, h2, h3, h4, h5, h6, h7, h8⟩ := h
  have a1 := h5 i m hi hm
  have a2 := h6 i hi
  unfold f_bnd
  generalize f_wt F i m = w at *
  generalize f_lm F i = l at *
  have e : 0 ≤ (if l < w then l else w) ∧ (if l < w then l else w) ≤ 10 ∧ (if l < w then l else w) ≤ w := by split <;> omega
  generalize (if l < w then l else w) = v at *
  repeat' split
  all_goals omega
def f_bd (F : FD) (ab i m : Nat) : Int := if i = ab then 0 else f_bnd F i m
theorem f_bd_le {F : FD} (h : okF F) (ab : Nat) {i m : Nat} (hi : i < f_nl F) (hm : m < f_nm F) : 0 ≤ f_bd F ab i m ∧ f_bd F ab i m ≤ 10 ∧ f_bd F ab i m ≤ f_wt F i m := by
  have h1 := f_bnd_le h hi hm
  have h2 := h.2.2.2.2.1 i m hi hm
  unfold f_bd
  split <;> omega
def f_in (F : FD) (ab : Nat) (g : Nat → Int) (m : Nat) (p : Int) (i : Nat) : Bool := decide (g i = -4 ∧ p ≤ f_bd F ab i m)
theorem f_in_big {F : FD} (h : okF F) {ab : Nat} {g : Nat → Int} {m : Nat} {p : Int} (hm : m < f_nm F) (hp : 10 < p) : cnt (f_in F ab g m p) (f_nl F) = 0 := by
  apply cnt_zero
  intro i hi
  have := f_bd_le h ab hi hm
  unfold f_in
  simp only [decide_eq_false_iff_not]
  omega
def st1 (f : Nat → Int) (n : Nat) (v : Int) : Nat → Int := fun j => if j = n then v else f j
abbrev GY : Type := (Nat → Int) × (Nat → Int)
abbrev GYL : Type := (Nat → Int) × (Nat → Int) × Int
/-- the lowest of S, below n, get m for p years, as long as there is room -/
def grant (S : Nat → Bool) (m p : Int) (n : Nat) (q : GYL) : GYL := match n with
  | 0 => q
  | n + 1 => if S n = true ∧ 0 < (grant S m p n q).2.2 then (st1 (grant S m p n q).1 n m, st1 (grant S m p n q).2.1 n p, (grant S m p n q).2.2 - 1) else grant S m p n q
theorem grant_hi (S : Nat → Bool) (m p : Int) (n : Nat) (q : GYL) : ∀ j, n ≤ j → (grant S m p n q).1 j = q.1 j ∧ (grant S m p n q).2.1 j = q.2.1 j := by
  induction n with
  | zero => intro j _; exact ⟨rfl, rfl⟩
  | succ n ih =>
    intro j hj
    have h := ih j (by omega)
    unfold grant
    split
    · simp only [st1]
      rw [if_neg (by omega), if_neg (by omega)]
      exact h
    · exact h
theorem grant_cases (S : Nat → Bool) (m p : Int) (n : Nat) (q : GYL) : ∀ j, ((grant S m p n q).1 j = q.1 j ∧ (grant S m p n q).2.1 j = q.2.1 j) ∨ (j < n ∧ S j = true ∧ (grant S m p n q).1 j = m ∧ (grant S m p n q).2.1 j = p) := by
  induction n with
  | zero => intro j; exact Or.inl ⟨rfl, rfl⟩
  | succ n ih =>
    intro j
    unfold grant
    split
    · rename_i hc
      simp only [st1]
      by_cases e : j = n
      · subst e
        right
        rw [if_pos rfl, if_pos rfl]
        exact ⟨by omega, hc.1, rfl, rfl⟩
      · rw [if_neg e, if_neg e]
        rcases ih j with h | h
        · exact Or.inl h
        · exact Or.inr ⟨by omega, h.2⟩
    · rcases ih j with h | h
      · exact Or.inl h
      · exact Or.inr ⟨by omega, h.2⟩
theorem grant_left (S : Nat → Bool) (m p : Int) (n : Nat) (q : GYL) (h : 0 ≤ q.2.2) : 0 ≤ (grant S m p n q).2.2 ∧ (grant S m p n q).2.2 ≤ q.2.2 := by
  induction n with
  | zero => exact ⟨h, Int.le_refl _⟩
  | succ n ih =>
    unfold grant
    split
    · rename_i hc
      have := hc.2
      show 0 ≤ _ - 1 ∧ _ - 1 ≤ _
      omega
    · exact ih
theorem grant_stop (S : Nat → Bool) (m p : Int) (q : GYL) (k : Nat) (h : (grant S m p k q).2.2 ≤ 0) : ∀ n, k ≤ n → grant S m p n q = grant S m p k q := by
  intro n
  induction n with
  | zero =>
    intro hk
    have e : k = 0 := by omega
    subst e
    rfl
  | succ n ih =>
    intro hk
    by_cases e : k = n + 1
    · subst e; rfl
    · have h1 := ih (by omega)
      rw [grant, h1, if_neg (by omega)]
theorem grant_congr {S S' : Nat → Bool} {m p : Int} {n : Nat} {q : GYL} (h : ∀ i, i < n → S i = S' i) : grant S m p n q = grant S' m p n q := by
  induction n with
  | zero => rfl
  | succ n ih =>
    unfold grant
    rw [ih (fun i hi => h i (by omega)), h n (by omega)]
theorem grant_empty {S : Nat → Bool} {m p : Int} {n : Nat} {q : GYL} (h : ∀ i, i < n → S i = false) : grant S m p n q = q := by
  induction n with
  | zero => rfl
  | succ n ih =>
    unfold grant
    rw [ih (fun i hi => h i (by omega)), if_neg]
    rw [h n (by omega)]
    simp
theorem grant_all (S : Nat → Bool) (m p : Int) (q : GYL) : ∀ n, cnt S n ≤ q.2.2 → (grant S m p n q).2.2 = q.2.2 - cnt S n ∧ ∀ j, j < n → (grant S m p n q).1 j = if S j = true then m else q.1 j := by
  intro n
  induction n with
  | zero =>
    intro _
    exact ⟨by simp [grant, cnt], fun j hj => by omega⟩
  | succ n ih =>
    intro h
    have hc := cnt_le S n
    have e : cnt S (n + 1) = cnt S n + (if S n = true then 1 else 0) := rfl
    by_cases hS : S n = true
    · rw [if_pos hS] at e
      obtain ⟨h1, h2⟩ := ih (by omega)
      have hpos : 0 < (grant S m p n q).2.2 := by omega
      rw [grant, if_pos ⟨hS, hpos⟩]
      refine ⟨by show _ - 1 = _; omega, fun j hj => ?_⟩
      show st1 _ n m j = _
      unfold st1
      by_cases ej : j = n
      · subst ej
        rw [if_pos rfl, if_pos hS]
      · rw [if_neg ej]
        exact h2 j (by omega)
    · rw [if_neg hS] at e
      obtain ⟨h1, h2⟩ := ih (by omega)
      rw [grant, if_neg (fun hh => hS hh.1)]
      refine ⟨by omega, fun j hj => ?_⟩
      by_cases ej : j = n
      · subst ej
        rw [if_neg hS]
        exact (grant_hi S m p j q j (Nat.le_refl _)).1
      · exact h2 j (by omega)
/-- the years at which the calls from below end -/
def f_pB (F : FD) (ab : Nat) (g : Nat → Int) (m : Nat) (n : Nat) (p : Int) : Int := match n with
  | 0 => p
  | n + 1 => if cnt (f_in F ab g m p) (f_nl F) ≤ f_rm F m then p else f_pB F ab g m n (p + f_sp F)
theorem f_pB_ge {F : FD} (h : okF F) (ab : Nat) (g : Nat → Int) (m n : Nat) : ∀ p, f_pB F ab g m n p = p ∨ p + f_sp F ≤ f_pB F ab g m n p := by
  have hs := h.2.2.2.2.2.2.2
  induction n with
  | zero => intro p; exact Or.inl rfl
  | succ n ih =>
    intro p
    unfold f_pB
    split
    · exact Or.inl rfl
    · rcases ih (p + f_sp F) with e | e <;> omega
theorem f_pB_cnt {F : FD} (h : okF F) (ab : Nat) (g : Nat → Int) {m : Nat} (hm : m < f_nm F) (n : Nat) : ∀ p : Int, 12 ≤ p + n → cnt (f_in F ab g m (f_pB F ab g m n p)) (f_nl F) ≤ f_rm F m := by
  have hs := h.2.2.2.2.2.2.2
  have hr := h.2.2.1 m hm
  induction n with
  | zero =>
    intro p hp
    show cnt (f_in F ab g m p) _ ≤ _
    rw [f_in_big h hm (by omega)]
    omega
  | succ n ih =>
    intro p hp
    unfold f_pB
    split
    · assumption
    · exact ih _ (by omega)
theorem f_pB_le {F : FD} (h : okF F) (ab : Nat) (g : Nat → Int) {m : Nat} (hm : m < f_nm F) (n : Nat) : ∀ p : Int, p ≤ 13 → f_pB F ab g m n p ≤ 13 := by
  have hs := h.2.2.2.2.2.2.2
  have hr := h.2.2.1 m hm
  induction n with
  | zero => intro p hp; exact hp
  | succ n ih =>
    intro p hp
    unfold f_pB
    split
    · exact hp
    · rename_i hc
      refine ih _ ?_
      by_cases e : 10 < p
      · rw [f_in_big h hm e] at hc
        omega
      · omega
def f_end (F : FD) (ab : Nat) (g : Nat → Int) (m : Nat) : Int := f_pB F ab g m 11 1
def f_bel1 (F : FD) (ab m : Nat) (w : GY) : GYL := grant (f_in F ab w.1 m (f_end F ab w.1 m)) m (f_end F ab w.1 m) (f_nl F) (w.1, w.2, f_rm F m)
def f_bel (F : FD) (ab m : Nat) (w : GY) : GYL :=
  if 1 < f_end F ab w.1 m then grant (fun i => f_in F ab w.1 m (f_end F ab w.1 m - f_sp F) i && !f_in F ab w.1 m (f_end F ab w.1 m) i) m (f_end F ab w.1 m - f_sp F) (f_nl F) (f_bel1 F ab m w) else f_bel1 F ab m w
def f_abv (F : FD) (ab m : Nat) (s : Int) (n : Nat) (q : GYL) : GYL := match n with
  | 0 => q
  | n + 1 => if 1 ≤ 10 - n * s then grant (f_in F ab (f_abv F ab m s n q).1 m (10 - n * s)) m (10 - n * s) (f_nl F) (f_abv F ab m s n q) else f_abv F ab m s n q
def f_one (F : FD) (ab m : Nat) (w : GY) : GY :=
  if f_ca F = 0 then ((f_bel F ab m w).1, (f_bel F ab m w).2.1)
  else ((f_abv F ab m (if f_ca F = 1 then f_sp F else 1) 10 (w.1, w.2, f_rm F m)).1, (f_abv F ab m (if f_ca F = 1 then f_sp F else 1) 10 (w.1, w.2, f_rm F m)).2.1)
def f_fair (F : FD) (ab : Nat) (n : Nat) : GY := match n with
  | 0 => (fun _ => -4, fun _ => 0)
  | n + 1 => f_one F ab n (f_fair F ab n)
/-- every lad has nobody, or one of the masters called, for at most his bound -/
def wOK (F : FD) (ab n : Nat) (w : GY) : Prop := ∀ i, (w.1 i = -4 ∧ w.2 i = 0) ∨ ∃ m, m < n ∧ i < f_nl F ∧ w.1 i = (m : Int) ∧ 1 ≤ w.2 i ∧ w.2 i ≤ f_bd F ab i m
theorem wOK_grant {F : FD} {ab m : Nat} {S : Nat → Bool} {p : Int} {q : GYL} (hp : 1 ≤ p) (hS : ∀ i, i < f_nl F → S i = true → p ≤ f_bd F ab i m) (h : wOK F ab (m + 1) (q.1, q.2.1)) : wOK F ab (m + 1) ((grant S m p (f_nl F) q).1, (grant S m p (f_nl F) q).2.1) := by
  intro i
  rcases grant_cases S m p (f_nl F) q i with ⟨h1, h2⟩ | ⟨h1, h2, h3, h4⟩
  · have h0 := h i
    simp only [h1, h2]
    exact h0
  · right
    refine ⟨m, by omega, h1, h3, ?_, ?_⟩
    · show 1 ≤ (grant S m p (f_nl F) q).2.1 i
      omega
    · show (grant S m p (f_nl F) q).2.1 i ≤ _
      have := hS i h1 h2
      omega
theorem wOK_mono {F : FD} {ab n n' : Nat} {w : GY} (h : wOK F ab n w) (hn : n ≤ n') : wOK F ab n' w := fun i => (h i).elim Or.inl (fun ⟨m, h1, h2⟩ => Or.inr ⟨m, by omega, h2⟩)
theorem f_in_bd {F : FD} {ab : Nat} {g : Nat → Int} {m : Nat} {p : Int} {i : Nat} (h : f_in F ab g m p i = true) : g i = -4 ∧ p ≤ f_bd F ab i m := by
  unfold f_in at h
  simpa using h
theorem wOK_bel {F : FD} (hF : okF F) {ab m : Nat} {w : GY} (h : wOK F ab m w) : wOK F ab (m + 1) ((f_bel F ab m w).1, (f_bel F ab m w).2.1) := by
  have h1 : 1 ≤ f_end F ab w.1 m := by
    have := hF.2.2.2.2.2.2.2
    rcases f_pB_ge hF ab w.1 m 11 1 with e | e <;> (unfold f_end; omega)
  have hb : wOK F ab (m + 1) ((f_bel1 F ab m w).1, (f_bel1 F ab m w).2.1) := wOK_grant h1 (fun i _ hi => (f_in_bd hi).2) (wOK_mono h (by omega))
  unfold f_bel
  split
  · refine wOK_grant ?_ (fun i _ hi => ?_) hb
    · rcases f_pB_ge hF ab w.1 m 11 1 with e | e
      · rename_i hc
        unfold f_end at hc
        omega
      · unfold f_end
        omega
    · rw [Bool.and_eq_true] at hi
      exact (f_in_bd hi.1).2
  · exact hb
theorem wOK_abv {F : FD} {ab m : Nat} {s : Int} {q : GYL} (h : wOK F ab (m + 1) (q.1, q.2.1)) : ∀ n, wOK F ab (m + 1) ((f_abv F ab m s n q).1, (f_abv F ab m s n q).2.1) := by
  intro n
  induction n with
  | zero => exact h
  | succ n ih =>
    unfold f_abv
    split
    · rename_i hc
      exact wOK_grant hc (fun i _ hi => (f_in_bd hi).2) ih
    · exact ih
theorem wOK_fair {F : FD} (hF : okF F) (ab : Nat) : ∀ n, wOK F ab n (f_fair F ab n) := by
  intro n
  induction n with
  | zero => intro i; exact Or.inl ⟨rfl, rfl⟩
  | succ n ih =>
    unfold f_fair f_one
    split
    · exact wOK_bel hF ih
    · exact wOK_abv (q := ((f_fair F ab n).1, (f_fair F ab n).2, f_rm F n)) (wOK_mono ih (by omega)) 10

