/-! ===== the pure layer: ints as Int, the heap as a table of cells, one fixed lay-out ===== -/
abbrev Sg : Type := Nat → Int → Int
abbrev PV : Type := Int ⊕ (Int ⊕ Nat)
abbrev vI (z : Int) : PV := .inl z
abbrev vL (z : Int) : PV := .inr (.inl z)
abbrev vR (k : Nat) : PV := .inr (.inr k)
abbrev inR (z : Int) : Prop := -2147483648 ≤ z ∧ z ≤ 2147483647
abbrev inL (z : Int) : Prop := -9223372036854775808 ≤ z ∧ z ≤ 9223372036854775807
def tV (ad : Nat → Nat) (v : PV) : Value := match v with
  | .inl z => .int (Int32.ofInt z)
  | .inr (.inl z) => .long (Int64.ofInt z)
  | .inr (.inr k) => .ref (ad k)
def okP (v : PV) : Prop := match v with
  | .inl z => inR z
  | .inr (.inl z) => inL z
  | .inr (.inr _) => True
def pcat (v : PV) : Nat := match v with
  | .inl _ => 1
  | .inr (.inl _) => 2
  | .inr (.inr _) => 1
theorem pcat_eq (ad : Nat → Nat) (v : PV) : (tV ad v).category = pcat v := by
  rcases v with z | z | k <;> rfl
/-- a cell of the lay-out: (0, its class, 0, its fields: none a number, some r the cell r), (1, n ints), (2, n bytes), (3, n rows, the first of them) -/
abbrev LC : Type := Nat × Nat × Nat × List (Option Nat)
def ar_ (n : Nat) : LC := (1, n, 0, [])
def Lay : List LC := [
  (0, 9, 0, [some 1, some 4, some 14, some 24, some 29, some 54, some 59, some 63, some 66, some 69]),
  (0, 8, 0, [none, some 2, some 3]), (2, 300, 0, []), (1, 3, 0, []),
  (0, 4, 0, [none, none, some 5, some 6, some 7, some 13]), (1, 3, 0, []), (1, 5, 0, []), (3, 5, 8, []), (1, 3, 0, []), (1, 3, 0, []), (1, 3, 0, []), (1, 3, 0, []), (1, 3, 0, []), (1, 7, 0, []),
  (0, 4, 0, [none, none, some 15, some 16, some 17, some 23]), (1, 3, 0, []), (1, 5, 0, []), (3, 5, 18, []), (1, 3, 0, []), (1, 3, 0, []), (1, 3, 0, []), (1, 3, 0, []), (1, 3, 0, []), (1, 7, 0, []),
  (0, 2, 0, [some 25, some 26, some 27, some 28]), (1, 5, 0, []), (1, 5, 0, []), (1, 5, 0, []), (1, 3, 0, []),
  (0, 1, 0, [none, none, none, some 30, some 42]),
  (3, 11, 31, []), (1, 11, 0, []), (1, 11, 0, []), (1, 11, 0, []), (1, 11, 0, []), (1, 11, 0, []), (1, 11, 0, []), (1, 11, 0, []), (1, 11, 0, []), (1, 11, 0, []), (1, 11, 0, []), (1, 11, 0, []),
  (3, 11, 43, []), (1, 11, 0, []), (1, 11, 0, []), (1, 11, 0, []), (1, 11, 0, []), (1, 11, 0, []), (1, 11, 0, []), (1, 11, 0, []), (1, 11, 0, []), (1, 11, 0, []), (1, 11, 0, []), (1, 11, 0, []),
  (0, 3, 0, [none, some 55, some 56, some 57, some 58]), (1, 5, 0, []), (1, 5, 0, []), (1, 3, 0, []), (1, 6, 0, []),
  (0, 5, 0, [none, none, some 60, some 61, some 62]), (1, 3, 0, []), (1, 3, 0, []), (1, 3, 0, []),
  (0, 7, 0, [none, some 64, some 65]), (1, 6, 0, []), (1, 6, 0, []),
  (0, 0, 0, [none, some 67, some 68]), (1, 8, 0, []), (1, 8, 0, []),
  (0, 6, 0, [none, some 70]), (3, 2, 71, []), (1, 7, 0, []), (1, 7, 0, []),
  (0, 10, 0, [none, some 74, some 75, some 76, some 77, some 78, some 79, some 80, some 81, some 82, none, none, some 83, none, some 84, some 85, none, some 86, some 87, some 88, none, none, none, some 89, some 90, some 91, some 92, some 93, some 94]),
  (1, 300, 0, []), (1, 2, 0, []), (1, 6, 0, []), (1, 2, 0, []), (1, 10, 0, []), (1, 30, 0, []), (1, 20, 0, []), (1, 4, 0, []), (1, 4, 0, []), (1, 16, 0, []), (1, 6, 0, []), (1, 6, 0, []), (1, 3, 0, []), (1, 5, 0, []), (1, 5, 0, []), (1, 100, 0, []), (1, 100, 0, []), (1, 3, 0, []), (1, 5, 0, []), (1, 3, 0, []), (1, 15, 0, [])]
theorem Lay_len : Lay.length = 95 := by decide +kernel
abbrev vwCl : List vw_C := [(RX0, TX0, 3), (RX1, TX1, 5), (RX2, TX2, 4), (RX3, TX3, 5), (RX4, TX4, 6), (RX5, TX5, 5), (RX6, TX6, 2), (RX7, TX7, 3), (RX8, TX8, 3), (RX9, TX9, 10), (RX10, TX10, 29)]
abbrev C3 : Type := ClassId × ClassId × ClassId
def fE (ad : Nat → Nat) (σ : Sg) (k : Nat) (j : Nat) (f : Option Nat) : Value := match f with
  | some r => .ref (ad r)
  | none => .int (Int32.ofInt (σ k (j : Int)))
def cE (ad : Nat → Nat) (cs : C3) (σ : Sg) (k : Nat) (c : LC) : va_E := match c with
  | (0, ci, _, fs) => .inr (ci, fs.mapIdx (fun j f => fE ad σ k j f))
  | (1, n, _, _) => .inl (cs.1, n, .inl (fun j => Int32.ofInt (σ k (j : Int))))
  | (2, n, _, _) => .inl (cs.2.1, n, .inl (fun j => Int32.ofInt (σ k (j : Int))))
  | (_, n, b, _) => .inl (cs.2.2, n, .inr (.inr (.inr (.inr (fun j => if j < n then some (ad (b + j)) else none)))))
def mkW (ad : Nat → Nat) (cs : C3) (σ : Sg) : va_W := Lay.mapIdx (fun k c => (ad k, cE ad cs σ k c))
theorem mkW_at {ad : Nat → Nat} {cs : C3} {σ : Sg} {k : Nat} {c : LC} (h : Lay[k]? = some c) : (mkW ad cs σ)[k]? = some (ad k, cE ad cs σ k c) := by
  unfold mkW
  rw [List.getElem?_mapIdx, h]
  rfl
theorem mkW_inv {ad : Nat → Nat} {cs : C3} {σ : Sg} {k : Nat} {q : Nat × va_E} (h : (mkW ad cs σ)[k]? = some q) : ∃ c, Lay[k]? = some c ∧ q = (ad k, cE ad cs σ k c) := by
  unfold mkW at h
  rw [List.getElem?_mapIdx] at h
  cases hc : Lay[k]? with
  | none => rw [hc] at h; cases h
  | some c => rw [hc] at h; exact ⟨c, rfl, (Option.some.inj h).symm⟩
def adI (ad : Nat → Nat) : Prop := ∀ i j : Nat, i < 95 → j < 95 → ad i = ad j → i = j
theorem Lay_lt {k : Nat} {c : LC} (h : Lay[k]? = some c) : k < 95 := by
  have := (List.getElem?_eq_some_iff.mp h).1
  rw [Lay_len] at this
  exact this
theorem mkW_D {ad : Nat → Nat} {cs : C3} {σ : Sg} {A : Nat → Prop} (hi : adI ad) (hA : ∀ k, k < 95 → A (ad k)) : va_D A (mkW ad cs σ) := by
  refine ⟨fun i j p q hp hq e => ?_, fun k q hq => ?_⟩
  · obtain ⟨c, h1, rfl⟩ := mkW_inv hp
    obtain ⟨c', h2, rfl⟩ := mkW_inv hq
    exact hi i j (Lay_lt h1) (Lay_lt h2) e
  · obtain ⟨c, h1, rfl⟩ := mkW_inv hq
    exact hA k (Lay_lt h1)
/-- one number of the table changed -/
def up (σ : Sg) (a : Nat) (i v : Int) : Sg := fun k j => if k = a ∧ j = i then v else σ k j
/-- one cell of the table changed -/
def uc (σ : Sg) (a : Nat) (f : Int → Int) : Sg := fun k => if k = a then f else σ k
theorem up_ne {σ : Sg} {a k : Nat} {i v : Int} (h : k ≠ a) : up σ a i v k = σ k := by
  funext j
  simp [up, h]
theorem uc_ne {σ : Sg} {a k : Nat} {f : Int → Int} (h : k ≠ a) : uc σ a f k = σ k := by simp [uc, h]
theorem uc_eq {σ : Sg} {a : Nat} {f : Int → Int} : uc σ a f a = f := by simp [uc]
theorem up_uc (σ : Sg) (a : Nat) (i v : Int) : up σ a i v = uc σ a (fun j => if j = i then v else σ a j) := by
  funext k j
  by_cases h : k = a
  · subst h; simp [up, uc]
  · simp [up, uc, h]
/-- the cells as a list, one of them with other contents -/
theorem mkW_uc {ad : Nat → Nat} {cs : C3} {σ : Sg} {a : Nat} {c : LC} {f : Int → Int} {e : va_E} (h : Lay[a]? = some c) (he : cE ad cs (uc σ a f) a c = e) : (mkW ad cs σ).set a (ad a, e) = mkW ad cs (uc σ a f) := by
  apply List.ext_getElem?
  intro k
  have hl : a < (mkW ad cs σ).length := (List.getElem?_eq_some_iff.mp (mkW_at h)).1
  by_cases hk : k = a
  · subst hk
    rw [List.getElem?_set_self hl, mkW_at h, he]
  · rw [List.getElem?_set_ne (Ne.symm hk)]
    cases hc : Lay[k]? with
    | none =>
      unfold mkW
      rw [List.getElem?_mapIdx, List.getElem?_mapIdx, hc]
      rfl
    | some c' =>
      rw [mkW_at hc, mkW_at hc]
      have e1 : cE ad cs (uc σ a f) k c' = cE ad cs σ k c' := by
        obtain ⟨t, n, b, fs⟩ := c'
        unfold cE fE
        rw [uc_ne hk]
      rw [e1]
theorem i32_in {z : Int} (h : inR z) : (Int32.ofInt z).toInt = z := Int32.toInt_ofInt_of_le (by omega) (by omega)
theorem i32_cl {z : Int} (h : inR z) : (Int32.ofInt z).toNatClampNeg = z.toNat := by
  show (Int32.ofInt z).toInt.toNat = z.toNat
  rw [i32_in h]
theorem i32_lt {a b : Int} (ha : inR a) (hb : inR b) : Int32.ofInt a < Int32.ofInt b ↔ a < b := by rw [Int32.lt_iff_toInt_lt, i32_in ha, i32_in hb]
theorem i32_le {a b : Int} (ha : inR a) (hb : inR b) : Int32.ofInt a ≤ Int32.ofInt b ↔ a ≤ b := by rw [Int32.le_iff_toInt_le, i32_in ha, i32_in hb]
theorem i32_eq {a b : Int} (ha : inR a) (hb : inR b) : Int32.ofInt a = Int32.ofInt b ↔ a = b := by rw [← Int32.toInt_inj, i32_in ha, i32_in hb]
theorem i32_0 : (0 : Int32) = Int32.ofInt 0 := by decide +kernel
theorem i64_in {z : Int} (h : inL z) : (Int64.ofInt z).toInt = z := Int64.toInt_ofInt_of_le (by omega) (by omega)
theorem inR_toInt (x : Int32) : inR x.toInt := ⟨by have := x.le_toInt; omega, by have := x.toInt_lt; omega⟩
theorem inL_toInt (x : Int64) : inL x.toInt := ⟨by have := x.le_toInt; omega, by have := x.toInt_lt; omega⟩
theorem i32_vp {i : Int} {n : Nat} (h : inR i) (h0 : 0 ≤ i) (h1 : i < n) : vp_in (Int32.ofInt i) n := by
  rw [vp_in_iff, i32_in h]
  exact ⟨h0, h1⟩
/-! ===== a method's frame: X holds all that stays the same ===== -/
abbrev CT : Type := Program × Launch × Env × Room × State × MethodId × Array Value × List Frame × Method × Code × va_G × C3 × (Nat → Nat) × (Nat → Prop) × Nat × Nat × (State → Prop)
def lvok (ad : Nat → Nat) (lv : List (Option PV)) (n : Nat) (ls : Array Slot) : Prop :=
  ls.size = n ∧ lv_wf ls ∧ ∀ (i : Nat) (v : PV), lv[i]? = some (some v) → ls[i]? = some (.val (tV ad v)) ∧ okP v
def Gs (X : CT) (pc : Nat) (lv : List (Option PV)) (st : List PV) (σ : Sg) : Prop := match X with
  | (p, l, e, R, s, m, args, below, meth, c, D, cs, ad, A, cells, slots, Q) =>
    ∀ (H : Heap) (locs : List Loc) (ls : Array Slot), lvok ad lv c.maxLocals ls → (∀ v ∈ st, okP v) → (∀ (k : Nat) (j : Int), inR (σ k j)) → va_P D vwCl (mkW ad cs σ) H → va_S A s.heap H locs →
      W p l e R s m args below meth c H locs cells slots Q (F0 m pc ls (st.map (tV ad)))
abbrev MM : Type := MethodName × ByteArray × Nat × Option FieldType
def nestW : Cond := .methodLinkNest RX4 39 yX9_isWithin RX9
def Fix (M : MM) (d : Nat) (X : CT) : Prop := match X with
  | (p, l, e, R, s, m, args, below, meth, c, D, cs, ad, A, cells, slots, Q) =>
    p.tables.exec = Jvm.exec ∧ c.code = M.2.1 ∧ c.maxLocals = M.2.2.1 ∧ s.vm.findClass M.1.cls = some m.cls ∧ (∀ w ∈ wsT, w.before args s = true) ∧ meth.sig.returnType = M.2.2.2 ∧ meth.locks = false ∧ va_K D vwCl [(cs.1, .int), (cs.2.1, .byte), (cs.2.2, .array .int)] s ∧ va_Nw nestW s ∧ adI ad ∧ (∀ k, k < 95 → A (ad k)) ∧ d ≤ R.frames ∧ 64 * d ≤ R.locals ∧ cells ≤ R.cells ∧ slots ≤ R.slots
def AD (ad : Nat → Nat) : Nat → Prop := fun q => ∃ k, k < 95 ∧ q = ad k
def PreB (D : va_G) (cs : C3) (ad : Nat → Nat) (σ : Sg) (U : State) : Prop := (∀ (k : Nat) (j : Int), inR (σ k j)) ∧ va_P D vwCl (mkW ad cs σ) U.heap ∧ va_K D vwCl [(cs.1, .int), (cs.2.1, .byte), (cs.2.2, .array .int)] U ∧ va_Nw nestW U
def QcB (D : va_G) (cs : C3) (ad : Nat → Nat) (Q : Option PV → Sg → Prop) : Array Value → State → Outcome → State → Prop := fun _ st o t =>
  ∃ (r : Option PV) (σ : Sg), o = .returned (r.map (tV ad)) ∧ (∀ v, r = some v → okP v) ∧ (∀ (k : Nat) (j : Int), inR (σ k j)) ∧ va_P D vwCl (mkW ad cs σ) t.heap ∧ va_F (AD ad) st t ∧ Q r σ
def rmD (d : Nat) : Room := { frames := d, cells := 0, slots := 0, locals := 64 * d }
/-- method M, called with as in the world σ, returns, and Q holds of answer and world -/
def RunsM (M : MM) (d : Nat) (as : List PV) (σ : Sg) (Q : Option PV → Sg → Prop) : Prop :=
  ∀ (l : Launch) (D : va_G) (cs : C3) (ad : Nat → Nat), adI ad → (∀ v ∈ as, okP v) → Met l M.1 (.code M.1 M.2.1 M.2.2.1 M.2.2.2 :: wsT) (rmD d) (va_Pc (as.map (tV ad)) (PreB D cs ad σ)) (QcB D cs ad Q) 0 0 (AD ad)
def Ret (X : CT) (Q : Option PV → Sg → Prop) : Prop := match X with
  | (p, l, e, R, s, m, args, below, meth, c, D, cs, ad, A, cells, slots, Qs) => Qs = MQ below (QcB D cs ad Q) args s 0 0 (AD ad) ∧ cells = 0 ∧ slots = 0 ∧ A = AD ad
theorem ok_tl {v : PV} {st : List PV} (h : ∀ x ∈ v :: st, okP x) : ∀ x ∈ st, okP x := fun x hx => h x (List.mem_cons_of_mem _ hx)
theorem ok_hd {v : PV} {st : List PV} (h : ∀ x ∈ v :: st, okP x) : okP v := h v List.mem_cons_self
theorem ok_cs {v : PV} {st : List PV} (h1 : okP v) (h : ∀ x ∈ st, okP x) : ∀ x ∈ v :: st, okP x := fun x hx => (List.mem_cons.mp hx).elim (fun e => e ▸ h1) (h x)
