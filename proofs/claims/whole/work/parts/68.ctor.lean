/-! ===== constructors: a judgement of their own (the object at h0, the cells that were made, one behind the other) ===== -/
theorem va_AOA.moved {u U : State} (h : u.vm.Alike U.vm) {ty : FieldType} (hz : va_AOA ty u) : va_AOA ty U := over_moved h hz
def K3 (D : va_G) (cs : C3) (U : State) : Prop := va_K D vwCl [(cs.1, .int), (cs.2.1, .byte), (cs.2.2, .array .int)] U ∧ va_AOA .int U ∧ va_Nw nestW U
theorem K3.warm {D : va_G} {cs : C3} {s U : State} (hW : s.WarmedH U.vm) (h : K3 D cs s) : K3 D cs U := ⟨va_K.moved hW.alike h.1, h.2.1.moved hW.alike, va_Nw.warmM hW h.2.2⟩
theorem K3.same {D : va_G} {cs : C3} {s U : State} (hvm : s.vm = U.vm) (h : K3 D cs s) : K3 D cs U := ⟨va_K.moved (by rw [hvm]; exact Vm.Alike.refl _) h.1, h.2.1.moved (by rw [hvm]; exact Vm.Alike.refl _), va_Nw.same rfl hvm h.2.2⟩
abbrev CX : Type := Program × Launch × Env × Room × State × MethodId × Array Value × List Frame × Method × Code × va_G × C3 × (Nat → Prop) × Nat × (State → Prop)
abbrev xcs (X : CX) : C3 := X.2.2.2.2.2.2.2.2.2.2.2.1
abbrev xh0 (X : CX) : Nat := X.2.2.2.2.2.2.2.2.2.2.2.2.2.1
def Cg (X : CX) (ci pc : Nat) (fs : List Value) (w : va_W) (k n : Nat) : Prop := match X with
  | (p, l, e, R, s, m, args, below, meth, c, D, cs, A, h0, Q) => ∀ (H : Heap) (locs : List Loc) (ls : Array Slot), lv_has ls 1 [(0, .ref h0)] → va_P D vwCl ((h0, .inr (ci, fs)) :: w) H → va_D A ((h0, .inr (ci, fs)) :: w) → va_S A s.heap H locs → W p l e R s m args below meth c H locs k n Q (F0 m pc ls [])
def CF (M : MM) (d mc ms : Nat) (X : CX) : Prop := match X with
  | (p, l, e, R, s, m, args, below, meth, c, D, cs, A, h0, Q) =>
    p.tables.exec = Jvm.exec ∧ c.code = M.2.1 ∧ c.maxLocals = 1 ∧ s.vm.findClass M.1.cls = some m.cls ∧ (∀ w ∈ wsT, w.before args s = true) ∧ meth.sig.returnType = none ∧ meth.locks = false ∧ K3 D cs s ∧ (∀ q, s.heap.size ≤ q → A q) ∧ meth.name = "<init>" ∧ d ≤ R.frames ∧ 64 * d ≤ R.locals ∧ mc ≤ R.cells ∧ ms ≤ R.slots
/-- a final field that a constructor of the class own writes: field j of class ci -/
def FF (own : String) (idx ci j : Nat) : Prop := ∃ (C : String) (T : u_T) (N : Nat) (ty0 : Nat → FieldType) (ty : FieldType), vwCl[ci]? = some (C, T, N) ∧ j < N ∧ Cond.fieldLink own idx (T j).1 (T j).2.1 (T j).2.2.1 ∈ wsT ∧ (∀ w ∈ u_ws C T N, w ∈ wsT) ∧ (∀ k, k < N → parseFieldDescriptor (T k).2.2.1 = some (ty0 k)) ∧ (∀ a, a < N → ∀ b, b < N → a ≠ b → (T a).2.1 ≠ (T b).2.1) ∧ (T j).2.2.2 = true ∧ (T j).1 = own ∧ parseFieldDescriptor (T j).2.2.1 = some ty ∧ ∀ q : Nat, narrow ty (.ref q) = .ref q ∧ fits ty (.ref q) = true
/-- a small number is pushed -/
def PU (code : ByteArray) (pc : Nat) (v : Int32) (q : Nat) : Prop := (∃ n, decode code pc = .ok (.iconst n, 1) ∧ Int32.ofInt n = v ∧ q = pc + 1) ∨ (∃ n, decode code pc = .ok (.bipush n, 2) ∧ (Int8.ofInt n).toInt32 = v ∧ q = pc + 2) ∨ (∃ n, decode code pc = .ok (.sipush n, 3) ∧ (Int16.ofInt n).toInt32 = v ∧ q = pc + 3)
theorem pu_i {code : ByteArray} {pc q : Nat} {v : Int32} {n : Int} (h : decode code pc = .ok (.iconst n, 1)) (hv : Int32.ofInt n = v) (hq : q = pc + 1) : PU code pc v q := Or.inl ⟨n, h, hv, hq⟩
theorem pu_b {code : ByteArray} {pc q : Nat} {v : Int32} {n : Int} (h : decode code pc = .ok (.bipush n, 2)) (hv : (Int8.ofInt n).toInt32 = v) (hq : q = pc + 2) : PU code pc v q := Or.inr (Or.inl ⟨n, h, hv, hq⟩)
theorem pu_s {code : ByteArray} {pc q : Nat} {v : Int32} {n : Int} (h : decode code pc = .ok (.sipush n, 3)) (hv : (Int16.ofInt n).toInt32 = v) (hq : q = pc + 3) : PU code pc v q := Or.inr (Or.inr ⟨n, h, hv, hq⟩)
section CT1
variable {p : Program} {l : Launch} {e : Env} {R : Room} {s : State} {m : MethodId} {args : Array Value} {below : List Frame} {meth : Method} {c : Code} {H : Heap} {locs : List Loc} {cells slots : Nat} {Q : State → Prop}
theorem pu_go {code : ByteArray} {pc q : Nat} {v : Int32} {ls : Array Slot} {st : List Value} (hx : p.tables.exec = Jvm.exec) (hb : c.code = code) (h : PU code pc v q) (k : W p l e R s m args below meth c H locs cells slots Q (F0 m q ls (.int v :: st))) : W p l e R s m args below meth c H locs cells slots Q (F0 m pc ls st) := by
  rcases h with ⟨n, h1, h2, rfl⟩ | ⟨n, h1, h2, rfl⟩ | ⟨n, h1, h2, rfl⟩
  · exact lv_iconst hx hb h1 h2 k
  · exact lv_bipush hx hb h1 h2 k
  · exact lv_sipush hx hb h1 h2 k
end CT1
theorem va_joinA {A0 : Nat → Prop} {D : va_G} {cl : List vw_C} {ws w1 : va_W} {x : Nat × va_E} {H H1 : Heap} (hP : va_P D cl (ws ++ [x]) H) (hD : va_D A0 (ws ++ [x])) (hk : ∀ q : Nat, q < H.size → ¬ va_A [x] H.size q → H1[q]? = H[q]?) (hF : ∀ q, va_A [x] H.size q → A0 q) (hP1 : va_P D cl w1 H1) (hD1 : va_D (va_A [x] H.size) w1) : va_P D cl (ws ++ w1) H1 ∧ va_D A0 (ws ++ w1) := by
  have hin : ∀ (k : Nat) (q : Nat × va_E), ws[k]? = some q → (ws ++ [x])[k]? = some q := fun k q h => by
    rw [List.getElem?_append_left (List.getElem?_eq_some_iff.mp h).1]; exact h
  have hx : (ws ++ [x])[ws.length]? = some x := by simp
  have hna : ∀ (k : Nat) (q : Nat × va_E), ws[k]? = some q → q.1 < H.size ∧ ¬ va_A [x] H.size q.1 := by
    intro k q h
    have h1 := (hP k q (hin k q h)).lt
    refine ⟨h1, fun h2 => ?_⟩
    rcases h2 with ⟨j, e, h2⟩ | h2
    · have h3 : j < 1 := (List.getElem?_eq_some_iff.mp h2).1
      rw [show j = 0 by omega] at h2
      have h4 : x = (q.1, e) := Option.some.inj h2
      have h5 := hD.1 k ws.length q x (hin k q h) hx (by rw [h4])
      have h6 := (List.getElem?_eq_some_iff.mp h).1
      omega
    · omega
  refine ⟨va_P.app (fun k q h => (hP k q (hin k q h)).kept (hk q.1 (hna k q h).1 (hna k q h).2)) hP1, va_D.app ⟨fun i j a b ha hb e => hD.1 i j a b (hin i a ha) (hin j b hb) e, fun k q h => hD.2 k q (hin k q h)⟩ (hD1.weaken (fun _ _ _ h => hF _ h)) (fun i j a b ha hb e => ?_)⟩
  have := hD1.2 j b hb
  rw [← e] at this
  exact (hna i a ha).2 this
theorem cg_obj {M : MM} {d mc ms ci k n : Nat} {X : CX} {fs : List Value} {w : va_W} (hF : CF M d mc ms X) {idx : Nat} (h0 : decode M.2.1 0 = .ok (.aload_n 0, 1)) (h1 : decode M.2.1 1 = .ok (.invokespecial idx, 3)) (hlk : Cond.methodLink M.1.cls idx objectInit ∈ wsT) (hoi : Cond.instanceMethod objectInit ∈ wsT ∧ Cond.code objectInit ⟨#[0xb1]⟩ 1 none ∈ wsT) (hd : 1 ≤ d) (kk : Cg X ci 4 fs w k n) : Cg X ci 0 fs w k n := by
  obtain ⟨p, l, e, R, s, m, args, below, meth, c, D, cs, A, a0, Q⟩ := X
  obtain ⟨hx, hb, hml, hown, hts, hr, hlocks, hK, hA, hin, hd1, hd2, hd3, hd4⟩ := hF
  intro H locs ls hl hP hD hS
  refine lv_aload_n hx hb h0 rfl (lv_at hl 0 rfl) ?_
  refine W.objInit hx hb hown (hts _ hlk) (hts _ hoi.1) (hts _ hoi.2) rfl (by rw [hml]; exact hl.1) rfl h1 (by omega) (by show 2 * 0 + 0 + 12 ≤ R.locals; omega) ?_
  refine W.eq (g2 := F0 m 4 ls []) rfl ?_
  exact kk H locs ls hl hP hD hS
theorem cg_put {M : MM} {d mc ms ci k n j idx pc p2 q : Nat} {X : CX} {fs : List Value} {w : va_W} (hF : CF M d mc ms X) (hf : FF M.1.cls idx ci j) (hj : j < fs.length) (hdg : decode M.2.1 pc = .ok (.putfield idx, 3)) (hq : pc + 3 = p2) (kk : Cg X ci p2 (fs.set j (.ref q)) w k n) : match X with
  | (p, l, e, R, s, m, args, below, meth, c, D, cs, A, h0, Q) => ∀ (H : Heap) (locs : List Loc) (ls : Array Slot), lv_has ls 1 [(0, .ref h0)] → va_P D vwCl ((h0, .inr (ci, fs)) :: w) H → va_D A ((h0, .inr (ci, fs)) :: w) → va_S A s.heap H locs → W p l e R s m args below meth c H locs k n Q (F0 m pc ls [.ref q, .ref h0]) := by
  obtain ⟨p, l, e, R, s, m, args, below, meth, c, D, cs, A, a0, Q⟩ := X
  obtain ⟨hx, hb, hml, hown, hts, hr, hlocks, hK, hA, hin, hd1, hd2, hd3, hd4⟩ := hF
  intro H locs ls hl hP hD hS
  obtain ⟨C, T, N, ty0, ty, h1, h2, h3, h4, h5, h6, h7, h8, h9, h10⟩ := hf
  subst hq
  refine va_putF (v := .ref q) hx hb hts h4 ty0 h5 h6 hown hK.1 hP hD hS 0 rfl h1 j h2 (by rw [← h8]; rw [← h8] at h3; exact hts _ h3) (fun _ h9 => h9) h7 hin h8 h9 (h10 q).1 (h10 q).2 hj hdg (fun H1 locs1 hP1 hD1 hS1 => ?_)
  exact kk H1 locs1 ls hl hP1 hD1 hS1
theorem ra_eq {D : va_G} {cs : C3} {s : State} {cA : ClassId} {tys : List (ClassId × FieldType)} {ty : FieldType} (hK : va_K D vwCl tys s) (hK2 : va_K D vwCl (tys ++ [(cA, ty)]) s) (i : Nat) {cB : ClassId} (hi : tys[i]? = some (cB, ty)) (hty : ty = .int ∨ ty = .byte ∨ ty = .array .int) : cA = cB := by
  have h1 := (hK.2 i _ hi).2
  have h2 := (hK2.2 tys.length (cA, ty) (by simp)).2
  rcases hty with rfl | rfl | rfl
  · exact Option.some.inj (h2.symm.trans h1)
  · exact Option.some.inj (h2.symm.trans h1)
  · exact Option.some.inj (h2.symm.trans h1)
theorem cg_int {M : MM} {d mc ms ci k n j idx pc p1 p2 N : Nat} {X : CX} {fs : List Value} {w : va_W} {v : Int32} (hF : CF M d mc ms X) (hd0 : decode M.2.1 pc = .ok (.aload_n 0, 1)) (hp : PU M.2.1 (pc + 1) v p1) (hn : ¬ v < 0) (hN : v.toNatClampNeg = N) (hsm : N ≤ 1000) (ha : Cond.arrayClass .int ∈ wsT) (hda : decode M.2.1 p1 = .ok (.newarray .int, 2)) (hdp : decode M.2.1 (p1 + 2) = .ok (.putfield idx, 3)) (hq : p1 + 2 + 3 = p2) (hf : FF M.1.cls idx ci j) (hj : j < fs.length) (hk : k + 1 ≤ mc) (hs : n + N ≤ ms) (kk : ∀ q, Cg X ci p2 (fs.set j (.ref q)) (w ++ [(q, .inl ((xcs X).1, N, .inl (fun _ => 0)))]) (k + 1) (n + N)) : Cg X ci pc fs w k n := by
  have hF0 := hF
  have hput := fun q => cg_put (q := q) hF0 hf hj hdp hq (kk q)
  obtain ⟨p, l, e, R, s, m, args, below, meth, c, D, cs, A, a0, Q⟩ := X
  obtain ⟨hx, hb, hml, hown, hts, hr, hlocks, hK, hA, hin, hd1, hd2, hd3, hd4⟩ := hF
  intro H locs ls hl hP hD hS
  refine lv_aload_n hx hb hd0 rfl (lv_at hl 0 rfl) ?_
  refine pu_go hx hb hp ?_
  refine va_newa (atype := .int) (ty := .int) (a0 := (N, .inl (fun _ => 0))) hx hb (hts _ ha) rfl hK.1 hP hD hS hA (fun _ => rfl) hn hN (by show N * 4 ≤ 536870912; omega) (by omega) (by omega) hda (fun q cA H1 hK2 hP2 hD2 hS2 => ?_)
  have e1 := ra_eq (cs := cs) hK.1 hK2 0 rfl (Or.inl rfl)
  subst e1
  exact hput q H1 locs ls hl hP2 hD2 hS2
theorem cg_byte {M : MM} {d mc ms ci k n j idx pc p1 p2 N : Nat} {X : CX} {fs : List Value} {w : va_W} {v : Int32} (hF : CF M d mc ms X) (hd0 : decode M.2.1 pc = .ok (.aload_n 0, 1)) (hp : PU M.2.1 (pc + 1) v p1) (hn : ¬ v < 0) (hN : v.toNatClampNeg = N) (hsm : N ≤ 1000) (ha : Cond.arrayClass .byte ∈ wsT) (hda : decode M.2.1 p1 = .ok (.newarray .byte, 2)) (hdp : decode M.2.1 (p1 + 2) = .ok (.putfield idx, 3)) (hq : p1 + 2 + 3 = p2) (hf : FF M.1.cls idx ci j) (hj : j < fs.length) (hk : k + 1 ≤ mc) (hs : n + N ≤ ms) (kk : ∀ q, Cg X ci p2 (fs.set j (.ref q)) (w ++ [(q, .inl ((xcs X).2.1, N, .inl (fun _ => 0)))]) (k + 1) (n + N)) : Cg X ci pc fs w k n := by
  have hF0 := hF
  have hput := fun q => cg_put (q := q) hF0 hf hj hdp hq (kk q)
  obtain ⟨p, l, e, R, s, m, args, below, meth, c, D, cs, A, a0, Q⟩ := X
  obtain ⟨hx, hb, hml, hown, hts, hr, hlocks, hK, hA, hin, hd1, hd2, hd3, hd4⟩ := hF
  intro H locs ls hl hP hD hS
  refine lv_aload_n hx hb hd0 rfl (lv_at hl 0 rfl) ?_
  refine pu_go hx hb hp ?_
  refine va_newa (atype := .byte) (ty := .byte) (a0 := (N, .inl (fun _ => 0))) hx hb (hts _ ha) rfl hK.1 hP hD hS hA (fun _ => rfl) hn hN (by show N * 1 ≤ 536870912; omega) (by omega) (by omega) hda (fun q cA H1 hK2 hP2 hD2 hS2 => ?_)
  have e1 := ra_eq (cs := cs) hK.1 hK2 1 rfl (Or.inr (Or.inl rfl))
  subst e1
  exact hput q H1 locs ls hl hP2 hD2 hS2
theorem rows_eq {f : Nat → va_E} {r : Nat → Nat} {N : Nat} {e : va_E} : va_pl ([] ++ (List.range N).map r) (vr_up f ((List.range N).map r) e) = (List.range N).map (fun i => (r i, e)) := by
  unfold va_pl
  rw [List.nil_append, List.map_map]
  apply List.map_congr_left
  intro i hi
  show (r i, vr_up f ((List.range N).map r) e (r i)) = (r i, e)
  rw [vr_up_in (List.mem_map.mpr ⟨i, hi, rfl⟩)]
theorem cg_rows {M : MM} {d mc ms ci k n j idx ic pc p1 p2 p3 N K : Nat} {X : CX} {fs : List Value} {w : va_W} {v u : Int32} (hF : CF M d mc ms X) (hd0 : decode M.2.1 pc = .ok (.aload_n 0, 1)) (hp : PU M.2.1 (pc + 1) v p1) (hp2 : PU M.2.1 p1 u p2) (hn : ¬ v < 0) (hu : ¬ u < 0) (hN : v.toNatClampNeg = N) (hM : u.toNatClampNeg = K) (hsm : N ≤ 1000) (hsk : K ≤ 1000) (ha : Cond.arrayClass .int ∈ wsT) (hcl : Cond.classLink M.1.cls ic "[[I" ∈ wsT) (hda : decode M.2.1 p2 = .ok (.multianewarray ic 2, 4)) (hdp : decode M.2.1 (p2 + 4) = .ok (.putfield idx, 3)) (hq : p2 + 4 + 3 = p3) (hf : FF M.1.cls idx ci j) (hj : j < fs.length) (hk : k + 1 + N ≤ mc) (hs : n + N + N * K ≤ ms) (kk : ∀ (q : Nat) (r : Nat → Nat), Cg X ci p3 (fs.set j (.ref q)) (w ++ ((q, .inl ((xcs X).2.2, N, .inr (.inr (.inr (.inr (fun i => if i < N then some (r i) else none)))))) :: (List.range N).map (fun i => (r i, .inl ((xcs X).1, K, .inl (fun _ => 0)))))) (k + 1 + N) (n + N + N * K)) : Cg X ci pc fs w k n := by
  have hF0 := hF
  have hput := fun q r => cg_put (q := q) hF0 hf hj hdp hq (kk q r)
  obtain ⟨p, l, e, R, s, m, args, below, meth, c, D, cs, A, a0, Q⟩ := X
  obtain ⟨hx, hb, hml, hown, hts, hr, hlocks, hK, hA, hin, hd1, hd2, hd3, hd4⟩ := hF
  intro H locs ls hl hP hD hS
  refine lv_aload_n hx hb hd0 rfl (lv_at hl 0 rfl) ?_
  refine pu_go hx hb hp ?_
  refine pu_go hx hb hp2 ?_
  have hcy : s.vm.findClass (FieldType.array .int).toString = some cs.1 := (hK.1.2 0 _ rfl).2
  refine va_mna (X := (a0, .inr (ci, fs)) :: w) (L := []) (f := fun _ => .inr (0, [])) (z := (K, .inl (fun _ => 0))) hx hb hown (hts _ hcl) hK.2.1 (hts _ ha) hcy hK.1 (by rw [show va_pl [] (fun _ => (.inr (0, []) : va_E)) = [] from rfl, List.append_nil]; exact hP) (by rw [show va_pl [] (fun _ => (.inr (0, []) : va_E)) = [] from rfl, List.append_nil]; exact hD) hS hA hn hu hN hM (by omega) (by show K * 4 ≤ 536870912; omega) (by omega) rfl rfl (by omega) (by omega) (fun c9 => arrV_new c9 K (.int 0)) hda (fun q r cA H1 hi hnl hK2 hP2 hD2 hS2 => ?_)
  have e1 := ra_eq (cs := cs) hK.1 hK2 2 rfl (Or.inr (Or.inr rfl))
  subst e1
  rw [rows_eq, List.append_assoc] at hP2 hD2
  exact hput q r H1 locs ls hl hP2 hD2 hS2
