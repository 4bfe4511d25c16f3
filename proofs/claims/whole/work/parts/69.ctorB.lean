/-! ===== constructors: contracts, calls of one by another ===== -/
def cQ (D : va_G) (cs : C3) (h0 sz ci : Nat) (fs0 : List Value) (Φ : C3 → Nat → List Value → va_W → Prop) : Array Value → State → Outcome → State → Prop := va_Qv (fun u : List Value × va_W => Φ cs h0 u.1 u.2) (fun u t => va_P D vwCl ((h0, .inr (ci, u.1)) :: u.2) t.heap ∧ va_D (va_A [(h0, .inr (ci, fs0))] sz) ((h0, .inr (ci, u.1)) :: u.2)) (va_A [(h0, .inr (ci, fs0))] sz)
def cPre (D : va_G) (cs : C3) (h0 sz ci : Nat) (fs0 : List Value) (U : State) : Prop := U.heap.size = sz ∧ va_P D vwCl [(h0, .inr (ci, fs0))] U.heap ∧ K3 D cs U
def CtorM (M : MM) (ci : Nat) (fs0 : List Value) (d mc ms : Nat) (Φ : C3 → Nat → List Value → va_W → Prop) : Prop :=
  ∀ (l : Launch) (D : va_G) (cs : C3) (h0 sz : Nat), Met l M.1 (.code M.1 M.2.1 1 none :: wsT) { frames := d, cells := mc, slots := ms, locals := 64 * d } (va_Pc [.ref h0] (cPre D cs h0 sz ci fs0)) (cQ D cs h0 sz ci fs0 Φ) mc ms (va_A [(h0, .inr (ci, fs0))] sz)
def CE (X : CX) (ci : Nat) (fs0 : List Value) (mc ms : Nat) (Φ : C3 → Nat → List Value → va_W → Prop) : Prop := match X with
  | (p, l, e, R, s, m, args, below, meth, c, D, cs, A, h0, Q) => Q = MQ below (cQ D cs h0 s.heap.size ci fs0 Φ) args s mc ms (va_A [(h0, .inr (ci, fs0))] s.heap.size) ∧ A = va_A [(h0, .inr (ci, fs0))] s.heap.size
theorem cg_ret {M : MM} {d mc ms ci k n pc : Nat} {X : CX} {fs fs0 : List Value} {w : va_W} {Φ : C3 → Nat → List Value → va_W → Prop} (hF : CF M d mc ms X) (hE : CE X ci fs0 mc ms Φ) (hdg : decode M.2.1 pc = .ok (.return_, 1)) (hk : k ≤ mc) (hn : n ≤ ms) (h : Φ (xcs X) (xh0 X) fs w) : Cg X ci pc fs w k n := by
  obtain ⟨p, l, e, R, s, m, args, below, meth, c, D, cs, A, a0, Q⟩ := X
  obtain ⟨hx, hb, hml, hown, hts, hr, hlocks, hK, hA, hin, hd1, hd2, hd3, hd4⟩ := hF
  obtain ⟨rfl, rfl⟩ := hE
  intro H locs ls hl hP hD hS
  refine W.widen (k := mc) (n := ms) hk hn ?_
  exact W.vret hx hb hr (fun t ht hW => ⟨⟨(fs, w), rfl, h, by rw [ht]; exact hP, hD⟩, hS.F ht⟩) hS.2.2 hdg
theorem mkCtor {M : MM} {ci d mc ms : Nat} {fs0 : List Value} {Φ : C3 → Nat → List Value → va_W → Prop} (hy : plainName M.1.cls = true) (hyn : M.1.name = "<init>") (body : ∀ X : CX, CF M d mc ms X → CE X ci fs0 mc ms Φ → Cg X ci 0 fs0 [] 0 0) : CtorM M ci fs0 d mc ms Φ := by
  intro l D cs h0 sz
  refine Met.ofW (cc := M.2.1) (maxL := 1) (ret := none) hy rfl ?_
  intro p e s m args below meth c s₁ B hml hv
  obtain ⟨rfl, hsz, hP, hK⟩ := hv
  subst hsz
  have hts := atoms_spec B.pre
  have hown : s.vm.findClass M.1.cls = some m.cls := findClass_of_methodNamed B.named
  have hin : meth.name = "<init>" := (name_of_methodNamed B.named B.method).1.trans hyn
  have hb := body (p, l, e, (headSpec (.code M.1 M.2.1 1 none :: wsT) { frames := d, cells := mc, slots := ms, locals := 64 * d }).room, s, m, [Value.ref h0].toArray, below, meth, c, D, cs, va_A [(h0, .inr (ci, fs0))] s.heap.size, h0, MQ below (cQ D cs h0 s.heap.size ci fs0 Φ) [Value.ref h0].toArray s mc ms (va_A [(h0, .inr (ci, fs0))] s.heap.size))
    ⟨B.exec, B.bytes, hml, hown, fun w hw => hts w (List.mem_cons_of_mem _ hw), B.returns, B.notSynchronized, hK, fun q h => Or.inr h, hin, Nat.le_refl _, Nat.le_refl _, Nat.le_refl _, Nat.le_refl _⟩ ⟨rfl, rfl⟩
  have hl := lv_entry [Value.ref h0] (n := 1) (Nat.le_of_ble_eq_true rfl)
  rw [lg_entry_eq]
  generalize (lg_sl ([Value.ref h0]) ++ List.replicate (1 - (lg_sl ([Value.ref h0])).length) Slot.unset).toArray = ls at hl ⊢
  have hl : lv_has ls 1 [(0, .ref h0)] := hl
  have hD : va_D (va_A [(h0, (.inr (ci, fs0) : va_E))] s.heap.size) [(h0, .inr (ci, fs0))] := by
    refine ⟨fun i j a b ha hb _ => ?_, fun _ _ hk => va_A.in hk⟩
    have h1 : i < 1 := (List.getElem?_eq_some_iff.mp ha).1
    have h2 : j < 1 := (List.getElem?_eq_some_iff.mp hb).1
    omega
  exact hb s.heap [] ls hl hP hD va_S.rf
/-- a class of which the class own makes objects by its pool's entry iN: its number cc, its first fields fs0, how many NN -/
def CN (own : String) (iN cc NN : Nat) (fs0 : List Value) : Prop := ∃ (C : String) (T : u_T) (ty0 : Nat → FieldType), vwCl[cc]? = some (C, T, NN) ∧ Cond.classLink own iN C ∈ wsT ∧ Cond.instantiable C NN ∈ wsT ∧ Cond.initialized C ∈ wsT ∧ (∀ w ∈ u_ws C T NN, w ∈ wsT) ∧ (∀ k, k < NN → parseFieldDescriptor (T k).2.2.1 = some (ty0 k)) ∧ ∀ j, j < NN → defaultValue (ty0 j) = vp_V fs0 j
/-- what a call of the constructor M needs of the tables, apart from the link -/
def CB (M : MM) : Prop := Cond.code M.1 M.2.1 1 none ∈ wsT ∧ Cond.initialized M.1.cls ∈ wsT ∧ Cond.instanceMethod M.1 ∈ wsT ∧ M.1.name = "<init>" ∧ (M.1.cls ≠ "java/lang/invoke/MethodHandle" ∧ M.1.cls ≠ "java/lang/invoke/VarHandle" ∧ (parseMethodDescriptor M.1.desc).map (fun d => d.parameters.length) = some 0)
theorem cPre_blind (D : va_G) (cs : C3) (h0 sz ci : Nat) (fs0 : List Value) : FrameBlind (va_Pc [.ref h0] (cPre D cs h0 sz ci fs0)) := by
  intro a U g mk h
  obtain ⟨h1, h2, h3, h4⟩ := h
  exact ⟨h1, h2, h3, h4.same (rfl : U.vm = (U.calling g mk a).vm)⟩
section CT2
variable {p : Program} {l : Launch} {e : Env} {R : Room} {s : State} {m : MethodId} {args : Array Value} {below : List Frame} {meth : Method} {c : Code} {H : Heap} {locs : List Loc} {k n : Nat} {Q : State → Prop}
/-- new, dup, the constructor's call: the object and what it made come behind the other cells -/
theorem va_made {M : MM} {Mc : MM} {cc NN d dc mc ms iN iI pc p2 nL : Nat} {ls : Array Slot} {fs0 : List Value} {ws : va_W} {st : List Value} {D : va_G} {cs : C3} {A : Nat → Prop} {H0 : Heap} {Φ : C3 → Nat → List Value → va_W → Prop} (hM : CtorM Mc cc fs0 dc mc ms Φ) (hx : p.tables.exec = Jvm.exec) (hb : c.code = M.2.1) (hml : c.maxLocals = nL) (hown : s.vm.findClass M.1.cls = some m.cls) (hts : ∀ w ∈ wsT, w.before args s = true) (hK : K3 D cs s) (hA : ∀ q, H0.size ≤ q → A q)
    (hC : CN M.1.cls iN cc NN fs0) (hB : CB Mc) (hlk : Cond.methodLink M.1.cls iI Mc.1 ∈ wsT) (hls : ls.size = nL) (hP : va_P D vwCl ws H) (hD : va_D A ws) (hS : va_S A H0 H locs) (hdn : decode M.2.1 pc = .ok (.new iN, 3)) (hdd : decode M.2.1 (pc + 3) = .ok (.dup, 1)) (hdi : decode M.2.1 (pc + 3 + 1) = .ok (.invokespecial iI, 3)) (hq : pc + 7 = p2) (hst : (st.map fun v => v.category).sum ≤ 7) (hdc : dc < d) (hd1 : d ≤ R.frames) (hd2 : 64 * d ≤ R.locals) (hk : k + 1 + mc ≤ R.cells) (hn : n + NN + ms ≤ R.slots)
    (kk : ∀ (q : Nat) (fs' : List Value) (w' : va_W) (H1 : Heap) (locs1 : List Loc), Φ cs q fs' w' → va_P D vwCl (ws ++ (q, .inr (cc, fs')) :: w') H1 → va_D A (ws ++ (q, .inr (cc, fs')) :: w') → va_S A H0 H1 locs1 → W p l e R s m args below meth c H1 locs1 (k + 1 + mc) (n + NN + ms) Q (F0 m p2 ls (.ref q :: st))) : W p l e R s m args below meth c H locs k n Q (F0 m pc ls st) := by
  obtain ⟨C, T, ty0, c1, c2, c3, c4, c5, c6, c7⟩ := hC
  obtain ⟨b1, b2, b3, b4, b5⟩ := hB
  subst hq
  refine va_new (ci := cc) (fs := fs0) (C := C) (T := T) (N := NN) hx hb hts c5 ty0 c6 hown (hts _ c2) (hts _ c3) (hts _ c4) hK.1 hP hD hS hA c1 c7 (by omega) (by omega) hdn (fun q H1 hP1 hD1 hS1 => ?_)
  refine lv_dup hx hb hdd rfl ?_
  have hFc : ∀ q9, va_A [(q, (.inr (cc, fs0) : va_E))] H1.size q9 → A q9 := by
    intro q9 h
    rcases h with ⟨j, e9, h⟩ | h
    · have h3 : j < 1 := (List.getElem?_eq_some_iff.mp h).1
      rw [show j = 0 by omega] at h
      cases h
      exact hD1.2 ws.length (q, .inr (cc, fs0)) (by simp)
    · exact hA _ (Nat.le_trans hS1.1 h)
  have hPc : va_P D vwCl [(q, .inr (cc, fs0))] H1 := fun j x hj => by
    have h3 : j < 1 := (List.getElem?_eq_some_iff.mp hj).1
    rw [show j = 0 by omega] at hj
    exact hP1 ws.length x (by simpa using hj)
  refine va_callv (va_runI (As := []) (rest := .ref q :: st) ⟨hx, hb, hml, hown, hts⟩ (hM l D cs q H1.size) (cwI 0 hts (goodT b1) rfl rfl rfl (hts _ b2) (hts _ hlk) (hts _ b3) b4 b5 ⟨by show dc + 1 ≤ R.frames; omega, by show 8 + (1 + 11) + 64 * dc ≤ R.locals; omega⟩) ⟨cPre_blind D cs q H1.size cc fs0, fun U hU hW => ⟨rfl, by rw [hU], by rw [hU]; exact hPc, hK.warm hW⟩⟩ rfl rfl hls rfl (by show 2 * 0 + (1 + (st.map fun v => v.category).sum) ≤ 8; omega) hdi ⟨by omega, by omega⟩) hS1 (fun q9 _ h => hFc q9 h) hFc (fun u t H2 locs2 ht hvm hw hB hz1 hk1 hS2 => ?_)
  obtain ⟨hP2, hD2⟩ := hB
  rw [ht] at hP2
  obtain ⟨hP3, hD3⟩ := va_joinA hP1 hD1 hk1 hFc hP2 hD2
  exact kk q u.1 u.2 H2 locs2 hw hP3 hD3 hS2
end CT2
theorem cg_new {M : MM} {d mc ms ci k n j idx pc p2 : Nat} {X : CX} {fs : List Value} {w : va_W} {Mc : MM} {cc NN dc mc' ms' iN iI : Nat} {fs0 : List Value} {Φ : C3 → Nat → List Value → va_W → Prop} (hF : CF M d mc ms X) (hM : CtorM Mc cc fs0 dc mc' ms' Φ) (hC : CN M.1.cls iN cc NN fs0) (hB : CB Mc) (hlk : Cond.methodLink M.1.cls iI Mc.1 ∈ wsT) (hd0 : decode M.2.1 pc = .ok (.aload_n 0, 1)) (hdn : decode M.2.1 (pc + 1) = .ok (.new iN, 3)) (hdd : decode M.2.1 (pc + 1 + 3) = .ok (.dup, 1)) (hdi : decode M.2.1 (pc + 1 + 3 + 1) = .ok (.invokespecial iI, 3)) (hdp : decode M.2.1 (pc + 1 + 7) = .ok (.putfield idx, 3)) (hq : pc + 1 + 7 + 3 = p2) (hf : FF M.1.cls idx ci j) (hj : j < fs.length) (hdc : dc < d) (hk : k + 1 + mc' ≤ mc) (hs : n + NN + ms' ≤ ms)
    (kk : ∀ (q : Nat) (fs' : List Value) (w' : va_W), Φ (xcs X) q fs' w' → Cg X ci p2 (fs.set j (.ref q)) (w ++ (q, .inr (cc, fs')) :: w') (k + 1 + mc') (n + NN + ms')) : Cg X ci pc fs w k n := by
  have hF0 := hF
  have hput := fun q fs' w' h => cg_put (q := q) hF0 hf hj hdp hq (kk q fs' w' h)
  obtain ⟨p, l, e, R, s, m, args, below, meth, c, D, cs, A, a0, Q⟩ := X
  obtain ⟨hx, hb, hml, hown, hts, hr, hlocks, hK, hA, hin, hd1, hd2, hd3, hd4⟩ := hF
  intro H locs ls hl hP hD hS
  refine lv_aload_n hx hb hd0 rfl (lv_at hl 0 rfl) ?_
  refine va_made (M := M) hM hx hb hml hown hts hK hA hC hB hlk hl.1 hP hD hS hdn hdd hdi rfl (by show 1 + 0 ≤ 7; omega) hdc hd1 hd2 (by omega) (by omega) (fun q fs' w' H1 locs1 hw hP1 hD1 hS1 => ?_)
  exact hput q fs' w' hw H1 locs1 ls hl hP1 hD1 hS1
