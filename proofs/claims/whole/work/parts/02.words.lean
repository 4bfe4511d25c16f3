def wsT : List Cond := lw_tbl.filter goodWord
theorem mT {w : Cond} (i : Nat) (h : lw_tbl[i]? = some w) (g : goodWord w = true) : w ∈ wsT := List.mem_filter.mpr ⟨List.mem_of_getElem? h, g⟩
theorem wsT_good : ∀ w ∈ wsT, goodWord w = true := fun w h => (List.mem_filter.mp h).2
theorem goodT {w : Cond} (h : w ∈ wsT) : GoodIn wsT (w :: wsT) := fun x hx => (List.mem_cons.mp hx).elim (fun e => ⟨e ▸ h, good_of_word (wsT_good _ (e ▸ h))⟩) (fun h2 => ⟨h2, good_of_word (wsT_good _ h2)⟩)
