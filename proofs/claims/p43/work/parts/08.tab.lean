def kT : List Cond := lw_tbl.filter goodWord
theorem kT_in {w : Cond} (i : Nat) (h : lw_tbl[i]? = some w) (g : goodWord w = true) : w ∈ kT := List.mem_filter.mpr ⟨List.mem_of_getElem? h, g⟩
def kNq : Cond → Bool
  | .methodLinkNest _ _ _ _ => true
  | .castable _ _ => true
  | _ => false
def kNl : List Cond := lw_tbl.filter kNq
theorem kN_in {w : Cond} (i : Nat) (h : lw_tbl[i]? = some w) (g : kNq w = true) : w ∈ kNl := List.mem_filter.mpr ⟨List.mem_of_getElem? h, g⟩
