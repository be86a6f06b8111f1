/-- the tables' good words -/
def lw_G : List Cond := lw_tbl.filter goodWord
theorem mem_G {w : Cond} (i : Nat) (h : lw_tbl[i]? = some w) (g : goodWord w = true) : w ∈ lw_G := List.mem_filter.mpr ⟨List.mem_of_getElem? h, g⟩
theorem G_good {w : Cond} (h : w ∈ lw_G) : goodWord w = true := (List.mem_filter.mp h).2
