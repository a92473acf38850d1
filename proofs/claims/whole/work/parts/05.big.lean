def isNest : Cond → Bool
  | .fieldLinkNest .. => true
  | .methodLinkNest .. => true
  | _ => false
def big : List Cond := lw_tbl.filter goodWord
def nstw : List Cond := lw_tbl.filter isNest
theorem big_of {w : Cond} (h : w ∈ lw_tbl) (g : goodWord w = true) : w ∈ big := List.mem_filter.mpr ⟨h, g⟩
theorem nst_of {w : Cond} (h : w ∈ lw_tbl) (g : isNest w = true) : w ∈ nstw := List.mem_filter.mpr ⟨h, g⟩
