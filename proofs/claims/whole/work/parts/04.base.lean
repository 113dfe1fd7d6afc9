/-! BASE: the words that are kept; what a method is -/
/-- the tables' words that stay true as the machine warms -/
def zts : List Cond := lw_tbl.filter goodWord
theorem zmem {w : Cond} (i : Nat) (h : lw_tbl[i]? = some w) (hg : goodWord w = true) : w ∈ zts := List.mem_filter.mpr ⟨List.mem_of_getElem? h, hg⟩
theorem zts_good {w : Cond} (h : w ∈ zts) : goodWord w = true := (List.mem_filter.mp h).2
theorem zts_in {w : Cond} (h : w ∈ zts) : w ∈ lw_tbl := (List.mem_filter.mp h).1
/-- a method: its name, code, locals, what it answers -/
abbrev zM : Type := MethodName × ByteArray × Nat × Option FieldType
