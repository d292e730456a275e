/-! the words of the tables that the methods need, by their places in lw_tbl -/
def evW : List Cond := lw_tbl.filter goodWord
theorem evm {w : Cond} (i : Nat) (h : tables_1[i]? = some w) (hg : goodWord w = true) : w ∈ evW := List.mem_filter.mpr ⟨List.mem_append_right _ (List.mem_of_getElem? h), hg⟩
theorem evp {w : Cond} (i : Nat) (h : (k2_sels lw_privs)[i]? = some w) (hg : goodWord w = true) : w ∈ evW := List.mem_filter.mpr ⟨List.mem_append_left _ (List.mem_of_getElem? h), hg⟩
set_option maxRecDepth 100000 in
theorem mw_33 : (Jvm.Cond.fieldLink "BlockCounter$Program" (9 : Nat) "BlockCounter$Program" "bytes" "[I") ∈ evW := evm 33 (by decide +kernel) rfl
