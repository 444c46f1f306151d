/-! rows of my own over the kit's: contracts that read alone, contracts that write, their calls; every method has the same words (qx_T) -/
def qx_T : List Cond := lw_tbl.filter goodWord
theorem qx_in {w : Cond} (h : w ∈ lw_tbl) (hg : goodWord w = true) : w ∈ qx_T := List.mem_filter.mpr ⟨h, hg⟩
theorem qx_tbl : ∀ w ∈ qx_T, w ∈ lw_tbl := fun _ h => (List.mem_filter.mp h).1
theorem qx_good {w : Cond} (h : w ∈ qx_T) : GoodIn qx_T (w :: qx_T) := by
  intro x hx
  rcases List.mem_cons.mp hx with rfl | hx
  · exact ⟨h, good_of_word (List.mem_filter.mp h).2⟩
  · exact ⟨hx, good_of_word (List.mem_filter.mp hx).2⟩
