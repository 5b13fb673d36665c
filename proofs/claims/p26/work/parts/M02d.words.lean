set_option maxRecDepth 100000 in
theorem lw4b : ∀ w ∈ (wsL_law0_r4.drop 4).take 3, w ∈ lw_tbl := by
  have e : (wsL_law0_r4.drop 4).take 3 = [Cond.methodLink RL 149 yL_isSo, Cond.static yL_isSo, Cond.code yL_isSo cL_isSo 23 (some .boolean)] := rfl
  rw [e]
  exact List.forall_mem_cons.mpr ⟨by decide +kernel, List.forall_mem_cons.mpr ⟨by decide +kernel, List.forall_mem_cons.mpr ⟨List.mem_of_getElem? (l := lw_tbl) (i := 587) rfl, fun _ h => absurd h List.not_mem_nil⟩⟩⟩
