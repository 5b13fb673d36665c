set_option maxRecDepth 20000 in
theorem lw11b : ∀ w ∈ (wsL_law0_r11.drop 11).take 4, w ∈ lw_tbl := fun w h => (goodIn_p ((wsL_law0_r11.drop 11).take 4) [213] (by decide +kernel) (by decide +kernel) w h).1
set_option maxRecDepth 100000 in
theorem lw11c : ∀ w ∈ ((wsL_law0_r11.drop 11).drop 4).take 3, w ∈ lw_tbl := by
  have e : ((wsL_law0_r11.drop 11).drop 4).take 3 = [Cond.methodLink RL 156 yL_acts, Cond.static yL_acts, Cond.code yL_acts cL_acts 16 (some .boolean)] := rfl
  rw [e]
  exact List.forall_mem_cons.mpr ⟨by decide +kernel, List.forall_mem_cons.mpr ⟨by decide +kernel, List.forall_mem_cons.mpr ⟨List.mem_of_getElem? (l := lw_tbl) (i := 221) rfl, fun _ h => absurd h List.not_mem_nil⟩⟩⟩
