theorem mem_split {α : Type} {P : α → Prop} {l : List α} (k : Nat) (h1 : ∀ w ∈ l.take k, P w) (h2 : ∀ w ∈ l.drop k, P w) : ∀ w ∈ l, P w := fun w h => by
  rw [← List.take_append_drop k l] at h
  exact (List.mem_append.mp h).elim (h1 w) (h2 w)
set_option maxRecDepth 20000 in
theorem lwi_1 : ∀ w ∈ wsL_law0_r1, w ∈ lw_tbl := fun w h => (goodIn_p wsL_law0_r1 [35, 38] (by decide +kernel) (by decide +kernel) w h).1
set_option maxRecDepth 20000 in
theorem lwi_2 : ∀ w ∈ wsL_law0_r2, w ∈ lw_tbl := fun w h => (goodIn_p wsL_law0_r2 [43] (by decide +kernel) (by decide +kernel) w h).1
set_option maxRecDepth 20000 in
theorem lwi_3 : ∀ w ∈ wsL_law0_r3, w ∈ lw_tbl := fun w h => (goodIn_p wsL_law0_r3 [96, 102, 165, 180] (by decide +kernel) (by decide +kernel) w h).1
