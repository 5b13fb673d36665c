theorem q6_byteOf {s : Int} {post : Int → Prop} (h0 : 0 ≤ s) (h1 : s ≤ 7) (h : post (sgB s)) : wpX6_byteOf s post := by
  have hc : s = 0 ∨ s = 1 ∨ s = 2 ∨ s = 3 ∨ s = 4 ∨ s = 5 ∨ s = 6 ∨ s = 7 := by omega
  unfold wpX6_byteOf
  rcases hc with rfl | rfl | rfl | rfl | rfl | rfl | rfl | rfl <;> repeat' (first | exact h | omega | refine And.intro ?_ ?_ | intro _)
