/-! the head of a state's chain -/
theorem hs_v {m s v : Int} (hm : m = bWr (v * (-1640531535))) (h : s = bUshr m 22) : s = hS v := by
  unfold hS
  rw [← hm]
  exact h
