theorem kr_n {r : Int} {A B : Prop} (h : KrP r A B) (hr : r = 0) : ¬ (A ∧ B) := by
  rcases h with h | h
  · exact absurd h.1 (by omega)
  · exact h.2
theorem kr_y {r : Int} {A B : Prop} (h : KrP r A B) (hr : ¬ r = 0) : A ∧ B := by
  rcases h with h | h
  · exact h.2
  · exact absurd h.1 hr
