/-! what is there at the beginning of a DAY -/
theorem cd_vd {n a : Int} {f3 f4 f5 f6 f7 g : Int → Int} (h : BdM f3 f4 f5 f6 f7 0 n) (hn : 0 ≤ n ∧ n ≤ 7) (hg : ∀ t, 0 ≤ t → t < 7 → g t = 15 ∨ (t < n ∧ g t = f6 t)) (ha : a = f3 1) : Vd (f3 0) g a := by
  obtain ⟨⟨_, _, h1, h2, _⟩, h3⟩ := h
  rw [show (0 : Int) + 1 = 1 from rfl] at h1 h2
  refine ⟨by rw [ha]; exact ⟨h1, h2⟩, fun t t0 t1 => ?_⟩
  rcases hg t t0 t1 with e | ⟨e1, e2⟩
  · omega
  · obtain ⟨_, _, _, _, h8, h9, _⟩ := h3 t t0 e1
    rw [Int.zero_add] at h8 h9
    rw [e2]
    exact ⟨h8, Or.inl h9⟩
