/-! what is compared: both answer alike -/
section CMP
variable {x0 x1 x2 x3 x4 x5 x6 th ru n12 n13 s b m mm w q v c k : Int} {g8 g9 g10 g11 g20 g21 f3 f4 f5 f6 f7 f8 f9 f10 p A B C E W X Y Z : Int → Int}
theorem bu_eq (hPL : PLA x0 x1 x2 x3 x4 x5 x6 g8 g9 g10 g11 g20 g21 th ru f3 f4 f5 f6 f7 f8 f9 f10 n12 n13) (hW : ∀ q, 0 ≤ q → q < n13 → RWf f10 (f8 q) (f9 q)) (hST : StA s p b (f3 0) n12) (hn : 0 ≤ n12 ∧ n12 ≤ 7)
    (hq : BuP w q (gs (lc (nb s) g9 k) th) (sdV (gs (lc (nb s) g9 k) th) x3 (buD k (dp s) x0)) (buD k (dp s) x0) (og (bs (nb s) k) 7) (fun q => evR (dcf g20) (vls (nb s) g8 g9 k th x0 (dp s)) (stq g21 q) (g21 q)) ru)
    (hr : ¬ (k < 0 ∨ 1 < k ∨ w < 0 ∨ 4 < w))
    (hM : ThB c (¬ (0 ≤ k ∧ k ≤ 1 ∧ 0 ≤ w ∧ w ≤ 4)) (BuP w v (gs (lc p f5 k) n12) (sdV (gs (lc p f5 k) n12) (f3 3) (buD k b (f3 0))) (buD k b (f3 0)) (og (bs p k) n12) (fun q => evR f10 (vls p f4 f5 k n12 (f3 0) b) (f8 q) (f9 q)) n13)) : c = 0 ∧ v = q := by
  have hF := fq_eq hPL hW hn hST.1 hST.2.1 k
  obtain ⟨⟨a0, a1, a2, a3, a4, a5, a6, a7, a8⟩, b2, b3, b4⟩ := hPL
  obtain ⟨c1, c2, c3⟩ := hST
  obtain ⟨u1, u2⟩ := hM.2 (fun z => z (by omega))
  refine ⟨u1, ?_⟩
  have hP : ∀ t, 0 ≤ t → t < n12 → nb s t = p t := fun t t0 t1 => c1 t t0 (by omega)
  have hWt : ∀ t, 0 ≤ t → t < n12 → g9 t = f5 t := fun t t0 t1 => (b2 t t0 (by omega)).2.1
  have e1 : gs (lc (nb s) g9 k) th = gs (lc p f5 k) n12 := by rw [a7]; exact lc_ext hP hWt
  have e3 : og (bs (nb s) k) 7 = og (bs p k) n12 := by
    have h7 := og_more (c := bs (nb s) k) hn.1 (7 - n12).toNat (fun t t0 t1 => if_neg (fun z => by have := c3.2.2 t t0 (by omega); omega))
    rw [show n12 + (((7 - n12).toNat : Nat) : Int) = 7 by omega] at h7
    rw [h7]
    exact og_ext (fun t t0 t1 => by unfold bs; rw [hP t t0 t1])
  obtain ⟨q0, q1, q2, q3, q4⟩ := hq
  obtain ⟨v0, v1, v2, v3, v4⟩ := u2
  rw [e1] at q0
  rw [e1, a3, c2, a0] at q1
  rw [c2, a0] at q2
  rw [e3] at q3
  rw [a8] at q4
  have hw : w = 0 ∨ w = 1 ∨ w = 2 ∨ w = 3 ∨ w = 4 := by omega
  rcases hw with z | z | z | z | z
  · exact (v0 z).trans (q0 z).symm
  · exact (v1 z).trans (q1 z).symm
  · exact (v2 z).trans (q2 z).symm
  · exact (v3 z).trans (q3 z).symm
  · exact (brk_1 (q4 z) (v4 z) hF).symm
theorem bu_x (hr : k < 0 ∨ 1 < k ∨ w < 0 ∨ 4 < w) {P : Prop} (hM : ThB c (¬ (0 ≤ k ∧ k ≤ 1 ∧ 0 ≤ w ∧ w ≤ 4)) P) : c = 1 := hM.1 (by omega)
/-- the rows behind each move, in both -/
theorem mr_eq {D : Int} (hS : StA s p b D n12) (hR : RoA s m A B C E mm W X Y Z D n12) (hn : n12 ≤ 7) : ∀ j : Nat, (j : Int) < mm → ∀ t, 0 ≤ t → t ≤ 6 → mrw W X Z p mm j t = nb (nxS s E mm (mm - 1 - (j : Int))) t := by
  intro j
  induction j with
  | zero =>
    intro hj t t0 t6
    have e : nxS s E mm (mm - 1 - ((0 : Nat) : Int)) = s := if_pos (by omega)
    rw [e]
    exact (hS.1 t t0 t6).symm
  | succ j ih =>
    intro hj t t0 t6
    have h1 := ih (by omega)
    obtain ⟨-, -, -, -, -, k6⟩ := hR.2 (mm - 1 - (j : Int)) (by omega) (by omega)
    have e : nxS s E mm (mm - 1 - ((j + 1 : Nat) : Int)) = E (mm - 1 - (j : Int)) := by
      have e9 : mm - 1 - ((j + 1 : Nat) : Int) + 1 = mm - 1 - (j : Int) := by omega
      unfold nxS
      rw [e9, if_neg (by omega)]
    rw [e]
    by_cases z : W (mm - 1 - (j : Int)) = 2
    · obtain ⟨-, -, -, h4⟩ := k6.1 z
      have e2 : mrw W X Z p mm (j + 1) = mrw W X Z p mm j := if_pos z
      rw [e2, h1 t t0 t6]
      exact (h4 t t0 t6).symm
    · obtain ⟨x0, x1, -, h4, h5⟩ := k6.2 z
      have e2 : mrw W X Z p mm (j + 1) = uA (mrw W X Z p mm j) (X (mm - 1 - (j : Int))) (Z (mm - 1 - (j : Int))) := if_neg z
      rw [e2]
      by_cases y : t = X (mm - 1 - (j : Int))
      · rw [(uA_at _ _ _ _).1 y, y]
        exact h4.symm
      · rw [(uA_at _ _ _ _).2 y, h1 t t0 t6]
        exact (h5 t t0 t6 y).symm
theorem ba_eq {rc rm : Int} (hPL : PLA x0 x1 x2 x3 x4 x5 x6 g8 g9 g10 g11 g20 g21 th ru f3 f4 f5 f6 f7 f8 f9 f10 n12 n13) (hW : ∀ q, 0 ≤ q → q < n13 → RWf f10 (f8 q) (f9 q)) (hST : StA s p b (f3 0) n12) (hRO : RoA s m A B C E mm W X Y Z (f3 0) n12) (hn : 0 ≤ n12 ∧ n12 ≤ 7) (hD : 0 ≤ f3 0 ∧ f3 0 ≤ 11)
    (hc : BkG (BcP E B x0 x2 x3 x4 x5 x6 th ru g8 g9 g20 g21) A m.toNat rc) (hm : BkG (BmP W X Z p mm (f3 0) n12 n13 (f3 2) (f3 3) (f3 4) (f3 5) (f3 6) f4 f5 f8 f9 f10) W mm.toNat rm) : rc = rm := by
  have h0 := hRO.1
  subst h0
  refine bk_u _ _ _ (fun i i0 i1 => (hRO.2 i i0 (by omega)).1) (fun i i0 i1 hA r r' h1 h2 => ?_) hc hm
  obtain ⟨k1, k2, -, k4, k5, k6⟩ := hRO.2 i i0 (by omega)
  obtain ⟨y1, y2, y3, y4⟩ := k6.1 (k1.symm.trans hA)
  obtain ⟨g, hg, h3⟩ := h2
  have hdB : dp (mvS (E i) (B i)) = B i := dp_mv (by have := k5.1; omega) (by have := k5.1; omega)
  have hg2 : ∀ t, 0 ≤ t → t ≤ 6 → nb (mvS (E i) (B i)) t = g t := fun t t0 t6 => by
    rw [nb_mv t0 t6, hg t t0 (by omega), mr_eq hST hRO hn.2 (m - 1 - i).toNat (by omega) t t0 t6, show m - 1 - (((m - 1 - i).toNat : Nat) : Int) = i by omega]
    exact y4 t t0 t6
  have hF := fun bk => fq_eq hPL hW hn hg2 (rfl : dp (mvS (E i) (B i)) = dp (mvS (E i) (B i))) bk
  obtain ⟨⟨a0, a1, a2, a3, a4, a5, a6, a7, a8⟩, b2, b3, b4⟩ := hPL
  have hP : ∀ t, 0 ≤ t → t < n12 → nb (mvS (E i) (B i)) t = g t := fun t t0 t1 => hg2 t t0 (by omega)
  have hWt : ∀ t, 0 ≤ t → t < n12 → g9 t = f5 t := fun t t0 t1 => (b2 t t0 (by omega)).2.1
  have h4 := h3 (by have := k4.1; have := k5.1; omega)
  have h5 := h1 (by rw [hdB, a0]; have := k5.1; omega)
  have j0 := bki_eq (hF 0)
  have j1 := bki_eq (hF 1)
  rw [a0, a7] at j0 j1
  rw [a0, a2, a3, a4, a5, a6, a7, a8, lc_ext (b := 0) hP hWt, lc_ext (b := 1) hP hWt, y1] at h5
  rw [hdB, k2] at h5 j0 j1
  exact rt_u h5 h4 (and_congr j0 j1)
end CMP
