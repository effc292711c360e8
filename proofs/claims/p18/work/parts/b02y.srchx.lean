/-! BARS at the law -/
theorem rdx_j {S : Int → Int → Prop} {x0 r : Int} {P P' : Int → Prop} (hP : ∀ x, Rc S x0 x → (P x ↔ P' x)) (h : RdX S x0 P r) : RdX S x0 P' r := by
  obtain ⟨L, n, sp, F, n0, hL⟩ := h
  refine ⟨L, n, sp, F, n0, ?_⟩
  rcases hL with u | ⟨u1, u2⟩
  · exact Or.inl u
  · have hr : ∀ k, 0 ≤ k → k < n → Rc S x0 (L k) := fun k k0 k1 => ((F.1 u1).2.2 (L k)).mp ⟨k, k0, k1, rfl⟩
    refine Or.inr ⟨u1, ?_⟩
    rcases u2 with ⟨a, b⟩ | ⟨a, k, k0, k1, hk⟩
    · exact Or.inl ⟨a, fun k k0 k1 z => b k k0 k1 ((hP _ (hr k k0 k1)).mpr z)⟩
    · exact Or.inr ⟨a, k, k0, k1, (hP _ (hr k k0 k1)).mp hk⟩
theorem ng_of {s b D n : Int} {p : Int → Int} (h : StA s p b D n) : NgP n s := fun t t0 t1 => h.2.2.2.2 t t0 (by omega)
theorem ng_of2 {s b D n th : Int} {p : Int → Int} (h : StA s p b D n) (e : th = n) : NgP th s := by
  rw [e]
  exact ng_of h
theorem nn_of {s b D n : Int} {p : Int → Int} (h : StA s p b D n) (hD : 0 ≤ D ∧ D ≤ 11) (hn : n ≤ 7) : NnP n p := fun t t0 t1 z => by
  have e := h.1 t t0 (by omega)
  have h4 := h.2.2.2.1 t t0 t1
  omega
section SX
variable {x0 x1 x2 x3 x4 x5 x6 th ru n12 n13 s b : Int} {g8 g9 g10 g11 g20 g21 f3 f4 f5 f6 f7 f8 f9 f10 p : Int → Int}
theorem br_x {t d c : Int} {P : Prop} (e : th = n12) (e0 : x0 = f3 0) (hr : t < 0 ∨ th ≤ t ∨ d < 0 ∨ x0 < d) (hM : ThB c (¬ ((0 ≤ t ∧ t < n12) ∧ 0 ≤ d ∧ d ≤ f3 0)) P) : c = 1 := hM.1 (by omega)
theorem br_eq {t d q v c : Int} (hPL : PLA x0 x1 x2 x3 x4 x5 x6 g8 g9 g10 g11 g20 g21 th ru f3 f4 f5 f6 f7 f8 f9 f10 n12 n13) (hW : ∀ q, 0 ≤ q → q < n13 → RWf f10 (f8 q) (f9 q)) (hST : StA s p b (f3 0) n12) (hBD : BdM f3 f4 f5 f6 f7 0 n12) (hn : 0 ≤ n12 ∧ n12 ≤ 7) (hD : 0 ≤ f3 0 ∧ f3 0 ≤ 11)
    (hC : BrP (sv (nb s t) (g11 t)) q (if thD (nb s t) (dp s) x0 = d then -1 else 0) (BrR (Sg th x0 x2 g8 g11 g9 x3 x4 (bWr (x5 + x6)) (RKg (dcf g20) (stq g21) g21 ru th x0 g8 g9)) (nb s) (dp s) (PCd t x0 d)) th t) (hr : ¬ (t < 0 ∨ th ≤ t ∨ d < 0 ∨ x0 < d))
    (hM : ThB c (¬ ((0 ≤ t ∧ t < n12) ∧ 0 ≤ d ∧ d ≤ f3 0)) (BaM (svM (p t) (f7 t)) (if p t = 14 then 0 else bShl 1 (p t)) d (BrR (Sg n12 (f3 0) (f3 2) f4 f7 f5 (f3 3) (f3 4) (bWr (f3 5 + f3 6)) (RKg f10 f8 f9 n13 n12 (f3 0) f4 f5)) p b (PDb t (f3 0) d)) n12 t v)) : c = 0 ∧ v = q := by
  have hS := funext (fun x => funext (fun y => propext (s_eq hPL hW x y)))
  have hv := sa_vd hST hn.2
  have hnn := nn_of hST hD hn.2
  obtain ⟨⟨a0, a1, a2, a3, a4, a5, a6, a7, a8⟩, b2, b3, b4⟩ := hPL
  have t0 : 0 ≤ t := by omega
  have t1 : t < n12 := by omega
  obtain ⟨hc, hm⟩ := hM.2 (fun z => z ⟨⟨t0, t1⟩, by omega, by omega⟩)
  refine ⟨hc, ?_⟩
  have ep := hST.1 t t0 (by omega)
  have ed := hST.2.1
  have ea := (b2 t t0 (by omega)).2.2.2
  have hpt := hv.2 t t0 (by omega)
  have h15 := hnn t t0 t1
  have haim := (hBD.2 t t0 t1).2.2.2.2.2.2
  rw [Int.zero_add] at haim
  rw [ep, ea] at hC
  by_cases z : svM (p t) (f7 t)
  · have z' : sv (p t) (f7 t) := by unfold svM at z; unfold sv; omega
    have h1 := hC.1 z'
    unfold thD at h1
    rcases hm.1 z with ⟨m1, m2⟩ | ⟨m1, m2⟩
    · rw [m2, h1]
      by_cases y : p t = 14
      · rw [if_neg (show ¬ p t < 12 by omega), if_neg (show ¬ p t < 14 by omega), if_neg (show ¬ (-1 : Int) = d by omega)]
      · have hs : p t < 12 := by unfold svM at z; omega
        rw [if_neg y] at m1
        rw [if_pos hs, if_neg (fun e => ?_)]
        rw [e] at m1
        have h9 : btF (bShl 1 d) d = true := (bt_one (by omega) (by omega) (by omega) (by omega)).mpr rfl
        exact absurd (h9.symm.trans ((bt_and (by omega) (by omega)).mp m1)) (by decide)
    · rw [m2, h1]
      by_cases y : p t = 14
      · rw [if_pos y] at m1
        exact absurd ((bt_and (by omega) (by omega)).mpr (bt_0 d)) m1
      · have hs : p t < 12 := by unfold svM at z; omega
        rw [if_neg y] at m1
        have h9 : btF (bShl 1 (p t)) d = true := by
          cases hb : btF (bShl 1 (p t)) d with
          | false => exact absurd ((bt_and (by omega) (by omega)).mpr hb) m1
          | true => rfl
        have e := (bt_one (by omega) (by omega) (by omega) (by omega)).mp h9
        rw [if_pos hs, if_pos e.symm]
  · have z' : ¬ sv (p t) (f7 t) := by
      intro y
      refine z ?_
      unfold sv at y
      unfold svM
      omega
    have hE := hC.2 z'
    rw [hS, a7] at hE
    refine bre_u ?_ (hm.2 z) (bre_i (fun w g hw h => ?_) hE)
    · exact fun w a b q q' => rd_u q q'
    have h : RdX _ (cdS (fwF w (nb s)) (dp s)) (PCd t x0 d) g := h
    rw [cd_ext (q := fwF w p) (b := b) (fun u u0 u1 => by unfold fwF; rw [hST.1 u u0 (by omega)]) ed, a0] at h
    have hst : Vd (f3 0) (fwF w p) b := by
      refine ⟨hv.1, fun u u0 u1 => ?_⟩
      unfold fwF
      by_cases q : bAnd (bShr w u) 1 = 1
      · rw [if_pos q]; omega
      · rw [if_neg q]; exact hv.2 u u0 u1
    have hpw : ¬ fwF w p t = 15 := by
      have h9 := hw.2.2.2
      unfold fwF
      rw [if_neg (by omega)]
      exact h15
    exact rdx_j (fun x hx => pdb_pc hD.2 (rc_vd hn.1 hn.2 hD.2 (vx_of hst) _ hx) t0 (by omega) hpw (by omega) (by omega)) h
end SX
