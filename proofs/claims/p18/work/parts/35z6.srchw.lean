/-! ways: what is come to without some THINGS -/
section WY
variable {n D cap rope nd mb a0 : Int} {K A W p0 : Int → Int} {RK : (Int → Int) → Int → Prop}
/-- the places if the set G is gone -/
noncomputable def gnF (G : Int → Prop) (p : Int → Int) : Int → Int := fun t => @ite _ (G t) (Classical.propDecidable _) 15 (p t)
theorem gn_y {G : Int → Prop} {p : Int → Int} {t : Int} (h : G t) : gnF G p t = 15 := by unfold gnF; exact if_pos h
theorem gn_n {G : Int → Prop} {p : Int → Int} {t : Int} (h : ¬ G t) : gnF G p t = p t := by unfold gnF; exact if_neg h
/-- the places of a state in which E is gone, if B is gone instead: what was in E lies outside -/
noncomputable def mgF (E B : Int → Prop) (o p : Int → Int) : Int → Int := fun t => @ite _ (B t) (Classical.propDecidable _) 15 (@ite _ (E t) (Classical.propDecidable _) (o t) (p t))
theorem mg_b {E B : Int → Prop} {o p : Int → Int} {t : Int} (h : B t) : mgF E B o p t = 15 := by unfold mgF; exact if_pos h
theorem mg_e {E B : Int → Prop} {o p : Int → Int} {t : Int} (h : ¬ B t) (h' : E t) : mgF E B o p t = o t := by unfold mgF; rw [if_neg h, if_pos h']
theorem mg_n {E B : Int → Prop} {o p : Int → Int} {t : Int} (h : ¬ B t) (h' : ¬ E t) : mgF E B o p t = p t := by unfold mgF; rw [if_neg h, if_neg h']
/-- what doesn't ride -/
def NoR (B : Int → Prop) (p : Int → Int) : Prop := ∀ t, 0 ≤ t → t < 7 → B t → ¬ p t = 12 ∧ ¬ p t = 13
def RkD (n : Int) (RK : (Int → Int) → Int → Prop) : Prop := ∀ (z z' : Int → Int) (b : Int), dgq n z z' → RK z b → RK z' b
theorem qr_dg {a y y' : Int} {z z' : Int → Int} (hR : RkD n RK) (hz : dgq n z z') (hy : ∀ d, 0 ≤ d → d ≤ D → y = cdS z d → y' = cdS z' d) (h : Qr n D cap W rope nd mb RK a z y) : Qr n D cap W rope nd mb RK a z' y' := by
  obtain ⟨⟨h1, h2⟩, h3, d, ⟨h4, h5⟩, h6⟩ := h
  have e0 : gs (lc z W 0) n = gs (lc z' W 0) n := lc_dg hz (Or.inl rfl)
  have e1 : gs (lc z W 1) n = gs (lc z' W 1) n := lc_dg hz (Or.inr rfl)
  exact ⟨⟨by rw [← e0]; exact h1, by rw [← e1]; exact h2⟩, hR z z' a hz h3, d, ⟨h4, by rw [← e0, ← e1]; exact h5⟩, hy d h4.1 h4.2.1 h6⟩
theorem plo_op {k A p a D : Int} (hp : 0 ≤ p ∧ (p ≤ D ∨ (12 ≤ p ∧ p ≤ 15))) (ha : 0 ≤ a ∧ a ≤ D) (hD : D ≤ 11) (hA : -1 ≤ A) : OpM k A p a D (plO p k A a D) := (op_eq (by omega) (by omega) ha hD hA).mpr (Or.inl rfl)
/-- one RIDE, told without B instead of E -/
theorem sim_s {E B : Int → Prop} {o p q z : Int → Int} {a y d : Int} (n0 : 0 ≤ n) (n7 : n ≤ 7) (hD : D ≤ 11) (hR : RkD n RK) (hV : Vd D p a) (hVq : Vd D q a) (ho : ∀ t, 0 ≤ t → t < 7 → ¬ o t = 12 ∧ ¬ o t = 13)
    (hE : ∀ t, 0 ≤ t → t < 7 → E t → p t = 15) (hq : ∀ t, 0 ≤ t → t < 7 → (B t → q t = 15) ∧ (¬ B t → ¬ E t → q t = p t)) (hqo : ∀ t, 0 ≤ t → t < n → ¬ B t → E t → OpM (K t) (A t) (q t) a D (o t)) (hqn : ∀ t, n ≤ t → t < 7 → ¬ B t → E t → o t = q t)
    (hS : Sg n D cap K A W rope nd mb RK (cdS p a) y) (hy : y = cdS z d) (hz : RgZ z d) (hB : NoR B z) : Sg n D cap K A W rope nd mb RK (cdS q a) (cdS (mgF E B o z) d) := by
  rw [sg_of n7 hD hV rfl] at hS
  rw [sg_of n7 hD hVq rfl]
  obtain ⟨z1, h1, h2, hQ⟩ := hS
  have hQ' := hQ
  obtain ⟨_, _, d1, g1, e1⟩ := hQ'
  have key : ∀ t, 0 ≤ t → t < 7 → (0 ≤ z1 t ∧ (z1 t ≤ D ∨ (12 ≤ z1 t ∧ z1 t ≤ 15))) ∧ (z1 t = 15 ↔ p t = 15) := by
    intro t t0 t1
    by_cases u : t < n
    · exact opm_v (hV.2 t t0 t1) hV.1 hD (h2 t t0 u)
    · rw [h1 t t0 t1 (Or.inr (by omega))]
      exact ⟨hV.2 t t0 t1, Iff.rfl⟩
  have hz1 : RgZ z1 d1 := ⟨⟨g1.1.1, by have := g1.1.2.1; omega⟩, fun t t0 t1 => by have := (key t t0 t1).1; omega⟩
  obtain ⟨ed, ez⟩ := cd_inj hz1 hz (e1.symm.trans hy)
  have hm : ∀ t, 0 ≤ t → t < 7 → mgF E B o z t = mgF E B o z1 t := by
    intro t t0 t1
    by_cases b : B t
    · rw [mg_b b, mg_b b]
    · by_cases e : E t
      · rw [mg_e b e, mg_e b e]
      · rw [mg_n b e, mg_n b e]; exact (ez t t0 t1).symm
  refine ⟨mgF E B o z1, fun t t0 t1 ht => ?_, fun t t0 t1 => ?_, ?_⟩
  · have hn : n ≤ t := by omega
    have e9 := h1 t t0 t1 (Or.inr hn)
    obtain ⟨q1, q2⟩ := hq t t0 t1
    by_cases b : B t
    · rw [mg_b b]; exact (q1 b).symm
    · by_cases e : E t
      · rw [mg_e b e]; exact hqn t hn t1 b e
      · rw [mg_n b e, e9]; exact (q2 b e).symm
  · show OpM (K t) (A t) (q t) a D (mgF E B o z1 t)
    obtain ⟨q1, q2⟩ := hq t t0 (by omega)
    by_cases b : B t
    · rw [mg_b b, q1 b]; exact Or.inl rfl
    · by_cases e : E t
      · rw [mg_e b e]; exact hqo t t0 t1 b e
      · rw [mg_n b e, q2 b e]; exact h2 t t0 t1
  · refine qr_dg hR (fun t t0 t1 => ?_) (fun d' d0 d1' hd' => ?_) hQ
    · by_cases b : B t
      · have h9 := hB t t0 (by omega) b
        have e9 := ez t t0 (by omega)
        rw [mg_b b]
        omega
      · by_cases e : E t
        · have h9 := ho t t0 (by omega)
          have h8 := (key t t0 (by omega)).2.mpr (hE t t0 (by omega) e)
          rw [mg_e b e]
          omega
        · rw [mg_n b e]; exact ⟨Iff.rfl, Iff.rfl⟩
    · exact cd_ext hm (cd_inj ⟨⟨d0, by omega⟩, hz1.2⟩ hz (hd'.symm.trans hy)).1.symm
/-- ways on which nothing of B rides -/
def AvB (D : Int) (B : Int → Prop) (x : Int) : Prop := ∃ (p : Int → Int) (a : Int), Vd D p a ∧ x = cdS p a ∧ NoR B p
def RvN (S : Int → Int → Prop) (D : Int) (B : Int → Prop) (s : Int) : Nat → Int → Prop
  | 0, x => x = s
  | k + 1, x => ∃ y, RvN S D B s k y ∧ S y x ∧ AvB D B x
theorem rv_front {S : Int → Int → Prop} {B : Int → Prop} {s y : Int} (h : S s y) (hv : AvB D B y) : ∀ (k : Nat) (x : Int), RvN S D B y k x → RvN S D B s (k + 1) x
  | 0, x, hx => by
    have hx : x = y := hx
    rw [hx]
    exact ⟨s, rfl, h, hv⟩
  | k + 1, x, ⟨z, h1, h2, h3⟩ => ⟨z, rv_front h hv k z h1, h2, h3⟩
/-- what lies outside, behind the first RIDE -/
def ouF (n D a0 : Int) (K A p0 : Int → Int) : Int → Int := fun t => plO (p0 t) (K t) (A t) a0 D
theorem ou_v {t : Int} (hD : D ≤ 11) (hV : Vd D p0 a0) (hA : ∀ t, 0 ≤ t → t < n → -1 ≤ A t) (h15 : ∀ t, n ≤ t → t < 7 → p0 t = 15) (t0 : 0 ≤ t) (t1 : t < 7) : (0 ≤ ouF n D a0 K A p0 t ∧ (ouF n D a0 K A p0 t ≤ D ∨ (12 ≤ ouF n D a0 K A p0 t ∧ ouF n D a0 K A p0 t ≤ 15))) ∧ ¬ ouF n D a0 K A p0 t = 12 ∧ ¬ ouF n D a0 K A p0 t = 13 := by
  have hp := hV.2 t t0 t1
  refine ⟨?_, (plo_r ⟨hp.1, by omega⟩ hV.1 hD).2⟩
  by_cases q : t < n
  · exact (opm_v hp hV.1 hD (plo_op hp hV.1 hD (hA t t0 q))).1
  · have e : ouF n D a0 K A p0 t = 15 := by
      unfold ouF plO
      rw [if_neg (by rw [h15 t (by omega) t1]; decide)]
      exact h15 t (by omega) t1
    rw [e]; omega
theorem mg_vd {E B : Int → Prop} {p : Int → Int} {a : Int} (hD : D ≤ 11) (hV : Vd D p0 a0) (hA : ∀ t, 0 ≤ t → t < n → -1 ≤ A t) (h15 : ∀ t, n ≤ t → t < 7 → p0 t = 15) (hp : Vd D p a) : Vd D (mgF E B (ouF n D a0 K A p0) p) a := by
  refine ⟨hp.1, fun t t0 t1 => ?_⟩
  by_cases b : B t
  · rw [mg_b b]; omega
  · by_cases e : E t
    · rw [mg_e b e]; exact (ou_v hD hV hA h15 t0 t1).1
    · rw [mg_n b e]; exact hp.2 t t0 t1
theorem gn_vd {G : Int → Prop} (hV : Vd D p0 a0) : Vd D (gnF G p0) a0 := by
  refine ⟨hV.1, fun t t0 t1 => ?_⟩
  by_cases b : G t
  · rw [gn_y b]; omega
  · rw [gn_n b]; exact hV.2 t t0 t1
/-- the whole way, told without B instead of E -/
theorem sim_n {E B : Int → Prop} (n0 : 0 ≤ n) (n7 : n ≤ 7) (hD : D ≤ 11) (hR : RkD n RK) (hV : Vd D p0 a0) (hA : ∀ t, 0 ≤ t → t < n → -1 ≤ A t) (h15 : ∀ t, n ≤ t → t < 7 → p0 t = 15) : ∀ (k : Nat) (x : Int), RvN (Sg n D cap K A W rope nd mb RK) D B (cdS (gnF E p0) a0) k x → (x = cdS (gnF E p0) a0) ∨ ∃ (p : Int → Int) (a : Int), Vd D p a ∧ x = cdS p a ∧ (∀ t, 0 ≤ t → t < 7 → E t → p t = 15) ∧ Rc (Sg n D cap K A W rope nd mb RK) (cdS (gnF B p0) a0) (cdS (mgF E B (ouF n D a0 K A p0) p) a)
  | 0, x, h => Or.inl h
  | k + 1, x, ⟨y, h1, h2, z, d, hz, hx, hN⟩ => by
    have ho : ∀ t, 0 ≤ t → t < 7 → ¬ ouF n D a0 K A p0 t = 12 ∧ ¬ ouF n D a0 K A p0 t = 13 := fun t t0 t1 => (ou_v hD hV hA h15 t0 t1).2
    refine Or.inr ⟨z, d, hz, hx, ?_⟩
    obtain ⟨p', a', z', d', hV', e', hVz, ez, g⟩ := sg_vd n0 n7 hD h2
    have hz15 : ∀ t, 0 ≤ t → t < 7 → (z t = 15 ↔ p' t = 15) := by
      obtain ⟨_, f⟩ := cd_inj (vd_rg hD hVz) (vd_rg hD hz) (ez.symm.trans hx)
      intro t t0 t1
      rw [← f t t0 t1]
      exact g t t0 t1
    rcases sim_n n0 n7 hD hR hV hA h15 k y h1 with e | ⟨p, a, hp, e, hE, hc⟩
    · obtain ⟨ea, ef⟩ := cd_inj (vd_rg hD (gn_vd (G := E) hV)) (vd_rg hD hV') (e.symm.trans e')
      refine ⟨fun t t0 t1 he => (hz15 t t0 t1).mpr (by rw [← ef t t0 t1]; exact gn_y he), rc_s (rc_0 _ _) ?_⟩
      rw [e] at h2
      refine sim_s n0 n7 hD hR (gn_vd hV) (gn_vd hV) ho (fun t t0 t1 he => gn_y he) (fun t t0 t1 => ⟨fun b => gn_y b, fun b e => by rw [gn_n b, gn_n e]⟩) (fun t t0 t1 b e => ?_) (fun t t0 t1 b e => ?_) h2 hx (vd_rg hD hz) hN
      · rw [gn_n b]
        exact plo_op (hV.2 t t0 (by omega)) hV.1 hD (hA t t0 t1)
      · rw [gn_n b]
        unfold ouF plO
        rw [if_neg (by rw [h15 t t0 t1]; decide)]
    · obtain ⟨ea, ef⟩ := cd_inj (vd_rg hD hp) (vd_rg hD hV') (e.symm.trans e')
      refine ⟨fun t t0 t1 he => (hz15 t t0 t1).mpr (by rw [← ef t t0 t1]; exact hE t t0 t1 he), rc_s hc ?_⟩
      rw [e] at h2
      refine sim_s n0 n7 hD hR hp (mg_vd hD hV hA h15 hp) ho hE (fun t t0 t1 => ⟨fun b => mg_b b, fun b e => mg_n b e⟩) (fun t t0 t1 b e => ?_) (fun t t0 t1 b e => ?_) h2 hx (vd_rg hD hz) hN
      · rw [mg_e b e]; exact Or.inl rfl
      · rw [mg_e b e]
theorem rv_of {S : Int → Int → Prop} {s : Int} {P : Int → Prop} (h0 : P s) (hs : ∀ x y, P x → S x y → P y) (hP : ∀ x, P x → AvB D (fun _ => False) x) : ∀ (k : Nat) (x : Int), RcN S s k x → RvN S D (fun _ => False) s k x ∧ P x
  | 0, x, h => ⟨h, by rw [show x = s from h]; exact h0⟩
  | k + 1, x, ⟨y, h1, h2⟩ => by
    obtain ⟨a, b⟩ := rv_of h0 hs hP k y h1
    have c := hs y x b h2
    exact ⟨⟨y, a, h2, hP x c⟩, c⟩
/-- the same without less: where it is told with all, if all is there -/
noncomputable def phF (n D a0 : Int) (K A p0 : Int → Int) (G : Int → Prop) (x : Int) : Int := @ite _ (x = cdS (gnF G p0) a0) (Classical.propDecidable _) (cdS (gnF (fun _ => False) p0) a0) (cdS (mgF G (fun _ => False) (ouF n D a0 K A p0) (plc x)) (dpc x))
theorem ph_rc {G : Int → Prop} {x : Int} (n0 : 0 ≤ n) (n7 : n ≤ 7) (hD : D ≤ 11) (hR : RkD n RK) (hV : Vd D p0 a0) (hA : ∀ t, 0 ≤ t → t < n → -1 ≤ A t) (h15 : ∀ t, n ≤ t → t < 7 → p0 t = 15) (h : Rc (Sg n D cap K A W rope nd mb RK) (cdS (gnF G p0) a0) x) : Rc (Sg n D cap K A W rope nd mb RK) (cdS (gnF (fun _ => False) p0) a0) (phF n D a0 K A p0 G x) ∧ cdS (gnF G (plc (phF n D a0 K A p0 G x))) (dpc (phF n D a0 K A p0 G x)) = x := by
  obtain ⟨k, hk⟩ := h
  have hP0 : VdX D (fun t => gnF G p0 t = 15) (cdS (gnF G p0) a0) := vx_of (gn_vd hV)
  have hr := rv_of (D := D) (S := Sg n D cap K A W rope nd mb RK) (P := fun x => ∃ (p : Int → Int) (a : Int), Vd D p a ∧ x = cdS p a) ⟨_, _, gn_vd hV, rfl⟩ (fun x y _ hs => by
    obtain ⟨_, _, z, d, _, _, hz, e, _⟩ := sg_vd n0 n7 hD hs
    exact ⟨z, d, hz, e⟩) (fun x ⟨p, a, hp, e⟩ => ⟨p, a, hp, e, fun _ _ _ f => f.elim⟩) k x hk
  by_cases q : x = cdS (gnF G p0) a0
  · have e : phF n D a0 K A p0 G x = cdS (gnF (fun _ => False) p0) a0 := by unfold phF; exact if_pos q
    have hg := vd_rg hD (gn_vd (G := fun _ => False) hV)
    rw [e]
    refine ⟨rc_0 _ _, ?_⟩
    rw [q]
    refine cd_ext (fun t t0 t1 => ?_) (dpc_cd hg)
    by_cases g : G t
    · rw [gn_y g, gn_y g]
    · rw [gn_n g, gn_n g, plc_cd hg t0 t1, gn_n (fun f => f)]
  · rcases sim_n n0 n7 hD hR hV hA h15 k x hr.1 with e | ⟨p, a, hp, e, hE, hc⟩
    · exact absurd e q
    · have hg := vd_rg hD hp
      have e9 : phF n D a0 K A p0 G x = cdS (mgF G (fun _ => False) (ouF n D a0 K A p0) p) a := by
        unfold phF
        rw [if_neg q, e]
        refine cd_ext (fun t t0 t1 => ?_) (dpc_cd hg)
        by_cases g : G t
        · rw [mg_e (fun f => f) g, mg_e (fun f => f) g]
        · rw [mg_n (fun f => f) g, mg_n (fun f => f) g, plc_cd hg t0 t1]
      have hm := vd_rg hD (mg_vd (K := K) (E := G) (B := fun _ => False) hD hV hA h15 hp)
      rw [e9]
      refine ⟨hc, ?_⟩
      rw [e]
      refine cd_ext (fun t t0 t1 => ?_) (dpc_cd hm)
      by_cases g : G t
      · rw [gn_y g]; exact (hE t t0 t1 g).symm
      · rw [gn_n g, plc_cd hm t0 t1, mg_n (fun f => f) g]
/-- without more THINGS there are never more STATES -/
theorem gone_le {G : Int → Prop} {N m sp sp' m' : Int} {L L' : Int → Int} (n0 : 0 ≤ n) (n7 : n ≤ 7) (hD : D ≤ 11) (hR : RkD n RK) (hV : Vd D p0 a0) (hA : ∀ t, 0 ≤ t → t < n → -1 ≤ A t) (h15 : ∀ t, n ≤ t → t < 7 → p0 t = 15) (hN : 0 ≤ N) (F : Fnd (Sg n D cap K A W rope nd mb RK) (cdS (gnF (fun _ => False) p0) a0) N sp L m) (hs : sp = 0) (F' : Fnd (Sg n D cap K A W rope nd mb RK) (cdS (gnF G p0) a0) N sp' L' m') : sp' = 0 := by
  refine Classical.byContradiction (fun q => ?_)
  obtain ⟨M, d, r⟩ := F'.2 q
  obtain ⟨f1, f2, f3⟩ := F.1 hs
  have h := pg_l (L := fun i => phF n D a0 K A p0 G (M i)) (M := L) (n := N + 1) (m := m) (fun i j i0 i1 j0 j1 e => by
    have e : phF n D a0 K A p0 G (M i) = phF n D a0 K A p0 G (M j) := e
    have hi := (ph_rc n0 n7 hD hR hV hA h15 (r i i0 i1)).2
    have hj := (ph_rc n0 n7 hD hR hV hA h15 (r j j0 j1)).2
    rw [e] at hi
    exact d i j i0 i1 j0 j1 (hi.symm.trans hj)) (fun i i0 i1 => (f3 _).mpr (ph_rc n0 n7 hD hR hV hA h15 (r i i0 i1)).1)
  omega
/-- a way that needs none of G is a way without G -/
theorem way_g {E G : Int → Prop} {k : Nat} {x t : Int} (n0 : 0 ≤ n) (n7 : n ≤ 7) (hD : D ≤ 11) (hR : RkD n RK) (hV : Vd D p0 a0) (hA : ∀ t, 0 ≤ t → t < n → -1 ≤ A t) (h15 : ∀ t, n ≤ t → t < 7 → p0 t = 15) (h : RvN (Sg n D cap K A W rope nd mb RK) D G (cdS (gnF E p0) a0) k x) (t0 : 0 ≤ t) (t1 : t < 7) (hE : ¬ E t) (hG : ¬ G t) : ∃ x', Rc (Sg n D cap K A W rope nd mb RK) (cdS (gnF G p0) a0) x' ∧ plc x' t = plc x t ∧ dpc x' = dpc x := by
  rcases sim_n n0 n7 hD hR hV hA h15 k x h with e | ⟨p, a, hp, e, _, hc⟩
  · refine ⟨_, rc_0 _ _, ?_⟩
    rw [e]
    have g1 := vd_rg hD (gn_vd (G := G) hV)
    have g2 := vd_rg hD (gn_vd (G := E) hV)
    rw [plc_cd g1 t0 t1, plc_cd g2 t0 t1, dpc_cd g1, dpc_cd g2, gn_n hE, gn_n hG]
    exact ⟨rfl, rfl⟩
  · refine ⟨_, hc, ?_⟩
    rw [e]
    have g1 := vd_rg hD (mg_vd (K := K) (E := E) (B := G) hD hV hA h15 hp)
    have g2 := vd_rg hD hp
    rw [plc_cd g1 t0 t1, plc_cd g2 t0 t1, dpc_cd g1, dpc_cd g2, mg_n hG hE]
    exact ⟨rfl, rfl⟩
end WY
