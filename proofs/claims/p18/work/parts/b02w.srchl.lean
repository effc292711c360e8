/-! both searches alike -/
theorem sa_vd {s b D n : Int} {p : Int → Int} (h : StA s p b D n) (hn : n ≤ 7) : Vd D p b := by
  obtain ⟨h1, h2, h3, h4, h5⟩ := h
  refine ⟨by rw [← h2]; exact h3, fun t t0 t1 => ?_⟩
  have e := h1 t t0 (by omega)
  have r := nb_r s t
  by_cases q : t < n
  · have := h4 t t0 q
    omega
  · have := h5 t (by omega) (by omega)
    omega
section SL
variable {x0 x1 x2 x3 x4 x5 x6 th ru n12 n13 s b : Int} {g8 g9 g10 g11 g20 g21 f3 f4 f5 f6 f7 f8 f9 f10 p : Int → Int}
theorem vb_of (hPL : PLA x0 x1 x2 x3 x4 x5 x6 g8 g9 g10 g11 g20 g21 th ru f3 f4 f5 f6 f7 f8 f9 f10 n12 n13) (h : StA s p b (f3 0) n12) (hn : n12 ≤ 7) : Vd x0 (nb s) (dp s) := by
  have hv := sa_vd h hn
  rw [hPL.1.1]
  refine ⟨by rw [h.2.1]; exact hv.1, fun t t0 t1 => ?_⟩
  rw [h.1 t t0 (by omega)]
  exact hv.2 t t0 t1
theorem pw_of (hPL : PLA x0 x1 x2 x3 x4 x5 x6 g8 g9 g10 g11 g20 g21 th ru f3 f4 f5 f6 f7 f8 f9 f10 n12 n13) (h : BdM f3 f4 f5 f6 f7 0 n12) : PwP th x0 x2 x1 g9 g11 g10 := by
  obtain ⟨⟨a0, a1, a2, a3, a4, a5, a6, a7, a8⟩, b2, b3, b4⟩ := hPL
  obtain ⟨⟨c0, c1, c2, c3, c4, c5, c6⟩, hd⟩ := h
  simp only [Int.zero_add] at c2 c3 c4 c5 hd
  refine ⟨fun t t0 t1 => ?_, fun t t0 t1 => ?_, by omega, by omega, fun t t0 t1 => ?_⟩
  · have e := (b2 t t0 t1).2.1
    have d := hd t t0 (by omega)
    omega
  · have e := (b2 t t0 t1).2.2.2
    have d := hd t t0 (by omega)
    omega
  · have e := (b2 t t0 t1).2.2.1
    have d := hd t t0 (by omega)
    omega
theorem fq_z (hPL : PLA x0 x1 x2 x3 x4 x5 x6 g8 g9 g10 g11 g20 g21 th ru f3 f4 f5 f6 f7 f8 f9 f10 n12 n13) (hW : ∀ q, 0 ≤ q → q < n13 → RWf f10 (f8 q) (f9 q)) (z : Int → Int) (c bk : Int) : ∀ q, 0 ≤ q → q < n13 → evR (dcf g20) (vls z g8 g9 bk th x0 c) (stq g21 q) (g21 q) = evR f10 (vls z f4 f5 bk n12 (f3 0) c) (f8 q) (f9 q) := by
  obtain ⟨⟨a0, a1, a2, a3, a4, a5, a6, a7, a8⟩, b2, b3, b4⟩ := hPL
  intro q h0 h1
  obtain ⟨u1, u2⟩ := b3 q h0 (by omega)
  have es : stq g21 q = f8 q := by
    rw [u2]
    unfold stq
    by_cases z : q = 0
    · rw [if_pos z, if_pos z]
    · rw [if_neg z, if_neg z]; exact (b3 (q - 1) (by omega) (by omega)).1
  have hR := hW q h0 h1
  rw [es, u1, ← ev_S hR (fun t t0 t1 => b4 q h0 (by omega) t t0 t1)]
  subst a7 a0
  refine ev_V hR (fun k k0 k6 => ?_)
  unfold vls
  by_cases q3 : k ≤ 3
  · rw [if_pos q3, if_pos q3]
    exact mc_ext (fun _ _ _ => rfl) (fun t t0 t1 => (b2 t t0 t1).1)
  · rw [if_neg q3, if_neg q3]
    by_cases q4 : k = 4
    · rw [if_pos q4, if_pos q4]
      exact lc_ext (fun _ _ _ => rfl) (fun t t0 t1 => (b2 t t0 t1).2.1)
    · rw [if_neg q4, if_neg q4]
      by_cases q5 : k = 5
      · rw [if_pos q5, if_pos q5]
      · rw [if_neg q5, if_neg q5]
        exact lc_ext (fun _ _ _ => rfl) (fun t t0 t1 => (b2 t t0 t1).2.1)
theorem rk_eq (hPL : PLA x0 x1 x2 x3 x4 x5 x6 g8 g9 g10 g11 g20 g21 th ru f3 f4 f5 f6 f7 f8 f9 f10 n12 n13) (hW : ∀ q, 0 ≤ q → q < n13 → RWf f10 (f8 q) (f9 q)) (z : Int → Int) (c : Int) : RKg (dcf g20) (stq g21) g21 ru th x0 g8 g9 z c ↔ RKg f10 f8 f9 n13 n12 (f3 0) f4 f5 z c := by
  have e : ru = n13 := hPL.1.2.2.2.2.2.2.2.2
  subst e
  unfold RKg
  rw [bki_eq (fq_z hPL hW z c 0), bki_eq (fq_z hPL hW z c 1)]
theorem s_eq (hPL : PLA x0 x1 x2 x3 x4 x5 x6 g8 g9 g10 g11 g20 g21 th ru f3 f4 f5 f6 f7 f8 f9 f10 n12 n13) (hW : ∀ q, 0 ≤ q → q < n13 → RWf f10 (f8 q) (f9 q)) (x y : Int) : Sg th x0 x2 g8 g11 g9 x3 x4 (bWr (x5 + x6)) (RKg (dcf g20) (stq g21) g21 ru th x0 g8 g9) x y ↔ Sg n12 (f3 0) (f3 2) f4 f7 f5 (f3 3) (f3 4) (bWr (f3 5 + f3 6)) (RKg f10 f8 f9 n13 n12 (f3 0) f4 f5) x y := by
  have hR := rk_eq hPL hW
  obtain ⟨⟨a0, a1, a2, a3, a4, a5, a6, a7, a8⟩, b2, b3, b4⟩ := hPL
  subst a7 a0 a2 a3 a4 a5 a6
  exact sg_i (fun t t0 t1 => (b2 t t0 t1).1) (fun t t0 t1 => (b2 t t0 t1).2.2.2) (fun t t0 t1 => (b2 t t0 t1).2.1) hR x y
theorem fw_0 : ∀ t : Fin 7, ¬ bAnd (bShr 0 (t.val : Int)) 1 = 1 := by decide +kernel
theorem fw_z {t : Int} (t0 : 0 ≤ t) (t1 : t < 7) : fwF 0 p t = p t := by
  have h := fw_0 ⟨t.toNat, by omega⟩
  simp only at h
  rw [show ((t.toNat : Nat) : Int) = t by omega] at h
  exact if_neg h
theorem db_eq {D x t : Int} (hD : 0 ≤ D ∧ D ≤ 11) (hV : VdX D (fun u => p u = 15) (cdC x)) (t0 : 0 ≤ t) (t1 : t < 7) (hp : ¬ p t = 15) : dbC t D x = dbM t D (cdC x) := by
  obtain ⟨q, a, hq, e, g⟩ := hV
  obtain ⟨e1, e2⟩ := cd_inj (rg_C x) (vd_rg hD.2 hq) e
  have hg := rg_C x
  have hv := hq.2 t t0 t1
  have ha := hq.1
  have h15 : ¬ q t = 15 := fun z => hp ((g t t0 t1).mp z)
  have hb := buD_r (b := nb x t - 12) (d := dp x) (D := D) (dp_r x) hD
  unfold dbM cdC
  rw [plc_cd hg t0 t1, dpc_cd hg]
  unfold dbC dbF thD
  rw [← e2 t t0 t1] at hv h15
  rw [← e1] at ha
  by_cases c1 : nb x t < 12
  · rw [if_pos c1, if_pos c1, if_neg (by omega)]
  · rw [if_neg c1, if_neg c1]
    by_cases c2 : nb x t < 14
    · rw [if_pos c2, if_neg (show ¬ nb x t = 14 by omega), hb]
      by_cases c3 : nb x t - 12 = 0
      · rw [if_pos c3, if_neg (by omega)]
      · rw [if_neg c3, if_neg (by omega)]
    · rw [if_neg c2, if_pos rfl, if_pos (by omega)]
theorem rex_l {t c : Int} {P : Prop} (e : th = n12) (hr : t < 0 ∨ th ≤ t) (hM : ThB c (¬ (0 ≤ t ∧ t < n12)) P) : c = 1 := hM.1 (by omega)
theorem re_eq {t q v c : Int} (hPL : PLA x0 x1 x2 x3 x4 x5 x6 g8 g9 g10 g11 g20 g21 th ru f3 f4 f5 f6 f7 f8 f9 f10 n12 n13) (hW : ∀ q, 0 ≤ q → q < n13 → RWf f10 (f8 q) (f9 q)) (hST : StA s p b (f3 0) n12) (hBD : BdM f3 f4 f5 f6 f7 0 n12) (hn : 0 ≤ n12 ∧ n12 ≤ 7) (hD : 0 ≤ f3 0 ∧ f3 0 ≤ 11)
    (hC : RccP (sv (nb s t) (g11 t)) q (dbC t x0 s) (Sg th x0 x2 g8 g11 g9 x3 x4 (bWr (x5 + x6)) (RKg (dcf g20) (stq g21) g21 ru th x0 g8 g9)) (cdC s) x0 t) (hr : ¬ (t < 0 ∨ th ≤ t))
    (hM : ThB c (¬ (0 ≤ t ∧ t < n12)) (RchP (svM (p t) (f7 t)) v (if p t = 14 then 0 else bShl 1 (p t)) (Sg n12 (f3 0) (f3 2) f4 f7 f5 (f3 3) (f3 4) (bWr (f3 5 + f3 6)) (RKg f10 f8 f9 n13 n12 (f3 0) f4 f5)) (cdS (fwF 0 p) b) (f3 0) t)) : c = 0 ∧ v = q := by
  have hS := s_eq hPL hW
  have hv := sa_vd hST hn.2
  have hvs := vb_of hPL hST hn.2
  have hst : cdS (fwF 0 p) b = cdC s := cd_ext (fun u u0 u1 => (fw_z u0 u1).trans (hST.1 u u0 (by omega)).symm) hST.2.1.symm
  obtain ⟨⟨a0, a1, a2, a3, a4, a5, a6, a7, a8⟩, b2, b3, b4⟩ := hPL
  have t0 : 0 ≤ t := by omega
  have t1 : t < n12 := by omega
  obtain ⟨hc, hm⟩ := hM.2 (fun z => z ⟨t0, t1⟩)
  refine ⟨hc, ?_⟩
  have ep := hST.1 t t0 (by omega)
  have ea := (b2 t t0 (by omega)).2.2.2
  have hpt := hv.2 t t0 (by omega)
  have h15 : ¬ p t = 15 := by
    have := hST.2.2.2.1 t t0 t1
    omega
  have haim := (hBD.2 t t0 t1).2.2.2.2.2.2
  rw [Int.zero_add] at haim
  rw [ep, ea] at hC
  by_cases z : svM (p t) (f7 t)
  · have z' : sv (p t) (f7 t) := by unfold svM at z; unfold sv; omega
    rw [hm.1 z, hC.1 z']
    unfold dbC
    rw [ep, a0]
    by_cases y : p t = 14
    · rw [if_pos y, y]
      rfl
    · rw [if_neg y]
      have hl : p t < 12 := by unfold svM at z; omega
      have e : thD (p t) (dp s) (f3 0) = p t := if_pos hl
      rw [e, if_neg (by omega)]
  · have z' : ¬ sv (p t) (f7 t) := by unfold svM at z; unfold sv; omega
    obtain ⟨L, n, sp, F, n0, hL⟩ := hC.2 z'
    obtain ⟨L', n', sp', F', n0', hL'⟩ := hm.2 z
    rw [hst] at F'
    have F2 := fnd_i hS rfl F
    obtain ⟨e1, e2⟩ := fnd_eq F2 F' (by decide)
    rcases hL with ⟨u1, u2⟩ | ⟨u1, u2⟩
    · rcases hL' with ⟨w1, w2⟩ | ⟨w1, w2⟩
      · rw [u2, w2]
      · exact absurd (e1.mpr w1) u1
    · rcases hL' with ⟨w1, w2⟩ | ⟨w1, w2⟩
      · exact absurd (e1.mp u1) w1
      · rw [u2, w2, ← og_in (g := dbM t (f3 0)) n0 n0' (e2 u1), a0]
        refine (og_ext (fun i i0 i1 => ?_)).symm
        have hr9 := ((F2.1 u1).2.2 (cdC (L i))).mp ⟨i, i0, i1, rfl⟩
        have hx : VdX (f3 0) (fun u => p u = 15) (cdC s) := by
          rw [← hst]
          exact ⟨_, _, ⟨hv.1, fun u u0 u1 => by rw [fw_z u0 u1]; exact hv.2 u u0 u1⟩, rfl, fun u u0 u1 => by rw [fw_z u0 u1]⟩
        exact db_eq hD (rc_vd hn.1 hn.2 hD.2 hx _ hr9) t0 (by omega) h15
end SL
