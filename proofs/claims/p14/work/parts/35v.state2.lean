/-! rows for the contracts of both programs -/
theorem buD_y {b d D r : Int} (h : b = 0) (hr : r = d) : r = buD b d D := hr.trans (if_pos h).symm
theorem buD_n {b d D r x : Int} (h : ¬ b = 0) (hr : r = bWr (x - d)) (hx : x = D) : r = buD b d D := by
  rw [hr, hx]
  exact (if_neg h).symm
abbrev svM (p a : Int) : Prop := p = 14 ∨ (¬ a = -1 ∧ p = a)
def unA (k a d : Int) : Int := if k = 3 ∧ a = d then 14 else d
theorem plo_y {p p' k a d D c r : Int} (hp : p = 12 ∨ p = 13) (hq : p' = p) (hc : c = buD (p' - 12) d D) (hr : r = unA k a c) : r = plO p k a d D := by
  subst hq hc
  rw [hr]
  unfold plO unA
  rw [if_pos hp]
  by_cases z : k = 3 ∧ a = buD (p' - 12) d D
  · rw [if_pos z, if_pos ⟨z.1, z.2.symm⟩]
  · rw [if_neg z, if_neg (fun y => z ⟨y.1, y.2.symm⟩)]
theorem pv_y {v : Int → Int} {s g w : Int} (h : 0 ≤ s) (hs : s = g) (hw : w = s) : w = pv v g := by
  subst hs
  rw [hw]
  exact (if_pos h).symm
theorem pv_n {v : Int → Int} {s g w i : Int} (h : ¬ 0 ≤ s) (hs : s = g) (hi : i = -1 - s) (hw : w = v i) : w = pv v g := by
  subst hs hi
  rw [hw]
  exact (if_neg h).symm
theorem ri_bin2 {sg v H H' : Int → Int} {a x x' n n' w j s z1 z2 i1 i2 : Int} (h : RunI sg v a x H n) (hx : a ≤ x) (hs1 : s ≤ -20) (hs2 : ¬ s = -28) (hs : s = sg x) (h2n : 2 ≤ n) (hw : w = rk s z1 z2) (e1 : z1 = H i1) (hi1 : i1 = n - 2) (e2 : z2 = H i2) (hi2 : i2 = n - 1) (eH : H' = uA H j w) (hj : j = n - 2) (hn : n' = n - 1) (hx' : x' = x + 1) : RunI sg v a x' H' n' := by
  subst hi1 hi2 e1 e2 hs
  exact ri_bin h hx hs1 hs2 h2n hw hj eH hn hx'
theorem ri_not2 {sg v H H' : Int → Int} {a x x' n n' w s z i j : Int} (h : RunI sg v a x H n) (hx : a ≤ x) (hs1 : s = -28) (hs : s = sg x) (h1n : 1 ≤ n) (ez : z = H i) (hi : i = n - 1) (hw : (z = 0 ∧ w = 1) ∨ (¬ z = 0 ∧ w = 0)) (eH : H' = uA H j w) (hj : j = n - 1) (hn : n' = n) (hx' : x' = x + 1) : RunI sg v a x' H' n' := by
  subst hi ez hj hn
  exact ri_not h hx (hs.symm.trans hs1) h1n hw eH hx'
theorem ri_ev2 {sg v H : Int → Int} {a x e n : Int} (h : RunI sg v a x H n) (hx : x = e) (hn : 1 ≤ n) : H 0 = evR sg v a e := by
  subst hx
  exact ri_ev h hn
theorem ev_V {sg v v' : Int → Int} {b e : Int} (h : RWf sg b e) (hv : ∀ k, 0 ≤ k → k ≤ 6 → v k = v' k) : evR sg v b e = evR sg v' b e := by
  obtain ⟨-, -, -, f, -, -, h3⟩ := h
  refine ev_ext (fun _ _ _ => rfl) hv (fun t h0 h1 => ?_) (fun t h0 h1 h2 => ?_)
  · have := h3 t h0 h1
    omega
  · have := h3 t h0 h1
    omega
theorem ev_S {sg sg' v : Int → Int} {b e : Int} (h : RWf sg b e) (hs : ∀ t, b ≤ t → t < e → sg t = sg' t) : evR sg v b e = evR sg' v b e := by
  obtain ⟨-, -, -, f, -, -, h3⟩ := h
  refine ev_ext hs (fun _ _ _ => rfl) (fun t h0 h1 => ?_) (fun t h0 h1 h2 => ?_)
  · have := h3 t h0 h1
    omega
  · have := h3 t h0 h1
    omega
theorem ask7 {g0 g1 g2 g3 g4 g5 g6 g7 p K W : Int → Int} {b n D d c0 c1 c2 c3 c4 c5 c6 : Int} (e1 : g1 = uA g0 0 c0) (e2 : g2 = uA g1 1 c1) (e3 : g3 = uA g2 2 c2) (e4 : g4 = uA g3 3 c3) (e5 : g5 = uA g4 4 c4) (e6 : g6 = uA g5 5 c5) (e7 : g7 = uA g6 6 c6) (h0 : c0 = gs (mc p K b 0) n) (h1 : c1 = gs (mc p K b 1) n) (h2 : c2 = gs (mc p K b 2) n) (h3 : c3 = gs (mc p K b 3) n) (h4 : c4 = gs (lc p W b) n) (h5 : c5 = buD b d D) (h6 : c6 = gs (lc p W (1 - b)) n) : ∀ k, 0 ≤ k → k ≤ 6 → g7 k = vls p K W b n D d k := by
  intro k k0 k1
  subst e1 e2 e3 e4 e5 e6 e7 h0 h1 h2 h3 h4 h5 h6
  rcases (show k = 0 ∨ k = 1 ∨ k = 2 ∨ k = 3 ∨ k = 4 ∨ k = 5 ∨ k = 6 by omega) with q | q | q | q | q | q | q <;> subst q <;> simp [uA, vls]
theorem bki_s2 {f : Int → Int} {x x' : Int} (h : bkI f x) (hz : ¬ f x = 0) (hx : x' = x + 1) : bkI f x' := bki_s h rfl hz hx
theorem brk_y2 {f : Int → Int} {x n : Int} (h : bkI f x) (h0 : 0 ≤ x) (hn : x < n) (hz : f x = 0) : brkP x f n := brk_y h h0 hn rfl hz
theorem brk_i {f : Int → Int} {r n : Int} (h : brkP r f n) : (r = -1 → bkI f n) ∧ (¬ r = -1 → ¬ bkI f n) := by
  rcases h with ⟨a, b⟩ | ⟨a, b, c, d⟩
  · exact ⟨fun _ => b, fun z => absurd a z⟩
  · exact ⟨fun z => by omega, fun _ z => z r a b c⟩
def KrP (r : Int) (A B : Prop) : Prop := (r = 1 ∧ A ∧ B) ∨ (r = 0 ∧ ¬ (A ∧ B))
theorem kr_1 {f g : Int → Int} {r a b n : Int} (h1 : brkP a f n) (h2 : brkP b g n) (ha : a = -1) (hb : b = -1) (hr : r = 1) : KrP r (bkI f n) (bkI g n) := Or.inl ⟨hr, (brk_i h1).1 ha, (brk_i h2).1 hb⟩
theorem kr_a {f g : Int → Int} {r a n : Int} (h1 : brkP a f n) (ha : ¬ a = -1) (hr : r = 0) : KrP r (bkI f n) (bkI g n) := Or.inr ⟨hr, fun z => (brk_i h1).2 ha z.1⟩
theorem kr_b {f g : Int → Int} {r b n : Int} (h2 : brkP b g n) (hb : ¬ b = -1) (hr : r = 0) : KrP r (bkI f n) (bkI g n) := Or.inr ⟨hr, fun z => (brk_i h2).2 hb z.2⟩
theorem kr_n {r : Int} {A B : Prop} (h : KrP r A B) (hr : r = 0) : ¬ (A ∧ B) := by
  rcases h with h | h
  · exact absurd h.1 (by omega)
  · exact h.2
theorem kr_y {r : Int} {A B : Prop} (h : KrP r A B) (hr : ¬ r = 0) : A ∧ B := by
  rcases h with h | h
  · exact h.2
  · exact absurd h.1 hr
/-! the least and the greatest excess -/
def LMk (lo hi : Int) (g : Int → Int) (f st : Int) (k : Nat) : Prop := (∀ N, N ≤ 1000000000 → (lo < N ↔ anL g N f st k)) ∧ ∀ M, -1000000000 ≤ M → (M < hi ↔ anH g M f st k)
theorem lm_0 {lo hi f st : Int} {g : Int → Int} {k : Nat} (h1 : lo = 1000000000) (h2 : hi = -1000000000) (hk : k = 0) : LMk lo hi g f st k := by
  subst hk
  exact ⟨fun N hN => ⟨fun z => absurd z (by omega), fun z => z.elim⟩, fun M hM => ⟨fun z => absurd z (by omega), fun z => z.elim⟩⟩
theorem lm_k {lo hi lo' hi' f st v : Int} {g : Int → Int} {k : Nat} (h : LMk lo hi g f st k) (hv : v = g (f + st * (k : Int))) (h1 : (lo' = lo ∨ lo' = v) ∧ lo' ≤ lo ∧ lo' ≤ v) (h2 : (hi' = hi ∨ hi' = v) ∧ hi ≤ hi' ∧ v ≤ hi') : LMk lo' hi' g f st (k + 1) := by
  obtain ⟨a, b⟩ := h
  refine ⟨fun N hN => ?_, fun M hM => ?_⟩
  · show lo' < N ↔ (anL g N f st k ∨ g (f + st * (k : Int)) < N)
    rw [← a N hN, ← hv]
    omega
  · show M < hi' ↔ (anH g M f st k ∨ M < g (f + st * (k : Int)))
    rw [← b M hM, ← hv]
    omega
theorem lm_s {lo hi lo' hi' f st v x x' : Int} {g : Int → Int} (h : LMk lo hi g f st (st * (x - f)).toNat) (hst : st = 1 ∨ st = -1) (hx : 0 ≤ st * (x - f)) (hv : v = g x) (h1 : (lo' = lo ∨ lo' = v) ∧ lo' ≤ lo ∧ lo' ≤ v) (h2 : (hi' = hi ∨ hi' = v) ∧ hi ≤ hi' ∧ v ≤ hi') (hx' : x' = x + st) : LMk lo' hi' g f st (st * (x' - f)).toNat := by
  subst hx'
  rcases hst with q | q
  · subst q
    rw [show (1 * (x + 1 - f)).toNat = (1 * (x - f)).toNat + 1 by omega]
    exact lm_k h (by rw [hv]; congr 1; omega) h1 h2
  · subst q
    rw [show (-1 * (x + -1 - f)).toNat = (-1 * (x - f)).toNat + 1 by omega]
    exact lm_k h (by rw [hv]; congr 1; omega) h1 h2
def LM (lo hi : Int) (g : Int → Int) (f t : Int) : Prop := LMk lo hi g f (stD f t) (kD f t)
theorem lm_x {lo hi l0 l1 r D f t st x : Int} (h : LMk lo hi (exM l0 l1 r D st) f st (st * (x - f)).toNat) (hst : st = stD f t) (hx : x = t) : LM lo hi (exM l0 l1 r D (stD f t)) f t := by
  subst hx
  unfold LM kD
  rw [← hst]
  exact h
theorem ex_up {l0 l1 rope D a c1 c2 v : Int} (h1 : c1 = sdV l0 rope (buD 0 a D)) (h2 : c2 = sdV l1 rope (buD 1 a D)) (hv : v = bWr (c1 - c2)) : v = exM l0 l1 rope D 1 a := by
  rw [hv, h1, h2]
  rfl
theorem ex_dn {l0 l1 rope D a c1 c2 v : Int} (h1 : c1 = sdV l1 rope (buD 1 a D)) (h2 : c2 = sdV l0 rope (buD 0 a D)) (hv : v = bWr (c1 - c2)) : v = exM l0 l1 rope D (-1) a := by
  rw [hv, h1, h2]
  rfl
theorem stD_up {f t : Int} (h : f < t) : (1 : Int) = stD f t := (if_pos h).symm
theorem stD_dn {f t : Int} (h : ¬ f < t) : (-1 : Int) = stD f t := (if_neg h).symm
def swM (w lo hi nd mo br : Int) : Int := if w = 2 then 0 else if lo < nd then 6 else if bWr (mo + (if w = 1 then br else 0)) < hi then 7 else 0
theorem sw_2 {w lo hi nd mo br r : Int} (h : w = 2) (hr : r = 0) : r = swM w lo hi nd mo br := hr.trans (if_pos h).symm
theorem sw_6 {w lo hi nd mo br r : Int} (h : ¬ w = 2) (h6 : lo < nd) (hr : r = 6) : r = swM w lo hi nd mo br := by
  unfold swM
  rw [if_neg h, if_pos h6]
  exact hr
theorem sw_z {w lo hi nd mo br r z m s : Int} (h : ¬ w = 2) (h6 : ¬ lo < nd) (hz : z = bWr (m + s)) (hm : m = mo) (hs : (w = 1 ∧ s = br) ∨ (¬ w = 1 ∧ s = 0)) (hr : (z < hi ∧ r = 7) ∨ (¬ z < hi ∧ r = 0)) : r = swM w lo hi nd mo br := by
  unfold swM
  have e : (if w = 1 then br else 0) = s := by
    rcases hs with q | q
    · rw [if_pos q.1]; exact q.2.symm
    · rw [if_neg q.1]; exact q.2.symm
  rw [if_neg h, if_neg h6, e, ← hm, ← hz]
  rcases hr with q | q
  · rw [if_pos q.1]; exact q.2
  · rw [if_neg q.1]; exact q.2
theorem sw_ex {w lo hi nd mo br r f t : Int} {g : Int → Int} (h : LM lo hi g f t) (hw : ¬ w = 2) (hb : nd ≤ 1000000000 ∧ -1000000000 ≤ bWr (mo + (if w = 1 then br else 0))) (hr : r = swM w lo hi nd mo br) : exT r g nd (bWr (mo + (if w = 1 then br else 0))) f t := by
  have a := h.1 nd hb.1
  have b := h.2 _ hb.2
  unfold swM at hr
  rw [if_neg hw] at hr
  unfold exT
  rw [← a, ← b]
  by_cases q : lo < nd
  · rw [if_pos q] at hr; exact Or.inl ⟨hr, q⟩
  · rw [if_neg q] at hr
    by_cases z : bWr (mo + (if w = 1 then br else 0)) < hi
    · rw [if_pos z] at hr; exact Or.inr (Or.inl ⟨hr, q, z⟩)
    · rw [if_neg z] at hr; exact Or.inr (Or.inr ⟨hr, q, z⟩)
theorem lim_r {mo br w : Int} (h : 0 ≤ mo ∧ mo ≤ 999 ∧ 0 ≤ br ∧ br ≤ 999) : -1000000000 ≤ bWr (mo + (if w = 1 then br else 0)) := by
  by_cases q : w = 1
  · rw [if_pos q, bWr_eq ⟨by omega, by omega⟩]; omega
  · rw [if_neg q, bWr_eq ⟨by omega, by omega⟩]; omega
/-! the trouble of a ride -/
def okD (d w D : Int) : Prop := 0 ≤ d ∧ d ≤ D ∧ 0 ≤ w ∧ w ≤ 2
def RtP (r D bu l0 l1 cap : Int) (RK : Prop) (rope nd mo br d w : Int) : Prop :=
  (¬ okD d w D → r = 1) ∧ (okD d w D → (d = bu → r = 3) ∧ (¬ d = bu → (¬ (l0 ≤ cap ∧ l1 ≤ cap) → r = 4) ∧ (l0 ≤ cap ∧ l1 ≤ cap → (¬ RK → r = 5) ∧ (RK → (w = 2 → r = 0) ∧ (¬ w = 2 → exT r (exM l0 l1 rope D (stD bu d)) nd (bWr (mo + (if w = 1 then br else 0))) bu d)))))
section RT
variable {r r' D bu l0 l1 cap rope nd mo br d w : Int} {RK RK' : Prop}
theorem rt_1 (h : ¬ (0 ≤ d ∧ d ≤ D ∧ 0 ≤ w ∧ w ≤ 2)) (hr : r = 1) : RtP r D bu l0 l1 cap RK rope nd mo br d w := ⟨fun _ => hr, fun z => absurd z h⟩
theorem rt_3 (h : 0 ≤ d ∧ d ≤ D ∧ 0 ≤ w ∧ w ≤ 2) (h3 : d = bu) (hr : r = 3) : RtP r D bu l0 l1 cap RK rope nd mo br d w := ⟨fun z => absurd h z, fun _ => ⟨fun _ => hr, fun z => absurd h3 z⟩⟩
theorem rt_4 (h : 0 ≤ d ∧ d ≤ D ∧ 0 ≤ w ∧ w ≤ 2) (h3 : ¬ d = bu) (h4 : ¬ (l0 ≤ cap ∧ l1 ≤ cap)) (hr : r = 4) : RtP r D bu l0 l1 cap RK rope nd mo br d w := ⟨fun z => absurd h z, fun _ => ⟨fun z => absurd z h3, fun _ => ⟨fun _ => hr, fun z => absurd z h4⟩⟩⟩
theorem rt_5 (h : 0 ≤ d ∧ d ≤ D ∧ 0 ≤ w ∧ w ≤ 2) (h3 : ¬ d = bu) (h4 : l0 ≤ cap ∧ l1 ≤ cap) (h5 : ¬ RK) (hr : r = 5) : RtP r D bu l0 l1 cap RK rope nd mo br d w := ⟨fun z => absurd h z, fun _ => ⟨fun z => absurd z h3, fun _ => ⟨fun z => absurd h4 z, fun _ => ⟨fun _ => hr, fun z => absurd z h5⟩⟩⟩⟩
theorem rt_w (h : 0 ≤ d ∧ d ≤ D ∧ 0 ≤ w ∧ w ≤ 2) (h3 : ¬ d = bu) (h4 : l0 ≤ cap ∧ l1 ≤ cap) (h5 : RK) (h6 : w = 2) (hr : r = 0) : RtP r D bu l0 l1 cap RK rope nd mo br d w := ⟨fun z => absurd h z, fun _ => ⟨fun z => absurd z h3, fun _ => ⟨fun z => absurd h4 z, fun _ => ⟨fun z => absurd h5 z, fun _ => ⟨fun _ => hr, fun z => absurd h6 z⟩⟩⟩⟩⟩
theorem rt_x (h : 0 ≤ d ∧ d ≤ D ∧ 0 ≤ w ∧ w ≤ 2) (h3 : ¬ d = bu) (h4 : l0 ≤ cap ∧ l1 ≤ cap) (h5 : RK) (h6 : ¬ w = 2) (hr : exT r (exM l0 l1 rope D (stD bu d)) nd (bWr (mo + (if w = 1 then br else 0))) bu d) : RtP r D bu l0 l1 cap RK rope nd mo br d w := ⟨fun z => absurd h z, fun _ => ⟨fun z => absurd z h3, fun _ => ⟨fun z => absurd h4 z, fun _ => ⟨fun z => absurd h5 z, fun _ => ⟨fun z => absurd z h6, fun _ => hr⟩⟩⟩⟩⟩
theorem rt_u (h : RtP r D bu l0 l1 cap RK rope nd mo br d w) (h' : RtP r' D bu l0 l1 cap RK' rope nd mo br d w) (hK : RK ↔ RK') : r = r' := by
  by_cases q : okD d w D
  · have a := h.2 q
    have b := h'.2 q
    by_cases q3 : d = bu
    · rw [a.1 q3, b.1 q3]
    · have a := a.2 q3
      have b := b.2 q3
      by_cases q4 : l0 ≤ cap ∧ l1 ≤ cap
      · have a := a.2 q4
        have b := b.2 q4
        by_cases q5 : RK
        · have a := a.2 q5
          have b := b.2 (hK.mp q5)
          by_cases q6 : w = 2
          · rw [a.1 q6, b.1 q6]
          · exact exT_1 (a.2 q6) (b.2 q6) (fun _ => rfl)
        · rw [a.1 q5, b.1 (fun z => q5 (hK.mpr z))]
      · rw [a.1 q4, b.1 q4]
  · rw [h.1 q, h'.1 q]
theorem rt_sw {lo hi : Int} (h : 0 ≤ d ∧ d ≤ D ∧ 0 ≤ w ∧ w ≤ 2) (h3 : ¬ d = bu) (h4 : l0 ≤ cap ∧ l1 ≤ cap) (h5 : RK) (hL : LM lo hi (exM l0 l1 rope D (stD bu d)) bu d) (hb : nd ≤ 99 ∧ 0 ≤ mo ∧ mo ≤ 999 ∧ 0 ≤ br ∧ br ≤ 999) (hr : r = swM w lo hi nd mo br) : RtP r D bu l0 l1 cap RK rope nd mo br d w := by
  by_cases q : w = 2
  · refine rt_w h h3 h4 h5 q ?_
    rw [hr]
    exact if_pos q
  · exact rt_x h h3 h4 h5 q (sw_ex hL q ⟨by omega, lim_r hb.2⟩ hr)
end RT
def jdg (k mv : Int) : Int := if k = 0 ∧ 60 ≤ mv then 8 else k
/-! rows of moves -/
def MvM (r n n' : Int) (W W' X X' Y Y' Z Z' : Int → Int) (w x y z : Int) : Prop := (r = 0 → n' = n + 1 ∧ W' = uA W n w ∧ X' = uA X n x ∧ Y' = uA Y n y ∧ Z' = uA Z n z) ∧ (¬ r = 0 → n' = n ∧ W' = W ∧ X' = X ∧ Y' = Y ∧ Z' = Z)
theorem mv_no {r n w x y z : Int} {W X Y Z : Int → Int} (h : ¬ r = 0) : MvM r n n W W X X Y Y Z Z w x y z := ⟨fun q => absurd q h, fun _ => ⟨rfl, rfl, rfl, rfl, rfl⟩⟩
theorem mv_ok {r n n' w x y z z' : Int} {W W' X X' Y Y' Z Z' : Int → Int} (hr : r = 0) (hn : n' = n + 1) (h : W' = uA W n w ∧ X' = uA X n x ∧ Y' = uA Y n y ∧ Z' = uA Z n z') (hz : z' = z) : MvM r n n' W W' X X' Y Y' Z Z' w x y z := ⟨fun _ => ⟨hn, h.1, h.2.1, h.2.2.1, hz ▸ h.2.2.2⟩, fun q => absurd hr q⟩
def PlM (r : Int) (p p' : Int → Int) (t v : Int) : Prop := (r = 0 → p' = uA p t v) ∧ (¬ r = 0 → p' = p)
theorem pl_no {r t v : Int} {p : Int → Int} (h : ¬ r = 0) : PlM r p p t v := ⟨fun q => absurd q h, fun _ => rfl⟩
theorem pl_ok {r t v v' : Int} {p p' : Int → Int} (hr : r = 0) (h : p' = uA p t v') (hv : v' = v) : PlM r p p' t v := ⟨fun _ => hv ▸ h, fun q => absurd hr q⟩
def ldM (n t b p a d D mv : Int) : Int := if ¬ (0 ≤ t ∧ t < n ∧ 0 ≤ b ∧ b ≤ 1) then 1 else if p = 12 ∨ p = 13 ∨ svM p a then 2 else if ¬ buD b d D = p then 3 else if mv = 60 then 8 else 0
def unM (n t p mv : Int) : Int := if ¬ (0 ≤ t ∧ t < n) then 1 else if ¬ (p = 12 ∨ p = 13) then 2 else if mv = 60 then 8 else 0
def thM (w K W A p d D : Int) : Int := if w = 0 then K else if w = 1 then W else if w = 2 then A else if w = 3 then (if p = 12 ∨ p = 13 then buD (p - 12) d D else if p = 14 then -1 else p) else if w = 4 then (if p = 12 ∨ p = 13 then p - 12 else -1) else (if svM p A then 1 else 0)
def Thr (c' r : Int) (bad : Prop) (v : Int) : Prop := (bad → c' = 1) ∧ (¬ bad → c' = 0 ∧ r = v)
theorem thr_x {c' r v : Int} {bad : Prop} (h : bad) (hc : c' = 1) : Thr c' r bad v := ⟨fun _ => hc, fun z => absurd h z⟩
theorem thr_k {c' r v : Int} {bad : Prop} (h : ¬ bad) (hc : c' = 0) (hr : r = v) : Thr c' r bad v := ⟨fun z => absurd z h, fun _ => ⟨hc, hr⟩⟩
def UnM (mv mv' r bu bu' : Int) (W X Z p p' : Int → Int) : Prop := (mv = 0 → r = -1 ∧ mv' = mv ∧ bu' = bu ∧ p' = p) ∧ (¬ mv = 0 → mv' = mv - 1 ∧ r = mv' ∧ (W (mv - 1) = 2 → bu' = Z (mv - 1) ∧ p' = p) ∧ (¬ W (mv - 1) = 2 → bu' = bu ∧ p' = uA p (X (mv - 1)) (Z (mv - 1))))
theorem un_0 {mv mv' r bu bu' : Int} {W X Z p p' : Int → Int} (h : mv = 0) (hr : r = -1 ∧ mv' = mv ∧ bu' = bu) (hp : p' = p) : UnM mv mv' r bu bu' W X Z p p' := ⟨fun _ => ⟨hr.1, hr.2.1, hr.2.2, hp⟩, fun z => absurd h z⟩
theorem un_r {mv mv' r bu bu' i j a b : Int} {W X Z p p' : Int → Int} (h : ¬ mv = 0) (hr : mv' = mv - 1 ∧ r = mv') (ha : a = W i) (hi : i = mv - 1) (h2 : a = 2) (hb : b = Z j) (hj : j = mv - 1) (hu : bu' = b) (hp : p' = p) : UnM mv mv' r bu bu' W X Z p p' := by
  subst hi hj ha
  exact ⟨fun z => absurd z h, fun _ => ⟨hr.1, hr.2, fun _ => ⟨hu.trans hb, hp⟩, fun z => absurd h2 z⟩⟩
theorem un_p {mv mv' r bu bu' i j l a b x : Int} {W X Z p p' : Int → Int} (h : ¬ mv = 0) (hr : mv' = mv - 1 ∧ r = mv') (ha : a = W i) (hi : i = mv - 1) (h2 : ¬ a = 2) (hb : b = Z j) (hj : j = mv - 1) (hx : x = X l) (hl : l = mv - 1) (hu : bu' = bu) (hp : p' = uA p x b) : UnM mv mv' r bu bu' W X Z p p' := by
  subst hi hj hl ha hb hx
  exact ⟨fun z => absurd z h, fun _ => ⟨hr.1, hr.2, fun z => absurd z h2, fun _ => ⟨hu, hp⟩⟩⟩
