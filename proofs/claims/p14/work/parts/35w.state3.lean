/-! rows for the class's contracts -/
theorem buD_m {b d D r x y : Int} (h : ¬ b = 0) (hr : r = x - y) (hx : x = D) (hy : y = d) (hI : inR (x - y)) : r = buD b d D := by
  subst hx hy
  rw [hr]
  unfold buD
  rw [if_neg h, bWr_eq hI]
def FsI (s x st : Int) (F : Int → Int) (n : Int) : Prop := (0 ≤ st ∧ st ≤ 15 ∧ ∀ t, 0 ≤ t → t < n → 0 ≤ F t ∧ F t ≤ 15) → (∀ t, 0 ≤ t → t ≤ 6 → nb s t = if t < x then F t else 15) ∧ dp s = st
theorem fs_0 {s x st n : Int} {F : Int → Int} (hs : s = mvS 268435455 st) (hx : x = 0) : FsI s x st F n := by
  intro h
  subst hs hx
  refine ⟨fun t h0 h6 => ?_, dp_mv h.1 h.2.1⟩
  rw [nb_mv h0 h6, if_neg (by omega)]
  exact nb_all h0 h6
theorem fs_s {s s' x x' st n p : Int} {F : Int → Int} (h : FsI s x st F n) (h0 : 0 ≤ x) (hn : x < n) (h7 : n ≤ 7) (hp : p = F x) (hs : s' = putS s x p) (hx : x' = x + 1) : FsI s' x' st F n := by
  intro g
  obtain ⟨a, b⟩ := h g
  have hF := g.2.2 x h0 hn
  subst hs hx hp
  refine ⟨fun t t0 t6 => ?_, (dp_put h0 (by omega) hF.1 hF.2).trans b⟩
  by_cases q : t = x
  · subst q
    rw [nb_same h0 (by omega) hF.1 hF.2, if_pos (by omega)]
  · rw [nb_else h0 (by omega) hF.1 hF.2 t0 t6 q, a t t0 t6]
    by_cases z : t < x
    · rw [if_pos z, if_pos (by omega)]
    · rw [if_neg z, if_neg (by omega)]
theorem fs_n {s x st n : Int} {F : Int → Int} (h : FsI s x st F n) (hx : x = n) : FsI s n st F n := by
  subst hx
  exact h
def ldC (n t b p a d D : Int) : Int := if ¬ (0 ≤ t ∧ t < n ∧ 0 ≤ b ∧ b ≤ 1) then 1 else if 12 ≤ p ∨ sv p a then 2 else if buD b d D = thD p d D then 0 else 3
def unC (n t p : Int) : Int := if ¬ (0 ≤ t ∧ t < n) then 1 else if bkO p = -1 then 2 else 0
def thC (w K W A p d D : Int) : Int := if w = 0 then K else if w = 1 then W else if w = 2 then A else if w = 3 then thD p d D else if w = 4 then bkO p else (if sv p A then 1 else 0)
theorem stq_0 {E : Int → Int} {q r : Int} (h : q = 0) (hr : r = 0) : r = stq E q := hr.trans (if_pos h).symm
theorem stq_s {E : Int → Int} {q r : Int} (h : ¬ q = 0) (hr : r = E (q - 1)) : r = stq E q := hr.trans (if_neg h).symm
theorem dec_f (x : Int) : (-7 ≤ x → dec x = x) ∧ (x = -33 → dec x = -28) ∧ (¬ -7 ≤ x → ¬ x = -33 → dec x ≤ -20 ∧ ¬ dec x = -28) := ⟨dec_p, dec_n, dec_o⟩
theorem rk_d {s x y : Int} (h : -7 ≤ s ∨ s = -27 ∨ s = -28) : rk s x y = if ¬ x = 0 ∨ ¬ y = 0 then 1 else 0 := by
  unfold rk
  rw [if_neg (by omega), if_neg (by omega), if_neg (by omega), if_neg (by omega), if_neg (by omega), if_neg (by omega), if_neg (by omega)]
theorem vi_x2 {g g' p K W : Int → Int} {b n D d v x : Int} (h : VI g p K W b x) (hx : x = n) (hv : v = buD b d D) (eg : g' = uA g 5 v) : ∀ k, 0 ≤ k → k ≤ 6 → g' k = vls p K W b n D d k := by
  subst hx
  exact vi_x h hv eg
theorem vi_i2 {g g1 g2 p K W : Int → Int} {b x x' k w v u z z4 : Int} (h : VI g p K W b x) (h0 : 0 ≤ x) (h1 : p x = 12 + b) (hk : k = K x) (hk0 : 0 ≤ k ∧ k ≤ 3) (hz : z = g k) (hu : u = bWr (z + 1)) (e1 : g1 = uA g k u) (hw : w = W x) (h4 : z4 = g1 4) (hy : v = bWr (z4 + w)) (e2 : g2 = uA g1 4 v) (hx : x' = x + 1) : VI g2 p K W b x' := vi_i h h0 h1 hk hk0 hz hu e1 hw (h4 ▸ hy) e2 hx
theorem vi_o2 {g g' p K W : Int → Int} {b x x' w v z : Int} (h : VI g p K W b x) (h0 : 0 ≤ x) (h1 : ¬ p x = 12 + b) (h2 : p x = 13 - b) (hw : w = W x) (hz : z = g 6) (hv : v = bWr (z + w)) (eg : g' = uA g 6 v) (hx : x' = x + 1) : VI g' p K W b x' := vi_o h h0 h1 (by omega) hw (hz ▸ hv) eg hx
theorem vi_n2 {g p K W : Int → Int} {b x x' : Int} (h : VI g p K W b x) (h0 : 0 ≤ x) (h1 : ¬ p x = 12 + b) (h2 : ¬ p x = 13 - b) (hx : x' = x + 1) : VI g p K W b x' := vi_n h h0 h1 (by omega) hx
/-! the excesses of a ride, step by step -/
def XcI (g : Int → Int) (N M f st D x t v : Int) : Prop := f ≤ D → 0 ≤ t → t ≤ D → 0 ≤ st * (x - f) ∧ 0 ≤ st * (t - x) ∧ ¬ anL g N f st (st * (x - f)).toNat ∧ (v = 7 ∨ v = 0) ∧ (v = 7 ↔ anH g M f st (st * (x - f)).toNat)
theorem xc_0 {g : Int → Int} {N M f st D x t v : Int} (hst : st = stD f t) (hx : x = f) (hv : v = 0) : XcI g N M f st D x t v := by
  intro h1 h2 h3
  subst hx hv
  have e : (st * (x - x)).toNat = 0 := by rw [Int.sub_self, Int.mul_zero]; rfl
  rw [e]
  refine ⟨by rw [Int.sub_self, Int.mul_zero]; exact Int.le_refl _, ?_, fun z => z, Or.inr rfl, ⟨fun z => absurd z (by decide), fun z => z.elim⟩⟩
  subst hst
  unfold stD
  by_cases q : x < t
  · rw [if_pos q]; omega
  · rw [if_neg q]; omega
theorem xc_s {g : Int → Int} {N M f st D x t v x' v' w : Int} (h : XcI g N M f st D x t v) (hst : st = 1 ∨ st = -1) (hw : w = g x) (h6 : ¬ w < N) (hx : ¬ x = t) (hv : (M < w ∧ v' = 7) ∨ (¬ M < w ∧ v' = v)) (hx' : x' = x + st) : XcI g N M f st D x' t v' := by
  intro h1 h2 h3
  obtain ⟨a1, a2, a3, a4, a5⟩ := h h1 h2 h3
  subst hx' hw
  have e : (st * (x + st - f)).toNat = (st * (x - f)).toNat + 1 := by
    rcases hst with q | q <;> subst q <;> omega
  have e2 : f + st * (((st * (x - f)).toNat : Nat) : Int) = x := by
    rcases hst with q | q <;> subst q <;> omega
  have b1 : 0 ≤ st * (x + st - f) := by rcases hst with q | q <;> subst q <;> omega
  have b2 : 0 ≤ st * (t - (x + st)) := by rcases hst with q | q <;> subst q <;> omega
  rw [e]
  refine ⟨b1, b2, ?_, by omega, ?_⟩
  · show ¬ (anL g N f st _ ∨ g (f + st * (((st * (x - f)).toNat : Nat) : Int)) < N)
    rw [e2]
    exact fun z => z.elim a3 h6
  · show v' = 7 ↔ (anH g M f st _ ∨ M < g (f + st * (((st * (x - f)).toNat : Nat) : Int)))
    rw [e2, ← a5]
    omega
def ExP (r : Int) (g : Int → Int) (N M f D t : Int) : Prop := f ≤ D → 0 ≤ t → t ≤ D → exT r g N M f t
theorem xc_6 {g : Int → Int} {N M f st D x t v w r : Int} (h : XcI g N M f st D x t v) (hs : st = stD f t) (hw : w = g x) (h6 : w < N) (hx : ¬ x = t) (hr : r = 6) : ExP r g N M f D t := by
  intro h1 h2 h3
  obtain ⟨a1, a2, a3, a4, a5⟩ := h h1 h2 h3
  have hst : st = 1 ∨ st = -1 := by subst hs; unfold stD; by_cases q : f < t; (rw [if_pos q]; exact Or.inl rfl); (rw [if_neg q]; exact Or.inr rfl)
  subst hw
  refine Or.inl ⟨hr, ?_⟩
  unfold kD
  rw [← hs]
  have e2 : f + st * (((st * (x - f)).toNat : Nat) : Int) = x := by
    rcases hst with q | q <;> subst q <;> omega
  have a : anL g N f st ((st * (x - f)).toNat + 1) := Or.inr (by rw [e2]; exact h6)
  refine anL_mo _ ?_ a
  rcases hst with q | q <;> subst q <;> omega
theorem xc_x {g : Int → Int} {N M f st D x t v r : Int} (h : XcI g N M f st D x t v) (hs : st = stD f t) (hf : 0 ≤ f) (hx : ¬ (0 ≤ x ∧ x ≤ D) ∨ x = t) (hr : r = v) : ExP r g N M f D t := by
  intro h1 h2 h3
  obtain ⟨a1, a2, a3, a4, a5⟩ := h h1 h2 h3
  have hst : st = 1 ∨ st = -1 := by subst hs; unfold stD; by_cases q : f < t; (rw [if_pos q]; exact Or.inl rfl); (rw [if_neg q]; exact Or.inr rfl)
  have ex : x = t := by
    rcases hx with q | q
    · exfalso
      rcases hst with z | z <;> subst z <;> omega
    · exact q
  subst ex
  unfold exT kD
  rw [← hs, ← a5]
  rcases a4 with q | q
  · exact Or.inr (Or.inl ⟨hr.trans q, a3, q⟩)
  · exact Or.inr (Or.inr ⟨hr.trans q, a3, by omega⟩)
theorem xc_v {l0 l1 lead rope D x st v : Int} (hl : lead = bWr (l0 - l1)) (hv : v = exC lead rope D x st) (hst : st = 1 ∨ st = -1) : v = exM l0 l1 rope D st x := by
  subst hl
  rw [hv]
  exact ex_e hst
theorem xc_l {c0 c1 l0 l1 lead : Int} (hl : lead = bWr (c0 - c1)) (h0 : c0 = l0) (h1 : c1 = l1) : lead = bWr (l0 - l1) := by
  subst h0 h1
  exact hl
def RtC (r D bu l0 l1 cap : Int) (RK : Prop) (rope nd mo br d w : Int) : Prop := bu ≤ D → RtP r D bu l0 l1 cap RK rope nd mo br d w
theorem rc_x {r D bu l0 l1 cap rope nd mo br d w m : Int} {RK : Prop} (h : 0 ≤ d ∧ d ≤ D ∧ 0 ≤ w ∧ w ≤ 2) (h3 : ¬ d = bu) (h4 : l0 ≤ cap ∧ l1 ≤ cap) (h5 : RK) (h6 : ¬ w = 2) (hm : (w = 0 ∧ m = mo) ∨ (¬ w = 0 ∧ m = bWr (mo + br))) (hI : inR mo) (hr : ExP r (exM l0 l1 rope D (stD bu d)) nd m bu D d) : RtC r D bu l0 l1 cap RK rope nd mo br d w := by
  intro g
  have e : m = bWr (mo + (if w = 1 then br else 0)) := by
    rcases hm with q | q
    · rw [if_neg (by omega), Int.add_zero, bWr_eq hI]; exact q.2
    · rw [if_pos (by omega)]; exact q.2
  have hx := hr g h.1 h.2.1
  rw [e] at hx
  exact rt_x h h3 h4 h5 h6 hx
/-! the book -/
def NtP (n n' s s' a b c s1 : Int) (A A' B B' C C' E E' : Int → Int) : Prop := (n < 60 → n' = n + 1 ∧ s' = s1 ∧ A' = uA A n a ∧ B' = uA B n b ∧ C' = uA C n c ∧ E' = uA E n s) ∧ (¬ n < 60 → n' = n ∧ s' = s ∧ A' = A ∧ B' = B ∧ C' = C ∧ E' = E)
theorem nt_no {n s a b c s1 : Int} {A B C E : Int → Int} (h : ¬ n < 60) : NtP n n s s a b c s1 A A B B C C E E := ⟨fun z => absurd z h, fun _ => ⟨rfl, rfl, rfl, rfl, rfl, rfl⟩⟩
theorem nt_ok {n n' s a b c s1 i1 i2 i3 i4 : Int} {A A' B B' C C' E E' : Int → Int} (h : n < 60) (hn : n' = n + 1) (e1 : A' = uA A i1 a) (e2 : B' = uA B i2 b) (e3 : C' = uA C i3 c) (e4 : E' = uA E i4 s) (h1 : i1 = n) (h2 : i2 = n) (h3 : i3 = n) (h4 : i4 = n) : NtP n n' s s1 a b c s1 A A' B B' C C' E E' := by
  subst h1 h2 h3 h4
  exact ⟨fun _ => ⟨hn, rfl, e1, e2, e3, e4⟩, fun z => absurd h z⟩
def NtM (r n n' s s' a b c s1 : Int) (A A' B B' C C' E E' : Int → Int) : Prop := (r = 0 → n' = n + 1 ∧ s' = s1 ∧ A' = uA A n a ∧ B' = uA B n b ∧ C' = uA C n c ∧ E' = uA E n s) ∧ (¬ r = 0 → n' = n ∧ s' = s ∧ A' = A ∧ B' = B ∧ C' = C ∧ E' = E)
theorem ntm_no {r n s a b c s1 : Int} {A B C E : Int → Int} (h : ¬ r = 0) : NtM r n n s s a b c s1 A A B B C C E E := ⟨fun z => absurd z h, fun _ => ⟨rfl, rfl, rfl, rfl, rfl, rfl⟩⟩
theorem ntm_ok {r k n n' s s' a b c s1 s2 : Int} {A A' B B' C C' E E' : Int → Int} (h : r = 0) (hj : r = jdg k n) (hN : NtP n n' s s' a b c s2 A A' B B' C C' E E') (hs : s2 = s1) : NtM r n n' s s' a b c s1 A A' B B' C C' E E' := by
  subst hs
  refine ⟨fun _ => hN.1 ?_, fun z => absurd h z⟩
  unfold jdg at hj
  omega
theorem put_e {s t p p' x : Int} (hx : x = putS s t p) (hp : p = p') : x = putS s t p' := hp ▸ hx
