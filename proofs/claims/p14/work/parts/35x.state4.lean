/-! sets as bits -/
def orN (c : Int → Int) : Nat → Int
  | 0 => 0
  | k + 1 => bOr (orN c k) (c (k : Int))
def og (c : Int → Int) (n : Int) : Int := orN c n.toNat
theorem bOr_0 {v : Int} (h : inR v) : bOr v 0 = v := by
  refine bv_inj (bOr_r _ _) h ?_
  rw [bv_or]
  have e : bv 0 = 0#32 := by decide
  rw [e, BitVec.or_zero]
theorem og_r (c : Int → Int) (n : Int) : inR (og c n) := by
  unfold og
  cases n.toNat with
  | zero => exact inR0
  | succ k => exact bOr_r _ _
theorem og_0 {c : Int → Int} {v x : Int} (hv : v = 0) (hx : x ≤ 0) : v = og c x := by
  unfold og
  rw [show x.toNat = 0 by omega]
  exact hv
theorem og_s {c : Int → Int} {v x x' w v' : Int} (h : v = og c x) (h0 : 0 ≤ x) (hw : w = c x) (hv : v' = bOr v w) (hx : x' = x + 1) : v' = og c x' := by
  subst hx
  unfold og
  rw [show (x + 1).toNat = x.toNat + 1 by omega, hv, h, hw]
  show bOr (og c x) (c x) = bOr (orN c x.toNat) (c ((x.toNat : Nat) : Int))
  rw [show ((x.toNat : Nat) : Int) = x by omega]
  rfl
theorem og_z {c : Int → Int} {v x x' : Int} (h : v = og c x) (h0 : 0 ≤ x) (hw : c x = 0) (hx : x' = x + 1) : v = og c x' := by
  have h9 := og_s (v' := bOr v 0) h h0 hw.symm rfl hx
  rw [← h9, bOr_0 (h ▸ og_r _ _)]
theorem orN_ext {c c' : Int → Int} : ∀ k : Nat, (∀ t : Int, 0 ≤ t → t < k → c t = c' t) → orN c k = orN c' k
  | 0, _ => rfl
  | k + 1, h => by
    show bOr (orN c k) (c (k : Int)) = bOr (orN c' k) (c' (k : Int))
    rw [orN_ext k (fun t h0 h1 => h t h0 (by omega)), h (k : Int) (by omega) (by omega)]
theorem og_ext {c c' : Int → Int} {n : Int} (h : ∀ t, 0 ≤ t → t < n → c t = c' t) : og c n = og c' n := orN_ext _ (fun t h0 h1 => h t h0 (by omega))
theorem og_more {c : Int → Int} {n : Int} (n0 : 0 ≤ n) : ∀ k : Nat, (∀ t, n ≤ t → t < n + k → c t = 0) → og c (n + k) = og c n := by
  intro k
  induction k with
  | zero => intro _; rw [show n + ((0 : Nat) : Int) = n by omega]
  | succ k ih =>
    intro h
    have h1 := ih (fun t a b => h t a (by omega))
    have h2 := og_z (c := c) (v := og c (n + (k : Int))) (x := n + (k : Int)) (x' := n + ((k + 1 : Nat) : Int)) rfl (by omega) (h _ (by omega) (by omega)) (by omega)
    rw [← h2, h1]
def bs (p : Int → Int) (b : Int) : Int → Int := fun t => if p t = 12 + b then bShl 1 t else 0
theorem bs_y {p : Int → Int} {b t w : Int} (h : p t = 12 + b) (hw : w = bShl 1 t) : w = bs p b t := hw.trans (if_pos h).symm
theorem bs_n {p : Int → Int} {b t w : Int} (h : ¬ p t = 12 + b) (hw : w = 0) : w = bs p b t := hw.trans (if_neg h).symm
/-- what bucket answers -/
def BuP (w r A B C E : Int) (F : Int → Int) (n : Int) : Prop := (w = 0 → r = A) ∧ (w = 1 → r = B) ∧ (w = 2 → r = C) ∧ (w = 3 → r = E) ∧ (w = 4 → brkP r F n)
section BU
variable {w r A B C E n : Int} {F : Int → Int}
theorem bu_0 (h : w = 0) (hr : r = A) : BuP w r A B C E F n := ⟨fun _ => hr, fun z => by omega, fun z => by omega, fun z => by omega, fun z => by omega⟩
theorem bu_1 (h : w = 1) (hr : r = B) : BuP w r A B C E F n := ⟨fun z => by omega, fun _ => hr, fun z => by omega, fun z => by omega, fun z => by omega⟩
theorem bu_2 (h : w = 2) (hr : r = C) : BuP w r A B C E F n := ⟨fun z => by omega, fun z => by omega, fun _ => hr, fun z => by omega, fun z => by omega⟩
theorem bu_3 (h : w = 3) (hr : r = E) : BuP w r A B C E F n := ⟨fun z => by omega, fun z => by omega, fun z => by omega, fun _ => hr, fun z => by omega⟩
theorem bu_4 (h : w = 4) (hr : brkP r F n) : BuP w r A B C E F n := ⟨fun z => by omega, fun z => by omega, fun z => by omega, fun z => by omega, fun _ => hr⟩
end BU
def ThB (c : Int) (bad P : Prop) : Prop := (bad → c = 1) ∧ (¬ bad → c = 0 ∧ P)
theorem thb_x {c : Int} {bad P : Prop} (h : bad) (hc : c = 1) : ThB c bad P := ⟨fun _ => hc, fun z => absurd h z⟩
theorem thb_k {c : Int} {bad P : Prop} (h : ¬ bad) (hc : c = 0) (hp : P) : ThB c bad P := ⟨fun z => absurd z h, fun _ => ⟨hc, hp⟩⟩
theorem sd_c {c l rope d z v x : Int} (h1 : z = bWr (rope * x)) (h2 : v = bWr (c + z)) (hc : c = l) (hx : x = d) : v = sdV l rope d := by
  subst hc hx
  rw [h2, h1]
  rfl
/-! rides back -/
def BkG (P : Int → Int → Prop) (W : Int → Int) : Nat → Int → Prop
  | 0, R => R = 0
  | i + 1, R => (W (i : Int) = 2 ∧ ∃ r, P (i : Int) r ∧ ((r = 0 ∧ BkG P W i (R - 1)) ∨ (¬ r = 0 ∧ R = 0))) ∨ (¬ W (i : Int) = 2 ∧ BkG P W i R)
theorem bk_u {P P' : Int → Int → Prop} {W W' : Int → Int} : ∀ (m : Nat) (R R' : Int), (∀ i : Int, 0 ≤ i → i < m → W i = W' i) → (∀ i : Int, 0 ≤ i → i < m → W i = 2 → ∀ r r', P i r → P' i r' → r = r') → BkG P W m R → BkG P' W' m R' → R = R' := by
  intro m
  induction m with
  | zero => intro R R' _ _ h h'; exact h.trans h'.symm
  | succ m ih =>
    intro R R' hW hP h h'
    have hw := hW (m : Int) (by omega) (by omega)
    have ih' := fun A B => ih A B (fun i a b => hW i a (by omega)) (fun i a b => hP i a (by omega))
    rcases h with ⟨a1, r, a2, a3⟩ | ⟨a1, a2⟩
    · rcases h' with ⟨b1, r', b2, b3⟩ | ⟨b1, b2⟩
      · have e := hP (m : Int) (by omega) (by omega) a1 r r' a2 b2
        subst e
        rcases a3 with a3 | a3 <;> rcases b3 with b3 | b3
        · have := ih' _ _ a3.2 b3.2; omega
        · exact absurd a3.1 b3.1
        · exact absurd b3.1 a3.1
        · omega
      · exact absurd (hw ▸ a1) b1
    · rcases h' with ⟨b1, r', b2, b3⟩ | ⟨b1, b2⟩
      · exact absurd (hw.trans b1) a1
      · exact ih' _ _ a2 b2
/-- what was counted so far, the rest being that of the first i moves -/
def BkI (P : Int → Int → Prop) (W : Int → Int) (m i n : Int) : Prop := ∀ R, BkG P W i.toNat R → BkG P W m.toNat (n + R)
theorem bk_0 {P : Int → Int → Prop} {W : Int → Int} {m i n : Int} (hi : i = m) (hn : n = 0) : BkI P W m i n := by
  subst hi hn
  intro R h
  rw [Int.zero_add]
  exact h
theorem bk_st {i : Int} (h : 0 ≤ i) : (i + 1).toNat = i.toNat + 1 ∧ ((i.toNat : Nat) : Int) = i := by omega
theorem bk_r {P : Int → Int → Prop} {W : Int → Int} {m i j n n' r w : Int} (h : BkI P W m j n) (hj : j = i + 1) (h0 : 0 ≤ i) (hw : w = W i) (h2 : w = 2) (hp : P i r) (hr : r = 0) (hn : n' = n + 1) : BkI P W m i n' := by
  subst hj hn
  intro R hR
  obtain ⟨e1, e2⟩ := bk_st h0
  have h9 := h (R + 1) (by
    rw [e1]
    refine Or.inl ⟨by rw [e2, ← hw]; exact h2, r, by rw [e2]; exact hp, Or.inl ⟨hr, ?_⟩⟩
    rw [show R + 1 - 1 = R by omega]
    exact hR)
  rw [show n + 1 + R = n + (R + 1) by omega]
  exact h9
theorem bk_m {P : Int → Int → Prop} {W : Int → Int} {m i j n w : Int} (h : BkI P W m j n) (hj : j = i + 1) (h0 : 0 ≤ i) (hw : w = W i) (h2 : ¬ w = 2) : BkI P W m i n := by
  subst hj
  intro R hR
  obtain ⟨e1, e2⟩ := bk_st h0
  exact h R (by rw [e1]; exact Or.inr ⟨by rw [e2, ← hw]; exact h2, hR⟩)
theorem bk_e {P : Int → Int → Prop} {W : Int → Int} {m i j n r w R : Int} (h : BkI P W m j n) (hj : j = i + 1) (h0 : 0 ≤ i) (hw : w = W i) (h2 : w = 2) (hp : P i r) (hr : ¬ r = 0) (hR : R = n) : BkG P W m.toNat R := by
  subst hj hR
  obtain ⟨e1, e2⟩ := bk_st h0
  have h9 := h 0 (by
    rw [e1]
    exact Or.inl ⟨by rw [e2, ← hw]; exact h2, r, by rw [e2]; exact hp, Or.inr ⟨hr, rfl⟩⟩)
  rw [Int.add_zero] at h9
  exact h9
theorem bk_x {P : Int → Int → Prop} {W : Int → Int} {m i n R : Int} (h : BkI P W m i n) (hi : i ≤ 0) (hR : R = n) : BkG P W m.toNat R := by
  subst hR
  have h9 := h 0 (by rw [show i.toNat = 0 by omega]; rfl)
  rw [Int.add_zero] at h9
  exact h9
/-- the model's row as it stood behind a move -/
def mrw (W X Z p : Int → Int) (m : Int) : Nat → Int → Int
  | 0 => p
  | j + 1 => if W (m - 1 - (j : Int)) = 2 then mrw W X Z p m j else uA (mrw W X Z p m j) (X (m - 1 - (j : Int))) (Z (m - 1 - (j : Int)))
def mrI (W X Z p : Int → Int) (m i : Int) (g : Int → Int) : Prop := ∀ t, 0 ≤ t → t < 7 → g t = mrw W X Z p m (m - 1 - i).toNat t
theorem mr_k {W X Z p g : Int → Int} {m i i' w : Int} (h : mrI W X Z p m i g) (hi : i < m) (hi' : i' = i - 1) (hw : w = W i) (h2 : w = 2) : mrI W X Z p m i' g := by
  subst hi' hw
  intro t t0 t7
  rw [show (m - 1 - (i - 1)).toNat = (m - 1 - i).toNat + 1 by omega]
  have e : mrw W X Z p m ((m - 1 - i).toNat + 1) = mrw W X Z p m (m - 1 - i).toNat := if_pos (by rw [show m - 1 - (((m - 1 - i).toNat : Nat) : Int) = i by omega]; exact h2)
  rw [e]
  exact h t t0 t7
theorem mr_u {W X Z p g g' : Int → Int} {m i i' w x z : Int} (h : mrI W X Z p m i g) (hi : i < m) (hi' : i' = i - 1) (hw : w = W i) (h2 : ¬ w = 2) (hx : x = X i) (hz : z = Z i) (e : g' = uA g x z) : mrI W X Z p m i' g' := by
  subst hi' hw hx hz e
  intro t t0 t7
  rw [show (m - 1 - (i - 1)).toNat = (m - 1 - i).toNat + 1 by omega]
  have e9 : m - 1 - (((m - 1 - i).toNat : Nat) : Int) = i := by omega
  have e : mrw W X Z p m ((m - 1 - i).toNat + 1) = uA (mrw W X Z p m (m - 1 - i).toNat) (X (m - 1 - (((m - 1 - i).toNat : Nat) : Int))) (Z (m - 1 - (((m - 1 - i).toNat : Nat) : Int))) := if_neg (by rw [e9]; exact h2)
  rw [e, e9]
  by_cases q : t = X i
  · rw [(uA_at _ _ _ _).1 q, (uA_at _ _ _ _).1 q]
  · rw [(uA_at _ _ _ _).2 q, (uA_at _ _ _ _).2 q]; exact h t t0 t7
/-! days -/
def am (A : Int → Int) : Int → Int := fun t => if A t = -1 then 0 else bShl 1 t
theorem amk_y {A : Int → Int} {t w : Int} (h : ¬ A t = -1) (hw : w = bShl 1 t) : w = am A t := hw.trans (if_neg h).symm
theorem amk_z {A : Int → Int} {t w : Int} (h : A t = -1) (hw : w = 0) : w = am A t := hw.trans (if_pos h).symm
def DyP (fine : Prop) (r n n' s : Int) (G G' : Int → Int) : Prop := (fine → r = n' ∧ n' = n + 1 ∧ G' = uA G n s) ∧ (¬ fine → r = -1 ∧ n' = n ∧ G' = G)
theorem dy_y {fine : Prop} {r n n' s i : Int} {G G' : Int → Int} (h : fine) (hr : r = n' ∧ n' = n + 1) (e : G' = uA G i s) (hi : i = n) : DyP fine r n n' s G G' := by
  subst hi
  exact ⟨fun _ => ⟨hr.1, hr.2, e⟩, fun z => absurd h z⟩
theorem dy_n {fine : Prop} {r n s : Int} {G : Int → Int} (h : ¬ fine) (hr : r = -1) : DyP fine r n n s G G := ⟨fun z => absurd z h, fun _ => ⟨hr, rfl, rfl⟩⟩
theorem mr_0 {W X Z p g : Int → Int} {m i : Int} (hi : i = m - 1) (h : ∀ t, 0 ≤ t → t < 7 → g t = p t) : mrI W X Z p m i g := by
  subst hi
  intro t t0 t7
  rw [show (m - 1 - (m - 1)).toNat = 0 by omega]
  exact h t t0 t7
theorem bk_i {P : Int → Int → Prop} {W : Int → Int} {m i i' n : Int} (h : BkI P W m i n) (hi : i' = i) : BkI P W m i' n := hi ▸ h
/-- a ride back, in the model and in the class -/
def BmP (W X Z p : Int → Int) (m D n ru cap rope nd mo br : Int) (f4 f5 f8 f9 f10 : Int → Int) : Int → Int → Prop := fun i r => ∃ g, mrI W X Z p m i g ∧ (0 ≤ Z i ∧ Z i ≤ D ∧ ¬ Z i = X i → RtP r D (X i) (gs (lc g f5 0) n) (gs (lc g f5 1) n) cap (bkI (fun q => evR f10 (vls g f4 f5 0 n D (X i)) (f8 q) (f9 q)) ru ∧ bkI (fun q => evR f10 (vls g f4 f5 1 n D (X i)) (f8 q) (f9 q)) ru) rope nd mo br (Z i) 1)
def BcP (E B : Int → Int) (x0 x2 x3 x4 x5 x6 th ru : Int) (g8 g9 g20 g21 : Int → Int) : Int → Int → Prop := fun i r => RtC r x0 (dp (mvS (E i) (B i))) (gs (lc (nb (mvS (E i) (B i))) g9 0) th) (gs (lc (nb (mvS (E i) (B i))) g9 1) th) x2 (bkI (fun q => evR (dcf g20) (vls (nb (mvS (E i) (B i))) g8 g9 0 th x0 (dp (mvS (E i) (B i)))) (stq g21 q) (g21 q)) ru ∧ bkI (fun q => evR (dcf g20) (vls (nb (mvS (E i) (B i))) g8 g9 1 th x0 (dp (mvS (E i) (B i)))) (stq g21 q) (g21 q)) ru) x3 x4 x5 x6 (dp (E i)) 1
