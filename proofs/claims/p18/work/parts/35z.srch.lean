/-! what a search finds -/
def RcN (S : Int → Int → Prop) (a : Int) : Nat → Int → Prop
  | 0, x => x = a
  | k + 1, x => ∃ y, RcN S a k y ∧ S y x
/-- x is come to from a -/
def Rc (S : Int → Int → Prop) (a x : Int) : Prop := ∃ k, RcN S a k x
theorem rc_0 (S : Int → Int → Prop) (a : Int) : Rc S a a := ⟨0, rfl⟩
theorem rc_s {S : Int → Int → Prop} {a x y : Int} (h : Rc S a x) (hs : S x y) : Rc S a y := h.elim (fun k hk => ⟨k + 1, x, hk, hs⟩)
def InL (L : Int → Int) (n x : Int) : Prop := ∃ i, 0 ≤ i ∧ i < n ∧ L i = x
def DiL (L : Int → Int) (n : Int) : Prop := ∀ i j, 0 ≤ i → i < n → 0 ≤ j → j < n → L i = L j → i = j
theorem pg_n : ∀ (m n : Nat) (f : Nat → Nat), (∀ i, i < n → f i < m) → (∀ i j, i < n → j < n → f i = f j → i = j) → n ≤ m
  | 0, n, f, h, _ => by
    cases n with
    | zero => exact Nat.le_refl 0
    | succ n => exact absurd (h 0 (Nat.succ_pos n)) (Nat.not_lt_zero _)
  | m + 1, n, f, h, hi => by
    by_cases q : ∃ i, i < n ∧ f i = m
    · obtain ⟨i0, h0, h1⟩ := q
      have h9 := pg_n m (n - 1) (fun i => if i < i0 then f i else f (i + 1)) (fun i hq => by
        show (if i < i0 then f i else f (i + 1)) < m
        by_cases z : i < i0
        · rw [if_pos z]
          have a := h i (by omega)
          have b : ¬ f i = m := fun y => by have := hi i i0 (by omega) h0 (y.trans h1.symm); omega
          omega
        · rw [if_neg z]
          have a := h (i + 1) (by omega)
          have b : ¬ f (i + 1) = m := fun y => by have := hi (i + 1) i0 (by omega) h0 (y.trans h1.symm); omega
          omega) (fun i j hq hj e => by
        have e : (if i < i0 then f i else f (i + 1)) = (if j < i0 then f j else f (j + 1)) := e
        by_cases z : i < i0
        · rw [if_pos z] at e
          by_cases y : j < i0
          · rw [if_pos y] at e
            exact hi i j (by omega) (by omega) e
          · rw [if_neg y] at e
            have := hi i (j + 1) (by omega) (by omega) e
            omega
        · rw [if_neg z] at e
          by_cases y : j < i0
          · rw [if_pos y] at e
            have := hi (i + 1) j (by omega) (by omega) e
            omega
          · rw [if_neg y] at e
            have := hi (i + 1) (j + 1) (by omega) (by omega) e
            omega)
      omega
    · have h9 := pg_n m n f (fun i hq => by
        have a := h i hq
        have b : ¬ f i = m := fun z => q ⟨i, hq, z⟩
        omega) hi
      omega
theorem pg_l {L M : Int → Int} {n m : Int} (hd : DiL L n) (h : ∀ i, 0 ≤ i → i < n → InL M m (L i)) : n ≤ m ∨ n ≤ 0 := by
  by_cases hn : 0 < n
  · left
    have hc : ∀ i : Nat, ∃ j : Nat, (i : Int) < n → (j : Int) < m ∧ M (j : Int) = L (i : Int) := fun i => by
      by_cases q : (i : Int) < n
      · obtain ⟨j, j0, j1, e⟩ := h i (by omega) q
        exact ⟨j.toNat, fun _ => ⟨by omega, by rw [show ((j.toNat : Nat) : Int) = j by omega]; exact e⟩⟩
      · exact ⟨0, fun z => absurd z q⟩
    have hm : 0 ≤ m := by
      obtain ⟨j, hj⟩ := hc 0
      have := (hj (by omega)).1
      omega
    have h9 := pg_n m.toNat n.toNat (fun i => (hc i).choose) (fun i hi => by
      have := ((hc i).choose_spec (by omega)).1
      show (hc i).choose < m.toNat
      omega) (fun i j hi hj e => by
      have e : (hc i).choose = (hc j).choose := e
      have a := ((hc i).choose_spec (by omega)).2
      have b := ((hc j).choose_spec (by omega)).2
      rw [e] at a
      have := hd i j (by omega) (by omega) (by omega) (by omega) (a.symm.trans b)
      omega)
    omega
  · exact Or.inr (by omega)
/-- a list under way: all in it are come to; what is done has its next ones in it -/
def CLo (S : Int → Int → Prop) (a : Int) (L : Int → Int) (n : Int) (dn : Int → Int) : Prop := 1 ≤ n ∧ L 0 = a ∧ DiL L n ∧ (∀ i, 0 ≤ i → i < n → Rc S a (L i)) ∧ ∀ i, 0 ≤ i → i < n → ¬ dn i = 0 → ∀ y, S (L i) y → InL L n y
/-- what a search answers: the whole list, or that there are more than N -/
def Fnd (S : Int → Int → Prop) (a N : Int) (sp : Int) (L : Int → Int) (n : Int) : Prop := (sp = 0 → DiL L n ∧ n ≤ N ∧ ∀ x, InL L n x ↔ Rc S a x) ∧ (¬ sp = 0 → ∃ (M : Int → Int), DiL M (N + 1) ∧ ∀ i, 0 ≤ i → i < N + 1 → Rc S a (M i))
theorem cl_end {S : Int → Int → Prop} {a n : Int} {L dn : Int → Int} (h : CLo S a L n dn) (hd : ∀ i, 0 ≤ i → i < n → ¬ dn i = 0) : ∀ x, InL L n x ↔ Rc S a x := by
  obtain ⟨h1, h2, h3, h4, h5⟩ := h
  intro x
  constructor
  · rintro ⟨i, i0, i1, e⟩
    exact e ▸ h4 i i0 i1
  · rintro ⟨k, hk⟩
    induction k generalizing x with
    | zero => exact ⟨0, Int.le_refl 0, by omega, h2.trans hk.symm⟩
    | succ k ih =>
      obtain ⟨y, hy, hs⟩ := hk
      obtain ⟨i, i0, i1, e⟩ := ih y hy
      exact h5 i i0 i1 (hd i i0 i1) x (e ▸ hs)
theorem fnd_ok {S : Int → Int → Prop} {a n N sp : Int} {L dn : Int → Int} (h : CLo S a L n dn) (hd : ∀ i, 0 ≤ i → i < n → ¬ dn i = 0) (hN : n ≤ N) (hs : sp = 0) : Fnd S a N sp L n := ⟨fun _ => ⟨h.2.2.1, hN, cl_end h hd⟩, fun z => absurd hs z⟩
theorem fnd_no {S : Int → Int → Prop} {a n N sp x : Int} {L : Int → Int} (h3 : DiL L n) (h4 : ∀ i, 0 ≤ i → i < n → Rc S a (L i)) (hN : n = N) (hx : Rc S a x) (hi : ¬ InL L n x) (hs : ¬ sp = 0) : Fnd S a N sp L n := by
  refine ⟨fun z => absurd z hs, fun _ => ⟨fun i => if i < n then L i else x, fun i j i0 i1 j0 j1 e => ?_, fun i i0 i1 => ?_⟩⟩
  · have e : (if i < n then L i else x) = (if j < n then L j else x) := e
    by_cases z : i < n
    · rw [if_pos z] at e
      by_cases y : j < n
      · rw [if_pos y] at e
        exact h3 i j i0 z j0 y e
      · rw [if_neg y] at e
        exact absurd ⟨i, i0, z, e⟩ hi
    · rw [if_neg z] at e
      by_cases y : j < n
      · rw [if_pos y] at e
        exact absurd ⟨j, j0, y, e.symm⟩ hi
      · omega
  · show Rc S a (if i < n then L i else x)
    by_cases z : i < n
    · rw [if_pos z]; exact h4 i i0 z
    · rw [if_neg z]; exact hx
/-- two searches over the same: both spent or none, and the same found -/
theorem fnd_eq {S : Int → Int → Prop} {a N sp sp' n n' : Int} {L L' : Int → Int} (h : Fnd S a N sp L n) (h' : Fnd S a N sp' L' n') (hN : 0 ≤ N) : (sp = 0 ↔ sp' = 0) ∧ (sp = 0 → ∀ x, InL L n x ↔ InL L' n' x) := by
  have key : ∀ {s s' m : Int} {M : Int → Int} {L2 : Int → Int} {m2 : Int}, Fnd S a N s M m → Fnd S a N s' L2 m2 → s = 0 → s' = 0 := by
    intro s s' m M L2 m2 k k' z
    by_cases y : s' = 0
    · exact y
    · exfalso
      obtain ⟨M', d, r⟩ := k'.2 y
      obtain ⟨k1, k2, k3⟩ := k.1 z
      have := pg_l d (fun i i0 i1 => (k3 _).mpr (r i i0 i1))
      omega
  refine ⟨⟨key h h', key h' h⟩, fun z x => ?_⟩
  exact ((h.1 z).2.2 x).trans ((h'.1 (key h h' z)).2.2 x).symm
/-- bits gathered over a list -/
theorem og_in {g : Int → Int} {L L' : Int → Int} {n n' : Int} (n0 : 0 ≤ n) (n0' : 0 ≤ n') (h : ∀ x, InL L n x ↔ InL L' n' x) : og (fun i => g (L i)) n = og (fun i => g (L' i)) n' := by
  refine bv_inj (og_r _ _) (og_r _ _) (BitVec.eq_of_getLsbD_eq (fun i hi => ?_))
  have key : ∀ {M M' : Int → Int} {m m' : Int}, 0 ≤ m' → (∀ x, InL M m x → InL M' m' x) → (bv (og (fun i => g (M i)) m)).getLsbD i = true → (bv (og (fun i => g (M' i)) m')).getLsbD i = true := by
    intro M M' m m' hm k z
    unfold og at z ⊢
    rw [or_get] at z ⊢
    obtain ⟨j, j0, j1, hj⟩ := z
    obtain ⟨j', a0, a1, e⟩ := k (M j) ⟨j, j0, by omega, rfl⟩
    exact ⟨j', a0, by omega, by rw [e]; exact hj⟩
  exact Bool.eq_iff_iff.mpr ⟨key n0' (fun x => (h x).mp), key n0 (fun x => (h x).mpr)⟩
/-! what a THING may do before a RIDE, in both -/
def OpM (k A p a D q : Int) : Prop := q = p ∨ (p = 12 ∧ (q = unA k A a ∨ (a = D - a ∧ ¬ A = a ∧ q = 13))) ∨ (p = 13 ∧ (q = unA k A (D - a) ∨ (a = D - a ∧ ¬ A = D - a ∧ q = 12))) ∨ (p < 12 ∧ ¬ svM p A ∧ ((p = a ∧ q = 12) ∨ (p = D - a ∧ q = 13)))
def drC (p A a D b : Int) : Prop := bkO p = b ∨ ((¬ thD p a D = -1 ∧ ¬ thD p a D = A) ∧ thD p a D = buD b a D)
def OpC (k A p a D q : Int) : Prop := q = plO p k A a D ∨ (drC p A a D 0 ∧ q = 12) ∨ (drC p A a D 1 ∧ q = 13)
theorem op_eq {k A p a D q : Int} (hp : 0 ≤ p ∧ p ≤ 15) (hpD : p ≤ D ∨ 12 ≤ p) (ha : 0 ≤ a ∧ a ≤ D) (hD : D ≤ 11) (hA : -1 ≤ A) : OpM k A p a D q ↔ OpC k A p a D q := by
  have b0 : buD 0 a D = a := if_pos rfl
  have b1 : buD 1 a D = D - a := (if_neg (by decide)).trans (bWr_eq ⟨by omega, by omega⟩)
  have hc : p = 12 ∨ p = 13 ∨ p < 12 ∨ 14 ≤ p := by omega
  rcases hc with h | h | h | h
  · have e1 : plO p k A a D = unA k A a := by
      subst h
      unfold plO unA
      rw [if_pos (Or.inl rfl), show (12 : Int) - 12 = 0 by decide, b0]
      by_cases z : k = 3 ∧ a = A
      · rw [if_pos z, if_pos ⟨z.1, z.2.symm⟩]
      · rw [if_neg z, if_neg (fun y => z ⟨y.1, y.2.symm⟩)]
    have e2 : thD p a D = a := by
      subst h
      show (if (12 : Int) < 12 then _ else if (12 : Int) < 14 then buD (12 - 12) a D else -1) = a
      rw [if_neg (by decide), if_pos (by decide)]
      exact b0
    have e3 : bkO p = 0 := by subst h; rfl
    unfold OpM OpC drC
    rw [e1, e2, e3, b0, b1]
    omega
  · have e1 : plO p k A a D = unA k A (D - a) := by
      subst h
      unfold plO unA
      rw [if_pos (Or.inr rfl), show (13 : Int) - 12 = 1 by decide, b1]
      by_cases z : k = 3 ∧ D - a = A
      · rw [if_pos z, if_pos ⟨z.1, z.2.symm⟩]
      · rw [if_neg z, if_neg (fun y => z ⟨y.1, y.2.symm⟩)]
    have e2 : thD p a D = D - a := by
      subst h
      show (if (13 : Int) < 12 then _ else if (13 : Int) < 14 then buD (13 - 12) a D else -1) = D - a
      rw [if_neg (by decide), if_pos (by decide)]
      exact b1
    have e3 : bkO p = 1 := by subst h; rfl
    unfold OpM OpC drC
    rw [e1, e2, e3, b0, b1]
    omega
  · have e1 : plO p k A a D = p := if_neg (by omega)
    have e2 : thD p a D = p := if_pos h
    have e3 : bkO p = -1 := if_neg (by omega)
    unfold OpM OpC drC svM
    rw [e1, e2, e3, b0, b1]
    omega
  · have e1 : plO p k A a D = p := if_neg (by omega)
    have e2 : thD p a D = -1 := (if_neg (by omega)).trans (if_neg (by omega))
    have e3 : bkO p = -1 := if_neg (by omega)
    unfold OpM OpC drC
    rw [e1, e2, e3, b0, b1]
    omega
/-! a state in one long -/
def pkI (p : Int → Int) (a : Int) : Nat → Int
  | 0 => a
  | k + 1 => 16 * pkI p a k + p (k : Int)
theorem pk_r {p : Int → Int} {a : Int} (ha : 0 ≤ a ∧ a ≤ 15) (hp : ∀ t, 0 ≤ t → t < 7 → 0 ≤ p t ∧ p t ≤ 15) : ∀ k : Nat, k ≤ 7 → 0 ≤ pkI p a k ∧ pkI p a k < ((16 ^ (k + 1) : Nat) : Int)
  | 0, _ => by show 0 ≤ a ∧ a < ((16 ^ 1 : Nat) : Int); omega
  | k + 1, h => by
    have h1 := pk_r ha hp k (by omega)
    have h2 := hp (k : Int) (by omega) (by omega)
    have e : ((16 ^ (k + 1 + 1) : Nat) : Int) = 16 * ((16 ^ (k + 1) : Nat) : Int) := by rw [Nat.pow_succ 16 (k + 1)]; omega
    show 0 ≤ 16 * pkI p a k + p (k : Int) ∧ 16 * pkI p a k + p (k : Int) < _
    omega
theorem pk_inj {p q : Int → Int} {a b : Int} (hp : ∀ t, 0 ≤ t → t < 7 → 0 ≤ p t ∧ p t ≤ 15) (hq : ∀ t, 0 ≤ t → t < 7 → 0 ≤ q t ∧ q t ≤ 15) : ∀ k : Nat, k ≤ 7 → pkI p a k = pkI q b k → a = b ∧ ∀ t, 0 ≤ t → t < k → p t = q t
  | 0, _, h => ⟨h, fun t t0 t1 => absurd t1 (by omega)⟩
  | k + 1, hk, h => by
    have h : 16 * pkI p a k + p (k : Int) = 16 * pkI q b k + q (k : Int) := h
    have h2 := hp (k : Int) (by omega) (by omega)
    have h3 := hq (k : Int) (by omega) (by omega)
    have e9 : pkI p a k = pkI q b k := by omega
    obtain ⟨e, f⟩ := pk_inj hp hq k (by omega) e9
    refine ⟨e, fun t t0 t1 => ?_⟩
    by_cases z : t = k
    · subst z; omega
    · exact f t t0 (by omega)
theorem l_i2l {z : Int} (h : inR z) : (Int32.ofInt z).toInt64 = Int64.ofInt z := by
  apply Int64.toInt_inj.mp
  have h1 := h.1
  have h2 := h.2
  rw [Int32.toInt_toInt64, iz_toInt h, Int64.toInt_ofInt_of_le (by omega) (by omega)]
theorem l_mod {y : Int} (h0 : 0 ≤ y) (h1 : y < 1099511627776) : (Int64.ofInt y % 16).toInt = y % 16 := by
  rw [Int64.toInt_mod, Int64.toInt_ofInt_of_le (by omega) (by omega)]
  show y.tmod 16 = y % 16
  exact Int.tmod_eq_emod_of_nonneg h0
theorem l_div {y : Int} (h0 : 0 ≤ y) (h1 : y < 1099511627776) : Int64.ofInt y / 16 = Int64.ofInt (y / 16) := by
  apply Int64.toInt_inj.mp
  rw [Int64.toInt_div_of_ne_right _ _ (by decide), Int64.toInt_ofInt_of_le (by omega) (by omega), Int64.toInt_ofInt_of_le (by omega) (by omega)]
  show y.tdiv 16 = y / 16
  exact Int.tdiv_eq_ediv_of_nonneg h0
theorem l_rem {y : Int} (h0 : 0 ≤ y) (h1 : y < 1099511627776) : Int64.ofInt y - Int64.ofInt y / 16 * 16 = Int64.ofInt (y % 16) := by
  rw [l_div h0 h1, show (16 : Int64) = Int64.ofInt 16 by decide, ← Int64.ofInt_mul, ← Int64.ofInt_sub]
  congr 1
  omega
/-! lists that grow: what is added -/
theorem il_ext {L L' : Int → Int} {n y : Int} (h : ∀ i, 0 ≤ i → i < n → L' i = L i) : InL L' n y ↔ InL L n y :=
  ⟨fun ⟨i, a, b, c⟩ => ⟨i, a, b, (h i a b).symm.trans c⟩, fun ⟨i, a, b, c⟩ => ⟨i, a, b, (h i a b).trans c⟩⟩
theorem il_mo {L L' : Int → Int} {n n' y : Int} (h : n ≤ n') (e : ∀ i, 0 ≤ i → i < n → L' i = L i) (q : InL L n y) : InL L' n' y := by
  obtain ⟨i, a, b, c⟩ := q
  exact ⟨i, a, by omega, (e i a b).trans c⟩
theorem di_ext {L L' : Int → Int} {n : Int} (h : ∀ i, 0 ≤ i → i < n → L' i = L i) (d : DiL L n) : DiL L' n := fun i j i0 i1 j0 j1 e => d i j i0 i1 j0 j1 (by rw [← h i i0 i1, ← h j j0 j1]; exact e)
def Ad (N : Int) (L : Int → Int) (n sp : Int) (L' : Int → Int) (n' sp' : Int) (Q : Int → Prop) : Prop :=
  n ≤ n' ∧ (∀ i, 0 ≤ i → i < n → L' i = L i) ∧ (¬ sp = 0 → n' = n ∧ ¬ sp' = 0) ∧ (sp = 0 → DiL L n → n ≤ N → DiL L' n' ∧ n' ≤ N ∧ (∀ i, n ≤ i → i < n' → Q (L' i)) ∧ (sp' = 0 → ∀ y, Q y → InL L' n' y) ∧ (¬ sp' = 0 → n' = N ∧ ∃ y, Q y ∧ ¬ InL L' n' y))
theorem ad_sp {N n sp sp' : Int} {L L' : Int → Int} {Q : Int → Prop} (h : ¬ sp = 0) (h' : ¬ sp' = 0) (e : ∀ i, 0 ≤ i → i < n → L' i = L i) : Ad N L n sp L' n sp' Q := ⟨Int.le_refl n, e, fun _ => ⟨rfl, h'⟩, fun z => absurd z h⟩
theorem ad_in {N n sp : Int} {L : Int → Int} {Q : Int → Prop} (h : ∀ y, Q y → InL L n y) : Ad N L n sp L n sp Q := ⟨Int.le_refl n, fun _ _ _ => rfl, fun z => ⟨rfl, z⟩, fun z d hn => ⟨d, hn, fun i a b => absurd b (by omega), fun _ => h, fun y => absurd z y⟩⟩
theorem adx_no {N n sp : Int} {L : Int → Int} {Q : Int → Prop} (h : ∀ y, ¬ Q y) : Ad N L n sp L n sp Q := ad_in (fun y z => absurd z (h y))
theorem ad_new {N n sp v : Int} {L L' : Int → Int} (h0 : sp = 0) (hn0 : 0 ≤ n) (hn : n < N) (hv : ¬ InL L n v) (e : ∀ i, 0 ≤ i → i < n → L' i = L i) (ev : L' n = v) : Ad N L n sp L' (n + 1) sp (fun y => y = v) := by
  refine ⟨by omega, e, fun z => absurd h0 z, fun _ d _ => ⟨fun i j i0 i1 j0 j1 q => ?_, by omega, fun i a b => ?_, fun _ y hy => ⟨n, hn0, by omega, ev.trans hy.symm⟩, fun y => absurd h0 y⟩⟩
  · by_cases z : i = n
    · by_cases y : j = n
      · omega
      · exact absurd ⟨j, j0, by omega, by rw [← e j j0 (by omega), ← q, z, ev]⟩ hv
    · by_cases y : j = n
      · exact absurd ⟨i, i0, by omega, by rw [← e i i0 (by omega), q, y, ev]⟩ hv
      · exact d i j i0 (by omega) j0 (by omega) (by rw [← e i i0 (by omega), ← e j j0 (by omega)]; exact q)
  · have z : i = n := by omega
    rw [z]; exact ev
theorem ad_full {N n sp sp' v : Int} {L L' : Int → Int} (h0 : sp = 0) (hn : n = N) (hv : ¬ InL L n v) (h' : ¬ sp' = 0) (e : ∀ i, 0 ≤ i → i < n → L' i = L i) : Ad N L n sp L' n sp' (fun y => y = v) := ⟨Int.le_refl n, e, fun z => absurd h0 z, fun _ d hN => ⟨di_ext e d, hN, fun i a b => absurd b (by omega), fun z => absurd z h', fun _ => ⟨hn, v, rfl, fun z => hv ((il_ext e).mp z)⟩⟩⟩
theorem ad_tr {N n n1 n2 sp sp1 sp2 : Int} {L L1 L2 : Int → Int} {Q1 Q2 : Int → Prop} (h0 : 0 ≤ n) (h : Ad N L n sp L1 n1 sp1 Q1) (q : Ad N L1 n1 sp1 L2 n2 sp2 Q2) : Ad N L n sp L2 n2 sp2 (fun y => Q1 y ∨ Q2 y) := by
  obtain ⟨a1, a2, a3, a4⟩ := h
  obtain ⟨b1, b2, b3, b4⟩ := q
  refine ⟨by omega, fun i i0 i1 => (b2 i i0 (by omega)).trans (a2 i i0 i1), fun z => ?_, fun z d hn => ?_⟩
  · have u := a3 z
    have v := b3 u.2
    exact ⟨by omega, v.2⟩
  · obtain ⟨c1, c2, c3, c4, c5⟩ := a4 z d hn
    by_cases y : sp1 = 0
    · obtain ⟨d1, d2, d3, d4, d5⟩ := b4 y c1 c2
      refine ⟨d1, d2, fun i i0 i1 => ?_, fun w y' hy => ?_, fun w => ?_⟩
      · by_cases x : i < n1
        · rw [b2 i (by omega) x]; exact Or.inl (c3 i i0 x)
        · exact Or.inr (d3 i (by omega) i1)
      · rcases hy with hy | hy
        · obtain ⟨i, i0, i1, e⟩ := c4 y y' hy
          exact ⟨i, i0, by omega, (b2 i i0 i1).trans e⟩
        · exact d4 w y' hy
      · obtain ⟨u, v, v1, v2⟩ := d5 w
        exact ⟨u, v, Or.inr v1, v2⟩
    · obtain ⟨u1, u2⟩ := b3 y
      obtain ⟨v1, v, v2, v3⟩ := c5 y
      rw [u1]
      refine ⟨di_ext b2 c1, c2, fun i i0 i1 => ?_, fun w => absurd w u2, fun _ => ⟨v1, v, Or.inl v2, fun w => v3 ((il_ext b2).mp w)⟩⟩
      rw [b2 i (by omega) i1]; exact Or.inl (c3 i i0 i1)
theorem ad_q {N n n' sp sp' : Int} {L L' : Int → Int} {Q Q' : Int → Prop} (h : Ad N L n sp L' n' sp' Q) (e : ∀ y, Q y ↔ Q' y) : Ad N L n sp L' n' sp' Q' := by
  rw [show Q' = Q from funext (fun y => propext (e y).symm)]; exact h
/-! rows of links: all of one fold lie along them -/
def ChI (h L hd nx : Int → Int) (n F : Int) : Prop := (∀ f, 0 ≤ f → f < F → (∀ j, 0 ≤ j → j < n → h (L j) = f → j ≤ hd f) ∧ (0 ≤ hd f → h (L (hd f)) = f)) ∧ ∀ t, 0 ≤ t → t < n → (∀ j, 0 ≤ j → j < t → h (L j) = h (L t) → j ≤ nx t) ∧ (0 ≤ nx t → h (L (nx t)) = h (L t))
def ChW (h L : Int → Int) (n v k : Int) : Prop := (0 ≤ k → h (L k) = h v) ∧ ∀ j, 0 ≤ j → j < n → L j = v → j ≤ k
theorem ch_0 {h L hd nx : Int → Int} {n F : Int} (hn : n = 0) (H : ∀ f, 0 ≤ f → f < F → hd f = -1) : ChI h L hd nx n F := ⟨fun f a b => ⟨fun j j0 j1 => absurd j1 (by omega), fun z => absurd z (by rw [H f a b]; decide)⟩, fun t t0 t1 => absurd t1 (by omega)⟩
theorem chw_0 {h L hd nx : Int → Int} {n F v f k : Int} (H : ChI h L hd nx n F) (hf : f = h v) (f0 : 0 ≤ f) (f1 : f < F) (hk : k = hd f) : ChW h L n v k := by
  obtain ⟨a, b⟩ := H.1 f f0 f1
  rw [hk]
  exact ⟨fun z => (b z).trans hf, fun j j0 j1 e => a j j0 j1 (by rw [e]; exact hf.symm)⟩
theorem chw_s {h L hd nx : Int → Int} {n F v k k' : Int} (H : ChI h L hd nx n F) (W : ChW h L n v k) (k0 : 0 ≤ k) (k1 : k < n) (hne : ¬ L k = v) (hk : k' = nx k) : ChW h L n v k' := by
  obtain ⟨a, b⟩ := H.2 k k0 k1
  obtain ⟨c, d⟩ := W
  rw [hk]
  refine ⟨fun z => (b z).trans (c k0), fun j j0 j1 e => ?_⟩
  have z1 := d j j0 j1 e
  have z2 : ¬ j = k := fun y => hne (by rw [← y]; exact e)
  exact a j j0 (by omega) (by rw [e, c k0])
theorem chw_n {h L : Int → Int} {n v k : Int} (W : ChW h L n v k) (hk : k < 0) : ¬ InL L n v := by
  rintro ⟨j, j0, j1, e⟩
  have := W.2 j j0 j1 e
  omega
theorem ch_new {h L L' hd hd' nx nx' : Int → Int} {n F v f z : Int} (H : ChI h L hd nx n F) (n0 : 0 ≤ n) (hf : f = h v) (f0 : 0 ≤ f) (f1 : f < F) (e : ∀ i, 0 ≤ i → i < n → L' i = L i) (ev : L' n = v) (ez : z = hd f) (e1 : nx' = uA nx n z) (e2 : hd' = uA hd f n) (s3 : ∀ f, 0 ≤ f → f < F → -1 ≤ hd f ∧ hd f < n) (s4 : ∀ t, 0 ≤ t → t < n → -1 ≤ nx t ∧ nx t < t) : ChI h L' hd' nx' (n + 1) F := by
  obtain ⟨A, B⟩ := H
  have hz := s3 f f0 f1
  refine ⟨fun g g0 g1 => ?_, fun t t0 t1 => ?_⟩
  · by_cases q : g = f
    · rw [e2, q, uA_same]
      exact ⟨fun j j0 j1 _ => by omega, fun _ => by rw [ev]; exact hf.symm⟩
    · rw [e2, uA_ne q]
      obtain ⟨a, b⟩ := A g g0 g1
      have s := s3 g g0 g1
      refine ⟨fun j j0 j1 e9 => ?_, fun z0 => by rw [e _ z0 (by omega)]; exact b z0⟩
      by_cases y : j = n
      · exact absurd (e9.symm.trans (by rw [y, ev]; exact hf.symm)) q
      · exact a j j0 (by omega) (by rw [← e j j0 (by omega)]; exact e9)
  · by_cases q : t = n
    · rw [e1, q, uA_same, ez]
      obtain ⟨a, b⟩ := A f f0 f1
      exact ⟨fun j j0 j1 e9 => a j j0 j1 (by rw [← e j j0 j1, e9, ev]; exact hf.symm), fun z0 => by rw [e _ z0 hz.2, ev]; exact (b z0).trans hf⟩
    · rw [e1, uA_ne q]
      obtain ⟨a, b⟩ := B t t0 (by omega)
      have s := s4 t t0 (by omega)
      exact ⟨fun j j0 j1 e9 => a j j0 j1 (by rw [← e j j0 (by omega), ← e t t0 (by omega)]; exact e9), fun z0 => by rw [e _ z0 (by omega), e t t0 (by omega)]; exact b z0⟩
/-! a heap of those that wait, the cheapest first -/
def Wt (hp : Int → Int) (w i : Int) : Prop := ∃ p, 0 ≤ p ∧ p < w ∧ hp p = i
def HpB (hp so : Int → Int) (w n : Int) : Prop := ∀ p, 0 ≤ p → p < w → 0 ≤ hp p ∧ hp p < n ∧ so (hp p) = p
def HpO (hp c : Int → Int) (w : Int) : Prop := ∀ s, 0 ≤ s → (2 * s + 1 < w → c (hp s) ≤ c (hp (2 * s + 1))) ∧ (2 * s + 2 < w → c (hp s) ≤ c (hp (2 * s + 2)))
theorem hp_min {hp c : Int → Int} {w : Int} (h : HpO hp c w) : ∀ (k : Nat), (k : Int) < w → c (hp 0) ≤ c (hp (k : Int)) := by
  intro k
  induction k using Nat.strongRecOn with
  | ind k ih =>
    intro hk
    by_cases z : k = 0
    · subst z; exact Int.le_refl _
    · have b := ih (((k : Int) - 1) / 2).toNat (by omega) (by omega)
      rw [show (((((k : Int) - 1) / 2).toNat : Nat) : Int) = ((k : Int) - 1) / 2 by omega] at b
      have a := h (((k : Int) - 1) / 2) (by omega)
      by_cases y : (k : Int) = 2 * (((k : Int) - 1) / 2) + 1
      · have a1 := a.1 (by omega)
        rw [← y] at a1
        omega
      · have y2 : 2 * (((k : Int) - 1) / 2) + 2 = (k : Int) := by omega
        have a2 := a.2 (by omega)
        rw [y2] at a2
        omega
theorem hp_min2 {hp c : Int → Int} {w p : Int} (h : HpO hp c w) (p0 : 0 ≤ p) (p1 : p < w) : c (hp 0) ≤ c (hp p) := by
  have := hp_min h p.toNat (by omega)
  rwa [show ((p.toNat : Nat) : Int) = p by omega] at this
/-- a new one at the end that is as dear as all -/
theorem hp_new {hp hp' so so' c c' : Int → Int} {w n : Int} (h : HpB hp so w n) (ho : HpO hp c w) (w0 : 0 ≤ w) (n0 : 0 ≤ n) (e1 : hp' = uA hp w n) (e2 : ∀ i, 0 ≤ i → i < n → so' i = so i) (e3 : so' n = w) (hc : ∀ i, 0 ≤ i → i < n → c' i = c i) (hn : ∀ p, 0 ≤ p → p < w → c (hp p) ≤ c' n) : HpB hp' so' (w + 1) (n + 1) ∧ HpO hp' c' (w + 1) := by
  subst e1
  refine ⟨fun p p0 p1 => ?_, fun s s0 => ?_⟩
  · by_cases q : p = w
    · rw [q, uA_same]; exact ⟨n0, by omega, e3⟩
    · rw [uA_ne q]
      obtain ⟨a, b, d⟩ := h p p0 (by omega)
      exact ⟨a, by omega, (e2 _ a b).trans d⟩
  · have key : ∀ q, s < q → q < w + 1 → (q < w → c (hp s) ≤ c (hp q)) → c' (uA hp w n s) ≤ c' (uA hp w n q) := by
      intro q q0 q1 H
      have hs := h s s0 (by omega)
      rw [uA_ne (show ¬ s = w by omega), hc _ hs.1 hs.2.1]
      by_cases y : q = w
      · rw [y, uA_same]; exact hn s s0 (by omega)
      · have hq := h q (by omega) (by omega)
        rw [uA_ne y, hc _ hq.1 hq.2.1]; exact H (by omega)
    exact ⟨fun z => key _ (by omega) z (fun y => (ho s s0).1 y), fun z => key _ (by omega) z (fun y => (ho s s0).2 y)⟩
theorem wt_new {hp hp' : Int → Int} {w n i : Int} (w0 : 0 ≤ w) (e1 : hp' = uA hp w n) : Wt hp' (w + 1) i ↔ (Wt hp w i ∨ i = n) := by
  subst e1
  constructor
  · rintro ⟨p, p0, p1, e⟩
    by_cases q : p = w
    · rw [q, uA_same] at e; exact Or.inr e.symm
    · rw [uA_ne q] at e; exact Or.inl ⟨p, p0, by omega, e⟩
  · rintro (⟨p, p0, p1, e⟩ | e)
    · exact ⟨p, p0, by omega, by rw [uA_ne (by omega)]; exact e⟩
    · exact ⟨w, w0, by omega, by rw [uA_same]; exact e.symm⟩
/-- the cheapest is taken: while the hole sinks -/
def TkI (hp so c : Int → Int) (w n : Int) (h s : Int → Int) (x : Int) : Prop := HpB hp so w n → HpO hp c w → 0 < w → (0 ≤ x ∧ (x < w - 1 ∨ x = 0)) ∧ HpO h c (w - 1) ∧ (∀ y, 0 ≤ y → (2 * y + 1 = x ∨ 2 * y + 2 = x) → c (h y) ≤ c (hp (w - 1))) ∧ (∀ p, 0 ≤ p → p < w - 1 → ¬ p = x → 0 ≤ h p ∧ h p < n ∧ s (h p) = p ∧ ¬ h p = hp (w - 1)) ∧ ∀ i, ((∃ p, 0 ≤ p ∧ p < w - 1 ∧ ¬ p = x ∧ h p = i) ∨ (i = hp (w - 1) ∧ 0 < w - 1)) ↔ (Wt hp w i ∧ ¬ i = hp 0)
theorem tk_0 {hp so c : Int → Int} {w n x : Int} (hx : x = 0) : TkI hp so c w n hp so x := by
  intro hB hO hw
  subst hx
  have hl := hB (w - 1) (by omega) (by omega)
  have h0 := hB 0 (by omega) (by omega)
  refine ⟨by omega, fun s s0 => ⟨fun z => (hO s s0).1 (by omega), fun z => (hO s s0).2 (by omega)⟩, fun y y0 z => by omega, fun p p0 p1 _ => ?_, fun i => ⟨?_, ?_⟩⟩
  · obtain ⟨a, b, d⟩ := hB p p0 (by omega)
    refine ⟨a, b, d, fun z => ?_⟩
    rw [z, hl.2.2] at d
    omega
  · rintro (⟨p, p0, p1, hp0, e⟩ | ⟨e, h1⟩)
    · refine ⟨⟨p, p0, by omega, e⟩, fun z => ?_⟩
      have d := (hB p p0 (by omega)).2.2
      rw [e, z, h0.2.2] at d
      omega
    · refine ⟨⟨w - 1, by omega, by omega, e.symm⟩, fun z => ?_⟩
      have d := hl.2.2
      rw [← e, z, h0.2.2] at d
      omega
  · rintro ⟨⟨p, p0, p1, e⟩, hne⟩
    have hp0 : ¬ p = 0 := fun z => hne (by rw [← e, z])
    by_cases q : p = w - 1
    · exact Or.inr ⟨by rw [← e, q], by omega⟩
    · exact Or.inl ⟨p, p0, by omega, hp0, e⟩
def MnP (h c : Int → Int) (w x b : Int) : Prop := (b = 2 * x + 1 ∨ b = 2 * x + 2) ∧ (2 * x + 1 < w → c (h b) ≤ c (h (2 * x + 1))) ∧ (2 * x + 2 < w → c (h b) ≤ c (h (2 * x + 2)))
theorem mn_o {h c : Int → Int} {w x b : Int} (hb : b = 2 * x + 1) (hw : w ≤ b + 1) : MnP h c w x b := ⟨Or.inl hb, fun _ => by rw [hb]; exact Int.le_refl _, fun z => by omega⟩
theorem mn_l {h c : Int → Int} {w x b z1 z2 z3 z4 i : Int} (hb : b = 2 * x + 1) (e1 : z1 = h i) (hi : i = b + 1) (e2 : z2 = c z1) (e3 : z3 = h b) (e4 : z4 = c z3) (hz : ¬ z2 < z4) : MnP h c w x b := by
  refine ⟨Or.inl hb, fun _ => by rw [hb]; exact Int.le_refl _, fun z => ?_⟩
  rw [show 2 * x + 2 = i by omega, ← e1, ← e2, ← e3, ← e4]
  omega
theorem mn_r {h c : Int → Int} {w x b b' z1 z2 z3 z4 i : Int} (hb : b = 2 * x + 1) (hb' : b' = b + 1) (e1 : z1 = h i) (hi : i = b + 1) (e2 : z2 = c z1) (e3 : z3 = h b) (e4 : z4 = c z3) (hz : z2 < z4) : MnP h c w x b' := by
  refine ⟨Or.inr (by omega), fun _ => ?_, fun _ => by rw [show 2 * x + 2 = b' by omega]; exact Int.le_refl _⟩
  rw [show 2 * x + 1 = b by omega, show b' = i by omega, ← e1, ← e2, ← e3, ← e4]
  omega
theorem tk_s {hp so c h s h' s' : Int → Int} {w n x b z zl zc zd : Int} (H : TkI hp so c w n h s x) (M : MnP h c (w - 1) x b) (hb : b < w - 1) (ez : z = h b) (e1 : h' = uA h x z) (e2 : s' = uA s zd x) (hzd : zd = h' x) (hl : zl = hp (w - 1)) (hlt : c z < c zl) : TkI hp so c w n h' s' b := by
  intro hB hO hw
  obtain ⟨a1, a2, a3, a4, a5⟩ := H hB hO hw
  obtain ⟨m1, m2, m3⟩ := M
  have ezd : zd = h b := by rw [hzd, e1, uA_same, ez]
  have hbx : ¬ b = x := by omega
  have hbb := a4 b (by omega) hb hbx
  subst e1 e2
  rw [ez]
  refine ⟨by omega, fun y y0 => ?_, fun y y0 hy => ?_, fun p p0 p1 hp => ?_, fun i => ?_⟩
  · have key : ∀ q, (q = 2 * y + 1 ∨ q = 2 * y + 2) → q < w - 1 → c (h y) ≤ c (h q) → c (uA h x (h b) y) ≤ c (uA h x (h b) q) := by
      intro q hq q1 hle
      by_cases z1 : y = x
      · rw [z1, uA_same, uA_ne (show ¬ q = x by omega)]
        rcases hq with hq | hq
        · rw [hq, z1]; exact m2 (by omega)
        · rw [hq, z1]; exact m3 (by omega)
      · rw [uA_ne z1]
        by_cases z2 : q = x
        · rw [z2, uA_same]
          rw [z2] at hle
          have h9 : c (h x) ≤ c (h b) := by
            rcases m1 with m1 | m1
            · rw [m1]; exact (a2 x a1.1).1 (by omega)
            · rw [m1]; exact (a2 x a1.1).2 (by omega)
          omega
        · rw [uA_ne z2]; exact hle
    exact ⟨fun z0 => key _ (Or.inl rfl) z0 ((a2 y y0).1 z0), fun z0 => key _ (Or.inr rfl) z0 ((a2 y y0).2 z0)⟩
  · have hyx : y = x := by omega
    rw [hyx, uA_same, ← hl]
    rw [ez] at hlt
    omega
  · by_cases q : p = x
    · rw [q, uA_same]
      refine ⟨hbb.1, hbb.2.1, ?_, hbb.2.2.2⟩
      rw [ezd, uA_same]
    · rw [uA_ne q]
      obtain ⟨b1, b2, b3, b4⟩ := a4 p p0 p1 q
      refine ⟨b1, b2, ?_, b4⟩
      rw [uA_ne (show ¬ h p = zd from fun z0 => by rw [z0, ezd, hbb.2.2.1] at b3; omega)]
      exact b3
  · rw [← a5 i]
    constructor
    · rintro (⟨p, p0, p1, hpb, e⟩ | e)
      · by_cases q : p = x
        · rw [q, uA_same] at e
          exact Or.inl ⟨b, by omega, hb, hbx, e⟩
        · rw [uA_ne q] at e
          exact Or.inl ⟨p, p0, p1, q, e⟩
      · exact Or.inr e
    · rintro (⟨p, p0, p1, hpx, e⟩ | e)
      · by_cases q : p = b
        · exact Or.inl ⟨x, a1.1, by omega, fun z0 => hbx z0.symm, by rw [uA_same, ← q]; exact e⟩
        · exact Or.inl ⟨p, p0, p1, q, by rw [uA_ne hpx]; exact e⟩
      · exact Or.inr e
/-- what is known as the cheapest is taken -/
def TcP (hp so c : Int → Int) (w n : Int) (hp' so' : Int → Int) (w' r : Int) : Prop := HpB hp so w n → HpO hp c w → 0 < w → HpB hp' so' w' n ∧ HpO hp' c w' ∧ r = hp 0 ∧ w' = w - 1 ∧ ∀ i, Wt hp' w' i ↔ (Wt hp w i ∧ ¬ i = hp 0)
theorem tk_e {hp so c h s h' s' : Int → Int} {w n x zl r w' : Int} (H : TkI hp so c w n h s x) (hE : (2 * x + 1 < w - 1 → c zl ≤ c (h (2 * x + 1))) ∧ (2 * x + 2 < w - 1 → c zl ≤ c (h (2 * x + 2)))) (e1 : h' = uA h x zl) (e2 : s' = uA s zl x) (hl : zl = hp (w - 1)) (hr : r = hp 0) (hw' : w' = w - 1) : TcP hp so c w n h' s' w' r := by
  intro hB hO hw
  obtain ⟨a1, a2, a3, a4, a5⟩ := H hB hO hw
  have hll := hB (w - 1) (by omega) (by omega)
  subst e1 e2 hw'
  refine ⟨fun p p0 p1 => ?_, fun y y0 => ?_, hr, rfl, fun i => ?_⟩
  · by_cases q : p = x
    · rw [q, uA_same, uA_same, hl]; exact ⟨hll.1, hll.2.1, rfl⟩
    · rw [uA_ne q]
      obtain ⟨b1, b2, b3, b4⟩ := a4 p p0 p1 q
      refine ⟨b1, b2, ?_⟩
      rw [uA_ne (show ¬ h p = zl by rw [hl]; exact b4)]
      exact b3
  · have key : ∀ q, (q = 2 * y + 1 ∨ q = 2 * y + 2) → q < w - 1 → c (h y) ≤ c (h q) → c (uA h x zl y) ≤ c (uA h x zl q) := by
      intro q hq q1 hle
      by_cases z1 : y = x
      · rw [z1, uA_same, uA_ne (show ¬ q = x by omega)]
        rcases hq with hq | hq
        · rw [hq, z1]; exact hE.1 (by omega)
        · rw [hq, z1]; exact hE.2 (by omega)
      · rw [uA_ne z1]
        by_cases z2 : q = x
        · rw [z2, uA_same, hl]; exact a3 y y0 (by omega)
        · rw [uA_ne z2]; exact hle
    exact ⟨fun z0 => key _ (Or.inl rfl) z0 ((a2 y y0).1 z0), fun z0 => key _ (Or.inr rfl) z0 ((a2 y y0).2 z0)⟩
  · rw [← a5 i]
    constructor
    · rintro ⟨p, p0, p1, e⟩
      by_cases q : p = x
      · rw [q, uA_same] at e
        exact Or.inr ⟨by rw [← e, hl], by omega⟩
      · rw [uA_ne q] at e
        exact Or.inl ⟨p, p0, p1, q, e⟩
    · rintro (⟨p, p0, p1, hpx, e⟩ | ⟨e, h1⟩)
      · exact ⟨p, p0, p1, by rw [uA_ne hpx]; exact e⟩
      · exact ⟨x, a1.1, by omega, by rw [uA_same, e, hl]⟩
theorem tk_x {c h : Int → Int} {w x b zl : Int} (M : MnP h c w x b) (hle : c zl ≤ c (h b)) : (2 * x + 1 < w → c zl ≤ c (h (2 * x + 1))) ∧ (2 * x + 2 < w → c zl ≤ c (h (2 * x + 2))) := by
  obtain ⟨m1, m2, m3⟩ := M
  exact ⟨fun z => Int.le_trans hle (m2 z), fun z => Int.le_trans hle (m3 z)⟩
theorem tk_y {c h : Int → Int} {w x zl : Int} (hx : ¬ 2 * x + 1 < w) : (2 * x + 1 < w → c zl ≤ c (h (2 * x + 1))) ∧ (2 * x + 2 < w → c zl ≤ c (h (2 * x + 2))) := ⟨fun z => absurd z hx, fun z => absurd z (by omega)⟩
