/-! days: who is there, what is served -/
def AsT (A p a D : Int) : Prop := p = 15 ∨ A = -1 ∨ p = 14 ∨ (p < 12 ∧ p = A) ∨ ((p = 12 ∨ p = 13) ∧ buD (p - 12) a D = A)
def AsM (n D : Int) (A p : Int → Int) (a : Int) : Prop := ∀ t, 0 ≤ t → t < n → AsT (A t) (p t) a D
def AsX (n D : Int) (A : Int → Int) (x : Int) : Prop := AsM n D A (plc x) (dpc x)
theorem as_x {n D a b x : Int} {A p g : Int → Int} (hn : n ≤ 7) (h : RgZ p a) (e : x = cdS p a) (hg : ∀ t, 0 ≤ t → t < 7 → g t = p t) (hb : b = a) : AsM n D A g b ↔ AsX n D A x := by
  unfold AsX AsM
  rw [e, dpc_cd h, hb]
  constructor
  · intro H t t0 t1
    have h9 := H t t0 t1
    rw [plc_cd h t0 (by omega), ← hg t t0 (by omega)]; exact h9
  · intro H t t0 t1
    have h9 := H t t0 t1
    rw [plc_cd h t0 (by omega), ← hg t t0 (by omega)] at h9; exact h9
theorem as_c {n D s : Int} {A : Int → Int} (hn : n ≤ 7) : AsM n D A (nb s) (dp s) ↔ AsX n D A (cdC s) := as_x hn (rg_C s) rfl (fun _ _ _ => rfl) rfl
theorem as_i {n D : Int} {A A' : Int → Int} {x : Int} (hA : ∀ t, 0 ≤ t → t < n → A t = A' t) : AsX n D A x ↔ AsX n D A' x := by
  unfold AsX AsM
  constructor
  · intro H t t0 t1
    rw [← hA t t0 t1]; exact H t t0 t1
  · intro H t t0 t1
    rw [hA t t0 t1]; exact H t t0 t1
/-- the class's test of a THING -/
theorem at_y {A p a D : Int} (hp : 0 ≤ p ∧ p ≤ 15) (h : A = -1 ∨ 14 ≤ p) : AsT A p a D := by
  unfold AsT
  omega
theorem at_z {A p a D z : Int} (hp : 0 ≤ p ∧ p ≤ 15) (h1 : ¬ A = -1) (h2 : ¬ 14 ≤ p) (hz : z = thD p a D) : AsT A p a D ↔ z = A := by
  unfold thD at hz
  unfold AsT
  by_cases q : p < 12
  · rw [if_pos q] at hz
    omega
  · rw [if_neg q, if_pos (by omega)] at hz
    omega
/-- whether all is served, one THING after another -/
def AsI (n D : Int) (A p : Int → Int) (a x : Int) : Prop := ∀ t, 0 ≤ t → t < x → AsT (A t) (p t) a D
theorem ai_0 {n D a x : Int} {A p : Int → Int} (hx : x ≤ 0) : AsI n D A p a x := fun t t0 t1 => absurd t1 (by omega)
theorem ai_s {n D a x x' : Int} {A p : Int → Int} (h : AsI n D A p a x) (q : AsT (A x) (p x) a D) (hx : x' = x + 1) : AsI n D A p a x' := fun t t0 t1 => by
  by_cases y : t = x
  · rw [y]; exact q
  · exact h t t0 (by omega)
def AsR (r : Int) (P : Prop) : Prop := (r = 1 ∧ P) ∨ (r = 0 ∧ ¬ P)
theorem ar_y {n D a x r : Int} {A p : Int → Int} (h : AsI n D A p a x) (hx : n ≤ x) (hr : r = 1) : AsR r (AsM n D A p a) := Or.inl ⟨hr, fun t t0 t1 => h t t0 (by omega)⟩
theorem ar_n {n D a x r : Int} {A p : Int → Int} (x0 : 0 ≤ x) (hx : x < n) (q : ¬ AsT (A x) (p x) a D) (hr : r = 0) : AsR r (AsM n D A p a) := Or.inr ⟨hr, fun h => q (h x x0 hx)⟩
/-- the least of those that are served: none, or some -/
def LsI (P : Int → Prop) (c : Int → Int) (r x : Int) : Prop := (∀ k, 0 ≤ k → k < x → 0 ≤ c k) → (r = -1 ∧ ∀ k, 0 ≤ k → k < x → ¬ P k) ∨ (0 ≤ r ∧ ∃ k, 0 ≤ k ∧ k < x ∧ P k)
theorem ls_0 {P : Int → Prop} {c : Int → Int} {r x : Int} (hr : r = -1) (hx : x ≤ 0) : LsI P c r x := fun _ => Or.inl ⟨hr, fun k k0 k1 => absurd k1 (by omega)⟩
theorem ls_y {P : Int → Prop} {c : Int → Int} {x r' x' : Int} (x0 : 0 ≤ x) (q : P x) (hr : r' = c x) (hx : x' = x + 1) : LsI P c r' x' := fun hc => Or.inr ⟨by rw [hr]; exact hc x x0 (by omega), x, x0, by omega, q⟩
theorem ls_n {P : Int → Prop} {c : Int → Int} {r x x' : Int} (h : LsI P c r x) (q : ¬ r = -1 ∨ ¬ P x) (hx : x' = x + 1) : LsI P c r x' := fun hc => by
  rcases h (fun k k0 k1 => hc k k0 (by omega)) with ⟨a, b⟩ | ⟨a, k, k0, k1, hk⟩
  · refine Or.inl ⟨a, fun k k0 k1 => ?_⟩
    by_cases y : k = x
    · rw [y]; exact q.resolve_left (fun z => z a)
    · exact b k k0 (by omega)
  · exact Or.inr ⟨a, k, k0, by omega, hk⟩
/-! stones -/
def skN (K : Int → Int) : Nat → Int
  | 0 => 0
  | k + 1 => skN K k + (if K (k : Int) = 2 then 1 else 0)
def skF (K : Int → Int) (t : Int) : Int := skN K t.toNat
theorem sk_s0 {K : Int → Int} {x : Int} (hx : x ≤ 0) : skF K x = 0 := by
  unfold skF
  rw [show x.toNat = 0 by omega]; rfl
theorem sk_st {K : Int → Int} {x : Int} (x0 : 0 ≤ x) : skF K (x + 1) = skF K x + (if K x = 2 then 1 else 0) := by
  unfold skF
  rw [show (x + 1).toNat = x.toNat + 1 by omega]
  show skN K x.toNat + (if K ((x.toNat : Nat) : Int) = 2 then 1 else 0) = _
  rw [show ((x.toNat : Nat) : Int) = x by omega]
theorem skr_b {K : Int → Int} : ∀ k : Nat, 0 ≤ skN K k ∧ skN K k ≤ k
  | 0 => by show (0 : Int) ≤ 0 ∧ (0 : Int) ≤ ((0 : Nat) : Int); omega
  | k + 1 => by
    have h := skr_b (K := K) k
    show 0 ≤ skN K k + (if K (k : Int) = 2 then 1 else 0) ∧ skN K k + (if K (k : Int) = 2 then 1 else 0) ≤ ((k + 1 : Nat) : Int)
    by_cases q : K (k : Int) = 2
    · rw [if_pos q]; omega
    · rw [if_neg q]; omega
theorem sk_mo {K : Int → Int} {k : Nat} : ∀ m : Nat, k ≤ m → skN K k ≤ skN K m := by
  intro m h
  induction h with
  | refl => exact Int.le_refl _
  | @step m _ ih =>
    show skN K k ≤ skN K m + (if K (m : Int) = 2 then 1 else 0)
    by_cases q : K (m : Int) = 2
    · rw [if_pos q]; omega
    · rw [if_neg q]; omega
theorem sk_le {K : Int → Int} {x y : Int} (h : x ≤ y) : skF K x ≤ skF K y := sk_mo _ (by omega)
theorem sk_b {K : Int → Int} {x : Int} (x0 : 0 ≤ x) : 0 ≤ skF K x ∧ skF K x ≤ x := by
  have h := skr_b (K := K) x.toNat
  unfold skF
  omega
theorem sk_x {K K' : Int → Int} {n : Int} (h : ∀ t, 0 ≤ t → t < n → K t = K' t) : ∀ t, t ≤ n → skF K t = skF K' t := by
  have key : ∀ k : Nat, (k : Int) ≤ n → skN K k = skN K' k := by
    intro k
    induction k with
    | zero => intro _; rfl
    | succ k ih =>
      intro hk
      show skN K k + (if K (k : Int) = 2 then 1 else 0) = skN K' k + (if K' (k : Int) = 2 then 1 else 0)
      rw [ih (by omega), h (k : Int) (by omega) (by omega)]
  intro t ht
  unfold skF
  by_cases q : 0 ≤ t
  · exact key _ (by omega)
  · rw [show t.toNat = 0 by omega]; rfl
/-- a set's bit -/
def btF (w t : Int) : Bool := (bv w).getLsbD t.toNat
theorem bt_or {a b t : Int} : btF (bOr a b) t = (btF a t || btF b t) := by
  unfold btF
  rw [bv_or, BitVec.getLsbD_or]
theorem bt_not {a t : Int} (t0 : 0 ≤ t) (t1 : t < 32) : btF (bXor a (-1)) t = !(btF a t) := by
  unfold btF
  rw [bv_xor, BitVec.getLsbD_xor, gM1 (by omega)]
  simp
theorem bt_0 (t : Int) : btF 0 t = false := g0 _
theorem bt_one {j t : Int} (j0 : 0 ≤ j) (j1 : j < 32) (t0 : 0 ≤ t) (t1 : t < 32) : btF (bShl 1 j) t = true ↔ t = j := by
  unfold btF
  rw [bv_shl j0 j1, BitVec.getLsbD_shiftLeft, g1, decide_eq_true (show t.toNat < 32 by omega)]
  by_cases q : t.toNat < j.toNat
  · rw [decide_eq_true q]
    simp
    omega
  · rw [decide_eq_false q]
    simp
    omega
theorem bt_and {w t : Int} (t0 : 0 ≤ t) (t1 : t < 32) : bAnd (bShr w t) 1 = 0 ↔ btF w t = false := bit_1 t0 t1
theorem bt_and1 {w t : Int} (t0 : 0 ≤ t) (t1 : t < 32) : bAnd (bShr w t) 1 = 1 ↔ btF w t = true := by
  have h := bt_and (w := w) t0 t1
  have hr : ∀ x : Int, bAnd x 1 = 0 ∨ bAnd x 1 = 1 := by
    intro x
    have e : (Int32.ofInt x &&& Int32.ofInt 1).toBitVec.toNat ≤ 1 := by
      rw [Int32.toBitVec_and, BitVec.toNat_and]
      exact Nat.le_trans Nat.and_le_right (by decide)
    have e2 : (Int32.ofInt x &&& Int32.ofInt 1).toInt = ((Int32.ofInt x &&& Int32.ofInt 1).toBitVec.toNat : Int) := BitVec.toInt_eq_toNat_of_lt (by omega)
    unfold bAnd
    rw [e2]
    omega
  rcases hr (bShr w t) with e | e
  · rw [e] at h ⊢
    have h1 := h.mp rfl
    rw [h1]
    exact ⟨fun z => absurd z (by decide), fun z => absurd z (by decide)⟩
  · rw [e] at h ⊢
    cases hb : btF w t with
    | false => exact absurd (h.mpr hb) (by decide)
    | true => exact ⟨fun _ => rfl, fun _ => rfl⟩
/-- the first stones, as bits -/
def FsP (n k : Int) (K : Int → Int) (w : Int) : Prop := ∀ t, 0 ≤ t → t < 32 → (btF w t = true ↔ t < n ∧ K t = 2 ∧ skF K t < k)
def FsJ (k : Int) (K : Int → Int) (w f x : Int) : Prop := f = skF K x ∧ ∀ t, 0 ≤ t → t < 32 → (btF w t = true ↔ t < x ∧ K t = 2 ∧ skF K t < k)
theorem fj_0 {k w f x : Int} {K : Int → Int} (hw : w = 0) (hf : f = 0) (hx : x = 0) : FsJ k K w f x := by
  subst hw hf hx
  exact ⟨(sk_s0 (by decide)).symm, fun t t0 t1 => by rw [bt_0]; exact ⟨fun z => absurd z (by decide), fun z => by omega⟩⟩
theorem fj_n {k w f x x' z : Int} {K : Int → Int} (h : FsJ k K w f x) (x0 : 0 ≤ x) (hz : z = K x) (h2 : ¬ z = 2) (hx : x' = x + 1) : FsJ k K w f x' := by
  obtain ⟨a, b⟩ := h
  subst hx
  refine ⟨by rw [sk_st x0, if_neg (by rw [← hz]; exact h2), Int.add_zero]; exact a, fun t t0 t1 => ?_⟩
  rw [b t t0 t1]
  by_cases q : t = x
  · rw [q]
    exact ⟨fun y => by omega, fun y => absurd (hz.trans y.2.1) h2⟩
  · constructor
    · rintro ⟨c1, c2⟩; exact ⟨by omega, c2⟩
    · rintro ⟨c1, c2⟩; exact ⟨by omega, c2⟩
theorem fj_y {k w f x x' z w' f' s : Int} {K : Int → Int} (h : FsJ k K w f x) (x0 : 0 ≤ x) (x1 : x < 32) (hz : z = K x) (h2 : z = 2) (hk : f < k) (hs : s = bShl 1 x) (hw : w' = bOr w s) (hf : f' = f + 1) (hx : x' = x + 1) : FsJ k K w' f' x' := by
  obtain ⟨a, b⟩ := h
  subst hx hf
  refine ⟨by rw [sk_st x0, if_pos (by rw [← hz]; exact h2), a], fun t t0 t1 => ?_⟩
  rw [hw, bt_or, Bool.or_eq_true, b t t0 t1, hs, bt_one x0 x1 t0 t1]
  constructor
  · rintro (⟨c1, c2⟩ | c)
    · exact ⟨by omega, c2⟩
    · rw [c]; exact ⟨by omega, hz.symm.trans h2, by omega⟩
  · rintro ⟨c1, c2, c3⟩
    by_cases q : t = x
    · exact Or.inr q
    · exact Or.inl ⟨by omega, c2, c3⟩
theorem fj_e {n k w f x : Int} {K : Int → Int} (h : FsJ k K w f x) (x0 : 0 ≤ x) (hx : x ≤ n) (hE : n ≤ x ∨ k ≤ f) : FsP n k K w := by
  obtain ⟨a, b⟩ := h
  intro t t0 t1
  rw [b t t0 t1]
  constructor
  · rintro ⟨c1, c2⟩; exact ⟨by omega, c2⟩
  · rintro ⟨c1, c2, c3⟩
    refine ⟨?_, c2, c3⟩
    rcases hE with hE | hE
    · omega
    · by_cases q : t < x
      · exact q
      · have := sk_le (K := K) (show x ≤ t by omega)
        omega
/-! a DAY: what is there -/
def dyF (n k d : Int) (K F : Int → Int) : Int → Int := fun t => if t < n ∧ ((K t = 2 ∧ skF K t < k) ∨ (¬ K t = 2 ∧ btF d t = true)) then F t else 15
def DaO (n : Int) (K A : Int → Int) (d : Int) : Prop := ∀ t, 0 ≤ t → t < 32 → btF d t = true → t < n ∧ ¬ A t = -1
/-- what a search for a DAY says -/
def RdX (S : Int → Int → Prop) (x0 : Int) (P : Int → Prop) (r : Int) : Prop := ∃ (L : Int → Int) (n sp : Int), Fnd S x0 1500 sp L n ∧ 0 ≤ n ∧ ((¬ sp = 0 ∧ r = -2) ∨ (sp = 0 ∧ ((r = 0 ∧ ∀ k, 0 ≤ k → k < n → ¬ P (L k)) ∨ (r = 1 ∧ ∃ k, 0 ≤ k ∧ k < n ∧ P (L k)))))
theorem rd_u {S : Int → Int → Prop} {x0 r r' : Int} {P : Int → Prop} (h : RdX S x0 P r) (h' : RdX S x0 P r') : r = r' := by
  obtain ⟨L, n, sp, F, n0, hL⟩ := h
  obtain ⟨L', n', sp', F', n0', hL'⟩ := h'
  obtain ⟨e1, e2⟩ := fnd_eq F F' (by decide)
  rcases hL with ⟨u1, u2⟩ | ⟨u1, u2⟩
  · rcases hL' with ⟨w1, w2⟩ | ⟨w1, w2⟩
    · rw [u2, w2]
    · exact absurd (e1.mpr w1) u1
  · rcases hL' with ⟨w1, w2⟩ | ⟨w1, w2⟩
    · exact absurd (e1.mp u1) w1
    · have key : (∃ k, 0 ≤ k ∧ k < n ∧ P (L k)) ↔ ∃ k, 0 ≤ k ∧ k < n' ∧ P (L' k) := by
        constructor
        · rintro ⟨k, k0, k1, hk⟩
          obtain ⟨j, j0, j1, e⟩ := (e2 u1 (L k)).mp ⟨k, k0, k1, rfl⟩
          exact ⟨j, j0, j1, by rw [e]; exact hk⟩
        · rintro ⟨k, k0, k1, hk⟩
          obtain ⟨j, j0, j1, e⟩ := (e2 u1 (L' k)).mpr ⟨k, k0, k1, rfl⟩
          exact ⟨j, j0, j1, by rw [e]; exact hk⟩
      rcases u2 with ⟨a, b⟩ | ⟨a, b⟩
      · rcases w2 with ⟨c, d⟩ | ⟨c, d⟩
        · rw [a, c]
        · obtain ⟨k, k0, k1, hk⟩ := key.mpr d
          exact absurd hk (b k k0 k1)
      · rcases w2 with ⟨c, d⟩ | ⟨c, d⟩
        · obtain ⟨k, k0, k1, hk⟩ := key.mp b
          exact absurd hk (d k k0 k1)
        · rw [a, c]
theorem rdx_i {S S' : Int → Int → Prop} {x0 x0' r : Int} {P P' : Int → Prop} (hS : ∀ x y, S x y ↔ S' x y) (hx : x0 = x0') (hP : ∀ x, P x ↔ P' x) (h : RdX S x0 P r) : RdX S' x0' P' r := by
  have e1 : S = S' := funext (fun x => funext (fun y => propext (hS x y)))
  have e2 : P = P' := funext (fun x => propext (hP x))
  rw [← e1, ← hx, ← e2]; exact h
/-- the first DAY that fails -/
def FfP (R : Int → Int → Prop) (m r : Int) : Prop := (r = -2 ∧ ∃ i, 0 ≤ i ∧ i < m ∧ (∀ j, 0 ≤ j → j < i → R j 1) ∧ R i (-2)) ∨ (0 ≤ r ∧ r < m ∧ (∀ j, 0 ≤ j → j < r → R j 1) ∧ R r 0) ∨ (r = -1 ∧ ∀ j, 0 ≤ j → j < m → R j 1)
theorem ff_u {R : Int → Int → Prop} {m r r' : Int} (hR : ∀ j a b, R j a → R j b → a = b) (h : FfP R m r) (h' : FfP R m r') : r = r' := by
  rcases h with ⟨a, i, i0, i1, i2, i3⟩ | ⟨a0, a1, a2, a3⟩ | ⟨a, a1⟩
  · rcases h' with ⟨b, _⟩ | ⟨b0, b1, b2, b3⟩ | ⟨b, b1⟩
    · rw [a, b]
    · exfalso
      by_cases q : i < r'
      · have := hR i _ _ i3 (b2 i i0 q); omega
      · by_cases q2 : r' < i
        · have := hR r' _ _ b3 (i2 r' b0 q2); omega
        · have e : i = r' := by omega
          rw [e] at i3
          have := hR r' _ _ i3 b3; omega
    · have := hR i _ _ i3 (b1 i i0 i1); omega
  · rcases h' with ⟨b, i, i0, i1, i2, i3⟩ | ⟨b0, b1, b2, b3⟩ | ⟨b, b1⟩
    · exfalso
      by_cases q : i < r
      · have := hR i _ _ i3 (a2 i i0 q); omega
      · by_cases q2 : r < i
        · have := hR r _ _ a3 (i2 r a0 q2); omega
        · have e : i = r := by omega
          rw [e] at i3
          have := hR r _ _ i3 a3; omega
    · by_cases q : r < r'
      · have := hR r _ _ a3 (b2 r a0 q); omega
      · by_cases q2 : r' < r
        · have := hR r' _ _ b3 (a2 r' b0 q2); omega
        · omega
    · have := hR r _ _ a3 (b1 r a0 a1); omega
  · rcases h' with ⟨b, i, i0, i1, i2, i3⟩ | ⟨b0, b1, b2, b3⟩ | ⟨b, b1⟩
    · have := hR i _ _ i3 (a1 i i0 i1); omega
    · have := hR r' _ _ b3 (a1 r' b0 b1); omega
    · rw [a, b]
/-- ENOUGH, FAILS: k from 0 on; G k f says what the first DAY that fails is -/
def EnI (G : Int → Int → Prop) (k f : Int) : Prop := (∀ j, 0 ≤ j → j < k → ∃ g, 0 ≤ g ∧ G j g) ∧ ((k = 0 ∧ f = -1) ∨ (0 < k ∧ 0 ≤ f ∧ G (k - 1) f))
def EnP (G : Int → Int → Prop) (s w r : Int) : Prop := ∃ k f, 0 ≤ k ∧ EnI G k f ∧ ((k ≤ s ∧ G k (-2) ∧ r = -2) ∨ (k ≤ s ∧ G k (-1) ∧ ((w = 0 ∧ r = k) ∨ (¬ w = 0 ∧ r = f))) ∨ (k = s + 1 ∧ r = -1))
theorem en_0 {G : Int → Int → Prop} {k f : Int} (hk : k = 0) (hf : f = -1) : EnI G k f := ⟨fun j j0 j1 => absurd j1 (by omega), Or.inl ⟨hk, hf⟩⟩
theorem en_s {G : Int → Int → Prop} {k f k' f' : Int} (h : EnI G k f) (k0 : 0 ≤ k) (hg : G k f') (hf : 0 ≤ f') (hk : k' = k + 1) : EnI G k' f' := by
  subst hk
  refine ⟨fun j j0 j1 => ?_, Or.inr ⟨by omega, hf, by rw [show k + 1 - 1 = k by omega]; exact hg⟩⟩
  by_cases q : j = k
  · exact ⟨f', hf, by rw [q]; exact hg⟩
  · exact h.1 j j0 (by omega)
theorem en_u {G : Int → Int → Prop} {s w r r' : Int} (hs : 0 ≤ s) (hG : ∀ j a b, G j a → G j b → a = b) (h : EnP G s w r) (h' : EnP G s w r') : r = r' := by
  obtain ⟨k, f, k0, ⟨i1, i2⟩, hk⟩ := h
  obtain ⟨k', f', k0', ⟨i1', i2'⟩, hk'⟩ := h'
  have key : ∀ {a b : Int} {x : Int}, 0 ≤ a → (∀ j, 0 ≤ j → j < b → ∃ g, 0 ≤ g ∧ G j g) → G a x → x < 0 → ¬ a < b := by
    intro a b x a0 hb hx hn q
    obtain ⟨g, g0, hg⟩ := hb a a0 q
    have := hG a _ _ hx hg
    omega
  have ek : k = k' := by
    rcases hk with ⟨a, b, c⟩ | ⟨a, b, c⟩ | ⟨a, c⟩ <;> rcases hk' with ⟨a', b', c'⟩ | ⟨a', b', c'⟩ | ⟨a', c'⟩
    all_goals first
      | (have h1 := key k0 i1' b (by decide); have h2 := key k0' i1 b' (by decide); omega)
      | (have h1 := key k0 i1' b (by decide); omega)
      | (have h2 := key k0' i1 b' (by decide); omega)
      | omega
  subst ek
  have ef : f = f' := by
    rcases i2 with ⟨a, b⟩ | ⟨a, b, c⟩ <;> rcases i2' with ⟨a', b'⟩ | ⟨a', b', c'⟩
    · omega
    · omega
    · omega
    · exact hG _ _ _ c c'
  subst ef
  rcases hk with ⟨a, b, c⟩ | ⟨a, b, c⟩ | ⟨a, c⟩ <;> rcases hk' with ⟨a', b', c'⟩ | ⟨a', b', c'⟩ | ⟨a', c'⟩
  all_goals first
    | omega
    | (have := hG _ _ _ b b'; omega)
theorem sk_a {K : Int → Int} {v v' x x' z : Int} (h : v = skF K x) (x0 : 0 ≤ x) (hz : z = K x) (hv : (z = 2 ∧ v' = v + 1) ∨ (¬ z = 2 ∧ v' = v + 0)) (hx : x' = x + 1) : v' = skF K x' := by
  subst hx
  rw [sk_st x0]
  rcases hv with ⟨a, b⟩ | ⟨a, b⟩
  · rw [if_pos (by rw [← hz]; exact a)]; omega
  · rw [if_neg (by rw [← hz]; exact a)]; omega
theorem asr_y {r : Int} {P : Prop} (h : AsR r P) (hr : ¬ r = 0) : P := by
  rcases h with ⟨_, q⟩ | ⟨a, _⟩
  · exact q
  · exact absurd a hr
theorem asr_n {r : Int} {P : Prop} (h : AsR r P) (hr : r = 0) : ¬ P := by
  rcases h with ⟨a, _⟩ | ⟨_, q⟩
  · omega
  · exact q
/-- what a search of the class, or of the model, says of a DAY -/
theorem rdc_x {S : Int → Int → Prop} {P : Int → Prop} {v w n sp r : Int} {L c pa : Int → Int} (E : EpP S w v L c pa n sp r) (hw : w = 0) (hr : r = 0) : RdX S (cdC v) P (-2) := by
  obtain ⟨F, e, q⟩ := E hw
  exact ⟨_, n, sp, by rw [← e]; exact F.2.1, by have := F.1; omega, Or.inl ⟨by omega, rfl⟩⟩
theorem rdc_r {S : Int → Int → Prop} {P : Int → Prop} {v w n sp r l o : Int} {L c pa : Int → Int} (E : EpP S w v L c pa n sp r) (hw : w = 0) (hr : ¬ r = 0) (hl : LsI (fun k => P (cdC (L k))) c l n) (ho : (l = -1 ∧ o = 0) ∨ (¬ l = -1 ∧ o = 1)) : RdX S (cdC v) P o := by
  obtain ⟨F, e, q⟩ := E hw
  refine ⟨_, n, sp, by rw [← e]; exact F.2.1, by have := F.1; omega, Or.inr ⟨by omega, ?_⟩⟩
  rcases hl F.2.2.1 with ⟨a, b⟩ | ⟨a, b⟩
  · exact Or.inl ⟨by omega, b⟩
  · exact Or.inr ⟨by omega, b⟩
def VlA (fl : Nat → Int64) (n : Int) : Prop := ∀ k, 0 ≤ k → k < n → ∃ (p : Int → Int) (a : Int), RgZ p a ∧ LmF fl k = cdS p a
theorem lsj_y {fl : Nat → Int64} {n D m x x' r' b z : Int} {A c g : Int → Int} {u : Int64} (hn : n ≤ 7) (x0 : 0 ≤ x) (x1 : x < m) (hu : u = fl x.toNat) (U : UnP u g b) (hs : AsR z (AsM n D A g b)) (hz : ¬ z = 0) (hr : r' = c x) (hx : x' = x + 1) : VlA fl m → LsI (fun k => AsX n D A (LmF fl k)) c r' x' := fun V => by
  obtain ⟨p, a, hp, e⟩ := V x x0 x1
  obtain ⟨e1, e2⟩ := U p a hp (un_L hu e)
  exact ls_y x0 ((as_x hn hp e e1 e2).mp (asr_y hs hz)) hr hx
theorem lsj_n {fl : Nat → Int64} {n D m x x' r b z : Int} {A c g : Int → Int} {u : Int64} (h : VlA fl m → LsI (fun k => AsX n D A (LmF fl k)) c r x) (hn : n ≤ 7) (x0 : 0 ≤ x) (x1 : x < m) (hu : u = fl x.toNat) (U : UnP u g b) (hs : AsR z (AsM n D A g b)) (hz : z = 0 ∨ ¬ r = -1) (hx : x' = x + 1) : VlA fl m → LsI (fun k => AsX n D A (LmF fl k)) c r x' := fun V => by
  refine ls_n (h V) ?_ hx
  rcases hz with hz | hz
  · obtain ⟨p, a, hp, e⟩ := V x x0 x1
    obtain ⟨e1, e2⟩ := U p a hp (un_L hu e)
    exact Or.inr (fun q => asr_n hs hz ((as_x hn hp e e1 e2).mpr q))
  · exact Or.inl hz
theorem rdm_x {S : Int → Int → Prop} {P : Int → Prop} {x0 w n sp c : Int} {fr : Int → Int} {fl : Nat → Int64} (H : SeP S w x0 fl fr n sp c) (hw : w = 0) (hc : c = 0) : RdX S x0 P (-2) := by
  obtain ⟨h1, h2⟩ := H
  have h3 := h2 hw
  exact ⟨_, _, _, h3.1, h3.2.1, Or.inl ⟨by omega, rfl⟩⟩
theorem rdm_r {n D cap rope nd mb w a0 sp m c l o : Int} {K A W A' p0 fr : Int → Int} {RK : (Int → Int) → Int → Prop} {fl : Nat → Int64} (H : SeP (Sg n D cap K A W rope nd mb RK) w (cdS p0 a0) fl fr m sp c) (hw : w = 0) (hc : ¬ c = 0) (hn : 0 ≤ n ∧ n ≤ 7) (hD : D ≤ 11) (hv : Vd D p0 a0) (hl : VlA fl m → LsI (fun k => AsX n D A' (LmF fl k)) fr l m) (ho : (l = -1 ∧ o = 0) ∨ (¬ l = -1 ∧ o = 1)) : RdX (Sg n D cap K A W rope nd mb RK) (cdS p0 a0) (AsX n D A') o := by
  obtain ⟨h1, h2⟩ := H
  obtain ⟨F, n0, hF⟩ := h2 hw
  have V : VlA fl m := fun k k0 k1 => by
    have hr := ((F.1 (by omega)).2.2 (LmF fl k)).mp ⟨k, k0, k1, rfl⟩
    obtain ⟨p, a, hV, e, _⟩ := rc_vd hn.1 hn.2 hD (vx_of hv) _ hr
    exact ⟨p, a, vd_rg hD hV, e⟩
  refine ⟨_, _, _, F, n0, Or.inr ⟨by omega, ?_⟩⟩
  rcases hl V (fun k k0 k1 => (hF k k0 k1).1) with ⟨a, b⟩ | ⟨a, b⟩
  · exact Or.inl ⟨by omega, b⟩
  · exact Or.inr ⟨by omega, b⟩
theorem rdx_s {S : Int → Int → Prop} {x x' r r' : Int} {P : Int → Prop} (h : RdX S x P r) (hx : x = x') (hr : r = r') : RdX S x' P r' := hx ▸ hr ▸ h
/-! the model's DAY -/
def DyT (n k f t d : Int) (K : Int → Int) : Prop := t < n ∧ ((K t = 2 ∧ f < k) ∨ (¬ K t = 2 ∧ bAnd (bShr d t) 1 = 1))
def CdI (n k d : Int) (K F g : Int → Int) (f x : Int) : Prop := (x ≤ n → f = skF K x) ∧ ∀ t, 0 ≤ t → t < x → g t = dyF n k d K F t
theorem cdi_0 {n k d f x : Int} {K F g : Int → Int} (hf : f = 0) (hx : x = 0) : CdI n k d K F g f x := ⟨fun _ => by rw [hf, sk_s0 (by omega)], fun t t0 t1 => absurd t1 (by omega)⟩
theorem cdi_s {n k d f f' x x' s u v c : Int} {K F g g' : Int → Int} (h : CdI n k d K F g f x) (x0 : 0 ≤ x) (x7 : x < 7) (hs : (s = 1 ∧ x < n ∧ K x = 2) ∨ (s = 0 ∧ ¬ (x < n ∧ K x = 2))) (hu : (u = 1 ∧ DyT n k f x d K) ∨ (u = 0 ∧ ¬ DyT n k f x d K)) (hv : (¬ u = 0 ∧ v = F x) ∨ (u = 0 ∧ v = 15)) (e : g' = uA g x v) (hf : f' = f + c) (hc : (c = 1 ∧ ¬ s = 0) ∨ (c = 0 ∧ s = 0)) (hx : x' = x + 1) : CdI n k d K F g' f' x' := by
  obtain ⟨a, b⟩ := h
  subst hx
  refine ⟨fun hn => ?_, fun t t0 t1 => ?_⟩
  · rw [sk_st x0, hf, a (by omega)]
    by_cases q : K x = 2
    · rw [if_pos q]; omega
    · rw [if_neg q]; omega
  · rw [e]
    by_cases q : t = x
    · rw [q, uA_same]
      unfold dyF
      unfold DyT at hu
      rw [bt_and1 x0 (by omega)] at hu
      by_cases y : x < n
      · rw [a (by omega)] at hu
        rcases hu with ⟨u1, u2⟩ | ⟨u1, u2⟩
        · rw [if_pos u2]; omega
        · rw [if_neg u2]; omega
      · rw [if_neg (fun z => y z.1)]
        rcases hu with ⟨u1, u2⟩ | ⟨u1, u2⟩
        · exact absurd u2.1 y
        · omega
    · rw [uA_ne q]; exact b t t0 (by omega)
theorem dy_or {n k d : Int} {K F : Int → Int} (t : Int) : dyF n k d K F t = 15 ∨ (t < n ∧ dyF n k d K F t = F t) := by
  unfold dyF
  by_cases q : t < n ∧ ((K t = 2 ∧ skF K t < k) ∨ (¬ K t = 2 ∧ btF d t = true))
  · rw [if_pos q]; exact Or.inr ⟨q.1, rfl⟩
  · rw [if_neg q]; exact Or.inl rfl
/-- the class's DAY: without what is neither told nor one of the first stones -/
def SaP (n : Int) (K A : Int → Int) : Prop := ∀ t, 0 ≤ t → t < n → K t = 2 → A t = -1
theorem dy_c {s r n k d w o x st : Int} {K A F : Int → Int} (hF : FsI s n st F n) (hst : 0 ≤ st ∧ st ≤ 15 ∧ ∀ t, 0 ≤ t → t < n → 0 ≤ F t ∧ F t ≤ 15) (hW : WoP s x r) (hx : x = bXor o (-1)) (ho : o = bOr d w) (hw : FsP n k K w) (hd : DaO n K A d) (hS : SaP n K A) : cdC r = cdS (dyF n k d K F) st := by
  obtain ⟨f1, f2⟩ := hF hst
  refine cdC_of (fun t t0 t6 => ?_) (hW.2.trans f2)
  rw [hW.1 t t0 t6]
  unfold woF
  have hb : bAnd (bShr x t) 1 = 0 ↔ (btF d t = true ∨ (t < n ∧ K t = 2 ∧ skF K t < k)) := by
    rw [bt_and t0 (by omega), hx, bt_not t0 (by omega), ho, bt_or, ← hw t t0 (by omega)]
    cases btF d t <;> cases btF w t <;> simp
  have hdd := hd t t0 (by omega)
  unfold dyF
  by_cases q : t < n ∧ ((K t = 2 ∧ skF K t < k) ∨ (¬ K t = 2 ∧ btF d t = true))
  · rw [if_pos q, if_pos (hb.mpr (q.2.elim (fun z => Or.inr ⟨q.1, z⟩) (fun z => Or.inl z.2))), f1 t t0 t6, if_pos q.1]
  · rw [if_neg q]
    by_cases y : t < n
    · rw [if_neg (fun z => ?_)]
      rcases hb.mp z with z1 | z1
      · by_cases k2 : K t = 2
        · exact absurd (hS t t0 y k2) (hdd z1).2
        · exact absurd ⟨y, Or.inr ⟨k2, z1⟩⟩ q
      · exact absurd ⟨y, Or.inl z1.2⟩ q
    · by_cases z : bAnd (bShr x t) 1 = 0
      · rw [if_pos z, f1 t t0 t6, if_neg y]
      · rw [if_neg z]
/-! the DAYS of the model, one after another -/
def WhI (R : Int → Int → Prop) (d c m : Int) : Prop := (∀ j, 0 ≤ j → j < d → R j 1) ∧ (¬ c = 1 → d < m ∧ R d c)
theorem wh_0 {R : Int → Int → Prop} {d c m : Int} (hd : d = 0) (hc : c = 1) : WhI R d c m := ⟨fun j j0 j1 => absurd j1 (by omega), fun z => absurd hc z⟩
theorem wh_s {R : Int → Int → Prop} {d c m d' c' e : Int} (h : WhI R d c m) (hd : d < m) (hR : R d c') (he : (e = 1 ∧ c' = 1) ∨ (e = 0 ∧ ¬ c' = 1)) (hd' : d' = d + e) : WhI R d' c' m := by
  obtain ⟨a, b⟩ := h
  rcases he with ⟨e1, e2⟩ | ⟨e1, e2⟩
  · subst hd' e1
    refine ⟨fun j j0 j1 => ?_, fun z => absurd e2 z⟩
    by_cases q : j = d
    · rw [q, ← e2]; exact hR
    · exact a j j0 (by omega)
  · have e3 : d' = d := by omega
    rw [e3]
    exact ⟨a, fun _ => ⟨hd, hR⟩⟩
theorem wh_2 {R : Int → Int → Prop} {d c m : Int} (h : WhI R d c m) (d0 : 0 ≤ d) (hc : c = -2) : FfP R m (-2) := by
  have b := h.2 (by omega)
  exact Or.inl ⟨rfl, d, d0, b.1, h.1, by rw [← hc]; exact b.2⟩
theorem wh_1 {R : Int → Int → Prop} {d c m : Int} (h : WhI R d c m) (hd : m ≤ d) : FfP R m (-1) := Or.inr (Or.inr ⟨rfl, fun j j0 j1 => h.1 j j0 (by omega)⟩)
theorem wh_f {R : Int → Int → Prop} {d c m : Int} (h : WhI R d c m) (d0 : 0 ≤ d) (hc : c = 0) : FfP R m d := by
  have b := h.2 (by omega)
  exact Or.inr (Or.inl ⟨d0, b.1, h.1, by rw [← hc]; exact b.2⟩)
theorem ge_at {G : Int → Int → Prop} {k f v : Int} (h : G k f) (e : f = v) : G k v := e ▸ h
theorem ff_i {R R' : Int → Int → Prop} {m r : Int} (h : ∀ j a, 0 ≤ j → j < m → (R j a ↔ R' j a)) : FfP R m r ↔ FfP R' m r := by
  have key : ∀ {R R' : Int → Int → Prop}, (∀ j a, 0 ≤ j → j < m → (R j a ↔ R' j a)) → FfP R m r → FfP R' m r := by
    intro R R' h q
    rcases q with ⟨a, i, i0, i1, i2, i3⟩ | ⟨a0, a1, a2, a3⟩ | ⟨a, a1⟩
    · exact Or.inl ⟨a, i, i0, i1, fun j j0 j1 => (h j _ j0 (by omega)).mp (i2 j j0 j1), (h i _ i0 i1).mp i3⟩
    · exact Or.inr (Or.inl ⟨a0, a1, fun j j0 j1 => (h j _ j0 (by omega)).mp (a2 j j0 j1), (h r _ a0 a1).mp a3⟩)
    · exact Or.inr (Or.inr ⟨a, fun j j0 j1 => (h j _ j0 j1).mp (a1 j j0 j1)⟩)
  exact ⟨key h, key (fun j a j0 j1 => (h j a j0 j1).symm)⟩
/-! ENOUGH's ends -/
theorem enp_x {G : Int → Int → Prop} {s w r k f g : Int} (h : EnI G k f) (k0 : 0 ≤ k) (hk : k ≤ s) (hg : G k g) (e : g = -2) (hr : r = -2) : EnP G s w r := ⟨k, f, k0, h, Or.inl ⟨hk, ge_at hg e, hr⟩⟩
theorem enp_k {G : Int → Int → Prop} {s w r k f g : Int} (h : EnI G k f) (k0 : 0 ≤ k) (hk : k ≤ s) (hg : G k g) (e : g = -1) (hr : (w = 0 ∧ r = k) ∨ (¬ w = 0 ∧ r = f)) : EnP G s w r := ⟨k, f, k0, h, Or.inr (Or.inl ⟨hk, ge_at hg e, hr⟩)⟩
theorem enp_e {G : Int → Int → Prop} {s w r k f : Int} (h : EnI G k f) (k0 : 0 ≤ k) (hk : k = s + 1) (hr : r = -1) : EnP G s w r := ⟨k, f, k0, h, Or.inr (Or.inr ⟨hk, hr⟩)⟩
/-- one DAY of the class that fails, or is spent -/
theorem wh_c {R : Int → Int → Prop} {d c m r : Int} (h : WhI R d 1 m) (d0 : 0 ≤ d) (hd : d < m) (hR : R d c) (e : (c = -2 ∧ r = -2) ∨ (c = 0 ∧ r = d)) : FfP R m r := by
  rcases e with ⟨e1, e2⟩ | ⟨e1, e2⟩
  · rw [e2]; exact Or.inl ⟨rfl, d, d0, hd, h.1, e1 ▸ hR⟩
  · rw [e2]; exact Or.inr (Or.inl ⟨d0, hd, h.1, e1 ▸ hR⟩)
theorem wh_nn {R : Int → Int → Prop} {d m r : Int} (h : WhI R d 1 m) (hd : m ≤ d) (hr : r = -1) : FfP R m r := by
  rw [hr]; exact wh_1 h hd
/-- the class's least of those served -/
theorem lsc_y {n D x x' r' s z : Int} {A L c : Int → Int} (hn : n ≤ 7) (x0 : 0 ≤ x) (hs : s = L x) (q : AsR z (AsM n D A (nb s) (dp s))) (hz : ¬ z = 0) (hr : r' = c x) (hx : x' = x + 1) : LsI (fun k => AsX n D A (cdC (L k))) c r' x' := by
  have h9 : AsX n D A (cdC (L x)) := by
    rw [← hs]
    exact (as_c hn).mp (asr_y q hz)
  exact ls_y x0 h9 hr hx
theorem lsc_n {n D x x' r s z : Int} {A L c : Int → Int} (h : LsI (fun k => AsX n D A (cdC (L k))) c r x) (hn : n ≤ 7) (hs : s = L x) (q : AsR z (AsM n D A (nb s) (dp s))) (hz : z = 0) (hx : x' = x + 1) : LsI (fun k => AsX n D A (cdC (L k))) c r x' := by
  refine ls_n h (Or.inr (fun y => asr_n q hz ?_)) hx
  have h9 : AsX n D A (cdC (L x)) := y
  rw [← hs] at h9
  exact (as_c hn).mpr h9
/-- the class's DAY, its row -/
def DyA (n : Int) (A : Int → Int) (m : Int) (B F : Int → Int) : Prop := ∀ d, 0 ≤ d → d < m → DaO n A A (B d) ∧ F d = B d
def DyO (n : Int) (A : Int → Int) (m : Int) (B : Int → Int) : Prop := ∀ d, 0 ≤ d → d < m → DaO n A A (B d)
theorem dyo_of {n m : Int} {A B F : Int → Int} (h : DyA n A m B F) : DyO n A m B := fun d d0 d1 => (h d d0 d1).1
theorem dy_c2 {s r n k w o x st i m D cap y : Int} {K A F W B : Int → Int} (hF : FsI s n st F n) (hp : PwP n D cap st W A F) (hD : 0 ≤ D ∧ D ≤ 11) (hW : WoP s x r) (hx : x = bXor o (-1)) (ho : o = bOr y w) (hy : y = B i) (hw : FsP n k K w) (hd : DyO n A m B) (i0 : 0 ≤ i) (i1 : i < m) (hS : SaP n K A) : cdC r = cdS (dyF n k (B i) K F) st := by
  obtain ⟨_, _, _, h1, h2⟩ := hp
  subst hy
  have h9 : DaO n K A (B i) := hd i i0 i1
  exact dy_c hF ⟨h1.1, by omega, fun t t0 t1 => by have := h2 t t0 t1; omega⟩ hW hx ho hw h9 hS
theorem as_tz {A p a D z : Int} (hp : 0 ≤ p ∧ p ≤ 15) (h1 : ¬ A = -1) (h2 : ¬ 14 ≤ p) (hz : z = thD p a D) (e : z = A) : AsT A p a D := (at_z hp h1 h2 hz).mpr e
theorem as_tn {A p a D z : Int} (hp : 0 ≤ p ∧ p ≤ 15) (h1 : ¬ A = -1) (h2 : ¬ 14 ≤ p) (hz : z = thD p a D) (e : ¬ z = A) : ¬ AsT A p a D := fun q => e ((at_z hp h1 h2 hz).mp q)
theorem as_a {A p a D z i c : Int} (hr : i = bWr (z - 12)) (hBu : c = buD i a D) (hz : z = p ∧ (p = 12 ∨ p = 13)) (e : c = A) : AsT A p a D := by
  refine Or.inr (Or.inr (Or.inr (Or.inr ⟨hz.2, ?_⟩)))
  rw [← e, hBu, hr, hz.1, bWr_eq ⟨by omega, by omega⟩]
theorem as_b {A p a D z i c : Int} (hr : i = bWr (z - 12)) (hBu : c = buD i a D) (q : AsT A p a D) (hz : z = p ∧ (p = 12 ∨ p = 13)) (hA : ¬ A = -1) (hs : ¬ svM p A) (h15 : ¬ p = 15) : c = A := by
  rcases q with q | q | q | q | ⟨_, q⟩
  · exact absurd q h15
  · exact absurd q hA
  · omega
  · omega
  · rw [← q, hBu, hr, hz.1, bWr_eq ⟨by omega, by omega⟩]
/-! ENOUGH at the law -/
theorem df_o {d s n : Int} {A : Int → Int} (n0 : 0 ≤ n) (n7 : n ≤ 7) (h : DfC d s n A) : DaO n A A s := by
  intro t t0 t1 hb
  have h1 := congrArg (fun x => (bv x).getLsbD t.toNat) h.2
  have hb : (bv s).getLsbD t.toNat = true := hb
  have hi : t.toNat < 32 := by omega
  simp only [bv_and, bv_xor, BitVec.getLsbD_and, BitVec.getLsbD_xor, g0, gM1 hi, hb, Bool.true_and, Bool.xor_true] at h1
  have h2 := (oga_get n0 n7 hi).mp (by simpa using h1)
  rw [show ((t.toNat : Nat) : Int) = t by omega] at h2
  exact h2
theorem dya_0 {n m : Int} {A B F : Int → Int} (h : m ≤ 0) : DyA n A m B F := fun d d0 d1 => absurd d1 (by omega)
theorem dya_d {n n' m m' e e' r r' s : Int} {A A' B B' F F' : Int → Int} (h : DyA n A m B F) (n0 : 0 ≤ n) (n7 : n ≤ 7) (hs : inR s) (e0 : 0 ≤ m) (hm : m = e) (hnn : n = n') (hn : ∀ t, 0 ≤ t → t < n → A t = A' t) (hC : DyQ (DfC m s n A) r m m' s B B') (hM : DyQ (DfM e s n' A') r' e e' s F F') : DyA n A m' B' F' := by
  subst hm hnn
  have hf : DfC m s n A ↔ DfM m s n A' := by
    rw [day_eq hs n0 n7]
    exact ⟨fun z => ⟨z.1, fun t a b => by rw [← hn t a b]; exact z.2 t a b⟩, fun z => ⟨z.1, fun t a b => by rw [hn t a b]; exact z.2 t a b⟩⟩
  by_cases q : DfC m s n A
  · obtain ⟨_, a2, a3⟩ := hC.1 q
    obtain ⟨_, _, b3⟩ := hM.1 (hf.mp q)
    intro d d0 d1
    rw [a3, b3]
    by_cases y : d = m
    · rw [y, uA_same, uA_same]
      exact ⟨df_o n0 n7 q, rfl⟩
    · rw [uA_ne y, uA_ne y]
      exact h d d0 (by omega)
  · obtain ⟨_, a2, a3⟩ := hC.2 q
    obtain ⟨_, _, b3⟩ := hM.2 (fun z => q (hf.mpr z))
    rw [a2, a3, b3]
    exact h
theorem dya_c {n m m' : Int} {A B F B' F' K : Int → Int} (h : DyA n A m B F) (m6 : m ≤ 6) (hm : m' = m) (hB : B' = cpZ B K 6) (hF : ∀ t, 0 ≤ t → t < 6 → F' t = F t) : DyA n A m' B' F' := by
  intro d d0 d1
  have h9 := h d d0 (by omega)
  have e1 : cpZ B K 6 d = B d := by
    unfold cpZ
    rw [if_pos ⟨d0, by omega⟩]
  rw [hB, e1, hF d d0 (by omega)]
  exact h9
theorem dya_k {n m m' : Int} {A B F B' F' : Int → Int} (h : DyA n A m B F) (hm : m' = m) (hB : B' = B) (hF : F' = F) : DyA n A m' B' F' := by
  rw [hm, hB, hF]
  exact h
theorem dya_r {k n mk m' mb : Int} {A BK FK B F B' F' : Int → Int} (hk : k = 0 ∨ k = 1) (hb : DyA n A mb B F) (hi : ¬ k = 0 → DyA n A mk BK FK) (m6 : mk ≤ 6) (h1 : ¬ k = 0 → m' = mk ∧ B' = cpZ BK B 6 ∧ ∀ t, 0 ≤ t → t < 6 → F' t = FK t) (h0 : k = 0 → m' = mb ∧ B' = B ∧ F' = F) : DyA n A m' B' F' := by
  by_cases q : k = 0
  · obtain ⟨a, b, c⟩ := h0 q
    exact dya_k hb a b c
  · obtain ⟨a, b, c⟩ := h1 q
    exact dya_c (hi q) m6 a b c
theorem dy_x {n n' k d d' : Int} {K K' F F' : Int → Int} (hn : n = n') (hK : ∀ t, 0 ≤ t → t < n → K t = K' t) (hF : ∀ t, 0 ≤ t → t < n → F t = F' t) (hd : d = d') : ∀ t, 0 ≤ t → t < 7 → dyF n k d K F t = dyF n' k d' K' F' t := by
  intro t t0 t7
  subst hn hd
  unfold dyF
  by_cases q : t < n
  · rw [hK t t0 q, hF t t0 q, sk_x hK t (by omega)]
  · rw [if_neg (fun z => q z.1), if_neg (fun z => q z.1)]
def GeP (S : Int → Int → Prop) (P : Int → Prop) (n st m : Int) (K F B : Int → Int) : Int → Int → Prop := fun k f => FfP (fun d g => RdX S (cdS (dyF n k (B d) K F) st) P g) m f
theorem ge_u {S : Int → Int → Prop} {P : Int → Prop} {n st m : Int} {K F B : Int → Int} : ∀ j a b, GeP S P n st m K F B j a → GeP S P n st m K F B j b → a = b := fun j a b h h' => ff_u (R := fun d g => RdX S (cdS (dyF n j (B d) K F) st) P g) (fun d a b q q' => rd_u q q') h h'
theorem ge_i {S S' : Int → Int → Prop} {P P' : Int → Prop} {n n' st st' m m' : Int} {K F B K' F' B' : Int → Int} (hS : S = S') (hP : ∀ x, P x ↔ P' x) (hn : n = n') (hst : st = st') (hm : m = m') (hK : ∀ t, 0 ≤ t → t < n → K t = K' t) (hF : ∀ t, 0 ≤ t → t < n → F t = F' t) (hB : ∀ d, 0 ≤ d → d < m → B' d = B d) {k f : Int} (h : GeP S P n st m K F B k f) : GeP S' P' n' st' m' K' F' B' k f := by
  have e2 : P = P' := funext (fun x => propext (hP x))
  subst hS e2 hst hm
  unfold GeP at h ⊢
  refine (ff_i (fun d a d0 d1 => ?_)).mp h
  rw [cd_ext (dy_x hn hK hF (hB d d0 d1).symm) rfl]
def AmP (n : Int) (A : Int → Int) : Prop := ∀ t, 0 ≤ t → t < n → A t ≤ 11
