/-! both programs alike: what was told -/
def PLA (x0 x1 x2 x3 x4 x5 x6 : Int) (g8 g9 g10 g11 g20 g21 : Int → Int) (th ru : Int) (f3 f4 f5 f6 f7 f8 f9 f10 : Int → Int) (n12 n13 : Int) : Prop :=
  (x0 = f3 0 ∧ x1 = f3 1 ∧ x2 = f3 2 ∧ x3 = f3 3 ∧ x4 = f3 4 ∧ x5 = f3 5 ∧ x6 = f3 6 ∧ th = n12 ∧ ru = n13) ∧ (∀ t, 0 ≤ t → t < th → g8 t = f4 t ∧ g9 t = f5 t ∧ g10 t = f6 t ∧ g11 t = f7 t) ∧ (∀ q, 0 ≤ q → q < ru → g21 q = f9 q ∧ f8 q = stq f9 q) ∧ ∀ q, 0 ≤ q → q < ru → ∀ i, f8 q ≤ i → i < f9 q → f10 i = dcf g20 i
theorem pla_of {x0 x1 x2 x3 x4 x5 x6 l th ru n12 n13 : Int} {g8 g9 g10 g11 g20 g21 f3 f4 f5 f6 f7 f8 f9 f10 : Int → Int} {p : Pl} (hC : CRl x0 x1 x2 x3 x4 x5 x6 g8 g9 g10 g11 g20 g21 l th ru p) (hM : PlF f3 f4 f5 f6 f7 f8 f9 f10 n12 n13 p) (hth : th = n12) (hru : ru = n13) (hW : ∀ q, 0 ≤ q → q < n13 → RWf f10 (f8 q) (f9 q)) : PLA x0 x1 x2 x3 x4 x5 x6 g8 g9 g10 g11 g20 g21 th ru f3 f4 f5 f6 f7 f8 f9 f10 n12 n13 := by
  obtain ⟨⟨a0, a1, a2, a3, a4, a5, a6⟩, b2, ⟨c1, c2⟩, d1, d2⟩ := hC
  obtain ⟨e1, e2, ⟨e3, e4⟩, e5, e6⟩ := hM
  subst hth hru
  have m0 := e1 0 (by decide) (by decide)
  have m1 := e1 1 (by decide) (by decide)
  have m2 := e1 2 (by decide) (by decide)
  have m3 := e1 3 (by decide) (by decide)
  have m4 := e1 4 (by decide) (by decide)
  have m5 := e1 5 (by decide) (by decide)
  have m6 := e1 6 (by decide) (by decide)
  refine ⟨⟨a0.trans m0.symm, a1.trans m1.symm, a2.trans m2.symm, a3.trans m3.symm, a4.trans m4.symm, a5.trans m5.symm, a6.trans m6.symm, rfl, rfl⟩, fun t h0 h1 => ?_, fun q h0 h1 => ?_, fun q h0 h1 i i0 i1 => ?_⟩
  · obtain ⟨u1, u2, u3, u4⟩ := b2 t h0 h1
    obtain ⟨w1, w2, w3, w4⟩ := e2 t h0 h1
    exact ⟨u1.trans w1.symm, u2.trans w2.symm, u3.trans w3.symm, u4.trans w4.symm⟩
  · obtain ⟨w1, w2⟩ := e5 q h0 h1
    obtain ⟨r0, r1, r2, -⟩ := hW q h0 h1
    have u1 := d1 q h0 h1
    refine ⟨by omega, ?_⟩
    rw [w2]
    unfold stq
    by_cases z : q = 0
    · rw [if_pos z, if_pos z]
    · rw [if_neg z, if_neg z]
      exact (e5 (q - 1) (by omega) (by omega)).1.symm
  · obtain ⟨r0, r1, r2, f, -, -, ho⟩ := hW q h0 h1
    have hs := ho i i0 i1
    -- the place lies within what was laid
    have hl : i < (p.2.2.2.2.2.1.length : Int) := by
      have key : ∀ k : Nat, q + 1 + (k : Int) ≤ ru → f9 q ≤ stq p.2.2.2.2.2.2 (q + 1 + (k : Int)) := by
        intro k
        induction k with
        | zero =>
          intro _
          unfold stq
          rw [if_neg (by omega), show q + 1 + ((0 : Nat) : Int) - 1 = q by omega]
          exact Int.le_of_eq (e5 q h0 h1).1
        | succ k ih =>
          intro hk
          have h9 := ih (by omega)
          have hq1 := hW (q + 1 + (k : Int)) (by omega) (by omega)
          obtain ⟨s1, s2⟩ := e5 (q + 1 + (k : Int)) (by omega) (by omega)
          have s3 : stq p.2.2.2.2.2.2 (q + 1 + ((k + 1 : Nat) : Int)) = p.2.2.2.2.2.2 (q + 1 + (k : Int)) := by
            unfold stq
            rw [if_neg (by omega), show q + 1 + ((k + 1 : Nat) : Int) - 1 = q + 1 + (k : Int) by omega]
          rw [s3, ← s1]
          have := hq1.2.1
          omega
      have h9 := key (ru - q - 1).toNat (by omega)
      rw [show q + 1 + (((ru - q - 1).toNat : Nat) : Int) = ru by omega, e6] at h9
      omega
    have hi : ((i.toNat : Nat) : Int) = i := by omega
    have x1 := e4 i.toNat (by omega)
    have x2 := c2 i.toNat (by omega) (by omega)
    rw [hi] at x1 x2
    unfold dcf
    rw [x2, ← x1, dec_enc (by omega)]
theorem rc_of {x0 x1 x2 x3 x4 x5 x6 th ru n12 n13 : Int} {g8 g9 g10 g11 g20 g21 f3 f4 f5 f6 f7 f8 f9 f10 : Int → Int} (h : PLA x0 x1 x2 x3 x4 x5 x6 g8 g9 g10 g11 g20 g21 th ru f3 f4 f5 f6 f7 f8 f9 f10 n12 n13) (hW : ∀ q, 0 ≤ q → q < n13 → RWf f10 (f8 q) (f9 q)) : ∀ q, 0 ≤ q → q < ru → RWf (dcf g20) (stq g21 q) (g21 q) := by
  obtain ⟨⟨a0, a1, a2, a3, a4, a5, a6, a7, a8⟩, b2, b3, b4⟩ := h
  intro q h0 h1
  obtain ⟨u1, u2⟩ := b3 q h0 h1
  have es : stq g21 q = f8 q := by
    rw [u2]
    unfold stq
    by_cases z : q = 0
    · rw [if_pos z, if_pos z]
    · rw [if_neg z, if_neg z]; exact (b3 (q - 1) (by omega) (by omega)).1
  obtain ⟨r0, r1, r2, r3⟩ := hW q h0 (by omega)
  rw [es, u1]
  exact ⟨r0, r1, r2, seg_ext (fun t t0 t1 => (b4 q h0 h1 t t0 t1).symm) r3⟩
theorem pla_kp {x0 x1 x2 x3 x4 x5 x6 th ru n12 n13 m12 m13 : Int} {g8 g9 g10 g11 g20 g21 f3 f4 f5 f6 f7 f8 f9 f10 e3 e4 e5 e6 e7 e8 e9 e10 : Int → Int} (h : PLA x0 x1 x2 x3 x4 x5 x6 g8 g9 g10 g11 g20 g21 th ru f3 f4 f5 f6 f7 f8 f9 f10 n12 n13) (hk : Kp f3 f4 f5 f6 f7 f8 f9 f10 e3 e4 e5 e6 e7 e8 e9 e10) (h12 : m12 = n12) (h13 : m13 = n13) (hth : th ≤ 7) (hru : ru ≤ 4) (hW : ∀ q, 0 ≤ q → q < n13 → RWf f10 (f8 q) (f9 q)) : PLA x0 x1 x2 x3 x4 x5 x6 g8 g9 g10 g11 g20 g21 th ru e3 e4 e5 e6 e7 e8 e9 e10 m12 m13 := by
  obtain ⟨⟨a0, a1, a2, a3, a4, a5, a6, a7, a8⟩, b2, b3, b4⟩ := h
  obtain ⟨k1, k8, k9, k10⟩ := hk
  subst h12 h13
  refine ⟨⟨a0.trans (k1 0 (by decide)).1.symm, a1.trans (k1 1 (by decide)).1.symm, a2.trans (k1 2 (by decide)).1.symm, a3.trans (k1 3 (by decide)).1.symm, a4.trans (k1 4 (by decide)).1.symm, a5.trans (k1 5 (by decide)).1.symm, a6.trans (k1 6 (by decide)).1.symm, a7, a8⟩, fun t h0 h1 => ?_, fun q h0 h1 => ?_, fun q h0 h1 i i0 i1 => ?_⟩
  · obtain ⟨-, w2, w3, w4, w5⟩ := k1 t (by omega)
    rw [w2, w3, w4, w5]
    exact b2 t h0 h1
  · obtain ⟨u1, u2⟩ := b3 q h0 h1
    rw [k8 q (by omega), k9 q (by omega)]
    refine ⟨u1, ?_⟩
    rw [u2]
    unfold stq
    by_cases z : q = 0
    · rw [if_pos z, if_pos z]
    · rw [if_neg z, if_neg z, k9 (q - 1) (by omega)]
  · rw [k8 q (by omega)] at i0
    rw [k9 q (by omega)] at i1
    obtain ⟨r0, r1, r2, -⟩ := hW q h0 (by omega)
    rw [k10 i (by omega)]
    exact b4 q h0 h1 i i0 i1
theorem bd_kp {n12 m12 : Int} {f3 f4 f5 f6 f7 e3 e4 e5 e6 e7 : Int → Int} (h : BdM f3 f4 f5 f6 f7 0 n12) (hk : LoX f3 f4 f5 f6 f7 e3 e4 e5 e6 e7) (h12 : m12 = n12) (hth : n12 ≤ 7) : BdM e3 e4 e5 e6 e7 0 m12 := by
  subst h12
  obtain ⟨a, c⟩ := h
  refine ⟨?_, fun t t0 t1 => ?_⟩
  · rw [(hk 0 (by decide)).1, (hk (0 + 1) (by decide)).1, (hk (0 + 2) (by decide)).1, (hk (0 + 3) (by decide)).1, (hk (0 + 4) (by decide)).1, (hk (0 + 5) (by decide)).1, (hk (0 + 6) (by decide)).1]
    exact a
  · obtain ⟨-, w2, w3, w4, w5⟩ := hk (0 + t) (by omega)
    rw [w2, w3, w4, w5, (hk 0 (by decide)).1]
    exact c t t0 t1
/-! the state -/
def VS (D n s : Int) : Prop := (0 ≤ dp s ∧ dp s ≤ D) ∧ (∀ t, 0 ≤ t → t < n → nb s t ≤ D ∨ (12 ≤ nb s t ∧ nb s t ≤ 14)) ∧ ∀ t, n ≤ t → t ≤ 6 → nb s t = 15
def StA (s : Int) (p : Int → Int) (b D n : Int) : Prop := (∀ t, 0 ≤ t → t ≤ 6 → nb s t = p t) ∧ dp s = b ∧ VS D n s
theorem vs_put {D n s t v : Int} (h : VS D n s) (t0 : 0 ≤ t) (tn : t < n) (n7 : n ≤ 7) (v0 : 0 ≤ v) (hv : v ≤ D ∨ (12 ≤ v ∧ v ≤ 14)) (hD : D ≤ 11) : VS D n (putS s t v) := by
  obtain ⟨a, b, c⟩ := h
  refine ⟨by rw [dp_put t0 (by omega) v0 (by omega)]; exact a, fun u u0 un => ?_, fun u u0 u6 => ?_⟩
  · by_cases q : u = t
    · subst q; rw [nb_same t0 (by omega) v0 (by omega)]; exact hv
    · rw [nb_else t0 (by omega) v0 (by omega) u0 (by omega) q]; exact b u u0 un
  · rw [nb_else t0 (by omega) v0 (by omega) (by omega) u6 (by omega)]; exact c u u0 u6
theorem vs_mv {D n s d : Int} (h : VS D n s) (n0 : 0 ≤ n) (n7 : n ≤ 7) (d0 : 0 ≤ d) (dD : d ≤ D) (hD : D ≤ 11) : VS D n (mvS s d) := by
  obtain ⟨a, b, c⟩ := h
  refine ⟨by rw [dp_mv d0 (by omega)]; exact ⟨d0, dD⟩, fun u u0 un => ?_, fun u u0 u6 => ?_⟩
  · rw [nb_mv u0 (by omega)]; exact b u u0 un
  · rw [nb_mv (by omega) u6]; exact c u u0 u6
theorem vs_ext {D D' n n' s : Int} (h : VS D n s) (hD : D' = D) (hn : n' = n) : VS D' n' s := by
  subst hD hn
  exact h
theorem buD_v {D n s b : Int} (h : VS D n s) (hD : 0 ≤ D ∧ D ≤ 11) : 0 ≤ buD b (dp s) D ∧ buD b (dp s) D ≤ D := by
  have := h.1
  rw [buD_r (dp_r s) hD]
  by_cases z : b = 0
  · rw [if_pos z]; exact this
  · rw [if_neg z]; omega
theorem plo_v {D n s t k a : Int} (h : VS D n s) (hD : 0 ≤ D ∧ D ≤ 11) (t0 : 0 ≤ t) (tn : t < n) : 0 ≤ plO (nb s t) k a (dp s) D ∧ (plO (nb s t) k a (dp s) D ≤ D ∨ (12 ≤ plO (nb s t) k a (dp s) D ∧ plO (nb s t) k a (dp s) D ≤ 14)) := by
  have h1 := buD_v (b := nb s t - 12) h hD
  have h2 := h.2.1 t t0 tn
  have h3 := nb_r s t
  unfold plO
  by_cases z : nb s t = 12 ∨ nb s t = 13
  · rw [if_pos z]
    by_cases y : k = 3 ∧ buD (nb s t - 12) (dp s) D = a
    · rw [if_pos y]; omega
    · rw [if_neg y]; omega
  · rw [if_neg z]; omega
/-! the rows of moves -/
def nxS (s : Int) (E : Int → Int) (m i : Int) : Int := if i + 1 = m then s else E (i + 1)
def StQ (w x z D n a b : Int) : Prop := (w = 2 → dp a = z ∧ dp b = x ∧ ¬ x = z ∧ ∀ t, 0 ≤ t → t ≤ 6 → nb a t = nb b t) ∧ (¬ w = 2 → 0 ≤ x ∧ x < n ∧ dp a = dp b ∧ nb a x = z ∧ ∀ t, 0 ≤ t → t ≤ 6 → ¬ t = x → nb a t = nb b t)
def RoA (s m : Int) (A B C E : Int → Int) (mm : Int) (W X Y Z : Int → Int) (D n : Int) : Prop := m = mm ∧ ∀ i, 0 ≤ i → i < mm → A i = W i ∧ B i = X i ∧ C i = Y i ∧ VS D n (E i) ∧ VS D n (nxS s E mm i) ∧ StQ (W i) (X i) (Z i) D n (E i) (nxS s E mm i)
theorem ro_add {s s1 m m' mm mm' w x y z a b c D n : Int} {A B C E A' B' C' E' W X Y Z W' X' Y' Z' : Int → Int} (h : RoA s m A B C E mm W X Y Z D n) (m0 : 0 ≤ mm) (hm : m' = m + 1) (hA : A' = uA A m a) (hB : B' = uA B m b) (hC : C' = uA C m c) (hE : E' = uA E m s) (hmm : mm' = mm + 1) (hW : W' = uA W mm w) (hX : X' = uA X mm x) (hY : Y' = uA Y mm y) (hZ : Z' = uA Z mm z) (ha : a = w) (hb : b = x) (hc : c = y) (hs : VS D n s) (hs1 : VS D n s1) (hS : StQ w x z D n s s1) : RoA s1 m' A' B' C' E' mm' W' X' Y' Z' D n := by
  obtain ⟨h1, h2⟩ := h
  subst h1 hm hmm hA hB hC hE hW hX hY hZ ha hb hc
  refine ⟨rfl, fun i i0 i1 => ?_⟩
  by_cases q : i = m
  · subst q
    have e : nxS s1 (uA E i s) (i + 1) i = s1 := if_pos rfl
    rw [e, (uA_at _ _ _ _).1 rfl, (uA_at _ _ _ _).1 rfl, (uA_at _ _ _ _).1 rfl, (uA_at _ _ _ _).1 rfl, (uA_at _ _ _ _).1 rfl, (uA_at _ _ _ _).1 rfl, (uA_at _ _ _ _).1 rfl, (uA_at _ _ _ _).1 rfl]
    exact ⟨rfl, rfl, rfl, hs, hs1, hS⟩
  · have e : nxS s1 (uA E m s) (m + 1) i = nxS s E m i := by
      unfold nxS
      rw [if_neg (by omega)]
      by_cases z9 : i + 1 = m
      · rw [if_pos z9, (uA_at _ _ _ _).1 z9]
      · rw [if_neg z9, (uA_at _ _ _ _).2 z9]
    rw [e, (uA_at _ _ _ _).2 q, (uA_at _ _ _ _).2 q, (uA_at _ _ _ _).2 q, (uA_at _ _ _ _).2 q, (uA_at _ _ _ _).2 q, (uA_at _ _ _ _).2 q, (uA_at _ _ _ _).2 q, (uA_at _ _ _ _).2 q]
    exact h2 i i0 (by omega)
theorem ro_und {s s' m m' mm mm' D n : Int} {A B C E W X Y Z : Int → Int} (h : RoA s m A B C E mm W X Y Z D n) (hm : m' = m - 1) (hmm : mm' = mm - 1) (hs : s' = E (m - 1)) : RoA s' m' A B C E mm' W X Y Z D n := by
  obtain ⟨h1, h2⟩ := h
  subst h1 hm hmm hs
  refine ⟨rfl, fun i i0 i1 => ?_⟩
  have e : nxS (E (m - 1)) E (m - 1) i = nxS s E m i := by
    unfold nxS
    by_cases z : i + 1 = m - 1
    · rw [if_pos z, if_neg (by omega), z]
    · rw [if_neg z, if_neg (by omega)]
  rw [e]
  exact h2 i i0 (by omega)
theorem ro_ext {s m mm D n D' n' s' m' mm' : Int} {A B C E W X Y Z A' B' C' E' W' X' Y' Z' : Int → Int} (h : RoA s m A B C E mm W X Y Z D n) (h60 : mm ≤ 60) (hs : s' = s) (hm : m' = m) (hmm : mm' = mm) (hD : D' = D) (hn : n' = n) (hA : ∀ t, 0 ≤ t → t < 60 → A' t = A t) (hB : ∀ t, 0 ≤ t → t < 60 → B' t = B t) (hC : ∀ t, 0 ≤ t → t < 60 → C' t = C t) (hE : ∀ t, 0 ≤ t → t < 60 → E' t = E t) (hW : ∀ t, 0 ≤ t → t < 60 → W' t = W t) (hX : ∀ t, 0 ≤ t → t < 60 → X' t = X t) (hY : ∀ t, 0 ≤ t → t < 60 → Y' t = Y t) (hZ : ∀ t, 0 ≤ t → t < 60 → Z' t = Z t) : RoA s' m' A' B' C' E' mm' W' X' Y' Z' D' n' := by
  obtain ⟨h1, h2⟩ := h
  subst hs hm hmm hD hn h1
  refine ⟨rfl, fun i i0 i1 => ?_⟩
  have e : nxS s' E' m' i = nxS s' E m' i := by
    unfold nxS
    by_cases z : i + 1 = m'
    · rw [if_pos z, if_pos z]
    · rw [if_neg z, if_neg z]; exact hE (i + 1) (by omega) (by omega)
  rw [e, hA i i0 (by omega), hB i i0 (by omega), hC i i0 (by omega), hE i i0 (by omega), hW i i0 (by omega), hX i i0 (by omega), hY i i0 (by omega), hZ i i0 (by omega)]
  exact h2 i i0 i1
theorem ro_0 {s m mm D n : Int} {A B C E W X Y Z : Int → Int} (hm : m = 0) (hmm : mm = 0) : RoA s m A B C E mm W X Y Z D n := by
  subst hm hmm
  exact ⟨rfl, fun i i0 i1 => absurd i1 (by omega)⟩
/-! load, unload, ride, undo -/
theorem sa_put {s b D n t v : Int} {p p' : Int → Int} (h : StA s p b D n) (t0 : 0 ≤ t) (tn : t < n) (n7 : n ≤ 7) (v0 : 0 ≤ v) (hv : v ≤ D ∨ (12 ≤ v ∧ v ≤ 14)) (hD : D ≤ 11) (hp : p' = uA p t v) : StA (putS s t v) p' b D n := by
  obtain ⟨a, c, d⟩ := h
  subst hp
  refine ⟨fun u u0 u6 => ?_, (dp_put t0 (by omega) v0 (by omega)).trans c, vs_put d t0 tn n7 v0 hv hD⟩
  by_cases q : u = t
  · subst q; rw [nb_same t0 (by omega) v0 (by omega), (uA_at _ _ _ _).1 rfl]
  · rw [nb_else t0 (by omega) v0 (by omega) u0 u6 q, (uA_at _ _ _ _).2 q]; exact a u u0 u6
theorem sa_mv {s b D n d : Int} {p : Int → Int} (h : StA s p b D n) (n0 : 0 ≤ n) (n7 : n ≤ 7) (d0 : 0 ≤ d) (dD : d ≤ D) (hD : D ≤ 11) : StA (mvS s d) p d D n := by
  obtain ⟨a, c, e⟩ := h
  exact ⟨fun u u0 u6 => (nb_mv u0 u6).trans (a u u0 u6), dp_mv d0 (by omega), vs_mv e n0 n7 d0 dD hD⟩
theorem stp_put {s t v D n : Int} (w : Int) (hw : ¬ w = 2) (h : VS D n s) (t0 : 0 ≤ t) (tn : t < n) (n7 : n ≤ 7) (v0 : 0 ≤ v) (v1 : v ≤ 15) : StQ w t (nb s t) D n s (putS s t v) := ⟨fun z => absurd z hw, fun _ => ⟨t0, tn, (dp_put t0 (by omega) v0 v1).symm, rfl, fun u u0 u6 q => (nb_else t0 (by omega) v0 v1 u0 u6 q).symm⟩⟩
theorem stp_mv {s d D n : Int} (d0 : 0 ≤ d) (d1 : d ≤ 15) (hd : ¬ d = dp s) : StQ 2 d (dp s) D n s (mvS s d) := ⟨fun _ => ⟨rfl, dp_mv d0 d1, hd, fun t t0 t6 => (nb_mv t0 t6).symm⟩, fun z => absurd rfl z⟩
/-- both programs answer alike -/
theorem ld_eq {n t b p a a' d D mv : Int} (hp : 0 ≤ t → t < n → 0 ≤ p ∧ (p ≤ D ∨ (12 ≤ p ∧ p ≤ 14))) (ha : 0 ≤ t → t < n → a' = a) (hD : 0 ≤ D ∧ D ≤ 11) (hmv : mv ≤ 60) : jdg (ldC n t b p a' d D) mv = ldM n t b p a d D mv := by
  unfold jdg ldC ldM
  by_cases q : 0 ≤ t ∧ t < n ∧ 0 ≤ b ∧ b ≤ 1
  · have h1 := hp q.1 q.2.1
    have h2 := ha q.1 q.2.1
    subst h2
    rw [if_neg (show ¬ ¬ (0 ≤ t ∧ t < n ∧ 0 ≤ b ∧ b ≤ 1) from fun z => z q), if_neg (show ¬ ¬ (0 ≤ t ∧ t < n ∧ 0 ≤ b ∧ b ≤ 1) from fun z => z q)]
    by_cases y : p < 12
    · have e : thD p d D = p := if_pos y
      rw [e]
      unfold svM
      omega
    · unfold svM
      omega
  · rw [if_pos q, if_pos q]
    omega
theorem un_eq {n t p mv : Int} (hmv : mv ≤ 60) : jdg (unC n t p) mv = unM n t p mv := by
  unfold jdg unC unM bkO
  omega
theorem bd_pb {f3 f4 f5 f6 f7 : Int → Int} {n : Int} (h : BdM f3 f4 f5 f6 f7 0 n) : 0 ≤ f3 4 ∧ f3 4 ≤ 99 ∧ 0 ≤ f3 5 ∧ f3 5 ≤ 999 ∧ 0 ≤ f3 6 ∧ f3 6 ≤ 999 := by
  obtain ⟨a, -⟩ := h
  have e4 : f3 (0 + 4) = f3 4 := rfl
  have e5 : f3 (0 + 5) = f3 5 := rfl
  have e6 : f3 (0 + 6) = f3 6 := rfl
  omega
section LI
variable {x0 x1 x2 x3 x4 x5 x6 th ru n12 n13 s s' b b' t bk rc rm m m' mm mm' D d w : Int} {g8 g9 g10 g11 g20 g21 f3 f4 f5 f6 f7 f8 f9 f10 p p' A A' B B' C C' E E' W W' X X' Y Y' Z Z' : Int → Int}
theorem ld_inv (hPL : PLA x0 x1 x2 x3 x4 x5 x6 g8 g9 g10 g11 g20 g21 th ru f3 f4 f5 f6 f7 f8 f9 f10 n12 n13) (hST : StA s p b (f3 0) n12) (hRO : RoA s m A B C E mm W X Y Z (f3 0) n12) (hMc : NtM rc m m' s s' 0 t bk (putS s t (12 + bk)) A A' B B' C C' E E') (hRc : rc = jdg (ldC th t bk (nb s t) (g11 t) (dp s) x0) m) (hMm : MvM rm mm mm' W W' X X' Y Y' Z Z' 0 t bk (p t)) (hPm : PlM rm p p' t (12 + bk)) (hRm : rm = ldM n12 t bk (p t) (f7 t) b (f3 0) mm) (hn : 0 ≤ n12 ∧ n12 ≤ 7) (hD : 0 ≤ f3 0 ∧ f3 0 ≤ 11) (hmm : 0 ≤ mm ∧ mm ≤ 60) : rc = rm ∧ StA s' p' b (f3 0) n12 ∧ RoA s' m' A' B' C' E' mm' W' X' Y' Z' (f3 0) n12 := by
  obtain ⟨⟨a0, a1, a2, a3, a4, a5, a6, a7, a8⟩, b2, b3, b4⟩ := hPL
  have hST' := hST
  obtain ⟨c1, c2, c3⟩ := hST
  have hm := hRO.1
  have e : rc = rm := by
    rw [hRc, hRm, a0, a7, hm, c2]
    by_cases q : 0 ≤ t ∧ t < n12
    · rw [c1 t q.1 (by omega)]
      refine ld_eq (fun _ _ => ?_) (fun h0 h1 => (b2 t h0 (by omega)).2.2.2) hD hmm.2
      have h1 := c3.2.1 t q.1 q.2
      have h2 := nb_r s t
      rw [c1 t q.1 (by omega)] at h1 h2
      exact ⟨h2.1, h1⟩
    · have e1 : ldC n12 t bk (nb s t) (g11 t) b (f3 0) = 1 := if_pos (fun z => q ⟨z.1, z.2.1⟩)
      have e2 : ldM n12 t bk (p t) (f7 t) b (f3 0) mm = 1 := if_pos (fun z => q ⟨z.1, z.2.1⟩)
      rw [e1, e2]
      rfl
  refine ⟨e, ?_⟩
  by_cases z : rc = 0
  · obtain ⟨u1, u2, u3, u4, u5, u6⟩ := hMc.1 z
    obtain ⟨v1, v2, v3, v4, v5⟩ := hMm.1 (e ▸ z)
    have v6 := hPm.1 (e ▸ z)
    have ht : 0 ≤ t ∧ t < n12 ∧ 0 ≤ bk ∧ bk ≤ 1 := by
      by_cases q : 0 ≤ t ∧ t < n12 ∧ 0 ≤ bk ∧ bk ≤ 1
      · exact q
      · exfalso
        have e2 : ldM n12 t bk (p t) (f7 t) b (f3 0) mm = 1 := if_pos q
        rw [e2] at hRm
        omega
    rw [u2]
    refine ⟨sa_put hST' ht.1 ht.2.1 hn.2 (by omega) (by omega) hD.2 v6, ?_⟩
    have hs := c1 t ht.1 (by omega)
    exact ro_add hRO hmm.1 u1 u3 u4 u5 u6 v1 v2 v3 v4 v5 rfl rfl rfl c3 (vs_put c3 ht.1 ht.2.1 hn.2 (by omega) (by omega) hD.2) (hs ▸ stp_put 0 (by decide) c3 ht.1 ht.2.1 hn.2 (by omega) (by omega))
  · obtain ⟨u1, u2, u3, u4, u5, u6⟩ := hMc.2 z
    obtain ⟨v1, v2, v3, v4, v5⟩ := hMm.2 (e ▸ z)
    have v6 := hPm.2 (e ▸ z)
    rw [u1, u2, u3, u4, u5, u6, v1, v2, v3, v4, v5, v6]
    exact ⟨hST', hRO⟩
theorem un_inv (hPL : PLA x0 x1 x2 x3 x4 x5 x6 g8 g9 g10 g11 g20 g21 th ru f3 f4 f5 f6 f7 f8 f9 f10 n12 n13) (hST : StA s p b (f3 0) n12) (hRO : RoA s m A B C E mm W X Y Z (f3 0) n12) (hMc : NtM rc m m' s s' 1 t 0 (putS s t (plO (nb s t) (g8 t) (g11 t) (dp s) x0)) A A' B B' C C' E E') (hRc : rc = jdg (unC th t (nb s t)) m) (hMm : MvM rm mm mm' W W' X X' Y Y' Z Z' 1 t 0 (p t)) (hPm : PlM rm p p' t (plO (p t) (f4 t) (f7 t) b (f3 0))) (hRm : rm = unM n12 t (p t) mm) (hn : 0 ≤ n12 ∧ n12 ≤ 7) (hD : 0 ≤ f3 0 ∧ f3 0 ≤ 11) (hmm : 0 ≤ mm ∧ mm ≤ 60) : rc = rm ∧ StA s' p' b (f3 0) n12 ∧ RoA s' m' A' B' C' E' mm' W' X' Y' Z' (f3 0) n12 := by
  obtain ⟨⟨a0, a1, a2, a3, a4, a5, a6, a7, a8⟩, b2, b3, b4⟩ := hPL
  have hST' := hST
  obtain ⟨c1, c2, c3⟩ := hST
  have hm := hRO.1
  have e : rc = rm := by
    rw [hRc, hRm, a7, hm]
    by_cases q : 0 ≤ t ∧ t < n12
    · rw [c1 t q.1 (by omega)]
      exact un_eq hmm.2
    · have e1 : unC n12 t (nb s t) = 1 := if_pos q
      have e2 : unM n12 t (p t) mm = 1 := if_pos q
      rw [e1, e2]
      rfl
  refine ⟨e, ?_⟩
  by_cases z : rc = 0
  · obtain ⟨u1, u2, u3, u4, u5, u6⟩ := hMc.1 z
    obtain ⟨v1, v2, v3, v4, v5⟩ := hMm.1 (e ▸ z)
    have v6 := hPm.1 (e ▸ z)
    have ht : 0 ≤ t ∧ t < n12 := by
      by_cases q : 0 ≤ t ∧ t < n12
      · exact q
      · exfalso
        have e2 : unM n12 t (p t) mm = 1 := if_pos q
        rw [e2] at hRm
        omega
    have hs := c1 t ht.1 (by omega)
    obtain ⟨k1, -, -, k4⟩ := b2 t ht.1 (by omega)
    have ev : plO (nb s t) (g8 t) (g11 t) (dp s) x0 = plO (p t) (f4 t) (f7 t) b (f3 0) := by rw [hs, k1, k4, c2, a0]
    have hv := plo_v (k := g8 t) (a := g11 t) c3 hD ht.1 ht.2
    rw [← a0, ev] at hv
    rw [u2, ev]
    rw [ev] at u2
    have hv2 : plO (p t) (f4 t) (f7 t) b (f3 0) ≤ f3 0 ∨ (12 ≤ plO (p t) (f4 t) (f7 t) b (f3 0) ∧ plO (p t) (f4 t) (f7 t) b (f3 0) ≤ 14) := by rw [← a0]; rw [a0]; omega
    refine ⟨sa_put hST' ht.1 ht.2 hn.2 hv.1 hv2 hD.2 v6, ?_⟩
    have h9 := stp_put (D := f3 0) 1 (by decide) c3 ht.1 ht.2 hn.2 hv.1 (by omega)
    rw [hs] at h9
    exact ro_add hRO hmm.1 u1 u3 u4 u5 u6 v1 v2 v3 v4 v5 rfl rfl rfl c3 (vs_put c3 ht.1 ht.2 hn.2 hv.1 hv2 hD.2) h9
  · obtain ⟨u1, u2, u3, u4, u5, u6⟩ := hMc.2 z
    obtain ⟨v1, v2, v3, v4, v5⟩ := hMm.2 (e ▸ z)
    have v6 := hPm.2 (e ▸ z)
    rw [u1, u2, u3, u4, u5, u6, v1, v2, v3, v4, v5, v6]
    exact ⟨hST', hRO⟩
/-- the rules of a state are kept alike -/
theorem fq_eq (hPL : PLA x0 x1 x2 x3 x4 x5 x6 g8 g9 g10 g11 g20 g21 th ru f3 f4 f5 f6 f7 f8 f9 f10 n12 n13) (hW : ∀ q, 0 ≤ q → q < n13 → RWf f10 (f8 q) (f9 q)) (hn : 0 ≤ n12 ∧ n12 ≤ 7) (hp : ∀ u, 0 ≤ u → u ≤ 6 → nb s u = p u) (hb : dp s = b) (bk : Int) : ∀ q, 0 ≤ q → q < n13 → evR (dcf g20) (vls (nb s) g8 g9 bk th x0 (dp s)) (stq g21 q) (g21 q) = evR f10 (vls p f4 f5 bk n12 (f3 0) b) (f8 q) (f9 q) := by
  obtain ⟨⟨a0, a1, a2, a3, a4, a5, a6, a7, a8⟩, b2, b3, b4⟩ := hPL
  intro q h0 h1
  obtain ⟨u1, u2⟩ := b3 q h0 (by omega)
  have es : stq g21 q = f8 q := by
    rw [u2]
    unfold stq
    by_cases z : q = 0
    · rw [if_pos z, if_pos z]
    · rw [if_neg z, if_neg z]; exact (b3 (q - 1) (by omega) (by omega)).1
  have hR := hW q h0 h1
  rw [es, u1, ← ev_S hR (fun t t0 t1 => b4 q h0 (by omega) t t0 t1)]
  subst a7 a0 hb
  refine ev_V hR (fun k k0 k6 => ?_)
  have hP : ∀ t, 0 ≤ t → t < th → nb s t = p t := fun t t0 t1 => hp t t0 (by omega)
  unfold vls
  by_cases q3 : k ≤ 3
  · rw [if_pos q3, if_pos q3]
    exact mc_ext hP (fun t t0 t1 => (b2 t t0 t1).1)
  · rw [if_neg q3, if_neg q3]
    by_cases q4 : k = 4
    · rw [if_pos q4, if_pos q4]
      exact lc_ext hP (fun t t0 t1 => (b2 t t0 t1).2.1)
    · rw [if_neg q4, if_neg q4]
      by_cases q5 : k = 5
      · rw [if_pos q5, if_pos q5]
      · rw [if_neg q5, if_neg q5]
        exact lc_ext hP (fun t t0 t1 => (b2 t t0 t1).2.1)
theorem bki_eq {f g : Int → Int} {n : Int} (h : ∀ q, 0 ≤ q → q < n → f q = g q) : bkI f n ↔ bkI g n := ⟨fun z q h0 h1 => by rw [← h q h0 h1]; exact z q h0 h1, fun z q h0 h1 => by rw [h q h0 h1]; exact z q h0 h1⟩
theorem ri_inv (hPL : PLA x0 x1 x2 x3 x4 x5 x6 g8 g9 g10 g11 g20 g21 th ru f3 f4 f5 f6 f7 f8 f9 f10 n12 n13) (hW : ∀ q, 0 ≤ q → q < n13 → RWf f10 (f8 q) (f9 q)) (hST : StA s p b (f3 0) n12) (hRO : RoA s m A B C E mm W X Y Z (f3 0) n12) (hMc : NtM rc m m' s s' 2 d w (mvS s d) A A' B B' C C' E E')
    (hRc : ∃ r0, RtC r0 x0 (dp s) (gs (lc (nb s) g9 0) th) (gs (lc (nb s) g9 1) th) x2 (bkI (fun q => evR (dcf g20) (vls (nb s) g8 g9 0 th x0 (dp s)) (stq g21 q) (g21 q)) ru ∧ bkI (fun q => evR (dcf g20) (vls (nb s) g8 g9 1 th x0 (dp s)) (stq g21 q) (g21 q)) ru) x3 x4 x5 x6 d w ∧ rc = jdg r0 m)
    (hMm : MvM rm mm mm' W W' X X' Y Y' Z Z' 2 d w b) (hPm : (rm = 0 → b' = d) ∧ (¬ rm = 0 → b' = b))
    (hRm : ∃ r0, RtP r0 (f3 0) b (gs (lc p f5 0) n12) (gs (lc p f5 1) n12) (f3 2) (bkI (fun q => evR f10 (vls p f4 f5 0 n12 (f3 0) b) (f8 q) (f9 q)) n13 ∧ bkI (fun q => evR f10 (vls p f4 f5 1 n12 (f3 0) b) (f8 q) (f9 q)) n13) (f3 3) (f3 4) (f3 5) (f3 6) d w ∧ rm = jdg r0 mm)
    (hn : 0 ≤ n12 ∧ n12 ≤ 7) (hD : 0 ≤ f3 0 ∧ f3 0 ≤ 11) (hmm : 0 ≤ mm ∧ mm ≤ 60) : rc = rm ∧ StA s' p b' (f3 0) n12 ∧ RoA s' m' A' B' C' E' mm' W' X' Y' Z' (f3 0) n12 := by
  have hF := fun bk => fq_eq hPL hW hn hST.1 hST.2.1 bk
  obtain ⟨⟨a0, a1, a2, a3, a4, a5, a6, a7, a8⟩, b2, b3, b4⟩ := hPL
  have hST' := hST
  obtain ⟨c1, c2, c3⟩ := hST
  have hm := hRO.1
  obtain ⟨r0, h1, h2⟩ := hRc
  obtain ⟨r1, h3, h4⟩ := hRm
  have hP : ∀ t, 0 ≤ t → t < n12 → nb s t = p t := fun t t0 t1 => c1 t t0 (by omega)
  have hWt : ∀ t, 0 ≤ t → t < n12 → g9 t = f5 t := fun t t0 t1 => (b2 t t0 (by omega)).2.1
  have e0 : r0 = r1 := by
    have h5 := h1 (by rw [a0]; exact c3.1.2)
    rw [a0, a2, a3, a4, a5, a6, a7, a8, c2] at h5
    rw [lc_ext (b := 0) hP hWt, lc_ext (b := 1) hP hWt] at h5
    have k0 := bki_eq (hF 0)
    have k1 := bki_eq (hF 1)
    rw [a0, a7, c2] at k0 k1
    exact rt_u h5 h3 (and_congr k0 k1)
  have e : rc = rm := by rw [h2, h4, e0, hm]
  refine ⟨e, ?_⟩
  by_cases z : rc = 0
  · obtain ⟨u1, u2, u3, u4, u5, u6⟩ := hMc.1 z
    obtain ⟨v1, v2, v3, v4, v5⟩ := hMm.1 (e ▸ z)
    have v6 := hPm.1 (e ▸ z)
    have hr : r1 = 0 := by
      have h9 : rm = 0 := e ▸ z
      rw [h9] at h4
      unfold jdg at h4
      omega
    have hok : okD d w (f3 0) := by
      by_cases q : okD d w (f3 0)
      · exact q
      · have := h3.1 q
        omega
    have hdb : ¬ d = b := fun q => by
      have := (h3.2 hok).1 q
      omega
    rw [u2, v6]
    refine ⟨sa_mv hST' hn.1 hn.2 hok.1 hok.2.1 hD.2, ?_⟩
    rw [c2.symm] at hdb
    exact ro_add hRO hmm.1 u1 u3 u4 u5 u6 v1 v2 v3 v4 v5 rfl rfl rfl c3 (vs_mv c3 hn.1 hn.2 hok.1 hok.2.1 hD.2) (c2 ▸ stp_mv hok.1 (by have := hok.2.1; omega) hdb)
  · obtain ⟨u1, u2, u3, u4, u5, u6⟩ := hMc.2 z
    obtain ⟨v1, v2, v3, v4, v5⟩ := hMm.2 (e ▸ z)
    have v6 := hPm.2 (e ▸ z)
    rw [u1, u2, u3, u4, u5, u6, v1, v2, v3, v4, v5, v6]
    exact ⟨hST', hRO⟩
theorem ud_inv (hST : StA s p b D n12) (hRO : RoA s m A B C E mm W X Y Z D n12) (hc : (m ≤ 0 → rc = -1 ∧ m' = m ∧ s' = s) ∧ (0 < m → rc = m' ∧ m' = m - 1 ∧ s' = E (m - 1))) (hM : UnM mm mm' rm b b' W X Z p p') (hmm : 0 ≤ mm ∧ mm ≤ 60) (hn : n12 ≤ 7) : rc = rm ∧ StA s' p' b' D n12 ∧ RoA s' m' A B C E mm' W X Y Z D n12 := by
  have hm := hRO.1
  by_cases z : mm = 0
  · obtain ⟨u1, u2, u3⟩ := hc.1 (by omega)
    obtain ⟨v1, v2, v3, v4⟩ := hM.1 z
    subst u2 u3 v2 v3 v4
    exact ⟨u1.trans v1.symm, hST, hRO⟩
  · obtain ⟨u1, u2, u3⟩ := hc.2 (by omega)
    obtain ⟨v1, v2, v3, v4⟩ := hM.2 z
    obtain ⟨-, -, -, h4, h5, h6⟩ := hRO.2 (mm - 1) (by omega) (by omega)
    have e9 : nxS s E mm (mm - 1) = s := if_pos (by omega)
    rw [e9] at h6
    refine ⟨by omega, ?_, ro_und hRO u2 v1 u3⟩
    rw [u3, hm]
    obtain ⟨c1, c2, c3⟩ := hST
    by_cases q : W (mm - 1) = 2
    · obtain ⟨w1, w2⟩ := v3 q
      obtain ⟨s1, s2, s3, s4⟩ := h6.1 q
      rw [w1, w2]
      exact ⟨fun u u0 u6 => (s4 u u0 u6).trans (c1 u u0 u6), s1, h4⟩
    · obtain ⟨w1, w2⟩ := v4 q
      obtain ⟨s0, s1, s2, s3, s4⟩ := h6.2 q
      rw [w1, w2]
      refine ⟨fun u u0 u6 => ?_, s2.trans c2, h4⟩
      by_cases y : u = X (mm - 1)
      · rw [(uA_at _ _ _ _).1 y, y]; exact s3
      · rw [(uA_at _ _ _ _).2 y]; exact (s4 u u0 u6 y).trans (c1 u u0 u6)
end LI
def KiA (h ks km : Int) (kA kB kC kE : Int → Int) (b59 mm : Int) (p63 kW kX kY kZ : Int → Int) (D n : Int) : Prop := ¬ h = 0 → StA ks p63 b59 D n ∧ RoA ks km kA kB kC kE mm kW kX kY kZ D n
section LI2
variable {s m mm s' m' mm' b b' D D' n n' h h' ks km ks' km' b59 b59' km2 km2' : Int} {p p' A A' B B' C C' E E' W W' X X' Y Y' Z Z' kA kB kC kE kA' kB' kC' kE' p63 p63' kW kX kY kZ kW' kX' kY' kZ' : Int → Int}
theorem cp_at {f g g' : Int → Int} {N : Nat} (e : g' = cpZ f g N) : ∀ t : Int, 0 ≤ t → t < N → g' t = f t := fun t h0 h1 => by rw [e]; exact if_pos ⟨h0, h1⟩
theorem sa_ext (hS : StA s p b D n) (hs : s' = s) (hb : b' = b) (hp : ∀ t, 0 ≤ t → t < 7 → p' t = p t) (hD : D' = D) (hn : n' = n) : StA s' p' b' D' n' := by
  subst hs hb hD hn
  obtain ⟨a, c, d⟩ := hS
  exact ⟨fun t t0 t6 => (a t t0 t6).trans (hp t t0 (by omega)).symm, c, d⟩
theorem im_inv (hS : StA s p b D n) (hR : RoA s m A B C E mm W X Y Z D n) (h60 : mm ≤ 60) (hc : (ks' = s ∧ km' = m ∧ True) ∧ kA' = cpZ A kA 60 ∧ kB' = cpZ B kB 60 ∧ kC' = cpZ C kC 60 ∧ kE' = cpZ E kE 60) (hm : b59' = b ∧ km2' = mm) (e63 : ∀ t, 0 ≤ t → t < 7 → p63' t = p t) (e65 : ∀ t, 0 ≤ t → t < 60 → kW' t = W t) (e66 : ∀ t, 0 ≤ t → t < 60 → kX' t = X t) (e67 : ∀ t, 0 ≤ t → t < 60 → kY' t = Y t) (e68 : ∀ t, 0 ≤ t → t < 60 → kZ' t = Z t) : KiA h ks' km' kA' kB' kC' kE' b59' km2' p63' kW' kX' kY' kZ' D n := by
  obtain ⟨⟨c1, c2, -⟩, c3, c4, c5, c6⟩ := hc
  exact fun _ => ⟨sa_ext hS c1 hm.1 e63 rfl rfl, ro_ext hR h60 c1 c2 hm.2 rfl rfl (cp_at c3) (cp_at c4) (cp_at c5) (cp_at c6) e65 e66 e67 e68⟩
theorem rs_inv (hK : KiA h ks km kA kB kC kE b59 km2 p63 kW kX kY kZ D n) (hS : StA s p b D n) (hR : RoA s m A B C E mm W X Y Z D n) (h60 : km2 ≤ 60) (hm60 : mm ≤ 60) (hh : h = h')
    (hc : ¬ h = 0 → s' = ks ∧ m' = km ∧ A' = cpZ kA A 60 ∧ B' = cpZ kB B 60 ∧ C' = cpZ kC C 60 ∧ E' = cpZ kE E 60) (hc0 : h = 0 → s' = s ∧ m' = m ∧ A' = A ∧ B' = B ∧ C' = C ∧ E' = E)
    (hm : ¬ h' = 0 → (b' = b59 ∧ mm' = km2) ∧ (∀ t, 0 ≤ t → t < 7 → p' t = p63 t) ∧ (∀ t, 0 ≤ t → t < 60 → W' t = kW t) ∧ (∀ t, 0 ≤ t → t < 60 → X' t = kX t) ∧ (∀ t, 0 ≤ t → t < 60 → Y' t = kY t) ∧ (∀ t, 0 ≤ t → t < 60 → Z' t = kZ t)) (hm0 : h' = 0 → (b' = b ∧ mm' = mm) ∧ p' = p ∧ W' = W ∧ X' = X ∧ Y' = Y ∧ Z' = Z) : StA s' p' b' D n ∧ RoA s' m' A' B' C' E' mm' W' X' Y' Z' D n := by
  subst hh
  by_cases z : h = 0
  · obtain ⟨c1, c2, c3, c4, c5, c6⟩ := hc0 z
    obtain ⟨⟨d1, d2⟩, d3, d4, d5, d6, d7⟩ := hm0 z
    subst c1 c2 c3 c4 c5 c6 d1 d2 d3 d4 d5 d6 d7
    exact ⟨hS, hR⟩
  · obtain ⟨c1, c2, c3, c4, c5, c6⟩ := hc z
    obtain ⟨⟨d1, d2⟩, d3, d4, d5, d6, d7⟩ := hm z
    obtain ⟨k1, k2⟩ := hK z
    exact ⟨sa_ext k1 c1 d1 d3 rfl rfl, ro_ext k2 h60 c1 c2 d2 rfl rfl (cp_at c3) (cp_at c4) (cp_at c5) (cp_at c6) d4 d5 d6 d7⟩
end LI2
/-! town -/
section LT
variable {x0 x1 x2 x3 x4 x5 x6 th ru n12 n13 m12 m13 s s' b b' m mm m' mm' r c l h ks km b59 km2 : Int} {g8 g9 g10 g11 g20 g21 f3 f4 f5 f6 f7 f8 f9 f10 e3 e4 e5 e6 e7 e8 e9 e10 p p' A B C E W X Y Z kA kB kC kE p63 kW kX kY kZ : Int → Int}
/-- nothing was told -/
theorem tw_keep (hPL : PLA x0 x1 x2 x3 x4 x5 x6 g8 g9 g10 g11 g20 g21 th ru f3 f4 f5 f6 f7 f8 f9 f10 n12 n13) (hBD : BdM f3 f4 f5 f6 f7 0 n12) (hST : StA s p b (f3 0) n12) (hRO : RoA s m A B C E mm W X Y Z (f3 0) n12) (hKI : KiA h ks km kA kB kC kE b59 km2 p63 kW kX kY kZ (f3 0) n12) (hW : ∀ q, 0 ≤ q → q < n13 → RWf f10 (f8 q) (f9 q)) (hth : th ≤ 7) (hru : ru ≤ 4) (hn : n12 ≤ 7) (hmm : mm ≤ 60) (hs : s' = s ∧ m' = m) {a29 a31 n31 : Int} (hk : Kp f3 f4 f5 f6 f7 f8 f9 f10 e3 e4 e5 e6 e7 e8 e9 e10 ∧ p' = p ∧ m12 = n12 ∧ m13 = n13 ∧ b' = b ∧ mm' = mm ∧ n31 = a31) : PLA x0 x1 x2 x3 x4 x5 x6 g8 g9 g10 g11 g20 g21 th ru e3 e4 e5 e6 e7 e8 e9 e10 m12 m13 ∧ BdM e3 e4 e5 e6 e7 0 m12 ∧ StA s' p' b' (e3 0) m12 ∧ RoA s' m' A B C E mm' W X Y Z (e3 0) m12 ∧ KiA h ks km kA kB kC kE b59 km2 p63 kW kX kY kZ (e3 0) m12 := by
  obtain ⟨k1, k2, k3, k4, k5, k6, -⟩ := hk
  have h0 := (k1.1 0 (by decide)).1
  subst k2 k3 k4 k5 k6
  obtain ⟨rfl, rfl⟩ := hs
  refine ⟨pla_kp hPL k1 rfl rfl hth hru hW, bd_kp hBD k1.1 rfl hn, ?_, ?_, ?_⟩
  · rw [h0]; exact hST
  · rw [h0]; exact hRO
  · rw [h0]; exact hKI
/-- a town was told -/
theorem tw_told {T T' : Int → Int} {n : Int} (hT : ∀ t, T' t = T t % 256) (hC : CRl x0 x1 x2 x3 x4 x5 x6 g8 g9 g10 g11 g20 g21 l th ru (twP (uT T) n 600 0 0 0 1 (sk (uT T) n 0) pl0)) (hN : (twP (uT T) n 600 0 0 0 1 (sk (uT T) n 0) pl0).1 7 = th ∧ (twP (uT T) n 600 0 0 0 1 (sk (uT T) n 0) pl0).1 8 = ru) (hF : FsI s th x1 g10 th ∧ m = 0) (hM : PlF e3 e4 e5 e6 e7 e8 e9 e10 m12 m13 (twP T' n 600 0 0 0 1 (sk T' n 0) pl0) ∧ BdM e3 e4 e5 e6 e7 0 m12 ∧ (∀ t, 0 ≤ t → t < 7 → p' t = if t < m12 then e6 t else 15) ∧ b' = e3 1 ∧ mm = 0 ∧ c = 0 ∧ (twP T' n 600 0 0 0 1 (sk T' n 0) pl0).1 7 = m12 ∧ (twP T' n 600 0 0 0 1 (sk T' n 0) pl0).1 8 = m13) (hm : 0 ≤ m12 ∧ m12 ≤ 7) (hW : ∀ q, 0 ≤ q → q < m13 → RWf e10 (e8 q) (e9 q)) (hh : h = 0) : (PLA x0 x1 x2 x3 x4 x5 x6 g8 g9 g10 g11 g20 g21 th ru e3 e4 e5 e6 e7 e8 e9 e10 m12 m13 ∧ BdM e3 e4 e5 e6 e7 0 m12 ∧ StA s p' b' (e3 0) m12 ∧ RoA s m A B C E mm W X Y Z (e3 0) m12 ∧ KiA h ks km kA kB kC kE b59 km2 p63 kW kX kY kZ (e3 0) m12) ∧ ∀ q, 0 ≤ q → q < ru → RWf (dcf g20) (stq g21 q) (g21 q) := by
  have eT : T' = uT T := funext (fun t => hT t)
  obtain ⟨h1, h2, h3, h4, h5, -, h7, h8⟩ := hM
  rw [eT] at h1 h7 h8
  have hth : th = m12 := hN.1.symm.trans h7
  have hru : ru = m13 := hN.2.symm.trans h8
  have hP := pla_of hC h1 hth hru hW
  refine ⟨⟨hP, h2, ?_, ro_0 hF.2 h5, fun z => absurd hh z⟩, rc_of hP hW⟩
  obtain ⟨⟨a0, a1, a2, a3, a4, a5, a6, a7, a8⟩, b2, -⟩ := hP
  obtain ⟨d1, d2⟩ := h2
  have d0 : e3 (0 + 1) = e3 1 := rfl
  have hq : 0 ≤ x1 ∧ x1 ≤ 15 ∧ ∀ t, 0 ≤ t → t < th → 0 ≤ g10 t ∧ g10 t ≤ 15 := by
    refine ⟨by omega, by omega, fun t t0 t1 => ?_⟩
    have u := (b2 t t0 t1).2.2.1
    have v := d2 t t0 (by omega)
    rw [Int.zero_add] at v
    omega
  obtain ⟨f1, f2⟩ := hF.1 hq
  have hnb : ∀ t, 0 ≤ t → t ≤ 6 → nb s t = p' t := by
    intro t t0 t6
    rw [f1 t t0 t6, h3 t t0 (by omega), hth]
    by_cases q : t < m12
    · rw [if_pos q, if_pos q]; exact (b2 t t0 (by omega)).2.2.1
    · rw [if_neg q, if_neg q]
  refine ⟨hnb, by rw [f2, h4]; exact a1, by rw [f2]; omega, fun t t0 t1 => ?_, fun t t0 t6 => ?_⟩
  · rw [f1 t t0 (by omega), if_pos (by omega)]
    have u := (b2 t t0 (by omega)).2.2.1
    have v := d2 t t0 t1
    rw [Int.zero_add] at v
    omega
  · rw [f1 t (by omega) t6, if_neg (by omega)]
end LT
/-! what thing, moved answer -/
theorem th_eq {x0 x1 x2 x3 x4 x5 x6 th ru n12 n13 s b t w q v c : Int} {g8 g9 g10 g11 g20 g21 f3 f4 f5 f6 f7 f8 f9 f10 p : Int → Int} (hPL : PLA x0 x1 x2 x3 x4 x5 x6 g8 g9 g10 g11 g20 g21 th ru f3 f4 f5 f6 f7 f8 f9 f10 n12 n13) (hST : StA s p b (f3 0) n12) (hn : 0 ≤ n12 ∧ n12 ≤ 7) (hD : 0 ≤ f3 0 ∧ f3 0 ≤ 11) (hq : q = thC w (g8 t) (g9 t) (g11 t) (nb s t) (dp s) x0) (hr : ¬ (t < 0 ∨ th ≤ t ∨ w < 0 ∨ 5 < w)) (hM : Thr c v (¬ (0 ≤ t ∧ t < n12 ∧ 0 ≤ w ∧ w ≤ 5)) (thM w (f4 t) (f5 t) (f7 t) (p t) b (f3 0))) : c = 0 ∧ v = q := by
  obtain ⟨⟨a0, a1, a2, a3, a4, a5, a6, a7, a8⟩, b2, b3, b4⟩ := hPL
  obtain ⟨c1, c2, c3⟩ := hST
  obtain ⟨u1, u2⟩ := hM.2 (fun z => z (by omega))
  refine ⟨u1, ?_⟩
  obtain ⟨k1, k2, k3, k4⟩ := b2 t (by omega) (by omega)
  have hp := c3.2.1 t (by omega) (by omega)
  have hp0 := nb_r s t
  rw [c1 t (by omega) (by omega)] at hp hp0
  rw [u2, hq, c1 t (by omega) (by omega), k1, k2, k4, c2, a0]
  unfold thM thC thD bkO svM
  generalize buD (p t - 12) b (f3 0) = z
  omega
theorem th_x {th n12 t w v c : Int} {V : Int} (e : th = n12) (hr : t < 0 ∨ th ≤ t ∨ w < 0 ∨ 5 < w) (hM : Thr c v (¬ (0 ≤ t ∧ t < n12 ∧ 0 ≤ w ∧ w ≤ 5)) V) : c = 1 := hM.1 (by omega)
theorem tnm_k {f3 f4 f5 f6 f7 f8 f9 f10 e3 e4 e5 e6 e7 e8 e9 e10 p p' : Int → Int} {m12 n12 m13 n13 b' b mm' mm n31 a31 : Int} (h : Kp f3 f4 f5 f6 f7 f8 f9 f10 e3 e4 e5 e6 e7 e8 e9 e10 ∧ p' = p ∧ m12 = n12 ∧ m13 = n13 ∧ b' = b ∧ mm' = mm ∧ n31 = a31) : Kp f3 f4 f5 f6 f7 f8 f9 f10 e3 e4 e5 e6 e7 e8 e9 e10 ∧ p' = p ∧ m12 = n12 ∧ m13 = n13 ∧ b' = b ∧ mm' = mm ∧ n31 = a31 := h
theorem mo_eq {s m mm D n i w q v c : Int} {A B C E W X Y Z : Int → Int} (hR : RoA s m A B C E mm W X Y Z D n) (hq : q = if w = 0 then A i else if w = 1 then B i else C i) (hr : ¬ (i < 0 ∨ m ≤ i ∨ w < 0 ∨ 2 < w)) (hM : Thr c v (¬ (0 ≤ i ∧ i < mm ∧ 0 ≤ w ∧ w ≤ 2)) (if w = 0 then W i else if w = 1 then X i else Y i)) : c = 0 ∧ v = q := by
  have hm := hR.1
  obtain ⟨u1, u2⟩ := hM.2 (fun z => z (by omega))
  obtain ⟨k1, k2, k3, -⟩ := hR.2 i (by omega) (by omega)
  refine ⟨u1, ?_⟩
  rw [u2, hq, k1, k2, k3]
theorem mo_x {m mm i w v c V : Int} (e : m = mm) (hr : i < 0 ∨ m ≤ i ∨ w < 0 ∨ 2 < w) (hM : Thr c v (¬ (0 ≤ i ∧ i < mm ∧ 0 ≤ w ∧ w ≤ 2)) V) : c = 1 := hM.1 (by omega)
theorem pla_0 {x0 x1 x2 x3 x4 x5 x6 th ru n12 n13 : Int} {g8 g9 g10 g11 g20 g21 f3 f4 f5 f6 f7 f8 f9 f10 : Int → Int} (h : x0 = f3 0 ∧ x1 = f3 1 ∧ x2 = f3 2 ∧ x3 = f3 3 ∧ x4 = f3 4 ∧ x5 = f3 5 ∧ x6 = f3 6) (h1 : th = 0) (h2 : n12 = 0) (h3 : ru = 0) (h4 : n13 = 0) : PLA x0 x1 x2 x3 x4 x5 x6 g8 g9 g10 g11 g20 g21 th ru f3 f4 f5 f6 f7 f8 f9 f10 n12 n13 := by
  obtain ⟨a0, a1, a2, a3, a4, a5, a6⟩ := h
  subst h1 h2 h3 h4
  exact ⟨⟨a0, a1, a2, a3, a4, a5, a6, rfl, rfl⟩, fun t a b => absurd b (by omega), fun t a b => absurd b (by omega), fun t a b => absurd b (by omega)⟩
theorem bdm_0 {f3 f4 f5 f6 f7 : Int → Int} {n : Int} (y0 : f3 0 = 1) (y1 : f3 1 = 0) (y2 : f3 2 = 99) (y3 : f3 3 = 0) (y4 : f3 4 = 1) (y5 : f3 5 = 20) (y6 : f3 6 = 0) (hn : n = 0) : BdM f3 f4 f5 f6 f7 0 n := by
  subst hn
  have e1 : f3 (0 + 1) = f3 1 := rfl
  have e2 : f3 (0 + 2) = f3 2 := rfl
  have e3 : f3 (0 + 3) = f3 3 := rfl
  have e4 : f3 (0 + 4) = f3 4 := rfl
  have e5 : f3 (0 + 5) = f3 5 := rfl
  have e6 : f3 (0 + 6) = f3 6 := rfl
  exact ⟨by omega, fun t a b => absurd b (by omega)⟩
theorem sa_0 {s b D n : Int} {p : Int → Int} (hp : ∀ t, 0 ≤ t → t < 7 → p t = 15) (hs : s = 268435455) (hb : b = 0) (hn : n = 0) (hD : 0 ≤ D) : StA s p b D n := by
  subst hs hb hn
  have hd : dp 268435455 = 0 := by decide +kernel
  exact ⟨fun t t0 t6 => (nb_all t0 t6).trans (hp t t0 (by omega)).symm, hd, ⟨by omega, by omega⟩, fun t a b => absurd b (by omega), fun t _ t6 => nb_all (by omega) t6⟩
theorem tw_h0 {X : Int × Int} {r fp hi hi' : Int} (h : TwR X r fp hi hi') (hr : r = 0) : hi' = 0 := by
  by_cases z : X.1 = 0
  · exact (h.1 z).2.2
  · exact absurd ((h.2 z).1.symm.trans hr) z
