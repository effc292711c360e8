/-! the code of a state: its places, and the depth of bucket 0 -/
theorem pk_ext {p q : Int → Int} {a b : Int} (h : ∀ t, 0 ≤ t → t < 7 → p t = q t) (e : a = b) : ∀ k : Nat, k ≤ 7 → pkI p a k = pkI q b k
  | 0, _ => e
  | k + 1, hk => by
    show 16 * pkI p a k + p (k : Int) = 16 * pkI q b k + q (k : Int)
    rw [pk_ext h e k (by omega), h (k : Int) (by omega) (by omega)]
def cdS (p : Int → Int) (a : Int) : Int := pkI p a 7
def RgZ (p : Int → Int) (a : Int) : Prop := (0 ≤ a ∧ a ≤ 15) ∧ ∀ t, 0 ≤ t → t < 7 → 0 ≤ p t ∧ p t ≤ 15
theorem cd_inj {p q : Int → Int} {a b : Int} (hp : RgZ p a) (hq : RgZ q b) (h : cdS p a = cdS q b) : a = b ∧ ∀ t, 0 ≤ t → t < 7 → p t = q t := by
  obtain ⟨e, f⟩ := pk_inj hp.2 hq.2 7 (Nat.le_refl 7) h
  refine ⟨e, fun t t0 t1 => ?_⟩
  have h9 := f t.toNat (by omega) (by omega)
  rwa [show ((t.toNat : Nat) : Int) = t by omega] at h9
theorem cd_ext {p q : Int → Int} {a b : Int} (h : ∀ t, 0 ≤ t → t < 7 → p t = q t) (e : a = b) : cdS p a = cdS q b := pk_ext h e 7 (Nat.le_refl 7)
theorem cd_r {p : Int → Int} {a : Int} (h : RgZ p a) : 0 ≤ cdS p a ∧ cdS p a < 4294967296 := by
  have h1 := pk_r h.1 h.2 7 (Nat.le_refl 7)
  have e : ((16 ^ (7 + 1) : Nat) : Int) = 4294967296 := by decide
  rw [e] at h1
  exact h1
def cdC (s : Int) : Int := cdS (nb s) (dp s)
theorem rg_C (s : Int) : RgZ (nb s) (dp s) := ⟨dp_r s, fun t _ _ => nb_r s t⟩
theorem cdC_inj {s s' : Int} (h : inR s) (h' : inR s') (e : cdC s = cdC s') : s = s' := by
  obtain ⟨a, b⟩ := cd_inj (rg_C s) (rg_C s') e
  exact st_ext h h' (fun t t0 t6 => b t t0 (by omega)) a
theorem cdC_of {s a : Int} {p : Int → Int} (hp : ∀ t, 0 ≤ t → t ≤ 6 → nb s t = p t) (ha : dp s = a) : cdC s = cdS p a := cd_ext (fun t t0 t1 => hp t t0 (by omega)) ha
theorem cdC_mv {s d : Int} (d0 : 0 ≤ d) (d1 : d ≤ 15) : cdC (mvS s d) = cdS (nb s) d := cdC_of (fun t t0 t6 => nb_mv t0 t6) (dp_mv d0 d1)
/-! what may ride, and where to -/
def Vd (D : Int) (p : Int → Int) (a : Int) : Prop := (0 ≤ a ∧ a ≤ D) ∧ ∀ t, 0 ≤ t → t < 7 → 0 ≤ p t ∧ (p t ≤ D ∨ (12 ≤ p t ∧ p t ≤ 15))
theorem vd_rg {D a : Int} {p : Int → Int} (hD : D ≤ 11) (h : Vd D p a) : RgZ p a := ⟨⟨h.1.1, by have := h.1.2; omega⟩, fun t t0 t1 => by have := h.2 t t0 t1; omega⟩
def GoP (n D : Int) (W : Int → Int) (rope nd mb : Int) (z : Int → Int) (a d : Int) : Prop := (0 ≤ d ∧ d ≤ D ∧ ¬ d = a) ∧ exT 0 (exM (gs (lc z W 0) n) (gs (lc z W 1) n) rope D (stD a d)) nd mb a d
def CapP (n cap : Int) (W z : Int → Int) : Prop := gs (lc z W 0) n ≤ cap ∧ gs (lc z W 1) n ≤ cap
def Qr (n D cap : Int) (W : Int → Int) (rope nd mb : Int) (RK : (Int → Int) → Int → Prop) (a : Int) (z : Int → Int) (y : Int) : Prop := CapP n cap W z ∧ RK z a ∧ ∃ d, GoP n D W rope nd mb z a d ∧ y = cdS z d
/-- all ladings behind one choice for each THING from the i-th on -/
def QG (Op : Int → Int → Prop) (Q : (Int → Int) → Int → Prop) (i n : Int) (T : Int → Int) (y : Int) : Prop := ∃ z : Int → Int, (∀ t, 0 ≤ t → t < 7 → (t < i ∨ n ≤ t) → z t = T t) ∧ (∀ t, i ≤ t → t < n → Op t (z t)) ∧ Q z y
theorem qg_s {Op : Int → Int → Prop} {Q : (Int → Int) → Int → Prop} {i n y : Int} {T : Int → Int} (i0 : 0 ≤ i) (hi : i < n) (n7 : n ≤ 7) : QG Op Q i n T y ↔ ∃ v, Op i v ∧ QG Op Q (i + 1) n (uA T i v) y := by
  constructor
  · rintro ⟨z, h1, h2, h3⟩
    refine ⟨z i, h2 i (Int.le_refl i) hi, z, fun t t0 t1 ht => ?_, fun t a b => h2 t (by omega) b, h3⟩
    by_cases q : t = i
    · rw [q, uA_same]
    · rw [uA_ne q]; exact h1 t t0 t1 (by omega)
  · rintro ⟨v, hv, z, h1, h2, h3⟩
    refine ⟨z, fun t t0 t1 ht => (h1 t t0 t1 (by omega)).trans (uA_ne (by omega)), fun t a b => ?_, h3⟩
    by_cases q : t = i
    · have h9 := h1 i i0 (by omega) (Or.inl (by omega))
      rw [uA_same] at h9
      rw [q, h9]; exact hv
    · exact h2 t (by omega) b
theorem qg_n {Op : Int → Int → Prop} {Q : (Int → Int) → Int → Prop} {i n y : Int} {T : Int → Int} (hi : n ≤ i) (hx : ∀ z z' : Int → Int, (∀ t, 0 ≤ t → t < 7 → z t = z' t) → ∀ y, Q z y → Q z' y) : QG Op Q i n T y ↔ Q T y := by
  constructor
  · rintro ⟨z, h1, h2, h3⟩
    exact hx z T (fun t t0 t1 => h1 t t0 t1 (by omega)) y h3
  · exact fun h => ⟨T, fun _ _ _ _ => rfl, fun t a b => absurd b (by omega), h⟩
theorem qg_x {Op Op' : Int → Int → Prop} {Q Q' : (Int → Int) → Int → Prop} {i n y : Int} {T T' : Int → Int} (hT : ∀ t, 0 ≤ t → t < 7 → (t < i ∨ n ≤ t) → T t = T' t) (hO : ∀ t v, i ≤ t → t < n → (Op t v ↔ Op' t v)) (hQ : ∀ z y, Q z y ↔ Q' z y) : QG Op Q i n T y ↔ QG Op' Q' i n T' y := by
  constructor
  · rintro ⟨z, h1, h2, h3⟩
    exact ⟨z, fun t t0 t1 ht => (h1 t t0 t1 ht).trans (hT t t0 t1 ht), fun t a b => (hO t _ a b).mp (h2 t a b), (hQ z y).mp h3⟩
  · rintro ⟨z, h1, h2, h3⟩
    exact ⟨z, fun t t0 t1 ht => (h1 t t0 t1 ht).trans (hT t t0 t1 ht).symm, fun t a b => (hO t _ a b).mpr (h2 t a b), (hQ z y).mpr h3⟩
def RkX (n : Int) (RK : (Int → Int) → Int → Prop) : Prop := ∀ z z' : Int → Int, (∀ t, 0 ≤ t → t < n → z t = z' t) → ∀ a, RK z a → RK z' a
theorem qr_x {n D cap rope nd mb a : Int} {W : Int → Int} {RK : (Int → Int) → Int → Prop} (hR : RkX n RK) (n7 : n ≤ 7) : ∀ z z' : Int → Int, (∀ t, 0 ≤ t → t < 7 → z t = z' t) → ∀ y, Qr n D cap W rope nd mb RK a z y → Qr n D cap W rope nd mb RK a z' y := by
  intro z z' h y hq
  obtain ⟨⟨h1, h2⟩, h3, d, ⟨h4, h5⟩, h6⟩ := hq
  have h' : ∀ t, 0 ≤ t → t < n → z t = z' t := fun t t0 t1 => h t t0 (by omega)
  have e0 : gs (lc z W 0) n = gs (lc z' W 0) n := lc_ext h' (fun _ _ _ => rfl)
  have e1 : gs (lc z W 1) n = gs (lc z' W 1) n := lc_ext h' (fun _ _ _ => rfl)
  refine ⟨⟨by rw [← e0]; exact h1, by rw [← e1]; exact h2⟩, hR z z' h' a h3, d, ⟨h4, by rw [← e0, ← e1]; exact h5⟩, h6.trans (cd_ext h rfl)⟩
/-- a RIDE leads from the state of code x to that of code y -/
def Sg (n D cap : Int) (K A W : Int → Int) (rope nd mb : Int) (RK : (Int → Int) → Int → Prop) (x y : Int) : Prop := ∃ (p : Int → Int) (a : Int), Vd D p a ∧ x = cdS p a ∧ QG (fun t v => OpM (K t) (A t) (p t) a D v) (Qr n D cap W rope nd mb RK a) 0 n p y
theorem sg_of {n D cap rope nd mb x y a : Int} {K A W p : Int → Int} {RK : (Int → Int) → Int → Prop} (n7 : n ≤ 7) (hD : D ≤ 11) (h : Vd D p a) (hx : x = cdS p a) : Sg n D cap K A W rope nd mb RK x y ↔ QG (fun t v => OpM (K t) (A t) (p t) a D v) (Qr n D cap W rope nd mb RK a) 0 n p y := by
  constructor
  · rintro ⟨p', a', h', hx', hq⟩
    obtain ⟨e, f⟩ := cd_inj (vd_rg hD h) (vd_rg hD h') (hx.symm.trans hx')
    subst e
    exact (qg_x (fun t t0 t1 _ => (f t t0 t1).symm) (fun t v t0 t1 => by show OpM (K t) (A t) (p' t) a D v ↔ OpM (K t) (A t) (p t) a D v; rw [f t t0 (by omega)]) (fun _ _ => Iff.rfl)).mp hq
  · exact fun q => ⟨p, a, h, hx, q⟩
theorem unA_v {k A d D : Int} (d0 : 0 ≤ d) (d1 : d ≤ D) : 0 ≤ unA k A d ∧ (unA k A d ≤ D ∨ unA k A d = 14) := by
  unfold unA
  by_cases z : k = 3 ∧ A = d
  · rw [if_pos z]; omega
  · rw [if_neg z]; omega
theorem opm_v {k A p a D v : Int} (hp : 0 ≤ p ∧ (p ≤ D ∨ (12 ≤ p ∧ p ≤ 15))) (ha : 0 ≤ a ∧ a ≤ D) (hD : D ≤ 11) (h : OpM k A p a D v) : (0 ≤ v ∧ (v ≤ D ∨ (12 ≤ v ∧ v ≤ 15))) ∧ (v = 15 ↔ p = 15) := by
  have u1 := unA_v (k := k) (A := A) ha.1 ha.2
  have u2 := unA_v (k := k) (A := A) (show 0 ≤ D - a by omega) (show D - a ≤ D by omega)
  unfold OpM at h
  rcases h with h | ⟨h0, h | h⟩ | ⟨h0, h | h⟩ | ⟨h0, h1, h | h⟩ <;> omega
/-- what is come to is a state, and THINGS that are there stay there -/
theorem sg_vd {n D cap rope nd mb x y : Int} {K A W : Int → Int} {RK : (Int → Int) → Int → Prop} (n0 : 0 ≤ n) (n7 : n ≤ 7) (hD : D ≤ 11) (h : Sg n D cap K A W rope nd mb RK x y) : ∃ p a z d, Vd D p a ∧ x = cdS p a ∧ Vd D z d ∧ y = cdS z d ∧ ∀ t, 0 ≤ t → t < 7 → (z t = 15 ↔ p t = 15) := by
  obtain ⟨p, a, hV, hx, z, h1, h2, _, _, d, hg, hy⟩ := h
  have key : ∀ t, 0 ≤ t → t < 7 → (0 ≤ z t ∧ (z t ≤ D ∨ (12 ≤ z t ∧ z t ≤ 15))) ∧ (z t = 15 ↔ p t = 15) := by
    intro t t0 t1
    by_cases q : t < n
    · exact opm_v (hV.2 t t0 t1) hV.1 hD (h2 t t0 q)
    · rw [h1 t t0 t1 (Or.inr (by omega))]
      exact ⟨hV.2 t t0 t1, Iff.rfl⟩
  exact ⟨p, a, z, d, hV, hx, ⟨⟨hg.1.1, hg.1.2.1⟩, fun t t0 t1 => (key t t0 t1).1⟩, hy, fun t t0 t1 => (key t t0 t1).2⟩
theorem rc_inv {S : Int → Int → Prop} {P : Int → Prop} {a : Int} (h0 : P a) (hs : ∀ x y, P x → S x y → P y) : ∀ x, Rc S a x → P x := by
  rintro x ⟨k, hk⟩
  induction k generalizing x with
  | zero => rw [show x = a from hk]; exact h0
  | succ k ih =>
    obtain ⟨y, hy, hS⟩ := hk
    exact hs y x (ih y hy) hS
def VdX (D : Int) (G : Int → Prop) (x : Int) : Prop := ∃ (p : Int → Int) (a : Int), Vd D p a ∧ x = cdS p a ∧ ∀ t, 0 ≤ t → t < 7 → (p t = 15 ↔ G t)
theorem rc_vd {n D cap rope nd mb x0 : Int} {K A W : Int → Int} {RK : (Int → Int) → Int → Prop} {G : Int → Prop} (n0 : 0 ≤ n) (n7 : n ≤ 7) (hD : D ≤ 11) (h0 : VdX D G x0) : ∀ x, Rc (Sg n D cap K A W rope nd mb RK) x0 x → VdX D G x := by
  refine rc_inv h0 (fun x y hx hs => ?_)
  obtain ⟨p, a, hV, e, g⟩ := hx
  obtain ⟨p', a', z, d, hV', e', hVz, ey, gz⟩ := sg_vd n0 n7 hD hs
  obtain ⟨_, f⟩ := cd_inj (vd_rg hD hV) (vd_rg hD hV') (e.symm.trans e')
  exact ⟨z, d, hVz, ey, fun t t0 t1 => (gz t t0 t1).trans (by rw [← f t t0 t1]; exact g t t0 t1)⟩
/-- the same told by other names -/
theorem qr_i {n D cap rope nd mb a : Int} {W W' : Int → Int} {RK RK' : (Int → Int) → Int → Prop} (hW : ∀ t, 0 ≤ t → t < n → W t = W' t) (hR : ∀ z b, RK z b ↔ RK' z b) (z : Int → Int) (y : Int) : Qr n D cap W rope nd mb RK a z y ↔ Qr n D cap W' rope nd mb RK' a z y := by
  have e0 : gs (lc z W 0) n = gs (lc z W' 0) n := lc_ext (fun _ _ _ => rfl) hW
  have e1 : gs (lc z W 1) n = gs (lc z W' 1) n := lc_ext (fun _ _ _ => rfl) hW
  unfold Qr CapP GoP
  rw [e0, e1, hR]
theorem sg_i {n D cap rope nd mb : Int} {K A W K' A' W' : Int → Int} {RK RK' : (Int → Int) → Int → Prop} (hK : ∀ t, 0 ≤ t → t < n → K t = K' t) (hA : ∀ t, 0 ≤ t → t < n → A t = A' t) (hW : ∀ t, 0 ≤ t → t < n → W t = W' t) (hR : ∀ z b, RK z b ↔ RK' z b) (x y : Int) : Sg n D cap K A W rope nd mb RK x y ↔ Sg n D cap K' A' W' rope nd mb RK' x y := by
  constructor
  · rintro ⟨p, a, h, hx, hq⟩
    exact ⟨p, a, h, hx, (qg_x (fun _ _ _ _ => rfl) (fun t v t0 t1 => by show OpM (K t) (A t) (p t) a D v ↔ OpM (K' t) (A' t) (p t) a D v; rw [hK t t0 t1, hA t t0 t1]) (fun z y => qr_i hW hR z y)).mp hq⟩
  · rintro ⟨p, a, h, hx, hq⟩
    exact ⟨p, a, h, hx, (qg_x (fun _ _ _ _ => rfl) (fun t v t0 t1 => by show OpM (K t) (A t) (p t) a D v ↔ OpM (K' t) (A' t) (p t) a D v; rw [hK t t0 t1, hA t t0 t1]) (fun z y => qr_i hW hR z y)).mpr hq⟩
theorem rc_i {S S' : Int → Int → Prop} {a : Int} (h : ∀ x y, S x y ↔ S' x y) : ∀ x, Rc S a x ↔ Rc S' a x := by
  have e : S = S' := funext (fun x => funext (fun y => propext (h x y)))
  rw [e]
  exact fun _ => Iff.rfl
theorem fnd_i {S S' : Int → Int → Prop} {a a' N sp n : Int} {L : Int → Int} (h : ∀ x y, S x y ↔ S' x y) (ha : a = a') (f : Fnd S a N sp L n) : Fnd S' a' N sp L n := by
  have e : S = S' := funext (fun x => funext (fun y => propext (h x y)))
  rw [← e, ← ha]; exact f
/-! the rules of a lading -/
def RKg (sg : Int → Int) (b e : Int → Int) (ru n D : Int) (K W : Int → Int) (z : Int → Int) (a : Int) : Prop := bkI (fun q => evR sg (vls z K W 0 n D a) (b q) (e q)) ru ∧ bkI (fun q => evR sg (vls z K W 1 n D a) (b q) (e q)) ru
def dgq (n : Int) (z z' : Int → Int) : Prop := ∀ t, 0 ≤ t → t < n → (z t = 12 ↔ z' t = 12) ∧ (z t = 13 ↔ z' t = 13)
theorem lc_dg {n b : Int} {z z' W : Int → Int} (h : dgq n z z') (hb : b = 0 ∨ b = 1) : gs (lc z W b) n = gs (lc z' W b) n := by
  refine gs_ext (fun t t0 t1 => ?_)
  have h9 := h t t0 t1
  have e : z t = 12 + b ↔ z' t = 12 + b := by omega
  unfold lc
  by_cases q : z t = 12 + b
  · rw [if_pos q, if_pos (e.mp q)]
  · rw [if_neg q, if_neg (fun y => q (e.mpr y))]
theorem mc_dg {n b w : Int} {z z' K : Int → Int} (h : dgq n z z') (hb : b = 0 ∨ b = 1) : gs (mc z K b w) n = gs (mc z' K b w) n := by
  refine gs_ext (fun t t0 t1 => ?_)
  have h9 := h t t0 t1
  have e : z t = 12 + b ↔ z' t = 12 + b := by omega
  unfold mc
  by_cases q : z t = 12 + b ∧ K t = w
  · rw [if_pos q, if_pos ⟨e.mp q.1, q.2⟩]
  · rw [if_neg q, if_neg (fun y => q ⟨e.mpr y.1, y.2⟩)]
theorem vls_dg {n b D a : Int} {z z' K W : Int → Int} (h : dgq n z z') (hb : b = 0 ∨ b = 1) : ∀ k, 0 ≤ k → k ≤ 6 → vls z K W b n D a k = vls z' K W b n D a k := by
  intro k k0 k6
  unfold vls
  by_cases q3 : k ≤ 3
  · rw [if_pos q3, if_pos q3]; exact mc_dg h hb
  · rw [if_neg q3, if_neg q3]
    by_cases q4 : k = 4
    · rw [if_pos q4, if_pos q4]; exact lc_dg h hb
    · rw [if_neg q4, if_neg q4]
      by_cases q5 : k = 5
      · rw [if_pos q5, if_pos q5]
      · rw [if_neg q5, if_neg q5]; exact lc_dg h (by omega)
theorem rk_dg {sg b e K W z z' : Int → Int} {ru n D a : Int} (hW : ∀ q, 0 ≤ q → q < ru → RWf sg (b q) (e q)) (h : dgq n z z') (hk : RKg sg b e ru n D K W z a) : RKg sg b e ru n D K W z' a := by
  refine ⟨fun q q0 q1 => ?_, fun q q0 q1 => ?_⟩
  · show ¬ evR sg (vls z' K W 0 n D a) (b q) (e q) = 0
    rw [← ev_V (hW q q0 q1) (vls_dg h (Or.inl rfl))]; exact hk.1 q q0 q1
  · show ¬ evR sg (vls z' K W 1 n D a) (b q) (e q) = 0
    rw [← ev_V (hW q q0 q1) (vls_dg h (Or.inr rfl))]; exact hk.2 q q0 q1
theorem rk_x {sg b e K W : Int → Int} {ru n D : Int} (hW : ∀ q, 0 ≤ q → q < ru → RWf sg (b q) (e q)) : RkX n (RKg sg b e ru n D K W) := fun z z' h a hk => rk_dg hW (fun t t0 t1 => by rw [h t t0 t1]; exact ⟨Iff.rfl, Iff.rfl⟩) hk
/-! steps of a way -/
theorem anH_mo {g : Int → Int} {N f st : Int} {k : Nat} : ∀ m : Nat, k ≤ m → anH g N f st k → anH g N f st m := by
  intro m h
  induction h with
  | refl => exact id
  | step _ ih => exact fun z => Or.inl (ih z)
theorem go_m {n D rope nd mo br lo hi r a d : Int} {W z : Int → Int} (h : 0 ≤ d ∧ d ≤ D ∧ ¬ d = a) (hL : LM lo hi (exM (gs (lc z W 0) n) (gs (lc z W 1) n) rope D (stD a d)) a d) (hb : nd ≤ 99 ∧ 0 ≤ mo ∧ mo ≤ 999 ∧ 0 ≤ br ∧ br ≤ 999) (hr : r = swM 1 lo hi nd mo br) : r = 0 ↔ GoP n D W rope nd (bWr (mo + br)) z a d := by
  have e : bWr (mo + (if (1 : Int) = 1 then br else 0)) = bWr (mo + br) := by rw [if_pos rfl]
  have hE := sw_ex hL (show ¬ (1 : Int) = 2 by decide) ⟨by omega, lim_r ⟨hb.2.1, hb.2.2.1, hb.2.2.2.1, hb.2.2.2.2⟩⟩ hr
  rw [e] at hE
  constructor
  · intro z0
    rw [z0] at hE
    exact ⟨h, hE⟩
  · intro q
    exact exT_1 hE q.2 (fun _ => rfl)
def GoI (bh st a nd mb : Int) (g : Int → Int) (x : Int) : Prop := bh = 0 → ¬ anL g nd a st (st * (x - a)).toNat ∧ ¬ anH g mb a st (st * (x - a)).toNat
def GoT (st a D : Int) (z : Int → Int) (x y : Int) : Prop := ∃ d, (0 ≤ d ∧ d ≤ D) ∧ 0 < st * (d - a) ∧ st * (d - a) ≤ st * (x - a) ∧ y = cdS z d
def GoS (n D : Int) (W : Int → Int) (rope nd mb st : Int) (z : Int → Int) (a y : Int) : Prop := ∃ d, GoP n D W rope nd mb z a d ∧ stD a d = st ∧ y = cdS z d
theorem gi_0 {bh st a nd mb x : Int} {g : Int → Int} (hx : x = a) : GoI bh st a nd mb g x := by
  intro _
  rw [hx, Int.sub_self, Int.mul_zero]
  exact ⟨fun z => z, fun z => z⟩
theorem gi_s {bh st a nd mb x x' v : Int} {g : Int → Int} (h : GoI bh st a nd mb g x) (hst : st = 1 ∨ st = -1) (hx : 0 ≤ st * (x - a)) (hv : v = g x) (h1 : bh = 0 → nd ≤ v ∧ v ≤ mb) (hx' : x' = x + st) : GoI bh st a nd mb g x' := by
  intro z
  obtain ⟨a1, a2⟩ := h z
  have b := h1 z
  have e : (st * (x' - a)).toNat = (st * (x - a)).toNat + 1 ∧ a + st * (((st * (x - a)).toNat : Nat) : Int) = x := by
    rcases hst with h | h
    · subst h hx'; omega
    · subst h hx'; omega
  rw [e.1]
  refine ⟨fun y => ?_, fun y => ?_⟩
  · rcases y with y | y
    · exact a1 y
    · rw [e.2, ← hv] at y; omega
  · rcases y with y | y
    · exact a2 y
    · rw [e.2, ← hv] at y; omega
theorem gt_0 {st a D x y : Int} {z : Int → Int} (hx : x = a) : ¬ GoT st a D z x y := by
  rintro ⟨d, _, h1, h2, _⟩
  rw [hx, Int.sub_self, Int.mul_zero] at h2
  omega
theorem gt_s {st a D x x' : Int} {z : Int → Int} (hst : st = 1 ∨ st = -1) (hx : 0 ≤ st * (x - a)) (hx' : x' = x + st) (h0 : 0 ≤ x' ∧ x' ≤ D) (y : Int) : (GoT st a D z x y ∨ y = cdS z x') ↔ GoT st a D z x' y := by
  have e : st * (x' - a) = st * (x - a) + 1 := by
    rcases hst with h | h
    · subst h hx'; omega
    · subst h hx'; omega
  constructor
  · rintro (⟨d, h1, h2, h3, h4⟩ | h)
    · exact ⟨d, h1, h2, by omega, h4⟩
    · exact ⟨x', h0, by omega, Int.le_refl _, h⟩
  · rintro ⟨d, h1, h2, h3, h4⟩
    by_cases q : st * (d - a) ≤ st * (x - a)
    · exact Or.inl ⟨d, h1, h2, q, h4⟩
    · have ed : d = x' := by
        rcases hst with h | h
        · subst h; omega
        · subst h; omega
      exact Or.inr (by rw [h4, ed])
/-- where it stops, all that can be come to this way was come to -/
theorem gt_e {n D rope nd mb st a x : Int} {W z : Int → Int} (hst : st = 1 ∨ st = -1) (hx : 0 ≤ st * (x - a)) (hxD : 0 ≤ x ∧ x ≤ D) (ha : 0 ≤ a ∧ a ≤ D) (h : ¬ anL (exM (gs (lc z W 0) n) (gs (lc z W 1) n) rope D st) nd a st (st * (x - a)).toNat ∧ ¬ anH (exM (gs (lc z W 0) n) (gs (lc z W 1) n) rope D st) mb a st (st * (x - a)).toNat) (hE : (¬ (0 ≤ x + st ∧ x + st ≤ D)) ∨ exM (gs (lc z W 0) n) (gs (lc z W 1) n) rope D st x < nd ∨ mb < exM (gs (lc z W 0) n) (gs (lc z W 1) n) rope D st x) (y : Int) : GoT st a D z x y ↔ GoS n D W rope nd mb st z a y := by
  constructor
  · rintro ⟨d, h1, h2, h3, h4⟩
    have hd : ¬ d = a := by
      intro q
      rw [q, Int.sub_self, Int.mul_zero] at h2
      omega
    have es : stD a d = st := by
      unfold stD
      rcases hst with hs | hs
      · subst hs; rw [if_pos (by omega)]
      · subst hs; rw [if_neg (by omega)]
    refine ⟨d, ⟨⟨h1.1, h1.2, hd⟩, Or.inr (Or.inr ⟨rfl, ?_, ?_⟩)⟩, es, h4⟩
    · unfold kD
      rw [es]
      exact fun q => h.1 (anL_mo _ (by omega) q)
    · unfold kD
      rw [es]
      exact fun q => h.2 (anH_mo _ (by omega) q)
  · rintro ⟨d, ⟨⟨d0, d1, d2⟩, he⟩, es, ey⟩
    rw [es] at he
    have hd : 0 < st * (d - a) := by
      unfold stD at es
      by_cases q : a < d
      · rw [if_pos q] at es; subst es; omega
      · rw [if_neg q] at es; subst es; omega
    have hk : kD a d = (st * (d - a)).toNat := by unfold kD; rw [es]
    have hz : ¬ anL (exM (gs (lc z W 0) n) (gs (lc z W 1) n) rope D st) nd a st (kD a d) ∧ ¬ anH (exM (gs (lc z W 0) n) (gs (lc z W 1) n) rope D st) mb a st (kD a d) := by
      rcases he with he | he | he
      · exact absurd he.1 (by decide)
      · exact absurd he.1 (by decide)
      · unfold kD at he ⊢
        rw [es] at he ⊢
        exact ⟨he.2.1, he.2.2⟩
    refine ⟨d, ⟨d0, d1⟩, hd, ?_, ey⟩
    by_cases q : st * (d - a) ≤ st * (x - a)
    · exact q
    · exfalso
      have hm : (st * (x - a)).toNat + 1 ≤ kD a d := by rw [hk]; omega
      have ex : a + st * (((st * (x - a)).toNat : Nat) : Int) = x := by
        rcases hst with hs | hs
        · subst hs; omega
        · subst hs; omega
      rcases hE with hE | hE | hE
      · rcases hst with hs | hs
        · subst hs; omega
        · subst hs; omega
      · exact hz.1 (anL_mo _ hm (Or.inr (by rw [ex]; exact hE)))
      · exact hz.2 (anH_mo _ hm (Or.inr (by rw [ex]; exact hE)))
theorem go_two {n D rope nd mb a y : Int} {W z : Int → Int} : (GoS n D W rope nd mb 1 z a y ∨ GoS n D W rope nd mb (-1) z a y) ↔ ∃ d, GoP n D W rope nd mb z a d ∧ y = cdS z d := by
  constructor
  · rintro (⟨d, h1, _, h2⟩ | ⟨d, h1, _, h2⟩)
    · exact ⟨d, h1, h2⟩
    · exact ⟨d, h1, h2⟩
  · rintro ⟨d, h1, h2⟩
    by_cases q : a < d
    · exact Or.inl ⟨d, h1, if_pos q, h2⟩
    · exact Or.inr ⟨d, h1, if_neg q, h2⟩
/-! ladings one after another -/
def LdV (Op : Int → Int → Prop) (T : Int → Int) (Q : (Int → Int) → Int → Prop) (i n : Int) (V : Int → Prop) (y : Int) : Prop := ∃ v, V v ∧ QG Op Q (i + 1) n (uA T i v) y
theorem ld_x {Op Op' : Int → Int → Prop} {T T' : Int → Int} {Q Q' : (Int → Int) → Int → Prop} {i i' n x y : Int} (hi : i' = i + 1) (hT : ∀ t, 0 ≤ t → t < 7 → (t < i' ∨ n ≤ t) → T' t = uA T i x t) (hO : ∀ t v, i + 1 ≤ t → t < n → (Op' t v ↔ Op t v)) (hQ : ∀ z y, Q' z y ↔ Q z y) : QG Op' Q' i' n T' y ↔ QG Op Q (i + 1) n (uA T i x) y := by
  subst hi
  exact qg_x hT hO hQ
theorem ld_0 {Op Op' : Int → Int → Prop} {T T' : Int → Int} {Q Q' : (Int → Int) → Int → Prop} {i i' n x y : Int} (hi : i' = i + 1) (hT : ∀ t, 0 ≤ t → t < 7 → (t < i' ∨ n ≤ t) → T' t = uA T i x t) (hO : ∀ t v, i + 1 ≤ t → t < n → (Op' t v ↔ Op t v)) (hQ : ∀ z y, Q' z y ↔ Q z y) : QG Op' Q' i' n T' y ↔ LdV Op T Q i n (fun v => v = x) y := by
  rw [ld_x hi hT hO hQ]
  constructor
  · exact fun h => ⟨x, rfl, h⟩
  · rintro ⟨v, hv, h⟩
    rw [hv] at h
    exact h
theorem ld_y {Op Op' : Int → Int → Prop} {T T' : Int → Int} {Q Q' : (Int → Int) → Int → Prop} {i i' n x y : Int} {V : Int → Prop} {c : Prop} (hc : c) (hi : i' = i + 1) (hT : ∀ t, 0 ≤ t → t < 7 → (t < i' ∨ n ≤ t) → T' t = uA T i x t) (hO : ∀ t v, i + 1 ≤ t → t < n → (Op' t v ↔ Op t v)) (hQ : ∀ z y, Q' z y ↔ Q z y) : (LdV Op T Q i n V y ∨ QG Op' Q' i' n T' y) ↔ LdV Op T Q i n (fun v => V v ∨ (c ∧ v = x)) y := by
  rw [ld_x hi hT hO hQ]
  constructor
  · rintro (⟨v, hv, h⟩ | h)
    · exact ⟨v, Or.inl hv, h⟩
    · exact ⟨x, Or.inr ⟨hc, rfl⟩, h⟩
  · rintro ⟨v, hv | ⟨_, hv⟩, h⟩
    · exact Or.inl ⟨v, hv, h⟩
    · rw [hv] at h; exact Or.inr h
theorem ld_n {Op : Int → Int → Prop} {T : Int → Int} {Q : (Int → Int) → Int → Prop} {i n x y : Int} {V : Int → Prop} {c : Prop} (h : ¬ c ∨ ∀ y, ¬ QG Op Q (i + 1) n (uA T i x) y) : LdV Op T Q i n V y ↔ LdV Op T Q i n (fun v => V v ∨ (c ∧ v = x)) y := by
  constructor
  · rintro ⟨v, hv, q⟩
    exact ⟨v, Or.inl hv, q⟩
  · rintro ⟨v, hv | ⟨hc, hv⟩, q⟩
    · exact ⟨v, hv, q⟩
    · rcases h with h | h
      · exact absurd hc h
      · rw [hv] at q; exact absurd q (h y)
theorem ld_e {Op : Int → Int → Prop} {T : Int → Int} {Q : (Int → Int) → Int → Prop} {i n y : Int} {V : Int → Prop} (i0 : 0 ≤ i) (hi : i < n) (n7 : n ≤ 7) (hV : ∀ v, Op i v ↔ V v) : LdV Op T Q i n V y ↔ QG Op Q i n T y := by
  rw [qg_s i0 hi n7]
  constructor
  · rintro ⟨v, hv, h⟩
    exact ⟨v, (hV v).mpr hv, h⟩
  · rintro ⟨v, hv, h⟩
    exact ⟨v, (hV v).mp hv, h⟩
