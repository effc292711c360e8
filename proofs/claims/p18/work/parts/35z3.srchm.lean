/-! the model's search: codes are longs -/
theorem bl_i {y : Int} (h0 : 0 ≤ y) (h1 : y < 2147483648) : bL2i (Int64.ofInt y) = y := by
  unfold bL2i
  rw [Int64.toInt_toInt32, Int64.toInt_ofInt_of_le (by omega) (by omega), bmod_sm h0 (by omega)]
theorem l_val {y : Int} (h0 : 0 ≤ y) (h1 : y < 4294967296) : (Int64.ofInt y).toInt = y := Int64.toInt_ofInt_of_le (by omega) (by omega)
theorem cmp_0 (x y : Int64) : bCmp x y = 0 ↔ x = y := by
  unfold bCmp lg_cmp
  by_cases h : x > y
  · rw [if_pos h]
    refine ⟨fun z => absurd z (by decide), fun z => ?_⟩
    rw [z] at h
    exact absurd h (by rw [gt_iff_lt, Int64.lt_iff_toInt_lt]; omega)
  · rw [if_neg h]
    by_cases q : x = y
    · rw [if_pos q]; exact ⟨fun _ => q, fun _ => by decide⟩
    · rw [if_neg q]; exact ⟨fun z => absurd z (by decide), fun z => absurd z q⟩
def foM (v : Int64) : Int := bL2i (((v * (-7046029254386353131)).toUInt64 >>> ((Int32.ofInt 51).toInt64.toUInt64 &&& Int64.toUInt64 63)).toInt64)
def hM (x : Int) : Int := foM (Int64.ofInt x)
theorem hM_v (v : Int64) : hM v.toInt = foM v := by
  unfold hM
  rw [Int64.ofInt_toInt]
def LmF (fl : Nat → Int64) : Int → Int := fun k => (fl k.toNat).toInt
def FaI (fr : Int → Int) (n : Int) : Prop := ∀ k, 0 ≤ k → k < n → 0 ≤ fr k ∧ fr k ≤ k
def MI (fl : Nat → Int64) (fr hd nx : Int → Int) (n : Int) : Prop := ChI hM (LmF fl) hd nx n 8192 ∧ FaI fr n
def MsR (bw : Int) (fl : Nat → Int64) (fr hd nx : Int → Int) (n sp : Int) (fl' : Nat → Int64) (fr' hd' nx' : Int → Int) (n' sp' : Int) (Q : Int → Prop) : Prop := bw = 0 → MI fl fr hd nx n → (¬ sp = 0 → n = 1500) → 0 ≤ n → n ≤ 1500 → (MI fl' fr' hd' nx' n' ∧ (¬ sp' = 0 → n' = 1500) ∧ 0 ≤ n' ∧ n' ≤ 1500) ∧ Ad 1500 (LmF fl) n sp (LmF fl') n' sp' Q
theorem mr_bw {bw n sp n' sp' : Int} {fl fl' : Nat → Int64} {fr hd nx fr' hd' nx' : Int → Int} {Q : Int → Prop} (h : ¬ bw = 0) : MsR bw fl fr hd nx n sp fl' fr' hd' nx' n' sp' Q := fun z => absurd z h
theorem msr_no {bw n sp : Int} {fl : Nat → Int64} {fr hd nx : Int → Int} {Q : Int → Prop} (h : bw = 0 → ∀ y, ¬ Q y) : MsR bw fl fr hd nx n sp fl fr hd nx n sp Q := fun z M s a b => ⟨⟨M, s, a, b⟩, adx_no (h z)⟩
theorem mr_sp {bw n sp : Int} {fl : Nat → Int64} {fr hd nx : Int → Int} {Q : Int → Prop} (h : ¬ sp = 0) : MsR bw fl fr hd nx n sp fl fr hd nx n sp Q := fun _ M s a b => ⟨⟨M, s, a, b⟩, ad_sp h h (fun _ _ _ => rfl)⟩
theorem mr_q {bw n sp n' sp' : Int} {fl fl' : Nat → Int64} {fr hd nx fr' hd' nx' : Int → Int} {Q Q' : Int → Prop} (h : MsR bw fl fr hd nx n sp fl' fr' hd' nx' n' sp' Q) (e : bw = 0 → ∀ y, Q y ↔ Q' y) : MsR bw fl fr hd nx n sp fl' fr' hd' nx' n' sp' Q' := fun z M s a b => ⟨(h z M s a b).1, ad_q (h z M s a b).2 (e z)⟩
theorem mr_tr {bw n sp n1 sp1 n2 sp2 : Int} {fl fl1 fl2 : Nat → Int64} {fr hd nx fr1 hd1 nx1 fr2 hd2 nx2 : Int → Int} {Q1 Q2 : Int → Prop} (h : MsR bw fl fr hd nx n sp fl1 fr1 hd1 nx1 n1 sp1 Q1) (q : MsR bw fl1 fr1 hd1 nx1 n1 sp1 fl2 fr2 hd2 nx2 n2 sp2 Q2) : MsR bw fl fr hd nx n sp fl2 fr2 hd2 nx2 n2 sp2 (fun y => Q1 y ∨ Q2 y) := by
  intro z M s a b
  obtain ⟨⟨M1, s1, a1, b1⟩, A1⟩ := h z M s a b
  obtain ⟨⟨M2, s2, a2, b2⟩, A2⟩ := q z M1 s1 a1 b1
  exact ⟨⟨M2, s2, a2, b2⟩, ad_tr a A1 A2⟩
/-! a state is packed and unpacked -/
theorem pa_0 {p : Int → Int} {a x : Int} {v : Int64} (hv : v = (Int32.ofInt a).toInt64) (hr : inR a) (hx : x = 0) : v = Int64.ofInt (pkI p a x.toNat) := by
  rw [hv, l_i2l hr, hx]; rfl
theorem pa_s {p : Int → Int} {a x x' c : Int} {v v1 v2 v3 : Int64} (h : v = Int64.ofInt (pkI p a x.toNat)) (x0 : 0 ≤ x) (h1 : v1 = 16 * v) (hc : c = p x) (hr : inR c) (h2 : v2 = (Int32.ofInt c).toInt64) (h3 : v3 = v1 + v2) (hx : x' = x + 1) : v3 = Int64.ofInt (pkI p a x'.toNat) := by
  rw [h3, h1, h2, h, l_i2l hr, show (16 : Int64) = Int64.ofInt 16 by decide, ← Int64.ofInt_mul, ← Int64.ofInt_add, hx, show (x + 1).toNat = x.toNat + 1 by omega]
  show Int64.ofInt (16 * pkI p a x.toNat + c) = Int64.ofInt (16 * pkI p a x.toNat + p ((x.toNat : Nat) : Int))
  rw [show ((x.toNat : Nat) : Int) = x by omega, hc]
def UnI (v0 v : Int64) (x : Int) (g : Int → Int) : Prop := ∀ (p : Int → Int) (a : Int), RgZ p a → v0 = Int64.ofInt (cdS p a) → v = Int64.ofInt (pkI p a (x + 1).toNat) ∧ ∀ t, x < t → t < 7 → g t = p t
def UnP (v0 : Int64) (g : Int → Int) (b : Int) : Prop := ∀ (p : Int → Int) (a : Int), RgZ p a → v0 = Int64.ofInt (cdS p a) → (∀ t, 0 ≤ t → t < 7 → g t = p t) ∧ b = a
theorem un_0' {v0 v : Int64} {x : Int} {g : Int → Int} (hv : v = v0) (hx : x = 6) : UnI v0 v x g := by
  intro p a _ h
  refine ⟨by rw [hv, h, hx]; rfl, fun t t0 t1 => by omega⟩
theorem pkr_lt {p : Int → Int} {a : Int} (h : RgZ p a) (k : Nat) (hk : k ≤ 7) : 0 ≤ pkI p a k ∧ pkI p a k < 4294967296 := by
  have h1 := pk_r h.1 h.2 k hk
  have e : ((16 ^ (k + 1) : Nat) : Int) ≤ 4294967296 := by
    have key : ∀ q : Fin 8, ((16 ^ (q.val + 1) : Nat) : Int) ≤ 4294967296 := by decide +kernel
    exact key ⟨k, by omega⟩
  omega
theorem un_s' {v0 v v1 v2 : Int64} {x x' c i : Int} {g g' : Int → Int} (h : UnI v0 v x g) (x0 : 0 ≤ x) (x6 : x ≤ 6) (h1 : v1 = v - v / 16 * 16) (hc : c = bL2i v1) (h2 : v2 = v / 16) (e : g' = uA g i c) (hi : i = x) (hx : x' = x + -1) : UnI v0 v2 x' g' := by
  intro p a hr hv
  obtain ⟨a1, a2⟩ := h p a hr hv
  have hk := pkr_lt hr (x + 1).toNat (by omega)
  have es : pkI p a (x + 1).toNat = 16 * pkI p a x.toNat + p x := by
    rw [show (x + 1).toNat = x.toNat + 1 by omega]
    show 16 * pkI p a x.toNat + p ((x.toNat : Nat) : Int) = _
    rw [show ((x.toNat : Nat) : Int) = x by omega]
  have hp := hr.2 x x0 (by omega)
  have ec : c = p x := by
    rw [hc, h1, a1, l_rem hk.1 (by omega), bl_i (by omega) (by omega), es]
    omega
  refine ⟨?_, fun t t0 t1 => ?_⟩
  · rw [h2, a1, l_div hk.1 (by omega), es, hx, show (x + -1 + 1).toNat = x.toNat by omega]
    congr 1
    omega
  · rw [e, hi]
    by_cases q : t = x
    · rw [q, uA_same]; exact ec
    · rw [uA_ne q]; exact a2 t (by omega) t1
theorem un_e' {v0 v : Int64} {x b : Int} {g : Int → Int} (h : UnI v0 v x g) (hx : x = -1) (hb : b = bL2i v) : UnP v0 g b := by
  intro p a hr hv
  obtain ⟨a1, a2⟩ := h p a hr hv
  refine ⟨fun t t0 t1 => a2 t (by omega) t1, ?_⟩
  rw [hb, a1, hx]
  exact bl_i hr.1.1 (by have := hr.1.2; show a < 2147483648; omega)
theorem un_L {fl : Nat → Int64} {k x : Int} {v : Int64} (hv : v = fl k.toNat) (h : LmF fl k = x) : v = Int64.ofInt x := by
  rw [hv, ← h]
  exact (Int64.ofInt_toInt _).symm
theorem pa_e {p : Int → Int} {a x : Int} {v : Int64} (h : v = Int64.ofInt (pkI p a x.toNat)) (hx : x = 7) : v = Int64.ofInt (cdS p a) := by
  rw [h, hx]; rfl
/-! a state comes -/
def CmN (n n' sp sp' : Int) : Prop := n' ≤ n + 1 ∧ (n < 1500 → sp' = sp)
theorem cn_0 {n sp : Int} : CmN n n sp sp := ⟨by omega, fun _ => rfl⟩
theorem cn_f {n sp sp' : Int} (h : n = 1500) : CmN n n sp sp' := ⟨by omega, fun z => by omega⟩
theorem cn_1 {n n' sp sp' : Int} (h : n' = n + 1) (hs : sp' = sp) : CmN n n' sp sp' := ⟨by omega, fun _ => hs⟩
def CmW (fl : Nat → Int64) (hd nx fr : Int → Int) (n : Int) (v : Int64) (x : Int) : Prop := MI fl fr hd nx n → ChW hM (LmF fl) n v.toInt x
theorem cw_0 {fl : Nat → Int64} {hd nx fr : Int → Int} {n x f : Int} {v : Int64} (hf : 0 ≤ f ∧ f < 8192) (ef : f = foM v) (hx : x = hd f) : CmW fl hd nx fr n v x := fun M => chw_0 M.1 (ef.trans (hM_v v).symm) hf.1 hf.2 hx
theorem cm_ne {fl : Nat → Int64} {x z : Int} {u v : Int64} (hu : u = fl x.toNat) (hz : z = bCmp u v) (h : ¬ z = 0) : ¬ LmF fl x = v.toInt := by
  intro q
  refine h (hz.trans ((cmp_0 u v).mpr ?_))
  rw [hu]
  exact Int64.toInt_inj.mp q
theorem cw_s {fl : Nat → Int64} {hd nx fr : Int → Int} {n x x' z : Int} {u v : Int64} (h : CmW fl hd nx fr n v x) (x0 : 0 ≤ x) (x1 : x < n) (hu : u = fl x.toNat) (hz : z = bCmp u v) (hne : ¬ z = 0) (hx : x' = nx x) : CmW fl hd nx fr n v x' := fun M => chw_s M.1 (h M) x0 x1 (cm_ne hu hz hne) hx
def CmR (fl : Nat → Int64) (fr hd nx : Int → Int) (n sp : Int) (fl' : Nat → Int64) (fr' hd' nx' : Int → Int) (n' sp' : Int) (v : Int64) (by_ : Int) : Prop := 0 ≤ by_ → by_ ≤ n → MsR 0 fl fr hd nx n sp fl' fr' hd' nx' n' sp' (fun y => y = v.toInt)
theorem cm_found {fl : Nat → Int64} {fr hd nx fr' : Int → Int} {n sp x i z w m b : Int} {u v : Int64} (x0 : 0 ≤ x) (x1 : x < n) (hu : u = fl x.toNat) (hz : z = bCmp u v) (h0 : z = 0) (hw : w = fr x) (hm : (m = w ∨ m = b) ∧ m ≤ w ∧ m ≤ b) (e : fr' = uA fr i m) (hi : i = x) : CmR fl fr hd nx n sp fl fr' hd nx n sp v b := by
  intro b0 b1 _ M s n0 n5
  have hq : LmF fl x = v.toInt := by
    show (fl x.toNat).toInt = v.toInt
    rw [← hu, (cmp_0 u v).mp (hz ▸ h0)]
  refine ⟨⟨⟨M.1, fun k k0 k1 => ?_⟩, s, n0, n5⟩, ad_in (fun y hy => ⟨x, x0, x1, hq.trans hy.symm⟩)⟩
  rw [e, hi]
  by_cases q : k = x
  · rw [q, uA_same]
    have := M.2 x x0 x1
    omega
  · rw [uA_ne q]; exact M.2 k k0 k1
theorem cm_full {fl : Nat → Int64} {fr hd nx : Int → Int} {n sp sp' x b : Int} {v : Int64} (hW : CmW fl hd nx fr n v x) (hx : x = -1) (hn : n = 1500) (hsp : sp' = 1) : CmR fl fr hd nx n sp fl fr hd nx n sp' v b := by
  intro b0 b1 _ M s n0 n5
  have hN := chw_n (hW M) (by omega)
  refine ⟨⟨M, fun _ => hn, n0, n5⟩, ?_⟩
  by_cases z : sp = 0
  · exact ad_full z hn hN (by omega) (fun _ _ _ => rfl)
  · exact ad_sp z (by omega) (fun _ _ _ => rfl)
theorem cmr_new {fl fl' : Nat → Int64} {fr hd nx fr' hd' nx' : Int → Int} {n sp n' x b f z i1 i2 i3 i4 : Int} {v : Int64} (hW : CmW fl hd nx fr n v x) (hx : x = -1) (hn : ¬ n = 1500) (hf : 0 ≤ f ∧ f < 8192) (ef : f = foM v) (s3 : ∀ f, 0 ≤ f → f < 8192 → -1 ≤ hd f ∧ hd f < n) (s4 : ∀ t, 0 ≤ t → t < n → -1 ≤ nx t ∧ nx t < t) (e1 : fl' = vp_updL fl i1.toNat v) (e2 : fr' = uA fr i2 b) (ez : z = hd f) (e3 : nx' = uA nx i3 z) (e4 : hd' = uA hd f i4) (hn' : n' = n + 1) (h1 : i1 = n) (h2 : i2 = n) (h3 : i3 = n) (h4 : i4 = n) : CmR fl fr hd nx n sp fl' fr' hd' nx' n' sp v b := by
  intro b0 b1 _ M s n0 n5
  have hsp : sp = 0 := Classical.byContradiction (fun q => hn (s q))
  have hN := chw_n (hW M) (by omega)
  rw [h1] at e1; rw [h2] at e2; rw [h3] at e3; rw [h4] at e4
  have L_o : ∀ i, 0 ≤ i → i < n → LmF fl' i = LmF fl i := fun i a c => by
    unfold LmF
    rw [e1]
    show (if i.toNat = n.toNat then v else fl i.toNat).toInt = _
    rw [if_neg (by omega)]
  have L_n : LmF fl' n = v.toInt := by
    unfold LmF
    rw [e1]
    show (if n.toNat = n.toNat then v else fl n.toNat).toInt = _
    rw [if_pos rfl]
  subst hn'
  refine ⟨⟨⟨ch_new M.1 n0 (ef.trans (hM_v v).symm) hf.1 hf.2 L_o L_n ez e3 e4 s3 s4, fun k k0 k1 => ?_⟩, fun q => absurd hsp q, by omega, by omega⟩, ad_new hsp n0 (by omega) hN L_o L_n⟩
  rw [e2]
  by_cases q : k = n
  · rw [q, uA_same]; omega
  · rw [uA_ne q]; exact M.2 k k0 (by omega)
theorem cm_mr {bw n sp n' sp' fr0 b y0 : Int} {fl fl' : Nat → Int64} {fr hd nx fr' hd' nx' : Int → Int} {v : Int64} (h : CmR fl fr hd nx n sp fl' fr' hd' nx' n' sp' v b) (hb : bw = 0 → 0 ≤ b ∧ b ≤ n) (hv : bw = 0 → v.toInt = y0) : MsR bw fl fr hd nx n sp fl' fr' hd' nx' n' sp' (fun y => y = y0) := by
  intro z M s n0 n5
  have hb := hb z
  have h9 := h hb.1 hb.2 rfl M s n0 n5
  rw [hv z] at h9
  exact h9
/-! rides from one lading -/
def FrP (bw fr n : Int) : Prop := bw = 0 → 0 ≤ fr ∧ fr < n
theorem fr_mo {bw fr n n' : Int} (h : FrP bw fr n) (hn : n ≤ n') : FrP bw fr n' := fun z => by have := h z; omega
theorem fr_b {bw fr n c b : Int} (h : FrP bw fr n) (n5 : n ≤ 1500) (hc : bw = 0 → c = 1) (hb : b = bWr (fr + c)) : bw = 0 → 0 ≤ b ∧ b ≤ n := by
  intro z
  have a := h z
  rw [hb, hc z, bWr_eq ⟨by omega, by omega⟩]
  omega
def RoT (n D : Int) (W : Int → Int) (rope nd mb : Int) (z : Int → Int) (a x y : Int) : Prop := ∃ d, GoP n D W rope nd mb z a d ∧ d < x ∧ y = cdS z d
theorem ro_e {n D rope nd mb a x y : Int} {W z : Int → Int} (hx : x ≤ 0) : ¬ RoT n D W rope nd mb z a x y := by
  rintro ⟨d, h, h1, _⟩
  have := h.1.1
  omega
theorem ro_n {n D rope nd mb a x x' y : Int} {W z : Int → Int} (h : ¬ GoP n D W rope nd mb z a x) (hx : x' = x + 1) : RoT n D W rope nd mb z a x y ↔ RoT n D W rope nd mb z a x' y := by
  constructor
  · rintro ⟨d, g, h1, h2⟩
    exact ⟨d, g, by omega, h2⟩
  · rintro ⟨d, g, h1, h2⟩
    have hd : ¬ d = x := fun q => h (q ▸ g)
    exact ⟨d, g, by omega, h2⟩
theorem ro_y {n D rope nd mb a x x' y : Int} {W z : Int → Int} (h : GoP n D W rope nd mb z a x) (hx : x' = x + 1) : (RoT n D W rope nd mb z a x y ∨ y = cdS z x) ↔ RoT n D W rope nd mb z a x' y := by
  constructor
  · rintro (⟨d, g, h1, h2⟩ | h2)
    · exact ⟨d, g, by omega, h2⟩
    · exact ⟨x, h, by omega, h2⟩
  · rintro ⟨d, g, h1, h2⟩
    by_cases q : d = x
    · exact Or.inr (by rw [h2, q])
    · exact Or.inl ⟨d, g, by omega, h2⟩
theorem ro_x {n D cap rope nd mb a x y : Int} {W z : Int → Int} {RK : (Int → Int) → Int → Prop} (hx : D < x) (h1 : CapP n cap W z) (h2 : RK z a) : RoT n D W rope nd mb z a x y ↔ Qr n D cap W rope nd mb RK a z y := by
  constructor
  · rintro ⟨d, g, _, h⟩
    exact ⟨h1, h2, d, g, h⟩
  · rintro ⟨_, _, d, g, h⟩
    exact ⟨d, g, by have := g.1.2.1; omega, h⟩
/-! what the model tries for one THING -/
def VcP (bw D : Int) (p : Int → Int) (a : Int) : Prop := bw = 0 → Vd D p a
theorem vc_z {bw D a z : Int} {p : Int → Int} (h : VcP bw D p a) (hD : 0 ≤ D ∧ D ≤ 11) (hz : z = bWr (D - a)) : bw = 0 → z = D - a := by
  intro q
  have := (h q).1
  rw [hz, bWr_eq ⟨by omega, by omega⟩]
theorem op_a {k A p p0 a D z x c v : Int} (hz : z = D - a) (hp : p0 = p) (h6 : (p0 = 12 ∧ x = a) ∨ (¬ p0 = 12 ∧ p0 = 13 ∧ x = z)) (hc : c = unA k A x) (hn : ¬ (a = z ∧ ¬ A = x)) : OpM k A p a D v ↔ (v = p0 ∨ v = c) := by
  subst hz hp
  unfold OpM
  rcases h6 with ⟨h1, h2⟩ | ⟨h0, h1, h2⟩
  · rw [h2] at hc hn
    rw [hc]
    omega
  · rw [h2] at hc hn
    rw [hc]
    omega
theorem op_b {k A p p0 a D z x c w v : Int} (hz : z = D - a) (hp : p0 = p) (h6 : (p0 = 12 ∧ x = a) ∨ (¬ p0 = 12 ∧ p0 = 13 ∧ x = z)) (hc : c = unA k A x) (hy : a = z ∧ ¬ A = x) (hw : (p0 = 12 ∧ w = 13) ∨ (¬ p0 = 12 ∧ w = 12)) : OpM k A p a D v ↔ ((v = p0 ∨ v = c) ∨ v = w) := by
  subst hz hp
  unfold OpM
  rcases h6 with ⟨h1, h2⟩ | ⟨h0, h1, h2⟩
  · rw [h2] at hc hy
    rw [hc]
    omega
  · rw [h2] at hc hy
    rw [hc]
    omega
theorem op_d {k A p p0 a D v : Int} (hp : p0 = p) (h1 : ¬ p0 = 12) (h2 : ¬ p0 = 13) (h3 : 12 ≤ p0 ∨ svM p0 A) : OpM k A p a D v ↔ v = p0 := by
  subst hp
  unfold OpM
  unfold svM at h3 ⊢
  omega
theorem op_c {k A p p0 a D z v : Int} (hz : z = D - a) (hp : p0 = p) (h1 : p0 < 12) (h3 : ¬ svM p0 A) : OpM k A p a D v ↔ ((v = p0 ∨ (p0 = a ∧ v = 12)) ∨ (p0 = z ∧ v = 13)) := by
  subst hz hp
  unfold OpM
  unfold svM at h3 ⊢
  omega
theorem am_a {Op : Int → Int → Prop} {T T1 : Int → Int} {Q : (Int → Int) → Int → Prop} {i i' n v1 y : Int} (i0 : 0 ≤ i) (hi : i < n) (n7 : n ≤ 7) (hi' : i' = i + 1) (h1 : ∀ t, 0 ≤ t → t < 7 → (t < i' ∨ n ≤ t) → T1 t = uA T i v1 t) (hO : ∀ v, Op i v ↔ v = v1) : QG Op Q i' n T1 y ↔ QG Op Q i n T y := by
  rw [ld_x hi' h1 (fun _ _ _ _ => Iff.rfl) (fun _ _ => Iff.rfl), qg_s i0 hi n7]
  constructor
  · exact fun h => ⟨v1, (hO v1).mpr rfl, h⟩
  · rintro ⟨v, hv, h⟩
    rw [(hO v).mp hv] at h
    exact h
theorem am_b {Op : Int → Int → Prop} {T T1 T2 : Int → Int} {Q : (Int → Int) → Int → Prop} {i i' n v1 v2 y : Int} (i0 : 0 ≤ i) (hi : i < n) (n7 : n ≤ 7) (hi' : i' = i + 1) (h1 : ∀ t, 0 ≤ t → t < 7 → (t < i' ∨ n ≤ t) → T1 t = uA T i v1 t) (h2 : ∀ t, 0 ≤ t → t < 7 → (t < i' ∨ n ≤ t) → T2 t = uA T i v2 t) (hO : ∀ v, Op i v ↔ (v = v1 ∨ v = v2)) : (QG Op Q i' n T1 y ∨ QG Op Q i' n T2 y) ↔ QG Op Q i n T y := by
  rw [ld_x hi' h1 (fun _ _ _ _ => Iff.rfl) (fun _ _ => Iff.rfl), ld_x hi' h2 (fun _ _ _ _ => Iff.rfl) (fun _ _ => Iff.rfl), qg_s i0 hi n7]
  constructor
  · rintro (h | h)
    · exact ⟨v1, (hO v1).mpr (Or.inl rfl), h⟩
    · exact ⟨v2, (hO v2).mpr (Or.inr rfl), h⟩
  · rintro ⟨v, hv, h⟩
    rcases (hO v).mp hv with e | e
    · rw [e] at h; exact Or.inl h
    · rw [e] at h; exact Or.inr h
theorem am_c {Op : Int → Int → Prop} {T T1 T2 T3 : Int → Int} {Q : (Int → Int) → Int → Prop} {i i' n v1 v2 v3 y : Int} (i0 : 0 ≤ i) (hi : i < n) (n7 : n ≤ 7) (hi' : i' = i + 1) (h1 : ∀ t, 0 ≤ t → t < 7 → (t < i' ∨ n ≤ t) → T1 t = uA T i v1 t) (h2 : ∀ t, 0 ≤ t → t < 7 → (t < i' ∨ n ≤ t) → T2 t = uA T i v2 t) (h3 : ∀ t, 0 ≤ t → t < 7 → (t < i' ∨ n ≤ t) → T3 t = uA T i v3 t) (hO : ∀ v, Op i v ↔ ((v = v1 ∨ v = v2) ∨ v = v3)) : ((QG Op Q i' n T1 y ∨ QG Op Q i' n T2 y) ∨ QG Op Q i' n T3 y) ↔ QG Op Q i n T y := by
  rw [ld_x hi' h1 (fun _ _ _ _ => Iff.rfl) (fun _ _ => Iff.rfl), ld_x hi' h2 (fun _ _ _ _ => Iff.rfl) (fun _ _ => Iff.rfl), ld_x hi' h3 (fun _ _ _ _ => Iff.rfl) (fun _ _ => Iff.rfl), qg_s i0 hi n7]
  constructor
  · rintro ((h | h) | h)
    · exact ⟨v1, (hO v1).mpr (Or.inl (Or.inl rfl)), h⟩
    · exact ⟨v2, (hO v2).mpr (Or.inl (Or.inr rfl)), h⟩
    · exact ⟨v3, (hO v3).mpr (Or.inr rfl), h⟩
  · rintro ⟨v, hv, h⟩
    rcases (hO v).mp hv with (e | e) | e
    · rw [e] at h; exact Or.inl (Or.inl h)
    · rw [e] at h; exact Or.inl (Or.inr h)
    · rw [e] at h; exact Or.inr h
def RzP (bw : Int) (p : Int → Int) : Prop := bw = 0 → ∀ t, 0 ≤ t → t < 7 → 0 ≤ p t ∧ p t ≤ 15
theorem rg_of {bw a : Int} {p : Int → Int} (h : RzP bw p) (z : bw = 0) (ha : 0 ≤ a ∧ a ≤ 15) : RgZ p a := ⟨ha, h z⟩
theorem rz_up {bw i v : Int} {p p' : Int → Int} (h : RzP bw p) (e : p' = uA p i v) (hv : bw = 0 → 0 ≤ v ∧ v ≤ 15) : RzP bw p' := fun z t t0 t1 => by
  rw [e]
  by_cases q : t = i
  · rw [q, uA_same]; exact hv z
  · rw [uA_ne q]; exact h z t t0 t1
theorem vc_r {bw D a t v : Int} {p : Int → Int} (h : VcP bw D p a) (hD : 0 ≤ D ∧ D ≤ 11) (hv : v = p t) (t0 : 0 ≤ t) (t1 : t < 7) : bw = 0 → 0 ≤ v ∧ v ≤ 15 := fun z => by
  have := (h z).2 t t0 t1
  omega
theorem vc_b {bw D a : Int} {p : Int → Int} (h : VcP bw D p a) (hD : 0 ≤ D ∧ D ≤ 11) : bw = 0 → 0 ≤ a ∧ a ≤ 15 := fun z => by
  have := (h z).1
  omega
theorem un_rg {bw D a z x c k A : Int} {p : Int → Int} (h : VcP bw D p a) (hD : 0 ≤ D ∧ D ≤ 11) (hz : bw = 0 → z = D - a) (hx : x = a ∨ x = z) (hc : c = unA k A x) : bw = 0 → 0 ≤ c ∧ c ≤ 15 := fun y => by
  have h1 := (h y).1
  have h2 := hz y
  have h3 := unA_v (k := k) (A := A) (d := x) (D := D) (by omega) (by omega)
  omega
theorem rz_vc {bw D a : Int} {p T : Int → Int} (h : VcP bw D p a) (hD : 0 ≤ D ∧ D ≤ 11) (e : ∀ t, 0 ≤ t → t < 7 → T t = p t) : RzP bw T := fun z t t0 t1 => by
  rw [e t t0 t1]
  have := (h z).2 t t0 t1
  omega
def ThP (i n : Int) (T T' : Int → Int) : Prop := ∀ t, 0 ≤ t → t < 7 → (t < i ∨ n ≤ t) → T' t = T t
theorem th_rf {i n : Int} {T : Int → Int} : ThP i n T T := fun _ _ _ _ => rfl
theorem th_up {i n x i' : Int} {T T1 T2 : Int → Int} (h : ThP i n T T1) (e : T2 = uA T1 i' x) (hi : i' = i) (hn : i < n) : ThP i n T T2 := by
  intro t t0 t1 ht
  rw [e, hi, uA_ne (by omega)]
  exact h t t0 t1 ht
theorem th_tr {i i1 n : Int} {T T1 T2 : Int → Int} (h : ThP i n T T1) (q : ThP i1 n T1 T2) (hi : i1 = i + 1) : ThP i n T T2 := fun t t0 t1 ht => (q t t0 t1 (by omega)).trans (h t t0 t1 ht)
/-- then[i] is set to x -/
theorem th_at {i i' n x : Int} {T T1 T2 : Int → Int} (h : ThP i n T T1) (e : T2 = uA T1 i' x) (hi : i' = i) {j : Int} (hj : j = i + 1) (hn : i < n) : ∀ t, 0 ≤ t → t < 7 → (t < j ∨ n ≤ t) → T2 t = uA T i x t := by
  intro t t0 t1 ht
  rw [e, hi]
  by_cases q : t = i
  · rw [q, uA_same, uA_same]
  · rw [uA_ne q, uA_ne q]
    exact h t t0 t1 (by omega)
/-! the whole search of the model -/
def SkX (S : Int → Int → Prop) (w x0 : Int) (fl : Nat → Int64) (fr hd nx dn : Int → Int) (n sp : Int) : Prop := w = 0 → (MI fl fr hd nx n ∧ (¬ sp = 0 → n = 1500) ∧ n ≤ 1500) ∧ (1 ≤ n ∧ LmF fl 0 = x0 ∧ DiL (LmF fl) n) ∧ (∀ j, 0 ≤ j → j < n → Rc S x0 (LmF fl j)) ∧ (sp = 0 → ∀ j, 0 ≤ j → j < n → ¬ dn j = 0 → ∀ y, S (LmF fl j) y → InL (LmF fl) n y) ∧ (¬ sp = 0 → ∃ x, Rc S x0 x ∧ ¬ InL (LmF fl) n x)
theorem sk_0 {S : Int → Int → Prop} {w x0 n sp n' sp' b : Int} {fl fl' : Nat → Int64} {fr hd nx dn fr' hd' nx' dn' : Int → Int} {v : Int64} (hF : ∀ f, 0 ≤ f → f < 8192 → hd f = -1) (h0 : n = 0 ∧ sp = 0) (H : CmR fl fr hd nx n sp fl' fr' hd' nx' n' sp' v b) (hb : b = 0) (hv : v = Int64.ofInt x0) (hx : 0 ≤ x0 ∧ x0 < 4294967296) (hn : n' ≤ n + 1) (hsp : n < 1500 → sp' = sp) (hd0 : FR n dn n' dn') : SkX S w x0 fl' fr' hd' nx' dn' n' sp' := by
  intro _
  obtain ⟨q1, q2⟩ := h0
  subst q1 q2 hb
  have hsp := hsp (by decide)
  have hvv : v.toInt = x0 := by rw [hv]; exact l_val hx.1 hx.2
  obtain ⟨⟨M, s, a, c⟩, a1, a2, a3, a4⟩ := H (Int.le_refl 0) (Int.le_refl 0) rfl ⟨ch_0 rfl hF, fun k k0 k1 => absurd k1 (by omega)⟩ (fun q => absurd rfl q) (Int.le_refl 0) (by decide)
  obtain ⟨d1, d2, d3, d4, d5⟩ := a4 rfl (fun i j i0 i1 => absurd i1 (by omega)) (by decide)
  obtain ⟨j, j0, j1, je⟩ := d4 hsp v.toInt rfl
  have hj : j = 0 := by omega
  rw [hj, hvv] at je
  refine ⟨⟨M, s, c⟩, ⟨by omega, je, d1⟩, fun j j0 j1 => ?_, fun _ j j0 j1 hd9 => ?_, fun q => absurd hsp q⟩
  · rw [show j = 0 by omega, je]; exact rc_0 S _
  · exact absurd (hd0.2.2 j j0 j1) hd9
theorem sk_s {S : Int → Int → Prop} {w bw x0 n sp k n' sp' i : Int} {fl fl' : Nat → Int64} {fr hd nx dn dn1 fr' hd' nx' dn' : Int → Int} {Q : Int → Prop} (X : SkX S w x0 fl fr hd nx dn n sp) (hsp : sp = 0) (k0 : 0 ≤ k) (k1 : k < n) (hbw : bw = w) (H : MsR bw fl fr hd nx n sp fl' fr' hd' nx' n' sp' Q) (hQ : w = 0 → (∀ j, 0 ≤ j → j < n → Rc S x0 (LmF fl j)) → ∀ y, Q y ↔ S (LmF fl k) y) (e : dn1 = uA dn i 1) (hi : i = k) (hF : FR n dn1 n' dn') : SkX S w x0 fl' fr' hd' nx' dn' n' sp' := by
  intro z
  obtain ⟨⟨M, s, n5⟩, ⟨x1, x2, x3⟩, x4, x5, x6⟩ := X z
  have hQ := hQ z x4
  obtain ⟨⟨M', s', a', c'⟩, a1, a2, a3, a4⟩ := H (hbw.trans z) M s (by omega) n5
  obtain ⟨d1, d2, d3, d4, d5⟩ := a4 hsp x3 n5
  obtain ⟨f1, f2, f3⟩ := hF
  have hnew : ∀ j, n ≤ j → j < n' → S (LmF fl k) (LmF fl' j) := fun j a b => (hQ _).mp (d3 j a b)
  refine ⟨⟨M', s', c'⟩, ⟨by omega, (a2 0 (by omega) (by omega)).trans x2, d1⟩, fun j j0 j1 => ?_, fun y0 j j0 j1 hd9 y hS => ?_, fun y0 => ?_⟩
  · by_cases q : j < n
    · rw [a2 j j0 q]; exact x4 j j0 q
    · exact rc_s (x4 k k0 k1) (hnew j (by omega) j1)
  · by_cases q : j < n
    · rw [a2 j j0 q] at hS
      rw [f2 j q, e, hi] at hd9
      by_cases u : j = k
      · rw [u] at hS
        exact d4 y0 y ((hQ y).mpr hS)
      · rw [uA_ne u] at hd9
        exact il_mo a1 a2 (x5 hsp j j0 q hd9 y hS)
    · exact absurd (f3 j (by omega) j1) hd9
  · obtain ⟨_, y, hy, hN⟩ := d5 y0
    exact ⟨y, rc_s (x4 k k0 k1) ((hQ y).mp hy), hN⟩
def NrI (dn : Int → Int) (r x : Int) : Prop := r = -1 → ∀ j, 0 ≤ j → j < x → ¬ dn j = 0
theorem nr_0 {dn : Int → Int} {r x : Int} (hx : x = 0) : NrI dn r x := fun _ j j0 j1 => absurd j1 (by omega)
theorem nr_s {dn : Int → Int} {r x x' z : Int} (h : NrI dn r x) (hz : z = dn x) (hn : ¬ z = 0) (hx : x' = x + 1) : NrI dn r x' := fun q j j0 j1 => by
  by_cases y : j = x
  · rw [y, ← hz]; exact hn
  · exact h q j j0 (by omega)
theorem nr_t {dn : Int → Int} {r x : Int} (hr : ¬ r = -1) : NrI dn r x := fun q => absurd q hr
def SeP (S : Int → Int → Prop) (w x0 : Int) (fl : Nat → Int64) (fr : Int → Int) (n sp r : Int) : Prop := ((r = 1 ∧ sp = 0) ∨ (r = 0 ∧ ¬ sp = 0)) ∧ (w = 0 → Fnd S x0 1500 sp (LmF fl) n ∧ 0 ≤ n ∧ FaI fr n)
theorem se_e {S : Int → Int → Prop} {w x0 n sp r x : Int} {fl : Nat → Int64} {fr hd nx dn : Int → Int} (X : SkX S w x0 fl fr hd nx dn n sp) (hE : ¬ sp = 0 ∨ (x = -1 ∧ NrI dn x n)) (hr : (r = 1 ∧ sp = 0) ∨ (r = 0 ∧ ¬ sp = 0)) : SeP S w x0 fl fr n sp r := by
  refine ⟨hr, fun z => ?_⟩
  obtain ⟨⟨M, s, n5⟩, ⟨x1, x2, x3⟩, x4, x5, x6⟩ := X z
  refine ⟨?_, by omega, M.2⟩
  by_cases y : sp = 0
  · have hN := hE.resolve_left (fun q => q y)
    exact fnd_ok (dn := dn) ⟨x1, x2, x3, x4, x5 y⟩ (hN.2 hN.1) n5 y
  · obtain ⟨x, hx, hn⟩ := x6 y
    exact fnd_no x3 x4 (s y) hx hn y
theorem sk_fr {S : Int → Int → Prop} {w x0 n sp k z : Int} {fl : Nat → Int64} {fr hd nx dn : Int → Int} (X : SkX S w x0 fl fr hd nx dn n sp) (k0 : 0 ≤ k) (k1 : k < n) (hz : z = fr k) : FrP w z n := fun q => by
  have h := (X q).1.1.2 k k0 k1
  omega
theorem vx_of {D a : Int} {p : Int → Int} (h : Vd D p a) : VdX D (fun t => p t = 15) (cdS p a) := ⟨p, a, h, rfl, fun _ _ _ => Iff.rfl⟩
theorem sk_vc {n D cap rope nd mb w a0 sp m k b : Int} {K A W p0 g : Int → Int} {RK : (Int → Int) → Int → Prop} {fl : Nat → Int64} {fr hd nx dn : Int → Int} {u : Int64} (hn : 0 ≤ n ∧ n ≤ 7) (hD : D ≤ 11) (hv : Vd D p0 a0) (X : SkX (Sg n D cap K A W rope nd mb RK) w (cdS p0 a0) fl fr hd nx dn m sp) (k0 : 0 ≤ k) (k1 : k < m) (hu : u = fl k.toNat) (U : UnP u g b) : VcP w D g b ∧ (w = 0 → LmF fl k = cdS g b) := by
  have key : w = 0 → Vd D g b ∧ LmF fl k = cdS g b := by
    intro z
    have hr := (X z).2.2.1 k k0 k1
    obtain ⟨p, a, hV, e, _⟩ := rc_vd hn.1 hn.2 hD (vx_of hv) _ hr
    obtain ⟨e1, e2⟩ := U p a (vd_rg hD hV) (un_L hu e)
    refine ⟨⟨by rw [e2]; exact hV.1, fun t t0 t1 => by rw [e1 t t0 t1]; exact hV.2 t t0 t1⟩, ?_⟩
    rw [e]
    exact cd_ext (fun t t0 t1 => (e1 t t0 t1).symm) e2.symm
  exact ⟨fun z => (key z).1, fun z => (key z).2⟩
theorem sk_q {n D cap rope nd mb w k b m x0 : Int} {K A W g T : Int → Int} {RK : (Int → Int) → Int → Prop} {fl : Nat → Int64} (hn : 0 ≤ n ∧ n ≤ 7) (hD : D ≤ 11) (hV : VcP w D g b ∧ (w = 0 → LmF fl k = cdS g b)) (hT : ∀ t, 0 ≤ t → t < 7 → T t = g t) : w = 0 → (∀ j, 0 ≤ j → j < m → Rc (Sg n D cap K A W rope nd mb RK) x0 (LmF fl j)) → ∀ y, QG (fun t v => OpM (K t) (A t) (g t) b D v) (Qr n D cap W rope nd mb RK b) 0 n T y ↔ Sg n D cap K A W rope nd mb RK (LmF fl k) y := fun z _ y => by
  rw [sg_of hn.2 hD (hV.1 z) (hV.2 z)]
  exact qg_x (fun t t0 t1 _ => hT t t0 t1) (fun _ _ _ _ => Iff.rfl) (fun _ _ => Iff.rfl)
/-! what is left out; what can be come to -/
def fwF (w : Int) (p : Int → Int) : Int → Int := fun t => if bAnd (bShr w t) 1 = 1 then 15 else p t
theorem fw_y {w x x' s b : Int} {p g g' : Int → Int} (h : ∀ t, 0 ≤ t → t < x → g t = fwF w p t) (x0 : 0 ≤ x) (hs : s = bShr w x) (hb : b = bAnd s 1) (h1 : b = 1) (e : g' = uA g x 15) (hx : x' = x + 1) : ∀ t, 0 ≤ t → t < x' → g' t = fwF w p t := by
  intro t t0 t1
  rw [e]
  by_cases q : t = x
  · rw [q, uA_same]
    unfold fwF
    rw [← hs, ← hb, if_pos h1]
  · rw [uA_ne q]; exact h t t0 (by omega)
theorem fw_n {w x x' s b v : Int} {p g g' : Int → Int} (h : ∀ t, 0 ≤ t → t < x → g t = fwF w p t) (x0 : 0 ≤ x) (hs : s = bShr w x) (hb : b = bAnd s 1) (h1 : ¬ b = 1) (hv : v = p x) (e : g' = uA g x v) (hx : x' = x + 1) : ∀ t, 0 ≤ t → t < x' → g' t = fwF w p t := by
  intro t t0 t1
  rw [e]
  by_cases q : t = x
  · rw [q, uA_same]
    unfold fwF
    rw [← hs, ← hb, if_neg h1]; exact hv
  · rw [uA_ne q]; exact h t t0 (by omega)
theorem fw_vd {D w a : Int} {p g : Int → Int} (h : Vd D p a) (e : ∀ t, 0 ≤ t → t < 7 → g t = fwF w p t) : Vd D g a := by
  refine ⟨h.1, fun t t0 t1 => ?_⟩
  rw [e t t0 t1]
  unfold fwF
  by_cases q : bAnd (bShr w t) 1 = 1
  · rw [if_pos q]; omega
  · rw [if_neg q]; exact h.2 t t0 t1
def plc (x t : Int) : Int := if t = 0 then x / 16777216 % 16 else if t = 1 then x / 1048576 % 16 else if t = 2 then x / 65536 % 16 else if t = 3 then x / 4096 % 16 else if t = 4 then x / 256 % 16 else if t = 5 then x / 16 % 16 else x % 16
def dpc (x : Int) : Int := x / 268435456
theorem cd_seven (p : Int → Int) (a : Int) : cdS p a = 16 * (16 * (16 * (16 * (16 * (16 * (16 * a + p 0) + p 1) + p 2) + p 3) + p 4) + p 5) + p 6 := rfl
theorem plc_cd {p : Int → Int} {a t : Int} (h : RgZ p a) (t0 : 0 ≤ t) (t1 : t < 7) : plc (cdS p a) t = p t := by
  have h0 := h.2 0 (by decide) (by decide)
  have h1 := h.2 1 (by decide) (by decide)
  have h2 := h.2 2 (by decide) (by decide)
  have h3 := h.2 3 (by decide) (by decide)
  have h4 := h.2 4 (by decide) (by decide)
  have h5 := h.2 5 (by decide) (by decide)
  have h6 := h.2 6 (by decide) (by decide)
  have ha := h.1
  rw [cd_seven]
  have c : t = 0 ∨ t = 1 ∨ t = 2 ∨ t = 3 ∨ t = 4 ∨ t = 5 ∨ t = 6 := by omega
  rcases c with rfl | rfl | rfl | rfl | rfl | rfl | rfl
  · show _ / 16777216 % 16 = p 0; omega
  · show _ / 1048576 % 16 = p 1; omega
  · show _ / 65536 % 16 = p 2; omega
  · show _ / 4096 % 16 = p 3; omega
  · show _ / 256 % 16 = p 4; omega
  · show _ / 16 % 16 = p 5; omega
  · show _ % 16 = p 6; omega
theorem dpc_cd {p : Int → Int} {a : Int} (h : RgZ p a) : dpc (cdS p a) = a := by
  have h0 := h.2 0 (by decide) (by decide)
  have h1 := h.2 1 (by decide) (by decide)
  have h2 := h.2 2 (by decide) (by decide)
  have h3 := h.2 3 (by decide) (by decide)
  have h4 := h.2 4 (by decide) (by decide)
  have h5 := h.2 5 (by decide) (by decide)
  have h6 := h.2 6 (by decide) (by decide)
  rw [cd_seven]
  unfold dpc
  omega
/-- the DEPTH of a THING in a state, as a bit -/
def dbF (p b D : Int) : Int := if p < 12 then bShl 1 p else if p = 14 then 0 else bShl 1 (buD (p - 12) b D)
def dbM (t D x : Int) : Int := dbF (plc x t) (dpc x) D
def RcA (S : Int → Int → Prop) (x0 D t r : Int) : Prop := ∃ (L : Int → Int) (n sp : Int), Fnd S x0 1500 sp L n ∧ 0 ≤ n ∧ ((¬ sp = 0 ∧ r = -2) ∨ (sp = 0 ∧ r = og (fun i => dbM t D (L i)) n))
def RchP (sv : Prop) (r v : Int) (S : Int → Int → Prop) (x0 D t : Int) : Prop := (sv → r = v) ∧ (¬ sv → RcA S x0 D t r)
theorem rch_s {p A r x0 D t : Int} {S : Int → Int → Prop} (h : p = 14) (hs : svM p A) (hr : r = 0) : RchP (svM p A) r (if p = 14 then 0 else bShl 1 p) S x0 D t := ⟨fun _ => by rw [if_pos h]; exact hr, fun q => absurd hs q⟩
theorem rch_s2 {p A r z x0 D t : Int} {S : Int → Int → Prop} (h : ¬ p = 14) (hs : svM p A) (hr : r = bShl 1 z) (hz : z = p) : RchP (svM p A) r (if p = 14 then 0 else bShl 1 p) S x0 D t := ⟨fun _ => by rw [if_neg h, ← hz]; exact hr, fun q => absurd hs q⟩
theorem rch_x {sv : Prop} {v x0 a w n sp c r D t w0 : Int} {S : Int → Int → Prop} {p g fr : Int → Int} {fl : Nat → Int64} (hs : ¬ sv) (H : SeP S w0 (cdS g a) fl fr n sp c) (hw : w0 = 0) (e : ∀ t, 0 ≤ t → t < 7 → g t = fwF w p t) (hc : c = 0) (hr : r = -2) : RchP sv r v S (cdS (fwF w p) a) D t := by
  refine ⟨fun q => absurd q hs, fun _ => ?_⟩
  obtain ⟨h1, h2⟩ := H
  have h3 := h2 hw
  rw [cd_ext e rfl] at h3
  exact ⟨_, _, _, h3.1, h3.2.1, Or.inl ⟨by omega, hr⟩⟩
theorem rch_r {sv : Prop} {v x0 a w n sp c r D t w0 x : Int} {S : Int → Int → Prop} {p g fr : Int → Int} {fl : Nat → Int64} (hs : ¬ sv) (H : SeP S w0 (cdS g a) fl fr n sp c) (hw : w0 = 0) (e : ∀ t, 0 ≤ t → t < 7 → g t = fwF w p t) (hc : ¬ c = 0) (ho : r = og (fun i => dbM t D (LmF fl i)) x) (hx : x = n) : RchP sv r v S (cdS (fwF w p) a) D t := by
  refine ⟨fun q => absurd q hs, fun _ => ?_⟩
  obtain ⟨h1, h2⟩ := H
  have h3 := h2 hw
  rw [cd_ext e rfl] at h3
  exact ⟨_, _, _, h3.1, h3.2.1, Or.inr ⟨by omega, by rw [← hx]; exact ho⟩⟩
theorem db_u {n D cap rope nd mb w a0 sp m k b t c : Int} {K A W p0 g fr : Int → Int} {RK : (Int → Int) → Int → Prop} {fl : Nat → Int64} {u : Int64} (H : SeP (Sg n D cap K A W rope nd mb RK) w (cdS p0 a0) fl fr m sp c) (hw : w = 0) (hc : c = 1) (hn : 0 ≤ n ∧ n ≤ 7) (hD : D ≤ 11) (hv : Vd D p0 a0) (k0 : 0 ≤ k) (k1 : k < m) (hu : u = fl k.toNat) (U : UnP u g b) (ht : 0 ≤ t ∧ t < n) : dbM t D (LmF fl k) = dbF (g t) b D ∧ 0 ≤ g t ∧ g t ≤ 15 := by
  obtain ⟨h1, h2⟩ := H
  obtain ⟨f1, f2⟩ := (h2 hw).1
  have hr := ((f1 (by omega)).2.2 (LmF fl k)).mp ⟨k, k0, k1, rfl⟩
  obtain ⟨p, a, hV, e, _⟩ := rc_vd hn.1 hn.2 hD (vx_of hv) _ hr
  have hg := vd_rg hD hV
  obtain ⟨e1, e2⟩ := U p a hg (un_L hu e)
  unfold dbM
  rw [e, plc_cd hg ht.1 (by omega), dpc_cd hg, e1 t ht.1 (by omega), e2]
  exact ⟨rfl, hg.2 t ht.1 (by omega)⟩
theorem db_a {t D b x z1 z2 s : Int} {g : Int → Int} (h : x = dbF (g t) b D ∧ 0 ≤ g t ∧ g t ≤ 15) (h1 : z1 = g t) (h2 : z2 = g t) (hl : z1 < 12) (hs : s = bShl 1 z2) : s = x := by
  rw [h.1, hs, h2]
  unfold dbF
  rw [if_pos (by omega)]
theorem db_b {t D b x z1 z3 z4 i c s : Int} {g : Int → Int} (h : x = dbF (g t) b D ∧ 0 ≤ g t ∧ g t ≤ 15) (h1 : z1 = g t) (h3 : z3 = g t) (h4 : z4 = g t) (hi : i = bWr (z4 - 12)) (hc : c = buD i b D) (hl : ¬ z1 < 12) (hne : ¬ z3 = 14) (hs : s = bShl 1 c) : s = x := by
  rw [h.1, hs, hc, hi, bWr_eq ⟨by omega, by omega⟩, h4]
  unfold dbF
  rw [if_neg (by omega), if_neg (by omega)]
theorem db_c {t D b x z1 z3 : Int} {g : Int → Int} (h : x = dbF (g t) b D ∧ 0 ≤ g t ∧ g t ≤ 15) (h1 : z1 = g t) (h3 : z3 = g t) (hl : ¬ z1 < 12) (he : z3 = 14) : x = 0 := by
  rw [h.1]
  unfold dbF
  rw [if_neg (by omega), if_pos (by omega)]
/-! what is there on a DAY -/
theorem fd_st {g g' f : Int → Int} {x v n : Int} (h : ∀ t, 0 ≤ t → t < x → g t = 15 ∨ (t < n ∧ g t = f t)) (x0 : 0 ≤ x) (hv : v = 15 ∨ (x < n ∧ v = f x)) (e : g' = uA g x v) : ∀ t, 0 ≤ t → t < x + 1 → g' t = 15 ∨ (t < n ∧ g' t = f t) := by
  intro t t0 t1
  rw [e]
  by_cases q : t = x
  · rw [q, uA_same]; exact hv
  · rw [uA_ne q]; exact h t t0 (by omega)
