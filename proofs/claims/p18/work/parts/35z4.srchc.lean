/-! the class's search: what holds while it looks at one state -/
def hS (s : Int) : Int := bUshr (bWr (s * (-1640531535))) 22
def ckO (c : Int → Int) (k : Int) : Int := if k = -1 then -1 else c k
def BI (L c hd nx hp so : Int → Int) (n w k : Int) : Prop := (0 ≤ w ∧ 0 ≤ n ∧ n ≤ 1500 ∧ (k = -1 ∨ (0 ≤ k ∧ k < n))) ∧ ChI hS L hd nx n 1024 ∧ (∀ f, 0 ≤ f → f < 1024 → -1 ≤ hd f ∧ hd f < n) ∧ (∀ t, 0 ≤ t → t < n → -1 ≤ nx t ∧ nx t < t) ∧ HpB hp so w n ∧ HpO hp c w ∧ (∀ i, 0 ≤ i → i < n → 0 ≤ c i ∧ c i ≤ i ∧ c i ≤ ckO c k + 1) ∧ ∀ p, 0 ≤ p → p < w → ckO c k ≤ c (hp p)
def BRel (c pa hp : Int → Int) (n w : Int) (c' pa' hp' : Int → Int) (n' w' k : Int) : Prop := n' - w' = n - w ∧ (∀ i, 0 ≤ i → i < n → c' i = c i ∧ pa' i = pa i) ∧ (∀ i, n ≤ i → i < n' → pa' i = k) ∧ (∀ i, 0 ≤ i → i < n → (Wt hp' w' i ↔ Wt hp w i)) ∧ ∀ i, n ≤ i → i < n' → Wt hp' w' i
def BR (bh : Int) (L c pa hd nx hp so : Int → Int) (n w sp : Int) (L' c' pa' hd' nx' hp' so' : Int → Int) (n' w' sp' k : Int) (Q : Int → Prop) : Prop := bh = 0 → BI L c hd nx hp so n w k → (¬ sp = 0 → n = 1500) → (BI L' c' hd' nx' hp' so' n' w' k ∧ (¬ sp' = 0 → n' = 1500) ∧ BRel c pa hp n w c' pa' hp' n' w' k) ∧ Ad 1500 (fun i => cdC (L i)) n sp (fun i => cdC (L' i)) n' sp' Q
theorem br_rel {c pa hp : Int → Int} {n w k : Int} : BRel c pa hp n w c pa hp n w k := ⟨rfl, fun _ _ _ => ⟨rfl, rfl⟩, fun i a b => absurd b (by omega), fun _ _ _ => Iff.rfl, fun i a b => absurd b (by omega)⟩
theorem br_no {bh n w sp k : Int} {L c pa hd nx hp so : Int → Int} {Q : Int → Prop} (h : ∀ y, ¬ Q y) : BR bh L c pa hd nx hp so n w sp L c pa hd nx hp so n w sp k Q := fun _ B hs => ⟨⟨B, hs, br_rel⟩, adx_no h⟩
theorem br_sp {bh n w sp k : Int} {L c pa hd nx hp so : Int → Int} {Q : Int → Prop} (h : ¬ sp = 0) : BR bh L c pa hd nx hp so n w sp L c pa hd nx hp so n w sp k Q := fun _ B hs => ⟨⟨B, hs, br_rel⟩, ad_sp h h (fun _ _ _ => rfl)⟩
theorem br_bh {bh n w sp k n' w' sp' : Int} {L c pa hd nx hp so L' c' pa' hd' nx' hp' so' : Int → Int} {Q : Int → Prop} (h : ¬ bh = 0) : BR bh L c pa hd nx hp so n w sp L' c' pa' hd' nx' hp' so' n' w' sp' k Q := fun z => absurd z h
theorem br_q {bh n w sp k n' w' sp' : Int} {L c pa hd nx hp so L' c' pa' hd' nx' hp' so' : Int → Int} {Q Q' : Int → Prop} (h : BR bh L c pa hd nx hp so n w sp L' c' pa' hd' nx' hp' so' n' w' sp' k Q) (e : bh = 0 → ∀ y, Q y ↔ Q' y) : BR bh L c pa hd nx hp so n w sp L' c' pa' hd' nx' hp' so' n' w' sp' k Q' := fun z B hs => ⟨(h z B hs).1, ad_q (h z B hs).2 (e z)⟩
theorem br_tr {bh n w sp k n1 w1 sp1 n2 w2 sp2 : Int} {L c pa hd nx hp so L1 c1 pa1 hd1 nx1 hp1 so1 L2 c2 pa2 hd2 nx2 hp2 so2 : Int → Int} {Q1 Q2 : Int → Prop} (h : BR bh L c pa hd nx hp so n w sp L1 c1 pa1 hd1 nx1 hp1 so1 n1 w1 sp1 k Q1) (q : BR bh L1 c1 pa1 hd1 nx1 hp1 so1 n1 w1 sp1 L2 c2 pa2 hd2 nx2 hp2 so2 n2 w2 sp2 k Q2) : BR bh L c pa hd nx hp so n w sp L2 c2 pa2 hd2 nx2 hp2 so2 n2 w2 sp2 k (fun y => Q1 y ∨ Q2 y) := by
  intro z B hs
  obtain ⟨⟨B1, s1, r1, r2, r3, r4, r5⟩, A1⟩ := h z B hs
  obtain ⟨⟨B2, s2, t1, t2, t3, t4, t5⟩, A2⟩ := q z B1 s1
  have hn0 := B.1.2.1
  have hm := A1.1
  have hm2 := A2.1
  refine ⟨⟨B2, s2, by omega, fun i a b => ?_, fun i a b => ?_, fun i a b => ?_, fun i a b => ?_⟩, ad_tr hn0 A1 A2⟩
  · have u := r2 i a b
    have v := t2 i a (by omega)
    exact ⟨v.1.trans u.1, v.2.trans u.2⟩
  · by_cases y : i < n1
    · exact (t2 i (by omega) y).2.trans (r3 i a y)
    · exact t3 i (by omega) b
  · exact (t4 i a (by omega)).trans (r4 i a b)
  · by_cases y : i < n1
    · exact (t4 i (by omega) y).mpr (r5 i a y)
    · exact t5 i (by omega) b
/-! a state comes: found, too many, or new -/
def ArW (bh : Int) (L c hd nx hp so : Int → Int) (n w k v x : Int) : Prop := bh = 0 → BI L c hd nx hp so n w k → ChW hS L n v x
theorem ar_0 {bh n w k v x f : Int} {L c hd nx hp so : Int → Int} (hf : f = hS v) (hx : x = hd f) : ArW bh L c hd nx hp so n w k v x := by
  intro _ B
  have r := ush22 (bWr (v * (-1640531535)))
  exact chw_0 B.2.1 hf (by rw [hf]; exact r.1) (by rw [hf]; exact r.2) hx
def ArB (bh : Int) (L c hd nx hp so : Int → Int) (n w k x i : Int) : Prop := bh = 0 → BI L c hd nx hp so n w k → x + i < n
theorem ab_0 {bh n w k x f v i : Int} {L c hd nx hp so : Int → Int} (hf : f = hS v) (hx : x = hd f) (hi : i = 0) : ArB bh L c hd nx hp so n w k x i := by
  intro _ B
  have r := ush22 (bWr (v * (-1640531535)))
  have h := B.2.2.1 f (by rw [hf]; exact r.1) (by rw [hf]; exact r.2)
  omega
theorem ab_s {bh n w k x x' i i' : Int} {L c hd nx hp so : Int → Int} (h : ArB bh L c hd nx hp so n w k x i) (x0 : 0 ≤ x) (i0 : 0 ≤ i) (hx : x' = nx x) (hi : i' = i + 1) : ArB bh L c hd nx hp so n w k x' i' := by
  intro z B
  have a := h z B
  have b := B.2.2.2.1 x x0 (by omega)
  omega
theorem ar_s {bh n w k v x x' z i : Int} {L c hd nx hp so : Int → Int} (h : ArW bh L c hd nx hp so n w k v x) (hb : ArB bh L c hd nx hp so n w k x i) (x0 : 0 ≤ x) (i0 : 0 ≤ i) (hz : z = L x) (hne : ¬ z = v) (hx : x' = nx x) : ArW bh L c hd nx hp so n w k v x' := fun y B => chw_s B.2.1 (h y B) x0 (by have := hb y B; omega) (by rw [← hz]; exact hne) hx
/-- the cost that comes with it -/
def ArC (c : Int → Int) (k m cst : Int) : Prop := (k = -1 ∧ cst = 0) ∨ (¬ k = -1 ∧ cst = bWr (c k + m))
theorem ac_v {n w k m cst : Int} {L c hd nx hp so : Int → Int} (B : BI L c hd nx hp so n w k) (h : ArC c k m cst) (hm : m = 1 ∨ k = -1) : cst = ckO c k + 1 ∧ 0 ≤ cst ∧ cst ≤ n := by
  obtain ⟨b1, b2, b3, b4, b5, b6, b7, b8⟩ := B
  unfold ckO
  rcases h with ⟨e, h⟩ | ⟨e, h⟩
  · rw [if_pos e]; omega
  · rw [if_neg e]
    have hk : 0 ≤ k ∧ k < n := b1.2.2.2.resolve_left e
    have hc := b7 k hk.1 hk.2
    rw [h, hm.resolve_right e, bWr_eq ⟨by omega, by omega⟩]
    omega
theorem ar_found {bh n w sp k v x z i : Int} {L c pa hd nx hp so : Int → Int} (hb : ArB bh L c hd nx hp so n w k x i) (x0 : 0 ≤ x) (i0 : 0 ≤ i) (h : 1500 ≤ i ∨ (z = L x ∧ z = v)) : BR bh L c pa hd nx hp so n w sp L c pa hd nx hp so n w sp k (fun y => y = cdC v) := by
  intro y B hs
  have h1 := hb y B
  have hn := B.1.2.2.1
  have h2 : z = L x ∧ z = v := h.resolve_left (by omega)
  exact ⟨⟨B, hs, br_rel⟩, ad_in (fun u hu => ⟨x, x0, by omega, by show cdC (L x) = u; rw [hu, ← h2.1, h2.2]⟩)⟩
theorem ar_dear {bh n w sp k v x z i m cst : Int} {n' w' sp' : Int} {L c pa hd nx hp so L' c' pa' hd' nx' hp' so' : Int → Int} {Q : Int → Prop} (hm : bh = 0 → m = 1 ∨ k = -1) (hb : ArB bh L c hd nx hp so n w k x i) (x0 : 0 ≤ x) (i0 : 0 ≤ i) (hc : ArC c k m cst) (hz : z = c x) (hlt : cst < z) : BR bh L c pa hd nx hp so n w sp L' c' pa' hd' nx' hp' so' n' w' sp' k Q := by
  intro y B hs
  have h1 := hb y B
  have h2 := (ac_v B hc (hm y)).1
  have h3 := B.2.2.2.2.2.2.1 x x0 (by omega)
  omega
theorem cd_nin {n v : Int} {L : Int → Int} (hv : inR v) (hL : ∀ t, inR (L t)) (h : ¬ InL L n v) : ¬ InL (fun i => cdC (L i)) n (cdC v) := by
  rintro ⟨i, a, b, e⟩
  exact h ⟨i, a, b, cdC_inj (hL i) hv e⟩
theorem ar_full {bh n w sp sp' k v x : Int} {L c pa hd nx hp so : Int → Int} (hv : inR v) (hL : ∀ t, inR (L t)) (hW : ArW bh L c hd nx hp so n w k v x) (hx : x = -1) (hn : ¬ n < 1500) (hsp : sp' = 1) : BR bh L c pa hd nx hp so n w sp L c pa hd nx hp so n w sp' k (fun y => y = cdC v) := by
  intro y B hs
  have hN := cd_nin hv hL (chw_n (hW y B) (by omega))
  have hn5 := B.1.2.2.1
  refine ⟨⟨B, fun _ => by omega, br_rel⟩, ?_⟩
  by_cases z : sp = 0
  · exact ad_full z (by omega) hN (by omega) (fun _ _ _ => rfl)
  · exact ad_sp z (by omega) (fun _ _ _ => rfl)
theorem ar_new {bh n w sp k v x f z m cst n' w' i1 i2 i3 i4 i5 i6 : Int} {L c pa hd nx hp so L' c' pa' hd' nx' so1 hp' so' : Int → Int} (hv : inR v) (hL : ∀ t, inR (L t)) (hm : bh = 0 → m = 1 ∨ k = -1) (hW : ArW bh L c hd nx hp so n w k v x) (hx : x = -1) (hn : n < 1500) (hf : f = hS v) (hc : ArC c k m cst) (e3 : L' = uA L i1 v) (ez : z = hd f) (e8 : nx' = uA nx i2 z) (e7 : hd' = uA hd f i3) (e10 : so1 = uA so i4 w) (e4 : c' = uA c i5 cst) (e5 : pa' = uA pa i6 k) (hR : (∀ p, 0 ≤ p → p < so1 n → c' (hp p) ≤ c' n) → hp' = uA hp (so1 n) n ∧ so' = uA so1 n (so1 n)) (hn' : n' = n + 1) (hw' : w' = w + 1) (h1 : i1 = n) (h2 : i2 = n) (h3 : i3 = n) (h4 : i4 = n) (h5 : i5 = n) (h6 : i6 = n) : BR bh L c pa hd nx hp so n w sp L' c' pa' hd' nx' hp' so' n' w' sp k (fun y => y = cdC v) := by
  intro y B hs
  have hsp : sp = 0 := Classical.byContradiction (fun q => by have := hs q; omega)
  have hN := chw_n (hW y B) (by omega)
  have hC := ac_v B hc (hm y)
  obtain ⟨b1, b2, b3, b4, b5, b6, b7, b8⟩ := B
  have r := ush22 (bWr (v * (-1640531535)))
  have f0 : 0 ≤ f := by rw [hf]; exact r.1
  have f1 : f < 1024 := by rw [hf]; exact r.2
  rw [h1] at e3; rw [h2] at e8; rw [h3] at e7; rw [h4] at e10; rw [h5] at e4; rw [h6] at e5
  clear h1 h2 h3 h4 h5 h6
  have c_o : ∀ i, 0 ≤ i → i < n → c' i = c i := fun i a b => by rw [e4]; exact uA_ne (by omega)
  have c_n : c' n = cst := by rw [e4]; exact uA_same
  have s_n : so1 n = w := by rw [e10]; exact uA_same
  have ck : ckO c' k = ckO c k := by
    unfold ckO
    by_cases q : k = -1
    · rw [if_pos q, if_pos q]
    · rw [if_neg q, if_neg q]
      exact c_o k (by omega) (by omega)
  have hle : ∀ p, 0 ≤ p → p < w → c (hp p) ≤ cst := fun p p0 p1 => by
    have hb := b5 p p0 p1
    have := (b7 _ hb.1 hb.2.1).2.2
    omega
  obtain ⟨eh, es⟩ := hR (fun p p0 p1 => by
    rw [s_n] at p1
    have hb := b5 p p0 p1
    rw [c_o _ hb.1 hb.2.1, c_n]
    exact hle p p0 p1)
  rw [s_n] at eh es
  have L_o : ∀ i, 0 ≤ i → i < n → L' i = L i := fun i a b => by rw [e3]; exact uA_ne (by omega)
  have L_n : L' n = v := by rw [e3]; exact uA_same
  have hH := hp_new (hp' := hp') (so' := so') (c' := c') b5 b6 b1.1 b1.2.1 eh (fun i a b => by rw [es, uA_ne (by omega), e10]; exact uA_ne (by omega)) (by rw [es]; exact uA_same) c_o (fun p p0 p1 => by rw [c_n]; exact hle p p0 p1)
  have hz := b3 f f0 f1
  subst hn' hw'
  refine ⟨⟨⟨by omega, ch_new b2 b1.2.1 hf f0 f1 L_o L_n ez e8 e7 b3 b4, fun g g0 g1 => ?_, fun t t0 t1 => ?_, hH.1, hH.2, fun i a b => ?_, fun p p0 p1 => ?_⟩, fun q => absurd hsp q, by omega, fun i a b => ⟨c_o i a b, by rw [e5]; exact uA_ne (by omega)⟩, fun i a b => ?_, fun i a b => ?_, fun i a b => ?_⟩, ?_⟩
  · rw [e7]
    by_cases q : g = f
    · rw [q, uA_same]; omega
    · rw [uA_ne q]
      have := b3 g g0 g1
      omega
  · rw [e8]
    by_cases q : t = n
    · rw [q, uA_same]; omega
    · rw [uA_ne q]; exact b4 t t0 (by omega)
  · rw [ck]
    by_cases q : i = n
    · rw [q, c_n]; omega
    · rw [c_o i a (by omega)]; exact b7 i a (by omega)
  · rw [ck, eh]
    by_cases q : p = w
    · rw [q, uA_same, c_n]; omega
    · rw [uA_ne q]
      have hb := b5 p p0 (by omega)
      rw [c_o _ hb.1 hb.2.1]
      exact b8 p p0 (by omega)
  · rw [e5, show i = n by omega]; exact uA_same
  · rw [wt_new b1.1 eh]
    exact ⟨fun q => q.resolve_right (by omega), Or.inl⟩
  · exact (wt_new b1.1 eh).mpr (Or.inr (by omega))
  · exact ad_new hsp b1.2.1 hn (cd_nin hv hL hN) (fun i a b => by show cdC (L' i) = cdC (L i); rw [L_o i a b]) (by show cdC (L' n) = cdC v; rw [L_n])
/-! doors: which buckets a THING could ride in next -/
def DrP (v : Int) (A B : Prop) : Prop := (v = 0 ∧ ¬ A ∧ ¬ B) ∨ (v = 1 ∧ A ∧ ¬ B) ∨ (v = 2 ∧ ¬ A ∧ B) ∨ (v = 3 ∧ A ∧ B)
def ODr (P : Int → Prop) (v x : Int) : Prop := (x = 0 → v = 0) ∧ (x = 1 → (v = 1 ∧ P 0) ∨ (v = 0 ∧ ¬ P 0)) ∧ (x = 2 → DrP v (P 0) (P 1))
theorem od_0 {P : Int → Prop} {v x : Int} (hx : x = 0) (hv : v = 0) : ODr P v x := ⟨fun _ => hv, fun z => by omega, fun z => by omega⟩
theorem od_v : bOr 0 (bShl 1 0) = 1 ∧ bOr 0 (bShl 1 1) = 2 ∧ bOr 1 (bShl 1 1) = 3 := by decide +kernel
theorem od_y {P : Int → Prop} {v x s v' x' : Int} (h : ODr P v x) (x0 : 0 ≤ x) (x1 : x < 2) (hp : P x) (hs : s = bShl 1 x) (hv : v' = bOr v s) (hx : x' = x + 1) : ODr P v' x' := by
  obtain ⟨a, b, c⟩ := h
  obtain ⟨o1, o2, o3⟩ := od_v
  by_cases q : x = 0
  · have hv0 := a q
    rw [hs, q, hv0, o1] at hv
    rw [q] at hp
    exact ⟨fun z => by omega, fun _ => Or.inl ⟨hv, hp⟩, fun z => by omega⟩
  · have q1 : x = 1 := by omega
    rw [hs, q1] at hv
    rw [q1] at hp
    rcases b q1 with ⟨u, w⟩ | ⟨u, w⟩
    · rw [u, o3] at hv
      exact ⟨fun z => by omega, fun z => by omega, fun _ => Or.inr (Or.inr (Or.inr ⟨hv, w, hp⟩))⟩
    · rw [u, o2] at hv
      exact ⟨fun z => by omega, fun z => by omega, fun _ => Or.inr (Or.inr (Or.inl ⟨hv, w, hp⟩))⟩
theorem od_n {P : Int → Prop} {v x v' x' : Int} (h : ODr P v x) (x0 : 0 ≤ x) (x1 : x < 2) (hp : ¬ P x) (hv : v' = v) (hx : x' = x + 1) : ODr P v' x' := by
  obtain ⟨a, b, c⟩ := h
  subst hv
  by_cases q : x = 0
  · have hv0 := a q
    rw [q] at hp
    exact ⟨fun z => by omega, fun _ => Or.inr ⟨hv0, hp⟩, fun z => by omega⟩
  · have q1 : x = 1 := by omega
    rw [q1] at hp
    rcases b q1 with ⟨u, w⟩ | ⟨u, w⟩
    · exact ⟨fun z => by omega, fun z => by omega, fun _ => Or.inr (Or.inl ⟨u, w, hp⟩)⟩
    · exact ⟨fun z => by omega, fun z => by omega, fun _ => Or.inl ⟨u, w, hp⟩⟩
theorem dr_b : bAnd 0 1 = 0 ∧ ¬ bAnd 1 1 = 0 ∧ bAnd 2 1 = 0 ∧ ¬ bAnd 3 1 = 0 ∧ bAnd 0 2 = 0 ∧ bAnd 1 2 = 0 ∧ ¬ bAnd 2 2 = 0 ∧ ¬ bAnd 3 2 = 0 := by decide +kernel
theorem dr_1 {v : Int} {A B : Prop} (h : DrP v A B) : (¬ bAnd v 1 = 0 ↔ A) ∧ (¬ bAnd v 2 = 0 ↔ B) := by
  obtain ⟨a, b, c, d, e, f, g, i⟩ := dr_b
  rcases h with ⟨rfl, x, y⟩ | ⟨rfl, x, y⟩ | ⟨rfl, x, y⟩ | ⟨rfl, x, y⟩
  · exact ⟨⟨fun z => absurd a z, fun z => absurd z x⟩, ⟨fun z => absurd e z, fun z => absurd z y⟩⟩
  · exact ⟨⟨fun _ => x, fun _ => b⟩, ⟨fun z => absurd f z, fun z => absurd z y⟩⟩
  · exact ⟨⟨fun z => absurd c z, fun z => absurd z x⟩, ⟨fun _ => y, fun _ => g⟩⟩
  · exact ⟨⟨fun _ => x, fun _ => d⟩, ⟨fun _ => y, fun _ => i⟩⟩
theorem plo_r {p k a d D : Int} (hp : 0 ≤ p ∧ p ≤ 15) (hd : 0 ≤ d ∧ d ≤ D) (hD : D ≤ 11) : (0 ≤ plO p k a d D ∧ plO p k a d D ≤ 15) ∧ ¬ plO p k a d D = 12 ∧ ¬ plO p k a d D = 13 := by
  have hb := buD_r (b := p - 12) (d := d) (D := D) ⟨hd.1, by omega⟩ ⟨by omega, hD⟩
  unfold plO
  by_cases q : p = 12 ∨ p = 13
  · rw [if_pos q, hb]
    by_cases y : p - 12 = 0
    · rw [if_pos y]
      by_cases x : k = 3 ∧ d = a
      · rw [if_pos x]; omega
      · rw [if_neg x]; omega
    · rw [if_neg y]
      by_cases x : k = 3 ∧ D - d = a
      · rw [if_pos x]; omega
      · rw [if_neg x]; omega
  · rw [if_neg q]; omega
def EmI (s r : Int) (K A dr : Int → Int) (D t : Int) : Prop := (∀ u, 0 ≤ u → u < t → nb r u = plO (nb s u) (K u) (A u) (dp s) D ∧ DrP (dr u) (drC (nb s u) (A u) (dp s) D 0) (drC (nb s u) (A u) (dp s) D 1)) ∧ (∀ u, t ≤ u → u ≤ 6 → nb r u = nb s u) ∧ dp r = dp s
theorem em_0 {s r t D : Int} {K A dr : Int → Int} (hr : r = s) (ht : t = 0) : EmI s r K A dr D t := by
  subst hr
  exact ⟨fun u a b => absurd b (by omega), fun _ _ _ => rfl, rfl⟩
theorem em_s {s r r' t t' D x v : Int} {K A dr dr' : Int → Int} (h : EmI s r K A dr D t) (t0 : 0 ≤ t) (t6 : t ≤ 6) (hd : 0 ≤ dp s ∧ dp s ≤ D) (hD : D ≤ 11) (hx : x = plO (nb s t) (K t) (A t) (dp s) D) (hr : r' = putS r t x) (hv : ODr (fun b => drC (nb s t) (A t) (dp s) D b) v 2) (e : dr' = uA dr t v) (ht : t' = t + 1) : EmI s r' K A dr' D t' := by
  obtain ⟨a, b, c⟩ := h
  have hp := (plo_r (k := K t) (a := A t) (nb_r s t) hd hD).1
  rw [← hx] at hp
  subst hr e ht
  refine ⟨fun u u0 u1 => ?_, fun u u0 u1 => ?_, by rw [dp_put t0 t6 hp.1 hp.2]; exact c⟩
  · by_cases q : u = t
    · rw [q, nb_same t0 t6 hp.1 hp.2, uA_same]
      exact ⟨hx, hv.2.2 rfl⟩
    · rw [nb_else t0 t6 hp.1 hp.2 u0 (by omega) q, uA_ne q]
      exact a u u0 (by omega)
  · rw [nb_else t0 t6 hp.1 hp.2 (by omega) u1 (by omega)]
    exact b u (by omega) u1
theorem dep_k {x k : Int} {R : Prop} (h : (x = 1 ∧ R) ∨ (x = 0 ∧ ¬ R)) (q : (k = 3 ∧ ¬ x = 0) ∨ (k = 1 ∧ x = 0)) : (k = 3 ∧ R) ∨ (k = 1 ∧ ¬ R) := by
  rcases h with ⟨a, b⟩ | ⟨a, b⟩
  · exact Or.inl ⟨by omega, b⟩
  · exact Or.inr ⟨by omega, b⟩
theorem kp_t {b : Bool} (h : ¬ b = false) : b = true := by
  cases b with
  | false => exact absurd rfl h
  | true => rfl
/-! ladings one after another -/
def OpD (dr T : Int → Int) (t v : Int) : Prop := (v = T t ∨ (¬ bAnd (dr t) 1 = 0 ∧ v = 12)) ∨ (¬ bAnd (dr t) 2 = 0 ∧ v = 13)
theorem od_x {dr T T' : Int → Int} {i n : Int} (i0 : 0 ≤ i) (n7 : n ≤ 7) (hT : ∀ t, 0 ≤ t → t < 7 → ¬ t = i → T' t = T t) : ∀ t v, i + 1 ≤ t → t < n → (OpD dr T' t v ↔ OpD dr T t v) := by
  intro t v a b
  unfold OpD
  rw [hT t (by omega) (by omega) (by omega)]
/-- more than CAP can't ride -/
theorem ld_cap {dr T W : Int → Int} {n D cap rope nd mb a i b w : Int} {RK : (Int → Int) → Int → Prop} (hW : WtP n W) (i0 : 0 ≤ i) (hi : i < n) (n7 : n ≤ 7) (hb : b = 0 ∨ b = 1) (hw : w = gs (lc T W b) i) {x : Int} (hx : x = 12 + b) (hc : cap < w + W i) : ∀ y, ¬ QG (OpD dr T) (Qr n D cap W rope nd mb RK a) (i + 1) n (uA T i x) y := by
  subst hx
  rintro y ⟨z, h1, _, ⟨k0, k1⟩, _⟩
  have e : gs (lc z W b) i = w := by
    rw [hw]
    exact lc_ext (fun t t0 t1 => (h1 t t0 (by omega) (Or.inl (by omega))).trans (uA_ne (by omega))) (fun _ _ _ => rfl)
  have hz : z i = 12 + b := by
    have h9 := h1 i i0 (by omega) (Or.inl (by omega))
    rwa [uA_same] at h9
  have s := gs_s (c := lc z W b) (v := w) (x := i) (x' := i + 1) (v' := bWr (w + W i)) e.symm i0 (lc_y hz rfl) rfl rfl
  have g1 := gs_le (b := b) (z := z) hW i0 (by omega) n7
  have g2 := gs_le (i := i + 1) (b := b) (z := z) hW (by omega) (by omega) n7
  have hwi := hW i i0 hi
  rw [e] at g1
  rw [bWr_eq ⟨by omega, by omega⟩] at s
  rcases hb with hb | hb
  · rw [hb] at s g2; omega
  · rw [hb] at s g2; omega
/-- the sum of a bucket with one more THING -/
theorem lw_y {T T' W : Int → Int} {i i' b w v w' : Int} (hw : w = gs (lc T W b) i) (i0 : 0 ≤ i) (hT : ∀ t, 0 ≤ t → t < i → T' t = T t) (hi : T' i = 12 + b) (hv : v = W i) (hs : w' = bWr (w + v)) (hx : i' = i + 1) : w' = gs (lc T' W b) i' := gs_s (hw.trans (lc_ext (fun t t0 t1 => (hT t t0 t1).symm) (fun _ _ _ => rfl))) i0 (lc_y hi hv) hs hx
theorem lw_n {T T' W : Int → Int} {i i' b w : Int} (hw : w = gs (lc T W b) i) (i0 : 0 ≤ i) (hT : ∀ t, 0 ≤ t → t < i → T' t = T t) (hi : ¬ T' i = 12 + b) (hx : i' = i + 1) : w = gs (lc T' W b) i' := by
  subst hx
  rw [gs_z i0 (if_neg hi)]
  exact hw.trans (lc_ext (fun t t0 t1 => (hT t t0 t1).symm) (fun _ _ _ => rfl))
theorem wsum {n i b a w z : Int} {T W : Int → Int} (h : WtP n W) (i0 : 0 ≤ i) (hi : i < n) (n7 : n ≤ 7) (hw : w = W i) (ha : a = gs (lc T W b) i) (hz : z = bWr (a + w)) : z = a + w ∧ 0 ≤ a ∧ a ≤ 693 := by
  have g := gs_le (b := b) (z := T) h i0 (by omega) n7
  have hwi := h i i0 hi
  rw [← ha] at g
  rw [hz, bWr_eq ⟨by omega, by omega⟩]
  omega
theorem put_nb {s c t p : Int} (hc : c = putS s t p) (t0 : 0 ≤ t) (t6 : t ≤ 6) (p0 : 0 ≤ p) (p1 : p ≤ 15) : nb c t = p ∧ (∀ u, 0 ≤ u → u ≤ 6 → ¬ u = t → nb c u = nb s u) ∧ dp c = dp s := by
  rw [hc]
  exact ⟨nb_same t0 t6 p0 p1, fun u u0 u6 q => nb_else t0 t6 p0 p1 u0 u6 q, dp_put t0 t6 p0 p1⟩
theorem put_uA {s c t p : Int} (h : nb c t = p ∧ (∀ u, 0 ≤ u → u ≤ 6 → ¬ u = t → nb c u = nb s u) ∧ dp c = dp s) {n i' : Int} : ∀ u, 0 ≤ u → u < 7 → (u < i' ∨ n ≤ u) → nb c u = uA (nb s) t p u := by
  intro u u0 u1 _
  by_cases q : u = t
  · rw [q, uA_same]; exact h.1
  · rw [uA_ne q]; exact h.2.1 u u0 (by omega) q
theorem uA_id {T : Int → Int} {i n i' : Int} : ∀ u, 0 ≤ u → u < 7 → (u < i' ∨ n ≤ u) → T u = uA T i (T i) u := by
  intro u _ _ _
  by_cases q : u = i
  · rw [q, uA_same]
  · rw [uA_ne q]
theorem lad_n {z z' : Int → Int} {i g : Int} {k : Nat} (hk : i = (k : Int)) (h : g = ladN z k) (hz : ∀ t, 0 ≤ t → t < i → z' t = z t) (h12 : ¬ z' i = 12) (h13 : ¬ z' i = 13) : g = ladN z' (k + 1) := lad_s (w := 0) (d := 0) hk h hz (by have := dgt_c (z' i); omega) (Int.zero_mul _).symm (Int.add_zero _).symm
theorem ld_l {z a b i n : Int} {T W : Int → Int} (hz : z = bWr (a - b)) (ha : a = gs (lc T W 0) i) (hb : b = gs (lc T W 1) i) (hi : i = n) : z = bWr (gs (lc T W 0) n - gs (lc T W 1) n) := by
  rw [hz, ha, hb, hi]
theorem cap_of {n i a b cap : Int} {T W : Int → Int} (ha : a = gs (lc T W 0) i) (hb : b = gs (lc T W 1) i) (h1 : a ≤ cap) (h2 : b ≤ cap) (hi : i = n) : CapP n cap W T := by
  subst hi
  exact ⟨by rw [← ha]; exact h1, by rw [← hb]; exact h2⟩
/-! bounds that hold whatever is searched -/
def HbA (hp : Int → Int) (w n : Int) : Prop := ∀ p, 0 ≤ p → p < w → hp p < n
def HbB (hp : Int → Int) (w n x : Int) : Prop := ∀ p, 0 ≤ p → p < w → ¬ p = x → hp p < n
theorem hb_b {hp : Int → Int} {w n x : Int} (h : HbA hp w n) : HbB hp w n x := fun p p0 p1 _ => h p p0 p1
theorem hb_n {hp so so' : Int → Int} {w n w' n' x i : Int} (h : HbA hp w n) (e : so' = uA so i w) (hi : i = n) (hw : w' = w + 1) (hn : n' = n + 1) (hx : x = so' n) : HbB hp w' n' x := by
  intro p p0 p1 hp
  rw [hx, e, hi, uA_same] at hp
  have := h p p0 (by omega)
  omega
theorem hb_mv {hp hp' : Int → Int} {w n x x' a : Int} (h : HbB hp w n x) (x0 : 0 ≤ x') (hx : x' < x) (ha : a = hp x') (e : hp' = uA hp x a) : HbB hp' w n x' := by
  intro p p0 p1 hne
  rw [e]
  by_cases q : p = x
  · rw [q, uA_same, ha]
    exact h x' x0 (by omega) (by omega)
  · rw [uA_ne q]; exact h p p0 p1 q
theorem hb_set {hp hp' : Int → Int} {w n x a : Int} (h : HbB hp w n x) (e : hp' = uA hp x a) (ha : a < n) : HbA hp' w n := by
  intro p p0 p1
  rw [e]
  by_cases q : p = x
  · rw [q, uA_same]; exact ha
  · rw [uA_ne q]; exact h p p0 p1 q
theorem hb_le {hp : Int → Int} {w n w' n' : Int} (h : HbA hp w n) (hw : w' ≤ w) (hn : n ≤ n') : HbA hp w' n' := fun p p0 p1 => by
  have := h p p0 (by omega)
  omega
theorem hb_cp {hp hp' : Int → Int} {w n x y a : Int} (h : HbA hp w n) (y0 : 0 ≤ y) (hy : y < w) (ha : a = hp y) (e : hp' = uA hp x a) : HbA hp' w n := by
  intro p p0 p1
  rw [e]
  by_cases q : p = x
  · rw [q, uA_same, ha]; exact h y y0 hy
  · rw [uA_ne q]; exact h p p0 p1
/-- links lead to what is there -/
def HdA (hd nx : Int → Int) (n : Int) : Prop := (∀ f, 0 ≤ f → f < 1024 → hd f < n) ∧ ∀ t, 0 ≤ t → t < n → nx t < n
def HbX (hp hd nx : Int → Int) (w n : Int) : Prop := HbA hp w n ∧ HdA hd nx n
theorem hda_0 {hd nx : Int → Int} (h : ∀ f, 0 ≤ f → f < 1024 → hd f = -1) : HdA hd nx 0 := ⟨fun f f0 f1 => by rw [h f f0 f1]; decide, fun t t0 t1 => absurd t1 (by omega)⟩
theorem hd_n {hd nx hd' nx' : Int → Int} {n f z i j n' : Int} (h : HdA hd nx n) (hz : z = hd f) (hf : 0 ≤ f ∧ f < 1024) (e1 : nx' = uA nx i z) (e2 : hd' = uA hd f j) (hi : i = n) (hj : j = n) (hn : n' = n + 1) : HdA hd' nx' n' := by
  have hzz := h.1 f hf.1 hf.2
  rw [e1, e2, hi, hj, hn]
  refine ⟨fun g g0 g1 => ?_, fun t t0 t1 => ?_⟩
  · by_cases q : g = f
    · rw [q, uA_same]; omega
    · rw [uA_ne q]
      have := h.1 g g0 g1
      omega
  · by_cases q : t = n
    · rw [q, uA_same]; omega
    · rw [uA_ne q]
      have := h.2 t t0 (by omega)
      omega
def DpA (L : Int → Int) (n D : Int) : Prop := ∀ i, 0 ≤ i → i < n → dp (L i) ≤ D
def ArL (L : Int → Int) (n : Int) (L' : Int → Int) (n' v : Int) : Prop := ∀ i, 0 ≤ i → i < n' → (i < n ∧ L' i = L i) ∨ L' i = v
theorem al_0 {L : Int → Int} {n v : Int} : ArL L n L n v := fun i _ b => Or.inl ⟨b, rfl⟩
theorem al_1 {L L' : Int → Int} {n n' v i : Int} (e : L' = uA L i v) (hi : i = n) (hn : n' = n + 1) : ArL L n L' n' v := fun j _ b => by
  rw [e, hi]
  by_cases q : j = n
  · rw [q, uA_same]; exact Or.inr rfl
  · rw [uA_ne q]; exact Or.inl ⟨by omega, rfl⟩
theorem da_0 {L : Int → Int} {n D : Int} (hn : n = 0) : DpA L n D := fun i _ b => absurd b (by omega)
theorem da_s {L L' : Int → Int} {n n' v D : Int} (h : DpA L n D) (a : ArL L n L' n' v) (hv : dp v ≤ D) : DpA L' n' D := fun i i0 i1 => by
  rcases a i i0 i1 with ⟨q, e⟩ | e
  · rw [e]; exact h i i0 q
  · rw [e]; exact hv
def ArM (bh m k : Int) : Prop := bh = 0 → m = 1 ∨ k = -1
/-- the heap is raised -/
def RsP (hp so c : Int → Int) (i : Int) (hp' so' : Int → Int) : Prop := (∀ p, 0 ≤ p → p < so i → c (hp p) ≤ c i) → hp' = uA hp (so i) i ∧ so' = uA so i (so i)
def RsI (hp so c : Int → Int) (i x : Int) (h s : Int → Int) : Prop := (∀ p, 0 ≤ p → p < so i → c (hp p) ≤ c i) → x = so i ∧ h = hp ∧ s = so
theorem rs_0 {hp so c : Int → Int} {i x : Int} (hx : x = so i) : RsI hp so c i x hp so := fun _ => ⟨hx, rfl, rfl⟩
theorem rs_x {hp so c h s h' s' : Int → Int} {i x x' y a ca ci : Int} (H : RsI hp so c i x h s) (y0 : 0 ≤ y) (hy : y < x) (ha : a = h y) (hca : ca = c a) (hci : ci = c i) (hlt : ci < ca) : RsI hp so c i x' h' s' := by
  intro Q
  obtain ⟨e1, e2, e3⟩ := H Q
  have := Q y y0 (by omega)
  rw [hca, ha, e2, hci] at hlt
  omega
theorem rs_e {hp so c h s h' s' : Int → Int} {i x j l : Int} (H : RsI hp so c i x h s) (e1 : h' = uA h j i) (e2 : s' = uA s i l) (hj : j = x) (hl : l = x) : RsP hp so c i h' s' := by
  intro Q
  obtain ⟨q1, q2, q3⟩ := H Q
  rw [e1, e2, hj, hl, q1, q2, q3]
  exact ⟨rfl, rfl⟩
theorem emx_e {s r t n D : Int} {K A dr : Int → Int} (h : EmI s r K A dr D t) (ht : t = n) : EmI s r K A dr D n := ht ▸ h
theorem od_2 {P : Int → Prop} {v x : Int} (h : ODr P v x) (hx : x = 2) : ODr P v 2 := hx ▸ h
theorem em_bare {s r n D : Int} {K A dr : Int → Int} (h : EmI s r K A dr D n) (hd : 0 ≤ dp s ∧ dp s ≤ D) (hD : D ≤ 11) : ∀ t, 0 ≤ t → t < n → ¬ nb r t = 12 ∧ ¬ nb r t = 13 := by
  intro t t0 t1
  rw [(h.1 t t0 t1).1]
  exact (plo_r (nb_r s t) hd hD).2
/-! the whole search -/
def LF (S : Int → Int → Prop) (L c pa : Int → Int) (n sp : Int) : Prop := 0 < n ∧ Fnd S (cdC (L 0)) 1500 sp (fun i => cdC (L i)) n ∧ (∀ i, 0 ≤ i → i < n → 0 ≤ c i) ∧ ∀ i, 0 < i → i < n → 0 ≤ pa i ∧ pa i < i ∧ S (cdC (L (pa i))) (cdC (L i))
def XI (S : Int → Int → Prop) (bh s0 : Int) (L c pa hd nx hp so : Int → Int) (n w sp k i : Int) : Prop := bh = 0 → BI L c hd nx hp so n w k ∧ (¬ sp = 0 → n = 1500) ∧ (1 ≤ n ∧ L 0 = s0 ∧ DiL (fun i => cdC (L i)) n) ∧ (∀ j, 0 ≤ j → j < n → Rc S (cdC s0) (cdC (L j))) ∧ (∀ j, 0 < j → j < n → 0 ≤ pa j ∧ pa j < j ∧ S (cdC (L (pa j))) (cdC (L j))) ∧ (sp = 0 → ∀ j, 0 ≤ j → j < n → ¬ Wt hp w j → ∀ y, S (cdC (L j)) y → InL (fun i => cdC (L i)) n y) ∧ (¬ sp = 0 → ∃ x, Rc S (cdC s0) x ∧ ¬ InL (fun i => cdC (L i)) n x) ∧ (sp = 0 → n - w = i)
theorem xi_0 {S : Int → Int → Prop} {bh s0 n w sp n' w' sp' i : Int} {L c pa hd nx hp so L' c' pa' hd' nx' hp' so' : Int → Int} (hF : ∀ f, 0 ≤ f → f < 1024 → hd f = -1) (h0 : n = 0 ∧ w = 0 ∧ sp = 0) (hL : ∀ t, inR (L' t)) (hs : inR s0) (H : BR bh L c pa hd nx hp so n w sp L' c' pa' hd' nx' hp' so' n' w' sp' (-1) (fun y => y = cdC s0)) (hn : n' ≤ n + 1) (hsp : sp' = sp) (hi : i = 0) : XI S bh s0 L' c' pa' hd' nx' hp' so' n' w' sp' (-1) i := by
  intro z
  obtain ⟨q1, q2, q3⟩ := h0
  subst q1 q2 q3
  have B0 : BI L c hd nx hp so 0 0 (-1) := ⟨by omega, ch_0 rfl hF, fun f f0 f1 => by rw [hF f f0 f1]; omega, fun t t0 t1 => absurd t1 (by omega), fun p p0 p1 => absurd p1 (by omega), fun s _ => ⟨fun y => absurd y (by omega), fun y => absurd y (by omega)⟩, fun j a b => absurd b (by omega), fun p p0 p1 => absurd p1 (by omega)⟩
  obtain ⟨⟨B, s1, r1, r2, r3, r4, r5⟩, A⟩ := H z B0 (fun y => absurd rfl y)
  obtain ⟨a1, a2, a3, a4⟩ := A
  obtain ⟨d1, d2, d3, d4, d5⟩ := a4 rfl (fun i j i0 i1 => absurd i1 (by omega)) (by omega)
  obtain ⟨j, j0, j1, je⟩ := d4 hsp (cdC s0) rfl
  have hj : j = 0 := by omega
  subst hj
  have e0 : L' 0 = s0 := cdC_inj (hL 0) hs je
  refine ⟨B, s1, ⟨by omega, e0, d1⟩, fun j j0 j1 => ?_, fun j j0 j1 => by omega, fun _ j j0 j1 hw => ?_, fun y => absurd hsp y, fun _ => by omega⟩
  · rw [show j = 0 by omega, e0]; exact rc_0 S _
  · exact absurd (r5 j j0 j1) hw
theorem xi_s {S : Int → Int → Prop} {bh s0 n w sp k i w1 r k1 n' w' sp' i' : Int} {L c pa hd nx hp so hp1 so1 L' c' pa' hd' nx' hp' so' : Int → Int} {Q : Int → Prop} (hL : ∀ t, inR (L t)) (hL' : ∀ t, inR (L' t)) (X : XI S bh s0 L c pa hd nx hp so n w sp k i) (hsp : sp = 0) (hw : 0 < w) (T : TcP hp so c w n hp1 so1 w1 r) (hk : k1 = r) (H : BR bh L c pa hd nx hp1 so1 n w1 sp L' c' pa' hd' nx' hp' so' n' w' sp' k1 Q) (hQ : bh = 0 → (∀ j, 0 ≤ j → j < n → Rc S (cdC s0) (cdC (L j))) → ∀ y, Q y ↔ S (cdC (L k1)) y) (hi : i' = i + 1) : XI S bh s0 L' c' pa' hd' nx' hp' so' n' w' sp' k1 i' := by
  intro z
  obtain ⟨B, s1, ⟨x1, x2, x3⟩, x4, x5, x6, x7, x8⟩ := X z
  obtain ⟨b1, b2, b3, b4, b5, b6, b7, b8⟩ := B
  obtain ⟨t1, t2, t3, t4, t5⟩ := T b5 b6 hw
  have h0 := b5 0 (by omega) hw
  have hk0 : k1 = hp 0 := hk.trans t3
  have ckn : ckO c k1 = c k1 := if_neg (by omega)
  have hle : ckO c k ≤ c k1 := by rw [hk0]; exact b8 0 (by omega) hw
  have B1 : BI L c hd nx hp1 so1 n w1 k1 := by
    refine ⟨by omega, b2, b3, b4, t1, t2, fun j a b => ?_, fun p p0 p1 => ?_⟩
    · have := b7 j a b
      rw [ckn]
      omega
    · rw [ckn, hk0]
      obtain ⟨p', q0, q1, qe⟩ := ((t5 (hp1 p)).mp ⟨p, p0, p1, rfl⟩).1
      rw [← qe]
      exact hp_min2 b6 q0 q1
  obtain ⟨⟨B2, s2, r1, r2, r3, r4, r5⟩, A⟩ := H z B1 s1
  have hQ := hQ z x4
  obtain ⟨a1, a2, a3, a4⟩ := A
  obtain ⟨d1, d2, d3, d4, d5⟩ := a4 hsp x3 b1.2.2.1
  have hLo : ∀ j, 0 ≤ j → j < n → cdC (L' j) = cdC (L j) := a2
  have hk2 : 0 ≤ k1 ∧ k1 < n := by omega
  have e0 : L' 0 = s0 := (cdC_inj (hL' 0) (hL 0) (hLo 0 (by omega) (by omega))).trans x2
  have hnew : ∀ j, n ≤ j → j < n' → S (cdC (L k1)) (cdC (L' j)) := fun j a b => (hQ _).mp (d3 j a b)
  refine ⟨B2, s2, ⟨by omega, e0, d1⟩, fun j j0 j1 => ?_, fun j j0 j1 => ?_, fun y0 j j0 j1 hnw y hS => ?_, fun y0 => ?_, fun _ => by omega⟩
  · by_cases q : j < n
    · rw [hLo j j0 q]; exact x4 j j0 q
    · exact rc_s (x4 k1 hk2.1 hk2.2) (hnew j (by omega) j1)
  · by_cases q : j < n
    · obtain ⟨p0, p1, p2⟩ := x5 j j0 q
      rw [(r2 j (by omega) q).2, hLo (pa j) p0 (by omega), hLo j (by omega) q]
      exact ⟨p0, p1, p2⟩
    · rw [r3 j (by omega) j1, hLo k1 hk2.1 hk2.2]
      exact ⟨hk2.1, by omega, hnew j (by omega) j1⟩
  · by_cases q : j < n
    · rw [hLo j j0 q] at hS
      have h9 : ¬ (Wt hp w j ∧ ¬ j = hp 0) := fun u => hnw ((r4 j j0 q).mpr ((t5 j).mpr u))
      by_cases u : j = k1
      · rw [u] at hS
        exact d4 y0 y ((hQ y).mpr hS)
      · have h8 : ¬ Wt hp w j := fun v => h9 ⟨v, by rw [← hk0]; exact u⟩
        exact il_mo a1 a2 (x6 hsp j j0 q h8 y hS)
    · exact absurd (r5 j (by omega) j1) hnw
  · obtain ⟨_, y, hy, hN⟩ := d5 y0
    exact ⟨y, rc_s (x4 k1 hk2.1 hk2.2) ((hQ y).mp hy), hN⟩
theorem xi_e {S : Int → Int → Prop} {bh s0 n w sp k i : Int} {L c pa hd nx hp so : Int → Int} (X : XI S bh s0 L c pa hd nx hp so n w sp k i) (hE : 1500 ≤ i ∨ w ≤ 0 ∨ ¬ sp = 0) (hb : bh = 0) : LF S L c pa n sp ∧ L 0 = s0 := by
  obtain ⟨B, s1, ⟨x1, x2, x3⟩, x4, x5, x6, x7, x8⟩ := X hb
  refine ⟨⟨by omega, ?_, fun j a b => (B.2.2.2.2.2.2.1 j a b).1, x5⟩, x2⟩
  rw [x2]
  by_cases z : sp = 0
  · have hw : w ≤ 0 := by
      have h8 := x8 z
      have h1 := B.1
      omega
    refine fnd_ok (dn := fun _ => 1) ⟨x1, by show cdC (L 0) = cdC s0; rw [x2], x3, x4, fun j a b _ y hy => ?_⟩ (fun _ _ _ => by decide) B.1.2.2.1 z
    exact x6 z j a b (fun ⟨p, p0, p1, _⟩ => by omega) y hy
  · obtain ⟨x, hx, hn⟩ := x7 z
    exact fnd_no x3 x4 (s1 z) hx hn z
/-- what is known of the last search -/
def LfX (S : Int → Int → Prop) (bh : Int) (L c pa : Int → Int) (n sp : Int) : Prop := 0 < n → bh = 0 → LF S L c pa n sp
def EpP (S : Int → Int → Prop) (w v : Int) (L c pa : Int → Int) (n sp r : Int) : Prop := w = 0 → LF S L c pa n sp ∧ L 0 = v ∧ ((r = 1 ∧ sp = 0) ∨ (r = 0 ∧ ¬ sp = 0))
theorem exp_0 {S : Int → Int → Prop} {bh w v n sp r z : Int} {L c pa : Int → Int} (h : LfX S bh L c pa n sp) (hn : 0 < n) (hb : bh = w) (hz : z = L 0) (hv : z = v) (hr : (r = 1 ∧ sp = 0) ∨ (r = 0 ∧ ¬ sp = 0)) : EpP S w v L c pa n sp r := fun q => ⟨h hn (hb.trans q), hz.symm.trans hv, hr⟩
theorem lfx_e {S : Int → Int → Prop} {bh s0 n w sp k i : Int} {L c pa hd nx hp so : Int → Int} (X : XI S bh s0 L c pa hd nx hp so n w sp k i) (hE : 1500 ≤ i ∨ w ≤ 0 ∨ ¬ sp = 0) : LfX S bh L c pa n sp := fun _ hb => (xi_e X hE hb).1
theorem exp_e {S : Int → Int → Prop} {bh s0 n w sp k i r : Int} {L c pa hd nx hp so : Int → Int} (X : XI S bh s0 L c pa hd nx hp so n w sp k i) (hE : 1500 ≤ i ∨ w ≤ 0 ∨ ¬ sp = 0) (hr : (r = 1 ∧ sp = 0) ∨ (r = 0 ∧ ¬ sp = 0)) : EpP S bh s0 L c pa n sp r := fun q => ⟨(xi_e X hE q).1, (xi_e X hE q).2, hr⟩
/-- what follows a state by RIDES: the class's ladings are just those -/
theorem ex_q {n D cap rope nd mb w v m k s r : Int} {K A W dr L : Int → Int} {RK : (Int → Int) → Int → Prop} (hn : 0 ≤ n ∧ n ≤ 7) (hD : 0 ≤ D ∧ D ≤ 11) (hv : Vd D (nb v) (dp v)) (hA : ∀ t, 0 ≤ t → t < n → -1 ≤ A t) (E : EmI s r K A dr D n) (hs : s = L k) (k0 : 0 ≤ k) (k1 : k < m) : w = 0 → (∀ j, 0 ≤ j → j < m → Rc (Sg n D cap K A W rope nd mb RK) (cdC v) (cdC (L j))) → ∀ y, QG (OpD dr (nb r)) (Qr n D cap W rope nd mb RK (dp r)) 0 n (nb r) y ↔ Sg n D cap K A W rope nd mb RK (cdC (L k)) y := by
  intro _ hR y
  obtain ⟨p, a, hV, e, _⟩ := rc_vd hn.1 hn.2 hD.2 (vx_of hv) _ (hR k k0 k1)
  obtain ⟨ea, ep⟩ := cd_inj (rg_C (L k)) (vd_rg hD.2 hV) e
  have hVs : Vd D (nb s) (dp s) := by
    rw [hs]
    exact ⟨by rw [ea]; exact hV.1, fun t t0 t1 => by rw [ep t t0 t1]; exact hV.2 t t0 t1⟩
  rw [sg_of hn.2 hD.2 hVs (by rw [hs]; rfl)]
  refine qg_x (fun t t0 t1 ht => E.2.1 t (by omega) (by omega)) (fun t u t0 t1 => ?_) (fun z y => by rw [E.2.2])
  have hp := hVs.2 t t0 (by omega)
  obtain ⟨e1, e2⟩ := E.1 t t0 t1
  obtain ⟨d1, d2⟩ := dr_1 e2
  show OpD dr (nb r) t u ↔ OpM (K t) (A t) (nb s t) (dp s) D u
  rw [op_eq (nb_r s t) (by omega) hVs.1 hD.2 (hA t t0 t1)]
  unfold OpD OpC
  rw [e1, d1, d2, or_assoc]
/-! what is asked of it -/
def woF (w s : Int) : Int → Int := fun t => if bAnd (bShr w t) 1 = 0 then nb s t else 15
def WoI (s w r x : Int) : Prop := (∀ t, 0 ≤ t → t < x → nb r t = woF w s t) ∧ (∀ t, x ≤ t → t ≤ 6 → nb r t = nb s t) ∧ dp r = dp s
theorem wo_0 {s w r x : Int} (hr : r = s) (hx : x = 0) : WoI s w r x := by
  subst hr
  exact ⟨fun t a b => absurd b (by omega), fun _ _ _ => rfl, rfl⟩
theorem wo_y {s w r r' x x' b d : Int} (h : WoI s w r x) (x0 : 0 ≤ x) (x6 : x ≤ 6) (hs : b = bShr w x) (hb : d = bAnd b 1) (hd : ¬ d = 0) (hr : r' = putS r x 15) (hx : x' = x + 1) : WoI s w r' x' := by
  obtain ⟨a1, a2, a3⟩ := h
  have hN := put_nb hr x0 x6 (by decide) (by decide)
  subst hx
  refine ⟨fun t t0 t1 => ?_, fun t t0 t1 => ?_, hN.2.2.trans a3⟩
  · by_cases q : t = x
    · rw [q, hN.1]
      unfold woF
      rw [← hs, ← hb, if_neg hd]
    · rw [hN.2.1 t t0 (by omega) q]; exact a1 t t0 (by omega)
  · rw [hN.2.1 t (by omega) t1 (by omega)]; exact a2 t (by omega) t1
theorem wo_n {s w r x x' b d : Int} (h : WoI s w r x) (x0 : 0 ≤ x) (x6 : x ≤ 6) (hs : b = bShr w x) (hb : d = bAnd b 1) (hd : d = 0) (hx : x' = x + 1) : WoI s w r x' := by
  obtain ⟨a1, a2, a3⟩ := h
  subst hx
  refine ⟨fun t t0 t1 => ?_, fun t t0 t1 => a2 t (by omega) t1, a3⟩
  by_cases q : t = x
  · rw [q, a2 x (Int.le_refl x) x6]
    unfold woF
    rw [← hs, ← hb, if_pos hd]
  · exact a1 t t0 (by omega)
def WoP (s w r : Int) : Prop := (∀ t, 0 ≤ t → t ≤ 6 → nb r t = woF w s t) ∧ dp r = dp s
theorem wo_e {s w r x : Int} (h : WoI s w r x) (hx : x = 7) : WoP s w r := ⟨fun t t0 t1 => h.1 t t0 (by omega), h.2.2⟩
theorem wo_vd {s w r D : Int} (h : WoP s w r) (hv : Vd D (nb s) (dp s)) : Vd D (nb r) (dp r) := by
  rw [h.2]
  refine ⟨hv.1, fun t t0 t1 => ?_⟩
  rw [h.1 t t0 (by omega)]
  unfold woF
  by_cases q : bAnd (bShr w t) 1 = 0
  · rw [if_pos q]; exact hv.2 t t0 t1
  · rw [if_neg q]; omega
/-- what a plan keeps to -/
def PwP (n D cap st : Int) (W A F : Int → Int) : Prop := WtP n W ∧ (∀ t, 0 ≤ t → t < n → -1 ≤ A t) ∧ 0 ≤ cap ∧ (0 ≤ st ∧ st ≤ D) ∧ ∀ t, 0 ≤ t → t < n → 0 ≤ F t ∧ F t ≤ D
theorem fs_vd {s n D cap st : Int} {W A F : Int → Int} (h : FsI s n st F n) (hp : PwP n D cap st W A F) (hD : 0 ≤ D ∧ D ≤ 11) (n7 : n ≤ 7) : Vd D (nb s) (dp s) := by
  obtain ⟨_, _, _, h1, h2⟩ := hp
  obtain ⟨a, b⟩ := h ⟨h1.1, by omega, fun t t0 t1 => by have := h2 t t0 t1; omega⟩
  refine ⟨by rw [b]; exact h1, fun t t0 t1 => ?_⟩
  rw [a t t0 (by omega)]
  by_cases q : t < n
  · rw [if_pos q]
    have := h2 t t0 q
    omega
  · rw [if_neg q]; omega
def dbC (t D s : Int) : Int := if thD (nb s t) (dp s) D = -1 then 0 else bShl 1 (thD (nb s t) (dp s) D)
theorem dc_y {t D s z w : Int} (hz : z = thD (nb s t) (dp s) D) (h : ¬ z = -1) (hw : w = bShl 1 z) : w = dbC t D s := by
  unfold dbC
  rw [← hz, if_neg h]; exact hw
theorem dc_n {t D s z w : Int} (hz : z = thD (nb s t) (dp s) D) (h : z = -1) (hw : w = 0) : w = dbC t D s := by
  unfold dbC
  rw [← hz, if_pos h]; exact hw
def RcC (S : Int → Int → Prop) (x0 D t r : Int) : Prop := ∃ (L : Int → Int) (n sp : Int), Fnd S x0 1500 sp (fun i => cdC (L i)) n ∧ 0 ≤ n ∧ ((¬ sp = 0 ∧ r = -2) ∨ (sp = 0 ∧ r = og (fun i => dbC t D (L i)) n))
def RccP (sv : Prop) (r v : Int) (S : Int → Int → Prop) (x0 D t : Int) : Prop := (sv → r = v) ∧ (¬ sv → RcC S x0 D t r)
theorem rcc_s {sv : Prop} {r v x0 D t : Int} {S : Int → Int → Prop} (h : sv) (hr : r = v) : RccP sv r v S x0 D t := ⟨fun _ => hr, fun q => absurd h q⟩
theorem rcc_x {sv : Prop} {r v x D t n sp c w : Int} {S : Int → Int → Prop} {L k pa : Int → Int} (h : ¬ sv) (E : EpP S w x L k pa n sp c) (hw : w = 0) (hc : c = 0) (hr : r = -2) : RccP sv r v S (cdC x) D t := by
  refine ⟨fun q => absurd q h, fun _ => ?_⟩
  obtain ⟨F, e, hq⟩ := E hw
  refine ⟨L, n, sp, by rw [← e]; exact F.2.1, by have := F.1; omega, Or.inl ⟨by omega, hr⟩⟩
theorem rcc_r {sv : Prop} {r v x D t n sp c w : Int} {S : Int → Int → Prop} {L k pa : Int → Int} (h : ¬ sv) (E : EpP S w x L k pa n sp c) (hw : w = 0) (hc : ¬ c = 0) (hr : r = og (fun i => dbC t D (L i)) n) : RccP sv r v S (cdC x) D t := by
  refine ⟨fun q => absurd q h, fun _ => ?_⟩
  obtain ⟨F, e, hq⟩ := E hw
  refine ⟨L, n, sp, by rw [← e]; exact F.2.1, by have := F.1; omega, Or.inr ⟨by omega, hr⟩⟩
def ZrA (g : Int → Int) : Prop := ∀ t, 0 ≤ t → t < 1641 → g t = 0
