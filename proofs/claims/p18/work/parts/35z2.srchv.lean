/-! verdicts: two bits for each lading at each depth -/
theorem shr4 {x : Int} (h0 : 0 ≤ x) (h1 : x < 2147483648) : bShr x 4 = x / 16 := by
  unfold bShr
  rw [show (Int32.ofInt 4 &&& 31) = (4 : Int32) by decide]
  show ((Int32.ofInt x) >>> (4 : Int32)).toBitVec.toInt = _
  rw [Int32.toBitVec_shiftRight, BitVec.sshiftRight_eq', show ((4 : Int32).toBitVec.smod 32).toNat = 4 by decide, BitVec.toInt_sshiftRight, Int.shiftRight_eq_div_pow]
  show (Int32.ofInt x).toInt / _ = _
  rw [iz_toInt ⟨by omega, by omega⟩]
  rfl
theorem and15 {x : Int} (h0 : 0 ≤ x) (h1 : x < 2147483648) : bAnd x 15 = x % 16 := by
  unfold bAnd
  have e0 : (Int32.ofInt x).toBitVec.toNat = x.toNat := by
    have h := iz_toInt (z := x) ⟨by omega, by omega⟩
    have h2 : (Int32.ofInt x).toBitVec.toInt = x := h
    rw [BitVec.toInt_eq_toNat_cond] at h2
    have h3 := (Int32.ofInt x).toBitVec.isLt
    split at h2 <;> omega
  have e1 : (Int32.ofInt x &&& Int32.ofInt 15).toBitVec.toNat = x.toNat % 16 := by
    rw [Int32.toBitVec_and, BitVec.toNat_and, e0, show (Int32.ofInt 15).toBitVec.toNat = 2 ^ 4 - 1 by decide, Nat.and_two_pow_sub_one_eq_mod]
  have e : (Int32.ofInt x &&& Int32.ofInt 15).toInt = ((Int32.ofInt x &&& Int32.ofInt 15).toBitVec.toNat : Int) := BitVec.toInt_eq_toNat_of_lt (by omega)
  rw [e, e1]
  omega
theorem g2 (i : Nat) : (bv 2).getLsbD i = decide (i = 1) := by
  have e : bv 2 = BitVec.twoPow 32 1 := by decide
  rw [e, BitVec.getLsbD_twoPow]
  by_cases q : i = 1
  · subst q; rfl
  · rw [decide_eq_false q, decide_eq_false (show ¬ 1 = i from fun z => q z.symm), Bool.and_false]
theorem g3 (i : Nat) : (bv 3).getLsbD i = decide (i < 2) := by
  have e : bv 3 = BitVec.ofNat 32 3 := by decide
  rw [e, BitVec.getLsbD_ofNat, show (3 : Nat) = 2 ^ 2 - 1 by decide, Nat.testBit_two_pow_sub_one]
  by_cases q : i < 2
  · rw [decide_eq_true q, decide_eq_true (show i < 32 by omega)]; rfl
  · rw [decide_eq_false q, Bool.and_false]
theorem vb_1 {x s : Int} (s0 : 0 ≤ s) (s1 : s < 31) : bAnd (bUshr x s) 1 = 0 ↔ (bv x).getLsbD s.toNat = false := by
  have h0 : (bv (bUshr x s)).getLsbD 0 = (bv x).getLsbD s.toNat := by
    rw [bv_ushr s0 (by omega), BitVec.getLsbD_ushiftRight]
    rfl
  constructor
  · intro h
    have h1 := congrArg (fun x => (bv x).getLsbD 0) h
    have h1 := h1
    simp only [bv_and, BitVec.getLsbD_and, g1, g0, h0] at h1
    simpa using h1
  · intro h
    refine bv_inj (bAnd_r _ _) inR0 (BitVec.eq_of_getLsbD_eq (fun i hi => ?_))
    rw [bv_and, BitVec.getLsbD_and, g1, g0]
    by_cases q : i = 0
    · subst q
      rw [h0, h]
      rfl
    · rw [decide_eq_false q, Bool.and_false]
theorem vb_2 {x s : Int} (s0 : 0 ≤ s) (s1 : s < 31) : bAnd (bUshr x s) 2 = 0 ↔ (bv x).getLsbD (s.toNat + 1) = false := by
  have h0 : (bv (bUshr x s)).getLsbD 1 = (bv x).getLsbD (s.toNat + 1) := by
    rw [bv_ushr s0 (by omega), BitVec.getLsbD_ushiftRight]
  constructor
  · intro h
    have h1 := congrArg (fun x => (bv x).getLsbD 1) h
    have h1 := h1
    simp only [bv_and, BitVec.getLsbD_and, g2, g0, h0] at h1
    simpa using h1
  · intro h
    refine bv_inj (bAnd_r _ _) inR0 (BitVec.eq_of_getLsbD_eq (fun i hi => ?_))
    rw [bv_and, BitVec.getLsbD_and, g2, g0]
    by_cases q : i = 1
    · subst q
      rw [h0, h]
      rfl
    · rw [decide_eq_false q, Bool.and_false]
def KNb (V : Int → Int) (it : Int) : Bool := (bv (V (it / 16))).getLsbD (2 * (it % 16)).toNat
def KPb (V : Int → Int) (it : Int) : Bool := (bv (V (it / 16))).getLsbD ((2 * (it % 16)).toNat + 1)
theorem kn_1 {V : Int → Int} {it w a s x u v : Int} (h0 : 0 ≤ it) (h1 : it < 26244) (hw : w = bShr it 4) (ha : a = bAnd it 15) (hs : s = 2 * a) (hx : x = V w) (hu : u = bUshr x s) (hv : v = bAnd u 1) : v = 0 ↔ KNb V it = false := by
  have ea : a = it % 16 := ha.trans (and15 h0 (by omega))
  have ew : w = it / 16 := hw.trans (shr4 h0 (by omega))
  have es : s = 2 * (it % 16) := by omega
  rw [hv, hu, hx, ew, es]
  exact vb_1 (by omega) (by omega)
theorem kn_2 {V : Int → Int} {it w a s x u v : Int} (h0 : 0 ≤ it) (h1 : it < 26244) (hw : w = bShr it 4) (ha : a = bAnd it 15) (hs : s = 2 * a) (hx : x = V w) (hu : u = bUshr x s) (hv : v = bAnd u 2) : v = 0 ↔ KPb V it = false := by
  have ea : a = it % 16 := ha.trans (and15 h0 (by omega))
  have ew : w = it / 16 := hw.trans (shr4 h0 (by omega))
  have es : s = 2 * (it % 16) := by omega
  rw [hv, hu, hx, ew, es]
  exact vb_2 (by omega) (by omega)
/-- how a lading is told by digits -/
def dgt (p : Int) : Int := if p = 12 then 1 else if p = 13 then 2 else 0
def pw3 : Nat → Int
  | 0 => 1
  | k + 1 => 3 * pw3 k
def ladN (z : Int → Int) : Nat → Int
  | 0 => 0
  | k + 1 => ladN z k + dgt (z (k : Int)) * pw3 k
theorem dgt_c (p : Int) : (dgt p = 0 ∧ ¬ p = 12 ∧ ¬ p = 13) ∨ (dgt p = 1 ∧ p = 12) ∨ (dgt p = 2 ∧ p = 13) := by
  unfold dgt
  omega
theorem lad_r (z : Int → Int) : ∀ k : Nat, 0 ≤ ladN z k ∧ ladN z k < pw3 k
  | 0 => by show (0 : Int) ≤ 0 ∧ (0 : Int) < 1; decide
  | k + 1 => by
    have h := lad_r z k
    have c := dgt_c (z (k : Int))
    show 0 ≤ ladN z k + dgt (z (k : Int)) * pw3 k ∧ ladN z k + dgt (z (k : Int)) * pw3 k < 3 * pw3 k
    rcases c with ⟨e, _⟩ | ⟨e, _⟩ | ⟨e, _⟩
    · rw [e]; omega
    · rw [e]; omega
    · rw [e]; omega
theorem lad_x {z z' : Int → Int} : ∀ k : Nat, (∀ t : Int, 0 ≤ t → t < k → z t = z' t) → ladN z k = ladN z' k
  | 0, _ => rfl
  | k + 1, h => by
    show ladN z k + dgt (z (k : Int)) * pw3 k = ladN z' k + dgt (z' (k : Int)) * pw3 k
    rw [lad_x k (fun t t0 t1 => h t t0 (by omega)), h (k : Int) (by omega) (by omega)]
theorem lad_inj {z z' : Int → Int} : ∀ k : Nat, ladN z k = ladN z' k → ∀ t : Int, 0 ≤ t → t < k → dgt (z t) = dgt (z' t)
  | 0, _, t, t0, t1 => absurd t1 (by omega)
  | k + 1, h, t, t0, t1 => by
    have h : ladN z k + dgt (z (k : Int)) * pw3 k = ladN z' k + dgt (z' (k : Int)) * pw3 k := h
    have r := lad_r z k
    have r' := lad_r z' k
    have key : ladN z k = ladN z' k ∧ dgt (z (k : Int)) = dgt (z' (k : Int)) := by
      rcases dgt_c (z (k : Int)) with ⟨e, _⟩ | ⟨e, _⟩ | ⟨e, _⟩ <;> rcases dgt_c (z' (k : Int)) with ⟨e', _⟩ | ⟨e', _⟩ | ⟨e', _⟩ <;> rw [e, e'] at h ⊢ <;> omega
    by_cases q : t = k
    · rw [q]; exact key.2
    · exact lad_inj k key.1 t t0 (by omega)
theorem lad_dg {n : Int} {z z' : Int → Int} (h : ladN z n.toNat = ladN z' n.toNat) : dgq n z z' := by
  intro t t0 t1
  have e := lad_inj n.toNat h t t0 (by omega)
  have c := dgt_c (z t)
  have c' := dgt_c (z' t)
  omega
/-- one more THING in a lading -/
theorem lad_s {z z' : Int → Int} {i g g' w d : Int} {k : Nat} (hk : i = (k : Int)) (h : g = ladN z k) (hz : ∀ t, 0 ≤ t → t < i → z' t = z t) (hd : dgt (z' i) = d) (hw : w = d * pw3 k) (hg : g' = g + w) : g' = ladN z' (k + 1) := by
  subst hk
  show g' = ladN z' k + dgt (z' (k : Int)) * pw3 k
  rw [hg, h, hw, hd, lad_x k (fun t t0 t1 => (hz t t0 t1).symm)]
def VdI (V : Int → Int) (n D : Int) (RK : (Int → Int) → Int → Prop) : Prop := (∀ it, 0 ≤ it → it < 26244 → KNb V it = false → KPb V it = false) ∧ ∀ (z : Int → Int) (a : Int), 0 ≤ a → a ≤ D → KNb V (ladN z n.toNat * 12 + a) = true → (KPb V (ladN z n.toNat * 12 + a) = true ↔ RK z a)
theorem p3_le : ∀ k : Nat, k ≤ 7 → pw3 k ≤ 2187 := by
  intro k h
  have key : ∀ q : Fin 8, pw3 q.val ≤ 2187 := by decide +kernel
  exact key ⟨k, by omega⟩
theorem it_r {z : Int → Int} {n a D : Int} (n7 : n ≤ 7) (a0 : 0 ≤ a) (a1 : a ≤ D) (hD : D ≤ 11) : 0 ≤ ladN z n.toNat * 12 + a ∧ ladN z n.toNat * 12 + a < 26244 := by
  have r := lad_r z n.toNat
  have p := p3_le n.toNat (by omega)
  omega
theorem vd_0 {V : Int → Int} {n D : Int} {RK : (Int → Int) → Int → Prop} (h : ∀ t, 0 ≤ t → t < 1641 → V t = 0) (n7 : n ≤ 7) (hD : D ≤ 11) : VdI V n D RK := by
  refine ⟨fun it i0 i1 _ => ?_, fun z a a0 a1 hk => ?_⟩
  · unfold KPb
    rw [h _ (by omega) (by omega), g0]
  · have r := it_r (z := z) n7 a0 a1 hD
    unfold KNb at hk
    rw [h _ (by omega) (by omega), g0] at hk
    exact absurd hk (by decide)
/-- a verdict is noted -/
theorem vd_s {V V' : Int → Int} {n D it a0 w s b x k m v : Int} {z : Int → Int} {RK : (Int → Int) → Int → Prop} (H : VdI V n D RK) (hR : ∀ z z' b, dgq n z z' → RK z b → RK z' b) (n7 : n ≤ 7) (hD : D ≤ 11) (b0 : 0 ≤ b) (b1 : b ≤ D) (hit : it = ladN z n.toNat * 12 + b) (hw : w = bShr it 4) (ha : a0 = bAnd it 15) (hs : s = 2 * a0) (hn : KNb V it = false) (hx : x = V w) (hk : (k = 3 ∧ RK z b) ∨ (k = 1 ∧ ¬ RK z b)) (hm : m = bShl k s) (hv : v = bOr x m) (e : V' = uA V w v) : VdI V' n D RK ∧ (KNb V' it = true ∧ (KPb V' it = true ↔ RK z b)) := by
  have r := it_r (z := z) n7 b0 b1 hD
  rw [← hit] at r
  have ea : a0 = it % 16 := ha.trans (and15 r.1 (by omega))
  have ew : w = it / 16 := hw.trans (shr4 r.1 (by omega))
  have es : s = 2 * (it % 16) := by omega
  have hp := H.1 it r.1 r.2 hn
  have hkk : ∀ i : Nat, i < 32 → (bv m).getLsbD i = (decide (s.toNat ≤ i) && (bv k).getLsbD (i - s.toNat)) := by
    intro i hi
    rw [hm, bv_shl (by omega) (by omega), BitVec.getLsbD_shiftLeft, decide_eq_true hi]
    by_cases q : i < s.toNat
    · rw [decide_eq_true q, decide_eq_false (show ¬ s.toNat ≤ i by omega)]; simp
    · rw [decide_eq_false q, decide_eq_true (show s.toNat ≤ i by omega)]; simp
  have hk0 : (bv k).getLsbD 0 = true := by
    rcases hk with q | q
    · rw [q.1, g3]; rfl
    · rw [q.1, g1]; rfl
  have hk1 : (bv k).getLsbD 1 = true ↔ RK z b := by
    rcases hk with q | q
    · rw [q.1, g3]; exact ⟨fun _ => q.2, fun _ => rfl⟩
    · rw [q.1, g1]; exact ⟨fun y => absurd y (by decide), fun y => absurd y q.2⟩
  have hk2 : ∀ j : Nat, 2 ≤ j → (bv k).getLsbD j = false := by
    intro j hj
    rcases hk with q | q
    · rw [q.1, g3]; exact decide_eq_false (by omega)
    · rw [q.1, g1]; exact decide_eq_false (by omega)
  have same : KNb V' it = true ∧ (KPb V' it = true ↔ RK z b) := by
    have eV : V' (it / 16) = v := by rw [e, ew, uA_same]
    constructor
    · unfold KNb
      rw [eV, hv, bv_or, BitVec.getLsbD_or, hkk _ (by omega), es, Nat.sub_self, hk0, decide_eq_true (Nat.le_refl _)]
      simp
    · unfold KPb at hp ⊢
      rw [eV, hv, bv_or, BitVec.getLsbD_or, hkk _ (by omega), es, show (2 * (it % 16)).toNat + 1 - (2 * (it % 16)).toNat = 1 by omega, hx, ew, hp, decide_eq_true (show (2 * (it % 16)).toNat ≤ (2 * (it % 16)).toNat + 1 by omega), Bool.false_or, Bool.true_and]
      exact hk1
  have other : ∀ j, 0 ≤ j → j < 26244 → ¬ j = it → KNb V' j = KNb V j ∧ KPb V' j = KPb V j := by
    intro j j0 j1 hne
    by_cases q : j / 16 = w
    · have hd : ¬ j % 16 = it % 16 := by omega
      have eV : V' (j / 16) = v := by rw [e, q, uA_same]
      have eX : V (j / 16) = x := by rw [q]; exact hx.symm
      have far : ∀ i : Nat, i < 32 → (i < s.toNat ∨ s.toNat + 2 ≤ i) → (bv m).getLsbD i = false := by
        intro i hi h9
        rw [hkk i hi]
        rcases h9 with h9 | h9
        · rw [decide_eq_false (show ¬ s.toNat ≤ i by omega), Bool.false_and]
        · rw [hk2 _ (by omega), Bool.and_false]
      constructor
      · unfold KNb
        rw [eV, eX, hv, bv_or, BitVec.getLsbD_or, far _ (by omega) (by omega), Bool.or_false]
      · unfold KPb
        rw [eV, eX, hv, bv_or, BitVec.getLsbD_or, far _ (by omega) (by omega), Bool.or_false]
    · have eV : V' (j / 16) = V (j / 16) := by rw [e]; exact uA_ne q
      unfold KNb KPb
      rw [eV]
      exact ⟨rfl, rfl⟩
  refine ⟨⟨fun j j0 j1 h => ?_, fun y a y0 y1 h => ?_⟩, same⟩
  · by_cases q : j = it
    · rw [q, same.1] at h; exact absurd h (by decide)
    · obtain ⟨o1, o2⟩ := other j j0 j1 q
      rw [o1] at h
      rw [o2]; exact H.1 j j0 j1 h
  · have ry := it_r (z := y) n7 y0 y1 hD
    by_cases q : ladN y n.toNat * 12 + a = it
    · have e12 : ladN y n.toNat = ladN z n.toNat ∧ a = b := by omega
      have hdg := lad_dg e12.1
      have hdg' : dgq n z y := fun t t0 t1 => ⟨(hdg t t0 t1).1.symm, (hdg t t0 t1).2.symm⟩
      rw [q, same.2, e12.2]
      exact ⟨fun u => hR z y b hdg' u, fun u => hR y z b hdg u⟩
    · obtain ⟨o1, o2⟩ := other _ ry.1 ry.2 q
      rw [o1] at h
      rw [o2]; exact H.2 y a y0 y1 h
/-- what an old verdict says -/
theorem vd_k {V : Int → Int} {n D it b : Int} {z : Int → Int} {RK : (Int → Int) → Int → Prop} (H : VdI V n D RK) (b0 : 0 ≤ b) (b1 : b ≤ D) (hit : it = ladN z n.toNat * 12 + b) (hn : ¬ KNb V it = false) : KPb V it = true ↔ RK z b := by
  have h : KNb V it = true := by
    cases hq : KNb V it with
    | false => exact absurd hq hn
    | true => rfl
  rw [hit] at h ⊢
  exact H.2 z b b0 b1 h
/-! sums of weights -/
theorem gs_b {c : Int → Int} : ∀ k : Nat, k ≤ 7 → (∀ t : Int, 0 ≤ t → t < k → 0 ≤ c t ∧ c t ≤ 99) → 0 ≤ gsN c k ∧ gsN c k ≤ 99 * (k : Int)
  | 0, _, _ => by show (0 : Int) ≤ 0 ∧ (0 : Int) ≤ 99 * ((0 : Nat) : Int); omega
  | k + 1, hk, h => by
    have a := gs_b k (by omega) (fun t t0 t1 => h t t0 (by omega))
    have b := h (k : Int) (by omega) (by omega)
    show 0 ≤ bWr (gsN c k + c (k : Int)) ∧ bWr (gsN c k + c (k : Int)) ≤ 99 * (((k + 1 : Nat)) : Int)
    rw [bWr_eq ⟨by omega, by omega⟩]
    omega
theorem gs_mo {c : Int → Int} {k : Nat} : ∀ m : Nat, k ≤ m → m ≤ 7 → (∀ t : Int, 0 ≤ t → t < m → 0 ≤ c t ∧ c t ≤ 99) → gsN c k ≤ gsN c m := by
  intro m h
  induction h with
  | refl => exact fun _ _ => Int.le_refl _
  | @step m hm ih =>
    intro h7 hc
    have a := ih (by omega) (fun t t0 t1 => hc t t0 (by omega))
    have b := hc (m : Int) (by omega) (by omega)
    have g := gs_b (c := c) m (by omega) (fun t t0 t1 => hc t t0 (by omega))
    show gsN c k ≤ bWr (gsN c m + c (m : Int))
    rw [bWr_eq ⟨by omega, by omega⟩]
    omega
def WtP (n : Int) (W : Int → Int) : Prop := ∀ t, 0 ≤ t → t < n → 0 ≤ W t ∧ W t ≤ 99
theorem lc_b {n b : Int} {W z : Int → Int} (h : WtP n W) : ∀ t, 0 ≤ t → t < n → 0 ≤ lc z W b t ∧ lc z W b t ≤ 99 := by
  intro t t0 t1
  have := h t t0 t1
  unfold lc
  by_cases q : z t = 12 + b
  · rw [if_pos q]; exact this
  · rw [if_neg q]; omega
theorem gs_le {n i b : Int} {W z : Int → Int} (h : WtP n W) (i0 : 0 ≤ i) (hi : i ≤ n) (n7 : n ≤ 7) : 0 ≤ gs (lc z W b) i ∧ gs (lc z W b) i ≤ 693 ∧ gs (lc z W b) i ≤ gs (lc z W b) n := by
  have a := gs_b (c := lc z W b) i.toNat (by omega) (fun t t0 t1 => lc_b h t t0 (by omega))
  have m := gs_mo (c := lc z W b) (k := i.toNat) n.toNat (by omega) (by omega) (fun t t0 t1 => lc_b h t t0 (by omega))
  unfold gs
  omega
