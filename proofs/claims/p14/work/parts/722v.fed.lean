/-! what is fed, what town answers, alike on both sides -/
theorem by_and (x : Int) : bByte x % 256 = bAnd x 255 := by
  unfold bByte bAnd
  rw [Int8.toInt_toInt32, Int32.toInt_toInt8]
  have e1 : (Int32.ofInt x).toInt.bmod (2 ^ 8) % 256 = (Int32.ofInt x).toInt % 256 := Int.bmod_emod (m := 256)
  rw [e1]
  have h2 : (Int32.ofInt x &&& Int32.ofInt 255).toBitVec.toNat = (Int32.ofInt x).toBitVec.toNat % 256 := by
    rw [Int32.toBitVec_and, BitVec.toNat_and]
    exact Nat.and_two_pow_sub_one_eq_mod _ 8
  have h3 : (Int32.ofInt x &&& Int32.ofInt 255).toInt = ((Int32.ofInt x &&& Int32.ofInt 255).toBitVec.toNat : Int) := BitVec.toInt_eq_toNat_of_lt (by omega)
  rw [h3, h2]
  have h4 : (Int32.ofInt x).toInt = (if 2 * (Int32.ofInt x).toBitVec.toNat < 2 ^ 32 then ((Int32.ofInt x).toBitVec.toNat : Int) else ((Int32.ofInt x).toBitVec.toNat : Int) - ((2 ^ 32 : Nat) : Int)) := BitVec.toInt_eq_toNat_cond _
  rw [h4]
  split <;> omega
def fdA (a b c d e k : Int) : Int := if k < 4 then a else if k < 8 then b else if k < 12 then c else if k < 16 then d else e
def fdK (a b c d e k : Int) : Int := bAnd (bShr (fdA a b c d e k) (24 - 8 * (k % 4))) 255
def fdV (T : Int → Int) (p m a b c d e : Int) : Int → Int := fun t => if p ≤ t ∧ t < p + m then fdK a b c d e (t - p) else T t
def fdW (T : Int → Int) (p a b c d e : Int) : Int → Int := fdV T p 20 a b c d e
theorem fdV_0 {T : Int → Int} {p m a b c d e : Int} (h : m = 0) : T = fdV T p m a b c d e := by
  funext t
  exact (if_neg (by omega)).symm
theorem rem_c : ∀ x : Fin 20, bRem (x.val : Int) 4 = (x.val : Int) % 4 := by decide +kernel
theorem rem_4 {m : Int} (h0 : 0 ≤ m) (h1 : m < 20) : bRem m 4 = m % 4 := by
  have h9 := rem_c ⟨m.toNat, by omega⟩
  simp only at h9
  rw [show ((m.toNat : Nat) : Int) = m by omega] at h9
  exact h9
theorem fdV_s {T g g' : Int → Int} {p m a b c d e i w q z v : Int} (h : g = fdV T p m a b c d e) (h0 : 0 ≤ m) (h20 : m < 20) (hw : w = fdA a b c d e m) (hq : q = bRem m 4) (h1 : z = bShr w (24 - 8 * q)) (hv : v = bAnd z 255) (hi : i = p + m) (eg : g' = uA g i v) : g' = fdV T p (m + 1) a b c d e := by
  have hv2 : v = fdK a b c d e m := by
    unfold fdK
    rw [hv, h1, hw, hq, rem_4 h0 h20]
  funext t
  rw [eg]
  by_cases q9 : t = i
  · rw [(uA_at g i v t).1 q9, hv2]
    have e9 : fdV T p (m + 1) a b c d e t = fdK a b c d e (t - p) := if_pos (by omega)
    rw [e9, show t - p = m by omega]
  · rw [(uA_at g i v t).2 q9, h]
    by_cases r9 : p ≤ t ∧ t < p + m
    · have e9 : fdV T p (m + 1) a b c d e t = fdK a b c d e (t - p) := if_pos (by omega)
      have e8 : fdV T p m a b c d e t = fdK a b c d e (t - p) := if_pos r9
      rw [e9, e8]
    · have e9 : fdV T p (m + 1) a b c d e t = T t := if_neg (by omega)
      have e8 : fdV T p m a b c d e t = T t := if_neg r9
      rw [e9, e8]
theorem fd_m {T g : Int → Int} {p m a b c d e : Int} (h : g = fdV T p m a b c d e) (hm : m = 20) (hp : p ≤ 580) : g = (if p ≤ 580 then fdW T p a b c d e else T) := by
  rw [if_pos hp, h, hm]
  rfl
def apV (g : Int → Int) (p m a : Int) : Int → Int := fun t => if p ≤ t ∧ t < p + m then bByte (bShr a (24 - 8 * (t - p))) else g t
theorem apV_0 {g : Int → Int} {p m a : Int} (h : m = 0) : g = apV g p m a := by
  funext t
  exact (if_neg (by omega)).symm
theorem apV_s {G g g' : Int → Int} {p m m' a i x z v : Int} (h : g = apV G p m a) (h0 : 0 ≤ m) (h1 : z = bShr a x) (hx : x = 24 - 8 * m) (hv : v = bByte z) (hi : i = p + m) (eg : g' = uA g i v) (hm : m' = m + 1) : g' = apV G p m' a := by
  funext t
  rw [eg]
  by_cases q9 : t = i
  · rw [(uA_at g i v t).1 q9, hv, h1, hx]
    have e9 : apV G p m' a t = bByte (bShr a (24 - 8 * (t - p))) := if_pos (by omega)
    rw [e9, show t - p = m by omega]
  · rw [(uA_at g i v t).2 q9, h]
    by_cases r9 : p ≤ t ∧ t < p + m
    · have e9 : apV G p m' a t = bByte (bShr a (24 - 8 * (t - p))) := if_pos (by omega)
      have e8 : apV G p m a t = bByte (bShr a (24 - 8 * (t - p))) := if_pos r9
      rw [e9, e8]
    · have e9 : apV G p m' a t = G t := if_neg (by omega)
      have e8 : apV G p m a t = G t := if_neg r9
      rw [e9, e8]
theorem ap_y {g : Int → Int} {p a t : Int} (h : p ≤ t ∧ t < p + 4) : apV g p 4 a t = bByte (bShr a (24 - 8 * (t - p))) := if_pos h
theorem ap_n {g : Int → Int} {p a t : Int} (h : ¬ (p ≤ t ∧ t < p + 4)) : apV g p 4 a t = g t := if_neg h
theorem fd_5 {g0 g1 g2 g3 g4 g5 : Int → Int} {p p1 p2 p3 p4 a b c d e : Int} (h1 : g1 = apV g0 p 4 a) (h2 : g2 = apV g1 p1 4 b) (h3 : g3 = apV g2 p2 4 c) (h4 : g4 = apV g3 p3 4 d) (h5 : g5 = apV g4 p4 4 e) (q1 : p1 = p + 4) (q2 : p2 = p + 8) (q3 : p3 = p + 12) (q4 : p4 = p + 16) (hp : p ≤ 580) : uT g5 = (if p ≤ 580 then fdW (uT g0) p a b c d e else uT g0) := by
  rw [if_pos hp]
  funext t
  rw [uT_e, h5]
  by_cases i5 : p4 ≤ t ∧ t < p4 + 4
  · have e9 : fdW (uT g0) p a b c d e t = fdK a b c d e (t - p) := if_pos (by omega)
    rw [ap_y i5, by_and, e9]
    unfold fdK fdA
    rw [if_neg (by omega), if_neg (by omega), if_neg (by omega), if_neg (by omega), show 24 - 8 * (t - p4) = 24 - 8 * ((t - p) % 4) by omega]
  · rw [ap_n i5, h4]
    by_cases i4 : p3 ≤ t ∧ t < p3 + 4
    · have e9 : fdW (uT g0) p a b c d e t = fdK a b c d e (t - p) := if_pos (by omega)
      rw [ap_y i4, by_and, e9]
      unfold fdK fdA
      rw [if_neg (by omega), if_neg (by omega), if_neg (by omega), if_pos (by omega), show 24 - 8 * (t - p3) = 24 - 8 * ((t - p) % 4) by omega]
    · rw [ap_n i4, h3]
      by_cases i3 : p2 ≤ t ∧ t < p2 + 4
      · have e9 : fdW (uT g0) p a b c d e t = fdK a b c d e (t - p) := if_pos (by omega)
        rw [ap_y i3, by_and, e9]
        unfold fdK fdA
        rw [if_neg (by omega), if_neg (by omega), if_pos (by omega), show 24 - 8 * (t - p2) = 24 - 8 * ((t - p) % 4) by omega]
      · rw [ap_n i3, h2]
        by_cases i2 : p1 ≤ t ∧ t < p1 + 4
        · have e9 : fdW (uT g0) p a b c d e t = fdK a b c d e (t - p) := if_pos (by omega)
          rw [ap_y i2, by_and, e9]
          unfold fdK fdA
          rw [if_neg (by omega), if_pos (by omega), show 24 - 8 * (t - p1) = 24 - 8 * ((t - p) % 4) by omega]
        · rw [ap_n i2, h1]
          by_cases i1 : p ≤ t ∧ t < p + 4
          · have e9 : fdW (uT g0) p a b c d e t = fdK a b c d e (t - p) := if_pos (by omega)
            rw [ap_y i1, by_and, e9]
            unfold fdK fdA
            rw [if_pos (by omega), show 24 - 8 * (t - p) = 24 - 8 * ((t - p) % 4) by omega]
          · have e9 : fdW (uT g0) p a b c d e t = uT g0 t := if_neg (by omega)
            rw [ap_n i1, e9, uT_e]
theorem fd_inv {T Y g g' : Int → Int} {p p' a b c d e a' b' c' d' e' : Int} (h0 : ∀ t, T t = Y t % 256) (hp : p = p') (ha : a = a') (hb : b = b') (hc : c = c') (hd : d = d') (he : e = e') (h1 : uT g = (if p ≤ 580 then fdW (uT Y) p a b c d e else uT Y)) (h2 : g' = (if p' ≤ 580 then fdW T p' a' b' c' d' e' else T)) : ∀ t, g' t = g t % 256 := by
  have e0 : T = uT Y := funext h0
  subst hp ha hb hc hd he
  rw [e0, ← h1] at h2
  intro t
  rw [h2]
  rfl
theorem tw_c1 {X : Int × Int} {b p r fp hi hi' : Int} (h : (X.1 = 0 → b = 0) ∧ (¬ X.1 = 0 → b = X.1 ∧ p = X.2)) (hb : ¬ b = 0) (hr : r = b) (hf : fp = p) (hh : hi' = hi) : TwR X r fp hi hi' := by
  refine ⟨fun z => absurd (h.1 z) hb, fun z => ?_⟩
  obtain ⟨h1, h2⟩ := h.2 z
  exact ⟨hr.trans h1, hf.trans h2, hh⟩
theorem tw_c0 {X : Int × Int} {b p r fp hi hi' : Int} (h : (X.1 = 0 → b = 0) ∧ (¬ X.1 = 0 → b = X.1 ∧ p = X.2)) (hb : b = 0) (hr : r = 0) (hf : fp = -1) (hh : hi' = 0) : TwR X r fp hi hi' := by
  refine ⟨fun _ => ⟨hr, hf, hh⟩, fun z => ?_⟩
  have h1 := (h.2 z).1
  exact absurd (h1.symm.trans hb) z
theorem tw_eq {T Y : Int → Int} {n n' r fp hi hi' r2 c2 fp2 hi2 hi2' : Int} (h0 : ∀ t, T t = Y t % 256) (hn : n = n') (hm : c2 = 0 ∧ TwR (bd ((0 : Int), sk T n 0) (twF T n 600 0 0 0 1)) r fp hi hi') (hc : TwR (bd ((0 : Int), sk (uT Y) n' 0) (twF (uT Y) n' 600 0 0 0 1)) r2 fp2 hi2 hi2') (hh : hi = hi2) : c2 = 0 ∧ r2 = r ∧ fp2 = fp ∧ hi2' = hi' := by
  have e0 : T = uT Y := funext h0
  subst hn
  obtain ⟨hm1, hm2⟩ := hm
  rw [e0] at hm2
  refine ⟨hm1, ?_⟩
  by_cases z : (bd ((0 : Int), sk (uT Y) n 0) (twF (uT Y) n 600 0 0 0 1)).1 = 0
  · obtain ⟨a1, a2, a3⟩ := hm2.1 z
    obtain ⟨b1, b2, b3⟩ := hc.1 z
    exact ⟨b1.trans a1.symm, b2.trans a2.symm, b3.trans a3.symm⟩
  · obtain ⟨a1, a2, a3⟩ := hm2.2 z
    obtain ⟨b1, b2, b3⟩ := hc.2 z
    exact ⟨b1.trans a1.symm, b2.trans a2.symm, (b3.trans hh.symm).trans a3.symm⟩
theorem tp_r {T Y : Int → Int} (h0 : ∀ t, T t = Y t % 256) : ∀ t, 0 ≤ t → t < 600 → 0 ≤ T t ∧ T t ≤ 255 := by
  intro t _ _
  have := h0 t
  omega
theorem up_eq {f g : Nat → Int64} {x y : Int64} (h : g = vp_updL f (0 : Int).toNat x) (hx : x = y) : g 0 = y := by
  rw [h, ← hx]
  exact if_pos rfl
theorem cm_0 {z1 z2 : Int64} {g : Nat → Int64} {c q b : Int} (h3 : c = bCmp z1 z2) (h1 : z1 = g (0 : Int).toNat) (hg : g 0 = (Int32.ofInt q).toInt64) (h2 : z2 = (Int32.ofInt b).toInt64) (hq : q = b) : c = 0 := by
  have e1 : z1 = z2 := by
    rw [h1, h2, ← hq]
    exact hg
  rw [h3, e1]
  unfold bCmp lg_cmp
  rw [if_neg (by simp), if_pos rfl]
  rfl
