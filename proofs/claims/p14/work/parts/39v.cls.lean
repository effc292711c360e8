/-! the class's reader: bytes as numbers 0 to 255, what its fields say at a start, its words -/
def uT (g : Int → Int) : Int → Int := fun t => g t % 256
theorem uT_e (g : Int → Int) (t : Int) : uT g t = g t % 256 := rfl
theorem ez_inj {k : Nat → ClassId} {A : Nat → Prop} {U : State} {H : Heap} (h : EZ k A U H) {i j : Nat} (hi : i < 24) (hj : j < 24) (e : k (400 + i) = k (400 + j)) : i = j := by
  obtain ⟨cf, kk, ii, f, cell, h1, h2, h3, h4, h5, h6⟩ := ez_ord h i hi
  obtain ⟨cf', kk', ii', f', cell', g1, g2, g3, g4, g5, g6⟩ := ez_ord h j hj
  have e1 := h1.symm.trans g1
  injection e1 with e1
  injection e1 with _ e1
  injection e1 with _ e1
  injection e1 with _ e1
  subst e1
  have h3 : H[k (400 + i)]? = some cell := h3
  have g3 : H[k (400 + j)]? = some cell' := g3
  rw [e] at h3
  have e2 := h3.symm.trans g3
  injection e2 with e2
  subst e2
  have e3 := h5.symm.trans g5
  injection e3 with e3
  injection e3 with e3
  have := (iz_eq (a := (i : Int)) (b := (j : Int)) ⟨by omega, by omega⟩ ⟨by omega, by omega⟩).mp e3
  omega
theorem wq_eq {k : Nat → ClassId} {A : Nat → Prop} {U : State} {H : Heap} (hZ : EZ k A U H) {a b : Int} (ha : 0 ≤ a ∧ a ≤ 23) (hb : 0 ≤ b ∧ b ≤ 23) (q : (some (k (400 + a.toNat)) : Option Nat) = some (k (400 + b.toNat))) : a = b := by
  injection q with q
  have := ez_inj hZ (i := a.toNat) (j := b.toNat) (by omega) (by omega) q
  omega
theorem wq_ne {k : Nat → ClassId} {a b : Int} (q : ¬ (some (k (400 + a.toNat)) : Option Nat) = some (k (400 + b.toNat))) : ¬ a = b := fun e => q (by rw [e])
def sgn (T : Int → Int) (n s : Int) : Int := if kd T n s = 3 then T s else 0
def nmb (T : Int → Int) (n s : Int) : Int := if en T n s - s ≤ 4 then dv T s (en T n s) else -1
def CR (T : Int → Int) (n s e k w v g : Int) : Prop := e = en T n s ∧ k = kd T n s ∧ w = cw T n s ∧ (k = 2 → v = nmb T n s) ∧ g = sgn T n s
def CT (T : Int → Int) (n b s e k w v g : Int) : Prop := CR T n s e k w v g ∧ (¬ b = 0 → s = n)
theorem cwB_no {T : Int → Int} {n s : Int} (h : ¬ kd T n s = 1) : ∀ k : Nat, cwB T n s k = 23
  | 0 => rfl
  | k + 1 => (if_neg (fun z => h z.1)).trans (cwB_no h k)
theorem cw_no {T : Int → Int} {n s : Int} (h : ¬ kd T n s = 1) : cw T n s = 23 := cwB_no h 23
theorem kd_w {T : Int → Int} {n s : Int} (h : s < n) (ht : 97 ≤ T s ∧ T s ≤ 122) : kd T n s = 1 ∧ en T n s = rE T n 97 122 s := ⟨by unfold kd; rw [if_pos h, if_pos ht], by unfold en; rw [if_pos h, if_pos ht]⟩
theorem kd_d {T : Int → Int} {n s : Int} (h : s < n) (ht : 48 ≤ T s ∧ T s ≤ 57) : kd T n s = 2 ∧ en T n s = rE T n 48 57 s := ⟨by unfold kd; rw [if_pos h, if_neg (by omega), if_pos ht], by unfold en; rw [if_pos h, if_neg (by omega), if_pos ht]⟩
theorem kd_m {T : Int → Int} {n s : Int} (h : s < n) (h1 : ¬ (97 ≤ T s ∧ T s ≤ 122)) (h2 : ¬ (48 ≤ T s ∧ T s ≤ 57)) : en T n s = s + 1 ∧ (isMk (T s) → kd T n s = 3) ∧ (¬ isMk (T s) → kd T n s = 4) := ⟨by unfold en; rw [if_pos h, if_neg h1, if_neg h2], fun z => by unfold kd; rw [if_pos h, if_neg h1, if_neg h2, if_pos z], fun z => by unfold kd; rw [if_pos h, if_neg h1, if_neg h2, if_neg z]⟩
theorem rE_gt {T : Int → Int} {n lo hi s : Int} (h : s < rE T n lo hi s) : s < n ∧ lo ≤ T s ∧ T s ≤ hi := by
  by_cases z : s < n ∧ lo ≤ T s ∧ T s ≤ hi
  · exact z
  · rw [rE_stop z] at h
    omega
theorem rE_le {T : Int → Int} {n lo hi s : Int} (h : rE T n lo hi s ≤ s) (hn : s < n) : ¬ (lo ≤ T s ∧ T s ≤ hi) := by
  intro z
  rw [rE_step hn z] at h
  have := rE_r (T := T) (n := n) (lo := lo) (hi := hi) (p := s + 1) (by omega)
  omega
theorem cr_end {T : Int → Int} {n s e k w v g : Int} (hs : ¬ s < n) (he : e = s) (hk : k = 0) (hw : w = 23) (hg : g = 0) : CR T n s e k w v g := by
  have h0 := (kd_0 (T := T)).mpr hs
  exact ⟨by rw [en_end hs]; exact he, by rw [h0]; exact hk, by rw [cw_no (by omega)]; exact hw, fun z => absurd z (by omega), by unfold sgn; rw [if_neg (by omega)]; exact hg⟩
theorem cr_word {T : Int → Int} {n s e k w v g : Int} (h : s < n) (ht : 97 ≤ T s ∧ T s ≤ 122) (he : e = rE T n 97 122 s) (hk : k = 1) (hw : w = cw T n s) (hg : g = 0) : CR T n s e k w v g := by
  have h0 := kd_w h ht
  exact ⟨by rw [h0.2]; exact he, by rw [h0.1]; exact hk, hw, fun z => absurd z (by omega), by unfold sgn; rw [if_neg (by omega)]; exact hg⟩
theorem cr_num {T : Int → Int} {n s e k w v g : Int} (h : s < n) (ht : 48 ≤ T s ∧ T s ≤ 57) (he : e = rE T n 48 57 s) (hk : k = 2) (hw : w = 23) (hv : v = nmb T n s) (hg : g = 0) : CR T n s e k w v g := by
  have h0 := kd_d h ht
  exact ⟨by rw [h0.2]; exact he, by rw [h0.1]; exact hk, by rw [cw_no (by omega)]; exact hw, fun _ => hv, by unfold sgn; rw [if_neg (by omega)]; exact hg⟩
def SGp (T : Int → Int) (s k g : Int) : Prop := (isMk (T s) ∧ k = 3 ∧ g = T s) ∨ (¬ isMk (T s) ∧ k = 4 ∧ g = 0)
theorem cr_sign {T : Int → Int} {n s e k w v g : Int} (h : s < n) (h1 : ¬ (97 ≤ T s ∧ T s ≤ 122)) (h2 : ¬ (48 ≤ T s ∧ T s ≤ 57)) (he : e = s + 1) (hw : w = 23) (hm : SGp T s k g) : CR T n s e k w v g := by
  obtain ⟨a1, a2, a3⟩ := kd_m h h1 h2
  rcases hm with ⟨m1, m2, m3⟩ | ⟨m1, m2, m3⟩
  · have h0 := a2 m1
    exact ⟨by rw [a1]; exact he, by rw [h0]; exact m2, by rw [cw_no (by omega)]; exact hw, fun z => absurd z (by omega), by unfold sgn; rw [if_pos h0]; exact m3⟩
  · have h0 := a3 m1
    exact ⟨by rw [a1]; exact he, by rw [h0]; exact m2, by rw [cw_no (by omega)]; exact hw, fun z => absurd z (by omega), by unfold sgn; rw [if_neg (by omega)]; exact m3⟩
/-! takeWord -/
theorem ch_rng : ∀ (a : Fin 47) (b : Fin 7), b.val < lenS.getD a.val 0 → 97 ≤ chZ a.val b.val ∧ chZ a.val b.val ≤ 122 := by decide +kernel
theorem wc_i {T : Int → Int} {n s e x i : Int} {sx : Nat} (hk : kd T n s = 1) (he : e = en T n s) (h : (x = 1 ∧ ((lenS.getD sx 0 : Nat) : Int) = e - s) ∨ (x = 0 ∧ ¬ ((lenS.getD sx 0 : Nat) : Int) = e - s)) (hi : i = 0) : WI T n 0 s sx x i := by
  rcases h with h | h
  · exact ⟨fun _ => ⟨rfl, hk, by rw [← he]; exact h.2, fun j hj => absurd hj (by omega)⟩, fun z => absurd z (by omega)⟩
  · exact ⟨fun z => absurd z (by omega), fun _ z => h.2 (by rw [he]; exact z.2.2.1)⟩
theorem wc_s {g : Int → Int} {n s x x' i i' c z : Int} {sx : Nat} (hs : sx < 47) (h : WI (uT g) n 0 s sx x i) (hx : x = 1) (h0 : 0 ≤ i) (hl : i < ((lenS.getD sx 0 : Nat) : Int)) (hc : c = bChar (bAnd (chZ sx i.toNat) 255)) (hz : z = g (s + i)) (hb : -128 ≤ z ∧ z < 128) (h' : (x' = 1 ∧ z = c) ∨ (x' = 0 ∧ ¬ z = c)) (hi : i' = i + 1) : WI (uT g) n 0 s sx x' i' := by
  have hl6 := lenS_ok sx hs
  have e1 : c = chZ sx i.toNat := hc.trans (ch_eq hs (by omega))
  have e2 := ch_rng ⟨sx, hs⟩ ⟨i.toNat, by omega⟩ (by show i.toNat < lenS.getD sx 0; omega)
  have e2 : 97 ≤ chZ sx i.toNat ∧ chZ sx i.toNat ≤ 122 := e2
  have e3 := uT_e g (s + i)
  rcases h' with q | q
  · exact wi_s1 hs h hx h0 hl hc (by omega) q.1 hi
  · exact wi_s0 hs h hx h0 hl hc (by omega) q.1
theorem cw_i {T : Int → Int} {n s w x : Int} (hw : w = 23) (hx : x = 0) : w = cwB T n s x.toNat := by
  subst hx
  exact hw
theorem cw_y {T : Int → Int} {n s r x : Int} (h : Isr r 0 (isWd T n (23 + x.toNat) s)) (hr : ¬ r = 0) (h0 : 0 ≤ x) : x = cwB T n s (x + 1).toNat := by
  have e9 : (x + 1).toNat = x.toNat + 1 := by omega
  rw [e9]
  have e8 : cwB T n s (x.toNat + 1) = ((x.toNat : Nat) : Int) := if_pos (isr_y h hr).2
  rw [e8]
  omega
theorem cw_n {T : Int → Int} {n s r w x : Int} (h : Isr r 0 (isWd T n (23 + x.toNat) s)) (hr : r = 0) (hw : w = cwB T n s x.toNat) (h0 : 0 ≤ x) : w = cwB T n s (x + 1).toNat := by
  have e9 : (x + 1).toNat = x.toNat + 1 := by omega
  rw [e9, hw]
  exact (if_neg (isr_n h hr rfl)).symm
theorem cw_x {T : Int → Int} {n s w x : Int} (hw : w = cwB T n s x.toNat) (hx : x = 24) (hk : kd T n s = 1) : w = cw T n s := by
  subst hx
  rw [hw]
  have hs : s < n := by
    by_cases z : s < n
    · exact z
    · have := (kd_0 (T := T)).mpr z
      omega
  have h9 := en_gt (T := T) hs
  have e : cwB T n s 24 = cwB T n s 23 := if_neg (fun z => by
    have z1 : ((lenS.getD (23 + 23) 0 : Nat) : Int) = en T n s - s := z.2.1
    have e0 : lenS.getD (23 + 23) 0 = 0 := by decide
    rw [e0] at z1
    omega)
  exact e
/-! takeNumber -/
def NB (T : Int → Int) (s e x v : Int) : Prop := e - s ≤ 4 → v = dS T s (x - s).toNat
theorem nb_i {T : Int → Int} {s e x v : Int} (h : e - s ≤ 4 → v = 0) (hx : x = s) : NB T s e x v := by
  intro q
  subst hx
  rw [h q, Int.sub_self]
  rfl
theorem nb_d {g : Int → Int} {n s e x z : Int} (hk : kd (uT g) n s = 2) (he : e = en (uT g) n s) (h0 : s ≤ x) (h1 : x < e) (hz : z = g x) (hb : -128 ≤ z ∧ z < 128) : 48 ≤ z ∧ z ≤ 57 ∧ uT g x = z := by
  have hs : s < n := by
    by_cases q : s < n
    · exact q
    · have := (kd_0 (T := uT g)).mpr q
      omega
  have hd : 48 ≤ uT g s ∧ uT g s ≤ 57 := by
    by_cases q : 48 ≤ uT g s ∧ uT g s ≤ 57
    · exact q
    · exfalso
      by_cases a : 97 ≤ uT g s ∧ uT g s ≤ 122
      · have := (kd_w hs a).1; omega
      · obtain ⟨-, a2, a3⟩ := kd_m hs a q
        by_cases c : isMk (uT g s)
        · have := a2 c; omega
        · have := a3 c; omega
  have hE := (kd_d hs hd).2
  have h9 := rE_in (T := uT g) (n := n) (lo := 48) (hi := 57) (x - s).toNat s x (by omega) h0 (by omega) (by omega)
  have e3 := uT_e g x
  omega
theorem nb_s {T : Int → Int} {n s e x v w z : Int} (h : NB T s e x v) (hk : kd T n s = 2) (he : e = en T n s) (h0 : s ≤ x) (h1 : x < e) (h4 : e - s ≤ 4) (hz : T x = z) (hw : w = 10 * v + z - 48) : NB T s e (x + 1) w ∧ 0 ≤ w ∧ w ≤ 9999 := by
  have e9 : (x + 1 - s).toNat = (x - s).toNat + 1 := by omega
  have e8 : w = dS T s (x + 1 - s).toNat := by
    rw [e9]
    show w = 10 * dS T s (x - s).toNat + T (s + (((x - s).toNat : Nat) : Int)) - 48
    rw [← h h4, show s + (((x - s).toNat : Nat) : Int) = x by omega, hz, hw]
  refine ⟨fun _ => e8, ?_⟩
  have hs : s < n := by
    by_cases q : s < n
    · exact q
    · have := (kd_0 (T := T)).mpr q
      omega
  have hd : 48 ≤ T s ∧ T s ≤ 57 := by
    by_cases q : 48 ≤ T s ∧ T s ≤ 57
    · exact q
    · exfalso
      by_cases a : 97 ≤ T s ∧ T s ≤ 122
      · have := (kd_w hs a).1; omega
      · obtain ⟨-, a2, a3⟩ := kd_m hs a q
        by_cases c : isMk (T s)
        · have := a2 c; omega
        · have := a3 c; omega
  have hE := (kd_d hs hd).2
  have b9 := dM_dS (T := T) (s := s) (x + 1 - s).toNat (by omega) (fun j hj => by
    have h9 := rE_in (T := T) (n := n) (lo := 48) (hi := 57) j s (s + (j : Int)) (by omega) (by omega) (by omega) (by omega)
    exact ⟨h9.1, h9.2.1⟩)
  rw [← e8] at b9
  exact b9.2
theorem nb_x {T : Int → Int} {n s e x v : Int} (h : NB T s e x v) (hx : e - s ≤ 4 → x = e) (hv : 4 < e - s → v = -1) (he : e = en T n s) : v = nmb T n s := by
  unfold nmb dv
  rw [← he]
  by_cases q : e - s ≤ 4
  · rw [if_pos q, h q, hx q]
  · rw [if_neg q]
    exact hv (by omega)
/-! the state behind a step -/
theorem ct_b {T : Int → Int} {n b s e k w v g : Int} (h : CT T n b s e k w v g) (hk : ¬ k = 0) : b = 0 := by
  by_cases z : b = 0
  · exact z
  · exfalso
    have h1 := h.2 z
    exact hk (h.1.2.1.trans (kd_0.mpr (by omega)))
theorem ct_lt {T : Int → Int} {n b s e k w v g : Int} (h : CT T n b s e k w v g) (hk : ¬ k = 0) : s < n := by
  by_cases z : s < n
  · exact z
  · exact absurd (h.1.2.1.trans (kd_0.mpr z)) hk
theorem ct_adv {T : Int → Int} {n b s e k w v g s' e' k' w' v' g' : Int} (h : CT T n b s e k w v g) (hs : s' = sk T n e) (hr : CR T n s' e' k' w' v' g') : CT T n b s' e' k' w' v' g' := by
  refine ⟨hr, fun z => ?_⟩
  have h1 := h.2 z
  have h2 : e = n := by rw [h.1.1, en_end (by omega)]; exact h1
  rw [hs, h2, sk_stop (by omega)]
def adF (T : Int → Int) (n s : Int) : Int × Int := (0, nx T n s)
theorem fc_adv {T : Int → Int} {n b p s e k w v g s' : Int} (h : CT T n b s e k w v g) (hs : s' = sk T n e) : val b p s' = bd (val b p s) (adF T n) := by
  by_cases z : b = 0
  · rw [bv_ok z, val_ok z, hs, h.1.1]
    rfl
  · rw [bv_no z, val_no z, val_no z]
theorem ad_nx {T : Int → Int} {n b s e k w v g s' : Int} (h : CT T n b s e k w v g) (hs : s' = sk T n e) : s' = nx T n s := by
  rw [hs, h.1.1]
  rfl
theorem fc_fail {b p s s' b' p' c : Int} (h1 : ¬ b = 0 → b' = b ∧ p' = p) (h2 : b = 0 → b' = c ∧ p' = s) (hc : ¬ c = 0) : val b' p' s' = bd (val b p s) (fun s => (c, s)) := by
  by_cases z : b = 0
  · obtain ⟨e1, e2⟩ := h2 z
    rw [bv_ok z, e1, e2]
    exact val_no hc
  · obtain ⟨e1, e2⟩ := h1 z
    rw [bv_no z, e1, e2, val_no z, val_no z]
theorem fc_eq {b p s : Int} {F G : Int → Int × Int} {w : Int × Int} (hv : w = bd (val b p s) F) (h : b = 0 → F s = G s) : w = bd (val b p s) G := hv.trans (bv_eq h)
theorem fc_2 {b p s : Int} {F G : Int → Int × Int} {w w1 : Int × Int} (h1 : w1 = bd (val b p s) F) (h2 : w = bd w1 G) : w = bd (val b p s) (fun s => bd (F s) G) := by
  rw [h2, h1, bd_bd]
theorem fc_id {b p s : Int} {F : Int → Int × Int} (h : b = 0 → F s = (0, s)) : val b p s = bd (val b p s) F := (bv_id h).symm
theorem ct_fail {T : Int → Int} {n b s e k w v g : Int} (hs : s = n) (he : e = n) (hk : k = 0) (hw : w = 23) (hg : g = 0) : CT T n b s e k w v g := ⟨cr_end (by omega) (by omega) hk hw hg, fun _ => hs⟩
/-! numbers, words, signs -/
theorem nc_0 {T : Int → Int} {n b p s e k w v g l t : Int} {x : Int × Int} (h : CT T n b s e k w v g) (hk : ¬ k = 2) (hv : x = bd (val b p s) (fun s => (1, s))) : x = bd (val b p s) (numF T n l t) := fc_eq hv (fun _ => by
  have hk' : ¬ kd T n s = 2 := fun z => hk (h.1.2.1.trans z)
  unfold numF
  rw [if_neg hk'])
theorem nc_2 {T : Int → Int} {n b p s e k w v g l t : Int} {x : Int × Int} (h : CT T n b s e k w v g) (hk : k = 2) (hl : 0 ≤ l) (hr : v < l ∨ t < v) (hv : x = bd (val b p s) (fun s => (2, s))) : x = bd (val b p s) (numF T n l t) := fc_eq hv (fun _ => by
  have hk' : kd T n s = 2 := h.1.2.1.symm.trans hk
  have hn := h.1.2.2.2.1 hk
  unfold nmb at hn
  unfold numF
  rw [if_pos hk']
  refine (if_neg ?_).symm
  rintro ⟨h1, h2, h3⟩
  rw [if_pos h1] at hn
  omega)
theorem nc_1 {T : Int → Int} {n b p s e k w v g l t s' : Int} (h : CT T n b s e k w v g) (hk : k = 2) (hl : 0 ≤ l) (h1 : l ≤ v) (h2 : v ≤ t) (hs : s' = sk T n e) : val b p s' = bd (val b p s) (numF T n l t) ∧ v = dv T s (en T n s) := by
  have hk' : kd T n s = 2 := h.1.2.1.symm.trans hk
  have hn := h.1.2.2.2.1 hk
  unfold nmb at hn
  by_cases q : en T n s - s ≤ 4
  · rw [if_pos q] at hn
    refine ⟨fc_eq (fc_adv h hs) (fun _ => ?_), hn⟩
    unfold numF adF
    rw [if_pos hk', if_pos ⟨q, by omega, by omega⟩]
  · rw [if_neg q] at hn
    omega
def cwF (T : Int → Int) (n c s : Int) : Int × Int := if cw T n s = c then (0, nx T n s) else (1, s)
theorem wc_1 {T : Int → Int} {n b p s e k w v g c s' : Int} (h : CT T n b s e k w v g) (hw : w = c) (hs : s' = sk T n e) : val b p s' = bd (val b p s) (cwF T n c) := fc_eq (fc_adv h hs) (fun _ => (if_pos (h.1.2.2.1.symm.trans hw)).symm)
theorem wc_0 {T : Int → Int} {n b p s e k w v g c : Int} {x : Int × Int} (h : CT T n b s e k w v g) (hw : ¬ w = c) (hv : x = bd (val b p s) (fun s => (1, s))) : x = bd (val b p s) (cwF T n c) := fc_eq hv (fun _ => (if_neg (fun z => hw (h.1.2.2.1.trans z))).symm)
theorem cwF_18 {T : Int → Int} {n : Int} : cwF T n 11 = wdF T n 18 := by
  funext s
  unfold cwF wdF
  by_cases q : isWd T n 18 s
  · have e9 : cw T n s = 11 := (isWd_C 18 (by decide)).mp q
    rw [if_pos q, if_pos e9]
  · have e9 : ¬ cw T n s = 11 := fun z => q ((isWd_C 18 (by decide)).mpr z)
    rw [if_neg q, if_neg e9]
theorem sg_is {T : Int → Int} {n s c : Int} (hc : ¬ c = 0) : sgn T n s = c ↔ isM T n c s := by
  unfold sgn
  by_cases q : kd T n s = 3
  · rw [if_pos q]
    exact ⟨fun z => ⟨q, z⟩, fun z => z.2⟩
  · rw [if_neg q]
    exact ⟨fun z => absurd z.symm hc, fun z => absurd z.1 q⟩
theorem sc_1 {T : Int → Int} {n b p s e k w v g c s' : Int} (h : CT T n b s e k w v g) (hc : ¬ c = 0) (hg : g = c) (hs : s' = sk T n e) : val b p s' = bd (val b p s) (mkF T n c) := fc_eq (fc_adv h hs) (fun _ => (if_pos ((sg_is hc).mp (h.1.2.2.2.2.symm.trans hg))).symm)
theorem sc_0 {T : Int → Int} {n b p s e k w v g c : Int} {x : Int × Int} (h : CT T n b s e k w v g) (hc : ¬ c = 0) (hg : ¬ g = c) (hv : x = bd (val b p s) (fun s => (1, s))) : x = bd (val b p s) (mkF T n c) := fc_eq hv (fun _ => (if_neg (fun z => hg (h.1.2.2.2.2.trans ((sg_is hc).mpr z)))).symm)
def Opr (r : Int) (o : Bool) : Prop := (¬ r = 0 → o = true) ∧ (r = 0 → ¬ o = true)
theorem ow_y {T : Int → Int} {n b s e k w v g r : Int} {a : Nat} (h : CT T n b s e k w v g) (ha : a < 23) (hw : w = (wdC a : Nat)) (hr : ¬ r = 0) : Opr r (opW T n a s) := ⟨fun _ => decide_eq_true ((isWd_C a ha).mpr (h.1.2.2.1.symm.trans hw)), fun z => absurd z hr⟩
theorem ow_n {T : Int → Int} {n b s e k w v g r : Int} {a : Nat} (h : CT T n b s e k w v g) (ha : a < 23) (hw : ¬ w = (wdC a : Nat)) (hr : r = 0) : Opr r (opW T n a s) := ⟨fun z => absurd hr z, fun _ z => hw (h.1.2.2.1.trans ((isWd_C a ha).mp (of_decide_eq_true z)))⟩
theorem o2_y {T : Int → Int} {n b s e k w v g r a c : Int} (h : CT T n b s e k w v g) (ha : ¬ a = 0) (hc : ¬ c = 0) (hg : g = a ∨ g = c) (hr : ¬ r = 0) : Opr r (op2 T n a c s) := ⟨fun _ => decide_eq_true (hg.elim (fun z => Or.inl ((sg_is ha).mp (h.1.2.2.2.2.symm.trans z))) (fun z => Or.inr ((sg_is hc).mp (h.1.2.2.2.2.symm.trans z)))), fun z => absurd z hr⟩
theorem o2_n {T : Int → Int} {n b s e k w v g r a c : Int} (h : CT T n b s e k w v g) (ha : ¬ a = 0) (hc : ¬ c = 0) (hg : ¬ (g = a ∨ g = c)) (hr : r = 0) : Opr r (op2 T n a c s) := ⟨fun z => absurd hr z, fun _ z => hg ((of_decide_eq_true z).elim (fun z => Or.inl (h.1.2.2.2.2.trans ((sg_is ha).mpr z))) (fun z => Or.inr (h.1.2.2.2.2.trans ((sg_is hc).mpr z))))⟩
/-! loops -/
theorem lc_j {T : Int → Int} {n : Int} {sub : Int → Int × Int} {op : Int → Bool} {X w : Int × Int} {j j' : Nat} (hj : j = j') (h : X = bd w (loopF T n sub op j')) : X = bd w (loopF T n sub op j) := hj ▸ h
theorem lc_s {T : Int → Int} {n b p s e k w v g s1 r : Int} {sub : Int → Int × Int} {op : Int → Bool} {X y : Int × Int} {j j' : Nat} (hLV : X = bd (val b p s) (loopF T n sub op j)) (ht : CT T n b s e k w v g) (hop : Opr r (op s)) (hr : ¬ r = 0) (ho : ∀ s, op s = true → s < n) (hs : s1 = sk T n e) (hv : y = bd (val b p s1) sub) (hj : j = j' + 1) : X = bd y (loopF T n sub op j') := by
  have h1 := hop.1 hr
  have h2 := ho s h1
  have hb : b = 0 := by
    by_cases z : b = 0
    · exact z
    · have := ht.2 z
      omega
  subst hj
  rw [hLV, hv, bv_ok hb, bv_ok hb, ad_nx ht hs]
  exact if_pos h1
theorem lc_x {T : Int → Int} {n b p s : Int} {sub : Int → Int × Int} {op : Int → Bool} {X : Int × Int} {j : Nat} (hLV : X = bd (val b p s) (loopF T n sub op j)) (h : j = 0 ∨ ¬ op s = true) : val b p s = X := by
  refine (hLV.trans (bv_id (fun hb => ?_))).symm
  cases j with
  | zero => rfl
  | succ j => exact if_neg (h.resolve_left (by omega))
/-! nots -/
theorem nk_s {T : Int → Int} {n b p s e k w v g s1 x x' : Int} {X : Int × Int} (hLV : X = bd (val b p s) (ntF T n (6 - x).toNat)) (ht : CT T n b s e k w v g) (hw : w = 16) (hs : s1 = sk T n e) (hx : x < 6) (hx' : x' = x + 1) : X = bd (val b p s1) (ntF T n (6 - x').toNat) := by
  have h9 : isWd T n 20 s := (isWd_C 20 (by decide)).mpr (ht.1.2.2.1.symm.trans hw)
  have hl := isWd_lt h9
  have hb : b = 0 := by
    by_cases z : b = 0
    · exact z
    · have := ht.2 z
      omega
  rw [hLV, bv_ok hb, bv_ok hb, ad_nx ht hs, show (6 - x).toNat = (6 - x').toNat + 1 by omega]
  exact if_pos h9
theorem nk_w {T : Int → Int} {n b p s e k w v g x b' p' s' s2 : Int} {j : Nat} {X : Int × Int} (hLV : X = bd (val b p s) (ntF T n (6 - x).toNat)) (ht : CT T n b s e k w v g) (hw : w = 16) (hx : x = 6) (hv : val b' p' s' = bd (val b p s) (fun s => (2, s))) (hb' : ¬ b' = 0) : X = bd (val b' p' s2) (ntF T n j) := by
  have h9 : isWd T n 20 s := (isWd_C 20 (by decide)).mpr (ht.1.2.2.1.symm.trans hw)
  have e2 : val b' p' s2 = val b' p' s' := by rw [val_no hb', val_no hb']
  rw [bv_no hb', e2, hv, hLV, hx]
  exact bv_eq (fun _ => if_pos h9)
theorem nk_x {T : Int → Int} {n b p s e k w v g : Int} {j : Nat} {X : Int × Int} (hLV : X = bd (val b p s) (ntF T n j)) (ht : CT T n b s e k w v g) (h : ¬ b = 0 ∨ ¬ w = 16) : val b p s = X := by
  refine (hLV.trans (bv_id (fun hb => ?_))).symm
  have h9 : ¬ isWd T n 20 s := fun z => (h.resolve_left (fun q => q hb)) (ht.1.2.2.1.trans ((isWd_C 20 (by decide)).mp z))
  cases j with
  | zero => exact if_neg h9
  | succ j => exact if_neg h9
/-! parts of an expression -/
theorem va_t : ∀ w : Fin 24, ¬ valZ w.val = -1 ↔ (w.val = 17 ∨ w.val = 18 ∨ w.val = 19 ∨ w.val = 20 ∨ w.val = 21 ∨ w.val = 0 ∨ w.val = 22) := by decide +kernel
theorem va_is {T : Int → Int} {n s w : Int} (hw : w = cw T n s) : ¬ valZ w.toNat = -1 ↔ isVal T n s := by
  have hr := cw_r (T := T) (n := n) (s := s)
  have h9 := va_t ⟨w.toNat, by omega⟩
  have h9 : ¬ valZ w.toNat = -1 ↔ (w.toNat = 17 ∨ w.toNat = 18 ∨ w.toNat = 19 ∨ w.toNat = 20 ∨ w.toNat = 21 ∨ w.toNat = 0 ∨ w.toNat = 22) := h9
  have c1 : isWd T n 12 s ↔ cw T n s = 17 := isWd_C 12 (by decide)
  have c2 : isWd T n 13 s ↔ cw T n s = 18 := isWd_C 13 (by decide)
  have c3 : isWd T n 14 s ↔ cw T n s = 19 := isWd_C 14 (by decide)
  have c4 : isWd T n 15 s ↔ cw T n s = 20 := isWd_C 15 (by decide)
  have c5 : isWd T n 16 s ↔ cw T n s = 21 := isWd_C 16 (by decide)
  have c6 : isWd T n 0 s ↔ cw T n s = 0 := isWd_C 0 (by decide)
  have c7 : isWd T n 17 s ↔ cw T n s = 22 := isWd_C 17 (by decide)
  rw [h9]
  unfold isVal
  rw [c1, c2, c3, c4, c5, c6, c7]
  omega
theorem pt_2 {T : Int → Int} {n b p s e k w v g : Int} {inner : Int → Int × Int} {x : Int × Int} (h : CT T n b s e k w v g) (hk : k = 2) (hv : x = bd (val b p s) (numF T n 0 9999)) : x = bd (val b p s) (partF T n inner) := fc_eq hv (fun _ => (if_pos (h.1.2.1.symm.trans hk)).symm)
theorem pt_v {T : Int → Int} {n b p s e k w v g s' z : Int} {inner : Int → Int × Int} (h : CT T n b s e k w v g) (hk : ¬ k = 2) (hz : z = valZ w.toNat) (hz1 : ¬ z = -1) (hs : s' = sk T n e) : val b p s' = bd (val b p s) (partF T n inner) := fc_eq (fc_adv h hs) (fun _ => by
  unfold partF
  rw [if_neg (fun q => hk (h.1.2.1.trans q)), if_pos ((va_is h.1.2.2.1).mp (hz ▸ hz1))]
  rfl)
theorem pt_m {T : Int → Int} {n b p s e k w v g s1 z : Int} {inner : Int → Int × Int} {x y : Int × Int} (h : CT T n b s e k w v g) (hk : ¬ k = 2) (hz : z = valZ w.toNat) (hz1 : z = -1) (hg : g = 40) (hs : s1 = sk T n e) (e2 : x = bd (val b p s1) inner) (e3 : y = bd x (mkF T n 41)) : y = bd (val b p s) (partF T n inner) := by
  have nv : ¬ isVal T n s := fun q => (va_is h.1.2.2.1).mpr q (hz ▸ hz1)
  have m : isM T n 40 s := (sg_is (by decide)).mp (h.1.2.2.2.2.symm.trans hg)
  rw [e3, e2, fc_adv (p := p) h hs, bd_bd, bd_bd]
  refine bv_eq (fun _ => ?_)
  unfold partF
  rw [if_neg (fun q => hk (h.1.2.1.trans q)), if_neg nv, if_pos m]
  rfl
theorem pt_e {T : Int → Int} {n b p s e k w v g z c : Int} {inner : Int → Int × Int} {x : Int × Int} (h : CT T n b s e k w v g) (hk : ¬ k = 2) (hz : z = valZ w.toNat) (hz1 : z = -1) (hg : ¬ g = 40) (hc : (k = 1 ∧ c = 3) ∨ (¬ k = 1 ∧ c = 1)) (hv : x = bd (val b p s) (fun s => (c, s))) : x = bd (val b p s) (partF T n inner) := fc_eq hv (fun _ => by
  have nv : ¬ isVal T n s := fun q => (va_is h.1.2.2.1).mpr q (hz ▸ hz1)
  have m : ¬ isM T n 40 s := fun q => hg (h.1.2.2.2.2.trans ((sg_is (by decide)).mpr q))
  have hk1 := h.1.2.1
  unfold partF
  rw [if_neg (fun q => hk (h.1.2.1.trans q)), if_neg nv, if_neg m]
  rcases hc with q | q
  · rw [if_pos (hk1.symm.trans q.1), q.2]
  · rw [if_neg (fun z => q.1 (hk1.trans z)), q.2])
theorem ec_6 {T : Int → Int} {n b p s e k w v g c : Int} {x : Int × Int} (h : CT T n b s e k w v g) (hc : ((k = 2 ∨ k = 1 ∨ g = 40) ∧ c = 2) ∨ (¬ (k = 2 ∨ k = 1 ∨ g = 40) ∧ c = 1)) (hv : x = bd (val b p s) (fun s => (c, s))) : x = bd (val b p s) (exF T n 0) := fc_eq hv (fun _ => by
  have hk1 := h.1.2.1
  have hg1 : g = 40 ↔ isM T n 40 s := by rw [h.1.2.2.2.2]; exact sg_is (by decide)
  show (c, s) = ((if kd T n s = 2 ∨ kd T n s = 1 ∨ isM T n 40 s then 2 else 1), s)
  have hP : (kd T n s = 2 ∨ kd T n s = 1 ∨ isM T n 40 s) ↔ (k = 2 ∨ k = 1 ∨ g = 40) := by rw [hk1, hg1]
  rcases hc with q | q
  · rw [if_pos (hP.mpr q.1), q.2]
  · rw [if_neg (fun z => q.1 (hP.mp z)), q.2])
theorem ec_m {T : Int → Int} {n : Int} {m m' : Nat} {w0 x : Int × Int} (hm : m = m' + 1) (h : x = bd w0 (orF T n (exF T n m'))) : x = bd w0 (exF T n m) := by
  subst hm
  exact h
