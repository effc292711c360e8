/-! what a state of a reader answers, and how the methods answer by it -/
def val (b p s : Int) : Int × Int := if b = 0 then (0, s) else (b, p)
theorem val_ok {b p s : Int} (h : b = 0) : val b p s = (0, s) := if_pos h
theorem val_no {b p s : Int} (h : ¬ b = 0) : val b p s = (b, p) := if_neg h
theorem bv_ok {b p s : Int} {F : Int → Int × Int} (h : b = 0) : bd (val b p s) F = F s := by rw [val_ok h]; exact bd_ok rfl
theorem bv_no {b p s : Int} {F : Int → Int × Int} (h : ¬ b = 0) : bd (val b p s) F = val b p s := by rw [val_no h]; exact bd_no h
theorem bv_eq {b p s : Int} {F G : Int → Int × Int} (h : b = 0 → F s = G s) : bd (val b p s) F = bd (val b p s) G := by
  by_cases z : b = 0
  · rw [bv_ok z, bv_ok z]; exact h z
  · rw [bv_no z, bv_no z]
theorem bv_id {b p s : Int} {F : Int → Int × Int} (h : b = 0 → F s = (0, s)) : bd (val b p s) F = val b p s := by
  by_cases z : b = 0
  · rw [bv_ok z, val_ok z]; exact h z
  · exact bv_no z
theorem bd_bd (r : Int × Int) (F G : Int → Int × Int) : bd (bd r F) G = bd r (fun s => bd (F s) G) := by
  by_cases h : r.1 = 0
  · rw [bd_ok h, bd_ok h]
  · rw [bd_no h, bd_no h, bd_no h]
/-- what the token's fields say where there is no fault -/
def TS (T : Int → Int) (n b s e k v : Int) : Prop := b = 0 → e = en T n s ∧ k = kd T n s ∧ (k = 2 → v = dM T s (e - s).toNat)
theorem TS_no {T : Int → Int} {n b s e k v : Int} (h : ¬ b = 0) : TS T n b s e k v := fun z => absurd z h
theorem TS_any {T : Int → Int} {n b s e k v : Int} (h : TS T n 0 s e k v) : TS T n b s e k v := fun _ => h rfl
theorem ts_end {T : Int → Int} {n s e k v : Int} (h : ¬ s < n) (he : e = s) (hk : k = 0) : TS T n 0 s e k v := by
  intro _
  subst he hk
  exact ⟨(en_end h).symm, (kd_0.mpr h).symm, fun z => absurd z (by decide)⟩
theorem ts_word {T : Int → Int} {n s e k v : Int} (h : s < n) (ht : 97 ≤ T s ∧ T s ≤ 122) (h1 : rE T n 97 122 e = rE T n 97 122 s) (h2 : ¬ (e < n ∧ 97 ≤ T e ∧ T e ≤ 122)) (hk : k = 1) : TS T n 0 s e k v := by
  intro _
  subst hk
  refine ⟨?_, ?_, fun z => absurd z (by decide)⟩
  · unfold en
    rw [if_pos h, if_pos ht, ← h1, rE_stop h2]
  · unfold kd
    rw [if_pos h, if_pos ht]
theorem ts_num {T : Int → Int} {n s e k v : Int} (h : s < n) (ht : 48 ≤ T s ∧ T s ≤ 57) (h1 : rE T n 48 57 e = rE T n 48 57 s) (h2 : ¬ (e < n ∧ 48 ≤ T e ∧ T e ≤ 57)) (hk : k = 2) (hv : v = dM T s (e - s).toNat) : TS T n 0 s e k v := by
  intro _
  subst hk
  refine ⟨?_, ?_, fun _ => hv⟩
  · unfold en
    rw [if_pos h, if_neg (by omega), if_pos ht, ← h1, rE_stop h2]
  · unfold kd
    rw [if_pos h, if_neg (by omega), if_pos ht]
def Mkr (r c : Int) : Prop := (r = 1 ∧ isMk c) ∨ (r = 0 ∧ ¬ isMk c)
theorem ts_sign {T : Int → Int} {n s e k v c r : Int} (h : s < n) (hc : c = T s) (h1 : ¬ (97 ≤ T s ∧ T s ≤ 122)) (h2 : ¬ (48 ≤ T s ∧ T s ≤ 57)) (hm : Mkr r c) (hr : (k = 3 ∧ ¬ r = 0) ∨ (k = 4 ∧ r = 0)) (he : e = s + 1) : TS T n 0 s e k v := by
  intro _
  subst hc he
  refine ⟨?_, ?_, fun z => by omega⟩
  · unfold en
    rw [if_pos h, if_neg h1, if_neg h2]
  · unfold kd
    rw [if_pos h, if_neg h1, if_neg h2]
    rcases hm with ⟨m1, m2⟩ | ⟨m1, m2⟩
    · rw [if_pos m2]; omega
    · rw [if_neg m2]; omega
theorem dM_step {T : Int → Int} {s p v w : Int} (h0 : s ≤ p) (h : v = dM T s (p - s).toNat) (hw : w = min 100000 (10 * v + T p - 48)) : w = dM T s (p + 1 - s).toNat := by
  obtain ⟨q, hq⟩ : ∃ q : Nat, (p - s).toNat = q := ⟨_, rfl⟩
  rw [show (p + 1 - s).toNat = q + 1 by omega]
  rw [hq] at h
  show w = min 100000 (10 * dM T s q + T (s + (q : Int)) - 48)
  rw [← h, hw, show s + (q : Int) = p by omega]
def Isr (r b : Int) (P : Prop) : Prop := (r = 1 ∧ b = 0 ∧ P) ∨ (r = 0 ∧ ¬ (b = 0 ∧ P))
theorem isr_y {r b : Int} {P : Prop} (h : Isr r b P) (hr : ¬ r = 0) : b = 0 ∧ P := by
  rcases h with h | h
  · exact h.2
  · exact absurd h.1 hr
theorem isr_n {r b : Int} {P : Prop} (h : Isr r b P) (hr : r = 0) (hb : b = 0) : ¬ P := by
  rcases h with h | h
  · exact absurd h.1 (by omega)
  · exact fun z => h.2 ⟨hb, z⟩
theorem isr_mark {T : Int → Int} {n b s e k v c r : Int} (ht : TS T n b s e k v) (h : (r = 1 ∧ b = 0 ∧ k = 3 ∧ T s = c) ∨ (r = 0 ∧ ¬ (b = 0 ∧ k = 3 ∧ T s = c))) : Isr r b (isM T n c s) := by
  rcases h with h | h
  · exact Or.inl ⟨h.1, h.2.1, (ht h.2.1).2.1 ▸ h.2.2.1, h.2.2.2⟩
  · exact Or.inr ⟨h.1, fun z => h.2 ⟨z.1, (ht z.1).2.1.trans z.2.1, z.2.2⟩⟩
/-- a word token against a text -/
theorem ch_at : ∀ (a : Fin 47) (b : Fin 7), bChar (bAnd (chZ a.val b.val) 255) = chZ a.val b.val := by decide +kernel
theorem ch_eq {sx q : Nat} (h : sx < 47) (hq : q < 7) : bChar (bAnd (chZ sx q) 255) = chZ sx q := ch_at ⟨sx, h⟩ ⟨q, hq⟩
def WI (T : Int → Int) (n b s : Int) (sx : Nat) (x i : Int) : Prop := (x = 1 → b = 0 ∧ kd T n s = 1 ∧ ((lenS.getD sx 0 : Nat) : Int) = en T n s - s ∧ ∀ j : Nat, (j : Int) < i → T (s + (j : Int)) = chZ sx j) ∧ (x = 0 → ¬ (b = 0 ∧ isWd T n sx s))
theorem wi_1 {T : Int → Int} {n b s e k v x i : Int} {sx : Nat} (ht : TS T n b s e k v) (hb : b = 0) (hk : k = 1) (hl : ((lenS.getD sx 0 : Nat) : Int) = e - s) (hx : x = 1) (hi : i = 0) : WI T n b s sx x i := by
  obtain ⟨h1, h2, -⟩ := ht hb
  exact ⟨fun _ => ⟨hb, h2 ▸ hk, h1 ▸ hl, fun j hj => absurd hj (by omega)⟩, fun z => absurd z (by omega)⟩
theorem wi_0 {T : Int → Int} {n b s e k v x i : Int} {sx : Nat} (ht : TS T n b s e k v) (h : ¬ (b = 0 ∧ k = 1 ∧ ((lenS.getD sx 0 : Nat) : Int) = e - s)) (hx : x = 0) : WI T n b s sx x i := by
  refine ⟨fun z => absurd z (by omega), fun _ z => h ?_⟩
  obtain ⟨h1, h2, -⟩ := ht z.1
  exact ⟨z.1, h2.trans z.2.1, by rw [h1]; exact z.2.2.1⟩
theorem wi_s1 {T : Int → Int} {n b s x x' i i' c : Int} {sx : Nat} (hs : sx < 47) (h : WI T n b s sx x i) (hx : x = 1) (h0 : 0 ≤ i) (hl : i < ((lenS.getD sx 0 : Nat) : Int)) (hc : c = bChar (bAnd (chZ sx i.toNat) 255)) (he : c = T (s + i)) (hx' : x' = 1) (hi : i' = i + 1) : WI T n b s sx x' i' := by
  obtain ⟨h1, h2, h3, h4⟩ := h.1 hx
  refine ⟨fun _ => ⟨h1, h2, h3, fun j hj => ?_⟩, fun z => absurd z (by omega)⟩
  by_cases q : (j : Int) < i
  · exact h4 j q
  · have hj2 : j = i.toNat := by omega
    have := lenS_ok sx hs
    subst hj2
    rw [show s + ((i.toNat : Nat) : Int) = s + i by omega, ← he, hc]
    exact ch_eq hs (by omega)
theorem wi_s0 {T : Int → Int} {n b s x x' i i' c : Int} {sx : Nat} (hs : sx < 47) (h : WI T n b s sx x i) (hx : x = 1) (h0 : 0 ≤ i) (hl : i < ((lenS.getD sx 0 : Nat) : Int)) (hc : c = bChar (bAnd (chZ sx i.toNat) 255)) (he : ¬ c = T (s + i)) (hx' : x' = 0) : WI T n b s sx x' i' := by
  refine ⟨fun z => absurd z (by omega), fun _ z => he ?_⟩
  have := lenS_ok sx hs
  have h9 := z.2.2.2 i.toNat (by omega)
  rw [show s + ((i.toNat : Nat) : Int) = s + i by omega] at h9
  rw [h9, hc]
  exact ch_eq hs (by omega)
theorem wi_end {T : Int → Int} {n b s x i : Int} {sx : Nat} (h : WI T n b s sx x i) (hx : x = 0 ∨ (x = 1 ∧ ((lenS.getD sx 0 : Nat) : Int) ≤ i)) : Isr x b (isWd T n sx s) := by
  rcases hx with q | q
  · exact Or.inr ⟨q, h.2 q⟩
  · obtain ⟨h1, h2, h3, h4⟩ := h.1 q.1
    exact Or.inl ⟨q.1, h1, h2, h3, fun j hj => h4 j (by omega)⟩
/-! which -/
def vwI (j : Nat) : Nat := ([12, 13, 14, 15, 16, 0, 17] : List Nat).getD j 0
def Wh (T : Int → Int) (n b s : Int) (ix : Nat → Nat) (N r : Int) : Prop := (r = -1 → ∀ j : Nat, (j : Int) < N → ¬ (b = 0 ∧ isWd T n (ix j) s)) ∧ (0 ≤ r → b = 0 ∧ isWd T n (ix r.toNat) s)
def Wn (T : Int → Int) (n b s : Int) (ix : Nat → Nat) (N : Int) : Prop := ∀ j : Nat, (j : Int) < N → ¬ (b = 0 ∧ isWd T n (ix j) s)
theorem wn_0 {T : Int → Int} {n b s N : Int} {ix : Nat → Nat} (h : N ≤ 0) : Wn T n b s ix N := fun j hj => absurd hj (by omega)
theorem wn_s {T : Int → Int} {n b s N N' r : Int} {ix : Nat → Nat} {sx : Nat} (h : Wn T n b s ix N) (h0 : 0 ≤ N) (hs : sx = ix N.toNat) (hr : Isr r b (isWd T n sx s)) (hz : r = 0) (hN : N' = N + 1) : Wn T n b s ix N' := by
  intro j hj z
  by_cases q : (j : Int) < N
  · exact h j q z
  · have : j = N.toNat := by omega
    subst this
    exact isr_n hr hz z.1 (hs ▸ z.2)
theorem wh_n {T : Int → Int} {n b s N M r : Int} {ix : Nat → Nat} (h : Wn T n b s ix M) (hN : N ≤ M) (hr : r = -1) : Wh T n b s ix N r := ⟨fun _ j hj => h j (by omega), fun z => absurd z (by omega)⟩
theorem wh_y {T : Int → Int} {n b s N r q : Int} {ix : Nat → Nat} {sx : Nat} (hs : sx = ix r.toNat) (hq : Isr q b (isWd T n sx s)) (hz : ¬ q = 0) (h0 : 0 ≤ r) : Wh T n b s ix N r := ⟨fun z => absurd z (by omega), fun _ => hs ▸ isr_y hq hz⟩
section EV2
variable {p : Program} {l : Launch} {e : Env} {R : Room} {s : State} {m : MethodId} {args : Array Value} {below : List Frame} {meth : Method} {c : Code} {H H0 : Heap} {locs : List Loc} {cells slots : Nat} {Q : State → Prop} {pc : Nat} {ls : Array Slot} {rest st0 : List Value} {cc : ByteArray} {G : va_G} {k : Nat → ClassId} {A : Nat → Prop} {ws wc : va_W} {a : Nat}
theorem iv_ald0e (hexec : p.tables.exec = Jvm.exec) (hb : c.code = cc) (hZ : EZ k A s s.heap) (hP : va_P G vwCl ws H) (q0 : Nat) (ha : ws[q0]? = some (a, .inl (k 4, 12, .inr (.inr (.inr (.inr (qM k 111 12))))))) {z : Int} (h0 : 0 ≤ z) (h1 : z < 12) (hdg : decode cc pc = .ok (.aaload, 1)) (kk : ∀ i : Nat, i < 23 → i = z.toNat → W p l e R s m args below meth c H locs cells slots Q (F0 m (pc + 1) ls (.ref (k (111 + i)) :: rest))) : W p l e R s m args below meth c H locs cells slots Q (F0 m pc ls (.int (Int32.ofInt (z)) :: .ref a :: rest)) := iv_aldS hexec hb hZ.2.2.2.2.1 hP q0 ha h0 (by omega) (by decide) (qM_at h0 h1) hdg (kk _ (by omega) rfl)
theorem qV_e {k : Nat → ClassId} : ∀ z : Nat, z < 7 → qV k z = some (k (111 + vwI z)) ∧ vwI z < 23
  | 0, _ | 1, _ | 2, _ | 3, _ | 4, _ | 5, _ | 6, _ => ⟨rfl, by decide⟩
  | n + 7, h => absurd h (by omega)
theorem iv_ald1e (hexec : p.tables.exec = Jvm.exec) (hb : c.code = cc) (hZ : EZ k A s s.heap) (hP : va_P G vwCl ws H) (q0 : Nat) (ha : ws[q0]? = some (a, .inl (k 5, 7, .inr (.inr (.inr (.inr (qV k))))))) {z : Int} (h0 : 0 ≤ z) (h1 : z < 7) (hdg : decode cc pc = .ok (.aaload, 1)) (kk : ∀ i : Nat, i < 23 → i = vwI z.toNat → W p l e R s m args below meth c H locs cells slots Q (F0 m (pc + 1) ls (.ref (k (111 + i)) :: rest))) : W p l e R s m args below meth c H locs cells slots Q (F0 m pc ls (.int (Int32.ofInt (z)) :: .ref a :: rest)) := by
  have h9 := qV_e (k := k) z.toNat (by omega)
  exact iv_aldS hexec hb hZ.2.2.2.2.2 hP q0 ha h0 (by omega) (by decide) h9.1 hdg (kk _ h9.2 rfl)
end EV2
/-! the small readers -/
theorem fv_wrong {b p s b' p' c : Int} (h1 : ¬ b = 0 → b' = b ∧ p' = p) (h2 : b = 0 → b' = c ∧ p' = s) (hc : ¬ c = 0) : val b' p' s = bd (val b p s) (fun s => (c, s)) := by
  by_cases z : b = 0
  · obtain ⟨e1, e2⟩ := h2 z
    rw [bv_ok z, e1, e2]
    exact val_no hc
  · obtain ⟨e1, e2⟩ := h1 z
    rw [bv_no z, e1, e2]
theorem fv_no {b p s : Int} {F : Int → Int × Int} (h : ¬ b = 0) : val b p s = bd (val b p s) F := (bv_no h).symm
theorem nx_of {T : Int → Int} {n b s e k v s' a : Int} (hb : b = 0) (ht : TS T n b s e k v) (hs : s' = sk T n a) (ha : a = e) : s' = nx T n s := by
  rw [hs, ha, (ht hb).1]
  rfl
theorem fv_mk1 {T : Int → Int} {n b p s e k v s' a c r : Int} (ht : TS T n b s e k v) (hm : Isr r b (isM T n c s)) (hr : ¬ r = 0) (hs : s' = sk T n a) (ha : a = e) : val b p s' = bd (val b p s) (mkF T n c) := by
  obtain ⟨hb, h⟩ := isr_y hm hr
  rw [bv_ok hb, val_ok hb]
  have e9 : mkF T n c s = (0, nx T n s) := if_pos h
  rw [e9, nx_of hb ht hs ha]
theorem fv_mk0 {T : Int → Int} {n b p s b' p' c r : Int} (hb : b = 0) (hm : Isr r b (isM T n c s)) (hr : r = 0) (hv : val b' p' s = bd (val b p s) (fun s => (1, s))) : val b' p' s = bd (val b p s) (mkF T n c) := by
  rw [hv, bv_ok hb, bv_ok hb]
  exact (if_neg (isr_n hm hr hb)).symm
theorem fv_wd1 {T : Int → Int} {n b p s e k v s' a r : Int} {w : Nat} (ht : TS T n b s e k v) (hm : Isr r b (isWd T n w s)) (hr : ¬ r = 0) (hs : s' = sk T n a) (ha : a = e) : val b p s' = bd (val b p s) (wdF T n w) := by
  obtain ⟨hb, h⟩ := isr_y hm hr
  rw [bv_ok hb, val_ok hb]
  have e9 : wdF T n w s = (0, nx T n s) := if_pos h
  rw [e9, nx_of hb ht hs ha]
theorem fv_wd0 {T : Int → Int} {n b p s b' p' r : Int} {w : Nat} (hb : b = 0) (hm : Isr r b (isWd T n w s)) (hr : r = 0) (hv : val b' p' s = bd (val b p s) (fun s => (1, s))) : val b' p' s = bd (val b p s) (wdF T n w) := by
  rw [hv, bv_ok hb, bv_ok hb]
  exact (if_neg (isr_n hm hr hb)).symm
/-- passes: a word that may stand here -/
def mayF (T : Int → Int) (n : Int) (w : Nat) (s : Int) : Int × Int := if isWd T n w s then (0, nx T n s) else (0, s)
theorem fv_may1 {T : Int → Int} {n b p s e k v s' a r : Int} {w : Nat} (ht : TS T n b s e k v) (hm : Isr r b (isWd T n w s)) (hr : ¬ r = 0) (hs : s' = sk T n a) (ha : a = e) : val b p s' = bd (val b p s) (mayF T n w) := by
  obtain ⟨hb, h⟩ := isr_y hm hr
  rw [bv_ok hb, val_ok hb]
  have e9 : mayF T n w s = (0, nx T n s) := if_pos h
  rw [e9, nx_of hb ht hs ha]
theorem fv_may0 {T : Int → Int} {n b p s r : Int} {w : Nat} (hm : Isr r b (isWd T n w s)) (hr : r = 0) : val b p s = bd (val b p s) (mayF T n w) := (bv_id (fun hb => if_neg (isr_n hm hr hb))).symm
/-- numbers -/
theorem dM_tok {T : Int → Int} {n s : Int} (hk : kd T n s = 2) (hl : en T n s - s ≤ 4) : dM T s (en T n s - s).toNat = dv T s (en T n s) := by
  have hs : s < n := by
    by_cases z : s < n
    · exact z
    · have := (kd_0 (T := T)).mpr z
      omega
  have hd : 48 ≤ T s ∧ T s ≤ 57 := by
    by_cases z : 48 ≤ T s ∧ T s ≤ 57
    · exact z
    · unfold kd at hk
      rw [if_pos hs] at hk
      by_cases a : 97 ≤ T s ∧ T s ≤ 122
      · rw [if_pos a] at hk; omega
      · rw [if_neg a, if_neg z] at hk
        by_cases c : isMk (T s)
        · rw [if_pos c] at hk; omega
        · rw [if_neg c] at hk; omega
  have he : en T n s = rE T n 48 57 s := by
    unfold en
    rw [if_pos hs, if_neg (by omega), if_pos hd]
  have hr := en_gt (T := T) hs
  unfold dv
  refine (dM_dS _ (by omega) (fun j hj => ?_)).1
  have h9 := rE_in (T := T) (n := n) (lo := 48) (hi := 57) j s (s + (j : Int)) (by omega) (by omega) (by rw [← he]; omega) (by omega)
  exact ⟨h9.1, h9.2.1⟩
theorem fv_num1 {T : Int → Int} {n b p s e k v s' a l t : Int} (ht : TS T n b s e k v) (hb : b = 0) (hk : k = 2) (hd : e - s ≤ 4) (h1 : l ≤ v) (h2 : v ≤ t) (hs : s' = sk T n a) (ha : a = e) : val b p s' = bd (val b p s) (numF T n l t) ∧ v = dv T s (en T n s) := by
  obtain ⟨e1, e2, e3⟩ := ht hb
  have e4 := e3 hk
  have hd' : en T n s - s ≤ 4 := e1 ▸ hd
  have e5 := dM_tok (e2 ▸ hk) hd'
  rw [e1, e5] at e4
  refine ⟨?_, e4⟩
  rw [bv_ok hb, val_ok hb]
  unfold numF
  rw [if_pos (e2 ▸ hk), if_pos ⟨hd', e4 ▸ h1, e4 ▸ h2⟩, nx_of hb ht hs ha]
theorem fv_num2 {T : Int → Int} {n b p s e k v b' p' l t : Int} (ht : TS T n b s e k v) (hb : b = 0) (hk : k = 2) (hd : 4 < e - s ∨ v < l ∨ t < v) (hv : val b' p' s = bd (val b p s) (fun s => (2, s))) : val b' p' s = bd (val b p s) (numF T n l t) := by
  obtain ⟨e1, e2, e3⟩ := ht hb
  have e4 := e3 hk
  rw [hv, bv_ok hb, bv_ok hb]
  unfold numF
  rw [if_pos (e2 ▸ hk)]
  refine (if_neg ?_).symm
  rintro ⟨h1, h2, h3⟩
  have e5 := dM_tok (e2 ▸ hk) h1
  rw [e1, e5] at e4
  rw [← e4] at h2 h3
  rw [← e1] at h1
  omega
theorem fv_num0 {T : Int → Int} {n b p s e k v b' p' l t : Int} (ht : TS T n b s e k v) (hb : b = 0) (hk : ¬ k = 2) (hv : val b' p' s = bd (val b p s) (fun s => (1, s))) : val b' p' s = bd (val b p s) (numF T n l t) := by
  obtain ⟨e1, e2, e3⟩ := ht hb
  rw [hv, bv_ok hb, bv_ok hb]
  unfold numF
  exact (if_neg (e2 ▸ hk)).symm
def ixC (j : Nat) : Nat := j
def Nvr (b r v : Int) : Prop := b = 0 → r = v
/-! the grammar -/
theorem fv_p2 {T : Int → Int} {n b p s e k v : Int} {inner : Int → Int × Int} {w : Int × Int} (ht : TS T n b s e k v) (hb : b = 0) (hk : k = 2) (hv : w = bd (val b p s) (numF T n 0 9999)) : w = bd (val b p s) (partF T n inner) := by
  rw [hv, bv_ok hb, bv_ok hb]
  exact (if_pos ((ht hb).2.1 ▸ hk)).symm
theorem isVal_wh {T : Int → Int} {n b s r : Int} (hb : b = 0) (h : Wh T n b s vwI 7 r) (hr : 0 ≤ r) (h7 : r < 7) : isVal T n s := by
  have h9 := (h.2 hr).2
  obtain ⟨q, hq⟩ : ∃ q : Nat, r.toNat = q := ⟨_, rfl⟩
  have : q < 7 := by omega
  rw [hq] at h9
  match q, this, h9 with
  | 0, _, h => exact Or.inl h
  | 1, _, h => exact Or.inr (Or.inl h)
  | 2, _, h => exact Or.inr (Or.inr (Or.inl h))
  | 3, _, h => exact Or.inr (Or.inr (Or.inr (Or.inl h)))
  | 4, _, h => exact Or.inr (Or.inr (Or.inr (Or.inr (Or.inl h))))
  | 5, _, h => exact Or.inr (Or.inr (Or.inr (Or.inr (Or.inr (Or.inl h)))))
  | 6, _, h => exact Or.inr (Or.inr (Or.inr (Or.inr (Or.inr (Or.inr h)))))
theorem isVal_no {T : Int → Int} {n b s r : Int} (hb : b = 0) (h : Wh T n b s vwI 7 r) (hr : r = -1) : ¬ isVal T n s := by
  have h9 := h.1 hr
  rintro (z | z | z | z | z | z | z)
  · exact h9 0 (by decide) ⟨hb, z⟩
  · exact h9 1 (by decide) ⟨hb, z⟩
  · exact h9 2 (by decide) ⟨hb, z⟩
  · exact h9 3 (by decide) ⟨hb, z⟩
  · exact h9 4 (by decide) ⟨hb, z⟩
  · exact h9 5 (by decide) ⟨hb, z⟩
  · exact h9 6 (by decide) ⟨hb, z⟩
theorem fv_p3 {T : Int → Int} {n b p s e k v b' p' r : Int} {inner : Int → Int × Int} (ht : TS T n b s e k v) (hb : b = 0) (hk : k = 1) (hw : Wh T n b s vwI 7 r) (hr : r = -1) (hv : val b' p' s = bd (val b p s) (fun s => (3, s))) : val b' p' s = bd (val b p s) (partF T n inner) := by
  have k1 : kd T n s = 1 := (ht hb).2.1 ▸ hk
  rw [hv, bv_ok hb, bv_ok hb]
  unfold partF
  rw [if_neg (by omega), if_neg (isVal_no hb hw hr), if_neg (fun z => by have := z.1; omega), if_pos k1]
theorem fv_p1 {T : Int → Int} {n b p s e k v s' a r : Int} {inner : Int → Int × Int} (ht : TS T n b s e k v) (hb : b = 0) (hk : k = 1) (hw : Wh T n b s vwI 7 r) (hr : 0 ≤ r) (h7 : r < 7) (hs : s' = sk T n a) (ha : a = e) : val b p s' = bd (val b p s) (partF T n inner) := by
  have k1 : kd T n s = 1 := (ht hb).2.1 ▸ hk
  rw [bv_ok hb, val_ok hb]
  unfold partF
  rw [if_neg (by omega), if_pos (isVal_wh hb hw hr h7), nx_of hb ht hs ha]
theorem fv_p4 {T : Int → Int} {n b p s e k v : Int} {inner : Int → Int × Int} {w1 w2 w3 : Int × Int} (ht : TS T n b s e k v) (hb : b = 0) (h2 : ¬ k = 2) (h1 : ¬ k = 1) (e1 : w1 = bd (val b p s) (mkF T n 40)) (e2 : w2 = bd w1 inner) (e3 : w3 = bd w2 (mkF T n 41)) : w3 = bd (val b p s) (partF T n inner) := by
  have k2 : ¬ kd T n s = 2 := fun z => h2 ((ht hb).2.1.trans z)
  have k1 : ¬ kd T n s = 1 := fun z => h1 ((ht hb).2.1.trans z)
  have nv : ¬ isVal T n s := by rintro (z | z | z | z | z | z | z) <;> exact k1 z.1
  rw [e3, e2, e1, bv_ok hb, bv_ok hb]
  unfold partF
  rw [if_neg k2, if_neg nv]
  by_cases z : isM T n 40 s
  · rw [if_pos z]
    have e9 : mkF T n 40 s = (0, nx T n s) := if_pos z
    rw [e9]
    rfl
  · rw [if_neg z, if_neg k1]
    have e9 : mkF T n 40 s = (1, s) := if_neg z
    rw [e9]
    rfl
theorem fv_l0 {T : Int → Int} {n : Int} {sub : Int → Int × Int} {op : Int → Bool} {w0 w1 : Int × Int} (h : w1 = bd w0 sub) : bd w0 (levelF T n sub op) = bd w1 (loopF T n sub op 600) := by
  rw [h, bd_bd]
  rfl
theorem op2_l {T : Int → Int} {n a c s : Int} (h : isM T n a s) : op2 T n a c s = true := decide_eq_true (Or.inl h)
theorem op2_r {T : Int → Int} {n a c s : Int} (h : isM T n c s) : op2 T n a c s = true := decide_eq_true (Or.inr h)
theorem opW_y {T : Int → Int} {n s : Int} {w : Nat} (h : isWd T n w s) : opW T n w s = true := decide_eq_true h
theorem fv_lx {T : Int → Int} {n b p s : Int} {K : Nat} {sub : Int → Int × Int} {op : Int → Bool} {X : Int × Int} (hLV : X = bd (val b p s) (loopF T n sub op (K + 1))) (h : b = 0 → ¬ op s = true) : val b p s = X := (hLV.trans (bv_id (fun hb => if_neg (h hb)))).symm
theorem fv_lx2 {T : Int → Int} {n b p s r1 r2 a c : Int} {K : Nat} {sub : Int → Int × Int} {X : Int × Int} (hLV : X = bd (val b p s) (loopF T n sub (op2 T n a c) (K + 1))) (h1 : Isr r1 b (isM T n a s)) (z1 : r1 = 0) (h2 : Isr r2 b (isM T n c s)) (z2 : r2 = 0) : val b p s = X := fv_lx hLV (fun hb z => (of_decide_eq_true z).elim (isr_n h1 z1 hb) (isr_n h2 z2 hb))
theorem fv_lxW {T : Int → Int} {n b p s r : Int} {w K : Nat} {sub : Int → Int × Int} {X : Int × Int} (hLV : X = bd (val b p s) (loopF T n sub (opW T n w) (K + 1))) (h1 : Isr r b (isWd T n w s)) (z1 : r = 0) : val b p s = X := fv_lx hLV (fun hb z => isr_n h1 z1 hb (of_decide_eq_true z))
theorem fv_ls {T : Int → Int} {n b p s e k v a s1 b' p' s' : Int} {sub : Int → Int × Int} {op : Int → Bool} {X : Int × Int} (hLV : X = bd (val b p s) (loopF T n sub op 600)) (hb : b = 0) (hop : op s = true) (ht : TS T n b s e k v) (hs : s1 = sk T n a) (ha : a = e) (h0 : 0 ≤ s) (hn : n ≤ 600) (hok : okF n sub) (ho : ∀ s, op s = true → s < n) (hv : val b' p' s' = bd (val b p s1) sub) : X = bd (val b' p' s') (loopF T n sub op 600) := by
  rw [hLV, hv, bv_ok hb, bv_ok hb, nx_of hb ht hs ha]
  have e1 : loopF T n sub op 600 s = bd (sub (nx T n s)) (loopF T n sub op 599) := if_pos hop
  rw [e1]
  have a9 := nx_gt (T := T) (ho s hop)
  by_cases z : (sub (nx T n s)).1 = 0
  · rw [bd_ok z, bd_ok z]
    have b9 := hok (nx T n s) a9.2 z
    exact (loop_more hok ho 599 _ (by omega) b9.2).symm
  · rw [bd_no z, bd_no z]
theorem fv_l1 {T : Int → Int} {n b p s e k v a s1 b' p' s' : Int} {sub : Int → Int × Int} {op : Int → Bool} {X : Int × Int} (hLV : X = bd (val b p s) (loopF T n sub op 1)) (hb : b = 0) (hop : op s = true) (ht : TS T n b s e k v) (hs : s1 = sk T n a) (ha : a = e) (hv : val b' p' s' = bd (val b p s1) sub) : val b' p' s' = X := by
  rw [hLV, hv, bv_ok hb, bv_ok hb, nx_of hb ht hs ha]
  have e1 : loopF T n sub op 1 s = bd (sub (nx T n s)) (loopF T n sub op 0) := if_pos hop
  rw [e1]
  by_cases z : (sub (nx T n s)).1 = 0
  · rw [bd_ok z]
    exact Prod.ext z rfl
  · rw [bd_no z]
/-- nots -/
theorem nt_x {T : Int → Int} {n b p s r : Int} {j : Nat} {X : Int × Int} (hLV : X = bd (val b p s) (ntF T n j)) (h1 : Isr r b (isWd T n 20 s)) (z1 : r = 0) : val b p s = X := by
  refine (hLV.trans (bv_id (fun hb => ?_))).symm
  cases j with
  | zero => exact if_neg (isr_n h1 z1 hb)
  | succ j => exact if_neg (isr_n h1 z1 hb)
theorem nt_s {T : Int → Int} {n b p s e k v a s1 r x x' : Int} {X : Int × Int} (hLV : X = bd (val b p s) (ntF T n (6 - x).toNat)) (h1 : Isr r b (isWd T n 20 s)) (z1 : ¬ r = 0) (ht : TS T n b s e k v) (hs : s1 = sk T n a) (ha : a = e) (hx : x < 6) (hx' : x' = x + 1) : X = bd (val b p s1) (ntF T n (6 - x').toNat) := by
  obtain ⟨hb, hw⟩ := isr_y h1 z1
  rw [hLV, bv_ok hb, bv_ok hb, nx_of hb ht hs ha, show (6 - x).toNat = (6 - x').toNat + 1 by omega]
  exact if_pos hw
theorem nt_w {T : Int → Int} {n b p s r x b' p' : Int} {j : Nat} {X : Int × Int} (hLV : X = bd (val b p s) (ntF T n (6 - x).toNat)) (h1 : Isr r b (isWd T n 20 s)) (z1 : ¬ r = 0) (hx : x = 6) (hv : val b' p' s = bd (val b p s) (fun s => (2, s))) (hb' : ¬ b' = 0) : X = bd (val b' p' s) (ntF T n j) := by
  obtain ⟨hb, hw⟩ := isr_y h1 z1
  rw [bv_no hb', hv, hLV, bv_ok hb, bv_ok hb, hx]
  exact if_pos hw
theorem test_0 {T : Int → Int} {n : Int} {inner : Int → Int × Int} {w0 w w1 : Int × Int} (h1 : w = bd w0 (ntF T n 6)) (h2 : w1 = bd w (sumF T n inner)) : bd w0 (testF T n inner) = bd w1 (loopF T n (sumF T n inner) (op2 T n 60 61) 1) := by
  rw [h2, h1, bd_bd, bd_bd]
  rfl
/-- what may begin an EXPR -/
abbrev mayE (T : Int → Int) (n s : Int) : Prop := kd T n s = 2 ∨ kd T n s = 1 ∨ isM T n 40 s
def ckF (T : Int → Int) (n : Int) (m : Nat) (s : Int) : Int × Int := if mayE T n s then (if m = 0 then (2, s) else (0, s)) else (1, s)
theorem may_k {T : Int → Int} {n b s e k v x : Int} (ht : TS T n b s e k v) (hb : b = 0) (hk : k = 2 ∨ k = 1) (hx : x = 1) : Isr x b (mayE T n s) := by
  have e9 := (ht hb).2.1
  exact Or.inl ⟨hx, hb, hk.elim (fun z => Or.inl (e9 ▸ z)) (fun z => Or.inr (Or.inl (e9 ▸ z)))⟩
theorem may_1 {T : Int → Int} {n b s r x : Int} (h : Isr r b (isM T n 40 s)) (hr : ¬ r = 0) (hx : x = 1) : Isr x b (mayE T n s) := Or.inl ⟨hx, (isr_y h hr).1, Or.inr (Or.inr (isr_y h hr).2)⟩
theorem may_0 {T : Int → Int} {n b s e k v r x : Int} (ht : TS T n b s e k v) (h2 : ¬ k = 2) (h1 : ¬ k = 1) (h : Isr r b (isM T n 40 s)) (hr : r = 0) (hx : x = 0) : Isr x b (mayE T n s) := by
  refine Or.inr ⟨hx, fun z => ?_⟩
  have e9 := (ht z.1).2.1
  rcases z.2 with q | q | q
  · exact h2 (e9.trans q)
  · exact h1 (e9.trans q)
  · exact isr_n h hr z.1 q
theorem ck_1 {T : Int → Int} {n b p s b' p' x : Int} {m : Nat} (hb : b = 0) (h : Isr x b (mayE T n s)) (hx : x = 0) (hv : val b' p' s = bd (val b p s) (fun s => (1, s))) : val b' p' s = bd (val b p s) (ckF T n m) := by
  rw [hv, bv_ok hb, bv_ok hb]
  exact (if_neg (isr_n h hx hb)).symm
theorem ck_2 {T : Int → Int} {n b p s b' p' x : Int} {m : Nat} (h : Isr x b (mayE T n s)) (hx : ¬ x = 0) (hm : m = 0) (hv : val b' p' s = bd (val b p s) (fun s => (2, s))) : val b' p' s = bd (val b p s) (ckF T n m) := by
  obtain ⟨hb, hw⟩ := isr_y h hx
  rw [hv, bv_ok hb, bv_ok hb]
  unfold ckF
  rw [if_pos hw, if_pos hm]
theorem ck_0 {T : Int → Int} {n b p s x : Int} {m : Nat} (h : Isr x b (mayE T n s)) (hx : ¬ x = 0) (hm : ¬ m = 0) : val b p s = bd (val b p s) (ckF T n m) := by
  obtain ⟨hb, hw⟩ := isr_y h hx
  rw [bv_ok hb, val_ok hb]
  unfold ckF
  rw [if_pos hw, if_neg hm]
theorem ex_0 {T : Int → Int} {n b p s : Int} {m : Nat} {w w1 : Int × Int} (hck : w = bd (val b p s) (ckF T n m)) (hv : w1 = bd w (andF T n (exF T n (m - 1)))) : bd (val b p s) (exF T n m) = bd w1 (loopF T n (andF T n (exF T n (m - 1))) (opW T n 22) 600) := by
  rw [hv, hck]
  by_cases hb : b = 0
  · rw [bv_ok hb, bv_ok hb]
    by_cases hm : mayE T n s
    · cases m with
      | zero =>
        have e1 : exF T n 0 s = (2, s) := by
          show ((if kd T n s = 2 ∨ kd T n s = 1 ∨ isM T n 40 s then 2 else 1), s) = ((2 : Int), s)
          rw [if_pos hm]
        have e2 : ckF T n 0 s = (2, s) := by unfold ckF; rw [if_pos hm, if_pos rfl]
        rw [e1, e2]
        rfl
      | succ m =>
        have e2 : ckF T n (m + 1) s = (0, s) := by unfold ckF; rw [if_pos hm, if_neg (by omega)]
        rw [e2]
        rfl
    · have e2 : ckF T n m s = (1, s) := if_neg hm
      have e1 : exF T n m s = (1, s) := by
        cases m with
        | zero =>
          show ((if kd T n s = 2 ∨ kd T n s = 1 ∨ isM T n 40 s then 2 else 1), s) = ((1 : Int), s)
          rw [if_neg hm]
        | succ m => exact or_no hm
      rw [e1, e2]
      rfl
  · rw [bv_no hb, bv_no hb, bv_no hb, bv_no hb]
