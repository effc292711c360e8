/-! sums over the things, wrapped at each step as both programs do -/
def gsN (c : Int → Int) : Nat → Int
  | 0 => 0
  | k + 1 => bWr (gsN c k + c (k : Int))
def gs (c : Int → Int) (n : Int) : Int := gsN c n.toNat
theorem gs_r (c : Int → Int) (n : Int) : inR (gs c n) := by
  unfold gs
  cases n.toNat with
  | zero => exact inR0
  | succ k => exact bWr_r _
theorem gs_0 {c : Int → Int} {v x : Int} (hv : v = 0) (hx : x ≤ 0) : v = gs c x := by
  unfold gs
  rw [show x.toNat = 0 by omega]
  exact hv
theorem gs_s {c : Int → Int} {v x x' w v' : Int} (h : v = gs c x) (h0 : 0 ≤ x) (hw : w = c x) (hv : v' = bWr (v + w)) (hx : x' = x + 1) : v' = gs c x' := by
  subst hx
  unfold gs
  rw [show (x + 1).toNat = x.toNat + 1 by omega, hv, h, hw]
  show bWr (gs c x + c x) = bWr (gsN c x.toNat + c ((x.toNat : Nat) : Int))
  rw [show ((x.toNat : Nat) : Int) = x by omega]
  rfl
theorem gs_z {c : Int → Int} {x : Int} (h0 : 0 ≤ x) (hw : c x = 0) : gs c (x + 1) = gs c x := by
  have h := gs_s (c := c) (v := gs c x) (x' := x + 1) rfl h0 hw.symm rfl rfl
  rw [← h, Int.add_zero]
  exact bWr_eq (gs_r c x)
theorem gsN_ext {c c' : Int → Int} : ∀ k : Nat, (∀ t : Int, 0 ≤ t → t < k → c t = c' t) → gsN c k = gsN c' k
  | 0, _ => rfl
  | k + 1, h => by
    show bWr (gsN c k + c (k : Int)) = bWr (gsN c' k + c' (k : Int))
    rw [gsN_ext k (fun t h0 h1 => h t h0 (by omega)), h (k : Int) (by omega) (by omega)]
theorem gs_ext {c c' : Int → Int} {n : Int} (h : ∀ t, 0 ≤ t → t < n → c t = c' t) : gs c n = gs c' n := gsN_ext _ (fun t h0 h1 => h t h0 (by omega))
/-- what rides in a bucket: the weights; how many of a kind -/
def lc (p W : Int → Int) (b : Int) : Int → Int := fun t => if p t = 12 + b then W t else 0
def mc (p K : Int → Int) (b w : Int) : Int → Int := fun t => if p t = 12 + b ∧ K t = w then 1 else 0
theorem lc_y {p W : Int → Int} {b t w : Int} (h : p t = 12 + b) (hw : w = W t) : w = lc p W b t := hw.trans (if_pos h).symm
theorem lc_n {p W : Int → Int} {b t w : Int} (h : ¬ p t = 12 + b) (hw : w = 0) : w = lc p W b t := hw.trans (if_neg h).symm
theorem mc_y {p K : Int → Int} {b w t v : Int} (h : p t = 12 + b) (hk : K t = w) (hv : v = 1) : v = mc p K b w t := hv.trans (if_pos ⟨h, hk⟩).symm
theorem mc_n {p K : Int → Int} {b w t v : Int} (h : ¬ (p t = 12 + b ∧ K t = w)) (hv : v = 0) : v = mc p K b w t := hv.trans (if_neg h).symm
theorem lc_ext {p p' W W' : Int → Int} {b n : Int} (hp : ∀ t, 0 ≤ t → t < n → p t = p' t) (hW : ∀ t, 0 ≤ t → t < n → W t = W' t) : gs (lc p W b) n = gs (lc p' W' b) n := gs_ext (fun t h0 h1 => by unfold lc; rw [hp t h0 h1, hW t h0 h1])
theorem mc_ext {p p' K K' : Int → Int} {b w n : Int} (hp : ∀ t, 0 ≤ t → t < n → p t = p' t) (hK : ∀ t, 0 ≤ t → t < n → K t = K' t) : gs (mc p K b w) n = gs (mc p' K' b w) n := gs_ext (fun t h0 h1 => by unfold mc; rw [hp t h0 h1, hK t h0 h1])
/-! depths and places -/
def buD (b d D : Int) : Int := if b = 0 then d else bWr (D - d)
def thD (p d D : Int) : Int := if p < 12 then p else if p < 14 then buD (p - 12) d D else -1
def bkO (p : Int) : Int := if p = 12 ∨ p = 13 then p - 12 else -1
abbrev sv (p a : Int) : Prop := p = a ∨ p = 14
def plO (p k a d D : Int) : Int := if p = 12 ∨ p = 13 then (if k = 3 ∧ buD (p - 12) d D = a then 14 else buD (p - 12) d D) else p
theorem buD_r {b d D : Int} (hd : 0 ≤ d ∧ d ≤ 15) (hD : 0 ≤ D ∧ D ≤ 11) : buD b d D = (if b = 0 then d else D - d) := by
  unfold buD
  rw [bWr_eq ⟨by omega, by omega⟩]
/-! a row of signs reckoned on a stack -/
def rk (s x y : Int) : Int := if s = -20 then bWr (x + y) else if s = -21 then bWr (x - y) else if s = -22 then bWr (x * y) else if s = -23 then (if y = 0 then 0 else bDiv x y) else if s = -24 then (if x < y then 1 else 0) else if s = -25 then (if x = y then 1 else 0) else if s = -26 then (if ¬ x = 0 ∧ ¬ y = 0 then 1 else 0) else (if ¬ x = 0 ∨ ¬ y = 0 then 1 else 0)
def pv (v : Int → Int) (s : Int) : Int := if 0 ≤ s then s else v (-1 - s)
def stp (s : Int) (v : Int → Int) (q : (Int → Int) × Int) : (Int → Int) × Int := if -20 < s then (uA q.1 q.2 (pv v s), q.2 + 1) else if s = -28 then (uA q.1 (q.2 - 1) (if q.1 (q.2 - 1) = 0 then 1 else 0), q.2) else (uA q.1 (q.2 - 2) (rk s (q.1 (q.2 - 2)) (q.1 (q.2 - 1))), q.2 - 1)
def run (sg v : Int → Int) (a : Int) : Nat → (Int → Int) × Int
  | 0 => (fun _ => 0, 0)
  | k + 1 => stp (sg (a + (k : Int))) v (run sg v a k)
def evR (sg v : Int → Int) (a e : Int) : Int := (run sg v a (e - a).toNat).1 0
/-- what a stack holds behind the signs a to x -/
def RunI (sg v : Int → Int) (a x : Int) (H : Int → Int) (n : Int) : Prop := n = (run sg v a (x - a).toNat).2 ∧ ∀ i, 0 ≤ i → i < n → H i = (run sg v a (x - a).toNat).1 i
theorem ri_0 {sg v H : Int → Int} {a x n : Int} (hx : x = a) (hn : n = 0) : RunI sg v a x H n := by
  subst hx
  unfold RunI
  rw [Int.sub_self]
  exact ⟨hn, fun i h0 h1 => absurd h1 (by omega)⟩
theorem run_s {sg v : Int → Int} {a x : Int} (h : a ≤ x) : run sg v a (x + 1 - a).toNat = stp (sg x) v (run sg v a (x - a).toNat) := by
  rw [show (x + 1 - a).toNat = (x - a).toNat + 1 by omega]
  show stp (sg (a + (((x - a).toNat : Nat) : Int))) v _ = _
  rw [show a + (((x - a).toNat : Nat) : Int) = x by omega]
theorem ri_push {sg v H H' : Int → Int} {a x x' n n' w : Int} (h : RunI sg v a x H n) (hx : a ≤ x) (hs : -20 < sg x) (hw : w = pv v (sg x)) (eH : H' = uA H n w) (hn : n' = n + 1) (hx' : x' = x + 1) : RunI sg v a x' H' n' := by
  obtain ⟨h1, h2⟩ := h
  subst hx' hn eH
  unfold RunI
  rw [run_s hx]
  have e : stp (sg x) v (run sg v a (x - a).toNat) = (uA (run sg v a (x - a).toNat).1 (run sg v a (x - a).toNat).2 (pv v (sg x)), (run sg v a (x - a).toNat).2 + 1) := if_pos hs
  rw [e]
  refine ⟨by show n + 1 = _ + 1; omega, fun i h0 hi => ?_⟩
  show uA H n w i = uA _ _ _ i
  rw [← h1, hw]
  by_cases q : i = n
  · subst q; rw [(uA_at _ _ _ _).1 rfl, (uA_at _ _ _ _).1 rfl]
  · rw [(uA_at _ _ _ _).2 q, (uA_at _ _ _ _).2 q]; exact h2 i h0 (by omega)
theorem ri_not {sg v H H' : Int → Int} {a x x' n w : Int} (h : RunI sg v a x H n) (hx : a ≤ x) (hs : sg x = -28) (h1n : 1 ≤ n) (hw : (H (n - 1) = 0 ∧ w = 1) ∨ (¬ H (n - 1) = 0 ∧ w = 0)) (eH : H' = uA H (n - 1) w) (hx' : x' = x + 1) : RunI sg v a x' H' n := by
  obtain ⟨h1, h2⟩ := h
  subst hx' eH
  unfold RunI
  rw [run_s hx, hs]
  have e : stp (-28) v (run sg v a (x - a).toNat) = (uA (run sg v a (x - a).toNat).1 ((run sg v a (x - a).toNat).2 - 1) (if (run sg v a (x - a).toNat).1 ((run sg v a (x - a).toNat).2 - 1) = 0 then 1 else 0), (run sg v a (x - a).toNat).2) := by
    unfold stp
    rw [if_neg (by decide), if_pos rfl]
  rw [e]
  have h3 := h2 (n - 1) (by omega) (by omega)
  refine ⟨h1, fun i h0 hi => ?_⟩
  show uA H (n - 1) w i = uA _ _ _ i
  rw [← h1, ← h3]
  by_cases q : i = n - 1
  · subst q
    rw [(uA_at _ _ _ _).1 rfl, (uA_at _ _ _ _).1 rfl]
    rcases hw with z | z
    · rw [if_pos z.1]; exact z.2
    · rw [if_neg z.1]; exact z.2
  · rw [(uA_at _ _ _ _).2 q, (uA_at _ _ _ _).2 q]; exact h2 i h0 hi
theorem ri_bin {sg v H H' : Int → Int} {a x x' n n' w j : Int} (h : RunI sg v a x H n) (hx : a ≤ x) (hs : sg x ≤ -20) (hs2 : ¬ sg x = -28) (h2n : 2 ≤ n) (hw : w = rk (sg x) (H (n - 2)) (H (n - 1))) (hj : j = n - 2) (eH : H' = uA H j w) (hn : n' = n - 1) (hx' : x' = x + 1) : RunI sg v a x' H' n' := by
  obtain ⟨h1, h2⟩ := h
  subst hx' hn hj eH
  unfold RunI
  rw [run_s hx]
  have e : stp (sg x) v (run sg v a (x - a).toNat) = (uA (run sg v a (x - a).toNat).1 ((run sg v a (x - a).toNat).2 - 2) (rk (sg x) ((run sg v a (x - a).toNat).1 ((run sg v a (x - a).toNat).2 - 2)) ((run sg v a (x - a).toNat).1 ((run sg v a (x - a).toNat).2 - 1))), (run sg v a (x - a).toNat).2 - 1) := by
    unfold stp
    rw [if_neg (by omega), if_neg hs2]
  rw [e]
  have h3 := h2 (n - 2) (by omega) (by omega)
  have h4 := h2 (n - 1) (by omega) (by omega)
  refine ⟨by show n - 1 = _ - 1; omega, fun i h0 hi => ?_⟩
  show uA H (n - 2) w i = uA _ _ _ i
  rw [← h1, ← h3, ← h4, ← hw]
  by_cases q : i = n - 2
  · subst q; rw [(uA_at _ _ _ _).1 rfl, (uA_at _ _ _ _).1 rfl]
  · rw [(uA_at _ _ _ _).2 q, (uA_at _ _ _ _).2 q]; exact h2 i h0 (by omega)
theorem ri_ev {sg v H : Int → Int} {a e n : Int} (h : RunI sg v a e H n) (hn : 1 ≤ n) : H 0 = evR sg v a e := h.2 0 (by omega) (by omega)
theorem run_ext {sg sg' v v' : Int → Int} {a : Int} : ∀ k : Nat, (∀ t, a ≤ t → t < a + k → sg t = sg' t) → (∀ t, a ≤ t → t < a + k → pv v (sg t) = pv v' (sg t)) → run sg v a k = run sg' v' a k
  | 0, _, _ => rfl
  | k + 1, h, hv => by
    show stp (sg (a + (k : Int))) v (run sg v a k) = stp (sg' (a + (k : Int))) v' (run sg' v' a k)
    rw [run_ext k (fun t h0 h1 => h t h0 (by omega)) (fun t h0 h1 => hv t h0 (by omega)), ← h (a + (k : Int)) (by omega) (by omega)]
    unfold stp
    rw [hv (a + (k : Int)) (by omega) (by omega)]
theorem ev_ext {sg sg' v v' : Int → Int} {a e : Int} (h : ∀ t, a ≤ t → t < e → sg t = sg' t) (hv : ∀ k, 0 ≤ k → k ≤ 6 → v k = v' k) (hs : ∀ t, a ≤ t → t < e → -7 ≤ sg t ∨ sg t ≤ -20) (hq : ∀ t, a ≤ t → t < e → -20 < sg t → -7 ≤ sg t) : evR sg v a e = evR sg' v' a e := by
  have key : ∀ k : Nat, a + (k : Int) ≤ e ∨ k = 0 → run sg v a k = run sg' v' a k := by
    intro k
    induction k with
    | zero => intro _; rfl
    | succ k ih =>
      intro hk
      have hk : a + ((k + 1 : Nat) : Int) ≤ e := hk.resolve_right (by omega)
      show stp (sg (a + (k : Int))) v (run sg v a k) = stp (sg' (a + (k : Int))) v' (run sg' v' a k)
      rw [ih (Or.inl (by omega)), ← h (a + (k : Int)) (by omega) (by omega)]
      unfold stp
      by_cases q : -20 < sg (a + (k : Int))
      · have h7 := hq _ (by omega) (by omega) q
        have e9 : pv v (sg (a + (k : Int))) = pv v' (sg (a + (k : Int))) := by
          unfold pv
          by_cases z : 0 ≤ sg (a + (k : Int))
          · rw [if_pos z, if_pos z]
          · rw [if_neg z, if_neg z]; exact hv _ (by omega) (by omega)
        rw [e9]
      · rw [if_neg q, if_neg q]
  unfold evR
  by_cases q : a ≤ e
  · rw [key _ (Or.inl (by omega))]
  · rw [show (e - a).toNat = 0 by omega]; rfl
/-- the class's codes as the model's signs -/
def dec (x : Int) : Int := if -7 ≤ x then x else if x = -33 then -28 else if x = -43 then -20 else if x = -45 then -21 else if x = -42 then -22 else if x = -47 then -23 else if x = -60 then -24 else if x = -61 then -25 else if x = -38 then -26 else -27
def dcf (c : Int → Int) : Int → Int := fun i => dec (c i)
def enc (s : Int) : Int := if -7 ≤ s then s else if s = -28 then -33 else if s = -20 then -43 else if s = -21 then -45 else if s = -22 then -42 else if s = -23 then -47 else if s = -24 then -60 else if s = -25 then -61 else if s = -26 then -38 else -124
theorem dec_enc {s : Int} (h : -7 ≤ s ∨ (-28 ≤ s ∧ s ≤ -20)) : dec (enc s) = s := by
  unfold enc dec
  omega
theorem dec_p {x : Int} (h : -7 ≤ x) : dec x = x := if_pos h
theorem dec_n {x : Int} (h : x = -33) : dec x = -28 := by unfold dec; rw [if_neg (by omega), if_pos h]
theorem dec_o {x : Int} (h : ¬ -7 ≤ x) (h2 : ¬ x = -33) : dec x ≤ -20 ∧ ¬ dec x = -28 := by
  unfold dec
  omega
/-! the rules of a state: the first that isn't kept -/
def stq (E : Int → Int) (q : Int) : Int := if q = 0 then 0 else E (q - 1)
def vls (p K W : Int → Int) (b n D d : Int) : Int → Int := fun k => if k ≤ 3 then gs (mc p K b k) n else if k = 4 then gs (lc p W b) n else if k = 5 then buD b d D else gs (lc p W (1 - b)) n
def brkP (r : Int) (f : Int → Int) (n : Int) : Prop := (r = -1 ∧ ∀ q, 0 ≤ q → q < n → ¬ f q = 0) ∨ (0 ≤ r ∧ r < n ∧ f r = 0 ∧ ∀ q, 0 ≤ q → q < r → ¬ f q = 0)
def bkI (f : Int → Int) (x : Int) : Prop := ∀ q, 0 ≤ q → q < x → ¬ f q = 0
theorem bki_0 {f : Int → Int} {x : Int} (h : x ≤ 0) : bkI f x := fun q h0 h1 => absurd h1 (by omega)
theorem bki_s {f : Int → Int} {x x' w : Int} (h : bkI f x) (hw : w = f x) (hz : ¬ w = 0) (hx : x' = x + 1) : bkI f x' := fun q h0 h1 => by
  by_cases z : q = x
  · rw [z, ← hw]; exact hz
  · exact h q h0 (by omega)
theorem brk_n {f : Int → Int} {x n r : Int} (h : bkI f x) (hn : n ≤ x) (hr : r = -1) : brkP r f n := Or.inl ⟨hr, fun q h0 h1 => h q h0 (by omega)⟩
theorem brk_y {f : Int → Int} {x n w : Int} (h : bkI f x) (h0 : 0 ≤ x) (hn : x < n) (hw : w = f x) (hz : w = 0) : brkP x f n := Or.inr ⟨h0, hn, hw.symm.trans hz, h⟩
theorem brk_1 {f f' : Int → Int} {r r' n : Int} (h : brkP r f n) (h' : brkP r' f' n) (hf : ∀ q, 0 ≤ q → q < n → f q = f' q) : r = r' := by
  rcases h with ⟨a, b⟩ | ⟨a, b, c, d⟩
  · rcases h' with ⟨a', b'⟩ | ⟨a', b', c', d'⟩
    · omega
    · exact absurd (by rw [hf _ a' b']; exact c') (b r' a' b')
  · rcases h' with ⟨a', b'⟩ | ⟨a', b', c', d'⟩
    · exact absurd (by rw [← hf _ a b]; exact c) (b' r a b)
    · by_cases z : r < r'
      · exact absurd (by rw [← hf _ a b]; exact c) (d' r a z)
      · by_cases y : r' < r
        · exact absurd (by rw [hf _ a' b']; exact c') (d r' a' y)
        · omega
/-- the class's values while they are counted -/
def VI (g p K W : Int → Int) (b x : Int) : Prop := (∀ k, 0 ≤ k → k ≤ 3 → g k = gs (mc p K b k) x) ∧ g 4 = gs (lc p W b) x ∧ g 6 = gs (lc p W (1 - b)) x
theorem vi_0 {g p K W : Int → Int} {b x : Int} (h : ∀ k, 0 ≤ k → k < 7 → g k = 0) (hx : x = 0) : VI g p K W b x := ⟨fun k h0 h1 => gs_0 (h k h0 (by omega)) (by omega), gs_0 (h 4 (by decide) (by decide)) (by omega), gs_0 (h 6 (by decide) (by decide)) (by omega)⟩
theorem vi_n {g p K W : Int → Int} {b x x' : Int} (h : VI g p K W b x) (h0 : 0 ≤ x) (h1 : ¬ p x = 12 + b) (h2 : ¬ p x = 12 + (1 - b)) (hx : x' = x + 1) : VI g p K W b x' := by
  obtain ⟨a1, a2, a3⟩ := h
  subst hx
  refine ⟨fun k k0 k1 => ?_, ?_, ?_⟩
  · rw [gs_z h0 (show mc p K b k x = 0 from if_neg (fun z => h1 z.1))]; exact a1 k k0 k1
  · rw [gs_z h0 (show lc p W b x = 0 from if_neg h1)]; exact a2
  · rw [gs_z h0 (show lc p W (1 - b) x = 0 from if_neg h2)]; exact a3
theorem vi_o {g g' p K W : Int → Int} {b x x' w v : Int} (h : VI g p K W b x) (h0 : 0 ≤ x) (h1 : ¬ p x = 12 + b) (h2 : p x = 12 + (1 - b)) (hw : w = W x) (hv : v = bWr (g 6 + w)) (eg : g' = uA g 6 v) (hx : x' = x + 1) : VI g' p K W b x' := by
  obtain ⟨a1, a2, a3⟩ := h
  subst hx eg
  refine ⟨fun k k0 k1 => ?_, ?_, ?_⟩
  · rw [(uA_at _ _ _ _).2 (by omega), gs_z h0 (show mc p K b k x = 0 from if_neg (fun z => h1 z.1))]; exact a1 k k0 k1
  · rw [(uA_at _ _ _ _).2 (by omega), gs_z h0 (show lc p W b x = 0 from if_neg h1)]; exact a2
  · rw [(uA_at _ _ _ _).1 rfl]
    exact gs_s a3 h0 (lc_y h2 hw) hv rfl
theorem vi_i {g g1 g2 p K W : Int → Int} {b x x' k w v u z : Int} (h : VI g p K W b x) (h0 : 0 ≤ x) (h1 : p x = 12 + b) (hk : k = K x) (hk0 : 0 ≤ k ∧ k ≤ 3) (hz : z = g k) (hu : u = bWr (z + 1)) (e1 : g1 = uA g k u) (hw : w = W x) (hy : v = bWr (g1 4 + w)) (e2 : g2 = uA g1 4 v) (hx : x' = x + 1) : VI g2 p K W b x' := by
  obtain ⟨a1, a2, a3⟩ := h
  subst hx e2 e1 hz
  have n2 : ¬ p x = 12 + (1 - b) ∨ b = 12 + (1 - b) - 12 := by omega
  have c4 : uA g k u 4 = g 4 := (uA_at _ _ _ _).2 (by omega)
  refine ⟨fun j j0 j1 => ?_, ?_, ?_⟩
  · rw [(uA_at _ _ _ _).2 (by omega)]
    by_cases q : j = k
    · rw [(uA_at _ _ _ _).1 q, q]
      exact gs_s (a1 k hk0.1 hk0.2) h0 (mc_y h1 hk.symm rfl) hu rfl
    · rw [(uA_at _ _ _ _).2 q, gs_z h0 (show mc p K b j x = 0 from if_neg (fun z => q (z.2.symm.trans hk.symm)))]
      exact a1 j j0 j1
  · rw [(uA_at _ _ _ _).1 rfl]
    rw [c4] at hy
    exact gs_s a2 h0 (lc_y h1 hw) hy rfl
  · rw [(uA_at _ _ _ _).2 (by omega), (uA_at _ _ _ _).2 (by omega), gs_z h0 (show lc p W (1 - b) x = 0 from if_neg (by omega))]; exact a3
theorem vi_x {g g' p K W : Int → Int} {b n D d v : Int} (h : VI g p K W b n) (hv : v = buD b d D) (eg : g' = uA g 5 v) : ∀ k, 0 ≤ k → k ≤ 6 → g' k = vls p K W b n D d k := by
  obtain ⟨a1, a2, a3⟩ := h
  subst eg
  intro k k0 k1
  unfold vls
  by_cases q : k ≤ 3
  · rw [if_pos q, (uA_at _ _ _ _).2 (by omega)]; exact a1 k k0 q
  · rw [if_neg q]
    by_cases q4 : k = 4
    · rw [if_pos q4, (uA_at _ _ _ _).2 (by omega), q4]; exact a2
    · rw [if_neg q4]
      by_cases q5 : k = 5
      · rw [if_pos q5, (uA_at _ _ _ _).1 q5]; exact hv
      · rw [if_neg q5, (uA_at _ _ _ _).2 q5, show k = 6 by omega]; exact a3
/-! the excess ahead of each step of a ride -/
def sdV (l rope d : Int) : Int := bWr (l + bWr (rope * d))
/-- st is 1 where bucket 0 goes down, else -1 -/
def exM (l0 l1 rope D st a : Int) : Int := if st = 1 then bWr (sdV l0 rope a - sdV l1 rope (bWr (D - a))) else bWr (sdV l1 rope (bWr (D - a)) - sdV l0 rope a)
def exC (l rope D a st : Int) : Int := bWr (st * bWr (l + bWr (rope * bWr (bWr (2 * a) - D))))
theorem wr_ml (x y : Int) : bWr (x * bWr y) = bWr (x * y) := by
  unfold bWr
  rw [Int32.ofInt_mul, Int32.ofInt_toInt, ← Int32.ofInt_mul]
theorem wr_ar (x y : Int) : bWr (x + bWr y) = bWr (x + y) := by
  unfold bWr
  rw [Int32.ofInt_add, Int32.ofInt_toInt, ← Int32.ofInt_add]
theorem wr_sl (x y : Int) : bWr (bWr x - y) = bWr (x - y) := by
  unfold bWr
  rw [Int32.ofInt_sub, Int32.ofInt_toInt, ← Int32.ofInt_sub]
theorem wr_sr (x y : Int) : bWr (x - bWr y) = bWr (x - y) := by
  unfold bWr
  rw [Int32.ofInt_sub, Int32.ofInt_toInt, ← Int32.ofInt_sub]
theorem wr_al (x y : Int) : bWr (bWr x + y) = bWr (x + y) := by
  unfold bWr
  rw [Int32.ofInt_add, Int32.ofInt_toInt, ← Int32.ofInt_add]
theorem ex_1 (l0 l1 rope D a : Int) : exC (bWr (l0 - l1)) rope D a 1 = exM l0 l1 rope D 1 a := by
  unfold exC exM sdV
  rw [if_pos rfl, wr_ml, wr_sl, wr_sr, wr_sl]
  have e1 : bWr (1 * (bWr (l0 - l1) + bWr (rope * bWr (2 * a - D)))) = bWr (l0 - l1 + rope * (2 * a - D)) := by
    rw [Int.one_mul, wr_al, wr_ar, show l0 - l1 + rope * bWr (2 * a - D) = rope * bWr (2 * a - D) + (l0 - l1) from Int.add_comm _ _]
    rw [← wr_al, wr_ml, wr_al, Int.add_comm]
  rw [e1]
  have e2 : bWr (l0 + bWr (rope * a) - (l1 + bWr (rope * bWr (D - a)))) = bWr (l0 + rope * a - (l1 + rope * (D - a))) := by
    rw [← wr_sl, wr_ar, wr_sl, ← wr_sr, wr_ar, wr_sr]
    rw [show l0 + rope * a - (l1 + rope * bWr (D - a)) = (l0 + rope * a - l1) - rope * bWr (D - a) by omega, ← wr_sr, wr_ml, wr_sr]
    congr 1
    omega
  rw [e2, Int.mul_sub, Int.mul_sub, Int.mul_left_comm]
  congr 1
  omega
theorem ex_m (l0 l1 rope D a : Int) : exC (bWr (l0 - l1)) rope D a (-1) = exM l0 l1 rope D (-1) a := by
  unfold exC exM sdV
  rw [if_neg (by decide), wr_ml, wr_sl, wr_sr, wr_sl]
  have e1 : bWr (-1 * (bWr (l0 - l1) + bWr (rope * bWr (2 * a - D)))) = bWr (-(l0 - l1 + rope * (2 * a - D))) := by
    have e0 : bWr (bWr (l0 - l1) + bWr (rope * bWr (2 * a - D))) = bWr (l0 - l1 + rope * (2 * a - D)) := by
      rw [wr_al, wr_ar, show l0 - l1 + rope * bWr (2 * a - D) = rope * bWr (2 * a - D) + (l0 - l1) from Int.add_comm _ _]
      rw [← wr_al, wr_ml, wr_al, Int.add_comm]
    rw [← wr_ml, e0, wr_ml]
    congr 1
    omega
  rw [e1]
  have e2 : bWr (l1 + bWr (rope * bWr (D - a)) - (l0 + bWr (rope * a))) = bWr (l1 + rope * (D - a) - (l0 + rope * a)) := by
    rw [← wr_sr, wr_ar, wr_sr]
    rw [show l1 + bWr (rope * bWr (D - a)) - (l0 + rope * a) = bWr (rope * bWr (D - a)) + (l1 - (l0 + rope * a)) by omega, wr_ml, wr_al]
    congr 1
    omega
  rw [e2, Int.mul_sub, Int.mul_sub, Int.mul_left_comm]
  congr 1
  omega
theorem ex_e {l0 l1 rope D a st : Int} (h : st = 1 ∨ st = -1) : exC (bWr (l0 - l1)) rope D a st = exM l0 l1 rope D st a := by
  rcases h with h | h
  · subst h; exact ex_1 _ _ _ _ _
  · subst h; exact ex_m _ _ _ _ _
/-- whether one of the first k is below, above -/
def anL (g : Int → Int) (N f st : Int) : Nat → Prop
  | 0 => False
  | k + 1 => anL g N f st k ∨ g (f + st * (k : Int)) < N
def anH (g : Int → Int) (N f st : Int) : Nat → Prop
  | 0 => False
  | k + 1 => anH g N f st k ∨ N < g (f + st * (k : Int))
theorem anL_mo {g : Int → Int} {N f st : Int} {k : Nat} : ∀ m : Nat, k ≤ m → anL g N f st k → anL g N f st m := by
  intro m h
  induction h with
  | refl => exact id
  | step _ ih => exact fun z => Or.inl (ih z)
theorem anL_ext {g g' : Int → Int} {N f st : Int} : ∀ k : Nat, (∀ j : Nat, j < k → g (f + st * (j : Int)) = g' (f + st * (j : Int))) → (anL g N f st k ↔ anL g' N f st k)
  | 0, _ => Iff.rfl
  | k + 1, h => by
    show (anL g N f st k ∨ _) ↔ (anL g' N f st k ∨ _)
    rw [anL_ext k (fun j hj => h j (by omega)), h k (by omega)]
theorem anH_ext {g g' : Int → Int} {N f st : Int} : ∀ k : Nat, (∀ j : Nat, j < k → g (f + st * (j : Int)) = g' (f + st * (j : Int))) → (anH g N f st k ↔ anH g' N f st k)
  | 0, _ => Iff.rfl
  | k + 1, h => by
    show (anH g N f st k ∨ _) ↔ (anH g' N f st k ∨ _)
    rw [anH_ext k (fun j hj => h j (by omega)), h k (by omega)]
/-- how many steps, which way -/
def stD (f t : Int) : Int := if f < t then 1 else -1
def kD (f t : Int) : Nat := (stD f t * (t - f)).toNat
/-- 6, 7 or 0: what the excesses of a ride say -/
def exT (r : Int) (g : Int → Int) (N M f t : Int) : Prop := (r = 6 ∧ anL g N f (stD f t) (kD f t)) ∨ (r = 7 ∧ ¬ anL g N f (stD f t) (kD f t) ∧ anH g M f (stD f t) (kD f t)) ∨ (r = 0 ∧ ¬ anL g N f (stD f t) (kD f t) ∧ ¬ anH g M f (stD f t) (kD f t))
theorem exT_1 {r r' N M f t : Int} {g g' : Int → Int} (h : exT r g N M f t) (h' : exT r' g' N M f t) (hg : ∀ a, g a = g' a) : r = r' := by
  have e1 := anL_ext (g := g) (g' := g') (N := N) (f := f) (st := stD f t) (kD f t) (fun _ _ => hg _)
  have e2 := anH_ext (g := g) (g' := g') (N := M) (f := f) (st := stD f t) (kD f t) (fun _ _ => hg _)
  unfold exT at h h'
  rw [← e1, ← e2] at h'
  rcases h with h | h | h <;> rcases h' with q | q | q
  · omega
  · exact absurd h.2 q.2.1
  · exact absurd h.2 q.2.1
  · exact absurd q.2 h.2.1
  · omega
  · exact absurd h.2.2 q.2.2
  · exact absurd q.2 h.2.1
  · exact absurd q.2.2 h.2.2
  · omega
