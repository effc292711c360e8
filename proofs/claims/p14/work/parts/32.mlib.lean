/-! what the model's rows keep: notes of moves, rules that can be reckoned, chains of states -/
abbrev okst (s x y : Int) : Prop := (-7 ≤ s ∧ 0 ≤ x ∧ x < 32 ∧ y = x + 1) ∨ (s = -28 ∧ 1 ≤ x ∧ x ≤ 60 ∧ y = x) ∨ (-27 ≤ s ∧ s ≤ -20 ∧ 2 ≤ x ∧ x ≤ 60 ∧ y = x - 1)
/-- signs a to b take a stack of x values to one of y -/
def Seg (sg : Int → Int) (a b x y : Int) : Prop := ∃ h : Int → Int, h a = x ∧ h b = y ∧ ∀ t, a ≤ t → t < b → okst (sg t) (h t) (h (t + 1))
def RWf (sg : Int → Int) (b e : Int) : Prop := 0 ≤ b ∧ b ≤ e ∧ e ≤ 600 ∧ Seg sg b e 0 1
def FR (n : Int) (d : Int → Int) (n' : Int) (d' : Int → Int) : Prop := n ≤ n' ∧ (∀ t, t < n → d' t = d t) ∧ ∀ t, n ≤ t → t < n' → d' t = 0
theorem FR.rf {n : Int} {d : Int → Int} : FR n d n d := ⟨Int.le_refl n, fun _ _ => rfl, fun t h1 h2 => by omega⟩
theorem FR.tr {n n' n2 : Int} {d d' d2 : Int → Int} (h : FR n d n' d') (q : FR n' d' n2 d2) : FR n d n2 d2 := by
  obtain ⟨h1, h2, h3⟩ := h
  obtain ⟨q1, q2, q3⟩ := q
  refine ⟨by omega, fun t ht => (q2 t (by omega)).trans (h2 t ht), fun t ht hu => ?_⟩
  by_cases hq : t < n'
  · exact (q2 t hq).trans (h3 t ht hq)
  · exact q3 t (by omega) hu
theorem pm_add {n w x : Int} {W X W' X' : Int → Int} (h0 : 0 ≤ n) (h : ∀ i, 0 ≤ i → i < n → ¬ W i = 2 → 0 ≤ X i ∧ X i < 7) (e1 : W' = uA W n w) (e2 : X' = uA X n x) (hx : w = 2 ∨ (0 ≤ x ∧ x < 7)) : ∀ i, 0 ≤ i → i < n + 1 → ¬ W' i = 2 → 0 ≤ X' i ∧ X' i < 7 := by
  intro i h1 h2 h3
  subst e1 e2
  have a1 := uA_at W n w i
  have a2 := uA_at X n x i
  by_cases q : i = n
  · rw [a1.1 q] at h3
    rw [a2.1 q]
    omega
  · rw [a1.2 q] at h3
    rw [a2.2 q]
    exact h i h1 (by omega) h3
theorem si_new {n f z : Int} {hd nx hd' nx' dn dn' : Int → Int} (s1 : 0 ≤ n) (s2 : n ≤ 1500) (s3 : ∀ f, 0 ≤ f → f < 8192 → -1 ≤ hd f ∧ hd f < n) (s4 : ∀ t, 0 ≤ t → t < n → -1 ≤ nx t ∧ nx t < t) (hf0 : 0 ≤ f) (hf1 : f < 8192) (hn : ¬ n = 1500) (ez : z = hd f) (e1 : nx' = uA nx n z) (e2 : hd' = uA hd f n) (e3 : dn' = uA dn n 0) : 0 ≤ n + 1 ∧ n + 1 ≤ 1500 ∧ (∀ f, 0 ≤ f → f < 8192 → -1 ≤ hd' f ∧ hd' f < n + 1) ∧ (∀ t, 0 ≤ t → t < n + 1 → -1 ≤ nx' t ∧ nx' t < t) ∧ FR n dn (n + 1) dn' := by
  subst e1 e2 e3 ez
  refine ⟨by omega, by omega, ?_, ?_, by omega, ?_, ?_⟩
  · intro g h1 h2
    have a := uA_at hd f n g
    have b := s3 g h1 h2
    omega
  · intro t h1 h2
    have a := uA_at nx n (hd f) t
    have b := s3 f hf0 hf1
    by_cases q : t = n
    · rw [a.1 q]; omega
    · rw [a.2 q]; exact s4 t h1 (by omega)
  · intro t ht
    exact (uA_at dn n 0 t).2 (by omega)
  · intro t h1 h2
    exact (uA_at dn n 0 t).1 (by omega)
/-- how many of the first n are done -/
def cntN (d : Int → Int) : Nat → Nat
  | 0 => 0
  | n + 1 => cntN d n + (if d (n : Int) = 0 then 0 else 1)
theorem cntN_le (d : Int → Int) : ∀ n, cntN d n ≤ n
  | 0 => Nat.le_refl 0
  | n + 1 => by
    have := cntN_le d n
    unfold cntN
    split <;> omega
theorem cntN_ext {d d' : Int → Int} : ∀ {n : Nat}, (∀ t : Int, 0 ≤ t → t < n → d' t = d t) → cntN d' n = cntN d n
  | 0, _ => rfl
  | n + 1, h => by
    unfold cntN
    rw [cntN_ext (n := n) (fun t h0 h1 => h t h0 (by omega)), h n (by omega) (by omega)]
theorem cntN_more {d : Int → Int} {n : Nat} : ∀ (m : Nat), (∀ t : Int, (n : Int) ≤ t → t < (n + m : Nat) → d t = 0) → cntN d (n + m) = cntN d n
  | 0, _ => rfl
  | m + 1, h => by
    rw [show cntN d (n + (m + 1)) = cntN d (n + m) + (if d ((n + m : Nat) : Int) = 0 then 0 else 1) from rfl, cntN_more (n := n) m (fun t h0 h1 => h t h0 (by omega)), if_pos (h ((n + m : Nat) : Int) (by omega) (by omega))]
    omega
theorem cntN_set {d : Int → Int} {z : Int} (hz : 0 ≤ z) (h0 : d z = 0) : ∀ {n : Nat}, z < n → cntN (uA d z 1) n = cntN d n + 1
  | 0, h => by omega
  | n + 1, h => by
    unfold cntN
    have a := uA_at d z 1 n
    by_cases q : (n : Int) = z
    · rw [a.1 q, q, h0, cntN_ext (d := d) (fun t h1 h2 => (uA_at d z 1 t).2 (by omega))]
      simp
    · rw [a.2 q, cntN_set hz h0 (n := n) (by omega)]
      split <;> omega
def cnt (d : Int → Int) (n : Int) : Int := (cntN d n.toNat : Nat)
theorem cnt_le (d : Int → Int) {n : Int} (h : 0 ≤ n) : 0 ≤ cnt d n ∧ cnt d n ≤ n := by
  have := cntN_le d n.toNat
  unfold cnt
  omega
theorem cnt_step {d d1 d2 : Int → Int} {n n2 z : Int} (hz : 0 ≤ z) (hn : z < n) (h0 : d z = 0) (e : d1 = uA d z 1) (hF : FR n d1 n2 d2) : cnt d2 n2 = cnt d n + 1 := by
  obtain ⟨f1, f2, f3⟩ := hF
  have e1 : n2.toNat = n.toNat + (n2 - n).toNat := by omega
  have c1 := cntN_more (d := d2) (n := n.toNat) (n2 - n).toNat (fun t a b => f3 t (by omega) (by omega))
  have c2 := cntN_ext (d := d1) (d' := d2) (n := n.toNat) (fun t a b => f2 t (by omega))
  have c3 := cntN_set hz h0 (n := n.toNat) (by omega)
  unfold cnt
  rw [e1, c1, c2, e, c3]
  omega
theorem fill_step {g g' : Int → Int} {x v : Int} (h : ∀ f, 0 ≤ f → f < x → g f = v) (e : g' = uA g x v) : ∀ f, 0 ≤ f → f < x + 1 → g' f = v := by
  intro f h1 h2
  subst e
  have a := uA_at g x v f
  by_cases q : f = x
  · exact a.1 q
  · rw [a.2 q]; exact h f h1 (by omega)
theorem be_step {g g' f : Int → Int} {x z : Int} (h : ∀ t, 0 ≤ t → t < x → g t = f t) (ez : z = f x) (e : g' = uA g x z) : ∀ t, 0 ≤ t → t < x + 1 → g' t = f t := by
  intro t h1 h2
  subst e
  have a := uA_at g x z t
  by_cases q : t = x
  · rw [a.1 q, ez, q]
  · rw [a.2 q]; exact h t h1 (by omega)
theorem bmod_sm {x : Int} {m : Nat} (h0 : 0 ≤ x) (h1 : 2 * x < m) : x.bmod m = x := by
  rw [Int.bmod_eq_of_le] <;> omega
theorem u32i (x : UInt32) (h : x.toNat < 2147483648) : x.toInt32.toInt = (x.toNat : Int) := by
  show x.toBitVec.toInt = (x.toBitVec.toNat : Int)
  have e : x.toBitVec.toNat = x.toNat := rfl
  exact BitVec.toInt_eq_toNat_of_lt (by omega)
theorem u64i (x : UInt64) (h : x.toNat < 9223372036854775808) : x.toInt64.toInt = (x.toNat : Int) := by
  show x.toBitVec.toInt = (x.toBitVec.toNat : Int)
  have e : x.toBitVec.toNat = x.toNat := rfl
  exact BitVec.toInt_eq_toNat_of_lt (by omega)
theorem fold_r (x : Int64) : 0 ≤ bL2i ((x.toUInt64 >>> ((Int32.ofInt 51).toInt64.toUInt64 &&& Int64.toUInt64 63)).toInt64) ∧ bL2i ((x.toUInt64 >>> ((Int32.ofInt 51).toInt64.toUInt64 &&& Int64.toUInt64 63)).toInt64) < 8192 := by
  have e : ((Int32.ofInt 51).toInt64.toUInt64 &&& Int64.toUInt64 63) = 51 := by decide
  rw [e]
  have h1 : (x.toUInt64 >>> 51).toNat < 8192 := by
    rw [UInt64.toNat_shiftRight]
    have := x.toUInt64.toNat_lt
    simp only [Nat.shiftRight_eq_div_pow]
    have e2 : (51 : UInt64).toNat % 64 = 51 := by decide
    rw [e2]
    omega
  have h2 : (x.toUInt64 >>> 51).toInt64.toInt = (x.toUInt64 >>> 51).toNat := by
    exact u64i _ (by omega)
  unfold bL2i
  rw [Int64.toInt_toInt32, h2, bmod_sm (by omega) (by omega)]
  omega
theorem shl1 {n : Int} (h0 : 0 ≤ n) (h1 : n ≤ 7) : 1 ≤ bShl 1 n ∧ bShl 1 n ≤ 128 := by
  have key : ∀ m : Fin 8, 1 ≤ bShl 1 ((m : Nat) : Int) ∧ bShl 1 ((m : Nat) : Int) ≤ 128 := by decide +kernel
  have := key ⟨n.toNat, by omega⟩
  rwa [show (((⟨n.toNat, by omega⟩ : Fin 8) : Nat) : Int) = n from Int.toNat_of_nonneg h0] at this
theorem band_dec {n : Int} (h0 : 0 < n) (h1 : n ≤ 127) : 0 ≤ bAnd n (n - 1) ∧ bAnd n (n - 1) < n := by
  have key : ∀ m : Fin 128, 0 < (m : Nat) → 0 ≤ bAnd ((m : Nat) : Int) (((m : Nat) : Int) - 1) ∧ bAnd ((m : Nat) : Int) (((m : Nat) : Int) - 1) < ((m : Nat) : Int) := by decide +kernel
  have := key ⟨n.toNat, by omega⟩ (by show 0 < n.toNat; omega)
  rwa [show (((⟨n.toNat, by omega⟩ : Fin 128) : Nat) : Int) = n from Int.toNat_of_nonneg (by omega)] at this
theorem seg_ext {g g' : Int → Int} {a b x y : Int} (h : ∀ t, a ≤ t → t < b → g' t = g t) (s : Seg g a b x y) : Seg g' a b x y := by
  obtain ⟨f, h1, h2, h3⟩ := s
  exact ⟨f, h1, h2, fun t ht hu => by rw [h t ht hu]; exact h3 t ht hu⟩
theorem seg_app {g : Int → Int} {a b c x y z : Int} (hab : a ≤ b) (hbc : b ≤ c) (s1 : Seg g a b x y) (s2 : Seg g b c y z) : Seg g a c x z := by
  obtain ⟨f, h1, h2, h3⟩ := s1
  obtain ⟨e, q1, q2, q3⟩ := s2
  refine ⟨fun t => if t ≤ b then f t else e t, ?_, ?_, fun t ht hu => ?_⟩
  · show (if a ≤ b then f a else e a) = x
    rw [if_pos hab]; exact h1
  · show (if c ≤ b then f c else e c) = z
    by_cases h : c ≤ b
    · have hc : c = b := by omega
      rw [if_pos h, hc, h2, ← q1, ← hc]; exact q2
    · rw [if_neg h]; exact q2
  · show okst (g t) (if t ≤ b then f t else e t) (if t + 1 ≤ b then f (t + 1) else e (t + 1))
    by_cases h : t + 1 ≤ b
    · rw [if_pos h, if_pos (show t ≤ b by omega)]; exact h3 t ht (by omega)
    · rw [if_neg h]
      by_cases h' : t ≤ b
      · have ht' : t = b := by omega
        rw [if_pos h', ht', h2, ← q1]; exact q3 b (by omega) (by omega)
      · rw [if_neg h']; exact q3 t (by omega) hu
theorem seg_one {g : Int → Int} {a x y : Int} (h : okst (g a) x y) : Seg g a (a + 1) x y := by
  refine ⟨fun t => if t = a then x else y, if_pos rfl, ?_, fun t ht hu => ?_⟩
  · show (if a + 1 = a then x else y) = y
    exact if_neg (by omega)
  · have e : t = a := by omega
    show okst (g t) (if t = a then x else y) (if t + 1 = a then x else y)
    rw [if_pos e, if_neg (show ¬ t + 1 = a by omega), e]
    exact h
theorem uA_same {g : Int → Int} {z v : Int} : uA g z v z = v := (uA_at g z v z).1 rfl
theorem uA_ne {g : Int → Int} {z v t : Int} (h : ¬ t = z) : uA g z v t = g t := (uA_at g z v t).2 h
theorem seg_val {g g' : Int → Int} {a d x s : Int} (e : g' = uA g a s) (hs : -7 ≤ s) (hx : 0 ≤ x ∧ x < 32) (hd : d = a + 1) : Seg g' a d x (x + 1) := by
  subst e hd
  exact seg_one (Or.inl (by rw [uA_same]; omega))
theorem seg_not {g g' : Int → Int} {a b d x : Int} (hab : a ≤ b) (s1 : Seg g a b x (x + 1)) (e : g' = uA g b (-28)) (hx : 0 ≤ x ∧ x ≤ 50) (hd : d = b + 1) : Seg g' a d x (x + 1) := by
  subst e hd
  exact seg_app hab (by omega) (seg_ext (fun t _ h => uA_ne (by omega)) s1) (seg_one (Or.inr (Or.inl (by rw [uA_same]; omega))))
theorem seg_bin {g g' g'' : Int → Int} {a b c d x s : Int} (hab : a ≤ b) (hbc : b ≤ c) (s1 : Seg g a b x (x + 1)) (fr : ∀ t, t < b → g' t = g t) (s2 : Seg g' b c (x + 1) (x + 1 + 1)) (e : g'' = uA g' c s) (hs : -27 ≤ s ∧ s ≤ -20) (hx : 0 ≤ x ∧ x ≤ 50) (hd : d = c + 1) : Seg g'' a d x (x + 1) := by
  subst e hd
  have t1 : Seg (uA g' c s) a b x (x + 1) := seg_ext (fun t _ h => (uA_ne (by omega)).trans (fr t h)) s1
  have t2 : Seg (uA g' c s) b c (x + 1) (x + 1 + 1) := seg_ext (fun t _ h => uA_ne (by omega)) s2
  exact seg_app (by omega) (by omega) (seg_app hab hbc t1 t2) (seg_one (Or.inr (Or.inr (by rw [uA_same]; omega))))
theorem lay_fr {g g' : Int → Int} {b L s t : Int} (h1 : b = 0 → g' = uA g (600 + L) s) (h2 : ¬ b = 0 → g' = g) (ht : t < 600 + L) : g' t = g t := by
  by_cases q : b = 0
  · rw [h1 q]; exact uA_ne (by omega)
  · rw [h2 q]
def isz (z : Int) : Int := if z = 0 then 1 else 0
theorem isz_f (z : Int) : (z = 0 → isz z = 1) ∧ (¬ z = 0 → isz z = 0) := ⟨fun h => if_pos h, fun h => if_neg h⟩
/-- a rule as it lies while a text is read -/
def RWu (sg : Int → Int) (b e L : Int) : Prop := 0 ≤ b ∧ b ≤ e ∧ e ≤ L ∧ Seg sg (600 + b) (600 + e) 0 1
theorem rr_new {sg sg' b b' e e' : Int → Int} {n L L' : Int} (h : ∀ q, 0 ≤ q → q < n → RWu sg (b (4 + q)) (e (4 + q)) L) (h0 : 0 ≤ n) (hL0 : 0 ≤ L) (fr : ∀ t, t < 600 + L → sg' t = sg t) (hL : L ≤ L') (eb : b' = uA b (4 + n) L) (ee : e' = uA e (4 + n) L') (sm : Seg sg' (600 + L) (600 + L') 0 (0 + 1)) : ∀ q, 0 ≤ q → q < n + 1 → RWu sg' (b' (4 + q)) (e' (4 + q)) L' := by
  intro q h1 h2
  subst eb ee
  by_cases c : q = n
  · subst c
    rw [uA_same, uA_same]
    exact ⟨hL0, hL, Int.le_refl _, sm⟩
  · rw [uA_ne (by omega), uA_ne (by omega)]
    obtain ⟨a1, a2, a3, a4⟩ := h q h1 (by omega)
    exact ⟨a1, a2, by omega, seg_ext (fun t _ ht => fr t (by omega)) a4⟩
theorem seg_shift {g g' : Int → Int} {a b o x y : Int} (h : ∀ t, a ≤ t → t < b → g' t = g (o + t)) (s : Seg g (o + a) (o + b) x y) : Seg g' a b x y := by
  obtain ⟨f, h1, h2, h3⟩ := s
  refine ⟨fun t => f (o + t), h1, h2, fun t ht hu => ?_⟩
  show okst (g' t) (f (o + t)) (f (o + (t + 1)))
  rw [h t ht hu, ← Int.add_assoc]
  exact h3 (o + t) (by omega) (by omega)
theorem rr_take {sg sg' b b' e e' : Int → Int} {n L : Int} (h : ∀ q, 0 ≤ q → q < n → RWu sg (b (4 + q)) (e (4 + q)) L) (hb : ∀ q, 0 ≤ q → q < n → b' q = b (4 + q)) (he : ∀ q, 0 ≤ q → q < n → e' q = e (4 + q)) (hs : ∀ t, 0 ≤ t → t < L → sg' t = sg (600 + t)) (hL : L ≤ 600) (hn : n ≤ 4) : ∀ q, 0 ≤ q → q < n → RWf sg' (b' q) (e' q) := by
  intro q h1 h2
  obtain ⟨a1, a2, a3, a4⟩ := h q h1 h2
  rw [hb q h1 h2, he q h1 h2]
  exact ⟨a1, a2, by omega, seg_shift (o := 600) (fun t ht hu => hs t (by omega) (by omega)) a4⟩
theorem rw_keep {sg sg' b b' e e' : Int → Int} {n : Int} (h : ∀ q, 0 ≤ q → q < n → RWf sg (b q) (e q)) (hn : n ≤ 4) (l8 : ∀ t, t < 4 → b' t = b t) (l9 : ∀ t, t < 4 → e' t = e t) (l10 : ∀ t, t < 600 → sg' t = sg t) : ∀ q, 0 ≤ q → q < n → RWf sg' (b' q) (e' q) := by
  intro q h1 h2
  obtain ⟨a1, a2, a3, a4⟩ := h q h1 h2
  rw [l8 q (by omega), l9 q (by omega)]
  exact ⟨a1, a2, a3, seg_ext (fun t _ ht => l10 t (by omega)) a4⟩
theorem cpo_step {g g' f : Int → Int} {o x v : Int} (h1 : ∀ t, o ≤ t → g t = f t) (h2 : ∀ t, 0 ≤ t → t < x → g t = f (o + t)) (hx : 0 ≤ x) (hxo : x < o) (ev : v = g (o + x)) (e : g' = uA g x v) : (∀ t, o ≤ t → g' t = f t) ∧ (∀ t, 0 ≤ t → t < x + 1 → g' t = f (o + t)) := by
  subst e
  refine ⟨fun t ht => ?_, fun t ha hb => ?_⟩
  · rw [uA_ne (by omega)]; exact h1 t ht
  · by_cases c : t = x
    · subst c
      rw [uA_same, ev]
      exact h1 _ (by omega)
    · rw [uA_ne c]; exact h2 t ha (by omega)
theorem at_first {g g' : Int → Int} {b x v : Int} (h0 : 0 ≤ x) (h1 : x < 7) (i5 : 0 < x → g b = 1) (hv : x = 0 → v = 1) (e : g' = uA g (b + x) v) : g' b = 1 := by
  subst e
  by_cases c : x = 0
  · subst c
    rw [Int.add_zero, uA_same]; exact hv rfl
  · rw [uA_ne (by omega)]; exact i5 (by omega)
