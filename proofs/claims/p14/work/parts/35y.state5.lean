/-! days: sets of things, bit by bit -/
theorem bv_shr {x y : Int} (h0 : 0 ≤ y) (h1 : y < 32) : bv (bShr x y) = (bv x).sshiftRight y.toNat := by
  have h := sh_a ⟨y.toNat, by omega⟩
  simp only at h
  rw [show ((y.toNat : Nat) : Int) = y by omega] at h
  unfold bv bShr
  rw [Int32.ofInt_toInt, Int32.toBitVec_shiftRight, BitVec.sshiftRight_eq']
  exact congrArg _ h
theorem g1 (i : Nat) : (bv 1).getLsbD i = decide (i = 0) := by
  have e : bv 1 = 1#32 := by decide
  rw [e, BitVec.getLsbD_one]
  rfl
theorem g0 (i : Nat) : (bv 0).getLsbD i = false := by
  have e : bv 0 = 0#32 := by decide
  rw [e, BitVec.getLsbD_zero]
theorem bit_1 {s t : Int} (t0 : 0 ≤ t) (t1 : t < 32) : bAnd (bShr s t) 1 = 0 ↔ (bv s).getLsbD t.toNat = false := by
  have h0 : (bv (bShr s t)).getLsbD 0 = (bv s).getLsbD t.toNat := by
    rw [bv_shr t0 t1, BitVec.getLsbD_sshiftRight, if_pos (by omega)]
    rfl
  constructor
  · intro h
    have h1 := congrArg (fun x => (bv x).getLsbD 0) h
    have h1 := h1
    simp only [bv_and, BitVec.getLsbD_and, g1, g0, h0] at h1
    simpa using h1
  · intro h
    refine bv_inj (bAnd_r _ _) inR0 (BitVec.eq_of_getLsbD_eq (fun i hi => ?_))
    rw [bv_and, BitVec.getLsbD_and, g1, g0]
    by_cases q : i = 0
    · subst q
      rw [h0, h]
      rfl
    · rw [decide_eq_false q, Bool.and_false]
theorem am_get {A : Int → Int} {t : Int} (t0 : 0 ≤ t) (t1 : t < 32) {i : Nat} (hi : i < 32) : (bv (am A t)).getLsbD i = true ↔ i = t.toNat ∧ ¬ A t = -1 := by
  unfold am
  by_cases q : A t = -1
  · rw [if_pos q, g0]
    exact ⟨fun z => absurd z (by decide), fun z => absurd q z.2⟩
  · rw [if_neg q, bv_shl t0 t1, BitVec.getLsbD_shiftLeft, g1, decide_eq_true hi]
    simp only [Bool.true_and, Bool.and_eq_true, Bool.not_eq_true', decide_eq_false_iff_not, decide_eq_true_eq]
    constructor
    · intro z
      exact ⟨by omega, q⟩
    · intro z
      omega
theorem or_get {c : Int → Int} {i : Nat} : ∀ k : Nat, (bv (orN c k)).getLsbD i = true ↔ ∃ j : Int, 0 ≤ j ∧ j < k ∧ (bv (c j)).getLsbD i = true
  | 0 => ⟨fun z => by rw [show orN c 0 = 0 from rfl, g0] at z; exact absurd z (by decide), fun ⟨j, a, b, _⟩ => absurd b (by omega)⟩
  | k + 1 => by
    show (bv (bOr (orN c k) (c (k : Int)))).getLsbD i = true ↔ _
    rw [bv_or, BitVec.getLsbD_or, Bool.or_eq_true, or_get k]
    constructor
    · rintro (⟨j, a, b, h⟩ | h)
      · exact ⟨j, a, by omega, h⟩
      · exact ⟨k, by omega, by omega, h⟩
    · rintro ⟨j, a, b, h⟩
      by_cases q : j = k
      · exact Or.inr (q ▸ h)
      · exact Or.inl ⟨j, a, by omega, h⟩
theorem oga_get {A : Int → Int} {n : Int} (n0 : 0 ≤ n) (n7 : n ≤ 7) {i : Nat} (hi : i < 32) : (bv (og (am A) n)).getLsbD i = true ↔ (i : Int) < n ∧ ¬ A (i : Int) = -1 := by
  unfold og
  rw [or_get]
  constructor
  · rintro ⟨j, a, b, h⟩
    obtain ⟨e, h⟩ := (am_get a (by omega) hi).mp h
    have e : j = (i : Int) := by omega
    subst e
    exact ⟨by omega, h⟩
  · rintro ⟨a, b⟩
    exact ⟨i, by omega, by omega, (am_get (by omega) (by omega) hi).mpr ⟨by omega, b⟩⟩
/-- s lies below 2 to the power of n -/
theorem low_of {s : Int} {n : Nat} (n7 : n ≤ 7) (h0 : 0 ≤ s) (h1 : s < ((2 ^ n : Nat) : Int)) {i : Nat} (hi : n ≤ i) : (bv s).getLsbD i = false := by
  have hp : (2 : Nat) ^ n ≤ 2 ^ 7 := Nat.pow_le_pow_right (by decide) n7
  have e : bv s = BitVec.ofNat 32 s.toNat := by
    unfold bv
    have e1 : s = ((s.toNat : Nat) : Int) := by omega
    rw [e1]
    exact BitVec.ofInt_natCast _ _
  rw [e, BitVec.getLsbD_ofNat, Nat.testBit_lt_two_pow (Nat.lt_of_lt_of_le (show s.toNat < 2 ^ n by omega) (Nat.pow_le_pow_right (by decide) hi)), Bool.and_false]
theorem of_low {s : Int} {n : Nat} (n7 : n ≤ 7) (hs : inR s) (h : ∀ i, n ≤ i → i < 32 → (bv s).getLsbD i = false) : 0 ≤ s ∧ s < ((2 ^ n : Nat) : Int) := by
  have hp : (2 : Nat) ^ n ≤ 2 ^ 7 := Nat.pow_le_pow_right (by decide) n7
  have hl : (bv s).toNat < 2 ^ n := by
    refine Nat.lt_pow_two_of_testBit _ (fun i hi => ?_)
    by_cases q : i < 32
    · exact h i hi q
    · exact BitVec.getLsbD_of_ge _ _ (by omega)
  have e : s = ((bv s).toNat : Int) := by
    have e1 : (Int32.ofInt s).toInt = s := iz_toInt hs
    rw [← e1]
    show (bv s).toInt = _
    rw [BitVec.toInt_eq_toNat_of_lt (by omega)]
    show _ = (((Int32.ofInt (Int32.ofInt s).toInt).toBitVec.toNat : Nat) : Int)
    rw [Int32.ofInt_toInt]
    rfl
  omega
def DfC (d s n : Int) (A : Int → Int) : Prop := d < 6 ∧ bAnd s (bXor (og (am A) n) (-1)) = 0
def DfM (d s n : Int) (A : Int → Int) : Prop := (d < 6 ∧ 0 ≤ s ∧ s ≤ bWr (bShl 1 n - 1)) ∧ ∀ t, 0 ≤ t → t < n → bAnd (bShr s t) 1 = 0 ∨ ¬ A t = -1
theorem sh_w : ∀ n : Fin 8, bWr (bShl 1 (n.val : Int) - 1) = ((2 ^ n.val : Nat) : Int) - 1 := by decide +kernel
theorem day_eq {d s n : Int} {A : Int → Int} (hs : inR s) (n0 : 0 ≤ n) (n7 : n ≤ 7) : DfC d s n A ↔ DfM d s n A := by
  have hw := sh_w ⟨n.toNat, by omega⟩
  simp only at hw
  rw [show ((n.toNat : Nat) : Int) = n by omega] at hw
  have hb : bAnd s (bXor (og (am A) n) (-1)) = 0 ↔ ∀ i, i < 32 → (bv s).getLsbD i = true → (i : Int) < n ∧ ¬ A (i : Int) = -1 := by
    constructor
    · intro h i hi hb
      have h1 := congrArg (fun x => (bv x).getLsbD i) h
      have h1 := h1
      simp only [bv_and, bv_xor, BitVec.getLsbD_and, BitVec.getLsbD_xor, g0, gM1 hi, hb, Bool.true_and, Bool.xor_true] at h1
      exact (oga_get n0 n7 hi).mp (by simpa using h1)
    · intro h
      refine bv_inj (bAnd_r _ _) inR0 (BitVec.eq_of_getLsbD_eq (fun i hi => ?_))
      rw [bv_and, bv_xor, BitVec.getLsbD_and, BitVec.getLsbD_xor, g0, gM1 hi]
      by_cases q : (bv s).getLsbD i = true
      · rw [q, (oga_get n0 n7 hi).mpr (h i hi q)]
        rfl
      · rw [Bool.not_eq_true] at q
        rw [q]
        rfl
  constructor
  · rintro ⟨h6, h⟩
    have h := hb.mp h
    obtain ⟨l0, l1⟩ := of_low (n := n.toNat) (by omega) hs (fun i i0 i1 => by
      by_cases q : (bv s).getLsbD i = true
      · exact absurd (h i i1 q).1 (by omega)
      · rwa [Bool.not_eq_true] at q)
    refine ⟨⟨h6, l0, by omega⟩, fun t t0 t1 => ?_⟩
    by_cases q : (bv s).getLsbD t.toNat = true
    · have := (h t.toNat (by omega) q).2
      rw [show ((t.toNat : Nat) : Int) = t by omega] at this
      exact Or.inr this
    · rw [Bool.not_eq_true] at q
      exact Or.inl ((bit_1 t0 (by omega)).mpr q)
  · rintro ⟨⟨h6, l0, l1⟩, h⟩
    refine ⟨h6, hb.mpr (fun i hi q => ?_)⟩
    have hlt : i < n.toNat := by
      by_cases z : i < n.toNat
      · exact z
      · have := low_of (n := n.toNat) (by omega) l0 (by omega) (show n.toNat ≤ i by omega)
        rw [q] at this
        exact absurd this (by decide)
    refine ⟨by omega, fun z => ?_⟩
    rcases h (i : Int) (by omega) (by omega) with y | y
    · have := (bit_1 (by omega) (by omega)).mp y
      rw [show ((i : Int)).toNat = i by omega, q] at this
      exact absurd this (by decide)
    · exact y z
/-- what a day answers, by whether it is fine -/
def DyQ (fine : Prop) (r n n' s : Int) (G G' : Int → Int) : Prop := (fine → r = n + 1 ∧ n' = n + 1 ∧ G' = uA G n s) ∧ (¬ fine → r = -1 ∧ n' = n ∧ G' = G)
theorem dq_y {fine : Prop} {r n n' s i : Int} {G G' : Int → Int} (h : fine) (hr : r = n + 1 ∧ n' = n + 1) (e : G' = uA G i s) (hi : i = n) : DyQ fine r n n' s G G' := by
  subst hi
  exact ⟨fun _ => ⟨hr.1, hr.2, e⟩, fun z => absurd h z⟩
theorem dq_n {fine : Prop} {r n n' s : Int} {G : Int → Int} (h : ¬ fine) (hr : r = -1 ∧ n' = n) : DyQ fine r n n' s G G := ⟨fun z => absurd z h, fun _ => ⟨hr.1, hr.2, rfl⟩⟩
def DmI (d s n : Int) (A : Int → Int) (b k : Int) : Prop := (b = 0 ∧ ¬ DfM d s n A) ∨ (b = 1 ∧ (d < 6 ∧ 0 ≤ s ∧ s ≤ bWr (bShl 1 n - 1)) ∧ ∀ t, 0 ≤ t → t < k → bAnd (bShr s t) 1 = 0 ∨ ¬ A t = -1)
theorem dm_0 {d s n b k : Int} {A : Int → Int} (hk : k = 0) (h : (b = 0 ∧ ¬ (d < 6 ∧ 0 ≤ s ∧ s ≤ bWr (bShl 1 n - 1))) ∨ (b = 1 ∧ d < 6 ∧ 0 ≤ s ∧ s ≤ bWr (bShl 1 n - 1))) : DmI d s n A b k := by
  rcases h with ⟨a, z⟩ | ⟨a, z⟩
  · exact Or.inl ⟨a, fun y => z y.1⟩
  · exact Or.inr ⟨a, z, fun t t0 t1 => absurd t1 (by omega)⟩
theorem dm_no {d s n b b' k k' : Int} {A : Int → Int} (h : DmI d s n A b k) (hb : b = 0) (hb' : b' = 0) : DmI d s n A b' k' := by
  rcases h with ⟨a, z⟩ | ⟨a, z⟩
  · exact Or.inl ⟨hb', z⟩
  · omega
theorem dm_y {d s n b b' k k' : Int} {A : Int → Int} (h : DmI d s n A b k) (hb : ¬ b = 0) (hb' : b' = 1) (hf : bAnd (bShr s k) 1 = 0 ∨ ¬ A k = -1) (hk : k' = k + 1) : DmI d s n A b' k' := by
  rcases h with ⟨a, z⟩ | ⟨a, z, y⟩
  · omega
  · refine Or.inr ⟨hb', z, fun t t0 t1 => ?_⟩
    by_cases q : t = k
    · subst q; exact hf
    · exact y t t0 (by omega)
theorem dm_z {d s n b' k k' : Int} {A : Int → Int} (k0 : 0 ≤ k) (kn : k < n) (hb' : b' = 0) (h1 : ¬ bAnd (bShr s k) 1 = 0) (h2 : A k = -1) : DmI d s n A b' k' := Or.inl ⟨hb', fun z => (z.2 k k0 kn).elim h1 (fun y => y h2)⟩
theorem dm_e {d s n b k : Int} {A : Int → Int} (h : DmI d s n A b k) (hk : n ≤ k) : (b = 0 ∧ ¬ DfM d s n A) ∨ (b = 1 ∧ DfM d s n A) := by
  rcases h with ⟨a, z⟩ | ⟨a, z, y⟩
  · exact Or.inl ⟨a, z⟩
  · exact Or.inr ⟨a, z, fun t t0 t1 => y t t0 (by omega)⟩
theorem dy_eq {d d' s n n' r r' e e' : Int} {A A' G G' H H' : Int → Int} (hs : inR s) (n0 : 0 ≤ n) (n7 : n ≤ 7) (hd : d = d') (hn : n = n') (hA : ∀ t, 0 ≤ t → t < n → A t = A' t) (h : DyQ (DfC d s n A) r d e s G G') (h' : DyQ (DfM d' s n' A') r' d' e' s H H') : r = r' ∧ e = e' := by
  subst hd hn
  have hf : DfC d s n A ↔ DfM d s n A' := by
    rw [day_eq hs n0 n7]
    exact ⟨fun z => ⟨z.1, fun t a b => by rw [← hA t a b]; exact z.2 t a b⟩, fun z => ⟨z.1, fun t a b => by rw [hA t a b]; exact z.2 t a b⟩⟩
  by_cases q : DfC d s n A
  · have a := h.1 q
    have b := h'.1 (hf.mp q)
    omega
  · have a := h.2 q
    have b := h'.2 (fun z => q (hf.mpr z))
    omega
theorem dm_b0 {d s n b k : Int} {A : Int → Int} (h : DmI d s n A b k) (hb : b = 0) : ¬ DfM d s n A := by
  rcases h with ⟨a, z⟩ | ⟨a, z⟩
  · exact z
  · omega
theorem dm_b1 {d s n b k : Int} {A : Int → Int} (h : DmI d s n A b k) (hb : ¬ b = 0) (hk : n ≤ k) : DfM d s n A := (dm_e h hk).elim (fun z => absurd z.1 hb) (fun z => z.2)
theorem dm_s {d s n b b' k k' : Int} {A : Int → Int} (h : DmI d s n A b k) (hb : ¬ b = 0) (hj : (b' = 1 ∧ (bAnd (bShr s k) 1 = 0 ∨ ¬ A k = -1)) ∨ (b' = 0 ∧ ¬ bAnd (bShr s k) 1 = 0 ∧ A k = -1)) (k0 : 0 ≤ k) (kn : k < n) (hk : k' = k + 1) : DmI d s n A b' k' := hj.elim (fun z => dm_y h hb z.1 z.2 hk) (fun z => dm_z k0 kn z.1 z.2.1 z.2.2)
