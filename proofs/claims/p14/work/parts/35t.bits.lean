/-! a STATE in one int: the places of the things, four bits each, and the depth of bucket 0 -/
def nb (s t : Int) : Int := bAnd (bUshr s (4 * t)) 15
def dp (s : Int) : Int := bUshr s 28
def putS (s t p : Int) : Int := bOr (bAnd s (bXor (bShl 15 (4 * t)) (-1))) (bShl p (4 * t))
def mvS (s d : Int) : Int := bOr (bAnd s 268435455) (bShl d 28)
def bv (x : Int) : BitVec 32 := (Int32.ofInt x).toBitVec
theorem bv_inj {x y : Int} (hx : inR x) (hy : inR y) (h : bv x = bv y) : x = y := (iz_eq hx hy).mp (Int32.toBitVec_inj.1 h)
theorem bv_and (x y : Int) : bv (bAnd x y) = bv x &&& bv y := by
  unfold bv bAnd
  rw [Int32.ofInt_toInt, Int32.toBitVec_and]
theorem bv_or (x y : Int) : bv (bOr x y) = bv x ||| bv y := by
  unfold bv bOr
  rw [Int32.ofInt_toInt, Int32.toBitVec_or]
theorem bv_xor (x y : Int) : bv (bXor x y) = bv x ^^^ bv y := by
  unfold bv bXor
  rw [Int32.ofInt_toInt, Int32.toBitVec_xor]
theorem sh_a : ∀ t : Fin 32, (((Int32.ofInt (t.val : Int)) &&& 31).toBitVec.smod 32).toNat = t.val := by decide +kernel
theorem sh_b : ∀ t : Fin 32, (((Int32.ofInt (t.val : Int)).toUInt32 &&& Int32.toUInt32 31).toBitVec % 32).toNat = t.val := by decide +kernel
theorem bv_shl {x y : Int} (h0 : 0 ≤ y) (h1 : y < 32) : bv (bShl x y) = bv x <<< y.toNat := by
  have h := sh_a ⟨y.toNat, by omega⟩
  simp only at h
  rw [show ((y.toNat : Nat) : Int) = y by omega] at h
  unfold bv bShl
  rw [Int32.ofInt_toInt, Int32.toBitVec_shiftLeft, BitVec.shiftLeft_eq']
  exact congrArg _ h
theorem bv_ushr {x y : Int} (h0 : 0 ≤ y) (h1 : y < 32) : bv (bUshr x y) = bv x >>> y.toNat := by
  have h := sh_b ⟨y.toNat, by omega⟩
  simp only at h
  rw [show ((y.toNat : Nat) : Int) = y by omega] at h
  unfold bv bUshr
  rw [Int32.ofInt_toInt, UInt32.toBitVec_toInt32, UInt32.toBitVec_shiftRight, BitVec.ushiftRight_eq', Int32.toBitVec_toUInt32]
  exact congrArg _ h
theorem g15 (i : Nat) : (bv 15).getLsbD i = decide (i < 4) := by
  have e : bv 15 = BitVec.ofNat 32 15 := by decide
  rw [e, BitVec.getLsbD_ofNat, show (15 : Nat) = 2 ^ 4 - 1 by decide, Nat.testBit_two_pow_sub_one]
  by_cases q : i < 4
  · rw [decide_eq_true q, decide_eq_true (show i < 32 by omega)]; rfl
  · rw [decide_eq_false q, Bool.and_false]
theorem gNob (i : Nat) : (bv 268435455).getLsbD i = decide (i < 28) := by
  have e : bv 268435455 = BitVec.ofNat 32 268435455 := by decide
  rw [e, BitVec.getLsbD_ofNat, show (268435455 : Nat) = 2 ^ 28 - 1 by decide, Nat.testBit_two_pow_sub_one]
  by_cases q : i < 28
  · rw [decide_eq_true q, decide_eq_true (show i < 32 by omega)]; rfl
  · rw [decide_eq_false q, Bool.and_false]
theorem gM1 {i : Nat} (h : i < 32) : (bv (-1)).getLsbD i = true := by
  have e : bv (-1) = BitVec.allOnes 32 := by decide
  rw [e, BitVec.getLsbD_allOnes]
  exact decide_eq_true h
theorem bv_p : ∀ p : Fin 16, bv (p.val : Int) = bv (p.val : Int) &&& bv 15 := by decide +kernel
theorem p_get {p : Int} (p0 : 0 ≤ p) (p1 : p ≤ 15) (i : Nat) : (bv p).getLsbD i = ((bv p).getLsbD i && decide (i < 4)) := by
  have h := bv_p ⟨p.toNat, by omega⟩
  simp only at h
  rw [show ((p.toNat : Nat) : Int) = p by omega] at h
  have h2 := congrArg (fun b => BitVec.getLsbD b i) h
  simp only [BitVec.getLsbD_and, g15] at h2
  exact h2
theorem p_hi {p : Int} (p0 : 0 ≤ p) (p1 : p ≤ 15) {i : Nat} (hi : 4 ≤ i) : (bv p).getLsbD i = false := by
  rw [p_get p0 p1 i, decide_eq_false (by omega), Bool.and_false]
theorem nb_get {s t : Int} (h0 : 0 ≤ t) (h6 : t ≤ 7) (i : Nat) : (bv (nb s t)).getLsbD i = ((bv s).getLsbD ((4 * t).toNat + i) && decide (i < 4)) := by
  unfold nb
  rw [bv_and, BitVec.getLsbD_and, g15, bv_ushr (by omega) (by omega), BitVec.getLsbD_ushiftRight]
theorem dp_get {s : Int} (i : Nat) : (bv (dp s)).getLsbD i = (bv s).getLsbD (28 + i) := by
  unfold dp
  rw [bv_ushr (by decide) (by decide), BitVec.getLsbD_ushiftRight]
  rfl
theorem put_in {s t p : Int} (h0 : 0 ≤ t) (h6 : t ≤ 6) {i : Nat} (hi : i < 4) : (bv (putS s t p)).getLsbD ((4 * t).toNat + i) = (bv p).getLsbD i := by
  unfold putS
  rw [bv_or, bv_and, bv_xor, BitVec.getLsbD_or, BitVec.getLsbD_and, BitVec.getLsbD_xor, gM1 (by omega), bv_shl (by omega) (by omega), bv_shl (by omega) (by omega), BitVec.getLsbD_shiftLeft, BitVec.getLsbD_shiftLeft, show (4 * t).toNat + i - (4 * t).toNat = i by omega, g15, decide_eq_true hi, decide_eq_true (show (4 * t).toNat + i < 32 by omega), decide_eq_false (show ¬ (4 * t).toNat + i < (4 * t).toNat by omega)]
  simp
theorem put_out {s t p : Int} (h0 : 0 ≤ t) (h6 : t ≤ 6) (p0 : 0 ≤ p) (p1 : p ≤ 15) {j : Nat} (hj : j < 32) (ho : j < (4 * t).toNat ∨ (4 * t).toNat + 4 ≤ j) : (bv (putS s t p)).getLsbD j = (bv s).getLsbD j := by
  unfold putS
  rw [bv_or, bv_and, bv_xor, BitVec.getLsbD_or, BitVec.getLsbD_and, BitVec.getLsbD_xor, gM1 hj, bv_shl (by omega) (by omega), bv_shl (by omega) (by omega), BitVec.getLsbD_shiftLeft, BitVec.getLsbD_shiftLeft, g15, decide_eq_true hj]
  rcases ho with q | q
  · rw [decide_eq_true q]
    simp
  · rw [decide_eq_false (show ¬ j < (4 * t).toNat by omega), decide_eq_false (show ¬ j - (4 * t).toNat < 4 by omega), p_hi p0 p1 (show 4 ≤ j - (4 * t).toNat by omega)]
    simp
theorem nb_r (s t : Int) : 0 ≤ nb s t ∧ nb s t ≤ 15 := band15 _
theorem dp_r (s : Int) : 0 ≤ dp s ∧ dp s ≤ 15 := ush28 s
theorem nb_same {s t p : Int} (h0 : 0 ≤ t) (h6 : t ≤ 6) (p0 : 0 ≤ p) (p1 : p ≤ 15) : nb (putS s t p) t = p := by
  refine bv_inj (bAnd_r _ _) ⟨by omega, by omega⟩ (BitVec.eq_of_getLsbD_eq (fun i hi => ?_))
  show (bv (nb (putS s t p) t)).getLsbD i = _
  rw [nb_get h0 (by omega), p_get p0 p1 i]
  by_cases q : i < 4
  · rw [put_in h0 h6 q]
  · rw [decide_eq_false q, Bool.and_false, Bool.and_false]
theorem nb_else {s t p u : Int} (h0 : 0 ≤ t) (h6 : t ≤ 6) (p0 : 0 ≤ p) (p1 : p ≤ 15) (u0 : 0 ≤ u) (u6 : u ≤ 6) (hu : ¬ u = t) : nb (putS s t p) u = nb s u := by
  refine bv_inj (bAnd_r _ _) (bAnd_r _ _) (BitVec.eq_of_getLsbD_eq (fun i hi => ?_))
  show (bv (nb (putS s t p) u)).getLsbD i = (bv (nb s u)).getLsbD i
  rw [nb_get u0 (by omega), nb_get u0 (by omega)]
  by_cases q : i < 4
  · rw [put_out h0 h6 p0 p1 (by omega) (by omega)]
  · rw [decide_eq_false q, Bool.and_false, Bool.and_false]
theorem dp_put {s t p : Int} (h0 : 0 ≤ t) (h6 : t ≤ 6) (p0 : 0 ≤ p) (p1 : p ≤ 15) : dp (putS s t p) = dp s := by
  refine bv_inj (bUshr_r _ _) (bUshr_r _ _) (BitVec.eq_of_getLsbD_eq (fun i hi => ?_))
  show (bv (dp (putS s t p))).getLsbD i = (bv (dp s)).getLsbD i
  rw [dp_get, dp_get]
  by_cases q : 28 + i < 32
  · exact put_out h0 h6 p0 p1 q (by omega)
  · rw [BitVec.getLsbD_of_ge _ _ (by omega), BitVec.getLsbD_of_ge _ _ (by omega)]
theorem nb_mv {s d t : Int} (t0 : 0 ≤ t) (t6 : t ≤ 6) : nb (mvS s d) t = nb s t := by
  refine bv_inj (bAnd_r _ _) (bAnd_r _ _) (BitVec.eq_of_getLsbD_eq (fun i hi => ?_))
  show (bv (nb (mvS s d) t)).getLsbD i = (bv (nb s t)).getLsbD i
  rw [nb_get t0 (by omega), nb_get t0 (by omega)]
  by_cases q : i < 4
  · congr 1
    unfold mvS
    rw [bv_or, bv_and, BitVec.getLsbD_or, BitVec.getLsbD_and, gNob, decide_eq_true (show (4 * t).toNat + i < 28 by omega), bv_shl (by decide) (by decide), BitVec.getLsbD_shiftLeft, decide_eq_true (show (4 * t).toNat + i < (28 : Int).toNat by omega)]
    simp
  · rw [decide_eq_false q, Bool.and_false, Bool.and_false]
theorem dp_mv {s d : Int} (d0 : 0 ≤ d) (d1 : d ≤ 15) : dp (mvS s d) = d := by
  refine bv_inj (bUshr_r _ _) ⟨by omega, by omega⟩ (BitVec.eq_of_getLsbD_eq (fun i hi => ?_))
  show (bv (dp (mvS s d))).getLsbD i = _
  rw [dp_get]
  by_cases q : 28 + i < 32
  · unfold mvS
    rw [bv_or, bv_and, BitVec.getLsbD_or, BitVec.getLsbD_and, gNob, decide_eq_false (show ¬ 28 + i < 28 by omega), bv_shl (by decide) (by decide), BitVec.getLsbD_shiftLeft, decide_eq_true q, decide_eq_false (show ¬ 28 + i < (28 : Int).toNat by omega), show 28 + i - (28 : Int).toNat = i by omega]
    simp
  · rw [BitVec.getLsbD_of_ge _ _ (by omega), p_hi d0 d1 (by omega)]
theorem nb_nobody : ∀ t : Fin 7, nb 268435455 (t.val : Int) = 15 := by decide +kernel
theorem nb_all {t : Int} (t0 : 0 ≤ t) (t6 : t ≤ 6) : nb 268435455 t = 15 := by
  have h := nb_nobody ⟨t.toNat, by omega⟩
  simp only at h
  rwa [show ((t.toNat : Nat) : Int) = t by omega] at h
/-- the int is known by its places and its depth -/
theorem st_ext {a b : Int} (ha : inR a) (hb : inR b) (h : ∀ t, 0 ≤ t → t ≤ 6 → nb a t = nb b t) (hd : dp a = dp b) : a = b := by
  refine bv_inj ha hb (BitVec.eq_of_getLsbD_eq (fun i hi => ?_))
  by_cases q : i < 28
  · have h1 := congrArg (fun x => (bv x).getLsbD (i % 4)) (h ((i / 4 : Nat) : Int) (by omega) (by omega))
    have h1 := h1
    rw [nb_get (by omega) (by omega), nb_get (by omega) (by omega), decide_eq_true (show i % 4 < 4 by omega), Bool.and_true, Bool.and_true, show (4 * ((i / 4 : Nat) : Int)).toNat + i % 4 = i by omega] at h1
    exact h1
  · have h1 := congrArg (fun x => (bv x).getLsbD (i - 28)) hd
    have h1 := h1
    rw [dp_get, dp_get, show 28 + (i - 28) = i by omega] at h1
    exact h1
