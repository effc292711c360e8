/-! numbers of the class: bits, halves, copies, sets of things by size -/
theorem band15 (x : Int) : 0 ≤ bAnd x 15 ∧ bAnd x 15 ≤ 15 := by
  unfold bAnd
  have h : (Int32.ofInt x &&& Int32.ofInt 15).toBitVec.toNat ≤ 15 := by
    rw [Int32.toBitVec_and, BitVec.toNat_and]
    exact Nat.le_trans Nat.and_le_right (by decide)
  have e : (Int32.ofInt x &&& Int32.ofInt 15).toInt = ((Int32.ofInt x &&& Int32.ofInt 15).toBitVec.toNat : Int) := BitVec.toInt_eq_toNat_of_lt (by omega)
  rw [e]
  omega
theorem ush28 (x : Int) : 0 ≤ bUshr x 28 ∧ bUshr x 28 ≤ 15 := by
  unfold bUshr
  have e : ((Int32.ofInt 28).toUInt32 &&& Int32.toUInt32 31) = 28 := by decide
  rw [e]
  have h1 : ((Int32.ofInt x).toUInt32 >>> 28).toNat < 16 := by
    rw [UInt32.toNat_shiftRight]
    have := (Int32.ofInt x).toUInt32.toNat_lt
    simp only [Nat.shiftRight_eq_div_pow]
    have e2 : (28 : UInt32).toNat % 32 = 28 := by decide
    rw [e2]
    omega
  rw [u32i _ (by omega)]
  omega
theorem ush22 (x : Int) : 0 ≤ bUshr x 22 ∧ bUshr x 22 < 1024 := by
  unfold bUshr
  have e : ((Int32.ofInt 22).toUInt32 &&& Int32.toUInt32 31) = 22 := by decide
  rw [e]
  have h1 : ((Int32.ofInt x).toUInt32 >>> 22).toNat < 1024 := by
    rw [UInt32.toNat_shiftRight]
    have := (Int32.ofInt x).toUInt32.toNat_lt
    simp only [Nat.shiftRight_eq_div_pow]
    have e2 : (22 : UInt32).toNat % 32 = 22 := by decide
    rw [e2]
    omega
  rw [u32i _ (by omega)]
  omega
theorem bShr4 {x : Int} (h0 : 0 ≤ x) (h1 : x < 2147483648) : 0 ≤ bShr x 4 ∧ 16 * bShr x 4 ≤ x := by
  have e : bShr x 4 = x / 16 := by
    unfold bShr
    rw [show (Int32.ofInt 4 &&& 31) = (4 : Int32) by decide]
    show ((Int32.ofInt x) >>> (4 : Int32)).toBitVec.toInt = _
    rw [Int32.toBitVec_shiftRight, BitVec.sshiftRight_eq', show ((4 : Int32).toBitVec.smod 32).toNat = 4 by decide, BitVec.toInt_sshiftRight, Int.shiftRight_eq_div_pow]
    show (Int32.ofInt x).toInt / _ = _
    rw [iz_toInt ⟨by omega, by omega⟩]
    rfl
  omega
theorem bDiv2 {x : Int} (h0 : 0 ≤ x) (h1 : x < 2147483648) : 0 ≤ bDiv x 2 ∧ 2 * bDiv x 2 ≤ x := by
  have e : bDiv x 2 = x / 2 := by
    unfold bDiv
    rw [Int32.toInt_div, iz_toInt ⟨by omega, by omega⟩, iz_toInt ⟨by omega, by omega⟩, Int.tdiv_eq_ediv_of_nonneg h0, bmod_sm (by omega) (by omega)]
  omega
def bcZ (i : Int) : Int := ((i.toNat % 2 + i.toNat / 2 % 2 + i.toNat / 4 % 2 + i.toNat / 8 % 2 + i.toNat / 16 % 2 + i.toNat / 32 % 2 + i.toNat / 64 % 2 : Nat) : Int)
def bcA (i : Int) : Int := i - bAnd (bUshr i 1) 1431655765
def bcB (i : Int) : Int := bAnd i 858993459 + bAnd (bUshr i 2) 858993459
def bcC (i : Int) : Int := bAnd (i + bUshr i 4) 252645135
def bcD (i : Int) : Int := i + bUshr i 8
def bcF (i : Int) : Int := i + bUshr i 16
def bcE (i : Int) : Int := bAnd (bcF (bcD (bcC (bcB (bcA i))))) 63
theorem bcE_ok {i : Int} (h0 : 0 ≤ i) (h1 : i ≤ 127) : bcE i = bcZ i := by
  have key : ∀ q : Fin 128, bcE ((q.val : Nat) : Int) = bcZ ((q.val : Nat) : Int) := by decide +kernel
  have := key ⟨i.toNat, by omega⟩
  simp only at this
  rwa [Int.toNat_of_nonneg h0] at this
def cbN (z : Int) (n : Nat) : Nat := ((List.range n).filter (fun s => decide (bcZ ((s : Nat) : Int) = z))).length
def cbL (z : Int) : Nat := ((List.range 128).filter (fun s => decide (bcZ ((s : Nat) : Int) < z))).length
def cbZ (z t : Int) : Int := ((cbL z + cbN z t.toNat : Nat) : Int)
theorem cbN_succ (z : Int) (n : Nat) : cbN z (n + 1) = cbN z n + (if bcZ ((n : Nat) : Int) = z then 1 else 0) := by
  unfold cbN
  rw [List.range_succ, List.filter_append, List.length_append]
  congr 1
  by_cases h : bcZ ((n : Nat) : Int) = z
  · rw [if_pos h, List.filter_cons_of_pos (by simp [h])]; rfl
  · rw [if_neg h, List.filter_cons_of_neg (by simp [h])]; rfl
theorem cbN_mono (z : Int) {a b : Nat} (h : a ≤ b) : cbN z a ≤ cbN z b := by
  induction h with
  | refl => exact Nat.le_refl _
  | step _ ih => rw [cbN_succ]; omega
theorem cb_end {z : Int} (h0 : 0 ≤ z) (h1 : z ≤ 7) : cbL z + cbN z 128 = cbL (z + 1) := by
  have key : ∀ q : Fin 8, cbL ((q.val : Nat) : Int) + cbN ((q.val : Nat) : Int) 128 = cbL (((q.val : Nat) : Int) + 1) := by decide +kernel
  have := key ⟨z.toNat, by omega⟩
  simp only at this
  rwa [Int.toNat_of_nonneg h0] at this
theorem cbL_le (z : Int) : cbL z ≤ 128 := by
  unfold cbL
  exact Nat.le_trans (List.length_filter_le _ _) (by simp)
theorem cb_zero : cbZ 0 0 = 0 := by decide +kernel
theorem cb_step {z t : Int} (h0 : 0 ≤ z) (h1 : 0 ≤ t) : (bcZ t = z → cbZ z (t + 1) = cbZ z t + 1) ∧ cbZ z t ≤ cbZ z (t + 1) ∧ (z ≤ 7 → t < 128 → bcZ t = z → cbZ z t < 128) := by
  have e : (t + 1).toNat = t.toNat + 1 := by omega
  have e2 : ((t.toNat : Nat) : Int) = t := Int.toNat_of_nonneg h1
  have s := cbN_succ z t.toNat
  rw [e2] at s
  refine ⟨fun h => ?_, ?_, fun hz ht h => ?_⟩
  · unfold cbZ
    rw [e, s, if_pos h]
    omega
  · unfold cbZ
    rw [e, s]
    omega
  · rw [if_pos h] at s
    have m1 := cbN_mono z (show t.toNat + 1 ≤ 128 by omega)
    have m2 := cb_end h0 hz
    have m3 := cbL_le (z + 1)
    unfold cbZ
    omega
theorem cb_next {z t : Int} (h0 : 0 ≤ z) (h1 : z ≤ 7) (h2 : 0 ≤ t) (h3 : t ≤ 128) : cbZ z t ≤ cbZ (z + 1) 0 := by
  have m1 := cbN_mono z (show t.toNat ≤ 128 by omega)
  have m2 := cb_end h0 h1
  unfold cbZ
  have e : cbN (z + 1) (0 : Int).toNat = 0 := rfl
  rw [e]
  omega
def cpZ (f g : Int → Int) (n : Nat) : Int → Int := fun t => if 0 ≤ t ∧ t < n then f t else g t
theorem cpZ_r {f g : Int → Int} {n : Nat} (hf : ∀ t, inR (f t)) (hg : ∀ t, inR (g t)) : ∀ t, inR (cpZ f g n t) := fun t => by
  unfold cpZ
  split
  · exact hf t
  · exact hg t
theorem aI_cpy {f g : Int → Int} {n : Nat} : va_cpy (aI f) (aI g) 0 0 n = aI (cpZ f g n) := by
  funext j
  unfold va_cpy aI cpZ
  by_cases h : j < n
  · rw [if_pos (by omega), if_pos (by omega)]
    rw [show (0 + (j - 0)) = j by omega]
  · rw [if_neg (by omega), if_neg (by omega)]
section CV
variable {p : Program} {l : Launch} {e : Env} {R : Room} {s : State} {m : MethodId} {args : Array Value} {below : List Frame} {meth : Method} {c : Code} {H H0 : Heap} {locs : List Loc} {cells slots : Nat} {Q : State → Prop} {pc : Nat} {ls : Array Slot} {rest st0 : List Value} {cc : ByteArray} {x y : Int} {G : va_G} {k : Nat → ClassId} {A : Nat → Prop} {ws wc : va_W} {tys : List (ClassId × FieldType)} {a : Nat} {mc ms : Nat} {S : Type} {w1 : S → va_W} {av0 : Array Value} {E : (Nat → Prop) → State → Heap → Prop}
theorem iv_cpy (hexec : p.tables.exec = Jvm.exec) (hb : c.code = cc) (hml : c.maxLocals = ls.size) {own : String} {index : Nat} (hown : s.vm.findClass own = some m.cls) (hlink : (Cond.methodLink own index arraycopyName).before args s = true) (hnat : (Cond.native arraycopyName).before args s = true) (hstat : (Cond.static arraycopyName).before args s = true) (hini : (Cond.initialized "java/lang/System").before args s = true) (hK : va_K G vwCl tys s) (hP : va_P G vwCl ws H) (hD : va_D A ws) (hS : va_S A H0 H locs) (q0 q1 t0 t1 : Nat) {a0 : Nat} {c0 c1 : ClassId} {n : Nat} {f g : Int → Int} {w' : (Int → Int) → va_W} (ha0 : ws[q0]? = some (a0, .inl (c0, n, .inl (aI f)))) (ha1 : ws[q1]? = some (a, .inl (c1, n, .inl (aI g)))) (ht0 : tys[t0]? = some (c0, .int)) (ht1 : tys[t1]? = some (c1, .int)) (hset : ∀ g' : Int → Int, ws.set q1 (a, .inl (c1, n, .inl (aI g'))) = w' g') (hn : n ≤ 2147483647) (hframes : 1 ≤ R.frames) (hlocals : (rest.map fun v => v.category).sum + (nativeFrameWords "java/lang/System" "arraycopy" 5 + 11) ≤ R.locals) (hdg : decode cc pc = .ok (.invokestatic index, 3)) (kk : ∀ (H1 : Heap) (locs1 : List Loc), va_P G vwCl (w' (cpZ f g n)) H1 → va_D A (w' (cpZ f g n)) → va_S A H0 H1 locs1 → W p l e R s m args below meth c H1 locs1 cells slots Q (F0 m (pc + 3) ls rest)) : W p l e R s m args below meth c H locs cells slots Q (F0 m pc ls (.int (Int32.ofInt (n : Int)) :: .int (Int32.ofInt 0) :: .ref a :: .int (Int32.ofInt 0) :: .ref a0 :: rest)) := by
  have e0 : (Int32.ofInt 0).toNatClampNeg = 0 := by decide
  have en : (Int32.ofInt (n : Int)).toNatClampNeg = n := by rw [iz_cl (by omega) (by omega)]; omega
  refine va_copyi (ty := .int) hexec hb hml hown hlink hnat hstat hini hK hP hD hS q0 q1 t0 t1 ha0 ha1 ht0 ht1 rfl (by decide) (by decide) ?_ (by rw [e0, en]; omega) (by rw [e0, en]; omega) (fun _ _ => rfl) hframes hlocals hdg (fun H1 locs1 hP1 hD1 hS1 => ?_)
  · rw [iz_0, iz_lt ⟨by omega, by omega⟩ inR0]; omega
  · rw [e0, en, aI_cpy, hset] at hP1 hD1
    exact kk H1 locs1 hP1 hD1 hS1
end CV
