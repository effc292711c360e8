/-! integers behind ints: the rows of the general walk -/
abbrev inR (z : Int) : Prop := -2147483648 ≤ z ∧ z < 2147483648
def aI (g : Int → Int) : Nat → Int32 := fun t => Int32.ofInt (g t)
def uF {α : Type} (f : Nat → α) (j : Nat) (v : α) : Nat → α := fun i => if i = j then v else f i
def uA (g : Int → Int) (z v : Int) : Int → Int := fun t => if t = z then v else g t
theorem uA_at (g : Int → Int) (z v w : Int) : (w = z → uA g z v w = v) ∧ (¬ w = z → uA g z v w = g w) := ⟨fun h => if_pos h, fun h => if_neg h⟩
theorem inR_v (v : Int32) : inR v.toInt := ⟨by have := Int32.le_toInt v; omega, by have := Int32.toInt_lt v; omega⟩
theorem iF {f : Nat → Int} (h : ∀ j, inR (f j)) {j0 : Nat} {v : Int} (hv : inR v) : ∀ j, inR (uF f j0 v j) := fun j => by
  unfold uF
  split
  · exact hv
  · exact h j
theorem iG {f : Nat → Int → Int} (h : ∀ j t, inR (f j t)) {j0 : Nat} {g : Int → Int} (hg : ∀ t, inR (g t)) : ∀ j t, inR (uF f j0 g j t) := fun j t => by
  unfold uF
  split
  · exact hg t
  · exact h j t
theorem iU {g : Int → Int} (h : ∀ t, inR (g t)) {z v : Int} (hv : inR v) : ∀ t, inR (uA g z v t) := fun t => by
  unfold uA
  split
  · exact hv
  · exact h t
theorem iz_toInt {z : Int} (h : inR z) : (Int32.ofInt z).toInt = z := Int32.toInt_ofInt_of_le (by omega) (by omega)
theorem iz_lt {a b : Int} (ha : inR a) (hb : inR b) : Int32.ofInt a < Int32.ofInt b ↔ a < b := by rw [Int32.lt_iff_toInt_lt, iz_toInt ha, iz_toInt hb]
theorem iz_le {a b : Int} (ha : inR a) (hb : inR b) : Int32.ofInt a ≤ Int32.ofInt b ↔ a ≤ b := by rw [Int32.le_iff_toInt_le, iz_toInt ha, iz_toInt hb]
theorem iz_eq {a b : Int} (ha : inR a) (hb : inR b) : Int32.ofInt a = Int32.ofInt b ↔ a = b := by rw [← Int32.toInt_inj, iz_toInt ha, iz_toInt hb]
theorem inR0 : inR 0 := ⟨by omega, by omega⟩
theorem iz_0 : (0 : Int32) = Int32.ofInt 0 := by decide
theorem iz_cl {z : Int} (h0 : 0 ≤ z) (h1 : z < 2147483648) : (Int32.ofInt z).toNatClampNeg = z.toNat := Int32.toNatClampNeg_ofInt_of_le (by omega) (by omega)
theorem iz_in {z : Int} {n : Nat} (h0 : 0 ≤ z) (h1 : z < n) (hn : n ≤ 2147483647) : vp_in (Int32.ofInt z) n := by
  have hz : inR z := ⟨by omega, by omega⟩
  unfold vp_in
  rw [iz_cl h0 (by omega)]
  rintro (h | h)
  · rw [iz_0, iz_lt hz inR0] at h
    omega
  · omega
theorem aI_at {g : Int → Int} {z : Int} (h0 : 0 ≤ z) (h1 : z < 2147483648) : aI g (Int32.ofInt z).toNatClampNeg = Int32.ofInt (g z) := by
  unfold aI
  rw [iz_cl h0 h1, Int.toNat_of_nonneg h0]
theorem aI_upd {g : Int → Int} {z v : Int} (h0 : 0 ≤ z) (h1 : z < 2147483648) : upd (aI g) (Int32.ofInt z).toNatClampNeg (Int32.ofInt v) = aI (uA g z v) := by
  rw [iz_cl h0 h1]
  funext t
  unfold upd aI uA
  by_cases h : t = z.toNat
  · rw [if_pos h, if_pos (by omega)]
  · rw [if_neg h, if_neg (by omega)]
def bAnd (x y : Int) : Int := (Int32.ofInt x &&& Int32.ofInt y).toInt
theorem bAnd_r (x y : Int) : inR (bAnd x y) := inR_v _
def bOr (x y : Int) : Int := (Int32.ofInt x ||| Int32.ofInt y).toInt
theorem bOr_r (x y : Int) : inR (bOr x y) := inR_v _
def bXor (x y : Int) : Int := (Int32.ofInt x ^^^ Int32.ofInt y).toInt
theorem bXor_r (x y : Int) : inR (bXor x y) := inR_v _
def bDiv (x y : Int) : Int := (Int32.ofInt x / Int32.ofInt y).toInt
theorem bDiv_r (x y : Int) : inR (bDiv x y) := inR_v _
def bRem (x y : Int) : Int := (Int32.ofInt x - Int32.ofInt x / Int32.ofInt y * Int32.ofInt y).toInt
theorem bRem_r (x y : Int) : inR (bRem x y) := inR_v _
def bShl (x y : Int) : Int := (Int32.ofInt x <<< (Int32.ofInt y &&& 31)).toInt
def bShr (x y : Int) : Int := (Int32.ofInt x >>> (Int32.ofInt y &&& 31)).toInt
def bUshr (x y : Int) : Int := ((Int32.ofInt x).toUInt32 >>> ((Int32.ofInt y).toUInt32 &&& Int32.toUInt32 31)).toInt32.toInt
def bByte (x : Int) : Int := (Int32.ofInt x).toInt8.toInt32.toInt
def bWr (x : Int) : Int := (Int32.ofInt x).toInt
theorem bShl_r (x y : Int) : inR (bShl x y) := inR_v _
theorem bShr_r (x y : Int) : inR (bShr x y) := inR_v _
theorem bUshr_r (x y : Int) : inR (bUshr x y) := inR_v _
theorem bByte_r (x : Int) : inR (bByte x) := inR_v _
theorem bWr_r (x : Int) : inR (bWr x) := inR_v _
theorem bWr_eq {x : Int} (h : inR x) : bWr x = x := iz_toInt h
theorem bWr_o (x : Int) : Int32.ofInt (bWr x) = Int32.ofInt x := Int32.ofInt_toInt _
/-! what lies in the heap beside the worlds: kept by all -/
def EOK (E : (Nat → Prop) → State → Heap → Prop) : Prop := (∀ (A : Nat → Prop) (u U : State) (H : Heap), u.vm.Alike U.vm → E A u H → E A U H) ∧ (∀ (A : Nat → Prop) (U : State) (H H1 : Heap), E A U H → (∀ a : Nat, a < H.size → ¬ A a → H1[a]? = H[a]?) → E A U H1) ∧ ∀ (A B : Nat → Prop) (U : State) (H : Heap), (∀ q, B q → A q) → E A U H → E B U H
def PreY (G : va_G) (k : Nat → ClassId) (E : (Nat → Prop) → State → Heap → Prop) (av : List Value) (sz : Nat) (ws : va_W) : Array Value → State → Prop := va_Pc av (fun U => U.heap.size = sz ∧ va_P G vwCl ws U.heap ∧ KX G k U ∧ va_D (fun _ => True) ws ∧ E (va_A ws sz) U U.heap)
theorem pre_blindY {G : va_G} {k : Nat → ClassId} {E : (Nat → Prop) → State → Heap → Prop} (hE : EOK E) {av : List Value} {sz : Nat} {ws : va_W} : FrameBlind (PreY G k E av sz ws) := fun a U g mk q => ⟨q.1, q.2.1, q.2.2.1, KX.same (s := U) (U := U.calling g mk a) rfl q.2.2.2.1, q.2.2.2.2.1, hE.1 _ U (U.calling g mk a) _ (Vm.Alike.refl U.vm) q.2.2.2.2.2⟩
abbrev CNi {S : Type} (l : Launch) (G : va_G) (k : Nat → ClassId) (E : (Nat → Prop) → State → Heap → Prop) (y : MethodName) (wsy : List Cond) (rm : Room) (av : List Value) (sz : Nat) (wc : va_W) (post : Int32 → S → Prop) (w1 : S → va_W) : Prop := Met l y wsy rm (PreY G k E av sz wc) (va_Qi post (PostX G (va_A wc sz) w1) (va_A wc sz)) rm.cells rm.slots (va_A wc sz)
abbrev CNl {S : Type} (l : Launch) (G : va_G) (k : Nat → ClassId) (E : (Nat → Prop) → State → Heap → Prop) (y : MethodName) (wsy : List Cond) (rm : Room) (av : List Value) (sz : Nat) (wc : va_W) (post : Int64 → S → Prop) (w1 : S → va_W) : Prop := Met l y wsy rm (PreY G k E av sz wc) (va_Ql post (PostX G (va_A wc sz) w1) (va_A wc sz)) rm.cells rm.slots (va_A wc sz)
abbrev CNv {S : Type} (l : Launch) (G : va_G) (k : Nat → ClassId) (E : (Nat → Prop) → State → Heap → Prop) (y : MethodName) (wsy : List Cond) (rm : Room) (av : List Value) (sz : Nat) (wc : va_W) (post : S → Prop) (w1 : S → va_W) : Prop := Met l y wsy rm (PreY G k E av sz wc) (va_Qv post (PostX G (va_A wc sz) w1) (va_A wc sz)) rm.cells rm.slots (va_A wc sz)
section IV
variable {p : Program} {l : Launch} {e : Env} {R : Room} {s : State} {m : MethodId} {args : Array Value} {below : List Frame} {meth : Method} {c : Code} {H H0 : Heap} {locs : List Loc} {cells slots : Nat} {Q : State → Prop} {pc : Nat} {ls : Array Slot} {rest st0 : List Value} {cc : ByteArray} {x y : Int} {G : va_G} {k : Nat → ClassId} {A : Nat → Prop} {ws wc : va_W} {tys : List (ClassId × FieldType)} {a : Nat} {mc ms : Nat} {S : Type} {w1 : S → va_W} {av0 : Array Value} {E : (Nat → Prop) → State → Heap → Prop}
theorem iv_add (hexec : p.tables.exec = Jvm.exec) (hb : c.code = cc) (hdg : decode cc pc = .ok (.iadd, 1)) (k : W p l e R s m args below meth c H locs cells slots Q (F0 m (pc + 1) ls (.int (Int32.ofInt (x + y)) :: rest))) : W p l e R s m args below meth c H locs cells slots Q (F0 m pc ls (.int (Int32.ofInt (y)) :: .int (Int32.ofInt (x)) :: rest)) := lv_iadd hexec hb hdg (by rw [← Int32.ofInt_add]; exact k)
theorem iv_sub (hexec : p.tables.exec = Jvm.exec) (hb : c.code = cc) (hdg : decode cc pc = .ok (.isub, 1)) (k : W p l e R s m args below meth c H locs cells slots Q (F0 m (pc + 1) ls (.int (Int32.ofInt (x - y)) :: rest))) : W p l e R s m args below meth c H locs cells slots Q (F0 m pc ls (.int (Int32.ofInt (y)) :: .int (Int32.ofInt (x)) :: rest)) := lv_isub hexec hb hdg (by rw [← Int32.ofInt_sub]; exact k)
theorem iv_mul (hexec : p.tables.exec = Jvm.exec) (hb : c.code = cc) (hdg : decode cc pc = .ok (.imul, 1)) (k : W p l e R s m args below meth c H locs cells slots Q (F0 m (pc + 1) ls (.int (Int32.ofInt (x * y)) :: rest))) : W p l e R s m args below meth c H locs cells slots Q (F0 m pc ls (.int (Int32.ofInt (y)) :: .int (Int32.ofInt (x)) :: rest)) := lv_imul hexec hb hdg (by rw [← Int32.ofInt_mul]; exact k)
theorem iv_neg (hexec : p.tables.exec = Jvm.exec) (hb : c.code = cc) (hdg : decode cc pc = .ok (.ineg, 1)) (k : W p l e R s m args below meth c H locs cells slots Q (F0 m (pc + 1) ls (.int (Int32.ofInt (-x)) :: rest))) : W p l e R s m args below meth c H locs cells slots Q (F0 m pc ls (.int (Int32.ofInt (x)) :: rest)) := lv_ineg hexec hb hdg (by rw [← Int32.ofInt_neg]; exact k)
theorem iv_and (hexec : p.tables.exec = Jvm.exec) (hb : c.code = cc) (hdg : decode cc pc = .ok (.iand, 1)) (k : W p l e R s m args below meth c H locs cells slots Q (F0 m (pc + 1) ls (.int (Int32.ofInt (bAnd x y)) :: rest))) : W p l e R s m args below meth c H locs cells slots Q (F0 m pc ls (.int (Int32.ofInt (y)) :: .int (Int32.ofInt (x)) :: rest)) := lv_iand hexec hb hdg (by rw [← Int32.ofInt_toInt (Int32.ofInt x &&& Int32.ofInt y)]; exact k)
theorem iv_or (hexec : p.tables.exec = Jvm.exec) (hb : c.code = cc) (hdg : decode cc pc = .ok (.ior, 1)) (k : W p l e R s m args below meth c H locs cells slots Q (F0 m (pc + 1) ls (.int (Int32.ofInt (bOr x y)) :: rest))) : W p l e R s m args below meth c H locs cells slots Q (F0 m pc ls (.int (Int32.ofInt (y)) :: .int (Int32.ofInt (x)) :: rest)) := lv_ior hexec hb hdg (by rw [← Int32.ofInt_toInt (Int32.ofInt x ||| Int32.ofInt y)]; exact k)
theorem iv_xor (hexec : p.tables.exec = Jvm.exec) (hb : c.code = cc) (hdg : decode cc pc = .ok (.ixor, 1)) (k : W p l e R s m args below meth c H locs cells slots Q (F0 m (pc + 1) ls (.int (Int32.ofInt (bXor x y)) :: rest))) : W p l e R s m args below meth c H locs cells slots Q (F0 m pc ls (.int (Int32.ofInt (y)) :: .int (Int32.ofInt (x)) :: rest)) := lv_ixor hexec hb hdg (by rw [← Int32.ofInt_toInt (Int32.ofInt x ^^^ Int32.ofInt y)]; exact k)
theorem iv_div (hexec : p.tables.exec = Jvm.exec) (hb : c.code = cc) (hdg : decode cc pc = .ok (.idiv, 1)) (hne : ¬ y = 0) (hy : inR y) (k : W p l e R s m args below meth c H locs cells slots Q (F0 m (pc + 1) ls (.int (Int32.ofInt (bDiv x y)) :: rest))) : W p l e R s m args below meth c H locs cells slots Q (F0 m pc ls (.int (Int32.ofInt (y)) :: .int (Int32.ofInt (x)) :: rest)) := lv_idiv hexec hb hdg (fun q => hne ((iz_eq hy inR0).mp (by rw [q]; exact iz_0))) (by rw [← Int32.ofInt_toInt (Int32.ofInt x / Int32.ofInt y)]; exact k)
theorem iv_rem (hexec : p.tables.exec = Jvm.exec) (hb : c.code = cc) (hdg : decode cc pc = .ok (.irem, 1)) (hne : ¬ y = 0) (hy : inR y) (k : W p l e R s m args below meth c H locs cells slots Q (F0 m (pc + 1) ls (.int (Int32.ofInt (bRem x y)) :: rest))) : W p l e R s m args below meth c H locs cells slots Q (F0 m pc ls (.int (Int32.ofInt (y)) :: .int (Int32.ofInt (x)) :: rest)) := lv_irem hexec hb hdg (fun q => hne ((iz_eq hy inR0).mp (by rw [q]; exact iz_0))) (by rw [← Int32.ofInt_toInt (Int32.ofInt x - Int32.ofInt x / Int32.ofInt y * Int32.ofInt y)]; exact k)
theorem iv_shl (hexec : p.tables.exec = Jvm.exec) (hb : c.code = cc) (hdg : decode cc pc = .ok (.ishl, 1)) (k : W p l e R s m args below meth c H locs cells slots Q (F0 m (pc + 1) ls (.int (Int32.ofInt (bShl x y)) :: rest))) : W p l e R s m args below meth c H locs cells slots Q (F0 m pc ls (.int (Int32.ofInt (y)) :: .int (Int32.ofInt (x)) :: rest)) := lv_ishl hexec hb hdg (by rw [← Int32.ofInt_toInt (Int32.ofInt x <<< (Int32.ofInt y &&& 31))]; exact k)
theorem iv_shr (hexec : p.tables.exec = Jvm.exec) (hb : c.code = cc) (hdg : decode cc pc = .ok (.ishr, 1)) (k : W p l e R s m args below meth c H locs cells slots Q (F0 m (pc + 1) ls (.int (Int32.ofInt (bShr x y)) :: rest))) : W p l e R s m args below meth c H locs cells slots Q (F0 m pc ls (.int (Int32.ofInt (y)) :: .int (Int32.ofInt (x)) :: rest)) := lv_ishr hexec hb hdg (by rw [← Int32.ofInt_toInt (Int32.ofInt x >>> (Int32.ofInt y &&& 31))]; exact k)
theorem iv_ushr (hexec : p.tables.exec = Jvm.exec) (hb : c.code = cc) (hdg : decode cc pc = .ok (.iushr, 1)) (k : W p l e R s m args below meth c H locs cells slots Q (F0 m (pc + 1) ls (.int (Int32.ofInt (bUshr x y)) :: rest))) : W p l e R s m args below meth c H locs cells slots Q (F0 m pc ls (.int (Int32.ofInt (y)) :: .int (Int32.ofInt (x)) :: rest)) := lv_iushr hexec hb hdg (Int32.ofInt_toInt _).symm k
theorem iv_i2b (hexec : p.tables.exec = Jvm.exec) (hb : c.code = cc) (hdg : decode cc pc = .ok (.i2b, 1)) (k : W p l e R s m args below meth c H locs cells slots Q (F0 m (pc + 1) ls (.int (Int32.ofInt (bByte x)) :: rest))) : W p l e R s m args below meth c H locs cells slots Q (F0 m pc ls (.int (Int32.ofInt (x)) :: rest)) := lv_i2b hexec hb hdg (Int32.ofInt_toInt _).symm k
theorem iv_wr (k : W p l e R s m args below meth c H locs cells slots Q (F0 m pc ls (.int (Int32.ofInt (bWr x)) :: rest))) : W p l e R s m args below meth c H locs cells slots Q (F0 m pc ls (.int (Int32.ofInt (x)) :: rest)) := by rw [← bWr_o]; exact k
theorem iv_icmp_eq (hexec : p.tables.exec = Jvm.exec) (hb : c.code = cc) {off : Int} {tgt : Nat} (hx : inR x) (hy : inR y) (hdg : decode cc pc = .ok (.if_icmp .eq off, 3)) (ht : (pc : Int) + off = (tgt : Int)) (kt : x = y → W p l e R s m args below meth c H locs cells slots Q (F0 m tgt ls rest)) (kf : ¬ x = y → W p l e R s m args below meth c H locs cells slots Q (F0 m (pc + 3) ls rest)) : W p l e R s m args below meth c H locs cells slots Q (F0 m pc ls (.int (Int32.ofInt (y)) :: .int (Int32.ofInt (x)) :: rest)) := lv_icmp_eq hexec hb hdg ht (fun q => kt ((iz_eq hx hy).mp q)) (fun q => kf (fun z => q ((iz_eq hx hy).mpr z)))
theorem iv_if_eq (hexec : p.tables.exec = Jvm.exec) (hb : c.code = cc) {off : Int} {tgt : Nat} (hx : inR x) (hdg : decode cc pc = .ok (.ifCond .eq off, 3)) (ht : (pc : Int) + off = (tgt : Int)) (kt : x = 0 → W p l e R s m args below meth c H locs cells slots Q (F0 m tgt ls rest)) (kf : ¬ x = 0 → W p l e R s m args below meth c H locs cells slots Q (F0 m (pc + 3) ls rest)) : W p l e R s m args below meth c H locs cells slots Q (F0 m pc ls (.int (Int32.ofInt (x)) :: rest)) := lv_if_eq hexec hb hdg ht (fun q => kt ((iz_eq hx inR0).mp (q.trans iz_0))) (fun q => kf (fun z => q (((iz_eq hx inR0).mpr z).trans iz_0.symm)))
theorem iv_icmp_ne (hexec : p.tables.exec = Jvm.exec) (hb : c.code = cc) {off : Int} {tgt : Nat} (hx : inR x) (hy : inR y) (hdg : decode cc pc = .ok (.if_icmp .ne off, 3)) (ht : (pc : Int) + off = (tgt : Int)) (kt : ¬ x = y → W p l e R s m args below meth c H locs cells slots Q (F0 m tgt ls rest)) (kf : x = y → W p l e R s m args below meth c H locs cells slots Q (F0 m (pc + 3) ls rest)) : W p l e R s m args below meth c H locs cells slots Q (F0 m pc ls (.int (Int32.ofInt (y)) :: .int (Int32.ofInt (x)) :: rest)) := lv_icmp_ne hexec hb hdg ht (fun q => kt (fun z => q ((iz_eq hx hy).mpr z))) (fun q => kf ((iz_eq hx hy).mp q))
theorem iv_if_ne (hexec : p.tables.exec = Jvm.exec) (hb : c.code = cc) {off : Int} {tgt : Nat} (hx : inR x) (hdg : decode cc pc = .ok (.ifCond .ne off, 3)) (ht : (pc : Int) + off = (tgt : Int)) (kt : ¬ x = 0 → W p l e R s m args below meth c H locs cells slots Q (F0 m tgt ls rest)) (kf : x = 0 → W p l e R s m args below meth c H locs cells slots Q (F0 m (pc + 3) ls rest)) : W p l e R s m args below meth c H locs cells slots Q (F0 m pc ls (.int (Int32.ofInt (x)) :: rest)) := lv_if_ne hexec hb hdg ht (fun q => kt (fun z => q (((iz_eq hx inR0).mpr z).trans iz_0.symm))) (fun q => kf ((iz_eq hx inR0).mp (q.trans iz_0)))
theorem iv_icmp_lt (hexec : p.tables.exec = Jvm.exec) (hb : c.code = cc) {off : Int} {tgt : Nat} (hx : inR x) (hy : inR y) (hdg : decode cc pc = .ok (.if_icmp .lt off, 3)) (ht : (pc : Int) + off = (tgt : Int)) (kt : x < y → W p l e R s m args below meth c H locs cells slots Q (F0 m tgt ls rest)) (kf : ¬ x < y → W p l e R s m args below meth c H locs cells slots Q (F0 m (pc + 3) ls rest)) : W p l e R s m args below meth c H locs cells slots Q (F0 m pc ls (.int (Int32.ofInt (y)) :: .int (Int32.ofInt (x)) :: rest)) := lv_icmp_lt hexec hb hdg ht (fun q => kt ((iz_lt hx hy).mp q)) (fun q => kf (fun z => q ((iz_lt hx hy).mpr z)))
theorem iv_if_lt (hexec : p.tables.exec = Jvm.exec) (hb : c.code = cc) {off : Int} {tgt : Nat} (hx : inR x) (hdg : decode cc pc = .ok (.ifCond .lt off, 3)) (ht : (pc : Int) + off = (tgt : Int)) (kt : x < 0 → W p l e R s m args below meth c H locs cells slots Q (F0 m tgt ls rest)) (kf : ¬ x < 0 → W p l e R s m args below meth c H locs cells slots Q (F0 m (pc + 3) ls rest)) : W p l e R s m args below meth c H locs cells slots Q (F0 m pc ls (.int (Int32.ofInt (x)) :: rest)) := lv_if_lt hexec hb hdg ht (fun q => kt ((iz_lt hx inR0).mp (by rw [← iz_0]; exact q))) (fun q => kf (fun z => q (by rw [iz_0]; exact (iz_lt hx inR0).mpr z)))
theorem iv_icmp_ge (hexec : p.tables.exec = Jvm.exec) (hb : c.code = cc) {off : Int} {tgt : Nat} (hx : inR x) (hy : inR y) (hdg : decode cc pc = .ok (.if_icmp .ge off, 3)) (ht : (pc : Int) + off = (tgt : Int)) (kt : y ≤ x → W p l e R s m args below meth c H locs cells slots Q (F0 m tgt ls rest)) (kf : ¬ y ≤ x → W p l e R s m args below meth c H locs cells slots Q (F0 m (pc + 3) ls rest)) : W p l e R s m args below meth c H locs cells slots Q (F0 m pc ls (.int (Int32.ofInt (y)) :: .int (Int32.ofInt (x)) :: rest)) := lv_icmp_ge hexec hb hdg ht (fun q => kt ((iz_le hy hx).mp q)) (fun q => kf (fun z => q ((iz_le hy hx).mpr z)))
theorem iv_if_ge (hexec : p.tables.exec = Jvm.exec) (hb : c.code = cc) {off : Int} {tgt : Nat} (hx : inR x) (hdg : decode cc pc = .ok (.ifCond .ge off, 3)) (ht : (pc : Int) + off = (tgt : Int)) (kt : 0 ≤ x → W p l e R s m args below meth c H locs cells slots Q (F0 m tgt ls rest)) (kf : ¬ 0 ≤ x → W p l e R s m args below meth c H locs cells slots Q (F0 m (pc + 3) ls rest)) : W p l e R s m args below meth c H locs cells slots Q (F0 m pc ls (.int (Int32.ofInt (x)) :: rest)) := lv_if_ge hexec hb hdg ht (fun q => kt ((iz_le inR0 hx).mp (by rw [← iz_0]; exact q))) (fun q => kf (fun z => q (by rw [iz_0]; exact (iz_le inR0 hx).mpr z)))
theorem iv_icmp_gt (hexec : p.tables.exec = Jvm.exec) (hb : c.code = cc) {off : Int} {tgt : Nat} (hx : inR x) (hy : inR y) (hdg : decode cc pc = .ok (.if_icmp .gt off, 3)) (ht : (pc : Int) + off = (tgt : Int)) (kt : y < x → W p l e R s m args below meth c H locs cells slots Q (F0 m tgt ls rest)) (kf : ¬ y < x → W p l e R s m args below meth c H locs cells slots Q (F0 m (pc + 3) ls rest)) : W p l e R s m args below meth c H locs cells slots Q (F0 m pc ls (.int (Int32.ofInt (y)) :: .int (Int32.ofInt (x)) :: rest)) := lv_icmp_gt hexec hb hdg ht (fun q => kt ((iz_lt hy hx).mp q)) (fun q => kf (fun z => q ((iz_lt hy hx).mpr z)))
theorem iv_if_gt (hexec : p.tables.exec = Jvm.exec) (hb : c.code = cc) {off : Int} {tgt : Nat} (hx : inR x) (hdg : decode cc pc = .ok (.ifCond .gt off, 3)) (ht : (pc : Int) + off = (tgt : Int)) (kt : 0 < x → W p l e R s m args below meth c H locs cells slots Q (F0 m tgt ls rest)) (kf : ¬ 0 < x → W p l e R s m args below meth c H locs cells slots Q (F0 m (pc + 3) ls rest)) : W p l e R s m args below meth c H locs cells slots Q (F0 m pc ls (.int (Int32.ofInt (x)) :: rest)) := lv_if_gt hexec hb hdg ht (fun q => kt ((iz_lt inR0 hx).mp (by rw [← iz_0]; exact q))) (fun q => kf (fun z => q (by rw [iz_0]; exact (iz_lt inR0 hx).mpr z)))
theorem iv_icmp_le (hexec : p.tables.exec = Jvm.exec) (hb : c.code = cc) {off : Int} {tgt : Nat} (hx : inR x) (hy : inR y) (hdg : decode cc pc = .ok (.if_icmp .le off, 3)) (ht : (pc : Int) + off = (tgt : Int)) (kt : x ≤ y → W p l e R s m args below meth c H locs cells slots Q (F0 m tgt ls rest)) (kf : ¬ x ≤ y → W p l e R s m args below meth c H locs cells slots Q (F0 m (pc + 3) ls rest)) : W p l e R s m args below meth c H locs cells slots Q (F0 m pc ls (.int (Int32.ofInt (y)) :: .int (Int32.ofInt (x)) :: rest)) := lv_icmp_le hexec hb hdg ht (fun q => kt ((iz_le hx hy).mp q)) (fun q => kf (fun z => q ((iz_le hx hy).mpr z)))
theorem iv_if_le (hexec : p.tables.exec = Jvm.exec) (hb : c.code = cc) {off : Int} {tgt : Nat} (hx : inR x) (hdg : decode cc pc = .ok (.ifCond .le off, 3)) (ht : (pc : Int) + off = (tgt : Int)) (kt : x ≤ 0 → W p l e R s m args below meth c H locs cells slots Q (F0 m tgt ls rest)) (kf : ¬ x ≤ 0 → W p l e R s m args below meth c H locs cells slots Q (F0 m (pc + 3) ls rest)) : W p l e R s m args below meth c H locs cells slots Q (F0 m pc ls (.int (Int32.ofInt (x)) :: rest)) := lv_if_le hexec hb hdg ht (fun q => kt ((iz_le hx inR0).mp (by rw [← iz_0]; exact q))) (fun q => kf (fun z => q (by rw [iz_0]; exact (iz_le hx inR0).mpr z)))
theorem iv_iald (hexec : p.tables.exec = Jvm.exec) (hb : c.code = cc) (hK : va_K G vwCl tys s) (hP : va_P G vwCl ws H) (q0 t0 : Nat) {cA : ClassId} {n : Nat} {g : Int → Int} (ha : ws[q0]? = some (a, .inl (cA, n, .inl (aI g)))) (ht : tys[t0]? = some (cA, .int)) {z : Int} (h0 : 0 ≤ z) (h1 : z < n) (hn : n ≤ 2147483647) (hdg : decode cc pc = .ok (.iaload, 1)) (kk : W p l e R s m args below meth c H locs cells slots Q (F0 m (pc + 1) ls (.int (Int32.ofInt (g z)) :: rest))) : W p l e R s m args below meth c H locs cells slots Q (F0 m pc ls (.int (Int32.ofInt (z)) :: .ref a :: rest)) := va_iald hexec hb hK hP q0 t0 ha ht (iz_in h0 h1 hn) hdg (by rw [aI_at h0 (by omega)]; exact kk)
theorem iv_bald (hexec : p.tables.exec = Jvm.exec) (hb : c.code = cc) (hK : va_K G vwCl tys s) (hP : va_P G vwCl ws H) (q0 t0 : Nat) {cA : ClassId} {n : Nat} {g : Int → Int} (ha : ws[q0]? = some (a, .inl (cA, n, .inl (aI g)))) (ht : tys[t0]? = some (cA, .byte)) {z : Int} (h0 : 0 ≤ z) (h1 : z < n) (hn : n ≤ 2147483647) (hdg : decode cc pc = .ok (.baload, 1)) (kk : W p l e R s m args below meth c H locs cells slots Q (F0 m (pc + 1) ls (.int (Int32.ofInt (g z)) :: rest))) : W p l e R s m args below meth c H locs cells slots Q (F0 m pc ls (.int (Int32.ofInt (z)) :: .ref a :: rest)) := va_bald hexec hb hK hP q0 t0 ha ht (iz_in h0 h1 hn) hdg (by rw [aI_at h0 (by omega)]; exact kk)
theorem iv_zald (hexec : p.tables.exec = Jvm.exec) (hb : c.code = cc) (hK : va_K G vwCl tys s) (hP : va_P G vwCl ws H) (q0 t0 : Nat) {cA : ClassId} {n : Nat} {g : Int → Int} (ha : ws[q0]? = some (a, .inl (cA, n, .inl (aI g)))) (ht : tys[t0]? = some (cA, .boolean)) {z : Int} (h0 : 0 ≤ z) (h1 : z < n) (hn : n ≤ 2147483647) (hdg : decode cc pc = .ok (.baload, 1)) (kk : W p l e R s m args below meth c H locs cells slots Q (F0 m (pc + 1) ls (.int (Int32.ofInt (g z)) :: rest))) : W p l e R s m args below meth c H locs cells slots Q (F0 m pc ls (.int (Int32.ofInt (z)) :: .ref a :: rest)) := va_zald hexec hb hK hP q0 t0 ha ht (iz_in h0 h1 hn) hdg (by rw [aI_at h0 (by omega)]; exact kk)
theorem iv_iast (hexec : p.tables.exec = Jvm.exec) (hb : c.code = cc) (hK : va_K G vwCl tys s) (hP : va_P G vwCl ws H) (hD : va_D A ws) (hS : va_S A H0 H locs) (q0 t0 : Nat) {cA : ClassId} {n : Nat} {g : Int → Int} {w' : (Int → Int) → va_W} (ha : ws[q0]? = some (a, .inl (cA, n, .inl (aI g)))) (ht : tys[t0]? = some (cA, .int)) (hset : ∀ g' : Int → Int, ws.set q0 (a, .inl (cA, n, .inl (aI g'))) = w' g') {z v : Int} (h0 : 0 ≤ z) (h1 : z < n) (hn : n ≤ 2147483647) (hdg : decode cc pc = .ok (.iastore, 1)) (kk : ∀ (H1 : Heap) (locs1 : List Loc), va_P G vwCl (w' (uA g z v)) H1 → va_D A (w' (uA g z v)) → va_S A H0 H1 locs1 → W p l e R s m args below meth c H1 locs1 cells slots Q (F0 m (pc + 1) ls rest)) : W p l e R s m args below meth c H locs cells slots Q (F0 m pc ls (.int (Int32.ofInt (v)) :: .int (Int32.ofInt (z)) :: .ref a :: rest)) := by
  refine va_iast hexec hb hK hP hD hS q0 t0 ha ht (iz_in h0 h1 hn) hdg (fun H1 locs1 hP1 hD1 hS1 => ?_)
  rw [aI_upd h0 (by omega), hset] at hP1 hD1
  exact kk H1 locs1 hP1 hD1 hS1
/-- a straight loop: a measure falls -/
theorem iv_loop {α : Type} {nL : Nat} (wa : α → va_W) (lv : α → List (Nat × Value)) (me : α → Nat) (inv : α → Prop) (step : ∀ b : α, (∀ d : α, me d < me b → inv d → ∀ (H : Heap) (locs : List Loc) (ls : Array Slot), va_P G vwCl (wa d) H → va_D A (wa d) → va_S A H0 H locs → lv_has ls nL (lv d) → W p l e R s m args below meth c H locs cells slots Q (F0 m pc ls rest)) → inv b → ∀ (H : Heap) (locs : List Loc) (ls : Array Slot), va_P G vwCl (wa b) H → va_D A (wa b) → va_S A H0 H locs → lv_has ls nL (lv b) → W p l e R s m args below meth c H locs cells slots Q (F0 m pc ls rest)) (b : α) (hi : inv b) (hP : va_P G vwCl (wa b) H) (hD : va_D A (wa b)) (hS : va_S A H0 H locs) (hl : lv_has ls nL (lv b)) : W p l e R s m args below meth c H locs cells slots Q (F0 m pc ls rest) := by
  have key : ∀ (n : Nat) (b : α), me b < n → inv b → ∀ (H : Heap) (locs : List Loc) (ls : Array Slot), va_P G vwCl (wa b) H → va_D A (wa b) → va_S A H0 H locs → lv_has ls nL (lv b) → W p l e R s m args below meth c H locs cells slots Q (F0 m pc ls rest) := by
    intro n
    induction n with
    | zero => intro b h; exact absurd h (Nat.not_lt_zero _)
    | succ n ih => intro b h hb; exact step b (fun d hd hi => ih d (by omega) hi) hb
  exact key (me b + 1) b (by omega) hi H locs ls hP hD hS hl
/-- roads that meet -/
theorem iv_join {α : Type} {nL : Nat} (pc2 : Nat) (rest2 : α → List Value) (wa : α → va_W) (lv : α → List (Nat × Value)) (inv : α → Prop) (hJ : ∀ b : α, inv b → ∀ (H : Heap) (locs : List Loc) (ls : Array Slot), va_P G vwCl (wa b) H → va_D A (wa b) → va_S A H0 H locs → lv_has ls nL (lv b) → W p l e R s m args below meth c H locs cells slots Q (F0 m pc2 ls (rest2 b))) (hk : (∀ b : α, inv b → ∀ (H : Heap) (locs : List Loc) (ls : Array Slot), va_P G vwCl (wa b) H → va_D A (wa b) → va_S A H0 H locs → lv_has ls nL (lv b) → W p l e R s m args below meth c H locs cells slots Q (F0 m pc2 ls (rest2 b))) → W p l e R s m args below meth c H locs cells slots Q (F0 m pc ls rest)) : W p l e R s m args below meth c H locs cells slots Q (F0 m pc ls rest) := hk hJ
theorem cr_map (ws : va_W) : (List.range ws.length).map (fun i => ws[i]?) = ws.map some := by
  apply List.ext_getElem?
  intro i
  rw [List.getElem?_map, List.getElem?_map]
  by_cases h : i < ws.length
  · rw [List.getElem?_range h, List.getElem?_eq_getElem h]; simp
  · rw [List.getElem?_eq_none (by simpa using h), List.getElem?_eq_none (by omega)]; rfl
theorem nd_of : ∀ {l : List Nat}, l.Nodup → va_nd l = true
  | [], _ => rfl
  | a :: l, h => by
    have h1 := List.nodup_cons.mp h
    unfold va_nd
    rw [nd_of h1.2, Bool.and_true]
    exact decide_eq_true h1.1
theorem cr_nd (n : Nat) : va_nd (List.range n) = true := nd_of List.nodup_range
theorem cr_fm (ws : va_W) : (List.range ws.length).filterMap (fun i => ws[i]?) = ws := cz_fm (cr_map ws)
theorem cr_free (hD : va_D A ws) (hS : va_S A H0 H locs) (hA : ∀ q, H0.size ≤ q → A q) : ∀ q, va_A ws H.size q → A q := by
  rintro q (⟨k, e, h⟩ | h)
  · exact hD.2 k _ h
  · exact hA q (Nat.le_trans hS.1 h)
theorem cr_preS {av : List Value} (hE : EOK E) (hZ : E A s s.heap) (hS : va_S A s.heap H locs) (hX : KX G k s) (hP : va_P G vwCl ws H) (hD : va_D A ws) (hA : ∀ q, s.heap.size ≤ q → A q) : PreS s H (PreY G k E av H.size ws) av :=
  ⟨pre_blindY hE, fun U hU hW => ⟨rfl, by rw [hU], by rw [hU]; exact hP, hX.warm hW, hD.weaken (fun _ _ _ _ => trivial), by rw [hU]; exact hE.1 _ _ _ _ hW.alike (hE.2.2 _ _ _ _ (cr_free hD hS hA) (hE.2.1 _ _ _ _ hZ hS.2.1))⟩⟩
theorem cr_preV {av : List Value} {b q0 ci : Nat} {q : vw_C} {fs : List Value} (hE : EOK E) (hZ : E A s s.heap) (hS : va_S A s.heap H locs) (hX : KX G k s) (hP : va_P G vwCl ws H) (hD : va_D A ws) (hA : ∀ q, s.heap.size ≤ q → A q) (hc : vwCl[ci]? = some q) (he : ws[q0]? = some (b, .inr (ci, fs))) : PreV s H q.1 b (PreY G k E (.ref b :: av) H.size ws) av :=
  ⟨pre_blindY hE, va_recv hX.1 hP hc he, fun U hU hW => ⟨rfl, by rw [hU], by rw [hU]; exact hP, hX.warm hW, hD.weaken (fun _ _ _ _ => trivial), by rw [hU]; exact hE.1 _ _ _ _ hW.alike (hE.2.2 _ _ _ _ (cr_free hD hS hA) (hE.2.1 _ _ _ _ hZ hS.2.1))⟩⟩
theorem cy_preS {av : List Value} (hE : EOK E) (hZ : E A s s.heap) (hS : va_S A s.heap H locs) (hX : KX G k s) (hP : va_P G vwCl ws H) (hD : va_D A ws) (hA : ∀ q, s.heap.size ≤ q → A q) (isC : List Nat) (hn : va_nd isC = true) (hC : isC.map (fun i => ws[i]?) = wc.map some) : PreS s H (PreY G k E av H.size wc) av :=
  ⟨pre_blindY hE, fun U hU hW => ⟨rfl, by rw [hU], by rw [hU]; exact hP.sub isC (cz_fm hC), hX.warm hW, (hD.sub isC hn hC).weaken (fun _ _ _ _ => trivial), by rw [hU]; exact hE.1 _ _ _ _ hW.alike (hE.2.2 _ _ _ _ (va_free hD hS hA isC hC) (hE.2.1 _ _ _ _ hZ hS.2.1))⟩⟩
theorem cy_preV {av : List Value} {b q0 ci : Nat} {q : vw_C} {fs : List Value} (hE : EOK E) (hZ : E A s s.heap) (hS : va_S A s.heap H locs) (hX : KX G k s) (hP : va_P G vwCl ws H) (hD : va_D A ws) (hA : ∀ q, s.heap.size ≤ q → A q) (isC : List Nat) (hn : va_nd isC = true) (hC : isC.map (fun i => ws[i]?) = wc.map some) (hc : vwCl[ci]? = some q) (he : ws[q0]? = some (b, .inr (ci, fs))) : PreV s H q.1 b (PreY G k E (.ref b :: av) H.size wc) av :=
  ⟨pre_blindY hE, va_recv hX.1 hP hc he, fun U hU hW => ⟨rfl, by rw [hU], by rw [hU]; exact hP.sub isC (cz_fm hC), hX.warm hW, (hD.sub isC hn hC).weaken (fun _ _ _ _ => trivial), by rw [hU]; exact hE.1 _ _ _ _ hW.alike (hE.2.2 _ _ _ _ (va_free hD hS hA isC hC) (hE.2.1 _ _ _ _ hZ hS.2.1))⟩⟩
theorem cr_pre0 {av : List Value} (hE : EOK E) (hZ : E A s s.heap) (hS : va_S A s.heap H locs) (hX : KX G k s) (hP : va_P G vwCl ws H) (hD : va_D A ws) (hA : ∀ q, s.heap.size ≤ q → A q) : PreS s H (PreY G k E av H.size []) av := cy_preS hE hZ hS hX hP hD hA [] rfl rfl
theorem cr_i {post : Int32 → S → Prop} (hr : va_Run p l e R s m args below meth c H locs cells slots mc ms (F0 m pc ls st0) rest (va_Qi post (PostX G (va_A ws H.size) w1) (va_A ws H.size) av0) (va_A ws H.size)) (hD : va_D A ws) (hS : va_S A H0 H locs) (hA : ∀ q, H0.size ≤ q → A q)
    (kk : ∀ (r : Int32) (u : S) (H1 : Heap) (locs1 : List Loc), post r u → va_P G vwCl (w1 u) H1 → va_D A (w1 u) → va_S A H0 H1 locs1 → W p l e R s m args below meth c H1 locs1 (cells + mc) (slots + ms) Q (F0 m (pc + 3) ls (.int r :: rest))) : W p l e R s m args below meth c H locs cells slots Q (F0 m pc ls st0) := by
  have hF := cr_free hD hS hA
  refine va_calli hr hS (fun q _ h => hF q h) hF (fun r u t H1 locs1 ht hvm hw hB hz1 hk1 hS1 => ?_)
  obtain ⟨hP1, hD1⟩ := hB
  rw [ht] at hP1
  exact kk r u H1 locs1 hw hP1 (hD1.weaken (fun _ _ _ h => hF _ h)) hS1
theorem c0_i {post : Int32 → S → Prop} (hr : va_Run p l e R s m args below meth c H locs cells slots mc ms (F0 m pc ls st0) rest (va_Qi post (PostX G (va_A [] H.size) (fun _ : S => [])) (va_A [] H.size) av0) (va_A [] H.size)) (hP : va_P G vwCl ws H) (hD : va_D A ws) (hS : va_S A H0 H locs) (hA : ∀ q, H0.size ≤ q → A q)
    (kk : ∀ (r : Int32) (u : S) (H1 : Heap) (locs1 : List Loc), post r u → va_P G vwCl ws H1 → va_D A ws → va_S A H0 H1 locs1 → W p l e R s m args below meth c H1 locs1 (cells + mc) (slots + ms) Q (F0 m (pc + 3) ls (.int r :: rest))) : W p l e R s m args below meth c H locs cells slots Q (F0 m pc ls st0) := by
  refine cz_i (wr := ws) hr hP hD hS hA [] (List.range ws.length) rfl (cr_map ws) (cr_nd _) (fun _ _ h => (List.not_mem_nil h).elim) (fun r u H1 locs1 hp hP1 hD1 hS1 => ?_)
  rw [List.append_nil] at hP1 hD1
  exact kk r u H1 locs1 hp hP1 hD1 hS1
theorem cr_l {post : Int64 → S → Prop} (hr : va_Run p l e R s m args below meth c H locs cells slots mc ms (F0 m pc ls st0) rest (va_Ql post (PostX G (va_A ws H.size) w1) (va_A ws H.size) av0) (va_A ws H.size)) (hD : va_D A ws) (hS : va_S A H0 H locs) (hA : ∀ q, H0.size ≤ q → A q)
    (kk : ∀ (r : Int64) (u : S) (H1 : Heap) (locs1 : List Loc), post r u → va_P G vwCl (w1 u) H1 → va_D A (w1 u) → va_S A H0 H1 locs1 → W p l e R s m args below meth c H1 locs1 (cells + mc) (slots + ms) Q (F0 m (pc + 3) ls (.long r :: rest))) : W p l e R s m args below meth c H locs cells slots Q (F0 m pc ls st0) := by
  have hF := cr_free hD hS hA
  refine va_calll hr hS (fun q _ h => hF q h) hF (fun r u t H1 locs1 ht hvm hw hB hz1 hk1 hS1 => ?_)
  obtain ⟨hP1, hD1⟩ := hB
  rw [ht] at hP1
  exact kk r u H1 locs1 hw hP1 (hD1.weaken (fun _ _ _ h => hF _ h)) hS1
theorem c0_l {post : Int64 → S → Prop} (hr : va_Run p l e R s m args below meth c H locs cells slots mc ms (F0 m pc ls st0) rest (va_Ql post (PostX G (va_A [] H.size) (fun _ : S => [])) (va_A [] H.size) av0) (va_A [] H.size)) (hP : va_P G vwCl ws H) (hD : va_D A ws) (hS : va_S A H0 H locs) (hA : ∀ q, H0.size ≤ q → A q)
    (kk : ∀ (r : Int64) (u : S) (H1 : Heap) (locs1 : List Loc), post r u → va_P G vwCl ws H1 → va_D A ws → va_S A H0 H1 locs1 → W p l e R s m args below meth c H1 locs1 (cells + mc) (slots + ms) Q (F0 m (pc + 3) ls (.long r :: rest))) : W p l e R s m args below meth c H locs cells slots Q (F0 m pc ls st0) := by
  refine cz_l (wr := ws) hr hP hD hS hA [] (List.range ws.length) rfl (cr_map ws) (cr_nd _) (fun _ _ h => (List.not_mem_nil h).elim) (fun r u H1 locs1 hp hP1 hD1 hS1 => ?_)
  rw [List.append_nil] at hP1 hD1
  exact kk r u H1 locs1 hp hP1 hD1 hS1
theorem cr_v {post : S → Prop} (hr : va_Run p l e R s m args below meth c H locs cells slots mc ms (F0 m pc ls st0) rest (va_Qv post (PostX G (va_A ws H.size) w1) (va_A ws H.size) av0) (va_A ws H.size)) (hD : va_D A ws) (hS : va_S A H0 H locs) (hA : ∀ q, H0.size ≤ q → A q)
    (kk : ∀ (u : S) (H1 : Heap) (locs1 : List Loc), post u → va_P G vwCl (w1 u) H1 → va_D A (w1 u) → va_S A H0 H1 locs1 → W p l e R s m args below meth c H1 locs1 (cells + mc) (slots + ms) Q (F0 m (pc + 3) ls (rest))) : W p l e R s m args below meth c H locs cells slots Q (F0 m pc ls st0) := by
  have hF := cr_free hD hS hA
  refine va_callv hr hS (fun q _ h => hF q h) hF (fun u t H1 locs1 ht hvm hw hB hz1 hk1 hS1 => ?_)
  obtain ⟨hP1, hD1⟩ := hB
  rw [ht] at hP1
  exact kk u H1 locs1 hw hP1 (hD1.weaken (fun _ _ _ h => hF _ h)) hS1
theorem c0_v {post : S → Prop} (hr : va_Run p l e R s m args below meth c H locs cells slots mc ms (F0 m pc ls st0) rest (va_Qv post (PostX G (va_A [] H.size) (fun _ : S => [])) (va_A [] H.size) av0) (va_A [] H.size)) (hP : va_P G vwCl ws H) (hD : va_D A ws) (hS : va_S A H0 H locs) (hA : ∀ q, H0.size ≤ q → A q)
    (kk : ∀ (u : S) (H1 : Heap) (locs1 : List Loc), post u → va_P G vwCl ws H1 → va_D A ws → va_S A H0 H1 locs1 → W p l e R s m args below meth c H1 locs1 (cells + mc) (slots + ms) Q (F0 m (pc + 3) ls (rest))) : W p l e R s m args below meth c H locs cells slots Q (F0 m pc ls st0) := by
  refine cz_v (wr := ws) hr hP hD hS hA [] (List.range ws.length) rfl (cr_map ws) (cr_nd _) (fun _ _ h => (List.not_mem_nil h).elim) (fun u H1 locs1 hp hP1 hD1 hS1 => ?_)
  rw [List.append_nil] at hP1 hD1
  exact kk u H1 locs1 hp hP1 hD1 hS1
theorem iv_top (k : ∀ z : Int, z = x → W p l e R s m args below meth c H locs cells slots Q (F0 m pc ls (.int (Int32.ofInt z) :: rest))) : W p l e R s m args below meth c H locs cells slots Q (F0 m pc ls (.int (Int32.ofInt x) :: rest)) := k x rfl
theorem iv_is {z : Int} (h : x = z) (k : W p l e R s m args below meth c H locs cells slots Q (F0 m pc ls (.int (Int32.ofInt z) :: rest))) : W p l e R s m args below meth c H locs cells slots Q (F0 m pc ls (.int (Int32.ofInt x) :: rest)) := by rw [h]; exact k
theorem iv_heap (h : H0 = H) (k : W p l e R s m args below meth c H locs cells slots Q (F0 m pc ls rest)) : W p l e R s m args below meth c H0 locs cells slots Q (F0 m pc ls rest) := by rw [h]; exact k
theorem nz_bool {z : Int} (h : z = 0 ∨ z = 1) : narrow .boolean (.int (Int32.ofInt z)) = .int (Int32.ofInt z) := by
  rcases h with rfl | rfl <;> decide
theorem fz_bool {z : Int} (h : z = 0 ∨ z = 1) : fits .boolean (.int (Int32.ofInt z)) = true := by
  rcases h with rfl | rfl <;> decide
theorem iv_mmin (hexec : p.tables.exec = Jvm.exec) (hb : c.code = cc) (hml : c.maxLocals = ls.size) {own : String} {index : Nat} (hown : s.vm.findClass own = some m.cls) (hlink : (Cond.methodLink own index Lib.Math.min.name).before args s = true) (hstat : (Cond.static Lib.Math.min.name).before args s = true) (hini : (Cond.initialized "java/lang/Math").before args s = true) (hcode : (Cond.code Lib.Math.min.name Lib.Math.min.code 2 (some .int)).before args s = true) (hframes : 1 ≤ R.frames) (hlocals : (rest.map fun v => v.category).sum + 13 ≤ R.locals) (hc : cells ≤ R.cells) (hs : slots ≤ R.slots) (hx : inR x) (hy : inR y) (hdg : decode cc pc = .ok (.invokestatic index, 3)) (kk : ∀ z : Int, (z = x ∨ z = y) ∧ z ≤ x ∧ z ≤ y → W p l e R s m args below meth c H locs cells slots Q (F0 m (pc + 3) ls (.int (Int32.ofInt (z)) :: rest))) : W p l e R s m args below meth c H locs cells slots Q (F0 m pc ls (.int (Int32.ofInt (y)) :: .int (Int32.ofInt (x)) :: rest)) := by
  refine va_mmin hexec hb hml hown hlink hstat hini hcode hframes hlocals hc hs hdg ?_
  by_cases h : y < x
  · rw [if_pos ((iz_lt hy hx).mpr h)]
    exact kk _ ⟨by omega, by omega, by omega⟩
  · rw [if_neg (fun q => h ((iz_lt hy hx).mp q))]
    exact kk _ ⟨by omega, by omega, by omega⟩
theorem iv_mmax (hexec : p.tables.exec = Jvm.exec) (hb : c.code = cc) (hml : c.maxLocals = ls.size) {own : String} {index : Nat} (hown : s.vm.findClass own = some m.cls) (hlink : (Cond.methodLink own index Lib.Math.max.name).before args s = true) (hstat : (Cond.static Lib.Math.max.name).before args s = true) (hini : (Cond.initialized "java/lang/Math").before args s = true) (hcode : (Cond.code Lib.Math.max.name Lib.Math.max.code 2 (some .int)).before args s = true) (hframes : 1 ≤ R.frames) (hlocals : (rest.map fun v => v.category).sum + 13 ≤ R.locals) (hc : cells ≤ R.cells) (hs : slots ≤ R.slots) (hx : inR x) (hy : inR y) (hdg : decode cc pc = .ok (.invokestatic index, 3)) (kk : ∀ z : Int, (z = x ∨ z = y) ∧ x ≤ z ∧ y ≤ z → W p l e R s m args below meth c H locs cells slots Q (F0 m (pc + 3) ls (.int (Int32.ofInt (z)) :: rest))) : W p l e R s m args below meth c H locs cells slots Q (F0 m pc ls (.int (Int32.ofInt (y)) :: .int (Int32.ofInt (x)) :: rest)) := by
  refine va_mmax hexec hb hml hown hlink hstat hini hcode hframes hlocals hc hs hdg ?_
  by_cases h : x < y
  · rw [if_pos ((iz_lt hx hy).mpr h)]
    exact kk _ ⟨by omega, by omega, by omega⟩
  · rw [if_neg (fun q => h ((iz_lt hx hy).mp q))]
    exact kk _ ⟨by omega, by omega, by omega⟩
theorem iv_put (hexec : p.tables.exec = Jvm.exec) (hb : c.code = cc) {own ref C : String} {T : u_T} {N ci index : Nat} {Ts : List Cond} (hts : ∀ w ∈ Ts, w.before args s = true) (hin : ∀ w ∈ u_ws C T N, w ∈ Ts) (ty0 : Nat → FieldType) (hty : ∀ k, k < N → parseFieldDescriptor (T k).2.2.1 = some (ty0 k)) (hnm : ∀ a, a < N → ∀ b, b < N → a ≠ b → (T a).2.1 ≠ (T b).2.1) (hown : s.vm.findClass own = some m.cls) (hK : va_K G vwCl tys s) (hP : va_P G vwCl ws H) (hD : va_D A ws) (hS0 : va_S A H0 H locs) (q0 : Nat) {fs : List Value} (he : ws[q0]? = some (a, .inr (ci, fs))) (hc : vwCl[ci]? = some (C, T, N)) (k : Nat) (hk : k < N) (hlink : (Cond.fieldLink own index ref (T k).2.1 (T k).2.2.1).before args s = true) (hsame : ∀ x, s.fieldFound? (T k).1 (T k).2.1 (T k).2.2.1 = some x → s.fieldFound? ref (T k).2.1 (T k).2.2.1 = some x) (hfin : (T k).2.2.2 = false) {ty : FieldType} {v : Value} (hd : parseFieldDescriptor (T k).2.2.1 = some ty) (hn : narrow ty v = v) (hfit : fits ty v = true) (hl : k < fs.length) {ws' : va_W} (hset : ws.set q0 (a, .inr (ci, fs.set k v)) = ws')
    (hdg : decode cc pc = .ok (.putfield index, 3)) (kk : ∀ (H1 : Heap) (locs1 : List Loc), va_P G vwCl ws' H1 → va_D A ws' → va_S A H0 H1 locs1 → W p l e R s m args below meth c H1 locs1 cells slots Q (F0 m (pc + 3) ls rest)) : W p l e R s m args below meth c H locs cells slots Q (F0 m pc ls (v :: .ref a :: rest)) := by
  subst hset
  exact va_put hexec hb hts hin ty0 hty hnm hown hK hP hD hS0 q0 he hc k hk hlink hsame hfin hd hn hfit hl hdg kk
theorem iv_putN (hexec : p.tables.exec = Jvm.exec) (hb : c.code = cc) {own ref C host : String} {T : u_T} {N ci index : Nat} {Ts : List Cond} (hts : ∀ w ∈ Ts, w.before args s = true) (hin : ∀ w ∈ u_ws C T N, w ∈ Ts) (ty0 : Nat → FieldType) (hty : ∀ k, k < N → parseFieldDescriptor (T k).2.2.1 = some (ty0 k)) (hnm : ∀ a, a < N → ∀ b, b < N → a ≠ b → (T a).2.1 ≠ (T b).2.1) (hown : s.vm.findClass own = some m.cls) (hK : va_K G vwCl tys s) (hP : va_P G vwCl ws H) (hD : va_D A ws) (hS0 : va_S A H0 H locs) (q0 : Nat) {fs : List Value} (he : ws[q0]? = some (a, .inr (ci, fs))) (hc : vwCl[ci]? = some (C, T, N)) (k : Nat) (hk : k < N) (hlink : (Cond.fieldLinkNest own index ref (T k).2.1 (T k).2.2.1 host).before args s = true) (hsame : ∀ x, s.fieldFound? (T k).1 (T k).2.1 (T k).2.2.1 = some x → s.fieldFound? ref (T k).2.1 (T k).2.2.1 = some x) (hfin : (T k).2.2.2 = false) {ty : FieldType} {v : Value} (hd : parseFieldDescriptor (T k).2.2.1 = some ty) (hn : narrow ty v = v) (hfit : fits ty v = true) (hl : k < fs.length) {ws' : va_W} (hset : ws.set q0 (a, .inr (ci, fs.set k v)) = ws')
    (hdg : decode cc pc = .ok (.putfield index, 3)) (kk : ∀ (H1 : Heap) (locs1 : List Loc), va_P G vwCl ws' H1 → va_D A ws' → va_S A H0 H1 locs1 → W p l e R s m args below meth c H1 locs1 cells slots Q (F0 m (pc + 3) ls rest)) : W p l e R s m args below meth c H locs cells slots Q (F0 m pc ls (v :: .ref a :: rest)) := by
  subst hset
  exact va_putN hexec hb hts hin ty0 hty hnm hown hK hP hD hS0 q0 he hc k hk hlink hsame hfin hd hn hfit hl hdg kk
def bCmp (x y : Int64) : Int := (lg_cmp x y).toInt
theorem bCmp_r (x y : Int64) : inR (bCmp x y) := inR_v _
def bL2i (x : Int64) : Int := x.toInt32.toInt
theorem bL2i_r (x : Int64) : inR (bL2i x) := inR_v _
theorem iv_lcmp (hexec : p.tables.exec = Jvm.exec) (hb : c.code = cc) {u v : Int64} (hdg : decode cc pc = .ok (.lcmp, 1)) (k : W p l e R s m args below meth c H locs cells slots Q (F0 m (pc + 1) ls (.int (Int32.ofInt (bCmp u v)) :: rest))) : W p l e R s m args below meth c H locs cells slots Q (F0 m pc ls (.long v :: .long u :: rest)) := W.lcmp hexec hb hdg (by rw [← Int32.ofInt_toInt (lg_cmp u v)]; exact k)
theorem iv_l2i (hexec : p.tables.exec = Jvm.exec) (hb : c.code = cc) {u : Int64} (hdg : decode cc pc = .ok (.l2i, 1)) (k : W p l e R s m args below meth c H locs cells slots Q (F0 m (pc + 1) ls (.int (Int32.ofInt (bL2i u)) :: rest))) : W p l e R s m args below meth c H locs cells slots Q (F0 m pc ls (.long u :: rest)) := lv_l2i hexec hb hdg (Int32.ofInt_toInt _).symm k
theorem iv_i2l (hexec : p.tables.exec = Jvm.exec) (hb : c.code = cc) (hdg : decode cc pc = .ok (.i2l, 1)) (k : W p l e R s m args below meth c H locs cells slots Q (F0 m (pc + 1) ls (.long (Int32.ofInt x).toInt64 :: rest))) : W p l e R s m args below meth c H locs cells slots Q (F0 m pc ls (.int (Int32.ofInt (x)) :: rest)) := lv_i2l hexec hb hdg rfl k
theorem vz_bool {z : Int} (h : z = 0 ∨ z = 1) : vp_nar .boolean (Int32.ofInt z) = Int32.ofInt z := by
  unfold vp_nar
  rw [nz_bool h]
theorem iv_zast (hexec : p.tables.exec = Jvm.exec) (hb : c.code = cc) (hK : va_K G vwCl tys s) (hP : va_P G vwCl ws H) (hD : va_D A ws) (hS : va_S A H0 H locs) (q0 t0 : Nat) {cA : ClassId} {n : Nat} {g : Int → Int} {w' : (Int → Int) → va_W} (ha : ws[q0]? = some (a, .inl (cA, n, .inl (aI g)))) (ht : tys[t0]? = some (cA, .boolean)) (hset : ∀ g' : Int → Int, ws.set q0 (a, .inl (cA, n, .inl (aI g'))) = w' g') {z v : Int} (hv : v = 0 ∨ v = 1) (h0 : 0 ≤ z) (h1 : z < n) (hn : n ≤ 2147483647) (hdg : decode cc pc = .ok (.bastore, 1)) (kk : ∀ (H1 : Heap) (locs1 : List Loc), va_P G vwCl (w' (uA g z v)) H1 → va_D A (w' (uA g z v)) → va_S A H0 H1 locs1 → W p l e R s m args below meth c H1 locs1 cells slots Q (F0 m (pc + 1) ls rest)) : W p l e R s m args below meth c H locs cells slots Q (F0 m pc ls (.int (Int32.ofInt (v)) :: .int (Int32.ofInt (z)) :: .ref a :: rest)) := by
  refine va_zast hexec hb hK hP hD hS q0 t0 ha ht (iz_in h0 h1 hn) hdg (fun H1 locs1 hP1 hD1 hS1 => ?_)
  rw [vz_bool hv, aI_upd h0 (by omega), hset] at hP1 hD1
  exact kk H1 locs1 hP1 hD1 hS1
theorem iv_lald (hexec : p.tables.exec = Jvm.exec) (hb : c.code = cc) (hK : va_K G vwCl tys s) (hP : va_P G vwCl ws H) (q0 t0 : Nat) {cA : ClassId} {n : Nat} {g : Nat → Int64} (ha : ws[q0]? = some (a, .inl (cA, n, .inr (.inl g)))) (ht : tys[t0]? = some (cA, .long)) {z : Int} (h0 : 0 ≤ z) (h1 : z < n) (hn : n ≤ 2147483647) (hdg : decode cc pc = .ok (.laload, 1)) (kk : W p l e R s m args below meth c H locs cells slots Q (F0 m (pc + 1) ls (.long (g z.toNat) :: rest))) : W p l e R s m args below meth c H locs cells slots Q (F0 m pc ls (.int (Int32.ofInt (z)) :: .ref a :: rest)) := va_lald hexec hb hK hP q0 t0 ha ht (iz_in h0 h1 hn) hdg (by rw [iz_cl h0 (by omega)]; exact kk)
theorem iv_last (hexec : p.tables.exec = Jvm.exec) (hb : c.code = cc) (hK : va_K G vwCl tys s) (hP : va_P G vwCl ws H) (hD : va_D A ws) (hS : va_S A H0 H locs) (q0 t0 : Nat) {cA : ClassId} {n : Nat} {g : Nat → Int64} {w' : (Nat → Int64) → va_W} (ha : ws[q0]? = some (a, .inl (cA, n, .inr (.inl g)))) (ht : tys[t0]? = some (cA, .long)) (hset : ∀ g' : Nat → Int64, ws.set q0 (a, .inl (cA, n, .inr (.inl g'))) = w' g') {z : Int} {v : Int64} (h0 : 0 ≤ z) (h1 : z < n) (hn : n ≤ 2147483647) (hdg : decode cc pc = .ok (.lastore, 1)) (kk : ∀ (H1 : Heap) (locs1 : List Loc), va_P G vwCl (w' (vp_updL g z.toNat v)) H1 → va_D A (w' (vp_updL g z.toNat v)) → va_S A H0 H1 locs1 → W p l e R s m args below meth c H1 locs1 cells slots Q (F0 m (pc + 1) ls rest)) : W p l e R s m args below meth c H locs cells slots Q (F0 m pc ls (.long v :: .int (Int32.ofInt (z)) :: .ref a :: rest)) := by
  refine va_last hexec hb hK hP hD hS q0 t0 ha ht (iz_in h0 h1 hn) hdg (fun H1 locs1 hP1 hD1 hS1 => ?_)
  rw [iz_cl h0 (by omega), hset] at hP1 hD1
  exact kk H1 locs1 hP1 hD1 hS1
end IV
