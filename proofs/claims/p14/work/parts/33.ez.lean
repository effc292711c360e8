/-! rows whose numbers keep bounds; worlds in another order -/
def bnd (g : Int → Int) (n lo hi : Int) : Prop := ∀ t, 0 ≤ t → t < n → lo ≤ g t ∧ g t < hi
theorem bnd_at {g : Int → Int} {n lo hi t : Int} (h : bnd g n lo hi) (h0 : 0 ≤ t) (h1 : t < n) : lo ≤ g t ∧ g t < hi := h t h0 h1
theorem bnd_up {g g' : Int → Int} {n lo hi z v : Int} (h : bnd g n lo hi) (h0 : lo ≤ v) (h1 : v < hi) (e : g' = uA g z v) : bnd g' n lo hi := by
  intro t a b
  have q1 := uA_at g z v t
  subst e
  by_cases q : t = z
  · rw [q1.1 q]; exact ⟨h0, h1⟩
  · rw [q1.2 q]; exact h t a b
theorem re_ord {G : va_G} {ws wc : va_W} {H : Heap} {A : Nat → Prop} (hP : va_P G vwCl ws H) (hD : va_D A ws) (is : List Nat) (hn : va_nd is = true) (hC : is.map (fun i => ws[i]?) = wc.map some) : va_P G vwCl wc H ∧ va_D A wc := ⟨hP.sub is (cz_fm hC), hD.sub is hn hC⟩
/-! what lies in the heap beside the worlds: texts, words, static rows -/
def lenS : List Nat := [5, 5, 3, 4, 5, 4, 5, 4, 6, 5, 5, 4, 5, 6, 6, 6, 6, 5, 2, 2, 3, 3, 2, 5, 5, 3, 4, 5, 4, 5, 4, 6, 5, 5, 2, 2, 4, 2, 3, 3, 5, 6, 6, 6, 6, 5, 0]
def bytS : List (List Int32) := [[100, 101, 112, 116, 104], [115, 116, 97, 114, 116], [99, 97, 112], [114, 111, 112, 101], [110, 101, 101, 100, 115], [109, 111, 115, 116], [98, 114, 97, 107, 101], [108, 111, 97, 100], [112, 101, 114, 115, 111, 110], [115, 116, 111, 110, 101], [119, 97, 116, 101, 114], [114, 117, 108, 101], [108, 111, 97, 100, 115], [112, 101, 111, 112, 108, 101], [115, 116, 111, 110, 101, 115], [119, 97, 116, 101, 114, 115], [119, 101, 105, 103, 104, 116], [111, 116, 104, 101, 114], [97, 116], [116, 111], [110, 111, 116], [97, 110, 100], [111, 114], [100, 101, 112, 116, 104], [115, 116, 97, 114, 116], [99, 97, 112], [114, 111, 112, 101], [110, 101, 101, 100, 115], [109, 111, 115, 116], [98, 114, 97, 107, 101], [108, 111, 97, 100], [112, 101, 114, 115, 111, 110], [115, 116, 111, 110, 101], [119, 97, 116, 101, 114], [97, 116], [116, 111], [114, 117, 108, 101], [111, 114], [97, 110, 100], [110, 111, 116], [108, 111, 97, 100, 115], [112, 101, 111, 112, 108, 101], [115, 116, 111, 110, 101, 115], [119, 97, 116, 101, 114, 115], [119, 101, 105, 103, 104, 116], [111, 116, 104, 101, 114], []]
def swZ (i : Nat) : Int := ([1, 2, 3, 4, 5, 6, 7, 8, 9, 10, 11, 0, 0, 12, 0, 0, 0, 0, 0, 0, 0, 0, 0, 0] : List Int).getD i 0
def valZ (i : Nat) : Int := ([5, (-1), (-1), (-1), (-1), (-1), (-1), (-1), (-1), (-1), (-1), (-1), (-1), (-1), (-1), (-1), (-1), 0, 1, 2, 3, 4, 6, (-1)] : List Int).getD i (-1)
def powT (i : Nat) : Value := .int (([1, 3, 9, 27, 81, 243, 729] : List Int32).getD i 0)
def wdN : List String := ["DEPTH", "START", "CAP", "ROPE", "NEEDS", "MOST", "BRAKE", "LOAD", "PERSON", "STONE", "WATER", "AT", "TO", "RULE", "OR", "AND", "NOT", "LOADS", "PEOPLE", "STONES", "WATERS", "WEIGHT", "OTHER", "UNKNOWN"]
theorem lenS_ok (i : Nat) (h : i < 47) : lenS.getD i 0 ≤ 6 := by
  have key : ∀ q : Fin 47, lenS.getD q.val 0 ≤ 6 := by decide
  exact key ⟨i, h⟩
theorem lenS_r (i : Nat) (h : i < 47) : (0 : Int) ≤ (lenS.getD i 0 : Nat) ∧ ((lenS.getD i 0 : Nat) : Int) ≤ 6 := by
  have := lenS_ok i h
  omega
theorem swZ_r (i : Nat) : inR (swZ i) := by
  by_cases h : i < 24
  · have key : ∀ q : Fin 24, -2147483648 ≤ swZ q.val ∧ swZ q.val < 2147483648 := by decide
    exact key ⟨i, h⟩
  · unfold swZ
    rw [List.getD_eq_getElem?_getD, List.getElem?_eq_none (by show 24 ≤ i; omega)]
    exact ⟨by decide, by decide⟩
theorem valZ_r (i : Nat) : -1 ≤ valZ i ∧ valZ i ≤ 6 := by
  by_cases h : i < 24
  · have key : ∀ q : Fin 24, -1 ≤ valZ q.val ∧ valZ q.val ≤ 6 := by decide
    exact key ⟨i, h⟩
  · unfold valZ
    rw [List.getD_eq_getElem?_getD, List.getElem?_eq_none (by show 24 ≤ i; omega)]
    exact ⟨by decide, by decide⟩
abbrev sS : String := "java/lang/String"
abbrev sW : String := "RopeTown$Word"
def SS (k : Nat → ClassId) (A : Nat → Prop) (U : State) (H : Heap) : Prop := ∀ i : Nat, i < 47 → va_O sS (k (111 + i)) A U H ∧ va_OF sS "coder" "B" (.int 0) (k (111 + i)) A U H ∧ va_OF sS "value" "[B" (.ref (k (600 + i))) (k (111 + i)) A U H ∧ va_T .byte (k (600 + i)) (lenS.getD i 0) (fun j => .int ((bytS.getD i []).getD j 0)) A U H
def SW0 (k : Nat → ClassId) (A : Nat → Prop) (U : State) (H : Heap) : Prop := va_Ef 24 sW "text" "Ljava/lang/String;" (fun i => .ref (k (111 + (23 + i)))) (fun i => k (400 + i)) A U H ∧ va_Ef 24 sW "value" "I" (fun i => .int (Int32.ofInt (valZ i))) (fun i => k (400 + i)) A U H ∧ va_Ef 24 "java/lang/Enum" "ordinal" "I" (fun i => .int (Int32.ofInt (i : Int))) (fun i => k (400 + i)) A U H ∧ (∀ i : Nat, i < 24 → va_O sW (k (400 + i)) A U H) ∧ ∀ i : Nat, i < 24 → va_Z sW (wdN.getD i "") "LRopeTown$Word;" (.ref (k (400 + i))) A U H
def SZ0 (k : Nat → ClassId) (A : Nat → Prop) (U : State) (H : Heap) : Prop := (va_Z "RopeTown$Search" "POWERS" "[I" (.ref (k 300)) A U H ∧ va_T .int (k 300) 7 powT A U H) ∧ (va_Z "RopeTown$Reader" "WORDS" "[LRopeTown$Word;" (.ref (k 301)) A U H ∧ va_T (.object sW) (k 301) 24 (fun i => .ref (k (400 + i))) A U H) ∧ (va_Z "RopeTown$1" "$SwitchMap$RopeTown$Word" "[I" (.ref (k 302)) A U H ∧ va_T .int (k 302) 24 (fun i => .int (Int32.ofInt (swZ i))) A U H) ∧ va_Z sS "COMPACT_STRINGS" "Z" (.int (Int32.ofInt 1)) A U H ∧ va_Zq "jdk/internal/util/Preconditions" "SIOOBE_FORMATTER" "Ljava/util/function/BiFunction;" A U H
def ST0 (A : Nat → Prop) (U : State) (H : Heap) : Prop := vx_Zq Bundle.tN "UNASSIGNED_STACK" Bundle.steD A U H ∧ vx_Zq Bundle.tN "SUPPRESSED_SENTINEL" Bundle.listD A U H
def EZ (k : Nat → ClassId) (A : Nat → Prop) (U : State) (H : Heap) : Prop := ST0 A U H ∧ SZ0 k A U H ∧ SW0 k A U H ∧ SS k A U H ∧ ArrOfT U (k 4) (.object sS) ∧ ArrOfT U (k 5) (.object sS)
theorem EZ_ok (k : Nat → ClassId) : EOK (EZ k) := by
  refine ⟨fun A u U H hv h => ?_, fun A U H H1 h hq => ?_, fun A B U H hAB h => ?_⟩
  · exact ⟨⟨(vx_Zq.moved hv h.1.1), (vx_Zq.moved hv h.1.2)⟩, ⟨⟨(va_Z.moved hv h.2.1.1.1), (va_T.moved hv h.2.1.1.2)⟩, ⟨(va_Z.moved hv h.2.1.2.1.1), (va_T.moved hv h.2.1.2.1.2)⟩, ⟨(va_Z.moved hv h.2.1.2.2.1.1), (va_T.moved hv h.2.1.2.2.1.2)⟩, (va_Z.moved hv h.2.1.2.2.2.1), (va_Zq.moved hv h.2.1.2.2.2.2)⟩, ⟨(va_Ef.moved hv h.2.2.1.1), (va_Ef.moved hv h.2.2.1.2.1), (va_Ef.moved hv h.2.2.1.2.2.1), fun i hi => (va_O.moved hv (h.2.2.1.2.2.2.1 i hi)), fun i hi => (va_Z.moved hv (h.2.2.1.2.2.2.2 i hi))⟩, fun i hi => ⟨(va_O.moved hv (h.2.2.2.1 i hi).1), (va_OF.moved hv (h.2.2.2.1 i hi).2.1), (va_OF.moved hv (h.2.2.2.1 i hi).2.2.1), (va_T.moved hv (h.2.2.2.1 i hi).2.2.2)⟩, arrOfT_moved hv h.2.2.2.2.1, arrOfT_moved hv h.2.2.2.2.2⟩
  · exact ⟨⟨(h.1.1.kept hq), (h.1.2.kept hq)⟩, ⟨⟨(h.2.1.1.1.kept hq), (h.2.1.1.2.kept hq)⟩, ⟨(h.2.1.2.1.1.kept hq), (h.2.1.2.1.2.kept hq)⟩, ⟨(h.2.1.2.2.1.1.kept hq), (h.2.1.2.2.1.2.kept hq)⟩, (h.2.1.2.2.2.1.kept hq), (h.2.1.2.2.2.2.kept hq)⟩, ⟨(h.2.2.1.1.kept hq), (h.2.2.1.2.1.kept hq), (h.2.2.1.2.2.1.kept hq), fun i hi => ((h.2.2.1.2.2.2.1 i hi).kept hq), fun i hi => ((h.2.2.1.2.2.2.2 i hi).kept hq)⟩, fun i hi => ⟨((h.2.2.2.1 i hi).1.kept hq), ((h.2.2.2.1 i hi).2.1.kept hq), ((h.2.2.2.1 i hi).2.2.1.kept hq), ((h.2.2.2.1 i hi).2.2.2.kept hq)⟩, h.2.2.2.2.1, h.2.2.2.2.2⟩
  · exact ⟨⟨(h.1.1.narrow hAB), (h.1.2.narrow hAB)⟩, ⟨⟨(h.2.1.1.1.narrow hAB), (h.2.1.1.2.narrow hAB)⟩, ⟨(h.2.1.2.1.1.narrow hAB), (h.2.1.2.1.2.narrow hAB)⟩, ⟨(h.2.1.2.2.1.1.narrow hAB), (h.2.1.2.2.1.2.narrow hAB)⟩, (h.2.1.2.2.2.1.narrow hAB), (h.2.1.2.2.2.2.narrow hAB)⟩, ⟨(h.2.2.1.1.narrow hAB), (h.2.2.1.2.1.narrow hAB), (h.2.2.1.2.2.1.narrow hAB), fun i hi => ((h.2.2.1.2.2.2.1 i hi).narrow hAB), fun i hi => ((h.2.2.1.2.2.2.2 i hi).narrow hAB)⟩, fun i hi => ⟨((h.2.2.2.1 i hi).1.narrow hAB), ((h.2.2.2.1 i hi).2.1.narrow hAB), ((h.2.2.2.1 i hi).2.2.1.narrow hAB), ((h.2.2.2.1 i hi).2.2.2.narrow hAB)⟩, h.2.2.2.2.1, h.2.2.2.2.2⟩
section EZ
variable {k : Nat → ClassId} {A : Nat → Prop} {U : State} {H : Heap}
theorem ez_pow (h : EZ k A U H) : va_Z "RopeTown$Search" "POWERS" "[I" (.ref (k 300)) A U H := h.2.1.1.1
theorem ez_powT (h : EZ k A U H) : va_T .int (k 300) 7 powT A U H := h.2.1.1.2
theorem ez_words (h : EZ k A U H) : va_Z "RopeTown$Reader" "WORDS" "[LRopeTown$Word;" (.ref (k 301)) A U H := h.2.1.2.1.1
theorem ez_wordsT (h : EZ k A U H) : va_T (.object sW) (k 301) 24 (fun i => .ref (k (400 + i))) A U H := h.2.1.2.1.2
theorem ez_sw (h : EZ k A U H) : va_Z "RopeTown$1" "$SwitchMap$RopeTown$Word" "[I" (.ref (k 302)) A U H := h.2.1.2.2.1.1
theorem ez_swT (h : EZ k A U H) : va_T .int (k 302) 24 (fun i => .int (Int32.ofInt (swZ i))) A U H := h.2.1.2.2.1.2
theorem ez_cs (h : EZ k A U H) : va_Z sS "COMPACT_STRINGS" "Z" (.int (Int32.ofInt 1)) A U H := h.2.1.2.2.2.1
theorem ez_pf (h : EZ k A U H) : va_Zq "jdk/internal/util/Preconditions" "SIOOBE_FORMATTER" "Ljava/util/function/BiFunction;" A U H := h.2.1.2.2.2.2
theorem ez_text (h : EZ k A U H) : va_Ef 24 sW "text" "Ljava/lang/String;" (fun i => .ref (k (111 + (23 + i)))) (fun i => k (400 + i)) A U H := h.2.2.1.1
theorem ez_value (h : EZ k A U H) : va_Ef 24 sW "value" "I" (fun i => .int (Int32.ofInt (valZ i))) (fun i => k (400 + i)) A U H := h.2.2.1.2.1
theorem ez_ord (h : EZ k A U H) : va_Ef 24 "java/lang/Enum" "ordinal" "I" (fun i => .int (Int32.ofInt (i : Int))) (fun i => k (400 + i)) A U H := h.2.2.1.2.2.1
theorem ez_wO (h : EZ k A U H) {i : Nat} (hi : i < 24) : va_O sW (k (400 + i)) A U H := h.2.2.1.2.2.2.1 i hi
theorem ez_word (h : EZ k A U H) (i : Nat) {n : String} (e : wdN[i]? = some n) : va_Z sW n "LRopeTown$Word;" (.ref (k (400 + (i : Int).toNat))) A U H := by
  have hi : i < 24 := (List.getElem?_eq_some_iff.mp e).1
  have q := h.2.2.1.2.2.2.2 i hi
  have e2 : wdN.getD i "" = n := by rw [List.getD_eq_getElem?_getD, e]; rfl
  rw [e2] at q
  exact q
theorem ez_str (h : EZ k A U H) {i : Nat} (hi : i < 47) : va_O sS (k (111 + i)) A U H ∧ va_OF sS "coder" "B" (.int 0) (k (111 + i)) A U H ∧ va_OF sS "value" "[B" (.ref (k (600 + i))) (k (111 + i)) A U H ∧ va_T .byte (k (600 + i)) (lenS.getD i 0) (fun j => .int ((bytS.getD i []).getD j 0)) A U H := h.2.2.2.1 i hi
end EZ
theorem ofn_ (n : Nat) : Int32.ofNat n = Int32.ofInt (n : Int) := (Int32.ofInt_eq_ofNat).symm
def chZ (i j : Nat) : Int := ((bytS.getD i []).getD j 0).toInt
theorem chZ_r (i j : Nat) : inR (chZ i j) := inR_v _
theorem chZ_e (i j : Nat) : Value.int ((bytS.getD i []).getD j 0) = Value.int (Int32.ofInt (chZ i j)) := by unfold chZ; rw [Int32.ofInt_toInt]
theorem nz_char {z : Int} (h : 0 ≤ z ∧ z < 65536) : narrow .char (.int (Int32.ofInt z)) = .int (Int32.ofInt z) := by
  show Value.int ((Int32.ofInt z).toUInt32 % 65536).toInt32 = _
  congr 1
  apply Int32.toInt_inj.mp
  rw [iz_toInt ⟨by omega, by omega⟩]
  have e : (Int32.ofInt z).toUInt32.toNat = z.toNat := by
    have := iz_toInt (z := z) ⟨by omega, by omega⟩
    have q := Int32.toNat_toUInt32_of_le (x := Int32.ofInt z) (by rw [Int32.le_iff_toInt_le, this]; show (0 : Int) ≤ z; omega)
    rw [q]
    show (Int32.ofInt z).toInt.toNat = _
    rw [this]
  have e2 : ((Int32.ofInt z).toUInt32 % 65536).toNat = z.toNat := by
    rw [UInt32.toNat_mod, e]
    show z.toNat % 65536 = z.toNat
    omega
  rw [u32i _ (by omega), e2]
  omega
theorem nz_byte {z : Int} (h : z = 0) : narrow .byte (.int (Int32.ofInt z)) = .int (Int32.ofInt z) := by subst h; rfl
theorem bShr0 {x : Int} (h : inR x) : bShr x 0 = x := by
  unfold bShr
  rw [show (Int32.ofInt 0 &&& 31) = (0 : Int32) by decide, Int32.shiftRight_zero, iz_toInt h]
theorem zq_any {C n d : String} {A : Nat → Prop} {U : State} {H : Heap} (h : va_Zq C n d A U H) : ∃ v : Value, va_Z C n d v A U H := h.elim (fun q => ⟨_, q⟩) (fun ⟨t, q⟩ => ⟨_, q⟩)
def bChar (x : Int) : Int := ((Int32.ofInt x).toUInt32 % 65536).toInt32.toInt
theorem bChar_r (x : Int) : inR (bChar x) := inR_v _
theorem char_r (x : Int) : 0 ≤ bChar (bAnd x 255) ∧ bChar (bAnd x 255) < 65536 := by
  unfold bChar
  have h : ((Int32.ofInt (bAnd x 255)).toUInt32 % 65536).toNat < 65536 := by rw [UInt32.toNat_mod]; exact Nat.mod_lt _ (by decide)
  rw [u32i _ (by omega)]
  omega
section EV
variable {p : Program} {l : Launch} {e : Env} {R : Room} {s : State} {m : MethodId} {args : Array Value} {below : List Frame} {meth : Method} {c : Code} {H H0 : Heap} {locs : List Loc} {cells slots : Nat} {Q : State → Prop} {pc : Nat} {ls : Array Slot} {rest st0 : List Value} {cc : ByteArray} {x y : Int} {G : va_G} {k : Nat → ClassId} {A : Nat → Prop} {ws wc : va_W} {tys : List (ClassId × FieldType)} {a : Nat} {mc ms : Nat} {S : Type} {w1 : S → va_W} {av0 : Array Value} {E : (Nat → Prop) → State → Heap → Prop}
theorem iv_i2c (hexec : p.tables.exec = Jvm.exec) (hb : c.code = cc) (hdg : decode cc pc = .ok (.i2c, 1)) (k : W p l e R s m args below meth c H locs cells slots Q (F0 m (pc + 1) ls (.int (Int32.ofInt (bChar x)) :: rest))) : W p l e R s m args below meth c H locs cells slots Q (F0 m pc ls (.int (Int32.ofInt (x)) :: rest)) := lv_i2c hexec hb hdg (v := Int32.ofInt (bChar x)) (Int32.ofInt_toInt _).symm k
theorem vz_byte {z : Int} (h0 : -128 ≤ z) (h1 : z < 128) : vp_nar .byte (Int32.ofInt z) = Int32.ofInt z := by
  have key : ∀ q : Fin 256, vp_nar .byte (Int32.ofInt ((q.val : Int) - 128)) = Int32.ofInt ((q.val : Int) - 128) := by decide +kernel
  have := key ⟨(z + 128).toNat, by omega⟩
  have e : (((z + 128).toNat : Nat) : Int) - 128 = z := by omega
  simp only at this
  rw [e] at this
  exact this
theorem bByte_b (x : Int) : -128 ≤ bByte x ∧ bByte x < 128 := by
  unfold bByte
  have h1 := Int8.le_toInt (Int32.ofInt x).toInt8
  have h2 := Int8.toInt_lt (Int32.ofInt x).toInt8
  rw [Int8.toInt_toInt32]
  omega
theorem iv_bast (hexec : p.tables.exec = Jvm.exec) (hb : c.code = cc) (hK : va_K G vwCl tys s) (hP : va_P G vwCl ws H) (hD : va_D A ws) (hS : va_S A H0 H locs) (q0 t0 : Nat) {cA : ClassId} {n : Nat} {g : Int → Int} {w' : (Int → Int) → va_W} (ha : ws[q0]? = some (a, .inl (cA, n, .inl (aI g)))) (ht : tys[t0]? = some (cA, .byte)) (hset : ∀ g' : Int → Int, ws.set q0 (a, .inl (cA, n, .inl (aI g'))) = w' g') {z v : Int} (hv : -128 ≤ v ∧ v < 128) (h0 : 0 ≤ z) (h1 : z < n) (hn : n ≤ 2147483647) (hdg : decode cc pc = .ok (.bastore, 1)) (kk : ∀ (H1 : Heap) (locs1 : List Loc), va_P G vwCl (w' (uA g z v)) H1 → va_D A (w' (uA g z v)) → va_S A H0 H1 locs1 → W p l e R s m args below meth c H1 locs1 cells slots Q (F0 m (pc + 1) ls rest)) : W p l e R s m args below meth c H locs cells slots Q (F0 m pc ls (.int (Int32.ofInt (v)) :: .int (Int32.ofInt (z)) :: .ref a :: rest)) := by
  refine va_bast hexec hb hK hP hD hS q0 t0 ha ht (iz_in h0 h1 hn) hdg (fun H1 locs1 hP1 hD1 hS1 => ?_)
  rw [vz_byte hv.1 hv.2, aI_upd h0 (by omega), hset] at hP1 hD1
  exact kk H1 locs1 hP1 hD1 hS1
/-- calls on what lies beside the worlds -/
theorem cs_preV {av : List Value} {b : Nat} {C : String} (hZ : EZ k A s s.heap) (hS : va_S A s.heap H locs) (hX : KX G k s) (hP : va_P G vwCl ws H) (hD : va_D A ws) (hA : ∀ q, s.heap.size ≤ q → A q) (hO : va_O C b A s s.heap) : PreV s H C b (PreY G k (EZ k) (.ref b :: av) H.size []) av := by
  obtain ⟨cell, h1, h2, h3, -⟩ := hO.kept hS.2.1
  exact ⟨pre_blindY (EZ_ok k), ⟨cell, h1, h2, h3⟩, (cr_pre0 (av := .ref b :: av) (EZ_ok k) hZ hS hX hP hD hA).2⟩
/-- the model's two rows of texts -/
theorem iv_aldS (hexec : p.tables.exec = Jvm.exec) (hb : c.code = cc) {cA : ClassId} (hA4 : ArrOfT s cA (.object sS)) (hP : va_P G vwCl ws H) (q0 : Nat) {n : Nat} {f : Nat → Option Nat} (ha : ws[q0]? = some (a, .inl (cA, n, .inr (.inr (.inr (.inr f)))))) {z : Int} (h0 : 0 ≤ z) (h1 : z < n) (hn : n ≤ 2147483647) {y0 : Nat} (hf : f z.toNat = some y0) (hdg : decode cc pc = .ok (.aaload, 1)) (kk : W p l e R s m args below meth c H locs cells slots Q (F0 m (pc + 1) ls (.ref y0 :: rest))) : W p l e R s m args below meth c H locs cells slots Q (F0 m pc ls (.int (Int32.ofInt (z)) :: .ref a :: rest)) := by
  have hin := iz_in (n := n) h0 h1 hn
  have hlt : (Int32.ofInt z).toNatClampNeg < n := Nat.not_le.mp fun q => hin (Or.inr q)
  refine W.aald (v := .ref y0) (ty := .object sS) hexec hb (hP q0 _ ha) (hA4 n (fun j => va_rf (f j))) rfl (fun q => by cases q) (by show ¬ (_ < 0 ∨ (arrV _ _ _).slots.size ≤ _); rw [arrV_size]; exact hin) (by show (arrV _ _ _).slots[_]? = _; rw [arrV_read _ _ hlt, iz_cl h0 (by omega), hf]; rfl) rfl rfl hdg kk
theorem iv_alenS (hexec : p.tables.exec = Jvm.exec) (hb : c.code = cc) {cA : ClassId} (hA4 : ArrOfT s cA (.object sS)) (hP : va_P G vwCl ws H) (q0 : Nat) {n : Nat} {f : Nat → Option Nat} (ha : ws[q0]? = some (a, .inl (cA, n, .inr (.inr (.inr (.inr f)))))) {v : Int32} (hv : Int32.ofNat n = v) (hdg : decode cc pc = .ok (.arraylength, 1)) (kk : W p l e R s m args below meth c H locs cells slots Q (F0 m (pc + 1) ls (.int v :: rest))) : W p l e R s m args below meth c H locs cells slots Q (F0 m pc ls (.ref a :: rest)) := by
  subst hv
  exact W.alen (n := Int32.ofNat n) hexec hb (hP q0 _ ha) (hA4 n (fun j => va_rf (f j))) (by show (arrV _ _ _).slots.size.toInt32 = _; rw [arrV_size]) rfl rfl hdg kk
theorem qM_at {k : Nat → ClassId} {z : Int} (h0 : 0 ≤ z) (h1 : z < 12) : qM k 111 12 z.toNat = some (k (111 + z.toNat)) := if_pos (by omega)
theorem qV_at {k : Nat → ClassId} {z : Int} (h0 : 0 ≤ z) (h1 : z < 7) : ∃ i : Nat, i < 23 ∧ qV k z.toNat = some (k (111 + i)) := by
  unfold qV
  by_cases q : z.toNat < 5
  · exact ⟨12 + z.toNat, by omega, by rw [if_pos q, show 123 + z.toNat = 111 + (12 + z.toNat) by omega]⟩
  · by_cases r : z.toNat = 5
    · exact ⟨0, by omega, by rw [if_neg q, if_pos r]⟩
    · exact ⟨17, by omega, by rw [if_neg q, if_neg r, if_pos (by omega)]⟩
theorem iv_ald0 (hexec : p.tables.exec = Jvm.exec) (hb : c.code = cc) (hZ : EZ k A s s.heap) (hP : va_P G vwCl ws H) (q0 : Nat) (ha : ws[q0]? = some (a, .inl (k 4, 12, .inr (.inr (.inr (.inr (qM k 111 12))))))) {z : Int} (h0 : 0 ≤ z) (h1 : z < 12) (hdg : decode cc pc = .ok (.aaload, 1)) (kk : ∀ i : Nat, i < 23 → W p l e R s m args below meth c H locs cells slots Q (F0 m (pc + 1) ls (.ref (k (111 + i)) :: rest))) : W p l e R s m args below meth c H locs cells slots Q (F0 m pc ls (.int (Int32.ofInt (z)) :: .ref a :: rest)) := iv_aldS hexec hb hZ.2.2.2.2.1 hP q0 ha h0 (by omega) (by decide) (qM_at h0 h1) hdg (kk _ (by omega))
theorem iv_ald1 (hexec : p.tables.exec = Jvm.exec) (hb : c.code = cc) (hZ : EZ k A s s.heap) (hP : va_P G vwCl ws H) (q0 : Nat) (ha : ws[q0]? = some (a, .inl (k 5, 7, .inr (.inr (.inr (.inr (qV k))))))) {z : Int} (h0 : 0 ≤ z) (h1 : z < 7) (hdg : decode cc pc = .ok (.aaload, 1)) (kk : ∀ i : Nat, i < 23 → W p l e R s m args below meth c H locs cells slots Q (F0 m (pc + 1) ls (.ref (k (111 + i)) :: rest))) : W p l e R s m args below meth c H locs cells slots Q (F0 m pc ls (.int (Int32.ofInt (z)) :: .ref a :: rest)) := by
  obtain ⟨i, hi, e9⟩ := qV_at (k := k) h0 h1
  exact iv_aldS hexec hb hZ.2.2.2.2.2 hP q0 ha h0 (by omega) (by decide) e9 hdg (kk i hi)
/-- a word's field across the nest -/
theorem va_getXN (hexec : p.tables.exec = Jvm.exec) (hb : c.code = cc) {o n d own ref host : String} {N : Nat} {v : Nat → Value} {ad : Nat → Nat} {index i : Nat} (hE : va_Ef N o n d v ad A s s.heap) (hi : i < N) (hS : va_S A s.heap H locs) (hown : s.vm.findClass own = some m.cls) (hlink : (Cond.fieldLinkNest own index ref n d host).before args s = true) (hsame : ∀ x, s.fieldFound? o n d = some x → s.fieldFound? ref n d = some x) (hdg : decode cc pc = .ok (.getfield index, 3)) (kk : W p l e R s m args below meth c H locs cells slots Q (F0 m (pc + 3) ls (v i :: rest))) : W p l e R s m args below meth c H locs cells slots Q (F0 m pc ls (.ref (ad i) :: rest)) := by
  obtain ⟨cf, k0, fi, f, cell, h1, h2, h3, h4, h5, h6⟩ := (hE i hi).kept hS.2.1
  exact va_Wgetf hexec hb hown hlink (hsame _ h1) h2 h3 h4 (v := v i) h5 rfl rfl hdg kk
/-- a text by the wide instruction -/
theorem va_ldcWst {T : State} (X : Stand p l e R s m args below meth c T locs cells slots) (hexec : p.tables.exec = Jvm.exec) {own text : String} {index : Nat} {q : Addr} (hown : s.vm.findClass own = some m.cls) (hconst : (Cond.stringRef own index text).before args s = true) (hev : (Term.string own index).eval args s none [] s = some (.ref q)) {g : JFrame} (hg : g.method = m) (hdg : decode c.code g.pc = .ok (.ldc_w index, 3)) : ∀ target, Steps p.tables e below (T.setTop { g with pc := g.pc + 3, stack := .ref q :: g.stack }) target → Steps p.tables e below (T.setTop g) target := by
  obtain ⟨k0, cf, i, a', hk, hcf, hcp, -, hr, hev'⟩ := Cond.stringRef_spec hown hconst
  cases hev.symm.trans hev'
  obtain ⟨k', hk', he⟩ := X.warmed.alike.2.2 _ _ hk
  have hr' : k'.resolved[index]? = some (some (.string q)) := by
    rcases X.warmed.entry hk hk' index with h | ⟨h, -⟩
    · rw [h]; exact hr
    · rw [hr] at h; cases h
  intro target hrest
  subst hg
  jvm_step X.here [hexec, hdg, ldc_w.wp_string (e := e) (s := T) (f := g) X.here.top hk' (by rw [he]; exact hcf) hcp hr']
  exact hrest
theorem va_ldcSw (hexec : p.tables.exec = Jvm.exec) (hb : c.code = cc) {own tx : String} {index q : Nat} (hown : s.vm.findClass own = some m.cls) (hZ : vk_R own index tx q s) (hdg : decode cc pc = .ok (.ldc_w index, 3)) (kk : W p l e R s m args below meth c H locs cells slots Q (F0 m (pc + 3) ls (.ref q :: rest))) : W p l e R s m args below meth c H locs cells slots Q (F0 m pc ls rest) := by
  intro T hT X
  obtain ⟨t, a1, b1⟩ := kk T hT X
  exact ⟨t, va_ldcWst X hexec hown (text := tx) (q := q) hZ.1 hZ.2 (g := F0 m pc ls rest) rfl (by rw [hb]; exact hdg) t a1, b1⟩
end EV
