/-! the context of a contract: classes, array classes, links between nest mates -/
def nsF : List (String × Nat × String × String × String × String) := [(RX9, 118, RX5, "size", "I", RX9), (RX2, 144, RX5, "size", "I", RX9), (RX3, 116, RX5, "size", "I", RX9), (RX2, 73, RX3, "bottom", "I", RX9), (RX9, 93, RX3, "bottom", "I", RX9), (RX2, 80, RX3, "start", "I", RX9), (RX2, 81, RX3, "cap", "I", RX9), (RX6, 116, RX3, "cap", "I", RX9), (RX9, 99, RX3, "cap", "I", RX9), (RX2, 84, RX3, "rope", "I", RX9), (RX9, 102, RX3, "rope", "I", RX9), (RX2, 87, RX3, "needs", "I", RX9), (RX9, 105, RX3, "needs", "I", RX9), (RX2, 90, RX3, "most", "I", RX9), (RX9, 108, RX3, "most", "I", RX9), (RX2, 93, RX3, "brake", "I", RX9), (RX9, 111, RX3, "brake", "I", RX9), (RX6, 82, RX3, "things", "I", RX9), (RX9, 96, RX3, "things", "I", RX9), (RX2, 116, RX3, "things", "I", RX9), (RX2, 119, RX3, "kind", "[I", RX9), (RX9, 155, RX3, "kind", "[I", RX9), (RX6, 113, RX3, "weight", "[I", RX9), (RX2, 121, RX3, "weight", "[I", RX9), (RX9, 158, RX3, "weight", "[I", RX9), (RX2, 131, RX3, "first", "[I", RX9), (RX6, 91, RX3, "aim", "[I", RX9), (RX9, 161, RX3, "aim", "[I", RX9), (RX2, 134, RX3, "aim", "[I", RX9), (RX9, 114, RX3, "rules", "LRopeTown$Rules;", RX9), (RX2, 140, RX3, "rules", "LRopeTown$Rules;", RX9), (RX2, 48, RX4, "start", "I", RX9), (RX2, 41, RX4, "kind", "I", RX9), (RX2, 60, RX4, "word", "LRopeTown$Word;", RX9), (RX2, 193, RX4, "number", "I", RX9), (RX2, 159, RX4, "sign", "I", RX9), (RX9, 86, RX2, "faultPlace", "I", RX9), (RX9, 123, RX1, "state", "I", RX9), (RX9, 132, RX1, "moves", "I", RX9), (RX9, 135, RX1, "rides", "I", RX9), (RX9, 138, RX1, "cost", "I", RX9), (RX9, 141, RX1, "days", "I", RX9), (RX9, 230, RX1, "which", "[I", RX9), (RX9, 233, RX1, "target", "[I", RX9), (RX9, 236, RX1, "manner", "[I", RX9), (RX9, 241, RX1, "before", "[I", RX9), (RX9, 278, RX1, "day", "[I", RX9), (RX9, 87, RX1, "status", "[I", RX9), (RX4, 66, RX8, "text", "Ljava/lang/String;", RX9), (RX2, 187, RX8, "value", "I", RX9)]
def nsM : List (String × Nat × MethodName × String) := [(RX9, 22, yX3_init, RX9), (RX3, 26, yX5_init, RX9), (RX3, 62, yX5_clear, RX9), (RX9, 32, yX2_init, RX9), (RX2, 11, yX4_init, RX9), (RX9, 41, yX1_init, RX9), (RX9, 55, yX6_init, RX9), (RX9, 64, yX3_firstState, RX9), (RX3, 66, yX7_move, RX9), (RX3, 70, yX7_put, RX9), (RX9, 68, yX1_begin, RX9), (RX9, 193, yX3_loadTrouble, RX9), (RX3, 78, yX7_place, RX9), (RX3, 74, yX7_depth, RX9), (RX9, 200, yX7_put, RX9), (RX9, 203, yX1_note, RX9), (RX9, 207, yX3_unloadTrouble, RX9), (RX3, 95, yX7_bucketOf, RX9), (RX9, 210, yX3_placeOutside, RX9), (RX9, 213, yX3_rideTrouble, RX9), (RX3, 125, yX5_worth, RX9), (RX9, 216, yX3_windingTo, RX9), (RX9, 219, yX7_move, RX9), (RX9, 222, yX3_hasDepth, RX9), (RX9, 126, yX7_depth, RX9), (RX9, 225, yX1_takeBack, RX9), (RX9, 275, yX3_thingsWithAims, RX9), (RX9, 292, yX1_copy, RX9), (RX9, 82, yX2_read, RX9), (RX2, 32, yX3_clear, RX9), (RX2, 37, yX4_open, RX9), (RX2, 51, yX4_stop, RX9), (RX2, 109, yX4_advance, RX9), (RX2, 184, yX5_addNumber, RX9), (RX2, 190, yX5_addValue, RX9), (RX2, 172, yX5_addOperator, RX9), (RX2, 152, yX5_endRule, RX9), (RX9, 90, yX6_forget, RX9), (RX9, 149, yX3_has, RX9), (RX9, 164, yX3_thingDepth, RX9), (RX9, 168, yX7_bucketOf, RX9), (RX9, 171, yX3_isServed, RX9), (RX9, 179, yX3_bucketDepth, RX9), (RX9, 182, yX3_weightIn, RX9), (RX9, 185, yX7_thingsIn, RX9), (RX9, 188, yX3_brokenRule, RX9), (RX9, 246, yX6_explore, RX9), (RX6, 87, yX3_thingDepth, RX9), (RX6, 94, yX7_bucketOf, RX9), (RX6, 99, yX3_bucketDepth, RX9), (RX6, 102, yX3_placeOutside, RX9), (RX6, 105, yX7_put, RX9), (RX6, 122, yX7_depth, RX9), (RX6, 125, yX3_brokenRule, RX9), (RX6, 131, yX3_hasDepth, RX9), (RX6, 135, yX3_excess, RX9), (RX6, 138, yX3_runsByWeight, RX9), (RX6, 141, yX3_windingOf, RX9), (RX6, 144, yX7_move, RX9), (RX9, 250, yX6_leastTillServed, RX9), (RX6, 152, yX3_isAllServed, RX9), (RX9, 253, yX6_depthsOf, RX9), (RX9, 266, yX7_without, RX9), (RX9, 269, yX6_firstWith, RX9), (RX9, 272, yX6_ridersTo, RX9), (RX6, 155, yX7_thingsIn, RX9), (RX9, 283, yX3_stones, RX9), (RX9, 289, yX3_firstStones, RX9)]
def sNm : List (String × Nat × String) := [(RX9, 77, "the tape has not so many bytes"), (RX9, 146, "no such count"), (RX9, 153, "no such thing"), (RX9, 175, "no such answer of a thing"), (RX9, 177, "no such bucket"), (RX9, 191, "no such answer of a bucket"), (RX9, 228, "no such move"), (RX9, 239, "no such answer of a move"), (RX9, 244, "no such fewest"), (RX9, 256, "no such thing or depth"), (RX9, 281, "no such enough"), (RX10, 9, "depth"), (RX10, 11, "start"), (RX10, 13, "cap"), (RX10, 15, "rope"), (RX10, 17, "needs"), (RX10, 19, "most"), (RX10, 21, "brake"), (RX10, 23, "load"), (RX10, 25, "person"), (RX10, 27, "stone"), (RX10, 29, "water"), (RX10, 31, "rule"), (RX10, 39, "loads"), (RX10, 41, "people"), (RX10, 43, "stones"), (RX10, 45, "waters"), (RX10, 47, "weight"), (RX10, 49, "other"), (RX10, 293, "at"), (RX10, 298, "to"), (RX10, 275, "not"), (RX10, 283, "and"), (RX10, 288, "or")]
def NST (U : State) : Prop := (∀ q ∈ nsF, va_Nw (.fieldLinkNest q.1 q.2.1 q.2.2.1 q.2.2.2.1 q.2.2.2.2.1 q.2.2.2.2.2) U) ∧ (∀ q ∈ nsM, va_Nw (.methodLinkNest q.1 q.2.1 q.2.2.1 q.2.2.2) U)
theorem NST.warm {s U : State} (hW : s.WarmedH U.vm) (h : NST s) : NST U := ⟨fun q hq => va_Nw.warmF hW (h.1 q hq), fun q hq => va_Nw.warmM hW (h.2 q hq)⟩
theorem NST.same {s U : State} (hW : s.vm = U.vm) (h : NST s) : NST U := ⟨fun q hq => va_Nw.same rfl hW (h.1 q hq), fun q hq => va_Nw.same rfl hW (h.2 q hq)⟩
theorem NST.tbl : ∀ q ∈ nsF, Cond.fieldLinkNest q.1 q.2.1 q.2.2.1 q.2.2.2.1 q.2.2.2.2.1 q.2.2.2.2.2 ∈ tables_1 := by decide +kernel
theorem NST.tbl2 : ∀ q ∈ nsM, Cond.methodLinkNest q.1 q.2.1 q.2.2.1 q.2.2.2 ∈ tables_1 := by decide +kernel
theorem NST.of {A : Array Value} {s : State} (h : ∀ w ∈ lw_tbl, w.before A s = true) : NST s := ⟨fun q hq => va_Nw.of rfl (h _ (List.mem_append_right _ (NST.tbl q hq))), fun q hq => va_Nw.of rfl (h _ (List.mem_append_right _ (NST.tbl2 q hq)))⟩
def kNm : List String := ["[I", "[B", "[J", "[Z"]
abbrev KT (k : Nat → ClassId) : List (ClassId × FieldType) := [(k 0, .int), (k 1, .byte), (k 2, .long), (k 3, .boolean)]
def KX (G : va_G) (k : Nat → ClassId) (U : State) : Prop := va_K G vwCl (KT k) U ∧ (∀ (i : Nat) (n : String), kNm[i]? = some n → U.vm.findClass n = some (k i)) ∧ NST U ∧ va_AO "java/lang/String" U ∧ (∀ (i : Nat) (q : String × Nat × String), sNm[i]? = some q → vk_R q.1 q.2.1 q.2.2 (k (100 + i)) U)
theorem KX.warm {G : va_G} {k : Nat → ClassId} {s U : State} (hW : s.WarmedH U.vm) (h : KX G k s) : KX G k U := ⟨va_K.moved hW.alike h.1, fun i n hn => by rw [hW.alike.findClass]; exact h.2.1 i n hn, h.2.2.1.warm hW, va_AO.moved hW.alike h.2.2.2.1, fun i q hq => vk_R.warm hW (h.2.2.2.2 i q hq)⟩
theorem KX.same {G : va_G} {k : Nat → ClassId} {s U : State} (hv : s.vm = U.vm) (h : KX G k s) : KX G k U := ⟨va_K.moved (by rw [← hv]; exact Vm.Alike.refl _) h.1, fun i n hn => by rw [← hv]; exact h.2.1 i n hn, h.2.2.1.same hv, va_AO.moved (by rw [← hv]; exact Vm.Alike.refl _) h.2.2.2.1, fun i q hq => vk_R.same hv.symm (h.2.2.2.2 i q hq)⟩
def NO : Nat → Prop := fun _ => False
/-- statics that methods read: the enum's last constant, what a throw needs -/
def ZX (k : Nat → ClassId) (A : Nat → Prop) (U : State) (H : Heap) : Prop := va_Z RX8 "UNKNOWN" "LRopeTown$Word;" (.ref (k 9)) A U H ∧ vx_Zq Bundle.tN "UNASSIGNED_STACK" Bundle.steD A U H ∧ vx_Zq Bundle.tN "SUPPRESSED_SENTINEL" Bundle.listD A U H
theorem ZX.moved {k : Nat → ClassId} {A : Nat → Prop} {u U : State} {H : Heap} (hvm : u.vm.Alike U.vm) (h : ZX k A u H) : ZX k A U H := ⟨va_Z.moved hvm h.1, vx_Zq.moved hvm h.2.1, vx_Zq.moved hvm h.2.2⟩
theorem ZX.kept {k : Nat → ClassId} {A : Nat → Prop} {U : State} {H H1 : Heap} (h : ZX k A U H) (hq : ∀ a : Nat, a < H.size → ¬ A a → H1[a]? = H[a]?) : ZX k A U H1 := ⟨h.1.kept hq, h.2.1.kept hq, h.2.2.kept hq⟩
theorem ZX.narrow {k : Nat → ClassId} {A B : Nat → Prop} {U : State} {H : Heap} (h : ZX k A U H) (hAB : ∀ q, B q → A q) : ZX k B U H := ⟨h.1.narrow hAB, h.2.1.narrow hAB, h.2.2.narrow hAB⟩
/-- a cell of statics is none of a world's -/
theorem cz_apart {G : va_G} {ws : va_W} {H : Heap} {a : Nat} {cell : Cell} (hP : va_P G vwCl ws H) (h : H[a]? = some cell) (hs : cell.vm.isStatics = true) : ¬ va_A ws H.size a := by
  rintro (⟨i, e, hi⟩ | h9)
  · have h1 := hP i _ hi
    cases e with
    | inl x =>
      have h2 : H[a]? = some (vp_cell x.1 x.2) := h1
      rw [h] at h2
      cases Option.some.inj h2
      obtain ⟨cA, n, f | f | f | f | f⟩ := x <;> cases hs
    | inr x =>
      obtain ⟨r, -, c9, h3, -, h5, -⟩ := h1
      rw [h] at h3
      cases Option.some.inj h3
      rw [h5] at hs
      cases hs
  · exact absurd (Array.getElem?_eq_some_iff.mp h).1 (Nat.not_lt.mpr h9)
theorem ZX.up {k : Nat → ClassId} {G : va_G} {ws : va_W} {U : State} {H : Heap} (hP : va_P G vwCl ws H) (h : ZX k NO U H) : ZX k (va_A ws H.size) U H := by
  have z : ∀ {C n d : String} {v : Value}, va_Z C n d v NO U H → va_Z C n d v (va_A ws H.size) U H := fun hz => by
    obtain ⟨a1, a2, a3, a4, a5, a6, h1, h2, h3, h4, h5, h6, h7, -⟩ := hz
    exact ⟨a1, a2, a3, a4, a5, a6, h1, h2, h3, h4, h5, h6, h7, cz_apart hP h5 h6⟩
  have y : ∀ {C n d : String}, vx_Zq C n d NO U H → vx_Zq C n d (va_A ws H.size) U H := fun hz => by
    refine ⟨hz.1.elim (fun q => Or.inl (z q)) (fun ⟨t, q⟩ => Or.inr ⟨t, z q⟩), ?_⟩
    obtain ⟨a1, a2, a3, a4, a5, a6, h1, h2, h3, h4, h5, h6, h7, h8, h9, -⟩ := hz.2
    exact ⟨a1, a2, a3, a4, a5, a6, h1, h2, h3, h4, h5, h6, h7, h8, h9, cz_apart hP h5 h6⟩
  exact ⟨z h.1, y h.2.1, y h.2.2⟩
def PreX (G : va_G) (k : Nat → ClassId) (av : List Value) (sz : Nat) (ws : va_W) : Array Value → State → Prop := va_Pc av (fun U => U.heap.size = sz ∧ va_P G vwCl ws U.heap ∧ KX G k U ∧ va_D (fun _ => True) ws ∧ ZX k NO U U.heap)
/-- the same, and the model's texts lie there, apart from the object -/
def PreXS (G : va_G) (k : Nat → ClassId) (av : List Value) (p0 : Nat) (sz : Nat) (ws : va_W) : Array Value → State → Prop := fun a U => PreX G k av sz ws a U ∧ ∀ i, i < 23 → va_Any "java/lang/String" U U.heap (k (111 + i)) ∧ k (111 + i) ≠ p0
theorem cz_any {E : String} {s : State} {A : Nat → Prop} {H : Heap} {locs : List Loc} {a : Nat} (h : va_Any E s s.heap a ∧ ¬ A a) (hS : va_S A s.heap H locs) : va_Any E s H a := by
  obtain ⟨⟨cl, h1, h2⟩, h3⟩ := h
  exact ⟨cl, by rw [hS.2.1 a (Array.getElem?_eq_some_iff.mp h1).1 h3]; exact h1, h2⟩
theorem cz_notA {E : String} {s : State} {a p0 : Nat} {e : va_E} (h : va_Any E s s.heap a) (hne : a ≠ p0) : ¬ va_A [(p0, e)] s.heap.size a := by
  obtain ⟨cl, h1, -⟩ := h
  rintro (⟨i, e9, hi⟩ | h9)
  · match i, hi with
    | 0, hi => cases hi; exact hne rfl
    | i + 1, hi => simp at hi
  · exact absurd (Array.getElem?_eq_some_iff.mp h1).1 (Nat.not_lt.mpr h9)
abbrev PostX {S : Type} (G : va_G) (A : Nat → Prop) (w1 : S → va_W) : S → State → Prop := fun u t => va_P G vwCl (w1 u) t.heap ∧ va_D A (w1 u)
/-- contracts: an int, a long, nothing is answered -/
abbrev CMi {S : Type} (l : Launch) (G : va_G) (k : Nat → ClassId) (y : MethodName) (wsy : List Cond) (rm : Room) (av : List Value) (sz : Nat) (wc : va_W) (post : Int32 → S → Prop) (w1 : S → va_W) : Prop := Met l y wsy rm (PreX G k av sz wc) (va_Qi post (PostX G (va_A wc sz) w1) (va_A wc sz)) rm.cells rm.slots (va_A wc sz)
abbrev CMvS {S : Type} (l : Launch) (G : va_G) (k : Nat → ClassId) (y : MethodName) (wsy : List Cond) (rm : Room) (av : List Value) (p0 sz : Nat) (wc : va_W) (post : S → Prop) (w1 : S → va_W) : Prop := Met l y wsy rm (PreXS G k av p0 sz wc) (va_Qv post (PostX G (va_A wc sz) w1) (va_A wc sz)) rm.cells rm.slots (va_A wc sz)
abbrev CMl {S : Type} (l : Launch) (G : va_G) (k : Nat → ClassId) (y : MethodName) (wsy : List Cond) (rm : Room) (av : List Value) (sz : Nat) (wc : va_W) (post : Int64 → S → Prop) (w1 : S → va_W) : Prop := Met l y wsy rm (PreX G k av sz wc) (va_Ql post (PostX G (va_A wc sz) w1) (va_A wc sz)) rm.cells rm.slots (va_A wc sz)
abbrev CMv {S : Type} (l : Launch) (G : va_G) (k : Nat → ClassId) (y : MethodName) (wsy : List Cond) (rm : Room) (av : List Value) (sz : Nat) (wc : va_W) (post : S → Prop) (w1 : S → va_W) : Prop := Met l y wsy rm (PreX G k av sz wc) (va_Qv post (PostX G (va_A wc sz) w1) (va_A wc sz)) rm.cells rm.slots (va_A wc sz)
theorem pre_blind {G : va_G} {k : Nat → ClassId} {av : List Value} {sz : Nat} {ws : va_W} : FrameBlind (PreX G k av sz ws) := fun a U g mk q => ⟨q.1, q.2.1, q.2.2.1, KX.same (s := U) (U := U.calling g mk a) rfl q.2.2.2.1, q.2.2.2.2.1, ZX.moved (u := U) (U := U.calling g mk a) (Vm.Alike.refl U.vm) q.2.2.2.2.2⟩
theorem cz_fm {α β : Type} {f : α → Option β} : ∀ {is : List α} {wc : List β}, is.map f = wc.map some → is.filterMap f = wc
  | [], [], _ => rfl
  | i :: is, w :: wc, h => by
    simp only [List.map_cons, List.cons.injEq] at h
    rw [List.filterMap_cons, h.1, cz_fm h.2]
theorem ha_int (n : Nat) : ∀ cA : ClassId, vp_cell cA (n, .inl (fun _ => 0)) = arrV cA n (fun _ => defaultValue .int) := fun _ => rfl
theorem ha_byte (n : Nat) : ∀ cA : ClassId, vp_cell cA (n, .inl (fun _ => 0)) = arrV cA n (fun _ => defaultValue .byte) := fun _ => rfl
theorem ha_boolean (n : Nat) : ∀ cA : ClassId, vp_cell cA (n, .inl (fun _ => 0)) = arrV cA n (fun _ => defaultValue .boolean) := fun _ => rfl
theorem ha_long (n : Nat) : ∀ cA : ClassId, vp_cell cA (n, .inr (.inl (fun _ => 0))) = arrV cA n (fun _ => defaultValue .long) := fun _ => rfl
theorem zl_lt {d a b : Int32} (h : d < a) (q : a ≤ b) : d < b := Int32.lt_of_lt_of_le h q
theorem zl_le {d a b : Int32} (h : d < a) (q : a ≤ b) : d ≤ b := Int32.le_of_lt (zl_lt h q)
theorem zl_nge {d a b : Int32} (h : d < a) (q : a ≤ b) : ¬ b ≤ d := fun z => Int32.lt_irrefl (Int32.lt_of_lt_of_le (zl_lt h q) z)
theorem zl_ngt {d a b : Int32} (h : d < a) (q : a ≤ b) : ¬ b < d := fun z => zl_nge h q (Int32.le_of_lt z)
theorem zl_ne {d a b : Int32} (h : d < a) (q : a ≤ b) : ¬ d = b := fun z => zl_nge h q (by rw [z]; exact Int32.le_refl _)
theorem zl_nf {d a b : Int32} (h : d < a) (q : a ≤ b) : ¬ b = d := fun z => zl_ne h q z.symm
theorem zg_gt {d a b : Int32} (h : a < d) (q : b ≤ a) : b < d := Int32.lt_of_le_of_lt q h
theorem zg_ge {d a b : Int32} (h : a < d) (q : b ≤ a) : b ≤ d := Int32.le_of_lt (zg_gt h q)
theorem zg_nlt {d a b : Int32} (h : a < d) (q : b ≤ a) : ¬ d < b := fun z => Int32.lt_irrefl (Int32.lt_of_le_of_lt (zg_ge h q) z)
theorem zg_nle {d a b : Int32} (h : a < d) (q : b ≤ a) : ¬ d ≤ b := fun z => Int32.lt_irrefl (Int32.lt_of_lt_of_le (zg_gt h q) z)
theorem zg_ne {d a b : Int32} (h : a < d) (q : b ≤ a) : ¬ d = b := fun z => zg_nle h q (by rw [z]; exact Int32.le_refl _)
theorem zg_nf {d a b : Int32} (h : a < d) (q : b ≤ a) : ¬ b = d := fun z => zg_ne h q z.symm
theorem z_and (d : Int32) : d &&& (-1) = d := by
  apply Int32.toBitVec_inj.mp
  show d.toBitVec &&& (-1 : Int32).toBitVec = d.toBitVec
  rw [show (-1 : Int32).toBitVec = BitVec.allOnes 32 by decide]
  exact BitVec.and_allOnes
section Ctx
variable {p : Program} {l : Launch} {e : Env} {R : Room} {s : State} {m : MethodId} {args : Array Value} {below : List Frame} {meth : Method} {c : Code} {H H0 : Heap} {locs : List Loc} {cells slots : Nat} {Q : State → Prop} {pc : Nat} {ls : Array Slot} {rest st0 : List Value} {G : va_G} {k : Nat → ClassId} {A : Nat → Prop} {ws wc wr : va_W} {mc ms : Nat} {S : Type} {w1 : S → va_W} {a : Array Value} {cc : ByteArray}
theorem cz_preS {av : List Value} (hZ : ZX k A s s.heap) (hS : va_S A s.heap H locs) (hX : KX G k s) (hP : va_P G vwCl ws H) (hD : va_D A ws) (isC : List Nat) (hn : va_nd isC = true) (hC : isC.map (fun i => ws[i]?) = wc.map some) : PreS s H (PreX G k av H.size wc) av :=
  ⟨pre_blind, fun U hU hW => ⟨rfl, by rw [hU], by rw [hU]; exact hP.sub isC (cz_fm hC), hX.warm hW, (hD.sub isC hn hC).weaken (fun _ _ _ _ => trivial), by rw [hU]; exact ZX.moved hW.alike ((hZ.kept hS.2.1).narrow (fun _ h => h.elim))⟩⟩
theorem cz_preV {av : List Value} {b q0 ci : Nat} {q : vw_C} {fs : List Value} (hZ : ZX k A s s.heap) (hS : va_S A s.heap H locs) (hX : KX G k s) (hP : va_P G vwCl ws H) (hD : va_D A ws) (isC : List Nat) (hn : va_nd isC = true) (hC : isC.map (fun i => ws[i]?) = wc.map some) (hc : vwCl[ci]? = some q) (he : ws[q0]? = some (b, .inr (ci, fs))) : PreV s H q.1 b (PreX G k (.ref b :: av) H.size wc) av :=
  ⟨pre_blind, va_recv hX.1 hP hc he, fun U hU hW => ⟨rfl, by rw [hU], by rw [hU]; exact hP.sub isC (cz_fm hC), hX.warm hW, (hD.sub isC hn hC).weaken (fun _ _ _ _ => trivial), by rw [hU]; exact ZX.moved hW.alike ((hZ.kept hS.2.1).narrow (fun _ h => h.elim))⟩⟩
theorem cz_i {post : Int32 → S → Prop} (hr : va_Run p l e R s m args below meth c H locs cells slots mc ms (F0 m pc ls st0) rest (va_Qi post (PostX G (va_A wc H.size) w1) (va_A wc H.size) a) (va_A wc H.size)) (hP : va_P G vwCl ws H) (hD : va_D A ws) (hS : va_S A H0 H locs) (hA : ∀ q, H0.size ≤ q → A q) (isC isR : List Nat) (hC : isC.map (fun i => ws[i]?) = wc.map some) (hR : isR.map (fun i => ws[i]?) = wr.map some) (hn : va_nd isR = true) (hdis : ∀ i ∈ isR, i ∉ isC)
    (kk : ∀ (r : Int32) (u : S) (H1 : Heap) (locs1 : List Loc), post r u → va_P G vwCl (wr ++ w1 u) H1 → va_D A (wr ++ w1 u) → va_S A H0 H1 locs1 → W p l e R s m args below meth c H1 locs1 (cells + mc) (slots + ms) Q (F0 m (pc + 3) ls (.int r :: rest))) : W p l e R s m args below meth c H locs cells slots Q (F0 m pc ls st0) := by
  have hF := va_free (wc := wc) hD hS hA isC hC
  refine va_calli hr hS (fun q _ h => hF q h) hF (fun r u t H1 locs1 ht hvm hw hB hz1 hk1 hS1 => ?_)
  obtain ⟨hP1, hD1⟩ := hB
  rw [ht] at hP1
  obtain ⟨hP2, hD2⟩ := va_join hP hD isC isR hC hR hn hdis hk1 hF hP1 hD1
  exact kk r u H1 locs1 hw hP2 hD2 hS1
theorem cz_l {post : Int64 → S → Prop} (hr : va_Run p l e R s m args below meth c H locs cells slots mc ms (F0 m pc ls st0) rest (va_Ql post (PostX G (va_A wc H.size) w1) (va_A wc H.size) a) (va_A wc H.size)) (hP : va_P G vwCl ws H) (hD : va_D A ws) (hS : va_S A H0 H locs) (hA : ∀ q, H0.size ≤ q → A q) (isC isR : List Nat) (hC : isC.map (fun i => ws[i]?) = wc.map some) (hR : isR.map (fun i => ws[i]?) = wr.map some) (hn : va_nd isR = true) (hdis : ∀ i ∈ isR, i ∉ isC)
    (kk : ∀ (r : Int64) (u : S) (H1 : Heap) (locs1 : List Loc), post r u → va_P G vwCl (wr ++ w1 u) H1 → va_D A (wr ++ w1 u) → va_S A H0 H1 locs1 → W p l e R s m args below meth c H1 locs1 (cells + mc) (slots + ms) Q (F0 m (pc + 3) ls (.long r :: rest))) : W p l e R s m args below meth c H locs cells slots Q (F0 m pc ls st0) := by
  have hF := va_free (wc := wc) hD hS hA isC hC
  refine va_calll hr hS (fun q _ h => hF q h) hF (fun r u t H1 locs1 ht hvm hw hB hz1 hk1 hS1 => ?_)
  obtain ⟨hP1, hD1⟩ := hB
  rw [ht] at hP1
  obtain ⟨hP2, hD2⟩ := va_join hP hD isC isR hC hR hn hdis hk1 hF hP1 hD1
  exact kk r u H1 locs1 hw hP2 hD2 hS1
theorem cz_v {post : S → Prop} (hr : va_Run p l e R s m args below meth c H locs cells slots mc ms (F0 m pc ls st0) rest (va_Qv post (PostX G (va_A wc H.size) w1) (va_A wc H.size) a) (va_A wc H.size)) (hP : va_P G vwCl ws H) (hD : va_D A ws) (hS : va_S A H0 H locs) (hA : ∀ q, H0.size ≤ q → A q) (isC isR : List Nat) (hC : isC.map (fun i => ws[i]?) = wc.map some) (hR : isR.map (fun i => ws[i]?) = wr.map some) (hn : va_nd isR = true) (hdis : ∀ i ∈ isR, i ∉ isC)
    (kk : ∀ (u : S) (H1 : Heap) (locs1 : List Loc), post u → va_P G vwCl (wr ++ w1 u) H1 → va_D A (wr ++ w1 u) → va_S A H0 H1 locs1 → W p l e R s m args below meth c H1 locs1 (cells + mc) (slots + ms) Q (F0 m (pc + 3) ls rest)) : W p l e R s m args below meth c H locs cells slots Q (F0 m pc ls st0) := by
  have hF := va_free (wc := wc) hD hS hA isC hC
  refine va_callv hr hS (fun q _ h => hF q h) hF (fun u t H1 locs1 ht hvm hw hB hz1 hk1 hS1 => ?_)
  obtain ⟨hP1, hD1⟩ := hB
  rw [ht] at hP1
  obtain ⟨hP2, hD2⟩ := va_join hP hD isC isR hC hR hn hdis hk1 hF hP1 hD1
  exact kk u H1 locs1 hw hP2 hD2 hS1
/-- the top of the stack under another name -/
theorem cz_ti {v w : Int32} (h : v = w) (kk : W p l e R s m args below meth c H locs cells slots Q (F0 m pc ls (.int w :: rest))) : W p l e R s m args below meth c H locs cells slots Q (F0 m pc ls (.int v :: rest)) := by rw [h]; exact kk
theorem cz_tl {v w : Int64} (h : v = w) (kk : W p l e R s m args below meth c H locs cells slots Q (F0 m pc ls (.long w :: rest))) : W p l e R s m args below meth c H locs cells slots Q (F0 m pc ls (.long v :: rest)) := by rw [h]; exact kk
/-- a new array of a class that the context names -/
theorem cz_newa (hexec : p.tables.exec = Jvm.exec) (hb : c.code = cc) {atype : ArrayType} (harr : (Cond.arrayClass (newarray.typeOf atype)).before args s = true) {ty : FieldType} (hty : newarray.typeOf atype = ty) (hX : KX G k s) (hP : va_P G vwCl ws H) (hD : va_D A ws) (hS : va_S A H0 H locs) (hA : ∀ q, H0.size ≤ q → A q) (j : Nat) (hj : kNm[j]? = some ("[" ++ ty.toString))
    {n : Int32} {N' : Nat} {a0 : vp_A} (ha : ∀ cA : ClassId, vp_cell cA a0 = arrV cA N' (fun _ => defaultValue ty)) (hn : ¬ n < 0) (hN : n.toNatClampNeg = N') (hbytes : N' * componentBytes ty ≤ 536870912) (hcells : cells + 1 ≤ R.cells) (hslots : slots + N' ≤ R.slots) (hdg : decode cc pc = .ok (.newarray atype, 2))
    (kk : ∀ (q : Nat) (H1 : Heap), va_P G vwCl (ws ++ [(q, .inl (k j, a0))]) H1 → va_D A (ws ++ [(q, .inl (k j, a0))]) → va_S A H0 H1 locs →
      W p l e R s m args below meth c H1 locs (cells + 1) (slots + N') Q (F0 m (pc + 2) ls (.ref q :: rest))) : W p l e R s m args below meth c H locs cells slots Q (F0 m pc ls (.int n :: rest)) := by
  subst hty
  refine va_newaK hexec hb harr rfl hdg rfl hn hN hbytes hcells hslots rfl fun H1 cA e1 z1 o1 hAr hNm => ?_
  have hcA : cA = k j := by
    have h1 := hX.2.1 j _ hj
    rw [h1] at hNm
    exact (Option.some.inj hNm).symm
  subst hcA
  have hk : ∀ (i : Nat) (x : Nat × va_E), ws[i]? = some x → H1[x.1]? = H[x.1]? := fun i x hx => o1 x.1 ((hP i x hx).lt)
  refine kk H.size H1 ((hP.kept hk).app (fun i x hx => ?_)) (hD.push hP rfl (hA _ hS.1)) ⟨Nat.le_trans hS.1 (by omega), fun x h1 h2 => (o1 x (Nat.lt_of_lt_of_le h1 hS.1)).trans (hS.2.1 x h1 h2), hS.2.2⟩
  match i, hx with
  | 0, hx =>
    cases hx
    show H1[H.size]? = some (vp_cell _ a0)
    rw [ha]; exact e1
  | i + 1, hx => simp at hx
end Ctx
theorem cz_dvX1 : ∀ j, j < 12 → defaultValue (tyX1 j) = vp_V [.int 0, .int 0, .int 0, .int 0, .int 0, .null, .null, .null, .null, .null, .null, .null] j := by decide +kernel
theorem cz_dvX2 : ∀ j, j < 5 → defaultValue (tyX2 j) = vp_V [.null, .null, .int 0, .int 0, .int 0] j := by decide +kernel
theorem cz_dvX3 : ∀ j, j < 14 → defaultValue (tyX3 j) = vp_V [.int 0, .int 0, .int 0, .int 0, .int 0, .int 0, .int 0, .int 0, .null, .null, .null, .null, .null, .null] j := by decide +kernel
theorem cz_dvX4 : ∀ j, j < 8 → defaultValue (tyX4 j) = vp_V [.null, .int 0, .int 0, .int 0, .int 0, .null, .int 0, .int 0] j := by decide +kernel
theorem cz_dvX5 : ∀ j, j < 5 → defaultValue (tyX5 j) = vp_V [.null, .null, .null, .int 0, .int 0] j := by decide +kernel
theorem cz_dvX6 : ∀ j, j < 15 → defaultValue (tyX6 j) = vp_V [.null, .int 0, .int 0, .null, .null, .null, .int 0, .null, .null, .null, .null, .int 0, .int 0, .null, .null] j := by decide +kernel
theorem cz_dvX9 : ∀ j, j < 11 → defaultValue (tyX9 j) = vp_V [.null, .int 0, .int 0, .null, .null, .null, .null, .null, .int 0, .null, .null] j := by decide +kernel
theorem cz_dvX10 : ∀ j, j < 71 → defaultValue (tyX10 j) = vp_V (.null :: .null :: .int 0 :: .null :: .null :: .null :: .null :: .null :: .null :: .null :: .null :: .null :: .int 0 :: .int 0 :: .int 0 :: .int 0 :: .null :: .int 0 :: .int 0 :: .int 0 :: .int 0 :: .int 0 :: .int 0 :: .int 0 :: .int 0 :: .int 0 :: .int 0 :: .int 0 :: .int 0 :: .int 0 :: .int 0 :: .int 0 :: .null :: .null :: .null :: .null :: .null :: .null :: .null :: .null :: .null :: .int 0 :: .int 0 :: .int 0 :: .null :: .null :: .null :: .null :: .null :: .null :: .int 0 :: .int 0 :: .int 0 :: .null :: .null :: .int 0 :: .int 0 :: .null :: .int 0 :: .int 0 :: .int 0 :: .int 0 :: .int 0 :: .null :: .null :: .null :: .null :: .null :: .null :: .null :: .null :: []) j := by decide +kernel
