theorem cz_cellI {cA : ClassId} {n : Nat} {f g : Nat → Int32} (h : ∀ j, j < n → f j = g j) : vp_cell cA (n, .inl f) = vp_cell cA (n, .inl g) := by
  rw [vp_cell_i, vp_cell_i]
  have e : (fun j : Fin n => Value.int (f j.val)) = (fun j : Fin n => Value.int (g j.val)) := funext fun j => by rw [h j.val j.isLt]
  unfold arrV
  rw [e]
/-- an array's contents by another function that is the same below its length -/
theorem cz_arrP {G : va_G} {ws : va_W} {H : Heap} {a n : Nat} {cA : ClassId} {f g : Nat → Int32} (hP : va_P G vwCl ws H) (q0 : Nat) (ha : ws[q0]? = some (a, .inl (cA, n, .inl f))) (h : ∀ j, j < n → f j = g j) : va_P G vwCl (ws.set q0 (a, .inl (cA, n, .inl g))) H := by
  intro i q hi
  by_cases e : i = q0
  · subst e
    have hlt : i < ws.length := (List.getElem?_eq_some_iff.mp ha).1
    rw [List.getElem?_set_self hlt] at hi
    cases Option.some.inj hi
    have h1 : H[a]? = some (vp_cell cA (n, .inl f)) := hP i _ ha
    show H[a]? = some (vp_cell cA (n, .inl g))
    rw [h1, cz_cellI h]
  · rw [List.getElem?_set_ne (fun z => e z.symm)] at hi
    exact hP i q hi
set_option maxHeartbeats 4000000 in
set_option maxRecDepth 100000 in
/-- Arrays.fill(int[], int) -/
theorem cJ7_fill (l : Launch) (G : va_G) (k : Nat → ClassId) (p0 : Nat) (n : Nat) (x : Int32) (f : Nat → Int32) (sz : Nat) (hn : n ≤ 100000) : CMv l G k yJ7_fill_53178 wsJ7_fill_53178 ({ frames := 0, cells := 0, slots := 0, locals := 0 }) [.ref p0, .int x] sz [(p0, .inl (k 0, n, .inl f))] (fun (u : Unit) => True) (fun (u : Unit) => [(p0, .inl (k 0, n, .inl (fun _ => x)))]) := by
  refine Met.ofW (cc := cJ7_fill_53178) (maxL := 4) (ret := none) (by decide) rfl ?_
  intro p e s m args below meth c s₁ B hml hv
  obtain ⟨rfl, hsz, hP, hX, hD0, hZ0⟩ := hv
  have hx := B.exec
  have hb := B.bytes
  have hr := B.returns
  have hts := atoms_spec (ws := wsJ7_fill_53178) B.pre
  subst hsz
  have hD := hD0.self (sz := s.heap.size)
  generalize hAe : va_A [(p0, .inl (k 0, n, .inl f))] s.heap.size = A at hD ⊢
  have hA : ∀ q : Nat, s.heap.size ≤ q → A q := fun q h => by rw [← hAe]; exact Or.inr h
  have hS : va_S A s.heap s.heap [] := va_S.rf
  have hl := lv_entry ([.ref p0, .int x]) (n := 4) (Nat.le_of_ble_eq_true rfl)
  rw [lg_entry_eq]
  generalize (lg_sl ([.ref p0, .int x]) ++ List.replicate (4 - (lg_sl ([.ref p0, .int x])).length) Slot.unset).toArray = ls at hl ⊢
  have hl : lv_has ls 4 [(0, .ref p0), (1, .int x)] := hl
  have loop : ∀ (d i : Nat), i + d = n → ∀ (g : Nat → Int32) (H : Heap) (locs : List Loc) (ls : Array Slot), (∀ j, j < i → g j = x) → va_P G vwCl [(p0, .inl (k 0, n, .inl g))] H → va_D A [(p0, .inl (k 0, n, .inl g))] → va_S A s.heap H locs → lv_has ls 4 [(2, .int (nI i)), (3, .int (nI n)), (0, .ref p0), (1, .int x)] →
      W p l e (headSpec wsJ7_fill_53178 { frames := 0, cells := 0, slots := 0, locals := 0 }).room s m [Value.ref p0, Value.int x].toArray below meth c H locs 0 0 (MQ below (va_Qv (fun (u : Unit) => True) (PostX G A (fun (u : Unit) => [(p0, .inl (k 0, n, .inl (fun _ => x)))])) A) [Value.ref p0, Value.int x].toArray s 0 0 A) (F0 m 5 ls []) := by
    intro d
    induction d with
    | zero =>
      intro i hi g H locs ls hg hP hD hS hl
      have hi : i = n := by omega
      subst hi
      refine lv_iload_n hx hb dJ7_fill_53178_5 rfl (lv_at hl 0 rfl) ?_
      refine lv_iload_n hx hb dJ7_fill_53178_6 rfl (lv_at hl 1 rfl) ?_
      refine lv_icmp_ge (tgt := 20) hx hb dJ7_fill_53178_7 (by decide) (fun _ => ?_) (fun q => absurd (nI_le (Nat.le_refl _) (by omega)) q)
      have hP9 : va_P G vwCl [(p0, .inl (k 0, i, .inl (fun _ => x)))] H := cz_arrP hP 0 rfl (fun j hj => hg j hj)
      have hD9 : va_D A [(p0, .inl (k 0, i, .inl (fun _ => x)))] := hD.set (p := 0) rfl
      exact W.vret hx hb hr (fun t ht hW => ⟨⟨(), rfl, trivial, by rw [ht]; exact hP9, hD9⟩, hS.F ht⟩) hS.2.2 dJ7_fill_53178_20
    | succ d ih =>
      intro i hi g H locs ls hg hP hD hS hl
      refine lv_iload_n hx hb dJ7_fill_53178_5 rfl (lv_at hl 0 rfl) ?_
      refine lv_iload_n hx hb dJ7_fill_53178_6 rfl (lv_at hl 1 rfl) ?_
      refine lv_icmp_ge (tgt := 20) hx hb dJ7_fill_53178_7 (by decide) (fun q => absurd q (nI_ge (by omega) (by omega))) (fun _ => ?_)
      refine lv_aload_n hx hb dJ7_fill_53178_10 rfl (lv_at hl 2 rfl) ?_
      refine lv_iload_n hx hb dJ7_fill_53178_11 rfl (lv_at hl 0 rfl) ?_
      refine lv_iload_n hx hb dJ7_fill_53178_12 rfl (lv_at hl 3 rfl) ?_
      refine va_iast hx hb hX.1 hP hD hS 0 0 rfl rfl (vp_in_nI (by omega) (by omega)) dJ7_fill_53178_13 (fun H locs hP hD hS => ?_)
      have hP : va_P G vwCl [(p0, .inl (k 0, n, .inl (upd g (nI i).toNatClampNeg x)))] H := hP
      have hD : va_D A [(p0, .inl (k 0, n, .inl (upd g (nI i).toNatClampNeg x)))] := hD
      refine lv_iinc (v := nI (i + 1)) (lv' := [(2, .int (nI (i + 1))), (3, .int (nI n)), (0, .ref p0), (1, .int x)]) hx hb dJ7_fill_53178_14 hl (k := 0) rfl (nI_1 i) (by decide) rfl (fun ls hl => ?_)
      refine lv_goto (tgt := 5) hx hb dJ7_fill_53178_17 (by decide) ?_
      refine ih (i + 1) (by omega) _ H locs ls (fun j hj => ?_) hP hD hS hl
      rw [nI_clamp (by omega)]
      unfold upd
      by_cases hji : j = i
      · rw [if_pos hji]
      · rw [if_neg hji]; exact hg j (by omega)
  refine lv_iconst (v := 0) hx hb dJ7_fill_53178_0 (by decide +kernel) ?_
  refine lv_istore_n (lv' := [(2, .int 0), (0, .ref p0), (1, .int x)]) hx hb dJ7_fill_53178_1 rfl hl (by decide) rfl (fun ls hl => ?_)
  refine lv_aload_n hx hb dJ7_fill_53178_2 rfl (lv_at hl 1 rfl) ?_
  refine va_alen (v := nI n) hx hb hX.1 hP 0 0 rfl rfl rfl dJ7_fill_53178_3 ?_
  refine lv_istore_n (lv' := [(3, .int (nI n)), (2, .int 0), (0, .ref p0), (1, .int x)]) hx hb dJ7_fill_53178_4 rfl hl (by decide) rfl (fun ls hl => ?_)
  exact loop n 0 (by omega) f s.heap [] ls (fun j hj => absurd hj (Nat.not_lt_zero j)) hP hD hS (lv_sub (l' := [(2, .int (nI 0)), (3, .int (nI n)), (0, .ref p0), (1, .int x)]) hl [1, 0, 2, 3] rfl)
set_option maxHeartbeats 4000000 in
set_option maxRecDepth 100000 in
/-- the model's be(to, of): two rows of one length -/
theorem kX10_be (l : Launch) (G : va_G) (k : Nat → ClassId) (p0 p1 n : Nat) (f g : Nat → Int32) (sz : Nat) (hn : n ≤ 100000) : CMv l G k yX10_be wsX10_be ({ frames := 0, cells := 0, slots := 0, locals := 0 }) [.ref p0, .ref p1] sz [(p0, .inl (k 0, n, .inl f)), (p1, .inl (k 0, n, .inl g))] (fun (u : Unit) => True) (fun (u : Unit) => [(p0, .inl (k 0, n, .inl g)), (p1, .inl (k 0, n, .inl g))]) := by
  refine Met.ofW (cc := cX10_be) (maxL := 3) (ret := none) (by decide) rfl ?_
  intro p e s m args below meth c s₁ B hml hv
  obtain ⟨rfl, hsz, hP, hX, hD0, hZ0⟩ := hv
  have hx := B.exec
  have hb := B.bytes
  have hr := B.returns
  subst hsz
  have hD := hD0.self (sz := s.heap.size)
  generalize hAe : va_A [(p0, .inl (k 0, n, .inl f)), (p1, .inl (k 0, n, .inl g))] s.heap.size = A at hD ⊢
  have hA : ∀ q : Nat, s.heap.size ≤ q → A q := fun q h => by rw [← hAe]; exact Or.inr h
  have hS : va_S A s.heap s.heap [] := va_S.rf
  have hl := lv_entry ([.ref p0, .ref p1]) (n := 3) (Nat.le_of_ble_eq_true rfl)
  rw [lg_entry_eq]
  generalize (lg_sl ([.ref p0, .ref p1]) ++ List.replicate (3 - (lg_sl ([.ref p0, .ref p1])).length) Slot.unset).toArray = ls at hl ⊢
  have hl : lv_has ls 3 [(0, .ref p0), (1, .ref p1)] := hl
  have loop : ∀ (d i : Nat), i + d = n → ∀ (h : Nat → Int32) (H : Heap) (locs : List Loc) (ls : Array Slot), (∀ j, j < i → h j = g j) → va_P G vwCl [(p0, .inl (k 0, n, .inl h)), (p1, .inl (k 0, n, .inl g))] H → va_D A [(p0, .inl (k 0, n, .inl h)), (p1, .inl (k 0, n, .inl g))] → va_S A s.heap H locs → lv_has ls 3 [(2, .int (nI i)), (0, .ref p0), (1, .ref p1)] →
      W p l e (headSpec wsX10_be { frames := 0, cells := 0, slots := 0, locals := 0 }).room s m [Value.ref p0, Value.ref p1].toArray below meth c H locs 0 0 (MQ below (va_Qv (fun (u : Unit) => True) (PostX G A (fun (u : Unit) => [(p0, .inl (k 0, n, .inl g)), (p1, .inl (k 0, n, .inl g))])) A) [Value.ref p0, Value.ref p1].toArray s 0 0 A) (F0 m 2 ls []) := by
    intro d
    induction d with
    | zero =>
      intro i hi h H locs ls hg hP hD hS hl
      have hi : i = n := by omega
      subst hi
      refine lv_iload_n hx hb dX10_be_2 rfl (lv_at hl 0 rfl) ?_
      refine lv_aload_n hx hb dX10_be_3 rfl (lv_at hl 1 rfl) ?_
      refine va_alen (v := nI i) hx hb hX.1 hP 0 0 rfl rfl rfl dX10_be_4 ?_
      refine lv_icmp_ge (tgt := 20) hx hb dX10_be_5 (by decide) (fun _ => ?_) (fun q => absurd (nI_le (Nat.le_refl _) (by omega)) q)
      have hP9 : va_P G vwCl [(p0, .inl (k 0, i, .inl g)), (p1, .inl (k 0, i, .inl g))] H := cz_arrP hP 0 rfl (fun j hj => hg j hj)
      have hD9 : va_D A [(p0, .inl (k 0, i, .inl g)), (p1, .inl (k 0, i, .inl g))] := hD.set (p := 0) rfl
      exact W.vret hx hb hr (fun t ht hW => ⟨⟨(), rfl, trivial, by rw [ht]; exact hP9, hD9⟩, hS.F ht⟩) hS.2.2 dX10_be_20
    | succ d ih =>
      intro i hi h H locs ls hg hP hD hS hl
      refine lv_iload_n hx hb dX10_be_2 rfl (lv_at hl 0 rfl) ?_
      refine lv_aload_n hx hb dX10_be_3 rfl (lv_at hl 1 rfl) ?_
      refine va_alen (v := nI n) hx hb hX.1 hP 0 0 rfl rfl rfl dX10_be_4 ?_
      refine lv_icmp_ge (tgt := 20) hx hb dX10_be_5 (by decide) (fun q => absurd q (nI_ge (by omega) (by omega))) (fun _ => ?_)
      refine lv_aload_n hx hb dX10_be_8 rfl (lv_at hl 1 rfl) ?_
      refine lv_iload_n hx hb dX10_be_9 rfl (lv_at hl 0 rfl) ?_
      refine lv_aload_n hx hb dX10_be_10 rfl (lv_at hl 2 rfl) ?_
      refine lv_iload_n hx hb dX10_be_11 rfl (lv_at hl 0 rfl) ?_
      refine va_iald hx hb hX.1 hP 1 0 rfl rfl (vp_in_nI (by omega) (by omega)) dX10_be_12 ?_
      refine va_iast hx hb hX.1 hP hD hS 0 0 rfl rfl (vp_in_nI (by omega) (by omega)) dX10_be_13 (fun H locs hP hD hS => ?_)
      have hP : va_P G vwCl [(p0, .inl (k 0, n, .inl (upd h (nI i).toNatClampNeg (g (nI i).toNatClampNeg)))), (p1, .inl (k 0, n, .inl g))] H := hP
      have hD : va_D A [(p0, .inl (k 0, n, .inl (upd h (nI i).toNatClampNeg (g (nI i).toNatClampNeg)))), (p1, .inl (k 0, n, .inl g))] := hD
      refine lv_iinc (v := nI (i + 1)) (lv' := [(2, .int (nI (i + 1))), (0, .ref p0), (1, .ref p1)]) hx hb dX10_be_14 hl (k := 0) rfl (nI_1 i) (by decide) rfl (fun ls hl => ?_)
      refine lv_goto (tgt := 2) hx hb dX10_be_17 (by decide) ?_
      refine ih (i + 1) (by omega) _ H locs ls (fun j hj => ?_) hP hD hS hl
      rw [nI_clamp (by omega)]
      unfold upd
      by_cases hji : j = i
      · rw [if_pos hji, hji]
      · rw [if_neg hji]; exact hg j (by omega)
  refine lv_iconst (v := 0) hx hb dX10_be_0 (by decide +kernel) ?_
  refine lv_istore_n (lv' := [(2, .int 0), (0, .ref p0), (1, .ref p1)]) hx hb dX10_be_1 rfl hl (by decide) rfl (fun ls hl => ?_)
  exact loop n 0 (by omega) f s.heap [] ls (fun j hj => absurd hj (Nat.not_lt_zero j)) hP hD hS (lv_sub (l' := [(2, .int (nI 0)), (0, .ref p0), (1, .ref p1)]) hl [0, 1, 2] rfl)
set_option maxHeartbeats 4000000 in
set_option maxRecDepth 100000 in
/-- the loop of seek that clears the heads -/
theorem seek_loop {p : Program} {l : Launch} {e : Env} {R : Room} {s : State} {m : MethodId} {args : Array Value} {below : List Frame} {meth : Method} {c : Code} {cells slots : Nat} {Q : State → Prop} {G : va_G} {k : Nat → ClassId} {A : Nat → Prop} {H0 : Heap} {ws : va_W} {p0 hd q0 qo pl : Nat} {fs : List Value} {f : Nat → Int32} {a w : Int32} {Ts : List Cond}
    (hx : p.tables.exec = Jvm.exec) (hb : c.code = cX10_seek) (hts : ∀ w ∈ Ts, w.before args s = true) (hin : ∀ w ∈ wsX100, w ∈ Ts) (hlk : (Cond.fieldLink RX10 127 "RopeTownModel" "heads" "[I").before args s = true) (hown : s.vm.findClass RX10 = some m.cls) (hX : KX G k s)
    (hne : qo ≠ q0) (ho : ws[qo]? = some (p0, .inr (7, fs))) (hfs : fs[48]? = some (.ref hd)) (hq : ws[q0]? = some (hd, .inl (k 0, 8192, .inl f)))
    (kk : ∀ (H : Heap) (locs : List Loc) (ls : Array Slot), va_P G vwCl (ws.set q0 (hd, .inl (k 0, 8192, .inl (fun _ => -1)))) H → va_D A (ws.set q0 (hd, .inl (k 0, 8192, .inl (fun _ => -1)))) → va_S A H0 H locs → lv_has ls 6 [(0, .ref p0), (1, .ref pl), (2, .int a), (3, .int w)] → W p l e R s m args below meth c H locs cells slots Q (F0 m 25 ls [])) :
    ∀ (d i : Nat), i + d = 8192 → ∀ (g : Nat → Int32) (H : Heap) (locs : List Loc) (ls : Array Slot), (∀ j, j < i → g j = -1) → va_P G vwCl (ws.set q0 (hd, .inl (k 0, 8192, .inl g))) H → va_D A (ws.set q0 (hd, .inl (k 0, 8192, .inl g))) → va_S A H0 H locs → lv_has ls 6 [(4, .int (nI i)), (0, .ref p0), (1, .ref pl), (2, .int a), (3, .int w)] →
      W p l e R s m args below meth c H locs cells slots Q (F0 m 3 ls []) := by
  have hlt : q0 < ws.length := (List.getElem?_eq_some_iff.mp hq).1
  have hself : ∀ g : Nat → Int32, (ws.set q0 (hd, .inl (k 0, 8192, .inl g)))[q0]? = some (hd, .inl (k 0, 8192, .inl g)) := fun g => List.getElem?_set_self hlt
  have hoth : ∀ g : Nat → Int32, (ws.set q0 (hd, .inl (k 0, 8192, .inl g)))[qo]? = some (p0, .inr (7, fs)) := fun g => by rw [List.getElem?_set_ne (fun z => hne z.symm)]; exact ho
  intro d
  induction d with
  | zero =>
    intro i hi g H locs ls hg hP hD hS hl
    have hi : i = 8192 := by omega
    subst hi
    refine lv_iload hx hb dX10_seek_3 (lv_at hl 0 rfl) ?_
    refine lv_sipush (v := 8192) hx hb dX10_seek_5 (by decide +kernel) ?_
    refine lv_icmp_ge (tgt := 25) hx hb dX10_seek_8 (by decide) (fun _ => ?_) (fun q => absurd (by decide +kernel) q)
    have hP9 := cz_arrP hP q0 (hself g) (g := fun _ => -1) (fun j hj => hg j hj)
    have hD9 := va_D.set (e := .inl (k 0, 8192, .inl (fun _ => -1))) hD (hself g)
    rw [List.set_set] at hP9 hD9
    exact kk H locs ls hP9 hD9 hS (lv_sub hl [1, 2, 3, 4] rfl)
  | succ d ih =>
    intro i hi g H locs ls hg hP hD hS hl
    refine lv_iload hx hb dX10_seek_3 (lv_at hl 0 rfl) ?_
    refine lv_sipush (v := nI 8192) hx hb dX10_seek_5 (by decide +kernel) ?_
    refine lv_icmp_ge (tgt := 25) hx hb dX10_seek_8 (by decide) (fun q => absurd q (nI_ge (by omega) (by omega))) (fun _ => ?_)
    refine lv_aload_n hx hb dX10_seek_11 rfl (lv_at hl 1 rfl) ?_
    refine va_get (D := G) (ci := 7) (v := .ref hd) (C := RX10) (T := TX10) (N := 71) (ref := RX10) hx hb hts hin hown hX.1 hP qo (hoth g) rfl 48 (by decide) hlk (fun _ h9 => h9) hfs dX10_seek_12 ?_
    refine lv_iload hx hb dX10_seek_15 (lv_at hl 0 rfl) ?_
    refine lv_iconst (v := -1) hx hb dX10_seek_17 (by decide +kernel) ?_
    refine va_iast hx hb hX.1 hP hD hS q0 0 (hself g) rfl (vp_in_nI (by omega) (by omega)) dX10_seek_18 (fun H locs hP hD hS => ?_)
    rw [List.set_set] at hP hD
    refine lv_iinc (v := nI (i + 1)) (lv' := [(4, .int (nI (i + 1))), (0, .ref p0), (1, .ref pl), (2, .int a), (3, .int w)]) hx hb dX10_seek_19 hl (k := 0) rfl (nI_1 i) (by decide) rfl (fun ls hl => ?_)
    refine lv_goto (tgt := 3) hx hb dX10_seek_22 (by decide) ?_
    refine ih (i + 1) (by omega) _ H locs ls (fun j hj => ?_) hP hD hS hl
    rw [nI_clamp (by omega)]
    unfold upd
    by_cases hji : j = i
    · rw [if_pos hji]
    · rw [if_neg hji]; exact hg j (by omega)
