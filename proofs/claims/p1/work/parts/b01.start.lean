/-! what holds at the law's start: classes, array classes, links, texts, statics -/
theorem cz_self (vm : Vm) (c : ClassId) : vm.assignable c c = true := by
  show vm.assignableAux (255 + 1) c c = true
  rw [Vm.assignableAux]
  simp only [beq_self_eq_true, Bool.true_or]
theorem st_ref : ∀ q ∈ sNm, Cond.stringRef q.1 q.2.1 q.2.2 ∈ tables_1 := by decide +kernel
theorem st_ex : ∀ q ∈ sNm, Cond.exactly (.string q.1 q.2.1) "java/lang/String" ∈ flatC (Jvm.Cond.and given_1 narrow_1) := by decide +kernel
theorem st_unk : Cond.exactly (.static "RopeTown$Word" "UNKNOWN" "LRopeTown$Word;") "RopeTown$Word" ∈ flatC (Jvm.Cond.and given_1 narrow_1) := by decide +kernel
theorem st_us : Cond.isRef (.static Bundle.tN "UNASSIGNED_STACK" Bundle.steD) ∈ flatC (Jvm.Cond.and given_1 narrow_1) := by decide +kernel
theorem st_ss : Cond.isRef (.static Bundle.tN "SUPPRESSED_SENTINEL" Bundle.listD) ∈ flatC (Jvm.Cond.and given_1 narrow_1) := by decide +kernel
theorem cz_arr {args : Array Value} {s : State} {ty : FieldType} (h : (Cond.arrayClass ty).before args s = true) : ∃ cA : ClassId, s.vm.findClass ("[" ++ ty.toString) = some cA ∧ ArrOfT s cA ty := by
  obtain ⟨cA, kA, comp, h1, h2, h3⟩ := Cond.arrayClass_spec h
  exact ⟨cA, h1, fun n z => ⟨fun k h => (by cases h), kA, h2, comp, h3⟩⟩
theorem lw_at {A : Array Value} {s : State} (hts : ∀ w ∈ lw_tbl, w.before A s = true) {w : Cond} (i : Nat) (h : lw_tbl[i]? = some w) : w.before A s = true := hts w (List.mem_of_getElem? h)
set_option maxHeartbeats 4000000 in
theorem kx_start {s : State} {b : Nat} (hts : ∀ w ∈ lw_tbl, w.before #[Value.ref b] s = true) (hgv : (Jvm.Cond.and given_1 narrow_1).before #[Value.ref b] s = true) :
    ∃ (G : va_G) (k : Nat → ClassId), KX G k s ∧ TX s ∧ ZX k (fun q : Nat => s.heap.size ≤ q) s s.heap ∧ (∀ i, i < 23 → va_Any "java/lang/String" s s.heap (k (111 + i))) := by
  have hgs := flat_of_before _ hgv
  have hA : ∀ a : Nat, a < s.heap.size → ¬ (fun q : Nat => s.heap.size ≤ q) a := fun a h => Nat.not_le.mpr h
  obtain ⟨c0, iS0, hKn0⟩ := u_known (C := RX1) (T := TX1) (N := 12) (n := 12) hts inX1 (lw_at hts 335 (by decide +kernel))
  obtain ⟨c1, iS1, hKn1⟩ := u_known (C := RX2) (T := TX2) (N := 5) (n := 5) hts inX2 (lw_at hts 274 (by decide +kernel))
  obtain ⟨c2, iS2, hKn2⟩ := u_known (C := RX3) (T := TX3) (N := 14) (n := 14) hts inX3 (lw_at hts 161 (by decide +kernel))
  obtain ⟨c3, iS3, hKn3⟩ := u_known (C := RX4) (T := TX4) (N := 8) (n := 8) hts inX4 (lw_at hts 280 (by decide +kernel))
  obtain ⟨c4, iS4, hKn4⟩ := u_known (C := RX5) (T := TX5) (N := 5) (n := 5) hts inX5 (lw_at hts 167 (by decide +kernel))
  obtain ⟨c5, iS5, hKn5⟩ := u_known (C := RX6) (T := TX6) (N := 15) (n := 15) hts inX6 (lw_at hts 389 (by decide +kernel))
  obtain ⟨c6, iS6, hKn6⟩ := u_known (C := RX9) (T := TX9) (N := 11) (n := 11) hts inX9 (lw_at hts 153 (by decide +kernel))
  obtain ⟨c7, iS7, hKn7⟩ := u_known (C := RX10) (T := TX10) (N := 71) (n := 71) hts inX10 (lw_at hts 1097 (by decide +kernel))
  obtain ⟨dC, dI, hKc⟩ : ∃ (dC : Nat → ClassId) (dI : Nat → Nat → Nat), ∀ (k : Nat) (q : vw_C), vwCl[k]? = some q → u_Kn s q.1 q.2.1 q.2.2 (dC k) (dI k) := by
    refine ⟨fun k => if k = 0 then c0 else if k = 1 then c1 else if k = 2 then c2 else if k = 3 then c3 else if k = 4 then c4 else if k = 5 then c5 else if k = 6 then c6 else c7, fun k => if k = 0 then iS0 else if k = 1 then iS1 else if k = 2 then iS2 else if k = 3 then iS3 else if k = 4 then iS4 else if k = 5 then iS5 else if k = 6 then iS6 else iS7, ?_⟩
    intro k q hq
    match k, hq with
    | 0, hq => cases hq; exact hKn0
    | 1, hq => cases hq; exact hKn1
    | 2, hq => cases hq; exact hKn2
    | 3, hq => cases hq; exact hKn3
    | 4, hq => cases hq; exact hKn4
    | 5, hq => cases hq; exact hKn5
    | 6, hq => cases hq; exact hKn6
    | 7, hq => cases hq; exact hKn7
    | k + 8, hq => simp [vwCl] at hq
  obtain ⟨cI, nI1, aI⟩ := cz_arr (lw_at hts 196 (by decide +kernel) : (Cond.arrayClass .int).before _ s = true)
  obtain ⟨cB, nB1, aB⟩ := cz_arr (lw_at hts 195 (by decide +kernel) : (Cond.arrayClass .byte).before _ s = true)
  obtain ⟨cJ, nJ1, aJ⟩ := cz_arr (lw_at hts 1340 (by decide +kernel) : (Cond.arrayClass .long).before _ s = true)
  obtain ⟨cZ, nZ1, aZ⟩ := cz_arr (lw_at hts 1341 (by decide +kernel) : (Cond.arrayClass .boolean).before _ s = true)
  have hst : ∀ i : Nat, ∃ a : Nat, ∀ q, sNm[i]? = some q → vk_R q.1 q.2.1 q.2.2 a s ∧ va_Any "java/lang/String" s s.heap a := by
    intro i
    cases hi : sNm[i]? with
    | none => exact ⟨0, fun q h => by cases h⟩
    | some q0 =>
      have hq := List.mem_of_getElem? hi
      obtain ⟨a, c, cell, k, q1, q2, q3, q4, q5, q6, -⟩ := Cond.exactly_spec (args := #[Value.ref b]) (first := s) (o := none) (s := s) (idx := []) (hgs _ (st_ex q0 hq))
      refine ⟨a, fun q h => ?_⟩
      cases Option.some.inj h
      refine ⟨vk_R.of (hts _ (List.mem_append_right _ (st_ref q0 hq))) q1, cell, q3, q5, ⟨k, by rw [q6]; exact q4⟩, fun comp hc => ?_⟩
      cases Option.some.inj (hc.symm.trans q2)
      rw [q6]
      exact cz_self _ _
  obtain ⟨sa, hsa⟩ := Classical.axiomOfChoice hst
  obtain ⟨w9, c9, cell9, k9, u1, -⟩ := Cond.exactly_spec (args := #[Value.ref b]) (first := s) (o := none) (s := s) (idx := []) (hgs _ st_unk)
  refine ⟨(dC, dI), fun n => if n < 100 then (if n = 0 then cI else if n = 1 then cB else if n = 2 then cJ else if n = 3 then cZ else w9) else sa (n - 100), ⟨⟨hKc, ?_⟩, ?_, NST.of hts, va_AO.of (lw_at hts 1103 (by decide +kernel)), ?_⟩, ⟨?_, ?_⟩, ⟨?_, ?_, ?_⟩, ?_⟩
  · intro i q hq
    match i, hq with
    | 0, hq => cases hq; exact ⟨aI, nI1⟩
    | 1, hq => cases hq; exact ⟨aB, nB1⟩
    | 2, hq => cases hq; exact ⟨aJ, nJ1⟩
    | 3, hq => cases hq; exact ⟨aZ, nZ1⟩
    | i + 4, hq => simp [KT] at hq
  · intro i n hn
    match i, hn with
    | 0, hn => cases hn; exact nI1
    | 1, hn => cases hn; exact nB1
    | 2, hn => cases hn; exact nJ1
    | 3, hn => cases hn; exact nZ1
    | i + 4, hn => simp [kNm] at hn
  · intro i q hq
    have e9 : ¬ 100 + i < 100 := by omega
    have e8 : 100 + i - 100 = i := by omega
    simp only [e9, if_false, e8]
    exact (hsa i q hq).1
  · intro y hy
    simp only [List.mem_cons, List.not_mem_nil, or_false] at hy
    rcases hy with rfl | rfl | rfl
    · exact va_Nw.of rfl (lw_at hts 661 (by decide +kernel))
    · exact va_Nw.of rfl (lw_at hts 663 (by decide +kernel))
    · exact va_Nw.of rfl (lw_at hts 665 (by decide +kernel))
  · intro y hy
    simp only [List.mem_cons, List.not_mem_nil, or_false] at hy
    rcases hy with rfl | rfl
    · exact va_Nw.of rfl (lw_at hts 917 (by decide +kernel))
    · exact va_Nw.of rfl (lw_at hts 659 (by decide +kernel))
  · exact va_Zof (lw_at hts 286 (by decide +kernel)) (lw_at hts 133 (by decide +kernel)) u1 hA
  · exact vx_Zqof (lw_at hts 684 (by decide +kernel)) (lw_at hts 138 (by decide +kernel)) (hgs _ st_us) hA
  · exact vx_Zqof (lw_at hts 686 (by decide +kernel)) (lw_at hts 138 (by decide +kernel)) (hgs _ st_ss) hA
  · intro i hi
    have e9 : ¬ 111 + i < 100 := by omega
    have e8 : 111 + i - 100 = 11 + i := by omega
    simp only [e9, if_false, e8]
    have hlen : sNm.length = 34 := by decide +kernel
    obtain ⟨q, hq⟩ : ∃ q, sNm[11 + i]? = some q := ⟨_, List.getElem?_eq_getElem (by omega)⟩
    exact (hsa (11 + i) q hq).2
theorem cz_anyM {E : String} {s U : State} {H : Heap} {a : Nat} (hal : s.vm.Alike U.vm) (h : va_Any E s H a) : va_Any E U H a := by
  obtain ⟨cl, h1, h2, ⟨kC, hkC⟩, h4⟩ := h
  obtain ⟨k', hk', -⟩ := hal.2.2 _ _ hkC
  refine ⟨cl, h1, h2, ⟨k', hk'⟩, fun comp hc => ?_⟩
  rw [hal.findClass] at hc
  rw [hal.assignable]
  exact h4 comp hc
theorem cz_preSS {s : State} {H : Heap} {locs : List Loc} {G : va_G} {k : Nat → ClassId} {A : Nat → Prop} {ws wc : va_W} {av : List Value} {p0 q0 : Nat} {e0 : va_E} (hstr : ∀ i, i < 23 → va_Any "java/lang/String" s s.heap (k (111 + i))) (hA9 : ∀ q, A q → s.heap.size ≤ q) (hZ : ZX k A s s.heap) (hS : va_S A s.heap H locs) (hX : KX G k s) (hP : va_P G vwCl ws H) (hD : va_D A ws) (isC : List Nat) (hn : va_nd isC = true) (hC : isC.map (fun i => ws[i]?) = wc.map some) (hq : ws[q0]? = some (p0, e0)) : PreS s H (PreXS G k av p0 H.size wc) av := by
  have h0 := cz_preS (av := av) hZ hS hX hP hD isC hn hC
  have hlt : ∀ i, i < 23 → k (111 + i) < s.heap.size := fun i hi => by
    obtain ⟨cl, h1, -⟩ := hstr i hi
    exact (Array.getElem?_eq_some_iff.mp h1).1
  refine ⟨fun a U g mk q => ⟨pre_blind a U g mk q.1, fun i hi => ⟨cz_anyM (s := U) (U := U.calling g mk a) (Vm.Alike.refl U.vm) (q.2 i hi).1, (q.2 i hi).2⟩⟩, fun U hU hW => ⟨h0.2 U hU hW, fun i hi => ⟨?_, ?_⟩⟩⟩
  · rw [hU]
    exact cz_anyM hW.alike (cz_any ⟨hstr i hi, fun z => absurd (hlt i hi) (Nat.not_lt.mpr (hA9 _ z))⟩ hS)
  · intro z
    have h9 := hA9 _ (hD.2 q0 _ hq)
    have h8 := hlt i hi
    rw [z] at h8
    exact absurd h8 (Nat.not_lt.mpr h9)
theorem z_split (x : Int32) (n : Nat) (hn : n < 2 ^ 31) : x < 0 ∨ nI n < x ∨ ∃ j : Nat, j ≤ n ∧ x = nI j := by
  by_cases h1 : x < 0
  · exact Or.inl h1
  · by_cases h2 : nI n < x
    · exact Or.inr (Or.inl h2)
    · have h3 : x ≤ nI n := by
        rcases Int32.lt_or_le (nI n) x with z | z
        · exact absurd z h2
        · exact z
      obtain ⟨j, hj, e⟩ := nI_of2 (nI_toInt hn) h1 h3
      exact Or.inr (Or.inr ⟨j, hj, e⟩)
