set_option maxHeartbeats 8000000 in
theorem kz_start {s : State} {b : Nat} (hts : ∀ w ∈ lw_tbl, w.before #[Value.ref b] s = true) (hgv : (Jvm.Cond.and given_1 narrow_1).before #[Value.ref b] s = true) :
    ∃ (G : va_G) (kk : ClassId → ClassId → Nat → ClassId), (∀ c4 c5, KX G (kk c4 c5) s ∧ EZ0 (kk c4 c5) (fun q : Nat => s.heap.size ≤ q) s s.heap ∧ kk c4 c5 4 = c4 ∧ kk c4 c5 5 = c5 ∧ kk c4 c5 9 = kk c4 c5 423 ∧ (∀ i, i < 4 → kk c4 c5 i = kk 0 0 i) ∧ (∀ i, 100 ≤ i → kk c4 c5 i = kk 0 0 i)) ∧ TX s ∧ (∀ i, i < 23 → va_Any "java/lang/String" s s.heap (kk 0 0 (111 + i))) := by
  have hgs : ∀ w ∈ gF, w.before #[Value.ref b] s = true := flat_of_before _ hgv
  have hA : ∀ a : Nat, a < s.heap.size → ¬ (fun q : Nat => s.heap.size ≤ q) a := fun a h => Nat.not_le.mpr h
  obtain ⟨c0, iS0, hKn0⟩ := u_known (C := RX1) (T := TX1) (N := 12) (n := 12) hts inX1 (lw_at hts 335 (by decide +kernel))
  obtain ⟨c1, iS1, hKn1⟩ := u_known (C := RX2) (T := TX2) (N := 5) (n := 5) hts inX2 (lw_at hts 274 (by decide +kernel))
  obtain ⟨c2, iS2, hKn2⟩ := u_known (C := RX3) (T := TX3) (N := 14) (n := 14) hts inX3 (lw_at hts 161 (by decide +kernel))
  obtain ⟨c3, iS3, hKn3⟩ := u_known (C := RX4) (T := TX4) (N := 8) (n := 8) hts inX4 (lw_at hts 280 (by decide +kernel))
  obtain ⟨c4, iS4, hKn4⟩ := u_known (C := RX5) (T := TX5) (N := 5) (n := 5) hts inX5 (lw_at hts 167 (by decide +kernel))
  obtain ⟨c5, iS5, hKn5⟩ := u_known (C := RX6) (T := TX6) (N := 15) (n := 15) hts inX6 (lw_at hts 389 (by decide +kernel))
  obtain ⟨c6, iS6, hKn6⟩ := u_known (C := RX9) (T := TX9) (N := 11) (n := 11) hts inX9 (lw_at hts 153 (by decide +kernel))
  obtain ⟨c7, iS7, hKn7⟩ := u_known (C := RX10) (T := TX10) (N := 71) (n := 71) hts inX10 (lw_at hts 1097 (by decide +kernel))
  obtain ⟨dC, dI, hKc⟩ : ∃ (dC : Nat → ClassId) (dI : Nat → Nat → Nat), ∀ (k : Nat) (q : vw_C), vwCl[k]? = some q → u_Kn s q.1 q.2.1 q.2.2 (dC k) (dI k) := by
    refine ⟨fun k => if k = 0 then c0 else if k = 1 then c1 else if k = 2 then c2 else if k = 3 then c3 else if k = 4 then c4 else if k = 5 then c5 else if k = 6 then c6 else c7, fun k => if k = 0 then iS0 else if k = 1 then iS1 else if k = 2 then iS2 else if k = 3 then iS3 else if k = 4 then iS4 else if k = 5 then iS5 else if k = 6 then iS6 else iS7, ?_⟩
    intro k q hq
    match k, hq with
    | 0, hq => cases hq; exact hKn0
    | 1, hq => cases hq; exact hKn1
    | 2, hq => cases hq; exact hKn2
    | 3, hq => cases hq; exact hKn3
    | 4, hq => cases hq; exact hKn4
    | 5, hq => cases hq; exact hKn5
    | 6, hq => cases hq; exact hKn6
    | 7, hq => cases hq; exact hKn7
    | k + 8, hq => simp [vwCl] at hq
  obtain ⟨cI, nI1, aI⟩ := cz_arr (lw_at hts 196 (by decide +kernel) : (Cond.arrayClass .int).before _ s = true)
  obtain ⟨cB, nB1, aB⟩ := cz_arr (lw_at hts 195 (by decide +kernel) : (Cond.arrayClass .byte).before _ s = true)
  obtain ⟨cJ, nJ1, aJ⟩ := cz_arr (lw_at hts 1340 (by decide +kernel) : (Cond.arrayClass .long).before _ s = true)
  obtain ⟨cZ, nZ1, aZ⟩ := cz_arr (lw_at hts 1341 (by decide +kernel) : (Cond.arrayClass .boolean).before _ s = true)
  have hst : ∀ i : Nat, ∃ a : Nat, ∀ q, sNm[i]? = some q → (Term.string q.1 q.2.1).eval #[Value.ref b] s none [] s = some (.ref a) ∧ va_Any "java/lang/String" s s.heap a := by
    intro i
    cases hi : sNm[i]? with
    | none => exact ⟨0, fun q h => by cases h⟩
    | some q0 =>
      have hq := List.mem_of_getElem? hi
      obtain ⟨a, c, cell, k, q1, q2, q3, q4, q5, q6, -⟩ := Cond.exactly_spec (args := #[Value.ref b]) (first := s) (o := none) (s := s) (idx := []) (hgs _ (st_ex q0 hq))
      refine ⟨a, fun q h => ?_⟩
      cases Option.some.inj h
      refine ⟨q1, cell, q3, q5, ⟨k, by rw [q6]; exact q4⟩, fun comp hc => ?_⟩
      cases Option.some.inj (hc.symm.trans q2)
      rw [q6]
      exact cz_self _ _
  obtain ⟨sa, hsa⟩ := Classical.axiomOfChoice hst
  have h47 : ∀ i : Nat, ∃ a : Nat × Nat, ∀ q, sT47[i]? = some q → (Term.string q.1 q.2.1).eval #[Value.ref b] s none [] s = some (.ref a.1) ∧ va_O "java/lang/String" a.1 (fun q : Nat => s.heap.size ≤ q) s s.heap ∧ va_OF "java/lang/String" "coder" "B" (.int 0) a.1 (fun q : Nat => s.heap.size ≤ q) s s.heap ∧ va_OF "java/lang/String" "value" "[B" (.ref a.2) a.1 (fun q : Nat => s.heap.size ≤ q) s s.heap ∧ va_T .byte a.2 q.2.2.length (fun j => .int (q.2.2.getD j 0)) (fun q : Nat => s.heap.size ≤ q) s s.heap := by
    intro i
    cases hi : sT47[i]? with
    | none => exact ⟨(0, 0), fun q h => by cases h⟩
    | some q0 =>
      have hq := List.mem_of_getElem? hi
      have hlen : ∀ q ∈ sT47, q.2.2.length < 2 ^ 31 := by decide +kernel
      obtain ⟨a, v, h1, h2⟩ := ss_one hgs hA hq (hlen q0 hq)
      refine ⟨(a, v), fun q h => ?_⟩
      cases Option.some.inj h
      exact ⟨h1, h2⟩
  obtain ⟨ta, hta⟩ := Classical.axiomOfChoice h47
  have hwd : ∀ i : Nat, ∃ a : Nat, ∀ q, wdT[i]? = some q → (tW q.1).eval #[Value.ref b] s none [] s = some (.ref a) ∧ va_O "RopeTown$Word" a (fun q : Nat => s.heap.size ≤ q) s s.heap := by
    intro i
    cases hi : wdT[i]? with
    | none => exact ⟨0, fun q h => by cases h⟩
    | some q0 =>
      have hq := List.mem_of_getElem? hi
      obtain ⟨a, c, cell, k, q1, q2, q3, q4, q5, q6, -⟩ := Cond.exactly_spec (args := #[Value.ref b]) (first := s) (o := none) (s := s) (idx := []) (hgs _ (wd_all q0 hq).1)
      refine ⟨a, fun q h => ?_⟩
      cases Option.some.inj h
      exact ⟨q1, cell, q3, q5, by rw [q6]; exact q2, hA a (Array.getElem?_eq_some_iff.mp q3).1⟩
  obtain ⟨wa, hwa⟩ := Classical.axiomOfChoice hwd
  obtain ⟨tP, tP1, tP2⟩ := va_Tof (f := powT) (A := fun q : Nat => s.heap.size ≤ q) (by decide) (hgs _ ar_pow.1) (va_eqv (hgs _ ar_pow.2.1) rfl) (fun j hj => va_eqv (hgs _ (ar_pow.2.2 ⟨j, hj⟩)) rfl) hA
  obtain ⟨tQ, tQ1, tQ2⟩ := va_Tof (f := fun i => .int (Int32.ofInt (swZ i))) (A := fun q : Nat => s.heap.size ≤ q) (by decide) (hgs _ ar_sw.1) (va_eqv (hgs _ ar_sw.2.1) rfl) (fun j hj => va_eqv (hgs _ (ar_sw.2.2 ⟨j, hj⟩)) (congrArg (fun z => some (Value.int z)) (sw_val ⟨j, hj⟩))) hA
  have hwe : ∀ j, j < 24 → (tW (wdN.getD j "")).eval #[Value.ref b] s none [] s = some (.ref (wa j)) := fun j hj => by
    obtain ⟨q, h1, h2, -⟩ := wd_at ⟨j, hj⟩
    rw [← h2]
    exact (hwa j q h1).1
  obtain ⟨tV, tV1, tV2⟩ := va_Tof (f := fun i => .ref (wa i)) (A := fun q : Nat => s.heap.size ≤ q) (by decide) (hgs _ ar_wd.1) (va_eqv (hgs _ ar_wd.2.1) rfl) (fun j hj => va_eqv (hgs _ (ar_wd.2.2 ⟨j, hj⟩)) (hwe j hj)) hA
  obtain ⟨kk, p1, p2, p3, p4, p5, p6, p7⟩ : ∃ kk : ClassId → ClassId → Nat → ClassId, (∀ c4 c5, kk c4 c5 0 = cI ∧ kk c4 c5 1 = cB ∧ kk c4 c5 2 = cJ ∧ kk c4 c5 3 = cZ ∧ kk c4 c5 4 = c4 ∧ kk c4 c5 5 = c5 ∧ kk c4 c5 9 = wa 23) ∧ (∀ c4 c5 i, i < 11 → kk c4 c5 (100 + i) = sa i) ∧ (∀ c4 c5 i, i < 47 → kk c4 c5 (111 + i) = (ta i).1) ∧ (∀ c4 c5, kk c4 c5 300 = tP ∧ kk c4 c5 301 = tV ∧ kk c4 c5 302 = tQ) ∧ (∀ c4 c5 i, i < 24 → kk c4 c5 (400 + i) = wa i) ∧ (∀ c4 c5 i, i < 47 → kk c4 c5 (600 + i) = (ta i).2) ∧ (∀ c4 c5, (∀ i, i < 4 → kk c4 c5 i = kk 0 0 i) ∧ (∀ i, 100 ≤ i → kk c4 c5 i = kk 0 0 i)) := by
    refine ⟨fun c4 c5 n => if n < 100 then (if n = 0 then cI else if n = 1 then cB else if n = 2 then cJ else if n = 3 then cZ else if n = 4 then c4 else if n = 9 then wa 23 else c5) else if n < 111 then sa (n - 100) else if n < 300 then (ta (n - 111)).1 else if n = 300 then tP else if n = 301 then tV else if n = 302 then tQ else if n < 600 then wa (n - 400) else (ta (n - 600)).2, ?_, ?_, ?_, ?_, ?_, ?_, ?_⟩
    · intro c4 c5
      exact ⟨rfl, rfl, rfl, rfl, rfl, rfl, rfl⟩
    · intro c4 c5 i hi
      simp only
      rw [if_neg (by omega), if_pos (by omega), show 100 + i - 100 = i by omega]
    · intro c4 c5 i hi
      simp only
      rw [if_neg (by omega), if_neg (by omega), if_pos (by omega), show 111 + i - 111 = i by omega]
    · intro c4 c5
      exact ⟨rfl, rfl, rfl⟩
    · intro c4 c5 i hi
      simp only
      rw [if_neg (by omega), if_neg (by omega), if_neg (by omega), if_neg (by omega), if_neg (by omega), if_neg (by omega), if_pos (by omega), show 400 + i - 400 = i by omega]
    · intro c4 c5 i hi
      simp only
      rw [if_neg (by omega), if_neg (by omega), if_neg (by omega), if_neg (by omega), if_neg (by omega), if_neg (by omega), if_neg (by omega), show 600 + i - 600 = i by omega]
    · intro c4 c5
      refine ⟨fun i hi => ?_, fun i hi => ?_⟩
      · match i, hi with
        | 0, _ => rfl
        | 1, _ => rfl
        | 2, _ => rfl
        | 3, _ => rfl
        | i + 4, hi => exact absurd hi (by omega)
      · have h9 : ¬ i < 100 := by omega
        simp only
        rw [if_neg h9, if_neg h9]
  have q47 : ∀ i, i < 47 → ∃ q, sT47[i]? = some q ∧ q.2.2 = bytS.getD i [] ∧ q.2.2.length = lenS.getD i 0 := fun i hi => t47_at ⟨i, hi⟩
  refine ⟨(dC, dI), kk, fun c4 c5 => ⟨⟨⟨hKc, ?_⟩, ?_, NST.of hts, va_AO.of (lw_at hts 1103 (by decide +kernel)), ?_⟩, ⟨⟨?_, ?_⟩, ⟨⟨?_, ?_⟩, ⟨?_, ?_⟩, ⟨?_, ?_⟩, ?_, ?_⟩, ⟨?_, ?_, ?_, ?_, ?_⟩, ?_⟩, (p1 c4 c5).2.2.2.2.1, (p1 c4 c5).2.2.2.2.2.1, ((p1 c4 c5).2.2.2.2.2.2).trans (p5 c4 c5 23 (by decide)).symm, (p7 c4 c5).1, (p7 c4 c5).2⟩, ⟨?_, ?_⟩, ?_⟩
  · intro i q hq
    match i, hq with
    | 0, hq => cases hq; rw [(p1 c4 c5).1]; exact ⟨aI, nI1⟩
    | 1, hq => cases hq; rw [(p1 c4 c5).2.1]; exact ⟨aB, nB1⟩
    | 2, hq => cases hq; rw [(p1 c4 c5).2.2.1]; exact ⟨aJ, nJ1⟩
    | 3, hq => cases hq; rw [(p1 c4 c5).2.2.2.1]; exact ⟨aZ, nZ1⟩
    | i + 4, hq => simp [KT] at hq
  · intro i n hn
    match i, hn with
    | 0, hn => cases hn; rw [(p1 c4 c5).1]; exact nI1
    | 1, hn => cases hn; rw [(p1 c4 c5).2.1]; exact nB1
    | 2, hn => cases hn; rw [(p1 c4 c5).2.2.1]; exact nJ1
    | 3, hn => cases hn; rw [(p1 c4 c5).2.2.2.1]; exact nZ1
    | i + 4, hn => simp [kNm] at hn
  · intro i q hq
    have hlen : sNm.length = 34 := by decide +kernel
    have hi : i < 34 := by
      have := (List.getElem?_eq_some_iff.mp hq).1
      omega
    have hr := hts _ (List.mem_append_right _ (st_ref q (List.mem_of_getElem? hq)))
    by_cases h11 : i < 11
    · rw [p2 c4 c5 i h11]
      exact vk_R.of hr (hsa i q hq).1
    · obtain ⟨t, rfl⟩ : ∃ t, i = 11 + t := ⟨i - 11, by omega⟩
      rw [show 100 + (11 + t) = 111 + t by omega, p3 c4 c5 t (by omega)]
      obtain ⟨r, r1, -⟩ := q47 t (by omega)
      obtain ⟨e1, e2⟩ := t47_nm ⟨t, by omega⟩ q (by simpa using hq) r (by simpa using r1)
      have h9 := (hta t r r1).1
      rw [← e1, ← e2] at h9
      exact vk_R.of hr h9
  · exact vx_Zqof (lw_at hts 684 (by decide +kernel)) (lw_at hts 138 (by decide +kernel)) (hgs _ st_us) hA
  · exact vx_Zqof (lw_at hts 686 (by decide +kernel)) (lw_at hts 138 (by decide +kernel)) (hgs _ st_ss) hA
  · rw [(p4 c4 c5).1]; exact va_Zof (lw_at hts 1025 (by decide +kernel)) (lw_at hts 135 (by decide +kernel)) tP1 hA
  · rw [(p4 c4 c5).1]; exact tP2
  · rw [(p4 c4 c5).2.1]; exact va_Zof (lw_at hts 749 (by decide +kernel)) (lw_at hts 131 (by decide +kernel)) tV1 hA
  · rw [(p4 c4 c5).2.1]
    obtain ⟨cell, g1, g2, g3, g4, g5, g6, g7⟩ := tV2
    exact ⟨cell, g1, g2, g3, g4, g5, fun j hj => by rw [g6 j hj]; show some (Value.ref (wa j)) = some (Value.ref (kk c4 c5 (400 + j))); rw [p5 c4 c5 j hj], g7⟩
  · rw [(p4 c4 c5).2.2]; exact va_Zof (lw_at hts 811 (by decide +kernel)) (lw_at hts 146 (by decide +kernel)) tQ1 hA
  · rw [(p4 c4 c5).2.2]; exact tQ2
  · exact va_Zof (lw_at hts 759 (by decide +kernel)) (lw_at hts 142 (by decide +kernel)) (va_eqv (hgs _ st_cs) rfl) hA
  · exact va_Zqof (lw_at hts 775 (by decide +kernel)) (lw_at hts 144 (by decide +kernel)) (hgs _ st_pf) hA
  · intro i hi
    obtain ⟨q, h1, h2, h3, h4, h5⟩ := wd_at ⟨i, hi⟩
    obtain ⟨r, r1, -⟩ := q47 (23 + i) (by omega)
    obtain ⟨e1, e2⟩ := h5 r (by simpa using r1)
    have h9 := (hta (23 + i) r r1).1
    rw [e1, e2] at h9
    simp only
    rw [p5 c4 c5 i hi, p3 c4 c5 (23 + i) (by omega)]
    exact vk_OFof (hwa i q h1).1 (va_eqv (hgs _ (wd_all q (List.mem_of_getElem? h1)).2.2.2.1) h9) hA
  · intro i hi
    obtain ⟨q, h1, h2, h3, h4, h5⟩ := wd_at ⟨i, hi⟩
    simp only
    rw [p5 c4 c5 i hi]
    exact vk_OFof (hwa i q h1).1 (va_eqv (hgs _ (wd_all q (List.mem_of_getElem? h1)).2.2.1) (congrArg (fun z => some (Value.int z)) h4)) hA
  · intro i hi
    obtain ⟨q, h1, h2, h3, h4, h5⟩ := wd_at ⟨i, hi⟩
    simp only
    rw [p5 c4 c5 i hi]
    exact vk_OFof (hwa i q h1).1 (va_eqv (hgs _ (wd_all q (List.mem_of_getElem? h1)).2.1) (congrArg (fun z => some (Value.int z)) h3)) hA
  · intro i hi
    obtain ⟨q, h1, -⟩ := wd_at ⟨i, hi⟩
    rw [p5 c4 c5 i hi]
    exact (hwa i q h1).2
  · intro i hi
    obtain ⟨q, h1, h2, -⟩ := wd_at ⟨i, hi⟩
    rw [p5 c4 c5 i hi, ← h2]
    exact va_Zof (hts _ (List.mem_append_right _ (wd_all q (List.mem_of_getElem? h1)).2.2.2.2)) (lw_at hts 133 (by decide +kernel)) (hwa i q h1).1 hA
  · intro i hi
    obtain ⟨q, q1, q2, q3⟩ := q47 i hi
    obtain ⟨-, g2, g3, g4, g5⟩ := hta i q q1
    rw [p3 c4 c5 i hi, p6 c4 c5 i hi, ← q3, ← q2]
    exact ⟨g2, g3, g4, g5⟩
  · intro y hy
    simp only [List.mem_cons, List.not_mem_nil, or_false] at hy
    rcases hy with rfl | rfl | rfl
    · exact va_Nw.of rfl (lw_at hts 661 (by decide +kernel))
    · exact va_Nw.of rfl (lw_at hts 663 (by decide +kernel))
    · exact va_Nw.of rfl (lw_at hts 665 (by decide +kernel))
  · intro y hy
    simp only [List.mem_cons, List.not_mem_nil, or_false] at hy
    rcases hy with rfl | rfl
    · exact va_Nw.of rfl (lw_at hts 917 (by decide +kernel))
    · exact va_Nw.of rfl (lw_at hts 659 (by decide +kernel))
  · intro i hi
    have hlen : sNm.length = 34 := by decide +kernel
    obtain ⟨q, hq⟩ : ∃ q, sNm[11 + i]? = some q := ⟨_, List.getElem?_eq_getElem (by omega)⟩
    obtain ⟨r, r1, -⟩ := q47 i (by omega)
    obtain ⟨e1, e2⟩ := t47_nm ⟨i, hi⟩ q (by simpa using hq) r (by simpa using r1)
    have h9 := (hta i r r1).1
    obtain ⟨h8, h7⟩ := hsa (11 + i) q hq
    rw [e1, e2, h9] at h8
    have h6 : (ta i).1 = sa (11 + i) := Value.ref.inj (Option.some.inj h8)
    rw [p3 0 0 i (by omega), h6]
    exact h7
theorem cz_anyM {E : String} {s U : State} {H : Heap} {a : Nat} (hal : s.vm.Alike U.vm) (h : va_Any E s H a) : va_Any E U H a := by
  obtain ⟨cl, h1, h2, ⟨kC, hkC⟩, h4⟩ := h
  obtain ⟨k', hk', -⟩ := hal.2.2 _ _ hkC
  refine ⟨cl, h1, h2, ⟨k', hk'⟩, fun comp hc => ?_⟩
  rw [hal.findClass] at hc
  rw [hal.assignable]
  exact h4 comp hc
theorem cz_preSS {s : State} {H : Heap} {locs : List Loc} {G : va_G} {k : Nat → ClassId} {A : Nat → Prop} {ws wc : va_W} {av : List Value} {p0 q0 : Nat} {e0 : va_E} (hstr : ∀ i, i < 23 → va_Any "java/lang/String" s s.heap (k (111 + i))) (hA9 : ∀ q, A q → s.heap.size ≤ q) (hZ : ZX k A s s.heap) (hS : va_S A s.heap H locs) (hX : KX G k s) (hP : va_P G vwCl ws H) (hD : va_D A ws) (isC : List Nat) (hn : va_nd isC = true) (hC : isC.map (fun i => ws[i]?) = wc.map some) (hq : ws[q0]? = some (p0, e0)) : PreS s H (PreXS G k av p0 H.size wc) av := by
  have h0 := cz_preS (av := av) hZ hS hX hP hD isC hn hC
  have hlt : ∀ i, i < 23 → k (111 + i) < s.heap.size := fun i hi => by
    obtain ⟨cl, h1, -⟩ := hstr i hi
    exact (Array.getElem?_eq_some_iff.mp h1).1
  refine ⟨fun a U g mk q => ⟨pre_blind a U g mk q.1, fun i hi => ⟨cz_anyM (s := U) (U := U.calling g mk a) (Vm.Alike.refl U.vm) (q.2 i hi).1, (q.2 i hi).2⟩⟩, fun U hU hW => ⟨h0.2 U hU hW, fun i hi => ⟨?_, ?_⟩⟩⟩
  · rw [hU]
    exact cz_anyM hW.alike (cz_any ⟨hstr i hi, fun z => absurd (hlt i hi) (Nat.not_lt.mpr (hA9 _ z))⟩ hS)
  · intro z
    have h9 := hA9 _ (hD.2 q0 _ hq)
    have h8 := hlt i hi
    rw [z] at h8
    exact absurd h8 (Nat.not_lt.mpr h9)
theorem z_split (x : Int32) (n : Nat) (hn : n < 2 ^ 31) : x < 0 ∨ nI n < x ∨ ∃ j : Nat, j ≤ n ∧ x = nI j := by
  by_cases h1 : x < 0
  · exact Or.inl h1
  · by_cases h2 : nI n < x
    · exact Or.inr (Or.inl h2)
    · have h3 : x ≤ nI n := by
        rcases Int32.lt_or_le (nI n) x with z | z
        · exact absurd z h2
        · exact z
      obtain ⟨j, hj, e⟩ := nI_of2 (nI_toInt hn) h1 h3
      exact Or.inr (Or.inr ⟨j, hj, e⟩)
