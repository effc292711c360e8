/-! bits of what was told -/
theorem i32_dist (a b c : Int32) : (a ||| b) &&& c = (a &&& c) ||| (b &&& c) := Int32.toBitVec_inj.1 BitVec.and_or_distrib_right
theorem i32_and1 (a : Int32) : a &&& 1 = 0 ∨ a &&& 1 = 1 := by
  have h : (a &&& 1).toBitVec.toNat = a.toBitVec.toNat % 2 := by
    rw [Int32.toBitVec_and, BitVec.toNat_and]
    exact Nat.and_one_is_mod _
  rcases Nat.mod_two_eq_zero_or_one a.toBitVec.toNat with q | q
  · left
    apply Int32.toBitVec_inj.1
    apply BitVec.eq_of_toNat_eq
    rw [h, q]
    rfl
  · right
    apply Int32.toBitVec_inj.1
    apply BitVec.eq_of_toNat_eq
    rw [h, q]
    rfl
theorem i32_or0 {a b : Int32} (h : a ||| b = 0) : a = 0 ∧ b = 0 := by
  have h9 : a.toBitVec ||| b.toBitVec = 0#32 := congrArg Int32.toBitVec h
  obtain ⟨h1, h2⟩ := BitVec.or_eq_zero_iff.mp h9
  exact ⟨Int32.toBitVec_inj.1 h1, Int32.toBitVec_inj.1 h2⟩
theorem ofI_or (x y : Int) : Int32.ofInt (bOr x y) = Int32.ofInt x ||| Int32.ofInt y := by unfold bOr; rw [Int32.ofInt_toInt]
theorem tb_e (t k : Int) : bAnd (bShr t k) 1 = ((Int32.ofInt t >>> (Int32.ofInt k &&& 31)) &&& 1).toInt := by
  unfold bAnd bShr
  rw [Int32.ofInt_toInt]
  rfl
theorem tb_1 (t k : Int) : tbit t k ↔ (Int32.ofInt t >>> (Int32.ofInt k &&& 31)) &&& 1 = 1 := by
  unfold tbit
  rw [tb_e]
  constructor
  · intro h
    exact Int32.toInt_inj.mp h
  · intro h
    rw [h]
    rfl
theorem tb_c : ∀ (j : Fin 12) (k : Fin 7), (Int32.ofInt (bShl 1 (j.val : Int)) >>> (Int32.ofInt (k.val : Int) &&& 31)) &&& 1 = if j.val = k.val then 1 else 0 := by decide +kernel
theorem tb_or {t j k : Int} (hj : 0 ≤ j ∧ j ≤ 11) (hk : 1 ≤ k ∧ k ≤ 6) : tbit (bOr t (bShl 1 j)) k ↔ (tbit t k ∨ j = k) := by
  rw [tb_1, tb_1, ofI_or, Int32.shiftRight_or, i32_dist]
  have h9 := tb_c ⟨j.toNat, by omega⟩ ⟨k.toNat, by omega⟩
  simp only at h9
  rw [show ((j.toNat : Nat) : Int) = j by omega, show ((k.toNat : Nat) : Int) = k by omega] at h9
  rw [h9]
  by_cases q : j = k
  · rw [if_pos (by omega)]
    refine ⟨fun _ => Or.inr q, fun _ => ?_⟩
    rcases i32_and1 (Int32.ofInt t >>> (Int32.ofInt k &&& 31)) with z | z
    · rw [z]; decide
    · rw [z]; decide
  · rw [if_neg (by omega), Int32.or_zero]
    exact ⟨fun z => Or.inl z, fun z => z.resolve_right q⟩
theorem an_0 (u m : Int) : bAnd u m = 0 ↔ Int32.ofInt u &&& Int32.ofInt m = 0 := by
  unfold bAnd
  constructor
  · intro h
    exact Int32.toInt_inj.mp h
  · intro h
    rw [h]
    rfl
theorem mk_c : ∀ (j k : Fin 6), Int32.ofInt (bShl 1 (j.val : Int)) &&& Int32.ofInt (bShl 1 (k.val : Int)) = (if j.val = k.val then Int32.ofInt (bShl 1 (k.val : Int)) else 0) ∧ ¬ Int32.ofInt (bShl 1 (k.val : Int)) = 0 := by decide +kernel
theorem mk_or {u j k : Int} (hj : 1 ≤ j ∧ j ≤ 6) (hk : 1 ≤ k ∧ k ≤ 6) : bAnd (bOr u (bShl 1 (j - 1))) (bShl 1 (k - 1)) = 0 ↔ (bAnd u (bShl 1 (k - 1)) = 0 ∧ ¬ j = k) := by
  rw [an_0, an_0, ofI_or, i32_dist]
  have h9 := mk_c ⟨(j - 1).toNat, by omega⟩ ⟨(k - 1).toNat, by omega⟩
  simp only at h9
  rw [show (((j - 1).toNat : Nat) : Int) = j - 1 by omega, show (((k - 1).toNat : Nat) : Int) = k - 1 by omega] at h9
  rw [h9.1]
  by_cases q : j = k
  · rw [if_pos (by omega)]
    exact ⟨fun z => absurd (i32_or0 z).2 h9.2, fun z => absurd q z.2⟩
  · rw [if_neg (by omega), Int32.or_zero]
    exact ⟨fun z => ⟨z, q⟩, fun z => z.1⟩
def TBr (t u : Int) : Prop := ∀ k, 1 ≤ k → k ≤ 6 → (tbit t k ↔ ¬ bAnd u (bShl 1 (k - 1)) = 0)
theorem tr_0 : TBr 0 0 := by
  intro k h1 h2
  have e1 : ¬ tbit 0 k := by
    rw [tb_1, show Int32.ofInt 0 = 0 by decide, Int32.zero_shiftRight]
    decide
  have e2 : bAnd 0 (bShl 1 (k - 1)) = 0 := by
    rw [an_0, show Int32.ofInt 0 = 0 by decide, Int32.zero_and]
  exact ⟨fun z => absurd z e1, fun z => absurd e2 z⟩
theorem tr_s {t u j : Int} (h : TBr t u) (hj : 1 ≤ j ∧ j ≤ 6) : TBr (bOr t (bShl 1 j)) (bOr u (bShl 1 (j - 1))) := by
  intro k h1 h2
  rw [tb_or ⟨by omega, by omega⟩ ⟨h1, h2⟩, mk_or hj ⟨h1, h2⟩, h k h1 h2]
  by_cases q : bAnd u (bShl 1 (k - 1)) = 0
  · by_cases z : j = k
    · exact ⟨fun _ w => w.2 z, fun _ => Or.inr z⟩
    · exact ⟨fun w => w.elim (fun a => absurd q a) (fun a => absurd a z), fun w => absurd ⟨q, z⟩ w⟩
  · exact ⟨fun _ w => q w.1, fun _ => Or.inl q⟩
theorem tr_k {t u j : Int} (h : TBr t u) (hj : j = 0 ∨ (7 ≤ j ∧ j ≤ 11)) : TBr (bOr t (bShl 1 j)) u := by
  intro k h1 h2
  rw [tb_or ⟨by omega, by omega⟩ ⟨h1, h2⟩, h k h1 h2]
  exact ⟨fun w => w.elim id (fun a => by omega), fun w => Or.inl w⟩
theorem bl_c : ∀ j : Fin 12, ¬ Int32.ofInt (bShl 1 (j.val : Int)) = 0 := by decide +kernel
theorem or_ne {t j : Int} (hj : 0 ≤ j ∧ j ≤ 11) : ¬ bOr t (bShl 1 j) = 0 := by
  intro h
  have h1 : Int32.ofInt (bOr t (bShl 1 j)) = 0 := by rw [h]; decide
  rw [ofI_or] at h1
  have h9 := bl_c ⟨j.toNat, by omega⟩
  simp only at h9
  rw [show ((j.toNat : Nat) : Int) = j by omega] at h9
  exact h9 (i32_or0 h1).2
/-! settings, things, rules -/
theorem nv_b {T : Int → Int} {n b b1 s0 s e k w v g s1 r : Int} (hN : Nvr b r (dv T s1 (en T n s1))) (ht : CT T n b1 s e k w v g) (hs : s1 = sk T n e) (h : b = 0 → s = s0) : Nvr b r (dv T (nx T n s0) (en T n (nx T n s0))) := by
  intro z
  have h1 := ad_nx ht hs
  rw [h z] at h1
  rw [← h1]
  exact hN z
def tlF (u m s : Int) : Int × Int := if bAnd u m = 0 then (0, s) else (5, s)
def seF (T : Int → Int) (n u m l t s : Int) : Int × Int := bd (tlF u m s) (fun s => numF T n l t (nx T n s))
theorem tl_y {u m b p s x : Int} (hx : x = bAnd u m) (h : x = 0) : val b p s = bd (val b p s) (tlF u m) := fc_id (fun _ => if_pos (hx.symm.trans h))
theorem tl_n {u m b p s x : Int} {w : Int × Int} (hx : x = bAnd u m) (h : ¬ x = 0) (hv : w = bd (val b p s) (fun s => (5, s))) : w = bd (val b p s) (tlF u m) := fc_eq hv (fun _ => (if_neg (fun z => h (hx.trans z))).symm)
theorem ad_2 {T : Int → Int} {n : Int} {F G : Int → Int × Int} {w0 w1 w2 w3 : Int × Int} (h1 : w1 = bd w0 F) (h2 : w2 = bd w1 (adF T n)) (h3 : w3 = bd w2 G) : w3 = bd w0 (fun s => bd (F s) (fun s => G (nx T n s))) := by
  rw [h3, h2, h1, bd_bd, bd_bd]
  rfl
def fiF (f s : Int) : Int × Int := if f = 0 then (4, s) else (0, s)
def rbF (T : Int → Int) (n f s : Int) : Int × Int := bd (fiF f s) (fun s => numF T n 1 11 (nx T n s))
theorem fi_y {f b p s : Int} (h : ¬ f = 0) : val b p s = bd (val b p s) (fiF f) := fc_id (fun _ => if_neg h)
theorem fi_n {f b p s : Int} {w : Int × Int} (h : f = 0) (hv : w = bd (val b p s) (fun s => (4, s))) : w = bd (val b p s) (fiF f) := fc_eq hv (fun _ => (if_pos h).symm)
def fuF (m x s : Int) : Int × Int := if m ≤ x then (2, s) else (0, s)
theorem fu_y {m x b p s : Int} (h : x < m) : val b p s = bd (val b p s) (fuF m x) := fc_id (fun _ => if_neg (by omega))
theorem fu_n {m x b p s : Int} {w : Int × Int} (h : m ≤ x) (hv : w = bd (val b p s) (fun s => (2, s))) : w = bd (val b p s) (fuF m x) := fc_eq hv (fun _ => (if_pos h).symm)
def trF (T : Int → Int) (n bo what th s : Int) : Int × Int := bd (fuF 7 th s) (fun s => thF T n bo what (nx T n s))
def ruF2 (T : Int → Int) (n ru s : Int) : Int × Int := bd (fuF 4 ru s) (fun s => exF T n 6 (nx T n s))
theorem tr_f {T : Int → Int} {n bo what th b p s : Int} {w : Int × Int} (h : 7 ≤ th) (hv : w = bd (val b p s) (fun s => (2, s))) : w = bd (val b p s) (trF T n bo what th) := fc_eq hv (fun _ => by
  unfold trF fuF
  rw [if_pos h]
  rfl)
theorem tr_g {T : Int → Int} {n bo what th b p s : Int} {w w1 : Int × Int} (h : th < 7) (h1 : w1 = bd (val b p s) (adF T n)) (hv : w = bd w1 (thF T n bo what)) : w = bd (val b p s) (trF T n bo what th) := by
  rw [hv, h1, bd_bd]
  refine bv_eq (fun _ => ?_)
  unfold trF fuF
  rw [if_neg (by omega)]
  rfl
theorem tw_n {T : Int → Int} {n bo what b p s e k w v g : Int} {X : Int × Int} (h : X = bd (val b p s) (toF T n bo what)) (ht : CT T n b s e k w v g) (hw : ¬ what = 2) (hn : ¬ w = 12) : val b p s = X := (h.trans (bv_id (fun _ => by
  unfold toF
  rw [if_neg hw, if_neg (fun z => hn (ht.1.2.2.1.trans ((isWd_C 19 (by decide)).mp z)))]))).symm
theorem tw_t {T : Int → Int} {n bo what b p s e k w v g s1 : Int} {X y : Int × Int} (h : X = bd (val b p s) (toF T n bo what)) (ht : CT T n b s e k w v g) (hw : ¬ what = 2) (hn : w = 12) (hs : s1 = sk T n e) (hv : y = bd (val b p s1) (numF T n 0 bo)) : y = X := by
  have h9 : isWd T n 19 s := (isWd_C 19 (by decide)).mpr (ht.1.2.2.1.symm.trans hn)
  rw [h, hv, fc_adv (p := p) ht hs, bd_bd]
  refine bv_eq (fun _ => ?_)
  unfold toF
  rw [if_neg hw, if_pos h9]
  rfl
/-! the clause -/
theorem sw_t : ∀ w : Fin 24, swZ w.val = (if (w.val : Int) ≤ 10 then (w.val : Int) else if (w.val : Int) = 13 then 11 else -1) + 1 := by decide +kernel
theorem sw_k {T : Int → Int} {n s w z : Int} (hw : w = cw T n s) (hz : z = swZ w.toNat) : kC T n s = z - 1 := by
  have hr := cw_r (T := T) (n := n) (s := s)
  have h9 := sw_t ⟨w.toNat, by omega⟩
  simp only at h9
  rw [show ((w.toNat : Nat) : Int) = w by omega] at h9
  rw [hz, h9, hw]
  unfold kC
  omega
def clB (T : Int → Int) (n t th ru bo s : Int) : Int × Int := bd (hdK (kC T n s) t th ru s) (fun s' => bodyF T n (kC T n s) bo (nx T n s'))
theorem cl_B {T : Int → Int} {n t th ru bo s : Int} : clF T n t th ru bo s = bd (clB T n t th ru bo s) (mkF T n 59) := by
  unfold clF clB
  rw [clK_hd, bd_bd]
theorem cbx_end {T : Int → Int} {n t th ru bo b p s : Int} {w1 w2 : Int × Int} (h1 : w1 = bd (val b p s) (clB T n t th ru bo)) (h2 : w2 = bd w1 (mkF T n 59)) : w2 = bd (val b p s) (clF T n t th ru bo) := by
  rw [h2, h1, bd_bd]
  exact bv_eq (fun _ => cl_B.symm)
theorem cb_of {T : Int → Int} {n t th ru bo b p s kk : Int} {G : Int → Int × Int} {w : Int × Int} (hk : kC T n s = kk) (hv : w = bd (val b p s) G) (h : G s = bd (hdK kk t th ru s) (fun s' => bodyF T n kk bo (nx T n s'))) : w = bd (val b p s) (clB T n t th ru bo) := fc_eq hv (fun _ => by
  unfold clB
  rw [hk]
  exact h)
theorem cb_m {T : Int → Int} {n t th ru bo b p s kk : Int} {w : Int × Int} (hk : kC T n s = kk) (h1 : kk = -1) (hv : w = bd (val b p s) (fun s => (1, s))) : w = bd (val b p s) (clB T n t th ru bo) := cb_of hk hv (by
  unfold hdK
  rw [if_pos h1]
  rfl)
theorem cb_b {T : Int → Int} {n t th ru bo b p s kk f : Int} {w : Int × Int} (hk : kC T n s = kk) (h1 : kk = 0) (hf : (f = 1 ∧ t = 0) ∨ (f = 0 ∧ ¬ t = 0)) (hv : w = bd (val b p s) (rbF T n f)) : w = bd (val b p s) (clB T n t th ru bo) := cb_of hk hv (by
  subst h1
  have hb : bodyF T n 0 bo = numF T n 1 11 := by
    funext z
    unfold bodyF
    rw [if_pos (by omega)]
    rfl
  unfold rbF fiF hdK
  rw [hb]
  rcases hf with q | q
  · have h3 : ¬ ((0 : Int) < 7 ∧ tbit t 0) := fun z => by
      have h4 := z.2
      rw [q.2] at h4
      exact absurd h4 (by decide +kernel)
    rw [if_neg (show ¬ f = 0 by omega), if_neg (show ¬ (0 : Int) = -1 by decide), if_neg (show ¬ ((0 : Int) = 0 ∧ ¬ t = 0) by omega), if_neg h3, if_neg (show ¬ ((7 ≤ (0 : Int) ∧ (0 : Int) ≤ 10 ∧ th = 7) ∨ ((0 : Int) = 11 ∧ ru = 4)) by omega)]
  · rw [if_pos q.1, if_neg (show ¬ (0 : Int) = -1 by decide), if_pos (show (0 : Int) = 0 ∧ ¬ t = 0 from ⟨rfl, q.2⟩)])
theorem cb_s {T : Int → Int} {n t th ru bo b p s kk u m l hi : Int} {w : Int × Int} (hk : kC T n s = kk) (h1 : 1 ≤ kk) (h6 : kk ≤ 6) (hB : TBr t u) (hm : m = bShl 1 (kk - 1)) (hl : l = loK kk) (hh : hi = hiK kk bo) (hv : w = bd (val b p s) (seF T n u m l hi)) : w = bd (val b p s) (clB T n t th ru bo) := cb_of hk hv (by
  have hb : bodyF T n kk bo = numF T n l hi := by
    funext z
    unfold bodyF
    rw [if_pos (by omega), hl, hh]
  have h9 := hB kk h1 h6
  rw [← hm] at h9
  unfold seF tlF hdK
  rw [hb, if_neg (show ¬ kk = -1 by omega), if_neg (show ¬ (kk = 0 ∧ ¬ t = 0) by omega)]
  by_cases q : bAnd u m = 0
  · rw [if_pos q, if_neg (fun z => h9.mp z.2 q), if_neg (by omega)]
  · rw [if_neg q, if_pos ⟨by omega, h9.mpr q⟩])
theorem cb_t {T : Int → Int} {n t th ru bo b p s kk x : Int} {w : Int × Int} (hk : kC T n s = kk) (h1 : 7 ≤ kk) (h6 : kk ≤ 10) (hx : x = kk - 7) (ht : th ≤ 7) (hv : w = bd (val b p s) (trF T n bo x th)) : w = bd (val b p s) (clB T n t th ru bo) := cb_of hk hv (by
  have hb : bodyF T n kk bo = thF T n bo x := by
    funext z
    unfold bodyF
    rw [if_neg (by omega), if_pos (by omega), hx]
  unfold trF fuF hdK
  rw [hb, if_neg (show ¬ kk = -1 by omega), if_neg (show ¬ (kk = 0 ∧ ¬ t = 0) by omega), if_neg (show ¬ (kk < 7 ∧ tbit t kk) from fun z => by have := z.1; omega)]
  by_cases q : 7 ≤ th
  · rw [if_pos q, if_pos (Or.inl ⟨h1, h6, by omega⟩)]
  · rw [if_neg q, if_neg (by omega)])
theorem cb_r {T : Int → Int} {n t th ru bo b p s kk : Int} {w : Int × Int} (hk : kC T n s = kk) (h1 : kk = 11) (hr : ru ≤ 4) (hv : w = bd (val b p s) (ruF2 T n ru)) : w = bd (val b p s) (clB T n t th ru bo) := cb_of hk hv (by
  have hb : bodyF T n kk bo = exF T n 6 := by
    funext z
    unfold bodyF
    rw [if_neg (by omega), if_neg (by omega)]
  unfold ruF2 fuF hdK
  rw [hb, if_neg (show ¬ kk = -1 by omega), if_neg (show ¬ (kk = 0 ∧ ¬ t = 0) by omega), if_neg (show ¬ (kk < 7 ∧ tbit t kk) from fun z => by have := z.1; omega)]
  by_cases q : 4 ≤ ru
  · rw [if_pos q, if_pos (Or.inr ⟨h1, by omega⟩)]
  · rw [if_neg q, if_neg (by omega)])
/-- what a clause without a fault changes in the class -/
def CV (T : Int → Int) (n b s t th ru bo u' th' ru' bo' : Int) : Prop := b = 0 → TBr (bOr t (bShl 1 (kC T n s))) u' ∧ th' = thN (kC T n s) th ∧ ru' = ruN (kC T n s) ru ∧ bo' = boN T n (kC T n s) bo s ∧ 0 ≤ kC T n s ∧ kC T n s ≤ 11
theorem cv_no {T : Int → Int} {n b s t th ru bo u' th' ru' bo' : Int} (h : ¬ b = 0) : CV T n b s t th ru bo u' th' ru' bo' := fun z => absurd z h
theorem cv_mo {T : Int → Int} {n b b1 s t th ru bo u' th' ru' bo' : Int} (h : CV T n b s t th ru bo u' th' ru' bo') (hb : b1 = 0 → b = 0) : CV T n b1 s t th ru bo u' th' ru' bo' := fun z => h (hb z)
theorem cv_b {T : Int → Int} {n b s t th ru bo u u' th' ru' bo' kk : Int} (hk : kC T n s = kk) (h1 : kk = 0) (hB : TBr t u) (hu : u' = u) (hth : th' = th) (hru : ru' = ru) (hN : Nvr b bo' (dv T (nx T n s) (en T n (nx T n s)))) : CV T n b s t th ru bo u' th' ru' bo' := by
  intro z
  rw [hk]
  subst h1 hu
  refine ⟨tr_k hB (Or.inl rfl), ?_, ?_, ?_, by omega, by omega⟩
  · unfold thN; rw [if_neg (by omega)]; exact hth
  · unfold ruN; rw [if_neg (by omega)]; exact hru
  · unfold boN; rw [if_pos rfl]; exact hN z
theorem cv_s {T : Int → Int} {n b s t th ru bo u u' th' ru' bo' kk m : Int} (hk : kC T n s = kk) (h1 : 1 ≤ kk) (h6 : kk ≤ 6) (hB : TBr t u) (hm : m = bShl 1 (kk - 1)) (hu : u' = bOr u m) (hth : th' = th) (hru : ru' = ru) (hbo : bo' = bo) : CV T n b s t th ru bo u' th' ru' bo' := by
  intro z
  rw [hk]
  refine ⟨?_, ?_, ?_, ?_, by omega, by omega⟩
  · rw [hu, hm]; exact tr_s hB ⟨h1, h6⟩
  · unfold thN; rw [if_neg (by omega)]; exact hth
  · unfold ruN; rw [if_neg (by omega)]; exact hru
  · unfold boN; rw [if_neg (by omega)]; exact hbo
theorem cv_t {T : Int → Int} {n b s t th ru bo u u' th' ru' bo' kk : Int} (hk : kC T n s = kk) (h1 : 7 ≤ kk) (h6 : kk ≤ 10) (hB : TBr t u) (hu : u' = u) (hth : b = 0 → th' = th + 1) (hru : ru' = ru) (hbo : bo' = bo) : CV T n b s t th ru bo u' th' ru' bo' := by
  intro z
  rw [hk]
  refine ⟨?_, ?_, ?_, ?_, by omega, by omega⟩
  · rw [hu]; exact tr_k hB (Or.inr ⟨h1, by omega⟩)
  · unfold thN; rw [if_pos ⟨h1, h6⟩]; exact hth z
  · unfold ruN; rw [if_neg (by omega)]; exact hru
  · unfold boN; rw [if_neg (by omega)]; exact hbo
theorem cv_r {T : Int → Int} {n b s t th ru bo u u' th' ru' bo' kk : Int} (hk : kC T n s = kk) (h1 : kk = 11) (hB : TBr t u) (hu : u' = u) (hth : th' = th) (hru : b = 0 → ru' = ru + 1) (hbo : bo' = bo) : CV T n b s t th ru bo u' th' ru' bo' := by
  intro z
  rw [hk]
  refine ⟨?_, ?_, ?_, ?_, by omega, by omega⟩
  · rw [hu]; exact tr_k hB (Or.inr ⟨by omega, by omega⟩)
  · unfold thN; rw [if_neg (by omega)]; exact hth
  · unfold ruN; rw [if_pos h1]; exact hru z
  · unfold boN; rw [if_neg (by omega)]; exact hbo
/-! the whole text -/
def RdI (T : Int → Int) (n b p s u i th ru bo : Int) (X : Int × Int) : Prop := ∃ t : Int, (b = 0 → TBr t u) ∧ (t = 0 ↔ i = 0) ∧ X = bd (val b p s) (twF T n ((600 : Int) - i).toNat t th ru bo)
theorem rd_i {T : Int → Int} {n b p s u i th ru bo : Int} (hb : b = 0) (hs : s = sk T n 0) (hu : u = 0) (hi : i = 0) (h1 : th = 0) (h2 : ru = 0) (h3 : bo = 1) : RdI T n b p s u i th ru bo (bd ((0 : Int), sk T n 0) (twF T n 600 0 0 0 1)) := by
  subst hb hs hu hi h1 h2 h3
  exact ⟨0, fun _ => tr_0, ⟨fun _ => rfl, fun _ => rfl⟩, rfl⟩
theorem rd_s {T : Int → Int} {n b p s u i th ru bo b' p' s' u' i' th' ru' bo' t : Int} {X : Int × Int} (h0 : 0 ≤ i) (hi : i < 600) (hi' : i' = i + 1) (hb : b = 0) (hl : s < n) (hX : X = bd (val b p s) (twF T n ((600 : Int) - i).toNat t th ru bo)) (hv : val b' p' s' = bd (val b p s) (clF T n t th ru bo)) (hc : CV T n b' s t th ru bo u' th' ru' bo') : RdI T n b' p' s' u' i' th' ru' bo' X := by
  have e0 : ((600 : Int) - i).toNat = ((600 : Int) - i').toNat + 1 := by omega
  have e1 : twF T n (((600 : Int) - i').toNat + 1) t th ru bo s = bd (clF T n t th ru bo s) (twF T n ((600 : Int) - i').toNat (bOr t (bShl 1 (kC T n s))) (thN (kC T n s) th) (ruN (kC T n s) ru) (boN T n (kC T n s) bo s)) := if_pos hl
  rw [e0, bv_ok hb, e1] at hX
  rw [bv_ok hb] at hv
  rw [← hv] at hX
  by_cases z : b' = 0
  · obtain ⟨c1, c2, c3, c4, c5, c6⟩ := hc z
    refine ⟨bOr t (bShl 1 (kC T n s)), fun _ => c1, ⟨fun q => absurd q (or_ne ⟨c5, c6⟩), fun q => by omega⟩, ?_⟩
    rw [c2, c3, c4]
    exact hX
  · refine ⟨1, fun q => absurd q z, ⟨fun q => absurd q (by decide), fun q => by omega⟩, ?_⟩
    rw [bv_no z] at hX
    rw [bv_no z]
    exact hX
theorem rd_x {T : Int → Int} {n b p s u i th ru bo : Int} {X : Int × Int} (h : RdI T n b p s u i th ru bo X) (hx : 600 ≤ i ∨ ¬ s < n) : val b p s = X := by
  obtain ⟨t, -, -, hX⟩ := h
  refine (hX.trans (bv_id (fun _ => ?_))).symm
  cases hj : ((600 : Int) - i).toNat with
  | zero => rfl
  | succ j => exact if_neg (hx.resolve_left (by omega))
theorem rd_r {X : Int × Int} {b p s : Int} (h : val b p s = X) : (X.1 = 0 → b = 0) ∧ (¬ X.1 = 0 → b = X.1 ∧ p = X.2) := by
  by_cases z : b = 0
  · rw [val_ok z] at h
    rw [← h]
    exact ⟨fun _ => z, fun q => absurd rfl q⟩
  · rw [val_no z] at h
    rw [← h]
    exact ⟨fun q => absurd q z, fun _ => ⟨rfl, rfl⟩⟩
/-! what is fed -/
def fdU (T : Int → Int) (p a b c d e : Int) : Int → Int := fun t => if p ≤ t ∧ t < p + 20 then bAnd (bShr (if t - p < 4 then a else if t - p < 8 then b else if t - p < 12 then c else if t - p < 16 then d else e) (24 - 8 * ((t - p) % 4))) 255 else T t
theorem by_c : ∀ x : Fin 256, (Int8.ofNat x.val).toInt % 256 = (x.val : Int) := by decide +kernel
