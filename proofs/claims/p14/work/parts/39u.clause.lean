/-! a THING, a clause, a whole text -/
def toF (T : Int → Int) (n bo what s : Int) : Int × Int := if what = 2 then (0, s) else if isWd T n 19 s then numF T n 0 bo (nx T n s) else (0, s)
def th3F (T : Int → Int) (n bo what s : Int) : Int × Int := bd (numF T n 0 bo s) (toF T n bo what)
def th2F (T : Int → Int) (n bo what s : Int) : Int × Int := bd (wdF T n 18 s) (th3F T n bo what)
def thF (T : Int → Int) (n bo what s : Int) : Int × Int := bd (numF T n 1 99 s) (th2F T n bo what)
theorem th_0 {T : Int → Int} {n bo what : Int} {w0 w1 w2 w3 : Int × Int} (e1 : w1 = bd w0 (numF T n 1 99)) (e2 : w2 = bd w1 (wdF T n 18)) (e3 : w3 = bd w2 (numF T n 0 bo)) : bd w0 (thF T n bo what) = bd w3 (toF T n bo what) := by
  rw [e3, e2, e1, bd_bd, bd_bd, bd_bd]
  rfl
theorem th_s {T : Int → Int} {n bo what b p s : Int} {X : Int × Int} (h : X = bd (val b p s) (toF T n bo what)) (hw : what = 2) : val b p s = X := (h.trans (bv_id (fun _ => if_pos hw))).symm
theorem th_n {T : Int → Int} {n bo what b p s r : Int} {X w : Int × Int} (h : X = bd (val b p s) (toF T n bo what)) (hw : ¬ what = 2) (hi : Isr r b (isWd T n 19 s)) (hr : r = 0) (hv : w = bd (val b p s) (mayF T n 19)) : w = X := by
  rw [h, hv]
  refine bv_eq (fun hb => ?_)
  have e1 : mayF T n 19 s = (0, s) := if_neg (isr_n hi hr hb)
  rw [e1]
  unfold toF
  rw [if_neg hw, if_neg (isr_n hi hr hb)]
theorem th_t {T : Int → Int} {n bo what b p s r : Int} {X w w' : Int × Int} (h : X = bd (val b p s) (toF T n bo what)) (hw : ¬ what = 2) (hi : Isr r b (isWd T n 19 s)) (hr : ¬ r = 0) (hv : w = bd (val b p s) (mayF T n 19)) (hn : w' = bd w (numF T n 0 bo)) : w' = X := by
  obtain ⟨hb, hx⟩ := isr_y hi hr
  rw [h, hn, hv, bv_ok hb, bv_ok hb]
  have e1 : mayF T n 19 s = (0, nx T n s) := if_pos hx
  rw [e1]
  unfold toF
  rw [if_neg hw, if_pos hx]
  rfl
/-- the clause that begins here: 0 to 11, -1 for none -/
def kC (T : Int → Int) (n s : Int) : Int := if cw T n s ≤ 10 then cw T n s else if cw T n s = 13 then 11 else -1
theorem cwB_r {T : Int → Int} {n s : Int} : ∀ k : Nat, k ≤ 23 → 0 ≤ cwB T n s k ∧ cwB T n s k ≤ 23 := by
  intro k
  induction k with
  | zero => intro _; exact ⟨by show (0 : Int) ≤ 23; decide, by show (23 : Int) ≤ 23; decide⟩
  | succ k ih =>
    intro hk
    by_cases q : isWd T n (23 + k) s
    · have e : cwB T n s (k + 1) = (k : Int) := if_pos q
      rw [e]; omega
    · have e : cwB T n s (k + 1) = cwB T n s k := if_neg q
      rw [e]; exact ih (by omega)
theorem cw_r {T : Int → Int} {n s : Int} : 0 ≤ cw T n s ∧ cw T n s ≤ 23 := cwB_r 23 (by omega)
theorem wdC_cl : ∀ a : Fin 11, wdC a.val = a.val := by decide
theorem kC_of {T : Int → Int} {n b s r : Int} (hb : b = 0) (h : Wh T n b s ixC 12 r) (h0 : -1 ≤ r) (h1 : r < 12) : kC T n s = r := by
  have hr := cw_r (T := T) (n := n) (s := s)
  by_cases z : 0 ≤ r
  · have h9 : isWd T n r.toNat s := (h.2 z).2
    have e9 := (isWd_C r.toNat (by omega)).mp h9
    by_cases q : r < 11
    · have e8 : wdC r.toNat = r.toNat := wdC_cl ⟨r.toNat, by omega⟩
      rw [e8] at e9
      unfold kC
      rw [if_pos (by omega)]
      omega
    · have e8 : r = 11 := by omega
      subst e8
      have e9 : cw T n s = 13 := e9
      unfold kC
      rw [if_neg (by omega), if_pos e9]
  · have e8 : r = -1 := by omega
    have h9 := h.1 e8
    unfold kC
    by_cases q : cw T n s ≤ 10
    · exfalso
      have e7 : wdC (cw T n s).toNat = (cw T n s).toNat := wdC_cl ⟨(cw T n s).toNat, by omega⟩
      exact h9 (cw T n s).toNat (by omega) ⟨hb, (isWd_C (cw T n s).toNat (by omega)).mpr (by rw [e7]; omega)⟩
    · rw [if_neg q]
      by_cases q2 : cw T n s = 13
      · exfalso
        exact h9 11 (by decide) ⟨hb, (isWd_C 11 (by decide)).mpr q2⟩
      · rw [if_neg q2]
        exact e8.symm
def loK (k : Int) : Int := if k = 0 ∨ k = 2 then 1 else 0
def hiK (k bo : Int) : Int := if k = 0 then 11 else if k = 1 then bo else if k = 3 then 9 else if k = 4 then 99 else 999
def bodyF (T : Int → Int) (n k bo s : Int) : Int × Int := if k < 7 then numF T n (loK k) (hiK k bo) s else if k < 11 then thF T n bo (k - 7) s else exF T n 6 s
abbrev tbit (t k : Int) : Prop := bAnd (bShr t k) 1 = 1
def clK (T : Int → Int) (n k t th ru bo s : Int) : Int × Int := if k = -1 then (1, s) else if k = 0 ∧ ¬ t = 0 then (4, s) else if k < 7 ∧ tbit t k then (5, s) else if (7 ≤ k ∧ k ≤ 10 ∧ th = 7) ∨ (k = 11 ∧ ru = 4) then (2, s) else bd (bodyF T n k bo (nx T n s)) (mkF T n 59)
def clF (T : Int → Int) (n t th ru bo s : Int) : Int × Int := clK T n (kC T n s) t th ru bo s
def boN (T : Int → Int) (n k bo s : Int) : Int := if k = 0 then dv T (nx T n s) (en T n (nx T n s)) else bo
def thN (k th : Int) : Int := if 7 ≤ k ∧ k ≤ 10 then th + 1 else th
def ruN (k ru : Int) : Int := if k = 11 then ru + 1 else ru
def twF (T : Int → Int) (n : Int) : Nat → Int → Int → Int → Int → Int → Int × Int
  | 0, _, _, _, _, s => (0, s)
  | f + 1, t, th, ru, bo, s => if s < n then bd (clF T n t th ru bo s) (twF T n f (bOr t (bShl 1 (kC T n s))) (thN (kC T n s) th) (ruN (kC T n s) ru) (boN T n (kC T n s) bo s)) else (0, s)
/-- the clause's first look -/
def hdK (k t th ru s : Int) : Int × Int := if k = -1 then (1, s) else if k = 0 ∧ ¬ t = 0 then (4, s) else if k < 7 ∧ tbit t k then (5, s) else if (7 ≤ k ∧ k ≤ 10 ∧ th = 7) ∨ (k = 11 ∧ ru = 4) then (2, s) else (0, s)
theorem clK_hd {T : Int → Int} {n k t th ru bo s : Int} : clK T n k t th ru bo s = bd (hdK k t th ru s) (fun s => bd (bodyF T n k bo (nx T n s)) (mkF T n 59)) := by
  unfold clK hdK
  by_cases h1 : k = -1
  · rw [if_pos h1, if_pos h1]; rfl
  · rw [if_neg h1, if_neg h1]
    by_cases h2 : k = 0 ∧ ¬ t = 0
    · rw [if_pos h2, if_pos h2]; rfl
    · rw [if_neg h2, if_neg h2]
      by_cases h3 : k < 7 ∧ tbit t k
      · rw [if_pos h3, if_pos h3]; rfl
      · rw [if_neg h3, if_neg h3]
        by_cases h4 : (7 ≤ k ∧ k ≤ 10 ∧ th = 7) ∨ (k = 11 ∧ ru = 4)
        · rw [if_pos h4, if_pos h4]; rfl
        · rw [if_neg h4, if_neg h4]; rfl
theorem hd_1 {b p s k t th ru b' p' : Int} (h1 : k = -1) (hv : val b' p' s = bd (val b p s) (fun s => (1, s))) : val b' p' s = bd (val b p s) (hdK k t th ru) := by
  rw [hv]
  exact bv_eq (fun _ => (if_pos h1).symm)
theorem hd_4 {b p s k t th ru b' p' : Int} (h2 : k = 0) (ht : ¬ t = 0) (hv : val b' p' s = bd (val b p s) (fun s => (4, s))) : val b' p' s = bd (val b p s) (hdK k t th ru) := by
  rw [hv]
  refine bv_eq (fun _ => ?_)
  unfold hdK
  rw [if_neg (by omega), if_pos ⟨h2, ht⟩]
theorem hd_5 {b p s k t th ru b' p' x : Int} (h0 : 0 ≤ k) (h2 : k < 7) (h1 : ¬ (k = 0 ∧ ¬ t = 0)) (hx : x = bAnd (bShr t k) 1) (hx1 : x = 1) (hv : val b' p' s = bd (val b p s) (fun s => (5, s))) : val b' p' s = bd (val b p s) (hdK k t th ru) := by
  rw [hv]
  refine bv_eq (fun _ => ?_)
  unfold hdK
  rw [if_neg (by omega), if_neg h1, if_pos ⟨h2, hx.symm.trans hx1⟩]
theorem hd_2 {b p s k t th ru b' p' : Int} (h0 : 7 ≤ k) (h4 : (7 ≤ k ∧ k ≤ 10 ∧ th = 7) ∨ (k = 11 ∧ ru = 4)) (hv : val b' p' s = bd (val b p s) (fun s => (2, s))) : val b' p' s = bd (val b p s) (hdK k t th ru) := by
  rw [hv]
  refine bv_eq (fun _ => ?_)
  unfold hdK
  rw [if_neg (by omega), if_neg (by omega), if_neg (fun z => by have := z.1; omega), if_pos h4]
theorem hd_0 {b p s k t th ru : Int} (h0 : 0 ≤ k) (h1 : ¬ (k = 0 ∧ ¬ t = 0)) (h3 : ¬ (k < 7 ∧ tbit t k)) (h4 : ¬ ((7 ≤ k ∧ k ≤ 10 ∧ th = 7) ∨ (k = 11 ∧ ru = 4))) : val b p s = bd (val b p s) (hdK k t th ru) := by
  refine (bv_id (fun _ => ?_)).symm
  unfold hdK
  rw [if_neg (by omega), if_neg h1, if_neg h3, if_neg h4]
theorem tb_no {t k x : Int} (hx : x = bAnd (bShr t k) 1) (hn : ¬ x = 1) : ¬ (k < 7 ∧ tbit t k) := fun z => hn (hx.trans z.2)
theorem tb_ge {t k : Int} (h : 7 ≤ k) : ¬ (k < 7 ∧ tbit t k) := fun z => by have := z.1; omega
/-- the clause as a whole -/
theorem cl_bad {T : Int → Int} {n b p s k t th ru bo b' p' : Int} (hk : kC T n s = k) (hh : val b' p' s = bd (val b p s) (hdK k t th ru)) (hb' : ¬ b' = 0) : val b' p' s = bd (val b p s) (clF T n t th ru bo) := by
  have e9 : bd (val b p s) (clF T n t th ru bo) = bd (val b p s) (fun s => clK T n k t th ru bo s) := bv_eq (fun _ => by unfold clF; rw [hk])
  have e8 : bd (val b p s) (fun s => clK T n k t th ru bo s) = bd (bd (val b p s) (hdK k t th ru)) (fun s => bd (bodyF T n k bo (nx T n s)) (mkF T n 59)) := by
    rw [bd_bd]
    exact bv_eq (fun _ => clK_hd)
  rw [e9, e8, ← hh, bv_no hb']
theorem cl_go {T : Int → Int} {n b p s b1 p1 e kk v a s1 k t th ru bo : Int} {w1 w2 : Int × Int} (hk : kC T n s = k) (hb : b1 = 0) (hh : val b1 p1 s = bd (val b p s) (hdK k t th ru)) (ht : TS T n b1 s e kk v) (hs : s1 = sk T n a) (ha : a = e) (e1 : w1 = bd (val b1 p1 s1) (bodyF T n k bo)) (e2 : w2 = bd w1 (mkF T n 59)) : w2 = bd (val b p s) (clF T n t th ru bo) := by
  have e9 : bd (val b p s) (clF T n t th ru bo) = bd (val b p s) (fun s => clK T n k t th ru bo s) := bv_eq (fun _ => by unfold clF; rw [hk])
  have e8 : bd (val b p s) (fun s => clK T n k t th ru bo s) = bd (bd (val b p s) (hdK k t th ru)) (fun s => bd (bodyF T n k bo (nx T n s)) (mkF T n 59)) := by
    rw [bd_bd]
    exact bv_eq (fun _ => clK_hd)
  rw [e9, e8, ← hh, bv_ok hb, e2, e1, bv_ok hb, nx_of hb ht hs ha]
theorem body_n {T : Int → Int} {n k bo l t : Int} {w w1 : Int × Int} (hk : k < 7) (hl : l = loK k) (ht : t = hiK k bo) (h : w1 = bd w (numF T n l t)) : w1 = bd w (bodyF T n k bo) := by
  have e9 : bodyF T n k bo = numF T n l t := by
    funext s
    unfold bodyF
    rw [if_pos hk, hl, ht]
  rw [e9, h]
theorem body_t {T : Int → Int} {n k bo x : Int} {w w1 : Int × Int} (h7 : 7 ≤ k) (hk : k < 11) (hx : x = k - 7) (h : w1 = bd w (thF T n bo x)) : w1 = bd w (bodyF T n k bo) := by
  have e9 : bodyF T n k bo = thF T n bo x := by
    funext s
    unfold bodyF
    rw [if_neg (by omega), if_pos hk, hx]
  rw [e9, h]
theorem body_r {T : Int → Int} {n k bo : Int} {w w1 : Int × Int} (hk : 11 ≤ k) (h : w1 = bd w (exF T n 6)) : w1 = bd w (bodyF T n k bo) := by
  have e9 : bodyF T n k bo = exF T n 6 := by
    funext s
    unfold bodyF
    rw [if_neg (by omega), if_neg (by omega)]
  rw [e9, h]
/-- what a clause without a fault changes -/
def CU (T : Int → Int) (n b s t th ru bo t' th' ru' bo' : Int) : Prop := b = 0 → t' = bOr t (bShl 1 (kC T n s)) ∧ th' = thN (kC T n s) th ∧ ru' = ruN (kC T n s) ru ∧ bo' = boN T n (kC T n s) bo s
theorem cu_no {T : Int → Int} {n b s t th ru bo t' th' ru' bo' : Int} (h : ¬ b = 0) : CU T n b s t th ru bo t' th' ru' bo' := fun z => absurd z h
theorem ok_clK {T : Int → Int} {n k t th ru bo s : Int} (hs : s ≤ n) (h : (clF T n t th ru bo s).1 = 0) (hl : s < n) : s < (clF T n t th ru bo s).2 ∧ (clF T n t th ru bo s).2 ≤ n := by
  unfold clF at h ⊢
  rw [clK_hd] at h ⊢
  have hh : (hdK (kC T n s) t th ru s).1 = 0 → hdK (kC T n s) t th ru s = (0, s) := by
    unfold hdK
    intro q
    by_cases h1 : kC T n s = -1
    · rw [if_pos h1] at q; exact absurd q (by show ¬ (1 : Int) = 0; decide)
    · rw [if_neg h1] at q ⊢
      by_cases h2 : kC T n s = 0 ∧ ¬ t = 0
      · rw [if_pos h2] at q; exact absurd q (by show ¬ (4 : Int) = 0; decide)
      · rw [if_neg h2] at q ⊢
        by_cases h3 : kC T n s < 7 ∧ tbit t (kC T n s)
        · rw [if_pos h3] at q; exact absurd q (by show ¬ (5 : Int) = 0; decide)
        · rw [if_neg h3] at q ⊢
          by_cases h4 : (7 ≤ kC T n s ∧ kC T n s ≤ 10 ∧ th = 7) ∨ (kC T n s = 11 ∧ ru = 4)
          · rw [if_pos h4] at q; exact absurd q (by show ¬ (2 : Int) = 0; decide)
          · rw [if_neg h4]
  by_cases z : (hdK (kC T n s) t th ru s).1 = 0
  · rw [hh z] at h ⊢
    have hx := nx_gt (T := T) hl
    have okb : okF n (bodyF T n (kC T n s) bo) := by
      intro s' hs' h'
      unfold bodyF at h' ⊢
      by_cases q1 : kC T n s < 7
      · rw [if_pos q1] at h' ⊢; exact ok_num s' hs' h'
      · rw [if_neg q1] at h' ⊢
        by_cases q2 : kC T n s < 11
        · rw [if_pos q2] at h' ⊢
          refine ok_bd (fun z => ok_num s' hs' z) (fun s1 h1 h2 => ok_bd (fun z => ok_wd s1 h1 z) (fun s2 h3 h4 => ok_bd (fun z => ok_num s2 h3 z) (fun s3 h5 h6 => ?_) h4) h2) h'
          unfold toF at h6 ⊢
          by_cases q3 : kC T n s - 7 = 2
          · rw [if_pos q3]; exact ⟨Int.le_refl _, h5⟩
          · rw [if_neg q3] at h6 ⊢
            by_cases q4 : isWd T n 19 s3
            · rw [if_pos q4] at h6 ⊢
              have a := nx_gt (T := T) (isWd_lt q4)
              have b := ok_num (nx T n s3) a.2 h6
              omega
            · rw [if_neg q4]; exact ⟨Int.le_refl _, h5⟩
        · rw [if_neg q2] at h' ⊢; exact ok_ex 6 s' hs' h'
    have e9 : bd ((0 : Int), s) (fun s_1 => bd (bodyF T n (kC T n s) bo (nx T n s_1)) (mkF T n 59)) = bd (bodyF T n (kC T n s) bo (nx T n s)) (mkF T n 59) := rfl
    rw [e9] at h ⊢
    have b9 := ok_bd (n := n) (s := nx T n s) (fun z => okb (nx T n s) hx.2 z) ok_mk h
    omega
  · rw [bd_no z] at h
    exact absurd h z
/-- the same for every number of rounds that reaches the end -/
theorem tw_more {T : Int → Int} {n : Int} : ∀ (f : Nat) (t th ru bo s : Int), n - s ≤ f → s ≤ n → twF T n (f + 1) t th ru bo s = twF T n f t th ru bo s := by
  intro f
  induction f with
  | zero =>
    intro t th ru bo s h1 h2
    exact if_neg (by omega)
  | succ f ih =>
    intro t th ru bo s h1 h2
    by_cases q : s < n
    · have e1 : twF T n (f + 1 + 1) t th ru bo s = bd (clF T n t th ru bo s) (twF T n (f + 1) (bOr t (bShl 1 (kC T n s))) (thN (kC T n s) th) (ruN (kC T n s) ru) (boN T n (kC T n s) bo s)) := if_pos q
      have e2 : twF T n (f + 1) t th ru bo s = bd (clF T n t th ru bo s) (twF T n f (bOr t (bShl 1 (kC T n s))) (thN (kC T n s) th) (ruN (kC T n s) ru) (boN T n (kC T n s) bo s)) := if_pos q
      rw [e1, e2]
      by_cases z : (clF T n t th ru bo s).1 = 0
      · rw [bd_ok z, bd_ok z]
        have b := ok_clK (k := 0) h2 z q
        exact ih _ _ _ _ _ (by omega) b.2
      · rw [bd_no z, bd_no z]
    · have e1 : twF T n (f + 1 + 1) t th ru bo s = (0, s) := if_neg q
      have e2 : twF T n (f + 1) t th ru bo s = (0, s) := if_neg q
      rw [e1, e2]
theorem tw_s {T : Int → Int} {n b p s t th ru bo b' p' s' t' th' ru' bo' : Int} {X : Int × Int} (hX : X = bd (val b p s) (twF T n 600 t th ru bo)) (hb : b = 0) (hl : s < n) (h0 : 0 ≤ s) (hn : n ≤ 600) (hv : val b' p' s' = bd (val b p s) (clF T n t th ru bo)) (hc : CU T n b' s t th ru bo t' th' ru' bo') : X = bd (val b' p' s') (twF T n 600 t' th' ru' bo') := by
  rw [hX, bv_ok hb]
  have e1 : twF T n 600 t th ru bo s = bd (clF T n t th ru bo s) (twF T n 599 (bOr t (bShl 1 (kC T n s))) (thN (kC T n s) th) (ruN (kC T n s) ru) (boN T n (kC T n s) bo s)) := if_pos hl
  rw [e1]
  rw [bv_ok hb] at hv
  rw [← hv]
  by_cases z : b' = 0
  · obtain ⟨c1, c2, c3, c4⟩ := hc z
    rw [bv_ok z, bv_ok z, ← c1, ← c2, ← c3, ← c4]
    have hz : (clF T n t th ru bo s).1 = 0 := by rw [← hv, val_ok z]
    have b9 := ok_clK (k := 0) (Int.le_of_lt hl) hz hl
    have e2 : (clF T n t th ru bo s).2 = s' := by rw [← hv, val_ok z]
    rw [e2] at b9
    exact (tw_more 599 _ _ _ _ _ (by omega) b9.2).symm
  · rw [bv_no z, bv_no z]
theorem tw_x {T : Int → Int} {n b p s t th ru bo : Int} {X : Int × Int} (hX : X = bd (val b p s) (twF T n 600 t th ru bo)) (h : b = 0 → ¬ s < n) : val b p s = X := (hX.trans (bv_id (fun hb => if_neg (h hb)))).symm
theorem cu_set {T : Int → Int} {n b s t th ru bo k t' th' ru' bo' v b1 s1 : Int} (hk : kC T n s = k) (h7 : k < 7) (ho : t' = bOr t (bShl 1 k)) (hth : th' = th) (hru : ru' = ru) (h1 : k = 0 → bo' = v) (h2 : ¬ k = 0 → bo' = bo) (hN : Nvr b1 v (dv T s1 (en T n s1))) (hs1 : s1 = nx T n s) (hb : b = 0 → b1 = 0) : CU T n b s t th ru bo t' th' ru' bo' := by
  intro z
  rw [hk]
  refine ⟨ho, ?_, ?_, ?_⟩
  · unfold thN; rw [if_neg (by omega)]; exact hth
  · unfold ruN; rw [if_neg (by omega)]; exact hru
  · unfold boN
    by_cases q : k = 0
    · rw [if_pos q, h1 q, ← hs1]; exact hN (hb z)
    · rw [if_neg q]; exact h2 q
theorem cu_th {T : Int → Int} {n b s t th ru bo k t' th' ru' bo' : Int} (hk : kC T n s = k) (h7 : 7 ≤ k) (h9 : k ≤ 10) (ho : t' = bOr t (bShl 1 k)) (hth : th' = th + 1) (hru : ru' = ru) (hbo : bo' = bo) : CU T n b s t th ru bo t' th' ru' bo' := by
  intro z
  rw [hk]
  refine ⟨ho, ?_, ?_, ?_⟩
  · unfold thN; rw [if_pos ⟨h7, h9⟩]; exact hth
  · unfold ruN; rw [if_neg (by omega)]; exact hru
  · unfold boN; rw [if_neg (by omega)]; exact hbo
theorem cu_ru {T : Int → Int} {n b s t th ru bo k t' th' ru' bo' : Int} (hk : kC T n s = k) (h7 : k = 11) (ho : t' = bOr t (bShl 1 k)) (hth : th' = th) (hru : ru' = ru + 1) (hbo : bo' = bo) : CU T n b s t th ru bo t' th' ru' bo' := by
  intro z
  rw [hk]
  refine ⟨ho, ?_, ?_, ?_⟩
  · unfold thN; rw [if_neg (by omega)]; exact hth
  · unfold ruN; rw [if_pos h7]; exact hru
  · unfold boN; rw [if_neg (by omega)]; exact hbo
theorem tw_i {T : Int → Int} {n p s b bo : Int} (hs : s = sk T n 0) (hb : b = 0) (hbo : bo = 1) : bd ((0 : Int), sk T n 0) (twF T n 600 0 0 0 1) = bd (val b p s) (twF T n 600 0 0 0 bo) := by
  rw [val_ok hb, hs, hbo]
theorem tw_e {T : Int → Int} {n b p s e k v t th ru bo : Int} {X : Int × Int} (hX : X = bd (val b p s) (twF T n 600 t th ru bo)) (ht : TS T n b s e k v) (h : b = 0 → k = 0) : val b p s = X := tw_x hX (fun hb => kd_0.mp ((ht hb).2.1 ▸ h hb))
/-- what town answers -/
def TwR (X : Int × Int) (r fp hi hi' : Int) : Prop := (X.1 = 0 → r = 0 ∧ fp = -1 ∧ hi' = 0) ∧ (¬ X.1 = 0 → r = X.1 ∧ fp = X.2 ∧ hi' = hi)
theorem tw_r1 {X : Int × Int} {b p s r fp hi hi' : Int} (h : val b p s = X) (hb : ¬ b = 0) (hr : r = b) (hf : fp = p) (hh : hi' = hi) : TwR X r fp hi hi' := by
  rw [val_no hb] at h
  rw [← h]
  exact ⟨fun z => absurd z hb, fun _ => ⟨hr, hf, hh⟩⟩
theorem tw_r0 {X : Int × Int} {b p s r fp hi hi' : Int} (h : val b p s = X) (hb : b = 0) (hr : r = 0) (hf : fp = -1) (hh : hi' = 0) : TwR X r fp hi hi' := by
  rw [val_ok hb] at h
  rw [← h]
  exact ⟨fun _ => ⟨hr, hf, hh⟩, fun z => absurd rfl z⟩
def TwP (T : Int → Int) (n fed r c fp hi c' fp' hi' : Int) : Prop := (n < 0 ∨ fed < n → r = 0 ∧ c' = 1 ∧ fp' = fp ∧ hi' = hi) ∧ (0 ≤ n → n ≤ fed → c' = 0 ∧ TwR (bd ((0 : Int), sk T n 0) (twF T n 600 0 0 0 1)) r fp' hi hi')
