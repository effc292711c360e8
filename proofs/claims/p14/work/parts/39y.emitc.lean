/-! rows for the class's parser: what it lays down -/
theorem opr_ne {r : Int} {o : Bool} (h : Opr r o) (ho : o = true) : ¬ r = 0 := fun z => h.2 z ho
def NcP (b r v : Int) : Prop := b = 0 → v = r
theorem em_nx {R : (Int → Int) → Int → List Int → Prop} {T : Int → Int} {n b b1 l0 l s0 s1 s2 e k w v g : Int} {c0 c : Int → Int} {E : Int → List Int} (h : Em R b c0 l0 c l (E s1)) (ht : CT T n b1 s2 e k w v g) (hs : s1 = sk T n e) (h2 : b = 0 → s2 = s0) : Em R b c0 l0 c l (E (nx T n s0)) := em_e h (fun z => by rw [ad_nx ht hs, h2 z])
def EndP (b : Int) (f g : Int → Int) (ru ru' l : Int) : Prop := b = 0 → g = uA f ru l ∧ ru' = ru + 1
theorem tc_no {b i w n s : Int} {T f8 f9 f10 f11 : Int → Int} (h : ¬ b = 0) : ThC b i w T n s f8 f8 f9 f9 f10 f10 f11 f11 := ⟨fun _ _ => ⟨rfl, rfl, rfl, rfl⟩, fun z => absurd z h⟩
theorem thc_x {T : Int → Int} {n bo b0 p0 s s0 e0 k0 w0 v0 g0 bq b1 p1 s1 b2 p2 s2 b3 p3 s3 b' i w c1 c2 a : Int} {f4 g4 f5 g5 f6 g6 f7 g7 : Int → Int} (ht : CT T n bq s0 e0 k0 w0 v0 g0) (hs : s = sk T n e0) (h1 : val b1 p1 s1 = bd (val b0 p0 s) (numF T n 1 99)) (h2 : val b2 p2 s2 = bd (val b1 p1 s1) (wdF T n 18)) (h3 : val b3 p3 s3 = bd (val b2 p2 s2) (numF T n 0 bo)) (n1 : Nvr b1 c1 (dv T s (en T n s))) (n3 : Nvr b3 c2 (dv T s2 (en T n s2))) (e4 : g4 = uA f4 i w) (e5 : g5 = uA f5 i c1) (e6 : g6 = uA f6 i c2) (e7 : (∀ t, ¬ t = i → g7 t = f7 t) ∧ g7 i = a) (ha : b' = 0 → b3 = 0 ∧ a = aimV T n w s3) : ThC b' i w T n (nx T n s0) f4 g4 f5 g5 f6 g6 f7 g7 := by
  rw [← ad_nx ht hs]
  subst e4 e5 e6
  refine ⟨fun t ht => ⟨(uA_at _ _ _ _).2 ht, (uA_at _ _ _ _).2 ht, (uA_at _ _ _ _).2 ht, e7.1 t ht⟩, fun z => ?_⟩
  obtain ⟨hb3, ea⟩ := ha z
  obtain ⟨z1, z2, q1, q2, q3⟩ := th_pl h1 h2 h3 hb3
  rw [(uA_at _ _ _ _).1 rfl, (uA_at _ _ _ _).1 rfl, (uA_at _ _ _ _).1 rfl, e7.2]
  have r1 : c1 = nv T n s := n1 z1
  have r3 : c2 = nv T n s2 := n3 hb3
  rw [q2] at r3
  rw [q3] at ea
  exact ⟨rfl, r1, r3, ea⟩
theorem amc_n {T : Int → Int} {n b w s e k u v g : Int} (ht : CT T n b s e k u v g) (hu : ¬ u = 12) : (-1 : Int) = aimV T n w s := (if_neg (fun z => hu (ht.1.2.2.1.trans ((isWd_C 19 (by decide)).mp z.2)))).symm
theorem amc_y {T : Int → Int} {n b b2 w s s' e k u v g a : Int} (hw : ¬ w = 2) (ht : CT T n b s e k u v g) (hu : u = 12) (hs : s' = sk T n e) (hN : Nvr b2 a (dv T s' (en T n s'))) (hb : b2 = 0) : a = aimV T n w s := by
  have h9 : isWd T n 19 s := (isWd_C 19 (by decide)).mpr (ht.1.2.2.1.symm.trans hu)
  have e2 := hN hb
  rw [ad_nx ht hs] at e2
  rw [e2]
  exact (if_pos ⟨hw, h9⟩).symm
/-! the whole text in the class -/
def RdJ (T : Int → Int) (n b p s u i th ru bo : Int) (X : Int × Int) (C : Pl → Prop) (XP : Pl) : Prop := ∃ t : Int, (b = 0 → TBr t u) ∧ (t = 0 ↔ i = 0) ∧ X = bd (val b p s) (twF T n ((600 : Int) - i).toNat t th ru bo) ∧ (b = 0 → ∃ q, (C q ∧ q.1 7 = th ∧ q.1 8 = ru) ∧ XP = twP T n ((600 : Int) - i).toNat t th ru bo s q)
theorem cr_bm {x0 x1 x2 x3 x4 x5 x6 l th ru a b : Int} {g8 g9 g10 g11 g20 g21 : Int → Int} {p : Pl} (h : CRl x0 x1 x2 x3 x4 x5 x6 g8 g9 g10 g11 g20 g21 l th ru p) : CRl x0 x1 x2 x3 x4 x5 x6 g8 g9 g10 g11 g20 g21 l th ru (bmP a b p) := by
  obtain ⟨⟨h0, h1, h2, h3, h4, h5, h6⟩, h⟩ := h
  exact ⟨⟨h0.trans (bm_lo (by decide)).symm, h1.trans (bm_lo (by decide)).symm, h2.trans (bm_lo (by decide)).symm, h3.trans (bm_lo (by decide)).symm, h4.trans (bm_lo (by decide)).symm, h5.trans (bm_lo (by decide)).symm, h6.trans (bm_lo (by decide)).symm⟩, h⟩
theorem rdj_i {T : Int → Int} {n b p s u i th ru bo : Int} {C : Pl → Prop} (hb : b = 0) (hs : s = sk T n 0) (hu : u = 0) (hi : i = 0) (h1 : th = 0) (h2 : ru = 0) (h3 : bo = 1) (hC : C pl0) : RdJ T n b p s u i th ru bo (bd ((0 : Int), sk T n 0) (twF T n 600 0 0 0 1)) C (twP T n 600 0 0 0 1 (sk T n 0) pl0) := by
  subst hb hs hu hi h1 h2 h3
  exact ⟨0, fun _ => tr_0, ⟨fun _ => rfl, fun _ => rfl⟩, rfl, fun _ => ⟨pl0, ⟨hC, rfl, rfl⟩, rfl⟩⟩
theorem rdj_s {T : Int → Int} {n b p s u i th ru bo b' p' s' u' i' th' ru' bo' t : Int} {X : Int × Int} {C C' : Pl → Prop} {XP : Pl} (h0 : 0 ≤ i) (hi : i < 600) (hi' : i' = i + 1) (hb : b = 0) (hl : s < n) (hX : X = bd (val b p s) (twF T n ((600 : Int) - i).toNat t th ru bo)) (hv : val b' p' s' = bd (val b p s) (clF T n t th ru bo)) (hc : CV T n b' s t th ru bo u' th' ru' bo') (hP : b = 0 → ∃ q, (C q ∧ q.1 7 = th ∧ q.1 8 = ru) ∧ XP = twP T n ((600 : Int) - i).toNat t th ru bo s q) (hM : b' = 0 → ∀ q, C q → C' (clP T n s th ru q)) (hB : ∀ a d q, C' q → C' (bmP a d q)) : RdJ T n b' p' s' u' i' th' ru' bo' X C' XP := by
  have e0 : ((600 : Int) - i).toNat = ((600 : Int) - i').toNat + 1 := by omega
  have e1 : twF T n (((600 : Int) - i').toNat + 1) t th ru bo s = bd (clF T n t th ru bo s) (twF T n ((600 : Int) - i').toNat (bOr t (bShl 1 (kC T n s))) (thN (kC T n s) th) (ruN (kC T n s) ru) (boN T n (kC T n s) bo s)) := if_pos hl
  rw [e0, bv_ok hb, e1] at hX
  have hv0 := hv
  rw [bv_ok hb] at hv
  rw [← hv] at hX
  by_cases z : b' = 0
  · obtain ⟨c1, c2, c3, c4, c5, c6⟩ := hc z
    obtain ⟨-, hF⟩ := vl_0 hv0 z
    refine ⟨bOr t (bShl 1 (kC T n s)), fun _ => c1, ⟨fun q => absurd q (or_ne ⟨c5, c6⟩), fun q => by omega⟩, ?_, fun _ => ?_⟩
    · rw [c2, c3, c4]
      exact hX
    · obtain ⟨q, q1, q2⟩ := hP hb
      refine ⟨bmP (thN (kC T n s) th) (ruN (kC T n s) ru) (clP T n s th ru q), ⟨hB _ _ _ (hM z q q1.1), c2.symm, c3.symm⟩, ?_⟩
      have e2 : twP T n (((600 : Int) - i').toNat + 1) t th ru bo s q = twP T n ((600 : Int) - i').toNat (bOr t (bShl 1 (kC T n s))) (thN (kC T n s) th) (ruN (kC T n s) ru) (boN T n (kC T n s) bo s) (clF T n t th ru bo s).2 (bmP (thN (kC T n s) th) (ruN (kC T n s) ru) (clP T n s th ru q)) := if_pos ⟨hl, by rw [hF]⟩
      rw [e0, e2, hF] at q2
      rw [c2, c3, c4]
      exact q2
  · refine ⟨1, fun q => absurd q z, ⟨fun q => absurd q (by decide), fun q => by omega⟩, ?_, fun q => absurd q z⟩
    rw [bv_no z] at hX
    rw [bv_no z]
    exact hX
theorem rdj_x {T : Int → Int} {n b p s u i th ru bo : Int} {X : Int × Int} {C : Pl → Prop} {XP : Pl} (h : RdJ T n b p s u i th ru bo X C XP) (hx : 600 ≤ i ∨ ¬ s < n) : val b p s = X ∧ (b = 0 → C XP ∧ XP.1 7 = th ∧ XP.1 8 = ru) := by
  obtain ⟨t, -, -, hX, hP⟩ := h
  constructor
  · refine (hX.trans (bv_id (fun _ => ?_))).symm
    cases hj : ((600 : Int) - i).toNat with
    | zero => rfl
    | succ j => exact if_neg (hx.resolve_left (by omega))
  · intro z
    obtain ⟨q, q1, q2⟩ := hP z
    have e : XP = q := by
      rw [q2]
      cases hj : ((600 : Int) - i).toNat with
      | zero => rfl
      | succ j => exact if_neg (fun w => hx.resolve_left (by omega) w.1)
    rw [e]
    exact q1
theorem cr_0 {x0 x1 x2 x3 x4 x5 x6 l th ru : Int} {g8 g9 g10 g11 g20 g21 : Int → Int} (h : x0 = 1 ∧ x1 = 0 ∧ x2 = 99 ∧ x3 = 0 ∧ x4 = 1 ∧ x5 = 20 ∧ x6 = 0) (hl : l = 0) (hth : th = 0) (hru : ru = 0) : CRl x0 x1 x2 x3 x4 x5 x6 g8 g9 g10 g11 g20 g21 l th ru pl0 := by
  obtain ⟨h0, h1, h2, h3, h4, h5, h6⟩ := h
  subst h0 h1 h2 h3 h4 h5 h6 hl hth hru
  exact ⟨⟨rfl, rfl, rfl, rfl, rfl, rfl, rfl⟩, fun t a b => absurd b (by omega), ⟨rfl, fun i _ hi => absurd hi (Nat.not_lt_zero i)⟩, fun q a b => absurd b (by omega), rfl⟩
def TnC (r : Int) (C : Pl → Prop) (XP : Pl) (A B : Prop) : Prop := (r = 0 → C XP ∧ A) ∧ (¬ r = 0 → B)
theorem tnc_f {r : Int} {C : Pl → Prop} {XP : Pl} {A B : Prop} (h : ¬ r = 0) (hB : B) : TnC r C XP A B := ⟨fun z => absurd z h, fun _ => hB⟩
theorem tnc_k {r : Int} {C : Pl → Prop} {XP : Pl} {A B : Prop} (h : r = 0) (hC : C XP) (hA : A) : TnC r C XP A B := ⟨fun _ => ⟨hC, hA⟩, fun z => absurd h z⟩
