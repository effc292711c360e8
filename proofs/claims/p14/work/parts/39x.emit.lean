/-! what an expression lays down, as a list of signs -/
def vN (T : Int → Int) (n s : Int) : Int := valZ (cw T n s).toNat
def partE (T : Int → Int) (n : Int) (inner : Int → List Int) (s : Int) : List Int := if kd T n s = 2 then [dv T s (en T n s)] else if isVal T n s then [-1 - vN T n s] else inner (nx T n s)
def loopE (T : Int → Int) (n : Int) (sub : Int → Int × Int) (subE : Int → List Int) (op : Int → Bool) (oc : Int → Int) : Nat → Int → List Int
  | 0, _ => []
  | k + 1, s => if op s = true ∧ (sub (nx T n s)).1 = 0 then subE (nx T n s) ++ oc s :: loopE T n sub subE op oc k (sub (nx T n s)).2 else []
def levelE (T : Int → Int) (n : Int) (sub : Int → Int × Int) (subE : Int → List Int) (op : Int → Bool) (oc : Int → Int) (s : Int) : List Int := subE s ++ loopE T n sub subE op oc 600 (sub s).2
def ntC (T : Int → Int) (n : Int) : Nat → Int → Int
  | 0, _ => 0
  | k + 1, s => if isWd T n 20 s then ntC T n k (nx T n s) + 1 else 0
def oc2 (T : Int → Int) (a x y s : Int) : Int := if T s = a then x else y
def prodE (T : Int → Int) (n : Int) (inner : Int → Int × Int) (innerE : Int → List Int) : Int → List Int := levelE T n (partF T n inner) (partE T n innerE) (op2 T n 42 47) (oc2 T 42 (-22) (-23))
def sumE (T : Int → Int) (n : Int) (inner : Int → Int × Int) (innerE : Int → List Int) : Int → List Int := levelE T n (prodF T n inner) (prodE T n inner innerE) (op2 T n 43 45) (oc2 T 43 (-20) (-21))
def testE (T : Int → Int) (n : Int) (inner : Int → Int × Int) (innerE : Int → List Int) (s : Int) : List Int := sumE T n inner innerE (ntF T n 6 s).2 ++ (loopE T n (sumF T n inner) (sumE T n inner innerE) (op2 T n 60 61) (oc2 T 60 (-24) (-25)) 1 (sumF T n inner (ntF T n 6 s).2).2 ++ List.replicate (ntC T n 6 s).toNat (-28))
def andE (T : Int → Int) (n : Int) (inner : Int → Int × Int) (innerE : Int → List Int) : Int → List Int := levelE T n (testF T n inner) (testE T n inner innerE) (opW T n 21) (fun _ => -26)
def orE (T : Int → Int) (n : Int) (inner : Int → Int × Int) (innerE : Int → List Int) : Int → List Int := levelE T n (andF T n inner) (andE T n inner innerE) (opW T n 22) (fun _ => -27)
def exE (T : Int → Int) (n : Int) : Nat → Int → List Int
  | 0, _ => []
  | m + 1, s => orE T n (exF T n m) (exE T n m) s
/-- laid by the model behind 600; by the class as its own codes, at most 600 -/
def RM (c : Int → Int) (l : Int) (L : List Int) : Prop := l = L.length ∧ ∀ i : Nat, i < L.length → c (600 + (i : Int)) = L.getD i 0
def RC (c : Int → Int) (l : Int) (L : List Int) : Prop := l = min 600 (L.length : Int) ∧ ∀ i : Nat, i < 600 → i < L.length → c (i : Int) = enc (L.getD i 0)
def EmP (R : (Int → Int) → Int → List Int → Prop) (b : Int) (c0 : Int → Int) (l0 : Int) (c : Int → Int) (l : Int) (tot rest : List Int) : Prop := b = 0 → ∃ E, tot = E ++ rest ∧ ∀ L, R c0 l0 L → R c l (L ++ E)
abbrev Em (R : (Int → Int) → Int → List Int → Prop) (b : Int) (c0 : Int → Int) (l0 : Int) (c : Int → Int) (l : Int) (tot : List Int) : Prop := EmP R b c0 l0 c l tot []
theorem gd_l {L : List Int} {x : Int} {i : Nat} (h : i < L.length) : (L ++ [x]).getD i 0 = L.getD i 0 := by
  rw [List.getD_eq_getElem?_getD, List.getD_eq_getElem?_getD, List.getElem?_append_left h]
theorem gd_e {L : List Int} {x : Int} : (L ++ [x]).getD L.length 0 = x := by
  rw [List.getD_eq_getElem?_getD, List.getElem?_append_right (Nat.le_refl _), Nat.sub_self]
  rfl
theorem rm_1 {c c' : Int → Int} {l l' x i : Int} {L : List Int} (h : RM c l L) (hi : i = 600 + l) (e : c' = uA c i x) (hl : l' = l + 1) : RM c' l' (L ++ [x]) := by
  obtain ⟨h1, h2⟩ := h
  subst hi e hl
  refine ⟨by rw [List.length_append]; show l + 1 = ((L.length + 1 : Nat) : Int); omega, fun i hi => ?_⟩
  rw [List.length_append] at hi
  have hi : i < L.length + 1 := hi
  by_cases q : i = L.length
  · subst q
    rw [gd_e, (uA_at _ _ _ _).1 (by omega)]
  · rw [gd_l (by omega), (uA_at _ _ _ _).2 (by omega)]
    exact h2 i (by omega)
def AdP (c c' : Int → Int) (l l' x : Int) : Prop := (l < 600 → c' = uA c l x ∧ l' = l + 1) ∧ (¬ l < 600 → c' = c ∧ l' = l)
theorem ad_no {c : Int → Int} {l x : Int} (h : ¬ l < 600) : AdP c c l l x := ⟨fun z => absurd z h, fun _ => ⟨rfl, rfl⟩⟩
theorem ad_ok {c c' : Int → Int} {l l' x i : Int} (h : l < 600) (e : c' = uA c i x) (hi : i = l) (hl : l' = l + 1) : AdP c c' l l' x := by
  subst hi
  exact ⟨fun _ => ⟨e, hl⟩, fun z => absurd h z⟩
theorem rc_1 {c c' : Int → Int} {l l' x y : Int} {L : List Int} (h : RC c l L) (ha : AdP c c' l l' y) (hy : y = enc x) : RC c' l' (L ++ [x]) := by
  obtain ⟨h1, h2⟩ := h
  have hlen : ((L ++ [x]).length : Int) = (L.length : Int) + 1 := by rw [List.length_append]; rfl
  subst hy
  by_cases q : l < 600
  · obtain ⟨e, hl⟩ := ha.1 q
    subst e hl
    refine ⟨by rw [hlen]; omega, fun i hi6 hi => ?_⟩
    rw [List.length_append] at hi
    have hi : i < L.length + 1 := hi
    by_cases z : i = L.length
    · subst z
      rw [gd_e, (uA_at _ _ _ _).1 (by omega)]
    · rw [gd_l (by omega), (uA_at _ _ _ _).2 (by omega)]
      exact h2 i hi6 (by omega)
  · obtain ⟨e, hl⟩ := ha.2 q
    subst e hl
    refine ⟨by rw [hlen]; omega, fun i hi6 hi => ?_⟩
    rw [gd_l (by omega)]
    exact h2 i hi6 (by omega)
section EM
variable {R : (Int → Int) → Int → List Int → Prop} {b b' l0 l l1 l2 : Int} {c0 c c1 c2 : Int → Int} {tot rest rest' E2 E3 : List Int}
theorem ep_i : EmP R b c l c l tot tot := fun _ => ⟨[], rfl, fun L h => by rw [List.append_nil]; exact h⟩
theorem em_no (h : ¬ b = 0) : EmP R b c0 l0 c l tot rest := fun z => absurd z h
theorem ep_t (h : EmP R b c0 l0 c l tot (E2 ++ rest)) (h2 : Em R b' c l c1 l1 E3) (hb : b' = 0 → b = 0) (hE : b' = 0 → E3 = E2) : EmP R b' c0 l0 c1 l1 tot rest := by
  intro z
  obtain ⟨E, e1, e2⟩ := h (hb z)
  obtain ⟨F, f1, f2⟩ := h2 z
  refine ⟨E ++ E2, by rw [e1, List.append_assoc], fun L hL => ?_⟩
  have h9 := f2 _ (e2 L hL)
  rw [List.append_nil] at f1
  rw [← f1, hE z] at h9
  rw [← List.append_assoc]
  exact h9
theorem ep_e (h : EmP R b c0 l0 c l tot rest) (hr : b = 0 → rest = rest') : EmP R b c0 l0 c l tot rest' := fun z => by rw [← hr z]; exact h z
theorem em_e (h : Em R b c0 l0 c l tot) (hr : b = 0 → tot = rest) : Em R b c0 l0 c l rest := fun z => by rw [← hr z]; exact h z
theorem em_b (h : EmP R b c0 l0 c l tot rest) (hb : b' = 0 → b = 0) : EmP R b' c0 l0 c l tot rest := fun z => h (hb z)
theorem ep_m {x i y : Int} (h : EmP RM b c0 l0 c l tot (x :: rest)) (hL : b = 0 → c1 = uA c i y ∧ l1 = l + 1 ∧ i = 600 + l) (hx : b = 0 → y = x) : EmP RM b c0 l0 c1 l1 tot rest := by
  intro z
  obtain ⟨E, e1, e2⟩ := h z
  obtain ⟨a1, a2, a3⟩ := hL z
  refine ⟨E ++ [x], by rw [e1, List.append_assoc]; rfl, fun L hL => ?_⟩
  rw [← List.append_assoc]
  exact rm_1 (e2 L hL) a3 (hx z ▸ a1) a2
theorem ep_c {x y : Int} (h : EmP RC b c0 l0 c l tot (x :: rest)) (ha : AdP c c1 l l1 y) (hx : b = 0 → y = enc x) : EmP RC b c0 l0 c1 l1 tot rest := by
  intro z
  obtain ⟨E, e1, e2⟩ := h z
  refine ⟨E ++ [x], by rw [e1, List.append_assoc]; rfl, fun L hL => ?_⟩
  rw [← List.append_assoc]
  exact rc_1 (e2 L hL) ha (hx z)
end EM
/-- no fault behind says: none before, and where it stands -/
theorem vl_0 {b p s b' p' s' : Int} {F : Int → Int × Int} (h : val b' p' s' = bd (val b p s) F) (hb : b' = 0) : b = 0 ∧ F s = (0, s') := by
  rw [val_ok hb] at h
  by_cases z : b = 0
  · rw [bv_ok z] at h
    exact ⟨z, h.symm⟩
  · rw [bv_no z, val_no z] at h
    have h1 : (0 : Int) = b := congrArg Prod.fst h
    exact absurd h1.symm z
theorem mk_0 {T : Int → Int} {n c s s' : Int} (h : mkF T n c s = (0, s')) : isM T n c s ∧ s' = nx T n s := by
  unfold mkF at h
  by_cases q : isM T n c s
  · rw [if_pos q] at h
    exact ⟨q, (congrArg Prod.snd h).symm⟩
  · rw [if_neg q] at h
    have h1 : (1 : Int) = 0 := congrArg Prod.fst h
    exact absurd h1 (by decide)
theorem le_s {T : Int → Int} {n s s' : Int} {sub : Int → Int × Int} {subE : Int → List Int} {op : Int → Bool} {oc : Int → Int} {k : Nat} (h : op s = true) (hs : sub (nx T n s) = (0, s')) : loopE T n sub subE op oc (k + 1) s = subE (nx T n s) ++ oc s :: loopE T n sub subE op oc k s' := by
  have e : loopE T n sub subE op oc (k + 1) s = subE (nx T n s) ++ oc s :: loopE T n sub subE op oc k (sub (nx T n s)).2 := if_pos ⟨h, by rw [hs]⟩
  rw [e, hs]
theorem le_n {T : Int → Int} {n s : Int} {sub : Int → Int × Int} {subE : Int → List Int} {op : Int → Bool} {oc : Int → Int} {k : Nat} (h : k = 0 ∨ ¬ op s = true) : loopE T n sub subE op oc k s = [] := by
  cases k with
  | zero => rfl
  | succ k => exact if_neg (fun z => (h.resolve_left (by omega)) z.1)
theorem lE_more {T : Int → Int} {n : Int} {sub : Int → Int × Int} {subE : Int → List Int} {op : Int → Bool} {oc : Int → Int} (h : okF n sub) (ho : ∀ s, op s = true → s < n) : ∀ (k : Nat) (s : Int), n - s ≤ k → s ≤ n → loopE T n sub subE op oc (k + 1) s = loopE T n sub subE op oc k s := by
  intro k
  induction k with
  | zero =>
    intro s h1 h2
    exact if_neg (fun z => by have := ho s z.1; omega)
  | succ k ih =>
    intro s h1 h2
    by_cases q : op s = true ∧ (sub (nx T n s)).1 = 0
    · have e1 : loopE T n sub subE op oc (k + 1 + 1) s = subE (nx T n s) ++ oc s :: loopE T n sub subE op oc (k + 1) (sub (nx T n s)).2 := if_pos q
      have e2 : loopE T n sub subE op oc (k + 1) s = subE (nx T n s) ++ oc s :: loopE T n sub subE op oc k (sub (nx T n s)).2 := if_pos q
      have a := nx_gt (T := T) (ho s q.1)
      have b := h (nx T n s) a.2 q.2
      rw [e1, e2, ih _ (by omega) b.2]
    · have e1 : loopE T n sub subE op oc (k + 1 + 1) s = [] := if_neg q
      have e2 : loopE T n sub subE op oc (k + 1) s = [] := if_neg q
      rw [e1, e2]
/-! levels -/
theorem lv_i {R : (Int → Int) → Int → List Int → Prop} {T : Int → Int} {n b p s b' p' s' l0 l : Int} {c0 c : Int → Int} {sub : Int → Int × Int} {subE : Int → List Int} {op : Int → Bool} {oc : Int → Int} (h : Em R b' c0 l0 c l (subE s)) (hv : val b' p' s' = bd (val b p s) sub) : EmP R b' c0 l0 c l (levelE T n sub subE op oc s) (loopE T n sub subE op oc 600 s') := by
  intro z
  obtain ⟨hb, hF⟩ := vl_0 hv z
  obtain ⟨E, e1, e2⟩ := h z
  rw [List.append_nil] at e1
  refine ⟨E, ?_, e2⟩
  rw [← e1]
  show subE s ++ loopE T n sub subE op oc 600 (sub s).2 = _
  rw [hF]
theorem lv_t {R : (Int → Int) → Int → List Int → Prop} {b l0 l : Int} {c0 c : Int → Int} {tot rest : List Int} (h : EmP R b c0 l0 c l tot rest) : EmP R b c0 l0 c l tot (rest ++ List.replicate (0 : Int).toNat (-28)) := ep_e h (fun _ => (List.append_nil _).symm)
theorem em_x {R : (Int → Int) → Int → List Int → Prop} {T : Int → Int} {n b s l0 l : Int} {c0 c : Int → Int} {tot : List Int} {K : Nat} {sub : Int → Int × Int} {subE : Int → List Int} {op : Int → Bool} {oc : Int → Int} (h : EmP R b c0 l0 c l tot (loopE T n sub subE op oc (K + 1) s)) (hno : b = 0 → ¬ op s = true) : Em R b c0 l0 c l tot := ep_e h (fun z => le_n (Or.inr (hno z)))
theorem em_x2 {R : (Int → Int) → Int → List Int → Prop} {T : Int → Int} {n b s l0 l r1 r2 a d : Int} {c0 c : Int → Int} {tot : List Int} {K : Nat} {sub : Int → Int × Int} {subE : Int → List Int} {oc : Int → Int} (h : EmP R b c0 l0 c l tot (loopE T n sub subE (op2 T n a d) oc (K + 1) s)) (h1 : Isr r1 b (isM T n a s)) (z1 : r1 = 0) (h2 : Isr r2 b (isM T n d s)) (z2 : r2 = 0) : Em R b c0 l0 c l tot := em_x h (fun hb z => (of_decide_eq_true z).elim (isr_n h1 z1 hb) (isr_n h2 z2 hb))
theorem em_xt {R : (Int → Int) → Int → List Int → Prop} {T : Int → Int} {n b s l0 l r1 r2 a d : Int} {c0 c : Int → Int} {tot tl : List Int} {K : Nat} {sub : Int → Int × Int} {subE : Int → List Int} {oc : Int → Int} (h : EmP R b c0 l0 c l tot (loopE T n sub subE (op2 T n a d) oc (K + 1) s ++ tl)) (h1 : Isr r1 b (isM T n a s)) (z1 : r1 = 0) (h2 : Isr r2 b (isM T n d s)) (z2 : r2 = 0) : EmP R b c0 l0 c l tot tl := ep_e h (fun hb => by rw [le_n (Or.inr (fun z => (of_decide_eq_true z).elim (isr_n h1 z1 hb) (isr_n h2 z2 hb)))]; rfl)
theorem em_xW {R : (Int → Int) → Int → List Int → Prop} {T : Int → Int} {n b s l0 l r : Int} {w K : Nat} {c0 c : Int → Int} {tot : List Int} {sub : Int → Int × Int} {subE : Int → List Int} {oc : Int → Int} (h : EmP R b c0 l0 c l tot (loopE T n sub subE (opW T n w) oc (K + 1) s)) (h1 : Isr r b (isWd T n w s)) (z1 : r = 0) : Em R b c0 l0 c l tot := em_x h (fun hb z => isr_n h1 z1 hb (of_decide_eq_true z))
theorem oc_of {T : Int → Int} {n b s a d r x y z : Int} (hop : op2 T n a d s = true) (hI : Isr r b (isM T n a s)) (hb : b = 0) (had : ¬ a = d) (hx : (¬ r = 0 ∧ x = y) ∨ (r = 0 ∧ x = z)) : x = oc2 T a y z s := by
  unfold oc2
  rcases hx with q | q
  · rw [if_pos (isr_y hI q.1).2.2]; exact q.2
  · have h1 := isr_n hI q.1 hb
    have h2 : isM T n d s := (of_decide_eq_true hop).resolve_left h1
    rw [if_neg (fun w => had (w.symm.trans h2.2))]; exact q.2
theorem mp_s {T : Int → Int} {n b p s e k v a s1 b' p' s' l0 l l1 l2 y i : Int} {c0 c c1 c2 : Int → Int} {tot : List Int} {sub : Int → Int × Int} {subE : Int → List Int} {op : Int → Bool} {oc : Int → Int} (h : EmP RM b c0 l0 c l tot (loopE T n sub subE op oc 600 s)) (hb : b = 0) (hop : op s = true) (ht : TS T n b s e k v) (hs : s1 = sk T n a) (ha : a = e) (h0 : 0 ≤ s) (hn : n ≤ 600) (hok : okF n sub) (ho : ∀ s, op s = true → s < n) (hv : val b' p' s' = bd (val b p s1) sub) (hE : Em RM b' c l c1 l1 (subE s1)) (hL : b' = 0 → c2 = uA c1 i y) (hl : b' = 0 → l2 = l1 + 1 ∧ i = 600 + l1) (hx : y = oc s) : EmP RM b' c0 l0 c2 l2 tot (loopE T n sub subE op oc 600 s') := by
  intro z
  obtain ⟨-, hF⟩ := vl_0 hv z
  have e1 : s1 = nx T n s := nx_of hb ht hs ha
  rw [e1] at hF hE
  have a9 := nx_gt (T := T) (ho s hop)
  have b9 := hok (nx T n s) a9.2 (by rw [hF])
  rw [hF] at b9
  have e2 : loopE T n sub subE op oc 600 s = subE (nx T n s) ++ (oc s :: loopE T n sub subE op oc 600 s') := by
    rw [show (600 : Nat) = 599 + 1 from rfl, le_s hop hF, lE_more hok ho 599 s' (by have := b9.1; omega) b9.2]
  rw [e2] at h
  have h2 := ep_t h hE (fun _ => hb) (fun _ => rfl)
  exact ep_m h2 (fun q => ⟨hL q, (hl q).1, (hl q).2⟩) (fun _ => hx) z
theorem mp_1 {T : Int → Int} {n b p s e k v a s1 b' p' s' l0 l l1 l2 y i : Int} {c0 c c1 c2 : Int → Int} {tot tl : List Int} {sub : Int → Int × Int} {subE : Int → List Int} {op : Int → Bool} {oc : Int → Int} (h : EmP RM b c0 l0 c l tot (loopE T n sub subE op oc 1 s ++ tl)) (hb : b = 0) (hop : op s = true) (ht : TS T n b s e k v) (hs : s1 = sk T n a) (ha : a = e) (hv : val b' p' s' = bd (val b p s1) sub) (hE : Em RM b' c l c1 l1 (subE s1)) (hL : b' = 0 → c2 = uA c1 i y) (hl : b' = 0 → l2 = l1 + 1 ∧ i = 600 + l1) (hx : y = oc s) : EmP RM b' c0 l0 c2 l2 tot tl := by
  intro z
  obtain ⟨-, hF⟩ := vl_0 hv z
  have e1 : s1 = nx T n s := nx_of hb ht hs ha
  rw [e1] at hF hE
  have e2 : loopE T n sub subE op oc 1 s = subE (nx T n s) ++ (oc s :: []) := by
    rw [show (1 : Nat) = 0 + 1 from rfl, le_s hop hF]
    rfl
  rw [e2, List.append_assoc] at h
  have h2 := ep_t h hE (fun _ => hb) (fun _ => rfl)
  exact ep_m (x := oc s) (rest := tl) h2 (fun q => ⟨hL q, (hl q).1, (hl q).2⟩) (fun _ => hx) z
theorem lc_e {T : Int → Int} {n b p s e k w v g s1 r b' p' s' l0 l l1 l2 y : Int} {c0 c c1 c2 : Int → Int} {tot tl : List Int} {sub : Int → Int × Int} {subE : Int → List Int} {op : Int → Bool} {oc : Int → Int} {j j' : Nat} (h : EmP RC b c0 l0 c l tot (loopE T n sub subE op oc j s ++ tl)) (ht : CT T n b s e k w v g) (hop : Opr r (op s)) (hr : ¬ r = 0) (hs : s1 = sk T n e) (hv : val b' p' s' = bd (val b p s1) sub) (hE : Em RC b' c l c1 l1 (subE s1)) (ha : AdP c1 c2 l1 l2 y) (hy : y = enc (oc s)) (hj : j = j' + 1) : EmP RC b' c0 l0 c2 l2 tot (loopE T n sub subE op oc j' s' ++ tl) := by
  intro z
  obtain ⟨hb, hF⟩ := vl_0 hv z
  have e1 : s1 = nx T n s := ad_nx ht hs
  rw [e1] at hF hE
  subst hj
  rw [le_s (hop.1 hr) hF, List.append_assoc] at h
  have h2 := ep_t h hE (fun _ => hb) (fun _ => rfl)
  exact ep_c (x := oc s) h2 ha (fun _ => hy) z
theorem lc_ex {R : (Int → Int) → Int → List Int → Prop} {T : Int → Int} {n b s l0 l : Int} {c0 c : Int → Int} {tot tl : List Int} {sub : Int → Int × Int} {subE : Int → List Int} {op : Int → Bool} {oc : Int → Int} {j : Nat} (h : EmP R b c0 l0 c l tot (loopE T n sub subE op oc j s ++ tl)) (hx : j = 0 ∨ ¬ op s = true) : EmP R b c0 l0 c l tot tl := ep_e h (fun _ => by rw [le_n hx]; rfl)
theorem lc_jE {R : (Int → Int) → Int → List Int → Prop} {T : Int → Int} {n b s l0 l : Int} {c0 c : Int → Int} {tot tl : List Int} {sub : Int → Int × Int} {subE : Int → List Int} {op : Int → Bool} {oc : Int → Int} {j j' : Nat} (hj : j = j') (h : EmP R b c0 l0 c l tot (loopE T n sub subE op oc j' s ++ tl)) : EmP R b c0 l0 c l tot (loopE T n sub subE op oc j s ++ tl) := hj ▸ h
/-! nots -/
def NtI (T : Int → Int) (n b s0 s x : Int) : Prop := b = 0 → ntC T n 6 s0 = x + ntC T n (6 - x).toNat s
theorem nti_0 {T : Int → Int} {n b s x : Int} (hx : x = 0) : NtI T n b s s x := by
  subst hx
  intro _
  show ntC T n 6 s = 0 + ntC T n 6 s
  omega
theorem nti_n {T : Int → Int} {n b s0 s x : Int} (h : ¬ b = 0) : NtI T n b s0 s x := fun z => absurd z h
theorem nti_s {T : Int → Int} {n b s0 s s1 e k v a r x x' : Int} (h : NtI T n b s0 s x) (h1 : Isr r b (isWd T n 20 s)) (z1 : ¬ r = 0) (ht : TS T n b s e k v) (hs : s1 = sk T n a) (ha : a = e) (h0 : 0 ≤ x) (hx : x < 6) (hx' : x' = x + 1) : NtI T n b s0 s1 x' := by
  obtain ⟨hb, hw⟩ := isr_y h1 z1
  intro _
  have e9 : ntC T n ((6 - x').toNat + 1) s = ntC T n (6 - x').toNat (nx T n s) + 1 := if_pos hw
  rw [h hb, nx_of hb ht hs ha, show (6 - x).toNat = (6 - x').toNat + 1 by omega, e9]
  omega
theorem nti_c {T : Int → Int} {n b s0 s s1 e k w v g x x' : Int} (h : NtI T n b s0 s x) (ht : CT T n b s e k w v g) (hw : w = 16) (hs : s1 = sk T n e) (h0 : 0 ≤ x) (hx : x < 6) (hx' : x' = x + 1) : NtI T n b s0 s1 x' := by
  intro hb
  have h9 : isWd T n 20 s := (isWd_C 20 (by decide)).mpr (ht.1.2.2.1.symm.trans hw)
  have e9 : ntC T n ((6 - x').toNat + 1) s = ntC T n (6 - x').toNat (nx T n s) + 1 := if_pos h9
  rw [h hb, ad_nx ht hs, show (6 - x).toNat = (6 - x').toNat + 1 by omega, e9]
  omega
theorem ntC_n {T : Int → Int} {n s : Int} {k : Nat} (h : ¬ isWd T n 20 s) : ntC T n k s = 0 := by
  cases k with
  | zero => rfl
  | succ k => exact if_neg h
theorem nti_x {T : Int → Int} {n b s0 s x r : Int} (h : NtI T n b s0 s x) (h1 : Isr r b (isWd T n 20 s)) (z1 : r = 0) : b = 0 → ntC T n 6 s0 = x := fun hb => by
  rw [h hb, ntC_n (isr_n h1 z1 hb), Int.add_zero]
theorem nti_xc {T : Int → Int} {n b s0 s x e k w v g : Int} (h : NtI T n b s0 s x) (ht : CT T n b s e k w v g) (hw : ¬ b = 0 ∨ ¬ w = 16) : b = 0 → ntC T n 6 s0 = x := fun hb => by
  rw [h hb, ntC_n (fun z => (hw.resolve_left (fun q => q hb)) (ht.1.2.2.1.trans ((isWd_C 20 (by decide)).mp z))), Int.add_zero]
theorem tE_i {R : (Int → Int) → Int → List Int → Prop} {T : Int → Int} {n b p s b1 p1 s1 b' p' s' x l0 l : Int} {c0 c : Int → Int} {inner : Int → Int × Int} {innerE : Int → List Int} (hn : val b1 p1 s1 = bd (val b p s) (ntF T n 6)) (hc : b1 = 0 → ntC T n 6 s = x) (h : Em R b' c0 l0 c l (sumE T n inner innerE s1)) (hv : val b' p' s' = bd (val b1 p1 s1) (sumF T n inner)) : EmP R b' c0 l0 c l (testE T n inner innerE s) (loopE T n (sumF T n inner) (sumE T n inner innerE) (op2 T n 60 61) (oc2 T 60 (-24) (-25)) 1 s' ++ List.replicate x.toNat (-28)) := by
  intro z
  obtain ⟨hb1, hF⟩ := vl_0 hv z
  obtain ⟨hb, hN⟩ := vl_0 hn hb1
  obtain ⟨E, e1, e2⟩ := h z
  rw [List.append_nil] at e1
  refine ⟨E, ?_, e2⟩
  rw [← e1, ← hc hb1]
  show sumE T n inner innerE (ntF T n 6 s).2 ++ (loopE T n (sumF T n inner) (sumE T n inner innerE) (op2 T n 60 61) (oc2 T 60 (-24) (-25)) 1 (sumF T n inner (ntF T n 6 s).2).2 ++ _) = _
  rw [hN]
  show sumE T n inner innerE s1 ++ (loopE T n (sumF T n inner) (sumE T n inner innerE) (op2 T n 60 61) (oc2 T 60 (-24) (-25)) 1 (sumF T n inner s1).2 ++ _) = _
  rw [hF]
theorem rp_s {x : Int} (h : 0 < x) : List.replicate x.toNat (-28 : Int) = -28 :: List.replicate (x - 1).toNat (-28) := by
  rw [show x.toNat = (x - 1).toNat + 1 by omega]
  rfl
theorem nm_s {b l0 l l1 i x x' y : Int} {c0 c c1 : Int → Int} {tot : List Int} (h : EmP RM b c0 l0 c l tot (List.replicate x.toNat (-28))) (h0 : 0 < x) (hL : b = 0 → c1 = uA c i y) (hl : b = 0 → l1 = l + 1 ∧ i = 600 + l) (hy : y = -28) (hx : x' = x - 1) : EmP RM b c0 l0 c1 l1 tot (List.replicate x'.toNat (-28)) := by
  subst hx
  rw [rp_s h0] at h
  exact ep_m h (fun q => ⟨hL q, (hl q).1, (hl q).2⟩) (fun _ => hy)
theorem nc_sE {b l0 l l1 x x' y : Int} {c0 c c1 : Int → Int} {tot : List Int} (h : EmP RC b c0 l0 c l tot (List.replicate x.toNat (-28))) (h0 : 0 < x) (ha : AdP c c1 l l1 y) (hy : y = -33) (hx : x' = x - 1) : EmP RC b c0 l0 c1 l1 tot (List.replicate x'.toNat (-28)) := by
  subst hx
  rw [rp_s h0] at h
  exact ep_c h ha (fun _ => by rw [hy]; decide)
theorem rp_0 {R : (Int → Int) → Int → List Int → Prop} {b l0 l x : Int} {c0 c : Int → Int} {tot : List Int} (h : EmP R b c0 l0 c l tot (List.replicate x.toNat (-28))) (hx : x ≤ 0) : Em R b c0 l0 c l tot := by
  rw [show x.toNat = 0 by omega] at h
  exact h
/-! parts -/
theorem pm_2 {T : Int → Int} {n b s e k v l l' r i : Int} {c c' : Int → Int} {inner : Int → List Int} (ht : TS T n b s e k v) (hb : b = 0) (hk : k = 2) {b' : Int} (hN : Nvr b' r (dv T s (en T n s))) (hL : b' = 0 → c' = uA c i r) (hl : b' = 0 → l' = l + 1 ∧ i = 600 + l) : Em RM b' c l c' l' (partE T n inner s) := by
  have k2 := (ht hb).2.1.symm.trans hk
  have e : partE T n inner s = [dv T s (en T n s)] := if_pos k2
  rw [e]
  exact ep_m (x := dv T s (en T n s)) (rest := []) ep_i (fun q => ⟨hL q, (hl q).1, (hl q).2⟩) (fun q => hN q)
theorem vn_wh {T : Int → Int} {n b s r : Int} (h : Wh T n b s vwI 7 r) (hr : 0 ≤ r) (h7 : r < 7) : vN T n s = r := by
  have h9 := (h.2 hr).2
  have hw : ∀ j : Fin 7, vwI j.val < 23 ∧ valZ (wdC (vwI j.val)) = (j.val : Int) := by decide +kernel
  have h8 := hw ⟨r.toNat, by omega⟩
  simp only at h8
  have h7 := (isWd_C _ h8.1).mp h9
  unfold vN
  rw [h7]
  show valZ ((wdC (vwI r.toNat) : Nat) : Int).toNat = r
  rw [Int.toNat_natCast, h8.2]
  omega
theorem pm_1 {T : Int → Int} {n b s e k v l l' r x i : Int} {c c' : Int → Int} {inner : Int → List Int} (ht : TS T n b s e k v) (hb : b = 0) (hk : k = 1) (hw : Wh T n b s vwI 7 r) (hr : 0 ≤ r) (h7 : r < 7) (hx : x = -1 - r) {b' : Int} (hL : b' = 0 → c' = uA c i x) (hl : b' = 0 → l' = l + 1 ∧ i = 600 + l) : Em RM b' c l c' l' (partE T n inner s) := by
  have k1 : kd T n s = 1 := (ht hb).2.1.symm.trans hk
  have e : partE T n inner s = [-1 - vN T n s] := by
    unfold partE
    rw [if_neg (by omega), if_pos (isVal_wh hb hw hr h7)]
  rw [e]
  exact ep_m (x := -1 - vN T n s) (rest := []) ep_i (fun q => ⟨hL q, (hl q).1, (hl q).2⟩) (fun q => by rw [hx, vn_wh hw hr h7])
theorem pE_p {T : Int → Int} {n s : Int} {inner : Int → List Int} (h : isM T n 40 s) : partE T n inner s = inner (nx T n s) := by
  have k3 : kd T n s = 3 := h.1
  unfold partE
  have v : ¬ isVal T n s := by
    rintro (z | z | z | z | z | z | z) <;> (have := z.1; omega)
  rw [if_neg (by omega), if_neg v]
theorem pm_4 {R : (Int → Int) → Int → List Int → Prop} {T : Int → Int} {n b p s b1 p1 s1 b2 p2 s2 b3 l l' : Int} {c c' : Int → Int} {innerF : Int → Int × Int} {inner : Int → List Int} (e1 : val b1 p1 s1 = bd (val b p s) (mkF T n 40)) (e2 : val b2 p2 s2 = bd (val b1 p1 s1) innerF) (hE : Em R b2 c l c' l' (inner s1)) (hb : b3 = 0 → b2 = 0) : Em R b3 c l c' l' (partE T n inner s) := by
  intro z
  have z2 := hb z
  obtain ⟨z1, -⟩ := vl_0 e2 z2
  obtain ⟨-, hF⟩ := vl_0 e1 z1
  obtain ⟨hm, hs⟩ := mk_0 hF
  rw [pE_p hm, ← hs]
  exact hE z2
theorem pc_2 {T : Int → Int} {n b s e k w v g l l' r b' : Int} {c c' : Int → Int} {inner : Int → List Int} (h : CT T n b s e k w v g) (hk : k = 2) (hN : Nvr b' r (dv T s (en T n s))) (h0 : 0 ≤ r) (ha : AdP c c' l l' r) : Em RC b' c l c' l' (partE T n inner s) := by
  have e : partE T n inner s = [dv T s (en T n s)] := if_pos (h.1.2.1.symm.trans hk)
  rw [e]
  refine ep_c (x := dv T s (en T n s)) (rest := []) ep_i ha (fun q => ?_)
  rw [← hN q]
  exact (if_pos (by omega)).symm
theorem pc_v {T : Int → Int} {n b s e k w v g l l' z x b' : Int} {c c' : Int → Int} {inner : Int → List Int} (h : CT T n b s e k w v g) (hk : ¬ k = 2) (hz : z = valZ w.toNat) (hz1 : ¬ z = -1) (hr : -1 ≤ z ∧ z ≤ 6) (hx : x = -1 - z) (ha : AdP c c' l l' x) : Em RC b' c l c' l' (partE T n inner s) := by
  have e9 : vN T n s = z := by
    unfold vN
    rw [hz, h.1.2.2.1]
  have e : partE T n inner s = [-1 - z] := by
    unfold partE
    rw [if_neg (fun q => hk (h.1.2.1.trans q)), if_pos ((va_is h.1.2.2.1).mp (hz ▸ hz1)), e9]
  rw [e]
  refine ep_c (x := -1 - z) (rest := []) ep_i ha (fun _ => ?_)
  rw [hx]
  exact (if_pos (by omega)).symm
theorem pc_m {R : (Int → Int) → Int → List Int → Prop} {T : Int → Int} {n b s e k w v g s1 l l' b2 b3 : Int} {c c' : Int → Int} {inner : Int → List Int} (h : CT T n b s e k w v g) (hg : g = 40) (hs : s1 = sk T n e) (hE : Em R b2 c l c' l' (inner s1)) (hb : b3 = 0 → b2 = 0) : Em R b3 c l c' l' (partE T n inner s) := by
  have m : isM T n 40 s := (sg_is (by decide)).mp (h.1.2.2.2.2.symm.trans hg)
  rw [pE_p m, ← ad_nx h hs]
  exact em_b hE hb
/-- the class's operator where it stands -/
def OpE (r x : Int) : Prop := ¬ r = 0 → -r = enc x
theorem oe_0 {r x : Int} (h : r = 0) : OpE r x := fun z => absurd h z
theorem oe_w {r x : Int} (h : -r = enc x) : OpE r x := fun _ => h
theorem oe_2 {T : Int → Int} {n b s e k w v g r a c y z : Int} (h : CT T n b s e k w v g) (ha : ¬ a = 0) (hc : ¬ c = 0) (hac : ¬ a = c) (hg : (g = a ∧ r = a ∧ -a = enc y) ∨ (g = c ∧ r = c ∧ -c = enc z)) : OpE r (oc2 T a y z s) := by
  intro _
  unfold oc2
  rcases hg with q | q
  · have m := (sg_is ha).mp (h.1.2.2.2.2.symm.trans q.1)
    rw [if_pos m.2, q.2.1]
    exact q.2.2
  · have m := (sg_is hc).mp (h.1.2.2.2.2.symm.trans q.1)
    rw [if_neg (fun z => hac (z.symm.trans m.2)), q.2.1]
    exact q.2.2
/-! an expression as a whole -/
theorem xE_i {R : (Int → Int) → Int → List Int → Prop} {T : Int → Int} {n b p s b1 p1 b' p' s' l0 l : Int} {m : Nat} {c0 c : Int → Int} (hck : val b1 p1 s = bd (val b p s) (ckF T n m)) (h : Em R b' c0 l0 c l (andE T n (exF T n (m - 1)) (exE T n (m - 1)) s)) (hv : val b' p' s' = bd (val b1 p1 s) (andF T n (exF T n (m - 1)))) : EmP R b' c0 l0 c l (exE T n m s) (loopE T n (andF T n (exF T n (m - 1))) (andE T n (exF T n (m - 1)) (exE T n (m - 1))) (opW T n 22) (fun _ => -27) 600 s') := by
  intro z
  obtain ⟨hb1, -⟩ := vl_0 hv z
  obtain ⟨-, hF⟩ := vl_0 hck hb1
  cases m with
  | zero =>
    exfalso
    unfold ckF at hF
    by_cases q : mayE T n s
    · rw [if_pos q, if_pos rfl] at hF
      have h1 : (2 : Int) = 0 := congrArg Prod.fst hF
      exact absurd h1 (by decide)
    · rw [if_neg q] at hF
      have h1 : (1 : Int) = 0 := congrArg Prod.fst hF
      exact absurd h1 (by decide)
  | succ m => exact lv_i h hv z
theorem xE_c {R : (Int → Int) → Int → List Int → Prop} {T : Int → Int} {n b l0 l s : Int} {m m' : Nat} {c0 c : Int → Int} (hm : m = m' + 1) (h : Em R b c0 l0 c l (orE T n (exF T n m') (exE T n m') s)) : Em R b c0 l0 c l (exE T n m s) := by
  subst hm
  exact h
/-! what a text tells: settings, things, rules -/
abbrev Pl : Type := (Int → Int) × (Int → Int) × (Int → Int) × (Int → Int) × (Int → Int) × List Int × (Int → Int)
def nv (T : Int → Int) (n s : Int) : Int := dv T s (en T n s)
def aimV (T : Int → Int) (n what s : Int) : Int := if ¬ what = 2 ∧ isWd T n 19 s then nv T n (nx T n s) else -1
def clP (T : Int → Int) (n s th ru : Int) (p : Pl) : Pl :=
  if kC T n s < 7 then (uA p.1 (kC T n s) (nv T n (nx T n s)), p.2)
  else if kC T n s < 11 then (p.1, uA p.2.1 th (kC T n s - 7), uA p.2.2.1 th (nv T n (nx T n s)), uA p.2.2.2.1 th (nv T n (nx T n (nx T n (nx T n s)))), uA p.2.2.2.2.1 th (aimV T n (kC T n s - 7) (nx T n (nx T n (nx T n (nx T n s))))), p.2.2.2.2.2)
  else (p.1, p.2.1, p.2.2.1, p.2.2.2.1, p.2.2.2.2.1, p.2.2.2.2.2.1 ++ exE T n 6 (nx T n s), uA p.2.2.2.2.2.2 ru ((p.2.2.2.2.2.1 ++ exE T n 6 (nx T n s)).length : Int))
/-- the counts lie at 7 and 8 of the first row -/
def bmP (a b : Int) (p : Pl) : Pl := (fun k => if k = 7 then a else if k = 8 then b else p.1 k, p.2)
theorem bm_lo {a b k : Int} {p : Pl} (h : k < 7) : (bmP a b p).1 k = p.1 k := (if_neg (by omega)).trans (if_neg (by omega))
def twP (T : Int → Int) (n : Int) : Nat → Int → Int → Int → Int → Int → Pl → Pl
  | 0, _, _, _, _, _, p => p
  | f + 1, t, th, ru, bo, s, p => if s < n ∧ (clF T n t th ru bo s).1 = 0 then twP T n f (bOr t (bShl 1 (kC T n s))) (thN (kC T n s) th) (ruN (kC T n s) ru) (boN T n (kC T n s) bo s) (clF T n t th ru bo s).2 (bmP (thN (kC T n s) th) (ruN (kC T n s) ru) (clP T n s th ru p)) else p
def pl0 : Pl := (fun k => if k = 0 then 1 else if k = 2 then 99 else if k = 4 then 1 else if k = 5 then 20 else 0, fun _ => 0, fun _ => 0, fun _ => 0, fun _ => 0, [], fun _ => 0)
theorem twP_more {T : Int → Int} {n : Int} : ∀ (f : Nat) (t th ru bo s : Int) (p : Pl), n - s ≤ f → s ≤ n → twP T n (f + 1) t th ru bo s p = twP T n f t th ru bo s p := by
  intro f
  induction f with
  | zero =>
    intro t th ru bo s p h1 h2
    exact if_neg (fun z => by have := z.1; omega)
  | succ f ih =>
    intro t th ru bo s p h1 h2
    by_cases q : s < n ∧ (clF T n t th ru bo s).1 = 0
    · have e1 : twP T n (f + 1 + 1) t th ru bo s p = twP T n (f + 1) (bOr t (bShl 1 (kC T n s))) (thN (kC T n s) th) (ruN (kC T n s) ru) (boN T n (kC T n s) bo s) (clF T n t th ru bo s).2 (bmP (thN (kC T n s) th) (ruN (kC T n s) ru) (clP T n s th ru p)) := if_pos q
      have e2 : twP T n (f + 1) t th ru bo s p = twP T n f (bOr t (bShl 1 (kC T n s))) (thN (kC T n s) th) (ruN (kC T n s) ru) (boN T n (kC T n s) bo s) (clF T n t th ru bo s).2 (bmP (thN (kC T n s) th) (ruN (kC T n s) ru) (clP T n s th ru p)) := if_pos q
      have b := ok_clK (k := 0) h2 q.2 q.1
      rw [e1, e2, ih _ _ _ _ _ _ (by omega) b.2]
    · have e1 : twP T n (f + 1 + 1) t th ru bo s p = p := if_neg q
      have e2 : twP T n (f + 1) t th ru bo s p = p := if_neg q
      rw [e1, e2]
/-- the model's half that is being read -/
def MR (f3 f4 f5 f6 f7 f8 f9 f10 : Int → Int) (l th ru : Int) (p : Pl) : Prop :=
  (∀ j, 0 ≤ j → j < 7 → f3 (7 + j) = p.1 j) ∧ (∀ t, 0 ≤ t → t < th → f4 (7 + t) = p.2.1 t ∧ f5 (7 + t) = p.2.2.1 t ∧ f6 (7 + t) = p.2.2.2.1 t ∧ f7 (7 + t) = p.2.2.2.2.1 t) ∧ RM f10 l p.2.2.2.2.2.1 ∧ (∀ q, 0 ≤ q → q < ru → f9 (4 + q) = p.2.2.2.2.2.2 q ∧ f8 (4 + q) = stq p.2.2.2.2.2.2 q) ∧ stq p.2.2.2.2.2.2 ru = (p.2.2.2.2.2.1.length : Int)
def MRP (b : Int) (f3 f4 f5 f6 f7 f8 f9 f10 : Int → Int) (l th ru : Int) (g3 g4 g5 g6 g7 g8 g9 g10 : Int → Int) (l' th' ru' : Int) (F : Pl → Pl) : Prop := b = 0 → ∀ p, MR f3 f4 f5 f6 f7 f8 f9 f10 l th ru p → MR g3 g4 g5 g6 g7 g8 g9 g10 l' th' ru' (F p)
section MRS
variable {f3 f4 f5 f6 f7 f8 f9 f10 g3 g4 g5 g6 g7 g8 g9 g10 : Int → Int} {l th ru l' th' ru' b b1 n s k v s1 i : Int} {T : Int → Int}
theorem mr_no {F : Pl → Pl} (h : ¬ b = 0) : MRP b f3 f4 f5 f6 f7 f8 f9 f10 l th ru g3 g4 g5 g6 g7 g8 g9 g10 l' th' ru' F := fun z => absurd z h
theorem mr_set (hk : kC T n s = k) (h7 : 0 ≤ k ∧ k < 7) (e : g3 = uA f3 i v) (hi : i = 7 + k) (hN : Nvr b1 v (dv T s1 (en T n s1))) (hs1 : s1 = nx T n s) (hb : b = 0 → b1 = 0) : MRP b f3 f4 f5 f6 f7 f8 f9 f10 l th ru g3 f4 f5 f6 f7 f8 f9 f10 l th ru (clP T n s th ru) := by
  intro z p hp
  obtain ⟨a1, a2, a3, a4, a5⟩ := hp
  subst hi e
  have e9 : clP T n s th ru p = (uA p.1 k (nv T n (nx T n s)), p.2) := by
    unfold clP
    rw [hk, if_pos h7.2]
  rw [e9]
  refine ⟨fun j h0 h1 => ?_, a2, a3, a4, a5⟩
  have ev : v = nv T n (nx T n s) := by rw [← hs1]; exact hN (hb z)
  by_cases q : j = k
  · subst q
    show _ = uA p.1 j _ j
    rw [(uA_at _ _ _ _).1 rfl, (uA_at _ _ _ _).1 rfl, ev]
  · show _ = uA p.1 k _ j
    rw [(uA_at _ _ _ _).2 (by omega), (uA_at _ _ _ _).2 q]
    exact a1 j h0 h1
/-- what a thing lays down -/
def ThM (b i what : Int) (T : Int → Int) (n s bo : Int) (f4 g4 f5 g5 f6 g6 f7 g7 : Int → Int) : Prop := (∀ t, ¬ t = i → g4 t = f4 t ∧ g5 t = f5 t ∧ g6 t = f6 t ∧ g7 t = f7 t) ∧ (b = 0 → g4 i = what ∧ g5 i = nv T n s ∧ g6 i = nv T n (nx T n (nx T n s)) ∧ g7 i = aimV T n what (nx T n (nx T n (nx T n s))) ∧ 1 ≤ g5 i ∧ g5 i ≤ 99 ∧ 0 ≤ g6 i ∧ g6 i ≤ bo ∧ -1 ≤ g7 i ∧ g7 i ≤ bo)
theorem mr_th {what bo : Int} (hk : kC T n s = k) (h7 : 7 ≤ k ∧ k ≤ 10) (hs1 : s1 = nx T n s) (hw : what = k - 7) (hi : i = 7 + th) (h0 : 0 ≤ th) (hT : ThM b1 i what T n s1 bo f4 g4 f5 g5 f6 g6 f7 g7) (hth : th' = th + 1) (hb : b = 0 → b1 = 0) : MRP b f3 f4 f5 f6 f7 f8 f9 f10 l th ru f3 g4 g5 g6 g7 f8 f9 f10 l th' ru (clP T n s th ru) := by
  intro z p hp
  obtain ⟨a1, a2, a3, a4, a5⟩ := hp
  obtain ⟨t1, t2⟩ := hT
  have t2 := t2 (hb z)
  subst hi hth hw hs1
  have e9 : clP T n s th ru p = (p.1, uA p.2.1 th (k - 7), uA p.2.2.1 th (nv T n (nx T n s)), uA p.2.2.2.1 th (nv T n (nx T n (nx T n (nx T n s)))), uA p.2.2.2.2.1 th (aimV T n (k - 7) (nx T n (nx T n (nx T n (nx T n s))))), p.2.2.2.2.2) := by
    unfold clP
    rw [hk, if_neg (by omega), if_pos (by omega)]
  rw [e9]
  refine ⟨a1, fun t h0 h1 => ?_, a3, a4, a5⟩
  show _ = uA p.2.1 th _ t ∧ _ = uA p.2.2.1 th _ t ∧ _ = uA p.2.2.2.1 th _ t ∧ _ = uA p.2.2.2.2.1 th _ t
  by_cases q : t = th
  · subst q
    rw [(uA_at _ _ _ _).1 rfl, (uA_at _ _ _ _).1 rfl, (uA_at _ _ _ _).1 rfl, (uA_at _ _ _ _).1 rfl]
    exact ⟨t2.1, t2.2.1, t2.2.2.1, t2.2.2.2.1⟩
  · rw [(uA_at _ _ _ _).2 q, (uA_at _ _ _ _).2 q, (uA_at _ _ _ _).2 q, (uA_at _ _ _ _).2 q]
    obtain ⟨u1, u2, u3, u4⟩ := t1 (7 + t) (by omega)
    rw [u1, u2, u3, u4]
    exact a2 t h0 (by omega)
theorem mr_ru {i8 i9 v8 v9 : Int} (hk : kC T n s = k) (h7 : 11 ≤ k) (hs1 : s1 = nx T n s) (h0 : 0 ≤ ru) (e8 : g8 = uA f8 i8 v8) (e9 : g9 = uA f9 i9 v9) (hi8 : i8 = 4 + ru) (hi9 : i9 = 4 + ru) (hv8 : v8 = l) (hv9 : v9 = l') (hE : Em RM b1 f10 l g10 l' (exE T n 6 s1)) (hru : ru' = ru + 1) (hb : b = 0 → b1 = 0) : MRP b f3 f4 f5 f6 f7 f8 f9 f10 l th ru f3 f4 f5 f6 f7 g8 g9 g10 l' th ru' (clP T n s th ru) := by
  intro z p hp
  obtain ⟨a1, a2, a3, a4, a5⟩ := hp
  obtain ⟨E, x1, x2⟩ := hE (hb z)
  rw [List.append_nil] at x1
  subst e8 e9 hi8 hi9 hv8 hv9 hru hs1
  rw [← x1] at x2
  have e7 : clP T n s th ru p = (p.1, p.2.1, p.2.2.1, p.2.2.2.1, p.2.2.2.2.1, p.2.2.2.2.2.1 ++ exE T n 6 (nx T n s), uA p.2.2.2.2.2.2 ru ((p.2.2.2.2.2.1 ++ exE T n 6 (nx T n s)).length : Int)) := by
    unfold clP
    rw [hk, if_neg (by omega), if_neg (by omega)]
  have hR := x2 _ a3
  rw [e7]
  refine ⟨a1, a2, hR, fun q q0 q1 => ?_, ?_⟩
  · show _ = uA p.2.2.2.2.2.2 ru _ q ∧ _ = stq (uA p.2.2.2.2.2.2 ru _) q
    have es : stq (uA p.2.2.2.2.2.2 ru ((p.2.2.2.2.2.1 ++ exE T n 6 (nx T n s)).length : Int)) q = stq p.2.2.2.2.2.2 q := by
      unfold stq
      by_cases y : q = 0
      · rw [if_pos y, if_pos y]
      · rw [if_neg y, if_neg y, (uA_at _ _ _ _).2 (by omega)]
    rw [es]
    by_cases y : q = ru
    · subst y
      rw [(uA_at _ _ _ _).1 rfl, (uA_at _ _ _ _).1 rfl, (uA_at _ _ _ _).1 rfl, a5]
      exact ⟨hR.1, a3.1⟩
    · rw [(uA_at _ _ _ _).2 (by omega), (uA_at _ _ _ _).2 y, (uA_at _ _ _ _).2 (by omega)]
      exact a4 q q0 (by omega)
  · show stq (uA p.2.2.2.2.2.2 ru _) (ru + 1) = _
    unfold stq
    rw [if_neg (by omega), show ru + 1 - 1 = ru by omega, (uA_at _ _ _ _).1 rfl]
end MRS
theorem st_c {y k v x w j : Int} {S : Int → Int} (h : y = if k = j then v else x) (hx : x = S j) (ev : v = w) : y = uA S k w j := by
  subst ev
  by_cases q : k = j
  · subst q
    rw [h, if_pos rfl, (uA_at _ _ _ _).1 rfl]
  · rw [h, if_neg q, (uA_at _ _ _ _).2 (fun z => q z.symm)]
    exact hx
/-- the class's draft -/
def CRl (x0 x1 x2 x3 x4 x5 x6 : Int) (g8 g9 g10 g11 g20 g21 : Int → Int) (l th ru : Int) (p : Pl) : Prop :=
  (x0 = p.1 0 ∧ x1 = p.1 1 ∧ x2 = p.1 2 ∧ x3 = p.1 3 ∧ x4 = p.1 4 ∧ x5 = p.1 5 ∧ x6 = p.1 6) ∧ (∀ t, 0 ≤ t → t < th → g8 t = p.2.1 t ∧ g9 t = p.2.2.1 t ∧ g10 t = p.2.2.2.1 t ∧ g11 t = p.2.2.2.2.1 t) ∧ RC g20 l p.2.2.2.2.2.1 ∧ (∀ q, 0 ≤ q → q < ru → g21 q = min 600 (p.2.2.2.2.2.2 q)) ∧ stq p.2.2.2.2.2.2 ru = (p.2.2.2.2.2.1.length : Int)
def CRP (b x0 x1 x2 x3 x4 x5 x6 : Int) (f8 f9 f10 f11 f20 f21 : Int → Int) (l th ru y0 y1 y2 y3 y4 y5 y6 : Int) (g8 g9 g10 g11 g20 g21 : Int → Int) (l' th' ru' : Int) (F : Pl → Pl) : Prop := b = 0 → ∀ p, CRl x0 x1 x2 x3 x4 x5 x6 f8 f9 f10 f11 f20 f21 l th ru p → CRl y0 y1 y2 y3 y4 y5 y6 g8 g9 g10 g11 g20 g21 l' th' ru' (F p)
section CRS
variable {x0 x1 x2 x3 x4 x5 x6 y0 y1 y2 y3 y4 y5 y6 l th ru l' th' ru' b b1 n s k v s1 : Int} {f8 f9 f10 f11 f20 f21 g8 g9 g10 g11 g20 g21 : Int → Int} {T : Int → Int}
theorem cp_no {F : Pl → Pl} (h : ¬ b = 0) : CRP b x0 x1 x2 x3 x4 x5 x6 f8 f9 f10 f11 f20 f21 l th ru y0 y1 y2 y3 y4 y5 y6 g8 g9 g10 g11 g20 g21 l' th' ru' F := fun z => absurd z h
theorem cp_mo {F : Pl → Pl} (h : CRP b x0 x1 x2 x3 x4 x5 x6 f8 f9 f10 f11 f20 f21 l th ru y0 y1 y2 y3 y4 y5 y6 g8 g9 g10 g11 g20 g21 l' th' ru' F) (hb : b1 = 0 → b = 0) : CRP b1 x0 x1 x2 x3 x4 x5 x6 f8 f9 f10 f11 f20 f21 l th ru y0 y1 y2 y3 y4 y5 y6 g8 g9 g10 g11 g20 g21 l' th' ru' F := fun z => h (hb z)
theorem cp_set (hk : kC T n s = k) (h7 : 0 ≤ k ∧ k < 7) (hN : Nvr b v (nv T n (nx T n s))) (h0 : y0 = if k = 0 then v else x0) (h1 : y1 = if k = 1 then v else x1) (h2 : y2 = if k = 2 then v else x2) (h3 : y3 = if k = 3 then v else x3) (h4 : y4 = if k = 4 then v else x4) (h5 : y5 = if k = 5 then v else x5) (h6 : y6 = if k = 6 then v else x6) : CRP b x0 x1 x2 x3 x4 x5 x6 f8 f9 f10 f11 f20 f21 l th ru y0 y1 y2 y3 y4 y5 y6 f8 f9 f10 f11 f20 f21 l th ru (clP T n s th ru) := by
  intro z p hp
  obtain ⟨⟨b0, b1, b2, b3, b4, b5, b6⟩, a2, a3, a4, a5⟩ := hp
  have e9 : clP T n s th ru p = (uA p.1 k (nv T n (nx T n s)), p.2) := by
    unfold clP
    rw [hk, if_pos h7.2]
  have ev := hN z
  rw [e9]
  refine ⟨?_, a2, a3, a4, a5⟩
  exact ⟨st_c h0 b0 ev, st_c h1 b1 ev, st_c h2 b2 ev, st_c h3 b3 ev, st_c h4 b4 ev, st_c h5 b5 ev, st_c h6 b6 ev⟩
def ThC (b i what : Int) (T : Int → Int) (n s : Int) (f8 g8 f9 g9 f10 g10 f11 g11 : Int → Int) : Prop := (∀ t, ¬ t = i → g8 t = f8 t ∧ g9 t = f9 t ∧ g10 t = f10 t ∧ g11 t = f11 t) ∧ (b = 0 → g8 i = what ∧ g9 i = nv T n s ∧ g10 i = nv T n (nx T n (nx T n s)) ∧ g11 i = aimV T n what (nx T n (nx T n (nx T n s))))
theorem cp_th {what : Int} (hk : kC T n s = k) (h7 : 7 ≤ k ∧ k ≤ 10) (hw : what = k - 7) (h0 : 0 ≤ th) (hT : ThC b th what T n (nx T n s) f8 g8 f9 g9 f10 g10 f11 g11) (hth : b = 0 → th' = th + 1) : CRP b x0 x1 x2 x3 x4 x5 x6 f8 f9 f10 f11 f20 f21 l th ru x0 x1 x2 x3 x4 x5 x6 g8 g9 g10 g11 f20 f21 l th' ru (clP T n s th ru) := by
  intro z p hp
  obtain ⟨a1, a2, a3, a4, a5⟩ := hp
  obtain ⟨t1, t2⟩ := hT
  have t2 := t2 z
  have hth := hth z
  subst hth hw
  have e9 : clP T n s th ru p = (p.1, uA p.2.1 th (k - 7), uA p.2.2.1 th (nv T n (nx T n s)), uA p.2.2.2.1 th (nv T n (nx T n (nx T n (nx T n s)))), uA p.2.2.2.2.1 th (aimV T n (k - 7) (nx T n (nx T n (nx T n (nx T n s))))), p.2.2.2.2.2) := by
    unfold clP
    rw [hk, if_neg (by omega), if_pos (by omega)]
  rw [e9]
  refine ⟨a1, fun t h0 h1 => ?_, a3, a4, a5⟩
  show _ = uA p.2.1 th _ t ∧ _ = uA p.2.2.1 th _ t ∧ _ = uA p.2.2.2.1 th _ t ∧ _ = uA p.2.2.2.2.1 th _ t
  by_cases q : t = th
  · subst q
    rw [(uA_at _ _ _ _).1 rfl, (uA_at _ _ _ _).1 rfl, (uA_at _ _ _ _).1 rfl, (uA_at _ _ _ _).1 rfl]
    exact t2
  · rw [(uA_at _ _ _ _).2 q, (uA_at _ _ _ _).2 q, (uA_at _ _ _ _).2 q, (uA_at _ _ _ _).2 q]
    obtain ⟨u1, u2, u3, u4⟩ := t1 t q
    rw [u1, u2, u3, u4]
    exact a2 t h0 (by omega)
theorem cp_ru (hk : kC T n s = k) (h7 : 11 ≤ k) (h0 : 0 ≤ ru) (hE : Em RC b f20 l g20 l' (exE T n 6 (nx T n s))) (e21 : b = 0 → g21 = uA f21 ru l' ∧ ru' = ru + 1) : CRP b x0 x1 x2 x3 x4 x5 x6 f8 f9 f10 f11 f20 f21 l th ru x0 x1 x2 x3 x4 x5 x6 f8 f9 f10 f11 g20 g21 l' th ru' (clP T n s th ru) := by
  intro z p hp
  obtain ⟨a1, a2, a3, a4, a5⟩ := hp
  obtain ⟨E, w1, w2⟩ := hE z
  obtain ⟨e21, hru⟩ := e21 z
  rw [List.append_nil] at w1
  subst e21 hru
  rw [← w1] at w2
  have e7 : clP T n s th ru p = (p.1, p.2.1, p.2.2.1, p.2.2.2.1, p.2.2.2.2.1, p.2.2.2.2.2.1 ++ exE T n 6 (nx T n s), uA p.2.2.2.2.2.2 ru ((p.2.2.2.2.2.1 ++ exE T n 6 (nx T n s)).length : Int)) := by
    unfold clP
    rw [hk, if_neg (by omega), if_neg (by omega)]
  have hR := w2 _ a3
  rw [e7]
  refine ⟨a1, a2, hR, fun q q0 q1 => ?_, ?_⟩
  · show _ = min 600 (uA p.2.2.2.2.2.2 ru _ q)
    by_cases y : q = ru
    · subst y
      rw [(uA_at _ _ _ _).1 rfl, (uA_at _ _ _ _).1 rfl]
      exact hR.1
    · rw [(uA_at _ _ _ _).2 y, (uA_at _ _ _ _).2 y]
      exact a4 q q0 (by omega)
  · show stq (uA p.2.2.2.2.2.2 ru _) (ru + 1) = _
    unfold stq
    rw [if_neg (by omega), show ru + 1 - 1 = ru by omega, (uA_at _ _ _ _).1 rfl]
end CRS
/-! readThing of the model -/
theorem num_0 {T : Int → Int} {n l t s s' : Int} (h : numF T n l t s = (0, s')) : s' = nx T n s := by
  unfold numF at h
  by_cases q : kd T n s = 2
  · rw [if_pos q] at h
    by_cases z : en T n s - s ≤ 4 ∧ l ≤ dv T s (en T n s) ∧ dv T s (en T n s) ≤ t
    · rw [if_pos z] at h
      exact (congrArg Prod.snd h).symm
    · rw [if_neg z] at h
      have h1 : (2 : Int) = 0 := congrArg Prod.fst h
      exact absurd h1 (by decide)
  · rw [if_neg q] at h
    have h1 : (1 : Int) = 0 := congrArg Prod.fst h
    exact absurd h1 (by decide)
theorem wd_0 {T : Int → Int} {n s s' : Int} {w : Nat} (h : wdF T n w s = (0, s')) : s' = nx T n s := by
  unfold wdF at h
  by_cases q : isWd T n w s
  · rw [if_pos q] at h
    exact (congrArg Prod.snd h).symm
  · rw [if_neg q] at h
    have h1 : (1 : Int) = 0 := congrArg Prod.fst h
    exact absurd h1 (by decide)
theorem ma_1 {T : Int → Int} {n b p s b' p' s' r : Int} {w : Nat} (h : val b' p' s' = bd (val b p s) (mayF T n w)) (hI : Isr r b (isWd T n w s)) (hr : ¬ r = 0) (hb : b' = 0) : s' = nx T n s := by
  obtain ⟨-, hF⟩ := vl_0 h hb
  have e9 : mayF T n w s = (0, nx T n s) := if_pos (isr_y hI hr).2
  rw [e9] at hF
  exact (congrArg Prod.snd hF).symm
/-- the three numbers' places -/
theorem th_pl {T : Int → Int} {n bo b0 p0 s b1 p1 s1 b2 p2 s2 b3 p3 s3 : Int} (h1 : val b1 p1 s1 = bd (val b0 p0 s) (numF T n 1 99)) (h2 : val b2 p2 s2 = bd (val b1 p1 s1) (wdF T n 18)) (h3 : val b3 p3 s3 = bd (val b2 p2 s2) (numF T n 0 bo)) (hb : b3 = 0) : b1 = 0 ∧ b2 = 0 ∧ s1 = nx T n s ∧ s2 = nx T n (nx T n s) ∧ s3 = nx T n (nx T n (nx T n s)) := by
  obtain ⟨z2, f3⟩ := vl_0 h3 hb
  obtain ⟨z1, f2⟩ := vl_0 h2 z2
  obtain ⟨z0, f1⟩ := vl_0 h1 z1
  have e1 := num_0 f1
  have e2 := wd_0 f2
  have e3 := num_0 f3
  subst e1 e2
  exact ⟨z1, z2, rfl, rfl, e3⟩
theorem thm_x {T : Int → Int} {n bo b0 p0 s b1 p1 s1 b2 p2 s2 b3 p3 s3 b' i w c1 c2 a : Int} {f4 g4 f5 g5 f6 g6 f7 g7 : Int → Int} (h1 : val b1 p1 s1 = bd (val b0 p0 s) (numF T n 1 99)) (h2 : val b2 p2 s2 = bd (val b1 p1 s1) (wdF T n 18)) (h3 : val b3 p3 s3 = bd (val b2 p2 s2) (numF T n 0 bo)) (n1 : Nvr b1 c1 (dv T s (en T n s))) (n3 : Nvr b3 c2 (dv T s2 (en T n s2))) (e4 : g4 = uA f4 i w) (e5 : g5 = uA f5 i c1) (e6 : g6 = uA f6 i c2) (e7 : (∀ t, ¬ t = i → g7 t = f7 t) ∧ g7 i = a) (ha : b' = 0 → b3 = 0 ∧ a = aimV T n w s3) (hr : b' = 0 → 1 ≤ c1 ∧ c1 ≤ 99 ∧ 0 ≤ c2 ∧ c2 ≤ bo ∧ -1 ≤ a ∧ a ≤ bo) : ThM b' i w T n s bo f4 g4 f5 g5 f6 g6 f7 g7 := by
  subst e4 e5 e6
  refine ⟨fun t ht => ⟨(uA_at _ _ _ _).2 ht, (uA_at _ _ _ _).2 ht, (uA_at _ _ _ _).2 ht, e7.1 t ht⟩, fun z => ?_⟩
  obtain ⟨hb3, ea⟩ := ha z
  obtain ⟨z1, z2, q1, q2, q3⟩ := th_pl h1 h2 h3 hb3
  rw [(uA_at _ _ _ _).1 rfl, (uA_at _ _ _ _).1 rfl, (uA_at _ _ _ _).1 rfl, e7.2]
  have r1 : c1 = nv T n s := n1 z1
  have r3 : c2 = nv T n s2 := n3 hb3
  rw [q2] at r3
  rw [q3] at ea
  exact ⟨rfl, r1, r3, ea, hr z⟩
theorem am_2 {T : Int → Int} {n w s : Int} (h : w = 2) : (-1 : Int) = aimV T n w s := (if_neg (fun z => z.1 h)).symm
theorem am_n {T : Int → Int} {n b w s r : Int} (hI : Isr r b (isWd T n 19 s)) (hr : r = 0) (hb : b = 0) : (-1 : Int) = aimV T n w s := (if_neg (fun z => isr_n hI hr hb z.2)).symm
theorem am_y {T : Int → Int} {n b p b' p' b2 w s s' r a : Int} (hw : ¬ w = 2) (hv : val b' p' s' = bd (val b p s) (mayF T n 19)) (hI : Isr r b (isWd T n 19 s)) (hr : ¬ r = 0) (hN : Nvr b2 a (dv T s' (en T n s'))) (hb2 : b2 = 0) (hb : b' = 0) : a = aimV T n w s := by
  have e1 := ma_1 hv hI hr hb
  have e2 := hN hb2
  rw [e1] at e2
  rw [e2]
  exact (if_pos ⟨hw, (isr_y hI hr).2⟩).symm
theorem g7_1 {f7 g7 : Int → Int} {i : Int} (e : g7 = uA f7 i (-1)) : (∀ t, ¬ t = i → g7 t = f7 t) ∧ g7 i = -1 := by
  subst e
  exact ⟨fun t ht => (uA_at _ _ _ _).2 ht, (uA_at _ _ _ _).1 rfl⟩
theorem g7_2 {f7 g7 g8 : Int → Int} {i a : Int} (e : g7 = uA f7 i (-1)) (e2 : g8 = uA g7 i a) : (∀ t, ¬ t = i → g8 t = f7 t) ∧ g8 i = a := by
  subst e e2
  exact ⟨fun t ht => by rw [(uA_at _ _ _ _).2 ht]; exact (uA_at _ _ _ _).2 ht, (uA_at _ _ _ _).1 rfl⟩
/-- the bounds of what is told -/
def BdM (f3 f4 f5 f6 f7 : Int → Int) (o th : Int) : Prop := (1 ≤ f3 o ∧ f3 o ≤ 11 ∧ 0 ≤ f3 (o + 1) ∧ f3 (o + 1) ≤ f3 o ∧ 1 ≤ f3 (o + 2) ∧ f3 (o + 2) ≤ 999 ∧ 0 ≤ f3 (o + 3) ∧ f3 (o + 3) ≤ 9 ∧ 0 ≤ f3 (o + 4) ∧ f3 (o + 4) ≤ 99 ∧ 0 ≤ f3 (o + 5) ∧ f3 (o + 5) ≤ 999 ∧ 0 ≤ f3 (o + 6) ∧ f3 (o + 6) ≤ 999) ∧ ∀ t, 0 ≤ t → t < th → 0 ≤ f4 (o + t) ∧ f4 (o + t) ≤ 3 ∧ 1 ≤ f5 (o + t) ∧ f5 (o + t) ≤ 99 ∧ 0 ≤ f6 (o + t) ∧ f6 (o + t) ≤ f3 o ∧ -1 ≤ f7 (o + t) ∧ f7 (o + t) ≤ f3 o
def BdP (b t0 : Int) (f3 f4 f5 f6 f7 : Int → Int) (th : Int) (g3 g4 g5 g6 g7 : Int → Int) (th' : Int) : Prop := b = 0 → (t0 = 0 → th = 0 ∧ f3 8 = 0) → BdM f3 f4 f5 f6 f7 7 th → BdM g3 g4 g5 g6 g7 7 th'
theorem bd_noP {b t0 th th' : Int} {f3 f4 f5 f6 f7 g3 g4 g5 g6 g7 : Int → Int} (h : ¬ b = 0) : BdP b t0 f3 f4 f5 f6 f7 th g3 g4 g5 g6 g7 th' := fun z => absurd z h
theorem bd_ru {b t0 th : Int} {f3 f4 f5 f6 f7 : Int → Int} : BdP b t0 f3 f4 f5 f6 f7 th f3 f4 f5 f6 f7 th := fun _ _ h => h
theorem bd_set {b b1 t0 th k v l t i : Int} {f3 g3 f4 f5 f6 f7 : Int → Int} (h7 : 0 ≤ k ∧ k < 7) (e : g3 = uA f3 i v) (hi : i = 7 + k) (hl : l = loK k) (ht : t = hiK k (f3 7)) (hr : b1 = 0 → l ≤ v ∧ v ≤ t) (hb : b = 0 → b1 = 0) (h0 : k = 0 → t0 = 0) : BdP b t0 f3 f4 f5 f6 f7 th g3 f4 f5 f6 f7 th := by
  intro z hT hB
  obtain ⟨a, c⟩ := hB
  obtain ⟨r1, r2⟩ := hr (hb z)
  subst e hi hl ht
  have c0 := uA_at f3 (7 + k) v 7
  have c1 := uA_at f3 (7 + k) v (7 + 1)
  have c2 := uA_at f3 (7 + k) v (7 + 2)
  have c3 := uA_at f3 (7 + k) v (7 + 3)
  have c4 := uA_at f3 (7 + k) v (7 + 4)
  have c5 := uA_at f3 (7 + k) v (7 + 5)
  have c6 := uA_at f3 (7 + k) v (7 + 6)
  unfold loK at r1
  unfold hiK at r2
  rcases (show k = 0 ∨ k = 1 ∨ k = 2 ∨ k = 3 ∨ k = 4 ∨ k = 5 ∨ k = 6 by omega) with q | q | q | q | q | q | q
  · subst q
    have hz := hT (h0 rfl)
    have e8 : f3 (7 + 1) = 0 := hz.2
    exact ⟨by omega, fun t t0 t1 => by omega⟩
  all_goals (subst q; refine ⟨by omega, fun t t0 t1 => ?_⟩; have h9 := c t t0 t1; omega)
theorem bd_th {b b1 t0 th th' i w n s : Int} {T f3 f4 g4 f5 g5 f6 g6 f7 g7 : Int → Int} (hT : ThM b1 i w T n s (f3 7) f4 g4 f5 g5 f6 g6 f7 g7) (hi : i = 7 + th) (hw : 0 ≤ w ∧ w ≤ 3) (hth : th' = th + 1) (hb : b = 0 → b1 = 0) : BdP b t0 f3 f4 f5 f6 f7 th f3 g4 g5 g6 g7 th' := by
  intro z _ hB
  obtain ⟨a, c⟩ := hB
  obtain ⟨t1, t2⟩ := hT
  have t2 := t2 (hb z)
  subst hi hth
  refine ⟨a, fun t h0 h1 => ?_⟩
  by_cases q : t = th
  · subst q
    omega
  · obtain ⟨u1, u2, u3, u4⟩ := t1 (7 + t) (by omega)
    rw [u1, u2, u3, u4]
    exact c t h0 (by omega)
/-! take and town of the model -/
def cpT (o : Int) (f g : Int → Int) (n : Int) : Prop := ∀ t, 0 ≤ t → t < n → g t = f (o + t)
def PlF (g3 g4 g5 g6 g7 g8 g9 g10 : Int → Int) (th ru : Int) (p : Pl) : Prop :=
  (∀ j, 0 ≤ j → j < 7 → g3 j = p.1 j) ∧ (∀ t, 0 ≤ t → t < th → g4 t = p.2.1 t ∧ g5 t = p.2.2.1 t ∧ g6 t = p.2.2.2.1 t ∧ g7 t = p.2.2.2.2.1 t) ∧ ((p.2.2.2.2.2.1.length : Int) ≤ 600 ∧ ∀ i : Nat, i < p.2.2.2.2.2.1.length → g10 (i : Int) = p.2.2.2.2.2.1.getD i 0) ∧ (∀ q, 0 ≤ q → q < ru → g9 q = p.2.2.2.2.2.2 q ∧ g8 q = stq p.2.2.2.2.2.2 q) ∧ stq p.2.2.2.2.2.2 ru = (p.2.2.2.2.2.1.length : Int)
theorem plf_of {f3 f4 f5 f6 f7 f8 f9 f10 g3 g4 g5 g6 g7 g8 g9 g10 : Int → Int} {l th ru : Int} {p : Pl} (h : MR f3 f4 f5 f6 f7 f8 f9 f10 l th ru p) (h3 : cpT 7 f3 g3 7) (h4 : cpT 7 f4 g4 7) (h5 : cpT 7 f5 g5 7) (h6 : cpT 7 f6 g6 7) (h7 : cpT 7 f7 g7 7) (h8 : cpT 4 f8 g8 4) (h9 : cpT 4 f9 g9 4) (h10 : cpT 600 f10 g10 l) (hl : l ≤ 600) (hth : th ≤ 7) (hru : ru ≤ 4) : PlF g3 g4 g5 g6 g7 g8 g9 g10 th ru p := by
  obtain ⟨a1, a2, ⟨a3, a3'⟩, a4, a5⟩ := h
  refine ⟨fun j h0 h1 => (h3 j h0 h1).trans (a1 j h0 h1), fun t h0 h1 => ?_, ⟨by omega, fun i hi => ?_⟩, fun q h0 h1 => ?_, a5⟩
  · obtain ⟨u1, u2, u3, u4⟩ := a2 t h0 h1
    exact ⟨(h4 t h0 (by omega)).trans u1, (h5 t h0 (by omega)).trans u2, (h6 t h0 (by omega)).trans u3, (h7 t h0 (by omega)).trans u4⟩
  · exact (h10 (i : Int) (by omega) (by omega)).trans (a3' i hi)
  · obtain ⟨u1, u2⟩ := a4 q h0 h1
    exact ⟨(h9 q h0 (by omega)).trans u1, (h8 q h0 (by omega)).trans u2⟩
theorem bdf_of {f3 f4 f5 f6 f7 g3 g4 g5 g6 g7 : Int → Int} {th : Int} (h : BdM f3 f4 f5 f6 f7 7 th) (h3 : cpT 7 f3 g3 7) (h4 : cpT 7 f4 g4 7) (h5 : cpT 7 f5 g5 7) (h6 : cpT 7 f6 g6 7) (h7 : cpT 7 f7 g7 7) (hth : th ≤ 7) : BdM g3 g4 g5 g6 g7 0 th := by
  obtain ⟨a, c⟩ := h
  have c0 := h3 0 (by decide) (by decide)
  have c1 := h3 1 (by decide) (by decide)
  have c2 := h3 2 (by decide) (by decide)
  have c3 := h3 3 (by decide) (by decide)
  have c4 := h3 4 (by decide) (by decide)
  have c5 := h3 5 (by decide) (by decide)
  have c6 := h3 6 (by decide) (by decide)
  rw [Int.add_zero] at c0
  refine ⟨?_, fun t t0 t1 => ?_⟩
  · rw [Int.zero_add, Int.zero_add, Int.zero_add, Int.zero_add, Int.zero_add, Int.zero_add, c0, c1, c2, c3, c4, c5, c6]
    exact a
  · rw [Int.zero_add, h4 t t0 (by omega), h5 t t0 (by omega), h6 t t0 (by omega), h7 t t0 (by omega), c0]
    exact c t t0 t1
def RgP (b l v t : Int) : Prop := b = 0 → l ≤ v ∧ v ≤ t
theorem at_f7 {g g' P : Int → Int} {b x v : Int} (h : ∀ k, 0 ≤ k → k < x → g (b + k) = P k) (hv : v = P x) (e : g' = uA g (b + x) v) : ∀ k, 0 ≤ k → k < x + 1 → g' (b + k) = P k := by
  intro k h0 h1
  subst e
  by_cases q : k = x
  · subst q; rw [(uA_at _ _ _ _).1 rfl]; exact hv
  · rw [(uA_at _ _ _ _).2 (by omega)]; exact h k h0 (by omega)
theorem f7_1 {g : Int → Int} {b : Int} (h : ∀ k, 0 ≤ k → k < 7 → g (b + k) = pl0.1 k) : g b = 1 := by
  have h9 := h 0 (by decide) (by decide)
  rw [Int.add_zero] at h9
  exact h9
def LoX (f3 f4 f5 f6 f7 g3 g4 g5 g6 g7 : Int → Int) : Prop := ∀ t, t < 7 → g3 t = f3 t ∧ g4 t = f4 t ∧ g5 t = f5 t ∧ g6 t = f6 t ∧ g7 t = f7 t
theorem lx_0 {f3 f4 f5 f6 f7 : Int → Int} : LoX f3 f4 f5 f6 f7 f3 f4 f5 f6 f7 := fun _ _ => ⟨rfl, rfl, rfl, rfl, rfl⟩
theorem lx_3 {f3 g3 f4 f5 f6 f7 : Int → Int} {i v : Int} (e : g3 = uA f3 i v) (hi : 7 ≤ i) : LoX f3 f4 f5 f6 f7 g3 f4 f5 f6 f7 := fun t ht => ⟨by rw [e]; exact (uA_at _ _ _ _).2 (by omega), rfl, rfl, rfl, rfl⟩
theorem lx_t {b i w n s bo : Int} {T f3 f4 g4 f5 g5 f6 g6 f7 g7 : Int → Int} (h : ThM b i w T n s bo f4 g4 f5 g5 f6 g6 f7 g7) (hi : 7 ≤ i) : LoX f3 f4 f5 f6 f7 f3 g4 g5 g6 g7 := fun t ht => ⟨rfl, h.1 t (by omega)⟩
theorem lx_l {f3 f4 f5 f6 f7 g3 : Int → Int} (h : ∀ t, t < 7 → g3 t = f3 t) : LoX f3 f4 f5 f6 f7 g3 f4 f5 f6 f7 := fun t ht => ⟨h t ht, rfl, rfl, rfl, rfl⟩
theorem lx_tr {f3 f4 f5 f6 f7 g3 g4 g5 g6 g7 h3 h4 h5 h6 h7 : Int → Int} (a : LoX f3 f4 f5 f6 f7 g3 g4 g5 g6 g7) (b : LoX g3 g4 g5 g6 g7 h3 h4 h5 h6 h7) : LoX f3 f4 f5 f6 f7 h3 h4 h5 h6 h7 := fun t ht => by
  obtain ⟨a1, a2, a3, a4, a5⟩ := a t ht
  obtain ⟨b1, b2, b3, b4, b5⟩ := b t ht
  exact ⟨b1.trans a1, b2.trans a2, b3.trans a3, b4.trans a4, b5.trans a5⟩
theorem cl_k {T : Int → Int} {n t th ru bo s : Int} (h : (clF T n t th ru bo s).1 = 0) : 0 ≤ kC T n s ∧ kC T n s ≤ 11 := by
  have hr := cw_r (T := T) (n := n) (s := s)
  have h1 : -1 ≤ kC T n s ∧ kC T n s ≤ 11 := by
    unfold kC
    omega
  by_cases q : kC T n s = -1
  · exfalso
    unfold clF clK at h
    rw [if_pos q] at h
    exact absurd h (by show ¬ (1 : Int) = 0; decide)
  · omega
/-! the text, clause by clause -/
def TpI (T : Int → Int) (n b s told th ru bo : Int) (f3 f4 f5 f6 f7 f8 f9 f10 : Int → Int) (l : Int) (X : Pl) : Prop := b = 0 → ∃ p, MR f3 f4 f5 f6 f7 f8 f9 f10 l th ru p ∧ (p.1 7 = th ∧ p.1 8 = ru) ∧ X = twP T n 600 told th ru bo s p
theorem mr_bm {f3 f4 f5 f6 f7 f8 f9 f10 : Int → Int} {l th ru a b : Int} {p : Pl} (h : MR f3 f4 f5 f6 f7 f8 f9 f10 l th ru p) : MR f3 f4 f5 f6 f7 f8 f9 f10 l th ru (bmP a b p) := ⟨fun j h0 h1 => (h.1 j h0 h1).trans (bm_lo h1).symm, h.2⟩
def TbI (b told : Int) (f3 f4 f5 f6 f7 : Int → Int) (th : Int) : Prop := b = 0 → (told = 0 → th = 0 ∧ f3 8 = 0) ∧ BdM f3 f4 f5 f6 f7 7 th
theorem tp_i {T : Int → Int} {n b s bo th ru l : Int} {f3 f4 f5 f6 f7 f8 f9 f10 : Int → Int} (h3 : ∀ k, 0 ≤ k → k < 7 → f3 (7 + k) = pl0.1 k) (hs : s = sk T n 0) (hbo : bo = 1) (hth : th = 0) (hru : ru = 0) (hl : l = 0) : TpI T n b s 0 th ru bo f3 f4 f5 f6 f7 f8 f9 f10 l (twP T n 600 0 0 0 1 (sk T n 0) pl0) := by
  subst hs hbo hth hru hl
  exact fun _ => ⟨pl0, ⟨h3, fun t a b => absurd b (by omega), ⟨rfl, fun i hi => absurd hi (Nat.not_lt_zero i)⟩, fun q a b => absurd b (by omega), rfl⟩, ⟨rfl, rfl⟩, rfl⟩
theorem tb_i {b th : Int} {f3 f4 f5 f6 f7 : Int → Int} (h3 : ∀ k, 0 ≤ k → k < 7 → f3 (7 + k) = pl0.1 k) (hth : th = 0) : TbI b 0 f3 f4 f5 f6 f7 th := by
  subst hth
  have c0 := h3 0 (by decide) (by decide)
  have c1 := h3 1 (by decide) (by decide)
  have c2 := h3 2 (by decide) (by decide)
  have c3 := h3 3 (by decide) (by decide)
  have c4 := h3 4 (by decide) (by decide)
  have c5 := h3 5 (by decide) (by decide)
  have c6 := h3 6 (by decide) (by decide)
  have d0 : f3 7 = 1 := by rw [Int.add_zero] at c0; exact c0
  have d1 : f3 (7 + 1) = 0 := c1
  have d2 : f3 (7 + 2) = 99 := c2
  have d3 : f3 (7 + 3) = 0 := c3
  have d4 : f3 (7 + 4) = 1 := c4
  have d5 : f3 (7 + 5) = 20 := c5
  have d6 : f3 (7 + 6) = 0 := c6
  have d8 : f3 8 = 0 := c1
  exact fun _ => ⟨fun _ => ⟨rfl, d8⟩, by omega, fun t a b => absurd b (by omega)⟩
theorem tp_s {T : Int → Int} {n b p s t th ru bo b' p' s' t' th' ru' bo' l l' : Int} {f3 f4 f5 f6 f7 f8 f9 f10 g3 g4 g5 g6 g7 g8 g9 g10 : Int → Int} {X : Pl} (h : TpI T n b s t th ru bo f3 f4 f5 f6 f7 f8 f9 f10 l X) (hb : b = 0) (hl : s < n) (h0 : 0 ≤ s) (hn : n ≤ 600) (hv : val b' p' s' = bd (val b p s) (clF T n t th ru bo)) (hc : CU T n b' s t th ru bo t' th' ru' bo') (hM : MRP b' f3 f4 f5 f6 f7 f8 f9 f10 l th ru g3 g4 g5 g6 g7 g8 g9 g10 l' th' ru' (clP T n s th ru)) : TpI T n b' s' t' th' ru' bo' g3 g4 g5 g6 g7 g8 g9 g10 l' X := by
  intro z
  obtain ⟨q, q1, -, q2⟩ := h hb
  obtain ⟨-, hF⟩ := vl_0 hv z
  obtain ⟨c1, c2, c3, c4⟩ := hc z
  refine ⟨bmP (thN (kC T n s) th) (ruN (kC T n s) ru) (clP T n s th ru q), mr_bm (hM z q q1), ⟨c2.symm, c3.symm⟩, ?_⟩
  have e1 : twP T n (599 + 1) t th ru bo s q = twP T n 599 (bOr t (bShl 1 (kC T n s))) (thN (kC T n s) th) (ruN (kC T n s) ru) (boN T n (kC T n s) bo s) (clF T n t th ru bo s).2 (bmP (thN (kC T n s) th) (ruN (kC T n s) ru) (clP T n s th ru q)) := if_pos ⟨hl, by rw [hF]⟩
  have b9 := ok_clK (k := 0) (Int.le_of_lt hl) (show (clF T n t th ru bo s).1 = 0 by rw [hF]) hl
  rw [hF] at e1 b9
  have b9 : s < s' ∧ s' ≤ n := b9
  rw [q2]
  show twP T n (599 + 1) t th ru bo s q = _
  rw [e1, ← c1, ← c2, ← c3, ← c4]
  exact (twP_more 599 _ _ _ _ _ _ (by omega) b9.2).symm
theorem tb_s {T : Int → Int} {n b p s t th ru bo b' p' s' t' th' ru' bo' : Int} {f3 f4 f5 f6 f7 g3 g4 g5 g6 g7 : Int → Int} (h : TbI b t f3 f4 f5 f6 f7 th) (hb : b = 0) (hv : val b' p' s' = bd (val b p s) (clF T n t th ru bo)) (hc : CU T n b' s t th ru bo t' th' ru' bo') (hB : BdP b' t f3 f4 f5 f6 f7 th g3 g4 g5 g6 g7 th') : TbI b' t' g3 g4 g5 g6 g7 th' := by
  intro z
  obtain ⟨-, hF⟩ := vl_0 hv z
  obtain ⟨h1, h2⟩ := h hb
  have hk := cl_k (show (clF T n t th ru bo s).1 = 0 by rw [hF])
  refine ⟨fun q => absurd q ?_, hB z h1 h2⟩
  rw [(hc z).1]
  exact or_ne hk
/-- what town leaves in the model -/
def Kp (f3 f4 f5 f6 f7 f8 f9 f10 g3 g4 g5 g6 g7 g8 g9 g10 : Int → Int) : Prop := LoX f3 f4 f5 f6 f7 g3 g4 g5 g6 g7 ∧ (∀ t, t < 4 → g8 t = f8 t) ∧ (∀ t, t < 4 → g9 t = f9 t) ∧ ∀ t, t < 600 → g10 t = f10 t
def TnM (c r : Int) (f3 f4 f5 f6 f7 f8 f9 f10 g3 g4 g5 g6 g7 g8 g9 g10 p32 g32 : Int → Int) (a12 a13 a28 a29 a31 n12 n13 n28 n29 n31 : Int) (X : Pl) : Prop := (c = 0 ∧ r = 0 → PlF g3 g4 g5 g6 g7 g8 g9 g10 n12 n13 X ∧ BdM g3 g4 g5 g6 g7 0 n12 ∧ (∀ t, 0 ≤ t → t < 7 → g32 t = if t < n12 then g6 t else 15) ∧ n28 = g3 1 ∧ n29 = 0 ∧ n31 = 0 ∧ X.1 7 = n12 ∧ X.1 8 = n13) ∧ (¬ (c = 0 ∧ r = 0) → Kp f3 f4 f5 f6 f7 f8 f9 f10 g3 g4 g5 g6 g7 g8 g9 g10 ∧ g32 = p32 ∧ n12 = a12 ∧ n13 = a13 ∧ n28 = a28 ∧ n29 = a29 ∧ n31 = a31)
theorem tn_x {c r a12 a13 a28 a29 a31 : Int} {f3 f4 f5 f6 f7 f8 f9 f10 p32 : Int → Int} {X : Pl} (h : ¬ (c = 0 ∧ r = 0)) : TnM c r f3 f4 f5 f6 f7 f8 f9 f10 f3 f4 f5 f6 f7 f8 f9 f10 p32 p32 a12 a13 a28 a29 a31 a12 a13 a28 a29 a31 X := ⟨fun z => absurd z h, fun _ => ⟨⟨lx_0, fun _ _ => rfl, fun _ _ => rfl, fun _ _ => rfl⟩, rfl, rfl, rfl, rfl, rfl, rfl⟩⟩
theorem tn_f {c r a12 a13 a28 a29 a31 : Int} {f3 f4 f5 f6 f7 f8 f9 f10 g3 g4 g5 g6 g7 g8 g9 g10 p32 : Int → Int} {X : Pl} (h : ¬ (c = 0 ∧ r = 0)) (hk : Kp f3 f4 f5 f6 f7 f8 f9 f10 g3 g4 g5 g6 g7 g8 g9 g10) : TnM c r f3 f4 f5 f6 f7 f8 f9 f10 g3 g4 g5 g6 g7 g8 g9 g10 p32 p32 a12 a13 a28 a29 a31 a12 a13 a28 a29 a31 X := ⟨fun z => absurd z h, fun _ => ⟨hk, rfl, rfl, rfl, rfl, rfl, rfl⟩⟩
def TkP (f3 f4 f5 f6 f7 f8 f9 f10 g3 g4 g5 g6 g7 g8 g9 g10 g32 : Int → Int) (l th n28 : Int) : Prop := cpT 7 f3 g3 7 ∧ cpT 7 f4 g4 7 ∧ cpT 7 f5 g5 7 ∧ cpT 7 f6 g6 7 ∧ cpT 7 f7 g7 7 ∧ cpT 4 f8 g8 4 ∧ cpT 4 f9 g9 4 ∧ cpT 600 f10 g10 l ∧ (∀ t, 0 ≤ t → t < 7 → g32 t = if t < th then g6 t else 15) ∧ n28 = g3 1
theorem tn_k {T : Int → Int} {n c r b s told th ru bo l n12 n13 n28 n29 n31 a12 a13 a28 a29 a31 : Int} {e3 e4 e5 e6 e7 e8 e9 e10 f3 f4 f5 f6 f7 f8 f9 f10 g3 g4 g5 g6 g7 g8 g9 g10 p32 g32 : Int → Int} {X : Pl} (hr : c = 0 ∧ r = 0) (hb : b = 0) (hs : ¬ s < n) (hT : TpI T n b s told th ru bo f3 f4 f5 f6 f7 f8 f9 f10 l X) (hB : TbI b told f3 f4 f5 f6 f7 th) (hk : TkP f3 f4 f5 f6 f7 f8 f9 f10 g3 g4 g5 g6 g7 g8 g9 g10 g32 l th n28) (hl : l ≤ 600) (hth : th ≤ 7) (hru : ru ≤ 4) (h12 : n12 = th) (h13 : n13 = ru) (h29 : n29 = 0 ∧ n31 = 0) : TnM c r e3 e4 e5 e6 e7 e8 e9 e10 g3 g4 g5 g6 g7 g8 g9 g10 p32 g32 a12 a13 a28 a29 a31 n12 n13 n28 n29 n31 X := by
  obtain ⟨k3, k4, k5, k6, k7, k8, k9, k10, k32, k28⟩ := hk
  obtain ⟨p, p1, p3, p2⟩ := hT hb
  have e : X = p := by
    rw [p2]
    exact if_neg (fun z => hs z.1)
  subst e h12 h13
  exact ⟨fun _ => ⟨plf_of p1 k3 k4 k5 k6 k7 k8 k9 k10 hl hth hru, bdf_of (hB hb).2 k3 k4 k5 k6 k7 hth, k32, k28, h29.1, h29.2, p3⟩, fun z => absurd hr z⟩
theorem tk_p {g g' f6 : Int → Int} {x x' th v : Int} (h : ∀ t, 0 ≤ t → t < x → g t = if t < th then f6 t else 15) (e : g' = uA g x v) (hv : (x < th ∧ v = f6 x) ∨ (¬ x < th ∧ v = 15)) (hx : x' = x + 1) : ∀ t, 0 ≤ t → t < x' → g' t = if t < th then f6 t else 15 := by
  intro t h0 h1
  subst e hx
  by_cases q : t = x
  · subst q
    rw [(uA_at _ _ _ _).1 rfl]
    rcases hv with z | z
    · rw [if_pos z.1]; exact z.2
    · rw [if_neg z.1]; exact z.2
  · rw [(uA_at _ _ _ _).2 q]; exact h t h0 (by omega)
theorem hd_k {b p b' p' s k t th ru : Int} (h : val b' p' s = bd (val b p s) (hdK k t th ru)) (hb : b' = 0) : k = 0 → t = 0 := by
  intro hk
  obtain ⟨-, hF⟩ := vl_0 h hb
  by_cases q : t = 0
  · exact q
  · exfalso
    unfold hdK at hF
    rw [if_neg (by omega), if_pos ⟨hk, q⟩] at hF
    have h1 : (4 : Int) = 0 := congrArg Prod.fst hF
    exact absurd h1 (by decide)
