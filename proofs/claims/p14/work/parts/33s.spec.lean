/-! the text read by plain functions: tokens, answers (0, the new start) or (the fault, its place) -/
def skB (T : Int → Int) (n : Int) : Nat → Int → Int
  | 0, p => p
  | f + 1, p => if p < n ∧ (T p = 32 ∨ T p = 10) then skB T n f (p + 1) else p
def sk (T : Int → Int) (n p : Int) : Int := skB T n (n - p).toNat p
theorem sk_step {T : Int → Int} {n p : Int} (h : p < n) (hb : T p = 32 ∨ T p = 10) : sk T n p = sk T n (p + 1) := by
  unfold sk
  obtain ⟨f, hf⟩ : ∃ f : Nat, (n - p).toNat = f + 1 := ⟨(n - p).toNat - 1, by omega⟩
  rw [hf, show (n - (p + 1)).toNat = f by omega]
  exact if_pos ⟨h, hb⟩
theorem sk_stop {T : Int → Int} {n p : Int} (h : ¬ (p < n ∧ (T p = 32 ∨ T p = 10))) : sk T n p = p := by
  unfold sk
  cases (n - p).toNat with
  | zero => rfl
  | succ f => exact if_neg h
theorem skB_r (T : Int → Int) (n : Int) : ∀ (f : Nat) (p : Int), p ≤ n → p ≤ skB T n f p ∧ skB T n f p ≤ n := by
  intro f
  induction f with
  | zero => intro p h; exact ⟨Int.le_refl _, h⟩
  | succ f ih =>
    intro p h
    show p ≤ (if p < n ∧ (T p = 32 ∨ T p = 10) then skB T n f (p + 1) else p) ∧ (if p < n ∧ (T p = 32 ∨ T p = 10) then skB T n f (p + 1) else p) ≤ n
    by_cases q : p < n ∧ (T p = 32 ∨ T p = 10)
    · rw [if_pos q]
      have := ih (p + 1) (by omega)
      omega
    · rw [if_neg q]
      omega
theorem sk_r {T : Int → Int} {n p : Int} (h : p ≤ n) : p ≤ sk T n p ∧ sk T n p ≤ n := skB_r T n _ p h
def rB (T : Int → Int) (n lo hi : Int) : Nat → Int → Int
  | 0, p => p
  | f + 1, p => if p < n ∧ lo ≤ T p ∧ T p ≤ hi then rB T n lo hi f (p + 1) else p
def rE (T : Int → Int) (n lo hi p : Int) : Int := rB T n lo hi (n - p).toNat p
theorem rE_step {T : Int → Int} {n lo hi p : Int} (h : p < n) (hb : lo ≤ T p ∧ T p ≤ hi) : rE T n lo hi p = rE T n lo hi (p + 1) := by
  unfold rE
  obtain ⟨f, hf⟩ : ∃ f : Nat, (n - p).toNat = f + 1 := ⟨(n - p).toNat - 1, by omega⟩
  rw [hf, show (n - (p + 1)).toNat = f by omega]
  exact if_pos ⟨h, hb⟩
theorem rE_stop {T : Int → Int} {n lo hi p : Int} (h : ¬ (p < n ∧ lo ≤ T p ∧ T p ≤ hi)) : rE T n lo hi p = p := by
  unfold rE
  cases (n - p).toNat with
  | zero => rfl
  | succ f => exact if_neg h
theorem rB_r (T : Int → Int) (n lo hi : Int) : ∀ (f : Nat) (p : Int), p ≤ n → p ≤ rB T n lo hi f p ∧ rB T n lo hi f p ≤ n := by
  intro f
  induction f with
  | zero => intro p h; exact ⟨Int.le_refl _, h⟩
  | succ f ih =>
    intro p h
    show p ≤ (if p < n ∧ lo ≤ T p ∧ T p ≤ hi then rB T n lo hi f (p + 1) else p) ∧ (if p < n ∧ lo ≤ T p ∧ T p ≤ hi then rB T n lo hi f (p + 1) else p) ≤ n
    by_cases q : p < n ∧ lo ≤ T p ∧ T p ≤ hi
    · rw [if_pos q]
      have := ih (p + 1) (by omega)
      omega
    · rw [if_neg q]
      omega
theorem rE_r {T : Int → Int} {n lo hi p : Int} (h : p ≤ n) : p ≤ rE T n lo hi p ∧ rE T n lo hi p ≤ n := rB_r T n lo hi _ p h
abbrev isMk (c : Int) : Prop := c = 59 ∨ c = 40 ∨ c = 41 ∨ c = 43 ∨ c = 45 ∨ c = 42 ∨ c = 47 ∨ c = 60 ∨ c = 61
def kd (T : Int → Int) (n s : Int) : Int := if s < n then (if 97 ≤ T s ∧ T s ≤ 122 then 1 else if 48 ≤ T s ∧ T s ≤ 57 then 2 else if isMk (T s) then 3 else 4) else 0
def en (T : Int → Int) (n s : Int) : Int := if s < n then (if 97 ≤ T s ∧ T s ≤ 122 then rE T n 97 122 s else if 48 ≤ T s ∧ T s ≤ 57 then rE T n 48 57 s else s + 1) else s
def nx (T : Int → Int) (n s : Int) : Int := sk T n (en T n s)
theorem kd_0 {T : Int → Int} {n s : Int} : kd T n s = 0 ↔ ¬ s < n := by
  unfold kd
  by_cases h : s < n
  · rw [if_pos h]
    refine ⟨fun q => ?_, fun q => absurd h q⟩
    by_cases a : 97 ≤ T s ∧ T s ≤ 122
    · rw [if_pos a] at q; omega
    · rw [if_neg a] at q
      by_cases b : 48 ≤ T s ∧ T s ≤ 57
      · rw [if_pos b] at q; omega
      · rw [if_neg b] at q
        by_cases c : isMk (T s)
        · rw [if_pos c] at q; omega
        · rw [if_neg c] at q; omega
  · rw [if_neg h]
    exact ⟨fun _ => h, fun _ => rfl⟩
theorem en_gt {T : Int → Int} {n s : Int} (h : s < n) : s < en T n s ∧ en T n s ≤ n := by
  unfold en
  rw [if_pos h]
  by_cases a : 97 ≤ T s ∧ T s ≤ 122
  · rw [if_pos a, rE_step h a]
    have := rE_r (T := T) (n := n) (lo := 97) (hi := 122) (p := s + 1) (by omega)
    omega
  · rw [if_neg a]
    by_cases b : 48 ≤ T s ∧ T s ≤ 57
    · rw [if_pos b, rE_step h b]
      have := rE_r (T := T) (n := n) (lo := 48) (hi := 57) (p := s + 1) (by omega)
      omega
    · rw [if_neg b]
      omega
theorem en_end {T : Int → Int} {n s : Int} (h : ¬ s < n) : en T n s = s := if_neg h
theorem nx_gt {T : Int → Int} {n s : Int} (h : s < n) : s < nx T n s ∧ nx T n s ≤ n := by
  have h1 := en_gt (T := T) h
  have h2 := sk_r (T := T) (n := n) (p := en T n s) h1.2
  unfold nx
  omega
def dS (T : Int → Int) (s : Int) : Nat → Int
  | 0 => 0
  | k + 1 => 10 * dS T s k + T (s + (k : Int)) - 48
def dM (T : Int → Int) (s : Int) : Nat → Int
  | 0 => 0
  | k + 1 => min 100000 (10 * dM T s k + T (s + (k : Int)) - 48)
def dv (T : Int → Int) (s e : Int) : Int := dS T s (e - s).toNat
/-- up to four digits nothing is cut -/
theorem dM_dS {T : Int → Int} {s : Int} (k : Nat) (hk : k ≤ 4) (h : ∀ j : Nat, j < k → 48 ≤ T (s + (j : Int)) ∧ T (s + (j : Int)) ≤ 57) : dM T s k = dS T s k ∧ 0 ≤ dS T s k ∧ dS T s k ≤ 9999 := by
  have a0 : dS T s 0 = 0 := rfl
  have a1 : dS T s 1 = 10 * dS T s 0 + T (s + ((0 : Nat) : Int)) - 48 := rfl
  have a2 : dS T s 2 = 10 * dS T s 1 + T (s + ((1 : Nat) : Int)) - 48 := rfl
  have a3 : dS T s 3 = 10 * dS T s 2 + T (s + ((2 : Nat) : Int)) - 48 := rfl
  have a4 : dS T s 4 = 10 * dS T s 3 + T (s + ((3 : Nat) : Int)) - 48 := rfl
  have b0 : dM T s 0 = 0 := rfl
  have b1 : dM T s 1 = min 100000 (10 * dM T s 0 + T (s + ((0 : Nat) : Int)) - 48) := rfl
  have b2 : dM T s 2 = min 100000 (10 * dM T s 1 + T (s + ((1 : Nat) : Int)) - 48) := rfl
  have b3 : dM T s 3 = min 100000 (10 * dM T s 2 + T (s + ((2 : Nat) : Int)) - 48) := rfl
  have b4 : dM T s 4 = min 100000 (10 * dM T s 3 + T (s + ((3 : Nat) : Int)) - 48) := rfl
  match k, hk, h with
  | 0, _, _ => omega
  | 1, _, h => have h0 := h 0 (by omega); omega
  | 2, _, h => have h0 := h 0 (by omega); have h1 := h 1 (by omega); omega
  | 3, _, h => have h0 := h 0 (by omega); have h1 := h 1 (by omega); have h2 := h 2 (by omega); omega
  | 4, _, h => have h0 := h 0 (by omega); have h1 := h 1 (by omega); have h2 := h 2 (by omega); have h3 := h 3 (by omega); omega
abbrev isW (w : Nat) (T : Int → Int) (s e : Int) : Prop := ((lenS.getD w 0 : Nat) : Int) = e - s ∧ ∀ k : Nat, k < lenS.getD w 0 → T (s + (k : Int)) = chZ w k
abbrev isWd (T : Int → Int) (n : Int) (w : Nat) (s : Int) : Prop := kd T n s = 1 ∧ isW w T s (en T n s)
abbrev isM (T : Int → Int) (n c s : Int) : Prop := kd T n s = 3 ∧ T s = c
def bd (r : Int × Int) (f : Int → Int × Int) : Int × Int := if r.1 = 0 then f r.2 else r
theorem bd_ok {r : Int × Int} {f : Int → Int × Int} (h : r.1 = 0) : bd r f = f r.2 := if_pos h
theorem bd_no {r : Int × Int} {f : Int → Int × Int} (h : ¬ r.1 = 0) : bd r f = r := if_neg h
def numF (T : Int → Int) (n l t s : Int) : Int × Int := if kd T n s = 2 then (if en T n s - s ≤ 4 ∧ l ≤ dv T s (en T n s) ∧ dv T s (en T n s) ≤ t then (0, nx T n s) else (2, s)) else (1, s)
def mkF (T : Int → Int) (n c s : Int) : Int × Int := if isM T n c s then (0, nx T n s) else (1, s)
def wdF (T : Int → Int) (n : Int) (w : Nat) (s : Int) : Int × Int := if isWd T n w s then (0, nx T n s) else (1, s)
def loopF (T : Int → Int) (n : Int) (sub : Int → Int × Int) (op : Int → Bool) : Nat → Int → Int × Int
  | 0, s => (0, s)
  | k + 1, s => if op s = true then bd (sub (nx T n s)) (loopF T n sub op k) else (0, s)
def levelF (T : Int → Int) (n : Int) (sub : Int → Int × Int) (op : Int → Bool) (s : Int) : Int × Int := bd (sub s) (loopF T n sub op 600)
def ntF (T : Int → Int) (n : Int) : Nat → Int → Int × Int
  | 0, s => if isWd T n 20 s then (2, s) else (0, s)
  | k + 1, s => if isWd T n 20 s then ntF T n k (nx T n s) else (0, s)
abbrev isVal (T : Int → Int) (n s : Int) : Prop := isWd T n 12 s ∨ isWd T n 13 s ∨ isWd T n 14 s ∨ isWd T n 15 s ∨ isWd T n 16 s ∨ isWd T n 0 s ∨ isWd T n 17 s
def partF (T : Int → Int) (n : Int) (inner : Int → Int × Int) (s : Int) : Int × Int := if kd T n s = 2 then numF T n 0 9999 s else if isVal T n s then (0, nx T n s) else if isM T n 40 s then bd (inner (nx T n s)) (mkF T n 41) else (if kd T n s = 1 then 3 else 1, s)
def op2 (T : Int → Int) (n a b : Int) (s : Int) : Bool := decide (isM T n a s ∨ isM T n b s)
def opW (T : Int → Int) (n : Int) (w : Nat) (s : Int) : Bool := decide (isWd T n w s)
def prodF (T : Int → Int) (n : Int) (inner : Int → Int × Int) : Int → Int × Int := levelF T n (partF T n inner) (op2 T n 42 47)
def sumF (T : Int → Int) (n : Int) (inner : Int → Int × Int) : Int → Int × Int := levelF T n (prodF T n inner) (op2 T n 43 45)
def testF (T : Int → Int) (n : Int) (inner : Int → Int × Int) (s : Int) : Int × Int := bd (ntF T n 6 s) (fun s1 => bd (sumF T n inner s1) (loopF T n (sumF T n inner) (op2 T n 60 61) 1))
def andF (T : Int → Int) (n : Int) (inner : Int → Int × Int) : Int → Int × Int := levelF T n (testF T n inner) (opW T n 21)
def orF (T : Int → Int) (n : Int) (inner : Int → Int × Int) : Int → Int × Int := levelF T n (andF T n inner) (opW T n 22)
def exF (T : Int → Int) (n : Int) : Nat → Int → Int × Int
  | 0, s => (if kd T n s = 2 ∨ kd T n s = 1 ∨ isM T n 40 s then 2 else 1, s)
  | m + 1, s => orF T n (exF T n m) s
/-- what each of them keeps: a new start is not before the old one and within the text -/
def okF (n : Int) (f : Int → Int × Int) : Prop := ∀ s, s ≤ n → (f s).1 = 0 → s ≤ (f s).2 ∧ (f s).2 ≤ n
theorem ok_bd {n s : Int} {r : Int × Int} {f : Int → Int × Int} (h1 : r.1 = 0 → s ≤ r.2 ∧ r.2 ≤ n) (h2 : okF n f) (h : (bd r f).1 = 0) : s ≤ (bd r f).2 ∧ (bd r f).2 ≤ n := by
  by_cases q : r.1 = 0
  · rw [bd_ok q] at h ⊢
    have a := h1 q
    have b := h2 r.2 a.2 h
    omega
  · rw [bd_no q] at h
    exact absurd h q
theorem ok_loop {T : Int → Int} {n : Int} {sub : Int → Int × Int} {op : Int → Bool} (h : okF n sub) (ho : ∀ s, op s = true → s < n) : ∀ k : Nat, okF n (loopF T n sub op k) := by
  intro k
  induction k with
  | zero => intro s hs _; exact ⟨Int.le_refl _, hs⟩
  | succ k ih =>
    intro s hs h0
    by_cases q : op s = true
    · have e : loopF T n sub op (k + 1) s = bd (sub (nx T n s)) (loopF T n sub op k) := if_pos q
      rw [e] at h0 ⊢
      have a := nx_gt (T := T) (ho s q)
      refine ok_bd (fun z => ?_) ih h0
      have b := h (nx T n s) a.2 z
      omega
    · have e : loopF T n sub op (k + 1) s = (0, s) := if_neg q
      rw [e]
      exact ⟨Int.le_refl _, hs⟩
theorem ok_level {T : Int → Int} {n : Int} {sub : Int → Int × Int} {op : Int → Bool} (h : okF n sub) (ho : ∀ s, op s = true → s < n) : okF n (levelF T n sub op) := fun s hs h0 => ok_bd (fun z => h s hs z) (ok_loop h ho 600) h0
theorem isM_lt {T : Int → Int} {n c s : Int} (h : isM T n c s) : s < n := by
  by_cases q : s < n
  · exact q
  · have := (kd_0 (T := T)).mpr q
    have := h.1
    omega
theorem isWd_lt {T : Int → Int} {n s : Int} {w : Nat} (h : isWd T n w s) : s < n := by
  by_cases q : s < n
  · exact q
  · have := (kd_0 (T := T)).mpr q
    have := h.1
    omega
theorem op2_lt {T : Int → Int} {n a b : Int} : ∀ s, op2 T n a b s = true → s < n := fun s h => (of_decide_eq_true h).elim isM_lt isM_lt
theorem opW_lt {T : Int → Int} {n : Int} {w : Nat} : ∀ s, opW T n w s = true → s < n := fun s h => isWd_lt (of_decide_eq_true h)
theorem ok_num {T : Int → Int} {n l t : Int} : okF n (numF T n l t) := by
  intro s hs h
  unfold numF at h ⊢
  by_cases q : kd T n s = 2
  · rw [if_pos q] at h ⊢
    have hl : s < n := by
      by_cases z : s < n
      · exact z
      · have := (kd_0 (T := T)).mpr z
        omega
    by_cases z : en T n s - s ≤ 4 ∧ l ≤ dv T s (en T n s) ∧ dv T s (en T n s) ≤ t
    · rw [if_pos z]
      have := nx_gt (T := T) hl
      exact ⟨by show s ≤ nx T n s; omega, this.2⟩
    · rw [if_neg z] at h
      exact absurd h (by show ¬ (2 : Int) = 0; decide)
  · rw [if_neg q] at h
    exact absurd h (by show ¬ (1 : Int) = 0; decide)
theorem ok_mk {T : Int → Int} {n c : Int} : okF n (mkF T n c) := by
  intro s hs h
  unfold mkF at h ⊢
  by_cases q : isM T n c s
  · rw [if_pos q]
    have := nx_gt (T := T) (isM_lt q)
    exact ⟨by show s ≤ nx T n s; omega, this.2⟩
  · rw [if_neg q] at h
    exact absurd h (by show ¬ (1 : Int) = 0; decide)
theorem ok_wd {T : Int → Int} {n : Int} {w : Nat} : okF n (wdF T n w) := by
  intro s hs h
  unfold wdF at h ⊢
  by_cases q : isWd T n w s
  · rw [if_pos q]
    have := nx_gt (T := T) (isWd_lt q)
    exact ⟨by show s ≤ nx T n s; omega, this.2⟩
  · rw [if_neg q] at h
    exact absurd h (by show ¬ (1 : Int) = 0; decide)
theorem isVal_lt {T : Int → Int} {n s : Int} (h : isVal T n s) : s < n := by
  rcases h with h | h | h | h | h | h | h <;> exact isWd_lt h
theorem ok_part {T : Int → Int} {n : Int} {inner : Int → Int × Int} (hi : okF n inner) : okF n (partF T n inner) := by
  intro s hs h
  unfold partF at h ⊢
  by_cases q : kd T n s = 2
  · rw [if_pos q] at h ⊢
    exact ok_num s hs h
  · rw [if_neg q] at h ⊢
    by_cases v : isVal T n s
    · rw [if_pos v]
      have := nx_gt (T := T) (isVal_lt v)
      exact ⟨by show s ≤ nx T n s; omega, this.2⟩
    · rw [if_neg v] at h ⊢
      by_cases m : isM T n 40 s
      · rw [if_pos m] at h ⊢
        have a := nx_gt (T := T) (isM_lt m)
        refine ok_bd (fun z => ?_) ok_mk h
        have b := hi (nx T n s) a.2 z
        omega
      · rw [if_neg m] at h
        by_cases z : kd T n s = 1
        · exact absurd h (by show ¬ (if kd T n s = 1 then (3 : Int) else 1) = 0; rw [if_pos z]; decide)
        · exact absurd h (by show ¬ (if kd T n s = 1 then (3 : Int) else 1) = 0; rw [if_neg z]; decide)
theorem ok_nt {T : Int → Int} {n : Int} : ∀ k : Nat, okF n (ntF T n k) := by
  intro k
  induction k with
  | zero =>
    intro s hs h
    by_cases q : isWd T n 20 s
    · have e : ntF T n 0 s = (2, s) := if_pos q
      rw [e] at h
      exact absurd h (by show ¬ (2 : Int) = 0; decide)
    · have e : ntF T n 0 s = (0, s) := if_neg q
      rw [e]
      exact ⟨Int.le_refl _, hs⟩
  | succ k ih =>
    intro s hs h
    by_cases q : isWd T n 20 s
    · have e : ntF T n (k + 1) s = ntF T n k (nx T n s) := if_pos q
      rw [e] at h ⊢
      have a := nx_gt (T := T) (isWd_lt q)
      have b := ih (nx T n s) a.2 h
      omega
    · have e : ntF T n (k + 1) s = (0, s) := if_neg q
      rw [e]
      exact ⟨Int.le_refl _, hs⟩
theorem ok_prod {T : Int → Int} {n : Int} {inner : Int → Int × Int} (hi : okF n inner) : okF n (prodF T n inner) := ok_level (ok_part hi) op2_lt
theorem ok_sum {T : Int → Int} {n : Int} {inner : Int → Int × Int} (hi : okF n inner) : okF n (sumF T n inner) := ok_level (ok_prod hi) op2_lt
theorem ok_test {T : Int → Int} {n : Int} {inner : Int → Int × Int} (hi : okF n inner) : okF n (testF T n inner) := fun s hs h => ok_bd (fun z => ok_nt 6 s hs z) (fun s1 h1 h2 => ok_bd (fun z => ok_sum hi s1 h1 z) (ok_loop (ok_sum hi) op2_lt 1) h2) h
theorem ok_and {T : Int → Int} {n : Int} {inner : Int → Int × Int} (hi : okF n inner) : okF n (andF T n inner) := ok_level (ok_test hi) opW_lt
theorem ok_or {T : Int → Int} {n : Int} {inner : Int → Int × Int} (hi : okF n inner) : okF n (orF T n inner) := ok_level (ok_and hi) opW_lt
theorem ok_ex {T : Int → Int} {n : Int} : ∀ m : Nat, okF n (exF T n m) := by
  intro m
  induction m with
  | zero =>
    intro s hs h
    have e : (exF T n 0 s).1 = (if kd T n s = 2 ∨ kd T n s = 1 ∨ isM T n 40 s then 2 else 1) := rfl
    rw [e] at h
    by_cases q : kd T n s = 2 ∨ kd T n s = 1 ∨ isM T n 40 s
    · rw [if_pos q] at h; exact absurd h (by decide)
    · rw [if_neg q] at h; exact absurd h (by decide)
  | succ m ih => exact ok_or ih
/-- the loop is the same for every number of rounds that reaches the text's end -/
theorem loop_more {T : Int → Int} {n : Int} {sub : Int → Int × Int} {op : Int → Bool} (h : okF n sub) (ho : ∀ s, op s = true → s < n) : ∀ (k : Nat) (s : Int), n - s ≤ k → s ≤ n → loopF T n sub op (k + 1) s = loopF T n sub op k s := by
  intro k
  induction k with
  | zero =>
    intro s h1 h2
    have q : ¬ op s = true := fun z => by have := ho s z; omega
    exact if_neg q
  | succ k ih =>
    intro s h1 h2
    by_cases q : op s = true
    · have e1 : loopF T n sub op (k + 1 + 1) s = bd (sub (nx T n s)) (loopF T n sub op (k + 1)) := if_pos q
      have e2 : loopF T n sub op (k + 1) s = bd (sub (nx T n s)) (loopF T n sub op k) := if_pos q
      rw [e1, e2]
      have a := nx_gt (T := T) (ho s q)
      by_cases z : (sub (nx T n s)).1 = 0
      · rw [bd_ok z, bd_ok z]
        have b := h (nx T n s) a.2 z
        exact ih _ (by omega) b.2
      · rw [bd_no z, bd_no z]
    · have e1 : loopF T n sub op (k + 1 + 1) s = (0, s) := if_neg q
      have e2 : loopF T n sub op (k + 1) s = (0, s) := if_neg q
      rw [e1, e2]
/-- where nothing can begin an EXPR, the fault is 1 at once -/
theorem level_no {T : Int → Int} {n s c : Int} {sub : Int → Int × Int} {op : Int → Bool} (hc : ¬ c = 0) (h : sub s = (c, s)) : levelF T n sub op s = (c, s) := by
  show bd (sub s) _ = _
  rw [h]
  exact bd_no hc
theorem or_no {T : Int → Int} {n s : Int} {inner : Int → Int × Int} (h : ¬ (kd T n s = 2 ∨ kd T n s = 1 ∨ isM T n 40 s)) : orF T n inner s = (1, s) := by
  have hp : partF T n inner s = (1, s) := by
    unfold partF
    have v : ¬ isVal T n s := by
      intro z
      rcases z with z | z | z | z | z | z | z <;> exact h (Or.inr (Or.inl z.1))
    rw [if_neg (fun z => h (Or.inl z)), if_neg v, if_neg (fun z => h (Or.inr (Or.inr z))), if_neg (fun z => h (Or.inr (Or.inl z)))]
  have h1 : prodF T n inner s = (1, s) := level_no (by decide) hp
  have h2 : sumF T n inner s = (1, s) := level_no (by decide) h1
  have hn : ntF T n 6 s = (0, s) := if_neg (fun z => h (Or.inr (Or.inl z.1)))
  have h3 : testF T n inner s = (1, s) := by
    show bd (ntF T n 6 s) _ = _
    rw [hn, bd_ok rfl]
    show bd (sumF T n inner s) _ = _
    rw [h2]
    exact bd_no (by show ¬ (1 : Int) = 0; decide)
  have h4 : andF T n inner s = (1, s) := level_no (by decide) h3
  exact level_no (by decide) h4
/-! words: the model's 23 texts are 0 to 22, the class's 24 are 23 to 46 -/
def wdC (a : Nat) : Nat := ([0, 1, 2, 3, 4, 5, 6, 7, 8, 9, 10, 13, 17, 18, 19, 20, 21, 22, 11, 12, 16, 15, 14] : List Nat).getD a 0
theorem wdC_byt : ∀ a : Fin 23, bytS.getD a.val [] = bytS.getD (23 + wdC a.val) [] ∧ lenS.getD a.val 0 = lenS.getD (23 + wdC a.val) 0 ∧ wdC a.val < 23 := by decide +kernel
theorem isW_C {T : Int → Int} {s e : Int} (a : Nat) (ha : a < 23) : isW a T s e ↔ isW (23 + wdC a) T s e := by
  obtain ⟨h1, h2, -⟩ := wdC_byt ⟨a, ha⟩
  have h3 : ∀ k, chZ a k = chZ (23 + wdC a) k := fun k => by
    unfold chZ
    rw [show bytS.getD a [] = bytS.getD (23 + wdC a) [] from h1]
  constructor
  · intro h
    refine ⟨by rw [← h2]; exact h.1, fun k hk => ?_⟩
    rw [← h3 k]
    exact h.2 k (by rw [h2]; exact hk)
  · intro h
    refine ⟨by rw [h2]; exact h.1, fun k hk => ?_⟩
    rw [h3 k]
    exact h.2 k (by rw [← h2]; exact hk)
theorem wd_apart : ∀ a b : Fin 24, lenS.getD (23 + a.val) 0 = lenS.getD (23 + b.val) 0 → (∀ k : Fin 6, k.val < lenS.getD (23 + a.val) 0 → (bytS.getD (23 + a.val) []).getD k.val 0 = (bytS.getD (23 + b.val) []).getD k.val 0) → a = b := by decide +kernel
theorem isW_one {T : Int → Int} {s e : Int} {a b : Nat} (ha : a < 24) (hb : b < 24) (h1 : isW (23 + a) T s e) (h2 : isW (23 + b) T s e) : a = b := by
  have hl : lenS.getD (23 + a) 0 = lenS.getD (23 + b) 0 := by
    have := h1.1
    have := h2.1
    omega
  have h := wd_apart ⟨a, ha⟩ ⟨b, hb⟩ hl (fun k hk => ?_)
  · exact congrArg Fin.val h
  · have e1 := h1.2 k.val hk
    have e2 := h2.2 k.val (by rw [← hl]; exact hk)
    have e3 : chZ (23 + a) k.val = chZ (23 + b) k.val := e1.symm.trans e2
    unfold chZ at e3
    exact Int32.toInt_inj.mp e3
/-- the class's word at a start: 23 where there is none -/
def cwB (T : Int → Int) (n s : Int) : Nat → Int
  | 0 => 23
  | k + 1 => if isWd T n (23 + k) s then (k : Int) else cwB T n s k
def cw (T : Int → Int) (n s : Int) : Int := cwB T n s 23
theorem cwB_at {T : Int → Int} {n s : Int} {a : Nat} (h : isWd T n (23 + a) s) (ha : a < 23) : ∀ k : Nat, a < k → k ≤ 23 → cwB T n s k = a := by
  intro k
  induction k with
  | zero => intro h1 _; exact absurd h1 (by omega)
  | succ k ih =>
    intro h1 h2
    by_cases q : isWd T n (23 + k) s
    · have e : cwB T n s (k + 1) = (k : Int) := if_pos q
      rw [e]
      have := isW_one (a := a) (b := k) (by omega) (by omega) h.2 q.2
      omega
    · have e : cwB T n s (k + 1) = cwB T n s k := if_neg q
      rw [e]
      have hne : ¬ a = k := fun z => q (z ▸ h)
      exact ih (by omega) (by omega)
theorem cw_at {T : Int → Int} {n s : Int} {a : Nat} (h : isWd T n (23 + a) s) (ha : a < 23) : cw T n s = a := cwB_at h ha 23 ha (by omega)
theorem cwB_of {T : Int → Int} {n s : Int} : ∀ (k a : Nat), k ≤ 23 → cwB T n s k = (a : Int) → a < 23 → isWd T n (23 + a) s := by
  intro k
  induction k with
  | zero => intro a _ h1 h2; have h1 : (23 : Int) = a := h1; omega
  | succ k ih =>
    intro a hk h1 h2
    by_cases q : isWd T n (23 + k) s
    · have e : cwB T n s (k + 1) = (k : Int) := if_pos q
      rw [e] at h1
      have : k = a := by omega
      exact this ▸ q
    · have e : cwB T n s (k + 1) = cwB T n s k := if_neg q
      rw [e] at h1
      exact ih a (by omega) h1 h2
theorem cw_of {T : Int → Int} {n s : Int} {a : Nat} (h : cw T n s = (a : Int)) (ha : a < 23) : isWd T n (23 + a) s := cwB_of 23 a (by omega) h ha
theorem isWd_C {T : Int → Int} {n s : Int} (a : Nat) (ha : a < 23) : isWd T n a s ↔ cw T n s = (wdC a : Nat) := by
  have hw := (wdC_byt ⟨a, ha⟩).2.2
  constructor
  · intro h
    exact cw_at ⟨h.1, (isW_C a ha).mp h.2⟩ hw
  · intro h
    have h9 := cw_of h hw
    exact ⟨h9.1, (isW_C a ha).mpr h9.2⟩
/-- what the end of a row says of its signs -/
theorem rE_in {T : Int → Int} {n lo hi : Int} : ∀ (m : Nat) (p q : Int), q - p = m → p ≤ q → q < rE T n lo hi p → p ≤ n → lo ≤ T q ∧ T q ≤ hi ∧ q < n := by
  intro m
  induction m with
  | zero =>
    intro p q h1 h2 h3 h4
    have e : q = p := by omega
    subst e
    by_cases z : q < n ∧ lo ≤ T q ∧ T q ≤ hi
    · exact ⟨z.2.1, z.2.2, z.1⟩
    · rw [rE_stop z] at h3
      omega
  | succ m ih =>
    intro p q h1 h2 h3 h4
    by_cases z : p < n ∧ lo ≤ T p ∧ T p ≤ hi
    · rw [rE_step z.1 z.2] at h3
      exact ih (p + 1) q (by omega) (by omega) h3 (by omega)
    · rw [rE_stop z] at h3
      omega
