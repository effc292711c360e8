theorem aI_of (f : Nat → Int32) : aI (fun z => (f z.toNat).toInt) = f := by
  funext t
  show Int32.ofInt ((f (t : Int).toNat).toInt) = f t
  rw [Int32.ofInt_toInt, Int.toNat_natCast]
theorem upM_e (k : Nat → ClassId) : (va_up (va_up (va_up (va_up (va_up (va_up (va_up (va_up (va_up (va_up (va_up (va_up (fun _ => none) (0 : Int32).toNatClampNeg (some (k 111))) (1 : Int32).toNatClampNeg (some (k 112))) (2 : Int32).toNatClampNeg (some (k 113))) (3 : Int32).toNatClampNeg (some (k 114))) (4 : Int32).toNatClampNeg (some (k 115))) (5 : Int32).toNatClampNeg (some (k 116))) (6 : Int32).toNatClampNeg (some (k 117))) (7 : Int32).toNatClampNeg (some (k 118))) (8 : Int32).toNatClampNeg (some (k 119))) (9 : Int32).toNatClampNeg (some (k 120))) (10 : Int32).toNatClampNeg (some (k 121))) (11 : Int32).toNatClampNeg (some (k 122))) = qM k 111 12 := by
  funext j
  match j with
  | 0 => rfl
  | 1 => rfl
  | 2 => rfl
  | 3 => rfl
  | 4 => rfl
  | 5 => rfl
  | 6 => rfl
  | 7 => rfl
  | 8 => rfl
  | 9 => rfl
  | 10 => rfl
  | 11 => rfl
  | j + 12 =>
    have h : ∀ (f : Nat → Option Nat) (i : Nat) (v : Option Nat), i < 12 → va_up f i v (j + 12) = f (j + 12) := fun f i v hi => if_neg (by omega)
    rw [h _ _ _ (show (11 : Int32).toNatClampNeg < 12 by decide), h _ _ _ (show (10 : Int32).toNatClampNeg < 12 by decide), h _ _ _ (show (9 : Int32).toNatClampNeg < 12 by decide), h _ _ _ (show (8 : Int32).toNatClampNeg < 12 by decide), h _ _ _ (show (7 : Int32).toNatClampNeg < 12 by decide), h _ _ _ (show (6 : Int32).toNatClampNeg < 12 by decide), h _ _ _ (show (5 : Int32).toNatClampNeg < 12 by decide), h _ _ _ (show (4 : Int32).toNatClampNeg < 12 by decide), h _ _ _ (show (3 : Int32).toNatClampNeg < 12 by decide), h _ _ _ (show (2 : Int32).toNatClampNeg < 12 by decide), h _ _ _ (show (1 : Int32).toNatClampNeg < 12 by decide), h _ _ _ (show (0 : Int32).toNatClampNeg < 12 by decide)]
    exact (if_neg (by omega)).symm
theorem upV_e (k : Nat → ClassId) : (va_up (va_up (va_up (va_up (va_up (va_up (va_up (fun _ => none) (0 : Int32).toNatClampNeg (some (k 123))) (1 : Int32).toNatClampNeg (some (k 124))) (2 : Int32).toNatClampNeg (some (k 125))) (3 : Int32).toNatClampNeg (some (k 126))) (4 : Int32).toNatClampNeg (some (k 127))) (5 : Int32).toNatClampNeg (some (k 111))) (6 : Int32).toNatClampNeg (some (k 128))) = qV k := by
  funext j
  match j with
  | 0 => rfl
  | 1 => rfl
  | 2 => rfl
  | 3 => rfl
  | 4 => rfl
  | 5 => rfl
  | 6 => rfl
  | j + 7 =>
    have h : ∀ (f : Nat → Option Nat) (i : Nat) (v : Option Nat), i < 7 → va_up f i v (j + 7) = f (j + 7) := fun f i v hi => if_neg (by omega)
    rw [h _ _ _ (show (6 : Int32).toNatClampNeg < 7 by decide), h _ _ _ (show (5 : Int32).toNatClampNeg < 7 by decide), h _ _ _ (show (4 : Int32).toNatClampNeg < 7 by decide), h _ _ _ (show (3 : Int32).toNatClampNeg < 7 by decide), h _ _ _ (show (2 : Int32).toNatClampNeg < 7 by decide), h _ _ _ (show (1 : Int32).toNatClampNeg < 7 by decide), h _ _ _ (show (0 : Int32).toNatClampNeg < 7 by decide)]
    show none = if j + 7 < 5 then _ else if j + 7 = 5 then _ else if j + 7 = 6 then _ else none
    rw [if_neg (by omega), if_neg (by omega), if_neg (by omega)]
theorem cz_preSU {s : State} {H : Heap} {locs : List Loc} {G : va_G} {k : Nat → ClassId} {A : Nat → Prop} {ws wc : va_W} {av : List Value} {p0 q0 : Nat} {e0 : va_E} (hnm4 : s.vm.findClass ("[" ++ (FieldType.object "java/lang/String").toString) = some (k 4)) (hnm5 : s.vm.findClass ("[" ++ (FieldType.object "java/lang/String").toString) = some (k 5)) (hstr : ∀ i, i < 23 → va_Any "java/lang/String" s s.heap (k (111 + i))) (hA9 : ∀ q, A q → s.heap.size ≤ q) (hZ : ZX k A s s.heap) (hS : va_S A s.heap H locs) (hX : KX G k s) (hP : va_P G vwCl ws H) (hD : va_D A ws) (isC : List Nat) (hn : va_nd isC = true) (hC : isC.map (fun i => ws[i]?) = wc.map some) (hq : ws[q0]? = some (p0, e0)) : PreS s H (PreXU G k av p0 H.size wc) av := by
  have h0 := cz_preSS (av := av) (q0 := q0) hstr hA9 hZ hS hX hP hD isC hn hC hq
  refine ⟨fun a U g mk q => ?_, fun U hU hW => ?_⟩
  · have h1 := h0.1 a U g mk ⟨q.1, q.2.1⟩
    exact ⟨h1.1, h1.2, q.2.2⟩
  · have h1 := h0.2 U hU hW
    exact ⟨h1.1, h1.2, by rw [hW.alike.findClass]; exact hnm4, by rw [hW.alike.findClass]; exact hnm5⟩
