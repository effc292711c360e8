/-! throws: the words that aren't in a method's list, contracts that throw, the catch in the law's helpers -/
def iaX : String := "java/lang/IllegalArgumentException"
def TX (U : State) : Prop := (∀ y ∈ [Bundle.initS "java/lang/RuntimeException", Bundle.initS "java/lang/Exception", Bundle.initS Bundle.tN], va_Nw (.declares y) U) ∧ (∀ z ∈ [ns_X, iaX], va_Nw (.castable z z) U)
theorem TX.warm {s U : State} (hW : s.WarmedH U.vm) (h : TX s) : TX U := ⟨fun y hy => va_Nw.warmD hW (h.1 y hy), fun y hy => va_Nw.warmC hW (h.2 y hy)⟩
theorem TX.same {s U : State} (hv : s.vm = U.vm) (h : TX s) : TX U := ⟨fun y hy => va_Nw.same rfl hv (h.1 y hy), fun y hy => va_Nw.same rfl hv (h.2 y hy)⟩
def ia_at : List Cond := vx_atS RX9 79 iaX ["java/lang/RuntimeException", "java/lang/Exception"]
def bad_ns : List Cond := [.declares (Bundle.initS "java/lang/RuntimeException"), .declares (Bundle.initS "java/lang/Exception"), .declares (Bundle.initS Bundle.tN), .castable ns_X ns_X]
def bad_ia : List Cond := [.declares (Bundle.initS "java/lang/RuntimeException"), .declares (Bundle.initS "java/lang/Exception"), .declares (Bundle.initS Bundle.tN), .castable iaX iaX]
theorem tx_ns {args : Array Value} {s : State} (hT : TX s) (h : ∀ w ∈ (ns_at RX9 148).filter goodWord, w.before args s = true) : ∀ w ∈ ns_at RX9 148, w.before args s = true :=
  vx_hat (B := bad_ns) h (by decide +kernel) (vx_c (va_Nw.use rfl (hT.1 _ List.mem_cons_self)) (vx_c (va_Nw.use rfl (hT.1 _ (List.mem_cons_of_mem _ List.mem_cons_self))) (vx_c (va_Nw.use rfl (hT.1 _ (List.mem_cons_of_mem _ (List.mem_cons_of_mem _ List.mem_cons_self)))) (vx_c (va_Nw.use rfl (hT.2 _ List.mem_cons_self)) vx_n))))
theorem tx_ia {args : Array Value} {s : State} (hT : TX s) (h : ∀ w ∈ ia_at.filter goodWord, w.before args s = true) : ∀ w ∈ ia_at, w.before args s = true :=
  vx_hat (B := bad_ia) h (by decide +kernel) (vx_c (va_Nw.use rfl (hT.1 _ List.mem_cons_self)) (vx_c (va_Nw.use rfl (hT.1 _ (List.mem_cons_of_mem _ List.mem_cons_self))) (vx_c (va_Nw.use rfl (hT.1 _ (List.mem_cons_of_mem _ (List.mem_cons_of_mem _ List.mem_cons_self)))) (vx_c (va_Nw.use rfl (hT.2 _ (List.mem_cons_of_mem _ List.mem_cons_self))) vx_n))))
theorem ns_good : ∀ w ∈ Cond.classLink RX9 144 ns_X :: Cond.initialized ns_X :: ns_at RX9 148, vx_ot w = true := by decide +kernel
theorem ia_good : ∀ w ∈ Cond.classLink RX9 75 iaX :: Cond.initialized iaX :: ia_at, vx_ot w = true := by decide +kernel
theorem zs_lt {d a : Int32} {lo : Int} (h : d < a) (q : a.toInt ≤ lo) : d.toInt < lo := Int.lt_of_lt_of_le (Int32.lt_iff_toInt_lt.mp h) q
theorem zs_gt {d a : Int32} {hi : Int} (h : a < d) (q : hi ≤ a.toInt) : hi < d.toInt := Int.lt_of_le_of_lt q (Int32.lt_iff_toInt_lt.mp h)
def PreXT (G : va_G) (k : Nat → ClassId) (av : List Value) (sz : Nat) (ws : va_W) : Array Value → State → Prop := fun a U => PreX G k av sz ws a U ∧ TX U
theorem preT_blind {G : va_G} {k : Nat → ClassId} {av : List Value} {sz : Nat} {ws : va_W} : FrameBlind (PreXT G k av sz ws) := fun a U g mk q => ⟨pre_blind a U g mk q.1, TX.same (s := U) (U := U.calling g mk a) rfl q.2⟩
abbrev CXi (l : Launch) (G : va_G) (k : Nat → ClassId) (y : MethodName) (wsy : List Cond) (rm : Room) (av : List Value) (sz : Nat) (wc : va_W) (E : String) : Prop := vx_Met l y wsy rm (PreXT G k av sz wc) (va_Qi (fun (r : Int32) (u : Unit) => False) (fun (u : Unit) (t : State) => True) (va_A wc sz)) (vx_X (fun (u : Unit) => True) (fun (E' : String) (u : Unit) (t : State) => E' = E) (va_A wc sz)) rm.cells rm.slots (va_A wc sz)
abbrev CTi {S : Type} (l : Launch) (G : va_G) (k : Nat → ClassId) (y : MethodName) (wsy : List Cond) (rm : Room) (av : List Value) (sz : Nat) (wc : va_W) (post : Int32 → S → Prop) (w1 : S → va_W) : Prop := Met l y wsy rm (PreXT G k av sz wc) (va_Qi post (PostX G (va_A wc sz) w1) (va_A wc sz)) rm.cells rm.slots (va_A wc sz)
section XCtx
variable {p : Program} {l : Launch} {e : Env} {R : Room} {s : State} {m : MethodId} {args : Array Value} {below : List Frame} {meth : Method} {c : Code} {H H0 : Heap} {locs : List Loc} {cells slots : Nat} {Q : State → Prop} {pc : Nat} {ls : Array Slot} {rest st0 : List Value} {G : va_G} {k : Nat → ClassId} {A : Nat → Prop} {ws wc wr : va_W} {mc ms : Nat} {a : Array Value}
theorem cz_preST {av : List Value} (hT : TX s) (hZ : ZX k A s s.heap) (hS : va_S A s.heap H locs) (hX : KX G k s) (hP : va_P G vwCl ws H) (hD : va_D A ws) (isC : List Nat) (hn : va_nd isC = true) (hC : isC.map (fun i => ws[i]?) = wc.map some) : PreS s H (PreXT G k av H.size wc) av :=
  ⟨preT_blind, fun U hU hW => ⟨(cz_preS hZ hS hX hP hD isC hn hC).2 U hU hW, hT.warm hW⟩⟩
theorem cz_preVT {av : List Value} {b q0 ci : Nat} {q : vw_C} {fs : List Value} (hT : TX s) (hZ : ZX k A s s.heap) (hS : va_S A s.heap H locs) (hX : KX G k s) (hP : va_P G vwCl ws H) (hD : va_D A ws) (isC : List Nat) (hn : va_nd isC = true) (hC : isC.map (fun i => ws[i]?) = wc.map some) (hc : vwCl[ci]? = some q) (he : ws[q0]? = some (b, .inr (ci, fs))) : PreV s H q.1 b (PreXT G k (.ref b :: av) H.size wc) av :=
  ⟨preT_blind, va_recv hX.1 hP hc he, fun U hU hW => ⟨(cz_preV (av := av) hZ hS hX hP hD isC hn hC hc he).2.2 U hU hW, hT.warm hW⟩⟩
theorem cz_xi {E0 : String} (hr : vx_Run p l e R s m args below meth c H locs cells slots mc ms (F0 m pc ls st0) rest (va_Qi (fun (r : Int32) (u : Unit) => False) (fun (u : Unit) (t : State) => True) (va_A wc H.size) a) (vx_X (fun (u : Unit) => True) (fun (E' : String) (u : Unit) (t : State) => E' = E0) (va_A wc H.size)) (va_A wc H.size)) (hP : va_P G vwCl ws H) (hD : va_D A ws) (hS : va_S A H0 H locs) (hA : ∀ q, H0.size ≤ q → A q) (isC isR : List Nat) (hC : isC.map (fun i => ws[i]?) = wc.map some) (hR : isR.map (fun i => ws[i]?) = wr.map some) (hn : va_nd isR = true) (hdis : ∀ i ∈ isR, i ∉ isC)
    (kk : ∀ (ce : Cell) (q9 : Addr) (H1 : Heap) (locs1 : List Loc), H1[q9]? = some ce → ce.vm = .none → s.vm.findClass E0 = some ce.cls → va_P G vwCl wr H1 → va_D A wr → va_S A H0 H1 locs1 → vx_W p l e R s m args below meth c H1 locs1 (cells + mc) (slots + ms) Q (F0 m pc ls rest) q9) : W p l e R s m args below meth c H locs cells slots Q (F0 m pc ls st0) := by
  have hF := va_free (wc := wc) hD hS hA isC hC
  refine vx_calli hr hS (fun q _ h => hF q h) hF (fun q _ h => hF q h) (fun E ce q9 u t H1 locs1 ht hvm hp hB hz hk hS1 hce hcv hcl => ?_) (fun r u t H1 locs1 ht hvm hp hB hz hk hS1 => hp.elim)
  have hB : E = E0 := hB
  subst hB
  have h9 := va_join (w1 := []) hP hD isC isR hC hR hn hdis hk hF (fun i q h => by simp at h) ⟨fun i j p q h => by simp at h, fun i q h => by simp at h⟩
  rw [List.append_nil] at h9
  exact kk ce q9 H1 locs1 hce hcv hcl h9.1 h9.2 hS1
end XCtx
