/-! calls that throw: nothing is written before a throw, the world stays -/
def PreYT (G : va_G) (k : Nat → ClassId) (av : List Value) (sz : Nat) (ws : va_W) : Array Value → State → Prop := fun a U => PreY G k (EZ k) av sz ws a U ∧ TX U
theorem preYT_blind {G : va_G} {k : Nat → ClassId} {av : List Value} {sz : Nat} {ws : va_W} : FrameBlind (PreYT G k av sz ws) := fun a U g mk q => ⟨pre_blindY (EZ_ok k) a U g mk q.1, TX.same (s := U) (U := U.calling g mk a) rfl q.2⟩
abbrev CYi (l : Launch) (G : va_G) (k : Nat → ClassId) (y : MethodName) (wsy : List Cond) (rm : Room) (av : List Value) (sz : Nat) (wc : va_W) (E : String) : Prop := vx_Met l y wsy rm (PreYT G k av sz wc) (va_Qi (fun (r : Int32) (u : Unit) => False) (fun (u : Unit) (t : State) => True) (va_A wc sz)) (vx_X (fun (u : Unit) => True) (fun (E' : String) (u : Unit) (t : State) => E' = E ∧ va_P G vwCl wc t.heap ∧ va_D (va_A wc sz) wc) (va_A wc sz)) rm.cells rm.slots (va_A wc sz)
abbrev CHi {S : Type} (l : Launch) (G : va_G) (k : Nat → ClassId) (y : MethodName) (wsy : List Cond) (rm : Room) (av : List Value) (sz : Nat) (wc : va_W) (post : Int32 → S → Prop) (w1 : S → va_W) : Prop := Met l y wsy rm (PreYT G k av sz wc) (va_Qi post (PostX G (va_A wc sz) w1) (va_A wc sz)) rm.cells rm.slots (va_A wc sz)
def wO (k : Nat → ClassId) (ar : Nat → Nat) (fi : Nat → Int) (fa : Nat → Int → Int) (fl : Nat → Int64) : va_W := (ar 0, .inl (k 2, 1, .inr (.inl fl))) :: []
section YCtx
variable {p : Program} {l : Launch} {e : Env} {R : Room} {s : State} {m : MethodId} {args : Array Value} {below : List Frame} {meth : Method} {c : Code} {H H0 : Heap} {locs : List Loc} {cells slots : Nat} {Q : State → Prop} {pc : Nat} {ls : Array Slot} {rest st0 : List Value} {G : va_G} {k : Nat → ClassId} {A : Nat → Prop} {ws wc wr : va_W} {mc ms : Nat} {a : Array Value}
theorem ct_preST {av : List Value} (hT : TX s) (hZ : EZ k A s s.heap) (hS : va_S A s.heap H locs) (hX : KX G k s) (hP : va_P G vwCl ws H) (hD : va_D A ws) (hA : ∀ q, s.heap.size ≤ q → A q) (isC : List Nat) (hn : va_nd isC = true) (hC : isC.map (fun i => ws[i]?) = wc.map some) : PreS s H (PreYT G k av H.size wc) av :=
  ⟨preYT_blind, fun U hU hW => ⟨(cy_preS (EZ_ok k) hZ hS hX hP hD hA isC hn hC).2 U hU hW, hT.warm hW⟩⟩
theorem ct_preVT {av : List Value} {b q0 ci : Nat} {q : vw_C} {fs : List Value} (hT : TX s) (hZ : EZ k A s s.heap) (hS : va_S A s.heap H locs) (hX : KX G k s) (hP : va_P G vwCl ws H) (hD : va_D A ws) (hA : ∀ q, s.heap.size ≤ q → A q) (isC : List Nat) (hn : va_nd isC = true) (hC : isC.map (fun i => ws[i]?) = wc.map some) (hc : vwCl[ci]? = some q) (he : ws[q0]? = some (b, .inr (ci, fs))) : PreV s H q.1 b (PreYT G k (.ref b :: av) H.size wc) av :=
  ⟨preYT_blind, va_recv hX.1 hP hc he, fun U hU hW => ⟨(cy_preV (av := av) (EZ_ok k) hZ hS hX hP hD hA isC hn hC hc he).2.2 U hU hW, hT.warm hW⟩⟩
theorem ct_xi {E0 : String} (hr : vx_Run p l e R s m args below meth c H locs cells slots mc ms (F0 m pc ls st0) rest (va_Qi (fun (r : Int32) (u : Unit) => False) (fun (u : Unit) (t : State) => True) (va_A wc H.size) a) (vx_X (fun (u : Unit) => True) (fun (E' : String) (u : Unit) (t : State) => E' = E0 ∧ va_P G vwCl wc t.heap ∧ va_D (va_A wc H.size) wc) (va_A wc H.size)) (va_A wc H.size)) (hP : va_P G vwCl ws H) (hD : va_D A ws) (hS : va_S A H0 H locs) (hA : ∀ q, H0.size ≤ q → A q) (isC isR : List Nat) (hC : isC.map (fun i => ws[i]?) = wc.map some) (hR : isR.map (fun i => ws[i]?) = wr.map some) (hn : va_nd isR = true) (hdis : ∀ i ∈ isR, i ∉ isC)
    (kk : ∀ (ce : Cell) (q9 : Addr) (H1 : Heap) (locs1 : List Loc), H1[q9]? = some ce → ce.vm = .none → s.vm.findClass E0 = some ce.cls → va_P G vwCl (wr ++ wc) H1 → va_D A (wr ++ wc) → va_S A H0 H1 locs1 → vx_W p l e R s m args below meth c H1 locs1 (cells + mc) (slots + ms) Q (F0 m pc ls rest) q9) : W p l e R s m args below meth c H locs cells slots Q (F0 m pc ls st0) := by
  have hF := va_free (wc := wc) hD hS hA isC hC
  refine vx_calli hr hS (fun q _ h => hF q h) hF (fun q _ h => hF q h) (fun E ce q9 u t H1 locs1 ht hvm hp hB hz hk hS1 hce hcv hcl => ?_) (fun r u t H1 locs1 ht hvm hp hB hz hk hS1 => hp.elim)
  obtain ⟨hB, hP1, hD1⟩ : E = E0 ∧ va_P G vwCl wc t.heap ∧ va_D (va_A wc H.size) wc := hB
  subst hB
  rw [ht] at hP1
  have h9 := va_join (w1 := wc) hP hD isC isR hC hR hn hdis hk hF hP1 hD1
  exact kk ce q9 H1 locs1 hce hcv hcl h9.1 h9.2 hS1
end YCtx
