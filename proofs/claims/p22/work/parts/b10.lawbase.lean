/-! the law's loop: the script's numbers, what holds at the head -/
def sx (xs : Nat → Int32) (z : Int) : Int := (xs z.toNat).toInt
theorem band31 (x : Int) : 0 ≤ bAnd x 31 ∧ bAnd x 31 ≤ 31 := by
  unfold bAnd
  have h : (Int32.ofInt x &&& Int32.ofInt 31).toBitVec.toNat ≤ 31 := by
    rw [Int32.toBitVec_and, BitVec.toNat_and]
    exact Nat.le_trans Nat.and_le_right (by decide)
  have e : (Int32.ofInt x &&& Int32.ofInt 31).toInt = ((Int32.ofInt x &&& Int32.ofInt 31).toBitVec.toNat : Int) := BitVec.toInt_eq_toNat_of_lt (by omega)
  rw [e]
  omega
theorem lw_hts {a : Array Value} {s : State} (h : ∀ w ∈ lw_tbl, w.before a s = true) : ∀ w ∈ (.initialized RX9 :: wsL_law : List Cond), w.before a s = true := by
  intro w hw
  rcases List.mem_cons.mp hw with hq | hq
  · rw [hq]
    exact h _ (wsL_law_in _ (wg_at 0 2 rfl))
  · exact h w (wsL_law_in w hq)
section LS
variable {p : Program} {l : Launch} {e : Env} {R : Room} {s : State} {m : MethodId} {args : Array Value} {below : List Frame} {meth : Method} {c : Code} {H H0 : Heap} {locs : List Loc} {cells slots : Nat} {Q : State → Prop} {pc : Nat} {ls : Array Slot} {rest st0 : List Value} {cc : ByteArray} {x y : Int} {G : va_G} {k : Nat → ClassId} {A : Nat → Prop} {ws wc : va_W} {tys : List (ClassId × FieldType)} {a : Nat} {mc ms : Nat} {S : Type} {w1 : S → va_W} {av0 : Array Value} {E : (Nat → Prop) → State → Heap → Prop}
theorem iv_sld (hexec : p.tables.exec = Jvm.exec) (hb : c.code = cc) {b L : Nat} {xs : Nat → Int32} (hX : va_X b L xs s H0) (hbl : b < H0.size) (hbA : ¬ A b) (hS : va_S A H0 H locs) {z : Int} (h0 : 0 ≤ z) (h1 : z < L) (hL : L ≤ 2147483647) (hdg : decode cc pc = .ok (.iaload, 1)) (kk : W p l e R s m args below meth c H locs cells slots Q (F0 m (pc + 1) ls (.int (Int32.ofInt (sx xs z)) :: rest))) : W p l e R s m args below meth c H locs cells slots Q (F0 m pc ls (.int (Int32.ofInt (z)) :: .ref b :: rest)) := by
  refine va_sld hexec hb hX hbl hbA hS (iz_in h0 h1 hL) hdg ?_
  rw [iz_cl h0 (by omega), show xs z.toNat = Int32.ofInt (sx xs z) from (Int32.ofInt_toInt _).symm]
  exact kk
end LS
abbrev LInv (arT : Nat → Nat) (fiT : Nat → Int) (faT : Nat → Int → Int) (arY : Nat → Nat) (fiY : Nat → Int) (faY : Nat → Int → Int) (arP : Nat → Nat) (fiP : Nat → Int) (faP : Nat → Int → Int) (arD : Nat → Nat) (fiD : Nat → Int) (faD : Nat → Int → Int) (arB : Nat → Nat) (fiB : Nat → Int) (faB : Nat → Int → Int) (arK : Nat → Nat) (fiK : Nat → Int) (faK : Nat → Int → Int) (arS : Nat → Nat) (plS : Nat) (fiS : Nat → Int) (faS : Nat → Int → Int) (arR : Nat → Nat) (plR : Nat) (txR : Nat) (fiR : Nat → Int) (faR : Nat → Int → Int) (arM : Nat → Nat) (fiM : Nat → Int) (faM : Nat → Int → Int) (flM : Nat → Int64) (arO : Nat → Nat) (fiO : Nat → Int) (faO : Nat → Int → Int) (flO : Nat → Int64) : Prop := (∀ j, inR (fiT j)) ∧ (∀ j t, inR (faT j t)) ∧ (∀ j, inR (fiY j)) ∧ (∀ j t, inR (faY j t)) ∧ (bnd (faY 0) 600 (-128) 128) ∧ (∀ j, inR (fiP j)) ∧ (∀ j t, inR (faP j t)) ∧ (bnd (faP 8) 7 0 4) ∧ (bnd (faP 21) 4 0 601) ∧ (∀ j, inR (fiD j)) ∧ (∀ j t, inR (faD j t)) ∧ (bnd (faD 8) 7 0 4) ∧ (bnd (faD 21) 4 0 601) ∧ (∀ j, inR (fiB j)) ∧ (∀ j t, inR (faB j t)) ∧ (∀ j, inR (fiK j)) ∧ (∀ j t, inR (faK j t)) ∧ (∀ j, inR (fiS j)) ∧ (∀ j t, inR (faS j t)) ∧ (bnd (faS 5) 1500 (-1) 1500) ∧ (bnd (faS 7) 1024 (-1) 1500) ∧ (bnd (faS 8) 1500 (-1) 1500) ∧ (bnd (faS 9) 1500 0 1500) ∧ (bnd (faS 10) 1500 0 1500) ∧ (∀ j, inR (fiR j)) ∧ (∀ j t, inR (faR j t)) ∧ (∀ j, inR (fiM j)) ∧ (∀ j t, inR (faM j t)) ∧ (∀ j, inR (fiO j)) ∧ (∀ j t, inR (faO j t)) ∧ (0 ≤ fiT 1 ∧ fiT 1 ≤ 600 ∧ (fiT 8 = 0 ∨ fiT 8 = 1) ∧ fiT 1 = fiM 17 ∧ fiT 2 = fiM 26 ∧ fiT 8 = fiM 58) ∧ (0 ≤ fiP 7 ∧ fiP 7 ≤ 7 ∧ 0 ≤ fiP 0 ∧ fiP 0 ≤ 11 ∧ 0 ≤ fiP 24 ∧ fiP 24 ≤ 4 ∧ 0 ≤ fiP 23 ∧ fiP 23 ≤ 600) ∧ (0 ≤ fiD 7 ∧ fiD 7 ≤ 7 ∧ 0 ≤ fiD 0 ∧ fiD 0 ≤ 11 ∧ 0 ≤ fiD 24 ∧ fiD 24 ≤ 4 ∧ 0 ≤ fiD 23 ∧ fiD 23 ≤ 600) ∧ (0 ≤ fiB 1 ∧ fiB 1 ≤ 60 ∧ 0 ≤ fiB 4 ∧ fiB 4 ≤ 6) ∧ (0 ≤ fiK 1 ∧ fiK 1 ≤ 60 ∧ 0 ≤ fiK 4 ∧ fiK 4 ≤ 6) ∧ (0 ≤ fiS 6 ∧ fiS 6 ≤ 1500 ∧ (0 < fiS 6 → plS = arP 99)) ∧ (0 ≤ fiM 12 ∧ fiM 12 ≤ 7 ∧ 0 ≤ fiM 13 ∧ fiM 13 ≤ 4 ∧ 0 ≤ faM 3 0 ∧ faM 3 0 ≤ 11 ∧ 0 ≤ fiM 29 ∧ fiM 29 ≤ 60 ∧ 0 ≤ fiM 31 ∧ fiM 31 ≤ 6 ∧ (fiM 58 = 0 ∨ fiM 58 = 1) ∧ 0 ≤ fiM 60 ∧ fiM 60 ≤ 60 ∧ 0 ≤ fiM 62 ∧ fiM 62 ≤ 6) ∧ (∀ q9, 0 ≤ q9 → q9 < fiM 13 → RWf (faM 10) (faM 8 q9) (faM 9 q9)) ∧ (∀ i, 0 ≤ i → i < fiM 29 → ¬ faM 34 i = 2 → 0 ≤ faM 35 i ∧ faM 35 i < 7) ∧ (∀ i, 0 ≤ i → i < fiM 60 → ¬ faM 65 i = 2 → 0 ≤ faM 66 i ∧ faM 66 i < 7) ∧ (∀ t, faM 16 t = faY 0 t % 256)
