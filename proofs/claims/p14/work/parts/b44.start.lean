/-! what holds at the law's start: classes, array classes, links, texts, statics -/
theorem cz_self (vm : Vm) (c : ClassId) : vm.assignable c c = true := by
  show vm.assignableAux (255 + 1) c c = true
  rw [Vm.assignableAux]
  simp only [beq_self_eq_true, Bool.true_or]
theorem st_ref : ∀ q ∈ sNm, Cond.stringRef q.1 q.2.1 q.2.2 ∈ tables_1 := by decide +kernel
theorem st_ex : ∀ q ∈ sNm, Cond.exactly (.string q.1 q.2.1) "java/lang/String" ∈ flatC (Jvm.Cond.and given_1 narrow_1) := by decide +kernel
theorem st_unk : Cond.exactly (.static "RopeTown$Word" "UNKNOWN" "LRopeTown$Word;") "RopeTown$Word" ∈ flatC (Jvm.Cond.and given_1 narrow_1) := by decide +kernel
theorem st_us : Cond.isRef (.static Bundle.tN "UNASSIGNED_STACK" Bundle.steD) ∈ flatC (Jvm.Cond.and given_1 narrow_1) := by decide +kernel
theorem st_ss : Cond.isRef (.static Bundle.tN "SUPPRESSED_SENTINEL" Bundle.listD) ∈ flatC (Jvm.Cond.and given_1 narrow_1) := by decide +kernel
theorem cz_arr {args : Array Value} {s : State} {ty : FieldType} (h : (Cond.arrayClass ty).before args s = true) : ∃ cA : ClassId, s.vm.findClass ("[" ++ ty.toString) = some cA ∧ ArrOfT s cA ty := by
  obtain ⟨cA, kA, comp, h1, h2, h3⟩ := Cond.arrayClass_spec h
  exact ⟨cA, h1, fun n z => ⟨fun k h => (by cases h), kA, h2, comp, h3⟩⟩
theorem lw_at {A : Array Value} {s : State} (hts : ∀ w ∈ lw_tbl, w.before A s = true) {w : Cond} (i : Nat) (h : lw_tbl[i]? = some w) : w.before A s = true := hts w (List.mem_of_getElem? h)
def sT47 : List (String × Nat × List Int32) := [("RopeTownModel", 9, [100, 101, 112, 116, 104]), ("RopeTownModel", 11, [115, 116, 97, 114, 116]), ("RopeTownModel", 13, [99, 97, 112]), ("RopeTownModel", 15, [114, 111, 112, 101]), ("RopeTownModel", 17, [110, 101, 101, 100, 115]), ("RopeTownModel", 19, [109, 111, 115, 116]), ("RopeTownModel", 21, [98, 114, 97, 107, 101]), ("RopeTownModel", 23, [108, 111, 97, 100]), ("RopeTownModel", 25, [112, 101, 114, 115, 111, 110]), ("RopeTownModel", 27, [115, 116, 111, 110, 101]), ("RopeTownModel", 29, [119, 97, 116, 101, 114]), ("RopeTownModel", 31, [114, 117, 108, 101]), ("RopeTownModel", 39, [108, 111, 97, 100, 115]), ("RopeTownModel", 41, [112, 101, 111, 112, 108, 101]), ("RopeTownModel", 43, [115, 116, 111, 110, 101, 115]), ("RopeTownModel", 45, [119, 97, 116, 101, 114, 115]), ("RopeTownModel", 47, [119, 101, 105, 103, 104, 116]), ("RopeTownModel", 49, [111, 116, 104, 101, 114]), ("RopeTownModel", 293, [97, 116]), ("RopeTownModel", 298, [116, 111]), ("RopeTownModel", 275, [110, 111, 116]), ("RopeTownModel", 283, [97, 110, 100]), ("RopeTownModel", 288, [111, 114]), ("RopeTown$Word", 106, [100, 101, 112, 116, 104]), ("RopeTown$Word", 114, [115, 116, 97, 114, 116]), ("RopeTown$Word", 117, [99, 97, 112]), ("RopeTown$Word", 120, [114, 111, 112, 101]), ("RopeTown$Word", 123, [110, 101, 101, 100, 115]), ("RopeTown$Word", 126, [109, 111, 115, 116]), ("RopeTown$Word", 129, [98, 114, 97, 107, 101]), ("RopeTown$Word", 132, [108, 111, 97, 100]), ("RopeTown$Word", 135, [112, 101, 114, 115, 111, 110]), ("RopeTown$Word", 138, [115, 116, 111, 110, 101]), ("RopeTown$Word", 141, [119, 97, 116, 101, 114]), ("RopeTown$Word", 144, [97, 116]), ("RopeTown$Word", 147, [116, 111]), ("RopeTown$Word", 150, [114, 117, 108, 101]), ("RopeTown$Word", 153, [111, 114]), ("RopeTown$Word", 156, [97, 110, 100]), ("RopeTown$Word", 159, [110, 111, 116]), ("RopeTown$Word", 162, [108, 111, 97, 100, 115]), ("RopeTown$Word", 165, [112, 101, 111, 112, 108, 101]), ("RopeTown$Word", 168, [115, 116, 111, 110, 101, 115]), ("RopeTown$Word", 171, [119, 97, 116, 101, 114, 115]), ("RopeTown$Word", 174, [119, 101, 105, 103, 104, 116]), ("RopeTown$Word", 177, [111, 116, 104, 101, 114]), ("RopeTown$Word", 180, [])]
def gF : List Cond := flatC (Jvm.Cond.and given_1 narrow_1)
abbrev tS (c : String) (n : Nat) : Term := .field (.string c n) "java/lang/String" "value" "[B"
def pickC : List Bool → Cond → Option Cond
  | [], c => some c
  | false :: p, .and a _ => pickC p a
  | true :: p, .and _ d => pickC p d
  | _, _ => none
theorem pickC_mem : ∀ (p : List Bool) (c w : Cond), pickC p c = some w → ∀ x ∈ flatC w, x ∈ flatC c := by
  intro p
  induction p with
  | nil =>
    intro c w h x hx
    cases Option.some.inj (show some c = some w from h)
    exact hx
  | cons b p ih =>
    intro c w h x hx
    cases c with
    | and a d =>
      cases b with
      | false => exact List.mem_append_left _ (ih a w h x hx)
      | true => exact List.mem_append_right _ (ih d w h x hx)
    | _ => cases b <;> simp [pickC] at h
theorem pick_in {w : Cond} (p : List Bool) (h : pickC p (Jvm.Cond.and given_1 narrow_1) = some w) (hw : flatC w = [w]) : w ∈ gF := pickC_mem p _ w h w (by rw [hw]; exact List.mem_singleton.mpr rfl)
abbrev t47P (q : String × Nat × List Int32) : Prop := Cond.exactly (.string q.1 q.2.1) "java/lang/String" ∈ gF ∧ Cond.eq (.field (.string q.1 q.2.1) "java/lang/String" "coder" "B") (.int 0) ∈ gF ∧ Cond.arrayOf (tS q.1 q.2.1) .byte ∈ gF ∧ Cond.eq (.length (tS q.1 q.2.1)) (.int (Int32.ofNat q.2.2.length)) ∈ gF ∧ ∀ j ∈ List.range q.2.2.length, Cond.eq (.elem (tS q.1 q.2.1) (.int (Int32.ofNat j))) (.int (q.2.2.getD j 0)) ∈ gF
theorem t47_0 : t47P ("RopeTownModel", 9, [100, 101, 112, 116, 104]) := by
  refine ⟨pick_in [true, true, false, true, true, false, false, true, true, false, false] rfl rfl, pick_in [true, true, false, true, true, false, false, true, true, false, true, false] rfl rfl, pick_in [true, true, false, true, true, false, false, true, true, false, true, true] rfl rfl, pick_in [true, true, false, true, true, false, false, true, true, true, false, false] rfl rfl, fun j hj => ?_⟩
  have hj2 : j < 5 := List.mem_range.mp hj
  match j, hj2 with
  | 0, _ => exact pick_in [true, true, false, true, true, false, false, true, true, true, false, true] rfl rfl
  | 1, _ => exact pick_in [true, true, false, true, true, false, false, true, true, true, true, false] rfl rfl
  | 2, _ => exact pick_in [true, true, false, true, true, false, false, true, true, true, true, true] rfl rfl
  | 3, _ => exact pick_in [true, true, false, true, true, false, true, false, false, false, false] rfl rfl
  | 4, _ => exact pick_in [true, true, false, true, true, false, true, false, false, false, true, false] rfl rfl
  | j + 5, h9 => exact absurd h9 (by omega)
theorem t47_1 : t47P ("RopeTownModel", 11, [115, 116, 97, 114, 116]) := by
  refine ⟨pick_in [true, true, false, true, true, false, true, false, false, false, true, true] rfl rfl, pick_in [true, true, false, true, true, false, true, false, false, true, false] rfl rfl, pick_in [true, true, false, true, true, false, true, false, false, true, true, false] rfl rfl, pick_in [true, true, false, true, true, false, true, false, false, true, true, true] rfl rfl, fun j hj => ?_⟩
  have hj2 : j < 5 := List.mem_range.mp hj
  match j, hj2 with
  | 0, _ => exact pick_in [true, true, false, true, true, false, true, false, true, false, false] rfl rfl
  | 1, _ => exact pick_in [true, true, false, true, true, false, true, false, true, false, true, false] rfl rfl
  | 2, _ => exact pick_in [true, true, false, true, true, false, true, false, true, false, true, true] rfl rfl
  | 3, _ => exact pick_in [true, true, false, true, true, false, true, false, true, true, false] rfl rfl
  | 4, _ => exact pick_in [true, true, false, true, true, false, true, false, true, true, true, false] rfl rfl
  | j + 5, h9 => exact absurd h9 (by omega)
theorem t47_2 : t47P ("RopeTownModel", 13, [99, 97, 112]) := by
  refine ⟨pick_in [true, true, false, true, true, false, true, false, true, true, true, true] rfl rfl, pick_in [true, true, false, true, true, false, true, true, false, false, false] rfl rfl, pick_in [true, true, false, true, true, false, true, true, false, false, true, false] rfl rfl, pick_in [true, true, false, true, true, false, true, true, false, false, true, true] rfl rfl, fun j hj => ?_⟩
  have hj2 : j < 3 := List.mem_range.mp hj
  match j, hj2 with
  | 0, _ => exact pick_in [true, true, false, true, true, false, true, true, false, true, false] rfl rfl
  | 1, _ => exact pick_in [true, true, false, true, true, false, true, true, false, true, true, false] rfl rfl
  | 2, _ => exact pick_in [true, true, false, true, true, false, true, true, false, true, true, true] rfl rfl
  | j + 3, h9 => exact absurd h9 (by omega)
theorem t47_3 : t47P ("RopeTownModel", 15, [114, 111, 112, 101]) := by
  refine ⟨pick_in [true, true, false, true, true, false, true, true, true, false, false] rfl rfl, pick_in [true, true, false, true, true, false, true, true, true, false, true, false] rfl rfl, pick_in [true, true, false, true, true, false, true, true, true, false, true, true] rfl rfl, pick_in [true, true, false, true, true, false, true, true, true, true, false, false] rfl rfl, fun j hj => ?_⟩
  have hj2 : j < 4 := List.mem_range.mp hj
  match j, hj2 with
  | 0, _ => exact pick_in [true, true, false, true, true, false, true, true, true, true, false, true] rfl rfl
  | 1, _ => exact pick_in [true, true, false, true, true, false, true, true, true, true, true, false] rfl rfl
  | 2, _ => exact pick_in [true, true, false, true, true, false, true, true, true, true, true, true] rfl rfl
  | 3, _ => exact pick_in [true, true, false, true, true, true, false, false, false, false, false] rfl rfl
  | j + 4, h9 => exact absurd h9 (by omega)
theorem t47_4 : t47P ("RopeTownModel", 17, [110, 101, 101, 100, 115]) := by
  refine ⟨pick_in [true, true, false, true, true, true, false, false, false, false, true, false] rfl rfl, pick_in [true, true, false, true, true, true, false, false, false, false, true, true] rfl rfl, pick_in [true, true, false, true, true, true, false, false, false, true, false] rfl rfl, pick_in [true, true, false, true, true, true, false, false, false, true, true, false] rfl rfl, fun j hj => ?_⟩
  have hj2 : j < 5 := List.mem_range.mp hj
  match j, hj2 with
  | 0, _ => exact pick_in [true, true, false, true, true, true, false, false, false, true, true, true] rfl rfl
  | 1, _ => exact pick_in [true, true, false, true, true, true, false, false, true, false, false] rfl rfl
  | 2, _ => exact pick_in [true, true, false, true, true, true, false, false, true, false, true, false] rfl rfl
  | 3, _ => exact pick_in [true, true, false, true, true, true, false, false, true, false, true, true] rfl rfl
  | 4, _ => exact pick_in [true, true, false, true, true, true, false, false, true, true, false] rfl rfl
  | j + 5, h9 => exact absurd h9 (by omega)
theorem t47_5 : t47P ("RopeTownModel", 19, [109, 111, 115, 116]) := by
  refine ⟨pick_in [true, true, false, true, true, true, false, false, true, true, true, false] rfl rfl, pick_in [true, true, false, true, true, true, false, false, true, true, true, true] rfl rfl, pick_in [true, true, false, true, true, true, false, true, false, false, false] rfl rfl, pick_in [true, true, false, true, true, true, false, true, false, false, true, false] rfl rfl, fun j hj => ?_⟩
  have hj2 : j < 4 := List.mem_range.mp hj
  match j, hj2 with
  | 0, _ => exact pick_in [true, true, false, true, true, true, false, true, false, false, true, true] rfl rfl
  | 1, _ => exact pick_in [true, true, false, true, true, true, false, true, false, true, false] rfl rfl
  | 2, _ => exact pick_in [true, true, false, true, true, true, false, true, false, true, true, false] rfl rfl
  | 3, _ => exact pick_in [true, true, false, true, true, true, false, true, false, true, true, true] rfl rfl
  | j + 4, h9 => exact absurd h9 (by omega)
theorem t47_6 : t47P ("RopeTownModel", 21, [98, 114, 97, 107, 101]) := by
  refine ⟨pick_in [true, true, false, true, true, true, false, true, true, false, false] rfl rfl, pick_in [true, true, false, true, true, true, false, true, true, false, true, false] rfl rfl, pick_in [true, true, false, true, true, true, false, true, true, false, true, true] rfl rfl, pick_in [true, true, false, true, true, true, false, true, true, true, false, false] rfl rfl, fun j hj => ?_⟩
  have hj2 : j < 5 := List.mem_range.mp hj
  match j, hj2 with
  | 0, _ => exact pick_in [true, true, false, true, true, true, false, true, true, true, false, true] rfl rfl
  | 1, _ => exact pick_in [true, true, false, true, true, true, false, true, true, true, true, false] rfl rfl
  | 2, _ => exact pick_in [true, true, false, true, true, true, false, true, true, true, true, true] rfl rfl
  | 3, _ => exact pick_in [true, true, false, true, true, true, true, false, false, false, false] rfl rfl
  | 4, _ => exact pick_in [true, true, false, true, true, true, true, false, false, false, true, false] rfl rfl
  | j + 5, h9 => exact absurd h9 (by omega)
theorem t47_7 : t47P ("RopeTownModel", 23, [108, 111, 97, 100]) := by
  refine ⟨pick_in [true, true, false, true, true, true, true, false, false, false, true, true] rfl rfl, pick_in [true, true, false, true, true, true, true, false, false, true, false] rfl rfl, pick_in [true, true, false, true, true, true, true, false, false, true, true, false] rfl rfl, pick_in [true, true, false, true, true, true, true, false, false, true, true, true] rfl rfl, fun j hj => ?_⟩
  have hj2 : j < 4 := List.mem_range.mp hj
  match j, hj2 with
  | 0, _ => exact pick_in [true, true, false, true, true, true, true, false, true, false, false] rfl rfl
  | 1, _ => exact pick_in [true, true, false, true, true, true, true, false, true, false, true, false] rfl rfl
  | 2, _ => exact pick_in [true, true, false, true, true, true, true, false, true, false, true, true] rfl rfl
  | 3, _ => exact pick_in [true, true, false, true, true, true, true, false, true, true, false] rfl rfl
  | j + 4, h9 => exact absurd h9 (by omega)
theorem t47_8 : t47P ("RopeTownModel", 25, [112, 101, 114, 115, 111, 110]) := by
  refine ⟨pick_in [true, true, false, true, true, true, true, false, true, true, true, false] rfl rfl, pick_in [true, true, false, true, true, true, true, false, true, true, true, true] rfl rfl, pick_in [true, true, false, true, true, true, true, true, false, false, false] rfl rfl, pick_in [true, true, false, true, true, true, true, true, false, false, true, false] rfl rfl, fun j hj => ?_⟩
  have hj2 : j < 6 := List.mem_range.mp hj
  match j, hj2 with
  | 0, _ => exact pick_in [true, true, false, true, true, true, true, true, false, false, true, true] rfl rfl
  | 1, _ => exact pick_in [true, true, false, true, true, true, true, true, false, true, false] rfl rfl
  | 2, _ => exact pick_in [true, true, false, true, true, true, true, true, false, true, true, false] rfl rfl
  | 3, _ => exact pick_in [true, true, false, true, true, true, true, true, false, true, true, true] rfl rfl
  | 4, _ => exact pick_in [true, true, false, true, true, true, true, true, true, false, false] rfl rfl
  | 5, _ => exact pick_in [true, true, false, true, true, true, true, true, true, false, true, false] rfl rfl
  | j + 6, h9 => exact absurd h9 (by omega)
theorem t47_9 : t47P ("RopeTownModel", 27, [115, 116, 111, 110, 101]) := by
  refine ⟨pick_in [true, true, false, true, true, true, true, true, true, false, true, true] rfl rfl, pick_in [true, true, false, true, true, true, true, true, true, true, false, false] rfl rfl, pick_in [true, true, false, true, true, true, true, true, true, true, false, true] rfl rfl, pick_in [true, true, false, true, true, true, true, true, true, true, true, false] rfl rfl, fun j hj => ?_⟩
  have hj2 : j < 5 := List.mem_range.mp hj
  match j, hj2 with
  | 0, _ => exact pick_in [true, true, false, true, true, true, true, true, true, true, true, true] rfl rfl
  | 1, _ => exact pick_in [true, true, true, false, false, false, false, false, false, false, false] rfl rfl
  | 2, _ => exact pick_in [true, true, true, false, false, false, false, false, false, false, true] rfl rfl
  | 3, _ => exact pick_in [true, true, true, false, false, false, false, false, false, true, false] rfl rfl
  | 4, _ => exact pick_in [true, true, true, false, false, false, false, false, false, true, true, false] rfl rfl
  | j + 5, h9 => exact absurd h9 (by omega)
theorem t47_10 : t47P ("RopeTownModel", 29, [119, 97, 116, 101, 114]) := by
  refine ⟨pick_in [true, true, true, false, false, false, false, false, false, true, true, true] rfl rfl, pick_in [true, true, true, false, false, false, false, false, true, false, false] rfl rfl, pick_in [true, true, true, false, false, false, false, false, true, false, true] rfl rfl, pick_in [true, true, true, false, false, false, false, false, true, true, false] rfl rfl, fun j hj => ?_⟩
  have hj2 : j < 5 := List.mem_range.mp hj
  match j, hj2 with
  | 0, _ => exact pick_in [true, true, true, false, false, false, false, false, true, true, true, false] rfl rfl
  | 1, _ => exact pick_in [true, true, true, false, false, false, false, false, true, true, true, true] rfl rfl
  | 2, _ => exact pick_in [true, true, true, false, false, false, false, true, false, false, false] rfl rfl
  | 3, _ => exact pick_in [true, true, true, false, false, false, false, true, false, false, true] rfl rfl
  | 4, _ => exact pick_in [true, true, true, false, false, false, false, true, false, true, false] rfl rfl
  | j + 5, h9 => exact absurd h9 (by omega)
theorem t47_11 : t47P ("RopeTownModel", 31, [114, 117, 108, 101]) := by
  refine ⟨pick_in [true, true, true, false, false, false, false, true, false, true, true, false] rfl rfl, pick_in [true, true, true, false, false, false, false, true, false, true, true, true] rfl rfl, pick_in [true, true, true, false, false, false, false, true, true, false, false] rfl rfl, pick_in [true, true, true, false, false, false, false, true, true, false, true] rfl rfl, fun j hj => ?_⟩
  have hj2 : j < 4 := List.mem_range.mp hj
  match j, hj2 with
  | 0, _ => exact pick_in [true, true, true, false, false, false, false, true, true, true, false] rfl rfl
  | 1, _ => exact pick_in [true, true, true, false, false, false, false, true, true, true, true, false] rfl rfl
  | 2, _ => exact pick_in [true, true, true, false, false, false, false, true, true, true, true, true] rfl rfl
  | 3, _ => exact pick_in [true, true, true, false, false, false, true, false, false, false, false] rfl rfl
  | j + 4, h9 => exact absurd h9 (by omega)
theorem t47_12 : t47P ("RopeTownModel", 39, [108, 111, 97, 100, 115]) := by
  refine ⟨pick_in [true, true, true, false, false, false, true, false, false, false, true] rfl rfl, pick_in [true, true, true, false, false, false, true, false, false, true, false] rfl rfl, pick_in [true, true, true, false, false, false, true, false, false, true, true, false] rfl rfl, pick_in [true, true, true, false, false, false, true, false, false, true, true, true] rfl rfl, fun j hj => ?_⟩
  have hj2 : j < 5 := List.mem_range.mp hj
  match j, hj2 with
  | 0, _ => exact pick_in [true, true, true, false, false, false, true, false, true, false, false] rfl rfl
  | 1, _ => exact pick_in [true, true, true, false, false, false, true, false, true, false, true] rfl rfl
  | 2, _ => exact pick_in [true, true, true, false, false, false, true, false, true, true, false] rfl rfl
  | 3, _ => exact pick_in [true, true, true, false, false, false, true, false, true, true, true, false] rfl rfl
  | 4, _ => exact pick_in [true, true, true, false, false, false, true, false, true, true, true, true] rfl rfl
  | j + 5, h9 => exact absurd h9 (by omega)
theorem t47_13 : t47P ("RopeTownModel", 41, [112, 101, 111, 112, 108, 101]) := by
  refine ⟨pick_in [true, true, true, false, false, false, true, true, false, false, false] rfl rfl, pick_in [true, true, true, false, false, false, true, true, false, false, true] rfl rfl, pick_in [true, true, true, false, false, false, true, true, false, true, false] rfl rfl, pick_in [true, true, true, false, false, false, true, true, false, true, true, false] rfl rfl, fun j hj => ?_⟩
  have hj2 : j < 6 := List.mem_range.mp hj
  match j, hj2 with
  | 0, _ => exact pick_in [true, true, true, false, false, false, true, true, false, true, true, true] rfl rfl
  | 1, _ => exact pick_in [true, true, true, false, false, false, true, true, true, false, false] rfl rfl
  | 2, _ => exact pick_in [true, true, true, false, false, false, true, true, true, false, true, false] rfl rfl
  | 3, _ => exact pick_in [true, true, true, false, false, false, true, true, true, false, true, true] rfl rfl
  | 4, _ => exact pick_in [true, true, true, false, false, false, true, true, true, true, false] rfl rfl
  | 5, _ => exact pick_in [true, true, true, false, false, false, true, true, true, true, true, false] rfl rfl
  | j + 6, h9 => exact absurd h9 (by omega)
theorem t47_14 : t47P ("RopeTownModel", 43, [115, 116, 111, 110, 101, 115]) := by
  refine ⟨pick_in [true, true, true, false, false, false, true, true, true, true, true, true] rfl rfl, pick_in [true, true, true, false, false, true, false, false, false, false, false] rfl rfl, pick_in [true, true, true, false, false, true, false, false, false, false, true] rfl rfl, pick_in [true, true, true, false, false, true, false, false, false, true, false] rfl rfl, fun j hj => ?_⟩
  have hj2 : j < 6 := List.mem_range.mp hj
  match j, hj2 with
  | 0, _ => exact pick_in [true, true, true, false, false, true, false, false, false, true, true, false] rfl rfl
  | 1, _ => exact pick_in [true, true, true, false, false, true, false, false, false, true, true, true] rfl rfl
  | 2, _ => exact pick_in [true, true, true, false, false, true, false, false, true, false, false] rfl rfl
  | 3, _ => exact pick_in [true, true, true, false, false, true, false, false, true, false, true] rfl rfl
  | 4, _ => exact pick_in [true, true, true, false, false, true, false, false, true, true, false] rfl rfl
  | 5, _ => exact pick_in [true, true, true, false, false, true, false, false, true, true, true, false] rfl rfl
  | j + 6, h9 => exact absurd h9 (by omega)
theorem t47_15 : t47P ("RopeTownModel", 45, [119, 97, 116, 101, 114, 115]) := by
  refine ⟨pick_in [true, true, true, false, false, true, false, false, true, true, true, true] rfl rfl, pick_in [true, true, true, false, false, true, false, true, false, false, false] rfl rfl, pick_in [true, true, true, false, false, true, false, true, false, false, true] rfl rfl, pick_in [true, true, true, false, false, true, false, true, false, true, false] rfl rfl, fun j hj => ?_⟩
  have hj2 : j < 6 := List.mem_range.mp hj
  match j, hj2 with
  | 0, _ => exact pick_in [true, true, true, false, false, true, false, true, false, true, true, false] rfl rfl
  | 1, _ => exact pick_in [true, true, true, false, false, true, false, true, false, true, true, true] rfl rfl
  | 2, _ => exact pick_in [true, true, true, false, false, true, false, true, true, false, false] rfl rfl
  | 3, _ => exact pick_in [true, true, true, false, false, true, false, true, true, false, true, false] rfl rfl
  | 4, _ => exact pick_in [true, true, true, false, false, true, false, true, true, false, true, true] rfl rfl
  | 5, _ => exact pick_in [true, true, true, false, false, true, false, true, true, true, false] rfl rfl
  | j + 6, h9 => exact absurd h9 (by omega)
theorem t47_16 : t47P ("RopeTownModel", 47, [119, 101, 105, 103, 104, 116]) := by
  refine ⟨pick_in [true, true, true, false, false, true, false, true, true, true, true, false] rfl rfl, pick_in [true, true, true, false, false, true, false, true, true, true, true, true] rfl rfl, pick_in [true, true, true, false, false, true, true, false, false, false, false] rfl rfl, pick_in [true, true, true, false, false, true, true, false, false, false, true] rfl rfl, fun j hj => ?_⟩
  have hj2 : j < 6 := List.mem_range.mp hj
  match j, hj2 with
  | 0, _ => exact pick_in [true, true, true, false, false, true, true, false, false, true, false] rfl rfl
  | 1, _ => exact pick_in [true, true, true, false, false, true, true, false, false, true, true, false] rfl rfl
  | 2, _ => exact pick_in [true, true, true, false, false, true, true, false, false, true, true, true] rfl rfl
  | 3, _ => exact pick_in [true, true, true, false, false, true, true, false, true, false, false] rfl rfl
  | 4, _ => exact pick_in [true, true, true, false, false, true, true, false, true, false, true] rfl rfl
  | 5, _ => exact pick_in [true, true, true, false, false, true, true, false, true, true, false] rfl rfl
  | j + 6, h9 => exact absurd h9 (by omega)
theorem t47_17 : t47P ("RopeTownModel", 49, [111, 116, 104, 101, 114]) := by
  refine ⟨pick_in [true, true, true, false, false, true, true, false, true, true, true, false] rfl rfl, pick_in [true, true, true, false, false, true, true, false, true, true, true, true] rfl rfl, pick_in [true, true, true, false, false, true, true, true, false, false, false] rfl rfl, pick_in [true, true, true, false, false, true, true, true, false, false, true] rfl rfl, fun j hj => ?_⟩
  have hj2 : j < 5 := List.mem_range.mp hj
  match j, hj2 with
  | 0, _ => exact pick_in [true, true, true, false, false, true, true, true, false, true, false] rfl rfl
  | 1, _ => exact pick_in [true, true, true, false, false, true, true, true, false, true, true, false] rfl rfl
  | 2, _ => exact pick_in [true, true, true, false, false, true, true, true, false, true, true, true] rfl rfl
  | 3, _ => exact pick_in [true, true, true, false, false, true, true, true, true, false, false] rfl rfl
  | 4, _ => exact pick_in [true, true, true, false, false, true, true, true, true, false, true, false] rfl rfl
  | j + 5, h9 => exact absurd h9 (by omega)
theorem t47_18 : t47P ("RopeTownModel", 293, [97, 116]) := by
  refine ⟨pick_in [true, true, true, false, false, true, true, true, true, false, true, true] rfl rfl, pick_in [true, true, true, false, false, true, true, true, true, true, false] rfl rfl, pick_in [true, true, true, false, false, true, true, true, true, true, true, false] rfl rfl, pick_in [true, true, true, false, false, true, true, true, true, true, true, true] rfl rfl, fun j hj => ?_⟩
  have hj2 : j < 2 := List.mem_range.mp hj
  match j, hj2 with
  | 0, _ => exact pick_in [true, true, true, false, true, false, false, false, false, false, false] rfl rfl
  | 1, _ => exact pick_in [true, true, true, false, true, false, false, false, false, false, true] rfl rfl
  | j + 2, h9 => exact absurd h9 (by omega)
theorem t47_19 : t47P ("RopeTownModel", 298, [116, 111]) := by
  refine ⟨pick_in [true, true, true, false, true, false, false, false, false, true, false] rfl rfl, pick_in [true, true, true, false, true, false, false, false, false, true, true, false] rfl rfl, pick_in [true, true, true, false, true, false, false, false, false, true, true, true] rfl rfl, pick_in [true, true, true, false, true, false, false, false, true, false, false] rfl rfl, fun j hj => ?_⟩
  have hj2 : j < 2 := List.mem_range.mp hj
  match j, hj2 with
  | 0, _ => exact pick_in [true, true, true, false, true, false, false, false, true, false, true] rfl rfl
  | 1, _ => exact pick_in [true, true, true, false, true, false, false, false, true, true, false] rfl rfl
  | j + 2, h9 => exact absurd h9 (by omega)
theorem t47_20 : t47P ("RopeTownModel", 275, [110, 111, 116]) := by
  refine ⟨pick_in [true, true, true, false, true, false, false, false, true, true, true, false] rfl rfl, pick_in [true, true, true, false, true, false, false, false, true, true, true, true] rfl rfl, pick_in [true, true, true, false, true, false, false, true, false, false, false] rfl rfl, pick_in [true, true, true, false, true, false, false, true, false, false, true] rfl rfl, fun j hj => ?_⟩
  have hj2 : j < 3 := List.mem_range.mp hj
  match j, hj2 with
  | 0, _ => exact pick_in [true, true, true, false, true, false, false, true, false, true, false] rfl rfl
  | 1, _ => exact pick_in [true, true, true, false, true, false, false, true, false, true, true, false] rfl rfl
  | 2, _ => exact pick_in [true, true, true, false, true, false, false, true, false, true, true, true] rfl rfl
  | j + 3, h9 => exact absurd h9 (by omega)
theorem t47_21 : t47P ("RopeTownModel", 283, [97, 110, 100]) := by
  refine ⟨pick_in [true, true, true, false, true, false, false, true, true, false, false] rfl rfl, pick_in [true, true, true, false, true, false, false, true, true, false, true] rfl rfl, pick_in [true, true, true, false, true, false, false, true, true, true, false] rfl rfl, pick_in [true, true, true, false, true, false, false, true, true, true, true, false] rfl rfl, fun j hj => ?_⟩
  have hj2 : j < 3 := List.mem_range.mp hj
  match j, hj2 with
  | 0, _ => exact pick_in [true, true, true, false, true, false, false, true, true, true, true, true] rfl rfl
  | 1, _ => exact pick_in [true, true, true, false, true, false, true, false, false, false, false] rfl rfl
  | 2, _ => exact pick_in [true, true, true, false, true, false, true, false, false, false, true] rfl rfl
  | j + 3, h9 => exact absurd h9 (by omega)
theorem t47_22 : t47P ("RopeTownModel", 288, [111, 114]) := by
  refine ⟨pick_in [true, true, true, false, true, false, true, false, false, true, false] rfl rfl, pick_in [true, true, true, false, true, false, true, false, false, true, true, false] rfl rfl, pick_in [true, true, true, false, true, false, true, false, false, true, true, true] rfl rfl, pick_in [true, true, true, false, true, false, true, false, true, false, false] rfl rfl, fun j hj => ?_⟩
  have hj2 : j < 2 := List.mem_range.mp hj
  match j, hj2 with
  | 0, _ => exact pick_in [true, true, true, false, true, false, true, false, true, false, true] rfl rfl
  | 1, _ => exact pick_in [true, true, true, false, true, false, true, false, true, true, false] rfl rfl
  | j + 2, h9 => exact absurd h9 (by omega)
theorem t47_23 : t47P ("RopeTown$Word", 106, [100, 101, 112, 116, 104]) := by
  refine ⟨pick_in [true, true, true, false, true, true, true, false, true, true, false] rfl rfl, pick_in [true, true, true, false, true, true, true, false, true, true, true, false] rfl rfl, pick_in [true, true, true, false, true, true, true, false, true, true, true, true] rfl rfl, pick_in [true, true, true, false, true, true, true, true, false, false, false] rfl rfl, fun j hj => ?_⟩
  have hj2 : j < 5 := List.mem_range.mp hj
  match j, hj2 with
  | 0, _ => exact pick_in [true, true, true, false, true, true, true, true, false, false, true] rfl rfl
  | 1, _ => exact pick_in [true, true, true, false, true, true, true, true, false, true, false] rfl rfl
  | 2, _ => exact pick_in [true, true, true, false, true, true, true, true, false, true, true, false] rfl rfl
  | 3, _ => exact pick_in [true, true, true, false, true, true, true, true, false, true, true, true] rfl rfl
  | 4, _ => exact pick_in [true, true, true, false, true, true, true, true, true, false, false] rfl rfl
  | j + 5, h9 => exact absurd h9 (by omega)
theorem t47_24 : t47P ("RopeTown$Word", 114, [115, 116, 97, 114, 116]) := by
  refine ⟨pick_in [true, true, true, false, true, true, true, true, true, false, true, true] rfl rfl, pick_in [true, true, true, false, true, true, true, true, true, true, false] rfl rfl, pick_in [true, true, true, false, true, true, true, true, true, true, true, false] rfl rfl, pick_in [true, true, true, false, true, true, true, true, true, true, true, true] rfl rfl, fun j hj => ?_⟩
  have hj2 : j < 5 := List.mem_range.mp hj
  match j, hj2 with
  | 0, _ => exact pick_in [true, true, true, true, false, false, false, false, false, false, false] rfl rfl
  | 1, _ => exact pick_in [true, true, true, true, false, false, false, false, false, false, true] rfl rfl
  | 2, _ => exact pick_in [true, true, true, true, false, false, false, false, false, true, false] rfl rfl
  | 3, _ => exact pick_in [true, true, true, true, false, false, false, false, false, true, true, false] rfl rfl
  | 4, _ => exact pick_in [true, true, true, true, false, false, false, false, false, true, true, true] rfl rfl
  | j + 5, h9 => exact absurd h9 (by omega)
theorem t47_25 : t47P ("RopeTown$Word", 117, [99, 97, 112]) := by
  refine ⟨pick_in [true, true, true, true, false, false, false, false, true, false, true] rfl rfl, pick_in [true, true, true, true, false, false, false, false, true, true, false] rfl rfl, pick_in [true, true, true, true, false, false, false, false, true, true, true, false] rfl rfl, pick_in [true, true, true, true, false, false, false, false, true, true, true, true] rfl rfl, fun j hj => ?_⟩
  have hj2 : j < 3 := List.mem_range.mp hj
  match j, hj2 with
  | 0, _ => exact pick_in [true, true, true, true, false, false, false, true, false, false, false] rfl rfl
  | 1, _ => exact pick_in [true, true, true, true, false, false, false, true, false, false, true] rfl rfl
  | 2, _ => exact pick_in [true, true, true, true, false, false, false, true, false, true, false] rfl rfl
  | j + 3, h9 => exact absurd h9 (by omega)
theorem t47_26 : t47P ("RopeTown$Word", 120, [114, 111, 112, 101]) := by
  refine ⟨pick_in [true, true, true, true, false, false, false, true, false, true, true, true] rfl rfl, pick_in [true, true, true, true, false, false, false, true, true, false, false] rfl rfl, pick_in [true, true, true, true, false, false, false, true, true, false, true] rfl rfl, pick_in [true, true, true, true, false, false, false, true, true, true, false] rfl rfl, fun j hj => ?_⟩
  have hj2 : j < 4 := List.mem_range.mp hj
  match j, hj2 with
  | 0, _ => exact pick_in [true, true, true, true, false, false, false, true, true, true, true, false] rfl rfl
  | 1, _ => exact pick_in [true, true, true, true, false, false, false, true, true, true, true, true] rfl rfl
  | 2, _ => exact pick_in [true, true, true, true, false, false, true, false, false, false, false] rfl rfl
  | 3, _ => exact pick_in [true, true, true, true, false, false, true, false, false, false, true] rfl rfl
  | j + 4, h9 => exact absurd h9 (by omega)
theorem t47_27 : t47P ("RopeTown$Word", 123, [110, 101, 101, 100, 115]) := by
  refine ⟨pick_in [true, true, true, true, false, false, true, false, false, true, true, false] rfl rfl, pick_in [true, true, true, true, false, false, true, false, false, true, true, true] rfl rfl, pick_in [true, true, true, true, false, false, true, false, true, false, false] rfl rfl, pick_in [true, true, true, true, false, false, true, false, true, false, true] rfl rfl, fun j hj => ?_⟩
  have hj2 : j < 5 := List.mem_range.mp hj
  match j, hj2 with
  | 0, _ => exact pick_in [true, true, true, true, false, false, true, false, true, true, false] rfl rfl
  | 1, _ => exact pick_in [true, true, true, true, false, false, true, false, true, true, true, false] rfl rfl
  | 2, _ => exact pick_in [true, true, true, true, false, false, true, false, true, true, true, true] rfl rfl
  | 3, _ => exact pick_in [true, true, true, true, false, false, true, true, false, false, false] rfl rfl
  | 4, _ => exact pick_in [true, true, true, true, false, false, true, true, false, false, true] rfl rfl
  | j + 5, h9 => exact absurd h9 (by omega)
theorem t47_28 : t47P ("RopeTown$Word", 126, [109, 111, 115, 116]) := by
  refine ⟨pick_in [true, true, true, true, false, false, true, true, false, true, true, false] rfl rfl, pick_in [true, true, true, true, false, false, true, true, false, true, true, true] rfl rfl, pick_in [true, true, true, true, false, false, true, true, true, false, false] rfl rfl, pick_in [true, true, true, true, false, false, true, true, true, false, true, false] rfl rfl, fun j hj => ?_⟩
  have hj2 : j < 4 := List.mem_range.mp hj
  match j, hj2 with
  | 0, _ => exact pick_in [true, true, true, true, false, false, true, true, true, false, true, true] rfl rfl
  | 1, _ => exact pick_in [true, true, true, true, false, false, true, true, true, true, false] rfl rfl
  | 2, _ => exact pick_in [true, true, true, true, false, false, true, true, true, true, true, false] rfl rfl
  | 3, _ => exact pick_in [true, true, true, true, false, false, true, true, true, true, true, true] rfl rfl
  | j + 4, h9 => exact absurd h9 (by omega)
theorem t47_29 : t47P ("RopeTown$Word", 129, [98, 114, 97, 107, 101]) := by
  refine ⟨pick_in [true, true, true, true, false, true, false, false, false, false, true] rfl rfl, pick_in [true, true, true, true, false, true, false, false, false, true, false] rfl rfl, pick_in [true, true, true, true, false, true, false, false, false, true, true, false] rfl rfl, pick_in [true, true, true, true, false, true, false, false, false, true, true, true] rfl rfl, fun j hj => ?_⟩
  have hj2 : j < 5 := List.mem_range.mp hj
  match j, hj2 with
  | 0, _ => exact pick_in [true, true, true, true, false, true, false, false, true, false, false] rfl rfl
  | 1, _ => exact pick_in [true, true, true, true, false, true, false, false, true, false, true] rfl rfl
  | 2, _ => exact pick_in [true, true, true, true, false, true, false, false, true, true, false] rfl rfl
  | 3, _ => exact pick_in [true, true, true, true, false, true, false, false, true, true, true, false] rfl rfl
  | 4, _ => exact pick_in [true, true, true, true, false, true, false, false, true, true, true, true] rfl rfl
  | j + 5, h9 => exact absurd h9 (by omega)
theorem t47_30 : t47P ("RopeTown$Word", 132, [108, 111, 97, 100]) := by
  refine ⟨pick_in [true, true, true, true, false, true, false, true, false, false, true] rfl rfl, pick_in [true, true, true, true, false, true, false, true, false, true, false] rfl rfl, pick_in [true, true, true, true, false, true, false, true, false, true, true, false] rfl rfl, pick_in [true, true, true, true, false, true, false, true, false, true, true, true] rfl rfl, fun j hj => ?_⟩
  have hj2 : j < 4 := List.mem_range.mp hj
  match j, hj2 with
  | 0, _ => exact pick_in [true, true, true, true, false, true, false, true, true, false, false] rfl rfl
  | 1, _ => exact pick_in [true, true, true, true, false, true, false, true, true, false, true, false] rfl rfl
  | 2, _ => exact pick_in [true, true, true, true, false, true, false, true, true, false, true, true] rfl rfl
  | 3, _ => exact pick_in [true, true, true, true, false, true, false, true, true, true, false] rfl rfl
  | j + 4, h9 => exact absurd h9 (by omega)
theorem t47_31 : t47P ("RopeTown$Word", 135, [112, 101, 114, 115, 111, 110]) := by
  refine ⟨pick_in [true, true, true, true, false, true, false, true, true, true, true, true] rfl rfl, pick_in [true, true, true, true, false, true, true, false, false, false, false] rfl rfl, pick_in [true, true, true, true, false, true, true, false, false, false, true] rfl rfl, pick_in [true, true, true, true, false, true, true, false, false, true, false] rfl rfl, fun j hj => ?_⟩
  have hj2 : j < 6 := List.mem_range.mp hj
  match j, hj2 with
  | 0, _ => exact pick_in [true, true, true, true, false, true, true, false, false, true, true, false] rfl rfl
  | 1, _ => exact pick_in [true, true, true, true, false, true, true, false, false, true, true, true] rfl rfl
  | 2, _ => exact pick_in [true, true, true, true, false, true, true, false, true, false, false] rfl rfl
  | 3, _ => exact pick_in [true, true, true, true, false, true, true, false, true, false, true] rfl rfl
  | 4, _ => exact pick_in [true, true, true, true, false, true, true, false, true, true, false] rfl rfl
  | 5, _ => exact pick_in [true, true, true, true, false, true, true, false, true, true, true, false] rfl rfl
  | j + 6, h9 => exact absurd h9 (by omega)
theorem t47_32 : t47P ("RopeTown$Word", 138, [115, 116, 111, 110, 101]) := by
  refine ⟨pick_in [true, true, true, true, false, true, true, true, false, false, false] rfl rfl, pick_in [true, true, true, true, false, true, true, true, false, false, true] rfl rfl, pick_in [true, true, true, true, false, true, true, true, false, true, false] rfl rfl, pick_in [true, true, true, true, false, true, true, true, false, true, true, false] rfl rfl, fun j hj => ?_⟩
  have hj2 : j < 5 := List.mem_range.mp hj
  match j, hj2 with
  | 0, _ => exact pick_in [true, true, true, true, false, true, true, true, false, true, true, true] rfl rfl
  | 1, _ => exact pick_in [true, true, true, true, false, true, true, true, true, false, false] rfl rfl
  | 2, _ => exact pick_in [true, true, true, true, false, true, true, true, true, false, true, false] rfl rfl
  | 3, _ => exact pick_in [true, true, true, true, false, true, true, true, true, false, true, true] rfl rfl
  | 4, _ => exact pick_in [true, true, true, true, false, true, true, true, true, true, false] rfl rfl
  | j + 5, h9 => exact absurd h9 (by omega)
theorem t47_33 : t47P ("RopeTown$Word", 141, [119, 97, 116, 101, 114]) := by
  refine ⟨pick_in [true, true, true, true, false, true, true, true, true, true, true, true] rfl rfl, pick_in [true, true, true, true, true, false, false, false, false, false, false] rfl rfl, pick_in [true, true, true, true, true, false, false, false, false, false, true] rfl rfl, pick_in [true, true, true, true, true, false, false, false, false, true, false] rfl rfl, fun j hj => ?_⟩
  have hj2 : j < 5 := List.mem_range.mp hj
  match j, hj2 with
  | 0, _ => exact pick_in [true, true, true, true, true, false, false, false, false, true, true, false] rfl rfl
  | 1, _ => exact pick_in [true, true, true, true, true, false, false, false, false, true, true, true] rfl rfl
  | 2, _ => exact pick_in [true, true, true, true, true, false, false, false, true, false, false] rfl rfl
  | 3, _ => exact pick_in [true, true, true, true, true, false, false, false, true, false, true] rfl rfl
  | 4, _ => exact pick_in [true, true, true, true, true, false, false, false, true, true, false] rfl rfl
  | j + 5, h9 => exact absurd h9 (by omega)
theorem t47_34 : t47P ("RopeTown$Word", 144, [97, 116]) := by
  refine ⟨pick_in [true, true, true, false, true, false, true, true, false, true, false] rfl rfl, pick_in [true, true, true, false, true, false, true, true, false, true, true, false] rfl rfl, pick_in [true, true, true, false, true, false, true, true, false, true, true, true] rfl rfl, pick_in [true, true, true, false, true, false, true, true, true, false, false] rfl rfl, fun j hj => ?_⟩
  have hj2 : j < 2 := List.mem_range.mp hj
  match j, hj2 with
  | 0, _ => exact pick_in [true, true, true, false, true, false, true, true, true, false, true, false] rfl rfl
  | 1, _ => exact pick_in [true, true, true, false, true, false, true, true, true, false, true, true] rfl rfl
  | j + 2, h9 => exact absurd h9 (by omega)
theorem t47_35 : t47P ("RopeTown$Word", 147, [116, 111]) := by
  refine ⟨pick_in [true, true, true, false, true, false, true, true, true, true, true, false] rfl rfl, pick_in [true, true, true, false, true, false, true, true, true, true, true, true] rfl rfl, pick_in [true, true, true, false, true, true, false, false, false, false, false] rfl rfl, pick_in [true, true, true, false, true, true, false, false, false, false, true] rfl rfl, fun j hj => ?_⟩
  have hj2 : j < 2 := List.mem_range.mp hj
  match j, hj2 with
  | 0, _ => exact pick_in [true, true, true, false, true, true, false, false, false, true, false] rfl rfl
  | 1, _ => exact pick_in [true, true, true, false, true, true, false, false, false, true, true, false] rfl rfl
  | j + 2, h9 => exact absurd h9 (by omega)
theorem t47_36 : t47P ("RopeTown$Word", 150, [114, 117, 108, 101]) := by
  refine ⟨pick_in [true, true, true, true, true, false, false, false, true, true, true, true] rfl rfl, pick_in [true, true, true, true, true, false, false, true, false, false, false] rfl rfl, pick_in [true, true, true, true, true, false, false, true, false, false, true] rfl rfl, pick_in [true, true, true, true, true, false, false, true, false, true, false] rfl rfl, fun j hj => ?_⟩
  have hj2 : j < 4 := List.mem_range.mp hj
  match j, hj2 with
  | 0, _ => exact pick_in [true, true, true, true, true, false, false, true, false, true, true, false] rfl rfl
  | 1, _ => exact pick_in [true, true, true, true, true, false, false, true, false, true, true, true] rfl rfl
  | 2, _ => exact pick_in [true, true, true, true, true, false, false, true, true, false, false] rfl rfl
  | 3, _ => exact pick_in [true, true, true, true, true, false, false, true, true, false, true, false] rfl rfl
  | j + 4, h9 => exact absurd h9 (by omega)
theorem t47_37 : t47P ("RopeTown$Word", 153, [111, 114]) := by
  refine ⟨pick_in [true, true, true, false, true, true, false, true, false, true, true, false] rfl rfl, pick_in [true, true, true, false, true, true, false, true, false, true, true, true] rfl rfl, pick_in [true, true, true, false, true, true, false, true, true, false, false] rfl rfl, pick_in [true, true, true, false, true, true, false, true, true, false, true, false] rfl rfl, fun j hj => ?_⟩
  have hj2 : j < 2 := List.mem_range.mp hj
  match j, hj2 with
  | 0, _ => exact pick_in [true, true, true, false, true, true, false, true, true, false, true, true] rfl rfl
  | 1, _ => exact pick_in [true, true, true, false, true, true, false, true, true, true, false] rfl rfl
  | j + 2, h9 => exact absurd h9 (by omega)
theorem t47_38 : t47P ("RopeTown$Word", 156, [97, 110, 100]) := by
  refine ⟨pick_in [true, true, true, false, true, true, false, true, true, true, true, true] rfl rfl, pick_in [true, true, true, false, true, true, true, false, false, false, false] rfl rfl, pick_in [true, true, true, false, true, true, true, false, false, false, true] rfl rfl, pick_in [true, true, true, false, true, true, true, false, false, true, false] rfl rfl, fun j hj => ?_⟩
  have hj2 : j < 3 := List.mem_range.mp hj
  match j, hj2 with
  | 0, _ => exact pick_in [true, true, true, false, true, true, true, false, false, true, true, false] rfl rfl
  | 1, _ => exact pick_in [true, true, true, false, true, true, true, false, false, true, true, true] rfl rfl
  | 2, _ => exact pick_in [true, true, true, false, true, true, true, false, true, false, false] rfl rfl
  | j + 3, h9 => exact absurd h9 (by omega)
theorem t47_39 : t47P ("RopeTown$Word", 159, [110, 111, 116]) := by
  refine ⟨pick_in [true, true, true, false, true, true, false, false, true, false, false] rfl rfl, pick_in [true, true, true, false, true, true, false, false, true, false, true] rfl rfl, pick_in [true, true, true, false, true, true, false, false, true, true, false] rfl rfl, pick_in [true, true, true, false, true, true, false, false, true, true, true, false] rfl rfl, fun j hj => ?_⟩
  have hj2 : j < 3 := List.mem_range.mp hj
  match j, hj2 with
  | 0, _ => exact pick_in [true, true, true, false, true, true, false, false, true, true, true, true] rfl rfl
  | 1, _ => exact pick_in [true, true, true, false, true, true, false, true, false, false, false] rfl rfl
  | 2, _ => exact pick_in [true, true, true, false, true, true, false, true, false, false, true] rfl rfl
  | j + 3, h9 => exact absurd h9 (by omega)
theorem t47_40 : t47P ("RopeTown$Word", 162, [108, 111, 97, 100, 115]) := by
  refine ⟨pick_in [true, true, true, true, true, false, false, true, true, true, false] rfl rfl, pick_in [true, true, true, true, true, false, false, true, true, true, true, false] rfl rfl, pick_in [true, true, true, true, true, false, false, true, true, true, true, true] rfl rfl, pick_in [true, true, true, true, true, false, true, false, false, false, false] rfl rfl, fun j hj => ?_⟩
  have hj2 : j < 5 := List.mem_range.mp hj
  match j, hj2 with
  | 0, _ => exact pick_in [true, true, true, true, true, false, true, false, false, false, true] rfl rfl
  | 1, _ => exact pick_in [true, true, true, true, true, false, true, false, false, true, false] rfl rfl
  | 2, _ => exact pick_in [true, true, true, true, true, false, true, false, false, true, true, false] rfl rfl
  | 3, _ => exact pick_in [true, true, true, true, true, false, true, false, false, true, true, true] rfl rfl
  | 4, _ => exact pick_in [true, true, true, true, true, false, true, false, true, false, false] rfl rfl
  | j + 5, h9 => exact absurd h9 (by omega)
theorem t47_41 : t47P ("RopeTown$Word", 165, [112, 101, 111, 112, 108, 101]) := by
  refine ⟨pick_in [true, true, true, true, true, false, true, false, true, true, false] rfl rfl, pick_in [true, true, true, true, true, false, true, false, true, true, true, false] rfl rfl, pick_in [true, true, true, true, true, false, true, false, true, true, true, true] rfl rfl, pick_in [true, true, true, true, true, false, true, true, false, false, false] rfl rfl, fun j hj => ?_⟩
  have hj2 : j < 6 := List.mem_range.mp hj
  match j, hj2 with
  | 0, _ => exact pick_in [true, true, true, true, true, false, true, true, false, false, true] rfl rfl
  | 1, _ => exact pick_in [true, true, true, true, true, false, true, true, false, true, false] rfl rfl
  | 2, _ => exact pick_in [true, true, true, true, true, false, true, true, false, true, true, false] rfl rfl
  | 3, _ => exact pick_in [true, true, true, true, true, false, true, true, false, true, true, true] rfl rfl
  | 4, _ => exact pick_in [true, true, true, true, true, false, true, true, true, false, false] rfl rfl
  | 5, _ => exact pick_in [true, true, true, true, true, false, true, true, true, false, true, false] rfl rfl
  | j + 6, h9 => exact absurd h9 (by omega)
theorem t47_42 : t47P ("RopeTown$Word", 168, [115, 116, 111, 110, 101, 115]) := by
  refine ⟨pick_in [true, true, true, true, true, false, true, true, true, true, false] rfl rfl, pick_in [true, true, true, true, true, false, true, true, true, true, true, false] rfl rfl, pick_in [true, true, true, true, true, false, true, true, true, true, true, true] rfl rfl, pick_in [true, true, true, true, true, true, false, false, false, false, false] rfl rfl, fun j hj => ?_⟩
  have hj2 : j < 6 := List.mem_range.mp hj
  match j, hj2 with
  | 0, _ => exact pick_in [true, true, true, true, true, true, false, false, false, false, true] rfl rfl
  | 1, _ => exact pick_in [true, true, true, true, true, true, false, false, false, true, false] rfl rfl
  | 2, _ => exact pick_in [true, true, true, true, true, true, false, false, false, true, true, false] rfl rfl
  | 3, _ => exact pick_in [true, true, true, true, true, true, false, false, false, true, true, true] rfl rfl
  | 4, _ => exact pick_in [true, true, true, true, true, true, false, false, true, false, false] rfl rfl
  | 5, _ => exact pick_in [true, true, true, true, true, true, false, false, true, false, true] rfl rfl
  | j + 6, h9 => exact absurd h9 (by omega)
theorem t47_43 : t47P ("RopeTown$Word", 171, [119, 97, 116, 101, 114, 115]) := by
  refine ⟨pick_in [true, true, true, true, true, true, false, false, true, true, true, false] rfl rfl, pick_in [true, true, true, true, true, true, false, false, true, true, true, true] rfl rfl, pick_in [true, true, true, true, true, true, false, true, false, false, false] rfl rfl, pick_in [true, true, true, true, true, true, false, true, false, false, true] rfl rfl, fun j hj => ?_⟩
  have hj2 : j < 6 := List.mem_range.mp hj
  match j, hj2 with
  | 0, _ => exact pick_in [true, true, true, true, true, true, false, true, false, true, false] rfl rfl
  | 1, _ => exact pick_in [true, true, true, true, true, true, false, true, false, true, true, false] rfl rfl
  | 2, _ => exact pick_in [true, true, true, true, true, true, false, true, false, true, true, true] rfl rfl
  | 3, _ => exact pick_in [true, true, true, true, true, true, false, true, true, false, false] rfl rfl
  | 4, _ => exact pick_in [true, true, true, true, true, true, false, true, true, false, true, false] rfl rfl
  | 5, _ => exact pick_in [true, true, true, true, true, true, false, true, true, false, true, true] rfl rfl
  | j + 6, h9 => exact absurd h9 (by omega)
theorem t47_44 : t47P ("RopeTown$Word", 174, [119, 101, 105, 103, 104, 116]) := by
  refine ⟨pick_in [true, true, true, true, true, true, false, true, true, true, true, false] rfl rfl, pick_in [true, true, true, true, true, true, false, true, true, true, true, true] rfl rfl, pick_in [true, true, true, true, true, true, true, false, false, false, false] rfl rfl, pick_in [true, true, true, true, true, true, true, false, false, false, true] rfl rfl, fun j hj => ?_⟩
  have hj2 : j < 6 := List.mem_range.mp hj
  match j, hj2 with
  | 0, _ => exact pick_in [true, true, true, true, true, true, true, false, false, true, false] rfl rfl
  | 1, _ => exact pick_in [true, true, true, true, true, true, true, false, false, true, true, false] rfl rfl
  | 2, _ => exact pick_in [true, true, true, true, true, true, true, false, false, true, true, true] rfl rfl
  | 3, _ => exact pick_in [true, true, true, true, true, true, true, false, true, false, false] rfl rfl
  | 4, _ => exact pick_in [true, true, true, true, true, true, true, false, true, false, true] rfl rfl
  | 5, _ => exact pick_in [true, true, true, true, true, true, true, false, true, true, false] rfl rfl
  | j + 6, h9 => exact absurd h9 (by omega)
theorem t47_45 : t47P ("RopeTown$Word", 177, [111, 116, 104, 101, 114]) := by
  refine ⟨pick_in [true, true, true, true, true, true, true, false, true, true, true, true] rfl rfl, pick_in [true, true, true, true, true, true, true, true, false, false, false] rfl rfl, pick_in [true, true, true, true, true, true, true, true, false, false, true] rfl rfl, pick_in [true, true, true, true, true, true, true, true, false, true, false] rfl rfl, fun j hj => ?_⟩
  have hj2 : j < 5 := List.mem_range.mp hj
  match j, hj2 with
  | 0, _ => exact pick_in [true, true, true, true, true, true, true, true, false, true, true, false] rfl rfl
  | 1, _ => exact pick_in [true, true, true, true, true, true, true, true, false, true, true, true] rfl rfl
  | 2, _ => exact pick_in [true, true, true, true, true, true, true, true, true, false, false] rfl rfl
  | 3, _ => exact pick_in [true, true, true, true, true, true, true, true, true, false, true, false] rfl rfl
  | 4, _ => exact pick_in [true, true, true, true, true, true, true, true, true, false, true, true] rfl rfl
  | j + 5, h9 => exact absurd h9 (by omega)
theorem t47_46 : t47P ("RopeTown$Word", 180, []) := by
  refine ⟨pick_in [true, true, true, false, true, false, true, false, true, true, true, false] rfl rfl, pick_in [true, true, true, false, true, false, true, false, true, true, true, true] rfl rfl, pick_in [true, true, true, false, true, false, true, true, false, false, false] rfl rfl, pick_in [true, true, true, false, true, false, true, true, false, false, true] rfl rfl, fun j hj => ?_⟩
  have hj2 : j < 0 := List.mem_range.mp hj
  exact absurd hj2 (by omega)
theorem t47_all : ∀ q ∈ sT47, t47P q := (List.forall_mem_cons.mpr ⟨t47_0, (List.forall_mem_cons.mpr ⟨t47_1, (List.forall_mem_cons.mpr ⟨t47_2, (List.forall_mem_cons.mpr ⟨t47_3, (List.forall_mem_cons.mpr ⟨t47_4, (List.forall_mem_cons.mpr ⟨t47_5, (List.forall_mem_cons.mpr ⟨t47_6, (List.forall_mem_cons.mpr ⟨t47_7, (List.forall_mem_cons.mpr ⟨t47_8, (List.forall_mem_cons.mpr ⟨t47_9, (List.forall_mem_cons.mpr ⟨t47_10, (List.forall_mem_cons.mpr ⟨t47_11, (List.forall_mem_cons.mpr ⟨t47_12, (List.forall_mem_cons.mpr ⟨t47_13, (List.forall_mem_cons.mpr ⟨t47_14, (List.forall_mem_cons.mpr ⟨t47_15, (List.forall_mem_cons.mpr ⟨t47_16, (List.forall_mem_cons.mpr ⟨t47_17, (List.forall_mem_cons.mpr ⟨t47_18, (List.forall_mem_cons.mpr ⟨t47_19, (List.forall_mem_cons.mpr ⟨t47_20, (List.forall_mem_cons.mpr ⟨t47_21, (List.forall_mem_cons.mpr ⟨t47_22, (List.forall_mem_cons.mpr ⟨t47_23, (List.forall_mem_cons.mpr ⟨t47_24, (List.forall_mem_cons.mpr ⟨t47_25, (List.forall_mem_cons.mpr ⟨t47_26, (List.forall_mem_cons.mpr ⟨t47_27, (List.forall_mem_cons.mpr ⟨t47_28, (List.forall_mem_cons.mpr ⟨t47_29, (List.forall_mem_cons.mpr ⟨t47_30, (List.forall_mem_cons.mpr ⟨t47_31, (List.forall_mem_cons.mpr ⟨t47_32, (List.forall_mem_cons.mpr ⟨t47_33, (List.forall_mem_cons.mpr ⟨t47_34, (List.forall_mem_cons.mpr ⟨t47_35, (List.forall_mem_cons.mpr ⟨t47_36, (List.forall_mem_cons.mpr ⟨t47_37, (List.forall_mem_cons.mpr ⟨t47_38, (List.forall_mem_cons.mpr ⟨t47_39, (List.forall_mem_cons.mpr ⟨t47_40, (List.forall_mem_cons.mpr ⟨t47_41, (List.forall_mem_cons.mpr ⟨t47_42, (List.forall_mem_cons.mpr ⟨t47_43, (List.forall_mem_cons.mpr ⟨t47_44, (List.forall_mem_cons.mpr ⟨t47_45, (List.forall_mem_cons.mpr ⟨t47_46, (fun q h => by cases h)⟩)⟩)⟩)⟩)⟩)⟩)⟩)⟩)⟩)⟩)⟩)⟩)⟩)⟩)⟩)⟩)⟩)⟩)⟩)⟩)⟩)⟩)⟩)⟩)⟩)⟩)⟩)⟩)⟩)⟩)⟩)⟩)⟩)⟩)⟩)⟩)⟩)⟩)⟩)⟩)⟩)⟩)⟩)⟩)⟩)⟩)⟩)
theorem t47_at : ∀ i : Fin 47, ∃ q, sT47[i.val]? = some q ∧ q.2.2 = bytS.getD i.val [] ∧ q.2.2.length = lenS.getD i.val 0 := by
  intro i
  have h : ∀ i : Fin 47, (sT47.getD i.val ("", 0, [])).2.2 = bytS.getD i.val [] ∧ (sT47.getD i.val ("", 0, [])).2.2.length = lenS.getD i.val 0 := by decide +kernel
  have hl : sT47.length = 47 := by decide
  refine ⟨_, List.getElem?_eq_getElem (by omega : i.val < sT47.length), ?_⟩
  have e : sT47[i.val]'(by omega) = sT47.getD i.val ("", 0, []) := by rw [List.getD_eq_getElem?_getD, List.getElem?_eq_getElem (by omega : i.val < sT47.length)]; rfl
  rw [e]
  exact h i
theorem t47_nm : ∀ i : Fin 23, ∀ q ∈ sNm[11 + i.val]?, ∀ r ∈ sT47[i.val]?, q.1 = r.1 ∧ q.2.1 = r.2.1 := by decide +kernel
theorem ss_one {args : Array Value} {s : State} {A : Nat → Prop} (hg : ∀ w ∈ gF, w.before args s = true) (hA : ∀ a : Nat, a < s.heap.size → ¬ A a) {q : String × Nat × List Int32} (hq : q ∈ sT47) (hlt : q.2.2.length < 2 ^ 31) : ∃ a v : Nat, (Term.string q.1 q.2.1).eval args s none [] s = some (.ref a) ∧ va_O "java/lang/String" a A s s.heap ∧ va_OF "java/lang/String" "coder" "B" (.int 0) a A s s.heap ∧ va_OF "java/lang/String" "value" "[B" (.ref v) a A s s.heap ∧ va_T .byte v q.2.2.length (fun j => .int (q.2.2.getD j 0)) A s s.heap := by
  obtain ⟨h1, h2, h3, h4, h5⟩ := t47_all q hq
  obtain ⟨a, c, cell, kc, q1, q2, q3, q4, q5, q6, -⟩ := Cond.exactly_spec (args := args) (first := s) (o := none) (s := s) (idx := []) (hg _ h1)
  obtain ⟨v, v1, v2⟩ := va_Tof (f := fun j => .int (q.2.2.getD j 0)) (A := A) hlt (hg _ h3) (va_eqv (hg _ h4) rfl) (fun j hj => va_eqv (hg _ (h5 j (List.mem_range.mpr hj))) rfl) hA
  exact ⟨a, v, q1, ⟨cell, q3, q5, by rw [q6]; exact q2, hA a (Array.getElem?_eq_some_iff.mp q3).1⟩, vk_OFof q1 (va_eqv (hg _ h2) rfl) hA, vk_OFof q1 v1 hA, v2⟩
def wdT : List (String × Int32 × Int32 × Nat) := [("DEPTH", 0, 5, 106), ("START", 1, (-1), 114), ("CAP", 2, (-1), 117), ("ROPE", 3, (-1), 120), ("NEEDS", 4, (-1), 123), ("MOST", 5, (-1), 126), ("BRAKE", 6, (-1), 129), ("LOAD", 7, (-1), 132), ("PERSON", 8, (-1), 135), ("STONE", 9, (-1), 138), ("WATER", 10, (-1), 141), ("AT", 11, (-1), 144), ("TO", 12, (-1), 147), ("RULE", 13, (-1), 150), ("OR", 14, (-1), 153), ("AND", 15, (-1), 156), ("NOT", 16, (-1), 159), ("LOADS", 17, 0, 162), ("PEOPLE", 18, 1, 165), ("STONES", 19, 2, 168), ("WATERS", 20, 3, 171), ("WEIGHT", 21, 4, 174), ("OTHER", 22, 6, 177), ("UNKNOWN", 23, (-1), 180)]
abbrev tW (n : String) : Term := .static "RopeTown$Word" n "LRopeTown$Word;"
theorem wd_all : ∀ q ∈ wdT, Cond.exactly (tW q.1) "RopeTown$Word" ∈ gF ∧ Cond.eq (.field (tW q.1) "java/lang/Enum" "ordinal" "I") (.int q.2.1) ∈ gF ∧ Cond.eq (.field (tW q.1) "RopeTown$Word" "value" "I") (.int q.2.2.1) ∈ gF ∧ Cond.eq (.field (tW q.1) "RopeTown$Word" "text" "Ljava/lang/String;") (.string "RopeTown$Word" q.2.2.2) ∈ gF ∧ Cond.laysStatic "RopeTown$Word" q.1 "LRopeTown$Word;" ∈ tables_1 := by decide +kernel
theorem wd_at : ∀ i : Fin 24, ∃ q, wdT[i.val]? = some q ∧ q.1 = wdN.getD i.val "" ∧ q.2.1 = Int32.ofInt ((i.val : Nat) : Int) ∧ q.2.2.1 = Int32.ofInt (valZ i.val) ∧ ∀ r ∈ sT47[23 + i.val]?, r.1 = "RopeTown$Word" ∧ r.2.1 = q.2.2.2 := by
  intro i
  have h : ∀ i : Fin 24, (wdT.getD i.val ("", 0, 0, 0)).1 = wdN.getD i.val "" ∧ (wdT.getD i.val ("", 0, 0, 0)).2.1 = Int32.ofInt ((i.val : Nat) : Int) ∧ (wdT.getD i.val ("", 0, 0, 0)).2.2.1 = Int32.ofInt (valZ i.val) ∧ ∀ r ∈ sT47[23 + i.val]?, r.1 = "RopeTown$Word" ∧ r.2.1 = (wdT.getD i.val ("", 0, 0, 0)).2.2.2 := by decide +kernel
  have hl : wdT.length = 24 := by decide
  refine ⟨_, List.getElem?_eq_getElem (by omega : i.val < wdT.length), ?_⟩
  have e : wdT[i.val]'(by omega) = wdT.getD i.val ("", 0, 0, 0) := by rw [List.getD_eq_getElem?_getD, List.getElem?_eq_getElem (by omega : i.val < wdT.length)]; rfl
  rw [e]
  exact h i
theorem ar_pow : Cond.arrayOf (.static "RopeTown$Search" "POWERS" "[I") .int ∈ gF ∧ Cond.eq (.length (.static "RopeTown$Search" "POWERS" "[I")) (.int (Int32.ofNat 7)) ∈ gF ∧ ∀ j : Fin 7, Cond.eq (.elem (.static "RopeTown$Search" "POWERS" "[I") (.int (Int32.ofNat j.val))) (.int (([1, 3, 9, 27, 81, 243, 729] : List Int32).getD j.val 0)) ∈ gF := by decide +kernel
theorem ar_sw : Cond.arrayOf (.static "RopeTown$1" "$SwitchMap$RopeTown$Word" "[I") .int ∈ gF ∧ Cond.eq (.length (.static "RopeTown$1" "$SwitchMap$RopeTown$Word" "[I")) (.int (Int32.ofNat 24)) ∈ gF ∧ ∀ j : Fin 24, Cond.eq (.elem (.static "RopeTown$1" "$SwitchMap$RopeTown$Word" "[I") (.int (Int32.ofNat j.val))) (.int (([1, 2, 3, 4, 5, 6, 7, 8, 9, 10, 11, 0, 0, 12, 0, 0, 0, 0, 0, 0, 0, 0, 0, 0] : List Int32).getD j.val 0)) ∈ gF := by decide +kernel
theorem ar_wd : Cond.arrayOf (.static "RopeTown$Reader" "WORDS" "[LRopeTown$Word;") (.object "RopeTown$Word") ∈ gF ∧ Cond.eq (.length (.static "RopeTown$Reader" "WORDS" "[LRopeTown$Word;")) (.int (Int32.ofNat 24)) ∈ gF ∧ ∀ j : Fin 24, Cond.eq (.elem (.static "RopeTown$Reader" "WORDS" "[LRopeTown$Word;") (.int (Int32.ofNat j.val))) (tW (wdN.getD j.val "")) ∈ gF := by decide +kernel
theorem st_cs : Cond.eq (.static "java/lang/String" "COMPACT_STRINGS" "Z") (.int 1) ∈ gF := by decide +kernel
theorem st_pf : Cond.isRef (.static "jdk/internal/util/Preconditions" "SIOOBE_FORMATTER" "Ljava/util/function/BiFunction;") ∈ gF := by decide +kernel
theorem sw_val : ∀ j : Fin 24, (([1, 2, 3, 4, 5, 6, 7, 8, 9, 10, 11, 0, 0, 12, 0, 0, 0, 0, 0, 0, 0, 0, 0, 0] : List Int32).getD j.val 0) = Int32.ofInt (swZ j.val) := by decide +kernel
/-- all but the two rows of texts of the model -/
def EZ0 (k : Nat → ClassId) (A : Nat → Prop) (U : State) (H : Heap) : Prop := ST0 A U H ∧ SZ0 k A U H ∧ SW0 k A U H ∧ SS k A U H
