/-! BARS: riders, ways, the order of the sets -/
theorem bs_get {p : Int → Int} {b : Int} {t : Int} (t0 : 0 ≤ t) (t1 : t < 7) (h : p t = 12 + b) : btF (og (bs p b) 7) t = true := by
  unfold btF og
  rw [or_get]
  refine ⟨t, t0, by omega, ?_⟩
  have e : bs p b t = bShl 1 t := by
    unfold bs
    exact if_pos h
  rw [e]
  exact (bt_one t0 (by omega) t0 (by omega)).mpr rfl
def RdS (s r : Int) : Prop := ∀ t, 0 ≤ t → t < 7 → (nb s t = 12 ∨ nb s t = 13) → btF r t = true
def PaO (pa : Int → Int) (n : Int) : Prop := ∀ i, 0 < i → i < n → 0 ≤ pa i ∧ pa i < i
def RtW (L pa : Int → Int) (n i0 r : Int) : Prop := PaO pa n → ∀ Q : Int → Prop, (∀ j, 0 < j → j < n → RdS (L j) r → Q (pa j) → Q j) → Q 0 → Q i0
def RtI (L pa : Int → Int) (n i0 r a x : Int) : Prop := PaO pa n → (0 ≤ a ∧ a + x ≤ i0) ∧ ∀ r', (∀ t, 0 ≤ t → t < 32 → btF r t = true → btF r' t = true) → ∀ Q : Int → Prop, (∀ j, 0 < j → j < n → RdS (L j) r' → Q (pa j) → Q j) → Q a → Q i0
theorem rt_0 {L pa : Int → Int} {n i0 r a x : Int} (h0 : 0 ≤ i0) (ha : a = i0) (hx : x = 0) : RtI L pa n i0 r a x := fun _ => ⟨by omega, fun _ _ Q _ q => ha ▸ q⟩
theorem rt_s {L pa : Int → Int} {n i0 r a x r' a' x' u v o s1 s2 : Int} (h : RtI L pa n i0 r a x) (a0 : 0 < a) (hi : i0 < n) (x0 : 0 ≤ x) (h1 : s1 = L a) (h2 : s2 = L a) (hu : u = og (bs (nb s1) 0) 7) (hv : v = og (bs (nb s2) 1) 7) (ho : o = bOr u v) (hr : r' = bOr r o) (ha : a' = pa a) (hx : x' = x + 1) : RtI L pa n i0 r' a' x' := by
  intro hc
  obtain ⟨⟨b0, b1⟩, H⟩ := h hc
  have hp := hc a a0 (by omega)
  refine ⟨by omega, fun R hR Q hQ q => ?_⟩
  refine H R (fun t t0 t1 hb => hR t t0 t1 (by rw [hr, bt_or, hb]; rfl)) Q hQ (hQ a a0 (by omega) (fun t t0 t1 hz => ?_) (ha ▸ q))
  refine hR t t0 (by omega) ?_
  rw [hr, bt_or, ho, bt_or, hu, hv, h1, h2]
  rcases hz with hz | hz
  · rw [bs_get (p := nb (L a)) (b := 0) t0 t1 (by omega)]
    simp
  · rw [bs_get (p := nb (L a)) (b := 1) t0 t1 (by omega)]
    simp
theorem rt_e {L pa : Int → Int} {n i0 r a x : Int} (h : RtI L pa n i0 r a x) (hi : i0 < n) (hE : n ≤ x ∨ a ≤ 0) : RtW L pa n i0 r := by
  intro hc Q hQ q0
  obtain ⟨⟨b0, b1⟩, H⟩ := h hc
  have ha : a = 0 := by omega
  exact H r (fun _ _ _ z => z) Q hQ (by rw [ha]; exact q0)
/-- the first with a depth -/
def FwI (L : Int → Int) (t D d x : Int) : Prop := ∀ i, 0 ≤ i → i < x → ¬ thD (nb (L i) t) (dp (L i)) D = d
def FwP (L : Int → Int) (n t D d r : Int) : Prop := (r = -1 ∧ FwI L t D d n) ∨ (0 ≤ r ∧ r < n ∧ thD (nb (L r) t) (dp (L r)) D = d)
theorem fwi_0 {L : Int → Int} {t D d x : Int} (hx : x ≤ 0) : FwI L t D d x := fun i i0 i1 => absurd i1 (by omega)
theorem fwi_s {L : Int → Int} {t D d x x' s v : Int} (h : FwI L t D d x) (hs : s = L x) (hv : v = thD (nb s t) (dp s) D) (hn : ¬ v = d) (hx : x' = x + 1) : FwI L t D d x' := fun i i0 i1 => by
  by_cases q : i = x
  · rw [q, ← hs, ← hv]; exact hn
  · exact h i i0 (by omega)
theorem fwp_y {L : Int → Int} {n t D d r s v : Int} (h0 : 0 ≤ r) (h1 : r < n) (hs : s = L r) (hv : v = thD (nb s t) (dp s) D) (hd : v = d) : FwP L n t D d r := Or.inr ⟨h0, h1, by rw [← hs, ← hv]; exact hd⟩
theorem fwp_n {L : Int → Int} {n t D d r x : Int} (h : FwI L t D d x) (hx : n ≤ x) (hr : r = -1) : FwP L n t D d r := Or.inl ⟨hr, fun i i0 i1 => h i i0 (by omega)⟩
/-- the depth of a THING in a code -/
def PCd (t D d x : Int) : Prop := thD (plc x t) (dpc x) D = d
theorem pcd_c {t D d s : Int} (t0 : 0 ≤ t) (t1 : t < 7) : PCd t D d (cdC s) ↔ thD (nb s t) (dp s) D = d := by
  unfold PCd cdC
  rw [plc_cd (rg_C s) t0 t1, dpc_cd (rg_C s)]
/-- a known way -/
def WyP (S : Int → Int → Prop) (p : Int → Int) (a t D d b : Int) : Prop := ∃ (E : Int → Prop) (k : Nat) (x : Int), ¬ E t ∧ RvN S D (fun u => btF b u = false) (cdS (gnF E p) a) k x ∧ PCd t D d x
theorem av_mono {D x : Int} {B G : Int → Prop} (h : ∀ t, 0 ≤ t → t < 7 → G t → B t) (q : AvB D B x) : AvB D G x := by
  obtain ⟨p, a, h1, h2, h3⟩ := q
  exact ⟨p, a, h1, h2, fun t t0 t1 hg => h3 t t0 t1 (h t t0 t1 hg)⟩
theorem rv_mono {S : Int → Int → Prop} {D s : Int} {B G : Int → Prop} (h : ∀ t, 0 ≤ t → t < 7 → G t → B t) : ∀ (k : Nat) (x : Int), RvN S D B s k x → RvN S D G s k x
  | 0, x, q => q
  | k + 1, x, ⟨y, h1, h2, h3⟩ => ⟨y, rv_mono h k y h1, h2, av_mono h h3⟩
def btG (w : Int) : Int → Prop := fun u => btF w u = true
theorem fw_gn {w a : Int} {p : Int → Int} : cdS (fwF w p) a = cdS (gnF (btG w) p) a := by
  refine cd_ext (fun t t0 t1 => ?_) rfl
  unfold fwF
  have h := bt_and1 (w := w) t0 (show t < 32 by omega)
  by_cases q : btG w t
  · rw [gn_y q, if_pos (h.mpr q)]
  · rw [gn_n q, if_neg (fun z => q (h.mp z))]
theorem fw_gn0 {a : Int} {p : Int → Int} : cdS (fwF 0 p) a = cdS (gnF (fun _ => False) p) a := by
  rw [fw_gn]
  refine cd_ext (fun t t0 t1 => ?_) rfl
  have h : ¬ btG 0 t := fun z => absurd (z.symm.trans (bt_0 t)) (by decide)
  rw [gn_n h, gn_n (fun z => z)]
/-- what a search finds, there is always one -/
theorem fnd_ex {S : Int → Int → Prop} {a : Int} : ∀ N : Nat, (∃ (L : Int → Int) (n : Int), 0 ≤ n ∧ n ≤ N ∧ DiL L n ∧ ∀ x, InL L n x ↔ Rc S a x) ∨ ∃ M : Int → Int, DiL M (N + 1) ∧ ∀ i, 0 ≤ i → i < (N : Int) + 1 → Rc S a (M i)
  | 0 => Or.inr ⟨fun _ => a, fun i j i0 i1 j0 j1 _ => by first | omega | (have h1 : i < 1 := by simpa using i1; have h2 : j < 1 := by simpa using j1; omega), fun _ _ _ => rc_0 _ _⟩
  | N + 1 => by
    rcases fnd_ex N with ⟨L, n, n0, n1, h1, h2⟩ | ⟨M, d, r⟩
    · exact Or.inl ⟨L, n, n0, by omega, h1, h2⟩
    · by_cases q : ∀ x, Rc S a x → InL M ((N : Int) + 1) x
      · refine Or.inl ⟨M, (N : Int) + 1, by omega, by omega, d, fun x => ⟨fun ⟨k, k0, k1, e⟩ => e ▸ r k k0 k1, q x⟩⟩
      · obtain ⟨x, hx⟩ := Classical.not_forall.mp q
        obtain ⟨hr, hn⟩ := Classical.not_imp.mp hx
        refine Or.inr ⟨uA M ((N : Int) + 1) x, fun i j i0 i1 j0 j1 e => ?_, fun i i0 i1 => ?_⟩
        · have i1 : i < (N : Int) + 1 + 1 := by first | omega | simpa using i1
          have j1 : j < (N : Int) + 1 + 1 := by first | omega | simpa using j1
          by_cases qi : i = (N : Int) + 1
          · by_cases qj : j = (N : Int) + 1
            · omega
            · rw [qi, uA_same, uA_ne qj] at e
              exact absurd ⟨j, j0, by omega, e.symm⟩ hn
          · by_cases qj : j = (N : Int) + 1
            · rw [qj, uA_same, uA_ne qi] at e
              exact absurd ⟨i, i0, by omega, e⟩ hn
            · rw [uA_ne qi, uA_ne qj] at e
              exact d i j i0 (by omega) j0 (by omega) e
        · have i1 : i < (N : Int) + 1 + 1 := by first | omega | simpa using i1
          by_cases qi : i = (N : Int) + 1
          · rw [qi, uA_same]; exact hr
          · rw [uA_ne qi]; exact r i i0 (by omega)
theorem fnd_is {S : Int → Int → Prop} {a : Int} : ∃ (L : Int → Int) (n sp : Int), Fnd S a 1500 sp L n ∧ 0 ≤ n := by
  rcases fnd_ex (S := S) (a := a) 1500 with ⟨L, n, n0, n1, h1, h2⟩ | ⟨M, d, r⟩
  · exact ⟨L, n, 0, ⟨fun _ => ⟨h1, by omega, h2⟩, fun z => absurd rfl z⟩, n0⟩
  · exact ⟨M, 0, 1, ⟨fun z => absurd z (by decide), fun _ => ⟨M, d, r⟩⟩, Int.le_refl 0⟩
section WZ
variable {n D cap rope nd mb a0 : Int} {K A W p0 : Int → Int} {RK : (Int → Int) → Int → Prop}
/-- a set that a known way spares -/
theorem wy_sp {t d b w : Int} (n0 : 0 ≤ n) (n7 : n ≤ 7) (hD : D ≤ 11) (hR : RkD n RK) (hV : Vd D p0 a0) (hA : ∀ t, 0 ≤ t → t < n → -1 ≤ A t) (h15 : ∀ t, n ≤ t → t < 7 → p0 t = 15) (t0 : 0 ≤ t) (t1 : t < 7) (hw : WyP (Sg n D cap K A W rope nd mb RK) p0 a0 t D d b) (hb : bAnd b w = 0) (ht : bAnd (bShr w t) 1 = 0) (h0 : RdX (Sg n D cap K A W rope nd mb RK) (cdS (fwF 0 p0) a0) (PCd t D d) 1) : RdX (Sg n D cap K A W rope nd mb RK) (cdS (fwF w p0) a0) (PCd t D d) 1 := by
  obtain ⟨L, m, sp, F, m0⟩ := fnd_is (S := Sg n D cap K A W rope nd mb RK) (a := cdS (fwF w p0) a0)
  obtain ⟨L0, m0', sp0, F0, _, hL0⟩ := h0
  have hs0 : sp0 = 0 := by
    rcases hL0 with ⟨_, q⟩ | ⟨q, _⟩
    · exact absurd q (by decide)
    · exact q
  have F' := F
  rw [fw_gn] at F'
  rw [fw_gn0] at F0
  have hs : sp = 0 := gone_le n0 n7 hD hR hV hA h15 (by decide) F0 hs0 F'
  obtain ⟨E, k, x, hE, hv, hx⟩ := hw
  have hg : ∀ u, 0 ≤ u → u < 7 → btG w u → btF b u = false := fun u u0 u1 hu => by
    have h1 := congrArg (fun y => (bv y).getLsbD u.toNat) hb
    simp only [bv_and, BitVec.getLsbD_and, g0] at h1
    have hu : (bv w).getLsbD u.toNat = true := hu
    rw [hu, Bool.and_true] at h1
    exact h1
  have hGt : ¬ btG w t := fun z => absurd (z.symm.trans ((bt_and t0 (by omega)).mp ht)) (by decide)
  obtain ⟨x', hc, e1, e2⟩ := way_g n0 n7 hD hR hV hA h15 (rv_mono hg k x hv) t0 t1 hE hGt
  rw [← fw_gn] at hc
  obtain ⟨j, j0, j1, ej⟩ := ((F.1 hs).2.2 x').mpr hc
  refine ⟨L, m, sp, F, m0, Or.inr ⟨hs, Or.inr ⟨rfl, j, j0, j1, ?_⟩⟩⟩
  rw [ej]
  unfold PCd
  rw [e1, e2]
  exact hx
/-- a search of the class for a set -/
theorem wy_x {t d w v n' sp r : Int} {L c pa : Int → Int} (E : EpP (Sg n D cap K A W rope nd mb RK) 0 v L c pa n' sp r) (hv : cdC v = cdS (fwF w p0) a0) (hr : r = 0) : RdX (Sg n D cap K A W rope nd mb RK) (cdS (fwF w p0) a0) (PCd t D d) (-2) := by
  obtain ⟨F, e, q⟩ := E rfl
  rw [← hv, ← e]
  exact ⟨_, n', sp, F.2.1, by have := F.1; omega, Or.inl ⟨by omega, rfl⟩⟩
theorem wy_n {t d w v n' sp r i : Int} {L c pa : Int → Int} (t0 : 0 ≤ t) (t1 : t < 7) (E : EpP (Sg n D cap K A W rope nd mb RK) 0 v L c pa n' sp r) (hv : cdC v = cdS (fwF w p0) a0) (hr : ¬ r = 0) (hF : FwP L n' t D d i) (hi : i = -1) : RdX (Sg n D cap K A W rope nd mb RK) (cdS (fwF w p0) a0) (PCd t D d) 0 := by
  obtain ⟨F, e, q⟩ := E rfl
  rw [← hv, ← e]
  refine ⟨_, n', sp, F.2.1, by have := F.1; omega, Or.inr ⟨by omega, Or.inl ⟨rfl, fun k k0 k1 z => ?_⟩⟩⟩
  rcases hF with ⟨_, hF⟩ | ⟨hF, _⟩
  · exact hF k k0 k1 ((pcd_c t0 t1).mp z)
  · omega
theorem wy_y {t d w v n' sp r i : Int} {L c pa : Int → Int} (t0 : 0 ≤ t) (t1 : t < 7) (E : EpP (Sg n D cap K A W rope nd mb RK) 0 v L c pa n' sp r) (hv : cdC v = cdS (fwF w p0) a0) (hr : ¬ r = 0) (hF : FwP L n' t D d i) (hi : ¬ i = -1) : RdX (Sg n D cap K A W rope nd mb RK) (cdS (fwF w p0) a0) (PCd t D d) 1 := by
  obtain ⟨F, e, q⟩ := E rfl
  rw [← hv, ← e]
  refine ⟨_, n', sp, F.2.1, by have := F.1; omega, Or.inr ⟨by omega, Or.inr ⟨rfl, ?_⟩⟩⟩
  rcases hF with ⟨hF, _⟩ | ⟨h0, h1, hF⟩
  · exact absurd hF hi
  · exact ⟨i, h0, h1, (pcd_c t0 t1).mpr hF⟩
theorem wy_w {t d w v n' sp r i b : Int} {L c pa : Int → Int} (n0 : 0 ≤ n) (n7 : n ≤ 7) (hD : D ≤ 11) (t0 : 0 ≤ t) (t1 : t < 7) (E : EpP (Sg n D cap K A W rope nd mb RK) 0 v L c pa n' sp r) (hv : cdC v = cdS (fwF w p0) a0) (ht : bAnd (bShr w t) 1 = 0) (hF : FwP L n' t D d i) (hi : ¬ i = -1) (hb : RtW L pa n' i b) : WyP (Sg n D cap K A W rope nd mb RK) p0 a0 t D d b := by
  obtain ⟨F, e, q⟩ := E rfl
  have hGt : ¬ btG w t := fun z => absurd (z.symm.trans ((bt_and t0 (by omega)).mp ht)) (by decide)
  have hk := hb (fun j j0 j1 => ⟨(F.2.2.2 j j0 j1).1, (F.2.2.2 j j0 j1).2.1⟩) (fun j => ∃ k : Nat, RvN (Sg n D cap K A W rope nd mb RK) D (fun u => btF b u = false) (cdS (gnF (btG w) p0) a0) k (cdC (L j))) (fun j j0 j1 hr ⟨k, hk⟩ => by
    have hs := (F.2.2.2 j j0 j1).2.2
    obtain ⟨_, _, z, dd, _, _, hz, ez, _⟩ := sg_vd n0 n7 hD hs
    refine ⟨k + 1, _, hk, hs, z, dd, hz, ez, fun u u0 u1 hu => ?_⟩
    obtain ⟨_, f⟩ := cd_inj (rg_C (L j)) (vd_rg hD hz) ez
    have h9 := hr u u0 u1
    have f9 : nb (L j) u = z u := f u u0 u1
    rw [f9] at h9
    constructor
    · intro y; exact absurd ((h9 (Or.inl y)).symm.trans hu) (by decide)
    · intro y; exact absurd ((h9 (Or.inr y)).symm.trans hu) (by decide)) ⟨0, by show cdC (L 0) = _; rw [e, hv, fw_gn]⟩
  obtain ⟨k, hk⟩ := hk
  rcases hF with ⟨hF, _⟩ | ⟨_, _, hF⟩
  · exact absurd hF hi
  · exact ⟨btG w, k, _, hGt, hk, (pcd_c t0 t1).mpr hF⟩
end WZ
/-! the order of the sets -/
def Vq (n t w : Int) : Prop := 0 ≤ w ∧ w < bShl 1 n ∧ bcZ w < n ∧ bAnd (bShr w t) 1 = 0
def BrI (R : Int → Int → Prop) (n t z y : Int) : Prop := ∀ w, Vq n t w → (bcZ w < z ∨ (bcZ w = z ∧ w < y)) → R w 1
theorem bc_nn (w : Int) : 0 ≤ bcZ w := by unfold bcZ; omega
theorem bri_0 {R : Int → Int → Prop} {n t z y : Int} (hz : z = 0) (hy : y = 0) : BrI R n t z y := fun w hv h => by
  have h1 := bc_nn w
  have h2 := hv.1
  omega
theorem bri_n {R : Int → Int → Prop} {n t z y y' : Int} (h : BrI R n t z y) (q : Vq n t y → bcZ y = z → R y 1) (hy : y' = y + 1) : BrI R n t z y' := fun w hv hb => by
  by_cases e : w = y ∧ bcZ w = z
  · obtain ⟨e1, e2⟩ := e
    subst e1
    exact q hv e2
  · exact h w hv (by omega)
theorem bri_z {R : Int → Int → Prop} {n t z y z' : Int} (h : BrI R n t z y) (hy : bShl 1 n ≤ y) (hz : z' = z + 1) : BrI R n t z' 0 := fun w hv hb => by
  have h2 := hv.2.1
  have h1 := hv.1
  exact h w hv (by omega)
def BrE (R : Int → Int → Prop) (n t r : Int) : Prop := (∃ w, Vq n t w ∧ BrI R n t (bcZ w) w ∧ ((R w (-2) ∧ r = -2) ∨ (R w 0 ∧ r = w))) ∨ (r = -1 ∧ ∀ w, Vq n t w → R w 1)
theorem bre_x {R : Int → Int → Prop} {n t z y r : Int} (h : BrI R n t z y) (hv : Vq n t y) (hz : bcZ y = z) (hr : R y (-2)) (e : r = -2) : BrE R n t r := Or.inl ⟨y, hv, by rw [hz]; exact h, Or.inl ⟨hr, e⟩⟩
theorem bre_0 {R : Int → Int → Prop} {n t z y r : Int} (h : BrI R n t z y) (hv : Vq n t y) (hz : bcZ y = z) (hr : R y 0) (e : r = y) : BrE R n t r := Or.inl ⟨y, hv, by rw [hz]; exact h, Or.inr ⟨hr, e⟩⟩
theorem bre_e {R : Int → Int → Prop} {n t z y r : Int} (h : BrI R n t z y) (hz : n ≤ z) (e : r = -1) : BrE R n t r := Or.inr ⟨e, fun w hv => h w hv (by have := hv.2.2.1; omega)⟩
theorem bre_u {R : Int → Int → Prop} {n t r r' : Int} (hR : ∀ w a b, R w a → R w b → a = b) (h : BrE R n t r) (h' : BrE R n t r') : r = r' := by
  have key : ∀ w g, Vq n t w → R w g → g < 1 → ∀ w', Vq n t w' → BrI R n t (bcZ w') w' → ¬ (bcZ w < bcZ w' ∨ (bcZ w = bcZ w' ∧ w < w')) := fun w g hv hg h1 w' hv' hb z => by
    have := hR w _ _ hg (hb w hv z)
    omega
  rcases h with ⟨w, hv, hb, hw⟩ | ⟨e, hb⟩
  · obtain ⟨g, hg, g1⟩ : ∃ g, R w g ∧ g < 1 := by
      rcases hw with ⟨a, _⟩ | ⟨a, _⟩
      · exact ⟨_, a, by decide⟩
      · exact ⟨_, a, by decide⟩
    rcases h' with ⟨w', hv', hb', hw'⟩ | ⟨e', hb'⟩
    · obtain ⟨g', hg', g1'⟩ : ∃ g, R w' g ∧ g < 1 := by
        rcases hw' with ⟨a, _⟩ | ⟨a, _⟩
        · exact ⟨_, a, by decide⟩
        · exact ⟨_, a, by decide⟩
      have k1 := key w g hv hg g1 w' hv' hb'
      have k2 := key w' g' hv' hg' g1' w hv hb
      have e : w = w' := by omega
      subst e
      rcases hw with ⟨a, a'⟩ | ⟨a, a'⟩ <;> rcases hw' with ⟨b, b'⟩ | ⟨b, b'⟩
      · omega
      · exact absurd (hR w _ _ a b) (by decide)
      · exact absurd (hR w _ _ a b) (by decide)
      · omega
    · have := hR w _ _ hg (hb' w hv)
      omega
  · rcases h' with ⟨w', hv', hb', hw'⟩ | ⟨e', hb'⟩
    · rcases hw' with ⟨a, _⟩ | ⟨a, _⟩
      · exact absurd (hR w' _ _ a (hb w' hv')) (by decide)
      · exact absurd (hR w' _ _ a (hb w' hv')) (by decide)
    · omega
theorem bre_i {R R' : Int → Int → Prop} {n t r : Int} (hR : ∀ w g, Vq n t w → (R w g → R' w g)) (h : BrE R n t r) : BrE R' n t r := by
  rcases h with ⟨w, hv, hb, hw⟩ | ⟨e, hb⟩
  · refine Or.inl ⟨w, hv, fun w' hv' z => hR w' 1 hv' (hb w' hv' z), ?_⟩
    rcases hw with ⟨a, b⟩ | ⟨a, b⟩
    · exact Or.inl ⟨hR w _ hv a, b⟩
    · exact Or.inr ⟨hR w _ hv a, b⟩
  · exact Or.inr ⟨e, fun w hv => hR w 1 hv (hb w hv)⟩
theorem bc_dc : ∀ x : Fin 128, 0 < x.val → bcZ (bAnd (x.val : Int) ((x.val : Int) - 1)) + 1 = bcZ (x.val : Int) ∧ bAnd (x.val : Int) ((x.val : Int) - 1) < (x.val : Int) ∧ 0 ≤ bAnd (x.val : Int) ((x.val : Int) - 1) := by decide +kernel
theorem bc_d {x y z : Int} (h0 : 0 < x) (h1 : x ≤ 127) (hy : y = x - 1) (hz : z = bAnd x y) : bcZ z + 1 = bcZ x := by
  subst hy hz
  have h := bc_dc ⟨x.toNat, by omega⟩
  simp only at h
  rw [show ((x.toNat : Nat) : Int) = x by omega] at h
  exact (h (by omega)).1
theorem bc_0 : bcZ 0 = 0 := by decide +kernel
theorem vq_0 {n t : Int} (h : 0 < n) (t0 : 0 ≤ t) (t1 : t < n) (n7 : n ≤ 7) : Vq n t 0 := by
  have h1 : 0 < bShl 1 n := by
    have k : ∀ i : Fin 8, 0 < bShl 1 (i.val : Int) := by decide +kernel
    have := k ⟨n.toNat, by omega⟩
    simp only at this
    rwa [show ((n.toNat : Nat) : Int) = n by omega] at this
  exact ⟨Int.le_refl 0, h1, by rw [bc_0]; exact h, (bt_and t0 (by omega)).mpr (bt_0 t)⟩
/-- all known ways -/
def WyI (R : Int → Int → Prop) (P : Int → Prop) (W : Int → Int) (k : Int) : Prop := (∀ i, 0 ≤ i → i < k → P (W i)) ∧ (0 < k → R 0 1)
theorem wyi_0 {R : Int → Int → Prop} {P : Int → Prop} {W : Int → Int} {k : Int} (hk : k ≤ 0) : WyI R P W k := ⟨fun i i0 i1 => absurd i1 (by omega), fun z => absurd z (by omega)⟩
theorem wyi_s {R : Int → Int → Prop} {P : Int → Prop} {W W' : Int → Int} {k k' b : Int} (h : WyI R P W k) (k0 : 0 ≤ k) (hb : P b) (h0 : R 0 1) (e : W' = uA W k b) (hk : k' = k + 1) : WyI R P W' k' := by
  refine ⟨fun i i0 i1 => ?_, fun _ => h0⟩
  rw [e]
  by_cases q : i = k
  · rw [q, uA_same]; exact hb
  · rw [uA_ne q]; exact h.1 i i0 (by omega)
/-- the first set of all leaves nothing out; behind it R 0 1 is known -/
theorem br_01 {R : Int → Int → Prop} {n t z y : Int} (h : BrI R n t z y) (hn : 0 < n) (t0 : 0 ≤ t) (t1 : t < n) (n7 : n ≤ 7) (hy : Vq n t y) (hz : bcZ y = z) (hr : R y 1) : R 0 1 := by
  by_cases e : y = 0
  · rw [← e]; exact hr
  · refine h 0 (vq_0 hn t0 t1 n7) ?_
    have h1 := bc_nn y
    have h2 := hy.1
    rw [bc_0]
    omega
def SpQ (W : Int → Int) (s k r : Int) : Prop := r = 1 → ∃ i, 0 ≤ i ∧ i < k ∧ bAnd (W i) s = 0
theorem spq_y {W : Int → Int} {s k r i u v : Int} (h0 : 0 ≤ i) (h1 : i < k) (hu : u = W i) (hv : v = bAnd u s) (hz : v = 0) : SpQ W s k r := fun _ => ⟨i, h0, h1, by rw [← hu, ← hv]; exact hz⟩
theorem spq_n {W : Int → Int} {s k r : Int} (hr : r = 0) : SpQ W s k r := fun z => absurd z (by omega)
/-! BARS of the class -/
def NgP (n s : Int) : Prop := ∀ t, n ≤ t → t < 7 → nb s t = 15
def BrR (S : Int → Int → Prop) (p : Int → Int) (a : Int) (P : Int → Prop) : Int → Int → Prop := fun w g => RdX S (cdS (fwF w p) a) P g
def BrP (sv : Prop) (r v : Int) (R : Int → Int → Prop) (n t : Int) : Prop := (sv → r = v) ∧ (¬ sv → BrE R n t r)
theorem brp_s {sv : Prop} {r v n t : Int} {R : Int → Int → Prop} (h : sv) (hr : r = v) : BrP sv r v R n t := ⟨fun _ => hr, fun z => absurd h z⟩
theorem brp_n {sv : Prop} {r v n t : Int} {R : Int → Int → Prop} (h : ¬ sv) (hr : BrE R n t r) : BrP sv r v R n t := ⟨fun z => absurd z h, fun _ => hr⟩
theorem wo_fw {s w r : Int} (h : WoP s w r) : cdC r = cdS (fwF w (nb s)) (dp s) := by
  refine cdC_of (fun t t0 t6 => ?_) h.2
  rw [h.1 t t0 t6]
  unfold woF fwF
  have h0 := bt_and (w := w) t0 (show t < 32 by omega)
  have h1 := bt_and1 (w := w) t0 (show t < 32 by omega)
  cases q : btF w t with
  | false => rw [if_pos (h0.mpr q), if_neg (fun z => absurd (q.symm.trans (h1.mp z)) (by decide))]
  | true => rw [if_pos (h1.mpr q), if_neg (fun z => absurd (q.symm.trans (h0.mp z)) (by decide))]
section WB
variable {n D cap rope nd mb a0 : Int} {K A W p0 : Int → Int} {RK : (Int → Int) → Int → Prop}
theorem wyi_sp {t d k r w : Int} {Wr : Int → Int} (n0 : 0 ≤ n) (n7 : n ≤ 7) (hD : D ≤ 11) (hR : RkD n RK) (hV : Vd D p0 a0) (hA : ∀ t, 0 ≤ t → t < n → -1 ≤ A t) (h15 : ∀ t, n ≤ t → t < 7 → p0 t = 15) (t0 : 0 ≤ t) (t1 : t < 7) (hy : WyI (BrR (Sg n D cap K A W rope nd mb RK) p0 a0 (PCd t D d)) (WyP (Sg n D cap K A W rope nd mb RK) p0 a0 t D d) Wr k) (hq : SpQ Wr w k r) (hr : r = 1) (ht : bAnd (bShr w t) 1 = 0) : BrR (Sg n D cap K A W rope nd mb RK) p0 a0 (PCd t D d) w 1 := by
  obtain ⟨i, i0, i1, hb⟩ := hq hr
  exact wy_sp n0 n7 hD hR hV hA h15 t0 t1 (hy.1 i i0 i1) hb ht (hy.2 (by omega))
end WB
/-! BARS of the model -/
def PDb (t D d x : Int) : Prop := dbM t D x = bShl 1 d
def BmI (sv : Prop) (v d : Int) (R : Int → Int → Prop) (n t z y : Int) : Prop := (sv → (z = 0 ∧ y = 0) ∨ ¬ bAnd (bShr v d) 1 = 0) ∧ (¬ sv → BrI R n t z y)
def BaM (sv : Prop) (v d : Int) (R : Int → Int → Prop) (n t r : Int) : Prop := (sv → (bAnd (bShr v d) 1 = 0 ∧ r = 0) ∨ (¬ bAnd (bShr v d) 1 = 0 ∧ r = -1)) ∧ (¬ sv → BrE R n t r)
theorem bm_0 {sv : Prop} {v d n t z y : Int} {R : Int → Int → Prop} (hz : z = 0) (hy : y = 0) : BmI sv v d R n t z y := ⟨fun _ => Or.inl ⟨hz, hy⟩, fun _ => bri_0 hz hy⟩
theorem bm_k {sv : Prop} {v d n t z y y' : Int} {R : Int → Int → Prop} (h : BmI sv v d R n t z y) (t0 : 0 ≤ t) (t1 : t < 32) (hq : ¬ (bcZ y = z ∧ bAnd (bShr y t) 1 = 0)) (hy : y' = y + 1) : BmI sv v d R n t z y' := by
  refine ⟨fun s => ?_, fun s => bri_n (h.2 s) (fun hv hz => absurd ⟨hz, hv.2.2.2⟩ hq) hy⟩
  rcases h.1 s with ⟨a, b⟩ | a
  · refine absurd ?_ hq
    rw [a, b]
    exact ⟨bc_0, (bt_and t0 t1).mpr (bt_0 t)⟩
  · exact Or.inr a
theorem bm_z {sv : Prop} {v d n t z y z' : Int} {R : Int → Int → Prop} (h : BmI sv v d R n t z y) (y0 : ¬ y = 0) (hy : bShl 1 n ≤ y) (hz : z' = z + 1) : BmI sv v d R n t z' 0 := by
  refine ⟨fun s => ?_, fun s => bri_z (h.2 s) hy hz⟩
  rcases h.1 s with ⟨a, b⟩ | a
  · exact absurd b y0
  · exact Or.inr a
theorem bm_e {sv : Prop} {v d n t z y r : Int} {R : Int → Int → Prop} (h : BmI sv v d R n t z y) (hn : 0 < n) (hz : n ≤ z) (hr : r = -1) : BaM sv v d R n t r := by
  refine ⟨fun s => ?_, fun s => bre_e (h.2 s) hz hr⟩
  rcases h.1 s with ⟨a, b⟩ | a
  · omega
  · exact Or.inr ⟨a, hr⟩
theorem sh_ne : ∀ i j : Fin 16, bShl 1 (i.val : Int) = bShl 1 (j.val : Int) → i = j := by decide +kernel
theorem sh_eq {i j : Int} (i0 : 0 ≤ i) (i1 : i ≤ 15) (j0 : 0 ≤ j) (j1 : j ≤ 15) (h : bShl 1 i = bShl 1 j) : i = j := by
  have k := sh_ne ⟨i.toNat, by omega⟩ ⟨j.toNat, by omega⟩
  simp only at k
  rw [show ((i.toNat : Nat) : Int) = i by omega, show ((j.toNat : Nat) : Int) = j by omega] at k
  have k := congrArg Fin.val (k h)
  simp only at k
  omega
theorem sh_pp : ∀ i : Fin 16, 0 < bShl 1 (i.val : Int) := by decide +kernel
theorem sh_p {i : Int} (i0 : 0 ≤ i) (i1 : i ≤ 15) : 0 < bShl 1 i := by
  have k := sh_pp ⟨i.toNat, by omega⟩
  simp only at k
  rwa [show ((i.toNat : Nat) : Int) = i by omega] at k
/-- what dbM is, for a code that is one -/
theorem db_v {t D x : Int} {p : Int → Int} (hD : D ≤ 11) (hV : VdX D (fun u => p u = 15) x) (t0 : 0 ≤ t) (t1 : t < 7) (hp : ¬ p t = 15) : (dbM t D x = 0 ∧ thD (plc x t) (dpc x) D = -1) ∨ (0 ≤ thD (plc x t) (dpc x) D ∧ thD (plc x t) (dpc x) D ≤ 11 ∧ dbM t D x = bShl 1 (thD (plc x t) (dpc x) D)) := by
  obtain ⟨q, a, hq, e, g⟩ := hV
  have hg := vd_rg hD hq
  have hv := hq.2 t t0 t1
  have ha := hq.1
  have h15 : ¬ q t = 15 := fun z => hp ((g t t0 t1).mp z)
  have hb := buD_r (b := q t - 12) (d := a) (D := D) ⟨ha.1, by omega⟩ ⟨by omega, hD⟩
  rw [e]
  unfold dbM
  rw [plc_cd hg t0 t1, dpc_cd hg]
  unfold dbF thD
  by_cases c1 : q t < 12
  · rw [if_pos c1, if_pos c1]
    exact Or.inr ⟨by omega, by omega, rfl⟩
  · rw [if_neg c1, if_neg c1]
    by_cases c2 : q t < 14
    · rw [if_pos c2, if_neg (show ¬ q t = 14 by omega)]
      refine Or.inr ⟨?_, ?_, rfl⟩
      · rw [hb]
        by_cases c3 : q t - 12 = 0
        · rw [if_pos c3]; omega
        · rw [if_neg c3]; omega
      · rw [hb]
        by_cases c3 : q t - 12 = 0
        · rw [if_pos c3]; omega
        · rw [if_neg c3]; omega
    · rw [if_neg c2, if_pos (show q t = 14 by omega)]
      exact Or.inl ⟨rfl, rfl⟩
theorem pdb_pc {t D d x : Int} {p : Int → Int} (hD : D ≤ 11) (hV : VdX D (fun u => p u = 15) x) (t0 : 0 ≤ t) (t1 : t < 7) (hp : ¬ p t = 15) (d0 : 0 ≤ d) (d1 : d ≤ 11) : PCd t D d x ↔ PDb t D d x := by
  unfold PCd PDb
  have h9 := sh_p d0 (show d ≤ 15 by omega)
  rcases db_v hD hV t0 t1 hp with ⟨e1, e2⟩ | ⟨e1, e2, e3⟩
  · rw [e1, e2]
    constructor
    · intro z; omega
    · intro z; omega
  · rw [e3]
    constructor
    · intro z; rw [z]
    · intro z; exact sh_eq e1 (by omega) d0 (by omega) z
section WM
variable {n D cap rope nd mb a0 : Int} {K A W p0 : Int → Int} {RK : (Int → Int) → Int → Prop}
/-- what reachOf says of a set -/
theorem ra_r {t d w x y0 : Int} (n0 : 0 ≤ n) (n7 : n ≤ 7) (hD : D ≤ 11) (hV : Vd D p0 a0) (t0 : 0 ≤ t) (t1 : t < 7) (hp : ¬ p0 t = 15) (ht : bAnd (bShr w t) 1 = 0) (d0 : 0 ≤ d) (d1 : d ≤ 11) (h : RcA (Sg n D cap K A W rope nd mb RK) (cdS (fwF w p0) a0) D t x) (hy : (x = -2 ∧ y0 = -2) ∨ (¬ x = -2 ∧ bAnd (bShr x d) 1 = 0 ∧ y0 = 0) ∨ (¬ x = -2 ∧ ¬ bAnd (bShr x d) 1 = 0 ∧ y0 = 1)) : BrR (Sg n D cap K A W rope nd mb RK) p0 a0 (PDb t D d) w y0 := by
  obtain ⟨L, m, sp, F, m0, hx⟩ := h
  have hst : Vd D (fwF w p0) a0 := by
    refine ⟨hV.1, fun u u0 u1 => ?_⟩
    unfold fwF
    by_cases q : bAnd (bShr w u) 1 = 1
    · rw [if_pos q]; omega
    · rw [if_neg q]; exact hV.2 u u0 u1
  have hpt : ¬ fwF w p0 t = 15 := by
    unfold fwF
    rw [if_neg (by omega)]
    exact hp
  refine ⟨L, m, sp, F, m0, ?_⟩
  rcases hx with ⟨s1, s2⟩ | ⟨s1, s2⟩
  · exact Or.inl ⟨s1, by omega⟩
  · refine Or.inr ⟨s1, ?_⟩
    have hbit : ∀ i : Nat, i < 32 → ((bv x).getLsbD i = true ↔ ∃ k : Int, 0 ≤ k ∧ k < m ∧ dbM t D (L k) = bShl 1 (i : Int)) := by
      intro i hi
      rw [s2]
      unfold og
      rw [or_get]
      constructor
      · rintro ⟨k, k0, k1, hk⟩
        have hr := ((F.1 s1).2.2 (L k)).mp ⟨k, k0, by omega, rfl⟩
        refine ⟨k, k0, by omega, ?_⟩
        rcases db_v hD (rc_vd n0 n7 hD (vx_of hst) _ hr) t0 t1 hpt with ⟨e1, _⟩ | ⟨e1, e2, e3⟩
        · rw [e1, g0] at hk
          exact absurd hk (by decide)
        · have hk : btF (dbM t D (L k)) (i : Int) = true := hk
          rw [e3] at hk
          rw [e3, ← (bt_one e1 (by omega) (by omega) (by omega)).mp hk]
      · rintro ⟨k, k0, k1, hk⟩
        refine ⟨k, k0, by omega, ?_⟩
        show btF (dbM t D (L k)) (i : Int) = true
        rw [hk]
        exact (bt_one (by omega) (by omega) (by omega) (by omega)).mpr rfl
    have hx2 : ¬ x = -2 := by
      intro e
      have h31 : (bv x).getLsbD 31 = true := by rw [e]; decide
      obtain ⟨k, k0, k1, hk⟩ := (hbit 31 (by decide)).mp h31
      have hr := ((F.1 s1).2.2 (L k)).mp ⟨k, k0, k1, rfl⟩
      have hk : dbM t D (L k) = -2147483648 := hk.trans (by decide +kernel)
      rcases db_v hD (rc_vd n0 n7 hD (vx_of hst) _ hr) t0 t1 hpt with ⟨e1, _⟩ | ⟨e1, e2, e3⟩
      · omega
      · have := sh_p e1 (by omega)
        omega
    have hd := hbit d.toNat (by omega)
    rw [show ((d.toNat : Nat) : Int) = d by omega] at hd
    have hb := bt_and (w := x) d0 (show d < 32 by omega)
    rcases hy with ⟨y1, _⟩ | ⟨_, y1, y2⟩ | ⟨_, y1, y2⟩
    · exact absurd y1 hx2
    · refine Or.inl ⟨y2, fun k k0 k1 z => ?_⟩
      have h1 : (bv x).getLsbD d.toNat = true := hd.mpr ⟨k, k0, k1, z⟩
      exact absurd (h1.symm.trans (hb.mp y1)) (by decide)
    · refine Or.inr ⟨y2, ?_⟩
      cases q : btF x d with
      | false => exact absurd (hb.mpr q) y1
      | true => exact hd.mp q
theorem bm_x {sv : Prop} {v d t z y x r : Int} (n0 : 0 ≤ n) (n7 : n ≤ 7) (hD : D ≤ 11) (hV : Vd D p0 a0) (t0 : 0 ≤ t) (t1 : t < 7) (hp : ¬ p0 t = 15) (d0 : 0 ≤ d) (d1 : d ≤ 11) (h : BmI sv v d (BrR (Sg n D cap K A W rope nd mb RK) p0 a0 (PDb t D d)) n t z y) (hv : Vq n t y) (hz : bcZ y = z) (hR : RchP sv x v (Sg n D cap K A W rope nd mb RK) (cdS (fwF y p0) a0) D t) (hvn : ¬ v = -2) (hx : x = -2) (hr : r = -2) : BaM sv v d (BrR (Sg n D cap K A W rope nd mb RK) p0 a0 (PDb t D d)) n t r :=
  ⟨fun s => absurd ((hR.1 s).symm.trans hx) hvn, fun s => bre_x (h.2 s) hv hz (ra_r n0 n7 hD hV t0 t1 hp hv.2.2.2 d0 d1 (hR.2 s) (Or.inl ⟨hx, rfl⟩)) hr⟩
theorem bm_f {sv : Prop} {v d t z y x r : Int} (n0 : 0 ≤ n) (n7 : n ≤ 7) (hD : D ≤ 11) (hV : Vd D p0 a0) (t0 : 0 ≤ t) (t1 : t < 7) (hp : ¬ p0 t = 15) (d0 : 0 ≤ d) (d1 : d ≤ 11) (h : BmI sv v d (BrR (Sg n D cap K A W rope nd mb RK) p0 a0 (PDb t D d)) n t z y) (hv : Vq n t y) (hz : bcZ y = z) (hR : RchP sv x v (Sg n D cap K A W rope nd mb RK) (cdS (fwF y p0) a0) D t) (hx : ¬ x = -2) (hb : bAnd (bShr x d) 1 = 0) (hr : r = y) : BaM sv v d (BrR (Sg n D cap K A W rope nd mb RK) p0 a0 (PDb t D d)) n t r := by
  refine ⟨fun s => ?_, fun s => bre_0 (h.2 s) hv hz (ra_r n0 n7 hD hV t0 t1 hp hv.2.2.2 d0 d1 (hR.2 s) (Or.inr (Or.inl ⟨hx, hb, rfl⟩))) hr⟩
  have e := hR.1 s
  rw [e] at hb
  rcases h.1 s with ⟨a, b⟩ | a
  · exact Or.inl ⟨hb, hr.trans b⟩
  · exact absurd hb a
theorem bm_g {sv : Prop} {v d t z y x y' : Int} (n0 : 0 ≤ n) (n7 : n ≤ 7) (hD : D ≤ 11) (hV : Vd D p0 a0) (t0 : 0 ≤ t) (t1 : t < 7) (hp : ¬ p0 t = 15) (d0 : 0 ≤ d) (d1 : d ≤ 11) (h : BmI sv v d (BrR (Sg n D cap K A W rope nd mb RK) p0 a0 (PDb t D d)) n t z y) (hv : Vq n t y) (hz : bcZ y = z) (hR : RchP sv x v (Sg n D cap K A W rope nd mb RK) (cdS (fwF y p0) a0) D t) (hx : ¬ x = -2) (hb : ¬ bAnd (bShr x d) 1 = 0) (hy : y' = y + 1) : BmI sv v d (BrR (Sg n D cap K A W rope nd mb RK) p0 a0 (PDb t D d)) n t z y' := by
  refine ⟨fun s => Or.inr ?_, fun s => bri_n (h.2 s) (fun _ _ => ra_r n0 n7 hD hV t0 t1 hp hv.2.2.2 d0 d1 (hR.2 s) (Or.inr (Or.inr ⟨hx, hb, rfl⟩))) hy⟩
  rw [← hR.1 s]
  exact hb
end WM
def NnP (n : Int) (p : Int → Int) : Prop := ∀ t, 0 ≤ t → t < n → ¬ p t = 15
theorem vm_n {p D : Int} (hp : 0 ≤ p ∧ (p ≤ D ∨ (12 ≤ p ∧ p ≤ 15))) (hD : 0 ≤ D ∧ D ≤ 11) : ¬ (if p = 14 then 0 else bShl 1 p) = -2 := by
  by_cases q : p = 14
  · rw [if_pos q]; decide
  · rw [if_neg q]
    have := sh_p hp.1 (show p ≤ 15 by omega)
    omega
theorem bit_0 {x b : Int} (h : b = bAnd x 1) (hb : ¬ b = 1) : b = 0 := by
  have e : (Int32.ofInt x &&& Int32.ofInt 1).toBitVec.toNat ≤ 1 := by
    rw [Int32.toBitVec_and, BitVec.toNat_and]
    exact Nat.le_trans Nat.and_le_right (by decide)
  have e2 : (Int32.ofInt x &&& Int32.ofInt 1).toInt = ((Int32.ofInt x &&& Int32.ofInt 1).toBitVec.toNat : Int) := BitVec.toInt_eq_toNat_of_lt (by omega)
  unfold bAnd at h
  rw [e2] at h
  omega
