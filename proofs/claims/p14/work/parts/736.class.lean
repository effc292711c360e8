set_option maxHeartbeats 4000000 in
set_option maxRecDepth 100000 in
theorem hL_town_k (l : Launch) (htr : l.stackTraces = false) (G : va_G) (k : Nat → ClassId) (arT : Nat → Nat) (pkT : Nat) (fiT : Nat → Int) (faT : Nat → Int → Int) (arY : Nat → Nat) (fiY : Nat → Int) (faY : Nat → Int → Int) (arP : Nat → Nat) (fiP : Nat → Int) (faP : Nat → Int → Int) (arD : Nat → Nat) (fiD : Nat → Int) (faD : Nat → Int → Int) (arB : Nat → Nat) (fiB : Nat → Int) (faB : Nat → Int → Int) (arS : Nat → Nat) (plS : Nat) (fiS : Nat → Int) (faS : Nat → Int → Int) (arR : Nat → Nat) (plR : Nat) (txR : Nat) (fiR : Nat → Int) (faR : Nat → Int → Int) (arO : Nat → Nat) (fiO : Nat → Int) (faO : Nat → Int → Int) (flO : Nat → Int64) (n0 : Int) (sz : Nat) (hRT : ∀ j, inR (fiT j)) (hRaT : ∀ j t, inR (faT j t)) (hRY : ∀ j, inR (fiY j)) (hRaY : ∀ j t, inR (faY j t)) (hB0Y : bnd (faY 0) 600 (-128) 128) (hRP : ∀ j, inR (fiP j)) (hRaP : ∀ j t, inR (faP j t)) (hB8P : bnd (faP 8) 7 0 4) (hB20P : bnd (faP 20) 600 (-1000) 10000) (hB21P : bnd (faP 21) 4 0 601) (hRD : ∀ j, inR (fiD j)) (hRaD : ∀ j t, inR (faD j t)) (hB8D : bnd (faD 8) 7 0 4) (hB20D : bnd (faD 20) 600 (-1000) 10000) (hB21D : bnd (faD 21) 4 0 601) (hRB : ∀ j, inR (fiB j)) (hRaB : ∀ j t, inR (faB j t)) (hRS : ∀ j, inR (fiS j)) (hRaS : ∀ j t, inR (faS j t)) (hB5S : bnd (faS 5) 1500 (-1) 1500) (hB7S : bnd (faS 7) 1024 (-1) 1500) (hB8S : bnd (faS 8) 1500 (-1) 1500) (hB9S : bnd (faS 9) 1500 0 1500) (hB10S : bnd (faS 10) 1500 0 1500) (hRR : ∀ j, inR (fiR j)) (hRaR : ∀ j t, inR (faR j t)) (hRO : ∀ j, inR (fiO j)) (hRaO : ∀ j t, inR (faO j t)) (hr_n0 : inR n0) (hfd : 0 ≤ fiT 1 ∧ fiT 1 ≤ 600) (hn : 0 ≤ n0 ∧ n0 ≤ fiT 1) (hpi : 0 ≤ fiP 7 ∧ fiP 7 ≤ 7 ∧ 0 ≤ fiP 0 ∧ fiP 0 ≤ 11 ∧ 0 ≤ fiP 24 ∧ fiP 24 ≤ 4 ∧ 0 ≤ fiP 23 ∧ fiP 23 ≤ 600) (hbi : 0 ≤ fiB 1 ∧ fiB 1 ≤ 60 ∧ 0 ≤ fiB 4 ∧ fiB 4 ≤ 6) (hsz : 0 ≤ fiS 6 ∧ fiS 6 ≤ 1500) (hpl : 0 < fiS 6 → plS = arP 99) (hk8 : fiT 8 = 0 ∨ fiT 8 = 1) : CHi l G k yL_town wzL_town ({ frames := 59, cells := 0, slots := 0, locals := 1436 }) [.ref (arT 99), .int (Int32.ofInt (n0)), .ref (arO 0)] sz ((wT k arT (arY 0) (arR 99) (arP 99) (arD 99) (arB 99) (pkT) (arS 99) fiT faT) ++ ((wY k arY fiY faY) ++ ((wP k arP fiP faP) ++ ((wP k arD fiD faD) ++ ((wB k arB fiB faB) ++ ((wS k arS (plS) fiS faS) ++ ((wR k arR (plR) (txR) fiR faR) ++ (wO k arO fiO faO flO)))))))) (fun (r0 : Int32) (u : Int × Int × Int × Int × Nat × Nat × (Int → Int) × (Int → Int) × (Int → Int) × (Int → Int) × (Int → Int) × (Int → Int) × Int × Int × Int × Int × Int × Int × Int × Int × Int × Int × (Int → Int) × Int × Int × Int × Int × Int × (Int → Int) × Int × Int × Int × Int × Int × Int × Int × Int × Int × Int × Int × (Nat → Int64)) => r0 = Int32.ofInt (u.1) ∧ (inR u.1) ∧ (inR u.2.1) ∧ (inR u.2.2.1) ∧ (inR u.2.2.2.1) ∧ (∀ t, inR (u.2.2.2.2.2.2.1 t)) ∧ (bnd u.2.2.2.2.2.2.1 7 0 4) ∧ (∀ t, inR (u.2.2.2.2.2.2.2.1 t)) ∧ (∀ t, inR (u.2.2.2.2.2.2.2.2.1 t)) ∧ (∀ t, inR (u.2.2.2.2.2.2.2.2.2.1 t)) ∧ (∀ t, inR (u.2.2.2.2.2.2.2.2.2.2.1 t)) ∧ (bnd u.2.2.2.2.2.2.2.2.2.2.1 600 (-1000) 10000) ∧ (∀ t, inR (u.2.2.2.2.2.2.2.2.2.2.2.1 t)) ∧ (bnd u.2.2.2.2.2.2.2.2.2.2.2.1 4 0 601) ∧ (inR u.2.2.2.2.2.2.2.2.2.2.2.2.1) ∧ (inR u.2.2.2.2.2.2.2.2.2.2.2.2.2.1) ∧ (inR u.2.2.2.2.2.2.2.2.2.2.2.2.2.2.1) ∧ (inR u.2.2.2.2.2.2.2.2.2.2.2.2.2.2.2.1) ∧ (inR u.2.2.2.2.2.2.2.2.2.2.2.2.2.2.2.2.1) ∧ (inR u.2.2.2.2.2.2.2.2.2.2.2.2.2.2.2.2.2.1) ∧ (inR u.2.2.2.2.2.2.2.2.2.2.2.2.2.2.2.2.2.2.1) ∧ (inR u.2.2.2.2.2.2.2.2.2.2.2.2.2.2.2.2.2.2.2.1) ∧ (inR u.2.2.2.2.2.2.2.2.2.2.2.2.2.2.2.2.2.2.2.2.1) ∧ (inR u.2.2.2.2.2.2.2.2.2.2.2.2.2.2.2.2.2.2.2.2.2.1) ∧ (∀ t, inR (u.2.2.2.2.2.2.2.2.2.2.2.2.2.2.2.2.2.2.2.2.2.2.1 t)) ∧ (inR u.2.2.2.2.2.2.2.2.2.2.2.2.2.2.2.2.2.2.2.2.2.2.2.1) ∧ (inR u.2.2.2.2.2.2.2.2.2.2.2.2.2.2.2.2.2.2.2.2.2.2.2.2.1) ∧ (inR u.2.2.2.2.2.2.2.2.2.2.2.2.2.2.2.2.2.2.2.2.2.2.2.2.2.1) ∧ (inR u.2.2.2.2.2.2.2.2.2.2.2.2.2.2.2.2.2.2.2.2.2.2.2.2.2.2.1) ∧ (inR u.2.2.2.2.2.2.2.2.2.2.2.2.2.2.2.2.2.2.2.2.2.2.2.2.2.2.2.1) ∧ (∀ t, inR (u.2.2.2.2.2.2.2.2.2.2.2.2.2.2.2.2.2.2.2.2.2.2.2.2.2.2.2.2.1 t)) ∧ (inR u.2.2.2.2.2.2.2.2.2.2.2.2.2.2.2.2.2.2.2.2.2.2.2.2.2.2.2.2.2.1) ∧ (inR u.2.2.2.2.2.2.2.2.2.2.2.2.2.2.2.2.2.2.2.2.2.2.2.2.2.2.2.2.2.2.1) ∧ (inR u.2.2.2.2.2.2.2.2.2.2.2.2.2.2.2.2.2.2.2.2.2.2.2.2.2.2.2.2.2.2.2.1) ∧ (inR u.2.2.2.2.2.2.2.2.2.2.2.2.2.2.2.2.2.2.2.2.2.2.2.2.2.2.2.2.2.2.2.2.1) ∧ (inR u.2.2.2.2.2.2.2.2.2.2.2.2.2.2.2.2.2.2.2.2.2.2.2.2.2.2.2.2.2.2.2.2.2.1) ∧ (inR u.2.2.2.2.2.2.2.2.2.2.2.2.2.2.2.2.2.2.2.2.2.2.2.2.2.2.2.2.2.2.2.2.2.2.1) ∧ (inR u.2.2.2.2.2.2.2.2.2.2.2.2.2.2.2.2.2.2.2.2.2.2.2.2.2.2.2.2.2.2.2.2.2.2.2.1) ∧ (inR u.2.2.2.2.2.2.2.2.2.2.2.2.2.2.2.2.2.2.2.2.2.2.2.2.2.2.2.2.2.2.2.2.2.2.2.2.1) ∧ (inR u.2.2.2.2.2.2.2.2.2.2.2.2.2.2.2.2.2.2.2.2.2.2.2.2.2.2.2.2.2.2.2.2.2.2.2.2.2.1) ∧ (inR u.2.2.2.2.2.2.2.2.2.2.2.2.2.2.2.2.2.2.2.2.2.2.2.2.2.2.2.2.2.2.2.2.2.2.2.2.2.2.1) ∧ (inR u.2.2.2.2.2.2.2.2.2.2.2.2.2.2.2.2.2.2.2.2.2.2.2.2.2.2.2.2.2.2.2.2.2.2.2.2.2.2.2.1) ∧ (((u.2.1 = 0 ∧ (u.2.2.2.1 = 0 ∨ u.2.2.2.1 = 1) ∧ 0 ≤ u.2.2.2.2.2.2.2.2.2.2.2.2.2.2.2.2.2.2.2.2.2.2.2.2.1 ∧ u.2.2.2.2.2.2.2.2.2.2.2.2.2.2.2.2.2.2.2.2.2.2.2.2.1 ≤ 60 ∧ 0 ≤ u.2.2.2.2.2.2.2.2.2.2.2.2.2.2.2.2.2.2.2.2.2.2.2.2.2.2.2.1 ∧ u.2.2.2.2.2.2.2.2.2.2.2.2.2.2.2.2.2.2.2.2.2.2.2.2.2.2.2.1 ≤ 6 ∧ 0 ≤ u.2.2.2.2.2.2.2.2.2.2.2.2.2.2.2.2.2.2.2.1 ∧ u.2.2.2.2.2.2.2.2.2.2.2.2.2.2.2.2.2.2.2.1 ≤ 7 ∧ 0 ≤ u.2.2.2.2.2.2.2.2.2.2.2.2.1 ∧ u.2.2.2.2.2.2.2.2.2.2.2.2.1 ≤ 11 ∧ 0 ≤ u.2.2.2.2.2.2.2.2.2.2.2.2.2.2.2.2.2.2.2.2.2.1 ∧ u.2.2.2.2.2.2.2.2.2.2.2.2.2.2.2.2.2.2.2.2.2.1 ≤ 4 ∧ 0 ≤ u.2.2.2.2.2.2.2.2.2.2.2.2.2.2.2.2.2.2.2.2.1 ∧ u.2.2.2.2.2.2.2.2.2.2.2.2.2.2.2.2.2.2.2.2.1 ≤ 600) ∧ u.1 = 0) ∧ ∃ q, u.2.2.2.2.2.2.2.2.2.2.2.2.2.2.2.2.2.2.2.2.2.2.2.2.2.2.2.2.2.2.2.2.2.2.2.2.2.2.2.2 0 = (Int32.ofInt q).toInt64 ∧ TwR (bd ((0 : Int), sk (uT (faY 0)) n0 0) (twF (uT (faY 0)) n0 600 0 0 0 1)) q u.2.2.1 (fiT 8) u.2.2.2.1 ∧ ((u.2.2.2.2.2.2.2.2.2.2.2.2.2.2.2.2.2.2.2.2.2.2.2.2.2.2.2.2.2.1 = 0 ∧ u.2.2.2.2.2.1 = arD 99 ∧ u.2.2.2.2.1 = arP 99 ∧ q = 0) ∨ (u.2.2.2.2.2.2.2.2.2.2.2.2.2.2.2.2.2.2.2.2.2.2.2.2.2.2.2.2.2.1 = fiS 6 ∧ u.2.2.2.2.2.1 = arP 99 ∧ u.2.2.2.2.1 = arD 99 ∧ ¬ q = 0)) ∧ TnC q (fun q => CRl u.2.2.2.2.2.2.2.2.2.2.2.2.1 u.2.2.2.2.2.2.2.2.2.2.2.2.2.1 u.2.2.2.2.2.2.2.2.2.2.2.2.2.2.1 u.2.2.2.2.2.2.2.2.2.2.2.2.2.2.2.1 u.2.2.2.2.2.2.2.2.2.2.2.2.2.2.2.2.1 u.2.2.2.2.2.2.2.2.2.2.2.2.2.2.2.2.2.1 u.2.2.2.2.2.2.2.2.2.2.2.2.2.2.2.2.2.2.1 u.2.2.2.2.2.2.1 u.2.2.2.2.2.2.2.1 u.2.2.2.2.2.2.2.2.1 u.2.2.2.2.2.2.2.2.2.1 u.2.2.2.2.2.2.2.2.2.2.1 u.2.2.2.2.2.2.2.2.2.2.2.1 u.2.2.2.2.2.2.2.2.2.2.2.2.2.2.2.2.2.2.2.2.1 u.2.2.2.2.2.2.2.2.2.2.2.2.2.2.2.2.2.2.2.1 u.2.2.2.2.2.2.2.2.2.2.2.2.2.2.2.2.2.2.2.2.2.1 q ∧ q.1 7 = u.2.2.2.2.2.2.2.2.2.2.2.2.2.2.2.2.2.2.2.1 ∧ q.1 8 = u.2.2.2.2.2.2.2.2.2.2.2.2.2.2.2.2.2.2.2.2.2.1) (twP (uT (faY 0)) n0 600 0 0 0 1 (sk (uT (faY 0)) n0 0) pl0) (FsI u.2.2.2.2.2.2.2.2.2.2.2.2.2.2.2.2.2.2.2.2.2.2.2.1 u.2.2.2.2.2.2.2.2.2.2.2.2.2.2.2.2.2.2.2.1 u.2.2.2.2.2.2.2.2.2.2.2.2.2.1 u.2.2.2.2.2.2.2.2.1 u.2.2.2.2.2.2.2.2.2.2.2.2.2.2.2.2.2.2.2.1 ∧ u.2.2.2.2.2.2.2.2.2.2.2.2.2.2.2.2.2.2.2.2.2.2.2.2.1 = 0 ∧ u.2.2.2.2.2.2.2.2.2.2.2.2.2.2.2.2.2.2.2.2.2.2.2.2.2.2.2.1 = 0) (u.2.2.2.2.2.2.2.2.2.2.2.2.2.2.2.2.2.2.2.2.2.2.2.1 = fiB 0 ∧ u.2.2.2.2.2.2.2.2.2.2.2.2.2.2.2.2.2.2.2.2.2.2.2.2.1 = fiB 1 ∧ u.2.2.2.2.2.2.2.2.2.2.2.2.2.2.2.2.2.2.2.2.2.2.2.2.2.2.2.1 = fiB 4))) (fun (u : Int × Int × Int × Int × Nat × Nat × (Int → Int) × (Int → Int) × (Int → Int) × (Int → Int) × (Int → Int) × (Int → Int) × Int × Int × Int × Int × Int × Int × Int × Int × Int × Int × (Int → Int) × Int × Int × Int × Int × Int × (Int → Int) × Int × Int × Int × Int × Int × Int × Int × Int × Int × Int × Int × (Nat → Int64)) => ((wT k arT (arY 0) (arR 99) (u.2.2.2.2.2.1) (u.2.2.2.2.1) (arB 99) (pkT) (arS 99) (uF (uF (uF fiT 1 (u.2.1)) 2 (u.2.2.1)) 8 (u.2.2.2.1)) faT) ++ ((wY k arY fiY faY) ++ ((wP k arP fiP faP) ++ ((wP k arD (uF (uF (uF (uF (uF (uF (uF (uF (uF (uF fiD 0 (u.2.2.2.2.2.2.2.2.2.2.2.2.1)) 1 (u.2.2.2.2.2.2.2.2.2.2.2.2.2.1)) 2 (u.2.2.2.2.2.2.2.2.2.2.2.2.2.2.1)) 3 (u.2.2.2.2.2.2.2.2.2.2.2.2.2.2.2.1)) 4 (u.2.2.2.2.2.2.2.2.2.2.2.2.2.2.2.2.1)) 5 (u.2.2.2.2.2.2.2.2.2.2.2.2.2.2.2.2.2.1)) 6 (u.2.2.2.2.2.2.2.2.2.2.2.2.2.2.2.2.2.2.1)) 7 (u.2.2.2.2.2.2.2.2.2.2.2.2.2.2.2.2.2.2.2.1)) 23 (u.2.2.2.2.2.2.2.2.2.2.2.2.2.2.2.2.2.2.2.2.1)) 24 (u.2.2.2.2.2.2.2.2.2.2.2.2.2.2.2.2.2.2.2.2.2.1)) (uF (uF (uF (uF (uF (uF faD 8 (u.2.2.2.2.2.2.1)) 9 (u.2.2.2.2.2.2.2.1)) 10 (u.2.2.2.2.2.2.2.2.1)) 11 (u.2.2.2.2.2.2.2.2.2.1)) 20 (u.2.2.2.2.2.2.2.2.2.2.1)) 21 (u.2.2.2.2.2.2.2.2.2.2.2.1))) ++ ((wB k arB (uF (uF (uF (uF (uF fiB 0 (u.2.2.2.2.2.2.2.2.2.2.2.2.2.2.2.2.2.2.2.2.2.2.2.1)) 1 (u.2.2.2.2.2.2.2.2.2.2.2.2.2.2.2.2.2.2.2.2.2.2.2.2.1)) 2 (u.2.2.2.2.2.2.2.2.2.2.2.2.2.2.2.2.2.2.2.2.2.2.2.2.2.1)) 3 (u.2.2.2.2.2.2.2.2.2.2.2.2.2.2.2.2.2.2.2.2.2.2.2.2.2.2.1)) 4 (u.2.2.2.2.2.2.2.2.2.2.2.2.2.2.2.2.2.2.2.2.2.2.2.2.2.2.2.1)) (uF faB 11 (u.2.2.2.2.2.2.2.2.2.2.2.2.2.2.2.2.2.2.2.2.2.2.1))) ++ ((wS k arS (plS) (uF fiS 6 (u.2.2.2.2.2.2.2.2.2.2.2.2.2.2.2.2.2.2.2.2.2.2.2.2.2.2.2.2.2.1)) (uF faS 14 (u.2.2.2.2.2.2.2.2.2.2.2.2.2.2.2.2.2.2.2.2.2.2.2.2.2.2.2.2.1))) ++ ((wR k arR (arD 99) (arY 0) (uF (uF (uF (uF (uF (uF (uF (uF (uF (uF fiR 2 (u.2.2.2.2.2.2.2.2.2.2.2.2.2.2.2.2.2.2.2.2.2.2.2.2.2.2.2.2.2.2.1)) 3 (u.2.2.2.2.2.2.2.2.2.2.2.2.2.2.2.2.2.2.2.2.2.2.2.2.2.2.2.2.2.2.2.1)) 4 (u.2.2.2.2.2.2.2.2.2.2.2.2.2.2.2.2.2.2.2.2.2.2.2.2.2.2.2.2.2.2.2.2.1)) 21 (u.2.2.2.2.2.2.2.2.2.2.2.2.2.2.2.2.2.2.2.2.2.2.2.2.2.2.2.2.2.2.2.2.2.1)) 22 (u.2.2.2.2.2.2.2.2.2.2.2.2.2.2.2.2.2.2.2.2.2.2.2.2.2.2.2.2.2.2.2.2.2.2.1)) 23 (u.2.2.2.2.2.2.2.2.2.2.2.2.2.2.2.2.2.2.2.2.2.2.2.2.2.2.2.2.2.2.2.2.2.2.2.1)) 24 (u.2.2.2.2.2.2.2.2.2.2.2.2.2.2.2.2.2.2.2.2.2.2.2.2.2.2.2.2.2.2.2.2.2.2.2.2.1)) 25 (u.2.2.2.2.2.2.2.2.2.2.2.2.2.2.2.2.2.2.2.2.2.2.2.2.2.2.2.2.2.2.2.2.2.2.2.2.2.1)) 26 (u.2.2.2.2.2.2.2.2.2.2.2.2.2.2.2.2.2.2.2.2.2.2.2.2.2.2.2.2.2.2.2.2.2.2.2.2.2.2.1)) 27 (u.2.2.2.2.2.2.2.2.2.2.2.2.2.2.2.2.2.2.2.2.2.2.2.2.2.2.2.2.2.2.2.2.2.2.2.2.2.2.2.1)) faR) ++ (wO k arO fiO faO u.2.2.2.2.2.2.2.2.2.2.2.2.2.2.2.2.2.2.2.2.2.2.2.2.2.2.2.2.2.2.2.2.2.2.2.2.2.2.2.2))))))))) := by
  refine va_MetW (cc := cL_town) (maxL := 4) (ret := (some .int)) (by decide) rfl ?_
  intro p e s m args below meth c s₁ B hml hv
  obtain ⟨⟨rfl, hsz, hP, hX, hD0, hZ0⟩, hT9⟩ := hv
  have hlocks := B.notSynchronized
  have hx := B.exec
  have hb := B.bytes
  have hr := B.returns
  have hts := atoms_spec (ws := wzL_town) B.pre
  have hown : s.vm.findClass RL = some m.cls := findClass_of_methodNamed B.named
  subst hsz
  have hD := hD0.self (sz := s.heap.size)
  have hZ := hZ0
  generalize hAe : va_A ((wT k arT (arY 0) (arR 99) (arP 99) (arD 99) (arB 99) (pkT) (arS 99) fiT faT) ++ ((wY k arY fiY faY) ++ ((wP k arP fiP faP) ++ ((wP k arD fiD faD) ++ ((wB k arB fiB faB) ++ ((wS k arS (plS) fiS faS) ++ ((wR k arR (plR) (txR) fiR faR) ++ (wO k arO fiO faO flO)))))))) s.heap.size = A at hD hZ ⊢
  have hA : ∀ q : Nat, s.heap.size ≤ q → A q := fun q h => by rw [← hAe]; exact Or.inr h
  have hS : va_S A s.heap s.heap [] := va_S.rf
  have hl := lv_entry ([.ref (arT 99), .int (Int32.ofInt (n0)), .ref (arO 0)]) (n := 4) (Nat.le_of_ble_eq_true rfl)
  rw [lg_entry_eq]
  generalize (lg_sl ([.ref (arT 99), .int (Int32.ofInt (n0)), .ref (arO 0)]) ++ List.replicate (4 - (lg_sl ([.ref (arT 99), .int (Int32.ofInt (n0)), .ref (arO 0)])).length) Slot.unset).toArray = ls at hl ⊢
  have hl : lv_has ls 4 [(0, .ref (arT 99)), (1, .int (Int32.ofInt (n0))), (2, .ref (arO 0))] := hl
  obtain ⟨H, eH⟩ : ∃ H, H = s.heap := ⟨_, rfl⟩
  rw [← eH] at hP
  have hS : va_S A s.heap H [] := by rw [eH]; exact hS
  have gW : s.heap = H := eH.symm
  refine iv_heap gW ?_
  refine lv_aload_n hx hb dL_town_0 rfl (lv_at hl 2 rfl) ?_
  refine lv_iconst (v := Int32.ofInt 0) hx hb dL_town_1 (by decide +kernel) ?_
  refine lv_aload_n hx hb dL_town_2 rfl (lv_at hl 0 rfl) ?_
  refine lv_iload_n hx hb dL_town_3 rfl (lv_at hl 1 rfl) ?_
  refine cz_i (wr := (wO k arO fiO faO flO)) (va_runV (As := [.int (Int32.ofInt (n0))]) (rest := [.int (Int32.ofInt (0)), .ref (arO 0)]) ⟨hx, hb, hml, hown, hts⟩ (mX9_town l G k arT pkT fiT faT arY fiY faY arP fiP faP arD fiD faD arB fiB faB arS plS fiS faS arR plR txR fiR faR n0 H.size hRT hRaT hRY hRaY hB0Y hRP hRaP hB8P hB20P hB21P hRD hRaD hB8D hB20D hB21D hRB hRaB hRS hRaS hB5S hB7S hB8S hB9S hB10S hRR hRaR (by omega) (show 0 ≤ (fiT 1) ∧ (fiT 1) ≤ 600 from by omega) (show 0 ≤ n0 ∧ n0 ≤ (fiT 1) from by omega) (show 0 ≤ (fiP 7) ∧ (fiP 7) ≤ 7 ∧ 0 ≤ (fiP 0) ∧ (fiP 0) ≤ 11 ∧ 0 ≤ (fiP 24) ∧ (fiP 24) ≤ 4 ∧ 0 ≤ (fiP 23) ∧ (fiP 23) ≤ 600 from by omega) (show 0 ≤ (fiB 1) ∧ (fiB 1) ≤ 60 ∧ 0 ≤ (fiB 4) ∧ (fiB 4) ≤ 6 from by omega) (show 0 ≤ (fiS 6) ∧ (fiS 6) ≤ 1500 from by omega) (show 0 < (fiS 6) → plS = arP 99 from by omega) (show (fiT 8) = 0 ∨ (fiT 8) = 1 from by omega)) (cwV 1 hts (gz [.methodLink RL 7 yX9_town, .instanceMethod yX9_town, .selects RX9 yX9_town yX9_town, .initialized RX9] (.code yX9_town cX9_town 4 (some .int)) [(8, 19), (8, 20), (8, 21), (0, 2), (8, 22)] rfl) rfl rfl rfl (by decide +kernel) ⟨Nat.le_of_ble_eq_true rfl, Nat.le_of_ble_eq_true rfl⟩) (cy_preV (EZ_ok k) hZ hS hX hP hD hA [0, 1, 2, 3, 4, 5, 6, 7, 8, 9, 10, 11, 12, 13, 14, 15, 16, 17, 18, 19, 20, 21, 22, 23, 24, 25, 26, 27, 28, 29, 30, 31, 32, 33, 34, 35, 36, 37, 38, 39, 40, 41, 42] rfl rfl (ci := 6) (q0 := 0) rfl rfl) rfl rfl hl.1 rfl (lv_room (Nat.le_of_ble_eq_true rfl)) dL_town_4 ⟨Nat.le_of_ble_eq_true rfl, Nat.le_of_ble_eq_true rfl⟩) hP hD hS hA [0, 1, 2, 3, 4, 5, 6, 7, 8, 9, 10, 11, 12, 13, 14, 15, 16, 17, 18, 19, 20, 21, 22, 23, 24, 25, 26, 27, 28, 29, 30, 31, 32, 33, 34, 35, 36, 37, 38, 39, 40, 41, 42] [43] rfl rfl (by decide) (by decide) (fun r u H locs hp hP hD hS => ?_)
  obtain ⟨c1, c2, c3, c4, c5, c6, c7, c8, c9, c10, c11, c12, c13, c14, c15, c16, c17, c18, c19, c20, c21, c22, c23, c24, c25, c26, c27, c28, c29, c30, c31, c32, c33, c34, c35, c36, c37, c38, c39, c40⟩ := u
  obtain ⟨hP, hD⟩ : va_P G vwCl ((wO k arO fiO faO flO) ++ ((wT k arT (arY 0) (arR 99) (c6) (c5) (arB 99) (pkT) (arS 99) (uF (uF (uF fiT 1 (c2)) 2 (c3)) 8 (c4)) faT) ++ ((wY k arY fiY faY) ++ ((wP k arP fiP faP) ++ ((wP k arD (uF (uF (uF (uF (uF (uF (uF (uF (uF (uF fiD 0 (c13)) 1 (c14)) 2 (c15)) 3 (c16)) 4 (c17)) 5 (c18)) 6 (c19)) 7 (c20)) 23 (c21)) 24 (c22)) (uF (uF (uF (uF (uF (uF faD 8 (c7)) 9 (c8)) 10 (c9)) 11 (c10)) 20 (c11)) 21 (c12))) ++ ((wB k arB (uF (uF (uF (uF (uF fiB 0 (c24)) 1 (c25)) 2 (c26)) 3 (c27)) 4 (c28)) (uF faB 11 (c23))) ++ ((wS k arS (plS) (uF fiS 6 (c30)) (uF faS 14 (c29))) ++ (wR k arR (arD 99) (arY 0) (uF (uF (uF (uF (uF (uF (uF (uF (uF (uF fiR 2 (c31)) 3 (c32)) 4 (c33)) 21 (c34)) 22 (c35)) 23 (c36)) 24 (c37)) 25 (c38)) 26 (c39)) 27 (c40)) faR)))))))) H ∧ va_D A ((wO k arO fiO faO flO) ++ ((wT k arT (arY 0) (arR 99) (c6) (c5) (arB 99) (pkT) (arS 99) (uF (uF (uF fiT 1 (c2)) 2 (c3)) 8 (c4)) faT) ++ ((wY k arY fiY faY) ++ ((wP k arP fiP faP) ++ ((wP k arD (uF (uF (uF (uF (uF (uF (uF (uF (uF (uF fiD 0 (c13)) 1 (c14)) 2 (c15)) 3 (c16)) 4 (c17)) 5 (c18)) 6 (c19)) 7 (c20)) 23 (c21)) 24 (c22)) (uF (uF (uF (uF (uF (uF faD 8 (c7)) 9 (c8)) 10 (c9)) 11 (c10)) 20 (c11)) 21 (c12))) ++ ((wB k arB (uF (uF (uF (uF (uF fiB 0 (c24)) 1 (c25)) 2 (c26)) 3 (c27)) 4 (c28)) (uF faB 11 (c23))) ++ ((wS k arS (plS) (uF fiS 6 (c30)) (uF faS 14 (c29))) ++ (wR k arR (arD 99) (arY 0) (uF (uF (uF (uF (uF (uF (uF (uF (uF (uF fiR 2 (c31)) 3 (c32)) 4 (c33)) 21 (c34)) 22 (c35)) 23 (c36)) 24 (c37)) 25 (c38)) 26 (c39)) 27 (c40)) faR)))))))) := ⟨hP, hD⟩
  obtain ⟨hP, hD⟩ : va_P G vwCl ((wT k arT (arY 0) (arR 99) (c6) (c5) (arB 99) (pkT) (arS 99) (uF (uF (uF fiT 1 (c2)) 2 (c3)) 8 (c4)) faT) ++ ((wY k arY fiY faY) ++ ((wP k arP fiP faP) ++ ((wP k arD (uF (uF (uF (uF (uF (uF (uF (uF (uF (uF fiD 0 (c13)) 1 (c14)) 2 (c15)) 3 (c16)) 4 (c17)) 5 (c18)) 6 (c19)) 7 (c20)) 23 (c21)) 24 (c22)) (uF (uF (uF (uF (uF (uF faD 8 (c7)) 9 (c8)) 10 (c9)) 11 (c10)) 20 (c11)) 21 (c12))) ++ ((wB k arB (uF (uF (uF (uF (uF fiB 0 (c24)) 1 (c25)) 2 (c26)) 3 (c27)) 4 (c28)) (uF faB 11 (c23))) ++ ((wS k arS (plS) (uF fiS 6 (c30)) (uF faS 14 (c29))) ++ ((wR k arR (arD 99) (arY 0) (uF (uF (uF (uF (uF (uF (uF (uF (uF (uF fiR 2 (c31)) 3 (c32)) 4 (c33)) 21 (c34)) 22 (c35)) 23 (c36)) 24 (c37)) 25 (c38)) 26 (c39)) 27 (c40)) faR) ++ (wO k arO fiO faO flO)))))))) H ∧ va_D A ((wT k arT (arY 0) (arR 99) (c6) (c5) (arB 99) (pkT) (arS 99) (uF (uF (uF fiT 1 (c2)) 2 (c3)) 8 (c4)) faT) ++ ((wY k arY fiY faY) ++ ((wP k arP fiP faP) ++ ((wP k arD (uF (uF (uF (uF (uF (uF (uF (uF (uF (uF fiD 0 (c13)) 1 (c14)) 2 (c15)) 3 (c16)) 4 (c17)) 5 (c18)) 6 (c19)) 7 (c20)) 23 (c21)) 24 (c22)) (uF (uF (uF (uF (uF (uF faD 8 (c7)) 9 (c8)) 10 (c9)) 11 (c10)) 20 (c11)) 21 (c12))) ++ ((wB k arB (uF (uF (uF (uF (uF fiB 0 (c24)) 1 (c25)) 2 (c26)) 3 (c27)) 4 (c28)) (uF faB 11 (c23))) ++ ((wS k arS (plS) (uF fiS 6 (c30)) (uF faS 14 (c29))) ++ ((wR k arR (arD 99) (arY 0) (uF (uF (uF (uF (uF (uF (uF (uF (uF (uF fiR 2 (c31)) 3 (c32)) 4 (c33)) 21 (c34)) 22 (c35)) 23 (c36)) 24 (c37)) 25 (c38)) 26 (c39)) 27 (c40)) faR) ++ (wO k arO fiO faO flO)))))))) := re_ord hP hD [1, 2, 3, 4, 5, 6, 7, 8, 9, 10, 11, 12, 13, 14, 15, 16, 17, 18, 19, 20, 21, 22, 23, 24, 25, 26, 27, 28, 29, 30, 31, 32, 33, 34, 35, 36, 37, 38, 39, 40, 41, 42, 43, 0] (by decide) rfl
  obtain ⟨h9, rc1, rc2, rc3, rc4, rc7, bc7, rc8, rc9, rc10, rc11, bc11, rc12, bc12, rc13, rc14, rc15, rc16, rc17, rc18, rc19, rc20, rc21, rc22, rc23, rc24, rc25, rc26, rc27, rc28, rc29, rc30, rc31, rc32, rc33, rc34, rc35, rc36, rc37, rc38, rc39, rc40, hp40⟩ : r = Int32.ofInt c1 ∧ (inR c1) ∧ (inR c2) ∧ (inR c3) ∧ (inR c4) ∧ (∀ t, inR (c7 t)) ∧ (bnd c7 7 0 4) ∧ (∀ t, inR (c8 t)) ∧ (∀ t, inR (c9 t)) ∧ (∀ t, inR (c10 t)) ∧ (∀ t, inR (c11 t)) ∧ (bnd c11 600 (-1000) 10000) ∧ (∀ t, inR (c12 t)) ∧ (bnd c12 4 0 601) ∧ (inR c13) ∧ (inR c14) ∧ (inR c15) ∧ (inR c16) ∧ (inR c17) ∧ (inR c18) ∧ (inR c19) ∧ (inR c20) ∧ (inR c21) ∧ (inR c22) ∧ (∀ t, inR (c23 t)) ∧ (inR c24) ∧ (inR c25) ∧ (inR c26) ∧ (inR c27) ∧ (inR c28) ∧ (∀ t, inR (c29 t)) ∧ (inR c30) ∧ (inR c31) ∧ (inR c32) ∧ (inR c33) ∧ (inR c34) ∧ (inR c35) ∧ (inR c36) ∧ (inR c37) ∧ (inR c38) ∧ (inR c39) ∧ (inR c40) ∧ ((c2 = 0 ∧ (c4 = 0 ∨ c4 = 1) ∧ 0 ≤ c25 ∧ c25 ≤ 60 ∧ 0 ≤ c28 ∧ c28 ≤ 6 ∧ 0 ≤ c20 ∧ c20 ≤ 7 ∧ 0 ≤ c13 ∧ c13 ≤ 11 ∧ 0 ≤ c22 ∧ c22 ≤ 4 ∧ 0 ≤ c21 ∧ c21 ≤ 600) ∧ TwR (bd ((0 : Int), sk (uT ((faY 0))) n0 0) (twF (uT ((faY 0))) n0 600 0 0 0 1)) c1 c3 ((fiT 8)) c4 ∧ ((c30 = 0 ∧ c6 = arD 99 ∧ c5 = arP 99 ∧ c1 = 0) ∨ (c30 = (fiS 6) ∧ c6 = arP 99 ∧ c5 = arD 99 ∧ ¬ c1 = 0)) ∧ TnC c1 (fun q => CRl c13 c14 c15 c16 c17 c18 c19 c7 c8 c9 c10 c11 c12 c21 c20 c22 q ∧ q.1 7 = c20 ∧ q.1 8 = c22) (twP (uT ((faY 0))) n0 600 0 0 0 1 (sk (uT ((faY 0))) n0 0) pl0) (FsI c24 c20 c14 c9 c20 ∧ c25 = 0 ∧ c28 = 0) (c24 = (fiB 0) ∧ c25 = (fiB 1) ∧ c28 = (fiB 4))) := hp
  subst h9
  obtain ⟨hp40, hTw, hTpt, hTnc⟩ := hp40
  refine iv_i2l hx hb dL_town_7 ?_
  refine lv_topl (fun z41 ez41 => ?_)
  have hL8 := ez41
  refine iv_last hx hb hX.1 hP hD hS 43 2 rfl rfl (fun g' => show _ = ((wT k arT (arY 0) (arR 99) (c6) (c5) (arB 99) (pkT) (arS 99) (uF (uF (uF fiT 1 (c2)) 2 (c3)) 8 (c4)) faT) ++ ((wY k arY fiY faY) ++ ((wP k arP fiP faP) ++ ((wP k arD (uF (uF (uF (uF (uF (uF (uF (uF (uF (uF fiD 0 (c13)) 1 (c14)) 2 (c15)) 3 (c16)) 4 (c17)) 5 (c18)) 6 (c19)) 7 (c20)) 23 (c21)) 24 (c22)) (uF (uF (uF (uF (uF (uF faD 8 (c7)) 9 (c8)) 10 (c9)) 11 (c10)) 20 (c11)) 21 (c12))) ++ ((wB k arB (uF (uF (uF (uF (uF fiB 0 (c24)) 1 (c25)) 2 (c26)) 3 (c27)) 4 (c28)) (uF faB 11 (c23))) ++ ((wS k arS (plS) (uF fiS 6 (c30)) (uF faS 14 (c29))) ++ ((wR k arR (arD 99) (arY 0) (uF (uF (uF (uF (uF (uF (uF (uF (uF (uF fiR 2 (c31)) 3 (c32)) 4 (c33)) 21 (c34)) 22 (c35)) 23 (c36)) 24 (c37)) 25 (c38)) 26 (c39)) 27 (c40)) faR) ++ (wO k arO fiO faO g')))))))) from rfl) (by omega) (by omega) (by decide) dL_town_8 (fun H locs hP hD hS => ?_)
  obtain ⟨g42, eg42⟩ : ∃ z, z = vp_updL (flO) (0 : Int).toNat (z41) := ⟨_, rfl⟩
  rw [← eg42] at hP hD
  have hG := up_eq eg42 hL8
  refine lv_goto (tgt := 15) hx hb dL_town_9 (by decide) ?_
  refine lv_iconst (v := Int32.ofInt 0) hx hb dL_town_15 (by decide +kernel) ?_
  exact W.iret (v := Int32.ofInt (0)) hx hb hr (fun t ht hW => ⟨⟨Int32.ofInt (0), (0, c2, c3, c4, c5, c6, c7, c8, c9, c10, c11, c12, c13, c14, c15, c16, c17, c18, c19, c20, c21, c22, c23, c24, c25, c26, c27, c28, c29, c30, c31, c32, c33, c34, c35, c36, c37, c38, c39, c40, g42), rfl, ⟨rfl, (show (inR 0) ∧ (inR c2) ∧ (inR c3) ∧ (inR c4) ∧ (∀ t, inR (c7 t)) ∧ (bnd c7 7 0 4) ∧ (∀ t, inR (c8 t)) ∧ (∀ t, inR (c9 t)) ∧ (∀ t, inR (c10 t)) ∧ (∀ t, inR (c11 t)) ∧ (bnd c11 600 (-1000) 10000) ∧ (∀ t, inR (c12 t)) ∧ (bnd c12 4 0 601) ∧ (inR c13) ∧ (inR c14) ∧ (inR c15) ∧ (inR c16) ∧ (inR c17) ∧ (inR c18) ∧ (inR c19) ∧ (inR c20) ∧ (inR c21) ∧ (inR c22) ∧ (∀ t, inR (c23 t)) ∧ (inR c24) ∧ (inR c25) ∧ (inR c26) ∧ (inR c27) ∧ (inR c28) ∧ (∀ t, inR (c29 t)) ∧ (inR c30) ∧ (inR c31) ∧ (inR c32) ∧ (inR c33) ∧ (inR c34) ∧ (inR c35) ∧ (inR c36) ∧ (inR c37) ∧ (inR c38) ∧ (inR c39) ∧ (inR c40) ∧ (((c2 = 0 ∧ (c4 = 0 ∨ c4 = 1) ∧ 0 ≤ c25 ∧ c25 ≤ 60 ∧ 0 ≤ c28 ∧ c28 ≤ 6 ∧ 0 ≤ c20 ∧ c20 ≤ 7 ∧ 0 ≤ c13 ∧ c13 ≤ 11 ∧ 0 ≤ c22 ∧ c22 ≤ 4 ∧ 0 ≤ c21 ∧ c21 ≤ 600) ∧ 0 = 0) ∧ ∃ q, g42 0 = (Int32.ofInt q).toInt64 ∧ TwR (bd ((0 : Int), sk (uT (faY 0)) n0 0) (twF (uT (faY 0)) n0 600 0 0 0 1)) q c3 (fiT 8) c4 ∧ ((c30 = 0 ∧ c6 = arD 99 ∧ c5 = arP 99 ∧ q = 0) ∨ (c30 = fiS 6 ∧ c6 = arP 99 ∧ c5 = arD 99 ∧ ¬ q = 0)) ∧ TnC q (fun q => CRl c13 c14 c15 c16 c17 c18 c19 c7 c8 c9 c10 c11 c12 c21 c20 c22 q ∧ q.1 7 = c20 ∧ q.1 8 = c22) (twP (uT (faY 0)) n0 600 0 0 0 1 (sk (uT (faY 0)) n0 0) pl0) (FsI c24 c20 c14 c9 c20 ∧ c25 = 0 ∧ c28 = 0) (c24 = fiB 0 ∧ c25 = fiB 1 ∧ c28 = fiB 4)) from ⟨(by omega), (by omega), (by omega), (by omega), rc7, bc7, rc8, rc9, rc10, rc11, bc11, rc12, bc12, (by omega), (by omega), (by omega), (by omega), (by omega), (by omega), (by omega), (by omega), (by omega), (by omega), rc23, (by omega), (by omega), (by omega), (by omega), (by omega), rc29, (by omega), (by omega), (by omega), (by omega), (by omega), (by omega), (by omega), (by omega), (by omega), (by omega), (by omega), (by exact ⟨⟨hp40, rfl⟩, ⟨_, hG, hTw, hTpt, hTnc⟩⟩)⟩)⟩, by rw [ht]; exact hP, hD⟩, hS.F ht⟩) hS.2.2 dL_town_16

set_option maxHeartbeats 4000000 in
set_option maxRecDepth 100000 in
theorem hL_town_x (l : Launch) (htr : l.stackTraces = false) (G : va_G) (k : Nat → ClassId) (arT : Nat → Nat) (tpT : Nat) (paT : Nat) (ppT : Nat) (pdT : Nat) (pbT : Nat) (pkT : Nat) (psT : Nat) (fiT : Nat → Int) (faT : Nat → Int → Int) (arO : Nat → Nat) (fiO : Nat → Int) (faO : Nat → Int → Int) (flO : Nat → Int64) (n0 : Int) (sz : Nat) (hRT : ∀ j, inR (fiT j)) (hRaT : ∀ j t, inR (faT j t)) (hRO : ∀ j, inR (fiO j)) (hRaO : ∀ j t, inR (faO j t)) (hr_n0 : inR n0) (hx0 : n0 < 0 ∨ fiT 1 < n0) : CHi l G k yL_town wzL_town ({ frames := 7, cells := 1, slots := 6, locals := 123 }) [.ref (arT 99), .int (Int32.ofInt (n0)), .ref (arO 0)] sz ((wT k arT (tpT) (paT) (ppT) (pdT) (pbT) (pkT) (psT) fiT faT) ++ (wO k arO fiO faO flO)) (fun (r0 : Int32) (u : Int) => r0 = Int32.ofInt (u) ∧ (inR u) ∧ (u = 1)) (fun (u : Int) => ((wT k arT (tpT) (paT) (ppT) (pdT) (pbT) (pkT) (psT) fiT faT) ++ (wO k arO fiO faO flO))) := by
  refine va_MetW (cc := cL_town) (maxL := 4) (ret := (some .int)) (by decide) rfl ?_
  intro p e s m args below meth c s₁ B hml hv
  obtain ⟨⟨rfl, hsz, hP, hX, hD0, hZ0⟩, hT9⟩ := hv
  have hlocks := B.notSynchronized
  have hx := B.exec
  have hb := B.bytes
  have hr := B.returns
  have hts := atoms_spec (ws := wzL_town) B.pre
  have hown : s.vm.findClass RL = some m.cls := findClass_of_methodNamed B.named
  subst hsz
  have hD := hD0.self (sz := s.heap.size)
  have hZ := hZ0
  generalize hAe : va_A ((wT k arT (tpT) (paT) (ppT) (pdT) (pbT) (pkT) (psT) fiT faT) ++ (wO k arO fiO faO flO)) s.heap.size = A at hD hZ ⊢
  have hA : ∀ q : Nat, s.heap.size ≤ q → A q := fun q h => by rw [← hAe]; exact Or.inr h
  have hS : va_S A s.heap s.heap [] := va_S.rf
  have hl := lv_entry ([.ref (arT 99), .int (Int32.ofInt (n0)), .ref (arO 0)]) (n := 4) (Nat.le_of_ble_eq_true rfl)
  rw [lg_entry_eq]
  generalize (lg_sl ([.ref (arT 99), .int (Int32.ofInt (n0)), .ref (arO 0)]) ++ List.replicate (4 - (lg_sl ([.ref (arT 99), .int (Int32.ofInt (n0)), .ref (arO 0)])).length) Slot.unset).toArray = ls at hl ⊢
  have hl : lv_has ls 4 [(0, .ref (arT 99)), (1, .int (Int32.ofInt (n0))), (2, .ref (arO 0))] := hl
  obtain ⟨H, eH⟩ : ∃ H, H = s.heap := ⟨_, rfl⟩
  rw [← eH] at hP
  have hS : va_S A s.heap H [] := by rw [eH]; exact hS
  have gW : s.heap = H := eH.symm
  refine iv_heap gW ?_
  have h0w := hts (.classLink RL 13 "java/lang/IllegalArgumentException") (wz_at 8 18 rfl)
  refine lv_aload_n hx hb dL_town_0 rfl (lv_at hl 2 rfl) ?_
  refine lv_iconst (v := Int32.ofInt 0) hx hb dL_town_1 (by decide +kernel) ?_
  refine lv_aload_n hx hb dL_town_2 rfl (lv_at hl 0 rfl) ?_
  refine lv_iload_n hx hb dL_town_3 rfl (lv_at hl 1 rfl) ?_
  refine ct_xi (wr := (wO k arO fiO faO flO)) (vx_runV (As := [.int (Int32.ofInt (n0))]) (rest := [.int (Int32.ofInt (0)), .ref (arO 0)]) ⟨hx, hb, hml, hown, hts⟩ (xX9_town_x l htr G k arT tpT paT ppT pdT pbT pkT psT fiT faT n0 H.size hRT hRaT (by omega) (show n0 < 0 ∨ (fiT 1) < n0 from by omega)) (cwV 1 hts (gz [.methodLink RL 7 yX9_town, .instanceMethod yX9_town, .selects RX9 yX9_town yX9_town, .initialized RX9] (.code yX9_town cX9_town 4 (some .int)) [(8, 19), (8, 20), (8, 21), (0, 2), (8, 22)] rfl) rfl rfl rfl (by decide +kernel) ⟨Nat.le_of_ble_eq_true rfl, Nat.le_of_ble_eq_true rfl⟩) (ct_preVT hT9 hZ hS hX hP hD hA [0, 1] rfl rfl (ci := 6) (q0 := 0) rfl rfl) rfl rfl hl.1 rfl (lv_room (Nat.le_of_ble_eq_true rfl)) dL_town_4 ⟨Nat.le_of_ble_eq_true rfl, Nat.le_of_ble_eq_true rfl⟩) hP hD hS hA [0, 1] [2] rfl rfl (by decide) (by decide) (fun ce q9 H locs hce hcv hcl hP hD hS => ?_)
  obtain ⟨hP, hD⟩ : va_P G vwCl ((wO k arO fiO faO flO) ++ (wT k arT (tpT) (paT) (ppT) (pdT) (pbT) (pkT) (psT) fiT faT)) H ∧ va_D A ((wO k arO fiO faO flO) ++ (wT k arT (tpT) (paT) (ppT) (pdT) (pbT) (pkT) (psT) fiT faT)) := ⟨hP, hD⟩
  obtain ⟨hP, hD⟩ : va_P G vwCl ((wT k arT (tpT) (paT) (ppT) (pdT) (pbT) (pkT) (psT) fiT faT) ++ (wO k arO fiO faO flO)) H ∧ va_D A ((wT k arT (tpT) (paT) (ppT) (pdT) (pbT) (pkT) (psT) fiT faT) ++ (wO k arO fiO faO flO)) := re_ord hP hD [1, 2, 0] (by decide) rfl
  refine cz_catch (name := "java/lang/IllegalArgumentException") hown ⟨0, 9, 12, 13⟩ (vx_table (x := yL_town) B (hts _ List.mem_cons_self)) (by decide +kernel) (by decide) h0w (va_Nw.use rfl (hT9.2 _ (List.mem_cons_of_mem _ List.mem_cons_self))) hce hcv hcl ?_
  refine W.widen (k := 1) (n := 6) (Nat.le_of_ble_eq_true rfl) (Nat.le_of_ble_eq_true rfl) ?_
  refine lv_astore_n (lv' := [(3, .ref (q9)), (0, .ref (arT 99)), (1, .int (Int32.ofInt (n0))), (2, .ref (arO 0))]) hx hb dL_town_12 rfl hl (by decide) rfl (fun ls hl => ?_)
  refine lv_iconst (v := Int32.ofInt 1) hx hb dL_town_13 (by decide +kernel) ?_
  exact W.iret (v := Int32.ofInt (1)) hx hb hr (fun t ht hW => ⟨⟨Int32.ofInt (1), (1), rfl, ⟨rfl, (show (inR 1) ∧ (1 = 1) from ⟨(by omega), (by omega)⟩)⟩, by rw [ht]; exact hP, hD⟩, hS.F ht⟩) hS.2.2 dL_town_14

set_option maxHeartbeats 4000000 in
set_option maxRecDepth 100000 in
theorem hL_count_k (l : Launch) (htr : l.stackTraces = false) (G : va_G) (k : Nat → ClassId) (arT : Nat → Nat) (tpT : Nat) (paT : Nat) (pdT : Nat) (pkT : Nat) (psT : Nat) (fiT : Nat → Int) (faT : Nat → Int → Int) (arP : Nat → Nat) (fiP : Nat → Int) (faP : Nat → Int → Int) (arB : Nat → Nat) (fiB : Nat → Int) (faB : Nat → Int → Int) (arO : Nat → Nat) (fiO : Nat → Int) (faO : Nat → Int → Int) (flO : Nat → Int64) (w0 : Int) (sz : Nat) (hRT : ∀ j, inR (fiT j)) (hRaT : ∀ j t, inR (faT j t)) (hRP : ∀ j, inR (fiP j)) (hRaP : ∀ j t, inR (faP j t)) (hB8P : bnd (faP 8) 7 0 4) (hB20P : bnd (faP 20) 600 (-1000) 10000) (hB21P : bnd (faP 21) 4 0 601) (hRB : ∀ j, inR (fiB j)) (hRaB : ∀ j t, inR (faB j t)) (hRO : ∀ j, inR (fiO j)) (hRaO : ∀ j t, inR (faO j t)) (hr_w0 : inR w0) (hw : 0 ≤ w0 ∧ w0 ≤ 16) : CHi l G k yL_count wzL_count ({ frames := 2, cells := 0, slots := 0, locals := 41 }) [.ref (arT 99), .int (Int32.ofInt (w0)), .ref (arO 0)] sz ((wT k arT (tpT) (paT) (arP 99) (pdT) (arB 99) (pkT) (psT) fiT faT) ++ ((wP k arP fiP faP) ++ ((wB k arB fiB faB) ++ (wO k arO fiO faO flO)))) (fun (r0 : Int32) (u : Int × (Nat → Int64)) => r0 = Int32.ofInt (u.1) ∧ (inR u.1) ∧ (True)) (fun (u : Int × (Nat → Int64)) => ((wT k arT (tpT) (paT) (arP 99) (pdT) (arB 99) (pkT) (psT) fiT faT) ++ ((wP k arP fiP faP) ++ ((wB k arB fiB faB) ++ (wO k arO fiO faO u.2))))) := by
  refine va_MetW (cc := cL_count) (maxL := 4) (ret := (some .int)) (by decide) rfl ?_
  intro p e s m args below meth c s₁ B hml hv
  obtain ⟨⟨rfl, hsz, hP, hX, hD0, hZ0⟩, hT9⟩ := hv
  have hlocks := B.notSynchronized
  have hx := B.exec
  have hb := B.bytes
  have hr := B.returns
  have hts := atoms_spec (ws := wzL_count) B.pre
  have hown : s.vm.findClass RL = some m.cls := findClass_of_methodNamed B.named
  subst hsz
  have hD := hD0.self (sz := s.heap.size)
  have hZ := hZ0
  generalize hAe : va_A ((wT k arT (tpT) (paT) (arP 99) (pdT) (arB 99) (pkT) (psT) fiT faT) ++ ((wP k arP fiP faP) ++ ((wB k arB fiB faB) ++ (wO k arO fiO faO flO)))) s.heap.size = A at hD hZ ⊢
  have hA : ∀ q : Nat, s.heap.size ≤ q → A q := fun q h => by rw [← hAe]; exact Or.inr h
  have hS : va_S A s.heap s.heap [] := va_S.rf
  have hl := lv_entry ([.ref (arT 99), .int (Int32.ofInt (w0)), .ref (arO 0)]) (n := 4) (Nat.le_of_ble_eq_true rfl)
  rw [lg_entry_eq]
  generalize (lg_sl ([.ref (arT 99), .int (Int32.ofInt (w0)), .ref (arO 0)]) ++ List.replicate (4 - (lg_sl ([.ref (arT 99), .int (Int32.ofInt (w0)), .ref (arO 0)])).length) Slot.unset).toArray = ls at hl ⊢
  have hl : lv_has ls 4 [(0, .ref (arT 99)), (1, .int (Int32.ofInt (w0))), (2, .ref (arO 0))] := hl
  obtain ⟨H, eH⟩ : ∃ H, H = s.heap := ⟨_, rfl⟩
  rw [← eH] at hP
  have hS : va_S A s.heap H [] := by rw [eH]; exact hS
  have gW : s.heap = H := eH.symm
  refine iv_heap gW ?_
  refine lv_aload_n hx hb dL_count_0 rfl (lv_at hl 2 rfl) ?_
  refine lv_iconst (v := Int32.ofInt 0) hx hb dL_count_1 (by decide +kernel) ?_
  refine lv_aload_n hx hb dL_count_2 rfl (lv_at hl 0 rfl) ?_
  refine lv_iload_n hx hb dL_count_3 rfl (lv_at hl 1 rfl) ?_
  refine cz_i (wr := (wO k arO fiO faO flO)) (va_runV (As := [.int (Int32.ofInt (w0))]) (rest := [.int (Int32.ofInt (0)), .ref (arO 0)]) ⟨hx, hb, hml, hown, hts⟩ (mX9_count l G k arT tpT paT pdT pkT psT fiT faT arP fiP faP arB fiB faB w0 H.size hRT hRaT hRP hRaP hB8P hB20P hB21P hRB hRaB (by omega) (show 0 ≤ w0 ∧ w0 ≤ 16 from by omega)) (cwV 1 hts (gz [.methodLink RL 15 yX9_count, .instanceMethod yX9_count, .selects RX9 yX9_count yX9_count, .initialized RX9] (.code yX9_count cX9_count 2 (some .int)) [(22, 6), (22, 7), (22, 8), (0, 2), (22, 9)] rfl) rfl rfl rfl (by decide +kernel) ⟨Nat.le_of_ble_eq_true rfl, Nat.le_of_ble_eq_true rfl⟩) (cy_preV (EZ_ok k) hZ hS hX hP hD hA [0, 1, 2, 3, 4, 5, 6, 7, 8, 9, 10, 11, 12, 13, 14, 15, 16, 17, 18, 19] rfl rfl (ci := 6) (q0 := 0) rfl rfl) rfl rfl hl.1 rfl (lv_room (Nat.le_of_ble_eq_true rfl)) dL_count_4 ⟨Nat.le_of_ble_eq_true rfl, Nat.le_of_ble_eq_true rfl⟩) hP hD hS hA [0, 1, 2, 3, 4, 5, 6, 7, 8, 9, 10, 11, 12, 13, 14, 15, 16, 17, 18, 19] [20] rfl rfl (by decide) (by decide) (fun r u H locs hp hP hD hS => ?_)
  obtain ⟨c1, rfl⟩ : ∃ z, z = u := ⟨_, rfl⟩
  obtain ⟨hP, hD⟩ : va_P G vwCl ((wO k arO fiO faO flO) ++ ((wT k arT (tpT) (paT) (arP 99) (pdT) (arB 99) (pkT) (psT) fiT faT) ++ ((wP k arP fiP faP) ++ (wB k arB fiB faB)))) H ∧ va_D A ((wO k arO fiO faO flO) ++ ((wT k arT (tpT) (paT) (arP 99) (pdT) (arB 99) (pkT) (psT) fiT faT) ++ ((wP k arP fiP faP) ++ (wB k arB fiB faB)))) := ⟨hP, hD⟩
  obtain ⟨hP, hD⟩ : va_P G vwCl ((wT k arT (tpT) (paT) (arP 99) (pdT) (arB 99) (pkT) (psT) fiT faT) ++ ((wP k arP fiP faP) ++ ((wB k arB fiB faB) ++ (wO k arO fiO faO flO)))) H ∧ va_D A ((wT k arT (tpT) (paT) (arP 99) (pdT) (arB 99) (pkT) (psT) fiT faT) ++ ((wP k arP fiP faP) ++ ((wB k arB fiB faB) ++ (wO k arO fiO faO flO)))) := re_ord hP hD [1, 2, 3, 4, 5, 6, 7, 8, 9, 10, 11, 12, 13, 14, 15, 16, 17, 18, 19, 20, 0] (by decide) rfl
  obtain ⟨h9, rc1, hp1⟩ : r = Int32.ofInt c1 ∧ (inR c1) ∧ (True) := hp
  subst h9
  refine iv_i2l hx hb dL_count_7 ?_
  refine lv_topl (fun z2 ez2 => ?_)
  refine iv_last hx hb hX.1 hP hD hS 20 2 rfl rfl (fun g' => show _ = ((wT k arT (tpT) (paT) (arP 99) (pdT) (arB 99) (pkT) (psT) fiT faT) ++ ((wP k arP fiP faP) ++ ((wB k arB fiB faB) ++ (wO k arO fiO faO g')))) from rfl) (by omega) (by omega) (by decide) dL_count_8 (fun H locs hP hD hS => ?_)
  obtain ⟨g3, eg3⟩ : ∃ z, z = vp_updL (flO) (0 : Int).toNat (z2) := ⟨_, rfl⟩
  rw [← eg3] at hP hD
  refine lv_goto (tgt := 15) hx hb dL_count_9 (by decide) ?_
  refine lv_iconst (v := Int32.ofInt 0) hx hb dL_count_15 (by decide +kernel) ?_
  exact W.iret (v := Int32.ofInt (0)) hx hb hr (fun t ht hW => ⟨⟨Int32.ofInt (0), (0, g3), rfl, ⟨rfl, (show (inR 0) ∧ (True) from ⟨(by omega), trivial⟩)⟩, by rw [ht]; exact hP, hD⟩, hS.F ht⟩) hS.2.2 dL_count_16

set_option maxHeartbeats 4000000 in
set_option maxRecDepth 100000 in
theorem hL_count_x (l : Launch) (htr : l.stackTraces = false) (G : va_G) (k : Nat → ClassId) (arT : Nat → Nat) (tpT : Nat) (paT : Nat) (ppT : Nat) (pdT : Nat) (pbT : Nat) (pkT : Nat) (psT : Nat) (fiT : Nat → Int) (faT : Nat → Int → Int) (arO : Nat → Nat) (fiO : Nat → Int) (faO : Nat → Int → Int) (flO : Nat → Int64) (w0 : Int) (sz : Nat) (hRT : ∀ j, inR (fiT j)) (hRaT : ∀ j t, inR (faT j t)) (hRO : ∀ j, inR (fiO j)) (hRaO : ∀ j t, inR (faO j t)) (hr_w0 : inR w0) (hx0 : w0 < 0 ∨ 16 < w0) : CHi l G k yL_count wzL_count ({ frames := 7, cells := 1, slots := 6, locals := 121 }) [.ref (arT 99), .int (Int32.ofInt (w0)), .ref (arO 0)] sz ((wT k arT (tpT) (paT) (ppT) (pdT) (pbT) (pkT) (psT) fiT faT) ++ (wO k arO fiO faO flO)) (fun (r0 : Int32) (u : Int) => r0 = Int32.ofInt (u) ∧ (inR u) ∧ (True)) (fun (u : Int) => ((wT k arT (tpT) (paT) (ppT) (pdT) (pbT) (pkT) (psT) fiT faT) ++ (wO k arO fiO faO flO))) := by
  refine va_MetW (cc := cL_count) (maxL := 4) (ret := (some .int)) (by decide) rfl ?_
  intro p e s m args below meth c s₁ B hml hv
  obtain ⟨⟨rfl, hsz, hP, hX, hD0, hZ0⟩, hT9⟩ := hv
  have hlocks := B.notSynchronized
  have hx := B.exec
  have hb := B.bytes
  have hr := B.returns
  have hts := atoms_spec (ws := wzL_count) B.pre
  have hown : s.vm.findClass RL = some m.cls := findClass_of_methodNamed B.named
  subst hsz
  have hD := hD0.self (sz := s.heap.size)
  have hZ := hZ0
  generalize hAe : va_A ((wT k arT (tpT) (paT) (ppT) (pdT) (pbT) (pkT) (psT) fiT faT) ++ (wO k arO fiO faO flO)) s.heap.size = A at hD hZ ⊢
  have hA : ∀ q : Nat, s.heap.size ≤ q → A q := fun q h => by rw [← hAe]; exact Or.inr h
  have hS : va_S A s.heap s.heap [] := va_S.rf
  have hl := lv_entry ([.ref (arT 99), .int (Int32.ofInt (w0)), .ref (arO 0)]) (n := 4) (Nat.le_of_ble_eq_true rfl)
  rw [lg_entry_eq]
  generalize (lg_sl ([.ref (arT 99), .int (Int32.ofInt (w0)), .ref (arO 0)]) ++ List.replicate (4 - (lg_sl ([.ref (arT 99), .int (Int32.ofInt (w0)), .ref (arO 0)])).length) Slot.unset).toArray = ls at hl ⊢
  have hl : lv_has ls 4 [(0, .ref (arT 99)), (1, .int (Int32.ofInt (w0))), (2, .ref (arO 0))] := hl
  obtain ⟨H, eH⟩ : ∃ H, H = s.heap := ⟨_, rfl⟩
  rw [← eH] at hP
  have hS : va_S A s.heap H [] := by rw [eH]; exact hS
  have gW : s.heap = H := eH.symm
  refine iv_heap gW ?_
  have h0w := hts (.classLink RL 18 "java/util/NoSuchElementException") (wz_at 22 5 rfl)
  refine lv_aload_n hx hb dL_count_0 rfl (lv_at hl 2 rfl) ?_
  refine lv_iconst (v := Int32.ofInt 0) hx hb dL_count_1 (by decide +kernel) ?_
  refine lv_aload_n hx hb dL_count_2 rfl (lv_at hl 0 rfl) ?_
  refine lv_iload_n hx hb dL_count_3 rfl (lv_at hl 1 rfl) ?_
  refine ct_xi (wr := (wO k arO fiO faO flO)) (vx_runV (As := [.int (Int32.ofInt (w0))]) (rest := [.int (Int32.ofInt (0)), .ref (arO 0)]) ⟨hx, hb, hml, hown, hts⟩ (xX9_count_x l htr G k arT tpT paT ppT pdT pbT pkT psT fiT faT w0 H.size hRT hRaT (by omega) (show w0 < 0 ∨ 16 < w0 from by omega)) (cwV 1 hts (gz [.methodLink RL 15 yX9_count, .instanceMethod yX9_count, .selects RX9 yX9_count yX9_count, .initialized RX9] (.code yX9_count cX9_count 2 (some .int)) [(22, 6), (22, 7), (22, 8), (0, 2), (22, 9)] rfl) rfl rfl rfl (by decide +kernel) ⟨Nat.le_of_ble_eq_true rfl, Nat.le_of_ble_eq_true rfl⟩) (ct_preVT hT9 hZ hS hX hP hD hA [0, 1] rfl rfl (ci := 6) (q0 := 0) rfl rfl) rfl rfl hl.1 rfl (lv_room (Nat.le_of_ble_eq_true rfl)) dL_count_4 ⟨Nat.le_of_ble_eq_true rfl, Nat.le_of_ble_eq_true rfl⟩) hP hD hS hA [0, 1] [2] rfl rfl (by decide) (by decide) (fun ce q9 H locs hce hcv hcl hP hD hS => ?_)
  obtain ⟨hP, hD⟩ : va_P G vwCl ((wO k arO fiO faO flO) ++ (wT k arT (tpT) (paT) (ppT) (pdT) (pbT) (pkT) (psT) fiT faT)) H ∧ va_D A ((wO k arO fiO faO flO) ++ (wT k arT (tpT) (paT) (ppT) (pdT) (pbT) (pkT) (psT) fiT faT)) := ⟨hP, hD⟩
  obtain ⟨hP, hD⟩ : va_P G vwCl ((wT k arT (tpT) (paT) (ppT) (pdT) (pbT) (pkT) (psT) fiT faT) ++ (wO k arO fiO faO flO)) H ∧ va_D A ((wT k arT (tpT) (paT) (ppT) (pdT) (pbT) (pkT) (psT) fiT faT) ++ (wO k arO fiO faO flO)) := re_ord hP hD [1, 2, 0] (by decide) rfl
  refine cz_catch (name := "java/util/NoSuchElementException") hown ⟨0, 9, 12, 18⟩ (vx_table (x := yL_count) B (hts _ List.mem_cons_self)) (by decide +kernel) (by decide) h0w (va_Nw.use rfl (hT9.2 _ List.mem_cons_self)) hce hcv hcl ?_
  refine W.widen (k := 1) (n := 6) (Nat.le_of_ble_eq_true rfl) (Nat.le_of_ble_eq_true rfl) ?_
  refine lv_astore_n (lv' := [(3, .ref (q9)), (0, .ref (arT 99)), (1, .int (Int32.ofInt (w0))), (2, .ref (arO 0))]) hx hb dL_count_12 rfl hl (by decide) rfl (fun ls hl => ?_)
  refine lv_iconst (v := Int32.ofInt 1) hx hb dL_count_13 (by decide +kernel) ?_
  exact W.iret (v := Int32.ofInt (1)) hx hb hr (fun t ht hW => ⟨⟨Int32.ofInt (1), (1), rfl, ⟨rfl, (show (inR 1) ∧ (True) from ⟨(by omega), trivial⟩)⟩, by rw [ht]; exact hP, hD⟩, hS.F ht⟩) hS.2.2 dL_count_14

set_option maxHeartbeats 4000000 in
set_option maxRecDepth 100000 in
theorem hL_thing_k (l : Launch) (htr : l.stackTraces = false) (G : va_G) (k : Nat → ClassId) (arT : Nat → Nat) (tpT : Nat) (paT : Nat) (pdT : Nat) (pkT : Nat) (psT : Nat) (fiT : Nat → Int) (faT : Nat → Int → Int) (arP : Nat → Nat) (fiP : Nat → Int) (faP : Nat → Int → Int) (arB : Nat → Nat) (fiB : Nat → Int) (faB : Nat → Int → Int) (arO : Nat → Nat) (fiO : Nat → Int) (faO : Nat → Int → Int) (flO : Nat → Int64) (t0 : Int) (w0 : Int) (sz : Nat) (hRT : ∀ j, inR (fiT j)) (hRaT : ∀ j t, inR (faT j t)) (hRP : ∀ j, inR (fiP j)) (hRaP : ∀ j t, inR (faP j t)) (hB8P : bnd (faP 8) 7 0 4) (hB20P : bnd (faP 20) 600 (-1000) 10000) (hB21P : bnd (faP 21) 4 0 601) (hRB : ∀ j, inR (fiB j)) (hRaB : ∀ j t, inR (faB j t)) (hRO : ∀ j, inR (fiO j)) (hRaO : ∀ j t, inR (faO j t)) (hr_t0 : inR t0) (hr_w0 : inR w0) (hpi : 0 ≤ fiP 7 ∧ fiP 7 ≤ 7 ∧ 0 ≤ fiP 0 ∧ fiP 0 ≤ 11 ∧ 0 ≤ fiP 24 ∧ fiP 24 ≤ 4 ∧ 0 ≤ fiP 23 ∧ fiP 23 ≤ 600) (ht : 0 ≤ t0 ∧ t0 < fiP 7 ∧ 0 ≤ w0 ∧ w0 ≤ 5) : CHi l G k yL_thing wzL_thing ({ frames := 4, cells := 0, slots := 0, locals := 87 }) [.ref (arT 99), .int (Int32.ofInt (t0)), .int (Int32.ofInt (w0)), .ref (arO 0)] sz ((wT k arT (tpT) (paT) (arP 99) (pdT) (arB 99) (pkT) (psT) fiT faT) ++ ((wP k arP fiP faP) ++ ((wB k arB fiB faB) ++ (wO k arO fiO faO flO)))) (fun (r0 : Int32) (u : Int × (Nat → Int64)) => r0 = Int32.ofInt (u.1) ∧ (inR u.1) ∧ (u.1 = 0 ∧ ∃ q, u.2 0 = (Int32.ofInt q).toInt64 ∧ q = thC w0 (faP 8 t0) (faP 9 t0) (faP 11 t0) (nb (fiB 0) t0) (dp (fiB 0)) (fiP 0))) (fun (u : Int × (Nat → Int64)) => ((wT k arT (tpT) (paT) (arP 99) (pdT) (arB 99) (pkT) (psT) fiT faT) ++ ((wP k arP fiP faP) ++ ((wB k arB fiB faB) ++ (wO k arO fiO faO u.2))))) := by
  refine va_MetW (cc := cL_thing) (maxL := 5) (ret := (some .int)) (by decide) rfl ?_
  intro p e s m args below meth c s₁ B hml hv
  obtain ⟨⟨rfl, hsz, hP, hX, hD0, hZ0⟩, hT9⟩ := hv
  have hlocks := B.notSynchronized
  have hx := B.exec
  have hb := B.bytes
  have hr := B.returns
  have hts := atoms_spec (ws := wzL_thing) B.pre
  have hown : s.vm.findClass RL = some m.cls := findClass_of_methodNamed B.named
  subst hsz
  have hD := hD0.self (sz := s.heap.size)
  have hZ := hZ0
  generalize hAe : va_A ((wT k arT (tpT) (paT) (arP 99) (pdT) (arB 99) (pkT) (psT) fiT faT) ++ ((wP k arP fiP faP) ++ ((wB k arB fiB faB) ++ (wO k arO fiO faO flO)))) s.heap.size = A at hD hZ ⊢
  have hA : ∀ q : Nat, s.heap.size ≤ q → A q := fun q h => by rw [← hAe]; exact Or.inr h
  have hS : va_S A s.heap s.heap [] := va_S.rf
  have hl := lv_entry ([.ref (arT 99), .int (Int32.ofInt (t0)), .int (Int32.ofInt (w0)), .ref (arO 0)]) (n := 5) (Nat.le_of_ble_eq_true rfl)
  rw [lg_entry_eq]
  generalize (lg_sl ([.ref (arT 99), .int (Int32.ofInt (t0)), .int (Int32.ofInt (w0)), .ref (arO 0)]) ++ List.replicate (5 - (lg_sl ([.ref (arT 99), .int (Int32.ofInt (t0)), .int (Int32.ofInt (w0)), .ref (arO 0)])).length) Slot.unset).toArray = ls at hl ⊢
  have hl : lv_has ls 5 [(0, .ref (arT 99)), (1, .int (Int32.ofInt (t0))), (2, .int (Int32.ofInt (w0))), (3, .ref (arO 0))] := hl
  obtain ⟨H, eH⟩ : ∃ H, H = s.heap := ⟨_, rfl⟩
  rw [← eH] at hP
  have hS : va_S A s.heap H [] := by rw [eH]; exact hS
  have gW : s.heap = H := eH.symm
  refine iv_heap gW ?_
  refine lv_aload_n hx hb dL_thing_0 rfl (lv_at hl 3 rfl) ?_
  refine lv_iconst (v := Int32.ofInt 0) hx hb dL_thing_1 (by decide +kernel) ?_
  refine lv_aload_n hx hb dL_thing_2 rfl (lv_at hl 0 rfl) ?_
  refine lv_iload_n hx hb dL_thing_3 rfl (lv_at hl 1 rfl) ?_
  refine lv_iload_n hx hb dL_thing_4 rfl (lv_at hl 2 rfl) ?_
  refine cz_i (wr := (wO k arO fiO faO flO)) (va_runV (As := [.int (Int32.ofInt (t0)), .int (Int32.ofInt (w0))]) (rest := [.int (Int32.ofInt (0)), .ref (arO 0)]) ⟨hx, hb, hml, hown, hts⟩ (mX9_thing l G k arT tpT paT pdT pkT psT fiT faT arP fiP faP arB fiB faB t0 w0 H.size hRT hRaT hRP hRaP hB8P hB20P hB21P hRB hRaB (by omega) (by omega) (show 0 ≤ (fiP 7) ∧ (fiP 7) ≤ 7 ∧ 0 ≤ (fiP 0) ∧ (fiP 0) ≤ 11 ∧ 0 ≤ (fiP 24) ∧ (fiP 24) ≤ 4 ∧ 0 ≤ (fiP 23) ∧ (fiP 23) ≤ 600 from by omega) (show 0 ≤ t0 ∧ t0 < (fiP 7) ∧ 0 ≤ w0 ∧ w0 ≤ 5 from by omega)) (cwV 2 hts (gz [.methodLink RL 20 yX9_thing, .instanceMethod yX9_thing, .selects RX9 yX9_thing yX9_thing, .initialized RX9] (.code yX9_thing cX9_thing 3 (some .int)) [(23, 1), (23, 2), (23, 3), (0, 2), (23, 4)] rfl) rfl rfl rfl (by decide +kernel) ⟨Nat.le_of_ble_eq_true rfl, Nat.le_of_ble_eq_true rfl⟩) (cy_preV (EZ_ok k) hZ hS hX hP hD hA [0, 1, 2, 3, 4, 5, 6, 7, 8, 9, 10, 11, 12, 13, 14, 15, 16, 17, 18, 19] rfl rfl (ci := 6) (q0 := 0) rfl rfl) rfl rfl hl.1 rfl (lv_room (Nat.le_of_ble_eq_true rfl)) dL_thing_5 ⟨Nat.le_of_ble_eq_true rfl, Nat.le_of_ble_eq_true rfl⟩) hP hD hS hA [0, 1, 2, 3, 4, 5, 6, 7, 8, 9, 10, 11, 12, 13, 14, 15, 16, 17, 18, 19] [20] rfl rfl (by decide) (by decide) (fun r u H locs hp hP hD hS => ?_)
  obtain ⟨c1, rfl⟩ : ∃ z, z = u := ⟨_, rfl⟩
  obtain ⟨hP, hD⟩ : va_P G vwCl ((wO k arO fiO faO flO) ++ ((wT k arT (tpT) (paT) (arP 99) (pdT) (arB 99) (pkT) (psT) fiT faT) ++ ((wP k arP fiP faP) ++ (wB k arB fiB faB)))) H ∧ va_D A ((wO k arO fiO faO flO) ++ ((wT k arT (tpT) (paT) (arP 99) (pdT) (arB 99) (pkT) (psT) fiT faT) ++ ((wP k arP fiP faP) ++ (wB k arB fiB faB)))) := ⟨hP, hD⟩
  obtain ⟨hP, hD⟩ : va_P G vwCl ((wT k arT (tpT) (paT) (arP 99) (pdT) (arB 99) (pkT) (psT) fiT faT) ++ ((wP k arP fiP faP) ++ ((wB k arB fiB faB) ++ (wO k arO fiO faO flO)))) H ∧ va_D A ((wT k arT (tpT) (paT) (arP 99) (pdT) (arB 99) (pkT) (psT) fiT faT) ++ ((wP k arP fiP faP) ++ ((wB k arB fiB faB) ++ (wO k arO fiO faO flO)))) := re_ord hP hD [1, 2, 3, 4, 5, 6, 7, 8, 9, 10, 11, 12, 13, 14, 15, 16, 17, 18, 19, 20, 0] (by decide) rfl
  obtain ⟨h9, rc1, hp1⟩ : r = Int32.ofInt c1 ∧ (inR c1) ∧ (c1 = thC w0 ((faP 8) t0) ((faP 9) t0) ((faP 11) t0) (nb ((fiB 0)) t0) (dp ((fiB 0))) ((fiP 0))) := hp
  subst h9
  have hThc := hp1
  refine iv_i2l hx hb dL_thing_8 ?_
  refine lv_topl (fun z2 ez2 => ?_)
  have hL8 := ez2
  refine iv_last hx hb hX.1 hP hD hS 20 2 rfl rfl (fun g' => show _ = ((wT k arT (tpT) (paT) (arP 99) (pdT) (arB 99) (pkT) (psT) fiT faT) ++ ((wP k arP fiP faP) ++ ((wB k arB fiB faB) ++ (wO k arO fiO faO g')))) from rfl) (by omega) (by omega) (by decide) dL_thing_9 (fun H locs hP hD hS => ?_)
  obtain ⟨g3, eg3⟩ : ∃ z, z = vp_updL (flO) (0 : Int).toNat (z2) := ⟨_, rfl⟩
  rw [← eg3] at hP hD
  have hG := up_eq eg3 hL8
  refine lv_goto (tgt := 17) hx hb dL_thing_10 (by decide) ?_
  refine lv_iconst (v := Int32.ofInt 0) hx hb dL_thing_17 (by decide +kernel) ?_
  exact W.iret (v := Int32.ofInt (0)) hx hb hr (fun t ht hW => ⟨⟨Int32.ofInt (0), (0, g3), rfl, ⟨rfl, (show (inR 0) ∧ (0 = 0 ∧ ∃ q, g3 0 = (Int32.ofInt q).toInt64 ∧ q = thC w0 (faP 8 t0) (faP 9 t0) (faP 11 t0) (nb (fiB 0) t0) (dp (fiB 0)) (fiP 0)) from ⟨(by omega), (by exact ⟨rfl, ⟨_, hG, hThc⟩⟩)⟩)⟩, by rw [ht]; exact hP, hD⟩, hS.F ht⟩) hS.2.2 dL_thing_18

set_option maxHeartbeats 4000000 in
set_option maxRecDepth 100000 in
theorem hL_thing_x (l : Launch) (htr : l.stackTraces = false) (G : va_G) (k : Nat → ClassId) (arT : Nat → Nat) (tpT : Nat) (paT : Nat) (pdT : Nat) (pbT : Nat) (pkT : Nat) (psT : Nat) (fiT : Nat → Int) (faT : Nat → Int → Int) (arP : Nat → Nat) (fiP : Nat → Int) (faP : Nat → Int → Int) (arO : Nat → Nat) (fiO : Nat → Int) (faO : Nat → Int → Int) (flO : Nat → Int64) (t0 : Int) (w0 : Int) (sz : Nat) (hRT : ∀ j, inR (fiT j)) (hRaT : ∀ j t, inR (faT j t)) (hRP : ∀ j, inR (fiP j)) (hRaP : ∀ j t, inR (faP j t)) (hB8P : bnd (faP 8) 7 0 4) (hB20P : bnd (faP 20) 600 (-1000) 10000) (hB21P : bnd (faP 21) 4 0 601) (hRO : ∀ j, inR (fiO j)) (hRaO : ∀ j t, inR (faO j t)) (hr_t0 : inR t0) (hr_w0 : inR w0) (hx0 : t0 < 0 ∨ fiP 7 ≤ t0 ∨ w0 < 0 ∨ 5 < w0) : CHi l G k yL_thing wzL_thing ({ frames := 7, cells := 1, slots := 6, locals := 122 }) [.ref (arT 99), .int (Int32.ofInt (t0)), .int (Int32.ofInt (w0)), .ref (arO 0)] sz ((wT k arT (tpT) (paT) (arP 99) (pdT) (pbT) (pkT) (psT) fiT faT) ++ ((wP k arP fiP faP) ++ (wO k arO fiO faO flO))) (fun (r0 : Int32) (u : Int) => r0 = Int32.ofInt (u) ∧ (inR u) ∧ (u = 1)) (fun (u : Int) => ((wT k arT (tpT) (paT) (arP 99) (pdT) (pbT) (pkT) (psT) fiT faT) ++ ((wP k arP fiP faP) ++ (wO k arO fiO faO flO)))) := by
  refine va_MetW (cc := cL_thing) (maxL := 5) (ret := (some .int)) (by decide) rfl ?_
  intro p e s m args below meth c s₁ B hml hv
  obtain ⟨⟨rfl, hsz, hP, hX, hD0, hZ0⟩, hT9⟩ := hv
  have hlocks := B.notSynchronized
  have hx := B.exec
  have hb := B.bytes
  have hr := B.returns
  have hts := atoms_spec (ws := wzL_thing) B.pre
  have hown : s.vm.findClass RL = some m.cls := findClass_of_methodNamed B.named
  subst hsz
  have hD := hD0.self (sz := s.heap.size)
  have hZ := hZ0
  generalize hAe : va_A ((wT k arT (tpT) (paT) (arP 99) (pdT) (pbT) (pkT) (psT) fiT faT) ++ ((wP k arP fiP faP) ++ (wO k arO fiO faO flO))) s.heap.size = A at hD hZ ⊢
  have hA : ∀ q : Nat, s.heap.size ≤ q → A q := fun q h => by rw [← hAe]; exact Or.inr h
  have hS : va_S A s.heap s.heap [] := va_S.rf
  have hl := lv_entry ([.ref (arT 99), .int (Int32.ofInt (t0)), .int (Int32.ofInt (w0)), .ref (arO 0)]) (n := 5) (Nat.le_of_ble_eq_true rfl)
  rw [lg_entry_eq]
  generalize (lg_sl ([.ref (arT 99), .int (Int32.ofInt (t0)), .int (Int32.ofInt (w0)), .ref (arO 0)]) ++ List.replicate (5 - (lg_sl ([.ref (arT 99), .int (Int32.ofInt (t0)), .int (Int32.ofInt (w0)), .ref (arO 0)])).length) Slot.unset).toArray = ls at hl ⊢
  have hl : lv_has ls 5 [(0, .ref (arT 99)), (1, .int (Int32.ofInt (t0))), (2, .int (Int32.ofInt (w0))), (3, .ref (arO 0))] := hl
  obtain ⟨H, eH⟩ : ∃ H, H = s.heap := ⟨_, rfl⟩
  rw [← eH] at hP
  have hS : va_S A s.heap H [] := by rw [eH]; exact hS
  have gW : s.heap = H := eH.symm
  refine iv_heap gW ?_
  have h0w := hts (.classLink RL 18 "java/util/NoSuchElementException") (wz_at 22 5 rfl)
  refine lv_aload_n hx hb dL_thing_0 rfl (lv_at hl 3 rfl) ?_
  refine lv_iconst (v := Int32.ofInt 0) hx hb dL_thing_1 (by decide +kernel) ?_
  refine lv_aload_n hx hb dL_thing_2 rfl (lv_at hl 0 rfl) ?_
  refine lv_iload_n hx hb dL_thing_3 rfl (lv_at hl 1 rfl) ?_
  refine lv_iload_n hx hb dL_thing_4 rfl (lv_at hl 2 rfl) ?_
  refine ct_xi (wr := (wO k arO fiO faO flO)) (vx_runV (As := [.int (Int32.ofInt (t0)), .int (Int32.ofInt (w0))]) (rest := [.int (Int32.ofInt (0)), .ref (arO 0)]) ⟨hx, hb, hml, hown, hts⟩ (xX9_thing_x l htr G k arT tpT paT pdT pbT pkT psT fiT faT arP fiP faP t0 w0 H.size hRT hRaT hRP hRaP hB8P hB20P hB21P (by omega) (by omega) (show t0 < 0 ∨ (fiP 7) ≤ t0 ∨ w0 < 0 ∨ 5 < w0 from by omega)) (cwV 2 hts (gz [.methodLink RL 20 yX9_thing, .instanceMethod yX9_thing, .selects RX9 yX9_thing yX9_thing, .initialized RX9] (.code yX9_thing cX9_thing 3 (some .int)) [(23, 1), (23, 2), (23, 3), (0, 2), (23, 4)] rfl) rfl rfl rfl (by decide +kernel) ⟨Nat.le_of_ble_eq_true rfl, Nat.le_of_ble_eq_true rfl⟩) (ct_preVT hT9 hZ hS hX hP hD hA [0, 1, 2, 3, 4, 5, 6, 7, 8, 9, 10, 11] rfl rfl (ci := 6) (q0 := 0) rfl rfl) rfl rfl hl.1 rfl (lv_room (Nat.le_of_ble_eq_true rfl)) dL_thing_5 ⟨Nat.le_of_ble_eq_true rfl, Nat.le_of_ble_eq_true rfl⟩) hP hD hS hA [0, 1, 2, 3, 4, 5, 6, 7, 8, 9, 10, 11] [12] rfl rfl (by decide) (by decide) (fun ce q9 H locs hce hcv hcl hP hD hS => ?_)
  obtain ⟨hP, hD⟩ : va_P G vwCl ((wO k arO fiO faO flO) ++ ((wT k arT (tpT) (paT) (arP 99) (pdT) (pbT) (pkT) (psT) fiT faT) ++ (wP k arP fiP faP))) H ∧ va_D A ((wO k arO fiO faO flO) ++ ((wT k arT (tpT) (paT) (arP 99) (pdT) (pbT) (pkT) (psT) fiT faT) ++ (wP k arP fiP faP))) := ⟨hP, hD⟩
  obtain ⟨hP, hD⟩ : va_P G vwCl ((wT k arT (tpT) (paT) (arP 99) (pdT) (pbT) (pkT) (psT) fiT faT) ++ ((wP k arP fiP faP) ++ (wO k arO fiO faO flO))) H ∧ va_D A ((wT k arT (tpT) (paT) (arP 99) (pdT) (pbT) (pkT) (psT) fiT faT) ++ ((wP k arP fiP faP) ++ (wO k arO fiO faO flO))) := re_ord hP hD [1, 2, 3, 4, 5, 6, 7, 8, 9, 10, 11, 12, 0] (by decide) rfl
  refine cz_catch (name := "java/util/NoSuchElementException") hown ⟨0, 10, 13, 18⟩ (vx_table (x := yL_thing) B (hts _ List.mem_cons_self)) (by decide +kernel) (by decide) h0w (va_Nw.use rfl (hT9.2 _ List.mem_cons_self)) hce hcv hcl ?_
  refine W.widen (k := 1) (n := 6) (Nat.le_of_ble_eq_true rfl) (Nat.le_of_ble_eq_true rfl) ?_
  refine lv_astore (lv' := [(4, .ref (q9)), (0, .ref (arT 99)), (1, .int (Int32.ofInt (t0))), (2, .int (Int32.ofInt (w0))), (3, .ref (arO 0))]) hx hb dL_thing_13 hl (by decide) rfl (fun ls hl => ?_)
  refine lv_iconst (v := Int32.ofInt 1) hx hb dL_thing_15 (by decide +kernel) ?_
  exact W.iret (v := Int32.ofInt (1)) hx hb hr (fun t ht hW => ⟨⟨Int32.ofInt (1), (1), rfl, ⟨rfl, (show (inR 1) ∧ (1 = 1) from ⟨(by omega), (by omega)⟩)⟩, by rw [ht]; exact hP, hD⟩, hS.F ht⟩) hS.2.2 dL_thing_16

set_option maxHeartbeats 4000000 in
set_option maxRecDepth 100000 in
theorem hL_bucket_k (l : Launch) (htr : l.stackTraces = false) (G : va_G) (k : Nat → ClassId) (arT : Nat → Nat) (tpT : Nat) (paT : Nat) (pdT : Nat) (pkT : Nat) (psT : Nat) (fiT : Nat → Int) (faT : Nat → Int → Int) (arP : Nat → Nat) (fiP : Nat → Int) (faP : Nat → Int → Int) (arB : Nat → Nat) (fiB : Nat → Int) (faB : Nat → Int → Int) (arO : Nat → Nat) (fiO : Nat → Int) (faO : Nat → Int → Int) (flO : Nat → Int64) (b0 : Int) (w0 : Int) (sz : Nat) (hRT : ∀ j, inR (fiT j)) (hRaT : ∀ j t, inR (faT j t)) (hRP : ∀ j, inR (fiP j)) (hRaP : ∀ j t, inR (faP j t)) (hB8P : bnd (faP 8) 7 0 4) (hB20P : bnd (faP 20) 600 (-1000) 10000) (hB21P : bnd (faP 21) 4 0 601) (hRB : ∀ j, inR (fiB j)) (hRaB : ∀ j t, inR (faB j t)) (hRO : ∀ j, inR (fiO j)) (hRaO : ∀ j t, inR (faO j t)) (hr_b0 : inR b0) (hr_w0 : inR w0) (hpi : 0 ≤ fiP 7 ∧ fiP 7 ≤ 7 ∧ 0 ≤ fiP 0 ∧ fiP 0 ≤ 11 ∧ 0 ≤ fiP 24 ∧ fiP 24 ≤ 4 ∧ 0 ≤ fiP 23 ∧ fiP 23 ≤ 600) (hRC : ∀ q9, 0 ≤ q9 → q9 < fiP 24 → RWf (dcf (faP 20)) (stq (faP 21) q9) (faP 21 q9)) (ht : 0 ≤ b0 ∧ b0 ≤ 1 ∧ 0 ≤ w0 ∧ w0 ≤ 4) : CHi l G k yL_bucket wzL_bucket ({ frames := 4, cells := 0, slots := 0, locals := 95 }) [.ref (arT 99), .int (Int32.ofInt (b0)), .int (Int32.ofInt (w0)), .ref (arO 0)] sz ((wT k arT (tpT) (paT) (arP 99) (pdT) (arB 99) (pkT) (psT) fiT faT) ++ ((wP k arP fiP faP) ++ ((wB k arB fiB faB) ++ (wO k arO fiO faO flO)))) (fun (r0 : Int32) (u : Int × (Int → Int) × (Int → Int) × (Nat → Int64)) => r0 = Int32.ofInt (u.1) ∧ (inR u.1) ∧ (∀ t, inR (u.2.1 t)) ∧ (∀ t, inR (u.2.2.1 t)) ∧ (u.1 = 0 ∧ ∃ q, u.2.2.2 0 = (Int32.ofInt q).toInt64 ∧ BuP w0 q (gs (lc (nb (fiB 0)) (faP 9) b0) (fiP 7)) (sdV (gs (lc (nb (fiB 0)) (faP 9) b0) (fiP 7)) (fiP 3) (buD b0 (dp (fiB 0)) (fiP 0))) (buD b0 (dp (fiB 0)) (fiP 0)) (og (bs (nb (fiB 0)) b0) 7) (fun q => evR (dcf (faP 20)) (vls (nb (fiB 0)) (faP 8) (faP 9) b0 (fiP 7) (fiP 0) (dp (fiB 0))) (stq (faP 21) q) (faP 21 q)) (fiP 24))) (fun (u : Int × (Int → Int) × (Int → Int) × (Nat → Int64)) => ((wT k arT (tpT) (paT) (arP 99) (pdT) (arB 99) (pkT) (psT) fiT faT) ++ ((wP k arP fiP (uF (uF faP 13 (u.2.1)) 22 (u.2.2.1))) ++ ((wB k arB fiB faB) ++ (wO k arO fiO faO u.2.2.2))))) := by
  refine va_MetW (cc := cL_bucket) (maxL := 5) (ret := (some .int)) (by decide) rfl ?_
  intro p e s m args below meth c s₁ B hml hv
  obtain ⟨⟨rfl, hsz, hP, hX, hD0, hZ0⟩, hT9⟩ := hv
  have hlocks := B.notSynchronized
  have hx := B.exec
  have hb := B.bytes
  have hr := B.returns
  have hts := atoms_spec (ws := wzL_bucket) B.pre
  have hown : s.vm.findClass RL = some m.cls := findClass_of_methodNamed B.named
  subst hsz
  have hD := hD0.self (sz := s.heap.size)
  have hZ := hZ0
  generalize hAe : va_A ((wT k arT (tpT) (paT) (arP 99) (pdT) (arB 99) (pkT) (psT) fiT faT) ++ ((wP k arP fiP faP) ++ ((wB k arB fiB faB) ++ (wO k arO fiO faO flO)))) s.heap.size = A at hD hZ ⊢
  have hA : ∀ q : Nat, s.heap.size ≤ q → A q := fun q h => by rw [← hAe]; exact Or.inr h
  have hS : va_S A s.heap s.heap [] := va_S.rf
  have hl := lv_entry ([.ref (arT 99), .int (Int32.ofInt (b0)), .int (Int32.ofInt (w0)), .ref (arO 0)]) (n := 5) (Nat.le_of_ble_eq_true rfl)
  rw [lg_entry_eq]
  generalize (lg_sl ([.ref (arT 99), .int (Int32.ofInt (b0)), .int (Int32.ofInt (w0)), .ref (arO 0)]) ++ List.replicate (5 - (lg_sl ([.ref (arT 99), .int (Int32.ofInt (b0)), .int (Int32.ofInt (w0)), .ref (arO 0)])).length) Slot.unset).toArray = ls at hl ⊢
  have hl : lv_has ls 5 [(0, .ref (arT 99)), (1, .int (Int32.ofInt (b0))), (2, .int (Int32.ofInt (w0))), (3, .ref (arO 0))] := hl
  obtain ⟨H, eH⟩ : ∃ H, H = s.heap := ⟨_, rfl⟩
  rw [← eH] at hP
  have hS : va_S A s.heap H [] := by rw [eH]; exact hS
  have gW : s.heap = H := eH.symm
  refine iv_heap gW ?_
  refine lv_aload_n hx hb dL_bucket_0 rfl (lv_at hl 3 rfl) ?_
  refine lv_iconst (v := Int32.ofInt 0) hx hb dL_bucket_1 (by decide +kernel) ?_
  refine lv_aload_n hx hb dL_bucket_2 rfl (lv_at hl 0 rfl) ?_
  refine lv_iload_n hx hb dL_bucket_3 rfl (lv_at hl 1 rfl) ?_
  refine lv_iload_n hx hb dL_bucket_4 rfl (lv_at hl 2 rfl) ?_
  refine cz_i (wr := (wO k arO fiO faO flO)) (va_runV (As := [.int (Int32.ofInt (b0)), .int (Int32.ofInt (w0))]) (rest := [.int (Int32.ofInt (0)), .ref (arO 0)]) ⟨hx, hb, hml, hown, hts⟩ (mX9_bucket l G k arT tpT paT pdT pkT psT fiT faT arP fiP faP arB fiB faB b0 w0 H.size hRT hRaT hRP hRaP hB8P hB20P hB21P hRB hRaB (by omega) (by omega) (show 0 ≤ (fiP 7) ∧ (fiP 7) ≤ 7 ∧ 0 ≤ (fiP 0) ∧ (fiP 0) ≤ 11 ∧ 0 ≤ (fiP 24) ∧ (fiP 24) ≤ 4 ∧ 0 ≤ (fiP 23) ∧ (fiP 23) ≤ 600 from by omega) (show ∀ q9, 0 ≤ q9 → q9 < (fiP 24) → RWf (dcf ((faP 20))) (stq ((faP 21)) q9) ((faP 21) q9) from by first | exact hRC | omega) (show 0 ≤ b0 ∧ b0 ≤ 1 ∧ 0 ≤ w0 ∧ w0 ≤ 4 from by omega)) (cwV 2 hts (gz [.methodLink RL 24 yX9_bucket, .instanceMethod yX9_bucket, .selects RX9 yX9_bucket yX9_bucket, .initialized RX9] (.code yX9_bucket cX9_bucket 4 (some .int)) [(24, 22), (24, 23), (25, 0), (0, 2), (25, 1)] rfl) rfl rfl rfl (by decide +kernel) ⟨Nat.le_of_ble_eq_true rfl, Nat.le_of_ble_eq_true rfl⟩) (cy_preV (EZ_ok k) hZ hS hX hP hD hA [0, 1, 2, 3, 4, 5, 6, 7, 8, 9, 10, 11, 12, 13, 14, 15, 16, 17, 18, 19] rfl rfl (ci := 6) (q0 := 0) rfl rfl) rfl rfl hl.1 rfl (lv_room (Nat.le_of_ble_eq_true rfl)) dL_bucket_5 ⟨Nat.le_of_ble_eq_true rfl, Nat.le_of_ble_eq_true rfl⟩) hP hD hS hA [0, 1, 2, 3, 4, 5, 6, 7, 8, 9, 10, 11, 12, 13, 14, 15, 16, 17, 18, 19] [20] rfl rfl (by decide) (by decide) (fun r u H locs hp hP hD hS => ?_)
  obtain ⟨c1, c2, c3⟩ := u
  obtain ⟨hP, hD⟩ : va_P G vwCl ((wO k arO fiO faO flO) ++ ((wT k arT (tpT) (paT) (arP 99) (pdT) (arB 99) (pkT) (psT) fiT faT) ++ ((wP k arP fiP (uF (uF faP 13 (c2)) 22 (c3))) ++ (wB k arB fiB faB)))) H ∧ va_D A ((wO k arO fiO faO flO) ++ ((wT k arT (tpT) (paT) (arP 99) (pdT) (arB 99) (pkT) (psT) fiT faT) ++ ((wP k arP fiP (uF (uF faP 13 (c2)) 22 (c3))) ++ (wB k arB fiB faB)))) := ⟨hP, hD⟩
  obtain ⟨hP, hD⟩ : va_P G vwCl ((wT k arT (tpT) (paT) (arP 99) (pdT) (arB 99) (pkT) (psT) fiT faT) ++ ((wP k arP fiP (uF (uF faP 13 (c2)) 22 (c3))) ++ ((wB k arB fiB faB) ++ (wO k arO fiO faO flO)))) H ∧ va_D A ((wT k arT (tpT) (paT) (arP 99) (pdT) (arB 99) (pkT) (psT) fiT faT) ++ ((wP k arP fiP (uF (uF faP 13 (c2)) 22 (c3))) ++ ((wB k arB fiB faB) ++ (wO k arO fiO faO flO)))) := re_ord hP hD [1, 2, 3, 4, 5, 6, 7, 8, 9, 10, 11, 12, 13, 14, 15, 16, 17, 18, 19, 20, 0] (by decide) rfl
  obtain ⟨h9, rc1, rc2, rc3, hp3⟩ : r = Int32.ofInt c1 ∧ (inR c1) ∧ (∀ t, inR (c2 t)) ∧ (∀ t, inR (c3 t)) ∧ (BuP w0 c1 (gs (lc (nb ((fiB 0))) ((faP 9)) b0) ((fiP 7))) (sdV (gs (lc (nb ((fiB 0))) ((faP 9)) b0) ((fiP 7))) ((fiP 3)) (buD b0 (dp ((fiB 0))) ((fiP 0)))) (buD b0 (dp ((fiB 0))) ((fiP 0))) (og (bs (nb ((fiB 0))) b0) 7) (fun q => evR (dcf ((faP 20))) (vls (nb ((fiB 0))) ((faP 8)) ((faP 9)) b0 ((fiP 7)) ((fiP 0)) (dp ((fiB 0)))) (stq ((faP 21)) q) ((faP 21) q)) ((fiP 24))) := hp
  subst h9
  have hBuc := hp3
  refine iv_i2l hx hb dL_bucket_8 ?_
  refine lv_topl (fun z4 ez4 => ?_)
  have hL8 := ez4
  refine iv_last hx hb hX.1 hP hD hS 20 2 rfl rfl (fun g' => show _ = ((wT k arT (tpT) (paT) (arP 99) (pdT) (arB 99) (pkT) (psT) fiT faT) ++ ((wP k arP fiP (uF (uF faP 13 (c2)) 22 (c3))) ++ ((wB k arB fiB faB) ++ (wO k arO fiO faO g')))) from rfl) (by omega) (by omega) (by decide) dL_bucket_9 (fun H locs hP hD hS => ?_)
  obtain ⟨g5, eg5⟩ : ∃ z, z = vp_updL (flO) (0 : Int).toNat (z4) := ⟨_, rfl⟩
  rw [← eg5] at hP hD
  have hG := up_eq eg5 hL8
  refine lv_goto (tgt := 17) hx hb dL_bucket_10 (by decide) ?_
  refine lv_iconst (v := Int32.ofInt 0) hx hb dL_bucket_17 (by decide +kernel) ?_
  exact W.iret (v := Int32.ofInt (0)) hx hb hr (fun t ht hW => ⟨⟨Int32.ofInt (0), (0, c2, c3, g5), rfl, ⟨rfl, (show (inR 0) ∧ (∀ t, inR (c2 t)) ∧ (∀ t, inR (c3 t)) ∧ (0 = 0 ∧ ∃ q, g5 0 = (Int32.ofInt q).toInt64 ∧ BuP w0 q (gs (lc (nb (fiB 0)) (faP 9) b0) (fiP 7)) (sdV (gs (lc (nb (fiB 0)) (faP 9) b0) (fiP 7)) (fiP 3) (buD b0 (dp (fiB 0)) (fiP 0))) (buD b0 (dp (fiB 0)) (fiP 0)) (og (bs (nb (fiB 0)) b0) 7) (fun q => evR (dcf (faP 20)) (vls (nb (fiB 0)) (faP 8) (faP 9) b0 (fiP 7) (fiP 0) (dp (fiB 0))) (stq (faP 21) q) (faP 21 q)) (fiP 24)) from ⟨(by omega), rc2, rc3, (by exact ⟨rfl, ⟨_, hG, hBuc⟩⟩)⟩)⟩, by rw [ht]; exact hP, hD⟩, hS.F ht⟩) hS.2.2 dL_bucket_18

