def jP (j : Nat) : Nat := if 0 < j then j - 1 else 3
theorem deskAt_tr {w : gW} {pc j : Nat} {ty : Int} {B ρ T : Int → Int} {Tr X : Int → Int → Int} {D : SD} {Z : Nat → SD} {S : Nat → va_E} (h : deskAt w pc j ty B ρ T Tr D Z S) : deskAt w pc j ty B ρ T X D Z (va_up S 6 (AT w 22 22 X)) := by
  obtain ⟨⟨d0, d1, d2, d3, d4, d5, -⟩, hst, hpa⟩ := h
  exact ⟨⟨up_ne (by decide) d0, up_ne (by decide) d1, up_ne (by decide) d2, up_ne (by decide) d3, up_ne (by decide) d4, up_ne (by decide) d5, up_eq _ _ _⟩, stAt_frame (fun q h1 h2 => up_ne (by omega) rfl) hst, pastAt_frame (fun q h1 => up_ne (by omega) rfl) hpa⟩
/-- what of a row a price needs -/
def rowIn (D : SD) (X : Int → Int → Int) (r : Int) : Prop := (0 ≤ X r 0 ∧ X r 0 ≤ 200000) ∧ (1 ≤ X r 1 ∧ X r 1 ≤ 2000) ∧ (1 ≤ X r 2 ∧ X r 2 ≤ 2000) ∧ (1 ≤ X r 3 ∧ X r 3 ≤ 2000) ∧ (0 ≤ X r 4 ∧ X r 4 < 4) ∧ 1 ≤ sC D (X r 4) ∧ ∀ i j, inI (X i j)
def sumZ (D : SD) (x : Int) : Int := if x = 0 then zsum (fun r => tcell 30 22 (sP D) r 8) (snP D).toNat else if x = 1 then zsum (fun r => tcell 20 6 (sN D) r 5) (snN D).toNat else if x = 2 then zsum (fun r => tcell 30 22 (sP D) r 0) (snP D).toNat else if x = 3 then zsum (fun r => tcell 30 22 (sP D) r 6) (snP D).toNat else zsum (fun r => if tcell 30 22 (sP D) r 12 = 2 then 1 else 0) (snP D).toNat
def clmK (D : SD) (p x val : Int) : Int → Int → Int := upd2 (fun i j => if i = snN D then tcell 30 22 (sP D) p j else sK D i j) (snN D) x val
def dspD (D : SD) (p x val : Int) : SD := wN D (snN D + 1) (upd2 (upd2 (upd2 (upd2 (upd2 (upd2 (sN D) (snN D) 0 p) (snN D) 1 x) (snN D) 2 val) (snN D) 3 (prD D (clmK D p x val) (snN D) (snN D) 8)) (snN D) 4 0) (snN D) 5 0) (snN D + 1) (prD D (clmK D p x val) (snN D))
def accD (D : SD) (n : Int) : SD := wP (wN D (snN D) (upd2 (upd2 (sN D) n 4 1) n 5 (sP D (sN D n 0) 8 - sK D n 8)) (snK D) (sK D)) (snP D) (fun i j => if i = sN D n 0 then tcell 20 22 (sK D) n j else sP D i j)
def takD (D : SD) (a b c z : Int) : SD := wP D (snP D + 1) (prD D (dsc (sP D) (snP D) (scGross (sF D) (sG D) - sG D 3) a b c z) (snP D))
theorem dsc_v (P : Int → Int → Int) (r wt a b c z : Int) : dsc P r wt a b c z r 0 = wt ∧ dsc P r wt a b c z r 1 = a ∧ dsc P r wt a b c z r 2 = b ∧ dsc P r wt a b c z r 3 = c ∧ dsc P r wt a b c z r 4 = z := by
  unfold dsc
  refine ⟨?_, ?_, ?_, ?_, ?_⟩
  · rw [upd2_ne (Or.inr (by decide)), upd2_ne (Or.inr (by decide)), upd2_ne (Or.inr (by decide)), upd2_ne (Or.inr (by decide)), upd2_eq]
  · rw [upd2_ne (Or.inr (by decide)), upd2_ne (Or.inr (by decide)), upd2_ne (Or.inr (by decide)), upd2_eq]
  · rw [upd2_ne (Or.inr (by decide)), upd2_ne (Or.inr (by decide)), upd2_eq]
  · rw [upd2_ne (Or.inr (by decide)), upd2_eq]
  · rw [upd2_eq]
theorem dsc_in {P : Int → Int → Int} {r wt a b c z : Int} (h : ∀ i j, inI (P i j)) (h1 : inI wt) (h2 : inI a) (h3 : inI b) (h4 : inI c) (h5 : inI z) : ∀ i j, inI (dsc P r wt a b c z i j) := inI_upd2 (inI_upd2 (inI_upd2 (inI_upd2 (inI_upd2 h h1) h2) h3) h4) h5
theorem clmK_r {D : SD} {p x val : Int} {j : Int} (hp : 0 ≤ p ∧ p < 30) (hj : 0 ≤ j ∧ j < 22) : clmK D p x val (snN D) j = if j = x then val else sP D p j := by
  unfold clmK upd2
  by_cases h : j = x
  · rw [if_pos ⟨rfl, h⟩, if_pos h]
  · rw [if_neg (fun z => h z.2), if_neg h]
    show (if snN D = snN D then tcell 30 22 (sP D) p j else sK D (snN D) j) = sP D p j
    rw [if_pos rfl, tcell_in hp.1 hp.2 hj.1 hj.2]
theorem clmK_ok {D : SD} (hD : stOK D) {p x val : Int} (hp : 0 ≤ p ∧ p < snP D) (hx : 0 ≤ x ∧ x ≤ 3) (hv : 1 ≤ val ∧ val ≤ (if x = 0 then 100000 else 2000)) (hc : 0 < sC D (sP D p 4)) : rowIn D (clmK D p x val) (snN D) := by
  have hr := hD.2.1.2.2 p hp.1 hp.2
  have hn := hD.2.1.1
  obtain ⟨r0, r1, r2, r3, r4, -⟩ := hr
  have hv2 : 1 ≤ val ∧ val ≤ 100000 ∧ (x ≠ 0 → val ≤ 2000) := by
    refine ⟨hv.1, ?_, fun h => ?_⟩
    · have := hv.2; split at this <;> omega
    · have := hv.2; rw [if_neg h] at this; exact this
  have key : ∀ j, 0 ≤ j → j < 22 → clmK D p x val (snN D) j = if j = x then val else sP D p j := fun j a b => clmK_r ⟨hp.1, by omega⟩ ⟨a, b⟩
  have e4 : clmK D p x val (snN D) 4 = sP D p 4 := by rw [key 4 (by decide) (by decide), if_neg (by omega)]
  refine ⟨?_, ?_, ?_, ?_, ?_, ?_, ?_⟩
  · rw [key 0 (by decide) (by decide)]; split <;> omega
  · rw [key 1 (by decide) (by decide)]; split <;> omega
  · rw [key 2 (by decide) (by decide)]; split <;> omega
  · rw [key 3 (by decide) (by decide)]; split <;> omega
  · rw [e4]; exact r4
  · rw [e4]; omega
  · refine inI_upd2 ?_ ⟨by omega, by omega⟩
    intro i j
    split
    · exact inI_tcell hD.2.1.2.1
    · exact hD.2.2.2.1.2.1 i j
theorem chP_i (φ : Int → Bool) (R : Int → Int → Int) {P : Int → Int → Int} {row : Int} {i j : Int} (h : i ≠ row) : ∀ n : Nat, chP φ R P row n i j = P i j
  | 0 => rfl
  | n + 1 => by
    show (if holdsZ φ R n = true then rsn (chP φ R P row n) row (30 + n) else chP φ R P row n) i j = P i j
    split
    · rw [rsn_ne (Or.inl h)]; exact chP_i φ R h n
    · exact chP_i φ R h n
/-- a priced row: what stands, what is worked out -/
theorem prD_v {D : SD} (hOK : stOK1 D) {P : Int → Int → Int} {r : Int} (h : rowIn D P r) :
    (∀ j, 0 ≤ j → j ≤ 4 → prD D P r r j = P r j) ∧ prD D P r r 5 = dimZ (sF D) P r ∧ prD D P r r 6 = bilZ (sF D) (P r 0) (dimZ (sF D) P r) ∧ prD D P r r 7 = baseZ (sC D) (sE D) (sL D) (sQ D) (P r 4) (bilZ (sF D) (P r 0) (dimZ (sF D) P r)) ∧ (0 ≤ prD D P r r 8 ∧ prD D P r r 8 ≤ 1000000000) ∧
    prD D P r r 9 = girZ (P r 1) (P r 2) (P r 3) ∧ prD D P r r 10 = lngZ (P r 1) (P r 2) (P r 3) ∧ (2 ≤ prD D P r r 11 ∧ prD D P r r 11 ≤ 10) ∧ (∀ i j, inI (prD D P r i j)) ∧ ((0 ≤ dimZ (sF D) P r ∧ dimZ (sF D) P r ≤ 8000000) ∧ (P r 0 ≤ bilZ (sF D) (P r 0) (dimZ (sF D) P r) ∧ dimZ (sF D) P r ≤ bilZ (sF D) (P r 0) (dimZ (sF D) P r) ∧ bilZ (sF D) (P r 0) (dimZ (sF D) P r) ≤ 8000999)) := by
  obtain ⟨s0, s1, s2, s3, s4, hc, hP⟩ := h
  obtain ⟨⟨hF, hg⟩, hB, hU, hRR⟩ := hOK
  obtain ⟨-, ⟨-, -, f6, f7⟩⟩ := hF
  have hd := dimZ_b (F := sF D) (row := r) f6.1 s1 s2 s3
  generalize hdd : dimZ (sF D) P r = dim at *
  have hm : 0 ≤ mx (P r 0) dim ∧ mx (P r 0) dim ≤ 8000000 ∧ P r 0 ≤ mx (P r 0) dim ∧ dim ≤ mx (P r 0) dim := by unfold mx; split <;> omega
  have hq := bil_b (u := sF D 7) f7 hm.1 hm.2.1 rfl
  change (0 ≤ _ ∧ _) ∧ (mx (P r 0) dim ≤ bilZ (sF D) (P r 0) dim ∧ bilZ (sF D) (P r 0) dim ≤ mx (P r 0) dim + 999) at hq
  have hbil : P r 0 ≤ bilZ (sF D) (P r 0) dim ∧ dim ≤ bilZ (sF D) (P r 0) dim ∧ bilZ (sF D) (P r 0) dim ≤ 8000999 := by omega
  generalize hbb : bilZ (sF D) (P r 0) dim = bil at *
  have hbz := baseZ_b hB (x := bil) s4.1 s4.2 hc (by omega) (by omega)
  have hCz := hB.1 (P r 4) s4.1 s4.2
  have hbr := brsZ_b (L := sL D) (x := bil) hCz
  generalize hba : baseZ (sC D) (sE D) (sL D) (sQ D) (P r 4) bil = base at *
  generalize hbs : brsZ (sC D) (sL D) (P r 4) bil = bs at *
  have hlg : 1 ≤ lngZ (P r 1) (P r 2) (P r 3) ∧ lngZ (P r 1) (P r 2) (P r 3) ≤ 2000 := by unfold lngZ mx; split <;> (try split) <;> omega
  have hl3 : lngZ (P r 1) (P r 2) (P r 3) ≤ P r 1 + P r 2 + P r 3 := by unfold lngZ mx; split <;> (try split) <;> omega
  have hgi : 1 ≤ girZ (P r 1) (P r 2) (P r 3) ∧ girZ (P r 1) (P r 2) (P r 3) ≤ 14000 := by unfold girZ; omega
  have hwr : 1 ≤ wrZ (P r 0) dim ∧ wrZ (P r 0) dim ≤ 3 := by unfold wrZ; split <;> (try split) <;> omega
  -- step by step
  obtain ⟨A, eA⟩ : ∃ A, A = prA (sF D) P r := ⟨_, rfl⟩
  have a5 : A r 5 = dim := by rw [eA]; unfold prA; rw [hdd, upd2_ne (Or.inr (by decide)), upd2_eq]
  have a6 : A r 6 = bil := by rw [eA]; unfold prA; rw [hdd, hbb, upd2_eq]
  have aj : ∀ j, j ≠ 5 → j ≠ 6 → A r j = P r j := fun j h5 h6 => by rw [eA]; unfold prA; rw [upd2_ne (Or.inr h6), upd2_ne (Or.inr h5)]
  have ai : ∀ i j, inI (A i j) := by rw [eA]; unfold prA; rw [hdd, hbb]; exact inI_upd2 (inI_upd2 hP ⟨by omega, by omega⟩) ⟨by omega, by omega⟩
  obtain ⟨M, eM⟩ : ∃ M, M = upd2 (msr A r) r 11 0 := ⟨_, rfl⟩
  have hm1 : A r 1 = P r 1 ∧ A r 2 = P r 2 ∧ A r 3 = P r 3 := ⟨aj 1 (by decide) (by decide), aj 2 (by decide) (by decide), aj 3 (by decide) (by decide)⟩
  have m11 : M r 11 = 0 := by rw [eM, upd2_eq]
  have m9 : M r 9 = girZ (P r 1) (P r 2) (P r 3) := by rw [eM, upd2_ne (Or.inr (by decide))]; unfold msr; rw [upd2_eq, hm1.1, hm1.2.1, hm1.2.2]
  have m10 : M r 10 = lngZ (P r 1) (P r 2) (P r 3) := by rw [eM, upd2_ne (Or.inr (by decide))]; unfold msr; rw [upd2_ne (Or.inr (by decide)), upd2_eq, hm1.1, hm1.2.1, hm1.2.2]
  have mj : ∀ j, j ≤ 8 → M r j = A r j := fun j h => by rw [eM, upd2_ne (Or.inr (by omega))]; unfold msr; rw [upd2_ne (Or.inr (by omega)), upd2_ne (Or.inr (by omega))]
  have mi : ∀ i j, inI (M i j) := by
    rw [eM]; unfold msr; rw [hm1.1, hm1.2.1, hm1.2.2]
    exact inI_upd2 (inI_upd2 (inI_upd2 ai ⟨by omega, by omega⟩) ⟨by omega, by omega⟩) ⟨by decide, by decide⟩
  obtain ⟨W1, eW⟩ : ∃ W1, W1 = rsn M r (wrZ (P r 0) dim) := ⟨_, rfl⟩
  have w11 : W1 r 11 = 1 := by rw [eW, rsn_11, m11]; rfl
  have wj : ∀ j, j ≤ 10 → W1 r j = M r j := fun j h => by rw [eW, rsn_ne (Or.inr ⟨by omega, by omega⟩)]
  have wi : ∀ i j, inI (W1 i j) := by rw [eW]; exact rsn_in mi ⟨by omega, by omega⟩ (by omega)
  have eB : prB (sF D) P r = W1 := by rw [eW, eM, eA]; unfold prB; rw [hdd]
  obtain ⟨V, eV⟩ : ∃ V, V = rsn W1 r bs := ⟨_, rfl⟩
  have v11 : V r 11 = 2 := by rw [eV, rsn_11, w11]; rfl
  have vj : ∀ j, j ≤ 10 → V r j = W1 r j := fun j h => by rw [eV, rsn_ne (Or.inr ⟨by omega, by omega⟩)]
  have vi : ∀ i j, inI (V i j) := by rw [eV]; exact rsn_in wi ⟨by omega, by omega⟩ (by omega)
  obtain ⟨U, eU⟩ : ∃ U, U = upd2 V r 7 base := ⟨_, rfl⟩
  have eC : prC (sF D) (sC D) (sE D) (sL D) (sQ D) P r = U := by rw [eU, eV]; unfold prC; rw [hdd, hbb, hba, hbs, eB]
  have u11 : U r 11 = 2 := by rw [eU, upd2_ne (Or.inr (by decide)), v11]
  have u7 : U r 7 = base := by rw [eU, upd2_eq]
  have uj : ∀ j, j ≠ 7 → j ≤ 10 → U r j = M r j := fun j h h2 => by rw [eU, upd2_ne (Or.inr h), vj j h2, wj j h2]
  have ui : ∀ i j, inI (U i j) := by rw [eU]; exact inI_upd2 vi ⟨by omega, by omega⟩
  have hn8 : (snR D).toNat ≤ 8 := by have := hU.1; omega
  have eP : prD D P r = upd2 (chP (factZ (U r)) (sR D) U r (snR D).toNat) r 8 (chV (factZ (U r)) (sR D) base (snR D).toNat) := by
    unfold prD prT
    rw [eC, u7]
  have hv := chV_b (factZ (U r)) (sR D) (b := base) ⟨hbz.1, by omega⟩ (snR D).toNat
  have hc11 := chP_11 (factZ (U r)) (sR D) U r (snR D).toNat
  have lo : ∀ j, j ≠ 8 → j ≤ 10 → prD D P r r j = U r j := fun j h h2 => by rw [eP, upd2_ne (Or.inr h), chP_lo (factZ (U r)) (sR D) (by omega) h2]
  refine ⟨fun j h0 h4 => ?_, ?_, ?_, ?_, ?_, ?_, ?_, ?_, ?_, hd, hbil⟩
  · rw [lo j (by omega) (by omega), uj j (by omega) (by omega), mj j (by omega), aj j (by omega) (by omega)]
  · rw [lo 5 (by decide) (by decide), uj 5 (by decide) (by decide), mj 5 (by decide), a5]
  · rw [lo 6 (by decide) (by decide), uj 6 (by decide) (by decide), mj 6 (by decide), a6]
  · rw [lo 7 (by decide) (by decide), u7]
  · rw [eP, upd2_eq]; exact hv
  · rw [lo 9 (by decide) (by decide), uj 9 (by decide) (by decide), m9]
  · rw [lo 10 (by decide) (by decide), uj 10 (by decide) (by decide), m10]
  · rw [eP, upd2_ne (Or.inr (by decide))]; omega
  · rw [eP]; exact inI_upd2 (chP_in _ _ ui (by omega) _ hn8) ⟨by omega, by omega⟩
theorem zsum_01 (f : Int → Int) (x : Int) : ∀ n : Nat, 0 ≤ zsum (fun r => if f r = x then 1 else 0) n ∧ zsum (fun r => if f r = x then 1 else 0) n ≤ n
  | 0 => ⟨Int.le_refl 0, Int.le_refl 0⟩
  | n + 1 => by
    have h := zsum_01 f x n
    show 0 ≤ zsum (fun r => if f r = x then 1 else 0) n + (if f n = x then 1 else 0) ∧ zsum (fun r => if f r = x then 1 else 0) n + (if f n = x then 1 else 0) ≤ ((n + 1 : Nat) : Int)
    split <;> omega

set_option maxHeartbeats 4000000 in
set_option maxRecDepth 100000 in
theorem c_X6_undo {w : gW} {l : Launch} {S : Nat → va_E} {pc j : Nat} {ty : Int} {B ρ T : Int → Int} {Tr : Int → Int → Int} {D : SD} {Z : Nat → SD} (hN : gw_N w = 92) (hd : deskAt w pc j ty B ρ T Tr D Z S) (hO : deskOK ty B ρ Tr D) (hh : pc ≤ 4 ∧ j < 4 ∧ ∀ i : Nat, i < 4 → cOK (Z i)) :
    GM1 w l yX6_undo wsX6_undo { frames := 4, cells := 0, slots := 0, locals := 91 } [.ref (gw_ad w 0)] S
      (fun v S' => if 0 < pc then v = vI (((pc - 1 : Nat) : Int)) ∧ POST w S (pc - 1) (jP j) ty B ρ T Tr (cpyD (Z (jP j)) D) Z S' else v = vI (-1000009) ∧ S' = S) := by
  refine GM.start (own := RX6) (n := "undo") (d := "()I") (by decide) rfl (Nat.le_of_ble_eq_true rfl) ?_
  intro X hX hR hXl
  subst hXl
  refine g_at rfl (lv2 := [(0, .ref (gw_ad w 0))]) rfl rfl rfl ?_
  obtain ⟨⟨d0, d1, d2, d3, d4, d5, d6⟩, ⟨hS0, hB0⟩, hpa⟩ := id hd
  obtain ⟨F, g, C, E, L, Q, nR, R, nP, P0, nN, N, nK, K⟩ := D
  obtain ⟨⟨e0, e1, e2⟩, ⟨e3, e4, e5, e6, e7⟩, ⟨e8, e9, e10⟩⟩ := (id hS0)
  obtain ⟨⟨e11, e12⟩, ⟨e13, e14⟩, ⟨e15, e16⟩⟩ := (id hB0)
  change S 7 = .inr (4, [.ref (gw_ad w 8), .ref (gw_ad w 10), .ref (gw_ad w 15), .ref (gw_ad w 18), .ref (gw_ad w 20), .ref (gw_ad w 22)]) at e0
  change S 8 = .inr (3, [.ref (gw_ad w 9), vI (g 0), vI (g 1), vI (g 2), vI (g 3), vI (g 4), vI (g 5), vI (g 6), vI (g 7), vI (g 8), vI (g 9)]) at e1
  change S 9 = AI w 8 (F) at e2
  change S 10 = .inr (0, [.ref (gw_ad w 11), .ref (gw_ad w 12), .ref (gw_ad w 13), .ref (gw_ad w 14)]) at e3
  change S 11 = AI w 4 (C) at e4
  change S 12 = AI w 24 ((fl 6 L)) at e5
  change S 13 = AI w 24 ((fl 6 Q)) at e6
  change S 14 = AI w 4 (E) at e7
  change S 15 = .inr (2, [.ref (gw_ad w 16)]) at e8
  change S 16 = .inr (5, [vI (8), vI (63), .ref (gw_ad w 17), vI (nR)]) at e9
  change S 17 = AI w 504 (fl 63 R) at e10
  change S 18 = .inr (5, [vI (30), vI (22), .ref (gw_ad w 19), vI (nP)]) at e11
  change S 19 = AI w 660 (fl 22 P0) at e12
  change S 20 = .inr (5, [vI (20), vI (6), .ref (gw_ad w 21), vI (nN)]) at e13
  change S 21 = AI w 120 (fl 6 N) at e14
  change S 22 = .inr (5, [vI (20), vI (22), .ref (gw_ad w 23), vI (nK)]) at e15
  change S 23 = AI w 440 (fl 22 K) at e16
  obtain ⟨hD, hty, hBr, hBi, hrd, hTi⟩ := id hO
  obtain ⟨⟨⟨hF, hg⟩, hB, hU, hRR⟩, ⟨hnP, hPi, hPr⟩, ⟨hnN, hNi, hNr⟩, ⟨hnK, hKi, hKr⟩, hg3⟩ := id hD
  change scF F at hF
  change scG g at hg
  change bdOK C E L Q at hB
  change ruOK nR R at hU
  change ∀ i j, inI (R i j) at hRR
  change 0 ≤ nP ∧ nP ≤ 30 at hnP
  change ∀ i j, inI (P0 i j) at hPi
  change ∀ p, 0 ≤ p → p < nP → rowOK P0 p at hPr
  change 0 ≤ nN ∧ nN ≤ 20 at hnN
  change ∀ i j, inI (N i j) at hNi
  change nK = nN at hnK
  change ∀ i j, inI (K i j) at hKi
  change ∀ n, 0 ≤ n → n < nN → rowOK K n at hKr
  have hnRb : 0 ≤ nR ∧ nR ≤ 8 := hU.1
  refine g_aload_n (pc := 0) hX 0 rfl dX6_undo_0 ?_
  refine g_get (pc := 1) hX (ci := 6) (fun _ h => List.mem_cons_of_mem _ (List.mem_append_left _ (List.mem_append_left _ (List.mem_append_left _ (List.mem_append_left _ (List.mem_append_left _ (List.mem_append_right _ h))))))) rfl 0 (by omega) d0 2 (by decide) (List.mem_of_getElem? (i := 1) rfl) rfl (v := vI (((pc : Nat) : Int))) rfl dX6_undo_1 ?_
  refine g_if_gt (pc := 4) (tgt := 10) hX (by first | assumption | exact inI_mk (by omega) (by omega)) dX6_undo_4 (by decide) (fun c_4 => ?_) (fun c_4 => ?_)
  · skip
    refine g_aload_n (pc := 10) hX 0 rfl dX6_undo_10 ?_
    refine g_dup (pc := 11) hX rfl dX6_undo_11 ?_
    refine g_get (pc := 12) hX (ci := 6) (fun _ h => List.mem_cons_of_mem _ (List.mem_append_left _ (List.mem_append_left _ (List.mem_append_left _ (List.mem_append_left _ (List.mem_append_left _ (List.mem_append_right _ h))))))) rfl 0 (by omega) d0 2 (by decide) (List.mem_of_getElem? (i := 1) rfl) rfl (v := vI (((pc : Nat) : Int))) rfl dX6_undo_12 ?_
    refine g_iconst (pc := 15) hX dX6_undo_15 ?_
    refine g_isub (pc := 16) hX dX6_undo_16 ?_
    refine g_put (pc := 17) hX (ci := 6) (fun _ h => List.mem_cons_of_mem _ (List.mem_append_left _ (List.mem_append_left _ (List.mem_append_left _ (List.mem_append_left _ (List.mem_append_left _ (List.mem_append_right _ h))))))) rfl tyX6 tyX6_ok nmX6 0 (by omega) d0 2 (by decide) (List.mem_of_getElem? (i := 1) rfl) rfl rfl (tyX6_ok 2 (by decide)) rfl (fit_int _) (Nat.le_of_ble_eq_true rfl) dX6_undo_17 ?_
    refine g_at rfl rfl rfl (S2 := (va_up S 0 (.inr (6, [.ref (gw_ad w 7), .ref (gw_ad w 1), vI (((pc : Nat) : Int) - 1), vI (((j : Nat) : Int)), .ref (gw_ad w 2), vI (ty), .ref (gw_ad w 3), .ref (gw_ad w 5)])))) rfl ?_
    refine g_aload_n (pc := 20) hX 0 rfl dX6_undo_20 ?_
    refine g_aload_n (pc := 21) hX 0 rfl dX6_undo_21 ?_
    refine g_get (pc := 22) hX (ci := 6) (fun _ h => List.mem_cons_of_mem _ (List.mem_append_left _ (List.mem_append_left _ (List.mem_append_left _ (List.mem_append_left _ (List.mem_append_left _ (List.mem_append_right _ h))))))) rfl 0 (by omega) (up_eq _ _ _) 3 (by decide) (List.mem_of_getElem? (i := 3) rfl) rfl (v := vI (((j : Nat) : Int))) rfl dX6_undo_22 ?_
    refine g_if_le (pc := 25) (tgt := 37) hX (by first | assumption | exact inI_mk (by omega) (by omega)) dX6_undo_25 (by decide) (fun c_25 => ?_) (fun c_25 => ?_)
    · skip
      refine g_iconst (pc := 37) hX dX6_undo_37 ?_
      refine g_put (pc := 38) hX (ci := 6) (fun _ h => List.mem_cons_of_mem _ (List.mem_append_left _ (List.mem_append_left _ (List.mem_append_left _ (List.mem_append_left _ (List.mem_append_left _ (List.mem_append_right _ h))))))) rfl tyX6 tyX6_ok nmX6 0 (by omega) (up_eq _ _ _) 3 (by decide) (List.mem_of_getElem? (i := 3) rfl) rfl rfl (tyX6_ok 3 (by decide)) rfl (fit_int _) (Nat.le_of_ble_eq_true rfl) dX6_undo_38 ?_
      refine g_at rfl rfl rfl (S2 := (va_up (va_up S 0 (.inr (6, [.ref (gw_ad w 7), .ref (gw_ad w 1), vI (((pc : Nat) : Int) - 1), vI (((j : Nat) : Int)), .ref (gw_ad w 2), vI (ty), .ref (gw_ad w 3), .ref (gw_ad w 5)]))) 0 (.inr (6, [.ref (gw_ad w 7), .ref (gw_ad w 1), vI (((pc : Nat) : Int) - 1), vI (3), .ref (gw_ad w 2), vI (ty), .ref (gw_ad w 3), .ref (gw_ad w 5)])))) rfl ?_
      refine g_at rfl rfl rfl (S2 := (va_up (va_up S 0 (.inr (6, [.ref (gw_ad w 7), .ref (gw_ad w 1), vI (((pc : Nat) : Int) - 1), vI (((j : Nat) : Int)), .ref (gw_ad w 2), vI (ty), .ref (gw_ad w 3), .ref (gw_ad w 5)]))) 0 (.inr (6, [.ref (gw_ad w 7), .ref (gw_ad w 1), vI (((pc : Nat) : Int) - 1), vI (((jP j : Nat) : Int)), .ref (gw_ad w 2), vI (ty), .ref (gw_ad w 3), .ref (gw_ad w 5)])))) (by rw [show (3 : Int) = ((jP j : Nat) : Int) from by unfold jP; split <;> omega]) ?_
      have hjP : jP j < 4 := by unfold jP; split <;> omega
      refine g_aload_n (pc := 41) hX 0 rfl dX6_undo_41 ?_
      refine g_get (pc := 42) hX (ci := 6) (fun _ h => List.mem_cons_of_mem _ (List.mem_append_left _ (List.mem_append_left _ (List.mem_append_left _ (List.mem_append_left _ (List.mem_append_left _ (List.mem_append_right _ h))))))) rfl 0 (by omega) (up_eq _ _ _) 3 (by decide) (List.mem_of_getElem? (i := 3) rfl) rfl (v := vI (((jP j : Nat) : Int))) rfl dX6_undo_42 ?_
      refine g_if_lt (pc := 45) (tgt := 88) hX (by first | assumption | exact inI_mk (by omega) (by omega)) dX6_undo_45 (by decide) (fun c_45 => ?_) (fun c_45 => ?_)
      · skip
        exact absurd c_45 (by omega)
      · skip
        refine g_aload_n (pc := 48) hX 0 rfl dX6_undo_48 ?_
        refine g_get (pc := 49) hX (ci := 6) (fun _ h => List.mem_cons_of_mem _ (List.mem_append_left _ (List.mem_append_left _ (List.mem_append_left _ (List.mem_append_left _ (List.mem_append_left _ (List.mem_append_right _ h))))))) rfl 0 (by omega) (up_eq _ _ _) 3 (by decide) (List.mem_of_getElem? (i := 3) rfl) rfl (v := vI (((jP j : Nat) : Int))) rfl dX6_undo_49 ?_
        refine g_aload_n (pc := 52) hX 0 rfl dX6_undo_52 ?_
        refine g_get (pc := 53) hX (ci := 6) (fun _ h => List.mem_cons_of_mem _ (List.mem_append_left _ (List.mem_append_left _ (List.mem_append_left _ (List.mem_append_left _ (List.mem_append_left _ (List.mem_append_right _ h))))))) rfl 0 (by omega) (up_eq _ _ _) 1 (by decide) (List.mem_of_getElem? (i := 4) rfl) rfl (v := .ref (gw_ad w 1)) rfl dX6_undo_53 ?_
        refine g_alenAR (pc := 56) hX 1 (by omega) (up_ne (by decide) (up_ne (by decide) d1)) dX6_undo_56 ?_
        refine g_icmp_ge (pc := 57) (tgt := 88) hX (by first | assumption | exact inI_mk (by omega) (by omega)) (by first | assumption | exact inI_mk (by omega) (by omega)) dX6_undo_57 (by decide) (fun c_57 => ?_) (fun c_57 => ?_)
        · skip
          exact absurd c_57 (by omega)
        · skip
          refine g_aload_n (pc := 60) hX 0 rfl dX6_undo_60 ?_
          refine g_get (pc := 61) hX (ci := 6) (fun _ h => List.mem_cons_of_mem _ (List.mem_append_left _ (List.mem_append_left _ (List.mem_append_left _ (List.mem_append_left _ (List.mem_append_left _ (List.mem_append_right _ h))))))) rfl 0 (by omega) (up_eq _ _ _) 1 (by decide) (List.mem_of_getElem? (i := 4) rfl) rfl (v := .ref (gw_ad w 1)) rfl dX6_undo_61 ?_
          refine g_aload_n (pc := 64) hX 0 rfl dX6_undo_64 ?_
          refine g_get (pc := 65) hX (ci := 6) (fun _ h => List.mem_cons_of_mem _ (List.mem_append_left _ (List.mem_append_left _ (List.mem_append_left _ (List.mem_append_left _ (List.mem_append_left _ (List.mem_append_right _ h))))))) rfl 0 (by omega) (up_eq _ _ _) 3 (by decide) (List.mem_of_getElem? (i := 3) rfl) rfl (v := vI (((jP j : Nat) : Int))) rfl dX6_undo_65 ?_
          refine g_aald (pc := 68) hX 1 (by omega) (up_ne (by decide) (up_ne (by decide) d1)) (by omega) (by omega) (by decide) dX6_undo_68 ?_
          refine g_at rfl rfl (st2 := [.ref (gw_ad w (24 + 17 * jP j))]) rfl rfl ?_
          refine g_ifnull (pc := 69) hX dX6_undo_69 ?_
          refine g_aload_n (pc := 72) hX 0 rfl dX6_undo_72 ?_
          refine g_get (pc := 73) hX (ci := 6) (fun _ h => List.mem_cons_of_mem _ (List.mem_append_left _ (List.mem_append_left _ (List.mem_append_left _ (List.mem_append_left _ (List.mem_append_left _ (List.mem_append_right _ h))))))) rfl 0 (by omega) (up_eq _ _ _) 0 (by decide) (List.mem_of_getElem? (i := 5) rfl) rfl (v := .ref (gw_ad w 7)) rfl dX6_undo_73 ?_
          refine g_aload_n (pc := 76) hX 0 rfl dX6_undo_76 ?_
          refine g_get (pc := 77) hX (ci := 6) (fun _ h => List.mem_cons_of_mem _ (List.mem_append_left _ (List.mem_append_left _ (List.mem_append_left _ (List.mem_append_left _ (List.mem_append_left _ (List.mem_append_right _ h))))))) rfl 0 (by omega) (up_eq _ _ _) 1 (by decide) (List.mem_of_getElem? (i := 4) rfl) rfl (v := .ref (gw_ad w 1)) rfl dX6_undo_77 ?_
          refine g_aload_n (pc := 80) hX 0 rfl dX6_undo_80 ?_
          refine g_get (pc := 81) hX (ci := 6) (fun _ h => List.mem_cons_of_mem _ (List.mem_append_left _ (List.mem_append_left _ (List.mem_append_left _ (List.mem_append_left _ (List.mem_append_left _ (List.mem_append_right _ h))))))) rfl 0 (by omega) (up_eq _ _ _) 3 (by decide) (List.mem_of_getElem? (i := 3) rfl) rfl (v := vI (((jP j : Nat) : Int))) rfl dX6_undo_81 ?_
          refine g_aald (pc := 84) hX 1 (by omega) (up_ne (by decide) (up_ne (by decide) d1)) (by omega) (by omega) (by decide) dX6_undo_84 ?_
          refine g_at rfl rfl (st2 := [.ref (gw_ad w (24 + 17 * jP j)), .ref (gw_ad w 7)]) rfl rfl ?_
          refine g_callV0 (pc := 85) (ci := 4) (As := [.ref (gw_ad w (24 + 17 * jP j))]) (st2 := []) hX 7 (by omega) (up_ne (by decide) (up_ne (by decide) e0)) rfl (c_X4_copyFrom (b := 7) (b2 := 24 + 17 * jP j) (D := (F, g, C, E, L, Q, nR, R, nP, P0, nN, N, nK, K)) (D2 := Z (jP j)) (by omega) (by omega) (by omega) (stAt_frame (fun q h1 h2 => (up_ne (by omega) (up_ne (by omega) rfl))) hd.2.1) (stAt_frame (fun q h1 h2 => (up_ne (by omega) (up_ne (by omega) rfl))) (hpa (jP j) hjP)) hD.c (hh.2.2 (jP j) hjP)) gX6_undo_X4_copyFrom (n := 1) (hw := rfl) (hrc := rfl) (hrs := rfl) (hd := by decide +kernel) (hR := ⟨Nat.le_of_ble_eq_true rfl, Nat.le_of_ble_eq_true rfl⟩) (hn := rfl) (hst := rfl) (hsum := Nat.le_of_ble_eq_true rfl) (hdg := dX6_undo_85) ?_
          rintro S85 ⟨hf85, hst85⟩
          refine g_at (pc2 := 88) rfl rfl (st2 := []) rfl (S2 := S85) rfl ?_
          refine g_aload_n (pc := 88) hX 0 rfl dX6_undo_88 ?_
          refine g_get (pc := 89) hX (ci := 6) (fun _ h => List.mem_cons_of_mem _ (List.mem_append_left _ (List.mem_append_left _ (List.mem_append_left _ (List.mem_append_left _ (List.mem_append_left _ (List.mem_append_right _ h))))))) rfl 0 (by omega) ((hf85 0 (by omega)).trans (up_eq _ _ _)) 2 (by decide) (List.mem_of_getElem? (i := 1) rfl) rfl (v := vI (((pc : Nat) : Int) - 1)) rfl dX6_undo_89 ?_
          refine g_iret (pc := 92) hX hR dX6_undo_92 ?_
          have e0 : S85 0 = OD w (pc - 1) (jP j) ty := (((hf85 0 (by omega)).trans (up_eq _ _ _))).trans (by rw [show (((pc : Nat) : Int) - 1 : Int) = ((pc - 1 : Nat) : Int) by omega])
          exact (if_pos (by omega)).mpr ⟨vI_c (by omega), ⟨⟨e0, ((hf85 1 (by omega)).trans (up_ne (by decide) (up_ne (by decide) d1))), ((hf85 2 (by omega)).trans (up_ne (by decide) (up_ne (by decide) d2))), ((hf85 3 (by omega)).trans (up_ne (by decide) (up_ne (by decide) d3))), ((hf85 4 (by omega)).trans (up_ne (by decide) (up_ne (by decide) d4))), ((hf85 5 (by omega)).trans (up_ne (by decide) (up_ne (by decide) d5))), ((hf85 6 (by omega)).trans (up_ne (by decide) (up_ne (by decide) d6)))⟩, hst85, pastAt_frame (fun q hq => ((hf85 q (by omega)).trans (up_ne (by omega) (up_ne (by omega) rfl)))) hpa⟩, fun q hq => ((hf85 q (by omega)).trans (up_ne (by omega) (up_ne (by omega) rfl)))⟩
    · skip
      refine g_aload_n (pc := 28) hX 0 rfl dX6_undo_28 ?_
      refine g_get (pc := 29) hX (ci := 6) (fun _ h => List.mem_cons_of_mem _ (List.mem_append_left _ (List.mem_append_left _ (List.mem_append_left _ (List.mem_append_left _ (List.mem_append_left _ (List.mem_append_right _ h))))))) rfl 0 (by omega) (up_eq _ _ _) 3 (by decide) (List.mem_of_getElem? (i := 3) rfl) rfl (v := vI (((j : Nat) : Int))) rfl dX6_undo_29 ?_
      refine g_iconst (pc := 32) hX dX6_undo_32 ?_
      refine g_isub (pc := 33) hX dX6_undo_33 ?_
      refine g_goto (pc := 34) (tgt := 38) hX dX6_undo_34 (by decide) ?_
      refine g_put (pc := 38) hX (ci := 6) (fun _ h => List.mem_cons_of_mem _ (List.mem_append_left _ (List.mem_append_left _ (List.mem_append_left _ (List.mem_append_left _ (List.mem_append_left _ (List.mem_append_right _ h))))))) rfl tyX6 tyX6_ok nmX6 0 (by omega) (up_eq _ _ _) 3 (by decide) (List.mem_of_getElem? (i := 3) rfl) rfl rfl (tyX6_ok 3 (by decide)) rfl (fit_int _) (Nat.le_of_ble_eq_true rfl) dX6_undo_38 ?_
      refine g_at rfl rfl rfl (S2 := (va_up (va_up S 0 (.inr (6, [.ref (gw_ad w 7), .ref (gw_ad w 1), vI (((pc : Nat) : Int) - 1), vI (((j : Nat) : Int)), .ref (gw_ad w 2), vI (ty), .ref (gw_ad w 3), .ref (gw_ad w 5)]))) 0 (.inr (6, [.ref (gw_ad w 7), .ref (gw_ad w 1), vI (((pc : Nat) : Int) - 1), vI (((j : Nat) : Int) - 1), .ref (gw_ad w 2), vI (ty), .ref (gw_ad w 3), .ref (gw_ad w 5)])))) rfl ?_
      refine g_at rfl rfl rfl (S2 := (va_up (va_up S 0 (.inr (6, [.ref (gw_ad w 7), .ref (gw_ad w 1), vI (((pc : Nat) : Int) - 1), vI (((j : Nat) : Int)), .ref (gw_ad w 2), vI (ty), .ref (gw_ad w 3), .ref (gw_ad w 5)]))) 0 (.inr (6, [.ref (gw_ad w 7), .ref (gw_ad w 1), vI (((pc : Nat) : Int) - 1), vI (((jP j : Nat) : Int)), .ref (gw_ad w 2), vI (ty), .ref (gw_ad w 3), .ref (gw_ad w 5)])))) (by rw [show (((j : Nat) : Int) - 1 : Int) = ((jP j : Nat) : Int) from by unfold jP; split <;> omega]) ?_
      have hjP : jP j < 4 := by unfold jP; split <;> omega
      refine g_aload_n (pc := 41) hX 0 rfl dX6_undo_41 ?_
      refine g_get (pc := 42) hX (ci := 6) (fun _ h => List.mem_cons_of_mem _ (List.mem_append_left _ (List.mem_append_left _ (List.mem_append_left _ (List.mem_append_left _ (List.mem_append_left _ (List.mem_append_right _ h))))))) rfl 0 (by omega) (up_eq _ _ _) 3 (by decide) (List.mem_of_getElem? (i := 3) rfl) rfl (v := vI (((jP j : Nat) : Int))) rfl dX6_undo_42 ?_
      refine g_if_lt (pc := 45) (tgt := 88) hX (by first | assumption | exact inI_mk (by omega) (by omega)) dX6_undo_45 (by decide) (fun c_45 => ?_) (fun c_45 => ?_)
      · skip
        exact absurd c_45 (by omega)
      · skip
        refine g_aload_n (pc := 48) hX 0 rfl dX6_undo_48 ?_
        refine g_get (pc := 49) hX (ci := 6) (fun _ h => List.mem_cons_of_mem _ (List.mem_append_left _ (List.mem_append_left _ (List.mem_append_left _ (List.mem_append_left _ (List.mem_append_left _ (List.mem_append_right _ h))))))) rfl 0 (by omega) (up_eq _ _ _) 3 (by decide) (List.mem_of_getElem? (i := 3) rfl) rfl (v := vI (((jP j : Nat) : Int))) rfl dX6_undo_49 ?_
        refine g_aload_n (pc := 52) hX 0 rfl dX6_undo_52 ?_
        refine g_get (pc := 53) hX (ci := 6) (fun _ h => List.mem_cons_of_mem _ (List.mem_append_left _ (List.mem_append_left _ (List.mem_append_left _ (List.mem_append_left _ (List.mem_append_left _ (List.mem_append_right _ h))))))) rfl 0 (by omega) (up_eq _ _ _) 1 (by decide) (List.mem_of_getElem? (i := 4) rfl) rfl (v := .ref (gw_ad w 1)) rfl dX6_undo_53 ?_
        refine g_alenAR (pc := 56) hX 1 (by omega) (up_ne (by decide) (up_ne (by decide) d1)) dX6_undo_56 ?_
        refine g_icmp_ge (pc := 57) (tgt := 88) hX (by first | assumption | exact inI_mk (by omega) (by omega)) (by first | assumption | exact inI_mk (by omega) (by omega)) dX6_undo_57 (by decide) (fun c_57 => ?_) (fun c_57 => ?_)
        · skip
          exact absurd c_57 (by omega)
        · skip
          refine g_aload_n (pc := 60) hX 0 rfl dX6_undo_60 ?_
          refine g_get (pc := 61) hX (ci := 6) (fun _ h => List.mem_cons_of_mem _ (List.mem_append_left _ (List.mem_append_left _ (List.mem_append_left _ (List.mem_append_left _ (List.mem_append_left _ (List.mem_append_right _ h))))))) rfl 0 (by omega) (up_eq _ _ _) 1 (by decide) (List.mem_of_getElem? (i := 4) rfl) rfl (v := .ref (gw_ad w 1)) rfl dX6_undo_61 ?_
          refine g_aload_n (pc := 64) hX 0 rfl dX6_undo_64 ?_
          refine g_get (pc := 65) hX (ci := 6) (fun _ h => List.mem_cons_of_mem _ (List.mem_append_left _ (List.mem_append_left _ (List.mem_append_left _ (List.mem_append_left _ (List.mem_append_left _ (List.mem_append_right _ h))))))) rfl 0 (by omega) (up_eq _ _ _) 3 (by decide) (List.mem_of_getElem? (i := 3) rfl) rfl (v := vI (((jP j : Nat) : Int))) rfl dX6_undo_65 ?_
          refine g_aald (pc := 68) hX 1 (by omega) (up_ne (by decide) (up_ne (by decide) d1)) (by omega) (by omega) (by decide) dX6_undo_68 ?_
          refine g_at rfl rfl (st2 := [.ref (gw_ad w (24 + 17 * jP j))]) rfl rfl ?_
          refine g_ifnull (pc := 69) hX dX6_undo_69 ?_
          refine g_aload_n (pc := 72) hX 0 rfl dX6_undo_72 ?_
          refine g_get (pc := 73) hX (ci := 6) (fun _ h => List.mem_cons_of_mem _ (List.mem_append_left _ (List.mem_append_left _ (List.mem_append_left _ (List.mem_append_left _ (List.mem_append_left _ (List.mem_append_right _ h))))))) rfl 0 (by omega) (up_eq _ _ _) 0 (by decide) (List.mem_of_getElem? (i := 5) rfl) rfl (v := .ref (gw_ad w 7)) rfl dX6_undo_73 ?_
          refine g_aload_n (pc := 76) hX 0 rfl dX6_undo_76 ?_
          refine g_get (pc := 77) hX (ci := 6) (fun _ h => List.mem_cons_of_mem _ (List.mem_append_left _ (List.mem_append_left _ (List.mem_append_left _ (List.mem_append_left _ (List.mem_append_left _ (List.mem_append_right _ h))))))) rfl 0 (by omega) (up_eq _ _ _) 1 (by decide) (List.mem_of_getElem? (i := 4) rfl) rfl (v := .ref (gw_ad w 1)) rfl dX6_undo_77 ?_
          refine g_aload_n (pc := 80) hX 0 rfl dX6_undo_80 ?_
          refine g_get (pc := 81) hX (ci := 6) (fun _ h => List.mem_cons_of_mem _ (List.mem_append_left _ (List.mem_append_left _ (List.mem_append_left _ (List.mem_append_left _ (List.mem_append_left _ (List.mem_append_right _ h))))))) rfl 0 (by omega) (up_eq _ _ _) 3 (by decide) (List.mem_of_getElem? (i := 3) rfl) rfl (v := vI (((jP j : Nat) : Int))) rfl dX6_undo_81 ?_
          refine g_aald (pc := 84) hX 1 (by omega) (up_ne (by decide) (up_ne (by decide) d1)) (by omega) (by omega) (by decide) dX6_undo_84 ?_
          refine g_at rfl rfl (st2 := [.ref (gw_ad w (24 + 17 * jP j)), .ref (gw_ad w 7)]) rfl rfl ?_
          refine g_callV0 (pc := 85) (ci := 4) (As := [.ref (gw_ad w (24 + 17 * jP j))]) (st2 := []) hX 7 (by omega) (up_ne (by decide) (up_ne (by decide) e0)) rfl (c_X4_copyFrom (b := 7) (b2 := 24 + 17 * jP j) (D := (F, g, C, E, L, Q, nR, R, nP, P0, nN, N, nK, K)) (D2 := Z (jP j)) (by omega) (by omega) (by omega) (stAt_frame (fun q h1 h2 => (up_ne (by omega) (up_ne (by omega) rfl))) hd.2.1) (stAt_frame (fun q h1 h2 => (up_ne (by omega) (up_ne (by omega) rfl))) (hpa (jP j) hjP)) hD.c (hh.2.2 (jP j) hjP)) gX6_undo_X4_copyFrom (n := 1) (hw := rfl) (hrc := rfl) (hrs := rfl) (hd := by decide +kernel) (hR := ⟨Nat.le_of_ble_eq_true rfl, Nat.le_of_ble_eq_true rfl⟩) (hn := rfl) (hst := rfl) (hsum := Nat.le_of_ble_eq_true rfl) (hdg := dX6_undo_85) ?_
          rintro S85 ⟨hf85, hst85⟩
          refine g_at (pc2 := 88) rfl rfl (st2 := []) rfl (S2 := S85) rfl ?_
          refine g_aload_n (pc := 88) hX 0 rfl dX6_undo_88 ?_
          refine g_get (pc := 89) hX (ci := 6) (fun _ h => List.mem_cons_of_mem _ (List.mem_append_left _ (List.mem_append_left _ (List.mem_append_left _ (List.mem_append_left _ (List.mem_append_left _ (List.mem_append_right _ h))))))) rfl 0 (by omega) ((hf85 0 (by omega)).trans (up_eq _ _ _)) 2 (by decide) (List.mem_of_getElem? (i := 1) rfl) rfl (v := vI (((pc : Nat) : Int) - 1)) rfl dX6_undo_89 ?_
          refine g_iret (pc := 92) hX hR dX6_undo_92 ?_
          have e0 : S85 0 = OD w (pc - 1) (jP j) ty := (((hf85 0 (by omega)).trans (up_eq _ _ _))).trans (by rw [show (((pc : Nat) : Int) - 1 : Int) = ((pc - 1 : Nat) : Int) by omega])
          exact (if_pos (by omega)).mpr ⟨vI_c (by omega), ⟨⟨e0, ((hf85 1 (by omega)).trans (up_ne (by decide) (up_ne (by decide) d1))), ((hf85 2 (by omega)).trans (up_ne (by decide) (up_ne (by decide) d2))), ((hf85 3 (by omega)).trans (up_ne (by decide) (up_ne (by decide) d3))), ((hf85 4 (by omega)).trans (up_ne (by decide) (up_ne (by decide) d4))), ((hf85 5 (by omega)).trans (up_ne (by decide) (up_ne (by decide) d5))), ((hf85 6 (by omega)).trans (up_ne (by decide) (up_ne (by decide) d6)))⟩, hst85, pastAt_frame (fun q hq => ((hf85 q (by omega)).trans (up_ne (by omega) (up_ne (by omega) rfl)))) hpa⟩, fun q hq => ((hf85 q (by omega)).trans (up_ne (by omega) (up_ne (by omega) rfl)))⟩
  · skip
    refine g_ldc (pc := 7) hX (z := -1000009) (List.mem_of_getElem? (i := 2) rfl) (by decide +kernel) dX6_undo_7 ?_
    refine g_iret (pc := 9) hX hR dX6_undo_9 ?_
    exact (if_neg (by omega)).mpr ⟨rfl, rfl⟩

set_option maxHeartbeats 4000000 in
set_option maxRecDepth 100000 in
theorem c_X6_trialCharge {w : gW} {l : Launch} {S : Nat → va_E} {pc j : Nat} {ty : Int} {B ρ T : Int → Int} {Tr : Int → Int → Int} {D : SD} {Z : Nat → SD} (hN : gw_N w = 92) (hd : deskAt w pc j ty B ρ T Tr D Z S) (hO : deskOK ty B ρ Tr D) (hTr : rowIn D Tr 0) :
    GM1 w l yX6_trialCharge wsX6_trialCharge { frames := 5, cells := 0, slots := 0, locals := 131 } [.ref (gw_ad w 0)] S
      (fun v S' => v = vI (prD D Tr 0 0 8) ∧ S' = va_up S 6 (AT w 22 22 (prD D Tr 0))) := by
  refine GM.start (own := RX6) (n := "trialCharge") (d := "()I") (by decide) rfl (Nat.le_of_ble_eq_true rfl) ?_
  intro X hX hR hXl
  subst hXl
  refine g_at rfl (lv2 := [(0, .ref (gw_ad w 0))]) rfl rfl rfl ?_
  obtain ⟨⟨d0, d1, d2, d3, d4, d5, d6⟩, ⟨hS0, hB0⟩, hpa⟩ := id hd
  obtain ⟨F, g, C, E, L, Q, nR, R, nP, P0, nN, N, nK, K⟩ := D
  obtain ⟨⟨e0, e1, e2⟩, ⟨e3, e4, e5, e6, e7⟩, ⟨e8, e9, e10⟩⟩ := (id hS0)
  obtain ⟨⟨e11, e12⟩, ⟨e13, e14⟩, ⟨e15, e16⟩⟩ := (id hB0)
  change S 7 = .inr (4, [.ref (gw_ad w 8), .ref (gw_ad w 10), .ref (gw_ad w 15), .ref (gw_ad w 18), .ref (gw_ad w 20), .ref (gw_ad w 22)]) at e0
  change S 8 = .inr (3, [.ref (gw_ad w 9), vI (g 0), vI (g 1), vI (g 2), vI (g 3), vI (g 4), vI (g 5), vI (g 6), vI (g 7), vI (g 8), vI (g 9)]) at e1
  change S 9 = AI w 8 (F) at e2
  change S 10 = .inr (0, [.ref (gw_ad w 11), .ref (gw_ad w 12), .ref (gw_ad w 13), .ref (gw_ad w 14)]) at e3
  change S 11 = AI w 4 (C) at e4
  change S 12 = AI w 24 ((fl 6 L)) at e5
  change S 13 = AI w 24 ((fl 6 Q)) at e6
  change S 14 = AI w 4 (E) at e7
  change S 15 = .inr (2, [.ref (gw_ad w 16)]) at e8
  change S 16 = .inr (5, [vI (8), vI (63), .ref (gw_ad w 17), vI (nR)]) at e9
  change S 17 = AI w 504 (fl 63 R) at e10
  change S 18 = .inr (5, [vI (30), vI (22), .ref (gw_ad w 19), vI (nP)]) at e11
  change S 19 = AI w 660 (fl 22 P0) at e12
  change S 20 = .inr (5, [vI (20), vI (6), .ref (gw_ad w 21), vI (nN)]) at e13
  change S 21 = AI w 120 (fl 6 N) at e14
  change S 22 = .inr (5, [vI (20), vI (22), .ref (gw_ad w 23), vI (nK)]) at e15
  change S 23 = AI w 440 (fl 22 K) at e16
  obtain ⟨hD, hty, hBr, hBi, hrd, hTi⟩ := id hO
  obtain ⟨⟨⟨hF, hg⟩, hB, hU, hRR⟩, ⟨hnP, hPi, hPr⟩, ⟨hnN, hNi, hNr⟩, ⟨hnK, hKi, hKr⟩, hg3⟩ := id hD
  change scF F at hF
  change scG g at hg
  change bdOK C E L Q at hB
  change ruOK nR R at hU
  change ∀ i j, inI (R i j) at hRR
  change 0 ≤ nP ∧ nP ≤ 30 at hnP
  change ∀ i j, inI (P0 i j) at hPi
  change ∀ p, 0 ≤ p → p < nP → rowOK P0 p at hPr
  change 0 ≤ nN ∧ nN ≤ 20 at hnN
  change ∀ i j, inI (N i j) at hNi
  change nK = nN at hnK
  change ∀ i j, inI (K i j) at hKi
  change ∀ n, 0 ≤ n → n < nN → rowOK K n at hKr
  have hnRb : 0 ≤ nR ∧ nR ≤ 8 := hU.1
  refine g_aload_n (pc := 0) hX 0 rfl dX6_trialCharge_0 ?_
  refine g_get (pc := 1) hX (ci := 6) (fun _ h => List.mem_cons_of_mem _ (List.mem_append_left _ (List.mem_append_left _ (List.mem_append_left _ (List.mem_append_left _ (List.mem_append_left _ (List.mem_append_right _ h))))))) rfl 0 (by omega) d0 0 (by decide) (List.mem_of_getElem? (i := 1) rfl) rfl (v := .ref (gw_ad w 7)) rfl dX6_trialCharge_1 ?_
  refine g_aload_n (pc := 4) hX 0 rfl dX6_trialCharge_4 ?_
  refine g_get (pc := 5) hX (ci := 6) (fun _ h => List.mem_cons_of_mem _ (List.mem_append_left _ (List.mem_append_left _ (List.mem_append_left _ (List.mem_append_left _ (List.mem_append_left _ (List.mem_append_right _ h))))))) rfl 0 (by omega) d0 7 (by decide) (List.mem_of_getElem? (i := 2) rfl) rfl (v := .ref (gw_ad w 5)) rfl dX6_trialCharge_5 ?_
  refine g_iconst (pc := 8) hX dX6_trialCharge_8 ?_
  refine g_callV0 (pc := 9) (ci := 4) (As := [.ref (gw_ad w 5), vI (0)]) (st2 := []) hX 7 (by omega) e0 rfl (c_X4_price (b := 7) (D := (F, g, C, E, L, Q, nR, R, nP, P0, nN, N, nK, K)) (row := 0) (by omega) ⟨⟨e0, e1, e2⟩, ⟨e3, e4, e5, e6, e7⟩, ⟨e8, e9, e10⟩⟩ hD.1 (by omega) (by omega) d5 d6 (by decide) (by decide) (by first | assumption | exact inI_mk (by omega) (by omega)) (by omega) (by omega) hTr.2.2.2.2.2.2 hTr.1 hTr.2.1 hTr.2.2.1 hTr.2.2.2.1 hTr.2.2.2.2.1 hTr.2.2.2.2.2.1 (by omega) (by omega)) gX6_trialCharge_X4_price (n := 2) (hw := rfl) (hrc := rfl) (hrs := rfl) (hd := by decide +kernel) (hR := ⟨Nat.le_of_ble_eq_true rfl, Nat.le_of_ble_eq_true rfl⟩) (hn := rfl) (hst := rfl) (hsum := Nat.le_of_ble_eq_true rfl) (hdg := dX6_trialCharge_9) ?_
  rintro _ rfl
  refine g_at (pc2 := 12) rfl rfl (st2 := []) rfl (S2 := (va_up S 6 (AI w 22 (fl 22 (prD (F, g, C, E, L, Q, nR, R, nP, P0, nN, N, nK, K) Tr 0))))) rfl ?_
  refine g_aload_n (pc := 12) hX 0 rfl dX6_trialCharge_12 ?_
  refine g_get (pc := 13) hX (ci := 6) (fun _ h => List.mem_cons_of_mem _ (List.mem_append_left _ (List.mem_append_left _ (List.mem_append_left _ (List.mem_append_left _ (List.mem_append_left _ (List.mem_append_right _ h))))))) rfl 0 (by omega) (up_ne (by decide) d0) 7 (by decide) (List.mem_of_getElem? (i := 2) rfl) rfl (v := .ref (gw_ad w 5)) rfl dX6_trialCharge_13 ?_
  refine g_iconst (pc := 16) hX dX6_trialCharge_16 ?_
  refine g_bipush (pc := 17) hX (by decide) dX6_trialCharge_17 ?_
  refine g_callV1 (pc := 19) (ci := 5) (As := [vI (0), vI (8)]) (st2 := []) hX 5 (by omega) (up_ne (by decide) d5) rfl (c_X5_cell (row := 0) (col := 8) (by omega) (by omega) (up_ne (by decide) d5) (up_eq _ _ _) (by decide) (by decide) (by first | assumption | exact inI_mk (by omega) (by omega)) (by first | assumption | exact inI_mk (by omega) (by omega)) (by first | assumption | exact inI_mk (by omega) (by omega)) (by first | assumption | exact inI_mk (by omega) (by omega))) gX6_trialCharge_X5_cell (n := 2) (hw := rfl) (hrc := rfl) (hrs := rfl) (hd := by decide +kernel) (hR := ⟨Nat.le_of_ble_eq_true rfl, Nat.le_of_ble_eq_true rfl⟩) (hn := rfl) (hst := rfl) (hsum := Nat.le_of_ble_eq_true rfl) (hdg := dX6_trialCharge_19) ?_
  rintro _ S9 ⟨rfl, e9⟩
  rw [e9]
  clear e9 S9
  rw [tcell_in (by omega) (by omega) (by omega) (by omega)]
  refine g_at (pc2 := 22) rfl rfl (st2 := [vI ((prD (F, g, C, E, L, Q, nR, R, nP, P0, nN, N, nK, K) Tr 0) 0 8)]) rfl (S2 := (va_up S 6 (AI w 22 (fl 22 (prD (F, g, C, E, L, Q, nR, R, nP, P0, nN, N, nK, K) Tr 0))))) rfl ?_
  refine g_iret (pc := 22) hX hR dX6_trialCharge_22 ?_
  exact ⟨rfl, rfl⟩

set_option maxHeartbeats 4000000 in
set_option maxRecDepth 100000 in
theorem c_X6_quote {w : gW} {l : Launch} {S : Nat → va_E} {pc j : Nat} {ty : Int} {B ρ T : Int → Int} {Tr : Int → Int → Int} {D : SD} {Z : Nat → SD} (hN : gw_N w = 92) (hd : deskAt w pc j ty B ρ T Tr D Z S) (hO : deskOK ty B ρ Tr D) {wt a b c z : Int} (hwt : inI wt) (ha : inI a) (hb : inI b) (hc : inI c) (hz : inI z) :
    GM1 w l yX6_quote wsX6_quote { frames := 6, cells := 0, slots := 0, locals := 151 } [.ref (gw_ad w 0), vI (wt), vI (a), vI (b), vI (c), vI (z)] S
      (fun v S' => if (1 ≤ wt ∧ wt ≤ 100000) ∧ ((1 ≤ a ∧ a ≤ 2000) ∧ (1 ≤ b ∧ b ≤ 2000) ∧ (1 ≤ c ∧ c ≤ 2000)) ∧ 0 ≤ z ∧ z ≤ 3 then (if 0 < sC D z then v = vI (prD D (dsc Tr 0 wt a b c z) 0 0 8) ∧ ∃ Tr' : Int → Int → Int, (∀ i j, inI (Tr' i j)) ∧ POST w S pc j ty B ρ T Tr' D Z S' else v = vI (-1000002) ∧ S' = S) else v = vI (-1000001) ∧ S' = S) := by
  refine GM.start (own := RX6) (n := "quote") (d := "(IIIII)I") (by decide) rfl (Nat.le_of_ble_eq_true rfl) ?_
  intro X hX hR hXl
  subst hXl
  refine g_at rfl (lv2 := [(0, .ref (gw_ad w 0)), (1, vI (wt)), (2, vI (a)), (3, vI (b)), (4, vI (c)), (5, vI (z))]) rfl rfl rfl ?_
  obtain ⟨⟨d0, d1, d2, d3, d4, d5, d6⟩, ⟨hS0, hB0⟩, hpa⟩ := id hd
  obtain ⟨F, g, C, E, L, Q, nR, R, nP, P0, nN, N, nK, K⟩ := D
  obtain ⟨⟨e0, e1, e2⟩, ⟨e3, e4, e5, e6, e7⟩, ⟨e8, e9, e10⟩⟩ := (id hS0)
  obtain ⟨⟨e11, e12⟩, ⟨e13, e14⟩, ⟨e15, e16⟩⟩ := (id hB0)
  change S 7 = .inr (4, [.ref (gw_ad w 8), .ref (gw_ad w 10), .ref (gw_ad w 15), .ref (gw_ad w 18), .ref (gw_ad w 20), .ref (gw_ad w 22)]) at e0
  change S 8 = .inr (3, [.ref (gw_ad w 9), vI (g 0), vI (g 1), vI (g 2), vI (g 3), vI (g 4), vI (g 5), vI (g 6), vI (g 7), vI (g 8), vI (g 9)]) at e1
  change S 9 = AI w 8 (F) at e2
  change S 10 = .inr (0, [.ref (gw_ad w 11), .ref (gw_ad w 12), .ref (gw_ad w 13), .ref (gw_ad w 14)]) at e3
  change S 11 = AI w 4 (C) at e4
  change S 12 = AI w 24 ((fl 6 L)) at e5
  change S 13 = AI w 24 ((fl 6 Q)) at e6
  change S 14 = AI w 4 (E) at e7
  change S 15 = .inr (2, [.ref (gw_ad w 16)]) at e8
  change S 16 = .inr (5, [vI (8), vI (63), .ref (gw_ad w 17), vI (nR)]) at e9
  change S 17 = AI w 504 (fl 63 R) at e10
  change S 18 = .inr (5, [vI (30), vI (22), .ref (gw_ad w 19), vI (nP)]) at e11
  change S 19 = AI w 660 (fl 22 P0) at e12
  change S 20 = .inr (5, [vI (20), vI (6), .ref (gw_ad w 21), vI (nN)]) at e13
  change S 21 = AI w 120 (fl 6 N) at e14
  change S 22 = .inr (5, [vI (20), vI (22), .ref (gw_ad w 23), vI (nK)]) at e15
  change S 23 = AI w 440 (fl 22 K) at e16
  obtain ⟨hD, hty, hBr, hBi, hrd, hTi⟩ := id hO
  obtain ⟨⟨⟨hF, hg⟩, hB, hU, hRR⟩, ⟨hnP, hPi, hPr⟩, ⟨hnN, hNi, hNr⟩, ⟨hnK, hKi, hKr⟩, hg3⟩ := id hD
  change scF F at hF
  change scG g at hg
  change bdOK C E L Q at hB
  change ruOK nR R at hU
  change ∀ i j, inI (R i j) at hRR
  change 0 ≤ nP ∧ nP ≤ 30 at hnP
  change ∀ i j, inI (P0 i j) at hPi
  change ∀ p, 0 ≤ p → p < nP → rowOK P0 p at hPr
  change 0 ≤ nN ∧ nN ≤ 20 at hnN
  change ∀ i j, inI (N i j) at hNi
  change nK = nN at hnK
  change ∀ i j, inI (K i j) at hKi
  change ∀ n, 0 ≤ n → n < nN → rowOK K n at hKr
  have hnRb : 0 ≤ nR ∧ nR ≤ 8 := hU.1
  refine g_iload_n (pc := 0) hX 1 rfl dX6_quote_0 ?_
  refine g_iconst (pc := 1) hX dX6_quote_1 ?_
  refine g_ldc (pc := 2) hX (z := 100000) (List.mem_of_getElem? (i := 1) rfl) (by decide +kernel) dX6_quote_2 ?_
  refine g_callT1 (pc := 4) (As := [vI (wt), vI (1), vI (100000)]) (st2 := []) hX (c_X6_isWithin (x := wt) (lo := 1) (hi := 100000) (by first | assumption | exact inI_mk (by omega) (by omega)) (by first | assumption | exact inI_mk (by omega) (by omega)) (by first | assumption | exact inI_mk (by omega) (by omega))) gX6_quote_X6_isWithin (n := 3) (hw := rfl) (hrc := rfl) (hrs := rfl) (hd := by decide +kernel) (hR := ⟨Nat.le_of_ble_eq_true rfl, Nat.le_of_ble_eq_true rfl⟩) (hn := rfl) (hst := rfl) (hsum := Nat.le_of_ble_eq_true rfl) (hdg := dX6_quote_4) ?_
  rintro _ S9 ⟨rfl, e9⟩
  rw [e9]
  clear e9 S9
  refine g_at (pc2 := 7) rfl rfl (st2 := [vI (bz (decide (1 ≤ wt ∧ wt ≤ 100000)))]) rfl (S2 := S) rfl ?_
  refine g_bif_eq (pc := 7) (tgt := 28) hX dX6_quote_7 (by decide) (fun c_7 => ?_) (fun c_7 => ?_)
  · skip
    refine g_ldc (pc := 28) hX (z := -1000001) (List.mem_of_getElem? (i := 2) rfl) (by decide +kernel) dX6_quote_28 ?_
    refine g_iret (pc := 30) hX hR dX6_quote_30 ?_
    try simp only [decide_eq_true_eq, decide_eq_false_iff_not] at c_7
    exact (if_neg (by omega)).mpr (⟨rfl, rfl⟩)
  · skip
    refine g_iload_n (pc := 10) hX 2 rfl dX6_quote_10 ?_
    refine g_iload_n (pc := 11) hX 3 rfl dX6_quote_11 ?_
    refine g_iload (pc := 12) hX 4 rfl dX6_quote_12 ?_
    refine g_callT1 (pc := 14) (As := [vI (a), vI (b), vI (c)]) (st2 := []) hX (c_X6_areSides (a := a) (b := b) (c := c) (by first | assumption | exact inI_mk (by omega) (by omega)) (by first | assumption | exact inI_mk (by omega) (by omega)) (by first | assumption | exact inI_mk (by omega) (by omega))) gX6_quote_X6_areSides (n := 3) (hw := rfl) (hrc := rfl) (hrs := rfl) (hd := by decide +kernel) (hR := ⟨Nat.le_of_ble_eq_true rfl, Nat.le_of_ble_eq_true rfl⟩) (hn := rfl) (hst := rfl) (hsum := Nat.le_of_ble_eq_true rfl) (hdg := dX6_quote_14) ?_
    rintro _ S9 ⟨rfl, e9⟩
    rw [e9]
    clear e9 S9
    refine g_at (pc2 := 17) rfl rfl (st2 := [vI (bz (decide ((1 ≤ a ∧ a ≤ 2000) ∧ (1 ≤ b ∧ b ≤ 2000) ∧ (1 ≤ c ∧ c ≤ 2000))))]) rfl (S2 := S) rfl ?_
    refine g_bif_eq (pc := 17) (tgt := 28) hX dX6_quote_17 (by decide) (fun c_17 => ?_) (fun c_17 => ?_)
    · skip
      refine g_ldc (pc := 28) hX (z := -1000001) (List.mem_of_getElem? (i := 2) rfl) (by decide +kernel) dX6_quote_28 ?_
      refine g_iret (pc := 30) hX hR dX6_quote_30 ?_
      try simp only [decide_eq_true_eq, decide_eq_false_iff_not] at c_7 c_17
      exact (if_neg (by omega)).mpr (⟨rfl, rfl⟩)
    · skip
      refine g_iload (pc := 20) hX 5 rfl dX6_quote_20 ?_
      refine g_callT1 (pc := 22) (As := [vI (z)]) (st2 := []) hX (c_X6_isZone (z := z) (by first | assumption | exact inI_mk (by omega) (by omega))) gX6_quote_X6_isZone (n := 1) (hw := rfl) (hrc := rfl) (hrs := rfl) (hd := by decide +kernel) (hR := ⟨Nat.le_of_ble_eq_true rfl, Nat.le_of_ble_eq_true rfl⟩) (hn := rfl) (hst := rfl) (hsum := Nat.le_of_ble_eq_true rfl) (hdg := dX6_quote_22) ?_
      rintro _ S9 ⟨rfl, e9⟩
      rw [e9]
      clear e9 S9
      refine g_at (pc2 := 25) rfl rfl (st2 := [vI (bz (decide (0 ≤ z ∧ z ≤ 3)))]) rfl (S2 := S) rfl ?_
      refine g_bif_ne (pc := 25) (tgt := 31) hX dX6_quote_25 (by decide) (fun c_25 => ?_) (fun c_25 => ?_)
      · skip
        have hz1 := of_decide_eq_true c_25
        have hs1 := of_decide_eq_true c_17
        have hw1 := of_decide_eq_true c_7
        have hCz := hB.1 z (by omega) (by omega)
        refine g_aload_n (pc := 31) hX 0 rfl dX6_quote_31 ?_
        refine g_iload (pc := 32) hX 5 rfl dX6_quote_32 ?_
        refine g_callV1 (pc := 34) (ci := 6) (As := [vI (z)]) (st2 := []) hX 0 (by omega) d0 rfl (c_X6_hasBands (z := z) hN hd hO (by omega) (by omega)) gX6_quote_X6_hasBands (n := 1) (hw := rfl) (hrc := rfl) (hrs := rfl) (hd := by decide +kernel) (hR := ⟨Nat.le_of_ble_eq_true rfl, Nat.le_of_ble_eq_true rfl⟩) (hn := rfl) (hst := rfl) (hsum := Nat.le_of_ble_eq_true rfl) (hdg := dX6_quote_34) ?_
        rintro _ S9 ⟨rfl, e9⟩
        rw [e9]
        clear e9 S9
        refine g_at (pc2 := 37) rfl rfl (st2 := [vI (bz (decide (0 < C z)))]) rfl (S2 := S) rfl ?_
        refine g_bif_ne (pc := 37) (tgt := 43) hX dX6_quote_37 (by decide) (fun c_37 => ?_) (fun c_37 => ?_)
        · skip
          have hc1 := of_decide_eq_true c_37
          have hrow : rowIn (F, g, C, E, L, Q, nR, R, nP, P0, nN, N, nK, K) (dsc Tr 0 wt a b c z) 0 := by
            have hv := dsc_v Tr 0 wt a b c z
            refine ⟨by rw [hv.1]; omega, by rw [hv.2.1]; omega, by rw [hv.2.2.1]; omega, by rw [hv.2.2.2.1]; omega, by rw [hv.2.2.2.2]; omega, by rw [hv.2.2.2.2]; show 1 ≤ C z; omega, dsc_in hTi hwt ha hb hc hz⟩
          refine g_aload_n (pc := 43) hX 0 rfl dX6_quote_43 ?_
          refine g_get (pc := 44) hX (ci := 6) (fun _ h => List.mem_cons_of_mem _ (List.mem_append_left _ (List.mem_append_left _ (List.mem_append_left _ (List.mem_append_left _ (List.mem_append_left _ (List.mem_append_right _ h))))))) rfl 0 (by omega) d0 7 (by decide) (List.mem_of_getElem? (i := 4) rfl) rfl (v := .ref (gw_ad w 5)) rfl dX6_quote_44 ?_
          refine g_iconst (pc := 47) hX dX6_quote_47 ?_
          refine g_iload_n (pc := 48) hX 1 rfl dX6_quote_48 ?_
          refine g_iload_n (pc := 49) hX 2 rfl dX6_quote_49 ?_
          refine g_iload_n (pc := 50) hX 3 rfl dX6_quote_50 ?_
          refine g_iload (pc := 51) hX 4 rfl dX6_quote_51 ?_
          refine g_iload (pc := 53) hX 5 rfl dX6_quote_53 ?_
          refine g_callT0 (pc := 55) (As := [.ref (gw_ad w 5), vI (0), vI (wt), vI (a), vI (b), vI (c), vI (z)]) (st2 := []) hX (c_X6_describe (row := 0) (wt := wt) (a := a) (b := b) (c := c) (z := z) (by omega) (by omega) d5 d6 (by decide) (by decide) (by first | assumption | exact inI_mk (by omega) (by omega)) (by omega) (by omega) (by decide)) gX6_quote_X6_describe (n := 7) (hw := rfl) (hrc := rfl) (hrs := rfl) (hd := by decide +kernel) (hR := ⟨Nat.le_of_ble_eq_true rfl, Nat.le_of_ble_eq_true rfl⟩) (hn := rfl) (hst := rfl) (hsum := Nat.le_of_ble_eq_true rfl) (hdg := dX6_quote_55) ?_
          rintro _ rfl
          refine g_at (pc2 := 58) rfl rfl (st2 := []) rfl (S2 := (va_up S 6 (AI w 22 (fl 22 (dsc Tr 0 wt a b c z))))) rfl ?_
          refine g_aload_n (pc := 58) hX 0 rfl dX6_quote_58 ?_
          refine g_callV1 (pc := 59) (ci := 6) (As := []) (st2 := []) hX 0 (by omega) (up_ne (by decide) d0) rfl (c_X6_trialCharge (Tr := (dsc Tr 0 wt a b c z)) hN (show deskAt w pc j ty B ρ T (dsc Tr 0 wt a b c z) (F, g, C, E, L, Q, nR, R, nP, P0, nN, N, nK, K) Z (va_up S 6 (AI w 22 (fl 22 (dsc Tr 0 wt a b c z)))) from ⟨⟨(up_ne (by decide) d0), (up_ne (by decide) d1), (up_ne (by decide) d2), (up_ne (by decide) d3), (up_ne (by decide) d4), (up_ne (by decide) d5), (up_eq _ _ _)⟩, ⟨⟨⟨(up_ne (by decide) e0), (up_ne (by decide) e1), (up_ne (by decide) e2)⟩, ⟨(up_ne (by decide) e3), (up_ne (by decide) e4), (up_ne (by decide) e5), (up_ne (by decide) e6), (up_ne (by decide) e7)⟩, ⟨(up_ne (by decide) e8), (up_ne (by decide) e9), (up_ne (by decide) e10)⟩⟩, ⟨⟨(up_ne (by decide) e11), (up_ne (by decide) e12)⟩, ⟨(up_ne (by decide) e13), (up_ne (by decide) e14)⟩, ⟨(up_ne (by decide) e15), (up_ne (by decide) e16)⟩⟩⟩, (pastAt_frame (fun q hq => (up_ne (by omega) rfl)) hpa)⟩) ⟨hD, hty, hBr, hBi, hrd, hrow.2.2.2.2.2.2⟩ hrow) gX6_quote_X6_trialCharge (n := 0) (hw := rfl) (hrc := rfl) (hrs := rfl) (hd := by decide +kernel) (hR := ⟨Nat.le_of_ble_eq_true rfl, Nat.le_of_ble_eq_true rfl⟩) (hn := rfl) (hst := rfl) (hsum := Nat.le_of_ble_eq_true rfl) (hdg := dX6_quote_59) ?_
          rintro _ _ ⟨rfl, rfl⟩
          refine g_at (pc2 := 62) rfl rfl (st2 := [vI (prD (F, g, C, E, L, Q, nR, R, nP, P0, nN, N, nK, K) (dsc Tr 0 wt a b c z) 0 0 8)]) rfl (S2 := (va_up (va_up S 6 (AI w 22 (fl 22 (dsc Tr 0 wt a b c z)))) 6 (AI w 22 (fl 22 (prD (F, g, C, E, L, Q, nR, R, nP, P0, nN, N, nK, K) (dsc Tr 0 wt a b c z) 0))))) rfl ?_
          refine g_iret (pc := 62) hX hR dX6_quote_62 ?_
          try simp only [decide_eq_true_eq, decide_eq_false_iff_not] at c_7 c_17 c_25 c_37
          exact (if_pos ((show (1 ≤ wt ∧ wt ≤ 100000) ∧ ((1 ≤ a ∧ a ≤ 2000) ∧ (1 ≤ b ∧ b ≤ 2000) ∧ (1 ≤ c ∧ c ≤ 2000)) ∧ 0 ≤ z ∧ z ≤ 3 by omega))).mpr ((if_pos (show 0 < C z by omega)).mpr (⟨rfl, _, (prD_v hD.1 hrow).2.2.2.2.2.2.2.2.1, ⟨⟨⟨(up_ne (by decide) (up_ne (by decide) d0)), (up_ne (by decide) (up_ne (by decide) d1)), (up_ne (by decide) (up_ne (by decide) d2)), (up_ne (by decide) (up_ne (by decide) d3)), (up_ne (by decide) (up_ne (by decide) d4)), (up_ne (by decide) (up_ne (by decide) d5)), (up_eq _ _ _)⟩, ⟨⟨⟨(up_ne (by decide) (up_ne (by decide) e0)), (up_ne (by decide) (up_ne (by decide) e1)), (up_ne (by decide) (up_ne (by decide) e2))⟩, ⟨(up_ne (by decide) (up_ne (by decide) e3)), (up_ne (by decide) (up_ne (by decide) e4)), (up_ne (by decide) (up_ne (by decide) e5)), (up_ne (by decide) (up_ne (by decide) e6)), (up_ne (by decide) (up_ne (by decide) e7))⟩, ⟨(up_ne (by decide) (up_ne (by decide) e8)), (up_ne (by decide) (up_ne (by decide) e9)), (up_ne (by decide) (up_ne (by decide) e10))⟩⟩, ⟨⟨(up_ne (by decide) (up_ne (by decide) e11)), (up_ne (by decide) (up_ne (by decide) e12))⟩, ⟨(up_ne (by decide) (up_ne (by decide) e13)), (up_ne (by decide) (up_ne (by decide) e14))⟩, ⟨(up_ne (by decide) (up_ne (by decide) e15)), (up_ne (by decide) (up_ne (by decide) e16))⟩⟩⟩, pastAt_frame (fun q hq => (up_ne (by omega) (up_ne (by omega) rfl))) hpa⟩, fun q hq => (up_ne (by omega) (up_ne (by omega) rfl))⟩⟩))
        · skip
          refine g_ldc (pc := 40) hX (z := -1000002) (List.mem_of_getElem? (i := 3) rfl) (by decide +kernel) dX6_quote_40 ?_
          refine g_iret (pc := 42) hX hR dX6_quote_42 ?_
          try simp only [decide_eq_true_eq, decide_eq_false_iff_not] at c_7 c_17 c_25 c_37
          exact (if_pos ((show (1 ≤ wt ∧ wt ≤ 100000) ∧ ((1 ≤ a ∧ a ≤ 2000) ∧ (1 ≤ b ∧ b ≤ 2000) ∧ (1 ≤ c ∧ c ≤ 2000)) ∧ 0 ≤ z ∧ z ≤ 3 by omega))).mpr ((if_neg (show ¬ 0 < C z by omega)).mpr (⟨rfl, rfl⟩))
      · skip
        refine g_ldc (pc := 28) hX (z := -1000001) (List.mem_of_getElem? (i := 2) rfl) (by decide +kernel) dX6_quote_28 ?_
        refine g_iret (pc := 30) hX hR dX6_quote_30 ?_
        try simp only [decide_eq_true_eq, decide_eq_false_iff_not] at c_7 c_17 c_25
        exact (if_neg (by omega)).mpr (⟨rfl, rfl⟩)

set_option maxHeartbeats 4000000 in
set_option maxRecDepth 100000 in
theorem c_X6_take {w : gW} {l : Launch} {S : Nat → va_E} {pc j : Nat} {ty : Int} {B ρ T : Int → Int} {Tr : Int → Int → Int} {D : SD} {Z : Nat → SD} (hN : gw_N w = 92) (hd : deskAt w pc j ty B ρ T Tr D Z S) (hO : deskOK ty B ρ Tr D) (hh : pc ≤ 4 ∧ j < 4 ∧ ∀ i : Nat, i < 4 → cOK (Z i)) {a b c z : Int} (ha : inI a) (hb : inI b) (hc : inI c) (hz : inI z) :
    GM1 w l yX6_take wsX6_take { frames := 5, cells := 0, slots := 0, locals := 131 } [.ref (gw_ad w 0), vI (a), vI (b), vI (c), vI (z)] S
      (fun v S' => if ((1 ≤ a ∧ a ≤ 2000) ∧ (1 ≤ b ∧ b ≤ 2000) ∧ (1 ≤ c ∧ c ≤ 2000)) ∧ 0 ≤ z ∧ z ≤ 3 then (if scSteady (sF D) (sG D) = true ∧ scOver (sF D) (sG D) = false ∧ 1 ≤ scGross (sF D) (sG D) - sG D 3 ∧ 0 < sC D z then (if snP D < 30 then v = vI (snP D) ∧ POST w S (pcN pc) (jN j) ty B ρ T Tr (takD D a b c z) (pastN j Z D) S' else v = vI (-1000003) ∧ S' = S) else v = vI (-1000002) ∧ S' = S) else v = vI (-1000001) ∧ S' = S) := by
  refine GM.start (own := RX6) (n := "take") (d := "(IIII)I") (by decide) rfl (Nat.le_of_ble_eq_true rfl) ?_
  intro X hX hR hXl
  subst hXl
  refine g_at rfl (lv2 := [(0, .ref (gw_ad w 0)), (1, vI (a)), (2, vI (b)), (3, vI (c)), (4, vI (z))]) rfl rfl rfl ?_
  obtain ⟨⟨d0, d1, d2, d3, d4, d5, d6⟩, ⟨hS0, hB0⟩, hpa⟩ := id hd
  obtain ⟨F, g, C, E, L, Q, nR, R, nP, P0, nN, N, nK, K⟩ := D
  obtain ⟨⟨e0, e1, e2⟩, ⟨e3, e4, e5, e6, e7⟩, ⟨e8, e9, e10⟩⟩ := (id hS0)
  obtain ⟨⟨e11, e12⟩, ⟨e13, e14⟩, ⟨e15, e16⟩⟩ := (id hB0)
  change S 7 = .inr (4, [.ref (gw_ad w 8), .ref (gw_ad w 10), .ref (gw_ad w 15), .ref (gw_ad w 18), .ref (gw_ad w 20), .ref (gw_ad w 22)]) at e0
  change S 8 = .inr (3, [.ref (gw_ad w 9), vI (g 0), vI (g 1), vI (g 2), vI (g 3), vI (g 4), vI (g 5), vI (g 6), vI (g 7), vI (g 8), vI (g 9)]) at e1
  change S 9 = AI w 8 (F) at e2
  change S 10 = .inr (0, [.ref (gw_ad w 11), .ref (gw_ad w 12), .ref (gw_ad w 13), .ref (gw_ad w 14)]) at e3
  change S 11 = AI w 4 (C) at e4
  change S 12 = AI w 24 ((fl 6 L)) at e5
  change S 13 = AI w 24 ((fl 6 Q)) at e6
  change S 14 = AI w 4 (E) at e7
  change S 15 = .inr (2, [.ref (gw_ad w 16)]) at e8
  change S 16 = .inr (5, [vI (8), vI (63), .ref (gw_ad w 17), vI (nR)]) at e9
  change S 17 = AI w 504 (fl 63 R) at e10
  change S 18 = .inr (5, [vI (30), vI (22), .ref (gw_ad w 19), vI (nP)]) at e11
  change S 19 = AI w 660 (fl 22 P0) at e12
  change S 20 = .inr (5, [vI (20), vI (6), .ref (gw_ad w 21), vI (nN)]) at e13
  change S 21 = AI w 120 (fl 6 N) at e14
  change S 22 = .inr (5, [vI (20), vI (22), .ref (gw_ad w 23), vI (nK)]) at e15
  change S 23 = AI w 440 (fl 22 K) at e16
  obtain ⟨hD, hty, hBr, hBi, hrd, hTi⟩ := id hO
  obtain ⟨⟨⟨hF, hg⟩, hB, hU, hRR⟩, ⟨hnP, hPi, hPr⟩, ⟨hnN, hNi, hNr⟩, ⟨hnK, hKi, hKr⟩, hg3⟩ := id hD
  change scF F at hF
  change scG g at hg
  change bdOK C E L Q at hB
  change ruOK nR R at hU
  change ∀ i j, inI (R i j) at hRR
  change 0 ≤ nP ∧ nP ≤ 30 at hnP
  change ∀ i j, inI (P0 i j) at hPi
  change ∀ p, 0 ≤ p → p < nP → rowOK P0 p at hPr
  change 0 ≤ nN ∧ nN ≤ 20 at hnN
  change ∀ i j, inI (N i j) at hNi
  change nK = nN at hnK
  change ∀ i j, inI (K i j) at hKi
  change ∀ n, 0 ≤ n → n < nN → rowOK K n at hKr
  have hnRb : 0 ≤ nR ∧ nR ≤ 8 := hU.1
  refine g_iload_n (pc := 0) hX 1 rfl dX6_take_0 ?_
  refine g_iload_n (pc := 1) hX 2 rfl dX6_take_1 ?_
  refine g_iload_n (pc := 2) hX 3 rfl dX6_take_2 ?_
  refine g_callT1 (pc := 3) (As := [vI (a), vI (b), vI (c)]) (st2 := []) hX (c_X6_areSides (a := a) (b := b) (c := c) (by first | assumption | exact inI_mk (by omega) (by omega)) (by first | assumption | exact inI_mk (by omega) (by omega)) (by first | assumption | exact inI_mk (by omega) (by omega))) gX6_take_X6_areSides (n := 3) (hw := rfl) (hrc := rfl) (hrs := rfl) (hd := by decide +kernel) (hR := ⟨Nat.le_of_ble_eq_true rfl, Nat.le_of_ble_eq_true rfl⟩) (hn := rfl) (hst := rfl) (hsum := Nat.le_of_ble_eq_true rfl) (hdg := dX6_take_3) ?_
  rintro _ S9 ⟨rfl, e9⟩
  rw [e9]
  clear e9 S9
  refine g_at (pc2 := 6) rfl rfl (st2 := [vI (bz (decide ((1 ≤ a ∧ a ≤ 2000) ∧ (1 ≤ b ∧ b ≤ 2000) ∧ (1 ≤ c ∧ c ≤ 2000))))]) rfl (S2 := S) rfl ?_
  refine g_bif_eq (pc := 6) (tgt := 17) hX dX6_take_6 (by decide) (fun c_6 => ?_) (fun c_6 => ?_)
  · skip
    refine g_ldc (pc := 17) hX (z := -1000001) (List.mem_of_getElem? (i := 1) rfl) (by decide +kernel) dX6_take_17 ?_
    refine g_iret (pc := 19) hX hR dX6_take_19 ?_
    try simp only [decide_eq_true_eq, decide_eq_false_iff_not] at c_6
    exact (if_neg (by omega)).mpr (⟨rfl, rfl⟩)
  · skip
    refine g_iload (pc := 9) hX 4 rfl dX6_take_9 ?_
    refine g_callT1 (pc := 11) (As := [vI (z)]) (st2 := []) hX (c_X6_isZone (z := z) (by first | assumption | exact inI_mk (by omega) (by omega))) gX6_take_X6_isZone (n := 1) (hw := rfl) (hrc := rfl) (hrs := rfl) (hd := by decide +kernel) (hR := ⟨Nat.le_of_ble_eq_true rfl, Nat.le_of_ble_eq_true rfl⟩) (hn := rfl) (hst := rfl) (hsum := Nat.le_of_ble_eq_true rfl) (hdg := dX6_take_11) ?_
    rintro _ S9 ⟨rfl, e9⟩
    rw [e9]
    clear e9 S9
    refine g_at (pc2 := 14) rfl rfl (st2 := [vI (bz (decide (0 ≤ z ∧ z ≤ 3)))]) rfl (S2 := S) rfl ?_
    refine g_bif_ne (pc := 14) (tgt := 20) hX dX6_take_14 (by decide) (fun c_14 => ?_) (fun c_14 => ?_)
    · skip
      have hz1 := of_decide_eq_true c_14
      have hs1 := of_decide_eq_true c_6
      have hCz := hB.1 z (by omega) (by omega)
      refine g_aload_n (pc := 20) hX 0 rfl dX6_take_20 ?_
      refine g_get (pc := 21) hX (ci := 6) (fun _ h => List.mem_cons_of_mem _ (List.mem_append_left _ (List.mem_append_left _ (List.mem_append_left _ (List.mem_append_left _ (List.mem_append_left _ (List.mem_append_right _ h))))))) rfl 0 (by omega) d0 0 (by decide) (List.mem_of_getElem? (i := 2) rfl) rfl (v := .ref (gw_ad w 7)) rfl dX6_take_21 ?_
      refine g_get (pc := 24) hX (ci := 4) (fun _ h => List.mem_cons_of_mem _ (List.mem_append_left _ (List.mem_append_left _ (List.mem_append_left _ (List.mem_append_left _ (List.mem_append_right _ h)))))) rfl 7 (by omega) e0 0 (by decide) (List.mem_of_getElem? (i := 3) rfl) rfl (v := .ref (gw_ad w 8)) rfl dX6_take_24 ?_
      refine g_astore (pc := 27) hX (lv2 := [(5, .ref (gw_ad w 8)), (0, .ref (gw_ad w 0)), (1, vI (a)), (2, vI (b)), (3, vI (c)), (4, vI (z))]) (by decide) rfl dX6_take_27 ?_
      refine g_aload (pc := 29) hX 0 rfl dX6_take_29 ?_
      refine g_callV1 (pc := 31) (ci := 3) (As := []) (st2 := []) hX 8 (by omega) e1 rfl (c_X3_isSteady (by omega) (by omega) e1 e2 hF hg) gX6_take_X3_isSteady (n := 0) (hw := rfl) (hrc := rfl) (hrs := rfl) (hd := by decide +kernel) (hR := ⟨Nat.le_of_ble_eq_true rfl, Nat.le_of_ble_eq_true rfl⟩) (hn := rfl) (hst := rfl) (hsum := Nat.le_of_ble_eq_true rfl) (hdg := dX6_take_31) ?_
      rintro _ S9 ⟨rfl, e9⟩
      rw [e9]
      clear e9 S9
      refine g_at (pc2 := 34) rfl rfl (st2 := [vI (bz (scSteady F g))]) rfl (S2 := S) rfl ?_
      refine g_bif_eq (pc := 34) (tgt := 63) hX dX6_take_34 (by decide) (fun c_34 => ?_) (fun c_34 => ?_)
      · skip
        refine g_ldc (pc := 63) hX (z := -1000002) (List.mem_of_getElem? (i := 4) rfl) (by decide +kernel) dX6_take_63 ?_
        refine g_iret (pc := 65) hX hR dX6_take_65 ?_
        try simp only [decide_eq_true_eq, decide_eq_false_iff_not] at c_6 c_14 c_34
        exact (if_pos ((show ((1 ≤ a ∧ a ≤ 2000) ∧ (1 ≤ b ∧ b ≤ 2000) ∧ (1 ≤ c ∧ c ≤ 2000)) ∧ 0 ≤ z ∧ z ≤ 3 by omega))).mpr ((if_neg (fun y => absurd (show scSteady F g = true from y.1) (by rw [c_34]; decide))).mpr (⟨rfl, rfl⟩))
      · skip
        refine g_aload (pc := 37) hX 0 rfl dX6_take_37 ?_
        refine g_callV1 (pc := 39) (ci := 3) (As := []) (st2 := []) hX 8 (by omega) e1 rfl (c_X3_isOver (by omega) (by omega) e1 e2 hF hg) gX6_take_X3_isOver (n := 0) (hw := rfl) (hrc := rfl) (hrs := rfl) (hd := by decide +kernel) (hR := ⟨Nat.le_of_ble_eq_true rfl, Nat.le_of_ble_eq_true rfl⟩) (hn := rfl) (hst := rfl) (hsum := Nat.le_of_ble_eq_true rfl) (hdg := dX6_take_39) ?_
        rintro _ S9 ⟨rfl, e9⟩
        rw [e9]
        clear e9 S9
        refine g_at (pc2 := 42) rfl rfl (st2 := [vI (bz (scOver F g))]) rfl (S2 := S) rfl ?_
        refine g_bif_ne (pc := 42) (tgt := 63) hX dX6_take_42 (by decide) (fun c_42 => ?_) (fun c_42 => ?_)
        · skip
          refine g_ldc (pc := 63) hX (z := -1000002) (List.mem_of_getElem? (i := 4) rfl) (by decide +kernel) dX6_take_63 ?_
          refine g_iret (pc := 65) hX hR dX6_take_65 ?_
          try simp only [decide_eq_true_eq, decide_eq_false_iff_not] at c_6 c_14 c_34 c_42
          exact (if_pos ((show ((1 ≤ a ∧ a ≤ 2000) ∧ (1 ≤ b ∧ b ≤ 2000) ∧ (1 ≤ c ∧ c ≤ 2000)) ∧ 0 ≤ z ∧ z ≤ 3 by omega))).mpr ((if_neg (fun y => absurd (show scOver F g = false from y.2.1) (by rw [c_42]; decide))).mpr (⟨rfl, rfl⟩))
        · skip
          refine g_aload (pc := 45) hX 0 rfl dX6_take_45 ?_
          refine g_callV1 (pc := 47) (ci := 3) (As := []) (st2 := []) hX 8 (by omega) e1 rfl (c_X3_netWeight (by omega) (by omega) e1 e2 hF hg) gX6_take_X3_netWeight (n := 0) (hw := rfl) (hrc := rfl) (hrs := rfl) (hd := by decide +kernel) (hR := ⟨Nat.le_of_ble_eq_true rfl, Nat.le_of_ble_eq_true rfl⟩) (hn := rfl) (hst := rfl) (hsum := Nat.le_of_ble_eq_true rfl) (hdg := dX6_take_47) ?_
          rintro _ S9 ⟨rfl, e9⟩
          rw [e9]
          clear e9 S9
          refine g_at (pc2 := 50) rfl rfl (st2 := [vI (scGross F g - g 3)]) rfl (S2 := S) rfl ?_
          refine g_iconst (pc := 50) hX dX6_take_50 ?_
          refine g_icmp_lt (pc := 51) (tgt := 63) hX (by have h1 := scGross_b hF hg; have h2 := scRaw_b hF hg; obtain ⟨⟨-, ⟨-, u1⟩, ⟨u2, u3⟩, ⟨u8, u9⟩⟩, -⟩ := hg; obtain ⟨⟨-, -, ⟨u4, u5⟩, -⟩, -⟩ := hF; exact inI_mk (by omega) (by omega)) (by first | assumption | exact inI_mk (by omega) (by omega)) dX6_take_51 (by decide) (fun c_51 => ?_) (fun c_51 => ?_)
          · skip
            refine g_ldc (pc := 63) hX (z := -1000002) (List.mem_of_getElem? (i := 4) rfl) (by decide +kernel) dX6_take_63 ?_
            refine g_iret (pc := 65) hX hR dX6_take_65 ?_
            try simp only [decide_eq_true_eq, decide_eq_false_iff_not] at c_6 c_14 c_34 c_42 c_51
            exact (if_pos ((show ((1 ≤ a ∧ a ≤ 2000) ∧ (1 ≤ b ∧ b ≤ 2000) ∧ (1 ≤ c ∧ c ≤ 2000)) ∧ 0 ≤ z ∧ z ≤ 3 by omega))).mpr ((if_neg (fun y => absurd (show 1 ≤ scGross F g - g 3 from y.2.2.1) (by omega))).mpr (⟨rfl, rfl⟩))
          · skip
            refine g_aload_n (pc := 54) hX 1 rfl dX6_take_54 ?_
            refine g_iload (pc := 55) hX 5 rfl dX6_take_55 ?_
            refine g_callV1 (pc := 57) (ci := 6) (As := [vI (z)]) (st2 := []) hX 0 (by omega) d0 rfl (c_X6_hasBands (z := z) hN hd hO (by omega) (by omega)) gX6_take_X6_hasBands (n := 1) (hw := rfl) (hrc := rfl) (hrs := rfl) (hd := by decide +kernel) (hR := ⟨Nat.le_of_ble_eq_true rfl, Nat.le_of_ble_eq_true rfl⟩) (hn := rfl) (hst := rfl) (hsum := Nat.le_of_ble_eq_true rfl) (hdg := dX6_take_57) ?_
            rintro _ S9 ⟨rfl, e9⟩
            rw [e9]
            clear e9 S9
            refine g_at (pc2 := 60) rfl rfl (st2 := [vI (bz (decide (0 < C z)))]) rfl (S2 := S) rfl ?_
            refine g_bif_ne (pc := 60) (tgt := 66) hX dX6_take_60 (by decide) (fun c_60 => ?_) (fun c_60 => ?_)
            · skip
              have hc1 := of_decide_eq_true c_60
              have hnet : 1 ≤ scGross F g - g 3 ∧ scGross F g - g 3 ≤ 70100 := by
                refine ⟨c_51, ?_⟩
                have h1 := scGross_b hF hg
                have h2 : ¬ F 3 < scRaw F g - g 2 := of_decide_eq_false c_42
                obtain ⟨⟨-, -, ⟨u4, u5⟩, ⟨u6, u7⟩⟩, -⟩ := hF
                have h3 : 0 ≤ g 3 := hg3.1
                omega
              have hrow : rowIn (F, g, C, E, L, Q, nR, R, nP, P0, nN, N, nK, K) (dsc P0 nP (scGross F g - g 3) a b c z) nP := by
                have hv := dsc_v P0 nP (scGross F g - g 3) a b c z
                refine ⟨by rw [hv.1]; omega, by rw [hv.2.1]; omega, by rw [hv.2.2.1]; omega, by rw [hv.2.2.2.1]; omega, by rw [hv.2.2.2.2]; omega, by rw [hv.2.2.2.2]; show 1 ≤ C z; omega, dsc_in hPi (inI_mk (by omega) (by omega)) ha hb hc hz⟩
              refine g_aload_n (pc := 66) hX 1 rfl dX6_take_66 ?_
              refine g_get (pc := 67) hX (ci := 6) (fun _ h => List.mem_cons_of_mem _ (List.mem_append_left _ (List.mem_append_left _ (List.mem_append_left _ (List.mem_append_left _ (List.mem_append_left _ (List.mem_append_right _ h))))))) rfl 0 (by omega) d0 0 (by decide) (List.mem_of_getElem? (i := 2) rfl) rfl (v := .ref (gw_ad w 7)) rfl dX6_take_67 ?_
              refine g_get (pc := 70) hX (ci := 4) (fun _ h => List.mem_cons_of_mem _ (List.mem_append_left _ (List.mem_append_left _ (List.mem_append_left _ (List.mem_append_left _ (List.mem_append_right _ h)))))) rfl 7 (by omega) e0 3 (by decide) (List.mem_of_getElem? (i := 5) rfl) rfl (v := .ref (gw_ad w 18)) rfl dX6_take_70 ?_
              refine g_get (pc := 73) hX (ci := 5) (fun _ h => List.mem_cons_of_mem _ (List.mem_append_left _ (List.mem_append_left _ (List.mem_append_left _ (List.mem_append_right _ h))))) rfl 18 (by omega) e11 3 (by decide) (List.mem_of_getElem? (i := 6) rfl) rfl (v := vI (nP)) rfl dX6_take_73 ?_
              refine g_bipush (pc := 76) hX (by decide) dX6_take_76 ?_
              refine g_icmp_lt (pc := 78) (tgt := 84) hX (by first | assumption | exact inI_mk (by omega) (by omega)) (by first | assumption | exact inI_mk (by omega) (by omega)) dX6_take_78 (by decide) (fun c_78 => ?_) (fun c_78 => ?_)
              · skip
                refine g_aload_n (pc := 84) hX 1 rfl dX6_take_84 ?_
                refine g_callV0 (pc := 85) (ci := 6) (As := []) (st2 := []) hX 0 (by omega) d0 rfl (c_X6_remember hN hd hh hD.c) gX6_take_X6_remember (n := 0) (hw := rfl) (hrc := rfl) (hrs := rfl) (hd := by decide +kernel) (hR := ⟨Nat.le_of_ble_eq_true rfl, Nat.le_of_ble_eq_true rfl⟩) (hn := rfl) (hst := rfl) (hsum := Nat.le_of_ble_eq_true rfl) (hdg := dX6_take_85) ?_
                rintro S85 ⟨hf85, g85, hp85⟩
                refine g_at (pc2 := 88) rfl rfl (st2 := []) rfl (S2 := S85) rfl ?_
                refine g_aload_n (pc := 88) hX 1 rfl dX6_take_88 ?_
                refine g_get (pc := 89) hX (ci := 6) (fun _ h => List.mem_cons_of_mem _ (List.mem_append_left _ (List.mem_append_left _ (List.mem_append_left _ (List.mem_append_left _ (List.mem_append_left _ (List.mem_append_right _ h))))))) rfl 0 (by omega) g85 0 (by decide) (List.mem_of_getElem? (i := 2) rfl) rfl (v := .ref (gw_ad w 7)) rfl dX6_take_89 ?_
                refine g_get (pc := 92) hX (ci := 4) (fun _ h => List.mem_cons_of_mem _ (List.mem_append_left _ (List.mem_append_left _ (List.mem_append_left _ (List.mem_append_left _ (List.mem_append_right _ h)))))) rfl 7 (by omega) ((hf85 7 (by decide) (Or.inl (by decide))).trans e0) 3 (by decide) (List.mem_of_getElem? (i := 5) rfl) rfl (v := .ref (gw_ad w 18)) rfl dX6_take_92 ?_
                refine g_callV1 (pc := 95) (ci := 5) (As := []) (st2 := []) hX 18 (by omega) ((hf85 18 (by decide) (Or.inl (by decide))).trans e11) rfl (c_X5_addRow (by omega) (by omega) ((hf85 18 (by decide) (Or.inl (by decide))).trans e11) ((hf85 19 (by decide) (Or.inl (by decide))).trans e12) (by first | assumption | exact inI_mk (by omega) (by omega)) (by first | assumption | exact inI_mk (by omega) (by omega)) (by omega)) gX6_take_X5_addRow (n := 0) (hw := rfl) (hrc := rfl) (hrs := rfl) (hd := by decide +kernel) (hR := ⟨Nat.le_of_ble_eq_true rfl, Nat.le_of_ble_eq_true rfl⟩) (hn := rfl) (hst := rfl) (hsum := Nat.le_of_ble_eq_true rfl) (hdg := dX6_take_95) ?_
                rintro _ _ ⟨rfl, rfl⟩
                refine g_at (pc2 := 98) rfl rfl (st2 := [vI (nP)]) rfl (S2 := (va_up S85 18 (.inr (5, [vI (30), vI (22), .ref (gw_ad w 19), vI (nP + 1)])))) rfl ?_
                refine g_istore (pc := 98) hX (lv2 := [(6, vI (nP)), (5, .ref (gw_ad w 8)), (0, .ref (gw_ad w 0)), (1, vI (a)), (2, vI (b)), (3, vI (c)), (4, vI (z))]) (by decide) rfl dX6_take_98 ?_
                refine g_aload_n (pc := 100) hX 2 rfl dX6_take_100 ?_
                refine g_get (pc := 101) hX (ci := 6) (fun _ h => List.mem_cons_of_mem _ (List.mem_append_left _ (List.mem_append_left _ (List.mem_append_left _ (List.mem_append_left _ (List.mem_append_left _ (List.mem_append_right _ h))))))) rfl 0 (by omega) (up_ne (by decide) g85) 0 (by decide) (List.mem_of_getElem? (i := 2) rfl) rfl (v := .ref (gw_ad w 7)) rfl dX6_take_101 ?_
                refine g_get (pc := 104) hX (ci := 4) (fun _ h => List.mem_cons_of_mem _ (List.mem_append_left _ (List.mem_append_left _ (List.mem_append_left _ (List.mem_append_left _ (List.mem_append_right _ h)))))) rfl 7 (by omega) (up_ne (by decide) ((hf85 7 (by decide) (Or.inl (by decide))).trans e0)) 3 (by decide) (List.mem_of_getElem? (i := 5) rfl) rfl (v := .ref (gw_ad w 18)) rfl dX6_take_104 ?_
                refine g_iload (pc := 107) hX 0 rfl dX6_take_107 ?_
                refine g_aload (pc := 109) hX 1 rfl dX6_take_109 ?_
                refine g_callV1 (pc := 111) (ci := 3) (As := []) (st2 := [vI (nP), .ref (gw_ad w 18)]) hX 8 (by omega) (up_ne (by decide) ((hf85 8 (by decide) (Or.inl (by decide))).trans e1)) rfl (c_X3_netWeight (by omega) (by omega) (up_ne (by decide) ((hf85 8 (by decide) (Or.inl (by decide))).trans e1)) (up_ne (by decide) ((hf85 9 (by decide) (Or.inl (by decide))).trans e2)) hF hg) gX6_take_X3_netWeight (n := 0) (hw := rfl) (hrc := rfl) (hrs := rfl) (hd := by decide +kernel) (hR := ⟨Nat.le_of_ble_eq_true rfl, Nat.le_of_ble_eq_true rfl⟩) (hn := rfl) (hst := rfl) (hsum := Nat.le_of_ble_eq_true rfl) (hdg := dX6_take_111) ?_
                rintro _ S9 ⟨rfl, e9⟩
                rw [e9]
                clear e9 S9
                refine g_at (pc2 := 114) rfl rfl (st2 := [vI (scGross F g - g 3), vI (nP), .ref (gw_ad w 18)]) rfl (S2 := (va_up S85 18 (.inr (5, [vI (30), vI (22), .ref (gw_ad w 19), vI (nP + 1)])))) rfl ?_
                refine g_iload_n (pc := 114) hX 3 rfl dX6_take_114 ?_
                refine g_iload_n (pc := 115) hX 4 rfl dX6_take_115 ?_
                refine g_iload_n (pc := 116) hX 5 rfl dX6_take_116 ?_
                refine g_iload (pc := 117) hX 6 rfl dX6_take_117 ?_
                refine g_callT0 (pc := 119) (As := [.ref (gw_ad w 18), vI (nP), vI (scGross F g - g 3), vI (a), vI (b), vI (c), vI (z)]) (st2 := []) hX (c_X6_describe (row := nP) (wt := scGross F g - g 3) (a := a) (b := b) (c := c) (z := z) (by omega) (by omega) (up_eq _ _ _) (up_ne (by decide) ((hf85 19 (by decide) (Or.inl (by decide))).trans e12)) (by decide) (by decide) (by first | assumption | exact inI_mk (by omega) (by omega)) (by omega) (by omega) (by decide)) gX6_take_X6_describe (n := 7) (hw := rfl) (hrc := rfl) (hrs := rfl) (hd := by decide +kernel) (hR := ⟨Nat.le_of_ble_eq_true rfl, Nat.le_of_ble_eq_true rfl⟩) (hn := rfl) (hst := rfl) (hsum := Nat.le_of_ble_eq_true rfl) (hdg := dX6_take_119) ?_
                rintro _ rfl
                refine g_at (pc2 := 122) rfl rfl (st2 := []) rfl (S2 := (va_up (va_up S85 18 (.inr (5, [vI (30), vI (22), .ref (gw_ad w 19), vI (nP + 1)]))) 19 (AI w 660 (fl 22 (dsc P0 nP (scGross F g - g 3) a b c z))))) rfl ?_
                refine g_aload_n (pc := 122) hX 2 rfl dX6_take_122 ?_
                refine g_get (pc := 123) hX (ci := 6) (fun _ h => List.mem_cons_of_mem _ (List.mem_append_left _ (List.mem_append_left _ (List.mem_append_left _ (List.mem_append_left _ (List.mem_append_left _ (List.mem_append_right _ h))))))) rfl 0 (by omega) (up_ne (by decide) (up_ne (by decide) g85)) 0 (by decide) (List.mem_of_getElem? (i := 2) rfl) rfl (v := .ref (gw_ad w 7)) rfl dX6_take_123 ?_
                refine g_aload_n (pc := 126) hX 2 rfl dX6_take_126 ?_
                refine g_get (pc := 127) hX (ci := 6) (fun _ h => List.mem_cons_of_mem _ (List.mem_append_left _ (List.mem_append_left _ (List.mem_append_left _ (List.mem_append_left _ (List.mem_append_left _ (List.mem_append_right _ h))))))) rfl 0 (by omega) (up_ne (by decide) (up_ne (by decide) g85)) 0 (by decide) (List.mem_of_getElem? (i := 2) rfl) rfl (v := .ref (gw_ad w 7)) rfl dX6_take_127 ?_
                refine g_get (pc := 130) hX (ci := 4) (fun _ h => List.mem_cons_of_mem _ (List.mem_append_left _ (List.mem_append_left _ (List.mem_append_left _ (List.mem_append_left _ (List.mem_append_right _ h)))))) rfl 7 (by omega) (up_ne (by decide) (up_ne (by decide) ((hf85 7 (by decide) (Or.inl (by decide))).trans e0))) 3 (by decide) (List.mem_of_getElem? (i := 5) rfl) rfl (v := .ref (gw_ad w 18)) rfl dX6_take_130 ?_
                refine g_iload (pc := 133) hX 0 rfl dX6_take_133 ?_
                refine g_callV0 (pc := 135) (ci := 4) (As := [.ref (gw_ad w 18), vI (nP)]) (st2 := []) hX 7 (by omega) (up_ne (by decide) (up_ne (by decide) ((hf85 7 (by decide) (Or.inl (by decide))).trans e0))) rfl (c_X4_price (b := 7) (D := (F, g, C, E, L, Q, nR, R, nP, P0, nN, N, nK, K)) (row := nP) (by omega) ⟨⟨(up_ne (by decide) (up_ne (by decide) ((hf85 7 (by decide) (Or.inl (by decide))).trans e0))), (up_ne (by decide) (up_ne (by decide) ((hf85 8 (by decide) (Or.inl (by decide))).trans e1))), (up_ne (by decide) (up_ne (by decide) ((hf85 9 (by decide) (Or.inl (by decide))).trans e2)))⟩, ⟨(up_ne (by decide) (up_ne (by decide) ((hf85 10 (by decide) (Or.inl (by decide))).trans e3))), (up_ne (by decide) (up_ne (by decide) ((hf85 11 (by decide) (Or.inl (by decide))).trans e4))), (up_ne (by decide) (up_ne (by decide) ((hf85 12 (by decide) (Or.inl (by decide))).trans e5))), (up_ne (by decide) (up_ne (by decide) ((hf85 13 (by decide) (Or.inl (by decide))).trans e6))), (up_ne (by decide) (up_ne (by decide) ((hf85 14 (by decide) (Or.inl (by decide))).trans e7)))⟩, ⟨(up_ne (by decide) (up_ne (by decide) ((hf85 15 (by decide) (Or.inl (by decide))).trans e8))), (up_ne (by decide) (up_ne (by decide) ((hf85 16 (by decide) (Or.inl (by decide))).trans e9))), (up_ne (by decide) (up_ne (by decide) ((hf85 17 (by decide) (Or.inl (by decide))).trans e10)))⟩⟩ hD.1 (by omega) (by omega) (up_ne (by decide) (up_eq _ _ _)) (up_eq _ _ _) (by decide) (by decide) (by first | assumption | exact inI_mk (by omega) (by omega)) (by omega) (by omega) hrow.2.2.2.2.2.2 hrow.1 hrow.2.1 hrow.2.2.1 hrow.2.2.2.1 hrow.2.2.2.2.1 hrow.2.2.2.2.2.1 (by omega) (by omega)) gX6_take_X4_price (n := 2) (hw := rfl) (hrc := rfl) (hrs := rfl) (hd := by decide +kernel) (hR := ⟨Nat.le_of_ble_eq_true rfl, Nat.le_of_ble_eq_true rfl⟩) (hn := rfl) (hst := rfl) (hsum := Nat.le_of_ble_eq_true rfl) (hdg := dX6_take_135) ?_
                rintro _ rfl
                refine g_at (pc2 := 138) rfl rfl (st2 := []) rfl (S2 := (va_up (va_up (va_up S85 18 (.inr (5, [vI (30), vI (22), .ref (gw_ad w 19), vI (nP + 1)]))) 19 (AI w 660 (fl 22 (dsc P0 nP (scGross F g - g 3) a b c z)))) 19 (AI w 660 (fl 22 (prD (F, g, C, E, L, Q, nR, R, nP, P0, nN, N, nK, K) (dsc P0 nP (scGross F g - g 3) a b c z) nP))))) rfl ?_
                refine g_iload (pc := 138) hX 0 rfl dX6_take_138 ?_
                refine g_iret (pc := 140) hX hR dX6_take_140 ?_
                try simp only [decide_eq_true_eq, decide_eq_false_iff_not] at c_6 c_14 c_34 c_42 c_51 c_60 c_78
                exact (if_pos ((show ((1 ≤ a ∧ a ≤ 2000) ∧ (1 ≤ b ∧ b ≤ 2000) ∧ (1 ≤ c ∧ c ≤ 2000)) ∧ 0 ≤ z ∧ z ≤ 3 by omega))).mpr ((if_pos (⟨c_34, c_42, c_51, show 0 < C z by omega⟩)).mpr ((if_pos (show nP < 30 by omega)).mpr (⟨rfl, ⟨⟨⟨(up_ne (by decide) (up_ne (by decide) (up_ne (by decide) g85))), (up_ne (by decide) (up_ne (by decide) (up_ne (by decide) ((hf85 1 (by decide) (Or.inl (by decide))).trans d1)))), (up_ne (by decide) (up_ne (by decide) (up_ne (by decide) ((hf85 2 (by decide) (Or.inl (by decide))).trans d2)))), (up_ne (by decide) (up_ne (by decide) (up_ne (by decide) ((hf85 3 (by decide) (Or.inl (by decide))).trans d3)))), (up_ne (by decide) (up_ne (by decide) (up_ne (by decide) ((hf85 4 (by decide) (Or.inl (by decide))).trans d4)))), (up_ne (by decide) (up_ne (by decide) (up_ne (by decide) ((hf85 5 (by decide) (Or.inl (by decide))).trans d5)))), (up_ne (by decide) (up_ne (by decide) (up_ne (by decide) ((hf85 6 (by decide) (Or.inl (by decide))).trans d6))))⟩, ⟨⟨⟨(up_ne (by decide) (up_ne (by decide) (up_ne (by decide) ((hf85 7 (by decide) (Or.inl (by decide))).trans e0)))), (up_ne (by decide) (up_ne (by decide) (up_ne (by decide) ((hf85 8 (by decide) (Or.inl (by decide))).trans e1)))), (up_ne (by decide) (up_ne (by decide) (up_ne (by decide) ((hf85 9 (by decide) (Or.inl (by decide))).trans e2))))⟩, ⟨(up_ne (by decide) (up_ne (by decide) (up_ne (by decide) ((hf85 10 (by decide) (Or.inl (by decide))).trans e3)))), (up_ne (by decide) (up_ne (by decide) (up_ne (by decide) ((hf85 11 (by decide) (Or.inl (by decide))).trans e4)))), (up_ne (by decide) (up_ne (by decide) (up_ne (by decide) ((hf85 12 (by decide) (Or.inl (by decide))).trans e5)))), (up_ne (by decide) (up_ne (by decide) (up_ne (by decide) ((hf85 13 (by decide) (Or.inl (by decide))).trans e6)))), (up_ne (by decide) (up_ne (by decide) (up_ne (by decide) ((hf85 14 (by decide) (Or.inl (by decide))).trans e7))))⟩, ⟨(up_ne (by decide) (up_ne (by decide) (up_ne (by decide) ((hf85 15 (by decide) (Or.inl (by decide))).trans e8)))), (up_ne (by decide) (up_ne (by decide) (up_ne (by decide) ((hf85 16 (by decide) (Or.inl (by decide))).trans e9)))), (up_ne (by decide) (up_ne (by decide) (up_ne (by decide) ((hf85 17 (by decide) (Or.inl (by decide))).trans e10))))⟩⟩, ⟨⟨(up_ne (by decide) (up_ne (by decide) (up_eq _ _ _))), (up_eq _ _ _)⟩, ⟨(up_ne (by decide) (up_ne (by decide) (up_ne (by decide) ((hf85 20 (by decide) (Or.inl (by decide))).trans e13)))), (up_ne (by decide) (up_ne (by decide) (up_ne (by decide) ((hf85 21 (by decide) (Or.inl (by decide))).trans e14))))⟩, ⟨(up_ne (by decide) (up_ne (by decide) (up_ne (by decide) ((hf85 22 (by decide) (Or.inl (by decide))).trans e15)))), (up_ne (by decide) (up_ne (by decide) (up_ne (by decide) ((hf85 23 (by decide) (Or.inl (by decide))).trans e16))))⟩⟩⟩, pastAt_frame (fun q hq => (up_ne (by omega) (up_ne (by omega) (up_ne (by omega) rfl)))) hp85⟩, fun q hq => (up_ne (by omega) (up_ne (by omega) (up_ne (by omega) ((hf85 q (by omega) (by omega)).trans rfl))))⟩⟩)))
              · skip
                refine g_ldc (pc := 81) hX (z := -1000003) (List.mem_of_getElem? (i := 7) rfl) (by decide +kernel) dX6_take_81 ?_
                refine g_iret (pc := 83) hX hR dX6_take_83 ?_
                try simp only [decide_eq_true_eq, decide_eq_false_iff_not] at c_6 c_14 c_34 c_42 c_51 c_60 c_78
                exact (if_pos ((show ((1 ≤ a ∧ a ≤ 2000) ∧ (1 ≤ b ∧ b ≤ 2000) ∧ (1 ≤ c ∧ c ≤ 2000)) ∧ 0 ≤ z ∧ z ≤ 3 by omega))).mpr ((if_pos (⟨c_34, c_42, c_51, show 0 < C z by omega⟩)).mpr ((if_neg (show ¬ nP < 30 by omega)).mpr (⟨rfl, rfl⟩)))
            · skip
              refine g_ldc (pc := 63) hX (z := -1000002) (List.mem_of_getElem? (i := 4) rfl) (by decide +kernel) dX6_take_63 ?_
              refine g_iret (pc := 65) hX hR dX6_take_65 ?_
              try simp only [decide_eq_true_eq, decide_eq_false_iff_not] at c_6 c_14 c_34 c_42 c_51 c_60
              exact (if_pos ((show ((1 ≤ a ∧ a ≤ 2000) ∧ (1 ≤ b ∧ b ≤ 2000) ∧ (1 ≤ c ∧ c ≤ 2000)) ∧ 0 ≤ z ∧ z ≤ 3 by omega))).mpr ((if_neg (fun y => absurd (show 0 < C z from y.2.2.2) (by omega))).mpr (⟨rfl, rfl⟩))
    · skip
      refine g_ldc (pc := 17) hX (z := -1000001) (List.mem_of_getElem? (i := 1) rfl) (by decide +kernel) dX6_take_17 ?_
      refine g_iret (pc := 19) hX hR dX6_take_19 ?_
      try simp only [decide_eq_true_eq, decide_eq_false_iff_not] at c_6 c_14
      exact (if_neg (by omega)).mpr (⟨rfl, rfl⟩)
