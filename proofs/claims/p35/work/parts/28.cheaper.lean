/-! ===== what would be cheaper ===== -/
def crZ (D : SD) (Tr : Int → Int → Int) (p : Int) : Int → Int → Int := fun i j => if i = 0 then tcell 30 22 (sP D) p j else Tr i j
def ltgo (D : SD) (ch real : Int) : Nat → (Int → Int → Int) → Int
  | 0, _ => -1000009
  | k + 1, X => if snlZ D X 0 < 1 then -1000009 else if prD D (upd2 X 0 0 (snlZ D X 0)) 0 0 8 < ch then real - snlZ D X 0 else ltgo D ch real k (prD D (upd2 X 0 0 (snlZ D X 0)) 0)
def ltZ (D : SD) (Tr : Int → Int → Int) (p : Int) : Int := ltgo D (prD D (crZ D Tr p) 0 0 8) (prD D (crZ D Tr p) 0 0 0) 100000 (prD D (crZ D Tr p) 0)
def shgo (D : SD) (ch x len : Int) : Nat → Int → (Int → Int → Int) → Int
  | 0, _, _ => -1000009
  | k + 1, i, X => if prD D (upd2 X 0 x (len - i)) 0 0 8 < ch then i else shgo D ch x len k (i + 1) (prD D (upd2 X 0 x (len - i)) 0)
def shZ (D : SD) (Tr : Int → Int → Int) (p x : Int) : Int := shgo D (prD D (crZ D Tr p) 0 0 8) x (prD D (crZ D Tr p) 0 0 x) (prD D (crZ D Tr p) 0 0 x - 1).toNat 1 (prD D (crZ D Tr p) 0)
def chgo (D : SD) : Nat → Int → Int → Int → (Int → Int → Int) → Int
  | 0, _, b, _, _ => b
  | k + 1, z, b, l, X => if 0 < sC D z then (if b = -1000009 ∨ prD D (upd2 X 0 4 z) 0 0 8 < l then chgo D k (z + 1) z (prD D (upd2 X 0 4 z) 0 0 8) (prD D (upd2 X 0 4 z) 0) else chgo D k (z + 1) b l (prD D (upd2 X 0 4 z) 0)) else chgo D k (z + 1) b l X
def cheZ (D : SD) (Tr : Int → Int → Int) (p : Int) : Int := chgo D 4 0 (-1000009) 0 (crZ D Tr p)
theorem crZ_r (D : SD) (Tr : Int → Int → Int) {p j : Int} (hp : 0 ≤ p ∧ p < 30) (hj : 0 ≤ j ∧ j < 22) : crZ D Tr p 0 j = sP D p j := by
  unfold crZ
  rw [if_pos rfl, tcell_in hp.1 hp.2 hj.1 hj.2]
theorem crZ_in {D : SD} (hD : stOK D) {Tr : Int → Int → Int} (hT : ∀ i j, inI (Tr i j)) (p : Int) : ∀ i j, inI (crZ D Tr p i j) := by
  intro i j
  unfold crZ
  split
  · exact inI_tcell hD.2.1.2.1
  · exact hT i j
theorem crZ_ok {D : SD} (hD : stOK D) {Tr : Int → Int → Int} (hT : ∀ i j, inI (Tr i j)) {p : Int} (hp : 0 ≤ p ∧ p < snP D) (hc : 0 < sC D (sP D p 4)) : rowIn D (crZ D Tr p) 0 := by
  have hr := hD.2.1.2.2 p hp.1 hp.2
  have hn := hD.2.1.1
  obtain ⟨r0, r1, r2, r3, r4, -⟩ := hr
  have key : ∀ j, 0 ≤ j → j < 22 → crZ D Tr p 0 j = sP D p j := fun j a b => crZ_r D Tr ⟨hp.1, by omega⟩ ⟨a, b⟩
  refine ⟨?_, ?_, ?_, ?_, ?_, ?_, crZ_in hD hT p⟩
  · rw [key 0 (by decide) (by decide)]; omega
  · rw [key 1 (by decide) (by decide)]; exact r1
  · rw [key 2 (by decide) (by decide)]; exact r2
  · rw [key 3 (by decide) (by decide)]; exact r3
  · rw [key 4 (by decide) (by decide)]; exact r4
  · rw [key 4 (by decide) (by decide)]; omega
/-- a priced row in the trial -/
def rowT (D : SD) (X : Int → Int → Int) : Prop := (1 ≤ X 0 0 ∧ X 0 0 ≤ 100000) ∧ (1 ≤ X 0 1 ∧ X 0 1 ≤ 2000) ∧ (1 ≤ X 0 2 ∧ X 0 2 ≤ 2000) ∧ (1 ≤ X 0 3 ∧ X 0 3 ≤ 2000) ∧ (0 ≤ X 0 4 ∧ X 0 4 < 4) ∧ 1 ≤ sC D (X 0 4) ∧ (1 ≤ X 0 6 ∧ X 0 6 ≤ 9000000) ∧ ∀ i j, inI (X i j)
theorem rowT_pr {D : SD} (hOK : stOK1 D) {X : Int → Int → Int} (h : rowIn D X 0) (h0 : 1 ≤ X 0 0 ∧ X 0 0 ≤ 100000) : rowT D (prD D X 0) := by
  have hv := prD_v hOK h
  obtain ⟨s0, s1, s2, s3, s4, hc, hP⟩ := h
  have e := hv.1
  refine ⟨?_, ?_, ?_, ?_, ?_, ?_, ?_, hv.2.2.2.2.2.2.2.2.1⟩
  · rw [e 0 (by decide) (by decide)]; exact h0
  · rw [e 1 (by decide) (by decide)]; exact s1
  · rw [e 2 (by decide) (by decide)]; exact s2
  · rw [e 3 (by decide) (by decide)]; exact s3
  · rw [e 4 (by decide) (by decide)]; exact s4
  · rw [e 4 (by decide) (by decide)]; exact hc
  · have h6 := hv.2.2.1
    have hb := hv.2.2.2.2.2.2.2.2.2.2
    rw [h6]
    omega
theorem rowT_put {D : SD} {X : Int → Int → Int} (h : rowT D X) {x y : Int} (hx : 0 ≤ x ∧ x ≤ 3) (hy : 1 ≤ y ∧ y ≤ 100000) (h2 : x ≠ 0 → y ≤ 2000) : rowIn D (upd2 X 0 x y) 0 ∧ (1 ≤ upd2 X 0 x y 0 0 ∧ upd2 X 0 x y 0 0 ≤ 100000) := by
  obtain ⟨s0, s1, s2, s3, s4, hc, s6, hP⟩ := h
  have e : ∀ j, upd2 X 0 x y 0 j = if j = x then y else X 0 j := fun j => by
    unfold upd2
    by_cases hj : j = x
    · rw [if_pos ⟨rfl, hj⟩, if_pos hj]
    · rw [if_neg (fun q => hj q.2), if_neg hj]
  have h0 : 1 ≤ upd2 X 0 x y 0 0 ∧ upd2 X 0 x y 0 0 ≤ 100000 := by rw [e]; split <;> omega
  refine ⟨⟨by omega, ?_, ?_, ?_, ?_, ?_, inI_upd2 hP ⟨by omega, by omega⟩⟩, h0⟩
  · rw [e]; split <;> omega
  · rw [e]; split <;> omega
  · rw [e]; split <;> omega
  · rw [e, if_neg (by omega)]; exact s4
  · rw [e, if_neg (by omega)]; exact hc
theorem snlZ_b {D : SD} (hOK : stOK1 D) {X : Int → Int → Int} (h : rowT D X) : 0 ≤ snlZ D X 0 ∧ snlZ D X 0 ≤ 100000 := by
  obtain ⟨s0, s1, s2, s3, s4, hc, s6, hP⟩ := h
  obtain ⟨⟨hF, hg⟩, hB, hU, hRR⟩ := hOK
  obtain ⟨-, ⟨-, -, f6, f7⟩⟩ := hF
  have hCz := hB.1 (X 0 4) s4.1 s4.2
  have hnl := bnlZ_b (C := sC D) (L := sL D) (x := X 0 6) hCz.1 (fun i a b => (((hB.2.2.2 _ s4.1 s4.2).2 i a b).1.1)) hc s6.1
  have hnb := nlZ_b (sR D) (X 0 0) (unit := sF D 7) f7 (snR D).toNat
  have hws := ws_b (x := bnlZ (sC D) (sL D) (X 0 4) (X 0 6)) (y := sF D 7) (by omega) (by omega)
  have hw0 : 0 ≤ (bnlZ (sC D) (sL D) (X 0 4) (X 0 6)).tdiv (sF D 7) * sF D 7 := by
    rw [fdiv_a hnl.1]
    exact Int.mul_nonneg (Int.ediv_nonneg hnl.1 (by omega)) (by omega)
  unfold snlZ
  generalize (bnlZ (sC D) (sL D) (X 0 4) (X 0 6)).tdiv (sF D 7) * sF D 7 = ws at *
  generalize nlZ (sR D) (X 0 0) (sF D 7) (snR D).toNat = nl at *
  unfold mx
  split
  · split <;> omega
  · omega
def rdGo (B : Int → Int) : Nat → Int → rdS → Int × rdS
  | 0, i, s => (i, s)
  | k + 1, i, s => if (rdAll (B i) s).1 = true then rdGo B k (i + 1) (rdAll (B i) s).2 else (i, (rdAll (B i) s).2)
theorem RDW_eq {w : gW} {k k1 : Nat} {S S' : Nat → va_E} {s : rdS} (h : RDW w k k1 S s S') (hk : k1 ≠ k) : S' = va_up (va_up S k1 (AI w 60 s.2)) k (OR_ w k1 s.1) := by
  funext q
  by_cases h1 : q = k
  · subst h1
    rw [up_eq]
    exact h.2.1
  · by_cases h2 : q = k1
    · subst h2
      exact h.2.2.trans (up_ne hk (up_eq _ _ _)).symm
    · exact (h.1 q h2 h1).trans (up_ne h1 (up_ne h2 rfl)).symm
theorem rdGo_b (B : Int → Int) : ∀ (k : Nat) (i : Int) (s : rdS), i ≤ (rdGo B k i s).1 ∧ (rdGo B k i s).1 ≤ i + k
  | 0, i, s => ⟨Int.le_refl i, by show i ≤ i + 0; omega⟩
  | k + 1, i, s => by
    have h := rdGo_b B k (i + 1) (rdAll (B i) s).2
    show i ≤ (if (rdAll (B i) s).1 = true then rdGo B k (i + 1) (rdAll (B i) s).2 else (i, (rdAll (B i) s).2)).1 ∧ (if (rdAll (B i) s).1 = true then rdGo B k (i + 1) (rdAll (B i) s).2 else (i, (rdAll (B i) s).2)).1 ≤ i + ((k + 1 : Nat) : Int)
    split
    · omega
    · show i ≤ i ∧ i ≤ _
      omega
theorem rdGo_ok (B : Int → Int) : ∀ (k : Nat) (i n : Int) (s : rdS), rdOK n s.1 → 0 ≤ n → rdOK (n + k) (rdGo B k i s).2.1
  | 0, i, n, s, h, hn => by
    show rdOK (n + 0) s.1
    rw [Int.add_zero]
    exact h
  | k + 1, i, n, s, h, hn => by
    have h1 := rdOK_all (c := B i) h hn
    have hw : ∀ {a b : Int} {ρ : Int → Int}, rdOK a ρ → a ≤ b → rdOK b ρ := fun ⟨q1, q2, q3, q4, q5⟩ hab => ⟨q1, q2, q3, ⟨q4.1, by omega⟩, q5⟩
    show rdOK (n + ((k + 1 : Nat) : Int)) (if (rdAll (B i) s).1 = true then rdGo B k (i + 1) (rdAll (B i) s).2 else (i, (rdAll (B i) s).2)).2.1
    split
    · have h2 := rdGo_ok B k (i + 1) (n + 1) (rdAll (B i) s).2 h1 (by omega)
      exact hw h2 (by omega)
    · exact hw h1 (by omega)
/-! ===== the fingerprint ===== -/
def hsN (f : Int → Int) (h : Int) : Nat → Int
  | 0 => h
  | n + 1 => 31 * (hsN f h n) + f n
theorem hsN_s (f : Int → Int) (h : Int) {c : Int} (hc : 0 ≤ c) : hsN f h (c + 1).toNat = 31 * (hsN f h c.toNat) + f c := by
  rw [show (c + 1).toNat = c.toNat + 1 by omega]
  show 31 * (hsN f h c.toNat) + f (c.toNat : Int) = _
  rw [show ((c.toNat : Nat) : Int) = c by omega]
def fbI (D : SD) (z h : Int) : Nat → Int
  | 0 => h
  | n + 1 => 31 * (31 * (fbI D z h n) + sL D z n) + sQ D z n
theorem fbI_s (D : SD) (z h : Int) {c : Int} (hc : 0 ≤ c) : fbI D z h (c + 1).toNat = 31 * (31 * (fbI D z h c.toNat) + sL D z c) + sQ D z c := by
  rw [show (c + 1).toNat = c.toNat + 1 by omega]
  show 31 * (31 * (fbI D z h c.toNat) + sL D z (c.toNat : Int)) + sQ D z (c.toNat : Int) = _
  rw [show ((c.toNat : Nat) : Int) = c by omega]
def fbO (D : SD) (h : Int) : Nat → Int
  | 0 => h
  | n + 1 => 31 * (fbI D n (31 * (fbO D h n) + sC D n) (sC D n).toNat) + sE D n
theorem fbO_s (D : SD) (h : Int) {c : Int} (hc : 0 ≤ c) : fbO D h (c + 1).toNat = 31 * (fbI D c (31 * (fbO D h c.toNat) + sC D c) (sC D c).toNat) + sE D c := by
  rw [show (c + 1).toNat = c.toNat + 1 by omega]
  show 31 * (fbI D (c.toNat : Int) (31 * (fbO D h c.toNat) + sC D (c.toNat : Int)) (sC D (c.toNat : Int)).toNat) + sE D (c.toNat : Int) = _
  rw [show ((c.toNat : Nat) : Int) = c by omega]
def fpT (D : SD) (p x : Int) : Int := if x = 10 then openZ D p else sP D p x
def fpO (D : SD) (h : Int) : Nat → Int
  | 0 => h
  | n + 1 => hsN (fun i => sP D n (12 + i)) (hsN (fpT D n) (fpO D h n) 11) (sP D n 11).toNat
theorem fpO_s (D : SD) (h : Int) {c : Int} (hc : 0 ≤ c) : fpO D h (c + 1).toNat = hsN (fun i => sP D c (12 + i)) (hsN (fpT D c) (fpO D h c.toNat) 11) (sP D c 11).toNat := by
  rw [show (c + 1).toNat = c.toNat + 1 by omega]
  show hsN (fun i => sP D (c.toNat : Int) (12 + i)) (hsN (fpT D (c.toNat : Int)) (fpO D h c.toNat) 11) (sP D (c.toNat : Int) 11).toNat = _
  rw [show ((c.toNat : Nat) : Int) = c by omega]
def fnO (D : SD) (h : Int) : Nat → Int
  | 0 => h
  | n + 1 => hsN (fun x => sN D n x) (fnO D h n) 6
theorem fnO_s (D : SD) (h : Int) {c : Int} (hc : 0 ≤ c) : fnO D h (c + 1).toNat = hsN (fun x => sN D c x) (fnO D h c.toNat) 6 := by
  rw [show (c + 1).toNat = c.toNat + 1 by omega]
  show hsN (fun x => sN D (c.toNat : Int) x) (fnO D h c.toNat) 6 = _
  rw [show ((c.toNat : Nat) : Int) = c by omega]
def fpZ (D : SD) : Int := hsN (sumZ D) (fnO D (31 * (fpO D (31 * (31 * (fbO D (hsN (scNum (sF D) (sG D)) (hsN (sF D) 191 8) 11) 4) + snR D) + snP D) (snP D).toNat) + snN D) (snN D).toNat) 5
def rowC (X : Int → Int → Int) : Prop := (1 ≤ X 0 0 ∧ X 0 0 ≤ 100000) ∧ (1 ≤ X 0 1 ∧ X 0 1 ≤ 2000) ∧ (1 ≤ X 0 2 ∧ X 0 2 ≤ 2000) ∧ (1 ≤ X 0 3 ∧ X 0 3 ≤ 2000) ∧ ∀ i j, inI (X i j)
theorem rowC_cr {D : SD} (hD : stOK D) {Tr : Int → Int → Int} (hT : ∀ i j, inI (Tr i j)) {p : Int} (hp : 0 ≤ p ∧ p < snP D) : rowC (crZ D Tr p) := by
  have hr := hD.2.1.2.2 p hp.1 hp.2
  have hn := hD.2.1.1
  obtain ⟨r0, r1, r2, r3, -⟩ := hr
  have key : ∀ j, 0 ≤ j → j < 22 → crZ D Tr p 0 j = sP D p j := fun j a b => crZ_r D Tr ⟨hp.1, by omega⟩ ⟨a, b⟩
  refine ⟨?_, ?_, ?_, ?_, crZ_in hD hT p⟩
  · rw [key 0 (by decide) (by decide)]; exact r0
  · rw [key 1 (by decide) (by decide)]; exact r1
  · rw [key 2 (by decide) (by decide)]; exact r2
  · rw [key 3 (by decide) (by decide)]; exact r3
theorem rowC_put {D : SD} {X : Int → Int → Int} (h : rowC X) {z : Int} (z0 : 0 ≤ z) (z4 : z < 4) (hc : 0 < sC D z) : rowIn D (upd2 X 0 4 z) 0 := by
  obtain ⟨s0, s1, s2, s3, hP⟩ := h
  have e : ∀ j, j ≠ 4 → upd2 X 0 4 z 0 j = X 0 j := fun j hj => upd2_ne (Or.inr hj)
  have e4 : upd2 X 0 4 z 0 4 = z := upd2_eq _ _ _ _
  refine ⟨?_, ?_, ?_, ?_, ?_, ?_, inI_upd2 hP ⟨by omega, by omega⟩⟩
  · rw [e 0 (by decide)]; omega
  · rw [e 1 (by decide)]; exact s1
  · rw [e 2 (by decide)]; exact s2
  · rw [e 3 (by decide)]; exact s3
  · rw [e4]; omega
  · rw [e4]; omega
theorem rowC_pr {D : SD} (hOK : stOK1 D) {X : Int → Int → Int} (h : rowC X) {z : Int} (z0 : 0 ≤ z) (z4 : z < 4) (hc : 0 < sC D z) : rowC (prD D (upd2 X 0 4 z) 0) := by
  have hv := prD_v hOK (rowC_put h z0 z4 hc)
  obtain ⟨s0, s1, s2, s3, hP⟩ := h
  have e : ∀ j, j ≠ 4 → upd2 X 0 4 z 0 j = X 0 j := fun j hj => upd2_ne (Or.inr hj)
  refine ⟨?_, ?_, ?_, ?_, hv.2.2.2.2.2.2.2.2.1⟩
  · rw [hv.1 0 (by decide) (by decide), e 0 (by decide)]; exact s0
  · rw [hv.1 1 (by decide) (by decide), e 1 (by decide)]; exact s1
  · rw [hv.1 2 (by decide) (by decide), e 2 (by decide)]; exact s2
  · rw [hv.1 3 (by decide) (by decide), e 3 (by decide)]; exact s3

set_option maxHeartbeats 4000000 in
set_option maxRecDepth 100000 in
theorem c_X6_lighter {w : gW} {l : Launch} {S : Nat → va_E} {pc j : Nat} {ty : Int} {B ρ T : Int → Int} {Tr : Int → Int → Int} {D : SD} {Z : Nat → SD} (hN : gw_N w = 92) (hd : deskAt w pc j ty B ρ T Tr D Z S) (hO : deskOK ty B ρ Tr D) {p : Int} (hp : inI p) :
    GM1 w l yX6_lighter wsX6_lighter { frames := 6, cells := 0, slots := 0, locals := 151 } [.ref (gw_ad w 0), vI (p)] S
      (fun v S' => if 0 ≤ p ∧ p < snP D then (if 0 < sC D (sP D p 4) then v = vI (ltZ D Tr p) ∧ ∃ Tr' : Int → Int → Int, (∀ i j, inI (Tr' i j)) ∧ POST w S pc j ty B ρ T Tr' D Z S' else v = vI (-1000002) ∧ S' = S) else v = vI (-1000001) ∧ S' = S) := by
  refine GM.start (own := RX6) (n := "lighter") (d := "(I)I") (by decide) rfl (Nat.le_of_ble_eq_true rfl) ?_
  intro X hX hR hXl
  subst hXl
  refine g_at rfl (lv2 := [(0, .ref (gw_ad w 0)), (1, vI (p))]) rfl rfl rfl ?_
  obtain ⟨⟨d0, d1, d2, d3, d4, d5, d6⟩, ⟨hS0, hB0⟩, hpa⟩ := id hd
  obtain ⟨F, g, C, E, L, Q, nR, R, nP, P0, nN, N, nK, K⟩ := D
  obtain ⟨⟨e0, e1, e2⟩, ⟨e3, e4, e5, e6, e7⟩, ⟨e8, e9, e10⟩⟩ := (id hS0)
  obtain ⟨⟨e11, e12⟩, ⟨e13, e14⟩, ⟨e15, e16⟩⟩ := (id hB0)
  change S 7 = .inr (4, [.ref (gw_ad w 8), .ref (gw_ad w 10), .ref (gw_ad w 15), .ref (gw_ad w 18), .ref (gw_ad w 20), .ref (gw_ad w 22)]) at e0
  change S 8 = .inr (3, [.ref (gw_ad w 9), vI (g 0), vI (g 1), vI (g 2), vI (g 3), vI (g 4), vI (g 5), vI (g 6), vI (g 7), vI (g 8), vI (g 9)]) at e1
  change S 9 = AI w 8 (F) at e2
  change S 10 = .inr (0, [.ref (gw_ad w 11), .ref (gw_ad w 12), .ref (gw_ad w 13), .ref (gw_ad w 14)]) at e3
  change S 11 = AI w 4 (C) at e4
  change S 12 = AI w 24 ((fl 6 L)) at e5
  change S 13 = AI w 24 ((fl 6 Q)) at e6
  change S 14 = AI w 4 (E) at e7
  change S 15 = .inr (2, [.ref (gw_ad w 16)]) at e8
  change S 16 = .inr (5, [vI (8), vI (63), .ref (gw_ad w 17), vI (nR)]) at e9
  change S 17 = AI w 504 (fl 63 R) at e10
  change S 18 = .inr (5, [vI (30), vI (22), .ref (gw_ad w 19), vI (nP)]) at e11
  change S 19 = AI w 660 (fl 22 P0) at e12
  change S 20 = .inr (5, [vI (20), vI (6), .ref (gw_ad w 21), vI (nN)]) at e13
  change S 21 = AI w 120 (fl 6 N) at e14
  change S 22 = .inr (5, [vI (20), vI (22), .ref (gw_ad w 23), vI (nK)]) at e15
  change S 23 = AI w 440 (fl 22 K) at e16
  obtain ⟨hD, hty, hBr, hBi, hrd, hTi⟩ := id hO
  obtain ⟨⟨⟨hF, hg⟩, hB, hU, hRR⟩, ⟨hnP, hPi, hPr⟩, ⟨hnN, hNi, hNr⟩, ⟨hnK, hKi, hKr⟩, hg3⟩ := id hD
  change scF F at hF
  change scG g at hg
  change bdOK C E L Q at hB
  change ruOK nR R at hU
  change ∀ i j, inI (R i j) at hRR
  change 0 ≤ nP ∧ nP ≤ 30 at hnP
  change ∀ i j, inI (P0 i j) at hPi
  change ∀ p, 0 ≤ p → p < nP → rowOK P0 p at hPr
  change 0 ≤ nN ∧ nN ≤ 20 at hnN
  change ∀ i j, inI (N i j) at hNi
  change nK = nN at hnK
  change ∀ i j, inI (K i j) at hKi
  change ∀ n, 0 ≤ n → n < nN → rowOK K n at hKr
  have hnRb : 0 ≤ nR ∧ nR ≤ 8 := hU.1
  refine g_aload_n (pc := 0) hX 0 rfl dX6_lighter_0 ?_
  refine g_get (pc := 1) hX (ci := 6) (fun _ h => List.mem_cons_of_mem _ (List.mem_append_left _ (List.mem_append_left _ (List.mem_append_left _ (List.mem_append_left _ (List.mem_append_left _ (List.mem_append_right _ h))))))) rfl 0 (by omega) d0 0 (by decide) (List.mem_of_getElem? (i := 1) rfl) rfl (v := .ref (gw_ad w 7)) rfl dX6_lighter_1 ?_
  refine g_get (pc := 4) hX (ci := 4) (fun _ h => List.mem_cons_of_mem _ (List.mem_append_left _ (List.mem_append_left _ (List.mem_append_left _ (List.mem_append_left _ (List.mem_append_right _ h)))))) rfl 7 (by omega) e0 3 (by decide) (List.mem_of_getElem? (i := 2) rfl) rfl (v := .ref (gw_ad w 18)) rfl dX6_lighter_4 ?_
  refine g_iload_n (pc := 7) hX 1 rfl dX6_lighter_7 ?_
  refine g_callV1 (pc := 8) (ci := 5) (As := [vI (p)]) (st2 := []) hX 18 (by omega) e11 rfl (c_X5_has (row := p) (by omega) (by omega) e11 e12 (by first | assumption | exact inI_mk (by omega) (by omega)) (by first | assumption | exact inI_mk (by omega) (by omega))) gX6_lighter_X5_has (n := 1) (hw := rfl) (hrc := rfl) (hrs := rfl) (hd := by decide +kernel) (hR := ⟨Nat.le_of_ble_eq_true rfl, Nat.le_of_ble_eq_true rfl⟩) (hn := rfl) (hst := rfl) (hsum := Nat.le_of_ble_eq_true rfl) (hdg := dX6_lighter_8) ?_
  rintro _ S9 ⟨rfl, e9⟩
  rw [e9]
  clear e9 S9
  refine g_at (pc2 := 11) rfl rfl (st2 := [vI (bz (decide (0 ≤ p ∧ p < nP)))]) rfl (S2 := S) rfl ?_
  refine g_bif_ne (pc := 11) (tgt := 17) hX dX6_lighter_11 (by decide) (fun c_11 => ?_) (fun c_11 => ?_)
  · skip
    have hidx := of_decide_eq_true c_11
    have hpr := hPr p hidx.1 hidx.2
    have hp4 := hpr.2.2.2.2.1
    have hCz := hB.1 (P0 p 4) hp4.1 hp4.2
    refine g_aload_n (pc := 17) hX 0 rfl dX6_lighter_17 ?_
    refine g_aload_n (pc := 18) hX 0 rfl dX6_lighter_18 ?_
    refine g_get (pc := 19) hX (ci := 6) (fun _ h => List.mem_cons_of_mem _ (List.mem_append_left _ (List.mem_append_left _ (List.mem_append_left _ (List.mem_append_left _ (List.mem_append_left _ (List.mem_append_right _ h))))))) rfl 0 (by omega) d0 0 (by decide) (List.mem_of_getElem? (i := 1) rfl) rfl (v := .ref (gw_ad w 7)) rfl dX6_lighter_19 ?_
    refine g_get (pc := 22) hX (ci := 4) (fun _ h => List.mem_cons_of_mem _ (List.mem_append_left _ (List.mem_append_left _ (List.mem_append_left _ (List.mem_append_left _ (List.mem_append_right _ h)))))) rfl 7 (by omega) e0 3 (by decide) (List.mem_of_getElem? (i := 2) rfl) rfl (v := .ref (gw_ad w 18)) rfl dX6_lighter_22 ?_
    refine g_iload_n (pc := 25) hX 1 rfl dX6_lighter_25 ?_
    refine g_iconst (pc := 26) hX dX6_lighter_26 ?_
    refine g_callV1 (pc := 27) (ci := 5) (As := [vI (p), vI (4)]) (st2 := [.ref (gw_ad w 0)]) hX 18 (by omega) e11 rfl (c_X5_cell (row := p) (col := 4) (by omega) (by omega) e11 e12 (by decide) (by decide) (by first | assumption | exact inI_mk (by omega) (by omega)) (by first | assumption | exact inI_mk (by omega) (by omega)) (by first | assumption | exact inI_mk (by omega) (by omega)) (by first | assumption | exact inI_mk (by omega) (by omega))) gX6_lighter_X5_cell (n := 2) (hw := rfl) (hrc := rfl) (hrs := rfl) (hd := by decide +kernel) (hR := ⟨Nat.le_of_ble_eq_true rfl, Nat.le_of_ble_eq_true rfl⟩) (hn := rfl) (hst := rfl) (hsum := Nat.le_of_ble_eq_true rfl) (hdg := dX6_lighter_27) ?_
    rintro _ S9 ⟨rfl, e9⟩
    rw [e9]
    clear e9 S9
    rw [tcell_in (by omega) (by omega) (by omega) (by omega)]
    refine g_at (pc2 := 30) rfl rfl (st2 := [vI (P0 p 4), .ref (gw_ad w 0)]) rfl (S2 := S) rfl ?_
    refine g_callV1 (pc := 30) (ci := 6) (As := [vI (P0 p 4)]) (st2 := []) hX 0 (by omega) d0 rfl (c_X6_hasBands (z := P0 p 4) hN hd hO (by omega) (by omega)) gX6_lighter_X6_hasBands (n := 1) (hw := rfl) (hrc := rfl) (hrs := rfl) (hd := by decide +kernel) (hR := ⟨Nat.le_of_ble_eq_true rfl, Nat.le_of_ble_eq_true rfl⟩) (hn := rfl) (hst := rfl) (hsum := Nat.le_of_ble_eq_true rfl) (hdg := dX6_lighter_30) ?_
    rintro _ S9 ⟨rfl, e9⟩
    rw [e9]
    clear e9 S9
    refine g_at (pc2 := 33) rfl rfl (st2 := [vI (bz (decide (0 < C (P0 p 4))))]) rfl (S2 := S) rfl ?_
    refine g_bif_ne (pc := 33) (tgt := 39) hX dX6_lighter_33 (by decide) (fun c_33 => ?_) (fun c_33 => ?_)
    · skip
      have hc1 := of_decide_eq_true c_33
      refine g_aload_n (pc := 39) hX 0 rfl dX6_lighter_39 ?_
      refine g_get (pc := 40) hX (ci := 6) (fun _ h => List.mem_cons_of_mem _ (List.mem_append_left _ (List.mem_append_left _ (List.mem_append_left _ (List.mem_append_left _ (List.mem_append_left _ (List.mem_append_right _ h))))))) rfl 0 (by omega) d0 7 (by decide) (List.mem_of_getElem? (i := 5) rfl) rfl (v := .ref (gw_ad w 5)) rfl dX6_lighter_40 ?_
      refine g_iconst (pc := 43) hX dX6_lighter_43 ?_
      refine g_aload_n (pc := 44) hX 0 rfl dX6_lighter_44 ?_
      refine g_get (pc := 45) hX (ci := 6) (fun _ h => List.mem_cons_of_mem _ (List.mem_append_left _ (List.mem_append_left _ (List.mem_append_left _ (List.mem_append_left _ (List.mem_append_left _ (List.mem_append_right _ h))))))) rfl 0 (by omega) d0 0 (by decide) (List.mem_of_getElem? (i := 1) rfl) rfl (v := .ref (gw_ad w 7)) rfl dX6_lighter_45 ?_
      refine g_get (pc := 48) hX (ci := 4) (fun _ h => List.mem_cons_of_mem _ (List.mem_append_left _ (List.mem_append_left _ (List.mem_append_left _ (List.mem_append_left _ (List.mem_append_right _ h)))))) rfl 7 (by omega) e0 3 (by decide) (List.mem_of_getElem? (i := 2) rfl) rfl (v := .ref (gw_ad w 18)) rfl dX6_lighter_48 ?_
      refine g_iload_n (pc := 51) hX 1 rfl dX6_lighter_51 ?_
      refine g_callV0 (pc := 52) (ci := 5) (As := [vI (0), .ref (gw_ad w 18), vI (p)]) (st2 := []) hX 5 (by omega) d5 rfl (c_X5_copyRow (row := 0) (fr := p) (by omega) (by omega) d5 d6 (by omega) (by omega) e11 e12 (by omega) (by omega) (by first | assumption | exact inI_mk (by omega) (by omega)) (by first | assumption | exact inI_mk (by omega) (by omega)) (by omega) (by omega) (by first | assumption | exact inI_mk (by omega) (by omega)) (by first | assumption | exact inI_mk (by omega) (by omega)) (by first | assumption | exact inI_mk (by omega) (by omega)) (by first | assumption | exact inI_mk (by omega) (by omega)) (by omega) (by omega) (by omega) (by decide) (by decide) (by decide)) gX6_lighter_X5_copyRow (n := 3) (hw := rfl) (hrc := rfl) (hrs := rfl) (hd := by decide +kernel) (hR := ⟨Nat.le_of_ble_eq_true rfl, Nat.le_of_ble_eq_true rfl⟩) (hn := rfl) (hst := rfl) (hsum := Nat.le_of_ble_eq_true rfl) (hdg := dX6_lighter_52) ?_
      rintro _ rfl
      refine g_at (pc2 := 55) rfl rfl (st2 := []) rfl (S2 := (va_up S 6 (AI w 22 (fl 22 (fun i j => if i = 0 then (tcell 30 22 P0 p) j else Tr i j))))) rfl ?_
      obtain ⟨U0, eU0⟩ : ∃ f : Int → Int → Int, f = (fun i j => if i = 0 then (tcell 30 22 P0 p) j else Tr i j) := ⟨_, rfl⟩
      refine g_at rfl rfl rfl (S2 := (va_up S 6 (AI w 22 (fl 22 U0)))) (by rw [eU0]) ?_
      have eXb : U0 = crZ (F, g, C, E, L, Q, nR, R, nP, P0, nN, N, nK, K) Tr p := eU0
      clear eU0
      have hXi : rowIn (F, g, C, E, L, Q, nR, R, nP, P0, nN, N, nK, K) U0 0 := by rw [eXb]; exact crZ_ok hD hTi hidx hc1
      have hX0 : 1 ≤ U0 0 0 ∧ U0 0 0 ≤ 100000 := by rw [eXb, crZ_r (F, g, C, E, L, Q, nR, R, nP, P0, nN, N, nK, K) Tr ⟨hidx.1, by omega⟩ ⟨by decide, by decide⟩]; exact (hPr p hidx.1 hidx.2).1
      refine g_aload_n (pc := 55) hX 0 rfl dX6_lighter_55 ?_
      refine g_get (pc := 56) hX (ci := 6) (fun _ h => List.mem_cons_of_mem _ (List.mem_append_left _ (List.mem_append_left _ (List.mem_append_left _ (List.mem_append_left _ (List.mem_append_left _ (List.mem_append_right _ h))))))) rfl 0 (by omega) (up_ne (by decide) d0) 7 (by decide) (List.mem_of_getElem? (i := 5) rfl) rfl (v := .ref (gw_ad w 5)) rfl dX6_lighter_56 ?_
      refine g_iconst (pc := 59) hX dX6_lighter_59 ?_
      refine g_iconst (pc := 60) hX dX6_lighter_60 ?_
      refine g_callV1 (pc := 61) (ci := 5) (As := [vI (0), vI (0)]) (st2 := []) hX 5 (by omega) (up_ne (by decide) d5) rfl (c_X5_cell (row := 0) (col := 0) (by omega) (by omega) (up_ne (by decide) d5) (up_eq _ _ _) (by decide) (by decide) (by first | assumption | exact inI_mk (by omega) (by omega)) (by first | assumption | exact inI_mk (by omega) (by omega)) (by first | assumption | exact inI_mk (by omega) (by omega)) (by first | assumption | exact inI_mk (by omega) (by omega))) gX6_lighter_X5_cell (n := 2) (hw := rfl) (hrc := rfl) (hrs := rfl) (hd := by decide +kernel) (hR := ⟨Nat.le_of_ble_eq_true rfl, Nat.le_of_ble_eq_true rfl⟩) (hn := rfl) (hst := rfl) (hsum := Nat.le_of_ble_eq_true rfl) (hdg := dX6_lighter_61) ?_
      rintro _ S9 ⟨rfl, e9⟩
      rw [e9]
      clear e9 S9
      rw [tcell_in (by omega) (by omega) (by omega) (by omega)]
      refine g_at (pc2 := 64) rfl rfl (st2 := [vI (U0 0 0)]) rfl (S2 := (va_up S 6 (AI w 22 (fl 22 U0)))) rfl ?_
      obtain ⟨rl, erl⟩ : ∃ z : Int, z = U0 0 0 := ⟨_, rfl⟩
      refine g_at rfl rfl (st2 := [vI (rl)]) (by rw [erl]) rfl ?_
      have hrlb : 1 ≤ rl ∧ rl ≤ 100000 := by rw [erl]; exact hX0
      refine g_istore_n (pc := 64) hX (lv2 := [(2, vI (rl)), (0, .ref (gw_ad w 0)), (1, vI (p))]) rfl (by decide) rfl dX6_lighter_64 ?_
      refine g_aload_n (pc := 65) hX 1 rfl dX6_lighter_65 ?_
      refine g_callV1 (pc := 66) (ci := 6) (As := []) (st2 := []) hX 0 (by omega) (up_ne (by decide) d0) rfl (c_X6_trialCharge (Tr := U0) hN (show deskAt w pc j ty B ρ T U0 (F, g, C, E, L, Q, nR, R, nP, P0, nN, N, nK, K) Z (va_up S 6 (AI w 22 (fl 22 U0))) from ⟨⟨(up_ne (by decide) d0), (up_ne (by decide) d1), (up_ne (by decide) d2), (up_ne (by decide) d3), (up_ne (by decide) d4), (up_ne (by decide) d5), (up_eq _ _ _)⟩, ⟨⟨⟨(up_ne (by decide) e0), (up_ne (by decide) e1), (up_ne (by decide) e2)⟩, ⟨(up_ne (by decide) e3), (up_ne (by decide) e4), (up_ne (by decide) e5), (up_ne (by decide) e6), (up_ne (by decide) e7)⟩, ⟨(up_ne (by decide) e8), (up_ne (by decide) e9), (up_ne (by decide) e10)⟩⟩, ⟨⟨(up_ne (by decide) e11), (up_ne (by decide) e12)⟩, ⟨(up_ne (by decide) e13), (up_ne (by decide) e14)⟩, ⟨(up_ne (by decide) e15), (up_ne (by decide) e16)⟩⟩⟩, (pastAt_frame (fun q hq => (up_ne (by omega) rfl)) hpa)⟩) ⟨hD, hty, hBr, hBi, hrd, hXi.2.2.2.2.2.2⟩ hXi) gX6_lighter_X6_trialCharge (n := 0) (hw := rfl) (hrc := rfl) (hrs := rfl) (hd := by decide +kernel) (hR := ⟨Nat.le_of_ble_eq_true rfl, Nat.le_of_ble_eq_true rfl⟩) (hn := rfl) (hst := rfl) (hsum := Nat.le_of_ble_eq_true rfl) (hdg := dX6_lighter_66) ?_
      rintro _ _ ⟨rfl, rfl⟩
      refine g_at (pc2 := 69) rfl rfl (st2 := [vI (prD (F, g, C, E, L, Q, nR, R, nP, P0, nN, N, nK, K) U0 0 0 8)]) rfl (S2 := (va_up (va_up S 6 (AI w 22 (fl 22 U0))) 6 (AI w 22 (fl 22 (prD (F, g, C, E, L, Q, nR, R, nP, P0, nN, N, nK, K) U0 0))))) rfl ?_
      obtain ⟨ch, ech⟩ : ∃ z : Int, z = prD (F, g, C, E, L, Q, nR, R, nP, P0, nN, N, nK, K) U0 0 0 8 := ⟨_, rfl⟩
      refine g_at rfl rfl (st2 := [vI (ch)]) (by rw [ech]) rfl ?_
      have hv := prD_v hD.1 hXi
      have hch : 0 ≤ ch ∧ ch ≤ 1000000000 := by rw [ech]; exact hv.2.2.2.2.1
      have hb0 : ltgo (F, g, C, E, L, Q, nR, R, nP, P0, nN, N, nK, K) ch rl (100000 - 0 : Int).toNat (prD (F, g, C, E, L, Q, nR, R, nP, P0, nN, N, nK, K) U0 0) = ltZ (F, g, C, E, L, Q, nR, R, nP, P0, nN, N, nK, K) Tr p := by rw [ech, erl, ← (prD_v hD.1 hXi).1 0 (by decide) (by decide), eXb]; rfl
      refine g_istore_n (pc := 69) hX (lv2 := [(3, vI (ch)), (2, vI (rl)), (0, .ref (gw_ad w 0)), (1, vI (p))]) rfl (by decide) rfl dX6_lighter_69 ?_
      refine g_iconst (pc := 70) hX dX6_lighter_70 ?_
      refine g_istore (pc := 71) hX (lv2 := [(4, vI (0)), (3, vI (ch)), (2, vI (rl)), (0, .ref (gw_ad w 0)), (1, vI (p))]) (by decide) rfl dX6_lighter_71 ?_
      have loop : ∀ (n0 : Nat) (c : Int) (Y : Int → Int → Int), 0 ≤ c → c ≤ 100000 → 100000 - c < n0 → (rowT (F, g, C, E, L, Q, nR, R, nP, P0, nN, N, nK, K) Y) → (ltgo (F, g, C, E, L, Q, nR, R, nP, P0, nN, N, nK, K) ch rl (100000 - c : Int).toNat Y = ltZ (F, g, C, E, L, Q, nR, R, nP, P0, nN, N, nK, K) Tr p) → G w { frames := 6, cells := 0, slots := 0, locals := 151 } X 6 73 [(4, vI (c)), (0, .ref (gw_ad w 0)), (1, vI (p)), (2, vI (rl)), (3, vI (ch))] [] (va_up S 6 (AT w 22 22 Y)) := by
        intro n0
        induction n0 with
        | zero => intro c Y h1c h2c h3c; exact absurd h3c (by omega)
        | succ n0 ihloop =>
          intro c Y h1c h2c h3c hY hb
          have hc : inI c := inI_mk (by omega) (by omega)
          have hsn := snlZ_b hD.1 hY
          refine g_iload (pc := 73) hX 0 rfl dX6_lighter_73 ?_
          refine g_ldc (pc := 75) hX (z := 100000) (List.mem_of_getElem? (i := 6) rfl) (by decide +kernel) dX6_lighter_75 ?_
          refine g_icmp_ge (pc := 77) (tgt := 133) hX (by first | assumption | exact inI_mk (by omega) (by omega)) (by first | assumption | exact inI_mk (by omega) (by omega)) dX6_lighter_77 (by decide) (fun c_77 => ?_) (fun c_77 => ?_)
          · skip
            refine g_ldc (pc := 133) hX (z := -1000009) (List.mem_of_getElem? (i := 7) rfl) (by decide +kernel) dX6_lighter_133 ?_
            refine g_iret (pc := 135) hX hR dX6_lighter_135 ?_
            rw [show (100000 - c : Int).toNat = 0 by omega] at hb
            exact (if_pos (hidx)).mpr ((if_pos (hc1)).mpr (⟨vI_c (hb), Y, hY.2.2.2.2.2.2.2, ⟨⟨⟨(up_ne (by decide) d0), (up_ne (by decide) d1), (up_ne (by decide) d2), (up_ne (by decide) d3), (up_ne (by decide) d4), (up_ne (by decide) d5), (up_eq _ _ _)⟩, ⟨⟨⟨(up_ne (by decide) e0), (up_ne (by decide) e1), (up_ne (by decide) e2)⟩, ⟨(up_ne (by decide) e3), (up_ne (by decide) e4), (up_ne (by decide) e5), (up_ne (by decide) e6), (up_ne (by decide) e7)⟩, ⟨(up_ne (by decide) e8), (up_ne (by decide) e9), (up_ne (by decide) e10)⟩⟩, ⟨⟨(up_ne (by decide) e11), (up_ne (by decide) e12)⟩, ⟨(up_ne (by decide) e13), (up_ne (by decide) e14)⟩, ⟨(up_ne (by decide) e15), (up_ne (by decide) e16)⟩⟩⟩, pastAt_frame (fun q hq => (up_ne (by omega) rfl)) hpa⟩, fun q hq => (up_ne (by omega) rfl)⟩⟩))
          · skip
            refine g_aload_n (pc := 80) hX 1 rfl dX6_lighter_80 ?_
            refine g_get (pc := 81) hX (ci := 6) (fun _ h => List.mem_cons_of_mem _ (List.mem_append_left _ (List.mem_append_left _ (List.mem_append_left _ (List.mem_append_left _ (List.mem_append_left _ (List.mem_append_right _ h))))))) rfl 0 (by omega) (up_ne (by decide) d0) 0 (by decide) (List.mem_of_getElem? (i := 1) rfl) rfl (v := .ref (gw_ad w 7)) rfl dX6_lighter_81 ?_
            refine g_aload_n (pc := 84) hX 1 rfl dX6_lighter_84 ?_
            refine g_get (pc := 85) hX (ci := 6) (fun _ h => List.mem_cons_of_mem _ (List.mem_append_left _ (List.mem_append_left _ (List.mem_append_left _ (List.mem_append_left _ (List.mem_append_left _ (List.mem_append_right _ h))))))) rfl 0 (by omega) (up_ne (by decide) d0) 7 (by decide) (List.mem_of_getElem? (i := 5) rfl) rfl (v := .ref (gw_ad w 5)) rfl dX6_lighter_85 ?_
            refine g_iconst (pc := 88) hX dX6_lighter_88 ?_
            refine g_callV1 (pc := 89) (ci := 4) (As := [.ref (gw_ad w 5), vI (0)]) (st2 := []) hX 7 (by omega) (up_ne (by decide) e0) rfl (c_X4_nextLower (b := 7) (D := (F, g, C, E, L, Q, nR, R, nP, P0, nN, N, nK, K)) (row := 0) (by omega) ⟨⟨(up_ne (by decide) e0), (up_ne (by decide) e1), (up_ne (by decide) e2)⟩, ⟨(up_ne (by decide) e3), (up_ne (by decide) e4), (up_ne (by decide) e5), (up_ne (by decide) e6), (up_ne (by decide) e7)⟩, ⟨(up_ne (by decide) e8), (up_ne (by decide) e9), (up_ne (by decide) e10)⟩⟩ hD.1 (by omega) (by omega) (up_ne (by decide) d5) (up_eq _ _ _) (by omega) (by omega) (by first | assumption | exact inI_mk (by omega) (by omega)) (by omega) (by omega) (by have := hY.1; omega) hY.2.2.2.2.1 hY.2.2.2.2.2.2.1 hY.2.2.2.2.2.1) gX6_lighter_X4_nextLower (n := 2) (hw := rfl) (hrc := rfl) (hrs := rfl) (hd := by decide +kernel) (hR := ⟨Nat.le_of_ble_eq_true rfl, Nat.le_of_ble_eq_true rfl⟩) (hn := rfl) (hst := rfl) (hsum := Nat.le_of_ble_eq_true rfl) (hdg := dX6_lighter_89) ?_
            rintro _ S9 ⟨rfl, e9⟩
            rw [e9]
            clear e9 S9
            refine g_at (pc2 := 92) rfl rfl (st2 := [vI (snlZ (F, g, C, E, L, Q, nR, R, nP, P0, nN, N, nK, K) Y 0)]) rfl (S2 := (va_up S 6 (AT w 22 22 Y))) rfl ?_
            obtain ⟨wt, ewt⟩ : ∃ z : Int, z = snlZ (F, g, C, E, L, Q, nR, R, nP, P0, nN, N, nK, K) Y 0 := ⟨_, rfl⟩
            refine g_at rfl rfl (st2 := [vI (wt)]) (by rw [ewt]) rfl ?_
            rw [← ewt] at hsn
            refine g_istore (pc := 92) hX (lv2 := [(5, vI (wt)), (4, vI (c)), (0, .ref (gw_ad w 0)), (1, vI (p)), (2, vI (rl)), (3, vI (ch))]) (by decide) rfl dX6_lighter_92 ?_
            refine g_iload (pc := 94) hX 0 rfl dX6_lighter_94 ?_
            refine g_iconst (pc := 96) hX dX6_lighter_96 ?_
            refine g_icmp_ge (pc := 97) (tgt := 103) hX (by first | assumption | exact inI_mk (by omega) (by omega)) (by first | assumption | exact inI_mk (by omega) (by omega)) dX6_lighter_97 (by decide) (fun c_97 => ?_) (fun c_97 => ?_)
            · skip
              refine g_aload_n (pc := 103) hX 2 rfl dX6_lighter_103 ?_
              refine g_get (pc := 104) hX (ci := 6) (fun _ h => List.mem_cons_of_mem _ (List.mem_append_left _ (List.mem_append_left _ (List.mem_append_left _ (List.mem_append_left _ (List.mem_append_left _ (List.mem_append_right _ h))))))) rfl 0 (by omega) (up_ne (by decide) d0) 7 (by decide) (List.mem_of_getElem? (i := 5) rfl) rfl (v := .ref (gw_ad w 5)) rfl dX6_lighter_104 ?_
              refine g_iconst (pc := 107) hX dX6_lighter_107 ?_
              refine g_iconst (pc := 108) hX dX6_lighter_108 ?_
              refine g_iload (pc := 109) hX 0 rfl dX6_lighter_109 ?_
              refine g_callV0 (pc := 111) (ci := 5) (As := [vI (0), vI (0), vI (wt)]) (st2 := []) hX 5 (by omega) (up_ne (by decide) d5) rfl (c_X5_put (row := 0) (col := 0) (x := wt) (by omega) (by omega) (up_ne (by decide) d5) (up_eq _ _ _) (by decide) (by decide) (by first | assumption | exact inI_mk (by omega) (by omega)) (by first | assumption | exact inI_mk (by omega) (by omega)) (by first | assumption | exact inI_mk (by omega) (by omega)) (by first | assumption | exact inI_mk (by omega) (by omega))) gX6_lighter_X5_put (n := 3) (hw := rfl) (hrc := rfl) (hrs := rfl) (hd := by decide +kernel) (hR := ⟨Nat.le_of_ble_eq_true rfl, Nat.le_of_ble_eq_true rfl⟩) (hn := rfl) (hst := rfl) (hsum := Nat.le_of_ble_eq_true rfl) (hdg := dX6_lighter_111) ?_
              rintro _ rfl
              rw [tput_in (by omega) (by omega) (by omega) (by omega)]
              refine g_at (pc2 := 114) rfl rfl (st2 := []) rfl (S2 := (va_up (va_up S 6 (AT w 22 22 Y)) 6 (AI w 22 (fl 22 (upd2 Y 0 0 wt))))) rfl ?_
              have hr3 := rowT_put hY (x := 0) (y := wt) (by omega) (by omega) (fun z => absurd rfl z)
              refine g_aload_n (pc := 114) hX 2 rfl dX6_lighter_114 ?_
              refine g_callV1 (pc := 115) (ci := 6) (As := []) (st2 := []) hX 0 (by omega) (up_ne (by decide) (up_ne (by decide) d0)) rfl (c_X6_trialCharge (Tr := (upd2 Y 0 0 wt)) hN (show deskAt w pc j ty B ρ T (upd2 Y 0 0 wt) (F, g, C, E, L, Q, nR, R, nP, P0, nN, N, nK, K) Z (va_up (va_up S 6 (AT w 22 22 Y)) 6 (AI w 22 (fl 22 (upd2 Y 0 0 wt)))) from ⟨⟨(up_ne (by decide) (up_ne (by decide) d0)), (up_ne (by decide) (up_ne (by decide) d1)), (up_ne (by decide) (up_ne (by decide) d2)), (up_ne (by decide) (up_ne (by decide) d3)), (up_ne (by decide) (up_ne (by decide) d4)), (up_ne (by decide) (up_ne (by decide) d5)), (up_eq _ _ _)⟩, ⟨⟨⟨(up_ne (by decide) (up_ne (by decide) e0)), (up_ne (by decide) (up_ne (by decide) e1)), (up_ne (by decide) (up_ne (by decide) e2))⟩, ⟨(up_ne (by decide) (up_ne (by decide) e3)), (up_ne (by decide) (up_ne (by decide) e4)), (up_ne (by decide) (up_ne (by decide) e5)), (up_ne (by decide) (up_ne (by decide) e6)), (up_ne (by decide) (up_ne (by decide) e7))⟩, ⟨(up_ne (by decide) (up_ne (by decide) e8)), (up_ne (by decide) (up_ne (by decide) e9)), (up_ne (by decide) (up_ne (by decide) e10))⟩⟩, ⟨⟨(up_ne (by decide) (up_ne (by decide) e11)), (up_ne (by decide) (up_ne (by decide) e12))⟩, ⟨(up_ne (by decide) (up_ne (by decide) e13)), (up_ne (by decide) (up_ne (by decide) e14))⟩, ⟨(up_ne (by decide) (up_ne (by decide) e15)), (up_ne (by decide) (up_ne (by decide) e16))⟩⟩⟩, (pastAt_frame (fun q hq => (up_ne (by omega) (up_ne (by omega) rfl))) hpa)⟩) ⟨hD, hty, hBr, hBi, hrd, hr3.1.2.2.2.2.2.2⟩ hr3.1) gX6_lighter_X6_trialCharge (n := 0) (hw := rfl) (hrc := rfl) (hrs := rfl) (hd := by decide +kernel) (hR := ⟨Nat.le_of_ble_eq_true rfl, Nat.le_of_ble_eq_true rfl⟩) (hn := rfl) (hst := rfl) (hsum := Nat.le_of_ble_eq_true rfl) (hdg := dX6_lighter_115) ?_
              rintro _ _ ⟨rfl, rfl⟩
              refine g_at (pc2 := 118) rfl rfl (st2 := [vI (prD (F, g, C, E, L, Q, nR, R, nP, P0, nN, N, nK, K) (upd2 Y 0 0 wt) 0 0 8)]) rfl (S2 := (va_up (va_up (va_up S 6 (AT w 22 22 Y)) 6 (AI w 22 (fl 22 (upd2 Y 0 0 wt)))) 6 (AI w 22 (fl 22 (prD (F, g, C, E, L, Q, nR, R, nP, P0, nN, N, nK, K) (upd2 Y 0 0 wt) 0))))) rfl ?_
              obtain ⟨ch2, ech2⟩ : ∃ z : Int, z = prD (F, g, C, E, L, Q, nR, R, nP, P0, nN, N, nK, K) (upd2 Y 0 0 wt) 0 0 8 := ⟨_, rfl⟩
              refine g_at rfl rfl (st2 := [vI (ch2)]) (by rw [ech2]) rfl ?_
              have hv3 := prD_v hD.1 hr3.1
              have hch2 : 0 ≤ ch2 ∧ ch2 ≤ 1000000000 := by rw [ech2]; exact hv3.2.2.2.2.1
              rw [ech2] at hch2
              refine g_iload_n (pc := 118) hX 5 rfl dX6_lighter_118 ?_
              refine g_icmp_ge (pc := 119) (tgt := 127) hX (by first | assumption | exact inI_mk (by omega) (by omega)) (by first | assumption | exact inI_mk (by omega) (by omega)) dX6_lighter_119 (by decide) (fun c_119 => ?_) (fun c_119 => ?_)
              · skip
                refine g_iinc (pc := 127) hX (lv2 := [(4, vI (c + 1)), (5, vI (wt)), (0, .ref (gw_ad w 0)), (1, vI (p)), (2, vI (rl)), (3, vI (ch))]) 1 rfl (by decide) rfl dX6_lighter_127 ?_
                refine g_goto (pc := 130) (tgt := 73) hX dX6_lighter_130 (by decide) ?_
                refine g_sub (lv2 := [(4, vI (c + 1)), (0, .ref (gw_ad w 0)), (1, vI (p)), (2, vI (rl)), (3, vI (ch))]) [0, 2, 3, 4, 5] rfl ?_
                refine g_at rfl (lv2 := [(4, vI (c + 1)), (0, .ref (gw_ad w 0)), (1, vI (p)), (2, vI (rl)), (3, vI (ch))]) (rfl) rfl (S2 := (va_up S 6 (AT w 22 22 (prD (F, g, C, E, L, Q, nR, R, nP, P0, nN, N, nK, K) (upd2 Y 0 0 wt) 0)))) (by rw [up_up, up_up]) ?_
                exact ihloop (c + 1) ((prD (F, g, C, E, L, Q, nR, R, nP, P0, nN, N, nK, K) (upd2 Y 0 0 wt) 0)) (by omega) (by omega) (by omega) (rowT_pr hD.1 hr3.1 hr3.2) (by rw [show (100000 - c : Int).toNat = (100000 - (c + 1) : Int).toNat + 1 by omega] at hb; rw [← hb]; unfold ltgo; rw [← ewt, if_neg (by omega), if_neg (by omega)]; cases (100000 - (c + 1) : Int).toNat <;> rfl)
              · skip
                refine g_iload_n (pc := 122) hX 4 rfl dX6_lighter_122 ?_
                refine g_iload (pc := 123) hX 0 rfl dX6_lighter_123 ?_
                refine g_isub (pc := 125) hX dX6_lighter_125 ?_
                refine g_iret (pc := 126) hX hR dX6_lighter_126 ?_
                rw [show (100000 - c : Int).toNat = (100000 - (c + 1) : Int).toNat + 1 by omega] at hb
                have hb2 : rl - wt = ltZ (F, g, C, E, L, Q, nR, R, nP, P0, nN, N, nK, K) Tr p := by
                  rw [← hb]
                  unfold ltgo
                  rw [← ewt, if_neg (by omega), if_pos (by rw [← ech2]; exact c_119)]
                exact (if_pos (hidx)).mpr ((if_pos (hc1)).mpr (⟨vI_c hb2, _, hv3.2.2.2.2.2.2.2.2.1, ⟨⟨⟨(up_ne (by decide) (up_ne (by decide) (up_ne (by decide) d0))), (up_ne (by decide) (up_ne (by decide) (up_ne (by decide) d1))), (up_ne (by decide) (up_ne (by decide) (up_ne (by decide) d2))), (up_ne (by decide) (up_ne (by decide) (up_ne (by decide) d3))), (up_ne (by decide) (up_ne (by decide) (up_ne (by decide) d4))), (up_ne (by decide) (up_ne (by decide) (up_ne (by decide) d5))), (up_eq _ _ _)⟩, ⟨⟨⟨(up_ne (by decide) (up_ne (by decide) (up_ne (by decide) e0))), (up_ne (by decide) (up_ne (by decide) (up_ne (by decide) e1))), (up_ne (by decide) (up_ne (by decide) (up_ne (by decide) e2)))⟩, ⟨(up_ne (by decide) (up_ne (by decide) (up_ne (by decide) e3))), (up_ne (by decide) (up_ne (by decide) (up_ne (by decide) e4))), (up_ne (by decide) (up_ne (by decide) (up_ne (by decide) e5))), (up_ne (by decide) (up_ne (by decide) (up_ne (by decide) e6))), (up_ne (by decide) (up_ne (by decide) (up_ne (by decide) e7)))⟩, ⟨(up_ne (by decide) (up_ne (by decide) (up_ne (by decide) e8))), (up_ne (by decide) (up_ne (by decide) (up_ne (by decide) e9))), (up_ne (by decide) (up_ne (by decide) (up_ne (by decide) e10)))⟩⟩, ⟨⟨(up_ne (by decide) (up_ne (by decide) (up_ne (by decide) e11))), (up_ne (by decide) (up_ne (by decide) (up_ne (by decide) e12)))⟩, ⟨(up_ne (by decide) (up_ne (by decide) (up_ne (by decide) e13))), (up_ne (by decide) (up_ne (by decide) (up_ne (by decide) e14)))⟩, ⟨(up_ne (by decide) (up_ne (by decide) (up_ne (by decide) e15))), (up_ne (by decide) (up_ne (by decide) (up_ne (by decide) e16)))⟩⟩⟩, pastAt_frame (fun q hq => (up_ne (by omega) (up_ne (by omega) (up_ne (by omega) rfl)))) hpa⟩, fun q hq => (up_ne (by omega) (up_ne (by omega) (up_ne (by omega) rfl)))⟩⟩))
            · skip
              refine g_ldc (pc := 100) hX (z := -1000009) (List.mem_of_getElem? (i := 7) rfl) (by decide +kernel) dX6_lighter_100 ?_
              refine g_iret (pc := 102) hX hR dX6_lighter_102 ?_
              rw [show (100000 - c : Int).toNat = (100000 - (c + 1) : Int).toNat + 1 by omega] at hb
              have hb2 : -1000009 = ltZ (F, g, C, E, L, Q, nR, R, nP, P0, nN, N, nK, K) Tr p := by rw [← hb]; exact (if_pos (by rw [← ewt]; exact c_97)).symm
              exact (if_pos (hidx)).mpr ((if_pos (hc1)).mpr (⟨vI_c hb2, Y, hY.2.2.2.2.2.2.2, ⟨⟨⟨(up_ne (by decide) d0), (up_ne (by decide) d1), (up_ne (by decide) d2), (up_ne (by decide) d3), (up_ne (by decide) d4), (up_ne (by decide) d5), (up_eq _ _ _)⟩, ⟨⟨⟨(up_ne (by decide) e0), (up_ne (by decide) e1), (up_ne (by decide) e2)⟩, ⟨(up_ne (by decide) e3), (up_ne (by decide) e4), (up_ne (by decide) e5), (up_ne (by decide) e6), (up_ne (by decide) e7)⟩, ⟨(up_ne (by decide) e8), (up_ne (by decide) e9), (up_ne (by decide) e10)⟩⟩, ⟨⟨(up_ne (by decide) e11), (up_ne (by decide) e12)⟩, ⟨(up_ne (by decide) e13), (up_ne (by decide) e14)⟩, ⟨(up_ne (by decide) e15), (up_ne (by decide) e16)⟩⟩⟩, pastAt_frame (fun q hq => (up_ne (by omega) rfl)) hpa⟩, fun q hq => (up_ne (by omega) rfl)⟩⟩))
      refine g_sub (lv2 := [(4, vI (0)), (0, .ref (gw_ad w 0)), (1, vI (p)), (2, vI (rl)), (3, vI (ch))]) [0, 3, 4, 2, 1] rfl ?_
      refine g_at rfl (lv2 := [(4, vI (0)), (0, .ref (gw_ad w 0)), (1, vI (p)), (2, vI (rl)), (3, vI (ch))]) (rfl) rfl (S2 := (va_up S 6 (AT w 22 22 (prD (F, g, C, E, L, Q, nR, R, nP, P0, nN, N, nK, K) U0 0)))) (by rw [up_up]) ?_
      exact loop ((100000 : Int) - 0 + 1).toNat 0 (prD (F, g, C, E, L, Q, nR, R, nP, P0, nN, N, nK, K) U0 0) (by omega) (by omega) (by omega) (rowT_pr hD.1 hXi hX0) (hb0)
    · skip
      refine g_ldc (pc := 36) hX (z := -1000002) (List.mem_of_getElem? (i := 4) rfl) (by decide +kernel) dX6_lighter_36 ?_
      refine g_iret (pc := 38) hX hR dX6_lighter_38 ?_
      try simp only [decide_eq_true_eq, decide_eq_false_iff_not] at c_11 c_33
      exact (if_pos ((show 0 ≤ p ∧ p < nP by omega))).mpr ((if_neg (show ¬ 0 < C (P0 p 4) by omega)).mpr (⟨rfl, rfl⟩))
  · skip
    refine g_ldc (pc := 14) hX (z := -1000001) (List.mem_of_getElem? (i := 3) rfl) (by decide +kernel) dX6_lighter_14 ?_
    refine g_iret (pc := 16) hX hR dX6_lighter_16 ?_
    try simp only [decide_eq_true_eq, decide_eq_false_iff_not] at c_11
    exact (if_neg (show ¬ (0 ≤ p ∧ p < nP) by omega)).mpr (⟨rfl, rfl⟩)

set_option maxHeartbeats 4000000 in
set_option maxRecDepth 100000 in
theorem c_X6_shorter {w : gW} {l : Launch} {S : Nat → va_E} {pc j : Nat} {ty : Int} {B ρ T : Int → Int} {Tr : Int → Int → Int} {D : SD} {Z : Nat → SD} (hN : gw_N w = 92) (hd : deskAt w pc j ty B ρ T Tr D Z S) (hO : deskOK ty B ρ Tr D) {p x : Int} (hp : inI p) (hx : inI x) :
    GM1 w l yX6_shorter wsX6_shorter { frames := 6, cells := 0, slots := 0, locals := 151 } [.ref (gw_ad w 0), vI (p), vI (x)] S
      (fun v S' => if (0 ≤ p ∧ p < snP D) ∧ 1 ≤ x ∧ x ≤ 3 then (if 0 < sC D (sP D p 4) then v = vI (shZ D Tr p x) ∧ ∃ Tr' : Int → Int → Int, (∀ i j, inI (Tr' i j)) ∧ POST w S pc j ty B ρ T Tr' D Z S' else v = vI (-1000002) ∧ S' = S) else v = vI (-1000001) ∧ S' = S) := by
  refine GM.start (own := RX6) (n := "shorter") (d := "(II)I") (by decide) rfl (Nat.le_of_ble_eq_true rfl) ?_
  intro X hX hR hXl
  subst hXl
  refine g_at rfl (lv2 := [(0, .ref (gw_ad w 0)), (1, vI (p)), (2, vI (x))]) rfl rfl rfl ?_
  obtain ⟨⟨d0, d1, d2, d3, d4, d5, d6⟩, ⟨hS0, hB0⟩, hpa⟩ := id hd
  obtain ⟨F, g, C, E, L, Q, nR, R, nP, P0, nN, N, nK, K⟩ := D
  obtain ⟨⟨e0, e1, e2⟩, ⟨e3, e4, e5, e6, e7⟩, ⟨e8, e9, e10⟩⟩ := (id hS0)
  obtain ⟨⟨e11, e12⟩, ⟨e13, e14⟩, ⟨e15, e16⟩⟩ := (id hB0)
  change S 7 = .inr (4, [.ref (gw_ad w 8), .ref (gw_ad w 10), .ref (gw_ad w 15), .ref (gw_ad w 18), .ref (gw_ad w 20), .ref (gw_ad w 22)]) at e0
  change S 8 = .inr (3, [.ref (gw_ad w 9), vI (g 0), vI (g 1), vI (g 2), vI (g 3), vI (g 4), vI (g 5), vI (g 6), vI (g 7), vI (g 8), vI (g 9)]) at e1
  change S 9 = AI w 8 (F) at e2
  change S 10 = .inr (0, [.ref (gw_ad w 11), .ref (gw_ad w 12), .ref (gw_ad w 13), .ref (gw_ad w 14)]) at e3
  change S 11 = AI w 4 (C) at e4
  change S 12 = AI w 24 ((fl 6 L)) at e5
  change S 13 = AI w 24 ((fl 6 Q)) at e6
  change S 14 = AI w 4 (E) at e7
  change S 15 = .inr (2, [.ref (gw_ad w 16)]) at e8
  change S 16 = .inr (5, [vI (8), vI (63), .ref (gw_ad w 17), vI (nR)]) at e9
  change S 17 = AI w 504 (fl 63 R) at e10
  change S 18 = .inr (5, [vI (30), vI (22), .ref (gw_ad w 19), vI (nP)]) at e11
  change S 19 = AI w 660 (fl 22 P0) at e12
  change S 20 = .inr (5, [vI (20), vI (6), .ref (gw_ad w 21), vI (nN)]) at e13
  change S 21 = AI w 120 (fl 6 N) at e14
  change S 22 = .inr (5, [vI (20), vI (22), .ref (gw_ad w 23), vI (nK)]) at e15
  change S 23 = AI w 440 (fl 22 K) at e16
  obtain ⟨hD, hty, hBr, hBi, hrd, hTi⟩ := id hO
  obtain ⟨⟨⟨hF, hg⟩, hB, hU, hRR⟩, ⟨hnP, hPi, hPr⟩, ⟨hnN, hNi, hNr⟩, ⟨hnK, hKi, hKr⟩, hg3⟩ := id hD
  change scF F at hF
  change scG g at hg
  change bdOK C E L Q at hB
  change ruOK nR R at hU
  change ∀ i j, inI (R i j) at hRR
  change 0 ≤ nP ∧ nP ≤ 30 at hnP
  change ∀ i j, inI (P0 i j) at hPi
  change ∀ p, 0 ≤ p → p < nP → rowOK P0 p at hPr
  change 0 ≤ nN ∧ nN ≤ 20 at hnN
  change ∀ i j, inI (N i j) at hNi
  change nK = nN at hnK
  change ∀ i j, inI (K i j) at hKi
  change ∀ n, 0 ≤ n → n < nN → rowOK K n at hKr
  have hnRb : 0 ≤ nR ∧ nR ≤ 8 := hU.1
  refine g_aload_n (pc := 0) hX 0 rfl dX6_shorter_0 ?_
  refine g_get (pc := 1) hX (ci := 6) (fun _ h => List.mem_cons_of_mem _ (List.mem_append_left _ (List.mem_append_left _ (List.mem_append_left _ (List.mem_append_left _ (List.mem_append_left _ (List.mem_append_right _ h))))))) rfl 0 (by omega) d0 0 (by decide) (List.mem_of_getElem? (i := 1) rfl) rfl (v := .ref (gw_ad w 7)) rfl dX6_shorter_1 ?_
  refine g_get (pc := 4) hX (ci := 4) (fun _ h => List.mem_cons_of_mem _ (List.mem_append_left _ (List.mem_append_left _ (List.mem_append_left _ (List.mem_append_left _ (List.mem_append_right _ h)))))) rfl 7 (by omega) e0 3 (by decide) (List.mem_of_getElem? (i := 2) rfl) rfl (v := .ref (gw_ad w 18)) rfl dX6_shorter_4 ?_
  refine g_iload_n (pc := 7) hX 1 rfl dX6_shorter_7 ?_
  refine g_callV1 (pc := 8) (ci := 5) (As := [vI (p)]) (st2 := []) hX 18 (by omega) e11 rfl (c_X5_has (row := p) (by omega) (by omega) e11 e12 (by first | assumption | exact inI_mk (by omega) (by omega)) (by first | assumption | exact inI_mk (by omega) (by omega))) gX6_shorter_X5_has (n := 1) (hw := rfl) (hrc := rfl) (hrs := rfl) (hd := by decide +kernel) (hR := ⟨Nat.le_of_ble_eq_true rfl, Nat.le_of_ble_eq_true rfl⟩) (hn := rfl) (hst := rfl) (hsum := Nat.le_of_ble_eq_true rfl) (hdg := dX6_shorter_8) ?_
  rintro _ S9 ⟨rfl, e9⟩
  rw [e9]
  clear e9 S9
  refine g_at (pc2 := 11) rfl rfl (st2 := [vI (bz (decide (0 ≤ p ∧ p < nP)))]) rfl (S2 := S) rfl ?_
  refine g_bif_eq (pc := 11) (tgt := 23) hX dX6_shorter_11 (by decide) (fun c_11 => ?_) (fun c_11 => ?_)
  · skip
    refine g_ldc (pc := 23) hX (z := -1000001) (List.mem_of_getElem? (i := 3) rfl) (by decide +kernel) dX6_shorter_23 ?_
    refine g_iret (pc := 25) hX hR dX6_shorter_25 ?_
    try simp only [decide_eq_true_eq, decide_eq_false_iff_not] at c_11
    exact (if_neg (show ¬ ((0 ≤ p ∧ p < nP) ∧ 1 ≤ x ∧ x ≤ 3) by omega)).mpr (⟨rfl, rfl⟩)
  · skip
    have hidx := of_decide_eq_true c_11
    have hpr := hPr p hidx.1 hidx.2
    have hp4 := hpr.2.2.2.2.1
    have hCz := hB.1 (P0 p 4) hp4.1 hp4.2
    refine g_iload_n (pc := 14) hX 2 rfl dX6_shorter_14 ?_
    refine g_iconst (pc := 15) hX dX6_shorter_15 ?_
    refine g_iconst (pc := 16) hX dX6_shorter_16 ?_
    refine g_callT1 (pc := 17) (As := [vI (x), vI (1), vI (3)]) (st2 := []) hX (c_X6_isWithin (x := x) (lo := 1) (hi := 3) (by first | assumption | exact inI_mk (by omega) (by omega)) (by first | assumption | exact inI_mk (by omega) (by omega)) (by first | assumption | exact inI_mk (by omega) (by omega))) gX6_shorter_X6_isWithin (n := 3) (hw := rfl) (hrc := rfl) (hrs := rfl) (hd := by decide +kernel) (hR := ⟨Nat.le_of_ble_eq_true rfl, Nat.le_of_ble_eq_true rfl⟩) (hn := rfl) (hst := rfl) (hsum := Nat.le_of_ble_eq_true rfl) (hdg := dX6_shorter_17) ?_
    rintro _ S9 ⟨rfl, e9⟩
    rw [e9]
    clear e9 S9
    refine g_at (pc2 := 20) rfl rfl (st2 := [vI (bz (decide (1 ≤ x ∧ x ≤ 3)))]) rfl (S2 := S) rfl ?_
    refine g_bif_ne (pc := 20) (tgt := 26) hX dX6_shorter_20 (by decide) (fun c_20 => ?_) (fun c_20 => ?_)
    · skip
      have hx1 := of_decide_eq_true c_20
      refine g_aload_n (pc := 26) hX 0 rfl dX6_shorter_26 ?_
      refine g_aload_n (pc := 27) hX 0 rfl dX6_shorter_27 ?_
      refine g_get (pc := 28) hX (ci := 6) (fun _ h => List.mem_cons_of_mem _ (List.mem_append_left _ (List.mem_append_left _ (List.mem_append_left _ (List.mem_append_left _ (List.mem_append_left _ (List.mem_append_right _ h))))))) rfl 0 (by omega) d0 0 (by decide) (List.mem_of_getElem? (i := 1) rfl) rfl (v := .ref (gw_ad w 7)) rfl dX6_shorter_28 ?_
      refine g_get (pc := 31) hX (ci := 4) (fun _ h => List.mem_cons_of_mem _ (List.mem_append_left _ (List.mem_append_left _ (List.mem_append_left _ (List.mem_append_left _ (List.mem_append_right _ h)))))) rfl 7 (by omega) e0 3 (by decide) (List.mem_of_getElem? (i := 2) rfl) rfl (v := .ref (gw_ad w 18)) rfl dX6_shorter_31 ?_
      refine g_iload_n (pc := 34) hX 1 rfl dX6_shorter_34 ?_
      refine g_iconst (pc := 35) hX dX6_shorter_35 ?_
      refine g_callV1 (pc := 36) (ci := 5) (As := [vI (p), vI (4)]) (st2 := [.ref (gw_ad w 0)]) hX 18 (by omega) e11 rfl (c_X5_cell (row := p) (col := 4) (by omega) (by omega) e11 e12 (by decide) (by decide) (by first | assumption | exact inI_mk (by omega) (by omega)) (by first | assumption | exact inI_mk (by omega) (by omega)) (by first | assumption | exact inI_mk (by omega) (by omega)) (by first | assumption | exact inI_mk (by omega) (by omega))) gX6_shorter_X5_cell (n := 2) (hw := rfl) (hrc := rfl) (hrs := rfl) (hd := by decide +kernel) (hR := ⟨Nat.le_of_ble_eq_true rfl, Nat.le_of_ble_eq_true rfl⟩) (hn := rfl) (hst := rfl) (hsum := Nat.le_of_ble_eq_true rfl) (hdg := dX6_shorter_36) ?_
      rintro _ S9 ⟨rfl, e9⟩
      rw [e9]
      clear e9 S9
      rw [tcell_in (by omega) (by omega) (by omega) (by omega)]
      refine g_at (pc2 := 39) rfl rfl (st2 := [vI (P0 p 4), .ref (gw_ad w 0)]) rfl (S2 := S) rfl ?_
      refine g_callV1 (pc := 39) (ci := 6) (As := [vI (P0 p 4)]) (st2 := []) hX 0 (by omega) d0 rfl (c_X6_hasBands (z := P0 p 4) hN hd hO (by omega) (by omega)) gX6_shorter_X6_hasBands (n := 1) (hw := rfl) (hrc := rfl) (hrs := rfl) (hd := by decide +kernel) (hR := ⟨Nat.le_of_ble_eq_true rfl, Nat.le_of_ble_eq_true rfl⟩) (hn := rfl) (hst := rfl) (hsum := Nat.le_of_ble_eq_true rfl) (hdg := dX6_shorter_39) ?_
      rintro _ S9 ⟨rfl, e9⟩
      rw [e9]
      clear e9 S9
      refine g_at (pc2 := 42) rfl rfl (st2 := [vI (bz (decide (0 < C (P0 p 4))))]) rfl (S2 := S) rfl ?_
      refine g_bif_ne (pc := 42) (tgt := 48) hX dX6_shorter_42 (by decide) (fun c_42 => ?_) (fun c_42 => ?_)
      · skip
        have hc1 := of_decide_eq_true c_42
        refine g_aload_n (pc := 48) hX 0 rfl dX6_shorter_48 ?_
        refine g_get (pc := 49) hX (ci := 6) (fun _ h => List.mem_cons_of_mem _ (List.mem_append_left _ (List.mem_append_left _ (List.mem_append_left _ (List.mem_append_left _ (List.mem_append_left _ (List.mem_append_right _ h))))))) rfl 0 (by omega) d0 7 (by decide) (List.mem_of_getElem? (i := 5) rfl) rfl (v := .ref (gw_ad w 5)) rfl dX6_shorter_49 ?_
        refine g_iconst (pc := 52) hX dX6_shorter_52 ?_
        refine g_aload_n (pc := 53) hX 0 rfl dX6_shorter_53 ?_
        refine g_get (pc := 54) hX (ci := 6) (fun _ h => List.mem_cons_of_mem _ (List.mem_append_left _ (List.mem_append_left _ (List.mem_append_left _ (List.mem_append_left _ (List.mem_append_left _ (List.mem_append_right _ h))))))) rfl 0 (by omega) d0 0 (by decide) (List.mem_of_getElem? (i := 1) rfl) rfl (v := .ref (gw_ad w 7)) rfl dX6_shorter_54 ?_
        refine g_get (pc := 57) hX (ci := 4) (fun _ h => List.mem_cons_of_mem _ (List.mem_append_left _ (List.mem_append_left _ (List.mem_append_left _ (List.mem_append_left _ (List.mem_append_right _ h)))))) rfl 7 (by omega) e0 3 (by decide) (List.mem_of_getElem? (i := 2) rfl) rfl (v := .ref (gw_ad w 18)) rfl dX6_shorter_57 ?_
        refine g_iload_n (pc := 60) hX 1 rfl dX6_shorter_60 ?_
        refine g_callV0 (pc := 61) (ci := 5) (As := [vI (0), .ref (gw_ad w 18), vI (p)]) (st2 := []) hX 5 (by omega) d5 rfl (c_X5_copyRow (row := 0) (fr := p) (by omega) (by omega) d5 d6 (by omega) (by omega) e11 e12 (by omega) (by omega) (by first | assumption | exact inI_mk (by omega) (by omega)) (by first | assumption | exact inI_mk (by omega) (by omega)) (by omega) (by omega) (by first | assumption | exact inI_mk (by omega) (by omega)) (by first | assumption | exact inI_mk (by omega) (by omega)) (by first | assumption | exact inI_mk (by omega) (by omega)) (by first | assumption | exact inI_mk (by omega) (by omega)) (by omega) (by omega) (by omega) (by decide) (by decide) (by decide)) gX6_shorter_X5_copyRow (n := 3) (hw := rfl) (hrc := rfl) (hrs := rfl) (hd := by decide +kernel) (hR := ⟨Nat.le_of_ble_eq_true rfl, Nat.le_of_ble_eq_true rfl⟩) (hn := rfl) (hst := rfl) (hsum := Nat.le_of_ble_eq_true rfl) (hdg := dX6_shorter_61) ?_
        rintro _ rfl
        refine g_at (pc2 := 64) rfl rfl (st2 := []) rfl (S2 := (va_up S 6 (AI w 22 (fl 22 (fun i j => if i = 0 then (tcell 30 22 P0 p) j else Tr i j))))) rfl ?_
        obtain ⟨U0, eU0⟩ : ∃ f : Int → Int → Int, f = (fun i j => if i = 0 then (tcell 30 22 P0 p) j else Tr i j) := ⟨_, rfl⟩
        refine g_at rfl rfl rfl (S2 := (va_up S 6 (AI w 22 (fl 22 U0)))) (by rw [eU0]) ?_
        have eXb : U0 = crZ (F, g, C, E, L, Q, nR, R, nP, P0, nN, N, nK, K) Tr p := eU0
        clear eU0
        have hXi : rowIn (F, g, C, E, L, Q, nR, R, nP, P0, nN, N, nK, K) U0 0 := by rw [eXb]; exact crZ_ok hD hTi hidx hc1
        have hX0 : 1 ≤ U0 0 0 ∧ U0 0 0 ≤ 100000 := by rw [eXb, crZ_r (F, g, C, E, L, Q, nR, R, nP, P0, nN, N, nK, K) Tr ⟨hidx.1, by omega⟩ ⟨by decide, by decide⟩]; exact (hPr p hidx.1 hidx.2).1
        refine g_aload_n (pc := 64) hX 0 rfl dX6_shorter_64 ?_
        refine g_get (pc := 65) hX (ci := 6) (fun _ h => List.mem_cons_of_mem _ (List.mem_append_left _ (List.mem_append_left _ (List.mem_append_left _ (List.mem_append_left _ (List.mem_append_left _ (List.mem_append_right _ h))))))) rfl 0 (by omega) (up_ne (by decide) d0) 7 (by decide) (List.mem_of_getElem? (i := 5) rfl) rfl (v := .ref (gw_ad w 5)) rfl dX6_shorter_65 ?_
        refine g_iconst (pc := 68) hX dX6_shorter_68 ?_
        refine g_iload_n (pc := 69) hX 2 rfl dX6_shorter_69 ?_
        refine g_callV1 (pc := 70) (ci := 5) (As := [vI (0), vI (x)]) (st2 := []) hX 5 (by omega) (up_ne (by decide) d5) rfl (c_X5_cell (row := 0) (col := x) (by omega) (by omega) (up_ne (by decide) d5) (up_eq _ _ _) (by decide) (by decide) (by first | assumption | exact inI_mk (by omega) (by omega)) (by first | assumption | exact inI_mk (by omega) (by omega)) (by first | assumption | exact inI_mk (by omega) (by omega)) (by first | assumption | exact inI_mk (by omega) (by omega))) gX6_shorter_X5_cell (n := 2) (hw := rfl) (hrc := rfl) (hrs := rfl) (hd := by decide +kernel) (hR := ⟨Nat.le_of_ble_eq_true rfl, Nat.le_of_ble_eq_true rfl⟩) (hn := rfl) (hst := rfl) (hsum := Nat.le_of_ble_eq_true rfl) (hdg := dX6_shorter_70) ?_
        rintro _ S9 ⟨rfl, e9⟩
        rw [e9]
        clear e9 S9
        rw [tcell_in (by omega) (by omega) (by omega) (by omega)]
        refine g_at (pc2 := 73) rfl rfl (st2 := [vI (U0 0 x)]) rfl (S2 := (va_up S 6 (AI w 22 (fl 22 U0)))) rfl ?_
        obtain ⟨ln, eln⟩ : ∃ z : Int, z = U0 0 x := ⟨_, rfl⟩
        refine g_at rfl rfl (st2 := [vI (ln)]) (by rw [eln]) rfl ?_
        have hlnb : ln = P0 p x := by rw [eln, eXb, crZ_r (F, g, C, E, L, Q, nR, R, nP, P0, nN, N, nK, K) Tr ⟨hidx.1, by omega⟩ ⟨by omega, by omega⟩]
        have hlb : 1 ≤ ln ∧ ln ≤ 2000 := by rw [hlnb]; rcases (show x = 1 ∨ x = 2 ∨ x = 3 by omega) with h | h | h <;> rw [h] <;> first | exact hpr.2.1 | exact hpr.2.2.1 | exact hpr.2.2.2.1
        refine g_istore_n (pc := 73) hX (lv2 := [(3, vI (ln)), (0, .ref (gw_ad w 0)), (1, vI (p)), (2, vI (x))]) rfl (by decide) rfl dX6_shorter_73 ?_
        refine g_aload_n (pc := 74) hX 1 rfl dX6_shorter_74 ?_
        refine g_callV1 (pc := 75) (ci := 6) (As := []) (st2 := []) hX 0 (by omega) (up_ne (by decide) d0) rfl (c_X6_trialCharge (Tr := U0) hN (show deskAt w pc j ty B ρ T U0 (F, g, C, E, L, Q, nR, R, nP, P0, nN, N, nK, K) Z (va_up S 6 (AI w 22 (fl 22 U0))) from ⟨⟨(up_ne (by decide) d0), (up_ne (by decide) d1), (up_ne (by decide) d2), (up_ne (by decide) d3), (up_ne (by decide) d4), (up_ne (by decide) d5), (up_eq _ _ _)⟩, ⟨⟨⟨(up_ne (by decide) e0), (up_ne (by decide) e1), (up_ne (by decide) e2)⟩, ⟨(up_ne (by decide) e3), (up_ne (by decide) e4), (up_ne (by decide) e5), (up_ne (by decide) e6), (up_ne (by decide) e7)⟩, ⟨(up_ne (by decide) e8), (up_ne (by decide) e9), (up_ne (by decide) e10)⟩⟩, ⟨⟨(up_ne (by decide) e11), (up_ne (by decide) e12)⟩, ⟨(up_ne (by decide) e13), (up_ne (by decide) e14)⟩, ⟨(up_ne (by decide) e15), (up_ne (by decide) e16)⟩⟩⟩, (pastAt_frame (fun q hq => (up_ne (by omega) rfl)) hpa)⟩) ⟨hD, hty, hBr, hBi, hrd, hXi.2.2.2.2.2.2⟩ hXi) gX6_shorter_X6_trialCharge (n := 0) (hw := rfl) (hrc := rfl) (hrs := rfl) (hd := by decide +kernel) (hR := ⟨Nat.le_of_ble_eq_true rfl, Nat.le_of_ble_eq_true rfl⟩) (hn := rfl) (hst := rfl) (hsum := Nat.le_of_ble_eq_true rfl) (hdg := dX6_shorter_75) ?_
        rintro _ _ ⟨rfl, rfl⟩
        refine g_at (pc2 := 78) rfl rfl (st2 := [vI (prD (F, g, C, E, L, Q, nR, R, nP, P0, nN, N, nK, K) U0 0 0 8)]) rfl (S2 := (va_up (va_up S 6 (AI w 22 (fl 22 U0))) 6 (AI w 22 (fl 22 (prD (F, g, C, E, L, Q, nR, R, nP, P0, nN, N, nK, K) U0 0))))) rfl ?_
        obtain ⟨ch, ech⟩ : ∃ z : Int, z = prD (F, g, C, E, L, Q, nR, R, nP, P0, nN, N, nK, K) U0 0 0 8 := ⟨_, rfl⟩
        refine g_at rfl rfl (st2 := [vI (ch)]) (by rw [ech]) rfl ?_
        have hv := prD_v hD.1 hXi
        have hch : 0 ≤ ch ∧ ch ≤ 1000000000 := by rw [ech]; exact hv.2.2.2.2.1
        have hb0 : shgo (F, g, C, E, L, Q, nR, R, nP, P0, nN, N, nK, K) ch x ln (ln - 1 : Int).toNat 1 (prD (F, g, C, E, L, Q, nR, R, nP, P0, nN, N, nK, K) U0 0) = shZ (F, g, C, E, L, Q, nR, R, nP, P0, nN, N, nK, K) Tr p x := by rw [ech, eln, ← (prD_v hD.1 hXi).1 x (by omega) (by omega), eXb]; rfl
        refine g_istore (pc := 78) hX (lv2 := [(4, vI (ch)), (3, vI (ln)), (0, .ref (gw_ad w 0)), (1, vI (p)), (2, vI (x))]) (by decide) rfl dX6_shorter_78 ?_
        refine g_iconst (pc := 80) hX dX6_shorter_80 ?_
        refine g_istore (pc := 81) hX (lv2 := [(5, vI (1)), (4, vI (ch)), (3, vI (ln)), (0, .ref (gw_ad w 0)), (1, vI (p)), (2, vI (x))]) (by decide) rfl dX6_shorter_81 ?_
        have loop : ∀ (n0 : Nat) (c : Int) (Y : Int → Int → Int), 1 ≤ c → c ≤ ln → ln - c < n0 → (rowT (F, g, C, E, L, Q, nR, R, nP, P0, nN, N, nK, K) Y) → (shgo (F, g, C, E, L, Q, nR, R, nP, P0, nN, N, nK, K) ch x ln (ln - c : Int).toNat c Y = shZ (F, g, C, E, L, Q, nR, R, nP, P0, nN, N, nK, K) Tr p x) → G w { frames := 6, cells := 0, slots := 0, locals := 151 } X 6 83 [(5, vI (c)), (0, .ref (gw_ad w 0)), (1, vI (p)), (2, vI (x)), (3, vI (ln)), (4, vI (ch))] [] (va_up S 6 (AT w 22 22 Y)) := by
          intro n0
          induction n0 with
          | zero => intro c Y h1c h2c h3c; exact absurd h3c (by omega)
          | succ n0 ihloop =>
            intro c Y h1c h2c h3c hY hb
            have hc : inI c := inI_mk (by omega) (by omega)
            refine g_iload (pc := 83) hX 0 rfl dX6_shorter_83 ?_
            refine g_iload_n (pc := 85) hX 4 rfl dX6_shorter_85 ?_
            refine g_icmp_ge (pc := 86) (tgt := 120) hX (by first | assumption | exact inI_mk (by omega) (by omega)) (by first | assumption | exact inI_mk (by omega) (by omega)) dX6_shorter_86 (by decide) (fun c_86 => ?_) (fun c_86 => ?_)
            · skip
              refine g_ldc (pc := 120) hX (z := -1000009) (List.mem_of_getElem? (i := 6) rfl) (by decide +kernel) dX6_shorter_120 ?_
              refine g_iret (pc := 122) hX hR dX6_shorter_122 ?_
              rw [show (ln - c : Int).toNat = 0 by omega] at hb
              exact (if_pos (⟨hidx, hx1⟩)).mpr ((if_pos (hc1)).mpr (⟨vI_c hb, Y, hY.2.2.2.2.2.2.2, ⟨⟨⟨(up_ne (by decide) d0), (up_ne (by decide) d1), (up_ne (by decide) d2), (up_ne (by decide) d3), (up_ne (by decide) d4), (up_ne (by decide) d5), (up_eq _ _ _)⟩, ⟨⟨⟨(up_ne (by decide) e0), (up_ne (by decide) e1), (up_ne (by decide) e2)⟩, ⟨(up_ne (by decide) e3), (up_ne (by decide) e4), (up_ne (by decide) e5), (up_ne (by decide) e6), (up_ne (by decide) e7)⟩, ⟨(up_ne (by decide) e8), (up_ne (by decide) e9), (up_ne (by decide) e10)⟩⟩, ⟨⟨(up_ne (by decide) e11), (up_ne (by decide) e12)⟩, ⟨(up_ne (by decide) e13), (up_ne (by decide) e14)⟩, ⟨(up_ne (by decide) e15), (up_ne (by decide) e16)⟩⟩⟩, pastAt_frame (fun q hq => (up_ne (by omega) rfl)) hpa⟩, fun q hq => (up_ne (by omega) rfl)⟩⟩))
            · skip
              have hr3 := rowT_put hY (x := x) (y := ln - c) (by omega) (by omega) (fun z => by omega)
              refine g_aload_n (pc := 89) hX 1 rfl dX6_shorter_89 ?_
              refine g_get (pc := 90) hX (ci := 6) (fun _ h => List.mem_cons_of_mem _ (List.mem_append_left _ (List.mem_append_left _ (List.mem_append_left _ (List.mem_append_left _ (List.mem_append_left _ (List.mem_append_right _ h))))))) rfl 0 (by omega) (up_ne (by decide) d0) 7 (by decide) (List.mem_of_getElem? (i := 5) rfl) rfl (v := .ref (gw_ad w 5)) rfl dX6_shorter_90 ?_
              refine g_iconst (pc := 93) hX dX6_shorter_93 ?_
              refine g_iload_n (pc := 94) hX 3 rfl dX6_shorter_94 ?_
              refine g_iload_n (pc := 95) hX 4 rfl dX6_shorter_95 ?_
              refine g_iload (pc := 96) hX 0 rfl dX6_shorter_96 ?_
              refine g_isub (pc := 98) hX dX6_shorter_98 ?_
              refine g_callV0 (pc := 99) (ci := 5) (As := [vI (0), vI (x), vI (ln - c)]) (st2 := []) hX 5 (by omega) (up_ne (by decide) d5) rfl (c_X5_put (row := 0) (col := x) (x := ln - c) (by omega) (by omega) (up_ne (by decide) d5) (up_eq _ _ _) (by decide) (by decide) (by first | assumption | exact inI_mk (by omega) (by omega)) (by first | assumption | exact inI_mk (by omega) (by omega)) (by first | assumption | exact inI_mk (by omega) (by omega)) (by first | assumption | exact inI_mk (by omega) (by omega))) gX6_shorter_X5_put (n := 3) (hw := rfl) (hrc := rfl) (hrs := rfl) (hd := by decide +kernel) (hR := ⟨Nat.le_of_ble_eq_true rfl, Nat.le_of_ble_eq_true rfl⟩) (hn := rfl) (hst := rfl) (hsum := Nat.le_of_ble_eq_true rfl) (hdg := dX6_shorter_99) ?_
              rintro _ rfl
              rw [tput_in (by omega) (by omega) (by omega) (by omega)]
              refine g_at (pc2 := 102) rfl rfl (st2 := []) rfl (S2 := (va_up (va_up S 6 (AT w 22 22 Y)) 6 (AI w 22 (fl 22 (upd2 Y 0 x (ln - c)))))) rfl ?_
              refine g_aload_n (pc := 102) hX 1 rfl dX6_shorter_102 ?_
              refine g_callV1 (pc := 103) (ci := 6) (As := []) (st2 := []) hX 0 (by omega) (up_ne (by decide) (up_ne (by decide) d0)) rfl (c_X6_trialCharge (Tr := (upd2 Y 0 x (ln - c))) hN (show deskAt w pc j ty B ρ T (upd2 Y 0 x (ln - c)) (F, g, C, E, L, Q, nR, R, nP, P0, nN, N, nK, K) Z (va_up (va_up S 6 (AT w 22 22 Y)) 6 (AI w 22 (fl 22 (upd2 Y 0 x (ln - c))))) from ⟨⟨(up_ne (by decide) (up_ne (by decide) d0)), (up_ne (by decide) (up_ne (by decide) d1)), (up_ne (by decide) (up_ne (by decide) d2)), (up_ne (by decide) (up_ne (by decide) d3)), (up_ne (by decide) (up_ne (by decide) d4)), (up_ne (by decide) (up_ne (by decide) d5)), (up_eq _ _ _)⟩, ⟨⟨⟨(up_ne (by decide) (up_ne (by decide) e0)), (up_ne (by decide) (up_ne (by decide) e1)), (up_ne (by decide) (up_ne (by decide) e2))⟩, ⟨(up_ne (by decide) (up_ne (by decide) e3)), (up_ne (by decide) (up_ne (by decide) e4)), (up_ne (by decide) (up_ne (by decide) e5)), (up_ne (by decide) (up_ne (by decide) e6)), (up_ne (by decide) (up_ne (by decide) e7))⟩, ⟨(up_ne (by decide) (up_ne (by decide) e8)), (up_ne (by decide) (up_ne (by decide) e9)), (up_ne (by decide) (up_ne (by decide) e10))⟩⟩, ⟨⟨(up_ne (by decide) (up_ne (by decide) e11)), (up_ne (by decide) (up_ne (by decide) e12))⟩, ⟨(up_ne (by decide) (up_ne (by decide) e13)), (up_ne (by decide) (up_ne (by decide) e14))⟩, ⟨(up_ne (by decide) (up_ne (by decide) e15)), (up_ne (by decide) (up_ne (by decide) e16))⟩⟩⟩, (pastAt_frame (fun q hq => (up_ne (by omega) (up_ne (by omega) rfl))) hpa)⟩) ⟨hD, hty, hBr, hBi, hrd, hr3.1.2.2.2.2.2.2⟩ hr3.1) gX6_shorter_X6_trialCharge (n := 0) (hw := rfl) (hrc := rfl) (hrs := rfl) (hd := by decide +kernel) (hR := ⟨Nat.le_of_ble_eq_true rfl, Nat.le_of_ble_eq_true rfl⟩) (hn := rfl) (hst := rfl) (hsum := Nat.le_of_ble_eq_true rfl) (hdg := dX6_shorter_103) ?_
              rintro _ _ ⟨rfl, rfl⟩
              refine g_at (pc2 := 106) rfl rfl (st2 := [vI (prD (F, g, C, E, L, Q, nR, R, nP, P0, nN, N, nK, K) (upd2 Y 0 x (ln - c)) 0 0 8)]) rfl (S2 := (va_up (va_up (va_up S 6 (AT w 22 22 Y)) 6 (AI w 22 (fl 22 (upd2 Y 0 x (ln - c))))) 6 (AI w 22 (fl 22 (prD (F, g, C, E, L, Q, nR, R, nP, P0, nN, N, nK, K) (upd2 Y 0 x (ln - c)) 0))))) rfl ?_
              obtain ⟨ch2, ech2⟩ : ∃ z : Int, z = prD (F, g, C, E, L, Q, nR, R, nP, P0, nN, N, nK, K) (upd2 Y 0 x (ln - c)) 0 0 8 := ⟨_, rfl⟩
              refine g_at rfl rfl (st2 := [vI (ch2)]) (by rw [ech2]) rfl ?_
              have hv3 := prD_v hD.1 hr3.1
              have hch2 : 0 ≤ ch2 ∧ ch2 ≤ 1000000000 := by rw [ech2]; exact hv3.2.2.2.2.1
              refine g_iload (pc := 106) hX 5 rfl dX6_shorter_106 ?_
              refine g_icmp_ge (pc := 108) (tgt := 114) hX (by first | assumption | exact inI_mk (by omega) (by omega)) (by first | assumption | exact inI_mk (by omega) (by omega)) dX6_shorter_108 (by decide) (fun c_108 => ?_) (fun c_108 => ?_)
              · skip
                refine g_iinc (pc := 114) hX (lv2 := [(5, vI (c + 1)), (0, .ref (gw_ad w 0)), (1, vI (p)), (2, vI (x)), (3, vI (ln)), (4, vI (ch))]) 0 rfl (by decide) rfl dX6_shorter_114 ?_
                refine g_goto (pc := 117) (tgt := 83) hX dX6_shorter_117 (by decide) ?_
                refine g_sub (lv2 := [(5, vI (c + 1)), (0, .ref (gw_ad w 0)), (1, vI (p)), (2, vI (x)), (3, vI (ln)), (4, vI (ch))]) [0, 1, 2, 3, 4, 5] rfl ?_
                refine g_at rfl (lv2 := [(5, vI (c + 1)), (0, .ref (gw_ad w 0)), (1, vI (p)), (2, vI (x)), (3, vI (ln)), (4, vI (ch))]) (rfl) rfl (S2 := (va_up S 6 (AT w 22 22 (prD (F, g, C, E, L, Q, nR, R, nP, P0, nN, N, nK, K) (upd2 Y 0 x (ln - c)) 0)))) (by rw [up_up, up_up]) ?_
                exact ihloop (c + 1) ((prD (F, g, C, E, L, Q, nR, R, nP, P0, nN, N, nK, K) (upd2 Y 0 x (ln - c)) 0)) (by omega) (by omega) (by omega) (rowT_pr hD.1 hr3.1 hr3.2) (by rw [show (ln - c : Int).toNat = (ln - (c + 1) : Int).toNat + 1 by omega] at hb; rw [← hb]; unfold shgo; rw [if_neg (by omega)]; cases (ln - (c + 1) : Int).toNat <;> rfl)
              · skip
                refine g_iload (pc := 111) hX 0 rfl dX6_shorter_111 ?_
                refine g_iret (pc := 113) hX hR dX6_shorter_113 ?_
                rw [show (ln - c : Int).toNat = (ln - (c + 1) : Int).toNat + 1 by omega] at hb
                have hb2 : c = shZ (F, g, C, E, L, Q, nR, R, nP, P0, nN, N, nK, K) Tr p x := by
                  rw [← hb]
                  unfold shgo
                  rw [if_pos (by rw [← ech2]; exact c_108)]
                exact (if_pos (⟨hidx, hx1⟩)).mpr ((if_pos (hc1)).mpr (⟨vI_c hb2, _, hv3.2.2.2.2.2.2.2.2.1, ⟨⟨⟨(up_ne (by decide) (up_ne (by decide) (up_ne (by decide) d0))), (up_ne (by decide) (up_ne (by decide) (up_ne (by decide) d1))), (up_ne (by decide) (up_ne (by decide) (up_ne (by decide) d2))), (up_ne (by decide) (up_ne (by decide) (up_ne (by decide) d3))), (up_ne (by decide) (up_ne (by decide) (up_ne (by decide) d4))), (up_ne (by decide) (up_ne (by decide) (up_ne (by decide) d5))), (up_eq _ _ _)⟩, ⟨⟨⟨(up_ne (by decide) (up_ne (by decide) (up_ne (by decide) e0))), (up_ne (by decide) (up_ne (by decide) (up_ne (by decide) e1))), (up_ne (by decide) (up_ne (by decide) (up_ne (by decide) e2)))⟩, ⟨(up_ne (by decide) (up_ne (by decide) (up_ne (by decide) e3))), (up_ne (by decide) (up_ne (by decide) (up_ne (by decide) e4))), (up_ne (by decide) (up_ne (by decide) (up_ne (by decide) e5))), (up_ne (by decide) (up_ne (by decide) (up_ne (by decide) e6))), (up_ne (by decide) (up_ne (by decide) (up_ne (by decide) e7)))⟩, ⟨(up_ne (by decide) (up_ne (by decide) (up_ne (by decide) e8))), (up_ne (by decide) (up_ne (by decide) (up_ne (by decide) e9))), (up_ne (by decide) (up_ne (by decide) (up_ne (by decide) e10)))⟩⟩, ⟨⟨(up_ne (by decide) (up_ne (by decide) (up_ne (by decide) e11))), (up_ne (by decide) (up_ne (by decide) (up_ne (by decide) e12)))⟩, ⟨(up_ne (by decide) (up_ne (by decide) (up_ne (by decide) e13))), (up_ne (by decide) (up_ne (by decide) (up_ne (by decide) e14)))⟩, ⟨(up_ne (by decide) (up_ne (by decide) (up_ne (by decide) e15))), (up_ne (by decide) (up_ne (by decide) (up_ne (by decide) e16)))⟩⟩⟩, pastAt_frame (fun q hq => (up_ne (by omega) (up_ne (by omega) (up_ne (by omega) rfl)))) hpa⟩, fun q hq => (up_ne (by omega) (up_ne (by omega) (up_ne (by omega) rfl)))⟩⟩))
        refine g_sub (lv2 := [(5, vI (1)), (0, .ref (gw_ad w 0)), (1, vI (p)), (2, vI (x)), (3, vI (ln)), (4, vI (ch))]) [0, 3, 4, 5, 2, 1] rfl ?_
        refine g_at rfl (lv2 := [(5, vI (1)), (0, .ref (gw_ad w 0)), (1, vI (p)), (2, vI (x)), (3, vI (ln)), (4, vI (ch))]) (rfl) rfl (S2 := (va_up S 6 (AT w 22 22 (prD (F, g, C, E, L, Q, nR, R, nP, P0, nN, N, nK, K) U0 0)))) (by rw [up_up]) ?_
        exact loop ((ln : Int) - 1 + 1).toNat 1 (prD (F, g, C, E, L, Q, nR, R, nP, P0, nN, N, nK, K) U0 0) (by omega) (by omega) (by omega) (rowT_pr hD.1 hXi hX0) (hb0)
      · skip
        refine g_ldc (pc := 45) hX (z := -1000002) (List.mem_of_getElem? (i := 4) rfl) (by decide +kernel) dX6_shorter_45 ?_
        refine g_iret (pc := 47) hX hR dX6_shorter_47 ?_
        try simp only [decide_eq_true_eq, decide_eq_false_iff_not] at c_11 c_20 c_42
        exact (if_pos ((show (0 ≤ p ∧ p < nP) ∧ 1 ≤ x ∧ x ≤ 3 by omega))).mpr ((if_neg (show ¬ 0 < C (P0 p 4) by omega)).mpr (⟨rfl, rfl⟩))
    · skip
      refine g_ldc (pc := 23) hX (z := -1000001) (List.mem_of_getElem? (i := 3) rfl) (by decide +kernel) dX6_shorter_23 ?_
      refine g_iret (pc := 25) hX hR dX6_shorter_25 ?_
      try simp only [decide_eq_true_eq, decide_eq_false_iff_not] at c_11 c_20
      exact (if_neg (show ¬ ((0 ≤ p ∧ p < nP) ∧ 1 ≤ x ∧ x ≤ 3) by omega)).mpr (⟨rfl, rfl⟩)

set_option maxHeartbeats 4000000 in
set_option maxRecDepth 100000 in
theorem c_X6_cheapest {w : gW} {l : Launch} {S : Nat → va_E} {pc j : Nat} {ty : Int} {B ρ T : Int → Int} {Tr : Int → Int → Int} {D : SD} {Z : Nat → SD} (hN : gw_N w = 92) (hd : deskAt w pc j ty B ρ T Tr D Z S) (hO : deskOK ty B ρ Tr D) {p : Int} (hp : inI p) :
    GM1 w l yX6_cheapest wsX6_cheapest { frames := 6, cells := 0, slots := 0, locals := 151 } [.ref (gw_ad w 0), vI (p)] S
      (fun v S' => if 0 ≤ p ∧ p < snP D then v = vI (cheZ D Tr p) ∧ ∃ Tr' : Int → Int → Int, (∀ i j, inI (Tr' i j)) ∧ POST w S pc j ty B ρ T Tr' D Z S' else v = vI (-1000001) ∧ S' = S) := by
  refine GM.start (own := RX6) (n := "cheapest") (d := "(I)I") (by decide) rfl (Nat.le_of_ble_eq_true rfl) ?_
  intro X hX hR hXl
  subst hXl
  refine g_at rfl (lv2 := [(0, .ref (gw_ad w 0)), (1, vI (p))]) rfl rfl rfl ?_
  obtain ⟨⟨d0, d1, d2, d3, d4, d5, d6⟩, ⟨hS0, hB0⟩, hpa⟩ := id hd
  obtain ⟨F, g, C, E, L, Q, nR, R, nP, P0, nN, N, nK, K⟩ := D
  obtain ⟨⟨e0, e1, e2⟩, ⟨e3, e4, e5, e6, e7⟩, ⟨e8, e9, e10⟩⟩ := (id hS0)
  obtain ⟨⟨e11, e12⟩, ⟨e13, e14⟩, ⟨e15, e16⟩⟩ := (id hB0)
  change S 7 = .inr (4, [.ref (gw_ad w 8), .ref (gw_ad w 10), .ref (gw_ad w 15), .ref (gw_ad w 18), .ref (gw_ad w 20), .ref (gw_ad w 22)]) at e0
  change S 8 = .inr (3, [.ref (gw_ad w 9), vI (g 0), vI (g 1), vI (g 2), vI (g 3), vI (g 4), vI (g 5), vI (g 6), vI (g 7), vI (g 8), vI (g 9)]) at e1
  change S 9 = AI w 8 (F) at e2
  change S 10 = .inr (0, [.ref (gw_ad w 11), .ref (gw_ad w 12), .ref (gw_ad w 13), .ref (gw_ad w 14)]) at e3
  change S 11 = AI w 4 (C) at e4
  change S 12 = AI w 24 ((fl 6 L)) at e5
  change S 13 = AI w 24 ((fl 6 Q)) at e6
  change S 14 = AI w 4 (E) at e7
  change S 15 = .inr (2, [.ref (gw_ad w 16)]) at e8
  change S 16 = .inr (5, [vI (8), vI (63), .ref (gw_ad w 17), vI (nR)]) at e9
  change S 17 = AI w 504 (fl 63 R) at e10
  change S 18 = .inr (5, [vI (30), vI (22), .ref (gw_ad w 19), vI (nP)]) at e11
  change S 19 = AI w 660 (fl 22 P0) at e12
  change S 20 = .inr (5, [vI (20), vI (6), .ref (gw_ad w 21), vI (nN)]) at e13
  change S 21 = AI w 120 (fl 6 N) at e14
  change S 22 = .inr (5, [vI (20), vI (22), .ref (gw_ad w 23), vI (nK)]) at e15
  change S 23 = AI w 440 (fl 22 K) at e16
  obtain ⟨hD, hty, hBr, hBi, hrd, hTi⟩ := id hO
  obtain ⟨⟨⟨hF, hg⟩, hB, hU, hRR⟩, ⟨hnP, hPi, hPr⟩, ⟨hnN, hNi, hNr⟩, ⟨hnK, hKi, hKr⟩, hg3⟩ := id hD
  change scF F at hF
  change scG g at hg
  change bdOK C E L Q at hB
  change ruOK nR R at hU
  change ∀ i j, inI (R i j) at hRR
  change 0 ≤ nP ∧ nP ≤ 30 at hnP
  change ∀ i j, inI (P0 i j) at hPi
  change ∀ p, 0 ≤ p → p < nP → rowOK P0 p at hPr
  change 0 ≤ nN ∧ nN ≤ 20 at hnN
  change ∀ i j, inI (N i j) at hNi
  change nK = nN at hnK
  change ∀ i j, inI (K i j) at hKi
  change ∀ n, 0 ≤ n → n < nN → rowOK K n at hKr
  have hnRb : 0 ≤ nR ∧ nR ≤ 8 := hU.1
  refine g_aload_n (pc := 0) hX 0 rfl dX6_cheapest_0 ?_
  refine g_get (pc := 1) hX (ci := 6) (fun _ h => List.mem_cons_of_mem _ (List.mem_append_left _ (List.mem_append_left _ (List.mem_append_left _ (List.mem_append_left _ (List.mem_append_left _ (List.mem_append_right _ h))))))) rfl 0 (by omega) d0 0 (by decide) (List.mem_of_getElem? (i := 1) rfl) rfl (v := .ref (gw_ad w 7)) rfl dX6_cheapest_1 ?_
  refine g_get (pc := 4) hX (ci := 4) (fun _ h => List.mem_cons_of_mem _ (List.mem_append_left _ (List.mem_append_left _ (List.mem_append_left _ (List.mem_append_left _ (List.mem_append_right _ h)))))) rfl 7 (by omega) e0 3 (by decide) (List.mem_of_getElem? (i := 2) rfl) rfl (v := .ref (gw_ad w 18)) rfl dX6_cheapest_4 ?_
  refine g_iload_n (pc := 7) hX 1 rfl dX6_cheapest_7 ?_
  refine g_callV1 (pc := 8) (ci := 5) (As := [vI (p)]) (st2 := []) hX 18 (by omega) e11 rfl (c_X5_has (row := p) (by omega) (by omega) e11 e12 (by first | assumption | exact inI_mk (by omega) (by omega)) (by first | assumption | exact inI_mk (by omega) (by omega))) gX6_cheapest_X5_has (n := 1) (hw := rfl) (hrc := rfl) (hrs := rfl) (hd := by decide +kernel) (hR := ⟨Nat.le_of_ble_eq_true rfl, Nat.le_of_ble_eq_true rfl⟩) (hn := rfl) (hst := rfl) (hsum := Nat.le_of_ble_eq_true rfl) (hdg := dX6_cheapest_8) ?_
  rintro _ S9 ⟨rfl, e9⟩
  rw [e9]
  clear e9 S9
  refine g_at (pc2 := 11) rfl rfl (st2 := [vI (bz (decide (0 ≤ p ∧ p < nP)))]) rfl (S2 := S) rfl ?_
  refine g_bif_ne (pc := 11) (tgt := 17) hX dX6_cheapest_11 (by decide) (fun c_11 => ?_) (fun c_11 => ?_)
  · skip
    have hidx := of_decide_eq_true c_11
    refine g_aload_n (pc := 17) hX 0 rfl dX6_cheapest_17 ?_
    refine g_get (pc := 18) hX (ci := 6) (fun _ h => List.mem_cons_of_mem _ (List.mem_append_left _ (List.mem_append_left _ (List.mem_append_left _ (List.mem_append_left _ (List.mem_append_left _ (List.mem_append_right _ h))))))) rfl 0 (by omega) d0 7 (by decide) (List.mem_of_getElem? (i := 4) rfl) rfl (v := .ref (gw_ad w 5)) rfl dX6_cheapest_18 ?_
    refine g_iconst (pc := 21) hX dX6_cheapest_21 ?_
    refine g_aload_n (pc := 22) hX 0 rfl dX6_cheapest_22 ?_
    refine g_get (pc := 23) hX (ci := 6) (fun _ h => List.mem_cons_of_mem _ (List.mem_append_left _ (List.mem_append_left _ (List.mem_append_left _ (List.mem_append_left _ (List.mem_append_left _ (List.mem_append_right _ h))))))) rfl 0 (by omega) d0 0 (by decide) (List.mem_of_getElem? (i := 1) rfl) rfl (v := .ref (gw_ad w 7)) rfl dX6_cheapest_23 ?_
    refine g_get (pc := 26) hX (ci := 4) (fun _ h => List.mem_cons_of_mem _ (List.mem_append_left _ (List.mem_append_left _ (List.mem_append_left _ (List.mem_append_left _ (List.mem_append_right _ h)))))) rfl 7 (by omega) e0 3 (by decide) (List.mem_of_getElem? (i := 2) rfl) rfl (v := .ref (gw_ad w 18)) rfl dX6_cheapest_26 ?_
    refine g_iload_n (pc := 29) hX 1 rfl dX6_cheapest_29 ?_
    refine g_callV0 (pc := 30) (ci := 5) (As := [vI (0), .ref (gw_ad w 18), vI (p)]) (st2 := []) hX 5 (by omega) d5 rfl (c_X5_copyRow (row := 0) (fr := p) (by omega) (by omega) d5 d6 (by omega) (by omega) e11 e12 (by omega) (by omega) (by first | assumption | exact inI_mk (by omega) (by omega)) (by first | assumption | exact inI_mk (by omega) (by omega)) (by omega) (by omega) (by first | assumption | exact inI_mk (by omega) (by omega)) (by first | assumption | exact inI_mk (by omega) (by omega)) (by first | assumption | exact inI_mk (by omega) (by omega)) (by first | assumption | exact inI_mk (by omega) (by omega)) (by omega) (by omega) (by omega) (by decide) (by decide) (by decide)) gX6_cheapest_X5_copyRow (n := 3) (hw := rfl) (hrc := rfl) (hrs := rfl) (hd := by decide +kernel) (hR := ⟨Nat.le_of_ble_eq_true rfl, Nat.le_of_ble_eq_true rfl⟩) (hn := rfl) (hst := rfl) (hsum := Nat.le_of_ble_eq_true rfl) (hdg := dX6_cheapest_30) ?_
    rintro _ rfl
    refine g_at (pc2 := 33) rfl rfl (st2 := []) rfl (S2 := (va_up S 6 (AI w 22 (fl 22 (fun i j => if i = 0 then (tcell 30 22 P0 p) j else Tr i j))))) rfl ?_
    obtain ⟨U0, eU0⟩ : ∃ f : Int → Int → Int, f = (fun i j => if i = 0 then (tcell 30 22 P0 p) j else Tr i j) := ⟨_, rfl⟩
    refine g_at rfl rfl rfl (S2 := (va_up S 6 (AI w 22 (fl 22 U0)))) (by rw [eU0]) ?_
    have eXb : U0 = crZ (F, g, C, E, L, Q, nR, R, nP, P0, nN, N, nK, K) Tr p := eU0
    clear eU0
    refine g_ldc (pc := 33) hX (z := -1000009) (List.mem_of_getElem? (i := 5) rfl) (by decide +kernel) dX6_cheapest_33 ?_
    refine g_istore_n (pc := 35) hX (lv2 := [(2, vI (-1000009)), (0, .ref (gw_ad w 0)), (1, vI (p))]) rfl (by decide) rfl dX6_cheapest_35 ?_
    refine g_iconst (pc := 36) hX dX6_cheapest_36 ?_
    refine g_istore_n (pc := 37) hX (lv2 := [(3, vI (0)), (2, vI (-1000009)), (0, .ref (gw_ad w 0)), (1, vI (p))]) rfl (by decide) rfl dX6_cheapest_37 ?_
    refine g_iconst (pc := 38) hX dX6_cheapest_38 ?_
    refine g_istore (pc := 39) hX (lv2 := [(4, vI (0)), (3, vI (0)), (2, vI (-1000009)), (0, .ref (gw_ad w 0)), (1, vI (p))]) (by decide) rfl dX6_cheapest_39 ?_
    have loop : ∀ (n0 : Nat) (c : Int) (bs : Int) (le : Int) (Y : Int → Int → Int), 0 ≤ c → c ≤ 4 → 4 - c < n0 → (rowC Y) → ((-1000009 ≤ bs ∧ bs ≤ 3) ∧ (0 ≤ le ∧ le ≤ 1000000000)) → (chgo (F, g, C, E, L, Q, nR, R, nP, P0, nN, N, nK, K) (4 - c : Int).toNat c bs le Y = cheZ (F, g, C, E, L, Q, nR, R, nP, P0, nN, N, nK, K) Tr p) → G w { frames := 6, cells := 0, slots := 0, locals := 151 } X 6 41 [(4, vI (c)), (0, .ref (gw_ad w 0)), (1, vI (p)), (2, vI (bs)), (3, vI (le))] [] (va_up S 6 (AT w 22 22 Y)) := by
      intro n0
      induction n0 with
      | zero => intro c bs le Y h1c h2c h3c; exact absurd h3c (by omega)
      | succ n0 ihloop =>
        intro c bs le Y h1c h2c h3c hY hbl hb
        have hc : inI c := inI_mk (by omega) (by omega)
        refine g_iload (pc := 41) hX 0 rfl dX6_cheapest_41 ?_
        refine g_iconst (pc := 43) hX dX6_cheapest_43 ?_
        refine g_icmp_ge (pc := 44) (tgt := 97) hX (by first | assumption | exact inI_mk (by omega) (by omega)) (by first | assumption | exact inI_mk (by omega) (by omega)) dX6_cheapest_44 (by decide) (fun c_44 => ?_) (fun c_44 => ?_)
        · skip
          refine g_iload_n (pc := 97) hX 3 rfl dX6_cheapest_97 ?_
          refine g_iret (pc := 98) hX hR dX6_cheapest_98 ?_
          rw [show (4 - c : Int).toNat = 0 by omega] at hb
          exact (if_pos (hidx)).mpr (⟨vI_c hb, Y, hY.2.2.2.2, ⟨⟨⟨(up_ne (by decide) d0), (up_ne (by decide) d1), (up_ne (by decide) d2), (up_ne (by decide) d3), (up_ne (by decide) d4), (up_ne (by decide) d5), (up_eq _ _ _)⟩, ⟨⟨⟨(up_ne (by decide) e0), (up_ne (by decide) e1), (up_ne (by decide) e2)⟩, ⟨(up_ne (by decide) e3), (up_ne (by decide) e4), (up_ne (by decide) e5), (up_ne (by decide) e6), (up_ne (by decide) e7)⟩, ⟨(up_ne (by decide) e8), (up_ne (by decide) e9), (up_ne (by decide) e10)⟩⟩, ⟨⟨(up_ne (by decide) e11), (up_ne (by decide) e12)⟩, ⟨(up_ne (by decide) e13), (up_ne (by decide) e14)⟩, ⟨(up_ne (by decide) e15), (up_ne (by decide) e16)⟩⟩⟩, pastAt_frame (fun q hq => (up_ne (by omega) rfl)) hpa⟩, fun q hq => (up_ne (by omega) rfl)⟩⟩)
        · skip
          refine g_aload_n (pc := 47) hX 1 rfl dX6_cheapest_47 ?_
          refine g_iload (pc := 48) hX 0 rfl dX6_cheapest_48 ?_
          refine g_callV1 (pc := 50) (ci := 6) (As := [vI (c)]) (st2 := []) hX 0 (by omega) (up_ne (by decide) d0) rfl (c_X6_hasBands (z := c) hN (show deskAt w pc j ty B ρ T Y (F, g, C, E, L, Q, nR, R, nP, P0, nN, N, nK, K) Z (va_up S 6 (AT w 22 22 Y)) from ⟨⟨(up_ne (by decide) d0), (up_ne (by decide) d1), (up_ne (by decide) d2), (up_ne (by decide) d3), (up_ne (by decide) d4), (up_ne (by decide) d5), (up_eq _ _ _)⟩, ⟨⟨⟨(up_ne (by decide) e0), (up_ne (by decide) e1), (up_ne (by decide) e2)⟩, ⟨(up_ne (by decide) e3), (up_ne (by decide) e4), (up_ne (by decide) e5), (up_ne (by decide) e6), (up_ne (by decide) e7)⟩, ⟨(up_ne (by decide) e8), (up_ne (by decide) e9), (up_ne (by decide) e10)⟩⟩, ⟨⟨(up_ne (by decide) e11), (up_ne (by decide) e12)⟩, ⟨(up_ne (by decide) e13), (up_ne (by decide) e14)⟩, ⟨(up_ne (by decide) e15), (up_ne (by decide) e16)⟩⟩⟩, (pastAt_frame (fun q hq => (up_ne (by omega) rfl)) hpa)⟩) ⟨hD, hty, hBr, hBi, hrd, hY.2.2.2.2⟩ (by omega) (by omega)) gX6_cheapest_X6_hasBands (n := 1) (hw := rfl) (hrc := rfl) (hrs := rfl) (hd := by decide +kernel) (hR := ⟨Nat.le_of_ble_eq_true rfl, Nat.le_of_ble_eq_true rfl⟩) (hn := rfl) (hst := rfl) (hsum := Nat.le_of_ble_eq_true rfl) (hdg := dX6_cheapest_50) ?_
          rintro _ S9 ⟨rfl, e9⟩
          rw [e9]
          clear e9 S9
          refine g_at (pc2 := 53) rfl rfl (st2 := [vI (bz (decide (0 < C c)))]) rfl (S2 := (va_up S 6 (AT w 22 22 Y))) rfl ?_
          refine g_bif_eq (pc := 53) (tgt := 91) hX dX6_cheapest_53 (by decide) (fun c_53 => ?_) (fun c_53 => ?_)
          · skip
            refine g_iinc (pc := 91) hX (lv2 := [(4, vI (c + 1)), (0, .ref (gw_ad w 0)), (1, vI (p)), (2, vI (bs)), (3, vI (le))]) 0 rfl (by decide) rfl dX6_cheapest_91 ?_
            refine g_goto (pc := 94) (tgt := 41) hX dX6_cheapest_94 (by decide) ?_
            refine g_sub (lv2 := [(4, vI (c + 1)), (0, .ref (gw_ad w 0)), (1, vI (p)), (2, vI (bs)), (3, vI (le))]) [0, 1, 2, 3, 4] rfl ?_
            refine g_at rfl (lv2 := [(4, vI (c + 1)), (0, .ref (gw_ad w 0)), (1, vI (p)), (2, vI (bs)), (3, vI (le))]) (rfl) rfl (S2 := (va_up S 6 (AT w 22 22 Y))) (rfl) ?_
            exact ihloop (c + 1) (bs) (le) (Y) (by omega) (by omega) (by omega) (hY) (by omega) (by rw [show (4 - c : Int).toNat = (4 - (c + 1) : Int).toNat + 1 by omega] at hb; rw [← hb]; unfold chgo; rw [if_neg (by have := of_decide_eq_false c_53; exact this)]; cases (4 - (c + 1) : Int).toNat <;> rfl)
          · skip
            have hc1 : 0 < C c := of_decide_eq_true c_53
            have hri : rowIn (F, g, C, E, L, Q, nR, R, nP, P0, nN, N, nK, K) (upd2 Y 0 4 c) 0 := rowC_put hY (by omega) (by omega) hc1
            refine g_aload_n (pc := 56) hX 1 rfl dX6_cheapest_56 ?_
            refine g_get (pc := 57) hX (ci := 6) (fun _ h => List.mem_cons_of_mem _ (List.mem_append_left _ (List.mem_append_left _ (List.mem_append_left _ (List.mem_append_left _ (List.mem_append_left _ (List.mem_append_right _ h))))))) rfl 0 (by omega) (up_ne (by decide) d0) 7 (by decide) (List.mem_of_getElem? (i := 4) rfl) rfl (v := .ref (gw_ad w 5)) rfl dX6_cheapest_57 ?_
            refine g_iconst (pc := 60) hX dX6_cheapest_60 ?_
            refine g_iconst (pc := 61) hX dX6_cheapest_61 ?_
            refine g_iload (pc := 62) hX 0 rfl dX6_cheapest_62 ?_
            refine g_callV0 (pc := 64) (ci := 5) (As := [vI (0), vI (4), vI (c)]) (st2 := []) hX 5 (by omega) (up_ne (by decide) d5) rfl (c_X5_put (row := 0) (col := 4) (x := c) (by omega) (by omega) (up_ne (by decide) d5) (up_eq _ _ _) (by decide) (by decide) (by first | assumption | exact inI_mk (by omega) (by omega)) (by first | assumption | exact inI_mk (by omega) (by omega)) (by first | assumption | exact inI_mk (by omega) (by omega)) (by first | assumption | exact inI_mk (by omega) (by omega))) gX6_cheapest_X5_put (n := 3) (hw := rfl) (hrc := rfl) (hrs := rfl) (hd := by decide +kernel) (hR := ⟨Nat.le_of_ble_eq_true rfl, Nat.le_of_ble_eq_true rfl⟩) (hn := rfl) (hst := rfl) (hsum := Nat.le_of_ble_eq_true rfl) (hdg := dX6_cheapest_64) ?_
            rintro _ rfl
            rw [tput_in (by omega) (by omega) (by omega) (by omega)]
            refine g_at (pc2 := 67) rfl rfl (st2 := []) rfl (S2 := (va_up (va_up S 6 (AT w 22 22 Y)) 6 (AI w 22 (fl 22 (upd2 Y 0 4 c))))) rfl ?_
            refine g_aload_n (pc := 67) hX 1 rfl dX6_cheapest_67 ?_
            refine g_callV1 (pc := 68) (ci := 6) (As := []) (st2 := []) hX 0 (by omega) (up_ne (by decide) (up_ne (by decide) d0)) rfl (c_X6_trialCharge (Tr := (upd2 Y 0 4 c)) hN (show deskAt w pc j ty B ρ T (upd2 Y 0 4 c) (F, g, C, E, L, Q, nR, R, nP, P0, nN, N, nK, K) Z (va_up (va_up S 6 (AT w 22 22 Y)) 6 (AI w 22 (fl 22 (upd2 Y 0 4 c)))) from ⟨⟨(up_ne (by decide) (up_ne (by decide) d0)), (up_ne (by decide) (up_ne (by decide) d1)), (up_ne (by decide) (up_ne (by decide) d2)), (up_ne (by decide) (up_ne (by decide) d3)), (up_ne (by decide) (up_ne (by decide) d4)), (up_ne (by decide) (up_ne (by decide) d5)), (up_eq _ _ _)⟩, ⟨⟨⟨(up_ne (by decide) (up_ne (by decide) e0)), (up_ne (by decide) (up_ne (by decide) e1)), (up_ne (by decide) (up_ne (by decide) e2))⟩, ⟨(up_ne (by decide) (up_ne (by decide) e3)), (up_ne (by decide) (up_ne (by decide) e4)), (up_ne (by decide) (up_ne (by decide) e5)), (up_ne (by decide) (up_ne (by decide) e6)), (up_ne (by decide) (up_ne (by decide) e7))⟩, ⟨(up_ne (by decide) (up_ne (by decide) e8)), (up_ne (by decide) (up_ne (by decide) e9)), (up_ne (by decide) (up_ne (by decide) e10))⟩⟩, ⟨⟨(up_ne (by decide) (up_ne (by decide) e11)), (up_ne (by decide) (up_ne (by decide) e12))⟩, ⟨(up_ne (by decide) (up_ne (by decide) e13)), (up_ne (by decide) (up_ne (by decide) e14))⟩, ⟨(up_ne (by decide) (up_ne (by decide) e15)), (up_ne (by decide) (up_ne (by decide) e16))⟩⟩⟩, (pastAt_frame (fun q hq => (up_ne (by omega) (up_ne (by omega) rfl))) hpa)⟩) ⟨hD, hty, hBr, hBi, hrd, hri.2.2.2.2.2.2⟩ hri) gX6_cheapest_X6_trialCharge (n := 0) (hw := rfl) (hrc := rfl) (hrs := rfl) (hd := by decide +kernel) (hR := ⟨Nat.le_of_ble_eq_true rfl, Nat.le_of_ble_eq_true rfl⟩) (hn := rfl) (hst := rfl) (hsum := Nat.le_of_ble_eq_true rfl) (hdg := dX6_cheapest_68) ?_
            rintro _ _ ⟨rfl, rfl⟩
            refine g_at (pc2 := 71) rfl rfl (st2 := [vI (prD (F, g, C, E, L, Q, nR, R, nP, P0, nN, N, nK, K) (upd2 Y 0 4 c) 0 0 8)]) rfl (S2 := (va_up (va_up (va_up S 6 (AT w 22 22 Y)) 6 (AI w 22 (fl 22 (upd2 Y 0 4 c)))) 6 (AI w 22 (fl 22 (prD (F, g, C, E, L, Q, nR, R, nP, P0, nN, N, nK, K) (upd2 Y 0 4 c) 0))))) rfl ?_
            obtain ⟨ch2, ech2⟩ : ∃ z : Int, z = prD (F, g, C, E, L, Q, nR, R, nP, P0, nN, N, nK, K) (upd2 Y 0 4 c) 0 0 8 := ⟨_, rfl⟩
            refine g_at rfl rfl (st2 := [vI (ch2)]) (by rw [ech2]) rfl ?_
            have hv3 := prD_v hD.1 hri
            have hch2 : 0 ≤ ch2 ∧ ch2 ≤ 1000000000 := by rw [ech2]; exact hv3.2.2.2.2.1
            refine g_istore (pc := 71) hX (lv2 := [(5, vI (ch2)), (4, vI (c)), (0, .ref (gw_ad w 0)), (1, vI (p)), (2, vI (bs)), (3, vI (le))]) (by decide) rfl dX6_cheapest_71 ?_
            refine g_iload_n (pc := 73) hX 4 rfl dX6_cheapest_73 ?_
            refine g_ldc (pc := 74) hX (z := -1000009) (List.mem_of_getElem? (i := 5) rfl) (by decide +kernel) dX6_cheapest_74 ?_
            refine g_icmp_eq (pc := 76) (tgt := 85) hX (by first | assumption | exact inI_mk (by omega) (by omega)) (by first | assumption | exact inI_mk (by omega) (by omega)) dX6_cheapest_76 (by decide) (fun c_76 => ?_) (fun c_76 => ?_)
            · skip
              refine g_iload (pc := 85) hX 1 rfl dX6_cheapest_85 ?_
              refine g_istore_n (pc := 87) hX (lv2 := [(2, vI (c)), (5, vI (ch2)), (4, vI (c)), (0, .ref (gw_ad w 0)), (1, vI (p)), (3, vI (le))]) rfl (by decide) rfl dX6_cheapest_87 ?_
              refine g_iload (pc := 88) hX 1 rfl dX6_cheapest_88 ?_
              refine g_istore_n (pc := 90) hX (lv2 := [(3, vI (ch2)), (2, vI (c)), (5, vI (ch2)), (4, vI (c)), (0, .ref (gw_ad w 0)), (1, vI (p))]) rfl (by decide) rfl dX6_cheapest_90 ?_
              refine g_iinc (pc := 91) hX (lv2 := [(4, vI (c + 1)), (3, vI (ch2)), (2, vI (c)), (5, vI (ch2)), (0, .ref (gw_ad w 0)), (1, vI (p))]) 3 rfl (by decide) rfl dX6_cheapest_91 ?_
              refine g_goto (pc := 94) (tgt := 41) hX dX6_cheapest_94 (by decide) ?_
              refine g_sub (lv2 := [(4, vI (c + 1)), (0, .ref (gw_ad w 0)), (1, vI (p)), (2, vI (c)), (3, vI (ch2))]) [0, 4, 5, 2, 1] rfl ?_
              refine g_at rfl (lv2 := [(4, vI (c + 1)), (0, .ref (gw_ad w 0)), (1, vI (p)), (2, vI (c)), (3, vI (ch2))]) (rfl) rfl (S2 := (va_up S 6 (AT w 22 22 (prD (F, g, C, E, L, Q, nR, R, nP, P0, nN, N, nK, K) (upd2 Y 0 4 c) 0)))) (by rw [up_up, up_up]) ?_
              exact ihloop (c + 1) (c) (ch2) ((prD (F, g, C, E, L, Q, nR, R, nP, P0, nN, N, nK, K) (upd2 Y 0 4 c) 0)) (by omega) (by omega) (by omega) (rowC_pr hD.1 hY (by omega) (by omega) hc1) (by omega) (by rw [show (4 - c : Int).toNat = (4 - (c + 1) : Int).toNat + 1 by omega] at hb; rw [← hb]; unfold chgo; rw [if_pos (by exact hc1), if_pos (Or.inl c_76), ← ech2]; cases (4 - (c + 1) : Int).toNat <;> rfl)
            · skip
              refine g_iload (pc := 79) hX 0 rfl dX6_cheapest_79 ?_
              refine g_iload_n (pc := 81) hX 5 rfl dX6_cheapest_81 ?_
              refine g_icmp_ge (pc := 82) (tgt := 91) hX (by first | assumption | exact inI_mk (by omega) (by omega)) (by first | assumption | exact inI_mk (by omega) (by omega)) dX6_cheapest_82 (by decide) (fun c_82 => ?_) (fun c_82 => ?_)
              · skip
                refine g_iinc (pc := 91) hX (lv2 := [(4, vI (c + 1)), (5, vI (ch2)), (0, .ref (gw_ad w 0)), (1, vI (p)), (2, vI (bs)), (3, vI (le))]) 1 rfl (by decide) rfl dX6_cheapest_91 ?_
                refine g_goto (pc := 94) (tgt := 41) hX dX6_cheapest_94 (by decide) ?_
                refine g_sub (lv2 := [(4, vI (c + 1)), (0, .ref (gw_ad w 0)), (1, vI (p)), (2, vI (bs)), (3, vI (le))]) [0, 2, 3, 4, 5] rfl ?_
                refine g_at rfl (lv2 := [(4, vI (c + 1)), (0, .ref (gw_ad w 0)), (1, vI (p)), (2, vI (bs)), (3, vI (le))]) (rfl) rfl (S2 := (va_up S 6 (AT w 22 22 (prD (F, g, C, E, L, Q, nR, R, nP, P0, nN, N, nK, K) (upd2 Y 0 4 c) 0)))) (by rw [up_up, up_up]) ?_
                exact ihloop (c + 1) (bs) (le) ((prD (F, g, C, E, L, Q, nR, R, nP, P0, nN, N, nK, K) (upd2 Y 0 4 c) 0)) (by omega) (by omega) (by omega) (rowC_pr hD.1 hY (by omega) (by omega) hc1) (by omega) (by rw [show (4 - c : Int).toNat = (4 - (c + 1) : Int).toNat + 1 by omega] at hb; rw [← hb]; unfold chgo; rw [if_pos (by exact hc1), if_neg (fun z => z.elim c_76 (fun z2 => by rw [← ech2] at z2; omega))]; cases (4 - (c + 1) : Int).toNat <;> rfl)
              · skip
                refine g_iload (pc := 85) hX 1 rfl dX6_cheapest_85 ?_
                refine g_istore_n (pc := 87) hX (lv2 := [(2, vI (c)), (5, vI (ch2)), (4, vI (c)), (0, .ref (gw_ad w 0)), (1, vI (p)), (3, vI (le))]) rfl (by decide) rfl dX6_cheapest_87 ?_
                refine g_iload (pc := 88) hX 1 rfl dX6_cheapest_88 ?_
                refine g_istore_n (pc := 90) hX (lv2 := [(3, vI (ch2)), (2, vI (c)), (5, vI (ch2)), (4, vI (c)), (0, .ref (gw_ad w 0)), (1, vI (p))]) rfl (by decide) rfl dX6_cheapest_90 ?_
                refine g_iinc (pc := 91) hX (lv2 := [(4, vI (c + 1)), (3, vI (ch2)), (2, vI (c)), (5, vI (ch2)), (0, .ref (gw_ad w 0)), (1, vI (p))]) 3 rfl (by decide) rfl dX6_cheapest_91 ?_
                refine g_goto (pc := 94) (tgt := 41) hX dX6_cheapest_94 (by decide) ?_
                refine g_sub (lv2 := [(4, vI (c + 1)), (0, .ref (gw_ad w 0)), (1, vI (p)), (2, vI (c)), (3, vI (ch2))]) [0, 4, 5, 2, 1] rfl ?_
                refine g_at rfl (lv2 := [(4, vI (c + 1)), (0, .ref (gw_ad w 0)), (1, vI (p)), (2, vI (c)), (3, vI (ch2))]) (rfl) rfl (S2 := (va_up S 6 (AT w 22 22 (prD (F, g, C, E, L, Q, nR, R, nP, P0, nN, N, nK, K) (upd2 Y 0 4 c) 0)))) (by rw [up_up, up_up]) ?_
                exact ihloop (c + 1) (c) (ch2) ((prD (F, g, C, E, L, Q, nR, R, nP, P0, nN, N, nK, K) (upd2 Y 0 4 c) 0)) (by omega) (by omega) (by omega) (rowC_pr hD.1 hY (by omega) (by omega) hc1) (by omega) (by rw [show (4 - c : Int).toNat = (4 - (c + 1) : Int).toNat + 1 by omega] at hb; rw [← hb]; unfold chgo; rw [if_pos (by exact hc1), if_pos (Or.inr (by rw [← ech2]; exact c_82)), ← ech2]; cases (4 - (c + 1) : Int).toNat <;> rfl)
    refine g_sub (lv2 := [(4, vI (0)), (0, .ref (gw_ad w 0)), (1, vI (p)), (2, vI (-1000009)), (3, vI (0))]) [0, 3, 4, 2, 1] rfl ?_
    refine g_at rfl (lv2 := [(4, vI (0)), (0, .ref (gw_ad w 0)), (1, vI (p)), (2, vI (-1000009)), (3, vI (0))]) (rfl) rfl (S2 := (va_up S 6 (AT w 22 22 U0))) (rfl) ?_
    exact loop ((4 : Int) - 0 + 1).toNat 0 (-1000009) (0) (U0) (by omega) (by omega) (by omega) (by rw [eXb]; exact rowC_cr hD hTi hidx) (by omega) (by rw [eXb]; rfl)
  · skip
    refine g_ldc (pc := 14) hX (z := -1000001) (List.mem_of_getElem? (i := 3) rfl) (by decide +kernel) dX6_cheapest_14 ?_
    refine g_iret (pc := 16) hX hR dX6_cheapest_16 ?_
    try simp only [decide_eq_true_eq, decide_eq_false_iff_not] at c_11
    exact (if_neg (show ¬ (0 ≤ p ∧ p < nP) by omega)).mpr (⟨rfl, rfl⟩)
