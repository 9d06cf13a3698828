/-! ===== the desk: places 0 to 6, its state from 7 on, the past states from 24 + 17 * i on ===== -/
section G22
variable {w : gW} {R : Room} {X : gX} {nL pc : Nat} {cc : ByteArray} {own : String} {Ts : List Cond} {lv : List (Nat × Value)} {st : List Value} {S : Nat → va_E}
theorem g_ifnull (hX : gOK w R X cc nL own Ts) {x : Nat} {off : Int} (hdg : decode cc pc = .ok (.ifnull off, 3)) (k : G w R X nL (pc + 3) lv st S) : G w R X nL pc lv (.ref x :: st) S := by
  intro H locs ls hP hS hl
  exact lv_ifnull hX.1 hX.2.1 hdg (k H locs ls hP hS hl)
end G22
abbrev OD (w : gW) (pc j : Nat) (ty : Int) : va_E := .inr (6, [.ref (gw_ad w 7), .ref (gw_ad w 1), vI ((pc : Nat) : Int), vI ((j : Nat) : Int), .ref (gw_ad w 2), vI ty, .ref (gw_ad w 3), .ref (gw_ad w 5)])
def pastAt (w : gW) (Z : Nat → SD) (S : Nat → va_E) : Prop := ∀ i : Nat, i < 4 → stAt w (24 + 17 * i) (Z i) S
def deskAt (w : gW) (pc j : Nat) (ty : Int) (B ρ T : Int → Int) (Tr : Int → Int → Int) (D : SD) (Z : Nat → SD) (S : Nat → va_E) : Prop :=
  (S 0 = OD w pc j ty ∧ S 1 = AR w 4 (fun i => some (gw_ad w (24 + 17 * i))) ∧ S 2 = AI w 60 B ∧ S 3 = OR_ w 4 ρ ∧ S 4 = AI w 60 T ∧ S 5 = OT w 1 22 6 1 ∧ S 6 = AT w 22 22 Tr) ∧ stAt w 7 D S ∧ pastAt w Z S
def rowOK (P : Int → Int → Int) (p : Int) : Prop := (1 ≤ P p 0 ∧ P p 0 ≤ 100000) ∧ (1 ≤ P p 1 ∧ P p 1 ≤ 2000) ∧ (1 ≤ P p 2 ∧ P p 2 ≤ 2000) ∧ (1 ≤ P p 3 ∧ P p 3 ≤ 2000) ∧ (0 ≤ P p 4 ∧ P p 4 < 4) ∧ (0 ≤ P p 5 ∧ P p 5 ≤ 8000000) ∧ (0 ≤ P p 6 ∧ P p 6 ≤ 8001000) ∧ (0 ≤ P p 7 ∧ P p 7 ≤ 1000000000) ∧ (0 ≤ P p 8 ∧ P p 8 ≤ 1000000000) ∧ (2 ≤ P p 11 ∧ P p 11 ≤ 10)
def ntOK (D : SD) (n : Int) : Prop := (0 ≤ sN D n 0 ∧ sN D n 0 < snP D) ∧ (0 ≤ sN D n 1 ∧ sN D n 1 ≤ 3) ∧ (1 ≤ sN D n 2 ∧ sN D n 2 ≤ (if sN D n 1 = 0 then 100000 else 2000)) ∧ (0 ≤ sN D n 3 ∧ sN D n 3 ≤ 1000000000) ∧ (0 ≤ sN D n 4 ∧ sN D n 4 ≤ 2) ∧ (-1000000000 ≤ sN D n 5 ∧ sN D n 5 ≤ 1000000000)
def stOK (D : SD) : Prop := stOK1 D ∧ ((0 ≤ snP D ∧ snP D ≤ 30) ∧ (∀ i j, inI (sP D i j)) ∧ ∀ p, 0 ≤ p → p < snP D → rowOK (sP D) p) ∧ ((0 ≤ snN D ∧ snN D ≤ 20) ∧ (∀ i j, inI (sN D i j)) ∧ ∀ n, 0 ≤ n → n < snN D → ntOK D n) ∧ (snK D = snN D ∧ (∀ i j, inI (sK D i j)) ∧ ∀ n, 0 ≤ n → n < snN D → rowOK (sK D) n) ∧ (0 ≤ sG D 3 ∧ sG D 3 ≤ 100000 ∧ sG D 5 ≤ 2)
theorem stOK.c {D : SD} (h : stOK D) : cOK D := ⟨h.1.2.1.1, h.1.2.1.2.1, h.1.2.2.1.1, h.2.1.1, h.2.2.1.1, by have := h.2.2.1.1; have := h.2.2.2.1.1; omega⟩
def deskOK (ty : Int) (B ρ : Int → Int) (Tr : Int → Int → Int) (D : SD) : Prop := stOK D ∧ (0 ≤ ty ∧ ty ≤ 60) ∧ (∀ i, 0 ≤ i → i < ty → 32 ≤ B i ∧ B i ≤ 126) ∧ (∀ i, inI (B i)) ∧ rdOK 100 ρ ∧ (∀ i j, inI (Tr i j))
def pcN (pc : Nat) : Nat := if pc < 4 then pc + 1 else pc
def jN (j : Nat) : Nat := if j + 1 < 4 then j + 1 else 0
def opN (N : Int → Int → Int) (p : Int) : Nat → Int → Int
  | 0, _ => -1000009
  | k + 1, i => if N i 0 = p ∧ N i 4 = 0 then i else opN N p k (i + 1)
def openZ (D : SD) (p : Int) : Int := opN (sN D) p (snN D).toNat 0
theorem opN_b (N : Int → Int → Int) (p : Int) : ∀ (k : Nat) (i : Int), 0 ≤ i → opN N p k i = -1000009 ∨ (i ≤ opN N p k i ∧ opN N p k i < i + k)
  | 0, i, h => Or.inl rfl
  | k + 1, i, h => by
    have h2 := opN_b N p k (i + 1) (by omega)
    show (if N i 0 = p ∧ N i 4 = 0 then i else opN N p k (i + 1)) = -1000009 ∨ (i ≤ (if N i 0 = p ∧ N i 4 = 0 then i else opN N p k (i + 1)) ∧ (if N i 0 = p ∧ N i 4 = 0 then i else opN N p k (i + 1)) < i + ((k + 1 : Nat) : Int))
    split <;> omega
theorem openZ_b {D : SD} {p : Int} (h : 0 ≤ snN D ∧ snN D ≤ 20) : openZ D p = -1000009 ∨ (0 ≤ openZ D p ∧ openZ D p < snN D) := by
  have := opN_b (sN D) p (snN D).toNat 0 (Int.le_refl 0)
  unfold openZ
  omega
theorem stA_frame {w : gW} {b : Nat} {D : SD} {S S' : Nat → va_E} (hf : ∀ q : Nat, b ≤ q → q < b + 17 → S' q = S q) (h : stA w b D S) : stA w b D S' := by
  obtain ⟨⟨a1, a2, a3⟩, ⟨b1, b2, b3, b4, b5⟩, ⟨c1, c2, c3⟩⟩ := h
  exact ⟨⟨(hf _ (by omega) (by omega)).trans a1, (hf _ (by omega) (by omega)).trans a2, (hf _ (by omega) (by omega)).trans a3⟩, ⟨(hf _ (by omega) (by omega)).trans b1, (hf _ (by omega) (by omega)).trans b2, (hf _ (by omega) (by omega)).trans b3, (hf _ (by omega) (by omega)).trans b4, (hf _ (by omega) (by omega)).trans b5⟩, ⟨(hf _ (by omega) (by omega)).trans c1, (hf _ (by omega) (by omega)).trans c2, (hf _ (by omega) (by omega)).trans c3⟩⟩
theorem stB_frame {w : gW} {b : Nat} {D : SD} {S S' : Nat → va_E} (hf : ∀ q : Nat, b ≤ q → q < b + 17 → S' q = S q) (h : stB w b D S) : stB w b D S' := by
  obtain ⟨⟨a1, a2⟩, ⟨b1, b2⟩, ⟨c1, c2⟩⟩ := h
  exact ⟨⟨(hf _ (by omega) (by omega)).trans a1, (hf _ (by omega) (by omega)).trans a2⟩, ⟨(hf _ (by omega) (by omega)).trans b1, (hf _ (by omega) (by omega)).trans b2⟩, ⟨(hf _ (by omega) (by omega)).trans c1, (hf _ (by omega) (by omega)).trans c2⟩⟩
theorem stAt_frame {w : gW} {b : Nat} {D : SD} {S S' : Nat → va_E} (hf : ∀ q : Nat, b ≤ q → q < b + 17 → S' q = S q) (h : stAt w b D S) : stAt w b D S' := ⟨stA_frame hf h.1, stB_frame hf h.2⟩
theorem pastAt_frame {w : gW} {Z : Nat → SD} {S S' : Nat → va_E} (hf : ∀ q : Nat, 24 ≤ q → S' q = S q) (h : pastAt w Z S) : pastAt w Z S' := fun i hi => stAt_frame (fun q h1 _ => hf q (by omega)) (h i hi)
def POST (w : gW) (S : Nat → va_E) (pc j : Nat) (ty : Int) (B ρ T : Int → Int) (Tr : Int → Int → Int) (D : SD) (Z : Nat → SD) (S' : Nat → va_E) : Prop := deskAt w pc j ty B ρ T Tr D Z S' ∧ ∀ q : Nat, 92 ≤ q → S' q = S q
/-- the past behind an act -/
def pastN (j : Nat) (Z : Nat → SD) (D : SD) : Nat → SD := va_up Z j (cpyD D (Z j))

set_option maxHeartbeats 4000000 in
set_option maxRecDepth 100000 in
theorem c_X6_setting {w : gW} {l : Launch} {S : Nat → va_E} {pc j : Nat} {ty : Int} {B ρ T : Int → Int} {Tr : Int → Int → Int} {D : SD} {Z : Nat → SD} (hN : gw_N w = 92) (hd : deskAt w pc j ty B ρ T Tr D Z S) {i : Int} (hi : inI i) :
    GM1 w l yX6_setting wsX6_setting { frames := 1, cells := 0, slots := 0, locals := 21 } [.ref (gw_ad w 0), vI (i)] S
      (fun v S' => v = vI (if 0 ≤ i ∧ i < 8 then sF D i else -1000001) ∧ S' = S) := by
  refine GM.start (own := RX6) (n := "setting") (d := "(I)I") (by decide) rfl (Nat.le_of_ble_eq_true rfl) ?_
  intro X hX hR hXl
  subst hXl
  refine g_at rfl (lv2 := [(0, .ref (gw_ad w 0)), (1, vI (i))]) rfl rfl rfl ?_
  obtain ⟨⟨d0, d1, d2, d3, d4, d5, d6⟩, ⟨hS0, hB0⟩, hpa⟩ := id hd
  obtain ⟨F, g, C, E, L, Q, nR, R, nP, P0, nN, N, nK, K⟩ := D
  obtain ⟨⟨e0, e1, e2⟩, ⟨e3, e4, e5, e6, e7⟩, ⟨e8, e9, e10⟩⟩ := (id hS0)
  obtain ⟨⟨e11, e12⟩, ⟨e13, e14⟩, ⟨e15, e16⟩⟩ := (id hB0)
  change S 7 = .inr (4, [.ref (gw_ad w 8), .ref (gw_ad w 10), .ref (gw_ad w 15), .ref (gw_ad w 18), .ref (gw_ad w 20), .ref (gw_ad w 22)]) at e0
  change S 8 = .inr (3, [.ref (gw_ad w 9), vI (g 0), vI (g 1), vI (g 2), vI (g 3), vI (g 4), vI (g 5), vI (g 6), vI (g 7), vI (g 8), vI (g 9)]) at e1
  change S 9 = AI w 8 (F) at e2
  change S 10 = .inr (0, [.ref (gw_ad w 11), .ref (gw_ad w 12), .ref (gw_ad w 13), .ref (gw_ad w 14)]) at e3
  change S 11 = AI w 4 (C) at e4
  change S 12 = AI w 24 ((fl 6 L)) at e5
  change S 13 = AI w 24 ((fl 6 Q)) at e6
  change S 14 = AI w 4 (E) at e7
  change S 15 = .inr (2, [.ref (gw_ad w 16)]) at e8
  change S 16 = .inr (5, [vI (8), vI (63), .ref (gw_ad w 17), vI (nR)]) at e9
  change S 17 = AI w 504 (fl 63 R) at e10
  change S 18 = .inr (5, [vI (30), vI (22), .ref (gw_ad w 19), vI (nP)]) at e11
  change S 19 = AI w 660 (fl 22 P0) at e12
  change S 20 = .inr (5, [vI (20), vI (6), .ref (gw_ad w 21), vI (nN)]) at e13
  change S 21 = AI w 120 (fl 6 N) at e14
  change S 22 = .inr (5, [vI (20), vI (22), .ref (gw_ad w 23), vI (nK)]) at e15
  change S 23 = AI w 440 (fl 22 K) at e16
  refine g_iload_n (pc := 0) hX 1 rfl dX6_setting_0 ?_
  refine g_gets (pc := 1) hX hX.2.2.2.2.2.2.2.2.1.1 (List.mem_of_getElem? (i := 1) rfl) dX6_setting_1 ?_
  refine g_callT1 (pc := 4) (As := [vI (i), .ref (gw_t w 0)]) (st2 := []) hX (c_X6_isIndex_s0 (i := i) (by first | assumption | exact inI_mk (by omega) (by omega))) gX6_setting_X6_isIndex (n := 2) (hw := rfl) (hrc := rfl) (hrs := rfl) (hd := by decide +kernel) (hR := ⟨Nat.le_of_ble_eq_true rfl, Nat.le_of_ble_eq_true rfl⟩) (hn := rfl) (hst := rfl) (hsum := Nat.le_of_ble_eq_true rfl) (hdg := dX6_setting_4) ?_
  rintro _ S9 ⟨rfl, e9⟩
  rw [e9]
  clear e9 S9
  refine g_at (pc2 := 7) rfl rfl (st2 := [vI (bz (decide (0 ≤ i ∧ i < 8)))]) rfl (S2 := S) rfl ?_
  refine g_bif_eq (pc := 7) (tgt := 24) hX dX6_setting_7 (by decide) (fun c_7 => ?_) (fun c_7 => ?_)
  · skip
    refine g_ldc (pc := 24) hX (z := -1000001) (List.mem_of_getElem? (i := 4) rfl) (by decide +kernel) dX6_setting_24 ?_
    refine g_iret (pc := 26) hX hR dX6_setting_26 ?_
    try simp only [decide_eq_true_eq, decide_eq_false_iff_not] at c_7
    exact ⟨vI_c (if_neg (by omega)).symm, rfl⟩
  · skip
    have hidx := of_decide_eq_true c_7
    refine g_aload_n (pc := 10) hX 0 rfl dX6_setting_10 ?_
    refine g_get (pc := 11) hX (ci := 6) (fun _ h => List.mem_cons_of_mem _ (List.mem_append_left _ (List.mem_append_left _ (List.mem_append_right _ h)))) rfl 0 (by omega) d0 0 (by decide) (List.mem_of_getElem? (i := 2) rfl) rfl (v := .ref (gw_ad w 7)) rfl dX6_setting_11 ?_
    refine g_get (pc := 14) hX (ci := 4) (fun _ h => List.mem_cons_of_mem _ (List.mem_append_left _ (List.mem_append_right _ h))) rfl 7 (by omega) e0 0 (by decide) (List.mem_of_getElem? (i := 3) rfl) rfl (v := .ref (gw_ad w 8)) rfl dX6_setting_14 ?_
    refine g_iload_n (pc := 17) hX 1 rfl dX6_setting_17 ?_
    refine g_callV1 (pc := 18) (ci := 3) (As := [vI (i)]) (st2 := []) hX 8 (by omega) e1 rfl (c_X3_settingOf (g := g) (by omega) (by omega) e1 e2 (i := i) (by omega) (by omega)) gX6_setting_X3_settingOf (n := 1) (hw := rfl) (hrc := rfl) (hrs := rfl) (hd := by decide +kernel) (hR := ⟨Nat.le_of_ble_eq_true rfl, Nat.le_of_ble_eq_true rfl⟩) (hn := rfl) (hst := rfl) (hsum := Nat.le_of_ble_eq_true rfl) (hdg := dX6_setting_18) ?_
    rintro _ S9 ⟨rfl, e9⟩
    rw [e9]
    clear e9 S9
    refine g_at (pc2 := 21) rfl rfl (st2 := [vI (F i)]) rfl (S2 := S) rfl ?_
    refine g_goto (pc := 21) (tgt := 26) hX dX6_setting_21 (by decide) ?_
    refine g_iret (pc := 26) hX hR dX6_setting_26 ?_
    try simp only [decide_eq_true_eq, decide_eq_false_iff_not] at c_7
    exact ⟨vI_c (if_pos (by omega)).symm, rfl⟩

set_option maxHeartbeats 4000000 in
set_option maxRecDepth 100000 in
theorem c_X6_scale {w : gW} {l : Launch} {S : Nat → va_E} {pc j : Nat} {ty : Int} {B ρ T : Int → Int} {Tr : Int → Int → Int} {D : SD} {Z : Nat → SD} (hN : gw_N w = 92) (hd : deskAt w pc j ty B ρ T Tr D Z S) (hO : deskOK ty B ρ Tr D) {i : Int} (hi : inI i) :
    GM1 w l yX6_scale wsX6_scale { frames := 5, cells := 0, slots := 0, locals := 104 } [.ref (gw_ad w 0), vI (i)] S
      (fun v S' => v = vI (if 0 ≤ i ∧ i ≤ 10 then scNum (sF D) (sG D) i else -1000001) ∧ S' = S) := by
  refine GM.start (own := RX6) (n := "scale") (d := "(I)I") (by decide) rfl (Nat.le_of_ble_eq_true rfl) ?_
  intro X hX hR hXl
  subst hXl
  refine g_at rfl (lv2 := [(0, .ref (gw_ad w 0)), (1, vI (i))]) rfl rfl rfl ?_
  obtain ⟨⟨d0, d1, d2, d3, d4, d5, d6⟩, ⟨hS0, hB0⟩, hpa⟩ := id hd
  obtain ⟨F, g, C, E, L, Q, nR, R, nP, P0, nN, N, nK, K⟩ := D
  obtain ⟨⟨e0, e1, e2⟩, ⟨e3, e4, e5, e6, e7⟩, ⟨e8, e9, e10⟩⟩ := (id hS0)
  obtain ⟨⟨e11, e12⟩, ⟨e13, e14⟩, ⟨e15, e16⟩⟩ := (id hB0)
  change S 7 = .inr (4, [.ref (gw_ad w 8), .ref (gw_ad w 10), .ref (gw_ad w 15), .ref (gw_ad w 18), .ref (gw_ad w 20), .ref (gw_ad w 22)]) at e0
  change S 8 = .inr (3, [.ref (gw_ad w 9), vI (g 0), vI (g 1), vI (g 2), vI (g 3), vI (g 4), vI (g 5), vI (g 6), vI (g 7), vI (g 8), vI (g 9)]) at e1
  change S 9 = AI w 8 (F) at e2
  change S 10 = .inr (0, [.ref (gw_ad w 11), .ref (gw_ad w 12), .ref (gw_ad w 13), .ref (gw_ad w 14)]) at e3
  change S 11 = AI w 4 (C) at e4
  change S 12 = AI w 24 ((fl 6 L)) at e5
  change S 13 = AI w 24 ((fl 6 Q)) at e6
  change S 14 = AI w 4 (E) at e7
  change S 15 = .inr (2, [.ref (gw_ad w 16)]) at e8
  change S 16 = .inr (5, [vI (8), vI (63), .ref (gw_ad w 17), vI (nR)]) at e9
  change S 17 = AI w 504 (fl 63 R) at e10
  change S 18 = .inr (5, [vI (30), vI (22), .ref (gw_ad w 19), vI (nP)]) at e11
  change S 19 = AI w 660 (fl 22 P0) at e12
  change S 20 = .inr (5, [vI (20), vI (6), .ref (gw_ad w 21), vI (nN)]) at e13
  change S 21 = AI w 120 (fl 6 N) at e14
  change S 22 = .inr (5, [vI (20), vI (22), .ref (gw_ad w 23), vI (nK)]) at e15
  change S 23 = AI w 440 (fl 22 K) at e16
  obtain ⟨hD, hty, hBr, hBi, hrd, hTi⟩ := id hO
  obtain ⟨⟨⟨hF, hg⟩, hB, hU, hRR⟩, ⟨hnP, hPi, hPr⟩, ⟨hnN, hNi, hNr⟩, ⟨hnK, hKi, hKr⟩, hg3⟩ := id hD
  change scF F at hF
  change scG g at hg
  change bdOK C E L Q at hB
  change ruOK nR R at hU
  change ∀ i j, inI (R i j) at hRR
  change 0 ≤ nP ∧ nP ≤ 30 at hnP
  change ∀ i j, inI (P0 i j) at hPi
  change ∀ p, 0 ≤ p → p < nP → rowOK P0 p at hPr
  change 0 ≤ nN ∧ nN ≤ 20 at hnN
  change ∀ i j, inI (N i j) at hNi
  change nK = nN at hnK
  change ∀ i j, inI (K i j) at hKi
  change ∀ n, 0 ≤ n → n < nN → rowOK K n at hKr
  have hnRb : 0 ≤ nR ∧ nR ≤ 8 := hU.1
  refine g_iload_n (pc := 0) hX 1 rfl dX6_scale_0 ?_
  refine g_iconst (pc := 1) hX dX6_scale_1 ?_
  refine g_bipush (pc := 2) hX (by decide) dX6_scale_2 ?_
  refine g_callT1 (pc := 4) (As := [vI (i), vI (0), vI (10)]) (st2 := []) hX (c_X6_isWithin (x := i) (lo := 0) (hi := 10) (by first | assumption | exact inI_mk (by omega) (by omega)) (by first | assumption | exact inI_mk (by omega) (by omega)) (by first | assumption | exact inI_mk (by omega) (by omega))) gX6_scale_X6_isWithin (n := 3) (hw := rfl) (hrc := rfl) (hrs := rfl) (hd := by decide +kernel) (hR := ⟨Nat.le_of_ble_eq_true rfl, Nat.le_of_ble_eq_true rfl⟩) (hn := rfl) (hst := rfl) (hsum := Nat.le_of_ble_eq_true rfl) (hdg := dX6_scale_4) ?_
  rintro _ S9 ⟨rfl, e9⟩
  rw [e9]
  clear e9 S9
  refine g_at (pc2 := 7) rfl rfl (st2 := [vI (bz (decide (0 ≤ i ∧ i ≤ 10)))]) rfl (S2 := S) rfl ?_
  refine g_bif_eq (pc := 7) (tgt := 24) hX dX6_scale_7 (by decide) (fun c_7 => ?_) (fun c_7 => ?_)
  · skip
    refine g_ldc (pc := 24) hX (z := -1000001) (List.mem_of_getElem? (i := 3) rfl) (by decide +kernel) dX6_scale_24 ?_
    refine g_iret (pc := 26) hX hR dX6_scale_26 ?_
    try simp only [decide_eq_true_eq, decide_eq_false_iff_not] at c_7
    exact ⟨vI_c (if_neg (by omega)).symm, rfl⟩
  · skip
    have hidx := of_decide_eq_true c_7
    refine g_aload_n (pc := 10) hX 0 rfl dX6_scale_10 ?_
    refine g_get (pc := 11) hX (ci := 6) (fun _ h => List.mem_cons_of_mem _ (List.mem_append_left _ (List.mem_append_left _ (List.mem_append_right _ h)))) rfl 0 (by omega) d0 0 (by decide) (List.mem_of_getElem? (i := 1) rfl) rfl (v := .ref (gw_ad w 7)) rfl dX6_scale_11 ?_
    refine g_get (pc := 14) hX (ci := 4) (fun _ h => List.mem_cons_of_mem _ (List.mem_append_left _ (List.mem_append_right _ h))) rfl 7 (by omega) e0 0 (by decide) (List.mem_of_getElem? (i := 2) rfl) rfl (v := .ref (gw_ad w 8)) rfl dX6_scale_14 ?_
    refine g_iload_n (pc := 17) hX 1 rfl dX6_scale_17 ?_
    refine g_callV1 (pc := 18) (ci := 3) (As := [vI (i)]) (st2 := []) hX 8 (by omega) e1 rfl (c_X3_number (g := g) (by omega) (by omega) e1 e2 hF hg (i := i) (by omega) (by omega)) gX6_scale_X3_number (n := 1) (hw := rfl) (hrc := rfl) (hrs := rfl) (hd := by decide +kernel) (hR := ⟨Nat.le_of_ble_eq_true rfl, Nat.le_of_ble_eq_true rfl⟩) (hn := rfl) (hst := rfl) (hsum := Nat.le_of_ble_eq_true rfl) (hdg := dX6_scale_18) ?_
    rintro _ S9 ⟨rfl, e9⟩
    rw [e9]
    clear e9 S9
    refine g_at (pc2 := 21) rfl rfl (st2 := [vI (scNum F g i)]) rfl (S2 := S) rfl ?_
    refine g_goto (pc := 21) (tgt := 26) hX dX6_scale_21 (by decide) ?_
    refine g_iret (pc := 26) hX hR dX6_scale_26 ?_
    try simp only [decide_eq_true_eq, decide_eq_false_iff_not] at c_7
    exact ⟨vI_c (if_pos (by omega)).symm, rfl⟩

set_option maxHeartbeats 4000000 in
set_option maxRecDepth 100000 in
theorem c_X6_bandAt {w : gW} {l : Launch} {S : Nat → va_E} {pc j : Nat} {ty : Int} {B ρ T : Int → Int} {Tr : Int → Int → Int} {D : SD} {Z : Nat → SD} (hN : gw_N w = 92) (hd : deskAt w pc j ty B ρ T Tr D Z S) (hO : deskOK ty B ρ Tr D) {z i x : Int} (hz : inI z) (hi : inI i) (hx : inI x) :
    GM1 w l yX6_bandAt wsX6_bandAt { frames := 2, cells := 0, slots := 0, locals := 45 } [.ref (gw_ad w 0), vI (z), vI (i), vI (x)] S
      (fun v S' => v = vI (if (0 ≤ z ∧ z < 4 ∧ 0 ≤ i ∧ i < sC D z) ∧ 0 ≤ x ∧ x ≤ 1 then (if x = 0 then sL D z i else sQ D z i) else -1000001) ∧ S' = S) := by
  refine GM.start (own := RX6) (n := "bandAt") (d := "(III)I") (by decide) rfl (Nat.le_of_ble_eq_true rfl) ?_
  intro X hX hR hXl
  subst hXl
  refine g_at rfl (lv2 := [(0, .ref (gw_ad w 0)), (1, vI (z)), (2, vI (i)), (3, vI (x))]) rfl rfl rfl ?_
  obtain ⟨⟨d0, d1, d2, d3, d4, d5, d6⟩, ⟨hS0, hB0⟩, hpa⟩ := id hd
  obtain ⟨F, g, C, E, L, Q, nR, R, nP, P0, nN, N, nK, K⟩ := D
  obtain ⟨⟨e0, e1, e2⟩, ⟨e3, e4, e5, e6, e7⟩, ⟨e8, e9, e10⟩⟩ := (id hS0)
  obtain ⟨⟨e11, e12⟩, ⟨e13, e14⟩, ⟨e15, e16⟩⟩ := (id hB0)
  change S 7 = .inr (4, [.ref (gw_ad w 8), .ref (gw_ad w 10), .ref (gw_ad w 15), .ref (gw_ad w 18), .ref (gw_ad w 20), .ref (gw_ad w 22)]) at e0
  change S 8 = .inr (3, [.ref (gw_ad w 9), vI (g 0), vI (g 1), vI (g 2), vI (g 3), vI (g 4), vI (g 5), vI (g 6), vI (g 7), vI (g 8), vI (g 9)]) at e1
  change S 9 = AI w 8 (F) at e2
  change S 10 = .inr (0, [.ref (gw_ad w 11), .ref (gw_ad w 12), .ref (gw_ad w 13), .ref (gw_ad w 14)]) at e3
  change S 11 = AI w 4 (C) at e4
  change S 12 = AI w 24 ((fl 6 L)) at e5
  change S 13 = AI w 24 ((fl 6 Q)) at e6
  change S 14 = AI w 4 (E) at e7
  change S 15 = .inr (2, [.ref (gw_ad w 16)]) at e8
  change S 16 = .inr (5, [vI (8), vI (63), .ref (gw_ad w 17), vI (nR)]) at e9
  change S 17 = AI w 504 (fl 63 R) at e10
  change S 18 = .inr (5, [vI (30), vI (22), .ref (gw_ad w 19), vI (nP)]) at e11
  change S 19 = AI w 660 (fl 22 P0) at e12
  change S 20 = .inr (5, [vI (20), vI (6), .ref (gw_ad w 21), vI (nN)]) at e13
  change S 21 = AI w 120 (fl 6 N) at e14
  change S 22 = .inr (5, [vI (20), vI (22), .ref (gw_ad w 23), vI (nK)]) at e15
  change S 23 = AI w 440 (fl 22 K) at e16
  obtain ⟨hD, hty, hBr, hBi, hrd, hTi⟩ := id hO
  obtain ⟨⟨⟨hF, hg⟩, hB, hU, hRR⟩, ⟨hnP, hPi, hPr⟩, ⟨hnN, hNi, hNr⟩, ⟨hnK, hKi, hKr⟩, hg3⟩ := id hD
  change scF F at hF
  change scG g at hg
  change bdOK C E L Q at hB
  change ruOK nR R at hU
  change ∀ i j, inI (R i j) at hRR
  change 0 ≤ nP ∧ nP ≤ 30 at hnP
  change ∀ i j, inI (P0 i j) at hPi
  change ∀ p, 0 ≤ p → p < nP → rowOK P0 p at hPr
  change 0 ≤ nN ∧ nN ≤ 20 at hnN
  change ∀ i j, inI (N i j) at hNi
  change nK = nN at hnK
  change ∀ i j, inI (K i j) at hKi
  change ∀ n, 0 ≤ n → n < nN → rowOK K n at hKr
  have hnRb : 0 ≤ nR ∧ nR ≤ 8 := hU.1
  refine g_aload_n (pc := 0) hX 0 rfl dX6_bandAt_0 ?_
  refine g_get (pc := 1) hX (ci := 6) (fun _ h => List.mem_cons_of_mem _ (List.mem_append_left _ (List.mem_append_left _ (List.mem_append_right _ h)))) rfl 0 (by omega) d0 0 (by decide) (List.mem_of_getElem? (i := 1) rfl) rfl (v := .ref (gw_ad w 7)) rfl dX6_bandAt_1 ?_
  refine g_get (pc := 4) hX (ci := 4) (fun _ h => List.mem_cons_of_mem _ (List.mem_append_left _ (List.mem_append_right _ h))) rfl 7 (by omega) e0 1 (by decide) (List.mem_of_getElem? (i := 2) rfl) rfl (v := .ref (gw_ad w 10)) rfl dX6_bandAt_4 ?_
  refine g_iload_n (pc := 7) hX 1 rfl dX6_bandAt_7 ?_
  refine g_iload_n (pc := 8) hX 2 rfl dX6_bandAt_8 ?_
  refine g_callV1 (pc := 9) (ci := 0) (As := [vI (z), vI (i)]) (st2 := []) hX 10 (by omega) e3 rfl (c_X0_hasBand (by omega) (by omega) (by omega) (by omega) (by omega) e3 e4 e5 e6 e7 (z := z) (i := i) hB.1 (by first | assumption | exact inI_mk (by omega) (by omega)) (by first | assumption | exact inI_mk (by omega) (by omega))) gX6_bandAt_X0_hasBand (n := 2) (hw := rfl) (hrc := rfl) (hrs := rfl) (hd := by decide +kernel) (hR := ⟨Nat.le_of_ble_eq_true rfl, Nat.le_of_ble_eq_true rfl⟩) (hn := rfl) (hst := rfl) (hsum := Nat.le_of_ble_eq_true rfl) (hdg := dX6_bandAt_9) ?_
  rintro _ S9 ⟨rfl, e9⟩
  rw [e9]
  clear e9 S9
  refine g_at (pc2 := 12) rfl rfl (st2 := [vI (bz (decide (0 ≤ z ∧ z < 4 ∧ 0 ≤ i ∧ i < C z)))]) rfl (S2 := S) rfl ?_
  refine g_bif_eq (pc := 12) (tgt := 24) hX dX6_bandAt_12 (by decide) (fun c_12 => ?_) (fun c_12 => ?_)
  · skip
    refine g_ldc (pc := 24) hX (z := -1000001) (List.mem_of_getElem? (i := 3) rfl) (by decide +kernel) dX6_bandAt_24 ?_
    refine g_iret (pc := 26) hX hR dX6_bandAt_26 ?_
    try simp only [decide_eq_true_eq, decide_eq_false_iff_not] at c_12
    exact ⟨vI_c (if_neg (by show ¬ ((0 ≤ z ∧ z < 4 ∧ 0 ≤ i ∧ i < C z) ∧ 0 ≤ x ∧ x ≤ 1); omega)).symm, rfl⟩
  · skip
    have hidx := of_decide_eq_true c_12
    refine g_iload_n (pc := 15) hX 3 rfl dX6_bandAt_15 ?_
    refine g_iconst (pc := 16) hX dX6_bandAt_16 ?_
    refine g_iconst (pc := 17) hX dX6_bandAt_17 ?_
    refine g_callT1 (pc := 18) (As := [vI (x), vI (0), vI (1)]) (st2 := []) hX (c_X6_isWithin (x := x) (lo := 0) (hi := 1) (by first | assumption | exact inI_mk (by omega) (by omega)) (by first | assumption | exact inI_mk (by omega) (by omega)) (by first | assumption | exact inI_mk (by omega) (by omega))) gX6_bandAt_X6_isWithin (n := 3) (hw := rfl) (hrc := rfl) (hrs := rfl) (hd := by decide +kernel) (hR := ⟨Nat.le_of_ble_eq_true rfl, Nat.le_of_ble_eq_true rfl⟩) (hn := rfl) (hst := rfl) (hsum := Nat.le_of_ble_eq_true rfl) (hdg := dX6_bandAt_18) ?_
    rintro _ S9 ⟨rfl, e9⟩
    rw [e9]
    clear e9 S9
    refine g_at (pc2 := 21) rfl rfl (st2 := [vI (bz (decide (0 ≤ x ∧ x ≤ 1)))]) rfl (S2 := S) rfl ?_
    refine g_bif_ne (pc := 21) (tgt := 27) hX dX6_bandAt_21 (by decide) (fun c_21 => ?_) (fun c_21 => ?_)
    · skip
      refine g_iload_n (pc := 27) hX 3 rfl dX6_bandAt_27 ?_
      refine g_if_ne (pc := 28) (tgt := 46) hX (by first | assumption | exact inI_mk (by omega) (by omega)) dX6_bandAt_28 (by decide) (fun c_28 => ?_) (fun c_28 => ?_)
      · skip
        refine g_aload_n (pc := 46) hX 0 rfl dX6_bandAt_46 ?_
        refine g_get (pc := 47) hX (ci := 6) (fun _ h => List.mem_cons_of_mem _ (List.mem_append_left _ (List.mem_append_left _ (List.mem_append_right _ h)))) rfl 0 (by omega) d0 0 (by decide) (List.mem_of_getElem? (i := 1) rfl) rfl (v := .ref (gw_ad w 7)) rfl dX6_bandAt_47 ?_
        refine g_get (pc := 50) hX (ci := 4) (fun _ h => List.mem_cons_of_mem _ (List.mem_append_left _ (List.mem_append_right _ h))) rfl 7 (by omega) e0 1 (by decide) (List.mem_of_getElem? (i := 2) rfl) rfl (v := .ref (gw_ad w 10)) rfl dX6_bandAt_50 ?_
        refine g_iload_n (pc := 53) hX 1 rfl dX6_bandAt_53 ?_
        refine g_iload_n (pc := 54) hX 2 rfl dX6_bandAt_54 ?_
        refine g_callV1 (pc := 55) (ci := 0) (As := [vI (z), vI (i)]) (st2 := []) hX 10 (by omega) e3 rfl (c_X0_priceOf (by omega) (by omega) (by omega) (by omega) (by omega) e3 e4 e5 e6 e7 (z := z) (i := i) hB.1 (by omega) (by omega) (by first | assumption | exact inI_mk (by omega) (by omega))) gX6_bandAt_X0_priceOf (n := 2) (hw := rfl) (hrc := rfl) (hrs := rfl) (hd := by decide +kernel) (hR := ⟨Nat.le_of_ble_eq_true rfl, Nat.le_of_ble_eq_true rfl⟩) (hn := rfl) (hst := rfl) (hsum := Nat.le_of_ble_eq_true rfl) (hdg := dX6_bandAt_55) ?_
        rintro _ S9 ⟨rfl, e9⟩
        rw [e9]
        clear e9 S9
        refine g_at (pc2 := 58) rfl rfl (st2 := [vI (bl C Q z i)]) rfl (S2 := S) rfl ?_
        refine g_iret (pc := 58) hX hR dX6_bandAt_58 ?_
        try simp only [decide_eq_true_eq, decide_eq_false_iff_not] at c_12 c_21 c_28
        refine ⟨vI_c ?_, rfl⟩
        rw [if_pos (show (0 ≤ z ∧ z < 4 ∧ 0 ≤ i ∧ i < sC (F, g, C, E, L, Q, nR, R, nP, P0, nN, N, nK, K) z) ∧ 0 ≤ x ∧ x ≤ 1 from ⟨hidx, by omega⟩), if_neg (by omega), bl_in (by omega) (by omega)]
      · skip
        refine g_aload_n (pc := 31) hX 0 rfl dX6_bandAt_31 ?_
        refine g_get (pc := 32) hX (ci := 6) (fun _ h => List.mem_cons_of_mem _ (List.mem_append_left _ (List.mem_append_left _ (List.mem_append_right _ h)))) rfl 0 (by omega) d0 0 (by decide) (List.mem_of_getElem? (i := 1) rfl) rfl (v := .ref (gw_ad w 7)) rfl dX6_bandAt_32 ?_
        refine g_get (pc := 35) hX (ci := 4) (fun _ h => List.mem_cons_of_mem _ (List.mem_append_left _ (List.mem_append_right _ h))) rfl 7 (by omega) e0 1 (by decide) (List.mem_of_getElem? (i := 2) rfl) rfl (v := .ref (gw_ad w 10)) rfl dX6_bandAt_35 ?_
        refine g_iload_n (pc := 38) hX 1 rfl dX6_bandAt_38 ?_
        refine g_iload_n (pc := 39) hX 2 rfl dX6_bandAt_39 ?_
        refine g_callV1 (pc := 40) (ci := 0) (As := [vI (z), vI (i)]) (st2 := []) hX 10 (by omega) e3 rfl (c_X0_limitOf (by omega) (by omega) (by omega) (by omega) (by omega) e3 e4 e5 e6 e7 (z := z) (i := i) hB.1 (by omega) (by omega) (by first | assumption | exact inI_mk (by omega) (by omega))) gX6_bandAt_X0_limitOf (n := 2) (hw := rfl) (hrc := rfl) (hrs := rfl) (hd := by decide +kernel) (hR := ⟨Nat.le_of_ble_eq_true rfl, Nat.le_of_ble_eq_true rfl⟩) (hn := rfl) (hst := rfl) (hsum := Nat.le_of_ble_eq_true rfl) (hdg := dX6_bandAt_40) ?_
        rintro _ S9 ⟨rfl, e9⟩
        rw [e9]
        clear e9 S9
        refine g_at (pc2 := 43) rfl rfl (st2 := [vI (bl C L z i)]) rfl (S2 := S) rfl ?_
        refine g_goto (pc := 43) (tgt := 58) hX dX6_bandAt_43 (by decide) ?_
        refine g_iret (pc := 58) hX hR dX6_bandAt_58 ?_
        try simp only [decide_eq_true_eq, decide_eq_false_iff_not] at c_12 c_21 c_28
        refine ⟨vI_c ?_, rfl⟩
        rw [if_pos (show (0 ≤ z ∧ z < 4 ∧ 0 ≤ i ∧ i < sC (F, g, C, E, L, Q, nR, R, nP, P0, nN, N, nK, K) z) ∧ 0 ≤ x ∧ x ≤ 1 from ⟨hidx, by omega⟩), if_pos (by omega), bl_in (by omega) (by omega)]
    · skip
      refine g_ldc (pc := 24) hX (z := -1000001) (List.mem_of_getElem? (i := 3) rfl) (by decide +kernel) dX6_bandAt_24 ?_
      refine g_iret (pc := 26) hX hR dX6_bandAt_26 ?_
      try simp only [decide_eq_true_eq, decide_eq_false_iff_not] at c_12 c_21
      exact ⟨vI_c (if_neg (by show ¬ ((0 ≤ z ∧ z < 4 ∧ 0 ≤ i ∧ i < C z) ∧ 0 ≤ x ∧ x ≤ 1); omega)).symm, rfl⟩

set_option maxHeartbeats 4000000 in
set_option maxRecDepth 100000 in
theorem c_X6_rules {w : gW} {l : Launch} {S : Nat → va_E} {pc j : Nat} {ty : Int} {B ρ T : Int → Int} {Tr : Int → Int → Int} {D : SD} {Z : Nat → SD} (hN : gw_N w = 92) (hd : deskAt w pc j ty B ρ T Tr D Z S) :
    GM1 w l yX6_rules wsX6_rules { frames := 1, cells := 0, slots := 0, locals := 20 } [.ref (gw_ad w 0)] S
      (fun v S' => v = vI (snR D) ∧ S' = S) := by
  refine GM.start (own := RX6) (n := "rules") (d := "()I") (by decide) rfl (Nat.le_of_ble_eq_true rfl) ?_
  intro X hX hR hXl
  subst hXl
  refine g_at rfl (lv2 := [(0, .ref (gw_ad w 0))]) rfl rfl rfl ?_
  obtain ⟨⟨d0, d1, d2, d3, d4, d5, d6⟩, ⟨hS0, hB0⟩, hpa⟩ := id hd
  obtain ⟨F, g, C, E, L, Q, nR, R, nP, P0, nN, N, nK, K⟩ := D
  obtain ⟨⟨e0, e1, e2⟩, ⟨e3, e4, e5, e6, e7⟩, ⟨e8, e9, e10⟩⟩ := (id hS0)
  obtain ⟨⟨e11, e12⟩, ⟨e13, e14⟩, ⟨e15, e16⟩⟩ := (id hB0)
  change S 7 = .inr (4, [.ref (gw_ad w 8), .ref (gw_ad w 10), .ref (gw_ad w 15), .ref (gw_ad w 18), .ref (gw_ad w 20), .ref (gw_ad w 22)]) at e0
  change S 8 = .inr (3, [.ref (gw_ad w 9), vI (g 0), vI (g 1), vI (g 2), vI (g 3), vI (g 4), vI (g 5), vI (g 6), vI (g 7), vI (g 8), vI (g 9)]) at e1
  change S 9 = AI w 8 (F) at e2
  change S 10 = .inr (0, [.ref (gw_ad w 11), .ref (gw_ad w 12), .ref (gw_ad w 13), .ref (gw_ad w 14)]) at e3
  change S 11 = AI w 4 (C) at e4
  change S 12 = AI w 24 ((fl 6 L)) at e5
  change S 13 = AI w 24 ((fl 6 Q)) at e6
  change S 14 = AI w 4 (E) at e7
  change S 15 = .inr (2, [.ref (gw_ad w 16)]) at e8
  change S 16 = .inr (5, [vI (8), vI (63), .ref (gw_ad w 17), vI (nR)]) at e9
  change S 17 = AI w 504 (fl 63 R) at e10
  change S 18 = .inr (5, [vI (30), vI (22), .ref (gw_ad w 19), vI (nP)]) at e11
  change S 19 = AI w 660 (fl 22 P0) at e12
  change S 20 = .inr (5, [vI (20), vI (6), .ref (gw_ad w 21), vI (nN)]) at e13
  change S 21 = AI w 120 (fl 6 N) at e14
  change S 22 = .inr (5, [vI (20), vI (22), .ref (gw_ad w 23), vI (nK)]) at e15
  change S 23 = AI w 440 (fl 22 K) at e16
  refine g_aload_n (pc := 0) hX 0 rfl dX6_rules_0 ?_
  refine g_get (pc := 1) hX (ci := 6) (fun _ h => List.mem_cons_of_mem _ (List.mem_append_left _ (List.mem_append_left _ (List.mem_append_left _ (List.mem_append_right _ h))))) rfl 0 (by omega) d0 0 (by decide) (List.mem_of_getElem? (i := 1) rfl) rfl (v := .ref (gw_ad w 7)) rfl dX6_rules_1 ?_
  refine g_get (pc := 4) hX (ci := 4) (fun _ h => List.mem_cons_of_mem _ (List.mem_append_left _ (List.mem_append_left _ (List.mem_append_right _ h)))) rfl 7 (by omega) e0 2 (by decide) (List.mem_of_getElem? (i := 2) rfl) rfl (v := .ref (gw_ad w 15)) rfl dX6_rules_4 ?_
  refine g_callV1 (pc := 7) (ci := 2) (As := []) (st2 := []) hX 15 (by omega) e8 rfl (c_X2_count (by omega) (by omega) (by omega) e8 e9 e10) gX6_rules_X2_count (n := 0) (hw := rfl) (hrc := rfl) (hrs := rfl) (hd := by decide +kernel) (hR := ⟨Nat.le_of_ble_eq_true rfl, Nat.le_of_ble_eq_true rfl⟩) (hn := rfl) (hst := rfl) (hsum := Nat.le_of_ble_eq_true rfl) (hdg := dX6_rules_7) ?_
  rintro _ S9 ⟨rfl, e9⟩
  rw [e9]
  clear e9 S9
  refine g_at (pc2 := 10) rfl rfl (st2 := [vI (nR)]) rfl (S2 := S) rfl ?_
  refine g_iret (pc := 10) hX hR dX6_rules_10 ?_
  exact ⟨rfl, rfl⟩

set_option maxHeartbeats 4000000 in
set_option maxRecDepth 100000 in
theorem c_X6_parcels {w : gW} {l : Launch} {S : Nat → va_E} {pc j : Nat} {ty : Int} {B ρ T : Int → Int} {Tr : Int → Int → Int} {D : SD} {Z : Nat → SD} (hN : gw_N w = 92) (hd : deskAt w pc j ty B ρ T Tr D Z S) :
    GM1 w l yX6_parcels wsX6_parcels { frames := 0, cells := 0, slots := 0, locals := 0 } [.ref (gw_ad w 0)] S
      (fun v S' => v = vI (snP D) ∧ S' = S) := by
  refine GM.start (own := RX6) (n := "parcels") (d := "()I") (by decide) rfl (Nat.le_of_ble_eq_true rfl) ?_
  intro X hX hR hXl
  subst hXl
  refine g_at rfl (lv2 := [(0, .ref (gw_ad w 0))]) rfl rfl rfl ?_
  obtain ⟨⟨d0, d1, d2, d3, d4, d5, d6⟩, ⟨hS0, hB0⟩, hpa⟩ := id hd
  obtain ⟨F, g, C, E, L, Q, nR, R, nP, P0, nN, N, nK, K⟩ := D
  obtain ⟨⟨e0, e1, e2⟩, ⟨e3, e4, e5, e6, e7⟩, ⟨e8, e9, e10⟩⟩ := (id hS0)
  obtain ⟨⟨e11, e12⟩, ⟨e13, e14⟩, ⟨e15, e16⟩⟩ := (id hB0)
  change S 7 = .inr (4, [.ref (gw_ad w 8), .ref (gw_ad w 10), .ref (gw_ad w 15), .ref (gw_ad w 18), .ref (gw_ad w 20), .ref (gw_ad w 22)]) at e0
  change S 8 = .inr (3, [.ref (gw_ad w 9), vI (g 0), vI (g 1), vI (g 2), vI (g 3), vI (g 4), vI (g 5), vI (g 6), vI (g 7), vI (g 8), vI (g 9)]) at e1
  change S 9 = AI w 8 (F) at e2
  change S 10 = .inr (0, [.ref (gw_ad w 11), .ref (gw_ad w 12), .ref (gw_ad w 13), .ref (gw_ad w 14)]) at e3
  change S 11 = AI w 4 (C) at e4
  change S 12 = AI w 24 ((fl 6 L)) at e5
  change S 13 = AI w 24 ((fl 6 Q)) at e6
  change S 14 = AI w 4 (E) at e7
  change S 15 = .inr (2, [.ref (gw_ad w 16)]) at e8
  change S 16 = .inr (5, [vI (8), vI (63), .ref (gw_ad w 17), vI (nR)]) at e9
  change S 17 = AI w 504 (fl 63 R) at e10
  change S 18 = .inr (5, [vI (30), vI (22), .ref (gw_ad w 19), vI (nP)]) at e11
  change S 19 = AI w 660 (fl 22 P0) at e12
  change S 20 = .inr (5, [vI (20), vI (6), .ref (gw_ad w 21), vI (nN)]) at e13
  change S 21 = AI w 120 (fl 6 N) at e14
  change S 22 = .inr (5, [vI (20), vI (22), .ref (gw_ad w 23), vI (nK)]) at e15
  change S 23 = AI w 440 (fl 22 K) at e16
  refine g_aload_n (pc := 0) hX 0 rfl dX6_parcels_0 ?_
  refine g_get (pc := 1) hX (ci := 6) (fun _ h => List.mem_cons_of_mem _ (List.mem_append_left _ (List.mem_append_left _ (List.mem_append_right _ h)))) rfl 0 (by omega) d0 0 (by decide) (List.mem_of_getElem? (i := 1) rfl) rfl (v := .ref (gw_ad w 7)) rfl dX6_parcels_1 ?_
  refine g_get (pc := 4) hX (ci := 4) (fun _ h => List.mem_cons_of_mem _ (List.mem_append_left _ (List.mem_append_right _ h))) rfl 7 (by omega) e0 3 (by decide) (List.mem_of_getElem? (i := 2) rfl) rfl (v := .ref (gw_ad w 18)) rfl dX6_parcels_4 ?_
  refine g_get (pc := 7) hX (ci := 5) (fun _ h => List.mem_cons_of_mem _ (List.mem_append_right _ h)) rfl 18 (by omega) e11 3 (by decide) (List.mem_of_getElem? (i := 3) rfl) rfl (v := vI (nP)) rfl dX6_parcels_7 ?_
  refine g_iret (pc := 10) hX hR dX6_parcels_10 ?_
  exact ⟨rfl, rfl⟩

set_option maxHeartbeats 4000000 in
set_option maxRecDepth 100000 in
theorem c_X6_notes {w : gW} {l : Launch} {S : Nat → va_E} {pc j : Nat} {ty : Int} {B ρ T : Int → Int} {Tr : Int → Int → Int} {D : SD} {Z : Nat → SD} (hN : gw_N w = 92) (hd : deskAt w pc j ty B ρ T Tr D Z S) :
    GM1 w l yX6_notes wsX6_notes { frames := 0, cells := 0, slots := 0, locals := 0 } [.ref (gw_ad w 0)] S
      (fun v S' => v = vI (snN D) ∧ S' = S) := by
  refine GM.start (own := RX6) (n := "notes") (d := "()I") (by decide) rfl (Nat.le_of_ble_eq_true rfl) ?_
  intro X hX hR hXl
  subst hXl
  refine g_at rfl (lv2 := [(0, .ref (gw_ad w 0))]) rfl rfl rfl ?_
  obtain ⟨⟨d0, d1, d2, d3, d4, d5, d6⟩, ⟨hS0, hB0⟩, hpa⟩ := id hd
  obtain ⟨F, g, C, E, L, Q, nR, R, nP, P0, nN, N, nK, K⟩ := D
  obtain ⟨⟨e0, e1, e2⟩, ⟨e3, e4, e5, e6, e7⟩, ⟨e8, e9, e10⟩⟩ := (id hS0)
  obtain ⟨⟨e11, e12⟩, ⟨e13, e14⟩, ⟨e15, e16⟩⟩ := (id hB0)
  change S 7 = .inr (4, [.ref (gw_ad w 8), .ref (gw_ad w 10), .ref (gw_ad w 15), .ref (gw_ad w 18), .ref (gw_ad w 20), .ref (gw_ad w 22)]) at e0
  change S 8 = .inr (3, [.ref (gw_ad w 9), vI (g 0), vI (g 1), vI (g 2), vI (g 3), vI (g 4), vI (g 5), vI (g 6), vI (g 7), vI (g 8), vI (g 9)]) at e1
  change S 9 = AI w 8 (F) at e2
  change S 10 = .inr (0, [.ref (gw_ad w 11), .ref (gw_ad w 12), .ref (gw_ad w 13), .ref (gw_ad w 14)]) at e3
  change S 11 = AI w 4 (C) at e4
  change S 12 = AI w 24 ((fl 6 L)) at e5
  change S 13 = AI w 24 ((fl 6 Q)) at e6
  change S 14 = AI w 4 (E) at e7
  change S 15 = .inr (2, [.ref (gw_ad w 16)]) at e8
  change S 16 = .inr (5, [vI (8), vI (63), .ref (gw_ad w 17), vI (nR)]) at e9
  change S 17 = AI w 504 (fl 63 R) at e10
  change S 18 = .inr (5, [vI (30), vI (22), .ref (gw_ad w 19), vI (nP)]) at e11
  change S 19 = AI w 660 (fl 22 P0) at e12
  change S 20 = .inr (5, [vI (20), vI (6), .ref (gw_ad w 21), vI (nN)]) at e13
  change S 21 = AI w 120 (fl 6 N) at e14
  change S 22 = .inr (5, [vI (20), vI (22), .ref (gw_ad w 23), vI (nK)]) at e15
  change S 23 = AI w 440 (fl 22 K) at e16
  refine g_aload_n (pc := 0) hX 0 rfl dX6_notes_0 ?_
  refine g_get (pc := 1) hX (ci := 6) (fun _ h => List.mem_cons_of_mem _ (List.mem_append_left _ (List.mem_append_left _ (List.mem_append_right _ h)))) rfl 0 (by omega) d0 0 (by decide) (List.mem_of_getElem? (i := 1) rfl) rfl (v := .ref (gw_ad w 7)) rfl dX6_notes_1 ?_
  refine g_get (pc := 4) hX (ci := 4) (fun _ h => List.mem_cons_of_mem _ (List.mem_append_left _ (List.mem_append_right _ h))) rfl 7 (by omega) e0 4 (by decide) (List.mem_of_getElem? (i := 2) rfl) rfl (v := .ref (gw_ad w 20)) rfl dX6_notes_4 ?_
  refine g_get (pc := 7) hX (ci := 5) (fun _ h => List.mem_cons_of_mem _ (List.mem_append_right _ h)) rfl 20 (by omega) e13 3 (by decide) (List.mem_of_getElem? (i := 3) rfl) rfl (v := vI (nN)) rfl dX6_notes_7 ?_
  refine g_iret (pc := 10) hX hR dX6_notes_10 ?_
  exact ⟨rfl, rfl⟩

set_option maxHeartbeats 4000000 in
set_option maxRecDepth 100000 in
theorem c_X6_openNote {w : gW} {l : Launch} {S : Nat → va_E} {pc j : Nat} {ty : Int} {B ρ T : Int → Int} {Tr : Int → Int → Int} {D : SD} {Z : Nat → SD} (hN : gw_N w = 92) (hd : deskAt w pc j ty B ρ T Tr D Z S) (hO : deskOK ty B ρ Tr D) {p : Int} (hp : inI p) :
    GM1 w l yX6_openNote wsX6_openNote { frames := 1, cells := 0, slots := 0, locals := 22 } [.ref (gw_ad w 0), vI (p)] S
      (fun v S' => v = vI (openZ D p) ∧ S' = S) := by
  refine GM.start (own := RX6) (n := "openNote") (d := "(I)I") (by decide) rfl (Nat.le_of_ble_eq_true rfl) ?_
  intro X hX hR hXl
  subst hXl
  refine g_at rfl (lv2 := [(0, .ref (gw_ad w 0)), (1, vI (p))]) rfl rfl rfl ?_
  obtain ⟨⟨d0, d1, d2, d3, d4, d5, d6⟩, ⟨hS0, hB0⟩, hpa⟩ := id hd
  obtain ⟨F, g, C, E, L, Q, nR, R, nP, P0, nN, N, nK, K⟩ := D
  obtain ⟨⟨e0, e1, e2⟩, ⟨e3, e4, e5, e6, e7⟩, ⟨e8, e9, e10⟩⟩ := (id hS0)
  obtain ⟨⟨e11, e12⟩, ⟨e13, e14⟩, ⟨e15, e16⟩⟩ := (id hB0)
  change S 7 = .inr (4, [.ref (gw_ad w 8), .ref (gw_ad w 10), .ref (gw_ad w 15), .ref (gw_ad w 18), .ref (gw_ad w 20), .ref (gw_ad w 22)]) at e0
  change S 8 = .inr (3, [.ref (gw_ad w 9), vI (g 0), vI (g 1), vI (g 2), vI (g 3), vI (g 4), vI (g 5), vI (g 6), vI (g 7), vI (g 8), vI (g 9)]) at e1
  change S 9 = AI w 8 (F) at e2
  change S 10 = .inr (0, [.ref (gw_ad w 11), .ref (gw_ad w 12), .ref (gw_ad w 13), .ref (gw_ad w 14)]) at e3
  change S 11 = AI w 4 (C) at e4
  change S 12 = AI w 24 ((fl 6 L)) at e5
  change S 13 = AI w 24 ((fl 6 Q)) at e6
  change S 14 = AI w 4 (E) at e7
  change S 15 = .inr (2, [.ref (gw_ad w 16)]) at e8
  change S 16 = .inr (5, [vI (8), vI (63), .ref (gw_ad w 17), vI (nR)]) at e9
  change S 17 = AI w 504 (fl 63 R) at e10
  change S 18 = .inr (5, [vI (30), vI (22), .ref (gw_ad w 19), vI (nP)]) at e11
  change S 19 = AI w 660 (fl 22 P0) at e12
  change S 20 = .inr (5, [vI (20), vI (6), .ref (gw_ad w 21), vI (nN)]) at e13
  change S 21 = AI w 120 (fl 6 N) at e14
  change S 22 = .inr (5, [vI (20), vI (22), .ref (gw_ad w 23), vI (nK)]) at e15
  change S 23 = AI w 440 (fl 22 K) at e16
  obtain ⟨hD, hty, hBr, hBi, hrd, hTi⟩ := id hO
  obtain ⟨⟨⟨hF, hg⟩, hB, hU, hRR⟩, ⟨hnP, hPi, hPr⟩, ⟨hnN, hNi, hNr⟩, ⟨hnK, hKi, hKr⟩, hg3⟩ := id hD
  change scF F at hF
  change scG g at hg
  change bdOK C E L Q at hB
  change ruOK nR R at hU
  change ∀ i j, inI (R i j) at hRR
  change 0 ≤ nP ∧ nP ≤ 30 at hnP
  change ∀ i j, inI (P0 i j) at hPi
  change ∀ p, 0 ≤ p → p < nP → rowOK P0 p at hPr
  change 0 ≤ nN ∧ nN ≤ 20 at hnN
  change ∀ i j, inI (N i j) at hNi
  change nK = nN at hnK
  change ∀ i j, inI (K i j) at hKi
  change ∀ n, 0 ≤ n → n < nN → rowOK K n at hKr
  have hnRb : 0 ≤ nR ∧ nR ≤ 8 := hU.1
  refine g_iconst (pc := 0) hX dX6_openNote_0 ?_
  refine g_istore_n (pc := 1) hX (lv2 := [(2, vI (0)), (0, .ref (gw_ad w 0)), (1, vI (p))]) rfl (by decide) rfl dX6_openNote_1 ?_
  have loop : ∀ (n0 : Nat) (c : Int), 0 ≤ c → c ≤ nN → nN - c < n0 → (opN N p (nN - c).toNat c = openZ (F, g, C, E, L, Q, nR, R, nP, P0, nN, N, nK, K) p) → G w { frames := 1, cells := 0, slots := 0, locals := 22 } X 3 2 [(2, vI (c)), (0, .ref (gw_ad w 0)), (1, vI (p))] [] S := by
    intro n0
    induction n0 with
    | zero => intro c  h1c h2c h3c; exact absurd h3c (by omega)
    | succ n0 ihloop =>
      intro c  h1c h2c h3c hb
      have hc : inI c := inI_mk (by omega) (by omega)
      refine g_iload_n (pc := 2) hX 0 rfl dX6_openNote_2 ?_
      refine g_aload_n (pc := 3) hX 1 rfl dX6_openNote_3 ?_
      refine g_get (pc := 4) hX (ci := 6) (fun _ h => List.mem_cons_of_mem _ (List.mem_append_left _ (List.mem_append_left _ (List.mem_append_right _ h)))) rfl 0 (by omega) d0 0 (by decide) (List.mem_of_getElem? (i := 1) rfl) rfl (v := .ref (gw_ad w 7)) rfl dX6_openNote_4 ?_
      refine g_get (pc := 7) hX (ci := 4) (fun _ h => List.mem_cons_of_mem _ (List.mem_append_left _ (List.mem_append_right _ h))) rfl 7 (by omega) e0 4 (by decide) (List.mem_of_getElem? (i := 2) rfl) rfl (v := .ref (gw_ad w 20)) rfl dX6_openNote_7 ?_
      refine g_get (pc := 10) hX (ci := 5) (fun _ h => List.mem_cons_of_mem _ (List.mem_append_right _ h)) rfl 20 (by omega) e13 3 (by decide) (List.mem_of_getElem? (i := 3) rfl) rfl (v := vI (nN)) rfl dX6_openNote_10 ?_
      refine g_icmp_ge (pc := 13) (tgt := 55) hX (by first | assumption | exact inI_mk (by omega) (by omega)) (by first | assumption | exact inI_mk (by omega) (by omega)) dX6_openNote_13 (by decide) (fun c_13 => ?_) (fun c_13 => ?_)
      · skip
        refine g_ldc (pc := 55) hX (z := -1000009) (List.mem_of_getElem? (i := 4) rfl) (by decide +kernel) dX6_openNote_55 ?_
        refine g_iret (pc := 57) hX hR dX6_openNote_57 ?_
        rw [show (nN - c).toNat = 0 by omega] at hb
        exact ⟨vI_c hb, rfl⟩
      · skip
        refine g_aload_n (pc := 16) hX 1 rfl dX6_openNote_16 ?_
        refine g_get (pc := 17) hX (ci := 6) (fun _ h => List.mem_cons_of_mem _ (List.mem_append_left _ (List.mem_append_left _ (List.mem_append_right _ h)))) rfl 0 (by omega) d0 0 (by decide) (List.mem_of_getElem? (i := 1) rfl) rfl (v := .ref (gw_ad w 7)) rfl dX6_openNote_17 ?_
        refine g_get (pc := 20) hX (ci := 4) (fun _ h => List.mem_cons_of_mem _ (List.mem_append_left _ (List.mem_append_right _ h))) rfl 7 (by omega) e0 4 (by decide) (List.mem_of_getElem? (i := 2) rfl) rfl (v := .ref (gw_ad w 20)) rfl dX6_openNote_20 ?_
        refine g_iload_n (pc := 23) hX 0 rfl dX6_openNote_23 ?_
        refine g_iconst (pc := 24) hX dX6_openNote_24 ?_
        refine g_callV1 (pc := 25) (ci := 5) (As := [vI (c), vI (0)]) (st2 := []) hX 20 (by omega) e13 rfl (c_X5_cell (row := c) (col := 0) (by omega) (by omega) e13 e14 (by omega) (by omega) (by first | assumption | exact inI_mk (by omega) (by omega)) (by first | assumption | exact inI_mk (by omega) (by omega)) (by first | assumption | exact inI_mk (by omega) (by omega)) (by first | assumption | exact inI_mk (by omega) (by omega))) gX6_openNote_X5_cell (n := 2) (hw := rfl) (hrc := rfl) (hrs := rfl) (hd := by decide +kernel) (hR := ⟨Nat.le_of_ble_eq_true rfl, Nat.le_of_ble_eq_true rfl⟩) (hn := rfl) (hst := rfl) (hsum := Nat.le_of_ble_eq_true rfl) (hdg := dX6_openNote_25) ?_
        rintro _ S9 ⟨rfl, e9⟩
        rw [e9]
        clear e9 S9
        rw [tcell_in (by omega) (by omega) (by omega) (by omega)]
        refine g_at (pc2 := 28) rfl rfl (st2 := [vI (N c 0)]) rfl (S2 := S) rfl ?_
        refine g_iload_n (pc := 28) hX 2 rfl dX6_openNote_28 ?_
        refine g_icmp_ne (pc := 29) (tgt := 49) hX (hNi c 0) (by first | assumption | exact inI_mk (by omega) (by omega)) dX6_openNote_29 (by decide) (fun c_29 => ?_) (fun c_29 => ?_)
        · skip
          refine g_iinc (pc := 49) hX (lv2 := [(2, vI (c + 1)), (0, .ref (gw_ad w 0)), (1, vI (p))]) 0 rfl (by decide) rfl dX6_openNote_49 ?_
          refine g_goto (pc := 52) (tgt := 2) hX dX6_openNote_52 (by decide) ?_
          refine g_sub (lv2 := [(2, vI (c + 1)), (0, .ref (gw_ad w 0)), (1, vI (p))]) [0, 1, 2] rfl ?_
          refine g_at rfl (lv2 := [(2, vI (c + 1)), (0, .ref (gw_ad w 0)), (1, vI (p))]) (rfl) rfl (S2 := S) (rfl) ?_
          exact ihloop (c + 1)  (by omega) (by omega) (by omega) (by rw [show (nN - c).toNat = (nN - (c + 1)).toNat + 1 by omega] at hb; rw [← hb]; exact (if_neg (by omega)).symm)
        · skip
          refine g_aload_n (pc := 32) hX 1 rfl dX6_openNote_32 ?_
          refine g_get (pc := 33) hX (ci := 6) (fun _ h => List.mem_cons_of_mem _ (List.mem_append_left _ (List.mem_append_left _ (List.mem_append_right _ h)))) rfl 0 (by omega) d0 0 (by decide) (List.mem_of_getElem? (i := 1) rfl) rfl (v := .ref (gw_ad w 7)) rfl dX6_openNote_33 ?_
          refine g_get (pc := 36) hX (ci := 4) (fun _ h => List.mem_cons_of_mem _ (List.mem_append_left _ (List.mem_append_right _ h))) rfl 7 (by omega) e0 4 (by decide) (List.mem_of_getElem? (i := 2) rfl) rfl (v := .ref (gw_ad w 20)) rfl dX6_openNote_36 ?_
          refine g_iload_n (pc := 39) hX 0 rfl dX6_openNote_39 ?_
          refine g_iconst (pc := 40) hX dX6_openNote_40 ?_
          refine g_callV1 (pc := 41) (ci := 5) (As := [vI (c), vI (4)]) (st2 := []) hX 20 (by omega) e13 rfl (c_X5_cell (row := c) (col := 4) (by omega) (by omega) e13 e14 (by omega) (by omega) (by first | assumption | exact inI_mk (by omega) (by omega)) (by first | assumption | exact inI_mk (by omega) (by omega)) (by first | assumption | exact inI_mk (by omega) (by omega)) (by first | assumption | exact inI_mk (by omega) (by omega))) gX6_openNote_X5_cell (n := 2) (hw := rfl) (hrc := rfl) (hrs := rfl) (hd := by decide +kernel) (hR := ⟨Nat.le_of_ble_eq_true rfl, Nat.le_of_ble_eq_true rfl⟩) (hn := rfl) (hst := rfl) (hsum := Nat.le_of_ble_eq_true rfl) (hdg := dX6_openNote_41) ?_
          rintro _ S9 ⟨rfl, e9⟩
          rw [e9]
          clear e9 S9
          rw [tcell_in (by omega) (by omega) (by omega) (by omega)]
          refine g_at (pc2 := 44) rfl rfl (st2 := [vI (N c 4)]) rfl (S2 := S) rfl ?_
          refine g_if_ne (pc := 44) (tgt := 49) hX (hNi c 4) dX6_openNote_44 (by decide) (fun c_44 => ?_) (fun c_44 => ?_)
          · skip
            refine g_iinc (pc := 49) hX (lv2 := [(2, vI (c + 1)), (0, .ref (gw_ad w 0)), (1, vI (p))]) 0 rfl (by decide) rfl dX6_openNote_49 ?_
            refine g_goto (pc := 52) (tgt := 2) hX dX6_openNote_52 (by decide) ?_
            refine g_sub (lv2 := [(2, vI (c + 1)), (0, .ref (gw_ad w 0)), (1, vI (p))]) [0, 1, 2] rfl ?_
            refine g_at rfl (lv2 := [(2, vI (c + 1)), (0, .ref (gw_ad w 0)), (1, vI (p))]) (rfl) rfl (S2 := S) (rfl) ?_
            exact ihloop (c + 1)  (by omega) (by omega) (by omega) (by rw [show (nN - c).toNat = (nN - (c + 1)).toNat + 1 by omega] at hb; rw [← hb]; exact (if_neg (by omega)).symm)
          · skip
            refine g_iload_n (pc := 47) hX 0 rfl dX6_openNote_47 ?_
            refine g_iret (pc := 48) hX hR dX6_openNote_48 ?_
            rw [show (nN - c).toNat = (nN - (c + 1)).toNat + 1 by omega] at hb
            exact ⟨vI_c (by rw [← hb]; exact (if_pos (by omega)).symm), rfl⟩
  refine g_sub (lv2 := [(2, vI (0)), (0, .ref (gw_ad w 0)), (1, vI (p))]) [0, 1, 2] rfl ?_
  refine g_at rfl (lv2 := [(2, vI (0)), (0, .ref (gw_ad w 0)), (1, vI (p))]) (rfl) rfl (S2 := S) (rfl) ?_
  exact loop ((nN : Int) - 0 + 1).toNat 0  (by omega) (by omega) (by omega) (by rw [Int.sub_zero]; rfl)

set_option maxHeartbeats 4000000 in
set_option maxRecDepth 100000 in
theorem c_X6_hasBands {w : gW} {l : Launch} {S : Nat → va_E} {pc j : Nat} {ty : Int} {B ρ T : Int → Int} {Tr : Int → Int → Int} {D : SD} {Z : Nat → SD} (hN : gw_N w = 92) (hd : deskAt w pc j ty B ρ T Tr D Z S) (hO : deskOK ty B ρ Tr D) {z : Int} (z0 : 0 ≤ z) (z4 : z < 4) :
    GM1 w l yX6_hasBands wsX6_hasBands { frames := 2, cells := 0, slots := 0, locals := 42 } [.ref (gw_ad w 0), vI (z)] S
      (fun v S' => v = vI (bz (decide (0 < sC D z))) ∧ S' = S) := by
  refine GM.start (own := RX6) (n := "hasBands") (d := "(I)Z") (by decide) rfl (Nat.le_of_ble_eq_true rfl) ?_
  intro X hX hR hXl
  subst hXl
  refine g_at rfl (lv2 := [(0, .ref (gw_ad w 0)), (1, vI (z))]) rfl rfl rfl ?_
  obtain ⟨⟨d0, d1, d2, d3, d4, d5, d6⟩, ⟨hS0, hB0⟩, hpa⟩ := id hd
  obtain ⟨F, g, C, E, L, Q, nR, R, nP, P0, nN, N, nK, K⟩ := D
  obtain ⟨⟨e0, e1, e2⟩, ⟨e3, e4, e5, e6, e7⟩, ⟨e8, e9, e10⟩⟩ := (id hS0)
  obtain ⟨⟨e11, e12⟩, ⟨e13, e14⟩, ⟨e15, e16⟩⟩ := (id hB0)
  change S 7 = .inr (4, [.ref (gw_ad w 8), .ref (gw_ad w 10), .ref (gw_ad w 15), .ref (gw_ad w 18), .ref (gw_ad w 20), .ref (gw_ad w 22)]) at e0
  change S 8 = .inr (3, [.ref (gw_ad w 9), vI (g 0), vI (g 1), vI (g 2), vI (g 3), vI (g 4), vI (g 5), vI (g 6), vI (g 7), vI (g 8), vI (g 9)]) at e1
  change S 9 = AI w 8 (F) at e2
  change S 10 = .inr (0, [.ref (gw_ad w 11), .ref (gw_ad w 12), .ref (gw_ad w 13), .ref (gw_ad w 14)]) at e3
  change S 11 = AI w 4 (C) at e4
  change S 12 = AI w 24 ((fl 6 L)) at e5
  change S 13 = AI w 24 ((fl 6 Q)) at e6
  change S 14 = AI w 4 (E) at e7
  change S 15 = .inr (2, [.ref (gw_ad w 16)]) at e8
  change S 16 = .inr (5, [vI (8), vI (63), .ref (gw_ad w 17), vI (nR)]) at e9
  change S 17 = AI w 504 (fl 63 R) at e10
  change S 18 = .inr (5, [vI (30), vI (22), .ref (gw_ad w 19), vI (nP)]) at e11
  change S 19 = AI w 660 (fl 22 P0) at e12
  change S 20 = .inr (5, [vI (20), vI (6), .ref (gw_ad w 21), vI (nN)]) at e13
  change S 21 = AI w 120 (fl 6 N) at e14
  change S 22 = .inr (5, [vI (20), vI (22), .ref (gw_ad w 23), vI (nK)]) at e15
  change S 23 = AI w 440 (fl 22 K) at e16
  obtain ⟨hD, hty, hBr, hBi, hrd, hTi⟩ := id hO
  obtain ⟨⟨⟨hF, hg⟩, hB, hU, hRR⟩, ⟨hnP, hPi, hPr⟩, ⟨hnN, hNi, hNr⟩, ⟨hnK, hKi, hKr⟩, hg3⟩ := id hD
  change scF F at hF
  change scG g at hg
  change bdOK C E L Q at hB
  change ruOK nR R at hU
  change ∀ i j, inI (R i j) at hRR
  change 0 ≤ nP ∧ nP ≤ 30 at hnP
  change ∀ i j, inI (P0 i j) at hPi
  change ∀ p, 0 ≤ p → p < nP → rowOK P0 p at hPr
  change 0 ≤ nN ∧ nN ≤ 20 at hnN
  change ∀ i j, inI (N i j) at hNi
  change nK = nN at hnK
  change ∀ i j, inI (K i j) at hKi
  change ∀ n, 0 ≤ n → n < nN → rowOK K n at hKr
  have hnRb : 0 ≤ nR ∧ nR ≤ 8 := hU.1
  have hCz := hB.1 z z0 z4
  refine g_aload_n (pc := 0) hX 0 rfl dX6_hasBands_0 ?_
  refine g_get (pc := 1) hX (ci := 6) (fun _ h => List.mem_cons_of_mem _ (List.mem_append_left _ (List.mem_append_left _ (List.mem_append_right _ h)))) rfl 0 (by omega) d0 0 (by decide) (List.mem_of_getElem? (i := 1) rfl) rfl (v := .ref (gw_ad w 7)) rfl dX6_hasBands_1 ?_
  refine g_get (pc := 4) hX (ci := 4) (fun _ h => List.mem_cons_of_mem _ (List.mem_append_left _ (List.mem_append_right _ h))) rfl 7 (by omega) e0 1 (by decide) (List.mem_of_getElem? (i := 2) rfl) rfl (v := .ref (gw_ad w 10)) rfl dX6_hasBands_4 ?_
  refine g_iload_n (pc := 7) hX 1 rfl dX6_hasBands_7 ?_
  refine g_callV1 (pc := 8) (ci := 0) (As := [vI (z)]) (st2 := []) hX 10 (by omega) e3 rfl (c_X0_bandsOf (by omega) (by omega) (by omega) (by omega) (by omega) e3 e4 e5 e6 e7 (z := z) (by omega) (by omega)) gX6_hasBands_X0_bandsOf (n := 1) (hw := rfl) (hrc := rfl) (hrs := rfl) (hd := by decide +kernel) (hR := ⟨Nat.le_of_ble_eq_true rfl, Nat.le_of_ble_eq_true rfl⟩) (hn := rfl) (hst := rfl) (hsum := Nat.le_of_ble_eq_true rfl) (hdg := dX6_hasBands_8) ?_
  rintro _ S9 ⟨rfl, e9⟩
  rw [e9]
  clear e9 S9
  refine g_at (pc2 := 11) rfl rfl (st2 := [vI (C z)]) rfl (S2 := S) rfl ?_
  refine g_if_le (pc := 11) (tgt := 18) hX (by first | assumption | exact inI_mk (by omega) (by omega)) dX6_hasBands_11 (by decide) (fun c_11 => ?_) (fun c_11 => ?_)
  · skip
    refine g_iconst (pc := 18) hX dX6_hasBands_18 ?_
    refine g_at rfl rfl (st2 := [vI (bz false)]) rfl rfl ?_
    refine g_zret (pc := 19) hX hR dX6_hasBands_19 ?_
    exact ⟨vB_f (df (show ¬ 0 < C z by omega)), rfl⟩
  · skip
    refine g_iconst (pc := 14) hX dX6_hasBands_14 ?_
    refine g_goto (pc := 15) (tgt := 19) hX dX6_hasBands_15 (by decide) ?_
    refine g_at rfl rfl (st2 := [vI (bz true)]) rfl rfl ?_
    refine g_zret (pc := 19) hX hR dX6_hasBands_19 ?_
    exact ⟨vB_t (dt (show 0 < C z by omega)), rfl⟩

set_option maxHeartbeats 4000000 in
set_option maxRecDepth 100000 in
theorem c_X6_parcel {w : gW} {l : Launch} {S : Nat → va_E} {pc j : Nat} {ty : Int} {B ρ T : Int → Int} {Tr : Int → Int → Int} {D : SD} {Z : Nat → SD} (hN : gw_N w = 92) (hd : deskAt w pc j ty B ρ T Tr D Z S) (hO : deskOK ty B ρ Tr D) {p x : Int} (hp : inI p) (hx : inI x) :
    GM1 w l yX6_parcel wsX6_parcel { frames := 2, cells := 0, slots := 0, locals := 44 } [.ref (gw_ad w 0), vI (p), vI (x)] S
      (fun v S' => v = vI (if (0 ≤ p ∧ p < snP D) ∧ 0 ≤ x ∧ x ≤ 10 then (if x = 10 then openZ D p else sP D p x) else -1000001) ∧ S' = S) := by
  refine GM.start (own := RX6) (n := "parcel") (d := "(II)I") (by decide) rfl (Nat.le_of_ble_eq_true rfl) ?_
  intro X hX hR hXl
  subst hXl
  refine g_at rfl (lv2 := [(0, .ref (gw_ad w 0)), (1, vI (p)), (2, vI (x))]) rfl rfl rfl ?_
  obtain ⟨⟨d0, d1, d2, d3, d4, d5, d6⟩, ⟨hS0, hB0⟩, hpa⟩ := id hd
  obtain ⟨F, g, C, E, L, Q, nR, R, nP, P0, nN, N, nK, K⟩ := D
  obtain ⟨⟨e0, e1, e2⟩, ⟨e3, e4, e5, e6, e7⟩, ⟨e8, e9, e10⟩⟩ := (id hS0)
  obtain ⟨⟨e11, e12⟩, ⟨e13, e14⟩, ⟨e15, e16⟩⟩ := (id hB0)
  change S 7 = .inr (4, [.ref (gw_ad w 8), .ref (gw_ad w 10), .ref (gw_ad w 15), .ref (gw_ad w 18), .ref (gw_ad w 20), .ref (gw_ad w 22)]) at e0
  change S 8 = .inr (3, [.ref (gw_ad w 9), vI (g 0), vI (g 1), vI (g 2), vI (g 3), vI (g 4), vI (g 5), vI (g 6), vI (g 7), vI (g 8), vI (g 9)]) at e1
  change S 9 = AI w 8 (F) at e2
  change S 10 = .inr (0, [.ref (gw_ad w 11), .ref (gw_ad w 12), .ref (gw_ad w 13), .ref (gw_ad w 14)]) at e3
  change S 11 = AI w 4 (C) at e4
  change S 12 = AI w 24 ((fl 6 L)) at e5
  change S 13 = AI w 24 ((fl 6 Q)) at e6
  change S 14 = AI w 4 (E) at e7
  change S 15 = .inr (2, [.ref (gw_ad w 16)]) at e8
  change S 16 = .inr (5, [vI (8), vI (63), .ref (gw_ad w 17), vI (nR)]) at e9
  change S 17 = AI w 504 (fl 63 R) at e10
  change S 18 = .inr (5, [vI (30), vI (22), .ref (gw_ad w 19), vI (nP)]) at e11
  change S 19 = AI w 660 (fl 22 P0) at e12
  change S 20 = .inr (5, [vI (20), vI (6), .ref (gw_ad w 21), vI (nN)]) at e13
  change S 21 = AI w 120 (fl 6 N) at e14
  change S 22 = .inr (5, [vI (20), vI (22), .ref (gw_ad w 23), vI (nK)]) at e15
  change S 23 = AI w 440 (fl 22 K) at e16
  obtain ⟨hD, hty, hBr, hBi, hrd, hTi⟩ := id hO
  obtain ⟨⟨⟨hF, hg⟩, hB, hU, hRR⟩, ⟨hnP, hPi, hPr⟩, ⟨hnN, hNi, hNr⟩, ⟨hnK, hKi, hKr⟩, hg3⟩ := id hD
  change scF F at hF
  change scG g at hg
  change bdOK C E L Q at hB
  change ruOK nR R at hU
  change ∀ i j, inI (R i j) at hRR
  change 0 ≤ nP ∧ nP ≤ 30 at hnP
  change ∀ i j, inI (P0 i j) at hPi
  change ∀ p, 0 ≤ p → p < nP → rowOK P0 p at hPr
  change 0 ≤ nN ∧ nN ≤ 20 at hnN
  change ∀ i j, inI (N i j) at hNi
  change nK = nN at hnK
  change ∀ i j, inI (K i j) at hKi
  change ∀ n, 0 ≤ n → n < nN → rowOK K n at hKr
  have hnRb : 0 ≤ nR ∧ nR ≤ 8 := hU.1
  refine g_aload_n (pc := 0) hX 0 rfl dX6_parcel_0 ?_
  refine g_get (pc := 1) hX (ci := 6) (fun _ h => List.mem_cons_of_mem _ (List.mem_append_left _ (List.mem_append_left _ (List.mem_append_right _ h)))) rfl 0 (by omega) d0 0 (by decide) (List.mem_of_getElem? (i := 1) rfl) rfl (v := .ref (gw_ad w 7)) rfl dX6_parcel_1 ?_
  refine g_get (pc := 4) hX (ci := 4) (fun _ h => List.mem_cons_of_mem _ (List.mem_append_left _ (List.mem_append_right _ h))) rfl 7 (by omega) e0 3 (by decide) (List.mem_of_getElem? (i := 2) rfl) rfl (v := .ref (gw_ad w 18)) rfl dX6_parcel_4 ?_
  refine g_iload_n (pc := 7) hX 1 rfl dX6_parcel_7 ?_
  refine g_callV1 (pc := 8) (ci := 5) (As := [vI (p)]) (st2 := []) hX 18 (by omega) e11 rfl (c_X5_has (row := p) (by omega) (by omega) e11 e12 (by first | assumption | exact inI_mk (by omega) (by omega)) (by first | assumption | exact inI_mk (by omega) (by omega))) gX6_parcel_X5_has (n := 1) (hw := rfl) (hrc := rfl) (hrs := rfl) (hd := by decide +kernel) (hR := ⟨Nat.le_of_ble_eq_true rfl, Nat.le_of_ble_eq_true rfl⟩) (hn := rfl) (hst := rfl) (hsum := Nat.le_of_ble_eq_true rfl) (hdg := dX6_parcel_8) ?_
  rintro _ S9 ⟨rfl, e9⟩
  rw [e9]
  clear e9 S9
  refine g_at (pc2 := 11) rfl rfl (st2 := [vI (bz (decide (0 ≤ p ∧ p < nP)))]) rfl (S2 := S) rfl ?_
  refine g_bif_eq (pc := 11) (tgt := 24) hX dX6_parcel_11 (by decide) (fun c_11 => ?_) (fun c_11 => ?_)
  · skip
    refine g_ldc (pc := 24) hX (z := -1000001) (List.mem_of_getElem? (i := 3) rfl) (by decide +kernel) dX6_parcel_24 ?_
    refine g_iret (pc := 26) hX hR dX6_parcel_26 ?_
    try simp only [decide_eq_true_eq, decide_eq_false_iff_not] at c_11
    exact ⟨vI_c (if_neg (show ¬ ((0 ≤ p ∧ p < nP) ∧ 0 ≤ x ∧ x ≤ 10) by omega)).symm, rfl⟩
  · skip
    have hidx := of_decide_eq_true c_11
    refine g_iload_n (pc := 14) hX 2 rfl dX6_parcel_14 ?_
    refine g_iconst (pc := 15) hX dX6_parcel_15 ?_
    refine g_bipush (pc := 16) hX (by decide) dX6_parcel_16 ?_
    refine g_callT1 (pc := 18) (As := [vI (x), vI (0), vI (10)]) (st2 := []) hX (c_X6_isWithin (x := x) (lo := 0) (hi := 10) (by first | assumption | exact inI_mk (by omega) (by omega)) (by first | assumption | exact inI_mk (by omega) (by omega)) (by first | assumption | exact inI_mk (by omega) (by omega))) gX6_parcel_X6_isWithin (n := 3) (hw := rfl) (hrc := rfl) (hrs := rfl) (hd := by decide +kernel) (hR := ⟨Nat.le_of_ble_eq_true rfl, Nat.le_of_ble_eq_true rfl⟩) (hn := rfl) (hst := rfl) (hsum := Nat.le_of_ble_eq_true rfl) (hdg := dX6_parcel_18) ?_
    rintro _ S9 ⟨rfl, e9⟩
    rw [e9]
    clear e9 S9
    refine g_at (pc2 := 21) rfl rfl (st2 := [vI (bz (decide (0 ≤ x ∧ x ≤ 10)))]) rfl (S2 := S) rfl ?_
    refine g_bif_ne (pc := 21) (tgt := 27) hX dX6_parcel_21 (by decide) (fun c_21 => ?_) (fun c_21 => ?_)
    · skip
      have hx2 := of_decide_eq_true c_21
      refine g_iload_n (pc := 27) hX 2 rfl dX6_parcel_27 ?_
      refine g_bipush (pc := 28) hX (by decide) dX6_parcel_28 ?_
      refine g_icmp_ne (pc := 30) (tgt := 41) hX (by first | assumption | exact inI_mk (by omega) (by omega)) (by first | assumption | exact inI_mk (by omega) (by omega)) dX6_parcel_30 (by decide) (fun c_30 => ?_) (fun c_30 => ?_)
      · skip
        refine g_aload_n (pc := 41) hX 0 rfl dX6_parcel_41 ?_
        refine g_get (pc := 42) hX (ci := 6) (fun _ h => List.mem_cons_of_mem _ (List.mem_append_left _ (List.mem_append_left _ (List.mem_append_right _ h)))) rfl 0 (by omega) d0 0 (by decide) (List.mem_of_getElem? (i := 1) rfl) rfl (v := .ref (gw_ad w 7)) rfl dX6_parcel_42 ?_
        refine g_get (pc := 45) hX (ci := 4) (fun _ h => List.mem_cons_of_mem _ (List.mem_append_left _ (List.mem_append_right _ h))) rfl 7 (by omega) e0 3 (by decide) (List.mem_of_getElem? (i := 2) rfl) rfl (v := .ref (gw_ad w 18)) rfl dX6_parcel_45 ?_
        refine g_iload_n (pc := 48) hX 1 rfl dX6_parcel_48 ?_
        refine g_iload_n (pc := 49) hX 2 rfl dX6_parcel_49 ?_
        refine g_callV1 (pc := 50) (ci := 5) (As := [vI (p), vI (x)]) (st2 := []) hX 18 (by omega) e11 rfl (c_X5_cell (row := p) (col := x) (by omega) (by omega) e11 e12 (by decide) (by decide) (by first | assumption | exact inI_mk (by omega) (by omega)) (by first | assumption | exact inI_mk (by omega) (by omega)) (by first | assumption | exact inI_mk (by omega) (by omega)) (by first | assumption | exact inI_mk (by omega) (by omega))) gX6_parcel_X5_cell (n := 2) (hw := rfl) (hrc := rfl) (hrs := rfl) (hd := by decide +kernel) (hR := ⟨Nat.le_of_ble_eq_true rfl, Nat.le_of_ble_eq_true rfl⟩) (hn := rfl) (hst := rfl) (hsum := Nat.le_of_ble_eq_true rfl) (hdg := dX6_parcel_50) ?_
        rintro _ S9 ⟨rfl, e9⟩
        rw [e9]
        clear e9 S9
        rw [tcell_in (by omega) (by omega) (by omega) (by omega)]
        refine g_at (pc2 := 53) rfl rfl (st2 := [vI (P0 p x)]) rfl (S2 := S) rfl ?_
        refine g_iret (pc := 53) hX hR dX6_parcel_53 ?_
        try simp only [decide_eq_true_eq, decide_eq_false_iff_not] at c_11 c_21 c_30
        refine ⟨vI_c ?_, rfl⟩
        rw [if_pos (show (0 ≤ p ∧ p < snP (F, g, C, E, L, Q, nR, R, nP, P0, nN, N, nK, K)) ∧ 0 ≤ x ∧ x ≤ 10 from ⟨hidx, by omega⟩), if_neg (by omega)]
      · skip
        refine g_aload_n (pc := 33) hX 0 rfl dX6_parcel_33 ?_
        refine g_iload_n (pc := 34) hX 1 rfl dX6_parcel_34 ?_
        refine g_callV1 (pc := 35) (ci := 6) (As := [vI (p)]) (st2 := []) hX 0 (by omega) d0 rfl (c_X6_openNote (p := p) hN hd hO (by first | assumption | exact inI_mk (by omega) (by omega))) gX6_parcel_X6_openNote (n := 1) (hw := rfl) (hrc := rfl) (hrs := rfl) (hd := by decide +kernel) (hR := ⟨Nat.le_of_ble_eq_true rfl, Nat.le_of_ble_eq_true rfl⟩) (hn := rfl) (hst := rfl) (hsum := Nat.le_of_ble_eq_true rfl) (hdg := dX6_parcel_35) ?_
        rintro _ S9 ⟨rfl, e9⟩
        rw [e9]
        clear e9 S9
        refine g_at (pc2 := 38) rfl rfl (st2 := [vI (openZ (F, g, C, E, L, Q, nR, R, nP, P0, nN, N, nK, K) p)]) rfl (S2 := S) rfl ?_
        refine g_goto (pc := 38) (tgt := 53) hX dX6_parcel_38 (by decide) ?_
        refine g_iret (pc := 53) hX hR dX6_parcel_53 ?_
        try simp only [decide_eq_true_eq, decide_eq_false_iff_not] at c_11 c_21 c_30
        refine ⟨vI_c ?_, rfl⟩
        rw [if_pos (show (0 ≤ p ∧ p < snP (F, g, C, E, L, Q, nR, R, nP, P0, nN, N, nK, K)) ∧ 0 ≤ x ∧ x ≤ 10 from ⟨hidx, by omega⟩), if_pos (by omega)]
    · skip
      refine g_ldc (pc := 24) hX (z := -1000001) (List.mem_of_getElem? (i := 3) rfl) (by decide +kernel) dX6_parcel_24 ?_
      refine g_iret (pc := 26) hX hR dX6_parcel_26 ?_
      try simp only [decide_eq_true_eq, decide_eq_false_iff_not] at c_11 c_21
      exact ⟨vI_c (if_neg (show ¬ ((0 ≤ p ∧ p < nP) ∧ 0 ≤ x ∧ x ≤ 10) by omega)).symm, rfl⟩

set_option maxHeartbeats 4000000 in
set_option maxRecDepth 100000 in
theorem c_X6_why {w : gW} {l : Launch} {S : Nat → va_E} {pc j : Nat} {ty : Int} {B ρ T : Int → Int} {Tr : Int → Int → Int} {D : SD} {Z : Nat → SD} (hN : gw_N w = 92) (hd : deskAt w pc j ty B ρ T Tr D Z S) (hO : deskOK ty B ρ Tr D) {p i : Int} (hp : inI p) (hi : inI i) :
    GM1 w l yX6_why wsX6_why { frames := 1, cells := 0, slots := 0, locals := 22 } [.ref (gw_ad w 0), vI (p), vI (i)] S
      (fun v S' => v = vI (if (0 ≤ p ∧ p < snP D) ∧ 0 ≤ i then (if i < sP D p 11 then sP D p (12 + i) else -1000009) else -1000001) ∧ S' = S) := by
  refine GM.start (own := RX6) (n := "why") (d := "(II)I") (by decide) rfl (Nat.le_of_ble_eq_true rfl) ?_
  intro X hX hR hXl
  subst hXl
  refine g_at rfl (lv2 := [(0, .ref (gw_ad w 0)), (1, vI (p)), (2, vI (i))]) rfl rfl rfl ?_
  obtain ⟨⟨d0, d1, d2, d3, d4, d5, d6⟩, ⟨hS0, hB0⟩, hpa⟩ := id hd
  obtain ⟨F, g, C, E, L, Q, nR, R, nP, P0, nN, N, nK, K⟩ := D
  obtain ⟨⟨e0, e1, e2⟩, ⟨e3, e4, e5, e6, e7⟩, ⟨e8, e9, e10⟩⟩ := (id hS0)
  obtain ⟨⟨e11, e12⟩, ⟨e13, e14⟩, ⟨e15, e16⟩⟩ := (id hB0)
  change S 7 = .inr (4, [.ref (gw_ad w 8), .ref (gw_ad w 10), .ref (gw_ad w 15), .ref (gw_ad w 18), .ref (gw_ad w 20), .ref (gw_ad w 22)]) at e0
  change S 8 = .inr (3, [.ref (gw_ad w 9), vI (g 0), vI (g 1), vI (g 2), vI (g 3), vI (g 4), vI (g 5), vI (g 6), vI (g 7), vI (g 8), vI (g 9)]) at e1
  change S 9 = AI w 8 (F) at e2
  change S 10 = .inr (0, [.ref (gw_ad w 11), .ref (gw_ad w 12), .ref (gw_ad w 13), .ref (gw_ad w 14)]) at e3
  change S 11 = AI w 4 (C) at e4
  change S 12 = AI w 24 ((fl 6 L)) at e5
  change S 13 = AI w 24 ((fl 6 Q)) at e6
  change S 14 = AI w 4 (E) at e7
  change S 15 = .inr (2, [.ref (gw_ad w 16)]) at e8
  change S 16 = .inr (5, [vI (8), vI (63), .ref (gw_ad w 17), vI (nR)]) at e9
  change S 17 = AI w 504 (fl 63 R) at e10
  change S 18 = .inr (5, [vI (30), vI (22), .ref (gw_ad w 19), vI (nP)]) at e11
  change S 19 = AI w 660 (fl 22 P0) at e12
  change S 20 = .inr (5, [vI (20), vI (6), .ref (gw_ad w 21), vI (nN)]) at e13
  change S 21 = AI w 120 (fl 6 N) at e14
  change S 22 = .inr (5, [vI (20), vI (22), .ref (gw_ad w 23), vI (nK)]) at e15
  change S 23 = AI w 440 (fl 22 K) at e16
  obtain ⟨hD, hty, hBr, hBi, hrd, hTi⟩ := id hO
  obtain ⟨⟨⟨hF, hg⟩, hB, hU, hRR⟩, ⟨hnP, hPi, hPr⟩, ⟨hnN, hNi, hNr⟩, ⟨hnK, hKi, hKr⟩, hg3⟩ := id hD
  change scF F at hF
  change scG g at hg
  change bdOK C E L Q at hB
  change ruOK nR R at hU
  change ∀ i j, inI (R i j) at hRR
  change 0 ≤ nP ∧ nP ≤ 30 at hnP
  change ∀ i j, inI (P0 i j) at hPi
  change ∀ p, 0 ≤ p → p < nP → rowOK P0 p at hPr
  change 0 ≤ nN ∧ nN ≤ 20 at hnN
  change ∀ i j, inI (N i j) at hNi
  change nK = nN at hnK
  change ∀ i j, inI (K i j) at hKi
  change ∀ n, 0 ≤ n → n < nN → rowOK K n at hKr
  have hnRb : 0 ≤ nR ∧ nR ≤ 8 := hU.1
  refine g_aload_n (pc := 0) hX 0 rfl dX6_why_0 ?_
  refine g_get (pc := 1) hX (ci := 6) (fun _ h => List.mem_cons_of_mem _ (List.mem_append_left _ (List.mem_append_left _ (List.mem_append_right _ h)))) rfl 0 (by omega) d0 0 (by decide) (List.mem_of_getElem? (i := 1) rfl) rfl (v := .ref (gw_ad w 7)) rfl dX6_why_1 ?_
  refine g_get (pc := 4) hX (ci := 4) (fun _ h => List.mem_cons_of_mem _ (List.mem_append_left _ (List.mem_append_right _ h))) rfl 7 (by omega) e0 3 (by decide) (List.mem_of_getElem? (i := 2) rfl) rfl (v := .ref (gw_ad w 18)) rfl dX6_why_4 ?_
  refine g_iload_n (pc := 7) hX 1 rfl dX6_why_7 ?_
  refine g_callV1 (pc := 8) (ci := 5) (As := [vI (p)]) (st2 := []) hX 18 (by omega) e11 rfl (c_X5_has (row := p) (by omega) (by omega) e11 e12 (by first | assumption | exact inI_mk (by omega) (by omega)) (by first | assumption | exact inI_mk (by omega) (by omega))) gX6_why_X5_has (n := 1) (hw := rfl) (hrc := rfl) (hrs := rfl) (hd := by decide +kernel) (hR := ⟨Nat.le_of_ble_eq_true rfl, Nat.le_of_ble_eq_true rfl⟩) (hn := rfl) (hst := rfl) (hsum := Nat.le_of_ble_eq_true rfl) (hdg := dX6_why_8) ?_
  rintro _ S9 ⟨rfl, e9⟩
  rw [e9]
  clear e9 S9
  refine g_at (pc2 := 11) rfl rfl (st2 := [vI (bz (decide (0 ≤ p ∧ p < nP)))]) rfl (S2 := S) rfl ?_
  refine g_bif_eq (pc := 11) (tgt := 18) hX dX6_why_11 (by decide) (fun c_11 => ?_) (fun c_11 => ?_)
  · skip
    refine g_ldc (pc := 18) hX (z := -1000001) (List.mem_of_getElem? (i := 3) rfl) (by decide +kernel) dX6_why_18 ?_
    refine g_iret (pc := 20) hX hR dX6_why_20 ?_
    try simp only [decide_eq_true_eq, decide_eq_false_iff_not] at c_11
    exact ⟨vI_c (if_neg (show ¬ ((0 ≤ p ∧ p < nP) ∧ 0 ≤ i) by omega)).symm, rfl⟩
  · skip
    have hidx := of_decide_eq_true c_11
    have hpr := (hPr p hidx.1 hidx.2).2.2.2.2.2.2.2.2.2
    refine g_iload_n (pc := 14) hX 2 rfl dX6_why_14 ?_
    refine g_if_ge (pc := 15) (tgt := 21) hX (by first | assumption | exact inI_mk (by omega) (by omega)) dX6_why_15 (by decide) (fun c_15 => ?_) (fun c_15 => ?_)
    · skip
      refine g_iload_n (pc := 21) hX 2 rfl dX6_why_21 ?_
      refine g_aload_n (pc := 22) hX 0 rfl dX6_why_22 ?_
      refine g_get (pc := 23) hX (ci := 6) (fun _ h => List.mem_cons_of_mem _ (List.mem_append_left _ (List.mem_append_left _ (List.mem_append_right _ h)))) rfl 0 (by omega) d0 0 (by decide) (List.mem_of_getElem? (i := 1) rfl) rfl (v := .ref (gw_ad w 7)) rfl dX6_why_23 ?_
      refine g_get (pc := 26) hX (ci := 4) (fun _ h => List.mem_cons_of_mem _ (List.mem_append_left _ (List.mem_append_right _ h))) rfl 7 (by omega) e0 3 (by decide) (List.mem_of_getElem? (i := 2) rfl) rfl (v := .ref (gw_ad w 18)) rfl dX6_why_26 ?_
      refine g_iload_n (pc := 29) hX 1 rfl dX6_why_29 ?_
      refine g_bipush (pc := 30) hX (by decide) dX6_why_30 ?_
      refine g_callV1 (pc := 32) (ci := 5) (As := [vI (p), vI (11)]) (st2 := [vI (i)]) hX 18 (by omega) e11 rfl (c_X5_cell (row := p) (col := 11) (by omega) (by omega) e11 e12 (by decide) (by decide) (by first | assumption | exact inI_mk (by omega) (by omega)) (by first | assumption | exact inI_mk (by omega) (by omega)) (by first | assumption | exact inI_mk (by omega) (by omega)) (by first | assumption | exact inI_mk (by omega) (by omega))) gX6_why_X5_cell (n := 2) (hw := rfl) (hrc := rfl) (hrs := rfl) (hd := by decide +kernel) (hR := ⟨Nat.le_of_ble_eq_true rfl, Nat.le_of_ble_eq_true rfl⟩) (hn := rfl) (hst := rfl) (hsum := Nat.le_of_ble_eq_true rfl) (hdg := dX6_why_32) ?_
      rintro _ S9 ⟨rfl, e9⟩
      rw [e9]
      clear e9 S9
      rw [tcell_in (by omega) (by omega) (by omega) (by omega)]
      refine g_at (pc2 := 35) rfl rfl (st2 := [vI (P0 p 11), vI (i)]) rfl (S2 := S) rfl ?_
      refine g_icmp_lt (pc := 35) (tgt := 41) hX (by first | assumption | exact inI_mk (by omega) (by omega)) (by first | assumption | exact inI_mk (by omega) (by omega)) dX6_why_35 (by decide) (fun c_35 => ?_) (fun c_35 => ?_)
      · skip
        refine g_aload_n (pc := 41) hX 0 rfl dX6_why_41 ?_
        refine g_get (pc := 42) hX (ci := 6) (fun _ h => List.mem_cons_of_mem _ (List.mem_append_left _ (List.mem_append_left _ (List.mem_append_right _ h)))) rfl 0 (by omega) d0 0 (by decide) (List.mem_of_getElem? (i := 1) rfl) rfl (v := .ref (gw_ad w 7)) rfl dX6_why_42 ?_
        refine g_get (pc := 45) hX (ci := 4) (fun _ h => List.mem_cons_of_mem _ (List.mem_append_left _ (List.mem_append_right _ h))) rfl 7 (by omega) e0 3 (by decide) (List.mem_of_getElem? (i := 2) rfl) rfl (v := .ref (gw_ad w 18)) rfl dX6_why_45 ?_
        refine g_iload_n (pc := 48) hX 1 rfl dX6_why_48 ?_
        refine g_bipush (pc := 49) hX (by decide) dX6_why_49 ?_
        refine g_iload_n (pc := 51) hX 2 rfl dX6_why_51 ?_
        refine g_iadd (pc := 52) hX dX6_why_52 ?_
        refine g_callV1 (pc := 53) (ci := 5) (As := [vI (p), vI (12 + i)]) (st2 := []) hX 18 (by omega) e11 rfl (c_X5_cell (row := p) (col := 12 + i) (by omega) (by omega) e11 e12 (by decide) (by decide) (by first | assumption | exact inI_mk (by omega) (by omega)) (by first | assumption | exact inI_mk (by omega) (by omega)) (by first | assumption | exact inI_mk (by omega) (by omega)) (by first | assumption | exact inI_mk (by omega) (by omega))) gX6_why_X5_cell (n := 2) (hw := rfl) (hrc := rfl) (hrs := rfl) (hd := by decide +kernel) (hR := ⟨Nat.le_of_ble_eq_true rfl, Nat.le_of_ble_eq_true rfl⟩) (hn := rfl) (hst := rfl) (hsum := Nat.le_of_ble_eq_true rfl) (hdg := dX6_why_53) ?_
        rintro _ S9 ⟨rfl, e9⟩
        rw [e9]
        clear e9 S9
        rw [tcell_in (by omega) (by omega) (by omega) (by omega)]
        refine g_at (pc2 := 56) rfl rfl (st2 := [vI (P0 p (12 + i))]) rfl (S2 := S) rfl ?_
        refine g_iret (pc := 56) hX hR dX6_why_56 ?_
        try simp only [decide_eq_true_eq, decide_eq_false_iff_not] at c_11 c_15 c_35
        refine ⟨vI_c ?_, rfl⟩
        rw [if_pos (show (0 ≤ p ∧ p < snP (F, g, C, E, L, Q, nR, R, nP, P0, nN, N, nK, K)) ∧ 0 ≤ i from ⟨hidx, by omega⟩), if_pos (by show i < P0 p 11; omega)]
      · skip
        refine g_ldc (pc := 38) hX (z := -1000009) (List.mem_of_getElem? (i := 4) rfl) (by decide +kernel) dX6_why_38 ?_
        refine g_iret (pc := 40) hX hR dX6_why_40 ?_
        try simp only [decide_eq_true_eq, decide_eq_false_iff_not] at c_11 c_15 c_35
        refine ⟨vI_c ?_, rfl⟩
        rw [if_pos (show (0 ≤ p ∧ p < snP (F, g, C, E, L, Q, nR, R, nP, P0, nN, N, nK, K)) ∧ 0 ≤ i from ⟨hidx, by omega⟩), if_neg (by show ¬ i < P0 p 11; omega)]
    · skip
      refine g_ldc (pc := 18) hX (z := -1000001) (List.mem_of_getElem? (i := 3) rfl) (by decide +kernel) dX6_why_18 ?_
      refine g_iret (pc := 20) hX hR dX6_why_20 ?_
      try simp only [decide_eq_true_eq, decide_eq_false_iff_not] at c_11 c_15
      exact ⟨vI_c (if_neg (show ¬ ((0 ≤ p ∧ p < nP) ∧ 0 ≤ i) by omega)).symm, rfl⟩

set_option maxHeartbeats 4000000 in
set_option maxRecDepth 100000 in
theorem c_X6_note {w : gW} {l : Launch} {S : Nat → va_E} {pc j : Nat} {ty : Int} {B ρ T : Int → Int} {Tr : Int → Int → Int} {D : SD} {Z : Nat → SD} (hN : gw_N w = 92) (hd : deskAt w pc j ty B ρ T Tr D Z S) (hO : deskOK ty B ρ Tr D) {n x : Int} (hn : inI n) (hx : inI x) :
    GM1 w l yX6_note wsX6_note { frames := 1, cells := 0, slots := 0, locals := 22 } [.ref (gw_ad w 0), vI (n), vI (x)] S
      (fun v S' => v = vI (if (0 ≤ n ∧ n < snN D) ∧ 0 ≤ x ∧ x ≤ 5 then sN D n x else -1000001) ∧ S' = S) := by
  refine GM.start (own := RX6) (n := "note") (d := "(II)I") (by decide) rfl (Nat.le_of_ble_eq_true rfl) ?_
  intro X hX hR hXl
  subst hXl
  refine g_at rfl (lv2 := [(0, .ref (gw_ad w 0)), (1, vI (n)), (2, vI (x))]) rfl rfl rfl ?_
  obtain ⟨⟨d0, d1, d2, d3, d4, d5, d6⟩, ⟨hS0, hB0⟩, hpa⟩ := id hd
  obtain ⟨F, g, C, E, L, Q, nR, R, nP, P0, nN, N, nK, K⟩ := D
  obtain ⟨⟨e0, e1, e2⟩, ⟨e3, e4, e5, e6, e7⟩, ⟨e8, e9, e10⟩⟩ := (id hS0)
  obtain ⟨⟨e11, e12⟩, ⟨e13, e14⟩, ⟨e15, e16⟩⟩ := (id hB0)
  change S 7 = .inr (4, [.ref (gw_ad w 8), .ref (gw_ad w 10), .ref (gw_ad w 15), .ref (gw_ad w 18), .ref (gw_ad w 20), .ref (gw_ad w 22)]) at e0
  change S 8 = .inr (3, [.ref (gw_ad w 9), vI (g 0), vI (g 1), vI (g 2), vI (g 3), vI (g 4), vI (g 5), vI (g 6), vI (g 7), vI (g 8), vI (g 9)]) at e1
  change S 9 = AI w 8 (F) at e2
  change S 10 = .inr (0, [.ref (gw_ad w 11), .ref (gw_ad w 12), .ref (gw_ad w 13), .ref (gw_ad w 14)]) at e3
  change S 11 = AI w 4 (C) at e4
  change S 12 = AI w 24 ((fl 6 L)) at e5
  change S 13 = AI w 24 ((fl 6 Q)) at e6
  change S 14 = AI w 4 (E) at e7
  change S 15 = .inr (2, [.ref (gw_ad w 16)]) at e8
  change S 16 = .inr (5, [vI (8), vI (63), .ref (gw_ad w 17), vI (nR)]) at e9
  change S 17 = AI w 504 (fl 63 R) at e10
  change S 18 = .inr (5, [vI (30), vI (22), .ref (gw_ad w 19), vI (nP)]) at e11
  change S 19 = AI w 660 (fl 22 P0) at e12
  change S 20 = .inr (5, [vI (20), vI (6), .ref (gw_ad w 21), vI (nN)]) at e13
  change S 21 = AI w 120 (fl 6 N) at e14
  change S 22 = .inr (5, [vI (20), vI (22), .ref (gw_ad w 23), vI (nK)]) at e15
  change S 23 = AI w 440 (fl 22 K) at e16
  obtain ⟨hD, hty, hBr, hBi, hrd, hTi⟩ := id hO
  obtain ⟨⟨⟨hF, hg⟩, hB, hU, hRR⟩, ⟨hnP, hPi, hPr⟩, ⟨hnN, hNi, hNr⟩, ⟨hnK, hKi, hKr⟩, hg3⟩ := id hD
  change scF F at hF
  change scG g at hg
  change bdOK C E L Q at hB
  change ruOK nR R at hU
  change ∀ i j, inI (R i j) at hRR
  change 0 ≤ nP ∧ nP ≤ 30 at hnP
  change ∀ i j, inI (P0 i j) at hPi
  change ∀ p, 0 ≤ p → p < nP → rowOK P0 p at hPr
  change 0 ≤ nN ∧ nN ≤ 20 at hnN
  change ∀ i j, inI (N i j) at hNi
  change nK = nN at hnK
  change ∀ i j, inI (K i j) at hKi
  change ∀ n, 0 ≤ n → n < nN → rowOK K n at hKr
  have hnRb : 0 ≤ nR ∧ nR ≤ 8 := hU.1
  refine g_aload_n (pc := 0) hX 0 rfl dX6_note_0 ?_
  refine g_get (pc := 1) hX (ci := 6) (fun _ h => List.mem_cons_of_mem _ (List.mem_append_left _ (List.mem_append_left _ (List.mem_append_right _ h)))) rfl 0 (by omega) d0 0 (by decide) (List.mem_of_getElem? (i := 1) rfl) rfl (v := .ref (gw_ad w 7)) rfl dX6_note_1 ?_
  refine g_get (pc := 4) hX (ci := 4) (fun _ h => List.mem_cons_of_mem _ (List.mem_append_left _ (List.mem_append_right _ h))) rfl 7 (by omega) e0 4 (by decide) (List.mem_of_getElem? (i := 2) rfl) rfl (v := .ref (gw_ad w 20)) rfl dX6_note_4 ?_
  refine g_iload_n (pc := 7) hX 1 rfl dX6_note_7 ?_
  refine g_callV1 (pc := 8) (ci := 5) (As := [vI (n)]) (st2 := []) hX 20 (by omega) e13 rfl (c_X5_has (row := n) (by omega) (by omega) e13 e14 (by first | assumption | exact inI_mk (by omega) (by omega)) (by first | assumption | exact inI_mk (by omega) (by omega))) gX6_note_X5_has (n := 1) (hw := rfl) (hrc := rfl) (hrs := rfl) (hd := by decide +kernel) (hR := ⟨Nat.le_of_ble_eq_true rfl, Nat.le_of_ble_eq_true rfl⟩) (hn := rfl) (hst := rfl) (hsum := Nat.le_of_ble_eq_true rfl) (hdg := dX6_note_8) ?_
  rintro _ S9 ⟨rfl, e9⟩
  rw [e9]
  clear e9 S9
  refine g_at (pc2 := 11) rfl rfl (st2 := [vI (bz (decide (0 ≤ n ∧ n < nN)))]) rfl (S2 := S) rfl ?_
  refine g_bif_eq (pc := 11) (tgt := 23) hX dX6_note_11 (by decide) (fun c_11 => ?_) (fun c_11 => ?_)
  · skip
    refine g_ldc (pc := 23) hX (z := -1000001) (List.mem_of_getElem? (i := 3) rfl) (by decide +kernel) dX6_note_23 ?_
    refine g_iret (pc := 25) hX hR dX6_note_25 ?_
    try simp only [decide_eq_true_eq, decide_eq_false_iff_not] at c_11
    exact ⟨vI_c (if_neg (show ¬ ((0 ≤ n ∧ n < nN) ∧ 0 ≤ x ∧ x ≤ 5) by omega)).symm, rfl⟩
  · skip
    have hidx := of_decide_eq_true c_11
    refine g_iload_n (pc := 14) hX 2 rfl dX6_note_14 ?_
    refine g_iconst (pc := 15) hX dX6_note_15 ?_
    refine g_iconst (pc := 16) hX dX6_note_16 ?_
    refine g_callT1 (pc := 17) (As := [vI (x), vI (0), vI (5)]) (st2 := []) hX (c_X6_isWithin (x := x) (lo := 0) (hi := 5) (by first | assumption | exact inI_mk (by omega) (by omega)) (by first | assumption | exact inI_mk (by omega) (by omega)) (by first | assumption | exact inI_mk (by omega) (by omega))) gX6_note_X6_isWithin (n := 3) (hw := rfl) (hrc := rfl) (hrs := rfl) (hd := by decide +kernel) (hR := ⟨Nat.le_of_ble_eq_true rfl, Nat.le_of_ble_eq_true rfl⟩) (hn := rfl) (hst := rfl) (hsum := Nat.le_of_ble_eq_true rfl) (hdg := dX6_note_17) ?_
    rintro _ S9 ⟨rfl, e9⟩
    rw [e9]
    clear e9 S9
    refine g_at (pc2 := 20) rfl rfl (st2 := [vI (bz (decide (0 ≤ x ∧ x ≤ 5)))]) rfl (S2 := S) rfl ?_
    refine g_bif_ne (pc := 20) (tgt := 26) hX dX6_note_20 (by decide) (fun c_20 => ?_) (fun c_20 => ?_)
    · skip
      have hx2 := of_decide_eq_true c_20
      refine g_aload_n (pc := 26) hX 0 rfl dX6_note_26 ?_
      refine g_get (pc := 27) hX (ci := 6) (fun _ h => List.mem_cons_of_mem _ (List.mem_append_left _ (List.mem_append_left _ (List.mem_append_right _ h)))) rfl 0 (by omega) d0 0 (by decide) (List.mem_of_getElem? (i := 1) rfl) rfl (v := .ref (gw_ad w 7)) rfl dX6_note_27 ?_
      refine g_get (pc := 30) hX (ci := 4) (fun _ h => List.mem_cons_of_mem _ (List.mem_append_left _ (List.mem_append_right _ h))) rfl 7 (by omega) e0 4 (by decide) (List.mem_of_getElem? (i := 2) rfl) rfl (v := .ref (gw_ad w 20)) rfl dX6_note_30 ?_
      refine g_iload_n (pc := 33) hX 1 rfl dX6_note_33 ?_
      refine g_iload_n (pc := 34) hX 2 rfl dX6_note_34 ?_
      refine g_callV1 (pc := 35) (ci := 5) (As := [vI (n), vI (x)]) (st2 := []) hX 20 (by omega) e13 rfl (c_X5_cell (row := n) (col := x) (by omega) (by omega) e13 e14 (by decide) (by decide) (by first | assumption | exact inI_mk (by omega) (by omega)) (by first | assumption | exact inI_mk (by omega) (by omega)) (by first | assumption | exact inI_mk (by omega) (by omega)) (by first | assumption | exact inI_mk (by omega) (by omega))) gX6_note_X5_cell (n := 2) (hw := rfl) (hrc := rfl) (hrs := rfl) (hd := by decide +kernel) (hR := ⟨Nat.le_of_ble_eq_true rfl, Nat.le_of_ble_eq_true rfl⟩) (hn := rfl) (hst := rfl) (hsum := Nat.le_of_ble_eq_true rfl) (hdg := dX6_note_35) ?_
      rintro _ S9 ⟨rfl, e9⟩
      rw [e9]
      clear e9 S9
      rw [tcell_in (by omega) (by omega) (by omega) (by omega)]
      refine g_at (pc2 := 38) rfl rfl (st2 := [vI (N n x)]) rfl (S2 := S) rfl ?_
      refine g_iret (pc := 38) hX hR dX6_note_38 ?_
      try simp only [decide_eq_true_eq, decide_eq_false_iff_not] at c_11 c_20
      exact ⟨vI_c (if_pos (show (0 ≤ n ∧ n < nN) ∧ 0 ≤ x ∧ x ≤ 5 by omega)).symm, rfl⟩
    · skip
      refine g_ldc (pc := 23) hX (z := -1000001) (List.mem_of_getElem? (i := 3) rfl) (by decide +kernel) dX6_note_23 ?_
      refine g_iret (pc := 25) hX hR dX6_note_25 ?_
      try simp only [decide_eq_true_eq, decide_eq_false_iff_not] at c_11 c_20
      exact ⟨vI_c (if_neg (show ¬ ((0 ≤ n ∧ n < nN) ∧ 0 ≤ x ∧ x ≤ 5) by omega)).symm, rfl⟩
