theorem bnlZ_b {C : Int → Int} {L : Int → Int → Int} {z x : Int} (hC : 0 ≤ C z) (hL : ∀ i, 0 ≤ i → i < C z → 1 ≤ L z i) (hc : 1 ≤ C z) (h0 : 1 ≤ x) : 0 ≤ bnlZ C L z x ∧ bnlZ C L z x < x := by
  have hi := bidx_b (L := L) (x := x) hC
  unfold bnlZ
  split
  · by_cases h : bidx C L z x = 0
    · rw [h, bl_out (by omega)]; omega
    · rw [bl_in (by omega) (by omega)]
      have h1 := hL (bidx C L z x - 1) (by omega) (by omega)
      have h2 : L z (bidx C L z x - 1) < x := bidx_lt (by omega) (by omega) hC
      omega
  · have h1 := hL (C z - 1) (by omega) (by omega)
    have h2 : L z (C z - 1) < x := bidx_lt (by omega) (by omega) hC
    unfold begZ
    omega
def cOK (D : SD) : Prop := bcOK (sC D) ∧ (∀ a b, inI (sL D a b)) ∧ (0 ≤ snR D ∧ snR D ≤ 8) ∧ (0 ≤ snP D ∧ snP D ≤ 30) ∧ (0 ≤ snN D ∧ snN D ≤ 20) ∧ (0 ≤ snK D ∧ snK D ≤ 20)

set_option maxHeartbeats 4000000 in
set_option maxRecDepth 100000 in
theorem c_X4_nextLower {w : gW} {l : Launch} {S : Nat → va_E} {b : Nat} {D : SD} (hb : b + 17 ≤ gw_N w) (hS0 : stA w b D S) (hOK : stOK1 D) {t t1 n : Nat} {rm cn : Int} {P : Int → Int → Int} (ht : t < gw_N w) (ht1 : t1 < gw_N w) (et : S t = OT w rm 22 t1 cn) (et1 : S t1 = AT w n 22 P) (hn : rm * 22 ≤ n) (hn2 : n ≤ 2147483647) (hrm : inI rm) {row : Int} (hr0 : 0 ≤ row) (hr1 : row < rm) (s0 : 0 ≤ P row 0 ∧ P row 0 ≤ 200000) (s4 : 0 ≤ P row 4 ∧ P row 4 < 4) (s6 : 1 ≤ P row 6 ∧ P row 6 ≤ 9000000) (hc1 : 1 ≤ sC D (P row 4)) :
    GM1 w l yX4_nextLower wsX4_nextLower { frames := 4, cells := 0, slots := 0, locals := 95 } [.ref (gw_ad w b), .ref (gw_ad w t), vI (row)] S
      (fun v S' => v = vI (snlZ D P row) ∧ S' = S) := by
  refine GM.start (own := RX4) (n := "nextLower") (d := "(LParcelDesk$Table;I)I") (by decide) rfl (Nat.le_of_ble_eq_true rfl) ?_
  intro X hX hR hXl
  subst hXl
  refine g_at rfl (lv2 := [(0, .ref (gw_ad w b)), (1, .ref (gw_ad w t)), (2, vI (row))]) rfl rfl rfl ?_
  obtain ⟨F, g, C, E, L, Q, nR, R, nP, P0, nN, N, nK, K⟩ := D
  obtain ⟨⟨e0, e1, e2⟩, ⟨e3, e4, e5, e6, e7⟩, ⟨e8, e9, e10⟩⟩ := hS0
  obtain ⟨⟨hF, hg⟩, hB, hU, hRR⟩ := hOK
  change scF F at hF
  change scG g at hg
  change bdOK C E L Q at hB
  change ruOK nR R at hU
  change ∀ i j, inI (R i j) at hRR
  have hrow : inI row := by have := hrm.2; exact inI_mk (by omega) (by omega)
  obtain ⟨-, ⟨-, -, ⟨fa6, fb6⟩, ⟨fa7, fb7⟩⟩⟩ := id hF
  change 1000 ≤ F 6 at fa6
  change F 6 ≤ 9999 at fb6
  change 1 ≤ F 7 at fa7
  change F 7 ≤ 1000 at fb7
  have hCz : 0 ≤ C (P row 4) ∧ C (P row 4) ≤ 6 := hB.1 _ s4.1 s4.2
  have hC1 : 1 ≤ C (P row 4) := hc1
  have hl1 : 0 ≤ L (P row 4) (C (P row 4) - 1) := by have := ((hB.2.2.2 _ s4.1 s4.2).2 (C (P row 4) - 1) (by omega) (by omega)).1.1; exact Int.le_trans (by decide) this
  have hnl := bnlZ_b (x := P row 6) hCz.1 (fun i a b => (((hB.2.2.2 _ s4.1 s4.2).2 i a b).1.1)) hC1 s6.1
  have hnb := nlZ_b R (P row 0) (unit := F 7) ⟨fa7, fb7⟩ nR.toNat
  refine g_aload_n (pc := 0) hX 1 rfl dX4_nextLower_0 ?_
  refine g_iload_n (pc := 1) hX 2 rfl dX4_nextLower_1 ?_
  refine g_iconst (pc := 2) hX dX4_nextLower_2 ?_
  refine g_callV1 (pc := 3) (ci := 5) (As := [vI (row), vI (0)]) (st2 := []) hX t ht et rfl (c_X5_cell (row := row) (col := 0) ht ht1 et et1 hn hn2 hrm (by first | assumption | exact inI_mk (by omega) (by omega)) (by first | assumption | exact inI_mk (by omega) (by omega)) (by first | assumption | exact inI_mk (by omega) (by omega))) gX4_nextLower_X5_cell (n := 2) (hw := rfl) (hrc := rfl) (hrs := rfl) (hd := by decide +kernel) (hR := ⟨Nat.le_of_ble_eq_true rfl, Nat.le_of_ble_eq_true rfl⟩) (hn := rfl) (hst := rfl) (hsum := Nat.le_of_ble_eq_true rfl) (hdg := dX4_nextLower_3) ?_
  rintro _ S9 ⟨rfl, e9⟩
  rw [e9]
  clear e9 S9
  rw [tcell_in (by omega) (by omega) (by omega) (by omega)]
  refine g_at (pc2 := 6) rfl rfl (st2 := [vI (P row 0)]) rfl (S2 := S) rfl ?_
  refine g_istore_n (pc := 6) hX (lv2 := [(3, vI (P row 0)), (0, .ref (gw_ad w b)), (1, .ref (gw_ad w t)), (2, vI (row))]) rfl (by decide) rfl dX4_nextLower_6 ?_
  refine g_aload_n (pc := 7) hX 1 rfl dX4_nextLower_7 ?_
  refine g_get (pc := 8) hX (ci := 4) (fun _ h => List.mem_cons_of_mem _ (List.mem_append_left _ (List.mem_append_left _ (List.mem_append_left _ (List.mem_append_left _ (List.mem_append_right _ h)))))) rfl b (by omega) e0 0 (by decide) (List.mem_of_getElem? (i := 1) rfl) rfl (v := .ref (gw_ad w (b + 1))) rfl dX4_nextLower_8 ?_
  refine g_bipush (pc := 11) hX (by decide) dX4_nextLower_11 ?_
  refine g_callV1 (pc := 13) (ci := 3) (As := [vI (7)]) (st2 := []) hX (b + 1) (by omega) e1 rfl (c_X3_settingOf (g := g) (by omega) (by omega) e1 e2 (i := 7) (by omega) (by omega)) gX4_nextLower_X3_settingOf (n := 1) (hw := rfl) (hrc := rfl) (hrs := rfl) (hd := by decide +kernel) (hR := ⟨Nat.le_of_ble_eq_true rfl, Nat.le_of_ble_eq_true rfl⟩) (hn := rfl) (hst := rfl) (hsum := Nat.le_of_ble_eq_true rfl) (hdg := dX4_nextLower_13) ?_
  rintro _ S9 ⟨rfl, e9⟩
  rw [e9]
  clear e9 S9
  refine g_at (pc2 := 16) rfl rfl (st2 := [vI (F 7)]) rfl (S2 := S) rfl ?_
  refine g_istore (pc := 16) hX (lv2 := [(4, vI (F 7)), (3, vI (P row 0)), (0, .ref (gw_ad w b)), (1, .ref (gw_ad w t)), (2, vI (row))]) (by decide) rfl dX4_nextLower_16 ?_
  refine g_aload_n (pc := 18) hX 2 rfl dX4_nextLower_18 ?_
  refine g_get (pc := 19) hX (ci := 4) (fun _ h => List.mem_cons_of_mem _ (List.mem_append_left _ (List.mem_append_left _ (List.mem_append_left _ (List.mem_append_left _ (List.mem_append_right _ h)))))) rfl b (by omega) e0 1 (by decide) (List.mem_of_getElem? (i := 2) rfl) rfl (v := .ref (gw_ad w (b + 3))) rfl dX4_nextLower_19 ?_
  refine g_aload_n (pc := 22) hX 3 rfl dX4_nextLower_22 ?_
  refine g_iload_n (pc := 23) hX 4 rfl dX4_nextLower_23 ?_
  refine g_callV1 (pc := 24) (ci := 0) (As := [.ref (gw_ad w t), vI (row)]) (st2 := []) hX (b + 3) (by omega) e3 rfl (c_X0_nextLower (z := (P row 4)) (x := (P row 6)) (row := row) (by omega) (by omega) (by omega) (by omega) (by omega) e3 e4 e5 e6 e7 ht ht1 et et1 hn hn2 hrm hr0 hr1 hB.1 rfl rfl (by omega) (by omega) (by first | assumption | exact inI_mk (by omega) (by omega)) (by omega) hB.2.1 hC1 hl1) gX4_nextLower_X0_nextLower (n := 2) (hw := rfl) (hrc := rfl) (hrs := rfl) (hd := by decide +kernel) (hR := ⟨Nat.le_of_ble_eq_true rfl, Nat.le_of_ble_eq_true rfl⟩) (hn := rfl) (hst := rfl) (hsum := Nat.le_of_ble_eq_true rfl) (hdg := dX4_nextLower_24) ?_
  rintro _ S9 ⟨rfl, e9⟩
  rw [e9]
  clear e9 S9
  refine g_at (pc2 := 27) rfl rfl (st2 := [vI (bnlZ C L (P row 4) (P row 6))]) rfl (S2 := S) rfl ?_
  refine g_iload (pc := 27) hX 0 rfl dX4_nextLower_27 ?_
  refine g_callN1 (pc := 29) (As := [vI (bnlZ C L (P row 4) (P row 6)), vI (F 7)]) (st2 := []) hX (c_X6_wholeSteps_t (x := bnlZ C L (P row 4) (P row 6)) (y := F 7) (by first | assumption | exact inI_mk (by omega) (by omega)) (by first | assumption | exact inI_mk (by omega) (by omega)) (by omega)) ggX4_nextLower_X6_wholeSteps (List.mem_of_getElem? (i := 14) rfl) (List.mem_of_getElem? (i := 55) rfl) (List.mem_of_getElem? (i := 38) rfl) (n := 2) (hw := rfl) (hrc := rfl) (hrs := rfl) (hd := by decide +kernel) (hR := ⟨Nat.le_of_ble_eq_true rfl, Nat.le_of_ble_eq_true rfl⟩) (hn := rfl) (hst := rfl) (hsum := Nat.le_of_ble_eq_true rfl) (hdg := dX4_nextLower_29) ?_
  rintro _ S9 ⟨rfl, e9⟩
  rw [e9]
  clear e9 S9
  refine g_at (pc2 := 32) rfl rfl (st2 := [vI ((bnlZ C L (P row 4) (P row 6)).tdiv (F 7) * (F 7))]) rfl (S2 := S) rfl ?_
  obtain ⟨ws, ews⟩ : ∃ z : Int, z = (bnlZ C L (P row 4) (P row 6)).tdiv (F 7) * (F 7) := ⟨_, rfl⟩
  refine g_at rfl rfl (st2 := [vI (ws)]) (by rw [ews]) rfl ?_
  have hws := ws_b (x := bnlZ C L (P row 4) (P row 6)) (y := F 7) (by omega) (by omega)
  rw [← ews] at hws
  refine g_istore (pc := 32) hX (lv2 := [(5, vI (ws)), (4, vI (F 7)), (3, vI (P row 0)), (0, .ref (gw_ad w b)), (1, .ref (gw_ad w t)), (2, vI (row))]) (by decide) rfl dX4_nextLower_32 ?_
  refine g_aload_n (pc := 34) hX 3 rfl dX4_nextLower_34 ?_
  refine g_get (pc := 35) hX (ci := 4) (fun _ h => List.mem_cons_of_mem _ (List.mem_append_left _ (List.mem_append_left _ (List.mem_append_left _ (List.mem_append_left _ (List.mem_append_right _ h)))))) rfl b (by omega) e0 2 (by decide) (List.mem_of_getElem? (i := 3) rfl) rfl (v := .ref (gw_ad w (b + 8))) rfl dX4_nextLower_35 ?_
  refine g_iload_n (pc := 38) hX 2 rfl dX4_nextLower_38 ?_
  refine g_iload (pc := 39) hX 1 rfl dX4_nextLower_39 ?_
  refine g_callV1 (pc := 41) (ci := 2) (As := [vI (P row 0), vI (F 7)]) (st2 := []) hX (b + 8) (by omega) e8 rfl (c_X2_nextLower (real := P row 0) (unit := F 7) (by omega) (by omega) (by omega) e8 e9 e10 hRR hU (by first | assumption | exact inI_mk (by omega) (by omega)) (by omega)) gX4_nextLower_X2_nextLower (n := 2) (hw := rfl) (hrc := rfl) (hrs := rfl) (hd := by decide +kernel) (hR := ⟨Nat.le_of_ble_eq_true rfl, Nat.le_of_ble_eq_true rfl⟩) (hn := rfl) (hst := rfl) (hsum := Nat.le_of_ble_eq_true rfl) (hdg := dX4_nextLower_41) ?_
  rintro _ S9 ⟨rfl, e9⟩
  rw [e9]
  clear e9 S9
  refine g_at (pc2 := 44) rfl rfl (st2 := [vI (nlZ R (P row 0) (F 7) (nR).toNat)]) rfl (S2 := S) rfl ?_
  refine g_istore (pc := 44) hX (lv2 := [(6, vI (nlZ R (P row 0) (F 7) (nR).toNat)), (5, vI (ws)), (4, vI (F 7)), (3, vI (P row 0)), (0, .ref (gw_ad w b)), (1, .ref (gw_ad w t)), (2, vI (row))]) (by decide) rfl dX4_nextLower_44 ?_
  refine g_iload (pc := 46) hX 1 rfl dX4_nextLower_46 ?_
  refine g_iload_n (pc := 48) hX 3 rfl dX4_nextLower_48 ?_
  refine g_icmp_ge (pc := 49) (tgt := 62) hX (by first | assumption | exact inI_mk (by omega) (by omega)) (by first | assumption | exact inI_mk (by omega) (by omega)) dX4_nextLower_49 (by decide) (fun c_49 => ?_) (fun c_49 => ?_)
  · skip
    refine g_iload (pc := 62) hX 0 rfl dX4_nextLower_62 ?_
    refine g_iret (pc := 64) hX hR dX4_nextLower_64 ?_
    refine ⟨vI_c ?_, rfl⟩
    show _ = snlZ (F, g, C, E, L, Q, nR, R, nP, P0, nN, N, nK, K) P row
    unfold snlZ
    change _ = if (bnlZ C L (P row 4) (P row 6)).tdiv (F 7) * F 7 < P row 0 then mx ((bnlZ C L (P row 4) (P row 6)).tdiv (F 7) * F 7) (nlZ R (P row 0) (F 7) nR.toNat) else nlZ R (P row 0) (F 7) nR.toNat
    rw [← ews]
    rw [if_neg (by omega)]
  · skip
    refine g_iload (pc := 52) hX 1 rfl dX4_nextLower_52 ?_
    refine g_iload (pc := 54) hX 0 rfl dX4_nextLower_54 ?_
    refine g_mmax (pc := 56) hX (by first | assumption | exact inI_mk (by omega) (by omega)) (by first | assumption | exact inI_mk (by omega) (by omega)) (List.mem_of_getElem? (i := 4) rfl) (List.mem_of_getElem? (i := 5) rfl) (List.mem_of_getElem? (i := 6) rfl) (List.mem_of_getElem? (i := 7) rfl) (Nat.le_of_ble_eq_true rfl) (Nat.le_of_ble_eq_true rfl) dX4_nextLower_56 ?_
    refine g_goto (pc := 59) (tgt := 64) hX dX4_nextLower_59 (by decide) ?_
    refine g_iret (pc := 64) hX hR dX4_nextLower_64 ?_
    refine ⟨vI_c ?_, rfl⟩
    show _ = snlZ (F, g, C, E, L, Q, nR, R, nP, P0, nN, N, nK, K) P row
    unfold snlZ
    change _ = if (bnlZ C L (P row 4) (P row 6)).tdiv (F 7) * F 7 < P row 0 then mx ((bnlZ C L (P row 4) (P row 6)).tdiv (F 7) * F 7) (nlZ R (P row 0) (F 7) nR.toNat) else nlZ R (P row 0) (F 7) nR.toNat
    rw [← ews]
    rw [if_pos c_49]
    rfl

set_option maxHeartbeats 4000000 in
set_option maxRecDepth 100000 in
theorem c_X4_copyFrom {w : gW} {l : Launch} {S : Nat → va_E} {b b2 : Nat} {D D2 : SD} (hb : b + 17 ≤ gw_N w) (hb2 : b2 + 17 ≤ gw_N w) (hap : b + 17 ≤ b2 ∨ b2 + 17 ≤ b) (h1 : stAt w b D S) (h2 : stAt w b2 D2 S) (o1 : cOK D) (o2 : cOK D2) :
    GM0 w l yX4_copyFrom wsX4_copyFrom { frames := 3, cells := 0, slots := 0, locals := 70 } [.ref (gw_ad w b), .ref (gw_ad w b2)] S
      (fun S' => (∀ q : Nat, (q < b ∨ b + 17 ≤ q) → S' q = S q) ∧ stAt w b (cpyD D2 D) S') := by
  refine GM.start (own := RX4) (n := "copyFrom") (d := "(LParcelDesk$State;)V") (by decide) rfl (Nat.le_of_ble_eq_true rfl) ?_
  intro X hX hR hXl
  subst hXl
  refine g_at rfl (lv2 := [(0, .ref (gw_ad w b)), (1, .ref (gw_ad w b2))]) rfl rfl rfl ?_
  obtain ⟨F, g, C, E, L, Q, nR, R, nP, P0, nN, N, nK, K⟩ := D
  obtain ⟨F2, g2, C2, E2, L2, Q2, nR2, R2, nP2, P2, nN2, N2, nK2, K2⟩ := D2
  obtain ⟨hA1, hB1⟩ := h1
  obtain ⟨hA2, hB2⟩ := h2
  obtain ⟨⟨e0, e1, e2⟩, ⟨e3, e4, e5, e6, e7⟩, ⟨e8, e9, e10⟩⟩ := hA1
  obtain ⟨⟨e11, e12⟩, ⟨e13, e14⟩, ⟨e15, e16⟩⟩ := hB1
  obtain ⟨⟨eq0, eq1, eq2⟩, ⟨eq3, eq4, eq5, eq6, eq7⟩, ⟨eq8, eq9, eq10⟩⟩ := hA2
  obtain ⟨⟨eq11, eq12⟩, ⟨eq13, eq14⟩, ⟨eq15, eq16⟩⟩ := hB2
  change S b = .inr (4, [.ref (gw_ad w (b + 1)), .ref (gw_ad w (b + 3)), .ref (gw_ad w (b + 8)), .ref (gw_ad w (b + 11)), .ref (gw_ad w (b + 13)), .ref (gw_ad w (b + 15))]) at e0
  change S (b + 1) = .inr (3, [.ref (gw_ad w (b + 2)), vI (g 0), vI (g 1), vI (g 2), vI (g 3), vI (g 4), vI (g 5), vI (g 6), vI (g 7), vI (g 8), vI (g 9)]) at e1
  change S (b + 2) = AI w 8 (F) at e2
  change S (b + 3) = .inr (0, [.ref (gw_ad w (b + 4)), .ref (gw_ad w (b + 5)), .ref (gw_ad w (b + 6)), .ref (gw_ad w (b + 7))]) at e3
  change S (b + 4) = AI w 4 (C) at e4
  change S (b + 5) = AI w 24 ((fl 6 L)) at e5
  change S (b + 6) = AI w 24 ((fl 6 Q)) at e6
  change S (b + 7) = AI w 4 (E) at e7
  change S (b + 8) = .inr (2, [.ref (gw_ad w (b + 9))]) at e8
  change S (b + 9) = .inr (5, [vI (8), vI (63), .ref (gw_ad w (b + 10)), vI (nR)]) at e9
  change S (b + 10) = AI w 504 (fl 63 R) at e10
  change S (b + 11) = .inr (5, [vI (30), vI (22), .ref (gw_ad w (b + 12)), vI (nP)]) at e11
  change S (b + 12) = AI w 660 (fl 22 P0) at e12
  change S (b + 13) = .inr (5, [vI (20), vI (6), .ref (gw_ad w (b + 14)), vI (nN)]) at e13
  change S (b + 14) = AI w 120 (fl 6 N) at e14
  change S (b + 15) = .inr (5, [vI (20), vI (22), .ref (gw_ad w (b + 16)), vI (nK)]) at e15
  change S (b + 16) = AI w 440 (fl 22 K) at e16
  change S b2 = .inr (4, [.ref (gw_ad w (b2 + 1)), .ref (gw_ad w (b2 + 3)), .ref (gw_ad w (b2 + 8)), .ref (gw_ad w (b2 + 11)), .ref (gw_ad w (b2 + 13)), .ref (gw_ad w (b2 + 15))]) at eq0
  change S (b2 + 1) = .inr (3, [.ref (gw_ad w (b2 + 2)), vI (g2 0), vI (g2 1), vI (g2 2), vI (g2 3), vI (g2 4), vI (g2 5), vI (g2 6), vI (g2 7), vI (g2 8), vI (g2 9)]) at eq1
  change S (b2 + 2) = AI w 8 (F2) at eq2
  change S (b2 + 3) = .inr (0, [.ref (gw_ad w (b2 + 4)), .ref (gw_ad w (b2 + 5)), .ref (gw_ad w (b2 + 6)), .ref (gw_ad w (b2 + 7))]) at eq3
  change S (b2 + 4) = AI w 4 (C2) at eq4
  change S (b2 + 5) = AI w 24 ((fl 6 L2)) at eq5
  change S (b2 + 6) = AI w 24 ((fl 6 Q2)) at eq6
  change S (b2 + 7) = AI w 4 (E2) at eq7
  change S (b2 + 8) = .inr (2, [.ref (gw_ad w (b2 + 9))]) at eq8
  change S (b2 + 9) = .inr (5, [vI (8), vI (63), .ref (gw_ad w (b2 + 10)), vI (nR2)]) at eq9
  change S (b2 + 10) = AI w 504 (fl 63 R2) at eq10
  change S (b2 + 11) = .inr (5, [vI (30), vI (22), .ref (gw_ad w (b2 + 12)), vI (nP2)]) at eq11
  change S (b2 + 12) = AI w 660 (fl 22 P2) at eq12
  change S (b2 + 13) = .inr (5, [vI (20), vI (6), .ref (gw_ad w (b2 + 14)), vI (nN2)]) at eq13
  change S (b2 + 14) = AI w 120 (fl 6 N2) at eq14
  change S (b2 + 15) = .inr (5, [vI (20), vI (22), .ref (gw_ad w (b2 + 16)), vI (nK2)]) at eq15
  change S (b2 + 16) = AI w 440 (fl 22 K2) at eq16
  obtain ⟨hC1, -, hnR1, hnP1, hnN1, hnK1⟩ := o1
  obtain ⟨hC2, hL2, hnR2, hnP2, hnN2, hnK2⟩ := o2
  change bcOK C at hC1
  change bcOK C2 at hC2
  change ∀ a b, inI (L2 a b) at hL2
  change 0 ≤ nR ∧ nR ≤ 8 at hnR1
  change 0 ≤ nP ∧ nP ≤ 30 at hnP1
  change 0 ≤ nN ∧ nN ≤ 20 at hnN1
  change 0 ≤ nK ∧ nK ≤ 20 at hnK1
  change 0 ≤ nR2 ∧ nR2 ≤ 8 at hnR2
  change 0 ≤ nP2 ∧ nP2 ≤ 30 at hnP2
  change 0 ≤ nN2 ∧ nN2 ≤ 20 at hnN2
  change 0 ≤ nK2 ∧ nK2 ≤ 20 at hnK2
  refine g_aload_n (pc := 0) hX 0 rfl dX4_copyFrom_0 ?_
  refine g_get (pc := 1) hX (ci := 4) (fun _ h => List.mem_cons_of_mem _ (List.mem_append_left _ (List.mem_append_left _ (List.mem_append_left _ (List.mem_append_left _ (List.mem_append_right _ h)))))) rfl b (by omega) e0 0 (by decide) (List.mem_of_getElem? (i := 1) rfl) rfl (v := .ref (gw_ad w (b + 1))) rfl dX4_copyFrom_1 ?_
  refine g_aload_n (pc := 4) hX 1 rfl dX4_copyFrom_4 ?_
  refine g_get (pc := 5) hX (ci := 4) (fun _ h => List.mem_cons_of_mem _ (List.mem_append_left _ (List.mem_append_left _ (List.mem_append_left _ (List.mem_append_left _ (List.mem_append_right _ h)))))) rfl b2 (by omega) eq0 0 (by decide) (List.mem_of_getElem? (i := 1) rfl) rfl (v := .ref (gw_ad w (b2 + 1))) rfl dX4_copyFrom_5 ?_
  refine g_callV0 (pc := 8) (ci := 3) (As := [.ref (gw_ad w (b2 + 1))]) (st2 := []) hX (b + 1) (by omega) e1 rfl (c_X3_copyFrom (g := g) (g2 := g2) (by omega) (by omega) e1 e2 (by omega) (by omega) eq1 eq2 (by omega) (by omega) (by omega) (by omega) (by omega)) gX4_copyFrom_X3_copyFrom (n := 1) (hw := rfl) (hrc := rfl) (hrs := rfl) (hd := by decide +kernel) (hR := ⟨Nat.le_of_ble_eq_true rfl, Nat.le_of_ble_eq_true rfl⟩) (hn := rfl) (hst := rfl) (hsum := Nat.le_of_ble_eq_true rfl) (hdg := dX4_copyFrom_8) ?_
  rintro S3 ⟨hf3, g3a, g3b⟩
  refine g_at (pc2 := 11) rfl rfl (st2 := []) rfl (S2 := S3) rfl ?_
  refine g_aload_n (pc := 11) hX 0 rfl dX4_copyFrom_11 ?_
  refine g_get (pc := 12) hX (ci := 4) (fun _ h => List.mem_cons_of_mem _ (List.mem_append_left _ (List.mem_append_left _ (List.mem_append_left _ (List.mem_append_left _ (List.mem_append_right _ h)))))) rfl b (by omega) ((hf3 b (by omega) (by omega)).trans e0) 1 (by decide) (List.mem_of_getElem? (i := 2) rfl) rfl (v := .ref (gw_ad w (b + 3))) rfl dX4_copyFrom_12 ?_
  refine g_aload_n (pc := 15) hX 1 rfl dX4_copyFrom_15 ?_
  refine g_get (pc := 16) hX (ci := 4) (fun _ h => List.mem_cons_of_mem _ (List.mem_append_left _ (List.mem_append_left _ (List.mem_append_left _ (List.mem_append_left _ (List.mem_append_right _ h)))))) rfl b2 (by omega) ((hf3 b2 (by omega) (by omega)).trans eq0) 1 (by decide) (List.mem_of_getElem? (i := 2) rfl) rfl (v := .ref (gw_ad w (b2 + 3))) rfl dX4_copyFrom_16 ?_
  refine g_callV0 (pc := 19) (ci := 0) (As := [.ref (gw_ad w (b2 + 3))]) (st2 := []) hX (b + 3) (by omega) ((hf3 (b + 3) (by omega) (by omega)).trans e3) rfl (c_X0_copyFrom (by omega) (by omega) (by omega) (by omega) (by omega) ((hf3 (b + 3) (by omega) (by omega)).trans e3) ((hf3 (b + 4) (by omega) (by omega)).trans e4) ((hf3 (b + 5) (by omega) (by omega)).trans e5) ((hf3 (b + 6) (by omega) (by omega)).trans e6) ((hf3 (b + 7) (by omega) (by omega)).trans e7) (by omega) (by omega) (by omega) (by omega) (by omega) ((hf3 (b2 + 3) (by omega) (by omega)).trans eq3) ((hf3 (b2 + 4) (by omega) (by omega)).trans eq4) ((hf3 (b2 + 5) (by omega) (by omega)).trans eq5) ((hf3 (b2 + 6) (by omega) (by omega)).trans eq6) ((hf3 (b2 + 7) (by omega) (by omega)).trans eq7) hC1 hC2 hL2 (by omega) (by omega) (by omega) (by omega) (by omega) (by omega) (by omega) (by omega) (by omega) (by omega) (by omega) (by omega) (by omega) (by omega) (by omega) (by omega) (by omega) (by omega) (by omega) (by omega) (by omega) (by omega) (by omega) (by omega) (by omega) (by omega) (by omega) (by omega) (by omega) (by omega)) gX4_copyFrom_X0_copyFrom (n := 1) (hw := rfl) (hrc := rfl) (hrs := rfl) (hd := by decide +kernel) (hR := ⟨Nat.le_of_ble_eq_true rfl, Nat.le_of_ble_eq_true rfl⟩) (hn := rfl) (hst := rfl) (hsum := Nat.le_of_ble_eq_true rfl) (hdg := dX4_copyFrom_19) ?_
  rintro S0 ⟨hf0, g0a, g0b, g0c, g0d⟩
  refine g_at (pc2 := 22) rfl rfl (st2 := []) rfl (S2 := S0) rfl ?_
  refine g_aload_n (pc := 22) hX 0 rfl dX4_copyFrom_22 ?_
  refine g_get (pc := 23) hX (ci := 4) (fun _ h => List.mem_cons_of_mem _ (List.mem_append_left _ (List.mem_append_left _ (List.mem_append_left _ (List.mem_append_left _ (List.mem_append_right _ h)))))) rfl b (by omega) ((hf0 b (by omega) (by omega) (by omega) (by omega)).trans ((hf3 b (by omega) (by omega)).trans e0)) 2 (by decide) (List.mem_of_getElem? (i := 3) rfl) rfl (v := .ref (gw_ad w (b + 8))) rfl dX4_copyFrom_23 ?_
  refine g_aload_n (pc := 26) hX 1 rfl dX4_copyFrom_26 ?_
  refine g_get (pc := 27) hX (ci := 4) (fun _ h => List.mem_cons_of_mem _ (List.mem_append_left _ (List.mem_append_left _ (List.mem_append_left _ (List.mem_append_left _ (List.mem_append_right _ h)))))) rfl b2 (by omega) ((hf0 b2 (by omega) (by omega) (by omega) (by omega)).trans ((hf3 b2 (by omega) (by omega)).trans eq0)) 2 (by decide) (List.mem_of_getElem? (i := 3) rfl) rfl (v := .ref (gw_ad w (b2 + 8))) rfl dX4_copyFrom_27 ?_
  refine g_callV0 (pc := 30) (ci := 2) (As := [.ref (gw_ad w (b2 + 8))]) (st2 := []) hX (b + 8) (by omega) ((hf0 (b + 8) (by omega) (by omega) (by omega) (by omega)).trans ((hf3 (b + 8) (by omega) (by omega)).trans e8)) rfl (c_X2_copyFrom (by omega) (by omega) (by omega) ((hf0 (b + 8) (by omega) (by omega) (by omega) (by omega)).trans ((hf3 (b + 8) (by omega) (by omega)).trans e8)) ((hf0 (b + 9) (by omega) (by omega) (by omega) (by omega)).trans ((hf3 (b + 9) (by omega) (by omega)).trans e9)) ((hf0 (b + 10) (by omega) (by omega) (by omega) (by omega)).trans ((hf3 (b + 10) (by omega) (by omega)).trans e10)) (by omega) (by omega) (by omega) ((hf0 (b2 + 8) (by omega) (by omega) (by omega) (by omega)).trans ((hf3 (b2 + 8) (by omega) (by omega)).trans eq8)) ((hf0 (b2 + 9) (by omega) (by omega) (by omega) (by omega)).trans ((hf3 (b2 + 9) (by omega) (by omega)).trans eq9)) ((hf0 (b2 + 10) (by omega) (by omega) (by omega) (by omega)).trans ((hf3 (b2 + 10) (by omega) (by omega)).trans eq10)) (by omega) (by omega) (by omega)) gX4_copyFrom_X2_copyFrom (n := 1) (hw := rfl) (hrc := rfl) (hrs := rfl) (hd := by decide +kernel) (hR := ⟨Nat.le_of_ble_eq_true rfl, Nat.le_of_ble_eq_true rfl⟩) (hn := rfl) (hst := rfl) (hsum := Nat.le_of_ble_eq_true rfl) (hdg := dX4_copyFrom_30) ?_
  rintro _ rfl
  refine g_at (pc2 := 33) rfl rfl (st2 := []) rfl (S2 := (va_up (va_up S0 (b + 10) (AI w 504 (fl 63 (mrg nR2 R2 R)))) (b + 9) (.inr (5, [vI (8), vI (63), .ref (gw_ad w (b + 10)), vI (nR2)])))) rfl ?_
  refine g_aload_n (pc := 33) hX 0 rfl dX4_copyFrom_33 ?_
  refine g_get (pc := 34) hX (ci := 4) (fun _ h => List.mem_cons_of_mem _ (List.mem_append_left _ (List.mem_append_left _ (List.mem_append_left _ (List.mem_append_left _ (List.mem_append_right _ h)))))) rfl b (by omega) (up_ne (by omega) (up_ne (by omega) ((hf0 b (by omega) (by omega) (by omega) (by omega)).trans ((hf3 b (by omega) (by omega)).trans e0)))) 3 (by decide) (List.mem_of_getElem? (i := 4) rfl) rfl (v := .ref (gw_ad w (b + 11))) rfl dX4_copyFrom_34 ?_
  refine g_aload_n (pc := 37) hX 1 rfl dX4_copyFrom_37 ?_
  refine g_get (pc := 38) hX (ci := 4) (fun _ h => List.mem_cons_of_mem _ (List.mem_append_left _ (List.mem_append_left _ (List.mem_append_left _ (List.mem_append_left _ (List.mem_append_right _ h)))))) rfl b2 (by omega) (up_ne (by omega) (up_ne (by omega) ((hf0 b2 (by omega) (by omega) (by omega) (by omega)).trans ((hf3 b2 (by omega) (by omega)).trans eq0)))) 3 (by decide) (List.mem_of_getElem? (i := 4) rfl) rfl (v := .ref (gw_ad w (b2 + 11))) rfl dX4_copyFrom_38 ?_
  refine g_callV0 (pc := 41) (ci := 5) (As := [.ref (gw_ad w (b2 + 11))]) (st2 := []) hX (b + 11) (by omega) (up_ne (by omega) (up_ne (by omega) ((hf0 (b + 11) (by omega) (by omega) (by omega) (by omega)).trans ((hf3 (b + 11) (by omega) (by omega)).trans e11)))) rfl (c_X5_copyFrom (by omega) (by omega) (up_ne (by omega) (up_ne (by omega) ((hf0 (b + 11) (by omega) (by omega) (by omega) (by omega)).trans ((hf3 (b + 11) (by omega) (by omega)).trans e11)))) (up_ne (by omega) (up_ne (by omega) ((hf0 (b + 12) (by omega) (by omega) (by omega) (by omega)).trans ((hf3 (b + 12) (by omega) (by omega)).trans e12)))) (by omega) (by omega) (up_ne (by omega) (up_ne (by omega) ((hf0 (b2 + 11) (by omega) (by omega) (by omega) (by omega)).trans ((hf3 (b2 + 11) (by omega) (by omega)).trans eq11)))) (up_ne (by omega) (up_ne (by omega) ((hf0 (b2 + 12) (by omega) (by omega) (by omega) (by omega)).trans ((hf3 (b2 + 12) (by omega) (by omega)).trans eq12)))) (by omega) (by omega) (by first | assumption | exact inI_mk (by omega) (by omega)) (by first | assumption | exact inI_mk (by omega) (by omega)) (by omega) (by omega) (by omega) (by omega)) gX4_copyFrom_X5_copyFrom (n := 1) (hw := rfl) (hrc := rfl) (hrs := rfl) (hd := by decide +kernel) (hR := ⟨Nat.le_of_ble_eq_true rfl, Nat.le_of_ble_eq_true rfl⟩) (hn := rfl) (hst := rfl) (hsum := Nat.le_of_ble_eq_true rfl) (hdg := dX4_copyFrom_41) ?_
  rintro _ rfl
  refine g_at (pc2 := 44) rfl rfl (st2 := []) rfl (S2 := (va_up (va_up (va_up (va_up S0 (b + 10) (AI w 504 (fl 63 (mrg nR2 R2 R)))) (b + 9) (.inr (5, [vI (8), vI (63), .ref (gw_ad w (b + 10)), vI (nR2)]))) (b + 12) (AI w 660 (fl 22 (mrg nP2 P2 P0)))) (b + 11) (.inr (5, [vI (30), vI (22), .ref (gw_ad w (b + 12)), vI (nP2)])))) rfl ?_
  refine g_aload_n (pc := 44) hX 0 rfl dX4_copyFrom_44 ?_
  refine g_get (pc := 45) hX (ci := 4) (fun _ h => List.mem_cons_of_mem _ (List.mem_append_left _ (List.mem_append_left _ (List.mem_append_left _ (List.mem_append_left _ (List.mem_append_right _ h)))))) rfl b (by omega) (up_ne (by omega) (up_ne (by omega) (up_ne (by omega) (up_ne (by omega) ((hf0 b (by omega) (by omega) (by omega) (by omega)).trans ((hf3 b (by omega) (by omega)).trans e0)))))) 4 (by decide) (List.mem_of_getElem? (i := 5) rfl) rfl (v := .ref (gw_ad w (b + 13))) rfl dX4_copyFrom_45 ?_
  refine g_aload_n (pc := 48) hX 1 rfl dX4_copyFrom_48 ?_
  refine g_get (pc := 49) hX (ci := 4) (fun _ h => List.mem_cons_of_mem _ (List.mem_append_left _ (List.mem_append_left _ (List.mem_append_left _ (List.mem_append_left _ (List.mem_append_right _ h)))))) rfl b2 (by omega) (up_ne (by omega) (up_ne (by omega) (up_ne (by omega) (up_ne (by omega) ((hf0 b2 (by omega) (by omega) (by omega) (by omega)).trans ((hf3 b2 (by omega) (by omega)).trans eq0)))))) 4 (by decide) (List.mem_of_getElem? (i := 5) rfl) rfl (v := .ref (gw_ad w (b2 + 13))) rfl dX4_copyFrom_49 ?_
  refine g_callV0 (pc := 52) (ci := 5) (As := [.ref (gw_ad w (b2 + 13))]) (st2 := []) hX (b + 13) (by omega) (up_ne (by omega) (up_ne (by omega) (up_ne (by omega) (up_ne (by omega) ((hf0 (b + 13) (by omega) (by omega) (by omega) (by omega)).trans ((hf3 (b + 13) (by omega) (by omega)).trans e13)))))) rfl (c_X5_copyFrom (by omega) (by omega) (up_ne (by omega) (up_ne (by omega) (up_ne (by omega) (up_ne (by omega) ((hf0 (b + 13) (by omega) (by omega) (by omega) (by omega)).trans ((hf3 (b + 13) (by omega) (by omega)).trans e13)))))) (up_ne (by omega) (up_ne (by omega) (up_ne (by omega) (up_ne (by omega) ((hf0 (b + 14) (by omega) (by omega) (by omega) (by omega)).trans ((hf3 (b + 14) (by omega) (by omega)).trans e14)))))) (by omega) (by omega) (up_ne (by omega) (up_ne (by omega) (up_ne (by omega) (up_ne (by omega) ((hf0 (b2 + 13) (by omega) (by omega) (by omega) (by omega)).trans ((hf3 (b2 + 13) (by omega) (by omega)).trans eq13)))))) (up_ne (by omega) (up_ne (by omega) (up_ne (by omega) (up_ne (by omega) ((hf0 (b2 + 14) (by omega) (by omega) (by omega) (by omega)).trans ((hf3 (b2 + 14) (by omega) (by omega)).trans eq14)))))) (by omega) (by omega) (by first | assumption | exact inI_mk (by omega) (by omega)) (by first | assumption | exact inI_mk (by omega) (by omega)) (by omega) (by omega) (by omega) (by omega)) gX4_copyFrom_X5_copyFrom (n := 1) (hw := rfl) (hrc := rfl) (hrs := rfl) (hd := by decide +kernel) (hR := ⟨Nat.le_of_ble_eq_true rfl, Nat.le_of_ble_eq_true rfl⟩) (hn := rfl) (hst := rfl) (hsum := Nat.le_of_ble_eq_true rfl) (hdg := dX4_copyFrom_52) ?_
  rintro _ rfl
  refine g_at (pc2 := 55) rfl rfl (st2 := []) rfl (S2 := (va_up (va_up (va_up (va_up (va_up (va_up S0 (b + 10) (AI w 504 (fl 63 (mrg nR2 R2 R)))) (b + 9) (.inr (5, [vI (8), vI (63), .ref (gw_ad w (b + 10)), vI (nR2)]))) (b + 12) (AI w 660 (fl 22 (mrg nP2 P2 P0)))) (b + 11) (.inr (5, [vI (30), vI (22), .ref (gw_ad w (b + 12)), vI (nP2)]))) (b + 14) (AI w 120 (fl 6 (mrg nN2 N2 N)))) (b + 13) (.inr (5, [vI (20), vI (6), .ref (gw_ad w (b + 14)), vI (nN2)])))) rfl ?_
  refine g_aload_n (pc := 55) hX 0 rfl dX4_copyFrom_55 ?_
  refine g_get (pc := 56) hX (ci := 4) (fun _ h => List.mem_cons_of_mem _ (List.mem_append_left _ (List.mem_append_left _ (List.mem_append_left _ (List.mem_append_left _ (List.mem_append_right _ h)))))) rfl b (by omega) (up_ne (by omega) (up_ne (by omega) (up_ne (by omega) (up_ne (by omega) (up_ne (by omega) (up_ne (by omega) ((hf0 b (by omega) (by omega) (by omega) (by omega)).trans ((hf3 b (by omega) (by omega)).trans e0)))))))) 5 (by decide) (List.mem_of_getElem? (i := 6) rfl) rfl (v := .ref (gw_ad w (b + 15))) rfl dX4_copyFrom_56 ?_
  refine g_aload_n (pc := 59) hX 1 rfl dX4_copyFrom_59 ?_
  refine g_get (pc := 60) hX (ci := 4) (fun _ h => List.mem_cons_of_mem _ (List.mem_append_left _ (List.mem_append_left _ (List.mem_append_left _ (List.mem_append_left _ (List.mem_append_right _ h)))))) rfl b2 (by omega) (up_ne (by omega) (up_ne (by omega) (up_ne (by omega) (up_ne (by omega) (up_ne (by omega) (up_ne (by omega) ((hf0 b2 (by omega) (by omega) (by omega) (by omega)).trans ((hf3 b2 (by omega) (by omega)).trans eq0)))))))) 5 (by decide) (List.mem_of_getElem? (i := 6) rfl) rfl (v := .ref (gw_ad w (b2 + 15))) rfl dX4_copyFrom_60 ?_
  refine g_callV0 (pc := 63) (ci := 5) (As := [.ref (gw_ad w (b2 + 15))]) (st2 := []) hX (b + 15) (by omega) (up_ne (by omega) (up_ne (by omega) (up_ne (by omega) (up_ne (by omega) (up_ne (by omega) (up_ne (by omega) ((hf0 (b + 15) (by omega) (by omega) (by omega) (by omega)).trans ((hf3 (b + 15) (by omega) (by omega)).trans e15)))))))) rfl (c_X5_copyFrom (by omega) (by omega) (up_ne (by omega) (up_ne (by omega) (up_ne (by omega) (up_ne (by omega) (up_ne (by omega) (up_ne (by omega) ((hf0 (b + 15) (by omega) (by omega) (by omega) (by omega)).trans ((hf3 (b + 15) (by omega) (by omega)).trans e15)))))))) (up_ne (by omega) (up_ne (by omega) (up_ne (by omega) (up_ne (by omega) (up_ne (by omega) (up_ne (by omega) ((hf0 (b + 16) (by omega) (by omega) (by omega) (by omega)).trans ((hf3 (b + 16) (by omega) (by omega)).trans e16)))))))) (by omega) (by omega) (up_ne (by omega) (up_ne (by omega) (up_ne (by omega) (up_ne (by omega) (up_ne (by omega) (up_ne (by omega) ((hf0 (b2 + 15) (by omega) (by omega) (by omega) (by omega)).trans ((hf3 (b2 + 15) (by omega) (by omega)).trans eq15)))))))) (up_ne (by omega) (up_ne (by omega) (up_ne (by omega) (up_ne (by omega) (up_ne (by omega) (up_ne (by omega) ((hf0 (b2 + 16) (by omega) (by omega) (by omega) (by omega)).trans ((hf3 (b2 + 16) (by omega) (by omega)).trans eq16)))))))) (by omega) (by omega) (by first | assumption | exact inI_mk (by omega) (by omega)) (by first | assumption | exact inI_mk (by omega) (by omega)) (by omega) (by omega) (by omega) (by omega)) gX4_copyFrom_X5_copyFrom (n := 1) (hw := rfl) (hrc := rfl) (hrs := rfl) (hd := by decide +kernel) (hR := ⟨Nat.le_of_ble_eq_true rfl, Nat.le_of_ble_eq_true rfl⟩) (hn := rfl) (hst := rfl) (hsum := Nat.le_of_ble_eq_true rfl) (hdg := dX4_copyFrom_63) ?_
  rintro _ rfl
  refine g_at (pc2 := 66) rfl rfl (st2 := []) rfl (S2 := (va_up (va_up (va_up (va_up (va_up (va_up (va_up (va_up S0 (b + 10) (AI w 504 (fl 63 (mrg nR2 R2 R)))) (b + 9) (.inr (5, [vI (8), vI (63), .ref (gw_ad w (b + 10)), vI (nR2)]))) (b + 12) (AI w 660 (fl 22 (mrg nP2 P2 P0)))) (b + 11) (.inr (5, [vI (30), vI (22), .ref (gw_ad w (b + 12)), vI (nP2)]))) (b + 14) (AI w 120 (fl 6 (mrg nN2 N2 N)))) (b + 13) (.inr (5, [vI (20), vI (6), .ref (gw_ad w (b + 14)), vI (nN2)]))) (b + 16) (AI w 440 (fl 22 (mrg nK2 K2 K)))) (b + 15) (.inr (5, [vI (20), vI (22), .ref (gw_ad w (b + 16)), vI (nK2)])))) rfl ?_
  refine g_vret (pc := 66) hX hR dX4_copyFrom_66 ?_
  exact ⟨fun q hq => (fun q a0 a1 a2 a3 a4 a5 a6 a7 a8 a9 a10 a11 a12 a13 => (up_ne a13 (up_ne a12 (up_ne a11 (up_ne a10 (up_ne a9 (up_ne a8 (up_ne a7 (up_ne a6 ((hf0 q a2 a3 a4 a5).trans (hf3 q a0 a1))))))))))) q (by omega) (by omega) (by omega) (by omega) (by omega) (by omega) (by omega) (by omega) (by omega) (by omega) (by omega) (by omega) (by omega) (by omega), ⟨⟨⟨(up_ne (by omega) (up_ne (by omega) (up_ne (by omega) (up_ne (by omega) (up_ne (by omega) (up_ne (by omega) (up_ne (by omega) (up_ne (by omega) ((hf0 b (by omega) (by omega) (by omega) (by omega)).trans ((hf3 b (by omega) (by omega)).trans e0)))))))))), (up_ne (by omega) (up_ne (by omega) (up_ne (by omega) (up_ne (by omega) (up_ne (by omega) (up_ne (by omega) (up_ne (by omega) (up_ne (by omega) ((hf0 (b + 1) (by omega) (by omega) (by omega) (by omega)).trans g3b))))))))), (up_ne (by omega) (up_ne (by omega) (up_ne (by omega) (up_ne (by omega) (up_ne (by omega) (up_ne (by omega) (up_ne (by omega) (up_ne (by omega) ((hf0 (b + 2) (by omega) (by omega) (by omega) (by omega)).trans g3a)))))))))⟩, ⟨(up_ne (by omega) (up_ne (by omega) (up_ne (by omega) (up_ne (by omega) (up_ne (by omega) (up_ne (by omega) (up_ne (by omega) (up_ne (by omega) ((hf0 (b + 3) (by omega) (by omega) (by omega) (by omega)).trans ((hf3 (b + 3) (by omega) (by omega)).trans e3)))))))))), (up_ne (by omega) (up_ne (by omega) (up_ne (by omega) (up_ne (by omega) (up_ne (by omega) (up_ne (by omega) (up_ne (by omega) (up_ne (by omega) g0a)))))))), (up_ne (by omega) (up_ne (by omega) (up_ne (by omega) (up_ne (by omega) (up_ne (by omega) (up_ne (by omega) (up_ne (by omega) (up_ne (by omega) g0b)))))))), (up_ne (by omega) (up_ne (by omega) (up_ne (by omega) (up_ne (by omega) (up_ne (by omega) (up_ne (by omega) (up_ne (by omega) (up_ne (by omega) g0c)))))))), (up_ne (by omega) (up_ne (by omega) (up_ne (by omega) (up_ne (by omega) (up_ne (by omega) (up_ne (by omega) (up_ne (by omega) (up_ne (by omega) g0d))))))))⟩, ⟨(up_ne (by omega) (up_ne (by omega) (up_ne (by omega) (up_ne (by omega) (up_ne (by omega) (up_ne (by omega) (up_ne (by omega) (up_ne (by omega) ((hf0 (b + 8) (by omega) (by omega) (by omega) (by omega)).trans ((hf3 (b + 8) (by omega) (by omega)).trans e8)))))))))), (up_ne (by omega) (up_ne (by omega) (up_ne (by omega) (up_ne (by omega) (up_ne (by omega) (up_ne (by omega) (up_eq _ _ _))))))), (up_ne (by omega) (up_ne (by omega) (up_ne (by omega) (up_ne (by omega) (up_ne (by omega) (up_ne (by omega) (up_ne (by omega) (up_eq _ _ _))))))))⟩⟩, ⟨⟨(up_ne (by omega) (up_ne (by omega) (up_ne (by omega) (up_ne (by omega) (up_eq _ _ _))))), (up_ne (by omega) (up_ne (by omega) (up_ne (by omega) (up_ne (by omega) (up_ne (by omega) (up_eq _ _ _))))))⟩, ⟨(up_ne (by omega) (up_ne (by omega) (up_eq _ _ _))), (up_ne (by omega) (up_ne (by omega) (up_ne (by omega) (up_eq _ _ _))))⟩, ⟨(up_eq _ _ _), (up_ne (by omega) (up_eq _ _ _))⟩⟩⟩⟩
