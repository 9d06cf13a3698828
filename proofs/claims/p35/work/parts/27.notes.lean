set_option maxHeartbeats 4000000 in
set_option maxRecDepth 100000 in
theorem c_X6_writeNote {w : gW} {l : Launch} {S : Nat → va_E} {pc j : Nat} {ty : Int} {B ρ T : Int → Int} {Tr : Int → Int → Int} {D : SD} {Z : Nat → SD} (hN : gw_N w = 92) (hd : deskAt w pc j ty B ρ T Tr D Z S) (hO : deskOK ty B ρ Tr D) {p x y : Int} (hp : 0 ≤ p ∧ p < snP D) (hx : 0 ≤ x ∧ x ≤ 3) (hy : inI y) (hn20 : snN D < 20) (hrow : rowIn D (clmK D p x y) (snN D)) :
    GM1 w l yX6_writeNote wsX6_writeNote { frames := 5, cells := 0, slots := 0, locals := 131 } [.ref (gw_ad w 0), vI (p), vI (x), vI (y)] S
      (fun v S' => v = vI (snN D) ∧ POST w S pc j ty B ρ T Tr (dspD D p x y) Z S') := by
  refine GM.start (own := RX6) (n := "writeNote") (d := "(III)I") (by decide) rfl (Nat.le_of_ble_eq_true rfl) ?_
  intro X hX hR hXl
  subst hXl
  refine g_at rfl (lv2 := [(0, .ref (gw_ad w 0)), (1, vI (p)), (2, vI (x)), (3, vI (y))]) rfl rfl rfl ?_
  obtain ⟨⟨d0, d1, d2, d3, d4, d5, d6⟩, ⟨hS0, hB0⟩, hpa⟩ := id hd
  obtain ⟨F, g, C, E, L, Q, nR, R, nP, P0, nN, N, nK, K⟩ := D
  obtain ⟨⟨e0, e1, e2⟩, ⟨e3, e4, e5, e6, e7⟩, ⟨e8, e9, e10⟩⟩ := (id hS0)
  obtain ⟨⟨e11, e12⟩, ⟨e13, e14⟩, ⟨e15, e16⟩⟩ := (id hB0)
  change S 7 = .inr (4, [.ref (gw_ad w 8), .ref (gw_ad w 10), .ref (gw_ad w 15), .ref (gw_ad w 18), .ref (gw_ad w 20), .ref (gw_ad w 22)]) at e0
  change S 8 = .inr (3, [.ref (gw_ad w 9), vI (g 0), vI (g 1), vI (g 2), vI (g 3), vI (g 4), vI (g 5), vI (g 6), vI (g 7), vI (g 8), vI (g 9)]) at e1
  change S 9 = AI w 8 (F) at e2
  change S 10 = .inr (0, [.ref (gw_ad w 11), .ref (gw_ad w 12), .ref (gw_ad w 13), .ref (gw_ad w 14)]) at e3
  change S 11 = AI w 4 (C) at e4
  change S 12 = AI w 24 ((fl 6 L)) at e5
  change S 13 = AI w 24 ((fl 6 Q)) at e6
  change S 14 = AI w 4 (E) at e7
  change S 15 = .inr (2, [.ref (gw_ad w 16)]) at e8
  change S 16 = .inr (5, [vI (8), vI (63), .ref (gw_ad w 17), vI (nR)]) at e9
  change S 17 = AI w 504 (fl 63 R) at e10
  change S 18 = .inr (5, [vI (30), vI (22), .ref (gw_ad w 19), vI (nP)]) at e11
  change S 19 = AI w 660 (fl 22 P0) at e12
  change S 20 = .inr (5, [vI (20), vI (6), .ref (gw_ad w 21), vI (nN)]) at e13
  change S 21 = AI w 120 (fl 6 N) at e14
  change S 22 = .inr (5, [vI (20), vI (22), .ref (gw_ad w 23), vI (nK)]) at e15
  change S 23 = AI w 440 (fl 22 K) at e16
  obtain ⟨hD, hty, hBr, hBi, hrd, hTi⟩ := id hO
  obtain ⟨⟨⟨hF, hg⟩, hB, hU, hRR⟩, ⟨hnP, hPi, hPr⟩, ⟨hnN, hNi, hNr⟩, ⟨hnK, hKi, hKr⟩, hg3⟩ := id hD
  change scF F at hF
  change scG g at hg
  change bdOK C E L Q at hB
  change ruOK nR R at hU
  change ∀ i j, inI (R i j) at hRR
  change 0 ≤ nP ∧ nP ≤ 30 at hnP
  change ∀ i j, inI (P0 i j) at hPi
  change ∀ p, 0 ≤ p → p < nP → rowOK P0 p at hPr
  change 0 ≤ nN ∧ nN ≤ 20 at hnN
  change ∀ i j, inI (N i j) at hNi
  change nK = nN at hnK
  change ∀ i j, inI (K i j) at hKi
  change ∀ n, 0 ≤ n → n < nN → rowOK K n at hKr
  have hnRb : 0 ≤ nR ∧ nR ≤ 8 := hU.1
  change 0 ≤ p ∧ p < nP at hp
  change nN < 20 at hn20
  refine g_aload_n (pc := 0) hX 0 rfl dX6_writeNote_0 ?_
  refine g_get (pc := 1) hX (ci := 6) (fun _ h => List.mem_cons_of_mem _ (List.mem_append_left _ (List.mem_append_left _ (List.mem_append_left _ (List.mem_append_left _ (List.mem_append_left _ (List.mem_append_right _ h))))))) rfl 0 (by omega) d0 0 (by decide) (List.mem_of_getElem? (i := 1) rfl) rfl (v := .ref (gw_ad w 7)) rfl dX6_writeNote_1 ?_
  refine g_get (pc := 4) hX (ci := 4) (fun _ h => List.mem_cons_of_mem _ (List.mem_append_left _ (List.mem_append_left _ (List.mem_append_left _ (List.mem_append_left _ (List.mem_append_right _ h)))))) rfl 7 (by omega) e0 4 (by decide) (List.mem_of_getElem? (i := 2) rfl) rfl (v := .ref (gw_ad w 20)) rfl dX6_writeNote_4 ?_
  refine g_callV1 (pc := 7) (ci := 5) (As := []) (st2 := []) hX 20 (by omega) e13 rfl (c_X5_addRow (by omega) (by omega) e13 e14 (by first | assumption | exact inI_mk (by omega) (by omega)) (by first | assumption | exact inI_mk (by omega) (by omega)) (by omega)) gX6_writeNote_X5_addRow (n := 0) (hw := rfl) (hrc := rfl) (hrs := rfl) (hd := by decide +kernel) (hR := ⟨Nat.le_of_ble_eq_true rfl, Nat.le_of_ble_eq_true rfl⟩) (hn := rfl) (hst := rfl) (hsum := Nat.le_of_ble_eq_true rfl) (hdg := dX6_writeNote_7) ?_
  rintro _ _ ⟨rfl, rfl⟩
  refine g_at (pc2 := 10) rfl rfl (st2 := [vI (nN)]) rfl (S2 := (va_up S 20 (.inr (5, [vI (20), vI (6), .ref (gw_ad w 21), vI (nN + 1)])))) rfl ?_
  refine g_istore (pc := 10) hX (lv2 := [(4, vI (nN)), (0, .ref (gw_ad w 0)), (1, vI (p)), (2, vI (x)), (3, vI (y))]) (by decide) rfl dX6_writeNote_10 ?_
  refine g_aload_n (pc := 12) hX 1 rfl dX6_writeNote_12 ?_
  refine g_get (pc := 13) hX (ci := 6) (fun _ h => List.mem_cons_of_mem _ (List.mem_append_left _ (List.mem_append_left _ (List.mem_append_left _ (List.mem_append_left _ (List.mem_append_left _ (List.mem_append_right _ h))))))) rfl 0 (by omega) (up_ne (by decide) d0) 0 (by decide) (List.mem_of_getElem? (i := 1) rfl) rfl (v := .ref (gw_ad w 7)) rfl dX6_writeNote_13 ?_
  refine g_get (pc := 16) hX (ci := 4) (fun _ h => List.mem_cons_of_mem _ (List.mem_append_left _ (List.mem_append_left _ (List.mem_append_left _ (List.mem_append_left _ (List.mem_append_right _ h)))))) rfl 7 (by omega) (up_ne (by decide) e0) 5 (by decide) (List.mem_of_getElem? (i := 3) rfl) rfl (v := .ref (gw_ad w 22)) rfl dX6_writeNote_16 ?_
  refine g_callV1 (pc := 19) (ci := 5) (As := []) (st2 := []) hX 22 (by omega) (up_ne (by decide) e15) rfl (c_X5_addRow (by omega) (by omega) (up_ne (by decide) e15) (up_ne (by decide) e16) (by first | assumption | exact inI_mk (by omega) (by omega)) (by first | assumption | exact inI_mk (by omega) (by omega)) (by omega)) gX6_writeNote_X5_addRow (n := 0) (hw := rfl) (hrc := rfl) (hrs := rfl) (hd := by decide +kernel) (hR := ⟨Nat.le_of_ble_eq_true rfl, Nat.le_of_ble_eq_true rfl⟩) (hn := rfl) (hst := rfl) (hsum := Nat.le_of_ble_eq_true rfl) (hdg := dX6_writeNote_19) ?_
  rintro _ _ ⟨rfl, rfl⟩
  refine g_at (pc2 := 22) rfl rfl (st2 := [vI (nK)]) rfl (S2 := (va_up (va_up S 20 (.inr (5, [vI (20), vI (6), .ref (gw_ad w 21), vI (nN + 1)]))) 22 (.inr (5, [vI (20), vI (22), .ref (gw_ad w 23), vI (nK + 1)])))) rfl ?_
  refine g_pop (pc := 22) hX rfl dX6_writeNote_22 ?_
  refine g_at rfl rfl rfl (S2 := (va_up (va_up S 20 (.inr (5, [vI (20), vI (6), .ref (gw_ad w 21), vI (nN + 1)]))) 22 (.inr (5, [vI (20), vI (22), .ref (gw_ad w 23), vI (nN + 1)])))) (by rw [hnK]) ?_
  refine g_aload_n (pc := 23) hX 1 rfl dX6_writeNote_23 ?_
  refine g_get (pc := 24) hX (ci := 6) (fun _ h => List.mem_cons_of_mem _ (List.mem_append_left _ (List.mem_append_left _ (List.mem_append_left _ (List.mem_append_left _ (List.mem_append_left _ (List.mem_append_right _ h))))))) rfl 0 (by omega) (up_ne (by decide) (up_ne (by decide) d0)) 0 (by decide) (List.mem_of_getElem? (i := 1) rfl) rfl (v := .ref (gw_ad w 7)) rfl dX6_writeNote_24 ?_
  refine g_get (pc := 27) hX (ci := 4) (fun _ h => List.mem_cons_of_mem _ (List.mem_append_left _ (List.mem_append_left _ (List.mem_append_left _ (List.mem_append_left _ (List.mem_append_right _ h)))))) rfl 7 (by omega) (up_ne (by decide) (up_ne (by decide) e0)) 5 (by decide) (List.mem_of_getElem? (i := 3) rfl) rfl (v := .ref (gw_ad w 22)) rfl dX6_writeNote_27 ?_
  refine g_iload (pc := 30) hX 0 rfl dX6_writeNote_30 ?_
  refine g_aload_n (pc := 32) hX 1 rfl dX6_writeNote_32 ?_
  refine g_get (pc := 33) hX (ci := 6) (fun _ h => List.mem_cons_of_mem _ (List.mem_append_left _ (List.mem_append_left _ (List.mem_append_left _ (List.mem_append_left _ (List.mem_append_left _ (List.mem_append_right _ h))))))) rfl 0 (by omega) (up_ne (by decide) (up_ne (by decide) d0)) 0 (by decide) (List.mem_of_getElem? (i := 1) rfl) rfl (v := .ref (gw_ad w 7)) rfl dX6_writeNote_33 ?_
  refine g_get (pc := 36) hX (ci := 4) (fun _ h => List.mem_cons_of_mem _ (List.mem_append_left _ (List.mem_append_left _ (List.mem_append_left _ (List.mem_append_left _ (List.mem_append_right _ h)))))) rfl 7 (by omega) (up_ne (by decide) (up_ne (by decide) e0)) 3 (by decide) (List.mem_of_getElem? (i := 4) rfl) rfl (v := .ref (gw_ad w 18)) rfl dX6_writeNote_36 ?_
  refine g_iload_n (pc := 39) hX 2 rfl dX6_writeNote_39 ?_
  refine g_callV0 (pc := 40) (ci := 5) (As := [vI (nN), .ref (gw_ad w 18), vI (p)]) (st2 := []) hX 22 (by omega) (up_eq _ _ _) rfl (c_X5_copyRow (row := nN) (fr := p) (by omega) (by omega) (up_eq _ _ _) (up_ne (by decide) (up_ne (by decide) e16)) (by omega) (by omega) (up_ne (by decide) (up_ne (by decide) e11)) (up_ne (by decide) (up_ne (by decide) e12)) (by omega) (by omega) (by first | assumption | exact inI_mk (by omega) (by omega)) (by first | assumption | exact inI_mk (by omega) (by omega)) (by omega) (by omega) (by first | assumption | exact inI_mk (by omega) (by omega)) (by first | assumption | exact inI_mk (by omega) (by omega)) (by first | assumption | exact inI_mk (by omega) (by omega)) (by first | assumption | exact inI_mk (by omega) (by omega)) (by omega) (by omega) (by omega) (by decide) (by decide) (by decide)) gX6_writeNote_X5_copyRow (n := 3) (hw := rfl) (hrc := rfl) (hrs := rfl) (hd := by decide +kernel) (hR := ⟨Nat.le_of_ble_eq_true rfl, Nat.le_of_ble_eq_true rfl⟩) (hn := rfl) (hst := rfl) (hsum := Nat.le_of_ble_eq_true rfl) (hdg := dX6_writeNote_40) ?_
  rintro _ rfl
  refine g_at (pc2 := 43) rfl rfl (st2 := []) rfl (S2 := (va_up (va_up (va_up S 20 (.inr (5, [vI (20), vI (6), .ref (gw_ad w 21), vI (nN + 1)]))) 22 (.inr (5, [vI (20), vI (22), .ref (gw_ad w 23), vI (nN + 1)]))) 23 (AI w 440 (fl 22 (fun i j => if i = nN then (tcell 30 22 P0 p) j else K i j))))) rfl ?_
  refine g_aload_n (pc := 43) hX 1 rfl dX6_writeNote_43 ?_
  refine g_get (pc := 44) hX (ci := 6) (fun _ h => List.mem_cons_of_mem _ (List.mem_append_left _ (List.mem_append_left _ (List.mem_append_left _ (List.mem_append_left _ (List.mem_append_left _ (List.mem_append_right _ h))))))) rfl 0 (by omega) (up_ne (by decide) (up_ne (by decide) (up_ne (by decide) d0))) 0 (by decide) (List.mem_of_getElem? (i := 1) rfl) rfl (v := .ref (gw_ad w 7)) rfl dX6_writeNote_44 ?_
  refine g_get (pc := 47) hX (ci := 4) (fun _ h => List.mem_cons_of_mem _ (List.mem_append_left _ (List.mem_append_left _ (List.mem_append_left _ (List.mem_append_left _ (List.mem_append_right _ h)))))) rfl 7 (by omega) (up_ne (by decide) (up_ne (by decide) (up_ne (by decide) e0))) 5 (by decide) (List.mem_of_getElem? (i := 3) rfl) rfl (v := .ref (gw_ad w 22)) rfl dX6_writeNote_47 ?_
  refine g_iload (pc := 50) hX 0 rfl dX6_writeNote_50 ?_
  refine g_iload_n (pc := 52) hX 3 rfl dX6_writeNote_52 ?_
  refine g_iload_n (pc := 53) hX 4 rfl dX6_writeNote_53 ?_
  refine g_callV0 (pc := 54) (ci := 5) (As := [vI (nN), vI (x), vI (y)]) (st2 := []) hX 22 (by omega) (up_ne (by decide) (up_eq _ _ _)) rfl (c_X5_put (row := nN) (col := x) (x := y) (by omega) (by omega) (up_ne (by decide) (up_eq _ _ _)) (up_eq _ _ _) (by decide) (by decide) (by first | assumption | exact inI_mk (by omega) (by omega)) (by first | assumption | exact inI_mk (by omega) (by omega)) (by first | assumption | exact inI_mk (by omega) (by omega)) (by first | assumption | exact inI_mk (by omega) (by omega))) gX6_writeNote_X5_put (n := 3) (hw := rfl) (hrc := rfl) (hrs := rfl) (hd := by decide +kernel) (hR := ⟨Nat.le_of_ble_eq_true rfl, Nat.le_of_ble_eq_true rfl⟩) (hn := rfl) (hst := rfl) (hsum := Nat.le_of_ble_eq_true rfl) (hdg := dX6_writeNote_54) ?_
  rintro _ rfl
  rw [tput_in (by omega) (by omega) (by omega) (by omega)]
  refine g_at (pc2 := 57) rfl rfl (st2 := []) rfl (S2 := (va_up (va_up (va_up (va_up S 20 (.inr (5, [vI (20), vI (6), .ref (gw_ad w 21), vI (nN + 1)]))) 22 (.inr (5, [vI (20), vI (22), .ref (gw_ad w 23), vI (nN + 1)]))) 23 (AI w 440 (fl 22 (fun i j => if i = nN then (tcell 30 22 P0 p) j else K i j)))) 23 (AI w 440 (fl 22 (upd2 (fun i j => if i = nN then (tcell 30 22 P0 p) j else K i j) nN x y))))) rfl ?_
  obtain ⟨K2, eK2⟩ : ∃ f : Int → Int → Int, f = (upd2 (fun i j => if i = nN then (tcell 30 22 P0 p) j else K i j) nN x y) := ⟨_, rfl⟩
  refine g_at rfl rfl rfl (S2 := (va_up (va_up (va_up (va_up S 20 (.inr (5, [vI (20), vI (6), .ref (gw_ad w 21), vI (nN + 1)]))) 22 (.inr (5, [vI (20), vI (22), .ref (gw_ad w 23), vI (nN + 1)]))) 23 (AI w 440 (fl 22 (fun i j => if i = nN then (tcell 30 22 P0 p) j else K i j)))) 23 (AI w 440 (fl 22 K2)))) (by rw [eK2]) ?_
  have eK2b : K2 = clmK (F, g, C, E, L, Q, nR, R, nP, P0, nN, N, nK, K) p x y := eK2
  clear eK2
  have hrow2 : rowIn (F, g, C, E, L, Q, nR, R, nP, P0, nN, N, nK, K) K2 nN := by rw [eK2b]; exact hrow
  refine g_aload_n (pc := 57) hX 1 rfl dX6_writeNote_57 ?_
  refine g_get (pc := 58) hX (ci := 6) (fun _ h => List.mem_cons_of_mem _ (List.mem_append_left _ (List.mem_append_left _ (List.mem_append_left _ (List.mem_append_left _ (List.mem_append_left _ (List.mem_append_right _ h))))))) rfl 0 (by omega) (up_ne (by decide) (up_ne (by decide) (up_ne (by decide) (up_ne (by decide) d0)))) 0 (by decide) (List.mem_of_getElem? (i := 1) rfl) rfl (v := .ref (gw_ad w 7)) rfl dX6_writeNote_58 ?_
  refine g_aload_n (pc := 61) hX 1 rfl dX6_writeNote_61 ?_
  refine g_get (pc := 62) hX (ci := 6) (fun _ h => List.mem_cons_of_mem _ (List.mem_append_left _ (List.mem_append_left _ (List.mem_append_left _ (List.mem_append_left _ (List.mem_append_left _ (List.mem_append_right _ h))))))) rfl 0 (by omega) (up_ne (by decide) (up_ne (by decide) (up_ne (by decide) (up_ne (by decide) d0)))) 0 (by decide) (List.mem_of_getElem? (i := 1) rfl) rfl (v := .ref (gw_ad w 7)) rfl dX6_writeNote_62 ?_
  refine g_get (pc := 65) hX (ci := 4) (fun _ h => List.mem_cons_of_mem _ (List.mem_append_left _ (List.mem_append_left _ (List.mem_append_left _ (List.mem_append_left _ (List.mem_append_right _ h)))))) rfl 7 (by omega) (up_ne (by decide) (up_ne (by decide) (up_ne (by decide) (up_ne (by decide) e0)))) 5 (by decide) (List.mem_of_getElem? (i := 3) rfl) rfl (v := .ref (gw_ad w 22)) rfl dX6_writeNote_65 ?_
  refine g_iload (pc := 68) hX 0 rfl dX6_writeNote_68 ?_
  refine g_callV0 (pc := 70) (ci := 4) (As := [.ref (gw_ad w 22), vI (nN)]) (st2 := []) hX 7 (by omega) (up_ne (by decide) (up_ne (by decide) (up_ne (by decide) (up_ne (by decide) e0)))) rfl (c_X4_price (b := 7) (D := (F, g, C, E, L, Q, nR, R, nP, P0, nN, N, nK, K)) (row := nN) (by omega) ⟨⟨(up_ne (by decide) (up_ne (by decide) (up_ne (by decide) (up_ne (by decide) e0)))), (up_ne (by decide) (up_ne (by decide) (up_ne (by decide) (up_ne (by decide) e1)))), (up_ne (by decide) (up_ne (by decide) (up_ne (by decide) (up_ne (by decide) e2))))⟩, ⟨(up_ne (by decide) (up_ne (by decide) (up_ne (by decide) (up_ne (by decide) e3)))), (up_ne (by decide) (up_ne (by decide) (up_ne (by decide) (up_ne (by decide) e4)))), (up_ne (by decide) (up_ne (by decide) (up_ne (by decide) (up_ne (by decide) e5)))), (up_ne (by decide) (up_ne (by decide) (up_ne (by decide) (up_ne (by decide) e6)))), (up_ne (by decide) (up_ne (by decide) (up_ne (by decide) (up_ne (by decide) e7))))⟩, ⟨(up_ne (by decide) (up_ne (by decide) (up_ne (by decide) (up_ne (by decide) e8)))), (up_ne (by decide) (up_ne (by decide) (up_ne (by decide) (up_ne (by decide) e9)))), (up_ne (by decide) (up_ne (by decide) (up_ne (by decide) (up_ne (by decide) e10))))⟩⟩ hD.1 (by omega) (by omega) (up_ne (by decide) (up_ne (by decide) (up_eq _ _ _))) (up_eq _ _ _) (by decide) (by decide) (by first | assumption | exact inI_mk (by omega) (by omega)) (by omega) (by omega) hrow2.2.2.2.2.2.2 hrow2.1 hrow2.2.1 hrow2.2.2.1 hrow2.2.2.2.1 hrow2.2.2.2.2.1 hrow2.2.2.2.2.2.1 (by omega) (by omega)) gX6_writeNote_X4_price (n := 2) (hw := rfl) (hrc := rfl) (hrs := rfl) (hd := by decide +kernel) (hR := ⟨Nat.le_of_ble_eq_true rfl, Nat.le_of_ble_eq_true rfl⟩) (hn := rfl) (hst := rfl) (hsum := Nat.le_of_ble_eq_true rfl) (hdg := dX6_writeNote_70) ?_
  rintro _ rfl
  refine g_at (pc2 := 73) rfl rfl (st2 := []) rfl (S2 := (va_up (va_up (va_up (va_up (va_up S 20 (.inr (5, [vI (20), vI (6), .ref (gw_ad w 21), vI (nN + 1)]))) 22 (.inr (5, [vI (20), vI (22), .ref (gw_ad w 23), vI (nN + 1)]))) 23 (AI w 440 (fl 22 (fun i j => if i = nN then (tcell 30 22 P0 p) j else K i j)))) 23 (AI w 440 (fl 22 K2))) 23 (AI w 440 (fl 22 (prD (F, g, C, E, L, Q, nR, R, nP, P0, nN, N, nK, K) K2 nN))))) rfl ?_
  refine g_aload_n (pc := 73) hX 1 rfl dX6_writeNote_73 ?_
  refine g_get (pc := 74) hX (ci := 6) (fun _ h => List.mem_cons_of_mem _ (List.mem_append_left _ (List.mem_append_left _ (List.mem_append_left _ (List.mem_append_left _ (List.mem_append_left _ (List.mem_append_right _ h))))))) rfl 0 (by omega) (up_ne (by decide) (up_ne (by decide) (up_ne (by decide) (up_ne (by decide) (up_ne (by decide) d0))))) 0 (by decide) (List.mem_of_getElem? (i := 1) rfl) rfl (v := .ref (gw_ad w 7)) rfl dX6_writeNote_74 ?_
  refine g_get (pc := 77) hX (ci := 4) (fun _ h => List.mem_cons_of_mem _ (List.mem_append_left _ (List.mem_append_left _ (List.mem_append_left _ (List.mem_append_left _ (List.mem_append_right _ h)))))) rfl 7 (by omega) (up_ne (by decide) (up_ne (by decide) (up_ne (by decide) (up_ne (by decide) (up_ne (by decide) e0))))) 4 (by decide) (List.mem_of_getElem? (i := 2) rfl) rfl (v := .ref (gw_ad w 20)) rfl dX6_writeNote_77 ?_
  refine g_iload (pc := 80) hX 0 rfl dX6_writeNote_80 ?_
  refine g_iconst (pc := 82) hX dX6_writeNote_82 ?_
  refine g_iload_n (pc := 83) hX 2 rfl dX6_writeNote_83 ?_
  refine g_callV0 (pc := 84) (ci := 5) (As := [vI (nN), vI (0), vI (p)]) (st2 := []) hX 20 (by omega) (up_ne (by decide) (up_ne (by decide) (up_ne (by decide) (up_ne (by decide) (up_eq _ _ _))))) rfl (c_X5_put (row := nN) (col := 0) (x := p) (by omega) (by omega) (up_ne (by decide) (up_ne (by decide) (up_ne (by decide) (up_ne (by decide) (up_eq _ _ _))))) (up_ne (by decide) (up_ne (by decide) (up_ne (by decide) (up_ne (by decide) (up_ne (by decide) e14))))) (by decide) (by decide) (by first | assumption | exact inI_mk (by omega) (by omega)) (by first | assumption | exact inI_mk (by omega) (by omega)) (by first | assumption | exact inI_mk (by omega) (by omega)) (by first | assumption | exact inI_mk (by omega) (by omega))) gX6_writeNote_X5_put (n := 3) (hw := rfl) (hrc := rfl) (hrs := rfl) (hd := by decide +kernel) (hR := ⟨Nat.le_of_ble_eq_true rfl, Nat.le_of_ble_eq_true rfl⟩) (hn := rfl) (hst := rfl) (hsum := Nat.le_of_ble_eq_true rfl) (hdg := dX6_writeNote_84) ?_
  rintro _ rfl
  rw [tput_in (by omega) (by omega) (by omega) (by omega)]
  refine g_at (pc2 := 87) rfl rfl (st2 := []) rfl (S2 := (va_up (va_up (va_up (va_up (va_up (va_up S 20 (.inr (5, [vI (20), vI (6), .ref (gw_ad w 21), vI (nN + 1)]))) 22 (.inr (5, [vI (20), vI (22), .ref (gw_ad w 23), vI (nN + 1)]))) 23 (AI w 440 (fl 22 (fun i j => if i = nN then (tcell 30 22 P0 p) j else K i j)))) 23 (AI w 440 (fl 22 K2))) 23 (AI w 440 (fl 22 (prD (F, g, C, E, L, Q, nR, R, nP, P0, nN, N, nK, K) K2 nN)))) 21 (AI w 120 (fl 6 (upd2 N nN 0 p))))) rfl ?_
  refine g_aload_n (pc := 87) hX 1 rfl dX6_writeNote_87 ?_
  refine g_get (pc := 88) hX (ci := 6) (fun _ h => List.mem_cons_of_mem _ (List.mem_append_left _ (List.mem_append_left _ (List.mem_append_left _ (List.mem_append_left _ (List.mem_append_left _ (List.mem_append_right _ h))))))) rfl 0 (by omega) (up_ne (by decide) (up_ne (by decide) (up_ne (by decide) (up_ne (by decide) (up_ne (by decide) (up_ne (by decide) d0)))))) 0 (by decide) (List.mem_of_getElem? (i := 1) rfl) rfl (v := .ref (gw_ad w 7)) rfl dX6_writeNote_88 ?_
  refine g_get (pc := 91) hX (ci := 4) (fun _ h => List.mem_cons_of_mem _ (List.mem_append_left _ (List.mem_append_left _ (List.mem_append_left _ (List.mem_append_left _ (List.mem_append_right _ h)))))) rfl 7 (by omega) (up_ne (by decide) (up_ne (by decide) (up_ne (by decide) (up_ne (by decide) (up_ne (by decide) (up_ne (by decide) e0)))))) 4 (by decide) (List.mem_of_getElem? (i := 2) rfl) rfl (v := .ref (gw_ad w 20)) rfl dX6_writeNote_91 ?_
  refine g_iload (pc := 94) hX 0 rfl dX6_writeNote_94 ?_
  refine g_iconst (pc := 96) hX dX6_writeNote_96 ?_
  refine g_iload_n (pc := 97) hX 3 rfl dX6_writeNote_97 ?_
  refine g_callV0 (pc := 98) (ci := 5) (As := [vI (nN), vI (1), vI (x)]) (st2 := []) hX 20 (by omega) (up_ne (by decide) (up_ne (by decide) (up_ne (by decide) (up_ne (by decide) (up_ne (by decide) (up_eq _ _ _)))))) rfl (c_X5_put (row := nN) (col := 1) (x := x) (by omega) (by omega) (up_ne (by decide) (up_ne (by decide) (up_ne (by decide) (up_ne (by decide) (up_ne (by decide) (up_eq _ _ _)))))) (up_eq _ _ _) (by decide) (by decide) (by first | assumption | exact inI_mk (by omega) (by omega)) (by first | assumption | exact inI_mk (by omega) (by omega)) (by first | assumption | exact inI_mk (by omega) (by omega)) (by first | assumption | exact inI_mk (by omega) (by omega))) gX6_writeNote_X5_put (n := 3) (hw := rfl) (hrc := rfl) (hrs := rfl) (hd := by decide +kernel) (hR := ⟨Nat.le_of_ble_eq_true rfl, Nat.le_of_ble_eq_true rfl⟩) (hn := rfl) (hst := rfl) (hsum := Nat.le_of_ble_eq_true rfl) (hdg := dX6_writeNote_98) ?_
  rintro _ rfl
  rw [tput_in (by omega) (by omega) (by omega) (by omega)]
  refine g_at (pc2 := 101) rfl rfl (st2 := []) rfl (S2 := (va_up (va_up (va_up (va_up (va_up (va_up (va_up S 20 (.inr (5, [vI (20), vI (6), .ref (gw_ad w 21), vI (nN + 1)]))) 22 (.inr (5, [vI (20), vI (22), .ref (gw_ad w 23), vI (nN + 1)]))) 23 (AI w 440 (fl 22 (fun i j => if i = nN then (tcell 30 22 P0 p) j else K i j)))) 23 (AI w 440 (fl 22 K2))) 23 (AI w 440 (fl 22 (prD (F, g, C, E, L, Q, nR, R, nP, P0, nN, N, nK, K) K2 nN)))) 21 (AI w 120 (fl 6 (upd2 N nN 0 p)))) 21 (AI w 120 (fl 6 (upd2 (upd2 N nN 0 p) nN 1 x))))) rfl ?_
  refine g_aload_n (pc := 101) hX 1 rfl dX6_writeNote_101 ?_
  refine g_get (pc := 102) hX (ci := 6) (fun _ h => List.mem_cons_of_mem _ (List.mem_append_left _ (List.mem_append_left _ (List.mem_append_left _ (List.mem_append_left _ (List.mem_append_left _ (List.mem_append_right _ h))))))) rfl 0 (by omega) (up_ne (by decide) (up_ne (by decide) (up_ne (by decide) (up_ne (by decide) (up_ne (by decide) (up_ne (by decide) (up_ne (by decide) d0))))))) 0 (by decide) (List.mem_of_getElem? (i := 1) rfl) rfl (v := .ref (gw_ad w 7)) rfl dX6_writeNote_102 ?_
  refine g_get (pc := 105) hX (ci := 4) (fun _ h => List.mem_cons_of_mem _ (List.mem_append_left _ (List.mem_append_left _ (List.mem_append_left _ (List.mem_append_left _ (List.mem_append_right _ h)))))) rfl 7 (by omega) (up_ne (by decide) (up_ne (by decide) (up_ne (by decide) (up_ne (by decide) (up_ne (by decide) (up_ne (by decide) (up_ne (by decide) e0))))))) 4 (by decide) (List.mem_of_getElem? (i := 2) rfl) rfl (v := .ref (gw_ad w 20)) rfl dX6_writeNote_105 ?_
  refine g_iload (pc := 108) hX 0 rfl dX6_writeNote_108 ?_
  refine g_iconst (pc := 110) hX dX6_writeNote_110 ?_
  refine g_iload_n (pc := 111) hX 4 rfl dX6_writeNote_111 ?_
  refine g_callV0 (pc := 112) (ci := 5) (As := [vI (nN), vI (2), vI (y)]) (st2 := []) hX 20 (by omega) (up_ne (by decide) (up_ne (by decide) (up_ne (by decide) (up_ne (by decide) (up_ne (by decide) (up_ne (by decide) (up_eq _ _ _))))))) rfl (c_X5_put (row := nN) (col := 2) (x := y) (by omega) (by omega) (up_ne (by decide) (up_ne (by decide) (up_ne (by decide) (up_ne (by decide) (up_ne (by decide) (up_ne (by decide) (up_eq _ _ _))))))) (up_eq _ _ _) (by decide) (by decide) (by first | assumption | exact inI_mk (by omega) (by omega)) (by first | assumption | exact inI_mk (by omega) (by omega)) (by first | assumption | exact inI_mk (by omega) (by omega)) (by first | assumption | exact inI_mk (by omega) (by omega))) gX6_writeNote_X5_put (n := 3) (hw := rfl) (hrc := rfl) (hrs := rfl) (hd := by decide +kernel) (hR := ⟨Nat.le_of_ble_eq_true rfl, Nat.le_of_ble_eq_true rfl⟩) (hn := rfl) (hst := rfl) (hsum := Nat.le_of_ble_eq_true rfl) (hdg := dX6_writeNote_112) ?_
  rintro _ rfl
  rw [tput_in (by omega) (by omega) (by omega) (by omega)]
  refine g_at (pc2 := 115) rfl rfl (st2 := []) rfl (S2 := (va_up (va_up (va_up (va_up (va_up (va_up (va_up (va_up S 20 (.inr (5, [vI (20), vI (6), .ref (gw_ad w 21), vI (nN + 1)]))) 22 (.inr (5, [vI (20), vI (22), .ref (gw_ad w 23), vI (nN + 1)]))) 23 (AI w 440 (fl 22 (fun i j => if i = nN then (tcell 30 22 P0 p) j else K i j)))) 23 (AI w 440 (fl 22 K2))) 23 (AI w 440 (fl 22 (prD (F, g, C, E, L, Q, nR, R, nP, P0, nN, N, nK, K) K2 nN)))) 21 (AI w 120 (fl 6 (upd2 N nN 0 p)))) 21 (AI w 120 (fl 6 (upd2 (upd2 N nN 0 p) nN 1 x)))) 21 (AI w 120 (fl 6 (upd2 (upd2 (upd2 N nN 0 p) nN 1 x) nN 2 y))))) rfl ?_
  refine g_aload_n (pc := 115) hX 1 rfl dX6_writeNote_115 ?_
  refine g_get (pc := 116) hX (ci := 6) (fun _ h => List.mem_cons_of_mem _ (List.mem_append_left _ (List.mem_append_left _ (List.mem_append_left _ (List.mem_append_left _ (List.mem_append_left _ (List.mem_append_right _ h))))))) rfl 0 (by omega) (up_ne (by decide) (up_ne (by decide) (up_ne (by decide) (up_ne (by decide) (up_ne (by decide) (up_ne (by decide) (up_ne (by decide) (up_ne (by decide) d0)))))))) 0 (by decide) (List.mem_of_getElem? (i := 1) rfl) rfl (v := .ref (gw_ad w 7)) rfl dX6_writeNote_116 ?_
  refine g_get (pc := 119) hX (ci := 4) (fun _ h => List.mem_cons_of_mem _ (List.mem_append_left _ (List.mem_append_left _ (List.mem_append_left _ (List.mem_append_left _ (List.mem_append_right _ h)))))) rfl 7 (by omega) (up_ne (by decide) (up_ne (by decide) (up_ne (by decide) (up_ne (by decide) (up_ne (by decide) (up_ne (by decide) (up_ne (by decide) (up_ne (by decide) e0)))))))) 4 (by decide) (List.mem_of_getElem? (i := 2) rfl) rfl (v := .ref (gw_ad w 20)) rfl dX6_writeNote_119 ?_
  refine g_iload (pc := 122) hX 0 rfl dX6_writeNote_122 ?_
  refine g_iconst (pc := 124) hX dX6_writeNote_124 ?_
  refine g_aload_n (pc := 125) hX 1 rfl dX6_writeNote_125 ?_
  refine g_get (pc := 126) hX (ci := 6) (fun _ h => List.mem_cons_of_mem _ (List.mem_append_left _ (List.mem_append_left _ (List.mem_append_left _ (List.mem_append_left _ (List.mem_append_left _ (List.mem_append_right _ h))))))) rfl 0 (by omega) (up_ne (by decide) (up_ne (by decide) (up_ne (by decide) (up_ne (by decide) (up_ne (by decide) (up_ne (by decide) (up_ne (by decide) (up_ne (by decide) d0)))))))) 0 (by decide) (List.mem_of_getElem? (i := 1) rfl) rfl (v := .ref (gw_ad w 7)) rfl dX6_writeNote_126 ?_
  refine g_get (pc := 129) hX (ci := 4) (fun _ h => List.mem_cons_of_mem _ (List.mem_append_left _ (List.mem_append_left _ (List.mem_append_left _ (List.mem_append_left _ (List.mem_append_right _ h)))))) rfl 7 (by omega) (up_ne (by decide) (up_ne (by decide) (up_ne (by decide) (up_ne (by decide) (up_ne (by decide) (up_ne (by decide) (up_ne (by decide) (up_ne (by decide) e0)))))))) 5 (by decide) (List.mem_of_getElem? (i := 3) rfl) rfl (v := .ref (gw_ad w 22)) rfl dX6_writeNote_129 ?_
  refine g_iload (pc := 132) hX 0 rfl dX6_writeNote_132 ?_
  refine g_bipush (pc := 134) hX (by decide) dX6_writeNote_134 ?_
  refine g_callV1 (pc := 136) (ci := 5) (As := [vI (nN), vI (8)]) (st2 := [vI (3), vI (nN), .ref (gw_ad w 20)]) hX 22 (by omega) (up_ne (by decide) (up_ne (by decide) (up_ne (by decide) (up_ne (by decide) (up_ne (by decide) (up_ne (by decide) (up_eq _ _ _))))))) rfl (c_X5_cell (row := nN) (col := 8) (by omega) (by omega) (up_ne (by decide) (up_ne (by decide) (up_ne (by decide) (up_ne (by decide) (up_ne (by decide) (up_ne (by decide) (up_eq _ _ _))))))) (up_ne (by decide) (up_ne (by decide) (up_ne (by decide) (up_eq _ _ _)))) (by decide) (by decide) (by first | assumption | exact inI_mk (by omega) (by omega)) (by first | assumption | exact inI_mk (by omega) (by omega)) (by first | assumption | exact inI_mk (by omega) (by omega)) (by first | assumption | exact inI_mk (by omega) (by omega))) gX6_writeNote_X5_cell (n := 2) (hw := rfl) (hrc := rfl) (hrs := rfl) (hd := by decide +kernel) (hR := ⟨Nat.le_of_ble_eq_true rfl, Nat.le_of_ble_eq_true rfl⟩) (hn := rfl) (hst := rfl) (hsum := Nat.le_of_ble_eq_true rfl) (hdg := dX6_writeNote_136) ?_
  rintro _ S9 ⟨rfl, e9⟩
  rw [e9]
  clear e9 S9
  rw [tcell_in (by omega) (by omega) (by omega) (by omega)]
  refine g_at (pc2 := 139) rfl rfl (st2 := [vI ((prD (F, g, C, E, L, Q, nR, R, nP, P0, nN, N, nK, K) K2 nN) nN 8), vI (3), vI (nN), .ref (gw_ad w 20)]) rfl (S2 := (va_up (va_up (va_up (va_up (va_up (va_up (va_up (va_up S 20 (.inr (5, [vI (20), vI (6), .ref (gw_ad w 21), vI (nN + 1)]))) 22 (.inr (5, [vI (20), vI (22), .ref (gw_ad w 23), vI (nN + 1)]))) 23 (AI w 440 (fl 22 (fun i j => if i = nN then (tcell 30 22 P0 p) j else K i j)))) 23 (AI w 440 (fl 22 K2))) 23 (AI w 440 (fl 22 (prD (F, g, C, E, L, Q, nR, R, nP, P0, nN, N, nK, K) K2 nN)))) 21 (AI w 120 (fl 6 (upd2 N nN 0 p)))) 21 (AI w 120 (fl 6 (upd2 (upd2 N nN 0 p) nN 1 x)))) 21 (AI w 120 (fl 6 (upd2 (upd2 (upd2 N nN 0 p) nN 1 x) nN 2 y))))) rfl ?_
  refine g_callV0 (pc := 139) (ci := 5) (As := [vI (nN), vI (3), vI ((prD (F, g, C, E, L, Q, nR, R, nP, P0, nN, N, nK, K) K2 nN) nN 8)]) (st2 := []) hX 20 (by omega) (up_ne (by decide) (up_ne (by decide) (up_ne (by decide) (up_ne (by decide) (up_ne (by decide) (up_ne (by decide) (up_ne (by decide) (up_eq _ _ _)))))))) rfl (c_X5_put (row := nN) (col := 3) (x := (prD (F, g, C, E, L, Q, nR, R, nP, P0, nN, N, nK, K) K2 nN) nN 8) (by omega) (by omega) (up_ne (by decide) (up_ne (by decide) (up_ne (by decide) (up_ne (by decide) (up_ne (by decide) (up_ne (by decide) (up_ne (by decide) (up_eq _ _ _)))))))) (up_eq _ _ _) (by decide) (by decide) (by first | assumption | exact inI_mk (by omega) (by omega)) (by first | assumption | exact inI_mk (by omega) (by omega)) (by first | assumption | exact inI_mk (by omega) (by omega)) (by first | assumption | exact inI_mk (by omega) (by omega))) gX6_writeNote_X5_put (n := 3) (hw := rfl) (hrc := rfl) (hrs := rfl) (hd := by decide +kernel) (hR := ⟨Nat.le_of_ble_eq_true rfl, Nat.le_of_ble_eq_true rfl⟩) (hn := rfl) (hst := rfl) (hsum := Nat.le_of_ble_eq_true rfl) (hdg := dX6_writeNote_139) ?_
  rintro _ rfl
  rw [tput_in (by omega) (by omega) (by omega) (by omega)]
  refine g_at (pc2 := 142) rfl rfl (st2 := []) rfl (S2 := (va_up (va_up (va_up (va_up (va_up (va_up (va_up (va_up (va_up S 20 (.inr (5, [vI (20), vI (6), .ref (gw_ad w 21), vI (nN + 1)]))) 22 (.inr (5, [vI (20), vI (22), .ref (gw_ad w 23), vI (nN + 1)]))) 23 (AI w 440 (fl 22 (fun i j => if i = nN then (tcell 30 22 P0 p) j else K i j)))) 23 (AI w 440 (fl 22 K2))) 23 (AI w 440 (fl 22 (prD (F, g, C, E, L, Q, nR, R, nP, P0, nN, N, nK, K) K2 nN)))) 21 (AI w 120 (fl 6 (upd2 N nN 0 p)))) 21 (AI w 120 (fl 6 (upd2 (upd2 N nN 0 p) nN 1 x)))) 21 (AI w 120 (fl 6 (upd2 (upd2 (upd2 N nN 0 p) nN 1 x) nN 2 y)))) 21 (AI w 120 (fl 6 (upd2 (upd2 (upd2 (upd2 N nN 0 p) nN 1 x) nN 2 y) nN 3 ((prD (F, g, C, E, L, Q, nR, R, nP, P0, nN, N, nK, K) K2 nN) nN 8)))))) rfl ?_
  refine g_aload_n (pc := 142) hX 1 rfl dX6_writeNote_142 ?_
  refine g_get (pc := 143) hX (ci := 6) (fun _ h => List.mem_cons_of_mem _ (List.mem_append_left _ (List.mem_append_left _ (List.mem_append_left _ (List.mem_append_left _ (List.mem_append_left _ (List.mem_append_right _ h))))))) rfl 0 (by omega) (up_ne (by decide) (up_ne (by decide) (up_ne (by decide) (up_ne (by decide) (up_ne (by decide) (up_ne (by decide) (up_ne (by decide) (up_ne (by decide) (up_ne (by decide) d0))))))))) 0 (by decide) (List.mem_of_getElem? (i := 1) rfl) rfl (v := .ref (gw_ad w 7)) rfl dX6_writeNote_143 ?_
  refine g_get (pc := 146) hX (ci := 4) (fun _ h => List.mem_cons_of_mem _ (List.mem_append_left _ (List.mem_append_left _ (List.mem_append_left _ (List.mem_append_left _ (List.mem_append_right _ h)))))) rfl 7 (by omega) (up_ne (by decide) (up_ne (by decide) (up_ne (by decide) (up_ne (by decide) (up_ne (by decide) (up_ne (by decide) (up_ne (by decide) (up_ne (by decide) (up_ne (by decide) e0))))))))) 4 (by decide) (List.mem_of_getElem? (i := 2) rfl) rfl (v := .ref (gw_ad w 20)) rfl dX6_writeNote_146 ?_
  refine g_iload (pc := 149) hX 0 rfl dX6_writeNote_149 ?_
  refine g_iconst (pc := 151) hX dX6_writeNote_151 ?_
  refine g_iconst (pc := 152) hX dX6_writeNote_152 ?_
  refine g_callV0 (pc := 153) (ci := 5) (As := [vI (nN), vI (4), vI (0)]) (st2 := []) hX 20 (by omega) (up_ne (by decide) (up_ne (by decide) (up_ne (by decide) (up_ne (by decide) (up_ne (by decide) (up_ne (by decide) (up_ne (by decide) (up_ne (by decide) (up_eq _ _ _))))))))) rfl (c_X5_put (row := nN) (col := 4) (x := 0) (by omega) (by omega) (up_ne (by decide) (up_ne (by decide) (up_ne (by decide) (up_ne (by decide) (up_ne (by decide) (up_ne (by decide) (up_ne (by decide) (up_ne (by decide) (up_eq _ _ _))))))))) (up_eq _ _ _) (by decide) (by decide) (by first | assumption | exact inI_mk (by omega) (by omega)) (by first | assumption | exact inI_mk (by omega) (by omega)) (by first | assumption | exact inI_mk (by omega) (by omega)) (by first | assumption | exact inI_mk (by omega) (by omega))) gX6_writeNote_X5_put (n := 3) (hw := rfl) (hrc := rfl) (hrs := rfl) (hd := by decide +kernel) (hR := ⟨Nat.le_of_ble_eq_true rfl, Nat.le_of_ble_eq_true rfl⟩) (hn := rfl) (hst := rfl) (hsum := Nat.le_of_ble_eq_true rfl) (hdg := dX6_writeNote_153) ?_
  rintro _ rfl
  rw [tput_in (by omega) (by omega) (by omega) (by omega)]
  refine g_at (pc2 := 156) rfl rfl (st2 := []) rfl (S2 := (va_up (va_up (va_up (va_up (va_up (va_up (va_up (va_up (va_up (va_up S 20 (.inr (5, [vI (20), vI (6), .ref (gw_ad w 21), vI (nN + 1)]))) 22 (.inr (5, [vI (20), vI (22), .ref (gw_ad w 23), vI (nN + 1)]))) 23 (AI w 440 (fl 22 (fun i j => if i = nN then (tcell 30 22 P0 p) j else K i j)))) 23 (AI w 440 (fl 22 K2))) 23 (AI w 440 (fl 22 (prD (F, g, C, E, L, Q, nR, R, nP, P0, nN, N, nK, K) K2 nN)))) 21 (AI w 120 (fl 6 (upd2 N nN 0 p)))) 21 (AI w 120 (fl 6 (upd2 (upd2 N nN 0 p) nN 1 x)))) 21 (AI w 120 (fl 6 (upd2 (upd2 (upd2 N nN 0 p) nN 1 x) nN 2 y)))) 21 (AI w 120 (fl 6 (upd2 (upd2 (upd2 (upd2 N nN 0 p) nN 1 x) nN 2 y) nN 3 ((prD (F, g, C, E, L, Q, nR, R, nP, P0, nN, N, nK, K) K2 nN) nN 8))))) 21 (AI w 120 (fl 6 (upd2 (upd2 (upd2 (upd2 (upd2 N nN 0 p) nN 1 x) nN 2 y) nN 3 ((prD (F, g, C, E, L, Q, nR, R, nP, P0, nN, N, nK, K) K2 nN) nN 8)) nN 4 0))))) rfl ?_
  refine g_aload_n (pc := 156) hX 1 rfl dX6_writeNote_156 ?_
  refine g_get (pc := 157) hX (ci := 6) (fun _ h => List.mem_cons_of_mem _ (List.mem_append_left _ (List.mem_append_left _ (List.mem_append_left _ (List.mem_append_left _ (List.mem_append_left _ (List.mem_append_right _ h))))))) rfl 0 (by omega) (up_ne (by decide) (up_ne (by decide) (up_ne (by decide) (up_ne (by decide) (up_ne (by decide) (up_ne (by decide) (up_ne (by decide) (up_ne (by decide) (up_ne (by decide) (up_ne (by decide) d0)))))))))) 0 (by decide) (List.mem_of_getElem? (i := 1) rfl) rfl (v := .ref (gw_ad w 7)) rfl dX6_writeNote_157 ?_
  refine g_get (pc := 160) hX (ci := 4) (fun _ h => List.mem_cons_of_mem _ (List.mem_append_left _ (List.mem_append_left _ (List.mem_append_left _ (List.mem_append_left _ (List.mem_append_right _ h)))))) rfl 7 (by omega) (up_ne (by decide) (up_ne (by decide) (up_ne (by decide) (up_ne (by decide) (up_ne (by decide) (up_ne (by decide) (up_ne (by decide) (up_ne (by decide) (up_ne (by decide) (up_ne (by decide) e0)))))))))) 4 (by decide) (List.mem_of_getElem? (i := 2) rfl) rfl (v := .ref (gw_ad w 20)) rfl dX6_writeNote_160 ?_
  refine g_iload (pc := 163) hX 0 rfl dX6_writeNote_163 ?_
  refine g_iconst (pc := 165) hX dX6_writeNote_165 ?_
  refine g_iconst (pc := 166) hX dX6_writeNote_166 ?_
  refine g_callV0 (pc := 167) (ci := 5) (As := [vI (nN), vI (5), vI (0)]) (st2 := []) hX 20 (by omega) (up_ne (by decide) (up_ne (by decide) (up_ne (by decide) (up_ne (by decide) (up_ne (by decide) (up_ne (by decide) (up_ne (by decide) (up_ne (by decide) (up_ne (by decide) (up_eq _ _ _)))))))))) rfl (c_X5_put (row := nN) (col := 5) (x := 0) (by omega) (by omega) (up_ne (by decide) (up_ne (by decide) (up_ne (by decide) (up_ne (by decide) (up_ne (by decide) (up_ne (by decide) (up_ne (by decide) (up_ne (by decide) (up_ne (by decide) (up_eq _ _ _)))))))))) (up_eq _ _ _) (by decide) (by decide) (by first | assumption | exact inI_mk (by omega) (by omega)) (by first | assumption | exact inI_mk (by omega) (by omega)) (by first | assumption | exact inI_mk (by omega) (by omega)) (by first | assumption | exact inI_mk (by omega) (by omega))) gX6_writeNote_X5_put (n := 3) (hw := rfl) (hrc := rfl) (hrs := rfl) (hd := by decide +kernel) (hR := ⟨Nat.le_of_ble_eq_true rfl, Nat.le_of_ble_eq_true rfl⟩) (hn := rfl) (hst := rfl) (hsum := Nat.le_of_ble_eq_true rfl) (hdg := dX6_writeNote_167) ?_
  rintro _ rfl
  rw [tput_in (by omega) (by omega) (by omega) (by omega)]
  refine g_at (pc2 := 170) rfl rfl (st2 := []) rfl (S2 := (va_up (va_up (va_up (va_up (va_up (va_up (va_up (va_up (va_up (va_up (va_up S 20 (.inr (5, [vI (20), vI (6), .ref (gw_ad w 21), vI (nN + 1)]))) 22 (.inr (5, [vI (20), vI (22), .ref (gw_ad w 23), vI (nN + 1)]))) 23 (AI w 440 (fl 22 (fun i j => if i = nN then (tcell 30 22 P0 p) j else K i j)))) 23 (AI w 440 (fl 22 K2))) 23 (AI w 440 (fl 22 (prD (F, g, C, E, L, Q, nR, R, nP, P0, nN, N, nK, K) K2 nN)))) 21 (AI w 120 (fl 6 (upd2 N nN 0 p)))) 21 (AI w 120 (fl 6 (upd2 (upd2 N nN 0 p) nN 1 x)))) 21 (AI w 120 (fl 6 (upd2 (upd2 (upd2 N nN 0 p) nN 1 x) nN 2 y)))) 21 (AI w 120 (fl 6 (upd2 (upd2 (upd2 (upd2 N nN 0 p) nN 1 x) nN 2 y) nN 3 ((prD (F, g, C, E, L, Q, nR, R, nP, P0, nN, N, nK, K) K2 nN) nN 8))))) 21 (AI w 120 (fl 6 (upd2 (upd2 (upd2 (upd2 (upd2 N nN 0 p) nN 1 x) nN 2 y) nN 3 ((prD (F, g, C, E, L, Q, nR, R, nP, P0, nN, N, nK, K) K2 nN) nN 8)) nN 4 0)))) 21 (AI w 120 (fl 6 (upd2 (upd2 (upd2 (upd2 (upd2 (upd2 N nN 0 p) nN 1 x) nN 2 y) nN 3 ((prD (F, g, C, E, L, Q, nR, R, nP, P0, nN, N, nK, K) K2 nN) nN 8)) nN 4 0) nN 5 0))))) rfl ?_
  refine g_iload (pc := 170) hX 0 rfl dX6_writeNote_170 ?_
  refine g_iret (pc := 172) hX hR dX6_writeNote_172 ?_
  subst eK2b
  exact ⟨rfl, ⟨⟨⟨(up_ne (by decide) (up_ne (by decide) (up_ne (by decide) (up_ne (by decide) (up_ne (by decide) (up_ne (by decide) (up_ne (by decide) (up_ne (by decide) (up_ne (by decide) (up_ne (by decide) (up_ne (by decide) d0))))))))))), (up_ne (by decide) (up_ne (by decide) (up_ne (by decide) (up_ne (by decide) (up_ne (by decide) (up_ne (by decide) (up_ne (by decide) (up_ne (by decide) (up_ne (by decide) (up_ne (by decide) (up_ne (by decide) d1))))))))))), (up_ne (by decide) (up_ne (by decide) (up_ne (by decide) (up_ne (by decide) (up_ne (by decide) (up_ne (by decide) (up_ne (by decide) (up_ne (by decide) (up_ne (by decide) (up_ne (by decide) (up_ne (by decide) d2))))))))))), (up_ne (by decide) (up_ne (by decide) (up_ne (by decide) (up_ne (by decide) (up_ne (by decide) (up_ne (by decide) (up_ne (by decide) (up_ne (by decide) (up_ne (by decide) (up_ne (by decide) (up_ne (by decide) d3))))))))))), (up_ne (by decide) (up_ne (by decide) (up_ne (by decide) (up_ne (by decide) (up_ne (by decide) (up_ne (by decide) (up_ne (by decide) (up_ne (by decide) (up_ne (by decide) (up_ne (by decide) (up_ne (by decide) d4))))))))))), (up_ne (by decide) (up_ne (by decide) (up_ne (by decide) (up_ne (by decide) (up_ne (by decide) (up_ne (by decide) (up_ne (by decide) (up_ne (by decide) (up_ne (by decide) (up_ne (by decide) (up_ne (by decide) d5))))))))))), (up_ne (by decide) (up_ne (by decide) (up_ne (by decide) (up_ne (by decide) (up_ne (by decide) (up_ne (by decide) (up_ne (by decide) (up_ne (by decide) (up_ne (by decide) (up_ne (by decide) (up_ne (by decide) d6)))))))))))⟩, ⟨⟨⟨(up_ne (by decide) (up_ne (by decide) (up_ne (by decide) (up_ne (by decide) (up_ne (by decide) (up_ne (by decide) (up_ne (by decide) (up_ne (by decide) (up_ne (by decide) (up_ne (by decide) (up_ne (by decide) e0))))))))))), (up_ne (by decide) (up_ne (by decide) (up_ne (by decide) (up_ne (by decide) (up_ne (by decide) (up_ne (by decide) (up_ne (by decide) (up_ne (by decide) (up_ne (by decide) (up_ne (by decide) (up_ne (by decide) e1))))))))))), (up_ne (by decide) (up_ne (by decide) (up_ne (by decide) (up_ne (by decide) (up_ne (by decide) (up_ne (by decide) (up_ne (by decide) (up_ne (by decide) (up_ne (by decide) (up_ne (by decide) (up_ne (by decide) e2)))))))))))⟩, ⟨(up_ne (by decide) (up_ne (by decide) (up_ne (by decide) (up_ne (by decide) (up_ne (by decide) (up_ne (by decide) (up_ne (by decide) (up_ne (by decide) (up_ne (by decide) (up_ne (by decide) (up_ne (by decide) e3))))))))))), (up_ne (by decide) (up_ne (by decide) (up_ne (by decide) (up_ne (by decide) (up_ne (by decide) (up_ne (by decide) (up_ne (by decide) (up_ne (by decide) (up_ne (by decide) (up_ne (by decide) (up_ne (by decide) e4))))))))))), (up_ne (by decide) (up_ne (by decide) (up_ne (by decide) (up_ne (by decide) (up_ne (by decide) (up_ne (by decide) (up_ne (by decide) (up_ne (by decide) (up_ne (by decide) (up_ne (by decide) (up_ne (by decide) e5))))))))))), (up_ne (by decide) (up_ne (by decide) (up_ne (by decide) (up_ne (by decide) (up_ne (by decide) (up_ne (by decide) (up_ne (by decide) (up_ne (by decide) (up_ne (by decide) (up_ne (by decide) (up_ne (by decide) e6))))))))))), (up_ne (by decide) (up_ne (by decide) (up_ne (by decide) (up_ne (by decide) (up_ne (by decide) (up_ne (by decide) (up_ne (by decide) (up_ne (by decide) (up_ne (by decide) (up_ne (by decide) (up_ne (by decide) e7)))))))))))⟩, ⟨(up_ne (by decide) (up_ne (by decide) (up_ne (by decide) (up_ne (by decide) (up_ne (by decide) (up_ne (by decide) (up_ne (by decide) (up_ne (by decide) (up_ne (by decide) (up_ne (by decide) (up_ne (by decide) e8))))))))))), (up_ne (by decide) (up_ne (by decide) (up_ne (by decide) (up_ne (by decide) (up_ne (by decide) (up_ne (by decide) (up_ne (by decide) (up_ne (by decide) (up_ne (by decide) (up_ne (by decide) (up_ne (by decide) e9))))))))))), (up_ne (by decide) (up_ne (by decide) (up_ne (by decide) (up_ne (by decide) (up_ne (by decide) (up_ne (by decide) (up_ne (by decide) (up_ne (by decide) (up_ne (by decide) (up_ne (by decide) (up_ne (by decide) e10)))))))))))⟩⟩, ⟨⟨(up_ne (by decide) (up_ne (by decide) (up_ne (by decide) (up_ne (by decide) (up_ne (by decide) (up_ne (by decide) (up_ne (by decide) (up_ne (by decide) (up_ne (by decide) (up_ne (by decide) (up_ne (by decide) e11))))))))))), (up_ne (by decide) (up_ne (by decide) (up_ne (by decide) (up_ne (by decide) (up_ne (by decide) (up_ne (by decide) (up_ne (by decide) (up_ne (by decide) (up_ne (by decide) (up_ne (by decide) (up_ne (by decide) e12)))))))))))⟩, ⟨(up_ne (by decide) (up_ne (by decide) (up_ne (by decide) (up_ne (by decide) (up_ne (by decide) (up_ne (by decide) (up_ne (by decide) (up_ne (by decide) (up_ne (by decide) (up_ne (by decide) (up_eq _ _ _))))))))))), (up_eq _ _ _)⟩, ⟨(up_ne (by decide) (up_ne (by decide) (up_ne (by decide) (up_ne (by decide) (up_ne (by decide) (up_ne (by decide) (up_ne (by decide) (up_ne (by decide) (up_ne (by decide) (up_eq _ _ _)))))))))), (up_ne (by decide) (up_ne (by decide) (up_ne (by decide) (up_ne (by decide) (up_ne (by decide) (up_ne (by decide) (up_eq _ _ _)))))))⟩⟩⟩, pastAt_frame (fun q hq => (up_ne (by omega) (up_ne (by omega) (up_ne (by omega) (up_ne (by omega) (up_ne (by omega) (up_ne (by omega) (up_ne (by omega) (up_ne (by omega) (up_ne (by omega) (up_ne (by omega) (up_ne (by omega) rfl)))))))))))) hpa⟩, fun q hq => (up_ne (by omega) (up_ne (by omega) (up_ne (by omega) (up_ne (by omega) (up_ne (by omega) (up_ne (by omega) (up_ne (by omega) (up_ne (by omega) (up_ne (by omega) (up_ne (by omega) (up_ne (by omega) rfl)))))))))))⟩⟩

set_option maxHeartbeats 4000000 in
set_option maxRecDepth 100000 in
theorem c_X6_dispute {w : gW} {l : Launch} {S : Nat → va_E} {pc j : Nat} {ty : Int} {B ρ T : Int → Int} {Tr : Int → Int → Int} {D : SD} {Z : Nat → SD} (hN : gw_N w = 92) (hd : deskAt w pc j ty B ρ T Tr D Z S) (hO : deskOK ty B ρ Tr D) (hh : pc ≤ 4 ∧ j < 4 ∧ ∀ i : Nat, i < 4 → cOK (Z i)) {p x y : Int} (hp : inI p) (hx : inI x) (hy : inI y) :
    GM1 w l yX6_dispute wsX6_dispute { frames := 6, cells := 0, slots := 0, locals := 155 } [.ref (gw_ad w 0), vI (p), vI (x), vI (y)] S
      (fun v S' => if ((0 ≤ p ∧ p < snP D) ∧ 0 ≤ x ∧ x ≤ 3) ∧ 1 ≤ y ∧ y ≤ (if x = 0 then 100000 else 2000) then (if openZ D p = -1000009 ∧ 0 < sC D (sP D p 4) then (if snN D < 20 then v = vI (snN D) ∧ POST w S (pcN pc) (jN j) ty B ρ T Tr (dspD D p x y) (pastN j Z D) S' else v = vI (-1000003) ∧ S' = S) else v = vI (-1000002) ∧ S' = S) else v = vI (-1000001) ∧ S' = S) := by
  refine GM.start (own := RX6) (n := "dispute") (d := "(III)I") (by decide) rfl (Nat.le_of_ble_eq_true rfl) ?_
  intro X hX hR hXl
  subst hXl
  refine g_at rfl (lv2 := [(0, .ref (gw_ad w 0)), (1, vI (p)), (2, vI (x)), (3, vI (y))]) rfl rfl rfl ?_
  obtain ⟨⟨d0, d1, d2, d3, d4, d5, d6⟩, ⟨hS0, hB0⟩, hpa⟩ := id hd
  obtain ⟨F, g, C, E, L, Q, nR, R, nP, P0, nN, N, nK, K⟩ := D
  obtain ⟨⟨e0, e1, e2⟩, ⟨e3, e4, e5, e6, e7⟩, ⟨e8, e9, e10⟩⟩ := (id hS0)
  obtain ⟨⟨e11, e12⟩, ⟨e13, e14⟩, ⟨e15, e16⟩⟩ := (id hB0)
  change S 7 = .inr (4, [.ref (gw_ad w 8), .ref (gw_ad w 10), .ref (gw_ad w 15), .ref (gw_ad w 18), .ref (gw_ad w 20), .ref (gw_ad w 22)]) at e0
  change S 8 = .inr (3, [.ref (gw_ad w 9), vI (g 0), vI (g 1), vI (g 2), vI (g 3), vI (g 4), vI (g 5), vI (g 6), vI (g 7), vI (g 8), vI (g 9)]) at e1
  change S 9 = AI w 8 (F) at e2
  change S 10 = .inr (0, [.ref (gw_ad w 11), .ref (gw_ad w 12), .ref (gw_ad w 13), .ref (gw_ad w 14)]) at e3
  change S 11 = AI w 4 (C) at e4
  change S 12 = AI w 24 ((fl 6 L)) at e5
  change S 13 = AI w 24 ((fl 6 Q)) at e6
  change S 14 = AI w 4 (E) at e7
  change S 15 = .inr (2, [.ref (gw_ad w 16)]) at e8
  change S 16 = .inr (5, [vI (8), vI (63), .ref (gw_ad w 17), vI (nR)]) at e9
  change S 17 = AI w 504 (fl 63 R) at e10
  change S 18 = .inr (5, [vI (30), vI (22), .ref (gw_ad w 19), vI (nP)]) at e11
  change S 19 = AI w 660 (fl 22 P0) at e12
  change S 20 = .inr (5, [vI (20), vI (6), .ref (gw_ad w 21), vI (nN)]) at e13
  change S 21 = AI w 120 (fl 6 N) at e14
  change S 22 = .inr (5, [vI (20), vI (22), .ref (gw_ad w 23), vI (nK)]) at e15
  change S 23 = AI w 440 (fl 22 K) at e16
  obtain ⟨hD, hty, hBr, hBi, hrd, hTi⟩ := id hO
  obtain ⟨⟨⟨hF, hg⟩, hB, hU, hRR⟩, ⟨hnP, hPi, hPr⟩, ⟨hnN, hNi, hNr⟩, ⟨hnK, hKi, hKr⟩, hg3⟩ := id hD
  change scF F at hF
  change scG g at hg
  change bdOK C E L Q at hB
  change ruOK nR R at hU
  change ∀ i j, inI (R i j) at hRR
  change 0 ≤ nP ∧ nP ≤ 30 at hnP
  change ∀ i j, inI (P0 i j) at hPi
  change ∀ p, 0 ≤ p → p < nP → rowOK P0 p at hPr
  change 0 ≤ nN ∧ nN ≤ 20 at hnN
  change ∀ i j, inI (N i j) at hNi
  change nK = nN at hnK
  change ∀ i j, inI (K i j) at hKi
  change ∀ n, 0 ≤ n → n < nN → rowOK K n at hKr
  have hnRb : 0 ≤ nR ∧ nR ≤ 8 := hU.1
  refine g_aload_n (pc := 0) hX 0 rfl dX6_dispute_0 ?_
  refine g_get (pc := 1) hX (ci := 6) (fun _ h => List.mem_cons_of_mem _ (List.mem_append_left _ (List.mem_append_left _ (List.mem_append_left _ (List.mem_append_left _ (List.mem_append_left _ (List.mem_append_right _ h))))))) rfl 0 (by omega) d0 0 (by decide) (List.mem_of_getElem? (i := 1) rfl) rfl (v := .ref (gw_ad w 7)) rfl dX6_dispute_1 ?_
  refine g_get (pc := 4) hX (ci := 4) (fun _ h => List.mem_cons_of_mem _ (List.mem_append_left _ (List.mem_append_left _ (List.mem_append_left _ (List.mem_append_left _ (List.mem_append_right _ h)))))) rfl 7 (by omega) e0 3 (by decide) (List.mem_of_getElem? (i := 2) rfl) rfl (v := .ref (gw_ad w 18)) rfl dX6_dispute_4 ?_
  refine g_iload_n (pc := 7) hX 1 rfl dX6_dispute_7 ?_
  refine g_callV1 (pc := 8) (ci := 5) (As := [vI (p)]) (st2 := []) hX 18 (by omega) e11 rfl (c_X5_has (row := p) (by omega) (by omega) e11 e12 (by first | assumption | exact inI_mk (by omega) (by omega)) (by first | assumption | exact inI_mk (by omega) (by omega))) gX6_dispute_X5_has (n := 1) (hw := rfl) (hrc := rfl) (hrs := rfl) (hd := by decide +kernel) (hR := ⟨Nat.le_of_ble_eq_true rfl, Nat.le_of_ble_eq_true rfl⟩) (hn := rfl) (hst := rfl) (hsum := Nat.le_of_ble_eq_true rfl) (hdg := dX6_dispute_8) ?_
  rintro _ S9 ⟨rfl, e9⟩
  rw [e9]
  clear e9 S9
  refine g_at (pc2 := 11) rfl rfl (st2 := [vI (bz (decide (0 ≤ p ∧ p < nP)))]) rfl (S2 := S) rfl ?_
  refine g_bif_eq (pc := 11) (tgt := 23) hX dX6_dispute_11 (by decide) (fun c_11 => ?_) (fun c_11 => ?_)
  · skip
    refine g_ldc (pc := 23) hX (z := -1000001) (List.mem_of_getElem? (i := 3) rfl) (by decide +kernel) dX6_dispute_23 ?_
    refine g_iret (pc := 25) hX hR dX6_dispute_25 ?_
    try simp only [decide_eq_true_eq, decide_eq_false_iff_not] at c_11
    exact (if_neg (fun u => by have u1 : 0 ≤ p ∧ p < nP := u.1.1; have u2 := u.1.2; omega)).mpr (⟨rfl, rfl⟩)
  · skip
    have hidx := of_decide_eq_true c_11
    refine g_iload_n (pc := 14) hX 2 rfl dX6_dispute_14 ?_
    refine g_iconst (pc := 15) hX dX6_dispute_15 ?_
    refine g_iconst (pc := 16) hX dX6_dispute_16 ?_
    refine g_callT1 (pc := 17) (As := [vI (x), vI (0), vI (3)]) (st2 := []) hX (c_X6_isWithin (x := x) (lo := 0) (hi := 3) (by first | assumption | exact inI_mk (by omega) (by omega)) (by first | assumption | exact inI_mk (by omega) (by omega)) (by first | assumption | exact inI_mk (by omega) (by omega))) gX6_dispute_X6_isWithin (n := 3) (hw := rfl) (hrc := rfl) (hrs := rfl) (hd := by decide +kernel) (hR := ⟨Nat.le_of_ble_eq_true rfl, Nat.le_of_ble_eq_true rfl⟩) (hn := rfl) (hst := rfl) (hsum := Nat.le_of_ble_eq_true rfl) (hdg := dX6_dispute_17) ?_
    rintro _ S9 ⟨rfl, e9⟩
    rw [e9]
    clear e9 S9
    refine g_at (pc2 := 20) rfl rfl (st2 := [vI (bz (decide (0 ≤ x ∧ x ≤ 3)))]) rfl (S2 := S) rfl ?_
    refine g_bif_ne (pc := 20) (tgt := 26) hX dX6_dispute_20 (by decide) (fun c_20 => ?_) (fun c_20 => ?_)
    · skip
      have hx1 := of_decide_eq_true c_20
      refine g_iload_n (pc := 26) hX 3 rfl dX6_dispute_26 ?_
      refine g_iconst (pc := 27) hX dX6_dispute_27 ?_
      refine g_iload_n (pc := 28) hX 2 rfl dX6_dispute_28 ?_
      refine g_if_ne (pc := 29) (tgt := 37) hX (by first | assumption | exact inI_mk (by omega) (by omega)) dX6_dispute_29 (by decide) (fun c_29 => ?_) (fun c_29 => ?_)
      · skip
        refine g_sipush (pc := 37) hX (by decide) dX6_dispute_37 ?_
        refine g_callT1 (pc := 40) (As := [vI (y), vI (1), vI (2000)]) (st2 := []) hX (c_X6_isWithin (x := y) (lo := 1) (hi := 2000) (by first | assumption | exact inI_mk (by omega) (by omega)) (by first | assumption | exact inI_mk (by omega) (by omega)) (by first | assumption | exact inI_mk (by omega) (by omega))) gX6_dispute_X6_isWithin (n := 3) (hw := rfl) (hrc := rfl) (hrs := rfl) (hd := by decide +kernel) (hR := ⟨Nat.le_of_ble_eq_true rfl, Nat.le_of_ble_eq_true rfl⟩) (hn := rfl) (hst := rfl) (hsum := Nat.le_of_ble_eq_true rfl) (hdg := dX6_dispute_40) ?_
        rintro _ S9 ⟨rfl, e9⟩
        rw [e9]
        clear e9 S9
        refine g_at (pc2 := 43) rfl rfl (st2 := [vI (bz (decide (1 ≤ y ∧ y ≤ 2000)))]) rfl (S2 := S) rfl ?_
        refine g_bif_ne (pc := 43) (tgt := 49) hX dX6_dispute_43 (by decide) (fun c_43 => ?_) (fun c_43 => ?_)
        · skip
          have hv1 := of_decide_eq_true c_43
          have hA : ((0 ≤ p ∧ p < nP) ∧ 0 ≤ x ∧ x ≤ 3) ∧ 1 ≤ y ∧ y ≤ (if x = 0 then 100000 else 2000) := ⟨⟨hidx, hx1⟩, by rw [if_neg c_29]; omega⟩
          have hpr := hPr p hidx.1 hidx.2
          have hoz := openZ_b (D := (F, g, C, E, L, Q, nR, R, nP, P0, nN, N, nK, K)) (p := p) hnN
          have hp4 := hpr.2.2.2.2.1
          have hCz := hB.1 (P0 p 4) hp4.1 hp4.2
          refine g_aload_n (pc := 49) hX 0 rfl dX6_dispute_49 ?_
          refine g_iload_n (pc := 50) hX 1 rfl dX6_dispute_50 ?_
          refine g_callV1 (pc := 51) (ci := 6) (As := [vI (p)]) (st2 := []) hX 0 (by omega) d0 rfl (c_X6_openNote (p := p) hN hd hO (by first | assumption | exact inI_mk (by omega) (by omega))) gX6_dispute_X6_openNote (n := 1) (hw := rfl) (hrc := rfl) (hrs := rfl) (hd := by decide +kernel) (hR := ⟨Nat.le_of_ble_eq_true rfl, Nat.le_of_ble_eq_true rfl⟩) (hn := rfl) (hst := rfl) (hsum := Nat.le_of_ble_eq_true rfl) (hdg := dX6_dispute_51) ?_
          rintro _ S9 ⟨rfl, e9⟩
          rw [e9]
          clear e9 S9
          refine g_at (pc2 := 54) rfl rfl (st2 := [vI (openZ (F, g, C, E, L, Q, nR, R, nP, P0, nN, N, nK, K) p)]) rfl (S2 := S) rfl ?_
          refine g_ldc (pc := 54) hX (z := -1000009) (List.mem_of_getElem? (i := 5) rfl) (by decide +kernel) dX6_dispute_54 ?_
          refine g_icmp_ne (pc := 56) (tgt := 78) hX (by rcases hoz with h | h <;> first | (rw [h]; exact inI_mk (by omega) (by omega)) | exact inI_mk (by omega) (by have h3 : openZ (F, g, C, E, L, Q, nR, R, nP, P0, nN, N, nK, K) p < nN := h.2; omega)) (by first | assumption | exact inI_mk (by omega) (by omega)) dX6_dispute_56 (by decide) (fun c_56 => ?_) (fun c_56 => ?_)
          · skip
            refine g_ldc (pc := 78) hX (z := -1000002) (List.mem_of_getElem? (i := 6) rfl) (by decide +kernel) dX6_dispute_78 ?_
            refine g_iret (pc := 80) hX hR dX6_dispute_80 ?_
            try simp only [decide_eq_true_eq, decide_eq_false_iff_not] at c_11 c_20 c_29 c_43 c_56
            exact (if_pos ((show ((0 ≤ p ∧ p < nP) ∧ 0 ≤ x ∧ x ≤ 3) ∧ 1 ≤ y ∧ y ≤ (if x = 0 then 100000 else 2000) from hA))).mpr ((if_neg (fun u => absurd (show openZ (F, g, C, E, L, Q, nR, R, nP, P0, nN, N, nK, K) p = -1000009 from u.1) c_56)).mpr (⟨rfl, rfl⟩))
          · skip
            refine g_aload_n (pc := 59) hX 0 rfl dX6_dispute_59 ?_
            refine g_aload_n (pc := 60) hX 0 rfl dX6_dispute_60 ?_
            refine g_get (pc := 61) hX (ci := 6) (fun _ h => List.mem_cons_of_mem _ (List.mem_append_left _ (List.mem_append_left _ (List.mem_append_left _ (List.mem_append_left _ (List.mem_append_left _ (List.mem_append_right _ h))))))) rfl 0 (by omega) d0 0 (by decide) (List.mem_of_getElem? (i := 1) rfl) rfl (v := .ref (gw_ad w 7)) rfl dX6_dispute_61 ?_
            refine g_get (pc := 64) hX (ci := 4) (fun _ h => List.mem_cons_of_mem _ (List.mem_append_left _ (List.mem_append_left _ (List.mem_append_left _ (List.mem_append_left _ (List.mem_append_right _ h)))))) rfl 7 (by omega) e0 3 (by decide) (List.mem_of_getElem? (i := 2) rfl) rfl (v := .ref (gw_ad w 18)) rfl dX6_dispute_64 ?_
            refine g_iload_n (pc := 67) hX 1 rfl dX6_dispute_67 ?_
            refine g_iconst (pc := 68) hX dX6_dispute_68 ?_
            refine g_callV1 (pc := 69) (ci := 5) (As := [vI (p), vI (4)]) (st2 := [.ref (gw_ad w 0)]) hX 18 (by omega) e11 rfl (c_X5_cell (row := p) (col := 4) (by omega) (by omega) e11 e12 (by decide) (by decide) (by first | assumption | exact inI_mk (by omega) (by omega)) (by first | assumption | exact inI_mk (by omega) (by omega)) (by first | assumption | exact inI_mk (by omega) (by omega)) (by first | assumption | exact inI_mk (by omega) (by omega))) gX6_dispute_X5_cell (n := 2) (hw := rfl) (hrc := rfl) (hrs := rfl) (hd := by decide +kernel) (hR := ⟨Nat.le_of_ble_eq_true rfl, Nat.le_of_ble_eq_true rfl⟩) (hn := rfl) (hst := rfl) (hsum := Nat.le_of_ble_eq_true rfl) (hdg := dX6_dispute_69) ?_
            rintro _ S9 ⟨rfl, e9⟩
            rw [e9]
            clear e9 S9
            rw [tcell_in (by omega) (by omega) (by omega) (by omega)]
            refine g_at (pc2 := 72) rfl rfl (st2 := [vI (P0 p 4), .ref (gw_ad w 0)]) rfl (S2 := S) rfl ?_
            refine g_callV1 (pc := 72) (ci := 6) (As := [vI (P0 p 4)]) (st2 := []) hX 0 (by omega) d0 rfl (c_X6_hasBands (z := P0 p 4) hN hd hO (by omega) (by omega)) gX6_dispute_X6_hasBands (n := 1) (hw := rfl) (hrc := rfl) (hrs := rfl) (hd := by decide +kernel) (hR := ⟨Nat.le_of_ble_eq_true rfl, Nat.le_of_ble_eq_true rfl⟩) (hn := rfl) (hst := rfl) (hsum := Nat.le_of_ble_eq_true rfl) (hdg := dX6_dispute_72) ?_
            rintro _ S9 ⟨rfl, e9⟩
            rw [e9]
            clear e9 S9
            refine g_at (pc2 := 75) rfl rfl (st2 := [vI (bz (decide (0 < C (P0 p 4))))]) rfl (S2 := S) rfl ?_
            refine g_bif_ne (pc := 75) (tgt := 81) hX dX6_dispute_75 (by decide) (fun c_75 => ?_) (fun c_75 => ?_)
            · skip
              refine g_aload_n (pc := 81) hX 0 rfl dX6_dispute_81 ?_
              refine g_get (pc := 82) hX (ci := 6) (fun _ h => List.mem_cons_of_mem _ (List.mem_append_left _ (List.mem_append_left _ (List.mem_append_left _ (List.mem_append_left _ (List.mem_append_left _ (List.mem_append_right _ h))))))) rfl 0 (by omega) d0 0 (by decide) (List.mem_of_getElem? (i := 1) rfl) rfl (v := .ref (gw_ad w 7)) rfl dX6_dispute_82 ?_
              refine g_get (pc := 85) hX (ci := 4) (fun _ h => List.mem_cons_of_mem _ (List.mem_append_left _ (List.mem_append_left _ (List.mem_append_left _ (List.mem_append_left _ (List.mem_append_right _ h)))))) rfl 7 (by omega) e0 4 (by decide) (List.mem_of_getElem? (i := 7) rfl) rfl (v := .ref (gw_ad w 20)) rfl dX6_dispute_85 ?_
              refine g_get (pc := 88) hX (ci := 5) (fun _ h => List.mem_cons_of_mem _ (List.mem_append_left _ (List.mem_append_left _ (List.mem_append_left _ (List.mem_append_right _ h))))) rfl 20 (by omega) e13 3 (by decide) (List.mem_of_getElem? (i := 8) rfl) rfl (v := vI (nN)) rfl dX6_dispute_88 ?_
              refine g_bipush (pc := 91) hX (by decide) dX6_dispute_91 ?_
              refine g_icmp_lt (pc := 93) (tgt := 99) hX (by first | assumption | exact inI_mk (by omega) (by omega)) (by first | assumption | exact inI_mk (by omega) (by omega)) dX6_dispute_93 (by decide) (fun c_93 => ?_) (fun c_93 => ?_)
              · skip
                have hc1 := of_decide_eq_true c_75
                have hrow := clmK_ok hD (p := p) (x := x) (val := y) hidx hx1 hA.2 hc1
                refine g_aload_n (pc := 99) hX 0 rfl dX6_dispute_99 ?_
                refine g_callV0 (pc := 100) (ci := 6) (As := []) (st2 := []) hX 0 (by omega) d0 rfl (c_X6_remember hN hd hh hD.c) gX6_dispute_X6_remember (n := 0) (hw := rfl) (hrc := rfl) (hrs := rfl) (hd := by decide +kernel) (hR := ⟨Nat.le_of_ble_eq_true rfl, Nat.le_of_ble_eq_true rfl⟩) (hn := rfl) (hst := rfl) (hsum := Nat.le_of_ble_eq_true rfl) (hdg := dX6_dispute_100) ?_
                rintro S100 ⟨hf100, g100, hp100⟩
                refine g_at (pc2 := 103) rfl rfl (st2 := []) rfl (S2 := S100) rfl ?_
                refine g_aload_n (pc := 103) hX 0 rfl dX6_dispute_103 ?_
                refine g_iload_n (pc := 104) hX 1 rfl dX6_dispute_104 ?_
                refine g_iload_n (pc := 105) hX 2 rfl dX6_dispute_105 ?_
                refine g_iload_n (pc := 106) hX 3 rfl dX6_dispute_106 ?_
                refine g_callV1 (pc := 107) (ci := 6) (As := [vI (p), vI (x), vI (y)]) (st2 := []) hX 0 (by omega) g100 rfl (c_X6_writeNote (p := p) (x := x) (y := y) hN (show deskAt w (pcN pc) (jN j) ty B ρ T Tr (F, g, C, E, L, Q, nR, R, nP, P0, nN, N, nK, K) (pastN j Z (F, g, C, E, L, Q, nR, R, nP, P0, nN, N, nK, K)) S100 from ⟨⟨g100, ((hf100 1 (by decide) (Or.inl (by decide))).trans d1), ((hf100 2 (by decide) (Or.inl (by decide))).trans d2), ((hf100 3 (by decide) (Or.inl (by decide))).trans d3), ((hf100 4 (by decide) (Or.inl (by decide))).trans d4), ((hf100 5 (by decide) (Or.inl (by decide))).trans d5), ((hf100 6 (by decide) (Or.inl (by decide))).trans d6)⟩, ⟨⟨⟨((hf100 7 (by decide) (Or.inl (by decide))).trans e0), ((hf100 8 (by decide) (Or.inl (by decide))).trans e1), ((hf100 9 (by decide) (Or.inl (by decide))).trans e2)⟩, ⟨((hf100 10 (by decide) (Or.inl (by decide))).trans e3), ((hf100 11 (by decide) (Or.inl (by decide))).trans e4), ((hf100 12 (by decide) (Or.inl (by decide))).trans e5), ((hf100 13 (by decide) (Or.inl (by decide))).trans e6), ((hf100 14 (by decide) (Or.inl (by decide))).trans e7)⟩, ⟨((hf100 15 (by decide) (Or.inl (by decide))).trans e8), ((hf100 16 (by decide) (Or.inl (by decide))).trans e9), ((hf100 17 (by decide) (Or.inl (by decide))).trans e10)⟩⟩, ⟨⟨((hf100 18 (by decide) (Or.inl (by decide))).trans e11), ((hf100 19 (by decide) (Or.inl (by decide))).trans e12)⟩, ⟨((hf100 20 (by decide) (Or.inl (by decide))).trans e13), ((hf100 21 (by decide) (Or.inl (by decide))).trans e14)⟩, ⟨((hf100 22 (by decide) (Or.inl (by decide))).trans e15), ((hf100 23 (by decide) (Or.inl (by decide))).trans e16)⟩⟩⟩, (pastAt_frame (fun q hq => rfl) hp100)⟩) hO (by show 0 ≤ p ∧ p < nP; omega) (by omega) (by first | assumption | exact inI_mk (by omega) (by omega)) (by show nN < 20; omega) hrow) gX6_dispute_X6_writeNote (n := 3) (hw := rfl) (hrc := rfl) (hrs := rfl) (hd := by decide +kernel) (hR := ⟨Nat.le_of_ble_eq_true rfl, Nat.le_of_ble_eq_true rfl⟩) (hn := rfl) (hst := rfl) (hsum := Nat.le_of_ble_eq_true rfl) (hdg := dX6_dispute_107) ?_
                rintro _ S107 ⟨rfl, hP107⟩
                refine g_at (pc2 := 110) rfl rfl (st2 := [vI (nN)]) rfl (S2 := S107) rfl ?_
                refine g_iret (pc := 110) hX hR dX6_dispute_110 ?_
                try simp only [decide_eq_true_eq, decide_eq_false_iff_not] at c_11 c_20 c_29 c_43 c_56 c_75 c_93
                exact (if_pos ((show ((0 ≤ p ∧ p < nP) ∧ 0 ≤ x ∧ x ≤ 3) ∧ 1 ≤ y ∧ y ≤ (if x = 0 then 100000 else 2000) from hA))).mpr ((if_pos (⟨c_56, show 0 < C (P0 p 4) by omega⟩)).mpr ((if_pos (show nN < 20 by omega)).mpr (⟨rfl, hP107.1, fun q hq => ((hP107.2 q (by omega)).trans ((hf100 q (by omega) (by omega)).trans rfl))⟩)))
              · skip
                refine g_ldc (pc := 96) hX (z := -1000003) (List.mem_of_getElem? (i := 9) rfl) (by decide +kernel) dX6_dispute_96 ?_
                refine g_iret (pc := 98) hX hR dX6_dispute_98 ?_
                try simp only [decide_eq_true_eq, decide_eq_false_iff_not] at c_11 c_20 c_29 c_43 c_56 c_75 c_93
                exact (if_pos ((show ((0 ≤ p ∧ p < nP) ∧ 0 ≤ x ∧ x ≤ 3) ∧ 1 ≤ y ∧ y ≤ (if x = 0 then 100000 else 2000) from hA))).mpr ((if_pos (⟨c_56, show 0 < C (P0 p 4) by omega⟩)).mpr ((if_neg (show ¬ nN < 20 by omega)).mpr (⟨rfl, rfl⟩)))
            · skip
              refine g_ldc (pc := 78) hX (z := -1000002) (List.mem_of_getElem? (i := 6) rfl) (by decide +kernel) dX6_dispute_78 ?_
              refine g_iret (pc := 80) hX hR dX6_dispute_80 ?_
              try simp only [decide_eq_true_eq, decide_eq_false_iff_not] at c_11 c_20 c_29 c_43 c_56 c_75
              exact (if_pos ((show ((0 ≤ p ∧ p < nP) ∧ 0 ≤ x ∧ x ≤ 3) ∧ 1 ≤ y ∧ y ≤ (if x = 0 then 100000 else 2000) from hA))).mpr ((if_neg (fun u => absurd (show 0 < C (P0 p 4) from u.2) (by omega))).mpr (⟨rfl, rfl⟩))
        · skip
          refine g_ldc (pc := 46) hX (z := -1000001) (List.mem_of_getElem? (i := 3) rfl) (by decide +kernel) dX6_dispute_46 ?_
          refine g_iret (pc := 48) hX hR dX6_dispute_48 ?_
          try simp only [decide_eq_true_eq, decide_eq_false_iff_not] at c_11 c_20 c_29 c_43
          exact (if_neg (fun u => absurd u.2 (by split <;> omega))).mpr (⟨rfl, rfl⟩)
      · skip
        refine g_ldc (pc := 32) hX (z := 100000) (List.mem_of_getElem? (i := 4) rfl) (by decide +kernel) dX6_dispute_32 ?_
        refine g_goto (pc := 34) (tgt := 40) hX dX6_dispute_34 (by decide) ?_
        refine g_callT1 (pc := 40) (As := [vI (y), vI (1), vI (100000)]) (st2 := []) hX (c_X6_isWithin (x := y) (lo := 1) (hi := 100000) (by first | assumption | exact inI_mk (by omega) (by omega)) (by first | assumption | exact inI_mk (by omega) (by omega)) (by first | assumption | exact inI_mk (by omega) (by omega))) gX6_dispute_X6_isWithin (n := 3) (hw := rfl) (hrc := rfl) (hrs := rfl) (hd := by decide +kernel) (hR := ⟨Nat.le_of_ble_eq_true rfl, Nat.le_of_ble_eq_true rfl⟩) (hn := rfl) (hst := rfl) (hsum := Nat.le_of_ble_eq_true rfl) (hdg := dX6_dispute_40) ?_
        rintro _ S9 ⟨rfl, e9⟩
        rw [e9]
        clear e9 S9
        refine g_at (pc2 := 43) rfl rfl (st2 := [vI (bz (decide (1 ≤ y ∧ y ≤ 100000)))]) rfl (S2 := S) rfl ?_
        refine g_bif_ne (pc := 43) (tgt := 49) hX dX6_dispute_43 (by decide) (fun c_43 => ?_) (fun c_43 => ?_)
        · skip
          have hv1 := of_decide_eq_true c_43
          have hA : ((0 ≤ p ∧ p < nP) ∧ 0 ≤ x ∧ x ≤ 3) ∧ 1 ≤ y ∧ y ≤ (if x = 0 then 100000 else 2000) := ⟨⟨hidx, hx1⟩, by rw [if_pos c_29]; omega⟩
          have hpr := hPr p hidx.1 hidx.2
          have hoz := openZ_b (D := (F, g, C, E, L, Q, nR, R, nP, P0, nN, N, nK, K)) (p := p) hnN
          have hp4 := hpr.2.2.2.2.1
          have hCz := hB.1 (P0 p 4) hp4.1 hp4.2
          refine g_aload_n (pc := 49) hX 0 rfl dX6_dispute_49 ?_
          refine g_iload_n (pc := 50) hX 1 rfl dX6_dispute_50 ?_
          refine g_callV1 (pc := 51) (ci := 6) (As := [vI (p)]) (st2 := []) hX 0 (by omega) d0 rfl (c_X6_openNote (p := p) hN hd hO (by first | assumption | exact inI_mk (by omega) (by omega))) gX6_dispute_X6_openNote (n := 1) (hw := rfl) (hrc := rfl) (hrs := rfl) (hd := by decide +kernel) (hR := ⟨Nat.le_of_ble_eq_true rfl, Nat.le_of_ble_eq_true rfl⟩) (hn := rfl) (hst := rfl) (hsum := Nat.le_of_ble_eq_true rfl) (hdg := dX6_dispute_51) ?_
          rintro _ S9 ⟨rfl, e9⟩
          rw [e9]
          clear e9 S9
          refine g_at (pc2 := 54) rfl rfl (st2 := [vI (openZ (F, g, C, E, L, Q, nR, R, nP, P0, nN, N, nK, K) p)]) rfl (S2 := S) rfl ?_
          refine g_ldc (pc := 54) hX (z := -1000009) (List.mem_of_getElem? (i := 5) rfl) (by decide +kernel) dX6_dispute_54 ?_
          refine g_icmp_ne (pc := 56) (tgt := 78) hX (by rcases hoz with h | h <;> first | (rw [h]; exact inI_mk (by omega) (by omega)) | exact inI_mk (by omega) (by have h3 : openZ (F, g, C, E, L, Q, nR, R, nP, P0, nN, N, nK, K) p < nN := h.2; omega)) (by first | assumption | exact inI_mk (by omega) (by omega)) dX6_dispute_56 (by decide) (fun c_56 => ?_) (fun c_56 => ?_)
          · skip
            refine g_ldc (pc := 78) hX (z := -1000002) (List.mem_of_getElem? (i := 6) rfl) (by decide +kernel) dX6_dispute_78 ?_
            refine g_iret (pc := 80) hX hR dX6_dispute_80 ?_
            try simp only [decide_eq_true_eq, decide_eq_false_iff_not] at c_11 c_20 c_29 c_43 c_56
            exact (if_pos ((show ((0 ≤ p ∧ p < nP) ∧ 0 ≤ x ∧ x ≤ 3) ∧ 1 ≤ y ∧ y ≤ (if x = 0 then 100000 else 2000) from hA))).mpr ((if_neg (fun u => absurd (show openZ (F, g, C, E, L, Q, nR, R, nP, P0, nN, N, nK, K) p = -1000009 from u.1) c_56)).mpr (⟨rfl, rfl⟩))
          · skip
            refine g_aload_n (pc := 59) hX 0 rfl dX6_dispute_59 ?_
            refine g_aload_n (pc := 60) hX 0 rfl dX6_dispute_60 ?_
            refine g_get (pc := 61) hX (ci := 6) (fun _ h => List.mem_cons_of_mem _ (List.mem_append_left _ (List.mem_append_left _ (List.mem_append_left _ (List.mem_append_left _ (List.mem_append_left _ (List.mem_append_right _ h))))))) rfl 0 (by omega) d0 0 (by decide) (List.mem_of_getElem? (i := 1) rfl) rfl (v := .ref (gw_ad w 7)) rfl dX6_dispute_61 ?_
            refine g_get (pc := 64) hX (ci := 4) (fun _ h => List.mem_cons_of_mem _ (List.mem_append_left _ (List.mem_append_left _ (List.mem_append_left _ (List.mem_append_left _ (List.mem_append_right _ h)))))) rfl 7 (by omega) e0 3 (by decide) (List.mem_of_getElem? (i := 2) rfl) rfl (v := .ref (gw_ad w 18)) rfl dX6_dispute_64 ?_
            refine g_iload_n (pc := 67) hX 1 rfl dX6_dispute_67 ?_
            refine g_iconst (pc := 68) hX dX6_dispute_68 ?_
            refine g_callV1 (pc := 69) (ci := 5) (As := [vI (p), vI (4)]) (st2 := [.ref (gw_ad w 0)]) hX 18 (by omega) e11 rfl (c_X5_cell (row := p) (col := 4) (by omega) (by omega) e11 e12 (by decide) (by decide) (by first | assumption | exact inI_mk (by omega) (by omega)) (by first | assumption | exact inI_mk (by omega) (by omega)) (by first | assumption | exact inI_mk (by omega) (by omega)) (by first | assumption | exact inI_mk (by omega) (by omega))) gX6_dispute_X5_cell (n := 2) (hw := rfl) (hrc := rfl) (hrs := rfl) (hd := by decide +kernel) (hR := ⟨Nat.le_of_ble_eq_true rfl, Nat.le_of_ble_eq_true rfl⟩) (hn := rfl) (hst := rfl) (hsum := Nat.le_of_ble_eq_true rfl) (hdg := dX6_dispute_69) ?_
            rintro _ S9 ⟨rfl, e9⟩
            rw [e9]
            clear e9 S9
            rw [tcell_in (by omega) (by omega) (by omega) (by omega)]
            refine g_at (pc2 := 72) rfl rfl (st2 := [vI (P0 p 4), .ref (gw_ad w 0)]) rfl (S2 := S) rfl ?_
            refine g_callV1 (pc := 72) (ci := 6) (As := [vI (P0 p 4)]) (st2 := []) hX 0 (by omega) d0 rfl (c_X6_hasBands (z := P0 p 4) hN hd hO (by omega) (by omega)) gX6_dispute_X6_hasBands (n := 1) (hw := rfl) (hrc := rfl) (hrs := rfl) (hd := by decide +kernel) (hR := ⟨Nat.le_of_ble_eq_true rfl, Nat.le_of_ble_eq_true rfl⟩) (hn := rfl) (hst := rfl) (hsum := Nat.le_of_ble_eq_true rfl) (hdg := dX6_dispute_72) ?_
            rintro _ S9 ⟨rfl, e9⟩
            rw [e9]
            clear e9 S9
            refine g_at (pc2 := 75) rfl rfl (st2 := [vI (bz (decide (0 < C (P0 p 4))))]) rfl (S2 := S) rfl ?_
            refine g_bif_ne (pc := 75) (tgt := 81) hX dX6_dispute_75 (by decide) (fun c_75 => ?_) (fun c_75 => ?_)
            · skip
              refine g_aload_n (pc := 81) hX 0 rfl dX6_dispute_81 ?_
              refine g_get (pc := 82) hX (ci := 6) (fun _ h => List.mem_cons_of_mem _ (List.mem_append_left _ (List.mem_append_left _ (List.mem_append_left _ (List.mem_append_left _ (List.mem_append_left _ (List.mem_append_right _ h))))))) rfl 0 (by omega) d0 0 (by decide) (List.mem_of_getElem? (i := 1) rfl) rfl (v := .ref (gw_ad w 7)) rfl dX6_dispute_82 ?_
              refine g_get (pc := 85) hX (ci := 4) (fun _ h => List.mem_cons_of_mem _ (List.mem_append_left _ (List.mem_append_left _ (List.mem_append_left _ (List.mem_append_left _ (List.mem_append_right _ h)))))) rfl 7 (by omega) e0 4 (by decide) (List.mem_of_getElem? (i := 7) rfl) rfl (v := .ref (gw_ad w 20)) rfl dX6_dispute_85 ?_
              refine g_get (pc := 88) hX (ci := 5) (fun _ h => List.mem_cons_of_mem _ (List.mem_append_left _ (List.mem_append_left _ (List.mem_append_left _ (List.mem_append_right _ h))))) rfl 20 (by omega) e13 3 (by decide) (List.mem_of_getElem? (i := 8) rfl) rfl (v := vI (nN)) rfl dX6_dispute_88 ?_
              refine g_bipush (pc := 91) hX (by decide) dX6_dispute_91 ?_
              refine g_icmp_lt (pc := 93) (tgt := 99) hX (by first | assumption | exact inI_mk (by omega) (by omega)) (by first | assumption | exact inI_mk (by omega) (by omega)) dX6_dispute_93 (by decide) (fun c_93 => ?_) (fun c_93 => ?_)
              · skip
                have hc1 := of_decide_eq_true c_75
                have hrow := clmK_ok hD (p := p) (x := x) (val := y) hidx hx1 hA.2 hc1
                refine g_aload_n (pc := 99) hX 0 rfl dX6_dispute_99 ?_
                refine g_callV0 (pc := 100) (ci := 6) (As := []) (st2 := []) hX 0 (by omega) d0 rfl (c_X6_remember hN hd hh hD.c) gX6_dispute_X6_remember (n := 0) (hw := rfl) (hrc := rfl) (hrs := rfl) (hd := by decide +kernel) (hR := ⟨Nat.le_of_ble_eq_true rfl, Nat.le_of_ble_eq_true rfl⟩) (hn := rfl) (hst := rfl) (hsum := Nat.le_of_ble_eq_true rfl) (hdg := dX6_dispute_100) ?_
                rintro S100 ⟨hf100, g100, hp100⟩
                refine g_at (pc2 := 103) rfl rfl (st2 := []) rfl (S2 := S100) rfl ?_
                refine g_aload_n (pc := 103) hX 0 rfl dX6_dispute_103 ?_
                refine g_iload_n (pc := 104) hX 1 rfl dX6_dispute_104 ?_
                refine g_iload_n (pc := 105) hX 2 rfl dX6_dispute_105 ?_
                refine g_iload_n (pc := 106) hX 3 rfl dX6_dispute_106 ?_
                refine g_callV1 (pc := 107) (ci := 6) (As := [vI (p), vI (x), vI (y)]) (st2 := []) hX 0 (by omega) g100 rfl (c_X6_writeNote (p := p) (x := x) (y := y) hN (show deskAt w (pcN pc) (jN j) ty B ρ T Tr (F, g, C, E, L, Q, nR, R, nP, P0, nN, N, nK, K) (pastN j Z (F, g, C, E, L, Q, nR, R, nP, P0, nN, N, nK, K)) S100 from ⟨⟨g100, ((hf100 1 (by decide) (Or.inl (by decide))).trans d1), ((hf100 2 (by decide) (Or.inl (by decide))).trans d2), ((hf100 3 (by decide) (Or.inl (by decide))).trans d3), ((hf100 4 (by decide) (Or.inl (by decide))).trans d4), ((hf100 5 (by decide) (Or.inl (by decide))).trans d5), ((hf100 6 (by decide) (Or.inl (by decide))).trans d6)⟩, ⟨⟨⟨((hf100 7 (by decide) (Or.inl (by decide))).trans e0), ((hf100 8 (by decide) (Or.inl (by decide))).trans e1), ((hf100 9 (by decide) (Or.inl (by decide))).trans e2)⟩, ⟨((hf100 10 (by decide) (Or.inl (by decide))).trans e3), ((hf100 11 (by decide) (Or.inl (by decide))).trans e4), ((hf100 12 (by decide) (Or.inl (by decide))).trans e5), ((hf100 13 (by decide) (Or.inl (by decide))).trans e6), ((hf100 14 (by decide) (Or.inl (by decide))).trans e7)⟩, ⟨((hf100 15 (by decide) (Or.inl (by decide))).trans e8), ((hf100 16 (by decide) (Or.inl (by decide))).trans e9), ((hf100 17 (by decide) (Or.inl (by decide))).trans e10)⟩⟩, ⟨⟨((hf100 18 (by decide) (Or.inl (by decide))).trans e11), ((hf100 19 (by decide) (Or.inl (by decide))).trans e12)⟩, ⟨((hf100 20 (by decide) (Or.inl (by decide))).trans e13), ((hf100 21 (by decide) (Or.inl (by decide))).trans e14)⟩, ⟨((hf100 22 (by decide) (Or.inl (by decide))).trans e15), ((hf100 23 (by decide) (Or.inl (by decide))).trans e16)⟩⟩⟩, (pastAt_frame (fun q hq => rfl) hp100)⟩) hO (by show 0 ≤ p ∧ p < nP; omega) (by omega) (by first | assumption | exact inI_mk (by omega) (by omega)) (by show nN < 20; omega) hrow) gX6_dispute_X6_writeNote (n := 3) (hw := rfl) (hrc := rfl) (hrs := rfl) (hd := by decide +kernel) (hR := ⟨Nat.le_of_ble_eq_true rfl, Nat.le_of_ble_eq_true rfl⟩) (hn := rfl) (hst := rfl) (hsum := Nat.le_of_ble_eq_true rfl) (hdg := dX6_dispute_107) ?_
                rintro _ S107 ⟨rfl, hP107⟩
                refine g_at (pc2 := 110) rfl rfl (st2 := [vI (nN)]) rfl (S2 := S107) rfl ?_
                refine g_iret (pc := 110) hX hR dX6_dispute_110 ?_
                try simp only [decide_eq_true_eq, decide_eq_false_iff_not] at c_11 c_20 c_29 c_43 c_56 c_75 c_93
                exact (if_pos ((show ((0 ≤ p ∧ p < nP) ∧ 0 ≤ x ∧ x ≤ 3) ∧ 1 ≤ y ∧ y ≤ (if x = 0 then 100000 else 2000) from hA))).mpr ((if_pos (⟨c_56, show 0 < C (P0 p 4) by omega⟩)).mpr ((if_pos (show nN < 20 by omega)).mpr (⟨rfl, hP107.1, fun q hq => ((hP107.2 q (by omega)).trans ((hf100 q (by omega) (by omega)).trans rfl))⟩)))
              · skip
                refine g_ldc (pc := 96) hX (z := -1000003) (List.mem_of_getElem? (i := 9) rfl) (by decide +kernel) dX6_dispute_96 ?_
                refine g_iret (pc := 98) hX hR dX6_dispute_98 ?_
                try simp only [decide_eq_true_eq, decide_eq_false_iff_not] at c_11 c_20 c_29 c_43 c_56 c_75 c_93
                exact (if_pos ((show ((0 ≤ p ∧ p < nP) ∧ 0 ≤ x ∧ x ≤ 3) ∧ 1 ≤ y ∧ y ≤ (if x = 0 then 100000 else 2000) from hA))).mpr ((if_pos (⟨c_56, show 0 < C (P0 p 4) by omega⟩)).mpr ((if_neg (show ¬ nN < 20 by omega)).mpr (⟨rfl, rfl⟩)))
            · skip
              refine g_ldc (pc := 78) hX (z := -1000002) (List.mem_of_getElem? (i := 6) rfl) (by decide +kernel) dX6_dispute_78 ?_
              refine g_iret (pc := 80) hX hR dX6_dispute_80 ?_
              try simp only [decide_eq_true_eq, decide_eq_false_iff_not] at c_11 c_20 c_29 c_43 c_56 c_75
              exact (if_pos ((show ((0 ≤ p ∧ p < nP) ∧ 0 ≤ x ∧ x ≤ 3) ∧ 1 ≤ y ∧ y ≤ (if x = 0 then 100000 else 2000) from hA))).mpr ((if_neg (fun u => absurd (show 0 < C (P0 p 4) from u.2) (by omega))).mpr (⟨rfl, rfl⟩))
        · skip
          refine g_ldc (pc := 46) hX (z := -1000001) (List.mem_of_getElem? (i := 3) rfl) (by decide +kernel) dX6_dispute_46 ?_
          refine g_iret (pc := 48) hX hR dX6_dispute_48 ?_
          try simp only [decide_eq_true_eq, decide_eq_false_iff_not] at c_11 c_20 c_29 c_43
          exact (if_neg (fun u => absurd u.2 (by split <;> omega))).mpr (⟨rfl, rfl⟩)
    · skip
      refine g_ldc (pc := 23) hX (z := -1000001) (List.mem_of_getElem? (i := 3) rfl) (by decide +kernel) dX6_dispute_23 ?_
      refine g_iret (pc := 25) hX hR dX6_dispute_25 ?_
      try simp only [decide_eq_true_eq, decide_eq_false_iff_not] at c_11 c_20
      exact (if_neg (fun u => by have u1 : 0 ≤ p ∧ p < nP := u.1.1; have u2 := u.1.2; omega)).mpr (⟨rfl, rfl⟩)

set_option maxHeartbeats 4000000 in
set_option maxRecDepth 100000 in
theorem c_X6_acceptNote {w : gW} {l : Launch} {S : Nat → va_E} {pc j : Nat} {ty : Int} {B ρ T : Int → Int} {Tr : Int → Int → Int} {D : SD} {Z : Nat → SD} (hN : gw_N w = 92) (hd : deskAt w pc j ty B ρ T Tr D Z S) (hO : deskOK ty B ρ Tr D) {n : Int} (hn : 0 ≤ n ∧ n < snN D) (hp : 0 ≤ sN D n 0 ∧ sN D n 0 < snP D) :
    GM1 w l yX6_acceptNote wsX6_acceptNote { frames := 2, cells := 0, slots := 0, locals := 47 } [.ref (gw_ad w 0), vI (n)] S
      (fun v S' => v = vI (sP D (sN D n 0) 8 - sK D n 8) ∧ POST w S pc j ty B ρ T Tr (accD D n) Z S') := by
  refine GM.start (own := RX6) (n := "acceptNote") (d := "(I)I") (by decide) rfl (Nat.le_of_ble_eq_true rfl) ?_
  intro X hX hR hXl
  subst hXl
  refine g_at rfl (lv2 := [(0, .ref (gw_ad w 0)), (1, vI (n))]) rfl rfl rfl ?_
  obtain ⟨⟨d0, d1, d2, d3, d4, d5, d6⟩, ⟨hS0, hB0⟩, hpa⟩ := id hd
  obtain ⟨F, g, C, E, L, Q, nR, R, nP, P0, nN, N, nK, K⟩ := D
  obtain ⟨⟨e0, e1, e2⟩, ⟨e3, e4, e5, e6, e7⟩, ⟨e8, e9, e10⟩⟩ := (id hS0)
  obtain ⟨⟨e11, e12⟩, ⟨e13, e14⟩, ⟨e15, e16⟩⟩ := (id hB0)
  change S 7 = .inr (4, [.ref (gw_ad w 8), .ref (gw_ad w 10), .ref (gw_ad w 15), .ref (gw_ad w 18), .ref (gw_ad w 20), .ref (gw_ad w 22)]) at e0
  change S 8 = .inr (3, [.ref (gw_ad w 9), vI (g 0), vI (g 1), vI (g 2), vI (g 3), vI (g 4), vI (g 5), vI (g 6), vI (g 7), vI (g 8), vI (g 9)]) at e1
  change S 9 = AI w 8 (F) at e2
  change S 10 = .inr (0, [.ref (gw_ad w 11), .ref (gw_ad w 12), .ref (gw_ad w 13), .ref (gw_ad w 14)]) at e3
  change S 11 = AI w 4 (C) at e4
  change S 12 = AI w 24 ((fl 6 L)) at e5
  change S 13 = AI w 24 ((fl 6 Q)) at e6
  change S 14 = AI w 4 (E) at e7
  change S 15 = .inr (2, [.ref (gw_ad w 16)]) at e8
  change S 16 = .inr (5, [vI (8), vI (63), .ref (gw_ad w 17), vI (nR)]) at e9
  change S 17 = AI w 504 (fl 63 R) at e10
  change S 18 = .inr (5, [vI (30), vI (22), .ref (gw_ad w 19), vI (nP)]) at e11
  change S 19 = AI w 660 (fl 22 P0) at e12
  change S 20 = .inr (5, [vI (20), vI (6), .ref (gw_ad w 21), vI (nN)]) at e13
  change S 21 = AI w 120 (fl 6 N) at e14
  change S 22 = .inr (5, [vI (20), vI (22), .ref (gw_ad w 23), vI (nK)]) at e15
  change S 23 = AI w 440 (fl 22 K) at e16
  obtain ⟨hD, hty, hBr, hBi, hrd, hTi⟩ := id hO
  obtain ⟨⟨⟨hF, hg⟩, hB, hU, hRR⟩, ⟨hnP, hPi, hPr⟩, ⟨hnN, hNi, hNr⟩, ⟨hnK, hKi, hKr⟩, hg3⟩ := id hD
  change scF F at hF
  change scG g at hg
  change bdOK C E L Q at hB
  change ruOK nR R at hU
  change ∀ i j, inI (R i j) at hRR
  change 0 ≤ nP ∧ nP ≤ 30 at hnP
  change ∀ i j, inI (P0 i j) at hPi
  change ∀ p, 0 ≤ p → p < nP → rowOK P0 p at hPr
  change 0 ≤ nN ∧ nN ≤ 20 at hnN
  change ∀ i j, inI (N i j) at hNi
  change nK = nN at hnK
  change ∀ i j, inI (K i j) at hKi
  change ∀ n, 0 ≤ n → n < nN → rowOK K n at hKr
  have hnRb : 0 ≤ nR ∧ nR ≤ 8 := hU.1
  change 0 ≤ n ∧ n < nN at hn
  have hp0 : 0 ≤ N n 0 ∧ N n 0 < nP := hp
  have hnI : inI n := inI_mk (by omega) (by omega)
  have hr1 := hPi (N n 0) 8
  have hr2 := hKi n 8
  refine g_aload_n (pc := 0) hX 0 rfl dX6_acceptNote_0 ?_
  refine g_get (pc := 1) hX (ci := 6) (fun _ h => List.mem_cons_of_mem _ (List.mem_append_left _ (List.mem_append_left _ (List.mem_append_right _ h)))) rfl 0 (by omega) d0 0 (by decide) (List.mem_of_getElem? (i := 1) rfl) rfl (v := .ref (gw_ad w 7)) rfl dX6_acceptNote_1 ?_
  refine g_get (pc := 4) hX (ci := 4) (fun _ h => List.mem_cons_of_mem _ (List.mem_append_left _ (List.mem_append_right _ h))) rfl 7 (by omega) e0 4 (by decide) (List.mem_of_getElem? (i := 2) rfl) rfl (v := .ref (gw_ad w 20)) rfl dX6_acceptNote_4 ?_
  refine g_iload_n (pc := 7) hX 1 rfl dX6_acceptNote_7 ?_
  refine g_iconst (pc := 8) hX dX6_acceptNote_8 ?_
  refine g_callV1 (pc := 9) (ci := 5) (As := [vI (n), vI (0)]) (st2 := []) hX 20 (by omega) e13 rfl (c_X5_cell (row := n) (col := 0) (by omega) (by omega) e13 e14 (by decide) (by decide) (by first | assumption | exact inI_mk (by omega) (by omega)) (by first | assumption | exact inI_mk (by omega) (by omega)) (by first | assumption | exact inI_mk (by omega) (by omega)) (by first | assumption | exact inI_mk (by omega) (by omega))) gX6_acceptNote_X5_cell (n := 2) (hw := rfl) (hrc := rfl) (hrs := rfl) (hd := by decide +kernel) (hR := ⟨Nat.le_of_ble_eq_true rfl, Nat.le_of_ble_eq_true rfl⟩) (hn := rfl) (hst := rfl) (hsum := Nat.le_of_ble_eq_true rfl) (hdg := dX6_acceptNote_9) ?_
  rintro _ S9 ⟨rfl, e9⟩
  rw [e9]
  clear e9 S9
  rw [tcell_in (by omega) (by omega) (by omega) (by omega)]
  refine g_at (pc2 := 12) rfl rfl (st2 := [vI (N n 0)]) rfl (S2 := S) rfl ?_
  refine g_istore_n (pc := 12) hX (lv2 := [(2, vI (N n 0)), (0, .ref (gw_ad w 0)), (1, vI (n))]) rfl (by decide) rfl dX6_acceptNote_12 ?_
  refine g_aload_n (pc := 13) hX 1 rfl dX6_acceptNote_13 ?_
  refine g_get (pc := 14) hX (ci := 6) (fun _ h => List.mem_cons_of_mem _ (List.mem_append_left _ (List.mem_append_left _ (List.mem_append_right _ h)))) rfl 0 (by omega) d0 0 (by decide) (List.mem_of_getElem? (i := 1) rfl) rfl (v := .ref (gw_ad w 7)) rfl dX6_acceptNote_14 ?_
  refine g_get (pc := 17) hX (ci := 4) (fun _ h => List.mem_cons_of_mem _ (List.mem_append_left _ (List.mem_append_right _ h))) rfl 7 (by omega) e0 3 (by decide) (List.mem_of_getElem? (i := 3) rfl) rfl (v := .ref (gw_ad w 18)) rfl dX6_acceptNote_17 ?_
  refine g_iload_n (pc := 20) hX 0 rfl dX6_acceptNote_20 ?_
  refine g_bipush (pc := 21) hX (by decide) dX6_acceptNote_21 ?_
  refine g_callV1 (pc := 23) (ci := 5) (As := [vI (N n 0), vI (8)]) (st2 := []) hX 18 (by omega) e11 rfl (c_X5_cell (row := N n 0) (col := 8) (by omega) (by omega) e11 e12 (by decide) (by decide) (by first | assumption | exact inI_mk (by omega) (by omega)) (by first | assumption | exact inI_mk (by omega) (by omega)) (by first | assumption | exact inI_mk (by omega) (by omega)) (by first | assumption | exact inI_mk (by omega) (by omega))) gX6_acceptNote_X5_cell (n := 2) (hw := rfl) (hrc := rfl) (hrs := rfl) (hd := by decide +kernel) (hR := ⟨Nat.le_of_ble_eq_true rfl, Nat.le_of_ble_eq_true rfl⟩) (hn := rfl) (hst := rfl) (hsum := Nat.le_of_ble_eq_true rfl) (hdg := dX6_acceptNote_23) ?_
  rintro _ S9 ⟨rfl, e9⟩
  rw [e9]
  clear e9 S9
  rw [tcell_in (by omega) (by omega) (by omega) (by omega)]
  refine g_at (pc2 := 26) rfl rfl (st2 := [vI (P0 (N n 0) 8)]) rfl (S2 := S) rfl ?_
  refine g_aload_n (pc := 26) hX 1 rfl dX6_acceptNote_26 ?_
  refine g_get (pc := 27) hX (ci := 6) (fun _ h => List.mem_cons_of_mem _ (List.mem_append_left _ (List.mem_append_left _ (List.mem_append_right _ h)))) rfl 0 (by omega) d0 0 (by decide) (List.mem_of_getElem? (i := 1) rfl) rfl (v := .ref (gw_ad w 7)) rfl dX6_acceptNote_27 ?_
  refine g_get (pc := 30) hX (ci := 4) (fun _ h => List.mem_cons_of_mem _ (List.mem_append_left _ (List.mem_append_right _ h))) rfl 7 (by omega) e0 5 (by decide) (List.mem_of_getElem? (i := 4) rfl) rfl (v := .ref (gw_ad w 22)) rfl dX6_acceptNote_30 ?_
  refine g_iload_n (pc := 33) hX 2 rfl dX6_acceptNote_33 ?_
  refine g_bipush (pc := 34) hX (by decide) dX6_acceptNote_34 ?_
  refine g_callV1 (pc := 36) (ci := 5) (As := [vI (n), vI (8)]) (st2 := [vI (P0 (N n 0) 8)]) hX 22 (by omega) e15 rfl (c_X5_cell (row := n) (col := 8) (by omega) (by omega) e15 e16 (by decide) (by decide) (by first | assumption | exact inI_mk (by omega) (by omega)) (by first | assumption | exact inI_mk (by omega) (by omega)) (by first | assumption | exact inI_mk (by omega) (by omega)) (by first | assumption | exact inI_mk (by omega) (by omega))) gX6_acceptNote_X5_cell (n := 2) (hw := rfl) (hrc := rfl) (hrs := rfl) (hd := by decide +kernel) (hR := ⟨Nat.le_of_ble_eq_true rfl, Nat.le_of_ble_eq_true rfl⟩) (hn := rfl) (hst := rfl) (hsum := Nat.le_of_ble_eq_true rfl) (hdg := dX6_acceptNote_36) ?_
  rintro _ S9 ⟨rfl, e9⟩
  rw [e9]
  clear e9 S9
  rw [tcell_in (by omega) (by omega) (by omega) (by omega)]
  refine g_at (pc2 := 39) rfl rfl (st2 := [vI (K n 8), vI (P0 (N n 0) 8)]) rfl (S2 := S) rfl ?_
  refine g_isub (pc := 39) hX dX6_acceptNote_39 ?_
  refine g_istore_n (pc := 40) hX (lv2 := [(3, vI ((P0 (N n 0) 8) - (K n 8))), (2, vI (N n 0)), (0, .ref (gw_ad w 0)), (1, vI (n))]) rfl (by decide) rfl dX6_acceptNote_40 ?_
  refine g_aload_n (pc := 41) hX 2 rfl dX6_acceptNote_41 ?_
  refine g_get (pc := 42) hX (ci := 6) (fun _ h => List.mem_cons_of_mem _ (List.mem_append_left _ (List.mem_append_left _ (List.mem_append_right _ h)))) rfl 0 (by omega) d0 0 (by decide) (List.mem_of_getElem? (i := 1) rfl) rfl (v := .ref (gw_ad w 7)) rfl dX6_acceptNote_42 ?_
  refine g_get (pc := 45) hX (ci := 4) (fun _ h => List.mem_cons_of_mem _ (List.mem_append_left _ (List.mem_append_right _ h))) rfl 7 (by omega) e0 3 (by decide) (List.mem_of_getElem? (i := 3) rfl) rfl (v := .ref (gw_ad w 18)) rfl dX6_acceptNote_45 ?_
  refine g_iload_n (pc := 48) hX 1 rfl dX6_acceptNote_48 ?_
  refine g_aload_n (pc := 49) hX 2 rfl dX6_acceptNote_49 ?_
  refine g_get (pc := 50) hX (ci := 6) (fun _ h => List.mem_cons_of_mem _ (List.mem_append_left _ (List.mem_append_left _ (List.mem_append_right _ h)))) rfl 0 (by omega) d0 0 (by decide) (List.mem_of_getElem? (i := 1) rfl) rfl (v := .ref (gw_ad w 7)) rfl dX6_acceptNote_50 ?_
  refine g_get (pc := 53) hX (ci := 4) (fun _ h => List.mem_cons_of_mem _ (List.mem_append_left _ (List.mem_append_right _ h))) rfl 7 (by omega) e0 5 (by decide) (List.mem_of_getElem? (i := 4) rfl) rfl (v := .ref (gw_ad w 22)) rfl dX6_acceptNote_53 ?_
  refine g_iload_n (pc := 56) hX 3 rfl dX6_acceptNote_56 ?_
  refine g_callV0 (pc := 57) (ci := 5) (As := [vI (N n 0), .ref (gw_ad w 22), vI (n)]) (st2 := []) hX 18 (by omega) e11 rfl (c_X5_copyRow (row := N n 0) (fr := n) (by omega) (by omega) e11 e12 (by omega) (by omega) e15 e16 (by omega) (by omega) (by first | assumption | exact inI_mk (by omega) (by omega)) (by first | assumption | exact inI_mk (by omega) (by omega)) (by omega) (by omega) (by first | assumption | exact inI_mk (by omega) (by omega)) (by first | assumption | exact inI_mk (by omega) (by omega)) (by first | assumption | exact inI_mk (by omega) (by omega)) (by first | assumption | exact inI_mk (by omega) (by omega)) (by omega) (by omega) (by omega) (by decide) (by decide) (by decide)) gX6_acceptNote_X5_copyRow (n := 3) (hw := rfl) (hrc := rfl) (hrs := rfl) (hd := by decide +kernel) (hR := ⟨Nat.le_of_ble_eq_true rfl, Nat.le_of_ble_eq_true rfl⟩) (hn := rfl) (hst := rfl) (hsum := Nat.le_of_ble_eq_true rfl) (hdg := dX6_acceptNote_57) ?_
  rintro _ rfl
  refine g_at (pc2 := 60) rfl rfl (st2 := []) rfl (S2 := (va_up S 19 (AI w 660 (fl 22 (fun i j => if i = N n 0 then (tcell 20 22 K n) j else P0 i j))))) rfl ?_
  refine g_aload_n (pc := 60) hX 2 rfl dX6_acceptNote_60 ?_
  refine g_get (pc := 61) hX (ci := 6) (fun _ h => List.mem_cons_of_mem _ (List.mem_append_left _ (List.mem_append_left _ (List.mem_append_right _ h)))) rfl 0 (by omega) (up_ne (by decide) d0) 0 (by decide) (List.mem_of_getElem? (i := 1) rfl) rfl (v := .ref (gw_ad w 7)) rfl dX6_acceptNote_61 ?_
  refine g_get (pc := 64) hX (ci := 4) (fun _ h => List.mem_cons_of_mem _ (List.mem_append_left _ (List.mem_append_right _ h))) rfl 7 (by omega) (up_ne (by decide) e0) 4 (by decide) (List.mem_of_getElem? (i := 2) rfl) rfl (v := .ref (gw_ad w 20)) rfl dX6_acceptNote_64 ?_
  refine g_iload_n (pc := 67) hX 3 rfl dX6_acceptNote_67 ?_
  refine g_iconst (pc := 68) hX dX6_acceptNote_68 ?_
  refine g_iconst (pc := 69) hX dX6_acceptNote_69 ?_
  refine g_callV0 (pc := 70) (ci := 5) (As := [vI (n), vI (4), vI (1)]) (st2 := []) hX 20 (by omega) (up_ne (by decide) e13) rfl (c_X5_put (row := n) (col := 4) (x := 1) (by omega) (by omega) (up_ne (by decide) e13) (up_ne (by decide) e14) (by decide) (by decide) (by first | assumption | exact inI_mk (by omega) (by omega)) (by first | assumption | exact inI_mk (by omega) (by omega)) (by first | assumption | exact inI_mk (by omega) (by omega)) (by first | assumption | exact inI_mk (by omega) (by omega))) gX6_acceptNote_X5_put (n := 3) (hw := rfl) (hrc := rfl) (hrs := rfl) (hd := by decide +kernel) (hR := ⟨Nat.le_of_ble_eq_true rfl, Nat.le_of_ble_eq_true rfl⟩) (hn := rfl) (hst := rfl) (hsum := Nat.le_of_ble_eq_true rfl) (hdg := dX6_acceptNote_70) ?_
  rintro _ rfl
  rw [tput_in (by omega) (by omega) (by omega) (by omega)]
  refine g_at (pc2 := 73) rfl rfl (st2 := []) rfl (S2 := (va_up (va_up S 19 (AI w 660 (fl 22 (fun i j => if i = N n 0 then (tcell 20 22 K n) j else P0 i j)))) 21 (AI w 120 (fl 6 (upd2 N n 4 1))))) rfl ?_
  refine g_aload_n (pc := 73) hX 2 rfl dX6_acceptNote_73 ?_
  refine g_get (pc := 74) hX (ci := 6) (fun _ h => List.mem_cons_of_mem _ (List.mem_append_left _ (List.mem_append_left _ (List.mem_append_right _ h)))) rfl 0 (by omega) (up_ne (by decide) (up_ne (by decide) d0)) 0 (by decide) (List.mem_of_getElem? (i := 1) rfl) rfl (v := .ref (gw_ad w 7)) rfl dX6_acceptNote_74 ?_
  refine g_get (pc := 77) hX (ci := 4) (fun _ h => List.mem_cons_of_mem _ (List.mem_append_left _ (List.mem_append_right _ h))) rfl 7 (by omega) (up_ne (by decide) (up_ne (by decide) e0)) 4 (by decide) (List.mem_of_getElem? (i := 2) rfl) rfl (v := .ref (gw_ad w 20)) rfl dX6_acceptNote_77 ?_
  refine g_iload_n (pc := 80) hX 3 rfl dX6_acceptNote_80 ?_
  refine g_iconst (pc := 81) hX dX6_acceptNote_81 ?_
  refine g_iload_n (pc := 82) hX 0 rfl dX6_acceptNote_82 ?_
  refine g_callV0 (pc := 83) (ci := 5) (As := [vI (n), vI (5), vI ((P0 (N n 0) 8) - (K n 8))]) (st2 := []) hX 20 (by omega) (up_ne (by decide) (up_ne (by decide) e13)) rfl (c_X5_put (row := n) (col := 5) (x := (P0 (N n 0) 8) - (K n 8)) (by omega) (by omega) (up_ne (by decide) (up_ne (by decide) e13)) (up_eq _ _ _) (by decide) (by decide) (by first | assumption | exact inI_mk (by omega) (by omega)) (by first | assumption | exact inI_mk (by omega) (by omega)) (by first | assumption | exact inI_mk (by omega) (by omega)) (by first | assumption | exact inI_mk (by omega) (by omega))) gX6_acceptNote_X5_put (n := 3) (hw := rfl) (hrc := rfl) (hrs := rfl) (hd := by decide +kernel) (hR := ⟨Nat.le_of_ble_eq_true rfl, Nat.le_of_ble_eq_true rfl⟩) (hn := rfl) (hst := rfl) (hsum := Nat.le_of_ble_eq_true rfl) (hdg := dX6_acceptNote_83) ?_
  rintro _ rfl
  rw [tput_in (by omega) (by omega) (by omega) (by omega)]
  refine g_at (pc2 := 86) rfl rfl (st2 := []) rfl (S2 := (va_up (va_up (va_up S 19 (AI w 660 (fl 22 (fun i j => if i = N n 0 then (tcell 20 22 K n) j else P0 i j)))) 21 (AI w 120 (fl 6 (upd2 N n 4 1)))) 21 (AI w 120 (fl 6 (upd2 (upd2 N n 4 1) n 5 ((P0 (N n 0) 8) - (K n 8))))))) rfl ?_
  refine g_iload_n (pc := 86) hX 0 rfl dX6_acceptNote_86 ?_
  refine g_iret (pc := 87) hX hR dX6_acceptNote_87 ?_
  exact ⟨rfl, ⟨⟨⟨(up_ne (by decide) (up_ne (by decide) (up_ne (by decide) d0))), (up_ne (by decide) (up_ne (by decide) (up_ne (by decide) d1))), (up_ne (by decide) (up_ne (by decide) (up_ne (by decide) d2))), (up_ne (by decide) (up_ne (by decide) (up_ne (by decide) d3))), (up_ne (by decide) (up_ne (by decide) (up_ne (by decide) d4))), (up_ne (by decide) (up_ne (by decide) (up_ne (by decide) d5))), (up_ne (by decide) (up_ne (by decide) (up_ne (by decide) d6)))⟩, ⟨⟨⟨(up_ne (by decide) (up_ne (by decide) (up_ne (by decide) e0))), (up_ne (by decide) (up_ne (by decide) (up_ne (by decide) e1))), (up_ne (by decide) (up_ne (by decide) (up_ne (by decide) e2)))⟩, ⟨(up_ne (by decide) (up_ne (by decide) (up_ne (by decide) e3))), (up_ne (by decide) (up_ne (by decide) (up_ne (by decide) e4))), (up_ne (by decide) (up_ne (by decide) (up_ne (by decide) e5))), (up_ne (by decide) (up_ne (by decide) (up_ne (by decide) e6))), (up_ne (by decide) (up_ne (by decide) (up_ne (by decide) e7)))⟩, ⟨(up_ne (by decide) (up_ne (by decide) (up_ne (by decide) e8))), (up_ne (by decide) (up_ne (by decide) (up_ne (by decide) e9))), (up_ne (by decide) (up_ne (by decide) (up_ne (by decide) e10)))⟩⟩, ⟨⟨(up_ne (by decide) (up_ne (by decide) (up_ne (by decide) e11))), (up_ne (by decide) (up_ne (by decide) (up_eq _ _ _)))⟩, ⟨(up_ne (by decide) (up_ne (by decide) (up_ne (by decide) e13))), (up_eq _ _ _)⟩, ⟨(up_ne (by decide) (up_ne (by decide) (up_ne (by decide) e15))), (up_ne (by decide) (up_ne (by decide) (up_ne (by decide) e16)))⟩⟩⟩, pastAt_frame (fun q hq => (up_ne (by omega) (up_ne (by omega) (up_ne (by omega) rfl)))) hpa⟩, fun q hq => (up_ne (by omega) (up_ne (by omega) (up_ne (by omega) rfl)))⟩⟩

set_option maxHeartbeats 4000000 in
set_option maxRecDepth 100000 in
theorem c_X6_settle {w : gW} {l : Launch} {S : Nat → va_E} {pc j : Nat} {ty : Int} {B ρ T : Int → Int} {Tr : Int → Int → Int} {D : SD} {Z : Nat → SD} (hN : gw_N w = 92) (hd : deskAt w pc j ty B ρ T Tr D Z S) (hO : deskOK ty B ρ Tr D) (hh : pc ≤ 4 ∧ j < 4 ∧ ∀ i : Nat, i < 4 → cOK (Z i)) {n : Int} {a : Bool} (hn : inI n) :
    GM1 w l yX6_settle wsX6_settle { frames := 5, cells := 0, slots := 0, locals := 111 } [.ref (gw_ad w 0), vI (n), vI (bz (a))] S
      (fun v S' => if 0 ≤ n ∧ n < snN D then (if sN D n 4 = 0 then (if a = true then v = vI (sP D (sN D n 0) 8 - sK D n 8) ∧ POST w S (pcN pc) (jN j) ty B ρ T Tr (accD D n) (pastN j Z D) S' else v = vI 0 ∧ POST w S (pcN pc) (jN j) ty B ρ T Tr (wN D (snN D) (upd2 (sN D) n 4 2) (snK D) (sK D)) (pastN j Z D) S') else v = vI (-1000002) ∧ S' = S) else v = vI (-1000001) ∧ S' = S) := by
  refine GM.start (own := RX6) (n := "settle") (d := "(IZ)I") (by decide) rfl (Nat.le_of_ble_eq_true rfl) ?_
  intro X hX hR hXl
  subst hXl
  refine g_at rfl (lv2 := [(0, .ref (gw_ad w 0)), (1, vI (n)), (2, vI (bz (a)))]) rfl rfl rfl ?_
  obtain ⟨⟨d0, d1, d2, d3, d4, d5, d6⟩, ⟨hS0, hB0⟩, hpa⟩ := id hd
  obtain ⟨F, g, C, E, L, Q, nR, R, nP, P0, nN, N, nK, K⟩ := D
  obtain ⟨⟨e0, e1, e2⟩, ⟨e3, e4, e5, e6, e7⟩, ⟨e8, e9, e10⟩⟩ := (id hS0)
  obtain ⟨⟨e11, e12⟩, ⟨e13, e14⟩, ⟨e15, e16⟩⟩ := (id hB0)
  change S 7 = .inr (4, [.ref (gw_ad w 8), .ref (gw_ad w 10), .ref (gw_ad w 15), .ref (gw_ad w 18), .ref (gw_ad w 20), .ref (gw_ad w 22)]) at e0
  change S 8 = .inr (3, [.ref (gw_ad w 9), vI (g 0), vI (g 1), vI (g 2), vI (g 3), vI (g 4), vI (g 5), vI (g 6), vI (g 7), vI (g 8), vI (g 9)]) at e1
  change S 9 = AI w 8 (F) at e2
  change S 10 = .inr (0, [.ref (gw_ad w 11), .ref (gw_ad w 12), .ref (gw_ad w 13), .ref (gw_ad w 14)]) at e3
  change S 11 = AI w 4 (C) at e4
  change S 12 = AI w 24 ((fl 6 L)) at e5
  change S 13 = AI w 24 ((fl 6 Q)) at e6
  change S 14 = AI w 4 (E) at e7
  change S 15 = .inr (2, [.ref (gw_ad w 16)]) at e8
  change S 16 = .inr (5, [vI (8), vI (63), .ref (gw_ad w 17), vI (nR)]) at e9
  change S 17 = AI w 504 (fl 63 R) at e10
  change S 18 = .inr (5, [vI (30), vI (22), .ref (gw_ad w 19), vI (nP)]) at e11
  change S 19 = AI w 660 (fl 22 P0) at e12
  change S 20 = .inr (5, [vI (20), vI (6), .ref (gw_ad w 21), vI (nN)]) at e13
  change S 21 = AI w 120 (fl 6 N) at e14
  change S 22 = .inr (5, [vI (20), vI (22), .ref (gw_ad w 23), vI (nK)]) at e15
  change S 23 = AI w 440 (fl 22 K) at e16
  obtain ⟨hD, hty, hBr, hBi, hrd, hTi⟩ := id hO
  obtain ⟨⟨⟨hF, hg⟩, hB, hU, hRR⟩, ⟨hnP, hPi, hPr⟩, ⟨hnN, hNi, hNr⟩, ⟨hnK, hKi, hKr⟩, hg3⟩ := id hD
  change scF F at hF
  change scG g at hg
  change bdOK C E L Q at hB
  change ruOK nR R at hU
  change ∀ i j, inI (R i j) at hRR
  change 0 ≤ nP ∧ nP ≤ 30 at hnP
  change ∀ i j, inI (P0 i j) at hPi
  change ∀ p, 0 ≤ p → p < nP → rowOK P0 p at hPr
  change 0 ≤ nN ∧ nN ≤ 20 at hnN
  change ∀ i j, inI (N i j) at hNi
  change nK = nN at hnK
  change ∀ i j, inI (K i j) at hKi
  change ∀ n, 0 ≤ n → n < nN → rowOK K n at hKr
  have hnRb : 0 ≤ nR ∧ nR ≤ 8 := hU.1
  refine g_aload_n (pc := 0) hX 0 rfl dX6_settle_0 ?_
  refine g_get (pc := 1) hX (ci := 6) (fun _ h => List.mem_cons_of_mem _ (List.mem_append_left _ (List.mem_append_left _ (List.mem_append_left _ (List.mem_append_left _ (List.mem_append_left _ (List.mem_append_right _ h))))))) rfl 0 (by omega) d0 0 (by decide) (List.mem_of_getElem? (i := 1) rfl) rfl (v := .ref (gw_ad w 7)) rfl dX6_settle_1 ?_
  refine g_get (pc := 4) hX (ci := 4) (fun _ h => List.mem_cons_of_mem _ (List.mem_append_left _ (List.mem_append_left _ (List.mem_append_left _ (List.mem_append_left _ (List.mem_append_right _ h)))))) rfl 7 (by omega) e0 4 (by decide) (List.mem_of_getElem? (i := 2) rfl) rfl (v := .ref (gw_ad w 20)) rfl dX6_settle_4 ?_
  refine g_iload_n (pc := 7) hX 1 rfl dX6_settle_7 ?_
  refine g_callV1 (pc := 8) (ci := 5) (As := [vI (n)]) (st2 := []) hX 20 (by omega) e13 rfl (c_X5_has (row := n) (by omega) (by omega) e13 e14 (by first | assumption | exact inI_mk (by omega) (by omega)) (by first | assumption | exact inI_mk (by omega) (by omega))) gX6_settle_X5_has (n := 1) (hw := rfl) (hrc := rfl) (hrs := rfl) (hd := by decide +kernel) (hR := ⟨Nat.le_of_ble_eq_true rfl, Nat.le_of_ble_eq_true rfl⟩) (hn := rfl) (hst := rfl) (hsum := Nat.le_of_ble_eq_true rfl) (hdg := dX6_settle_8) ?_
  rintro _ S9 ⟨rfl, e9⟩
  rw [e9]
  clear e9 S9
  refine g_at (pc2 := 11) rfl rfl (st2 := [vI (bz (decide (0 ≤ n ∧ n < nN)))]) rfl (S2 := S) rfl ?_
  refine g_bif_ne (pc := 11) (tgt := 17) hX dX6_settle_11 (by decide) (fun c_11 => ?_) (fun c_11 => ?_)
  · skip
    have hidx := of_decide_eq_true c_11
    have hnr := hNr n hidx.1 hidx.2
    refine g_aload_n (pc := 17) hX 0 rfl dX6_settle_17 ?_
    refine g_get (pc := 18) hX (ci := 6) (fun _ h => List.mem_cons_of_mem _ (List.mem_append_left _ (List.mem_append_left _ (List.mem_append_left _ (List.mem_append_left _ (List.mem_append_left _ (List.mem_append_right _ h))))))) rfl 0 (by omega) d0 0 (by decide) (List.mem_of_getElem? (i := 1) rfl) rfl (v := .ref (gw_ad w 7)) rfl dX6_settle_18 ?_
    refine g_get (pc := 21) hX (ci := 4) (fun _ h => List.mem_cons_of_mem _ (List.mem_append_left _ (List.mem_append_left _ (List.mem_append_left _ (List.mem_append_left _ (List.mem_append_right _ h)))))) rfl 7 (by omega) e0 4 (by decide) (List.mem_of_getElem? (i := 2) rfl) rfl (v := .ref (gw_ad w 20)) rfl dX6_settle_21 ?_
    refine g_iload_n (pc := 24) hX 1 rfl dX6_settle_24 ?_
    refine g_iconst (pc := 25) hX dX6_settle_25 ?_
    refine g_callV1 (pc := 26) (ci := 5) (As := [vI (n), vI (4)]) (st2 := []) hX 20 (by omega) e13 rfl (c_X5_cell (row := n) (col := 4) (by omega) (by omega) e13 e14 (by decide) (by decide) (by first | assumption | exact inI_mk (by omega) (by omega)) (by first | assumption | exact inI_mk (by omega) (by omega)) (by first | assumption | exact inI_mk (by omega) (by omega)) (by first | assumption | exact inI_mk (by omega) (by omega))) gX6_settle_X5_cell (n := 2) (hw := rfl) (hrc := rfl) (hrs := rfl) (hd := by decide +kernel) (hR := ⟨Nat.le_of_ble_eq_true rfl, Nat.le_of_ble_eq_true rfl⟩) (hn := rfl) (hst := rfl) (hsum := Nat.le_of_ble_eq_true rfl) (hdg := dX6_settle_26) ?_
    rintro _ S9 ⟨rfl, e9⟩
    rw [e9]
    clear e9 S9
    rw [tcell_in (by omega) (by omega) (by omega) (by omega)]
    refine g_at (pc2 := 29) rfl rfl (st2 := [vI (N n 4)]) rfl (S2 := S) rfl ?_
    refine g_if_eq (pc := 29) (tgt := 35) hX (hNi n 4) dX6_settle_29 (by decide) (fun c_29 => ?_) (fun c_29 => ?_)
    · skip
      refine g_aload_n (pc := 35) hX 0 rfl dX6_settle_35 ?_
      refine g_callV0 (pc := 36) (ci := 6) (As := []) (st2 := []) hX 0 (by omega) d0 rfl (c_X6_remember hN hd hh hD.c) gX6_settle_X6_remember (n := 0) (hw := rfl) (hrc := rfl) (hrs := rfl) (hd := by decide +kernel) (hR := ⟨Nat.le_of_ble_eq_true rfl, Nat.le_of_ble_eq_true rfl⟩) (hn := rfl) (hst := rfl) (hsum := Nat.le_of_ble_eq_true rfl) (hdg := dX6_settle_36) ?_
      rintro S36 ⟨hf36, g36, hp36⟩
      refine g_at (pc2 := 39) rfl rfl (st2 := []) rfl (S2 := S36) rfl ?_
      refine g_iload_n (pc := 39) hX 2 rfl dX6_settle_39 ?_
      refine g_bif_ne (pc := 40) (tgt := 58) hX dX6_settle_40 (by decide) (fun c_40 => ?_) (fun c_40 => ?_)
      · skip
        refine g_aload_n (pc := 58) hX 0 rfl dX6_settle_58 ?_
        refine g_iload_n (pc := 59) hX 1 rfl dX6_settle_59 ?_
        refine g_callV1 (pc := 60) (ci := 6) (As := [vI (n)]) (st2 := []) hX 0 (by omega) g36 rfl (c_X6_acceptNote (n := n) hN (show deskAt w (pcN pc) (jN j) ty B ρ T Tr (F, g, C, E, L, Q, nR, R, nP, P0, nN, N, nK, K) (pastN j Z (F, g, C, E, L, Q, nR, R, nP, P0, nN, N, nK, K)) S36 from ⟨⟨g36, ((hf36 1 (by decide) (Or.inl (by decide))).trans d1), ((hf36 2 (by decide) (Or.inl (by decide))).trans d2), ((hf36 3 (by decide) (Or.inl (by decide))).trans d3), ((hf36 4 (by decide) (Or.inl (by decide))).trans d4), ((hf36 5 (by decide) (Or.inl (by decide))).trans d5), ((hf36 6 (by decide) (Or.inl (by decide))).trans d6)⟩, ⟨⟨⟨((hf36 7 (by decide) (Or.inl (by decide))).trans e0), ((hf36 8 (by decide) (Or.inl (by decide))).trans e1), ((hf36 9 (by decide) (Or.inl (by decide))).trans e2)⟩, ⟨((hf36 10 (by decide) (Or.inl (by decide))).trans e3), ((hf36 11 (by decide) (Or.inl (by decide))).trans e4), ((hf36 12 (by decide) (Or.inl (by decide))).trans e5), ((hf36 13 (by decide) (Or.inl (by decide))).trans e6), ((hf36 14 (by decide) (Or.inl (by decide))).trans e7)⟩, ⟨((hf36 15 (by decide) (Or.inl (by decide))).trans e8), ((hf36 16 (by decide) (Or.inl (by decide))).trans e9), ((hf36 17 (by decide) (Or.inl (by decide))).trans e10)⟩⟩, ⟨⟨((hf36 18 (by decide) (Or.inl (by decide))).trans e11), ((hf36 19 (by decide) (Or.inl (by decide))).trans e12)⟩, ⟨((hf36 20 (by decide) (Or.inl (by decide))).trans e13), ((hf36 21 (by decide) (Or.inl (by decide))).trans e14)⟩, ⟨((hf36 22 (by decide) (Or.inl (by decide))).trans e15), ((hf36 23 (by decide) (Or.inl (by decide))).trans e16)⟩⟩⟩, (pastAt_frame (fun q hq => rfl) hp36)⟩) hO (by show 0 ≤ n ∧ n < nN; omega) hnr.1) gX6_settle_X6_acceptNote (n := 1) (hw := rfl) (hrc := rfl) (hrs := rfl) (hd := by decide +kernel) (hR := ⟨Nat.le_of_ble_eq_true rfl, Nat.le_of_ble_eq_true rfl⟩) (hn := rfl) (hst := rfl) (hsum := Nat.le_of_ble_eq_true rfl) (hdg := dX6_settle_60) ?_
        rintro _ S60 ⟨rfl, hP60⟩
        refine g_at (pc2 := 63) rfl rfl (st2 := [vI (P0 (N n 0) 8 - K n 8)]) rfl (S2 := S60) rfl ?_
        refine g_iret (pc := 63) hX hR dX6_settle_63 ?_
        try simp only [decide_eq_true_eq, decide_eq_false_iff_not] at c_11 c_29
        exact (if_pos (show 0 ≤ n ∧ n < nN by omega)).mpr ((if_pos (show N n 4 = 0 by omega)).mpr ((if_pos (c_40)).mpr (⟨rfl, hP60.1, fun q hq => ((hP60.2 q (by omega)).trans ((hf36 q (by omega) (by omega)).trans rfl))⟩)))
      · skip
        refine g_aload_n (pc := 43) hX 0 rfl dX6_settle_43 ?_
        refine g_get (pc := 44) hX (ci := 6) (fun _ h => List.mem_cons_of_mem _ (List.mem_append_left _ (List.mem_append_left _ (List.mem_append_left _ (List.mem_append_left _ (List.mem_append_left _ (List.mem_append_right _ h))))))) rfl 0 (by omega) g36 0 (by decide) (List.mem_of_getElem? (i := 1) rfl) rfl (v := .ref (gw_ad w 7)) rfl dX6_settle_44 ?_
        refine g_get (pc := 47) hX (ci := 4) (fun _ h => List.mem_cons_of_mem _ (List.mem_append_left _ (List.mem_append_left _ (List.mem_append_left _ (List.mem_append_left _ (List.mem_append_right _ h)))))) rfl 7 (by omega) ((hf36 7 (by decide) (Or.inl (by decide))).trans e0) 4 (by decide) (List.mem_of_getElem? (i := 2) rfl) rfl (v := .ref (gw_ad w 20)) rfl dX6_settle_47 ?_
        refine g_iload_n (pc := 50) hX 1 rfl dX6_settle_50 ?_
        refine g_iconst (pc := 51) hX dX6_settle_51 ?_
        refine g_iconst (pc := 52) hX dX6_settle_52 ?_
        refine g_callV0 (pc := 53) (ci := 5) (As := [vI (n), vI (4), vI (2)]) (st2 := []) hX 20 (by omega) ((hf36 20 (by decide) (Or.inl (by decide))).trans e13) rfl (c_X5_put (row := n) (col := 4) (x := 2) (by omega) (by omega) ((hf36 20 (by decide) (Or.inl (by decide))).trans e13) ((hf36 21 (by decide) (Or.inl (by decide))).trans e14) (by decide) (by decide) (by first | assumption | exact inI_mk (by omega) (by omega)) (by first | assumption | exact inI_mk (by omega) (by omega)) (by first | assumption | exact inI_mk (by omega) (by omega)) (by first | assumption | exact inI_mk (by omega) (by omega))) gX6_settle_X5_put (n := 3) (hw := rfl) (hrc := rfl) (hrs := rfl) (hd := by decide +kernel) (hR := ⟨Nat.le_of_ble_eq_true rfl, Nat.le_of_ble_eq_true rfl⟩) (hn := rfl) (hst := rfl) (hsum := Nat.le_of_ble_eq_true rfl) (hdg := dX6_settle_53) ?_
        rintro _ rfl
        rw [tput_in (by omega) (by omega) (by omega) (by omega)]
        refine g_at (pc2 := 56) rfl rfl (st2 := []) rfl (S2 := (va_up S36 21 (AI w 120 (fl 6 (upd2 N n 4 2))))) rfl ?_
        refine g_iconst (pc := 56) hX dX6_settle_56 ?_
        refine g_iret (pc := 57) hX hR dX6_settle_57 ?_
        try simp only [decide_eq_true_eq, decide_eq_false_iff_not] at c_11 c_29
        exact (if_pos (show 0 ≤ n ∧ n < nN by omega)).mpr ((if_pos (show N n 4 = 0 by omega)).mpr ((if_neg (by rw [c_40]; decide)).mpr (⟨rfl, ⟨⟨⟨(up_ne (by decide) g36), (up_ne (by decide) ((hf36 1 (by decide) (Or.inl (by decide))).trans d1)), (up_ne (by decide) ((hf36 2 (by decide) (Or.inl (by decide))).trans d2)), (up_ne (by decide) ((hf36 3 (by decide) (Or.inl (by decide))).trans d3)), (up_ne (by decide) ((hf36 4 (by decide) (Or.inl (by decide))).trans d4)), (up_ne (by decide) ((hf36 5 (by decide) (Or.inl (by decide))).trans d5)), (up_ne (by decide) ((hf36 6 (by decide) (Or.inl (by decide))).trans d6))⟩, ⟨⟨⟨(up_ne (by decide) ((hf36 7 (by decide) (Or.inl (by decide))).trans e0)), (up_ne (by decide) ((hf36 8 (by decide) (Or.inl (by decide))).trans e1)), (up_ne (by decide) ((hf36 9 (by decide) (Or.inl (by decide))).trans e2))⟩, ⟨(up_ne (by decide) ((hf36 10 (by decide) (Or.inl (by decide))).trans e3)), (up_ne (by decide) ((hf36 11 (by decide) (Or.inl (by decide))).trans e4)), (up_ne (by decide) ((hf36 12 (by decide) (Or.inl (by decide))).trans e5)), (up_ne (by decide) ((hf36 13 (by decide) (Or.inl (by decide))).trans e6)), (up_ne (by decide) ((hf36 14 (by decide) (Or.inl (by decide))).trans e7))⟩, ⟨(up_ne (by decide) ((hf36 15 (by decide) (Or.inl (by decide))).trans e8)), (up_ne (by decide) ((hf36 16 (by decide) (Or.inl (by decide))).trans e9)), (up_ne (by decide) ((hf36 17 (by decide) (Or.inl (by decide))).trans e10))⟩⟩, ⟨⟨(up_ne (by decide) ((hf36 18 (by decide) (Or.inl (by decide))).trans e11)), (up_ne (by decide) ((hf36 19 (by decide) (Or.inl (by decide))).trans e12))⟩, ⟨(up_ne (by decide) ((hf36 20 (by decide) (Or.inl (by decide))).trans e13)), (up_eq _ _ _)⟩, ⟨(up_ne (by decide) ((hf36 22 (by decide) (Or.inl (by decide))).trans e15)), (up_ne (by decide) ((hf36 23 (by decide) (Or.inl (by decide))).trans e16))⟩⟩⟩, pastAt_frame (fun q hq => (up_ne (by omega) rfl)) hp36⟩, fun q hq => (up_ne (by omega) ((hf36 q (by omega) (by omega)).trans rfl))⟩⟩)))
    · skip
      refine g_ldc (pc := 32) hX (z := -1000002) (List.mem_of_getElem? (i := 4) rfl) (by decide +kernel) dX6_settle_32 ?_
      refine g_iret (pc := 34) hX hR dX6_settle_34 ?_
      try simp only [decide_eq_true_eq, decide_eq_false_iff_not] at c_11 c_29
      exact (if_pos (show 0 ≤ n ∧ n < nN by omega)).mpr ((if_neg (show ¬ N n 4 = 0 by omega)).mpr (⟨rfl, rfl⟩))
  · skip
    refine g_ldc (pc := 14) hX (z := -1000001) (List.mem_of_getElem? (i := 3) rfl) (by decide +kernel) dX6_settle_14 ?_
    refine g_iret (pc := 16) hX hR dX6_settle_16 ?_
    try simp only [decide_eq_true_eq, decide_eq_false_iff_not] at c_11
    exact (if_neg (show ¬ (0 ≤ n ∧ n < nN) by omega)).mpr (⟨rfl, rfl⟩)

set_option maxHeartbeats 4000000 in
set_option maxRecDepth 100000 in
theorem c_X6_sum {w : gW} {l : Launch} {S : Nat → va_E} {pc j : Nat} {ty : Int} {B ρ T : Int → Int} {Tr : Int → Int → Int} {D : SD} {Z : Nat → SD} (hN : gw_N w = 92) (hd : deskAt w pc j ty B ρ T Tr D Z S) (hO : deskOK ty B ρ Tr D) {x : Int} (hx : inI x) :
    GM1 w l yX6_sum wsX6_sum { frames := 2, cells := 0, slots := 0, locals := 46 } [.ref (gw_ad w 0), vI (x)] S
      (fun v S' => v = vL (if 0 ≤ x ∧ x ≤ 4 then sumZ D x else -1000001) ∧ S' = S) := by
  refine GM.start (own := RX6) (n := "sum") (d := "(I)J") (by decide) rfl (Nat.le_of_ble_eq_true rfl) ?_
  intro X hX hR hXl
  subst hXl
  refine g_at rfl (lv2 := [(0, .ref (gw_ad w 0)), (1, vI (x))]) rfl rfl rfl ?_
  obtain ⟨⟨d0, d1, d2, d3, d4, d5, d6⟩, ⟨hS0, hB0⟩, hpa⟩ := id hd
  obtain ⟨F, g, C, E, L, Q, nR, R, nP, P0, nN, N, nK, K⟩ := D
  obtain ⟨⟨e0, e1, e2⟩, ⟨e3, e4, e5, e6, e7⟩, ⟨e8, e9, e10⟩⟩ := (id hS0)
  obtain ⟨⟨e11, e12⟩, ⟨e13, e14⟩, ⟨e15, e16⟩⟩ := (id hB0)
  change S 7 = .inr (4, [.ref (gw_ad w 8), .ref (gw_ad w 10), .ref (gw_ad w 15), .ref (gw_ad w 18), .ref (gw_ad w 20), .ref (gw_ad w 22)]) at e0
  change S 8 = .inr (3, [.ref (gw_ad w 9), vI (g 0), vI (g 1), vI (g 2), vI (g 3), vI (g 4), vI (g 5), vI (g 6), vI (g 7), vI (g 8), vI (g 9)]) at e1
  change S 9 = AI w 8 (F) at e2
  change S 10 = .inr (0, [.ref (gw_ad w 11), .ref (gw_ad w 12), .ref (gw_ad w 13), .ref (gw_ad w 14)]) at e3
  change S 11 = AI w 4 (C) at e4
  change S 12 = AI w 24 ((fl 6 L)) at e5
  change S 13 = AI w 24 ((fl 6 Q)) at e6
  change S 14 = AI w 4 (E) at e7
  change S 15 = .inr (2, [.ref (gw_ad w 16)]) at e8
  change S 16 = .inr (5, [vI (8), vI (63), .ref (gw_ad w 17), vI (nR)]) at e9
  change S 17 = AI w 504 (fl 63 R) at e10
  change S 18 = .inr (5, [vI (30), vI (22), .ref (gw_ad w 19), vI (nP)]) at e11
  change S 19 = AI w 660 (fl 22 P0) at e12
  change S 20 = .inr (5, [vI (20), vI (6), .ref (gw_ad w 21), vI (nN)]) at e13
  change S 21 = AI w 120 (fl 6 N) at e14
  change S 22 = .inr (5, [vI (20), vI (22), .ref (gw_ad w 23), vI (nK)]) at e15
  change S 23 = AI w 440 (fl 22 K) at e16
  obtain ⟨hD, hty, hBr, hBi, hrd, hTi⟩ := id hO
  obtain ⟨⟨⟨hF, hg⟩, hB, hU, hRR⟩, ⟨hnP, hPi, hPr⟩, ⟨hnN, hNi, hNr⟩, ⟨hnK, hKi, hKr⟩, hg3⟩ := id hD
  change scF F at hF
  change scG g at hg
  change bdOK C E L Q at hB
  change ruOK nR R at hU
  change ∀ i j, inI (R i j) at hRR
  change 0 ≤ nP ∧ nP ≤ 30 at hnP
  change ∀ i j, inI (P0 i j) at hPi
  change ∀ p, 0 ≤ p → p < nP → rowOK P0 p at hPr
  change 0 ≤ nN ∧ nN ≤ 20 at hnN
  change ∀ i j, inI (N i j) at hNi
  change nK = nN at hnK
  change ∀ i j, inI (K i j) at hKi
  change ∀ n, 0 ≤ n → n < nN → rowOK K n at hKr
  have hnRb : 0 ≤ nR ∧ nR ≤ 8 := hU.1
  refine g_iload_n (pc := 0) hX 1 rfl dX6_sum_0 ?_
  rcases (show x = 0 ∨ x = 1 ∨ x = 2 ∨ x = 3 ∨ x = 4 ∨ (x < 0 ∨ 4 < x) by omega) with hs | hs | hs | hs | hs | hs
  · skip
    refine g_tin (pc := 1) (tgt := 36) (n := 0) hX hs (by decide) (by decide) (by decide) rfl dX6_sum_1 (by decide) ?_
    refine g_aload_n (pc := 36) hX 0 rfl dX6_sum_36 ?_
    refine g_get (pc := 37) hX (ci := 6) (fun _ h => List.mem_cons_of_mem _ (List.mem_append_left _ (List.mem_append_left _ (List.mem_append_right _ h)))) rfl 0 (by omega) d0 0 (by decide) (List.mem_of_getElem? (i := 1) rfl) rfl (v := .ref (gw_ad w 7)) rfl dX6_sum_37 ?_
    refine g_get (pc := 40) hX (ci := 4) (fun _ h => List.mem_cons_of_mem _ (List.mem_append_left _ (List.mem_append_right _ h))) rfl 7 (by omega) e0 3 (by decide) (List.mem_of_getElem? (i := 2) rfl) rfl (v := .ref (gw_ad w 18)) rfl dX6_sum_40 ?_
    refine g_bipush (pc := 43) hX (by decide) dX6_sum_43 ?_
    refine g_callV1 (pc := 45) (ci := 5) (As := [vI (8)]) (st2 := []) hX 18 (by omega) e11 rfl (c_X5_columnSum (col := 8) (by omega) (by omega) e11 e12 (by omega) (by omega) (by first | assumption | exact inI_mk (by omega) (by omega)) (by first | assumption | exact inI_mk (by omega) (by omega)) (by first | assumption | exact inI_mk (by omega) (by omega)) (by first | assumption | exact inI_mk (by omega) (by omega)) (by omega) hPi) gX6_sum_X5_columnSum (n := 1) (hw := rfl) (hrc := rfl) (hrs := rfl) (hd := by decide +kernel) (hR := ⟨Nat.le_of_ble_eq_true rfl, Nat.le_of_ble_eq_true rfl⟩) (hn := rfl) (hst := rfl) (hsum := Nat.le_of_ble_eq_true rfl) (hdg := dX6_sum_45) ?_
    rintro _ S9 ⟨rfl, e9⟩
    rw [e9]
    clear e9 S9
    refine g_at (pc2 := 48) rfl rfl (st2 := [vL (zsum (fun r => tcell 30 22 P0 r 8) (nP).toNat)]) rfl (S2 := S) rfl ?_
    refine g_lret (pc := 48) hX hR dX6_sum_48 ?_
    refine ⟨vL_c ?_, rfl⟩
    rw [hs]
    rfl
  · skip
    refine g_tin (pc := 1) (tgt := 49) (n := 1) hX hs (by decide) (by decide) (by decide) rfl dX6_sum_1 (by decide) ?_
    refine g_aload_n (pc := 49) hX 0 rfl dX6_sum_49 ?_
    refine g_get (pc := 50) hX (ci := 6) (fun _ h => List.mem_cons_of_mem _ (List.mem_append_left _ (List.mem_append_left _ (List.mem_append_right _ h)))) rfl 0 (by omega) d0 0 (by decide) (List.mem_of_getElem? (i := 1) rfl) rfl (v := .ref (gw_ad w 7)) rfl dX6_sum_50 ?_
    refine g_get (pc := 53) hX (ci := 4) (fun _ h => List.mem_cons_of_mem _ (List.mem_append_left _ (List.mem_append_right _ h))) rfl 7 (by omega) e0 4 (by decide) (List.mem_of_getElem? (i := 3) rfl) rfl (v := .ref (gw_ad w 20)) rfl dX6_sum_53 ?_
    refine g_iconst (pc := 56) hX dX6_sum_56 ?_
    refine g_callV1 (pc := 57) (ci := 5) (As := [vI (5)]) (st2 := []) hX 20 (by omega) e13 rfl (c_X5_columnSum (col := 5) (by omega) (by omega) e13 e14 (by omega) (by omega) (by first | assumption | exact inI_mk (by omega) (by omega)) (by first | assumption | exact inI_mk (by omega) (by omega)) (by first | assumption | exact inI_mk (by omega) (by omega)) (by first | assumption | exact inI_mk (by omega) (by omega)) (by omega) hNi) gX6_sum_X5_columnSum (n := 1) (hw := rfl) (hrc := rfl) (hrs := rfl) (hd := by decide +kernel) (hR := ⟨Nat.le_of_ble_eq_true rfl, Nat.le_of_ble_eq_true rfl⟩) (hn := rfl) (hst := rfl) (hsum := Nat.le_of_ble_eq_true rfl) (hdg := dX6_sum_57) ?_
    rintro _ S9 ⟨rfl, e9⟩
    rw [e9]
    clear e9 S9
    refine g_at (pc2 := 60) rfl rfl (st2 := [vL (zsum (fun r => tcell 20 6 N r 5) (nN).toNat)]) rfl (S2 := S) rfl ?_
    refine g_lret (pc := 60) hX hR dX6_sum_60 ?_
    refine ⟨vL_c ?_, rfl⟩
    rw [hs]
    rfl
  · skip
    refine g_tin (pc := 1) (tgt := 61) (n := 2) hX hs (by decide) (by decide) (by decide) rfl dX6_sum_1 (by decide) ?_
    refine g_aload_n (pc := 61) hX 0 rfl dX6_sum_61 ?_
    refine g_get (pc := 62) hX (ci := 6) (fun _ h => List.mem_cons_of_mem _ (List.mem_append_left _ (List.mem_append_left _ (List.mem_append_right _ h)))) rfl 0 (by omega) d0 0 (by decide) (List.mem_of_getElem? (i := 1) rfl) rfl (v := .ref (gw_ad w 7)) rfl dX6_sum_62 ?_
    refine g_get (pc := 65) hX (ci := 4) (fun _ h => List.mem_cons_of_mem _ (List.mem_append_left _ (List.mem_append_right _ h))) rfl 7 (by omega) e0 3 (by decide) (List.mem_of_getElem? (i := 2) rfl) rfl (v := .ref (gw_ad w 18)) rfl dX6_sum_65 ?_
    refine g_iconst (pc := 68) hX dX6_sum_68 ?_
    refine g_callV1 (pc := 69) (ci := 5) (As := [vI (0)]) (st2 := []) hX 18 (by omega) e11 rfl (c_X5_columnSum (col := 0) (by omega) (by omega) e11 e12 (by omega) (by omega) (by first | assumption | exact inI_mk (by omega) (by omega)) (by first | assumption | exact inI_mk (by omega) (by omega)) (by first | assumption | exact inI_mk (by omega) (by omega)) (by first | assumption | exact inI_mk (by omega) (by omega)) (by omega) hPi) gX6_sum_X5_columnSum (n := 1) (hw := rfl) (hrc := rfl) (hrs := rfl) (hd := by decide +kernel) (hR := ⟨Nat.le_of_ble_eq_true rfl, Nat.le_of_ble_eq_true rfl⟩) (hn := rfl) (hst := rfl) (hsum := Nat.le_of_ble_eq_true rfl) (hdg := dX6_sum_69) ?_
    rintro _ S9 ⟨rfl, e9⟩
    rw [e9]
    clear e9 S9
    refine g_at (pc2 := 72) rfl rfl (st2 := [vL (zsum (fun r => tcell 30 22 P0 r 0) (nP).toNat)]) rfl (S2 := S) rfl ?_
    refine g_lret (pc := 72) hX hR dX6_sum_72 ?_
    refine ⟨vL_c ?_, rfl⟩
    rw [hs]
    rfl
  · skip
    refine g_tin (pc := 1) (tgt := 73) (n := 3) hX hs (by decide) (by decide) (by decide) rfl dX6_sum_1 (by decide) ?_
    refine g_aload_n (pc := 73) hX 0 rfl dX6_sum_73 ?_
    refine g_get (pc := 74) hX (ci := 6) (fun _ h => List.mem_cons_of_mem _ (List.mem_append_left _ (List.mem_append_left _ (List.mem_append_right _ h)))) rfl 0 (by omega) d0 0 (by decide) (List.mem_of_getElem? (i := 1) rfl) rfl (v := .ref (gw_ad w 7)) rfl dX6_sum_74 ?_
    refine g_get (pc := 77) hX (ci := 4) (fun _ h => List.mem_cons_of_mem _ (List.mem_append_left _ (List.mem_append_right _ h))) rfl 7 (by omega) e0 3 (by decide) (List.mem_of_getElem? (i := 2) rfl) rfl (v := .ref (gw_ad w 18)) rfl dX6_sum_77 ?_
    refine g_bipush (pc := 80) hX (by decide) dX6_sum_80 ?_
    refine g_callV1 (pc := 82) (ci := 5) (As := [vI (6)]) (st2 := []) hX 18 (by omega) e11 rfl (c_X5_columnSum (col := 6) (by omega) (by omega) e11 e12 (by omega) (by omega) (by first | assumption | exact inI_mk (by omega) (by omega)) (by first | assumption | exact inI_mk (by omega) (by omega)) (by first | assumption | exact inI_mk (by omega) (by omega)) (by first | assumption | exact inI_mk (by omega) (by omega)) (by omega) hPi) gX6_sum_X5_columnSum (n := 1) (hw := rfl) (hrc := rfl) (hrs := rfl) (hd := by decide +kernel) (hR := ⟨Nat.le_of_ble_eq_true rfl, Nat.le_of_ble_eq_true rfl⟩) (hn := rfl) (hst := rfl) (hsum := Nat.le_of_ble_eq_true rfl) (hdg := dX6_sum_82) ?_
    rintro _ S9 ⟨rfl, e9⟩
    rw [e9]
    clear e9 S9
    refine g_at (pc2 := 85) rfl rfl (st2 := [vL (zsum (fun r => tcell 30 22 P0 r 6) (nP).toNat)]) rfl (S2 := S) rfl ?_
    refine g_lret (pc := 85) hX hR dX6_sum_85 ?_
    refine ⟨vL_c ?_, rfl⟩
    rw [hs]
    rfl
  · skip
    refine g_tin (pc := 1) (tgt := 86) (n := 4) hX hs (by decide) (by decide) (by decide) rfl dX6_sum_1 (by decide) ?_
    refine g_aload_n (pc := 86) hX 0 rfl dX6_sum_86 ?_
    refine g_get (pc := 87) hX (ci := 6) (fun _ h => List.mem_cons_of_mem _ (List.mem_append_left _ (List.mem_append_left _ (List.mem_append_right _ h)))) rfl 0 (by omega) d0 0 (by decide) (List.mem_of_getElem? (i := 1) rfl) rfl (v := .ref (gw_ad w 7)) rfl dX6_sum_87 ?_
    refine g_get (pc := 90) hX (ci := 4) (fun _ h => List.mem_cons_of_mem _ (List.mem_append_left _ (List.mem_append_right _ h))) rfl 7 (by omega) e0 3 (by decide) (List.mem_of_getElem? (i := 2) rfl) rfl (v := .ref (gw_ad w 18)) rfl dX6_sum_90 ?_
    refine g_bipush (pc := 93) hX (by decide) dX6_sum_93 ?_
    refine g_iconst (pc := 95) hX dX6_sum_95 ?_
    refine g_callV1 (pc := 96) (ci := 5) (As := [vI (12), vI (2)]) (st2 := []) hX 18 (by omega) e11 rfl (c_X5_rowsWith (col := 12) (x := 2) (by omega) (by omega) e11 e12 (by omega) (by omega) (by first | assumption | exact inI_mk (by omega) (by omega)) (by first | assumption | exact inI_mk (by omega) (by omega)) (by first | assumption | exact inI_mk (by omega) (by omega)) (by first | assumption | exact inI_mk (by omega) (by omega)) (by omega) hPi (by first | assumption | exact inI_mk (by omega) (by omega))) gX6_sum_X5_rowsWith (n := 2) (hw := rfl) (hrc := rfl) (hrs := rfl) (hd := by decide +kernel) (hR := ⟨Nat.le_of_ble_eq_true rfl, Nat.le_of_ble_eq_true rfl⟩) (hn := rfl) (hst := rfl) (hsum := Nat.le_of_ble_eq_true rfl) (hdg := dX6_sum_96) ?_
    rintro _ S9 ⟨rfl, e9⟩
    rw [e9]
    clear e9 S9
    refine g_at (pc2 := 99) rfl rfl (st2 := [vI (zsum (fun r => if tcell 30 22 P0 r 12 = 2 then 1 else 0) (nP).toNat)]) rfl (S2 := S) rfl ?_
    refine g_i2l (pc := 99) hX (by have hz : 0 ≤ zsum (fun r => if tcell 30 22 P0 r 12 = 2 then 1 else 0) nP.toNat ∧ zsum (fun r => if tcell 30 22 P0 r 12 = 2 then 1 else 0) nP.toNat ≤ nP.toNat := zsum_01 (fun r => tcell 30 22 P0 r 12) 2 nP.toNat; exact inI_mk (by omega) (by omega)) dX6_sum_99 ?_
    refine g_lret (pc := 100) hX hR dX6_sum_100 ?_
    refine ⟨vL_c ?_, rfl⟩
    rw [hs]
    rfl
  · skip
    refine g_tout (pc := 1) (tgt := 101) hX (by first | assumption | exact inI_mk (by omega) (by omega)) hs dX6_sum_1 (by decide) ?_
    refine g_ldc2 (pc := 101) hX (z := -1000001) (List.mem_of_getElem? (i := 4) rfl) (by decide +kernel) dX6_sum_101 ?_
    refine g_lret (pc := 104) hX hR dX6_sum_104 ?_
    exact ⟨vL_c (if_neg (by omega)).symm, rfl⟩
