set_option maxHeartbeats 4000000 in
set_option maxRecDepth 100000 in
theorem c_X4_price {w : gW} {l : Launch} {S : Nat → va_E} {b : Nat} {D : SD} (hb : b + 17 ≤ gw_N w) (hS0 : stA w b D S) (hOK : stOK1 D) {t t1 n : Nat} {rm cn : Int} {P : Int → Int → Int} (ht : t < gw_N w) (ht1 : t1 < gw_N w) (et : S t = OT w rm 22 t1 cn) (et1 : S t1 = AT w n 22 P) (hn : rm * 22 ≤ n) (hn2 : n ≤ 2147483647) (hrm : inI rm) {row : Int} (hr0 : 0 ≤ row) (hr1 : row < rm) (hP : ∀ i j, inI (P i j)) (s0 : 0 ≤ P row 0 ∧ P row 0 ≤ 200000) (s1 : 1 ≤ P row 1 ∧ P row 1 ≤ 2000) (s2 : 1 ≤ P row 2 ∧ P row 2 ≤ 2000) (s3 : 1 ≤ P row 3 ∧ P row 3 ≤ 2000) (s4 : 0 ≤ P row 4 ∧ P row 4 < 4) (hc1 : 1 ≤ sC D (P row 4)) (na : t1 < b ∨ b + 10 < t1) (ntt : t ≠ t1) :
    GM0 w l yX4_price wsX4_price { frames := 4, cells := 0, slots := 0, locals := 106 } [.ref (gw_ad w b), .ref (gw_ad w t), vI (row)] S
      (fun S' => S' = va_up S t1 (AT w n 22 (prD D P row))) := by
  refine GM.start (own := RX4) (n := "price") (d := "(LParcelDesk$Table;I)V") (by decide) rfl (Nat.le_of_ble_eq_true rfl) ?_
  intro X hX hR hXl
  subst hXl
  refine g_at rfl (lv2 := [(0, .ref (gw_ad w b)), (1, .ref (gw_ad w t)), (2, vI (row))]) rfl rfl rfl ?_
  obtain ⟨F, g, C, E, L, Q, nR, R, nP, P0, nN, N, nK, K⟩ := D
  obtain ⟨⟨e0, e1, e2⟩, ⟨e3, e4, e5, e6, e7⟩, ⟨e8, e9, e10⟩⟩ := hS0
  obtain ⟨⟨hF, hg⟩, hB, hU, hRR⟩ := hOK
  change scF F at hF
  change scG g at hg
  change bdOK C E L Q at hB
  change ruOK nR R at hU
  change ∀ i j, inI (R i j) at hRR
  have hrow : inI row := by have := hrm.2; exact inI_mk (by omega) (by omega)
  obtain ⟨-, ⟨-, -, ⟨fa6, fb6⟩, ⟨fa7, fb7⟩⟩⟩ := id hF
  change 1000 ≤ F 6 at fa6
  change F 6 ≤ 9999 at fb6
  change 1 ≤ F 7 at fa7
  change F 7 ≤ 1000 at fb7
  have hvol := volZ_b s1 s2 s3
  have hCz : 0 ≤ C (P row 4) ∧ C (P row 4) ≤ 6 := hB.1 _ s4.1 s4.2
  have hC1 : 1 ≤ C (P row 4) := hc1
  have hl1 : 0 ≤ L (P row 4) (C (P row 4) - 1) := by have := ((hB.2.2.2 _ s4.1 s4.2).2 (C (P row 4) - 1) (by omega) (by omega)).1.1; exact Int.le_trans (by decide) this
  refine g_aload_n (pc := 0) hX 1 rfl dX4_price_0 ?_
  refine g_iload_n (pc := 1) hX 2 rfl dX4_price_1 ?_
  refine g_iconst (pc := 2) hX dX4_price_2 ?_
  refine g_callV1 (pc := 3) (ci := 5) (As := [vI (row), vI (0)]) (st2 := []) hX t ht et rfl (c_X5_cell (row := row) (col := 0) ht ht1 et et1 hn hn2 hrm (by first | assumption | exact inI_mk (by omega) (by omega)) (by first | assumption | exact inI_mk (by omega) (by omega)) (by first | assumption | exact inI_mk (by omega) (by omega))) gX4_price_X5_cell (n := 2) (hw := rfl) (hrc := rfl) (hrs := rfl) (hd := by decide +kernel) (hR := ⟨Nat.le_of_ble_eq_true rfl, Nat.le_of_ble_eq_true rfl⟩) (hn := rfl) (hst := rfl) (hsum := Nat.le_of_ble_eq_true rfl) (hdg := dX4_price_3) ?_
  rintro _ S9 ⟨rfl, e9⟩
  rw [e9]
  clear e9 S9
  rw [tcell_in (by omega) (by omega) (by omega) (by omega)]
  refine g_at (pc2 := 6) rfl rfl (st2 := [vI (P row 0)]) rfl (S2 := S) rfl ?_
  refine g_istore_n (pc := 6) hX (lv2 := [(3, vI (P row 0)), (0, .ref (gw_ad w b)), (1, .ref (gw_ad w t)), (2, vI (row))]) rfl (by decide) rfl dX4_price_6 ?_
  refine g_aload_n (pc := 7) hX 2 rfl dX4_price_7 ?_
  refine g_iload_n (pc := 8) hX 3 rfl dX4_price_8 ?_
  refine g_callN1 (pc := 9) (As := [.ref (gw_ad w t), vI (row)]) (st2 := []) hX (c_X6_volume (row := row) ht ht1 et et1 hn hn2 hrm hr0 hr1 ntt s1 s2 s3) ggX4_price_X6_volume (List.mem_of_getElem? (i := 8) rfl) (List.mem_of_getElem? (i := 17) rfl) (List.mem_of_getElem? (i := 18) rfl) (n := 2) (hw := rfl) (hrc := rfl) (hrs := rfl) (hd := by decide +kernel) (hR := ⟨Nat.le_of_ble_eq_true rfl, Nat.le_of_ble_eq_true rfl⟩) (hn := rfl) (hst := rfl) (hsum := Nat.le_of_ble_eq_true rfl) (hdg := dX4_price_9) ?_
  rintro _ S9 ⟨rfl, e9⟩
  rw [e9]
  clear e9 S9
  refine g_at (pc2 := 12) rfl rfl (st2 := [vI (volZ (P row 1) (P row 2) (P row 3))]) rfl (S2 := S) rfl ?_
  refine g_i2l (pc := 12) hX (by first | assumption | exact inI_mk (by omega) (by omega)) dX4_price_12 ?_
  refine g_ldc2 (pc := 13) hX (z := 1000) (List.mem_of_getElem? (i := 1) rfl) (by decide +kernel) dX4_price_13 ?_
  refine g_lmul (pc := 16) hX dX4_price_16 ?_
  refine g_aload_n (pc := 17) hX 1 rfl dX4_price_17 ?_
  refine g_get (pc := 18) hX (ci := 4) (fun _ h => List.mem_cons_of_mem _ (List.mem_append_left _ (List.mem_append_left _ (List.mem_append_left _ (List.mem_append_left _ (List.mem_append_right _ h)))))) rfl b (by omega) e0 0 (by decide) (List.mem_of_getElem? (i := 2) rfl) rfl (v := .ref (gw_ad w (b + 1))) rfl dX4_price_18 ?_
  refine g_bipush (pc := 21) hX (by decide) dX4_price_21 ?_
  refine g_callV1 (pc := 23) (ci := 3) (As := [vI (6)]) (st2 := [vL ((volZ (P row 1) (P row 2) (P row 3)) * 1000)]) hX (b + 1) (by omega) e1 rfl (c_X3_settingOf (g := g) (by omega) (by omega) e1 e2 (i := 6) (by omega) (by omega)) gX4_price_X3_settingOf (n := 1) (hw := rfl) (hrc := rfl) (hrs := rfl) (hd := by decide +kernel) (hR := ⟨Nat.le_of_ble_eq_true rfl, Nat.le_of_ble_eq_true rfl⟩) (hn := rfl) (hst := rfl) (hsum := Nat.le_of_ble_eq_true rfl) (hdg := dX4_price_23) ?_
  rintro _ S9 ⟨rfl, e9⟩
  rw [e9]
  clear e9 S9
  refine g_at (pc2 := 26) rfl rfl (st2 := [vI (F 6), vL ((volZ (P row 1) (P row 2) (P row 3)) * 1000)]) rfl (S2 := S) rfl ?_
  refine g_callN1 (pc := 26) (As := [vL ((volZ (P row 1) (P row 2) (P row 3)) * 1000), vI (F 6)]) (st2 := []) hX (c_X6_dividedUp (x := (volZ (P row 1) (P row 2) (P row 3)) * 1000) (y := F 6) (by omega) (by omega) (by first | assumption | exact inI_mk (by omega) (by omega)) (by omega)) ggX4_price_X6_dividedUp (List.mem_of_getElem? (i := 9) rfl) (List.mem_of_getElem? (i := 27) rfl) (List.mem_of_getElem? (i := 18) rfl) (n := 2) (hw := rfl) (hrc := rfl) (hrs := rfl) (hd := by decide +kernel) (hR := ⟨Nat.le_of_ble_eq_true rfl, Nat.le_of_ble_eq_true rfl⟩) (hn := rfl) (hst := rfl) (hsum := Nat.le_of_ble_eq_true rfl) (hdg := dX4_price_26) ?_
  rintro _ S9 ⟨rfl, e9⟩
  rw [e9]
  clear e9 S9
  refine g_at (pc2 := 29) rfl rfl (st2 := [vI (((volZ (P row 1) (P row 2) (P row 3)) * 1000 + F 6 - 1) / (F 6))]) rfl (S2 := S) rfl ?_
  obtain ⟨dim, edim⟩ : ∃ z : Int, z = ((volZ (P row 1) (P row 2) (P row 3)) * 1000 + F 6 - 1) / (F 6) := ⟨_, rfl⟩
  refine g_at rfl rfl (st2 := [vI (dim)]) (by rw [edim]) rfl ?_
  have hdim : 0 ≤ dim ∧ dim ≤ 8000000 := by rw [edim]; exact dimZ_b fa6 s1 s2 s3
  refine g_istore (pc := 29) hX (lv2 := [(4, vI (dim)), (3, vI (P row 0)), (0, .ref (gw_ad w b)), (1, .ref (gw_ad w t)), (2, vI (row))]) (by decide) rfl dX4_price_29 ?_
  refine g_aload_n (pc := 31) hX 2 rfl dX4_price_31 ?_
  refine g_get (pc := 32) hX (ci := 4) (fun _ h => List.mem_cons_of_mem _ (List.mem_append_left _ (List.mem_append_left _ (List.mem_append_left _ (List.mem_append_left _ (List.mem_append_right _ h)))))) rfl b (by omega) e0 0 (by decide) (List.mem_of_getElem? (i := 2) rfl) rfl (v := .ref (gw_ad w (b + 1))) rfl dX4_price_32 ?_
  refine g_bipush (pc := 35) hX (by decide) dX4_price_35 ?_
  refine g_callV1 (pc := 37) (ci := 3) (As := [vI (7)]) (st2 := []) hX (b + 1) (by omega) e1 rfl (c_X3_settingOf (g := g) (by omega) (by omega) e1 e2 (i := 7) (by omega) (by omega)) gX4_price_X3_settingOf (n := 1) (hw := rfl) (hrc := rfl) (hrs := rfl) (hd := by decide +kernel) (hR := ⟨Nat.le_of_ble_eq_true rfl, Nat.le_of_ble_eq_true rfl⟩) (hn := rfl) (hst := rfl) (hsum := Nat.le_of_ble_eq_true rfl) (hdg := dX4_price_37) ?_
  rintro _ S9 ⟨rfl, e9⟩
  rw [e9]
  clear e9 S9
  refine g_at (pc2 := 40) rfl rfl (st2 := [vI (F 7)]) rfl (S2 := S) rfl ?_
  refine g_istore (pc := 40) hX (lv2 := [(5, vI (F 7)), (4, vI (dim)), (3, vI (P row 0)), (0, .ref (gw_ad w b)), (1, .ref (gw_ad w t)), (2, vI (row))]) (by decide) rfl dX4_price_40 ?_
  refine g_aload_n (pc := 42) hX 4 rfl dX4_price_42 ?_
  refine g_iload_n (pc := 43) hX 5 rfl dX4_price_43 ?_
  refine g_iconst (pc := 44) hX dX4_price_44 ?_
  refine g_iload (pc := 45) hX 1 rfl dX4_price_45 ?_
  refine g_callV0 (pc := 47) (ci := 5) (As := [vI (row), vI (5), vI (dim)]) (st2 := []) hX t ht et rfl (c_X5_put (row := row) (col := 5) (x := dim) ht ht1 et et1 hn hn2 hrm (by first | assumption | exact inI_mk (by omega) (by omega)) (by first | assumption | exact inI_mk (by omega) (by omega)) (by first | assumption | exact inI_mk (by omega) (by omega))) gX4_price_X5_put (n := 3) (hw := rfl) (hrc := rfl) (hrs := rfl) (hd := by decide +kernel) (hR := ⟨Nat.le_of_ble_eq_true rfl, Nat.le_of_ble_eq_true rfl⟩) (hn := rfl) (hst := rfl) (hsum := Nat.le_of_ble_eq_true rfl) (hdg := dX4_price_47) ?_
  rintro _ rfl
  rw [tput_in (by omega) (by omega) (by omega) (by omega)]
  refine g_at (pc2 := 50) rfl rfl (st2 := []) rfl (S2 := (va_up S t1 (AI w n (fl 22 (upd2 P row 5 dim))))) rfl ?_
  refine g_aload_n (pc := 50) hX 4 rfl dX4_price_50 ?_
  refine g_iload_n (pc := 51) hX 5 rfl dX4_price_51 ?_
  refine g_bipush (pc := 52) hX (by decide) dX4_price_52 ?_
  refine g_iload_n (pc := 54) hX 2 rfl dX4_price_54 ?_
  refine g_iload (pc := 55) hX 1 rfl dX4_price_55 ?_
  refine g_mmax (pc := 57) hX (by first | assumption | exact inI_mk (by omega) (by omega)) (by first | assumption | exact inI_mk (by omega) (by omega)) (List.mem_of_getElem? (i := 3) rfl) (List.mem_of_getElem? (i := 4) rfl) (List.mem_of_getElem? (i := 5) rfl) (List.mem_of_getElem? (i := 6) rfl) (Nat.le_of_ble_eq_true rfl) (Nat.le_of_ble_eq_true rfl) dX4_price_57 ?_
  obtain ⟨m1, em1⟩ : ∃ z : Int, z = (if P row 0 < dim then dim else P row 0) := ⟨_, rfl⟩
  refine g_at rfl rfl (st2 := [vI (m1), vI (6), vI (row), .ref (gw_ad w t)]) (by rw [em1]) rfl ?_
  have hm1 : 0 ≤ m1 ∧ m1 ≤ 8000000 := by rw [em1]; constructor <;> (split <;> omega)
  refine g_i2l (pc := 60) hX (by first | assumption | exact inI_mk (by omega) (by omega)) dX4_price_60 ?_
  refine g_iload (pc := 61) hX 0 rfl dX4_price_61 ?_
  refine g_callN1 (pc := 63) (As := [vL (m1), vI (F 7)]) (st2 := [vI (6), vI (row), .ref (gw_ad w t)]) hX (c_X6_dividedUp (x := m1) (y := F 7) (by omega) (by omega) (by first | assumption | exact inI_mk (by omega) (by omega)) (by omega)) ggX4_price_X6_dividedUp (List.mem_of_getElem? (i := 9) rfl) (List.mem_of_getElem? (i := 27) rfl) (List.mem_of_getElem? (i := 18) rfl) (n := 2) (hw := rfl) (hrc := rfl) (hrs := rfl) (hd := by decide +kernel) (hR := ⟨Nat.le_of_ble_eq_true rfl, Nat.le_of_ble_eq_true rfl⟩) (hn := rfl) (hst := rfl) (hsum := Nat.le_of_ble_eq_true rfl) (hdg := dX4_price_63) ?_
  rintro _ S9 ⟨rfl, e9⟩
  rw [e9]
  clear e9 S9
  refine g_at (pc2 := 66) rfl rfl (st2 := [vI ((m1 + F 7 - 1) / (F 7)), vI (6), vI (row), .ref (gw_ad w t)]) rfl (S2 := (va_up S t1 (AI w n (fl 22 (upd2 P row 5 dim))))) rfl ?_
  obtain ⟨q1, eq1⟩ : ∃ z : Int, z = (m1 + F 7 - 1) / (F 7) := ⟨_, rfl⟩
  refine g_at rfl rfl (st2 := [vI (q1), vI (6), vI (row), .ref (gw_ad w t)]) (by rw [eq1]) rfl ?_
  have hq1 := bil_b (u := F 7) ⟨fa7, fb7⟩ hm1.1 hm1.2 eq1
  refine g_iload (pc := 66) hX 0 rfl dX4_price_66 ?_
  refine g_imul (pc := 68) hX dX4_price_68 ?_
  obtain ⟨bil, ebil⟩ : ∃ z : Int, z = q1 * (F 7) := ⟨_, rfl⟩
  refine g_at rfl rfl (st2 := [vI (bil), vI (6), vI (row), .ref (gw_ad w t)]) (by rw [ebil]) rfl ?_
  rw [← ebil] at hq1
  refine g_callV0 (pc := 69) (ci := 5) (As := [vI (row), vI (6), vI (bil)]) (st2 := []) hX t ht (up_ne ntt et) rfl (c_X5_put (row := row) (col := 6) (x := bil) ht ht1 (up_ne ntt et) (up_eq _ _ _) hn hn2 hrm (by first | assumption | exact inI_mk (by omega) (by omega)) (by first | assumption | exact inI_mk (by omega) (by omega)) (by first | assumption | exact inI_mk (by omega) (by omega))) gX4_price_X5_put (n := 3) (hw := rfl) (hrc := rfl) (hrs := rfl) (hd := by decide +kernel) (hR := ⟨Nat.le_of_ble_eq_true rfl, Nat.le_of_ble_eq_true rfl⟩) (hn := rfl) (hst := rfl) (hsum := Nat.le_of_ble_eq_true rfl) (hdg := dX4_price_69) ?_
  rintro _ rfl
  rw [tput_in (by omega) (by omega) (by omega) (by omega)]
  refine g_at (pc2 := 72) rfl rfl (st2 := []) rfl (S2 := (va_up (va_up S t1 (AI w n (fl 22 (upd2 P row 5 dim)))) t1 (AI w n (fl 22 (upd2 (upd2 P row 5 dim) row 6 bil))))) rfl ?_
  obtain ⟨P2, eP2⟩ : ∃ f : Int → Int → Int, f = (upd2 (upd2 P row 5 dim) row 6 bil) := ⟨_, rfl⟩
  refine g_at rfl rfl rfl (S2 := (va_up (va_up S t1 (AI w n (fl 22 (upd2 P row 5 dim)))) t1 (AI w n (fl 22 P2)))) (by rw [eP2]) ?_
  have p2 : ∀ j, j ≠ 5 → j ≠ 6 → P2 row j = P row j := fun j h5 h6 => by rw [eP2, upd2_ne (Or.inr h6), upd2_ne (Or.inr h5)]
  have p26 : P2 row 6 = bil := by rw [eP2, upd2_eq]
  have q1s := p2 1 (by decide) (by decide)
  have q2s := p2 2 (by decide) (by decide)
  have q3s := p2 3 (by decide) (by decide)
  have i2 : ∀ i j, inI (P2 i j) := by rw [eP2]; exact inI_upd2 (inI_upd2 hP (inI_mk (by omega) (by omega))) (inI_mk (by omega) (by omega))
  refine g_aload_n (pc := 72) hX 4 rfl dX4_price_72 ?_
  refine g_iload_n (pc := 73) hX 5 rfl dX4_price_73 ?_
  refine g_callT0 (pc := 74) (As := [.ref (gw_ad w t), vI (row)]) (st2 := []) hX (c_X4_measure (row := row) ht ht1 (up_ne ntt (up_ne ntt et)) (up_eq _ _ _) hn hn2 hrm hr0 hr1 ntt (by omega) (by omega) (by omega)) gX4_price_X4_measure (n := 2) (hw := rfl) (hrc := rfl) (hrs := rfl) (hd := by decide +kernel) (hR := ⟨Nat.le_of_ble_eq_true rfl, Nat.le_of_ble_eq_true rfl⟩) (hn := rfl) (hst := rfl) (hsum := Nat.le_of_ble_eq_true rfl) (hdg := dX4_price_74) ?_
  rintro _ rfl
  refine g_at (pc2 := 77) rfl rfl (st2 := []) rfl (S2 := (va_up (va_up (va_up S t1 (AI w n (fl 22 (upd2 P row 5 dim)))) t1 (AI w n (fl 22 P2))) t1 (AI w n (fl 22 (msr P2 row))))) rfl ?_
  obtain ⟨P3, eP3⟩ : ∃ f : Int → Int → Int, f = (msr P2 row) := ⟨_, rfl⟩
  refine g_at rfl rfl rfl (S2 := (va_up (va_up (va_up S t1 (AI w n (fl 22 (upd2 P row 5 dim)))) t1 (AI w n (fl 22 P2))) t1 (AI w n (fl 22 P3)))) (by rw [eP3]) ?_
  have p3 : ∀ j, j ≠ 9 → j ≠ 10 → P3 row j = P2 row j := fun j h5 h6 => by rw [eP3]; unfold msr; rw [upd2_ne (Or.inr h5), upd2_ne (Or.inr h6)]
  have hlg : 1 ≤ lngZ (P2 row 1) (P2 row 2) (P2 row 3) ∧ lngZ (P2 row 1) (P2 row 2) (P2 row 3) ≤ 2000 := by unfold lngZ mx; split <;> (try split) <;> omega
  have i3 : ∀ i j, inI (P3 i j) := by rw [eP3]; exact inI_upd2 (inI_upd2 i2 (inI_mk (by omega) (by omega))) (by unfold girZ; exact inI_mk (by omega) (by omega))
  refine g_aload_n (pc := 77) hX 4 rfl dX4_price_77 ?_
  refine g_iload_n (pc := 78) hX 5 rfl dX4_price_78 ?_
  refine g_bipush (pc := 79) hX (by decide) dX4_price_79 ?_
  refine g_iconst (pc := 81) hX dX4_price_81 ?_
  refine g_callV0 (pc := 82) (ci := 5) (As := [vI (row), vI (11), vI (0)]) (st2 := []) hX t ht (up_ne ntt (up_ne ntt (up_ne ntt et))) rfl (c_X5_put (row := row) (col := 11) (x := 0) ht ht1 (up_ne ntt (up_ne ntt (up_ne ntt et))) (up_eq _ _ _) hn hn2 hrm (by first | assumption | exact inI_mk (by omega) (by omega)) (by first | assumption | exact inI_mk (by omega) (by omega)) (by first | assumption | exact inI_mk (by omega) (by omega))) gX4_price_X5_put (n := 3) (hw := rfl) (hrc := rfl) (hrs := rfl) (hd := by decide +kernel) (hR := ⟨Nat.le_of_ble_eq_true rfl, Nat.le_of_ble_eq_true rfl⟩) (hn := rfl) (hst := rfl) (hsum := Nat.le_of_ble_eq_true rfl) (hdg := dX4_price_82) ?_
  rintro _ rfl
  rw [tput_in (by omega) (by omega) (by omega) (by omega)]
  refine g_at (pc2 := 85) rfl rfl (st2 := []) rfl (S2 := (va_up (va_up (va_up (va_up S t1 (AI w n (fl 22 (upd2 P row 5 dim)))) t1 (AI w n (fl 22 P2))) t1 (AI w n (fl 22 P3))) t1 (AI w n (fl 22 (upd2 P3 row 11 0))))) rfl ?_
  obtain ⟨P4, eP4⟩ : ∃ f : Int → Int → Int, f = (upd2 P3 row 11 0) := ⟨_, rfl⟩
  refine g_at rfl rfl rfl (S2 := (va_up (va_up (va_up (va_up S t1 (AI w n (fl 22 (upd2 P row 5 dim)))) t1 (AI w n (fl 22 P2))) t1 (AI w n (fl 22 P3))) t1 (AI w n (fl 22 P4)))) (by rw [eP4]) ?_
  have p4 : ∀ j, j ≠ 11 → P4 row j = P3 row j := fun j h5 => by rw [eP4, upd2_ne (Or.inr h5)]
  have p411 : P4 row 11 = 0 := by rw [eP4, upd2_eq]
  have i4 : ∀ i j, inI (P4 i j) := by rw [eP4]; exact inI_upd2 i3 (inI_mk (by omega) (by omega))
  refine g_aload_n (pc := 85) hX 4 rfl dX4_price_85 ?_
  refine g_iload_n (pc := 86) hX 5 rfl dX4_price_86 ?_
  refine g_iload_n (pc := 87) hX 2 rfl dX4_price_87 ?_
  refine g_iload (pc := 88) hX 1 rfl dX4_price_88 ?_
  refine g_callT1 (pc := 90) (As := [vI (P row 0), vI (dim)]) (st2 := [vI (row), .ref (gw_ad w t)]) hX (c_X4_weightReason (x := P row 0) (y := dim) (by first | assumption | exact inI_mk (by omega) (by omega)) (by first | assumption | exact inI_mk (by omega) (by omega))) gX4_price_X4_weightReason (n := 2) (hw := rfl) (hrc := rfl) (hrs := rfl) (hd := by decide +kernel) (hR := ⟨Nat.le_of_ble_eq_true rfl, Nat.le_of_ble_eq_true rfl⟩) (hn := rfl) (hst := rfl) (hsum := Nat.le_of_ble_eq_true rfl) (hdg := dX4_price_90) ?_
  rintro _ S9 ⟨rfl, e9⟩
  rw [e9]
  clear e9 S9
  refine g_at (pc2 := 93) rfl rfl (st2 := [vI (wrZ (P row 0) dim), vI (row), .ref (gw_ad w t)]) rfl (S2 := (va_up (va_up (va_up (va_up S t1 (AI w n (fl 22 (upd2 P row 5 dim)))) t1 (AI w n (fl 22 P2))) t1 (AI w n (fl 22 P3))) t1 (AI w n (fl 22 P4)))) rfl ?_
  refine g_callN0 (pc := 93) (As := [.ref (gw_ad w t), vI (row), vI (wrZ (P row 0) dim)]) (st2 := []) hX (c_X6_addReason (row := row) (x := wrZ (P row 0) dim) ht ht1 (up_ne ntt (up_ne ntt (up_ne ntt (up_ne ntt et)))) (up_eq _ _ _) hn hn2 hrm hr0 hr1 ntt (by omega) (by omega)) ggX4_price_X6_addReason (List.mem_of_getElem? (i := 10) rfl) (List.mem_of_getElem? (i := 40) rfl) (List.mem_of_getElem? (i := 18) rfl) (n := 3) (hw := rfl) (hrc := rfl) (hrs := rfl) (hd := by decide +kernel) (hR := ⟨Nat.le_of_ble_eq_true rfl, Nat.le_of_ble_eq_true rfl⟩) (hn := rfl) (hst := rfl) (hsum := Nat.le_of_ble_eq_true rfl) (hdg := dX4_price_93) ?_
  rintro _ rfl
  refine g_at (pc2 := 96) rfl rfl (st2 := []) rfl (S2 := (va_up (va_up (va_up (va_up (va_up S t1 (AI w n (fl 22 (upd2 P row 5 dim)))) t1 (AI w n (fl 22 P2))) t1 (AI w n (fl 22 P3))) t1 (AI w n (fl 22 P4))) t1 (AI w n (fl 22 (rsn P4 row (wrZ (P row 0) dim)))))) rfl ?_
  obtain ⟨P5, eP5⟩ : ∃ f : Int → Int → Int, f = (rsn P4 row (wrZ (P row 0) dim)) := ⟨_, rfl⟩
  refine g_at rfl rfl rfl (S2 := (va_up (va_up (va_up (va_up (va_up S t1 (AI w n (fl 22 (upd2 P row 5 dim)))) t1 (AI w n (fl 22 P2))) t1 (AI w n (fl 22 P3))) t1 (AI w n (fl 22 P4))) t1 (AI w n (fl 22 P5)))) (by rw [eP5]) ?_
  have p511 : P5 row 11 = 1 := by rw [eP5, rsn_11, p411]; rfl
  have p5 : ∀ j, j ≤ 10 → P5 row j = P4 row j := fun j h5 => by rw [eP5, rsn_ne (Or.inr ⟨by omega, by omega⟩)]
  have i5 : ∀ i j, inI (P5 i j) := by rw [eP5]; exact rsn_in i4 (by unfold wrZ; split <;> (try split) <;> exact inI_mk (by omega) (by omega)) (by omega)
  have p54 : P5 row 4 = P row 4 := by rw [p5 4 (by decide), p4 4 (by decide), p3 4 (by decide) (by decide), p2 4 (by decide) (by decide)]
  have p56 : P5 row 6 = bil := by rw [p5 6 (by decide), p4 6 (by decide), p3 6 (by decide) (by decide), p26]
  have hbz := baseZ_b hB (x := bil) s4.1 s4.2 hC1 (by omega) (by omega)
  change 0 ≤ baseZ C E L Q (P row 4) bil ∧ baseZ C E L Q (P row 4) bil ≤ 100000000 at hbz
  have hbr := brsZ_b (L := L) (x := bil) hCz
  refine g_aload_n (pc := 96) hX 4 rfl dX4_price_96 ?_
  refine g_iload_n (pc := 97) hX 5 rfl dX4_price_97 ?_
  refine g_bipush (pc := 98) hX (by decide) dX4_price_98 ?_
  refine g_aload_n (pc := 100) hX 3 rfl dX4_price_100 ?_
  refine g_get (pc := 101) hX (ci := 4) (fun _ h => List.mem_cons_of_mem _ (List.mem_append_left _ (List.mem_append_left _ (List.mem_append_left _ (List.mem_append_left _ (List.mem_append_right _ h)))))) rfl b (by omega) (up_ne (by omega) (up_ne (by omega) (up_ne (by omega) (up_ne (by omega) (up_ne (by omega) e0))))) 1 (by decide) (List.mem_of_getElem? (i := 7) rfl) rfl (v := .ref (gw_ad w (b + 3))) rfl dX4_price_101 ?_
  refine g_aload_n (pc := 104) hX 4 rfl dX4_price_104 ?_
  refine g_iload_n (pc := 105) hX 5 rfl dX4_price_105 ?_
  refine g_callV1 (pc := 106) (ci := 0) (As := [.ref (gw_ad w t), vI (row)]) (st2 := [vI (7), vI (row), .ref (gw_ad w t)]) hX (b + 3) (by omega) (up_ne (by omega) (up_ne (by omega) (up_ne (by omega) (up_ne (by omega) (up_ne (by omega) e3))))) rfl (c_X0_base (z := (P row 4)) (x := bil) (row := row) (by omega) (by omega) (by omega) (by omega) (by omega) (up_ne (by omega) (up_ne (by omega) (up_ne (by omega) (up_ne (by omega) (up_ne (by omega) e3))))) (up_ne (by omega) (up_ne (by omega) (up_ne (by omega) (up_ne (by omega) (up_ne (by omega) e4))))) (up_ne (by omega) (up_ne (by omega) (up_ne (by omega) (up_ne (by omega) (up_ne (by omega) e5))))) (up_ne (by omega) (up_ne (by omega) (up_ne (by omega) (up_ne (by omega) (up_ne (by omega) e6))))) (up_ne (by omega) (up_ne (by omega) (up_ne (by omega) (up_ne (by omega) (up_ne (by omega) e7))))) ht ht1 (up_ne ntt (up_ne ntt (up_ne ntt (up_ne ntt (up_ne ntt et))))) (up_eq _ _ _) hn hn2 hrm hr0 hr1 hB.1 p54 p56 (by omega) (by omega) (by first | assumption | exact inI_mk (by omega) (by omega)) (by omega) hB.2.1 hC1 hl1 (by omega) (by omega) ntt (by omega) (by omega) (by omega) (by omega) (by omega)) gX4_price_X0_base (n := 2) (hw := rfl) (hrc := rfl) (hrs := rfl) (hd := by decide +kernel) (hR := ⟨Nat.le_of_ble_eq_true rfl, Nat.le_of_ble_eq_true rfl⟩) (hn := rfl) (hst := rfl) (hsum := Nat.le_of_ble_eq_true rfl) (hdg := dX4_price_106) ?_
  rintro _ _ ⟨rfl, rfl⟩
  refine g_at (pc2 := 109) rfl rfl (st2 := [vI (baseZ C E L Q (P row 4) bil), vI (7), vI (row), .ref (gw_ad w t)]) rfl (S2 := (va_up (va_up (va_up (va_up (va_up (va_up S t1 (AI w n (fl 22 (upd2 P row 5 dim)))) t1 (AI w n (fl 22 P2))) t1 (AI w n (fl 22 P3))) t1 (AI w n (fl 22 P4))) t1 (AI w n (fl 22 P5))) t1 (AI w n (fl 22 (rsn P5 row (brsZ C L (P row 4) bil)))))) rfl ?_
  obtain ⟨P6, eP6⟩ : ∃ f : Int → Int → Int, f = (rsn P5 row (brsZ C L (P row 4) bil)) := ⟨_, rfl⟩
  refine g_at rfl rfl rfl (S2 := (va_up (va_up (va_up (va_up (va_up (va_up S t1 (AI w n (fl 22 (upd2 P row 5 dim)))) t1 (AI w n (fl 22 P2))) t1 (AI w n (fl 22 P3))) t1 (AI w n (fl 22 P4))) t1 (AI w n (fl 22 P5))) t1 (AI w n (fl 22 P6)))) (by rw [eP6]) ?_
  have p611 : P6 row 11 = 2 := by rw [eP6, rsn_11, p511]; rfl
  have i6 : ∀ i j, inI (P6 i j) := by rw [eP6]; exact rsn_in i5 (inI_mk (by omega) (by omega)) (by omega)
  refine g_callV0 (pc := 109) (ci := 5) (As := [vI (row), vI (7), vI (baseZ C E L Q (P row 4) bil)]) (st2 := []) hX t ht (up_ne ntt (up_ne ntt (up_ne ntt (up_ne ntt (up_ne ntt (up_ne ntt et)))))) rfl (c_X5_put (row := row) (col := 7) (x := baseZ C E L Q (P row 4) bil) ht ht1 (up_ne ntt (up_ne ntt (up_ne ntt (up_ne ntt (up_ne ntt (up_ne ntt et)))))) (up_eq _ _ _) hn hn2 hrm (by first | assumption | exact inI_mk (by omega) (by omega)) (by first | assumption | exact inI_mk (by omega) (by omega)) (by first | assumption | exact inI_mk (by omega) (by omega))) gX4_price_X5_put (n := 3) (hw := rfl) (hrc := rfl) (hrs := rfl) (hd := by decide +kernel) (hR := ⟨Nat.le_of_ble_eq_true rfl, Nat.le_of_ble_eq_true rfl⟩) (hn := rfl) (hst := rfl) (hsum := Nat.le_of_ble_eq_true rfl) (hdg := dX4_price_109) ?_
  rintro _ rfl
  rw [tput_in (by omega) (by omega) (by omega) (by omega)]
  refine g_at (pc2 := 112) rfl rfl (st2 := []) rfl (S2 := (va_up (va_up (va_up (va_up (va_up (va_up (va_up S t1 (AI w n (fl 22 (upd2 P row 5 dim)))) t1 (AI w n (fl 22 P2))) t1 (AI w n (fl 22 P3))) t1 (AI w n (fl 22 P4))) t1 (AI w n (fl 22 P5))) t1 (AI w n (fl 22 P6))) t1 (AI w n (fl 22 (upd2 P6 row 7 (baseZ C E L Q (P row 4) bil)))))) rfl ?_
  obtain ⟨P7, eP7⟩ : ∃ f : Int → Int → Int, f = (upd2 P6 row 7 (baseZ C E L Q (P row 4) bil)) := ⟨_, rfl⟩
  refine g_at rfl rfl rfl (S2 := (va_up (va_up (va_up (va_up (va_up (va_up (va_up S t1 (AI w n (fl 22 (upd2 P row 5 dim)))) t1 (AI w n (fl 22 P2))) t1 (AI w n (fl 22 P3))) t1 (AI w n (fl 22 P4))) t1 (AI w n (fl 22 P5))) t1 (AI w n (fl 22 P6))) t1 (AI w n (fl 22 P7)))) (by rw [eP7]) ?_
  have p711 : P7 row 11 = 2 := by rw [eP7, upd2_ne (Or.inr (by decide)), p611]
  have p77 : P7 row 7 = baseZ C E L Q (P row 4) bil := by rw [eP7, upd2_eq]
  have i7 : ∀ i j, inI (P7 i j) := by rw [eP7]; exact inI_upd2 i6 (inI_mk (by omega) (by omega))
  refine g_aload_n (pc := 112) hX 4 rfl dX4_price_112 ?_
  refine g_iload_n (pc := 113) hX 5 rfl dX4_price_113 ?_
  refine g_bipush (pc := 114) hX (by decide) dX4_price_114 ?_
  refine g_aload_n (pc := 116) hX 3 rfl dX4_price_116 ?_
  refine g_get (pc := 117) hX (ci := 4) (fun _ h => List.mem_cons_of_mem _ (List.mem_append_left _ (List.mem_append_left _ (List.mem_append_left _ (List.mem_append_left _ (List.mem_append_right _ h)))))) rfl b (by omega) (up_ne (by omega) (up_ne (by omega) (up_ne (by omega) (up_ne (by omega) (up_ne (by omega) (up_ne (by omega) (up_ne (by omega) e0))))))) 2 (by decide) (List.mem_of_getElem? (i := 8) rfl) rfl (v := .ref (gw_ad w (b + 8))) rfl dX4_price_117 ?_
  refine g_aload_n (pc := 120) hX 4 rfl dX4_price_120 ?_
  refine g_iload_n (pc := 121) hX 5 rfl dX4_price_121 ?_
  refine g_callV1 (pc := 122) (ci := 2) (As := [.ref (gw_ad w t), vI (row)]) (st2 := [vI (8), vI (row), .ref (gw_ad w t)]) hX (b + 8) (by omega) (up_ne (by omega) (up_ne (by omega) (up_ne (by omega) (up_ne (by omega) (up_ne (by omega) (up_ne (by omega) (up_ne (by omega) e8))))))) rfl (c_X2_charge (row := row) (by omega) (by omega) (by omega) (up_ne (by omega) (up_ne (by omega) (up_ne (by omega) (up_ne (by omega) (up_ne (by omega) (up_ne (by omega) (up_ne (by omega) e8))))))) (up_ne (by omega) (up_ne (by omega) (up_ne (by omega) (up_ne (by omega) (up_ne (by omega) (up_ne (by omega) (up_ne (by omega) e9))))))) (up_ne (by omega) (up_ne (by omega) (up_ne (by omega) (up_ne (by omega) (up_ne (by omega) (up_ne (by omega) (up_ne (by omega) e10))))))) ht ht1 (up_ne ntt (up_ne ntt (up_ne ntt (up_ne ntt (up_ne ntt (up_ne ntt (up_ne ntt et))))))) (up_eq _ _ _) hn hn2 hrm hr0 hr1 i7 hRR hU (by omega) (by omega) (by rw [p77]; omega) ntt (by omega) (by omega) (by omega)) gX4_price_X2_charge (n := 2) (hw := rfl) (hrc := rfl) (hrs := rfl) (hd := by decide +kernel) (hR := ⟨Nat.le_of_ble_eq_true rfl, Nat.le_of_ble_eq_true rfl⟩) (hn := rfl) (hst := rfl) (hsum := Nat.le_of_ble_eq_true rfl) (hdg := dX4_price_122) ?_
  rintro _ _ ⟨rfl, rfl⟩
  refine g_at (pc2 := 125) rfl rfl (st2 := [vI (chV (factZ (P7 row)) R (P7 row 7) (nR).toNat), vI (8), vI (row), .ref (gw_ad w t)]) rfl (S2 := (va_up (va_up (va_up (va_up (va_up (va_up (va_up (va_up S t1 (AI w n (fl 22 (upd2 P row 5 dim)))) t1 (AI w n (fl 22 P2))) t1 (AI w n (fl 22 P3))) t1 (AI w n (fl 22 P4))) t1 (AI w n (fl 22 P5))) t1 (AI w n (fl 22 P6))) t1 (AI w n (fl 22 P7))) t1 (AI w n (fl 22 (chP (factZ (P7 row)) R P7 row (nR).toNat))))) rfl ?_
  refine g_callV0 (pc := 125) (ci := 5) (As := [vI (row), vI (8), vI (chV (factZ (P7 row)) R (P7 row 7) (nR).toNat)]) (st2 := []) hX t ht (up_ne ntt (up_ne ntt (up_ne ntt (up_ne ntt (up_ne ntt (up_ne ntt (up_ne ntt (up_ne ntt et)))))))) rfl (c_X5_put (row := row) (col := 8) (x := chV (factZ (P7 row)) R (P7 row 7) (nR).toNat) ht ht1 (up_ne ntt (up_ne ntt (up_ne ntt (up_ne ntt (up_ne ntt (up_ne ntt (up_ne ntt (up_ne ntt et)))))))) (up_eq _ _ _) hn hn2 hrm (by first | assumption | exact inI_mk (by omega) (by omega)) (by first | assumption | exact inI_mk (by omega) (by omega)) (by first | assumption | exact inI_mk (by omega) (by omega))) gX4_price_X5_put (n := 3) (hw := rfl) (hrc := rfl) (hrs := rfl) (hd := by decide +kernel) (hR := ⟨Nat.le_of_ble_eq_true rfl, Nat.le_of_ble_eq_true rfl⟩) (hn := rfl) (hst := rfl) (hsum := Nat.le_of_ble_eq_true rfl) (hdg := dX4_price_125) ?_
  rintro _ rfl
  rw [tput_in (by omega) (by omega) (by omega) (by omega)]
  refine g_at (pc2 := 128) rfl rfl (st2 := []) rfl (S2 := (va_up (va_up (va_up (va_up (va_up (va_up (va_up (va_up (va_up S t1 (AI w n (fl 22 (upd2 P row 5 dim)))) t1 (AI w n (fl 22 P2))) t1 (AI w n (fl 22 P3))) t1 (AI w n (fl 22 P4))) t1 (AI w n (fl 22 P5))) t1 (AI w n (fl 22 P6))) t1 (AI w n (fl 22 P7))) t1 (AI w n (fl 22 (chP (factZ (P7 row)) R P7 row (nR).toNat)))) t1 (AI w n (fl 22 (upd2 (chP (factZ (P7 row)) R P7 row (nR).toNat) row 8 (chV (factZ (P7 row)) R (P7 row 7) (nR).toNat)))))) rfl ?_
  refine g_vret (pc := 128) hX hR dX4_price_128 ?_
  subst eP7
  subst eP6
  subst eP5
  subst eP4
  subst eP3
  subst eP2
  subst ebil
  subst eq1
  subst em1
  subst edim
  rw [up_up, up_up, up_up, up_up, up_up, up_up, up_up, up_up]
  rfl
