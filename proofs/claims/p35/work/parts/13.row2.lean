set_option maxHeartbeats 4000000 in
set_option maxRecDepth 100000 in
theorem c_X4_measure {w : gW} {l : Launch} {S : Nat → va_E} {k k1 n : Nat} {rm cn : Int} {P : Int → Int → Int} (hk : k < gw_N w) (hk1 : k1 < gw_N w) (ek : S k = OT w rm 22 k1 cn) (ek1 : S k1 = AT w n 22 P) (hn : rm * 22 ≤ n) (hn2 : n ≤ 2147483647) (hrm : inI rm) {row : Int} (hr0 : 0 ≤ row) (hr1 : row < rm) (nkk : k ≠ k1) (s1 : 1 ≤ P row 1 ∧ P row 1 ≤ 2000) (s2 : 1 ≤ P row 2 ∧ P row 2 ≤ 2000) (s3 : 1 ≤ P row 3 ∧ P row 3 ≤ 2000) :
    GM0 w l yX4_measure wsX4_measure { frames := 1, cells := 0, slots := 0, locals := 23 } [.ref (gw_ad w k), vI (row)] S
      (fun S' => S' = va_up S k1 (AT w n 22 (msr P row))) := by
  refine GM.start (own := RX4) (n := "measure") (d := "(LParcelDesk$Table;I)V") (by decide) rfl (Nat.le_of_ble_eq_true rfl) ?_
  intro X hX hR hXl
  subst hXl
  refine g_at rfl (lv2 := [(0, .ref (gw_ad w k)), (1, vI (row))]) rfl rfl rfl ?_
  have hrow : inI row := by have := hrm.2; exact inI_mk (by omega) (by omega)
  refine g_aload_n (pc := 0) hX 0 rfl dX4_measure_0 ?_
  refine g_iload_n (pc := 1) hX 1 rfl dX4_measure_1 ?_
  refine g_iconst (pc := 2) hX dX4_measure_2 ?_
  refine g_callV1 (pc := 3) (ci := 5) (As := [vI (row), vI (1)]) (st2 := []) hX k hk ek rfl (c_X5_cell (row := row) (col := 1) hk hk1 ek ek1 (by omega) (by omega) (by first | assumption | exact inI_mk (by omega) (by omega)) (by first | assumption | exact inI_mk (by omega) (by omega)) (by first | assumption | exact inI_mk (by omega) (by omega)) (by first | assumption | exact inI_mk (by omega) (by omega))) gX4_measure_X5_cell (n := 2) (hw := rfl) (hrc := rfl) (hrs := rfl) (hd := by decide +kernel) (hR := ⟨Nat.le_of_ble_eq_true rfl, Nat.le_of_ble_eq_true rfl⟩) (hn := rfl) (hst := rfl) (hsum := Nat.le_of_ble_eq_true rfl) (hdg := dX4_measure_3) ?_
  rintro _ S9 ⟨rfl, e9⟩
  rw [e9]
  clear e9 S9
  rw [tcell_in (by omega) (by omega) (by omega) (by omega)]
  refine g_at (pc2 := 6) rfl rfl (st2 := [vI (P row 1)]) rfl (S2 := S) rfl ?_
  refine g_istore_n (pc := 6) hX (lv2 := [(2, vI (P row 1)), (0, .ref (gw_ad w k)), (1, vI (row))]) rfl (by decide) rfl dX4_measure_6 ?_
  refine g_aload_n (pc := 7) hX 1 rfl dX4_measure_7 ?_
  refine g_iload_n (pc := 8) hX 2 rfl dX4_measure_8 ?_
  refine g_iconst (pc := 9) hX dX4_measure_9 ?_
  refine g_callV1 (pc := 10) (ci := 5) (As := [vI (row), vI (2)]) (st2 := []) hX k hk ek rfl (c_X5_cell (row := row) (col := 2) hk hk1 ek ek1 (by omega) (by omega) (by first | assumption | exact inI_mk (by omega) (by omega)) (by first | assumption | exact inI_mk (by omega) (by omega)) (by first | assumption | exact inI_mk (by omega) (by omega)) (by first | assumption | exact inI_mk (by omega) (by omega))) gX4_measure_X5_cell (n := 2) (hw := rfl) (hrc := rfl) (hrs := rfl) (hd := by decide +kernel) (hR := ⟨Nat.le_of_ble_eq_true rfl, Nat.le_of_ble_eq_true rfl⟩) (hn := rfl) (hst := rfl) (hsum := Nat.le_of_ble_eq_true rfl) (hdg := dX4_measure_10) ?_
  rintro _ S9 ⟨rfl, e9⟩
  rw [e9]
  clear e9 S9
  rw [tcell_in (by omega) (by omega) (by omega) (by omega)]
  refine g_at (pc2 := 13) rfl rfl (st2 := [vI (P row 2)]) rfl (S2 := S) rfl ?_
  refine g_istore_n (pc := 13) hX (lv2 := [(3, vI (P row 2)), (2, vI (P row 1)), (0, .ref (gw_ad w k)), (1, vI (row))]) rfl (by decide) rfl dX4_measure_13 ?_
  refine g_aload_n (pc := 14) hX 2 rfl dX4_measure_14 ?_
  refine g_iload_n (pc := 15) hX 3 rfl dX4_measure_15 ?_
  refine g_iconst (pc := 16) hX dX4_measure_16 ?_
  refine g_callV1 (pc := 17) (ci := 5) (As := [vI (row), vI (3)]) (st2 := []) hX k hk ek rfl (c_X5_cell (row := row) (col := 3) hk hk1 ek ek1 (by omega) (by omega) (by first | assumption | exact inI_mk (by omega) (by omega)) (by first | assumption | exact inI_mk (by omega) (by omega)) (by first | assumption | exact inI_mk (by omega) (by omega)) (by first | assumption | exact inI_mk (by omega) (by omega))) gX4_measure_X5_cell (n := 2) (hw := rfl) (hrc := rfl) (hrs := rfl) (hd := by decide +kernel) (hR := ⟨Nat.le_of_ble_eq_true rfl, Nat.le_of_ble_eq_true rfl⟩) (hn := rfl) (hst := rfl) (hsum := Nat.le_of_ble_eq_true rfl) (hdg := dX4_measure_17) ?_
  rintro _ S9 ⟨rfl, e9⟩
  rw [e9]
  clear e9 S9
  rw [tcell_in (by omega) (by omega) (by omega) (by omega)]
  refine g_at (pc2 := 20) rfl rfl (st2 := [vI (P row 3)]) rfl (S2 := S) rfl ?_
  refine g_istore (pc := 20) hX (lv2 := [(4, vI (P row 3)), (3, vI (P row 2)), (2, vI (P row 1)), (0, .ref (gw_ad w k)), (1, vI (row))]) (by decide) rfl dX4_measure_20 ?_
  refine g_iload_n (pc := 22) hX 2 rfl dX4_measure_22 ?_
  refine g_iload_n (pc := 23) hX 1 rfl dX4_measure_23 ?_
  refine g_iload (pc := 24) hX 0 rfl dX4_measure_24 ?_
  refine g_mmax (pc := 26) hX (by first | assumption | exact inI_mk (by omega) (by omega)) (by first | assumption | exact inI_mk (by omega) (by omega)) (List.mem_of_getElem? (i := 1) rfl) (List.mem_of_getElem? (i := 2) rfl) (List.mem_of_getElem? (i := 3) rfl) (List.mem_of_getElem? (i := 4) rfl) (Nat.le_of_ble_eq_true rfl) (Nat.le_of_ble_eq_true rfl) dX4_measure_26 ?_
  obtain ⟨l1, el1⟩ : ∃ z : Int, z = (if P row 2 < P row 3 then P row 3 else P row 2) := ⟨_, rfl⟩
  refine g_at rfl rfl (st2 := [vI (l1), vI (P row 1)]) (by rw [el1]) rfl ?_
  have hl1 : 1 ≤ l1 ∧ l1 ≤ 2000 := by rw [el1]; constructor <;> (split <;> omega)
  refine g_mmax (pc := 29) hX (by first | assumption | exact inI_mk (by omega) (by omega)) (by first | assumption | exact inI_mk (by omega) (by omega)) (List.mem_of_getElem? (i := 1) rfl) (List.mem_of_getElem? (i := 2) rfl) (List.mem_of_getElem? (i := 3) rfl) (List.mem_of_getElem? (i := 4) rfl) (Nat.le_of_ble_eq_true rfl) (Nat.le_of_ble_eq_true rfl) dX4_measure_29 ?_
  obtain ⟨l2, el2⟩ : ∃ z : Int, z = (if P row 1 < l1 then l1 else P row 1) := ⟨_, rfl⟩
  refine g_at rfl rfl (st2 := [vI (l2)]) (by rw [el2]) rfl ?_
  have hl2 : 1 ≤ l2 ∧ l2 ≤ 2000 := by rw [el2]; constructor <;> (split <;> omega)
  refine g_istore (pc := 32) hX (lv2 := [(5, vI (l2)), (4, vI (P row 3)), (3, vI (P row 2)), (2, vI (P row 1)), (0, .ref (gw_ad w k)), (1, vI (row))]) (by decide) rfl dX4_measure_32 ?_
  refine g_aload_n (pc := 34) hX 4 rfl dX4_measure_34 ?_
  refine g_iload_n (pc := 35) hX 5 rfl dX4_measure_35 ?_
  refine g_bipush (pc := 36) hX (by decide) dX4_measure_36 ?_
  refine g_iload (pc := 38) hX 0 rfl dX4_measure_38 ?_
  refine g_callV0 (pc := 40) (ci := 5) (As := [vI (row), vI (10), vI (l2)]) (st2 := []) hX k hk ek rfl (c_X5_put (row := row) (col := 10) (x := l2) hk hk1 ek ek1 (by omega) (by omega) (by first | assumption | exact inI_mk (by omega) (by omega)) (by first | assumption | exact inI_mk (by omega) (by omega)) (by first | assumption | exact inI_mk (by omega) (by omega)) (by first | assumption | exact inI_mk (by omega) (by omega))) gX4_measure_X5_put (n := 3) (hw := rfl) (hrc := rfl) (hrs := rfl) (hd := by decide +kernel) (hR := ⟨Nat.le_of_ble_eq_true rfl, Nat.le_of_ble_eq_true rfl⟩) (hn := rfl) (hst := rfl) (hsum := Nat.le_of_ble_eq_true rfl) (hdg := dX4_measure_40) ?_
  rintro _ rfl
  rw [tput_in (by omega) (by omega) (by omega) (by omega)]
  refine g_at (pc2 := 43) rfl rfl (st2 := []) rfl (S2 := (va_up S k1 (AI w n (fl 22 (upd2 P row 10 l2))))) rfl ?_
  refine g_aload_n (pc := 43) hX 4 rfl dX4_measure_43 ?_
  refine g_iload_n (pc := 44) hX 5 rfl dX4_measure_44 ?_
  refine g_bipush (pc := 45) hX (by decide) dX4_measure_45 ?_
  refine g_iload (pc := 47) hX 0 rfl dX4_measure_47 ?_
  refine g_iconst (pc := 49) hX dX4_measure_49 ?_
  refine g_iload_n (pc := 50) hX 3 rfl dX4_measure_50 ?_
  refine g_iload_n (pc := 51) hX 2 rfl dX4_measure_51 ?_
  refine g_iadd (pc := 52) hX dX4_measure_52 ?_
  refine g_iload (pc := 53) hX 1 rfl dX4_measure_53 ?_
  refine g_iadd (pc := 55) hX dX4_measure_55 ?_
  refine g_iload (pc := 56) hX 0 rfl dX4_measure_56 ?_
  refine g_isub (pc := 58) hX dX4_measure_58 ?_
  refine g_imul (pc := 59) hX dX4_measure_59 ?_
  refine g_iadd (pc := 60) hX dX4_measure_60 ?_
  refine g_callV0 (pc := 61) (ci := 5) (As := [vI (row), vI (9), vI (l2 + (2 * ((((P row 1) + (P row 2)) + (P row 3)) - l2)))]) (st2 := []) hX k hk (up_ne nkk ek) rfl (c_X5_put (row := row) (col := 9) (x := l2 + (2 * ((((P row 1) + (P row 2)) + (P row 3)) - l2))) hk hk1 (up_ne nkk ek) (up_eq _ _ _) (by omega) (by omega) (by first | assumption | exact inI_mk (by omega) (by omega)) (by first | assumption | exact inI_mk (by omega) (by omega)) (by first | assumption | exact inI_mk (by omega) (by omega)) (by first | assumption | exact inI_mk (by omega) (by omega))) gX4_measure_X5_put (n := 3) (hw := rfl) (hrc := rfl) (hrs := rfl) (hd := by decide +kernel) (hR := ⟨Nat.le_of_ble_eq_true rfl, Nat.le_of_ble_eq_true rfl⟩) (hn := rfl) (hst := rfl) (hsum := Nat.le_of_ble_eq_true rfl) (hdg := dX4_measure_61) ?_
  rintro _ rfl
  rw [tput_in (by omega) (by omega) (by omega) (by omega)]
  refine g_at (pc2 := 64) rfl rfl (st2 := []) rfl (S2 := (va_up (va_up S k1 (AI w n (fl 22 (upd2 P row 10 l2)))) k1 (AI w n (fl 22 (upd2 (upd2 P row 10 l2) row 9 (l2 + (2 * ((((P row 1) + (P row 2)) + (P row 3)) - l2)))))))) rfl ?_
  refine g_vret (pc := 64) hX hR dX4_measure_64 ?_
  rw [up_up, el2, el1]
  rfl

set_option maxHeartbeats 4000000 in
set_option maxRecDepth 100000 in
theorem c_X4_weightReason {w : gW} {l : Launch} {S : Nat → va_E} {x y : Int} (hx : inI x) (hy : inI y) :
    GM1 w l yX4_weightReason wsX4_weightReason { frames := 0, cells := 0, slots := 0, locals := 0 } [vI (x), vI (y)] S
      (fun v S' => v = vI (wrZ x y) ∧ S' = S) := by
  refine GM.start (own := RX4) (n := "weightReason") (d := "(II)I") (by decide) rfl (Nat.le_of_ble_eq_true rfl) ?_
  intro X hX hR hXl
  subst hXl
  refine g_at rfl (lv2 := [(0, vI (x)), (1, vI (y))]) rfl rfl rfl ?_
  refine g_iload_n (pc := 0) hX 0 rfl dX4_weightReason_0 ?_
  refine g_iload_n (pc := 1) hX 1 rfl dX4_weightReason_1 ?_
  refine g_icmp_ne (pc := 2) (tgt := 7) hX (by first | assumption | exact inI_mk (by omega) (by omega)) (by first | assumption | exact inI_mk (by omega) (by omega)) dX4_weightReason_2 (by decide) (fun c_2 => ?_) (fun c_2 => ?_)
  · skip
    refine g_iload_n (pc := 7) hX 0 rfl dX4_weightReason_7 ?_
    refine g_iload_n (pc := 8) hX 1 rfl dX4_weightReason_8 ?_
    refine g_icmp_le (pc := 9) (tgt := 16) hX (by first | assumption | exact inI_mk (by omega) (by omega)) (by first | assumption | exact inI_mk (by omega) (by omega)) dX4_weightReason_9 (by decide) (fun c_9 => ?_) (fun c_9 => ?_)
    · skip
      refine g_iconst (pc := 16) hX dX4_weightReason_16 ?_
      refine g_iret (pc := 17) hX hR dX4_weightReason_17 ?_
      refine ⟨vI_c ?_, rfl⟩
      unfold wrZ
      first | (rw [if_pos (by omega)]; done) | (rw [if_neg (by omega), if_pos (by omega)]; done) | (rw [if_neg (by omega), if_neg (by omega)]; done)
    · skip
      refine g_iconst (pc := 12) hX dX4_weightReason_12 ?_
      refine g_goto (pc := 13) (tgt := 17) hX dX4_weightReason_13 (by decide) ?_
      refine g_iret (pc := 17) hX hR dX4_weightReason_17 ?_
      refine ⟨vI_c ?_, rfl⟩
      unfold wrZ
      first | (rw [if_pos (by omega)]; done) | (rw [if_neg (by omega), if_pos (by omega)]; done) | (rw [if_neg (by omega), if_neg (by omega)]; done)
  · skip
    refine g_iconst (pc := 5) hX dX4_weightReason_5 ?_
    refine g_iret (pc := 6) hX hR dX4_weightReason_6 ?_
    refine ⟨vI_c ?_, rfl⟩
    unfold wrZ
    first | (rw [if_pos (by omega)]; done) | (rw [if_neg (by omega), if_pos (by omega)]; done) | (rw [if_neg (by omega), if_neg (by omega)]; done)
set_option maxHeartbeats 4000000 in
set_option maxRecDepth 100000 in
theorem c_X3_copyFrom {w : gW} {l : Launch} {S : Nat → va_E} {k k1 : Nat} {F g : Int → Int} (hk : k < gw_N w) (hk1 : k1 < gw_N w) (ek : S k = OS w k1 g) (ek1 : S k1 = AI w 8 F) {q q1 : Nat} {F2 g2 : Int → Int} (hq : q < gw_N w) (hq1 : q1 < gw_N w) (eq : S q = OS w q1 g2) (eq1 : S q1 = AI w 8 F2) (n01 : k ≠ k1) (n20 : q ≠ k) (n21 : q ≠ k1) (n30 : q1 ≠ k) (n31 : q1 ≠ k1) :
    GM0 w l yX3_copyFrom wsX3_copyFrom { frames := 1, cells := 0, slots := 0, locals := 21 } [.ref (gw_ad w k), .ref (gw_ad w q)] S
      (fun S' => (∀ q : Nat, q ≠ k1 → q ≠ k → S' q = S q) ∧ S' k1 = AI w 8 (cp1 F2 F 8) ∧ S' k = OS w k1 g2) := by
  refine GM.start (own := RX3) (n := "copyFrom") (d := "(LParcelDesk$Scale;)V") (by decide) rfl (Nat.le_of_ble_eq_true rfl) ?_
  intro X hX hR hXl
  subst hXl
  refine g_at rfl (lv2 := [(0, .ref (gw_ad w k)), (1, .ref (gw_ad w q))]) rfl rfl rfl ?_
  refine g_iconst (pc := 0) hX dX3_copyFrom_0 ?_
  refine g_istore_n (pc := 1) hX (lv2 := [(2, vI (0)), (0, .ref (gw_ad w k)), (1, .ref (gw_ad w q))]) rfl (by decide) rfl dX3_copyFrom_1 ?_
  have loop : ∀ (n0 : Nat) (c : Int) (Sloop : Nat → va_E), 0 ≤ c → c ≤ 8 → 8 - c < n0 → (∀ q : Nat, q ≠ k1 → Sloop q = S q) → (Sloop k1 = AI w 8 (cp1 F2 F c)) → G w { frames := 1, cells := 0, slots := 0, locals := 21 } X 3 2 [(2, vI (c)), (0, .ref (gw_ad w k)), (1, .ref (gw_ad w q))] [] Sloop := by
    intro n0
    induction n0 with
    | zero => intro c Sloop h1c h2c h3c; exact absurd h3c (by omega)
    | succ n0 ihloop =>
      intro c Sloop h1c h2c h3c  hfloop eloop_k1
      have hc : inI c := inI_mk (by omega) (by omega)
      refine g_iload_n (pc := 2) hX 0 rfl dX3_copyFrom_2 ?_
      refine g_aload_n (pc := 3) hX 1 rfl dX3_copyFrom_3 ?_
      refine g_get (pc := 4) hX (ci := 3) (fun _ h => List.mem_cons_of_mem _ (List.mem_append_right _ h)) rfl k hk ((hfloop k n01).trans ek) 0 (by decide) (List.mem_of_getElem? (i := 1) rfl) rfl (v := .ref (gw_ad w k1)) rfl dX3_copyFrom_4 ?_
      refine g_alenAI (pc := 7) hX k1 hk1 eloop_k1 dX3_copyFrom_7 ?_
      refine g_icmp_ge (pc := 8) (tgt := 28) hX (by first | assumption | exact inI_mk (by omega) (by omega)) (by first | assumption | exact inI_mk (by omega) (by omega)) dX3_copyFrom_8 (by decide) (fun c_8 => ?_) (fun c_8 => ?_)
      · skip
        refine g_aload_n (pc := 28) hX 1 rfl dX3_copyFrom_28 ?_
        refine g_aload_n (pc := 29) hX 2 rfl dX3_copyFrom_29 ?_
        refine g_get (pc := 30) hX (ci := 3) (fun _ h => List.mem_cons_of_mem _ (List.mem_append_right _ h)) rfl q hq ((hfloop q n21).trans eq) 1 (by decide) (List.mem_of_getElem? (i := 2) rfl) rfl (v := vI (g2 0)) rfl dX3_copyFrom_30 ?_
        refine g_put (pc := 33) hX (ci := 3) (fun _ h => List.mem_cons_of_mem _ (List.mem_append_right _ h)) rfl tyX3 tyX3_ok nmX3 k hk ((hfloop k n01).trans ek) 1 (by decide) (List.mem_of_getElem? (i := 2) rfl) rfl rfl (tyX3_ok 1 (by decide)) rfl (fit_int _) (Nat.le_of_ble_eq_true rfl) dX3_copyFrom_33 ?_
        refine g_at rfl rfl rfl (S2 := (va_up Sloop k (.inr (3, [.ref (gw_ad w k1), vI (g2 0), vI (g 1), vI (g 2), vI (g 3), vI (g 4), vI (g 5), vI (g 6), vI (g 7), vI (g 8), vI (g 9)])))) rfl ?_
        refine g_aload_n (pc := 36) hX 1 rfl dX3_copyFrom_36 ?_
        refine g_aload_n (pc := 37) hX 2 rfl dX3_copyFrom_37 ?_
        refine g_get (pc := 38) hX (ci := 3) (fun _ h => List.mem_cons_of_mem _ (List.mem_append_right _ h)) rfl q hq (up_ne n20 ((hfloop q n21).trans eq)) 2 (by decide) (List.mem_of_getElem? (i := 3) rfl) rfl (v := vI (g2 1)) rfl dX3_copyFrom_38 ?_
        refine g_put (pc := 41) hX (ci := 3) (fun _ h => List.mem_cons_of_mem _ (List.mem_append_right _ h)) rfl tyX3 tyX3_ok nmX3 k hk (up_eq _ _ _) 2 (by decide) (List.mem_of_getElem? (i := 3) rfl) rfl rfl (tyX3_ok 2 (by decide)) rfl (fit_int _) (Nat.le_of_ble_eq_true rfl) dX3_copyFrom_41 ?_
        refine g_at rfl rfl rfl (S2 := (va_up (va_up Sloop k (.inr (3, [.ref (gw_ad w k1), vI (g2 0), vI (g 1), vI (g 2), vI (g 3), vI (g 4), vI (g 5), vI (g 6), vI (g 7), vI (g 8), vI (g 9)]))) k (.inr (3, [.ref (gw_ad w k1), vI (g2 0), vI (g2 1), vI (g 2), vI (g 3), vI (g 4), vI (g 5), vI (g 6), vI (g 7), vI (g 8), vI (g 9)])))) rfl ?_
        refine g_aload_n (pc := 44) hX 1 rfl dX3_copyFrom_44 ?_
        refine g_aload_n (pc := 45) hX 2 rfl dX3_copyFrom_45 ?_
        refine g_get (pc := 46) hX (ci := 3) (fun _ h => List.mem_cons_of_mem _ (List.mem_append_right _ h)) rfl q hq (up_ne n20 (up_ne n20 ((hfloop q n21).trans eq))) 3 (by decide) (List.mem_of_getElem? (i := 4) rfl) rfl (v := vI (g2 2)) rfl dX3_copyFrom_46 ?_
        refine g_put (pc := 49) hX (ci := 3) (fun _ h => List.mem_cons_of_mem _ (List.mem_append_right _ h)) rfl tyX3 tyX3_ok nmX3 k hk (up_eq _ _ _) 3 (by decide) (List.mem_of_getElem? (i := 4) rfl) rfl rfl (tyX3_ok 3 (by decide)) rfl (fit_int _) (Nat.le_of_ble_eq_true rfl) dX3_copyFrom_49 ?_
        refine g_at rfl rfl rfl (S2 := (va_up (va_up (va_up Sloop k (.inr (3, [.ref (gw_ad w k1), vI (g2 0), vI (g 1), vI (g 2), vI (g 3), vI (g 4), vI (g 5), vI (g 6), vI (g 7), vI (g 8), vI (g 9)]))) k (.inr (3, [.ref (gw_ad w k1), vI (g2 0), vI (g2 1), vI (g 2), vI (g 3), vI (g 4), vI (g 5), vI (g 6), vI (g 7), vI (g 8), vI (g 9)]))) k (.inr (3, [.ref (gw_ad w k1), vI (g2 0), vI (g2 1), vI (g2 2), vI (g 3), vI (g 4), vI (g 5), vI (g 6), vI (g 7), vI (g 8), vI (g 9)])))) rfl ?_
        refine g_aload_n (pc := 52) hX 1 rfl dX3_copyFrom_52 ?_
        refine g_aload_n (pc := 53) hX 2 rfl dX3_copyFrom_53 ?_
        refine g_get (pc := 54) hX (ci := 3) (fun _ h => List.mem_cons_of_mem _ (List.mem_append_right _ h)) rfl q hq (up_ne n20 (up_ne n20 (up_ne n20 ((hfloop q n21).trans eq)))) 4 (by decide) (List.mem_of_getElem? (i := 5) rfl) rfl (v := vI (g2 3)) rfl dX3_copyFrom_54 ?_
        refine g_put (pc := 57) hX (ci := 3) (fun _ h => List.mem_cons_of_mem _ (List.mem_append_right _ h)) rfl tyX3 tyX3_ok nmX3 k hk (up_eq _ _ _) 4 (by decide) (List.mem_of_getElem? (i := 5) rfl) rfl rfl (tyX3_ok 4 (by decide)) rfl (fit_int _) (Nat.le_of_ble_eq_true rfl) dX3_copyFrom_57 ?_
        refine g_at rfl rfl rfl (S2 := (va_up (va_up (va_up (va_up Sloop k (.inr (3, [.ref (gw_ad w k1), vI (g2 0), vI (g 1), vI (g 2), vI (g 3), vI (g 4), vI (g 5), vI (g 6), vI (g 7), vI (g 8), vI (g 9)]))) k (.inr (3, [.ref (gw_ad w k1), vI (g2 0), vI (g2 1), vI (g 2), vI (g 3), vI (g 4), vI (g 5), vI (g 6), vI (g 7), vI (g 8), vI (g 9)]))) k (.inr (3, [.ref (gw_ad w k1), vI (g2 0), vI (g2 1), vI (g2 2), vI (g 3), vI (g 4), vI (g 5), vI (g 6), vI (g 7), vI (g 8), vI (g 9)]))) k (.inr (3, [.ref (gw_ad w k1), vI (g2 0), vI (g2 1), vI (g2 2), vI (g2 3), vI (g 4), vI (g 5), vI (g 6), vI (g 7), vI (g 8), vI (g 9)])))) rfl ?_
        refine g_aload_n (pc := 60) hX 1 rfl dX3_copyFrom_60 ?_
        refine g_aload_n (pc := 61) hX 2 rfl dX3_copyFrom_61 ?_
        refine g_get (pc := 62) hX (ci := 3) (fun _ h => List.mem_cons_of_mem _ (List.mem_append_right _ h)) rfl q hq (up_ne n20 (up_ne n20 (up_ne n20 (up_ne n20 ((hfloop q n21).trans eq))))) 5 (by decide) (List.mem_of_getElem? (i := 6) rfl) rfl (v := vI (g2 4)) rfl dX3_copyFrom_62 ?_
        refine g_put (pc := 65) hX (ci := 3) (fun _ h => List.mem_cons_of_mem _ (List.mem_append_right _ h)) rfl tyX3 tyX3_ok nmX3 k hk (up_eq _ _ _) 5 (by decide) (List.mem_of_getElem? (i := 6) rfl) rfl rfl (tyX3_ok 5 (by decide)) rfl (fit_int _) (Nat.le_of_ble_eq_true rfl) dX3_copyFrom_65 ?_
        refine g_at rfl rfl rfl (S2 := (va_up (va_up (va_up (va_up (va_up Sloop k (.inr (3, [.ref (gw_ad w k1), vI (g2 0), vI (g 1), vI (g 2), vI (g 3), vI (g 4), vI (g 5), vI (g 6), vI (g 7), vI (g 8), vI (g 9)]))) k (.inr (3, [.ref (gw_ad w k1), vI (g2 0), vI (g2 1), vI (g 2), vI (g 3), vI (g 4), vI (g 5), vI (g 6), vI (g 7), vI (g 8), vI (g 9)]))) k (.inr (3, [.ref (gw_ad w k1), vI (g2 0), vI (g2 1), vI (g2 2), vI (g 3), vI (g 4), vI (g 5), vI (g 6), vI (g 7), vI (g 8), vI (g 9)]))) k (.inr (3, [.ref (gw_ad w k1), vI (g2 0), vI (g2 1), vI (g2 2), vI (g2 3), vI (g 4), vI (g 5), vI (g 6), vI (g 7), vI (g 8), vI (g 9)]))) k (.inr (3, [.ref (gw_ad w k1), vI (g2 0), vI (g2 1), vI (g2 2), vI (g2 3), vI (g2 4), vI (g 5), vI (g 6), vI (g 7), vI (g 8), vI (g 9)])))) rfl ?_
        refine g_aload_n (pc := 68) hX 1 rfl dX3_copyFrom_68 ?_
        refine g_aload_n (pc := 69) hX 2 rfl dX3_copyFrom_69 ?_
        refine g_get (pc := 70) hX (ci := 3) (fun _ h => List.mem_cons_of_mem _ (List.mem_append_right _ h)) rfl q hq (up_ne n20 (up_ne n20 (up_ne n20 (up_ne n20 (up_ne n20 ((hfloop q n21).trans eq)))))) 6 (by decide) (List.mem_of_getElem? (i := 7) rfl) rfl (v := vI (g2 5)) rfl dX3_copyFrom_70 ?_
        refine g_put (pc := 73) hX (ci := 3) (fun _ h => List.mem_cons_of_mem _ (List.mem_append_right _ h)) rfl tyX3 tyX3_ok nmX3 k hk (up_eq _ _ _) 6 (by decide) (List.mem_of_getElem? (i := 7) rfl) rfl rfl (tyX3_ok 6 (by decide)) rfl (fit_int _) (Nat.le_of_ble_eq_true rfl) dX3_copyFrom_73 ?_
        refine g_at rfl rfl rfl (S2 := (va_up (va_up (va_up (va_up (va_up (va_up Sloop k (.inr (3, [.ref (gw_ad w k1), vI (g2 0), vI (g 1), vI (g 2), vI (g 3), vI (g 4), vI (g 5), vI (g 6), vI (g 7), vI (g 8), vI (g 9)]))) k (.inr (3, [.ref (gw_ad w k1), vI (g2 0), vI (g2 1), vI (g 2), vI (g 3), vI (g 4), vI (g 5), vI (g 6), vI (g 7), vI (g 8), vI (g 9)]))) k (.inr (3, [.ref (gw_ad w k1), vI (g2 0), vI (g2 1), vI (g2 2), vI (g 3), vI (g 4), vI (g 5), vI (g 6), vI (g 7), vI (g 8), vI (g 9)]))) k (.inr (3, [.ref (gw_ad w k1), vI (g2 0), vI (g2 1), vI (g2 2), vI (g2 3), vI (g 4), vI (g 5), vI (g 6), vI (g 7), vI (g 8), vI (g 9)]))) k (.inr (3, [.ref (gw_ad w k1), vI (g2 0), vI (g2 1), vI (g2 2), vI (g2 3), vI (g2 4), vI (g 5), vI (g 6), vI (g 7), vI (g 8), vI (g 9)]))) k (.inr (3, [.ref (gw_ad w k1), vI (g2 0), vI (g2 1), vI (g2 2), vI (g2 3), vI (g2 4), vI (g2 5), vI (g 6), vI (g 7), vI (g 8), vI (g 9)])))) rfl ?_
        refine g_aload_n (pc := 76) hX 1 rfl dX3_copyFrom_76 ?_
        refine g_aload_n (pc := 77) hX 2 rfl dX3_copyFrom_77 ?_
        refine g_get (pc := 78) hX (ci := 3) (fun _ h => List.mem_cons_of_mem _ (List.mem_append_right _ h)) rfl q hq (up_ne n20 (up_ne n20 (up_ne n20 (up_ne n20 (up_ne n20 (up_ne n20 ((hfloop q n21).trans eq))))))) 7 (by decide) (List.mem_of_getElem? (i := 8) rfl) rfl (v := vI (g2 6)) rfl dX3_copyFrom_78 ?_
        refine g_put (pc := 81) hX (ci := 3) (fun _ h => List.mem_cons_of_mem _ (List.mem_append_right _ h)) rfl tyX3 tyX3_ok nmX3 k hk (up_eq _ _ _) 7 (by decide) (List.mem_of_getElem? (i := 8) rfl) rfl rfl (tyX3_ok 7 (by decide)) rfl (fit_int _) (Nat.le_of_ble_eq_true rfl) dX3_copyFrom_81 ?_
        refine g_at rfl rfl rfl (S2 := (va_up (va_up (va_up (va_up (va_up (va_up (va_up Sloop k (.inr (3, [.ref (gw_ad w k1), vI (g2 0), vI (g 1), vI (g 2), vI (g 3), vI (g 4), vI (g 5), vI (g 6), vI (g 7), vI (g 8), vI (g 9)]))) k (.inr (3, [.ref (gw_ad w k1), vI (g2 0), vI (g2 1), vI (g 2), vI (g 3), vI (g 4), vI (g 5), vI (g 6), vI (g 7), vI (g 8), vI (g 9)]))) k (.inr (3, [.ref (gw_ad w k1), vI (g2 0), vI (g2 1), vI (g2 2), vI (g 3), vI (g 4), vI (g 5), vI (g 6), vI (g 7), vI (g 8), vI (g 9)]))) k (.inr (3, [.ref (gw_ad w k1), vI (g2 0), vI (g2 1), vI (g2 2), vI (g2 3), vI (g 4), vI (g 5), vI (g 6), vI (g 7), vI (g 8), vI (g 9)]))) k (.inr (3, [.ref (gw_ad w k1), vI (g2 0), vI (g2 1), vI (g2 2), vI (g2 3), vI (g2 4), vI (g 5), vI (g 6), vI (g 7), vI (g 8), vI (g 9)]))) k (.inr (3, [.ref (gw_ad w k1), vI (g2 0), vI (g2 1), vI (g2 2), vI (g2 3), vI (g2 4), vI (g2 5), vI (g 6), vI (g 7), vI (g 8), vI (g 9)]))) k (.inr (3, [.ref (gw_ad w k1), vI (g2 0), vI (g2 1), vI (g2 2), vI (g2 3), vI (g2 4), vI (g2 5), vI (g2 6), vI (g 7), vI (g 8), vI (g 9)])))) rfl ?_
        refine g_aload_n (pc := 84) hX 1 rfl dX3_copyFrom_84 ?_
        refine g_aload_n (pc := 85) hX 2 rfl dX3_copyFrom_85 ?_
        refine g_get (pc := 86) hX (ci := 3) (fun _ h => List.mem_cons_of_mem _ (List.mem_append_right _ h)) rfl q hq (up_ne n20 (up_ne n20 (up_ne n20 (up_ne n20 (up_ne n20 (up_ne n20 (up_ne n20 ((hfloop q n21).trans eq)))))))) 8 (by decide) (List.mem_of_getElem? (i := 9) rfl) rfl (v := vI (g2 7)) rfl dX3_copyFrom_86 ?_
        refine g_put (pc := 89) hX (ci := 3) (fun _ h => List.mem_cons_of_mem _ (List.mem_append_right _ h)) rfl tyX3 tyX3_ok nmX3 k hk (up_eq _ _ _) 8 (by decide) (List.mem_of_getElem? (i := 9) rfl) rfl rfl (tyX3_ok 8 (by decide)) rfl (fit_int _) (Nat.le_of_ble_eq_true rfl) dX3_copyFrom_89 ?_
        refine g_at rfl rfl rfl (S2 := (va_up (va_up (va_up (va_up (va_up (va_up (va_up (va_up Sloop k (.inr (3, [.ref (gw_ad w k1), vI (g2 0), vI (g 1), vI (g 2), vI (g 3), vI (g 4), vI (g 5), vI (g 6), vI (g 7), vI (g 8), vI (g 9)]))) k (.inr (3, [.ref (gw_ad w k1), vI (g2 0), vI (g2 1), vI (g 2), vI (g 3), vI (g 4), vI (g 5), vI (g 6), vI (g 7), vI (g 8), vI (g 9)]))) k (.inr (3, [.ref (gw_ad w k1), vI (g2 0), vI (g2 1), vI (g2 2), vI (g 3), vI (g 4), vI (g 5), vI (g 6), vI (g 7), vI (g 8), vI (g 9)]))) k (.inr (3, [.ref (gw_ad w k1), vI (g2 0), vI (g2 1), vI (g2 2), vI (g2 3), vI (g 4), vI (g 5), vI (g 6), vI (g 7), vI (g 8), vI (g 9)]))) k (.inr (3, [.ref (gw_ad w k1), vI (g2 0), vI (g2 1), vI (g2 2), vI (g2 3), vI (g2 4), vI (g 5), vI (g 6), vI (g 7), vI (g 8), vI (g 9)]))) k (.inr (3, [.ref (gw_ad w k1), vI (g2 0), vI (g2 1), vI (g2 2), vI (g2 3), vI (g2 4), vI (g2 5), vI (g 6), vI (g 7), vI (g 8), vI (g 9)]))) k (.inr (3, [.ref (gw_ad w k1), vI (g2 0), vI (g2 1), vI (g2 2), vI (g2 3), vI (g2 4), vI (g2 5), vI (g2 6), vI (g 7), vI (g 8), vI (g 9)]))) k (.inr (3, [.ref (gw_ad w k1), vI (g2 0), vI (g2 1), vI (g2 2), vI (g2 3), vI (g2 4), vI (g2 5), vI (g2 6), vI (g2 7), vI (g 8), vI (g 9)])))) rfl ?_
        refine g_aload_n (pc := 92) hX 1 rfl dX3_copyFrom_92 ?_
        refine g_aload_n (pc := 93) hX 2 rfl dX3_copyFrom_93 ?_
        refine g_get (pc := 94) hX (ci := 3) (fun _ h => List.mem_cons_of_mem _ (List.mem_append_right _ h)) rfl q hq (up_ne n20 (up_ne n20 (up_ne n20 (up_ne n20 (up_ne n20 (up_ne n20 (up_ne n20 (up_ne n20 ((hfloop q n21).trans eq))))))))) 9 (by decide) (List.mem_of_getElem? (i := 10) rfl) rfl (v := vI (g2 8)) rfl dX3_copyFrom_94 ?_
        refine g_put (pc := 97) hX (ci := 3) (fun _ h => List.mem_cons_of_mem _ (List.mem_append_right _ h)) rfl tyX3 tyX3_ok nmX3 k hk (up_eq _ _ _) 9 (by decide) (List.mem_of_getElem? (i := 10) rfl) rfl rfl (tyX3_ok 9 (by decide)) rfl (fit_int _) (Nat.le_of_ble_eq_true rfl) dX3_copyFrom_97 ?_
        refine g_at rfl rfl rfl (S2 := (va_up (va_up (va_up (va_up (va_up (va_up (va_up (va_up (va_up Sloop k (.inr (3, [.ref (gw_ad w k1), vI (g2 0), vI (g 1), vI (g 2), vI (g 3), vI (g 4), vI (g 5), vI (g 6), vI (g 7), vI (g 8), vI (g 9)]))) k (.inr (3, [.ref (gw_ad w k1), vI (g2 0), vI (g2 1), vI (g 2), vI (g 3), vI (g 4), vI (g 5), vI (g 6), vI (g 7), vI (g 8), vI (g 9)]))) k (.inr (3, [.ref (gw_ad w k1), vI (g2 0), vI (g2 1), vI (g2 2), vI (g 3), vI (g 4), vI (g 5), vI (g 6), vI (g 7), vI (g 8), vI (g 9)]))) k (.inr (3, [.ref (gw_ad w k1), vI (g2 0), vI (g2 1), vI (g2 2), vI (g2 3), vI (g 4), vI (g 5), vI (g 6), vI (g 7), vI (g 8), vI (g 9)]))) k (.inr (3, [.ref (gw_ad w k1), vI (g2 0), vI (g2 1), vI (g2 2), vI (g2 3), vI (g2 4), vI (g 5), vI (g 6), vI (g 7), vI (g 8), vI (g 9)]))) k (.inr (3, [.ref (gw_ad w k1), vI (g2 0), vI (g2 1), vI (g2 2), vI (g2 3), vI (g2 4), vI (g2 5), vI (g 6), vI (g 7), vI (g 8), vI (g 9)]))) k (.inr (3, [.ref (gw_ad w k1), vI (g2 0), vI (g2 1), vI (g2 2), vI (g2 3), vI (g2 4), vI (g2 5), vI (g2 6), vI (g 7), vI (g 8), vI (g 9)]))) k (.inr (3, [.ref (gw_ad w k1), vI (g2 0), vI (g2 1), vI (g2 2), vI (g2 3), vI (g2 4), vI (g2 5), vI (g2 6), vI (g2 7), vI (g 8), vI (g 9)]))) k (.inr (3, [.ref (gw_ad w k1), vI (g2 0), vI (g2 1), vI (g2 2), vI (g2 3), vI (g2 4), vI (g2 5), vI (g2 6), vI (g2 7), vI (g2 8), vI (g 9)])))) rfl ?_
        refine g_aload_n (pc := 100) hX 1 rfl dX3_copyFrom_100 ?_
        refine g_aload_n (pc := 101) hX 2 rfl dX3_copyFrom_101 ?_
        refine g_get (pc := 102) hX (ci := 3) (fun _ h => List.mem_cons_of_mem _ (List.mem_append_right _ h)) rfl q hq (up_ne n20 (up_ne n20 (up_ne n20 (up_ne n20 (up_ne n20 (up_ne n20 (up_ne n20 (up_ne n20 (up_ne n20 ((hfloop q n21).trans eq)))))))))) 10 (by decide) (List.mem_of_getElem? (i := 11) rfl) rfl (v := vI (g2 9)) rfl dX3_copyFrom_102 ?_
        refine g_put (pc := 105) hX (ci := 3) (fun _ h => List.mem_cons_of_mem _ (List.mem_append_right _ h)) rfl tyX3 tyX3_ok nmX3 k hk (up_eq _ _ _) 10 (by decide) (List.mem_of_getElem? (i := 11) rfl) rfl rfl (tyX3_ok 10 (by decide)) rfl (fit_int _) (Nat.le_of_ble_eq_true rfl) dX3_copyFrom_105 ?_
        refine g_at rfl rfl rfl (S2 := (va_up (va_up (va_up (va_up (va_up (va_up (va_up (va_up (va_up (va_up Sloop k (.inr (3, [.ref (gw_ad w k1), vI (g2 0), vI (g 1), vI (g 2), vI (g 3), vI (g 4), vI (g 5), vI (g 6), vI (g 7), vI (g 8), vI (g 9)]))) k (.inr (3, [.ref (gw_ad w k1), vI (g2 0), vI (g2 1), vI (g 2), vI (g 3), vI (g 4), vI (g 5), vI (g 6), vI (g 7), vI (g 8), vI (g 9)]))) k (.inr (3, [.ref (gw_ad w k1), vI (g2 0), vI (g2 1), vI (g2 2), vI (g 3), vI (g 4), vI (g 5), vI (g 6), vI (g 7), vI (g 8), vI (g 9)]))) k (.inr (3, [.ref (gw_ad w k1), vI (g2 0), vI (g2 1), vI (g2 2), vI (g2 3), vI (g 4), vI (g 5), vI (g 6), vI (g 7), vI (g 8), vI (g 9)]))) k (.inr (3, [.ref (gw_ad w k1), vI (g2 0), vI (g2 1), vI (g2 2), vI (g2 3), vI (g2 4), vI (g 5), vI (g 6), vI (g 7), vI (g 8), vI (g 9)]))) k (.inr (3, [.ref (gw_ad w k1), vI (g2 0), vI (g2 1), vI (g2 2), vI (g2 3), vI (g2 4), vI (g2 5), vI (g 6), vI (g 7), vI (g 8), vI (g 9)]))) k (.inr (3, [.ref (gw_ad w k1), vI (g2 0), vI (g2 1), vI (g2 2), vI (g2 3), vI (g2 4), vI (g2 5), vI (g2 6), vI (g 7), vI (g 8), vI (g 9)]))) k (.inr (3, [.ref (gw_ad w k1), vI (g2 0), vI (g2 1), vI (g2 2), vI (g2 3), vI (g2 4), vI (g2 5), vI (g2 6), vI (g2 7), vI (g 8), vI (g 9)]))) k (.inr (3, [.ref (gw_ad w k1), vI (g2 0), vI (g2 1), vI (g2 2), vI (g2 3), vI (g2 4), vI (g2 5), vI (g2 6), vI (g2 7), vI (g2 8), vI (g 9)]))) k (.inr (3, [.ref (gw_ad w k1), vI (g2 0), vI (g2 1), vI (g2 2), vI (g2 3), vI (g2 4), vI (g2 5), vI (g2 6), vI (g2 7), vI (g2 8), vI (g2 9)])))) rfl ?_
        refine g_vret (pc := 108) hX hR dX3_copyFrom_108 ?_
        exact ⟨(fun q a0 a1 => (up_ne a1 (up_ne a1 (up_ne a1 (up_ne a1 (up_ne a1 (up_ne a1 (up_ne a1 (up_ne a1 (up_ne a1 (up_ne a1 (hfloop q a0)))))))))))), (up_ne (Ne.symm n01) (up_ne (Ne.symm n01) (up_ne (Ne.symm n01) (up_ne (Ne.symm n01) (up_ne (Ne.symm n01) (up_ne (Ne.symm n01) (up_ne (Ne.symm n01) (up_ne (Ne.symm n01) (up_ne (Ne.symm n01) (up_ne (Ne.symm n01) eloop_k1)))))))))).trans (by rw [show c = 8 by omega]), (up_eq _ _ _)⟩
      · skip
        refine g_aload_n (pc := 11) hX 1 rfl dX3_copyFrom_11 ?_
        refine g_get (pc := 12) hX (ci := 3) (fun _ h => List.mem_cons_of_mem _ (List.mem_append_right _ h)) rfl k hk ((hfloop k n01).trans ek) 0 (by decide) (List.mem_of_getElem? (i := 1) rfl) rfl (v := .ref (gw_ad w k1)) rfl dX3_copyFrom_12 ?_
        refine g_iload_n (pc := 15) hX 0 rfl dX3_copyFrom_15 ?_
        refine g_aload_n (pc := 16) hX 2 rfl dX3_copyFrom_16 ?_
        refine g_iload_n (pc := 17) hX 0 rfl dX3_copyFrom_17 ?_
        refine g_callV1 (pc := 18) (ci := 3) (As := [vI (c)]) (st2 := [vI (c), .ref (gw_ad w k1)]) hX q hq ((hfloop q n21).trans eq) rfl (c_X3_settingOf hq hq1 ((hfloop q n21).trans eq) ((hfloop q1 n31).trans eq1) (i := c) (by omega) (by omega)) gX3_copyFrom_X3_settingOf (n := 1) (hw := rfl) (hrc := rfl) (hrs := rfl) (hd := by decide +kernel) (hR := ⟨Nat.le_of_ble_eq_true rfl, Nat.le_of_ble_eq_true rfl⟩) (hn := rfl) (hst := rfl) (hsum := Nat.le_of_ble_eq_true rfl) (hdg := dX3_copyFrom_18) ?_
        rintro _ S9 ⟨rfl, e9⟩
        rw [e9]
        clear e9 S9
        refine g_at (pc2 := 21) rfl rfl (st2 := [vI (F2 c), vI (c), .ref (gw_ad w k1)]) rfl (S2 := Sloop) rfl ?_
        refine g_iast (pc := 21) hX k1 hk1 eloop_k1 (by omega) (by omega) (by decide) dX3_copyFrom_21 ?_
        refine g_at rfl rfl rfl (S2 := (va_up Sloop k1 (AI w 8 (updZ (cp1 F2 F c) (c) (F2 c))))) rfl ?_
        refine g_iinc (pc := 22) hX (lv2 := [(2, vI (c + 1)), (0, .ref (gw_ad w k)), (1, .ref (gw_ad w q))]) 0 rfl (by decide) rfl dX3_copyFrom_22 ?_
        refine g_goto (pc := 25) (tgt := 2) hX dX3_copyFrom_25 (by decide) ?_
        refine g_sub (lv2 := [(2, vI (c + 1)), (0, .ref (gw_ad w k)), (1, .ref (gw_ad w q))]) [0, 1, 2] rfl ?_
        refine g_at rfl (lv2 := [(2, vI (c + 1)), (0, .ref (gw_ad w k)), (1, .ref (gw_ad w q))]) (rfl) rfl rfl ?_
        exact ihloop (c + 1) _ (by omega) (by omega) (by omega)  (fun q a0 => (up_ne a0 (hfloop q a0))) ((up_eq _ _ _).trans (by rw [cp1_s h1c]))
  refine g_sub (lv2 := [(2, vI (0)), (0, .ref (gw_ad w k)), (1, .ref (gw_ad w q))]) [0, 1, 2] rfl ?_
  refine g_at rfl (lv2 := [(2, vI (0)), (0, .ref (gw_ad w k)), (1, .ref (gw_ad w q))]) (rfl) rfl rfl ?_
  exact loop ((8 : Int) - 0 + 1).toNat 0 _ (by omega) (by omega) (by omega)  (fun q _ => rfl) (ek1.trans (by rw [cp1_0]))
