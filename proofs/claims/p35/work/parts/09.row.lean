/-! ===== volume, reasons, a row described and measured ===== -/
def volZ (a b c : Int) : Int := (a + 9) / 10 * ((b + 9) / 10) * ((c + 9) / 10)
def dsc (P : Int → Int → Int) (row wt a b c z : Int) : Int → Int → Int := upd2 (upd2 (upd2 (upd2 (upd2 P row 0 wt) row 1 a) row 2 b) row 3 c) row 4 z
def rsn (P : Int → Int → Int) (row x : Int) : Int → Int → Int := upd2 (upd2 P row (12 + P row 11) x) row 11 (P row 11 + 1)
def lngZ (a b c : Int) : Int := mx a (mx b c)
def girZ (a b c : Int) : Int := lngZ a b c + 2 * (a + b + c - lngZ a b c)
def msr (P : Int → Int → Int) (row : Int) : Int → Int → Int := upd2 (upd2 P row 10 (lngZ (P row 1) (P row 2) (P row 3))) row 9 (girZ (P row 1) (P row 2) (P row 3))
def wrZ (real dim : Int) : Int := if real = dim then 3 else if dim < real then 1 else 2
theorem vol_b {a : Int} (h0 : 1 ≤ a) (h1 : a ≤ 2000) : 1 ≤ (a + 9) / 10 ∧ (a + 9) / 10 ≤ 200 := by omega
theorem volZ_b {a b c : Int} (ha : 1 ≤ a ∧ a ≤ 2000) (hb : 1 ≤ b ∧ b ≤ 2000) (hc : 1 ≤ c ∧ c ≤ 2000) : 1 ≤ volZ a b c ∧ volZ a b c ≤ 8000000 := by
  have h1 := vol_b ha.1 ha.2
  have h2 := vol_b hb.1 hb.2
  have h3 := vol_b hc.1 hc.2
  unfold volZ
  generalize (a + 9) / 10 = x at *
  generalize (b + 9) / 10 = y at *
  generalize (c + 9) / 10 = z at *
  have k1 : 1 ≤ x * y := by have := Int.mul_le_mul h1.1 h2.1 (by omega) (by omega); omega
  have k2 : x * y ≤ 40000 := by have := Int.mul_le_mul h1.2 h2.2 (by omega) (by omega); omega
  have k3 : 1 ≤ x * y * z := by have := Int.mul_le_mul k1 h3.1 (by omega) (by omega); omega
  have k4 : x * y * z ≤ 8000000 := by have := Int.mul_le_mul k2 h3.2 (by omega) (by omega); omega
  exact ⟨k3, k4⟩

set_option maxHeartbeats 4000000 in
set_option maxRecDepth 100000 in
theorem c_X6_volume {w : gW} {l : Launch} {S : Nat → va_E} {k k1 n : Nat} {rm cn : Int} {P : Int → Int → Int} (hk : k < gw_N w) (hk1 : k1 < gw_N w) (ek : S k = OT w rm 22 k1 cn) (ek1 : S k1 = AT w n 22 P) (hn : rm * 22 ≤ n) (hn2 : n ≤ 2147483647) (hrm : inI rm) {row : Int} (hr0 : 0 ≤ row) (hr1 : row < rm) (nkk : k ≠ k1) (s1 : 1 ≤ P row 1 ∧ P row 1 ≤ 2000) (s2 : 1 ≤ P row 2 ∧ P row 2 ≤ 2000) (s3 : 1 ≤ P row 3 ∧ P row 3 ≤ 2000) :
    GM1 w l yX6_volume wsX6_volume { frames := 1, cells := 0, slots := 0, locals := 22 } [.ref (gw_ad w k), vI (row)] S
      (fun v S' => v = vI (volZ (P row 1) (P row 2) (P row 3)) ∧ S' = S) := by
  refine GM.start (own := RX6) (n := "volume") (d := "(LParcelDesk$Table;I)I") (by decide) rfl (Nat.le_of_ble_eq_true rfl) ?_
  intro X hX hR hXl
  subst hXl
  refine g_at rfl (lv2 := [(0, .ref (gw_ad w k)), (1, vI (row))]) rfl rfl rfl ?_
  have hrow : inI row := by have := hrm.2; exact inI_mk (by omega) (by omega)
  refine g_iconst (pc := 0) hX dX6_volume_0 ?_
  refine g_istore_n (pc := 1) hX (lv2 := [(2, vI (1)), (0, .ref (gw_ad w k)), (1, vI (row))]) rfl (by decide) rfl dX6_volume_1 ?_
  refine g_iconst (pc := 2) hX dX6_volume_2 ?_
  refine g_istore_n (pc := 3) hX (lv2 := [(3, vI (1)), (2, vI (1)), (0, .ref (gw_ad w k)), (1, vI (row))]) rfl (by decide) rfl dX6_volume_3 ?_
  refine g_iload_n (pc := 4) hX 0 rfl dX6_volume_4 ?_
  refine g_iconst (pc := 5) hX dX6_volume_5 ?_
  refine g_icmp_gt (pc := 6) (tgt := 30) hX (by first | assumption | exact inI_mk (by omega) (by omega)) (by first | assumption | exact inI_mk (by omega) (by omega)) dX6_volume_6 (by decide) (fun c_6 => ?_) (fun c_6 => ?_)
  · skip
    exact absurd c_6 (by omega)
  · skip
    refine g_iload_n (pc := 9) hX 1 rfl dX6_volume_9 ?_
    refine g_aload_n (pc := 10) hX 2 rfl dX6_volume_10 ?_
    refine g_iload_n (pc := 11) hX 3 rfl dX6_volume_11 ?_
    refine g_iload_n (pc := 12) hX 0 rfl dX6_volume_12 ?_
    refine g_callV1 (pc := 13) (ci := 5) (As := [vI (row), vI (1)]) (st2 := [vI (1)]) hX k hk ek rfl (c_X5_cell (row := row) (col := 1) hk hk1 ek ek1 (by omega) (by omega) (by first | assumption | exact inI_mk (by omega) (by omega)) (by first | assumption | exact inI_mk (by omega) (by omega)) (by first | assumption | exact inI_mk (by omega) (by omega)) (by first | assumption | exact inI_mk (by omega) (by omega))) gX6_volume_X5_cell (n := 2) (hw := rfl) (hrc := rfl) (hrs := rfl) (hd := by decide +kernel) (hR := ⟨Nat.le_of_ble_eq_true rfl, Nat.le_of_ble_eq_true rfl⟩) (hn := rfl) (hst := rfl) (hsum := Nat.le_of_ble_eq_true rfl) (hdg := dX6_volume_13) ?_
    rintro _ S9 ⟨rfl, e9⟩
    rw [e9]
    clear e9 S9
    rw [tcell_in (by omega) (by omega) (by omega) (by omega)]
    refine g_at (pc2 := 16) rfl rfl (st2 := [vI (P row 1), vI (1)]) rfl (S2 := S) rfl ?_
    refine g_bipush (pc := 16) hX (by decide) dX6_volume_16 ?_
    refine g_iadd (pc := 18) hX dX6_volume_18 ?_
    refine g_bipush (pc := 19) hX (by decide) dX6_volume_19 ?_
    refine g_idiv (pc := 21) hX (by first | assumption | exact inI_mk (by omega) (by omega)) (by first | assumption | exact inI_mk (by omega) (by omega)) (by omega) dX6_volume_21 ?_
    refine g_imul (pc := 22) hX dX6_volume_22 ?_
    refine g_istore_n (pc := 23) hX (lv2 := [(2, vI (1 * (((P row 1) + 9).tdiv (10)))), (3, vI (1)), (0, .ref (gw_ad w k)), (1, vI (row))]) rfl (by decide) rfl dX6_volume_23 ?_
    refine g_iinc (pc := 24) hX (lv2 := [(3, vI (2)), (2, vI (1 * (((P row 1) + 9).tdiv (10)))), (0, .ref (gw_ad w k)), (1, vI (row))]) 1 rfl (by decide) rfl dX6_volume_24 ?_
    refine g_goto (pc := 27) (tgt := 4) hX dX6_volume_27 (by decide) ?_
    refine g_iload_n (pc := 4) hX 0 rfl dX6_volume_4 ?_
    refine g_iconst (pc := 5) hX dX6_volume_5 ?_
    refine g_icmp_gt (pc := 6) (tgt := 30) hX (by first | assumption | exact inI_mk (by omega) (by omega)) (by first | assumption | exact inI_mk (by omega) (by omega)) dX6_volume_6 (by decide) (fun c_6 => ?_) (fun c_6 => ?_)
    · skip
      exact absurd c_6 (by omega)
    · skip
      refine g_iload_n (pc := 9) hX 1 rfl dX6_volume_9 ?_
      refine g_aload_n (pc := 10) hX 2 rfl dX6_volume_10 ?_
      refine g_iload_n (pc := 11) hX 3 rfl dX6_volume_11 ?_
      refine g_iload_n (pc := 12) hX 0 rfl dX6_volume_12 ?_
      refine g_callV1 (pc := 13) (ci := 5) (As := [vI (row), vI (2)]) (st2 := [vI (1 * (((P row 1) + 9).tdiv (10)))]) hX k hk ek rfl (c_X5_cell (row := row) (col := 2) hk hk1 ek ek1 (by omega) (by omega) (by first | assumption | exact inI_mk (by omega) (by omega)) (by first | assumption | exact inI_mk (by omega) (by omega)) (by first | assumption | exact inI_mk (by omega) (by omega)) (by first | assumption | exact inI_mk (by omega) (by omega))) gX6_volume_X5_cell (n := 2) (hw := rfl) (hrc := rfl) (hrs := rfl) (hd := by decide +kernel) (hR := ⟨Nat.le_of_ble_eq_true rfl, Nat.le_of_ble_eq_true rfl⟩) (hn := rfl) (hst := rfl) (hsum := Nat.le_of_ble_eq_true rfl) (hdg := dX6_volume_13) ?_
      rintro _ S9 ⟨rfl, e9⟩
      rw [e9]
      clear e9 S9
      rw [tcell_in (by omega) (by omega) (by omega) (by omega)]
      refine g_at (pc2 := 16) rfl rfl (st2 := [vI (P row 2), vI (1 * (((P row 1) + 9).tdiv (10)))]) rfl (S2 := S) rfl ?_
      refine g_bipush (pc := 16) hX (by decide) dX6_volume_16 ?_
      refine g_iadd (pc := 18) hX dX6_volume_18 ?_
      refine g_bipush (pc := 19) hX (by decide) dX6_volume_19 ?_
      refine g_idiv (pc := 21) hX (by first | assumption | exact inI_mk (by omega) (by omega)) (by first | assumption | exact inI_mk (by omega) (by omega)) (by omega) dX6_volume_21 ?_
      refine g_imul (pc := 22) hX dX6_volume_22 ?_
      refine g_istore_n (pc := 23) hX (lv2 := [(2, vI ((1 * (((P row 1) + 9).tdiv (10))) * (((P row 2) + 9).tdiv (10)))), (3, vI (2)), (0, .ref (gw_ad w k)), (1, vI (row))]) rfl (by decide) rfl dX6_volume_23 ?_
      refine g_iinc (pc := 24) hX (lv2 := [(3, vI (3)), (2, vI ((1 * (((P row 1) + 9).tdiv (10))) * (((P row 2) + 9).tdiv (10)))), (0, .ref (gw_ad w k)), (1, vI (row))]) 1 rfl (by decide) rfl dX6_volume_24 ?_
      refine g_goto (pc := 27) (tgt := 4) hX dX6_volume_27 (by decide) ?_
      refine g_iload_n (pc := 4) hX 0 rfl dX6_volume_4 ?_
      refine g_iconst (pc := 5) hX dX6_volume_5 ?_
      refine g_icmp_gt (pc := 6) (tgt := 30) hX (by first | assumption | exact inI_mk (by omega) (by omega)) (by first | assumption | exact inI_mk (by omega) (by omega)) dX6_volume_6 (by decide) (fun c_6 => ?_) (fun c_6 => ?_)
      · skip
        exact absurd c_6 (by omega)
      · skip
        refine g_iload_n (pc := 9) hX 1 rfl dX6_volume_9 ?_
        refine g_aload_n (pc := 10) hX 2 rfl dX6_volume_10 ?_
        refine g_iload_n (pc := 11) hX 3 rfl dX6_volume_11 ?_
        refine g_iload_n (pc := 12) hX 0 rfl dX6_volume_12 ?_
        refine g_callV1 (pc := 13) (ci := 5) (As := [vI (row), vI (3)]) (st2 := [vI ((1 * (((P row 1) + 9).tdiv (10))) * (((P row 2) + 9).tdiv (10)))]) hX k hk ek rfl (c_X5_cell (row := row) (col := 3) hk hk1 ek ek1 (by omega) (by omega) (by first | assumption | exact inI_mk (by omega) (by omega)) (by first | assumption | exact inI_mk (by omega) (by omega)) (by first | assumption | exact inI_mk (by omega) (by omega)) (by first | assumption | exact inI_mk (by omega) (by omega))) gX6_volume_X5_cell (n := 2) (hw := rfl) (hrc := rfl) (hrs := rfl) (hd := by decide +kernel) (hR := ⟨Nat.le_of_ble_eq_true rfl, Nat.le_of_ble_eq_true rfl⟩) (hn := rfl) (hst := rfl) (hsum := Nat.le_of_ble_eq_true rfl) (hdg := dX6_volume_13) ?_
        rintro _ S9 ⟨rfl, e9⟩
        rw [e9]
        clear e9 S9
        rw [tcell_in (by omega) (by omega) (by omega) (by omega)]
        refine g_at (pc2 := 16) rfl rfl (st2 := [vI (P row 3), vI ((1 * (((P row 1) + 9).tdiv (10))) * (((P row 2) + 9).tdiv (10)))]) rfl (S2 := S) rfl ?_
        refine g_bipush (pc := 16) hX (by decide) dX6_volume_16 ?_
        refine g_iadd (pc := 18) hX dX6_volume_18 ?_
        refine g_bipush (pc := 19) hX (by decide) dX6_volume_19 ?_
        refine g_idiv (pc := 21) hX (by first | assumption | exact inI_mk (by omega) (by omega)) (by first | assumption | exact inI_mk (by omega) (by omega)) (by omega) dX6_volume_21 ?_
        refine g_imul (pc := 22) hX dX6_volume_22 ?_
        refine g_istore_n (pc := 23) hX (lv2 := [(2, vI (((1 * (((P row 1) + 9).tdiv (10))) * (((P row 2) + 9).tdiv (10))) * (((P row 3) + 9).tdiv (10)))), (3, vI (3)), (0, .ref (gw_ad w k)), (1, vI (row))]) rfl (by decide) rfl dX6_volume_23 ?_
        refine g_iinc (pc := 24) hX (lv2 := [(3, vI (4)), (2, vI (((1 * (((P row 1) + 9).tdiv (10))) * (((P row 2) + 9).tdiv (10))) * (((P row 3) + 9).tdiv (10)))), (0, .ref (gw_ad w k)), (1, vI (row))]) 1 rfl (by decide) rfl dX6_volume_24 ?_
        refine g_goto (pc := 27) (tgt := 4) hX dX6_volume_27 (by decide) ?_
        refine g_iload_n (pc := 4) hX 0 rfl dX6_volume_4 ?_
        refine g_iconst (pc := 5) hX dX6_volume_5 ?_
        refine g_icmp_gt (pc := 6) (tgt := 30) hX (by first | assumption | exact inI_mk (by omega) (by omega)) (by first | assumption | exact inI_mk (by omega) (by omega)) dX6_volume_6 (by decide) (fun c_6 => ?_) (fun c_6 => ?_)
        · skip
          refine g_iload_n (pc := 30) hX 1 rfl dX6_volume_30 ?_
          refine g_iret (pc := 31) hX hR dX6_volume_31 ?_
          refine ⟨vI_c ?_, rfl⟩
          unfold volZ
          rw [fdiv_a (by omega), fdiv_a (by omega), fdiv_a (by omega), Int.one_mul]
        · skip
          exact absurd c_6 (by omega)

set_option maxHeartbeats 4000000 in
set_option maxRecDepth 100000 in
theorem c_X6_addReason {w : gW} {l : Launch} {S : Nat → va_E} {k k1 n : Nat} {rm cn : Int} {P : Int → Int → Int} (hk : k < gw_N w) (hk1 : k1 < gw_N w) (ek : S k = OT w rm 22 k1 cn) (ek1 : S k1 = AT w n 22 P) (hn : rm * 22 ≤ n) (hn2 : n ≤ 2147483647) (hrm : inI rm) {row : Int} (hr0 : 0 ≤ row) (hr1 : row < rm) (nkk : k ≠ k1) {x : Int} (h0 : 0 ≤ P row 11) (h9 : P row 11 ≤ 9) :
    GM0 w l yX6_addReason wsX6_addReason { frames := 1, cells := 0, slots := 0, locals := 23 } [.ref (gw_ad w k), vI (row), vI (x)] S
      (fun S' => S' = va_up S k1 (AT w n 22 (rsn P row x))) := by
  refine GM.start (own := RX6) (n := "addReason") (d := "(LParcelDesk$Table;II)V") (by decide) rfl (Nat.le_of_ble_eq_true rfl) ?_
  intro X hX hR hXl
  subst hXl
  refine g_at rfl (lv2 := [(0, .ref (gw_ad w k)), (1, vI (row)), (2, vI (x))]) rfl rfl rfl ?_
  have hrow : inI row := by have := hrm.2; exact inI_mk (by omega) (by omega)
  refine g_aload_n (pc := 0) hX 0 rfl dX6_addReason_0 ?_
  refine g_iload_n (pc := 1) hX 1 rfl dX6_addReason_1 ?_
  refine g_bipush (pc := 2) hX (by decide) dX6_addReason_2 ?_
  refine g_callV1 (pc := 4) (ci := 5) (As := [vI (row), vI (11)]) (st2 := []) hX k hk ek rfl (c_X5_cell (row := row) (col := 11) hk hk1 ek ek1 (by omega) (by omega) (by first | assumption | exact inI_mk (by omega) (by omega)) (by first | assumption | exact inI_mk (by omega) (by omega)) (by first | assumption | exact inI_mk (by omega) (by omega)) (by first | assumption | exact inI_mk (by omega) (by omega))) gX6_addReason_X5_cell (n := 2) (hw := rfl) (hrc := rfl) (hrs := rfl) (hd := by decide +kernel) (hR := ⟨Nat.le_of_ble_eq_true rfl, Nat.le_of_ble_eq_true rfl⟩) (hn := rfl) (hst := rfl) (hsum := Nat.le_of_ble_eq_true rfl) (hdg := dX6_addReason_4) ?_
  rintro _ S9 ⟨rfl, e9⟩
  rw [e9]
  clear e9 S9
  rw [tcell_in (by omega) (by omega) (by omega) (by omega)]
  refine g_at (pc2 := 7) rfl rfl (st2 := [vI (P row 11)]) rfl (S2 := S) rfl ?_
  refine g_istore_n (pc := 7) hX (lv2 := [(3, vI (P row 11)), (0, .ref (gw_ad w k)), (1, vI (row)), (2, vI (x))]) rfl (by decide) rfl dX6_addReason_7 ?_
  refine g_aload_n (pc := 8) hX 1 rfl dX6_addReason_8 ?_
  refine g_iload_n (pc := 9) hX 2 rfl dX6_addReason_9 ?_
  refine g_bipush (pc := 10) hX (by decide) dX6_addReason_10 ?_
  refine g_iload_n (pc := 12) hX 0 rfl dX6_addReason_12 ?_
  refine g_iadd (pc := 13) hX dX6_addReason_13 ?_
  refine g_iload_n (pc := 14) hX 3 rfl dX6_addReason_14 ?_
  refine g_callV0 (pc := 15) (ci := 5) (As := [vI (row), vI (12 + (P row 11)), vI (x)]) (st2 := []) hX k hk ek rfl (c_X5_put (row := row) (col := 12 + (P row 11)) (x := x) hk hk1 ek ek1 (by omega) (by omega) (by first | assumption | exact inI_mk (by omega) (by omega)) (by first | assumption | exact inI_mk (by omega) (by omega)) (by first | assumption | exact inI_mk (by omega) (by omega)) (by first | assumption | exact inI_mk (by omega) (by omega))) gX6_addReason_X5_put (n := 3) (hw := rfl) (hrc := rfl) (hrs := rfl) (hd := by decide +kernel) (hR := ⟨Nat.le_of_ble_eq_true rfl, Nat.le_of_ble_eq_true rfl⟩) (hn := rfl) (hst := rfl) (hsum := Nat.le_of_ble_eq_true rfl) (hdg := dX6_addReason_15) ?_
  rintro _ rfl
  rw [tput_in (by omega) (by omega) (by omega) (by omega)]
  refine g_at (pc2 := 18) rfl rfl (st2 := []) rfl (S2 := (va_up S k1 (AI w n (fl 22 (upd2 P row (12 + (P row 11)) x))))) rfl ?_
  refine g_aload_n (pc := 18) hX 1 rfl dX6_addReason_18 ?_
  refine g_iload_n (pc := 19) hX 2 rfl dX6_addReason_19 ?_
  refine g_bipush (pc := 20) hX (by decide) dX6_addReason_20 ?_
  refine g_iload_n (pc := 22) hX 0 rfl dX6_addReason_22 ?_
  refine g_iconst (pc := 23) hX dX6_addReason_23 ?_
  refine g_iadd (pc := 24) hX dX6_addReason_24 ?_
  refine g_callV0 (pc := 25) (ci := 5) (As := [vI (row), vI (11), vI ((P row 11) + 1)]) (st2 := []) hX k hk (up_ne nkk ek) rfl (c_X5_put (row := row) (col := 11) (x := (P row 11) + 1) hk hk1 (up_ne nkk ek) (up_eq _ _ _) (by omega) (by omega) (by first | assumption | exact inI_mk (by omega) (by omega)) (by first | assumption | exact inI_mk (by omega) (by omega)) (by first | assumption | exact inI_mk (by omega) (by omega)) (by first | assumption | exact inI_mk (by omega) (by omega))) gX6_addReason_X5_put (n := 3) (hw := rfl) (hrc := rfl) (hrs := rfl) (hd := by decide +kernel) (hR := ⟨Nat.le_of_ble_eq_true rfl, Nat.le_of_ble_eq_true rfl⟩) (hn := rfl) (hst := rfl) (hsum := Nat.le_of_ble_eq_true rfl) (hdg := dX6_addReason_25) ?_
  rintro _ rfl
  rw [tput_in (by omega) (by omega) (by omega) (by omega)]
  refine g_at (pc2 := 28) rfl rfl (st2 := []) rfl (S2 := (va_up (va_up S k1 (AI w n (fl 22 (upd2 P row (12 + (P row 11)) x)))) k1 (AI w n (fl 22 (upd2 (upd2 P row (12 + (P row 11)) x) row 11 ((P row 11) + 1)))))) rfl ?_
  refine g_vret (pc := 28) hX hR dX6_addReason_28 ?_
  rw [up_up]
  rfl

set_option maxHeartbeats 4000000 in
set_option maxRecDepth 100000 in
theorem c_X6_describe {w : gW} {l : Launch} {S : Nat → va_E} {k k1 n : Nat} {rm cn : Int} {P : Int → Int → Int} (hk : k < gw_N w) (hk1 : k1 < gw_N w) (ek : S k = OT w rm 22 k1 cn) (ek1 : S k1 = AT w n 22 P) (hn : rm * 22 ≤ n) (hn2 : n ≤ 2147483647) (hrm : inI rm) {row : Int} (hr0 : 0 ≤ row) (hr1 : row < rm) (nkk : k ≠ k1) {wt a b c z : Int} :
    GM0 w l yX6_describe wsX6_describe { frames := 1, cells := 0, slots := 0, locals := 23 } [.ref (gw_ad w k), vI (row), vI (wt), vI (a), vI (b), vI (c), vI (z)] S
      (fun S' => S' = va_up S k1 (AT w n 22 (dsc P row wt a b c z))) := by
  refine GM.start (own := RX6) (n := "describe") (d := "(LParcelDesk$Table;IIIIII)V") (by decide) rfl (Nat.le_of_ble_eq_true rfl) ?_
  intro X hX hR hXl
  subst hXl
  refine g_at rfl (lv2 := [(0, .ref (gw_ad w k)), (1, vI (row)), (2, vI (wt)), (3, vI (a)), (4, vI (b)), (5, vI (c)), (6, vI (z))]) rfl rfl rfl ?_
  have hrow : inI row := by have := hrm.2; exact inI_mk (by omega) (by omega)
  refine g_aload_n (pc := 0) hX 0 rfl dX6_describe_0 ?_
  refine g_iload_n (pc := 1) hX 1 rfl dX6_describe_1 ?_
  refine g_iconst (pc := 2) hX dX6_describe_2 ?_
  refine g_iload_n (pc := 3) hX 2 rfl dX6_describe_3 ?_
  refine g_callV0 (pc := 4) (ci := 5) (As := [vI (row), vI (0), vI (wt)]) (st2 := []) hX k hk ek rfl (c_X5_put (row := row) (col := 0) (x := wt) hk hk1 ek ek1 (by omega) (by omega) (by first | assumption | exact inI_mk (by omega) (by omega)) (by first | assumption | exact inI_mk (by omega) (by omega)) (by first | assumption | exact inI_mk (by omega) (by omega)) (by first | assumption | exact inI_mk (by omega) (by omega))) gX6_describe_X5_put (n := 3) (hw := rfl) (hrc := rfl) (hrs := rfl) (hd := by decide +kernel) (hR := ⟨Nat.le_of_ble_eq_true rfl, Nat.le_of_ble_eq_true rfl⟩) (hn := rfl) (hst := rfl) (hsum := Nat.le_of_ble_eq_true rfl) (hdg := dX6_describe_4) ?_
  rintro _ rfl
  rw [tput_in (by omega) (by omega) (by omega) (by omega)]
  refine g_at (pc2 := 7) rfl rfl (st2 := []) rfl (S2 := (va_up S k1 (AI w n (fl 22 (upd2 P row 0 wt))))) rfl ?_
  refine g_aload_n (pc := 7) hX 0 rfl dX6_describe_7 ?_
  refine g_iload_n (pc := 8) hX 1 rfl dX6_describe_8 ?_
  refine g_iconst (pc := 9) hX dX6_describe_9 ?_
  refine g_iload_n (pc := 10) hX 3 rfl dX6_describe_10 ?_
  refine g_callV0 (pc := 11) (ci := 5) (As := [vI (row), vI (1), vI (a)]) (st2 := []) hX k hk (up_ne nkk ek) rfl (c_X5_put (row := row) (col := 1) (x := a) hk hk1 (up_ne nkk ek) (up_eq _ _ _) (by omega) (by omega) (by first | assumption | exact inI_mk (by omega) (by omega)) (by first | assumption | exact inI_mk (by omega) (by omega)) (by first | assumption | exact inI_mk (by omega) (by omega)) (by first | assumption | exact inI_mk (by omega) (by omega))) gX6_describe_X5_put (n := 3) (hw := rfl) (hrc := rfl) (hrs := rfl) (hd := by decide +kernel) (hR := ⟨Nat.le_of_ble_eq_true rfl, Nat.le_of_ble_eq_true rfl⟩) (hn := rfl) (hst := rfl) (hsum := Nat.le_of_ble_eq_true rfl) (hdg := dX6_describe_11) ?_
  rintro _ rfl
  rw [tput_in (by omega) (by omega) (by omega) (by omega)]
  refine g_at (pc2 := 14) rfl rfl (st2 := []) rfl (S2 := (va_up (va_up S k1 (AI w n (fl 22 (upd2 P row 0 wt)))) k1 (AI w n (fl 22 (upd2 (upd2 P row 0 wt) row 1 a))))) rfl ?_
  refine g_aload_n (pc := 14) hX 0 rfl dX6_describe_14 ?_
  refine g_iload_n (pc := 15) hX 1 rfl dX6_describe_15 ?_
  refine g_iconst (pc := 16) hX dX6_describe_16 ?_
  refine g_iload (pc := 17) hX 4 rfl dX6_describe_17 ?_
  refine g_callV0 (pc := 19) (ci := 5) (As := [vI (row), vI (2), vI (b)]) (st2 := []) hX k hk (up_ne nkk (up_ne nkk ek)) rfl (c_X5_put (row := row) (col := 2) (x := b) hk hk1 (up_ne nkk (up_ne nkk ek)) (up_eq _ _ _) (by omega) (by omega) (by first | assumption | exact inI_mk (by omega) (by omega)) (by first | assumption | exact inI_mk (by omega) (by omega)) (by first | assumption | exact inI_mk (by omega) (by omega)) (by first | assumption | exact inI_mk (by omega) (by omega))) gX6_describe_X5_put (n := 3) (hw := rfl) (hrc := rfl) (hrs := rfl) (hd := by decide +kernel) (hR := ⟨Nat.le_of_ble_eq_true rfl, Nat.le_of_ble_eq_true rfl⟩) (hn := rfl) (hst := rfl) (hsum := Nat.le_of_ble_eq_true rfl) (hdg := dX6_describe_19) ?_
  rintro _ rfl
  rw [tput_in (by omega) (by omega) (by omega) (by omega)]
  refine g_at (pc2 := 22) rfl rfl (st2 := []) rfl (S2 := (va_up (va_up (va_up S k1 (AI w n (fl 22 (upd2 P row 0 wt)))) k1 (AI w n (fl 22 (upd2 (upd2 P row 0 wt) row 1 a)))) k1 (AI w n (fl 22 (upd2 (upd2 (upd2 P row 0 wt) row 1 a) row 2 b))))) rfl ?_
  refine g_aload_n (pc := 22) hX 0 rfl dX6_describe_22 ?_
  refine g_iload_n (pc := 23) hX 1 rfl dX6_describe_23 ?_
  refine g_iconst (pc := 24) hX dX6_describe_24 ?_
  refine g_iload (pc := 25) hX 5 rfl dX6_describe_25 ?_
  refine g_callV0 (pc := 27) (ci := 5) (As := [vI (row), vI (3), vI (c)]) (st2 := []) hX k hk (up_ne nkk (up_ne nkk (up_ne nkk ek))) rfl (c_X5_put (row := row) (col := 3) (x := c) hk hk1 (up_ne nkk (up_ne nkk (up_ne nkk ek))) (up_eq _ _ _) (by omega) (by omega) (by first | assumption | exact inI_mk (by omega) (by omega)) (by first | assumption | exact inI_mk (by omega) (by omega)) (by first | assumption | exact inI_mk (by omega) (by omega)) (by first | assumption | exact inI_mk (by omega) (by omega))) gX6_describe_X5_put (n := 3) (hw := rfl) (hrc := rfl) (hrs := rfl) (hd := by decide +kernel) (hR := ⟨Nat.le_of_ble_eq_true rfl, Nat.le_of_ble_eq_true rfl⟩) (hn := rfl) (hst := rfl) (hsum := Nat.le_of_ble_eq_true rfl) (hdg := dX6_describe_27) ?_
  rintro _ rfl
  rw [tput_in (by omega) (by omega) (by omega) (by omega)]
  refine g_at (pc2 := 30) rfl rfl (st2 := []) rfl (S2 := (va_up (va_up (va_up (va_up S k1 (AI w n (fl 22 (upd2 P row 0 wt)))) k1 (AI w n (fl 22 (upd2 (upd2 P row 0 wt) row 1 a)))) k1 (AI w n (fl 22 (upd2 (upd2 (upd2 P row 0 wt) row 1 a) row 2 b)))) k1 (AI w n (fl 22 (upd2 (upd2 (upd2 (upd2 P row 0 wt) row 1 a) row 2 b) row 3 c))))) rfl ?_
  refine g_aload_n (pc := 30) hX 0 rfl dX6_describe_30 ?_
  refine g_iload_n (pc := 31) hX 1 rfl dX6_describe_31 ?_
  refine g_iconst (pc := 32) hX dX6_describe_32 ?_
  refine g_iload (pc := 33) hX 6 rfl dX6_describe_33 ?_
  refine g_callV0 (pc := 35) (ci := 5) (As := [vI (row), vI (4), vI (z)]) (st2 := []) hX k hk (up_ne nkk (up_ne nkk (up_ne nkk (up_ne nkk ek)))) rfl (c_X5_put (row := row) (col := 4) (x := z) hk hk1 (up_ne nkk (up_ne nkk (up_ne nkk (up_ne nkk ek)))) (up_eq _ _ _) (by omega) (by omega) (by first | assumption | exact inI_mk (by omega) (by omega)) (by first | assumption | exact inI_mk (by omega) (by omega)) (by first | assumption | exact inI_mk (by omega) (by omega)) (by first | assumption | exact inI_mk (by omega) (by omega))) gX6_describe_X5_put (n := 3) (hw := rfl) (hrc := rfl) (hrs := rfl) (hd := by decide +kernel) (hR := ⟨Nat.le_of_ble_eq_true rfl, Nat.le_of_ble_eq_true rfl⟩) (hn := rfl) (hst := rfl) (hsum := Nat.le_of_ble_eq_true rfl) (hdg := dX6_describe_35) ?_
  rintro _ rfl
  rw [tput_in (by omega) (by omega) (by omega) (by omega)]
  refine g_at (pc2 := 38) rfl rfl (st2 := []) rfl (S2 := (va_up (va_up (va_up (va_up (va_up S k1 (AI w n (fl 22 (upd2 P row 0 wt)))) k1 (AI w n (fl 22 (upd2 (upd2 P row 0 wt) row 1 a)))) k1 (AI w n (fl 22 (upd2 (upd2 (upd2 P row 0 wt) row 1 a) row 2 b)))) k1 (AI w n (fl 22 (upd2 (upd2 (upd2 (upd2 P row 0 wt) row 1 a) row 2 b) row 3 c)))) k1 (AI w n (fl 22 (upd2 (upd2 (upd2 (upd2 (upd2 P row 0 wt) row 1 a) row 2 b) row 3 c) row 4 z))))) rfl ?_
  refine g_vret (pc := 38) hX hR dX6_describe_38 ?_
  rw [up_up, up_up, up_up, up_up]
  rfl
