set_option maxHeartbeats 4000000 in
set_option maxRecDepth 100000 in
theorem c_X5_has {w : gW} {l : Launch} {S : Nat → va_E} {k k1 n : Nat} {rm wd cn : Int} {P : Int → Int → Int} (hk : k < gw_N w) (hk1 : k1 < gw_N w) (ek : S k = OT w rm wd k1 cn) (ek1 : S k1 = AT w n wd P) {row : Int} (hcn : inI cn) (hrow : inI row) :
    GM1 w l yX5_has wsX5_has { frames := 0, cells := 0, slots := 0, locals := 0 } [.ref (gw_ad w k), vI (row)] S
      (fun v S' => v = vI (bz (decide (0 ≤ row ∧ row < cn))) ∧ S' = S) := by
  refine GM.start (own := RX5) (n := "has") (d := "(I)Z") (by decide) rfl (Nat.le_of_ble_eq_true rfl) ?_
  intro X hX hR hXl
  subst hXl
  refine g_at rfl (lv2 := [(0, .ref (gw_ad w k)), (1, vI (row))]) rfl rfl rfl ?_
  refine g_iload_n (pc := 0) hX 1 rfl dX5_has_0 ?_
  refine g_if_lt (pc := 1) (tgt := 16) hX (by first | assumption | exact inI_mk (by omega) (by omega)) dX5_has_1 (by decide) (fun c_1 => ?_) (fun c_1 => ?_)
  · skip
    refine g_iconst (pc := 16) hX dX5_has_16 ?_
    refine g_at rfl rfl (st2 := [vI (bz false)]) rfl rfl ?_
    refine g_zret (pc := 17) hX hR dX5_has_17 ?_
    exact ⟨vB_f (df (by omega)), rfl⟩
  · skip
    refine g_iload_n (pc := 4) hX 1 rfl dX5_has_4 ?_
    refine g_aload_n (pc := 5) hX 0 rfl dX5_has_5 ?_
    refine g_get (pc := 6) hX (ci := 5) (fun _ h => List.mem_cons_of_mem _ (List.mem_append_right _ h)) rfl k hk ek 3 (by decide) (List.mem_of_getElem? (i := 1) rfl) rfl (v := vI (cn)) rfl dX5_has_6 ?_
    refine g_icmp_ge (pc := 9) (tgt := 16) hX (by first | assumption | exact inI_mk (by omega) (by omega)) (by first | assumption | exact inI_mk (by omega) (by omega)) dX5_has_9 (by decide) (fun c_9 => ?_) (fun c_9 => ?_)
    · skip
      refine g_iconst (pc := 16) hX dX5_has_16 ?_
      refine g_at rfl rfl (st2 := [vI (bz false)]) rfl rfl ?_
      refine g_zret (pc := 17) hX hR dX5_has_17 ?_
      exact ⟨vB_f (df (by omega)), rfl⟩
    · skip
      refine g_iconst (pc := 12) hX dX5_has_12 ?_
      refine g_goto (pc := 13) (tgt := 17) hX dX5_has_13 (by decide) ?_
      refine g_at rfl rfl (st2 := [vI (bz true)]) rfl rfl ?_
      refine g_zret (pc := 17) hX hR dX5_has_17 ?_
      exact ⟨vB_t (dt (by omega)), rfl⟩

set_option maxHeartbeats 4000000 in
set_option maxRecDepth 100000 in
theorem c_X5_addRow {w : gW} {l : Launch} {S : Nat → va_E} {k k1 n : Nat} {rm wd cn : Int} {P : Int → Int → Int} (hk : k < gw_N w) (hk1 : k1 < gw_N w) (ek : S k = OT w rm wd k1 cn) (ek1 : S k1 = AT w n wd P) (hcn : inI cn) (hrm : inI rm) (hlt : cn < rm) :
    GM1 w l yX5_addRow wsX5_addRow { frames := 0, cells := 0, slots := 0, locals := 0 } [.ref (gw_ad w k)] S
      (fun v S' => v = vI cn ∧ S' = va_up S k (OT w rm wd k1 (cn + 1))) := by
  refine GM.start (own := RX5) (n := "addRow") (d := "()I") (by decide) rfl (Nat.le_of_ble_eq_true rfl) ?_
  intro X hX hR hXl
  subst hXl
  refine g_at rfl (lv2 := [(0, .ref (gw_ad w k))]) rfl rfl rfl ?_
  refine g_aload_n (pc := 0) hX 0 rfl dX5_addRow_0 ?_
  refine g_get (pc := 1) hX (ci := 5) (fun _ h => List.mem_cons_of_mem _ (List.mem_append_right _ h)) rfl k hk ek 3 (by decide) (List.mem_of_getElem? (i := 1) rfl) rfl (v := vI (cn)) rfl dX5_addRow_1 ?_
  refine g_aload_n (pc := 4) hX 0 rfl dX5_addRow_4 ?_
  refine g_get (pc := 5) hX (ci := 5) (fun _ h => List.mem_cons_of_mem _ (List.mem_append_right _ h)) rfl k hk ek 0 (by decide) (List.mem_of_getElem? (i := 2) rfl) rfl (v := vI (rm)) rfl dX5_addRow_5 ?_
  refine g_icmp_lt (pc := 8) (tgt := 13) hX (by first | assumption | exact inI_mk (by omega) (by omega)) (by first | assumption | exact inI_mk (by omega) (by omega)) dX5_addRow_8 (by decide) (fun c_8 => ?_) (fun c_8 => ?_)
  · skip
    refine g_aload_n (pc := 13) hX 0 rfl dX5_addRow_13 ?_
    refine g_dup (pc := 14) hX rfl dX5_addRow_14 ?_
    refine g_get (pc := 15) hX (ci := 5) (fun _ h => List.mem_cons_of_mem _ (List.mem_append_right _ h)) rfl k hk ek 3 (by decide) (List.mem_of_getElem? (i := 1) rfl) rfl (v := vI (cn)) rfl dX5_addRow_15 ?_
    refine g_iconst (pc := 18) hX dX5_addRow_18 ?_
    refine g_iadd (pc := 19) hX dX5_addRow_19 ?_
    refine g_put (pc := 20) hX (ci := 5) (fun _ h => List.mem_cons_of_mem _ (List.mem_append_right _ h)) rfl tyX5 tyX5_ok nmX5 k hk ek 3 (by decide) (List.mem_of_getElem? (i := 1) rfl) rfl rfl (tyX5_ok 3 (by decide)) rfl (fit_int _) (Nat.le_of_ble_eq_true rfl) dX5_addRow_20 ?_
    refine g_at rfl rfl rfl (S2 := (va_up S k (.inr (5, [vI (rm), vI (wd), .ref (gw_ad w k1), vI (cn + 1)])))) rfl ?_
    refine g_aload_n (pc := 23) hX 0 rfl dX5_addRow_23 ?_
    refine g_get (pc := 24) hX (ci := 5) (fun _ h => List.mem_cons_of_mem _ (List.mem_append_right _ h)) rfl k hk (up_eq _ _ _) 3 (by decide) (List.mem_of_getElem? (i := 1) rfl) rfl (v := vI (cn + 1)) rfl dX5_addRow_24 ?_
    refine g_iconst (pc := 27) hX dX5_addRow_27 ?_
    refine g_isub (pc := 28) hX dX5_addRow_28 ?_
    refine g_iret (pc := 29) hX hR dX5_addRow_29 ?_
    exact ⟨vI_c (by omega), rfl⟩
  · skip
    exact absurd hlt (by omega)

set_option maxHeartbeats 4000000 in
set_option maxRecDepth 100000 in
theorem c_X5_cell {w : gW} {l : Launch} {S : Nat → va_E} {k k1 n : Nat} {rm wd cn : Int} {P : Int → Int → Int} (hk : k < gw_N w) (hk1 : k1 < gw_N w) (ek : S k = OT w rm wd k1 cn) (ek1 : S k1 = AT w n wd P) {row col : Int} (hn : rm * wd ≤ n) (hn2 : n ≤ 2147483647) (hrm : inI rm) (hwd : inI wd) (hrow : inI row) (hcol : inI col) :
    GM1 w l yX5_cell wsX5_cell { frames := 0, cells := 0, slots := 0, locals := 0 } [.ref (gw_ad w k), vI (row), vI (col)] S
      (fun v S' => v = vI (tcell rm wd P row col) ∧ S' = S) := by
  refine GM.start (own := RX5) (n := "cell") (d := "(II)I") (by decide) rfl (Nat.le_of_ble_eq_true rfl) ?_
  intro X hX hR hXl
  subst hXl
  refine g_at rfl (lv2 := [(0, .ref (gw_ad w k)), (1, vI (row)), (2, vI (col))]) rfl rfl rfl ?_
  refine g_iload_n (pc := 0) hX 1 rfl dX5_cell_0 ?_
  refine g_if_lt (pc := 1) (tgt := 24) hX (by first | assumption | exact inI_mk (by omega) (by omega)) dX5_cell_1 (by decide) (fun c_1 => ?_) (fun c_1 => ?_)
  · skip
    refine g_iconst (pc := 24) hX dX5_cell_24 ?_
    refine g_iret (pc := 25) hX hR dX5_cell_25 ?_
    exact ⟨vI_c (tcell_out (by omega)).symm, rfl⟩
  · skip
    refine g_iload_n (pc := 4) hX 1 rfl dX5_cell_4 ?_
    refine g_aload_n (pc := 5) hX 0 rfl dX5_cell_5 ?_
    refine g_get (pc := 6) hX (ci := 5) (fun _ h => List.mem_cons_of_mem _ (List.mem_append_right _ h)) rfl k hk ek 0 (by decide) (List.mem_of_getElem? (i := 1) rfl) rfl (v := vI (rm)) rfl dX5_cell_6 ?_
    refine g_icmp_ge (pc := 9) (tgt := 24) hX (by first | assumption | exact inI_mk (by omega) (by omega)) (by first | assumption | exact inI_mk (by omega) (by omega)) dX5_cell_9 (by decide) (fun c_9 => ?_) (fun c_9 => ?_)
    · skip
      refine g_iconst (pc := 24) hX dX5_cell_24 ?_
      refine g_iret (pc := 25) hX hR dX5_cell_25 ?_
      exact ⟨vI_c (tcell_out (by omega)).symm, rfl⟩
    · skip
      refine g_iload_n (pc := 12) hX 2 rfl dX5_cell_12 ?_
      refine g_if_lt (pc := 13) (tgt := 24) hX (by first | assumption | exact inI_mk (by omega) (by omega)) dX5_cell_13 (by decide) (fun c_13 => ?_) (fun c_13 => ?_)
      · skip
        refine g_iconst (pc := 24) hX dX5_cell_24 ?_
        refine g_iret (pc := 25) hX hR dX5_cell_25 ?_
        exact ⟨vI_c (tcell_out (by omega)).symm, rfl⟩
      · skip
        refine g_iload_n (pc := 16) hX 2 rfl dX5_cell_16 ?_
        refine g_aload_n (pc := 17) hX 0 rfl dX5_cell_17 ?_
        refine g_get (pc := 18) hX (ci := 5) (fun _ h => List.mem_cons_of_mem _ (List.mem_append_right _ h)) rfl k hk ek 1 (by decide) (List.mem_of_getElem? (i := 2) rfl) rfl (v := vI (wd)) rfl dX5_cell_18 ?_
        refine g_icmp_lt (pc := 21) (tgt := 26) hX (by first | assumption | exact inI_mk (by omega) (by omega)) (by first | assumption | exact inI_mk (by omega) (by omega)) dX5_cell_21 (by decide) (fun c_21 => ?_) (fun c_21 => ?_)
        · skip
          refine g_aload_n (pc := 26) hX 0 rfl dX5_cell_26 ?_
          refine g_get (pc := 27) hX (ci := 5) (fun _ h => List.mem_cons_of_mem _ (List.mem_append_right _ h)) rfl k hk ek 2 (by decide) (List.mem_of_getElem? (i := 3) rfl) rfl (v := .ref (gw_ad w k1)) rfl dX5_cell_27 ?_
          refine g_iload_n (pc := 30) hX 1 rfl dX5_cell_30 ?_
          refine g_aload_n (pc := 31) hX 0 rfl dX5_cell_31 ?_
          refine g_get (pc := 32) hX (ci := 5) (fun _ h => List.mem_cons_of_mem _ (List.mem_append_right _ h)) rfl k hk ek 1 (by decide) (List.mem_of_getElem? (i := 2) rfl) rfl (v := vI (wd)) rfl dX5_cell_32 ?_
          refine g_imul (pc := 35) hX dX5_cell_35 ?_
          refine g_iload_n (pc := 36) hX 2 rfl dX5_cell_36 ?_
          refine g_iadd (pc := 37) hX dX5_cell_37 ?_
          refine g_iald (pc := 38) hX k1 hk1 ek1 (idx_in hn c_1 c_9 c_13 c_21).1 (idx_in hn c_1 c_9 c_13 c_21).2 hn2 dX5_cell_38 ?_
          refine g_iret (pc := 39) hX hR dX5_cell_39 ?_
          exact ⟨vI_c (by rw [tcell_in c_1 c_9 c_13 c_21]; exact fl_at P c_13 c_21), rfl⟩
        · skip
          refine g_iconst (pc := 24) hX dX5_cell_24 ?_
          refine g_iret (pc := 25) hX hR dX5_cell_25 ?_
          exact ⟨vI_c (tcell_out (by omega)).symm, rfl⟩

set_option maxHeartbeats 4000000 in
set_option maxRecDepth 100000 in
theorem c_X5_put {w : gW} {l : Launch} {S : Nat → va_E} {k k1 n : Nat} {rm wd cn : Int} {P : Int → Int → Int} (hk : k < gw_N w) (hk1 : k1 < gw_N w) (ek : S k = OT w rm wd k1 cn) (ek1 : S k1 = AT w n wd P) {row col x : Int} (hn : rm * wd ≤ n) (hn2 : n ≤ 2147483647) (hrm : inI rm) (hwd : inI wd) (hrow : inI row) (hcol : inI col) :
    GM0 w l yX5_put wsX5_put { frames := 0, cells := 0, slots := 0, locals := 0 } [.ref (gw_ad w k), vI (row), vI (col), vI (x)] S
      (fun S' => S' = va_up S k1 (AT w n wd (tput rm wd P row col x))) := by
  refine GM.start (own := RX5) (n := "put") (d := "(III)V") (by decide) rfl (Nat.le_of_ble_eq_true rfl) ?_
  intro X hX hR hXl
  subst hXl
  refine g_at rfl (lv2 := [(0, .ref (gw_ad w k)), (1, vI (row)), (2, vI (col)), (3, vI (x))]) rfl rfl rfl ?_
  refine g_iload_n (pc := 0) hX 1 rfl dX5_put_0 ?_
  refine g_if_lt (pc := 1) (tgt := 38) hX (by first | assumption | exact inI_mk (by omega) (by omega)) dX5_put_1 (by decide) (fun c_1 => ?_) (fun c_1 => ?_)
  · skip
    refine g_vret (pc := 38) hX hR dX5_put_38 ?_
    exact (up_self (by rw [ek1, tput_out (by omega)])).symm
  · skip
    refine g_iload_n (pc := 4) hX 1 rfl dX5_put_4 ?_
    refine g_aload_n (pc := 5) hX 0 rfl dX5_put_5 ?_
    refine g_get (pc := 6) hX (ci := 5) (fun _ h => List.mem_cons_of_mem _ (List.mem_append_right _ h)) rfl k hk ek 0 (by decide) (List.mem_of_getElem? (i := 1) rfl) rfl (v := vI (rm)) rfl dX5_put_6 ?_
    refine g_icmp_ge (pc := 9) (tgt := 38) hX (by first | assumption | exact inI_mk (by omega) (by omega)) (by first | assumption | exact inI_mk (by omega) (by omega)) dX5_put_9 (by decide) (fun c_9 => ?_) (fun c_9 => ?_)
    · skip
      refine g_vret (pc := 38) hX hR dX5_put_38 ?_
      exact (up_self (by rw [ek1, tput_out (by omega)])).symm
    · skip
      refine g_iload_n (pc := 12) hX 2 rfl dX5_put_12 ?_
      refine g_if_lt (pc := 13) (tgt := 38) hX (by first | assumption | exact inI_mk (by omega) (by omega)) dX5_put_13 (by decide) (fun c_13 => ?_) (fun c_13 => ?_)
      · skip
        refine g_vret (pc := 38) hX hR dX5_put_38 ?_
        exact (up_self (by rw [ek1, tput_out (by omega)])).symm
      · skip
        refine g_iload_n (pc := 16) hX 2 rfl dX5_put_16 ?_
        refine g_aload_n (pc := 17) hX 0 rfl dX5_put_17 ?_
        refine g_get (pc := 18) hX (ci := 5) (fun _ h => List.mem_cons_of_mem _ (List.mem_append_right _ h)) rfl k hk ek 1 (by decide) (List.mem_of_getElem? (i := 2) rfl) rfl (v := vI (wd)) rfl dX5_put_18 ?_
        refine g_icmp_ge (pc := 21) (tgt := 38) hX (by first | assumption | exact inI_mk (by omega) (by omega)) (by first | assumption | exact inI_mk (by omega) (by omega)) dX5_put_21 (by decide) (fun c_21 => ?_) (fun c_21 => ?_)
        · skip
          refine g_vret (pc := 38) hX hR dX5_put_38 ?_
          exact (up_self (by rw [ek1, tput_out (by omega)])).symm
        · skip
          refine g_aload_n (pc := 24) hX 0 rfl dX5_put_24 ?_
          refine g_get (pc := 25) hX (ci := 5) (fun _ h => List.mem_cons_of_mem _ (List.mem_append_right _ h)) rfl k hk ek 2 (by decide) (List.mem_of_getElem? (i := 3) rfl) rfl (v := .ref (gw_ad w k1)) rfl dX5_put_25 ?_
          refine g_iload_n (pc := 28) hX 1 rfl dX5_put_28 ?_
          refine g_aload_n (pc := 29) hX 0 rfl dX5_put_29 ?_
          refine g_get (pc := 30) hX (ci := 5) (fun _ h => List.mem_cons_of_mem _ (List.mem_append_right _ h)) rfl k hk ek 1 (by decide) (List.mem_of_getElem? (i := 2) rfl) rfl (v := vI (wd)) rfl dX5_put_30 ?_
          refine g_imul (pc := 33) hX dX5_put_33 ?_
          refine g_iload_n (pc := 34) hX 2 rfl dX5_put_34 ?_
          refine g_iadd (pc := 35) hX dX5_put_35 ?_
          refine g_iload_n (pc := 36) hX 3 rfl dX5_put_36 ?_
          refine g_iast (pc := 37) hX k1 hk1 ek1 (idx_in hn c_1 c_9 c_13 c_21).1 (idx_in hn c_1 c_9 c_13 c_21).2 hn2 dX5_put_37 ?_
          refine g_at rfl rfl rfl (S2 := (va_up S k1 (AI w n (updZ (fl wd P) ((row * wd) + col) (x))))) rfl ?_
          refine g_vret (pc := 38) hX hR dX5_put_38 ?_
          rw [fl_upd P x c_13 c_21, tput_in c_1 c_9 c_13 c_21]

set_option maxHeartbeats 4000000 in
set_option maxRecDepth 100000 in
theorem c_X5_copyRow {w : gW} {l : Launch} {S : Nat → va_E} {k k1 n : Nat} {rm wd cn : Int} {P : Int → Int → Int} (hk : k < gw_N w) (hk1 : k1 < gw_N w) (ek : S k = OT w rm wd k1 cn) (ek1 : S k1 = AT w n wd P){q q1 n2 : Nat} {rm2 wd2 cn2 : Int} {Q : Int → Int → Int} (hq : q < gw_N w) (hq1 : q1 < gw_N w) (eq : S q = OT w rm2 wd2 q1 cn2) (eq1 : S q1 = AT w n2 wd2 Q) {row fr : Int} (hn : rm * wd ≤ n) (hn2 : n ≤ 2147483647) (hrm : inI rm) (hwd : inI wd) (hm : rm2 * wd2 ≤ n2) (hm2 : n2 ≤ 2147483647) (hrm2 : inI rm2) (hwd2 : inI wd2) (hrow : inI row) (hfr : inI fr) (h0 : 0 ≤ row) (h1 : row < rm) (h2 : 0 < wd) (nkk : k ≠ k1) (nqk : q ≠ k1) (nqk1 : q1 ≠ k1) :
    GM0 w l yX5_copyRow wsX5_copyRow { frames := 1, cells := 0, slots := 0, locals := 23 } [.ref (gw_ad w k), vI (row), .ref (gw_ad w q), vI (fr)] S
      (fun S' => S' = va_up S k1 (AT w n wd (fun i j => if i = row then (tcell rm2 wd2 Q fr) j else P i j))) := by
  refine GM.start (own := RX5) (n := "copyRow") (d := "(ILParcelDesk$Table;I)V") (by decide) rfl (Nat.le_of_ble_eq_true rfl) ?_
  intro X hX hR hXl
  subst hXl
  refine g_at rfl (lv2 := [(0, .ref (gw_ad w k)), (1, vI (row)), (2, .ref (gw_ad w q)), (3, vI (fr))]) rfl rfl rfl ?_
  have hwdA := hwd.1; have hwdB := hwd.2
  refine g_iconst (pc := 0) hX dX5_copyRow_0 ?_
  refine g_istore (pc := 1) hX (lv2 := [(4, vI (0)), (0, .ref (gw_ad w k)), (1, vI (row)), (2, .ref (gw_ad w q)), (3, vI (fr))]) (by decide) rfl dX5_copyRow_1 ?_
  have loop : ∀ (n0 : Nat) (c : Int), 0 ≤ c → c ≤ wd → wd - c < n0 → G w { frames := 1, cells := 0, slots := 0, locals := 23 } X 5 3 [(4, vI (c)), (0, .ref (gw_ad w k)), (1, vI (row)), (2, .ref (gw_ad w q)), (3, vI (fr))] [] (va_up S k1 (AT w n wd (crow row (tcell rm2 wd2 Q fr) c P))) := by
    intro n0
    induction n0 with
    | zero => intro c h1c h2c h3c; exact absurd h3c (by omega)
    | succ n0 ihloop =>
      intro c h1c h2c h3c 
      have hc : inI c := inI_mk (by omega) (by omega)
      refine g_iload (pc := 3) hX 0 rfl dX5_copyRow_3 ?_
      refine g_aload_n (pc := 5) hX 1 rfl dX5_copyRow_5 ?_
      refine g_get (pc := 6) hX (ci := 5) (fun _ h => List.mem_cons_of_mem _ (List.mem_append_right _ h)) rfl k hk (up_ne nkk ek) 1 (by decide) (List.mem_of_getElem? (i := 1) rfl) rfl (v := vI (wd)) rfl dX5_copyRow_6 ?_
      refine g_icmp_ge (pc := 9) (tgt := 32) hX (by first | assumption | exact inI_mk (by omega) (by omega)) (by first | assumption | exact inI_mk (by omega) (by omega)) dX5_copyRow_9 (by decide) (fun c_9 => ?_) (fun c_9 => ?_)
      · skip
        refine g_vret (pc := 32) hX hR dX5_copyRow_32 ?_
        rw [AT_congr w n (by omega) (fun i j h1 h2 h3 => ?_)]
        unfold crow
        by_cases hi : i = row
        · rw [if_pos ⟨hi, by omega⟩, if_pos hi]
        · rw [if_neg (fun z => hi z.1), if_neg hi]
      · skip
        refine g_aload_n (pc := 12) hX 1 rfl dX5_copyRow_12 ?_
        refine g_iload_n (pc := 13) hX 2 rfl dX5_copyRow_13 ?_
        refine g_iload (pc := 14) hX 0 rfl dX5_copyRow_14 ?_
        refine g_aload_n (pc := 16) hX 3 rfl dX5_copyRow_16 ?_
        refine g_iload_n (pc := 17) hX 4 rfl dX5_copyRow_17 ?_
        refine g_iload (pc := 18) hX 0 rfl dX5_copyRow_18 ?_
        refine g_callV1 (pc := 20) (ci := 5) (As := [vI (fr), vI (c)]) (st2 := [vI (c), vI (row), .ref (gw_ad w k)]) hX q hq (up_ne nqk eq) rfl (c_X5_cell hq hq1 (up_ne nqk eq) (up_ne nqk1 eq1) hm hm2 hrm2 hwd2 (by first | assumption | exact inI_mk (by omega) (by omega)) (by first | assumption | exact inI_mk (by omega) (by omega))) gX5_copyRow_X5_cell (n := 2) (hw := rfl) (hrc := rfl) (hrs := rfl) (hd := by decide +kernel) (hR := ⟨Nat.le_of_ble_eq_true rfl, Nat.le_of_ble_eq_true rfl⟩) (hn := rfl) (hst := rfl) (hsum := Nat.le_of_ble_eq_true rfl) (hdg := dX5_copyRow_20) ?_
        rintro _ S9 ⟨rfl, e9⟩
        rw [e9]
        clear e9 S9
        refine g_at (pc2 := 23) rfl rfl (st2 := [vI (tcell rm2 wd2 Q fr c), vI (c), vI (row), .ref (gw_ad w k)]) rfl (S2 := (va_up S k1 (AT w n wd (crow row (tcell rm2 wd2 Q fr) c P)))) rfl ?_
        refine g_callV0 (pc := 23) (ci := 5) (As := [vI (row), vI (c), vI (tcell rm2 wd2 Q fr c)]) (st2 := []) hX k hk (up_ne nkk ek) rfl (c_X5_put hk hk1 (up_ne nkk ek) (up_eq _ _ _) hn hn2 hrm hwd (by first | assumption | exact inI_mk (by omega) (by omega)) (by first | assumption | exact inI_mk (by omega) (by omega))) gX5_copyRow_X5_put (n := 3) (hw := rfl) (hrc := rfl) (hrs := rfl) (hd := by decide +kernel) (hR := ⟨Nat.le_of_ble_eq_true rfl, Nat.le_of_ble_eq_true rfl⟩) (hn := rfl) (hst := rfl) (hsum := Nat.le_of_ble_eq_true rfl) (hdg := dX5_copyRow_23) ?_
        rintro _ rfl
        refine g_at (pc2 := 26) rfl rfl (st2 := []) rfl (S2 := (va_up (va_up S k1 (AT w n wd (crow row (tcell rm2 wd2 Q fr) c P))) k1 (AI w n (fl wd (tput rm wd (crow row (tcell rm2 wd2 Q fr) c P) row c (tcell rm2 wd2 Q fr c)))))) rfl ?_
        refine g_iinc (pc := 26) hX (lv2 := [(4, vI (c + 1)), (0, .ref (gw_ad w k)), (1, vI (row)), (2, .ref (gw_ad w q)), (3, vI (fr))]) 0 rfl (by decide) rfl dX5_copyRow_26 ?_
        refine g_goto (pc := 29) (tgt := 3) hX dX5_copyRow_29 (by decide) ?_
        refine g_sub (lv2 := [(4, vI (c + 1)), (0, .ref (gw_ad w k)), (1, vI (row)), (2, .ref (gw_ad w q)), (3, vI (fr))]) [0, 1, 2, 3, 4] rfl ?_
        refine g_at rfl (lv2 := [(4, vI (c + 1)), (0, .ref (gw_ad w k)), (1, vI (row)), (2, .ref (gw_ad w q)), (3, vI (fr))]) (rfl) rfl (S2 := (va_up S k1 (AT w n wd (crow row (tcell rm2 wd2 Q fr) (c + 1) P)))) (by rw [up_up, crow_step h0 h1 h1c c_9]) ?_
        exact ihloop (c + 1) (by omega) (by omega) (by omega) 
  refine g_sub (lv2 := [(4, vI (0)), (0, .ref (gw_ad w k)), (1, vI (row)), (2, .ref (gw_ad w q)), (3, vI (fr))]) [0, 1, 2, 3, 4] rfl ?_
  refine g_at rfl (lv2 := [(4, vI (0)), (0, .ref (gw_ad w k)), (1, vI (row)), (2, .ref (gw_ad w q)), (3, vI (fr))]) (rfl) rfl (S2 := (va_up S k1 (AT w n wd (crow row (tcell rm2 wd2 Q fr) 0 P)))) ((up_self (by rw [ek1]; exact (AT_congr w n h2 (fun i j _ h2 _ => if_neg (fun z => absurd z.2 (by omega)))).symm)).symm) ?_
  exact loop (wd - 0 + 1).toNat 0 (by omega) (by omega) (by omega) 

set_option maxHeartbeats 4000000 in
set_option maxRecDepth 100000 in
theorem c_X5_columnSum {w : gW} {l : Launch} {S : Nat → va_E} {k k1 n : Nat} {rm wd cn : Int} {P : Int → Int → Int} (hk : k < gw_N w) (hk1 : k1 < gw_N w) (ek : S k = OT w rm wd k1 cn) (ek1 : S k1 = AT w n wd P) {col : Int} (hn : rm * wd ≤ n) (hn2 : n ≤ 2147483647) (hrm : inI rm) (hwd : inI wd) (hcol : inI col) (hcn : inI cn) (h0 : 0 ≤ cn) (hP : ∀ i j, inI (P i j)) :
    GM1 w l yX5_columnSum wsX5_columnSum { frames := 1, cells := 0, slots := 0, locals := 22 } [.ref (gw_ad w k), vI (col)] S
      (fun v S' => v = vL (zsum (fun r => tcell rm wd P r col) cn.toNat) ∧ S' = S) := by
  refine GM.start (own := RX5) (n := "columnSum") (d := "(I)J") (by decide) rfl (Nat.le_of_ble_eq_true rfl) ?_
  intro X hX hR hXl
  subst hXl
  refine g_at rfl (lv2 := [(0, .ref (gw_ad w k)), (1, vI (col))]) rfl rfl rfl ?_
  have hcA := hcn.1; have hcB := hcn.2
  refine g_lconst (pc := 0) hX (z := 0) rfl dX5_columnSum_0 ?_
  refine g_lstore_n (pc := 1) hX (lv2 := [(2, vL (0)), (0, .ref (gw_ad w k)), (1, vI (col))]) rfl (by decide) rfl dX5_columnSum_1 ?_
  refine g_iconst (pc := 2) hX dX5_columnSum_2 ?_
  refine g_istore (pc := 3) hX (lv2 := [(4, vI (0)), (2, vL (0)), (0, .ref (gw_ad w k)), (1, vI (col))]) (by decide) rfl dX5_columnSum_3 ?_
  have loop : ∀ (n0 : Nat) (c : Int), 0 ≤ c → c ≤ cn → cn - c < n0 → G w { frames := 1, cells := 0, slots := 0, locals := 22 } X 5 5 [(4, vI (c)), (0, .ref (gw_ad w k)), (1, vI (col)), (2, vL (zsum (fun r => tcell rm wd P r col) (c : Int).toNat))] [] S := by
    intro n0
    induction n0 with
    | zero => intro c h1c h2c h3c; exact absurd h3c (by omega)
    | succ n0 ihloop =>
      intro c h1c h2c h3c 
      have hc : inI c := inI_mk (by omega) (by omega)
      refine g_iload (pc := 5) hX 0 rfl dX5_columnSum_5 ?_
      refine g_aload_n (pc := 7) hX 1 rfl dX5_columnSum_7 ?_
      refine g_get (pc := 8) hX (ci := 5) (fun _ h => List.mem_cons_of_mem _ (List.mem_append_right _ h)) rfl k hk ek 3 (by decide) (List.mem_of_getElem? (i := 1) rfl) rfl (v := vI (cn)) rfl dX5_columnSum_8 ?_
      refine g_icmp_ge (pc := 11) (tgt := 31) hX (by first | assumption | exact inI_mk (by omega) (by omega)) (by first | assumption | exact inI_mk (by omega) (by omega)) dX5_columnSum_11 (by decide) (fun c_11 => ?_) (fun c_11 => ?_)
      · skip
        refine g_lload_n (pc := 31) hX 3 rfl dX5_columnSum_31 ?_
        refine g_lret (pc := 32) hX hR dX5_columnSum_32 ?_
        exact ⟨vL_c (by rw [show c = cn by omega]), rfl⟩
      · skip
        refine g_lload_n (pc := 14) hX 3 rfl dX5_columnSum_14 ?_
        refine g_aload_n (pc := 15) hX 1 rfl dX5_columnSum_15 ?_
        refine g_iload (pc := 16) hX 0 rfl dX5_columnSum_16 ?_
        refine g_iload_n (pc := 18) hX 2 rfl dX5_columnSum_18 ?_
        refine g_callV1 (pc := 19) (ci := 5) (As := [vI (c), vI (col)]) (st2 := [vL (zsum (fun r => tcell rm wd P r col) (c : Int).toNat)]) hX k hk ek rfl (c_X5_cell hk hk1 ek ek1 hn hn2 hrm hwd (by first | assumption | exact inI_mk (by omega) (by omega)) (by first | assumption | exact inI_mk (by omega) (by omega))) gX5_columnSum_X5_cell (n := 2) (hw := rfl) (hrc := rfl) (hrs := rfl) (hd := by decide +kernel) (hR := ⟨Nat.le_of_ble_eq_true rfl, Nat.le_of_ble_eq_true rfl⟩) (hn := rfl) (hst := rfl) (hsum := Nat.le_of_ble_eq_true rfl) (hdg := dX5_columnSum_19) ?_
        rintro _ S9 ⟨rfl, e9⟩
        rw [e9]
        clear e9 S9
        refine g_at (pc2 := 22) rfl rfl (st2 := [vI (tcell rm wd P c col), vL (zsum (fun r => tcell rm wd P r col) (c : Int).toNat)]) rfl (S2 := S) rfl ?_
        refine g_i2l (pc := 22) hX (inI_tcell hP) dX5_columnSum_22 ?_
        refine g_ladd (pc := 23) hX dX5_columnSum_23 ?_
        refine g_lstore_n (pc := 24) hX (lv2 := [(2, vL ((zsum (fun r => tcell rm wd P r col) (c : Int).toNat) + (tcell rm wd P c col))), (4, vI (c)), (0, .ref (gw_ad w k)), (1, vI (col))]) rfl (by decide) rfl dX5_columnSum_24 ?_
        refine g_iinc (pc := 25) hX (lv2 := [(4, vI (c + 1)), (2, vL ((zsum (fun r => tcell rm wd P r col) (c : Int).toNat) + (tcell rm wd P c col))), (0, .ref (gw_ad w k)), (1, vI (col))]) 1 rfl (by decide) rfl dX5_columnSum_25 ?_
        refine g_goto (pc := 28) (tgt := 5) hX dX5_columnSum_28 (by decide) ?_
        refine g_sub (lv2 := [(4, vI (c + 1)), (0, .ref (gw_ad w k)), (1, vI (col)), (2, vL ((zsum (fun r => tcell rm wd P r col) (c : Int).toNat) + (tcell rm wd P c col)))]) [0, 2, 3, 1] rfl ?_
        refine g_at rfl (lv2 := [(4, vI (c + 1)), (0, .ref (gw_ad w k)), (1, vI (col)), (2, vL (zsum (fun r => tcell rm wd P r col) (c + 1 : Int).toNat))]) (by rw [zsum_s _ h1c]) rfl (S2 := S) (rfl) ?_
        exact ihloop (c + 1) (by omega) (by omega) (by omega) 
  refine g_sub (lv2 := [(4, vI (0)), (0, .ref (gw_ad w k)), (1, vI (col)), (2, vL (0))]) [0, 2, 3, 1] rfl ?_
  refine g_at rfl (lv2 := [(4, vI (0)), (0, .ref (gw_ad w k)), (1, vI (col)), (2, vL (zsum (fun r => tcell rm wd P r col) (0 : Int).toNat))]) (rfl) rfl (S2 := S) (rfl) ?_
  exact loop (cn - 0 + 1).toNat 0 (by omega) (by omega) (by omega) 

set_option maxHeartbeats 4000000 in
set_option maxRecDepth 100000 in
theorem c_X5_rowsWith {w : gW} {l : Launch} {S : Nat → va_E} {k k1 n : Nat} {rm wd cn : Int} {P : Int → Int → Int} (hk : k < gw_N w) (hk1 : k1 < gw_N w) (ek : S k = OT w rm wd k1 cn) (ek1 : S k1 = AT w n wd P) {col x : Int} (hn : rm * wd ≤ n) (hn2 : n ≤ 2147483647) (hrm : inI rm) (hwd : inI wd) (hcol : inI col) (hcn : inI cn) (h0 : 0 ≤ cn) (hP : ∀ i j, inI (P i j)) (hx : inI x) :
    GM1 w l yX5_rowsWith wsX5_rowsWith { frames := 1, cells := 0, slots := 0, locals := 22 } [.ref (gw_ad w k), vI (col), vI (x)] S
      (fun v S' => v = vI (zsum (fun r => if tcell rm wd P r col = x then 1 else 0) cn.toNat) ∧ S' = S) := by
  refine GM.start (own := RX5) (n := "rowsWith") (d := "(II)I") (by decide) rfl (Nat.le_of_ble_eq_true rfl) ?_
  intro X hX hR hXl
  subst hXl
  refine g_at rfl (lv2 := [(0, .ref (gw_ad w k)), (1, vI (col)), (2, vI (x))]) rfl rfl rfl ?_
  have hcA := hcn.1; have hcB := hcn.2
  refine g_iconst (pc := 0) hX dX5_rowsWith_0 ?_
  refine g_istore_n (pc := 1) hX (lv2 := [(3, vI (0)), (0, .ref (gw_ad w k)), (1, vI (col)), (2, vI (x))]) rfl (by decide) rfl dX5_rowsWith_1 ?_
  refine g_iconst (pc := 2) hX dX5_rowsWith_2 ?_
  refine g_istore (pc := 3) hX (lv2 := [(4, vI (0)), (3, vI (0)), (0, .ref (gw_ad w k)), (1, vI (col)), (2, vI (x))]) (by decide) rfl dX5_rowsWith_3 ?_
  have loop : ∀ (n0 : Nat) (c : Int), 0 ≤ c → c ≤ cn → cn - c < n0 → G w { frames := 1, cells := 0, slots := 0, locals := 22 } X 5 5 [(4, vI (c)), (0, .ref (gw_ad w k)), (1, vI (col)), (2, vI (x)), (3, vI (zsum (fun r => if tcell rm wd P r col = x then 1 else 0) (c : Int).toNat))] [] S := by
    intro n0
    induction n0 with
    | zero => intro c h1c h2c h3c; exact absurd h3c (by omega)
    | succ n0 ihloop =>
      intro c h1c h2c h3c 
      have hc : inI c := inI_mk (by omega) (by omega)
      refine g_iload (pc := 5) hX 0 rfl dX5_rowsWith_5 ?_
      refine g_aload_n (pc := 7) hX 1 rfl dX5_rowsWith_7 ?_
      refine g_get (pc := 8) hX (ci := 5) (fun _ h => List.mem_cons_of_mem _ (List.mem_append_right _ h)) rfl k hk ek 3 (by decide) (List.mem_of_getElem? (i := 1) rfl) rfl (v := vI (cn)) rfl dX5_rowsWith_8 ?_
      refine g_icmp_ge (pc := 11) (tgt := 34) hX (by first | assumption | exact inI_mk (by omega) (by omega)) (by first | assumption | exact inI_mk (by omega) (by omega)) dX5_rowsWith_11 (by decide) (fun c_11 => ?_) (fun c_11 => ?_)
      · skip
        refine g_iload_n (pc := 34) hX 4 rfl dX5_rowsWith_34 ?_
        refine g_iret (pc := 35) hX hR dX5_rowsWith_35 ?_
        exact ⟨vI_c (by rw [show c = cn by omega]), rfl⟩
      · skip
        refine g_aload_n (pc := 14) hX 1 rfl dX5_rowsWith_14 ?_
        refine g_iload (pc := 15) hX 0 rfl dX5_rowsWith_15 ?_
        refine g_iload_n (pc := 17) hX 2 rfl dX5_rowsWith_17 ?_
        refine g_callV1 (pc := 18) (ci := 5) (As := [vI (c), vI (col)]) (st2 := []) hX k hk ek rfl (c_X5_cell hk hk1 ek ek1 hn hn2 hrm hwd (by first | assumption | exact inI_mk (by omega) (by omega)) (by first | assumption | exact inI_mk (by omega) (by omega))) gX5_rowsWith_X5_cell (n := 2) (hw := rfl) (hrc := rfl) (hrs := rfl) (hd := by decide +kernel) (hR := ⟨Nat.le_of_ble_eq_true rfl, Nat.le_of_ble_eq_true rfl⟩) (hn := rfl) (hst := rfl) (hsum := Nat.le_of_ble_eq_true rfl) (hdg := dX5_rowsWith_18) ?_
        rintro _ S9 ⟨rfl, e9⟩
        rw [e9]
        clear e9 S9
        refine g_at (pc2 := 21) rfl rfl (st2 := [vI (tcell rm wd P c col)]) rfl (S2 := S) rfl ?_
        refine g_iload_n (pc := 21) hX 3 rfl dX5_rowsWith_21 ?_
        refine g_icmp_ne (pc := 22) (tgt := 28) hX (inI_tcell hP) (by first | assumption | exact inI_mk (by omega) (by omega)) dX5_rowsWith_22 (by decide) (fun c_22 => ?_) (fun c_22 => ?_)
        · skip
          refine g_iinc (pc := 28) hX (lv2 := [(4, vI (c + 1)), (0, .ref (gw_ad w k)), (1, vI (col)), (2, vI (x)), (3, vI (zsum (fun r => if tcell rm wd P r col = x then 1 else 0) (c : Int).toNat))]) 0 rfl (by decide) rfl dX5_rowsWith_28 ?_
          refine g_goto (pc := 31) (tgt := 5) hX dX5_rowsWith_31 (by decide) ?_
          refine g_sub (lv2 := [(4, vI (c + 1)), (0, .ref (gw_ad w k)), (1, vI (col)), (2, vI (x)), (3, vI (zsum (fun r => if tcell rm wd P r col = x then 1 else 0) (c : Int).toNat))]) [0, 1, 2, 3, 4] rfl ?_
          refine g_at rfl (lv2 := [(4, vI (c + 1)), (0, .ref (gw_ad w k)), (1, vI (col)), (2, vI (x)), (3, vI (zsum (fun r => if tcell rm wd P r col = x then 1 else 0) (c + 1 : Int).toNat))]) (by rw [zsum_s _ h1c, if_neg c_22, Int.add_zero]) rfl (S2 := S) (rfl) ?_
          exact ihloop (c + 1) (by omega) (by omega) (by omega) 
        · skip
          refine g_iinc (pc := 25) hX (lv2 := [(3, vI (zsum (fun r => if tcell rm wd P r col = x then 1 else 0) (c : Int).toNat + 1)), (4, vI (c)), (0, .ref (gw_ad w k)), (1, vI (col)), (2, vI (x))]) 4 rfl (by decide) rfl dX5_rowsWith_25 ?_
          refine g_iinc (pc := 28) hX (lv2 := [(4, vI (c + 1)), (3, vI (zsum (fun r => if tcell rm wd P r col = x then 1 else 0) (c : Int).toNat + 1)), (0, .ref (gw_ad w k)), (1, vI (col)), (2, vI (x))]) 1 rfl (by decide) rfl dX5_rowsWith_28 ?_
          refine g_goto (pc := 31) (tgt := 5) hX dX5_rowsWith_31 (by decide) ?_
          refine g_sub (lv2 := [(4, vI (c + 1)), (0, .ref (gw_ad w k)), (1, vI (col)), (2, vI (x)), (3, vI (zsum (fun r => if tcell rm wd P r col = x then 1 else 0) (c : Int).toNat + 1))]) [0, 2, 3, 4, 1] rfl ?_
          refine g_at rfl (lv2 := [(4, vI (c + 1)), (0, .ref (gw_ad w k)), (1, vI (col)), (2, vI (x)), (3, vI (zsum (fun r => if tcell rm wd P r col = x then 1 else 0) (c + 1 : Int).toNat))]) (by rw [zsum_s _ h1c, if_pos c_22]) rfl (S2 := S) (rfl) ?_
          exact ihloop (c + 1) (by omega) (by omega) (by omega) 
  refine g_sub (lv2 := [(4, vI (0)), (0, .ref (gw_ad w k)), (1, vI (col)), (2, vI (x)), (3, vI (0))]) [0, 2, 3, 4, 1] rfl ?_
  refine g_at rfl (lv2 := [(4, vI (0)), (0, .ref (gw_ad w k)), (1, vI (col)), (2, vI (x)), (3, vI (zsum (fun r => if tcell rm wd P r col = x then 1 else 0) (0 : Int).toNat))]) (rfl) rfl (S2 := S) (rfl) ?_
  exact loop (cn - 0 + 1).toNat 0 (by omega) (by omega) (by omega) 

set_option maxHeartbeats 4000000 in
set_option maxRecDepth 100000 in
theorem c_X5_copyFrom {w : gW} {l : Launch} {S : Nat → va_E} {k k1 q q1 n : Nat} {rm rm2 wd cn cn2 : Int} {P Q : Int → Int → Int} (hk : k < gw_N w) (hk1 : k1 < gw_N w) (ek : S k = OT w rm wd k1 cn) (ek1 : S k1 = AT w n wd P) (hq : q < gw_N w) (hq1 : q1 < gw_N w) (eq : S q = OT w rm2 wd q1 cn2) (eq1 : S q1 = AT w n wd Q) (hm : cn2 * wd ≤ n) (hn2 : n ≤ 2147483647) (hwd : inI wd) (hc2 : inI cn2) (h0 : 0 ≤ cn2) (h2 : 0 < wd) (nkk : k ≠ k1) (nqk : q ≠ k1) :
    GM0 w l yX5_copyFrom wsX5_copyFrom { frames := 1, cells := 0, slots := 0, locals := 21 } [.ref (gw_ad w k), .ref (gw_ad w q)] S
      (fun S' => S' = va_up (va_up S k1 (AT w n wd (fun i j => if i < cn2 then Q i j else P i j))) k (OT w rm wd k1 cn2)) := by
  refine GM.start (own := RX5) (n := "copyFrom") (d := "(LParcelDesk$Table;)V") (by decide) rfl (Nat.le_of_ble_eq_true rfl) ?_
  intro X hX hR hXl
  subst hXl
  refine g_at rfl (lv2 := [(0, .ref (gw_ad w k)), (1, .ref (gw_ad w q))]) rfl rfl rfl ?_
  have hp0 : 0 ≤ cn2 * wd := Int.mul_nonneg h0 (Int.le_of_lt h2)
  refine g_aload_n (pc := 0) hX 1 rfl dX5_copyFrom_0 ?_
  refine g_get (pc := 1) hX (ci := 5) (fun _ h => List.mem_cons_of_mem _ (List.mem_append_right _ h)) rfl q hq eq 3 (by decide) (List.mem_of_getElem? (i := 1) rfl) rfl (v := vI (cn2)) rfl dX5_copyFrom_1 ?_
  refine g_aload_n (pc := 4) hX 1 rfl dX5_copyFrom_4 ?_
  refine g_get (pc := 5) hX (ci := 5) (fun _ h => List.mem_cons_of_mem _ (List.mem_append_right _ h)) rfl q hq eq 1 (by decide) (List.mem_of_getElem? (i := 2) rfl) rfl (v := vI (wd)) rfl dX5_copyFrom_5 ?_
  refine g_imul (pc := 8) hX dX5_copyFrom_8 ?_
  refine g_aload_n (pc := 9) hX 1 rfl dX5_copyFrom_9 ?_
  refine g_get (pc := 10) hX (ci := 5) (fun _ h => List.mem_cons_of_mem _ (List.mem_append_right _ h)) rfl q hq eq 2 (by decide) (List.mem_of_getElem? (i := 3) rfl) rfl (v := .ref (gw_ad w q1)) rfl dX5_copyFrom_10 ?_
  refine g_alenAI (pc := 13) hX q1 hq1 eq1 dX5_copyFrom_13 ?_
  refine g_mmin (pc := 14) hX (by first | assumption | exact inI_mk (by omega) (by omega)) (by first | assumption | exact inI_mk (by omega) (by omega)) (List.mem_of_getElem? (i := 4) rfl) (List.mem_of_getElem? (i := 5) rfl) (List.mem_of_getElem? (i := 6) rfl) (List.mem_of_getElem? (i := 7) rfl) (Nat.le_of_ble_eq_true rfl) (Nat.le_of_ble_eq_true rfl) dX5_copyFrom_14 ?_
  obtain ⟨us, eus⟩ : ∃ z : Int, z = (if ((n : Nat) : Int) < cn2 * wd then ((n : Nat) : Int) else cn2 * wd) := ⟨_, rfl⟩
  refine g_at rfl rfl (st2 := [vI (us)]) (by rw [eus]) rfl ?_
  have hus : us = cn2 * wd := by rw [eus, if_neg (by omega)]
  refine g_istore_n (pc := 17) hX (lv2 := [(2, vI (us)), (0, .ref (gw_ad w k)), (1, .ref (gw_ad w q))]) rfl (by decide) rfl dX5_copyFrom_17 ?_
  refine g_iload_n (pc := 18) hX 0 rfl dX5_copyFrom_18 ?_
  refine g_if_le (pc := 19) (tgt := 45) hX (by first | assumption | exact inI_mk (by omega) (by omega)) dX5_copyFrom_19 (by decide) (fun c_19 => ?_) (fun c_19 => ?_)
  · skip
    refine g_aload_n (pc := 45) hX 1 rfl dX5_copyFrom_45 ?_
    refine g_aload_n (pc := 46) hX 2 rfl dX5_copyFrom_46 ?_
    refine g_get (pc := 47) hX (ci := 5) (fun _ h => List.mem_cons_of_mem _ (List.mem_append_right _ h)) rfl q hq eq 3 (by decide) (List.mem_of_getElem? (i := 1) rfl) rfl (v := vI (cn2)) rfl dX5_copyFrom_47 ?_
    refine g_put (pc := 50) hX (ci := 5) (fun _ h => List.mem_cons_of_mem _ (List.mem_append_right _ h)) rfl tyX5 tyX5_ok nmX5 k hk ek 3 (by decide) (List.mem_of_getElem? (i := 1) rfl) rfl rfl (tyX5_ok 3 (by decide)) rfl (fit_int _) (Nat.le_of_ble_eq_true rfl) dX5_copyFrom_50 ?_
    refine g_at rfl rfl rfl (S2 := (va_up S k (.inr (5, [vI (rm), vI (wd), .ref (gw_ad w k1), vI (cn2)])))) rfl ?_
    refine g_vret (pc := 53) hX hR dX5_copyFrom_53 ?_
    congr 1
    refine (up_self ?_).symm
    rw [ek1]
    exact AT_congr w n h2 (fun i j hi _ _ => (if_neg (fun z => absurd (Int.mul_le_mul_of_nonneg_right (show 1 ≤ cn2 by omega) (Int.le_of_lt h2)) (by omega))).symm)
  · skip
    refine g_iload_n (pc := 22) hX 0 rfl dX5_copyFrom_22 ?_
    refine g_aload_n (pc := 23) hX 1 rfl dX5_copyFrom_23 ?_
    refine g_get (pc := 24) hX (ci := 5) (fun _ h => List.mem_cons_of_mem _ (List.mem_append_right _ h)) rfl k hk ek 2 (by decide) (List.mem_of_getElem? (i := 3) rfl) rfl (v := .ref (gw_ad w k1)) rfl dX5_copyFrom_24 ?_
    refine g_alenAI (pc := 27) hX k1 hk1 ek1 dX5_copyFrom_27 ?_
    refine g_icmp_gt (pc := 28) (tgt := 45) hX (by first | assumption | exact inI_mk (by omega) (by omega)) (by first | assumption | exact inI_mk (by omega) (by omega)) dX5_copyFrom_28 (by decide) (fun c_28 => ?_) (fun c_28 => ?_)
    · skip
      exact absurd c_28 (by omega)
    · skip
      refine g_aload_n (pc := 31) hX 2 rfl dX5_copyFrom_31 ?_
      refine g_get (pc := 32) hX (ci := 5) (fun _ h => List.mem_cons_of_mem _ (List.mem_append_right _ h)) rfl q hq eq 2 (by decide) (List.mem_of_getElem? (i := 3) rfl) rfl (v := .ref (gw_ad w q1)) rfl dX5_copyFrom_32 ?_
      refine g_iconst (pc := 35) hX dX5_copyFrom_35 ?_
      refine g_aload_n (pc := 36) hX 1 rfl dX5_copyFrom_36 ?_
      refine g_get (pc := 37) hX (ci := 5) (fun _ h => List.mem_cons_of_mem _ (List.mem_append_right _ h)) rfl k hk ek 2 (by decide) (List.mem_of_getElem? (i := 3) rfl) rfl (v := .ref (gw_ad w k1)) rfl dX5_copyFrom_37 ?_
      refine g_iconst (pc := 40) hX dX5_copyFrom_40 ?_
      refine g_iload_n (pc := 41) hX 0 rfl dX5_copyFrom_41 ?_
      refine g_copyi (pc := 42) hX (List.mem_of_getElem? (i := 8) rfl) (List.mem_of_getElem? (i := 9) rfl) (List.mem_of_getElem? (i := 10) rfl) (List.mem_of_getElem? (i := 11) rfl) q1 k1 hq1 hk1 eq1 ek1 (by omega) (by omega) (by omega) (by omega) (Nat.le_of_ble_eq_true rfl) (Nat.le_of_ble_eq_true rfl) dX5_copyFrom_42 ?_
      refine g_at rfl rfl rfl (S2 := (va_up S k1 (AI w n (fun j => if j < us then (fl wd Q) j else (fl wd P) j)))) rfl ?_
      refine g_aload_n (pc := 45) hX 1 rfl dX5_copyFrom_45 ?_
      refine g_aload_n (pc := 46) hX 2 rfl dX5_copyFrom_46 ?_
      refine g_get (pc := 47) hX (ci := 5) (fun _ h => List.mem_cons_of_mem _ (List.mem_append_right _ h)) rfl q hq (up_ne nqk eq) 3 (by decide) (List.mem_of_getElem? (i := 1) rfl) rfl (v := vI (cn2)) rfl dX5_copyFrom_47 ?_
      refine g_put (pc := 50) hX (ci := 5) (fun _ h => List.mem_cons_of_mem _ (List.mem_append_right _ h)) rfl tyX5 tyX5_ok nmX5 k hk (up_ne nkk ek) 3 (by decide) (List.mem_of_getElem? (i := 1) rfl) rfl rfl (tyX5_ok 3 (by decide)) rfl (fit_int _) (Nat.le_of_ble_eq_true rfl) dX5_copyFrom_50 ?_
      refine g_at rfl rfl rfl (S2 := (va_up (va_up S k1 (AI w n (fun j => if j < us then (fl wd Q) j else (fl wd P) j))) k (.inr (5, [vI (rm), vI (wd), .ref (gw_ad w k1), vI (cn2)])))) rfl ?_
      refine g_vret (pc := 53) hX hR dX5_copyFrom_53 ?_
      rw [hus, fl_copy P Q h2]
