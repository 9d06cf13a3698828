def mrg (n : Int) (Q P : Int → Int → Int) : Int → Int → Int := fun i j => if i < n then Q i j else P i j
def factZ (f : Int → Int) : Int → Bool := fun t => cmpZ (if 0 ≤ colZ t ∧ colZ t < 22 then f (colZ t) else 0) (t % 100000) (t / 100000 % 3)
theorem fact_Z {P : Int → Int → Int} {rm row : Int} (h0 : 0 ≤ row) (h1 : row < rm) : fact P rm row = factZ (P row) := by
  funext t
  show cmpZ (tcell rm 22 P row (colZ t)) _ _ = _
  unfold factZ tcell
  by_cases h : 0 ≤ colZ t ∧ colZ t < 22
  · rw [if_pos ⟨h0, h1, h⟩, if_pos h]
  · rw [if_neg (fun q => h q.2.2), if_neg h]
theorem colZ_p {t : Int} (h : colZ t = 6 ∨ colZ t = 0) : 0 ≤ t := by
  unfold colZ at h
  by_cases h2 : t < 0
  · rw [if_pos (Or.inl h2)] at h; omega
  · omega
/-! ===== what a row becomes when it is priced ===== -/
def dimZ (F : Int → Int) (P : Int → Int → Int) (row : Int) : Int := (volZ (P row 1) (P row 2) (P row 3) * 1000 + F 6 - 1) / F 6
def bilZ (F : Int → Int) (real dim : Int) : Int := (mx real dim + F 7 - 1) / F 7 * F 7
def prA (F : Int → Int) (P : Int → Int → Int) (row : Int) : Int → Int → Int := upd2 (upd2 P row 5 (dimZ F P row)) row 6 (bilZ F (P row 0) (dimZ F P row))
def prB (F : Int → Int) (P : Int → Int → Int) (row : Int) : Int → Int → Int := rsn (upd2 (msr (prA F P row) row) row 11 0) row (wrZ (P row 0) (dimZ F P row))
def prC (F C E : Int → Int) (L Pr : Int → Int → Int) (P : Int → Int → Int) (row : Int) : Int → Int → Int := upd2 (rsn (prB F P row) row (brsZ C L (P row 4) (bilZ F (P row 0) (dimZ F P row)))) row 7 (baseZ C E L Pr (P row 4) (bilZ F (P row 0) (dimZ F P row)))
def prT (F C E : Int → Int) (L Pr : Int → Int → Int) (nR : Int) (R : Int → Int → Int) (P : Int → Int → Int) (row : Int) : Int → Int → Int := upd2 (chP (factZ (prC F C E L Pr P row row)) R (prC F C E L Pr P row) row nR.toNat) row 8 (chV (factZ (prC F C E L Pr P row row)) R (prC F C E L Pr P row row 7) nR.toNat)
theorem dv_b {x y n : Int} (h0 : 0 ≤ x) (hy : 1 ≤ y) (h : x ≤ n * y) : 0 ≤ (x + y - 1) / y ∧ (x + y - 1) / y ≤ n := by
  refine ⟨Int.ediv_nonneg (by omega) (by omega), ?_⟩
  have h2 : (x + y - 1) / y < n + 1 := Int.ediv_lt_of_lt_mul (by omega) (by rw [Int.add_mul]; omega)
  omega
theorem dimZ_b {F : Int → Int} {P : Int → Int → Int} {row : Int} (h6 : 1000 ≤ F 6) (s1 : 1 ≤ P row 1 ∧ P row 1 ≤ 2000) (s2 : 1 ≤ P row 2 ∧ P row 2 ≤ 2000) (s3 : 1 ≤ P row 3 ∧ P row 3 ≤ 2000) : 0 ≤ dimZ F P row ∧ dimZ F P row ≤ 8000000 := by
  have h := volZ_b s1 s2 s3
  unfold dimZ
  exact dv_b (by omega) (by omega) (by omega)
theorem bil_b {q x u : Int} (hu : 1 ≤ u ∧ u ≤ 1000) (h0 : 0 ≤ x) (hx : x ≤ 8000000) (e : q = (x + u - 1) / u) : (0 ≤ q ∧ q ≤ 8000000) ∧ (x ≤ q * u ∧ q * u ≤ x + 999) := by
  have h1 := Int.ediv_mul_le (x + u - 1) (show u ≠ 0 by omega)
  have h2 := Int.lt_ediv_add_one_mul_self (x + u - 1) (show 0 < u by omega)
  rw [← e] at h1 h2
  rw [Int.add_mul, Int.one_mul] at h2
  have h3 : x ≤ x * u := by have := Int.mul_le_mul_of_nonneg_left (show 1 ≤ u from hu.1) h0; omega
  have h4 := dv_b (x := x) (y := u) (n := x) h0 hu.1 h3
  rw [← e] at h4
  omega
/-! ===== a state: its places from b on, its data ===== -/
abbrev SD : Type := (Int → Int) × (Int → Int) × (Int → Int) × (Int → Int) × (Int → Int → Int) × (Int → Int → Int) × Int × (Int → Int → Int) × Int × (Int → Int → Int) × Int × (Int → Int → Int) × Int × (Int → Int → Int)
abbrev sF (D : SD) : Int → Int := D.1
abbrev sG (D : SD) : Int → Int := D.2.1
abbrev sC (D : SD) : Int → Int := D.2.2.1
abbrev sE (D : SD) : Int → Int := D.2.2.2.1
abbrev sL (D : SD) : Int → Int → Int := D.2.2.2.2.1
abbrev sQ (D : SD) : Int → Int → Int := D.2.2.2.2.2.1
abbrev snR (D : SD) : Int := D.2.2.2.2.2.2.1
abbrev sR (D : SD) : Int → Int → Int := D.2.2.2.2.2.2.2.1
abbrev snP (D : SD) : Int := D.2.2.2.2.2.2.2.2.1
abbrev sP (D : SD) : Int → Int → Int := D.2.2.2.2.2.2.2.2.2.1
abbrev snN (D : SD) : Int := D.2.2.2.2.2.2.2.2.2.2.1
abbrev sN (D : SD) : Int → Int → Int := D.2.2.2.2.2.2.2.2.2.2.2.1
abbrev snK (D : SD) : Int := D.2.2.2.2.2.2.2.2.2.2.2.2.1
abbrev sK (D : SD) : Int → Int → Int := D.2.2.2.2.2.2.2.2.2.2.2.2.2
abbrev OA (w : gW) (b : Nat) : va_E := .inr (4, [.ref (gw_ad w (b + 1)), .ref (gw_ad w (b + 3)), .ref (gw_ad w (b + 8)), .ref (gw_ad w (b + 11)), .ref (gw_ad w (b + 13)), .ref (gw_ad w (b + 15))])
def stA (w : gW) (b : Nat) (D : SD) (S : Nat → va_E) : Prop :=
  (S b = OA w b ∧ S (b + 1) = OS w (b + 2) (sG D) ∧ S (b + 2) = AI w 8 (sF D)) ∧
  (S (b + 3) = OB w (b + 4) (b + 5) (b + 6) (b + 7) ∧ S (b + 4) = AI w 4 (sC D) ∧ S (b + 5) = AT w 24 6 (sL D) ∧ S (b + 6) = AT w 24 6 (sQ D) ∧ S (b + 7) = AI w 4 (sE D)) ∧
  (S (b + 8) = OU w (b + 9) ∧ S (b + 9) = OT w 8 63 (b + 10) (snR D) ∧ S (b + 10) = AT w 504 63 (sR D))
def stB (w : gW) (b : Nat) (D : SD) (S : Nat → va_E) : Prop :=
  (S (b + 11) = OT w 30 22 (b + 12) (snP D) ∧ S (b + 12) = AT w 660 22 (sP D)) ∧
  (S (b + 13) = OT w 20 6 (b + 14) (snN D) ∧ S (b + 14) = AT w 120 6 (sN D)) ∧
  (S (b + 15) = OT w 20 22 (b + 16) (snK D) ∧ S (b + 16) = AT w 440 22 (sK D))
def stAt (w : gW) (b : Nat) (D : SD) (S : Nat → va_E) : Prop := stA w b D S ∧ stB w b D S
def bdOK (C E : Int → Int) (L Pr : Int → Int → Int) : Prop := bcOK C ∧ (∀ a b, inI (L a b)) ∧ (∀ a b, inI (Pr a b)) ∧ ∀ z, 0 ≤ z → z < 4 → (0 ≤ E z ∧ E z ≤ 10000) ∧ ∀ i, 0 ≤ i → i < C z → (1 ≤ L z i ∧ L z i ≤ 100000) ∧ (0 ≤ Pr z i ∧ Pr z i ≤ 100000)
theorem bidx_E {C : Int → Int} {L : Int → Int → Int} {z x : Int} : bidx C L z x = bidx C L z x := rfl
theorem baseZ_b {C E : Int → Int} {L Pr : Int → Int → Int} (h : bdOK C E L Pr) {z x : Int} (z0 : 0 ≤ z) (z4 : z < 4) (hc : 1 ≤ C z) (h0 : 0 ≤ x) (hx : x ≤ 8001000) : 0 ≤ baseZ C E L Pr z x ∧ baseZ C E L Pr z x ≤ 100000000 := by
  obtain ⟨hC, -, -, hz⟩ := h
  obtain ⟨he, hb⟩ := hz z z0 z4
  have hi := bidx_b (L := L) (x := x) (hC z z0 z4).1
  unfold baseZ
  split
  · have := (hb _ hi.1 (by assumption)).2
    omega
  · have h1 := (hb (C z - 1) (by omega) (by omega))
    have hlt : L z (C z - 1) < x := bidx_lt (by omega) (by omega) (hC z z0 z4).1
    have h2 := dv_b (x := x - L z (C z - 1)) (y := 1000) (n := 8002) (by omega) (by omega) (by omega)
    have h3 : 0 ≤ begZ (x - L z (C z - 1)) * E z := Int.mul_nonneg h2.1 he.1
    have h4 := Int.mul_le_mul h2.2 he.2 he.1 (by omega)
    change begZ (x - L z (C z - 1)) * E z ≤ 8002 * 10000 at h4
    omega
theorem brsZ_b {C : Int → Int} {L : Int → Int → Int} {z x : Int} (h : 0 ≤ C z ∧ C z ≤ 6) : 10 ≤ brsZ C L z x ∧ brsZ C L z x ≤ 20 := by
  have := bidx_b (L := L) (x := x) h.1
  unfold brsZ
  split <;> omega
def stOK1 (D : SD) : Prop := (scF (sF D) ∧ scG (sG D)) ∧ bdOK (sC D) (sE D) (sL D) (sQ D) ∧ ruOK (snR D) (sR D) ∧ (∀ i j, inI (sR D i j))
def prD (D : SD) (P : Int → Int → Int) (row : Int) : Int → Int → Int := prT (sF D) (sC D) (sE D) (sL D) (sQ D) (snR D) (sR D) P row
def cpyD (D2 D : SD) : SD := (cp1 (sF D2) (sF D) 8, sG D2, cp1 (sC D2) (sC D) 4, cp1 (sE D2) (sE D) 4, cp2 (sC D2) (sL D2) (sL D) 4 0, cp2 (sC D2) (sQ D2) (sQ D) 4 0, snR D2, mrg (snR D2) (sR D2) (sR D), snP D2, mrg (snP D2) (sP D2) (sP D), snN D2, mrg (snN D2) (sN D2) (sN D), snK D2, mrg (snK D2) (sK D2) (sK D))
def snlZ (D : SD) (P : Int → Int → Int) (row : Int) : Int := if (bnlZ (sC D) (sL D) (P row 4) (P row 6)).tdiv (sF D 7) * sF D 7 < P row 0 then mx ((bnlZ (sC D) (sL D) (P row 4) (P row 6)).tdiv (sF D 7) * sF D 7) (nlZ (sR D) (P row 0) (sF D 7) (snR D).toNat) else nlZ (sR D) (P row 0) (sF D 7) (snR D).toNat

set_option maxHeartbeats 4000000 in
set_option maxRecDepth 100000 in
theorem c_X2_charge {w : gW} {l : Launch} {S : Nat → va_E} {k kr kr1 : Nat} {nR : Int} {R : Int → Int → Int} (hk : k < gw_N w) (hkr : kr < gw_N w) (hkr1 : kr1 < gw_N w) (ek : S k = OU w kr) (ekr : S kr = OT w 8 63 kr1 nR) (ekr1 : S kr1 = AT w 504 63 R) {t t1 n : Nat} {rm cn : Int} {P : Int → Int → Int} (ht : t < gw_N w) (ht1 : t1 < gw_N w) (et : S t = OT w rm 22 t1 cn) (et1 : S t1 = AT w n 22 P) (hn : rm * 22 ≤ n) (hn2 : n ≤ 2147483647) (hrm : inI rm) {row : Int} (hr0 : 0 ≤ row) (hr1 : row < rm) (hP : ∀ i j, inI (P i j)) (hRR : ∀ i j, inI (R i j)) (hU : ruOK nR R) (h11 : 0 ≤ P row 11) (h112 : P row 11 ≤ 2) (hb0 : 0 ≤ P row 7 ∧ P row 7 ≤ 1000000000) (ntt : t ≠ t1) (nk : k ≠ t1) (nkr : kr ≠ t1) (nkr1 : kr1 ≠ t1) :
    GM1 w l yX2_charge wsX2_charge { frames := 3, cells := 0, slots := 0, locals := 82 } [.ref (gw_ad w k), .ref (gw_ad w t), vI (row)] S
      (fun v S' => v = vI (chV (factZ (P row)) R (P row 7) nR.toNat) ∧ S' = va_up S t1 (AT w n 22 (chP (factZ (P row)) R P row nR.toNat))) := by
  refine GM.start (own := RX2) (n := "charge") (d := "(LParcelDesk$Table;I)I") (by decide) rfl (Nat.le_of_ble_eq_true rfl) ?_
  intro X hX hR hXl
  subst hXl
  refine g_at rfl (lv2 := [(0, .ref (gw_ad w k)), (1, .ref (gw_ad w t)), (2, vI (row))]) rfl rfl rfl ?_
  have hrow : inI row := by have := hrm.2; exact inI_mk (by omega) (by omega)
  have hnR := hU.1
  refine g_aload_n (pc := 0) hX 1 rfl dX2_charge_0 ?_
  refine g_iload_n (pc := 1) hX 2 rfl dX2_charge_1 ?_
  refine g_bipush (pc := 2) hX (by decide) dX2_charge_2 ?_
  refine g_callV1 (pc := 4) (ci := 5) (As := [vI (row), vI (7)]) (st2 := []) hX t ht et rfl (c_X5_cell (row := row) (col := 7) ht ht1 et et1 hn hn2 hrm (by first | assumption | exact inI_mk (by omega) (by omega)) (by first | assumption | exact inI_mk (by omega) (by omega)) (by first | assumption | exact inI_mk (by omega) (by omega))) gX2_charge_X5_cell (n := 2) (hw := rfl) (hrc := rfl) (hrs := rfl) (hd := by decide +kernel) (hR := ⟨Nat.le_of_ble_eq_true rfl, Nat.le_of_ble_eq_true rfl⟩) (hn := rfl) (hst := rfl) (hsum := Nat.le_of_ble_eq_true rfl) (hdg := dX2_charge_4) ?_
  rintro _ S9 ⟨rfl, e9⟩
  rw [e9]
  clear e9 S9
  rw [tcell_in (by omega) (by omega) (by omega) (by omega)]
  refine g_at (pc2 := 7) rfl rfl (st2 := [vI (P row 7)]) rfl (S2 := S) rfl ?_
  refine g_istore_n (pc := 7) hX (lv2 := [(3, vI (P row 7)), (0, .ref (gw_ad w k)), (1, .ref (gw_ad w t)), (2, vI (row))]) rfl (by decide) rfl dX2_charge_7 ?_
  refine g_iconst (pc := 8) hX dX2_charge_8 ?_
  refine g_istore (pc := 9) hX (lv2 := [(4, vI (0)), (3, vI (P row 7)), (0, .ref (gw_ad w k)), (1, .ref (gw_ad w t)), (2, vI (row))]) (by decide) rfl dX2_charge_9 ?_
  have loop : ∀ (n0 : Nat) (c : Int), 0 ≤ c → c ≤ nR → nR - c < n0 → G w { frames := 3, cells := 0, slots := 0, locals := 82 } X 5 11 [(4, vI (c)), (0, .ref (gw_ad w k)), (1, .ref (gw_ad w t)), (2, vI (row)), (3, vI (chV (factZ (P row)) R (P row 7) (c : Int).toNat))] [] (va_up S t1 (AT w n 22 (chP (factZ (P row)) R P row (c : Int).toNat))) := by
    intro n0
    induction n0 with
    | zero => intro c  h1c h2c h3c; exact absurd h3c (by omega)
    | succ n0 ihloop =>
      intro c  h1c h2c h3c 
      have hc : inI c := inI_mk (by omega) (by omega)
      have hPc := chP_in (factZ (P row)) R (row := row) hP (by omega) c.toNat (by omega)
      have hVc := chV_b (factZ (P row)) R hb0 c.toNat
      have h11c := chP_11 (factZ (P row)) R P row c.toNat
      refine g_iload (pc := 11) hX 0 rfl dX2_charge_11 ?_
      refine g_aload_n (pc := 13) hX 1 rfl dX2_charge_13 ?_
      refine g_get (pc := 14) hX (ci := 2) (fun _ h => List.mem_cons_of_mem _ (List.mem_append_left _ (List.mem_append_right _ h))) rfl k hk (up_ne nk ek) 0 (by decide) (List.mem_of_getElem? (i := 1) rfl) rfl (v := .ref (gw_ad w kr)) rfl dX2_charge_14 ?_
      refine g_get (pc := 17) hX (ci := 5) (fun _ h => List.mem_cons_of_mem _ (List.mem_append_right _ h)) rfl kr hkr (up_ne nkr ekr) 3 (by decide) (List.mem_of_getElem? (i := 2) rfl) rfl (v := vI (nR)) rfl dX2_charge_17 ?_
      refine g_icmp_ge (pc := 20) (tgt := 58) hX (by first | assumption | exact inI_mk (by omega) (by omega)) (by first | assumption | exact inI_mk (by omega) (by omega)) dX2_charge_20 (by decide) (fun c_20 => ?_) (fun c_20 => ?_)
      · skip
        refine g_iload_n (pc := 58) hX 4 rfl dX2_charge_58 ?_
        refine g_iret (pc := 59) hX hR dX2_charge_59 ?_
        rw [show c = nR by omega]
        exact ⟨rfl, rfl⟩
      · skip
        have hUr := hU.2 c h1c c_20
        refine g_aload_n (pc := 23) hX 1 rfl dX2_charge_23 ?_
        refine g_iload (pc := 24) hX 0 rfl dX2_charge_24 ?_
        refine g_aload_n (pc := 26) hX 2 rfl dX2_charge_26 ?_
        refine g_iload_n (pc := 27) hX 3 rfl dX2_charge_27 ?_
        refine g_callV1 (pc := 28) (ci := 2) (As := [vI (c), .ref (gw_ad w t), vI (row)]) (st2 := []) hX k hk (up_ne nk ek) rfl (c_X2_holds (r := c) (P := (chP (factZ (P row)) R P row (c : Int).toNat)) hk hkr hkr1 (up_ne nk ek) (up_ne nkr ekr) (up_ne nkr1 ekr1) ht ht1 (up_ne ntt et) (up_eq _ _ _) hn hn2 hrm hr0 hr1 hPc hRR h1c (by omega) (hUr.1)) gX2_charge_X2_holds (n := 3) (hw := rfl) (hrc := rfl) (hrs := rfl) (hd := by decide +kernel) (hR := ⟨Nat.le_of_ble_eq_true rfl, Nat.le_of_ble_eq_true rfl⟩) (hn := rfl) (hst := rfl) (hsum := Nat.le_of_ble_eq_true rfl) (hdg := dX2_charge_28) ?_
        rintro _ S9 ⟨rfl, e9⟩
        rw [e9]
        clear e9 S9
        rw [chP_fact _ _ h11 c.toNat, fact_Z hr0 hr1]
        refine g_at (pc2 := 31) rfl rfl (st2 := [vI (bz (holdsZ (factZ (P row)) R c))]) rfl (S2 := (va_up S t1 (AT w n 22 (chP (factZ (P row)) R P row (c : Int).toNat)))) rfl ?_
        refine g_bif_eq (pc := 31) (tgt := 52) hX dX2_charge_31 (by decide) (fun c_31 => ?_) (fun c_31 => ?_)
        · skip
          refine g_iinc (pc := 52) hX (lv2 := [(4, vI (c + 1)), (0, .ref (gw_ad w k)), (1, .ref (gw_ad w t)), (2, vI (row)), (3, vI (chV (factZ (P row)) R (P row 7) (c : Int).toNat))]) 0 rfl (by decide) rfl dX2_charge_52 ?_
          refine g_goto (pc := 55) (tgt := 11) hX dX2_charge_55 (by decide) ?_
          refine g_sub (lv2 := [(4, vI (c + 1)), (0, .ref (gw_ad w k)), (1, .ref (gw_ad w t)), (2, vI (row)), (3, vI (chV (factZ (P row)) R (P row 7) (c : Int).toNat))]) [0, 1, 2, 3, 4] rfl ?_
          refine g_at rfl (lv2 := [(4, vI (c + 1)), (0, .ref (gw_ad w k)), (1, .ref (gw_ad w t)), (2, vI (row)), (3, vI (chV (factZ (P row)) R (P row 7) (c + 1 : Int).toNat))]) (by rw [chV_s _ _ _ h1c, if_neg (by rw [c_31]; decide)]) rfl (S2 := (va_up S t1 (AT w n 22 (chP (factZ (P row)) R P row (c + 1 : Int).toNat)))) (by rw [chP_s _ _ _ _ h1c, if_neg (by rw [c_31]; decide)]) ?_
          exact ihloop (c + 1)  (by omega) (by omega) (by omega) 
        · skip
          refine g_aload_n (pc := 34) hX 1 rfl dX2_charge_34 ?_
          refine g_iload (pc := 35) hX 0 rfl dX2_charge_35 ?_
          refine g_iload_n (pc := 37) hX 4 rfl dX2_charge_37 ?_
          refine g_callV1 (pc := 38) (ci := 2) (As := [vI (c), vI (chV (factZ (P row)) R (P row 7) (c : Int).toNat)]) (st2 := []) hX k hk (up_ne nk ek) rfl (c_X2_changed (r := c) (c := chV (factZ (P row)) R (P row 7) (c : Int).toNat) hk hkr hkr1 (up_ne nk ek) (up_ne nkr ekr) (up_ne nkr1 ekr1) hRR h1c (by omega) hVc hUr.2) gX2_charge_X2_changed (n := 2) (hw := rfl) (hrc := rfl) (hrs := rfl) (hd := by decide +kernel) (hR := ⟨Nat.le_of_ble_eq_true rfl, Nat.le_of_ble_eq_true rfl⟩) (hn := rfl) (hst := rfl) (hsum := Nat.le_of_ble_eq_true rfl) (hdg := dX2_charge_38) ?_
          rintro _ S9 ⟨rfl, e9⟩
          rw [e9]
          clear e9 S9
          refine g_at (pc2 := 41) rfl rfl (st2 := [vI (chgeZ (R c 1) (R c 2) (chV (factZ (P row)) R (P row 7) (c : Int).toNat))]) rfl (S2 := (va_up S t1 (AT w n 22 (chP (factZ (P row)) R P row (c : Int).toNat)))) rfl ?_
          refine g_istore_n (pc := 41) hX (lv2 := [(3, vI (chgeZ (R c 1) (R c 2) (chV (factZ (P row)) R (P row 7) (c : Int).toNat))), (4, vI (c)), (0, .ref (gw_ad w k)), (1, .ref (gw_ad w t)), (2, vI (row))]) rfl (by decide) rfl dX2_charge_41 ?_
          refine g_aload_n (pc := 42) hX 3 rfl dX2_charge_42 ?_
          refine g_iload_n (pc := 43) hX 4 rfl dX2_charge_43 ?_
          refine g_bipush (pc := 44) hX (by decide) dX2_charge_44 ?_
          refine g_iload (pc := 46) hX 1 rfl dX2_charge_46 ?_
          refine g_iadd (pc := 48) hX dX2_charge_48 ?_
          refine g_callN0 (pc := 49) (As := [.ref (gw_ad w t), vI (row), vI (30 + c)]) (st2 := []) hX (c_X6_addReason (row := row) (x := 30 + c) ht ht1 (up_ne ntt et) (up_eq _ _ _) hn hn2 hrm hr0 hr1 ntt (by omega) (by omega)) ggX2_charge_X6_addReason (List.mem_of_getElem? (i := 13) rfl) (List.mem_of_getElem? (i := 43) rfl) (List.mem_of_getElem? (i := 44) rfl) (n := 3) (hw := rfl) (hrc := rfl) (hrs := rfl) (hd := by decide +kernel) (hR := ⟨Nat.le_of_ble_eq_true rfl, Nat.le_of_ble_eq_true rfl⟩) (hn := rfl) (hst := rfl) (hsum := Nat.le_of_ble_eq_true rfl) (hdg := dX2_charge_49) ?_
          rintro _ rfl
          refine g_at (pc2 := 52) rfl rfl (st2 := []) rfl (S2 := (va_up (va_up S t1 (AT w n 22 (chP (factZ (P row)) R P row (c : Int).toNat))) t1 (AI w n (fl 22 (rsn (chP (factZ (P row)) R P row (c : Int).toNat) row (30 + c)))))) rfl ?_
          refine g_iinc (pc := 52) hX (lv2 := [(4, vI (c + 1)), (3, vI (chgeZ (R c 1) (R c 2) (chV (factZ (P row)) R (P row 7) (c : Int).toNat))), (0, .ref (gw_ad w k)), (1, .ref (gw_ad w t)), (2, vI (row))]) 1 rfl (by decide) rfl dX2_charge_52 ?_
          refine g_goto (pc := 55) (tgt := 11) hX dX2_charge_55 (by decide) ?_
          refine g_sub (lv2 := [(4, vI (c + 1)), (0, .ref (gw_ad w k)), (1, .ref (gw_ad w t)), (2, vI (row)), (3, vI (chgeZ (R c 1) (R c 2) (chV (factZ (P row)) R (P row 7) (c : Int).toNat)))]) [0, 2, 3, 4, 1] rfl ?_
          refine g_at rfl (lv2 := [(4, vI (c + 1)), (0, .ref (gw_ad w k)), (1, .ref (gw_ad w t)), (2, vI (row)), (3, vI (chV (factZ (P row)) R (P row 7) (c + 1 : Int).toNat))]) (by rw [chV_s _ _ _ h1c, if_pos c_31]) rfl (S2 := (va_up S t1 (AT w n 22 (chP (factZ (P row)) R P row (c + 1 : Int).toNat)))) (by rw [up_up, chP_s _ _ _ _ h1c, if_pos c_31]) ?_
          exact ihloop (c + 1)  (by omega) (by omega) (by omega) 
  refine g_sub (lv2 := [(4, vI (0)), (0, .ref (gw_ad w k)), (1, .ref (gw_ad w t)), (2, vI (row)), (3, vI (P row 7))]) [0, 2, 3, 4, 1] rfl ?_
  refine g_at rfl (lv2 := [(4, vI (0)), (0, .ref (gw_ad w k)), (1, .ref (gw_ad w t)), (2, vI (row)), (3, vI (chV (factZ (P row)) R (P row 7) (0 : Int).toNat))]) (rfl) rfl (S2 := (va_up S t1 (AT w n 22 (chP (factZ (P row)) R P row (0 : Int).toNat)))) ((up_self et1).symm) ?_
  exact loop ((nR : Int) - 0 + 1).toNat 0  (by omega) (by omega) (by omega) 

set_option maxHeartbeats 4000000 in
set_option maxRecDepth 100000 in
theorem c_X6_wholeSteps_t {w : gW} {l : Launch} {S : Nat → va_E} {x y : Int} (hx : inI x) (hy : inI y) (h1 : 1 ≤ y) :
    GM1 w l yX6_wholeSteps wsX6_wholeSteps { frames := 0, cells := 0, slots := 0, locals := 0 } [vI (x), vI (y)] S
      (fun v S' => v = vI (x.tdiv y * y) ∧ S' = S) := by
  refine GM.start (own := RX6) (n := "wholeSteps") (d := "(II)I") (by decide) rfl (Nat.le_of_ble_eq_true rfl) ?_
  intro X hX hR hXl
  subst hXl
  refine g_at rfl (lv2 := [(0, vI (x)), (1, vI (y))]) rfl rfl rfl ?_
  refine g_iload_n (pc := 0) hX 1 rfl dX6_wholeSteps_0 ?_
  refine g_iconst (pc := 1) hX dX6_wholeSteps_1 ?_
  refine g_icmp_ge (pc := 2) (tgt := 9) hX (by first | assumption | exact inI_mk (by omega) (by omega)) (by first | assumption | exact inI_mk (by omega) (by omega)) dX6_wholeSteps_2 (by decide) (fun c_2 => ?_) (fun c_2 => ?_)
  · skip
    refine g_iload_n (pc := 9) hX 0 rfl dX6_wholeSteps_9 ?_
    refine g_iload_n (pc := 10) hX 1 rfl dX6_wholeSteps_10 ?_
    refine g_idiv (pc := 11) hX (by first | assumption | exact inI_mk (by omega) (by omega)) (by first | assumption | exact inI_mk (by omega) (by omega)) (by omega) dX6_wholeSteps_11 ?_
    refine g_iload_n (pc := 12) hX 1 rfl dX6_wholeSteps_12 ?_
    refine g_imul (pc := 13) hX dX6_wholeSteps_13 ?_
    refine g_iret (pc := 14) hX hR dX6_wholeSteps_14 ?_
    exact ⟨rfl, rfl⟩
  · skip
    exact absurd h1 (by omega)

set_option maxHeartbeats 4000000 in
set_option maxRecDepth 100000 in
theorem c_X2_turnBelow {w : gW} {l : Launch} {S : Nat → va_E} {tk real unit : Int} (htk : inI tk) (hreal : inI real) (hu : 1 ≤ unit ∧ unit ≤ 1000) :
    GM1 w l yX2_turnBelow wsX2_turnBelow { frames := 1, cells := 0, slots := 0, locals := 21 } [vI (tk), vI (real), vI (unit)] S
      (fun v S' => v = vI (turnZ tk real unit) ∧ S' = S) := by
  refine GM.start (own := RX2) (n := "turnBelow") (d := "(III)I") (by decide) rfl (Nat.le_of_ble_eq_true rfl) ?_
  intro X hX hR hXl
  subst hXl
  refine g_at rfl (lv2 := [(0, vI (tk)), (1, vI (real)), (2, vI (unit))]) rfl rfl rfl ?_
  refine g_iload_n (pc := 0) hX 0 rfl dX2_turnBelow_0 ?_
  refine g_callT1 (pc := 1) (As := [vI (tk)]) (st2 := []) hX (c_X2_columnOf (t := tk) htk) gX2_turnBelow_X2_columnOf (n := 1) (hw := rfl) (hrc := rfl) (hrs := rfl) (hd := by decide +kernel) (hR := ⟨Nat.le_of_ble_eq_true rfl, Nat.le_of_ble_eq_true rfl⟩) (hn := rfl) (hst := rfl) (hsum := Nat.le_of_ble_eq_true rfl) (hdg := dX2_turnBelow_1) ?_
  rintro _ S9 ⟨rfl, e9⟩
  rw [e9]
  clear e9 S9
  refine g_at (pc2 := 4) rfl rfl (st2 := [vI (colZ tk)]) rfl (S2 := S) rfl ?_
  refine g_istore_n (pc := 4) hX (lv2 := [(3, vI (colZ tk)), (0, vI (tk)), (1, vI (real)), (2, vI (unit))]) rfl (by decide) rfl dX2_turnBelow_4 ?_
  refine g_iload_n (pc := 5) hX 0 rfl dX2_turnBelow_5 ?_
  refine g_bipush (pc := 6) hX (by decide) dX2_turnBelow_6 ?_
  refine g_icmp_eq (pc := 8) (tgt := 17) hX (colZ_in tk) (by first | assumption | exact inI_mk (by omega) (by omega)) dX2_turnBelow_8 (by decide) (fun c_8 => ?_) (fun c_8 => ?_)
  · skip
    refine g_iload_n (pc := 17) hX 0 rfl dX2_turnBelow_17 ?_
    refine g_bipush (pc := 18) hX (by decide) dX2_turnBelow_18 ?_
    refine g_icmp_ne (pc := 20) (tgt := 27) hX (colZ_in tk) (by first | assumption | exact inI_mk (by omega) (by omega)) dX2_turnBelow_20 (by decide) (fun c_20 => ?_) (fun c_20 => ?_)
    · skip
      refine g_iconst (pc := 27) hX dX2_turnBelow_27 ?_
      refine g_istore (pc := 28) hX (lv2 := [(4, vI (1)), (3, vI (colZ tk)), (0, vI (tk)), (1, vI (real)), (2, vI (unit))]) (by decide) rfl dX2_turnBelow_28 ?_
      have h0t : 0 ≤ tk := colZ_p (by omega)
      have hst : stZ tk unit = 1 := by unfold stZ; first | exact if_pos (by assumption) | exact if_neg (by omega)
      have htm : (tk).tmod 100000 = tk % 100000 := Int.tmod_eq_emod_of_nonneg h0t
      refine g_iload_n (pc := 30) hX 2 rfl dX2_turnBelow_30 ?_
      refine g_ldc (pc := 31) hX (z := 100000) (List.mem_of_getElem? (i := 1) rfl) (by decide +kernel) dX2_turnBelow_31 ?_
      refine g_irem (pc := 33) hX htk (by first | assumption | exact inI_mk (by omega) (by omega)) (by omega) dX2_turnBelow_33 ?_
      refine g_at rfl rfl (st2 := [vI (tk % 100000)]) (by rw [show (tk).tmod (100000) = tk % 100000 from htm]) rfl ?_
      refine g_istore (pc := 34) hX (lv2 := [(5, vI (tk % 100000)), (4, vI (1)), (3, vI (colZ tk)), (0, vI (tk)), (1, vI (real)), (2, vI (unit))]) (by decide) rfl dX2_turnBelow_34 ?_
      refine g_iload (pc := 36) hX 0 rfl dX2_turnBelow_36 ?_
      refine g_iload (pc := 38) hX 1 rfl dX2_turnBelow_38 ?_
      refine g_callN1 (pc := 40) (As := [vI (tk % 100000), vI (1)]) (st2 := []) hX (c_X6_wholeSteps_t (x := tk % 100000) (y := 1) (by first | assumption | exact inI_mk (by omega) (by omega)) (by first | assumption | exact inI_mk (by omega) (by omega)) (by omega)) ggX2_turnBelow_X6_wholeSteps (List.mem_of_getElem? (i := 15) rfl) (List.mem_of_getElem? (i := 7) rfl) (List.mem_of_getElem? (i := 8) rfl) (n := 2) (hw := rfl) (hrc := rfl) (hrs := rfl) (hd := by decide +kernel) (hR := ⟨Nat.le_of_ble_eq_true rfl, Nat.le_of_ble_eq_true rfl⟩) (hn := rfl) (hst := rfl) (hsum := Nat.le_of_ble_eq_true rfl) (hdg := dX2_turnBelow_40) ?_
      rintro _ S9 ⟨rfl, e9⟩
      rw [e9]
      clear e9 S9
      refine g_at (pc2 := 43) rfl rfl (st2 := [vI ((tk % 100000).tdiv (1) * 1)]) rfl (S2 := S) rfl ?_
      obtain ⟨u1, eu1⟩ : ∃ z : Int, z = (tk % 100000).tdiv (1) * 1 := ⟨_, rfl⟩
      refine g_at rfl rfl (st2 := [vI (u1)]) (by rw [eu1]) rfl ?_
      have hu1 := ws_b (x := tk % 100000) (y := 1) (by omega) (by omega)
      rw [← eu1] at hu1
      refine g_istore (pc := 43) hX (lv2 := [(6, vI (u1)), (5, vI (tk % 100000)), (4, vI (1)), (3, vI (colZ tk)), (0, vI (tk)), (1, vI (real)), (2, vI (unit))]) (by decide) rfl dX2_turnBelow_43 ?_
      refine g_iload (pc := 45) hX 0 rfl dX2_turnBelow_45 ?_
      refine g_iload_n (pc := 47) hX 5 rfl dX2_turnBelow_47 ?_
      refine g_icmp_lt (pc := 48) (tgt := 62) hX (by first | assumption | exact inI_mk (by omega) (by omega)) (by first | assumption | exact inI_mk (by omega) (by omega)) dX2_turnBelow_48 (by decide) (fun c_48 => ?_) (fun c_48 => ?_)
      · skip
        refine g_iload (pc := 62) hX 0 rfl dX2_turnBelow_62 ?_
        refine g_iload_n (pc := 64) hX 5 rfl dX2_turnBelow_64 ?_
        refine g_icmp_ge (pc := 65) (tgt := 73) hX (by first | assumption | exact inI_mk (by omega) (by omega)) (by first | assumption | exact inI_mk (by omega) (by omega)) dX2_turnBelow_65 (by decide) (fun c_65 => ?_) (fun c_65 => ?_)
        · skip
          refine g_iconst (pc := 73) hX dX2_turnBelow_73 ?_
          refine g_iret (pc := 74) hX hR dX2_turnBelow_74 ?_
          have htu : tu1 (tk % 100000) (stZ tk unit) real = u1 := by rw [hst]; unfold tu1; rw [← fdiv_a (show 0 ≤ tk % 100000 by omega), ← eu1]; exact if_pos c_48
          exact ⟨vI_c (by unfold turnZ; rw [if_neg (by omega), htu, if_neg (by omega)]), rfl⟩
        · skip
          refine g_iload (pc := 68) hX 0 rfl dX2_turnBelow_68 ?_
          refine g_goto (pc := 70) (tgt := 74) hX dX2_turnBelow_70 (by decide) ?_
          refine g_iret (pc := 74) hX hR dX2_turnBelow_74 ?_
          have htu : tu1 (tk % 100000) (stZ tk unit) real = u1 := by rw [hst]; unfold tu1; rw [← fdiv_a (show 0 ≤ tk % 100000 by omega), ← eu1]; exact if_pos c_48
          exact ⟨vI_c (by unfold turnZ; rw [if_neg (by omega), htu, if_pos c_65]), rfl⟩
      · skip
        refine g_iload (pc := 51) hX 1 rfl dX2_turnBelow_51 ?_
        refine g_iconst (pc := 53) hX dX2_turnBelow_53 ?_
        refine g_isub (pc := 54) hX dX2_turnBelow_54 ?_
        refine g_iload (pc := 55) hX 2 rfl dX2_turnBelow_55 ?_
        refine g_callN1 (pc := 57) (As := [vI ((tk % 100000) - 1), vI (1)]) (st2 := []) hX (c_X6_wholeSteps_t (x := (tk % 100000) - 1) (y := 1) (by first | assumption | exact inI_mk (by omega) (by omega)) (by first | assumption | exact inI_mk (by omega) (by omega)) (by omega)) ggX2_turnBelow_X6_wholeSteps (List.mem_of_getElem? (i := 15) rfl) (List.mem_of_getElem? (i := 7) rfl) (List.mem_of_getElem? (i := 8) rfl) (n := 2) (hw := rfl) (hrc := rfl) (hrs := rfl) (hd := by decide +kernel) (hR := ⟨Nat.le_of_ble_eq_true rfl, Nat.le_of_ble_eq_true rfl⟩) (hn := rfl) (hst := rfl) (hsum := Nat.le_of_ble_eq_true rfl) (hdg := dX2_turnBelow_57) ?_
        rintro _ S9 ⟨rfl, e9⟩
        rw [e9]
        clear e9 S9
        refine g_at (pc2 := 60) rfl rfl (st2 := [vI (((tk % 100000) - 1).tdiv (1) * 1)]) rfl (S2 := S) rfl ?_
        obtain ⟨u2, eu2⟩ : ∃ z : Int, z = ((tk % 100000) - 1).tdiv (1) * 1 := ⟨_, rfl⟩
        refine g_at rfl rfl (st2 := [vI (u2)]) (by rw [eu2]) rfl ?_
        have hu2 := ws_b (x := tk % 100000 - 1) (y := 1) (by omega) (by omega)
        rw [← eu2] at hu2
        refine g_istore (pc := 60) hX (lv2 := [(6, vI (u2)), (5, vI (tk % 100000)), (4, vI (1)), (3, vI (colZ tk)), (0, vI (tk)), (1, vI (real)), (2, vI (unit))]) (by decide) rfl dX2_turnBelow_60 ?_
        refine g_iload (pc := 62) hX 0 rfl dX2_turnBelow_62 ?_
        refine g_iload_n (pc := 64) hX 5 rfl dX2_turnBelow_64 ?_
        refine g_icmp_ge (pc := 65) (tgt := 73) hX (by first | assumption | exact inI_mk (by omega) (by omega)) (by first | assumption | exact inI_mk (by omega) (by omega)) dX2_turnBelow_65 (by decide) (fun c_65 => ?_) (fun c_65 => ?_)
        · skip
          refine g_iconst (pc := 73) hX dX2_turnBelow_73 ?_
          refine g_iret (pc := 74) hX hR dX2_turnBelow_74 ?_
          have htu : tu1 (tk % 100000) (stZ tk unit) real = u2 := by rw [hst]; unfold tu1; rw [← fdiv_a (show 0 ≤ tk % 100000 by omega), ← eu1, ← eu2]; exact if_neg (by omega)
          exact ⟨vI_c (by unfold turnZ; rw [if_neg (by omega), htu, if_neg (by omega)]), rfl⟩
        · skip
          refine g_iload (pc := 68) hX 0 rfl dX2_turnBelow_68 ?_
          refine g_goto (pc := 70) (tgt := 74) hX dX2_turnBelow_70 (by decide) ?_
          refine g_iret (pc := 74) hX hR dX2_turnBelow_74 ?_
          have htu : tu1 (tk % 100000) (stZ tk unit) real = u2 := by rw [hst]; unfold tu1; rw [← fdiv_a (show 0 ≤ tk % 100000 by omega), ← eu1, ← eu2]; exact if_neg (by omega)
          exact ⟨vI_c (by unfold turnZ; rw [if_neg (by omega), htu, if_pos c_65]), rfl⟩
    · skip
      refine g_iload_n (pc := 23) hX 3 rfl dX2_turnBelow_23 ?_
      refine g_goto (pc := 24) (tgt := 28) hX dX2_turnBelow_24 (by decide) ?_
      refine g_istore (pc := 28) hX (lv2 := [(4, vI (unit)), (3, vI (colZ tk)), (0, vI (tk)), (1, vI (real)), (2, vI (unit))]) (by decide) rfl dX2_turnBelow_28 ?_
      have h0t : 0 ≤ tk := colZ_p (by omega)
      have hst : stZ tk unit = unit := by unfold stZ; first | exact if_pos (by assumption) | exact if_neg (by omega)
      have htm : (tk).tmod 100000 = tk % 100000 := Int.tmod_eq_emod_of_nonneg h0t
      refine g_iload_n (pc := 30) hX 2 rfl dX2_turnBelow_30 ?_
      refine g_ldc (pc := 31) hX (z := 100000) (List.mem_of_getElem? (i := 1) rfl) (by decide +kernel) dX2_turnBelow_31 ?_
      refine g_irem (pc := 33) hX htk (by first | assumption | exact inI_mk (by omega) (by omega)) (by omega) dX2_turnBelow_33 ?_
      refine g_at rfl rfl (st2 := [vI (tk % 100000)]) (by rw [show (tk).tmod (100000) = tk % 100000 from htm]) rfl ?_
      refine g_istore (pc := 34) hX (lv2 := [(5, vI (tk % 100000)), (4, vI (unit)), (3, vI (colZ tk)), (0, vI (tk)), (1, vI (real)), (2, vI (unit))]) (by decide) rfl dX2_turnBelow_34 ?_
      refine g_iload (pc := 36) hX 0 rfl dX2_turnBelow_36 ?_
      refine g_iload (pc := 38) hX 1 rfl dX2_turnBelow_38 ?_
      refine g_callN1 (pc := 40) (As := [vI (tk % 100000), vI (unit)]) (st2 := []) hX (c_X6_wholeSteps_t (x := tk % 100000) (y := unit) (by first | assumption | exact inI_mk (by omega) (by omega)) (by first | assumption | exact inI_mk (by omega) (by omega)) (by omega)) ggX2_turnBelow_X6_wholeSteps (List.mem_of_getElem? (i := 15) rfl) (List.mem_of_getElem? (i := 7) rfl) (List.mem_of_getElem? (i := 8) rfl) (n := 2) (hw := rfl) (hrc := rfl) (hrs := rfl) (hd := by decide +kernel) (hR := ⟨Nat.le_of_ble_eq_true rfl, Nat.le_of_ble_eq_true rfl⟩) (hn := rfl) (hst := rfl) (hsum := Nat.le_of_ble_eq_true rfl) (hdg := dX2_turnBelow_40) ?_
      rintro _ S9 ⟨rfl, e9⟩
      rw [e9]
      clear e9 S9
      refine g_at (pc2 := 43) rfl rfl (st2 := [vI ((tk % 100000).tdiv (unit) * unit)]) rfl (S2 := S) rfl ?_
      obtain ⟨u1, eu1⟩ : ∃ z : Int, z = (tk % 100000).tdiv (unit) * unit := ⟨_, rfl⟩
      refine g_at rfl rfl (st2 := [vI (u1)]) (by rw [eu1]) rfl ?_
      have hu1 := ws_b (x := tk % 100000) (y := unit) (by omega) (by omega)
      rw [← eu1] at hu1
      refine g_istore (pc := 43) hX (lv2 := [(6, vI (u1)), (5, vI (tk % 100000)), (4, vI (unit)), (3, vI (colZ tk)), (0, vI (tk)), (1, vI (real)), (2, vI (unit))]) (by decide) rfl dX2_turnBelow_43 ?_
      refine g_iload (pc := 45) hX 0 rfl dX2_turnBelow_45 ?_
      refine g_iload_n (pc := 47) hX 5 rfl dX2_turnBelow_47 ?_
      refine g_icmp_lt (pc := 48) (tgt := 62) hX (by first | assumption | exact inI_mk (by omega) (by omega)) (by first | assumption | exact inI_mk (by omega) (by omega)) dX2_turnBelow_48 (by decide) (fun c_48 => ?_) (fun c_48 => ?_)
      · skip
        refine g_iload (pc := 62) hX 0 rfl dX2_turnBelow_62 ?_
        refine g_iload_n (pc := 64) hX 5 rfl dX2_turnBelow_64 ?_
        refine g_icmp_ge (pc := 65) (tgt := 73) hX (by first | assumption | exact inI_mk (by omega) (by omega)) (by first | assumption | exact inI_mk (by omega) (by omega)) dX2_turnBelow_65 (by decide) (fun c_65 => ?_) (fun c_65 => ?_)
        · skip
          refine g_iconst (pc := 73) hX dX2_turnBelow_73 ?_
          refine g_iret (pc := 74) hX hR dX2_turnBelow_74 ?_
          have htu : tu1 (tk % 100000) (stZ tk unit) real = u1 := by rw [hst]; unfold tu1; rw [← fdiv_a (show 0 ≤ tk % 100000 by omega), ← eu1]; exact if_pos c_48
          exact ⟨vI_c (by unfold turnZ; rw [if_neg (by omega), htu, if_neg (by omega)]), rfl⟩
        · skip
          refine g_iload (pc := 68) hX 0 rfl dX2_turnBelow_68 ?_
          refine g_goto (pc := 70) (tgt := 74) hX dX2_turnBelow_70 (by decide) ?_
          refine g_iret (pc := 74) hX hR dX2_turnBelow_74 ?_
          have htu : tu1 (tk % 100000) (stZ tk unit) real = u1 := by rw [hst]; unfold tu1; rw [← fdiv_a (show 0 ≤ tk % 100000 by omega), ← eu1]; exact if_pos c_48
          exact ⟨vI_c (by unfold turnZ; rw [if_neg (by omega), htu, if_pos c_65]), rfl⟩
      · skip
        refine g_iload (pc := 51) hX 1 rfl dX2_turnBelow_51 ?_
        refine g_iconst (pc := 53) hX dX2_turnBelow_53 ?_
        refine g_isub (pc := 54) hX dX2_turnBelow_54 ?_
        refine g_iload (pc := 55) hX 2 rfl dX2_turnBelow_55 ?_
        refine g_callN1 (pc := 57) (As := [vI ((tk % 100000) - 1), vI (unit)]) (st2 := []) hX (c_X6_wholeSteps_t (x := (tk % 100000) - 1) (y := unit) (by first | assumption | exact inI_mk (by omega) (by omega)) (by first | assumption | exact inI_mk (by omega) (by omega)) (by omega)) ggX2_turnBelow_X6_wholeSteps (List.mem_of_getElem? (i := 15) rfl) (List.mem_of_getElem? (i := 7) rfl) (List.mem_of_getElem? (i := 8) rfl) (n := 2) (hw := rfl) (hrc := rfl) (hrs := rfl) (hd := by decide +kernel) (hR := ⟨Nat.le_of_ble_eq_true rfl, Nat.le_of_ble_eq_true rfl⟩) (hn := rfl) (hst := rfl) (hsum := Nat.le_of_ble_eq_true rfl) (hdg := dX2_turnBelow_57) ?_
        rintro _ S9 ⟨rfl, e9⟩
        rw [e9]
        clear e9 S9
        refine g_at (pc2 := 60) rfl rfl (st2 := [vI (((tk % 100000) - 1).tdiv (unit) * unit)]) rfl (S2 := S) rfl ?_
        obtain ⟨u2, eu2⟩ : ∃ z : Int, z = ((tk % 100000) - 1).tdiv (unit) * unit := ⟨_, rfl⟩
        refine g_at rfl rfl (st2 := [vI (u2)]) (by rw [eu2]) rfl ?_
        have hu2 := ws_b (x := tk % 100000 - 1) (y := unit) (by omega) (by omega)
        rw [← eu2] at hu2
        refine g_istore (pc := 60) hX (lv2 := [(6, vI (u2)), (5, vI (tk % 100000)), (4, vI (unit)), (3, vI (colZ tk)), (0, vI (tk)), (1, vI (real)), (2, vI (unit))]) (by decide) rfl dX2_turnBelow_60 ?_
        refine g_iload (pc := 62) hX 0 rfl dX2_turnBelow_62 ?_
        refine g_iload_n (pc := 64) hX 5 rfl dX2_turnBelow_64 ?_
        refine g_icmp_ge (pc := 65) (tgt := 73) hX (by first | assumption | exact inI_mk (by omega) (by omega)) (by first | assumption | exact inI_mk (by omega) (by omega)) dX2_turnBelow_65 (by decide) (fun c_65 => ?_) (fun c_65 => ?_)
        · skip
          refine g_iconst (pc := 73) hX dX2_turnBelow_73 ?_
          refine g_iret (pc := 74) hX hR dX2_turnBelow_74 ?_
          have htu : tu1 (tk % 100000) (stZ tk unit) real = u2 := by rw [hst]; unfold tu1; rw [← fdiv_a (show 0 ≤ tk % 100000 by omega), ← eu1, ← eu2]; exact if_neg (by omega)
          exact ⟨vI_c (by unfold turnZ; rw [if_neg (by omega), htu, if_neg (by omega)]), rfl⟩
        · skip
          refine g_iload (pc := 68) hX 0 rfl dX2_turnBelow_68 ?_
          refine g_goto (pc := 70) (tgt := 74) hX dX2_turnBelow_70 (by decide) ?_
          refine g_iret (pc := 74) hX hR dX2_turnBelow_74 ?_
          have htu : tu1 (tk % 100000) (stZ tk unit) real = u2 := by rw [hst]; unfold tu1; rw [← fdiv_a (show 0 ≤ tk % 100000 by omega), ← eu1, ← eu2]; exact if_neg (by omega)
          exact ⟨vI_c (by unfold turnZ; rw [if_neg (by omega), htu, if_pos c_65]), rfl⟩
  · skip
    refine g_iload_n (pc := 11) hX 0 rfl dX2_turnBelow_11 ?_
    refine g_if_eq (pc := 12) (tgt := 17) hX (colZ_in tk) dX2_turnBelow_12 (by decide) (fun c_12 => ?_) (fun c_12 => ?_)
    · skip
      refine g_iload_n (pc := 17) hX 0 rfl dX2_turnBelow_17 ?_
      refine g_bipush (pc := 18) hX (by decide) dX2_turnBelow_18 ?_
      refine g_icmp_ne (pc := 20) (tgt := 27) hX (colZ_in tk) (by first | assumption | exact inI_mk (by omega) (by omega)) dX2_turnBelow_20 (by decide) (fun c_20 => ?_) (fun c_20 => ?_)
      · skip
        refine g_iconst (pc := 27) hX dX2_turnBelow_27 ?_
        refine g_istore (pc := 28) hX (lv2 := [(4, vI (1)), (3, vI (colZ tk)), (0, vI (tk)), (1, vI (real)), (2, vI (unit))]) (by decide) rfl dX2_turnBelow_28 ?_
        have h0t : 0 ≤ tk := colZ_p (by omega)
        have hst : stZ tk unit = 1 := by unfold stZ; first | exact if_pos (by assumption) | exact if_neg (by omega)
        have htm : (tk).tmod 100000 = tk % 100000 := Int.tmod_eq_emod_of_nonneg h0t
        refine g_iload_n (pc := 30) hX 2 rfl dX2_turnBelow_30 ?_
        refine g_ldc (pc := 31) hX (z := 100000) (List.mem_of_getElem? (i := 1) rfl) (by decide +kernel) dX2_turnBelow_31 ?_
        refine g_irem (pc := 33) hX htk (by first | assumption | exact inI_mk (by omega) (by omega)) (by omega) dX2_turnBelow_33 ?_
        refine g_at rfl rfl (st2 := [vI (tk % 100000)]) (by rw [show (tk).tmod (100000) = tk % 100000 from htm]) rfl ?_
        refine g_istore (pc := 34) hX (lv2 := [(5, vI (tk % 100000)), (4, vI (1)), (3, vI (colZ tk)), (0, vI (tk)), (1, vI (real)), (2, vI (unit))]) (by decide) rfl dX2_turnBelow_34 ?_
        refine g_iload (pc := 36) hX 0 rfl dX2_turnBelow_36 ?_
        refine g_iload (pc := 38) hX 1 rfl dX2_turnBelow_38 ?_
        refine g_callN1 (pc := 40) (As := [vI (tk % 100000), vI (1)]) (st2 := []) hX (c_X6_wholeSteps_t (x := tk % 100000) (y := 1) (by first | assumption | exact inI_mk (by omega) (by omega)) (by first | assumption | exact inI_mk (by omega) (by omega)) (by omega)) ggX2_turnBelow_X6_wholeSteps (List.mem_of_getElem? (i := 15) rfl) (List.mem_of_getElem? (i := 7) rfl) (List.mem_of_getElem? (i := 8) rfl) (n := 2) (hw := rfl) (hrc := rfl) (hrs := rfl) (hd := by decide +kernel) (hR := ⟨Nat.le_of_ble_eq_true rfl, Nat.le_of_ble_eq_true rfl⟩) (hn := rfl) (hst := rfl) (hsum := Nat.le_of_ble_eq_true rfl) (hdg := dX2_turnBelow_40) ?_
        rintro _ S9 ⟨rfl, e9⟩
        rw [e9]
        clear e9 S9
        refine g_at (pc2 := 43) rfl rfl (st2 := [vI ((tk % 100000).tdiv (1) * 1)]) rfl (S2 := S) rfl ?_
        obtain ⟨u1, eu1⟩ : ∃ z : Int, z = (tk % 100000).tdiv (1) * 1 := ⟨_, rfl⟩
        refine g_at rfl rfl (st2 := [vI (u1)]) (by rw [eu1]) rfl ?_
        have hu1 := ws_b (x := tk % 100000) (y := 1) (by omega) (by omega)
        rw [← eu1] at hu1
        refine g_istore (pc := 43) hX (lv2 := [(6, vI (u1)), (5, vI (tk % 100000)), (4, vI (1)), (3, vI (colZ tk)), (0, vI (tk)), (1, vI (real)), (2, vI (unit))]) (by decide) rfl dX2_turnBelow_43 ?_
        refine g_iload (pc := 45) hX 0 rfl dX2_turnBelow_45 ?_
        refine g_iload_n (pc := 47) hX 5 rfl dX2_turnBelow_47 ?_
        refine g_icmp_lt (pc := 48) (tgt := 62) hX (by first | assumption | exact inI_mk (by omega) (by omega)) (by first | assumption | exact inI_mk (by omega) (by omega)) dX2_turnBelow_48 (by decide) (fun c_48 => ?_) (fun c_48 => ?_)
        · skip
          refine g_iload (pc := 62) hX 0 rfl dX2_turnBelow_62 ?_
          refine g_iload_n (pc := 64) hX 5 rfl dX2_turnBelow_64 ?_
          refine g_icmp_ge (pc := 65) (tgt := 73) hX (by first | assumption | exact inI_mk (by omega) (by omega)) (by first | assumption | exact inI_mk (by omega) (by omega)) dX2_turnBelow_65 (by decide) (fun c_65 => ?_) (fun c_65 => ?_)
          · skip
            refine g_iconst (pc := 73) hX dX2_turnBelow_73 ?_
            refine g_iret (pc := 74) hX hR dX2_turnBelow_74 ?_
            have htu : tu1 (tk % 100000) (stZ tk unit) real = u1 := by rw [hst]; unfold tu1; rw [← fdiv_a (show 0 ≤ tk % 100000 by omega), ← eu1]; exact if_pos c_48
            exact ⟨vI_c (by unfold turnZ; rw [if_neg (by omega), htu, if_neg (by omega)]), rfl⟩
          · skip
            refine g_iload (pc := 68) hX 0 rfl dX2_turnBelow_68 ?_
            refine g_goto (pc := 70) (tgt := 74) hX dX2_turnBelow_70 (by decide) ?_
            refine g_iret (pc := 74) hX hR dX2_turnBelow_74 ?_
            have htu : tu1 (tk % 100000) (stZ tk unit) real = u1 := by rw [hst]; unfold tu1; rw [← fdiv_a (show 0 ≤ tk % 100000 by omega), ← eu1]; exact if_pos c_48
            exact ⟨vI_c (by unfold turnZ; rw [if_neg (by omega), htu, if_pos c_65]), rfl⟩
        · skip
          refine g_iload (pc := 51) hX 1 rfl dX2_turnBelow_51 ?_
          refine g_iconst (pc := 53) hX dX2_turnBelow_53 ?_
          refine g_isub (pc := 54) hX dX2_turnBelow_54 ?_
          refine g_iload (pc := 55) hX 2 rfl dX2_turnBelow_55 ?_
          refine g_callN1 (pc := 57) (As := [vI ((tk % 100000) - 1), vI (1)]) (st2 := []) hX (c_X6_wholeSteps_t (x := (tk % 100000) - 1) (y := 1) (by first | assumption | exact inI_mk (by omega) (by omega)) (by first | assumption | exact inI_mk (by omega) (by omega)) (by omega)) ggX2_turnBelow_X6_wholeSteps (List.mem_of_getElem? (i := 15) rfl) (List.mem_of_getElem? (i := 7) rfl) (List.mem_of_getElem? (i := 8) rfl) (n := 2) (hw := rfl) (hrc := rfl) (hrs := rfl) (hd := by decide +kernel) (hR := ⟨Nat.le_of_ble_eq_true rfl, Nat.le_of_ble_eq_true rfl⟩) (hn := rfl) (hst := rfl) (hsum := Nat.le_of_ble_eq_true rfl) (hdg := dX2_turnBelow_57) ?_
          rintro _ S9 ⟨rfl, e9⟩
          rw [e9]
          clear e9 S9
          refine g_at (pc2 := 60) rfl rfl (st2 := [vI (((tk % 100000) - 1).tdiv (1) * 1)]) rfl (S2 := S) rfl ?_
          obtain ⟨u2, eu2⟩ : ∃ z : Int, z = ((tk % 100000) - 1).tdiv (1) * 1 := ⟨_, rfl⟩
          refine g_at rfl rfl (st2 := [vI (u2)]) (by rw [eu2]) rfl ?_
          have hu2 := ws_b (x := tk % 100000 - 1) (y := 1) (by omega) (by omega)
          rw [← eu2] at hu2
          refine g_istore (pc := 60) hX (lv2 := [(6, vI (u2)), (5, vI (tk % 100000)), (4, vI (1)), (3, vI (colZ tk)), (0, vI (tk)), (1, vI (real)), (2, vI (unit))]) (by decide) rfl dX2_turnBelow_60 ?_
          refine g_iload (pc := 62) hX 0 rfl dX2_turnBelow_62 ?_
          refine g_iload_n (pc := 64) hX 5 rfl dX2_turnBelow_64 ?_
          refine g_icmp_ge (pc := 65) (tgt := 73) hX (by first | assumption | exact inI_mk (by omega) (by omega)) (by first | assumption | exact inI_mk (by omega) (by omega)) dX2_turnBelow_65 (by decide) (fun c_65 => ?_) (fun c_65 => ?_)
          · skip
            refine g_iconst (pc := 73) hX dX2_turnBelow_73 ?_
            refine g_iret (pc := 74) hX hR dX2_turnBelow_74 ?_
            have htu : tu1 (tk % 100000) (stZ tk unit) real = u2 := by rw [hst]; unfold tu1; rw [← fdiv_a (show 0 ≤ tk % 100000 by omega), ← eu1, ← eu2]; exact if_neg (by omega)
            exact ⟨vI_c (by unfold turnZ; rw [if_neg (by omega), htu, if_neg (by omega)]), rfl⟩
          · skip
            refine g_iload (pc := 68) hX 0 rfl dX2_turnBelow_68 ?_
            refine g_goto (pc := 70) (tgt := 74) hX dX2_turnBelow_70 (by decide) ?_
            refine g_iret (pc := 74) hX hR dX2_turnBelow_74 ?_
            have htu : tu1 (tk % 100000) (stZ tk unit) real = u2 := by rw [hst]; unfold tu1; rw [← fdiv_a (show 0 ≤ tk % 100000 by omega), ← eu1, ← eu2]; exact if_neg (by omega)
            exact ⟨vI_c (by unfold turnZ; rw [if_neg (by omega), htu, if_pos c_65]), rfl⟩
      · skip
        refine g_iload_n (pc := 23) hX 3 rfl dX2_turnBelow_23 ?_
        refine g_goto (pc := 24) (tgt := 28) hX dX2_turnBelow_24 (by decide) ?_
        refine g_istore (pc := 28) hX (lv2 := [(4, vI (unit)), (3, vI (colZ tk)), (0, vI (tk)), (1, vI (real)), (2, vI (unit))]) (by decide) rfl dX2_turnBelow_28 ?_
        have h0t : 0 ≤ tk := colZ_p (by omega)
        have hst : stZ tk unit = unit := by unfold stZ; first | exact if_pos (by assumption) | exact if_neg (by omega)
        have htm : (tk).tmod 100000 = tk % 100000 := Int.tmod_eq_emod_of_nonneg h0t
        refine g_iload_n (pc := 30) hX 2 rfl dX2_turnBelow_30 ?_
        refine g_ldc (pc := 31) hX (z := 100000) (List.mem_of_getElem? (i := 1) rfl) (by decide +kernel) dX2_turnBelow_31 ?_
        refine g_irem (pc := 33) hX htk (by first | assumption | exact inI_mk (by omega) (by omega)) (by omega) dX2_turnBelow_33 ?_
        refine g_at rfl rfl (st2 := [vI (tk % 100000)]) (by rw [show (tk).tmod (100000) = tk % 100000 from htm]) rfl ?_
        refine g_istore (pc := 34) hX (lv2 := [(5, vI (tk % 100000)), (4, vI (unit)), (3, vI (colZ tk)), (0, vI (tk)), (1, vI (real)), (2, vI (unit))]) (by decide) rfl dX2_turnBelow_34 ?_
        refine g_iload (pc := 36) hX 0 rfl dX2_turnBelow_36 ?_
        refine g_iload (pc := 38) hX 1 rfl dX2_turnBelow_38 ?_
        refine g_callN1 (pc := 40) (As := [vI (tk % 100000), vI (unit)]) (st2 := []) hX (c_X6_wholeSteps_t (x := tk % 100000) (y := unit) (by first | assumption | exact inI_mk (by omega) (by omega)) (by first | assumption | exact inI_mk (by omega) (by omega)) (by omega)) ggX2_turnBelow_X6_wholeSteps (List.mem_of_getElem? (i := 15) rfl) (List.mem_of_getElem? (i := 7) rfl) (List.mem_of_getElem? (i := 8) rfl) (n := 2) (hw := rfl) (hrc := rfl) (hrs := rfl) (hd := by decide +kernel) (hR := ⟨Nat.le_of_ble_eq_true rfl, Nat.le_of_ble_eq_true rfl⟩) (hn := rfl) (hst := rfl) (hsum := Nat.le_of_ble_eq_true rfl) (hdg := dX2_turnBelow_40) ?_
        rintro _ S9 ⟨rfl, e9⟩
        rw [e9]
        clear e9 S9
        refine g_at (pc2 := 43) rfl rfl (st2 := [vI ((tk % 100000).tdiv (unit) * unit)]) rfl (S2 := S) rfl ?_
        obtain ⟨u1, eu1⟩ : ∃ z : Int, z = (tk % 100000).tdiv (unit) * unit := ⟨_, rfl⟩
        refine g_at rfl rfl (st2 := [vI (u1)]) (by rw [eu1]) rfl ?_
        have hu1 := ws_b (x := tk % 100000) (y := unit) (by omega) (by omega)
        rw [← eu1] at hu1
        refine g_istore (pc := 43) hX (lv2 := [(6, vI (u1)), (5, vI (tk % 100000)), (4, vI (unit)), (3, vI (colZ tk)), (0, vI (tk)), (1, vI (real)), (2, vI (unit))]) (by decide) rfl dX2_turnBelow_43 ?_
        refine g_iload (pc := 45) hX 0 rfl dX2_turnBelow_45 ?_
        refine g_iload_n (pc := 47) hX 5 rfl dX2_turnBelow_47 ?_
        refine g_icmp_lt (pc := 48) (tgt := 62) hX (by first | assumption | exact inI_mk (by omega) (by omega)) (by first | assumption | exact inI_mk (by omega) (by omega)) dX2_turnBelow_48 (by decide) (fun c_48 => ?_) (fun c_48 => ?_)
        · skip
          refine g_iload (pc := 62) hX 0 rfl dX2_turnBelow_62 ?_
          refine g_iload_n (pc := 64) hX 5 rfl dX2_turnBelow_64 ?_
          refine g_icmp_ge (pc := 65) (tgt := 73) hX (by first | assumption | exact inI_mk (by omega) (by omega)) (by first | assumption | exact inI_mk (by omega) (by omega)) dX2_turnBelow_65 (by decide) (fun c_65 => ?_) (fun c_65 => ?_)
          · skip
            refine g_iconst (pc := 73) hX dX2_turnBelow_73 ?_
            refine g_iret (pc := 74) hX hR dX2_turnBelow_74 ?_
            have htu : tu1 (tk % 100000) (stZ tk unit) real = u1 := by rw [hst]; unfold tu1; rw [← fdiv_a (show 0 ≤ tk % 100000 by omega), ← eu1]; exact if_pos c_48
            exact ⟨vI_c (by unfold turnZ; rw [if_neg (by omega), htu, if_neg (by omega)]), rfl⟩
          · skip
            refine g_iload (pc := 68) hX 0 rfl dX2_turnBelow_68 ?_
            refine g_goto (pc := 70) (tgt := 74) hX dX2_turnBelow_70 (by decide) ?_
            refine g_iret (pc := 74) hX hR dX2_turnBelow_74 ?_
            have htu : tu1 (tk % 100000) (stZ tk unit) real = u1 := by rw [hst]; unfold tu1; rw [← fdiv_a (show 0 ≤ tk % 100000 by omega), ← eu1]; exact if_pos c_48
            exact ⟨vI_c (by unfold turnZ; rw [if_neg (by omega), htu, if_pos c_65]), rfl⟩
        · skip
          refine g_iload (pc := 51) hX 1 rfl dX2_turnBelow_51 ?_
          refine g_iconst (pc := 53) hX dX2_turnBelow_53 ?_
          refine g_isub (pc := 54) hX dX2_turnBelow_54 ?_
          refine g_iload (pc := 55) hX 2 rfl dX2_turnBelow_55 ?_
          refine g_callN1 (pc := 57) (As := [vI ((tk % 100000) - 1), vI (unit)]) (st2 := []) hX (c_X6_wholeSteps_t (x := (tk % 100000) - 1) (y := unit) (by first | assumption | exact inI_mk (by omega) (by omega)) (by first | assumption | exact inI_mk (by omega) (by omega)) (by omega)) ggX2_turnBelow_X6_wholeSteps (List.mem_of_getElem? (i := 15) rfl) (List.mem_of_getElem? (i := 7) rfl) (List.mem_of_getElem? (i := 8) rfl) (n := 2) (hw := rfl) (hrc := rfl) (hrs := rfl) (hd := by decide +kernel) (hR := ⟨Nat.le_of_ble_eq_true rfl, Nat.le_of_ble_eq_true rfl⟩) (hn := rfl) (hst := rfl) (hsum := Nat.le_of_ble_eq_true rfl) (hdg := dX2_turnBelow_57) ?_
          rintro _ S9 ⟨rfl, e9⟩
          rw [e9]
          clear e9 S9
          refine g_at (pc2 := 60) rfl rfl (st2 := [vI (((tk % 100000) - 1).tdiv (unit) * unit)]) rfl (S2 := S) rfl ?_
          obtain ⟨u2, eu2⟩ : ∃ z : Int, z = ((tk % 100000) - 1).tdiv (unit) * unit := ⟨_, rfl⟩
          refine g_at rfl rfl (st2 := [vI (u2)]) (by rw [eu2]) rfl ?_
          have hu2 := ws_b (x := tk % 100000 - 1) (y := unit) (by omega) (by omega)
          rw [← eu2] at hu2
          refine g_istore (pc := 60) hX (lv2 := [(6, vI (u2)), (5, vI (tk % 100000)), (4, vI (unit)), (3, vI (colZ tk)), (0, vI (tk)), (1, vI (real)), (2, vI (unit))]) (by decide) rfl dX2_turnBelow_60 ?_
          refine g_iload (pc := 62) hX 0 rfl dX2_turnBelow_62 ?_
          refine g_iload_n (pc := 64) hX 5 rfl dX2_turnBelow_64 ?_
          refine g_icmp_ge (pc := 65) (tgt := 73) hX (by first | assumption | exact inI_mk (by omega) (by omega)) (by first | assumption | exact inI_mk (by omega) (by omega)) dX2_turnBelow_65 (by decide) (fun c_65 => ?_) (fun c_65 => ?_)
          · skip
            refine g_iconst (pc := 73) hX dX2_turnBelow_73 ?_
            refine g_iret (pc := 74) hX hR dX2_turnBelow_74 ?_
            have htu : tu1 (tk % 100000) (stZ tk unit) real = u2 := by rw [hst]; unfold tu1; rw [← fdiv_a (show 0 ≤ tk % 100000 by omega), ← eu1, ← eu2]; exact if_neg (by omega)
            exact ⟨vI_c (by unfold turnZ; rw [if_neg (by omega), htu, if_neg (by omega)]), rfl⟩
          · skip
            refine g_iload (pc := 68) hX 0 rfl dX2_turnBelow_68 ?_
            refine g_goto (pc := 70) (tgt := 74) hX dX2_turnBelow_70 (by decide) ?_
            refine g_iret (pc := 74) hX hR dX2_turnBelow_74 ?_
            have htu : tu1 (tk % 100000) (stZ tk unit) real = u2 := by rw [hst]; unfold tu1; rw [← fdiv_a (show 0 ≤ tk % 100000 by omega), ← eu1, ← eu2]; exact if_neg (by omega)
            exact ⟨vI_c (by unfold turnZ; rw [if_neg (by omega), htu, if_pos c_65]), rfl⟩
    · skip
      refine g_iconst (pc := 15) hX dX2_turnBelow_15 ?_
      refine g_iret (pc := 16) hX hR dX2_turnBelow_16 ?_
      exact ⟨vI_c (by unfold turnZ; rw [if_pos (by omega)]), rfl⟩

set_option maxHeartbeats 4000000 in
set_option maxRecDepth 100000 in
theorem c_X2_nextLower {w : gW} {l : Launch} {S : Nat → va_E} {k kr kr1 : Nat} {nR : Int} {R : Int → Int → Int} (hk : k < gw_N w) (hkr : kr < gw_N w) (hkr1 : kr1 < gw_N w) (ek : S k = OU w kr) (ekr : S kr = OT w 8 63 kr1 nR) (ekr1 : S kr1 = AT w 504 63 R) (hRR : ∀ i j, inI (R i j)) (hU : ruOK nR R) {real unit : Int} (hreal : inI real) (hu : 1 ≤ unit ∧ unit ≤ 1000) :
    GM1 w l yX2_nextLower wsX2_nextLower { frames := 2, cells := 0, slots := 0, locals := 47 } [.ref (gw_ad w k), vI (real), vI (unit)] S
      (fun v S' => v = vI (nlZ R real unit nR.toNat) ∧ S' = S) := by
  refine GM.start (own := RX2) (n := "nextLower") (d := "(II)I") (by decide) rfl (Nat.le_of_ble_eq_true rfl) ?_
  intro X hX hR hXl
  subst hXl
  refine g_at rfl (lv2 := [(0, .ref (gw_ad w k)), (1, vI (real)), (2, vI (unit))]) rfl rfl rfl ?_
  have hnR := hU.1
  refine g_iconst (pc := 0) hX dX2_nextLower_0 ?_
  refine g_istore_n (pc := 1) hX (lv2 := [(3, vI (0)), (0, .ref (gw_ad w k)), (1, vI (real)), (2, vI (unit))]) rfl (by decide) rfl dX2_nextLower_1 ?_
  refine g_iconst (pc := 2) hX dX2_nextLower_2 ?_
  refine g_istore (pc := 3) hX (lv2 := [(4, vI (0)), (3, vI (0)), (0, .ref (gw_ad w k)), (1, vI (real)), (2, vI (unit))]) (by decide) rfl dX2_nextLower_3 ?_
  have lo : ∀ (n0 : Nat) (c : Int), 0 ≤ c → c ≤ nR → nR - c < n0 → G w { frames := 2, cells := 0, slots := 0, locals := 47 } X 8 5 [(4, vI (c)), (0, .ref (gw_ad w k)), (1, vI (real)), (2, vI (unit)), (3, vI (nlZ R real unit (c : Int).toNat))] [] S := by
    intro n0
    induction n0 with
    | zero => intro c  h1c h2c h3c; exact absurd h3c (by omega)
    | succ n0 ihlo =>
      intro c  h1c h2c h3c 
      have hc : inI c := inI_mk (by omega) (by omega)
      have hnb := nlZ_b R real hu (c : Int).toNat
      refine g_iload (pc := 5) hX 0 rfl dX2_nextLower_5 ?_
      refine g_aload_n (pc := 7) hX 1 rfl dX2_nextLower_7 ?_
      refine g_get (pc := 8) hX (ci := 2) (fun _ h => List.mem_cons_of_mem _ (List.mem_append_left _ (List.mem_append_right _ h))) rfl k hk ek 0 (by decide) (List.mem_of_getElem? (i := 1) rfl) rfl (v := .ref (gw_ad w kr)) rfl dX2_nextLower_8 ?_
      refine g_get (pc := 11) hX (ci := 5) (fun _ h => List.mem_cons_of_mem _ (List.mem_append_right _ h)) rfl kr hkr ekr 3 (by decide) (List.mem_of_getElem? (i := 2) rfl) rfl (v := vI (nR)) rfl dX2_nextLower_11 ?_
      refine g_icmp_ge (pc := 14) (tgt := 78) hX (by first | assumption | exact inI_mk (by omega) (by omega)) (by first | assumption | exact inI_mk (by omega) (by omega)) dX2_nextLower_14 (by decide) (fun c_14 => ?_) (fun c_14 => ?_)
      · skip
        refine g_iload_n (pc := 78) hX 4 rfl dX2_nextLower_78 ?_
        refine g_iret (pc := 79) hX hR dX2_nextLower_79 ?_
        rw [show c = nR by omega]
        exact ⟨rfl, rfl⟩
      · skip
        have hUr := (hU.2 c h1c c_14).1
        refine g_aload_n (pc := 17) hX 1 rfl dX2_nextLower_17 ?_
        refine g_get (pc := 18) hX (ci := 2) (fun _ h => List.mem_cons_of_mem _ (List.mem_append_left _ (List.mem_append_right _ h))) rfl k hk ek 0 (by decide) (List.mem_of_getElem? (i := 1) rfl) rfl (v := .ref (gw_ad w kr)) rfl dX2_nextLower_18 ?_
        refine g_iload (pc := 21) hX 0 rfl dX2_nextLower_21 ?_
        refine g_iconst (pc := 23) hX dX2_nextLower_23 ?_
        refine g_callV1 (pc := 24) (ci := 5) (As := [vI (c), vI (0)]) (st2 := []) hX kr hkr ekr rfl (c_X5_cell (row := c) (col := 0) hkr hkr1 ekr ekr1 (by decide) (by decide) (by first | assumption | exact inI_mk (by omega) (by omega)) (by first | assumption | exact inI_mk (by omega) (by omega)) (by first | assumption | exact inI_mk (by omega) (by omega)) (by first | assumption | exact inI_mk (by omega) (by omega))) gX2_nextLower_X5_cell (n := 2) (hw := rfl) (hrc := rfl) (hrs := rfl) (hd := by decide +kernel) (hR := ⟨Nat.le_of_ble_eq_true rfl, Nat.le_of_ble_eq_true rfl⟩) (hn := rfl) (hst := rfl) (hsum := Nat.le_of_ble_eq_true rfl) (hdg := dX2_nextLower_24) ?_
        rintro _ S9 ⟨rfl, e9⟩
        rw [e9]
        clear e9 S9
        rw [tcell_in (by omega) (by omega) (by omega) (by omega)]
        refine g_at (pc2 := 27) rfl rfl (st2 := [vI (R c 0)]) rfl (S2 := S) rfl ?_
        refine g_istore (pc := 27) hX (lv2 := [(5, vI (R c 0)), (4, vI (c)), (0, .ref (gw_ad w k)), (1, vI (real)), (2, vI (unit)), (3, vI (nlZ R real unit (c : Int).toNat))]) (by decide) rfl dX2_nextLower_27 ?_
        refine g_iconst (pc := 29) hX dX2_nextLower_29 ?_
        refine g_istore (pc := 30) hX (lv2 := [(6, vI (0)), (5, vI (R c 0)), (4, vI (c)), (0, .ref (gw_ad w k)), (1, vI (real)), (2, vI (unit)), (3, vI (nlZ R real unit (c : Int).toNat))]) (by decide) rfl dX2_nextLower_30 ?_
        have li : ∀ (n0 : Nat) (e : Int), 0 ≤ e → e ≤ R c 0 → R c 0 - e < n0 → G w { frames := 2, cells := 0, slots := 0, locals := 47 } X 8 32 [(6, vI (e)), (0, .ref (gw_ad w k)), (1, vI (real)), (2, vI (unit)), (3, vI (tlZ R c real unit (nlZ R real unit (c : Int).toNat) (e : Int).toNat)), (4, vI (c)), (5, vI (R c 0))] [] S := by
          intro n0
          induction n0 with
          | zero => intro e  h1e h2e h3e; exact absurd h3e (by omega)
          | succ n0 ihli =>
            intro e  h1e h2e h3e 
            have he : inI e := inI_mk (by omega) (by omega)
            have htb := tlZ_b R c real hu hnb (e : Int).toNat
            have hZ := turnZ_b (t := R c (3 + e)) (real := real) hu
            refine g_iload (pc := 32) hX 0 rfl dX2_nextLower_32 ?_
            refine g_iload (pc := 34) hX 6 rfl dX2_nextLower_34 ?_
            refine g_icmp_ge (pc := 36) (tgt := 72) hX (by first | assumption | exact inI_mk (by omega) (by omega)) (by first | assumption | exact inI_mk (by omega) (by omega)) dX2_nextLower_36 (by decide) (fun c_36 => ?_) (fun c_36 => ?_)
            · skip
              refine g_iinc (pc := 72) hX (lv2 := [(4, vI (c + 1)), (6, vI (e)), (0, .ref (gw_ad w k)), (1, vI (real)), (2, vI (unit)), (3, vI (tlZ R c real unit (nlZ R real unit (c : Int).toNat) (e : Int).toNat)), (5, vI (R c 0))]) 5 rfl (by decide) rfl dX2_nextLower_72 ?_
              refine g_goto (pc := 75) (tgt := 5) hX dX2_nextLower_75 (by decide) ?_
              refine g_sub (lv2 := [(4, vI (c + 1)), (0, .ref (gw_ad w k)), (1, vI (real)), (2, vI (unit)), (3, vI (tlZ R c real unit (nlZ R real unit (c : Int).toNat) (e : Int).toNat))]) [0, 2, 3, 4, 5] rfl ?_
              refine g_at rfl (lv2 := [(4, vI (c + 1)), (0, .ref (gw_ad w k)), (1, vI (real)), (2, vI (unit)), (3, vI (nlZ R real unit (c + 1 : Int).toNat))]) (by rw [nlZ_s _ _ _ h1c, show e = R c 0 by omega]) rfl (S2 := S) (rfl) ?_
              exact ihlo (c + 1)  (by omega) (by omega) (by omega) 
            · skip
              refine g_aload_n (pc := 39) hX 1 rfl dX2_nextLower_39 ?_
              refine g_get (pc := 40) hX (ci := 2) (fun _ h => List.mem_cons_of_mem _ (List.mem_append_left _ (List.mem_append_right _ h))) rfl k hk ek 0 (by decide) (List.mem_of_getElem? (i := 1) rfl) rfl (v := .ref (gw_ad w kr)) rfl dX2_nextLower_40 ?_
              refine g_iload (pc := 43) hX 5 rfl dX2_nextLower_43 ?_
              refine g_iconst (pc := 45) hX dX2_nextLower_45 ?_
              refine g_iload (pc := 46) hX 0 rfl dX2_nextLower_46 ?_
              refine g_iadd (pc := 48) hX dX2_nextLower_48 ?_
              refine g_callV1 (pc := 49) (ci := 5) (As := [vI (c), vI (3 + e)]) (st2 := []) hX kr hkr ekr rfl (c_X5_cell (row := c) (col := 3 + e) hkr hkr1 ekr ekr1 (by decide) (by decide) (by first | assumption | exact inI_mk (by omega) (by omega)) (by first | assumption | exact inI_mk (by omega) (by omega)) (by first | assumption | exact inI_mk (by omega) (by omega)) (by first | assumption | exact inI_mk (by omega) (by omega))) gX2_nextLower_X5_cell (n := 2) (hw := rfl) (hrc := rfl) (hrs := rfl) (hd := by decide +kernel) (hR := ⟨Nat.le_of_ble_eq_true rfl, Nat.le_of_ble_eq_true rfl⟩) (hn := rfl) (hst := rfl) (hsum := Nat.le_of_ble_eq_true rfl) (hdg := dX2_nextLower_49) ?_
              rintro _ S9 ⟨rfl, e9⟩
              rw [e9]
              clear e9 S9
              rw [tcell_in (by omega) (by omega) (by omega) (by omega)]
              refine g_at (pc2 := 52) rfl rfl (st2 := [vI (R c (3 + e))]) rfl (S2 := S) rfl ?_
              refine g_istore (pc := 52) hX (lv2 := [(7, vI (R c (3 + e))), (6, vI (e)), (0, .ref (gw_ad w k)), (1, vI (real)), (2, vI (unit)), (3, vI (tlZ R c real unit (nlZ R real unit (c : Int).toNat) (e : Int).toNat)), (4, vI (c)), (5, vI (R c 0))]) (by decide) rfl dX2_nextLower_52 ?_
              refine g_iload_n (pc := 54) hX 5 rfl dX2_nextLower_54 ?_
              refine g_iload (pc := 55) hX 0 rfl dX2_nextLower_55 ?_
              refine g_iload_n (pc := 57) hX 3 rfl dX2_nextLower_57 ?_
              refine g_iload_n (pc := 58) hX 4 rfl dX2_nextLower_58 ?_
              refine g_callT1 (pc := 59) (As := [vI (R c (3 + e)), vI (real), vI (unit)]) (st2 := [vI (tlZ R c real unit (nlZ R real unit (c : Int).toNat) (e : Int).toNat)]) hX (c_X2_turnBelow (tk := R c (3 + e)) (hRR _ _) (by first | assumption | exact inI_mk (by omega) (by omega)) hu) gX2_nextLower_X2_turnBelow (n := 3) (hw := rfl) (hrc := rfl) (hrs := rfl) (hd := by decide +kernel) (hR := ⟨Nat.le_of_ble_eq_true rfl, Nat.le_of_ble_eq_true rfl⟩) (hn := rfl) (hst := rfl) (hsum := Nat.le_of_ble_eq_true rfl) (hdg := dX2_nextLower_59) ?_
              rintro _ S9 ⟨rfl, e9⟩
              rw [e9]
              clear e9 S9
              refine g_at (pc2 := 62) rfl rfl (st2 := [vI (turnZ (R c (3 + e)) real unit), vI (tlZ R c real unit (nlZ R real unit (c : Int).toNat) (e : Int).toNat)]) rfl (S2 := S) rfl ?_
              refine g_mmax (pc := 62) hX (inI_mk (by omega) (by omega)) (inI_mk (by omega) (by omega)) (List.mem_of_getElem? (i := 3) rfl) (List.mem_of_getElem? (i := 4) rfl) (List.mem_of_getElem? (i := 5) rfl) (List.mem_of_getElem? (i := 6) rfl) (Nat.le_of_ble_eq_true rfl) (Nat.le_of_ble_eq_true rfl) dX2_nextLower_62 ?_
              refine g_istore_n (pc := 65) hX (lv2 := [(3, vI ((if tlZ R c real unit (nlZ R real unit (c : Int).toNat) (e : Int).toNat < turnZ (R c (3 + e)) real unit then turnZ (R c (3 + e)) real unit else tlZ R c real unit (nlZ R real unit (c : Int).toNat) (e : Int).toNat))), (7, vI (R c (3 + e))), (6, vI (e)), (0, .ref (gw_ad w k)), (1, vI (real)), (2, vI (unit)), (4, vI (c)), (5, vI (R c 0))]) rfl (by decide) rfl dX2_nextLower_65 ?_
              refine g_iinc (pc := 66) hX (lv2 := [(6, vI (e + 1)), (3, vI ((if tlZ R c real unit (nlZ R real unit (c : Int).toNat) (e : Int).toNat < turnZ (R c (3 + e)) real unit then turnZ (R c (3 + e)) real unit else tlZ R c real unit (nlZ R real unit (c : Int).toNat) (e : Int).toNat))), (7, vI (R c (3 + e))), (0, .ref (gw_ad w k)), (1, vI (real)), (2, vI (unit)), (4, vI (c)), (5, vI (R c 0))]) 2 rfl (by decide) rfl dX2_nextLower_66 ?_
              refine g_goto (pc := 69) (tgt := 32) hX dX2_nextLower_69 (by decide) ?_
              refine g_sub (lv2 := [(6, vI (e + 1)), (0, .ref (gw_ad w k)), (1, vI (real)), (2, vI (unit)), (3, vI ((if tlZ R c real unit (nlZ R real unit (c : Int).toNat) (e : Int).toNat < turnZ (R c (3 + e)) real unit then turnZ (R c (3 + e)) real unit else tlZ R c real unit (nlZ R real unit (c : Int).toNat) (e : Int).toNat))), (4, vI (c)), (5, vI (R c 0))]) [0, 3, 4, 5, 1, 6, 7] rfl ?_
              refine g_at rfl (lv2 := [(6, vI (e + 1)), (0, .ref (gw_ad w k)), (1, vI (real)), (2, vI (unit)), (3, vI (tlZ R c real unit (nlZ R real unit (c : Int).toNat) (e + 1 : Int).toNat)), (4, vI (c)), (5, vI (R c 0))]) (by rw [tlZ_s _ _ _ _ _ h1e]; rfl) rfl (S2 := S) (rfl) ?_
              exact ihli (e + 1)  (by omega) (by omega) (by omega) 
        refine g_sub (lv2 := [(6, vI (0)), (0, .ref (gw_ad w k)), (1, vI (real)), (2, vI (unit)), (3, vI (nlZ R real unit (c : Int).toNat)), (4, vI (c)), (5, vI (R c 0))]) [0, 3, 4, 5, 6, 2, 1] rfl ?_
        refine g_at rfl (lv2 := [(6, vI (0)), (0, .ref (gw_ad w k)), (1, vI (real)), (2, vI (unit)), (3, vI (tlZ R c real unit (nlZ R real unit (c : Int).toNat) (0 : Int).toNat)), (4, vI (c)), (5, vI (R c 0))]) (rfl) rfl (S2 := S) (rfl) ?_
        exact li ((R c 0 : Int) - 0 + 1).toNat 0  (by omega) (by omega) (by omega) 
  refine g_sub (lv2 := [(4, vI (0)), (0, .ref (gw_ad w k)), (1, vI (real)), (2, vI (unit)), (3, vI (0))]) [0, 2, 3, 4, 1] rfl ?_
  refine g_at rfl (lv2 := [(4, vI (0)), (0, .ref (gw_ad w k)), (1, vI (real)), (2, vI (unit)), (3, vI (nlZ R real unit (0 : Int).toNat))]) (rfl) rfl (S2 := S) (rfl) ?_
  exact lo ((nR : Int) - 0 + 1).toNat 0  (by omega) (by omega) (by omega) 

set_option maxHeartbeats 4000000 in
set_option maxRecDepth 100000 in
theorem c_X2_copyFrom {w : gW} {l : Launch} {S : Nat → va_E} {k kr kr1 : Nat} {nR : Int} {R : Int → Int → Int} (hk : k < gw_N w) (hkr : kr < gw_N w) (hkr1 : kr1 < gw_N w) (ek : S k = OU w kr) (ekr : S kr = OT w 8 63 kr1 nR) (ekr1 : S kr1 = AT w 504 63 R) {q qr qr1 : Nat} {nR2 : Int} {R2 : Int → Int → Int} (hq : q < gw_N w) (hqr : qr < gw_N w) (hqr1 : qr1 < gw_N w) (eq : S q = OU w qr) (eqr : S qr = OT w 8 63 qr1 nR2) (eqr1 : S qr1 = AT w 504 63 R2) (h2 : 0 ≤ nR2 ∧ nR2 ≤ 8) (n1 : kr ≠ kr1) (n2 : qr ≠ kr1) :
    GM0 w l yX2_copyFrom wsX2_copyFrom { frames := 2, cells := 0, slots := 0, locals := 43 } [.ref (gw_ad w k), .ref (gw_ad w q)] S
      (fun S' => S' = va_up (va_up S kr1 (AT w 504 63 (mrg nR2 R2 R))) kr (OT w 8 63 kr1 nR2)) := by
  refine GM.start (own := RX2) (n := "copyFrom") (d := "(LParcelDesk$Rules;)V") (by decide) rfl (Nat.le_of_ble_eq_true rfl) ?_
  intro X hX hR hXl
  subst hXl
  refine g_at rfl (lv2 := [(0, .ref (gw_ad w k)), (1, .ref (gw_ad w q))]) rfl rfl rfl ?_
  refine g_aload_n (pc := 0) hX 0 rfl dX2_copyFrom_0 ?_
  refine g_get (pc := 1) hX (ci := 2) (fun _ h => List.mem_cons_of_mem _ (List.mem_append_left _ (List.mem_append_right _ h))) rfl k hk ek 0 (by decide) (List.mem_of_getElem? (i := 1) rfl) rfl (v := .ref (gw_ad w kr)) rfl dX2_copyFrom_1 ?_
  refine g_aload_n (pc := 4) hX 1 rfl dX2_copyFrom_4 ?_
  refine g_get (pc := 5) hX (ci := 2) (fun _ h => List.mem_cons_of_mem _ (List.mem_append_left _ (List.mem_append_right _ h))) rfl q hq eq 0 (by decide) (List.mem_of_getElem? (i := 1) rfl) rfl (v := .ref (gw_ad w qr)) rfl dX2_copyFrom_5 ?_
  refine g_callV0 (pc := 8) (ci := 5) (As := [.ref (gw_ad w qr)]) (st2 := []) hX kr hkr ekr rfl (c_X5_copyFrom hkr hkr1 ekr ekr1 hqr hqr1 eqr eqr1 (by omega) (by omega) (by first | assumption | exact inI_mk (by omega) (by omega)) (by first | assumption | exact inI_mk (by omega) (by omega)) (by omega) (by omega) n1 n2) gX2_copyFrom_X5_copyFrom (n := 1) (hw := rfl) (hrc := rfl) (hrs := rfl) (hd := by decide +kernel) (hR := ⟨Nat.le_of_ble_eq_true rfl, Nat.le_of_ble_eq_true rfl⟩) (hn := rfl) (hst := rfl) (hsum := Nat.le_of_ble_eq_true rfl) (hdg := dX2_copyFrom_8) ?_
  rintro _ rfl
  refine g_at (pc2 := 11) rfl rfl (st2 := []) rfl (S2 := (va_up (va_up S kr1 (AI w 504 (fl 63 (mrg nR2 R2 R)))) kr (.inr (5, [vI (8), vI (63), .ref (gw_ad w kr1), vI (nR2)])))) rfl ?_
  refine g_vret (pc := 11) hX hR dX2_copyFrom_11 ?_
  exact rfl
