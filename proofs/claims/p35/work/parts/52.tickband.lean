/-! ===== the class: tick and band ===== -/

set_option maxHeartbeats 4000000 in
set_option maxRecDepth 100000 in
theorem c_X6_tick {w : gW} {l : Launch} {S : Nat → va_E} {pc j : Nat} {ty : Int} {B ρ T : Int → Int} {Tr : Int → Int → Int} {D : SD} {Z : Nat → SD} (hN : gw_N w = 92) (hd : deskAt w pc j ty B ρ T Tr D Z S) (hO : deskOK ty B ρ Tr D) (hh : pc ≤ 4 ∧ j < 4 ∧ ∀ i : Nat, i < 4 → cOK (Z i)) {t : Int} (ht : inI t) :
    GM1 w l yX6_tick wsX6_tick { frames := 5, cells := 0, slots := 0, locals := 111 } [.ref (gw_ad w 0), vI (t)] S
      (fun v S' => if 1 ≤ t ∧ t ≤ 100 then (if sG D 1 ≤ 100000 - t then v = vI (scRaw (sF D) (tkN (sF D) (sG D) t.toNat)) ∧ POST w S (pcN pc) (jN j) ty B ρ T Tr (wG D (tkN (sF D) (sG D) t.toNat)) (pastN j Z D) S' else v = vI (-1000002) ∧ S' = S) else v = vI (-1000001) ∧ S' = S) := by
  refine GM.start (own := RX6) (n := "tick") (d := "(I)I") (by decide) rfl (Nat.le_of_ble_eq_true rfl) ?_
  intro X hX hR hXl
  subst hXl
  refine g_at rfl (lv2 := [(0, .ref (gw_ad w 0)), (1, vI (t))]) rfl rfl rfl ?_
  obtain ⟨⟨d0, d1, d2, d3, d4, d5, d6⟩, ⟨hS0, hB0⟩, hpa⟩ := id hd
  obtain ⟨F, g, C, E, L, Q, nR, R, nP, P0, nN, N, nK, K⟩ := D
  obtain ⟨⟨e0, e1, e2⟩, ⟨e3, e4, e5, e6, e7⟩, ⟨e8, e9, e10⟩⟩ := (id hS0)
  obtain ⟨⟨e11, e12⟩, ⟨e13, e14⟩, ⟨e15, e16⟩⟩ := (id hB0)
  change S 7 = .inr (4, [.ref (gw_ad w 8), .ref (gw_ad w 10), .ref (gw_ad w 15), .ref (gw_ad w 18), .ref (gw_ad w 20), .ref (gw_ad w 22)]) at e0
  change S 8 = .inr (3, [.ref (gw_ad w 9), vI (g 0), vI (g 1), vI (g 2), vI (g 3), vI (g 4), vI (g 5), vI (g 6), vI (g 7), vI (g 8), vI (g 9)]) at e1
  change S 9 = AI w 8 (F) at e2
  change S 10 = .inr (0, [.ref (gw_ad w 11), .ref (gw_ad w 12), .ref (gw_ad w 13), .ref (gw_ad w 14)]) at e3
  change S 11 = AI w 4 (C) at e4
  change S 12 = AI w 24 ((fl 6 L)) at e5
  change S 13 = AI w 24 ((fl 6 Q)) at e6
  change S 14 = AI w 4 (E) at e7
  change S 15 = .inr (2, [.ref (gw_ad w 16)]) at e8
  change S 16 = .inr (5, [vI (8), vI (63), .ref (gw_ad w 17), vI (nR)]) at e9
  change S 17 = AI w 504 (fl 63 R) at e10
  change S 18 = .inr (5, [vI (30), vI (22), .ref (gw_ad w 19), vI (nP)]) at e11
  change S 19 = AI w 660 (fl 22 P0) at e12
  change S 20 = .inr (5, [vI (20), vI (6), .ref (gw_ad w 21), vI (nN)]) at e13
  change S 21 = AI w 120 (fl 6 N) at e14
  change S 22 = .inr (5, [vI (20), vI (22), .ref (gw_ad w 23), vI (nK)]) at e15
  change S 23 = AI w 440 (fl 22 K) at e16
  obtain ⟨hD, hty, hBr, hBi, hrd, hTi⟩ := id hO
  obtain ⟨⟨⟨hF, hg⟩, hB, hU, hRR⟩, ⟨hnP, hPi, hPr⟩, ⟨hnN, hNi, hNr⟩, ⟨hnK, hKi, hKr⟩, hg3⟩ := id hD
  change scF F at hF
  change scG g at hg
  change bdOK C E L Q at hB
  change ruOK nR R at hU
  change ∀ i j, inI (R i j) at hRR
  change 0 ≤ nP ∧ nP ≤ 30 at hnP
  change ∀ i j, inI (P0 i j) at hPi
  change ∀ p, 0 ≤ p → p < nP → rowOK P0 p at hPr
  change 0 ≤ nN ∧ nN ≤ 20 at hnN
  change ∀ i j, inI (N i j) at hNi
  change nK = nN at hnK
  change ∀ i j, inI (K i j) at hKi
  change ∀ n, 0 ≤ n → n < nN → rowOK K n at hKr
  have hnRb : 0 ≤ nR ∧ nR ≤ 8 := hU.1
  obtain ⟨⟨-, ⟨u1a, u1b⟩, -, -⟩, -⟩ := id hg
  have hg5 : g 5 ≤ 2 := hg3.2.2
  refine g_iload_n (pc := 0) hX 1 rfl dX6_tick_0 ?_
  refine g_iconst (pc := 1) hX dX6_tick_1 ?_
  refine g_bipush (pc := 2) hX (by decide) dX6_tick_2 ?_
  refine g_callT1 (pc := 4) (As := [vI (t), vI (1), vI (100)]) (st2 := []) hX (c_X6_isWithin (x := t) (lo := 1) (hi := 100) (by first | assumption | exact inI_mk (by omega) (by omega)) (by first | assumption | exact inI_mk (by omega) (by omega)) (by first | assumption | exact inI_mk (by omega) (by omega))) gX6_tick_X6_isWithin (n := 3) (hw := rfl) (hrc := rfl) (hrs := rfl) (hd := by decide +kernel) (hR := ⟨Nat.le_of_ble_eq_true rfl, Nat.le_of_ble_eq_true rfl⟩) (hn := rfl) (hst := rfl) (hsum := Nat.le_of_ble_eq_true rfl) (hdg := dX6_tick_4) ?_
  rintro _ S9 ⟨rfl, e9⟩
  rw [e9]
  clear e9 S9
  refine g_at (pc2 := 7) rfl rfl (st2 := [vI (bz (decide (1 ≤ t ∧ t ≤ 100)))]) rfl (S2 := S) rfl ?_
  refine g_bif_ne (pc := 7) (tgt := 13) hX dX6_tick_7 (by decide) (fun c_7 => ?_) (fun c_7 => ?_)
  · skip
    have hidx := of_decide_eq_true c_7
    refine g_aload_n (pc := 13) hX 0 rfl dX6_tick_13 ?_
    refine g_get (pc := 14) hX (ci := 6) (fun _ h => List.mem_cons_of_mem _ (List.mem_append_left _ (List.mem_append_left _ (List.mem_append_left _ (List.mem_append_left _ (List.mem_append_left _ (List.mem_append_right _ h))))))) rfl 0 (by omega) d0 0 (by decide) (List.mem_of_getElem? (i := 2) rfl) rfl (v := .ref (gw_ad w 7)) rfl dX6_tick_14 ?_
    refine g_get (pc := 17) hX (ci := 4) (fun _ h => List.mem_cons_of_mem _ (List.mem_append_left _ (List.mem_append_left _ (List.mem_append_left _ (List.mem_append_left _ (List.mem_append_right _ h)))))) rfl 7 (by omega) e0 0 (by decide) (List.mem_of_getElem? (i := 3) rfl) rfl (v := .ref (gw_ad w 8)) rfl dX6_tick_17 ?_
    refine g_get (pc := 20) hX (ci := 3) (fun _ h => List.mem_cons_of_mem _ (List.mem_append_left _ (List.mem_append_left _ (List.mem_append_left _ (List.mem_append_right _ h))))) rfl 8 (by omega) e1 2 (by decide) (List.mem_of_getElem? (i := 4) rfl) rfl (v := vI (g 1)) rfl dX6_tick_20 ?_
    refine g_ldc (pc := 23) hX (z := 100000) (List.mem_of_getElem? (i := 5) rfl) (by decide +kernel) dX6_tick_23 ?_
    refine g_iload_n (pc := 25) hX 1 rfl dX6_tick_25 ?_
    refine g_isub (pc := 26) hX dX6_tick_26 ?_
    refine g_icmp_le (pc := 27) (tgt := 33) hX (by first | assumption | exact inI_mk (by omega) (by omega)) (by first | assumption | exact inI_mk (by omega) (by omega)) dX6_tick_27 (by decide) (fun c_27 => ?_) (fun c_27 => ?_)
    · skip
      have hidy := c_27
      refine g_aload_n (pc := 33) hX 0 rfl dX6_tick_33 ?_
      refine g_callV0 (pc := 34) (ci := 6) (As := []) (st2 := []) hX 0 (by omega) d0 rfl (c_X6_remember hN hd hh hD.c) gX6_tick_X6_remember (n := 0) (hw := rfl) (hrc := rfl) (hrs := rfl) (hd := by decide +kernel) (hR := ⟨Nat.le_of_ble_eq_true rfl, Nat.le_of_ble_eq_true rfl⟩) (hn := rfl) (hst := rfl) (hsum := Nat.le_of_ble_eq_true rfl) (hdg := dX6_tick_34) ?_
      rintro S34 ⟨hf34, g34, hp34⟩
      refine g_at (pc2 := 37) rfl rfl (st2 := []) rfl (S2 := S34) rfl ?_
      refine g_iconst (pc := 37) hX dX6_tick_37 ?_
      refine g_istore_n (pc := 38) hX (lv2 := [(2, vI (0)), (0, .ref (gw_ad w 0)), (1, vI (t))]) rfl (by decide) rfl dX6_tick_38 ?_
      have lt : ∀ (n0 : Nat) (c : Int), 0 ≤ c → c ≤ t → t - c < n0 → G w { frames := 5, cells := 0, slots := 0, locals := 111 } X 3 39 [(2, vI (c)), (0, .ref (gw_ad w 0)), (1, vI (t))] [] (va_up S34 8 (.inr (3, [.ref (gw_ad w 9), vI ((tkN F g (c : Int).toNat) 0), vI ((tkN F g (c : Int).toNat) 1), vI ((tkN F g (c : Int).toNat) 2), vI ((tkN F g (c : Int).toNat) 3), vI ((tkN F g (c : Int).toNat) 4), vI ((tkN F g (c : Int).toNat) 5), vI ((tkN F g (c : Int).toNat) 6), vI ((tkN F g (c : Int).toNat) 7), vI ((tkN F g (c : Int).toNat) 8), vI ((tkN F g (c : Int).toNat) 9)]))) := by
        intro n0
        induction n0 with
        | zero => intro c  h1c h2c h3c; exact absurd h3c (by omega)
        | succ n0 ihlt =>
          intro c  h1c h2c h3c 
          have hc : inI c := inI_mk (by omega) (by omega)
          have htk := tkN_ok hF hg hg5 (c : Int).toNat (by omega)
          refine g_iload_n (pc := 39) hX 0 rfl dX6_tick_39 ?_
          refine g_iload_n (pc := 40) hX 2 rfl dX6_tick_40 ?_
          refine g_icmp_ge (pc := 41) (tgt := 60) hX (by first | assumption | exact inI_mk (by omega) (by omega)) (by first | assumption | exact inI_mk (by omega) (by omega)) dX6_tick_41 (by decide) (fun c_41 => ?_) (fun c_41 => ?_)
          · skip
            refine g_aload_n (pc := 60) hX 1 rfl dX6_tick_60 ?_
            refine g_get (pc := 61) hX (ci := 6) (fun _ h => List.mem_cons_of_mem _ (List.mem_append_left _ (List.mem_append_left _ (List.mem_append_left _ (List.mem_append_left _ (List.mem_append_left _ (List.mem_append_right _ h))))))) rfl 0 (by omega) (up_ne (by decide) g34) 0 (by decide) (List.mem_of_getElem? (i := 2) rfl) rfl (v := .ref (gw_ad w 7)) rfl dX6_tick_61 ?_
            refine g_get (pc := 64) hX (ci := 4) (fun _ h => List.mem_cons_of_mem _ (List.mem_append_left _ (List.mem_append_left _ (List.mem_append_left _ (List.mem_append_left _ (List.mem_append_right _ h)))))) rfl 7 (by omega) (up_ne (by decide) ((hf34 7 (by decide) (Or.inl (by decide))).trans e0)) 0 (by decide) (List.mem_of_getElem? (i := 3) rfl) rfl (v := .ref (gw_ad w 8)) rfl dX6_tick_64 ?_
            refine g_callV1 (pc := 67) (ci := 3) (As := []) (st2 := []) hX 8 (by omega) (up_eq _ _ _) rfl (c_X3_rawReading (by omega) (by omega) (up_eq _ _ _) (up_ne (by decide) ((hf34 9 (by decide) (Or.inl (by decide))).trans e2)) hF htk.1) gX6_tick_X3_rawReading (n := 0) (hw := rfl) (hrc := rfl) (hrs := rfl) (hd := by decide +kernel) (hR := ⟨Nat.le_of_ble_eq_true rfl, Nat.le_of_ble_eq_true rfl⟩) (hn := rfl) (hst := rfl) (hsum := Nat.le_of_ble_eq_true rfl) (hdg := dX6_tick_67) ?_
            rintro _ S9 ⟨rfl, e9⟩
            rw [e9]
            clear e9 S9
            refine g_at (pc2 := 70) rfl rfl (st2 := [vI (scRaw F (tkN F g (c : Int).toNat))]) rfl (S2 := (va_up S34 8 (.inr (3, [.ref (gw_ad w 9), vI ((tkN F g (c : Int).toNat) 0), vI ((tkN F g (c : Int).toNat) 1), vI ((tkN F g (c : Int).toNat) 2), vI ((tkN F g (c : Int).toNat) 3), vI ((tkN F g (c : Int).toNat) 4), vI ((tkN F g (c : Int).toNat) 5), vI ((tkN F g (c : Int).toNat) 6), vI ((tkN F g (c : Int).toNat) 7), vI ((tkN F g (c : Int).toNat) 8), vI ((tkN F g (c : Int).toNat) 9)])))) rfl ?_
            refine g_iret (pc := 70) hX hR dX6_tick_70 ?_
            try simp only [decide_eq_true_eq, decide_eq_false_iff_not] at c_41
            have hct : c = t := by omega
            subst hct
            exact (if_pos (by omega)).mpr ((if_pos (show g 1 ≤ 100000 - c by omega)).mpr (⟨rfl, ⟨⟨⟨(up_ne (by decide) g34), (up_ne (by decide) ((hf34 1 (by decide) (Or.inl (by decide))).trans d1)), (up_ne (by decide) ((hf34 2 (by decide) (Or.inl (by decide))).trans d2)), (up_ne (by decide) ((hf34 3 (by decide) (Or.inl (by decide))).trans d3)), (up_ne (by decide) ((hf34 4 (by decide) (Or.inl (by decide))).trans d4)), (up_ne (by decide) ((hf34 5 (by decide) (Or.inl (by decide))).trans d5)), (up_ne (by decide) ((hf34 6 (by decide) (Or.inl (by decide))).trans d6))⟩, ⟨⟨⟨(up_ne (by decide) ((hf34 7 (by decide) (Or.inl (by decide))).trans e0)), (up_eq _ _ _), (up_ne (by decide) ((hf34 9 (by decide) (Or.inl (by decide))).trans e2))⟩, ⟨(up_ne (by decide) ((hf34 10 (by decide) (Or.inl (by decide))).trans e3)), (up_ne (by decide) ((hf34 11 (by decide) (Or.inl (by decide))).trans e4)), (up_ne (by decide) ((hf34 12 (by decide) (Or.inl (by decide))).trans e5)), (up_ne (by decide) ((hf34 13 (by decide) (Or.inl (by decide))).trans e6)), (up_ne (by decide) ((hf34 14 (by decide) (Or.inl (by decide))).trans e7))⟩, ⟨(up_ne (by decide) ((hf34 15 (by decide) (Or.inl (by decide))).trans e8)), (up_ne (by decide) ((hf34 16 (by decide) (Or.inl (by decide))).trans e9)), (up_ne (by decide) ((hf34 17 (by decide) (Or.inl (by decide))).trans e10))⟩⟩, ⟨⟨(up_ne (by decide) ((hf34 18 (by decide) (Or.inl (by decide))).trans e11)), (up_ne (by decide) ((hf34 19 (by decide) (Or.inl (by decide))).trans e12))⟩, ⟨(up_ne (by decide) ((hf34 20 (by decide) (Or.inl (by decide))).trans e13)), (up_ne (by decide) ((hf34 21 (by decide) (Or.inl (by decide))).trans e14))⟩, ⟨(up_ne (by decide) ((hf34 22 (by decide) (Or.inl (by decide))).trans e15)), (up_ne (by decide) ((hf34 23 (by decide) (Or.inl (by decide))).trans e16))⟩⟩⟩, pastAt_frame (fun q hq => (up_ne (by omega) rfl)) hp34⟩, fun q hq => (up_ne (by omega) ((hf34 q (by omega) (by omega)).trans rfl))⟩⟩))
          · skip
            refine g_aload_n (pc := 44) hX 1 rfl dX6_tick_44 ?_
            refine g_get (pc := 45) hX (ci := 6) (fun _ h => List.mem_cons_of_mem _ (List.mem_append_left _ (List.mem_append_left _ (List.mem_append_left _ (List.mem_append_left _ (List.mem_append_left _ (List.mem_append_right _ h))))))) rfl 0 (by omega) (up_ne (by decide) g34) 0 (by decide) (List.mem_of_getElem? (i := 2) rfl) rfl (v := .ref (gw_ad w 7)) rfl dX6_tick_45 ?_
            refine g_get (pc := 48) hX (ci := 4) (fun _ h => List.mem_cons_of_mem _ (List.mem_append_left _ (List.mem_append_left _ (List.mem_append_left _ (List.mem_append_left _ (List.mem_append_right _ h)))))) rfl 7 (by omega) (up_ne (by decide) ((hf34 7 (by decide) (Or.inl (by decide))).trans e0)) 0 (by decide) (List.mem_of_getElem? (i := 3) rfl) rfl (v := .ref (gw_ad w 8)) rfl dX6_tick_48 ?_
            refine g_callV0 (pc := 51) (ci := 3) (As := []) (st2 := []) hX 8 (by omega) (up_eq _ _ _) rfl (c_X3_passTick (g := (tkN F g (c : Int).toNat)) (by omega) (by omega) (up_eq _ _ _) (up_ne (by decide) ((hf34 9 (by decide) (Or.inl (by decide))).trans e2)) hF htk.1 (by decide) (by omega)) gX6_tick_X3_passTick (n := 0) (hw := rfl) (hrc := rfl) (hrs := rfl) (hd := by decide +kernel) (hR := ⟨Nat.le_of_ble_eq_true rfl, Nat.le_of_ble_eq_true rfl⟩) (hn := rfl) (hst := rfl) (hsum := Nat.le_of_ble_eq_true rfl) (hdg := dX6_tick_51) ?_
            rintro _ rfl
            refine g_at (pc2 := 54) rfl rfl (st2 := []) rfl (S2 := (va_up (va_up S34 8 (.inr (3, [.ref (gw_ad w 9), vI ((tkN F g (c : Int).toNat) 0), vI ((tkN F g (c : Int).toNat) 1), vI ((tkN F g (c : Int).toNat) 2), vI ((tkN F g (c : Int).toNat) 3), vI ((tkN F g (c : Int).toNat) 4), vI ((tkN F g (c : Int).toNat) 5), vI ((tkN F g (c : Int).toNat) 6), vI ((tkN F g (c : Int).toNat) 7), vI ((tkN F g (c : Int).toNat) 8), vI ((tkN F g (c : Int).toNat) 9)]))) 8 (.inr (3, [.ref (gw_ad w 9), vI ((scPass F (tkN F g (c : Int).toNat)) 0), vI ((scPass F (tkN F g (c : Int).toNat)) 1), vI ((scPass F (tkN F g (c : Int).toNat)) 2), vI ((scPass F (tkN F g (c : Int).toNat)) 3), vI ((scPass F (tkN F g (c : Int).toNat)) 4), vI ((scPass F (tkN F g (c : Int).toNat)) 5), vI ((scPass F (tkN F g (c : Int).toNat)) 6), vI ((scPass F (tkN F g (c : Int).toNat)) 7), vI ((scPass F (tkN F g (c : Int).toNat)) 8), vI ((scPass F (tkN F g (c : Int).toNat)) 9)])))) rfl ?_
            refine g_iinc (pc := 54) hX (lv2 := [(2, vI (c + 1)), (0, .ref (gw_ad w 0)), (1, vI (t))]) 0 rfl (by decide) rfl dX6_tick_54 ?_
            refine g_goto (pc := 57) (tgt := 39) hX dX6_tick_57 (by decide) ?_
            refine g_sub (lv2 := [(2, vI (c + 1)), (0, .ref (gw_ad w 0)), (1, vI (t))]) [0, 1, 2] rfl ?_
            refine g_at rfl (lv2 := [(2, vI (c + 1)), (0, .ref (gw_ad w 0)), (1, vI (t))]) (rfl) rfl (S2 := (va_up S34 8 (.inr (3, [.ref (gw_ad w 9), vI ((tkN F g (c + 1 : Int).toNat) 0), vI ((tkN F g (c + 1 : Int).toNat) 1), vI ((tkN F g (c + 1 : Int).toNat) 2), vI ((tkN F g (c + 1 : Int).toNat) 3), vI ((tkN F g (c + 1 : Int).toNat) 4), vI ((tkN F g (c + 1 : Int).toNat) 5), vI ((tkN F g (c + 1 : Int).toNat) 6), vI ((tkN F g (c + 1 : Int).toNat) 7), vI ((tkN F g (c + 1 : Int).toNat) 8), vI ((tkN F g (c + 1 : Int).toNat) 9)])))) (by rw [up_up, tkN_s F g h1c]) ?_
            exact ihlt (c + 1)  (by omega) (by omega) (by omega) 
      refine g_sub (lv2 := [(2, vI (0)), (0, .ref (gw_ad w 0)), (1, vI (t))]) [0, 1, 2] rfl ?_
      refine g_at rfl (lv2 := [(2, vI (0)), (0, .ref (gw_ad w 0)), (1, vI (t))]) (rfl) rfl (S2 := (va_up S34 8 (.inr (3, [.ref (gw_ad w 9), vI ((tkN F g (0 : Int).toNat) 0), vI ((tkN F g (0 : Int).toNat) 1), vI ((tkN F g (0 : Int).toNat) 2), vI ((tkN F g (0 : Int).toNat) 3), vI ((tkN F g (0 : Int).toNat) 4), vI ((tkN F g (0 : Int).toNat) 5), vI ((tkN F g (0 : Int).toNat) 6), vI ((tkN F g (0 : Int).toNat) 7), vI ((tkN F g (0 : Int).toNat) 8), vI ((tkN F g (0 : Int).toNat) 9)])))) (by rw [show tkN F g (0 : Int).toNat = g from rfl, up_self (f := S34) ((hf34 8 (by decide) (Or.inl (by decide))).trans e1)]) ?_
      exact lt ((t : Int) - 0 + 1).toNat 0  (by omega) (by omega) (by omega) 
    · skip
      refine g_ldc (pc := 30) hX (z := -1000002) (List.mem_of_getElem? (i := 6) rfl) (by decide +kernel) dX6_tick_30 ?_
      refine g_iret (pc := 32) hX hR dX6_tick_32 ?_
      try simp only [decide_eq_true_eq, decide_eq_false_iff_not] at c_7 c_27
      exact (if_pos (by omega)).mpr ((if_neg (show ¬ g 1 ≤ 100000 - t by omega)).mpr (⟨rfl, rfl⟩))
  · skip
    refine g_ldc (pc := 10) hX (z := -1000001) (List.mem_of_getElem? (i := 1) rfl) (by decide +kernel) dX6_tick_10 ?_
    refine g_iret (pc := 12) hX hR dX6_tick_12 ?_
    try simp only [decide_eq_true_eq, decide_eq_false_iff_not] at c_7
    exact (if_neg (by omega)).mpr (⟨rfl, rfl⟩)

set_option maxHeartbeats 4000000 in
set_option maxRecDepth 100000 in
theorem c_X6_band {w : gW} {l : Launch} {S : Nat → va_E} {pc j : Nat} {ty : Int} {B ρ T : Int → Int} {Tr : Int → Int → Int} {D : SD} {Z : Nat → SD} (hN : gw_N w = 92) (hd : deskAt w pc j ty B ρ T Tr D Z S) (hO : deskOK ty B ρ Tr D) (hh : pc ≤ 4 ∧ j < 4 ∧ ∀ i : Nat, i < 4 → cOK (Z i)) {z lm p : Int} (hz : inI z) (hl : inI lm) (hp : inI p) :
    GM1 w l yX6_band wsX6_band { frames := 5, cells := 0, slots := 0, locals := 111 } [.ref (gw_ad w 0), vI (z), vI (lm), vI (p)] S
      (fun v S' => if (0 ≤ z ∧ z ≤ 3) ∧ (1 ≤ lm ∧ lm ≤ 100000) ∧ 0 ≤ p ∧ p ≤ 100000 then (if (bidx (sC D) (sL D) z lm < sC D z ∧ sL D z (bidx (sC D) (sL D) z lm) = lm) ∨ sC D z < 6 then v = vI (bidx (sC D) (sL D) z lm) ∧ POST w S (pcN pc) (jN j) ty B ρ T Tr (bandD D z lm p) (pastN j Z D) S' else v = vI (-1000003) ∧ S' = S) else v = vI (-1000001) ∧ S' = S) := by
  refine GM.start (own := RX6) (n := "band") (d := "(III)I") (by decide) rfl (Nat.le_of_ble_eq_true rfl) ?_
  intro X hX hR hXl
  subst hXl
  refine g_at rfl (lv2 := [(0, .ref (gw_ad w 0)), (1, vI (z)), (2, vI (lm)), (3, vI (p))]) rfl rfl rfl ?_
  obtain ⟨⟨d0, d1, d2, d3, d4, d5, d6⟩, ⟨hS0, hB0⟩, hpa⟩ := id hd
  obtain ⟨F, g, C, E, L, Q, nR, R, nP, P0, nN, N, nK, K⟩ := D
  obtain ⟨⟨e0, e1, e2⟩, ⟨e3, e4, e5, e6, e7⟩, ⟨e8, e9, e10⟩⟩ := (id hS0)
  obtain ⟨⟨e11, e12⟩, ⟨e13, e14⟩, ⟨e15, e16⟩⟩ := (id hB0)
  change S 7 = .inr (4, [.ref (gw_ad w 8), .ref (gw_ad w 10), .ref (gw_ad w 15), .ref (gw_ad w 18), .ref (gw_ad w 20), .ref (gw_ad w 22)]) at e0
  change S 8 = .inr (3, [.ref (gw_ad w 9), vI (g 0), vI (g 1), vI (g 2), vI (g 3), vI (g 4), vI (g 5), vI (g 6), vI (g 7), vI (g 8), vI (g 9)]) at e1
  change S 9 = AI w 8 (F) at e2
  change S 10 = .inr (0, [.ref (gw_ad w 11), .ref (gw_ad w 12), .ref (gw_ad w 13), .ref (gw_ad w 14)]) at e3
  change S 11 = AI w 4 (C) at e4
  change S 12 = AI w 24 ((fl 6 L)) at e5
  change S 13 = AI w 24 ((fl 6 Q)) at e6
  change S 14 = AI w 4 (E) at e7
  change S 15 = .inr (2, [.ref (gw_ad w 16)]) at e8
  change S 16 = .inr (5, [vI (8), vI (63), .ref (gw_ad w 17), vI (nR)]) at e9
  change S 17 = AI w 504 (fl 63 R) at e10
  change S 18 = .inr (5, [vI (30), vI (22), .ref (gw_ad w 19), vI (nP)]) at e11
  change S 19 = AI w 660 (fl 22 P0) at e12
  change S 20 = .inr (5, [vI (20), vI (6), .ref (gw_ad w 21), vI (nN)]) at e13
  change S 21 = AI w 120 (fl 6 N) at e14
  change S 22 = .inr (5, [vI (20), vI (22), .ref (gw_ad w 23), vI (nK)]) at e15
  change S 23 = AI w 440 (fl 22 K) at e16
  obtain ⟨hD, hty, hBr, hBi, hrd, hTi⟩ := id hO
  obtain ⟨⟨⟨hF, hg⟩, hB, hU, hRR⟩, ⟨hnP, hPi, hPr⟩, ⟨hnN, hNi, hNr⟩, ⟨hnK, hKi, hKr⟩, hg3⟩ := id hD
  change scF F at hF
  change scG g at hg
  change bdOK C E L Q at hB
  change ruOK nR R at hU
  change ∀ i j, inI (R i j) at hRR
  change 0 ≤ nP ∧ nP ≤ 30 at hnP
  change ∀ i j, inI (P0 i j) at hPi
  change ∀ p, 0 ≤ p → p < nP → rowOK P0 p at hPr
  change 0 ≤ nN ∧ nN ≤ 20 at hnN
  change ∀ i j, inI (N i j) at hNi
  change nK = nN at hnK
  change ∀ i j, inI (K i j) at hKi
  change ∀ n, 0 ≤ n → n < nN → rowOK K n at hKr
  have hnRb : 0 ≤ nR ∧ nR ≤ 8 := hU.1
  refine g_iload_n (pc := 0) hX 1 rfl dX6_band_0 ?_
  refine g_callT1 (pc := 1) (As := [vI (z)]) (st2 := []) hX (c_X6_isZone (z := z) (by first | assumption | exact inI_mk (by omega) (by omega))) gX6_band_X6_isZone (n := 1) (hw := rfl) (hrc := rfl) (hrs := rfl) (hd := by decide +kernel) (hR := ⟨Nat.le_of_ble_eq_true rfl, Nat.le_of_ble_eq_true rfl⟩) (hn := rfl) (hst := rfl) (hsum := Nat.le_of_ble_eq_true rfl) (hdg := dX6_band_1) ?_
  rintro _ S9 ⟨rfl, e9⟩
  rw [e9]
  clear e9 S9
  refine g_at (pc2 := 4) rfl rfl (st2 := [vI (bz (decide (0 ≤ z ∧ z ≤ 3)))]) rfl (S2 := S) rfl ?_
  refine g_bif_eq (pc := 4) (tgt := 27) hX dX6_band_4 (by decide) (fun c_4 => ?_) (fun c_4 => ?_)
  · skip
    refine g_ldc (pc := 27) hX (z := -1000001) (List.mem_of_getElem? (i := 2) rfl) (by decide +kernel) dX6_band_27 ?_
    refine g_iret (pc := 29) hX hR dX6_band_29 ?_
    try simp only [decide_eq_true_eq, decide_eq_false_iff_not] at c_4
    exact (if_neg (by omega)).mpr (⟨rfl, rfl⟩)
  · skip
    have hq1 := of_decide_eq_true c_4
    have hBz := hB.1 z (by omega) (by omega)
    refine g_iload_n (pc := 7) hX 2 rfl dX6_band_7 ?_
    refine g_iconst (pc := 8) hX dX6_band_8 ?_
    refine g_ldc (pc := 9) hX (z := 100000) (List.mem_of_getElem? (i := 1) rfl) (by decide +kernel) dX6_band_9 ?_
    refine g_callT1 (pc := 11) (As := [vI (lm), vI (1), vI (100000)]) (st2 := []) hX (c_X6_isWithin (x := lm) (lo := 1) (hi := 100000) (by first | assumption | exact inI_mk (by omega) (by omega)) (by first | assumption | exact inI_mk (by omega) (by omega)) (by first | assumption | exact inI_mk (by omega) (by omega))) gX6_band_X6_isWithin (n := 3) (hw := rfl) (hrc := rfl) (hrs := rfl) (hd := by decide +kernel) (hR := ⟨Nat.le_of_ble_eq_true rfl, Nat.le_of_ble_eq_true rfl⟩) (hn := rfl) (hst := rfl) (hsum := Nat.le_of_ble_eq_true rfl) (hdg := dX6_band_11) ?_
    rintro _ S9 ⟨rfl, e9⟩
    rw [e9]
    clear e9 S9
    refine g_at (pc2 := 14) rfl rfl (st2 := [vI (bz (decide (1 ≤ lm ∧ lm ≤ 100000)))]) rfl (S2 := S) rfl ?_
    refine g_bif_eq (pc := 14) (tgt := 27) hX dX6_band_14 (by decide) (fun c_14 => ?_) (fun c_14 => ?_)
    · skip
      refine g_ldc (pc := 27) hX (z := -1000001) (List.mem_of_getElem? (i := 2) rfl) (by decide +kernel) dX6_band_27 ?_
      refine g_iret (pc := 29) hX hR dX6_band_29 ?_
      try simp only [decide_eq_true_eq, decide_eq_false_iff_not] at c_4 c_14
      exact (if_neg (by omega)).mpr (⟨rfl, rfl⟩)
    · skip
      have hq2 := of_decide_eq_true c_14
      refine g_iload_n (pc := 17) hX 3 rfl dX6_band_17 ?_
      refine g_iconst (pc := 18) hX dX6_band_18 ?_
      refine g_ldc (pc := 19) hX (z := 100000) (List.mem_of_getElem? (i := 1) rfl) (by decide +kernel) dX6_band_19 ?_
      refine g_callT1 (pc := 21) (As := [vI (p), vI (0), vI (100000)]) (st2 := []) hX (c_X6_isWithin (x := p) (lo := 0) (hi := 100000) (by first | assumption | exact inI_mk (by omega) (by omega)) (by first | assumption | exact inI_mk (by omega) (by omega)) (by first | assumption | exact inI_mk (by omega) (by omega))) gX6_band_X6_isWithin (n := 3) (hw := rfl) (hrc := rfl) (hrs := rfl) (hd := by decide +kernel) (hR := ⟨Nat.le_of_ble_eq_true rfl, Nat.le_of_ble_eq_true rfl⟩) (hn := rfl) (hst := rfl) (hsum := Nat.le_of_ble_eq_true rfl) (hdg := dX6_band_21) ?_
      rintro _ S9 ⟨rfl, e9⟩
      rw [e9]
      clear e9 S9
      refine g_at (pc2 := 24) rfl rfl (st2 := [vI (bz (decide (0 ≤ p ∧ p ≤ 100000)))]) rfl (S2 := S) rfl ?_
      refine g_bif_ne (pc := 24) (tgt := 30) hX dX6_band_24 (by decide) (fun c_24 => ?_) (fun c_24 => ?_)
      · skip
        have hq3 := of_decide_eq_true c_24
        refine g_aload_n (pc := 30) hX 0 rfl dX6_band_30 ?_
        refine g_get (pc := 31) hX (ci := 6) (fun _ h => List.mem_cons_of_mem _ (List.mem_append_left _ (List.mem_append_left _ (List.mem_append_left _ (List.mem_append_left _ (List.mem_append_left _ (List.mem_append_right _ h))))))) rfl 0 (by omega) d0 0 (by decide) (List.mem_of_getElem? (i := 3) rfl) rfl (v := .ref (gw_ad w 7)) rfl dX6_band_31 ?_
        refine g_get (pc := 34) hX (ci := 4) (fun _ h => List.mem_cons_of_mem _ (List.mem_append_left _ (List.mem_append_left _ (List.mem_append_left _ (List.mem_append_left _ (List.mem_append_right _ h)))))) rfl 7 (by omega) e0 1 (by decide) (List.mem_of_getElem? (i := 4) rfl) rfl (v := .ref (gw_ad w 10)) rfl dX6_band_34 ?_
        refine g_astore (pc := 37) hX (lv2 := [(4, .ref (gw_ad w 10)), (0, .ref (gw_ad w 0)), (1, vI (z)), (2, vI (lm)), (3, vI (p))]) (by decide) rfl dX6_band_37 ?_
        refine g_aload (pc := 39) hX 0 rfl dX6_band_39 ?_
        refine g_iload_n (pc := 41) hX 2 rfl dX6_band_41 ?_
        refine g_iload_n (pc := 42) hX 3 rfl dX6_band_42 ?_
        refine g_callV1 (pc := 43) (ci := 0) (As := [vI (z), vI (lm)]) (st2 := []) hX 10 (by omega) e3 rfl (c_X0_bandFor (z := z) (x := lm) (by omega) (by omega) (by omega) (by omega) (by omega) e3 e4 e5 e6 e7 hB.1 (by omega) (by omega) (by first | assumption | exact inI_mk (by omega) (by omega)) hB.2.1) gX6_band_X0_bandFor (n := 2) (hw := rfl) (hrc := rfl) (hrs := rfl) (hd := by decide +kernel) (hR := ⟨Nat.le_of_ble_eq_true rfl, Nat.le_of_ble_eq_true rfl⟩) (hn := rfl) (hst := rfl) (hsum := Nat.le_of_ble_eq_true rfl) (hdg := dX6_band_43) ?_
        rintro _ S9 ⟨rfl, e9⟩
        rw [e9]
        clear e9 S9
        rw [show bfor (bl C L z) lm (C z).toNat 0 = bidx C L z lm from rfl]
        refine g_at (pc2 := 46) rfl rfl (st2 := [vI (bidx C L z lm)]) rfl (S2 := S) rfl ?_
        obtain ⟨k, ek⟩ : ∃ z_ : Int, z_ = bidx C L z lm := ⟨_, rfl⟩
        refine g_at rfl rfl (st2 := [vI (k)]) (by rw [ek]) rfl ?_
        have hkb := bidx_b (L := L) (z := z) (x := lm) hBz.1
        rw [← ek] at hkb
        refine g_istore (pc := 46) hX (lv2 := [(5, vI (k)), (4, .ref (gw_ad w 10)), (0, .ref (gw_ad w 0)), (1, vI (z)), (2, vI (lm)), (3, vI (p))]) (by decide) rfl dX6_band_46 ?_
        refine g_aload (pc := 48) hX 1 rfl dX6_band_48 ?_
        refine g_iload_n (pc := 50) hX 3 rfl dX6_band_50 ?_
        refine g_iload (pc := 51) hX 0 rfl dX6_band_51 ?_
        refine g_callV1 (pc := 53) (ci := 0) (As := [vI (z), vI (k)]) (st2 := []) hX 10 (by omega) e3 rfl (c_X0_hasBand (by omega) (by omega) (by omega) (by omega) (by omega) e3 e4 e5 e6 e7 (z := z) (i := k) hB.1 (by first | assumption | exact inI_mk (by omega) (by omega)) (by first | assumption | exact inI_mk (by omega) (by omega))) gX6_band_X0_hasBand (n := 2) (hw := rfl) (hrc := rfl) (hrs := rfl) (hd := by decide +kernel) (hR := ⟨Nat.le_of_ble_eq_true rfl, Nat.le_of_ble_eq_true rfl⟩) (hn := rfl) (hst := rfl) (hsum := Nat.le_of_ble_eq_true rfl) (hdg := dX6_band_53) ?_
        rintro _ S9 ⟨rfl, e9⟩
        rw [e9]
        clear e9 S9
        refine g_at (pc2 := 56) rfl rfl (st2 := [vI (bz (decide (0 ≤ z ∧ z < 4 ∧ 0 ≤ k ∧ k < C z)))]) rfl (S2 := S) rfl ?_
        refine g_bif_eq (pc := 56) (tgt := 71) hX dX6_band_56 (by decide) (fun c_56 => ?_) (fun c_56 => ?_)
        · skip
          refine g_iconst (pc := 71) hX dX6_band_71 ?_
          refine g_goto (pc := 72) (tgt := 76) hX dX6_band_72 (by decide) ?_
          refine g_istore (pc := 76) hX (lv2 := [(6, vI (1)), (5, vI (k)), (4, .ref (gw_ad w 10)), (0, .ref (gw_ad w 0)), (1, vI (z)), (2, vI (lm)), (3, vI (p))]) (by decide) rfl dX6_band_76 ?_
          have hq := of_decide_eq_false c_56
          have hno : ¬ (k < C z ∧ L z k = lm) := by omega
          refine g_iload (pc := 78) hX 0 rfl dX6_band_78 ?_
          refine g_if_eq (pc := 80) (tgt := 97) hX (by first | assumption | exact inI_mk (by omega) (by omega)) dX6_band_80 (by decide) (fun c_80 => ?_) (fun c_80 => ?_)
          · skip
            exact absurd c_80 (by omega)
          · skip
            refine g_aload (pc := 83) hX 2 rfl dX6_band_83 ?_
            refine g_iload_n (pc := 85) hX 4 rfl dX6_band_85 ?_
            refine g_callV1 (pc := 86) (ci := 0) (As := [vI (z)]) (st2 := []) hX 10 (by omega) e3 rfl (c_X0_bandsOf (by omega) (by omega) (by omega) (by omega) (by omega) e3 e4 e5 e6 e7 (z := z) (by omega) (by omega)) gX6_band_X0_bandsOf (n := 1) (hw := rfl) (hrc := rfl) (hrs := rfl) (hd := by decide +kernel) (hR := ⟨Nat.le_of_ble_eq_true rfl, Nat.le_of_ble_eq_true rfl⟩) (hn := rfl) (hst := rfl) (hsum := Nat.le_of_ble_eq_true rfl) (hdg := dX6_band_86) ?_
            rintro _ S9 ⟨rfl, e9⟩
            rw [e9]
            clear e9 S9
            refine g_at (pc2 := 89) rfl rfl (st2 := [vI (C z)]) rfl (S2 := S) rfl ?_
            refine g_bipush (pc := 89) hX (by decide) dX6_band_89 ?_
            refine g_icmp_lt (pc := 91) (tgt := 97) hX (by first | assumption | exact inI_mk (by omega) (by omega)) (by first | assumption | exact inI_mk (by omega) (by omega)) dX6_band_91 (by decide) (fun c_91 => ?_) (fun c_91 => ?_)
            · skip
              refine g_aload_n (pc := 97) hX 3 rfl dX6_band_97 ?_
              refine g_callV0 (pc := 98) (ci := 6) (As := []) (st2 := []) hX 0 (by omega) d0 rfl (c_X6_remember hN hd hh hD.c) gX6_band_X6_remember (n := 0) (hw := rfl) (hrc := rfl) (hrs := rfl) (hd := by decide +kernel) (hR := ⟨Nat.le_of_ble_eq_true rfl, Nat.le_of_ble_eq_true rfl⟩) (hn := rfl) (hst := rfl) (hsum := Nat.le_of_ble_eq_true rfl) (hdg := dX6_band_98) ?_
              rintro S98 ⟨hf98, g98, hp98⟩
              refine g_at (pc2 := 101) rfl rfl (st2 := []) rfl (S2 := S98) rfl ?_
              refine g_iload (pc := 101) hX 0 rfl dX6_band_101 ?_
              refine g_if_eq (pc := 103) (tgt := 114) hX (by first | assumption | exact inI_mk (by omega) (by omega)) dX6_band_103 (by decide) (fun c_103 => ?_) (fun c_103 => ?_)
              · skip
                exact absurd c_103 (by omega)
              · skip
                refine g_aload (pc := 106) hX 2 rfl dX6_band_106 ?_
                refine g_iload_n (pc := 108) hX 4 rfl dX6_band_108 ?_
                refine g_iload (pc := 109) hX 1 rfl dX6_band_109 ?_
                refine g_callV0 (pc := 111) (ci := 0) (As := [vI (z), vI (k)]) (st2 := []) hX 10 (by omega) ((hf98 10 (by decide) (Or.inl (by decide))).trans e3) rfl (c_X0_openBand (z := z) (i := k) (by omega) (by omega) (by omega) (by omega) (by omega) ((hf98 10 (by decide) (Or.inl (by decide))).trans e3) ((hf98 11 (by decide) (Or.inl (by decide))).trans e4) ((hf98 12 (by decide) (Or.inl (by decide))).trans e5) ((hf98 13 (by decide) (Or.inl (by decide))).trans e6) ((hf98 14 (by decide) (Or.inl (by decide))).trans e7) hB.1 (by omega) (by omega) (by omega) (by omega) (by omega) (by decide) (by decide) (by decide) (by decide) (by decide) (by decide) (by decide) (by decide) (by decide) (by decide)) gX6_band_X0_openBand (n := 2) (hw := rfl) (hrc := rfl) (hrs := rfl) (hd := by decide +kernel) (hR := ⟨Nat.le_of_ble_eq_true rfl, Nat.le_of_ble_eq_true rfl⟩) (hn := rfl) (hst := rfl) (hsum := Nat.le_of_ble_eq_true rfl) (hdg := dX6_band_111) ?_
                rintro _ rfl
                refine g_at (pc2 := 114) rfl rfl (st2 := []) rfl (S2 := (va_up (va_up (va_up S98 11 (AI w 4 (updZ C z (C z + 1)))) 12 (AI w 24 ((fl 6 (bopen (C z) L z (C z - k)))))) 13 (AI w 24 ((fl 6 (bopen (C z) Q z (C z - k))))))) rfl ?_
                have hC2 : bcOK (updZ C z (C z + 1)) := by
                  intro a h1 h2
                  unfold updZ
                  split
                  · omega
                  · exact hB.1 a h1 h2
                have hkC2 : k < updZ C z (C z + 1) z := by rw [updZ_eq]; omega
                refine g_aload (pc := 114) hX 2 rfl dX6_band_114 ?_
                refine g_iload_n (pc := 116) hX 4 rfl dX6_band_116 ?_
                refine g_iload (pc := 117) hX 1 rfl dX6_band_117 ?_
                refine g_iload_n (pc := 119) hX 5 rfl dX6_band_119 ?_
                refine g_iload_n (pc := 120) hX 6 rfl dX6_band_120 ?_
                refine g_callV0 (pc := 121) (ci := 0) (As := [vI (z), vI (k), vI (lm), vI (p)]) (st2 := []) hX 10 (by omega) (up_ne (by decide) (up_ne (by decide) (up_ne (by decide) ((hf98 10 (by decide) (Or.inl (by decide))).trans e3)))) rfl (c_X0_putBand (z := z) (i := k) (x := lm) (y := p) (by omega) (by omega) (by omega) (by omega) (by omega) (up_ne (by decide) (up_ne (by decide) (up_ne (by decide) ((hf98 10 (by decide) (Or.inl (by decide))).trans e3)))) (up_ne (by decide) (up_ne (by decide) (up_eq _ _ _))) (up_ne (by decide) (up_eq _ _ _)) (up_eq _ _ _) (up_ne (by decide) (up_ne (by decide) (up_ne (by decide) ((hf98 14 (by decide) (Or.inl (by decide))).trans e7)))) hC2 (by omega) (by omega) (by first | assumption | exact inI_mk (by omega) (by omega)) (by decide)) gX6_band_X0_putBand (n := 4) (hw := rfl) (hrc := rfl) (hrs := rfl) (hd := by decide +kernel) (hR := ⟨Nat.le_of_ble_eq_true rfl, Nat.le_of_ble_eq_true rfl⟩) (hn := rfl) (hst := rfl) (hsum := Nat.le_of_ble_eq_true rfl) (hdg := dX6_band_121) ?_
                rintro _ rfl
                rw [bput_in hkb.1 hkC2, bput_in hkb.1 hkC2]
                refine g_at (pc2 := 124) rfl rfl (st2 := []) rfl (S2 := (va_up (va_up (va_up (va_up (va_up S98 11 (AI w 4 (updZ C z (C z + 1)))) 12 (AI w 24 ((fl 6 (bopen (C z) L z (C z - k)))))) 13 (AI w 24 ((fl 6 (bopen (C z) Q z (C z - k)))))) 12 (AI w 24 ((fl 6 (upd2 (bopen (C z) L z (C z - k)) z k lm))))) 13 (AI w 24 ((fl 6 (upd2 (bopen (C z) Q z (C z - k)) z k p)))))) rfl ?_
                refine g_iload (pc := 124) hX 1 rfl dX6_band_124 ?_
                refine g_iret (pc := 126) hX hR dX6_band_126 ?_
                try simp only [decide_eq_true_eq, decide_eq_false_iff_not] at c_4 c_14 c_24 c_80 c_91 c_103
                have hbd : bandD (F, g, C, E, L, Q, nR, R, nP, P0, nN, N, nK, K) z lm p = wC (F, g, C, E, L, Q, nR, R, nP, P0, nN, N, nK, K) (updZ C z (C z + 1)) (upd2 (bopen (C z) L z (C z - k)) z k lm) (upd2 (bopen (C z) Q z (C z - k)) z k p) := by
                  rw [ek]
                  exact if_neg (show ¬ (bidx C L z lm < C z ∧ L z (bidx C L z lm) = lm) by rw [← ek]; exact hno)
                rw [hbd]
                exact (if_pos ((show (0 ≤ z ∧ z ≤ 3) ∧ (1 ≤ lm ∧ lm ≤ 100000) ∧ 0 ≤ p ∧ p ≤ 100000 by omega))).mpr ((if_pos (Or.inr (show C z < 6 by omega))).mpr (⟨vI_c ek, ⟨⟨⟨(up_ne (by decide) (up_ne (by decide) (up_ne (by decide) (up_ne (by decide) (up_ne (by decide) g98))))), (up_ne (by decide) (up_ne (by decide) (up_ne (by decide) (up_ne (by decide) (up_ne (by decide) ((hf98 1 (by decide) (Or.inl (by decide))).trans d1)))))), (up_ne (by decide) (up_ne (by decide) (up_ne (by decide) (up_ne (by decide) (up_ne (by decide) ((hf98 2 (by decide) (Or.inl (by decide))).trans d2)))))), (up_ne (by decide) (up_ne (by decide) (up_ne (by decide) (up_ne (by decide) (up_ne (by decide) ((hf98 3 (by decide) (Or.inl (by decide))).trans d3)))))), (up_ne (by decide) (up_ne (by decide) (up_ne (by decide) (up_ne (by decide) (up_ne (by decide) ((hf98 4 (by decide) (Or.inl (by decide))).trans d4)))))), (up_ne (by decide) (up_ne (by decide) (up_ne (by decide) (up_ne (by decide) (up_ne (by decide) ((hf98 5 (by decide) (Or.inl (by decide))).trans d5)))))), (up_ne (by decide) (up_ne (by decide) (up_ne (by decide) (up_ne (by decide) (up_ne (by decide) ((hf98 6 (by decide) (Or.inl (by decide))).trans d6))))))⟩, ⟨⟨⟨(up_ne (by decide) (up_ne (by decide) (up_ne (by decide) (up_ne (by decide) (up_ne (by decide) ((hf98 7 (by decide) (Or.inl (by decide))).trans e0)))))), (up_ne (by decide) (up_ne (by decide) (up_ne (by decide) (up_ne (by decide) (up_ne (by decide) ((hf98 8 (by decide) (Or.inl (by decide))).trans e1)))))), (up_ne (by decide) (up_ne (by decide) (up_ne (by decide) (up_ne (by decide) (up_ne (by decide) ((hf98 9 (by decide) (Or.inl (by decide))).trans e2))))))⟩, ⟨(up_ne (by decide) (up_ne (by decide) (up_ne (by decide) (up_ne (by decide) (up_ne (by decide) ((hf98 10 (by decide) (Or.inl (by decide))).trans e3)))))), (up_ne (by decide) (up_ne (by decide) (up_ne (by decide) (up_ne (by decide) (up_eq _ _ _))))), (up_ne (by decide) (up_eq _ _ _)), (up_eq _ _ _), (up_ne (by decide) (up_ne (by decide) (up_ne (by decide) (up_ne (by decide) (up_ne (by decide) ((hf98 14 (by decide) (Or.inl (by decide))).trans e7))))))⟩, ⟨(up_ne (by decide) (up_ne (by decide) (up_ne (by decide) (up_ne (by decide) (up_ne (by decide) ((hf98 15 (by decide) (Or.inl (by decide))).trans e8)))))), (up_ne (by decide) (up_ne (by decide) (up_ne (by decide) (up_ne (by decide) (up_ne (by decide) ((hf98 16 (by decide) (Or.inl (by decide))).trans e9)))))), (up_ne (by decide) (up_ne (by decide) (up_ne (by decide) (up_ne (by decide) (up_ne (by decide) ((hf98 17 (by decide) (Or.inl (by decide))).trans e10))))))⟩⟩, ⟨⟨(up_ne (by decide) (up_ne (by decide) (up_ne (by decide) (up_ne (by decide) (up_ne (by decide) ((hf98 18 (by decide) (Or.inl (by decide))).trans e11)))))), (up_ne (by decide) (up_ne (by decide) (up_ne (by decide) (up_ne (by decide) (up_ne (by decide) ((hf98 19 (by decide) (Or.inl (by decide))).trans e12))))))⟩, ⟨(up_ne (by decide) (up_ne (by decide) (up_ne (by decide) (up_ne (by decide) (up_ne (by decide) ((hf98 20 (by decide) (Or.inl (by decide))).trans e13)))))), (up_ne (by decide) (up_ne (by decide) (up_ne (by decide) (up_ne (by decide) (up_ne (by decide) ((hf98 21 (by decide) (Or.inl (by decide))).trans e14))))))⟩, ⟨(up_ne (by decide) (up_ne (by decide) (up_ne (by decide) (up_ne (by decide) (up_ne (by decide) ((hf98 22 (by decide) (Or.inl (by decide))).trans e15)))))), (up_ne (by decide) (up_ne (by decide) (up_ne (by decide) (up_ne (by decide) (up_ne (by decide) ((hf98 23 (by decide) (Or.inl (by decide))).trans e16))))))⟩⟩⟩, pastAt_frame (fun q hq => (up_ne (by omega) (up_ne (by omega) (up_ne (by omega) (up_ne (by omega) (up_ne (by omega) rfl)))))) hp98⟩, fun q hq => (up_ne (by omega) (up_ne (by omega) (up_ne (by omega) (up_ne (by omega) (up_ne (by omega) ((hf98 q (by omega) (by omega)).trans rfl))))))⟩⟩))
            · skip
              refine g_ldc (pc := 94) hX (z := -1000003) (List.mem_of_getElem? (i := 5) rfl) (by decide +kernel) dX6_band_94 ?_
              refine g_iret (pc := 96) hX hR dX6_band_96 ?_
              try simp only [decide_eq_true_eq, decide_eq_false_iff_not] at c_4 c_14 c_24 c_80 c_91
              rw [ek] at hno
              exact (if_pos ((show (0 ≤ z ∧ z ≤ 3) ∧ (1 ≤ lm ∧ lm ≤ 100000) ∧ 0 ≤ p ∧ p ≤ 100000 by omega))).mpr ((if_neg (fun h => h.elim (fun q => hno q) (fun q => absurd (show C z < 6 from q) (by omega)))).mpr (⟨rfl, rfl⟩))
        · skip
          have hq := of_decide_eq_true c_56
          refine g_aload (pc := 59) hX 1 rfl dX6_band_59 ?_
          refine g_iload_n (pc := 61) hX 3 rfl dX6_band_61 ?_
          refine g_iload (pc := 62) hX 0 rfl dX6_band_62 ?_
          refine g_callV1 (pc := 64) (ci := 0) (As := [vI (z), vI (k)]) (st2 := []) hX 10 (by omega) e3 rfl (c_X0_limitOf (by omega) (by omega) (by omega) (by omega) (by omega) e3 e4 e5 e6 e7 (z := z) (i := k) hB.1 (by omega) (by omega) (by first | assumption | exact inI_mk (by omega) (by omega))) gX6_band_X0_limitOf (n := 2) (hw := rfl) (hrc := rfl) (hrs := rfl) (hd := by decide +kernel) (hR := ⟨Nat.le_of_ble_eq_true rfl, Nat.le_of_ble_eq_true rfl⟩) (hn := rfl) (hst := rfl) (hsum := Nat.le_of_ble_eq_true rfl) (hdg := dX6_band_64) ?_
          rintro _ S9 ⟨rfl, e9⟩
          rw [e9]
          clear e9 S9
          refine g_at (pc2 := 67) rfl rfl (st2 := [vI (bl C L z k)]) rfl (S2 := S) rfl ?_
          refine g_at rfl rfl (st2 := [vI (L z k)]) (by rw [show bl C L z k = L z k from bl_in (by omega) (by omega)]) rfl ?_
          refine g_iload_n (pc := 67) hX 4 rfl dX6_band_67 ?_
          refine g_icmp_eq (pc := 68) (tgt := 75) hX (hB.2.1 z k) (by first | assumption | exact inI_mk (by omega) (by omega)) dX6_band_68 (by decide) (fun c_68 => ?_) (fun c_68 => ?_)
          · skip
            refine g_iconst (pc := 75) hX dX6_band_75 ?_
            refine g_istore (pc := 76) hX (lv2 := [(6, vI (0)), (5, vI (k)), (4, .ref (gw_ad w 10)), (0, .ref (gw_ad w 0)), (1, vI (z)), (2, vI (lm)), (3, vI (p))]) (by decide) rfl dX6_band_76 ?_
            have hyes : k < C z ∧ L z k = lm := ⟨hq.2.2.2, c_68⟩
            refine g_iload (pc := 78) hX 0 rfl dX6_band_78 ?_
            refine g_if_eq (pc := 80) (tgt := 97) hX (by first | assumption | exact inI_mk (by omega) (by omega)) dX6_band_80 (by decide) (fun c_80 => ?_) (fun c_80 => ?_)
            · skip
              refine g_aload_n (pc := 97) hX 3 rfl dX6_band_97 ?_
              refine g_callV0 (pc := 98) (ci := 6) (As := []) (st2 := []) hX 0 (by omega) d0 rfl (c_X6_remember hN hd hh hD.c) gX6_band_X6_remember (n := 0) (hw := rfl) (hrc := rfl) (hrs := rfl) (hd := by decide +kernel) (hR := ⟨Nat.le_of_ble_eq_true rfl, Nat.le_of_ble_eq_true rfl⟩) (hn := rfl) (hst := rfl) (hsum := Nat.le_of_ble_eq_true rfl) (hdg := dX6_band_98) ?_
              rintro S98 ⟨hf98, g98, hp98⟩
              refine g_at (pc2 := 101) rfl rfl (st2 := []) rfl (S2 := S98) rfl ?_
              refine g_iload (pc := 101) hX 0 rfl dX6_band_101 ?_
              refine g_if_eq (pc := 103) (tgt := 114) hX (by first | assumption | exact inI_mk (by omega) (by omega)) dX6_band_103 (by decide) (fun c_103 => ?_) (fun c_103 => ?_)
              · skip
                have hkC := hyes.1
                refine g_aload (pc := 114) hX 2 rfl dX6_band_114 ?_
                refine g_iload_n (pc := 116) hX 4 rfl dX6_band_116 ?_
                refine g_iload (pc := 117) hX 1 rfl dX6_band_117 ?_
                refine g_iload_n (pc := 119) hX 5 rfl dX6_band_119 ?_
                refine g_iload_n (pc := 120) hX 6 rfl dX6_band_120 ?_
                refine g_callV0 (pc := 121) (ci := 0) (As := [vI (z), vI (k), vI (lm), vI (p)]) (st2 := []) hX 10 (by omega) ((hf98 10 (by decide) (Or.inl (by decide))).trans e3) rfl (c_X0_putBand (z := z) (i := k) (x := lm) (y := p) (by omega) (by omega) (by omega) (by omega) (by omega) ((hf98 10 (by decide) (Or.inl (by decide))).trans e3) ((hf98 11 (by decide) (Or.inl (by decide))).trans e4) ((hf98 12 (by decide) (Or.inl (by decide))).trans e5) ((hf98 13 (by decide) (Or.inl (by decide))).trans e6) ((hf98 14 (by decide) (Or.inl (by decide))).trans e7) hB.1 (by omega) (by omega) (by first | assumption | exact inI_mk (by omega) (by omega)) (by decide)) gX6_band_X0_putBand (n := 4) (hw := rfl) (hrc := rfl) (hrs := rfl) (hd := by decide +kernel) (hR := ⟨Nat.le_of_ble_eq_true rfl, Nat.le_of_ble_eq_true rfl⟩) (hn := rfl) (hst := rfl) (hsum := Nat.le_of_ble_eq_true rfl) (hdg := dX6_band_121) ?_
                rintro _ rfl
                rw [bput_in hkb.1 hkC, bput_in hkb.1 hkC]
                refine g_at (pc2 := 124) rfl rfl (st2 := []) rfl (S2 := (va_up (va_up S98 12 (AI w 24 ((fl 6 (upd2 L z k lm))))) 13 (AI w 24 ((fl 6 (upd2 Q z k p)))))) rfl ?_
                refine g_iload (pc := 124) hX 1 rfl dX6_band_124 ?_
                refine g_iret (pc := 126) hX hR dX6_band_126 ?_
                try simp only [decide_eq_true_eq, decide_eq_false_iff_not] at c_4 c_14 c_24 c_80 c_103
                have hbd : bandD (F, g, C, E, L, Q, nR, R, nP, P0, nN, N, nK, K) z lm p = wC (F, g, C, E, L, Q, nR, R, nP, P0, nN, N, nK, K) (C) (upd2 L z k lm) (upd2 Q z k p) := by
                  rw [ek]
                  exact if_pos (show (bidx C L z lm < C z ∧ L z (bidx C L z lm) = lm) by rw [← ek]; exact hyes)
                rw [hbd]
                exact (if_pos ((show (0 ≤ z ∧ z ≤ 3) ∧ (1 ≤ lm ∧ lm ≤ 100000) ∧ 0 ≤ p ∧ p ≤ 100000 by omega))).mpr ((if_pos (Or.inl (show bidx C L z lm < C z ∧ L z (bidx C L z lm) = lm by rw [← ek]; exact hyes))).mpr (⟨vI_c ek, ⟨⟨⟨(up_ne (by decide) (up_ne (by decide) g98)), (up_ne (by decide) (up_ne (by decide) ((hf98 1 (by decide) (Or.inl (by decide))).trans d1))), (up_ne (by decide) (up_ne (by decide) ((hf98 2 (by decide) (Or.inl (by decide))).trans d2))), (up_ne (by decide) (up_ne (by decide) ((hf98 3 (by decide) (Or.inl (by decide))).trans d3))), (up_ne (by decide) (up_ne (by decide) ((hf98 4 (by decide) (Or.inl (by decide))).trans d4))), (up_ne (by decide) (up_ne (by decide) ((hf98 5 (by decide) (Or.inl (by decide))).trans d5))), (up_ne (by decide) (up_ne (by decide) ((hf98 6 (by decide) (Or.inl (by decide))).trans d6)))⟩, ⟨⟨⟨(up_ne (by decide) (up_ne (by decide) ((hf98 7 (by decide) (Or.inl (by decide))).trans e0))), (up_ne (by decide) (up_ne (by decide) ((hf98 8 (by decide) (Or.inl (by decide))).trans e1))), (up_ne (by decide) (up_ne (by decide) ((hf98 9 (by decide) (Or.inl (by decide))).trans e2)))⟩, ⟨(up_ne (by decide) (up_ne (by decide) ((hf98 10 (by decide) (Or.inl (by decide))).trans e3))), (up_ne (by decide) (up_ne (by decide) ((hf98 11 (by decide) (Or.inl (by decide))).trans e4))), (up_ne (by decide) (up_eq _ _ _)), (up_eq _ _ _), (up_ne (by decide) (up_ne (by decide) ((hf98 14 (by decide) (Or.inl (by decide))).trans e7)))⟩, ⟨(up_ne (by decide) (up_ne (by decide) ((hf98 15 (by decide) (Or.inl (by decide))).trans e8))), (up_ne (by decide) (up_ne (by decide) ((hf98 16 (by decide) (Or.inl (by decide))).trans e9))), (up_ne (by decide) (up_ne (by decide) ((hf98 17 (by decide) (Or.inl (by decide))).trans e10)))⟩⟩, ⟨⟨(up_ne (by decide) (up_ne (by decide) ((hf98 18 (by decide) (Or.inl (by decide))).trans e11))), (up_ne (by decide) (up_ne (by decide) ((hf98 19 (by decide) (Or.inl (by decide))).trans e12)))⟩, ⟨(up_ne (by decide) (up_ne (by decide) ((hf98 20 (by decide) (Or.inl (by decide))).trans e13))), (up_ne (by decide) (up_ne (by decide) ((hf98 21 (by decide) (Or.inl (by decide))).trans e14)))⟩, ⟨(up_ne (by decide) (up_ne (by decide) ((hf98 22 (by decide) (Or.inl (by decide))).trans e15))), (up_ne (by decide) (up_ne (by decide) ((hf98 23 (by decide) (Or.inl (by decide))).trans e16)))⟩⟩⟩, pastAt_frame (fun q hq => (up_ne (by omega) (up_ne (by omega) rfl))) hp98⟩, fun q hq => (up_ne (by omega) (up_ne (by omega) ((hf98 q (by omega) (by omega)).trans rfl)))⟩⟩))
              · skip
                exact absurd c_103 (by omega)
            · skip
              exact absurd c_80 (by omega)
          · skip
            refine g_iconst (pc := 71) hX dX6_band_71 ?_
            refine g_goto (pc := 72) (tgt := 76) hX dX6_band_72 (by decide) ?_
            refine g_istore (pc := 76) hX (lv2 := [(6, vI (1)), (5, vI (k)), (4, .ref (gw_ad w 10)), (0, .ref (gw_ad w 0)), (1, vI (z)), (2, vI (lm)), (3, vI (p))]) (by decide) rfl dX6_band_76 ?_
            have hno : ¬ (k < C z ∧ L z k = lm) := fun h => c_68 h.2
            refine g_iload (pc := 78) hX 0 rfl dX6_band_78 ?_
            refine g_if_eq (pc := 80) (tgt := 97) hX (by first | assumption | exact inI_mk (by omega) (by omega)) dX6_band_80 (by decide) (fun c_80 => ?_) (fun c_80 => ?_)
            · skip
              exact absurd c_80 (by omega)
            · skip
              refine g_aload (pc := 83) hX 2 rfl dX6_band_83 ?_
              refine g_iload_n (pc := 85) hX 4 rfl dX6_band_85 ?_
              refine g_callV1 (pc := 86) (ci := 0) (As := [vI (z)]) (st2 := []) hX 10 (by omega) e3 rfl (c_X0_bandsOf (by omega) (by omega) (by omega) (by omega) (by omega) e3 e4 e5 e6 e7 (z := z) (by omega) (by omega)) gX6_band_X0_bandsOf (n := 1) (hw := rfl) (hrc := rfl) (hrs := rfl) (hd := by decide +kernel) (hR := ⟨Nat.le_of_ble_eq_true rfl, Nat.le_of_ble_eq_true rfl⟩) (hn := rfl) (hst := rfl) (hsum := Nat.le_of_ble_eq_true rfl) (hdg := dX6_band_86) ?_
              rintro _ S9 ⟨rfl, e9⟩
              rw [e9]
              clear e9 S9
              refine g_at (pc2 := 89) rfl rfl (st2 := [vI (C z)]) rfl (S2 := S) rfl ?_
              refine g_bipush (pc := 89) hX (by decide) dX6_band_89 ?_
              refine g_icmp_lt (pc := 91) (tgt := 97) hX (by first | assumption | exact inI_mk (by omega) (by omega)) (by first | assumption | exact inI_mk (by omega) (by omega)) dX6_band_91 (by decide) (fun c_91 => ?_) (fun c_91 => ?_)
              · skip
                refine g_aload_n (pc := 97) hX 3 rfl dX6_band_97 ?_
                refine g_callV0 (pc := 98) (ci := 6) (As := []) (st2 := []) hX 0 (by omega) d0 rfl (c_X6_remember hN hd hh hD.c) gX6_band_X6_remember (n := 0) (hw := rfl) (hrc := rfl) (hrs := rfl) (hd := by decide +kernel) (hR := ⟨Nat.le_of_ble_eq_true rfl, Nat.le_of_ble_eq_true rfl⟩) (hn := rfl) (hst := rfl) (hsum := Nat.le_of_ble_eq_true rfl) (hdg := dX6_band_98) ?_
                rintro S98 ⟨hf98, g98, hp98⟩
                refine g_at (pc2 := 101) rfl rfl (st2 := []) rfl (S2 := S98) rfl ?_
                refine g_iload (pc := 101) hX 0 rfl dX6_band_101 ?_
                refine g_if_eq (pc := 103) (tgt := 114) hX (by first | assumption | exact inI_mk (by omega) (by omega)) dX6_band_103 (by decide) (fun c_103 => ?_) (fun c_103 => ?_)
                · skip
                  exact absurd c_103 (by omega)
                · skip
                  refine g_aload (pc := 106) hX 2 rfl dX6_band_106 ?_
                  refine g_iload_n (pc := 108) hX 4 rfl dX6_band_108 ?_
                  refine g_iload (pc := 109) hX 1 rfl dX6_band_109 ?_
                  refine g_callV0 (pc := 111) (ci := 0) (As := [vI (z), vI (k)]) (st2 := []) hX 10 (by omega) ((hf98 10 (by decide) (Or.inl (by decide))).trans e3) rfl (c_X0_openBand (z := z) (i := k) (by omega) (by omega) (by omega) (by omega) (by omega) ((hf98 10 (by decide) (Or.inl (by decide))).trans e3) ((hf98 11 (by decide) (Or.inl (by decide))).trans e4) ((hf98 12 (by decide) (Or.inl (by decide))).trans e5) ((hf98 13 (by decide) (Or.inl (by decide))).trans e6) ((hf98 14 (by decide) (Or.inl (by decide))).trans e7) hB.1 (by omega) (by omega) (by omega) (by omega) (by omega) (by decide) (by decide) (by decide) (by decide) (by decide) (by decide) (by decide) (by decide) (by decide) (by decide)) gX6_band_X0_openBand (n := 2) (hw := rfl) (hrc := rfl) (hrs := rfl) (hd := by decide +kernel) (hR := ⟨Nat.le_of_ble_eq_true rfl, Nat.le_of_ble_eq_true rfl⟩) (hn := rfl) (hst := rfl) (hsum := Nat.le_of_ble_eq_true rfl) (hdg := dX6_band_111) ?_
                  rintro _ rfl
                  refine g_at (pc2 := 114) rfl rfl (st2 := []) rfl (S2 := (va_up (va_up (va_up S98 11 (AI w 4 (updZ C z (C z + 1)))) 12 (AI w 24 ((fl 6 (bopen (C z) L z (C z - k)))))) 13 (AI w 24 ((fl 6 (bopen (C z) Q z (C z - k))))))) rfl ?_
                  have hC2 : bcOK (updZ C z (C z + 1)) := by
                    intro a h1 h2
                    unfold updZ
                    split
                    · omega
                    · exact hB.1 a h1 h2
                  have hkC2 : k < updZ C z (C z + 1) z := by rw [updZ_eq]; omega
                  refine g_aload (pc := 114) hX 2 rfl dX6_band_114 ?_
                  refine g_iload_n (pc := 116) hX 4 rfl dX6_band_116 ?_
                  refine g_iload (pc := 117) hX 1 rfl dX6_band_117 ?_
                  refine g_iload_n (pc := 119) hX 5 rfl dX6_band_119 ?_
                  refine g_iload_n (pc := 120) hX 6 rfl dX6_band_120 ?_
                  refine g_callV0 (pc := 121) (ci := 0) (As := [vI (z), vI (k), vI (lm), vI (p)]) (st2 := []) hX 10 (by omega) (up_ne (by decide) (up_ne (by decide) (up_ne (by decide) ((hf98 10 (by decide) (Or.inl (by decide))).trans e3)))) rfl (c_X0_putBand (z := z) (i := k) (x := lm) (y := p) (by omega) (by omega) (by omega) (by omega) (by omega) (up_ne (by decide) (up_ne (by decide) (up_ne (by decide) ((hf98 10 (by decide) (Or.inl (by decide))).trans e3)))) (up_ne (by decide) (up_ne (by decide) (up_eq _ _ _))) (up_ne (by decide) (up_eq _ _ _)) (up_eq _ _ _) (up_ne (by decide) (up_ne (by decide) (up_ne (by decide) ((hf98 14 (by decide) (Or.inl (by decide))).trans e7)))) hC2 (by omega) (by omega) (by first | assumption | exact inI_mk (by omega) (by omega)) (by decide)) gX6_band_X0_putBand (n := 4) (hw := rfl) (hrc := rfl) (hrs := rfl) (hd := by decide +kernel) (hR := ⟨Nat.le_of_ble_eq_true rfl, Nat.le_of_ble_eq_true rfl⟩) (hn := rfl) (hst := rfl) (hsum := Nat.le_of_ble_eq_true rfl) (hdg := dX6_band_121) ?_
                  rintro _ rfl
                  rw [bput_in hkb.1 hkC2, bput_in hkb.1 hkC2]
                  refine g_at (pc2 := 124) rfl rfl (st2 := []) rfl (S2 := (va_up (va_up (va_up (va_up (va_up S98 11 (AI w 4 (updZ C z (C z + 1)))) 12 (AI w 24 ((fl 6 (bopen (C z) L z (C z - k)))))) 13 (AI w 24 ((fl 6 (bopen (C z) Q z (C z - k)))))) 12 (AI w 24 ((fl 6 (upd2 (bopen (C z) L z (C z - k)) z k lm))))) 13 (AI w 24 ((fl 6 (upd2 (bopen (C z) Q z (C z - k)) z k p)))))) rfl ?_
                  refine g_iload (pc := 124) hX 1 rfl dX6_band_124 ?_
                  refine g_iret (pc := 126) hX hR dX6_band_126 ?_
                  try simp only [decide_eq_true_eq, decide_eq_false_iff_not] at c_4 c_14 c_24 c_80 c_91 c_103
                  have hbd : bandD (F, g, C, E, L, Q, nR, R, nP, P0, nN, N, nK, K) z lm p = wC (F, g, C, E, L, Q, nR, R, nP, P0, nN, N, nK, K) (updZ C z (C z + 1)) (upd2 (bopen (C z) L z (C z - k)) z k lm) (upd2 (bopen (C z) Q z (C z - k)) z k p) := by
                    rw [ek]
                    exact if_neg (show ¬ (bidx C L z lm < C z ∧ L z (bidx C L z lm) = lm) by rw [← ek]; exact hno)
                  rw [hbd]
                  exact (if_pos ((show (0 ≤ z ∧ z ≤ 3) ∧ (1 ≤ lm ∧ lm ≤ 100000) ∧ 0 ≤ p ∧ p ≤ 100000 by omega))).mpr ((if_pos (Or.inr (show C z < 6 by omega))).mpr (⟨vI_c ek, ⟨⟨⟨(up_ne (by decide) (up_ne (by decide) (up_ne (by decide) (up_ne (by decide) (up_ne (by decide) g98))))), (up_ne (by decide) (up_ne (by decide) (up_ne (by decide) (up_ne (by decide) (up_ne (by decide) ((hf98 1 (by decide) (Or.inl (by decide))).trans d1)))))), (up_ne (by decide) (up_ne (by decide) (up_ne (by decide) (up_ne (by decide) (up_ne (by decide) ((hf98 2 (by decide) (Or.inl (by decide))).trans d2)))))), (up_ne (by decide) (up_ne (by decide) (up_ne (by decide) (up_ne (by decide) (up_ne (by decide) ((hf98 3 (by decide) (Or.inl (by decide))).trans d3)))))), (up_ne (by decide) (up_ne (by decide) (up_ne (by decide) (up_ne (by decide) (up_ne (by decide) ((hf98 4 (by decide) (Or.inl (by decide))).trans d4)))))), (up_ne (by decide) (up_ne (by decide) (up_ne (by decide) (up_ne (by decide) (up_ne (by decide) ((hf98 5 (by decide) (Or.inl (by decide))).trans d5)))))), (up_ne (by decide) (up_ne (by decide) (up_ne (by decide) (up_ne (by decide) (up_ne (by decide) ((hf98 6 (by decide) (Or.inl (by decide))).trans d6))))))⟩, ⟨⟨⟨(up_ne (by decide) (up_ne (by decide) (up_ne (by decide) (up_ne (by decide) (up_ne (by decide) ((hf98 7 (by decide) (Or.inl (by decide))).trans e0)))))), (up_ne (by decide) (up_ne (by decide) (up_ne (by decide) (up_ne (by decide) (up_ne (by decide) ((hf98 8 (by decide) (Or.inl (by decide))).trans e1)))))), (up_ne (by decide) (up_ne (by decide) (up_ne (by decide) (up_ne (by decide) (up_ne (by decide) ((hf98 9 (by decide) (Or.inl (by decide))).trans e2))))))⟩, ⟨(up_ne (by decide) (up_ne (by decide) (up_ne (by decide) (up_ne (by decide) (up_ne (by decide) ((hf98 10 (by decide) (Or.inl (by decide))).trans e3)))))), (up_ne (by decide) (up_ne (by decide) (up_ne (by decide) (up_ne (by decide) (up_eq _ _ _))))), (up_ne (by decide) (up_eq _ _ _)), (up_eq _ _ _), (up_ne (by decide) (up_ne (by decide) (up_ne (by decide) (up_ne (by decide) (up_ne (by decide) ((hf98 14 (by decide) (Or.inl (by decide))).trans e7))))))⟩, ⟨(up_ne (by decide) (up_ne (by decide) (up_ne (by decide) (up_ne (by decide) (up_ne (by decide) ((hf98 15 (by decide) (Or.inl (by decide))).trans e8)))))), (up_ne (by decide) (up_ne (by decide) (up_ne (by decide) (up_ne (by decide) (up_ne (by decide) ((hf98 16 (by decide) (Or.inl (by decide))).trans e9)))))), (up_ne (by decide) (up_ne (by decide) (up_ne (by decide) (up_ne (by decide) (up_ne (by decide) ((hf98 17 (by decide) (Or.inl (by decide))).trans e10))))))⟩⟩, ⟨⟨(up_ne (by decide) (up_ne (by decide) (up_ne (by decide) (up_ne (by decide) (up_ne (by decide) ((hf98 18 (by decide) (Or.inl (by decide))).trans e11)))))), (up_ne (by decide) (up_ne (by decide) (up_ne (by decide) (up_ne (by decide) (up_ne (by decide) ((hf98 19 (by decide) (Or.inl (by decide))).trans e12))))))⟩, ⟨(up_ne (by decide) (up_ne (by decide) (up_ne (by decide) (up_ne (by decide) (up_ne (by decide) ((hf98 20 (by decide) (Or.inl (by decide))).trans e13)))))), (up_ne (by decide) (up_ne (by decide) (up_ne (by decide) (up_ne (by decide) (up_ne (by decide) ((hf98 21 (by decide) (Or.inl (by decide))).trans e14))))))⟩, ⟨(up_ne (by decide) (up_ne (by decide) (up_ne (by decide) (up_ne (by decide) (up_ne (by decide) ((hf98 22 (by decide) (Or.inl (by decide))).trans e15)))))), (up_ne (by decide) (up_ne (by decide) (up_ne (by decide) (up_ne (by decide) (up_ne (by decide) ((hf98 23 (by decide) (Or.inl (by decide))).trans e16))))))⟩⟩⟩, pastAt_frame (fun q hq => (up_ne (by omega) (up_ne (by omega) (up_ne (by omega) (up_ne (by omega) (up_ne (by omega) rfl)))))) hp98⟩, fun q hq => (up_ne (by omega) (up_ne (by omega) (up_ne (by omega) (up_ne (by omega) (up_ne (by omega) ((hf98 q (by omega) (by omega)).trans rfl))))))⟩⟩))
              · skip
                refine g_ldc (pc := 94) hX (z := -1000003) (List.mem_of_getElem? (i := 5) rfl) (by decide +kernel) dX6_band_94 ?_
                refine g_iret (pc := 96) hX hR dX6_band_96 ?_
                try simp only [decide_eq_true_eq, decide_eq_false_iff_not] at c_4 c_14 c_24 c_80 c_91
                rw [ek] at hno
                exact (if_pos ((show (0 ≤ z ∧ z ≤ 3) ∧ (1 ≤ lm ∧ lm ≤ 100000) ∧ 0 ≤ p ∧ p ≤ 100000 by omega))).mpr ((if_neg (fun h => h.elim (fun q => hno q) (fun q => absurd (show C z < 6 from q) (by omega)))).mpr (⟨rfl, rfl⟩))
      · skip
        refine g_ldc (pc := 27) hX (z := -1000001) (List.mem_of_getElem? (i := 2) rfl) (by decide +kernel) dX6_band_27 ?_
        refine g_iret (pc := 29) hX hR dX6_band_29 ?_
        try simp only [decide_eq_true_eq, decide_eq_false_iff_not] at c_4 c_14 c_24
        exact (if_neg (by omega)).mpr (⟨rfl, rfl⟩)
