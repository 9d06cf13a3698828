def rdZ (B : Int → Int) (ty : Int) (ρ T : Int → Int) : Int × rdS := rdGo B ty.toNat 0 (rdStart ρ, T)
def rulD (D : SD) (s : rdS) : SD := wR D (snR D + 1) (adR (snR D) s (sR D) (s.1 0))
theorem rdOK_w {a b : Int} {ρ : Int → Int} (h : rdOK a ρ) (hab : a ≤ b) : rdOK b ρ := by
  obtain ⟨q1, q2, q3, q4, q5⟩ := h
  exact ⟨q1, q2, q3, ⟨q4.1, by omega⟩, q5⟩
theorem rdOK_st {ρ : Int → Int} (h : rdOK 100 ρ) : rdOK 0 (rdStart ρ) := by
  obtain ⟨h0, h3, h4, h5, h6, h7⟩ := h
  exact ⟨⟨show (0 : Int) ≤ 0 by decide, show (0 : Int) ≤ 60 by decide⟩, h3, ⟨show (0 : Int) ≤ 0 by decide, show (0 : Int) ≤ 5 by decide⟩, ⟨show (0 : Int) ≤ 0 by decide, show (0 : Int) ≤ 0 by decide⟩, h6, h7⟩
theorem rdZ_b {B ρ T : Int → Int} {ty : Int} (h : rdOK 100 ρ) (h0 : 0 ≤ ty ∧ ty ≤ 60) : (0 ≤ (rdZ B ty ρ T).1 ∧ (rdZ B ty ρ T).1 ≤ ty) ∧ rdOK 100 (rdZ B ty ρ T).2.1 := by
  have h1 := rdGo_b B ty.toNat 0 (rdStart ρ, T)
  have h2 := rdGo_ok B ty.toNat 0 0 (rdStart ρ, T) (rdOK_st h) (Int.le_refl 0)
  unfold rdZ
  exact ⟨by omega, rdOK_w h2 (by omega)⟩
theorem fpT_in {D : SD} (hD : stOK D) (p x : Int) : inI (fpT D p x) := by
  unfold fpT
  split
  · have h1 := openZ_b (D := D) (p := p) hD.2.2.1.1
    have h2 := hD.2.2.1.1
    rcases h1 with h | h
    · rw [h]; exact ⟨by decide, by decide⟩
    · exact ⟨by omega, by omega⟩
  · exact hD.2.1.2.1 p x
theorem scNum_in {F g : Int → Int} (hF : scF F) (hg : scG g) (i : Int) : inI (scNum F g i) := by
  have h1 := scRaw_b hF hg
  have h2 := scGross_b hF hg
  have b1 := bz_b (scSteady F g)
  have b2 := bz_b (scOver F g)
  obtain ⟨⟨-, -, f2, -⟩, -⟩ := hF
  obtain ⟨⟨a0, a1, a2, a3⟩, ⟨a4, a5, a6⟩, -⟩ := hg
  unfold scNum
  repeat (first | exact ⟨by omega, by omega⟩ | split)

set_option maxHeartbeats 4000000 in
set_option maxRecDepth 100000 in
theorem c_X6_readBuffer {w : gW} {l : Launch} {S : Nat → va_E} {pc j : Nat} {ty : Int} {B ρ T : Int → Int} {Tr : Int → Int → Int} {D : SD} {Z : Nat → SD} (hN : gw_N w = 92) (hd : deskAt w pc j ty B ρ T Tr D Z S) (hO : deskOK ty B ρ Tr D) :
    GM1 w l yX6_readBuffer wsX6_readBuffer { frames := 9, cells := 0, slots := 0, locals := 201 } [.ref (gw_ad w 0)] S
      (fun v S' => v = vI (rdZ B ty ρ T).1 ∧ POST w S pc j ty B (rdZ B ty ρ T).2.1 (rdZ B ty ρ T).2.2 Tr D Z S') := by
  refine GM.start (own := RX6) (n := "readBuffer") (d := "()I") (by decide) rfl (Nat.le_of_ble_eq_true rfl) ?_
  intro X hX hR hXl
  subst hXl
  refine g_at rfl (lv2 := [(0, .ref (gw_ad w 0))]) rfl rfl rfl ?_
  obtain ⟨⟨d0, d1, d2, d3, d4, d5, d6⟩, ⟨hS0, hB0⟩, hpa⟩ := id hd
  obtain ⟨F, g, C, E, L, Q, nR, R, nP, P0, nN, N, nK, K⟩ := D
  obtain ⟨⟨e0, e1, e2⟩, ⟨e3, e4, e5, e6, e7⟩, ⟨e8, e9, e10⟩⟩ := (id hS0)
  obtain ⟨⟨e11, e12⟩, ⟨e13, e14⟩, ⟨e15, e16⟩⟩ := (id hB0)
  change S 7 = .inr (4, [.ref (gw_ad w 8), .ref (gw_ad w 10), .ref (gw_ad w 15), .ref (gw_ad w 18), .ref (gw_ad w 20), .ref (gw_ad w 22)]) at e0
  change S 8 = .inr (3, [.ref (gw_ad w 9), vI (g 0), vI (g 1), vI (g 2), vI (g 3), vI (g 4), vI (g 5), vI (g 6), vI (g 7), vI (g 8), vI (g 9)]) at e1
  change S 9 = AI w 8 (F) at e2
  change S 10 = .inr (0, [.ref (gw_ad w 11), .ref (gw_ad w 12), .ref (gw_ad w 13), .ref (gw_ad w 14)]) at e3
  change S 11 = AI w 4 (C) at e4
  change S 12 = AI w 24 ((fl 6 L)) at e5
  change S 13 = AI w 24 ((fl 6 Q)) at e6
  change S 14 = AI w 4 (E) at e7
  change S 15 = .inr (2, [.ref (gw_ad w 16)]) at e8
  change S 16 = .inr (5, [vI (8), vI (63), .ref (gw_ad w 17), vI (nR)]) at e9
  change S 17 = AI w 504 (fl 63 R) at e10
  change S 18 = .inr (5, [vI (30), vI (22), .ref (gw_ad w 19), vI (nP)]) at e11
  change S 19 = AI w 660 (fl 22 P0) at e12
  change S 20 = .inr (5, [vI (20), vI (6), .ref (gw_ad w 21), vI (nN)]) at e13
  change S 21 = AI w 120 (fl 6 N) at e14
  change S 22 = .inr (5, [vI (20), vI (22), .ref (gw_ad w 23), vI (nK)]) at e15
  change S 23 = AI w 440 (fl 22 K) at e16
  obtain ⟨hD, hty, hBr, hBi, hrd, hTi⟩ := id hO
  obtain ⟨⟨⟨hF, hg⟩, hB, hU, hRR⟩, ⟨hnP, hPi, hPr⟩, ⟨hnN, hNi, hNr⟩, ⟨hnK, hKi, hKr⟩, hg3⟩ := id hD
  change scF F at hF
  change scG g at hg
  change bdOK C E L Q at hB
  change ruOK nR R at hU
  change ∀ i j, inI (R i j) at hRR
  change 0 ≤ nP ∧ nP ≤ 30 at hnP
  change ∀ i j, inI (P0 i j) at hPi
  change ∀ p, 0 ≤ p → p < nP → rowOK P0 p at hPr
  change 0 ≤ nN ∧ nN ≤ 20 at hnN
  change ∀ i j, inI (N i j) at hNi
  change nK = nN at hnK
  change ∀ i j, inI (K i j) at hKi
  change ∀ n, 0 ≤ n → n < nN → rowOK K n at hKr
  have hnRb : 0 ≤ nR ∧ nR ≤ 8 := hU.1
  refine g_aload_n (pc := 0) hX 0 rfl dX6_readBuffer_0 ?_
  refine g_get (pc := 1) hX (ci := 6) (fun _ h => List.mem_cons_of_mem _ (List.mem_append_left _ (List.mem_append_right _ h))) rfl 0 (by omega) d0 6 (by decide) (List.mem_of_getElem? (i := 1) rfl) rfl (v := .ref (gw_ad w 3)) rfl dX6_readBuffer_1 ?_
  refine g_callV0 (pc := 4) (ci := 1) (As := []) (st2 := []) hX 3 (by omega) d3 rfl (c_X1_start (ρ := ρ) (T := T) (by omega) (by omega) d3 d4 (by decide)) gX6_readBuffer_X1_start (n := 0) (hw := rfl) (hrc := rfl) (hrs := rfl) (hd := by decide +kernel) (hR := ⟨Nat.le_of_ble_eq_true rfl, Nat.le_of_ble_eq_true rfl⟩) (hn := rfl) (hst := rfl) (hsum := Nat.le_of_ble_eq_true rfl) (hdg := dX6_readBuffer_4) ?_
  rintro _ rfl
  refine g_at (pc2 := 7) rfl rfl (st2 := []) rfl (S2 := (va_up S 3 (.inr (1, [.ref (gw_ad w 4), vI ((rdStart ρ) 0), vI ((rdStart ρ) 1), vI ((rdStart ρ) 2), vI ((rdStart ρ) 3), vI ((rdStart ρ) 4), vI ((rdStart ρ) 5), vI ((rdStart ρ) 6), vI ((rdStart ρ) 7)])))) rfl ?_
  refine g_iconst (pc := 7) hX dX6_readBuffer_7 ?_
  refine g_istore_n (pc := 8) hX (lv2 := [(1, vI (0)), (0, .ref (gw_ad w 0))]) rfl (by decide) rfl dX6_readBuffer_8 ?_
  have loop : ∀ (n0 : Nat) (c : Int) (ρ1 : Int → Int) (T1 : Int → Int), 0 ≤ c → c ≤ ty → ty - c < n0 → (rdOK c ρ1) → (rdGo B (ty - c).toNat c (ρ1, T1) = rdZ B ty ρ T) → G w { frames := 9, cells := 0, slots := 0, locals := 201 } X 2 9 [(1, vI (c)), (0, .ref (gw_ad w 0))] [] (va_up (va_up S 4 (AI w 60 (T1))) 3 (.inr (1, [.ref (gw_ad w 4), vI (ρ1 0), vI (ρ1 1), vI (ρ1 2), vI (ρ1 3), vI (ρ1 4), vI (ρ1 5), vI (ρ1 6), vI (ρ1 7)]))) := by
    intro n0
    induction n0 with
    | zero => intro c ρ1 T1 h1c h2c h3c; exact absurd h3c (by omega)
    | succ n0 ihloop =>
      intro c ρ1 T1 h1c h2c h3c hO1 hb
      have hc : inI c := inI_mk (by omega) (by omega)
      refine g_iload_n (pc := 9) hX 0 rfl dX6_readBuffer_9 ?_
      refine g_aload_n (pc := 10) hX 1 rfl dX6_readBuffer_10 ?_
      refine g_get (pc := 11) hX (ci := 6) (fun _ h => List.mem_cons_of_mem _ (List.mem_append_left _ (List.mem_append_right _ h))) rfl 0 (by omega) (up_ne (by decide) (up_ne (by decide) d0)) 5 (by decide) (List.mem_of_getElem? (i := 2) rfl) rfl (v := vI (ty)) rfl dX6_readBuffer_11 ?_
      refine g_icmp_ge (pc := 14) (tgt := 50) hX (by first | assumption | exact inI_mk (by omega) (by omega)) (by first | assumption | exact inI_mk (by omega) (by omega)) dX6_readBuffer_14 (by decide) (fun c_14 => ?_) (fun c_14 => ?_)
      · skip
        refine g_aload_n (pc := 50) hX 1 rfl dX6_readBuffer_50 ?_
        refine g_get (pc := 51) hX (ci := 6) (fun _ h => List.mem_cons_of_mem _ (List.mem_append_left _ (List.mem_append_right _ h))) rfl 0 (by omega) (up_ne (by decide) (up_ne (by decide) d0)) 5 (by decide) (List.mem_of_getElem? (i := 2) rfl) rfl (v := vI (ty)) rfl dX6_readBuffer_51 ?_
        refine g_iret (pc := 54) hX hR dX6_readBuffer_54 ?_
        rw [show (ty - c).toNat = 0 by omega] at hb
        have hb2 : (c, ρ1, T1) = rdZ B ty ρ T := hb
        rw [← hb2]
        exact ⟨vI_c (by omega), ⟨⟨⟨(up_ne (by decide) (up_ne (by decide) d0)), (up_ne (by decide) (up_ne (by decide) d1)), (up_ne (by decide) (up_ne (by decide) d2)), (up_eq _ _ _), (up_ne (by decide) (up_eq _ _ _)), (up_ne (by decide) (up_ne (by decide) d5)), (up_ne (by decide) (up_ne (by decide) d6))⟩, ⟨⟨⟨(up_ne (by decide) (up_ne (by decide) e0)), (up_ne (by decide) (up_ne (by decide) e1)), (up_ne (by decide) (up_ne (by decide) e2))⟩, ⟨(up_ne (by decide) (up_ne (by decide) e3)), (up_ne (by decide) (up_ne (by decide) e4)), (up_ne (by decide) (up_ne (by decide) e5)), (up_ne (by decide) (up_ne (by decide) e6)), (up_ne (by decide) (up_ne (by decide) e7))⟩, ⟨(up_ne (by decide) (up_ne (by decide) e8)), (up_ne (by decide) (up_ne (by decide) e9)), (up_ne (by decide) (up_ne (by decide) e10))⟩⟩, ⟨⟨(up_ne (by decide) (up_ne (by decide) e11)), (up_ne (by decide) (up_ne (by decide) e12))⟩, ⟨(up_ne (by decide) (up_ne (by decide) e13)), (up_ne (by decide) (up_ne (by decide) e14))⟩, ⟨(up_ne (by decide) (up_ne (by decide) e15)), (up_ne (by decide) (up_ne (by decide) e16))⟩⟩⟩, pastAt_frame (fun q hq => (up_ne (by omega) (up_ne (by omega) rfl))) hpa⟩, fun q hq => (up_ne (by omega) (up_ne (by omega) rfl))⟩⟩
      · skip
        have hBc := hBr c h1c c_14
        refine g_iload_n (pc := 17) hX 0 rfl dX6_readBuffer_17 ?_
        refine g_aload_n (pc := 18) hX 1 rfl dX6_readBuffer_18 ?_
        refine g_get (pc := 19) hX (ci := 6) (fun _ h => List.mem_cons_of_mem _ (List.mem_append_left _ (List.mem_append_right _ h))) rfl 0 (by omega) (up_ne (by decide) (up_ne (by decide) d0)) 4 (by decide) (List.mem_of_getElem? (i := 3) rfl) rfl (v := .ref (gw_ad w 2)) rfl dX6_readBuffer_19 ?_
        refine g_alenAI (pc := 22) hX 2 (by omega) (up_ne (by decide) (up_ne (by decide) d2)) dX6_readBuffer_22 ?_
        refine g_icmp_ge (pc := 23) (tgt := 50) hX (by first | assumption | exact inI_mk (by omega) (by omega)) (by first | assumption | exact inI_mk (by omega) (by omega)) dX6_readBuffer_23 (by decide) (fun c_23 => ?_) (fun c_23 => ?_)
        · skip
          exact absurd c_23 (by omega)
        · skip
          refine g_aload_n (pc := 26) hX 1 rfl dX6_readBuffer_26 ?_
          refine g_get (pc := 27) hX (ci := 6) (fun _ h => List.mem_cons_of_mem _ (List.mem_append_left _ (List.mem_append_right _ h))) rfl 0 (by omega) (up_ne (by decide) (up_ne (by decide) d0)) 6 (by decide) (List.mem_of_getElem? (i := 1) rfl) rfl (v := .ref (gw_ad w 3)) rfl dX6_readBuffer_27 ?_
          refine g_aload_n (pc := 30) hX 1 rfl dX6_readBuffer_30 ?_
          refine g_get (pc := 31) hX (ci := 6) (fun _ h => List.mem_cons_of_mem _ (List.mem_append_left _ (List.mem_append_right _ h))) rfl 0 (by omega) (up_ne (by decide) (up_ne (by decide) d0)) 4 (by decide) (List.mem_of_getElem? (i := 3) rfl) rfl (v := .ref (gw_ad w 2)) rfl dX6_readBuffer_31 ?_
          refine g_iload_n (pc := 34) hX 0 rfl dX6_readBuffer_34 ?_
          refine g_iald (pc := 35) hX 2 (by omega) (up_ne (by decide) (up_ne (by decide) d2)) (by omega) (by omega) (by decide) dX6_readBuffer_35 ?_
          refine g_callV1 (pc := 36) (ci := 1) (As := [vI (B c)]) (st2 := []) hX 3 (by omega) (up_eq _ _ _) rfl (c_X1_accepts (ρ := ρ1) (T := T1) (c := B c) (by omega) (by omega) (up_eq _ _ _) (up_ne (by decide) (up_eq _ _ _)) (by decide) (by omega) (by omega) hO1 (by omega)) gX6_readBuffer_X1_accepts (n := 1) (hw := rfl) (hrc := rfl) (hrs := rfl) (hd := by decide +kernel) (hR := ⟨Nat.le_of_ble_eq_true rfl, Nat.le_of_ble_eq_true rfl⟩) (hn := rfl) (hst := rfl) (hsum := Nat.le_of_ble_eq_true rfl) (hdg := dX6_readBuffer_36) ?_
          rintro _ S36 ⟨rfl, hR36⟩
          have e36 := RDW_eq hR36 (by decide)
          subst e36
          refine g_at (pc2 := 39) rfl rfl (st2 := [vI (bz ((rdAll (B c) (ρ1, T1)).1))]) rfl (S2 := (va_up (va_up (va_up (va_up S 4 (AI w 60 (T1))) 3 (.inr (1, [.ref (gw_ad w 4), vI (ρ1 0), vI (ρ1 1), vI (ρ1 2), vI (ρ1 3), vI (ρ1 4), vI (ρ1 5), vI (ρ1 6), vI (ρ1 7)]))) 4 (AI w 60 ((rdAll (B c) (ρ1, T1)).2.2))) 3 (.inr (1, [.ref (gw_ad w 4), vI ((rdAll (B c) (ρ1, T1)).2.1 0), vI ((rdAll (B c) (ρ1, T1)).2.1 1), vI ((rdAll (B c) (ρ1, T1)).2.1 2), vI ((rdAll (B c) (ρ1, T1)).2.1 3), vI ((rdAll (B c) (ρ1, T1)).2.1 4), vI ((rdAll (B c) (ρ1, T1)).2.1 5), vI ((rdAll (B c) (ρ1, T1)).2.1 6), vI ((rdAll (B c) (ρ1, T1)).2.1 7)])))) rfl ?_
          refine g_bif_ne (pc := 39) (tgt := 44) hX dX6_readBuffer_39 (by decide) (fun c_39 => ?_) (fun c_39 => ?_)
          · skip
            refine g_iinc (pc := 44) hX (lv2 := [(1, vI (c + 1)), (0, .ref (gw_ad w 0))]) 0 rfl (by decide) rfl dX6_readBuffer_44 ?_
            refine g_goto (pc := 47) (tgt := 9) hX dX6_readBuffer_47 (by decide) ?_
            refine g_sub (lv2 := [(1, vI (c + 1)), (0, .ref (gw_ad w 0))]) [0, 1] rfl ?_
            refine g_at rfl (lv2 := [(1, vI (c + 1)), (0, .ref (gw_ad w 0))]) (rfl) rfl (S2 := (va_up (va_up S 4 (AI w 60 ((rdAll (B c) (ρ1, T1)).2.2))) 3 (.inr (1, [.ref (gw_ad w 4), vI ((rdAll (B c) (ρ1, T1)).2.1 0), vI ((rdAll (B c) (ρ1, T1)).2.1 1), vI ((rdAll (B c) (ρ1, T1)).2.1 2), vI ((rdAll (B c) (ρ1, T1)).2.1 3), vI ((rdAll (B c) (ρ1, T1)).2.1 4), vI ((rdAll (B c) (ρ1, T1)).2.1 5), vI ((rdAll (B c) (ρ1, T1)).2.1 6), vI ((rdAll (B c) (ρ1, T1)).2.1 7)])))) (by rw [up_abab (by decide)]) ?_
            exact ihloop (c + 1) ((rdAll (B c) (ρ1, T1)).2.1) ((rdAll (B c) (ρ1, T1)).2.2) (by omega) (by omega) (by omega) (rdOK_all (s := (ρ1, T1)) hO1 (by omega)) (by rw [show (ty - c).toNat = (ty - (c + 1)).toNat + 1 by omega] at hb; rw [← hb]; exact (if_pos c_39).symm)
          · skip
            refine g_iload_n (pc := 42) hX 0 rfl dX6_readBuffer_42 ?_
            refine g_iret (pc := 43) hX hR dX6_readBuffer_43 ?_
            rw [show (ty - c).toNat = (ty - (c + 1)).toNat + 1 by omega] at hb
            have hb2 : (c, (rdAll (B c) (ρ1, T1)).2) = rdZ B ty ρ T := by rw [← hb]; exact (if_neg (by rw [c_39]; decide)).symm
            rw [← hb2]
            exact ⟨rfl, ⟨⟨⟨(up_ne (by decide) (up_ne (by decide) (up_ne (by decide) (up_ne (by decide) d0)))), (up_ne (by decide) (up_ne (by decide) (up_ne (by decide) (up_ne (by decide) d1)))), (up_ne (by decide) (up_ne (by decide) (up_ne (by decide) (up_ne (by decide) d2)))), (up_eq _ _ _), (up_ne (by decide) (up_eq _ _ _)), (up_ne (by decide) (up_ne (by decide) (up_ne (by decide) (up_ne (by decide) d5)))), (up_ne (by decide) (up_ne (by decide) (up_ne (by decide) (up_ne (by decide) d6))))⟩, ⟨⟨⟨(up_ne (by decide) (up_ne (by decide) (up_ne (by decide) (up_ne (by decide) e0)))), (up_ne (by decide) (up_ne (by decide) (up_ne (by decide) (up_ne (by decide) e1)))), (up_ne (by decide) (up_ne (by decide) (up_ne (by decide) (up_ne (by decide) e2))))⟩, ⟨(up_ne (by decide) (up_ne (by decide) (up_ne (by decide) (up_ne (by decide) e3)))), (up_ne (by decide) (up_ne (by decide) (up_ne (by decide) (up_ne (by decide) e4)))), (up_ne (by decide) (up_ne (by decide) (up_ne (by decide) (up_ne (by decide) e5)))), (up_ne (by decide) (up_ne (by decide) (up_ne (by decide) (up_ne (by decide) e6)))), (up_ne (by decide) (up_ne (by decide) (up_ne (by decide) (up_ne (by decide) e7))))⟩, ⟨(up_ne (by decide) (up_ne (by decide) (up_ne (by decide) (up_ne (by decide) e8)))), (up_ne (by decide) (up_ne (by decide) (up_ne (by decide) (up_ne (by decide) e9)))), (up_ne (by decide) (up_ne (by decide) (up_ne (by decide) (up_ne (by decide) e10))))⟩⟩, ⟨⟨(up_ne (by decide) (up_ne (by decide) (up_ne (by decide) (up_ne (by decide) e11)))), (up_ne (by decide) (up_ne (by decide) (up_ne (by decide) (up_ne (by decide) e12))))⟩, ⟨(up_ne (by decide) (up_ne (by decide) (up_ne (by decide) (up_ne (by decide) e13)))), (up_ne (by decide) (up_ne (by decide) (up_ne (by decide) (up_ne (by decide) e14))))⟩, ⟨(up_ne (by decide) (up_ne (by decide) (up_ne (by decide) (up_ne (by decide) e15)))), (up_ne (by decide) (up_ne (by decide) (up_ne (by decide) (up_ne (by decide) e16))))⟩⟩⟩, pastAt_frame (fun q hq => (up_ne (by omega) (up_ne (by omega) (up_ne (by omega) (up_ne (by omega) rfl))))) hpa⟩, fun q hq => (up_ne (by omega) (up_ne (by omega) (up_ne (by omega) (up_ne (by omega) rfl))))⟩⟩
  refine g_sub (lv2 := [(1, vI (0)), (0, .ref (gw_ad w 0))]) [0, 1] rfl ?_
  refine g_at rfl (lv2 := [(1, vI (0)), (0, .ref (gw_ad w 0))]) (rfl) rfl (S2 := (va_up (va_up S 4 (AI w 60 (T))) 3 (.inr (1, [.ref (gw_ad w 4), vI ((rdStart ρ) 0), vI ((rdStart ρ) 1), vI ((rdStart ρ) 2), vI ((rdStart ρ) 3), vI ((rdStart ρ) 4), vI ((rdStart ρ) 5), vI ((rdStart ρ) 6), vI ((rdStart ρ) 7)])))) (by rw [up_self (f := S) d4]) ?_
  exact loop ((ty : Int) - 0 + 1).toNat 0 (rdStart ρ) (T) (by omega) (by omega) (by omega) (rdOK_st hrd) (by rw [Int.sub_zero]; rfl)

set_option maxHeartbeats 4000000 in
set_option maxRecDepth 100000 in
theorem c_X6_rule {w : gW} {l : Launch} {S : Nat → va_E} {pc j : Nat} {ty : Int} {B ρ T : Int → Int} {Tr : Int → Int → Int} {D : SD} {Z : Nat → SD} (hN : gw_N w = 92) (hd : deskAt w pc j ty B ρ T Tr D Z S) (hO : deskOK ty B ρ Tr D) (hh : pc ≤ 4 ∧ j < 4 ∧ ∀ i : Nat, i < 4 → cOK (Z i)) :
    GM1 w l yX6_rule wsX6_rule { frames := 10, cells := 0, slots := 0, locals := 222 } [.ref (gw_ad w 0)] S
      (fun v S' => if (rdZ B ty ρ T).1 = ty ∧ (rdZ B ty ρ T).2.1 4 = 5 ∧ 0 < (rdZ B ty ρ T).2.1 3 then (if snR D < 8 then v = vI (snR D + 1) ∧ POST w S (pcN pc) (jN j) 0 B (rdZ B ty ρ T).2.1 (rdZ B ty ρ T).2.2 Tr (rulD D (rdZ B ty ρ T).2) (pastN j Z D) S' else v = vI (-1000003) ∧ POST w S pc j ty B (rdZ B ty ρ T).2.1 (rdZ B ty ρ T).2.2 Tr D Z S') else v = vI (-100 - (rdZ B ty ρ T).1) ∧ POST w S pc j ty B (rdZ B ty ρ T).2.1 (rdZ B ty ρ T).2.2 Tr D Z S') := by
  refine GM.start (own := RX6) (n := "rule") (d := "()I") (by decide) rfl (Nat.le_of_ble_eq_true rfl) ?_
  intro X hX hR hXl
  subst hXl
  refine g_at rfl (lv2 := [(0, .ref (gw_ad w 0))]) rfl rfl rfl ?_
  obtain ⟨⟨d0, d1, d2, d3, d4, d5, d6⟩, ⟨hS0, hB0⟩, hpa⟩ := id hd
  obtain ⟨F, g, C, E, L, Q, nR, R, nP, P0, nN, N, nK, K⟩ := D
  obtain ⟨⟨e0, e1, e2⟩, ⟨e3, e4, e5, e6, e7⟩, ⟨e8, e9, e10⟩⟩ := (id hS0)
  obtain ⟨⟨e11, e12⟩, ⟨e13, e14⟩, ⟨e15, e16⟩⟩ := (id hB0)
  change S 7 = .inr (4, [.ref (gw_ad w 8), .ref (gw_ad w 10), .ref (gw_ad w 15), .ref (gw_ad w 18), .ref (gw_ad w 20), .ref (gw_ad w 22)]) at e0
  change S 8 = .inr (3, [.ref (gw_ad w 9), vI (g 0), vI (g 1), vI (g 2), vI (g 3), vI (g 4), vI (g 5), vI (g 6), vI (g 7), vI (g 8), vI (g 9)]) at e1
  change S 9 = AI w 8 (F) at e2
  change S 10 = .inr (0, [.ref (gw_ad w 11), .ref (gw_ad w 12), .ref (gw_ad w 13), .ref (gw_ad w 14)]) at e3
  change S 11 = AI w 4 (C) at e4
  change S 12 = AI w 24 ((fl 6 L)) at e5
  change S 13 = AI w 24 ((fl 6 Q)) at e6
  change S 14 = AI w 4 (E) at e7
  change S 15 = .inr (2, [.ref (gw_ad w 16)]) at e8
  change S 16 = .inr (5, [vI (8), vI (63), .ref (gw_ad w 17), vI (nR)]) at e9
  change S 17 = AI w 504 (fl 63 R) at e10
  change S 18 = .inr (5, [vI (30), vI (22), .ref (gw_ad w 19), vI (nP)]) at e11
  change S 19 = AI w 660 (fl 22 P0) at e12
  change S 20 = .inr (5, [vI (20), vI (6), .ref (gw_ad w 21), vI (nN)]) at e13
  change S 21 = AI w 120 (fl 6 N) at e14
  change S 22 = .inr (5, [vI (20), vI (22), .ref (gw_ad w 23), vI (nK)]) at e15
  change S 23 = AI w 440 (fl 22 K) at e16
  obtain ⟨hD, hty, hBr, hBi, hrd, hTi⟩ := id hO
  obtain ⟨⟨⟨hF, hg⟩, hB, hU, hRR⟩, ⟨hnP, hPi, hPr⟩, ⟨hnN, hNi, hNr⟩, ⟨hnK, hKi, hKr⟩, hg3⟩ := id hD
  change scF F at hF
  change scG g at hg
  change bdOK C E L Q at hB
  change ruOK nR R at hU
  change ∀ i j, inI (R i j) at hRR
  change 0 ≤ nP ∧ nP ≤ 30 at hnP
  change ∀ i j, inI (P0 i j) at hPi
  change ∀ p, 0 ≤ p → p < nP → rowOK P0 p at hPr
  change 0 ≤ nN ∧ nN ≤ 20 at hnN
  change ∀ i j, inI (N i j) at hNi
  change nK = nN at hnK
  change ∀ i j, inI (K i j) at hKi
  change ∀ n, 0 ≤ n → n < nN → rowOK K n at hKr
  have hnRb : 0 ≤ nR ∧ nR ≤ 8 := hU.1
  refine g_aload_n (pc := 0) hX 0 rfl dX6_rule_0 ?_
  refine g_callV1 (pc := 1) (ci := 6) (As := []) (st2 := []) hX 0 (by omega) d0 rfl (c_X6_readBuffer hN hd hO) gX6_rule_X6_readBuffer (n := 0) (hw := rfl) (hrc := rfl) (hrs := rfl) (hd := by decide +kernel) (hR := ⟨Nat.le_of_ble_eq_true rfl, Nat.le_of_ble_eq_true rfl⟩) (hn := rfl) (hst := rfl) (hsum := Nat.le_of_ble_eq_true rfl) (hdg := dX6_rule_1) ?_
  rintro _ S4 ⟨rfl, hP4⟩
  have hz1 := rdZ_b (B := B) (T := T) hrd hty
  obtain ⟨⟨sp, ρ1, T1⟩, er⟩ : ∃ r : Int × rdS, rdZ B ty ρ T = r := ⟨_, rfl⟩
  rw [er] at hP4 hz1 ⊢
  have hsp : 0 ≤ sp ∧ sp ≤ ty := hz1.1
  have hr1 : rdOK 100 ρ1 := hz1.2
  obtain ⟨⟨k0, k1, k2, k3, k4, k5, k6⟩, ⟨kS, kB⟩, kpa⟩ := id hP4.1
  obtain ⟨⟨ek_0, ek_1, ek_2⟩, ⟨ek_3, ek_4, ek_5, ek_6, ek_7⟩, ⟨ek_8, ek_9, ek_10⟩⟩ := kS
  obtain ⟨⟨ek_11, ek_12⟩, ⟨ek_13, ek_14⟩, ⟨ek_15, ek_16⟩⟩ := kB
  change S4 7 = .inr (4, [.ref (gw_ad w 8), .ref (gw_ad w 10), .ref (gw_ad w 15), .ref (gw_ad w 18), .ref (gw_ad w 20), .ref (gw_ad w 22)]) at ek_0
  change S4 8 = .inr (3, [.ref (gw_ad w 9), vI (g 0), vI (g 1), vI (g 2), vI (g 3), vI (g 4), vI (g 5), vI (g 6), vI (g 7), vI (g 8), vI (g 9)]) at ek_1
  change S4 9 = AI w 8 (F) at ek_2
  change S4 10 = .inr (0, [.ref (gw_ad w 11), .ref (gw_ad w 12), .ref (gw_ad w 13), .ref (gw_ad w 14)]) at ek_3
  change S4 11 = AI w 4 (C) at ek_4
  change S4 12 = AI w 24 ((fl 6 L)) at ek_5
  change S4 13 = AI w 24 ((fl 6 Q)) at ek_6
  change S4 14 = AI w 4 (E) at ek_7
  change S4 15 = .inr (2, [.ref (gw_ad w 16)]) at ek_8
  change S4 16 = .inr (5, [vI (8), vI (63), .ref (gw_ad w 17), vI (nR)]) at ek_9
  change S4 17 = AI w 504 (fl 63 R) at ek_10
  change S4 18 = .inr (5, [vI (30), vI (22), .ref (gw_ad w 19), vI (nP)]) at ek_11
  change S4 19 = AI w 660 (fl 22 P0) at ek_12
  change S4 20 = .inr (5, [vI (20), vI (6), .ref (gw_ad w 21), vI (nN)]) at ek_13
  change S4 21 = AI w 120 (fl 6 N) at ek_14
  change S4 22 = .inr (5, [vI (20), vI (22), .ref (gw_ad w 23), vI (nK)]) at ek_15
  change S4 23 = AI w 440 (fl 22 K) at ek_16
  refine g_at (pc2 := 4) rfl rfl (st2 := [vI (sp)]) rfl (S2 := S4) rfl ?_
  refine g_istore_n (pc := 4) hX (lv2 := [(1, vI (sp)), (0, .ref (gw_ad w 0))]) rfl (by decide) rfl dX6_rule_4 ?_
  refine g_iload_n (pc := 5) hX 0 rfl dX6_rule_5 ?_
  refine g_aload_n (pc := 6) hX 1 rfl dX6_rule_6 ?_
  refine g_get (pc := 7) hX (ci := 6) (fun _ h => List.mem_cons_of_mem _ (List.mem_append_left _ (List.mem_append_left _ (List.mem_append_left _ (List.mem_append_left _ (List.mem_append_left _ (List.mem_append_left _ (List.mem_append_right _ h)))))))) rfl 0 (by omega) k0 5 (by decide) (List.mem_of_getElem? (i := 1) rfl) rfl (v := vI (ty)) rfl dX6_rule_7 ?_
  refine g_icmp_lt (pc := 10) (tgt := 23) hX (by first | assumption | exact inI_mk (by omega) (by omega)) (by first | assumption | exact inI_mk (by omega) (by omega)) dX6_rule_10 (by decide) (fun c_10 => ?_) (fun c_10 => ?_)
  · skip
    refine g_bipush (pc := 23) hX (by decide) dX6_rule_23 ?_
    refine g_iload_n (pc := 25) hX 0 rfl dX6_rule_25 ?_
    refine g_isub (pc := 26) hX dX6_rule_26 ?_
    refine g_iret (pc := 27) hX hR dX6_rule_27 ?_
    try simp only [decide_eq_true_eq, decide_eq_false_iff_not] at c_10
    rw [er]
    exact (if_neg (show ¬ (sp = ty ∧ ρ1 4 = 5 ∧ 0 < ρ1 3) by omega)).mpr (⟨rfl, hP4⟩)
  · skip
    refine g_aload_n (pc := 13) hX 1 rfl dX6_rule_13 ?_
    refine g_get (pc := 14) hX (ci := 6) (fun _ h => List.mem_cons_of_mem _ (List.mem_append_left _ (List.mem_append_left _ (List.mem_append_left _ (List.mem_append_left _ (List.mem_append_left _ (List.mem_append_left _ (List.mem_append_right _ h)))))))) rfl 0 (by omega) k0 6 (by decide) (List.mem_of_getElem? (i := 2) rfl) rfl (v := .ref (gw_ad w 3)) rfl dX6_rule_14 ?_
    refine g_callV1 (pc := 17) (ci := 1) (As := []) (st2 := []) hX 3 (by omega) k3 rfl (c_X1_isComplete (ρ := ρ1) (by omega) (by omega) k3 k4 (by decide) (by have := hr1.2.2.1; exact inI_mk (by omega) (by omega)) (by have := hr1.2.1; exact inI_mk (by omega) (by omega))) gX6_rule_X1_isComplete (n := 0) (hw := rfl) (hrc := rfl) (hrs := rfl) (hd := by decide +kernel) (hR := ⟨Nat.le_of_ble_eq_true rfl, Nat.le_of_ble_eq_true rfl⟩) (hn := rfl) (hst := rfl) (hsum := Nat.le_of_ble_eq_true rfl) (hdg := dX6_rule_17) ?_
    rintro _ S9 ⟨rfl, e9⟩
    rw [e9]
    clear e9 S9
    refine g_at (pc2 := 20) rfl rfl (st2 := [vI (bz (decide (ρ1 4 = 5 ∧ 0 < ρ1 3)))]) rfl (S2 := S4) rfl ?_
    refine g_bif_ne (pc := 20) (tgt := 28) hX dX6_rule_20 (by decide) (fun c_20 => ?_) (fun c_20 => ?_)
    · skip
      refine g_aload_n (pc := 28) hX 1 rfl dX6_rule_28 ?_
      refine g_get (pc := 29) hX (ci := 6) (fun _ h => List.mem_cons_of_mem _ (List.mem_append_left _ (List.mem_append_left _ (List.mem_append_left _ (List.mem_append_left _ (List.mem_append_left _ (List.mem_append_left _ (List.mem_append_right _ h)))))))) rfl 0 (by omega) k0 0 (by decide) (List.mem_of_getElem? (i := 3) rfl) rfl (v := .ref (gw_ad w 7)) rfl dX6_rule_29 ?_
      refine g_get (pc := 32) hX (ci := 4) (fun _ h => List.mem_cons_of_mem _ (List.mem_append_left _ (List.mem_append_left _ (List.mem_append_left _ (List.mem_append_left _ (List.mem_append_left _ (List.mem_append_right _ h))))))) rfl 7 (by omega) ek_0 2 (by decide) (List.mem_of_getElem? (i := 4) rfl) rfl (v := .ref (gw_ad w 15)) rfl dX6_rule_32 ?_
      refine g_callV1 (pc := 35) (ci := 2) (As := []) (st2 := []) hX 15 (by omega) ek_8 rfl (c_X2_count (by omega) (by omega) (by omega) ek_8 ek_9 ek_10) gX6_rule_X2_count (n := 0) (hw := rfl) (hrc := rfl) (hrs := rfl) (hd := by decide +kernel) (hR := ⟨Nat.le_of_ble_eq_true rfl, Nat.le_of_ble_eq_true rfl⟩) (hn := rfl) (hst := rfl) (hsum := Nat.le_of_ble_eq_true rfl) (hdg := dX6_rule_35) ?_
      rintro _ S9 ⟨rfl, e9⟩
      rw [e9]
      clear e9 S9
      refine g_at (pc2 := 38) rfl rfl (st2 := [vI (nR)]) rfl (S2 := S4) rfl ?_
      refine g_bipush (pc := 38) hX (by decide) dX6_rule_38 ?_
      refine g_icmp_lt (pc := 40) (tgt := 46) hX (by first | assumption | exact inI_mk (by omega) (by omega)) (by first | assumption | exact inI_mk (by omega) (by omega)) dX6_rule_40 (by decide) (fun c_40 => ?_) (fun c_40 => ?_)
      · skip
        refine g_aload_n (pc := 46) hX 1 rfl dX6_rule_46 ?_
        refine g_callV0 (pc := 47) (ci := 6) (As := []) (st2 := []) hX 0 (by omega) k0 rfl (c_X6_remember hN hP4.1 hh hD.c) gX6_rule_X6_remember (n := 0) (hw := rfl) (hrc := rfl) (hrs := rfl) (hd := by decide +kernel) (hR := ⟨Nat.le_of_ble_eq_true rfl, Nat.le_of_ble_eq_true rfl⟩) (hn := rfl) (hst := rfl) (hsum := Nat.le_of_ble_eq_true rfl) (hdg := dX6_rule_47) ?_
        rintro S47 ⟨hf47, g47, hp47⟩
        refine g_at (pc2 := 50) rfl rfl (st2 := []) rfl (S2 := S47) rfl ?_
        refine g_aload_n (pc := 50) hX 1 rfl dX6_rule_50 ?_
        refine g_get (pc := 51) hX (ci := 6) (fun _ h => List.mem_cons_of_mem _ (List.mem_append_left _ (List.mem_append_left _ (List.mem_append_left _ (List.mem_append_left _ (List.mem_append_left _ (List.mem_append_left _ (List.mem_append_right _ h)))))))) rfl 0 (by omega) g47 0 (by decide) (List.mem_of_getElem? (i := 3) rfl) rfl (v := .ref (gw_ad w 7)) rfl dX6_rule_51 ?_
        refine g_get (pc := 54) hX (ci := 4) (fun _ h => List.mem_cons_of_mem _ (List.mem_append_left _ (List.mem_append_left _ (List.mem_append_left _ (List.mem_append_left _ (List.mem_append_left _ (List.mem_append_right _ h))))))) rfl 7 (by omega) ((hf47 7 (by decide) (Or.inl (by decide))).trans ek_0) 2 (by decide) (List.mem_of_getElem? (i := 4) rfl) rfl (v := .ref (gw_ad w 15)) rfl dX6_rule_54 ?_
        refine g_aload_n (pc := 57) hX 1 rfl dX6_rule_57 ?_
        refine g_get (pc := 58) hX (ci := 6) (fun _ h => List.mem_cons_of_mem _ (List.mem_append_left _ (List.mem_append_left _ (List.mem_append_left _ (List.mem_append_left _ (List.mem_append_left _ (List.mem_append_left _ (List.mem_append_right _ h)))))))) rfl 0 (by omega) g47 6 (by decide) (List.mem_of_getElem? (i := 2) rfl) rfl (v := .ref (gw_ad w 3)) rfl dX6_rule_58 ?_
        refine g_callV0 (pc := 61) (ci := 2) (As := [.ref (gw_ad w 3)]) (st2 := []) hX 15 (by omega) ((hf47 15 (by decide) (Or.inl (by decide))).trans ek_8) rfl (c_X2_addRule (ρ := ρ1) (T := T1) (by omega) (by omega) (by omega) ((hf47 15 (by decide) (Or.inl (by decide))).trans ek_8) ((hf47 16 (by decide) (Or.inl (by decide))).trans ek_9) ((hf47 17 (by decide) (Or.inl (by decide))).trans ek_10) (by omega) (by omega) ((hf47 3 (by decide) (Or.inl (by decide))).trans k3) ((hf47 4 (by decide) (Or.inl (by decide))).trans k4) (by decide) hr1.1 (by omega) (by decide) (by decide) (by decide) (by decide) (by decide) (by decide) (by decide)) gX6_rule_X2_addRule (n := 1) (hw := rfl) (hrc := rfl) (hrs := rfl) (hd := by decide +kernel) (hR := ⟨Nat.le_of_ble_eq_true rfl, Nat.le_of_ble_eq_true rfl⟩) (hn := rfl) (hst := rfl) (hsum := Nat.le_of_ble_eq_true rfl) (hdg := dX6_rule_61) ?_
        rintro _ rfl
        refine g_at (pc2 := 64) rfl rfl (st2 := []) rfl (S2 := (va_up (va_up S47 16 (.inr (5, [vI (8), vI (63), .ref (gw_ad w 17), vI (nR + 1)]))) 17 (AI w 504 (fl 63 (adR nR (ρ1, T1) R (ρ1 0)))))) rfl ?_
        refine g_aload_n (pc := 64) hX 1 rfl dX6_rule_64 ?_
        refine g_iconst (pc := 65) hX dX6_rule_65 ?_
        refine g_put (pc := 66) hX (ci := 6) (fun _ h => List.mem_cons_of_mem _ (List.mem_append_left _ (List.mem_append_left _ (List.mem_append_left _ (List.mem_append_left _ (List.mem_append_left _ (List.mem_append_left _ (List.mem_append_right _ h)))))))) rfl tyX6 tyX6_ok nmX6 0 (by omega) (up_ne (by decide) (up_ne (by decide) g47)) 5 (by decide) (List.mem_of_getElem? (i := 1) rfl) rfl rfl (tyX6_ok 5 (by decide)) rfl (fit_int _) (Nat.le_of_ble_eq_true rfl) dX6_rule_66 ?_
        refine g_at rfl rfl rfl (S2 := (va_up (va_up (va_up S47 16 (.inr (5, [vI (8), vI (63), .ref (gw_ad w 17), vI (nR + 1)]))) 17 (AI w 504 (fl 63 (adR nR (ρ1, T1) R (ρ1 0))))) 0 (.inr (6, [.ref (gw_ad w 7), .ref (gw_ad w 1), vI (((pcN pc : Nat) : Int)), vI (((jN j : Nat) : Int)), .ref (gw_ad w 2), vI (0), .ref (gw_ad w 3), .ref (gw_ad w 5)])))) rfl ?_
        refine g_aload_n (pc := 69) hX 1 rfl dX6_rule_69 ?_
        refine g_get (pc := 70) hX (ci := 6) (fun _ h => List.mem_cons_of_mem _ (List.mem_append_left _ (List.mem_append_left _ (List.mem_append_left _ (List.mem_append_left _ (List.mem_append_left _ (List.mem_append_left _ (List.mem_append_right _ h)))))))) rfl 0 (by omega) (up_eq _ _ _) 0 (by decide) (List.mem_of_getElem? (i := 3) rfl) rfl (v := .ref (gw_ad w 7)) rfl dX6_rule_70 ?_
        refine g_get (pc := 73) hX (ci := 4) (fun _ h => List.mem_cons_of_mem _ (List.mem_append_left _ (List.mem_append_left _ (List.mem_append_left _ (List.mem_append_left _ (List.mem_append_left _ (List.mem_append_right _ h))))))) rfl 7 (by omega) (up_ne (by decide) (up_ne (by decide) (up_ne (by decide) ((hf47 7 (by decide) (Or.inl (by decide))).trans ek_0)))) 2 (by decide) (List.mem_of_getElem? (i := 4) rfl) rfl (v := .ref (gw_ad w 15)) rfl dX6_rule_73 ?_
        refine g_callV1 (pc := 76) (ci := 2) (As := []) (st2 := []) hX 15 (by omega) (up_ne (by decide) (up_ne (by decide) (up_ne (by decide) ((hf47 15 (by decide) (Or.inl (by decide))).trans ek_8)))) rfl (c_X2_count (by omega) (by omega) (by omega) (up_ne (by decide) (up_ne (by decide) (up_ne (by decide) ((hf47 15 (by decide) (Or.inl (by decide))).trans ek_8)))) (up_ne (by decide) (up_ne (by decide) (up_eq _ _ _))) (up_ne (by decide) (up_eq _ _ _))) gX6_rule_X2_count (n := 0) (hw := rfl) (hrc := rfl) (hrs := rfl) (hd := by decide +kernel) (hR := ⟨Nat.le_of_ble_eq_true rfl, Nat.le_of_ble_eq_true rfl⟩) (hn := rfl) (hst := rfl) (hsum := Nat.le_of_ble_eq_true rfl) (hdg := dX6_rule_76) ?_
        rintro _ S9 ⟨rfl, e9⟩
        rw [e9]
        clear e9 S9
        refine g_at (pc2 := 79) rfl rfl (st2 := [vI (nR + 1)]) rfl (S2 := (va_up (va_up (va_up S47 16 (.inr (5, [vI (8), vI (63), .ref (gw_ad w 17), vI (nR + 1)]))) 17 (AI w 504 (fl 63 (adR nR (ρ1, T1) R (ρ1 0))))) 0 (.inr (6, [.ref (gw_ad w 7), .ref (gw_ad w 1), vI (((pcN pc : Nat) : Int)), vI (((jN j : Nat) : Int)), .ref (gw_ad w 2), vI (0), .ref (gw_ad w 3), .ref (gw_ad w 5)])))) rfl ?_
        refine g_iret (pc := 79) hX hR dX6_rule_79 ?_
        try simp only [decide_eq_true_eq, decide_eq_false_iff_not] at c_10 c_20 c_40
        rw [er]
        exact (if_pos ((show sp = ty ∧ ρ1 4 = 5 ∧ 0 < ρ1 3 by omega))).mpr ((if_pos (show nR < 8 by omega)).mpr (⟨rfl, ⟨⟨⟨(up_eq _ _ _), (up_ne (by decide) (up_ne (by decide) (up_ne (by decide) ((hf47 1 (by decide) (Or.inl (by decide))).trans k1)))), (up_ne (by decide) (up_ne (by decide) (up_ne (by decide) ((hf47 2 (by decide) (Or.inl (by decide))).trans k2)))), (up_ne (by decide) (up_ne (by decide) (up_ne (by decide) ((hf47 3 (by decide) (Or.inl (by decide))).trans k3)))), (up_ne (by decide) (up_ne (by decide) (up_ne (by decide) ((hf47 4 (by decide) (Or.inl (by decide))).trans k4)))), (up_ne (by decide) (up_ne (by decide) (up_ne (by decide) ((hf47 5 (by decide) (Or.inl (by decide))).trans k5)))), (up_ne (by decide) (up_ne (by decide) (up_ne (by decide) ((hf47 6 (by decide) (Or.inl (by decide))).trans k6))))⟩, ⟨⟨⟨(up_ne (by decide) (up_ne (by decide) (up_ne (by decide) ((hf47 7 (by decide) (Or.inl (by decide))).trans ek_0)))), (up_ne (by decide) (up_ne (by decide) (up_ne (by decide) ((hf47 8 (by decide) (Or.inl (by decide))).trans ek_1)))), (up_ne (by decide) (up_ne (by decide) (up_ne (by decide) ((hf47 9 (by decide) (Or.inl (by decide))).trans ek_2))))⟩, ⟨(up_ne (by decide) (up_ne (by decide) (up_ne (by decide) ((hf47 10 (by decide) (Or.inl (by decide))).trans ek_3)))), (up_ne (by decide) (up_ne (by decide) (up_ne (by decide) ((hf47 11 (by decide) (Or.inl (by decide))).trans ek_4)))), (up_ne (by decide) (up_ne (by decide) (up_ne (by decide) ((hf47 12 (by decide) (Or.inl (by decide))).trans ek_5)))), (up_ne (by decide) (up_ne (by decide) (up_ne (by decide) ((hf47 13 (by decide) (Or.inl (by decide))).trans ek_6)))), (up_ne (by decide) (up_ne (by decide) (up_ne (by decide) ((hf47 14 (by decide) (Or.inl (by decide))).trans ek_7))))⟩, ⟨(up_ne (by decide) (up_ne (by decide) (up_ne (by decide) ((hf47 15 (by decide) (Or.inl (by decide))).trans ek_8)))), (up_ne (by decide) (up_ne (by decide) (up_eq _ _ _))), (up_ne (by decide) (up_eq _ _ _))⟩⟩, ⟨⟨(up_ne (by decide) (up_ne (by decide) (up_ne (by decide) ((hf47 18 (by decide) (Or.inl (by decide))).trans ek_11)))), (up_ne (by decide) (up_ne (by decide) (up_ne (by decide) ((hf47 19 (by decide) (Or.inl (by decide))).trans ek_12))))⟩, ⟨(up_ne (by decide) (up_ne (by decide) (up_ne (by decide) ((hf47 20 (by decide) (Or.inl (by decide))).trans ek_13)))), (up_ne (by decide) (up_ne (by decide) (up_ne (by decide) ((hf47 21 (by decide) (Or.inl (by decide))).trans ek_14))))⟩, ⟨(up_ne (by decide) (up_ne (by decide) (up_ne (by decide) ((hf47 22 (by decide) (Or.inl (by decide))).trans ek_15)))), (up_ne (by decide) (up_ne (by decide) (up_ne (by decide) ((hf47 23 (by decide) (Or.inl (by decide))).trans ek_16))))⟩⟩⟩, pastAt_frame (fun q hq => (up_ne (by omega) (up_ne (by omega) (up_ne (by omega) rfl)))) hp47⟩, fun q hq => (up_ne (by omega) (up_ne (by omega) (up_ne (by omega) ((hf47 q (by omega) (by omega)).trans ((hP4.2 q (by omega)).trans rfl)))))⟩⟩))
      · skip
        refine g_ldc (pc := 43) hX (z := -1000003) (List.mem_of_getElem? (i := 5) rfl) (by decide +kernel) dX6_rule_43 ?_
        refine g_iret (pc := 45) hX hR dX6_rule_45 ?_
        try simp only [decide_eq_true_eq, decide_eq_false_iff_not] at c_10 c_20 c_40
        rw [er]
        exact (if_pos ((show sp = ty ∧ ρ1 4 = 5 ∧ 0 < ρ1 3 by omega))).mpr ((if_neg (show ¬ nR < 8 by omega)).mpr (⟨rfl, hP4⟩))
    · skip
      refine g_bipush (pc := 23) hX (by decide) dX6_rule_23 ?_
      refine g_iload_n (pc := 25) hX 0 rfl dX6_rule_25 ?_
      refine g_isub (pc := 26) hX dX6_rule_26 ?_
      refine g_iret (pc := 27) hX hR dX6_rule_27 ?_
      try simp only [decide_eq_true_eq, decide_eq_false_iff_not] at c_10 c_20
      rw [er]
      exact (if_neg (show ¬ (sp = ty ∧ ρ1 4 = 5 ∧ 0 < ρ1 3) by omega)).mpr (⟨rfl, hP4⟩)

set_option maxHeartbeats 4000000 in
set_option maxRecDepth 100000 in
theorem c_X6_printBands {w : gW} {l : Launch} {S : Nat → va_E} {pc j : Nat} {ty : Int} {B ρ T : Int → Int} {Tr : Int → Int → Int} {D : SD} {Z : Nat → SD} (hN : gw_N w = 92) (hd : deskAt w pc j ty B ρ T Tr D Z S) (hO : deskOK ty B ρ Tr D) {h : Int} :
    GM1 w l yX6_printBands wsX6_printBands { frames := 3, cells := 0, slots := 0, locals := 68 } [.ref (gw_ad w 0), vL (h)] S
      (fun v S' => v = vL (fbO D h 4) ∧ S' = S) := by
  refine GM.start (own := RX6) (n := "printBands") (d := "(J)J") (by decide) rfl (Nat.le_of_ble_eq_true rfl) ?_
  intro X hX hR hXl
  subst hXl
  refine g_at rfl (lv2 := [(0, .ref (gw_ad w 0)), (1, vL (h))]) rfl rfl rfl ?_
  obtain ⟨⟨d0, d1, d2, d3, d4, d5, d6⟩, ⟨hS0, hB0⟩, hpa⟩ := id hd
  obtain ⟨F, g, C, E, L, Q, nR, R, nP, P0, nN, N, nK, K⟩ := D
  obtain ⟨⟨e0, e1, e2⟩, ⟨e3, e4, e5, e6, e7⟩, ⟨e8, e9, e10⟩⟩ := (id hS0)
  obtain ⟨⟨e11, e12⟩, ⟨e13, e14⟩, ⟨e15, e16⟩⟩ := (id hB0)
  change S 7 = .inr (4, [.ref (gw_ad w 8), .ref (gw_ad w 10), .ref (gw_ad w 15), .ref (gw_ad w 18), .ref (gw_ad w 20), .ref (gw_ad w 22)]) at e0
  change S 8 = .inr (3, [.ref (gw_ad w 9), vI (g 0), vI (g 1), vI (g 2), vI (g 3), vI (g 4), vI (g 5), vI (g 6), vI (g 7), vI (g 8), vI (g 9)]) at e1
  change S 9 = AI w 8 (F) at e2
  change S 10 = .inr (0, [.ref (gw_ad w 11), .ref (gw_ad w 12), .ref (gw_ad w 13), .ref (gw_ad w 14)]) at e3
  change S 11 = AI w 4 (C) at e4
  change S 12 = AI w 24 ((fl 6 L)) at e5
  change S 13 = AI w 24 ((fl 6 Q)) at e6
  change S 14 = AI w 4 (E) at e7
  change S 15 = .inr (2, [.ref (gw_ad w 16)]) at e8
  change S 16 = .inr (5, [vI (8), vI (63), .ref (gw_ad w 17), vI (nR)]) at e9
  change S 17 = AI w 504 (fl 63 R) at e10
  change S 18 = .inr (5, [vI (30), vI (22), .ref (gw_ad w 19), vI (nP)]) at e11
  change S 19 = AI w 660 (fl 22 P0) at e12
  change S 20 = .inr (5, [vI (20), vI (6), .ref (gw_ad w 21), vI (nN)]) at e13
  change S 21 = AI w 120 (fl 6 N) at e14
  change S 22 = .inr (5, [vI (20), vI (22), .ref (gw_ad w 23), vI (nK)]) at e15
  change S 23 = AI w 440 (fl 22 K) at e16
  obtain ⟨hD, hty, hBr, hBi, hrd, hTi⟩ := id hO
  obtain ⟨⟨⟨hF, hg⟩, hB, hU, hRR⟩, ⟨hnP, hPi, hPr⟩, ⟨hnN, hNi, hNr⟩, ⟨hnK, hKi, hKr⟩, hg3⟩ := id hD
  change scF F at hF
  change scG g at hg
  change bdOK C E L Q at hB
  change ruOK nR R at hU
  change ∀ i j, inI (R i j) at hRR
  change 0 ≤ nP ∧ nP ≤ 30 at hnP
  change ∀ i j, inI (P0 i j) at hPi
  change ∀ p, 0 ≤ p → p < nP → rowOK P0 p at hPr
  change 0 ≤ nN ∧ nN ≤ 20 at hnN
  change ∀ i j, inI (N i j) at hNi
  change nK = nN at hnK
  change ∀ i j, inI (K i j) at hKi
  change ∀ n, 0 ≤ n → n < nN → rowOK K n at hKr
  have hnRb : 0 ≤ nR ∧ nR ≤ 8 := hU.1
  refine g_lload_n (pc := 0) hX 1 rfl dX6_printBands_0 ?_
  refine g_lstore_n (pc := 1) hX (lv2 := [(3, vL (h)), (0, .ref (gw_ad w 0)), (1, vL (h))]) rfl (by decide) rfl dX6_printBands_1 ?_
  refine g_iconst (pc := 2) hX dX6_printBands_2 ?_
  refine g_istore (pc := 3) hX (lv2 := [(5, vI (0)), (3, vL (h)), (0, .ref (gw_ad w 0)), (1, vL (h))]) (by decide) rfl dX6_printBands_3 ?_
  have lo : ∀ (n0 : Nat) (c : Int), 0 ≤ c → c ≤ 4 → 4 - c < n0 → G w { frames := 3, cells := 0, slots := 0, locals := 68 } X 8 5 [(5, vI (c)), (0, .ref (gw_ad w 0)), (1, vL (h)), (3, vL (fbO (F, g, C, E, L, Q, nR, R, nP, P0, nN, N, nK, K) h (c : Int).toNat))] [] S := by
    intro n0
    induction n0 with
    | zero => intro c  h1c h2c h3c; exact absurd h3c (by omega)
    | succ n0 ihlo =>
      intro c  h1c h2c h3c 
      have hc : inI c := inI_mk (by omega) (by omega)
      refine g_iload (pc := 5) hX 0 rfl dX6_printBands_5 ?_
      refine g_iconst (pc := 7) hX dX6_printBands_7 ?_
      refine g_icmp_ge (pc := 8) (tgt := 111) hX (by first | assumption | exact inI_mk (by omega) (by omega)) (by first | assumption | exact inI_mk (by omega) (by omega)) dX6_printBands_8 (by decide) (fun c_8 => ?_) (fun c_8 => ?_)
      · skip
        refine g_lload_n (pc := 111) hX 3 rfl dX6_printBands_111 ?_
        refine g_lret (pc := 112) hX hR dX6_printBands_112 ?_
        rw [show c = 4 by omega]
        exact ⟨rfl, rfl⟩
      · skip
        refine g_aload_n (pc := 11) hX 1 rfl dX6_printBands_11 ?_
        have hCz := hB.1 c h1c (by omega)
        refine g_get (pc := 12) hX (ci := 6) (fun _ h => List.mem_cons_of_mem _ (List.mem_append_left _ (List.mem_append_left _ (List.mem_append_right _ h)))) rfl 0 (by omega) d0 0 (by decide) (List.mem_of_getElem? (i := 1) rfl) rfl (v := .ref (gw_ad w 7)) rfl dX6_printBands_12 ?_
        refine g_get (pc := 15) hX (ci := 4) (fun _ h => List.mem_cons_of_mem _ (List.mem_append_left _ (List.mem_append_right _ h))) rfl 7 (by omega) e0 1 (by decide) (List.mem_of_getElem? (i := 2) rfl) rfl (v := .ref (gw_ad w 10)) rfl dX6_printBands_15 ?_
        refine g_iload (pc := 18) hX 0 rfl dX6_printBands_18 ?_
        refine g_callV1 (pc := 20) (ci := 0) (As := [vI (c)]) (st2 := []) hX 10 (by omega) e3 rfl (c_X0_bandsOf (by omega) (by omega) (by omega) (by omega) (by omega) e3 e4 e5 e6 e7 (z := c) (by omega) (by omega)) gX6_printBands_X0_bandsOf (n := 1) (hw := rfl) (hrc := rfl) (hrs := rfl) (hd := by decide +kernel) (hR := ⟨Nat.le_of_ble_eq_true rfl, Nat.le_of_ble_eq_true rfl⟩) (hn := rfl) (hst := rfl) (hsum := Nat.le_of_ble_eq_true rfl) (hdg := dX6_printBands_20) ?_
        rintro _ S9 ⟨rfl, e9⟩
        rw [e9]
        clear e9 S9
        refine g_at (pc2 := 23) rfl rfl (st2 := [vI (C c)]) rfl (S2 := S) rfl ?_
        refine g_istore (pc := 23) hX (lv2 := [(6, vI (C c)), (5, vI (c)), (0, .ref (gw_ad w 0)), (1, vL (h)), (3, vL (fbO (F, g, C, E, L, Q, nR, R, nP, P0, nN, N, nK, K) h (c : Int).toNat))]) (by decide) rfl dX6_printBands_23 ?_
        refine g_ldc2 (pc := 25) hX (z := 31) (List.mem_of_getElem? (i := 3) rfl) (by decide +kernel) dX6_printBands_25 ?_
        refine g_lload_n (pc := 28) hX 4 rfl dX6_printBands_28 ?_
        refine g_lmul (pc := 29) hX dX6_printBands_29 ?_
        refine g_iload (pc := 30) hX 0 rfl dX6_printBands_30 ?_
        refine g_i2l (pc := 32) hX (by first | assumption | exact inI_mk (by omega) (by omega)) dX6_printBands_32 ?_
        refine g_ladd (pc := 33) hX dX6_printBands_33 ?_
        refine g_lstore_n (pc := 34) hX (lv2 := [(3, vL ((31 * (fbO (F, g, C, E, L, Q, nR, R, nP, P0, nN, N, nK, K) h (c : Int).toNat)) + (C c))), (6, vI (C c)), (5, vI (c)), (0, .ref (gw_ad w 0)), (1, vL (h))]) rfl (by decide) rfl dX6_printBands_34 ?_
        refine g_iconst (pc := 35) hX dX6_printBands_35 ?_
        refine g_istore (pc := 36) hX (lv2 := [(7, vI (0)), (3, vL ((31 * (fbO (F, g, C, E, L, Q, nR, R, nP, P0, nN, N, nK, K) h (c : Int).toNat)) + (C c))), (6, vI (C c)), (5, vI (c)), (0, .ref (gw_ad w 0)), (1, vL (h))]) (by decide) rfl dX6_printBands_36 ?_
        have li : ∀ (n0 : Nat) (i : Int), 0 ≤ i → i ≤ C c → C c - i < n0 → G w { frames := 3, cells := 0, slots := 0, locals := 68 } X 8 38 [(7, vI (i)), (0, .ref (gw_ad w 0)), (1, vL (h)), (3, vL (fbI (F, g, C, E, L, Q, nR, R, nP, P0, nN, N, nK, K) c (31 * (fbO (F, g, C, E, L, Q, nR, R, nP, P0, nN, N, nK, K) h (c : Int).toNat) + C c) (i : Int).toNat)), (5, vI (c)), (6, vI (C c))] [] S := by
          intro n0
          induction n0 with
          | zero => intro i  h1i h2i h3i; exact absurd h3i (by omega)
          | succ n0 ihli =>
            intro i  h1i h2i h3i 
            have hi : inI i := inI_mk (by omega) (by omega)
            refine g_iload (pc := 38) hX 0 rfl dX6_printBands_38 ?_
            refine g_iload (pc := 40) hX 5 rfl dX6_printBands_40 ?_
            refine g_icmp_ge (pc := 42) (tgt := 85) hX (by first | assumption | exact inI_mk (by omega) (by omega)) (by first | assumption | exact inI_mk (by omega) (by omega)) dX6_printBands_42 (by decide) (fun c_42 => ?_) (fun c_42 => ?_)
            · skip
              refine g_ldc2 (pc := 85) hX (z := 31) (List.mem_of_getElem? (i := 3) rfl) (by decide +kernel) dX6_printBands_85 ?_
              refine g_lload_n (pc := 88) hX 3 rfl dX6_printBands_88 ?_
              refine g_lmul (pc := 89) hX dX6_printBands_89 ?_
              refine g_aload_n (pc := 90) hX 1 rfl dX6_printBands_90 ?_
              refine g_get (pc := 91) hX (ci := 6) (fun _ h => List.mem_cons_of_mem _ (List.mem_append_left _ (List.mem_append_left _ (List.mem_append_right _ h)))) rfl 0 (by omega) d0 0 (by decide) (List.mem_of_getElem? (i := 1) rfl) rfl (v := .ref (gw_ad w 7)) rfl dX6_printBands_91 ?_
              refine g_get (pc := 94) hX (ci := 4) (fun _ h => List.mem_cons_of_mem _ (List.mem_append_left _ (List.mem_append_right _ h))) rfl 7 (by omega) e0 1 (by decide) (List.mem_of_getElem? (i := 2) rfl) rfl (v := .ref (gw_ad w 10)) rfl dX6_printBands_94 ?_
              refine g_iload (pc := 97) hX 4 rfl dX6_printBands_97 ?_
              refine g_callV1 (pc := 99) (ci := 0) (As := [vI (c)]) (st2 := [vL (31 * (fbI (F, g, C, E, L, Q, nR, R, nP, P0, nN, N, nK, K) c (31 * (fbO (F, g, C, E, L, Q, nR, R, nP, P0, nN, N, nK, K) h (c : Int).toNat) + C c) (i : Int).toNat))]) hX 10 (by omega) e3 rfl (c_X0_extraOf (by omega) (by omega) (by omega) (by omega) (by omega) e3 e4 e5 e6 e7 (z := c) (by omega) (by omega)) gX6_printBands_X0_extraOf (n := 1) (hw := rfl) (hrc := rfl) (hrs := rfl) (hd := by decide +kernel) (hR := ⟨Nat.le_of_ble_eq_true rfl, Nat.le_of_ble_eq_true rfl⟩) (hn := rfl) (hst := rfl) (hsum := Nat.le_of_ble_eq_true rfl) (hdg := dX6_printBands_99) ?_
              rintro _ S9 ⟨rfl, e9⟩
              rw [e9]
              clear e9 S9
              refine g_at (pc2 := 102) rfl rfl (st2 := [vI (E c), vL (31 * (fbI (F, g, C, E, L, Q, nR, R, nP, P0, nN, N, nK, K) c (31 * (fbO (F, g, C, E, L, Q, nR, R, nP, P0, nN, N, nK, K) h (c : Int).toNat) + C c) (i : Int).toNat))]) rfl (S2 := S) rfl ?_
              refine g_i2l (pc := 102) hX (by have := (hB.2.2.2 c h1c (by omega)).1; exact inI_mk (by omega) (by omega)) dX6_printBands_102 ?_
              refine g_ladd (pc := 103) hX dX6_printBands_103 ?_
              refine g_lstore_n (pc := 104) hX (lv2 := [(3, vL ((31 * (fbI (F, g, C, E, L, Q, nR, R, nP, P0, nN, N, nK, K) c (31 * (fbO (F, g, C, E, L, Q, nR, R, nP, P0, nN, N, nK, K) h (c : Int).toNat) + C c) (i : Int).toNat)) + (E c))), (7, vI (i)), (0, .ref (gw_ad w 0)), (1, vL (h)), (5, vI (c)), (6, vI (C c))]) rfl (by decide) rfl dX6_printBands_104 ?_
              refine g_iinc (pc := 105) hX (lv2 := [(5, vI (c + 1)), (3, vL ((31 * (fbI (F, g, C, E, L, Q, nR, R, nP, P0, nN, N, nK, K) c (31 * (fbO (F, g, C, E, L, Q, nR, R, nP, P0, nN, N, nK, K) h (c : Int).toNat) + C c) (i : Int).toNat)) + (E c))), (7, vI (i)), (0, .ref (gw_ad w 0)), (1, vL (h)), (6, vI (C c))]) 4 rfl (by decide) rfl dX6_printBands_105 ?_
              refine g_goto (pc := 108) (tgt := 5) hX dX6_printBands_108 (by decide) ?_
              refine g_sub (lv2 := [(5, vI (c + 1)), (0, .ref (gw_ad w 0)), (1, vL (h)), (3, vL ((31 * (fbI (F, g, C, E, L, Q, nR, R, nP, P0, nN, N, nK, K) c (31 * (fbO (F, g, C, E, L, Q, nR, R, nP, P0, nN, N, nK, K) h (c : Int).toNat) + C c) (i : Int).toNat)) + (E c)))]) [0, 3, 4, 1] rfl ?_
              refine g_at rfl (lv2 := [(5, vI (c + 1)), (0, .ref (gw_ad w 0)), (1, vL (h)), (3, vL (fbO (F, g, C, E, L, Q, nR, R, nP, P0, nN, N, nK, K) h (c + 1 : Int).toNat))]) (by rw [fbO_s _ _ h1c, show i = C c by omega]) rfl (S2 := S) (rfl) ?_
              exact ihlo (c + 1)  (by omega) (by omega) (by omega) 
            · skip
              refine g_ldc2 (pc := 45) hX (z := 31) (List.mem_of_getElem? (i := 3) rfl) (by decide +kernel) dX6_printBands_45 ?_
              refine g_lload_n (pc := 48) hX 3 rfl dX6_printBands_48 ?_
              refine g_lmul (pc := 49) hX dX6_printBands_49 ?_
              refine g_aload_n (pc := 50) hX 1 rfl dX6_printBands_50 ?_
              refine g_iload (pc := 51) hX 4 rfl dX6_printBands_51 ?_
              refine g_iload (pc := 53) hX 0 rfl dX6_printBands_53 ?_
              refine g_iconst (pc := 55) hX dX6_printBands_55 ?_
              refine g_callV1 (pc := 56) (ci := 6) (As := [vI (c), vI (i), vI (0)]) (st2 := [vL (31 * (fbI (F, g, C, E, L, Q, nR, R, nP, P0, nN, N, nK, K) c (31 * (fbO (F, g, C, E, L, Q, nR, R, nP, P0, nN, N, nK, K) h (c : Int).toNat) + C c) (i : Int).toNat))]) hX 0 (by omega) d0 rfl (c_X6_bandAt (z := c) (i := i) (x := 0) hN hd hO (by first | assumption | exact inI_mk (by omega) (by omega)) (by first | assumption | exact inI_mk (by omega) (by omega)) (by first | assumption | exact inI_mk (by omega) (by omega))) gX6_printBands_X6_bandAt (n := 3) (hw := rfl) (hrc := rfl) (hrs := rfl) (hd := by decide +kernel) (hR := ⟨Nat.le_of_ble_eq_true rfl, Nat.le_of_ble_eq_true rfl⟩) (hn := rfl) (hst := rfl) (hsum := Nat.le_of_ble_eq_true rfl) (hdg := dX6_printBands_56) ?_
              rintro _ S9 ⟨rfl, e9⟩
              rw [e9]
              clear e9 S9
              rw [if_pos (show (0 ≤ c ∧ c < 4 ∧ 0 ≤ i ∧ i < sC (F, g, C, E, L, Q, nR, R, nP, P0, nN, N, nK, K) c) ∧ 0 ≤ (0 : Int) ∧ (0 : Int) ≤ 1 from ⟨⟨by omega, by omega, by omega, by show i < C c; omega⟩, by omega⟩), if_pos rfl]
              refine g_at (pc2 := 59) rfl rfl (st2 := [vI (L c i), vL (31 * (fbI (F, g, C, E, L, Q, nR, R, nP, P0, nN, N, nK, K) c (31 * (fbO (F, g, C, E, L, Q, nR, R, nP, P0, nN, N, nK, K) h (c : Int).toNat) + C c) (i : Int).toNat))]) rfl (S2 := S) rfl ?_
              refine g_i2l (pc := 59) hX (hB.2.1 c i) dX6_printBands_59 ?_
              refine g_ladd (pc := 60) hX dX6_printBands_60 ?_
              refine g_lstore_n (pc := 61) hX (lv2 := [(3, vL ((31 * (fbI (F, g, C, E, L, Q, nR, R, nP, P0, nN, N, nK, K) c (31 * (fbO (F, g, C, E, L, Q, nR, R, nP, P0, nN, N, nK, K) h (c : Int).toNat) + C c) (i : Int).toNat)) + (L c i))), (7, vI (i)), (0, .ref (gw_ad w 0)), (1, vL (h)), (5, vI (c)), (6, vI (C c))]) rfl (by decide) rfl dX6_printBands_61 ?_
              refine g_ldc2 (pc := 62) hX (z := 31) (List.mem_of_getElem? (i := 3) rfl) (by decide +kernel) dX6_printBands_62 ?_
              refine g_lload_n (pc := 65) hX 0 rfl dX6_printBands_65 ?_
              refine g_lmul (pc := 66) hX dX6_printBands_66 ?_
              refine g_aload_n (pc := 67) hX 2 rfl dX6_printBands_67 ?_
              refine g_iload (pc := 68) hX 4 rfl dX6_printBands_68 ?_
              refine g_iload (pc := 70) hX 1 rfl dX6_printBands_70 ?_
              refine g_iconst (pc := 72) hX dX6_printBands_72 ?_
              refine g_callV1 (pc := 73) (ci := 6) (As := [vI (c), vI (i), vI (1)]) (st2 := [vL (31 * ((31 * (fbI (F, g, C, E, L, Q, nR, R, nP, P0, nN, N, nK, K) c (31 * (fbO (F, g, C, E, L, Q, nR, R, nP, P0, nN, N, nK, K) h (c : Int).toNat) + C c) (i : Int).toNat)) + (L c i)))]) hX 0 (by omega) d0 rfl (c_X6_bandAt (z := c) (i := i) (x := 1) hN hd hO (by first | assumption | exact inI_mk (by omega) (by omega)) (by first | assumption | exact inI_mk (by omega) (by omega)) (by first | assumption | exact inI_mk (by omega) (by omega))) gX6_printBands_X6_bandAt (n := 3) (hw := rfl) (hrc := rfl) (hrs := rfl) (hd := by decide +kernel) (hR := ⟨Nat.le_of_ble_eq_true rfl, Nat.le_of_ble_eq_true rfl⟩) (hn := rfl) (hst := rfl) (hsum := Nat.le_of_ble_eq_true rfl) (hdg := dX6_printBands_73) ?_
              rintro _ S9 ⟨rfl, e9⟩
              rw [e9]
              clear e9 S9
              rw [if_pos (show (0 ≤ c ∧ c < 4 ∧ 0 ≤ i ∧ i < sC (F, g, C, E, L, Q, nR, R, nP, P0, nN, N, nK, K) c) ∧ 0 ≤ (1 : Int) ∧ (1 : Int) ≤ 1 from ⟨⟨by omega, by omega, by omega, by show i < C c; omega⟩, by omega⟩), if_neg (by decide)]
              refine g_at (pc2 := 76) rfl rfl (st2 := [vI (Q c i), vL (31 * ((31 * (fbI (F, g, C, E, L, Q, nR, R, nP, P0, nN, N, nK, K) c (31 * (fbO (F, g, C, E, L, Q, nR, R, nP, P0, nN, N, nK, K) h (c : Int).toNat) + C c) (i : Int).toNat)) + (L c i)))]) rfl (S2 := S) rfl ?_
              refine g_i2l (pc := 76) hX (hB.2.2.1 c i) dX6_printBands_76 ?_
              refine g_ladd (pc := 77) hX dX6_printBands_77 ?_
              refine g_lstore_n (pc := 78) hX (lv2 := [(3, vL ((31 * ((31 * (fbI (F, g, C, E, L, Q, nR, R, nP, P0, nN, N, nK, K) c (31 * (fbO (F, g, C, E, L, Q, nR, R, nP, P0, nN, N, nK, K) h (c : Int).toNat) + C c) (i : Int).toNat)) + (L c i))) + (Q c i))), (7, vI (i)), (0, .ref (gw_ad w 0)), (1, vL (h)), (5, vI (c)), (6, vI (C c))]) rfl (by decide) rfl dX6_printBands_78 ?_
              refine g_iinc (pc := 79) hX (lv2 := [(7, vI (i + 1)), (3, vL ((31 * ((31 * (fbI (F, g, C, E, L, Q, nR, R, nP, P0, nN, N, nK, K) c (31 * (fbO (F, g, C, E, L, Q, nR, R, nP, P0, nN, N, nK, K) h (c : Int).toNat) + C c) (i : Int).toNat)) + (L c i))) + (Q c i))), (0, .ref (gw_ad w 0)), (1, vL (h)), (5, vI (c)), (6, vI (C c))]) 1 rfl (by decide) rfl dX6_printBands_79 ?_
              refine g_goto (pc := 82) (tgt := 38) hX dX6_printBands_82 (by decide) ?_
              refine g_sub (lv2 := [(7, vI (i + 1)), (0, .ref (gw_ad w 0)), (1, vL (h)), (3, vL ((31 * ((31 * (fbI (F, g, C, E, L, Q, nR, R, nP, P0, nN, N, nK, K) c (31 * (fbO (F, g, C, E, L, Q, nR, R, nP, P0, nN, N, nK, K) h (c : Int).toNat) + C c) (i : Int).toNat)) + (L c i))) + (Q c i))), (5, vI (c)), (6, vI (C c))]) [0, 2, 3, 1, 4, 5] rfl ?_
              refine g_at rfl (lv2 := [(7, vI (i + 1)), (0, .ref (gw_ad w 0)), (1, vL (h)), (3, vL (fbI (F, g, C, E, L, Q, nR, R, nP, P0, nN, N, nK, K) c (31 * (fbO (F, g, C, E, L, Q, nR, R, nP, P0, nN, N, nK, K) h (c : Int).toNat) + C c) (i + 1 : Int).toNat)), (5, vI (c)), (6, vI (C c))]) (by rw [fbI_s _ _ _ h1i]) rfl (S2 := S) (rfl) ?_
              exact ihli (i + 1)  (by omega) (by omega) (by omega) 
        refine g_sub (lv2 := [(7, vI (0)), (0, .ref (gw_ad w 0)), (1, vL (h)), (3, vL ((31 * (fbO (F, g, C, E, L, Q, nR, R, nP, P0, nN, N, nK, K) h (c : Int).toNat)) + (C c))), (5, vI (c)), (6, vI (C c))]) [0, 4, 5, 1, 3, 2] rfl ?_
        refine g_at rfl (lv2 := [(7, vI (0)), (0, .ref (gw_ad w 0)), (1, vL (h)), (3, vL (fbI (F, g, C, E, L, Q, nR, R, nP, P0, nN, N, nK, K) c (31 * (fbO (F, g, C, E, L, Q, nR, R, nP, P0, nN, N, nK, K) h (c : Int).toNat) + C c) (0 : Int).toNat)), (5, vI (c)), (6, vI (C c))]) (rfl) rfl (S2 := S) (rfl) ?_
        exact li ((C c : Int) - 0 + 1).toNat 0  (by omega) (by omega) (by omega) 
  refine g_sub (lv2 := [(5, vI (0)), (0, .ref (gw_ad w 0)), (1, vL (h)), (3, vL (h))]) [0, 2, 3, 1] rfl ?_
  refine g_at rfl (lv2 := [(5, vI (0)), (0, .ref (gw_ad w 0)), (1, vL (h)), (3, vL (fbO (F, g, C, E, L, Q, nR, R, nP, P0, nN, N, nK, K) h (0 : Int).toNat))]) (rfl) rfl (S2 := S) (rfl) ?_
  exact lo ((4 : Int) - 0 + 1).toNat 0  (by omega) (by omega) (by omega) 

set_option maxHeartbeats 4000000 in
set_option maxRecDepth 100000 in
theorem c_X6_printParcels {w : gW} {l : Launch} {S : Nat → va_E} {pc j : Nat} {ty : Int} {B ρ T : Int → Int} {Tr : Int → Int → Int} {D : SD} {Z : Nat → SD} (hN : gw_N w = 92) (hd : deskAt w pc j ty B ρ T Tr D Z S) (hO : deskOK ty B ρ Tr D) {h : Int} :
    GM1 w l yX6_printParcels wsX6_printParcels { frames := 3, cells := 0, slots := 0, locals := 66 } [.ref (gw_ad w 0), vL (h)] S
      (fun v S' => v = vL (fpO D (31 * h + snP D) (snP D).toNat) ∧ S' = S) := by
  refine GM.start (own := RX6) (n := "printParcels") (d := "(J)J") (by decide) rfl (Nat.le_of_ble_eq_true rfl) ?_
  intro X hX hR hXl
  subst hXl
  refine g_at rfl (lv2 := [(0, .ref (gw_ad w 0)), (1, vL (h))]) rfl rfl rfl ?_
  obtain ⟨⟨d0, d1, d2, d3, d4, d5, d6⟩, ⟨hS0, hB0⟩, hpa⟩ := id hd
  obtain ⟨F, g, C, E, L, Q, nR, R, nP, P0, nN, N, nK, K⟩ := D
  obtain ⟨⟨e0, e1, e2⟩, ⟨e3, e4, e5, e6, e7⟩, ⟨e8, e9, e10⟩⟩ := (id hS0)
  obtain ⟨⟨e11, e12⟩, ⟨e13, e14⟩, ⟨e15, e16⟩⟩ := (id hB0)
  change S 7 = .inr (4, [.ref (gw_ad w 8), .ref (gw_ad w 10), .ref (gw_ad w 15), .ref (gw_ad w 18), .ref (gw_ad w 20), .ref (gw_ad w 22)]) at e0
  change S 8 = .inr (3, [.ref (gw_ad w 9), vI (g 0), vI (g 1), vI (g 2), vI (g 3), vI (g 4), vI (g 5), vI (g 6), vI (g 7), vI (g 8), vI (g 9)]) at e1
  change S 9 = AI w 8 (F) at e2
  change S 10 = .inr (0, [.ref (gw_ad w 11), .ref (gw_ad w 12), .ref (gw_ad w 13), .ref (gw_ad w 14)]) at e3
  change S 11 = AI w 4 (C) at e4
  change S 12 = AI w 24 ((fl 6 L)) at e5
  change S 13 = AI w 24 ((fl 6 Q)) at e6
  change S 14 = AI w 4 (E) at e7
  change S 15 = .inr (2, [.ref (gw_ad w 16)]) at e8
  change S 16 = .inr (5, [vI (8), vI (63), .ref (gw_ad w 17), vI (nR)]) at e9
  change S 17 = AI w 504 (fl 63 R) at e10
  change S 18 = .inr (5, [vI (30), vI (22), .ref (gw_ad w 19), vI (nP)]) at e11
  change S 19 = AI w 660 (fl 22 P0) at e12
  change S 20 = .inr (5, [vI (20), vI (6), .ref (gw_ad w 21), vI (nN)]) at e13
  change S 21 = AI w 120 (fl 6 N) at e14
  change S 22 = .inr (5, [vI (20), vI (22), .ref (gw_ad w 23), vI (nK)]) at e15
  change S 23 = AI w 440 (fl 22 K) at e16
  obtain ⟨hD, hty, hBr, hBi, hrd, hTi⟩ := id hO
  obtain ⟨⟨⟨hF, hg⟩, hB, hU, hRR⟩, ⟨hnP, hPi, hPr⟩, ⟨hnN, hNi, hNr⟩, ⟨hnK, hKi, hKr⟩, hg3⟩ := id hD
  change scF F at hF
  change scG g at hg
  change bdOK C E L Q at hB
  change ruOK nR R at hU
  change ∀ i j, inI (R i j) at hRR
  change 0 ≤ nP ∧ nP ≤ 30 at hnP
  change ∀ i j, inI (P0 i j) at hPi
  change ∀ p, 0 ≤ p → p < nP → rowOK P0 p at hPr
  change 0 ≤ nN ∧ nN ≤ 20 at hnN
  change ∀ i j, inI (N i j) at hNi
  change nK = nN at hnK
  change ∀ i j, inI (K i j) at hKi
  change ∀ n, 0 ≤ n → n < nN → rowOK K n at hKr
  have hnRb : 0 ≤ nR ∧ nR ≤ 8 := hU.1
  refine g_aload_n (pc := 0) hX 0 rfl dX6_printParcels_0 ?_
  refine g_callV1 (pc := 1) (ci := 6) (As := []) (st2 := []) hX 0 (by omega) d0 rfl (c_X6_parcels hN hd) gX6_printParcels_X6_parcels (n := 0) (hw := rfl) (hrc := rfl) (hrs := rfl) (hd := by decide +kernel) (hR := ⟨Nat.le_of_ble_eq_true rfl, Nat.le_of_ble_eq_true rfl⟩) (hn := rfl) (hst := rfl) (hsum := Nat.le_of_ble_eq_true rfl) (hdg := dX6_printParcels_1) ?_
  rintro _ S9 ⟨rfl, e9⟩
  rw [e9]
  clear e9 S9
  refine g_at (pc2 := 4) rfl rfl (st2 := [vI (nP)]) rfl (S2 := S) rfl ?_
  refine g_istore_n (pc := 4) hX (lv2 := [(3, vI (nP)), (0, .ref (gw_ad w 0)), (1, vL (h))]) rfl (by decide) rfl dX6_printParcels_4 ?_
  refine g_ldc2 (pc := 5) hX (z := 31) (List.mem_of_getElem? (i := 1) rfl) (by decide +kernel) dX6_printParcels_5 ?_
  refine g_lload_n (pc := 8) hX 2 rfl dX6_printParcels_8 ?_
  refine g_lmul (pc := 9) hX dX6_printParcels_9 ?_
  refine g_iload_n (pc := 10) hX 0 rfl dX6_printParcels_10 ?_
  refine g_i2l (pc := 11) hX (by first | assumption | exact inI_mk (by omega) (by omega)) dX6_printParcels_11 ?_
  refine g_ladd (pc := 12) hX dX6_printParcels_12 ?_
  refine g_lstore (pc := 13) hX (lv2 := [(4, vL ((31 * h) + nP)), (3, vI (nP)), (0, .ref (gw_ad w 0)), (1, vL (h))]) (by decide) rfl dX6_printParcels_13 ?_
  refine g_iconst (pc := 15) hX dX6_printParcels_15 ?_
  refine g_istore (pc := 16) hX (lv2 := [(6, vI (0)), (4, vL ((31 * h) + nP)), (3, vI (nP)), (0, .ref (gw_ad w 0)), (1, vL (h))]) (by decide) rfl dX6_printParcels_16 ?_
  have lo : ∀ (n0 : Nat) (c : Int), 0 ≤ c → c ≤ nP → nP - c < n0 → G w { frames := 3, cells := 0, slots := 0, locals := 66 } X 9 18 [(6, vI (c)), (0, .ref (gw_ad w 0)), (1, vL (h)), (3, vI (nP)), (4, vL (fpO (F, g, C, E, L, Q, nR, R, nP, P0, nN, N, nK, K) (31 * h + nP) (c : Int).toNat))] [] S := by
    intro n0
    induction n0 with
    | zero => intro c  h1c h2c h3c; exact absurd h3c (by omega)
    | succ n0 ihlo =>
      intro c  h1c h2c h3c 
      have hc : inI c := inI_mk (by omega) (by omega)
      refine g_iload (pc := 18) hX 0 rfl dX6_printParcels_18 ?_
      refine g_iload_n (pc := 20) hX 3 rfl dX6_printParcels_20 ?_
      refine g_icmp_ge (pc := 21) (tgt := 114) hX (by first | assumption | exact inI_mk (by omega) (by omega)) (by first | assumption | exact inI_mk (by omega) (by omega)) dX6_printParcels_21 (by decide) (fun c_21 => ?_) (fun c_21 => ?_)
      · skip
        refine g_lload (pc := 114) hX 4 rfl dX6_printParcels_114 ?_
        refine g_lret (pc := 116) hX hR dX6_printParcels_116 ?_
        rw [show c = nP by omega]
        exact ⟨rfl, rfl⟩
      · skip
        have hpr11 := (hPr c h1c c_21).2.2.2.2.2.2.2.2.2
        refine g_iconst (pc := 24) hX dX6_printParcels_24 ?_
        refine g_istore (pc := 25) hX (lv2 := [(7, vI (0)), (6, vI (c)), (0, .ref (gw_ad w 0)), (1, vL (h)), (3, vI (nP)), (4, vL (fpO (F, g, C, E, L, Q, nR, R, nP, P0, nN, N, nK, K) (31 * h + nP) (c : Int).toNat))]) (by decide) rfl dX6_printParcels_25 ?_
        have li : ∀ (n0 : Nat) (x : Int), 0 ≤ x → x ≤ 11 → 11 - x < n0 → G w { frames := 3, cells := 0, slots := 0, locals := 66 } X 9 27 [(7, vI (x)), (0, .ref (gw_ad w 0)), (1, vL (h)), (3, vI (nP)), (4, vL (hsN (fpT (F, g, C, E, L, Q, nR, R, nP, P0, nN, N, nK, K) c) (fpO (F, g, C, E, L, Q, nR, R, nP, P0, nN, N, nK, K) (31 * h + nP) (c : Int).toNat) (x : Int).toNat)), (6, vI (c))] [] S := by
          intro n0
          induction n0 with
          | zero => intro x  h1x h2x h3x; exact absurd h3x (by omega)
          | succ n0 ihli =>
            intro x  h1x h2x h3x 
            have hx : inI x := inI_mk (by omega) (by omega)
            refine g_iload (pc := 27) hX 0 rfl dX6_printParcels_27 ?_
            refine g_bipush (pc := 29) hX (by decide) dX6_printParcels_29 ?_
            refine g_icmp_gt (pc := 31) (tgt := 58) hX (by first | assumption | exact inI_mk (by omega) (by omega)) (by first | assumption | exact inI_mk (by omega) (by omega)) dX6_printParcels_31 (by decide) (fun c_31 => ?_) (fun c_31 => ?_)
            · skip
              refine g_aload_n (pc := 58) hX 1 rfl dX6_printParcels_58 ?_
              refine g_get (pc := 59) hX (ci := 6) (fun _ h => List.mem_cons_of_mem _ (List.mem_append_left _ (List.mem_append_left _ (List.mem_append_right _ h)))) rfl 0 (by omega) d0 0 (by decide) (List.mem_of_getElem? (i := 2) rfl) rfl (v := .ref (gw_ad w 7)) rfl dX6_printParcels_59 ?_
              refine g_get (pc := 62) hX (ci := 4) (fun _ h => List.mem_cons_of_mem _ (List.mem_append_left _ (List.mem_append_right _ h))) rfl 7 (by omega) e0 3 (by decide) (List.mem_of_getElem? (i := 3) rfl) rfl (v := .ref (gw_ad w 18)) rfl dX6_printParcels_62 ?_
              refine g_iload (pc := 65) hX 5 rfl dX6_printParcels_65 ?_
              refine g_bipush (pc := 67) hX (by decide) dX6_printParcels_67 ?_
              refine g_callV1 (pc := 69) (ci := 5) (As := [vI (c), vI (11)]) (st2 := []) hX 18 (by omega) e11 rfl (c_X5_cell (row := c) (col := 11) (by omega) (by omega) e11 e12 (by decide) (by decide) (by first | assumption | exact inI_mk (by omega) (by omega)) (by first | assumption | exact inI_mk (by omega) (by omega)) (by first | assumption | exact inI_mk (by omega) (by omega)) (by first | assumption | exact inI_mk (by omega) (by omega))) gX6_printParcels_X5_cell (n := 2) (hw := rfl) (hrc := rfl) (hrs := rfl) (hd := by decide +kernel) (hR := ⟨Nat.le_of_ble_eq_true rfl, Nat.le_of_ble_eq_true rfl⟩) (hn := rfl) (hst := rfl) (hsum := Nat.le_of_ble_eq_true rfl) (hdg := dX6_printParcels_69) ?_
              rintro _ S9 ⟨rfl, e9⟩
              rw [e9]
              clear e9 S9
              rw [tcell_in (by omega) (by omega) (by omega) (by omega)]
              refine g_at (pc2 := 72) rfl rfl (st2 := [vI (P0 c 11)]) rfl (S2 := S) rfl ?_
              refine g_istore (pc := 72) hX (lv2 := [(7, vI (P0 c 11)), (0, .ref (gw_ad w 0)), (1, vL (h)), (3, vI (nP)), (4, vL (hsN (fpT (F, g, C, E, L, Q, nR, R, nP, P0, nN, N, nK, K) c) (fpO (F, g, C, E, L, Q, nR, R, nP, P0, nN, N, nK, K) (31 * h + nP) (c : Int).toNat) (x : Int).toNat)), (6, vI (c))]) (by decide) rfl dX6_printParcels_72 ?_
              refine g_iconst (pc := 74) hX dX6_printParcels_74 ?_
              refine g_istore (pc := 75) hX (lv2 := [(8, vI (0)), (7, vI (P0 c 11)), (0, .ref (gw_ad w 0)), (1, vL (h)), (3, vI (nP)), (4, vL (hsN (fpT (F, g, C, E, L, Q, nR, R, nP, P0, nN, N, nK, K) c) (fpO (F, g, C, E, L, Q, nR, R, nP, P0, nN, N, nK, K) (31 * h + nP) (c : Int).toNat) (x : Int).toNat)), (6, vI (c))]) (by decide) rfl dX6_printParcels_75 ?_
              have lw : ∀ (n0 : Nat) (i : Int), 0 ≤ i → i ≤ P0 c 11 → P0 c 11 - i < n0 → G w { frames := 3, cells := 0, slots := 0, locals := 66 } X 9 77 [(8, vI (i)), (0, .ref (gw_ad w 0)), (1, vL (h)), (3, vI (nP)), (4, vL (hsN (fun i => P0 c (12 + i)) (hsN (fpT (F, g, C, E, L, Q, nR, R, nP, P0, nN, N, nK, K) c) (fpO (F, g, C, E, L, Q, nR, R, nP, P0, nN, N, nK, K) (31 * h + nP) (c : Int).toNat) 11) (i : Int).toNat)), (6, vI (c)), (7, vI (P0 c 11))] [] S := by
                intro n0
                induction n0 with
                | zero => intro i  h1i h2i h3i; exact absurd h3i (by omega)
                | succ n0 ihlw =>
                  intro i  h1i h2i h3i 
                  have hi : inI i := inI_mk (by omega) (by omega)
                  refine g_iload (pc := 77) hX 0 rfl dX6_printParcels_77 ?_
                  refine g_iload (pc := 79) hX 6 rfl dX6_printParcels_79 ?_
                  refine g_icmp_ge (pc := 81) (tgt := 108) hX (by first | assumption | exact inI_mk (by omega) (by omega)) (by first | assumption | exact inI_mk (by omega) (by omega)) dX6_printParcels_81 (by decide) (fun c_81 => ?_) (fun c_81 => ?_)
                  · skip
                    refine g_iinc (pc := 108) hX (lv2 := [(6, vI (c + 1)), (8, vI (i)), (0, .ref (gw_ad w 0)), (1, vL (h)), (3, vI (nP)), (4, vL (hsN (fun i => P0 c (12 + i)) (hsN (fpT (F, g, C, E, L, Q, nR, R, nP, P0, nN, N, nK, K) c) (fpO (F, g, C, E, L, Q, nR, R, nP, P0, nN, N, nK, K) (31 * h + nP) (c : Int).toNat) 11) (i : Int).toNat)), (7, vI (P0 c 11))]) 5 rfl (by decide) rfl dX6_printParcels_108 ?_
                    refine g_goto (pc := 111) (tgt := 18) hX dX6_printParcels_111 (by decide) ?_
                    refine g_sub (lv2 := [(6, vI (c + 1)), (0, .ref (gw_ad w 0)), (1, vL (h)), (3, vI (nP)), (4, vL (hsN (fun i => P0 c (12 + i)) (hsN (fpT (F, g, C, E, L, Q, nR, R, nP, P0, nN, N, nK, K) c) (fpO (F, g, C, E, L, Q, nR, R, nP, P0, nN, N, nK, K) (31 * h + nP) (c : Int).toNat) 11) (i : Int).toNat))]) [0, 2, 3, 4, 5] rfl ?_
                    refine g_at rfl (lv2 := [(6, vI (c + 1)), (0, .ref (gw_ad w 0)), (1, vL (h)), (3, vI (nP)), (4, vL (fpO (F, g, C, E, L, Q, nR, R, nP, P0, nN, N, nK, K) (31 * h + nP) (c + 1 : Int).toNat))]) (by rw [fpO_s _ _ h1c, show i = P0 c 11 by omega]) rfl (S2 := S) (rfl) ?_
                    exact ihlo (c + 1)  (by omega) (by omega) (by omega) 
                  · skip
                    refine g_ldc2 (pc := 84) hX (z := 31) (List.mem_of_getElem? (i := 1) rfl) (by decide +kernel) dX6_printParcels_84 ?_
                    refine g_lload (pc := 87) hX 4 rfl dX6_printParcels_87 ?_
                    refine g_lmul (pc := 89) hX dX6_printParcels_89 ?_
                    refine g_aload_n (pc := 90) hX 1 rfl dX6_printParcels_90 ?_
                    refine g_iload (pc := 91) hX 5 rfl dX6_printParcels_91 ?_
                    refine g_iload (pc := 93) hX 0 rfl dX6_printParcels_93 ?_
                    refine g_callV1 (pc := 95) (ci := 6) (As := [vI (c), vI (i)]) (st2 := [vL (31 * (hsN (fun i => P0 c (12 + i)) (hsN (fpT (F, g, C, E, L, Q, nR, R, nP, P0, nN, N, nK, K) c) (fpO (F, g, C, E, L, Q, nR, R, nP, P0, nN, N, nK, K) (31 * h + nP) (c : Int).toNat) 11) (i : Int).toNat))]) hX 0 (by omega) d0 rfl (c_X6_why (p := c) (i := i) hN hd hO (by first | assumption | exact inI_mk (by omega) (by omega)) (by first | assumption | exact inI_mk (by omega) (by omega))) gX6_printParcels_X6_why (n := 2) (hw := rfl) (hrc := rfl) (hrs := rfl) (hd := by decide +kernel) (hR := ⟨Nat.le_of_ble_eq_true rfl, Nat.le_of_ble_eq_true rfl⟩) (hn := rfl) (hst := rfl) (hsum := Nat.le_of_ble_eq_true rfl) (hdg := dX6_printParcels_95) ?_
                    rintro _ S9 ⟨rfl, e9⟩
                    rw [e9]
                    clear e9 S9
                    rw [if_pos (show (0 ≤ c ∧ c < snP (F, g, C, E, L, Q, nR, R, nP, P0, nN, N, nK, K)) ∧ 0 ≤ i from ⟨⟨by omega, by show c < nP; omega⟩, by omega⟩), if_pos (show i < P0 c 11 by omega)]
                    refine g_at (pc2 := 98) rfl rfl (st2 := [vI (P0 c (12 + i)), vL (31 * (hsN (fun i => P0 c (12 + i)) (hsN (fpT (F, g, C, E, L, Q, nR, R, nP, P0, nN, N, nK, K) c) (fpO (F, g, C, E, L, Q, nR, R, nP, P0, nN, N, nK, K) (31 * h + nP) (c : Int).toNat) 11) (i : Int).toNat))]) rfl (S2 := S) rfl ?_
                    refine g_i2l (pc := 98) hX (hPi c _) dX6_printParcels_98 ?_
                    refine g_ladd (pc := 99) hX dX6_printParcels_99 ?_
                    refine g_lstore (pc := 100) hX (lv2 := [(4, vL ((31 * (hsN (fun i => P0 c (12 + i)) (hsN (fpT (F, g, C, E, L, Q, nR, R, nP, P0, nN, N, nK, K) c) (fpO (F, g, C, E, L, Q, nR, R, nP, P0, nN, N, nK, K) (31 * h + nP) (c : Int).toNat) 11) (i : Int).toNat)) + (P0 c (12 + i)))), (8, vI (i)), (0, .ref (gw_ad w 0)), (1, vL (h)), (3, vI (nP)), (6, vI (c)), (7, vI (P0 c 11))]) (by decide) rfl dX6_printParcels_100 ?_
                    refine g_iinc (pc := 102) hX (lv2 := [(8, vI (i + 1)), (4, vL ((31 * (hsN (fun i => P0 c (12 + i)) (hsN (fpT (F, g, C, E, L, Q, nR, R, nP, P0, nN, N, nK, K) c) (fpO (F, g, C, E, L, Q, nR, R, nP, P0, nN, N, nK, K) (31 * h + nP) (c : Int).toNat) 11) (i : Int).toNat)) + (P0 c (12 + i)))), (0, .ref (gw_ad w 0)), (1, vL (h)), (3, vI (nP)), (6, vI (c)), (7, vI (P0 c 11))]) 1 rfl (by decide) rfl dX6_printParcels_102 ?_
                    refine g_goto (pc := 105) (tgt := 77) hX dX6_printParcels_105 (by decide) ?_
                    refine g_sub (lv2 := [(8, vI (i + 1)), (0, .ref (gw_ad w 0)), (1, vL (h)), (3, vI (nP)), (4, vL ((31 * (hsN (fun i => P0 c (12 + i)) (hsN (fpT (F, g, C, E, L, Q, nR, R, nP, P0, nN, N, nK, K) c) (fpO (F, g, C, E, L, Q, nR, R, nP, P0, nN, N, nK, K) (31 * h + nP) (c : Int).toNat) 11) (i : Int).toNat)) + (P0 c (12 + i)))), (6, vI (c)), (7, vI (P0 c 11))]) [0, 2, 3, 4, 1, 5, 6] rfl ?_
                    refine g_at rfl (lv2 := [(8, vI (i + 1)), (0, .ref (gw_ad w 0)), (1, vL (h)), (3, vI (nP)), (4, vL (hsN (fun i => P0 c (12 + i)) (hsN (fpT (F, g, C, E, L, Q, nR, R, nP, P0, nN, N, nK, K) c) (fpO (F, g, C, E, L, Q, nR, R, nP, P0, nN, N, nK, K) (31 * h + nP) (c : Int).toNat) 11) (i + 1 : Int).toNat)), (6, vI (c)), (7, vI (P0 c 11))]) (by rw [hsN_s _ _ h1i]) rfl (S2 := S) (rfl) ?_
                    exact ihlw (i + 1)  (by omega) (by omega) (by omega) 
              refine g_sub (lv2 := [(8, vI (0)), (0, .ref (gw_ad w 0)), (1, vL (h)), (3, vI (nP)), (4, vL (hsN (fpT (F, g, C, E, L, Q, nR, R, nP, P0, nN, N, nK, K) c) (fpO (F, g, C, E, L, Q, nR, R, nP, P0, nN, N, nK, K) (31 * h + nP) (c : Int).toNat) (x : Int).toNat)), (6, vI (c)), (7, vI (P0 c 11))]) [0, 2, 3, 4, 5, 6, 1] rfl ?_
              refine g_at rfl (lv2 := [(8, vI (0)), (0, .ref (gw_ad w 0)), (1, vL (h)), (3, vI (nP)), (4, vL (hsN (fun i => P0 c (12 + i)) (hsN (fpT (F, g, C, E, L, Q, nR, R, nP, P0, nN, N, nK, K) c) (fpO (F, g, C, E, L, Q, nR, R, nP, P0, nN, N, nK, K) (31 * h + nP) (c : Int).toNat) 11) (0 : Int).toNat)), (6, vI (c)), (7, vI (P0 c 11))]) (by rw [show x = 11 by omega]; rfl) rfl (S2 := S) (rfl) ?_
              exact lw ((P0 c 11 : Int) - 0 + 1).toNat 0  (by omega) (by omega) (by omega) 
            · skip
              refine g_ldc2 (pc := 34) hX (z := 31) (List.mem_of_getElem? (i := 1) rfl) (by decide +kernel) dX6_printParcels_34 ?_
              refine g_lload (pc := 37) hX 4 rfl dX6_printParcels_37 ?_
              refine g_lmul (pc := 39) hX dX6_printParcels_39 ?_
              refine g_aload_n (pc := 40) hX 1 rfl dX6_printParcels_40 ?_
              refine g_iload (pc := 41) hX 5 rfl dX6_printParcels_41 ?_
              refine g_iload (pc := 43) hX 0 rfl dX6_printParcels_43 ?_
              refine g_callV1 (pc := 45) (ci := 6) (As := [vI (c), vI (x)]) (st2 := [vL (31 * (hsN (fpT (F, g, C, E, L, Q, nR, R, nP, P0, nN, N, nK, K) c) (fpO (F, g, C, E, L, Q, nR, R, nP, P0, nN, N, nK, K) (31 * h + nP) (c : Int).toNat) (x : Int).toNat))]) hX 0 (by omega) d0 rfl (c_X6_parcel (p := c) (x := x) hN hd hO (by first | assumption | exact inI_mk (by omega) (by omega)) (by first | assumption | exact inI_mk (by omega) (by omega))) gX6_printParcels_X6_parcel (n := 2) (hw := rfl) (hrc := rfl) (hrs := rfl) (hd := by decide +kernel) (hR := ⟨Nat.le_of_ble_eq_true rfl, Nat.le_of_ble_eq_true rfl⟩) (hn := rfl) (hst := rfl) (hsum := Nat.le_of_ble_eq_true rfl) (hdg := dX6_printParcels_45) ?_
              rintro _ S9 ⟨rfl, e9⟩
              rw [e9]
              clear e9 S9
              rw [if_pos (show (0 ≤ c ∧ c < snP (F, g, C, E, L, Q, nR, R, nP, P0, nN, N, nK, K)) ∧ 0 ≤ x ∧ x ≤ 10 from ⟨⟨by omega, by show c < nP; omega⟩, by omega⟩)]
              refine g_at (pc2 := 48) rfl rfl (st2 := [vI (fpT (F, g, C, E, L, Q, nR, R, nP, P0, nN, N, nK, K) c x), vL (31 * (hsN (fpT (F, g, C, E, L, Q, nR, R, nP, P0, nN, N, nK, K) c) (fpO (F, g, C, E, L, Q, nR, R, nP, P0, nN, N, nK, K) (31 * h + nP) (c : Int).toNat) (x : Int).toNat))]) rfl (S2 := S) rfl ?_
              refine g_i2l (pc := 48) hX (fpT_in hD c x) dX6_printParcels_48 ?_
              refine g_ladd (pc := 49) hX dX6_printParcels_49 ?_
              refine g_lstore (pc := 50) hX (lv2 := [(4, vL ((31 * (hsN (fpT (F, g, C, E, L, Q, nR, R, nP, P0, nN, N, nK, K) c) (fpO (F, g, C, E, L, Q, nR, R, nP, P0, nN, N, nK, K) (31 * h + nP) (c : Int).toNat) (x : Int).toNat)) + (fpT (F, g, C, E, L, Q, nR, R, nP, P0, nN, N, nK, K) c x))), (7, vI (x)), (0, .ref (gw_ad w 0)), (1, vL (h)), (3, vI (nP)), (6, vI (c))]) (by decide) rfl dX6_printParcels_50 ?_
              refine g_iinc (pc := 52) hX (lv2 := [(7, vI (x + 1)), (4, vL ((31 * (hsN (fpT (F, g, C, E, L, Q, nR, R, nP, P0, nN, N, nK, K) c) (fpO (F, g, C, E, L, Q, nR, R, nP, P0, nN, N, nK, K) (31 * h + nP) (c : Int).toNat) (x : Int).toNat)) + (fpT (F, g, C, E, L, Q, nR, R, nP, P0, nN, N, nK, K) c x))), (0, .ref (gw_ad w 0)), (1, vL (h)), (3, vI (nP)), (6, vI (c))]) 1 rfl (by decide) rfl dX6_printParcels_52 ?_
              refine g_goto (pc := 55) (tgt := 27) hX dX6_printParcels_55 (by decide) ?_
              refine g_sub (lv2 := [(7, vI (x + 1)), (0, .ref (gw_ad w 0)), (1, vL (h)), (3, vI (nP)), (4, vL ((31 * (hsN (fpT (F, g, C, E, L, Q, nR, R, nP, P0, nN, N, nK, K) c) (fpO (F, g, C, E, L, Q, nR, R, nP, P0, nN, N, nK, K) (31 * h + nP) (c : Int).toNat) (x : Int).toNat)) + (fpT (F, g, C, E, L, Q, nR, R, nP, P0, nN, N, nK, K) c x))), (6, vI (c))]) [0, 2, 3, 4, 1, 5] rfl ?_
              refine g_at rfl (lv2 := [(7, vI (x + 1)), (0, .ref (gw_ad w 0)), (1, vL (h)), (3, vI (nP)), (4, vL (hsN (fpT (F, g, C, E, L, Q, nR, R, nP, P0, nN, N, nK, K) c) (fpO (F, g, C, E, L, Q, nR, R, nP, P0, nN, N, nK, K) (31 * h + nP) (c : Int).toNat) (x + 1 : Int).toNat)), (6, vI (c))]) (by rw [hsN_s _ _ h1x]) rfl (S2 := S) (rfl) ?_
              exact ihli (x + 1)  (by omega) (by omega) (by omega) 
        refine g_sub (lv2 := [(7, vI (0)), (0, .ref (gw_ad w 0)), (1, vL (h)), (3, vI (nP)), (4, vL (fpO (F, g, C, E, L, Q, nR, R, nP, P0, nN, N, nK, K) (31 * h + nP) (c : Int).toNat)), (6, vI (c))]) [0, 2, 3, 4, 5, 1] rfl ?_
        refine g_at rfl (lv2 := [(7, vI (0)), (0, .ref (gw_ad w 0)), (1, vL (h)), (3, vI (nP)), (4, vL (hsN (fpT (F, g, C, E, L, Q, nR, R, nP, P0, nN, N, nK, K) c) (fpO (F, g, C, E, L, Q, nR, R, nP, P0, nN, N, nK, K) (31 * h + nP) (c : Int).toNat) (0 : Int).toNat)), (6, vI (c))]) (rfl) rfl (S2 := S) (rfl) ?_
        exact li ((11 : Int) - 0 + 1).toNat 0  (by omega) (by omega) (by omega) 
  refine g_sub (lv2 := [(6, vI (0)), (0, .ref (gw_ad w 0)), (1, vL (h)), (3, vI (nP)), (4, vL ((31 * h) + nP))]) [0, 3, 4, 2, 1] rfl ?_
  refine g_at rfl (lv2 := [(6, vI (0)), (0, .ref (gw_ad w 0)), (1, vL (h)), (3, vI (nP)), (4, vL (fpO (F, g, C, E, L, Q, nR, R, nP, P0, nN, N, nK, K) (31 * h + nP) (0 : Int).toNat))]) (rfl) rfl (S2 := S) (rfl) ?_
  exact lo ((nP : Int) - 0 + 1).toNat 0  (by omega) (by omega) (by omega) 

set_option maxHeartbeats 4000000 in
set_option maxRecDepth 100000 in
theorem c_X6_printNotes {w : gW} {l : Launch} {S : Nat → va_E} {pc j : Nat} {ty : Int} {B ρ T : Int → Int} {Tr : Int → Int → Int} {D : SD} {Z : Nat → SD} (hN : gw_N w = 92) (hd : deskAt w pc j ty B ρ T Tr D Z S) (hO : deskOK ty B ρ Tr D) {h : Int} :
    GM1 w l yX6_printNotes wsX6_printNotes { frames := 2, cells := 0, slots := 0, locals := 44 } [.ref (gw_ad w 0), vL (h)] S
      (fun v S' => v = vL (fnO D (31 * h + snN D) (snN D).toNat) ∧ S' = S) := by
  refine GM.start (own := RX6) (n := "printNotes") (d := "(J)J") (by decide) rfl (Nat.le_of_ble_eq_true rfl) ?_
  intro X hX hR hXl
  subst hXl
  refine g_at rfl (lv2 := [(0, .ref (gw_ad w 0)), (1, vL (h))]) rfl rfl rfl ?_
  obtain ⟨⟨d0, d1, d2, d3, d4, d5, d6⟩, ⟨hS0, hB0⟩, hpa⟩ := id hd
  obtain ⟨F, g, C, E, L, Q, nR, R, nP, P0, nN, N, nK, K⟩ := D
  obtain ⟨⟨e0, e1, e2⟩, ⟨e3, e4, e5, e6, e7⟩, ⟨e8, e9, e10⟩⟩ := (id hS0)
  obtain ⟨⟨e11, e12⟩, ⟨e13, e14⟩, ⟨e15, e16⟩⟩ := (id hB0)
  change S 7 = .inr (4, [.ref (gw_ad w 8), .ref (gw_ad w 10), .ref (gw_ad w 15), .ref (gw_ad w 18), .ref (gw_ad w 20), .ref (gw_ad w 22)]) at e0
  change S 8 = .inr (3, [.ref (gw_ad w 9), vI (g 0), vI (g 1), vI (g 2), vI (g 3), vI (g 4), vI (g 5), vI (g 6), vI (g 7), vI (g 8), vI (g 9)]) at e1
  change S 9 = AI w 8 (F) at e2
  change S 10 = .inr (0, [.ref (gw_ad w 11), .ref (gw_ad w 12), .ref (gw_ad w 13), .ref (gw_ad w 14)]) at e3
  change S 11 = AI w 4 (C) at e4
  change S 12 = AI w 24 ((fl 6 L)) at e5
  change S 13 = AI w 24 ((fl 6 Q)) at e6
  change S 14 = AI w 4 (E) at e7
  change S 15 = .inr (2, [.ref (gw_ad w 16)]) at e8
  change S 16 = .inr (5, [vI (8), vI (63), .ref (gw_ad w 17), vI (nR)]) at e9
  change S 17 = AI w 504 (fl 63 R) at e10
  change S 18 = .inr (5, [vI (30), vI (22), .ref (gw_ad w 19), vI (nP)]) at e11
  change S 19 = AI w 660 (fl 22 P0) at e12
  change S 20 = .inr (5, [vI (20), vI (6), .ref (gw_ad w 21), vI (nN)]) at e13
  change S 21 = AI w 120 (fl 6 N) at e14
  change S 22 = .inr (5, [vI (20), vI (22), .ref (gw_ad w 23), vI (nK)]) at e15
  change S 23 = AI w 440 (fl 22 K) at e16
  obtain ⟨hD, hty, hBr, hBi, hrd, hTi⟩ := id hO
  obtain ⟨⟨⟨hF, hg⟩, hB, hU, hRR⟩, ⟨hnP, hPi, hPr⟩, ⟨hnN, hNi, hNr⟩, ⟨hnK, hKi, hKr⟩, hg3⟩ := id hD
  change scF F at hF
  change scG g at hg
  change bdOK C E L Q at hB
  change ruOK nR R at hU
  change ∀ i j, inI (R i j) at hRR
  change 0 ≤ nP ∧ nP ≤ 30 at hnP
  change ∀ i j, inI (P0 i j) at hPi
  change ∀ p, 0 ≤ p → p < nP → rowOK P0 p at hPr
  change 0 ≤ nN ∧ nN ≤ 20 at hnN
  change ∀ i j, inI (N i j) at hNi
  change nK = nN at hnK
  change ∀ i j, inI (K i j) at hKi
  change ∀ n, 0 ≤ n → n < nN → rowOK K n at hKr
  have hnRb : 0 ≤ nR ∧ nR ≤ 8 := hU.1
  refine g_aload_n (pc := 0) hX 0 rfl dX6_printNotes_0 ?_
  refine g_callV1 (pc := 1) (ci := 6) (As := []) (st2 := []) hX 0 (by omega) d0 rfl (c_X6_notes hN hd) gX6_printNotes_X6_notes (n := 0) (hw := rfl) (hrc := rfl) (hrs := rfl) (hd := by decide +kernel) (hR := ⟨Nat.le_of_ble_eq_true rfl, Nat.le_of_ble_eq_true rfl⟩) (hn := rfl) (hst := rfl) (hsum := Nat.le_of_ble_eq_true rfl) (hdg := dX6_printNotes_1) ?_
  rintro _ S9 ⟨rfl, e9⟩
  rw [e9]
  clear e9 S9
  refine g_at (pc2 := 4) rfl rfl (st2 := [vI (nN)]) rfl (S2 := S) rfl ?_
  refine g_istore_n (pc := 4) hX (lv2 := [(3, vI (nN)), (0, .ref (gw_ad w 0)), (1, vL (h))]) rfl (by decide) rfl dX6_printNotes_4 ?_
  refine g_ldc2 (pc := 5) hX (z := 31) (List.mem_of_getElem? (i := 1) rfl) (by decide +kernel) dX6_printNotes_5 ?_
  refine g_lload_n (pc := 8) hX 2 rfl dX6_printNotes_8 ?_
  refine g_lmul (pc := 9) hX dX6_printNotes_9 ?_
  refine g_iload_n (pc := 10) hX 0 rfl dX6_printNotes_10 ?_
  refine g_i2l (pc := 11) hX (by first | assumption | exact inI_mk (by omega) (by omega)) dX6_printNotes_11 ?_
  refine g_ladd (pc := 12) hX dX6_printNotes_12 ?_
  refine g_lstore (pc := 13) hX (lv2 := [(4, vL ((31 * h) + nN)), (3, vI (nN)), (0, .ref (gw_ad w 0)), (1, vL (h))]) (by decide) rfl dX6_printNotes_13 ?_
  refine g_iconst (pc := 15) hX dX6_printNotes_15 ?_
  refine g_istore (pc := 16) hX (lv2 := [(6, vI (0)), (4, vL ((31 * h) + nN)), (3, vI (nN)), (0, .ref (gw_ad w 0)), (1, vL (h))]) (by decide) rfl dX6_printNotes_16 ?_
  have lo : ∀ (n0 : Nat) (c : Int), 0 ≤ c → c ≤ nN → nN - c < n0 → G w { frames := 2, cells := 0, slots := 0, locals := 44 } X 8 18 [(6, vI (c)), (0, .ref (gw_ad w 0)), (1, vL (h)), (3, vI (nN)), (4, vL (fnO (F, g, C, E, L, Q, nR, R, nP, P0, nN, N, nK, K) (31 * h + nN) (c : Int).toNat))] [] S := by
    intro n0
    induction n0 with
    | zero => intro c  h1c h2c h3c; exact absurd h3c (by omega)
    | succ n0 ihlo =>
      intro c  h1c h2c h3c 
      have hc : inI c := inI_mk (by omega) (by omega)
      refine g_iload (pc := 18) hX 0 rfl dX6_printNotes_18 ?_
      refine g_iload_n (pc := 20) hX 3 rfl dX6_printNotes_20 ?_
      refine g_icmp_ge (pc := 21) (tgt := 64) hX (by first | assumption | exact inI_mk (by omega) (by omega)) (by first | assumption | exact inI_mk (by omega) (by omega)) dX6_printNotes_21 (by decide) (fun c_21 => ?_) (fun c_21 => ?_)
      · skip
        refine g_lload (pc := 64) hX 4 rfl dX6_printNotes_64 ?_
        refine g_lret (pc := 66) hX hR dX6_printNotes_66 ?_
        rw [show c = nN by omega]
        exact ⟨rfl, rfl⟩
      · skip
        refine g_iconst (pc := 24) hX dX6_printNotes_24 ?_
        refine g_istore (pc := 25) hX (lv2 := [(7, vI (0)), (6, vI (c)), (0, .ref (gw_ad w 0)), (1, vL (h)), (3, vI (nN)), (4, vL (fnO (F, g, C, E, L, Q, nR, R, nP, P0, nN, N, nK, K) (31 * h + nN) (c : Int).toNat))]) (by decide) rfl dX6_printNotes_25 ?_
        have li : ∀ (n0 : Nat) (x : Int), 0 ≤ x → x ≤ 6 → 6 - x < n0 → G w { frames := 2, cells := 0, slots := 0, locals := 44 } X 8 27 [(7, vI (x)), (0, .ref (gw_ad w 0)), (1, vL (h)), (3, vI (nN)), (4, vL (hsN (fun x => N c x) (fnO (F, g, C, E, L, Q, nR, R, nP, P0, nN, N, nK, K) (31 * h + nN) (c : Int).toNat) (x : Int).toNat)), (6, vI (c))] [] S := by
          intro n0
          induction n0 with
          | zero => intro x  h1x h2x h3x; exact absurd h3x (by omega)
          | succ n0 ihli =>
            intro x  h1x h2x h3x 
            have hx : inI x := inI_mk (by omega) (by omega)
            refine g_iload (pc := 27) hX 0 rfl dX6_printNotes_27 ?_
            refine g_bipush (pc := 29) hX (by decide) dX6_printNotes_29 ?_
            refine g_icmp_ge (pc := 31) (tgt := 58) hX (by first | assumption | exact inI_mk (by omega) (by omega)) (by first | assumption | exact inI_mk (by omega) (by omega)) dX6_printNotes_31 (by decide) (fun c_31 => ?_) (fun c_31 => ?_)
            · skip
              refine g_iinc (pc := 58) hX (lv2 := [(6, vI (c + 1)), (7, vI (x)), (0, .ref (gw_ad w 0)), (1, vL (h)), (3, vI (nN)), (4, vL (hsN (fun x => N c x) (fnO (F, g, C, E, L, Q, nR, R, nP, P0, nN, N, nK, K) (31 * h + nN) (c : Int).toNat) (x : Int).toNat))]) 5 rfl (by decide) rfl dX6_printNotes_58 ?_
              refine g_goto (pc := 61) (tgt := 18) hX dX6_printNotes_61 (by decide) ?_
              refine g_sub (lv2 := [(6, vI (c + 1)), (0, .ref (gw_ad w 0)), (1, vL (h)), (3, vI (nN)), (4, vL (hsN (fun x => N c x) (fnO (F, g, C, E, L, Q, nR, R, nP, P0, nN, N, nK, K) (31 * h + nN) (c : Int).toNat) (x : Int).toNat))]) [0, 2, 3, 4, 5] rfl ?_
              refine g_at rfl (lv2 := [(6, vI (c + 1)), (0, .ref (gw_ad w 0)), (1, vL (h)), (3, vI (nN)), (4, vL (fnO (F, g, C, E, L, Q, nR, R, nP, P0, nN, N, nK, K) (31 * h + nN) (c + 1 : Int).toNat))]) (by rw [fnO_s _ _ h1c, show x = 6 by omega]; rfl) rfl (S2 := S) (rfl) ?_
              exact ihlo (c + 1)  (by omega) (by omega) (by omega) 
            · skip
              refine g_ldc2 (pc := 34) hX (z := 31) (List.mem_of_getElem? (i := 1) rfl) (by decide +kernel) dX6_printNotes_34 ?_
              refine g_lload (pc := 37) hX 4 rfl dX6_printNotes_37 ?_
              refine g_lmul (pc := 39) hX dX6_printNotes_39 ?_
              refine g_aload_n (pc := 40) hX 1 rfl dX6_printNotes_40 ?_
              refine g_iload (pc := 41) hX 5 rfl dX6_printNotes_41 ?_
              refine g_iload (pc := 43) hX 0 rfl dX6_printNotes_43 ?_
              refine g_callV1 (pc := 45) (ci := 6) (As := [vI (c), vI (x)]) (st2 := [vL (31 * (hsN (fun x => N c x) (fnO (F, g, C, E, L, Q, nR, R, nP, P0, nN, N, nK, K) (31 * h + nN) (c : Int).toNat) (x : Int).toNat))]) hX 0 (by omega) d0 rfl (c_X6_note (n := c) (x := x) hN hd hO (by first | assumption | exact inI_mk (by omega) (by omega)) (by first | assumption | exact inI_mk (by omega) (by omega))) gX6_printNotes_X6_note (n := 2) (hw := rfl) (hrc := rfl) (hrs := rfl) (hd := by decide +kernel) (hR := ⟨Nat.le_of_ble_eq_true rfl, Nat.le_of_ble_eq_true rfl⟩) (hn := rfl) (hst := rfl) (hsum := Nat.le_of_ble_eq_true rfl) (hdg := dX6_printNotes_45) ?_
              rintro _ S9 ⟨rfl, e9⟩
              rw [e9]
              clear e9 S9
              rw [if_pos (show (0 ≤ c ∧ c < snN (F, g, C, E, L, Q, nR, R, nP, P0, nN, N, nK, K)) ∧ 0 ≤ x ∧ x ≤ 5 from ⟨⟨by omega, by show c < nN; omega⟩, by omega⟩)]
              refine g_at (pc2 := 48) rfl rfl (st2 := [vI (N c x), vL (31 * (hsN (fun x => N c x) (fnO (F, g, C, E, L, Q, nR, R, nP, P0, nN, N, nK, K) (31 * h + nN) (c : Int).toNat) (x : Int).toNat))]) rfl (S2 := S) rfl ?_
              refine g_i2l (pc := 48) hX (hNi c x) dX6_printNotes_48 ?_
              refine g_ladd (pc := 49) hX dX6_printNotes_49 ?_
              refine g_lstore (pc := 50) hX (lv2 := [(4, vL ((31 * (hsN (fun x => N c x) (fnO (F, g, C, E, L, Q, nR, R, nP, P0, nN, N, nK, K) (31 * h + nN) (c : Int).toNat) (x : Int).toNat)) + (N c x))), (7, vI (x)), (0, .ref (gw_ad w 0)), (1, vL (h)), (3, vI (nN)), (6, vI (c))]) (by decide) rfl dX6_printNotes_50 ?_
              refine g_iinc (pc := 52) hX (lv2 := [(7, vI (x + 1)), (4, vL ((31 * (hsN (fun x => N c x) (fnO (F, g, C, E, L, Q, nR, R, nP, P0, nN, N, nK, K) (31 * h + nN) (c : Int).toNat) (x : Int).toNat)) + (N c x))), (0, .ref (gw_ad w 0)), (1, vL (h)), (3, vI (nN)), (6, vI (c))]) 1 rfl (by decide) rfl dX6_printNotes_52 ?_
              refine g_goto (pc := 55) (tgt := 27) hX dX6_printNotes_55 (by decide) ?_
              refine g_sub (lv2 := [(7, vI (x + 1)), (0, .ref (gw_ad w 0)), (1, vL (h)), (3, vI (nN)), (4, vL ((31 * (hsN (fun x => N c x) (fnO (F, g, C, E, L, Q, nR, R, nP, P0, nN, N, nK, K) (31 * h + nN) (c : Int).toNat) (x : Int).toNat)) + (N c x))), (6, vI (c))]) [0, 2, 3, 4, 1, 5] rfl ?_
              refine g_at rfl (lv2 := [(7, vI (x + 1)), (0, .ref (gw_ad w 0)), (1, vL (h)), (3, vI (nN)), (4, vL (hsN (fun x => N c x) (fnO (F, g, C, E, L, Q, nR, R, nP, P0, nN, N, nK, K) (31 * h + nN) (c : Int).toNat) (x + 1 : Int).toNat)), (6, vI (c))]) (by rw [hsN_s _ _ h1x]) rfl (S2 := S) (rfl) ?_
              exact ihli (x + 1)  (by omega) (by omega) (by omega) 
        refine g_sub (lv2 := [(7, vI (0)), (0, .ref (gw_ad w 0)), (1, vL (h)), (3, vI (nN)), (4, vL (fnO (F, g, C, E, L, Q, nR, R, nP, P0, nN, N, nK, K) (31 * h + nN) (c : Int).toNat)), (6, vI (c))]) [0, 2, 3, 4, 5, 1] rfl ?_
        refine g_at rfl (lv2 := [(7, vI (0)), (0, .ref (gw_ad w 0)), (1, vL (h)), (3, vI (nN)), (4, vL (hsN (fun x => N c x) (fnO (F, g, C, E, L, Q, nR, R, nP, P0, nN, N, nK, K) (31 * h + nN) (c : Int).toNat) (0 : Int).toNat)), (6, vI (c))]) (rfl) rfl (S2 := S) (rfl) ?_
        exact li ((6 : Int) - 0 + 1).toNat 0  (by omega) (by omega) (by omega) 
  refine g_sub (lv2 := [(6, vI (0)), (0, .ref (gw_ad w 0)), (1, vL (h)), (3, vI (nN)), (4, vL ((31 * h) + nN))]) [0, 3, 4, 2, 1] rfl ?_
  refine g_at rfl (lv2 := [(6, vI (0)), (0, .ref (gw_ad w 0)), (1, vL (h)), (3, vI (nN)), (4, vL (fnO (F, g, C, E, L, Q, nR, R, nP, P0, nN, N, nK, K) (31 * h + nN) (0 : Int).toNat))]) (rfl) rfl (S2 := S) (rfl) ?_
  exact lo ((nN : Int) - 0 + 1).toNat 0  (by omega) (by omega) (by omega) 

set_option maxHeartbeats 4000000 in
set_option maxRecDepth 100000 in
theorem c_X6_fingerprint {w : gW} {l : Launch} {S : Nat → va_E} {pc j : Nat} {ty : Int} {B ρ T : Int → Int} {Tr : Int → Int → Int} {D : SD} {Z : Nat → SD} (hN : gw_N w = 92) (hd : deskAt w pc j ty B ρ T Tr D Z S) (hO : deskOK ty B ρ Tr D) :
    GM1 w l yX6_fingerprint wsX6_fingerprint { frames := 6, cells := 0, slots := 0, locals := 125 } [.ref (gw_ad w 0)] S
      (fun v S' => v = vL (fpZ D) ∧ S' = S) := by
  refine GM.start (own := RX6) (n := "fingerprint") (d := "()J") (by decide) rfl (Nat.le_of_ble_eq_true rfl) ?_
  intro X hX hR hXl
  subst hXl
  refine g_at rfl (lv2 := [(0, .ref (gw_ad w 0))]) rfl rfl rfl ?_
  obtain ⟨⟨d0, d1, d2, d3, d4, d5, d6⟩, ⟨hS0, hB0⟩, hpa⟩ := id hd
  obtain ⟨F, g, C, E, L, Q, nR, R, nP, P0, nN, N, nK, K⟩ := D
  obtain ⟨⟨e0, e1, e2⟩, ⟨e3, e4, e5, e6, e7⟩, ⟨e8, e9, e10⟩⟩ := (id hS0)
  obtain ⟨⟨e11, e12⟩, ⟨e13, e14⟩, ⟨e15, e16⟩⟩ := (id hB0)
  change S 7 = .inr (4, [.ref (gw_ad w 8), .ref (gw_ad w 10), .ref (gw_ad w 15), .ref (gw_ad w 18), .ref (gw_ad w 20), .ref (gw_ad w 22)]) at e0
  change S 8 = .inr (3, [.ref (gw_ad w 9), vI (g 0), vI (g 1), vI (g 2), vI (g 3), vI (g 4), vI (g 5), vI (g 6), vI (g 7), vI (g 8), vI (g 9)]) at e1
  change S 9 = AI w 8 (F) at e2
  change S 10 = .inr (0, [.ref (gw_ad w 11), .ref (gw_ad w 12), .ref (gw_ad w 13), .ref (gw_ad w 14)]) at e3
  change S 11 = AI w 4 (C) at e4
  change S 12 = AI w 24 ((fl 6 L)) at e5
  change S 13 = AI w 24 ((fl 6 Q)) at e6
  change S 14 = AI w 4 (E) at e7
  change S 15 = .inr (2, [.ref (gw_ad w 16)]) at e8
  change S 16 = .inr (5, [vI (8), vI (63), .ref (gw_ad w 17), vI (nR)]) at e9
  change S 17 = AI w 504 (fl 63 R) at e10
  change S 18 = .inr (5, [vI (30), vI (22), .ref (gw_ad w 19), vI (nP)]) at e11
  change S 19 = AI w 660 (fl 22 P0) at e12
  change S 20 = .inr (5, [vI (20), vI (6), .ref (gw_ad w 21), vI (nN)]) at e13
  change S 21 = AI w 120 (fl 6 N) at e14
  change S 22 = .inr (5, [vI (20), vI (22), .ref (gw_ad w 23), vI (nK)]) at e15
  change S 23 = AI w 440 (fl 22 K) at e16
  obtain ⟨hD, hty, hBr, hBi, hrd, hTi⟩ := id hO
  obtain ⟨⟨⟨hF, hg⟩, hB, hU, hRR⟩, ⟨hnP, hPi, hPr⟩, ⟨hnN, hNi, hNr⟩, ⟨hnK, hKi, hKr⟩, hg3⟩ := id hD
  change scF F at hF
  change scG g at hg
  change bdOK C E L Q at hB
  change ruOK nR R at hU
  change ∀ i j, inI (R i j) at hRR
  change 0 ≤ nP ∧ nP ≤ 30 at hnP
  change ∀ i j, inI (P0 i j) at hPi
  change ∀ p, 0 ≤ p → p < nP → rowOK P0 p at hPr
  change 0 ≤ nN ∧ nN ≤ 20 at hnN
  change ∀ i j, inI (N i j) at hNi
  change nK = nN at hnK
  change ∀ i j, inI (K i j) at hKi
  change ∀ n, 0 ≤ n → n < nN → rowOK K n at hKr
  have hnRb : 0 ≤ nR ∧ nR ≤ 8 := hU.1
  refine g_ldc2 (pc := 0) hX (z := 191) (List.mem_of_getElem? (i := 1) rfl) (by decide +kernel) dX6_fingerprint_0 ?_
  refine g_lstore_n (pc := 3) hX (lv2 := [(1, vL (191)), (0, .ref (gw_ad w 0))]) rfl (by decide) rfl dX6_fingerprint_3 ?_
  refine g_iconst (pc := 4) hX dX6_fingerprint_4 ?_
  refine g_istore_n (pc := 5) hX (lv2 := [(3, vI (0)), (1, vL (191)), (0, .ref (gw_ad w 0))]) rfl (by decide) rfl dX6_fingerprint_5 ?_
  have la : ∀ (n0 : Nat) (c : Int), 0 ≤ c → c ≤ 8 → 8 - c < n0 → G w { frames := 6, cells := 0, slots := 0, locals := 125 } X 4 6 [(3, vI (c)), (0, .ref (gw_ad w 0)), (1, vL (hsN F 191 (c : Int).toNat))] [] S := by
    intro n0
    induction n0 with
    | zero => intro c  h1c h2c h3c; exact absurd h3c (by omega)
    | succ n0 ihla =>
      intro c  h1c h2c h3c 
      have hc : inI c := inI_mk (by omega) (by omega)
      refine g_iload_n (pc := 6) hX 0 rfl dX6_fingerprint_6 ?_
      refine g_gets (pc := 7) hX hX.2.2.2.2.2.2.2.2.1.1 (List.mem_of_getElem? (i := 2) rfl) dX6_fingerprint_7 ?_
      refine g_stlen (pc := 10) hX hX.2.2.2.2.2.2.2.2.1.1 dX6_fingerprint_10 ?_
      refine g_icmp_ge (pc := 11) (tgt := 33) hX (by first | assumption | exact inI_mk (by omega) (by omega)) (by first | assumption | exact inI_mk (by omega) (by omega)) dX6_fingerprint_11 (by decide) (fun c_11 => ?_) (fun c_11 => ?_)
      · skip
        refine g_iconst (pc := 33) hX dX6_fingerprint_33 ?_
        refine g_istore_n (pc := 34) hX (lv2 := [(3, vI (0)), (0, .ref (gw_ad w 0)), (1, vL (hsN F 191 (c : Int).toNat))]) rfl (by decide) rfl dX6_fingerprint_34 ?_
        have lb : ∀ (n0 : Nat) (c : Int), 0 ≤ c → c ≤ 11 → 11 - c < n0 → G w { frames := 6, cells := 0, slots := 0, locals := 125 } X 4 35 [(3, vI (c)), (0, .ref (gw_ad w 0)), (1, vL (hsN (scNum F g) (hsN F 191 8) (c : Int).toNat))] [] S := by
          intro n0
          induction n0 with
          | zero => intro c  h1c h2c h3c; exact absurd h3c (by omega)
          | succ n0 ihlb =>
            intro c  h1c h2c h3c 
            have hc : inI c := inI_mk (by omega) (by omega)
            refine g_iload_n (pc := 35) hX 0 rfl dX6_fingerprint_35 ?_
            refine g_bipush (pc := 36) hX (by decide) dX6_fingerprint_36 ?_
            refine g_icmp_gt (pc := 38) (tgt := 60) hX (by first | assumption | exact inI_mk (by omega) (by omega)) (by first | assumption | exact inI_mk (by omega) (by omega)) dX6_fingerprint_38 (by decide) (fun c_38 => ?_) (fun c_38 => ?_)
            · skip
              refine g_aload_n (pc := 60) hX 1 rfl dX6_fingerprint_60 ?_
              refine g_lload_n (pc := 61) hX 2 rfl dX6_fingerprint_61 ?_
              refine g_callV1 (pc := 62) (ci := 6) (As := [vL (hsN (scNum F g) (hsN F 191 8) (c : Int).toNat)]) (st2 := []) hX 0 (by omega) d0 rfl (c_X6_printBands (h := hsN (scNum F g) (hsN F 191 8) (c : Int).toNat) hN hd hO) gX6_fingerprint_X6_printBands (n := 1) (hw := rfl) (hrc := rfl) (hrs := rfl) (hd := by decide +kernel) (hR := ⟨Nat.le_of_ble_eq_true rfl, Nat.le_of_ble_eq_true rfl⟩) (hn := rfl) (hst := rfl) (hsum := Nat.le_of_ble_eq_true rfl) (hdg := dX6_fingerprint_62) ?_
              rintro _ S9 ⟨rfl, e9⟩
              rw [e9]
              clear e9 S9
              refine g_at (pc2 := 65) rfl rfl (st2 := [vL (fbO (F, g, C, E, L, Q, nR, R, nP, P0, nN, N, nK, K) (hsN (scNum F g) (hsN F 191 8) (c : Int).toNat) 4)]) rfl (S2 := S) rfl ?_
              refine g_lstore_n (pc := 65) hX (lv2 := [(1, vL (fbO (F, g, C, E, L, Q, nR, R, nP, P0, nN, N, nK, K) (hsN (scNum F g) (hsN F 191 8) (c : Int).toNat) 4)), (3, vI (c)), (0, .ref (gw_ad w 0))]) rfl (by decide) rfl dX6_fingerprint_65 ?_
              refine g_ldc2 (pc := 66) hX (z := 31) (List.mem_of_getElem? (i := 3) rfl) (by decide +kernel) dX6_fingerprint_66 ?_
              refine g_lload_n (pc := 69) hX 0 rfl dX6_fingerprint_69 ?_
              refine g_lmul (pc := 70) hX dX6_fingerprint_70 ?_
              refine g_aload_n (pc := 71) hX 2 rfl dX6_fingerprint_71 ?_
              refine g_callV1 (pc := 72) (ci := 6) (As := []) (st2 := [vL (31 * (fbO (F, g, C, E, L, Q, nR, R, nP, P0, nN, N, nK, K) (hsN (scNum F g) (hsN F 191 8) (c : Int).toNat) 4))]) hX 0 (by omega) d0 rfl (c_X6_rules hN hd) gX6_fingerprint_X6_rules (n := 0) (hw := rfl) (hrc := rfl) (hrs := rfl) (hd := by decide +kernel) (hR := ⟨Nat.le_of_ble_eq_true rfl, Nat.le_of_ble_eq_true rfl⟩) (hn := rfl) (hst := rfl) (hsum := Nat.le_of_ble_eq_true rfl) (hdg := dX6_fingerprint_72) ?_
              rintro _ S9 ⟨rfl, e9⟩
              rw [e9]
              clear e9 S9
              refine g_at (pc2 := 75) rfl rfl (st2 := [vI (nR), vL (31 * (fbO (F, g, C, E, L, Q, nR, R, nP, P0, nN, N, nK, K) (hsN (scNum F g) (hsN F 191 8) (c : Int).toNat) 4))]) rfl (S2 := S) rfl ?_
              refine g_i2l (pc := 75) hX (by first | assumption | exact inI_mk (by omega) (by omega)) dX6_fingerprint_75 ?_
              refine g_ladd (pc := 76) hX dX6_fingerprint_76 ?_
              refine g_lstore_n (pc := 77) hX (lv2 := [(1, vL ((31 * (fbO (F, g, C, E, L, Q, nR, R, nP, P0, nN, N, nK, K) (hsN (scNum F g) (hsN F 191 8) (c : Int).toNat) 4)) + nR)), (3, vI (c)), (0, .ref (gw_ad w 0))]) rfl (by decide) rfl dX6_fingerprint_77 ?_
              refine g_aload_n (pc := 78) hX 2 rfl dX6_fingerprint_78 ?_
              refine g_lload_n (pc := 79) hX 0 rfl dX6_fingerprint_79 ?_
              refine g_callV1 (pc := 80) (ci := 6) (As := [vL ((31 * (fbO (F, g, C, E, L, Q, nR, R, nP, P0, nN, N, nK, K) (hsN (scNum F g) (hsN F 191 8) (c : Int).toNat) 4)) + nR)]) (st2 := []) hX 0 (by omega) d0 rfl (c_X6_printParcels (h := (31 * (fbO (F, g, C, E, L, Q, nR, R, nP, P0, nN, N, nK, K) (hsN (scNum F g) (hsN F 191 8) (c : Int).toNat) 4)) + nR) hN hd hO) gX6_fingerprint_X6_printParcels (n := 1) (hw := rfl) (hrc := rfl) (hrs := rfl) (hd := by decide +kernel) (hR := ⟨Nat.le_of_ble_eq_true rfl, Nat.le_of_ble_eq_true rfl⟩) (hn := rfl) (hst := rfl) (hsum := Nat.le_of_ble_eq_true rfl) (hdg := dX6_fingerprint_80) ?_
              rintro _ S9 ⟨rfl, e9⟩
              rw [e9]
              clear e9 S9
              refine g_at (pc2 := 83) rfl rfl (st2 := [vL (fpO (F, g, C, E, L, Q, nR, R, nP, P0, nN, N, nK, K) (31 * ((31 * (fbO (F, g, C, E, L, Q, nR, R, nP, P0, nN, N, nK, K) (hsN (scNum F g) (hsN F 191 8) (c : Int).toNat) 4)) + nR) + nP) nP.toNat)]) rfl (S2 := S) rfl ?_
              refine g_lstore_n (pc := 83) hX (lv2 := [(1, vL (fpO (F, g, C, E, L, Q, nR, R, nP, P0, nN, N, nK, K) (31 * ((31 * (fbO (F, g, C, E, L, Q, nR, R, nP, P0, nN, N, nK, K) (hsN (scNum F g) (hsN F 191 8) (c : Int).toNat) 4)) + nR) + nP) nP.toNat)), (3, vI (c)), (0, .ref (gw_ad w 0))]) rfl (by decide) rfl dX6_fingerprint_83 ?_
              refine g_aload_n (pc := 84) hX 2 rfl dX6_fingerprint_84 ?_
              refine g_lload_n (pc := 85) hX 0 rfl dX6_fingerprint_85 ?_
              refine g_callV1 (pc := 86) (ci := 6) (As := [vL (fpO (F, g, C, E, L, Q, nR, R, nP, P0, nN, N, nK, K) (31 * ((31 * (fbO (F, g, C, E, L, Q, nR, R, nP, P0, nN, N, nK, K) (hsN (scNum F g) (hsN F 191 8) (c : Int).toNat) 4)) + nR) + nP) nP.toNat)]) (st2 := []) hX 0 (by omega) d0 rfl (c_X6_printNotes (h := fpO (F, g, C, E, L, Q, nR, R, nP, P0, nN, N, nK, K) (31 * ((31 * (fbO (F, g, C, E, L, Q, nR, R, nP, P0, nN, N, nK, K) (hsN (scNum F g) (hsN F 191 8) (c : Int).toNat) 4)) + nR) + nP) nP.toNat) hN hd hO) gX6_fingerprint_X6_printNotes (n := 1) (hw := rfl) (hrc := rfl) (hrs := rfl) (hd := by decide +kernel) (hR := ⟨Nat.le_of_ble_eq_true rfl, Nat.le_of_ble_eq_true rfl⟩) (hn := rfl) (hst := rfl) (hsum := Nat.le_of_ble_eq_true rfl) (hdg := dX6_fingerprint_86) ?_
              rintro _ S9 ⟨rfl, e9⟩
              rw [e9]
              clear e9 S9
              refine g_at (pc2 := 89) rfl rfl (st2 := [vL (fnO (F, g, C, E, L, Q, nR, R, nP, P0, nN, N, nK, K) (31 * (fpO (F, g, C, E, L, Q, nR, R, nP, P0, nN, N, nK, K) (31 * ((31 * (fbO (F, g, C, E, L, Q, nR, R, nP, P0, nN, N, nK, K) (hsN (scNum F g) (hsN F 191 8) (c : Int).toNat) 4)) + nR) + nP) nP.toNat) + nN) nN.toNat)]) rfl (S2 := S) rfl ?_
              refine g_lstore_n (pc := 89) hX (lv2 := [(1, vL (fnO (F, g, C, E, L, Q, nR, R, nP, P0, nN, N, nK, K) (31 * (fpO (F, g, C, E, L, Q, nR, R, nP, P0, nN, N, nK, K) (31 * ((31 * (fbO (F, g, C, E, L, Q, nR, R, nP, P0, nN, N, nK, K) (hsN (scNum F g) (hsN F 191 8) (c : Int).toNat) 4)) + nR) + nP) nP.toNat) + nN) nN.toNat)), (3, vI (c)), (0, .ref (gw_ad w 0))]) rfl (by decide) rfl dX6_fingerprint_89 ?_
              refine g_iconst (pc := 90) hX dX6_fingerprint_90 ?_
              refine g_istore_n (pc := 91) hX (lv2 := [(3, vI (0)), (1, vL (fnO (F, g, C, E, L, Q, nR, R, nP, P0, nN, N, nK, K) (31 * (fpO (F, g, C, E, L, Q, nR, R, nP, P0, nN, N, nK, K) (31 * ((31 * (fbO (F, g, C, E, L, Q, nR, R, nP, P0, nN, N, nK, K) (hsN (scNum F g) (hsN F 191 8) (c : Int).toNat) 4)) + nR) + nP) nP.toNat) + nN) nN.toNat)), (0, .ref (gw_ad w 0))]) rfl (by decide) rfl dX6_fingerprint_91 ?_
              have lz : ∀ (n0 : Nat) (c : Int), 0 ≤ c → c ≤ 5 → 5 - c < n0 → G w { frames := 6, cells := 0, slots := 0, locals := 125 } X 4 92 [(3, vI (c)), (0, .ref (gw_ad w 0)), (1, vL (hsN (sumZ (F, g, C, E, L, Q, nR, R, nP, P0, nN, N, nK, K)) (fnO (F, g, C, E, L, Q, nR, R, nP, P0, nN, N, nK, K) (31 * (fpO (F, g, C, E, L, Q, nR, R, nP, P0, nN, N, nK, K) (31 * (31 * (fbO (F, g, C, E, L, Q, nR, R, nP, P0, nN, N, nK, K) (hsN (scNum F g) (hsN F 191 8) 11) 4) + nR) + nP) nP.toNat) + nN) nN.toNat) (c : Int).toNat))] [] S := by
                intro n0
                induction n0 with
                | zero => intro c  h1c h2c h3c; exact absurd h3c (by omega)
                | succ n0 ihlz =>
                  intro c  h1c h2c h3c 
                  have hc : inI c := inI_mk (by omega) (by omega)
                  refine g_iload_n (pc := 92) hX 0 rfl dX6_fingerprint_92 ?_
                  refine g_iconst (pc := 93) hX dX6_fingerprint_93 ?_
                  refine g_icmp_gt (pc := 94) (tgt := 115) hX (by first | assumption | exact inI_mk (by omega) (by omega)) (by first | assumption | exact inI_mk (by omega) (by omega)) dX6_fingerprint_94 (by decide) (fun c_94 => ?_) (fun c_94 => ?_)
                  · skip
                    refine g_lload_n (pc := 115) hX 2 rfl dX6_fingerprint_115 ?_
                    refine g_lret (pc := 116) hX hR dX6_fingerprint_116 ?_
                    rw [show c = 5 by omega]
                    exact ⟨rfl, rfl⟩
                  · skip
                    refine g_ldc2 (pc := 97) hX (z := 31) (List.mem_of_getElem? (i := 3) rfl) (by decide +kernel) dX6_fingerprint_97 ?_
                    refine g_lload_n (pc := 100) hX 2 rfl dX6_fingerprint_100 ?_
                    refine g_lmul (pc := 101) hX dX6_fingerprint_101 ?_
                    refine g_aload_n (pc := 102) hX 1 rfl dX6_fingerprint_102 ?_
                    refine g_iload_n (pc := 103) hX 0 rfl dX6_fingerprint_103 ?_
                    refine g_callV1 (pc := 104) (ci := 6) (As := [vI (c)]) (st2 := [vL (31 * (hsN (sumZ (F, g, C, E, L, Q, nR, R, nP, P0, nN, N, nK, K)) (fnO (F, g, C, E, L, Q, nR, R, nP, P0, nN, N, nK, K) (31 * (fpO (F, g, C, E, L, Q, nR, R, nP, P0, nN, N, nK, K) (31 * (31 * (fbO (F, g, C, E, L, Q, nR, R, nP, P0, nN, N, nK, K) (hsN (scNum F g) (hsN F 191 8) 11) 4) + nR) + nP) nP.toNat) + nN) nN.toNat) (c : Int).toNat))]) hX 0 (by omega) d0 rfl (c_X6_sum (x := c) hN hd hO (by first | assumption | exact inI_mk (by omega) (by omega))) gX6_fingerprint_X6_sum (n := 1) (hw := rfl) (hrc := rfl) (hrs := rfl) (hd := by decide +kernel) (hR := ⟨Nat.le_of_ble_eq_true rfl, Nat.le_of_ble_eq_true rfl⟩) (hn := rfl) (hst := rfl) (hsum := Nat.le_of_ble_eq_true rfl) (hdg := dX6_fingerprint_104) ?_
                    rintro _ S9 ⟨rfl, e9⟩
                    rw [e9]
                    clear e9 S9
                    rw [if_pos (show 0 ≤ c ∧ c ≤ 4 by omega)]
                    refine g_at (pc2 := 107) rfl rfl (st2 := [vL (sumZ (F, g, C, E, L, Q, nR, R, nP, P0, nN, N, nK, K) c), vL (31 * (hsN (sumZ (F, g, C, E, L, Q, nR, R, nP, P0, nN, N, nK, K)) (fnO (F, g, C, E, L, Q, nR, R, nP, P0, nN, N, nK, K) (31 * (fpO (F, g, C, E, L, Q, nR, R, nP, P0, nN, N, nK, K) (31 * (31 * (fbO (F, g, C, E, L, Q, nR, R, nP, P0, nN, N, nK, K) (hsN (scNum F g) (hsN F 191 8) 11) 4) + nR) + nP) nP.toNat) + nN) nN.toNat) (c : Int).toNat))]) rfl (S2 := S) rfl ?_
                    refine g_ladd (pc := 107) hX dX6_fingerprint_107 ?_
                    refine g_lstore_n (pc := 108) hX (lv2 := [(1, vL ((31 * (hsN (sumZ (F, g, C, E, L, Q, nR, R, nP, P0, nN, N, nK, K)) (fnO (F, g, C, E, L, Q, nR, R, nP, P0, nN, N, nK, K) (31 * (fpO (F, g, C, E, L, Q, nR, R, nP, P0, nN, N, nK, K) (31 * (31 * (fbO (F, g, C, E, L, Q, nR, R, nP, P0, nN, N, nK, K) (hsN (scNum F g) (hsN F 191 8) 11) 4) + nR) + nP) nP.toNat) + nN) nN.toNat) (c : Int).toNat)) + (sumZ (F, g, C, E, L, Q, nR, R, nP, P0, nN, N, nK, K) c))), (3, vI (c)), (0, .ref (gw_ad w 0))]) rfl (by decide) rfl dX6_fingerprint_108 ?_
                    refine g_iinc (pc := 109) hX (lv2 := [(3, vI (c + 1)), (1, vL ((31 * (hsN (sumZ (F, g, C, E, L, Q, nR, R, nP, P0, nN, N, nK, K)) (fnO (F, g, C, E, L, Q, nR, R, nP, P0, nN, N, nK, K) (31 * (fpO (F, g, C, E, L, Q, nR, R, nP, P0, nN, N, nK, K) (31 * (31 * (fbO (F, g, C, E, L, Q, nR, R, nP, P0, nN, N, nK, K) (hsN (scNum F g) (hsN F 191 8) 11) 4) + nR) + nP) nP.toNat) + nN) nN.toNat) (c : Int).toNat)) + (sumZ (F, g, C, E, L, Q, nR, R, nP, P0, nN, N, nK, K) c))), (0, .ref (gw_ad w 0))]) 1 rfl (by decide) rfl dX6_fingerprint_109 ?_
                    refine g_goto (pc := 112) (tgt := 92) hX dX6_fingerprint_112 (by decide) ?_
                    refine g_sub (lv2 := [(3, vI (c + 1)), (0, .ref (gw_ad w 0)), (1, vL ((31 * (hsN (sumZ (F, g, C, E, L, Q, nR, R, nP, P0, nN, N, nK, K)) (fnO (F, g, C, E, L, Q, nR, R, nP, P0, nN, N, nK, K) (31 * (fpO (F, g, C, E, L, Q, nR, R, nP, P0, nN, N, nK, K) (31 * (31 * (fbO (F, g, C, E, L, Q, nR, R, nP, P0, nN, N, nK, K) (hsN (scNum F g) (hsN F 191 8) 11) 4) + nR) + nP) nP.toNat) + nN) nN.toNat) (c : Int).toNat)) + (sumZ (F, g, C, E, L, Q, nR, R, nP, P0, nN, N, nK, K) c)))]) [0, 2, 1] rfl ?_
                    refine g_at rfl (lv2 := [(3, vI (c + 1)), (0, .ref (gw_ad w 0)), (1, vL (hsN (sumZ (F, g, C, E, L, Q, nR, R, nP, P0, nN, N, nK, K)) (fnO (F, g, C, E, L, Q, nR, R, nP, P0, nN, N, nK, K) (31 * (fpO (F, g, C, E, L, Q, nR, R, nP, P0, nN, N, nK, K) (31 * (31 * (fbO (F, g, C, E, L, Q, nR, R, nP, P0, nN, N, nK, K) (hsN (scNum F g) (hsN F 191 8) 11) 4) + nR) + nP) nP.toNat) + nN) nN.toNat) (c + 1 : Int).toNat))]) (by rw [hsN_s _ _ h1c]) rfl (S2 := S) (rfl) ?_
                    exact ihlz (c + 1)  (by omega) (by omega) (by omega) 
              refine g_sub (lv2 := [(3, vI (0)), (0, .ref (gw_ad w 0)), (1, vL (fnO (F, g, C, E, L, Q, nR, R, nP, P0, nN, N, nK, K) (31 * (fpO (F, g, C, E, L, Q, nR, R, nP, P0, nN, N, nK, K) (31 * ((31 * (fbO (F, g, C, E, L, Q, nR, R, nP, P0, nN, N, nK, K) (hsN (scNum F g) (hsN F 191 8) (c : Int).toNat) 4)) + nR) + nP) nP.toNat) + nN) nN.toNat))]) [0, 2, 1] rfl ?_
              refine g_at rfl (lv2 := [(3, vI (0)), (0, .ref (gw_ad w 0)), (1, vL (hsN (sumZ (F, g, C, E, L, Q, nR, R, nP, P0, nN, N, nK, K)) (fnO (F, g, C, E, L, Q, nR, R, nP, P0, nN, N, nK, K) (31 * (fpO (F, g, C, E, L, Q, nR, R, nP, P0, nN, N, nK, K) (31 * (31 * (fbO (F, g, C, E, L, Q, nR, R, nP, P0, nN, N, nK, K) (hsN (scNum F g) (hsN F 191 8) 11) 4) + nR) + nP) nP.toNat) + nN) nN.toNat) (0 : Int).toNat))]) (by rw [show c = 11 by omega]; rfl) rfl (S2 := S) (rfl) ?_
              exact lz ((5 : Int) - 0 + 1).toNat 0  (by omega) (by omega) (by omega) 
            · skip
              refine g_ldc2 (pc := 41) hX (z := 31) (List.mem_of_getElem? (i := 3) rfl) (by decide +kernel) dX6_fingerprint_41 ?_
              refine g_lload_n (pc := 44) hX 2 rfl dX6_fingerprint_44 ?_
              refine g_lmul (pc := 45) hX dX6_fingerprint_45 ?_
              refine g_aload_n (pc := 46) hX 1 rfl dX6_fingerprint_46 ?_
              refine g_iload_n (pc := 47) hX 0 rfl dX6_fingerprint_47 ?_
              refine g_callV1 (pc := 48) (ci := 6) (As := [vI (c)]) (st2 := [vL (31 * (hsN (scNum F g) (hsN F 191 8) (c : Int).toNat))]) hX 0 (by omega) d0 rfl (c_X6_scale (i := c) hN hd hO (by first | assumption | exact inI_mk (by omega) (by omega))) gX6_fingerprint_X6_scale (n := 1) (hw := rfl) (hrc := rfl) (hrs := rfl) (hd := by decide +kernel) (hR := ⟨Nat.le_of_ble_eq_true rfl, Nat.le_of_ble_eq_true rfl⟩) (hn := rfl) (hst := rfl) (hsum := Nat.le_of_ble_eq_true rfl) (hdg := dX6_fingerprint_48) ?_
              rintro _ S9 ⟨rfl, e9⟩
              rw [e9]
              clear e9 S9
              rw [if_pos (show 0 ≤ c ∧ c ≤ 10 by omega)]
              refine g_at (pc2 := 51) rfl rfl (st2 := [vI (scNum F g c), vL (31 * (hsN (scNum F g) (hsN F 191 8) (c : Int).toNat))]) rfl (S2 := S) rfl ?_
              refine g_i2l (pc := 51) hX (scNum_in hF hg c) dX6_fingerprint_51 ?_
              refine g_ladd (pc := 52) hX dX6_fingerprint_52 ?_
              refine g_lstore_n (pc := 53) hX (lv2 := [(1, vL ((31 * (hsN (scNum F g) (hsN F 191 8) (c : Int).toNat)) + (scNum F g c))), (3, vI (c)), (0, .ref (gw_ad w 0))]) rfl (by decide) rfl dX6_fingerprint_53 ?_
              refine g_iinc (pc := 54) hX (lv2 := [(3, vI (c + 1)), (1, vL ((31 * (hsN (scNum F g) (hsN F 191 8) (c : Int).toNat)) + (scNum F g c))), (0, .ref (gw_ad w 0))]) 1 rfl (by decide) rfl dX6_fingerprint_54 ?_
              refine g_goto (pc := 57) (tgt := 35) hX dX6_fingerprint_57 (by decide) ?_
              refine g_sub (lv2 := [(3, vI (c + 1)), (0, .ref (gw_ad w 0)), (1, vL ((31 * (hsN (scNum F g) (hsN F 191 8) (c : Int).toNat)) + (scNum F g c)))]) [0, 2, 1] rfl ?_
              refine g_at rfl (lv2 := [(3, vI (c + 1)), (0, .ref (gw_ad w 0)), (1, vL (hsN (scNum F g) (hsN F 191 8) (c + 1 : Int).toNat))]) (by rw [hsN_s _ _ h1c]) rfl (S2 := S) (rfl) ?_
              exact ihlb (c + 1)  (by omega) (by omega) (by omega) 
        refine g_sub (lv2 := [(3, vI (0)), (0, .ref (gw_ad w 0)), (1, vL (hsN F 191 (c : Int).toNat))]) [0, 1, 2] rfl ?_
        refine g_at rfl (lv2 := [(3, vI (0)), (0, .ref (gw_ad w 0)), (1, vL (hsN (scNum F g) (hsN F 191 8) (0 : Int).toNat))]) (by rw [show c = 8 by omega]; rfl) rfl (S2 := S) (rfl) ?_
        exact lb ((11 : Int) - 0 + 1).toNat 0  (by omega) (by omega) (by omega) 
      · skip
        refine g_ldc2 (pc := 14) hX (z := 31) (List.mem_of_getElem? (i := 3) rfl) (by decide +kernel) dX6_fingerprint_14 ?_
        refine g_lload_n (pc := 17) hX 2 rfl dX6_fingerprint_17 ?_
        refine g_lmul (pc := 18) hX dX6_fingerprint_18 ?_
        refine g_aload_n (pc := 19) hX 1 rfl dX6_fingerprint_19 ?_
        refine g_iload_n (pc := 20) hX 0 rfl dX6_fingerprint_20 ?_
        refine g_callV1 (pc := 21) (ci := 6) (As := [vI (c)]) (st2 := [vL (31 * (hsN F 191 (c : Int).toNat))]) hX 0 (by omega) d0 rfl (c_X6_setting (i := c) hN hd (by first | assumption | exact inI_mk (by omega) (by omega))) gX6_fingerprint_X6_setting (n := 1) (hw := rfl) (hrc := rfl) (hrs := rfl) (hd := by decide +kernel) (hR := ⟨Nat.le_of_ble_eq_true rfl, Nat.le_of_ble_eq_true rfl⟩) (hn := rfl) (hst := rfl) (hsum := Nat.le_of_ble_eq_true rfl) (hdg := dX6_fingerprint_21) ?_
        rintro _ S9 ⟨rfl, e9⟩
        rw [e9]
        clear e9 S9
        rw [if_pos (show 0 ≤ c ∧ c < 8 by omega)]
        refine g_at (pc2 := 24) rfl rfl (st2 := [vI (F c), vL (31 * (hsN F 191 (c : Int).toNat))]) rfl (S2 := S) rfl ?_
        refine g_i2l (pc := 24) hX (by have h9 := hF; obtain ⟨⟨q0, q1, q2, q3⟩, ⟨q4, q5, q6, q7⟩⟩ := h9; rcases (show c = 0 ∨ c = 1 ∨ c = 2 ∨ c = 3 ∨ c = 4 ∨ c = 5 ∨ c = 6 ∨ c = 7 by omega) with h | h | h | h | h | h | h | h <;> rw [h] <;> exact inI_mk (by omega) (by omega)) dX6_fingerprint_24 ?_
        refine g_ladd (pc := 25) hX dX6_fingerprint_25 ?_
        refine g_lstore_n (pc := 26) hX (lv2 := [(1, vL ((31 * (hsN F 191 (c : Int).toNat)) + (F c))), (3, vI (c)), (0, .ref (gw_ad w 0))]) rfl (by decide) rfl dX6_fingerprint_26 ?_
        refine g_iinc (pc := 27) hX (lv2 := [(3, vI (c + 1)), (1, vL ((31 * (hsN F 191 (c : Int).toNat)) + (F c))), (0, .ref (gw_ad w 0))]) 1 rfl (by decide) rfl dX6_fingerprint_27 ?_
        refine g_goto (pc := 30) (tgt := 6) hX dX6_fingerprint_30 (by decide) ?_
        refine g_sub (lv2 := [(3, vI (c + 1)), (0, .ref (gw_ad w 0)), (1, vL ((31 * (hsN F 191 (c : Int).toNat)) + (F c)))]) [0, 2, 1] rfl ?_
        refine g_at rfl (lv2 := [(3, vI (c + 1)), (0, .ref (gw_ad w 0)), (1, vL (hsN F 191 (c + 1 : Int).toNat))]) (by rw [hsN_s _ _ h1c]) rfl (S2 := S) (rfl) ?_
        exact ihla (c + 1)  (by omega) (by omega) (by omega) 
  refine g_sub (lv2 := [(3, vI (0)), (0, .ref (gw_ad w 0)), (1, vL (191))]) [0, 2, 1] rfl ?_
  refine g_at rfl (lv2 := [(3, vI (0)), (0, .ref (gw_ad w 0)), (1, vL (hsN F 191 (0 : Int).toNat))]) (rfl) rfl (S2 := S) (rfl) ?_
  exact la ((8 : Int) - 0 + 1).toNat 0  (by omega) (by omega) (by omega) 
