/-! ===== p35: the law's loop ===== -/
set_option maxHeartbeats 4000000 in
set_option maxRecDepth 100000 in
theorem law_step {w : gW} {X : gX} {b L : Nat} {f : Nat → Int} {S : Nat → va_E} {D : SD} {k : Int} (hX : gOK w room_1 X cL_law 21 RL wsL_law) (hSc : scrT w X b L f) (hL : L ≤ 260) (hf : ∀ j, inI (f j)) (hfin : ∀ S2, G w room_1 X 21 1523 [] [vI 1] S2) (hA : A0 w D S) (k0 : 0 ≤ k) (k30 : k ≤ 30) (hi : snP D ≤ k ∧ sG D 1 ≤ 3 * k)
    (hnext : k < 30 → ∀ (S2 : Nat → va_E) (D2 : SD) (P N Q : Int), A0 w D2 S2 → P = snP D2 → N = snN D2 → Q = snR D2 → (snP D2 ≤ k + 1 ∧ sG D2 1 ≤ 3 * k + 3) → G w room_1 X 21 130 [(0, .ref b), (1, .ref (gw_ad w 0)), (2, vI P), (3, vI N), (4, vI Q), (5, vI (k + 1))] [] S2) : G w room_1 X 21 130 [(0, .ref b), (1, .ref (gw_ad w 0)), (2, vI (snP D)), (3, vI (snN D)), (4, vI (snR D)), (5, vI (k))] [] S := by
  have hb := hA.b
  refine g_iload (pc := 130) hX 5 rfl dL_law_130 ?_
  refine g_bipush (pc := 132) hX (by decide) dL_law_132 ?_
  refine g_icmp_ge (pc := 134) (tgt := 1517) hX (by first | assumption | exact inI_mk (by omega) (by omega)) (by first | assumption | exact inI_mk (by omega) (by omega)) dL_law_134 (by decide) (fun c_134 => ?_) (fun c_134 => ?_)
  · skip
    refine g_aload_n (pc := 1517) hX 1 rfl dL_law_1517 ?_
    refine g_iload_n (pc := 1518) hX 2 rfl dL_law_1518 ?_
    refine g_iload_n (pc := 1519) hX 3 rfl dL_law_1519 ?_
    refine g_callT1 (pc := 1520) (As := [.ref (gw_ad w 0), vI (snP D), vI (snN D)]) (st2 := []) hX (c_L_fails hA) gL_law_L_fails (n := 3) (hw := rfl) (hrc := rfl) (hrs := rfl) (hd := by decide +kernel) (hR := ⟨Nat.le_of_ble_eq_true rfl, Nat.le_of_ble_eq_true rfl⟩) (hn := rfl) (hst := rfl) (hsum := Nat.le_of_ble_eq_true rfl) (hdg := dL_law_1520) ?_
    rintro _ S9 ⟨rfl, e9⟩
    rw [e9]
    clear e9 S9
    refine g_at (pc2 := 1523) rfl rfl (st2 := [vI (bz (true))]) rfl (S2 := S) rfl ?_
    refine g_sub (lv2 := []) [] rfl ?_
    refine g_at rfl rfl (st2 := [vI 1]) rfl rfl ?_
    exact hfin _
  · skip
    have hend : ∀ (D2 : SD) (S2 : Nat → va_E) (P : Int) (N : Int) (Q : Int), (A0 w D2 S2) → (P = snP D2) → (N = snN D2) → (Q = snR D2) → (snP D2 ≤ k + 1 ∧ sG D2 1 ≤ 3 * k + 3) → G w room_1 X 21 1488 [(8, vI (1)), (0, .ref b), (1, .ref (gw_ad w 0)), (2, vI (P)), (3, vI (N)), (4, vI (Q)), (5, vI (k))] [] S2 := by
      intro D2 S2 P N Q hA2 eP eN eQ hi2
      subst eP
      subst eN
      subst eQ
      refine g_iload (pc := 1488) hX 0 rfl dL_law_1488 ?_
      refine g_if_eq (pc := 1490) (tgt := 1509) hX (by first | assumption | exact inI_mk (by omega) (by omega)) dL_law_1490 (by decide) (fun c_1490 => ?_) (fun c_1490 => ?_)
      · skip
        exact absurd c_1490 (by omega)
      · skip
        refine g_aload_n (pc := 1493) hX 2 rfl dL_law_1493 ?_
        refine g_callT1 (pc := 1494) (As := [.ref (gw_ad w 0)]) (st2 := []) hX (c_L_scale hA2) gL_law_L_scale (n := 1) (hw := rfl) (hrc := rfl) (hrs := rfl) (hd := by decide +kernel) (hR := ⟨Nat.le_of_ble_eq_true rfl, Nat.le_of_ble_eq_true rfl⟩) (hn := rfl) (hst := rfl) (hsum := Nat.le_of_ble_eq_true rfl) (hdg := dL_law_1494) ?_
        rintro _ S9 ⟨rfl, e9⟩
        rw [e9]
        clear e9 S9
        refine g_at (pc2 := 1497) rfl rfl (st2 := [vI (bz (true))]) rfl (S2 := S2) rfl ?_
        refine g_bif_eq (pc := 1497) (tgt := 1509) hX dL_law_1497 (by decide) (fun c_1497 => ?_) (fun c_1497 => ?_)
        · skip
          exact absurd c_1497 (by decide)
        · skip
          refine g_aload_n (pc := 1500) hX 2 rfl dL_law_1500 ?_
          refine g_iload_n (pc := 1501) hX 3 rfl dL_law_1501 ?_
          refine g_iload_n (pc := 1502) hX 4 rfl dL_law_1502 ?_
          refine g_callT1 (pc := 1503) (As := [.ref (gw_ad w 0), vI (snP D2), vI (snN D2)]) (st2 := []) hX (c_L_sums hA2) gL_law_L_sums (n := 3) (hw := rfl) (hrc := rfl) (hrs := rfl) (hd := by decide +kernel) (hR := ⟨Nat.le_of_ble_eq_true rfl, Nat.le_of_ble_eq_true rfl⟩) (hn := rfl) (hst := rfl) (hsum := Nat.le_of_ble_eq_true rfl) (hdg := dL_law_1503) ?_
          rintro _ S9 ⟨rfl, e9⟩
          rw [e9]
          clear e9 S9
          refine g_at (pc2 := 1506) rfl rfl (st2 := [vI (bz (true))]) rfl (S2 := S2) rfl ?_
          refine g_bif_ne (pc := 1506) (tgt := 1511) hX dL_law_1506 (by decide) (fun c_1506 => ?_) (fun c_1506 => ?_)
          · skip
            refine g_iinc (pc := 1511) hX (lv2 := [(5, vI (k + 1)), (8, vI (1)), (0, .ref b), (1, .ref (gw_ad w 0)), (2, vI (snP D2)), (3, vI (snN D2)), (4, vI (snR D2))]) 6 rfl (by decide) rfl dL_law_1511 ?_
            refine g_goto (pc := 1514) (tgt := 130) hX dL_law_1514 (by decide) ?_
            refine g_sub (lv2 := [(0, .ref b), (1, .ref (gw_ad w 0)), (2, vI (snP D2)), (3, vI (snN D2)), (4, vI (snR D2)), (5, vI (k + 1))]) [2, 3, 4, 5, 6, 0] rfl ?_
            exact hnext c_134 S2 D2 _ _ _ hA2 rfl rfl rfl ⟨by omega, by omega⟩
          · skip
            exact absurd c_1506 (by decide)
    refine g_aload_n (pc := 137) hX 0 rfl dL_law_137 ?_
    refine g_iload (pc := 138) hX 5 rfl dL_law_138 ?_
    refine g_callTs (pc := 140) (As := [.ref b, vI (k)]) (st2 := []) hX hSc (c_L_cell hL hf (i := k) (by omega) (by omega)) gL_law_L_cell (n := 2) (hw := rfl) (hrc := rfl) (hrs := rfl) (hd := by decide +kernel) (hR := ⟨Nat.le_of_ble_eq_true rfl, Nat.le_of_ble_eq_true rfl⟩) (hn := rfl) (hst := rfl) (hsum := Nat.le_of_ble_eq_true rfl) (hdg := dL_law_140) ?_
    rintro _ S9 ⟨q, rfl, hq, e9⟩
    rw [e9]
    clear e9 S9
    refine g_at (pc2 := 143) rfl rfl (st2 := [vI (q)]) rfl (S2 := S) rfl ?_
    refine g_istore (pc := 143) hX (lv2 := [(6, vI (q)), (0, .ref b), (1, .ref (gw_ad w 0)), (2, vI (snP D)), (3, vI (snN D)), (4, vI (snR D)), (5, vI (k))]) (by decide) rfl dL_law_143 ?_
    refine g_iload (pc := 145) hX 0 rfl dL_law_145 ?_
    refine g_iconst (pc := 147) hX dL_law_147 ?_
    refine g_ishr (pc := 148) hX dL_law_148 ?_
    obtain ⟨a, ea⟩ : ∃ z : Int, z = shrZ q 4 := ⟨_, rfl⟩
    refine g_at rfl rfl (st2 := [vI (a)]) (by rw [ea]) rfl ?_
    refine g_istore (pc := 149) hX (lv2 := [(7, vI (a)), (6, vI (q)), (0, .ref b), (1, .ref (gw_ad w 0)), (2, vI (snP D)), (3, vI (snN D)), (4, vI (snR D)), (5, vI (k))]) (by decide) rfl dL_law_149 ?_
    have jh : ∀ (how : Int), (0 ≤ how ∧ how < 13) → G w room_1 X 21 171 [(0, .ref b), (1, .ref (gw_ad w 0)), (2, vI (snP D)), (3, vI (snN D)), (4, vI (snR D)), (5, vI (k)), (6, vI (q)), (7, vI (a)), (8, vI (1))] [vI (how)] S := by
      intro how hhow
      refine g_istore (pc := 171) hX (lv2 := [(9, vI (how)), (0, .ref b), (1, .ref (gw_ad w 0)), (2, vI (snP D)), (3, vI (snN D)), (4, vI (snR D)), (5, vI (k)), (6, vI (q)), (7, vI (a)), (8, vI (1))]) (by decide) rfl dL_law_171 ?_
      refine g_aload_n (pc := 173) hX 2 rfl dL_law_173 ?_
      refine g_callD (pc := 174) (As := []) (st2 := []) hX hA.N hA.e (q_fingerprint hA) gL_law_X6_fingerprint (n := 0) (hw := rfl) (hrc := rfl) (hrs := rfl) (hd := by decide +kernel) (hR := ⟨Nat.le_of_ble_eq_true rfl, Nat.le_of_ble_eq_true rfl⟩) (hn := rfl) (hst := rfl) (hsum := Nat.le_of_ble_eq_true rfl) (hdg := dL_law_174) ?_
      rintro _ S9 ⟨rfl, e9⟩
      rw [e9]
      clear e9 S9
      refine g_at (pc2 := 177) rfl rfl (st2 := [vL (fpZ D)]) rfl (S2 := S) rfl ?_
      refine g_lstore (pc := 177) hX (lv2 := [(10, vL (fpZ D)), (9, vI (how)), (0, .ref b), (1, .ref (gw_ad w 0)), (2, vI (snP D)), (3, vI (snN D)), (4, vI (snR D)), (5, vI (k)), (6, vI (q)), (7, vI (a)), (8, vI (1))]) (by decide) rfl dL_law_177 ?_
      refine g_iload (pc := 179) hX 1 rfl dL_law_179 ?_
      refine g_if_ne (pc := 181) (tgt := 263) hX (by first | assumption | exact inI_mk (by omega) (by omega)) dL_law_181 (by decide) (fun c_181 => ?_) (fun c_181 => ?_)
      · skip
        refine g_iload (pc := 263) hX 1 rfl dL_law_263 ?_
        refine g_iconst (pc := 265) hX dL_law_265 ?_
        refine g_icmp_ge (pc := 266) (tgt := 605) hX (by first | assumption | exact inI_mk (by omega) (by omega)) (by first | assumption | exact inI_mk (by omega) (by omega)) dL_law_266 (by decide) (fun c_266 => ?_) (fun c_266 => ?_)
        · skip
          refine g_iload (pc := 605) hX 1 rfl dL_law_605 ?_
          refine g_iconst (pc := 607) hX dL_law_607 ?_
          refine g_icmp_ne (pc := 608) (tgt := 800) hX (by first | assumption | exact inI_mk (by omega) (by omega)) (by first | assumption | exact inI_mk (by omega) (by omega)) dL_law_608 (by decide) (fun c_608 => ?_) (fun c_608 => ?_)
          · skip
            refine g_iload (pc := 800) hX 1 rfl dL_law_800 ?_
            refine g_iconst (pc := 802) hX dL_law_802 ?_
            refine g_icmp_ne (pc := 803) (tgt := 908) hX (by first | assumption | exact inI_mk (by omega) (by omega)) (by first | assumption | exact inI_mk (by omega) (by omega)) dL_law_803 (by decide) (fun c_803 => ?_) (fun c_803 => ?_)
            · skip
              refine g_iload (pc := 908) hX 1 rfl dL_law_908 ?_
              refine g_bipush (pc := 910) hX (by decide) dL_law_910 ?_
              refine g_icmp_ne (pc := 912) (tgt := 998) hX (by first | assumption | exact inI_mk (by omega) (by omega)) (by first | assumption | exact inI_mk (by omega) (by omega)) dL_law_912 (by decide) (fun c_912 => ?_) (fun c_912 => ?_)
              · skip
                refine g_iload (pc := 998) hX 1 rfl dL_law_998 ?_
                refine g_bipush (pc := 1000) hX (by decide) dL_law_1000 ?_
                refine g_icmp_ne (pc := 1002) (tgt := 1079) hX (by first | assumption | exact inI_mk (by omega) (by omega)) (by first | assumption | exact inI_mk (by omega) (by omega)) dL_law_1002 (by decide) (fun c_1002 => ?_) (fun c_1002 => ?_)
                · skip
                  refine g_iload (pc := 1079) hX 1 rfl dL_law_1079 ?_
                  refine g_bipush (pc := 1081) hX (by decide) dL_law_1081 ?_
                  refine g_icmp_ne (pc := 1083) (tgt := 1174) hX (by first | assumption | exact inI_mk (by omega) (by omega)) (by first | assumption | exact inI_mk (by omega) (by omega)) dL_law_1083 (by decide) (fun c_1083 => ?_) (fun c_1083 => ?_)
                  · skip
                    refine g_iload (pc := 1174) hX 1 rfl dL_law_1174 ?_
                    refine g_bipush (pc := 1176) hX (by decide) dL_law_1176 ?_
                    refine g_icmp_ge (pc := 1178) (tgt := 1472) hX (by first | assumption | exact inI_mk (by omega) (by omega)) (by first | assumption | exact inI_mk (by omega) (by omega)) dL_law_1178 (by decide) (fun c_1178 => ?_) (fun c_1178 => ?_)
                    · skip
                      refine g_iload_n (pc := 1472) hX 4 rfl dL_law_1472 ?_
                      refine g_if_le (pc := 1473) (tgt := 1488) hX (by first | assumption | exact inI_mk (by omega) (by omega)) dL_law_1473 (by decide) (fun c_1473 => ?_) (fun c_1473 => ?_)
                      · skip
                        refine g_sub (lv2 := [(8, vI (1)), (0, .ref b), (1, .ref (gw_ad w 0)), (2, vI (snP D)), (3, vI (snN D)), (4, vI (snR D)), (5, vI (k))]) [10, 2, 3, 4, 5, 6, 7] rfl ?_
                        exact hend D S _ _ _ hA rfl rfl rfl ⟨by omega, by omega⟩
                      · skip
                        refine g_sub (lv2 := [(0, .ref b), (1, .ref (gw_ad w 0)), (2, vI (snP D)), (3, vI (snN D)), (4, vI (snR D)), (5, vI (k)), (6, vI (q)), (7, vI (a)), (8, vI (1)), (9, vI (how)), (10, vL (fpZ D))]) [2, 3, 4, 5, 6, 7, 8, 9, 10, 1, 0] rfl ?_
                        exact law_cheap hX hSc hL hf hA ⟨k0, by omega⟩ (by omega) hi hend
                    · skip
                      refine g_iload_n (pc := 1181) hX 4 rfl dL_law_1181 ?_
                      refine g_if_le (pc := 1182) (tgt := 1472) hX (by first | assumption | exact inI_mk (by omega) (by omega)) dL_law_1182 (by decide) (fun c_1182 => ?_) (fun c_1182 => ?_)
                      · skip
                        refine g_iload_n (pc := 1472) hX 4 rfl dL_law_1472 ?_
                        refine g_if_le (pc := 1473) (tgt := 1488) hX (by first | assumption | exact inI_mk (by omega) (by omega)) dL_law_1473 (by decide) (fun c_1473 => ?_) (fun c_1473 => ?_)
                        · skip
                          refine g_sub (lv2 := [(8, vI (1)), (0, .ref b), (1, .ref (gw_ad w 0)), (2, vI (snP D)), (3, vI (snN D)), (4, vI (snR D)), (5, vI (k))]) [10, 2, 3, 4, 5, 6, 7] rfl ?_
                          exact hend D S _ _ _ hA rfl rfl rfl ⟨by omega, by omega⟩
                        · skip
                          refine g_sub (lv2 := [(0, .ref b), (1, .ref (gw_ad w 0)), (2, vI (snP D)), (3, vI (snN D)), (4, vI (snR D)), (5, vI (k)), (6, vI (q)), (7, vI (a)), (8, vI (1)), (9, vI (how)), (10, vL (fpZ D))]) [2, 3, 4, 5, 6, 7, 8, 9, 10, 1, 0] rfl ?_
                          exact law_cheap hX hSc hL hf hA ⟨k0, by omega⟩ (by omega) hi hend
                      · skip
                        refine g_sub (lv2 := [(0, .ref b), (1, .ref (gw_ad w 0)), (2, vI (snP D)), (3, vI (snN D)), (4, vI (snR D)), (5, vI (k)), (6, vI (q)), (7, vI (a)), (8, vI (1)), (9, vI (how)), (10, vL (fpZ D))]) [2, 3, 4, 5, 6, 7, 8, 9, 10, 1, 0] rfl ?_
                        exact law_disp hX hSc hL hf hA ⟨k0, by omega⟩ (by omega) hi hend
                  · skip
                    refine g_sub (lv2 := [(0, .ref b), (1, .ref (gw_ad w 0)), (2, vI (snP D)), (3, vI (snN D)), (4, vI (snR D)), (5, vI (k)), (6, vI (q)), (7, vI (a)), (8, vI (1)), (9, vI (how)), (10, vL (fpZ D))]) [2, 3, 4, 5, 6, 7, 8, 9, 10, 1, 0] rfl ?_
                    exact law_unband hX hSc hL hf hA ⟨k0, by omega⟩ hi hend
                · skip
                  refine g_sub (lv2 := [(0, .ref b), (1, .ref (gw_ad w 0)), (2, vI (snP D)), (3, vI (snN D)), (4, vI (snR D)), (5, vI (k)), (6, vI (q)), (7, vI (a)), (8, vI (1)), (9, vI (how)), (10, vL (fpZ D))]) [2, 3, 4, 5, 6, 7, 8, 9, 10, 1, 0] rfl ?_
                  exact law_rule hX hSc hL hf hA ⟨k0, by omega⟩ hi hend
              · skip
                refine g_sub (lv2 := [(0, .ref b), (1, .ref (gw_ad w 0)), (2, vI (snP D)), (3, vI (snN D)), (4, vI (snR D)), (5, vI (k)), (6, vI (q)), (7, vI (a)), (8, vI (1)), (9, vI (how)), (10, vL (fpZ D))]) [2, 3, 4, 5, 6, 7, 8, 9, 10, 1, 0] rfl ?_
                exact law_tare hX hSc hL hf hA ⟨k0, by omega⟩ hi hend
            · skip
              refine g_sub (lv2 := [(0, .ref b), (1, .ref (gw_ad w 0)), (2, vI (snP D)), (3, vI (snN D)), (4, vI (snR D)), (5, vI (k)), (6, vI (q)), (7, vI (a)), (8, vI (1)), (9, vI (how)), (10, vL (fpZ D))]) [2, 3, 4, 5, 6, 7, 8, 9, 10, 1, 0] rfl ?_
              exact law_zero hX hSc hL hf hA ⟨k0, by omega⟩ hi hend
          · skip
            refine g_sub (lv2 := [(0, .ref b), (1, .ref (gw_ad w 0)), (2, vI (snP D)), (3, vI (snN D)), (4, vI (snR D)), (5, vI (k)), (6, vI (q)), (7, vI (a)), (8, vI (1)), (9, vI (how)), (10, vL (fpZ D))]) [2, 3, 4, 5, 6, 7, 8, 9, 10, 1, 0] rfl ?_
            exact law_set hX hSc hL hf hA ⟨k0, by omega⟩ hi hend
        · skip
          refine g_sub (lv2 := [(0, .ref b), (1, .ref (gw_ad w 0)), (2, vI (snP D)), (3, vI (snN D)), (4, vI (snR D)), (5, vI (k)), (6, vI (q)), (7, vI (a)), (8, vI (1)), (9, vI (how)), (10, vL (fpZ D))]) [2, 3, 4, 5, 6, 7, 8, 9, 10, 1, 0] rfl ?_
          exact law_load hX hSc hL hf hA ⟨k0, by omega⟩ hi hend
      · skip
        refine g_sub (lv2 := [(0, .ref b), (1, .ref (gw_ad w 0)), (2, vI (snP D)), (3, vI (snN D)), (4, vI (snR D)), (5, vI (k)), (6, vI (q)), (7, vI (a)), (8, vI (1)), (9, vI (how)), (10, vL (fpZ D))]) [2, 3, 4, 5, 6, 7, 8, 9, 10, 1, 0] rfl ?_
        exact law_band hX hSc hL hf hA ⟨k0, by omega⟩ hi hend
    refine g_iconst (pc := 151) hX dL_law_151 ?_
    refine g_istore (pc := 152) hX (lv2 := [(8, vI (1)), (7, vI (a)), (6, vI (q)), (0, .ref b), (1, .ref (gw_ad w 0)), (2, vI (snP D)), (3, vI (snN D)), (4, vI (snR D)), (5, vI (k))]) (by decide) rfl dL_law_152 ?_
    refine g_iload (pc := 154) hX 8 rfl dL_law_154 ?_
    refine g_iconst (pc := 156) hX dL_law_156 ?_
    refine g_icmp_ge (pc := 157) (tgt := 164) hX (by first | assumption | exact inI_mk (by omega) (by omega)) (by first | assumption | exact inI_mk (by omega) (by omega)) dL_law_157 (by decide) (fun c_157 => ?_) (fun c_157 => ?_)
    · skip
      refine g_iload (pc := 164) hX 2 rfl dL_law_164 ?_
      refine g_bipush (pc := 166) hX (by decide) dL_law_166 ?_
      refine g_callT1 (pc := 168) (As := [vI (q), vI (13)]) (st2 := []) hX (c_L_up (x := q) (m := 13) (by omega) (by omega)) gL_law_L_up (n := 2) (hw := rfl) (hrc := rfl) (hrs := rfl) (hd := by decide +kernel) (hR := ⟨Nat.le_of_ble_eq_true rfl, Nat.le_of_ble_eq_true rfl⟩) (hn := rfl) (hst := rfl) (hsum := Nat.le_of_ble_eq_true rfl) (hdg := dL_law_168) ?_
      rintro _ S9 ⟨rfl, e9⟩
      rw [e9]
      clear e9 S9
      refine g_at (pc2 := 171) rfl rfl (st2 := [vI (upZ q 13)]) rfl (S2 := S) rfl ?_
      obtain ⟨h0, eh0⟩ : ∃ z : Int, z = upZ q 13 := ⟨_, rfl⟩
      refine g_at rfl rfl (st2 := [vI (h0)]) (by rw [eh0]) rfl ?_
      have hh0 : 0 ≤ h0 ∧ h0 < 13 := by rw [eh0]; exact upZ_b _ (by decide)
      refine g_sub (lv2 := [(0, .ref b), (1, .ref (gw_ad w 0)), (2, vI (snP D)), (3, vI (snN D)), (4, vI (snR D)), (5, vI (k)), (6, vI (q)), (7, vI (a)), (8, vI (1))]) [3, 4, 5, 6, 7, 8, 2, 1, 0] rfl ?_
      exact jh (h0) (by omega)
    · skip
      refine g_iconst (pc := 160) hX dL_law_160 ?_
      refine g_goto (pc := 161) (tgt := 171) hX dL_law_161 (by decide) ?_
      refine g_sub (lv2 := [(0, .ref b), (1, .ref (gw_ad w 0)), (2, vI (snP D)), (3, vI (snN D)), (4, vI (snR D)), (5, vI (k)), (6, vI (q)), (7, vI (a)), (8, vI (1))]) [3, 4, 5, 6, 7, 8, 2, 1, 0] rfl ?_
      exact jh (0) (by omega)

theorem law_loop {w : gW} {X : gX} {b L : Nat} {f : Nat → Int} (hX : gOK w room_1 X cL_law 21 RL wsL_law) (hSc : scrT w X b L f) (hL : L ≤ 260) (hf : ∀ j, inI (f j)) (hfin : ∀ S2, G w room_1 X 21 1523 [] [vI 1] S2) : ∀ (n : Nat) (k : Int) (S : Nat → va_E) (D : SD) (P N Q : Int), 0 ≤ k → k ≤ 30 → 30 - k < n → A0 w D S → P = snP D → N = snN D → Q = snR D → (snP D ≤ k ∧ sG D 1 ≤ 3 * k) → G w room_1 X 21 130 [(0, .ref b), (1, .ref (gw_ad w 0)), (2, vI P), (3, vI N), (4, vI Q), (5, vI k)] [] S
  | 0, k, S, D, P, N, Q, k0, k30, hn, _, _, _, _, _ => absurd hn (by omega)
  | n + 1, k, S, D, P, N, Q, k0, k30, hn, hA, eP, eN, eQ, hi => by
    subst eP
    subst eN
    subst eQ
    exact law_step hX hSc hL hf hfin hA k0 k30 hi (fun hk S2 D2 P N Q hA2 e1 e2 e3 hi2 => law_loop hX hSc hL hf hfin n (k + 1) S2 D2 P N Q (by omega) (by omega) (by omega) hA2 e1 e2 e3 ⟨hi2.1, by omega⟩)

