/-! ===== p35: a new desk, and what the law asks of it first ===== -/
theorem ar_0 : arI D0 := ⟨fun _ _ => inI_0, fun _ _ => inI_0, fun _ _ => inI_0, fun _ _ => inI_0, fun _ _ => inI_0, fun _ _ => inI_0⟩
theorem d0_gross : scGross (sF D0) (sG D0) = 0 := by decide
theorem ok_0 : ok35 D0 := ⟨stOK_0, fun z a b i j i0 ij j1 => absurd j1 (by show ¬ j < 0; omega), fun p a b => absurd b (by show ¬ p < 0; omega), fun n a b => absurd b (by show ¬ n < 0; omega), fun n m a b => absurd b (by show ¬ n < 0; omega)⟩
theorem rd_0 : rdOK 100 z0F := by unfold rdOK; decide
theorem dk_0 : deskOK 0 z0F z0F z2F D0 := ⟨stOK_0, ⟨by decide, by decide⟩, fun i a b => absurd b (by omega), fun _ => inI_0, rd_0, fun _ _ => inI_0⟩
theorem hi_0 : hi35 0 0 (fun _ => D0) := ⟨by decide, by decide, fun _ _ => ⟨stOK_0.c, ar_0⟩⟩
theorem ad_0 {w : gW} {S : Nat → va_E} (hN : gw_N w = 92) (hd : deskAt w 0 0 0 z0F z0F z0F z2F D0 (fun _ => D0) S) : A0 w D0 S := ⟨0, 0, z0F, z0F, z0F, z2F, fun _ => D0, hN, hd, dk_0, hi_0, ok_0, buf_0 _, fun _ => inI_0, inI_0⟩
theorem q_undo0 {w : gW} {l : Launch} {S : Nat → va_E} (hN : gw_N w = 92) (hd : deskAt w 0 0 0 z0F z0F z0F z2F D0 (fun _ => D0) S) : GM1 w l yX6_undo wsX6_undo { frames := 4, cells := 0, slots := 0, locals := 91 } [.ref (gw_ad w 0)] S (fun v S2 => v = vI (-1000009) ∧ S2 = S) :=
  GM1.mono (c_X6_undo hN hd dk_0 hi_0.c) (fun v S2 k => by rw [if_neg (by decide)] at k; exact k)
set_option maxHeartbeats 4000000 in
set_option maxRecDepth 100000 in
theorem law_head {w : gW} {X : gX} {b L : Nat} {f : Nat → Int} {S : Nat → va_E} (hX : gOK w room_1 X cL_law 21 RL wsL_law) (hSc : scrT w X b L f) (hL : L ≤ 260) (hf : ∀ j, inI (f j)) (hfin : ∀ S2, G w room_1 X 21 1523 [] [vI 1] S2) (hN : gw_N w = 92) (hd : deskAt w 0 0 0 z0F z0F z0F z2F D0 (fun _ => D0) S) : G w room_1 X 21 8 [(1, .ref (gw_ad w 0)), (0, .ref b)] [] S := by
  have hA := ad_0 hN hd
  refine g_aload_n (pc := 8) hX 0 rfl dL_law_8 ?_
  refine g_callD (pc := 9) (As := []) (st2 := []) hX hA.N hA.e (q_undo0 hN hd) gL_law_X6_undo (n := 0) (hw := rfl) (hrc := rfl) (hrs := rfl) (hd := by decide +kernel) (hR := ⟨Nat.le_of_ble_eq_true rfl, Nat.le_of_ble_eq_true rfl⟩) (hn := rfl) (hst := rfl) (hsum := Nat.le_of_ble_eq_true rfl) (hdg := dL_law_9) ?_
  rintro _ S9 ⟨rfl, e9⟩
  rw [e9]
  clear e9 S9
  refine g_at (pc2 := 12) rfl rfl (st2 := [vI (-1000009)]) rfl (S2 := S) rfl ?_
  refine g_ldc (pc := 12) hX (z := -1000009) (List.mem_of_getElem? (i := 3) rfl) (by decide +kernel) dL_law_12 ?_
  refine g_icmp_ne (pc := 14) (tgt := 118) hX (by first | assumption | exact inI_mk (by omega) (by omega)) (by first | assumption | exact inI_mk (by omega) (by omega)) dL_law_14 (by decide) (fun c_14 => ?_) (fun c_14 => ?_)
  · skip
    exact absurd c_14 (by omega)
  · skip
    refine g_aload_n (pc := 17) hX 0 rfl dL_law_17 ?_
    refine g_callD (pc := 18) (As := []) (st2 := []) hX hA.N hA.e (q_parcels hA) gL_law_X6_parcels (n := 0) (hw := rfl) (hrc := rfl) (hrs := rfl) (hd := by decide +kernel) (hR := ⟨Nat.le_of_ble_eq_true rfl, Nat.le_of_ble_eq_true rfl⟩) (hn := rfl) (hst := rfl) (hsum := Nat.le_of_ble_eq_true rfl) (hdg := dL_law_18) ?_
    rintro _ S9 ⟨rfl, e9⟩
    rw [e9]
    clear e9 S9
    refine g_at (pc2 := 21) rfl rfl (st2 := [vI (snP D0)]) rfl (S2 := S) rfl ?_
    refine g_at rfl rfl (st2 := [vI (0)]) (by rfl) rfl ?_
    refine g_if_ne (pc := 21) (tgt := 118) hX (by first | assumption | exact inI_mk (by omega) (by omega)) dL_law_21 (by decide) (fun c_21 => ?_) (fun c_21 => ?_)
    · skip
      exact absurd c_21 (by omega)
    · skip
      refine g_aload_n (pc := 24) hX 0 rfl dL_law_24 ?_
      refine g_callD (pc := 25) (As := []) (st2 := []) hX hA.N hA.e (q_notes hA) gL_law_X6_notes (n := 0) (hw := rfl) (hrc := rfl) (hrs := rfl) (hd := by decide +kernel) (hR := ⟨Nat.le_of_ble_eq_true rfl, Nat.le_of_ble_eq_true rfl⟩) (hn := rfl) (hst := rfl) (hsum := Nat.le_of_ble_eq_true rfl) (hdg := dL_law_25) ?_
      rintro _ S9 ⟨rfl, e9⟩
      rw [e9]
      clear e9 S9
      refine g_at (pc2 := 28) rfl rfl (st2 := [vI (snN D0)]) rfl (S2 := S) rfl ?_
      refine g_at rfl rfl (st2 := [vI (0)]) (by rfl) rfl ?_
      refine g_if_ne (pc := 28) (tgt := 118) hX (by first | assumption | exact inI_mk (by omega) (by omega)) dL_law_28 (by decide) (fun c_28 => ?_) (fun c_28 => ?_)
      · skip
        exact absurd c_28 (by omega)
      · skip
        refine g_aload_n (pc := 31) hX 0 rfl dL_law_31 ?_
        refine g_callD (pc := 32) (As := []) (st2 := []) hX hA.N hA.e (q_rules hA) gL_law_X6_rules (n := 0) (hw := rfl) (hrc := rfl) (hrs := rfl) (hd := by decide +kernel) (hR := ⟨Nat.le_of_ble_eq_true rfl, Nat.le_of_ble_eq_true rfl⟩) (hn := rfl) (hst := rfl) (hsum := Nat.le_of_ble_eq_true rfl) (hdg := dL_law_32) ?_
        rintro _ S9 ⟨rfl, e9⟩
        rw [e9]
        clear e9 S9
        refine g_at (pc2 := 35) rfl rfl (st2 := [vI (snR D0)]) rfl (S2 := S) rfl ?_
        refine g_at rfl rfl (st2 := [vI (0)]) (by rfl) rfl ?_
        refine g_if_ne (pc := 35) (tgt := 118) hX (by first | assumption | exact inI_mk (by omega) (by omega)) dL_law_35 (by decide) (fun c_35 => ?_) (fun c_35 => ?_)
        · skip
          exact absurd c_35 (by omega)
        · skip
          refine g_aload_n (pc := 38) hX 0 rfl dL_law_38 ?_
          refine g_iconst (pc := 39) hX dL_law_39 ?_
          refine g_callD (pc := 40) (As := [vI (2)]) (st2 := []) hX hA.N hA.e (q_scale2 hA) gL_law_X6_scale (n := 1) (hw := rfl) (hrc := rfl) (hrs := rfl) (hd := by decide +kernel) (hR := ⟨Nat.le_of_ble_eq_true rfl, Nat.le_of_ble_eq_true rfl⟩) (hn := rfl) (hst := rfl) (hsum := Nat.le_of_ble_eq_true rfl) (hdg := dL_law_40) ?_
          rintro _ S9 ⟨rfl, e9⟩
          rw [e9]
          clear e9 S9
          refine g_at (pc2 := 43) rfl rfl (st2 := [vI (scGross (sF D0) (sG D0))]) rfl (S2 := S) rfl ?_
          refine g_at rfl rfl (st2 := [vI (0)]) (by rw [show scGross (sF D0) (sG D0) = 0 from d0_gross]) rfl ?_
          refine g_if_ne (pc := 43) (tgt := 118) hX (by first | assumption | exact inI_mk (by omega) (by omega)) dL_law_43 (by decide) (fun c_43 => ?_) (fun c_43 => ?_)
          · skip
            exact absurd c_43 (by omega)
          · skip
            refine g_aload_n (pc := 46) hX 0 rfl dL_law_46 ?_
            refine g_bipush (pc := 47) hX (by decide) dL_law_47 ?_
            refine g_callD (pc := 49) (As := [vI (7)]) (st2 := []) hX hA.N hA.e (q_scale7 hA) gL_law_X6_scale (n := 1) (hw := rfl) (hrc := rfl) (hrs := rfl) (hd := by decide +kernel) (hR := ⟨Nat.le_of_ble_eq_true rfl, Nat.le_of_ble_eq_true rfl⟩) (hn := rfl) (hst := rfl) (hsum := Nat.le_of_ble_eq_true rfl) (hdg := dL_law_49) ?_
            rintro _ S9 ⟨rfl, e9⟩
            rw [e9]
            clear e9 S9
            refine g_at (pc2 := 52) rfl rfl (st2 := [vI (bz (scSteady (sF D0) (sG D0)))]) rfl (S2 := S) rfl ?_
            refine g_bif_ne (pc := 52) (tgt := 118) hX dL_law_52 (by decide) (fun c_52 => ?_) (fun c_52 => ?_)
            · skip
              exact absurd c_52 (by decide)
            · skip
              refine g_aload_n (pc := 55) hX 0 rfl dL_law_55 ?_
              refine g_callD (pc := 56) (As := []) (st2 := []) hX hA.N hA.e (s_zero hA (fun q => absurd q.1 (by decide))) gL_law_X6_zero (n := 0) (hw := rfl) (hrc := rfl) (hrs := rfl) (hd := by decide +kernel) (hR := ⟨Nat.le_of_ble_eq_true rfl, Nat.le_of_ble_eq_true rfl⟩) (hn := rfl) (hst := rfl) (hsum := Nat.le_of_ble_eq_true rfl) (hdg := dL_law_56) ?_
              rintro _ S9 ⟨rfl, e9⟩
              rw [e9]
              clear e9 S9
              refine g_at (pc2 := 59) rfl rfl (st2 := [vI (-1000002)]) rfl (S2 := S) rfl ?_
              refine g_ldc (pc := 59) hX (z := -1000002) (List.mem_of_getElem? (i := 4) rfl) (by decide +kernel) dL_law_59 ?_
              refine g_icmp_ne (pc := 61) (tgt := 118) hX (by first | assumption | exact inI_mk (by omega) (by omega)) (by first | assumption | exact inI_mk (by omega) (by omega)) dL_law_61 (by decide) (fun c_61 => ?_) (fun c_61 => ?_)
              · skip
                exact absurd c_61 (by omega)
              · skip
                refine g_aload_n (pc := 64) hX 0 rfl dL_law_64 ?_
                refine g_callD (pc := 65) (As := []) (st2 := []) hX hA.N hA.e (s_tare hA (fun q => absurd q.1 (by decide))) gL_law_X6_tare (n := 0) (hw := rfl) (hrc := rfl) (hrs := rfl) (hd := by decide +kernel) (hR := ⟨Nat.le_of_ble_eq_true rfl, Nat.le_of_ble_eq_true rfl⟩) (hn := rfl) (hst := rfl) (hsum := Nat.le_of_ble_eq_true rfl) (hdg := dL_law_65) ?_
                rintro _ S9 ⟨rfl, e9⟩
                rw [e9]
                clear e9 S9
                refine g_at (pc2 := 68) rfl rfl (st2 := [vI (-1000002)]) rfl (S2 := S) rfl ?_
                refine g_ldc (pc := 68) hX (z := -1000002) (List.mem_of_getElem? (i := 4) rfl) (by decide +kernel) dL_law_68 ?_
                refine g_icmp_ne (pc := 70) (tgt := 118) hX (by first | assumption | exact inI_mk (by omega) (by omega)) (by first | assumption | exact inI_mk (by omega) (by omega)) dL_law_70 (by decide) (fun c_70 => ?_) (fun c_70 => ?_)
                · skip
                  exact absurd c_70 (by omega)
                · skip
                  refine g_aload_n (pc := 73) hX 0 rfl dL_law_73 ?_
                  refine g_callD (pc := 74) (As := []) (st2 := []) hX hA.N hA.e (s_unrule hA (by decide)) gL_law_X6_unrule (n := 0) (hw := rfl) (hrc := rfl) (hrs := rfl) (hd := by decide +kernel) (hR := ⟨Nat.le_of_ble_eq_true rfl, Nat.le_of_ble_eq_true rfl⟩) (hn := rfl) (hst := rfl) (hsum := Nat.le_of_ble_eq_true rfl) (hdg := dL_law_74) ?_
                  rintro _ S9 ⟨rfl, e9⟩
                  rw [e9]
                  clear e9 S9
                  refine g_at (pc2 := 77) rfl rfl (st2 := [vI (-1000002)]) rfl (S2 := S) rfl ?_
                  refine g_ldc (pc := 77) hX (z := -1000002) (List.mem_of_getElem? (i := 4) rfl) (by decide +kernel) dL_law_77 ?_
                  refine g_icmp_ne (pc := 79) (tgt := 118) hX (by first | assumption | exact inI_mk (by omega) (by omega)) (by first | assumption | exact inI_mk (by omega) (by omega)) dL_law_79 (by decide) (fun c_79 => ?_) (fun c_79 => ?_)
                  · skip
                    exact absurd c_79 (by omega)
                  · skip
                    refine g_aload_n (pc := 82) hX 0 rfl dL_law_82 ?_
                    refine g_iconst (pc := 83) hX dL_law_83 ?_
                    refine g_iconst (pc := 84) hX dL_law_84 ?_
                    refine g_iconst (pc := 85) hX dL_law_85 ?_
                    refine g_iconst (pc := 86) hX dL_law_86 ?_
                    refine g_callD (pc := 87) (As := [vI (1), vI (1), vI (1), vI (0)]) (st2 := []) hX hA.N hA.e (s_take hA (a := 1) (b := 1) (c := 1) (z := 0) ⟨by decide, by decide⟩ ⟨by decide, by decide⟩ ⟨by decide, by decide⟩ ⟨by decide, by decide⟩ (fun q => absurd q.1 (by decide))) gL_law_X6_take (n := 4) (hw := rfl) (hrc := rfl) (hrs := rfl) (hd := by decide +kernel) (hR := ⟨Nat.le_of_ble_eq_true rfl, Nat.le_of_ble_eq_true rfl⟩) (hn := rfl) (hst := rfl) (hsum := Nat.le_of_ble_eq_true rfl) (hdg := dL_law_87) ?_
                    rintro _ S9 ⟨rfl, e9⟩
                    rw [e9]
                    clear e9 S9
                    refine g_at (pc2 := 90) rfl rfl (st2 := [vI (-1000002)]) rfl (S2 := S) rfl ?_
                    refine g_ldc (pc := 90) hX (z := -1000002) (List.mem_of_getElem? (i := 4) rfl) (by decide +kernel) dL_law_90 ?_
                    refine g_icmp_ne (pc := 92) (tgt := 118) hX (by first | assumption | exact inI_mk (by omega) (by omega)) (by first | assumption | exact inI_mk (by omega) (by omega)) dL_law_92 (by decide) (fun c_92 => ?_) (fun c_92 => ?_)
                    · skip
                      exact absurd c_92 (by omega)
                    · skip
                      refine g_aload_n (pc := 95) hX 0 rfl dL_law_95 ?_
                      refine g_iconst (pc := 96) hX dL_law_96 ?_
                      refine g_iconst (pc := 97) hX dL_law_97 ?_
                      refine g_iconst (pc := 98) hX dL_law_98 ?_
                      refine g_iconst (pc := 99) hX dL_law_99 ?_
                      refine g_iconst (pc := 100) hX dL_law_100 ?_
                      refine g_callD (pc := 101) (As := [vI (1), vI (1), vI (1), vI (1), vI (0)]) (st2 := []) hX hA.N hA.e (s_quote hA (m := 1) (a := 1) (b := 1) (c := 1) (z := 0) ⟨by decide, by decide⟩ ⟨by decide, by decide⟩ ⟨by decide, by decide⟩ ⟨by decide, by decide⟩ ⟨by decide, by decide⟩ (by decide)) gL_law_X6_quote (n := 5) (hw := rfl) (hrc := rfl) (hrs := rfl) (hd := by decide +kernel) (hR := ⟨Nat.le_of_ble_eq_true rfl, Nat.le_of_ble_eq_true rfl⟩) (hn := rfl) (hst := rfl) (hsum := Nat.le_of_ble_eq_true rfl) (hdg := dL_law_101) ?_
                      rintro _ S9 ⟨rfl, e9⟩
                      rw [e9]
                      clear e9 S9
                      refine g_at (pc2 := 104) rfl rfl (st2 := [vI (-1000002)]) rfl (S2 := S) rfl ?_
                      refine g_ldc (pc := 104) hX (z := -1000002) (List.mem_of_getElem? (i := 4) rfl) (by decide +kernel) dL_law_104 ?_
                      refine g_icmp_ne (pc := 106) (tgt := 118) hX (by first | assumption | exact inI_mk (by omega) (by omega)) (by first | assumption | exact inI_mk (by omega) (by omega)) dL_law_106 (by decide) (fun c_106 => ?_) (fun c_106 => ?_)
                      · skip
                        exact absurd c_106 (by omega)
                      · skip
                        refine g_aload_n (pc := 109) hX 0 rfl dL_law_109 ?_
                        refine g_iconst (pc := 110) hX dL_law_110 ?_
                        refine g_iconst (pc := 111) hX dL_law_111 ?_
                        refine g_callT1 (pc := 112) (As := [.ref (gw_ad w 0), vI (0), vI (0)]) (st2 := []) hX (c_L_fails hA) gL_law_L_fails (n := 3) (hw := rfl) (hrc := rfl) (hrs := rfl) (hd := by decide +kernel) (hR := ⟨Nat.le_of_ble_eq_true rfl, Nat.le_of_ble_eq_true rfl⟩) (hn := rfl) (hst := rfl) (hsum := Nat.le_of_ble_eq_true rfl) (hdg := dL_law_112) ?_
                        rintro _ S9 ⟨rfl, e9⟩
                        rw [e9]
                        clear e9 S9
                        refine g_at (pc2 := 115) rfl rfl (st2 := [vI (bz (true))]) rfl (S2 := S) rfl ?_
                        refine g_bif_ne (pc := 115) (tgt := 120) hX dL_law_115 (by decide) (fun c_115 => ?_) (fun c_115 => ?_)
                        · skip
                          refine g_iconst (pc := 120) hX dL_law_120 ?_
                          refine g_istore_n (pc := 121) hX (lv2 := [(2, vI (0)), (1, .ref (gw_ad w 0)), (0, .ref b)]) rfl (by decide) rfl dL_law_121 ?_
                          refine g_iconst (pc := 122) hX dL_law_122 ?_
                          refine g_istore_n (pc := 123) hX (lv2 := [(3, vI (0)), (2, vI (0)), (1, .ref (gw_ad w 0)), (0, .ref b)]) rfl (by decide) rfl dL_law_123 ?_
                          refine g_iconst (pc := 124) hX dL_law_124 ?_
                          refine g_istore (pc := 125) hX (lv2 := [(4, vI (0)), (3, vI (0)), (2, vI (0)), (1, .ref (gw_ad w 0)), (0, .ref b)]) (by decide) rfl dL_law_125 ?_
                          refine g_iconst (pc := 127) hX dL_law_127 ?_
                          refine g_istore (pc := 128) hX (lv2 := [(5, vI (0)), (4, vI (0)), (3, vI (0)), (2, vI (0)), (1, .ref (gw_ad w 0)), (0, .ref b)]) (by decide) rfl dL_law_128 ?_
                          refine g_sub (lv2 := [(0, .ref b), (1, .ref (gw_ad w 0)), (2, vI (0)), (3, vI (0)), (4, vI (0)), (5, vI (0))]) [5, 4, 3, 2, 1, 0] rfl ?_
                          exact law_loop hX hSc hL hf hfin 40 0 S D0 0 0 0 (by decide) (by decide) (by decide) hA rfl rfl rfl ⟨by decide, by decide⟩
                        · skip
                          exact absurd c_115 (by decide)

