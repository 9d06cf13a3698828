set_option maxHeartbeats 4000000 in
set_option maxRecDepth 100000 in
theorem c_L_fails {w : gW} {l : Launch} {S : Nat → va_E} {D : SD} (hA : A0 w D S) :
    GM1 w l yL_fails wsL_fails { frames := 7, cells := 0, slots := 0, locals := 178 } [.ref (gw_ad w 0), vI (snP D), vI (snN D)] S
      (fun v S' => v = vI (bz true) ∧ S' = S) := by
  refine GM.start (own := RL) (n := "fails") (d := "(LParcelDesk;II)Z") (by decide) rfl (Nat.le_of_ble_eq_true rfl) ?_
  intro X hX hR hXl
  subst hXl
  refine g_at rfl (lv2 := [(0, .ref (gw_ad w 0)), (1, vI (snP D)), (2, vI (snN D))]) rfl rfl rfl ?_
  have hb := hA.b
  have hC : ∀ z, 0 ≤ z → z < 4 → 0 ≤ sC D z ∧ sC D z ≤ 6 := hA.ok.1.1.2.1.1
  refine g_aload_n (pc := 0) hX 0 rfl dL_fails_0 ?_
  refine g_callD (pc := 1) (As := []) (st2 := []) hX hA.N hA.e (q_fingerprint hA) gL_fails_X6_fingerprint (n := 0) (hw := rfl) (hrc := rfl) (hrs := rfl) (hd := by decide +kernel) (hR := ⟨Nat.le_of_ble_eq_true rfl, Nat.le_of_ble_eq_true rfl⟩) (hn := rfl) (hst := rfl) (hsum := Nat.le_of_ble_eq_true rfl) (hdg := dL_fails_1) ?_
  rintro _ S9 ⟨rfl, e9⟩
  rw [e9]
  clear e9 S9
  refine g_at (pc2 := 4) rfl rfl (st2 := [vL (fpZ D)]) rfl (S2 := S) rfl ?_
  refine g_lstore_n (pc := 4) hX (lv2 := [(3, vL (fpZ D)), (0, .ref (gw_ad w 0)), (1, vI (snP D)), (2, vI (snN D))]) rfl (by decide) rfl dL_fails_4 ?_
  refine g_aload_n (pc := 5) hX 1 rfl dL_fails_5 ?_
  refine g_bipush (pc := 6) hX (by decide) dL_fails_6 ?_
  refine g_iconst (pc := 8) hX dL_fails_8 ?_
  refine g_callD (pc := 9) (As := [vI (8), vI (1)]) (st2 := []) hX hA.N hA.e (x_set hA (i := 8) (x := 1) (inI_mk (by omega) (by omega)) (inI_mk (by omega) (by omega)) (by decide)) gL_fails_X6_set (n := 2) (hw := rfl) (hrc := rfl) (hrs := rfl) (hd := by decide +kernel) (hR := ⟨Nat.le_of_ble_eq_true rfl, Nat.le_of_ble_eq_true rfl⟩) (hn := rfl) (hst := rfl) (hsum := Nat.le_of_ble_eq_true rfl) (hdg := dL_fails_9) ?_
  rintro _ S9 ⟨rfl, e9⟩
  rw [e9]
  clear e9 S9
  refine g_at (pc2 := 12) rfl rfl (st2 := [vI (-1000001)]) rfl (S2 := S) rfl ?_
  refine g_ldc (pc := 12) hX (z := -1000001) (List.mem_of_getElem? (i := 1) rfl) (by decide +kernel) dL_fails_12 ?_
  refine g_icmp_ne (pc := 14) (tgt := 211) hX (by first | assumption | exact inI_mk (by omega) (by omega)) (by first | assumption | exact inI_mk (by omega) (by omega)) dL_fails_14 (by decide) (fun c_14 => ?_) (fun c_14 => ?_)
  · skip
    exact absurd c_14 (by omega)
  · skip
    refine g_aload_n (pc := 17) hX 1 rfl dL_fails_17 ?_
    refine g_iconst (pc := 18) hX dL_fails_18 ?_
    refine g_bipush (pc := 19) hX (by decide) dL_fails_19 ?_
    refine g_callD (pc := 21) (As := [vI (0), vI (21)]) (st2 := []) hX hA.N hA.e (x_set hA (i := 0) (x := 21) (inI_mk (by omega) (by omega)) (inI_mk (by omega) (by omega)) (by decide)) gL_fails_X6_set (n := 2) (hw := rfl) (hrc := rfl) (hrs := rfl) (hd := by decide +kernel) (hR := ⟨Nat.le_of_ble_eq_true rfl, Nat.le_of_ble_eq_true rfl⟩) (hn := rfl) (hst := rfl) (hsum := Nat.le_of_ble_eq_true rfl) (hdg := dL_fails_21) ?_
    rintro _ S9 ⟨rfl, e9⟩
    rw [e9]
    clear e9 S9
    refine g_at (pc2 := 24) rfl rfl (st2 := [vI (-1000001)]) rfl (S2 := S) rfl ?_
    refine g_ldc (pc := 24) hX (z := -1000001) (List.mem_of_getElem? (i := 1) rfl) (by decide +kernel) dL_fails_24 ?_
    refine g_icmp_ne (pc := 26) (tgt := 211) hX (by first | assumption | exact inI_mk (by omega) (by omega)) (by first | assumption | exact inI_mk (by omega) (by omega)) dL_fails_26 (by decide) (fun c_26 => ?_) (fun c_26 => ?_)
    · skip
      exact absurd c_26 (by omega)
    · skip
      refine g_aload_n (pc := 29) hX 1 rfl dL_fails_29 ?_
      refine g_iconst (pc := 30) hX dL_fails_30 ?_
      refine g_iconst (pc := 31) hX dL_fails_31 ?_
      refine g_callD (pc := 32) (As := [vI (2), vI (0)]) (st2 := []) hX hA.N hA.e (x_set hA (i := 2) (x := 0) (inI_mk (by omega) (by omega)) (inI_mk (by omega) (by omega)) (by decide)) gL_fails_X6_set (n := 2) (hw := rfl) (hrc := rfl) (hrs := rfl) (hd := by decide +kernel) (hR := ⟨Nat.le_of_ble_eq_true rfl, Nat.le_of_ble_eq_true rfl⟩) (hn := rfl) (hst := rfl) (hsum := Nat.le_of_ble_eq_true rfl) (hdg := dL_fails_32) ?_
      rintro _ S9 ⟨rfl, e9⟩
      rw [e9]
      clear e9 S9
      refine g_at (pc2 := 35) rfl rfl (st2 := [vI (-1000001)]) rfl (S2 := S) rfl ?_
      refine g_ldc (pc := 35) hX (z := -1000001) (List.mem_of_getElem? (i := 1) rfl) (by decide +kernel) dL_fails_35 ?_
      refine g_icmp_ne (pc := 37) (tgt := 211) hX (by first | assumption | exact inI_mk (by omega) (by omega)) (by first | assumption | exact inI_mk (by omega) (by omega)) dL_fails_37 (by decide) (fun c_37 => ?_) (fun c_37 => ?_)
      · skip
        exact absurd c_37 (by omega)
      · skip
        refine g_aload_n (pc := 40) hX 1 rfl dL_fails_40 ?_
        refine g_iconst (pc := 41) hX dL_fails_41 ?_
        refine g_sipush (pc := 42) hX (by decide) dL_fails_42 ?_
        refine g_callD (pc := 45) (As := [vI (3), vI (999)]) (st2 := []) hX hA.N hA.e (x_set hA (i := 3) (x := 999) (inI_mk (by omega) (by omega)) (inI_mk (by omega) (by omega)) (by decide)) gL_fails_X6_set (n := 2) (hw := rfl) (hrc := rfl) (hrs := rfl) (hd := by decide +kernel) (hR := ⟨Nat.le_of_ble_eq_true rfl, Nat.le_of_ble_eq_true rfl⟩) (hn := rfl) (hst := rfl) (hsum := Nat.le_of_ble_eq_true rfl) (hdg := dL_fails_45) ?_
        rintro _ S9 ⟨rfl, e9⟩
        rw [e9]
        clear e9 S9
        refine g_at (pc2 := 48) rfl rfl (st2 := [vI (-1000001)]) rfl (S2 := S) rfl ?_
        refine g_ldc (pc := 48) hX (z := -1000001) (List.mem_of_getElem? (i := 1) rfl) (by decide +kernel) dL_fails_48 ?_
        refine g_icmp_ne (pc := 50) (tgt := 211) hX (by first | assumption | exact inI_mk (by omega) (by omega)) (by first | assumption | exact inI_mk (by omega) (by omega)) dL_fails_50 (by decide) (fun c_50 => ?_) (fun c_50 => ?_)
        · skip
          exact absurd c_50 (by omega)
        · skip
          refine g_aload_n (pc := 53) hX 1 rfl dL_fails_53 ?_
          refine g_bipush (pc := 54) hX (by decide) dL_fails_54 ?_
          refine g_sipush (pc := 56) hX (by decide) dL_fails_56 ?_
          refine g_callD (pc := 59) (As := [vI (6), vI (10000)]) (st2 := []) hX hA.N hA.e (x_set hA (i := 6) (x := 10000) (inI_mk (by omega) (by omega)) (inI_mk (by omega) (by omega)) (by decide)) gL_fails_X6_set (n := 2) (hw := rfl) (hrc := rfl) (hrs := rfl) (hd := by decide +kernel) (hR := ⟨Nat.le_of_ble_eq_true rfl, Nat.le_of_ble_eq_true rfl⟩) (hn := rfl) (hst := rfl) (hsum := Nat.le_of_ble_eq_true rfl) (hdg := dL_fails_59) ?_
          rintro _ S9 ⟨rfl, e9⟩
          rw [e9]
          clear e9 S9
          refine g_at (pc2 := 62) rfl rfl (st2 := [vI (-1000001)]) rfl (S2 := S) rfl ?_
          refine g_ldc (pc := 62) hX (z := -1000001) (List.mem_of_getElem? (i := 1) rfl) (by decide +kernel) dL_fails_62 ?_
          refine g_icmp_ne (pc := 64) (tgt := 211) hX (by first | assumption | exact inI_mk (by omega) (by omega)) (by first | assumption | exact inI_mk (by omega) (by omega)) dL_fails_64 (by decide) (fun c_64 => ?_) (fun c_64 => ?_)
          · skip
            exact absurd c_64 (by omega)
          · skip
            refine g_aload_n (pc := 67) hX 1 rfl dL_fails_67 ?_
            refine g_bipush (pc := 68) hX (by decide) dL_fails_68 ?_
            refine g_iconst (pc := 70) hX dL_fails_70 ?_
            refine g_callD (pc := 71) (As := [vI (7), vI (0)]) (st2 := []) hX hA.N hA.e (x_set hA (i := 7) (x := 0) (inI_mk (by omega) (by omega)) (inI_mk (by omega) (by omega)) (by decide)) gL_fails_X6_set (n := 2) (hw := rfl) (hrc := rfl) (hrs := rfl) (hd := by decide +kernel) (hR := ⟨Nat.le_of_ble_eq_true rfl, Nat.le_of_ble_eq_true rfl⟩) (hn := rfl) (hst := rfl) (hsum := Nat.le_of_ble_eq_true rfl) (hdg := dL_fails_71) ?_
            rintro _ S9 ⟨rfl, e9⟩
            rw [e9]
            clear e9 S9
            refine g_at (pc2 := 74) rfl rfl (st2 := [vI (-1000001)]) rfl (S2 := S) rfl ?_
            refine g_ldc (pc := 74) hX (z := -1000001) (List.mem_of_getElem? (i := 1) rfl) (by decide +kernel) dL_fails_74 ?_
            refine g_icmp_ne (pc := 76) (tgt := 211) hX (by first | assumption | exact inI_mk (by omega) (by omega)) (by first | assumption | exact inI_mk (by omega) (by omega)) dL_fails_76 (by decide) (fun c_76 => ?_) (fun c_76 => ?_)
            · skip
              exact absurd c_76 (by omega)
            · skip
              refine g_aload_n (pc := 79) hX 1 rfl dL_fails_79 ?_
              refine g_bipush (pc := 80) hX (by decide) dL_fails_80 ?_
              refine g_callD (pc := 82) (As := [vI (8)]) (st2 := []) hX hA.N hA.e (x_setting hA (i := 8) (inI_mk (by omega) (by omega)) (by decide)) gL_fails_X6_setting (n := 1) (hw := rfl) (hrc := rfl) (hrs := rfl) (hd := by decide +kernel) (hR := ⟨Nat.le_of_ble_eq_true rfl, Nat.le_of_ble_eq_true rfl⟩) (hn := rfl) (hst := rfl) (hsum := Nat.le_of_ble_eq_true rfl) (hdg := dL_fails_82) ?_
              rintro _ S9 ⟨rfl, e9⟩
              rw [e9]
              clear e9 S9
              refine g_at (pc2 := 85) rfl rfl (st2 := [vI (-1000001)]) rfl (S2 := S) rfl ?_
              refine g_ldc (pc := 85) hX (z := -1000001) (List.mem_of_getElem? (i := 1) rfl) (by decide +kernel) dL_fails_85 ?_
              refine g_icmp_ne (pc := 87) (tgt := 211) hX (by first | assumption | exact inI_mk (by omega) (by omega)) (by first | assumption | exact inI_mk (by omega) (by omega)) dL_fails_87 (by decide) (fun c_87 => ?_) (fun c_87 => ?_)
              · skip
                exact absurd c_87 (by omega)
              · skip
                refine g_aload_n (pc := 90) hX 1 rfl dL_fails_90 ?_
                refine g_ldc (pc := 91) hX (z := 100001) (List.mem_of_getElem? (i := 2) rfl) (by decide +kernel) dL_fails_91 ?_
                refine g_callD (pc := 93) (As := [vI (100001)]) (st2 := []) hX hA.N hA.e (x_load hA (x := 100001) (inI_mk (by omega) (by omega)) (by decide)) gL_fails_X6_load (n := 1) (hw := rfl) (hrc := rfl) (hrs := rfl) (hd := by decide +kernel) (hR := ⟨Nat.le_of_ble_eq_true rfl, Nat.le_of_ble_eq_true rfl⟩) (hn := rfl) (hst := rfl) (hsum := Nat.le_of_ble_eq_true rfl) (hdg := dL_fails_93) ?_
                rintro _ S9 ⟨rfl, e9⟩
                rw [e9]
                clear e9 S9
                refine g_at (pc2 := 96) rfl rfl (st2 := [vI (-1000001)]) rfl (S2 := S) rfl ?_
                refine g_ldc (pc := 96) hX (z := -1000001) (List.mem_of_getElem? (i := 1) rfl) (by decide +kernel) dL_fails_96 ?_
                refine g_icmp_ne (pc := 98) (tgt := 211) hX (by first | assumption | exact inI_mk (by omega) (by omega)) (by first | assumption | exact inI_mk (by omega) (by omega)) dL_fails_98 (by decide) (fun c_98 => ?_) (fun c_98 => ?_)
                · skip
                  exact absurd c_98 (by omega)
                · skip
                  refine g_aload_n (pc := 101) hX 1 rfl dL_fails_101 ?_
                  refine g_iconst (pc := 102) hX dL_fails_102 ?_
                  refine g_callD (pc := 103) (As := [vI (0)]) (st2 := []) hX hA.N hA.e (x_tick hA (t := 0) (inI_mk (by omega) (by omega)) (by decide)) gL_fails_X6_tick (n := 1) (hw := rfl) (hrc := rfl) (hrs := rfl) (hd := by decide +kernel) (hR := ⟨Nat.le_of_ble_eq_true rfl, Nat.le_of_ble_eq_true rfl⟩) (hn := rfl) (hst := rfl) (hsum := Nat.le_of_ble_eq_true rfl) (hdg := dL_fails_103) ?_
                  rintro _ S9 ⟨rfl, e9⟩
                  rw [e9]
                  clear e9 S9
                  refine g_at (pc2 := 106) rfl rfl (st2 := [vI (-1000001)]) rfl (S2 := S) rfl ?_
                  refine g_ldc (pc := 106) hX (z := -1000001) (List.mem_of_getElem? (i := 1) rfl) (by decide +kernel) dL_fails_106 ?_
                  refine g_icmp_ne (pc := 108) (tgt := 211) hX (by first | assumption | exact inI_mk (by omega) (by omega)) (by first | assumption | exact inI_mk (by omega) (by omega)) dL_fails_108 (by decide) (fun c_108 => ?_) (fun c_108 => ?_)
                  · skip
                    exact absurd c_108 (by omega)
                  · skip
                    refine g_aload_n (pc := 111) hX 1 rfl dL_fails_111 ?_
                    refine g_bipush (pc := 112) hX (by decide) dL_fails_112 ?_
                    refine g_callD (pc := 114) (As := [vI (101)]) (st2 := []) hX hA.N hA.e (x_tick hA (t := 101) (inI_mk (by omega) (by omega)) (by decide)) gL_fails_X6_tick (n := 1) (hw := rfl) (hrc := rfl) (hrs := rfl) (hd := by decide +kernel) (hR := ⟨Nat.le_of_ble_eq_true rfl, Nat.le_of_ble_eq_true rfl⟩) (hn := rfl) (hst := rfl) (hsum := Nat.le_of_ble_eq_true rfl) (hdg := dL_fails_114) ?_
                    rintro _ S9 ⟨rfl, e9⟩
                    rw [e9]
                    clear e9 S9
                    refine g_at (pc2 := 117) rfl rfl (st2 := [vI (-1000001)]) rfl (S2 := S) rfl ?_
                    refine g_ldc (pc := 117) hX (z := -1000001) (List.mem_of_getElem? (i := 1) rfl) (by decide +kernel) dL_fails_117 ?_
                    refine g_icmp_ne (pc := 119) (tgt := 211) hX (by first | assumption | exact inI_mk (by omega) (by omega)) (by first | assumption | exact inI_mk (by omega) (by omega)) dL_fails_119 (by decide) (fun c_119 => ?_) (fun c_119 => ?_)
                    · skip
                      exact absurd c_119 (by omega)
                    · skip
                      refine g_aload_n (pc := 122) hX 1 rfl dL_fails_122 ?_
                      refine g_bipush (pc := 123) hX (by decide) dL_fails_123 ?_
                      refine g_callD (pc := 125) (As := [vI (11)]) (st2 := []) hX hA.N hA.e (x_scale hA (i := 11) (inI_mk (by omega) (by omega)) (by decide)) gL_fails_X6_scale (n := 1) (hw := rfl) (hrc := rfl) (hrs := rfl) (hd := by decide +kernel) (hR := ⟨Nat.le_of_ble_eq_true rfl, Nat.le_of_ble_eq_true rfl⟩) (hn := rfl) (hst := rfl) (hsum := Nat.le_of_ble_eq_true rfl) (hdg := dL_fails_125) ?_
                      rintro _ S9 ⟨rfl, e9⟩
                      rw [e9]
                      clear e9 S9
                      refine g_at (pc2 := 128) rfl rfl (st2 := [vI (-1000001)]) rfl (S2 := S) rfl ?_
                      refine g_ldc (pc := 128) hX (z := -1000001) (List.mem_of_getElem? (i := 1) rfl) (by decide +kernel) dL_fails_128 ?_
                      refine g_icmp_ne (pc := 130) (tgt := 211) hX (by first | assumption | exact inI_mk (by omega) (by omega)) (by first | assumption | exact inI_mk (by omega) (by omega)) dL_fails_130 (by decide) (fun c_130 => ?_) (fun c_130 => ?_)
                      · skip
                        exact absurd c_130 (by omega)
                      · skip
                        refine g_aload_n (pc := 133) hX 1 rfl dL_fails_133 ?_
                        refine g_iconst (pc := 134) hX dL_fails_134 ?_
                        refine g_iconst (pc := 135) hX dL_fails_135 ?_
                        refine g_iconst (pc := 136) hX dL_fails_136 ?_
                        refine g_callD (pc := 137) (As := [vI (4), vI (1), vI (1)]) (st2 := []) hX hA.N hA.e (x_band hA (z := 4) (m := 1) (p := 1) (inI_mk (by omega) (by omega)) (inI_mk (by omega) (by omega)) (inI_mk (by omega) (by omega)) (by decide)) gL_fails_X6_band (n := 3) (hw := rfl) (hrc := rfl) (hrs := rfl) (hd := by decide +kernel) (hR := ⟨Nat.le_of_ble_eq_true rfl, Nat.le_of_ble_eq_true rfl⟩) (hn := rfl) (hst := rfl) (hsum := Nat.le_of_ble_eq_true rfl) (hdg := dL_fails_137) ?_
                        rintro _ S9 ⟨rfl, e9⟩
                        rw [e9]
                        clear e9 S9
                        refine g_at (pc2 := 140) rfl rfl (st2 := [vI (-1000001)]) rfl (S2 := S) rfl ?_
                        refine g_ldc (pc := 140) hX (z := -1000001) (List.mem_of_getElem? (i := 1) rfl) (by decide +kernel) dL_fails_140 ?_
                        refine g_icmp_ne (pc := 142) (tgt := 211) hX (by first | assumption | exact inI_mk (by omega) (by omega)) (by first | assumption | exact inI_mk (by omega) (by omega)) dL_fails_142 (by decide) (fun c_142 => ?_) (fun c_142 => ?_)
                        · skip
                          exact absurd c_142 (by omega)
                        · skip
                          refine g_aload_n (pc := 145) hX 1 rfl dL_fails_145 ?_
                          refine g_iconst (pc := 146) hX dL_fails_146 ?_
                          refine g_iconst (pc := 147) hX dL_fails_147 ?_
                          refine g_iconst (pc := 148) hX dL_fails_148 ?_
                          refine g_callD (pc := 149) (As := [vI (0), vI (0), vI (1)]) (st2 := []) hX hA.N hA.e (x_band hA (z := 0) (m := 0) (p := 1) (inI_mk (by omega) (by omega)) (inI_mk (by omega) (by omega)) (inI_mk (by omega) (by omega)) (by decide)) gL_fails_X6_band (n := 3) (hw := rfl) (hrc := rfl) (hrs := rfl) (hd := by decide +kernel) (hR := ⟨Nat.le_of_ble_eq_true rfl, Nat.le_of_ble_eq_true rfl⟩) (hn := rfl) (hst := rfl) (hsum := Nat.le_of_ble_eq_true rfl) (hdg := dL_fails_149) ?_
                          rintro _ S9 ⟨rfl, e9⟩
                          rw [e9]
                          clear e9 S9
                          refine g_at (pc2 := 152) rfl rfl (st2 := [vI (-1000001)]) rfl (S2 := S) rfl ?_
                          refine g_ldc (pc := 152) hX (z := -1000001) (List.mem_of_getElem? (i := 1) rfl) (by decide +kernel) dL_fails_152 ?_
                          refine g_icmp_ne (pc := 154) (tgt := 211) hX (by first | assumption | exact inI_mk (by omega) (by omega)) (by first | assumption | exact inI_mk (by omega) (by omega)) dL_fails_154 (by decide) (fun c_154 => ?_) (fun c_154 => ?_)
                          · skip
                            exact absurd c_154 (by omega)
                          · skip
                            refine g_aload_n (pc := 157) hX 1 rfl dL_fails_157 ?_
                            refine g_iconst (pc := 158) hX dL_fails_158 ?_
                            refine g_iconst (pc := 159) hX dL_fails_159 ?_
                            refine g_ldc (pc := 160) hX (z := 100001) (List.mem_of_getElem? (i := 2) rfl) (by decide +kernel) dL_fails_160 ?_
                            refine g_callD (pc := 162) (As := [vI (0), vI (1), vI (100001)]) (st2 := []) hX hA.N hA.e (x_band hA (z := 0) (m := 1) (p := 100001) (inI_mk (by omega) (by omega)) (inI_mk (by omega) (by omega)) (inI_mk (by omega) (by omega)) (by decide)) gL_fails_X6_band (n := 3) (hw := rfl) (hrc := rfl) (hrs := rfl) (hd := by decide +kernel) (hR := ⟨Nat.le_of_ble_eq_true rfl, Nat.le_of_ble_eq_true rfl⟩) (hn := rfl) (hst := rfl) (hsum := Nat.le_of_ble_eq_true rfl) (hdg := dL_fails_162) ?_
                            rintro _ S9 ⟨rfl, e9⟩
                            rw [e9]
                            clear e9 S9
                            refine g_at (pc2 := 165) rfl rfl (st2 := [vI (-1000001)]) rfl (S2 := S) rfl ?_
                            refine g_ldc (pc := 165) hX (z := -1000001) (List.mem_of_getElem? (i := 1) rfl) (by decide +kernel) dL_fails_165 ?_
                            refine g_icmp_ne (pc := 167) (tgt := 211) hX (by first | assumption | exact inI_mk (by omega) (by omega)) (by first | assumption | exact inI_mk (by omega) (by omega)) dL_fails_167 (by decide) (fun c_167 => ?_) (fun c_167 => ?_)
                            · skip
                              exact absurd c_167 (by omega)
                            · skip
                              refine g_aload_n (pc := 170) hX 1 rfl dL_fails_170 ?_
                              refine g_iconst (pc := 171) hX dL_fails_171 ?_
                              refine g_bipush (pc := 172) hX (by decide) dL_fails_172 ?_
                              refine g_callD (pc := 174) (As := [vI (0), vI (6)]) (st2 := []) hX hA.N hA.e (x_unband hA (z := 0) (i := 6) (inI_mk (by omega) (by omega)) (inI_mk (by omega) (by omega)) (by have := hC 0 (by decide) (by decide); omega)) gL_fails_X6_unband (n := 2) (hw := rfl) (hrc := rfl) (hrs := rfl) (hd := by decide +kernel) (hR := ⟨Nat.le_of_ble_eq_true rfl, Nat.le_of_ble_eq_true rfl⟩) (hn := rfl) (hst := rfl) (hsum := Nat.le_of_ble_eq_true rfl) (hdg := dL_fails_174) ?_
                              rintro _ S9 ⟨rfl, e9⟩
                              rw [e9]
                              clear e9 S9
                              refine g_at (pc2 := 177) rfl rfl (st2 := [vI (-1000001)]) rfl (S2 := S) rfl ?_
                              refine g_ldc (pc := 177) hX (z := -1000001) (List.mem_of_getElem? (i := 1) rfl) (by decide +kernel) dL_fails_177 ?_
                              refine g_icmp_ne (pc := 179) (tgt := 211) hX (by first | assumption | exact inI_mk (by omega) (by omega)) (by first | assumption | exact inI_mk (by omega) (by omega)) dL_fails_179 (by decide) (fun c_179 => ?_) (fun c_179 => ?_)
                              · skip
                                exact absurd c_179 (by omega)
                              · skip
                                refine g_aload_n (pc := 182) hX 1 rfl dL_fails_182 ?_
                                refine g_iconst (pc := 183) hX dL_fails_183 ?_
                                refine g_bipush (pc := 184) hX (by decide) dL_fails_184 ?_
                                refine g_iconst (pc := 186) hX dL_fails_186 ?_
                                refine g_callD (pc := 187) (As := [vI (0), vI (6), vI (0)]) (st2 := []) hX hA.N hA.e (x_bandAt hA (z := 0) (i := 6) (x := 0) (inI_mk (by omega) (by omega)) (inI_mk (by omega) (by omega)) (inI_mk (by omega) (by omega)) (by have := hC 0 (by decide) (by decide); omega)) gL_fails_X6_bandAt (n := 3) (hw := rfl) (hrc := rfl) (hrs := rfl) (hd := by decide +kernel) (hR := ⟨Nat.le_of_ble_eq_true rfl, Nat.le_of_ble_eq_true rfl⟩) (hn := rfl) (hst := rfl) (hsum := Nat.le_of_ble_eq_true rfl) (hdg := dL_fails_187) ?_
                                rintro _ S9 ⟨rfl, e9⟩
                                rw [e9]
                                clear e9 S9
                                refine g_at (pc2 := 190) rfl rfl (st2 := [vI (-1000001)]) rfl (S2 := S) rfl ?_
                                refine g_ldc (pc := 190) hX (z := -1000001) (List.mem_of_getElem? (i := 1) rfl) (by decide +kernel) dL_fails_190 ?_
                                refine g_icmp_ne (pc := 192) (tgt := 211) hX (by first | assumption | exact inI_mk (by omega) (by omega)) (by first | assumption | exact inI_mk (by omega) (by omega)) dL_fails_192 (by decide) (fun c_192 => ?_) (fun c_192 => ?_)
                                · skip
                                  exact absurd c_192 (by omega)
                                · skip
                                  refine g_aload_n (pc := 195) hX 1 rfl dL_fails_195 ?_
                                  refine g_iconst (pc := 196) hX dL_fails_196 ?_
                                  refine g_iconst (pc := 197) hX dL_fails_197 ?_
                                  refine g_iconst (pc := 198) hX dL_fails_198 ?_
                                  refine g_callD (pc := 199) (As := [vI (-1), vI (0), vI (0)]) (st2 := []) hX hA.N hA.e (x_bandAt hA (z := -1) (i := 0) (x := 0) (inI_mk (by omega) (by omega)) (inI_mk (by omega) (by omega)) (inI_mk (by omega) (by omega)) (by have := hC 0 (by decide) (by decide); omega)) gL_fails_X6_bandAt (n := 3) (hw := rfl) (hrc := rfl) (hrs := rfl) (hd := by decide +kernel) (hR := ⟨Nat.le_of_ble_eq_true rfl, Nat.le_of_ble_eq_true rfl⟩) (hn := rfl) (hst := rfl) (hsum := Nat.le_of_ble_eq_true rfl) (hdg := dL_fails_199) ?_
                                  rintro _ S9 ⟨rfl, e9⟩
                                  rw [e9]
                                  clear e9 S9
                                  refine g_at (pc2 := 202) rfl rfl (st2 := [vI (-1000001)]) rfl (S2 := S) rfl ?_
                                  refine g_ldc (pc := 202) hX (z := -1000001) (List.mem_of_getElem? (i := 1) rfl) (by decide +kernel) dL_fails_202 ?_
                                  refine g_icmp_ne (pc := 204) (tgt := 211) hX (by first | assumption | exact inI_mk (by omega) (by omega)) (by first | assumption | exact inI_mk (by omega) (by omega)) dL_fails_204 (by decide) (fun c_204 => ?_) (fun c_204 => ?_)
                                  · skip
                                    exact absurd c_204 (by omega)
                                  · skip
                                    refine g_iconst (pc := 207) hX dL_fails_207 ?_
                                    refine g_goto (pc := 208) (tgt := 212) hX dL_fails_208 (by decide) ?_
                                    refine g_istore (pc := 212) hX (lv2 := [(5, vI (1)), (3, vL (fpZ D)), (0, .ref (gw_ad w 0)), (1, vI (snP D)), (2, vI (snN D))]) (by decide) rfl dL_fails_212 ?_
                                    refine g_iload (pc := 214) hX 0 rfl dL_fails_214 ?_
                                    refine g_if_eq (pc := 216) (tgt := 372) hX (by first | assumption | exact inI_mk (by omega) (by omega)) dL_fails_216 (by decide) (fun c_216 => ?_) (fun c_216 => ?_)
                                    · skip
                                      exact absurd c_216 (by omega)
                                    · skip
                                      refine g_aload_n (pc := 219) hX 2 rfl dL_fails_219 ?_
                                      refine g_iconst (pc := 220) hX dL_fails_220 ?_
                                      refine g_sipush (pc := 221) hX (by decide) dL_fails_221 ?_
                                      refine g_callD (pc := 224) (As := [vI (0), vI (10001)]) (st2 := []) hX hA.N hA.e (x_setExtra hA (z := 0) (x := 10001) (inI_mk (by omega) (by omega)) (inI_mk (by omega) (by omega)) (by decide)) gL_fails_X6_setExtra (n := 2) (hw := rfl) (hrc := rfl) (hrs := rfl) (hd := by decide +kernel) (hR := ⟨Nat.le_of_ble_eq_true rfl, Nat.le_of_ble_eq_true rfl⟩) (hn := rfl) (hst := rfl) (hsum := Nat.le_of_ble_eq_true rfl) (hdg := dL_fails_224) ?_
                                      rintro _ S9 ⟨rfl, e9⟩
                                      rw [e9]
                                      clear e9 S9
                                      refine g_at (pc2 := 227) rfl rfl (st2 := [vI (-1000001)]) rfl (S2 := S) rfl ?_
                                      refine g_ldc (pc := 227) hX (z := -1000001) (List.mem_of_getElem? (i := 1) rfl) (by decide +kernel) dL_fails_227 ?_
                                      refine g_icmp_ne (pc := 229) (tgt := 372) hX (by first | assumption | exact inI_mk (by omega) (by omega)) (by first | assumption | exact inI_mk (by omega) (by omega)) dL_fails_229 (by decide) (fun c_229 => ?_) (fun c_229 => ?_)
                                      · skip
                                        exact absurd c_229 (by omega)
                                      · skip
                                        refine g_aload_n (pc := 232) hX 2 rfl dL_fails_232 ?_
                                        refine g_bipush (pc := 233) hX (by decide) dL_fails_233 ?_
                                        refine g_callD (pc := 235) (As := [vI (31)]) (st2 := []) hX hA.N hA.e (x_type hA (c := 31) (inI_mk (by omega) (by omega)) (by decide)) gL_fails_X6_type (n := 1) (hw := rfl) (hrc := rfl) (hrs := rfl) (hd := by decide +kernel) (hR := ⟨Nat.le_of_ble_eq_true rfl, Nat.le_of_ble_eq_true rfl⟩) (hn := rfl) (hst := rfl) (hsum := Nat.le_of_ble_eq_true rfl) (hdg := dL_fails_235) ?_
                                        rintro _ S9 ⟨rfl, e9⟩
                                        rw [e9]
                                        clear e9 S9
                                        refine g_at (pc2 := 238) rfl rfl (st2 := [vI (-1000001)]) rfl (S2 := S) rfl ?_
                                        refine g_ldc (pc := 238) hX (z := -1000001) (List.mem_of_getElem? (i := 1) rfl) (by decide +kernel) dL_fails_238 ?_
                                        refine g_icmp_ne (pc := 240) (tgt := 372) hX (by first | assumption | exact inI_mk (by omega) (by omega)) (by first | assumption | exact inI_mk (by omega) (by omega)) dL_fails_240 (by decide) (fun c_240 => ?_) (fun c_240 => ?_)
                                        · skip
                                          exact absurd c_240 (by omega)
                                        · skip
                                          refine g_aload_n (pc := 243) hX 2 rfl dL_fails_243 ?_
                                          refine g_iconst (pc := 244) hX dL_fails_244 ?_
                                          refine g_iconst (pc := 245) hX dL_fails_245 ?_
                                          refine g_iconst (pc := 246) hX dL_fails_246 ?_
                                          refine g_iconst (pc := 247) hX dL_fails_247 ?_
                                          refine g_callD (pc := 248) (As := [vI (0), vI (1), vI (1), vI (0)]) (st2 := []) hX hA.N hA.e (x_take hA (a := 0) (b := 1) (c := 1) (z := 0) (inI_mk (by omega) (by omega)) (inI_mk (by omega) (by omega)) (inI_mk (by omega) (by omega)) (inI_mk (by omega) (by omega)) (by decide)) gL_fails_X6_take (n := 4) (hw := rfl) (hrc := rfl) (hrs := rfl) (hd := by decide +kernel) (hR := ⟨Nat.le_of_ble_eq_true rfl, Nat.le_of_ble_eq_true rfl⟩) (hn := rfl) (hst := rfl) (hsum := Nat.le_of_ble_eq_true rfl) (hdg := dL_fails_248) ?_
                                          rintro _ S9 ⟨rfl, e9⟩
                                          rw [e9]
                                          clear e9 S9
                                          refine g_at (pc2 := 251) rfl rfl (st2 := [vI (-1000001)]) rfl (S2 := S) rfl ?_
                                          refine g_ldc (pc := 251) hX (z := -1000001) (List.mem_of_getElem? (i := 1) rfl) (by decide +kernel) dL_fails_251 ?_
                                          refine g_icmp_ne (pc := 253) (tgt := 372) hX (by first | assumption | exact inI_mk (by omega) (by omega)) (by first | assumption | exact inI_mk (by omega) (by omega)) dL_fails_253 (by decide) (fun c_253 => ?_) (fun c_253 => ?_)
                                          · skip
                                            exact absurd c_253 (by omega)
                                          · skip
                                            refine g_aload_n (pc := 256) hX 2 rfl dL_fails_256 ?_
                                            refine g_iconst (pc := 257) hX dL_fails_257 ?_
                                            refine g_sipush (pc := 258) hX (by decide) dL_fails_258 ?_
                                            refine g_iconst (pc := 261) hX dL_fails_261 ?_
                                            refine g_iconst (pc := 262) hX dL_fails_262 ?_
                                            refine g_callD (pc := 263) (As := [vI (1), vI (2001), vI (1), vI (0)]) (st2 := []) hX hA.N hA.e (x_take hA (a := 1) (b := 2001) (c := 1) (z := 0) (inI_mk (by omega) (by omega)) (inI_mk (by omega) (by omega)) (inI_mk (by omega) (by omega)) (inI_mk (by omega) (by omega)) (by decide)) gL_fails_X6_take (n := 4) (hw := rfl) (hrc := rfl) (hrs := rfl) (hd := by decide +kernel) (hR := ⟨Nat.le_of_ble_eq_true rfl, Nat.le_of_ble_eq_true rfl⟩) (hn := rfl) (hst := rfl) (hsum := Nat.le_of_ble_eq_true rfl) (hdg := dL_fails_263) ?_
                                            rintro _ S9 ⟨rfl, e9⟩
                                            rw [e9]
                                            clear e9 S9
                                            refine g_at (pc2 := 266) rfl rfl (st2 := [vI (-1000001)]) rfl (S2 := S) rfl ?_
                                            refine g_ldc (pc := 266) hX (z := -1000001) (List.mem_of_getElem? (i := 1) rfl) (by decide +kernel) dL_fails_266 ?_
                                            refine g_icmp_ne (pc := 268) (tgt := 372) hX (by first | assumption | exact inI_mk (by omega) (by omega)) (by first | assumption | exact inI_mk (by omega) (by omega)) dL_fails_268 (by decide) (fun c_268 => ?_) (fun c_268 => ?_)
                                            · skip
                                              exact absurd c_268 (by omega)
                                            · skip
                                              refine g_aload_n (pc := 271) hX 2 rfl dL_fails_271 ?_
                                              refine g_iconst (pc := 272) hX dL_fails_272 ?_
                                              refine g_iconst (pc := 273) hX dL_fails_273 ?_
                                              refine g_iconst (pc := 274) hX dL_fails_274 ?_
                                              refine g_iconst (pc := 275) hX dL_fails_275 ?_
                                              refine g_callD (pc := 276) (As := [vI (1), vI (1), vI (1), vI (4)]) (st2 := []) hX hA.N hA.e (x_take hA (a := 1) (b := 1) (c := 1) (z := 4) (inI_mk (by omega) (by omega)) (inI_mk (by omega) (by omega)) (inI_mk (by omega) (by omega)) (inI_mk (by omega) (by omega)) (by decide)) gL_fails_X6_take (n := 4) (hw := rfl) (hrc := rfl) (hrs := rfl) (hd := by decide +kernel) (hR := ⟨Nat.le_of_ble_eq_true rfl, Nat.le_of_ble_eq_true rfl⟩) (hn := rfl) (hst := rfl) (hsum := Nat.le_of_ble_eq_true rfl) (hdg := dL_fails_276) ?_
                                              rintro _ S9 ⟨rfl, e9⟩
                                              rw [e9]
                                              clear e9 S9
                                              refine g_at (pc2 := 279) rfl rfl (st2 := [vI (-1000001)]) rfl (S2 := S) rfl ?_
                                              refine g_ldc (pc := 279) hX (z := -1000001) (List.mem_of_getElem? (i := 1) rfl) (by decide +kernel) dL_fails_279 ?_
                                              refine g_icmp_ne (pc := 281) (tgt := 372) hX (by first | assumption | exact inI_mk (by omega) (by omega)) (by first | assumption | exact inI_mk (by omega) (by omega)) dL_fails_281 (by decide) (fun c_281 => ?_) (fun c_281 => ?_)
                                              · skip
                                                exact absurd c_281 (by omega)
                                              · skip
                                                refine g_aload_n (pc := 284) hX 2 rfl dL_fails_284 ?_
                                                refine g_iconst (pc := 285) hX dL_fails_285 ?_
                                                refine g_iconst (pc := 286) hX dL_fails_286 ?_
                                                refine g_iconst (pc := 287) hX dL_fails_287 ?_
                                                refine g_iconst (pc := 288) hX dL_fails_288 ?_
                                                refine g_iconst (pc := 289) hX dL_fails_289 ?_
                                                refine g_callD (pc := 290) (As := [vI (0), vI (1), vI (1), vI (1), vI (0)]) (st2 := []) hX hA.N hA.e (x_quote hA (m := 0) (a := 1) (b := 1) (c := 1) (z := 0) (inI_mk (by omega) (by omega)) (inI_mk (by omega) (by omega)) (inI_mk (by omega) (by omega)) (inI_mk (by omega) (by omega)) (inI_mk (by omega) (by omega)) (by decide)) gL_fails_X6_quote (n := 5) (hw := rfl) (hrc := rfl) (hrs := rfl) (hd := by decide +kernel) (hR := ⟨Nat.le_of_ble_eq_true rfl, Nat.le_of_ble_eq_true rfl⟩) (hn := rfl) (hst := rfl) (hsum := Nat.le_of_ble_eq_true rfl) (hdg := dL_fails_290) ?_
                                                rintro _ S9 ⟨rfl, e9⟩
                                                rw [e9]
                                                clear e9 S9
                                                refine g_at (pc2 := 293) rfl rfl (st2 := [vI (-1000001)]) rfl (S2 := S) rfl ?_
                                                refine g_ldc (pc := 293) hX (z := -1000001) (List.mem_of_getElem? (i := 1) rfl) (by decide +kernel) dL_fails_293 ?_
                                                refine g_icmp_ne (pc := 295) (tgt := 372) hX (by first | assumption | exact inI_mk (by omega) (by omega)) (by first | assumption | exact inI_mk (by omega) (by omega)) dL_fails_295 (by decide) (fun c_295 => ?_) (fun c_295 => ?_)
                                                · skip
                                                  exact absurd c_295 (by omega)
                                                · skip
                                                  refine g_aload_n (pc := 298) hX 2 rfl dL_fails_298 ?_
                                                  refine g_iconst (pc := 299) hX dL_fails_299 ?_
                                                  refine g_iconst (pc := 300) hX dL_fails_300 ?_
                                                  refine g_iconst (pc := 301) hX dL_fails_301 ?_
                                                  refine g_iconst (pc := 302) hX dL_fails_302 ?_
                                                  refine g_iconst (pc := 303) hX dL_fails_303 ?_
                                                  refine g_callD (pc := 304) (As := [vI (1), vI (1), vI (1), vI (0), vI (0)]) (st2 := []) hX hA.N hA.e (x_quote hA (m := 1) (a := 1) (b := 1) (c := 0) (z := 0) (inI_mk (by omega) (by omega)) (inI_mk (by omega) (by omega)) (inI_mk (by omega) (by omega)) (inI_mk (by omega) (by omega)) (inI_mk (by omega) (by omega)) (by decide)) gL_fails_X6_quote (n := 5) (hw := rfl) (hrc := rfl) (hrs := rfl) (hd := by decide +kernel) (hR := ⟨Nat.le_of_ble_eq_true rfl, Nat.le_of_ble_eq_true rfl⟩) (hn := rfl) (hst := rfl) (hsum := Nat.le_of_ble_eq_true rfl) (hdg := dL_fails_304) ?_
                                                  rintro _ S9 ⟨rfl, e9⟩
                                                  rw [e9]
                                                  clear e9 S9
                                                  refine g_at (pc2 := 307) rfl rfl (st2 := [vI (-1000001)]) rfl (S2 := S) rfl ?_
                                                  refine g_ldc (pc := 307) hX (z := -1000001) (List.mem_of_getElem? (i := 1) rfl) (by decide +kernel) dL_fails_307 ?_
                                                  refine g_icmp_ne (pc := 309) (tgt := 372) hX (by first | assumption | exact inI_mk (by omega) (by omega)) (by first | assumption | exact inI_mk (by omega) (by omega)) dL_fails_309 (by decide) (fun c_309 => ?_) (fun c_309 => ?_)
                                                  · skip
                                                    exact absurd c_309 (by omega)
                                                  · skip
                                                    refine g_aload_n (pc := 312) hX 2 rfl dL_fails_312 ?_
                                                    refine g_iload_n (pc := 313) hX 3 rfl dL_fails_313 ?_
                                                    refine g_iconst (pc := 314) hX dL_fails_314 ?_
                                                    refine g_callD (pc := 315) (As := [vI (snP D), vI (0)]) (st2 := []) hX hA.N hA.e (x_parcel hA (p := snP D) (x := 0) (inI_mk (by omega) (by omega)) (inI_mk (by omega) (by omega)) (by omega)) gL_fails_X6_parcel (n := 2) (hw := rfl) (hrc := rfl) (hrs := rfl) (hd := by decide +kernel) (hR := ⟨Nat.le_of_ble_eq_true rfl, Nat.le_of_ble_eq_true rfl⟩) (hn := rfl) (hst := rfl) (hsum := Nat.le_of_ble_eq_true rfl) (hdg := dL_fails_315) ?_
                                                    rintro _ S9 ⟨rfl, e9⟩
                                                    rw [e9]
                                                    clear e9 S9
                                                    refine g_at (pc2 := 318) rfl rfl (st2 := [vI (-1000001)]) rfl (S2 := S) rfl ?_
                                                    refine g_ldc (pc := 318) hX (z := -1000001) (List.mem_of_getElem? (i := 1) rfl) (by decide +kernel) dL_fails_318 ?_
                                                    refine g_icmp_ne (pc := 320) (tgt := 372) hX (by first | assumption | exact inI_mk (by omega) (by omega)) (by first | assumption | exact inI_mk (by omega) (by omega)) dL_fails_320 (by decide) (fun c_320 => ?_) (fun c_320 => ?_)
                                                    · skip
                                                      exact absurd c_320 (by omega)
                                                    · skip
                                                      refine g_aload_n (pc := 323) hX 2 rfl dL_fails_323 ?_
                                                      refine g_iconst (pc := 324) hX dL_fails_324 ?_
                                                      refine g_bipush (pc := 325) hX (by decide) dL_fails_325 ?_
                                                      refine g_callD (pc := 327) (As := [vI (0), vI (11)]) (st2 := []) hX hA.N hA.e (x_parcel hA (p := 0) (x := 11) (inI_mk (by omega) (by omega)) (inI_mk (by omega) (by omega)) (by omega)) gL_fails_X6_parcel (n := 2) (hw := rfl) (hrc := rfl) (hrs := rfl) (hd := by decide +kernel) (hR := ⟨Nat.le_of_ble_eq_true rfl, Nat.le_of_ble_eq_true rfl⟩) (hn := rfl) (hst := rfl) (hsum := Nat.le_of_ble_eq_true rfl) (hdg := dL_fails_327) ?_
                                                      rintro _ S9 ⟨rfl, e9⟩
                                                      rw [e9]
                                                      clear e9 S9
                                                      refine g_at (pc2 := 330) rfl rfl (st2 := [vI (-1000001)]) rfl (S2 := S) rfl ?_
                                                      refine g_ldc (pc := 330) hX (z := -1000001) (List.mem_of_getElem? (i := 1) rfl) (by decide +kernel) dL_fails_330 ?_
                                                      refine g_icmp_ne (pc := 332) (tgt := 372) hX (by first | assumption | exact inI_mk (by omega) (by omega)) (by first | assumption | exact inI_mk (by omega) (by omega)) dL_fails_332 (by decide) (fun c_332 => ?_) (fun c_332 => ?_)
                                                      · skip
                                                        exact absurd c_332 (by omega)
                                                      · skip
                                                        refine g_aload_n (pc := 335) hX 2 rfl dL_fails_335 ?_
                                                        refine g_iload_n (pc := 336) hX 3 rfl dL_fails_336 ?_
                                                        refine g_iconst (pc := 337) hX dL_fails_337 ?_
                                                        refine g_callD (pc := 338) (As := [vI (snP D), vI (0)]) (st2 := []) hX hA.N hA.e (x_why hA (p := snP D) (i := 0) (inI_mk (by omega) (by omega)) (inI_mk (by omega) (by omega)) (by omega)) gL_fails_X6_why (n := 2) (hw := rfl) (hrc := rfl) (hrs := rfl) (hd := by decide +kernel) (hR := ⟨Nat.le_of_ble_eq_true rfl, Nat.le_of_ble_eq_true rfl⟩) (hn := rfl) (hst := rfl) (hsum := Nat.le_of_ble_eq_true rfl) (hdg := dL_fails_338) ?_
                                                        rintro _ S9 ⟨rfl, e9⟩
                                                        rw [e9]
                                                        clear e9 S9
                                                        refine g_at (pc2 := 341) rfl rfl (st2 := [vI (-1000001)]) rfl (S2 := S) rfl ?_
                                                        refine g_ldc (pc := 341) hX (z := -1000001) (List.mem_of_getElem? (i := 1) rfl) (by decide +kernel) dL_fails_341 ?_
                                                        refine g_icmp_ne (pc := 343) (tgt := 372) hX (by first | assumption | exact inI_mk (by omega) (by omega)) (by first | assumption | exact inI_mk (by omega) (by omega)) dL_fails_343 (by decide) (fun c_343 => ?_) (fun c_343 => ?_)
                                                        · skip
                                                          exact absurd c_343 (by omega)
                                                        · skip
                                                          refine g_aload_n (pc := 346) hX 2 rfl dL_fails_346 ?_
                                                          refine g_iconst (pc := 347) hX dL_fails_347 ?_
                                                          refine g_iconst (pc := 348) hX dL_fails_348 ?_
                                                          refine g_callD (pc := 349) (As := [vI (0), vI (-1)]) (st2 := []) hX hA.N hA.e (x_why hA (p := 0) (i := -1) (inI_mk (by omega) (by omega)) (inI_mk (by omega) (by omega)) (by omega)) gL_fails_X6_why (n := 2) (hw := rfl) (hrc := rfl) (hrs := rfl) (hd := by decide +kernel) (hR := ⟨Nat.le_of_ble_eq_true rfl, Nat.le_of_ble_eq_true rfl⟩) (hn := rfl) (hst := rfl) (hsum := Nat.le_of_ble_eq_true rfl) (hdg := dL_fails_349) ?_
                                                          rintro _ S9 ⟨rfl, e9⟩
                                                          rw [e9]
                                                          clear e9 S9
                                                          refine g_at (pc2 := 352) rfl rfl (st2 := [vI (-1000001)]) rfl (S2 := S) rfl ?_
                                                          refine g_ldc (pc := 352) hX (z := -1000001) (List.mem_of_getElem? (i := 1) rfl) (by decide +kernel) dL_fails_352 ?_
                                                          refine g_icmp_ne (pc := 354) (tgt := 372) hX (by first | assumption | exact inI_mk (by omega) (by omega)) (by first | assumption | exact inI_mk (by omega) (by omega)) dL_fails_354 (by decide) (fun c_354 => ?_) (fun c_354 => ?_)
                                                          · skip
                                                            exact absurd c_354 (by omega)
                                                          · skip
                                                            refine g_aload_n (pc := 357) hX 2 rfl dL_fails_357 ?_
                                                            refine g_iload_n (pc := 358) hX 3 rfl dL_fails_358 ?_
                                                            refine g_callD (pc := 359) (As := [vI (snP D)]) (st2 := []) hX hA.N hA.e (x_density hA (p := snP D) (inI_mk (by omega) (by omega)) (by omega)) gL_fails_X6_density (n := 1) (hw := rfl) (hrc := rfl) (hrs := rfl) (hd := by decide +kernel) (hR := ⟨Nat.le_of_ble_eq_true rfl, Nat.le_of_ble_eq_true rfl⟩) (hn := rfl) (hst := rfl) (hsum := Nat.le_of_ble_eq_true rfl) (hdg := dL_fails_359) ?_
                                                            rintro _ S9 ⟨rfl, e9⟩
                                                            rw [e9]
                                                            clear e9 S9
                                                            refine g_at (pc2 := 362) rfl rfl (st2 := [.float 3212836864]) rfl (S2 := S) rfl ?_
                                                            refine g_ldcf (pc := 362) hX (v := 3212836864) (List.mem_of_getElem? (i := 3) rfl) dL_fails_362 ?_
                                                            refine g_fcmp_self (pc := 364) hX n32_one dL_fails_364 ?_
                                                            refine g_if_ne (pc := 365) (tgt := 372) hX (by first | assumption | exact inI_mk (by omega) (by omega)) dL_fails_365 (by decide) (fun c_365 => ?_) (fun c_365 => ?_)
                                                            · skip
                                                              exact absurd c_365 (by omega)
                                                            · skip
                                                              refine g_iconst (pc := 368) hX dL_fails_368 ?_
                                                              refine g_goto (pc := 369) (tgt := 373) hX dL_fails_369 (by decide) ?_
                                                              refine g_istore (pc := 373) hX (lv2 := [(5, vI (1)), (3, vL (fpZ D)), (0, .ref (gw_ad w 0)), (1, vI (snP D)), (2, vI (snN D))]) (by decide) rfl dL_fails_373 ?_
                                                              refine g_iload (pc := 375) hX 0 rfl dL_fails_375 ?_
                                                              refine g_if_eq (pc := 377) (tgt := 510) hX (by first | assumption | exact inI_mk (by omega) (by omega)) dL_fails_377 (by decide) (fun c_377 => ?_) (fun c_377 => ?_)
                                                              · skip
                                                                exact absurd c_377 (by omega)
                                                              · skip
                                                                refine g_aload_n (pc := 380) hX 2 rfl dL_fails_380 ?_
                                                                refine g_iload_n (pc := 381) hX 3 rfl dL_fails_381 ?_
                                                                refine g_iconst (pc := 382) hX dL_fails_382 ?_
                                                                refine g_iconst (pc := 383) hX dL_fails_383 ?_
                                                                refine g_callD (pc := 384) (As := [vI (snP D), vI (0), vI (1)]) (st2 := []) hX hA.N hA.e (x_dispute hA (p := snP D) (x := 0) (y := 1) (inI_mk (by omega) (by omega)) (inI_mk (by omega) (by omega)) (inI_mk (by omega) (by omega)) (by intro h; have h1 := h.1; have h2 := h.2.2; first | omega | (rw [if_neg (by decide)] at h2; omega))) gL_fails_X6_dispute (n := 3) (hw := rfl) (hrc := rfl) (hrs := rfl) (hd := by decide +kernel) (hR := ⟨Nat.le_of_ble_eq_true rfl, Nat.le_of_ble_eq_true rfl⟩) (hn := rfl) (hst := rfl) (hsum := Nat.le_of_ble_eq_true rfl) (hdg := dL_fails_384) ?_
                                                                rintro _ S9 ⟨rfl, e9⟩
                                                                rw [e9]
                                                                clear e9 S9
                                                                refine g_at (pc2 := 387) rfl rfl (st2 := [vI (-1000001)]) rfl (S2 := S) rfl ?_
                                                                refine g_ldc (pc := 387) hX (z := -1000001) (List.mem_of_getElem? (i := 1) rfl) (by decide +kernel) dL_fails_387 ?_
                                                                refine g_icmp_ne (pc := 389) (tgt := 510) hX (by first | assumption | exact inI_mk (by omega) (by omega)) (by first | assumption | exact inI_mk (by omega) (by omega)) dL_fails_389 (by decide) (fun c_389 => ?_) (fun c_389 => ?_)
                                                                · skip
                                                                  exact absurd c_389 (by omega)
                                                                · skip
                                                                  refine g_aload_n (pc := 392) hX 2 rfl dL_fails_392 ?_
                                                                  refine g_iconst (pc := 393) hX dL_fails_393 ?_
                                                                  refine g_iconst (pc := 394) hX dL_fails_394 ?_
                                                                  refine g_iconst (pc := 395) hX dL_fails_395 ?_
                                                                  refine g_callD (pc := 396) (As := [vI (0), vI (4), vI (1)]) (st2 := []) hX hA.N hA.e (x_dispute hA (p := 0) (x := 4) (y := 1) (inI_mk (by omega) (by omega)) (inI_mk (by omega) (by omega)) (inI_mk (by omega) (by omega)) (by intro h; have h1 := h.1; have h2 := h.2.2; first | omega | (rw [if_neg (by decide)] at h2; omega))) gL_fails_X6_dispute (n := 3) (hw := rfl) (hrc := rfl) (hrs := rfl) (hd := by decide +kernel) (hR := ⟨Nat.le_of_ble_eq_true rfl, Nat.le_of_ble_eq_true rfl⟩) (hn := rfl) (hst := rfl) (hsum := Nat.le_of_ble_eq_true rfl) (hdg := dL_fails_396) ?_
                                                                  rintro _ S9 ⟨rfl, e9⟩
                                                                  rw [e9]
                                                                  clear e9 S9
                                                                  refine g_at (pc2 := 399) rfl rfl (st2 := [vI (-1000001)]) rfl (S2 := S) rfl ?_
                                                                  refine g_ldc (pc := 399) hX (z := -1000001) (List.mem_of_getElem? (i := 1) rfl) (by decide +kernel) dL_fails_399 ?_
                                                                  refine g_icmp_ne (pc := 401) (tgt := 510) hX (by first | assumption | exact inI_mk (by omega) (by omega)) (by first | assumption | exact inI_mk (by omega) (by omega)) dL_fails_401 (by decide) (fun c_401 => ?_) (fun c_401 => ?_)
                                                                  · skip
                                                                    exact absurd c_401 (by omega)
                                                                  · skip
                                                                    refine g_aload_n (pc := 404) hX 2 rfl dL_fails_404 ?_
                                                                    refine g_iconst (pc := 405) hX dL_fails_405 ?_
                                                                    refine g_iconst (pc := 406) hX dL_fails_406 ?_
                                                                    refine g_sipush (pc := 407) hX (by decide) dL_fails_407 ?_
                                                                    refine g_callD (pc := 410) (As := [vI (0), vI (1), vI (2001)]) (st2 := []) hX hA.N hA.e (x_dispute hA (p := 0) (x := 1) (y := 2001) (inI_mk (by omega) (by omega)) (inI_mk (by omega) (by omega)) (inI_mk (by omega) (by omega)) (by intro h; have h1 := h.1; have h2 := h.2.2; first | omega | (rw [if_neg (by decide)] at h2; omega))) gL_fails_X6_dispute (n := 3) (hw := rfl) (hrc := rfl) (hrs := rfl) (hd := by decide +kernel) (hR := ⟨Nat.le_of_ble_eq_true rfl, Nat.le_of_ble_eq_true rfl⟩) (hn := rfl) (hst := rfl) (hsum := Nat.le_of_ble_eq_true rfl) (hdg := dL_fails_410) ?_
                                                                    rintro _ S9 ⟨rfl, e9⟩
                                                                    rw [e9]
                                                                    clear e9 S9
                                                                    refine g_at (pc2 := 413) rfl rfl (st2 := [vI (-1000001)]) rfl (S2 := S) rfl ?_
                                                                    refine g_ldc (pc := 413) hX (z := -1000001) (List.mem_of_getElem? (i := 1) rfl) (by decide +kernel) dL_fails_413 ?_
                                                                    refine g_icmp_ne (pc := 415) (tgt := 510) hX (by first | assumption | exact inI_mk (by omega) (by omega)) (by first | assumption | exact inI_mk (by omega) (by omega)) dL_fails_415 (by decide) (fun c_415 => ?_) (fun c_415 => ?_)
                                                                    · skip
                                                                      exact absurd c_415 (by omega)
                                                                    · skip
                                                                      refine g_aload_n (pc := 418) hX 2 rfl dL_fails_418 ?_
                                                                      refine g_iload_n (pc := 419) hX 4 rfl dL_fails_419 ?_
                                                                      refine g_iconst (pc := 420) hX dL_fails_420 ?_
                                                                      refine g_callD (pc := 421) (As := [vI (snN D), vI (1)]) (st2 := []) hX hA.N hA.e (x_settle1 hA (n := snN D) (inI_mk (by omega) (by omega)) (by omega)) gL_fails_X6_settle (n := 2) (hw := rfl) (hrc := rfl) (hrs := rfl) (hd := by decide +kernel) (hR := ⟨Nat.le_of_ble_eq_true rfl, Nat.le_of_ble_eq_true rfl⟩) (hn := rfl) (hst := rfl) (hsum := Nat.le_of_ble_eq_true rfl) (hdg := dL_fails_421) ?_
                                                                      rintro _ S9 ⟨rfl, e9⟩
                                                                      rw [e9]
                                                                      clear e9 S9
                                                                      refine g_at (pc2 := 424) rfl rfl (st2 := [vI (-1000001)]) rfl (S2 := S) rfl ?_
                                                                      refine g_ldc (pc := 424) hX (z := -1000001) (List.mem_of_getElem? (i := 1) rfl) (by decide +kernel) dL_fails_424 ?_
                                                                      refine g_icmp_ne (pc := 426) (tgt := 510) hX (by first | assumption | exact inI_mk (by omega) (by omega)) (by first | assumption | exact inI_mk (by omega) (by omega)) dL_fails_426 (by decide) (fun c_426 => ?_) (fun c_426 => ?_)
                                                                      · skip
                                                                        exact absurd c_426 (by omega)
                                                                      · skip
                                                                        refine g_aload_n (pc := 429) hX 2 rfl dL_fails_429 ?_
                                                                        refine g_iload_n (pc := 430) hX 4 rfl dL_fails_430 ?_
                                                                        refine g_iconst (pc := 431) hX dL_fails_431 ?_
                                                                        refine g_callD (pc := 432) (As := [vI (snN D), vI (0)]) (st2 := []) hX hA.N hA.e (x_note hA (n := snN D) (x := 0) (inI_mk (by omega) (by omega)) (inI_mk (by omega) (by omega)) (by omega)) gL_fails_X6_note (n := 2) (hw := rfl) (hrc := rfl) (hrs := rfl) (hd := by decide +kernel) (hR := ⟨Nat.le_of_ble_eq_true rfl, Nat.le_of_ble_eq_true rfl⟩) (hn := rfl) (hst := rfl) (hsum := Nat.le_of_ble_eq_true rfl) (hdg := dL_fails_432) ?_
                                                                        rintro _ S9 ⟨rfl, e9⟩
                                                                        rw [e9]
                                                                        clear e9 S9
                                                                        refine g_at (pc2 := 435) rfl rfl (st2 := [vI (-1000001)]) rfl (S2 := S) rfl ?_
                                                                        refine g_ldc (pc := 435) hX (z := -1000001) (List.mem_of_getElem? (i := 1) rfl) (by decide +kernel) dL_fails_435 ?_
                                                                        refine g_icmp_ne (pc := 437) (tgt := 510) hX (by first | assumption | exact inI_mk (by omega) (by omega)) (by first | assumption | exact inI_mk (by omega) (by omega)) dL_fails_437 (by decide) (fun c_437 => ?_) (fun c_437 => ?_)
                                                                        · skip
                                                                          exact absurd c_437 (by omega)
                                                                        · skip
                                                                          refine g_aload_n (pc := 440) hX 2 rfl dL_fails_440 ?_
                                                                          refine g_iconst (pc := 441) hX dL_fails_441 ?_
                                                                          refine g_bipush (pc := 442) hX (by decide) dL_fails_442 ?_
                                                                          refine g_callD (pc := 444) (As := [vI (0), vI (6)]) (st2 := []) hX hA.N hA.e (x_note hA (n := 0) (x := 6) (inI_mk (by omega) (by omega)) (inI_mk (by omega) (by omega)) (by omega)) gL_fails_X6_note (n := 2) (hw := rfl) (hrc := rfl) (hrs := rfl) (hd := by decide +kernel) (hR := ⟨Nat.le_of_ble_eq_true rfl, Nat.le_of_ble_eq_true rfl⟩) (hn := rfl) (hst := rfl) (hsum := Nat.le_of_ble_eq_true rfl) (hdg := dL_fails_444) ?_
                                                                          rintro _ S9 ⟨rfl, e9⟩
                                                                          rw [e9]
                                                                          clear e9 S9
                                                                          refine g_at (pc2 := 447) rfl rfl (st2 := [vI (-1000001)]) rfl (S2 := S) rfl ?_
                                                                          refine g_ldc (pc := 447) hX (z := -1000001) (List.mem_of_getElem? (i := 1) rfl) (by decide +kernel) dL_fails_447 ?_
                                                                          refine g_icmp_ne (pc := 449) (tgt := 510) hX (by first | assumption | exact inI_mk (by omega) (by omega)) (by first | assumption | exact inI_mk (by omega) (by omega)) dL_fails_449 (by decide) (fun c_449 => ?_) (fun c_449 => ?_)
                                                                          · skip
                                                                            exact absurd c_449 (by omega)
                                                                          · skip
                                                                            refine g_aload_n (pc := 452) hX 2 rfl dL_fails_452 ?_
                                                                            refine g_iconst (pc := 453) hX dL_fails_453 ?_
                                                                            refine g_callD (pc := 454) (As := [vI (5)]) (st2 := []) hX hA.N hA.e (x_sum hA (x := 5) (inI_mk (by omega) (by omega)) (by decide)) gL_fails_X6_sum (n := 1) (hw := rfl) (hrc := rfl) (hrs := rfl) (hd := by decide +kernel) (hR := ⟨Nat.le_of_ble_eq_true rfl, Nat.le_of_ble_eq_true rfl⟩) (hn := rfl) (hst := rfl) (hsum := Nat.le_of_ble_eq_true rfl) (hdg := dL_fails_454) ?_
                                                                            rintro _ S9 ⟨rfl, e9⟩
                                                                            rw [e9]
                                                                            clear e9 S9
                                                                            refine g_at (pc2 := 457) rfl rfl (st2 := [vL (-1000001)]) rfl (S2 := S) rfl ?_
                                                                            refine g_ldc2 (pc := 457) hX (z := -1000001) (List.mem_of_getElem? (i := 4) rfl) (by decide +kernel) dL_fails_457 ?_
                                                                            refine g_lcmp_same (pc := 460) (tgt := 510) hX (a := -1000001) (b := -1000001) rfl dL_fails_460 dL_fails_461 (by decide) ?_
                                                                            refine g_aload_n (pc := 464) hX 2 rfl dL_fails_464 ?_
                                                                            refine g_iload_n (pc := 465) hX 3 rfl dL_fails_465 ?_
                                                                            refine g_callD (pc := 466) (As := [vI (snP D)]) (st2 := []) hX hA.N hA.e (x_lighter hA (p := snP D) (inI_mk (by omega) (by omega)) (by omega)) gL_fails_X6_lighter (n := 1) (hw := rfl) (hrc := rfl) (hrs := rfl) (hd := by decide +kernel) (hR := ⟨Nat.le_of_ble_eq_true rfl, Nat.le_of_ble_eq_true rfl⟩) (hn := rfl) (hst := rfl) (hsum := Nat.le_of_ble_eq_true rfl) (hdg := dL_fails_466) ?_
                                                                            rintro _ S9 ⟨rfl, e9⟩
                                                                            rw [e9]
                                                                            clear e9 S9
                                                                            refine g_at (pc2 := 469) rfl rfl (st2 := [vI (-1000001)]) rfl (S2 := S) rfl ?_
                                                                            refine g_ldc (pc := 469) hX (z := -1000001) (List.mem_of_getElem? (i := 1) rfl) (by decide +kernel) dL_fails_469 ?_
                                                                            refine g_icmp_ne (pc := 471) (tgt := 510) hX (by first | assumption | exact inI_mk (by omega) (by omega)) (by first | assumption | exact inI_mk (by omega) (by omega)) dL_fails_471 (by decide) (fun c_471 => ?_) (fun c_471 => ?_)
                                                                            · skip
                                                                              exact absurd c_471 (by omega)
                                                                            · skip
                                                                              refine g_aload_n (pc := 474) hX 2 rfl dL_fails_474 ?_
                                                                              refine g_iconst (pc := 475) hX dL_fails_475 ?_
                                                                              refine g_iconst (pc := 476) hX dL_fails_476 ?_
                                                                              refine g_callD (pc := 477) (As := [vI (0), vI (0)]) (st2 := []) hX hA.N hA.e (x_shorter hA (p := 0) (x := 0) (inI_mk (by omega) (by omega)) (inI_mk (by omega) (by omega)) (by omega)) gL_fails_X6_shorter (n := 2) (hw := rfl) (hrc := rfl) (hrs := rfl) (hd := by decide +kernel) (hR := ⟨Nat.le_of_ble_eq_true rfl, Nat.le_of_ble_eq_true rfl⟩) (hn := rfl) (hst := rfl) (hsum := Nat.le_of_ble_eq_true rfl) (hdg := dL_fails_477) ?_
                                                                              rintro _ S9 ⟨rfl, e9⟩
                                                                              rw [e9]
                                                                              clear e9 S9
                                                                              refine g_at (pc2 := 480) rfl rfl (st2 := [vI (-1000001)]) rfl (S2 := S) rfl ?_
                                                                              refine g_ldc (pc := 480) hX (z := -1000001) (List.mem_of_getElem? (i := 1) rfl) (by decide +kernel) dL_fails_480 ?_
                                                                              refine g_icmp_ne (pc := 482) (tgt := 510) hX (by first | assumption | exact inI_mk (by omega) (by omega)) (by first | assumption | exact inI_mk (by omega) (by omega)) dL_fails_482 (by decide) (fun c_482 => ?_) (fun c_482 => ?_)
                                                                              · skip
                                                                                exact absurd c_482 (by omega)
                                                                              · skip
                                                                                refine g_aload_n (pc := 485) hX 2 rfl dL_fails_485 ?_
                                                                                refine g_iconst (pc := 486) hX dL_fails_486 ?_
                                                                                refine g_iconst (pc := 487) hX dL_fails_487 ?_
                                                                                refine g_callD (pc := 488) (As := [vI (0), vI (4)]) (st2 := []) hX hA.N hA.e (x_shorter hA (p := 0) (x := 4) (inI_mk (by omega) (by omega)) (inI_mk (by omega) (by omega)) (by omega)) gL_fails_X6_shorter (n := 2) (hw := rfl) (hrc := rfl) (hrs := rfl) (hd := by decide +kernel) (hR := ⟨Nat.le_of_ble_eq_true rfl, Nat.le_of_ble_eq_true rfl⟩) (hn := rfl) (hst := rfl) (hsum := Nat.le_of_ble_eq_true rfl) (hdg := dL_fails_488) ?_
                                                                                rintro _ S9 ⟨rfl, e9⟩
                                                                                rw [e9]
                                                                                clear e9 S9
                                                                                refine g_at (pc2 := 491) rfl rfl (st2 := [vI (-1000001)]) rfl (S2 := S) rfl ?_
                                                                                refine g_ldc (pc := 491) hX (z := -1000001) (List.mem_of_getElem? (i := 1) rfl) (by decide +kernel) dL_fails_491 ?_
                                                                                refine g_icmp_ne (pc := 493) (tgt := 510) hX (by first | assumption | exact inI_mk (by omega) (by omega)) (by first | assumption | exact inI_mk (by omega) (by omega)) dL_fails_493 (by decide) (fun c_493 => ?_) (fun c_493 => ?_)
                                                                                · skip
                                                                                  exact absurd c_493 (by omega)
                                                                                · skip
                                                                                  refine g_aload_n (pc := 496) hX 2 rfl dL_fails_496 ?_
                                                                                  refine g_iconst (pc := 497) hX dL_fails_497 ?_
                                                                                  refine g_callD (pc := 498) (As := [vI (-1)]) (st2 := []) hX hA.N hA.e (x_cheapest hA (p := -1) (inI_mk (by omega) (by omega)) (by omega)) gL_fails_X6_cheapest (n := 1) (hw := rfl) (hrc := rfl) (hrs := rfl) (hd := by decide +kernel) (hR := ⟨Nat.le_of_ble_eq_true rfl, Nat.le_of_ble_eq_true rfl⟩) (hn := rfl) (hst := rfl) (hsum := Nat.le_of_ble_eq_true rfl) (hdg := dL_fails_498) ?_
                                                                                  rintro _ S9 ⟨rfl, e9⟩
                                                                                  rw [e9]
                                                                                  clear e9 S9
                                                                                  refine g_at (pc2 := 501) rfl rfl (st2 := [vI (-1000001)]) rfl (S2 := S) rfl ?_
                                                                                  refine g_ldc (pc := 501) hX (z := -1000001) (List.mem_of_getElem? (i := 1) rfl) (by decide +kernel) dL_fails_501 ?_
                                                                                  refine g_icmp_ne (pc := 503) (tgt := 510) hX (by first | assumption | exact inI_mk (by omega) (by omega)) (by first | assumption | exact inI_mk (by omega) (by omega)) dL_fails_503 (by decide) (fun c_503 => ?_) (fun c_503 => ?_)
                                                                                  · skip
                                                                                    exact absurd c_503 (by omega)
                                                                                  · skip
                                                                                    refine g_iconst (pc := 506) hX dL_fails_506 ?_
                                                                                    refine g_goto (pc := 507) (tgt := 511) hX dL_fails_507 (by decide) ?_
                                                                                    refine g_istore (pc := 511) hX (lv2 := [(5, vI (1)), (3, vL (fpZ D)), (0, .ref (gw_ad w 0)), (1, vI (snP D)), (2, vI (snN D))]) (by decide) rfl dL_fails_511 ?_
                                                                                    refine g_iload (pc := 513) hX 0 rfl dL_fails_513 ?_
                                                                                    refine g_if_eq (pc := 515) (tgt := 531) hX (by first | assumption | exact inI_mk (by omega) (by omega)) dL_fails_515 (by decide) (fun c_515 => ?_) (fun c_515 => ?_)
                                                                                    · skip
                                                                                      exact absurd c_515 (by omega)
                                                                                    · skip
                                                                                      refine g_aload_n (pc := 518) hX 2 rfl dL_fails_518 ?_
                                                                                      refine g_callD (pc := 519) (As := []) (st2 := []) hX hA.N hA.e (q_fingerprint hA) gL_fails_X6_fingerprint (n := 0) (hw := rfl) (hrc := rfl) (hrs := rfl) (hd := by decide +kernel) (hR := ⟨Nat.le_of_ble_eq_true rfl, Nat.le_of_ble_eq_true rfl⟩) (hn := rfl) (hst := rfl) (hsum := Nat.le_of_ble_eq_true rfl) (hdg := dL_fails_519) ?_
                                                                                      rintro _ S9 ⟨rfl, e9⟩
                                                                                      rw [e9]
                                                                                      clear e9 S9
                                                                                      refine g_at (pc2 := 522) rfl rfl (st2 := [vL (fpZ D)]) rfl (S2 := S) rfl ?_
                                                                                      refine g_lload_n (pc := 522) hX 1 rfl dL_fails_522 ?_
                                                                                      refine g_lcmp_same (pc := 523) (tgt := 531) hX (a := fpZ D) (b := fpZ D) rfl dL_fails_523 dL_fails_524 (by decide) ?_
                                                                                      refine g_iconst (pc := 527) hX dL_fails_527 ?_
                                                                                      refine g_goto (pc := 528) (tgt := 532) hX dL_fails_528 (by decide) ?_
                                                                                      refine g_at rfl rfl (st2 := [vI (bz true)]) rfl rfl ?_
                                                                                      refine g_zret (pc := 532) hX hR dL_fails_532 ?_
                                                                                      exact ⟨rfl, rfl⟩

