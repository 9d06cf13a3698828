set_option maxHeartbeats 4000000 in
set_option maxRecDepth 100000 in
theorem c_L_scale {w : gW} {l : Launch} {S : Nat → va_E} {D : SD} (hA : A0 w D S) :
    GM1 w l yL_scale wsL_scale { frames := 6, cells := 0, slots := 0, locals := 125 } [.ref (gw_ad w 0)] S
      (fun v S' => v = vI (bz true) ∧ S' = S) := by
  refine GM.start (own := RL) (n := "scale") (d := "(LParcelDesk;)Z") (by decide) rfl (Nat.le_of_ble_eq_true rfl) ?_
  intro X hX hR hXl
  subst hXl
  refine g_at rfl (lv2 := [(0, .ref (gw_ad w 0))]) rfl rfl rfl ?_
  have hb := hA.b
  obtain ⟨hg1, hg2, hg3⟩ := hA.gro
  refine g_aload_n (pc := 0) hX 0 rfl dL_scale_0 ?_
  refine g_iconst (pc := 1) hX dL_scale_1 ?_
  refine g_callD (pc := 2) (As := [vI (1)]) (st2 := []) hX hA.N hA.e (q_scale1 hA) gL_scale_X6_scale (n := 1) (hw := rfl) (hrc := rfl) (hrs := rfl) (hd := by decide +kernel) (hR := ⟨Nat.le_of_ble_eq_true rfl, Nat.le_of_ble_eq_true rfl⟩) (hn := rfl) (hst := rfl) (hsum := Nat.le_of_ble_eq_true rfl) (hdg := dL_scale_2) ?_
  rintro _ S9 ⟨rfl, e9⟩
  rw [e9]
  clear e9 S9
  refine g_at (pc2 := 5) rfl rfl (st2 := [vI (scRaw (sF D) (sG D))]) rfl (S2 := S) rfl ?_
  refine g_aload_n (pc := 5) hX 0 rfl dL_scale_5 ?_
  refine g_iconst (pc := 6) hX dL_scale_6 ?_
  refine g_callD (pc := 7) (As := [vI (4)]) (st2 := [vI (scRaw (sF D) (sG D))]) hX hA.N hA.e (q_scale4 hA) gL_scale_X6_scale (n := 1) (hw := rfl) (hrc := rfl) (hrs := rfl) (hd := by decide +kernel) (hR := ⟨Nat.le_of_ble_eq_true rfl, Nat.le_of_ble_eq_true rfl⟩) (hn := rfl) (hst := rfl) (hsum := Nat.le_of_ble_eq_true rfl) (hdg := dL_scale_7) ?_
  rintro _ S9 ⟨rfl, e9⟩
  rw [e9]
  clear e9 S9
  refine g_at (pc2 := 10) rfl rfl (st2 := [vI (sG D 2), vI (scRaw (sF D) (sG D))]) rfl (S2 := S) rfl ?_
  refine g_isub (pc := 10) hX dL_scale_10 ?_
  refine g_istore_n (pc := 11) hX (lv2 := [(1, vI ((scRaw (sF D) (sG D)) - (sG D 2))), (0, .ref (gw_ad w 0))]) rfl (by decide) rfl dL_scale_11 ?_
  refine g_aload_n (pc := 12) hX 1 rfl dL_scale_12 ?_
  refine g_iconst (pc := 13) hX dL_scale_13 ?_
  refine g_callD (pc := 14) (As := [vI (2)]) (st2 := []) hX hA.N hA.e (q_scale2 hA) gL_scale_X6_scale (n := 1) (hw := rfl) (hrc := rfl) (hrs := rfl) (hd := by decide +kernel) (hR := ⟨Nat.le_of_ble_eq_true rfl, Nat.le_of_ble_eq_true rfl⟩) (hn := rfl) (hst := rfl) (hsum := Nat.le_of_ble_eq_true rfl) (hdg := dL_scale_14) ?_
  rintro _ S9 ⟨rfl, e9⟩
  rw [e9]
  clear e9 S9
  refine g_at (pc2 := 17) rfl rfl (st2 := [vI (scGross (sF D) (sG D))]) rfl (S2 := S) rfl ?_
  refine g_istore_n (pc := 17) hX (lv2 := [(2, vI (scGross (sF D) (sG D))), (1, vI ((scRaw (sF D) (sG D)) - (sG D 2))), (0, .ref (gw_ad w 0))]) rfl (by decide) rfl dL_scale_17 ?_
  refine g_aload_n (pc := 18) hX 2 rfl dL_scale_18 ?_
  refine g_iconst (pc := 19) hX dL_scale_19 ?_
  refine g_callD (pc := 20) (As := [vI (2)]) (st2 := []) hX hA.N hA.e (q_setting hA (i := 2) (by omega) (by omega)) gL_scale_X6_setting (n := 1) (hw := rfl) (hrc := rfl) (hrs := rfl) (hd := by decide +kernel) (hR := ⟨Nat.le_of_ble_eq_true rfl, Nat.le_of_ble_eq_true rfl⟩) (hn := rfl) (hst := rfl) (hsum := Nat.le_of_ble_eq_true rfl) (hdg := dL_scale_20) ?_
  rintro _ S9 ⟨rfl, e9⟩
  rw [e9]
  clear e9 S9
  refine g_at (pc2 := 23) rfl rfl (st2 := [vI (sF D 2)]) rfl (S2 := S) rfl ?_
  refine g_istore_n (pc := 23) hX (lv2 := [(3, vI (sF D 2)), (2, vI (scGross (sF D) (sG D))), (1, vI ((scRaw (sF D) (sG D)) - (sG D 2))), (0, .ref (gw_ad w 0))]) rfl (by decide) rfl dL_scale_23 ?_
  refine g_iload_n (pc := 24) hX 1 rfl dL_scale_24 ?_
  refine g_iload_n (pc := 25) hX 0 rfl dL_scale_25 ?_
  refine g_irem (pc := 26) hX (by first | assumption | exact inI_mk (by omega) (by omega)) (by first | assumption | exact inI_mk (by omega) (by omega)) (by omega) dL_scale_26 ?_
  refine g_if_ne (pc := 27) (tgt := 112) hX (by rw [hg1]; exact inI_0) dL_scale_27 (by decide) (fun c_27 => ?_) (fun c_27 => ?_)
  · skip
    exact absurd hg1 c_27
  · skip
    refine g_iconst (pc := 30) hX dL_scale_30 ?_
    refine g_iload_n (pc := 31) hX 1 rfl dL_scale_31 ?_
    refine g_iload_n (pc := 32) hX 2 rfl dL_scale_32 ?_
    refine g_isub (pc := 33) hX dL_scale_33 ?_
    refine g_callT1 (pc := 34) (As := [vI ((scGross (sF D) (sG D)) - ((scRaw (sF D) (sG D)) - (sG D 2)))]) (st2 := [vI (2)]) hX (c_L_size (x := (scGross (sF D) (sG D)) - ((scRaw (sF D) (sG D)) - (sG D 2))) (by omega) (by omega)) gL_scale_L_size (n := 1) (hw := rfl) (hrc := rfl) (hrs := rfl) (hd := by decide +kernel) (hR := ⟨Nat.le_of_ble_eq_true rfl, Nat.le_of_ble_eq_true rfl⟩) (hn := rfl) (hst := rfl) (hsum := Nat.le_of_ble_eq_true rfl) (hdg := dL_scale_34) ?_
    rintro _ S9 ⟨rfl, e9⟩
    rw [e9]
    clear e9 S9
    refine g_at (pc2 := 37) rfl rfl (st2 := [vI (sizeZ ((scGross (sF D) (sG D)) - ((scRaw (sF D) (sG D)) - (sG D 2)))), vI (2)]) rfl (S2 := S) rfl ?_
    obtain ⟨u, eu⟩ : ∃ z : Int, z = sizeZ ((scGross (sF D) (sG D)) - ((scRaw (sF D) (sG D)) - (sG D 2))) := ⟨_, rfl⟩
    refine g_at rfl rfl (st2 := [vI (u), vI (2)]) (by rw [eu]) rfl ?_
    have hu := sizeZ_0 (scGross (sF D) (sG D) - (scRaw (sF D) (sG D) - sG D 2))
    rw [← eu] at hg2 hu
    refine g_imul (pc := 37) hX dL_scale_37 ?_
    refine g_iload_n (pc := 38) hX 0 rfl dL_scale_38 ?_
    refine g_icmp_gt (pc := 39) (tgt := 112) hX (by first | assumption | exact inI_mk (by omega) (by omega)) (by first | assumption | exact inI_mk (by omega) (by omega)) dL_scale_39 (by decide) (fun c_39 => ?_) (fun c_39 => ?_)
    · skip
      omega
    · skip
      refine g_iconst (pc := 42) hX dL_scale_42 ?_
      refine g_iload_n (pc := 43) hX 2 rfl dL_scale_43 ?_
      refine g_iload_n (pc := 44) hX 1 rfl dL_scale_44 ?_
      refine g_isub (pc := 45) hX dL_scale_45 ?_
      refine g_imul (pc := 46) hX dL_scale_46 ?_
      refine g_iload_n (pc := 47) hX 0 rfl dL_scale_47 ?_
      refine g_icmp_eq (pc := 48) (tgt := 112) hX (by first | assumption | exact inI_mk (by omega) (by omega)) (by first | assumption | exact inI_mk (by omega) (by omega)) dL_scale_48 (by decide) (fun c_48 => ?_) (fun c_48 => ?_)
      · skip
        exact absurd c_48 hg3
      · skip
        refine g_aload_n (pc := 51) hX 3 rfl dL_scale_51 ?_
        refine g_iconst (pc := 52) hX dL_scale_52 ?_
        refine g_callD (pc := 53) (As := [vI (3)]) (st2 := []) hX hA.N hA.e (q_scale3 hA) gL_scale_X6_scale (n := 1) (hw := rfl) (hrc := rfl) (hrs := rfl) (hd := by decide +kernel) (hR := ⟨Nat.le_of_ble_eq_true rfl, Nat.le_of_ble_eq_true rfl⟩) (hn := rfl) (hst := rfl) (hsum := Nat.le_of_ble_eq_true rfl) (hdg := dL_scale_53) ?_
        rintro _ S9 ⟨rfl, e9⟩
        rw [e9]
        clear e9 S9
        refine g_at (pc2 := 56) rfl rfl (st2 := [vI (scGross (sF D) (sG D) - sG D 3)]) rfl (S2 := S) rfl ?_
        refine g_iload_n (pc := 56) hX 1 rfl dL_scale_56 ?_
        refine g_aload_n (pc := 57) hX 3 rfl dL_scale_57 ?_
        refine g_iconst (pc := 58) hX dL_scale_58 ?_
        refine g_callD (pc := 59) (As := [vI (5)]) (st2 := [vI (scGross (sF D) (sG D)), vI (scGross (sF D) (sG D) - sG D 3)]) hX hA.N hA.e (q_scale5 hA) gL_scale_X6_scale (n := 1) (hw := rfl) (hrc := rfl) (hrs := rfl) (hd := by decide +kernel) (hR := ⟨Nat.le_of_ble_eq_true rfl, Nat.le_of_ble_eq_true rfl⟩) (hn := rfl) (hst := rfl) (hsum := Nat.le_of_ble_eq_true rfl) (hdg := dL_scale_59) ?_
        rintro _ S9 ⟨rfl, e9⟩
        rw [e9]
        clear e9 S9
        refine g_at (pc2 := 62) rfl rfl (st2 := [vI (sG D 3), vI (scGross (sF D) (sG D)), vI (scGross (sF D) (sG D) - sG D 3)]) rfl (S2 := S) rfl ?_
        refine g_isub (pc := 62) hX dL_scale_62 ?_
        refine g_icmp_ne (pc := 63) (tgt := 112) hX (by first | assumption | exact inI_mk (by omega) (by omega)) (by first | assumption | exact inI_mk (by omega) (by omega)) dL_scale_63 (by decide) (fun c_63 => ?_) (fun c_63 => ?_)
        · skip
          omega
        · skip
          refine g_aload_n (pc := 66) hX 3 rfl dL_scale_66 ?_
          refine g_bipush (pc := 67) hX (by decide) dL_scale_67 ?_
          refine g_callD (pc := 69) (As := [vI (8)]) (st2 := []) hX hA.N hA.e (q_scale8 hA) gL_scale_X6_scale (n := 1) (hw := rfl) (hrc := rfl) (hrs := rfl) (hd := by decide +kernel) (hR := ⟨Nat.le_of_ble_eq_true rfl, Nat.le_of_ble_eq_true rfl⟩) (hn := rfl) (hst := rfl) (hsum := Nat.le_of_ble_eq_true rfl) (hdg := dL_scale_69) ?_
          rintro _ S9 ⟨rfl, e9⟩
          rw [e9]
          clear e9 S9
          refine g_at (pc2 := 72) rfl rfl (st2 := [vI (bz (scOver (sF D) (sG D)))]) rfl (S2 := S) rfl ?_
          refine g_iload_n (pc := 72) hX 2 rfl dL_scale_72 ?_
          refine g_aload_n (pc := 73) hX 3 rfl dL_scale_73 ?_
          refine g_iconst (pc := 74) hX dL_scale_74 ?_
          refine g_callD (pc := 75) (As := [vI (3)]) (st2 := [vI ((scRaw (sF D) (sG D)) - (sG D 2)), vI (bz (scOver (sF D) (sG D)))]) hX hA.N hA.e (q_setting hA (i := 3) (by omega) (by omega)) gL_scale_X6_setting (n := 1) (hw := rfl) (hrc := rfl) (hrs := rfl) (hd := by decide +kernel) (hR := ⟨Nat.le_of_ble_eq_true rfl, Nat.le_of_ble_eq_true rfl⟩) (hn := rfl) (hst := rfl) (hsum := Nat.le_of_ble_eq_true rfl) (hdg := dL_scale_75) ?_
          rintro _ S9 ⟨rfl, e9⟩
          rw [e9]
          clear e9 S9
          refine g_at (pc2 := 78) rfl rfl (st2 := [vI (sF D 3), vI ((scRaw (sF D) (sG D)) - (sG D 2)), vI (bz (scOver (sF D) (sG D)))]) rfl (S2 := S) rfl ?_
          refine g_icmp_le (pc := 78) (tgt := 85) hX (by first | assumption | exact inI_mk (by omega) (by omega)) (by first | assumption | exact inI_mk (by omega) (by omega)) dL_scale_78 (by decide) (fun c_78 => ?_) (fun c_78 => ?_)
          · skip
            refine g_iconst (pc := 85) hX dL_scale_85 ?_
            refine g_bcmp_ne (pc := 86) (tgt := 112) (a := scOver (sF D) (sG D)) (b := false) hX dL_scale_86 (by decide) (fun c_86 => ?_) (fun c_86 => ?_)
            · skip
              exact absurd c_86 (by rw [show scOver (sF D) (sG D) = false from decide_eq_false (by omega)]; decide)
            · skip
              refine g_aload_n (pc := 89) hX 3 rfl dL_scale_89 ?_
              refine g_bipush (pc := 90) hX (by decide) dL_scale_90 ?_
              refine g_callD (pc := 92) (As := [vI (9)]) (st2 := []) hX hA.N hA.e (q_scale9 hA) gL_scale_X6_scale (n := 1) (hw := rfl) (hrc := rfl) (hrs := rfl) (hd := by decide +kernel) (hR := ⟨Nat.le_of_ble_eq_true rfl, Nat.le_of_ble_eq_true rfl⟩) (hn := rfl) (hst := rfl) (hsum := Nat.le_of_ble_eq_true rfl) (hdg := dL_scale_92) ?_
              rintro _ S9 ⟨rfl, e9⟩
              rw [e9]
              clear e9 S9
              refine g_at (pc2 := 95) rfl rfl (st2 := [vI (sG D 5)]) rfl (S2 := S) rfl ?_
              refine g_if_lt (pc := 95) (tgt := 112) hX (by first | assumption | exact inI_mk (by omega) (by omega)) dL_scale_95 (by decide) (fun c_95 => ?_) (fun c_95 => ?_)
              · skip
                omega
              · skip
                refine g_aload_n (pc := 98) hX 3 rfl dL_scale_98 ?_
                refine g_bipush (pc := 99) hX (by decide) dL_scale_99 ?_
                refine g_callD (pc := 101) (As := [vI (9)]) (st2 := []) hX hA.N hA.e (q_scale9 hA) gL_scale_X6_scale (n := 1) (hw := rfl) (hrc := rfl) (hrs := rfl) (hd := by decide +kernel) (hR := ⟨Nat.le_of_ble_eq_true rfl, Nat.le_of_ble_eq_true rfl⟩) (hn := rfl) (hst := rfl) (hsum := Nat.le_of_ble_eq_true rfl) (hdg := dL_scale_101) ?_
                rintro _ S9 ⟨rfl, e9⟩
                rw [e9]
                clear e9 S9
                refine g_at (pc2 := 104) rfl rfl (st2 := [vI (sG D 5)]) rfl (S2 := S) rfl ?_
                refine g_iconst (pc := 104) hX dL_scale_104 ?_
                refine g_icmp_ge (pc := 105) (tgt := 112) hX (by first | assumption | exact inI_mk (by omega) (by omega)) (by first | assumption | exact inI_mk (by omega) (by omega)) dL_scale_105 (by decide) (fun c_105 => ?_) (fun c_105 => ?_)
                · skip
                  omega
                · skip
                  refine g_iconst (pc := 108) hX dL_scale_108 ?_
                  refine g_goto (pc := 109) (tgt := 113) hX dL_scale_109 (by decide) ?_
                  refine g_at rfl rfl (st2 := [vI (bz true)]) rfl rfl ?_
                  refine g_zret (pc := 113) hX hR dL_scale_113 ?_
                  exact ⟨rfl, rfl⟩
          · skip
            refine g_iconst (pc := 81) hX dL_scale_81 ?_
            refine g_goto (pc := 82) (tgt := 86) hX dL_scale_82 (by decide) ?_
            refine g_bcmp_ne (pc := 86) (tgt := 112) (a := scOver (sF D) (sG D)) (b := true) hX dL_scale_86 (by decide) (fun c_86 => ?_) (fun c_86 => ?_)
            · skip
              exact absurd c_86 (by rw [show scOver (sF D) (sG D) = true from decide_eq_true (by omega)]; decide)
            · skip
              refine g_aload_n (pc := 89) hX 3 rfl dL_scale_89 ?_
              refine g_bipush (pc := 90) hX (by decide) dL_scale_90 ?_
              refine g_callD (pc := 92) (As := [vI (9)]) (st2 := []) hX hA.N hA.e (q_scale9 hA) gL_scale_X6_scale (n := 1) (hw := rfl) (hrc := rfl) (hrs := rfl) (hd := by decide +kernel) (hR := ⟨Nat.le_of_ble_eq_true rfl, Nat.le_of_ble_eq_true rfl⟩) (hn := rfl) (hst := rfl) (hsum := Nat.le_of_ble_eq_true rfl) (hdg := dL_scale_92) ?_
              rintro _ S9 ⟨rfl, e9⟩
              rw [e9]
              clear e9 S9
              refine g_at (pc2 := 95) rfl rfl (st2 := [vI (sG D 5)]) rfl (S2 := S) rfl ?_
              refine g_if_lt (pc := 95) (tgt := 112) hX (by first | assumption | exact inI_mk (by omega) (by omega)) dL_scale_95 (by decide) (fun c_95 => ?_) (fun c_95 => ?_)
              · skip
                omega
              · skip
                refine g_aload_n (pc := 98) hX 3 rfl dL_scale_98 ?_
                refine g_bipush (pc := 99) hX (by decide) dL_scale_99 ?_
                refine g_callD (pc := 101) (As := [vI (9)]) (st2 := []) hX hA.N hA.e (q_scale9 hA) gL_scale_X6_scale (n := 1) (hw := rfl) (hrc := rfl) (hrs := rfl) (hd := by decide +kernel) (hR := ⟨Nat.le_of_ble_eq_true rfl, Nat.le_of_ble_eq_true rfl⟩) (hn := rfl) (hst := rfl) (hsum := Nat.le_of_ble_eq_true rfl) (hdg := dL_scale_101) ?_
                rintro _ S9 ⟨rfl, e9⟩
                rw [e9]
                clear e9 S9
                refine g_at (pc2 := 104) rfl rfl (st2 := [vI (sG D 5)]) rfl (S2 := S) rfl ?_
                refine g_iconst (pc := 104) hX dL_scale_104 ?_
                refine g_icmp_ge (pc := 105) (tgt := 112) hX (by first | assumption | exact inI_mk (by omega) (by omega)) (by first | assumption | exact inI_mk (by omega) (by omega)) dL_scale_105 (by decide) (fun c_105 => ?_) (fun c_105 => ?_)
                · skip
                  omega
                · skip
                  refine g_iconst (pc := 108) hX dL_scale_108 ?_
                  refine g_goto (pc := 109) (tgt := 113) hX dL_scale_109 (by decide) ?_
                  refine g_at rfl rfl (st2 := [vI (bz true)]) rfl rfl ?_
                  refine g_zret (pc := 113) hX hR dL_scale_113 ?_
                  exact ⟨rfl, rfl⟩

set_option maxHeartbeats 4000000 in
set_option maxRecDepth 100000 in
theorem c_L_parcel {w : gW} {l : Launch} {S : Nat → va_E} {D : SD} (hA : A0 w D S) {p : Int} (p0 : 0 ≤ p) (p1 : p < snP D) :
    GM1 w l yL_parcel wsL_parcel { frames := 3, cells := 0, slots := 0, locals := 67 } [.ref (gw_ad w 0), vI (p)] S
      (fun v S' => v = vI (bz true) ∧ S' = S) := by
  refine GM.start (own := RL) (n := "parcel") (d := "(LParcelDesk;I)Z") (by decide) rfl (Nat.le_of_ble_eq_true rfl) ?_
  intro X hX hR hXl
  subst hXl
  refine g_at rfl (lv2 := [(0, .ref (gw_ad w 0)), (1, vI (p))]) rfl rfl rfl ?_
  have hb := hA.b
  have hr := hA.row p0 p1
  obtain ⟨w9, w6, w12, w13, ⟨wr1, wr2⟩, w8⟩ := hA.rw p0 p1
  have hv := volZ_b hr.2.1 hr.2.2.1 hr.2.2.2.1
  have w9b : 0 ≤ sP D p 9 ∧ sP D p 9 ≤ 12000 := by rw [w9]; unfold girZ lngZ mx; (repeat' split) <;> omega
  have w12b : 1 ≤ sP D p 12 ∧ sP D p 12 ≤ 3 := by rw [w12]; unfold wrZ; split <;> (try split) <;> omega
  have jC : G w { frames := 3, cells := 0, slots := 0, locals := 67 } X 13 165 [(0, .ref (gw_ad w 0)), (1, vI (p)), (2, vI (sP D p 1)), (3, vI (sP D p 2)), (4, vI (sP D p 3)), (5, vI (sP D p 0))] [] S := by
    refine g_aload_n (pc := 165) hX 0 rfl dL_parcel_165 ?_
    refine g_iload_n (pc := 166) hX 1 rfl dL_parcel_166 ?_
    refine g_iconst (pc := 167) hX dL_parcel_167 ?_
    refine g_callD (pc := 168) (As := [vI (p), vI (1)]) (st2 := []) hX hA.N hA.e (q_why hA (p := p) (i := 1) (by omega) (by omega) (by omega) (by omega)) gL_parcel_X6_why (n := 2) (hw := rfl) (hrc := rfl) (hrs := rfl) (hd := by decide +kernel) (hR := ⟨Nat.le_of_ble_eq_true rfl, Nat.le_of_ble_eq_true rfl⟩) (hn := rfl) (hst := rfl) (hsum := Nat.le_of_ble_eq_true rfl) (hdg := dL_parcel_168) ?_
    rintro _ S9 ⟨rfl, e9⟩
    rw [e9]
    clear e9 S9
    refine g_at (pc2 := 171) rfl rfl (st2 := [vI (sP D p 13)]) rfl (S2 := S) rfl ?_
    refine g_istore (pc := 171) hX (lv2 := [(9, vI (sP D p 13)), (0, .ref (gw_ad w 0)), (1, vI (p)), (2, vI (sP D p 1)), (3, vI (sP D p 2)), (4, vI (sP D p 3)), (5, vI (sP D p 0))]) (by decide) rfl dL_parcel_171 ?_
    refine g_bipush (pc := 173) hX (by decide) dL_parcel_173 ?_
    refine g_istore (pc := 175) hX (lv2 := [(10, vI (29)), (9, vI (sP D p 13)), (0, .ref (gw_ad w 0)), (1, vI (p)), (2, vI (sP D p 1)), (3, vI (sP D p 2)), (4, vI (sP D p 3)), (5, vI (sP D p 0))]) (by decide) rfl dL_parcel_175 ?_
    refine g_iconst (pc := 177) hX dL_parcel_177 ?_
    refine g_istore (pc := 178) hX (lv2 := [(11, vI (2)), (10, vI (29)), (9, vI (sP D p 13)), (0, .ref (gw_ad w 0)), (1, vI (p)), (2, vI (sP D p 1)), (3, vI (sP D p 2)), (4, vI (sP D p 3)), (5, vI (sP D p 0))]) (by decide) rfl dL_parcel_178 ?_
    have lw : ∀ (n0 : Nat) (i : Int) (la : Int), 2 ≤ i → i ≤ (sP D p 11) → (sP D p 11) - i < n0 → ((i < sP D p 11 → la < sP D p (12 + i)) ∧ inI la) → G w { frames := 3, cells := 0, slots := 0, locals := 67 } X 13 180 [(11, vI (i)), (10, vI (la)), (0, .ref (gw_ad w 0)), (1, vI (p)), (2, vI (sP D p 1)), (3, vI (sP D p 2)), (4, vI (sP D p 3)), (5, vI (sP D p 0)), (9, vI (sP D p 13))] [] S := by
      intro n0
      induction n0 with
      | zero => intro i la h1i h2i h3i; exact absurd h3i (by omega)
      | succ n0 ihlw =>
        intro i la h1i h2i h3i hla
        by_cases hi : i < sP D p 11
        · skip
          have hq := wr1 i (by omega) hi
          have hl := hla.1 hi
          have hla2 := hla.2
          refine g_aload_n (pc := 180) hX 2 rfl dL_parcel_180 ?_
          refine g_iload_n (pc := 181) hX 3 rfl dL_parcel_181 ?_
          refine g_iload (pc := 182) hX 0 rfl dL_parcel_182 ?_
          refine g_callD (pc := 184) (As := [vI (p), vI (i)]) (st2 := []) hX hA.N hA.e (q_why hA (p := p) (i := i) (by omega) (by omega) (by omega) (by omega)) gL_parcel_X6_why (n := 2) (hw := rfl) (hrc := rfl) (hrs := rfl) (hd := by decide +kernel) (hR := ⟨Nat.le_of_ble_eq_true rfl, Nat.le_of_ble_eq_true rfl⟩) (hn := rfl) (hst := rfl) (hsum := Nat.le_of_ble_eq_true rfl) (hdg := dL_parcel_184) ?_
          rintro _ S9 ⟨rfl, e9⟩
          rw [e9]
          clear e9 S9
          refine g_at (pc2 := 187) rfl rfl (st2 := [vI (sP D p (12 + i))]) rfl (S2 := S) rfl ?_
          refine g_ldc (pc := 187) hX (z := -1000009) (List.mem_of_getElem? (i := 1) rfl) (by decide +kernel) dL_parcel_187 ?_
          refine g_icmp_eq (pc := 189) (tgt := 233) hX (by first | assumption | exact inI_mk (by omega) (by omega)) (by first | assumption | exact inI_mk (by omega) (by omega)) dL_parcel_189 (by decide) (fun c_189 => ?_) (fun c_189 => ?_)
          · skip
            exact absurd c_189 (by omega)
          · skip
            refine g_aload_n (pc := 192) hX 2 rfl dL_parcel_192 ?_
            refine g_iload_n (pc := 193) hX 3 rfl dL_parcel_193 ?_
            refine g_iload (pc := 194) hX 0 rfl dL_parcel_194 ?_
            refine g_callD (pc := 196) (As := [vI (p), vI (i)]) (st2 := []) hX hA.N hA.e (q_why hA (p := p) (i := i) (by omega) (by omega) (by omega) (by omega)) gL_parcel_X6_why (n := 2) (hw := rfl) (hrc := rfl) (hrs := rfl) (hd := by decide +kernel) (hR := ⟨Nat.le_of_ble_eq_true rfl, Nat.le_of_ble_eq_true rfl⟩) (hn := rfl) (hst := rfl) (hsum := Nat.le_of_ble_eq_true rfl) (hdg := dL_parcel_196) ?_
            rintro _ S9 ⟨rfl, e9⟩
            rw [e9]
            clear e9 S9
            refine g_at (pc2 := 199) rfl rfl (st2 := [vI (sP D p (12 + i))]) rfl (S2 := S) rfl ?_
            refine g_iload (pc := 199) hX 1 rfl dL_parcel_199 ?_
            refine g_icmp_le (pc := 201) (tgt := 216) hX (by first | assumption | exact inI_mk (by omega) (by omega)) (by first | assumption | exact inI_mk (by omega) (by omega)) dL_parcel_201 (by decide) (fun c_201 => ?_) (fun c_201 => ?_)
            · skip
              omega
            · skip
              refine g_aload_n (pc := 204) hX 2 rfl dL_parcel_204 ?_
              refine g_iload_n (pc := 205) hX 3 rfl dL_parcel_205 ?_
              refine g_iload (pc := 206) hX 0 rfl dL_parcel_206 ?_
              refine g_callD (pc := 208) (As := [vI (p), vI (i)]) (st2 := []) hX hA.N hA.e (q_why hA (p := p) (i := i) (by omega) (by omega) (by omega) (by omega)) gL_parcel_X6_why (n := 2) (hw := rfl) (hrc := rfl) (hrs := rfl) (hd := by decide +kernel) (hR := ⟨Nat.le_of_ble_eq_true rfl, Nat.le_of_ble_eq_true rfl⟩) (hn := rfl) (hst := rfl) (hsum := Nat.le_of_ble_eq_true rfl) (hdg := dL_parcel_208) ?_
              rintro _ S9 ⟨rfl, e9⟩
              rw [e9]
              clear e9 S9
              refine g_at (pc2 := 211) rfl rfl (st2 := [vI (sP D p (12 + i))]) rfl (S2 := S) rfl ?_
              refine g_bipush (pc := 211) hX (by decide) dL_parcel_211 ?_
              refine g_icmp_le (pc := 213) (tgt := 218) hX (by first | assumption | exact inI_mk (by omega) (by omega)) (by first | assumption | exact inI_mk (by omega) (by omega)) dL_parcel_213 (by decide) (fun c_213 => ?_) (fun c_213 => ?_)
              · skip
                refine g_aload_n (pc := 218) hX 2 rfl dL_parcel_218 ?_
                refine g_iload_n (pc := 219) hX 3 rfl dL_parcel_219 ?_
                refine g_iload (pc := 220) hX 0 rfl dL_parcel_220 ?_
                refine g_callD (pc := 222) (As := [vI (p), vI (i)]) (st2 := []) hX hA.N hA.e (q_why hA (p := p) (i := i) (by omega) (by omega) (by omega) (by omega)) gL_parcel_X6_why (n := 2) (hw := rfl) (hrc := rfl) (hrs := rfl) (hd := by decide +kernel) (hR := ⟨Nat.le_of_ble_eq_true rfl, Nat.le_of_ble_eq_true rfl⟩) (hn := rfl) (hst := rfl) (hsum := Nat.le_of_ble_eq_true rfl) (hdg := dL_parcel_222) ?_
                rintro _ S9 ⟨rfl, e9⟩
                rw [e9]
                clear e9 S9
                refine g_at (pc2 := 225) rfl rfl (st2 := [vI (sP D p (12 + i))]) rfl (S2 := S) rfl ?_
                refine g_istore (pc := 225) hX (lv2 := [(10, vI (sP D p (12 + i))), (11, vI (i)), (0, .ref (gw_ad w 0)), (1, vI (p)), (2, vI (sP D p 1)), (3, vI (sP D p 2)), (4, vI (sP D p 3)), (5, vI (sP D p 0)), (9, vI (sP D p 13))]) (by decide) rfl dL_parcel_225 ?_
                refine g_iinc (pc := 227) hX (lv2 := [(11, vI (i + 1)), (10, vI (sP D p (12 + i))), (0, .ref (gw_ad w 0)), (1, vI (p)), (2, vI (sP D p 1)), (3, vI (sP D p 2)), (4, vI (sP D p 3)), (5, vI (sP D p 0)), (9, vI (sP D p 13))]) 1 rfl (by decide) rfl dL_parcel_227 ?_
                refine g_goto (pc := 230) (tgt := 180) hX dL_parcel_230 (by decide) ?_
                refine g_sub (lv2 := [(11, vI (i + 1)), (10, vI (sP D p (12 + i))), (0, .ref (gw_ad w 0)), (1, vI (p)), (2, vI (sP D p 1)), (3, vI (sP D p 2)), (4, vI (sP D p 3)), (5, vI (sP D p 0)), (9, vI (sP D p 13))]) [0, 1, 2, 3, 4, 5, 6, 7, 8] rfl ?_
                refine g_at rfl (lv2 := [(11, vI (i + 1)), (10, vI (sP D p (12 + i))), (0, .ref (gw_ad w 0)), (1, vI (p)), (2, vI (sP D p 1)), (3, vI (sP D p 2)), (4, vI (sP D p 3)), (5, vI (sP D p 0)), (9, vI (sP D p 13))]) (rfl) rfl (S2 := S) (rfl) ?_
                exact ihlw (i + 1) (sP D p (12 + i)) (by omega) (by omega) (by omega) (⟨fun h => wr2 i (by omega) h, inI_mk (by omega) (by omega)⟩)
              · skip
                omega
        · skip
          refine g_aload_n (pc := 180) hX 2 rfl dL_parcel_180 ?_
          refine g_iload_n (pc := 181) hX 3 rfl dL_parcel_181 ?_
          refine g_iload (pc := 182) hX 0 rfl dL_parcel_182 ?_
          refine g_callD (pc := 184) (As := [vI (p), vI (i)]) (st2 := []) hX hA.N hA.e (n_why hA (p := p) (i := i) (by omega) (by omega) (by omega) (inI_mk (by omega) (by omega)) hi) gL_parcel_X6_why (n := 2) (hw := rfl) (hrc := rfl) (hrs := rfl) (hd := by decide +kernel) (hR := ⟨Nat.le_of_ble_eq_true rfl, Nat.le_of_ble_eq_true rfl⟩) (hn := rfl) (hst := rfl) (hsum := Nat.le_of_ble_eq_true rfl) (hdg := dL_parcel_184) ?_
          rintro _ S9 ⟨rfl, e9⟩
          rw [e9]
          clear e9 S9
          refine g_at (pc2 := 187) rfl rfl (st2 := [vI (-1000009)]) rfl (S2 := S) rfl ?_
          refine g_ldc (pc := 187) hX (z := -1000009) (List.mem_of_getElem? (i := 1) rfl) (by decide +kernel) dL_parcel_187 ?_
          refine g_icmp_eq (pc := 189) (tgt := 233) hX (by first | assumption | exact inI_mk (by omega) (by omega)) (by first | assumption | exact inI_mk (by omega) (by omega)) dL_parcel_189 (by decide) (fun c_189 => ?_) (fun c_189 => ?_)
          · skip
            have hi9 : i = sP D p 11 := by omega
            refine g_iload (pc := 233) hX 7 rfl dL_parcel_233 ?_
            refine g_i2f (pc := 235) hX (by first | assumption | exact inI_mk (by omega) (by omega)) dL_parcel_235 ?_
            refine g_iload_n (pc := 236) hX 4 rfl dL_parcel_236 ?_
            refine g_callT1 (pc := 237) (As := [vI (sP D p 1)]) (st2 := [.float (fL (sP D p 0))]) hX (c_L_begun (x := sP D p 1) (by omega) (by omega)) gL_parcel_L_begun (n := 1) (hw := rfl) (hrc := rfl) (hrs := rfl) (hd := by decide +kernel) (hR := ⟨Nat.le_of_ble_eq_true rfl, Nat.le_of_ble_eq_true rfl⟩) (hn := rfl) (hst := rfl) (hsum := Nat.le_of_ble_eq_true rfl) (hdg := dL_parcel_237) ?_
            rintro _ S9 ⟨rfl, e9⟩
            rw [e9]
            clear e9 S9
            refine g_at (pc2 := 240) rfl rfl (st2 := [vI ((sP D p 1 + 9) / 10), .float (fL (sP D p 0))]) rfl (S2 := S) rfl ?_
            refine g_iload_n (pc := 240) hX 5 rfl dL_parcel_240 ?_
            refine g_callT1 (pc := 241) (As := [vI (sP D p 2)]) (st2 := [vI ((sP D p 1 + 9) / 10), .float (fL (sP D p 0))]) hX (c_L_begun (x := sP D p 2) (by omega) (by omega)) gL_parcel_L_begun (n := 1) (hw := rfl) (hrc := rfl) (hrs := rfl) (hd := by decide +kernel) (hR := ⟨Nat.le_of_ble_eq_true rfl, Nat.le_of_ble_eq_true rfl⟩) (hn := rfl) (hst := rfl) (hsum := Nat.le_of_ble_eq_true rfl) (hdg := dL_parcel_241) ?_
            rintro _ S9 ⟨rfl, e9⟩
            rw [e9]
            clear e9 S9
            refine g_at (pc2 := 244) rfl rfl (st2 := [vI ((sP D p 2 + 9) / 10), vI ((sP D p 1 + 9) / 10), .float (fL (sP D p 0))]) rfl (S2 := S) rfl ?_
            refine g_imul (pc := 244) hX dL_parcel_244 ?_
            refine g_iload (pc := 245) hX 6 rfl dL_parcel_245 ?_
            refine g_callT1 (pc := 247) (As := [vI (sP D p 3)]) (st2 := [vI (((sP D p 1 + 9) / 10) * ((sP D p 2 + 9) / 10)), .float (fL (sP D p 0))]) hX (c_L_begun (x := sP D p 3) (by omega) (by omega)) gL_parcel_L_begun (n := 1) (hw := rfl) (hrc := rfl) (hrs := rfl) (hd := by decide +kernel) (hR := ⟨Nat.le_of_ble_eq_true rfl, Nat.le_of_ble_eq_true rfl⟩) (hn := rfl) (hst := rfl) (hsum := Nat.le_of_ble_eq_true rfl) (hdg := dL_parcel_247) ?_
            rintro _ S9 ⟨rfl, e9⟩
            rw [e9]
            clear e9 S9
            refine g_at (pc2 := 250) rfl rfl (st2 := [vI ((sP D p 3 + 9) / 10), vI (((sP D p 1 + 9) / 10) * ((sP D p 2 + 9) / 10)), .float (fL (sP D p 0))]) rfl (S2 := S) rfl ?_
            refine g_imul (pc := 250) hX dL_parcel_250 ?_
            refine g_at rfl rfl (st2 := [vI (volZ (sP D p 1) (sP D p 2) (sP D p 3)), .float (fL (sP D p 0))]) (by rfl) rfl ?_
            refine g_i2f (pc := 251) hX (by first | assumption | exact inI_mk (by omega) (by omega)) dL_parcel_251 ?_
            refine g_fdiv (pc := 252) hX ⟨by omega, by omega⟩ dL_parcel_252 ?_
            refine g_at rfl rfl (st2 := [.float (denZ (sP D p 0) (volZ (sP D p 1) (sP D p 2) (sP D p 3)))]) rfl rfl ?_
            refine g_fstore (pc := 253) hX (lv2 := [(12, .float (denZ (sP D p 0) (volZ (sP D p 1) (sP D p 2) (sP D p 3)))), (11, vI (i)), (10, vI (la)), (0, .ref (gw_ad w 0)), (1, vI (p)), (2, vI (sP D p 1)), (3, vI (sP D p 2)), (4, vI (sP D p 3)), (5, vI (sP D p 0)), (9, vI (sP D p 13))]) (by decide) rfl dL_parcel_253 ?_
            refine g_iload (pc := 255) hX 9 rfl dL_parcel_255 ?_
            refine g_bipush (pc := 257) hX (by decide) dL_parcel_257 ?_
            refine g_icmp_eq (pc := 259) (tgt := 276) hX (by first | assumption | exact inI_mk (by omega) (by omega)) (by first | assumption | exact inI_mk (by omega) (by omega)) dL_parcel_259 (by decide) (fun c_259 => ?_) (fun c_259 => ?_)
            · skip
              refine g_iload (pc := 276) hX 1 rfl dL_parcel_276 ?_
              refine g_iconst (pc := 278) hX dL_parcel_278 ?_
              refine g_icmp_gt (pc := 279) (tgt := 299) hX (by first | assumption | exact inI_mk (by omega) (by omega)) (by first | assumption | exact inI_mk (by omega) (by omega)) dL_parcel_279 (by decide) (fun c_279 => ?_) (fun c_279 => ?_)
              · skip
                refine g_aload_n (pc := 299) hX 3 rfl dL_parcel_299 ?_
                refine g_iload_n (pc := 300) hX 4 rfl dL_parcel_300 ?_
                refine g_callD (pc := 301) (As := [vI (p)]) (st2 := []) hX hA.N hA.e (q_density hA (p := p) (by omega) (by omega)) gL_parcel_X6_density (n := 1) (hw := rfl) (hrc := rfl) (hrs := rfl) (hd := by decide +kernel) (hR := ⟨Nat.le_of_ble_eq_true rfl, Nat.le_of_ble_eq_true rfl⟩) (hn := rfl) (hst := rfl) (hsum := Nat.le_of_ble_eq_true rfl) (hdg := dL_parcel_301) ?_
                rintro _ S9 ⟨rfl, e9⟩
                rw [e9]
                clear e9 S9
                refine g_at (pc2 := 304) rfl rfl (st2 := [.float (denZ (sP D p 0) (volZ (sP D p 1) (sP D p 2) (sP D p 3)))]) rfl (S2 := S) rfl ?_
                refine g_fload (pc := 304) hX 0 rfl dL_parcel_304 ?_
                refine g_fcmp_self (pc := 306) hX (fdiv_ok ⟨by omega, by omega⟩) dL_parcel_306 ?_
                refine g_if_ne (pc := 307) (tgt := 314) hX (by first | assumption | exact inI_mk (by omega) (by omega)) dL_parcel_307 (by decide) (fun c_307 => ?_) (fun c_307 => ?_)
                · skip
                  exact absurd c_307 (by omega)
                · skip
                  refine g_iconst (pc := 310) hX dL_parcel_310 ?_
                  refine g_goto (pc := 311) (tgt := 315) hX dL_parcel_311 (by decide) ?_
                  refine g_at rfl rfl (st2 := [vI (bz true)]) rfl rfl ?_
                  refine g_zret (pc := 315) hX hR dL_parcel_315 ?_
                  exact ⟨rfl, rfl⟩
              · skip
                refine g_aload_n (pc := 282) hX 3 rfl dL_parcel_282 ?_
                refine g_iload_n (pc := 283) hX 4 rfl dL_parcel_283 ?_
                refine g_bipush (pc := 284) hX (by decide) dL_parcel_284 ?_
                refine g_callD (pc := 286) (As := [vI (p), vI (8)]) (st2 := []) hX hA.N hA.e (q_parcel hA (p := p) (x := 8) (by omega) (by omega) (by omega) (by omega)) gL_parcel_X6_parcel (n := 2) (hw := rfl) (hrc := rfl) (hrs := rfl) (hd := by decide +kernel) (hR := ⟨Nat.le_of_ble_eq_true rfl, Nat.le_of_ble_eq_true rfl⟩) (hn := rfl) (hst := rfl) (hsum := Nat.le_of_ble_eq_true rfl) (hdg := dL_parcel_286) ?_
                rintro _ S9 ⟨rfl, e9⟩
                rw [e9]
                clear e9 S9
                refine g_at (pc2 := 289) rfl rfl (st2 := [vI (sP D p 8)]) rfl (S2 := S) rfl ?_
                refine g_aload_n (pc := 289) hX 3 rfl dL_parcel_289 ?_
                refine g_iload_n (pc := 290) hX 4 rfl dL_parcel_290 ?_
                refine g_bipush (pc := 291) hX (by decide) dL_parcel_291 ?_
                refine g_callD (pc := 293) (As := [vI (p), vI (7)]) (st2 := [vI (sP D p 8)]) hX hA.N hA.e (q_parcel hA (p := p) (x := 7) (by omega) (by omega) (by omega) (by omega)) gL_parcel_X6_parcel (n := 2) (hw := rfl) (hrc := rfl) (hrs := rfl) (hd := by decide +kernel) (hR := ⟨Nat.le_of_ble_eq_true rfl, Nat.le_of_ble_eq_true rfl⟩) (hn := rfl) (hst := rfl) (hsum := Nat.le_of_ble_eq_true rfl) (hdg := dL_parcel_293) ?_
                rintro _ S9 ⟨rfl, e9⟩
                rw [e9]
                clear e9 S9
                refine g_at (pc2 := 296) rfl rfl (st2 := [vI (sP D p 7), vI (sP D p 8)]) rfl (S2 := S) rfl ?_
                refine g_icmp_ne (pc := 296) (tgt := 314) hX (by first | assumption | exact inI_mk (by omega) (by omega)) (by first | assumption | exact inI_mk (by omega) (by omega)) dL_parcel_296 (by decide) (fun c_296 => ?_) (fun c_296 => ?_)
                · skip
                  exact absurd (w8 (by omega)) c_296
                · skip
                  refine g_aload_n (pc := 299) hX 3 rfl dL_parcel_299 ?_
                  refine g_iload_n (pc := 300) hX 4 rfl dL_parcel_300 ?_
                  refine g_callD (pc := 301) (As := [vI (p)]) (st2 := []) hX hA.N hA.e (q_density hA (p := p) (by omega) (by omega)) gL_parcel_X6_density (n := 1) (hw := rfl) (hrc := rfl) (hrs := rfl) (hd := by decide +kernel) (hR := ⟨Nat.le_of_ble_eq_true rfl, Nat.le_of_ble_eq_true rfl⟩) (hn := rfl) (hst := rfl) (hsum := Nat.le_of_ble_eq_true rfl) (hdg := dL_parcel_301) ?_
                  rintro _ S9 ⟨rfl, e9⟩
                  rw [e9]
                  clear e9 S9
                  refine g_at (pc2 := 304) rfl rfl (st2 := [.float (denZ (sP D p 0) (volZ (sP D p 1) (sP D p 2) (sP D p 3)))]) rfl (S2 := S) rfl ?_
                  refine g_fload (pc := 304) hX 0 rfl dL_parcel_304 ?_
                  refine g_fcmp_self (pc := 306) hX (fdiv_ok ⟨by omega, by omega⟩) dL_parcel_306 ?_
                  refine g_if_ne (pc := 307) (tgt := 314) hX (by first | assumption | exact inI_mk (by omega) (by omega)) dL_parcel_307 (by decide) (fun c_307 => ?_) (fun c_307 => ?_)
                  · skip
                    exact absurd c_307 (by omega)
                  · skip
                    refine g_iconst (pc := 310) hX dL_parcel_310 ?_
                    refine g_goto (pc := 311) (tgt := 315) hX dL_parcel_311 (by decide) ?_
                    refine g_at rfl rfl (st2 := [vI (bz true)]) rfl rfl ?_
                    refine g_zret (pc := 315) hX hR dL_parcel_315 ?_
                    exact ⟨rfl, rfl⟩
            · skip
              refine g_iload (pc := 262) hX 9 rfl dL_parcel_262 ?_
              refine g_bipush (pc := 264) hX (by decide) dL_parcel_264 ?_
              refine g_icmp_lt (pc := 266) (tgt := 314) hX (by first | assumption | exact inI_mk (by omega) (by omega)) (by first | assumption | exact inI_mk (by omega) (by omega)) dL_parcel_266 (by decide) (fun c_266 => ?_) (fun c_266 => ?_)
              · skip
                omega
              · skip
                refine g_iload (pc := 269) hX 9 rfl dL_parcel_269 ?_
                refine g_bipush (pc := 271) hX (by decide) dL_parcel_271 ?_
                refine g_icmp_ge (pc := 273) (tgt := 314) hX (by first | assumption | exact inI_mk (by omega) (by omega)) (by first | assumption | exact inI_mk (by omega) (by omega)) dL_parcel_273 (by decide) (fun c_273 => ?_) (fun c_273 => ?_)
                · skip
                  omega
                · skip
                  refine g_iload (pc := 276) hX 1 rfl dL_parcel_276 ?_
                  refine g_iconst (pc := 278) hX dL_parcel_278 ?_
                  refine g_icmp_gt (pc := 279) (tgt := 299) hX (by first | assumption | exact inI_mk (by omega) (by omega)) (by first | assumption | exact inI_mk (by omega) (by omega)) dL_parcel_279 (by decide) (fun c_279 => ?_) (fun c_279 => ?_)
                  · skip
                    refine g_aload_n (pc := 299) hX 3 rfl dL_parcel_299 ?_
                    refine g_iload_n (pc := 300) hX 4 rfl dL_parcel_300 ?_
                    refine g_callD (pc := 301) (As := [vI (p)]) (st2 := []) hX hA.N hA.e (q_density hA (p := p) (by omega) (by omega)) gL_parcel_X6_density (n := 1) (hw := rfl) (hrc := rfl) (hrs := rfl) (hd := by decide +kernel) (hR := ⟨Nat.le_of_ble_eq_true rfl, Nat.le_of_ble_eq_true rfl⟩) (hn := rfl) (hst := rfl) (hsum := Nat.le_of_ble_eq_true rfl) (hdg := dL_parcel_301) ?_
                    rintro _ S9 ⟨rfl, e9⟩
                    rw [e9]
                    clear e9 S9
                    refine g_at (pc2 := 304) rfl rfl (st2 := [.float (denZ (sP D p 0) (volZ (sP D p 1) (sP D p 2) (sP D p 3)))]) rfl (S2 := S) rfl ?_
                    refine g_fload (pc := 304) hX 0 rfl dL_parcel_304 ?_
                    refine g_fcmp_self (pc := 306) hX (fdiv_ok ⟨by omega, by omega⟩) dL_parcel_306 ?_
                    refine g_if_ne (pc := 307) (tgt := 314) hX (by first | assumption | exact inI_mk (by omega) (by omega)) dL_parcel_307 (by decide) (fun c_307 => ?_) (fun c_307 => ?_)
                    · skip
                      exact absurd c_307 (by omega)
                    · skip
                      refine g_iconst (pc := 310) hX dL_parcel_310 ?_
                      refine g_goto (pc := 311) (tgt := 315) hX dL_parcel_311 (by decide) ?_
                      refine g_at rfl rfl (st2 := [vI (bz true)]) rfl rfl ?_
                      refine g_zret (pc := 315) hX hR dL_parcel_315 ?_
                      exact ⟨rfl, rfl⟩
                  · skip
                    refine g_aload_n (pc := 282) hX 3 rfl dL_parcel_282 ?_
                    refine g_iload_n (pc := 283) hX 4 rfl dL_parcel_283 ?_
                    refine g_bipush (pc := 284) hX (by decide) dL_parcel_284 ?_
                    refine g_callD (pc := 286) (As := [vI (p), vI (8)]) (st2 := []) hX hA.N hA.e (q_parcel hA (p := p) (x := 8) (by omega) (by omega) (by omega) (by omega)) gL_parcel_X6_parcel (n := 2) (hw := rfl) (hrc := rfl) (hrs := rfl) (hd := by decide +kernel) (hR := ⟨Nat.le_of_ble_eq_true rfl, Nat.le_of_ble_eq_true rfl⟩) (hn := rfl) (hst := rfl) (hsum := Nat.le_of_ble_eq_true rfl) (hdg := dL_parcel_286) ?_
                    rintro _ S9 ⟨rfl, e9⟩
                    rw [e9]
                    clear e9 S9
                    refine g_at (pc2 := 289) rfl rfl (st2 := [vI (sP D p 8)]) rfl (S2 := S) rfl ?_
                    refine g_aload_n (pc := 289) hX 3 rfl dL_parcel_289 ?_
                    refine g_iload_n (pc := 290) hX 4 rfl dL_parcel_290 ?_
                    refine g_bipush (pc := 291) hX (by decide) dL_parcel_291 ?_
                    refine g_callD (pc := 293) (As := [vI (p), vI (7)]) (st2 := [vI (sP D p 8)]) hX hA.N hA.e (q_parcel hA (p := p) (x := 7) (by omega) (by omega) (by omega) (by omega)) gL_parcel_X6_parcel (n := 2) (hw := rfl) (hrc := rfl) (hrs := rfl) (hd := by decide +kernel) (hR := ⟨Nat.le_of_ble_eq_true rfl, Nat.le_of_ble_eq_true rfl⟩) (hn := rfl) (hst := rfl) (hsum := Nat.le_of_ble_eq_true rfl) (hdg := dL_parcel_293) ?_
                    rintro _ S9 ⟨rfl, e9⟩
                    rw [e9]
                    clear e9 S9
                    refine g_at (pc2 := 296) rfl rfl (st2 := [vI (sP D p 7), vI (sP D p 8)]) rfl (S2 := S) rfl ?_
                    refine g_icmp_ne (pc := 296) (tgt := 314) hX (by first | assumption | exact inI_mk (by omega) (by omega)) (by first | assumption | exact inI_mk (by omega) (by omega)) dL_parcel_296 (by decide) (fun c_296 => ?_) (fun c_296 => ?_)
                    · skip
                      exact absurd (w8 (by omega)) c_296
                    · skip
                      refine g_aload_n (pc := 299) hX 3 rfl dL_parcel_299 ?_
                      refine g_iload_n (pc := 300) hX 4 rfl dL_parcel_300 ?_
                      refine g_callD (pc := 301) (As := [vI (p)]) (st2 := []) hX hA.N hA.e (q_density hA (p := p) (by omega) (by omega)) gL_parcel_X6_density (n := 1) (hw := rfl) (hrc := rfl) (hrs := rfl) (hd := by decide +kernel) (hR := ⟨Nat.le_of_ble_eq_true rfl, Nat.le_of_ble_eq_true rfl⟩) (hn := rfl) (hst := rfl) (hsum := Nat.le_of_ble_eq_true rfl) (hdg := dL_parcel_301) ?_
                      rintro _ S9 ⟨rfl, e9⟩
                      rw [e9]
                      clear e9 S9
                      refine g_at (pc2 := 304) rfl rfl (st2 := [.float (denZ (sP D p 0) (volZ (sP D p 1) (sP D p 2) (sP D p 3)))]) rfl (S2 := S) rfl ?_
                      refine g_fload (pc := 304) hX 0 rfl dL_parcel_304 ?_
                      refine g_fcmp_self (pc := 306) hX (fdiv_ok ⟨by omega, by omega⟩) dL_parcel_306 ?_
                      refine g_if_ne (pc := 307) (tgt := 314) hX (by first | assumption | exact inI_mk (by omega) (by omega)) dL_parcel_307 (by decide) (fun c_307 => ?_) (fun c_307 => ?_)
                      · skip
                        exact absurd c_307 (by omega)
                      · skip
                        refine g_iconst (pc := 310) hX dL_parcel_310 ?_
                        refine g_goto (pc := 311) (tgt := 315) hX dL_parcel_311 (by decide) ?_
                        refine g_at rfl rfl (st2 := [vI (bz true)]) rfl rfl ?_
                        refine g_zret (pc := 315) hX hR dL_parcel_315 ?_
                        exact ⟨rfl, rfl⟩
          · skip
            exact absurd c_189 (by omega)
    refine g_sub (lv2 := [(11, vI (2)), (10, vI (29)), (0, .ref (gw_ad w 0)), (1, vI (p)), (2, vI (sP D p 1)), (3, vI (sP D p 2)), (4, vI (sP D p 3)), (5, vI (sP D p 0)), (9, vI (sP D p 13))]) [0, 1, 3, 4, 5, 6, 7, 8, 2] rfl ?_
    refine g_at rfl (lv2 := [(11, vI (2)), (10, vI (29)), (0, .ref (gw_ad w 0)), (1, vI (p)), (2, vI (sP D p 1)), (3, vI (sP D p 2)), (4, vI (sP D p 3)), (5, vI (sP D p 0)), (9, vI (sP D p 13))]) (rfl) rfl (S2 := S) (rfl) ?_
    exact lw (((sP D p 11) : Int) - 2 + 1).toNat 2 (29) (by omega) (by omega) (by omega) (⟨fun h => by have := (wr1 2 (by decide) h).1; omega, by decide, by decide⟩)
  have jB : ∀ (mo : Int), ((sP D p 0 ≤ mo ∧ sP D p 5 ≤ mo) ∧ (mo = sP D p 0 ∨ mo = sP D p 5)) → G w { frames := 3, cells := 0, slots := 0, locals := 67 } X 13 52 [(0, .ref (gw_ad w 0)), (1, vI (p)), (2, vI (sP D p 1)), (3, vI (sP D p 2)), (4, vI (sP D p 3)), (5, vI (sP D p 0)), (6, vI (sP D p 5))] [vI (mo)] S := by
    intro mo hmo
    have jA : ∀ (lo : Int), (lo = lngZ (sP D p 1) (sP D p 2) (sP D p 3)) → G w { frames := 3, cells := 0, slots := 0, locals := 67 } X 13 86 [(0, .ref (gw_ad w 0)), (1, vI (p)), (2, vI (sP D p 1)), (3, vI (sP D p 2)), (4, vI (sP D p 3)), (5, vI (sP D p 0)), (6, vI (sP D p 5)), (7, vI (mo))] [vI (lo)] S := by
      intro lo hlo
      have hlo2 : 1 ≤ lo ∧ lo ≤ 2000 := by rw [hlo]; unfold lngZ mx; (repeat' split) <;> omega
      refine g_istore (pc := 86) hX (lv2 := [(8, vI (lo)), (0, .ref (gw_ad w 0)), (1, vI (p)), (2, vI (sP D p 1)), (3, vI (sP D p 2)), (4, vI (sP D p 3)), (5, vI (sP D p 0)), (6, vI (sP D p 5)), (7, vI (mo))]) (by decide) rfl dL_parcel_86 ?_
      refine g_aload_n (pc := 88) hX 1 rfl dL_parcel_88 ?_
      refine g_iload_n (pc := 89) hX 2 rfl dL_parcel_89 ?_
      refine g_bipush (pc := 90) hX (by decide) dL_parcel_90 ?_
      refine g_callD (pc := 92) (As := [vI (p), vI (9)]) (st2 := []) hX hA.N hA.e (q_parcel hA (p := p) (x := 9) (by omega) (by omega) (by omega) (by omega)) gL_parcel_X6_parcel (n := 2) (hw := rfl) (hrc := rfl) (hrs := rfl) (hd := by decide +kernel) (hR := ⟨Nat.le_of_ble_eq_true rfl, Nat.le_of_ble_eq_true rfl⟩) (hn := rfl) (hst := rfl) (hsum := Nat.le_of_ble_eq_true rfl) (hdg := dL_parcel_92) ?_
      rintro _ S9 ⟨rfl, e9⟩
      rw [e9]
      clear e9 S9
      refine g_at (pc2 := 95) rfl rfl (st2 := [vI (sP D p 9)]) rfl (S2 := S) rfl ?_
      refine g_iconst (pc := 95) hX dL_parcel_95 ?_
      refine g_iload_n (pc := 96) hX 3 rfl dL_parcel_96 ?_
      refine g_iload_n (pc := 97) hX 4 rfl dL_parcel_97 ?_
      refine g_iadd (pc := 98) hX dL_parcel_98 ?_
      refine g_iload (pc := 99) hX 5 rfl dL_parcel_99 ?_
      refine g_iadd (pc := 101) hX dL_parcel_101 ?_
      refine g_imul (pc := 102) hX dL_parcel_102 ?_
      refine g_iload (pc := 103) hX 0 rfl dL_parcel_103 ?_
      refine g_isub (pc := 105) hX dL_parcel_105 ?_
      refine g_icmp_ne (pc := 106) (tgt := 163) hX (by first | assumption | exact inI_mk (by omega) (by omega)) (by first | assumption | exact inI_mk (by omega) (by omega)) dL_parcel_106 (by decide) (fun c_106 => ?_) (fun c_106 => ?_)
      · skip
        exact absurd c_106 (by rw [w9, hlo]; unfold girZ; omega)
      · skip
        refine g_aload_n (pc := 109) hX 1 rfl dL_parcel_109 ?_
        refine g_iload_n (pc := 110) hX 2 rfl dL_parcel_110 ?_
        refine g_bipush (pc := 111) hX (by decide) dL_parcel_111 ?_
        refine g_callD (pc := 113) (As := [vI (p), vI (6)]) (st2 := []) hX hA.N hA.e (q_parcel hA (p := p) (x := 6) (by omega) (by omega) (by omega) (by omega)) gL_parcel_X6_parcel (n := 2) (hw := rfl) (hrc := rfl) (hrs := rfl) (hd := by decide +kernel) (hR := ⟨Nat.le_of_ble_eq_true rfl, Nat.le_of_ble_eq_true rfl⟩) (hn := rfl) (hst := rfl) (hsum := Nat.le_of_ble_eq_true rfl) (hdg := dL_parcel_113) ?_
        rintro _ S9 ⟨rfl, e9⟩
        rw [e9]
        clear e9 S9
        refine g_at (pc2 := 116) rfl rfl (st2 := [vI (sP D p 6)]) rfl (S2 := S) rfl ?_
        refine g_iload (pc := 116) hX 8 rfl dL_parcel_116 ?_
        refine g_icmp_lt (pc := 118) (tgt := 163) hX (by first | assumption | exact inI_mk (by omega) (by omega)) (by first | assumption | exact inI_mk (by omega) (by omega)) dL_parcel_118 (by decide) (fun c_118 => ?_) (fun c_118 => ?_)
        · skip
          omega
        · skip
          refine g_aload_n (pc := 121) hX 1 rfl dL_parcel_121 ?_
          refine g_iload_n (pc := 122) hX 2 rfl dL_parcel_122 ?_
          refine g_bipush (pc := 123) hX (by decide) dL_parcel_123 ?_
          refine g_callD (pc := 125) (As := [vI (p), vI (8)]) (st2 := []) hX hA.N hA.e (q_parcel hA (p := p) (x := 8) (by omega) (by omega) (by omega) (by omega)) gL_parcel_X6_parcel (n := 2) (hw := rfl) (hrc := rfl) (hrs := rfl) (hd := by decide +kernel) (hR := ⟨Nat.le_of_ble_eq_true rfl, Nat.le_of_ble_eq_true rfl⟩) (hn := rfl) (hst := rfl) (hsum := Nat.le_of_ble_eq_true rfl) (hdg := dL_parcel_125) ?_
          rintro _ S9 ⟨rfl, e9⟩
          rw [e9]
          clear e9 S9
          refine g_at (pc2 := 128) rfl rfl (st2 := [vI (sP D p 8)]) rfl (S2 := S) rfl ?_
          refine g_if_lt (pc := 128) (tgt := 163) hX (by first | assumption | exact inI_mk (by omega) (by omega)) dL_parcel_128 (by decide) (fun c_128 => ?_) (fun c_128 => ?_)
          · skip
            omega
          · skip
            refine g_aload_n (pc := 131) hX 1 rfl dL_parcel_131 ?_
            refine g_iload_n (pc := 132) hX 2 rfl dL_parcel_132 ?_
            refine g_iconst (pc := 133) hX dL_parcel_133 ?_
            refine g_callD (pc := 134) (As := [vI (p), vI (0)]) (st2 := []) hX hA.N hA.e (q_why hA (p := p) (i := 0) (by omega) (by omega) (by omega) (by omega)) gL_parcel_X6_why (n := 2) (hw := rfl) (hrc := rfl) (hrs := rfl) (hd := by decide +kernel) (hR := ⟨Nat.le_of_ble_eq_true rfl, Nat.le_of_ble_eq_true rfl⟩) (hn := rfl) (hst := rfl) (hsum := Nat.le_of_ble_eq_true rfl) (hdg := dL_parcel_134) ?_
            rintro _ S9 ⟨rfl, e9⟩
            rw [e9]
            clear e9 S9
            refine g_at (pc2 := 137) rfl rfl (st2 := [vI (sP D p 12)]) rfl (S2 := S) rfl ?_
            refine g_iload (pc := 137) hX 6 rfl dL_parcel_137 ?_
            refine g_iload (pc := 139) hX 7 rfl dL_parcel_139 ?_
            refine g_icmp_le (pc := 141) (tgt := 148) hX (by first | assumption | exact inI_mk (by omega) (by omega)) (by first | assumption | exact inI_mk (by omega) (by omega)) dL_parcel_141 (by decide) (fun c_141 => ?_) (fun c_141 => ?_)
            · skip
              refine g_iload (pc := 148) hX 6 rfl dL_parcel_148 ?_
              refine g_iload (pc := 150) hX 7 rfl dL_parcel_150 ?_
              refine g_icmp_ge (pc := 152) (tgt := 159) hX (by first | assumption | exact inI_mk (by omega) (by omega)) (by first | assumption | exact inI_mk (by omega) (by omega)) dL_parcel_152 (by decide) (fun c_152 => ?_) (fun c_152 => ?_)
              · skip
                refine g_iconst (pc := 159) hX dL_parcel_159 ?_
                refine g_icmp_eq (pc := 160) (tgt := 165) hX (by first | assumption | exact inI_mk (by omega) (by omega)) (by first | assumption | exact inI_mk (by omega) (by omega)) dL_parcel_160 (by decide) (fun c_160 => ?_) (fun c_160 => ?_)
                · skip
                  refine g_sub (lv2 := [(0, .ref (gw_ad w 0)), (1, vI (p)), (2, vI (sP D p 1)), (3, vI (sP D p 2)), (4, vI (sP D p 3)), (5, vI (sP D p 0))]) [1, 2, 3, 4, 5, 6] rfl ?_
                  exact jC  
                · skip
                  exact absurd w12 (by unfold wrZ; rw [if_pos (by omega)]; omega)
              · skip
                refine g_iconst (pc := 155) hX dL_parcel_155 ?_
                refine g_goto (pc := 156) (tgt := 160) hX dL_parcel_156 (by decide) ?_
                refine g_icmp_eq (pc := 160) (tgt := 165) hX (by first | assumption | exact inI_mk (by omega) (by omega)) (by first | assumption | exact inI_mk (by omega) (by omega)) dL_parcel_160 (by decide) (fun c_160 => ?_) (fun c_160 => ?_)
                · skip
                  refine g_sub (lv2 := [(0, .ref (gw_ad w 0)), (1, vI (p)), (2, vI (sP D p 1)), (3, vI (sP D p 2)), (4, vI (sP D p 3)), (5, vI (sP D p 0))]) [1, 2, 3, 4, 5, 6] rfl ?_
                  exact jC  
                · skip
                  exact absurd w12 (by unfold wrZ; rw [if_neg (by omega), if_neg (by omega)]; omega)
            · skip
              refine g_iconst (pc := 144) hX dL_parcel_144 ?_
              refine g_goto (pc := 145) (tgt := 160) hX dL_parcel_145 (by decide) ?_
              refine g_icmp_eq (pc := 160) (tgt := 165) hX (by first | assumption | exact inI_mk (by omega) (by omega)) (by first | assumption | exact inI_mk (by omega) (by omega)) dL_parcel_160 (by decide) (fun c_160 => ?_) (fun c_160 => ?_)
              · skip
                refine g_sub (lv2 := [(0, .ref (gw_ad w 0)), (1, vI (p)), (2, vI (sP D p 1)), (3, vI (sP D p 2)), (4, vI (sP D p 3)), (5, vI (sP D p 0))]) [1, 2, 3, 4, 5, 6] rfl ?_
                exact jC  
              · skip
                exact absurd w12 (by unfold wrZ; rw [if_neg (by omega), if_pos (by omega)]; omega)
    refine g_istore (pc := 52) hX (lv2 := [(7, vI (mo)), (0, .ref (gw_ad w 0)), (1, vI (p)), (2, vI (sP D p 1)), (3, vI (sP D p 2)), (4, vI (sP D p 3)), (5, vI (sP D p 0)), (6, vI (sP D p 5))]) (by decide) rfl dL_parcel_52 ?_
    refine g_iload_n (pc := 54) hX 3 rfl dL_parcel_54 ?_
    refine g_iload_n (pc := 55) hX 4 rfl dL_parcel_55 ?_
    refine g_icmp_le (pc := 56) (tgt := 74) hX (by first | assumption | exact inI_mk (by omega) (by omega)) (by first | assumption | exact inI_mk (by omega) (by omega)) dL_parcel_56 (by decide) (fun c_56 => ?_) (fun c_56 => ?_)
    · skip
      refine g_iload_n (pc := 74) hX 4 rfl dL_parcel_74 ?_
      refine g_iload (pc := 75) hX 5 rfl dL_parcel_75 ?_
      refine g_icmp_le (pc := 77) (tgt := 84) hX (by first | assumption | exact inI_mk (by omega) (by omega)) (by first | assumption | exact inI_mk (by omega) (by omega)) dL_parcel_77 (by decide) (fun c_77 => ?_) (fun c_77 => ?_)
      · skip
        refine g_iload (pc := 84) hX 5 rfl dL_parcel_84 ?_
        refine g_sub (lv2 := [(0, .ref (gw_ad w 0)), (1, vI (p)), (2, vI (sP D p 1)), (3, vI (sP D p 2)), (4, vI (sP D p 3)), (5, vI (sP D p 0)), (6, vI (sP D p 5)), (7, vI (mo))]) [1, 2, 3, 4, 5, 6, 7, 0] rfl ?_
        exact jA (sP D p 3) (by unfold lngZ mx; (repeat' split) <;> omega)
      · skip
        refine g_iload_n (pc := 80) hX 4 rfl dL_parcel_80 ?_
        refine g_goto (pc := 81) (tgt := 86) hX dL_parcel_81 (by decide) ?_
        refine g_sub (lv2 := [(0, .ref (gw_ad w 0)), (1, vI (p)), (2, vI (sP D p 1)), (3, vI (sP D p 2)), (4, vI (sP D p 3)), (5, vI (sP D p 0)), (6, vI (sP D p 5)), (7, vI (mo))]) [1, 2, 3, 4, 5, 6, 7, 0] rfl ?_
        exact jA (sP D p 2) (by unfold lngZ mx; (repeat' split) <;> omega)
    · skip
      refine g_iload_n (pc := 59) hX 3 rfl dL_parcel_59 ?_
      refine g_iload (pc := 60) hX 5 rfl dL_parcel_60 ?_
      refine g_icmp_le (pc := 62) (tgt := 69) hX (by first | assumption | exact inI_mk (by omega) (by omega)) (by first | assumption | exact inI_mk (by omega) (by omega)) dL_parcel_62 (by decide) (fun c_62 => ?_) (fun c_62 => ?_)
      · skip
        refine g_iload (pc := 69) hX 5 rfl dL_parcel_69 ?_
        refine g_goto (pc := 71) (tgt := 86) hX dL_parcel_71 (by decide) ?_
        refine g_sub (lv2 := [(0, .ref (gw_ad w 0)), (1, vI (p)), (2, vI (sP D p 1)), (3, vI (sP D p 2)), (4, vI (sP D p 3)), (5, vI (sP D p 0)), (6, vI (sP D p 5)), (7, vI (mo))]) [1, 2, 3, 4, 5, 6, 7, 0] rfl ?_
        exact jA (sP D p 3) (by unfold lngZ mx; (repeat' split) <;> omega)
      · skip
        refine g_iload_n (pc := 65) hX 3 rfl dL_parcel_65 ?_
        refine g_goto (pc := 66) (tgt := 86) hX dL_parcel_66 (by decide) ?_
        refine g_sub (lv2 := [(0, .ref (gw_ad w 0)), (1, vI (p)), (2, vI (sP D p 1)), (3, vI (sP D p 2)), (4, vI (sP D p 3)), (5, vI (sP D p 0)), (6, vI (sP D p 5)), (7, vI (mo))]) [1, 2, 3, 4, 5, 6, 7, 0] rfl ?_
        exact jA (sP D p 1) (by unfold lngZ mx; (repeat' split) <;> omega)
  refine g_aload_n (pc := 0) hX 0 rfl dL_parcel_0 ?_
  refine g_iload_n (pc := 1) hX 1 rfl dL_parcel_1 ?_
  refine g_iconst (pc := 2) hX dL_parcel_2 ?_
  refine g_callD (pc := 3) (As := [vI (p), vI (1)]) (st2 := []) hX hA.N hA.e (q_parcel hA (p := p) (x := 1) (by omega) (by omega) (by omega) (by omega)) gL_parcel_X6_parcel (n := 2) (hw := rfl) (hrc := rfl) (hrs := rfl) (hd := by decide +kernel) (hR := ⟨Nat.le_of_ble_eq_true rfl, Nat.le_of_ble_eq_true rfl⟩) (hn := rfl) (hst := rfl) (hsum := Nat.le_of_ble_eq_true rfl) (hdg := dL_parcel_3) ?_
  rintro _ S9 ⟨rfl, e9⟩
  rw [e9]
  clear e9 S9
  refine g_at (pc2 := 6) rfl rfl (st2 := [vI (sP D p 1)]) rfl (S2 := S) rfl ?_
  refine g_istore_n (pc := 6) hX (lv2 := [(2, vI (sP D p 1)), (0, .ref (gw_ad w 0)), (1, vI (p))]) rfl (by decide) rfl dL_parcel_6 ?_
  refine g_aload_n (pc := 7) hX 1 rfl dL_parcel_7 ?_
  refine g_iload_n (pc := 8) hX 2 rfl dL_parcel_8 ?_
  refine g_iconst (pc := 9) hX dL_parcel_9 ?_
  refine g_callD (pc := 10) (As := [vI (p), vI (2)]) (st2 := []) hX hA.N hA.e (q_parcel hA (p := p) (x := 2) (by omega) (by omega) (by omega) (by omega)) gL_parcel_X6_parcel (n := 2) (hw := rfl) (hrc := rfl) (hrs := rfl) (hd := by decide +kernel) (hR := ⟨Nat.le_of_ble_eq_true rfl, Nat.le_of_ble_eq_true rfl⟩) (hn := rfl) (hst := rfl) (hsum := Nat.le_of_ble_eq_true rfl) (hdg := dL_parcel_10) ?_
  rintro _ S9 ⟨rfl, e9⟩
  rw [e9]
  clear e9 S9
  refine g_at (pc2 := 13) rfl rfl (st2 := [vI (sP D p 2)]) rfl (S2 := S) rfl ?_
  refine g_istore_n (pc := 13) hX (lv2 := [(3, vI (sP D p 2)), (2, vI (sP D p 1)), (0, .ref (gw_ad w 0)), (1, vI (p))]) rfl (by decide) rfl dL_parcel_13 ?_
  refine g_aload_n (pc := 14) hX 2 rfl dL_parcel_14 ?_
  refine g_iload_n (pc := 15) hX 3 rfl dL_parcel_15 ?_
  refine g_iconst (pc := 16) hX dL_parcel_16 ?_
  refine g_callD (pc := 17) (As := [vI (p), vI (3)]) (st2 := []) hX hA.N hA.e (q_parcel hA (p := p) (x := 3) (by omega) (by omega) (by omega) (by omega)) gL_parcel_X6_parcel (n := 2) (hw := rfl) (hrc := rfl) (hrs := rfl) (hd := by decide +kernel) (hR := ⟨Nat.le_of_ble_eq_true rfl, Nat.le_of_ble_eq_true rfl⟩) (hn := rfl) (hst := rfl) (hsum := Nat.le_of_ble_eq_true rfl) (hdg := dL_parcel_17) ?_
  rintro _ S9 ⟨rfl, e9⟩
  rw [e9]
  clear e9 S9
  refine g_at (pc2 := 20) rfl rfl (st2 := [vI (sP D p 3)]) rfl (S2 := S) rfl ?_
  refine g_istore (pc := 20) hX (lv2 := [(4, vI (sP D p 3)), (3, vI (sP D p 2)), (2, vI (sP D p 1)), (0, .ref (gw_ad w 0)), (1, vI (p))]) (by decide) rfl dL_parcel_20 ?_
  refine g_aload_n (pc := 22) hX 3 rfl dL_parcel_22 ?_
  refine g_iload_n (pc := 23) hX 4 rfl dL_parcel_23 ?_
  refine g_iconst (pc := 24) hX dL_parcel_24 ?_
  refine g_callD (pc := 25) (As := [vI (p), vI (0)]) (st2 := []) hX hA.N hA.e (q_parcel hA (p := p) (x := 0) (by omega) (by omega) (by omega) (by omega)) gL_parcel_X6_parcel (n := 2) (hw := rfl) (hrc := rfl) (hrs := rfl) (hd := by decide +kernel) (hR := ⟨Nat.le_of_ble_eq_true rfl, Nat.le_of_ble_eq_true rfl⟩) (hn := rfl) (hst := rfl) (hsum := Nat.le_of_ble_eq_true rfl) (hdg := dL_parcel_25) ?_
  rintro _ S9 ⟨rfl, e9⟩
  rw [e9]
  clear e9 S9
  refine g_at (pc2 := 28) rfl rfl (st2 := [vI (sP D p 0)]) rfl (S2 := S) rfl ?_
  refine g_istore (pc := 28) hX (lv2 := [(5, vI (sP D p 0)), (4, vI (sP D p 3)), (3, vI (sP D p 2)), (2, vI (sP D p 1)), (0, .ref (gw_ad w 0)), (1, vI (p))]) (by decide) rfl dL_parcel_28 ?_
  refine g_aload_n (pc := 30) hX 4 rfl dL_parcel_30 ?_
  refine g_iload_n (pc := 31) hX 5 rfl dL_parcel_31 ?_
  refine g_iconst (pc := 32) hX dL_parcel_32 ?_
  refine g_callD (pc := 33) (As := [vI (p), vI (5)]) (st2 := []) hX hA.N hA.e (q_parcel hA (p := p) (x := 5) (by omega) (by omega) (by omega) (by omega)) gL_parcel_X6_parcel (n := 2) (hw := rfl) (hrc := rfl) (hrs := rfl) (hd := by decide +kernel) (hR := ⟨Nat.le_of_ble_eq_true rfl, Nat.le_of_ble_eq_true rfl⟩) (hn := rfl) (hst := rfl) (hsum := Nat.le_of_ble_eq_true rfl) (hdg := dL_parcel_33) ?_
  rintro _ S9 ⟨rfl, e9⟩
  rw [e9]
  clear e9 S9
  refine g_at (pc2 := 36) rfl rfl (st2 := [vI (sP D p 5)]) rfl (S2 := S) rfl ?_
  refine g_istore (pc := 36) hX (lv2 := [(6, vI (sP D p 5)), (5, vI (sP D p 0)), (4, vI (sP D p 3)), (3, vI (sP D p 2)), (2, vI (sP D p 1)), (0, .ref (gw_ad w 0)), (1, vI (p))]) (by decide) rfl dL_parcel_36 ?_
  refine g_iload (pc := 38) hX 1 rfl dL_parcel_38 ?_
  refine g_iload (pc := 40) hX 0 rfl dL_parcel_40 ?_
  refine g_icmp_le (pc := 42) (tgt := 50) hX (by first | assumption | exact inI_mk (by omega) (by omega)) (by first | assumption | exact inI_mk (by omega) (by omega)) dL_parcel_42 (by decide) (fun c_42 => ?_) (fun c_42 => ?_)
  · skip
    refine g_iload (pc := 50) hX 0 rfl dL_parcel_50 ?_
    refine g_sub (lv2 := [(0, .ref (gw_ad w 0)), (1, vI (p)), (2, vI (sP D p 1)), (3, vI (sP D p 2)), (4, vI (sP D p 3)), (5, vI (sP D p 0)), (6, vI (sP D p 5))]) [5, 6, 4, 3, 2, 1, 0] rfl ?_
    exact jB (sP D p 5) (by omega)
  · skip
    refine g_iload (pc := 45) hX 1 rfl dL_parcel_45 ?_
    refine g_goto (pc := 47) (tgt := 52) hX dL_parcel_47 (by decide) ?_
    refine g_sub (lv2 := [(0, .ref (gw_ad w 0)), (1, vI (p)), (2, vI (sP D p 1)), (3, vI (sP D p 2)), (4, vI (sP D p 3)), (5, vI (sP D p 0)), (6, vI (sP D p 5))]) [5, 6, 4, 3, 2, 1, 0] rfl ?_
    exact jB (sP D p 0) (by omega)

set_option maxHeartbeats 4000000 in
set_option maxRecDepth 100000 in
theorem c_L_sums {w : gW} {l : Launch} {S : Nat → va_E} {D : SD} (hA : A0 w D S) :
    GM1 w l yL_sums wsL_sums { frames := 4, cells := 0, slots := 0, locals := 99 } [.ref (gw_ad w 0), vI (snP D), vI (snN D)] S
      (fun v S' => v = vI (bz true) ∧ S' = S) := by
  refine GM.start (own := RL) (n := "sums") (d := "(LParcelDesk;II)Z") (by decide) rfl (Nat.le_of_ble_eq_true rfl) ?_
  intro X hX hR hXl
  subst hXl
  refine g_at rfl (lv2 := [(0, .ref (gw_ad w 0)), (1, vI (snP D)), (2, vI (snN D))]) rfl rfl rfl ?_
  have hb := hA.b
  obtain ⟨s0, s1, s2, s3, s4⟩ := hA.sum
  refine g_lconst (pc := 0) hX (z := 0) rfl dL_sums_0 ?_
  refine g_lstore_n (pc := 1) hX (lv2 := [(3, vL (0)), (0, .ref (gw_ad w 0)), (1, vI (snP D)), (2, vI (snN D))]) rfl (by decide) rfl dL_sums_1 ?_
  refine g_lconst (pc := 2) hX (z := 0) rfl dL_sums_2 ?_
  refine g_lstore (pc := 3) hX (lv2 := [(5, vL (0)), (3, vL (0)), (0, .ref (gw_ad w 0)), (1, vI (snP D)), (2, vI (snN D))]) (by decide) rfl dL_sums_3 ?_
  refine g_lconst (pc := 5) hX (z := 0) rfl dL_sums_5 ?_
  refine g_lstore (pc := 6) hX (lv2 := [(7, vL (0)), (5, vL (0)), (3, vL (0)), (0, .ref (gw_ad w 0)), (1, vI (snP D)), (2, vI (snN D))]) (by decide) rfl dL_sums_6 ?_
  refine g_lconst (pc := 8) hX (z := 0) rfl dL_sums_8 ?_
  refine g_lstore (pc := 9) hX (lv2 := [(9, vL (0)), (7, vL (0)), (5, vL (0)), (3, vL (0)), (0, .ref (gw_ad w 0)), (1, vI (snP D)), (2, vI (snN D))]) (by decide) rfl dL_sums_9 ?_
  refine g_lconst (pc := 11) hX (z := 0) rfl dL_sums_11 ?_
  refine g_lstore (pc := 12) hX (lv2 := [(11, vL (0)), (9, vL (0)), (7, vL (0)), (5, vL (0)), (3, vL (0)), (0, .ref (gw_ad w 0)), (1, vI (snP D)), (2, vI (snN D))]) (by decide) rfl dL_sums_12 ?_
  refine g_iconst (pc := 14) hX dL_sums_14 ?_
  refine g_istore (pc := 15) hX (lv2 := [(13, vI (0)), (11, vL (0)), (9, vL (0)), (7, vL (0)), (5, vL (0)), (3, vL (0)), (0, .ref (gw_ad w 0)), (1, vI (snP D)), (2, vI (snN D))]) (by decide) rfl dL_sums_15 ?_
  have l1 : ∀ (n0 : Nat) (c : Int), 0 ≤ c → c ≤ (snP D) → (snP D) - c < n0 → G w { frames := 4, cells := 0, slots := 0, locals := 99 } X 15 17 [(13, vI (c)), (3, vL (zsum (fun r => sP D r 8) (c : Int).toNat)), (5, vL (zsum (fun r => sP D r 0) (c : Int).toNat)), (7, vL (zsum (fun r => sP D r 6) (c : Int).toNat)), (9, vL (zsum (fun r => if sP D r 12 = 2 then 1 else 0) (c : Int).toNat)), (0, .ref (gw_ad w 0)), (1, vI (snP D)), (2, vI (snN D)), (11, vL (0))] [] S := by
    intro n0
    induction n0 with
    | zero => intro c  h1c h2c h3c; exact absurd h3c (by omega)
    | succ n0 ihl1 =>
      intro c  h1c h2c h3c 
      refine g_iload (pc := 17) hX 0 rfl dL_sums_17 ?_
      refine g_iload_n (pc := 19) hX 6 rfl dL_sums_19 ?_
      refine g_icmp_ge (pc := 20) (tgt := 139) hX (by first | assumption | exact inI_mk (by omega) (by omega)) (by first | assumption | exact inI_mk (by omega) (by omega)) dL_sums_20 (by decide) (fun c_20 => ?_) (fun c_20 => ?_)
      · skip
        have hcP : c = snP D := by omega
        refine g_iconst (pc := 139) hX dL_sums_139 ?_
        refine g_istore (pc := 140) hX (lv2 := [(13, vI (0)), (3, vL (zsum (fun r => sP D r 8) (c : Int).toNat)), (5, vL (zsum (fun r => sP D r 0) (c : Int).toNat)), (7, vL (zsum (fun r => sP D r 6) (c : Int).toNat)), (9, vL (zsum (fun r => if sP D r 12 = 2 then 1 else 0) (c : Int).toNat)), (0, .ref (gw_ad w 0)), (1, vI (snP D)), (2, vI (snN D)), (11, vL (0))]) (by decide) rfl dL_sums_140 ?_
        have l2 : ∀ (n0 : Nat) (e : Int), 0 ≤ e → e ≤ (snN D) → (snN D) - e < n0 → G w { frames := 4, cells := 0, slots := 0, locals := 99 } X 15 142 [(13, vI (e)), (11, vL (zsum (fun r => sN D r 5) (e : Int).toNat)), (0, .ref (gw_ad w 0)), (2, vI (snN D)), (3, vL (zsum (fun r => sP D r 8) ((snP D) : Int).toNat)), (5, vL (zsum (fun r => sP D r 0) ((snP D) : Int).toNat)), (7, vL (zsum (fun r => sP D r 6) ((snP D) : Int).toNat)), (9, vL (zsum (fun r => if sP D r 12 = 2 then 1 else 0) ((snP D) : Int).toNat))] [] S := by
          intro n0
          induction n0 with
          | zero => intro e  h1e h2e h3e; exact absurd h3e (by omega)
          | succ n0 ihl2 =>
            intro e  h1e h2e h3e 
            refine g_iload (pc := 142) hX 0 rfl dL_sums_142 ?_
            refine g_iload_n (pc := 144) hX 3 rfl dL_sums_144 ?_
            refine g_icmp_ge (pc := 145) (tgt := 221) hX (by first | assumption | exact inI_mk (by omega) (by omega)) (by first | assumption | exact inI_mk (by omega) (by omega)) dL_sums_145 (by decide) (fun c_145 => ?_) (fun c_145 => ?_)
            · skip
              have heN : e = snN D := by omega
              refine g_aload_n (pc := 221) hX 2 rfl dL_sums_221 ?_
              refine g_iconst (pc := 222) hX dL_sums_222 ?_
              refine g_callD (pc := 223) (As := [vI (0)]) (st2 := []) hX hA.N hA.e (q_sum hA (x := 0) (by omega) (by omega)) gL_sums_X6_sum (n := 1) (hw := rfl) (hrc := rfl) (hrs := rfl) (hd := by decide +kernel) (hR := ⟨Nat.le_of_ble_eq_true rfl, Nat.le_of_ble_eq_true rfl⟩) (hn := rfl) (hst := rfl) (hsum := Nat.le_of_ble_eq_true rfl) (hdg := dL_sums_223) ?_
              rintro _ S9 ⟨rfl, e9⟩
              rw [e9]
              clear e9 S9
              refine g_at (pc2 := 226) rfl rfl (st2 := [vL (sumZ D 0)]) rfl (S2 := S) rfl ?_
              refine g_lload_n (pc := 226) hX 4 rfl dL_sums_226 ?_
              refine g_lcmp_same (pc := 227) (tgt := 279) hX (a := sumZ D 0) (b := zsum (fun r => sP D r 8) ((snP D) : Int).toNat) s0 dL_sums_227 dL_sums_228 (by decide) ?_
              refine g_aload_n (pc := 231) hX 2 rfl dL_sums_231 ?_
              refine g_iconst (pc := 232) hX dL_sums_232 ?_
              refine g_callD (pc := 233) (As := [vI (1)]) (st2 := []) hX hA.N hA.e (q_sum hA (x := 1) (by omega) (by omega)) gL_sums_X6_sum (n := 1) (hw := rfl) (hrc := rfl) (hrs := rfl) (hd := by decide +kernel) (hR := ⟨Nat.le_of_ble_eq_true rfl, Nat.le_of_ble_eq_true rfl⟩) (hn := rfl) (hst := rfl) (hsum := Nat.le_of_ble_eq_true rfl) (hdg := dL_sums_233) ?_
              rintro _ S9 ⟨rfl, e9⟩
              rw [e9]
              clear e9 S9
              refine g_at (pc2 := 236) rfl rfl (st2 := [vL (sumZ D 1)]) rfl (S2 := S) rfl ?_
              refine g_lload (pc := 236) hX 1 rfl dL_sums_236 ?_
              refine g_lcmp_same (pc := 238) (tgt := 279) hX (a := sumZ D 1) (b := zsum (fun r => sN D r 5) (e : Int).toNat) (by rw [s1, heN]) dL_sums_238 dL_sums_239 (by decide) ?_
              refine g_aload_n (pc := 242) hX 2 rfl dL_sums_242 ?_
              refine g_iconst (pc := 243) hX dL_sums_243 ?_
              refine g_callD (pc := 244) (As := [vI (2)]) (st2 := []) hX hA.N hA.e (q_sum hA (x := 2) (by omega) (by omega)) gL_sums_X6_sum (n := 1) (hw := rfl) (hrc := rfl) (hrs := rfl) (hd := by decide +kernel) (hR := ⟨Nat.le_of_ble_eq_true rfl, Nat.le_of_ble_eq_true rfl⟩) (hn := rfl) (hst := rfl) (hsum := Nat.le_of_ble_eq_true rfl) (hdg := dL_sums_244) ?_
              rintro _ S9 ⟨rfl, e9⟩
              rw [e9]
              clear e9 S9
              refine g_at (pc2 := 247) rfl rfl (st2 := [vL (sumZ D 2)]) rfl (S2 := S) rfl ?_
              refine g_lload (pc := 247) hX 5 rfl dL_sums_247 ?_
              refine g_lcmp_same (pc := 249) (tgt := 279) hX (a := sumZ D 2) (b := zsum (fun r => sP D r 0) ((snP D) : Int).toNat) s2 dL_sums_249 dL_sums_250 (by decide) ?_
              refine g_aload_n (pc := 253) hX 2 rfl dL_sums_253 ?_
              refine g_iconst (pc := 254) hX dL_sums_254 ?_
              refine g_callD (pc := 255) (As := [vI (3)]) (st2 := []) hX hA.N hA.e (q_sum hA (x := 3) (by omega) (by omega)) gL_sums_X6_sum (n := 1) (hw := rfl) (hrc := rfl) (hrs := rfl) (hd := by decide +kernel) (hR := ⟨Nat.le_of_ble_eq_true rfl, Nat.le_of_ble_eq_true rfl⟩) (hn := rfl) (hst := rfl) (hsum := Nat.le_of_ble_eq_true rfl) (hdg := dL_sums_255) ?_
              rintro _ S9 ⟨rfl, e9⟩
              rw [e9]
              clear e9 S9
              refine g_at (pc2 := 258) rfl rfl (st2 := [vL (sumZ D 3)]) rfl (S2 := S) rfl ?_
              refine g_lload (pc := 258) hX 6 rfl dL_sums_258 ?_
              refine g_lcmp_same (pc := 260) (tgt := 279) hX (a := sumZ D 3) (b := zsum (fun r => sP D r 6) ((snP D) : Int).toNat) s3 dL_sums_260 dL_sums_261 (by decide) ?_
              refine g_aload_n (pc := 264) hX 2 rfl dL_sums_264 ?_
              refine g_iconst (pc := 265) hX dL_sums_265 ?_
              refine g_callD (pc := 266) (As := [vI (4)]) (st2 := []) hX hA.N hA.e (q_sum hA (x := 4) (by omega) (by omega)) gL_sums_X6_sum (n := 1) (hw := rfl) (hrc := rfl) (hrs := rfl) (hd := by decide +kernel) (hR := ⟨Nat.le_of_ble_eq_true rfl, Nat.le_of_ble_eq_true rfl⟩) (hn := rfl) (hst := rfl) (hsum := Nat.le_of_ble_eq_true rfl) (hdg := dL_sums_266) ?_
              rintro _ S9 ⟨rfl, e9⟩
              rw [e9]
              clear e9 S9
              refine g_at (pc2 := 269) rfl rfl (st2 := [vL (sumZ D 4)]) rfl (S2 := S) rfl ?_
              refine g_lload (pc := 269) hX 7 rfl dL_sums_269 ?_
              refine g_lcmp_same (pc := 271) (tgt := 279) hX (a := sumZ D 4) (b := zsum (fun r => if sP D r 12 = 2 then 1 else 0) ((snP D) : Int).toNat) s4 dL_sums_271 dL_sums_272 (by decide) ?_
              refine g_iconst (pc := 275) hX dL_sums_275 ?_
              refine g_goto (pc := 276) (tgt := 280) hX dL_sums_276 (by decide) ?_
              refine g_at rfl rfl (st2 := [vI (bz true)]) rfl rfl ?_
              refine g_zret (pc := 280) hX hR dL_sums_280 ?_
              exact ⟨rfl, rfl⟩
            · skip
              have hn := hA.nt h1e c_145
              refine g_lload (pc := 148) hX 1 rfl dL_sums_148 ?_
              refine g_aload_n (pc := 150) hX 2 rfl dL_sums_150 ?_
              refine g_iload (pc := 151) hX 0 rfl dL_sums_151 ?_
              refine g_iconst (pc := 153) hX dL_sums_153 ?_
              refine g_callD (pc := 154) (As := [vI (e), vI (5)]) (st2 := [vL (zsum (fun r => sN D r 5) (e : Int).toNat)]) hX hA.N hA.e (q_note hA (n := e) (x := 5) (by omega) (by omega) (by omega) (by omega)) gL_sums_X6_note (n := 2) (hw := rfl) (hrc := rfl) (hrs := rfl) (hd := by decide +kernel) (hR := ⟨Nat.le_of_ble_eq_true rfl, Nat.le_of_ble_eq_true rfl⟩) (hn := rfl) (hst := rfl) (hsum := Nat.le_of_ble_eq_true rfl) (hdg := dL_sums_154) ?_
              rintro _ S9 ⟨rfl, e9⟩
              rw [e9]
              clear e9 S9
              refine g_at (pc2 := 157) rfl rfl (st2 := [vI (sN D e 5), vL (zsum (fun r => sN D r 5) (e : Int).toNat)]) rfl (S2 := S) rfl ?_
              refine g_i2l (pc := 157) hX (by first | assumption | exact inI_mk (by omega) (by omega)) dL_sums_157 ?_
              refine g_ladd (pc := 158) hX dL_sums_158 ?_
              refine g_lstore (pc := 159) hX (lv2 := [(11, vL ((zsum (fun r => sN D r 5) (e : Int).toNat) + (sN D e 5))), (13, vI (e)), (0, .ref (gw_ad w 0)), (2, vI (snN D)), (3, vL (zsum (fun r => sP D r 8) ((snP D) : Int).toNat)), (5, vL (zsum (fun r => sP D r 0) ((snP D) : Int).toNat)), (7, vL (zsum (fun r => sP D r 6) ((snP D) : Int).toNat)), (9, vL (zsum (fun r => if sP D r 12 = 2 then 1 else 0) ((snP D) : Int).toNat))]) (by decide) rfl dL_sums_159 ?_
              refine g_aload_n (pc := 161) hX 2 rfl dL_sums_161 ?_
              refine g_iload (pc := 162) hX 1 rfl dL_sums_162 ?_
              refine g_iconst (pc := 164) hX dL_sums_164 ?_
              refine g_callD (pc := 165) (As := [vI (e), vI (4)]) (st2 := []) hX hA.N hA.e (q_note hA (n := e) (x := 4) (by omega) (by omega) (by omega) (by omega)) gL_sums_X6_note (n := 2) (hw := rfl) (hrc := rfl) (hrs := rfl) (hd := by decide +kernel) (hR := ⟨Nat.le_of_ble_eq_true rfl, Nat.le_of_ble_eq_true rfl⟩) (hn := rfl) (hst := rfl) (hsum := Nat.le_of_ble_eq_true rfl) (hdg := dL_sums_165) ?_
              rintro _ S9 ⟨rfl, e9⟩
              rw [e9]
              clear e9 S9
              refine g_at (pc2 := 168) rfl rfl (st2 := [vI (sN D e 4)]) rfl (S2 := S) rfl ?_
              refine g_if_ne (pc := 168) (tgt := 192) hX (by first | assumption | exact inI_mk (by omega) (by omega)) dL_sums_168 (by decide) (fun c_168 => ?_) (fun c_168 => ?_)
              · skip
                refine g_aload_n (pc := 192) hX 2 rfl dL_sums_192 ?_
                refine g_iload (pc := 193) hX 1 rfl dL_sums_193 ?_
                refine g_iconst (pc := 195) hX dL_sums_195 ?_
                refine g_callD (pc := 196) (As := [vI (e), vI (4)]) (st2 := []) hX hA.N hA.e (q_note hA (n := e) (x := 4) (by omega) (by omega) (by omega) (by omega)) gL_sums_X6_note (n := 2) (hw := rfl) (hrc := rfl) (hrs := rfl) (hd := by decide +kernel) (hR := ⟨Nat.le_of_ble_eq_true rfl, Nat.le_of_ble_eq_true rfl⟩) (hn := rfl) (hst := rfl) (hsum := Nat.le_of_ble_eq_true rfl) (hdg := dL_sums_196) ?_
                rintro _ S9 ⟨rfl, e9⟩
                rw [e9]
                clear e9 S9
                refine g_at (pc2 := 199) rfl rfl (st2 := [vI (sN D e 4)]) rfl (S2 := S) rfl ?_
                refine g_iconst (pc := 199) hX dL_sums_199 ?_
                refine g_icmp_ne (pc := 200) (tgt := 215) hX (by first | assumption | exact inI_mk (by omega) (by omega)) (by first | assumption | exact inI_mk (by omega) (by omega)) dL_sums_200 (by decide) (fun c_200 => ?_) (fun c_200 => ?_)
                · skip
                  refine g_iinc (pc := 215) hX (lv2 := [(13, vI (e + 1)), (11, vL ((zsum (fun r => sN D r 5) (e : Int).toNat) + (sN D e 5))), (0, .ref (gw_ad w 0)), (2, vI (snN D)), (3, vL (zsum (fun r => sP D r 8) ((snP D) : Int).toNat)), (5, vL (zsum (fun r => sP D r 0) ((snP D) : Int).toNat)), (7, vL (zsum (fun r => sP D r 6) ((snP D) : Int).toNat)), (9, vL (zsum (fun r => if sP D r 12 = 2 then 1 else 0) ((snP D) : Int).toNat))]) 1 rfl (by decide) rfl dL_sums_215 ?_
                  refine g_goto (pc := 218) (tgt := 142) hX dL_sums_218 (by decide) ?_
                  refine g_sub (lv2 := [(13, vI (e + 1)), (11, vL ((zsum (fun r => sN D r 5) (e : Int).toNat) + (sN D e 5))), (0, .ref (gw_ad w 0)), (2, vI (snN D)), (3, vL (zsum (fun r => sP D r 8) ((snP D) : Int).toNat)), (5, vL (zsum (fun r => sP D r 0) ((snP D) : Int).toNat)), (7, vL (zsum (fun r => sP D r 6) ((snP D) : Int).toNat)), (9, vL (zsum (fun r => if sP D r 12 = 2 then 1 else 0) ((snP D) : Int).toNat))]) [0, 1, 2, 3, 4, 5, 6, 7] rfl ?_
                  refine g_at rfl (lv2 := [(13, vI (e + 1)), (11, vL (zsum (fun r => sN D r 5) (e + 1 : Int).toNat)), (0, .ref (gw_ad w 0)), (2, vI (snN D)), (3, vL (zsum (fun r => sP D r 8) ((snP D) : Int).toNat)), (5, vL (zsum (fun r => sP D r 0) ((snP D) : Int).toNat)), (7, vL (zsum (fun r => sP D r 6) ((snP D) : Int).toNat)), (9, vL (zsum (fun r => if sP D r 12 = 2 then 1 else 0) ((snP D) : Int).toNat))]) (by rw [zsum_s (fun r => sN D r 5) h1e]) rfl (S2 := S) (rfl) ?_
                  exact ihl2 (e + 1)  (by omega) (by omega) (by omega) 
                · skip
                  refine g_aload_n (pc := 203) hX 2 rfl dL_sums_203 ?_
                  refine g_iload (pc := 204) hX 1 rfl dL_sums_204 ?_
                  refine g_iconst (pc := 206) hX dL_sums_206 ?_
                  refine g_callD (pc := 207) (As := [vI (e), vI (5)]) (st2 := []) hX hA.N hA.e (q_note hA (n := e) (x := 5) (by omega) (by omega) (by omega) (by omega)) gL_sums_X6_note (n := 2) (hw := rfl) (hrc := rfl) (hrs := rfl) (hd := by decide +kernel) (hR := ⟨Nat.le_of_ble_eq_true rfl, Nat.le_of_ble_eq_true rfl⟩) (hn := rfl) (hst := rfl) (hsum := Nat.le_of_ble_eq_true rfl) (hdg := dL_sums_207) ?_
                  rintro _ S9 ⟨rfl, e9⟩
                  rw [e9]
                  clear e9 S9
                  refine g_at (pc2 := 210) rfl rfl (st2 := [vI (sN D e 5)]) rfl (S2 := S) rfl ?_
                  refine g_if_eq (pc := 210) (tgt := 215) hX (by first | assumption | exact inI_mk (by omega) (by omega)) dL_sums_210 (by decide) (fun c_210 => ?_) (fun c_210 => ?_)
                  · skip
                    refine g_iinc (pc := 215) hX (lv2 := [(13, vI (e + 1)), (11, vL ((zsum (fun r => sN D r 5) (e : Int).toNat) + (sN D e 5))), (0, .ref (gw_ad w 0)), (2, vI (snN D)), (3, vL (zsum (fun r => sP D r 8) ((snP D) : Int).toNat)), (5, vL (zsum (fun r => sP D r 0) ((snP D) : Int).toNat)), (7, vL (zsum (fun r => sP D r 6) ((snP D) : Int).toNat)), (9, vL (zsum (fun r => if sP D r 12 = 2 then 1 else 0) ((snP D) : Int).toNat))]) 1 rfl (by decide) rfl dL_sums_215 ?_
                    refine g_goto (pc := 218) (tgt := 142) hX dL_sums_218 (by decide) ?_
                    refine g_sub (lv2 := [(13, vI (e + 1)), (11, vL ((zsum (fun r => sN D r 5) (e : Int).toNat) + (sN D e 5))), (0, .ref (gw_ad w 0)), (2, vI (snN D)), (3, vL (zsum (fun r => sP D r 8) ((snP D) : Int).toNat)), (5, vL (zsum (fun r => sP D r 0) ((snP D) : Int).toNat)), (7, vL (zsum (fun r => sP D r 6) ((snP D) : Int).toNat)), (9, vL (zsum (fun r => if sP D r 12 = 2 then 1 else 0) ((snP D) : Int).toNat))]) [0, 1, 2, 3, 4, 5, 6, 7] rfl ?_
                    refine g_at rfl (lv2 := [(13, vI (e + 1)), (11, vL (zsum (fun r => sN D r 5) (e + 1 : Int).toNat)), (0, .ref (gw_ad w 0)), (2, vI (snN D)), (3, vL (zsum (fun r => sP D r 8) ((snP D) : Int).toNat)), (5, vL (zsum (fun r => sP D r 0) ((snP D) : Int).toNat)), (7, vL (zsum (fun r => sP D r 6) ((snP D) : Int).toNat)), (9, vL (zsum (fun r => if sP D r 12 = 2 then 1 else 0) ((snP D) : Int).toNat))]) (by rw [zsum_s (fun r => sN D r 5) h1e]) rfl (S2 := S) (rfl) ?_
                    exact ihl2 (e + 1)  (by omega) (by omega) (by omega) 
                  · skip
                    exact absurd (hn.2.2.2.2.2.2.1 (by omega)) c_210
              · skip
                refine g_aload_n (pc := 171) hX 2 rfl dL_sums_171 ?_
                refine g_aload_n (pc := 172) hX 2 rfl dL_sums_172 ?_
                refine g_iload (pc := 173) hX 1 rfl dL_sums_173 ?_
                refine g_iconst (pc := 175) hX dL_sums_175 ?_
                refine g_callD (pc := 176) (As := [vI (e), vI (0)]) (st2 := [.ref (gw_ad w 0)]) hX hA.N hA.e (q_note hA (n := e) (x := 0) (by omega) (by omega) (by omega) (by omega)) gL_sums_X6_note (n := 2) (hw := rfl) (hrc := rfl) (hrs := rfl) (hd := by decide +kernel) (hR := ⟨Nat.le_of_ble_eq_true rfl, Nat.le_of_ble_eq_true rfl⟩) (hn := rfl) (hst := rfl) (hsum := Nat.le_of_ble_eq_true rfl) (hdg := dL_sums_176) ?_
                rintro _ S9 ⟨rfl, e9⟩
                rw [e9]
                clear e9 S9
                refine g_at (pc2 := 179) rfl rfl (st2 := [vI (sN D e 0), .ref (gw_ad w 0)]) rfl (S2 := S) rfl ?_
                refine g_bipush (pc := 179) hX (by decide) dL_sums_179 ?_
                refine g_callD (pc := 181) (As := [vI (sN D e 0), vI (10)]) (st2 := []) hX hA.N hA.e (q_open hA (p := sN D e 0) (by omega) (by omega)) gL_sums_X6_parcel (n := 2) (hw := rfl) (hrc := rfl) (hrs := rfl) (hd := by decide +kernel) (hR := ⟨Nat.le_of_ble_eq_true rfl, Nat.le_of_ble_eq_true rfl⟩) (hn := rfl) (hst := rfl) (hsum := Nat.le_of_ble_eq_true rfl) (hdg := dL_sums_181) ?_
                rintro _ S9 ⟨rfl, e9⟩
                rw [e9]
                clear e9 S9
                refine g_at (pc2 := 184) rfl rfl (st2 := [vI (openZ D (sN D e 0))]) rfl (S2 := S) rfl ?_
                refine g_iload (pc := 184) hX 1 rfl dL_sums_184 ?_
                refine g_icmp_eq (pc := 186) (tgt := 215) hX (by first | assumption | exact inI_mk (by omega) (by omega)) (by first | assumption | exact inI_mk (by omega) (by omega)) dL_sums_186 (by decide) (fun c_186 => ?_) (fun c_186 => ?_)
                · skip
                  refine g_iinc (pc := 215) hX (lv2 := [(13, vI (e + 1)), (11, vL ((zsum (fun r => sN D r 5) (e : Int).toNat) + (sN D e 5))), (0, .ref (gw_ad w 0)), (2, vI (snN D)), (3, vL (zsum (fun r => sP D r 8) ((snP D) : Int).toNat)), (5, vL (zsum (fun r => sP D r 0) ((snP D) : Int).toNat)), (7, vL (zsum (fun r => sP D r 6) ((snP D) : Int).toNat)), (9, vL (zsum (fun r => if sP D r 12 = 2 then 1 else 0) ((snP D) : Int).toNat))]) 1 rfl (by decide) rfl dL_sums_215 ?_
                  refine g_goto (pc := 218) (tgt := 142) hX dL_sums_218 (by decide) ?_
                  refine g_sub (lv2 := [(13, vI (e + 1)), (11, vL ((zsum (fun r => sN D r 5) (e : Int).toNat) + (sN D e 5))), (0, .ref (gw_ad w 0)), (2, vI (snN D)), (3, vL (zsum (fun r => sP D r 8) ((snP D) : Int).toNat)), (5, vL (zsum (fun r => sP D r 0) ((snP D) : Int).toNat)), (7, vL (zsum (fun r => sP D r 6) ((snP D) : Int).toNat)), (9, vL (zsum (fun r => if sP D r 12 = 2 then 1 else 0) ((snP D) : Int).toNat))]) [0, 1, 2, 3, 4, 5, 6, 7] rfl ?_
                  refine g_at rfl (lv2 := [(13, vI (e + 1)), (11, vL (zsum (fun r => sN D r 5) (e + 1 : Int).toNat)), (0, .ref (gw_ad w 0)), (2, vI (snN D)), (3, vL (zsum (fun r => sP D r 8) ((snP D) : Int).toNat)), (5, vL (zsum (fun r => sP D r 0) ((snP D) : Int).toNat)), (7, vL (zsum (fun r => sP D r 6) ((snP D) : Int).toNat)), (9, vL (zsum (fun r => if sP D r 12 = 2 then 1 else 0) ((snP D) : Int).toNat))]) (by rw [zsum_s (fun r => sN D r 5) h1e]) rfl (S2 := S) (rfl) ?_
                  exact ihl2 (e + 1)  (by omega) (by omega) (by omega) 
                · skip
                  exact absurd (hn.2.2.2.2.2.2.2 c_168) c_186
        refine g_sub (lv2 := [(13, vI (0)), (11, vL (0)), (0, .ref (gw_ad w 0)), (2, vI (snN D)), (3, vL (zsum (fun r => sP D r 8) (c : Int).toNat)), (5, vL (zsum (fun r => sP D r 0) (c : Int).toNat)), (7, vL (zsum (fun r => sP D r 6) (c : Int).toNat)), (9, vL (zsum (fun r => if sP D r 12 = 2 then 1 else 0) (c : Int).toNat))]) [0, 8, 5, 7, 1, 2, 3, 4] rfl ?_
        refine g_at rfl (lv2 := [(13, vI (0)), (11, vL (zsum (fun r => sN D r 5) (0 : Int).toNat)), (0, .ref (gw_ad w 0)), (2, vI (snN D)), (3, vL (zsum (fun r => sP D r 8) ((snP D) : Int).toNat)), (5, vL (zsum (fun r => sP D r 0) ((snP D) : Int).toNat)), (7, vL (zsum (fun r => sP D r 6) ((snP D) : Int).toNat)), (9, vL (zsum (fun r => if sP D r 12 = 2 then 1 else 0) ((snP D) : Int).toNat))]) (by rw [hcP]; rfl) rfl (S2 := S) (rfl) ?_
        exact l2 (((snN D) : Int) - 0 + 1).toNat 0  (by omega) (by omega) (by omega) 
      · skip
        have hr := hA.row h1c c_20
        have ho := hA.op c
        have hw12 : 1 ≤ sP D c 12 ∧ sP D c 12 ≤ 3 := by rw [(hA.rw h1c c_20).2.2.1]; unfold wrZ; split <;> (try split) <;> omega
        refine g_lload_n (pc := 23) hX 1 rfl dL_sums_23 ?_
        refine g_aload_n (pc := 24) hX 5 rfl dL_sums_24 ?_
        refine g_iload (pc := 25) hX 0 rfl dL_sums_25 ?_
        refine g_bipush (pc := 27) hX (by decide) dL_sums_27 ?_
        refine g_callD (pc := 29) (As := [vI (c), vI (8)]) (st2 := [vL (zsum (fun r => sP D r 8) (c : Int).toNat)]) hX hA.N hA.e (q_parcel hA (p := c) (x := 8) (by omega) (by omega) (by omega) (by omega)) gL_sums_X6_parcel (n := 2) (hw := rfl) (hrc := rfl) (hrs := rfl) (hd := by decide +kernel) (hR := ⟨Nat.le_of_ble_eq_true rfl, Nat.le_of_ble_eq_true rfl⟩) (hn := rfl) (hst := rfl) (hsum := Nat.le_of_ble_eq_true rfl) (hdg := dL_sums_29) ?_
        rintro _ S9 ⟨rfl, e9⟩
        rw [e9]
        clear e9 S9
        refine g_at (pc2 := 32) rfl rfl (st2 := [vI (sP D c 8), vL (zsum (fun r => sP D r 8) (c : Int).toNat)]) rfl (S2 := S) rfl ?_
        refine g_i2l (pc := 32) hX (by first | assumption | exact inI_mk (by omega) (by omega)) dL_sums_32 ?_
        refine g_ladd (pc := 33) hX dL_sums_33 ?_
        refine g_lstore_n (pc := 34) hX (lv2 := [(3, vL ((zsum (fun r => sP D r 8) (c : Int).toNat) + (sP D c 8))), (13, vI (c)), (5, vL (zsum (fun r => sP D r 0) (c : Int).toNat)), (7, vL (zsum (fun r => sP D r 6) (c : Int).toNat)), (9, vL (zsum (fun r => if sP D r 12 = 2 then 1 else 0) (c : Int).toNat)), (0, .ref (gw_ad w 0)), (1, vI (snP D)), (2, vI (snN D)), (11, vL (0))]) rfl (by decide) rfl dL_sums_34 ?_
        refine g_lload (pc := 35) hX 2 rfl dL_sums_35 ?_
        refine g_aload_n (pc := 37) hX 5 rfl dL_sums_37 ?_
        refine g_iload (pc := 38) hX 1 rfl dL_sums_38 ?_
        refine g_iconst (pc := 40) hX dL_sums_40 ?_
        refine g_callD (pc := 41) (As := [vI (c), vI (0)]) (st2 := [vL (zsum (fun r => sP D r 0) (c : Int).toNat)]) hX hA.N hA.e (q_parcel hA (p := c) (x := 0) (by omega) (by omega) (by omega) (by omega)) gL_sums_X6_parcel (n := 2) (hw := rfl) (hrc := rfl) (hrs := rfl) (hd := by decide +kernel) (hR := ⟨Nat.le_of_ble_eq_true rfl, Nat.le_of_ble_eq_true rfl⟩) (hn := rfl) (hst := rfl) (hsum := Nat.le_of_ble_eq_true rfl) (hdg := dL_sums_41) ?_
        rintro _ S9 ⟨rfl, e9⟩
        rw [e9]
        clear e9 S9
        refine g_at (pc2 := 44) rfl rfl (st2 := [vI (sP D c 0), vL (zsum (fun r => sP D r 0) (c : Int).toNat)]) rfl (S2 := S) rfl ?_
        refine g_i2l (pc := 44) hX (by first | assumption | exact inI_mk (by omega) (by omega)) dL_sums_44 ?_
        refine g_ladd (pc := 45) hX dL_sums_45 ?_
        refine g_lstore (pc := 46) hX (lv2 := [(5, vL ((zsum (fun r => sP D r 0) (c : Int).toNat) + (sP D c 0))), (3, vL ((zsum (fun r => sP D r 8) (c : Int).toNat) + (sP D c 8))), (13, vI (c)), (7, vL (zsum (fun r => sP D r 6) (c : Int).toNat)), (9, vL (zsum (fun r => if sP D r 12 = 2 then 1 else 0) (c : Int).toNat)), (0, .ref (gw_ad w 0)), (1, vI (snP D)), (2, vI (snN D)), (11, vL (0))]) (by decide) rfl dL_sums_46 ?_
        refine g_lload (pc := 48) hX 3 rfl dL_sums_48 ?_
        refine g_aload_n (pc := 50) hX 5 rfl dL_sums_50 ?_
        refine g_iload (pc := 51) hX 2 rfl dL_sums_51 ?_
        refine g_bipush (pc := 53) hX (by decide) dL_sums_53 ?_
        refine g_callD (pc := 55) (As := [vI (c), vI (6)]) (st2 := [vL (zsum (fun r => sP D r 6) (c : Int).toNat)]) hX hA.N hA.e (q_parcel hA (p := c) (x := 6) (by omega) (by omega) (by omega) (by omega)) gL_sums_X6_parcel (n := 2) (hw := rfl) (hrc := rfl) (hrs := rfl) (hd := by decide +kernel) (hR := ⟨Nat.le_of_ble_eq_true rfl, Nat.le_of_ble_eq_true rfl⟩) (hn := rfl) (hst := rfl) (hsum := Nat.le_of_ble_eq_true rfl) (hdg := dL_sums_55) ?_
        rintro _ S9 ⟨rfl, e9⟩
        rw [e9]
        clear e9 S9
        refine g_at (pc2 := 58) rfl rfl (st2 := [vI (sP D c 6), vL (zsum (fun r => sP D r 6) (c : Int).toNat)]) rfl (S2 := S) rfl ?_
        refine g_i2l (pc := 58) hX (by first | assumption | exact inI_mk (by omega) (by omega)) dL_sums_58 ?_
        refine g_ladd (pc := 59) hX dL_sums_59 ?_
        refine g_lstore (pc := 60) hX (lv2 := [(7, vL ((zsum (fun r => sP D r 6) (c : Int).toNat) + (sP D c 6))), (5, vL ((zsum (fun r => sP D r 0) (c : Int).toNat) + (sP D c 0))), (3, vL ((zsum (fun r => sP D r 8) (c : Int).toNat) + (sP D c 8))), (13, vI (c)), (9, vL (zsum (fun r => if sP D r 12 = 2 then 1 else 0) (c : Int).toNat)), (0, .ref (gw_ad w 0)), (1, vI (snP D)), (2, vI (snN D)), (11, vL (0))]) (by decide) rfl dL_sums_60 ?_
        refine g_lload (pc := 62) hX 4 rfl dL_sums_62 ?_
        refine g_aload_n (pc := 64) hX 5 rfl dL_sums_64 ?_
        refine g_iload (pc := 65) hX 3 rfl dL_sums_65 ?_
        refine g_iconst (pc := 67) hX dL_sums_67 ?_
        refine g_callD (pc := 68) (As := [vI (c), vI (0)]) (st2 := [vL (zsum (fun r => if sP D r 12 = 2 then 1 else 0) (c : Int).toNat)]) hX hA.N hA.e (q_why hA (p := c) (i := 0) (by omega) (by omega) (by omega) (by omega)) gL_sums_X6_why (n := 2) (hw := rfl) (hrc := rfl) (hrs := rfl) (hd := by decide +kernel) (hR := ⟨Nat.le_of_ble_eq_true rfl, Nat.le_of_ble_eq_true rfl⟩) (hn := rfl) (hst := rfl) (hsum := Nat.le_of_ble_eq_true rfl) (hdg := dL_sums_68) ?_
        rintro _ S9 ⟨rfl, e9⟩
        rw [e9]
        clear e9 S9
        refine g_at (pc2 := 71) rfl rfl (st2 := [vI (sP D c 12), vL (zsum (fun r => if sP D r 12 = 2 then 1 else 0) (c : Int).toNat)]) rfl (S2 := S) rfl ?_
        refine g_iconst (pc := 71) hX dL_sums_71 ?_
        refine g_icmp_ne (pc := 72) (tgt := 79) hX (by first | assumption | exact inI_mk (by omega) (by omega)) (by first | assumption | exact inI_mk (by omega) (by omega)) dL_sums_72 (by decide) (fun c_72 => ?_) (fun c_72 => ?_)
        · skip
          refine g_lconst (pc := 79) hX (z := 0) rfl dL_sums_79 ?_
          refine g_ladd (pc := 80) hX dL_sums_80 ?_
          refine g_lstore (pc := 81) hX (lv2 := [(9, vL ((zsum (fun r => if sP D r 12 = 2 then 1 else 0) (c : Int).toNat) + 0)), (7, vL ((zsum (fun r => sP D r 6) (c : Int).toNat) + (sP D c 6))), (5, vL ((zsum (fun r => sP D r 0) (c : Int).toNat) + (sP D c 0))), (3, vL ((zsum (fun r => sP D r 8) (c : Int).toNat) + (sP D c 8))), (13, vI (c)), (0, .ref (gw_ad w 0)), (1, vI (snP D)), (2, vI (snN D)), (11, vL (0))]) (by decide) rfl dL_sums_81 ?_
          refine g_aload_n (pc := 83) hX 5 rfl dL_sums_83 ?_
          refine g_iload (pc := 84) hX 4 rfl dL_sums_84 ?_
          refine g_bipush (pc := 86) hX (by decide) dL_sums_86 ?_
          refine g_callD (pc := 88) (As := [vI (c), vI (10)]) (st2 := []) hX hA.N hA.e (q_open hA (p := c) (by omega) (by omega)) gL_sums_X6_parcel (n := 2) (hw := rfl) (hrc := rfl) (hrs := rfl) (hd := by decide +kernel) (hR := ⟨Nat.le_of_ble_eq_true rfl, Nat.le_of_ble_eq_true rfl⟩) (hn := rfl) (hst := rfl) (hsum := Nat.le_of_ble_eq_true rfl) (hdg := dL_sums_88) ?_
          rintro _ S9 ⟨rfl, e9⟩
          rw [e9]
          clear e9 S9
          refine g_at (pc2 := 91) rfl rfl (st2 := [vI (openZ D c)]) rfl (S2 := S) rfl ?_
          refine g_istore (pc := 91) hX (lv2 := [(14, vI (openZ D c)), (9, vL ((zsum (fun r => if sP D r 12 = 2 then 1 else 0) (c : Int).toNat) + 0)), (7, vL ((zsum (fun r => sP D r 6) (c : Int).toNat) + (sP D c 6))), (5, vL ((zsum (fun r => sP D r 0) (c : Int).toNat) + (sP D c 0))), (3, vL ((zsum (fun r => sP D r 8) (c : Int).toNat) + (sP D c 8))), (13, vI (c)), (0, .ref (gw_ad w 0)), (1, vI (snP D)), (2, vI (snN D)), (11, vL (0))]) (by decide) rfl dL_sums_91 ?_
          refine g_iload (pc := 93) hX 0 rfl dL_sums_93 ?_
          refine g_ldc (pc := 95) hX (z := -1000009) (List.mem_of_getElem? (i := 1) rfl) (by decide +kernel) dL_sums_95 ?_
          refine g_icmp_eq (pc := 97) (tgt := 122) hX (by first | assumption | exact inI_mk (by omega) (by omega)) (by first | assumption | exact inI_mk (by omega) (by omega)) dL_sums_97 (by decide) (fun c_97 => ?_) (fun c_97 => ?_)
          · skip
            refine g_aload_n (pc := 122) hX 6 rfl dL_sums_122 ?_
            refine g_iload (pc := 123) hX 5 rfl dL_sums_123 ?_
            refine g_callT1 (pc := 125) (As := [.ref (gw_ad w 0), vI (c)]) (st2 := []) hX (c_L_parcel hA (p := c) (by omega) (by omega)) gL_sums_L_parcel (n := 2) (hw := rfl) (hrc := rfl) (hrs := rfl) (hd := by decide +kernel) (hR := ⟨Nat.le_of_ble_eq_true rfl, Nat.le_of_ble_eq_true rfl⟩) (hn := rfl) (hst := rfl) (hsum := Nat.le_of_ble_eq_true rfl) (hdg := dL_sums_125) ?_
            rintro _ S9 ⟨rfl, e9⟩
            rw [e9]
            clear e9 S9
            refine g_at (pc2 := 128) rfl rfl (st2 := [vI (bz (true))]) rfl (S2 := S) rfl ?_
            refine g_bif_ne (pc := 128) (tgt := 133) hX dL_sums_128 (by decide) (fun c_128 => ?_) (fun c_128 => ?_)
            · skip
              refine g_iinc (pc := 133) hX (lv2 := [(13, vI (c + 1)), (14, vI (openZ D c)), (9, vL ((zsum (fun r => if sP D r 12 = 2 then 1 else 0) (c : Int).toNat) + 0)), (7, vL ((zsum (fun r => sP D r 6) (c : Int).toNat) + (sP D c 6))), (5, vL ((zsum (fun r => sP D r 0) (c : Int).toNat) + (sP D c 0))), (3, vL ((zsum (fun r => sP D r 8) (c : Int).toNat) + (sP D c 8))), (0, .ref (gw_ad w 0)), (1, vI (snP D)), (2, vI (snN D)), (11, vL (0))]) 5 rfl (by decide) rfl dL_sums_133 ?_
              refine g_goto (pc := 136) (tgt := 17) hX dL_sums_136 (by decide) ?_
              refine g_sub (lv2 := [(13, vI (c + 1)), (3, vL ((zsum (fun r => sP D r 8) (c : Int).toNat) + (sP D c 8))), (5, vL ((zsum (fun r => sP D r 0) (c : Int).toNat) + (sP D c 0))), (7, vL ((zsum (fun r => sP D r 6) (c : Int).toNat) + (sP D c 6))), (9, vL ((zsum (fun r => if sP D r 12 = 2 then 1 else 0) (c : Int).toNat) + 0)), (0, .ref (gw_ad w 0)), (1, vI (snP D)), (2, vI (snN D)), (11, vL (0))]) [0, 5, 4, 3, 2, 6, 7, 8, 9] rfl ?_
              refine g_at rfl (lv2 := [(13, vI (c + 1)), (3, vL (zsum (fun r => sP D r 8) (c + 1 : Int).toNat)), (5, vL (zsum (fun r => sP D r 0) (c + 1 : Int).toNat)), (7, vL (zsum (fun r => sP D r 6) (c + 1 : Int).toNat)), (9, vL (zsum (fun r => if sP D r 12 = 2 then 1 else 0) (c + 1 : Int).toNat)), (0, .ref (gw_ad w 0)), (1, vI (snP D)), (2, vI (snN D)), (11, vL (0))]) (by rw [zsum_s (fun r => sP D r 8) h1c, zsum_s (fun r => sP D r 0) h1c, zsum_s (fun r => sP D r 6) h1c, zsum_s (fun r => if sP D r 12 = 2 then 1 else 0) h1c, if_neg c_72]) rfl (S2 := S) (rfl) ?_
              exact ihl1 (c + 1)  (by omega) (by omega) (by omega) 
            · skip
              exact absurd c_128 (by decide)
          · skip
            have ho2 := ho.resolve_left c_97
            refine g_aload_n (pc := 100) hX 6 rfl dL_sums_100 ?_
            refine g_iload (pc := 101) hX 0 rfl dL_sums_101 ?_
            refine g_iconst (pc := 103) hX dL_sums_103 ?_
            refine g_callD (pc := 104) (As := [vI (openZ D c), vI (0)]) (st2 := []) hX hA.N hA.e (q_note hA (n := openZ D c) (x := 0) (by omega) (by omega) (by omega) (by omega)) gL_sums_X6_note (n := 2) (hw := rfl) (hrc := rfl) (hrs := rfl) (hd := by decide +kernel) (hR := ⟨Nat.le_of_ble_eq_true rfl, Nat.le_of_ble_eq_true rfl⟩) (hn := rfl) (hst := rfl) (hsum := Nat.le_of_ble_eq_true rfl) (hdg := dL_sums_104) ?_
            rintro _ S9 ⟨rfl, e9⟩
            rw [e9]
            clear e9 S9
            refine g_at (pc2 := 107) rfl rfl (st2 := [vI (sN D (openZ D c) 0)]) rfl (S2 := S) rfl ?_
            refine g_iload (pc := 107) hX 5 rfl dL_sums_107 ?_
            refine g_icmp_ne (pc := 109) (tgt := 131) hX (by first | assumption | exact inI_mk (by omega) (by omega)) (by first | assumption | exact inI_mk (by omega) (by omega)) dL_sums_109 (by decide) (fun c_109 => ?_) (fun c_109 => ?_)
            · skip
              exact absurd ho2.2.2.1 c_109
            · skip
              refine g_aload_n (pc := 112) hX 6 rfl dL_sums_112 ?_
              refine g_iload (pc := 113) hX 0 rfl dL_sums_113 ?_
              refine g_iconst (pc := 115) hX dL_sums_115 ?_
              refine g_callD (pc := 116) (As := [vI (openZ D c), vI (4)]) (st2 := []) hX hA.N hA.e (q_note hA (n := openZ D c) (x := 4) (by omega) (by omega) (by omega) (by omega)) gL_sums_X6_note (n := 2) (hw := rfl) (hrc := rfl) (hrs := rfl) (hd := by decide +kernel) (hR := ⟨Nat.le_of_ble_eq_true rfl, Nat.le_of_ble_eq_true rfl⟩) (hn := rfl) (hst := rfl) (hsum := Nat.le_of_ble_eq_true rfl) (hdg := dL_sums_116) ?_
              rintro _ S9 ⟨rfl, e9⟩
              rw [e9]
              clear e9 S9
              refine g_at (pc2 := 119) rfl rfl (st2 := [vI (sN D (openZ D c) 4)]) rfl (S2 := S) rfl ?_
              refine g_if_ne (pc := 119) (tgt := 131) hX (by first | assumption | exact inI_mk (by omega) (by omega)) dL_sums_119 (by decide) (fun c_119 => ?_) (fun c_119 => ?_)
              · skip
                exact absurd ho2.2.2.2 c_119
              · skip
                refine g_aload_n (pc := 122) hX 6 rfl dL_sums_122 ?_
                refine g_iload (pc := 123) hX 5 rfl dL_sums_123 ?_
                refine g_callT1 (pc := 125) (As := [.ref (gw_ad w 0), vI (c)]) (st2 := []) hX (c_L_parcel hA (p := c) (by omega) (by omega)) gL_sums_L_parcel (n := 2) (hw := rfl) (hrc := rfl) (hrs := rfl) (hd := by decide +kernel) (hR := ⟨Nat.le_of_ble_eq_true rfl, Nat.le_of_ble_eq_true rfl⟩) (hn := rfl) (hst := rfl) (hsum := Nat.le_of_ble_eq_true rfl) (hdg := dL_sums_125) ?_
                rintro _ S9 ⟨rfl, e9⟩
                rw [e9]
                clear e9 S9
                refine g_at (pc2 := 128) rfl rfl (st2 := [vI (bz (true))]) rfl (S2 := S) rfl ?_
                refine g_bif_ne (pc := 128) (tgt := 133) hX dL_sums_128 (by decide) (fun c_128 => ?_) (fun c_128 => ?_)
                · skip
                  refine g_iinc (pc := 133) hX (lv2 := [(13, vI (c + 1)), (14, vI (openZ D c)), (9, vL ((zsum (fun r => if sP D r 12 = 2 then 1 else 0) (c : Int).toNat) + 0)), (7, vL ((zsum (fun r => sP D r 6) (c : Int).toNat) + (sP D c 6))), (5, vL ((zsum (fun r => sP D r 0) (c : Int).toNat) + (sP D c 0))), (3, vL ((zsum (fun r => sP D r 8) (c : Int).toNat) + (sP D c 8))), (0, .ref (gw_ad w 0)), (1, vI (snP D)), (2, vI (snN D)), (11, vL (0))]) 5 rfl (by decide) rfl dL_sums_133 ?_
                  refine g_goto (pc := 136) (tgt := 17) hX dL_sums_136 (by decide) ?_
                  refine g_sub (lv2 := [(13, vI (c + 1)), (3, vL ((zsum (fun r => sP D r 8) (c : Int).toNat) + (sP D c 8))), (5, vL ((zsum (fun r => sP D r 0) (c : Int).toNat) + (sP D c 0))), (7, vL ((zsum (fun r => sP D r 6) (c : Int).toNat) + (sP D c 6))), (9, vL ((zsum (fun r => if sP D r 12 = 2 then 1 else 0) (c : Int).toNat) + 0)), (0, .ref (gw_ad w 0)), (1, vI (snP D)), (2, vI (snN D)), (11, vL (0))]) [0, 5, 4, 3, 2, 6, 7, 8, 9] rfl ?_
                  refine g_at rfl (lv2 := [(13, vI (c + 1)), (3, vL (zsum (fun r => sP D r 8) (c + 1 : Int).toNat)), (5, vL (zsum (fun r => sP D r 0) (c + 1 : Int).toNat)), (7, vL (zsum (fun r => sP D r 6) (c + 1 : Int).toNat)), (9, vL (zsum (fun r => if sP D r 12 = 2 then 1 else 0) (c + 1 : Int).toNat)), (0, .ref (gw_ad w 0)), (1, vI (snP D)), (2, vI (snN D)), (11, vL (0))]) (by rw [zsum_s (fun r => sP D r 8) h1c, zsum_s (fun r => sP D r 0) h1c, zsum_s (fun r => sP D r 6) h1c, zsum_s (fun r => if sP D r 12 = 2 then 1 else 0) h1c, if_neg c_72]) rfl (S2 := S) (rfl) ?_
                  exact ihl1 (c + 1)  (by omega) (by omega) (by omega) 
                · skip
                  exact absurd c_128 (by decide)
        · skip
          refine g_lconst (pc := 75) hX (z := 1) rfl dL_sums_75 ?_
          refine g_goto (pc := 76) (tgt := 80) hX dL_sums_76 (by decide) ?_
          refine g_ladd (pc := 80) hX dL_sums_80 ?_
          refine g_lstore (pc := 81) hX (lv2 := [(9, vL ((zsum (fun r => if sP D r 12 = 2 then 1 else 0) (c : Int).toNat) + 1)), (7, vL ((zsum (fun r => sP D r 6) (c : Int).toNat) + (sP D c 6))), (5, vL ((zsum (fun r => sP D r 0) (c : Int).toNat) + (sP D c 0))), (3, vL ((zsum (fun r => sP D r 8) (c : Int).toNat) + (sP D c 8))), (13, vI (c)), (0, .ref (gw_ad w 0)), (1, vI (snP D)), (2, vI (snN D)), (11, vL (0))]) (by decide) rfl dL_sums_81 ?_
          refine g_aload_n (pc := 83) hX 5 rfl dL_sums_83 ?_
          refine g_iload (pc := 84) hX 4 rfl dL_sums_84 ?_
          refine g_bipush (pc := 86) hX (by decide) dL_sums_86 ?_
          refine g_callD (pc := 88) (As := [vI (c), vI (10)]) (st2 := []) hX hA.N hA.e (q_open hA (p := c) (by omega) (by omega)) gL_sums_X6_parcel (n := 2) (hw := rfl) (hrc := rfl) (hrs := rfl) (hd := by decide +kernel) (hR := ⟨Nat.le_of_ble_eq_true rfl, Nat.le_of_ble_eq_true rfl⟩) (hn := rfl) (hst := rfl) (hsum := Nat.le_of_ble_eq_true rfl) (hdg := dL_sums_88) ?_
          rintro _ S9 ⟨rfl, e9⟩
          rw [e9]
          clear e9 S9
          refine g_at (pc2 := 91) rfl rfl (st2 := [vI (openZ D c)]) rfl (S2 := S) rfl ?_
          refine g_istore (pc := 91) hX (lv2 := [(14, vI (openZ D c)), (9, vL ((zsum (fun r => if sP D r 12 = 2 then 1 else 0) (c : Int).toNat) + 1)), (7, vL ((zsum (fun r => sP D r 6) (c : Int).toNat) + (sP D c 6))), (5, vL ((zsum (fun r => sP D r 0) (c : Int).toNat) + (sP D c 0))), (3, vL ((zsum (fun r => sP D r 8) (c : Int).toNat) + (sP D c 8))), (13, vI (c)), (0, .ref (gw_ad w 0)), (1, vI (snP D)), (2, vI (snN D)), (11, vL (0))]) (by decide) rfl dL_sums_91 ?_
          refine g_iload (pc := 93) hX 0 rfl dL_sums_93 ?_
          refine g_ldc (pc := 95) hX (z := -1000009) (List.mem_of_getElem? (i := 1) rfl) (by decide +kernel) dL_sums_95 ?_
          refine g_icmp_eq (pc := 97) (tgt := 122) hX (by first | assumption | exact inI_mk (by omega) (by omega)) (by first | assumption | exact inI_mk (by omega) (by omega)) dL_sums_97 (by decide) (fun c_97 => ?_) (fun c_97 => ?_)
          · skip
            refine g_aload_n (pc := 122) hX 6 rfl dL_sums_122 ?_
            refine g_iload (pc := 123) hX 5 rfl dL_sums_123 ?_
            refine g_callT1 (pc := 125) (As := [.ref (gw_ad w 0), vI (c)]) (st2 := []) hX (c_L_parcel hA (p := c) (by omega) (by omega)) gL_sums_L_parcel (n := 2) (hw := rfl) (hrc := rfl) (hrs := rfl) (hd := by decide +kernel) (hR := ⟨Nat.le_of_ble_eq_true rfl, Nat.le_of_ble_eq_true rfl⟩) (hn := rfl) (hst := rfl) (hsum := Nat.le_of_ble_eq_true rfl) (hdg := dL_sums_125) ?_
            rintro _ S9 ⟨rfl, e9⟩
            rw [e9]
            clear e9 S9
            refine g_at (pc2 := 128) rfl rfl (st2 := [vI (bz (true))]) rfl (S2 := S) rfl ?_
            refine g_bif_ne (pc := 128) (tgt := 133) hX dL_sums_128 (by decide) (fun c_128 => ?_) (fun c_128 => ?_)
            · skip
              refine g_iinc (pc := 133) hX (lv2 := [(13, vI (c + 1)), (14, vI (openZ D c)), (9, vL ((zsum (fun r => if sP D r 12 = 2 then 1 else 0) (c : Int).toNat) + 1)), (7, vL ((zsum (fun r => sP D r 6) (c : Int).toNat) + (sP D c 6))), (5, vL ((zsum (fun r => sP D r 0) (c : Int).toNat) + (sP D c 0))), (3, vL ((zsum (fun r => sP D r 8) (c : Int).toNat) + (sP D c 8))), (0, .ref (gw_ad w 0)), (1, vI (snP D)), (2, vI (snN D)), (11, vL (0))]) 5 rfl (by decide) rfl dL_sums_133 ?_
              refine g_goto (pc := 136) (tgt := 17) hX dL_sums_136 (by decide) ?_
              refine g_sub (lv2 := [(13, vI (c + 1)), (3, vL ((zsum (fun r => sP D r 8) (c : Int).toNat) + (sP D c 8))), (5, vL ((zsum (fun r => sP D r 0) (c : Int).toNat) + (sP D c 0))), (7, vL ((zsum (fun r => sP D r 6) (c : Int).toNat) + (sP D c 6))), (9, vL ((zsum (fun r => if sP D r 12 = 2 then 1 else 0) (c : Int).toNat) + 1)), (0, .ref (gw_ad w 0)), (1, vI (snP D)), (2, vI (snN D)), (11, vL (0))]) [0, 5, 4, 3, 2, 6, 7, 8, 9] rfl ?_
              refine g_at rfl (lv2 := [(13, vI (c + 1)), (3, vL (zsum (fun r => sP D r 8) (c + 1 : Int).toNat)), (5, vL (zsum (fun r => sP D r 0) (c + 1 : Int).toNat)), (7, vL (zsum (fun r => sP D r 6) (c + 1 : Int).toNat)), (9, vL (zsum (fun r => if sP D r 12 = 2 then 1 else 0) (c + 1 : Int).toNat)), (0, .ref (gw_ad w 0)), (1, vI (snP D)), (2, vI (snN D)), (11, vL (0))]) (by rw [zsum_s (fun r => sP D r 8) h1c, zsum_s (fun r => sP D r 0) h1c, zsum_s (fun r => sP D r 6) h1c, zsum_s (fun r => if sP D r 12 = 2 then 1 else 0) h1c, if_pos c_72]) rfl (S2 := S) (rfl) ?_
              exact ihl1 (c + 1)  (by omega) (by omega) (by omega) 
            · skip
              exact absurd c_128 (by decide)
          · skip
            have ho2 := ho.resolve_left c_97
            refine g_aload_n (pc := 100) hX 6 rfl dL_sums_100 ?_
            refine g_iload (pc := 101) hX 0 rfl dL_sums_101 ?_
            refine g_iconst (pc := 103) hX dL_sums_103 ?_
            refine g_callD (pc := 104) (As := [vI (openZ D c), vI (0)]) (st2 := []) hX hA.N hA.e (q_note hA (n := openZ D c) (x := 0) (by omega) (by omega) (by omega) (by omega)) gL_sums_X6_note (n := 2) (hw := rfl) (hrc := rfl) (hrs := rfl) (hd := by decide +kernel) (hR := ⟨Nat.le_of_ble_eq_true rfl, Nat.le_of_ble_eq_true rfl⟩) (hn := rfl) (hst := rfl) (hsum := Nat.le_of_ble_eq_true rfl) (hdg := dL_sums_104) ?_
            rintro _ S9 ⟨rfl, e9⟩
            rw [e9]
            clear e9 S9
            refine g_at (pc2 := 107) rfl rfl (st2 := [vI (sN D (openZ D c) 0)]) rfl (S2 := S) rfl ?_
            refine g_iload (pc := 107) hX 5 rfl dL_sums_107 ?_
            refine g_icmp_ne (pc := 109) (tgt := 131) hX (by first | assumption | exact inI_mk (by omega) (by omega)) (by first | assumption | exact inI_mk (by omega) (by omega)) dL_sums_109 (by decide) (fun c_109 => ?_) (fun c_109 => ?_)
            · skip
              exact absurd ho2.2.2.1 c_109
            · skip
              refine g_aload_n (pc := 112) hX 6 rfl dL_sums_112 ?_
              refine g_iload (pc := 113) hX 0 rfl dL_sums_113 ?_
              refine g_iconst (pc := 115) hX dL_sums_115 ?_
              refine g_callD (pc := 116) (As := [vI (openZ D c), vI (4)]) (st2 := []) hX hA.N hA.e (q_note hA (n := openZ D c) (x := 4) (by omega) (by omega) (by omega) (by omega)) gL_sums_X6_note (n := 2) (hw := rfl) (hrc := rfl) (hrs := rfl) (hd := by decide +kernel) (hR := ⟨Nat.le_of_ble_eq_true rfl, Nat.le_of_ble_eq_true rfl⟩) (hn := rfl) (hst := rfl) (hsum := Nat.le_of_ble_eq_true rfl) (hdg := dL_sums_116) ?_
              rintro _ S9 ⟨rfl, e9⟩
              rw [e9]
              clear e9 S9
              refine g_at (pc2 := 119) rfl rfl (st2 := [vI (sN D (openZ D c) 4)]) rfl (S2 := S) rfl ?_
              refine g_if_ne (pc := 119) (tgt := 131) hX (by first | assumption | exact inI_mk (by omega) (by omega)) dL_sums_119 (by decide) (fun c_119 => ?_) (fun c_119 => ?_)
              · skip
                exact absurd ho2.2.2.2 c_119
              · skip
                refine g_aload_n (pc := 122) hX 6 rfl dL_sums_122 ?_
                refine g_iload (pc := 123) hX 5 rfl dL_sums_123 ?_
                refine g_callT1 (pc := 125) (As := [.ref (gw_ad w 0), vI (c)]) (st2 := []) hX (c_L_parcel hA (p := c) (by omega) (by omega)) gL_sums_L_parcel (n := 2) (hw := rfl) (hrc := rfl) (hrs := rfl) (hd := by decide +kernel) (hR := ⟨Nat.le_of_ble_eq_true rfl, Nat.le_of_ble_eq_true rfl⟩) (hn := rfl) (hst := rfl) (hsum := Nat.le_of_ble_eq_true rfl) (hdg := dL_sums_125) ?_
                rintro _ S9 ⟨rfl, e9⟩
                rw [e9]
                clear e9 S9
                refine g_at (pc2 := 128) rfl rfl (st2 := [vI (bz (true))]) rfl (S2 := S) rfl ?_
                refine g_bif_ne (pc := 128) (tgt := 133) hX dL_sums_128 (by decide) (fun c_128 => ?_) (fun c_128 => ?_)
                · skip
                  refine g_iinc (pc := 133) hX (lv2 := [(13, vI (c + 1)), (14, vI (openZ D c)), (9, vL ((zsum (fun r => if sP D r 12 = 2 then 1 else 0) (c : Int).toNat) + 1)), (7, vL ((zsum (fun r => sP D r 6) (c : Int).toNat) + (sP D c 6))), (5, vL ((zsum (fun r => sP D r 0) (c : Int).toNat) + (sP D c 0))), (3, vL ((zsum (fun r => sP D r 8) (c : Int).toNat) + (sP D c 8))), (0, .ref (gw_ad w 0)), (1, vI (snP D)), (2, vI (snN D)), (11, vL (0))]) 5 rfl (by decide) rfl dL_sums_133 ?_
                  refine g_goto (pc := 136) (tgt := 17) hX dL_sums_136 (by decide) ?_
                  refine g_sub (lv2 := [(13, vI (c + 1)), (3, vL ((zsum (fun r => sP D r 8) (c : Int).toNat) + (sP D c 8))), (5, vL ((zsum (fun r => sP D r 0) (c : Int).toNat) + (sP D c 0))), (7, vL ((zsum (fun r => sP D r 6) (c : Int).toNat) + (sP D c 6))), (9, vL ((zsum (fun r => if sP D r 12 = 2 then 1 else 0) (c : Int).toNat) + 1)), (0, .ref (gw_ad w 0)), (1, vI (snP D)), (2, vI (snN D)), (11, vL (0))]) [0, 5, 4, 3, 2, 6, 7, 8, 9] rfl ?_
                  refine g_at rfl (lv2 := [(13, vI (c + 1)), (3, vL (zsum (fun r => sP D r 8) (c + 1 : Int).toNat)), (5, vL (zsum (fun r => sP D r 0) (c + 1 : Int).toNat)), (7, vL (zsum (fun r => sP D r 6) (c + 1 : Int).toNat)), (9, vL (zsum (fun r => if sP D r 12 = 2 then 1 else 0) (c + 1 : Int).toNat)), (0, .ref (gw_ad w 0)), (1, vI (snP D)), (2, vI (snN D)), (11, vL (0))]) (by rw [zsum_s (fun r => sP D r 8) h1c, zsum_s (fun r => sP D r 0) h1c, zsum_s (fun r => sP D r 6) h1c, zsum_s (fun r => if sP D r 12 = 2 then 1 else 0) h1c, if_pos c_72]) rfl (S2 := S) (rfl) ?_
                  exact ihl1 (c + 1)  (by omega) (by omega) (by omega) 
                · skip
                  exact absurd c_128 (by decide)
  refine g_sub (lv2 := [(13, vI (0)), (3, vL (0)), (5, vL (0)), (7, vL (0)), (9, vL (0)), (0, .ref (gw_ad w 0)), (1, vI (snP D)), (2, vI (snN D)), (11, vL (0))]) [0, 5, 4, 3, 2, 6, 7, 8, 1] rfl ?_
  refine g_at rfl (lv2 := [(13, vI (0)), (3, vL (zsum (fun r => sP D r 8) (0 : Int).toNat)), (5, vL (zsum (fun r => sP D r 0) (0 : Int).toNat)), (7, vL (zsum (fun r => sP D r 6) (0 : Int).toNat)), (9, vL (zsum (fun r => if sP D r 12 = 2 then 1 else 0) (0 : Int).toNat)), (0, .ref (gw_ad w 0)), (1, vI (snP D)), (2, vI (snN D)), (11, vL (0))]) (rfl) rfl (S2 := S) (rfl) ?_
  exact l1 (((snP D) : Int) - 0 + 1).toNat 0  (by omega) (by omega) (by omega) 

