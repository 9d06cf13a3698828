/-! ===== the reference: a parcel with another value ===== -/
def pkV (V : Int → Int) (p : Int) : Prop := (1 ≤ V (570 + 12 * p + 0) ∧ V (570 + 12 * p + 0) ≤ 100000) ∧ (1 ≤ V (570 + 12 * p + 1) ∧ V (570 + 12 * p + 1) ≤ 2000) ∧ (1 ≤ V (570 + 12 * p + 2) ∧ V (570 + 12 * p + 2) ≤ 2000) ∧ (1 ≤ V (570 + 12 * p + 3) ∧ V (570 + 12 * p + 3) ≤ 2000) ∧ 0 ≤ V (570 + 12 * p + 4) ∧ V (570 + 12 * p + 4) < 4
def wiV (V : Int → Int) (p x y i : Int) : Int := if x = i then y else V (570 + 12 * p + i)
def wiOK (x y : Int) : Prop := (x = 0 → 1 ≤ y ∧ y ≤ 100000) ∧ (x ≠ 0 → 1 ≤ y ∧ y ≤ 2000)
def wiW (V MK MM CH AM : Int → Int) (p x y : Int) : Int → Int := wkM V MK MM CH AM (wiV V p x y 0) (wiV V p x y 1) (wiV V p x y 2) (wiV V p x y 3) (V (570 + 12 * p + 4))

set_option maxHeartbeats 4000000 in
set_option maxRecDepth 100000 in
theorem c_X7_with0 {w : gW} {l : Launch} {S : Nat → va_E} {pm tm xm at_ wm wh : Int} {ir : Bool} {V PV TY TX MK MM CH AM WT WK FL PI : Int → Int} (hN : gw_N w = 105) (hm : modelAt w pm tm xm at_ wm wh ir V PV TY TX MK MM CH AM WT WK FL PI S) (hB : vBnd V) (hL : vLim V) (hv : mOK V) (hZ : vZon V) (hRm : RMK V MK MM CH AM) (h18 : 0 ≤ V 18 ∧ V 18 ≤ 8) (hpi0 : ∀ j, PI j = 0 ∨ PI j = 1) (hfl : ∀ j, inL (FL j)) {p val : Int} (hp : 0 ≤ p ∧ p < 30) (hk : pkV V p) (hvl : 1 ≤ val ∧ val ≤ 100000) (hc1 : 1 ≤ V (24 + 14 * V (570 + 12 * p + 4))) :
    GM1 w l yX7_with wsX7_with { frames := 3, cells := 0, slots := 0, locals := 86 } [.ref (gw_ad w 92), vI (p), vI (0), vL (val)] S
      (fun v S' => v = vL (wiW V MK MM CH AM p 0 val 8) ∧ ∃ WK' FL' PI' : Int → Int, (∀ j, inL (FL' j)) ∧ (∀ i, 0 ≤ i → i ≤ 11 → WK' i = wiW V MK MM CH AM p 0 val i) ∧ (∀ j, PI' j = 0 ∨ PI' j = 1) ∧ POSTM w S pm tm xm at_ wm wh ir V PV TY TX MK MM CH AM WT (WK') (FL') (PI') S') := by
  refine GM.start (own := RX7) (n := "with") (d := "(IIJ)J") (by decide) rfl (Nat.le_of_ble_eq_true rfl) ?_
  intro X hX hR hXl
  subst hXl
  refine g_at rfl (lv2 := [(0, .ref (gw_ad w 92)), (1, vI (p)), (2, vI (0)), (3, vL (val))]) rfl rfl rfl ?_
  obtain ⟨⟨m92, m93, m94⟩, ⟨m95, m96⟩, ⟨m97, m98, m99, m100, m101⟩, ⟨m102, m103, m104⟩⟩ := (id hm)
  have hr := hv.r
  have hrm := rawV_m hr
  have hrb := rawV_b hr
  obtain ⟨⟨⟨⟨f0a, f0b⟩, ⟨f1a, f1b⟩, ⟨f2a, f2b⟩, ⟨f3a, f3b⟩⟩, ⟨⟨f4a, f4b⟩, ⟨f5a, f5b⟩, ⟨f6a, f6b⟩, ⟨f7a, f7b⟩⟩⟩, ⟨⟨a8a, a8b⟩, ⟨a9a, a9b⟩, ⟨a10a, a10b⟩, ⟨a11a, a11b⟩, ⟨a12a, a12b⟩, ⟨a13a, a13b⟩⟩, ⟨⟨a14a, a14b⟩, ⟨a15a, a15b⟩, ⟨a16a, a16b⟩, ⟨a17a, a17b⟩⟩⟩ := id hv
  have hks := hk.1
  have hkz := hk.2.2.2.2
  have hvo := volZ_b hk.2.1 hk.2.2.1 hk.2.2.2.1
  have hbi := bil_9 (V := V) (real := val) (a := (V (570 + 12 * p + 1))) (b := (V (570 + 12 * p + 2))) (c := (V (570 + 12 * p + 3))) ⟨by omega, by omega⟩ ⟨by omega, by omega⟩ ⟨by omega, by omega⟩ ⟨by omega, by omega⟩
  refine g_iload_n (pc := 0) hX 2 rfl dX7_with_0 ?_
  refine g_if_ne (pc := 1) (tgt := 8) hX (by first | assumption | exact inI_mk (by omega) (by omega)) dX7_with_1 (by decide) (fun c_1 => ?_) (fun c_1 => ?_)
  · skip
    exact absurd c_1 (by omega)
  · skip
    refine g_lload_n (pc := 4) hX 3 rfl dX7_with_4 ?_
    refine g_goto (pc := 5) (tgt := 18) hX dX7_with_5 (by decide) ?_
    refine g_lstore (pc := 18) hX (lv2 := [(5, vL (val)), (0, .ref (gw_ad w 92)), (1, vI (p)), (2, vI (0)), (3, vL (val))]) (by decide) rfl dX7_with_18 ?_
    refine g_iload_n (pc := 20) hX 3 rfl dX7_with_20 ?_
    refine g_iconst (pc := 21) hX dX7_with_21 ?_
    refine g_icmp_ne (pc := 22) (tgt := 29) hX (by first | assumption | exact inI_mk (by omega) (by omega)) (by first | assumption | exact inI_mk (by omega) (by omega)) dX7_with_22 (by decide) (fun c_22 => ?_) (fun c_22 => ?_)
    · skip
      refine g_aload_n (pc := 29) hX 1 rfl dX7_with_29 ?_
      refine g_get (pc := 30) hX (ci := 7) (fun _ h => List.mem_cons_of_mem _ (List.mem_append_right _ h)) rfl 92 (by omega) m92 0 (by decide) (List.mem_of_getElem? (i := 1) rfl) rfl (v := .ref (gw_ad w 93)) rfl dX7_with_30 ?_
      refine g_iload_n (pc := 33) hX 2 rfl dX7_with_33 ?_
      refine g_iconst (pc := 34) hX dX7_with_34 ?_
      refine g_callT1 (pc := 35) (As := [vI (p), vI (1)]) (st2 := [.ref (gw_ad w 93)]) hX (c_X7_parcelAt (z := p) (k := 1)) gX7_with_X7_parcelAt (n := 2) (hw := rfl) (hrc := rfl) (hrs := rfl) (hd := by decide +kernel) (hR := ⟨Nat.le_of_ble_eq_true rfl, Nat.le_of_ble_eq_true rfl⟩) (hn := rfl) (hst := rfl) (hsum := Nat.le_of_ble_eq_true rfl) (hdg := dX7_with_35) ?_
      rintro _ S9 ⟨rfl, e9⟩
      rw [e9]
      clear e9 S9
      refine g_at (pc2 := 38) rfl rfl (st2 := [vI (570 + 12 * p + 1), .ref (gw_ad w 93)]) rfl (S2 := S) rfl ?_
      refine g_lald (pc := 38) hX 93 (by omega) m93 (by omega) (by omega) (by decide) dX7_with_38 ?_
      refine g_lstore (pc := 39) hX (lv2 := [(7, vL (V (570 + 12 * p + 1))), (5, vL (val)), (0, .ref (gw_ad w 92)), (1, vI (p)), (2, vI (0)), (3, vL (val))]) (by decide) rfl dX7_with_39 ?_
      refine g_iload_n (pc := 41) hX 4 rfl dX7_with_41 ?_
      refine g_iconst (pc := 42) hX dX7_with_42 ?_
      refine g_icmp_ne (pc := 43) (tgt := 50) hX (by first | assumption | exact inI_mk (by omega) (by omega)) (by first | assumption | exact inI_mk (by omega) (by omega)) dX7_with_43 (by decide) (fun c_43 => ?_) (fun c_43 => ?_)
      · skip
        refine g_aload_n (pc := 50) hX 2 rfl dX7_with_50 ?_
        refine g_get (pc := 51) hX (ci := 7) (fun _ h => List.mem_cons_of_mem _ (List.mem_append_right _ h)) rfl 92 (by omega) m92 0 (by decide) (List.mem_of_getElem? (i := 1) rfl) rfl (v := .ref (gw_ad w 93)) rfl dX7_with_51 ?_
        refine g_iload_n (pc := 54) hX 3 rfl dX7_with_54 ?_
        refine g_iconst (pc := 55) hX dX7_with_55 ?_
        refine g_callT1 (pc := 56) (As := [vI (p), vI (2)]) (st2 := [.ref (gw_ad w 93)]) hX (c_X7_parcelAt (z := p) (k := 2)) gX7_with_X7_parcelAt (n := 2) (hw := rfl) (hrc := rfl) (hrs := rfl) (hd := by decide +kernel) (hR := ⟨Nat.le_of_ble_eq_true rfl, Nat.le_of_ble_eq_true rfl⟩) (hn := rfl) (hst := rfl) (hsum := Nat.le_of_ble_eq_true rfl) (hdg := dX7_with_56) ?_
        rintro _ S9 ⟨rfl, e9⟩
        rw [e9]
        clear e9 S9
        refine g_at (pc2 := 59) rfl rfl (st2 := [vI (570 + 12 * p + 2), .ref (gw_ad w 93)]) rfl (S2 := S) rfl ?_
        refine g_lald (pc := 59) hX 93 (by omega) m93 (by omega) (by omega) (by decide) dX7_with_59 ?_
        refine g_lstore (pc := 60) hX (lv2 := [(9, vL (V (570 + 12 * p + 2))), (7, vL (V (570 + 12 * p + 1))), (5, vL (val)), (0, .ref (gw_ad w 92)), (1, vI (p)), (2, vI (0)), (3, vL (val))]) (by decide) rfl dX7_with_60 ?_
        refine g_iload_n (pc := 62) hX 5 rfl dX7_with_62 ?_
        refine g_iconst (pc := 63) hX dX7_with_63 ?_
        refine g_icmp_ne (pc := 64) (tgt := 71) hX (by first | assumption | exact inI_mk (by omega) (by omega)) (by first | assumption | exact inI_mk (by omega) (by omega)) dX7_with_64 (by decide) (fun c_64 => ?_) (fun c_64 => ?_)
        · skip
          refine g_aload_n (pc := 71) hX 3 rfl dX7_with_71 ?_
          refine g_get (pc := 72) hX (ci := 7) (fun _ h => List.mem_cons_of_mem _ (List.mem_append_right _ h)) rfl 92 (by omega) m92 0 (by decide) (List.mem_of_getElem? (i := 1) rfl) rfl (v := .ref (gw_ad w 93)) rfl dX7_with_72 ?_
          refine g_iload_n (pc := 75) hX 4 rfl dX7_with_75 ?_
          refine g_iconst (pc := 76) hX dX7_with_76 ?_
          refine g_callT1 (pc := 77) (As := [vI (p), vI (3)]) (st2 := [.ref (gw_ad w 93)]) hX (c_X7_parcelAt (z := p) (k := 3)) gX7_with_X7_parcelAt (n := 2) (hw := rfl) (hrc := rfl) (hrs := rfl) (hd := by decide +kernel) (hR := ⟨Nat.le_of_ble_eq_true rfl, Nat.le_of_ble_eq_true rfl⟩) (hn := rfl) (hst := rfl) (hsum := Nat.le_of_ble_eq_true rfl) (hdg := dX7_with_77) ?_
          rintro _ S9 ⟨rfl, e9⟩
          rw [e9]
          clear e9 S9
          refine g_at (pc2 := 80) rfl rfl (st2 := [vI (570 + 12 * p + 3), .ref (gw_ad w 93)]) rfl (S2 := S) rfl ?_
          refine g_lald (pc := 80) hX 93 (by omega) m93 (by omega) (by omega) (by decide) dX7_with_80 ?_
          refine g_lstore (pc := 81) hX (lv2 := [(11, vL (V (570 + 12 * p + 3))), (9, vL (V (570 + 12 * p + 2))), (7, vL (V (570 + 12 * p + 1))), (5, vL (val)), (0, .ref (gw_ad w 92)), (1, vI (p)), (2, vI (0)), (3, vL (val))]) (by decide) rfl dX7_with_81 ?_
          refine g_aload_n (pc := 83) hX 4 rfl dX7_with_83 ?_
          refine g_lload (pc := 84) hX 3 rfl dX7_with_84 ?_
          refine g_lload (pc := 86) hX 2 rfl dX7_with_86 ?_
          refine g_lload (pc := 88) hX 1 rfl dX7_with_88 ?_
          refine g_lload (pc := 90) hX 0 rfl dX7_with_90 ?_
          refine g_aload_n (pc := 92) hX 4 rfl dX7_with_92 ?_
          refine g_get (pc := 93) hX (ci := 7) (fun _ h => List.mem_cons_of_mem _ (List.mem_append_right _ h)) rfl 92 (by omega) m92 0 (by decide) (List.mem_of_getElem? (i := 1) rfl) rfl (v := .ref (gw_ad w 93)) rfl dX7_with_93 ?_
          refine g_iload_n (pc := 96) hX 5 rfl dX7_with_96 ?_
          refine g_iconst (pc := 97) hX dX7_with_97 ?_
          refine g_callT1w (pc := 98) (As := [vI (p), vI (4)]) (st2 := [.ref (gw_ad w 93), vL (V (570 + 12 * p + 3)), vL (V (570 + 12 * p + 2)), vL (V (570 + 12 * p + 1)), vL (val), .ref (gw_ad w 92)]) hX (c_X7_parcelAt (z := p) (k := 4)) gX7_with_X7_parcelAt (n := 2) (hw := rfl) (hrc := rfl) (hrs := rfl) (hd := by decide +kernel) (hR := ⟨Nat.le_of_ble_eq_true rfl, Nat.le_of_ble_eq_true rfl⟩) (hn := rfl) (hst := rfl) (hsum := Nat.le_of_ble_eq_true rfl) (hdg := dX7_with_98) ?_
          rintro _ S9 ⟨rfl, e9⟩
          rw [e9]
          clear e9 S9
          refine g_at (pc2 := 101) rfl rfl (st2 := [vI (570 + 12 * p + 4), .ref (gw_ad w 93), vL (V (570 + 12 * p + 3)), vL (V (570 + 12 * p + 2)), vL (V (570 + 12 * p + 1)), vL (val), .ref (gw_ad w 92)]) rfl (S2 := S) rfl ?_
          refine g_lald (pc := 101) hX 93 (by omega) m93 (by omega) (by omega) (by decide) dX7_with_101 ?_
          refine g_l2i (pc := 102) hX dX7_with_102 ?_
          refine g_callV1 (pc := 103) (ci := 7) (As := [vL (val), vL (V (570 + 12 * p + 1)), vL (V (570 + 12 * p + 2)), vL (V (570 + 12 * p + 3)), vI (V (570 + 12 * p + 4))]) (st2 := []) hX 92 (by omega) m92 rfl (c_X7_works hN hm hB hL hv hRm h18 hpi0 hfl (rl := val) (a := V (570 + 12 * p + 1)) (b := V (570 + 12 * p + 2)) (c := V (570 + 12 * p + 3)) (z := V (570 + 12 * p + 4)) hk.2.1 hk.2.2.1 hk.2.2.2.1 ⟨by omega, by omega⟩ hkz.1 hkz.2 hc1 (bzM_b hZ hkz.1 hkz.2 hc1 hbi)) gX7_with_X7_works (n := 5) (hw := rfl) (hrc := rfl) (hrs := rfl) (hd := by decide +kernel) (hR := ⟨Nat.le_of_ble_eq_true rfl, Nat.le_of_ble_eq_true rfl⟩) (hn := rfl) (hst := rfl) (hsum := Nat.le_of_ble_eq_true rfl) (hdg := dX7_with_103) ?_
          rintro _ S103 ⟨rfl, WK103, FL103, PI103, hfl103, hwk103, hpi103, hP103⟩
          obtain ⟨⟨m103_92, m103_93, m103_94⟩, ⟨m103_95, m103_96⟩, ⟨m103_97, m103_98, m103_99, m103_100, m103_101⟩, ⟨m103_102, m103_103, m103_104⟩⟩ := hP103.1
          refine g_at (pc2 := 106) rfl rfl (st2 := [vL (wkM V MK MM CH AM val (V (570 + 12 * p + 1)) (V (570 + 12 * p + 2)) (V (570 + 12 * p + 3)) (V (570 + 12 * p + 4)) 8)]) rfl (S2 := S103) rfl ?_
          refine g_lret (pc := 106) hX hR dX7_with_106 ?_
          exact ⟨rfl, _, _, _, hfl103, hwk103, hpi103, ⟨⟨⟨m103_92, m103_93, m103_94⟩, ⟨m103_95, m103_96⟩, ⟨m103_97, m103_98, m103_99, m103_100, m103_101⟩, ⟨m103_102, m103_103, m103_104⟩⟩, fun q hq => ((hP103.2 q hq).trans rfl)⟩⟩
        · skip
          exact absurd c_64 (by omega)
      · skip
        exact absurd c_43 (by omega)
    · skip
      exact absurd c_22 (by omega)

set_option maxHeartbeats 4000000 in
set_option maxRecDepth 100000 in
theorem c_X7_with1 {w : gW} {l : Launch} {S : Nat → va_E} {pm tm xm at_ wm wh : Int} {ir : Bool} {V PV TY TX MK MM CH AM WT WK FL PI : Int → Int} (hN : gw_N w = 105) (hm : modelAt w pm tm xm at_ wm wh ir V PV TY TX MK MM CH AM WT WK FL PI S) (hB : vBnd V) (hL : vLim V) (hv : mOK V) (hZ : vZon V) (hRm : RMK V MK MM CH AM) (h18 : 0 ≤ V 18 ∧ V 18 ≤ 8) (hpi0 : ∀ j, PI j = 0 ∨ PI j = 1) (hfl : ∀ j, inL (FL j)) {p val : Int} (hp : 0 ≤ p ∧ p < 30) (hk : pkV V p) (hvl : 1 ≤ val ∧ val ≤ 2000) (hc1 : 1 ≤ V (24 + 14 * V (570 + 12 * p + 4))) :
    GM1 w l yX7_with wsX7_with { frames := 3, cells := 0, slots := 0, locals := 86 } [.ref (gw_ad w 92), vI (p), vI (1), vL (val)] S
      (fun v S' => v = vL (wiW V MK MM CH AM p 1 val 8) ∧ ∃ WK' FL' PI' : Int → Int, (∀ j, inL (FL' j)) ∧ (∀ i, 0 ≤ i → i ≤ 11 → WK' i = wiW V MK MM CH AM p 1 val i) ∧ (∀ j, PI' j = 0 ∨ PI' j = 1) ∧ POSTM w S pm tm xm at_ wm wh ir V PV TY TX MK MM CH AM WT (WK') (FL') (PI') S') := by
  refine GM.start (own := RX7) (n := "with") (d := "(IIJ)J") (by decide) rfl (Nat.le_of_ble_eq_true rfl) ?_
  intro X hX hR hXl
  subst hXl
  refine g_at rfl (lv2 := [(0, .ref (gw_ad w 92)), (1, vI (p)), (2, vI (1)), (3, vL (val))]) rfl rfl rfl ?_
  obtain ⟨⟨m92, m93, m94⟩, ⟨m95, m96⟩, ⟨m97, m98, m99, m100, m101⟩, ⟨m102, m103, m104⟩⟩ := (id hm)
  have hr := hv.r
  have hrm := rawV_m hr
  have hrb := rawV_b hr
  obtain ⟨⟨⟨⟨f0a, f0b⟩, ⟨f1a, f1b⟩, ⟨f2a, f2b⟩, ⟨f3a, f3b⟩⟩, ⟨⟨f4a, f4b⟩, ⟨f5a, f5b⟩, ⟨f6a, f6b⟩, ⟨f7a, f7b⟩⟩⟩, ⟨⟨a8a, a8b⟩, ⟨a9a, a9b⟩, ⟨a10a, a10b⟩, ⟨a11a, a11b⟩, ⟨a12a, a12b⟩, ⟨a13a, a13b⟩⟩, ⟨⟨a14a, a14b⟩, ⟨a15a, a15b⟩, ⟨a16a, a16b⟩, ⟨a17a, a17b⟩⟩⟩ := id hv
  have hks := hk.1
  have hkz := hk.2.2.2.2
  have hvo := volZ_b hvl hk.2.2.1 hk.2.2.2.1
  have hbi := bil_9 (V := V) (real := (V (570 + 12 * p + 0))) (a := val) (b := (V (570 + 12 * p + 2))) (c := (V (570 + 12 * p + 3))) ⟨by omega, by omega⟩ ⟨by omega, by omega⟩ ⟨by omega, by omega⟩ ⟨by omega, by omega⟩
  refine g_iload_n (pc := 0) hX 2 rfl dX7_with_0 ?_
  refine g_if_ne (pc := 1) (tgt := 8) hX (by first | assumption | exact inI_mk (by omega) (by omega)) dX7_with_1 (by decide) (fun c_1 => ?_) (fun c_1 => ?_)
  · skip
    refine g_aload_n (pc := 8) hX 0 rfl dX7_with_8 ?_
    refine g_get (pc := 9) hX (ci := 7) (fun _ h => List.mem_cons_of_mem _ (List.mem_append_right _ h)) rfl 92 (by omega) m92 0 (by decide) (List.mem_of_getElem? (i := 1) rfl) rfl (v := .ref (gw_ad w 93)) rfl dX7_with_9 ?_
    refine g_iload_n (pc := 12) hX 1 rfl dX7_with_12 ?_
    refine g_iconst (pc := 13) hX dX7_with_13 ?_
    refine g_callT1 (pc := 14) (As := [vI (p), vI (0)]) (st2 := [.ref (gw_ad w 93)]) hX (c_X7_parcelAt (z := p) (k := 0)) gX7_with_X7_parcelAt (n := 2) (hw := rfl) (hrc := rfl) (hrs := rfl) (hd := by decide +kernel) (hR := ⟨Nat.le_of_ble_eq_true rfl, Nat.le_of_ble_eq_true rfl⟩) (hn := rfl) (hst := rfl) (hsum := Nat.le_of_ble_eq_true rfl) (hdg := dX7_with_14) ?_
    rintro _ S9 ⟨rfl, e9⟩
    rw [e9]
    clear e9 S9
    refine g_at (pc2 := 17) rfl rfl (st2 := [vI (570 + 12 * p + 0), .ref (gw_ad w 93)]) rfl (S2 := S) rfl ?_
    refine g_lald (pc := 17) hX 93 (by omega) m93 (by omega) (by omega) (by decide) dX7_with_17 ?_
    refine g_lstore (pc := 18) hX (lv2 := [(5, vL (V (570 + 12 * p + 0))), (0, .ref (gw_ad w 92)), (1, vI (p)), (2, vI (1)), (3, vL (val))]) (by decide) rfl dX7_with_18 ?_
    refine g_iload_n (pc := 20) hX 3 rfl dX7_with_20 ?_
    refine g_iconst (pc := 21) hX dX7_with_21 ?_
    refine g_icmp_ne (pc := 22) (tgt := 29) hX (by first | assumption | exact inI_mk (by omega) (by omega)) (by first | assumption | exact inI_mk (by omega) (by omega)) dX7_with_22 (by decide) (fun c_22 => ?_) (fun c_22 => ?_)
    · skip
      exact absurd c_22 (by omega)
    · skip
      refine g_lload_n (pc := 25) hX 4 rfl dX7_with_25 ?_
      refine g_goto (pc := 26) (tgt := 39) hX dX7_with_26 (by decide) ?_
      refine g_lstore (pc := 39) hX (lv2 := [(7, vL (val)), (5, vL (V (570 + 12 * p + 0))), (0, .ref (gw_ad w 92)), (1, vI (p)), (2, vI (1)), (3, vL (val))]) (by decide) rfl dX7_with_39 ?_
      refine g_iload_n (pc := 41) hX 4 rfl dX7_with_41 ?_
      refine g_iconst (pc := 42) hX dX7_with_42 ?_
      refine g_icmp_ne (pc := 43) (tgt := 50) hX (by first | assumption | exact inI_mk (by omega) (by omega)) (by first | assumption | exact inI_mk (by omega) (by omega)) dX7_with_43 (by decide) (fun c_43 => ?_) (fun c_43 => ?_)
      · skip
        refine g_aload_n (pc := 50) hX 2 rfl dX7_with_50 ?_
        refine g_get (pc := 51) hX (ci := 7) (fun _ h => List.mem_cons_of_mem _ (List.mem_append_right _ h)) rfl 92 (by omega) m92 0 (by decide) (List.mem_of_getElem? (i := 1) rfl) rfl (v := .ref (gw_ad w 93)) rfl dX7_with_51 ?_
        refine g_iload_n (pc := 54) hX 3 rfl dX7_with_54 ?_
        refine g_iconst (pc := 55) hX dX7_with_55 ?_
        refine g_callT1 (pc := 56) (As := [vI (p), vI (2)]) (st2 := [.ref (gw_ad w 93)]) hX (c_X7_parcelAt (z := p) (k := 2)) gX7_with_X7_parcelAt (n := 2) (hw := rfl) (hrc := rfl) (hrs := rfl) (hd := by decide +kernel) (hR := ⟨Nat.le_of_ble_eq_true rfl, Nat.le_of_ble_eq_true rfl⟩) (hn := rfl) (hst := rfl) (hsum := Nat.le_of_ble_eq_true rfl) (hdg := dX7_with_56) ?_
        rintro _ S9 ⟨rfl, e9⟩
        rw [e9]
        clear e9 S9
        refine g_at (pc2 := 59) rfl rfl (st2 := [vI (570 + 12 * p + 2), .ref (gw_ad w 93)]) rfl (S2 := S) rfl ?_
        refine g_lald (pc := 59) hX 93 (by omega) m93 (by omega) (by omega) (by decide) dX7_with_59 ?_
        refine g_lstore (pc := 60) hX (lv2 := [(9, vL (V (570 + 12 * p + 2))), (7, vL (val)), (5, vL (V (570 + 12 * p + 0))), (0, .ref (gw_ad w 92)), (1, vI (p)), (2, vI (1)), (3, vL (val))]) (by decide) rfl dX7_with_60 ?_
        refine g_iload_n (pc := 62) hX 5 rfl dX7_with_62 ?_
        refine g_iconst (pc := 63) hX dX7_with_63 ?_
        refine g_icmp_ne (pc := 64) (tgt := 71) hX (by first | assumption | exact inI_mk (by omega) (by omega)) (by first | assumption | exact inI_mk (by omega) (by omega)) dX7_with_64 (by decide) (fun c_64 => ?_) (fun c_64 => ?_)
        · skip
          refine g_aload_n (pc := 71) hX 3 rfl dX7_with_71 ?_
          refine g_get (pc := 72) hX (ci := 7) (fun _ h => List.mem_cons_of_mem _ (List.mem_append_right _ h)) rfl 92 (by omega) m92 0 (by decide) (List.mem_of_getElem? (i := 1) rfl) rfl (v := .ref (gw_ad w 93)) rfl dX7_with_72 ?_
          refine g_iload_n (pc := 75) hX 4 rfl dX7_with_75 ?_
          refine g_iconst (pc := 76) hX dX7_with_76 ?_
          refine g_callT1 (pc := 77) (As := [vI (p), vI (3)]) (st2 := [.ref (gw_ad w 93)]) hX (c_X7_parcelAt (z := p) (k := 3)) gX7_with_X7_parcelAt (n := 2) (hw := rfl) (hrc := rfl) (hrs := rfl) (hd := by decide +kernel) (hR := ⟨Nat.le_of_ble_eq_true rfl, Nat.le_of_ble_eq_true rfl⟩) (hn := rfl) (hst := rfl) (hsum := Nat.le_of_ble_eq_true rfl) (hdg := dX7_with_77) ?_
          rintro _ S9 ⟨rfl, e9⟩
          rw [e9]
          clear e9 S9
          refine g_at (pc2 := 80) rfl rfl (st2 := [vI (570 + 12 * p + 3), .ref (gw_ad w 93)]) rfl (S2 := S) rfl ?_
          refine g_lald (pc := 80) hX 93 (by omega) m93 (by omega) (by omega) (by decide) dX7_with_80 ?_
          refine g_lstore (pc := 81) hX (lv2 := [(11, vL (V (570 + 12 * p + 3))), (9, vL (V (570 + 12 * p + 2))), (7, vL (val)), (5, vL (V (570 + 12 * p + 0))), (0, .ref (gw_ad w 92)), (1, vI (p)), (2, vI (1)), (3, vL (val))]) (by decide) rfl dX7_with_81 ?_
          refine g_aload_n (pc := 83) hX 4 rfl dX7_with_83 ?_
          refine g_lload (pc := 84) hX 3 rfl dX7_with_84 ?_
          refine g_lload (pc := 86) hX 2 rfl dX7_with_86 ?_
          refine g_lload (pc := 88) hX 1 rfl dX7_with_88 ?_
          refine g_lload (pc := 90) hX 0 rfl dX7_with_90 ?_
          refine g_aload_n (pc := 92) hX 4 rfl dX7_with_92 ?_
          refine g_get (pc := 93) hX (ci := 7) (fun _ h => List.mem_cons_of_mem _ (List.mem_append_right _ h)) rfl 92 (by omega) m92 0 (by decide) (List.mem_of_getElem? (i := 1) rfl) rfl (v := .ref (gw_ad w 93)) rfl dX7_with_93 ?_
          refine g_iload_n (pc := 96) hX 5 rfl dX7_with_96 ?_
          refine g_iconst (pc := 97) hX dX7_with_97 ?_
          refine g_callT1w (pc := 98) (As := [vI (p), vI (4)]) (st2 := [.ref (gw_ad w 93), vL (V (570 + 12 * p + 3)), vL (V (570 + 12 * p + 2)), vL (val), vL (V (570 + 12 * p + 0)), .ref (gw_ad w 92)]) hX (c_X7_parcelAt (z := p) (k := 4)) gX7_with_X7_parcelAt (n := 2) (hw := rfl) (hrc := rfl) (hrs := rfl) (hd := by decide +kernel) (hR := ⟨Nat.le_of_ble_eq_true rfl, Nat.le_of_ble_eq_true rfl⟩) (hn := rfl) (hst := rfl) (hsum := Nat.le_of_ble_eq_true rfl) (hdg := dX7_with_98) ?_
          rintro _ S9 ⟨rfl, e9⟩
          rw [e9]
          clear e9 S9
          refine g_at (pc2 := 101) rfl rfl (st2 := [vI (570 + 12 * p + 4), .ref (gw_ad w 93), vL (V (570 + 12 * p + 3)), vL (V (570 + 12 * p + 2)), vL (val), vL (V (570 + 12 * p + 0)), .ref (gw_ad w 92)]) rfl (S2 := S) rfl ?_
          refine g_lald (pc := 101) hX 93 (by omega) m93 (by omega) (by omega) (by decide) dX7_with_101 ?_
          refine g_l2i (pc := 102) hX dX7_with_102 ?_
          refine g_callV1 (pc := 103) (ci := 7) (As := [vL (V (570 + 12 * p + 0)), vL (val), vL (V (570 + 12 * p + 2)), vL (V (570 + 12 * p + 3)), vI (V (570 + 12 * p + 4))]) (st2 := []) hX 92 (by omega) m92 rfl (c_X7_works hN hm hB hL hv hRm h18 hpi0 hfl (rl := V (570 + 12 * p + 0)) (a := val) (b := V (570 + 12 * p + 2)) (c := V (570 + 12 * p + 3)) (z := V (570 + 12 * p + 4)) hvl hk.2.2.1 hk.2.2.2.1 ⟨by omega, by omega⟩ hkz.1 hkz.2 hc1 (bzM_b hZ hkz.1 hkz.2 hc1 hbi)) gX7_with_X7_works (n := 5) (hw := rfl) (hrc := rfl) (hrs := rfl) (hd := by decide +kernel) (hR := ⟨Nat.le_of_ble_eq_true rfl, Nat.le_of_ble_eq_true rfl⟩) (hn := rfl) (hst := rfl) (hsum := Nat.le_of_ble_eq_true rfl) (hdg := dX7_with_103) ?_
          rintro _ S103 ⟨rfl, WK103, FL103, PI103, hfl103, hwk103, hpi103, hP103⟩
          obtain ⟨⟨m103_92, m103_93, m103_94⟩, ⟨m103_95, m103_96⟩, ⟨m103_97, m103_98, m103_99, m103_100, m103_101⟩, ⟨m103_102, m103_103, m103_104⟩⟩ := hP103.1
          refine g_at (pc2 := 106) rfl rfl (st2 := [vL (wkM V MK MM CH AM (V (570 + 12 * p + 0)) val (V (570 + 12 * p + 2)) (V (570 + 12 * p + 3)) (V (570 + 12 * p + 4)) 8)]) rfl (S2 := S103) rfl ?_
          refine g_lret (pc := 106) hX hR dX7_with_106 ?_
          exact ⟨rfl, _, _, _, hfl103, hwk103, hpi103, ⟨⟨⟨m103_92, m103_93, m103_94⟩, ⟨m103_95, m103_96⟩, ⟨m103_97, m103_98, m103_99, m103_100, m103_101⟩, ⟨m103_102, m103_103, m103_104⟩⟩, fun q hq => ((hP103.2 q hq).trans rfl)⟩⟩
        · skip
          exact absurd c_64 (by omega)
      · skip
        exact absurd c_43 (by omega)
  · skip
    exact absurd c_1 (by omega)

set_option maxHeartbeats 4000000 in
set_option maxRecDepth 100000 in
theorem c_X7_with2 {w : gW} {l : Launch} {S : Nat → va_E} {pm tm xm at_ wm wh : Int} {ir : Bool} {V PV TY TX MK MM CH AM WT WK FL PI : Int → Int} (hN : gw_N w = 105) (hm : modelAt w pm tm xm at_ wm wh ir V PV TY TX MK MM CH AM WT WK FL PI S) (hB : vBnd V) (hL : vLim V) (hv : mOK V) (hZ : vZon V) (hRm : RMK V MK MM CH AM) (h18 : 0 ≤ V 18 ∧ V 18 ≤ 8) (hpi0 : ∀ j, PI j = 0 ∨ PI j = 1) (hfl : ∀ j, inL (FL j)) {p val : Int} (hp : 0 ≤ p ∧ p < 30) (hk : pkV V p) (hvl : 1 ≤ val ∧ val ≤ 2000) (hc1 : 1 ≤ V (24 + 14 * V (570 + 12 * p + 4))) :
    GM1 w l yX7_with wsX7_with { frames := 3, cells := 0, slots := 0, locals := 86 } [.ref (gw_ad w 92), vI (p), vI (2), vL (val)] S
      (fun v S' => v = vL (wiW V MK MM CH AM p 2 val 8) ∧ ∃ WK' FL' PI' : Int → Int, (∀ j, inL (FL' j)) ∧ (∀ i, 0 ≤ i → i ≤ 11 → WK' i = wiW V MK MM CH AM p 2 val i) ∧ (∀ j, PI' j = 0 ∨ PI' j = 1) ∧ POSTM w S pm tm xm at_ wm wh ir V PV TY TX MK MM CH AM WT (WK') (FL') (PI') S') := by
  refine GM.start (own := RX7) (n := "with") (d := "(IIJ)J") (by decide) rfl (Nat.le_of_ble_eq_true rfl) ?_
  intro X hX hR hXl
  subst hXl
  refine g_at rfl (lv2 := [(0, .ref (gw_ad w 92)), (1, vI (p)), (2, vI (2)), (3, vL (val))]) rfl rfl rfl ?_
  obtain ⟨⟨m92, m93, m94⟩, ⟨m95, m96⟩, ⟨m97, m98, m99, m100, m101⟩, ⟨m102, m103, m104⟩⟩ := (id hm)
  have hr := hv.r
  have hrm := rawV_m hr
  have hrb := rawV_b hr
  obtain ⟨⟨⟨⟨f0a, f0b⟩, ⟨f1a, f1b⟩, ⟨f2a, f2b⟩, ⟨f3a, f3b⟩⟩, ⟨⟨f4a, f4b⟩, ⟨f5a, f5b⟩, ⟨f6a, f6b⟩, ⟨f7a, f7b⟩⟩⟩, ⟨⟨a8a, a8b⟩, ⟨a9a, a9b⟩, ⟨a10a, a10b⟩, ⟨a11a, a11b⟩, ⟨a12a, a12b⟩, ⟨a13a, a13b⟩⟩, ⟨⟨a14a, a14b⟩, ⟨a15a, a15b⟩, ⟨a16a, a16b⟩, ⟨a17a, a17b⟩⟩⟩ := id hv
  have hks := hk.1
  have hkz := hk.2.2.2.2
  have hvo := volZ_b hk.2.1 hvl hk.2.2.2.1
  have hbi := bil_9 (V := V) (real := (V (570 + 12 * p + 0))) (a := (V (570 + 12 * p + 1))) (b := val) (c := (V (570 + 12 * p + 3))) ⟨by omega, by omega⟩ ⟨by omega, by omega⟩ ⟨by omega, by omega⟩ ⟨by omega, by omega⟩
  refine g_iload_n (pc := 0) hX 2 rfl dX7_with_0 ?_
  refine g_if_ne (pc := 1) (tgt := 8) hX (by first | assumption | exact inI_mk (by omega) (by omega)) dX7_with_1 (by decide) (fun c_1 => ?_) (fun c_1 => ?_)
  · skip
    refine g_aload_n (pc := 8) hX 0 rfl dX7_with_8 ?_
    refine g_get (pc := 9) hX (ci := 7) (fun _ h => List.mem_cons_of_mem _ (List.mem_append_right _ h)) rfl 92 (by omega) m92 0 (by decide) (List.mem_of_getElem? (i := 1) rfl) rfl (v := .ref (gw_ad w 93)) rfl dX7_with_9 ?_
    refine g_iload_n (pc := 12) hX 1 rfl dX7_with_12 ?_
    refine g_iconst (pc := 13) hX dX7_with_13 ?_
    refine g_callT1 (pc := 14) (As := [vI (p), vI (0)]) (st2 := [.ref (gw_ad w 93)]) hX (c_X7_parcelAt (z := p) (k := 0)) gX7_with_X7_parcelAt (n := 2) (hw := rfl) (hrc := rfl) (hrs := rfl) (hd := by decide +kernel) (hR := ⟨Nat.le_of_ble_eq_true rfl, Nat.le_of_ble_eq_true rfl⟩) (hn := rfl) (hst := rfl) (hsum := Nat.le_of_ble_eq_true rfl) (hdg := dX7_with_14) ?_
    rintro _ S9 ⟨rfl, e9⟩
    rw [e9]
    clear e9 S9
    refine g_at (pc2 := 17) rfl rfl (st2 := [vI (570 + 12 * p + 0), .ref (gw_ad w 93)]) rfl (S2 := S) rfl ?_
    refine g_lald (pc := 17) hX 93 (by omega) m93 (by omega) (by omega) (by decide) dX7_with_17 ?_
    refine g_lstore (pc := 18) hX (lv2 := [(5, vL (V (570 + 12 * p + 0))), (0, .ref (gw_ad w 92)), (1, vI (p)), (2, vI (2)), (3, vL (val))]) (by decide) rfl dX7_with_18 ?_
    refine g_iload_n (pc := 20) hX 3 rfl dX7_with_20 ?_
    refine g_iconst (pc := 21) hX dX7_with_21 ?_
    refine g_icmp_ne (pc := 22) (tgt := 29) hX (by first | assumption | exact inI_mk (by omega) (by omega)) (by first | assumption | exact inI_mk (by omega) (by omega)) dX7_with_22 (by decide) (fun c_22 => ?_) (fun c_22 => ?_)
    · skip
      refine g_aload_n (pc := 29) hX 1 rfl dX7_with_29 ?_
      refine g_get (pc := 30) hX (ci := 7) (fun _ h => List.mem_cons_of_mem _ (List.mem_append_right _ h)) rfl 92 (by omega) m92 0 (by decide) (List.mem_of_getElem? (i := 1) rfl) rfl (v := .ref (gw_ad w 93)) rfl dX7_with_30 ?_
      refine g_iload_n (pc := 33) hX 2 rfl dX7_with_33 ?_
      refine g_iconst (pc := 34) hX dX7_with_34 ?_
      refine g_callT1 (pc := 35) (As := [vI (p), vI (1)]) (st2 := [.ref (gw_ad w 93)]) hX (c_X7_parcelAt (z := p) (k := 1)) gX7_with_X7_parcelAt (n := 2) (hw := rfl) (hrc := rfl) (hrs := rfl) (hd := by decide +kernel) (hR := ⟨Nat.le_of_ble_eq_true rfl, Nat.le_of_ble_eq_true rfl⟩) (hn := rfl) (hst := rfl) (hsum := Nat.le_of_ble_eq_true rfl) (hdg := dX7_with_35) ?_
      rintro _ S9 ⟨rfl, e9⟩
      rw [e9]
      clear e9 S9
      refine g_at (pc2 := 38) rfl rfl (st2 := [vI (570 + 12 * p + 1), .ref (gw_ad w 93)]) rfl (S2 := S) rfl ?_
      refine g_lald (pc := 38) hX 93 (by omega) m93 (by omega) (by omega) (by decide) dX7_with_38 ?_
      refine g_lstore (pc := 39) hX (lv2 := [(7, vL (V (570 + 12 * p + 1))), (5, vL (V (570 + 12 * p + 0))), (0, .ref (gw_ad w 92)), (1, vI (p)), (2, vI (2)), (3, vL (val))]) (by decide) rfl dX7_with_39 ?_
      refine g_iload_n (pc := 41) hX 4 rfl dX7_with_41 ?_
      refine g_iconst (pc := 42) hX dX7_with_42 ?_
      refine g_icmp_ne (pc := 43) (tgt := 50) hX (by first | assumption | exact inI_mk (by omega) (by omega)) (by first | assumption | exact inI_mk (by omega) (by omega)) dX7_with_43 (by decide) (fun c_43 => ?_) (fun c_43 => ?_)
      · skip
        exact absurd c_43 (by omega)
      · skip
        refine g_lload_n (pc := 46) hX 5 rfl dX7_with_46 ?_
        refine g_goto (pc := 47) (tgt := 60) hX dX7_with_47 (by decide) ?_
        refine g_lstore (pc := 60) hX (lv2 := [(9, vL (val)), (7, vL (V (570 + 12 * p + 1))), (5, vL (V (570 + 12 * p + 0))), (0, .ref (gw_ad w 92)), (1, vI (p)), (2, vI (2)), (3, vL (val))]) (by decide) rfl dX7_with_60 ?_
        refine g_iload_n (pc := 62) hX 5 rfl dX7_with_62 ?_
        refine g_iconst (pc := 63) hX dX7_with_63 ?_
        refine g_icmp_ne (pc := 64) (tgt := 71) hX (by first | assumption | exact inI_mk (by omega) (by omega)) (by first | assumption | exact inI_mk (by omega) (by omega)) dX7_with_64 (by decide) (fun c_64 => ?_) (fun c_64 => ?_)
        · skip
          refine g_aload_n (pc := 71) hX 3 rfl dX7_with_71 ?_
          refine g_get (pc := 72) hX (ci := 7) (fun _ h => List.mem_cons_of_mem _ (List.mem_append_right _ h)) rfl 92 (by omega) m92 0 (by decide) (List.mem_of_getElem? (i := 1) rfl) rfl (v := .ref (gw_ad w 93)) rfl dX7_with_72 ?_
          refine g_iload_n (pc := 75) hX 4 rfl dX7_with_75 ?_
          refine g_iconst (pc := 76) hX dX7_with_76 ?_
          refine g_callT1 (pc := 77) (As := [vI (p), vI (3)]) (st2 := [.ref (gw_ad w 93)]) hX (c_X7_parcelAt (z := p) (k := 3)) gX7_with_X7_parcelAt (n := 2) (hw := rfl) (hrc := rfl) (hrs := rfl) (hd := by decide +kernel) (hR := ⟨Nat.le_of_ble_eq_true rfl, Nat.le_of_ble_eq_true rfl⟩) (hn := rfl) (hst := rfl) (hsum := Nat.le_of_ble_eq_true rfl) (hdg := dX7_with_77) ?_
          rintro _ S9 ⟨rfl, e9⟩
          rw [e9]
          clear e9 S9
          refine g_at (pc2 := 80) rfl rfl (st2 := [vI (570 + 12 * p + 3), .ref (gw_ad w 93)]) rfl (S2 := S) rfl ?_
          refine g_lald (pc := 80) hX 93 (by omega) m93 (by omega) (by omega) (by decide) dX7_with_80 ?_
          refine g_lstore (pc := 81) hX (lv2 := [(11, vL (V (570 + 12 * p + 3))), (9, vL (val)), (7, vL (V (570 + 12 * p + 1))), (5, vL (V (570 + 12 * p + 0))), (0, .ref (gw_ad w 92)), (1, vI (p)), (2, vI (2)), (3, vL (val))]) (by decide) rfl dX7_with_81 ?_
          refine g_aload_n (pc := 83) hX 4 rfl dX7_with_83 ?_
          refine g_lload (pc := 84) hX 3 rfl dX7_with_84 ?_
          refine g_lload (pc := 86) hX 2 rfl dX7_with_86 ?_
          refine g_lload (pc := 88) hX 1 rfl dX7_with_88 ?_
          refine g_lload (pc := 90) hX 0 rfl dX7_with_90 ?_
          refine g_aload_n (pc := 92) hX 4 rfl dX7_with_92 ?_
          refine g_get (pc := 93) hX (ci := 7) (fun _ h => List.mem_cons_of_mem _ (List.mem_append_right _ h)) rfl 92 (by omega) m92 0 (by decide) (List.mem_of_getElem? (i := 1) rfl) rfl (v := .ref (gw_ad w 93)) rfl dX7_with_93 ?_
          refine g_iload_n (pc := 96) hX 5 rfl dX7_with_96 ?_
          refine g_iconst (pc := 97) hX dX7_with_97 ?_
          refine g_callT1w (pc := 98) (As := [vI (p), vI (4)]) (st2 := [.ref (gw_ad w 93), vL (V (570 + 12 * p + 3)), vL (val), vL (V (570 + 12 * p + 1)), vL (V (570 + 12 * p + 0)), .ref (gw_ad w 92)]) hX (c_X7_parcelAt (z := p) (k := 4)) gX7_with_X7_parcelAt (n := 2) (hw := rfl) (hrc := rfl) (hrs := rfl) (hd := by decide +kernel) (hR := ⟨Nat.le_of_ble_eq_true rfl, Nat.le_of_ble_eq_true rfl⟩) (hn := rfl) (hst := rfl) (hsum := Nat.le_of_ble_eq_true rfl) (hdg := dX7_with_98) ?_
          rintro _ S9 ⟨rfl, e9⟩
          rw [e9]
          clear e9 S9
          refine g_at (pc2 := 101) rfl rfl (st2 := [vI (570 + 12 * p + 4), .ref (gw_ad w 93), vL (V (570 + 12 * p + 3)), vL (val), vL (V (570 + 12 * p + 1)), vL (V (570 + 12 * p + 0)), .ref (gw_ad w 92)]) rfl (S2 := S) rfl ?_
          refine g_lald (pc := 101) hX 93 (by omega) m93 (by omega) (by omega) (by decide) dX7_with_101 ?_
          refine g_l2i (pc := 102) hX dX7_with_102 ?_
          refine g_callV1 (pc := 103) (ci := 7) (As := [vL (V (570 + 12 * p + 0)), vL (V (570 + 12 * p + 1)), vL (val), vL (V (570 + 12 * p + 3)), vI (V (570 + 12 * p + 4))]) (st2 := []) hX 92 (by omega) m92 rfl (c_X7_works hN hm hB hL hv hRm h18 hpi0 hfl (rl := V (570 + 12 * p + 0)) (a := V (570 + 12 * p + 1)) (b := val) (c := V (570 + 12 * p + 3)) (z := V (570 + 12 * p + 4)) hk.2.1 hvl hk.2.2.2.1 ⟨by omega, by omega⟩ hkz.1 hkz.2 hc1 (bzM_b hZ hkz.1 hkz.2 hc1 hbi)) gX7_with_X7_works (n := 5) (hw := rfl) (hrc := rfl) (hrs := rfl) (hd := by decide +kernel) (hR := ⟨Nat.le_of_ble_eq_true rfl, Nat.le_of_ble_eq_true rfl⟩) (hn := rfl) (hst := rfl) (hsum := Nat.le_of_ble_eq_true rfl) (hdg := dX7_with_103) ?_
          rintro _ S103 ⟨rfl, WK103, FL103, PI103, hfl103, hwk103, hpi103, hP103⟩
          obtain ⟨⟨m103_92, m103_93, m103_94⟩, ⟨m103_95, m103_96⟩, ⟨m103_97, m103_98, m103_99, m103_100, m103_101⟩, ⟨m103_102, m103_103, m103_104⟩⟩ := hP103.1
          refine g_at (pc2 := 106) rfl rfl (st2 := [vL (wkM V MK MM CH AM (V (570 + 12 * p + 0)) (V (570 + 12 * p + 1)) val (V (570 + 12 * p + 3)) (V (570 + 12 * p + 4)) 8)]) rfl (S2 := S103) rfl ?_
          refine g_lret (pc := 106) hX hR dX7_with_106 ?_
          exact ⟨rfl, _, _, _, hfl103, hwk103, hpi103, ⟨⟨⟨m103_92, m103_93, m103_94⟩, ⟨m103_95, m103_96⟩, ⟨m103_97, m103_98, m103_99, m103_100, m103_101⟩, ⟨m103_102, m103_103, m103_104⟩⟩, fun q hq => ((hP103.2 q hq).trans rfl)⟩⟩
        · skip
          exact absurd c_64 (by omega)
    · skip
      exact absurd c_22 (by omega)
  · skip
    exact absurd c_1 (by omega)

set_option maxHeartbeats 4000000 in
set_option maxRecDepth 100000 in
theorem c_X7_with3 {w : gW} {l : Launch} {S : Nat → va_E} {pm tm xm at_ wm wh : Int} {ir : Bool} {V PV TY TX MK MM CH AM WT WK FL PI : Int → Int} (hN : gw_N w = 105) (hm : modelAt w pm tm xm at_ wm wh ir V PV TY TX MK MM CH AM WT WK FL PI S) (hB : vBnd V) (hL : vLim V) (hv : mOK V) (hZ : vZon V) (hRm : RMK V MK MM CH AM) (h18 : 0 ≤ V 18 ∧ V 18 ≤ 8) (hpi0 : ∀ j, PI j = 0 ∨ PI j = 1) (hfl : ∀ j, inL (FL j)) {p val : Int} (hp : 0 ≤ p ∧ p < 30) (hk : pkV V p) (hvl : 1 ≤ val ∧ val ≤ 2000) (hc1 : 1 ≤ V (24 + 14 * V (570 + 12 * p + 4))) :
    GM1 w l yX7_with wsX7_with { frames := 3, cells := 0, slots := 0, locals := 86 } [.ref (gw_ad w 92), vI (p), vI (3), vL (val)] S
      (fun v S' => v = vL (wiW V MK MM CH AM p 3 val 8) ∧ ∃ WK' FL' PI' : Int → Int, (∀ j, inL (FL' j)) ∧ (∀ i, 0 ≤ i → i ≤ 11 → WK' i = wiW V MK MM CH AM p 3 val i) ∧ (∀ j, PI' j = 0 ∨ PI' j = 1) ∧ POSTM w S pm tm xm at_ wm wh ir V PV TY TX MK MM CH AM WT (WK') (FL') (PI') S') := by
  refine GM.start (own := RX7) (n := "with") (d := "(IIJ)J") (by decide) rfl (Nat.le_of_ble_eq_true rfl) ?_
  intro X hX hR hXl
  subst hXl
  refine g_at rfl (lv2 := [(0, .ref (gw_ad w 92)), (1, vI (p)), (2, vI (3)), (3, vL (val))]) rfl rfl rfl ?_
  obtain ⟨⟨m92, m93, m94⟩, ⟨m95, m96⟩, ⟨m97, m98, m99, m100, m101⟩, ⟨m102, m103, m104⟩⟩ := (id hm)
  have hr := hv.r
  have hrm := rawV_m hr
  have hrb := rawV_b hr
  obtain ⟨⟨⟨⟨f0a, f0b⟩, ⟨f1a, f1b⟩, ⟨f2a, f2b⟩, ⟨f3a, f3b⟩⟩, ⟨⟨f4a, f4b⟩, ⟨f5a, f5b⟩, ⟨f6a, f6b⟩, ⟨f7a, f7b⟩⟩⟩, ⟨⟨a8a, a8b⟩, ⟨a9a, a9b⟩, ⟨a10a, a10b⟩, ⟨a11a, a11b⟩, ⟨a12a, a12b⟩, ⟨a13a, a13b⟩⟩, ⟨⟨a14a, a14b⟩, ⟨a15a, a15b⟩, ⟨a16a, a16b⟩, ⟨a17a, a17b⟩⟩⟩ := id hv
  have hks := hk.1
  have hkz := hk.2.2.2.2
  have hvo := volZ_b hk.2.1 hk.2.2.1 hvl
  have hbi := bil_9 (V := V) (real := (V (570 + 12 * p + 0))) (a := (V (570 + 12 * p + 1))) (b := (V (570 + 12 * p + 2))) (c := val) ⟨by omega, by omega⟩ ⟨by omega, by omega⟩ ⟨by omega, by omega⟩ ⟨by omega, by omega⟩
  refine g_iload_n (pc := 0) hX 2 rfl dX7_with_0 ?_
  refine g_if_ne (pc := 1) (tgt := 8) hX (by first | assumption | exact inI_mk (by omega) (by omega)) dX7_with_1 (by decide) (fun c_1 => ?_) (fun c_1 => ?_)
  · skip
    refine g_aload_n (pc := 8) hX 0 rfl dX7_with_8 ?_
    refine g_get (pc := 9) hX (ci := 7) (fun _ h => List.mem_cons_of_mem _ (List.mem_append_right _ h)) rfl 92 (by omega) m92 0 (by decide) (List.mem_of_getElem? (i := 1) rfl) rfl (v := .ref (gw_ad w 93)) rfl dX7_with_9 ?_
    refine g_iload_n (pc := 12) hX 1 rfl dX7_with_12 ?_
    refine g_iconst (pc := 13) hX dX7_with_13 ?_
    refine g_callT1 (pc := 14) (As := [vI (p), vI (0)]) (st2 := [.ref (gw_ad w 93)]) hX (c_X7_parcelAt (z := p) (k := 0)) gX7_with_X7_parcelAt (n := 2) (hw := rfl) (hrc := rfl) (hrs := rfl) (hd := by decide +kernel) (hR := ⟨Nat.le_of_ble_eq_true rfl, Nat.le_of_ble_eq_true rfl⟩) (hn := rfl) (hst := rfl) (hsum := Nat.le_of_ble_eq_true rfl) (hdg := dX7_with_14) ?_
    rintro _ S9 ⟨rfl, e9⟩
    rw [e9]
    clear e9 S9
    refine g_at (pc2 := 17) rfl rfl (st2 := [vI (570 + 12 * p + 0), .ref (gw_ad w 93)]) rfl (S2 := S) rfl ?_
    refine g_lald (pc := 17) hX 93 (by omega) m93 (by omega) (by omega) (by decide) dX7_with_17 ?_
    refine g_lstore (pc := 18) hX (lv2 := [(5, vL (V (570 + 12 * p + 0))), (0, .ref (gw_ad w 92)), (1, vI (p)), (2, vI (3)), (3, vL (val))]) (by decide) rfl dX7_with_18 ?_
    refine g_iload_n (pc := 20) hX 3 rfl dX7_with_20 ?_
    refine g_iconst (pc := 21) hX dX7_with_21 ?_
    refine g_icmp_ne (pc := 22) (tgt := 29) hX (by first | assumption | exact inI_mk (by omega) (by omega)) (by first | assumption | exact inI_mk (by omega) (by omega)) dX7_with_22 (by decide) (fun c_22 => ?_) (fun c_22 => ?_)
    · skip
      refine g_aload_n (pc := 29) hX 1 rfl dX7_with_29 ?_
      refine g_get (pc := 30) hX (ci := 7) (fun _ h => List.mem_cons_of_mem _ (List.mem_append_right _ h)) rfl 92 (by omega) m92 0 (by decide) (List.mem_of_getElem? (i := 1) rfl) rfl (v := .ref (gw_ad w 93)) rfl dX7_with_30 ?_
      refine g_iload_n (pc := 33) hX 2 rfl dX7_with_33 ?_
      refine g_iconst (pc := 34) hX dX7_with_34 ?_
      refine g_callT1 (pc := 35) (As := [vI (p), vI (1)]) (st2 := [.ref (gw_ad w 93)]) hX (c_X7_parcelAt (z := p) (k := 1)) gX7_with_X7_parcelAt (n := 2) (hw := rfl) (hrc := rfl) (hrs := rfl) (hd := by decide +kernel) (hR := ⟨Nat.le_of_ble_eq_true rfl, Nat.le_of_ble_eq_true rfl⟩) (hn := rfl) (hst := rfl) (hsum := Nat.le_of_ble_eq_true rfl) (hdg := dX7_with_35) ?_
      rintro _ S9 ⟨rfl, e9⟩
      rw [e9]
      clear e9 S9
      refine g_at (pc2 := 38) rfl rfl (st2 := [vI (570 + 12 * p + 1), .ref (gw_ad w 93)]) rfl (S2 := S) rfl ?_
      refine g_lald (pc := 38) hX 93 (by omega) m93 (by omega) (by omega) (by decide) dX7_with_38 ?_
      refine g_lstore (pc := 39) hX (lv2 := [(7, vL (V (570 + 12 * p + 1))), (5, vL (V (570 + 12 * p + 0))), (0, .ref (gw_ad w 92)), (1, vI (p)), (2, vI (3)), (3, vL (val))]) (by decide) rfl dX7_with_39 ?_
      refine g_iload_n (pc := 41) hX 4 rfl dX7_with_41 ?_
      refine g_iconst (pc := 42) hX dX7_with_42 ?_
      refine g_icmp_ne (pc := 43) (tgt := 50) hX (by first | assumption | exact inI_mk (by omega) (by omega)) (by first | assumption | exact inI_mk (by omega) (by omega)) dX7_with_43 (by decide) (fun c_43 => ?_) (fun c_43 => ?_)
      · skip
        refine g_aload_n (pc := 50) hX 2 rfl dX7_with_50 ?_
        refine g_get (pc := 51) hX (ci := 7) (fun _ h => List.mem_cons_of_mem _ (List.mem_append_right _ h)) rfl 92 (by omega) m92 0 (by decide) (List.mem_of_getElem? (i := 1) rfl) rfl (v := .ref (gw_ad w 93)) rfl dX7_with_51 ?_
        refine g_iload_n (pc := 54) hX 3 rfl dX7_with_54 ?_
        refine g_iconst (pc := 55) hX dX7_with_55 ?_
        refine g_callT1 (pc := 56) (As := [vI (p), vI (2)]) (st2 := [.ref (gw_ad w 93)]) hX (c_X7_parcelAt (z := p) (k := 2)) gX7_with_X7_parcelAt (n := 2) (hw := rfl) (hrc := rfl) (hrs := rfl) (hd := by decide +kernel) (hR := ⟨Nat.le_of_ble_eq_true rfl, Nat.le_of_ble_eq_true rfl⟩) (hn := rfl) (hst := rfl) (hsum := Nat.le_of_ble_eq_true rfl) (hdg := dX7_with_56) ?_
        rintro _ S9 ⟨rfl, e9⟩
        rw [e9]
        clear e9 S9
        refine g_at (pc2 := 59) rfl rfl (st2 := [vI (570 + 12 * p + 2), .ref (gw_ad w 93)]) rfl (S2 := S) rfl ?_
        refine g_lald (pc := 59) hX 93 (by omega) m93 (by omega) (by omega) (by decide) dX7_with_59 ?_
        refine g_lstore (pc := 60) hX (lv2 := [(9, vL (V (570 + 12 * p + 2))), (7, vL (V (570 + 12 * p + 1))), (5, vL (V (570 + 12 * p + 0))), (0, .ref (gw_ad w 92)), (1, vI (p)), (2, vI (3)), (3, vL (val))]) (by decide) rfl dX7_with_60 ?_
        refine g_iload_n (pc := 62) hX 5 rfl dX7_with_62 ?_
        refine g_iconst (pc := 63) hX dX7_with_63 ?_
        refine g_icmp_ne (pc := 64) (tgt := 71) hX (by first | assumption | exact inI_mk (by omega) (by omega)) (by first | assumption | exact inI_mk (by omega) (by omega)) dX7_with_64 (by decide) (fun c_64 => ?_) (fun c_64 => ?_)
        · skip
          exact absurd c_64 (by omega)
        · skip
          refine g_lload_n (pc := 67) hX 6 rfl dX7_with_67 ?_
          refine g_goto (pc := 68) (tgt := 81) hX dX7_with_68 (by decide) ?_
          refine g_lstore (pc := 81) hX (lv2 := [(11, vL (val)), (9, vL (V (570 + 12 * p + 2))), (7, vL (V (570 + 12 * p + 1))), (5, vL (V (570 + 12 * p + 0))), (0, .ref (gw_ad w 92)), (1, vI (p)), (2, vI (3)), (3, vL (val))]) (by decide) rfl dX7_with_81 ?_
          refine g_aload_n (pc := 83) hX 4 rfl dX7_with_83 ?_
          refine g_lload (pc := 84) hX 3 rfl dX7_with_84 ?_
          refine g_lload (pc := 86) hX 2 rfl dX7_with_86 ?_
          refine g_lload (pc := 88) hX 1 rfl dX7_with_88 ?_
          refine g_lload (pc := 90) hX 0 rfl dX7_with_90 ?_
          refine g_aload_n (pc := 92) hX 4 rfl dX7_with_92 ?_
          refine g_get (pc := 93) hX (ci := 7) (fun _ h => List.mem_cons_of_mem _ (List.mem_append_right _ h)) rfl 92 (by omega) m92 0 (by decide) (List.mem_of_getElem? (i := 1) rfl) rfl (v := .ref (gw_ad w 93)) rfl dX7_with_93 ?_
          refine g_iload_n (pc := 96) hX 5 rfl dX7_with_96 ?_
          refine g_iconst (pc := 97) hX dX7_with_97 ?_
          refine g_callT1w (pc := 98) (As := [vI (p), vI (4)]) (st2 := [.ref (gw_ad w 93), vL (val), vL (V (570 + 12 * p + 2)), vL (V (570 + 12 * p + 1)), vL (V (570 + 12 * p + 0)), .ref (gw_ad w 92)]) hX (c_X7_parcelAt (z := p) (k := 4)) gX7_with_X7_parcelAt (n := 2) (hw := rfl) (hrc := rfl) (hrs := rfl) (hd := by decide +kernel) (hR := ⟨Nat.le_of_ble_eq_true rfl, Nat.le_of_ble_eq_true rfl⟩) (hn := rfl) (hst := rfl) (hsum := Nat.le_of_ble_eq_true rfl) (hdg := dX7_with_98) ?_
          rintro _ S9 ⟨rfl, e9⟩
          rw [e9]
          clear e9 S9
          refine g_at (pc2 := 101) rfl rfl (st2 := [vI (570 + 12 * p + 4), .ref (gw_ad w 93), vL (val), vL (V (570 + 12 * p + 2)), vL (V (570 + 12 * p + 1)), vL (V (570 + 12 * p + 0)), .ref (gw_ad w 92)]) rfl (S2 := S) rfl ?_
          refine g_lald (pc := 101) hX 93 (by omega) m93 (by omega) (by omega) (by decide) dX7_with_101 ?_
          refine g_l2i (pc := 102) hX dX7_with_102 ?_
          refine g_callV1 (pc := 103) (ci := 7) (As := [vL (V (570 + 12 * p + 0)), vL (V (570 + 12 * p + 1)), vL (V (570 + 12 * p + 2)), vL (val), vI (V (570 + 12 * p + 4))]) (st2 := []) hX 92 (by omega) m92 rfl (c_X7_works hN hm hB hL hv hRm h18 hpi0 hfl (rl := V (570 + 12 * p + 0)) (a := V (570 + 12 * p + 1)) (b := V (570 + 12 * p + 2)) (c := val) (z := V (570 + 12 * p + 4)) hk.2.1 hk.2.2.1 hvl ⟨by omega, by omega⟩ hkz.1 hkz.2 hc1 (bzM_b hZ hkz.1 hkz.2 hc1 hbi)) gX7_with_X7_works (n := 5) (hw := rfl) (hrc := rfl) (hrs := rfl) (hd := by decide +kernel) (hR := ⟨Nat.le_of_ble_eq_true rfl, Nat.le_of_ble_eq_true rfl⟩) (hn := rfl) (hst := rfl) (hsum := Nat.le_of_ble_eq_true rfl) (hdg := dX7_with_103) ?_
          rintro _ S103 ⟨rfl, WK103, FL103, PI103, hfl103, hwk103, hpi103, hP103⟩
          obtain ⟨⟨m103_92, m103_93, m103_94⟩, ⟨m103_95, m103_96⟩, ⟨m103_97, m103_98, m103_99, m103_100, m103_101⟩, ⟨m103_102, m103_103, m103_104⟩⟩ := hP103.1
          refine g_at (pc2 := 106) rfl rfl (st2 := [vL (wkM V MK MM CH AM (V (570 + 12 * p + 0)) (V (570 + 12 * p + 1)) (V (570 + 12 * p + 2)) val (V (570 + 12 * p + 4)) 8)]) rfl (S2 := S103) rfl ?_
          refine g_lret (pc := 106) hX hR dX7_with_106 ?_
          exact ⟨rfl, _, _, _, hfl103, hwk103, hpi103, ⟨⟨⟨m103_92, m103_93, m103_94⟩, ⟨m103_95, m103_96⟩, ⟨m103_97, m103_98, m103_99, m103_100, m103_101⟩, ⟨m103_102, m103_103, m103_104⟩⟩, fun q hq => ((hP103.2 q hq).trans rfl)⟩⟩
      · skip
        exact absurd c_43 (by omega)
    · skip
      exact absurd c_22 (by omega)
  · skip
    exact absurd c_1 (by omega)

theorem c_X7_with {w : gW} {l : Launch} {S : Nat → va_E} {pm tm xm at_ wm wh : Int} {ir : Bool} {V PV TY TX MK MM CH AM WT WK FL PI : Int → Int} (hN : gw_N w = 105) (hm : modelAt w pm tm xm at_ wm wh ir V PV TY TX MK MM CH AM WT WK FL PI S) (hB : vBnd V) (hL : vLim V) (hv : mOK V) (hZ : vZon V) (hRm : RMK V MK MM CH AM) (h18 : 0 ≤ V 18 ∧ V 18 ≤ 8) (hpi0 : ∀ j, PI j = 0 ∨ PI j = 1) (hfl : ∀ j, inL (FL j)) {p x val : Int} (hx : 0 ≤ x ∧ x ≤ 3) (hp : 0 ≤ p ∧ p < 30) (hk : pkV V p) (hvl : wiOK x val) (hc1 : 1 ≤ V (24 + 14 * V (570 + 12 * p + 4))) :
    GM1 w l yX7_with wsX7_with { frames := 3, cells := 0, slots := 0, locals := 86 } [.ref (gw_ad w 92), vI (p), vI (x), vL (val)] S
      (fun v S' => v = vL (wiW V MK MM CH AM p x val 8) ∧ ∃ WK' FL' PI' : Int → Int, (∀ j, inL (FL' j)) ∧ (∀ i, 0 ≤ i → i ≤ 11 → WK' i = wiW V MK MM CH AM p x val i) ∧ (∀ j, PI' j = 0 ∨ PI' j = 1) ∧ POSTM w S pm tm xm at_ wm wh ir V PV TY TX MK MM CH AM WT (WK') (FL') (PI') S') := by
  rcases (show x = 0 ∨ x = 1 ∨ x = 2 ∨ x = 3 by omega) with h | h | h | h <;> subst h
  · exact c_X7_with0 hN hm hB hL hv hZ hRm h18 hpi0 hfl hp hk (hvl.1 rfl) hc1
  · exact c_X7_with1 hN hm hB hL hv hZ hRm h18 hpi0 hfl hp hk (hvl.2 (by decide)) hc1
  · exact c_X7_with2 hN hm hB hL hv hZ hRm h18 hpi0 hfl hp hk (hvl.2 (by decide)) hc1
  · exact c_X7_with3 hN hm hB hL hv hZ hRm h18 hpi0 hfl hp hk (hvl.2 (by decide)) hc1
