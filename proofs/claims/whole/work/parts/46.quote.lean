/-! ===== the reference: what a parcel would cost ===== -/
theorem RMK_r {V MK MM CH AM : Int → Int} {s0 : Int → rdS} (h : ∀ j, 0 ≤ j → j < V 18 → Read (txT V j) (s0 j) j (V (80 + 61 * j)) MK (MM j) (CH j) (AM j) ∧ 0 ≤ MM j ∧ MM j ≤ 60) : RMK V MK MM CH AM := fun k a b => by
  obtain ⟨⟨s, h1, h2, h3, h4, h5, h6, h7, h8⟩, h9, h10⟩ := h k a b
  exact ⟨⟨h9, by omega⟩, h8.1, h8.2.2, h7, h6⟩
def vZon (V : Int → Int) : Prop := ∀ z, 0 ≤ z → z < 4 → (0 ≤ V (24 + 14 * z + 1) ∧ V (24 + 14 * z + 1) ≤ 10000) ∧ ∀ i, 0 ≤ i → i < V (24 + 14 * z) → (1 ≤ V (24 + 14 * z + 2 + 2 * i) ∧ V (24 + 14 * z + 2 + 2 * i) ≤ 100000) ∧ (0 ≤ V (24 + 14 * z + 2 + 2 * i + 1) ∧ V (24 + 14 * z + 2 + 2 * i + 1) ≤ 100000)
theorem bzM_b {V : Int → Int} {z x : Int} (hZ : vZon V) (z0 : 0 ≤ z) (z4 : z < 4) (h1 : 1 ≤ V (24 + 14 * z)) (hx : 0 ≤ x ∧ x ≤ 9000000) : 0 ≤ bzM V z x ∧ bzM V z x ≤ 1000000000 := by
  obtain ⟨he, hb⟩ := hZ z z0 z4
  have hm := mbx_b (V := V) (z := z) (x := x) (by omega)
  unfold bzM
  by_cases h : mbx V z x < V (24 + 14 * z)
  · rw [if_pos h]
    have := (hb _ hm.1 h).2
    omega
  · rw [if_neg h]
    have hk := hb (mbx V z x - 1) (by omega) (by omega)
    have hl := mbx_lt (V := V) (z := z) (x := x) (i := mbx V z x - 1) (by omega) (by omega)
    generalize V (24 + 14 * z + 2 + 2 * (mbx V z x - 1)) = lim at hk hl ⊢
    have hq : 0 ≤ (x - lim + 1000 - 1) / 1000 ∧ (x - lim + 1000 - 1) / 1000 ≤ 9001 := by omega
    have hp : 0 ≤ V (24 + 14 * z + 1) * ((x - lim + 1000 - 1) / 1000) := Int.mul_nonneg he.1 hq.1
    have hp2 := Int.mul_le_mul he.2 hq.2 hq.1 (by decide)
    omega
theorem bil_9 {V : Int → Int} {real a b c : Int} (h6 : 1000 ≤ V 6 ∧ V 6 ≤ 9999) (h7 : 1 ≤ V 7 ∧ V 7 ≤ 1000) (hr : 0 ≤ real ∧ real ≤ 200000) (hv : 0 ≤ volZ a b c ∧ volZ a b c ≤ 8120601) : 0 ≤ bilM V real (dimM V a b c) ∧ bilM V real (dimM V a b c) ≤ 9000000 := by
  have hd : 0 ≤ dimM V a b c ∧ dimM V a b c ≤ 8200000 := by
    unfold dimM
    constructor
    · exact Int.ediv_nonneg (by omega) (by omega)
    · have := Int.ediv_le_ediv (c := V 6) (by omega) (show volZ a b c * 1000 + V 6 - 1 ≤ 8200000 * V 6 by omega)
      rw [Int.mul_ediv_cancel _ (by omega)] at this
      exact this
  have hm : 0 ≤ mx real (dimM V a b c) ∧ mx real (dimM V a b c) ≤ 8200000 := by
    unfold mx
    split <;> omega
  unfold bilM
  have hq := Int.mul_ediv_add_emod (mx real (dimM V a b c) + V 7 - 1) (V 7)
  have hq1 := Int.emod_nonneg (mx real (dimM V a b c) + V 7 - 1) (show V 7 ≠ 0 by omega)
  have hq2 := Int.emod_lt_of_pos (mx real (dimM V a b c) + V 7 - 1) (show 0 < V 7 by omega)
  constructor <;> omega

set_option maxHeartbeats 4000000 in
set_option maxRecDepth 100000 in
theorem c_X7_quote {w : gW} {l : Launch} {S : Nat → va_E} {pm tm xm at_ wm wh : Int} {ir : Bool} {V PV TY TX MK MM CH AM WT WK FL PI : Int → Int} (hN : gw_N w = 105) (hm : modelAt w pm tm xm at_ wm wh ir V PV TY TX MK MM CH AM WT WK FL PI S) (hB : vBnd V) (hL : vLim V) (hv : mOK V) (hZ : vZon V) (h18 : 0 ≤ V 18 ∧ V 18 ≤ 8) (hTX : ∀ i, inI (TX i)) (hWT : ∀ i, inI (WT i)) (hrt : ∀ i, 0 ≤ i → i < V 18 → 0 ≤ V (80 + 61 * i) ∧ V (80 + 61 * i) ≤ 60) (hVt : ∀ j, 80 ≤ j → j < 568 → inI (V j)) {s0 : Int → rdS} (hz : ∀ i, (s0 i).1 0 = 0 ∧ (s0 i).1 4 = 0 ∧ (s0 i).1 5 = 0) (hgd : ∀ i, 0 ≤ i → i < V 18 → ∀ n, ¬ rStop (txT V i) (s0 i) (V (80 + 61 * i)) n) (hpi0 : ∀ j, PI j = 0 ∨ PI j = 1) (hfl : ∀ j, inL (FL j)) {rl a b c z : Int} (hrl : inI rl) (ha : inI a) (hb : inI b) (hc : inI c) (hzz : inI z) :
    GM1 w l yX7_quote wsX7_quote { frames := 5, cells := 0, slots := 0, locals := 115 } [.ref (gw_ad w 92), vI (rl), vI (a), vI (b), vI (c), vI (z)] S
      (fun v S' => if ((1 ≤ rl ∧ rl ≤ 100000) ∧ (1 ≤ a ∧ a ≤ 2000) ∧ (1 ≤ b ∧ b ≤ 2000) ∧ (1 ≤ c ∧ c ≤ 2000) ∧ 0 ≤ z ∧ z ≤ 3) then (if V (24 + 14 * z) = 0 then v = vI (-1000002) ∧ S' = S else ∃ (xm1 at1 wm1 wh1 : Int) (ir1 : Bool) (TX1 WT1 MK1 MM1 CH1 AM1 WK1 FL1 PI1 : Int → Int), POSTM w S pm tm xm1 at1 wm1 wh1 ir1 V PV TY TX1 MK1 MM1 CH1 AM1 WT1 WK1 FL1 PI1 S' ∧ (∀ i, inI (TX1 i)) ∧ (∀ i, inI (WT1 i)) ∧ (∀ j, inL (FL1 j)) ∧ (∀ j, PI1 j = 0 ∨ PI1 j = 1) ∧ (∀ j, 0 ≤ j → j < V 18 → Read (txT V j) (s0 j) j (V (80 + 61 * j)) MK1 (MM1 j) (CH1 j) (AM1 j) ∧ 0 ≤ MM1 j ∧ MM1 j ≤ 60) ∧ v = vI (wkM V MK1 MM1 CH1 AM1 rl a b c z 8)) else v = vI (-1000001) ∧ S' = S) := by
  refine GM.start (own := RX7) (n := "quote") (d := "(IIIII)I") (by decide) rfl (Nat.le_of_ble_eq_true rfl) ?_
  intro X hX hR hXl
  subst hXl
  refine g_at rfl (lv2 := [(0, .ref (gw_ad w 92)), (1, vI (rl)), (2, vI (a)), (3, vI (b)), (4, vI (c)), (5, vI (z))]) rfl rfl rfl ?_
  obtain ⟨⟨m92, m93, m94⟩, ⟨m95, m96⟩, ⟨m97, m98, m99, m100, m101⟩, ⟨m102, m103, m104⟩⟩ := (id hm)
  have hr := hv.r
  have hrm := rawV_m hr
  have hrb := rawV_b hr
  obtain ⟨⟨⟨⟨f0a, f0b⟩, ⟨f1a, f1b⟩, ⟨f2a, f2b⟩, ⟨f3a, f3b⟩⟩, ⟨⟨f4a, f4b⟩, ⟨f5a, f5b⟩, ⟨f6a, f6b⟩, ⟨f7a, f7b⟩⟩⟩, ⟨⟨a8a, a8b⟩, ⟨a9a, a9b⟩, ⟨a10a, a10b⟩, ⟨a11a, a11b⟩, ⟨a12a, a12b⟩, ⟨a13a, a13b⟩⟩, ⟨⟨a14a, a14b⟩, ⟨a15a, a15b⟩, ⟨a16a, a16b⟩, ⟨a17a, a17b⟩⟩⟩ := id hv
  refine g_iload_n (pc := 0) hX 1 rfl dX7_quote_0 ?_
  refine g_i2l (pc := 1) hX (by first | assumption | exact inI_mk (by omega) (by omega)) dX7_quote_1 ?_
  refine g_lconst (pc := 2) hX (z := 1) rfl dX7_quote_2 ?_
  refine g_ldc2 (pc := 3) hX (z := 100000) (List.mem_of_getElem? (i := 1) rfl) (by decide +kernel) dX7_quote_3 ?_
  refine g_callT1 (pc := 6) (As := [vL (rl), vL (1), vL (100000)]) (st2 := []) hX (c_X7_in (x := rl) (a := 1) (b := 100000) (by first | assumption | exact inI_L (by assumption) | exact inL_mk (by omega) (by omega)) (by first | assumption | exact inI_L (by assumption) | exact inL_mk (by omega) (by omega)) (by first | assumption | exact inI_L (by assumption) | exact inL_mk (by omega) (by omega))) gX7_quote_X7_in (n := 3) (hw := rfl) (hrc := rfl) (hrs := rfl) (hd := by decide +kernel) (hR := ⟨Nat.le_of_ble_eq_true rfl, Nat.le_of_ble_eq_true rfl⟩) (hn := rfl) (hst := rfl) (hsum := Nat.le_of_ble_eq_true rfl) (hdg := dX7_quote_6) ?_
  rintro _ S9 ⟨rfl, e9⟩
  rw [e9]
  clear e9 S9
  refine g_at (pc2 := 9) rfl rfl (st2 := [vI (bz (decide (1 ≤ rl ∧ rl ≤ 100000)))]) rfl (S2 := S) rfl ?_
  refine g_bif_eq (pc := 9) (tgt := 42) hX dX7_quote_9 (by decide) (fun c_9 => ?_) (fun c_9 => ?_)
  · skip
    refine g_ldc (pc := 42) hX (z := -1000001) (List.mem_of_getElem? (i := 2) rfl) (by decide +kernel) dX7_quote_42 ?_
    refine g_iret (pc := 44) hX hR dX7_quote_44 ?_
    try simp only [decide_eq_true_eq, decide_eq_false_iff_not] at c_9
    exact (if_neg (by omega)).mpr (⟨rfl, rfl⟩)
  · skip
    refine g_iload_n (pc := 12) hX 2 rfl dX7_quote_12 ?_
    refine g_callT1 (pc := 13) (As := [vI (a)]) (st2 := []) hX (c_X7_isSide (z := a) (by first | assumption | exact inI_mk (by omega) (by omega))) gX7_quote_X7_isSide (n := 1) (hw := rfl) (hrc := rfl) (hrs := rfl) (hd := by decide +kernel) (hR := ⟨Nat.le_of_ble_eq_true rfl, Nat.le_of_ble_eq_true rfl⟩) (hn := rfl) (hst := rfl) (hsum := Nat.le_of_ble_eq_true rfl) (hdg := dX7_quote_13) ?_
    rintro _ S9 ⟨rfl, e9⟩
    rw [e9]
    clear e9 S9
    refine g_at (pc2 := 16) rfl rfl (st2 := [vI (bz (decide (1 ≤ a ∧ a ≤ 2000)))]) rfl (S2 := S) rfl ?_
    refine g_bif_eq (pc := 16) (tgt := 42) hX dX7_quote_16 (by decide) (fun c_16 => ?_) (fun c_16 => ?_)
    · skip
      refine g_ldc (pc := 42) hX (z := -1000001) (List.mem_of_getElem? (i := 2) rfl) (by decide +kernel) dX7_quote_42 ?_
      refine g_iret (pc := 44) hX hR dX7_quote_44 ?_
      try simp only [decide_eq_true_eq, decide_eq_false_iff_not] at c_9 c_16
      exact (if_neg (by omega)).mpr (⟨rfl, rfl⟩)
    · skip
      refine g_iload_n (pc := 19) hX 3 rfl dX7_quote_19 ?_
      refine g_callT1 (pc := 20) (As := [vI (b)]) (st2 := []) hX (c_X7_isSide (z := b) (by first | assumption | exact inI_mk (by omega) (by omega))) gX7_quote_X7_isSide (n := 1) (hw := rfl) (hrc := rfl) (hrs := rfl) (hd := by decide +kernel) (hR := ⟨Nat.le_of_ble_eq_true rfl, Nat.le_of_ble_eq_true rfl⟩) (hn := rfl) (hst := rfl) (hsum := Nat.le_of_ble_eq_true rfl) (hdg := dX7_quote_20) ?_
      rintro _ S9 ⟨rfl, e9⟩
      rw [e9]
      clear e9 S9
      refine g_at (pc2 := 23) rfl rfl (st2 := [vI (bz (decide (1 ≤ b ∧ b ≤ 2000)))]) rfl (S2 := S) rfl ?_
      refine g_bif_eq (pc := 23) (tgt := 42) hX dX7_quote_23 (by decide) (fun c_23 => ?_) (fun c_23 => ?_)
      · skip
        refine g_ldc (pc := 42) hX (z := -1000001) (List.mem_of_getElem? (i := 2) rfl) (by decide +kernel) dX7_quote_42 ?_
        refine g_iret (pc := 44) hX hR dX7_quote_44 ?_
        try simp only [decide_eq_true_eq, decide_eq_false_iff_not] at c_9 c_16 c_23
        exact (if_neg (by omega)).mpr (⟨rfl, rfl⟩)
      · skip
        refine g_iload (pc := 26) hX 4 rfl dX7_quote_26 ?_
        refine g_callT1 (pc := 28) (As := [vI (c)]) (st2 := []) hX (c_X7_isSide (z := c) (by first | assumption | exact inI_mk (by omega) (by omega))) gX7_quote_X7_isSide (n := 1) (hw := rfl) (hrc := rfl) (hrs := rfl) (hd := by decide +kernel) (hR := ⟨Nat.le_of_ble_eq_true rfl, Nat.le_of_ble_eq_true rfl⟩) (hn := rfl) (hst := rfl) (hsum := Nat.le_of_ble_eq_true rfl) (hdg := dX7_quote_28) ?_
        rintro _ S9 ⟨rfl, e9⟩
        rw [e9]
        clear e9 S9
        refine g_at (pc2 := 31) rfl rfl (st2 := [vI (bz (decide (1 ≤ c ∧ c ≤ 2000)))]) rfl (S2 := S) rfl ?_
        refine g_bif_eq (pc := 31) (tgt := 42) hX dX7_quote_31 (by decide) (fun c_31 => ?_) (fun c_31 => ?_)
        · skip
          refine g_ldc (pc := 42) hX (z := -1000001) (List.mem_of_getElem? (i := 2) rfl) (by decide +kernel) dX7_quote_42 ?_
          refine g_iret (pc := 44) hX hR dX7_quote_44 ?_
          try simp only [decide_eq_true_eq, decide_eq_false_iff_not] at c_9 c_16 c_23 c_31
          exact (if_neg (by omega)).mpr (⟨rfl, rfl⟩)
        · skip
          refine g_iload (pc := 34) hX 5 rfl dX7_quote_34 ?_
          refine g_callT1 (pc := 36) (As := [vI (z)]) (st2 := []) hX (c_X7_isZone (z := z) (by first | assumption | exact inI_mk (by omega) (by omega))) gX7_quote_X7_isZone (n := 1) (hw := rfl) (hrc := rfl) (hrs := rfl) (hd := by decide +kernel) (hR := ⟨Nat.le_of_ble_eq_true rfl, Nat.le_of_ble_eq_true rfl⟩) (hn := rfl) (hst := rfl) (hsum := Nat.le_of_ble_eq_true rfl) (hdg := dX7_quote_36) ?_
          rintro _ S9 ⟨rfl, e9⟩
          rw [e9]
          clear e9 S9
          refine g_at (pc2 := 39) rfl rfl (st2 := [vI (bz (decide (0 ≤ z ∧ z ≤ 3)))]) rfl (S2 := S) rfl ?_
          refine g_bif_ne (pc := 39) (tgt := 45) hX dX7_quote_39 (by decide) (fun c_39 => ?_) (fun c_39 => ?_)
          · skip
            have hq1 := of_decide_eq_true c_9
            have hq2 := of_decide_eq_true c_16
            have hq3 := of_decide_eq_true c_23
            have hq4 := of_decide_eq_true c_31
            have hq5 := of_decide_eq_true c_39
            have hBz := hB z (by omega) (by omega)
            refine g_aload_n (pc := 45) hX 0 rfl dX7_quote_45 ?_
            refine g_iload (pc := 46) hX 5 rfl dX7_quote_46 ?_
            refine g_callV1 (pc := 48) (ci := 7) (As := [vI (z)]) (st2 := []) hX 92 (by omega) m92 rfl (c_X7_bands hN hm (z := z) (by omega) (by omega)) gX7_quote_X7_bands (n := 1) (hw := rfl) (hrc := rfl) (hrs := rfl) (hd := by decide +kernel) (hR := ⟨Nat.le_of_ble_eq_true rfl, Nat.le_of_ble_eq_true rfl⟩) (hn := rfl) (hst := rfl) (hsum := Nat.le_of_ble_eq_true rfl) (hdg := dX7_quote_48) ?_
            rintro _ S9 ⟨rfl, e9⟩
            rw [e9]
            clear e9 S9
            refine g_at (pc2 := 51) rfl rfl (st2 := [vI (V (24 + 14 * z))]) rfl (S2 := S) rfl ?_
            refine g_if_ne (pc := 51) (tgt := 57) hX (by first | assumption | exact inI_mk (by omega) (by omega)) dX7_quote_51 (by decide) (fun c_51 => ?_) (fun c_51 => ?_)
            · skip
              have hvo := volZ_b hq2 hq3 hq4
              have hbi := bil_9 (V := V) (real := rl) (a := a) (b := b) (c := c) ⟨by omega, by omega⟩ ⟨by omega, by omega⟩ ⟨by omega, by omega⟩ ⟨by omega, by omega⟩
              refine g_aload_n (pc := 57) hX 0 rfl dX7_quote_57 ?_
              refine g_callV0 (pc := 58) (ci := 7) (As := []) (st2 := []) hX 92 (by omega) m92 rfl (c_X7_readsRules hN hm h18 hTX hWT hrt hVt hz hgd) gX7_quote_X7_readsRules (n := 0) (hw := rfl) (hrc := rfl) (hrs := rfl) (hd := by decide +kernel) (hR := ⟨Nat.le_of_ble_eq_true rfl, Nat.le_of_ble_eq_true rfl⟩) (hn := rfl) (hst := rfl) (hsum := Nat.le_of_ble_eq_true rfl) (hdg := dX7_quote_58) ?_
              rintro S58 ⟨xm58, at58, wm58, wh58, ir58, TX58, WT58, MK58, MM58, CH58, AM58, hP58, hT58, hW58, hRd58⟩
              obtain ⟨⟨m58_92, m58_93, m58_94⟩, ⟨m58_95, m58_96⟩, ⟨m58_97, m58_98, m58_99, m58_100, m58_101⟩, ⟨m58_102, m58_103, m58_104⟩⟩ := hP58.1
              have hRK58 := RMK_r hRd58
              refine g_at (pc2 := 61) rfl rfl (st2 := []) rfl (S2 := S58) rfl ?_
              refine g_aload_n (pc := 61) hX 0 rfl dX7_quote_61 ?_
              refine g_iload_n (pc := 62) hX 1 rfl dX7_quote_62 ?_
              refine g_i2l (pc := 63) hX (by first | assumption | exact inI_mk (by omega) (by omega)) dX7_quote_63 ?_
              refine g_iload_n (pc := 64) hX 2 rfl dX7_quote_64 ?_
              refine g_i2l (pc := 65) hX (by first | assumption | exact inI_mk (by omega) (by omega)) dX7_quote_65 ?_
              refine g_iload_n (pc := 66) hX 3 rfl dX7_quote_66 ?_
              refine g_i2l (pc := 67) hX (by first | assumption | exact inI_mk (by omega) (by omega)) dX7_quote_67 ?_
              refine g_iload (pc := 68) hX 4 rfl dX7_quote_68 ?_
              refine g_i2l (pc := 70) hX (by first | assumption | exact inI_mk (by omega) (by omega)) dX7_quote_70 ?_
              refine g_iload (pc := 71) hX 5 rfl dX7_quote_71 ?_
              refine g_callV1 (pc := 73) (ci := 7) (As := [vL (rl), vL (a), vL (b), vL (c), vI (z)]) (st2 := []) hX 92 (by omega) m58_92 rfl (c_X7_works hN (show modelAt w pm tm xm58 at58 wm58 wh58 ir58 V PV TY TX58 MK58 MM58 CH58 AM58 WT58 WK FL PI S58 from ⟨⟨m58_92, m58_93, m58_94⟩, ⟨m58_95, m58_96⟩, ⟨m58_97, m58_98, m58_99, m58_100, m58_101⟩, ⟨m58_102, m58_103, m58_104⟩⟩) hB hL hv hRK58 h18 hpi0 hfl (rl := rl) (a := a) (b := b) (c := c) (z := z) hq2 hq3 hq4 ⟨by omega, by omega⟩ (by omega) (by omega) (by omega) (bzM_b hZ (by omega) (by omega) (by omega) hbi)) gX7_quote_X7_works (n := 5) (hw := rfl) (hrc := rfl) (hrs := rfl) (hd := by decide +kernel) (hR := ⟨Nat.le_of_ble_eq_true rfl, Nat.le_of_ble_eq_true rfl⟩) (hn := rfl) (hst := rfl) (hsum := Nat.le_of_ble_eq_true rfl) (hdg := dX7_quote_73) ?_
              rintro _ S73 ⟨rfl, WK73, FL73, PI73, hfl73, hwk73, hpi73, hP73⟩
              obtain ⟨⟨m73_92, m73_93, m73_94⟩, ⟨m73_95, m73_96⟩, ⟨m73_97, m73_98, m73_99, m73_100, m73_101⟩, ⟨m73_102, m73_103, m73_104⟩⟩ := hP73.1
              refine g_at (pc2 := 76) rfl rfl (st2 := [vL (wkM V MK58 MM58 CH58 AM58 rl a b c z 8)]) rfl (S2 := S73) rfl ?_
              refine g_l2i (pc := 76) hX dX7_quote_76 ?_
              refine g_iret (pc := 77) hX hR dX7_quote_77 ?_
              try simp only [decide_eq_true_eq, decide_eq_false_iff_not] at c_9 c_16 c_23 c_31 c_39 c_51
              exact (if_pos (by omega)).mpr ((if_neg (by omega)).mpr (⟨_, _, _, _, _, _, _, _, _, _, _, _, _, _, ⟨⟨⟨m73_92, m73_93, m73_94⟩, ⟨m73_95, m73_96⟩, ⟨m73_97, m73_98, m73_99, m73_100, m73_101⟩, ⟨m73_102, m73_103, m73_104⟩⟩, fun q hq => ((hP73.2 q hq).trans ((hP58.2 q hq).trans rfl))⟩, hT58, hW58, hfl73, hpi73, hRd58, rfl⟩))
            · skip
              refine g_ldc (pc := 54) hX (z := -1000002) (List.mem_of_getElem? (i := 3) rfl) (by decide +kernel) dX7_quote_54 ?_
              refine g_iret (pc := 56) hX hR dX7_quote_56 ?_
              try simp only [decide_eq_true_eq, decide_eq_false_iff_not] at c_9 c_16 c_23 c_31 c_39 c_51
              exact (if_pos (by omega)).mpr ((if_pos (by omega)).mpr (⟨rfl, rfl⟩))
          · skip
            refine g_ldc (pc := 42) hX (z := -1000001) (List.mem_of_getElem? (i := 2) rfl) (by decide +kernel) dX7_quote_42 ?_
            refine g_iret (pc := 44) hX hR dX7_quote_44 ?_
            try simp only [decide_eq_true_eq, decide_eq_false_iff_not] at c_9 c_16 c_23 c_31 c_39
            exact (if_neg (by omega)).mpr (⟨rfl, rfl⟩)
