/-! ===== the reference: less, lighter, shorter, cheapest ===== -/
def lsZ (f : Int → Int) (ch : Int) : Nat → Int → Int
  | 0, _ => -1000009
  | n + 1, i => if f i < ch then i else lsZ f ch n (i + 1)
theorem pkV_w {V : Int → Int} {p x : Int} (hk : pkV V p) (hx : 0 ≤ x ∧ x ≤ 3) : wiOK x (V (570 + 12 * p + x)) := by
  obtain ⟨k0, k1, k2, k3, -⟩ := hk
  rcases (show x = 0 ∨ x = 1 ∨ x = 2 ∨ x = 3 by omega) with h | h | h | h <;> subst h
  · exact ⟨fun _ => k0, fun h => absurd rfl h⟩
  · exact ⟨fun h => absurd h (by decide), fun _ => k1⟩
  · exact ⟨fun h => absurd h (by decide), fun _ => k2⟩
  · exact ⟨fun h => absurd h (by decide), fun _ => k3⟩
theorem wiOK_b {x y : Int} (h : wiOK x y) : 1 ≤ y ∧ y ≤ 100000 := by
  obtain ⟨a, b⟩ := h
  by_cases hx : x = 0
  · exact a hx
  · have := b hx; omega
theorem wiOK_d {x y e : Int} (h : wiOK x y) (h0 : 1 ≤ e) (h1 : e < y) : wiOK x (y - e) := by
  obtain ⟨a, b⟩ := h
  exact ⟨fun hx => by have := a hx; omega, fun hx => by have := b hx; omega⟩
def lsW (V MK MM CH AM : Int → Int) (p x : Int) : Int := lsZ (fun e => wiW V MK MM CH AM p x (V (570 + 12 * p + x) - e) 8) (wiW V MK MM CH AM p x (V (570 + 12 * p + x)) 8) (V (570 + 12 * p + x) - 1).toNat 1
def chM (V : Int → Int) (f : Int → Int) : Nat → Int × Int
  | 0 => (-1000009, 0)
  | n + 1 => if 0 < V (24 + 14 * n) then (if (chM V f n).1 < 0 ∨ f n < (chM V f n).2 then ((n : Int), f n) else chM V f n) else chM V f n
theorem chM_s (V f : Int → Int) {c : Int} (h : 0 ≤ c) : chM V f (c + 1).toNat = if 0 < V (24 + 14 * c) then (if (chM V f c.toNat).1 < 0 ∨ f c < (chM V f c.toNat).2 then (c, f c) else chM V f c.toNat) else chM V f c.toNat := by
  rw [show (c + 1).toNat = c.toNat + 1 by omega]
  show (if 0 < V (24 + 14 * (c.toNat : Int)) then (if (chM V f c.toNat).1 < 0 ∨ f (c.toNat : Int) < (chM V f c.toNat).2 then ((c.toNat : Int), f (c.toNat : Int)) else chM V f c.toNat) else chM V f c.toNat) = _
  rw [show ((c.toNat : Nat) : Int) = c by omega]

set_option maxHeartbeats 4000000 in
set_option maxRecDepth 100000 in
theorem c_X7_less {w : gW} {l : Launch} {S : Nat → va_E} {pm tm xm at_ wm wh : Int} {ir : Bool} {V PV TY TX MK MM CH AM WT WK FL PI : Int → Int} (hN : gw_N w = 105) (hm : modelAt w pm tm xm at_ wm wh ir V PV TY TX MK MM CH AM WT WK FL PI S) (hB : vBnd V) (hL : vLim V) (hv : mOK V) (hZ : vZon V) (h18 : 0 ≤ V 18 ∧ V 18 ≤ 8) (hTX : ∀ i, inI (TX i)) (hWT : ∀ i, inI (WT i)) (hrt : ∀ i, 0 ≤ i → i < V 18 → 0 ≤ V (80 + 61 * i) ∧ V (80 + 61 * i) ≤ 60) (hVt : ∀ j, 80 ≤ j → j < 568 → inI (V j)) {s0 : Int → rdS} (hz : ∀ i, (s0 i).1 0 = 0 ∧ (s0 i).1 4 = 0 ∧ (s0 i).1 5 = 0) (hgd : ∀ i, 0 ≤ i → i < V 18 → ∀ n, ¬ rStop (txT V i) (s0 i) (V (80 + 61 * i)) n) (hpi0 : ∀ j, PI j = 0 ∨ PI j = 1) (hfl : ∀ j, inL (FL j)) (h19 : 0 ≤ V 19 ∧ V 19 ≤ 30) (hpk : ∀ p, 0 ≤ p → p < V 19 → pkV V p) {p x : Int} (hp : 0 ≤ p ∧ p < V 19) (hx : 0 ≤ x ∧ x ≤ 3) :
    GM1 w l yX7_less wsX7_less { frames := 5, cells := 0, slots := 0, locals := 118 } [.ref (gw_ad w 92), vI (p), vI (x)] S
      (fun v S' => if 0 < V (24 + 14 * V (570 + 12 * p + 4)) then ∃ (xm1 at1 wm1 wh1 : Int) (ir1 : Bool) (TX1 WT1 MK1 MM1 CH1 AM1 WK1 FL1 PI1 : Int → Int), POSTM w S pm tm xm1 at1 wm1 wh1 ir1 V PV TY TX1 MK1 MM1 CH1 AM1 WT1 WK1 FL1 PI1 S' ∧ (∀ i, inI (TX1 i)) ∧ (∀ i, inI (WT1 i)) ∧ (∀ j, inL (FL1 j)) ∧ (∀ j, PI1 j = 0 ∨ PI1 j = 1) ∧ (∀ j, 0 ≤ j → j < V 18 → Read (txT V j) (s0 j) j (V (80 + 61 * j)) MK1 (MM1 j) (CH1 j) (AM1 j) ∧ 0 ≤ MM1 j ∧ MM1 j ≤ 60) ∧ v = vI (lsW V MK1 MM1 CH1 AM1 p x) else v = vI (-1000002) ∧ S' = S) := by
  refine GM.start (own := RX7) (n := "less") (d := "(II)I") (by decide) rfl (Nat.le_of_ble_eq_true rfl) ?_
  intro X hX hR hXl
  subst hXl
  refine g_at rfl (lv2 := [(0, .ref (gw_ad w 92)), (1, vI (p)), (2, vI (x))]) rfl rfl rfl ?_
  obtain ⟨⟨m92, m93, m94⟩, ⟨m95, m96⟩, ⟨m97, m98, m99, m100, m101⟩, ⟨m102, m103, m104⟩⟩ := (id hm)
  have hr := hv.r
  have hrm := rawV_m hr
  have hrb := rawV_b hr
  obtain ⟨⟨⟨⟨f0a, f0b⟩, ⟨f1a, f1b⟩, ⟨f2a, f2b⟩, ⟨f3a, f3b⟩⟩, ⟨⟨f4a, f4b⟩, ⟨f5a, f5b⟩, ⟨f6a, f6b⟩, ⟨f7a, f7b⟩⟩⟩, ⟨⟨a8a, a8b⟩, ⟨a9a, a9b⟩, ⟨a10a, a10b⟩, ⟨a11a, a11b⟩, ⟨a12a, a12b⟩, ⟨a13a, a13b⟩⟩, ⟨⟨a14a, a14b⟩, ⟨a15a, a15b⟩, ⟨a16a, a16b⟩, ⟨a17a, a17b⟩⟩⟩ := id hv
  have hkp := hpk p hp.1 hp.2
  have hkz := hkp.2.2.2.2
  refine g_aload_n (pc := 0) hX 0 rfl dX7_less_0 ?_
  refine g_iload_n (pc := 1) hX 1 rfl dX7_less_1 ?_
  refine g_callV1 (pc := 2) (ci := 7) (As := [vI (p)]) (st2 := []) hX 92 (by omega) m92 rfl (c_X7_hasBands hN hm (p := p) (by omega) hkz hB) gX7_less_X7_hasBands (n := 1) (hw := rfl) (hrc := rfl) (hrs := rfl) (hd := by decide +kernel) (hR := ⟨Nat.le_of_ble_eq_true rfl, Nat.le_of_ble_eq_true rfl⟩) (hn := rfl) (hst := rfl) (hsum := Nat.le_of_ble_eq_true rfl) (hdg := dX7_less_2) ?_
  rintro _ S9 ⟨rfl, e9⟩
  rw [e9]
  clear e9 S9
  refine g_at (pc2 := 5) rfl rfl (st2 := [vI (bz (decide (0 < V (24 + 14 * V (570 + 12 * p + 4)))))]) rfl (S2 := S) rfl ?_
  refine g_bif_ne (pc := 5) (tgt := 11) hX dX7_less_5 (by decide) (fun c_5 => ?_) (fun c_5 => ?_)
  · skip
    have hbb := of_decide_eq_true c_5
    refine g_aload_n (pc := 11) hX 0 rfl dX7_less_11 ?_
    refine g_callV0 (pc := 12) (ci := 7) (As := []) (st2 := []) hX 92 (by omega) m92 rfl (c_X7_readsRules hN hm h18 hTX hWT hrt hVt hz hgd) gX7_less_X7_readsRules (n := 0) (hw := rfl) (hrc := rfl) (hrs := rfl) (hd := by decide +kernel) (hR := ⟨Nat.le_of_ble_eq_true rfl, Nat.le_of_ble_eq_true rfl⟩) (hn := rfl) (hst := rfl) (hsum := Nat.le_of_ble_eq_true rfl) (hdg := dX7_less_12) ?_
    rintro S12 ⟨xm12, at12, wm12, wh12, ir12, TX12, WT12, MK12, MM12, CH12, AM12, hP12, hT12, hW12, hRd12⟩
    obtain ⟨⟨m12_92, m12_93, m12_94⟩, ⟨m12_95, m12_96⟩, ⟨m12_97, m12_98, m12_99, m12_100, m12_101⟩, ⟨m12_102, m12_103, m12_104⟩⟩ := hP12.1
    have hRK12 := RMK_r hRd12
    refine g_at (pc2 := 15) rfl rfl (st2 := []) rfl (S2 := S12) rfl ?_
    refine g_aload_n (pc := 15) hX 0 rfl dX7_less_15 ?_
    refine g_get (pc := 16) hX (ci := 7) (fun _ h => List.mem_cons_of_mem _ (List.mem_append_right _ h)) rfl 92 (by omega) m12_92 0 (by decide) (List.mem_of_getElem? (i := 2) rfl) rfl (v := .ref (gw_ad w 93)) rfl dX7_less_16 ?_
    refine g_iload_n (pc := 19) hX 1 rfl dX7_less_19 ?_
    refine g_iload_n (pc := 20) hX 2 rfl dX7_less_20 ?_
    refine g_callT1 (pc := 21) (As := [vI (p), vI (x)]) (st2 := [.ref (gw_ad w 93)]) hX (c_X7_parcelAt (z := p) (k := x)) gX7_less_X7_parcelAt (n := 2) (hw := rfl) (hrc := rfl) (hrs := rfl) (hd := by decide +kernel) (hR := ⟨Nat.le_of_ble_eq_true rfl, Nat.le_of_ble_eq_true rfl⟩) (hn := rfl) (hst := rfl) (hsum := Nat.le_of_ble_eq_true rfl) (hdg := dX7_less_21) ?_
    rintro _ S9 ⟨rfl, e9⟩
    rw [e9]
    clear e9 S9
    refine g_at (pc2 := 24) rfl rfl (st2 := [vI (570 + 12 * p + x), .ref (gw_ad w 93)]) rfl (S2 := S12) rfl ?_
    refine g_lald (pc := 24) hX 93 (by omega) m12_93 (by omega) (by omega) (by decide) dX7_less_24 ?_
    obtain ⟨nw, enw⟩ : ∃ z : Int, z = V (570 + 12 * p + x) := ⟨_, rfl⟩
    refine g_at rfl rfl (st2 := [vL (nw)]) (by rw [enw]) rfl ?_
    have hwn : wiOK x nw := by rw [enw]; exact pkV_w hkp hx
    have hwb := wiOK_b hwn
    refine g_lstore_n (pc := 25) hX (lv2 := [(3, vL (nw)), (0, .ref (gw_ad w 92)), (1, vI (p)), (2, vI (x))]) rfl (by decide) rfl dX7_less_25 ?_
    refine g_aload_n (pc := 26) hX 1 rfl dX7_less_26 ?_
    refine g_iload_n (pc := 27) hX 2 rfl dX7_less_27 ?_
    refine g_iload_n (pc := 28) hX 3 rfl dX7_less_28 ?_
    refine g_lload_n (pc := 29) hX 0 rfl dX7_less_29 ?_
    refine g_callV1 (pc := 30) (ci := 7) (As := [vI (p), vI (x), vL (nw)]) (st2 := []) hX 92 (by omega) m12_92 rfl (c_X7_with hN (show modelAt w pm tm xm12 at12 wm12 wh12 ir12 V PV TY TX12 MK12 MM12 CH12 AM12 WT12 WK FL PI S12 from ⟨⟨m12_92, m12_93, m12_94⟩, ⟨m12_95, m12_96⟩, ⟨m12_97, m12_98, m12_99, m12_100, m12_101⟩, ⟨m12_102, m12_103, m12_104⟩⟩) hB hL hv hZ hRK12 h18 hpi0 hfl (p := p) (x := x) (val := nw) hx (by omega) hkp hwn (by omega)) gX7_less_X7_with (n := 3) (hw := rfl) (hrc := rfl) (hrs := rfl) (hd := by decide +kernel) (hR := ⟨Nat.le_of_ble_eq_true rfl, Nat.le_of_ble_eq_true rfl⟩) (hn := rfl) (hst := rfl) (hsum := Nat.le_of_ble_eq_true rfl) (hdg := dX7_less_30) ?_
    rintro _ S30 ⟨rfl, WK30, FL30, PI30, hfl30, hwk30, hpi30, hP30⟩
    obtain ⟨⟨m30_92, m30_93, m30_94⟩, ⟨m30_95, m30_96⟩, ⟨m30_97, m30_98, m30_99, m30_100, m30_101⟩, ⟨m30_102, m30_103, m30_104⟩⟩ := hP30.1
    refine g_at (pc2 := 33) rfl rfl (st2 := [vL (wiW V MK12 MM12 CH12 AM12 p x nw 8)]) rfl (S2 := S30) rfl ?_
    refine g_lstore (pc := 33) hX (lv2 := [(5, vL (wiW V MK12 MM12 CH12 AM12 p x nw 8)), (3, vL (nw)), (0, .ref (gw_ad w 92)), (1, vI (p)), (2, vI (x))]) (by decide) rfl dX7_less_33 ?_
    refine g_iconst (pc := 35) hX dX7_less_35 ?_
    refine g_istore (pc := 36) hX (lv2 := [(7, vI (1)), (5, vL (wiW V MK12 MM12 CH12 AM12 p x nw 8)), (3, vL (nw)), (0, .ref (gw_ad w 92)), (1, vI (p)), (2, vI (x))]) (by decide) rfl dX7_less_36 ?_
    have lq : ∀ (n0 : Nat) (e : Int) (WKk : Int → Int) (FLk : Int → Int) (PIk : Int → Int) (Slq : Nat → va_E), nw - e < n0 → POSTM w S pm tm xm12 at12 wm12 wh12 ir12 V PV TY TX12 MK12 MM12 CH12 AM12 WT12 WKk FLk PIk Slq → (1 ≤ e ∧ e ≤ nw) → (∀ j, inL (FLk j)) → (∀ j, PIk j = 0 ∨ PIk j = 1) → (lsZ (fun e => wiW V MK12 MM12 CH12 AM12 p x (nw - e) 8) (wiW V MK12 MM12 CH12 AM12 p x nw 8) (nw - e).toNat e = lsW V MK12 MM12 CH12 AM12 p x) → G w { frames := 5, cells := 0, slots := 0, locals := 118 } X 8 38 [(7, vI (e)), (0, .ref (gw_ad w 92)), (1, vI (p)), (2, vI (x)), (3, vL (nw)), (5, vL ((wiW V MK12 MM12 CH12 AM12 p x nw 8)))] [] Slq := by
      intro n0
      induction n0 with
      | zero => intro e WKk FLk PIk Slq hzlq hQlq he hflk hpik hs; exact absurd hzlq (by omega)
      | succ n0 ihlq =>
        intro e WKk FLk PIk Slq hzlq hQlq he hflk hpik hs
        obtain ⟨⟨lq_92, lq_93, lq_94⟩, ⟨lq_95, lq_96⟩, ⟨lq_97, lq_98, lq_99, lq_100, lq_101⟩, ⟨lq_102, lq_103, lq_104⟩⟩ := hQlq.1
        have heI : inI e := inI_mk (by omega) (by omega)
        have hb5 := wiW_8 (MK := MK12) (MM := MM12) (CH := CH12) (AM := AM12) hv hZ hkp hwn (by omega)
        refine g_iload (pc := 38) hX 0 rfl dX7_less_38 ?_
        refine g_i2l (pc := 40) hX (by first | assumption | exact inI_mk (by omega) (by omega)) dX7_less_40 ?_
        refine g_lload_n (pc := 41) hX 4 rfl dX7_less_41 ?_
        refine g_lcmp_ge (pc := 42) (tgt := 72) hX (by first | assumption | exact inI_L (by assumption) | exact inL_mk (by omega) (by omega)) (by first | assumption | exact inI_L (by assumption) | exact inL_mk (by omega) (by omega)) dX7_less_42 dX7_less_43 (by decide) (fun c_42 => ?_) (fun c_42 => ?_)
        · skip
          refine g_ldc (pc := 72) hX (z := -1000009) (List.mem_of_getElem? (i := 3) rfl) (by decide +kernel) dX7_less_72 ?_
          refine g_iret (pc := 74) hX hR dX7_less_74 ?_
          try simp only [decide_eq_true_eq, decide_eq_false_iff_not] at c_5 c_42
          rw [show (nw - e).toNat = 0 by omega] at hs
          have hs2 : (-1000009 : Int) = lsW V MK12 MM12 CH12 AM12 p x := hs
          refine (if_pos (by omega)).mpr (⟨_, _, _, _, _, _, _, _, _, _, _, _, _, _, ⟨⟨⟨lq_92, lq_93, lq_94⟩, ⟨lq_95, lq_96⟩, ⟨lq_97, lq_98, lq_99, lq_100, lq_101⟩, ⟨lq_102, lq_103, lq_104⟩⟩, fun q hq => ((hQlq.2 q hq).trans rfl)⟩, hT12, hW12, hflk, hpik, hRd12, vI_c hs2⟩)
        · skip
          have hwd := wiOK_d hwn he.1 (show e < nw by omega)
          have hb6 := wiW_8 (MK := MK12) (MM := MM12) (CH := CH12) (AM := AM12) hv hZ hkp hwd (by omega)
          refine g_aload_n (pc := 46) hX 1 rfl dX7_less_46 ?_
          refine g_iload_n (pc := 47) hX 2 rfl dX7_less_47 ?_
          refine g_iload_n (pc := 48) hX 3 rfl dX7_less_48 ?_
          refine g_lload_n (pc := 49) hX 4 rfl dX7_less_49 ?_
          refine g_iload (pc := 50) hX 0 rfl dX7_less_50 ?_
          refine g_i2l (pc := 52) hX (by first | assumption | exact inI_mk (by omega) (by omega)) dX7_less_52 ?_
          refine g_lsub (pc := 53) hX dX7_less_53 ?_
          refine g_callV1 (pc := 54) (ci := 7) (As := [vI (p), vI (x), vL (nw - e)]) (st2 := []) hX 92 (by omega) lq_92 rfl (c_X7_with hN (show modelAt w pm tm xm12 at12 wm12 wh12 ir12 V PV TY TX12 MK12 MM12 CH12 AM12 WT12 WKk FLk PIk Slq from ⟨⟨lq_92, lq_93, lq_94⟩, ⟨lq_95, lq_96⟩, ⟨lq_97, lq_98, lq_99, lq_100, lq_101⟩, ⟨lq_102, lq_103, lq_104⟩⟩) hB hL hv hZ hRK12 h18 hpik hflk (p := p) (x := x) (val := nw - e) hx (by omega) hkp hwd (by omega)) gX7_less_X7_with (n := 3) (hw := rfl) (hrc := rfl) (hrs := rfl) (hd := by decide +kernel) (hR := ⟨Nat.le_of_ble_eq_true rfl, Nat.le_of_ble_eq_true rfl⟩) (hn := rfl) (hst := rfl) (hsum := Nat.le_of_ble_eq_true rfl) (hdg := dX7_less_54) ?_
          rintro _ S54 ⟨rfl, WK54, FL54, PI54, hfl54, hwk54, hpi54, hP54⟩
          obtain ⟨⟨m54_92, m54_93, m54_94⟩, ⟨m54_95, m54_96⟩, ⟨m54_97, m54_98, m54_99, m54_100, m54_101⟩, ⟨m54_102, m54_103, m54_104⟩⟩ := hP54.1
          refine g_at (pc2 := 57) rfl rfl (st2 := [vL (wiW V MK12 MM12 CH12 AM12 p x (nw - e) 8)]) rfl (S2 := S54) rfl ?_
          refine g_lload (pc := 57) hX 5 rfl dX7_less_57 ?_
          refine g_lcmp_ge (pc := 59) (tgt := 66) hX (by first | assumption | exact inI_L (by assumption) | exact inL_mk (by omega) (by omega)) (by first | assumption | exact inI_L (by assumption) | exact inL_mk (by omega) (by omega)) dX7_less_59 dX7_less_60 (by decide) (fun c_59 => ?_) (fun c_59 => ?_)
          · skip
            refine g_iinc (pc := 66) hX (lv2 := [(7, vI (e + 1)), (0, .ref (gw_ad w 92)), (1, vI (p)), (2, vI (x)), (3, vL (nw)), (5, vL ((wiW V MK12 MM12 CH12 AM12 p x nw 8)))]) 0 rfl (by decide) rfl dX7_less_66 ?_
            refine g_goto (pc := 69) (tgt := 38) hX dX7_less_69 (by decide) ?_
            refine g_sub (lv2 := [(7, vI (e + 1)), (0, .ref (gw_ad w 92)), (1, vI (p)), (2, vI (x)), (3, vL (nw)), (5, vL ((wiW V MK12 MM12 CH12 AM12 p x nw 8)))]) [0, 1, 2, 3, 4, 5] rfl ?_
            exact ihlq (e + 1) (WK54) (FL54) (PI54) _ (by omega) (show POSTM w S pm tm xm12 at12 wm12 wh12 ir12 V PV TY TX12 MK12 MM12 CH12 AM12 WT12 WK54 FL54 PI54 S54 from ⟨⟨⟨m54_92, m54_93, m54_94⟩, ⟨m54_95, m54_96⟩, ⟨m54_97, m54_98, m54_99, m54_100, m54_101⟩, ⟨m54_102, m54_103, m54_104⟩⟩, fun q hq => ((hP54.2 q hq).trans ((hQlq.2 q hq).trans rfl))⟩) (⟨by omega, by omega⟩) (hfl54) (hpi54) (by rw [show (nw - e).toNat = (nw - (e + 1)).toNat + 1 by omega] at hs; rw [← hs]; exact (if_neg (show ¬ wiW V MK12 MM12 CH12 AM12 p x (nw - e) 8 < (wiW V MK12 MM12 CH12 AM12 p x nw 8) by omega)).symm)
          · skip
            refine g_iload (pc := 63) hX 0 rfl dX7_less_63 ?_
            refine g_iret (pc := 65) hX hR dX7_less_65 ?_
            try simp only [decide_eq_true_eq, decide_eq_false_iff_not] at c_5 c_42 c_59
            rw [show (nw - e).toNat = (nw - (e + 1)).toNat + 1 by omega] at hs
            have hs2 : e = lsW V MK12 MM12 CH12 AM12 p x := by rw [← hs]; exact (if_pos (show wiW V MK12 MM12 CH12 AM12 p x (nw - e) 8 < (wiW V MK12 MM12 CH12 AM12 p x nw 8) by omega)).symm
            refine (if_pos (by omega)).mpr (⟨_, _, _, _, _, _, _, _, _, _, _, _, _, _, ⟨⟨⟨m54_92, m54_93, m54_94⟩, ⟨m54_95, m54_96⟩, ⟨m54_97, m54_98, m54_99, m54_100, m54_101⟩, ⟨m54_102, m54_103, m54_104⟩⟩, fun q hq => ((hP54.2 q hq).trans ((hQlq.2 q hq).trans rfl))⟩, hT12, hW12, hfl54, hpi54, hRd12, vI_c hs2⟩)
    refine g_sub (lv2 := [(7, vI (1)), (0, .ref (gw_ad w 92)), (1, vI (p)), (2, vI (x)), (3, vL (nw)), (5, vL (wiW V MK12 MM12 CH12 AM12 p x nw 8))]) [0, 3, 4, 5, 2, 1] rfl ?_
    exact lq ((nw - 1) + 1).toNat (1) (WK30) (FL30) (PI30) _ (by omega) (show POSTM w S pm tm xm12 at12 wm12 wh12 ir12 V PV TY TX12 MK12 MM12 CH12 AM12 WT12 WK30 FL30 PI30 S30 from ⟨⟨⟨m30_92, m30_93, m30_94⟩, ⟨m30_95, m30_96⟩, ⟨m30_97, m30_98, m30_99, m30_100, m30_101⟩, ⟨m30_102, m30_103, m30_104⟩⟩, fun q hq => ((hP30.2 q hq).trans ((hP12.2 q hq).trans rfl))⟩) (⟨by omega, by omega⟩) (hfl30) (hpi30) (by unfold lsW; rw [← enw])
  · skip
    refine g_ldc (pc := 8) hX (z := -1000002) (List.mem_of_getElem? (i := 1) rfl) (by decide +kernel) dX7_less_8 ?_
    refine g_iret (pc := 10) hX hR dX7_less_10 ?_
    try simp only [decide_eq_true_eq, decide_eq_false_iff_not] at c_5
    exact (if_neg (by omega)).mpr (⟨rfl, rfl⟩)

theorem lsK_v {c : Prop} [Decidable c] {v : Value} {S S' : Nat → va_E} {P : Prop} {a : Int} (h : if c then P else v = vI a ∧ S' = S) (hP : P → ∃ r, v = vI r) : ∃ r, v = vI r := by
  by_cases hc : c
  · rw [if_pos hc] at h; exact hP h
  · rw [if_neg hc] at h; exact ⟨a, h.1⟩

set_option maxHeartbeats 4000000 in
set_option maxRecDepth 100000 in
theorem c_X7_lighter {w : gW} {l : Launch} {S : Nat → va_E} {pm tm xm at_ wm wh : Int} {ir : Bool} {V PV TY TX MK MM CH AM WT WK FL PI : Int → Int} (hN : gw_N w = 105) (hm : modelAt w pm tm xm at_ wm wh ir V PV TY TX MK MM CH AM WT WK FL PI S) (hB : vBnd V) (hL : vLim V) (hv : mOK V) (hZ : vZon V) (h18 : 0 ≤ V 18 ∧ V 18 ≤ 8) (hTX : ∀ i, inI (TX i)) (hWT : ∀ i, inI (WT i)) (hrt : ∀ i, 0 ≤ i → i < V 18 → 0 ≤ V (80 + 61 * i) ∧ V (80 + 61 * i) ≤ 60) (hVt : ∀ j, 80 ≤ j → j < 568 → inI (V j)) {s0 : Int → rdS} (hz : ∀ i, (s0 i).1 0 = 0 ∧ (s0 i).1 4 = 0 ∧ (s0 i).1 5 = 0) (hgd : ∀ i, 0 ≤ i → i < V 18 → ∀ n, ¬ rStop (txT V i) (s0 i) (V (80 + 61 * i)) n) (hpi0 : ∀ j, PI j = 0 ∨ PI j = 1) (hfl : ∀ j, inL (FL j)) (h19 : 0 ≤ V 19 ∧ V 19 ≤ 30) (hpk : ∀ p, 0 ≤ p → p < V 19 → pkV V p) {p : Int} (hp : inI p) :
    GM1 w l yX7_lighter wsX7_lighter { frames := 6, cells := 0, slots := 0, locals := 145 } [.ref (gw_ad w 92), vI (p)] S
      (fun v S' => if 0 ≤ p ∧ p ≤ V 19 - 1 then (if 0 < V (24 + 14 * V (570 + 12 * p + 4)) then ∃ (xm1 at1 wm1 wh1 : Int) (ir1 : Bool) (TX1 WT1 MK1 MM1 CH1 AM1 WK1 FL1 PI1 : Int → Int), POSTM w S pm tm xm1 at1 wm1 wh1 ir1 V PV TY TX1 MK1 MM1 CH1 AM1 WT1 WK1 FL1 PI1 S' ∧ (∀ i, inI (TX1 i)) ∧ (∀ i, inI (WT1 i)) ∧ (∀ j, inL (FL1 j)) ∧ (∀ j, PI1 j = 0 ∨ PI1 j = 1) ∧ (∀ j, 0 ≤ j → j < V 18 → Read (txT V j) (s0 j) j (V (80 + 61 * j)) MK1 (MM1 j) (CH1 j) (AM1 j) ∧ 0 ≤ MM1 j ∧ MM1 j ≤ 60) ∧ v = vI (lsW V MK1 MM1 CH1 AM1 p 0) else v = vI (-1000002) ∧ S' = S) else v = vI (-1000001) ∧ S' = S) := by
  refine GM.start (own := RX7) (n := "lighter") (d := "(I)I") (by decide) rfl (Nat.le_of_ble_eq_true rfl) ?_
  intro X hX hR hXl
  subst hXl
  refine g_at rfl (lv2 := [(0, .ref (gw_ad w 92)), (1, vI (p))]) rfl rfl rfl ?_
  obtain ⟨⟨m92, m93, m94⟩, ⟨m95, m96⟩, ⟨m97, m98, m99, m100, m101⟩, ⟨m102, m103, m104⟩⟩ := (id hm)
  refine g_aload_n (pc := 0) hX 0 rfl dX7_lighter_0 ?_
  refine g_iload_n (pc := 1) hX 1 rfl dX7_lighter_1 ?_
  refine g_callV1 (pc := 2) (ci := 7) (As := [vI (p)]) (st2 := []) hX 92 (by omega) m92 rfl (c_X7_isParcel hN hm hL (p := p) (by first | assumption | exact inI_mk (by omega) (by omega))) gX7_lighter_X7_isParcel (n := 1) (hw := rfl) (hrc := rfl) (hrs := rfl) (hd := by decide +kernel) (hR := ⟨Nat.le_of_ble_eq_true rfl, Nat.le_of_ble_eq_true rfl⟩) (hn := rfl) (hst := rfl) (hsum := Nat.le_of_ble_eq_true rfl) (hdg := dX7_lighter_2) ?_
  rintro _ S9 ⟨rfl, e9⟩
  rw [e9]
  clear e9 S9
  refine g_at (pc2 := 5) rfl rfl (st2 := [vI (bz (decide (0 ≤ p ∧ p ≤ V 19 - 1)))]) rfl (S2 := S) rfl ?_
  refine g_bif_eq (pc := 5) (tgt := 17) hX dX7_lighter_5 (by decide) (fun c_5 => ?_) (fun c_5 => ?_)
  · skip
    refine g_ldc (pc := 17) hX (z := -1000001) (List.mem_of_getElem? (i := 1) rfl) (by decide +kernel) dX7_lighter_17 ?_
    refine g_iret (pc := 19) hX hR dX7_lighter_19 ?_
    try simp only [decide_eq_true_eq, decide_eq_false_iff_not] at c_5
    exact (if_neg (by omega)).mpr (⟨rfl, rfl⟩)
  · skip
    have hp1 := of_decide_eq_true c_5
    refine g_aload_n (pc := 8) hX 0 rfl dX7_lighter_8 ?_
    refine g_iload_n (pc := 9) hX 1 rfl dX7_lighter_9 ?_
    refine g_iconst (pc := 10) hX dX7_lighter_10 ?_
    refine g_callV1 (pc := 11) (ci := 7) (As := [vI (p), vI (0)]) (st2 := []) hX 92 (by omega) m92 rfl (c_X7_less hN hm hB hL hv hZ h18 hTX hWT hrt hVt hz hgd hpi0 hfl h19 hpk (p := p) (x := 0) (by omega) ⟨by omega, by omega⟩) gX7_lighter_X7_less (n := 2) (hw := rfl) (hrc := rfl) (hrs := rfl) (hd := by decide +kernel) (hR := ⟨Nat.le_of_ble_eq_true rfl, Nat.le_of_ble_eq_true rfl⟩) (hn := rfl) (hst := rfl) (hsum := Nat.le_of_ble_eq_true rfl) (hdg := dX7_lighter_11) ?_
    intro v11 S11 hK11
    obtain ⟨r11, er11⟩ : ∃ r, v11 = vI r := lsK_v hK11 (fun ⟨_, _, _, _, _, _, _, _, _, _, _, _, _, _, _, _, _, _, _, _, h⟩ => ⟨_, h⟩)
    subst er11
    refine g_at (pc2 := 14) rfl rfl (st2 := [vI (r11)]) rfl (S2 := S11) rfl ?_
    refine g_goto (pc := 14) (tgt := 19) hX dX7_lighter_14 (by decide) ?_
    refine g_iret (pc := 19) hX hR dX7_lighter_19 ?_
    try simp only [decide_eq_true_eq, decide_eq_false_iff_not] at c_5
    exact (if_pos (by omega)).mpr (hK11)

set_option maxHeartbeats 4000000 in
set_option maxRecDepth 100000 in
theorem c_X7_shorter {w : gW} {l : Launch} {S : Nat → va_E} {pm tm xm at_ wm wh : Int} {ir : Bool} {V PV TY TX MK MM CH AM WT WK FL PI : Int → Int} (hN : gw_N w = 105) (hm : modelAt w pm tm xm at_ wm wh ir V PV TY TX MK MM CH AM WT WK FL PI S) (hB : vBnd V) (hL : vLim V) (hv : mOK V) (hZ : vZon V) (h18 : 0 ≤ V 18 ∧ V 18 ≤ 8) (hTX : ∀ i, inI (TX i)) (hWT : ∀ i, inI (WT i)) (hrt : ∀ i, 0 ≤ i → i < V 18 → 0 ≤ V (80 + 61 * i) ∧ V (80 + 61 * i) ≤ 60) (hVt : ∀ j, 80 ≤ j → j < 568 → inI (V j)) {s0 : Int → rdS} (hz : ∀ i, (s0 i).1 0 = 0 ∧ (s0 i).1 4 = 0 ∧ (s0 i).1 5 = 0) (hgd : ∀ i, 0 ≤ i → i < V 18 → ∀ n, ¬ rStop (txT V i) (s0 i) (V (80 + 61 * i)) n) (hpi0 : ∀ j, PI j = 0 ∨ PI j = 1) (hfl : ∀ j, inL (FL j)) (h19 : 0 ≤ V 19 ∧ V 19 ≤ 30) (hpk : ∀ p, 0 ≤ p → p < V 19 → pkV V p) {p x : Int} (hp : inI p) (hx : inI x) :
    GM1 w l yX7_shorter wsX7_shorter { frames := 6, cells := 0, slots := 0, locals := 145 } [.ref (gw_ad w 92), vI (p), vI (x)] S
      (fun v S' => if (0 ≤ p ∧ p ≤ V 19 - 1) ∧ 1 ≤ x ∧ x ≤ 3 then (if 0 < V (24 + 14 * V (570 + 12 * p + 4)) then ∃ (xm1 at1 wm1 wh1 : Int) (ir1 : Bool) (TX1 WT1 MK1 MM1 CH1 AM1 WK1 FL1 PI1 : Int → Int), POSTM w S pm tm xm1 at1 wm1 wh1 ir1 V PV TY TX1 MK1 MM1 CH1 AM1 WT1 WK1 FL1 PI1 S' ∧ (∀ i, inI (TX1 i)) ∧ (∀ i, inI (WT1 i)) ∧ (∀ j, inL (FL1 j)) ∧ (∀ j, PI1 j = 0 ∨ PI1 j = 1) ∧ (∀ j, 0 ≤ j → j < V 18 → Read (txT V j) (s0 j) j (V (80 + 61 * j)) MK1 (MM1 j) (CH1 j) (AM1 j) ∧ 0 ≤ MM1 j ∧ MM1 j ≤ 60) ∧ v = vI (lsW V MK1 MM1 CH1 AM1 p x) else v = vI (-1000002) ∧ S' = S) else v = vI (-1000001) ∧ S' = S) := by
  refine GM.start (own := RX7) (n := "shorter") (d := "(II)I") (by decide) rfl (Nat.le_of_ble_eq_true rfl) ?_
  intro X hX hR hXl
  subst hXl
  refine g_at rfl (lv2 := [(0, .ref (gw_ad w 92)), (1, vI (p)), (2, vI (x))]) rfl rfl rfl ?_
  obtain ⟨⟨m92, m93, m94⟩, ⟨m95, m96⟩, ⟨m97, m98, m99, m100, m101⟩, ⟨m102, m103, m104⟩⟩ := (id hm)
  refine g_aload_n (pc := 0) hX 0 rfl dX7_shorter_0 ?_
  refine g_iload_n (pc := 1) hX 1 rfl dX7_shorter_1 ?_
  refine g_callV1 (pc := 2) (ci := 7) (As := [vI (p)]) (st2 := []) hX 92 (by omega) m92 rfl (c_X7_isParcel hN hm hL (p := p) (by first | assumption | exact inI_mk (by omega) (by omega))) gX7_shorter_X7_isParcel (n := 1) (hw := rfl) (hrc := rfl) (hrs := rfl) (hd := by decide +kernel) (hR := ⟨Nat.le_of_ble_eq_true rfl, Nat.le_of_ble_eq_true rfl⟩) (hn := rfl) (hst := rfl) (hsum := Nat.le_of_ble_eq_true rfl) (hdg := dX7_shorter_2) ?_
  rintro _ S9 ⟨rfl, e9⟩
  rw [e9]
  clear e9 S9
  refine g_at (pc2 := 5) rfl rfl (st2 := [vI (bz (decide (0 ≤ p ∧ p ≤ V 19 - 1)))]) rfl (S2 := S) rfl ?_
  refine g_bif_eq (pc := 5) (tgt := 29) hX dX7_shorter_5 (by decide) (fun c_5 => ?_) (fun c_5 => ?_)
  · skip
    refine g_ldc (pc := 29) hX (z := -1000001) (List.mem_of_getElem? (i := 2) rfl) (by decide +kernel) dX7_shorter_29 ?_
    refine g_iret (pc := 31) hX hR dX7_shorter_31 ?_
    try simp only [decide_eq_true_eq, decide_eq_false_iff_not] at c_5
    exact (if_neg (by omega)).mpr (⟨rfl, rfl⟩)
  · skip
    have hp1 := of_decide_eq_true c_5
    refine g_iload_n (pc := 8) hX 2 rfl dX7_shorter_8 ?_
    refine g_i2l (pc := 9) hX (by first | assumption | exact inI_mk (by omega) (by omega)) dX7_shorter_9 ?_
    refine g_lconst (pc := 10) hX (z := 1) rfl dX7_shorter_10 ?_
    refine g_ldc2 (pc := 11) hX (z := 3) (List.mem_of_getElem? (i := 1) rfl) (by decide +kernel) dX7_shorter_11 ?_
    refine g_callT1 (pc := 14) (As := [vL (x), vL (1), vL (3)]) (st2 := []) hX (c_X7_in (x := x) (a := 1) (b := 3) (by first | assumption | exact inI_L (by assumption) | exact inL_mk (by omega) (by omega)) (by first | assumption | exact inI_L (by assumption) | exact inL_mk (by omega) (by omega)) (by first | assumption | exact inI_L (by assumption) | exact inL_mk (by omega) (by omega))) gX7_shorter_X7_in (n := 3) (hw := rfl) (hrc := rfl) (hrs := rfl) (hd := by decide +kernel) (hR := ⟨Nat.le_of_ble_eq_true rfl, Nat.le_of_ble_eq_true rfl⟩) (hn := rfl) (hst := rfl) (hsum := Nat.le_of_ble_eq_true rfl) (hdg := dX7_shorter_14) ?_
    rintro _ S9 ⟨rfl, e9⟩
    rw [e9]
    clear e9 S9
    refine g_at (pc2 := 17) rfl rfl (st2 := [vI (bz (decide (1 ≤ x ∧ x ≤ 3)))]) rfl (S2 := S) rfl ?_
    refine g_bif_eq (pc := 17) (tgt := 29) hX dX7_shorter_17 (by decide) (fun c_17 => ?_) (fun c_17 => ?_)
    · skip
      refine g_ldc (pc := 29) hX (z := -1000001) (List.mem_of_getElem? (i := 2) rfl) (by decide +kernel) dX7_shorter_29 ?_
      refine g_iret (pc := 31) hX hR dX7_shorter_31 ?_
      try simp only [decide_eq_true_eq, decide_eq_false_iff_not] at c_5 c_17
      exact (if_neg (by omega)).mpr (⟨rfl, rfl⟩)
    · skip
      have hx1 := of_decide_eq_true c_17
      refine g_aload_n (pc := 20) hX 0 rfl dX7_shorter_20 ?_
      refine g_iload_n (pc := 21) hX 1 rfl dX7_shorter_21 ?_
      refine g_iload_n (pc := 22) hX 2 rfl dX7_shorter_22 ?_
      refine g_callV1 (pc := 23) (ci := 7) (As := [vI (p), vI (x)]) (st2 := []) hX 92 (by omega) m92 rfl (c_X7_less hN hm hB hL hv hZ h18 hTX hWT hrt hVt hz hgd hpi0 hfl h19 hpk (p := p) (x := x) (by omega) ⟨by omega, by omega⟩) gX7_shorter_X7_less (n := 2) (hw := rfl) (hrc := rfl) (hrs := rfl) (hd := by decide +kernel) (hR := ⟨Nat.le_of_ble_eq_true rfl, Nat.le_of_ble_eq_true rfl⟩) (hn := rfl) (hst := rfl) (hsum := Nat.le_of_ble_eq_true rfl) (hdg := dX7_shorter_23) ?_
      intro v23 S23 hK23
      obtain ⟨r23, er23⟩ : ∃ r, v23 = vI r := lsK_v hK23 (fun ⟨_, _, _, _, _, _, _, _, _, _, _, _, _, _, _, _, _, _, _, _, h⟩ => ⟨_, h⟩)
      subst er23
      refine g_at (pc2 := 26) rfl rfl (st2 := [vI (r23)]) rfl (S2 := S23) rfl ?_
      refine g_goto (pc := 26) (tgt := 31) hX dX7_shorter_26 (by decide) ?_
      refine g_iret (pc := 31) hX hR dX7_shorter_31 ?_
      try simp only [decide_eq_true_eq, decide_eq_false_iff_not] at c_5 c_17
      exact (if_pos (by omega)).mpr (hK23)

set_option maxHeartbeats 4000000 in
set_option maxRecDepth 100000 in
theorem c_X7_cheapest {w : gW} {l : Launch} {S : Nat → va_E} {pm tm xm at_ wm wh : Int} {ir : Bool} {V PV TY TX MK MM CH AM WT WK FL PI : Int → Int} (hN : gw_N w = 105) (hm : modelAt w pm tm xm at_ wm wh ir V PV TY TX MK MM CH AM WT WK FL PI S) (hB : vBnd V) (hL : vLim V) (hv : mOK V) (hZ : vZon V) (h18 : 0 ≤ V 18 ∧ V 18 ≤ 8) (hTX : ∀ i, inI (TX i)) (hWT : ∀ i, inI (WT i)) (hrt : ∀ i, 0 ≤ i → i < V 18 → 0 ≤ V (80 + 61 * i) ∧ V (80 + 61 * i) ≤ 60) (hVt : ∀ j, 80 ≤ j → j < 568 → inI (V j)) {s0 : Int → rdS} (hz : ∀ i, (s0 i).1 0 = 0 ∧ (s0 i).1 4 = 0 ∧ (s0 i).1 5 = 0) (hgd : ∀ i, 0 ≤ i → i < V 18 → ∀ n, ¬ rStop (txT V i) (s0 i) (V (80 + 61 * i)) n) (hpi0 : ∀ j, PI j = 0 ∨ PI j = 1) (hfl : ∀ j, inL (FL j)) (h19 : 0 ≤ V 19 ∧ V 19 ≤ 30) (hpk : ∀ p, 0 ≤ p → p < V 19 → pkV V p) {p : Int} (hp : inI p) :
    GM1 w l yX7_cheapest wsX7_cheapest { frames := 5, cells := 0, slots := 0, locals := 115 } [.ref (gw_ad w 92), vI (p)] S
      (fun v S' => if 0 ≤ p ∧ p ≤ V 19 - 1 then ∃ (xm1 at1 wm1 wh1 : Int) (ir1 : Bool) (TX1 WT1 MK1 MM1 CH1 AM1 WK1 FL1 PI1 : Int → Int), POSTM w S pm tm xm1 at1 wm1 wh1 ir1 V PV TY TX1 MK1 MM1 CH1 AM1 WT1 WK1 FL1 PI1 S' ∧ (∀ i, inI (TX1 i)) ∧ (∀ i, inI (WT1 i)) ∧ (∀ j, inL (FL1 j)) ∧ (∀ j, PI1 j = 0 ∨ PI1 j = 1) ∧ (∀ j, 0 ≤ j → j < V 18 → Read (txT V j) (s0 j) j (V (80 + 61 * j)) MK1 (MM1 j) (CH1 j) (AM1 j) ∧ 0 ≤ MM1 j ∧ MM1 j ≤ 60) ∧ v = vI (chM V (fun z => wkM V MK1 MM1 CH1 AM1 (V (570 + 12 * p + 0)) (V (570 + 12 * p + 1)) (V (570 + 12 * p + 2)) (V (570 + 12 * p + 3)) z 8) 4).1 else v = vI (-1000001) ∧ S' = S) := by
  refine GM.start (own := RX7) (n := "cheapest") (d := "(I)I") (by decide) rfl (Nat.le_of_ble_eq_true rfl) ?_
  intro X hX hR hXl
  subst hXl
  refine g_at rfl (lv2 := [(0, .ref (gw_ad w 92)), (1, vI (p))]) rfl rfl rfl ?_
  obtain ⟨⟨m92, m93, m94⟩, ⟨m95, m96⟩, ⟨m97, m98, m99, m100, m101⟩, ⟨m102, m103, m104⟩⟩ := (id hm)
  have hr := hv.r
  have hrm := rawV_m hr
  have hrb := rawV_b hr
  obtain ⟨⟨⟨⟨f0a, f0b⟩, ⟨f1a, f1b⟩, ⟨f2a, f2b⟩, ⟨f3a, f3b⟩⟩, ⟨⟨f4a, f4b⟩, ⟨f5a, f5b⟩, ⟨f6a, f6b⟩, ⟨f7a, f7b⟩⟩⟩, ⟨⟨a8a, a8b⟩, ⟨a9a, a9b⟩, ⟨a10a, a10b⟩, ⟨a11a, a11b⟩, ⟨a12a, a12b⟩, ⟨a13a, a13b⟩⟩, ⟨⟨a14a, a14b⟩, ⟨a15a, a15b⟩, ⟨a16a, a16b⟩, ⟨a17a, a17b⟩⟩⟩ := id hv
  refine g_aload_n (pc := 0) hX 0 rfl dX7_cheapest_0 ?_
  refine g_iload_n (pc := 1) hX 1 rfl dX7_cheapest_1 ?_
  refine g_callV1 (pc := 2) (ci := 7) (As := [vI (p)]) (st2 := []) hX 92 (by omega) m92 rfl (c_X7_isParcel hN hm hL (p := p) (by first | assumption | exact inI_mk (by omega) (by omega))) gX7_cheapest_X7_isParcel (n := 1) (hw := rfl) (hrc := rfl) (hrs := rfl) (hd := by decide +kernel) (hR := ⟨Nat.le_of_ble_eq_true rfl, Nat.le_of_ble_eq_true rfl⟩) (hn := rfl) (hst := rfl) (hsum := Nat.le_of_ble_eq_true rfl) (hdg := dX7_cheapest_2) ?_
  rintro _ S9 ⟨rfl, e9⟩
  rw [e9]
  clear e9 S9
  refine g_at (pc2 := 5) rfl rfl (st2 := [vI (bz (decide (0 ≤ p ∧ p ≤ V 19 - 1)))]) rfl (S2 := S) rfl ?_
  refine g_bif_ne (pc := 5) (tgt := 11) hX dX7_cheapest_5 (by decide) (fun c_5 => ?_) (fun c_5 => ?_)
  · skip
    have hp1 := of_decide_eq_true c_5
    have hkp := hpk p hp1.1 (by omega)
    have hvo := volZ_b hkp.2.1 hkp.2.2.1 hkp.2.2.2.1
    refine g_aload_n (pc := 11) hX 0 rfl dX7_cheapest_11 ?_
    refine g_callV0 (pc := 12) (ci := 7) (As := []) (st2 := []) hX 92 (by omega) m92 rfl (c_X7_readsRules hN hm h18 hTX hWT hrt hVt hz hgd) gX7_cheapest_X7_readsRules (n := 0) (hw := rfl) (hrc := rfl) (hrs := rfl) (hd := by decide +kernel) (hR := ⟨Nat.le_of_ble_eq_true rfl, Nat.le_of_ble_eq_true rfl⟩) (hn := rfl) (hst := rfl) (hsum := Nat.le_of_ble_eq_true rfl) (hdg := dX7_cheapest_12) ?_
    rintro S12 ⟨xm12, at12, wm12, wh12, ir12, TX12, WT12, MK12, MM12, CH12, AM12, hP12, hT12, hW12, hRd12⟩
    obtain ⟨⟨m12_92, m12_93, m12_94⟩, ⟨m12_95, m12_96⟩, ⟨m12_97, m12_98, m12_99, m12_100, m12_101⟩, ⟨m12_102, m12_103, m12_104⟩⟩ := hP12.1
    have hRK12 := RMK_r hRd12
    refine g_at (pc2 := 15) rfl rfl (st2 := []) rfl (S2 := S12) rfl ?_
    refine g_ldc (pc := 15) hX (z := -1000009) (List.mem_of_getElem? (i := 2) rfl) (by decide +kernel) dX7_cheapest_15 ?_
    refine g_istore_n (pc := 17) hX (lv2 := [(2, vI (-1000009)), (0, .ref (gw_ad w 92)), (1, vI (p))]) rfl (by decide) rfl dX7_cheapest_17 ?_
    refine g_lconst (pc := 18) hX (z := 0) rfl dX7_cheapest_18 ?_
    refine g_lstore_n (pc := 19) hX (lv2 := [(3, vL (0)), (2, vI (-1000009)), (0, .ref (gw_ad w 92)), (1, vI (p))]) rfl (by decide) rfl dX7_cheapest_19 ?_
    refine g_iconst (pc := 20) hX dX7_cheapest_20 ?_
    refine g_istore (pc := 21) hX (lv2 := [(5, vI (0)), (3, vL (0)), (2, vI (-1000009)), (0, .ref (gw_ad w 92)), (1, vI (p))]) (by decide) rfl dX7_cheapest_21 ?_
    have lq : ∀ (n0 : Nat) (z : Int) (bs : Int) (lst : Int) (WKk : Int → Int) (FLk : Int → Int) (PIk : Int → Int) (Slq : Nat → va_E), (4 : Int) - z < n0 → POSTM w S pm tm xm12 at12 wm12 wh12 ir12 V PV TY TX12 MK12 MM12 CH12 AM12 WT12 WKk FLk PIk Slq → (0 ≤ z ∧ z ≤ 4) → (-1000009 ≤ bs ∧ bs < z) → (0 ≤ lst ∧ lst ≤ 1000000000) → (∀ j, inL (FLk j)) → (∀ j, PIk j = 0 ∨ PIk j = 1) → (bs = (chM V (fun z => wkM V MK12 MM12 CH12 AM12 (V (570 + 12 * p + 0)) (V (570 + 12 * p + 1)) (V (570 + 12 * p + 2)) (V (570 + 12 * p + 3)) z 8) z.toNat).1 ∧ lst = (chM V (fun z => wkM V MK12 MM12 CH12 AM12 (V (570 + 12 * p + 0)) (V (570 + 12 * p + 1)) (V (570 + 12 * p + 2)) (V (570 + 12 * p + 3)) z 8) z.toNat).2) → G w { frames := 5, cells := 0, slots := 0, locals := 115 } X 8 23 [(5, vI (z)), (0, .ref (gw_ad w 92)), (1, vI (p)), (2, vI (bs)), (3, vL (lst))] [] Slq := by
      intro n0
      induction n0 with
      | zero => intro z bs lst WKk FLk PIk Slq hzlq hQlq hz0 hbb hlb hflk hpik hbl; exact absurd hzlq (by omega)
      | succ n0 ihlq =>
        intro z bs lst WKk FLk PIk Slq hzlq hQlq hz0 hbb hlb hflk hpik hbl
        obtain ⟨⟨lq_92, lq_93, lq_94⟩, ⟨lq_95, lq_96⟩, ⟨lq_97, lq_98, lq_99, lq_100, lq_101⟩, ⟨lq_102, lq_103, lq_104⟩⟩ := hQlq.1
        have hzI : inI z := inI_mk (by omega) (by omega)
        have h0z := hz0.1
        have hk0 := hkp.1
        refine g_iload (pc := 23) hX 0 rfl dX7_cheapest_23 ?_
        refine g_iconst (pc := 25) hX dX7_cheapest_25 ?_
        refine g_icmp_ge (pc := 26) (tgt := 123) hX (by first | assumption | exact inI_mk (by omega) (by omega)) (by first | assumption | exact inI_mk (by omega) (by omega)) dX7_cheapest_26 (by decide) (fun c_26 => ?_) (fun c_26 => ?_)
        · skip
          refine g_iload_n (pc := 123) hX 3 rfl dX7_cheapest_123 ?_
          refine g_iret (pc := 124) hX hR dX7_cheapest_124 ?_
          try simp only [decide_eq_true_eq, decide_eq_false_iff_not] at c_5 c_26
          have hz4 : z = 4 := by omega
          subst hz4
          exact (if_pos (by omega)).mpr (⟨_, _, _, _, _, _, _, _, _, _, _, _, _, _, ⟨⟨⟨lq_92, lq_93, lq_94⟩, ⟨lq_95, lq_96⟩, ⟨lq_97, lq_98, lq_99, lq_100, lq_101⟩, ⟨lq_102, lq_103, lq_104⟩⟩, fun q hq => ((hQlq.2 q hq).trans rfl)⟩, hT12, hW12, hflk, hpik, hRd12, vI_c hbl.1⟩)
        · skip
          have hBz := hB z hz0.1 (by omega)
          refine g_aload_n (pc := 29) hX 1 rfl dX7_cheapest_29 ?_
          refine g_iload (pc := 30) hX 0 rfl dX7_cheapest_30 ?_
          refine g_callV1 (pc := 32) (ci := 7) (As := [vI (z)]) (st2 := []) hX 92 (by omega) lq_92 rfl (c_X7_bands hN (show modelAt w pm tm xm12 at12 wm12 wh12 ir12 V PV TY TX12 MK12 MM12 CH12 AM12 WT12 WKk FLk PIk Slq from ⟨⟨lq_92, lq_93, lq_94⟩, ⟨lq_95, lq_96⟩, ⟨lq_97, lq_98, lq_99, lq_100, lq_101⟩, ⟨lq_102, lq_103, lq_104⟩⟩) (z := z) (by omega) (by omega)) gX7_cheapest_X7_bands (n := 1) (hw := rfl) (hrc := rfl) (hrs := rfl) (hd := by decide +kernel) (hR := ⟨Nat.le_of_ble_eq_true rfl, Nat.le_of_ble_eq_true rfl⟩) (hn := rfl) (hst := rfl) (hsum := Nat.le_of_ble_eq_true rfl) (hdg := dX7_cheapest_32) ?_
          rintro _ S9 ⟨rfl, e9⟩
          rw [e9]
          clear e9 S9
          refine g_at (pc2 := 35) rfl rfl (st2 := [vI (V (24 + 14 * z))]) rfl (S2 := Slq) rfl ?_
          refine g_if_le (pc := 35) (tgt := 117) hX (by first | assumption | exact inI_mk (by omega) (by omega)) dX7_cheapest_35 (by decide) (fun c_35 => ?_) (fun c_35 => ?_)
          · skip
            refine g_iinc (pc := 117) hX (lv2 := [(5, vI (z + 1)), (0, .ref (gw_ad w 92)), (1, vI (p)), (2, vI (bs)), (3, vL (lst))]) 0 rfl (by decide) rfl dX7_cheapest_117 ?_
            refine g_goto (pc := 120) (tgt := 23) hX dX7_cheapest_120 (by decide) ?_
            refine g_sub (lv2 := [(5, vI (z + 1)), (0, .ref (gw_ad w 92)), (1, vI (p)), (2, vI (bs)), (3, vL (lst))]) [0, 1, 2, 3, 4] rfl ?_
            exact ihlq (z + 1) (bs) (lst) (WKk) (FLk) (PIk) _ (by omega) (show POSTM w S pm tm xm12 at12 wm12 wh12 ir12 V PV TY TX12 MK12 MM12 CH12 AM12 WT12 WKk FLk PIk Slq from ⟨⟨⟨lq_92, lq_93, lq_94⟩, ⟨lq_95, lq_96⟩, ⟨lq_97, lq_98, lq_99, lq_100, lq_101⟩, ⟨lq_102, lq_103, lq_104⟩⟩, fun q hq => ((hQlq.2 q hq).trans rfl)⟩) (⟨by omega, by omega⟩) (⟨by omega, by omega⟩) (⟨by omega, by omega⟩) (hflk) (hpik) (by rw [chM_s V _ h0z, if_neg (by omega)]; exact hbl)
          · skip
            have hbi := bil_9 (V := V) (real := V (570 + 12 * p + 0)) (a := V (570 + 12 * p + 1)) (b := V (570 + 12 * p + 2)) (c := V (570 + 12 * p + 3)) ⟨by omega, by omega⟩ ⟨by omega, by omega⟩ ⟨by omega, by omega⟩ ⟨by omega, by omega⟩
            have hb8 := wkM_8 (MK := MK12) (MM := MM12) (CH := CH12) (AM := AM12) hv hZ (rl := V (570 + 12 * p + 0)) ⟨by omega, by omega⟩ hkp.2.1 hkp.2.2.1 hkp.2.2.2.1 hz0.1 (show z < 4 by omega) (by omega)
            refine g_aload_n (pc := 38) hX 1 rfl dX7_cheapest_38 ?_
            refine g_aload_n (pc := 39) hX 1 rfl dX7_cheapest_39 ?_
            refine g_get (pc := 40) hX (ci := 7) (fun _ h => List.mem_cons_of_mem _ (List.mem_append_right _ h)) rfl 92 (by omega) lq_92 0 (by decide) (List.mem_of_getElem? (i := 3) rfl) rfl (v := .ref (gw_ad w 93)) rfl dX7_cheapest_40 ?_
            refine g_iload_n (pc := 43) hX 2 rfl dX7_cheapest_43 ?_
            refine g_iconst (pc := 44) hX dX7_cheapest_44 ?_
            refine g_callT1 (pc := 45) (As := [vI (p), vI (0)]) (st2 := [.ref (gw_ad w 93), .ref (gw_ad w 92)]) hX (c_X7_parcelAt (z := p) (k := 0)) gX7_cheapest_X7_parcelAt (n := 2) (hw := rfl) (hrc := rfl) (hrs := rfl) (hd := by decide +kernel) (hR := ⟨Nat.le_of_ble_eq_true rfl, Nat.le_of_ble_eq_true rfl⟩) (hn := rfl) (hst := rfl) (hsum := Nat.le_of_ble_eq_true rfl) (hdg := dX7_cheapest_45) ?_
            rintro _ S9 ⟨rfl, e9⟩
            rw [e9]
            clear e9 S9
            refine g_at (pc2 := 48) rfl rfl (st2 := [vI (570 + 12 * p + 0), .ref (gw_ad w 93), .ref (gw_ad w 92)]) rfl (S2 := Slq) rfl ?_
            refine g_lald (pc := 48) hX 93 (by omega) lq_93 (by omega) (by omega) (by decide) dX7_cheapest_48 ?_
            refine g_aload_n (pc := 49) hX 1 rfl dX7_cheapest_49 ?_
            refine g_get (pc := 50) hX (ci := 7) (fun _ h => List.mem_cons_of_mem _ (List.mem_append_right _ h)) rfl 92 (by omega) lq_92 0 (by decide) (List.mem_of_getElem? (i := 3) rfl) rfl (v := .ref (gw_ad w 93)) rfl dX7_cheapest_50 ?_
            refine g_iload_n (pc := 53) hX 2 rfl dX7_cheapest_53 ?_
            refine g_iconst (pc := 54) hX dX7_cheapest_54 ?_
            refine g_callT1 (pc := 55) (As := [vI (p), vI (1)]) (st2 := [.ref (gw_ad w 93), vL (V (570 + 12 * p + 0)), .ref (gw_ad w 92)]) hX (c_X7_parcelAt (z := p) (k := 1)) gX7_cheapest_X7_parcelAt (n := 2) (hw := rfl) (hrc := rfl) (hrs := rfl) (hd := by decide +kernel) (hR := ⟨Nat.le_of_ble_eq_true rfl, Nat.le_of_ble_eq_true rfl⟩) (hn := rfl) (hst := rfl) (hsum := Nat.le_of_ble_eq_true rfl) (hdg := dX7_cheapest_55) ?_
            rintro _ S9 ⟨rfl, e9⟩
            rw [e9]
            clear e9 S9
            refine g_at (pc2 := 58) rfl rfl (st2 := [vI (570 + 12 * p + 1), .ref (gw_ad w 93), vL (V (570 + 12 * p + 0)), .ref (gw_ad w 92)]) rfl (S2 := Slq) rfl ?_
            refine g_lald (pc := 58) hX 93 (by omega) lq_93 (by omega) (by omega) (by decide) dX7_cheapest_58 ?_
            refine g_aload_n (pc := 59) hX 1 rfl dX7_cheapest_59 ?_
            refine g_get (pc := 60) hX (ci := 7) (fun _ h => List.mem_cons_of_mem _ (List.mem_append_right _ h)) rfl 92 (by omega) lq_92 0 (by decide) (List.mem_of_getElem? (i := 3) rfl) rfl (v := .ref (gw_ad w 93)) rfl dX7_cheapest_60 ?_
            refine g_iload_n (pc := 63) hX 2 rfl dX7_cheapest_63 ?_
            refine g_iconst (pc := 64) hX dX7_cheapest_64 ?_
            refine g_callT1 (pc := 65) (As := [vI (p), vI (2)]) (st2 := [.ref (gw_ad w 93), vL (V (570 + 12 * p + 1)), vL (V (570 + 12 * p + 0)), .ref (gw_ad w 92)]) hX (c_X7_parcelAt (z := p) (k := 2)) gX7_cheapest_X7_parcelAt (n := 2) (hw := rfl) (hrc := rfl) (hrs := rfl) (hd := by decide +kernel) (hR := ⟨Nat.le_of_ble_eq_true rfl, Nat.le_of_ble_eq_true rfl⟩) (hn := rfl) (hst := rfl) (hsum := Nat.le_of_ble_eq_true rfl) (hdg := dX7_cheapest_65) ?_
            rintro _ S9 ⟨rfl, e9⟩
            rw [e9]
            clear e9 S9
            refine g_at (pc2 := 68) rfl rfl (st2 := [vI (570 + 12 * p + 2), .ref (gw_ad w 93), vL (V (570 + 12 * p + 1)), vL (V (570 + 12 * p + 0)), .ref (gw_ad w 92)]) rfl (S2 := Slq) rfl ?_
            refine g_lald (pc := 68) hX 93 (by omega) lq_93 (by omega) (by omega) (by decide) dX7_cheapest_68 ?_
            refine g_aload_n (pc := 69) hX 1 rfl dX7_cheapest_69 ?_
            refine g_get (pc := 70) hX (ci := 7) (fun _ h => List.mem_cons_of_mem _ (List.mem_append_right _ h)) rfl 92 (by omega) lq_92 0 (by decide) (List.mem_of_getElem? (i := 3) rfl) rfl (v := .ref (gw_ad w 93)) rfl dX7_cheapest_70 ?_
            refine g_iload_n (pc := 73) hX 2 rfl dX7_cheapest_73 ?_
            refine g_iconst (pc := 74) hX dX7_cheapest_74 ?_
            refine g_callT1 (pc := 75) (As := [vI (p), vI (3)]) (st2 := [.ref (gw_ad w 93), vL (V (570 + 12 * p + 2)), vL (V (570 + 12 * p + 1)), vL (V (570 + 12 * p + 0)), .ref (gw_ad w 92)]) hX (c_X7_parcelAt (z := p) (k := 3)) gX7_cheapest_X7_parcelAt (n := 2) (hw := rfl) (hrc := rfl) (hrs := rfl) (hd := by decide +kernel) (hR := ⟨Nat.le_of_ble_eq_true rfl, Nat.le_of_ble_eq_true rfl⟩) (hn := rfl) (hst := rfl) (hsum := Nat.le_of_ble_eq_true rfl) (hdg := dX7_cheapest_75) ?_
            rintro _ S9 ⟨rfl, e9⟩
            rw [e9]
            clear e9 S9
            refine g_at (pc2 := 78) rfl rfl (st2 := [vI (570 + 12 * p + 3), .ref (gw_ad w 93), vL (V (570 + 12 * p + 2)), vL (V (570 + 12 * p + 1)), vL (V (570 + 12 * p + 0)), .ref (gw_ad w 92)]) rfl (S2 := Slq) rfl ?_
            refine g_lald (pc := 78) hX 93 (by omega) lq_93 (by omega) (by omega) (by decide) dX7_cheapest_78 ?_
            refine g_iload (pc := 79) hX 0 rfl dX7_cheapest_79 ?_
            refine g_callV1 (pc := 81) (ci := 7) (As := [vL (V (570 + 12 * p + 0)), vL (V (570 + 12 * p + 1)), vL (V (570 + 12 * p + 2)), vL (V (570 + 12 * p + 3)), vI (z)]) (st2 := []) hX 92 (by omega) lq_92 rfl (c_X7_works hN (show modelAt w pm tm xm12 at12 wm12 wh12 ir12 V PV TY TX12 MK12 MM12 CH12 AM12 WT12 WKk FLk PIk Slq from ⟨⟨lq_92, lq_93, lq_94⟩, ⟨lq_95, lq_96⟩, ⟨lq_97, lq_98, lq_99, lq_100, lq_101⟩, ⟨lq_102, lq_103, lq_104⟩⟩) hB hL hv hRK12 h18 hpik hflk (rl := V (570 + 12 * p + 0)) (a := V (570 + 12 * p + 1)) (b := V (570 + 12 * p + 2)) (c := V (570 + 12 * p + 3)) (z := z) hkp.2.1 hkp.2.2.1 hkp.2.2.2.1 ⟨by omega, by omega⟩ (by omega) (by omega) (by omega) (bzM_b hZ (by omega) (by omega) (by omega) hbi)) gX7_cheapest_X7_works (n := 5) (hw := rfl) (hrc := rfl) (hrs := rfl) (hd := by decide +kernel) (hR := ⟨Nat.le_of_ble_eq_true rfl, Nat.le_of_ble_eq_true rfl⟩) (hn := rfl) (hst := rfl) (hsum := Nat.le_of_ble_eq_true rfl) (hdg := dX7_cheapest_81) ?_
            rintro _ S81 ⟨rfl, WK81, FL81, PI81, hfl81, hwk81, hpi81, hP81⟩
            obtain ⟨⟨m81_92, m81_93, m81_94⟩, ⟨m81_95, m81_96⟩, ⟨m81_97, m81_98, m81_99, m81_100, m81_101⟩, ⟨m81_102, m81_103, m81_104⟩⟩ := hP81.1
            refine g_at (pc2 := 84) rfl rfl (st2 := [vL (wkM V MK12 MM12 CH12 AM12 (V (570 + 12 * p + 0)) (V (570 + 12 * p + 1)) (V (570 + 12 * p + 2)) (V (570 + 12 * p + 3)) z 8)]) rfl (S2 := S81) rfl ?_
            refine g_lstore (pc := 84) hX (lv2 := [(6, vL (wkM V MK12 MM12 CH12 AM12 (V (570 + 12 * p + 0)) (V (570 + 12 * p + 1)) (V (570 + 12 * p + 2)) (V (570 + 12 * p + 3)) z 8)), (5, vI (z)), (0, .ref (gw_ad w 92)), (1, vI (p)), (2, vI (bs)), (3, vL (lst))]) (by decide) rfl dX7_cheapest_84 ?_
            refine g_iload_n (pc := 86) hX 4 rfl dX7_cheapest_86 ?_
            refine g_if_lt (pc := 87) (tgt := 97) hX (by first | assumption | exact inI_mk (by omega) (by omega)) dX7_cheapest_87 (by decide) (fun c_87 => ?_) (fun c_87 => ?_)
            · skip
              refine g_iload (pc := 97) hX 1 rfl dX7_cheapest_97 ?_
              refine g_goto (pc := 99) (tgt := 103) hX dX7_cheapest_99 (by decide) ?_
              refine g_istore_n (pc := 103) hX (lv2 := [(2, vI (z)), (6, vL (wkM V MK12 MM12 CH12 AM12 (V (570 + 12 * p + 0)) (V (570 + 12 * p + 1)) (V (570 + 12 * p + 2)) (V (570 + 12 * p + 3)) z 8)), (5, vI (z)), (0, .ref (gw_ad w 92)), (1, vI (p)), (3, vL (lst))]) rfl (by decide) rfl dX7_cheapest_103 ?_
              refine g_iload_n (pc := 104) hX 0 rfl dX7_cheapest_104 ?_
              refine g_iload (pc := 105) hX 2 rfl dX7_cheapest_105 ?_
              refine g_icmp_ne (pc := 107) (tgt := 115) hX (by first | assumption | exact inI_mk (by omega) (by omega)) (by first | assumption | exact inI_mk (by omega) (by omega)) dX7_cheapest_107 (by decide) (fun c_107 => ?_) (fun c_107 => ?_)
              · skip
                exact absurd rfl c_107
              · skip
                refine g_lload (pc := 110) hX 1 rfl dX7_cheapest_110 ?_
                refine g_goto (pc := 112) (tgt := 116) hX dX7_cheapest_112 (by decide) ?_
                refine g_lstore_n (pc := 116) hX (lv2 := [(3, vL (wkM V MK12 MM12 CH12 AM12 (V (570 + 12 * p + 0)) (V (570 + 12 * p + 1)) (V (570 + 12 * p + 2)) (V (570 + 12 * p + 3)) z 8)), (2, vI (z)), (6, vL (wkM V MK12 MM12 CH12 AM12 (V (570 + 12 * p + 0)) (V (570 + 12 * p + 1)) (V (570 + 12 * p + 2)) (V (570 + 12 * p + 3)) z 8)), (5, vI (z)), (0, .ref (gw_ad w 92)), (1, vI (p))]) rfl (by decide) rfl dX7_cheapest_116 ?_
                refine g_iinc (pc := 117) hX (lv2 := [(5, vI (z + 1)), (3, vL (wkM V MK12 MM12 CH12 AM12 (V (570 + 12 * p + 0)) (V (570 + 12 * p + 1)) (V (570 + 12 * p + 2)) (V (570 + 12 * p + 3)) z 8)), (2, vI (z)), (6, vL (wkM V MK12 MM12 CH12 AM12 (V (570 + 12 * p + 0)) (V (570 + 12 * p + 1)) (V (570 + 12 * p + 2)) (V (570 + 12 * p + 3)) z 8)), (0, .ref (gw_ad w 92)), (1, vI (p))]) 3 rfl (by decide) rfl dX7_cheapest_117 ?_
                refine g_goto (pc := 120) (tgt := 23) hX dX7_cheapest_120 (by decide) ?_
                refine g_sub (lv2 := [(5, vI (z + 1)), (0, .ref (gw_ad w 92)), (1, vI (p)), (2, vI (z)), (3, vL (wkM V MK12 MM12 CH12 AM12 (V (570 + 12 * p + 0)) (V (570 + 12 * p + 1)) (V (570 + 12 * p + 2)) (V (570 + 12 * p + 3)) z 8))]) [0, 4, 5, 2, 1] rfl ?_
                exact ihlq (z + 1) (z) (wkM V MK12 MM12 CH12 AM12 (V (570 + 12 * p + 0)) (V (570 + 12 * p + 1)) (V (570 + 12 * p + 2)) (V (570 + 12 * p + 3)) z 8) (WK81) (FL81) (PI81) _ (by omega) (show POSTM w S pm tm xm12 at12 wm12 wh12 ir12 V PV TY TX12 MK12 MM12 CH12 AM12 WT12 WK81 FL81 PI81 S81 from ⟨⟨⟨m81_92, m81_93, m81_94⟩, ⟨m81_95, m81_96⟩, ⟨m81_97, m81_98, m81_99, m81_100, m81_101⟩, ⟨m81_102, m81_103, m81_104⟩⟩, fun q hq => ((hP81.2 q hq).trans ((hQlq.2 q hq).trans rfl))⟩) (⟨by omega, by omega⟩) (⟨by omega, by omega⟩) (⟨by omega, by omega⟩) (hfl81) (hpi81) (by rw [chM_s V _ h0z, if_pos (by omega), if_pos (show (chM V (fun z => wkM V MK12 MM12 CH12 AM12 (V (570 + 12 * p + 0)) (V (570 + 12 * p + 1)) (V (570 + 12 * p + 2)) (V (570 + 12 * p + 3)) z 8) z.toNat).1 < 0 ∨ wkM V MK12 MM12 CH12 AM12 (V (570 + 12 * p + 0)) (V (570 + 12 * p + 1)) (V (570 + 12 * p + 2)) (V (570 + 12 * p + 3)) z 8 < (chM V (fun z => wkM V MK12 MM12 CH12 AM12 (V (570 + 12 * p + 0)) (V (570 + 12 * p + 1)) (V (570 + 12 * p + 2)) (V (570 + 12 * p + 3)) z 8) z.toNat).2 by rw [← hbl.1, ← hbl.2]; omega)]; exact ⟨rfl, rfl⟩)
            · skip
              refine g_lload (pc := 90) hX 0 rfl dX7_cheapest_90 ?_
              refine g_lload_n (pc := 92) hX 5 rfl dX7_cheapest_92 ?_
              refine g_lcmp_ge (pc := 93) (tgt := 102) hX (by first | assumption | exact inI_L (by assumption) | exact inL_mk (by omega) (by omega)) (by first | assumption | exact inI_L (by assumption) | exact inL_mk (by omega) (by omega)) dX7_cheapest_93 dX7_cheapest_94 (by decide) (fun c_93 => ?_) (fun c_93 => ?_)
              · skip
                refine g_iload_n (pc := 102) hX 4 rfl dX7_cheapest_102 ?_
                refine g_istore_n (pc := 103) hX (lv2 := [(2, vI (bs)), (6, vL (wkM V MK12 MM12 CH12 AM12 (V (570 + 12 * p + 0)) (V (570 + 12 * p + 1)) (V (570 + 12 * p + 2)) (V (570 + 12 * p + 3)) z 8)), (5, vI (z)), (0, .ref (gw_ad w 92)), (1, vI (p)), (3, vL (lst))]) rfl (by decide) rfl dX7_cheapest_103 ?_
                refine g_iload_n (pc := 104) hX 0 rfl dX7_cheapest_104 ?_
                refine g_iload (pc := 105) hX 2 rfl dX7_cheapest_105 ?_
                refine g_icmp_ne (pc := 107) (tgt := 115) hX (by first | assumption | exact inI_mk (by omega) (by omega)) (by first | assumption | exact inI_mk (by omega) (by omega)) dX7_cheapest_107 (by decide) (fun c_107 => ?_) (fun c_107 => ?_)
                · skip
                  refine g_lload_n (pc := 115) hX 5 rfl dX7_cheapest_115 ?_
                  refine g_lstore_n (pc := 116) hX (lv2 := [(3, vL (lst)), (2, vI (bs)), (6, vL (wkM V MK12 MM12 CH12 AM12 (V (570 + 12 * p + 0)) (V (570 + 12 * p + 1)) (V (570 + 12 * p + 2)) (V (570 + 12 * p + 3)) z 8)), (5, vI (z)), (0, .ref (gw_ad w 92)), (1, vI (p))]) rfl (by decide) rfl dX7_cheapest_116 ?_
                  refine g_iinc (pc := 117) hX (lv2 := [(5, vI (z + 1)), (3, vL (lst)), (2, vI (bs)), (6, vL (wkM V MK12 MM12 CH12 AM12 (V (570 + 12 * p + 0)) (V (570 + 12 * p + 1)) (V (570 + 12 * p + 2)) (V (570 + 12 * p + 3)) z 8)), (0, .ref (gw_ad w 92)), (1, vI (p))]) 3 rfl (by decide) rfl dX7_cheapest_117 ?_
                  refine g_goto (pc := 120) (tgt := 23) hX dX7_cheapest_120 (by decide) ?_
                  refine g_sub (lv2 := [(5, vI (z + 1)), (0, .ref (gw_ad w 92)), (1, vI (p)), (2, vI (bs)), (3, vL (lst))]) [0, 4, 5, 2, 1] rfl ?_
                  exact ihlq (z + 1) (bs) (lst) (WK81) (FL81) (PI81) _ (by omega) (show POSTM w S pm tm xm12 at12 wm12 wh12 ir12 V PV TY TX12 MK12 MM12 CH12 AM12 WT12 WK81 FL81 PI81 S81 from ⟨⟨⟨m81_92, m81_93, m81_94⟩, ⟨m81_95, m81_96⟩, ⟨m81_97, m81_98, m81_99, m81_100, m81_101⟩, ⟨m81_102, m81_103, m81_104⟩⟩, fun q hq => ((hP81.2 q hq).trans ((hQlq.2 q hq).trans rfl))⟩) (⟨by omega, by omega⟩) (⟨by omega, by omega⟩) (⟨by omega, by omega⟩) (hfl81) (hpi81) (by rw [chM_s V _ h0z, if_pos (by omega), if_neg (show ¬ ((chM V (fun z => wkM V MK12 MM12 CH12 AM12 (V (570 + 12 * p + 0)) (V (570 + 12 * p + 1)) (V (570 + 12 * p + 2)) (V (570 + 12 * p + 3)) z 8) z.toNat).1 < 0 ∨ wkM V MK12 MM12 CH12 AM12 (V (570 + 12 * p + 0)) (V (570 + 12 * p + 1)) (V (570 + 12 * p + 2)) (V (570 + 12 * p + 3)) z 8 < (chM V (fun z => wkM V MK12 MM12 CH12 AM12 (V (570 + 12 * p + 0)) (V (570 + 12 * p + 1)) (V (570 + 12 * p + 2)) (V (570 + 12 * p + 3)) z 8) z.toNat).2) by rw [← hbl.1, ← hbl.2]; omega)]; exact hbl)
                · skip
                  exact absurd c_107 (by omega)
              · skip
                refine g_iload (pc := 97) hX 1 rfl dX7_cheapest_97 ?_
                refine g_goto (pc := 99) (tgt := 103) hX dX7_cheapest_99 (by decide) ?_
                refine g_istore_n (pc := 103) hX (lv2 := [(2, vI (z)), (6, vL (wkM V MK12 MM12 CH12 AM12 (V (570 + 12 * p + 0)) (V (570 + 12 * p + 1)) (V (570 + 12 * p + 2)) (V (570 + 12 * p + 3)) z 8)), (5, vI (z)), (0, .ref (gw_ad w 92)), (1, vI (p)), (3, vL (lst))]) rfl (by decide) rfl dX7_cheapest_103 ?_
                refine g_iload_n (pc := 104) hX 0 rfl dX7_cheapest_104 ?_
                refine g_iload (pc := 105) hX 2 rfl dX7_cheapest_105 ?_
                refine g_icmp_ne (pc := 107) (tgt := 115) hX (by first | assumption | exact inI_mk (by omega) (by omega)) (by first | assumption | exact inI_mk (by omega) (by omega)) dX7_cheapest_107 (by decide) (fun c_107 => ?_) (fun c_107 => ?_)
                · skip
                  exact absurd rfl c_107
                · skip
                  refine g_lload (pc := 110) hX 1 rfl dX7_cheapest_110 ?_
                  refine g_goto (pc := 112) (tgt := 116) hX dX7_cheapest_112 (by decide) ?_
                  refine g_lstore_n (pc := 116) hX (lv2 := [(3, vL (wkM V MK12 MM12 CH12 AM12 (V (570 + 12 * p + 0)) (V (570 + 12 * p + 1)) (V (570 + 12 * p + 2)) (V (570 + 12 * p + 3)) z 8)), (2, vI (z)), (6, vL (wkM V MK12 MM12 CH12 AM12 (V (570 + 12 * p + 0)) (V (570 + 12 * p + 1)) (V (570 + 12 * p + 2)) (V (570 + 12 * p + 3)) z 8)), (5, vI (z)), (0, .ref (gw_ad w 92)), (1, vI (p))]) rfl (by decide) rfl dX7_cheapest_116 ?_
                  refine g_iinc (pc := 117) hX (lv2 := [(5, vI (z + 1)), (3, vL (wkM V MK12 MM12 CH12 AM12 (V (570 + 12 * p + 0)) (V (570 + 12 * p + 1)) (V (570 + 12 * p + 2)) (V (570 + 12 * p + 3)) z 8)), (2, vI (z)), (6, vL (wkM V MK12 MM12 CH12 AM12 (V (570 + 12 * p + 0)) (V (570 + 12 * p + 1)) (V (570 + 12 * p + 2)) (V (570 + 12 * p + 3)) z 8)), (0, .ref (gw_ad w 92)), (1, vI (p))]) 3 rfl (by decide) rfl dX7_cheapest_117 ?_
                  refine g_goto (pc := 120) (tgt := 23) hX dX7_cheapest_120 (by decide) ?_
                  refine g_sub (lv2 := [(5, vI (z + 1)), (0, .ref (gw_ad w 92)), (1, vI (p)), (2, vI (z)), (3, vL (wkM V MK12 MM12 CH12 AM12 (V (570 + 12 * p + 0)) (V (570 + 12 * p + 1)) (V (570 + 12 * p + 2)) (V (570 + 12 * p + 3)) z 8))]) [0, 4, 5, 2, 1] rfl ?_
                  exact ihlq (z + 1) (z) (wkM V MK12 MM12 CH12 AM12 (V (570 + 12 * p + 0)) (V (570 + 12 * p + 1)) (V (570 + 12 * p + 2)) (V (570 + 12 * p + 3)) z 8) (WK81) (FL81) (PI81) _ (by omega) (show POSTM w S pm tm xm12 at12 wm12 wh12 ir12 V PV TY TX12 MK12 MM12 CH12 AM12 WT12 WK81 FL81 PI81 S81 from ⟨⟨⟨m81_92, m81_93, m81_94⟩, ⟨m81_95, m81_96⟩, ⟨m81_97, m81_98, m81_99, m81_100, m81_101⟩, ⟨m81_102, m81_103, m81_104⟩⟩, fun q hq => ((hP81.2 q hq).trans ((hQlq.2 q hq).trans rfl))⟩) (⟨by omega, by omega⟩) (⟨by omega, by omega⟩) (⟨by omega, by omega⟩) (hfl81) (hpi81) (by rw [chM_s V _ h0z, if_pos (by omega), if_pos (show (chM V (fun z => wkM V MK12 MM12 CH12 AM12 (V (570 + 12 * p + 0)) (V (570 + 12 * p + 1)) (V (570 + 12 * p + 2)) (V (570 + 12 * p + 3)) z 8) z.toNat).1 < 0 ∨ wkM V MK12 MM12 CH12 AM12 (V (570 + 12 * p + 0)) (V (570 + 12 * p + 1)) (V (570 + 12 * p + 2)) (V (570 + 12 * p + 3)) z 8 < (chM V (fun z => wkM V MK12 MM12 CH12 AM12 (V (570 + 12 * p + 0)) (V (570 + 12 * p + 1)) (V (570 + 12 * p + 2)) (V (570 + 12 * p + 3)) z 8) z.toNat).2 by rw [← hbl.1, ← hbl.2]; omega)]; exact ⟨rfl, rfl⟩)
    refine g_sub (lv2 := [(5, vI (0)), (0, .ref (gw_ad w 92)), (1, vI (p)), (2, vI (-1000009)), (3, vL (0))]) [0, 3, 4, 2, 1] rfl ?_
    exact lq (((4 : Int) - 0) + 1).toNat (0) (-1000009) (0) (WK) (FL) (PI) _ (by omega) (show POSTM w S pm tm xm12 at12 wm12 wh12 ir12 V PV TY TX12 MK12 MM12 CH12 AM12 WT12 WK FL PI S12 from ⟨⟨⟨m12_92, m12_93, m12_94⟩, ⟨m12_95, m12_96⟩, ⟨m12_97, m12_98, m12_99, m12_100, m12_101⟩, ⟨m12_102, m12_103, m12_104⟩⟩, fun q hq => ((hP12.2 q hq).trans rfl)⟩) (⟨by omega, by omega⟩) (⟨by omega, by omega⟩) (⟨by omega, by omega⟩) (hfl) (hpi0) (⟨rfl, rfl⟩)
  · skip
    refine g_ldc (pc := 8) hX (z := -1000001) (List.mem_of_getElem? (i := 1) rfl) (by decide +kernel) dX7_cheapest_8 ?_
    refine g_iret (pc := 10) hX hR dX7_cheapest_10 ?_
    try simp only [decide_eq_true_eq, decide_eq_false_iff_not] at c_5
    exact (if_neg (by omega)).mpr (⟨rfl, rfl⟩)
