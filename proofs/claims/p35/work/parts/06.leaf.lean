set_option maxHeartbeats 4000000 in
set_option maxRecDepth 100000 in
theorem c_X6_isWithin {w : gW} {l : Launch} {S : Nat → va_E} {x lo hi : Int} (hx : inI x) (hlo : inI lo) (hhi : inI hi) :
    GM1 w l yX6_isWithin wsX6_isWithin { frames := 0, cells := 0, slots := 0, locals := 0 } [vI (x), vI (lo), vI (hi)] S
      (fun v S' => v = vI (bz (decide (lo ≤ x ∧ x ≤ hi))) ∧ S' = S) := by
  refine GM.start (own := RX6) (n := "isWithin") (d := "(III)Z") (by decide) rfl (Nat.le_of_ble_eq_true rfl) ?_
  intro X hX hR hXl
  subst hXl
  refine g_at rfl (lv2 := [(0, vI (x)), (1, vI (lo)), (2, vI (hi))]) rfl rfl rfl ?_
  refine g_iload_n (pc := 0) hX 0 rfl dX6_isWithin_0 ?_
  refine g_iload_n (pc := 1) hX 1 rfl dX6_isWithin_1 ?_
  refine g_icmp_lt (pc := 2) (tgt := 14) hX (by first | assumption | exact inI_mk (by omega) (by omega)) (by first | assumption | exact inI_mk (by omega) (by omega)) dX6_isWithin_2 (by decide) (fun c_2 => ?_) (fun c_2 => ?_)
  · skip
    refine g_iconst (pc := 14) hX dX6_isWithin_14 ?_
    refine g_at rfl rfl (st2 := [vI (bz false)]) rfl rfl ?_
    refine g_zret (pc := 15) hX hR dX6_isWithin_15 ?_
    exact ⟨vB_f (df (by omega)), rfl⟩
  · skip
    refine g_iload_n (pc := 5) hX 0 rfl dX6_isWithin_5 ?_
    refine g_iload_n (pc := 6) hX 2 rfl dX6_isWithin_6 ?_
    refine g_icmp_gt (pc := 7) (tgt := 14) hX (by first | assumption | exact inI_mk (by omega) (by omega)) (by first | assumption | exact inI_mk (by omega) (by omega)) dX6_isWithin_7 (by decide) (fun c_7 => ?_) (fun c_7 => ?_)
    · skip
      refine g_iconst (pc := 14) hX dX6_isWithin_14 ?_
      refine g_at rfl rfl (st2 := [vI (bz false)]) rfl rfl ?_
      refine g_zret (pc := 15) hX hR dX6_isWithin_15 ?_
      exact ⟨vB_f (df (by omega)), rfl⟩
    · skip
      refine g_iconst (pc := 10) hX dX6_isWithin_10 ?_
      refine g_goto (pc := 11) (tgt := 15) hX dX6_isWithin_11 (by decide) ?_
      refine g_at rfl rfl (st2 := [vI (bz true)]) rfl rfl ?_
      refine g_zret (pc := 15) hX hR dX6_isWithin_15 ?_
      exact ⟨vB_t (dt (by omega)), rfl⟩

set_option maxHeartbeats 4000000 in
set_option maxRecDepth 100000 in
theorem c_X6_isIndex {w : gW} {l : Launch} {S : Nat → va_E} {k n : Nat} {i : Int} {f : Int → Int} (hk : k < gw_N w) (ek : S k = AI w n f) (hn : n ≤ 2147483647) (hi : inI i) :
    GM1 w l yX6_isIndex wsX6_isIndex { frames := 0, cells := 0, slots := 0, locals := 0 } [vI (i), .ref (gw_ad w k)] S
      (fun v S' => v = vI (bz (decide (0 ≤ i ∧ i < n))) ∧ S' = S) := by
  refine GM.start (own := RX6) (n := "isIndex") (d := "(I[I)Z") (by decide) rfl (Nat.le_of_ble_eq_true rfl) ?_
  intro X hX hR hXl
  subst hXl
  refine g_at rfl (lv2 := [(0, vI (i)), (1, .ref (gw_ad w k))]) rfl rfl rfl ?_
  refine g_iload_n (pc := 0) hX 0 rfl dX6_isIndex_0 ?_
  refine g_if_lt (pc := 1) (tgt := 14) hX (by first | assumption | exact inI_mk (by omega) (by omega)) dX6_isIndex_1 (by decide) (fun c_1 => ?_) (fun c_1 => ?_)
  · skip
    refine g_iconst (pc := 14) hX dX6_isIndex_14 ?_
    refine g_at rfl rfl (st2 := [vI (bz false)]) rfl rfl ?_
    refine g_zret (pc := 15) hX hR dX6_isIndex_15 ?_
    exact ⟨vB_f (df (by omega)), rfl⟩
  · skip
    refine g_iload_n (pc := 4) hX 0 rfl dX6_isIndex_4 ?_
    refine g_aload_n (pc := 5) hX 1 rfl dX6_isIndex_5 ?_
    refine g_alenAI (pc := 6) hX k hk ek dX6_isIndex_6 ?_
    refine g_icmp_ge (pc := 7) (tgt := 14) hX (by first | assumption | exact inI_mk (by omega) (by omega)) (by first | assumption | exact inI_mk (by omega) (by omega)) dX6_isIndex_7 (by decide) (fun c_7 => ?_) (fun c_7 => ?_)
    · skip
      refine g_iconst (pc := 14) hX dX6_isIndex_14 ?_
      refine g_at rfl rfl (st2 := [vI (bz false)]) rfl rfl ?_
      refine g_zret (pc := 15) hX hR dX6_isIndex_15 ?_
      exact ⟨vB_f (df (by omega)), rfl⟩
    · skip
      refine g_iconst (pc := 10) hX dX6_isIndex_10 ?_
      refine g_goto (pc := 11) (tgt := 15) hX dX6_isIndex_11 (by decide) ?_
      refine g_at rfl rfl (st2 := [vI (bz true)]) rfl rfl ?_
      refine g_zret (pc := 15) hX hR dX6_isIndex_15 ?_
      exact ⟨vB_t (dt (by omega)), rfl⟩

set_option maxHeartbeats 4000000 in
set_option maxRecDepth 100000 in
theorem c_X6_isIndex_s0 {w : gW} {l : Launch} {S : Nat → va_E} {i : Int} (hi : inI i) :
    GM1 w l yX6_isIndex wsX6_isIndex { frames := 0, cells := 0, slots := 0, locals := 0 } [vI (i), .ref (gw_t w 0)] S
      (fun v S' => v = vI (bz (decide (0 ≤ i ∧ i < 8))) ∧ S' = S) := by
  refine GM.start (own := RX6) (n := "isIndex") (d := "(I[I)Z") (by decide) rfl (Nat.le_of_ble_eq_true rfl) ?_
  intro X hX hR hXl
  subst hXl
  refine g_at rfl (lv2 := [(0, vI (i)), (1, .ref (gw_t w 0))]) rfl rfl rfl ?_
  refine g_iload_n (pc := 0) hX 0 rfl dX6_isIndex_0 ?_
  refine g_if_lt (pc := 1) (tgt := 14) hX (by first | assumption | exact inI_mk (by omega) (by omega)) dX6_isIndex_1 (by decide) (fun c_1 => ?_) (fun c_1 => ?_)
  · skip
    refine g_iconst (pc := 14) hX dX6_isIndex_14 ?_
    refine g_at rfl rfl (st2 := [vI (bz false)]) rfl rfl ?_
    refine g_zret (pc := 15) hX hR dX6_isIndex_15 ?_
    exact ⟨vB_f (df (by omega)), rfl⟩
  · skip
    refine g_iload_n (pc := 4) hX 0 rfl dX6_isIndex_4 ?_
    refine g_aload_n (pc := 5) hX 1 rfl dX6_isIndex_5 ?_
    refine g_stlen (pc := 6) hX hX.2.2.2.2.2.2.2.2.1.1 dX6_isIndex_6 ?_
    refine g_icmp_ge (pc := 7) (tgt := 14) hX (by first | assumption | exact inI_mk (by omega) (by omega)) (by first | assumption | exact inI_mk (by omega) (by omega)) dX6_isIndex_7 (by decide) (fun c_7 => ?_) (fun c_7 => ?_)
    · skip
      refine g_iconst (pc := 14) hX dX6_isIndex_14 ?_
      refine g_at rfl rfl (st2 := [vI (bz false)]) rfl rfl ?_
      refine g_zret (pc := 15) hX hR dX6_isIndex_15 ?_
      exact ⟨vB_f (df (by omega)), rfl⟩
    · skip
      refine g_iconst (pc := 10) hX dX6_isIndex_10 ?_
      refine g_goto (pc := 11) (tgt := 15) hX dX6_isIndex_11 (by decide) ?_
      refine g_at rfl rfl (st2 := [vI (bz true)]) rfl rfl ?_
      refine g_zret (pc := 15) hX hR dX6_isIndex_15 ?_
      exact ⟨vB_t (dt (by omega)), rfl⟩

set_option maxHeartbeats 4000000 in
set_option maxRecDepth 100000 in
theorem c_X6_isIndex_s1 {w : gW} {l : Launch} {S : Nat → va_E} {i : Int} (hi : inI i) :
    GM1 w l yX6_isIndex wsX6_isIndex { frames := 0, cells := 0, slots := 0, locals := 0 } [vI (i), .ref (gw_t w 1)] S
      (fun v S' => v = vI (bz (decide (0 ≤ i ∧ i < 8))) ∧ S' = S) := by
  refine GM.start (own := RX6) (n := "isIndex") (d := "(I[I)Z") (by decide) rfl (Nat.le_of_ble_eq_true rfl) ?_
  intro X hX hR hXl
  subst hXl
  refine g_at rfl (lv2 := [(0, vI (i)), (1, .ref (gw_t w 1))]) rfl rfl rfl ?_
  refine g_iload_n (pc := 0) hX 0 rfl dX6_isIndex_0 ?_
  refine g_if_lt (pc := 1) (tgt := 14) hX (by first | assumption | exact inI_mk (by omega) (by omega)) dX6_isIndex_1 (by decide) (fun c_1 => ?_) (fun c_1 => ?_)
  · skip
    refine g_iconst (pc := 14) hX dX6_isIndex_14 ?_
    refine g_at rfl rfl (st2 := [vI (bz false)]) rfl rfl ?_
    refine g_zret (pc := 15) hX hR dX6_isIndex_15 ?_
    exact ⟨vB_f (df (by omega)), rfl⟩
  · skip
    refine g_iload_n (pc := 4) hX 0 rfl dX6_isIndex_4 ?_
    refine g_aload_n (pc := 5) hX 1 rfl dX6_isIndex_5 ?_
    refine g_stlen (pc := 6) hX hX.2.2.2.2.2.2.2.2.1.2.1 dX6_isIndex_6 ?_
    refine g_icmp_ge (pc := 7) (tgt := 14) hX (by first | assumption | exact inI_mk (by omega) (by omega)) (by first | assumption | exact inI_mk (by omega) (by omega)) dX6_isIndex_7 (by decide) (fun c_7 => ?_) (fun c_7 => ?_)
    · skip
      refine g_iconst (pc := 14) hX dX6_isIndex_14 ?_
      refine g_at rfl rfl (st2 := [vI (bz false)]) rfl rfl ?_
      refine g_zret (pc := 15) hX hR dX6_isIndex_15 ?_
      exact ⟨vB_f (df (by omega)), rfl⟩
    · skip
      refine g_iconst (pc := 10) hX dX6_isIndex_10 ?_
      refine g_goto (pc := 11) (tgt := 15) hX dX6_isIndex_11 (by decide) ?_
      refine g_at rfl rfl (st2 := [vI (bz true)]) rfl rfl ?_
      refine g_zret (pc := 15) hX hR dX6_isIndex_15 ?_
      exact ⟨vB_t (dt (by omega)), rfl⟩

set_option maxHeartbeats 4000000 in
set_option maxRecDepth 100000 in
theorem c_X6_isIndex_s2 {w : gW} {l : Launch} {S : Nat → va_E} {i : Int} (hi : inI i) :
    GM1 w l yX6_isIndex wsX6_isIndex { frames := 0, cells := 0, slots := 0, locals := 0 } [vI (i), .ref (gw_t w 2)] S
      (fun v S' => v = vI (bz (decide (0 ≤ i ∧ i < 6))) ∧ S' = S) := by
  refine GM.start (own := RX6) (n := "isIndex") (d := "(I[I)Z") (by decide) rfl (Nat.le_of_ble_eq_true rfl) ?_
  intro X hX hR hXl
  subst hXl
  refine g_at rfl (lv2 := [(0, vI (i)), (1, .ref (gw_t w 2))]) rfl rfl rfl ?_
  refine g_iload_n (pc := 0) hX 0 rfl dX6_isIndex_0 ?_
  refine g_if_lt (pc := 1) (tgt := 14) hX (by first | assumption | exact inI_mk (by omega) (by omega)) dX6_isIndex_1 (by decide) (fun c_1 => ?_) (fun c_1 => ?_)
  · skip
    refine g_iconst (pc := 14) hX dX6_isIndex_14 ?_
    refine g_at rfl rfl (st2 := [vI (bz false)]) rfl rfl ?_
    refine g_zret (pc := 15) hX hR dX6_isIndex_15 ?_
    exact ⟨vB_f (df (by omega)), rfl⟩
  · skip
    refine g_iload_n (pc := 4) hX 0 rfl dX6_isIndex_4 ?_
    refine g_aload_n (pc := 5) hX 1 rfl dX6_isIndex_5 ?_
    refine g_stlen (pc := 6) hX hX.2.2.2.2.2.2.2.2.1.2.2.1 dX6_isIndex_6 ?_
    refine g_icmp_ge (pc := 7) (tgt := 14) hX (by first | assumption | exact inI_mk (by omega) (by omega)) (by first | assumption | exact inI_mk (by omega) (by omega)) dX6_isIndex_7 (by decide) (fun c_7 => ?_) (fun c_7 => ?_)
    · skip
      refine g_iconst (pc := 14) hX dX6_isIndex_14 ?_
      refine g_at rfl rfl (st2 := [vI (bz false)]) rfl rfl ?_
      refine g_zret (pc := 15) hX hR dX6_isIndex_15 ?_
      exact ⟨vB_f (df (by omega)), rfl⟩
    · skip
      refine g_iconst (pc := 10) hX dX6_isIndex_10 ?_
      refine g_goto (pc := 11) (tgt := 15) hX dX6_isIndex_11 (by decide) ?_
      refine g_at rfl rfl (st2 := [vI (bz true)]) rfl rfl ?_
      refine g_zret (pc := 15) hX hR dX6_isIndex_15 ?_
      exact ⟨vB_t (dt (by omega)), rfl⟩

set_option maxHeartbeats 4000000 in
set_option maxRecDepth 100000 in
theorem c_X6_isZone {w : gW} {l : Launch} {S : Nat → va_E} {z : Int} (hz : inI z) :
    GM1 w l yX6_isZone wsX6_isZone { frames := 1, cells := 0, slots := 0, locals := 22 } [vI (z)] S
      (fun v S' => v = vI (bz (decide (0 ≤ z ∧ z ≤ 3))) ∧ S' = S) := by
  refine GM.start (own := RX6) (n := "isZone") (d := "(I)Z") (by decide) rfl (Nat.le_of_ble_eq_true rfl) ?_
  intro X hX hR hXl
  subst hXl
  refine g_at rfl (lv2 := [(0, vI (z))]) rfl rfl rfl ?_
  refine g_iload_n (pc := 0) hX 0 rfl dX6_isZone_0 ?_
  refine g_iconst (pc := 1) hX dX6_isZone_1 ?_
  refine g_iconst (pc := 2) hX dX6_isZone_2 ?_
  refine g_callT1 (pc := 3) (As := [vI (z), vI (0), vI (3)]) (st2 := []) hX (c_X6_isWithin (x := z) (lo := 0) (hi := 3) (by first | assumption | exact inI_mk (by omega) (by omega)) (by first | assumption | exact inI_mk (by omega) (by omega)) (by first | assumption | exact inI_mk (by omega) (by omega))) gX6_isZone_X6_isWithin (n := 3) (hw := rfl) (hrc := rfl) (hrs := rfl) (hd := by decide +kernel) (hR := ⟨Nat.le_of_ble_eq_true rfl, Nat.le_of_ble_eq_true rfl⟩) (hn := rfl) (hst := rfl) (hsum := Nat.le_of_ble_eq_true rfl) (hdg := dX6_isZone_3) ?_
  rintro _ S9 ⟨rfl, e9⟩
  rw [e9]
  clear e9 S9
  refine g_at (pc2 := 6) rfl rfl (st2 := [vI (bz (decide (0 ≤ z ∧ z ≤ 3)))]) rfl (S2 := S) rfl ?_
  refine g_zret (pc := 6) hX hR dX6_isZone_6 ?_
  exact ⟨rfl, rfl⟩

set_option maxHeartbeats 4000000 in
set_option maxRecDepth 100000 in
theorem c_X6_isSide {w : gW} {l : Launch} {S : Nat → va_E} {z : Int} (hz : inI z) :
    GM1 w l yX6_isSide wsX6_isSide { frames := 1, cells := 0, slots := 0, locals := 22 } [vI (z)] S
      (fun v S' => v = vI (bz (decide (1 ≤ z ∧ z ≤ 2000))) ∧ S' = S) := by
  refine GM.start (own := RX6) (n := "isSide") (d := "(I)Z") (by decide) rfl (Nat.le_of_ble_eq_true rfl) ?_
  intro X hX hR hXl
  subst hXl
  refine g_at rfl (lv2 := [(0, vI (z))]) rfl rfl rfl ?_
  refine g_iload_n (pc := 0) hX 0 rfl dX6_isSide_0 ?_
  refine g_iconst (pc := 1) hX dX6_isSide_1 ?_
  refine g_sipush (pc := 2) hX (by decide) dX6_isSide_2 ?_
  refine g_callT1 (pc := 5) (As := [vI (z), vI (1), vI (2000)]) (st2 := []) hX (c_X6_isWithin (x := z) (lo := 1) (hi := 2000) (by first | assumption | exact inI_mk (by omega) (by omega)) (by first | assumption | exact inI_mk (by omega) (by omega)) (by first | assumption | exact inI_mk (by omega) (by omega))) gX6_isSide_X6_isWithin (n := 3) (hw := rfl) (hrc := rfl) (hrs := rfl) (hd := by decide +kernel) (hR := ⟨Nat.le_of_ble_eq_true rfl, Nat.le_of_ble_eq_true rfl⟩) (hn := rfl) (hst := rfl) (hsum := Nat.le_of_ble_eq_true rfl) (hdg := dX6_isSide_5) ?_
  rintro _ S9 ⟨rfl, e9⟩
  rw [e9]
  clear e9 S9
  refine g_at (pc2 := 8) rfl rfl (st2 := [vI (bz (decide (1 ≤ z ∧ z ≤ 2000)))]) rfl (S2 := S) rfl ?_
  refine g_zret (pc := 8) hX hR dX6_isSide_8 ?_
  exact ⟨rfl, rfl⟩

set_option maxHeartbeats 4000000 in
set_option maxRecDepth 100000 in
theorem c_X6_areSides {w : gW} {l : Launch} {S : Nat → va_E} {a b c : Int} (ha : inI a) (hb : inI b) (hc : inI c) :
    GM1 w l yX6_areSides wsX6_areSides { frames := 2, cells := 0, slots := 0, locals := 42 } [vI (a), vI (b), vI (c)] S
      (fun v S' => v = vI (bz (decide ((1 ≤ a ∧ a ≤ 2000) ∧ (1 ≤ b ∧ b ≤ 2000) ∧ (1 ≤ c ∧ c ≤ 2000)))) ∧ S' = S) := by
  refine GM.start (own := RX6) (n := "areSides") (d := "(III)Z") (by decide) rfl (Nat.le_of_ble_eq_true rfl) ?_
  intro X hX hR hXl
  subst hXl
  refine g_at rfl (lv2 := [(0, vI (a)), (1, vI (b)), (2, vI (c))]) rfl rfl rfl ?_
  refine g_iload_n (pc := 0) hX 0 rfl dX6_areSides_0 ?_
  refine g_callT1 (pc := 1) (As := [vI (a)]) (st2 := []) hX (c_X6_isSide (z := a) (by first | assumption | exact inI_mk (by omega) (by omega))) gX6_areSides_X6_isSide (n := 1) (hw := rfl) (hrc := rfl) (hrs := rfl) (hd := by decide +kernel) (hR := ⟨Nat.le_of_ble_eq_true rfl, Nat.le_of_ble_eq_true rfl⟩) (hn := rfl) (hst := rfl) (hsum := Nat.le_of_ble_eq_true rfl) (hdg := dX6_areSides_1) ?_
  rintro _ S9 ⟨rfl, e9⟩
  rw [e9]
  clear e9 S9
  refine g_at (pc2 := 4) rfl rfl (st2 := [vI (bz (decide (1 ≤ a ∧ a ≤ 2000)))]) rfl (S2 := S) rfl ?_
  refine g_bif_eq (pc := 4) (tgt := 25) hX dX6_areSides_4 (by decide) (fun c_4 => ?_) (fun c_4 => ?_)
  · skip
    refine g_iconst (pc := 25) hX dX6_areSides_25 ?_
    refine g_at rfl rfl (st2 := [vI (bz false)]) rfl rfl ?_
    refine g_zret (pc := 26) hX hR dX6_areSides_26 ?_
    exact ⟨vB_f (df (by simp only [decide_eq_true_eq, decide_eq_false_iff_not] at *; omega)), rfl⟩
  · skip
    refine g_iload_n (pc := 7) hX 1 rfl dX6_areSides_7 ?_
    refine g_callT1 (pc := 8) (As := [vI (b)]) (st2 := []) hX (c_X6_isSide (z := b) (by first | assumption | exact inI_mk (by omega) (by omega))) gX6_areSides_X6_isSide (n := 1) (hw := rfl) (hrc := rfl) (hrs := rfl) (hd := by decide +kernel) (hR := ⟨Nat.le_of_ble_eq_true rfl, Nat.le_of_ble_eq_true rfl⟩) (hn := rfl) (hst := rfl) (hsum := Nat.le_of_ble_eq_true rfl) (hdg := dX6_areSides_8) ?_
    rintro _ S9 ⟨rfl, e9⟩
    rw [e9]
    clear e9 S9
    refine g_at (pc2 := 11) rfl rfl (st2 := [vI (bz (decide (1 ≤ b ∧ b ≤ 2000)))]) rfl (S2 := S) rfl ?_
    refine g_bif_eq (pc := 11) (tgt := 25) hX dX6_areSides_11 (by decide) (fun c_11 => ?_) (fun c_11 => ?_)
    · skip
      refine g_iconst (pc := 25) hX dX6_areSides_25 ?_
      refine g_at rfl rfl (st2 := [vI (bz false)]) rfl rfl ?_
      refine g_zret (pc := 26) hX hR dX6_areSides_26 ?_
      exact ⟨vB_f (df (by simp only [decide_eq_true_eq, decide_eq_false_iff_not] at *; omega)), rfl⟩
    · skip
      refine g_iload_n (pc := 14) hX 2 rfl dX6_areSides_14 ?_
      refine g_callT1 (pc := 15) (As := [vI (c)]) (st2 := []) hX (c_X6_isSide (z := c) (by first | assumption | exact inI_mk (by omega) (by omega))) gX6_areSides_X6_isSide (n := 1) (hw := rfl) (hrc := rfl) (hrs := rfl) (hd := by decide +kernel) (hR := ⟨Nat.le_of_ble_eq_true rfl, Nat.le_of_ble_eq_true rfl⟩) (hn := rfl) (hst := rfl) (hsum := Nat.le_of_ble_eq_true rfl) (hdg := dX6_areSides_15) ?_
      rintro _ S9 ⟨rfl, e9⟩
      rw [e9]
      clear e9 S9
      refine g_at (pc2 := 18) rfl rfl (st2 := [vI (bz (decide (1 ≤ c ∧ c ≤ 2000)))]) rfl (S2 := S) rfl ?_
      refine g_bif_eq (pc := 18) (tgt := 25) hX dX6_areSides_18 (by decide) (fun c_18 => ?_) (fun c_18 => ?_)
      · skip
        refine g_iconst (pc := 25) hX dX6_areSides_25 ?_
        refine g_at rfl rfl (st2 := [vI (bz false)]) rfl rfl ?_
        refine g_zret (pc := 26) hX hR dX6_areSides_26 ?_
        exact ⟨vB_f (df (by simp only [decide_eq_true_eq, decide_eq_false_iff_not] at *; omega)), rfl⟩
      · skip
        refine g_iconst (pc := 21) hX dX6_areSides_21 ?_
        refine g_goto (pc := 22) (tgt := 26) hX dX6_areSides_22 (by decide) ?_
        refine g_at rfl rfl (st2 := [vI (bz true)]) rfl rfl ?_
        refine g_zret (pc := 26) hX hR dX6_areSides_26 ?_
        exact ⟨vB_t (dt (by simp only [decide_eq_true_eq, decide_eq_false_iff_not] at *; omega)), rfl⟩

set_option maxHeartbeats 4000000 in
set_option maxRecDepth 100000 in
theorem c_X6_dividedUp {w : gW} {l : Launch} {S : Nat → va_E} {x y : Int} (h0 : 0 ≤ x) (hx : x ≤ 1000000000000) (hy : inI y) (h1 : 1 ≤ y) :
    GM1 w l yX6_dividedUp wsX6_dividedUp { frames := 0, cells := 0, slots := 0, locals := 0 } [vL (x), vI (y)] S
      (fun v S' => v = vI ((x + y - 1) / y) ∧ S' = S) := by
  refine GM.start (own := RX6) (n := "dividedUp") (d := "(JI)I") (by decide) rfl (Nat.le_of_ble_eq_true rfl) ?_
  intro X hX hR hXl
  subst hXl
  refine g_at rfl (lv2 := [(0, vL (x)), (2, vI (y))]) rfl rfl rfl ?_
  have hyA := hy.1; have hyB := hy.2
  refine g_iload_n (pc := 0) hX 1 rfl dX6_dividedUp_0 ?_
  refine g_iconst (pc := 1) hX dX6_dividedUp_1 ?_
  refine g_icmp_ge (pc := 2) (tgt := 9) hX (by first | assumption | exact inI_mk (by omega) (by omega)) (by first | assumption | exact inI_mk (by omega) (by omega)) dX6_dividedUp_2 (by decide) (fun c_2 => ?_) (fun c_2 => ?_)
  · skip
    refine g_lload_n (pc := 9) hX 0 rfl dX6_dividedUp_9 ?_
    refine g_iload_n (pc := 10) hX 1 rfl dX6_dividedUp_10 ?_
    refine g_i2l (pc := 11) hX (by first | assumption | exact inI_mk (by omega) (by omega)) dX6_dividedUp_11 ?_
    refine g_ladd (pc := 12) hX dX6_dividedUp_12 ?_
    refine g_lconst (pc := 13) hX (z := 1) rfl dX6_dividedUp_13 ?_
    refine g_lsub (pc := 14) hX dX6_dividedUp_14 ?_
    refine g_iload_n (pc := 15) hX 1 rfl dX6_dividedUp_15 ?_
    refine g_i2l (pc := 16) hX (by first | assumption | exact inI_mk (by omega) (by omega)) dX6_dividedUp_16 ?_
    refine g_ldiv (pc := 17) hX (by first | assumption | exact inL_mk (by omega) (by omega)) (by first | assumption | exact inL_mk (by omega) (by omega)) (by omega) dX6_dividedUp_17 ?_
    refine g_l2i (pc := 18) hX dX6_dividedUp_18 ?_
    refine g_iret (pc := 19) hX hR dX6_dividedUp_19 ?_
    exact ⟨vI_c (by rw [fdiv_a (by omega)]), rfl⟩
  · skip
    exact absurd h1 (by omega)

set_option maxHeartbeats 4000000 in
set_option maxRecDepth 100000 in
theorem c_X6_wholeSteps {w : gW} {l : Launch} {S : Nat → va_E} {x y : Int} (h0 : 0 ≤ x) (hx : inI x) (hy : inI y) (h1 : 1 ≤ y) :
    GM1 w l yX6_wholeSteps wsX6_wholeSteps { frames := 0, cells := 0, slots := 0, locals := 0 } [vI (x), vI (y)] S
      (fun v S' => v = vI (x / y * y) ∧ S' = S) := by
  refine GM.start (own := RX6) (n := "wholeSteps") (d := "(II)I") (by decide) rfl (Nat.le_of_ble_eq_true rfl) ?_
  intro X hX hR hXl
  subst hXl
  refine g_at rfl (lv2 := [(0, vI (x)), (1, vI (y))]) rfl rfl rfl ?_
  refine g_iload_n (pc := 0) hX 1 rfl dX6_wholeSteps_0 ?_
  refine g_iconst (pc := 1) hX dX6_wholeSteps_1 ?_
  refine g_icmp_ge (pc := 2) (tgt := 9) hX (by first | assumption | exact inI_mk (by omega) (by omega)) (by first | assumption | exact inI_mk (by omega) (by omega)) dX6_wholeSteps_2 (by decide) (fun c_2 => ?_) (fun c_2 => ?_)
  · skip
    refine g_iload_n (pc := 9) hX 0 rfl dX6_wholeSteps_9 ?_
    refine g_iload_n (pc := 10) hX 1 rfl dX6_wholeSteps_10 ?_
    refine g_idiv (pc := 11) hX (by first | assumption | exact inI_mk (by omega) (by omega)) (by first | assumption | exact inI_mk (by omega) (by omega)) (by omega) dX6_wholeSteps_11 ?_
    refine g_iload_n (pc := 12) hX 1 rfl dX6_wholeSteps_12 ?_
    refine g_imul (pc := 13) hX dX6_wholeSteps_13 ?_
    refine g_iret (pc := 14) hX hR dX6_wholeSteps_14 ?_
    exact ⟨vI_c (by rw [fdiv_a h0]), rfl⟩
  · skip
    exact absurd h1 (by omega)
