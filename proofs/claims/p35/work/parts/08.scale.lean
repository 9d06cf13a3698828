/-! ===== the scale: F the settings, g the numbers (load, time, zero, tare, offset, tracked, readings, latest, second, third) ===== -/
abbrev OS (w : gW) (k1 : Nat) (g : Int → Int) : va_E := .inr (3, [.ref (gw_ad w k1), vI (g 0), vI (g 1), vI (g 2), vI (g 3), vI (g 4), vI (g 5), vI (g 6), vI (g 7), vI (g 8), vI (g 9)])
def scF (F : Int → Int) : Prop := ((-20 ≤ F 0 ∧ F 0 ≤ 20) ∧ (-20 ≤ F 1 ∧ F 1 ≤ 20) ∧ (1 ≤ F 2 ∧ F 2 ≤ 100) ∧ (1000 ≤ F 3 ∧ F 3 ≤ 70000)) ∧ ((0 ≤ F 4 ∧ F 4 ≤ 100) ∧ (0 ≤ F 5 ∧ F 5 ≤ 200) ∧ (1000 ≤ F 6 ∧ F 6 ≤ 9999) ∧ (1 ≤ F 7 ∧ F 7 ≤ 1000))
def scG (g : Int → Int) : Prop := ((0 ≤ g 0 ∧ g 0 ≤ 100000) ∧ (0 ≤ g 1 ∧ g 1 ≤ 100000) ∧ (-2200000 ≤ g 2 ∧ g 2 ≤ 2200000) ∧ (-5000000 ≤ g 3 ∧ g 3 ≤ 5000000)) ∧ ((-(20 * g 1) ≤ g 4 ∧ g 4 ≤ 20 * g 1) ∧ (0 ≤ g 5 ∧ g 5 ≤ 3) ∧ (0 ≤ g 6 ∧ g 6 ≤ 3)) ∧ ((-2200000 ≤ g 7 ∧ g 7 ≤ 2200000) ∧ (-2200000 ≤ g 8 ∧ g 8 ≤ 2200000) ∧ (-2200000 ≤ g 9 ∧ g 9 ≤ 2200000))
def scRaw (F g : Int → Int) : Int := g 0 * (1000 + F 1) / 1000 + g 4
def scGross (F g : Int → Int) : Int := (2 * (scRaw F g - g 2) + F 2) / (2 * F 2) * F 2
def mx (a b : Int) : Int := if a < b then b else a
def mn (a b : Int) : Int := if b < a then b else a
def scSteady (F g : Int → Int) : Bool := decide (3 ≤ g 6 ∧ mx (g 7) (mx (g 8) (g 9)) - mn (g 7) (mn (g 8) (g 9)) ≤ F 4)
def scOver (F g : Int → Int) : Bool := decide (F 3 < scRaw F g - g 2)
def zabs (a : Int) : Int := if 0 ≤ a then a else -a
def scNear (F g : Int → Int) : Bool := decide (zabs (scRaw F g - g 2) ≤ F 3 / 20)
def scNum (F g : Int → Int) (i : Int) : Int := if i = 0 then g 1 else if i = 1 then scRaw F g else if i = 2 then scGross F g else if i = 3 then scGross F g - g 3 else if i = 4 then g 2 else if i = 5 then g 3 else if i = 6 then g 4 else if i = 7 then bz (scSteady F g) else if i = 8 then bz (scOver F g) else if i = 9 then g 5 else g 0
theorem sc_mul {F g : Int → Int} (hF : scF F) (hg : scG g) : 0 ≤ g 0 * (1000 + F 1) ∧ g 0 * (1000 + F 1) ≤ 102000000 := by
  obtain ⟨⟨-, f1, -, -⟩, -⟩ := hF
  obtain ⟨⟨g0, -, -, -⟩, -, -⟩ := hg
  refine ⟨Int.mul_nonneg g0.1 (by omega), ?_⟩
  have a := Int.mul_le_mul g0.2 (show 1000 + F 1 ≤ 1020 by omega) (by omega) (by omega)
  omega
theorem scRaw_b {F g : Int → Int} (hF : scF F) (hg : scG g) : -(20 * g 1) ≤ scRaw F g ∧ scRaw F g ≤ 102000 + 20 * g 1 := by
  have h := sc_mul hF hg
  obtain ⟨-, ⟨g4, -, -⟩, -⟩ := hg
  unfold scRaw
  omega
theorem scGross_b {F g : Int → Int} (hF : scF F) (hg : scG g) : 2 * scGross F g ≤ 2 * (scRaw F g - g 2) + F 2 ∧ 2 * (scRaw F g - g 2) - F 2 < 2 * scGross F g := by
  obtain ⟨⟨-, -, f2, -⟩, -⟩ := hF
  unfold scGross
  generalize hx : 2 * (scRaw F g - g 2) + F 2 = x
  have h1 := Int.ediv_mul_le x (show 2 * F 2 ≠ 0 by omega)
  have h2 := Int.lt_ediv_add_one_mul_self x (show 0 < 2 * F 2 by omega)
  rw [Int.add_mul, Int.one_mul] at h2
  have e : x / (2 * F 2) * (2 * F 2) = 2 * (x / (2 * F 2) * F 2) := by rw [Int.mul_left_comm]
  rw [e] at h1 h2
  omega
def scLoad (g : Int → Int) (x : Int) : Int → Int := updZ (updZ g 0 x) 6 0
def scPut (g : Int → Int) (r : Int) : Int → Int := updZ (updZ (updZ (updZ g 9 (g 8)) 8 (g 7)) 7 r) 6 (if 3 < g 6 + 1 then 3 else g 6 + 1)
def scTr1 (F g : Int → Int) : Int := if zabs (scRaw F g - g 2) ≤ F 5 then g 5 + 1 else 0
def scTrack (F g : Int → Int) : Int → Int := if scTr1 F g = 3 then updZ (updZ g 2 (scRaw F g)) 5 0 else updZ g 5 (scTr1 F g)
def scStep (F g : Int → Int) : Int → Int := updZ (updZ g 1 (g 1 + 1)) 4 (g 4 + F 0)
def scPass (F g : Int → Int) : Int → Int := scTrack F (scPut (scStep F g) (scRaw F (scStep F g)))
theorem scRaw_5 (F g : Int → Int) (x : Int) : scRaw F (updZ g 5 x) = scRaw F g := rfl
theorem scG_5 {g : Int → Int} {x : Int} (h : scG g) (h0 : 0 ≤ x) (h1 : x ≤ 3) : scG (updZ g 5 x) := ⟨h.1, ⟨h.2.1.1, ⟨h0, h1⟩, h.2.1.2.2⟩, h.2.2⟩
theorem scG_step {F g : Int → Int} (hF : scF F) (h : scG g) (hl : g 1 < 100000) : scG (scStep F g) := by
  obtain ⟨⟨⟨fa0, fb0⟩, -⟩, -⟩ := hF
  obtain ⟨⟨a0, ⟨a1, b1⟩, a2, a3⟩, ⟨⟨a4, b4⟩, a5, a6⟩, a7⟩ := h
  exact ⟨⟨a0, ⟨show (0 : Int) ≤ g 1 + 1 by omega, show g 1 + 1 ≤ 100000 by omega⟩, a2, a3⟩, ⟨⟨show -(20 * (g 1 + 1)) ≤ g 4 + F 0 by omega, show g 4 + F 0 ≤ 20 * (g 1 + 1) by omega⟩, a5, a6⟩, a7⟩
theorem scG_put {g : Int → Int} {x : Int} (h : scG g) (h0 : -2200000 ≤ x) (h1 : x ≤ 2200000) : scG (scPut g x) := by
  obtain ⟨a0, ⟨a4, a5, ⟨a6, b6⟩⟩, ⟨a7, a8, a9⟩⟩ := h
  refine ⟨a0, ⟨a4, a5, ?_⟩, ⟨⟨h0, h1⟩, a7, a8⟩⟩
  show 0 ≤ (if 3 < g 6 + 1 then 3 else g 6 + 1) ∧ (if 3 < g 6 + 1 then 3 else g 6 + 1) ≤ 3
  split <;> omega
theorem scG_track {F g : Int → Int} (hF : scF F) (h : scG g) (h5 : g 5 ≤ 2) : scG (scTrack F g) ∧ scTrack F g 5 ≤ 2 := by
  have hr := scRaw_b hF h
  obtain ⟨⟨a0, ⟨a1, b1⟩, a2, a3⟩, ⟨a4, ⟨a5, b5⟩, a6⟩, a7⟩ := h
  unfold scTrack
  have ht : 0 ≤ scTr1 F g ∧ scTr1 F g ≤ 3 := by
    unfold scTr1
    split <;> omega
  by_cases hc : scTr1 F g = 3
  · rw [if_pos hc]
    exact ⟨⟨⟨a0, ⟨a1, b1⟩, ⟨show -2200000 ≤ scRaw F g by omega, show scRaw F g ≤ 2200000 by omega⟩, a3⟩, ⟨a4, ⟨show (0 : Int) ≤ 0 by decide, show (0 : Int) ≤ 3 by decide⟩, a6⟩, a7⟩, show (0 : Int) ≤ 2 by decide⟩
  · rw [if_neg hc]
    exact ⟨⟨⟨a0, ⟨a1, b1⟩, a2, a3⟩, ⟨a4, ⟨show 0 ≤ scTr1 F g by omega, show scTr1 F g ≤ 3 by omega⟩, a6⟩, a7⟩, show scTr1 F g ≤ 2 by omega⟩
theorem scG_pass1 {F g : Int → Int} (hF : scF F) (h : scG g) (hl : g 1 < 100000) : scG (scPut (scStep F g) (scRaw F (scStep F g))) := by
  have h1 := scG_step hF h hl
  have hr := scRaw_b hF h1
  have hb := h1.1.2.1
  exact scG_put h1 (by omega) (by omega)
theorem scG_pass {F g : Int → Int} (hF : scF F) (h : scG g) (hl : g 1 < 100000) (h5 : g 5 ≤ 2) : scG (scPass F g) ∧ scPass F g 5 ≤ 2 ∧ scPass F g 1 = g 1 + 1 := by
  have h2 := scG_track hF (scG_pass1 hF h hl) h5
  refine ⟨h2.1, h2.2, ?_⟩
  unfold scPass scTrack
  split <;> rfl

set_option maxHeartbeats 4000000 in
set_option maxRecDepth 100000 in
theorem c_J9_floorDiv_7cf53 {w : gW} {l : Launch} {S : Nat → va_E} {x y : Int} (hx : inI x) (hy : inI y) (hp : 0 < y) :
    GM1 w l yJ9_floorDiv_7cf53 wsJ9_floorDiv_7cf53 { frames := 0, cells := 0, slots := 0, locals := 0 } [vI (x), vI (y)] S
      (fun v S' => v = vI (x / y) ∧ S' = S) := by
  refine GM.startJ (own := RJ9) (n := "floorDiv") (d := "(II)I") (by decide +kernel) rfl (Nat.le_of_ble_eq_true rfl) ?_
  intro X hX hR hXl
  subst hXl
  refine g_at rfl (lv2 := [(0, vI (x)), (1, vI (y))]) rfl rfl rfl ?_
  refine g_iload_n (pc := 0) hX 0 rfl dJ9_floorDiv_7cf53_0 ?_
  refine g_iload_n (pc := 1) hX 1 rfl dJ9_floorDiv_7cf53_1 ?_
  refine g_idiv (pc := 2) hX hx hy (by omega) dJ9_floorDiv_7cf53_2 ?_
  refine g_istore_n (pc := 3) hX (lv2 := [(2, vI ((x).tdiv (y))), (0, vI (x)), (1, vI (y))]) rfl (by decide) rfl dJ9_floorDiv_7cf53_3 ?_
  refine g_iload_n (pc := 4) hX 1 rfl dJ9_floorDiv_7cf53_4 ?_
  refine g_iload_n (pc := 5) hX 2 rfl dJ9_floorDiv_7cf53_5 ?_
  obtain ⟨z, ez, hz, hzx⟩ := ixor_ex hx hy (Int.le_of_lt hp)
  refine g_ixor (pc := 6) hX (z := z) ez dJ9_floorDiv_7cf53_6 ?_
  refine g_if_ge (pc := 7) (tgt := 21) hX hz dJ9_floorDiv_7cf53_7 (by decide) (fun c_7 => ?_) (fun c_7 => ?_)
  · skip
    refine g_iload_n (pc := 21) hX 0 rfl dJ9_floorDiv_7cf53_21 ?_
    refine g_iret (pc := 22) hX hR dJ9_floorDiv_7cf53_22 ?_
    exact ⟨vI_c (by first | exact fdiv_b hp c_14 | exact fdiv_a (by omega)), rfl⟩
  · skip
    refine g_iload_n (pc := 10) hX 0 rfl dJ9_floorDiv_7cf53_10 ?_
    refine g_iload_n (pc := 11) hX 2 rfl dJ9_floorDiv_7cf53_11 ?_
    refine g_imul (pc := 12) hX dJ9_floorDiv_7cf53_12 ?_
    refine g_iload_n (pc := 13) hX 1 rfl dJ9_floorDiv_7cf53_13 ?_
    refine g_icmp_eq (pc := 14) (tgt := 21) hX (by have h9 := tdiv_mul_b (x := x) (y := y) (by omega) hp; have h8 := hx.1; exact inI_mk (by omega) (by omega)) hx dJ9_floorDiv_7cf53_14 (by decide) (fun c_14 => ?_) (fun c_14 => ?_)
    · skip
      refine g_iload_n (pc := 21) hX 0 rfl dJ9_floorDiv_7cf53_21 ?_
      refine g_iret (pc := 22) hX hR dJ9_floorDiv_7cf53_22 ?_
      exact ⟨vI_c (by first | exact fdiv_b hp c_14 | exact fdiv_a (by omega)), rfl⟩
    · skip
      refine g_iload_n (pc := 17) hX 0 rfl dJ9_floorDiv_7cf53_17 ?_
      refine g_iconst (pc := 18) hX dJ9_floorDiv_7cf53_18 ?_
      refine g_isub (pc := 19) hX dJ9_floorDiv_7cf53_19 ?_
      refine g_iret (pc := 20) hX hR dJ9_floorDiv_7cf53_20 ?_
      exact ⟨vI_c (fdiv_c (by omega) hp c_14), rfl⟩

set_option maxHeartbeats 4000000 in
set_option maxRecDepth 100000 in
theorem c_X3_settingOf {w : gW} {l : Launch} {S : Nat → va_E} {k k1 : Nat} {F g : Int → Int} (hk : k < gw_N w) (hk1 : k1 < gw_N w) (ek : S k = OS w k1 g) (ek1 : S k1 = AI w 8 F) {i : Int} (h0 : 0 ≤ i) (h8 : i < 8) :
    GM1 w l yX3_settingOf wsX3_settingOf { frames := 0, cells := 0, slots := 0, locals := 0 } [.ref (gw_ad w k), vI (i)] S
      (fun v S' => v = vI (F i) ∧ S' = S) := by
  refine GM.start (own := RX3) (n := "settingOf") (d := "(I)I") (by decide) rfl (Nat.le_of_ble_eq_true rfl) ?_
  intro X hX hR hXl
  subst hXl
  refine g_at rfl (lv2 := [(0, .ref (gw_ad w k)), (1, vI (i))]) rfl rfl rfl ?_
  refine g_iload_n (pc := 0) hX 1 rfl dX3_settingOf_0 ?_
  refine g_if_lt (pc := 1) (tgt := 22) hX (by first | assumption | exact inI_mk (by omega) (by omega)) dX3_settingOf_1 (by decide) (fun c_1 => ?_) (fun c_1 => ?_)
  · skip
    exact absurd h0 (by omega)
  · skip
    refine g_iload_n (pc := 4) hX 1 rfl dX3_settingOf_4 ?_
    refine g_aload_n (pc := 5) hX 0 rfl dX3_settingOf_5 ?_
    refine g_get (pc := 6) hX (ci := 3) (fun _ h => List.mem_cons_of_mem _ (List.mem_append_right _ h)) rfl k hk ek 0 (by decide) (List.mem_of_getElem? (i := 1) rfl) rfl (v := .ref (gw_ad w k1)) rfl dX3_settingOf_6 ?_
    refine g_alenAI (pc := 9) hX k1 hk1 ek1 dX3_settingOf_9 ?_
    refine g_icmp_ge (pc := 10) (tgt := 22) hX (by first | assumption | exact inI_mk (by omega) (by omega)) (by first | assumption | exact inI_mk (by omega) (by omega)) dX3_settingOf_10 (by decide) (fun c_10 => ?_) (fun c_10 => ?_)
    · skip
      exact absurd h8 (by omega)
    · skip
      refine g_aload_n (pc := 13) hX 0 rfl dX3_settingOf_13 ?_
      refine g_get (pc := 14) hX (ci := 3) (fun _ h => List.mem_cons_of_mem _ (List.mem_append_right _ h)) rfl k hk ek 0 (by decide) (List.mem_of_getElem? (i := 1) rfl) rfl (v := .ref (gw_ad w k1)) rfl dX3_settingOf_14 ?_
      refine g_iload_n (pc := 17) hX 1 rfl dX3_settingOf_17 ?_
      refine g_iald (pc := 18) hX k1 hk1 ek1 (by omega) (by omega) (by decide) dX3_settingOf_18 ?_
      refine g_goto (pc := 19) (tgt := 23) hX dX3_settingOf_19 (by decide) ?_
      refine g_iret (pc := 23) hX hR dX3_settingOf_23 ?_
      exact ⟨rfl, rfl⟩

set_option maxHeartbeats 4000000 in
set_option maxRecDepth 100000 in
theorem c_X3_rawReading {w : gW} {l : Launch} {S : Nat → va_E} {k k1 : Nat} {F g : Int → Int} (hk : k < gw_N w) (hk1 : k1 < gw_N w) (ek : S k = OS w k1 g) (ek1 : S k1 = AI w 8 F) (hF : scF F) (hg : scG g) :
    GM1 w l yX3_rawReading wsX3_rawReading { frames := 1, cells := 0, slots := 0, locals := 22 } [.ref (gw_ad w k)] S
      (fun v S' => v = vI (scRaw F g) ∧ S' = S) := by
  refine GM.start (own := RX3) (n := "rawReading") (d := "()I") (by decide) rfl (Nat.le_of_ble_eq_true rfl) ?_
  intro X hX hR hXl
  subst hXl
  refine g_at rfl (lv2 := [(0, .ref (gw_ad w k))]) rfl rfl rfl ?_
  obtain ⟨⟨⟨fa0, fb0⟩, ⟨fa1, fb1⟩, ⟨fa2, fb2⟩, ⟨fa3, fb3⟩⟩, ⟨⟨fa4, fb4⟩, ⟨fa5, fb5⟩, ⟨fa6, fb6⟩, ⟨fa7, fb7⟩⟩⟩ := id hF
  obtain ⟨⟨⟨ga0, gb0⟩, ⟨ga1, gb1⟩, ⟨ga2, gb2⟩, ⟨ga3, gb3⟩⟩, ⟨⟨ga4, gb4⟩, ⟨ga5, gb5⟩, ⟨ga6, gb6⟩⟩, ⟨⟨ga7, gb7⟩, ⟨ga8, gb8⟩, ⟨ga9, gb9⟩⟩⟩ := id hg
  have hraw := scRaw_b hF hg
  have hgro := scGross_b hF hg
  have hmul := sc_mul hF hg
  refine g_aload_n (pc := 0) hX 0 rfl dX3_rawReading_0 ?_
  refine g_get (pc := 1) hX (ci := 3) (fun _ h => List.mem_cons_of_mem _ (List.mem_append_right _ h)) rfl k hk ek 1 (by decide) (List.mem_of_getElem? (i := 1) rfl) rfl (v := vI (g 0)) rfl dX3_rawReading_1 ?_
  refine g_sipush (pc := 4) hX (by decide) dX3_rawReading_4 ?_
  refine g_aload_n (pc := 7) hX 0 rfl dX3_rawReading_7 ?_
  refine g_iconst (pc := 8) hX dX3_rawReading_8 ?_
  refine g_callV1 (pc := 9) (ci := 3) (As := [vI (1)]) (st2 := [vI (1000), vI (g 0)]) hX k hk ek rfl (c_X3_settingOf hk hk1 ek ek1 (i := 1) (by omega) (by omega)) gX3_rawReading_X3_settingOf (n := 1) (hw := rfl) (hrc := rfl) (hrs := rfl) (hd := by decide +kernel) (hR := ⟨Nat.le_of_ble_eq_true rfl, Nat.le_of_ble_eq_true rfl⟩) (hn := rfl) (hst := rfl) (hsum := Nat.le_of_ble_eq_true rfl) (hdg := dX3_rawReading_9) ?_
  rintro _ S9 ⟨rfl, e9⟩
  rw [e9]
  clear e9 S9
  refine g_at (pc2 := 12) rfl rfl (st2 := [vI (F 1), vI (1000), vI (g 0)]) rfl (S2 := S) rfl ?_
  refine g_iadd (pc := 12) hX dX3_rawReading_12 ?_
  refine g_imul (pc := 13) hX dX3_rawReading_13 ?_
  refine g_sipush (pc := 14) hX (by decide) dX3_rawReading_14 ?_
  refine g_callT1 (pc := 17) (As := [vI ((g 0) * (1000 + (F 1))), vI (1000)]) (st2 := []) hX (c_J9_floorDiv_7cf53 (x := (g 0) * (1000 + (F 1))) (y := 1000) (by first | assumption | exact inI_mk (by omega) (by omega)) (by first | assumption | exact inI_mk (by omega) (by omega)) (by omega)) gX3_rawReading_J9_floorDiv_7cf53 (n := 2) (hw := rfl) (hrc := rfl) (hrs := rfl) (hd := by decide +kernel) (hR := ⟨Nat.le_of_ble_eq_true rfl, Nat.le_of_ble_eq_true rfl⟩) (hn := rfl) (hst := rfl) (hsum := Nat.le_of_ble_eq_true rfl) (hdg := dX3_rawReading_17) ?_
  rintro _ S9 ⟨rfl, e9⟩
  rw [e9]
  clear e9 S9
  refine g_at (pc2 := 20) rfl rfl (st2 := [vI (((g 0) * (1000 + (F 1))) / 1000)]) rfl (S2 := S) rfl ?_
  refine g_aload_n (pc := 20) hX 0 rfl dX3_rawReading_20 ?_
  refine g_get (pc := 21) hX (ci := 3) (fun _ h => List.mem_cons_of_mem _ (List.mem_append_right _ h)) rfl k hk ek 5 (by decide) (List.mem_of_getElem? (i := 2) rfl) rfl (v := vI (g 4)) rfl dX3_rawReading_21 ?_
  refine g_iadd (pc := 24) hX dX3_rawReading_24 ?_
  refine g_iret (pc := 25) hX hR dX3_rawReading_25 ?_
  exact ⟨rfl, rfl⟩

set_option maxHeartbeats 4000000 in
set_option maxRecDepth 100000 in
theorem c_X3_aboveZero {w : gW} {l : Launch} {S : Nat → va_E} {k k1 : Nat} {F g : Int → Int} (hk : k < gw_N w) (hk1 : k1 < gw_N w) (ek : S k = OS w k1 g) (ek1 : S k1 = AI w 8 F) (hF : scF F) (hg : scG g) :
    GM1 w l yX3_aboveZero wsX3_aboveZero { frames := 2, cells := 0, slots := 0, locals := 42 } [.ref (gw_ad w k)] S
      (fun v S' => v = vI (scRaw F g - g 2) ∧ S' = S) := by
  refine GM.start (own := RX3) (n := "aboveZero") (d := "()I") (by decide) rfl (Nat.le_of_ble_eq_true rfl) ?_
  intro X hX hR hXl
  subst hXl
  refine g_at rfl (lv2 := [(0, .ref (gw_ad w k))]) rfl rfl rfl ?_
  obtain ⟨⟨⟨fa0, fb0⟩, ⟨fa1, fb1⟩, ⟨fa2, fb2⟩, ⟨fa3, fb3⟩⟩, ⟨⟨fa4, fb4⟩, ⟨fa5, fb5⟩, ⟨fa6, fb6⟩, ⟨fa7, fb7⟩⟩⟩ := id hF
  obtain ⟨⟨⟨ga0, gb0⟩, ⟨ga1, gb1⟩, ⟨ga2, gb2⟩, ⟨ga3, gb3⟩⟩, ⟨⟨ga4, gb4⟩, ⟨ga5, gb5⟩, ⟨ga6, gb6⟩⟩, ⟨⟨ga7, gb7⟩, ⟨ga8, gb8⟩, ⟨ga9, gb9⟩⟩⟩ := id hg
  have hraw := scRaw_b hF hg
  have hgro := scGross_b hF hg
  have hmul := sc_mul hF hg
  refine g_aload_n (pc := 0) hX 0 rfl dX3_aboveZero_0 ?_
  refine g_callV1 (pc := 1) (ci := 3) (As := []) (st2 := []) hX k hk ek rfl (c_X3_rawReading hk hk1 ek ek1 hF hg) gX3_aboveZero_X3_rawReading (n := 0) (hw := rfl) (hrc := rfl) (hrs := rfl) (hd := by decide +kernel) (hR := ⟨Nat.le_of_ble_eq_true rfl, Nat.le_of_ble_eq_true rfl⟩) (hn := rfl) (hst := rfl) (hsum := Nat.le_of_ble_eq_true rfl) (hdg := dX3_aboveZero_1) ?_
  rintro _ S9 ⟨rfl, e9⟩
  rw [e9]
  clear e9 S9
  refine g_at (pc2 := 4) rfl rfl (st2 := [vI (scRaw F g)]) rfl (S2 := S) rfl ?_
  refine g_aload_n (pc := 4) hX 0 rfl dX3_aboveZero_4 ?_
  refine g_get (pc := 5) hX (ci := 3) (fun _ h => List.mem_cons_of_mem _ (List.mem_append_right _ h)) rfl k hk ek 3 (by decide) (List.mem_of_getElem? (i := 1) rfl) rfl (v := vI (g 2)) rfl dX3_aboveZero_5 ?_
  refine g_isub (pc := 8) hX dX3_aboveZero_8 ?_
  refine g_iret (pc := 9) hX hR dX3_aboveZero_9 ?_
  exact ⟨rfl, rfl⟩

set_option maxHeartbeats 4000000 in
set_option maxRecDepth 100000 in
theorem c_X3_grossWeight {w : gW} {l : Launch} {S : Nat → va_E} {k k1 : Nat} {F g : Int → Int} (hk : k < gw_N w) (hk1 : k1 < gw_N w) (ek : S k = OS w k1 g) (ek1 : S k1 = AI w 8 F) (hF : scF F) (hg : scG g) :
    GM1 w l yX3_grossWeight wsX3_grossWeight { frames := 2, cells := 0, slots := 0, locals := 42 } [.ref (gw_ad w k)] S
      (fun v S' => v = vI (scGross F g) ∧ S' = S) := by
  refine GM.start (own := RX3) (n := "grossWeight") (d := "()I") (by decide) rfl (Nat.le_of_ble_eq_true rfl) ?_
  intro X hX hR hXl
  subst hXl
  refine g_at rfl (lv2 := [(0, .ref (gw_ad w k))]) rfl rfl rfl ?_
  obtain ⟨⟨⟨fa0, fb0⟩, ⟨fa1, fb1⟩, ⟨fa2, fb2⟩, ⟨fa3, fb3⟩⟩, ⟨⟨fa4, fb4⟩, ⟨fa5, fb5⟩, ⟨fa6, fb6⟩, ⟨fa7, fb7⟩⟩⟩ := id hF
  obtain ⟨⟨⟨ga0, gb0⟩, ⟨ga1, gb1⟩, ⟨ga2, gb2⟩, ⟨ga3, gb3⟩⟩, ⟨⟨ga4, gb4⟩, ⟨ga5, gb5⟩, ⟨ga6, gb6⟩⟩, ⟨⟨ga7, gb7⟩, ⟨ga8, gb8⟩, ⟨ga9, gb9⟩⟩⟩ := id hg
  have hraw := scRaw_b hF hg
  have hgro := scGross_b hF hg
  have hmul := sc_mul hF hg
  refine g_aload_n (pc := 0) hX 0 rfl dX3_grossWeight_0 ?_
  refine g_iconst (pc := 1) hX dX3_grossWeight_1 ?_
  refine g_callV1 (pc := 2) (ci := 3) (As := [vI (2)]) (st2 := []) hX k hk ek rfl (c_X3_settingOf hk hk1 ek ek1 (i := 2) (by omega) (by omega)) gX3_grossWeight_X3_settingOf (n := 1) (hw := rfl) (hrc := rfl) (hrs := rfl) (hd := by decide +kernel) (hR := ⟨Nat.le_of_ble_eq_true rfl, Nat.le_of_ble_eq_true rfl⟩) (hn := rfl) (hst := rfl) (hsum := Nat.le_of_ble_eq_true rfl) (hdg := dX3_grossWeight_2) ?_
  rintro _ S9 ⟨rfl, e9⟩
  rw [e9]
  clear e9 S9
  refine g_at (pc2 := 5) rfl rfl (st2 := [vI (F 2)]) rfl (S2 := S) rfl ?_
  refine g_istore_n (pc := 5) hX (lv2 := [(1, vI (F 2)), (0, .ref (gw_ad w k))]) rfl (by decide) rfl dX3_grossWeight_5 ?_
  refine g_iload_n (pc := 6) hX 0 rfl dX3_grossWeight_6 ?_
  refine g_iconst (pc := 7) hX dX3_grossWeight_7 ?_
  refine g_icmp_ge (pc := 8) (tgt := 13) hX (by first | assumption | exact inI_mk (by omega) (by omega)) (by first | assumption | exact inI_mk (by omega) (by omega)) dX3_grossWeight_8 (by decide) (fun c_8 => ?_) (fun c_8 => ?_)
  · skip
    refine g_iconst (pc := 13) hX dX3_grossWeight_13 ?_
    refine g_aload_n (pc := 14) hX 1 rfl dX3_grossWeight_14 ?_
    refine g_callV1 (pc := 15) (ci := 3) (As := []) (st2 := [vI (2)]) hX k hk ek rfl (c_X3_rawReading hk hk1 ek ek1 hF hg) gX3_grossWeight_X3_rawReading (n := 0) (hw := rfl) (hrc := rfl) (hrs := rfl) (hd := by decide +kernel) (hR := ⟨Nat.le_of_ble_eq_true rfl, Nat.le_of_ble_eq_true rfl⟩) (hn := rfl) (hst := rfl) (hsum := Nat.le_of_ble_eq_true rfl) (hdg := dX3_grossWeight_15) ?_
    rintro _ S9 ⟨rfl, e9⟩
    rw [e9]
    clear e9 S9
    refine g_at (pc2 := 18) rfl rfl (st2 := [vI (scRaw F g), vI (2)]) rfl (S2 := S) rfl ?_
    refine g_aload_n (pc := 18) hX 1 rfl dX3_grossWeight_18 ?_
    refine g_get (pc := 19) hX (ci := 3) (fun _ h => List.mem_cons_of_mem _ (List.mem_append_right _ h)) rfl k hk ek 3 (by decide) (List.mem_of_getElem? (i := 1) rfl) rfl (v := vI (g 2)) rfl dX3_grossWeight_19 ?_
    refine g_isub (pc := 22) hX dX3_grossWeight_22 ?_
    refine g_imul (pc := 23) hX dX3_grossWeight_23 ?_
    refine g_iload_n (pc := 24) hX 0 rfl dX3_grossWeight_24 ?_
    refine g_iadd (pc := 25) hX dX3_grossWeight_25 ?_
    refine g_iconst (pc := 26) hX dX3_grossWeight_26 ?_
    refine g_iload_n (pc := 27) hX 0 rfl dX3_grossWeight_27 ?_
    refine g_imul (pc := 28) hX dX3_grossWeight_28 ?_
    refine g_callT1 (pc := 29) (As := [vI ((2 * ((scRaw F g) - (g 2))) + (F 2)), vI (2 * (F 2))]) (st2 := []) hX (c_J9_floorDiv_7cf53 (x := (2 * ((scRaw F g) - (g 2))) + (F 2)) (y := 2 * (F 2)) (by first | assumption | exact inI_mk (by omega) (by omega)) (by first | assumption | exact inI_mk (by omega) (by omega)) (by omega)) gX3_grossWeight_J9_floorDiv_7cf53 (n := 2) (hw := rfl) (hrc := rfl) (hrs := rfl) (hd := by decide +kernel) (hR := ⟨Nat.le_of_ble_eq_true rfl, Nat.le_of_ble_eq_true rfl⟩) (hn := rfl) (hst := rfl) (hsum := Nat.le_of_ble_eq_true rfl) (hdg := dX3_grossWeight_29) ?_
    rintro _ S9 ⟨rfl, e9⟩
    rw [e9]
    clear e9 S9
    refine g_at (pc2 := 32) rfl rfl (st2 := [vI (((2 * ((scRaw F g) - (g 2))) + (F 2)) / (2 * (F 2)))]) rfl (S2 := S) rfl ?_
    refine g_iload_n (pc := 32) hX 0 rfl dX3_grossWeight_32 ?_
    refine g_imul (pc := 33) hX dX3_grossWeight_33 ?_
    refine g_iret (pc := 34) hX hR dX3_grossWeight_34 ?_
    exact ⟨rfl, rfl⟩
  · skip
    exact absurd c_8 (by omega)

set_option maxHeartbeats 4000000 in
set_option maxRecDepth 100000 in
theorem c_X3_netWeight {w : gW} {l : Launch} {S : Nat → va_E} {k k1 : Nat} {F g : Int → Int} (hk : k < gw_N w) (hk1 : k1 < gw_N w) (ek : S k = OS w k1 g) (ek1 : S k1 = AI w 8 F) (hF : scF F) (hg : scG g) :
    GM1 w l yX3_netWeight wsX3_netWeight { frames := 3, cells := 0, slots := 0, locals := 63 } [.ref (gw_ad w k)] S
      (fun v S' => v = vI (scGross F g - g 3) ∧ S' = S) := by
  refine GM.start (own := RX3) (n := "netWeight") (d := "()I") (by decide) rfl (Nat.le_of_ble_eq_true rfl) ?_
  intro X hX hR hXl
  subst hXl
  refine g_at rfl (lv2 := [(0, .ref (gw_ad w k))]) rfl rfl rfl ?_
  obtain ⟨⟨⟨fa0, fb0⟩, ⟨fa1, fb1⟩, ⟨fa2, fb2⟩, ⟨fa3, fb3⟩⟩, ⟨⟨fa4, fb4⟩, ⟨fa5, fb5⟩, ⟨fa6, fb6⟩, ⟨fa7, fb7⟩⟩⟩ := id hF
  obtain ⟨⟨⟨ga0, gb0⟩, ⟨ga1, gb1⟩, ⟨ga2, gb2⟩, ⟨ga3, gb3⟩⟩, ⟨⟨ga4, gb4⟩, ⟨ga5, gb5⟩, ⟨ga6, gb6⟩⟩, ⟨⟨ga7, gb7⟩, ⟨ga8, gb8⟩, ⟨ga9, gb9⟩⟩⟩ := id hg
  have hraw := scRaw_b hF hg
  have hgro := scGross_b hF hg
  have hmul := sc_mul hF hg
  refine g_aload_n (pc := 0) hX 0 rfl dX3_netWeight_0 ?_
  refine g_callV1 (pc := 1) (ci := 3) (As := []) (st2 := []) hX k hk ek rfl (c_X3_grossWeight hk hk1 ek ek1 hF hg) gX3_netWeight_X3_grossWeight (n := 0) (hw := rfl) (hrc := rfl) (hrs := rfl) (hd := by decide +kernel) (hR := ⟨Nat.le_of_ble_eq_true rfl, Nat.le_of_ble_eq_true rfl⟩) (hn := rfl) (hst := rfl) (hsum := Nat.le_of_ble_eq_true rfl) (hdg := dX3_netWeight_1) ?_
  rintro _ S9 ⟨rfl, e9⟩
  rw [e9]
  clear e9 S9
  refine g_at (pc2 := 4) rfl rfl (st2 := [vI (scGross F g)]) rfl (S2 := S) rfl ?_
  refine g_aload_n (pc := 4) hX 0 rfl dX3_netWeight_4 ?_
  refine g_get (pc := 5) hX (ci := 3) (fun _ h => List.mem_cons_of_mem _ (List.mem_append_right _ h)) rfl k hk ek 4 (by decide) (List.mem_of_getElem? (i := 1) rfl) rfl (v := vI (g 3)) rfl dX3_netWeight_5 ?_
  refine g_isub (pc := 8) hX dX3_netWeight_8 ?_
  refine g_iret (pc := 9) hX hR dX3_netWeight_9 ?_
  exact ⟨rfl, rfl⟩

set_option maxHeartbeats 4000000 in
set_option maxRecDepth 100000 in
theorem c_X3_isOver {w : gW} {l : Launch} {S : Nat → va_E} {k k1 : Nat} {F g : Int → Int} (hk : k < gw_N w) (hk1 : k1 < gw_N w) (ek : S k = OS w k1 g) (ek1 : S k1 = AI w 8 F) (hF : scF F) (hg : scG g) :
    GM1 w l yX3_isOver wsX3_isOver { frames := 3, cells := 0, slots := 0, locals := 62 } [.ref (gw_ad w k)] S
      (fun v S' => v = vI (bz (scOver F g)) ∧ S' = S) := by
  refine GM.start (own := RX3) (n := "isOver") (d := "()Z") (by decide) rfl (Nat.le_of_ble_eq_true rfl) ?_
  intro X hX hR hXl
  subst hXl
  refine g_at rfl (lv2 := [(0, .ref (gw_ad w k))]) rfl rfl rfl ?_
  obtain ⟨⟨⟨fa0, fb0⟩, ⟨fa1, fb1⟩, ⟨fa2, fb2⟩, ⟨fa3, fb3⟩⟩, ⟨⟨fa4, fb4⟩, ⟨fa5, fb5⟩, ⟨fa6, fb6⟩, ⟨fa7, fb7⟩⟩⟩ := id hF
  obtain ⟨⟨⟨ga0, gb0⟩, ⟨ga1, gb1⟩, ⟨ga2, gb2⟩, ⟨ga3, gb3⟩⟩, ⟨⟨ga4, gb4⟩, ⟨ga5, gb5⟩, ⟨ga6, gb6⟩⟩, ⟨⟨ga7, gb7⟩, ⟨ga8, gb8⟩, ⟨ga9, gb9⟩⟩⟩ := id hg
  have hraw := scRaw_b hF hg
  have hgro := scGross_b hF hg
  have hmul := sc_mul hF hg
  refine g_aload_n (pc := 0) hX 0 rfl dX3_isOver_0 ?_
  refine g_callV1 (pc := 1) (ci := 3) (As := []) (st2 := []) hX k hk ek rfl (c_X3_aboveZero hk hk1 ek ek1 hF hg) gX3_isOver_X3_aboveZero (n := 0) (hw := rfl) (hrc := rfl) (hrs := rfl) (hd := by decide +kernel) (hR := ⟨Nat.le_of_ble_eq_true rfl, Nat.le_of_ble_eq_true rfl⟩) (hn := rfl) (hst := rfl) (hsum := Nat.le_of_ble_eq_true rfl) (hdg := dX3_isOver_1) ?_
  rintro _ S9 ⟨rfl, e9⟩
  rw [e9]
  clear e9 S9
  refine g_at (pc2 := 4) rfl rfl (st2 := [vI (scRaw F g - g 2)]) rfl (S2 := S) rfl ?_
  refine g_aload_n (pc := 4) hX 0 rfl dX3_isOver_4 ?_
  refine g_iconst (pc := 5) hX dX3_isOver_5 ?_
  refine g_callV1 (pc := 6) (ci := 3) (As := [vI (3)]) (st2 := [vI (scRaw F g - g 2)]) hX k hk ek rfl (c_X3_settingOf hk hk1 ek ek1 (i := 3) (by omega) (by omega)) gX3_isOver_X3_settingOf (n := 1) (hw := rfl) (hrc := rfl) (hrs := rfl) (hd := by decide +kernel) (hR := ⟨Nat.le_of_ble_eq_true rfl, Nat.le_of_ble_eq_true rfl⟩) (hn := rfl) (hst := rfl) (hsum := Nat.le_of_ble_eq_true rfl) (hdg := dX3_isOver_6) ?_
  rintro _ S9 ⟨rfl, e9⟩
  rw [e9]
  clear e9 S9
  refine g_at (pc2 := 9) rfl rfl (st2 := [vI (F 3), vI (scRaw F g - g 2)]) rfl (S2 := S) rfl ?_
  refine g_icmp_le (pc := 9) (tgt := 16) hX (by first | assumption | exact inI_mk (by omega) (by omega)) (by first | assumption | exact inI_mk (by omega) (by omega)) dX3_isOver_9 (by decide) (fun c_9 => ?_) (fun c_9 => ?_)
  · skip
    refine g_iconst (pc := 16) hX dX3_isOver_16 ?_
    refine g_at rfl rfl (st2 := [vI (bz false)]) rfl rfl ?_
    refine g_zret (pc := 17) hX hR dX3_isOver_17 ?_
    exact ⟨vB_f (df (by omega)), rfl⟩
  · skip
    refine g_iconst (pc := 12) hX dX3_isOver_12 ?_
    refine g_goto (pc := 13) (tgt := 17) hX dX3_isOver_13 (by decide) ?_
    refine g_at rfl rfl (st2 := [vI (bz true)]) rfl rfl ?_
    refine g_zret (pc := 17) hX hR dX3_isOver_17 ?_
    exact ⟨vB_t (dt (by omega)), rfl⟩

set_option maxHeartbeats 4000000 in
set_option maxRecDepth 100000 in
theorem c_X3_isSteady {w : gW} {l : Launch} {S : Nat → va_E} {k k1 : Nat} {F g : Int → Int} (hk : k < gw_N w) (hk1 : k1 < gw_N w) (ek : S k = OS w k1 g) (ek1 : S k1 = AI w 8 F) (hF : scF F) (hg : scG g) :
    GM1 w l yX3_isSteady wsX3_isSteady { frames := 1, cells := 0, slots := 0, locals := 21 } [.ref (gw_ad w k)] S
      (fun v S' => v = vI (bz (scSteady F g)) ∧ S' = S) := by
  refine GM.start (own := RX3) (n := "isSteady") (d := "()Z") (by decide) rfl (Nat.le_of_ble_eq_true rfl) ?_
  intro X hX hR hXl
  subst hXl
  refine g_at rfl (lv2 := [(0, .ref (gw_ad w k))]) rfl rfl rfl ?_
  obtain ⟨⟨⟨fa0, fb0⟩, ⟨fa1, fb1⟩, ⟨fa2, fb2⟩, ⟨fa3, fb3⟩⟩, ⟨⟨fa4, fb4⟩, ⟨fa5, fb5⟩, ⟨fa6, fb6⟩, ⟨fa7, fb7⟩⟩⟩ := id hF
  obtain ⟨⟨⟨ga0, gb0⟩, ⟨ga1, gb1⟩, ⟨ga2, gb2⟩, ⟨ga3, gb3⟩⟩, ⟨⟨ga4, gb4⟩, ⟨ga5, gb5⟩, ⟨ga6, gb6⟩⟩, ⟨⟨ga7, gb7⟩, ⟨ga8, gb8⟩, ⟨ga9, gb9⟩⟩⟩ := id hg
  have hraw := scRaw_b hF hg
  have hgro := scGross_b hF hg
  have hmul := sc_mul hF hg
  refine g_aload_n (pc := 0) hX 0 rfl dX3_isSteady_0 ?_
  refine g_get (pc := 1) hX (ci := 3) (fun _ h => List.mem_cons_of_mem _ (List.mem_append_right _ h)) rfl k hk ek 8 (by decide) (List.mem_of_getElem? (i := 1) rfl) rfl (v := vI (g 7)) rfl dX3_isSteady_1 ?_
  refine g_aload_n (pc := 4) hX 0 rfl dX3_isSteady_4 ?_
  refine g_get (pc := 5) hX (ci := 3) (fun _ h => List.mem_cons_of_mem _ (List.mem_append_right _ h)) rfl k hk ek 9 (by decide) (List.mem_of_getElem? (i := 2) rfl) rfl (v := vI (g 8)) rfl dX3_isSteady_5 ?_
  refine g_aload_n (pc := 8) hX 0 rfl dX3_isSteady_8 ?_
  refine g_get (pc := 9) hX (ci := 3) (fun _ h => List.mem_cons_of_mem _ (List.mem_append_right _ h)) rfl k hk ek 10 (by decide) (List.mem_of_getElem? (i := 3) rfl) rfl (v := vI (g 9)) rfl dX3_isSteady_9 ?_
  refine g_mmax (pc := 12) hX (by first | assumption | exact inI_mk (by omega) (by omega)) (by first | assumption | exact inI_mk (by omega) (by omega)) (List.mem_of_getElem? (i := 4) rfl) (List.mem_of_getElem? (i := 5) rfl) (List.mem_of_getElem? (i := 6) rfl) (List.mem_of_getElem? (i := 7) rfl) (Nat.le_of_ble_eq_true rfl) (Nat.le_of_ble_eq_true rfl) dX3_isSteady_12 ?_
  obtain ⟨a0, ea0⟩ : ∃ z : Int, z = (if g 8 < g 9 then g 9 else g 8) := ⟨_, rfl⟩
  refine g_at rfl rfl (st2 := [vI (a0), vI (g 7)]) (by rw [ea0]) rfl ?_
  have ha0 : -2200000 ≤ a0 ∧ a0 ≤ 2200000 := by rw [ea0]; constructor <;> (split <;> omega)
  refine g_mmax (pc := 15) hX (by first | assumption | exact inI_mk (by omega) (by omega)) (by first | assumption | exact inI_mk (by omega) (by omega)) (List.mem_of_getElem? (i := 4) rfl) (List.mem_of_getElem? (i := 5) rfl) (List.mem_of_getElem? (i := 6) rfl) (List.mem_of_getElem? (i := 7) rfl) (Nat.le_of_ble_eq_true rfl) (Nat.le_of_ble_eq_true rfl) dX3_isSteady_15 ?_
  obtain ⟨a1, ea1⟩ : ∃ z : Int, z = (if g 7 < a0 then a0 else g 7) := ⟨_, rfl⟩
  refine g_at rfl rfl (st2 := [vI (a1)]) (by rw [ea1]) rfl ?_
  have ha1 : -2200000 ≤ a1 ∧ a1 ≤ 2200000 := by rw [ea1, ea0]; constructor <;> (repeat (first | omega | split))
  have hmx : mx (g 7) (mx (g 8) (g 9)) = a1 := by rw [ea1, ea0]; rfl
  refine g_istore_n (pc := 18) hX (lv2 := [(1, vI (a1)), (0, .ref (gw_ad w k))]) rfl (by decide) rfl dX3_isSteady_18 ?_
  refine g_aload_n (pc := 19) hX 1 rfl dX3_isSteady_19 ?_
  refine g_get (pc := 20) hX (ci := 3) (fun _ h => List.mem_cons_of_mem _ (List.mem_append_right _ h)) rfl k hk ek 8 (by decide) (List.mem_of_getElem? (i := 1) rfl) rfl (v := vI (g 7)) rfl dX3_isSteady_20 ?_
  refine g_aload_n (pc := 23) hX 1 rfl dX3_isSteady_23 ?_
  refine g_get (pc := 24) hX (ci := 3) (fun _ h => List.mem_cons_of_mem _ (List.mem_append_right _ h)) rfl k hk ek 9 (by decide) (List.mem_of_getElem? (i := 2) rfl) rfl (v := vI (g 8)) rfl dX3_isSteady_24 ?_
  refine g_aload_n (pc := 27) hX 1 rfl dX3_isSteady_27 ?_
  refine g_get (pc := 28) hX (ci := 3) (fun _ h => List.mem_cons_of_mem _ (List.mem_append_right _ h)) rfl k hk ek 10 (by decide) (List.mem_of_getElem? (i := 3) rfl) rfl (v := vI (g 9)) rfl dX3_isSteady_28 ?_
  refine g_mmin (pc := 31) hX (by first | assumption | exact inI_mk (by omega) (by omega)) (by first | assumption | exact inI_mk (by omega) (by omega)) (List.mem_of_getElem? (i := 8) rfl) (List.mem_of_getElem? (i := 9) rfl) (List.mem_of_getElem? (i := 6) rfl) (List.mem_of_getElem? (i := 10) rfl) (Nat.le_of_ble_eq_true rfl) (Nat.le_of_ble_eq_true rfl) dX3_isSteady_31 ?_
  obtain ⟨b0, eb0⟩ : ∃ z : Int, z = (if g 9 < g 8 then g 9 else g 8) := ⟨_, rfl⟩
  refine g_at rfl rfl (st2 := [vI (b0), vI (g 7)]) (by rw [eb0]) rfl ?_
  have hb0 : -2200000 ≤ b0 ∧ b0 ≤ 2200000 := by rw [eb0]; constructor <;> (split <;> omega)
  refine g_mmin (pc := 34) hX (by first | assumption | exact inI_mk (by omega) (by omega)) (by first | assumption | exact inI_mk (by omega) (by omega)) (List.mem_of_getElem? (i := 8) rfl) (List.mem_of_getElem? (i := 9) rfl) (List.mem_of_getElem? (i := 6) rfl) (List.mem_of_getElem? (i := 10) rfl) (Nat.le_of_ble_eq_true rfl) (Nat.le_of_ble_eq_true rfl) dX3_isSteady_34 ?_
  obtain ⟨b1, eb1⟩ : ∃ z : Int, z = (if b0 < g 7 then b0 else g 7) := ⟨_, rfl⟩
  refine g_at rfl rfl (st2 := [vI (b1)]) (by rw [eb1]) rfl ?_
  have hb1 : -2200000 ≤ b1 ∧ b1 ≤ 2200000 := by rw [eb1, eb0]; constructor <;> (repeat (first | omega | split))
  have hmn : mn (g 7) (mn (g 8) (g 9)) = b1 := by rw [eb1, eb0]; rfl
  refine g_istore_n (pc := 37) hX (lv2 := [(2, vI (b1)), (1, vI (a1)), (0, .ref (gw_ad w k))]) rfl (by decide) rfl dX3_isSteady_37 ?_
  refine g_aload_n (pc := 38) hX 2 rfl dX3_isSteady_38 ?_
  refine g_get (pc := 39) hX (ci := 3) (fun _ h => List.mem_cons_of_mem _ (List.mem_append_right _ h)) rfl k hk ek 7 (by decide) (List.mem_of_getElem? (i := 11) rfl) rfl (v := vI (g 6)) rfl dX3_isSteady_39 ?_
  refine g_iconst (pc := 42) hX dX3_isSteady_42 ?_
  refine g_icmp_lt (pc := 43) (tgt := 61) hX (by first | assumption | exact inI_mk (by omega) (by omega)) (by first | assumption | exact inI_mk (by omega) (by omega)) dX3_isSteady_43 (by decide) (fun c_43 => ?_) (fun c_43 => ?_)
  · skip
    refine g_iconst (pc := 61) hX dX3_isSteady_61 ?_
    refine g_at rfl rfl (st2 := [vI (bz false)]) rfl rfl ?_
    refine g_zret (pc := 62) hX hR dX3_isSteady_62 ?_
    exact ⟨vB_f (df (by rw [hmx, hmn]; omega)), rfl⟩
  · skip
    refine g_iload_n (pc := 46) hX 1 rfl dX3_isSteady_46 ?_
    refine g_iload_n (pc := 47) hX 0 rfl dX3_isSteady_47 ?_
    refine g_isub (pc := 48) hX dX3_isSteady_48 ?_
    refine g_aload_n (pc := 49) hX 2 rfl dX3_isSteady_49 ?_
    refine g_iconst (pc := 50) hX dX3_isSteady_50 ?_
    refine g_callV1 (pc := 51) (ci := 3) (As := [vI (4)]) (st2 := [vI (a1 - b1)]) hX k hk ek rfl (c_X3_settingOf hk hk1 ek ek1 (i := 4) (by omega) (by omega)) gX3_isSteady_X3_settingOf (n := 1) (hw := rfl) (hrc := rfl) (hrs := rfl) (hd := by decide +kernel) (hR := ⟨Nat.le_of_ble_eq_true rfl, Nat.le_of_ble_eq_true rfl⟩) (hn := rfl) (hst := rfl) (hsum := Nat.le_of_ble_eq_true rfl) (hdg := dX3_isSteady_51) ?_
    rintro _ S9 ⟨rfl, e9⟩
    rw [e9]
    clear e9 S9
    refine g_at (pc2 := 54) rfl rfl (st2 := [vI (F 4), vI (a1 - b1)]) rfl (S2 := S) rfl ?_
    refine g_icmp_gt (pc := 54) (tgt := 61) hX (by first | assumption | exact inI_mk (by omega) (by omega)) (by first | assumption | exact inI_mk (by omega) (by omega)) dX3_isSteady_54 (by decide) (fun c_54 => ?_) (fun c_54 => ?_)
    · skip
      refine g_iconst (pc := 61) hX dX3_isSteady_61 ?_
      refine g_at rfl rfl (st2 := [vI (bz false)]) rfl rfl ?_
      refine g_zret (pc := 62) hX hR dX3_isSteady_62 ?_
      exact ⟨vB_f (df (by rw [hmx, hmn]; omega)), rfl⟩
    · skip
      refine g_iconst (pc := 57) hX dX3_isSteady_57 ?_
      refine g_goto (pc := 58) (tgt := 62) hX dX3_isSteady_58 (by decide) ?_
      refine g_at rfl rfl (st2 := [vI (bz true)]) rfl rfl ?_
      refine g_zret (pc := 62) hX hR dX3_isSteady_62 ?_
      exact ⟨vB_t (dt (by rw [hmx, hmn]; omega)), rfl⟩

set_option maxHeartbeats 4000000 in
set_option maxRecDepth 100000 in
theorem c_X3_isNearZero {w : gW} {l : Launch} {S : Nat → va_E} {k k1 : Nat} {F g : Int → Int} (hk : k < gw_N w) (hk1 : k1 < gw_N w) (ek : S k = OS w k1 g) (ek1 : S k1 = AI w 8 F) (hF : scF F) (hg : scG g) :
    GM1 w l yX3_isNearZero wsX3_isNearZero { frames := 3, cells := 0, slots := 0, locals := 62 } [.ref (gw_ad w k)] S
      (fun v S' => v = vI (bz (scNear F g)) ∧ S' = S) := by
  refine GM.start (own := RX3) (n := "isNearZero") (d := "()Z") (by decide) rfl (Nat.le_of_ble_eq_true rfl) ?_
  intro X hX hR hXl
  subst hXl
  refine g_at rfl (lv2 := [(0, .ref (gw_ad w k))]) rfl rfl rfl ?_
  obtain ⟨⟨⟨fa0, fb0⟩, ⟨fa1, fb1⟩, ⟨fa2, fb2⟩, ⟨fa3, fb3⟩⟩, ⟨⟨fa4, fb4⟩, ⟨fa5, fb5⟩, ⟨fa6, fb6⟩, ⟨fa7, fb7⟩⟩⟩ := id hF
  obtain ⟨⟨⟨ga0, gb0⟩, ⟨ga1, gb1⟩, ⟨ga2, gb2⟩, ⟨ga3, gb3⟩⟩, ⟨⟨ga4, gb4⟩, ⟨ga5, gb5⟩, ⟨ga6, gb6⟩⟩, ⟨⟨ga7, gb7⟩, ⟨ga8, gb8⟩, ⟨ga9, gb9⟩⟩⟩ := id hg
  have hraw := scRaw_b hF hg
  have hgro := scGross_b hF hg
  have hmul := sc_mul hF hg
  refine g_aload_n (pc := 0) hX 0 rfl dX3_isNearZero_0 ?_
  refine g_callV1 (pc := 1) (ci := 3) (As := []) (st2 := []) hX k hk ek rfl (c_X3_aboveZero hk hk1 ek ek1 hF hg) gX3_isNearZero_X3_aboveZero (n := 0) (hw := rfl) (hrc := rfl) (hrs := rfl) (hd := by decide +kernel) (hR := ⟨Nat.le_of_ble_eq_true rfl, Nat.le_of_ble_eq_true rfl⟩) (hn := rfl) (hst := rfl) (hsum := Nat.le_of_ble_eq_true rfl) (hdg := dX3_isNearZero_1) ?_
  rintro _ S9 ⟨rfl, e9⟩
  rw [e9]
  clear e9 S9
  refine g_at (pc2 := 4) rfl rfl (st2 := [vI (scRaw F g - g 2)]) rfl (S2 := S) rfl ?_
  refine g_mabs (pc := 4) hX (by first | assumption | exact inI_mk (by omega) (by omega)) (List.mem_of_getElem? (i := 1) rfl) (List.mem_of_getElem? (i := 2) rfl) (List.mem_of_getElem? (i := 3) rfl) (List.mem_of_getElem? (i := 4) rfl) (Nat.le_of_ble_eq_true rfl) (Nat.le_of_ble_eq_true rfl) dX3_isNearZero_4 ?_
  obtain ⟨a0, ea0⟩ : ∃ z : Int, z = (if 0 ≤ scRaw F g - g 2 then scRaw F g - g 2 else -(scRaw F g - g 2)) := ⟨_, rfl⟩
  refine g_at rfl rfl (st2 := [vI (a0)]) (by rw [ea0]) rfl ?_
  have hzb : zabs (scRaw F g - g 2) = a0 := ea0.symm
  have ha0 : 0 ≤ a0 ∧ a0 ≤ 5000000 := by rw [ea0]; constructor <;> (split <;> omega)
  have hdv : (F 3).tdiv 20 = F 3 / 20 := fdiv_a (by omega)
  refine g_aload_n (pc := 7) hX 0 rfl dX3_isNearZero_7 ?_
  refine g_iconst (pc := 8) hX dX3_isNearZero_8 ?_
  refine g_callV1 (pc := 9) (ci := 3) (As := [vI (3)]) (st2 := [vI (a0)]) hX k hk ek rfl (c_X3_settingOf hk hk1 ek ek1 (i := 3) (by omega) (by omega)) gX3_isNearZero_X3_settingOf (n := 1) (hw := rfl) (hrc := rfl) (hrs := rfl) (hd := by decide +kernel) (hR := ⟨Nat.le_of_ble_eq_true rfl, Nat.le_of_ble_eq_true rfl⟩) (hn := rfl) (hst := rfl) (hsum := Nat.le_of_ble_eq_true rfl) (hdg := dX3_isNearZero_9) ?_
  rintro _ S9 ⟨rfl, e9⟩
  rw [e9]
  clear e9 S9
  refine g_at (pc2 := 12) rfl rfl (st2 := [vI (F 3), vI (a0)]) rfl (S2 := S) rfl ?_
  refine g_bipush (pc := 12) hX (by decide) dX3_isNearZero_12 ?_
  refine g_idiv (pc := 14) hX (by first | assumption | exact inI_mk (by omega) (by omega)) (by first | assumption | exact inI_mk (by omega) (by omega)) (by omega) dX3_isNearZero_14 ?_
  refine g_icmp_gt (pc := 15) (tgt := 22) hX (by first | assumption | exact inI_mk (by omega) (by omega)) (by first | assumption | exact inI_mk (by omega) (by omega)) dX3_isNearZero_15 (by decide) (fun c_15 => ?_) (fun c_15 => ?_)
  · skip
    refine g_iconst (pc := 22) hX dX3_isNearZero_22 ?_
    refine g_at rfl rfl (st2 := [vI (bz false)]) rfl rfl ?_
    refine g_zret (pc := 23) hX hR dX3_isNearZero_23 ?_
    exact ⟨vB_f (df (by rw [hzb]; omega)), rfl⟩
  · skip
    refine g_iconst (pc := 18) hX dX3_isNearZero_18 ?_
    refine g_goto (pc := 19) (tgt := 23) hX dX3_isNearZero_19 (by decide) ?_
    refine g_at rfl rfl (st2 := [vI (bz true)]) rfl rfl ?_
    refine g_zret (pc := 23) hX hR dX3_isNearZero_23 ?_
    exact ⟨vB_t (dt (by rw [hzb]; omega)), rfl⟩

set_option maxHeartbeats 4000000 in
set_option maxRecDepth 100000 in
theorem c_X3_putSetting {w : gW} {l : Launch} {S : Nat → va_E} {k k1 : Nat} {F g : Int → Int} (hk : k < gw_N w) (hk1 : k1 < gw_N w) (ek : S k = OS w k1 g) (ek1 : S k1 = AI w 8 F) {i x : Int} (h0 : 0 ≤ i) (h8 : i < 8) :
    GM0 w l yX3_putSetting wsX3_putSetting { frames := 1, cells := 0, slots := 0, locals := 21 } [.ref (gw_ad w k), vI (i), vI (x)] S
      (fun S' => S' = va_up S k1 (AI w 8 (updZ F i x))) := by
  refine GM.start (own := RX3) (n := "putSetting") (d := "(II)V") (by decide) rfl (Nat.le_of_ble_eq_true rfl) ?_
  intro X hX hR hXl
  subst hXl
  refine g_at rfl (lv2 := [(0, .ref (gw_ad w k)), (1, vI (i)), (2, vI (x))]) rfl rfl rfl ?_
  refine g_iload_n (pc := 0) hX 1 rfl dX3_putSetting_0 ?_
  refine g_aload_n (pc := 1) hX 0 rfl dX3_putSetting_1 ?_
  refine g_get (pc := 2) hX (ci := 3) (fun _ h => List.mem_cons_of_mem _ (List.mem_append_right _ h)) rfl k hk ek 0 (by decide) (List.mem_of_getElem? (i := 1) rfl) rfl (v := .ref (gw_ad w k1)) rfl dX3_putSetting_2 ?_
  refine g_callN1 (pc := 5) (As := [vI (i), .ref (gw_ad w k1)]) (st2 := []) hX (c_X6_isIndex hk1 ek1 (by decide) (by first | assumption | exact inI_mk (by omega) (by omega))) ggX3_putSetting_X6_isIndex (List.mem_of_getElem? (i := 6) rfl) (List.mem_of_getElem? (i := 2) rfl) (List.mem_of_getElem? (i := 3) rfl) (n := 2) (hw := rfl) (hrc := rfl) (hrs := rfl) (hd := by decide +kernel) (hR := ⟨Nat.le_of_ble_eq_true rfl, Nat.le_of_ble_eq_true rfl⟩) (hn := rfl) (hst := rfl) (hsum := Nat.le_of_ble_eq_true rfl) (hdg := dX3_putSetting_5) ?_
  rintro _ S9 ⟨rfl, e9⟩
  rw [e9]
  clear e9 S9
  refine g_at (pc2 := 8) rfl rfl (st2 := [vI (bz (decide (0 ≤ i ∧ i < (8 : Nat))))]) rfl (S2 := S) rfl ?_
  refine g_bif_eq (pc := 8) (tgt := 18) hX dX3_putSetting_8 (by decide) (fun c_8 => ?_) (fun c_8 => ?_)
  · skip
    exact absurd c_8 (by simp only [decide_eq_false_iff_not]; omega)
  · skip
    refine g_aload_n (pc := 11) hX 0 rfl dX3_putSetting_11 ?_
    refine g_get (pc := 12) hX (ci := 3) (fun _ h => List.mem_cons_of_mem _ (List.mem_append_right _ h)) rfl k hk ek 0 (by decide) (List.mem_of_getElem? (i := 1) rfl) rfl (v := .ref (gw_ad w k1)) rfl dX3_putSetting_12 ?_
    refine g_iload_n (pc := 15) hX 1 rfl dX3_putSetting_15 ?_
    refine g_iload_n (pc := 16) hX 2 rfl dX3_putSetting_16 ?_
    refine g_iast (pc := 17) hX k1 hk1 ek1 (by omega) (by omega) (by decide) dX3_putSetting_17 ?_
    refine g_at rfl rfl rfl (S2 := (va_up S k1 (AI w 8 (updZ (F) (i) (x))))) rfl ?_
    refine g_vret (pc := 18) hX hR dX3_putSetting_18 ?_
    exact rfl

set_option maxHeartbeats 4000000 in
set_option maxRecDepth 100000 in
theorem c_X3_putLoad {w : gW} {l : Launch} {S : Nat → va_E} {k k1 : Nat} {F g : Int → Int} (hk : k < gw_N w) (hk1 : k1 < gw_N w) (ek : S k = OS w k1 g) (ek1 : S k1 = AI w 8 F) {x : Int} :
    GM0 w l yX3_putLoad wsX3_putLoad { frames := 0, cells := 0, slots := 0, locals := 0 } [.ref (gw_ad w k), vI (x)] S
      (fun S' => S' = va_up S k (OS w k1 (scLoad g x))) := by
  refine GM.start (own := RX3) (n := "putLoad") (d := "(I)V") (by decide) rfl (Nat.le_of_ble_eq_true rfl) ?_
  intro X hX hR hXl
  subst hXl
  refine g_at rfl (lv2 := [(0, .ref (gw_ad w k)), (1, vI (x))]) rfl rfl rfl ?_
  refine g_aload_n (pc := 0) hX 0 rfl dX3_putLoad_0 ?_
  refine g_iload_n (pc := 1) hX 1 rfl dX3_putLoad_1 ?_
  refine g_put (pc := 2) hX (ci := 3) (fun _ h => List.mem_cons_of_mem _ (List.mem_append_right _ h)) rfl tyX3 tyX3_ok nmX3 k hk ek 1 (by decide) (List.mem_of_getElem? (i := 1) rfl) rfl rfl (tyX3_ok 1 (by decide)) rfl (fit_int _) (Nat.le_of_ble_eq_true rfl) dX3_putLoad_2 ?_
  refine g_at rfl rfl rfl (S2 := (va_up S k (.inr (3, [.ref (gw_ad w k1), vI (x), vI (g 1), vI (g 2), vI (g 3), vI (g 4), vI (g 5), vI (g 6), vI (g 7), vI (g 8), vI (g 9)])))) rfl ?_
  refine g_aload_n (pc := 5) hX 0 rfl dX3_putLoad_5 ?_
  refine g_iconst (pc := 6) hX dX3_putLoad_6 ?_
  refine g_put (pc := 7) hX (ci := 3) (fun _ h => List.mem_cons_of_mem _ (List.mem_append_right _ h)) rfl tyX3 tyX3_ok nmX3 k hk (up_eq _ _ _) 7 (by decide) (List.mem_of_getElem? (i := 2) rfl) rfl rfl (tyX3_ok 7 (by decide)) rfl (fit_int _) (Nat.le_of_ble_eq_true rfl) dX3_putLoad_7 ?_
  refine g_at rfl rfl rfl (S2 := (va_up (va_up S k (.inr (3, [.ref (gw_ad w k1), vI (x), vI (g 1), vI (g 2), vI (g 3), vI (g 4), vI (g 5), vI (g 6), vI (g 7), vI (g 8), vI (g 9)]))) k (.inr (3, [.ref (gw_ad w k1), vI (x), vI (g 1), vI (g 2), vI (g 3), vI (g 4), vI (g 5), vI (0), vI (g 7), vI (g 8), vI (g 9)])))) rfl ?_
  refine g_vret (pc := 10) hX hR dX3_putLoad_10 ?_
  rw [up_up]
  rfl

set_option maxHeartbeats 4000000 in
set_option maxRecDepth 100000 in
theorem c_X3_putDown {w : gW} {l : Launch} {S : Nat → va_E} {k k1 : Nat} {F g : Int → Int} (hk : k < gw_N w) (hk1 : k1 < gw_N w) (ek : S k = OS w k1 g) (ek1 : S k1 = AI w 8 F) {x : Int} (h6 : 0 ≤ g 6 ∧ g 6 ≤ 3) :
    GM0 w l yX3_putDown wsX3_putDown { frames := 1, cells := 0, slots := 0, locals := 21 } [.ref (gw_ad w k), vI (x)] S
      (fun S' => S' = va_up S k (OS w k1 (scPut g x))) := by
  refine GM.start (own := RX3) (n := "putDown") (d := "(I)V") (by decide) rfl (Nat.le_of_ble_eq_true rfl) ?_
  intro X hX hR hXl
  subst hXl
  refine g_at rfl (lv2 := [(0, .ref (gw_ad w k)), (1, vI (x))]) rfl rfl rfl ?_
  refine g_aload_n (pc := 0) hX 0 rfl dX3_putDown_0 ?_
  refine g_aload_n (pc := 1) hX 0 rfl dX3_putDown_1 ?_
  refine g_get (pc := 2) hX (ci := 3) (fun _ h => List.mem_cons_of_mem _ (List.mem_append_right _ h)) rfl k hk ek 9 (by decide) (List.mem_of_getElem? (i := 1) rfl) rfl (v := vI (g 8)) rfl dX3_putDown_2 ?_
  refine g_put (pc := 5) hX (ci := 3) (fun _ h => List.mem_cons_of_mem _ (List.mem_append_right _ h)) rfl tyX3 tyX3_ok nmX3 k hk ek 10 (by decide) (List.mem_of_getElem? (i := 2) rfl) rfl rfl (tyX3_ok 10 (by decide)) rfl (fit_int _) (Nat.le_of_ble_eq_true rfl) dX3_putDown_5 ?_
  refine g_at rfl rfl rfl (S2 := (va_up S k (.inr (3, [.ref (gw_ad w k1), vI (g 0), vI (g 1), vI (g 2), vI (g 3), vI (g 4), vI (g 5), vI (g 6), vI (g 7), vI (g 8), vI (g 8)])))) rfl ?_
  refine g_aload_n (pc := 8) hX 0 rfl dX3_putDown_8 ?_
  refine g_aload_n (pc := 9) hX 0 rfl dX3_putDown_9 ?_
  refine g_get (pc := 10) hX (ci := 3) (fun _ h => List.mem_cons_of_mem _ (List.mem_append_right _ h)) rfl k hk (up_eq _ _ _) 8 (by decide) (List.mem_of_getElem? (i := 3) rfl) rfl (v := vI (g 7)) rfl dX3_putDown_10 ?_
  refine g_put (pc := 13) hX (ci := 3) (fun _ h => List.mem_cons_of_mem _ (List.mem_append_right _ h)) rfl tyX3 tyX3_ok nmX3 k hk (up_eq _ _ _) 9 (by decide) (List.mem_of_getElem? (i := 1) rfl) rfl rfl (tyX3_ok 9 (by decide)) rfl (fit_int _) (Nat.le_of_ble_eq_true rfl) dX3_putDown_13 ?_
  refine g_at rfl rfl rfl (S2 := (va_up (va_up S k (.inr (3, [.ref (gw_ad w k1), vI (g 0), vI (g 1), vI (g 2), vI (g 3), vI (g 4), vI (g 5), vI (g 6), vI (g 7), vI (g 8), vI (g 8)]))) k (.inr (3, [.ref (gw_ad w k1), vI (g 0), vI (g 1), vI (g 2), vI (g 3), vI (g 4), vI (g 5), vI (g 6), vI (g 7), vI (g 7), vI (g 8)])))) rfl ?_
  refine g_aload_n (pc := 16) hX 0 rfl dX3_putDown_16 ?_
  refine g_iload_n (pc := 17) hX 1 rfl dX3_putDown_17 ?_
  refine g_put (pc := 18) hX (ci := 3) (fun _ h => List.mem_cons_of_mem _ (List.mem_append_right _ h)) rfl tyX3 tyX3_ok nmX3 k hk (up_eq _ _ _) 8 (by decide) (List.mem_of_getElem? (i := 3) rfl) rfl rfl (tyX3_ok 8 (by decide)) rfl (fit_int _) (Nat.le_of_ble_eq_true rfl) dX3_putDown_18 ?_
  refine g_at rfl rfl rfl (S2 := (va_up (va_up (va_up S k (.inr (3, [.ref (gw_ad w k1), vI (g 0), vI (g 1), vI (g 2), vI (g 3), vI (g 4), vI (g 5), vI (g 6), vI (g 7), vI (g 8), vI (g 8)]))) k (.inr (3, [.ref (gw_ad w k1), vI (g 0), vI (g 1), vI (g 2), vI (g 3), vI (g 4), vI (g 5), vI (g 6), vI (g 7), vI (g 7), vI (g 8)]))) k (.inr (3, [.ref (gw_ad w k1), vI (g 0), vI (g 1), vI (g 2), vI (g 3), vI (g 4), vI (g 5), vI (g 6), vI (x), vI (g 7), vI (g 8)])))) rfl ?_
  refine g_aload_n (pc := 21) hX 0 rfl dX3_putDown_21 ?_
  refine g_aload_n (pc := 22) hX 0 rfl dX3_putDown_22 ?_
  refine g_get (pc := 23) hX (ci := 3) (fun _ h => List.mem_cons_of_mem _ (List.mem_append_right _ h)) rfl k hk (up_eq _ _ _) 7 (by decide) (List.mem_of_getElem? (i := 4) rfl) rfl (v := vI (g 6)) rfl dX3_putDown_23 ?_
  refine g_iconst (pc := 26) hX dX3_putDown_26 ?_
  refine g_iadd (pc := 27) hX dX3_putDown_27 ?_
  refine g_iconst (pc := 28) hX dX3_putDown_28 ?_
  refine g_mmin (pc := 29) hX (by first | assumption | exact inI_mk (by omega) (by omega)) (by first | assumption | exact inI_mk (by omega) (by omega)) (List.mem_of_getElem? (i := 5) rfl) (List.mem_of_getElem? (i := 6) rfl) (List.mem_of_getElem? (i := 7) rfl) (List.mem_of_getElem? (i := 8) rfl) (Nat.le_of_ble_eq_true rfl) (Nat.le_of_ble_eq_true rfl) dX3_putDown_29 ?_
  refine g_put (pc := 32) hX (ci := 3) (fun _ h => List.mem_cons_of_mem _ (List.mem_append_right _ h)) rfl tyX3 tyX3_ok nmX3 k hk (up_eq _ _ _) 7 (by decide) (List.mem_of_getElem? (i := 4) rfl) rfl rfl (tyX3_ok 7 (by decide)) rfl (fit_int _) (Nat.le_of_ble_eq_true rfl) dX3_putDown_32 ?_
  refine g_at rfl rfl rfl (S2 := (va_up (va_up (va_up (va_up S k (.inr (3, [.ref (gw_ad w k1), vI (g 0), vI (g 1), vI (g 2), vI (g 3), vI (g 4), vI (g 5), vI (g 6), vI (g 7), vI (g 8), vI (g 8)]))) k (.inr (3, [.ref (gw_ad w k1), vI (g 0), vI (g 1), vI (g 2), vI (g 3), vI (g 4), vI (g 5), vI (g 6), vI (g 7), vI (g 7), vI (g 8)]))) k (.inr (3, [.ref (gw_ad w k1), vI (g 0), vI (g 1), vI (g 2), vI (g 3), vI (g 4), vI (g 5), vI (g 6), vI (x), vI (g 7), vI (g 8)]))) k (.inr (3, [.ref (gw_ad w k1), vI (g 0), vI (g 1), vI (g 2), vI (g 3), vI (g 4), vI (g 5), vI ((if 3 < (g 6) + 1 then 3 else (g 6) + 1)), vI (x), vI (g 7), vI (g 8)])))) rfl ?_
  refine g_vret (pc := 35) hX hR dX3_putDown_35 ?_
  rw [up_up, up_up, up_up]
  rfl

set_option maxHeartbeats 4000000 in
set_option maxRecDepth 100000 in
theorem c_X3_track {w : gW} {l : Launch} {S : Nat → va_E} {k k1 : Nat} {F g : Int → Int} (hk : k < gw_N w) (hk1 : k1 < gw_N w) (ek : S k = OS w k1 g) (ek1 : S k1 = AI w 8 F) (hF : scF F) (hg : scG g) (nkk : k ≠ k1) :
    GM0 w l yX3_track wsX3_track { frames := 3, cells := 0, slots := 0, locals := 62 } [.ref (gw_ad w k)] S
      (fun S' => S' = va_up S k (OS w k1 (scTrack F g))) := by
  refine GM.start (own := RX3) (n := "track") (d := "()V") (by decide) rfl (Nat.le_of_ble_eq_true rfl) ?_
  intro X hX hR hXl
  subst hXl
  refine g_at rfl (lv2 := [(0, .ref (gw_ad w k))]) rfl rfl rfl ?_
  obtain ⟨⟨⟨fa0, fb0⟩, ⟨fa1, fb1⟩, ⟨fa2, fb2⟩, ⟨fa3, fb3⟩⟩, ⟨⟨fa4, fb4⟩, ⟨fa5, fb5⟩, ⟨fa6, fb6⟩, ⟨fa7, fb7⟩⟩⟩ := id hF
  obtain ⟨⟨⟨ga0, gb0⟩, ⟨ga1, gb1⟩, ⟨ga2, gb2⟩, ⟨ga3, gb3⟩⟩, ⟨⟨ga4, gb4⟩, ⟨ga5, gb5⟩, ⟨ga6, gb6⟩⟩, ⟨⟨ga7, gb7⟩, ⟨ga8, gb8⟩, ⟨ga9, gb9⟩⟩⟩ := id hg
  have hraw := scRaw_b hF hg
  have hgro := scGross_b hF hg
  have hmul := sc_mul hF hg
  refine g_aload_n (pc := 0) hX 0 rfl dX3_track_0 ?_
  refine g_aload_n (pc := 1) hX 0 rfl dX3_track_1 ?_
  refine g_callV1 (pc := 2) (ci := 3) (As := []) (st2 := [.ref (gw_ad w k)]) hX k hk ek rfl (c_X3_aboveZero hk hk1 ek ek1 hF hg) gX3_track_X3_aboveZero (n := 0) (hw := rfl) (hrc := rfl) (hrs := rfl) (hd := by decide +kernel) (hR := ⟨Nat.le_of_ble_eq_true rfl, Nat.le_of_ble_eq_true rfl⟩) (hn := rfl) (hst := rfl) (hsum := Nat.le_of_ble_eq_true rfl) (hdg := dX3_track_2) ?_
  rintro _ S9 ⟨rfl, e9⟩
  rw [e9]
  clear e9 S9
  refine g_at (pc2 := 5) rfl rfl (st2 := [vI (scRaw F g - g 2), .ref (gw_ad w k)]) rfl (S2 := S) rfl ?_
  refine g_mabs (pc := 5) hX (by first | assumption | exact inI_mk (by omega) (by omega)) (List.mem_of_getElem? (i := 1) rfl) (List.mem_of_getElem? (i := 2) rfl) (List.mem_of_getElem? (i := 3) rfl) (List.mem_of_getElem? (i := 4) rfl) (Nat.le_of_ble_eq_true rfl) (Nat.le_of_ble_eq_true rfl) dX3_track_5 ?_
  obtain ⟨a0, ea0⟩ : ∃ z : Int, z = (if 0 ≤ scRaw F g - g 2 then scRaw F g - g 2 else -(scRaw F g - g 2)) := ⟨_, rfl⟩
  refine g_at rfl rfl (st2 := [vI (a0), .ref (gw_ad w k)]) (by rw [ea0]) rfl ?_
  refine g_aload_n (pc := 8) hX 0 rfl dX3_track_8 ?_
  refine g_iconst (pc := 9) hX dX3_track_9 ?_
  refine g_callV1 (pc := 10) (ci := 3) (As := [vI (5)]) (st2 := [vI (a0), .ref (gw_ad w k)]) hX k hk ek rfl (c_X3_settingOf hk hk1 ek ek1 (i := 5) (by omega) (by omega)) gX3_track_X3_settingOf (n := 1) (hw := rfl) (hrc := rfl) (hrs := rfl) (hd := by decide +kernel) (hR := ⟨Nat.le_of_ble_eq_true rfl, Nat.le_of_ble_eq_true rfl⟩) (hn := rfl) (hst := rfl) (hsum := Nat.le_of_ble_eq_true rfl) (hdg := dX3_track_10) ?_
  rintro _ S9 ⟨rfl, e9⟩
  rw [e9]
  clear e9 S9
  refine g_at (pc2 := 13) rfl rfl (st2 := [vI (F 5), vI (a0), .ref (gw_ad w k)]) rfl (S2 := S) rfl ?_
  have hz0 : 0 ≤ a0 ∧ a0 ≤ 5000000 := by rw [ea0]; constructor <;> (split <;> omega)
  have hza : zabs (scRaw F g - g 2) = a0 := ea0.symm
  refine g_icmp_gt (pc := 13) (tgt := 25) hX (by first | assumption | exact inI_mk (by omega) (by omega)) (by first | assumption | exact inI_mk (by omega) (by omega)) dX3_track_13 (by decide) (fun c_13 => ?_) (fun c_13 => ?_)
  · skip
    refine g_iconst (pc := 25) hX dX3_track_25 ?_
    refine g_put (pc := 26) hX (ci := 3) (fun _ h => List.mem_cons_of_mem _ (List.mem_append_right _ h)) rfl tyX3 tyX3_ok nmX3 k hk ek 6 (by decide) (List.mem_of_getElem? (i := 5) rfl) rfl rfl (tyX3_ok 6 (by decide)) rfl (fit_int _) (Nat.le_of_ble_eq_true rfl) dX3_track_26 ?_
    refine g_at rfl rfl rfl (S2 := (va_up S k (.inr (3, [.ref (gw_ad w k1), vI (g 0), vI (g 1), vI (g 2), vI (g 3), vI (g 4), vI (0), vI (g 6), vI (g 7), vI (g 8), vI (g 9)])))) rfl ?_
    have htr : scTr1 F g = 0 := by unfold scTr1; rw [hza]; first | exact if_pos c_13 | exact if_neg (by omega)
    refine g_aload_n (pc := 29) hX 0 rfl dX3_track_29 ?_
    refine g_get (pc := 30) hX (ci := 3) (fun _ h => List.mem_cons_of_mem _ (List.mem_append_right _ h)) rfl k hk (up_eq _ _ _) 6 (by decide) (List.mem_of_getElem? (i := 5) rfl) rfl (v := vI (0)) rfl dX3_track_30 ?_
    refine g_iconst (pc := 33) hX dX3_track_33 ?_
    refine g_icmp_ne (pc := 34) (tgt := 50) hX (by first | assumption | exact inI_mk (by omega) (by omega)) (by first | assumption | exact inI_mk (by omega) (by omega)) dX3_track_34 (by decide) (fun c_34 => ?_) (fun c_34 => ?_)
    · skip
      refine g_vret (pc := 50) hX hR dX3_track_50 ?_
      unfold scTrack
      rw [htr, if_neg c_34]
      rfl
    · skip
      exact absurd c_34 (by omega)
  · skip
    refine g_aload_n (pc := 16) hX 0 rfl dX3_track_16 ?_
    refine g_get (pc := 17) hX (ci := 3) (fun _ h => List.mem_cons_of_mem _ (List.mem_append_right _ h)) rfl k hk ek 6 (by decide) (List.mem_of_getElem? (i := 5) rfl) rfl (v := vI (g 5)) rfl dX3_track_17 ?_
    refine g_iconst (pc := 20) hX dX3_track_20 ?_
    refine g_iadd (pc := 21) hX dX3_track_21 ?_
    refine g_goto (pc := 22) (tgt := 26) hX dX3_track_22 (by decide) ?_
    refine g_put (pc := 26) hX (ci := 3) (fun _ h => List.mem_cons_of_mem _ (List.mem_append_right _ h)) rfl tyX3 tyX3_ok nmX3 k hk ek 6 (by decide) (List.mem_of_getElem? (i := 5) rfl) rfl rfl (tyX3_ok 6 (by decide)) rfl (fit_int _) (Nat.le_of_ble_eq_true rfl) dX3_track_26 ?_
    refine g_at rfl rfl rfl (S2 := (va_up S k (.inr (3, [.ref (gw_ad w k1), vI (g 0), vI (g 1), vI (g 2), vI (g 3), vI (g 4), vI ((g 5) + 1), vI (g 6), vI (g 7), vI (g 8), vI (g 9)])))) rfl ?_
    have htr : scTr1 F g = (g 5) + 1 := by unfold scTr1; rw [hza]; first | exact if_pos c_13 | exact if_neg (by omega)
    refine g_aload_n (pc := 29) hX 0 rfl dX3_track_29 ?_
    refine g_get (pc := 30) hX (ci := 3) (fun _ h => List.mem_cons_of_mem _ (List.mem_append_right _ h)) rfl k hk (up_eq _ _ _) 6 (by decide) (List.mem_of_getElem? (i := 5) rfl) rfl (v := vI ((g 5) + 1)) rfl dX3_track_30 ?_
    refine g_iconst (pc := 33) hX dX3_track_33 ?_
    refine g_icmp_ne (pc := 34) (tgt := 50) hX (by first | assumption | exact inI_mk (by omega) (by omega)) (by first | assumption | exact inI_mk (by omega) (by omega)) dX3_track_34 (by decide) (fun c_34 => ?_) (fun c_34 => ?_)
    · skip
      refine g_vret (pc := 50) hX hR dX3_track_50 ?_
      unfold scTrack
      rw [htr, if_neg c_34]
      rfl
    · skip
      refine g_aload_n (pc := 37) hX 0 rfl dX3_track_37 ?_
      refine g_aload_n (pc := 38) hX 0 rfl dX3_track_38 ?_
      refine g_callV1 (pc := 39) (ci := 3) (As := []) (st2 := [.ref (gw_ad w k)]) hX k hk (up_eq _ _ _) rfl (c_X3_rawReading (g := (updZ g 5 ((g 5) + 1))) hk hk1 (up_eq _ _ _) (up_ne (Ne.symm nkk) ek1) hF (scG_5 hg (by omega) (by omega))) gX3_track_X3_rawReading (n := 0) (hw := rfl) (hrc := rfl) (hrs := rfl) (hd := by decide +kernel) (hR := ⟨Nat.le_of_ble_eq_true rfl, Nat.le_of_ble_eq_true rfl⟩) (hn := rfl) (hst := rfl) (hsum := Nat.le_of_ble_eq_true rfl) (hdg := dX3_track_39) ?_
      rintro _ S9 ⟨rfl, e9⟩
      rw [e9]
      clear e9 S9
      rw [scRaw_5]
      refine g_at (pc2 := 42) rfl rfl (st2 := [vI (scRaw F g), .ref (gw_ad w k)]) rfl (S2 := (va_up S k (.inr (3, [.ref (gw_ad w k1), vI (g 0), vI (g 1), vI (g 2), vI (g 3), vI (g 4), vI ((g 5) + 1), vI (g 6), vI (g 7), vI (g 8), vI (g 9)])))) rfl ?_
      refine g_put (pc := 42) hX (ci := 3) (fun _ h => List.mem_cons_of_mem _ (List.mem_append_right _ h)) rfl tyX3 tyX3_ok nmX3 k hk (up_eq _ _ _) 3 (by decide) (List.mem_of_getElem? (i := 6) rfl) rfl rfl (tyX3_ok 3 (by decide)) rfl (fit_int _) (Nat.le_of_ble_eq_true rfl) dX3_track_42 ?_
      refine g_at rfl rfl rfl (S2 := (va_up (va_up S k (.inr (3, [.ref (gw_ad w k1), vI (g 0), vI (g 1), vI (g 2), vI (g 3), vI (g 4), vI ((g 5) + 1), vI (g 6), vI (g 7), vI (g 8), vI (g 9)]))) k (.inr (3, [.ref (gw_ad w k1), vI (g 0), vI (g 1), vI (scRaw F g), vI (g 3), vI (g 4), vI ((g 5) + 1), vI (g 6), vI (g 7), vI (g 8), vI (g 9)])))) rfl ?_
      refine g_aload_n (pc := 45) hX 0 rfl dX3_track_45 ?_
      refine g_iconst (pc := 46) hX dX3_track_46 ?_
      refine g_put (pc := 47) hX (ci := 3) (fun _ h => List.mem_cons_of_mem _ (List.mem_append_right _ h)) rfl tyX3 tyX3_ok nmX3 k hk (up_eq _ _ _) 6 (by decide) (List.mem_of_getElem? (i := 5) rfl) rfl rfl (tyX3_ok 6 (by decide)) rfl (fit_int _) (Nat.le_of_ble_eq_true rfl) dX3_track_47 ?_
      refine g_at rfl rfl rfl (S2 := (va_up (va_up (va_up S k (.inr (3, [.ref (gw_ad w k1), vI (g 0), vI (g 1), vI (g 2), vI (g 3), vI (g 4), vI ((g 5) + 1), vI (g 6), vI (g 7), vI (g 8), vI (g 9)]))) k (.inr (3, [.ref (gw_ad w k1), vI (g 0), vI (g 1), vI (scRaw F g), vI (g 3), vI (g 4), vI ((g 5) + 1), vI (g 6), vI (g 7), vI (g 8), vI (g 9)]))) k (.inr (3, [.ref (gw_ad w k1), vI (g 0), vI (g 1), vI (scRaw F g), vI (g 3), vI (g 4), vI (0), vI (g 6), vI (g 7), vI (g 8), vI (g 9)])))) rfl ?_
      refine g_vret (pc := 50) hX hR dX3_track_50 ?_
      unfold scTrack
      rw [htr, if_pos c_34, up_up, up_up]
      rfl

set_option maxHeartbeats 4000000 in
set_option maxRecDepth 100000 in
theorem c_X3_passTick {w : gW} {l : Launch} {S : Nat → va_E} {k k1 : Nat} {F g : Int → Int} (hk : k < gw_N w) (hk1 : k1 < gw_N w) (ek : S k = OS w k1 g) (ek1 : S k1 = AI w 8 F) (hF : scF F) (hg : scG g) (nkk : k ≠ k1) (hl : g 1 < 100000) :
    GM0 w l yX3_passTick wsX3_passTick { frames := 4, cells := 0, slots := 0, locals := 82 } [.ref (gw_ad w k)] S
      (fun S' => S' = va_up S k (OS w k1 (scPass F g))) := by
  refine GM.start (own := RX3) (n := "passTick") (d := "()V") (by decide) rfl (Nat.le_of_ble_eq_true rfl) ?_
  intro X hX hR hXl
  subst hXl
  refine g_at rfl (lv2 := [(0, .ref (gw_ad w k))]) rfl rfl rfl ?_
  obtain ⟨⟨⟨fa0, fb0⟩, ⟨fa1, fb1⟩, ⟨fa2, fb2⟩, ⟨fa3, fb3⟩⟩, ⟨⟨fa4, fb4⟩, ⟨fa5, fb5⟩, ⟨fa6, fb6⟩, ⟨fa7, fb7⟩⟩⟩ := id hF
  obtain ⟨⟨⟨ga0, gb0⟩, ⟨ga1, gb1⟩, ⟨ga2, gb2⟩, ⟨ga3, gb3⟩⟩, ⟨⟨ga4, gb4⟩, ⟨ga5, gb5⟩, ⟨ga6, gb6⟩⟩, ⟨⟨ga7, gb7⟩, ⟨ga8, gb8⟩, ⟨ga9, gb9⟩⟩⟩ := id hg
  have hraw := scRaw_b hF hg
  have hgro := scGross_b hF hg
  have hmul := sc_mul hF hg
  refine g_aload_n (pc := 0) hX 0 rfl dX3_passTick_0 ?_
  refine g_dup (pc := 1) hX rfl dX3_passTick_1 ?_
  refine g_get (pc := 2) hX (ci := 3) (fun _ h => List.mem_cons_of_mem _ (List.mem_append_right _ h)) rfl k hk ek 2 (by decide) (List.mem_of_getElem? (i := 1) rfl) rfl (v := vI (g 1)) rfl dX3_passTick_2 ?_
  refine g_iconst (pc := 5) hX dX3_passTick_5 ?_
  refine g_iadd (pc := 6) hX dX3_passTick_6 ?_
  refine g_put (pc := 7) hX (ci := 3) (fun _ h => List.mem_cons_of_mem _ (List.mem_append_right _ h)) rfl tyX3 tyX3_ok nmX3 k hk ek 2 (by decide) (List.mem_of_getElem? (i := 1) rfl) rfl rfl (tyX3_ok 2 (by decide)) rfl (fit_int _) (Nat.le_of_ble_eq_true rfl) dX3_passTick_7 ?_
  refine g_at rfl rfl rfl (S2 := (va_up S k (.inr (3, [.ref (gw_ad w k1), vI (g 0), vI ((g 1) + 1), vI (g 2), vI (g 3), vI (g 4), vI (g 5), vI (g 6), vI (g 7), vI (g 8), vI (g 9)])))) rfl ?_
  refine g_aload_n (pc := 10) hX 0 rfl dX3_passTick_10 ?_
  refine g_dup (pc := 11) hX rfl dX3_passTick_11 ?_
  refine g_get (pc := 12) hX (ci := 3) (fun _ h => List.mem_cons_of_mem _ (List.mem_append_right _ h)) rfl k hk (up_eq _ _ _) 5 (by decide) (List.mem_of_getElem? (i := 2) rfl) rfl (v := vI (g 4)) rfl dX3_passTick_12 ?_
  refine g_aload_n (pc := 15) hX 0 rfl dX3_passTick_15 ?_
  refine g_iconst (pc := 16) hX dX3_passTick_16 ?_
  refine g_callV1 (pc := 17) (ci := 3) (As := [vI (0)]) (st2 := [vI (g 4), .ref (gw_ad w k)]) hX k hk (up_eq _ _ _) rfl (c_X3_settingOf (g := updZ g 1 (g 1 + 1)) hk hk1 (up_eq _ _ _) (up_ne (Ne.symm nkk) ek1) (i := 0) (by omega) (by omega)) gX3_passTick_X3_settingOf (n := 1) (hw := rfl) (hrc := rfl) (hrs := rfl) (hd := by decide +kernel) (hR := ⟨Nat.le_of_ble_eq_true rfl, Nat.le_of_ble_eq_true rfl⟩) (hn := rfl) (hst := rfl) (hsum := Nat.le_of_ble_eq_true rfl) (hdg := dX3_passTick_17) ?_
  rintro _ S9 ⟨rfl, e9⟩
  rw [e9]
  clear e9 S9
  refine g_at (pc2 := 20) rfl rfl (st2 := [vI (F 0), vI (g 4), .ref (gw_ad w k)]) rfl (S2 := (va_up S k (.inr (3, [.ref (gw_ad w k1), vI (g 0), vI ((g 1) + 1), vI (g 2), vI (g 3), vI (g 4), vI (g 5), vI (g 6), vI (g 7), vI (g 8), vI (g 9)])))) rfl ?_
  refine g_iadd (pc := 20) hX dX3_passTick_20 ?_
  refine g_put (pc := 21) hX (ci := 3) (fun _ h => List.mem_cons_of_mem _ (List.mem_append_right _ h)) rfl tyX3 tyX3_ok nmX3 k hk (up_eq _ _ _) 5 (by decide) (List.mem_of_getElem? (i := 2) rfl) rfl rfl (tyX3_ok 5 (by decide)) rfl (fit_int _) (Nat.le_of_ble_eq_true rfl) dX3_passTick_21 ?_
  refine g_at rfl rfl rfl (S2 := (va_up (va_up S k (.inr (3, [.ref (gw_ad w k1), vI (g 0), vI ((g 1) + 1), vI (g 2), vI (g 3), vI (g 4), vI (g 5), vI (g 6), vI (g 7), vI (g 8), vI (g 9)]))) k (.inr (3, [.ref (gw_ad w k1), vI (g 0), vI ((g 1) + 1), vI (g 2), vI (g 3), vI ((g 4) + (F 0)), vI (g 5), vI (g 6), vI (g 7), vI (g 8), vI (g 9)])))) rfl ?_
  refine g_aload_n (pc := 24) hX 0 rfl dX3_passTick_24 ?_
  refine g_aload_n (pc := 25) hX 0 rfl dX3_passTick_25 ?_
  refine g_callV1 (pc := 26) (ci := 3) (As := []) (st2 := [.ref (gw_ad w k)]) hX k hk (up_eq _ _ _) rfl (c_X3_rawReading (g := scStep F g) hk hk1 (up_eq _ _ _) (up_ne (Ne.symm nkk) (up_ne (Ne.symm nkk) ek1)) hF (scG_step hF hg hl)) gX3_passTick_X3_rawReading (n := 0) (hw := rfl) (hrc := rfl) (hrs := rfl) (hd := by decide +kernel) (hR := ⟨Nat.le_of_ble_eq_true rfl, Nat.le_of_ble_eq_true rfl⟩) (hn := rfl) (hst := rfl) (hsum := Nat.le_of_ble_eq_true rfl) (hdg := dX3_passTick_26) ?_
  rintro _ S9 ⟨rfl, e9⟩
  rw [e9]
  clear e9 S9
  refine g_at (pc2 := 29) rfl rfl (st2 := [vI (scRaw F (scStep F g)), .ref (gw_ad w k)]) rfl (S2 := (va_up (va_up S k (.inr (3, [.ref (gw_ad w k1), vI (g 0), vI ((g 1) + 1), vI (g 2), vI (g 3), vI (g 4), vI (g 5), vI (g 6), vI (g 7), vI (g 8), vI (g 9)]))) k (.inr (3, [.ref (gw_ad w k1), vI (g 0), vI ((g 1) + 1), vI (g 2), vI (g 3), vI ((g 4) + (F 0)), vI (g 5), vI (g 6), vI (g 7), vI (g 8), vI (g 9)])))) rfl ?_
  refine g_callV0 (pc := 29) (ci := 3) (As := [vI (scRaw F (scStep F g))]) (st2 := []) hX k hk (up_eq _ _ _) rfl (c_X3_putDown (g := scStep F g) (x := scRaw F (scStep F g)) hk hk1 (up_eq _ _ _) (up_ne (Ne.symm nkk) (up_ne (Ne.symm nkk) ek1)) ⟨ga6, gb6⟩) gX3_passTick_X3_putDown (n := 1) (hw := rfl) (hrc := rfl) (hrs := rfl) (hd := by decide +kernel) (hR := ⟨Nat.le_of_ble_eq_true rfl, Nat.le_of_ble_eq_true rfl⟩) (hn := rfl) (hst := rfl) (hsum := Nat.le_of_ble_eq_true rfl) (hdg := dX3_passTick_29) ?_
  rintro _ rfl
  refine g_at (pc2 := 32) rfl rfl (st2 := []) rfl (S2 := (va_up (va_up (va_up S k (.inr (3, [.ref (gw_ad w k1), vI (g 0), vI ((g 1) + 1), vI (g 2), vI (g 3), vI (g 4), vI (g 5), vI (g 6), vI (g 7), vI (g 8), vI (g 9)]))) k (.inr (3, [.ref (gw_ad w k1), vI (g 0), vI ((g 1) + 1), vI (g 2), vI (g 3), vI ((g 4) + (F 0)), vI (g 5), vI (g 6), vI (g 7), vI (g 8), vI (g 9)]))) k (.inr (3, [.ref (gw_ad w k1), vI ((scPut (scStep F g) (scRaw F (scStep F g))) 0), vI ((scPut (scStep F g) (scRaw F (scStep F g))) 1), vI ((scPut (scStep F g) (scRaw F (scStep F g))) 2), vI ((scPut (scStep F g) (scRaw F (scStep F g))) 3), vI ((scPut (scStep F g) (scRaw F (scStep F g))) 4), vI ((scPut (scStep F g) (scRaw F (scStep F g))) 5), vI ((scPut (scStep F g) (scRaw F (scStep F g))) 6), vI ((scPut (scStep F g) (scRaw F (scStep F g))) 7), vI ((scPut (scStep F g) (scRaw F (scStep F g))) 8), vI ((scPut (scStep F g) (scRaw F (scStep F g))) 9)])))) rfl ?_
  refine g_aload_n (pc := 32) hX 0 rfl dX3_passTick_32 ?_
  refine g_callV0 (pc := 33) (ci := 3) (As := []) (st2 := []) hX k hk (up_eq _ _ _) rfl (c_X3_track (g := (scPut (scStep F g) (scRaw F (scStep F g)))) hk hk1 (up_eq _ _ _) (up_ne (Ne.symm nkk) (up_ne (Ne.symm nkk) (up_ne (Ne.symm nkk) ek1))) hF (scG_pass1 hF hg hl) nkk) gX3_passTick_X3_track (n := 0) (hw := rfl) (hrc := rfl) (hrs := rfl) (hd := by decide +kernel) (hR := ⟨Nat.le_of_ble_eq_true rfl, Nat.le_of_ble_eq_true rfl⟩) (hn := rfl) (hst := rfl) (hsum := Nat.le_of_ble_eq_true rfl) (hdg := dX3_passTick_33) ?_
  rintro _ rfl
  refine g_at (pc2 := 36) rfl rfl (st2 := []) rfl (S2 := (va_up (va_up (va_up (va_up S k (.inr (3, [.ref (gw_ad w k1), vI (g 0), vI ((g 1) + 1), vI (g 2), vI (g 3), vI (g 4), vI (g 5), vI (g 6), vI (g 7), vI (g 8), vI (g 9)]))) k (.inr (3, [.ref (gw_ad w k1), vI (g 0), vI ((g 1) + 1), vI (g 2), vI (g 3), vI ((g 4) + (F 0)), vI (g 5), vI (g 6), vI (g 7), vI (g 8), vI (g 9)]))) k (.inr (3, [.ref (gw_ad w k1), vI ((scPut (scStep F g) (scRaw F (scStep F g))) 0), vI ((scPut (scStep F g) (scRaw F (scStep F g))) 1), vI ((scPut (scStep F g) (scRaw F (scStep F g))) 2), vI ((scPut (scStep F g) (scRaw F (scStep F g))) 3), vI ((scPut (scStep F g) (scRaw F (scStep F g))) 4), vI ((scPut (scStep F g) (scRaw F (scStep F g))) 5), vI ((scPut (scStep F g) (scRaw F (scStep F g))) 6), vI ((scPut (scStep F g) (scRaw F (scStep F g))) 7), vI ((scPut (scStep F g) (scRaw F (scStep F g))) 8), vI ((scPut (scStep F g) (scRaw F (scStep F g))) 9)]))) k (.inr (3, [.ref (gw_ad w k1), vI ((scTrack F (scPut (scStep F g) (scRaw F (scStep F g)))) 0), vI ((scTrack F (scPut (scStep F g) (scRaw F (scStep F g)))) 1), vI ((scTrack F (scPut (scStep F g) (scRaw F (scStep F g)))) 2), vI ((scTrack F (scPut (scStep F g) (scRaw F (scStep F g)))) 3), vI ((scTrack F (scPut (scStep F g) (scRaw F (scStep F g)))) 4), vI ((scTrack F (scPut (scStep F g) (scRaw F (scStep F g)))) 5), vI ((scTrack F (scPut (scStep F g) (scRaw F (scStep F g)))) 6), vI ((scTrack F (scPut (scStep F g) (scRaw F (scStep F g)))) 7), vI ((scTrack F (scPut (scStep F g) (scRaw F (scStep F g)))) 8), vI ((scTrack F (scPut (scStep F g) (scRaw F (scStep F g)))) 9)])))) rfl ?_
  refine g_vret (pc := 36) hX hR dX3_passTick_36 ?_
  rw [up_up, up_up, up_up]
  rfl

set_option maxHeartbeats 4000000 in
set_option maxRecDepth 100000 in
theorem c_X3_number {w : gW} {l : Launch} {S : Nat → va_E} {k k1 : Nat} {F g : Int → Int} (hk : k < gw_N w) (hk1 : k1 < gw_N w) (ek : S k = OS w k1 g) (ek1 : S k1 = AI w 8 F) (hF : scF F) (hg : scG g) {i : Int} (h0 : 0 ≤ i) (h10 : i ≤ 10) :
    GM1 w l yX3_number wsX3_number { frames := 4, cells := 0, slots := 0, locals := 83 } [.ref (gw_ad w k), vI (i)] S
      (fun v S' => v = vI (scNum F g i) ∧ S' = S) := by
  refine GM.start (own := RX3) (n := "number") (d := "(I)I") (by decide) rfl (Nat.le_of_ble_eq_true rfl) ?_
  intro X hX hR hXl
  subst hXl
  refine g_at rfl (lv2 := [(0, .ref (gw_ad w k)), (1, vI (i))]) rfl rfl rfl ?_
  obtain ⟨⟨⟨fa0, fb0⟩, ⟨fa1, fb1⟩, ⟨fa2, fb2⟩, ⟨fa3, fb3⟩⟩, ⟨⟨fa4, fb4⟩, ⟨fa5, fb5⟩, ⟨fa6, fb6⟩, ⟨fa7, fb7⟩⟩⟩ := id hF
  obtain ⟨⟨⟨ga0, gb0⟩, ⟨ga1, gb1⟩, ⟨ga2, gb2⟩, ⟨ga3, gb3⟩⟩, ⟨⟨ga4, gb4⟩, ⟨ga5, gb5⟩, ⟨ga6, gb6⟩⟩, ⟨⟨ga7, gb7⟩, ⟨ga8, gb8⟩, ⟨ga9, gb9⟩⟩⟩ := id hg
  have hraw := scRaw_b hF hg
  have hgro := scGross_b hF hg
  have hmul := sc_mul hF hg
  refine g_iload_n (pc := 0) hX 1 rfl dX3_number_0 ?_
  rcases (show i = 0 ∨ i = 1 ∨ i = 2 ∨ i = 3 ∨ i = 4 ∨ i = 5 ∨ i = 6 ∨ i = 7 ∨ i = 8 ∨ i = 9 ∨ 9 < i by omega) with hs | hs | hs | hs | hs | hs | hs | hs | hs | hs | hs
  · skip
    refine g_tin (pc := 1) (tgt := 56) (n := 0) hX hs (by decide) (by decide) (by decide) rfl dX3_number_1 (by decide) ?_
    refine g_aload_n (pc := 56) hX 0 rfl dX3_number_56 ?_
    refine g_get (pc := 57) hX (ci := 3) (fun _ h => List.mem_cons_of_mem _ (List.mem_append_right _ h)) rfl k hk ek 2 (by decide) (List.mem_of_getElem? (i := 1) rfl) rfl (v := vI (g 1)) rfl dX3_number_57 ?_
    refine g_iret (pc := 60) hX hR dX3_number_60 ?_
    refine ⟨vI_c ?_, rfl⟩
    unfold scNum
    rw [hs]
    rfl
  · skip
    refine g_tin (pc := 1) (tgt := 61) (n := 1) hX hs (by decide) (by decide) (by decide) rfl dX3_number_1 (by decide) ?_
    refine g_aload_n (pc := 61) hX 0 rfl dX3_number_61 ?_
    refine g_callV1 (pc := 62) (ci := 3) (As := []) (st2 := []) hX k hk ek rfl (c_X3_rawReading hk hk1 ek ek1 hF hg) gX3_number_X3_rawReading (n := 0) (hw := rfl) (hrc := rfl) (hrs := rfl) (hd := by decide +kernel) (hR := ⟨Nat.le_of_ble_eq_true rfl, Nat.le_of_ble_eq_true rfl⟩) (hn := rfl) (hst := rfl) (hsum := Nat.le_of_ble_eq_true rfl) (hdg := dX3_number_62) ?_
    rintro _ S9 ⟨rfl, e9⟩
    rw [e9]
    clear e9 S9
    refine g_at (pc2 := 65) rfl rfl (st2 := [vI (scRaw F g)]) rfl (S2 := S) rfl ?_
    refine g_iret (pc := 65) hX hR dX3_number_65 ?_
    refine ⟨vI_c ?_, rfl⟩
    unfold scNum
    rw [hs]
    rfl
  · skip
    refine g_tin (pc := 1) (tgt := 66) (n := 2) hX hs (by decide) (by decide) (by decide) rfl dX3_number_1 (by decide) ?_
    refine g_aload_n (pc := 66) hX 0 rfl dX3_number_66 ?_
    refine g_callV1 (pc := 67) (ci := 3) (As := []) (st2 := []) hX k hk ek rfl (c_X3_grossWeight hk hk1 ek ek1 hF hg) gX3_number_X3_grossWeight (n := 0) (hw := rfl) (hrc := rfl) (hrs := rfl) (hd := by decide +kernel) (hR := ⟨Nat.le_of_ble_eq_true rfl, Nat.le_of_ble_eq_true rfl⟩) (hn := rfl) (hst := rfl) (hsum := Nat.le_of_ble_eq_true rfl) (hdg := dX3_number_67) ?_
    rintro _ S9 ⟨rfl, e9⟩
    rw [e9]
    clear e9 S9
    refine g_at (pc2 := 70) rfl rfl (st2 := [vI (scGross F g)]) rfl (S2 := S) rfl ?_
    refine g_iret (pc := 70) hX hR dX3_number_70 ?_
    refine ⟨vI_c ?_, rfl⟩
    unfold scNum
    rw [hs]
    rfl
  · skip
    refine g_tin (pc := 1) (tgt := 71) (n := 3) hX hs (by decide) (by decide) (by decide) rfl dX3_number_1 (by decide) ?_
    refine g_aload_n (pc := 71) hX 0 rfl dX3_number_71 ?_
    refine g_callV1 (pc := 72) (ci := 3) (As := []) (st2 := []) hX k hk ek rfl (c_X3_netWeight hk hk1 ek ek1 hF hg) gX3_number_X3_netWeight (n := 0) (hw := rfl) (hrc := rfl) (hrs := rfl) (hd := by decide +kernel) (hR := ⟨Nat.le_of_ble_eq_true rfl, Nat.le_of_ble_eq_true rfl⟩) (hn := rfl) (hst := rfl) (hsum := Nat.le_of_ble_eq_true rfl) (hdg := dX3_number_72) ?_
    rintro _ S9 ⟨rfl, e9⟩
    rw [e9]
    clear e9 S9
    refine g_at (pc2 := 75) rfl rfl (st2 := [vI (scGross F g - g 3)]) rfl (S2 := S) rfl ?_
    refine g_iret (pc := 75) hX hR dX3_number_75 ?_
    refine ⟨vI_c ?_, rfl⟩
    unfold scNum
    rw [hs]
    rfl
  · skip
    refine g_tin (pc := 1) (tgt := 76) (n := 4) hX hs (by decide) (by decide) (by decide) rfl dX3_number_1 (by decide) ?_
    refine g_aload_n (pc := 76) hX 0 rfl dX3_number_76 ?_
    refine g_get (pc := 77) hX (ci := 3) (fun _ h => List.mem_cons_of_mem _ (List.mem_append_right _ h)) rfl k hk ek 3 (by decide) (List.mem_of_getElem? (i := 2) rfl) rfl (v := vI (g 2)) rfl dX3_number_77 ?_
    refine g_iret (pc := 80) hX hR dX3_number_80 ?_
    refine ⟨vI_c ?_, rfl⟩
    unfold scNum
    rw [hs]
    rfl
  · skip
    refine g_tin (pc := 1) (tgt := 81) (n := 5) hX hs (by decide) (by decide) (by decide) rfl dX3_number_1 (by decide) ?_
    refine g_aload_n (pc := 81) hX 0 rfl dX3_number_81 ?_
    refine g_get (pc := 82) hX (ci := 3) (fun _ h => List.mem_cons_of_mem _ (List.mem_append_right _ h)) rfl k hk ek 4 (by decide) (List.mem_of_getElem? (i := 3) rfl) rfl (v := vI (g 3)) rfl dX3_number_82 ?_
    refine g_iret (pc := 85) hX hR dX3_number_85 ?_
    refine ⟨vI_c ?_, rfl⟩
    unfold scNum
    rw [hs]
    rfl
  · skip
    refine g_tin (pc := 1) (tgt := 86) (n := 6) hX hs (by decide) (by decide) (by decide) rfl dX3_number_1 (by decide) ?_
    refine g_aload_n (pc := 86) hX 0 rfl dX3_number_86 ?_
    refine g_get (pc := 87) hX (ci := 3) (fun _ h => List.mem_cons_of_mem _ (List.mem_append_right _ h)) rfl k hk ek 5 (by decide) (List.mem_of_getElem? (i := 4) rfl) rfl (v := vI (g 4)) rfl dX3_number_87 ?_
    refine g_iret (pc := 90) hX hR dX3_number_90 ?_
    refine ⟨vI_c ?_, rfl⟩
    unfold scNum
    rw [hs]
    rfl
  · skip
    refine g_tin (pc := 1) (tgt := 91) (n := 7) hX hs (by decide) (by decide) (by decide) rfl dX3_number_1 (by decide) ?_
    refine g_aload_n (pc := 91) hX 0 rfl dX3_number_91 ?_
    refine g_callV1 (pc := 92) (ci := 3) (As := []) (st2 := []) hX k hk ek rfl (c_X3_isSteady hk hk1 ek ek1 hF hg) gX3_number_X3_isSteady (n := 0) (hw := rfl) (hrc := rfl) (hrs := rfl) (hd := by decide +kernel) (hR := ⟨Nat.le_of_ble_eq_true rfl, Nat.le_of_ble_eq_true rfl⟩) (hn := rfl) (hst := rfl) (hsum := Nat.le_of_ble_eq_true rfl) (hdg := dX3_number_92) ?_
    rintro _ S9 ⟨rfl, e9⟩
    rw [e9]
    clear e9 S9
    refine g_at (pc2 := 95) rfl rfl (st2 := [vI (bz (scSteady F g))]) rfl (S2 := S) rfl ?_
    refine g_bif_eq (pc := 95) (tgt := 102) hX dX3_number_95 (by decide) (fun c_95 => ?_) (fun c_95 => ?_)
    · skip
      refine g_iconst (pc := 102) hX dX3_number_102 ?_
      refine g_iret (pc := 103) hX hR dX3_number_103 ?_
      refine ⟨vI_c ?_, rfl⟩
      unfold scNum
      rw [hs]
      first | (show _ = bz (scSteady F g); rw [c_95]; rfl) | (show _ = bz (scOver F g); rw [c_108]; rfl)
    · skip
      refine g_iconst (pc := 98) hX dX3_number_98 ?_
      refine g_goto (pc := 99) (tgt := 103) hX dX3_number_99 (by decide) ?_
      refine g_iret (pc := 103) hX hR dX3_number_103 ?_
      refine ⟨vI_c ?_, rfl⟩
      unfold scNum
      rw [hs]
      first | (show _ = bz (scSteady F g); rw [c_95]; rfl) | (show _ = bz (scOver F g); rw [c_108]; rfl)
  · skip
    refine g_tin (pc := 1) (tgt := 104) (n := 8) hX hs (by decide) (by decide) (by decide) rfl dX3_number_1 (by decide) ?_
    refine g_aload_n (pc := 104) hX 0 rfl dX3_number_104 ?_
    refine g_callV1 (pc := 105) (ci := 3) (As := []) (st2 := []) hX k hk ek rfl (c_X3_isOver hk hk1 ek ek1 hF hg) gX3_number_X3_isOver (n := 0) (hw := rfl) (hrc := rfl) (hrs := rfl) (hd := by decide +kernel) (hR := ⟨Nat.le_of_ble_eq_true rfl, Nat.le_of_ble_eq_true rfl⟩) (hn := rfl) (hst := rfl) (hsum := Nat.le_of_ble_eq_true rfl) (hdg := dX3_number_105) ?_
    rintro _ S9 ⟨rfl, e9⟩
    rw [e9]
    clear e9 S9
    refine g_at (pc2 := 108) rfl rfl (st2 := [vI (bz (scOver F g))]) rfl (S2 := S) rfl ?_
    refine g_bif_eq (pc := 108) (tgt := 115) hX dX3_number_108 (by decide) (fun c_108 => ?_) (fun c_108 => ?_)
    · skip
      refine g_iconst (pc := 115) hX dX3_number_115 ?_
      refine g_iret (pc := 116) hX hR dX3_number_116 ?_
      refine ⟨vI_c ?_, rfl⟩
      unfold scNum
      rw [hs]
      first | (show _ = bz (scSteady F g); rw [c_95]; rfl) | (show _ = bz (scOver F g); rw [c_108]; rfl)
    · skip
      refine g_iconst (pc := 111) hX dX3_number_111 ?_
      refine g_goto (pc := 112) (tgt := 116) hX dX3_number_112 (by decide) ?_
      refine g_iret (pc := 116) hX hR dX3_number_116 ?_
      refine ⟨vI_c ?_, rfl⟩
      unfold scNum
      rw [hs]
      first | (show _ = bz (scSteady F g); rw [c_95]; rfl) | (show _ = bz (scOver F g); rw [c_108]; rfl)
  · skip
    refine g_tin (pc := 1) (tgt := 117) (n := 9) hX hs (by decide) (by decide) (by decide) rfl dX3_number_1 (by decide) ?_
    refine g_aload_n (pc := 117) hX 0 rfl dX3_number_117 ?_
    refine g_get (pc := 118) hX (ci := 3) (fun _ h => List.mem_cons_of_mem _ (List.mem_append_right _ h)) rfl k hk ek 6 (by decide) (List.mem_of_getElem? (i := 5) rfl) rfl (v := vI (g 5)) rfl dX3_number_118 ?_
    refine g_iret (pc := 121) hX hR dX3_number_121 ?_
    refine ⟨vI_c ?_, rfl⟩
    unfold scNum
    rw [hs]
    rfl
  · skip
    refine g_tout (pc := 1) (tgt := 122) hX (by first | assumption | exact inI_mk (by omega) (by omega)) (by omega) dX3_number_1 (by decide) ?_
    refine g_aload_n (pc := 122) hX 0 rfl dX3_number_122 ?_
    refine g_get (pc := 123) hX (ci := 3) (fun _ h => List.mem_cons_of_mem _ (List.mem_append_right _ h)) rfl k hk ek 1 (by decide) (List.mem_of_getElem? (i := 6) rfl) rfl (v := vI (g 0)) rfl dX3_number_123 ?_
    refine g_iret (pc := 126) hX hR dX3_number_126 ?_
    refine ⟨vI_c ?_, rfl⟩
    unfold scNum
    rw [show i = 10 by omega]
    rfl
