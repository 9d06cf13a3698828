/-! ===== the reference: places 92 to 104 ===== -/
abbrev OM (w : gW) (pm tm xm at_ wm wh : Int) (ir : Bool) : va_E := .inr (7, [.ref (gw_ad w 93), .ref (gw_ad w 94), vI pm, .ref (gw_ad w 95), vI tm, .ref (gw_ad w 96), vI xm, vI at_, .ref (gw_ad w 97), .ref (gw_ad w 98), .ref (gw_ad w 99), .ref (gw_ad w 100), .ref (gw_ad w 101), vI wm, vI wh, vI (bz ir), .ref (gw_ad w 102), .ref (gw_ad w 103), .ref (gw_ad w 104)])
def modelAt (w : gW) (pm tm xm at_ wm wh : Int) (ir : Bool) (V PV TY TX MK MM CH AM WT WK FL PI : Int → Int) (S : Nat → va_E) : Prop :=
  (S 92 = OM w pm tm xm at_ wm wh ir ∧ S 93 = AJ w 1200 V ∧ S 94 = AJ w 4800 PV) ∧ (S 95 = AI w 60 TY ∧ S 96 = AI w 60 TX) ∧ (S 97 = AI w 1600 MK ∧ S 98 = AI w 8 MM ∧ S 99 = AI w 8 CH ∧ S 100 = AI w 8 AM ∧ S 101 = AI w 64 WT) ∧ (S 102 = AJ w 12 WK ∧ S 103 = AJ w 6 FL ∧ S 104 = AZ w 64 PI)
def POSTM (w : gW) (S : Nat → va_E) (pm tm xm at_ wm wh : Int) (ir : Bool) (V PV TY TX MK MM CH AM WT WK FL PI : Int → Int) (S' : Nat → va_E) : Prop := modelAt w pm tm xm at_ wm wh ir V PV TY TX MK MM CH AM WT WK FL PI S' ∧ ∀ q : Nat, q < 92 → S' q = S q
theorem divZ {a b : Int} (hb : 0 < b) : (a - (if a.tmod b < 0 then a.tmod b + b else a.tmod b)).tdiv b = a / b := by
  have h1 := Int.tmod_def a b
  by_cases h : a.tmod b < 0
  · rw [if_pos h]
    have ha : a < 0 := by
      apply Int.not_le.mp
      intro hq
      have := Int.tmod_nonneg (a := a) b hq
      omega
    have e : a - (a.tmod b + b) = b * (a.tdiv b - 1) := by rw [h1, Int.mul_sub]; omega
    rw [e, Int.mul_tdiv_cancel_left _ (by omega)]
    refine fdiv_c ha hb ?_
    rw [Int.mul_comm]
    omega
  · rw [if_neg h]
    have e : a - a.tmod b = b * (a.tdiv b) := by rw [h1]; omega
    rw [e, Int.mul_tdiv_cancel_left _ (by omega)]
    by_cases ha : 0 ≤ a
    · exact fdiv_a ha
    · have h2 : a.tmod b ≤ 0 := by
        have := Int.tmod_nonneg (a := -a) b (by omega)
        rw [Int.neg_tmod] at this
        omega
      refine fdiv_b hb ?_
      rw [Int.mul_comm]
      omega
def actN (pm : Int) : Int := if pm = 4 then 4 else pm + 1
def actS (PV : Int → Int) (c : Int) : Int → Int := fun k => if 0 ≤ k ∧ k < c then PV (k + 1200) else PV k
def actW (PV V : Int → Int) (b c : Int) : Int → Int := fun k => if b ≤ k ∧ k < b + c then V (k - b) else PV k
def actP (pm : Int) (PV V : Int → Int) : Int → Int := if pm = 4 then actW (actS PV 3600) V 3600 1200 else actW PV V (1200 * pm) 1200
theorem actS_s {PV : Int → Int} {c : Int} (h : 0 ≤ c) : updZ (actS PV c) c (actS PV c (c + 1200)) = actS PV (c + 1) := by
  have e : actS PV c (c + 1200) = PV (c + 1200) := if_neg (by omega)
  rw [e]
  funext k
  unfold updZ actS
  by_cases h1 : k = c
  · rw [if_pos h1, if_pos (by omega), h1]
  · rw [if_neg h1]
    by_cases h2 : 0 ≤ k ∧ k < c
    · rw [if_pos h2, if_pos (by omega)]
    · rw [if_neg h2, if_neg (by omega)]
theorem actS_0 (PV : Int → Int) : actS PV 0 = PV := by
  funext k
  exact if_neg (by omega)
theorem actW_s {PV V : Int → Int} {b c : Int} (h : 0 ≤ c) : updZ (actW PV V b c) (b + c) (V c) = actW PV V b (c + 1) := by
  funext k
  unfold updZ actW
  by_cases h1 : k = b + c
  · rw [if_pos h1, if_pos (by omega), h1, show b + c - b = c by omega]
  · rw [if_neg h1]
    by_cases h2 : b ≤ k ∧ k < b + c
    · rw [if_pos h2, if_pos (by omega)]
    · rw [if_neg h2, if_neg (by omega)]
theorem actW_0 (PV V : Int → Int) (b : Int) : actW PV V b 0 = PV := by
  funext k
  exact if_neg (by omega)
def mOK (V : Int → Int) : Prop := scF V ∧ ((0 ≤ V 8 ∧ V 8 ≤ 100000) ∧ (-(20 * V 13) ≤ V 9 ∧ V 9 ≤ 20 * V 13) ∧ (-2200000 ≤ V 10 ∧ V 10 ≤ 2200000) ∧ (0 ≤ V 11 ∧ V 11 ≤ 100000) ∧ (0 ≤ V 12 ∧ V 12 ≤ 2) ∧ (0 ≤ V 13 ∧ V 13 ≤ 100000)) ∧ ((-2200000 ≤ V 14 ∧ V 14 ≤ 2200000) ∧ (-2200000 ≤ V 15 ∧ V 15 ≤ 2200000) ∧ (-2200000 ≤ V 16 ∧ V 16 ≤ 2200000) ∧ (0 ≤ V 17 ∧ V 17 ≤ V 13))
def rawV (V : Int → Int) : Int := V 8 * (1000 + V 1) / 1000 + V 9
def rwOK (V : Int → Int) : Prop := (0 ≤ V 8 ∧ V 8 ≤ 100000) ∧ (-20 ≤ V 1 ∧ V 1 ≤ 20) ∧ (-2100000 ≤ V 9 ∧ V 9 ≤ 2100000)
theorem mOK.r {V : Int → Int} (h : mOK V) : rwOK V := by
  obtain ⟨hF, ⟨a, b, -, -, -, c⟩, -⟩ := h
  exact ⟨a, hF.1.2.1, ⟨by omega, by omega⟩⟩
theorem rawV_m {V : Int → Int} (h : rwOK V) : 0 ≤ V 8 * (1000 + V 1) ∧ V 8 * (1000 + V 1) ≤ 102000000 := by
  obtain ⟨a, b, c⟩ := h
  refine ⟨Int.mul_nonneg a.1 (by omega), ?_⟩
  have := Int.mul_le_mul a.2 (show 1000 + V 1 ≤ 1020 by omega) (by omega) (by omega)
  omega
theorem rawV_b {V : Int → Int} (h : rwOK V) : -2100000 ≤ rawV V ∧ rawV V ≤ 2202000 := by
  have h1 := rawV_m h
  obtain ⟨a, b, c⟩ := h
  unfold rawV
  omega
def groV (V : Int → Int) : Int := V 2 * ((2 * (rawV V - V 10) + V 2) / (2 * V 2))
def ovrV (V : Int → Int) : Bool := decide (V 3 < rawV V - V 10)
def mx2 (a b : Int) : Int := if b < a then a else b
def mn2 (a b : Int) : Int := if a < b then a else b
def steV (V : Int → Int) : Bool := decide (3 ≤ V 17 ∧ mx2 (V 16) (mx2 (V 15) (V 14)) - mn2 (V 16) (mn2 (V 15) (V 14)) ≤ V 4)
def neaV (V : Int → Int) : Bool := decide (zabs (rawV V - V 10) ≤ V 3 / 20)
def scnV (V : Int → Int) (i : Int) : Int := if i = 0 then V 13 else if i = 1 then rawV V else if i = 2 then groV V else if i = 3 then groV V - V 11 else if i = 4 then V 10 else if i = 5 then V 11 else if i = 6 then V 9 else if i = 7 then bz (steV V) else if i = 8 then bz (ovrV V) else if i = 9 then V 12 else V 8
def pa1 (V : Int → Int) : Int → Int := updZ (updZ V 13 (V 13 + 1)) 9 (V 9 + V 0)
def pa2 (V : Int → Int) : Int → Int := updZ (updZ (pa1 V) (14 + V 17 % 3) (rawV (pa1 V))) 17 (V 17 + 1)
def pa3 (V : Int → Int) : Int → Int := updZ (pa2 V) 12 (if zabs (rawV (pa1 V) - V 10) ≤ V 5 then V 12 + 1 else 0)
def pasV (V : Int → Int) : Int → Int := if pa3 V 12 = 3 then updZ (updZ (pa3 V) 10 (rawV (pa1 V))) 12 0 else pa3 V
def tikV (V : Int → Int) : Nat → Int → Int
  | 0 => V
  | n + 1 => pasV (tikV V n)
theorem tikV_s (V : Int → Int) {c : Int} (h : 0 ≤ c) : tikV V (c + 1).toNat = pasV (tikV V c.toNat) := by
  rw [show (c + 1).toNat = c.toNat + 1 by omega]
  rfl
theorem pa2_lo {V : Int → Int} {j : Int} (h : j < 14) : pa2 V j = pa1 V j := by
  unfold pa2
  rw [updZ_ne _ _ (by omega), updZ_ne _ _ (by omega)]
theorem pa1_v (V : Int → Int) {j : Int} (h : j ≠ 9 ∧ j ≠ 13) : pa1 V j = V j := by
  unfold pa1
  rw [updZ_ne _ _ h.1, updZ_ne _ _ h.2]
theorem rawV_c {V U : Int → Int} (h8 : U 8 = V 8) (h1 : U 1 = V 1) (h9 : U 9 = V 9) : rawV U = rawV V := by
  unfold rawV
  rw [h8, h1, h9]
theorem pa1_r {V : Int → Int} (h : mOK V) (hl : V 13 < 100000) : rwOK (pa1 V) := by
  obtain ⟨hF, ⟨a, b, -, -, -, c⟩, -⟩ := h
  obtain ⟨⟨f0, f1, -, -⟩, -⟩ := hF
  exact ⟨a, f1, ⟨show -2100000 ≤ V 9 + V 0 by omega, show V 9 + V 0 ≤ 2100000 by omega⟩⟩
theorem mOK_pas {V : Int → Int} (h : mOK V) (hl : V 13 < 100000) : mOK (pasV V) ∧ pasV V 13 = V 13 + 1 := by
  have hr := pa1_r h hl
  have hb := rawV_b hr
  have hm := rawV_m hr
  obtain ⟨⟨⟨f0, f1, f2, f3⟩, ⟨f4, f5, f6, f7⟩⟩, ⟨a8, a9, a10, a11, a12, a13⟩, ⟨a14, a15, a16, a17⟩⟩ := h
  have hb2 : -2100000 ≤ rawV (pa1 V) ∧ rawV (pa1 V) ≤ 2200000 := by
    refine ⟨hb.1, ?_⟩
    have e : rawV (pa1 V) = V 8 * (1000 + V 1) / 1000 + (V 9 + V 0) := rfl
    have e2 : pa1 V 8 * (1000 + pa1 V 1) = V 8 * (1000 + V 1) := rfl
    rw [e2] at hm
    omega
  generalize hraw : rawV (pa1 V) = raw at *
  have p1 : ∀ j, j < 8 → pa3 V j = V j := fun j hj => by unfold pa3; rw [updZ_ne _ _ (by omega), pa2_lo (by omega), pa1_v V (by omega)]
  have p8 : pa3 V 8 = V 8 := by unfold pa3; rw [updZ_ne _ _ (by decide), pa2_lo (by decide), pa1_v V (by decide)]
  have p9 : pa3 V 9 = V 9 + V 0 := by unfold pa3; rw [updZ_ne _ _ (by decide), pa2_lo (by decide)]; exact updZ_eq _ _ _
  have p10 : pa3 V 10 = V 10 := by unfold pa3; rw [updZ_ne _ _ (by decide), pa2_lo (by decide), pa1_v V (by decide)]
  have p11 : pa3 V 11 = V 11 := by unfold pa3; rw [updZ_ne _ _ (by decide), pa2_lo (by decide), pa1_v V (by decide)]
  have p13 : pa3 V 13 = V 13 + 1 := by unfold pa3; rw [updZ_ne _ _ (by decide), pa2_lo (by decide)]; rfl
  have p17 : pa3 V 17 = V 17 + 1 := by unfold pa3; rw [updZ_ne _ _ (by decide)]; unfold pa2; rw [updZ_eq]
  have pr : ∀ j, 14 ≤ j → j ≤ 16 → pa3 V j = raw ∨ pa3 V j = V j := by
    intro j h0 h1
    unfold pa3
    rw [updZ_ne _ _ (by omega)]
    unfold pa2
    rw [updZ_ne _ _ (by omega), hraw]
    unfold updZ
    split
    · exact Or.inl rfl
    · exact Or.inr (pa1_v V (by omega))
  have p12 : 0 ≤ pa3 V 12 ∧ pa3 V 12 ≤ 3 := by
    unfold pa3
    rw [updZ_eq]
    split <;> omega
  have q14 := pr 14 (by decide) (by decide)
  have q15 := pr 15 (by decide) (by decide)
  have q16 := pr 16 (by decide) (by decide)
  unfold pasV
  by_cases hc : pa3 V 12 = 3
  · rw [if_pos hc, hraw]
    have u : ∀ j, j ≠ 10 → j ≠ 12 → updZ (updZ (pa3 V) 10 raw) 12 0 j = pa3 V j := fun j h1 h2 => by rw [updZ_ne _ _ h2, updZ_ne _ _ h1]
    have u10 : updZ (updZ (pa3 V) 10 raw) 12 0 10 = raw := by rw [updZ_ne _ _ (by decide), updZ_eq]
    have u12 : updZ (updZ (pa3 V) 10 raw) 12 0 12 = 0 := updZ_eq _ _ _
    refine ⟨⟨?_, ?_, ?_⟩, ?_⟩
    · unfold scF; simp only [u 0 (by decide) (by decide), u 1 (by decide) (by decide), u 2 (by decide) (by decide), u 3 (by decide) (by decide), u 4 (by decide) (by decide), u 5 (by decide) (by decide), u 6 (by decide) (by decide), u 7 (by decide) (by decide), p1 0 (by decide), p1 1 (by decide), p1 2 (by decide), p1 3 (by decide), p1 4 (by decide), p1 5 (by decide), p1 6 (by decide), p1 7 (by decide)]; omega
    · rw [u 8 (by decide) (by decide), u 9 (by decide) (by decide), u10, u 11 (by decide) (by decide), u12, u 13 (by decide) (by decide), p8, p9, p11, p13]; omega
    · rw [u 14 (by decide) (by decide), u 15 (by decide) (by decide), u 16 (by decide) (by decide), u 17 (by decide) (by decide), u 13 (by decide) (by decide), p17, p13]; omega
    · rw [u 13 (by decide) (by decide), p13]
  · rw [if_neg hc]
    refine ⟨⟨?_, ?_, ?_⟩, p13⟩
    · unfold scF; simp only [p1 0 (by decide), p1 1 (by decide), p1 2 (by decide), p1 3 (by decide), p1 4 (by decide), p1 5 (by decide), p1 6 (by decide), p1 7 (by decide)]; omega
    · rw [p8, p9, p10, p11, p13]; omega
    · rw [p17, p13]; omega
theorem mOK_tik {V : Int → Int} (h : mOK V) : ∀ n : Nat, V 13 + n ≤ 100000 → mOK (tikV V n) ∧ tikV V n 13 = V 13 + n
  | 0, _ => ⟨h, by show V 13 = V 13 + 0; omega⟩
  | n + 1, hn => by
    obtain ⟨a, b⟩ := mOK_tik h n (by omega)
    have h2 := mOK_pas a (by omega)
    refine ⟨h2.1, ?_⟩
    have := h2.2
    show pasV (tikV V n) 13 = _
    omega

set_option maxHeartbeats 4000000 in
set_option maxRecDepth 100000 in
theorem c_X7_in {w : gW} {l : Launch} {S : Nat → va_E}  {x a b : Int} (hx : inL x) (ha : inL a) (hb : inL b) :
    GM1 w l yX7_in wsX7_in { frames := 0, cells := 0, slots := 0, locals := 0 } [vL (x), vL (a), vL (b)] S
      (fun v S' => v = vI (bz (decide (a ≤ x ∧ x ≤ b))) ∧ S' = S) := by
  refine GM.start (own := RX7) (n := "in") (d := "(JJJ)Z") (by decide) rfl (Nat.le_of_ble_eq_true rfl) ?_
  intro X hX hR hXl
  subst hXl
  refine g_at rfl (lv2 := [(0, vL (x)), (2, vL (a)), (4, vL (b))]) rfl rfl rfl ?_
  refine g_lload_n (pc := 0) hX 0 rfl dX7_in_0 ?_
  refine g_lload_n (pc := 1) hX 1 rfl dX7_in_1 ?_
  refine g_lcmp_lt (pc := 2) (tgt := 17) hX (by first | assumption | exact inI_L (by assumption) | exact inL_mk (by omega) (by omega)) (by first | assumption | exact inI_L (by assumption) | exact inL_mk (by omega) (by omega)) dX7_in_2 dX7_in_3 (by decide) (fun c_2 => ?_) (fun c_2 => ?_)
  · skip
    refine g_iconst (pc := 17) hX dX7_in_17 ?_
    refine g_at rfl rfl (st2 := [vI (bz false)]) rfl rfl ?_
    refine g_zret (pc := 18) hX hR dX7_in_18 ?_
    exact ⟨vB_f (df (by omega)), rfl⟩
  · skip
    refine g_lload_n (pc := 6) hX 0 rfl dX7_in_6 ?_
    refine g_lload (pc := 7) hX 2 rfl dX7_in_7 ?_
    refine g_lcmp_gt (pc := 9) (tgt := 17) hX (by first | assumption | exact inI_L (by assumption) | exact inL_mk (by omega) (by omega)) (by first | assumption | exact inI_L (by assumption) | exact inL_mk (by omega) (by omega)) dX7_in_9 dX7_in_10 (by decide) (fun c_9 => ?_) (fun c_9 => ?_)
    · skip
      refine g_iconst (pc := 17) hX dX7_in_17 ?_
      refine g_at rfl rfl (st2 := [vI (bz false)]) rfl rfl ?_
      refine g_zret (pc := 18) hX hR dX7_in_18 ?_
      exact ⟨vB_f (df (by omega)), rfl⟩
    · skip
      refine g_iconst (pc := 13) hX dX7_in_13 ?_
      refine g_goto (pc := 14) (tgt := 18) hX dX7_in_14 (by decide) ?_
      refine g_at rfl rfl (st2 := [vI (bz true)]) rfl rfl ?_
      refine g_zret (pc := 18) hX hR dX7_in_18 ?_
      exact ⟨vB_t (dt (by omega)), rfl⟩

set_option maxHeartbeats 4000000 in
set_option maxRecDepth 100000 in
theorem c_X7_div {w : gW} {l : Launch} {S : Nat → va_E}  {x y : Int} (hx : -1000000000000000 ≤ x ∧ x ≤ 1000000000000000) (hy : 1 ≤ y ∧ y ≤ 1000000000) :
    GM1 w l yX7_div wsX7_div { frames := 0, cells := 0, slots := 0, locals := 0 } [vL (x), vL (y)] S
      (fun v S' => v = vL (x / y) ∧ S' = S) := by
  refine GM.start (own := RX7) (n := "div") (d := "(JJ)J") (by decide) rfl (Nat.le_of_ble_eq_true rfl) ?_
  intro X hX hR hXl
  subst hXl
  refine g_at rfl (lv2 := [(0, vL (x)), (2, vL (y))]) rfl rfl rfl ?_
  
  have hm1 : -y < (x).tmod y ∧ (x).tmod y < y := by
    refine ⟨?_, Int.tmod_lt_of_pos _ (by omega)⟩
    have := Int.tmod_lt_of_pos (-x) (show 0 < y by omega)
    rw [Int.neg_tmod] at this
    omega
  refine g_lload_n (pc := 0) hX 0 rfl dX7_div_0 ?_
  refine g_lload_n (pc := 1) hX 1 rfl dX7_div_1 ?_
  refine g_lrem (pc := 2) hX (by first | assumption | exact inI_L (by assumption) | exact inL_mk (by omega) (by omega)) (by first | assumption | exact inI_L (by assumption) | exact inL_mk (by omega) (by omega)) (by omega) dX7_div_2 ?_
  refine g_lstore (pc := 3) hX (lv2 := [(4, vL ((x).tmod (y))), (0, vL (x)), (2, vL (y))]) (by decide) rfl dX7_div_3 ?_
  refine g_lload_n (pc := 5) hX 1 rfl dX7_div_5 ?_
  refine g_lload (pc := 6) hX 0 rfl dX7_div_6 ?_
  refine g_lconst (pc := 8) hX (z := 0) rfl dX7_div_8 ?_
  refine g_lcmp_ge (pc := 9) (tgt := 20) hX (by first | assumption | exact inI_L (by assumption) | exact inL_mk (by omega) (by omega)) (by first | assumption | exact inI_L (by assumption) | exact inL_mk (by omega) (by omega)) dX7_div_9 dX7_div_10 (by decide) (fun c_9 => ?_) (fun c_9 => ?_)
  · skip
    refine g_lload (pc := 20) hX 0 rfl dX7_div_20 ?_
    refine g_lsub (pc := 22) hX dX7_div_22 ?_
    refine g_lload_n (pc := 23) hX 2 rfl dX7_div_23 ?_
    refine g_ldiv (pc := 24) hX (by first | assumption | exact inI_L (by assumption) | exact inL_mk (by omega) (by omega)) (by first | assumption | exact inI_L (by assumption) | exact inL_mk (by omega) (by omega)) (by omega) dX7_div_24 ?_
    refine g_lret (pc := 25) hX hR dX7_div_25 ?_
    refine ⟨vL_c ?_, rfl⟩
    rw [← divZ (show 0 < y by omega)]
    rw [if_neg (by omega)]
  · skip
    refine g_lload (pc := 13) hX 0 rfl dX7_div_13 ?_
    refine g_lload_n (pc := 15) hX 2 rfl dX7_div_15 ?_
    refine g_ladd (pc := 16) hX dX7_div_16 ?_
    refine g_goto (pc := 17) (tgt := 22) hX dX7_div_17 (by decide) ?_
    refine g_lsub (pc := 22) hX dX7_div_22 ?_
    refine g_lload_n (pc := 23) hX 2 rfl dX7_div_23 ?_
    refine g_ldiv (pc := 24) hX (by first | assumption | exact inI_L (by assumption) | exact inL_mk (by omega) (by omega)) (by first | assumption | exact inI_L (by assumption) | exact inL_mk (by omega) (by omega)) (by omega) dX7_div_24 ?_
    refine g_lret (pc := 25) hX hR dX7_div_25 ?_
    refine ⟨vL_c ?_, rfl⟩
    rw [← divZ (show 0 < y by omega)]
    rw [if_pos (by omega)]

set_option maxHeartbeats 4000000 in
set_option maxRecDepth 100000 in
theorem c_X7_up {w : gW} {l : Launch} {S : Nat → va_E}  {x y : Int} (hx : 0 ≤ x ∧ x ≤ 1000000000000000) (hy : 1 ≤ y ∧ y ≤ 1000000000) :
    GM1 w l yX7_up wsX7_up { frames := 0, cells := 0, slots := 0, locals := 0 } [vL (x), vL (y)] S
      (fun v S' => v = vL ((x + y - 1) / y) ∧ S' = S) := by
  refine GM.start (own := RX7) (n := "up") (d := "(JJ)J") (by decide) rfl (Nat.le_of_ble_eq_true rfl) ?_
  intro X hX hR hXl
  subst hXl
  refine g_at rfl (lv2 := [(0, vL (x)), (2, vL (y))]) rfl rfl rfl ?_
  refine g_lload_n (pc := 0) hX 0 rfl dX7_up_0 ?_
  refine g_lload_n (pc := 1) hX 1 rfl dX7_up_1 ?_
  refine g_ladd (pc := 2) hX dX7_up_2 ?_
  refine g_lconst (pc := 3) hX (z := 1) rfl dX7_up_3 ?_
  refine g_lsub (pc := 4) hX dX7_up_4 ?_
  refine g_lload_n (pc := 5) hX 1 rfl dX7_up_5 ?_
  refine g_ldiv (pc := 6) hX (by first | assumption | exact inI_L (by assumption) | exact inL_mk (by omega) (by omega)) (by first | assumption | exact inI_L (by assumption) | exact inL_mk (by omega) (by omega)) (by omega) dX7_up_6 ?_
  refine g_lret (pc := 7) hX hR dX7_up_7 ?_
  exact ⟨vL_c (fdiv_a (by omega)), rfl⟩

set_option maxHeartbeats 4000000 in
set_option maxRecDepth 100000 in
theorem c_X7_size {w : gW} {l : Launch} {S : Nat → va_E}  {x : Int} (hx : inL x) :
    GM1 w l yX7_size wsX7_size { frames := 0, cells := 0, slots := 0, locals := 0 } [vL (x)] S
      (fun v S' => v = vL (zabs x) ∧ S' = S) := by
  refine GM.start (own := RX7) (n := "size") (d := "(J)J") (by decide) rfl (Nat.le_of_ble_eq_true rfl) ?_
  intro X hX hR hXl
  subst hXl
  refine g_at rfl (lv2 := [(0, vL (x))]) rfl rfl rfl ?_
  refine g_lload_n (pc := 0) hX 0 rfl dX7_size_0 ?_
  refine g_lconst (pc := 1) hX (z := 0) rfl dX7_size_1 ?_
  refine g_lcmp_ge (pc := 2) (tgt := 11) hX (by first | assumption | exact inI_L (by assumption) | exact inL_mk (by omega) (by omega)) (by first | assumption | exact inI_L (by assumption) | exact inL_mk (by omega) (by omega)) dX7_size_2 dX7_size_3 (by decide) (fun c_2 => ?_) (fun c_2 => ?_)
  · skip
    refine g_lload_n (pc := 11) hX 0 rfl dX7_size_11 ?_
    refine g_lret (pc := 12) hX hR dX7_size_12 ?_
    exact ⟨vL_c (by unfold zabs; first | exact (if_pos (by omega)).symm | exact (if_neg (by omega)).symm), rfl⟩
  · skip
    refine g_lload_n (pc := 6) hX 0 rfl dX7_size_6 ?_
    refine g_lneg (pc := 7) hX dX7_size_7 ?_
    refine g_goto (pc := 8) (tgt := 12) hX dX7_size_8 (by decide) ?_
    refine g_lret (pc := 12) hX hR dX7_size_12 ?_
    exact ⟨vL_c (by unfold zabs; first | exact (if_pos (by omega)).symm | exact (if_neg (by omega)).symm), rfl⟩

set_option maxHeartbeats 4000000 in
set_option maxRecDepth 100000 in
theorem c_X7_isZone {w : gW} {l : Launch} {S : Nat → va_E}  {z : Int} (hz : inI z) :
    GM1 w l yX7_isZone wsX7_isZone { frames := 1, cells := 0, slots := 0, locals := 25 } [vI (z)] S
      (fun v S' => v = vI (bz (decide (0 ≤ z ∧ z ≤ 3))) ∧ S' = S) := by
  refine GM.start (own := RX7) (n := "isZone") (d := "(I)Z") (by decide) rfl (Nat.le_of_ble_eq_true rfl) ?_
  intro X hX hR hXl
  subst hXl
  refine g_at rfl (lv2 := [(0, vI (z))]) rfl rfl rfl ?_
  refine g_iload_n (pc := 0) hX 0 rfl dX7_isZone_0 ?_
  refine g_i2l (pc := 1) hX (by first | assumption | exact inI_mk (by omega) (by omega)) dX7_isZone_1 ?_
  refine g_lconst (pc := 2) hX (z := 0) rfl dX7_isZone_2 ?_
  refine g_ldc2 (pc := 3) hX (z := 3) (List.mem_of_getElem? (i := 1) rfl) (by decide +kernel) dX7_isZone_3 ?_
  refine g_callT1 (pc := 6) (As := [vL (z), vL (0), vL (3)]) (st2 := []) hX (c_X7_in (x := z) (a := 0) (b := 3) (by first | assumption | exact inI_L (by assumption) | exact inL_mk (by omega) (by omega)) (by first | assumption | exact inI_L (by assumption) | exact inL_mk (by omega) (by omega)) (by first | assumption | exact inI_L (by assumption) | exact inL_mk (by omega) (by omega))) gX7_isZone_X7_in (n := 3) (hw := rfl) (hrc := rfl) (hrs := rfl) (hd := by decide +kernel) (hR := ⟨Nat.le_of_ble_eq_true rfl, Nat.le_of_ble_eq_true rfl⟩) (hn := rfl) (hst := rfl) (hsum := Nat.le_of_ble_eq_true rfl) (hdg := dX7_isZone_6) ?_
  rintro _ S9 ⟨rfl, e9⟩
  rw [e9]
  clear e9 S9
  refine g_at (pc2 := 9) rfl rfl (st2 := [vI (bz (decide (0 ≤ z ∧ z ≤ 3)))]) rfl (S2 := S) rfl ?_
  refine g_zret (pc := 9) hX hR dX7_isZone_9 ?_
  exact ⟨rfl, rfl⟩

set_option maxHeartbeats 4000000 in
set_option maxRecDepth 100000 in
theorem c_X7_isSide {w : gW} {l : Launch} {S : Nat → va_E}  {z : Int} (hz : inI z) :
    GM1 w l yX7_isSide wsX7_isSide { frames := 1, cells := 0, slots := 0, locals := 25 } [vI (z)] S
      (fun v S' => v = vI (bz (decide (1 ≤ z ∧ z ≤ 2000))) ∧ S' = S) := by
  refine GM.start (own := RX7) (n := "isSide") (d := "(I)Z") (by decide) rfl (Nat.le_of_ble_eq_true rfl) ?_
  intro X hX hR hXl
  subst hXl
  refine g_at rfl (lv2 := [(0, vI (z))]) rfl rfl rfl ?_
  refine g_iload_n (pc := 0) hX 0 rfl dX7_isSide_0 ?_
  refine g_i2l (pc := 1) hX (by first | assumption | exact inI_mk (by omega) (by omega)) dX7_isSide_1 ?_
  refine g_lconst (pc := 2) hX (z := 1) rfl dX7_isSide_2 ?_
  refine g_ldc2 (pc := 3) hX (z := 2000) (List.mem_of_getElem? (i := 1) rfl) (by decide +kernel) dX7_isSide_3 ?_
  refine g_callT1 (pc := 6) (As := [vL (z), vL (1), vL (2000)]) (st2 := []) hX (c_X7_in (x := z) (a := 1) (b := 2000) (by first | assumption | exact inI_L (by assumption) | exact inL_mk (by omega) (by omega)) (by first | assumption | exact inI_L (by assumption) | exact inL_mk (by omega) (by omega)) (by first | assumption | exact inI_L (by assumption) | exact inL_mk (by omega) (by omega))) gX7_isSide_X7_in (n := 3) (hw := rfl) (hrc := rfl) (hrs := rfl) (hd := by decide +kernel) (hR := ⟨Nat.le_of_ble_eq_true rfl, Nat.le_of_ble_eq_true rfl⟩) (hn := rfl) (hst := rfl) (hsum := Nat.le_of_ble_eq_true rfl) (hdg := dX7_isSide_6) ?_
  rintro _ S9 ⟨rfl, e9⟩
  rw [e9]
  clear e9 S9
  refine g_at (pc2 := 9) rfl rfl (st2 := [vI (bz (decide (1 ≤ z ∧ z ≤ 2000)))]) rfl (S2 := S) rfl ?_
  refine g_zret (pc := 9) hX hR dX7_isSide_9 ?_
  exact ⟨rfl, rfl⟩

set_option maxHeartbeats 4000000 in
set_option maxRecDepth 100000 in
theorem c_X7_placeOf {w : gW} {l : Launch} {S : Nat → va_E}  {z k : Int} :
    GM1 w l yX7_placeOf wsX7_placeOf { frames := 0, cells := 0, slots := 0, locals := 0 } [vI (z), vI (k)] S
      (fun v S' => v = vI (24 + 14 * z + 2 + 2 * k) ∧ S' = S) := by
  refine GM.start (own := RX7) (n := "placeOf") (d := "(II)I") (by decide) rfl (Nat.le_of_ble_eq_true rfl) ?_
  intro X hX hR hXl
  subst hXl
  refine g_at rfl (lv2 := [(0, vI (z)), (1, vI (k))]) rfl rfl rfl ?_
  refine g_bipush (pc := 0) hX (by decide) dX7_placeOf_0 ?_
  refine g_bipush (pc := 2) hX (by decide) dX7_placeOf_2 ?_
  refine g_iload_n (pc := 4) hX 0 rfl dX7_placeOf_4 ?_
  refine g_imul (pc := 5) hX dX7_placeOf_5 ?_
  refine g_iadd (pc := 6) hX dX7_placeOf_6 ?_
  refine g_iconst (pc := 7) hX dX7_placeOf_7 ?_
  refine g_iadd (pc := 8) hX dX7_placeOf_8 ?_
  refine g_iconst (pc := 9) hX dX7_placeOf_9 ?_
  refine g_iload_n (pc := 10) hX 1 rfl dX7_placeOf_10 ?_
  refine g_imul (pc := 11) hX dX7_placeOf_11 ?_
  refine g_iadd (pc := 12) hX dX7_placeOf_12 ?_
  refine g_iret (pc := 13) hX hR dX7_placeOf_13 ?_
  exact ⟨rfl, rfl⟩

set_option maxHeartbeats 4000000 in
set_option maxRecDepth 100000 in
theorem c_X7_isIn {w : gW} {l : Launch} {S : Nat → va_E}  {i x : Int} (hi : inI i) (hx : inI x) :
    GM1 w l yX7_isIn wsX7_isIn { frames := 1, cells := 0, slots := 0, locals := 25 } [vI (i), vI (x)] S
      (fun v S' => v = vI (bz (decide (setOK i x))) ∧ S' = S) := by
  refine GM.start (own := RX7) (n := "isIn") (d := "(II)Z") (by decide) rfl (Nat.le_of_ble_eq_true rfl) ?_
  intro X hX hR hXl
  subst hXl
  refine g_at rfl (lv2 := [(0, vI (i)), (1, vI (x))]) rfl rfl rfl ?_
  refine g_iload_n (pc := 0) hX 0 rfl dX7_isIn_0 ?_
  rcases (show i = 0 ∨ i = 1 ∨ i = 2 ∨ i = 3 ∨ i = 4 ∨ i = 5 ∨ i = 6 ∨ (i < 0 ∨ 6 < i) by omega) with hs | hs | hs | hs | hs | hs | hs | hs
  · skip
    refine g_tin (pc := 1) (tgt := 44) (n := 0) hX hs (by decide) (by decide) (by decide) rfl dX7_isIn_1 (by decide) ?_
    refine g_iload_n (pc := 44) hX 1 rfl dX7_isIn_44 ?_
    refine g_i2l (pc := 45) hX (by first | assumption | exact inI_mk (by omega) (by omega)) dX7_isIn_45 ?_
    refine g_ldc2 (pc := 46) hX (z := -20) (List.mem_of_getElem? (i := 1) rfl) (by decide +kernel) dX7_isIn_46 ?_
    refine g_ldc2 (pc := 49) hX (z := 20) (List.mem_of_getElem? (i := 2) rfl) (by decide +kernel) dX7_isIn_49 ?_
    refine g_callT1 (pc := 52) (As := [vL (x), vL (-20), vL (20)]) (st2 := []) hX (c_X7_in (x := x) (a := -20) (b := 20) (by first | assumption | exact inI_L (by assumption) | exact inL_mk (by omega) (by omega)) (by first | assumption | exact inI_L (by assumption) | exact inL_mk (by omega) (by omega)) (by first | assumption | exact inI_L (by assumption) | exact inL_mk (by omega) (by omega))) gX7_isIn_X7_in (n := 3) (hw := rfl) (hrc := rfl) (hrs := rfl) (hd := by decide +kernel) (hR := ⟨Nat.le_of_ble_eq_true rfl, Nat.le_of_ble_eq_true rfl⟩) (hn := rfl) (hst := rfl) (hsum := Nat.le_of_ble_eq_true rfl) (hdg := dX7_isIn_52) ?_
    rintro _ S9 ⟨rfl, e9⟩
    rw [e9]
    clear e9 S9
    refine g_at (pc2 := 55) rfl rfl (st2 := [vI (bz (decide (-20 ≤ x ∧ x ≤ 20)))]) rfl (S2 := S) rfl ?_
    refine g_zret (pc := 55) hX hR dX7_isIn_55 ?_
    have e1 : loS i.toNat = -20 := by rw [hs]; rfl
    have e2 : hiS i.toNat = 20 := by rw [hs]; rfl
    refine ⟨vI_c (congrArg bz ?_), rfl⟩
    apply decide_eq_decide.mpr
    constructor
    · intro z
      exact ⟨by omega, by rw [e1, e2]; exact z⟩
    · intro z
      have z2 := z.2
      rw [e1, e2] at z2
      exact z2
  · skip
    refine g_tin (pc := 1) (tgt := 56) (n := 1) hX hs (by decide) (by decide) (by decide) rfl dX7_isIn_1 (by decide) ?_
    refine g_iload_n (pc := 56) hX 1 rfl dX7_isIn_56 ?_
    refine g_i2l (pc := 57) hX (by first | assumption | exact inI_mk (by omega) (by omega)) dX7_isIn_57 ?_
    refine g_ldc2 (pc := 58) hX (z := -20) (List.mem_of_getElem? (i := 1) rfl) (by decide +kernel) dX7_isIn_58 ?_
    refine g_ldc2 (pc := 61) hX (z := 20) (List.mem_of_getElem? (i := 2) rfl) (by decide +kernel) dX7_isIn_61 ?_
    refine g_callT1 (pc := 64) (As := [vL (x), vL (-20), vL (20)]) (st2 := []) hX (c_X7_in (x := x) (a := -20) (b := 20) (by first | assumption | exact inI_L (by assumption) | exact inL_mk (by omega) (by omega)) (by first | assumption | exact inI_L (by assumption) | exact inL_mk (by omega) (by omega)) (by first | assumption | exact inI_L (by assumption) | exact inL_mk (by omega) (by omega))) gX7_isIn_X7_in (n := 3) (hw := rfl) (hrc := rfl) (hrs := rfl) (hd := by decide +kernel) (hR := ⟨Nat.le_of_ble_eq_true rfl, Nat.le_of_ble_eq_true rfl⟩) (hn := rfl) (hst := rfl) (hsum := Nat.le_of_ble_eq_true rfl) (hdg := dX7_isIn_64) ?_
    rintro _ S9 ⟨rfl, e9⟩
    rw [e9]
    clear e9 S9
    refine g_at (pc2 := 67) rfl rfl (st2 := [vI (bz (decide (-20 ≤ x ∧ x ≤ 20)))]) rfl (S2 := S) rfl ?_
    refine g_zret (pc := 67) hX hR dX7_isIn_67 ?_
    have e1 : loS i.toNat = -20 := by rw [hs]; rfl
    have e2 : hiS i.toNat = 20 := by rw [hs]; rfl
    refine ⟨vI_c (congrArg bz ?_), rfl⟩
    apply decide_eq_decide.mpr
    constructor
    · intro z
      exact ⟨by omega, by rw [e1, e2]; exact z⟩
    · intro z
      have z2 := z.2
      rw [e1, e2] at z2
      exact z2
  · skip
    refine g_tin (pc := 1) (tgt := 68) (n := 2) hX hs (by decide) (by decide) (by decide) rfl dX7_isIn_1 (by decide) ?_
    refine g_iload_n (pc := 68) hX 1 rfl dX7_isIn_68 ?_
    refine g_i2l (pc := 69) hX (by first | assumption | exact inI_mk (by omega) (by omega)) dX7_isIn_69 ?_
    refine g_lconst (pc := 70) hX (z := 1) rfl dX7_isIn_70 ?_
    refine g_ldc2 (pc := 71) hX (z := 100) (List.mem_of_getElem? (i := 3) rfl) (by decide +kernel) dX7_isIn_71 ?_
    refine g_callT1 (pc := 74) (As := [vL (x), vL (1), vL (100)]) (st2 := []) hX (c_X7_in (x := x) (a := 1) (b := 100) (by first | assumption | exact inI_L (by assumption) | exact inL_mk (by omega) (by omega)) (by first | assumption | exact inI_L (by assumption) | exact inL_mk (by omega) (by omega)) (by first | assumption | exact inI_L (by assumption) | exact inL_mk (by omega) (by omega))) gX7_isIn_X7_in (n := 3) (hw := rfl) (hrc := rfl) (hrs := rfl) (hd := by decide +kernel) (hR := ⟨Nat.le_of_ble_eq_true rfl, Nat.le_of_ble_eq_true rfl⟩) (hn := rfl) (hst := rfl) (hsum := Nat.le_of_ble_eq_true rfl) (hdg := dX7_isIn_74) ?_
    rintro _ S9 ⟨rfl, e9⟩
    rw [e9]
    clear e9 S9
    refine g_at (pc2 := 77) rfl rfl (st2 := [vI (bz (decide (1 ≤ x ∧ x ≤ 100)))]) rfl (S2 := S) rfl ?_
    refine g_zret (pc := 77) hX hR dX7_isIn_77 ?_
    have e1 : loS i.toNat = 1 := by rw [hs]; rfl
    have e2 : hiS i.toNat = 100 := by rw [hs]; rfl
    refine ⟨vI_c (congrArg bz ?_), rfl⟩
    apply decide_eq_decide.mpr
    constructor
    · intro z
      exact ⟨by omega, by rw [e1, e2]; exact z⟩
    · intro z
      have z2 := z.2
      rw [e1, e2] at z2
      exact z2
  · skip
    refine g_tin (pc := 1) (tgt := 78) (n := 3) hX hs (by decide) (by decide) (by decide) rfl dX7_isIn_1 (by decide) ?_
    refine g_iload_n (pc := 78) hX 1 rfl dX7_isIn_78 ?_
    refine g_i2l (pc := 79) hX (by first | assumption | exact inI_mk (by omega) (by omega)) dX7_isIn_79 ?_
    refine g_ldc2 (pc := 80) hX (z := 1000) (List.mem_of_getElem? (i := 4) rfl) (by decide +kernel) dX7_isIn_80 ?_
    refine g_ldc2 (pc := 83) hX (z := 70000) (List.mem_of_getElem? (i := 5) rfl) (by decide +kernel) dX7_isIn_83 ?_
    refine g_callT1 (pc := 86) (As := [vL (x), vL (1000), vL (70000)]) (st2 := []) hX (c_X7_in (x := x) (a := 1000) (b := 70000) (by first | assumption | exact inI_L (by assumption) | exact inL_mk (by omega) (by omega)) (by first | assumption | exact inI_L (by assumption) | exact inL_mk (by omega) (by omega)) (by first | assumption | exact inI_L (by assumption) | exact inL_mk (by omega) (by omega))) gX7_isIn_X7_in (n := 3) (hw := rfl) (hrc := rfl) (hrs := rfl) (hd := by decide +kernel) (hR := ⟨Nat.le_of_ble_eq_true rfl, Nat.le_of_ble_eq_true rfl⟩) (hn := rfl) (hst := rfl) (hsum := Nat.le_of_ble_eq_true rfl) (hdg := dX7_isIn_86) ?_
    rintro _ S9 ⟨rfl, e9⟩
    rw [e9]
    clear e9 S9
    refine g_at (pc2 := 89) rfl rfl (st2 := [vI (bz (decide (1000 ≤ x ∧ x ≤ 70000)))]) rfl (S2 := S) rfl ?_
    refine g_zret (pc := 89) hX hR dX7_isIn_89 ?_
    have e1 : loS i.toNat = 1000 := by rw [hs]; rfl
    have e2 : hiS i.toNat = 70000 := by rw [hs]; rfl
    refine ⟨vI_c (congrArg bz ?_), rfl⟩
    apply decide_eq_decide.mpr
    constructor
    · intro z
      exact ⟨by omega, by rw [e1, e2]; exact z⟩
    · intro z
      have z2 := z.2
      rw [e1, e2] at z2
      exact z2
  · skip
    refine g_tin (pc := 1) (tgt := 90) (n := 4) hX hs (by decide) (by decide) (by decide) rfl dX7_isIn_1 (by decide) ?_
    refine g_iload_n (pc := 90) hX 1 rfl dX7_isIn_90 ?_
    refine g_i2l (pc := 91) hX (by first | assumption | exact inI_mk (by omega) (by omega)) dX7_isIn_91 ?_
    refine g_lconst (pc := 92) hX (z := 0) rfl dX7_isIn_92 ?_
    refine g_ldc2 (pc := 93) hX (z := 100) (List.mem_of_getElem? (i := 3) rfl) (by decide +kernel) dX7_isIn_93 ?_
    refine g_callT1 (pc := 96) (As := [vL (x), vL (0), vL (100)]) (st2 := []) hX (c_X7_in (x := x) (a := 0) (b := 100) (by first | assumption | exact inI_L (by assumption) | exact inL_mk (by omega) (by omega)) (by first | assumption | exact inI_L (by assumption) | exact inL_mk (by omega) (by omega)) (by first | assumption | exact inI_L (by assumption) | exact inL_mk (by omega) (by omega))) gX7_isIn_X7_in (n := 3) (hw := rfl) (hrc := rfl) (hrs := rfl) (hd := by decide +kernel) (hR := ⟨Nat.le_of_ble_eq_true rfl, Nat.le_of_ble_eq_true rfl⟩) (hn := rfl) (hst := rfl) (hsum := Nat.le_of_ble_eq_true rfl) (hdg := dX7_isIn_96) ?_
    rintro _ S9 ⟨rfl, e9⟩
    rw [e9]
    clear e9 S9
    refine g_at (pc2 := 99) rfl rfl (st2 := [vI (bz (decide (0 ≤ x ∧ x ≤ 100)))]) rfl (S2 := S) rfl ?_
    refine g_zret (pc := 99) hX hR dX7_isIn_99 ?_
    have e1 : loS i.toNat = 0 := by rw [hs]; rfl
    have e2 : hiS i.toNat = 100 := by rw [hs]; rfl
    refine ⟨vI_c (congrArg bz ?_), rfl⟩
    apply decide_eq_decide.mpr
    constructor
    · intro z
      exact ⟨by omega, by rw [e1, e2]; exact z⟩
    · intro z
      have z2 := z.2
      rw [e1, e2] at z2
      exact z2
  · skip
    refine g_tin (pc := 1) (tgt := 100) (n := 5) hX hs (by decide) (by decide) (by decide) rfl dX7_isIn_1 (by decide) ?_
    refine g_iload_n (pc := 100) hX 1 rfl dX7_isIn_100 ?_
    refine g_i2l (pc := 101) hX (by first | assumption | exact inI_mk (by omega) (by omega)) dX7_isIn_101 ?_
    refine g_lconst (pc := 102) hX (z := 0) rfl dX7_isIn_102 ?_
    refine g_ldc2 (pc := 103) hX (z := 200) (List.mem_of_getElem? (i := 6) rfl) (by decide +kernel) dX7_isIn_103 ?_
    refine g_callT1 (pc := 106) (As := [vL (x), vL (0), vL (200)]) (st2 := []) hX (c_X7_in (x := x) (a := 0) (b := 200) (by first | assumption | exact inI_L (by assumption) | exact inL_mk (by omega) (by omega)) (by first | assumption | exact inI_L (by assumption) | exact inL_mk (by omega) (by omega)) (by first | assumption | exact inI_L (by assumption) | exact inL_mk (by omega) (by omega))) gX7_isIn_X7_in (n := 3) (hw := rfl) (hrc := rfl) (hrs := rfl) (hd := by decide +kernel) (hR := ⟨Nat.le_of_ble_eq_true rfl, Nat.le_of_ble_eq_true rfl⟩) (hn := rfl) (hst := rfl) (hsum := Nat.le_of_ble_eq_true rfl) (hdg := dX7_isIn_106) ?_
    rintro _ S9 ⟨rfl, e9⟩
    rw [e9]
    clear e9 S9
    refine g_at (pc2 := 109) rfl rfl (st2 := [vI (bz (decide (0 ≤ x ∧ x ≤ 200)))]) rfl (S2 := S) rfl ?_
    refine g_zret (pc := 109) hX hR dX7_isIn_109 ?_
    have e1 : loS i.toNat = 0 := by rw [hs]; rfl
    have e2 : hiS i.toNat = 200 := by rw [hs]; rfl
    refine ⟨vI_c (congrArg bz ?_), rfl⟩
    apply decide_eq_decide.mpr
    constructor
    · intro z
      exact ⟨by omega, by rw [e1, e2]; exact z⟩
    · intro z
      have z2 := z.2
      rw [e1, e2] at z2
      exact z2
  · skip
    refine g_tin (pc := 1) (tgt := 110) (n := 6) hX hs (by decide) (by decide) (by decide) rfl dX7_isIn_1 (by decide) ?_
    refine g_iload_n (pc := 110) hX 1 rfl dX7_isIn_110 ?_
    refine g_i2l (pc := 111) hX (by first | assumption | exact inI_mk (by omega) (by omega)) dX7_isIn_111 ?_
    refine g_ldc2 (pc := 112) hX (z := 1000) (List.mem_of_getElem? (i := 4) rfl) (by decide +kernel) dX7_isIn_112 ?_
    refine g_ldc2 (pc := 115) hX (z := 9999) (List.mem_of_getElem? (i := 7) rfl) (by decide +kernel) dX7_isIn_115 ?_
    refine g_callT1 (pc := 118) (As := [vL (x), vL (1000), vL (9999)]) (st2 := []) hX (c_X7_in (x := x) (a := 1000) (b := 9999) (by first | assumption | exact inI_L (by assumption) | exact inL_mk (by omega) (by omega)) (by first | assumption | exact inI_L (by assumption) | exact inL_mk (by omega) (by omega)) (by first | assumption | exact inI_L (by assumption) | exact inL_mk (by omega) (by omega))) gX7_isIn_X7_in (n := 3) (hw := rfl) (hrc := rfl) (hrs := rfl) (hd := by decide +kernel) (hR := ⟨Nat.le_of_ble_eq_true rfl, Nat.le_of_ble_eq_true rfl⟩) (hn := rfl) (hst := rfl) (hsum := Nat.le_of_ble_eq_true rfl) (hdg := dX7_isIn_118) ?_
    rintro _ S9 ⟨rfl, e9⟩
    rw [e9]
    clear e9 S9
    refine g_at (pc2 := 121) rfl rfl (st2 := [vI (bz (decide (1000 ≤ x ∧ x ≤ 9999)))]) rfl (S2 := S) rfl ?_
    refine g_zret (pc := 121) hX hR dX7_isIn_121 ?_
    have e1 : loS i.toNat = 1000 := by rw [hs]; rfl
    have e2 : hiS i.toNat = 9999 := by rw [hs]; rfl
    refine ⟨vI_c (congrArg bz ?_), rfl⟩
    apply decide_eq_decide.mpr
    constructor
    · intro z
      exact ⟨by omega, by rw [e1, e2]; exact z⟩
    · intro z
      have z2 := z.2
      rw [e1, e2] at z2
      exact z2
  · skip
    refine g_tout (pc := 1) (tgt := 122) hX (by first | assumption | exact inI_mk (by omega) (by omega)) hs dX7_isIn_1 (by decide) ?_
    refine g_iload_n (pc := 122) hX 0 rfl dX7_isIn_122 ?_
    refine g_bipush (pc := 123) hX (by decide) dX7_isIn_123 ?_
    refine g_icmp_ne (pc := 125) (tgt := 144) hX (by first | assumption | exact inI_mk (by omega) (by omega)) (by first | assumption | exact inI_mk (by omega) (by omega)) dX7_isIn_125 (by decide) (fun c_125 => ?_) (fun c_125 => ?_)
    · skip
      refine g_iconst (pc := 144) hX dX7_isIn_144 ?_
      refine g_at rfl rfl (st2 := [vI (bz false)]) rfl rfl ?_
      refine g_zret (pc := 145) hX hR dX7_isIn_145 ?_
      by_cases h7 : i = 7
      · have e1 : loS i.toNat = 1 := by rw [h7]; rfl
        have e2 : hiS i.toNat = 1000 := by rw [h7]; rfl
        exact absurd h7 (by omega)
      · exact ⟨vB_f (df (fun z => by have := z.1; omega)), rfl⟩
    · skip
      refine g_iload_n (pc := 128) hX 1 rfl dX7_isIn_128 ?_
      refine g_i2l (pc := 129) hX (by first | assumption | exact inI_mk (by omega) (by omega)) dX7_isIn_129 ?_
      refine g_lconst (pc := 130) hX (z := 1) rfl dX7_isIn_130 ?_
      refine g_ldc2 (pc := 131) hX (z := 1000) (List.mem_of_getElem? (i := 4) rfl) (by decide +kernel) dX7_isIn_131 ?_
      refine g_callT1 (pc := 134) (As := [vL (x), vL (1), vL (1000)]) (st2 := []) hX (c_X7_in (x := x) (a := 1) (b := 1000) (by first | assumption | exact inI_L (by assumption) | exact inL_mk (by omega) (by omega)) (by first | assumption | exact inI_L (by assumption) | exact inL_mk (by omega) (by omega)) (by first | assumption | exact inI_L (by assumption) | exact inL_mk (by omega) (by omega))) gX7_isIn_X7_in (n := 3) (hw := rfl) (hrc := rfl) (hrs := rfl) (hd := by decide +kernel) (hR := ⟨Nat.le_of_ble_eq_true rfl, Nat.le_of_ble_eq_true rfl⟩) (hn := rfl) (hst := rfl) (hsum := Nat.le_of_ble_eq_true rfl) (hdg := dX7_isIn_134) ?_
      rintro _ S9 ⟨rfl, e9⟩
      rw [e9]
      clear e9 S9
      refine g_at (pc2 := 137) rfl rfl (st2 := [vI (bz (decide (1 ≤ x ∧ x ≤ 1000)))]) rfl (S2 := S) rfl ?_
      refine g_bif_eq (pc := 137) (tgt := 144) hX dX7_isIn_137 (by decide) (fun c_137 => ?_) (fun c_137 => ?_)
      · skip
        refine g_iconst (pc := 144) hX dX7_isIn_144 ?_
        refine g_at rfl rfl (st2 := [vI (bz false)]) rfl rfl ?_
        refine g_zret (pc := 145) hX hR dX7_isIn_145 ?_
        by_cases h7 : i = 7
        · have e1 : loS i.toNat = 1 := by rw [h7]; rfl
          have e2 : hiS i.toNat = 1000 := by rw [h7]; rfl
          exact ⟨vB_f (df (fun z => by have z2 := z.2; rw [e1, e2] at z2; have := of_decide_eq_false c_137; omega)), rfl⟩
        · exact absurd c_125 h7
      · skip
        refine g_iconst (pc := 140) hX dX7_isIn_140 ?_
        refine g_goto (pc := 141) (tgt := 145) hX dX7_isIn_141 (by decide) ?_
        refine g_at rfl rfl (st2 := [vI (bz true)]) rfl rfl ?_
        refine g_zret (pc := 145) hX hR dX7_isIn_145 ?_
        by_cases h7 : i = 7
        · have e1 : loS i.toNat = 1 := by rw [h7]; rfl
          have e2 : hiS i.toNat = 1000 := by rw [h7]; rfl
          exact ⟨vB_t (dt ⟨by omega, by rw [e1, e2]; have := of_decide_eq_true c_137; omega⟩), rfl⟩
        · exact absurd h7 (by omega)
