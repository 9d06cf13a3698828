/-! ===== one call of each: the same answer ===== -/
theorem two_set {w : gW} {l : Launch} {pc j : Nat} {ty : Int} {B ρ T : Int → Int} {Tr : Int → Int → Int} {D : SD} {Z : Nat → SD} {pm tm xm at_ wm wh : Int} {ir : Bool} {V PV TY TX MK MM CH AM WT WK FL PI : Int → Int} {s0 : Int → rdS} {S : Nat → va_E} (h : invR w pc j ty B ρ T Tr D Z pm tm xm at_ wm wh ir V PV TY TX MK MM CH AM WT WK FL PI s0 S) {i x : Int} (h_0 : inI i) (h_1 : inI x) : TWO w l yX6_set wsX6_set { frames := 5, cells := 0, slots := 0, locals := 111 } [.ref (gw_ad w 0), vI (i), vI (x)] yX7_set wsX7_set { frames := 2, cells := 0, slots := 0, locals := 46 } [.ref (gw_ad w 92), vI (i), vI (x)] S isVI := by
  obtain ⟨hO, hh, hpm, htm⟩ := h.ok
  obtain ⟨⟨hN, hd, hm⟩, ⟨ep, hg, hz, hhi⟩, hb, hr, hf⟩ := id h
  have hmv := hg.2.2.2.1
  have e18 : V 18 = snR D := hmv.rl.1
  have e19 : V 19 = snP D := hmv.ls.1.1
  have e20 : V 20 = snN D := hmv.ls.1.2.1
  refine ⟨_, c_X6_set hN hd hO hh h_0 h_1, fun v S1 k6 => ?_⟩
  by_cases c : setOK i x
  · rw [if_pos c] at k6
    obtain ⟨e1, k6⟩ := k6
    refine ⟨k6.2 92 (by decide), _, c_X7_set hN (mod_fr hm k6.2) hpm h_0 h_1, fun v' S2 k7 => ?_⟩
    rw [if_pos c] at k7
    obtain ⟨e3, k7⟩ := k7
    refine ⟨?_, ⟨_, e1⟩, inv_act h k6 k7 (gd_set hg c) hb hr hf⟩
    rw [e1, e3]
    exact congrArg vI (hmv.se i c.1.1 c.1.2)
  · rw [if_neg c] at k6
    obtain ⟨e1, e2⟩ := k6
    subst e2
    refine ⟨rfl, _, c_X7_set hN hm hpm h_0 h_1, fun v' S2 k7 => ?_⟩
    rw [if_neg c] at k7
    obtain ⟨e3, e4⟩ := k7
    subst e4
    exact ⟨by rw [e1, e3], ⟨_, e1⟩, h.i⟩
theorem two_load {w : gW} {l : Launch} {pc j : Nat} {ty : Int} {B ρ T : Int → Int} {Tr : Int → Int → Int} {D : SD} {Z : Nat → SD} {pm tm xm at_ wm wh : Int} {ir : Bool} {V PV TY TX MK MM CH AM WT WK FL PI : Int → Int} {s0 : Int → rdS} {S : Nat → va_E} (h : invR w pc j ty B ρ T Tr D Z pm tm xm at_ wm wh ir V PV TY TX MK MM CH AM WT WK FL PI s0 S) {x : Int} (h_0 : inI x) : TWO w l yX6_load wsX6_load { frames := 5, cells := 0, slots := 0, locals := 111 } [.ref (gw_ad w 0), vI (x)] yX7_load wsX7_load { frames := 2, cells := 0, slots := 0, locals := 44 } [.ref (gw_ad w 92), vI (x)] S isVI := by
  obtain ⟨hO, hh, hpm, htm⟩ := h.ok
  obtain ⟨⟨hN, hd, hm⟩, ⟨ep, hg, hz, hhi⟩, hb, hr, hf⟩ := id h
  have hmv := hg.2.2.2.1
  have e18 : V 18 = snR D := hmv.rl.1
  have e19 : V 19 = snP D := hmv.ls.1.1
  have e20 : V 20 = snN D := hmv.ls.1.2.1
  refine ⟨_, c_X6_load hN hd hO hh h_0, fun v S1 k6 => ?_⟩
  by_cases c : 0 ≤ x ∧ x ≤ 100000
  · rw [if_pos c] at k6
    obtain ⟨e1, k6⟩ := k6
    refine ⟨k6.2 92 (by decide), _, c_X7_load hN (mod_fr hm k6.2) hpm h_0, fun v' S2 k7 => ?_⟩
    rw [if_pos c] at k7
    obtain ⟨e3, k7⟩ := k7
    refine ⟨?_, ⟨_, e1⟩, inv_act h k6 k7 (gd_load hg c.1 c.2) hb hr hf⟩
    rw [e1, e3]
    exact congrArg vI hmv.sc.1.1
  · rw [if_neg c] at k6
    obtain ⟨e1, e2⟩ := k6
    subst e2
    refine ⟨rfl, _, c_X7_load hN hm hpm h_0, fun v' S2 k7 => ?_⟩
    rw [if_neg c] at k7
    obtain ⟨e3, e4⟩ := k7
    subst e4
    exact ⟨by rw [e1, e3], ⟨_, e1⟩, h.i⟩
theorem two_zero {w : gW} {l : Launch} {pc j : Nat} {ty : Int} {B ρ T : Int → Int} {Tr : Int → Int → Int} {D : SD} {Z : Nat → SD} {pm tm xm at_ wm wh : Int} {ir : Bool} {V PV TY TX MK MM CH AM WT WK FL PI : Int → Int} {s0 : Int → rdS} {S : Nat → va_E} (h : invR w pc j ty B ρ T Tr D Z pm tm xm at_ wm wh ir V PV TY TX MK MM CH AM WT WK FL PI s0 S)   : TWO w l yX6_zero wsX6_zero { frames := 5, cells := 0, slots := 0, locals := 111 } [.ref (gw_ad w 0)] yX7_zero wsX7_zero { frames := 2, cells := 0, slots := 0, locals := 45 } [.ref (gw_ad w 92)] S isVI := by
  obtain ⟨hO, hh, hpm, htm⟩ := h.ok
  obtain ⟨⟨hN, hd, hm⟩, ⟨ep, hg, hz, hhi⟩, hb, hr, hf⟩ := id h
  have hmv := hg.2.2.2.1
  have e18 : V 18 = snR D := hmv.rl.1
  have e19 : V 19 = snP D := hmv.ls.1.1
  have e20 : V 20 = snN D := hmv.ls.1.2.1
  refine ⟨_, c_X6_zero hN hd hO hh, fun v S1 k6 => ?_⟩
  have es := ste_R hmv
  have en := nea_R hmv
  by_cases c : scSteady (sF D) (sG D) = true ∧ scNear (sF D) (sG D) = true
  · rw [if_pos c] at k6
    obtain ⟨e1, k6⟩ := k6
    refine ⟨k6.2 92 (by decide), _, c_X7_zero hN (mod_fr hm k6.2) (hmv.ok hg.1 hg.2.2.2.2) hpm, fun v' S2 k7 => ?_⟩
    rw [if_pos (by rw [es, en]; exact c)] at k7
    obtain ⟨e3, k7⟩ := k7
    refine ⟨?_, ⟨_, e1⟩, inv_act h k6 k7 (gd_zero hg) hb hr hf⟩
    rw [e1, e3]
    exact congrArg vI hmv.sc.1.2.2.1
  · rw [if_neg c] at k6
    obtain ⟨e1, e2⟩ := k6
    subst e2
    refine ⟨rfl, _, c_X7_zero hN hm (hmv.ok hg.1 hg.2.2.2.2) hpm, fun v' S2 k7 => ?_⟩
    rw [if_neg (by rw [es, en]; exact c)] at k7
    obtain ⟨e3, e4⟩ := k7
    subst e4
    exact ⟨by rw [e1, e3], ⟨_, e1⟩, h.i⟩
theorem two_tare {w : gW} {l : Launch} {pc j : Nat} {ty : Int} {B ρ T : Int → Int} {Tr : Int → Int → Int} {D : SD} {Z : Nat → SD} {pm tm xm at_ wm wh : Int} {ir : Bool} {V PV TY TX MK MM CH AM WT WK FL PI : Int → Int} {s0 : Int → rdS} {S : Nat → va_E} (h : invR w pc j ty B ρ T Tr D Z pm tm xm at_ wm wh ir V PV TY TX MK MM CH AM WT WK FL PI s0 S)   : TWO w l yX6_tare wsX6_tare { frames := 5, cells := 0, slots := 0, locals := 111 } [.ref (gw_ad w 0)] yX7_tare wsX7_tare { frames := 3, cells := 0, slots := 0, locals := 65 } [.ref (gw_ad w 92)] S isVI := by
  obtain ⟨hO, hh, hpm, htm⟩ := h.ok
  obtain ⟨⟨hN, hd, hm⟩, ⟨ep, hg, hz, hhi⟩, hb, hr, hf⟩ := id h
  have hmv := hg.2.2.2.1
  have e18 : V 18 = snR D := hmv.rl.1
  have e19 : V 19 = snP D := hmv.ls.1.1
  have e20 : V 20 = snN D := hmv.ls.1.2.1
  refine ⟨_, c_X6_tare hN hd hO hh, fun v S1 k6 => ?_⟩
  have es := ste_R hmv
  have en := ovr_R hmv
  have eg := gro_R hmv
  by_cases c : scSteady (sF D) (sG D) = true ∧ scOver (sF D) (sG D) = false ∧ 0 ≤ scGross (sF D) (sG D)
  · rw [if_pos c] at k6
    obtain ⟨e1, k6⟩ := k6
    refine ⟨k6.2 92 (by decide), _, c_X7_tare hN (mod_fr hm k6.2) (hmv.ok hg.1 hg.2.2.2.2) hpm, fun v' S2 k7 => ?_⟩
    rw [if_pos (by rw [es, en, eg]; exact c)] at k7
    obtain ⟨e3, k7⟩ := k7
    refine ⟨?_, ⟨_, e1⟩, inv_act h k6 k7 (gd_tare hg c.2.1 c.2.2) hb hr hf⟩
    rw [e1, e3]
    exact congrArg vI eg
  · rw [if_neg c] at k6
    obtain ⟨e1, e2⟩ := k6
    subst e2
    refine ⟨rfl, _, c_X7_tare hN hm (hmv.ok hg.1 hg.2.2.2.2) hpm, fun v' S2 k7 => ?_⟩
    rw [if_neg (by rw [es, en, eg]; exact c)] at k7
    obtain ⟨e3, e4⟩ := k7
    subst e4
    exact ⟨by rw [e1, e3], ⟨_, e1⟩, h.i⟩
theorem two_setExtra {w : gW} {l : Launch} {pc j : Nat} {ty : Int} {B ρ T : Int → Int} {Tr : Int → Int → Int} {D : SD} {Z : Nat → SD} {pm tm xm at_ wm wh : Int} {ir : Bool} {V PV TY TX MK MM CH AM WT WK FL PI : Int → Int} {s0 : Int → rdS} {S : Nat → va_E} (h : invR w pc j ty B ρ T Tr D Z pm tm xm at_ wm wh ir V PV TY TX MK MM CH AM WT WK FL PI s0 S) {z x : Int} (h_0 : inI z) (h_1 : inI x) : TWO w l yX6_setExtra wsX6_setExtra { frames := 5, cells := 0, slots := 0, locals := 111 } [.ref (gw_ad w 0), vI (z), vI (x)] yX7_setExtra wsX7_setExtra { frames := 2, cells := 0, slots := 0, locals := 45 } [.ref (gw_ad w 92), vI (z), vI (x)] S isVI := by
  obtain ⟨hO, hh, hpm, htm⟩ := h.ok
  obtain ⟨⟨hN, hd, hm⟩, ⟨ep, hg, hz, hhi⟩, hb, hr, hf⟩ := id h
  have hmv := hg.2.2.2.1
  have e18 : V 18 = snR D := hmv.rl.1
  have e19 : V 19 = snP D := hmv.ls.1.1
  have e20 : V 20 = snN D := hmv.ls.1.2.1
  refine ⟨_, c_X6_setExtra hN hd hO hh h_0 h_1, fun v S1 k6 => ?_⟩
  by_cases c : (0 ≤ z ∧ z ≤ 3) ∧ 0 ≤ x ∧ x ≤ 10000
  · rw [if_pos c] at k6
    obtain ⟨e1, k6⟩ := k6
    refine ⟨k6.2 92 (by decide), _, c_X7_setExtra hN (mod_fr hm k6.2) hpm h_0 h_1, fun v' S2 k7 => ?_⟩
    rw [if_pos c] at k7
    obtain ⟨e3, k7⟩ := k7
    refine ⟨?_, ⟨_, e1⟩, inv_act h k6 k7 (gd_extra hg c.1.1 c.1.2 c.2.1 c.2.2) hb hr hf⟩
    rw [e1, e3]
    exact congrArg vI (hmv.bn z c.1.1 (by omega)).2.1
  · rw [if_neg c] at k6
    obtain ⟨e1, e2⟩ := k6
    subst e2
    refine ⟨rfl, _, c_X7_setExtra hN hm hpm h_0 h_1, fun v' S2 k7 => ?_⟩
    rw [if_neg c] at k7
    obtain ⟨e3, e4⟩ := k7
    subst e4
    exact ⟨by rw [e1, e3], ⟨_, e1⟩, h.i⟩
theorem two_unband {w : gW} {l : Launch} {pc j : Nat} {ty : Int} {B ρ T : Int → Int} {Tr : Int → Int → Int} {D : SD} {Z : Nat → SD} {pm tm xm at_ wm wh : Int} {ir : Bool} {V PV TY TX MK MM CH AM WT WK FL PI : Int → Int} {s0 : Int → rdS} {S : Nat → va_E} (h : invR w pc j ty B ρ T Tr D Z pm tm xm at_ wm wh ir V PV TY TX MK MM CH AM WT WK FL PI s0 S) {z i : Int} (h_0 : inI z) (h_1 : inI i) : TWO w l yX6_unband wsX6_unband { frames := 5, cells := 0, slots := 0, locals := 111 } [.ref (gw_ad w 0), vI (z), vI (i)] yX7_unband wsX7_unband { frames := 2, cells := 0, slots := 0, locals := 45 } [.ref (gw_ad w 92), vI (z), vI (i)] S isVI := by
  obtain ⟨hO, hh, hpm, htm⟩ := h.ok
  obtain ⟨⟨hN, hd, hm⟩, ⟨ep, hg, hz, hhi⟩, hb, hr, hf⟩ := id h
  have hmv := hg.2.2.2.1
  have e18 : V 18 = snR D := hmv.rl.1
  have e19 : V 19 = snP D := hmv.ls.1.1
  have e20 : V 20 = snN D := hmv.ls.1.2.1
  refine ⟨_, c_X6_unband hN hd hO hh h_0 h_1, fun v S1 k6 => ?_⟩
  by_cases c : 0 ≤ z ∧ z < 4 ∧ 0 ≤ i ∧ i < sC D z
  · rw [if_pos c] at k6
    obtain ⟨e1, k6⟩ := k6
    refine ⟨k6.2 92 (by decide), _, c_X7_unband hN (mod_fr hm k6.2) (hmv.bnd hg.1) hg.2.2.2.2.2.1 hpm h_0 h_1, fun v' S2 k7 => ?_⟩
    rw [if_pos (by rw [(hmv.bn z c.1 c.2.1).1]; omega)] at k7
    obtain ⟨e3, k7⟩ := k7
    refine ⟨?_, ⟨_, e1⟩, inv_act h k6 k7 (gd_unband hg c.1 c.2.1 c.2.2.1 c.2.2.2) hb hr hf⟩
    rw [e1, e3]
    rw [(hmv.bn z c.1 c.2.1).1]
  · rw [if_neg c] at k6
    obtain ⟨e1, e2⟩ := k6
    subst e2
    refine ⟨rfl, _, c_X7_unband hN hm (hmv.bnd hg.1) hg.2.2.2.2.2.1 hpm h_0 h_1, fun v' S2 k7 => ?_⟩
    rw [if_neg (fun q => c (by rw [(hmv.bn z q.1.1 (by omega)).1] at q; omega))] at k7
    obtain ⟨e3, e4⟩ := k7
    subst e4
    exact ⟨by rw [e1, e3], ⟨_, e1⟩, h.i⟩
theorem two_tick {w : gW} {l : Launch} {pc j : Nat} {ty : Int} {B ρ T : Int → Int} {Tr : Int → Int → Int} {D : SD} {Z : Nat → SD} {pm tm xm at_ wm wh : Int} {ir : Bool} {V PV TY TX MK MM CH AM WT WK FL PI : Int → Int} {s0 : Int → rdS} {S : Nat → va_E} (h : invR w pc j ty B ρ T Tr D Z pm tm xm at_ wm wh ir V PV TY TX MK MM CH AM WT WK FL PI s0 S) {t : Int} (h_0 : inI t) : TWO w l yX6_tick wsX6_tick { frames := 5, cells := 0, slots := 0, locals := 111 } [.ref (gw_ad w 0), vI (t)] yX7_tick wsX7_tick { frames := 3, cells := 0, slots := 0, locals := 65 } [.ref (gw_ad w 92), vI (t)] S isVI := by
  obtain ⟨hO, hh, hpm, htm⟩ := h.ok
  obtain ⟨⟨hN, hd, hm⟩, ⟨ep, hg, hz, hhi⟩, hb, hr, hf⟩ := id h
  have hmv := hg.2.2.2.1
  have e18 : V 18 = snR D := hmv.rl.1
  have e19 : V 19 = snP D := hmv.ls.1.1
  have e20 : V 20 = snN D := hmv.ls.1.2.1
  refine ⟨_, c_X6_tick hN hd hO hh h_0, fun v S1 k6 => ?_⟩
  have e13 : V 13 = sG D 1 := hmv.sc.1.2.2.2.2.2
  by_cases c : 1 ≤ t ∧ t ≤ 100
  · rw [if_pos c] at k6
    by_cases c2 : sG D 1 ≤ 100000 - t
    · rw [if_pos c2] at k6
      obtain ⟨e1, k6⟩ := k6
      refine ⟨k6.2 92 (by decide), _, c_X7_tick hN (mod_fr hm k6.2) (hmv.ok hg.1 hg.2.2.2.2) hpm h_0, fun v' S2 k7 => ?_⟩
      rw [if_pos c, if_pos (by omega)] at k7
      obtain ⟨e3, k7⟩ := k7
      refine ⟨?_, ⟨_, e1⟩, inv_act h k6 k7 (gd_tick hg t.toNat (by omega)) hb hr hf⟩
      rw [e1, e3]
      exact congrArg vI (raw_R (gd_tick hg t.toNat (by omega)).2.2.2.1)
    · rw [if_neg c2] at k6
      obtain ⟨e1, e2⟩ := k6
      subst e2
      refine ⟨rfl, _, c_X7_tick hN hm (hmv.ok hg.1 hg.2.2.2.2) hpm h_0, fun v' S2 k7 => ?_⟩
      rw [if_pos c, if_neg (by omega)] at k7
      obtain ⟨e3, e4⟩ := k7
      subst e4
      exact ⟨by rw [e1, e3], ⟨_, e1⟩, h.i⟩
  · rw [if_neg c] at k6
    obtain ⟨e1, e2⟩ := k6
    subst e2
    refine ⟨rfl, _, c_X7_tick hN hm (hmv.ok hg.1 hg.2.2.2.2) hpm h_0, fun v' S2 k7 => ?_⟩
    rw [if_neg c] at k7
    obtain ⟨e3, e4⟩ := k7
    subst e4
    exact ⟨by rw [e1, e3], ⟨_, e1⟩, h.i⟩
theorem two_band {w : gW} {l : Launch} {pc j : Nat} {ty : Int} {B ρ T : Int → Int} {Tr : Int → Int → Int} {D : SD} {Z : Nat → SD} {pm tm xm at_ wm wh : Int} {ir : Bool} {V PV TY TX MK MM CH AM WT WK FL PI : Int → Int} {s0 : Int → rdS} {S : Nat → va_E} (h : invR w pc j ty B ρ T Tr D Z pm tm xm at_ wm wh ir V PV TY TX MK MM CH AM WT WK FL PI s0 S) {z lm p : Int} (h_0 : inI z) (h_1 : inI lm) (h_2 : inI p) : TWO w l yX6_band wsX6_band { frames := 5, cells := 0, slots := 0, locals := 111 } [.ref (gw_ad w 0), vI (z), vI (lm), vI (p)] yX7_band wsX7_band { frames := 2, cells := 0, slots := 0, locals := 45 } [.ref (gw_ad w 92), vI (z), vI (lm), vI (p)] S isVI := by
  obtain ⟨hO, hh, hpm, htm⟩ := h.ok
  obtain ⟨⟨hN, hd, hm⟩, ⟨ep, hg, hz, hhi⟩, hb, hr, hf⟩ := id h
  have hmv := hg.2.2.2.1
  have e18 : V 18 = snR D := hmv.rl.1
  have e19 : V 19 = snP D := hmv.ls.1.1
  have e20 : V 20 = snN D := hmv.ls.1.2.1
  refine ⟨_, c_X6_band hN hd hO hh h_0 h_1 h_2, fun v S1 k6 => ?_⟩
  by_cases c : (0 ≤ z ∧ z ≤ 3) ∧ (1 ≤ lm ∧ lm ≤ 100000) ∧ 0 ≤ p ∧ p ≤ 100000
  · rw [if_pos c] at k6
    have z0 := c.1.1
    have z4 : z < 4 := by omega
    obtain ⟨b1, b2, b3⟩ := band_R hg.1 hmv (l := lm) z0 z4
    have hn := hg.1.1.2.1.1 z z0 z4
    by_cases c2 : (bidx (sC D) (sL D) z lm < sC D z ∧ sL D z (bidx (sC D) (sL D) z lm) = lm) ∨ sC D z < 6
    · rw [if_pos c2] at k6
      have h6 : (mbx V z lm < V (24 + 14 * z) ∧ V (24 + 14 * z + 2 + 2 * mbx V z lm) = lm) ∨ V (24 + 14 * z) < 6 := c2.elim (fun q => Or.inl (b3.mpr q)) (fun q => Or.inr (by rw [b2]; exact q))
      have G := gd_band hg z0 z4 c.2.1 c.2.2 h6
      by_cases c3 : mbx V z lm < V (24 + 14 * z) ∧ V (24 + 14 * z + 2 + 2 * mbx V z lm) = lm
      · rw [if_pos c3] at G
        obtain ⟨e1, k6⟩ := k6
        refine ⟨k6.2 92 (by decide), _, c_X7_band hN (mod_fr hm k6.2) (hmv.bnd hg.1) hg.2.2.2.2.2.1 hpm h_0 h_1 h_2, fun v' S2 k7 => ?_⟩
        rw [if_pos c, if_pos c3] at k7
        obtain ⟨e3, k7⟩ := k7
        refine ⟨?_, ⟨_, e1⟩, inv_act h k6 k7 (G) hb hr hf⟩
        rw [e1, e3]
        exact congrArg vI b1
      · rw [if_neg c3] at G
        obtain ⟨e1, k6⟩ := k6
        refine ⟨k6.2 92 (by decide), _, c_X7_band hN (mod_fr hm k6.2) (hmv.bnd hg.1) hg.2.2.2.2.2.1 hpm h_0 h_1 h_2, fun v' S2 k7 => ?_⟩
        rw [if_pos c, if_neg c3, if_neg (by have := h6.elim (fun q => absurd q c3) id; omega)] at k7
        obtain ⟨e3, k7⟩ := k7
        refine ⟨?_, ⟨_, e1⟩, inv_act h k6 k7 (G) hb hr hf⟩
        rw [e1, e3]
        exact congrArg vI b1
    · rw [if_neg c2] at k6
      obtain ⟨e1, e2⟩ := k6
      subst e2
      refine ⟨rfl, _, c_X7_band hN hm (hmv.bnd hg.1) hg.2.2.2.2.2.1 hpm h_0 h_1 h_2, fun v' S2 k7 => ?_⟩
      rw [if_pos c, if_neg (fun q => c2 (Or.inl (b3.mp q))), if_pos (by rw [b2]; omega)] at k7
      obtain ⟨e3, e4⟩ := k7
      subst e4
      exact ⟨by rw [e1, e3], ⟨_, e1⟩, h.i⟩
  · rw [if_neg c] at k6
    obtain ⟨e1, e2⟩ := k6
    subst e2
    refine ⟨rfl, _, c_X7_band hN hm (hmv.bnd hg.1) hg.2.2.2.2.2.1 hpm h_0 h_1 h_2, fun v' S2 k7 => ?_⟩
    rw [if_neg c] at k7
    obtain ⟨e3, e4⟩ := k7
    subst e4
    exact ⟨by rw [e1, e3], ⟨_, e1⟩, h.i⟩
theorem two_unrule {w : gW} {l : Launch} {pc j : Nat} {ty : Int} {B ρ T : Int → Int} {Tr : Int → Int → Int} {D : SD} {Z : Nat → SD} {pm tm xm at_ wm wh : Int} {ir : Bool} {V PV TY TX MK MM CH AM WT WK FL PI : Int → Int} {s0 : Int → rdS} {S : Nat → va_E} (h : invR w pc j ty B ρ T Tr D Z pm tm xm at_ wm wh ir V PV TY TX MK MM CH AM WT WK FL PI s0 S)   : TWO w l yX6_unrule wsX6_unrule { frames := 5, cells := 0, slots := 0, locals := 111 } [.ref (gw_ad w 0)] yX7_unrule wsX7_unrule { frames := 1, cells := 0, slots := 0, locals := 21 } [.ref (gw_ad w 92)] S isVI := by
  obtain ⟨hO, hh, hpm, htm⟩ := h.ok
  obtain ⟨⟨hN, hd, hm⟩, ⟨ep, hg, hz, hhi⟩, hb, hr, hf⟩ := id h
  have hmv := hg.2.2.2.1
  have e18 : V 18 = snR D := hmv.rl.1
  have e19 : V 19 = snP D := hmv.ls.1.1
  have e20 : V 20 = snN D := hmv.ls.1.2.1
  refine ⟨_, c_X6_unrule hN hd hO hh, fun v S1 k6 => ?_⟩
  have hn := hmv.n18 hg.1
  by_cases c : 1 ≤ snR D
  · rw [if_pos c] at k6
    obtain ⟨e1, k6⟩ := k6
    refine ⟨k6.2 92 (by decide), _, c_X7_unrule hN (mod_fr hm k6.2) hpm (hmv.n18 hg.1), fun v' S2 k7 => ?_⟩
    rw [if_neg (by omega)] at k7
    obtain ⟨e3, k7⟩ := k7
    refine ⟨?_, ⟨_, e1⟩, inv_act h k6 k7 (gd_unrule hg c) hb hr hf⟩
    rw [e1, e3]
    rw [e18]
  · rw [if_neg c] at k6
    obtain ⟨e1, e2⟩ := k6
    subst e2
    refine ⟨rfl, _, c_X7_unrule hN hm hpm (hmv.n18 hg.1), fun v' S2 k7 => ?_⟩
    rw [if_pos (by omega)] at k7
    obtain ⟨e3, e4⟩ := k7
    subst e4
    exact ⟨by rw [e1, e3], ⟨_, e1⟩, h.i⟩
theorem two_type {w : gW} {l : Launch} {pc j : Nat} {ty : Int} {B ρ T : Int → Int} {Tr : Int → Int → Int} {D : SD} {Z : Nat → SD} {pm tm xm at_ wm wh : Int} {ir : Bool} {V PV TY TX MK MM CH AM WT WK FL PI : Int → Int} {s0 : Int → rdS} {S : Nat → va_E} (h : invR w pc j ty B ρ T Tr D Z pm tm xm at_ wm wh ir V PV TY TX MK MM CH AM WT WK FL PI s0 S) {c : Int} (h_0 : inI c) : TWO w l yX6_type wsX6_type { frames := 1, cells := 0, slots := 0, locals := 22 } [.ref (gw_ad w 0), vI (c)] yX7_type wsX7_type { frames := 1, cells := 0, slots := 0, locals := 25 } [.ref (gw_ad w 92), vI (c)] S isVI := by
  obtain ⟨hO, hh, hpm, htm⟩ := h.ok
  obtain ⟨⟨hN, hd, hm⟩, ⟨ep, hg, hz, hhi⟩, hb, hr, hf⟩ := id h
  have hmv := hg.2.2.2.1
  have e18 : V 18 = snR D := hmv.rl.1
  have e19 : V 19 = snP D := hmv.ls.1.1
  have e20 : V 20 = snN D := hmv.ls.1.2.1
  refine ⟨_, c_X6_type hN hd hO hh h_0, fun v S1 k6 => ?_⟩
  obtain ⟨et, b0, b1, b2, b3⟩ := hb
  have hb : bufR ty B tm TY := ⟨et, b0, b1, b2, b3⟩
  by_cases c1 : 32 ≤ c ∧ c ≤ 126
  · rw [if_pos c1] at k6
    by_cases c2 : ty < 60
    · rw [if_pos c2] at k6
      obtain ⟨e1, k6⟩ := k6
      refine ⟨k6.2 92 (by decide), _, c_X7_type hN (mod_fr hm k6.2) htm h_0, fun v' S2 k7 => ?_⟩
      rw [if_pos c1, if_neg (by omega)] at k7
      obtain ⟨e3, k7⟩ := k7
      refine ⟨by rw [e1, e3, et], ⟨_, e1⟩, inv_same h k6 k7 ⟨by rw [et], ⟨by omega, by omega⟩, fun i i0 i1 => ?_, fun i => ?_, fun i => ?_⟩ hr hf⟩
      · rw [et]
        by_cases hi : i = ty
        · rw [hi, updZ_eq, updZ_eq]; exact ⟨rfl, c1⟩
        · rw [updZ_ne _ _ hi, updZ_ne _ _ hi]; exact b1 i i0 (by omega)
      · unfold updZ; split
        · assumption
        · exact b2 i
      · unfold updZ; split
        · assumption
        · exact b3 i
    · rw [if_neg c2] at k6
      obtain ⟨e1, e2⟩ := k6
      subst e2
      refine ⟨rfl, _, c_X7_type hN hm htm h_0, fun v' S2 k7 => ?_⟩
      rw [if_pos c1, if_pos (by omega)] at k7
      obtain ⟨e3, e4⟩ := k7
      subst e4
      exact ⟨by rw [e1, e3], ⟨_, e1⟩, h.i⟩
  · rw [if_neg c1] at k6
    obtain ⟨e1, e2⟩ := k6
    subst e2
    refine ⟨rfl, _, c_X7_type hN hm htm h_0, fun v' S2 k7 => ?_⟩
    rw [if_neg c1] at k7
    obtain ⟨e3, e4⟩ := k7
    subst e4
    exact ⟨by rw [e1, e3], ⟨_, e1⟩, h.i⟩
theorem two_clear {w : gW} {l : Launch} {pc j : Nat} {ty : Int} {B ρ T : Int → Int} {Tr : Int → Int → Int} {D : SD} {Z : Nat → SD} {pm tm xm at_ wm wh : Int} {ir : Bool} {V PV TY TX MK MM CH AM WT WK FL PI : Int → Int} {s0 : Int → rdS} {S : Nat → va_E} (h : invR w pc j ty B ρ T Tr D Z pm tm xm at_ wm wh ir V PV TY TX MK MM CH AM WT WK FL PI s0 S)   : TWO w l yX6_clear wsX6_clear { frames := 0, cells := 0, slots := 0, locals := 0 } [.ref (gw_ad w 0)] yX7_clear wsX7_clear { frames := 0, cells := 0, slots := 0, locals := 0 } [.ref (gw_ad w 92)] S isVI := by
  obtain ⟨hO, hh, hpm, htm⟩ := h.ok
  obtain ⟨⟨hN, hd, hm⟩, ⟨ep, hg, hz, hhi⟩, hb, hr, hf⟩ := id h
  have hmv := hg.2.2.2.1
  have e18 : V 18 = snR D := hmv.rl.1
  have e19 : V 19 = snP D := hmv.ls.1.1
  have e20 : V 20 = snN D := hmv.ls.1.2.1
  refine ⟨_, c_X6_clear hN hd hO hh, fun v S1 k6 => ?_⟩
  obtain ⟨e1, k6⟩ := k6
  refine ⟨k6.2 92 (by decide), _, c_X7_clear hN (mod_fr hm k6.2), fun v' S2 k7 => ?_⟩
  obtain ⟨e3, k7⟩ := k7
  exact ⟨by rw [e1, e3, hb.1], ⟨_, e1⟩, inv_same h k6 k7 ⟨rfl, ⟨by decide, by decide⟩, fun i a b => absurd b (by omega), hb.2.2.2.1, hb.2.2.2.2⟩ hr hf⟩
theorem two_settle {w : gW} {l : Launch} {pc j : Nat} {ty : Int} {B ρ T : Int → Int} {Tr : Int → Int → Int} {D : SD} {Z : Nat → SD} {pm tm xm at_ wm wh : Int} {ir : Bool} {V PV TY TX MK MM CH AM WT WK FL PI : Int → Int} {s0 : Int → rdS} {S : Nat → va_E} (h : invR w pc j ty B ρ T Tr D Z pm tm xm at_ wm wh ir V PV TY TX MK MM CH AM WT WK FL PI s0 S) {n : Int} {a : Bool} (h_0 : inI n) : TWO w l yX6_settle wsX6_settle { frames := 5, cells := 0, slots := 0, locals := 111 } [.ref (gw_ad w 0), vI (n), vI (bz (a))] yX7_settle wsX7_settle { frames := 1, cells := 0, slots := 0, locals := 25 } [.ref (gw_ad w 92), vI (n), vI (bz (a))] S isVI := by
  obtain ⟨hO, hh, hpm, htm⟩ := h.ok
  obtain ⟨⟨hN, hd, hm⟩, ⟨ep, hg, hz, hhi⟩, hb, hr, hf⟩ := id h
  have hmv := hg.2.2.2.1
  have e18 : V 18 = snR D := hmv.rl.1
  have e19 : V 19 = snP D := hmv.ls.1.1
  have e20 : V 20 = snN D := hmv.ls.1.2.1
  refine ⟨_, c_X6_settle hN hd hO hh h_0, fun v S1 k6 => ?_⟩
  by_cases c : 0 ≤ n ∧ n < snN D
  · rw [if_pos c] at k6
    have e4 : V (940 + 12 * n + 4) = sN D n 4 := (hmv.ls.2.2.1 n c.1 c.2).1 4 (by decide) (by decide)
    by_cases c2 : sN D n 4 = 0
    · rw [if_pos c2] at k6
      by_cases c3 : a = true
      · rw [if_pos c3] at k6
        obtain ⟨e1, k6⟩ := k6
        refine ⟨k6.2 92 (by decide), _, c_X7_settle hN (mod_fr hm k6.2) hg.2.2.2.2.2.1 hpm (hmv.n19 hg.1) (hmv.n20 hg.1) (hmv.no hg.1) h_0, fun v' S2 k7 => ?_⟩
        rw [if_pos (by omega), if_pos (by rw [e4]; exact c2), if_pos c3] at k7
        obtain ⟨e3, k7⟩ := k7
        refine ⟨?_, ⟨_, e1⟩, inv_act h k6 k7 (gd_acc hg c c2) hb hr hf⟩
        rw [e1, e3]
        exact congrArg vI (mV_acc hg.1 hmv c c2).2
      · rw [if_neg c3] at k6
        obtain ⟨e1, k6⟩ := k6
        refine ⟨k6.2 92 (by decide), _, c_X7_settle hN (mod_fr hm k6.2) hg.2.2.2.2.2.1 hpm (hmv.n19 hg.1) (hmv.n20 hg.1) (hmv.no hg.1) h_0, fun v' S2 k7 => ?_⟩
        rw [if_pos (by omega), if_pos (by rw [e4]; exact c2), if_neg c3] at k7
        obtain ⟨e3, k7⟩ := k7
        refine ⟨?_, ⟨_, e1⟩, inv_act h k6 k7 (gd_rej hg c) hb hr hf⟩
        rw [e1, e3]
    · rw [if_neg c2] at k6
      obtain ⟨e1, e2⟩ := k6
      subst e2
      refine ⟨rfl, _, c_X7_settle hN hm hg.2.2.2.2.2.1 hpm (hmv.n19 hg.1) (hmv.n20 hg.1) (hmv.no hg.1) h_0, fun v' S2 k7 => ?_⟩
      rw [if_pos (by omega), if_neg (by rw [e4]; exact c2)] at k7
      obtain ⟨e3, e4⟩ := k7
      subst e4
      exact ⟨by rw [e1, e3], ⟨_, e1⟩, h.i⟩
  · rw [if_neg c] at k6
    obtain ⟨e1, e2⟩ := k6
    subst e2
    refine ⟨rfl, _, c_X7_settle hN hm hg.2.2.2.2.2.1 hpm (hmv.n19 hg.1) (hmv.n20 hg.1) (hmv.no hg.1) h_0, fun v' S2 k7 => ?_⟩
    rw [if_neg (by omega)] at k7
    obtain ⟨e3, e4⟩ := k7
    subst e4
    exact ⟨by rw [e1, e3], ⟨_, e1⟩, h.i⟩
theorem two_undo {w : gW} {l : Launch} {pc j : Nat} {ty : Int} {B ρ T : Int → Int} {Tr : Int → Int → Int} {D : SD} {Z : Nat → SD} {pm tm xm at_ wm wh : Int} {ir : Bool} {V PV TY TX MK MM CH AM WT WK FL PI : Int → Int} {s0 : Int → rdS} {S : Nat → va_E} (h : invR w pc j ty B ρ T Tr D Z pm tm xm at_ wm wh ir V PV TY TX MK MM CH AM WT WK FL PI s0 S)   : TWO w l yX6_undo wsX6_undo { frames := 4, cells := 0, slots := 0, locals := 91 } [.ref (gw_ad w 0)] yX7_undo wsX7_undo { frames := 0, cells := 0, slots := 0, locals := 0 } [.ref (gw_ad w 92)] S isVI := by
  obtain ⟨hO, hh, hpm, htm⟩ := h.ok
  obtain ⟨⟨hN, hd, hm⟩, ⟨ep, hg, hz, hhi⟩, hb, hr, hf⟩ := id h
  have hmv := hg.2.2.2.1
  have e18 : V 18 = snR D := hmv.rl.1
  have e19 : V 19 = snP D := hmv.ls.1.1
  have e20 : V 20 = snN D := hmv.ls.1.2.1
  refine ⟨_, c_X6_undo hN hd hO hh, fun v S1 k6 => ?_⟩
  by_cases c : 0 < pc
  · rw [if_pos c] at k6
    obtain ⟨e1, k6⟩ := k6
    refine ⟨k6.2 92 (by decide), _, c_X7_undo hN (mod_fr hm k6.2) hpm, fun v' S2 k7 => ?_⟩
    rw [if_neg (by omega)] at k7
    obtain ⟨e3, k7⟩ := k7
    obtain ⟨u1, s1, u2⟩ := hiR_undo hhi hg c
    obtain ⟨s2, u3, u4⟩ := gd_z u2
    have ec : ((pc - 1 : Nat) : Int) = pm - 1 := by omega
    refine ⟨by rw [e1, e3, ec], ⟨_, e1⟩, ?_⟩
    rw [← ep] at u3
    exact ⟨pc - 1, jP j, ty, B, ρ, T, Tr, cpyD (Z (jP j)) D, Z, pm - 1, tm, xm, at_, wm, wh, ir, unV PV V (1200 * (pm - 1)) 1200, PV, TY, TX, MK, MM, CH, AM, WT, WK, FL, PI, s2, ⟨hN, desk_fr k6.1 k7.2, k7.1⟩, ⟨ec.symm, u3, u4, u1⟩, hb, hr, hf⟩
  · rw [if_neg c] at k6
    obtain ⟨e1, e2⟩ := k6
    subst e2
    refine ⟨rfl, _, c_X7_undo hN hm hpm, fun v' S2 k7 => ?_⟩
    rw [if_pos (by omega)] at k7
    obtain ⟨e3, e4⟩ := k7
    subst e4
    exact ⟨by rw [e1, e3], ⟨_, e1⟩, h.i⟩
