/-! ===== one call of each: the same answer ===== -/
theorem two_quote {w : gW} {l : Launch} {pc j : Nat} {ty : Int} {B ρ T : Int → Int} {Tr : Int → Int → Int} {D : SD} {Z : Nat → SD} {pm tm xm at_ wm wh : Int} {ir : Bool} {V PV TY TX MK MM CH AM WT WK FL PI : Int → Int} {s0 : Int → rdS} {S : Nat → va_E} (h : invR w pc j ty B ρ T Tr D Z pm tm xm at_ wm wh ir V PV TY TX MK MM CH AM WT WK FL PI s0 S) {wt a b c z : Int} (h_0 : inI wt) (h_1 : inI a) (h_2 : inI b) (h_3 : inI c) (h_4 : inI z) : TWO w l yX6_quote wsX6_quote { frames := 6, cells := 0, slots := 0, locals := 151 } [.ref (gw_ad w 0), vI (wt), vI (a), vI (b), vI (c), vI (z)] yX7_quote wsX7_quote { frames := 5, cells := 0, slots := 0, locals := 115 } [.ref (gw_ad w 92), vI (wt), vI (a), vI (b), vI (c), vI (z)] S isVI := by
  obtain ⟨hO, hh, hpm, htm⟩ := h.ok
  obtain ⟨⟨hN, hd, hm⟩, ⟨ep, hg, hz, hhi⟩, hb, hr, hf⟩ := id h
  have hmv := hg.2.2.2.1
  have e18 : V 18 = snR D := hmv.rl.1
  have e19 : V 19 = snP D := hmv.ls.1.1
  have e20 : V 20 = snN D := hmv.ls.1.2.1
  refine ⟨_, c_X6_quote hN hd hO h_0 h_1 h_2 h_3 h_4, fun v S1 k6 => ?_⟩
  by_cases c1 : (1 ≤ wt ∧ wt ≤ 100000) ∧ ((1 ≤ a ∧ a ≤ 2000) ∧ (1 ≤ b ∧ b ≤ 2000) ∧ (1 ≤ c ∧ c ≤ 2000)) ∧ 0 ≤ z ∧ z ≤ 3
  · rw [if_pos c1] at k6
    have eC : V (24 + 14 * z) = sC D z := (hmv.bn z c1.2.2.1 (by omega)).1
    have hn := hg.1.1.2.1.1 z c1.2.2.1 (by omega)
    by_cases c2 : 0 < sC D z
    · rw [if_pos c2] at k6
      obtain ⟨e1, Tr1, hT1, k6⟩ := k6
      refine ⟨k6.2 92 (by decide), _, c_X7_quote hN (mod_fr hm k6.2) (hmv.bnd hg.1) hg.2.2.2.2.2.1 (hmv.ok hg.1 hg.2.2.2.2) (hmv.zon hg.1) (hmv.n18 hg.1) hf.1 hf.2.1 hmv.rt hg.2.2.2.2.2.2 hz hmv.gd hf.2.2.2 hf.2.2.1 h_0 h_1 h_2 h_3 h_4, fun v' S2 k7 => ?_⟩
      rw [if_pos ⟨c1.1, c1.2.1.1, c1.2.1.2.1, c1.2.1.2.2, c1.2.2.1, c1.2.2.2⟩, if_neg (by omega)] at k7
      obtain ⟨xm1, at1, wm1, wh1, ir1, TX1, WT1, MK1, MM1, CH1, AM1, WK1, FL1, PI1, k7, g1, g2, g3, g4, hrd, e3⟩ := k7
      exact ⟨by rw [e1, e3, quote_R hg.1 hmv hrd Tr c1.2.2.1 c1.2.2.2 c2], ⟨_, e1⟩, inv_same h k6 k7 hb ⟨hr.1, hr.2.1, hT1⟩ ⟨g1, g2, g3, g4⟩⟩
    · rw [if_neg c2] at k6
      obtain ⟨e1, e2⟩ := k6
      subst e2
      refine ⟨rfl, _, c_X7_quote hN hm (hmv.bnd hg.1) hg.2.2.2.2.2.1 (hmv.ok hg.1 hg.2.2.2.2) (hmv.zon hg.1) (hmv.n18 hg.1) hf.1 hf.2.1 hmv.rt hg.2.2.2.2.2.2 hz hmv.gd hf.2.2.2 hf.2.2.1 h_0 h_1 h_2 h_3 h_4, fun v' S2 k7 => ?_⟩
      rw [if_pos ⟨c1.1, c1.2.1.1, c1.2.1.2.1, c1.2.1.2.2, c1.2.2.1, c1.2.2.2⟩, if_pos (by omega)] at k7
      obtain ⟨e3, e4⟩ := k7
      subst e4
      exact ⟨by rw [e1, e3], ⟨_, e1⟩, h.i⟩
  · rw [if_neg c1] at k6
    obtain ⟨e1, e2⟩ := k6
    subst e2
    refine ⟨rfl, _, c_X7_quote hN hm (hmv.bnd hg.1) hg.2.2.2.2.2.1 (hmv.ok hg.1 hg.2.2.2.2) (hmv.zon hg.1) (hmv.n18 hg.1) hf.1 hf.2.1 hmv.rt hg.2.2.2.2.2.2 hz hmv.gd hf.2.2.2 hf.2.2.1 h_0 h_1 h_2 h_3 h_4, fun v' S2 k7 => ?_⟩
    rw [if_neg (fun q => c1 ⟨q.1, ⟨q.2.1, q.2.2.1, q.2.2.2.1⟩, q.2.2.2.2⟩)] at k7
    obtain ⟨e3, e4⟩ := k7
    subst e4
    exact ⟨by rw [e1, e3], ⟨_, e1⟩, h.i⟩
theorem two_lighter {w : gW} {l : Launch} {pc j : Nat} {ty : Int} {B ρ T : Int → Int} {Tr : Int → Int → Int} {D : SD} {Z : Nat → SD} {pm tm xm at_ wm wh : Int} {ir : Bool} {V PV TY TX MK MM CH AM WT WK FL PI : Int → Int} {s0 : Int → rdS} {S : Nat → va_E} (h : invR w pc j ty B ρ T Tr D Z pm tm xm at_ wm wh ir V PV TY TX MK MM CH AM WT WK FL PI s0 S) {p : Int} (h_0 : inI p) : TWO w l yX6_lighter wsX6_lighter { frames := 6, cells := 0, slots := 0, locals := 151 } [.ref (gw_ad w 0), vI (p)] yX7_lighter wsX7_lighter { frames := 6, cells := 0, slots := 0, locals := 145 } [.ref (gw_ad w 92), vI (p)] S isVI := by
  obtain ⟨hO, hh, hpm, htm⟩ := h.ok
  obtain ⟨⟨hN, hd, hm⟩, ⟨ep, hg, hz, hhi⟩, hb, hr, hf⟩ := id h
  have hmv := hg.2.2.2.1
  have e18 : V 18 = snR D := hmv.rl.1
  have e19 : V 19 = snP D := hmv.ls.1.1
  have e20 : V 20 = snN D := hmv.ls.1.2.1
  refine ⟨_, c_X6_lighter hN hd hO h_0, fun v S1 k6 => ?_⟩
  by_cases c1 : 0 ≤ p ∧ p < snP D
  · rw [if_pos c1] at k6
    have r4 := (hg.1.2.1.2.2 p c1.1 c1.2).2.2.2.2.1
    have e4 : V (570 + 12 * p + 4) = sP D p 4 := hmv.col c1.1 c1.2 (by decide) (by decide)
    have eC : V (24 + 14 * V (570 + 12 * p + 4)) = sC D (sP D p 4) := by rw [e4]; exact (hmv.bn _ r4.1 r4.2).1
    by_cases c2 : 0 < sC D (sP D p 4)
    · rw [if_pos c2] at k6
      obtain ⟨e1, Tr1, hT1, k6⟩ := k6
      refine ⟨k6.2 92 (by decide), _, c_X7_lighter hN (mod_fr hm k6.2) (hmv.bnd hg.1) hg.2.2.2.2.2.1 (hmv.ok hg.1 hg.2.2.2.2) (hmv.zon hg.1) (hmv.n18 hg.1) hf.1 hf.2.1 hmv.rt hg.2.2.2.2.2.2 hz hmv.gd hf.2.2.2 hf.2.2.1 (hmv.n19 hg.1) (hmv.pk hg.1) h_0, fun v' S2 k7 => ?_⟩
      rw [if_pos (by omega), if_pos (by rw [eC]; exact c2)] at k7
      obtain ⟨xm1, at1, wm1, wh1, ir1, TX1, WT1, MK1, MM1, CH1, AM1, WK1, FL1, PI1, k7, g1, g2, g3, g4, hrd, e3⟩ := k7
      exact ⟨by rw [e1, e3, light_R hg.1 hg.2.1 hmv hrd Tr c1 c2], ⟨_, e1⟩, inv_same h k6 k7 hb ⟨hr.1, hr.2.1, hT1⟩ ⟨g1, g2, g3, g4⟩⟩
    · rw [if_neg c2] at k6
      obtain ⟨e1, e2⟩ := k6
      subst e2
      refine ⟨rfl, _, c_X7_lighter hN hm (hmv.bnd hg.1) hg.2.2.2.2.2.1 (hmv.ok hg.1 hg.2.2.2.2) (hmv.zon hg.1) (hmv.n18 hg.1) hf.1 hf.2.1 hmv.rt hg.2.2.2.2.2.2 hz hmv.gd hf.2.2.2 hf.2.2.1 (hmv.n19 hg.1) (hmv.pk hg.1) h_0, fun v' S2 k7 => ?_⟩
      rw [if_pos (by omega), if_neg (by rw [eC]; exact c2)] at k7
      obtain ⟨e3, e4⟩ := k7
      subst e4
      exact ⟨by rw [e1, e3], ⟨_, e1⟩, h.i⟩
  · rw [if_neg c1] at k6
    obtain ⟨e1, e2⟩ := k6
    subst e2
    refine ⟨rfl, _, c_X7_lighter hN hm (hmv.bnd hg.1) hg.2.2.2.2.2.1 (hmv.ok hg.1 hg.2.2.2.2) (hmv.zon hg.1) (hmv.n18 hg.1) hf.1 hf.2.1 hmv.rt hg.2.2.2.2.2.2 hz hmv.gd hf.2.2.2 hf.2.2.1 (hmv.n19 hg.1) (hmv.pk hg.1) h_0, fun v' S2 k7 => ?_⟩
    rw [if_neg (by omega)] at k7
    obtain ⟨e3, e4⟩ := k7
    subst e4
    exact ⟨by rw [e1, e3], ⟨_, e1⟩, h.i⟩
theorem two_shorter {w : gW} {l : Launch} {pc j : Nat} {ty : Int} {B ρ T : Int → Int} {Tr : Int → Int → Int} {D : SD} {Z : Nat → SD} {pm tm xm at_ wm wh : Int} {ir : Bool} {V PV TY TX MK MM CH AM WT WK FL PI : Int → Int} {s0 : Int → rdS} {S : Nat → va_E} (h : invR w pc j ty B ρ T Tr D Z pm tm xm at_ wm wh ir V PV TY TX MK MM CH AM WT WK FL PI s0 S) {p x : Int} (h_0 : inI p) (h_1 : inI x) : TWO w l yX6_shorter wsX6_shorter { frames := 6, cells := 0, slots := 0, locals := 151 } [.ref (gw_ad w 0), vI (p), vI (x)] yX7_shorter wsX7_shorter { frames := 6, cells := 0, slots := 0, locals := 145 } [.ref (gw_ad w 92), vI (p), vI (x)] S isVI := by
  obtain ⟨hO, hh, hpm, htm⟩ := h.ok
  obtain ⟨⟨hN, hd, hm⟩, ⟨ep, hg, hz, hhi⟩, hb, hr, hf⟩ := id h
  have hmv := hg.2.2.2.1
  have e18 : V 18 = snR D := hmv.rl.1
  have e19 : V 19 = snP D := hmv.ls.1.1
  have e20 : V 20 = snN D := hmv.ls.1.2.1
  refine ⟨_, c_X6_shorter hN hd hO h_0 h_1, fun v S1 k6 => ?_⟩
  by_cases c1 : (0 ≤ p ∧ p < snP D) ∧ 1 ≤ x ∧ x ≤ 3
  · rw [if_pos c1] at k6
    have r4 := (hg.1.2.1.2.2 p c1.1.1 c1.1.2).2.2.2.2.1
    have e4 : V (570 + 12 * p + 4) = sP D p 4 := hmv.col c1.1.1 c1.1.2 (by decide) (by decide)
    have eC : V (24 + 14 * V (570 + 12 * p + 4)) = sC D (sP D p 4) := by rw [e4]; exact (hmv.bn _ r4.1 r4.2).1
    by_cases c2 : 0 < sC D (sP D p 4)
    · rw [if_pos c2] at k6
      obtain ⟨e1, Tr1, hT1, k6⟩ := k6
      refine ⟨k6.2 92 (by decide), _, c_X7_shorter hN (mod_fr hm k6.2) (hmv.bnd hg.1) hg.2.2.2.2.2.1 (hmv.ok hg.1 hg.2.2.2.2) (hmv.zon hg.1) (hmv.n18 hg.1) hf.1 hf.2.1 hmv.rt hg.2.2.2.2.2.2 hz hmv.gd hf.2.2.2 hf.2.2.1 (hmv.n19 hg.1) (hmv.pk hg.1) h_0 h_1, fun v' S2 k7 => ?_⟩
      rw [if_pos (by omega), if_pos (by rw [eC]; exact c2)] at k7
      obtain ⟨xm1, at1, wm1, wh1, ir1, TX1, WT1, MK1, MM1, CH1, AM1, WK1, FL1, PI1, k7, g1, g2, g3, g4, hrd, e3⟩ := k7
      exact ⟨by rw [e1, e3, short_R hg.1 hmv hrd Tr c1.1 ⟨by omega, by omega⟩ c2], ⟨_, e1⟩, inv_same h k6 k7 hb ⟨hr.1, hr.2.1, hT1⟩ ⟨g1, g2, g3, g4⟩⟩
    · rw [if_neg c2] at k6
      obtain ⟨e1, e2⟩ := k6
      subst e2
      refine ⟨rfl, _, c_X7_shorter hN hm (hmv.bnd hg.1) hg.2.2.2.2.2.1 (hmv.ok hg.1 hg.2.2.2.2) (hmv.zon hg.1) (hmv.n18 hg.1) hf.1 hf.2.1 hmv.rt hg.2.2.2.2.2.2 hz hmv.gd hf.2.2.2 hf.2.2.1 (hmv.n19 hg.1) (hmv.pk hg.1) h_0 h_1, fun v' S2 k7 => ?_⟩
      rw [if_pos (by omega), if_neg (by rw [eC]; exact c2)] at k7
      obtain ⟨e3, e4⟩ := k7
      subst e4
      exact ⟨by rw [e1, e3], ⟨_, e1⟩, h.i⟩
  · rw [if_neg c1] at k6
    obtain ⟨e1, e2⟩ := k6
    subst e2
    refine ⟨rfl, _, c_X7_shorter hN hm (hmv.bnd hg.1) hg.2.2.2.2.2.1 (hmv.ok hg.1 hg.2.2.2.2) (hmv.zon hg.1) (hmv.n18 hg.1) hf.1 hf.2.1 hmv.rt hg.2.2.2.2.2.2 hz hmv.gd hf.2.2.2 hf.2.2.1 (hmv.n19 hg.1) (hmv.pk hg.1) h_0 h_1, fun v' S2 k7 => ?_⟩
    rw [if_neg (by omega)] at k7
    obtain ⟨e3, e4⟩ := k7
    subst e4
    exact ⟨by rw [e1, e3], ⟨_, e1⟩, h.i⟩
theorem two_cheapest {w : gW} {l : Launch} {pc j : Nat} {ty : Int} {B ρ T : Int → Int} {Tr : Int → Int → Int} {D : SD} {Z : Nat → SD} {pm tm xm at_ wm wh : Int} {ir : Bool} {V PV TY TX MK MM CH AM WT WK FL PI : Int → Int} {s0 : Int → rdS} {S : Nat → va_E} (h : invR w pc j ty B ρ T Tr D Z pm tm xm at_ wm wh ir V PV TY TX MK MM CH AM WT WK FL PI s0 S) {p : Int} (h_0 : inI p) : TWO w l yX6_cheapest wsX6_cheapest { frames := 6, cells := 0, slots := 0, locals := 151 } [.ref (gw_ad w 0), vI (p)] yX7_cheapest wsX7_cheapest { frames := 5, cells := 0, slots := 0, locals := 115 } [.ref (gw_ad w 92), vI (p)] S isVI := by
  obtain ⟨hO, hh, hpm, htm⟩ := h.ok
  obtain ⟨⟨hN, hd, hm⟩, ⟨ep, hg, hz, hhi⟩, hb, hr, hf⟩ := id h
  have hmv := hg.2.2.2.1
  have e18 : V 18 = snR D := hmv.rl.1
  have e19 : V 19 = snP D := hmv.ls.1.1
  have e20 : V 20 = snN D := hmv.ls.1.2.1
  refine ⟨_, c_X6_cheapest hN hd hO h_0, fun v S1 k6 => ?_⟩
  by_cases c1 : 0 ≤ p ∧ p < snP D
  · rw [if_pos c1] at k6
    obtain ⟨e1, Tr1, hT1, k6⟩ := k6
    refine ⟨k6.2 92 (by decide), _, c_X7_cheapest hN (mod_fr hm k6.2) (hmv.bnd hg.1) hg.2.2.2.2.2.1 (hmv.ok hg.1 hg.2.2.2.2) (hmv.zon hg.1) (hmv.n18 hg.1) hf.1 hf.2.1 hmv.rt hg.2.2.2.2.2.2 hz hmv.gd hf.2.2.2 hf.2.2.1 (hmv.n19 hg.1) (hmv.pk hg.1) h_0, fun v' S2 k7 => ?_⟩
    rw [if_pos (by omega)] at k7
    obtain ⟨xm1, at1, wm1, wh1, ir1, TX1, WT1, MK1, MM1, CH1, AM1, WK1, FL1, PI1, k7, g1, g2, g3, g4, hrd, e3⟩ := k7
    exact ⟨by rw [e1, e3, cheap_R hg.1 hmv hrd Tr c1], ⟨_, e1⟩, inv_same h k6 k7 hb ⟨hr.1, hr.2.1, hT1⟩ ⟨g1, g2, g3, g4⟩⟩
  · rw [if_neg c1] at k6
    obtain ⟨e1, e2⟩ := k6
    subst e2
    refine ⟨rfl, _, c_X7_cheapest hN hm (hmv.bnd hg.1) hg.2.2.2.2.2.1 (hmv.ok hg.1 hg.2.2.2.2) (hmv.zon hg.1) (hmv.n18 hg.1) hf.1 hf.2.1 hmv.rt hg.2.2.2.2.2.2 hz hmv.gd hf.2.2.2 hf.2.2.1 (hmv.n19 hg.1) (hmv.pk hg.1) h_0, fun v' S2 k7 => ?_⟩
    rw [if_neg (by omega)] at k7
    obtain ⟨e3, e4⟩ := k7
    subst e4
    exact ⟨by rw [e1, e3], ⟨_, e1⟩, h.i⟩
theorem two_take {w : gW} {l : Launch} {pc j : Nat} {ty : Int} {B ρ T : Int → Int} {Tr : Int → Int → Int} {D : SD} {Z : Nat → SD} {pm tm xm at_ wm wh : Int} {ir : Bool} {V PV TY TX MK MM CH AM WT WK FL PI : Int → Int} {s0 : Int → rdS} {S : Nat → va_E} (h : invR w pc j ty B ρ T Tr D Z pm tm xm at_ wm wh ir V PV TY TX MK MM CH AM WT WK FL PI s0 S) {a b c z : Int} (h_0 : inI a) (h_1 : inI b) (h_2 : inI c) (h_3 : inI z) : TWO w l yX6_take wsX6_take { frames := 5, cells := 0, slots := 0, locals := 131 } [.ref (gw_ad w 0), vI (a), vI (b), vI (c), vI (z)] yX7_take wsX7_take { frames := 5, cells := 0, slots := 0, locals := 115 } [.ref (gw_ad w 92), vI (a), vI (b), vI (c), vI (z)] S isVI := by
  obtain ⟨hO, hh, hpm, htm⟩ := h.ok
  obtain ⟨⟨hN, hd, hm⟩, ⟨ep, hg, hz, hhi⟩, hb, hr, hf⟩ := id h
  have hmv := hg.2.2.2.1
  have e18 : V 18 = snR D := hmv.rl.1
  have e19 : V 19 = snP D := hmv.ls.1.1
  have e20 : V 20 = snN D := hmv.ls.1.2.1
  refine ⟨_, c_X6_take hN hd hO hh h_0 h_1 h_2 h_3, fun v S1 k6 => ?_⟩
  by_cases c1 : ((1 ≤ a ∧ a ≤ 2000) ∧ (1 ≤ b ∧ b ≤ 2000) ∧ (1 ≤ c ∧ c ≤ 2000)) ∧ 0 ≤ z ∧ z ≤ 3
  · rw [if_pos c1] at k6
    have es := ste_R hmv
    have eo := ovr_R hmv
    have eg := gro_R hmv
    have e11 : V 11 = sG D 3 := hmv.sc.1.2.2.2.1
    have eC : V (24 + 14 * z) = sC D z := (hmv.bn z c1.2.1 (by omega)).1
    have hn := hg.1.1.2.1.1 z c1.2.1 (by omega)
    have hn9 := hmv.n19 hg.1
    by_cases c2 : scSteady (sF D) (sG D) = true ∧ scOver (sF D) (sG D) = false ∧ 1 ≤ scGross (sF D) (sG D) - sG D 3 ∧ 0 < sC D z
    · rw [if_pos c2] at k6
      have c27 : steV V = true ∧ ovrV V = false ∧ 1 ≤ groV V - V 11 ∧ V (24 + 14 * z) ≠ 0 := ⟨by rw [es]; exact c2.1, by rw [eo]; exact c2.2.1, by rw [eg, e11]; exact c2.2.2.1, by omega⟩
      by_cases c3 : snP D < 30
      · rw [if_pos c3] at k6
        obtain ⟨e1, k6⟩ := k6
        refine ⟨k6.2 92 (by decide), _, c_X7_take hN (mod_fr hm k6.2) (hmv.bnd hg.1) hg.2.2.2.2.2.1 hpm (hmv.ok hg.1 hg.2.2.2.2) (hmv.zon hg.1) (hmv.n18 hg.1) hf.1 hf.2.1 hmv.rt hg.2.2.2.2.2.2 hz hmv.gd hf.2.2.2 hf.2.2.1 (hmv.n19 hg.1) h_0 h_1 h_2 h_3, fun v' S2 k7 => ?_⟩
        rw [if_pos ⟨c1.1.1, c1.1.2.1, c1.1.2.2, c1.2.1, c1.2.2⟩, if_pos c27, if_neg (by omega)] at k7
        obtain ⟨xm1, at1, wm1, wh1, ir1, TX1, WT1, MK1, MM1, CH1, AM1, WK1, FL1, PI1, k7, g1, g2, g3, g4, hrd, e3⟩ := k7
        exact ⟨by rw [e1, e3, e19], ⟨_, e1⟩, inv_act h k6 k7 (gd_take hg hrd c1.1.1 c1.1.2.1 c1.1.2.2 c1.2.1 c1.2.2 c2.2.2.2 c3 c2.2.1 c2.2.2.1) hb hr ⟨g1, g2, g3, g4⟩⟩
      · rw [if_neg c3] at k6
        obtain ⟨e1, e2⟩ := k6
        subst e2
        refine ⟨rfl, _, c_X7_take hN hm (hmv.bnd hg.1) hg.2.2.2.2.2.1 hpm (hmv.ok hg.1 hg.2.2.2.2) (hmv.zon hg.1) (hmv.n18 hg.1) hf.1 hf.2.1 hmv.rt hg.2.2.2.2.2.2 hz hmv.gd hf.2.2.2 hf.2.2.1 (hmv.n19 hg.1) h_0 h_1 h_2 h_3, fun v' S2 k7 => ?_⟩
        rw [if_pos ⟨c1.1.1, c1.1.2.1, c1.1.2.2, c1.2.1, c1.2.2⟩, if_pos c27, if_pos (by omega)] at k7
        obtain ⟨e3, e4⟩ := k7
        subst e4
        exact ⟨by rw [e1, e3], ⟨_, e1⟩, h.i⟩
    · rw [if_neg c2] at k6
      obtain ⟨e1, e2⟩ := k6
      subst e2
      refine ⟨rfl, _, c_X7_take hN hm (hmv.bnd hg.1) hg.2.2.2.2.2.1 hpm (hmv.ok hg.1 hg.2.2.2.2) (hmv.zon hg.1) (hmv.n18 hg.1) hf.1 hf.2.1 hmv.rt hg.2.2.2.2.2.2 hz hmv.gd hf.2.2.2 hf.2.2.1 (hmv.n19 hg.1) h_0 h_1 h_2 h_3, fun v' S2 k7 => ?_⟩
      rw [if_pos ⟨c1.1.1, c1.1.2.1, c1.1.2.2, c1.2.1, c1.2.2⟩, if_neg (fun q => c2 ⟨by rw [← es]; exact q.1, by rw [← eo]; exact q.2.1, by rw [← eg, ← e11]; exact q.2.2.1, by have := q.2.2.2; omega⟩)] at k7
      obtain ⟨e3, e4⟩ := k7
      subst e4
      exact ⟨by rw [e1, e3], ⟨_, e1⟩, h.i⟩
  · rw [if_neg c1] at k6
    obtain ⟨e1, e2⟩ := k6
    subst e2
    refine ⟨rfl, _, c_X7_take hN hm (hmv.bnd hg.1) hg.2.2.2.2.2.1 hpm (hmv.ok hg.1 hg.2.2.2.2) (hmv.zon hg.1) (hmv.n18 hg.1) hf.1 hf.2.1 hmv.rt hg.2.2.2.2.2.2 hz hmv.gd hf.2.2.2 hf.2.2.1 (hmv.n19 hg.1) h_0 h_1 h_2 h_3, fun v' S2 k7 => ?_⟩
    rw [if_neg (fun q => c1 ⟨⟨q.1, q.2.1, q.2.2.1⟩, q.2.2.2⟩)] at k7
    obtain ⟨e3, e4⟩ := k7
    subst e4
    exact ⟨by rw [e1, e3], ⟨_, e1⟩, h.i⟩
theorem two_dispute {w : gW} {l : Launch} {pc j : Nat} {ty : Int} {B ρ T : Int → Int} {Tr : Int → Int → Int} {D : SD} {Z : Nat → SD} {pm tm xm at_ wm wh : Int} {ir : Bool} {V PV TY TX MK MM CH AM WT WK FL PI : Int → Int} {s0 : Int → rdS} {S : Nat → va_E} (h : invR w pc j ty B ρ T Tr D Z pm tm xm at_ wm wh ir V PV TY TX MK MM CH AM WT WK FL PI s0 S) {p x y : Int} (h_0 : inI p) (h_1 : inI x) (h_2 : inI y) : TWO w l yX6_dispute wsX6_dispute { frames := 6, cells := 0, slots := 0, locals := 155 } [.ref (gw_ad w 0), vI (p), vI (x), vI (y)] yX7_dispute wsX7_dispute { frames := 5, cells := 0, slots := 0, locals := 118 } [.ref (gw_ad w 92), vI (p), vI (x), vI (y)] S isVI := by
  obtain ⟨hO, hh, hpm, htm⟩ := h.ok
  obtain ⟨⟨hN, hd, hm⟩, ⟨ep, hg, hz, hhi⟩, hb, hr, hf⟩ := id h
  have hmv := hg.2.2.2.1
  have e18 : V 18 = snR D := hmv.rl.1
  have e19 : V 19 = snP D := hmv.ls.1.1
  have e20 : V 20 = snN D := hmv.ls.1.2.1
  refine ⟨_, c_X6_dispute hN hd hO hh h_0 h_1 h_2, fun v S1 k6 => ?_⟩
  by_cases c1 : ((0 ≤ p ∧ p < snP D) ∧ 0 ≤ x ∧ x ≤ 3) ∧ 1 ≤ y ∧ y ≤ (if x = 0 then 100000 else 2000)
  · rw [if_pos c1] at k6
    have r4 := (hg.1.2.1.2.2 p c1.1.1.1 c1.1.1.2).2.2.2.2.1
    have e4 : V (570 + 12 * p + 4) = sP D p 4 := hmv.col c1.1.1.1 c1.1.1.2 (by decide) (by decide)
    have eC : V (24 + 14 * V (570 + 12 * p + 4)) = sC D (sP D p 4) := by rw [e4]; exact (hmv.bn _ r4.1 r4.2).1
    have eO := open_R hg.1 hmv p
    have hO2 : openZ D p = -1000009 ∨ 0 ≤ openZ D p := by
      rcases opN_b (sN D) p (snN D).toNat 0 (Int.le_refl 0) with q | q
      · exact Or.inl q
      · exact Or.inr q.1
    have hn20 := hmv.n20 hg.1
    by_cases c2 : openZ D p = -1000009 ∧ 0 < sC D (sP D p 4)
    · rw [if_pos c2] at k6
      have c27 : mopZ V p < 0 ∧ 0 < V (24 + 14 * V (570 + 12 * p + 4)) := ⟨by rw [eO, c2.1]; decide, by rw [eC]; exact c2.2⟩
      by_cases c3 : snN D < 20
      · rw [if_pos c3] at k6
        obtain ⟨e1, k6⟩ := k6
        refine ⟨k6.2 92 (by decide), _, c_X7_dispute hN (mod_fr hm k6.2) (hmv.bnd hg.1) hg.2.2.2.2.2.1 hpm (hmv.ok hg.1 hg.2.2.2.2) (hmv.zon hg.1) (hmv.n18 hg.1) hf.1 hf.2.1 hmv.rt hg.2.2.2.2.2.2 hz hmv.gd hf.2.2.2 hf.2.2.1 (hmv.n19 hg.1) (hmv.n20 hg.1) (hmv.pk hg.1) h_0 h_1 h_2, fun v' S2 k7 => ?_⟩
        rw [if_pos ⟨⟨c1.1.1.1, by omega⟩, c1.1.2, c1.2⟩, if_pos c27, if_neg (by omega)] at k7
        obtain ⟨xm1, at1, wm1, wh1, ir1, TX1, WT1, MK1, MM1, CH1, AM1, WK1, FL1, PI1, k7, g1, g2, g3, g4, hrd, e3⟩ := k7
        exact ⟨by rw [e1, e3, e20], ⟨_, e1⟩, inv_act h k6 k7 (gd_disp hg hrd c1.1.1 c1.1.2 c1.2 c2.2 c3 c2.1) hb hr ⟨g1, g2, g3, g4⟩⟩
      · rw [if_neg c3] at k6
        obtain ⟨e1, e2⟩ := k6
        subst e2
        refine ⟨rfl, _, c_X7_dispute hN hm (hmv.bnd hg.1) hg.2.2.2.2.2.1 hpm (hmv.ok hg.1 hg.2.2.2.2) (hmv.zon hg.1) (hmv.n18 hg.1) hf.1 hf.2.1 hmv.rt hg.2.2.2.2.2.2 hz hmv.gd hf.2.2.2 hf.2.2.1 (hmv.n19 hg.1) (hmv.n20 hg.1) (hmv.pk hg.1) h_0 h_1 h_2, fun v' S2 k7 => ?_⟩
        rw [if_pos ⟨⟨c1.1.1.1, by omega⟩, c1.1.2, c1.2⟩, if_pos c27, if_pos (by omega)] at k7
        obtain ⟨e3, e4⟩ := k7
        subst e4
        exact ⟨by rw [e1, e3], ⟨_, e1⟩, h.i⟩
    · rw [if_neg c2] at k6
      obtain ⟨e1, e2⟩ := k6
      subst e2
      refine ⟨rfl, _, c_X7_dispute hN hm (hmv.bnd hg.1) hg.2.2.2.2.2.1 hpm (hmv.ok hg.1 hg.2.2.2.2) (hmv.zon hg.1) (hmv.n18 hg.1) hf.1 hf.2.1 hmv.rt hg.2.2.2.2.2.2 hz hmv.gd hf.2.2.2 hf.2.2.1 (hmv.n19 hg.1) (hmv.n20 hg.1) (hmv.pk hg.1) h_0 h_1 h_2, fun v' S2 k7 => ?_⟩
      rw [if_pos ⟨⟨c1.1.1.1, by omega⟩, c1.1.2, c1.2⟩, if_neg (fun q => c2 ⟨hO2.elim id (fun r => absurd q.1 (by rw [eO]; omega)), by rw [← eC]; exact q.2⟩)] at k7
      obtain ⟨e3, e4⟩ := k7
      subst e4
      exact ⟨by rw [e1, e3], ⟨_, e1⟩, h.i⟩
  · rw [if_neg c1] at k6
    obtain ⟨e1, e2⟩ := k6
    subst e2
    refine ⟨rfl, _, c_X7_dispute hN hm (hmv.bnd hg.1) hg.2.2.2.2.2.1 hpm (hmv.ok hg.1 hg.2.2.2.2) (hmv.zon hg.1) (hmv.n18 hg.1) hf.1 hf.2.1 hmv.rt hg.2.2.2.2.2.2 hz hmv.gd hf.2.2.2 hf.2.2.1 (hmv.n19 hg.1) (hmv.n20 hg.1) (hmv.pk hg.1) h_0 h_1 h_2, fun v' S2 k7 => ?_⟩
    rw [if_neg (fun q => c1 ⟨⟨⟨q.1.1, by omega⟩, q.2.1⟩, q.2.2⟩)] at k7
    obtain ⟨e3, e4⟩ := k7
    subst e4
    exact ⟨by rw [e1, e3], ⟨_, e1⟩, h.i⟩
def isVF (v : Value) : Prop := ∃ x, v = .float x
theorem two_density {w : gW} {l : Launch} {pc j : Nat} {ty : Int} {B ρ T : Int → Int} {Tr : Int → Int → Int} {D : SD} {Z : Nat → SD} {pm tm xm at_ wm wh : Int} {ir : Bool} {V PV TY TX MK MM CH AM WT WK FL PI : Int → Int} {s0 : Int → rdS} {S : Nat → va_E} (h : invR w pc j ty B ρ T Tr D Z pm tm xm at_ wm wh ir V PV TY TX MK MM CH AM WT WK FL PI s0 S) {p : Int} (h_0 : inI p) : TWO w l yX6_density wsX6_density { frames := 2, cells := 0, slots := 0, locals := 45 } [.ref (gw_ad w 0), vI (p)] yX7_density wsX7_density { frames := 2, cells := 0, slots := 0, locals := 48 } [.ref (gw_ad w 92), vI (p)] S isVF := by
  obtain ⟨hO, hh, hpm, htm⟩ := h.ok
  obtain ⟨⟨hN, hd, hm⟩, ⟨ep, hg, hz, hhi⟩, hb, hr, hf⟩ := id h
  have hmv := hg.2.2.2.1
  have e18 : V 18 = snR D := hmv.rl.1
  have e19 : V 19 = snP D := hmv.ls.1.1
  have e20 : V 20 = snN D := hmv.ls.1.2.1
  refine ⟨_, c_X6_density hN hd hO h_0, fun v S1 k6 => ?_⟩
  by_cases c1 : 0 ≤ p ∧ p < snP D
  · rw [if_pos c1] at k6
    obtain ⟨e1, e2⟩ := k6
    subst e2
    refine ⟨rfl, _, c_X7_density hN hm hg.2.2.2.2.2.1 (hmv.n19 hg.1) (hmv.sd hg.1) h_0, fun v' S2 k7 => ?_⟩
    rw [if_pos (by omega)] at k7
    obtain ⟨e3, e4⟩ := k7
    subst e4
    refine ⟨?_, ⟨_, e1⟩, h.i⟩
    rw [e1, e3, hmv.col c1.1 c1.2 (c := 0) (by decide) (by decide), hmv.col c1.1 c1.2 (c := 1) (by decide) (by decide), hmv.col c1.1 c1.2 (c := 2) (by decide) (by decide), hmv.col c1.1 c1.2 (c := 3) (by decide) (by decide)]
  · rw [if_neg c1] at k6
    obtain ⟨e1, e2⟩ := k6
    subst e2
    refine ⟨rfl, _, c_X7_density hN hm hg.2.2.2.2.2.1 (hmv.n19 hg.1) (hmv.sd hg.1) h_0, fun v' S2 k7 => ?_⟩
    rw [if_neg (by omega)] at k7
    obtain ⟨e3, e4⟩ := k7
    subst e4
    exact ⟨by rw [e1, e3], ⟨_, e1⟩, h.i⟩
theorem two_rule {w : gW} {l : Launch} {pc j : Nat} {ty : Int} {B ρ T : Int → Int} {Tr : Int → Int → Int} {D : SD} {Z : Nat → SD} {pm tm xm at_ wm wh : Int} {ir : Bool} {V PV TY TX MK MM CH AM WT WK FL PI : Int → Int} {s0 : Int → rdS} {S : Nat → va_E} (h : invR w pc j ty B ρ T Tr D Z pm tm xm at_ wm wh ir V PV TY TX MK MM CH AM WT WK FL PI s0 S)   : TWO w l yX6_rule wsX6_rule { frames := 10, cells := 0, slots := 0, locals := 222 } [.ref (gw_ad w 0)] yX7_rule wsX7_rule { frames := 4, cells := 0, slots := 0, locals := 93 } [.ref (gw_ad w 92)] S isVI := by
  obtain ⟨hO, hh, hpm, htm⟩ := h.ok
  obtain ⟨⟨hN, hd, hm⟩, ⟨ep, hg, hz, hhi⟩, hb, hr, hf⟩ := id h
  have hmv := hg.2.2.2.1
  have e18 : V 18 = snR D := hmv.rl.1
  have e19 : V 19 = snP D := hmv.ls.1.1
  have e20 : V 20 = snN D := hmv.ls.1.2.1
  refine ⟨_, c_X6_rule hN hd hO hh, fun v S1 k6 => ?_⟩
  obtain ⟨et, b0, b1, b2, b3⟩ := id hb
  have eg : rdGo (cpT TX TY tm) tm.toNat 0 (rdStart ρ, T) = rdZ B ty ρ T := by
    rw [et]
    refine rdGo_c _ _ _ (fun j a b => ?_)
    unfold cpT
    rw [if_pos ⟨a, by omega⟩]
    exact (b1 j a (by omega)).1.symm
  obtain ⟨z1, z2⟩ := rdZ_b (B := B) (T := T) hr.1 b0
  have htk : tkI (rdZ B ty ρ T).2 := tkI_go _ _ _ (fun j a b => by have := (b1 j a (by omega)).2; omega) (tkI_start hr.1 hr.2.1)
  have hTX : ∀ i, inI (cpT TX TY tm i) := fun i => by
    unfold cpT
    split
    · exact b3 i
    · exact hf.1 i
  have hn18 := hmv.n18 hg.1
  by_cases c1 : (rdZ B ty ρ T).1 = ty ∧ (rdZ B ty ρ T).2.1 4 = 5 ∧ 0 < (rdZ B ty ρ T).2.1 3
  · rw [if_pos c1] at k6
    by_cases c2 : snR D < 8
    · rw [if_pos c2] at k6
      obtain ⟨e1, k6⟩ := k6
      refine ⟨k6.2 92 (by decide), _, c_X7_rule hN (mod_fr hm k6.2) hpm htm hb.2.2.2.2 hf.1 hf.2.1 (hmv.n18 hg.1) rfl rfl rfl (s0 := (rdStart ρ, T)), fun v' S2 k7 => ?_⟩
      obtain ⟨at1, wm1, WT1, MK1, MM1, CH1, AM1, q1, q2, q3, q4, q5, k7⟩ := k7
      rcases k7 with ⟨⟨r1, r2⟩, -⟩ | ⟨ea, ⟨s, t1, t2, t3, t4, t5, t6, t7, t8⟩, k7⟩
      · rw [eg] at r1 r2
        exact absurd c1.2 (r2 (by omega))
      · rw [eg] at t1
        rcases k7 with ⟨q, -⟩ | ⟨q, e3, k7⟩
        · omega
        · have es : (rdZ B ty ρ T).2 = s := congrArg Prod.snd t1
          have hch : inI ((rdZ B ty ρ T).2.1 1) := by rw [es, t3]; exact ⟨by omega, by omega⟩
          exact ⟨by rw [e1, e3, e18], ⟨_, e1⟩, inv_act h k6 k7 (gd_rule hg c2 htm (r0 := (rdStart ρ, T)) ⟨rfl, rfl, rfl⟩ (by rw [eg, t1]) c1.2 z2.1 hch (by rw [es, t4]; exact t7) htk.1 hTX) ⟨rfl, ⟨by decide, by decide⟩, fun i a b => absurd b (by omega), b2, b3⟩ ⟨z2, htk.1, hr.2.2⟩ ⟨hTX, q2, hf.2.2.1, hf.2.2.2⟩⟩
    · rw [if_neg c2] at k6
      obtain ⟨e1, k6⟩ := k6
      refine ⟨k6.2 92 (by decide), _, c_X7_rule hN (mod_fr hm k6.2) hpm htm hb.2.2.2.2 hf.1 hf.2.1 (hmv.n18 hg.1) rfl rfl rfl (s0 := (rdStart ρ, T)), fun v' S2 k7 => ?_⟩
      obtain ⟨at1, wm1, WT1, MK1, MM1, CH1, AM1, q1, q2, q3, q4, q5, k7⟩ := k7
      rcases k7 with ⟨⟨r1, r2⟩, -⟩ | ⟨ea, -, k7⟩
      · rw [eg] at r1 r2
        exact absurd c1.2 (r2 (by omega))
      · rcases k7 with ⟨q, e3, k7⟩ | ⟨q, -⟩
        · exact ⟨by rw [e1, e3], ⟨_, e1⟩, inv_same h k6 k7 hb ⟨z2, htk.1, hr.2.2⟩ ⟨hTX, q2, hf.2.2.1, hf.2.2.2⟩⟩
        · omega
  · rw [if_neg c1] at k6
    obtain ⟨e1, k6⟩ := k6
    refine ⟨k6.2 92 (by decide), _, c_X7_rule hN (mod_fr hm k6.2) hpm htm hb.2.2.2.2 hf.1 hf.2.1 (hmv.n18 hg.1) rfl rfl rfl (s0 := (rdStart ρ, T)), fun v' S2 k7 => ?_⟩
    obtain ⟨at1, wm1, WT1, MK1, MM1, CH1, AM1, q1, q2, q3, q4, q5, k7⟩ := k7
    rcases k7 with ⟨⟨r1, r2⟩, e3, k7⟩ | ⟨ea, ⟨s, t1, t2, -⟩, -⟩
    · rw [eg] at r1
      exact ⟨by rw [e1, e3, r1], ⟨_, e1⟩, inv_same h k6 k7 hb ⟨z2, htk.1, hr.2.2⟩ ⟨hTX, q2, hf.2.2.1, hf.2.2.2⟩⟩
    · rw [eg] at t1
      exact absurd ⟨by rw [t1]; exact et, by rw [t1]; exact t2.1, by rw [t1]; exact t2.2⟩ c1
