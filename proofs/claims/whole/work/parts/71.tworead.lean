/-! ===== one call of each: the same answer ===== -/
theorem two_setting {w : gW} {l : Launch} {pc j : Nat} {ty : Int} {B ρ T : Int → Int} {Tr : Int → Int → Int} {D : SD} {Z : Nat → SD} {pm tm xm at_ wm wh : Int} {ir : Bool} {V PV TY TX MK MM CH AM WT WK FL PI : Int → Int} {s0 : Int → rdS} {S : Nat → va_E} (h : invR w pc j ty B ρ T Tr D Z pm tm xm at_ wm wh ir V PV TY TX MK MM CH AM WT WK FL PI s0 S) {i : Int} (h_0 : inI i) : TWO w l yX6_setting wsX6_setting { frames := 1, cells := 0, slots := 0, locals := 21 } [.ref (gw_ad w 0), vI (i)] yX7_setting wsX7_setting { frames := 1, cells := 0, slots := 0, locals := 25 } [.ref (gw_ad w 92), vI (i)] S isVI := by
  obtain ⟨hO, hh, hpm, htm⟩ := h.ok
  obtain ⟨⟨hN, hd, hm⟩, ⟨ep, hg, hz, hhi⟩, hb, hr, hf⟩ := id h
  have hmv := hg.2.2.2.1
  have e18 : V 18 = snR D := hmv.rl.1
  have e19 : V 19 = snP D := hmv.ls.1.1
  have e20 : V 20 = snN D := hmv.ls.1.2.1
  refine ⟨_, c_X6_setting hN hd h_0, fun v S1 k6 => ?_⟩
  obtain ⟨e1, e2⟩ := k6
  subst e2
  refine ⟨rfl, _, c_X7_setting hN hm h_0, fun v' S2 k7 => ?_⟩
  obtain ⟨e3, e4⟩ := k7
  subst e4
  refine ⟨?_, ⟨_, e1⟩, h.i⟩
  rw [e1, e3]
  refine congrArg vI ?_
  by_cases c : 0 ≤ i ∧ i < 8
  · rw [if_pos c, if_pos c]; exact hmv.se i c.1 c.2
  · rw [if_neg c, if_neg c]
theorem two_scale {w : gW} {l : Launch} {pc j : Nat} {ty : Int} {B ρ T : Int → Int} {Tr : Int → Int → Int} {D : SD} {Z : Nat → SD} {pm tm xm at_ wm wh : Int} {ir : Bool} {V PV TY TX MK MM CH AM WT WK FL PI : Int → Int} {s0 : Int → rdS} {S : Nat → va_E} (h : invR w pc j ty B ρ T Tr D Z pm tm xm at_ wm wh ir V PV TY TX MK MM CH AM WT WK FL PI s0 S) {i : Int} (h_0 : inI i) : TWO w l yX6_scale wsX6_scale { frames := 5, cells := 0, slots := 0, locals := 104 } [.ref (gw_ad w 0), vI (i)] yX7_scale wsX7_scale { frames := 4, cells := 0, slots := 0, locals := 86 } [.ref (gw_ad w 92), vI (i)] S isVI := by
  obtain ⟨hO, hh, hpm, htm⟩ := h.ok
  obtain ⟨⟨hN, hd, hm⟩, ⟨ep, hg, hz, hhi⟩, hb, hr, hf⟩ := id h
  have hmv := hg.2.2.2.1
  have e18 : V 18 = snR D := hmv.rl.1
  have e19 : V 19 = snP D := hmv.ls.1.1
  have e20 : V 20 = snN D := hmv.ls.1.2.1
  refine ⟨_, c_X6_scale hN hd hO h_0, fun v S1 k6 => ?_⟩
  obtain ⟨e1, e2⟩ := k6
  subst e2
  refine ⟨rfl, _, c_X7_scale hN hm (hmv.ok hg.1 hg.2.2.2.2) h_0, fun v' S2 k7 => ?_⟩
  obtain ⟨e3, e4⟩ := k7
  subst e4
  refine ⟨?_, ⟨_, e1⟩, h.i⟩
  rw [e1, e3]
  refine congrArg vI ?_
  by_cases c : 0 ≤ i ∧ i ≤ 10
  · rw [if_pos c, if_pos c]; exact scn_R hmv i
  · rw [if_neg c, if_neg c]
theorem two_bandAt {w : gW} {l : Launch} {pc j : Nat} {ty : Int} {B ρ T : Int → Int} {Tr : Int → Int → Int} {D : SD} {Z : Nat → SD} {pm tm xm at_ wm wh : Int} {ir : Bool} {V PV TY TX MK MM CH AM WT WK FL PI : Int → Int} {s0 : Int → rdS} {S : Nat → va_E} (h : invR w pc j ty B ρ T Tr D Z pm tm xm at_ wm wh ir V PV TY TX MK MM CH AM WT WK FL PI s0 S) {z i x : Int} (h_0 : inI z) (h_1 : inI i) (h_2 : inI x) : TWO w l yX6_bandAt wsX6_bandAt { frames := 2, cells := 0, slots := 0, locals := 45 } [.ref (gw_ad w 0), vI (z), vI (i), vI (x)] yX7_bandAt wsX7_bandAt { frames := 2, cells := 0, slots := 0, locals := 45 } [.ref (gw_ad w 92), vI (z), vI (i), vI (x)] S isVI := by
  obtain ⟨hO, hh, hpm, htm⟩ := h.ok
  obtain ⟨⟨hN, hd, hm⟩, ⟨ep, hg, hz, hhi⟩, hb, hr, hf⟩ := id h
  have hmv := hg.2.2.2.1
  have e18 : V 18 = snR D := hmv.rl.1
  have e19 : V 19 = snP D := hmv.ls.1.1
  have e20 : V 20 = snN D := hmv.ls.1.2.1
  refine ⟨_, c_X6_bandAt hN hd hO h_0 h_1 h_2, fun v S1 k6 => ?_⟩
  obtain ⟨e1, e2⟩ := k6
  subst e2
  refine ⟨rfl, _, c_X7_bandAt hN hm (hmv.bnd hg.1) hg.2.2.2.2.2.1 h_0 h_1 h_2, fun v' S2 k7 => ?_⟩
  obtain ⟨e3, e4⟩ := k7
  subst e4
  refine ⟨?_, ⟨_, e1⟩, h.i⟩
  rw [e1, e3]
  refine congrArg vI ?_
  by_cases c : (0 ≤ z ∧ z < 4 ∧ 0 ≤ i ∧ i < sC D z) ∧ 0 ≤ x ∧ x ≤ 1
  · obtain ⟨a, b, e⟩ := hmv.bn z c.1.1 c.1.2.1
    rw [if_pos c, if_pos (by rw [a]; omega)]
    obtain ⟨e5, e6⟩ := e i c.1.2.2.1 c.1.2.2.2
    by_cases hx : x = 0
    · rw [if_pos hx, hx, ← e5]
      exact congrArg V (by omega)
    · rw [if_neg hx, show x = 1 by omega]
      exact e6
  · rw [if_neg c, if_neg (fun q => c ?_)]
    have a := (hmv.bn z q.1.1 (by omega)).1
    rw [a] at q
    omega
theorem two_rules {w : gW} {l : Launch} {pc j : Nat} {ty : Int} {B ρ T : Int → Int} {Tr : Int → Int → Int} {D : SD} {Z : Nat → SD} {pm tm xm at_ wm wh : Int} {ir : Bool} {V PV TY TX MK MM CH AM WT WK FL PI : Int → Int} {s0 : Int → rdS} {S : Nat → va_E} (h : invR w pc j ty B ρ T Tr D Z pm tm xm at_ wm wh ir V PV TY TX MK MM CH AM WT WK FL PI s0 S)   : TWO w l yX6_rules wsX6_rules { frames := 1, cells := 0, slots := 0, locals := 20 } [.ref (gw_ad w 0)] yX7_rules wsX7_rules { frames := 0, cells := 0, slots := 0, locals := 0 } [.ref (gw_ad w 92)] S isVI := by
  obtain ⟨hO, hh, hpm, htm⟩ := h.ok
  obtain ⟨⟨hN, hd, hm⟩, ⟨ep, hg, hz, hhi⟩, hb, hr, hf⟩ := id h
  have hmv := hg.2.2.2.1
  have e18 : V 18 = snR D := hmv.rl.1
  have e19 : V 19 = snP D := hmv.ls.1.1
  have e20 : V 20 = snN D := hmv.ls.1.2.1
  refine ⟨_, c_X6_rules hN hd, fun v S1 k6 => ?_⟩
  obtain ⟨e1, e2⟩ := k6
  subst e2
  refine ⟨rfl, _, c_X7_rules hN hm, fun v' S2 k7 => ?_⟩
  obtain ⟨e3, e4⟩ := k7
  subst e4
  refine ⟨?_, ⟨_, e1⟩, h.i⟩
  rw [e1, e3]
  refine congrArg vI ?_
  exact e18
theorem two_parcels {w : gW} {l : Launch} {pc j : Nat} {ty : Int} {B ρ T : Int → Int} {Tr : Int → Int → Int} {D : SD} {Z : Nat → SD} {pm tm xm at_ wm wh : Int} {ir : Bool} {V PV TY TX MK MM CH AM WT WK FL PI : Int → Int} {s0 : Int → rdS} {S : Nat → va_E} (h : invR w pc j ty B ρ T Tr D Z pm tm xm at_ wm wh ir V PV TY TX MK MM CH AM WT WK FL PI s0 S)   : TWO w l yX6_parcels wsX6_parcels { frames := 0, cells := 0, slots := 0, locals := 0 } [.ref (gw_ad w 0)] yX7_parcels wsX7_parcels { frames := 0, cells := 0, slots := 0, locals := 0 } [.ref (gw_ad w 92)] S isVI := by
  obtain ⟨hO, hh, hpm, htm⟩ := h.ok
  obtain ⟨⟨hN, hd, hm⟩, ⟨ep, hg, hz, hhi⟩, hb, hr, hf⟩ := id h
  have hmv := hg.2.2.2.1
  have e18 : V 18 = snR D := hmv.rl.1
  have e19 : V 19 = snP D := hmv.ls.1.1
  have e20 : V 20 = snN D := hmv.ls.1.2.1
  refine ⟨_, c_X6_parcels hN hd, fun v S1 k6 => ?_⟩
  obtain ⟨e1, e2⟩ := k6
  subst e2
  refine ⟨rfl, _, c_X7_parcels hN hm, fun v' S2 k7 => ?_⟩
  obtain ⟨e3, e4⟩ := k7
  subst e4
  refine ⟨?_, ⟨_, e1⟩, h.i⟩
  rw [e1, e3]
  refine congrArg vI ?_
  exact e19
theorem two_notes {w : gW} {l : Launch} {pc j : Nat} {ty : Int} {B ρ T : Int → Int} {Tr : Int → Int → Int} {D : SD} {Z : Nat → SD} {pm tm xm at_ wm wh : Int} {ir : Bool} {V PV TY TX MK MM CH AM WT WK FL PI : Int → Int} {s0 : Int → rdS} {S : Nat → va_E} (h : invR w pc j ty B ρ T Tr D Z pm tm xm at_ wm wh ir V PV TY TX MK MM CH AM WT WK FL PI s0 S)   : TWO w l yX6_notes wsX6_notes { frames := 0, cells := 0, slots := 0, locals := 0 } [.ref (gw_ad w 0)] yX7_notes wsX7_notes { frames := 0, cells := 0, slots := 0, locals := 0 } [.ref (gw_ad w 92)] S isVI := by
  obtain ⟨hO, hh, hpm, htm⟩ := h.ok
  obtain ⟨⟨hN, hd, hm⟩, ⟨ep, hg, hz, hhi⟩, hb, hr, hf⟩ := id h
  have hmv := hg.2.2.2.1
  have e18 : V 18 = snR D := hmv.rl.1
  have e19 : V 19 = snP D := hmv.ls.1.1
  have e20 : V 20 = snN D := hmv.ls.1.2.1
  refine ⟨_, c_X6_notes hN hd, fun v S1 k6 => ?_⟩
  obtain ⟨e1, e2⟩ := k6
  subst e2
  refine ⟨rfl, _, c_X7_notes hN hm, fun v' S2 k7 => ?_⟩
  obtain ⟨e3, e4⟩ := k7
  subst e4
  refine ⟨?_, ⟨_, e1⟩, h.i⟩
  rw [e1, e3]
  refine congrArg vI ?_
  exact e20
theorem two_parcel {w : gW} {l : Launch} {pc j : Nat} {ty : Int} {B ρ T : Int → Int} {Tr : Int → Int → Int} {D : SD} {Z : Nat → SD} {pm tm xm at_ wm wh : Int} {ir : Bool} {V PV TY TX MK MM CH AM WT WK FL PI : Int → Int} {s0 : Int → rdS} {S : Nat → va_E} (h : invR w pc j ty B ρ T Tr D Z pm tm xm at_ wm wh ir V PV TY TX MK MM CH AM WT WK FL PI s0 S) {p x : Int} (h_0 : inI p) (h_1 : inI x) : TWO w l yX6_parcel wsX6_parcel { frames := 2, cells := 0, slots := 0, locals := 44 } [.ref (gw_ad w 0), vI (p), vI (x)] yX7_parcel wsX7_parcel { frames := 3, cells := 0, slots := 0, locals := 74 } [.ref (gw_ad w 92), vI (p), vI (x)] S isVI := by
  obtain ⟨hO, hh, hpm, htm⟩ := h.ok
  obtain ⟨⟨hN, hd, hm⟩, ⟨ep, hg, hz, hhi⟩, hb, hr, hf⟩ := id h
  have hmv := hg.2.2.2.1
  have e18 : V 18 = snR D := hmv.rl.1
  have e19 : V 19 = snP D := hmv.ls.1.1
  have e20 : V 20 = snN D := hmv.ls.1.2.1
  refine ⟨_, c_X6_parcel hN hd hO h_0 h_1, fun v S1 k6 => ?_⟩
  obtain ⟨e1, e2⟩ := k6
  subst e2
  refine ⟨rfl, _, c_X7_parcel hN hm hg.2.2.2.2.2.1 (hmv.n20 hg.1) (hmv.n19 hg.1) (hmv.sd hg.1) h_0 h_1, fun v' S2 k7 => ?_⟩
  obtain ⟨e3, e4⟩ := k7
  subst e4
  refine ⟨?_, ⟨_, e1⟩, h.i⟩
  rw [e1, e3]
  refine congrArg vI ?_
  by_cases c : (0 ≤ p ∧ p < snP D) ∧ 0 ≤ x ∧ x ≤ 10
  · rw [if_pos c, if_pos (by omega)]; exact told_R hg.1 hmv c.1.1 c.1.2 c.2.1 c.2.2
  · rw [if_neg c, if_neg (by omega)]
theorem two_why {w : gW} {l : Launch} {pc j : Nat} {ty : Int} {B ρ T : Int → Int} {Tr : Int → Int → Int} {D : SD} {Z : Nat → SD} {pm tm xm at_ wm wh : Int} {ir : Bool} {V PV TY TX MK MM CH AM WT WK FL PI : Int → Int} {s0 : Int → rdS} {S : Nat → va_E} (h : invR w pc j ty B ρ T Tr D Z pm tm xm at_ wm wh ir V PV TY TX MK MM CH AM WT WK FL PI s0 S) {p i : Int} (h_0 : inI p) (h_1 : inI i) : TWO w l yX6_why wsX6_why { frames := 1, cells := 0, slots := 0, locals := 22 } [.ref (gw_ad w 0), vI (p), vI (i)] yX7_why wsX7_why { frames := 2, cells := 0, slots := 0, locals := 46 } [.ref (gw_ad w 92), vI (p), vI (i)] S isVI := by
  obtain ⟨hO, hh, hpm, htm⟩ := h.ok
  obtain ⟨⟨hN, hd, hm⟩, ⟨ep, hg, hz, hhi⟩, hb, hr, hf⟩ := id h
  have hmv := hg.2.2.2.1
  have e18 : V 18 = snR D := hmv.rl.1
  have e19 : V 19 = snP D := hmv.ls.1.1
  have e20 : V 20 = snN D := hmv.ls.1.2.1
  refine ⟨_, c_X6_why hN hd hO h_0 h_1, fun v S1 k6 => ?_⟩
  obtain ⟨e1, e2⟩ := k6
  subst e2
  refine ⟨rfl, _, c_X7_why hN hm hg.2.2.2.2.2.1 (hmv.n19 hg.1) (fun p a b => (hmv.wy hg.2.2.1 p a b).2.2) h_0 h_1, fun v' S2 k7 => ?_⟩
  obtain ⟨e3, e4⟩ := k7
  subst e4
  refine ⟨?_, ⟨_, e1⟩, h.i⟩
  rw [e1, e3]
  refine congrArg vI ?_
  by_cases c : (0 ≤ p ∧ p < snP D) ∧ 0 ≤ i
  · rw [if_pos c, if_pos (by omega)]; exact why_R (hmv.ls.2.1 p c.1.1 c.1.2).1 c.2
  · rw [if_neg c, if_neg (by omega)]
theorem two_note {w : gW} {l : Launch} {pc j : Nat} {ty : Int} {B ρ T : Int → Int} {Tr : Int → Int → Int} {D : SD} {Z : Nat → SD} {pm tm xm at_ wm wh : Int} {ir : Bool} {V PV TY TX MK MM CH AM WT WK FL PI : Int → Int} {s0 : Int → rdS} {S : Nat → va_E} (h : invR w pc j ty B ρ T Tr D Z pm tm xm at_ wm wh ir V PV TY TX MK MM CH AM WT WK FL PI s0 S) {n x : Int} (h_0 : inI n) (h_1 : inI x) : TWO w l yX6_note wsX6_note { frames := 1, cells := 0, slots := 0, locals := 22 } [.ref (gw_ad w 0), vI (n), vI (x)] yX7_note wsX7_note { frames := 1, cells := 0, slots := 0, locals := 25 } [.ref (gw_ad w 92), vI (n), vI (x)] S isVI := by
  obtain ⟨hO, hh, hpm, htm⟩ := h.ok
  obtain ⟨⟨hN, hd, hm⟩, ⟨ep, hg, hz, hhi⟩, hb, hr, hf⟩ := id h
  have hmv := hg.2.2.2.1
  have e18 : V 18 = snR D := hmv.rl.1
  have e19 : V 19 = snP D := hmv.ls.1.1
  have e20 : V 20 = snN D := hmv.ls.1.2.1
  refine ⟨_, c_X6_note hN hd hO h_0 h_1, fun v S1 k6 => ?_⟩
  obtain ⟨e1, e2⟩ := k6
  subst e2
  refine ⟨rfl, _, c_X7_note hN hm hg.2.2.2.2.2.1 (hmv.n20 hg.1) h_0 h_1, fun v' S2 k7 => ?_⟩
  obtain ⟨e3, e4⟩ := k7
  subst e4
  refine ⟨?_, ⟨_, e1⟩, h.i⟩
  rw [e1, e3]
  refine congrArg vI ?_
  by_cases c : (0 ≤ n ∧ n < snN D) ∧ 0 ≤ x ∧ x ≤ 5
  · rw [if_pos c, if_pos (by omega)]; exact (hmv.ls.2.2.1 n c.1.1 c.1.2).1 x c.2.1 c.2.2
  · rw [if_neg c, if_neg (by omega)]
theorem two_sum {w : gW} {l : Launch} {pc j : Nat} {ty : Int} {B ρ T : Int → Int} {Tr : Int → Int → Int} {D : SD} {Z : Nat → SD} {pm tm xm at_ wm wh : Int} {ir : Bool} {V PV TY TX MK MM CH AM WT WK FL PI : Int → Int} {s0 : Int → rdS} {S : Nat → va_E} (h : invR w pc j ty B ρ T Tr D Z pm tm xm at_ wm wh ir V PV TY TX MK MM CH AM WT WK FL PI s0 S) {x : Int} (h_0 : inI x) : TWO w l yX6_sum wsX6_sum { frames := 2, cells := 0, slots := 0, locals := 46 } [.ref (gw_ad w 0), vI (x)] yX7_sum wsX7_sum { frames := 2, cells := 0, slots := 0, locals := 45 } [.ref (gw_ad w 92), vI (x)] S isVL := by
  obtain ⟨hO, hh, hpm, htm⟩ := h.ok
  obtain ⟨⟨hN, hd, hm⟩, ⟨ep, hg, hz, hhi⟩, hb, hr, hf⟩ := id h
  have hmv := hg.2.2.2.1
  have e18 : V 18 = snR D := hmv.rl.1
  have e19 : V 19 = snP D := hmv.ls.1.1
  have e20 : V 20 = snN D := hmv.ls.1.2.1
  refine ⟨_, c_X6_sum hN hd hO h_0, fun v S1 k6 => ?_⟩
  obtain ⟨e1, e2⟩ := k6
  subst e2
  refine ⟨rfl, _, c_X7_sum hN hm hg.2.2.2.2.2.1 (hmv.n19 hg.1) h_0, fun v' S2 k7 => ?_⟩
  obtain ⟨e3, e4⟩ := k7
  subst e4
  refine ⟨?_, ⟨_, e1⟩, h.i⟩
  rw [e1, e3]
  refine congrArg vL ?_
  by_cases c : 0 ≤ x ∧ x ≤ 4
  · rw [if_pos c, if_pos c]; exact sum_R hg.1 hmv c.1 c.2
  · rw [if_neg c, if_neg c]
theorem two_fingerprint {w : gW} {l : Launch} {pc j : Nat} {ty : Int} {B ρ T : Int → Int} {Tr : Int → Int → Int} {D : SD} {Z : Nat → SD} {pm tm xm at_ wm wh : Int} {ir : Bool} {V PV TY TX MK MM CH AM WT WK FL PI : Int → Int} {s0 : Int → rdS} {S : Nat → va_E} (h : invR w pc j ty B ρ T Tr D Z pm tm xm at_ wm wh ir V PV TY TX MK MM CH AM WT WK FL PI s0 S)   : TWO w l yX6_fingerprint wsX6_fingerprint { frames := 6, cells := 0, slots := 0, locals := 125 } [.ref (gw_ad w 0)] yX7_fingerprint wsX7_fingerprint { frames := 4, cells := 0, slots := 0, locals := 86 } [.ref (gw_ad w 92)] S isVL := by
  obtain ⟨hO, hh, hpm, htm⟩ := h.ok
  obtain ⟨⟨hN, hd, hm⟩, ⟨ep, hg, hz, hhi⟩, hb, hr, hf⟩ := id h
  have hmv := hg.2.2.2.1
  have e18 : V 18 = snR D := hmv.rl.1
  have e19 : V 19 = snP D := hmv.ls.1.1
  have e20 : V 20 = snN D := hmv.ls.1.2.1
  refine ⟨_, c_X6_fingerprint hN hd hO, fun v S1 k6 => ?_⟩
  obtain ⟨e1, e2⟩ := k6
  subst e2
  refine ⟨rfl, _, c_X7_fingerprint hN hm (hmv.bnd hg.1) hg.2.2.2.2.2.1 (hmv.ok hg.1 hg.2.2.2.2) (hmv.n19 hg.1) (hmv.n20 hg.1) (hmv.sd hg.1) (hmv.wy hg.2.2.1), fun v' S2 k7 => ?_⟩
  obtain ⟨e3, e4⟩ := k7
  subst e4
  refine ⟨?_, ⟨_, e1⟩, h.i⟩
  rw [e1, e3]
  refine congrArg vL ?_
  exact print_R hg.1 hmv
