/-! ===== p35: the calls of the desk, as the law makes them, over one state ===== -/
theorem rd1_link (c : Int) (s : rdS) : (rdLink c s).2.1 1 = s.1 1 := by
  unfold rdLink
  split
  · rfl
  · split
    · rw [tokS_v _ _ 1 (by decide)]; rfl
    · split
      · rw [tokS_v _ _ 1 (by decide)]; rfl
      · rfl
theorem rd1_all {c : Int} {s : rdS} (h : inI (s.1 1)) (hc : -1000 ≤ c ∧ c ≤ 1000) : inI ((rdAll c s).2.1 1) := by
  have hd : (rdDig c s).2.1 1 = s.1 1 := by unfold rdDig; split <;> rfl
  unfold rdAll
  split
  · unfold rdTerm
    split
    · rw [tokS_v _ _ 1 (by decide)]; exact h
    · split
      · rw [tokS_v _ _ 1 (by decide)]; exact h
      · exact h
  · split
    · exact h
    · split
      · split
        · rw [hd]; exact h
        · unfold rdLBN
          split
          · exact h
          · rw [rd1_link, tokS_v _ _ 1 (by decide)]; exact h
      · split
        · rw [rd1_link]; exact h
        · split
          · exact ⟨by show -2147483648 ≤ c; omega, by show c ≤ 2147483647; omega⟩
          · rw [hd]; exact h
theorem rd1_go {B : Int → Int} : ∀ (k : Nat) (i : Int) (s : rdS), (∀ j, i ≤ j → j < i + k → -1000 ≤ B j ∧ B j ≤ 1000) → inI (s.1 1) → inI ((rdGo B k i s).2.1 1)
  | 0, _, _, _, h => h
  | k + 1, i, s, hB, h => by
    have h1 := rd1_all (c := B i) h (hB i (by omega) (by omega))
    show inI ((if (rdAll (B i) s).1 = true then rdGo B k (i + 1) (rdAll (B i) s).2 else (i, (rdAll (B i) s).2)).2.1 1)
    split
    · exact rd1_go k (i + 1) _ (fun j a b => hB j (by omega) (by omega)) h1
    · exact h1
theorem agD.trans {A B C : SD} (h : agD A B) (k : agD B C) : agD A C := by
  obtain ⟨h1, h2, h3, ⟨h4, h5⟩, ⟨h6, h7⟩, ⟨h8, h9⟩, ⟨ha, hb⟩⟩ := h
  obtain ⟨k1, k2, k3, ⟨k4, k5⟩, ⟨k6, k7⟩, ⟨k8, k9⟩, ⟨ka, kb⟩⟩ := k
  refine ⟨fun i i0 i1 => (k1 i i0 i1).trans (h1 i i0 i1), k2.trans h2, fun z z0 z4 => ?_, ⟨k4.trans h4, fun i a b => (k5 i a (by omega)).trans (h5 i a b)⟩, ⟨k6.trans h6, fun i a b => (k7 i a (by omega)).trans (h7 i a b)⟩, ⟨k8.trans h8, fun i a b => (k9 i a (by omega)).trans (h9 i a b)⟩, ⟨ka.trans ha, fun i a b => (kb i a (by omega)).trans (hb i a b)⟩⟩
  obtain ⟨a1, a2, a3⟩ := h3 z z0 z4
  obtain ⟨b1, b2, b3⟩ := k3 z z0 z4
  exact ⟨b1.trans a1, b2.trans a2, fun i i0 i1 => ⟨(b3 i i0 (by omega)).1.trans (a3 i i0 i1).1, (b3 i i0 (by omega)).2.trans (a3 i i0 i1).2⟩⟩
/-- the desk at the state D, with ty characters typed, read up to the place pl with dg digits -/
def hi35 (pc j : Nat) (Z : Nat → SD) : Prop := pc ≤ 4 ∧ j < 4 ∧ ∀ i : Nat, i < 4 → cOK (Z i) ∧ arI (Z i)
def AD (w : gW) (ty pl dg : Int) (D : SD) (S : Nat → va_E) : Prop := ∃ (pc j : Nat) (B ρ T : Int → Int) (Tr : Int → Int → Int) (Z : Nat → SD), gw_N w = 92 ∧ deskAt w pc j ty B ρ T Tr D Z S ∧ deskOK ty B ρ Tr D ∧ hi35 pc j Z ∧ ok35 D ∧ bufAt B ty pl dg ∧ (∀ i, inI (T i)) ∧ inI (ρ 1)
abbrev A0 (w : gW) (D : SD) (S : Nat → va_E) : Prop := AD w 0 0 0 D S
theorem AD.N {w : gW} {ty pl dg : Int} {D : SD} {S : Nat → va_E} (h : AD w ty pl dg D S) : gw_N w = 92 := by obtain ⟨_, _, _, _, _, _, _, h1, -⟩ := h; exact h1
theorem AD.e {w : gW} {ty pl dg : Int} {D : SD} {S : Nat → va_E} (h : AD w ty pl dg D S) : ∃ fs, S 0 = .inr (6, fs) := by obtain ⟨_, _, _, _, _, _, _, -, h1, -⟩ := h; exact ⟨_, h1.1.1⟩
theorem AD.ok {w : gW} {ty pl dg : Int} {D : SD} {S : Nat → va_E} (h : AD w ty pl dg D S) : ok35 D := by obtain ⟨_, _, _, _, _, _, _, -, -, -, -, h1, -⟩ := h; exact h1
theorem AD.ty {w : gW} {ty pl dg : Int} {D : SD} {S : Nat → va_E} (h : AD w ty pl dg D S) : 0 ≤ ty ∧ ty ≤ 60 := by obtain ⟨_, _, _, _, _, _, _, -, -, h1, -⟩ := h; exact h1.2.1
theorem hi35.c {pc j : Nat} {Z : Nat → SD} (h : hi35 pc j Z) : pc ≤ 4 ∧ j < 4 ∧ ∀ i : Nat, i < 4 → cOK (Z i) := ⟨h.1, h.2.1, fun i hi => (h.2.2 i hi).1⟩
theorem hi35.act {pc j : Nat} {Z : Nat → SD} {D : SD} (h : hi35 pc j Z) (hD : stOK D) : hi35 (pcN pc) (jN j) (pastN j Z D) := by
  obtain ⟨h1, h2, h3⟩ := h
  refine ⟨by unfold pcN; split <;> omega, by unfold jN; split <;> omega, fun i hi => ?_⟩
  by_cases e : i = j
  · have e2 : pastN j Z D i = cpyD D (Z j) := by rw [e]; exact up_eq _ _ _
    rw [e2]
    exact ⟨(stOK_ag hD (ag_cpy D (Z j)) (ar_cpy hD.ar (h3 j h2).2)).c, ar_cpy hD.ar (h3 j h2).2⟩
  · have e2 : pastN j Z D i = Z i := up_ne e rfl
    rw [e2]
    exact h3 i hi
/-- an act that leaves the typed text -/
theorem ad_act {w : gW} {ty pl dg : Int} {pc j : Nat} {B ρ T : Int → Int} {Tr : Int → Int → Int} {Z : Nat → SD} {D D2 : SD} {S S2 : Nat → va_E} (hN : gw_N w = 92) (hO : deskOK ty B ρ Tr D) (hh : hi35 pc j Z) (hb : bufAt B ty pl dg) (hT : ∀ i, inI (T i)) (h1 : inI (ρ 1)) (h6 : POST w S (pcN pc) (jN j) ty B ρ T Tr D2 (pastN j Z D) S2) (ho : ok35 D2) : AD w ty pl dg D2 S2 :=
  ⟨_, _, _, _, _, _, _, hN, h6.1, ⟨ho.1, hO.2⟩, hh.act hO.1, ho, hb, hT, h1⟩
/-- what is no act, with another row of trial -/
theorem ad_tr {w : gW} {ty pl dg : Int} {pc j : Nat} {B ρ T : Int → Int} {Tr Tr2 : Int → Int → Int} {Z : Nat → SD} {D : SD} {S S2 : Nat → va_E} (hN : gw_N w = 92) (hO : deskOK ty B ρ Tr D) (hh : hi35 pc j Z) (hb : bufAt B ty pl dg) (hT : ∀ i, inI (T i)) (h1 : inI (ρ 1)) (ho : ok35 D) (hi : ∀ i j, inI (Tr2 i j)) (h6 : POST w S pc j ty B ρ T Tr2 D Z S2) : AD w ty pl dg D S2 :=
  ⟨_, _, _, _, _, _, _, hN, h6.1, ⟨hO.1, hO.2.1, hO.2.2.1, hO.2.2.2.1, hO.2.2.2.2.1, hi⟩, hh, ho, hb, hT, h1⟩
/-- what the law keeps of a state beside the scale -/
def sm35 (D D2 : SD) : Prop := sC D2 = sC D ∧ snP D2 = snP D ∧ snN D2 = snN D ∧ snR D2 = snR D
/-- the desk behind an act that undo() takes back -/
def UB (w : gW) (D : SD) (S : Nat → va_E) : Prop := ∃ (pc j : Nat) (B ρ T : Int → Int) (Tr : Int → Int → Int) (Z : Nat → SD) (D1 : SD), gw_N w = 92 ∧ 0 < pc ∧ deskAt w pc j 0 B ρ T Tr D1 Z S ∧ deskOK 0 B ρ Tr D1 ∧ hi35 pc j Z ∧ (ok35 D ∧ agD D (Z (jP j))) ∧ bufAt B 0 0 0 ∧ (∀ i, inI (T i)) ∧ inI (ρ 1)
theorem UB.N {w : gW} {D : SD} {S : Nat → va_E} (h : UB w D S) : gw_N w = 92 := by obtain ⟨_, _, _, _, _, _, _, _, h1, -⟩ := h; exact h1
theorem UB.e {w : gW} {D : SD} {S : Nat → va_E} (h : UB w D S) : ∃ fs, S 0 = .inr (6, fs) := by obtain ⟨_, _, _, _, _, _, _, _, -, -, h1, -⟩ := h; exact ⟨_, h1.1.1⟩
section GD
variable {w : gW} {R : Room} {X : gX} {nL pc : Nat} {cc : ByteArray} {own : String} {Ts : List Cond} {lv : List (Nat × Value)} {st : List Value} {S : Nat → va_E}
/-- a call of the desk -/
theorem g_callD (hX : gOK w R X cc nL own Ts) {index maxL n : Nat} {y : MethodName} {bytes : ByteArray} {ret : Option FieldType} {ws ws' : List Cond} {rm : Room} {st2 As : List Value} {K : Value → (Nat → va_E) → Prop} (hN : gw_N w = 92) (he : ∃ fs, S 0 = .inr (6, fs)) (hM : GM1 w (gx_l X) y ws rm (.ref (gw_ad w 0) :: As) S K) (hT : GoodIn Ts (wsV own index RX6 y ws)) (hw : ws = Cond.code y bytes maxL ret :: ws') (hrc : rm.cells = 0) (hrs : rm.slots = 0)
    (hd : y.cls = RX6 ∧ y.cls ≠ "java/lang/invoke/MethodHandle" ∧ y.cls ≠ "java/lang/invoke/VarHandle" ∧ (parseMethodDescriptor y.desc).map (fun d => d.parameters.length) = some n) (hR : rm.frames + 1 ≤ R.frames ∧ 8 + (maxL + 11) + rm.locals ≤ R.locals) (hn : As.length = n) (hst : st = As.reverse ++ .ref (gw_ad w 0) :: st2) (hsum : (st2.map fun v => v.category).sum ≤ 8) (hdg : decode cc pc = .ok (.invokevirtual index, 3))
    (k : ∀ x S', K x S' → G w R X nL (pc + 3) lv (x :: st2) S') : G w R X nL pc lv st S := by
  obtain ⟨fs, he⟩ := he
  exact g_callV1 (ci := 6) (C := RX6) (T := TX6) (N := 8) hX 0 (by omega) he rfl hM hT hw hrc hrs hd hR hn hst hsum hdg k
end GD

theorem q_setting {w : gW} {l : Launch} {S : Nat → va_E} {ty pl dg : Int} {D : SD} (h : AD w ty pl dg D S) {i : Int} (i0 : 0 ≤ i) (i8 : i < 8) : GM1 w l yX6_setting wsX6_setting { frames := 1, cells := 0, slots := 0, locals := 21 } [.ref (gw_ad w 0), vI i] S
    (fun v S2 => v = vI (sF D i) ∧ S2 = S) := by
  obtain ⟨pc, j, B, ρ, T, Tr, Z, hN, hd, hO, hh, ho, hb, hT, h1⟩ := h
  refine GM1.mono (c_X6_setting hN hd (i := i) ⟨by omega, by omega⟩) (fun v S2 k => ?_)
  rw [if_pos ⟨i0, i8⟩] at k
  exact k

theorem x_setting {w : gW} {l : Launch} {S : Nat → va_E} {ty pl dg : Int} {D : SD} (h : AD w ty pl dg D S) {i : Int} (hi : inI i) (hc : ¬ (0 ≤ i ∧ i < 8)) : GM1 w l yX6_setting wsX6_setting { frames := 1, cells := 0, slots := 0, locals := 21 } [.ref (gw_ad w 0), vI i] S
    (fun v S2 => v = vI (-1000001) ∧ S2 = S) := by
  obtain ⟨pc, j, B, ρ, T, Tr, Z, hN, hd, hO, hh, ho, hb, hT, h1⟩ := h
  refine GM1.mono (c_X6_setting hN hd hi) (fun v S2 k => ?_)
  rw [if_neg hc] at k
  exact k

theorem q_scale {w : gW} {l : Launch} {S : Nat → va_E} {ty pl dg : Int} {D : SD} (h : AD w ty pl dg D S) {i : Int} (i0 : 0 ≤ i) (i1 : i ≤ 10) : GM1 w l yX6_scale wsX6_scale { frames := 5, cells := 0, slots := 0, locals := 104 } [.ref (gw_ad w 0), vI i] S
    (fun v S2 => v = vI (scNum (sF D) (sG D) i) ∧ S2 = S) := by
  obtain ⟨pc, j, B, ρ, T, Tr, Z, hN, hd, hO, hh, ho, hb, hT, h1⟩ := h
  refine GM1.mono (c_X6_scale hN hd hO (i := i) ⟨by omega, by omega⟩) (fun v S2 k => ?_)
  rw [if_pos ⟨i0, i1⟩] at k
  exact k

theorem x_scale {w : gW} {l : Launch} {S : Nat → va_E} {ty pl dg : Int} {D : SD} (h : AD w ty pl dg D S) {i : Int} (hi : inI i) (hc : ¬ (0 ≤ i ∧ i ≤ 10)) : GM1 w l yX6_scale wsX6_scale { frames := 5, cells := 0, slots := 0, locals := 104 } [.ref (gw_ad w 0), vI i] S
    (fun v S2 => v = vI (-1000001) ∧ S2 = S) := by
  obtain ⟨pc, j, B, ρ, T, Tr, Z, hN, hd, hO, hh, ho, hb, hT, h1⟩ := h
  refine GM1.mono (c_X6_scale hN hd hO hi) (fun v S2 k => ?_)
  rw [if_neg hc] at k
  exact k

theorem scN_1 (D : SD) : scNum (sF D) (sG D) 1 = scRaw (sF D) (sG D) := rfl

theorem q_scale1 {w : gW} {l : Launch} {S : Nat → va_E} {ty pl dg : Int} {D : SD} (h : AD w ty pl dg D S) : GM1 w l yX6_scale wsX6_scale { frames := 5, cells := 0, slots := 0, locals := 104 } [.ref (gw_ad w 0), vI 1] S
    (fun v S2 => v = vI (scRaw (sF D) (sG D)) ∧ S2 = S) := by
  have k := q_scale (l := l) h (i := 1) (by decide) (by decide)
  rw [scN_1] at k
  exact k

theorem scN_2 (D : SD) : scNum (sF D) (sG D) 2 = scGross (sF D) (sG D) := rfl

theorem q_scale2 {w : gW} {l : Launch} {S : Nat → va_E} {ty pl dg : Int} {D : SD} (h : AD w ty pl dg D S) : GM1 w l yX6_scale wsX6_scale { frames := 5, cells := 0, slots := 0, locals := 104 } [.ref (gw_ad w 0), vI 2] S
    (fun v S2 => v = vI (scGross (sF D) (sG D)) ∧ S2 = S) := by
  have k := q_scale (l := l) h (i := 2) (by decide) (by decide)
  rw [scN_2] at k
  exact k

theorem scN_3 (D : SD) : scNum (sF D) (sG D) 3 = scGross (sF D) (sG D) - sG D 3 := rfl

theorem q_scale3 {w : gW} {l : Launch} {S : Nat → va_E} {ty pl dg : Int} {D : SD} (h : AD w ty pl dg D S) : GM1 w l yX6_scale wsX6_scale { frames := 5, cells := 0, slots := 0, locals := 104 } [.ref (gw_ad w 0), vI 3] S
    (fun v S2 => v = vI (scGross (sF D) (sG D) - sG D 3) ∧ S2 = S) := by
  have k := q_scale (l := l) h (i := 3) (by decide) (by decide)
  rw [scN_3] at k
  exact k

theorem scN_4 (D : SD) : scNum (sF D) (sG D) 4 = sG D 2 := rfl

theorem q_scale4 {w : gW} {l : Launch} {S : Nat → va_E} {ty pl dg : Int} {D : SD} (h : AD w ty pl dg D S) : GM1 w l yX6_scale wsX6_scale { frames := 5, cells := 0, slots := 0, locals := 104 } [.ref (gw_ad w 0), vI 4] S
    (fun v S2 => v = vI (sG D 2) ∧ S2 = S) := by
  have k := q_scale (l := l) h (i := 4) (by decide) (by decide)
  rw [scN_4] at k
  exact k

theorem scN_5 (D : SD) : scNum (sF D) (sG D) 5 = sG D 3 := rfl

theorem q_scale5 {w : gW} {l : Launch} {S : Nat → va_E} {ty pl dg : Int} {D : SD} (h : AD w ty pl dg D S) : GM1 w l yX6_scale wsX6_scale { frames := 5, cells := 0, slots := 0, locals := 104 } [.ref (gw_ad w 0), vI 5] S
    (fun v S2 => v = vI (sG D 3) ∧ S2 = S) := by
  have k := q_scale (l := l) h (i := 5) (by decide) (by decide)
  rw [scN_5] at k
  exact k

theorem scN_7 (D : SD) : scNum (sF D) (sG D) 7 = bz (scSteady (sF D) (sG D)) := rfl

theorem q_scale7 {w : gW} {l : Launch} {S : Nat → va_E} {ty pl dg : Int} {D : SD} (h : AD w ty pl dg D S) : GM1 w l yX6_scale wsX6_scale { frames := 5, cells := 0, slots := 0, locals := 104 } [.ref (gw_ad w 0), vI 7] S
    (fun v S2 => v = vI (bz (scSteady (sF D) (sG D))) ∧ S2 = S) := by
  have k := q_scale (l := l) h (i := 7) (by decide) (by decide)
  rw [scN_7] at k
  exact k

theorem scN_8 (D : SD) : scNum (sF D) (sG D) 8 = bz (scOver (sF D) (sG D)) := rfl

theorem q_scale8 {w : gW} {l : Launch} {S : Nat → va_E} {ty pl dg : Int} {D : SD} (h : AD w ty pl dg D S) : GM1 w l yX6_scale wsX6_scale { frames := 5, cells := 0, slots := 0, locals := 104 } [.ref (gw_ad w 0), vI 8] S
    (fun v S2 => v = vI (bz (scOver (sF D) (sG D))) ∧ S2 = S) := by
  have k := q_scale (l := l) h (i := 8) (by decide) (by decide)
  rw [scN_8] at k
  exact k

theorem scN_9 (D : SD) : scNum (sF D) (sG D) 9 = sG D 5 := rfl

theorem q_scale9 {w : gW} {l : Launch} {S : Nat → va_E} {ty pl dg : Int} {D : SD} (h : AD w ty pl dg D S) : GM1 w l yX6_scale wsX6_scale { frames := 5, cells := 0, slots := 0, locals := 104 } [.ref (gw_ad w 0), vI 9] S
    (fun v S2 => v = vI (sG D 5) ∧ S2 = S) := by
  have k := q_scale (l := l) h (i := 9) (by decide) (by decide)
  rw [scN_9] at k
  exact k

theorem scN_10 (D : SD) : scNum (sF D) (sG D) 10 = sG D 0 := rfl

theorem q_scale10 {w : gW} {l : Launch} {S : Nat → va_E} {ty pl dg : Int} {D : SD} (h : AD w ty pl dg D S) : GM1 w l yX6_scale wsX6_scale { frames := 5, cells := 0, slots := 0, locals := 104 } [.ref (gw_ad w 0), vI 10] S
    (fun v S2 => v = vI (sG D 0) ∧ S2 = S) := by
  have k := q_scale (l := l) h (i := 10) (by decide) (by decide)
  rw [scN_10] at k
  exact k

theorem q_bandAt {w : gW} {l : Launch} {S : Nat → va_E} {ty pl dg : Int} {D : SD} (h : AD w ty pl dg D S) {z : Int} (z0 : 0 ≤ z) (z3 : z ≤ 3) (hc : 0 < sC D z) : GM1 w l yX6_bandAt wsX6_bandAt { frames := 2, cells := 0, slots := 0, locals := 45 } [.ref (gw_ad w 0), vI z, vI 0, vI 0] S
    (fun v S2 => v = vI (sL D z 0) ∧ S2 = S) := by
  obtain ⟨pc, j, B, ρ, T, Tr, Z, hN, hd, hO, hh, ho, hb, hT, h1⟩ := h
  refine GM1.mono (c_X6_bandAt hN hd hO (z := z) (i := 0) (x := 0) ⟨by omega, by omega⟩ ⟨by decide, by decide⟩ ⟨by decide, by decide⟩) (fun v S2 k => ?_)
  rw [if_pos ⟨⟨z0, by omega, by decide, hc⟩, by decide, by decide⟩, if_pos rfl] at k
  exact k

theorem x_bandAt {w : gW} {l : Launch} {S : Nat → va_E} {ty pl dg : Int} {D : SD} (h : AD w ty pl dg D S) {z i x : Int} (hz : inI z) (hi : inI i) (hx : inI x) (hc : ¬ ((0 ≤ z ∧ z < 4 ∧ 0 ≤ i ∧ i < sC D z) ∧ 0 ≤ x ∧ x ≤ 1)) : GM1 w l yX6_bandAt wsX6_bandAt { frames := 2, cells := 0, slots := 0, locals := 45 } [.ref (gw_ad w 0), vI z, vI i, vI x] S
    (fun v S2 => v = vI (-1000001) ∧ S2 = S) := by
  obtain ⟨pc, j, B, ρ, T, Tr, Z, hN, hd, hO, hh, ho, hb, hT, h1⟩ := h
  refine GM1.mono (c_X6_bandAt hN hd hO hz hi hx) (fun v S2 k => ?_)
  rw [if_neg hc] at k
  exact k

theorem q_rules {w : gW} {l : Launch} {S : Nat → va_E} {ty pl dg : Int} {D : SD} (h : AD w ty pl dg D S)  : GM1 w l yX6_rules wsX6_rules { frames := 1, cells := 0, slots := 0, locals := 20 } [.ref (gw_ad w 0)] S
    (fun v S2 => v = vI (snR D) ∧ S2 = S) := by
  obtain ⟨pc, j, B, ρ, T, Tr, Z, hN, hd, hO, hh, ho, hb, hT, h1⟩ := h
  refine GM1.mono (c_X6_rules hN hd) (fun v S2 k => ?_)
  exact k

theorem q_parcels {w : gW} {l : Launch} {S : Nat → va_E} {ty pl dg : Int} {D : SD} (h : AD w ty pl dg D S)  : GM1 w l yX6_parcels wsX6_parcels { frames := 0, cells := 0, slots := 0, locals := 0 } [.ref (gw_ad w 0)] S
    (fun v S2 => v = vI (snP D) ∧ S2 = S) := by
  obtain ⟨pc, j, B, ρ, T, Tr, Z, hN, hd, hO, hh, ho, hb, hT, h1⟩ := h
  refine GM1.mono (c_X6_parcels hN hd) (fun v S2 k => ?_)
  exact k

theorem q_notes {w : gW} {l : Launch} {S : Nat → va_E} {ty pl dg : Int} {D : SD} (h : AD w ty pl dg D S)  : GM1 w l yX6_notes wsX6_notes { frames := 0, cells := 0, slots := 0, locals := 0 } [.ref (gw_ad w 0)] S
    (fun v S2 => v = vI (snN D) ∧ S2 = S) := by
  obtain ⟨pc, j, B, ρ, T, Tr, Z, hN, hd, hO, hh, ho, hb, hT, h1⟩ := h
  refine GM1.mono (c_X6_notes hN hd) (fun v S2 k => ?_)
  exact k

theorem q_parcel {w : gW} {l : Launch} {S : Nat → va_E} {ty pl dg : Int} {D : SD} (h : AD w ty pl dg D S) {p x : Int} (p0 : 0 ≤ p) (p1 : p < snP D) (x0 : 0 ≤ x) (x9 : x ≤ 9) : GM1 w l yX6_parcel wsX6_parcel { frames := 2, cells := 0, slots := 0, locals := 44 } [.ref (gw_ad w 0), vI p, vI x] S
    (fun v S2 => v = vI (sP D p x) ∧ S2 = S) := by
  obtain ⟨pc, j, B, ρ, T, Tr, Z, hN, hd, hO, hh, ho, hb, hT, h1⟩ := h
  refine GM1.mono (c_X6_parcel hN hd hO (p := p) (x := x) ⟨by omega, by have := ho.1.2.1.1; omega⟩ ⟨by omega, by omega⟩) (fun v S2 k => ?_)
  rw [if_pos ⟨⟨p0, p1⟩, x0, by omega⟩, if_neg (by omega)] at k
  exact k

theorem q_open {w : gW} {l : Launch} {S : Nat → va_E} {ty pl dg : Int} {D : SD} (h : AD w ty pl dg D S) {p : Int} (p0 : 0 ≤ p) (p1 : p < snP D) : GM1 w l yX6_parcel wsX6_parcel { frames := 2, cells := 0, slots := 0, locals := 44 } [.ref (gw_ad w 0), vI p, vI 10] S
    (fun v S2 => v = vI (openZ D p) ∧ S2 = S) := by
  obtain ⟨pc, j, B, ρ, T, Tr, Z, hN, hd, hO, hh, ho, hb, hT, h1⟩ := h
  refine GM1.mono (c_X6_parcel hN hd hO (p := p) (x := 10) ⟨by omega, by have := ho.1.2.1.1; omega⟩ ⟨by decide, by decide⟩) (fun v S2 k => ?_)
  rw [if_pos ⟨⟨p0, p1⟩, by decide, by decide⟩, if_pos rfl] at k
  exact k

theorem x_parcel {w : gW} {l : Launch} {S : Nat → va_E} {ty pl dg : Int} {D : SD} (h : AD w ty pl dg D S) {p x : Int} (hp : inI p) (hx : inI x) (hc : ¬ ((0 ≤ p ∧ p < snP D) ∧ 0 ≤ x ∧ x ≤ 10)) : GM1 w l yX6_parcel wsX6_parcel { frames := 2, cells := 0, slots := 0, locals := 44 } [.ref (gw_ad w 0), vI p, vI x] S
    (fun v S2 => v = vI (-1000001) ∧ S2 = S) := by
  obtain ⟨pc, j, B, ρ, T, Tr, Z, hN, hd, hO, hh, ho, hb, hT, h1⟩ := h
  refine GM1.mono (c_X6_parcel hN hd hO hp hx) (fun v S2 k => ?_)
  rw [if_neg hc] at k
  exact k

theorem q_why {w : gW} {l : Launch} {S : Nat → va_E} {ty pl dg : Int} {D : SD} (h : AD w ty pl dg D S) {p i : Int} (p0 : 0 ≤ p) (p1 : p < snP D) (i0 : 0 ≤ i) (i1 : i < sP D p 11) : GM1 w l yX6_why wsX6_why { frames := 1, cells := 0, slots := 0, locals := 22 } [.ref (gw_ad w 0), vI p, vI i] S
    (fun v S2 => v = vI (sP D p (12 + i)) ∧ S2 = S) := by
  obtain ⟨pc, j, B, ρ, T, Tr, Z, hN, hd, hO, hh, ho, hb, hT, h1⟩ := h
  refine GM1.mono (c_X6_why hN hd hO (p := p) (i := i) ⟨by omega, by have := ho.1.2.1.1; omega⟩ ⟨by omega, by have := (ho.1.2.1.2.2 p p0 p1).2.2.2.2.2.2.2.2.2; omega⟩) (fun v S2 k => ?_)
  rw [if_pos ⟨⟨p0, p1⟩, i0⟩, if_pos i1] at k
  exact k

theorem n_why {w : gW} {l : Launch} {S : Nat → va_E} {ty pl dg : Int} {D : SD} (h : AD w ty pl dg D S) {p i : Int} (p0 : 0 ≤ p) (p1 : p < snP D) (i0 : 0 ≤ i) (hi : inI i) (i1 : ¬ i < sP D p 11) : GM1 w l yX6_why wsX6_why { frames := 1, cells := 0, slots := 0, locals := 22 } [.ref (gw_ad w 0), vI p, vI i] S
    (fun v S2 => v = vI (-1000009) ∧ S2 = S) := by
  obtain ⟨pc, j, B, ρ, T, Tr, Z, hN, hd, hO, hh, ho, hb, hT, h1⟩ := h
  refine GM1.mono (c_X6_why hN hd hO (p := p) (i := i) ⟨by omega, by have := ho.1.2.1.1; omega⟩ hi) (fun v S2 k => ?_)
  rw [if_pos ⟨⟨p0, p1⟩, i0⟩, if_neg i1] at k
  exact k

theorem x_why {w : gW} {l : Launch} {S : Nat → va_E} {ty pl dg : Int} {D : SD} (h : AD w ty pl dg D S) {p i : Int} (hp : inI p) (hi : inI i) (hc : ¬ ((0 ≤ p ∧ p < snP D) ∧ 0 ≤ i)) : GM1 w l yX6_why wsX6_why { frames := 1, cells := 0, slots := 0, locals := 22 } [.ref (gw_ad w 0), vI p, vI i] S
    (fun v S2 => v = vI (-1000001) ∧ S2 = S) := by
  obtain ⟨pc, j, B, ρ, T, Tr, Z, hN, hd, hO, hh, ho, hb, hT, h1⟩ := h
  refine GM1.mono (c_X6_why hN hd hO hp hi) (fun v S2 k => ?_)
  rw [if_neg hc] at k
  exact k

theorem q_note {w : gW} {l : Launch} {S : Nat → va_E} {ty pl dg : Int} {D : SD} (h : AD w ty pl dg D S) {n x : Int} (n0 : 0 ≤ n) (n1 : n < snN D) (x0 : 0 ≤ x) (x5 : x ≤ 5) : GM1 w l yX6_note wsX6_note { frames := 1, cells := 0, slots := 0, locals := 22 } [.ref (gw_ad w 0), vI n, vI x] S
    (fun v S2 => v = vI (sN D n x) ∧ S2 = S) := by
  obtain ⟨pc, j, B, ρ, T, Tr, Z, hN, hd, hO, hh, ho, hb, hT, h1⟩ := h
  refine GM1.mono (c_X6_note hN hd hO (n := n) (x := x) ⟨by omega, by have := ho.1.2.2.1.1; omega⟩ ⟨by omega, by omega⟩) (fun v S2 k => ?_)
  rw [if_pos ⟨⟨n0, n1⟩, x0, x5⟩] at k
  exact k

theorem x_note {w : gW} {l : Launch} {S : Nat → va_E} {ty pl dg : Int} {D : SD} (h : AD w ty pl dg D S) {n x : Int} (hn : inI n) (hx : inI x) (hc : ¬ ((0 ≤ n ∧ n < snN D) ∧ 0 ≤ x ∧ x ≤ 5)) : GM1 w l yX6_note wsX6_note { frames := 1, cells := 0, slots := 0, locals := 22 } [.ref (gw_ad w 0), vI n, vI x] S
    (fun v S2 => v = vI (-1000001) ∧ S2 = S) := by
  obtain ⟨pc, j, B, ρ, T, Tr, Z, hN, hd, hO, hh, ho, hb, hT, h1⟩ := h
  refine GM1.mono (c_X6_note hN hd hO hn hx) (fun v S2 k => ?_)
  rw [if_neg hc] at k
  exact k

theorem q_sum {w : gW} {l : Launch} {S : Nat → va_E} {ty pl dg : Int} {D : SD} (h : AD w ty pl dg D S) {x : Int} (x0 : 0 ≤ x) (x4 : x ≤ 4) : GM1 w l yX6_sum wsX6_sum { frames := 2, cells := 0, slots := 0, locals := 46 } [.ref (gw_ad w 0), vI x] S
    (fun v S2 => v = vL (sumZ D x) ∧ S2 = S) := by
  obtain ⟨pc, j, B, ρ, T, Tr, Z, hN, hd, hO, hh, ho, hb, hT, h1⟩ := h
  refine GM1.mono (c_X6_sum hN hd hO (x := x) ⟨by omega, by omega⟩) (fun v S2 k => ?_)
  rw [if_pos ⟨x0, x4⟩] at k
  exact k

theorem x_sum {w : gW} {l : Launch} {S : Nat → va_E} {ty pl dg : Int} {D : SD} (h : AD w ty pl dg D S) {x : Int} (hx : inI x) (hc : ¬ (0 ≤ x ∧ x ≤ 4)) : GM1 w l yX6_sum wsX6_sum { frames := 2, cells := 0, slots := 0, locals := 46 } [.ref (gw_ad w 0), vI x] S
    (fun v S2 => v = vL (-1000001) ∧ S2 = S) := by
  obtain ⟨pc, j, B, ρ, T, Tr, Z, hN, hd, hO, hh, ho, hb, hT, h1⟩ := h
  refine GM1.mono (c_X6_sum hN hd hO hx) (fun v S2 k => ?_)
  rw [if_neg hc] at k
  exact k

theorem q_density {w : gW} {l : Launch} {S : Nat → va_E} {ty pl dg : Int} {D : SD} (h : AD w ty pl dg D S) {p : Int} (p0 : 0 ≤ p) (p1 : p < snP D) : GM1 w l yX6_density wsX6_density { frames := 2, cells := 0, slots := 0, locals := 45 } [.ref (gw_ad w 0), vI p] S
    (fun v S2 => v = .float (denZ (sP D p 0) (volZ (sP D p 1) (sP D p 2) (sP D p 3))) ∧ S2 = S) := by
  obtain ⟨pc, j, B, ρ, T, Tr, Z, hN, hd, hO, hh, ho, hb, hT, h1⟩ := h
  refine GM1.mono (c_X6_density hN hd hO (p := p) ⟨by omega, by have := ho.1.2.1.1; omega⟩) (fun v S2 k => ?_)
  rw [if_pos ⟨p0, p1⟩] at k
  exact k

theorem x_density {w : gW} {l : Launch} {S : Nat → va_E} {ty pl dg : Int} {D : SD} (h : AD w ty pl dg D S) {p : Int} (hp : inI p) (hc : ¬ (0 ≤ p ∧ p < snP D)) : GM1 w l yX6_density wsX6_density { frames := 2, cells := 0, slots := 0, locals := 45 } [.ref (gw_ad w 0), vI p] S
    (fun v S2 => v = .float 3212836864 ∧ S2 = S) := by
  obtain ⟨pc, j, B, ρ, T, Tr, Z, hN, hd, hO, hh, ho, hb, hT, h1⟩ := h
  refine GM1.mono (c_X6_density hN hd hO hp) (fun v S2 k => ?_)
  rw [if_neg hc] at k
  exact k

theorem q_fingerprint {w : gW} {l : Launch} {S : Nat → va_E} {ty pl dg : Int} {D : SD} (h : AD w ty pl dg D S)  : GM1 w l yX6_fingerprint wsX6_fingerprint { frames := 6, cells := 0, slots := 0, locals := 125 } [.ref (gw_ad w 0)] S
    (fun v S2 => v = vL (fpZ D) ∧ S2 = S) := by
  obtain ⟨pc, j, B, ρ, T, Tr, Z, hN, hd, hO, hh, ho, hb, hT, h1⟩ := h
  refine GM1.mono (c_X6_fingerprint hN hd hO) (fun v S2 k => ?_)
  exact k

theorem x_set {w : gW} {l : Launch} {S : Nat → va_E} {ty pl dg : Int} {D : SD} (h : AD w ty pl dg D S) {i x : Int} (hi : inI i) (hx : inI x) (hc : ¬ setOK i x) : GM1 w l yX6_set wsX6_set { frames := 5, cells := 0, slots := 0, locals := 111 } [.ref (gw_ad w 0), vI i, vI x] S
    (fun v S2 => v = vI (-1000001) ∧ S2 = S) := by
  obtain ⟨pc, j, B, ρ, T, Tr, Z, hN, hd, hO, hh, ho, hb, hT, h1⟩ := h
  refine GM1.mono (c_X6_set hN hd hO hh.c hi hx) (fun v S2 k => ?_)
  rw [if_neg hc] at k
  exact k

theorem x_load {w : gW} {l : Launch} {S : Nat → va_E} {ty pl dg : Int} {D : SD} (h : AD w ty pl dg D S) {x : Int} (hx : inI x) (hc : ¬ (0 ≤ x ∧ x ≤ 100000)) : GM1 w l yX6_load wsX6_load { frames := 5, cells := 0, slots := 0, locals := 111 } [.ref (gw_ad w 0), vI x] S
    (fun v S2 => v = vI (-1000001) ∧ S2 = S) := by
  obtain ⟨pc, j, B, ρ, T, Tr, Z, hN, hd, hO, hh, ho, hb, hT, h1⟩ := h
  refine GM1.mono (c_X6_load hN hd hO hh.c hx) (fun v S2 k => ?_)
  rw [if_neg hc] at k
  exact k

theorem x_tick {w : gW} {l : Launch} {S : Nat → va_E} {ty pl dg : Int} {D : SD} (h : AD w ty pl dg D S) {t : Int} (ht : inI t) (hc : ¬ (1 ≤ t ∧ t ≤ 100)) : GM1 w l yX6_tick wsX6_tick { frames := 5, cells := 0, slots := 0, locals := 111 } [.ref (gw_ad w 0), vI t] S
    (fun v S2 => v = vI (-1000001) ∧ S2 = S) := by
  obtain ⟨pc, j, B, ρ, T, Tr, Z, hN, hd, hO, hh, ho, hb, hT, h1⟩ := h
  refine GM1.mono (c_X6_tick hN hd hO hh.c ht) (fun v S2 k => ?_)
  rw [if_neg hc] at k
  exact k

theorem x_band {w : gW} {l : Launch} {S : Nat → va_E} {ty pl dg : Int} {D : SD} (h : AD w ty pl dg D S) {z m p : Int} (hz : inI z) (hm : inI m) (hp : inI p) (hc : ¬ ((0 ≤ z ∧ z ≤ 3) ∧ (1 ≤ m ∧ m ≤ 100000) ∧ 0 ≤ p ∧ p ≤ 100000)) : GM1 w l yX6_band wsX6_band { frames := 5, cells := 0, slots := 0, locals := 111 } [.ref (gw_ad w 0), vI z, vI m, vI p] S
    (fun v S2 => v = vI (-1000001) ∧ S2 = S) := by
  obtain ⟨pc, j, B, ρ, T, Tr, Z, hN, hd, hO, hh, ho, hb, hT, h1⟩ := h
  refine GM1.mono (c_X6_band hN hd hO hh.c hz hm hp) (fun v S2 k => ?_)
  rw [if_neg hc] at k
  exact k

theorem x_unband {w : gW} {l : Launch} {S : Nat → va_E} {ty pl dg : Int} {D : SD} (h : AD w ty pl dg D S) {z i : Int} (hz : inI z) (hi : inI i) (hc : ¬ (0 ≤ z ∧ z < 4 ∧ 0 ≤ i ∧ i < sC D z)) : GM1 w l yX6_unband wsX6_unband { frames := 5, cells := 0, slots := 0, locals := 111 } [.ref (gw_ad w 0), vI z, vI i] S
    (fun v S2 => v = vI (-1000001) ∧ S2 = S) := by
  obtain ⟨pc, j, B, ρ, T, Tr, Z, hN, hd, hO, hh, ho, hb, hT, h1⟩ := h
  refine GM1.mono (c_X6_unband hN hd hO hh.c hz hi) (fun v S2 k => ?_)
  rw [if_neg hc] at k
  exact k

theorem x_setExtra {w : gW} {l : Launch} {S : Nat → va_E} {ty pl dg : Int} {D : SD} (h : AD w ty pl dg D S) {z x : Int} (hz : inI z) (hx : inI x) (hc : ¬ ((0 ≤ z ∧ z ≤ 3) ∧ 0 ≤ x ∧ x ≤ 10000)) : GM1 w l yX6_setExtra wsX6_setExtra { frames := 5, cells := 0, slots := 0, locals := 111 } [.ref (gw_ad w 0), vI z, vI x] S
    (fun v S2 => v = vI (-1000001) ∧ S2 = S) := by
  obtain ⟨pc, j, B, ρ, T, Tr, Z, hN, hd, hO, hh, ho, hb, hT, h1⟩ := h
  refine GM1.mono (c_X6_setExtra hN hd hO hh.c hz hx) (fun v S2 k => ?_)
  rw [if_neg hc] at k
  exact k

theorem x_type {w : gW} {l : Launch} {S : Nat → va_E} {ty pl dg : Int} {D : SD} (h : AD w ty pl dg D S) {c : Int} (hc : inI c) (h2 : ¬ (32 ≤ c ∧ c ≤ 126)) : GM1 w l yX6_type wsX6_type { frames := 1, cells := 0, slots := 0, locals := 22 } [.ref (gw_ad w 0), vI c] S
    (fun v S2 => v = vI (-1000001) ∧ S2 = S) := by
  obtain ⟨pc, j, B, ρ, T, Tr, Z, hN, hd, hO, hh, ho, hb, hT, h1⟩ := h
  refine GM1.mono (c_X6_type hN hd hO hh.c hc) (fun v S2 k => ?_)
  rw [if_neg h2] at k
  exact k

theorem x_take {w : gW} {l : Launch} {S : Nat → va_E} {ty pl dg : Int} {D : SD} (h : AD w ty pl dg D S) {a b c z : Int} (ha : inI a) (hb1 : inI b) (hc1 : inI c) (hz : inI z) (hc : ¬ (((1 ≤ a ∧ a ≤ 2000) ∧ (1 ≤ b ∧ b ≤ 2000) ∧ (1 ≤ c ∧ c ≤ 2000)) ∧ 0 ≤ z ∧ z ≤ 3)) : GM1 w l yX6_take wsX6_take { frames := 5, cells := 0, slots := 0, locals := 131 } [.ref (gw_ad w 0), vI a, vI b, vI c, vI z] S
    (fun v S2 => v = vI (-1000001) ∧ S2 = S) := by
  obtain ⟨pc, j, B, ρ, T, Tr, Z, hN, hd, hO, hh, ho, hb, hT, h1⟩ := h
  refine GM1.mono (c_X6_take hN hd hO hh.c ha hb1 hc1 hz) (fun v S2 k => ?_)
  rw [if_neg hc] at k
  exact k

theorem x_quote {w : gW} {l : Launch} {S : Nat → va_E} {ty pl dg : Int} {D : SD} (h : AD w ty pl dg D S) {m a b c z : Int} (hm : inI m) (ha : inI a) (hb1 : inI b) (hc1 : inI c) (hz : inI z) (hc : ¬ ((1 ≤ m ∧ m ≤ 100000) ∧ ((1 ≤ a ∧ a ≤ 2000) ∧ (1 ≤ b ∧ b ≤ 2000) ∧ (1 ≤ c ∧ c ≤ 2000)) ∧ 0 ≤ z ∧ z ≤ 3)) : GM1 w l yX6_quote wsX6_quote { frames := 6, cells := 0, slots := 0, locals := 151 } [.ref (gw_ad w 0), vI m, vI a, vI b, vI c, vI z] S
    (fun v S2 => v = vI (-1000001) ∧ S2 = S) := by
  obtain ⟨pc, j, B, ρ, T, Tr, Z, hN, hd, hO, hh, ho, hb, hT, h1⟩ := h
  refine GM1.mono (c_X6_quote hN hd hO hm ha hb1 hc1 hz) (fun v S2 k => ?_)
  rw [if_neg hc] at k
  exact k

theorem s_quote {w : gW} {l : Launch} {S : Nat → va_E} {ty pl dg : Int} {D : SD} (h : AD w ty pl dg D S) {m a b c z : Int} (hm : 1 ≤ m ∧ m ≤ 100000) (ha : 1 ≤ a ∧ a ≤ 2000) (hb1 : 1 ≤ b ∧ b ≤ 2000) (hc1 : 1 ≤ c ∧ c ≤ 2000) (hz : 0 ≤ z ∧ z ≤ 3) (hc : ¬ 0 < sC D z) : GM1 w l yX6_quote wsX6_quote { frames := 6, cells := 0, slots := 0, locals := 151 } [.ref (gw_ad w 0), vI m, vI a, vI b, vI c, vI z] S
    (fun v S2 => v = vI (-1000002) ∧ S2 = S) := by
  obtain ⟨pc, j, B, ρ, T, Tr, Z, hN, hd, hO, hh, ho, hb, hT, h1⟩ := h
  refine GM1.mono (c_X6_quote hN hd hO (wt := m) (a := a) (b := b) (c := c) (z := z) ⟨by omega, by omega⟩ ⟨by omega, by omega⟩ ⟨by omega, by omega⟩ ⟨by omega, by omega⟩ ⟨by omega, by omega⟩) (fun v S2 k => ?_)
  rw [if_pos ⟨hm, ⟨ha, hb1, hc1⟩, hz⟩, if_neg hc] at k
  exact k

theorem x_dispute {w : gW} {l : Launch} {S : Nat → va_E} {ty pl dg : Int} {D : SD} (h : AD w ty pl dg D S) {p x y : Int} (hp : inI p) (hx : inI x) (hy : inI y) (hc : ¬ (((0 ≤ p ∧ p < snP D) ∧ 0 ≤ x ∧ x ≤ 3) ∧ 1 ≤ y ∧ y ≤ (if x = 0 then 100000 else 2000))) : GM1 w l yX6_dispute wsX6_dispute { frames := 6, cells := 0, slots := 0, locals := 155 } [.ref (gw_ad w 0), vI p, vI x, vI y] S
    (fun v S2 => v = vI (-1000001) ∧ S2 = S) := by
  obtain ⟨pc, j, B, ρ, T, Tr, Z, hN, hd, hO, hh, ho, hb, hT, h1⟩ := h
  refine GM1.mono (c_X6_dispute hN hd hO hh.c hp hx hy) (fun v S2 k => ?_)
  rw [if_neg hc] at k
  exact k

theorem s_dispute {w : gW} {l : Launch} {S : Nat → va_E} {ty pl dg : Int} {D : SD} (h : AD w ty pl dg D S) {p x y : Int} (p0 : 0 ≤ p) (p1 : p < snP D) (x0 : 0 ≤ x) (x3 : x ≤ 3) (y0 : 1 ≤ y) (y1 : y ≤ (if x = 0 then 100000 else 2000)) (hc : ¬ (openZ D p = -1000009 ∧ 0 < sC D (sP D p 4))) : GM1 w l yX6_dispute wsX6_dispute { frames := 6, cells := 0, slots := 0, locals := 155 } [.ref (gw_ad w 0), vI p, vI x, vI y] S
    (fun v S2 => v = vI (-1000002) ∧ S2 = S) := by
  obtain ⟨pc, j, B, ρ, T, Tr, Z, hN, hd, hO, hh, ho, hb, hT, h1⟩ := h
  refine GM1.mono (c_X6_dispute hN hd hO hh.c (p := p) (x := x) (y := y) ⟨by omega, by have := ho.1.2.1.1; omega⟩ ⟨by omega, by omega⟩ ⟨by omega, by split at y1 <;> omega⟩) (fun v S2 k => ?_)
  rw [if_pos ⟨⟨⟨p0, p1⟩, x0, x3⟩, y0, y1⟩, if_neg hc] at k
  exact k

theorem f_dispute {w : gW} {l : Launch} {S : Nat → va_E} {ty pl dg : Int} {D : SD} (h : AD w ty pl dg D S) {p x y : Int} (p0 : 0 ≤ p) (p1 : p < snP D) (x0 : 0 ≤ x) (x3 : x ≤ 3) (y0 : 1 ≤ y) (y1 : y ≤ (if x = 0 then 100000 else 2000)) (hc : openZ D p = -1000009 ∧ 0 < sC D (sP D p 4)) (hn : ¬ snN D < 20) : GM1 w l yX6_dispute wsX6_dispute { frames := 6, cells := 0, slots := 0, locals := 155 } [.ref (gw_ad w 0), vI p, vI x, vI y] S
    (fun v S2 => v = vI (-1000003) ∧ S2 = S) := by
  obtain ⟨pc, j, B, ρ, T, Tr, Z, hN, hd, hO, hh, ho, hb, hT, h1⟩ := h
  refine GM1.mono (c_X6_dispute hN hd hO hh.c (p := p) (x := x) (y := y) ⟨by omega, by have := ho.1.2.1.1; omega⟩ ⟨by omega, by omega⟩ ⟨by omega, by split at y1 <;> omega⟩) (fun v S2 k => ?_)
  rw [if_pos ⟨⟨⟨p0, p1⟩, x0, x3⟩, y0, y1⟩, if_pos hc, if_neg hn] at k
  exact k

theorem q_dispute {w : gW} {l : Launch} {S : Nat → va_E} {ty pl dg : Int} {D : SD} (h : AD w ty pl dg D S) {p x y : Int} (p0 : 0 ≤ p) (p1 : p < snP D) (x0 : 0 ≤ x) (x3 : x ≤ 3) (y0 : 1 ≤ y) (y1 : y ≤ (if x = 0 then 100000 else 2000)) (hc : openZ D p = -1000009 ∧ 0 < sC D (sP D p 4)) (hn : snN D < 20) : GM1 w l yX6_dispute wsX6_dispute { frames := 6, cells := 0, slots := 0, locals := 155 } [.ref (gw_ad w 0), vI p, vI x, vI y] S
    (fun v S2 => v = vI (snN D) ∧ ∃ D2, AD w ty pl dg D2 S2 ∧ sG D2 = sG D ∧ sC D2 = sC D ∧ snP D2 = snP D ∧ snN D2 = snN D + 1 ∧ snR D2 = snR D) := by
  obtain ⟨pc, j, B, ρ, T, Tr, Z, hN, hd, hO, hh, ho, hb, hT, h1⟩ := h
  refine GM1.mono (c_X6_dispute hN hd hO hh.c (p := p) (x := x) (y := y) ⟨by omega, by have := ho.1.2.1.1; omega⟩ ⟨by omega, by omega⟩ ⟨by omega, by split at y1 <;> omega⟩) (fun v S2 k => ?_)
  rw [if_pos ⟨⟨⟨p0, p1⟩, x0, x3⟩, y0, y1⟩, if_pos hc, if_pos hn] at k
  exact ⟨k.1, _, ad_act hN hO hh hb hT h1 k.2 (ok_disp ho ⟨p0, p1⟩ ⟨x0, x3⟩ ⟨y0, y1⟩ hc.2 hn hc.1), rfl, rfl, rfl, rfl, rfl⟩

theorem x_settle1 {w : gW} {l : Launch} {S : Nat → va_E} {ty pl dg : Int} {D : SD} (h : AD w ty pl dg D S) {n : Int} (hn : inI n) (hc : ¬ (0 ≤ n ∧ n < snN D)) : GM1 w l yX6_settle wsX6_settle { frames := 5, cells := 0, slots := 0, locals := 111 } [.ref (gw_ad w 0), vI n, vI 1] S
    (fun v S2 => v = vI (-1000001) ∧ S2 = S) := by
  obtain ⟨pc, j, B, ρ, T, Tr, Z, hN, hd, hO, hh, ho, hb, hT, h1⟩ := h
  refine GM1.mono (c_X6_settle hN hd hO hh.c (n := n) (a := true) hn) (fun v S2 k => ?_)
  rw [if_neg hc] at k
  exact k

theorem x_settle0 {w : gW} {l : Launch} {S : Nat → va_E} {ty pl dg : Int} {D : SD} (h : AD w ty pl dg D S) {n : Int} (hn : inI n) (hc : ¬ (0 ≤ n ∧ n < snN D)) : GM1 w l yX6_settle wsX6_settle { frames := 5, cells := 0, slots := 0, locals := 111 } [.ref (gw_ad w 0), vI n, vI 0] S
    (fun v S2 => v = vI (-1000001) ∧ S2 = S) := by
  obtain ⟨pc, j, B, ρ, T, Tr, Z, hN, hd, hO, hh, ho, hb, hT, h1⟩ := h
  refine GM1.mono (c_X6_settle hN hd hO hh.c (n := n) (a := false) hn) (fun v S2 k => ?_)
  rw [if_neg hc] at k
  exact k

theorem s_settle1 {w : gW} {l : Launch} {S : Nat → va_E} {ty pl dg : Int} {D : SD} (h : AD w ty pl dg D S) {n : Int} (n0 : 0 ≤ n) (n1 : n < snN D) (hc : ¬ sN D n 4 = 0) : GM1 w l yX6_settle wsX6_settle { frames := 5, cells := 0, slots := 0, locals := 111 } [.ref (gw_ad w 0), vI n, vI 1] S
    (fun v S2 => v = vI (-1000002) ∧ S2 = S) := by
  obtain ⟨pc, j, B, ρ, T, Tr, Z, hN, hd, hO, hh, ho, hb, hT, h1⟩ := h
  refine GM1.mono (c_X6_settle hN hd hO hh.c (n := n) (a := true) ⟨by omega, by have := ho.1.2.2.1.1; omega⟩) (fun v S2 k => ?_)
  rw [if_pos ⟨n0, n1⟩, if_neg hc] at k
  exact k

theorem q_settle1 {w : gW} {l : Launch} {S : Nat → va_E} {ty pl dg : Int} {D : SD} (h : AD w ty pl dg D S) {n : Int} (n0 : 0 ≤ n) (n1 : n < snN D) (hc : sN D n 4 = 0) : GM1 w l yX6_settle wsX6_settle { frames := 5, cells := 0, slots := 0, locals := 111 } [.ref (gw_ad w 0), vI n, vI 1] S
    (fun v S2 => v = vI (sP D (sN D n 0) 8 - sN D n 3) ∧ ∃ D2, AD w ty pl dg D2 S2 ∧ sG D2 = sG D ∧ (snP D2 = snP D ∧ snN D2 = snN D ∧ snR D2 = snR D) ∧ sP D2 (sN D n 0) 8 = sN D n 3 ∧ sN D2 n 4 = 1 ∧ sN D2 n 1 = sN D n 1 ∧ sN D2 n 2 = sN D n 2 ∧ sP D2 (sN D n 0) (sN D n 1) = sN D n 2) := by
  obtain ⟨pc, j, B, ρ, T, Tr, Z, hN, hd, hO, hh, ho, hb, hT, h1⟩ := h
  refine GM1.mono (c_X6_settle hN hd hO hh.c (n := n) (a := true) ⟨by omega, by have := ho.1.2.2.1.1; omega⟩) (fun v S2 k => ?_)
  rw [if_pos ⟨n0, n1⟩, if_pos hc, if_pos rfl] at k
  have hnt := (ho.2.2.2.1 n n0 n1).2
  have hnN := ho.1.2.2.1.1
  have o1 := (ho.1.2.2.1.2.2 n n0 n1).2.1
  obtain ⟨a1, -⟩ := acc_P (D := D) ⟨n0, (by omega : n < 20)⟩
  obtain ⟨b1, -, b3, -⟩ := acc_N (D := D) (n := n)
  refine ⟨by rw [← hnt.1.1]; exact k.1, _, ad_act hN hO hh hb hT h1 k.2 (ok_acc ho ⟨n0, n1⟩ hc), rfl, ⟨rfl, rfl, rfl⟩, ?_, b3, b1 n 1 (by decide) (by decide), b1 n 2 (by decide) (by decide), ?_⟩
  · rw [a1 8 (by decide) (by decide)]; exact hnt.1.1
  · rw [a1 _ o1.1 (by omega)]; exact hnt.1.2

theorem q_settle0 {w : gW} {l : Launch} {S : Nat → va_E} {ty pl dg : Int} {D : SD} (h : AD w ty pl dg D S) {n : Int} (n0 : 0 ≤ n) (n1 : n < snN D) (hc : sN D n 4 = 0) : GM1 w l yX6_settle wsX6_settle { frames := 5, cells := 0, slots := 0, locals := 111 } [.ref (gw_ad w 0), vI n, vI 0] S
    (fun v S2 => v = vI 0 ∧ ∃ D2, AD w ty pl dg D2 S2 ∧ sG D2 = sG D ∧ (snP D2 = snP D ∧ snN D2 = snN D ∧ snR D2 = snR D) ∧ sP D2 = sP D ∧ sN D2 n 4 = 2) := by
  obtain ⟨pc, j, B, ρ, T, Tr, Z, hN, hd, hO, hh, ho, hb, hT, h1⟩ := h
  refine GM1.mono (c_X6_settle hN hd hO hh.c (n := n) (a := false) ⟨by omega, by have := ho.1.2.2.1.1; omega⟩) (fun v S2 k => ?_)
  rw [if_pos ⟨n0, n1⟩, if_pos hc, if_neg Bool.false_ne_true] at k
  exact ⟨k.1, rejD D n, ad_act hN hO hh hb hT h1 k.2 (ok_rej ho ⟨n0, n1⟩ hc), rfl, ⟨rfl, rfl, rfl⟩, rfl, upd2_eq _ _ _ _⟩

theorem x_lighter {w : gW} {l : Launch} {S : Nat → va_E} {ty pl dg : Int} {D : SD} (h : AD w ty pl dg D S) {p : Int} (hp : inI p) (hc : ¬ (0 ≤ p ∧ p < snP D)) : GM1 w l yX6_lighter wsX6_lighter { frames := 6, cells := 0, slots := 0, locals := 151 } [.ref (gw_ad w 0), vI p] S
    (fun v S2 => v = vI (-1000001) ∧ S2 = S) := by
  obtain ⟨pc, j, B, ρ, T, Tr, Z, hN, hd, hO, hh, ho, hb, hT, h1⟩ := h
  refine GM1.mono (c_X6_lighter hN hd hO hp) (fun v S2 k => ?_)
  rw [if_neg hc] at k
  exact k

theorem x_shorter {w : gW} {l : Launch} {S : Nat → va_E} {ty pl dg : Int} {D : SD} (h : AD w ty pl dg D S) {p x : Int} (hp : inI p) (hx : inI x) (hc : ¬ ((0 ≤ p ∧ p < snP D) ∧ 1 ≤ x ∧ x ≤ 3)) : GM1 w l yX6_shorter wsX6_shorter { frames := 6, cells := 0, slots := 0, locals := 151 } [.ref (gw_ad w 0), vI p, vI x] S
    (fun v S2 => v = vI (-1000001) ∧ S2 = S) := by
  obtain ⟨pc, j, B, ρ, T, Tr, Z, hN, hd, hO, hh, ho, hb, hT, h1⟩ := h
  refine GM1.mono (c_X6_shorter hN hd hO hp hx) (fun v S2 k => ?_)
  rw [if_neg hc] at k
  exact k

theorem x_cheapest {w : gW} {l : Launch} {S : Nat → va_E} {ty pl dg : Int} {D : SD} (h : AD w ty pl dg D S) {p : Int} (hp : inI p) (hc : ¬ (0 ≤ p ∧ p < snP D)) : GM1 w l yX6_cheapest wsX6_cheapest { frames := 6, cells := 0, slots := 0, locals := 151 } [.ref (gw_ad w 0), vI p] S
    (fun v S2 => v = vI (-1000001) ∧ S2 = S) := by
  obtain ⟨pc, j, B, ρ, T, Tr, Z, hN, hd, hO, hh, ho, hb, hT, h1⟩ := h
  refine GM1.mono (c_X6_cheapest hN hd hO hp) (fun v S2 k => ?_)
  rw [if_neg hc] at k
  exact k

theorem s_lighter {w : gW} {l : Launch} {S : Nat → va_E} {ty pl dg : Int} {D : SD} (h : AD w ty pl dg D S) {p : Int} (p0 : 0 ≤ p) (p1 : p < snP D) (hc : ¬ 0 < sC D (sP D p 4)) : GM1 w l yX6_lighter wsX6_lighter { frames := 6, cells := 0, slots := 0, locals := 151 } [.ref (gw_ad w 0), vI p] S
    (fun v S2 => v = vI (-1000002) ∧ S2 = S) := by
  obtain ⟨pc, j, B, ρ, T, Tr, Z, hN, hd, hO, hh, ho, hb, hT, h1⟩ := h
  refine GM1.mono (c_X6_lighter hN hd hO (p := p) ⟨by omega, by have := ho.1.2.1.1; omega⟩) (fun v S2 k => ?_)
  rw [if_pos ⟨p0, p1⟩, if_neg hc] at k
  exact k

theorem s_shorter {w : gW} {l : Launch} {S : Nat → va_E} {ty pl dg : Int} {D : SD} (h : AD w ty pl dg D S) {p : Int} (p0 : 0 ≤ p) (p1 : p < snP D) (hc : ¬ 0 < sC D (sP D p 4)) : GM1 w l yX6_shorter wsX6_shorter { frames := 6, cells := 0, slots := 0, locals := 151 } [.ref (gw_ad w 0), vI p, vI 2] S
    (fun v S2 => v = vI (-1000002) ∧ S2 = S) := by
  obtain ⟨pc, j, B, ρ, T, Tr, Z, hN, hd, hO, hh, ho, hb, hT, h1⟩ := h
  refine GM1.mono (c_X6_shorter hN hd hO (p := p) (x := 2) ⟨by omega, by have := ho.1.2.1.1; omega⟩ ⟨by decide, by decide⟩) (fun v S2 k => ?_)
  rw [if_pos ⟨⟨p0, p1⟩, by decide, by decide⟩, if_neg hc] at k
  exact k

/-- what lighter(), shorter(), cheapest() answer, against prices -/
def ltS (D : SD) (p r : Int) : Prop := (r = -1000009 ∧ ∀ m, 1 ≤ m → m ≤ sP D p 0 → prW D (sP D p 0) (sP D p 1) (sP D p 2) (sP D p 3) (sP D p 4) ≤ prW D (m) (sP D p 1) (sP D p 2) (sP D p 3) (sP D p 4)) ∨ (0 < r ∧ r < sP D p 0 ∧ prW D (sP D p 0 - r) (sP D p 1) (sP D p 2) (sP D p 3) (sP D p 4) < prW D (sP D p 0) (sP D p 1) (sP D p 2) (sP D p 3) (sP D p 4) ∧ prW D (sP D p 0) (sP D p 1) (sP D p 2) (sP D p 3) (sP D p 4) ≤ prW D (sP D p 0 - r + 1) (sP D p 1) (sP D p 2) (sP D p 3) (sP D p 4))
def shS (D : SD) (p r : Int) : Prop := r = -1000009 ∨ (0 < r ∧ r < sP D p 2 ∧ prW D (sP D p 0) (sP D p 1) (sP D p 2 - r) (sP D p 3) (sP D p 4) < prW D (sP D p 0) (sP D p 1) (sP D p 2) (sP D p 3) (sP D p 4) ∧ prW D (sP D p 0) (sP D p 1) (sP D p 2) (sP D p 3) (sP D p 4) ≤ prW D (sP D p 0) (sP D p 1) (sP D p 2 - r + 1) (sP D p 3) (sP D p 4))
def chS (D : SD) (p r : Int) : Prop := (r = -1000009 ∧ ∀ y, 0 ≤ y → y < 4 → ¬ 0 < sC D y) ∨ (0 ≤ r ∧ r < 4 ∧ 0 < sC D r ∧ ∀ y, 0 ≤ y → y < 4 → 0 < sC D y → prW D (sP D p 0) (sP D p 1) (sP D p 2) (sP D p 3) r ≤ prW D (sP D p 0) (sP D p 1) (sP D p 2) (sP D p 3) y)

theorem q_lighter {w : gW} {l : Launch} {S : Nat → va_E} {ty pl dg : Int} {D : SD} (h : AD w ty pl dg D S) {p : Int} (p0 : 0 ≤ p) (p1 : p < snP D) (hc : 0 < sC D (sP D p 4)) : GM1 w l yX6_lighter wsX6_lighter { frames := 6, cells := 0, slots := 0, locals := 151 } [.ref (gw_ad w 0), vI p] S
    (fun v S2 => ∃ r, v = vI r ∧ ltS D p r ∧ AD w ty pl dg D S2) := by
  obtain ⟨pc, j, B, ρ, T, Tr, Z, hN, hd, hO, hh, ho, hb, hT, h1⟩ := h
  refine GM1.mono (c_X6_lighter hN hd hO (p := p) ⟨by omega, by have := ho.1.2.1.1; omega⟩) (fun v S2 k => ?_)
  rw [if_pos ⟨p0, p1⟩, if_pos hc] at k
  exact ⟨_, k.1, lt_spec ho Tr ⟨p0, p1⟩ hc, ad_tr hN hO hh hb hT h1 ho k.2.choose_spec.1 k.2.choose_spec.2⟩

theorem q_shorter {w : gW} {l : Launch} {S : Nat → va_E} {ty pl dg : Int} {D : SD} (h : AD w ty pl dg D S) {p : Int} (p0 : 0 ≤ p) (p1 : p < snP D) (hc : 0 < sC D (sP D p 4)) : GM1 w l yX6_shorter wsX6_shorter { frames := 6, cells := 0, slots := 0, locals := 151 } [.ref (gw_ad w 0), vI p, vI 2] S
    (fun v S2 => ∃ r, v = vI r ∧ shS D p r ∧ AD w ty pl dg D S2) := by
  obtain ⟨pc, j, B, ρ, T, Tr, Z, hN, hd, hO, hh, ho, hb, hT, h1⟩ := h
  refine GM1.mono (c_X6_shorter hN hd hO (p := p) (x := 2) ⟨by omega, by have := ho.1.2.1.1; omega⟩ ⟨by decide, by decide⟩) (fun v S2 k => ?_)
  rw [if_pos ⟨⟨p0, p1⟩, by decide, by decide⟩, if_pos hc] at k
  exact ⟨_, k.1, sh_spec ho Tr ⟨p0, p1⟩, ad_tr hN hO hh hb hT h1 ho k.2.choose_spec.1 k.2.choose_spec.2⟩

theorem q_cheapest {w : gW} {l : Launch} {S : Nat → va_E} {ty pl dg : Int} {D : SD} (h : AD w ty pl dg D S) {p : Int} (p0 : 0 ≤ p) (p1 : p < snP D) : GM1 w l yX6_cheapest wsX6_cheapest { frames := 6, cells := 0, slots := 0, locals := 151 } [.ref (gw_ad w 0), vI p] S
    (fun v S2 => ∃ r, v = vI r ∧ chS D p r ∧ AD w ty pl dg D S2) := by
  obtain ⟨pc, j, B, ρ, T, Tr, Z, hN, hd, hO, hh, ho, hb, hT, h1⟩ := h
  refine GM1.mono (c_X6_cheapest hN hd hO (p := p) ⟨by omega, by have := ho.1.2.1.1; omega⟩) (fun v S2 k => ?_)
  rw [if_pos ⟨p0, p1⟩] at k
  exact ⟨_, k.1, che_spec ho Tr ⟨p0, p1⟩, ad_tr hN hO hh hb hT h1 ho k.2.choose_spec.1 k.2.choose_spec.2⟩

theorem q_quote {w : gW} {l : Launch} {S : Nat → va_E} {ty pl dg : Int} {D : SD} (h : AD w ty pl dg D S) {m a b c z : Int} (hm : 1 ≤ m ∧ m ≤ 100000) (ha : 1 ≤ a ∧ a ≤ 2000) (hb1 : 1 ≤ b ∧ b ≤ 2000) (hc1 : 1 ≤ c ∧ c ≤ 2000) (hz : 0 ≤ z ∧ z ≤ 3) (hc : 0 < sC D z) : GM1 w l yX6_quote wsX6_quote { frames := 6, cells := 0, slots := 0, locals := 151 } [.ref (gw_ad w 0), vI m, vI a, vI b, vI c, vI z] S
    (fun v S2 => v = vI (prW D m a b c z) ∧ AD w ty pl dg D S2) := by
  obtain ⟨pc, j, B, ρ, T, Tr, Z, hN, hd, hO, hh, ho, hb, hT, h1⟩ := h
  refine GM1.mono (c_X6_quote hN hd hO (wt := m) (a := a) (b := b) (c := c) (z := z) ⟨by omega, by omega⟩ ⟨by omega, by omega⟩ ⟨by omega, by omega⟩ ⟨by omega, by omega⟩ ⟨by omega, by omega⟩) (fun v S2 k => ?_)
  rw [if_pos ⟨hm, ⟨ha, hb1, hc1⟩, hz⟩, if_pos hc] at k
  obtain ⟨d0, d1, d2, d3, d4⟩ := dsc_v Tr 0 m a b c z
  exact ⟨by rw [← prW_of ho.1.1.2.2.1.1.2 d0 d1 d2 d3 d4]; exact k.1, ad_tr hN hO hh hb hT h1 ho k.2.choose_spec.1 k.2.choose_spec.2⟩

theorem q_set {w : gW} {l : Launch} {S : Nat → va_E} {ty pl dg : Int} {D : SD} (h : AD w ty pl dg D S) {i x : Int} (hs : setOK i x) : GM1 w l yX6_set wsX6_set { frames := 5, cells := 0, slots := 0, locals := 111 } [.ref (gw_ad w 0), vI i, vI x] S
    (fun v S2 => v = vI (sF D i) ∧ ∃ D2, AD w ty pl dg D2 S2 ∧ sF D2 i = x ∧ sG D2 = sG D ∧ sm35 D D2) := by
  obtain ⟨pc, j, B, ρ, T, Tr, Z, hN, hd, hO, hh, ho, hb, hT, h1⟩ := h
  refine GM1.mono (c_X6_set hN hd hO hh.c (i := i) (x := x) ⟨by have := hs.1.1; omega, by have := hs.1.2; omega⟩ ⟨by have := hs.2; have := loS_b i.toNat; omega, by have := hs.2; have := hiS_b i.toNat; omega⟩) (fun v S2 k => ?_)
  rw [if_pos hs] at k
  exact ⟨k.1, _, ad_act hN hO hh hb hT h1 k.2 (ok_set ho hs), updZ_eq _ _ _, rfl, rfl, rfl, rfl, rfl⟩

theorem q_load {w : gW} {l : Launch} {S : Nat → va_E} {ty pl dg : Int} {D : SD} (h : AD w ty pl dg D S) {x : Int} (x0 : 0 ≤ x) (x1 : x ≤ 100000) : GM1 w l yX6_load wsX6_load { frames := 5, cells := 0, slots := 0, locals := 111 } [.ref (gw_ad w 0), vI x] S
    (fun v S2 => v = vI (sG D 0) ∧ ∃ D2, AD w ty pl dg D2 S2 ∧ sF D2 = sF D ∧ sG D2 = scLoad (sG D) x ∧ sm35 D D2) := by
  obtain ⟨pc, j, B, ρ, T, Tr, Z, hN, hd, hO, hh, ho, hb, hT, h1⟩ := h
  refine GM1.mono (c_X6_load hN hd hO hh.c (x := x) ⟨by omega, by omega⟩) (fun v S2 k => ?_)
  rw [if_pos ⟨x0, x1⟩] at k
  exact ⟨k.1, _, ad_act hN hO hh hb hT h1 k.2 (ok_load ho x0 x1), rfl, rfl, rfl, rfl, rfl, rfl⟩

theorem q_tick {w : gW} {l : Launch} {S : Nat → va_E} {ty pl dg : Int} {D : SD} (h : AD w ty pl dg D S) (ht : sG D 1 ≤ 99997) : GM1 w l yX6_tick wsX6_tick { frames := 5, cells := 0, slots := 0, locals := 111 } [.ref (gw_ad w 0), vI 3] S
    (fun v S2 => ∃ D2, v = vI (scRaw (sF D2) (sG D2)) ∧ AD w ty pl dg D2 S2 ∧ sF D2 = sF D ∧ sG D2 = tkN (sF D) (sG D) 3 ∧ sm35 D D2) := by
  obtain ⟨pc, j, B, ρ, T, Tr, Z, hN, hd, hO, hh, ho, hb, hT, h1⟩ := h
  refine GM1.mono (c_X6_tick hN hd hO hh.c (t := 3) ⟨by decide, by decide⟩) (fun v S2 k => ?_)
  rw [if_pos ⟨by decide, by decide⟩, if_pos (by omega)] at k
  exact ⟨_, k.1, ad_act hN hO hh hb hT h1 k.2 (ok_tick ho 3 (by omega)), rfl, rfl, rfl, rfl, rfl, rfl⟩

theorem q_zero {w : gW} {l : Launch} {S : Nat → va_E} {ty pl dg : Int} {D : SD} (h : AD w ty pl dg D S) (h7 : scSteady (sF D) (sG D) = true) (h8 : scNear (sF D) (sG D) = true) : GM1 w l yX6_zero wsX6_zero { frames := 5, cells := 0, slots := 0, locals := 111 } [.ref (gw_ad w 0)] S
    (fun v S2 => v = vI (sG D 2) ∧ ∃ D2, AD w ty pl dg D2 S2 ∧ sF D2 = sF D ∧ sG D2 = updZ (updZ (sG D) 2 (scRaw (sF D) (sG D))) 3 0 ∧ sm35 D D2) := by
  obtain ⟨pc, j, B, ρ, T, Tr, Z, hN, hd, hO, hh, ho, hb, hT, h1⟩ := h
  refine GM1.mono (c_X6_zero hN hd hO hh.c) (fun v S2 k => ?_)
  rw [if_pos ⟨h7, h8⟩] at k
  exact ⟨k.1, _, ad_act hN hO hh hb hT h1 k.2 (ok_zero ho), rfl, rfl, rfl, rfl, rfl, rfl⟩

theorem s_zero {w : gW} {l : Launch} {S : Nat → va_E} {ty pl dg : Int} {D : SD} (h : AD w ty pl dg D S) (hc : ¬ (scSteady (sF D) (sG D) = true ∧ scNear (sF D) (sG D) = true)) : GM1 w l yX6_zero wsX6_zero { frames := 5, cells := 0, slots := 0, locals := 111 } [.ref (gw_ad w 0)] S
    (fun v S2 => v = vI (-1000002) ∧ S2 = S) := by
  obtain ⟨pc, j, B, ρ, T, Tr, Z, hN, hd, hO, hh, ho, hb, hT, h1⟩ := h
  refine GM1.mono (c_X6_zero hN hd hO hh.c) (fun v S2 k => ?_)
  rw [if_neg hc] at k
  exact k

theorem q_tare {w : gW} {l : Launch} {S : Nat → va_E} {ty pl dg : Int} {D : SD} (h : AD w ty pl dg D S) (hc : scSteady (sF D) (sG D) = true ∧ scOver (sF D) (sG D) = false ∧ 0 ≤ scGross (sF D) (sG D)) : GM1 w l yX6_tare wsX6_tare { frames := 5, cells := 0, slots := 0, locals := 111 } [.ref (gw_ad w 0)] S
    (fun v S2 => v = vI (scGross (sF D) (sG D)) ∧ ∃ D2, AD w ty pl dg D2 S2 ∧ sF D2 = sF D ∧ sG D2 = updZ (sG D) 3 (scGross (sF D) (sG D)) ∧ sm35 D D2) := by
  obtain ⟨pc, j, B, ρ, T, Tr, Z, hN, hd, hO, hh, ho, hb, hT, h1⟩ := h
  refine GM1.mono (c_X6_tare hN hd hO hh.c) (fun v S2 k => ?_)
  rw [if_pos hc] at k
  exact ⟨k.1, _, ad_act hN hO hh hb hT h1 k.2 (ok_tare ho hc.2.1 hc.2.2), rfl, rfl, rfl, rfl, rfl, rfl⟩

theorem s_tare {w : gW} {l : Launch} {S : Nat → va_E} {ty pl dg : Int} {D : SD} (h : AD w ty pl dg D S) (hc : ¬ (scSteady (sF D) (sG D) = true ∧ scOver (sF D) (sG D) = false ∧ 0 ≤ scGross (sF D) (sG D))) : GM1 w l yX6_tare wsX6_tare { frames := 5, cells := 0, slots := 0, locals := 111 } [.ref (gw_ad w 0)] S
    (fun v S2 => v = vI (-1000002) ∧ S2 = S) := by
  obtain ⟨pc, j, B, ρ, T, Tr, Z, hN, hd, hO, hh, ho, hb, hT, h1⟩ := h
  refine GM1.mono (c_X6_tare hN hd hO hh.c) (fun v S2 k => ?_)
  rw [if_neg hc] at k
  exact k

theorem s_unrule {w : gW} {l : Launch} {S : Nat → va_E} {ty pl dg : Int} {D : SD} (h : AD w ty pl dg D S) (hc : ¬ 1 ≤ snR D) : GM1 w l yX6_unrule wsX6_unrule { frames := 5, cells := 0, slots := 0, locals := 111 } [.ref (gw_ad w 0)] S
    (fun v S2 => v = vI (-1000002) ∧ S2 = S) := by
  obtain ⟨pc, j, B, ρ, T, Tr, Z, hN, hd, hO, hh, ho, hb, hT, h1⟩ := h
  refine GM1.mono (c_X6_unrule hN hd hO hh.c) (fun v S2 k => ?_)
  rw [if_neg hc] at k
  exact k

theorem s_take {w : gW} {l : Launch} {S : Nat → va_E} {ty pl dg : Int} {D : SD} (h : AD w ty pl dg D S) {a b c z : Int} (ha : 1 ≤ a ∧ a ≤ 2000) (hb1 : 1 ≤ b ∧ b ≤ 2000) (hc1 : 1 ≤ c ∧ c ≤ 2000) (hz : 0 ≤ z ∧ z ≤ 3) (hc : ¬ (scSteady (sF D) (sG D) = true ∧ scOver (sF D) (sG D) = false ∧ 1 ≤ scGross (sF D) (sG D) - sG D 3 ∧ 0 < sC D z)) : GM1 w l yX6_take wsX6_take { frames := 5, cells := 0, slots := 0, locals := 131 } [.ref (gw_ad w 0), vI a, vI b, vI c, vI z] S
    (fun v S2 => v = vI (-1000002) ∧ S2 = S) := by
  obtain ⟨pc, j, B, ρ, T, Tr, Z, hN, hd, hO, hh, ho, hb, hT, h1⟩ := h
  refine GM1.mono (c_X6_take hN hd hO hh.c (a := a) (b := b) (c := c) (z := z) ⟨by omega, by omega⟩ ⟨by omega, by omega⟩ ⟨by omega, by omega⟩ ⟨by omega, by omega⟩) (fun v S2 k => ?_)
  rw [if_pos ⟨⟨ha, hb1, hc1⟩, hz⟩, if_neg hc] at k
  exact k

theorem q_take {w : gW} {l : Launch} {S : Nat → va_E} {ty pl dg : Int} {D : SD} (h : AD w ty pl dg D S) {a b c z : Int} (ha : 1 ≤ a ∧ a ≤ 2000) (hb1 : 1 ≤ b ∧ b ≤ 2000) (hc1 : 1 ≤ c ∧ c ≤ 2000) (hz : 0 ≤ z ∧ z ≤ 3) (hc : scSteady (sF D) (sG D) = true ∧ scOver (sF D) (sG D) = false ∧ 1 ≤ scGross (sF D) (sG D) - sG D 3 ∧ 0 < sC D z) (hp : snP D < 30) : GM1 w l yX6_take wsX6_take { frames := 5, cells := 0, slots := 0, locals := 131 } [.ref (gw_ad w 0), vI a, vI b, vI c, vI z] S
    (fun v S2 => v = vI (snP D) ∧ ∃ D2, AD w ty pl dg D2 S2 ∧ sF D2 = sF D ∧ sG D2 = sG D ∧ (sC D2 = sC D ∧ snP D2 = snP D + 1 ∧ snN D2 = snN D ∧ snR D2 = snR D) ∧ sP D2 (snP D) 0 = scGross (sF D) (sG D) - sG D 3 ∧ sP D2 (snP D) 8 = prW D2 (scGross (sF D) (sG D) - sG D 3) a b c z) := by
  obtain ⟨pc, j, B, ρ, T, Tr, Z, hN, hd, hO, hh, ho, hb, hT, h1⟩ := h
  refine GM1.mono (c_X6_take hN hd hO hh.c (a := a) (b := b) (c := c) (z := z) ⟨by omega, by omega⟩ ⟨by omega, by omega⟩ ⟨by omega, by omega⟩ ⟨by omega, by omega⟩) (fun v S2 k => ?_)
  rw [if_pos ⟨⟨ha, hb1, hc1⟩, hz⟩, if_pos hc, if_pos hp] at k
  have hk := ok_take ho ha hb1 hc1 hz.1 hz.2 hc.2.2.2 hp hc.2.1 hc.2.2.1
  have hn := ho.1.1.2.2.1.1.2
  obtain ⟨d0, d1, d2, d3, d4⟩ := dsc_v (sP D) (snP D) (scGross (sF D) (sG D) - sG D 3) a b c z
  refine ⟨k.1, _, ad_act hN hO hh hb hT h1 k.2 hk.1, rfl, rfl, ⟨rfl, rfl, rfl, rfl⟩, ?_, ?_⟩
  · show prD D (dsc (sP D) (snP D) (scGross (sF D) (sG D) - sG D 3) a b c z) (snP D) (snP D) 0 = _
    rw [(prD_cols hn _ _).1 0 (by decide)]
    exact d0
  · exact prW_of (D := D) hn d0 d1 d2 d3 d4

theorem q_band {w : gW} {l : Launch} {S : Nat → va_E} {ty pl dg : Int} {D : SD} (h : AD w ty pl dg D S) {z m p : Int} (hz : 0 ≤ z ∧ z ≤ 3) (hm : 1 ≤ m ∧ m ≤ 100000) (hp : 0 ≤ p ∧ p ≤ 100000) : GM1 w l yX6_band wsX6_band { frames := 5, cells := 0, slots := 0, locals := 111 } [.ref (gw_ad w 0), vI z, vI m, vI p] S
    (fun v S2 => ∃ r, v = vI r ∧ ((0 ≤ r ∧ r < 6) ∨ r = -1000003) ∧ ∃ D2, AD w ty pl dg D2 S2 ∧ sG D2 = sG D ∧ snP D2 = snP D ∧ snN D2 = snN D ∧ snR D2 = snR D) := by
  obtain ⟨pc, j, B, ρ, T, Tr, Z, hN, hd, hO, hh, ho, hb, hT, h1⟩ := h
  refine GM1.mono (c_X6_band hN hd hO hh.c (z := z) (lm := m) (p := p) ⟨by omega, by omega⟩ ⟨by omega, by omega⟩ ⟨by omega, by omega⟩) (fun v S2 k => ?_)
  rw [if_pos ⟨hz, hm, hp⟩] at k
  have hbi := bidx_b (L := sL D) (x := m) (ho.1.1.2.1.1 z hz.1 (by omega)).1
  have hC := ho.1.1.2.1.1 z hz.1 (by omega)
  by_cases hc : (bidx (sC D) (sL D) z m < sC D z ∧ sL D z (bidx (sC D) (sL D) z m) = m) ∨ sC D z < 6
  · rw [if_pos hc] at k
    refine ⟨_, k.1, Or.inl ⟨hbi.1, ?_⟩, _, ad_act hN hO hh hb hT h1 k.2 (ok_band ho hz.1 (by omega) hm hp hc), ?_, ?_, ?_, ?_⟩
    · rcases hc with hc | hc <;> omega
    · unfold bandD; split <;> rfl
    · unfold bandD; split <;> rfl
    · unfold bandD; split <;> rfl
    · unfold bandD; split <;> rfl
  · rw [if_neg hc] at k
    rw [k.2]
    exact ⟨_, k.1, Or.inr rfl, D, ⟨pc, j, B, ρ, T, Tr, Z, hN, hd, hO, hh, ho, hb, hT, h1⟩, rfl, rfl, rfl, rfl⟩

theorem q_unband {w : gW} {l : Launch} {S : Nat → va_E} {D : SD} (h : AD w 0 0 0 D S) {z i : Int} (z0 : 0 ≤ z) (z3 : z < 4) (i0 : 0 ≤ i) (i1 : i < sC D z) : GM1 w l yX6_unband wsX6_unband { frames := 5, cells := 0, slots := 0, locals := 111 } [.ref (gw_ad w 0), vI z, vI i] S
    (fun v S2 => v = vI (sC D z - 1) ∧ UB w D S2) := by
  obtain ⟨pc, j, B, ρ, T, Tr, Z, hN, hd, hO, hh, ho, hb, hT, h1⟩ := h
  refine GM1.mono (c_X6_unband hN hd hO hh.c (z := z) (i := i) ⟨by omega, by omega⟩ ⟨by omega, by have := ho.1.1.2.1.1 z z0 z3; omega⟩) (fun v S2 k => ?_)
  rw [if_pos ⟨z0, z3, i0, i1⟩] at k
  have hk := ok_unband ho z0 z3 i0 i1
  refine ⟨k.1, _, _, _, _, _, _, _, _, hN, ?_, k.2.1, ⟨hk.1, hO.2⟩, hh.act hO.1, ⟨ho, ?_⟩, hb, hT, h1⟩
  · unfold pcN; split <;> omega
  · have e : jP (jN j) = j := by
      have := hh.2.1
      unfold jP jN
      split <;> split <;> omega
    rw [e]
    have e2 : pastN j Z D j = cpyD D (Z j) := up_eq _ _ _
    rw [e2]
    exact ag_cpy D (Z j)

theorem q_undo {w : gW} {l : Launch} {S : Nat → va_E} {D : SD} (h : UB w D S)  : GM1 w l yX6_undo wsX6_undo { frames := 4, cells := 0, slots := 0, locals := 91 } [.ref (gw_ad w 0)] S
    (fun v S2 => ∃ r, v = vI r ∧ (0 ≤ r ∧ r ≤ 4) ∧ ∃ D2, AD w 0 0 0 D2 S2 ∧ agD D D2) := by
  obtain ⟨pc, j, B, ρ, T, Tr, Z, D1, hN, hpc, hd, hO, hh, ⟨ho, hag⟩, hb, hT, h1⟩ := h
  refine GM1.mono (c_X6_undo hN hd hO hh.c) (fun v S2 k => ?_)
  rw [if_pos hpc] at k
  have hj : jP j < 4 := by have := hh.2.1; unfold jP; split <;> omega
  have ha := hag.trans (ag_cpy (Z (jP j)) D1)
  have hi := ar_cpy (hh.2.2 _ hj).2 (D := D1) hO.1.ar
  have ho2 := ok_ag ho ha hi
  exact ⟨_, k.1, ⟨by omega, by have := hh.1; omega⟩, _, ⟨_, _, _, _, _, _, _, hN, k.2.1, ⟨ho2.1, hO.2⟩, ⟨by have := hh.1; omega, hj, hh.2.2⟩, ho2, hb, hT, h1⟩, ha⟩

theorem q_type {w : gW} {l : Launch} {S : Nat → va_E} {ty pl dg : Int} {D : SD} (h : AD w ty pl dg D S) {c pl2 dg2 : Int} (hc : 32 ≤ c ∧ c ≤ 126) (ht : ty < 60) (hs : stp pl dg c pl2 dg2) : GM1 w l yX6_type wsX6_type { frames := 1, cells := 0, slots := 0, locals := 22 } [.ref (gw_ad w 0), vI c] S
    (fun v S2 => v = vI (ty + 1) ∧ AD w (ty + 1) pl2 dg2 D S2) := by
  obtain ⟨pc, j, B, ρ, T, Tr, Z, hN, hd, hO, hh, ho, hb, hT, h1⟩ := h
  refine GM1.mono (c_X6_type hN hd hO hh.c (c := c) ⟨by omega, by omega⟩) (fun v S2 k => ?_)
  rw [if_pos hc, if_pos ht] at k
  have ht0 := hO.2.1
  refine ⟨k.1, pc, j, updZ B ty c, ρ, T, Tr, Z, hN, k.2.1, ⟨hO.1, ⟨by omega, by omega⟩, fun i i0 i1 => ?_, fun i => ?_, hO.2.2.2.2⟩, hh, ho, buf_step hb ht0.1 hs, hT, h1⟩
  · by_cases hi : i = ty
    · rw [hi, updZ_eq]; exact hc
    · rw [updZ_ne _ _ hi]; exact hO.2.2.1 i i0 (by omega)
  · by_cases hi : i = ty
    · rw [hi, updZ_eq]; exact ⟨by omega, by omega⟩
    · rw [updZ_ne _ _ hi]; exact hO.2.2.2.1 i

theorem q_rule {w : gW} {l : Launch} {S : Nat → va_E} {ty dg : Int} {D : SD} (h : AD w ty 5 dg D S) (h0 : 0 < dg) (h8 : snR D < 8) : GM1 w l yX6_rule wsX6_rule { frames := 10, cells := 0, slots := 0, locals := 222 } [.ref (gw_ad w 0)] S
    (fun v S2 => v = vI (snR D + 1) ∧ ∃ D2, AD w 0 0 0 D2 S2 ∧ sG D2 = sG D ∧ sC D2 = sC D ∧ snP D2 = snP D ∧ snN D2 = snN D ∧ snR D2 = snR D + 1) := by
  obtain ⟨pc, j, B, ρ, T, Tr, Z, hN, hd, hO, hh, ho, hb, hT, h1⟩ := h
  refine GM1.mono (c_X6_rule hN hd hO hh.c) (fun v S2 k => ?_)
  have hB : ∀ i, 0 ≤ i → i < 0 + (ty.toNat : Int) → -1000 ≤ B i ∧ B i ≤ 1000 := fun i a b => by have := hO.2.2.1 i a (by omega); omega
  have htk : tkI (rdZ B ty ρ T).2 := tkI_go _ _ _ hB (tkI_start hO.2.2.2.2.1 hT)
  have hr1 : inI ((rdZ B ty ρ T).2.1 1) := rd1_go _ _ _ hB (show inI (ρ 1) from h1)
  obtain ⟨z1, z2⟩ := rdZ_b (B := B) (T := T) hO.2.2.2.2.1 hO.2.1
  obtain ⟨b1, b2, b3, b4⟩ := hb ρ T
  have c1 : (rdZ B ty ρ T).1 = ty ∧ (rdZ B ty ρ T).2.1 4 = 5 ∧ 0 < (rdZ B ty ρ T).2.1 3 := ⟨b1, b2, by have := b4 (Or.inr rfl); omega⟩
  rw [if_pos c1, if_pos h8] at k
  have ho2 : ok35 (rulD D (rdZ B ty ρ T).2) := ok_rule ho h8 z2.1 hr1 (by have := htk.2.2.2.2 (Or.inr b2); unfold nbK at this; omega) htk.1
  exact ⟨k.1, _, ⟨_, _, B, _, _, _, _, hN, k.2.1, ⟨ho2.1, ⟨by decide, by decide⟩, fun i a b => absurd b (by omega), hO.2.2.2.1, z2, hO.2.2.2.2.2⟩, hh.act ho.1, ho2, buf_0 B, htk.1, hr1⟩, rfl, rfl, rfl, rfl, rfl⟩

theorem f_rule {w : gW} {l : Launch} {S : Nat → va_E} {ty dg : Int} {D : SD} (h : AD w ty 5 dg D S) (h0 : 0 < dg) (h8 : ¬ snR D < 8) : GM1 w l yX6_rule wsX6_rule { frames := 10, cells := 0, slots := 0, locals := 222 } [.ref (gw_ad w 0)] S
    (fun v S2 => v = vI (-1000003) ∧ AD w ty 5 dg D S2) := by
  obtain ⟨pc, j, B, ρ, T, Tr, Z, hN, hd, hO, hh, ho, hb, hT, h1⟩ := h
  refine GM1.mono (c_X6_rule hN hd hO hh.c) (fun v S2 k => ?_)
  have hB : ∀ i, 0 ≤ i → i < 0 + (ty.toNat : Int) → -1000 ≤ B i ∧ B i ≤ 1000 := fun i a b => by have := hO.2.2.1 i a (by omega); omega
  have htk : tkI (rdZ B ty ρ T).2 := tkI_go _ _ _ hB (tkI_start hO.2.2.2.2.1 hT)
  have hr1 : inI ((rdZ B ty ρ T).2.1 1) := rd1_go _ _ _ hB (show inI (ρ 1) from h1)
  obtain ⟨z1, z2⟩ := rdZ_b (B := B) (T := T) hO.2.2.2.2.1 hO.2.1
  obtain ⟨b1, b2, b3, b4⟩ := hb ρ T
  have c1 : (rdZ B ty ρ T).1 = ty ∧ (rdZ B ty ρ T).2.1 4 = 5 ∧ 0 < (rdZ B ty ρ T).2.1 3 := ⟨b1, b2, by have := b4 (Or.inr rfl); omega⟩
  rw [if_pos c1, if_neg h8] at k
  exact ⟨k.1, pc, j, B, _, _, Tr, Z, hN, k.2.1, ⟨hO.1, hO.2.1, hO.2.2.1, hO.2.2.2.1, z2, hO.2.2.2.2.2⟩, hh, ho, hb, htk.1, hr1⟩

theorem q_clear {w : gW} {l : Launch} {S : Nat → va_E} {ty pl dg : Int} {D : SD} (h : AD w ty pl dg D S)  : GM1 w l yX6_clear wsX6_clear { frames := 0, cells := 0, slots := 0, locals := 0 } [.ref (gw_ad w 0)] S
    (fun v S2 => v = vI ty ∧ AD w 0 0 0 D S2) := by
  obtain ⟨pc, j, B, ρ, T, Tr, Z, hN, hd, hO, hh, ho, hb, hT, h1⟩ := h
  refine GM1.mono (c_X6_clear hN hd hO hh.c) (fun v S2 k => ?_)
  exact ⟨k.1, pc, j, B, ρ, T, Tr, Z, hN, k.2.1, ⟨hO.1, ⟨by decide, by decide⟩, fun i a b => absurd b (by omega), hO.2.2.2⟩, hh, ho, buf_0 B, hT, h1⟩
