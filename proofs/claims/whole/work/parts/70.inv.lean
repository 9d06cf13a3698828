/-! ===== every act keeps the class's state and the reference's row one ===== -/
theorem gd_set {D : SD} {V : Int → Int} {s0 : Int → rdS} (h : gdD D V s0) {i x : Int} (hx : setOK i x) : gdD (wF D (updZ (sF D) i x)) (updZ V i x) s0 := by
  have h1 := hiS_b i.toNat
  have h2 := loS_b i.toNat
  obtain ⟨⟨i0, i8⟩, lo, hi⟩ := id hx
  exact ⟨stOK_set h.1 hx, srt_eq h.2.1 rfl rfl, h.2.2.1, mV_set h.1 h.2.2.2.1 i0 i8, vOK_up h.2.2.2.2 (Or.inl (by omega)) ⟨by omega, by omega⟩⟩
theorem gd_load {D : SD} {V : Int → Int} {s0 : Int → rdS} (h : gdD D V s0) {x : Int} (x0 : 0 ≤ x) (x1 : x ≤ 100000) : gdD (wG D (scLoad (sG D) x)) (updZ (updZ V 8 x) 17 0) s0 := by
  have hv := (mV.ok h.2.2.2.1 h.1 h.2.2.2.2).2.1.2.2.2.2.2.1
  exact ⟨stOK_load h.1 x0 x1, srt_eq h.2.1 rfl rfl, h.2.2.1, mV_load h.1 h.2.2.2.1, vOK_load h.2.2.2.2 hv x0 x1⟩
theorem gd_tick {D : SD} {V : Int → Int} {s0 : Int → rdS} (h : gdD D V s0) (n : Nat) (hn : sG D 1 + n ≤ 100000) : gdD (wG D (tkN (sF D) (sG D) n)) (tikV V n) s0 := by
  have e13 : V 13 = sG D 1 := h.2.2.2.1.sc.1.2.2.2.2.2
  exact ⟨stOK_tick h.1 n hn, srt_eq h.2.1 rfl rfl, h.2.2.1, mV_tick h.1 h.2.2.2.1 n, vOK_tick h.2.2.2.2 (mV.ok h.2.2.2.1 h.1 h.2.2.2.2) n (by omega)⟩
theorem gd_zero {D : SD} {V : Int → Int} {s0 : Int → rdS} (h : gdD D V s0) : gdD (wG D (updZ (updZ (sG D) 2 (scRaw (sF D) (sG D))) 3 0)) (updZ (updZ V 10 (rawV V)) 11 0) s0 := by
  have hr := raw_R h.2.2.2.1
  have hb := scRaw_b h.1.1.1.1 h.1.1.1.2
  have hg := h.1.1.1.2.1.2.1
  refine ⟨stOK_zero h.1, srt_eq h.2.1 rfl rfl, h.2.2.1, mV_zero h.1 h.2.2.2.1, vOK_up (vOK_up h.2.2.2.2 (Or.inl (by decide)) ?_) (Or.inl (by decide)) ⟨by decide, by decide⟩⟩
  rw [hr]
  omega
theorem gd_tare {D : SD} {V : Int → Int} {s0 : Int → rdS} (h : gdD D V s0) (ho : scOver (sF D) (sG D) = false) (h0 : 0 ≤ scGross (sF D) (sG D)) : gdD (wG D (updZ (sG D) 3 (scGross (sF D) (sG D)))) (updZ V 11 (groV V)) s0 := by
  have hr := gro_R h.2.2.2.1
  have hs := (stOK_tare h.1 ho h0).2.2.2.2
  have hs2 : scGross (sF D) (sG D) ≤ 100000 := hs.2.1
  refine ⟨stOK_tare h.1 ho h0, srt_eq h.2.1 rfl rfl, h.2.2.1, mV_tare h.1 h.2.2.2.1, vOK_up h.2.2.2.2 (Or.inl (by decide)) ?_⟩
  rw [hr]
  omega
theorem gd_extra {D : SD} {V : Int → Int} {s0 : Int → rdS} (h : gdD D V s0) {z x : Int} (z0 : 0 ≤ z) (z3 : z ≤ 3) (x0 : 0 ≤ x) (x1 : x ≤ 10000) : gdD (wE D (updZ (sE D) z x)) (updZ V (24 + 14 * z + 1) x) s0 :=
  ⟨stOK_extra h.1 x0 x1, srt_eq h.2.1 rfl rfl, h.2.2.1, mV_extra h.1 h.2.2.2.1 z0 z3, vOK_up h.2.2.2.2 (Or.inr (Or.inl ⟨by omega, by omega⟩)) ⟨by omega, by omega⟩⟩
theorem gd_unband {D : SD} {V : Int → Int} {s0 : Int → rdS} (h : gdD D V s0) {z i : Int} (z0 : 0 ≤ z) (z4 : z < 4) (i0 : 0 ≤ i) (i1 : i < sC D z) : gdD (wC D (updZ (sC D) z (sC D z - 1)) (bclose (sL D) z i (sC D z - 1)) (bclose (sQ D) z i (sC D z - 1))) (mcl (updZ V (24 + 14 * z) (V (24 + 14 * z) - 1)) z i (V (24 + 14 * z) - 1)) s0 := by
  have e : V (24 + 14 * z) = sC D z := (h.2.2.2.1.bn z z0 z4).1
  have hn := h.1.1.2.1.1 z z0 z4
  exact ⟨stOK_unband h.1 z0 z4 i0 i1, srt_unband h.2.1 i0, h.2.2.1, mV_unband h.1 h.2.2.2.1 z0 z4 i0 i1, vOK_unband h.2.2.2.2 z0 z4 i0 (by rw [e]; exact hn)⟩
theorem gd_band {D : SD} {V : Int → Int} {s0 : Int → rdS} (h : gdD D V s0) {z l p : Int} (z0 : 0 ≤ z) (z4 : z < 4) (hl : 1 ≤ l ∧ l ≤ 100000) (hp : 0 ≤ p ∧ p ≤ 100000) (h6 : (mbx V z l < V (24 + 14 * z) ∧ V (24 + 14 * z + 2 + 2 * mbx V z l) = l) ∨ V (24 + 14 * z) < 6) : gdD (bandD D z l p) (if mbx V z l < V (24 + 14 * z) ∧ V (24 + 14 * z + 2 + 2 * mbx V z l) = l then mbOld V z l p else mbNew V z l p) s0 := by
  obtain ⟨b1, b2, b3⟩ := band_R h.1 h.2.2.2.1 (l := l) z0 z4
  have hn := h.1.1.2.1.1 z z0 z4
  obtain ⟨v1, v2⟩ := vOK_band h.2.2.2.2 (z := z) (l := l) (p := p) z0 z4 hl hp (by rw [b2]; exact hn)
  refine ⟨stOK_band h.1 z0 z4 hl hp (h6.elim (fun q => Or.inl (b3.mp q)) (fun q => Or.inr (by rw [← b2]; exact q))), srt_band h.1 h.2.1 z0 z4, ?_, mV_band h.1 h.2.2.2.1 z0 z4 h6, ?_⟩
  · have e1 : snP (bandD D z l p) = snP D := by unfold bandD; split <;> rfl
    have e2 : sP (bandD D z l p) = sP D := by unfold bandD; split <;> rfl
    have e3 : snN (bandD D z l p) = snN D := by unfold bandD; split <;> rfl
    have e4 : sK (bandD D z l p) = sK D := by unfold bandD; split <;> rfl
    unfold wyD
    rw [e1, e2, e3, e4]
    exact h.2.2.1
  · by_cases hc : mbx V z l < V (24 + 14 * z) ∧ V (24 + 14 * z + 2 + 2 * mbx V z l) = l
    · rw [if_pos hc]; exact v2 hc.1
    · rw [if_neg hc]; exact v1 (h6.elim (fun q => absurd q hc) id)
theorem gd_unrule {D : SD} {V : Int → Int} {s0 : Int → rdS} (h : gdD D V s0) (h1 : 1 ≤ snR D) : gdD (wR D (snR D - 1) (sR D)) (updZ V 18 (V 18 - 1)) s0 := by
  have hn := h.2.2.2.1.n18 h.1
  exact ⟨stOK_unrule h.1 h1, srt_eq h.2.1 rfl rfl, h.2.2.1, mV_unrule h.1 h.2.2.2.1, vOK_up h.2.2.2.2 (Or.inr (Or.inl ⟨by decide, by decide⟩)) ⟨by omega, by omega⟩⟩
theorem gd_rule {D : SD} {V T : Int → Int} {s0 : Int → rdS} {n : Int} {r0 s : rdS} (h : gdD D V s0) (h8 : snR D < 8) (hn : 0 ≤ n ∧ n ≤ 60) (hr : r0.1 0 = 0 ∧ r0.1 4 = 0 ∧ r0.1 5 = 0) (hg : rdGo T n.toNat 0 r0 = (n, s)) (hc : s.1 4 = 5 ∧ 0 < s.1 3) (h0 : 0 ≤ s.1 0 ∧ s.1 0 ≤ 60) (h1 : inI (s.1 1)) (h2 : 0 ≤ s.1 2 ∧ s.1 2 ≤ 99999) (ht : ∀ i, inI (s.2 i)) (hT : ∀ i, inI (T i)) : gdD (rulD D s) (ruV V T n) (fun k => if k = snR D then r0 else s0 k) := by
  have e18 : V 18 = snR D := h.2.2.2.1.rl.1
  have hn8 := h.2.2.2.1.n18 h.1
  exact ⟨stOK_rule h.1 h8 h0 h1 h2 ht, srt_eq h.2.1 rfl rfl, h.2.2.1, mV_rule h.1 h.2.2.2.1 h8 hn hr hg hc, vOK_rule h.2.2.2.2 (by omega) hn hT⟩
theorem gd_take {D : SD} {V MK MM CH AM : Int → Int} {s0 : Int → rdS} (h : gdD D V s0) (hrd : ∀ j, 0 ≤ j → j < V 18 → Read (txT V j) (s0 j) j (V (80 + 61 * j)) MK (MM j) (CH j) (AM j) ∧ 0 ≤ MM j ∧ MM j ≤ 60) {a b c z : Int} (ha : 1 ≤ a ∧ a ≤ 2000) (hb : 1 ≤ b ∧ b ≤ 2000) (hc : 1 ≤ c ∧ c ≤ 2000) (z0 : 0 ≤ z) (z3 : z ≤ 3) (hC : 0 < sC D z) (hp : snP D < 30) (ho : scOver (sF D) (sG D) = false) (hw : 1 ≤ scGross (sF D) (sG D) - sG D 3) : gdD (takD D a b c z) (tkV V (wkM V MK MM CH AM (groV V - V 11) a b c z)) s0 := by
  have k := stOK_take h.1 ha hb hc z0 z3 hC hp ho hw
  have m := mV_take h.1 h.2.2.2.1 hrd (a := a) (b := b) (c := c) hp z0 z3 hC
  exact ⟨k.1, srt_eq h.2.1 rfl rfl, k.2 h.2.2.1, m, vOK_take k.1 h.2.2.2.1.ls.1.1 m h.2.2.2.2 ⟨h.1.2.1.1.1, hp⟩⟩
theorem gd_disp {D : SD} {V MK MM CH AM : Int → Int} {s0 : Int → rdS} (h : gdD D V s0) (hrd : ∀ j, 0 ≤ j → j < V 18 → Read (txT V j) (s0 j) j (V (80 + 61 * j)) MK (MM j) (CH j) (AM j) ∧ 0 ≤ MM j ∧ MM j ≤ 60) {p x y : Int} (hp : 0 ≤ p ∧ p < snP D) (hx : 0 ≤ x ∧ x ≤ 3) (hy : 1 ≤ y ∧ y ≤ (if x = 0 then 100000 else 2000)) (hc : 0 < sC D (sP D p 4)) (hn : snN D < 20) (hop : openZ D p = -1000009) : gdD (dspD D p x y) (diV V (wiW V MK MM CH AM p x y) p x y) s0 := by
  have k := stOK_disp h.1 hp hx hy hc hn
  have m := mV_disp h.1 h.2.2.2.1 hrd hp hx (y := y) hc hn hop
  exact ⟨k.1, srt_eq h.2.1 rfl rfl, k.2 h.2.2.1, m, vOK_disp k.1 h.2.2.2.1.ls.1.2.1 m h.2.2.2.2 ⟨h.1.2.2.1.1.1, hn⟩⟩
theorem gd_rej {D : SD} {V : Int → Int} {s0 : Int → rdS} (h : gdD D V s0) {n : Int} (hn : 0 ≤ n ∧ n < snN D) : gdD (rejD D n) (updZ V (940 + 12 * n + 4) 2) s0 := by
  have k := stOK_rej h.1 hn
  exact ⟨k.1, srt_eq h.2.1 rfl rfl, k.2 h.2.2.1, mV_rej h.1 h.2.2.2.1 hn, vOK_rej (D := D) h.2.2.2.2 hn.1⟩
theorem gd_acc {D : SD} {V : Int → Int} {s0 : Int → rdS} (h : gdD D V s0) {n : Int} (hn : 0 ≤ n ∧ n < snN D) (ho : sN D n 4 = 0) : gdD (accD D n) (seV V n) s0 := by
  have k := stOK_acc h.1 hn
  have m := (mV_acc h.1 h.2.2.2.1 hn ho).1
  exact ⟨k.1, srt_eq h.2.1 rfl rfl, k.2 h.2.2.1, m, vOK_acc h.1 h.2.2.2.1 hn k.1 m h.2.2.2.2⟩
/-- readers' states of rules that are not there may be any -/
theorem mV_s0 {D : SD} {V : Int → Int} {s0 s1 : Int → rdS} (h : mV D V s0) (hs : ∀ k, 0 ≤ k → k < snR D → s1 k = s0 k) : mV D V s1 :=
  ⟨⟨h.1.1, h.1.2.1, h.1.2.2.1, fun k a b => by rw [hs k a b]; exact h.1.2.2.2 k a b⟩, h.2⟩
def zS (s0 : Int → rdS) : Prop := ∀ i, (s0 i).1 0 = 0 ∧ (s0 i).1 4 = 0 ∧ (s0 i).1 5 = 0
theorem gd_z {D : SD} {V : Int → Int} {s0 : Int → rdS} (h : gdD D V s0) : ∃ s1, gdD D V s1 ∧ zS s1 := by
  refine ⟨fun k => if 0 ≤ k ∧ k < snR D then s0 k else (fun _ => 0, fun _ => 0), ⟨h.1, h.2.1, h.2.2.1, mV_s0 h.2.2.2.1 (fun k a b => if_pos ⟨a, b⟩), h.2.2.2.2⟩, fun i => ?_⟩
  obtain ⟨r, er⟩ : ∃ r : rdS, r = (if 0 ≤ i ∧ i < snR D then s0 i else (fun _ => 0, fun _ => 0)) := ⟨_, rfl⟩
  show (if 0 ≤ i ∧ i < snR D then s0 i else ((fun _ => 0, fun _ => 0) : rdS)).1 0 = 0 ∧ (if 0 ≤ i ∧ i < snR D then s0 i else ((fun _ => 0, fun _ => 0) : rdS)).1 4 = 0 ∧ (if 0 ≤ i ∧ i < snR D then s0 i else ((fun _ => 0, fun _ => 0) : rdS)).1 5 = 0
  rw [← er]
  by_cases hi : 0 ≤ i ∧ i < snR D
  · rw [if_pos hi] at er
    rw [er]
    exact (h.2.2.2.1.rl.2 i hi.1 hi.2).1
  · rw [if_neg hi] at er
    rw [er]
    exact ⟨rfl, rfl, rfl⟩
/-! ===== the invariant of the law's loop ===== -/
def bufR (ty : Int) (B : Int → Int) (tm : Int) (TY : Int → Int) : Prop := tm = ty ∧ (0 ≤ ty ∧ ty ≤ 60) ∧ (∀ i, 0 ≤ i → i < ty → B i = TY i ∧ 32 ≤ B i ∧ B i ≤ 126) ∧ (∀ i, inI (B i)) ∧ ∀ i, inI (TY i)
def rdR (ρ T : Int → Int) (Tr : Int → Int → Int) : Prop := rdOK 100 ρ ∧ (∀ i, inI (T i)) ∧ ∀ i j, inI (Tr i j)
def frR (TX WT FL PI : Int → Int) : Prop := (∀ i, inI (TX i)) ∧ (∀ i, inI (WT i)) ∧ (∀ j, inL (FL j)) ∧ ∀ j, PI j = 0 ∨ PI j = 1
def invR (w : gW) (pc j : Nat) (ty : Int) (B ρ T : Int → Int) (Tr : Int → Int → Int) (D : SD) (Z : Nat → SD) (pm tm xm at_ wm wh : Int) (ir : Bool) (V PV TY TX MK MM CH AM WT WK FL PI : Int → Int) (s0 : Int → rdS) (S : Nat → va_E) : Prop :=
  (gw_N w = 105 ∧ deskAt w pc j ty B ρ T Tr D Z S ∧ modelAt w pm tm xm at_ wm wh ir V PV TY TX MK MM CH AM WT WK FL PI S) ∧ (pm = (pc : Int) ∧ gdD D V s0 ∧ zS s0 ∧ hiR pc j Z PV) ∧ bufR ty B tm TY ∧ rdR ρ T Tr ∧ frR TX WT FL PI
def INV (w : gW) (S : Nat → va_E) : Prop := ∃ (pc j : Nat) (ty : Int) (B ρ T : Int → Int) (Tr : Int → Int → Int) (D : SD) (Z : Nat → SD) (pm tm xm at_ wm wh : Int) (ir : Bool) (V PV TY TX MK MM CH AM WT WK FL PI : Int → Int) (s0 : Int → rdS), invR w pc j ty B ρ T Tr D Z pm tm xm at_ wm wh ir V PV TY TX MK MM CH AM WT WK FL PI s0 S
theorem desk_fr {w : gW} {pc j : Nat} {ty : Int} {B ρ T : Int → Int} {Tr : Int → Int → Int} {D : SD} {Z : Nat → SD} {S S' : Nat → va_E} (h : deskAt w pc j ty B ρ T Tr D Z S) (hq : ∀ q : Nat, q < 92 → S' q = S q) : deskAt w pc j ty B ρ T Tr D Z S' := by
  obtain ⟨⟨d0, d1, d2, d3, d4, d5, d6⟩, hst, hpa⟩ := h
  refine ⟨⟨by rw [hq 0 (by decide)]; exact d0, by rw [hq 1 (by decide)]; exact d1, by rw [hq 2 (by decide)]; exact d2, by rw [hq 3 (by decide)]; exact d3, by rw [hq 4 (by decide)]; exact d4, by rw [hq 5 (by decide)]; exact d5, by rw [hq 6 (by decide)]; exact d6⟩, stAt_frame (fun q h1 h2 => hq q (by omega)) hst, fun i hi => stAt_frame (fun q h1 h2 => hq q (by omega)) (hpa i hi)⟩
theorem mod_fr {w : gW} {pm tm xm at_ wm wh : Int} {ir : Bool} {V PV TY TX MK MM CH AM WT WK FL PI : Int → Int} {S S' : Nat → va_E} (h : modelAt w pm tm xm at_ wm wh ir V PV TY TX MK MM CH AM WT WK FL PI S) (hq : ∀ q : Nat, 92 ≤ q → S' q = S q) : modelAt w pm tm xm at_ wm wh ir V PV TY TX MK MM CH AM WT WK FL PI S' := by
  unfold modelAt at h ⊢
  rw [hq 92 (by decide), hq 93 (by decide), hq 94 (by decide), hq 95 (by decide), hq 96 (by decide), hq 97 (by decide), hq 98 (by decide), hq 99 (by decide), hq 100 (by decide), hq 101 (by decide), hq 102 (by decide), hq 103 (by decide), hq 104 (by decide)]
  exact h
theorem actN_pc {pc : Nat} (h : pc ≤ 4) : actN (pc : Int) = (pcN pc : Int) := by
  unfold actN pcN
  split <;> split <;> omega
/-- an act of both -/
theorem inv_act {w : gW} {pc j : Nat} {ty : Int} {B ρ T : Int → Int} {Tr : Int → Int → Int} {D : SD} {Z : Nat → SD} {pm tm xm at_ wm wh : Int} {ir : Bool} {V PV TY TX MK MM CH AM WT WK FL PI : Int → Int} {s0 : Int → rdS} {S : Nat → va_E} (h : invR w pc j ty B ρ T Tr D Z pm tm xm at_ wm wh ir V PV TY TX MK MM CH AM WT WK FL PI s0 S)
    {S1 S2 : Nat → va_E} {ty1 : Int} {B1 ρ1 T1 : Int → Int} {Tr1 : Int → Int → Int} {D1 : SD} {tm1 xm1 at1 wm1 wh1 : Int} {ir1 : Bool} {V1 TY1 TX1 MK1 MM1 CH1 AM1 WT1 WK1 FL1 PI1 : Int → Int} {s1 : Int → rdS}
    (h6 : POST w S (pcN pc) (jN j) ty1 B1 ρ1 T1 Tr1 D1 (pastN j Z D) S1) (h7 : POSTM w S1 (actN pm) tm1 xm1 at1 wm1 wh1 ir1 V1 (actP pm PV V) TY1 TX1 MK1 MM1 CH1 AM1 WT1 WK1 FL1 PI1 S2) (hg : gdD D1 V1 s1) (hb : bufR ty1 B1 tm1 TY1) (hr : rdR ρ1 T1 Tr1) (hf : frR TX1 WT1 FL1 PI1) : INV w S2 := by
  obtain ⟨⟨hN, hd, hm⟩, ⟨hpm, hg0, hz0, hh⟩, -⟩ := h
  subst hpm
  obtain ⟨s2, hg2, hz2⟩ := gd_z hg
  exact ⟨pcN pc, jN j, ty1, B1, ρ1, T1, Tr1, D1, pastN j Z D, actN pc, tm1, xm1, at1, wm1, wh1, ir1, V1, actP pc PV V, TY1, TX1, MK1, MM1, CH1, AM1, WT1, WK1, FL1, PI1, s2, ⟨hN, desk_fr h6.1 h7.2, h7.1⟩, ⟨actN_pc hh.1.1, hg2, hz2, hiR_act hh hg0⟩, hb, hr, hf⟩
/-- both stand at the same state and past -/
theorem inv_same {w : gW} {pc j : Nat} {ty : Int} {B ρ T : Int → Int} {Tr : Int → Int → Int} {D : SD} {Z : Nat → SD} {pm tm xm at_ wm wh : Int} {ir : Bool} {V PV TY TX MK MM CH AM WT WK FL PI : Int → Int} {s0 : Int → rdS} {S : Nat → va_E} (h : invR w pc j ty B ρ T Tr D Z pm tm xm at_ wm wh ir V PV TY TX MK MM CH AM WT WK FL PI s0 S)
    {S1 S2 : Nat → va_E} {ty1 : Int} {B1 ρ1 T1 : Int → Int} {Tr1 : Int → Int → Int} {tm1 xm1 at1 wm1 wh1 : Int} {ir1 : Bool} {TY1 TX1 MK1 MM1 CH1 AM1 WT1 WK1 FL1 PI1 : Int → Int}
    (h6 : POST w S pc j ty1 B1 ρ1 T1 Tr1 D Z S1) (h7 : POSTM w S1 pm tm1 xm1 at1 wm1 wh1 ir1 V PV TY1 TX1 MK1 MM1 CH1 AM1 WT1 WK1 FL1 PI1 S2) (hb : bufR ty1 B1 tm1 TY1) (hr : rdR ρ1 T1 Tr1) (hf : frR TX1 WT1 FL1 PI1) : INV w S2 := by
  obtain ⟨⟨hN, hd, hm⟩, h2, -⟩ := h
  exact ⟨pc, j, ty1, B1, ρ1, T1, Tr1, D, Z, pm, tm1, xm1, at1, wm1, wh1, ir1, V, PV, TY1, TX1, MK1, MM1, CH1, AM1, WT1, WK1, FL1, PI1, s0, ⟨hN, desk_fr h6.1 h7.2, h7.1⟩, h2, hb, hr, hf⟩
theorem invR.i {w : gW} {pc j : Nat} {ty : Int} {B ρ T : Int → Int} {Tr : Int → Int → Int} {D : SD} {Z : Nat → SD} {pm tm xm at_ wm wh : Int} {ir : Bool} {V PV TY TX MK MM CH AM WT WK FL PI : Int → Int} {s0 : Int → rdS} {S : Nat → va_E} (h : invR w pc j ty B ρ T Tr D Z pm tm xm at_ wm wh ir V PV TY TX MK MM CH AM WT WK FL PI s0 S) : INV w S := ⟨pc, j, ty, B, ρ, T, Tr, D, Z, pm, tm, xm, at_, wm, wh, ir, V, PV, TY, TX, MK, MM, CH, AM, WT, WK, FL, PI, s0, h⟩
theorem invR.ok {w : gW} {pc j : Nat} {ty : Int} {B ρ T : Int → Int} {Tr : Int → Int → Int} {D : SD} {Z : Nat → SD} {pm tm xm at_ wm wh : Int} {ir : Bool} {V PV TY TX MK MM CH AM WT WK FL PI : Int → Int} {s0 : Int → rdS} {S : Nat → va_E} (h : invR w pc j ty B ρ T Tr D Z pm tm xm at_ wm wh ir V PV TY TX MK MM CH AM WT WK FL PI s0 S) : deskOK ty B ρ Tr D ∧ (pc ≤ 4 ∧ j < 4 ∧ ∀ i : Nat, i < 4 → cOK (Z i)) ∧ (0 ≤ pm ∧ pm ≤ 4) ∧ 0 ≤ tm ∧ tm ≤ 60 := by
  obtain ⟨-, ⟨hpm, hg, -, hh⟩, ⟨htm, b1, b2, b3, b4⟩, ⟨r1, r2, r3⟩, -⟩ := h
  have := hh.1
  exact ⟨⟨hg.1, b1, fun i a b => (b2 i a b).2, b3, r1, r3⟩, ⟨hh.1.1, hh.1.2, fun i hi => (hh.2.2.1 i hi).1⟩, by omega, by omega⟩
/-- two calls, one of each: the same answer, and the invariant again -/
def TWO (w : gW) (l : Launch) (y6 : MethodName) (ws6 : List Cond) (rm6 : Room) (as6 : List Value) (y7 : MethodName) (ws7 : List Cond) (rm7 : Room) (as7 : List Value) (S : Nat → va_E) (is : Value → Prop) : Prop :=
  ∃ K6, GM1 w l y6 ws6 rm6 as6 S K6 ∧ ∀ v S1, K6 v S1 → S1 92 = S 92 ∧ ∃ K7, GM1 w l y7 ws7 rm7 as7 S1 K7 ∧ ∀ v' S2, K7 v' S2 → v' = v ∧ is v ∧ INV w S2
def isVI (v : Value) : Prop := ∃ z : Int, v = vI z
def isVL (v : Value) : Prop := ∃ z : Int, v = vL z
