/-! ===== what ties the class's state D to the reference's row V: all of it ===== -/
def scR (F g V : Int → Int) : Prop := (V 8 = g 0 ∧ V 9 = g 4 ∧ V 10 = g 2 ∧ V 11 = g 3 ∧ V 12 = g 5 ∧ V 13 = g 1) ∧ (0 ≤ V 17 ∧ g 6 = (if V 17 < 3 then V 17 else 3)) ∧ (1 ≤ V 17 → g 7 = V (14 + (V 17 + 2) % 3)) ∧ (2 ≤ V 17 → g 8 = V (14 + (V 17 + 1) % 3)) ∧ (3 ≤ V 17 → g 9 = V (14 + V 17 % 3))
def parR (D : SD) (V : Int → Int) (p : Int) : Prop := rowR (sP D p) (fun c => V (570 + 12 * p + c)) ∧ sP D p 9 = girZ (sP D p 1) (sP D p 2) (sP D p 3)
def notR (D : SD) (V : Int → Int) (n : Int) : Prop := (∀ c, 0 ≤ c → c ≤ 5 → V (940 + 12 * n + c) = sN D n c) ∧ (V (940 + 12 * n + 6) = sK D n 5 ∧ V (940 + 12 * n + 7) = sK D n 6 ∧ V (940 + 12 * n + 8) = sK D n 7) ∧ (V (940 + 12 * n + 9) = sK D n 12 ∧ V (940 + 12 * n + 10) = sK D n 13 ∧ heldR (sK D n) (V (940 + 12 * n + 11))) ∧ sK D n 8 = sN D n 3 ∧ sK D n 9 = girZ (sK D n 1) (sK D n 2) (sK D n 3) ∧ (sN D n 4 = 0 → ∀ c, 0 ≤ c → c ≤ 4 → sK D n c = if c = sN D n 1 then sN D n 2 else sP D (sN D n 0) c)
def opU (D : SD) : Prop := (∀ n m, 0 ≤ n → n < snN D → 0 ≤ m → m < snN D → sN D n 4 = 0 → sN D m 4 = 0 → sN D n 0 = sN D m 0 → n = m) ∧ ∀ n, 0 ≤ n → n < snN D → sN D n 4 = 0 → sN D n 5 = 0
def mV (D : SD) (V : Int → Int) (s0 : Int → rdS) : Prop := pcR D V s0 ∧ scR (sF D) (sG D) V ∧ (V 19 = snP D ∧ V 20 = snN D ∧ V 21 = zsum (fun r => sN D r 5) (snN D).toNat) ∧ (∀ p, 0 ≤ p → p < snP D → parR D V p) ∧ (∀ n, 0 ≤ n → n < snN D → notR D V n) ∧ opU D
def vTxt (V : Int → Int) : Prop := ∀ j, 80 ≤ j → j < 568 → inI (V j)
/-- what is known of the reference's row alone -/
def rgV (V : Int → Int) : Prop := (-2200000 ≤ V 14 ∧ V 14 ≤ 2200000) ∧ (-2200000 ≤ V 15 ∧ V 15 ≤ 2200000) ∧ (-2200000 ≤ V 16 ∧ V 16 ≤ 2200000) ∧ (0 ≤ V 17 ∧ V 17 ≤ V 13)
def vOK (V : Int → Int) : Prop := rgV V ∧ vLim V ∧ vTxt V
theorem mV.bnd {D : SD} {V : Int → Int} {s0 : Int → rdS} (h : mV D V s0) (hD : stOK D) : vBnd V := fun z a b => by
  rw [(h.1.2.1 z a b).1]
  exact hD.1.2.1.1 z a b
theorem mV.zon {D : SD} {V : Int → Int} {s0 : Int → rdS} (h : mV D V s0) (hD : stOK D) : vZon V := fun z a b => by
  obtain ⟨h1, h2, h3⟩ := h.1.2.1 z a b
  obtain ⟨e1, e2⟩ := hD.1.2.1.2.2.2 z a b
  rw [h1, h2]
  refine ⟨e1, fun i c d => ?_⟩
  rw [(h3 i c d).1, (h3 i c d).2]
  exact e2 i c d
theorem mV.n18 {D : SD} {V : Int → Int} {s0 : Int → rdS} (h : mV D V s0) (hD : stOK D) : 0 ≤ V 18 ∧ V 18 ≤ 8 := by
  rw [h.1.2.2.1]
  exact hD.1.2.2.1.1
theorem mV.n19 {D : SD} {V : Int → Int} {s0 : Int → rdS} (h : mV D V s0) (hD : stOK D) : 0 ≤ V 19 ∧ V 19 ≤ 30 := by
  rw [h.2.2.1.1]
  exact hD.2.1.1
theorem mV.n20 {D : SD} {V : Int → Int} {s0 : Int → rdS} (h : mV D V s0) (hD : stOK D) : 0 ≤ V 20 ∧ V 20 ≤ 20 := by
  rw [h.2.2.1.2.1]
  exact hD.2.2.1.1
theorem mV.rt {D : SD} {V : Int → Int} {s0 : Int → rdS} (h : mV D V s0) : ∀ i, 0 ≤ i → i < V 18 → 0 ≤ V (80 + 61 * i) ∧ V (80 + 61 * i) ≤ 60 := fun i a b => (h.1.2.2.2 i a (by rw [← h.1.2.2.1]; exact b)).2.1
theorem mV.gd {D : SD} {V : Int → Int} {s0 : Int → rdS} (h : mV D V s0) : ∀ i, 0 ≤ i → i < V 18 → ∀ n, ¬ rStop (txT V i) (s0 i) (V (80 + 61 * i)) n := fun i a b n => ruR_stop (h.1.2.2.2 i a (by rw [← h.1.2.2.1]; exact b))
theorem mV.col {D : SD} {V : Int → Int} {s0 : Int → rdS} (h : mV D V s0) {p c : Int} (p0 : 0 ≤ p) (p1 : p < snP D) (c0 : 0 ≤ c) (c8 : c ≤ 8) : V (570 + 12 * p + c) = sP D p c := (h.2.2.2.1 p p0 p1).1.1 c c0 c8
theorem mV.pk {D : SD} {V : Int → Int} {s0 : Int → rdS} (h : mV D V s0) (hD : stOK D) : ∀ p, 0 ≤ p → p < V 19 → pkV V p := fun p a b => by
  rw [h.2.2.1.1] at b
  obtain ⟨r0, r1, r2, r3, r4, -⟩ := hD.2.1.2.2 p a b
  unfold pkV
  rw [h.col a b (c := 0) (by decide) (by decide), h.col a b (c := 1) (by decide) (by decide), h.col a b (c := 2) (by decide) (by decide), h.col a b (c := 3) (by decide) (by decide), h.col a b (c := 4) (by decide) (by decide)]
  exact ⟨r0, r1, r2, r3, r4⟩
theorem mV.sd {D : SD} {V : Int → Int} {s0 : Int → rdS} (h : mV D V s0) (hD : stOK D) : ∀ p, 0 ≤ p → p < V 19 → sdV V p := fun p a b => by
  obtain ⟨-, r1, r2, r3, -⟩ := h.pk hD p a b
  exact ⟨r1, r2, r3⟩
def wyK (x : Int → Int) : Prop := (1 ≤ x 12 ∧ x 12 ≤ 3) ∧ (10 ≤ x 13 ∧ x 13 ≤ 20)
/-- the reasons of all parcels and claims are reasons -/
def wyD (D : SD) : Prop := (∀ p, 0 ≤ p → p < snP D → wyK (sP D p)) ∧ ∀ n, 0 ≤ n → n < snN D → wyK (sK D n)
theorem mV.wy {D : SD} {V : Int → Int} {s0 : Int → rdS} (h : mV D V s0) (hw : wyD D) : ∀ p, 0 ≤ p → p < V 19 → wyV V p := fun p a b => by
  rw [h.2.2.1.1] at b
  obtain ⟨⟨-, r9, r10, r11, -⟩, -⟩ := h.2.2.2.1 p a b
  obtain ⟨w1, w2⟩ := hw.1 p a b
  refine ⟨?_, ?_, r11⟩
  · have e : V (570 + 12 * p + 9) = sP D p 12 := r9
    rw [e]; exact w1
  · have e : V (570 + 12 * p + 10) = sP D p 13 := r10
    rw [e]; exact w2
theorem mV.no {D : SD} {V : Int → Int} {s0 : Int → rdS} (h : mV D V s0) (hD : stOK D) : ∀ n, 0 ≤ n → n < V 20 → (0 ≤ V (940 + 12 * n + 0) ∧ V (940 + 12 * n + 0) < V 19) ∧ 0 ≤ V (940 + 12 * n + 1) ∧ V (940 + 12 * n + 1) ≤ 3 := fun n a b => by
  rw [h.2.2.1.2.1] at b
  have hn := (h.2.2.2.2.1 n a b).1
  obtain ⟨o0, o1, -⟩ := hD.2.2.1.2.2 n a b
  rw [hn 0 (by decide) (by decide), hn 1 (by decide) (by decide), h.2.2.1.1]
  exact ⟨o0, o1⟩
/-! the scale's numbers -/
theorem raw_R {D : SD} {V : Int → Int} {s0 : Int → rdS} (h : mV D V s0) : rawV V = scRaw (sF D) (sG D) := by
  obtain ⟨hp, ⟨⟨a8, a9, -⟩, -⟩, -⟩ := h
  unfold rawV scRaw
  rw [a8, a9, hp.1 1 (by decide) (by decide)]
theorem gro_R {D : SD} {V : Int → Int} {s0 : Int → rdS} (h : mV D V s0) : groV V = scGross (sF D) (sG D) := by
  have hr := raw_R h
  obtain ⟨hp, ⟨⟨-, -, a10, -⟩, -⟩, -⟩ := h
  unfold groV scGross
  rw [hr, a10, hp.1 2 (by decide) (by decide), Int.mul_comm]
theorem ovr_R {D : SD} {V : Int → Int} {s0 : Int → rdS} (h : mV D V s0) : ovrV V = scOver (sF D) (sG D) := by
  have hr := raw_R h
  obtain ⟨hp, ⟨⟨-, -, a10, -⟩, -⟩, -⟩ := h
  unfold ovrV scOver
  rw [hr, a10, hp.1 3 (by decide) (by decide)]
theorem nea_R {D : SD} {V : Int → Int} {s0 : Int → rdS} (h : mV D V s0) : neaV V = scNear (sF D) (sG D) := by
  have hr := raw_R h
  obtain ⟨hp, ⟨⟨-, -, a10, -⟩, -⟩, -⟩ := h
  unfold neaV scNear
  rw [hr, a10, hp.1 3 (by decide) (by decide)]
theorem ste_m (a b c : Int) : mx2 c (mx2 b a) = mx a (mx b c) ∧ mn2 c (mn2 b a) = mn a (mn b c) := by
  unfold mx2 mn2 mx mn
  constructor <;> (repeat' split) <;> omega
theorem ste_q (a b c : Int) : (mx c (mx b a) = mx a (mx b c) ∧ mn c (mn b a) = mn a (mn b c)) ∧ (mx a (mx c b) = mx a (mx b c) ∧ mn a (mn c b) = mn a (mn b c)) ∧ (mx b (mx a c) = mx a (mx b c) ∧ mn b (mn a c) = mn a (mn b c)) := by
  unfold mx mn
  refine ⟨⟨?_, ?_⟩, ⟨?_, ?_⟩, ⟨?_, ?_⟩⟩ <;> (repeat' split) <;> omega
theorem ste_R {D : SD} {V : Int → Int} {s0 : Int → rdS} (h : mV D V s0) : steV V = scSteady (sF D) (sG D) := by
  obtain ⟨hp, ⟨-, ⟨k0, k6⟩, k7, k8, k9⟩, -⟩ := h
  unfold steV scSteady
  rw [hp.1 4 (by decide) (by decide), (ste_m (V 14) (V 15) (V 16)).1, (ste_m (V 14) (V 15) (V 16)).2]
  by_cases h3 : 3 ≤ V 17
  · rw [if_neg (by omega)] at k6
    have e7 := k7 (by omega)
    have e8 := k8 (by omega)
    have e9 := k9 h3
    apply decide_eq_decide.mpr
    rw [k6, e7, e8, e9]
    rcases (show V 17 % 3 = 0 ∨ V 17 % 3 = 1 ∨ V 17 % 3 = 2 by omega) with m | m | m
    · rw [show (V 17 + 2) % 3 = 2 by omega, show (V 17 + 1) % 3 = 1 by omega, m]
      show 3 ≤ V 17 ∧ _ ↔ (3 : Int) ≤ 3 ∧ mx (V 16) (mx (V 15) (V 14)) - mn (V 16) (mn (V 15) (V 14)) ≤ _
      rw [(ste_q (V 14) (V 15) (V 16)).1.1, (ste_q (V 14) (V 15) (V 16)).1.2]
      exact ⟨fun q => ⟨by decide, q.2⟩, fun q => ⟨h3, q.2⟩⟩
    · rw [show (V 17 + 2) % 3 = 0 by omega, show (V 17 + 1) % 3 = 2 by omega, m]
      show 3 ≤ V 17 ∧ _ ↔ (3 : Int) ≤ 3 ∧ mx (V 14) (mx (V 16) (V 15)) - mn (V 14) (mn (V 16) (V 15)) ≤ _
      rw [(ste_q (V 14) (V 15) (V 16)).2.1.1, (ste_q (V 14) (V 15) (V 16)).2.1.2]
      exact ⟨fun q => ⟨by decide, q.2⟩, fun q => ⟨h3, q.2⟩⟩
    · rw [show (V 17 + 2) % 3 = 1 by omega, show (V 17 + 1) % 3 = 0 by omega, m]
      show 3 ≤ V 17 ∧ _ ↔ (3 : Int) ≤ 3 ∧ mx (V 15) (mx (V 14) (V 16)) - mn (V 15) (mn (V 14) (V 16)) ≤ _
      rw [(ste_q (V 14) (V 15) (V 16)).2.2.1, (ste_q (V 14) (V 15) (V 16)).2.2.2]
      exact ⟨fun q => ⟨by decide, q.2⟩, fun q => ⟨h3, q.2⟩⟩
  · rw [if_pos (by omega)] at k6
    rw [decide_eq_false (fun q => h3 q.1), decide_eq_false (fun q => h3 (by rw [k6] at q; exact q.1))]
theorem scn_R {D : SD} {V : Int → Int} {s0 : Int → rdS} (h : mV D V s0) (i : Int) : scnV V i = scNum (sF D) (sG D) i := by
  have e1 := raw_R h
  have e2 := gro_R h
  have e3 := ste_R h
  have e4 := ovr_R h
  obtain ⟨-, ⟨⟨a8, a9, a10, a11, a12, a13⟩, -⟩, -⟩ := h
  unfold scnV scNum
  rw [e1, e2, e3, e4, a8, a9, a10, a11, a12, a13]
