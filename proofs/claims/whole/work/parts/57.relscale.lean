/-! ===== the relation through acts: its pieces, the scale ===== -/
def seR (D : SD) (V : Int → Int) : Prop := ∀ i, 0 ≤ i → i < 8 → V i = sF D i
def bnR (D : SD) (V : Int → Int) : Prop := ∀ z, 0 ≤ z → z < 4 → V (24 + 14 * z) = sC D z ∧ V (24 + 14 * z + 1) = sE D z ∧ ∀ i, 0 ≤ i → i < sC D z → V (24 + 14 * z + 2 + 2 * i) = sL D z i ∧ V (24 + 14 * z + 2 + 2 * i + 1) = sQ D z i
def rlR (D : SD) (V : Int → Int) (s0 : Int → rdS) : Prop := V 18 = snR D ∧ ∀ k, 0 ≤ k → k < snR D → ruR D V k (s0 k)
def lsR (D : SD) (V : Int → Int) : Prop := (V 19 = snP D ∧ V 20 = snN D ∧ V 21 = zsum (fun r => sN D r 5) (snN D).toNat) ∧ (∀ p, 0 ≤ p → p < snP D → parR D V p) ∧ (∀ n, 0 ≤ n → n < snN D → notR D V n) ∧ opU D
theorem mV.se {D : SD} {V : Int → Int} {s0 : Int → rdS} (h : mV D V s0) : seR D V := h.1.1
theorem mV.bn {D : SD} {V : Int → Int} {s0 : Int → rdS} (h : mV D V s0) : bnR D V := h.1.2.1
theorem mV.rl {D : SD} {V : Int → Int} {s0 : Int → rdS} (h : mV D V s0) : rlR D V s0 := h.1.2.2
theorem mV.sc {D : SD} {V : Int → Int} {s0 : Int → rdS} (h : mV D V s0) : scR (sF D) (sG D) V := h.2.1
theorem mV.ls {D : SD} {V : Int → Int} {s0 : Int → rdS} (h : mV D V s0) : lsR D V := h.2.2
theorem mV.mk {D : SD} {V : Int → Int} {s0 : Int → rdS} (h1 : seR D V) (h2 : bnR D V) (h3 : rlR D V s0) (h4 : scR (sF D) (sG D) V) (h5 : lsR D V) : mV D V s0 := ⟨⟨h1, h2, h3⟩, h4, h5⟩
theorem bnR_c {D D' : SD} {V V' : Int → Int} (hB : bcOK (sC D)) (hV : ∀ j, 24 ≤ j → j < 80 → V' j = V j) (h1 : sC D' = sC D) (h2 : sE D' = sE D) (h3 : sL D' = sL D) (h4 : sQ D' = sQ D) (h : bnR D V) : bnR D' V' := by
  intro z z0 z4
  have hb := hB z z0 z4
  obtain ⟨a, b, c⟩ := h z z0 z4
  rw [h1, h2, h3, h4, hV _ (by omega) (by omega), hV (24 + 14 * z + 1) (by omega) (by omega)]
  refine ⟨a, b, fun i i0 i1 => ?_⟩
  rw [hV _ (by omega) (by omega), hV (24 + 14 * z + 2 + 2 * i + 1) (by omega) (by omega)]
  exact c i i0 i1
theorem ruR_c {D D' : SD} {V V' : Int → Int} {k : Int} {s0 : rdS} (k0 : 0 ≤ k) (k8 : k < 8) (hV : ∀ j, 80 + 61 * k ≤ j → j < 80 + 61 * k + 61 → V' j = V j) (hR : sR D' k = sR D k) (h : ruR D V k s0) : ruR D' V' k s0 := by
  obtain ⟨h0, hl, s, h1, h2, h3⟩ := h
  unfold ruR
  rw [hR, hV (80 + 61 * k) (by omega) (by omega)]
  refine ⟨h0, hl, s, ?_, h2, h3⟩
  rw [← h1]
  refine rdGo_c _ _ _ (fun j a b => ?_)
  unfold txT
  exact hV _ (by omega) (by omega)
theorem rlR_c {D D' : SD} {V V' : Int → Int} {s0 : Int → rdS} (hn : snR D ≤ 8) (hV : ∀ j, 80 ≤ j → j < 568 → V' j = V j) (h18 : V' 18 = V 18) (h1 : snR D' = snR D) (h2 : sR D' = sR D) (h : rlR D V s0) : rlR D' V' s0 := by
  refine ⟨by rw [h18, h1]; exact h.1, fun k a b => ?_⟩
  rw [h1] at b
  exact ruR_c a (by omega) (fun j c d => hV j (by omega) (by omega)) (by rw [h2]) (h.2 k a b)
theorem lsR_c {D D' : SD} {V V' : Int → Int} (hp : snP D ≤ 30) (hn : snN D ≤ 20) (hV : ∀ j, 570 ≤ j → j < 1200 → V' j = V j) (h19 : V' 19 = V 19) (h20 : V' 20 = V 20) (h21 : V' 21 = V 21) (h1 : D'.2.2.2.2.2.2.2.2 = D.2.2.2.2.2.2.2.2) (h : lsR D V) : lsR D' V' := by
  have e1 : snP D' = snP D := congrArg (fun x => x.1) h1
  have e2 : sP D' = sP D := congrArg (fun x => x.2.1) h1
  have e3 : snN D' = snN D := congrArg (fun x => x.2.2.1) h1
  have e4 : sN D' = sN D := congrArg (fun x => x.2.2.2.1) h1
  have e5 : sK D' = sK D := congrArg (fun x => x.2.2.2.2.2) h1
  obtain ⟨⟨a1, a2, a3⟩, b, c, d⟩ := h
  unfold lsR opU
  rw [e1, e3, e4, h19, h20, h21]
  refine ⟨⟨a1, a2, a3⟩, fun p p0 p1 => ?_, fun n n0 n1 => ?_, d⟩
  · obtain ⟨⟨q1, q2, q3, q4⟩, q5⟩ := b p p0 p1
    unfold parR rowR
    rw [e2]
    refine ⟨⟨fun c c0 c8 => ?_, ?_, ?_, ?_⟩, q5⟩
    · show V' (570 + 12 * p + c) = _
      rw [hV _ (by omega) (by omega)]; exact q1 c c0 c8
    · show V' (570 + 12 * p + 9) = _
      rw [hV _ (by omega) (by omega)]; exact q2
    · show V' (570 + 12 * p + 10) = _
      rw [hV _ (by omega) (by omega)]; exact q3
    · show heldR _ (V' (570 + 12 * p + 11))
      rw [hV _ (by omega) (by omega)]; exact q4
  · obtain ⟨q1, ⟨q2, q3, q4⟩, ⟨q5, q6, q7⟩, q8, q9, q10⟩ := c n n0 n1
    unfold notR
    rw [e2, e4, e5, hV (940 + 12 * n + 6) (by omega) (by omega), hV (940 + 12 * n + 7) (by omega) (by omega), hV (940 + 12 * n + 8) (by omega) (by omega), hV (940 + 12 * n + 9) (by omega) (by omega), hV (940 + 12 * n + 10) (by omega) (by omega), hV (940 + 12 * n + 11) (by omega) (by omega)]
    exact ⟨fun c c0 c5 => by rw [hV _ (by omega) (by omega)]; exact q1 c c0 c5, ⟨q2, q3, q4⟩, ⟨q5, q6, q7⟩, q8, q9, q10⟩
/-- acts that touch the settings and the scale alone -/
theorem mV_sc {D D' : SD} {V V' : Int → Int} {s0 : Int → rdS} (hD : stOK D) (h : mV D V s0) (hV : ∀ j, 18 ≤ j → V' j = V j) (h1 : D'.2.2 = D.2.2) (hs : seR D' V') (hg : scR (sF D') (sG D') V') : mV D' V' s0 := by
  refine mV.mk hs (bnR_c hD.1.2.1.1 (fun j a b => hV j (by omega)) (congrArg (fun x => x.1) h1) (congrArg (fun x => x.2.1) h1) (congrArg (fun x => x.2.2.1) h1) (congrArg (fun x => x.2.2.2.1) h1) h.bn) (rlR_c hD.1.2.2.1.1.2 (fun j a b => hV j (by omega)) (hV 18 (by decide)) (congrArg (fun x => x.2.2.2.2.1) h1) (congrArg (fun x => x.2.2.2.2.2.1) h1) h.rl) hg (lsR_c hD.2.1.1.2 hD.2.2.1.1.2 (fun j a b => hV j (by omega)) (hV 19 (by decide)) (hV 20 (by decide)) (hV 21 (by decide)) (congrArg (fun x => x.2.2.2.2.2.2) h1) h.ls)
theorem scR_c {F F' g V V' : Int → Int} (hV : ∀ j, 8 ≤ j → j < 18 → V' j = V j) (h : scR F g V) : scR F' g V' := by
  obtain ⟨⟨a8, a9, a10, a11, a12, a13⟩, ⟨k0, k6⟩, k7, k8, k9⟩ := h
  unfold scR
  rw [hV 8 (by decide) (by decide), hV 9 (by decide) (by decide), hV 10 (by decide) (by decide), hV 11 (by decide) (by decide), hV 12 (by decide) (by decide), hV 13 (by decide) (by decide), hV 17 (by decide) (by decide), hV (14 + (V 17 + 2) % 3) (by omega) (by omega), hV (14 + (V 17 + 1) % 3) (by omega) (by omega), hV (14 + V 17 % 3) (by omega) (by omega)]
  exact ⟨⟨a8, a9, a10, a11, a12, a13⟩, ⟨k0, k6⟩, k7, k8, k9⟩
theorem mV_set {D : SD} {V : Int → Int} {s0 : Int → rdS} (hD : stOK D) (h : mV D V s0) {i x : Int} (i0 : 0 ≤ i) (i8 : i < 8) : mV (wF D (updZ (sF D) i x)) (updZ V i x) s0 := by
  refine mV_sc hD h (fun j hj => updZ_ne _ _ (by omega)) rfl (fun k k0 k8 => ?_) (scR_c (fun j a b => updZ_ne _ _ (by omega)) h.sc)
  show updZ V i x k = updZ (sF D) i x k
  unfold updZ
  split
  · rfl
  · exact h.se k k0 k8
theorem mV_load {D : SD} {V : Int → Int} {s0 : Int → rdS} (hD : stOK D) (h : mV D V s0) {x : Int} : mV (wG D (scLoad (sG D) x)) (updZ (updZ V 8 x) 17 0) s0 := by
  refine mV_sc hD h (fun j hj => by rw [updZ_ne _ _ (by omega), updZ_ne _ _ (by omega)]) rfl (fun k k0 k8 => ?_) ?_
  · rw [updZ_ne _ _ (by omega), updZ_ne _ _ (by omega)]
    exact h.se k k0 k8
  · obtain ⟨⟨a8, a9, a10, a11, a12, a13⟩, ⟨k0, k6⟩, k7, k8, k9⟩ := h.sc
    exact ⟨⟨rfl, a9, a10, a11, a12, a13⟩, ⟨Int.le_refl 0, rfl⟩, fun q => absurd (show (1 : Int) ≤ 0 from q) (by decide), fun q => absurd (show (2 : Int) ≤ 0 from q) (by decide), fun q => absurd (show (3 : Int) ≤ 0 from q) (by decide)⟩
theorem mV_zero {D : SD} {V : Int → Int} {s0 : Int → rdS} (hD : stOK D) (h : mV D V s0) : mV (wG D (updZ (updZ (sG D) 2 (scRaw (sF D) (sG D))) 3 0)) (updZ (updZ V 10 (rawV V)) 11 0) s0 := by
  have hr := raw_R h
  refine mV_sc hD h (fun j hj => by rw [updZ_ne _ _ (by omega), updZ_ne _ _ (by omega)]) rfl (fun k k0 k8 => ?_) ?_
  · rw [updZ_ne _ _ (by omega), updZ_ne _ _ (by omega)]
    exact h.se k k0 k8
  · obtain ⟨⟨a8, a9, a10, a11, a12, a13⟩, ⟨k0, k6⟩, k7, k8, k9⟩ := h.sc
    have e : ∀ j, 12 ≤ j → updZ (updZ V 10 (rawV V)) 11 0 j = V j := fun j hj => by rw [updZ_ne _ _ (by omega), updZ_ne _ _ (by omega)]
    refine ⟨⟨a8, a9, hr, rfl, a12, a13⟩, ⟨k0, k6⟩, fun q => ?_, fun q => ?_, fun q => ?_⟩
    · show sG D 7 = _; rw [e 17 (by decide), e _ (by omega)]; exact k7 q
    · show sG D 8 = _; rw [e 17 (by decide), e _ (by omega)]; exact k8 q
    · show sG D 9 = _; rw [e 17 (by decide), e _ (by omega)]; exact k9 q
theorem mV_tare {D : SD} {V : Int → Int} {s0 : Int → rdS} (hD : stOK D) (h : mV D V s0) : mV (wG D (updZ (sG D) 3 (scGross (sF D) (sG D)))) (updZ V 11 (groV V)) s0 := by
  have hr := gro_R h
  refine mV_sc hD h (fun j hj => updZ_ne _ _ (by omega)) rfl (fun k k0 k8 => ?_) ?_
  · rw [updZ_ne _ _ (by omega)]
    exact h.se k k0 k8
  · obtain ⟨⟨a8, a9, a10, a11, a12, a13⟩, ⟨k0, k6⟩, k7, k8, k9⟩ := h.sc
    have e : ∀ j, 12 ≤ j → updZ V 11 (groV V) j = V j := fun j hj => updZ_ne _ _ (by omega)
    refine ⟨⟨a8, a9, a10, hr, a12, a13⟩, ⟨k0, k6⟩, fun q => ?_, fun q => ?_, fun q => ?_⟩
    · show sG D 7 = _; rw [e 17 (by decide), e _ (by omega)]; exact k7 q
    · show sG D 8 = _; rw [e 17 (by decide), e _ (by omega)]; exact k8 q
    · show sG D 9 = _; rw [e 17 (by decide), e _ (by omega)]; exact k9 q
theorem pa_v (V : Int → Int) : (∀ j, j ≠ 9 → j ≠ 10 → j ≠ 12 → j ≠ 13 → j ≠ 14 + V 17 % 3 → j ≠ 17 → pasV V j = V j) ∧ pasV V 9 = V 9 + V 0 ∧ pasV V 13 = V 13 + 1 ∧ pasV V (14 + V 17 % 3) = rawV (pa1 V) ∧ pasV V 17 = V 17 + 1 ∧ (pasV V 12 = if (if zabs (rawV (pa1 V) - V 10) ≤ V 5 then V 12 + 1 else 0) = 3 then 0 else if zabs (rawV (pa1 V) - V 10) ≤ V 5 then V 12 + 1 else 0) ∧ (pasV V 10 = if (if zabs (rawV (pa1 V) - V 10) ≤ V 5 then V 12 + 1 else 0) = 3 then rawV (pa1 V) else V 10) := by
  have hm : 0 ≤ V 17 % 3 ∧ V 17 % 3 < 3 := by omega
  have p12 : pa3 V 12 = if zabs (rawV (pa1 V) - V 10) ≤ V 5 then V 12 + 1 else 0 := updZ_eq _ _ _
  have p3 : ∀ j, j ≠ 12 → pa3 V j = pa2 V j := fun j hj => updZ_ne _ _ hj
  have p2 : ∀ j, j ≠ 17 → j ≠ 14 + V 17 % 3 → pa2 V j = pa1 V j := fun j h1 h2 => by unfold pa2; rw [updZ_ne _ _ h1, updZ_ne _ _ h2]
  have p217 : pa2 V 17 = V 17 + 1 := updZ_eq _ _ _
  have p214 : pa2 V (14 + V 17 % 3) = rawV (pa1 V) := by unfold pa2; rw [updZ_ne _ _ (by omega), updZ_eq]
  have p19 : pa1 V 9 = V 9 + V 0 := updZ_eq _ _ _
  have p113 : pa1 V 13 = V 13 + 1 := by unfold pa1; rw [updZ_ne _ _ (by decide), updZ_eq]
  have p1 : ∀ j, j ≠ 9 → j ≠ 13 → pa1 V j = V j := fun j h1 h2 => pa1_v V ⟨h1, h2⟩
  have q : ∀ j, j ≠ 10 → j ≠ 12 → pasV V j = pa3 V j := fun j h1 h2 => by
    unfold pasV
    split
    · rw [updZ_ne _ _ h2, updZ_ne _ _ h1]
    · rfl
  refine ⟨fun j a b c d e f => by rw [q j b c, p3 j c, p2 j f e, p1 j a d], ?_, ?_, ?_, ?_, ?_, ?_⟩
  · rw [q 9 (by decide) (by decide), p3 9 (by decide), p2 9 (by decide) (by omega), p19]
  · rw [q 13 (by decide) (by decide), p3 13 (by decide), p2 13 (by decide) (by omega), p113]
  · rw [q _ (by omega) (by omega), p3 _ (by omega), p214]
  · rw [q 17 (by decide) (by decide), p3 17 (by decide), p217]
  · rw [← p12]
    unfold pasV
    by_cases hc : pa3 V 12 = 3
    · rw [if_pos hc, if_pos hc, updZ_eq]
    · rw [if_neg hc, if_neg hc]
  · rw [← p12]
    unfold pasV
    by_cases hc : pa3 V 12 = 3
    · rw [if_pos hc, if_pos hc, updZ_ne _ _ (by decide), updZ_eq]
    · rw [if_neg hc, if_neg hc, p3 10 (by decide), p2 10 (by decide) (by omega), p1 10 (by decide) (by decide)]
theorem scR_pas {F g V : Int → Int} (hF : ∀ i, 0 ≤ i → i < 8 → V i = F i) (h : scR F g V) : scR F (scPass F g) (pasV V) := by
  obtain ⟨⟨a8, a9, a10, a11, a12, a13⟩, ⟨k0, k6⟩, k7, k8, k9⟩ := h
  obtain ⟨u, u9, u13, u14, u17, u12, u10⟩ := pa_v V
  have hr : rawV (pa1 V) = scRaw F (scStep F g) := by
    have e1 : pa1 V 9 = V 9 + V 0 := updZ_eq _ _ _
    unfold rawV scRaw
    rw [e1, pa1_v V (j := 8) (by decide), pa1_v V (j := 1) (by decide), a8, a9, hF 0 (by decide) (by decide), hF 1 (by decide) (by decide)]
    rfl
  have hm : 0 ≤ V 17 % 3 ∧ V 17 % 3 < 3 := by omega
  generalize hraw : scRaw F (scStep F g) = r at hr
  have hg1 : scPass F g = scTrack F (scPut (scStep F g) r) := by unfold scPass; rw [hraw]
  have hr1 : scRaw F (scPut (scStep F g) r) = r := by rw [← hraw]; rfl
  have ht : scTr1 F (scPut (scStep F g) r) = if zabs (rawV (pa1 V) - V 10) ≤ V 5 then V 12 + 1 else 0 := by
    unfold scTr1
    rw [hr1, hr, a10, a12, hF 5 (by decide) (by decide)]
    rfl
  have w : ∀ j, j ≠ 2 → j ≠ 5 → scPass F g j = scPut (scStep F g) r j := fun j h1 h2 => by
    rw [hg1]
    unfold scTrack
    split
    · rw [updZ_ne _ _ h2, updZ_ne _ _ h1]
    · rw [updZ_ne _ _ h2]
  have w5 : scPass F g 5 = if scTr1 F (scPut (scStep F g) r) = 3 then 0 else scTr1 F (scPut (scStep F g) r) := by
    rw [hg1]
    unfold scTrack
    by_cases hc : scTr1 F (scPut (scStep F g) r) = 3
    · rw [if_pos hc, if_pos hc, updZ_eq]
    · rw [if_neg hc, if_neg hc, updZ_eq]
  have w2 : scPass F g 2 = if scTr1 F (scPut (scStep F g) r) = 3 then r else g 2 := by
    rw [hg1]
    unfold scTrack
    by_cases hc : scTr1 F (scPut (scStep F g) r) = 3
    · rw [if_pos hc, if_pos hc, updZ_ne _ _ (by decide), updZ_eq, hr1]
    · rw [if_neg hc, if_neg hc, updZ_ne _ _ (by decide)]
      rfl
  have n0 : scPut (scStep F g) r 0 = g 0 := rfl
  have n1 : scPut (scStep F g) r 1 = g 1 + 1 := rfl
  have n3 : scPut (scStep F g) r 3 = g 3 := rfl
  have n4 : scPut (scStep F g) r 4 = g 4 + F 0 := rfl
  have n6 : scPut (scStep F g) r 6 = if 3 < g 6 + 1 then 3 else g 6 + 1 := rfl
  have n7 : scPut (scStep F g) r 7 = r := rfl
  have n8 : scPut (scStep F g) r 8 = g 7 := rfl
  have n9 : scPut (scStep F g) r 9 = g 8 := rfl
  refine ⟨⟨?_, ?_, ?_, ?_, ?_, ?_⟩, ⟨by rw [u17]; omega, ?_⟩, fun q => ?_, fun q => ?_, fun q => ?_⟩
  · rw [w 0 (by decide) (by decide), n0, u 8 (by decide) (by decide) (by decide) (by decide) (by omega) (by decide)]; exact a8
  · rw [w 4 (by decide) (by decide), n4, u9, a9, hF 0 (by decide) (by decide)]
  · rw [w2, u10, ht, hr, a10]
  · rw [w 3 (by decide) (by decide), n3, u 11 (by decide) (by decide) (by decide) (by decide) (by omega) (by decide)]; exact a11
  · rw [w5, u12, ht]
  · rw [w 1 (by decide) (by decide), n1, u13, a13]
  · rw [w 6 (by decide) (by decide), n6, u17, k6]
    (repeat' split) <;> omega
  · rw [w 7 (by decide) (by decide), n7, u17, show (V 17 + 1 + 2) % 3 = V 17 % 3 by omega, u14, hr]
  · rw [u17] at q
    rw [w 8 (by decide) (by decide), n8, u17, show (V 17 + 1 + 1) % 3 = (V 17 + 2) % 3 by omega, u _ (by omega) (by omega) (by omega) (by omega) (by omega) (by omega)]
    exact k7 (by omega)
  · rw [u17] at q
    rw [w 9 (by decide) (by decide), n9, u17, u _ (by omega) (by omega) (by omega) (by omega) (by omega) (by omega)]
    exact k8 (by omega)
theorem pas_lo (V : Int → Int) {j : Int} (h : j < 8 ∨ 18 ≤ j) : pasV V j = V j := (pa_v V).1 j (by omega) (by omega) (by omega) (by omega) (by omega) (by omega)
theorem mV_tick {D : SD} {V : Int → Int} {s0 : Int → rdS} (hD : stOK D) (h : mV D V s0) (n : Nat) : mV (wG D (tkN (sF D) (sG D) n)) (tikV V n) s0 := by
  have hj : ∀ (n : Nat) (j : Int), j < 8 ∨ 18 ≤ j → tikV V n j = V j := by
    intro n
    induction n with
    | zero => intro j _; rfl
    | succ n ih => intro j hj; exact (pas_lo _ hj).trans (ih j hj)
  refine mV_sc hD h (fun j a => hj n j (Or.inr a)) rfl (fun i i0 i8 => by rw [hj n i (Or.inl i8)]; exact h.se i i0 i8) ?_
  show scR (sF D) (tkN (sF D) (sG D) n) (tikV V n)
  induction n with
  | zero => exact h.sc
  | succ n ih =>
    exact scR_pas (fun i i0 i8 => by rw [hj n i (Or.inl i8)]; exact h.se i i0 i8) ih
