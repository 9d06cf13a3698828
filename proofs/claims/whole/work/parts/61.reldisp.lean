/-! ===== the relation through acts: take in range; dispute; settle ===== -/
theorem stOK_take {D : SD} (h : stOK D) {a b c z : Int} (ha : 1 ≤ a ∧ a ≤ 2000) (hb : 1 ≤ b ∧ b ≤ 2000) (hc : 1 ≤ c ∧ c ≤ 2000) (z0 : 0 ≤ z) (z3 : z ≤ 3) (hC : 0 < sC D z) (hp : snP D < 30) (ho : scOver (sF D) (sG D) = false) (hw : 1 ≤ scGross (sF D) (sG D) - sG D 3) : stOK (takD D a b c z) ∧ (wyD D → wyD (takD D a b c z)) := by
  have hgb := scGross_b h.1.1.1 h.1.1.2
  have hov := of_decide_eq_false ho
  obtain ⟨⟨-, -, f2, f3⟩, -⟩ := h.1.1.1
  have h3 := h.2.2.2.2.1
  have hnP := h.2.1.1
  obtain ⟨wt, ewt⟩ : ∃ y, y = scGross (sF D) (sG D) - sG D 3 := ⟨_, rfl⟩
  rw [← ewt] at hw
  have hwt : 1 ≤ wt ∧ wt ≤ 100000 := ⟨hw, by omega⟩
  have eP : takD D a b c z = wP D (snP D + 1) (prD D (dsc (sP D) (snP D) wt a b c z) (snP D)) := by unfold takD; rw [← ewt]
  have d0 : dsc (sP D) (snP D) wt a b c z (snP D) 0 = wt := by unfold dsc; rw [upd2_nc _ (by decide), upd2_nc _ (by decide), upd2_nc _ (by decide), upd2_nc _ (by decide), upd2_eq]
  have d1 : dsc (sP D) (snP D) wt a b c z (snP D) 1 = a := by unfold dsc; rw [upd2_nc _ (by decide), upd2_nc _ (by decide), upd2_nc _ (by decide), upd2_eq]
  have d2 : dsc (sP D) (snP D) wt a b c z (snP D) 2 = b := by unfold dsc; rw [upd2_nc _ (by decide), upd2_nc _ (by decide), upd2_eq]
  have d3 : dsc (sP D) (snP D) wt a b c z (snP D) 3 = c := by unfold dsc; rw [upd2_nc _ (by decide), upd2_eq]
  have d4 : dsc (sP D) (snP D) wt a b c z (snP D) 4 = z := by unfold dsc; rw [upd2_eq]
  have hdi : ∀ i, i ≠ snP D → dsc (sP D) (snP D) wt a b c z i = sP D i := fun i hi => by
    funext j
    unfold dsc
    rw [upd2_nr _ hi, upd2_nr _ hi, upd2_nr _ hi, upd2_nr _ hi, upd2_nr _ hi]
  have hri : rowIn D (dsc (sP D) (snP D) wt a b c z) (snP D) := by
    unfold rowIn
    rw [d0, d1, d2, d3, d4]
    exact ⟨⟨by omega, by omega⟩, ha, hb, hc, ⟨z0, by omega⟩, by omega, dsc_in h.2.1.2.1 ⟨by omega, by omega⟩ ⟨by omega, by omega⟩ ⟨by omega, by omega⟩ ⟨by omega, by omega⟩ ⟨by omega, by omega⟩⟩
  have hro := rowOK_pr h.1 hri (by rw [d0]; exact hwt)
  have hin := (prD_v h.1 hri).2.2.2.2.2.2.2.2.1
  rw [eP]
  refine ⟨⟨h.1, ⟨⟨by show 0 ≤ snP D + 1; omega, by show snP D + 1 ≤ 30; omega⟩, hin, fun p p0 p1 => ?_⟩, ⟨h.2.2.1.1, h.2.2.1.2.1, fun n n0 n1 => ?_⟩, h.2.2.2.1, h.2.2.2.2⟩, fun hw2 => ⟨fun p p0 p1 => ?_, hw2.2⟩⟩
  · have p1 : p < snP D + 1 := p1
    by_cases hpn : p = snP D
    · rw [hpn]; exact hro.1
    · have h2 := h.2.1.2.2 p p0 (by omega)
      show rowOK (prD D (dsc (sP D) (snP D) wt a b c z) (snP D)) p
      unfold rowOK at h2 ⊢
      rw [prD_i hpn, hdi p hpn]
      exact h2
  · obtain ⟨o0, o1⟩ := h.2.2.1.2.2 n n0 n1
    exact ⟨⟨o0.1, by show sN D n 0 < snP D + 1; omega⟩, o1⟩
  · have p1 : p < snP D + 1 := p1
    show wyK (prD D (dsc (sP D) (snP D) wt a b c z) (snP D) p)
    by_cases hpn : p = snP D
    · rw [hpn]; exact hro.2
    · rw [prD_i hpn, hdi p hpn]
      exact hw2.1 p p0 (by omega)
/-! dispute -/
theorem stOK_disp {D : SD} (h : stOK D) {p x y : Int} (hp : 0 ≤ p ∧ p < snP D) (hx : 0 ≤ x ∧ x ≤ 3) (hy : 1 ≤ y ∧ y ≤ (if x = 0 then 100000 else 2000)) (hc : 0 < sC D (sP D p 4)) (hn : snN D < 20) : stOK (dspD D p x y) ∧ (wyD D → wyD (dspD D p x y)) := by
  have hri := clmK_ok h hp hx hy hc
  have hnP := h.2.1.1
  have hnN := h.2.2.1.1
  have hy2 : y ≤ 100000 := by have := hy.2; split at this <;> omega
  have e0 : clmK D p x y (snN D) 0 = if 0 = x then y else sP D p 0 := clmK_r ⟨hp.1, by omega⟩ ⟨by decide, by decide⟩
  have hr0 := (h.2.1.2.2 p hp.1 hp.2).1
  have hro := rowOK_pr h.1 hri (by rw [e0]; split <;> omega)
  have hin := (prD_v h.1 hri).2.2.2.2.2.2.2.2.1
  have v8 := (prD_v h.1 hri).2.2.2.2.1
  have hki : ∀ i, i ≠ snN D → prD D (clmK D p x y) (snN D) i = sK D i := fun i hi => by
    rw [prD_i hi]
    funext j
    unfold clmK
    rw [upd2_nr _ hi]
    exact if_neg hi
  obtain ⟨P8, e8⟩ : ∃ q, q = prD D (clmK D p x y) (snN D) (snN D) 8 := ⟨_, rfl⟩
  rw [← e8] at v8
  have hN : sN (dspD D p x y) = upd2 (upd2 (upd2 (upd2 (upd2 (upd2 (sN D) (snN D) 0 p) (snN D) 1 x) (snN D) 2 y) (snN D) 3 P8) (snN D) 4 0) (snN D) 5 0 := by rw [e8]; rfl
  have hNi : ∀ i, i ≠ snN D → sN (dspD D p x y) i = sN D i := fun i hi => by
    funext j
    rw [hN, upd2_nr _ hi, upd2_nr _ hi, upd2_nr _ hi, upd2_nr _ hi, upd2_nr _ hi, upd2_nr _ hi]
  refine ⟨⟨h.1, h.2.1, ⟨⟨by show 0 ≤ snN D + 1; omega, by show snN D + 1 ≤ 20; omega⟩, ?_, fun n n0 n1 => ?_⟩, ⟨rfl, hin, fun n n0 n1 => ?_⟩, h.2.2.2.2⟩, fun hw2 => ⟨hw2.1, fun n n0 n1 => ?_⟩⟩
  · rw [hN]
    exact upd2_in (upd2_in (upd2_in (upd2_in (upd2_in (upd2_in h.2.2.1.2.1 ⟨by omega, by omega⟩) ⟨by omega, by omega⟩) ⟨by omega, by omega⟩) ⟨by omega, by omega⟩) ⟨by decide, by decide⟩) ⟨by decide, by decide⟩
  · have n1 : n < snN D + 1 := n1
    by_cases hnn : n = snN D
    · subst hnn
      have f0 : sN (dspD D p x y) (snN D) 0 = p := by rw [hN, upd2_nc _ (by decide), upd2_nc _ (by decide), upd2_nc _ (by decide), upd2_nc _ (by decide), upd2_nc _ (by decide), upd2_eq]
      have f1 : sN (dspD D p x y) (snN D) 1 = x := by rw [hN, upd2_nc _ (by decide), upd2_nc _ (by decide), upd2_nc _ (by decide), upd2_nc _ (by decide), upd2_eq]
      have f2 : sN (dspD D p x y) (snN D) 2 = y := by rw [hN, upd2_nc _ (by decide), upd2_nc _ (by decide), upd2_nc _ (by decide), upd2_eq]
      have f3 : sN (dspD D p x y) (snN D) 3 = P8 := by rw [hN, upd2_nc _ (by decide), upd2_nc _ (by decide), upd2_eq]
      have f4 : sN (dspD D p x y) (snN D) 4 = 0 := by rw [hN, upd2_nc _ (by decide), upd2_eq]
      have f5 : sN (dspD D p x y) (snN D) 5 = 0 := by rw [hN, upd2_eq]
      unfold ntOK
      rw [f0, f1, f2, f3, f4, f5]
      exact ⟨hp, hx, hy, v8, ⟨by decide, by decide⟩, ⟨by decide, by decide⟩⟩
    · have h2 := h.2.2.1.2.2 n n0 (by omega)
      unfold ntOK at h2 ⊢
      rw [hNi n hnn]
      exact h2
  · have n1 : n < snN D + 1 := n1
    show rowOK (prD D (clmK D p x y) (snN D)) n
    by_cases hnn : n = snN D
    · rw [hnn]; exact hro.1
    · have h2 := h.2.2.2.1.2.2 n n0 (by omega)
      unfold rowOK at h2 ⊢
      rw [hki n hnn]
      exact h2
  · have n1 : n < snN D + 1 := n1
    show wyK (prD D (clmK D p x y) (snN D) n)
    by_cases hnn : n = snN D
    · rw [hnn]; exact hro.2
    · rw [hki n hnn]
      exact hw2.2 n n0 (by omega)
theorem mV_disp {D : SD} {V MK MM CH AM : Int → Int} {s0 : Int → rdS} (hD : stOK D) (h : mV D V s0) (hrd : ∀ j, 0 ≤ j → j < V 18 → Read (txT V j) (s0 j) j (V (80 + 61 * j)) MK (MM j) (CH j) (AM j) ∧ 0 ≤ MM j ∧ MM j ≤ 60) {p x y : Int} (hp : 0 ≤ p ∧ p < snP D) (hx : 0 ≤ x ∧ x ≤ 3) (hc : 0 < sC D (sP D p 4)) (hn : snN D < 20) (hop : openZ D p = -1000009) : mV (dspD D p x y) (diV V (wiW V MK MM CH AM p x y) p x y) s0 := by
  obtain ⟨⟨h19, h20, h21⟩, hpa, hno, hu, hu5⟩ := h.ls
  have hnP := hD.2.1.1
  have hnN := hD.2.2.1.1
  have r4 := (hD.2.1.2.2 p hp.1 hp.2).2.2.2.2.1
  have hk : ∀ j, 0 ≤ j → j ≤ 4 → clmK D p x y (snN D) j = if j = x then y else sP D p j := fun j a b => clmK_r ⟨hp.1, by omega⟩ ⟨a, by omega⟩
  have hwi : ∀ i, 0 ≤ i → i ≤ 4 → wiV V p x y i = clmK D p x y (snN D) i := fun i i0 i4 => by
    rw [hk i i0 i4]
    unfold wiV
    rw [h.col hp.1 hp.2 i0 (by omega)]
    by_cases e : x = i
    · rw [if_pos e, if_pos e.symm]
    · rw [if_neg e, if_neg (fun q => e q.symm)]
  have k4 : clmK D p x y (snN D) 4 = sP D p 4 := by rw [hk 4 (by decide) (by decide), if_neg (by omega)]
  obtain ⟨q1, q2, -, q4⟩ := price_R h.1 hD.1 hrd (P := clmK D p x y) (row := snN D) (by rw [k4]; exact r4.1) (by rw [k4]; exact r4.2) (by rw [k4]; omega)
  obtain ⟨W, eW⟩ : ∃ W, W = wiW V MK MM CH AM p x y := ⟨_, rfl⟩
  have eW2 : wkM V MK MM CH AM (clmK D p x y (snN D) 0) (clmK D p x y (snN D) 1) (clmK D p x y (snN D) 2) (clmK D p x y (snN D) 3) (clmK D p x y (snN D) 4) = W := by
    rw [eW]
    unfold wiW
    rw [hwi 0 (by decide) (by decide), hwi 1 (by decide) (by decide), hwi 2 (by decide) (by decide), hwi 3 (by decide) (by decide), k4, h.col hp.1 hp.2 (c := 4) (by decide) (by decide)]
  rw [eW2] at q1
  rw [← eW]
  have hki : ∀ i, i ≠ snN D → prD D (clmK D p x y) (snN D) i = sK D i := fun i hi => by
    rw [prD_i hi]
    funext j
    unfold clmK
    rw [upd2_nr _ hi]
    exact if_neg hi
  obtain ⟨P8, e8⟩ : ∃ q, q = prD D (clmK D p x y) (snN D) (snN D) 8 := ⟨_, rfl⟩
  have hN : sN (dspD D p x y) = upd2 (upd2 (upd2 (upd2 (upd2 (upd2 (sN D) (snN D) 0 p) (snN D) 1 x) (snN D) 2 y) (snN D) 3 P8) (snN D) 4 0) (snN D) 5 0 := by rw [e8]; rfl
  have hNi : ∀ i, i ≠ snN D → sN (dspD D p x y) i = sN D i := fun i hi => by
    funext j
    rw [hN, upd2_nr _ hi, upd2_nr _ hi, upd2_nr _ hi, upd2_nr _ hi, upd2_nr _ hi, upd2_nr _ hi]
  have f0 : sN (dspD D p x y) (snN D) 0 = p := by rw [hN, upd2_nc _ (by decide), upd2_nc _ (by decide), upd2_nc _ (by decide), upd2_nc _ (by decide), upd2_nc _ (by decide), upd2_eq]
  have f1 : sN (dspD D p x y) (snN D) 1 = x := by rw [hN, upd2_nc _ (by decide), upd2_nc _ (by decide), upd2_nc _ (by decide), upd2_nc _ (by decide), upd2_eq]
  have f2 : sN (dspD D p x y) (snN D) 2 = y := by rw [hN, upd2_nc _ (by decide), upd2_nc _ (by decide), upd2_nc _ (by decide), upd2_eq]
  have f3 : sN (dspD D p x y) (snN D) 3 = P8 := by rw [hN, upd2_nc _ (by decide), upd2_nc _ (by decide), upd2_eq]
  have f4 : sN (dspD D p x y) (snN D) 4 = 0 := by rw [hN, upd2_nc _ (by decide), upd2_eq]
  have f5 : sN (dspD D p x y) (snN D) 5 = 0 := by rw [hN, upd2_eq]
  have hV : ∀ j, j ≠ 20 → (j < 940 + 12 * snN D ∨ 940 + 12 * snN D + 12 ≤ j) → diV V W p x y j = V j := fun j j1 j2 => by
    unfold diV
    rw [updZ_ne _ _ j1]
    unfold actW
    rw [if_neg (by omega)]
  have hW : ∀ i, 0 ≤ i → i < 12 → diV V W p x y (940 + 12 * snN D + i) = ntF p x y W i := fun i i0 i1 => by
    unfold diV
    rw [updZ_ne _ _ (by omega), h20]
    unfold actW
    rw [if_pos (by omega)]
    congr 1
    omega
  have hKn : sK (dspD D p x y) = prD D (clmK D p x y) (snN D) := rfl
  have hPn : sP (dspD D p x y) = sP D := rfl
  refine mV_pn hD h (fun j hj => hV j (by omega) (by omega)) ⟨rfl, rfl, rfl, rfl, rfl, rfl, rfl, rfl⟩ ⟨⟨?_, ?_, ?_⟩, fun q q0 q1' => ?_, fun n n0 n1 => ?_, ?_, ?_⟩
  · show diV V W p x y 19 = snP D
    rw [hV 19 (by decide) (by omega)]; exact h19
  · show diV V W p x y 20 = snN D + 1
    unfold diV
    rw [updZ_eq, h20]
  · show diV V W p x y 21 = zsum (fun r => sN (dspD D p x y) r 5) (snN D + 1).toNat
    rw [hV 21 (by decide) (by omega), h21, zsum_s _ (show 0 ≤ snN D from hnN.1), f5, Int.add_zero]
    exact zsum_c _ (fun i a b => by rw [hNi i (by omega)])
  · obtain ⟨⟨r1, r2, r3, r4⟩, r5⟩ := hpa q q0 q1'
    have q1' : q < snP D := q1'
    refine ⟨⟨fun k k0 k8 => ?_, ?_, ?_, ?_⟩, r5⟩
    · show diV V W p x y (570 + 12 * q + k) = _
      rw [hV _ (by omega) (by omega)]; exact r1 k k0 k8
    · show diV V W p x y (570 + 12 * q + 9) = _
      rw [hV _ (by omega) (by omega)]; exact r2
    · show diV V W p x y (570 + 12 * q + 10) = _
      rw [hV _ (by omega) (by omega)]; exact r3
    · show heldR _ (diV V W p x y (570 + 12 * q + 11))
      rw [hV _ (by omega) (by omega)]; exact r4
  · have n1 : n < snN D + 1 := n1
    unfold notR
    rw [hKn, hPn]
    by_cases hnn : n = snN D
    · subst hnn
      rw [f0, f1, f2, f3, f4]
      refine ⟨fun c c0 c5 => ?_, ⟨?_, ?_, ?_⟩, ⟨?_, ?_, ?_⟩, e8.symm, ?_, fun _ c c0 c4 => ?_⟩
      · rw [hW c c0 (by omega)]
        rcases (show c = 0 ∨ c = 1 ∨ c = 2 ∨ c = 3 ∨ c = 4 ∨ c = 5 by omega) with e | e | e | e | e | e <;> subst e
        · exact f0.symm
        · exact f1.symm
        · exact f2.symm
        · rw [f3, e8]; exact q1.1 8 (by decide) (by decide)
        · exact f4.symm
        · exact f5.symm
      · rw [hW 6 (by decide) (by decide)]; exact q1.1 5 (by decide) (by decide)
      · rw [hW 7 (by decide) (by decide)]; exact q1.1 6 (by decide) (by decide)
      · rw [hW 8 (by decide) (by decide)]; exact q1.1 7 (by decide) (by decide)
      · rw [hW 9 (by decide) (by decide)]; exact q1.2.1
      · rw [hW 10 (by decide) (by decide)]; exact q1.2.2.1
      · rw [hW 11 (by decide) (by decide)]; exact q1.2.2.2
      · rw [q2, q4 1 (by decide), q4 2 (by decide), q4 3 (by decide)]
      · rw [q4 c c4, hk c c0 c4]
    · obtain ⟨w1, ⟨w6, w7, w8⟩, ⟨w9, w10, w11⟩, w12, w13, w14⟩ := hno n n0 (by omega)
      rw [hki n hnn, hNi n hnn]
      refine ⟨fun k k0 k5 => ?_, ⟨?_, ?_, ?_⟩, ⟨?_, ?_, ?_⟩, w12, w13, w14⟩
      · rw [hV _ (by omega) (by omega)]; exact w1 k k0 k5
      · rw [hV _ (by omega) (by omega)]; exact w6
      · rw [hV _ (by omega) (by omega)]; exact w7
      · rw [hV _ (by omega) (by omega)]; exact w8
      · rw [hV _ (by omega) (by omega)]; exact w9
      · rw [hV _ (by omega) (by omega)]; exact w10
      · rw [hV _ (by omega) (by omega)]; exact w11
  · intro n m n0 n1 m0 m1 o1 o2 o3
    have n1 : n < snN D + 1 := n1
    have m1 : m < snN D + 1 := m1
    by_cases hnn : n = snN D
    · by_cases hmm : m = snN D
      · rw [hnn, hmm]
      · rw [hNi m hmm] at o2 o3
        rw [hnn, f0] at o3
        exact absurd ⟨o3.symm, o2⟩ (open_no hop m0 (by omega))
    · by_cases hmm : m = snN D
      · rw [hNi n hnn] at o1 o3
        rw [hmm, f0] at o3
        exact absurd ⟨o3, o1⟩ (open_no hop n0 (by omega))
      · rw [hNi n hnn] at o1 o3
        rw [hNi m hmm] at o2 o3
        exact hu n m n0 (by omega) m0 (by omega) o1 o2 o3
  · intro n n0 n1 o1
    have n1 : n < snN D + 1 := n1
    by_cases hnn : n = snN D
    · rw [hnn]; exact f5
    · rw [hNi n hnn] at o1 ⊢
      exact hu5 n n0 (by omega) o1
