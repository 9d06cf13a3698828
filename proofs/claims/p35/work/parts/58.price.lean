/-! ===== p35: prices by the five numbers of a parcel; what would be cheaper ===== -/
def rw5 (wt a b c z : Int) : Int → Int → Int := fun _ j => if j = 0 then wt else if j = 1 then a else if j = 2 then b else if j = 3 then c else z
def prW (D : SD) (wt a b c z : Int) : Int := prD D (rw5 wt a b c z) 0 0 8
theorem fact_c {f g : Int → Int} (h : ∀ j, j = 0 ∨ j = 4 ∨ j = 5 ∨ j = 6 ∨ j = 9 ∨ j = 10 → f j = g j) (t : Int) : factZ f t = factZ g t := by
  unfold factZ
  rcases colZ_v t with e | e | e | e | e | e | e <;> rw [e]
  · rw [if_neg (by decide), if_neg (by decide)]
  · rw [if_pos (by decide), if_pos (by decide), h 6 (by omega)]
  · rw [if_pos (by decide), if_pos (by decide), h 0 (by omega)]
  · rw [if_pos (by decide), if_pos (by decide), h 5 (by omega)]
  · rw [if_pos (by decide), if_pos (by decide), h 9 (by omega)]
  · rw [if_pos (by decide), if_pos (by decide), h 10 (by omega)]
  · rw [if_pos (by decide), if_pos (by decide), h 4 (by omega)]
theorem prD8_c {D : SD} (hn : snR D ≤ 8) {P Q : Int → Int → Int} {r s : Int} (h : ∀ j, 0 ≤ j → j ≤ 4 → P r j = Q s j) : prD D P r r 8 = prD D Q s s 8 := by
  obtain ⟨φ, eφ, -, -, -, -, v8, -⟩ := prD_w D hn P r
  obtain ⟨ψ, eψ, -, -, -, -, u8, -⟩ := prD_w D hn Q s
  have h0 := h 0 (by decide) (by decide)
  have h1 := h 1 (by decide) (by decide)
  have h2 := h 2 (by decide) (by decide)
  have h3 := h 3 (by decide) (by decide)
  have h4 := h 4 (by decide) (by decide)
  have ed : dimZ (sF D) P r = dimZ (sF D) Q s := by unfold dimZ; rw [h1, h2, h3]
  rw [v8, u8, ed, h0, h4]
  refine chV_f _ (fun q i _ _ _ _ => ?_)
  rw [eφ, eψ]
  obtain ⟨c0, c5, c6, -, c9, c10, -⟩ := prC_v (sF D) (sC D) (sE D) (sL D) (sQ D) P r
  obtain ⟨k0, k5, k6, -, k9, k10, -⟩ := prC_v (sF D) (sC D) (sE D) (sL D) (sQ D) Q s
  refine fact_c (fun j hj => ?_) _
  rcases hj with e | e | e | e | e | e <;> rw [e]
  · rw [c0 0 (by decide), k0 0 (by decide), h0]
  · rw [c0 4 (by decide), k0 4 (by decide), h4]
  · rw [c5, k5, ed]
  · rw [c6, k6, ed, h0]
  · rw [c9, k9, h1, h2, h3]
  · rw [c10, k10, h1, h2, h3]
theorem prW_of {D : SD} (hn : snR D ≤ 8) {P : Int → Int → Int} {r wt a b c z : Int} (h0 : P r 0 = wt) (h1 : P r 1 = a) (h2 : P r 2 = b) (h3 : P r 3 = c) (h4 : P r 4 = z) : prD D P r r 8 = prW D wt a b c z := by
  refine prD8_c hn (fun j j0 j4 => ?_)
  rcases (show j = 0 ∨ j = 1 ∨ j = 2 ∨ j = 3 ∨ j = 4 by omega) with e | e | e | e | e <;> rw [e]
  · exact h0
  · exact h1
  · exact h2
  · exact h3
  · exact h4
theorem lsZ_spec (f : Int → Int) (ch : Int) : ∀ (n : Nat) (i : Int), 0 ≤ i → (lsZ f ch n i = -1000009 ∧ ∀ e, i ≤ e → e < i + n → ch ≤ f e) ∨ (i ≤ lsZ f ch n i ∧ lsZ f ch n i < i + n ∧ f (lsZ f ch n i) < ch ∧ ∀ e, i ≤ e → e < lsZ f ch n i → ch ≤ f e)
  | 0, i, _ => Or.inl ⟨rfl, fun e a b => absurd b (by omega)⟩
  | n + 1, i, hi => by
    by_cases h : f i < ch
    · have e : lsZ f ch (n + 1) i = i := if_pos h
      rw [e]
      exact Or.inr ⟨by omega, by omega, h, fun e a b => absurd b (by omega)⟩
    · have e : lsZ f ch (n + 1) i = lsZ f ch n (i + 1) := if_neg h
      rw [e]
      have key : ∀ e, i ≤ e → ¬ i + 1 ≤ e → ch ≤ f e := fun e a b => by rw [show e = i by omega]; omega
      rcases lsZ_spec f ch n (i + 1) (by omega) with ⟨a, b⟩ | ⟨a, b, c, d⟩
      · refine Or.inl ⟨a, fun e e0 e1 => ?_⟩
        by_cases q : i + 1 ≤ e
        · exact b e q (by omega)
        · exact key e e0 q
      · refine Or.inr ⟨by omega, by omega, c, fun e e0 e1 => ?_⟩
        by_cases q : i + 1 ≤ e
        · exact d e q e1
        · exact key e e0 q
theorem prD_cols {D : SD} (hn : snR D ≤ 8) (P : Int → Int → Int) (r : Int) : (∀ j, j ≤ 4 → prD D P r r j = P r j) ∧ prD D P r r 6 = bilZ (sF D) (P r 0) (dimZ (sF D) P r) := by
  obtain ⟨φ, -, w0, -, w6, -⟩ := prD_w D hn P r
  exact ⟨w0, w6⟩
theorem ltgo_35 {D : SD} (h : ok35 D) {p : Int} (ch real : Int) : ∀ (k : Nat) (w : Int) (X : Int → Int → Int), (∀ j, 1 ≤ j → j ≤ 4 → X 0 j = sP D p j) → X 0 0 = w → X 0 6 = bilZ (sF D) w (dimZ (sF D) (sP D) p) → ltgo D ch real k X = leapZ (fun w => prW D w (sP D p 1) (sP D p 2) (sP D p 3) (sP D p 4)) (snW D (sP D p 4) (dimZ (sF D) (sP D) p)) ch real k w
  | 0, _, _, _, _, _ => rfl
  | k + 1, w, X, hX, h0, h6 => by
    have hn := h.1.1.2.2.1.1.2
    have e : snlZ D X 0 = snW D (sP D p 4) (dimZ (sF D) (sP D) p) w := by
      unfold snlZ snW
      rw [hX 4 (by decide) (by decide), h0, h6]
    obtain ⟨y, ey⟩ : ∃ y, y = snW D (sP D p 4) (dimZ (sF D) (sP D) p) w := ⟨_, rfl⟩
    have a0 : upd2 X 0 0 y 0 0 = y := upd2_eq _ _ _ _
    have a : ∀ j, 1 ≤ j → j ≤ 4 → upd2 X 0 0 y 0 j = sP D p j := fun j j1 j4 => by rw [upd2_nc _ (by omega), hX j j1 j4]
    have q1 : prD D (upd2 X 0 0 y) 0 0 8 = prW D y (sP D p 1) (sP D p 2) (sP D p 3) (sP D p 4) := prW_of hn a0 (a 1 (by decide) (by decide)) (a 2 (by decide) (by decide)) (a 3 (by decide) (by decide)) (a 4 (by decide) (by decide))
    obtain ⟨w0, w6⟩ := prD_cols hn (upd2 X 0 0 y) 0
    have ed : dimZ (sF D) (upd2 X 0 0 y) 0 = dimZ (sF D) (sP D) p := by
      unfold dimZ
      rw [a 1 (by decide) (by decide), a 2 (by decide) (by decide), a 3 (by decide) (by decide)]
    rw [ed, a0] at w6
    show (if snlZ D X 0 < 1 then -1000009 else if prD D (upd2 X 0 0 (snlZ D X 0)) 0 0 8 < ch then real - snlZ D X 0 else ltgo D ch real k (prD D (upd2 X 0 0 (snlZ D X 0)) 0)) = (if snW D (sP D p 4) (dimZ (sF D) (sP D) p) w < 1 then -1000009 else if prW D (snW D (sP D p 4) (dimZ (sF D) (sP D) p) w) (sP D p 1) (sP D p 2) (sP D p 3) (sP D p 4) < ch then real - snW D (sP D p 4) (dimZ (sF D) (sP D) p) w else leapZ (fun w => prW D w (sP D p 1) (sP D p 2) (sP D p 3) (sP D p 4)) (snW D (sP D p 4) (dimZ (sF D) (sP D) p)) ch real k (snW D (sP D p 4) (dimZ (sF D) (sP D) p) w))
    rw [e, ← ey, q1, ltgo_35 h ch real k y _ (fun j j1 j4 => by rw [w0 j j4]; exact a j j1 j4) (by rw [w0 0 (by decide)]; exact a0) w6]
theorem lt_spec {D : SD} (h : ok35 D) (Tr : Int → Int → Int) {p : Int} (hp : 0 ≤ p ∧ p < snP D) (hc : 0 < sC D (sP D p 4)) : (ltZ D Tr p = -1000009 ∧ ∀ w, 1 ≤ w → w ≤ sP D p 0 → prW D (sP D p 0) (sP D p 1) (sP D p 2) (sP D p 3) (sP D p 4) ≤ prW D w (sP D p 1) (sP D p 2) (sP D p 3) (sP D p 4)) ∨ (0 < ltZ D Tr p ∧ ltZ D Tr p < sP D p 0 ∧ prW D (sP D p 0 - ltZ D Tr p) (sP D p 1) (sP D p 2) (sP D p 3) (sP D p 4) < prW D (sP D p 0) (sP D p 1) (sP D p 2) (sP D p 3) (sP D p 4) ∧ prW D (sP D p 0) (sP D p 1) (sP D p 2) (sP D p 3) (sP D p 4) ≤ prW D (sP D p 0 - ltZ D Tr p + 1) (sP D p 1) (sP D p 2) (sP D p 3) (sP D p 4)) := by
  have hn := h.1.1.2.2.1.1.2
  have hnP := h.1.2.1.1
  have r0 := (h.1.2.1.2.2 p hp.1 hp.2).1
  have hcr : ∀ j, 0 ≤ j → j < 22 → crZ D Tr p 0 j = sP D p j := fun j a b => crZ_r D Tr ⟨hp.1, by omega⟩ ⟨a, b⟩
  obtain ⟨w0, w6⟩ := prD_cols hn (crZ D Tr p) 0
  have ed : dimZ (sF D) (crZ D Tr p) 0 = dimZ (sF D) (sP D) p := by
    unfold dimZ
    rw [hcr 1 (by decide) (by decide), hcr 2 (by decide) (by decide), hcr 3 (by decide) (by decide)]
  rw [ed, hcr 0 (by decide) (by decide)] at w6
  have e8 : prD D (crZ D Tr p) 0 0 8 = prW D (sP D p 0) (sP D p 1) (sP D p 2) (sP D p 3) (sP D p 4) := prW_of hn (hcr 0 (by decide) (by decide)) (hcr 1 (by decide) (by decide)) (hcr 2 (by decide) (by decide)) (hcr 3 (by decide) (by decide)) (hcr 4 (by decide) (by decide))
  have e0 : prD D (crZ D Tr p) 0 0 0 = sP D p 0 := by rw [w0 0 (by decide)]; exact hcr 0 (by decide) (by decide)
  have e : ltZ D Tr p = lsZ (fun e => prW D (sP D p 0 - e) (sP D p 1) (sP D p 2) (sP D p 3) (sP D p 4)) (prW D (sP D p 0) (sP D p 1) (sP D p 2) (sP D p 3) (sP D p 4)) (sP D p 0 - 1).toNat 1 := by
    unfold ltZ
    rw [e8, e0, ltgo_35 h _ _ 100000 (sP D p 0) _ (fun j j1 j4 => by rw [w0 j j4]; exact hcr j (by omega) (by omega)) e0 w6]
    have hx : ∀ w, prD D (XW D p w) 0 0 8 = prW D w (sP D p 1) (sP D p 2) (sP D p 3) (sP D p 4) := fun w => prW_of hn rfl rfl rfl rfl rfl
    have q := leap_eq (g := fun w => prW D w (sP D p 1) (sP D p 2) (sP D p 3) (sP D p 4)) (sn := snW D (sP D p 4) (dimZ (sF D) (sP D) p)) (ch := prW D (sP D p 0) (sP D p 1) (sP D p 2) (sP D p 3) (sP D p 4)) (real := sP D p 0) (fun w hw => snW_lt hw) (fun w y a b c => by
      show prW D y (sP D p 1) (sP D p 2) (sP D p 3) (sP D p 4) = prW D w (sP D p 1) (sP D p 2) (sP D p 3) (sP D p 4)
      rw [← hx, ← hx]
      exact price_same h.1 h.2.1 hp hc b c a) 100000 (sP D p 0) (by omega) r0.1 (Int.le_refl _)
    rw [q, show sP D p 0 - sP D p 0 + 1 = 1 by omega]
  rw [e]
  obtain ⟨r, er⟩ : ∃ r, r = sP D p 0 := ⟨_, rfl⟩
  rw [← er] at r0 ⊢
  obtain ⟨f, ef⟩ : ∃ f : Int → Int, f = fun w => prW D w (sP D p 1) (sP D p 2) (sP D p 3) (sP D p 4) := ⟨_, rfl⟩
  have ef2 : ∀ w, prW D w (sP D p 1) (sP D p 2) (sP D p 3) (sP D p 4) = f w := fun w => by rw [ef]
  simp only [ef2]
  obtain ⟨t, et⟩ : ∃ t, t = lsZ (fun e => f (r - e)) (f r) (r - 1).toNat 1 := ⟨_, rfl⟩
  rw [← et]
  rcases lsZ_spec (fun e => f (r - e)) (f r) (r - 1).toNat 1 (by decide) with ⟨a, b⟩ | ⟨a, b, c, d⟩
  · rw [← et] at a
    refine Or.inl ⟨a, fun w w1 w2 => ?_⟩
    by_cases q : w = r
    · rw [q]; exact Int.le_refl _
    · have k : f r ≤ f (r - (r - w)) := b (r - w) (by omega) (by omega)
      rw [show r - (r - w) = w by omega] at k
      exact k
  · rw [← et] at a b c d
    refine Or.inr ⟨by omega, by omega, c, ?_⟩
    by_cases q : t = 1
    · rw [q, show r - 1 + 1 = r by omega]; exact Int.le_refl _
    · have k : f r ≤ f (r - (t - 1)) := d (t - 1) (by omega) (by omega)
      rw [show r - (t - 1) = r - t + 1 by omega] at k
      exact k
theorem shgo_35 {D : SD} (h : ok35 D) {p : Int} (ch len : Int) : ∀ (k : Nat) (i : Int) (X : Int → Int → Int), X 0 0 = sP D p 0 → X 0 1 = sP D p 1 → X 0 3 = sP D p 3 → X 0 4 = sP D p 4 → shgo D ch 2 len k i X = lsZ (fun i => prW D (sP D p 0) (sP D p 1) (len - i) (sP D p 3) (sP D p 4)) ch k i
  | 0, _, _, _, _, _, _ => rfl
  | k + 1, i, X, h0, h1, h3, h4 => by
    have hn := h.1.1.2.2.1.1.2
    have a2 : upd2 X 0 2 (len - i) 0 2 = len - i := upd2_eq _ _ _ _
    have a : ∀ j, j ≠ 2 → upd2 X 0 2 (len - i) 0 j = X 0 j := fun j hj => upd2_nc _ hj
    have q1 : prD D (upd2 X 0 2 (len - i)) 0 0 8 = prW D (sP D p 0) (sP D p 1) (len - i) (sP D p 3) (sP D p 4) := prW_of hn (by rw [a 0 (by decide), h0]) (by rw [a 1 (by decide), h1]) a2 (by rw [a 3 (by decide), h3]) (by rw [a 4 (by decide), h4])
    obtain ⟨w0, -⟩ := prD_cols hn (upd2 X 0 2 (len - i)) 0
    show (if prD D (upd2 X 0 2 (len - i)) 0 0 8 < ch then i else shgo D ch 2 len k (i + 1) (prD D (upd2 X 0 2 (len - i)) 0)) = (if prW D (sP D p 0) (sP D p 1) (len - i) (sP D p 3) (sP D p 4) < ch then i else lsZ (fun i => prW D (sP D p 0) (sP D p 1) (len - i) (sP D p 3) (sP D p 4)) ch k (i + 1))
    rw [q1, shgo_35 h ch len k (i + 1) _ (by rw [w0 0 (by decide), a 0 (by decide), h0]) (by rw [w0 1 (by decide), a 1 (by decide), h1]) (by rw [w0 3 (by decide), a 3 (by decide), h3]) (by rw [w0 4 (by decide), a 4 (by decide), h4])]
theorem sh_spec {D : SD} (h : ok35 D) (Tr : Int → Int → Int) {p : Int} (hp : 0 ≤ p ∧ p < snP D) : shZ D Tr p 2 = -1000009 ∨ (0 < shZ D Tr p 2 ∧ shZ D Tr p 2 < sP D p 2 ∧ prW D (sP D p 0) (sP D p 1) (sP D p 2 - shZ D Tr p 2) (sP D p 3) (sP D p 4) < prW D (sP D p 0) (sP D p 1) (sP D p 2) (sP D p 3) (sP D p 4) ∧ prW D (sP D p 0) (sP D p 1) (sP D p 2) (sP D p 3) (sP D p 4) ≤ prW D (sP D p 0) (sP D p 1) (sP D p 2 - shZ D Tr p 2 + 1) (sP D p 3) (sP D p 4)) := by
  have hn := h.1.1.2.2.1.1.2
  have hnP := h.1.2.1.1
  have r2 := (h.1.2.1.2.2 p hp.1 hp.2).2.2.1
  have hcr : ∀ j, 0 ≤ j → j < 22 → crZ D Tr p 0 j = sP D p j := fun j a b => crZ_r D Tr ⟨hp.1, by omega⟩ ⟨a, b⟩
  obtain ⟨w0, -⟩ := prD_cols hn (crZ D Tr p) 0
  have e8 : prD D (crZ D Tr p) 0 0 8 = prW D (sP D p 0) (sP D p 1) (sP D p 2) (sP D p 3) (sP D p 4) := prW_of hn (hcr 0 (by decide) (by decide)) (hcr 1 (by decide) (by decide)) (hcr 2 (by decide) (by decide)) (hcr 3 (by decide) (by decide)) (hcr 4 (by decide) (by decide))
  have ew : ∀ j, 0 ≤ j → j ≤ 4 → prD D (crZ D Tr p) 0 0 j = sP D p j := fun j j0 j4 => by rw [w0 j j4]; exact hcr j j0 (by omega)
  have e : shZ D Tr p 2 = lsZ (fun i => prW D (sP D p 0) (sP D p 1) (sP D p 2 - i) (sP D p 3) (sP D p 4)) (prW D (sP D p 0) (sP D p 1) (sP D p 2) (sP D p 3) (sP D p 4)) (sP D p 2 - 1).toNat 1 := by
    unfold shZ
    rw [e8, ew 2 (by decide) (by decide), shgo_35 h _ _ _ 1 _ (ew 0 (by decide) (by decide)) (ew 1 (by decide) (by decide)) (ew 3 (by decide) (by decide)) (ew 4 (by decide) (by decide))]
  rw [e]
  obtain ⟨r, er⟩ : ∃ r, r = sP D p 2 := ⟨_, rfl⟩
  rw [← er] at r2 ⊢
  obtain ⟨f, ef⟩ : ∃ f : Int → Int, f = fun w => prW D (sP D p 0) (sP D p 1) w (sP D p 3) (sP D p 4) := ⟨_, rfl⟩
  have ef2 : ∀ w, prW D (sP D p 0) (sP D p 1) w (sP D p 3) (sP D p 4) = f w := fun w => by rw [ef]
  simp only [ef2]
  obtain ⟨t, et⟩ : ∃ t, t = lsZ (fun e => f (r - e)) (f r) (r - 1).toNat 1 := ⟨_, rfl⟩
  rw [← et]
  rcases lsZ_spec (fun e => f (r - e)) (f r) (r - 1).toNat 1 (by decide) with ⟨a, b⟩ | ⟨a, b, c, d⟩
  · rw [← et] at a
    exact Or.inl a
  · rw [← et] at a b c d
    refine Or.inr ⟨by omega, by omega, c, ?_⟩
    by_cases q : t = 1
    · rw [q, show r - 1 + 1 = r by omega]; exact Int.le_refl _
    · have k : f r ≤ f (r - (t - 1)) := d (t - 1) (by omega) (by omega)
      rw [show r - (t - 1) = r - t + 1 by omega] at k
      exact k
theorem chgo_35 {D : SD} (h : ok35 D) {p : Int} : ∀ (k : Nat) (z b l : Int) (X : Int → Int → Int), 0 ≤ z → (∀ j, 0 ≤ j → j ≤ 3 → X 0 j = sP D p j) → (b = -1000009 ∨ (0 ≤ b ∧ b < z ∧ 0 < sC D b ∧ l = prW D (sP D p 0) (sP D p 1) (sP D p 2) (sP D p 3) b)) → (chgo D k z b l X = -1000009 ∧ b = -1000009 ∧ ∀ y, z ≤ y → y < z + k → ¬ 0 < sC D y) ∨ (0 ≤ chgo D k z b l X ∧ chgo D k z b l X < z + k ∧ 0 < sC D (chgo D k z b l X) ∧ (b ≠ -1000009 → prW D (sP D p 0) (sP D p 1) (sP D p 2) (sP D p 3) (chgo D k z b l X) ≤ l) ∧ ∀ y, z ≤ y → y < z + k → 0 < sC D y → prW D (sP D p 0) (sP D p 1) (sP D p 2) (sP D p 3) (chgo D k z b l X) ≤ prW D (sP D p 0) (sP D p 1) (sP D p 2) (sP D p 3) y)
  | 0, z, b, l, X, z0, hX, hb => by
    have e : chgo D 0 z b l X = b := rfl
    rw [e]
    rcases hb with hb | ⟨b0, b1, b2, b3⟩
    · exact Or.inl ⟨hb, hb, fun y a c => absurd c (by omega)⟩
    · exact Or.inr ⟨b0, by omega, b2, fun _ => by rw [b3]; exact Int.le_refl _, fun y a c => absurd c (by omega)⟩
  | k + 1, z, b, l, X, z0, hX, hb => by
    have hn := h.1.1.2.2.1.1.2
    by_cases hs : 0 < sC D z
    · have a4 : upd2 X 0 4 z 0 4 = z := upd2_eq _ _ _ _
      have a : ∀ j, 0 ≤ j → j ≤ 3 → upd2 X 0 4 z 0 j = sP D p j := fun j j0 j3 => by rw [upd2_nc _ (by omega), hX j j0 j3]
      have q1 : prD D (upd2 X 0 4 z) 0 0 8 = prW D (sP D p 0) (sP D p 1) (sP D p 2) (sP D p 3) z := prW_of hn (a 0 (by decide) (by decide)) (a 1 (by decide) (by decide)) (a 2 (by decide) (by decide)) (a 3 (by decide) (by decide)) a4
      obtain ⟨w0, -⟩ := prD_cols hn (upd2 X 0 4 z) 0
      have hX2 : ∀ j, 0 ≤ j → j ≤ 3 → prD D (upd2 X 0 4 z) 0 0 j = sP D p j := fun j j0 j3 => by rw [w0 j (by omega)]; exact a j j0 j3
      by_cases hl : b = -1000009 ∨ prD D (upd2 X 0 4 z) 0 0 8 < l
      · have e : chgo D (k + 1) z b l X = chgo D k (z + 1) z (prD D (upd2 X 0 4 z) 0 0 8) (prD D (upd2 X 0 4 z) 0) := by
          show (if 0 < sC D z then _ else _) = _
          rw [if_pos hs, if_pos hl]
        rw [e]
        rw [q1] at hl ⊢
        rcases chgo_35 h (p := p) k (z + 1) z (prW D (sP D p 0) (sP D p 1) (sP D p 2) (sP D p 3) z) _ (by omega) hX2 (Or.inr ⟨z0, by omega, hs, rfl⟩) with ⟨-, i2, -⟩ | ⟨i1, i2, i3, i4, i5⟩
        · omega
        · have i6 := i4 (by omega)
          refine Or.inr ⟨i1, by omega, i3, fun hb2 => ?_, fun y y0 y1 y2 => ?_⟩
          · rcases hl with hl | hl
            · exact absurd hl hb2
            · omega
          · by_cases hy : y = z
            · rw [hy]; exact i6
            · exact i5 y (by omega) (by omega) y2
      · have e : chgo D (k + 1) z b l X = chgo D k (z + 1) b l (prD D (upd2 X 0 4 z) 0) := by
          show (if 0 < sC D z then _ else _) = _
          rw [if_pos hs, if_neg hl]
        rw [e]
        rw [q1] at hl
        have hbn : b ≠ -1000009 := fun q => hl (Or.inl q)
        have hlz : l ≤ prW D (sP D p 0) (sP D p 1) (sP D p 2) (sP D p 3) z := Int.not_lt.mp (fun q => hl (Or.inr q))
        rcases chgo_35 h (p := p) k (z + 1) b l _ (by omega) hX2 (hb.elim Or.inl (fun q => Or.inr ⟨q.1, by omega, q.2.2.1, q.2.2.2⟩)) with ⟨-, i2, -⟩ | ⟨i1, i2, i3, i4, i5⟩
        · exact absurd i2 hbn
        · have i6 := i4 hbn
          refine Or.inr ⟨i1, by omega, i3, i4, fun y y0 y1 y2 => ?_⟩
          by_cases hy : y = z
          · rw [hy]; omega
          · exact i5 y (by omega) (by omega) y2
    · have e : chgo D (k + 1) z b l X = chgo D k (z + 1) b l X := if_neg hs
      rw [e]
      rcases chgo_35 h (p := p) k (z + 1) b l X (by omega) hX (hb.elim Or.inl (fun q => Or.inr ⟨q.1, by omega, q.2.2.1, q.2.2.2⟩)) with ⟨i1, i2, i3⟩ | ⟨i1, i2, i3, i4, i5⟩
      · refine Or.inl ⟨i1, i2, fun y y0 y1 y2 => ?_⟩
        by_cases hy : y = z
        · rw [hy] at y2; exact hs y2
        · exact i3 y (by omega) (by omega) y2
      · refine Or.inr ⟨i1, by omega, i3, i4, fun y y0 y1 y2 => ?_⟩
        by_cases hy : y = z
        · rw [hy] at y2; exact absurd y2 hs
        · exact i5 y (by omega) (by omega) y2
theorem che_spec {D : SD} (h : ok35 D) (Tr : Int → Int → Int) {p : Int} (hp : 0 ≤ p ∧ p < snP D) : (cheZ D Tr p = -1000009 ∧ ∀ y, 0 ≤ y → y < 4 → ¬ 0 < sC D y) ∨ (0 ≤ cheZ D Tr p ∧ cheZ D Tr p < 4 ∧ 0 < sC D (cheZ D Tr p) ∧ ∀ y, 0 ≤ y → y < 4 → 0 < sC D y → prW D (sP D p 0) (sP D p 1) (sP D p 2) (sP D p 3) (cheZ D Tr p) ≤ prW D (sP D p 0) (sP D p 1) (sP D p 2) (sP D p 3) y) := by
  have hnP := h.1.2.1.1
  unfold cheZ
  rcases chgo_35 h (p := p) 4 0 (-1000009) 0 (crZ D Tr p) (Int.le_refl 0) (fun j j0 j3 => crZ_r D Tr ⟨hp.1, by omega⟩ ⟨j0, by omega⟩) (Or.inl rfl) with ⟨a, -, b⟩ | ⟨a, b, c, -, d⟩
  · exact Or.inl ⟨a, fun y y0 y1 => b y y0 (by omega)⟩
  · exact Or.inr ⟨a, by omega, c, fun y y0 y1 => d y y0 (by omega)⟩
