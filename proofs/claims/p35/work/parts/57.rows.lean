/-! ===== p35: the rows of parcels and claims, as the law asks of them ===== -/
def rsA (X : Int → Int) : Prop := (2 ≤ X 11 ∧ X 11 ≤ 10) ∧ (∀ i, 2 ≤ i → i < X 11 → 30 ≤ X (12 + i) ∧ X (12 + i) ≤ 37) ∧ ∀ i, 2 ≤ i → i + 1 < X 11 → X (12 + i) < X (12 + (i + 1))
theorem chP_a (φ : Int → Bool) (R : Int → Int → Int) {P : Int → Int → Int} {row b : Int} (h11 : P row 11 = 2) : ∀ n : Nat, n ≤ 8 → (2 ≤ chP φ R P row n row 11 ∧ chP φ R P row n row 11 ≤ 2 + n) ∧ (∀ i, 2 ≤ i → i < chP φ R P row n row 11 → 30 ≤ chP φ R P row n row (12 + i) ∧ chP φ R P row n row (12 + i) < 30 + n) ∧ (∀ i, 2 ≤ i → i + 1 < chP φ R P row n row 11 → chP φ R P row n row (12 + i) < chP φ R P row n row (12 + (i + 1))) ∧ (chP φ R P row n row 11 = 2 → chV φ R b n = b) ∧ ∀ j, j ≠ 11 → j < 14 → chP φ R P row n row j = P row j
  | 0, _ => by
    have e : chP φ R P row 0 = P := rfl
    rw [e, h11]
    exact ⟨⟨by decide, by decide⟩, fun i a b => absurd b (by omega), fun i a b => absurd b (by omega), fun _ => rfl, fun _ _ _ => rfl⟩
  | n + 1, hn => by
    obtain ⟨a1, a2, a3, a4, a5⟩ := chP_a φ R (b := b) h11 n (by omega)
    by_cases hh : holdsZ φ R n = true
    · have e1 : chP φ R P row (n + 1) = rsn (chP φ R P row n) row (30 + n) := if_pos hh
      rw [e1]
      obtain ⟨Y, eY⟩ : ∃ Y, Y = chP φ R P row n := ⟨_, rfl⟩
      rw [← eY] at a1 a2 a3 a4 a5 ⊢
      have y11 : rsn Y row (30 + n) row 11 = Y row 11 + 1 := by unfold rsn; exact upd2_eq _ _ _ _
      have yn : rsn Y row (30 + n) row (12 + Y row 11) = 30 + n := by unfold rsn; rw [upd2_nc _ (by omega), upd2_eq]
      have yo : ∀ j, j ≠ 11 → j ≠ 12 + Y row 11 → rsn Y row (30 + n) row j = Y row j := fun j h1 h2 => by unfold rsn; rw [upd2_nc _ h1, upd2_nc _ h2]
      rw [y11]
      refine ⟨⟨by omega, by omega⟩, fun i i0 i1 => ?_, fun i i0 i1 => ?_, fun h => absurd h (by omega), fun j j1 j2 => by rw [yo j j1 (by omega), a5 j j1 j2]⟩
      · by_cases hi : i = Y row 11
        · rw [hi, yn]; omega
        · rw [yo _ (by omega) (by omega)]
          have := a2 i i0 (by omega)
          omega
      · by_cases hi : i + 1 = Y row 11
        · rw [yo (12 + i) (by omega) (by omega), hi, yn]
          exact (a2 i i0 (by omega)).2
        · rw [yo (12 + i) (by omega) (by omega), yo (12 + (i + 1)) (by omega) (by omega)]
          exact a3 i i0 (by omega)
    · have e1 : chP φ R P row (n + 1) = chP φ R P row n := if_neg hh
      have e2 : chV φ R b (n + 1) = chV φ R b n := if_neg hh
      rw [e1, e2]
      exact ⟨⟨a1.1, by omega⟩, fun i i0 i1 => by have := a2 i i0 i1; omega, a3, a4, a5⟩
def rw35 (x : Int → Int) : Prop := x 9 = girZ (x 1) (x 2) (x 3) ∧ (x 0 ≤ x 6 ∧ x 5 ≤ x 6) ∧ x 12 = wrZ (x 0) (x 5) ∧ ((10 ≤ x 13 ∧ x 13 < 16) ∨ x 13 = 20) ∧ rsA x ∧ (x 11 = 2 → x 8 = x 7)
theorem rw35_c {x y : Int → Int} (h : ∀ j, 0 ≤ j → j < 22 → y j = x j) (hx : rw35 x) : rw35 y := by
  obtain ⟨h1, h2, h3, h4, ⟨h5, h6, h7⟩, h8⟩ := hx
  unfold rw35 rsA
  rw [h 0 (by decide) (by decide), h 1 (by decide) (by decide), h 2 (by decide) (by decide), h 3 (by decide) (by decide), h 5 (by decide) (by decide), h 6 (by decide) (by decide), h 7 (by decide) (by decide), h 8 (by decide) (by decide), h 9 (by decide) (by decide), h 11 (by decide) (by decide), h 12 (by decide) (by decide), h 13 (by decide) (by decide)]
  exact ⟨h1, h2, h3, h4, ⟨h5, fun i i0 i1 => by rw [h (12 + i) (by omega) (by omega)]; exact h6 i i0 i1, fun i i0 i1 => by rw [h (12 + i) (by omega) (by omega), h (12 + (i + 1)) (by omega) (by omega)]; exact h7 i i0 i1⟩, h8⟩
theorem prD_35 {D : SD} (hOK : stOK1 D) {P : Int → Int → Int} {row : Int} (h : rowIn D P row) : rw35 (prD D P row row) := by
  obtain ⟨s0, s1, s2, s3, s4, hc, hP⟩ := h
  obtain ⟨φ, eφ, w0, w5, w6, w7, w8, w9, -, w12, w13, -⟩ := prD_w D hOK.2.2.1.1.2 P row
  obtain ⟨-, -, -, -, -, -, c11, -, -⟩ := prC_v (sF D) (sC D) (sE D) (sL D) (sQ D) P row
  have hn := hOK.2.2.1.1
  have e : ∀ j, j ≠ 8 → prD D P row row j = chP φ (sR D) (prC (sF D) (sC D) (sE D) (sL D) (sQ D) P row) row (snR D).toNat row j := fun j hj => by rw [eφ]; unfold prD prT; exact upd2_nc _ hj
  obtain ⟨a1, a2, a3, a4, -⟩ := chP_a φ (sR D) (b := baseZ (sC D) (sE D) (sL D) (sQ D) (P row 4) (bilZ (sF D) (P row 0) (dimZ (sF D) P row))) c11 (snR D).toNat (by omega)
  obtain ⟨-, ⟨-, -, f6, f7⟩⟩ := hOK.1.1
  have hb := bil_cl (sF D) (P row 0) (dimZ (sF D) P row) (by omega)
  have b1 := cl_b (u := sF D 7) (by omega) (P row 0)
  have b2 := cl_b (u := sF D 7) (by omega) (dimZ (sF D) P row)
  have hC := hOK.2.1.1 (P row 4) s4.1 s4.2
  have hbi := bidx_b (L := sL D) (x := bilZ (sF D) (P row 0) (dimZ (sF D) P row)) hC.1
  unfold rw35 rsA
  rw [w9, w0 0 (by decide), w0 1 (by decide), w0 2 (by decide), w0 3 (by decide), w5, w6, w12, w13, w8, w7]
  refine ⟨rfl, ⟨by omega, by omega⟩, rfl, ?_, ⟨?_, fun i i0 i1 => ?_, fun i i0 i1 => ?_⟩, fun h2 => ?_⟩
  · unfold brsZ
    split <;> omega
  · rw [e 11 (by decide)]; omega
  · rw [e 11 (by decide)] at i1
    rw [e (12 + i) (by omega)]
    have := a2 i i0 i1
    omega
  · rw [e 11 (by decide)] at i1
    rw [e (12 + i) (by omega), e (12 + (i + 1)) (by omega)]
    exact a3 i i0 i1
  · rw [e 11 (by decide)] at h2
    exact a4 h2
/-! the state, as the law asks of it -/
def nt35 (D : SD) (n : Int) : Prop := (sK D n 8 = sN D n 3 ∧ sK D n (sN D n 1) = sN D n 2) ∧ (sN D n 4 ≠ 1 → sN D n 5 = 0)
def op35 (D : SD) : Prop := ∀ n m, 0 ≤ n → n < snN D → 0 ≤ m → m < snN D → sN D n 4 = 0 → sN D m 4 = 0 → sN D n 0 = sN D m 0 → n = m
def ok35 (D : SD) : Prop := stOK D ∧ srtD D ∧ (∀ p, 0 ≤ p → p < snP D → rw35 (sP D p)) ∧ (∀ n, 0 ≤ n → n < snN D → rw35 (sK D n) ∧ nt35 D n) ∧ op35 D
theorem ok_keep {D D' : SD} (h : ok35 D) (hs : stOK D') (ht : srtD D') (e1 : snP D' = snP D) (e2 : sP D' = sP D) (e3 : snN D' = snN D) (e4 : sN D' = sN D) (e5 : sK D' = sK D) : ok35 D' := by
  obtain ⟨-, -, h3, h4, h5⟩ := h
  refine ⟨hs, ht, ?_, ?_, ?_⟩
  · rw [e1, e2]; exact h3
  · unfold nt35; rw [e3, e4, e5]; exact h4
  · unfold op35; rw [e3, e4]; exact h5
theorem ok_set {D : SD} (h : ok35 D) {i x : Int} (hx : setOK i x) : ok35 (wF D (updZ (sF D) i x)) := ok_keep h (stOK_set h.1 hx) (srt_eq h.2.1 rfl rfl) rfl rfl rfl rfl rfl
theorem ok_load {D : SD} (h : ok35 D) {x : Int} (x0 : 0 ≤ x) (x1 : x ≤ 100000) : ok35 (wG D (scLoad (sG D) x)) := ok_keep h (stOK_load h.1 x0 x1) (srt_eq h.2.1 rfl rfl) rfl rfl rfl rfl rfl
theorem ok_tick {D : SD} (h : ok35 D) (n : Nat) (hn : sG D 1 + n ≤ 100000) : ok35 (wG D (tkN (sF D) (sG D) n)) := ok_keep h (stOK_tick h.1 n hn) (srt_eq h.2.1 rfl rfl) rfl rfl rfl rfl rfl
theorem ok_zero {D : SD} (h : ok35 D) : ok35 (wG D (updZ (updZ (sG D) 2 (scRaw (sF D) (sG D))) 3 0)) := ok_keep h (stOK_zero h.1) (srt_eq h.2.1 rfl rfl) rfl rfl rfl rfl rfl
theorem ok_tare {D : SD} (h : ok35 D) (ho : scOver (sF D) (sG D) = false) (h0 : 0 ≤ scGross (sF D) (sG D)) : ok35 (wG D (updZ (sG D) 3 (scGross (sF D) (sG D)))) := ok_keep h (stOK_tare h.1 ho h0) (srt_eq h.2.1 rfl rfl) rfl rfl rfl rfl rfl
theorem ok_unband {D : SD} (h : ok35 D) {z i : Int} (z0 : 0 ≤ z) (z4 : z < 4) (i0 : 0 ≤ i) (i1 : i < sC D z) : ok35 (wC D (updZ (sC D) z (sC D z - 1)) (bclose (sL D) z i (sC D z - 1)) (bclose (sQ D) z i (sC D z - 1))) := ok_keep h (stOK_unband h.1 z0 z4 i0 i1) (srt_unband h.2.1 i0) rfl rfl rfl rfl rfl
theorem ok_band {D : SD} (h : ok35 D) {z l p : Int} (z0 : 0 ≤ z) (z4 : z < 4) (hl : 1 ≤ l ∧ l ≤ 100000) (hp : 0 ≤ p ∧ p ≤ 100000) (h6 : (bidx (sC D) (sL D) z l < sC D z ∧ sL D z (bidx (sC D) (sL D) z l) = l) ∨ sC D z < 6) : ok35 (bandD D z l p) := by
  refine ok_keep h (stOK_band h.1 z0 z4 hl hp h6) (srt_band h.1 h.2.1 z0 z4) ?_ ?_ ?_ ?_ ?_ <;> (unfold bandD; split <;> rfl)
theorem ok_rule {D : SD} (h : ok35 D) {s : rdS} (h8 : snR D < 8) (h0 : 0 ≤ s.1 0 ∧ s.1 0 ≤ 60) (h1 : inI (s.1 1)) (h2 : 0 ≤ s.1 2 ∧ s.1 2 ≤ 99999) (ht : ∀ i, inI (s.2 i)) : ok35 (rulD D s) := ok_keep h (stOK_rule h.1 h8 h0 h1 h2 ht) (srt_eq h.2.1 rfl rfl) rfl rfl rfl rfl rfl
theorem ok_take {D : SD} (h : ok35 D) {a b c z : Int} (ha : 1 ≤ a ∧ a ≤ 2000) (hb : 1 ≤ b ∧ b ≤ 2000) (hc : 1 ≤ c ∧ c ≤ 2000) (z0 : 0 ≤ z) (z3 : z ≤ 3) (hC : 0 < sC D z) (hp : snP D < 30) (ho : scOver (sF D) (sG D) = false) (hw : 1 ≤ scGross (sF D) (sG D) - sG D 3) : ok35 (takD D a b c z) ∧ rowIn D (dsc (sP D) (snP D) (scGross (sF D) (sG D) - sG D 3) a b c z) (snP D) := by
  have hgb := scGross_b h.1.1.1.1 h.1.1.1.2
  have hov := of_decide_eq_false ho
  obtain ⟨⟨-, -, f2, f3⟩, -⟩ := h.1.1.1.1
  have h3 := h.1.2.2.2.2.1
  have hnP := h.1.2.1.1
  obtain ⟨wt, ewt⟩ : ∃ y, y = scGross (sF D) (sG D) - sG D 3 := ⟨_, rfl⟩
  have hk := (stOK_take h.1 ha hb hc z0 z3 hC hp ho hw).1
  rw [← ewt] at hw
  have hwt : 1 ≤ wt ∧ wt ≤ 100000 := ⟨hw, by omega⟩
  have eP : sP (takD D a b c z) = prD D (dsc (sP D) (snP D) wt a b c z) (snP D) := by rw [ewt]; rfl
  obtain ⟨d0, d1, d2, d3, d4⟩ := dsc_v (sP D) (snP D) wt a b c z
  have hdi : ∀ i, i ≠ snP D → dsc (sP D) (snP D) wt a b c z i = sP D i := fun i hi => by
    funext j
    unfold dsc
    rw [upd2_nr _ hi, upd2_nr _ hi, upd2_nr _ hi, upd2_nr _ hi, upd2_nr _ hi]
  have hri : rowIn D (dsc (sP D) (snP D) wt a b c z) (snP D) := by
    unfold rowIn
    rw [d0, d1, d2, d3, d4]
    exact ⟨⟨by omega, by omega⟩, ha, hb, hc, ⟨z0, by omega⟩, by omega, dsc_in h.1.2.1.2.1 ⟨by omega, by omega⟩ ⟨by omega, by omega⟩ ⟨by omega, by omega⟩ ⟨by omega, by omega⟩ ⟨by omega, by omega⟩⟩
  rw [← ewt]
  refine ⟨⟨hk, srt_eq h.2.1 rfl rfl, fun p p0 p1 => ?_, h.2.2.2.1, h.2.2.2.2⟩, hri⟩
  have p1 : p < snP D + 1 := p1
  rw [eP]
  by_cases hpn : p = snP D
  · rw [hpn]; exact prD_35 h.1.1 hri
  · rw [prD_i hpn, hdi p hpn]
    exact h.2.2.1 p p0 (by omega)
theorem opN_spec (N : Int → Int → Int) (p : Int) : ∀ (k : Nat) (i : Int), 0 ≤ i → (opN N p k i = -1000009 ∧ ∀ m, i ≤ m → m < i + k → ¬ (N m 0 = p ∧ N m 4 = 0)) ∨ (i ≤ opN N p k i ∧ opN N p k i < i + k ∧ N (opN N p k i) 0 = p ∧ N (opN N p k i) 4 = 0)
  | 0, i, _ => Or.inl ⟨rfl, fun m a b => absurd b (by omega)⟩
  | k + 1, i, hi => by
    by_cases h : N i 0 = p ∧ N i 4 = 0
    · have e : opN N p (k + 1) i = i := if_pos h
      rw [e]
      exact Or.inr ⟨by omega, by omega, h⟩
    · have e : opN N p (k + 1) i = opN N p k (i + 1) := if_neg h
      rw [e]
      rcases opN_spec N p k (i + 1) (by omega) with ⟨a, b⟩ | ⟨a, b, c⟩
      · refine Or.inl ⟨a, fun m m0 m1 => ?_⟩
        by_cases hm : m = i
        · rw [hm]; exact h
        · exact b m (by omega) (by omega)
      · exact Or.inr ⟨by omega, by omega, c⟩
theorem openZ_spec {D : SD} (h : 0 ≤ snN D ∧ snN D ≤ 20) (p : Int) : (openZ D p = -1000009 ∧ ∀ m, 0 ≤ m → m < snN D → ¬ (sN D m 0 = p ∧ sN D m 4 = 0)) ∨ (0 ≤ openZ D p ∧ openZ D p < snN D ∧ sN D (openZ D p) 0 = p ∧ sN D (openZ D p) 4 = 0) := by
  unfold openZ
  rcases opN_spec (sN D) p (snN D).toNat 0 (Int.le_refl 0) with ⟨a, b⟩ | ⟨a, b, c⟩
  · exact Or.inl ⟨a, fun m m0 m1 => b m m0 (by omega)⟩
  · exact Or.inr ⟨a, by omega, c⟩
theorem openZ_open {D : SD} (h : ok35 D) {n : Int} (hn : 0 ≤ n ∧ n < snN D) (ho : sN D n 4 = 0) : openZ D (sN D n 0) = n := by
  rcases openZ_spec h.1.2.2.1.1 (sN D n 0) with ⟨-, b⟩ | ⟨a, b, c, d⟩
  · exact absurd ⟨rfl, ho⟩ (b n hn.1 hn.2)
  · exact h.2.2.2.2 _ _ a b hn.1 hn.2 d ho c
theorem ok_disp {D : SD} (h : ok35 D) {p x y : Int} (hp : 0 ≤ p ∧ p < snP D) (hx : 0 ≤ x ∧ x ≤ 3) (hy : 1 ≤ y ∧ y ≤ (if x = 0 then 100000 else 2000)) (hc : 0 < sC D (sP D p 4)) (hn : snN D < 20) (hop : openZ D p = -1000009) : ok35 (dspD D p x y) := by
  have hri := clmK_ok h.1 hp hx hy hc
  have hnP := h.1.2.1.1
  have hnN := h.1.2.2.1.1
  have hk := (stOK_disp h.1 hp hx hy hc hn).1
  have hki : ∀ i, i ≠ snN D → prD D (clmK D p x y) (snN D) i = sK D i := fun i hi => by
    rw [prD_i hi]
    funext j
    unfold clmK
    rw [upd2_nr _ hi]
    exact if_neg hi
  obtain ⟨P8, e8⟩ : ∃ q, q = prD D (clmK D p x y) (snN D) (snN D) 8 := ⟨_, rfl⟩
  have hN : sN (dspD D p x y) = upd2 (upd2 (upd2 (upd2 (upd2 (upd2 (sN D) (snN D) 0 p) (snN D) 1 x) (snN D) 2 y) (snN D) 3 P8) (snN D) 4 0) (snN D) 5 0 := by rw [e8]; rfl
  have hK : sK (dspD D p x y) = prD D (clmK D p x y) (snN D) := rfl
  have hNi : ∀ i, i ≠ snN D → sN (dspD D p x y) i = sN D i := fun i hi => by
    funext j
    rw [hN, upd2_nr _ hi, upd2_nr _ hi, upd2_nr _ hi, upd2_nr _ hi, upd2_nr _ hi, upd2_nr _ hi]
  have f0 : sN (dspD D p x y) (snN D) 0 = p := by rw [hN, upd2_nc _ (by decide), upd2_nc _ (by decide), upd2_nc _ (by decide), upd2_nc _ (by decide), upd2_nc _ (by decide), upd2_eq]
  have f1 : sN (dspD D p x y) (snN D) 1 = x := by rw [hN, upd2_nc _ (by decide), upd2_nc _ (by decide), upd2_nc _ (by decide), upd2_nc _ (by decide), upd2_eq]
  have f2 : sN (dspD D p x y) (snN D) 2 = y := by rw [hN, upd2_nc _ (by decide), upd2_nc _ (by decide), upd2_nc _ (by decide), upd2_eq]
  have f3 : sN (dspD D p x y) (snN D) 3 = P8 := by rw [hN, upd2_nc _ (by decide), upd2_nc _ (by decide), upd2_eq]
  have f4 : sN (dspD D p x y) (snN D) 4 = 0 := by rw [hN, upd2_nc _ (by decide), upd2_eq]
  have f5 : sN (dspD D p x y) (snN D) 5 = 0 := by rw [hN, upd2_eq]
  have g : prD D (clmK D p x y) (snN D) (snN D) x = y := by
    obtain ⟨-, -, w0, -⟩ := prD_w D h.1.1.2.2.1.1.2 (clmK D p x y) (snN D)
    rw [w0 x (by omega), clmK_r ⟨hp.1, by omega⟩ ⟨hx.1, by omega⟩, if_pos rfl]
  have hno : ∀ m, 0 ≤ m → m < snN D → sN D m 4 = 0 → sN D m 0 ≠ p := fun m m0 m1 o e => by
    rcases openZ_spec hnN p with ⟨-, b⟩ | ⟨a, b, -⟩
    · exact b m m0 m1 ⟨e, o⟩
    · omega
  refine ⟨hk, srt_eq h.2.1 rfl rfl, h.2.2.1, fun n n0 n1 => ?_, fun n m n0 n1 m0 m1 o1 o2 o3 => ?_⟩
  · have n1 : n < snN D + 1 := n1
    unfold nt35
    by_cases hnn : n = snN D
    · subst hnn
      rw [f1, f2, f3, f5, hK, g, e8]
      exact ⟨prD_35 h.1.1 hri, ⟨rfl, rfl⟩, fun _ => rfl⟩
    · rw [hNi n hnn, hK, hki n hnn]
      exact h.2.2.2.1 n n0 (by omega)
  · have n1 : n < snN D + 1 := n1
    have m1 : m < snN D + 1 := m1
    by_cases hnn : n = snN D
    · by_cases hmm : m = snN D
      · omega
      · rw [hnn, f0] at o3
        rw [hNi m hmm] at o2 o3
        exact absurd o3.symm (hno m m0 (by omega) o2)
    · rw [hNi n hnn] at o1 o3
      by_cases hmm : m = snN D
      · rw [hmm, f0] at o3
        exact absurd o3 (hno n n0 (by omega) o1)
      · rw [hNi m hmm] at o2 o3
        exact h.2.2.2.2 n m n0 (by omega) m0 (by omega) o1 o2 o3
theorem ok_rej {D : SD} (h : ok35 D) {n : Int} (hn : 0 ≤ n ∧ n < snN D) (ho : sN D n 4 = 0) : ok35 (rejD D n) := by
  have e : ∀ m c, c ≠ 4 → sN (rejD D n) m c = sN D m c := fun m c hc => upd2_nc _ hc
  have e4 : ∀ m, m ≠ n → sN (rejD D n) m 4 = sN D m 4 := fun m hm => congrFun (show sN (rejD D n) m = sN D m from funext fun c => upd2_nr _ hm) 4
  have en : sN (rejD D n) n 4 = 2 := upd2_eq _ _ _ _
  refine ⟨(stOK_rej h.1 hn).1, srt_eq h.2.1 rfl rfl, h.2.2.1, fun m m0 m1 => ?_, fun m k m0 m1 k0 k1 o1 o2 o3 => ?_⟩
  · have hm := h.2.2.2.1 m m0 m1
    have o1 := (h.1.2.2.1.2.2 m m0 m1).2.1
    unfold nt35 at hm ⊢
    rw [e m 1 (by decide), e m 2 (by decide), e m 3 (by decide), e m 5 (by decide)]
    refine ⟨hm.1, hm.2.1, fun q => ?_⟩
    by_cases hmn : m = n
    · exact hm.2.2 (by rw [hmn, ho]; decide)
    · rw [e4 m hmn] at q
      exact hm.2.2 q
  · rw [e m 0 (by decide), e k 0 (by decide)] at o3
    by_cases hmn : m = n
    · rw [hmn, en] at o1; exact absurd o1 (by decide)
    · by_cases hkn : k = n
      · rw [hkn, en] at o2; exact absurd o2 (by decide)
      · rw [e4 m hmn] at o1
        rw [e4 k hkn] at o2
        exact h.2.2.2.2 m k m0 m1 k0 k1 o1 o2 o3
theorem ok_acc {D : SD} (h : ok35 D) {n : Int} (hn : 0 ≤ n ∧ n < snN D) (ho : sN D n 4 = 0) : ok35 (accD D n) := by
  have hnN := h.1.2.2.1.1
  obtain ⟨p1, p2⟩ := acc_P (D := D) ⟨hn.1, (by omega : n < 20)⟩
  obtain ⟨n1, n2, n3, n4⟩ := acc_N (D := D) (n := n)
  refine ⟨(stOK_acc h.1 hn).1, srt_eq h.2.1 rfl rfl, fun q q0 q1 => ?_, fun m m0 m1 => ?_, fun m k m0 m1 k0 k1 o1 o2 o3 => ?_⟩
  · by_cases hq : q = sN D n 0
    · rw [hq]
      exact rw35_c p1 (h.2.2.2.1 n hn.1 hn.2).1
    · rw [p2 q hq]
      exact h.2.2.1 q q0 q1
  · have hm := h.2.2.2.1 m m0 m1
    unfold nt35 at hm ⊢
    rw [n1 m 1 (by decide) (by decide), n1 m 2 (by decide) (by decide), n1 m 3 (by decide) (by decide)]
    refine ⟨hm.1, hm.2.1, fun q => ?_⟩
    by_cases hmn : m = n
    · rw [hmn, n3] at q; exact absurd rfl q
    · rw [n2 m hmn] at q ⊢
      exact hm.2.2 q
  · rw [n1 m 0 (by decide) (by decide), n1 k 0 (by decide) (by decide)] at o3
    by_cases hmn : m = n
    · rw [hmn, n3] at o1; exact absurd o1 (by decide)
    · by_cases hkn : k = n
      · rw [hkn, n3] at o2; exact absurd o2 (by decide)
      · rw [n2 m hmn] at o1
        rw [n2 k hkn] at o2
        exact h.2.2.2.2 m k m0 m1 k0 k1 o1 o2 o3
theorem ok_ag {D D' : SD} (h : ok35 D) (ha : agD D D') (hi : arI D') : ok35 D' := by
  obtain ⟨-, -, -, -, ⟨hp, hP⟩, ⟨hn, hN⟩, ⟨hk, hK⟩⟩ := id ha
  have hnK : snK D = snN D := h.1.2.2.2.1.1
  refine ⟨stOK_ag h.1 ha hi, srt_ag h.2.1 ha, fun p p0 p1 => ?_, fun n n0 n1 => ?_, fun n m n0 n1 m0 m1 o1 o2 o3 => ?_⟩
  · rw [hp] at p1
    rw [hP p p0 p1]; exact h.2.2.1 p p0 p1
  · rw [hn] at n1
    unfold nt35
    rw [hK n n0 (by omega), hN n n0 n1]
    exact h.2.2.2.1 n n0 n1
  · rw [hn] at n1 m1
    rw [hN n n0 n1] at o1 o3
    rw [hN m m0 m1] at o2 o3
    exact h.2.2.2.2 n m n0 n1 m0 m1 o1 o2 o3
