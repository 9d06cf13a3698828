/-! ===== the relation through acts: settle; what stays in range of the row ===== -/
theorem zsum_bd {f : Int → Int} {M : Int} (hM : 0 ≤ M) : ∀ n : Nat, (∀ i : Int, 0 ≤ i → i < n → -M ≤ f i ∧ f i ≤ M) → n ≤ 30 → -(30 * M) ≤ zsum f n ∧ zsum f n ≤ 30 * M := by
  have key : ∀ n : Nat, (∀ i : Int, 0 ≤ i → i < n → -M ≤ f i ∧ f i ≤ M) → -((n : Int) * M) ≤ zsum f n ∧ zsum f n ≤ (n : Int) * M := fun n => by
    induction n with
    | zero => intro _; exact ⟨by show -((0 : Int) * M) ≤ 0; omega, by show 0 ≤ (0 : Int) * M; omega⟩
    | succ n ih =>
      intro h
      obtain ⟨a, b⟩ := ih (fun i c d => h i c (by omega))
      obtain ⟨c, d⟩ := h n (by omega) (by omega)
      have e : ((n + 1 : Nat) : Int) * M = (n : Int) * M + M := by rw [Int.natCast_add, Int.add_mul]; omega
      rw [e]
      exact ⟨by show _ ≤ zsum f n + f n; omega, by show zsum f n + f n ≤ _; omega⟩
  intro n h hn
  obtain ⟨a, b⟩ := key n h
  have e : (n : Int) * M ≤ 30 * M := Int.mul_le_mul_of_nonneg_right (by omega) hM
  omega
theorem zsum_u {f g : Int → Int} {n : Int} (n0 : 0 ≤ n) {d : Int} (hf : ∀ i, i ≠ n → g i = f i) (hn : g n = f n + d) : ∀ k : Nat, n < k → zsum g k = zsum f k + d
  | 0, h => absurd h (by omega)
  | k + 1, h => by
    show zsum g k + g k = zsum f k + f k + d
    by_cases e : n = k
    · rw [zsum_c k (f := g) (g := f) (fun i a b => hf i (by omega)), ← e, hn]
      omega
    · rw [zsum_u n0 hf hn k (by omega), hf k (fun q => e q.symm)]
      omega
theorem vOK_pn {D : SD} {V V' : Int → Int} {s0 : Int → rdS} (hD : stOK D) (h : mV D V' s0) (hv : vOK V) (hV : ∀ j, (j < 19 ∨ (22 ≤ j ∧ j < 570) ∨ (570 + 12 * snP D ≤ j ∧ j < 940) ∨ 940 + 12 * snN D ≤ j) → V' j = V j) : vOK V' := by
  obtain ⟨⟨h19, h20, h21⟩, hpa, hno, -⟩ := h.ls
  have hnP := hD.2.1.1
  have hnN := hD.2.2.1.1
  refine ⟨rgV_c hv.1 (fun j a b => hV j (by omega)), fun j => ?_, vTxt_c hv.2.2 (fun j a b => hV j (by omega))⟩
  by_cases hj : j < 19 ∨ (22 ≤ j ∧ j < 570) ∨ (570 + 12 * snP D ≤ j ∧ j < 940) ∨ 940 + 12 * snN D ≤ j
  · rw [hV j hj]; exact hv.2.1 j
  · by_cases h22 : j < 22
    · rcases (show j = 19 ∨ j = 20 ∨ j = 21 by omega) with e | e | e <;> rw [e]
      · rw [h19]; omega
      · rw [h20]; omega
      · rw [h21]
        have := zsum_bd (f := fun r => sN D r 5) (M := 1000000000) (by decide) (snN D).toNat (fun i a b => (hD.2.2.1.2.2 i a (by omega)).2.2.2.2.2) (by omega)
        omega
    · by_cases h9 : j < 940
      · obtain ⟨p, k, ej, p0, p1, k0, k1⟩ : ∃ p k, j = 570 + 12 * p + k ∧ 0 ≤ p ∧ p < snP D ∧ 0 ≤ k ∧ k < 12 := ⟨(j - 570) / 12, (j - 570) % 12, by omega, by omega, by omega, by omega, by omega⟩
        obtain ⟨⟨r, r9, r10, r11, -⟩, -⟩ := hpa p p0 p1
        have hin := hD.2.1.2.1 p
        by_cases hk : k ≤ 8
        · have e : V' (570 + 12 * p + k) = sP D p k := r k k0 hk
          rw [ej, e]
          have := hin k; unfold inI at this; omega
        · rcases (show k = 9 ∨ k = 10 ∨ k = 11 by omega) with e | e | e <;> rw [ej, e]
          · have e : V' (570 + 12 * p + 9) = sP D p 12 := r9
            rw [e]; have := hin 12; unfold inI at this; omega
          · have e : V' (570 + 12 * p + 10) = sP D p 13 := r10
            rw [e]; have := hin 13; unfold inI at this; omega
          · have r11 : 0 ≤ V' (570 + 12 * p + 11) ∧ V' (570 + 12 * p + 11) ≤ 255 := r11
            omega
      · obtain ⟨n, k, ej, n0, n1, k0, k1⟩ : ∃ n k, j = 940 + 12 * n + k ∧ 0 ≤ n ∧ n < snN D ∧ 0 ≤ k ∧ k < 12 := ⟨(j - 940) / 12, (j - 940) % 12, by omega, by omega, by omega, by omega, by omega⟩
        obtain ⟨w1, ⟨w6, w7, w8⟩, ⟨w9, w10, w11, -⟩, -⟩ := hno n n0 n1
        have hin := hD.2.2.1.2.1 n
        have hik := hD.2.2.2.1.2.1 n
        by_cases hk : k ≤ 5
        · rw [ej, w1 k k0 hk]
          have := hin k; unfold inI at this; omega
        · rcases (show k = 6 ∨ k = 7 ∨ k = 8 ∨ k = 9 ∨ k = 10 ∨ k = 11 by omega) with e | e | e | e | e | e <;> rw [ej, e]
          · rw [w6]; have := hik 5; unfold inI at this; omega
          · rw [w7]; have := hik 6; unfold inI at this; omega
          · rw [w8]; have := hik 7; unfold inI at this; omega
          · rw [w9]; have := hik 12; unfold inI at this; omega
          · rw [w10]; have := hik 13; unfold inI at this; omega
          · omega
theorem vOK_take {D : SD} {V W : Int → Int} {s0 : Int → rdS} {a b c z : Int} (hD : stOK (takD D a b c z)) (h0 : V 19 = snP D) (h : mV (takD D a b c z) (tkV V W) s0) (hv : vOK V) (hp : 0 ≤ snP D ∧ snP D < 30) : vOK (tkV V W) := vOK_pn hD h hv (fun j hj => by
  have e : snP (takD D a b c z) = snP D + 1 := rfl
  have e2 := hD.2.2.1.1
  rw [e] at hj
  unfold tkV
  rw [updZ_ne _ _ (by omega)]
  unfold actW
  rw [h0, if_neg (by omega)])
theorem vOK_disp {D : SD} {V W : Int → Int} {s0 : Int → rdS} {p x y : Int} (hD : stOK (dspD D p x y)) (h0 : V 20 = snN D) (h : mV (dspD D p x y) (diV V W p x y) s0) (hv : vOK V) (hn : 0 ≤ snN D ∧ snN D < 20) : vOK (diV V W p x y) := vOK_pn hD h hv (fun j hj => by
  have e : snN (dspD D p x y) = snN D + 1 := rfl
  have e2 := hD.2.1.1
  have e3 : snP (dspD D p x y) = snP D := rfl
  rw [e, e3] at hj
  unfold diV
  rw [updZ_ne _ _ (by omega)]
  unfold actW
  rw [h0, if_neg (by omega)])
/-! a note turned down -/
def rejD (D : SD) (n : Int) : SD := wN D (snN D) (upd2 (sN D) n 4 2) (snK D) (sK D)
theorem stOK_rej {D : SD} (h : stOK D) {n : Int} (hn : 0 ≤ n ∧ n < snN D) : stOK (rejD D n) ∧ (wyD D → wyD (rejD D n)) := by
  refine ⟨⟨h.1, h.2.1, ⟨h.2.2.1.1, upd2_in h.2.2.1.2.1 ⟨by decide, by decide⟩, fun m m0 m1 => ?_⟩, h.2.2.2.1, h.2.2.2.2⟩, fun hw => hw⟩
  have h2 := h.2.2.1.2.2 m m0 m1
  have e : ∀ c, c ≠ 4 → sN (rejD D n) m c = sN D m c := fun c hc => upd2_nc _ hc
  unfold ntOK at h2 ⊢
  rw [e 0 (by decide), e 1 (by decide), e 2 (by decide), e 3 (by decide), e 5 (by decide)]
  refine ⟨h2.1, h2.2.1, h2.2.2.1, h2.2.2.2.1, ?_, h2.2.2.2.2.2⟩
  show 0 ≤ upd2 (sN D) n 4 2 m 4 ∧ upd2 (sN D) n 4 2 m 4 ≤ 2
  by_cases hm : m = n
  · rw [hm, upd2_eq]; decide
  · rw [upd2_nr _ hm]; exact h2.2.2.2.2.1
theorem mV_rej {D : SD} {V : Int → Int} {s0 : Int → rdS} (hD : stOK D) (h : mV D V s0) {n : Int} (hn : 0 ≤ n ∧ n < snN D) : mV (rejD D n) (updZ V (940 + 12 * n + 4) 2) s0 := by
  obtain ⟨⟨h19, h20, h21⟩, hpa, hno, hu, hu5⟩ := h.ls
  have hnP := hD.2.1.1
  have hnN := hD.2.2.1.1
  have hV : ∀ j, j ≠ 940 + 12 * n + 4 → updZ V (940 + 12 * n + 4) 2 j = V j := fun j hj => updZ_ne _ _ hj
  have e : ∀ m c, c ≠ 4 → sN (rejD D n) m c = sN D m c := fun m c hc => upd2_nc _ hc
  have e4 : ∀ m, m ≠ n → sN (rejD D n) m 4 = sN D m 4 := fun m hm => upd2_nr _ hm
  have e4n : sN (rejD D n) n 4 = 2 := upd2_eq _ _ _ _
  have eK : sK (rejD D n) = sK D := rfl
  have eP : sP (rejD D n) = sP D := rfl
  refine mV_pn hD h (fun j hj => hV j (by omega)) ⟨rfl, rfl, rfl, rfl, rfl, rfl, rfl, rfl⟩ ⟨⟨?_, ?_, ?_⟩, fun p p0 p1 => ?_, fun m m0 m1 => ?_, fun m m' m0 m1 m2 m3 o1 o2 o3 => ?_, fun m m0 m1 o => ?_⟩
  · rw [hV _ (by omega)]; exact h19
  · rw [hV _ (by omega)]; exact h20
  · rw [hV _ (by omega), h21]
    exact (zsum_c _ (fun i a b => by rw [e i 5 (by decide)])).symm
  · have p1 : p < snP D := p1
    obtain ⟨⟨r1, r2, r3, r4⟩, r5⟩ := hpa p p0 p1
    refine ⟨⟨fun k k0 k8 => ?_, ?_, ?_, ?_⟩, r5⟩
    · show updZ V (940 + 12 * n + 4) 2 (570 + 12 * p + k) = _
      rw [hV _ (by omega)]; exact r1 k k0 k8
    · show updZ V (940 + 12 * n + 4) 2 (570 + 12 * p + 9) = _
      rw [hV _ (by omega)]; exact r2
    · show updZ V (940 + 12 * n + 4) 2 (570 + 12 * p + 10) = _
      rw [hV _ (by omega)]; exact r3
    · show heldR _ (updZ V (940 + 12 * n + 4) 2 (570 + 12 * p + 11))
      rw [hV _ (by omega)]; exact r4
  · have m1 : m < snN D := m1
    obtain ⟨w1, ⟨w6, w7, w8⟩, ⟨w9, w10, w11⟩, w12, w13, w14⟩ := hno m m0 m1
    unfold notR
    rw [eK, eP, e m 3 (by decide), e m 1 (by decide), e m 2 (by decide), e m 0 (by decide)]
    refine ⟨fun c c0 c5 => ?_, ⟨?_, ?_, ?_⟩, ⟨?_, ?_, ?_⟩, w12, w13, fun o => ?_⟩
    · by_cases hc : c = 4
      · subst hc
        by_cases hm : m = n
        · rw [hm, e4n, updZ_eq]
        · rw [e4 m hm, hV _ (by omega)]; exact w1 4 c0 c5
      · rw [e m c hc, hV _ (by omega)]; exact w1 c c0 c5
    · rw [hV _ (by omega)]; exact w6
    · rw [hV _ (by omega)]; exact w7
    · rw [hV _ (by omega)]; exact w8
    · rw [hV _ (by omega)]; exact w9
    · rw [hV _ (by omega)]; exact w10
    · rw [hV _ (by omega)]; exact w11
    · by_cases hm : m = n
      · rw [hm, e4n] at o; exact absurd o (by decide)
      · rw [e4 m hm] at o; exact w14 o
  · by_cases hm : m = n
    · rw [hm, e4n] at o1; exact absurd o1 (by decide)
    · by_cases hm' : m' = n
      · rw [hm', e4n] at o2; exact absurd o2 (by decide)
      · rw [e4 m hm] at o1
        rw [e4 m' hm'] at o2
        rw [e m 0 (by decide), e m' 0 (by decide)] at o3
        exact hu m m' m0 m1 m2 m3 o1 o2 o3
  · by_cases hm : m = n
    · rw [hm, e4n] at o; exact absurd o (by decide)
    · rw [e4 m hm] at o
      rw [e m 5 (by decide)]; exact hu5 m m0 m1 o
/-! a note accepted -/
theorem acc_P {D : SD} {n : Int} (hn : 0 ≤ n ∧ n < 20) : (∀ j, 0 ≤ j → j < 22 → sP (accD D n) (sN D n 0) j = sK D n j) ∧ ∀ q, q ≠ sN D n 0 → sP (accD D n) q = sP D q := by
  refine ⟨fun j j0 j1 => ?_, fun q hq => ?_⟩
  · show (if sN D n 0 = sN D n 0 then tcell 20 22 (sK D) n j else sP D (sN D n 0) j) = _
    rw [if_pos rfl, tcell_in hn.1 hn.2 j0 j1]
  · funext j
    exact if_neg hq
theorem acc_N {D : SD} {n : Int} : (∀ m c, c ≠ 4 → c ≠ 5 → sN (accD D n) m c = sN D m c) ∧ (∀ m, m ≠ n → sN (accD D n) m = sN D m) ∧ sN (accD D n) n 4 = 1 ∧ sN (accD D n) n 5 = sP D (sN D n 0) 8 - sK D n 8 := by
  have hN : sN (accD D n) = upd2 (upd2 (sN D) n 4 1) n 5 (sP D (sN D n 0) 8 - sK D n 8) := rfl
  rw [hN]
  refine ⟨fun m c a b => ?_, fun m hm => ?_, ?_, ?_⟩
  · rw [upd2_nc _ b, upd2_nc _ a]
  · funext c; rw [upd2_nr _ hm, upd2_nr _ hm]
  · rw [upd2_nc _ (by decide), upd2_eq]
  · rw [upd2_eq]
theorem stOK_acc {D : SD} (h : stOK D) {n : Int} (hn : 0 ≤ n ∧ n < snN D) : stOK (accD D n) ∧ (wyD D → wyD (accD D n)) := by
  have hnN := h.2.2.1.1
  have hnP := h.2.1.1
  obtain ⟨o0, o1, o2, o3, o4, o5⟩ := h.2.2.1.2.2 n hn.1 hn.2
  obtain ⟨p1, p2⟩ := acc_P (D := D) ⟨hn.1, (by omega : n < 20)⟩
  obtain ⟨n1, n2, n3, n4⟩ := acc_N (D := D) (n := n)
  have hk := h.2.2.2.1.2.2 n hn.1 hn.2
  have hp := h.2.1.2.2 _ o0.1 o0.2
  have hk8 : 0 ≤ sK D n 8 ∧ sK D n 8 ≤ 1000000000 := hk.2.2.2.2.2.2.2.2.1
  have hp8 : 0 ≤ sP D (sN D n 0) 8 ∧ sP D (sN D n 0) 8 ≤ 1000000000 := hp.2.2.2.2.2.2.2.2.1
  refine ⟨⟨h.1, ⟨hnP, fun i j => ?_, fun q q0 q1 => ?_⟩, ⟨hnN, ?_, fun m m0 m1 => ?_⟩, h.2.2.2.1, h.2.2.2.2⟩, fun hw => ⟨fun q q0 q1 => ?_, hw.2⟩⟩
  · show inI (if i = sN D n 0 then tcell 20 22 (sK D) n j else sP D i j)
    split
    · exact inI_tcell h.2.2.2.1.2.1
    · exact h.2.1.2.1 i j
  · by_cases hq : q = sN D n 0
    · rw [hq]
      unfold rowOK at hk ⊢
      rw [p1 0 (by decide) (by decide), p1 1 (by decide) (by decide), p1 2 (by decide) (by decide), p1 3 (by decide) (by decide), p1 4 (by decide) (by decide), p1 5 (by decide) (by decide), p1 6 (by decide) (by decide), p1 7 (by decide) (by decide), p1 8 (by decide) (by decide), p1 11 (by decide) (by decide)]
      exact hk
    · have hq2 := h.2.1.2.2 q q0 q1
      unfold rowOK at hq2 ⊢
      rw [p2 q hq]
      exact hq2
  · exact upd2_in (upd2_in h.2.2.1.2.1 ⟨by decide, by decide⟩) ⟨by omega, by omega⟩
  · have h2 := h.2.2.1.2.2 m m0 m1
    unfold ntOK at h2 ⊢
    by_cases hm : m = n
    · rw [hm, n3, n4, n1 n 0 (by decide) (by decide), n1 n 1 (by decide) (by decide), n1 n 2 (by decide) (by decide), n1 n 3 (by decide) (by decide)]
      exact ⟨o0, o1, o2, o3, by decide, by omega, by omega⟩
    · rw [n2 m hm]
      exact h2
  · show wyK (sP (accD D n) q)
    by_cases hq : q = sN D n 0
    · have hw2 := hw.2 n hn.1 hn.2
      rw [hq]
      unfold wyK at hw2 ⊢
      rw [p1 12 (by decide) (by decide), p1 13 (by decide) (by decide)]
      exact hw2
    · rw [p2 q hq]; exact hw.1 q q0 q1
theorem mV_acc {D : SD} {V : Int → Int} {s0 : Int → rdS} (hD : stOK D) (h : mV D V s0) {n : Int} (hn : 0 ≤ n ∧ n < snN D) (ho : sN D n 4 = 0) : mV (accD D n) (seV V n) s0 ∧ bkV V n = sP D (sN D n 0) 8 - sK D n 8 := by
  obtain ⟨⟨h19, h20, h21⟩, hpa, hno, hu, hu5⟩ := h.ls
  have hnP := hD.2.1.1
  have hnN := hD.2.2.1.1
  obtain ⟨o0, o1, -⟩ := hD.2.2.1.2.2 n hn.1 hn.2
  obtain ⟨p1, p2⟩ := acc_P (D := D) ⟨hn.1, (by omega : n < 20)⟩
  obtain ⟨n1, n2, n3, n4⟩ := acc_N (D := D) (n := n)
  obtain ⟨v1, ⟨v6, v7, v8⟩, ⟨v9, v10, v11⟩, v12, v13, v14⟩ := hno n hn.1 hn.2
  have a0 := v1 0 (by decide) (by decide)
  have a1 := v1 1 (by decide) (by decide)
  have a2 := v1 2 (by decide) (by decide)
  have a3 := v1 3 (by decide) (by decide)
  have v14 := v14 ho
  obtain ⟨⟨r1, r2, r3, r4⟩, r5⟩ := hpa _ o0.1 o0.2
  obtain ⟨p, ep⟩ : ∃ p, p = sN D n 0 := ⟨_, rfl⟩
  obtain ⟨x, ex⟩ : ∃ x, x = sN D n 1 := ⟨_, rfl⟩
  rw [← ep] at a0 o0 r1 r2 r3 r4 r5 p1 p2 v14 n4
  rw [← ex] at a1 o1 v14
  have hbk : bkV V n = sP D p 8 - sK D n 8 := by
    unfold bkV
    rw [a0, a3]
    have e := r1 8 (by decide) (by decide)
    have e : V (570 + 12 * p + 8) = sP D p 8 := e
    rw [e, v12]
  refine ⟨?_, by rw [← ep]; exact hbk⟩
  have hV : ∀ j, j ≠ 21 → j ≠ 940 + 12 * n + 4 → j ≠ 940 + 12 * n + 5 → (j < 570 + 12 * p ∨ 570 + 12 * p + 12 ≤ j) → seV V n j = V j := fun j j1 j2 j3 j4 => by
    unfold seV
    rw [updZ_ne _ _ j1, updZ_ne _ _ j3, a0, a1]
    unfold actW
    rw [if_neg (by omega)]
    unfold seV1
    rw [updZ_ne _ _ (by omega), updZ_ne _ _ (by omega), updZ_ne _ _ (by omega), updZ_ne _ _ (by omega), updZ_ne _ _ (by omega), updZ_ne _ _ (by omega)]
  have hR0 : ∀ k, 0 ≤ k → k ≤ 8 → seV V n (570 + 12 * p + k) = seV1 V n p x (570 + 12 * p + k) := fun k k0 k1 => by
    unfold seV
    rw [updZ_ne _ _ (by omega), updZ_ne _ _ (by omega), a0, a1]
    unfold actW
    rw [if_neg (by omega)]
  have hR9 : ∀ k, 0 ≤ k → k < 3 → seV V n (570 + 12 * p + (9 + k)) = V (940 + 12 * n + (9 + k)) := fun k k0 k1 => by
    unfold seV
    rw [updZ_ne _ _ (by omega), updZ_ne _ _ (by omega), a0, a1]
    unfold actW
    rw [if_pos (by omega)]
    show V (940 + 12 * n + (9 + (570 + 12 * p + (9 + k) - (570 + 12 * p + 9)))) = _
    congr 1
    omega
  have hRk : ∀ k, 0 ≤ k → k ≤ 8 → seV V n (570 + 12 * p + k) = sK D n k := fun k k0 k8 => by
    rw [hR0 k k0 k8]
    unfold seV1
    by_cases h7 : k = 7
    · rw [h7, updZ_eq, v8]
    rw [updZ_ne _ _ (by omega)]
    by_cases h6 : k = 6
    · rw [h6, updZ_eq, v7]
    rw [updZ_ne _ _ (by omega)]
    by_cases h5 : k = 5
    · rw [h5, updZ_eq, v6]
    rw [updZ_ne _ _ (by omega)]
    by_cases h8 : k = 8
    · rw [h8, updZ_eq, a3, v12]
    rw [updZ_ne _ _ (by omega), v14 k k0 (by omega)]
    by_cases hx : k = x
    · rw [if_pos hx, hx, updZ_eq, a2]
    · rw [if_neg hx, updZ_ne _ _ (by omega), updZ_ne _ _ (by omega)]
      exact r1 k k0 k8
  have hV4 : seV V n (940 + 12 * n + 4) = 1 := by
    unfold seV
    rw [updZ_ne _ _ (by omega), updZ_ne _ _ (by omega), a0, a1]
    unfold actW
    rw [if_neg (by omega)]
    unfold seV1
    rw [updZ_ne _ _ (by omega), updZ_ne _ _ (by omega), updZ_ne _ _ (by omega), updZ_ne _ _ (by omega), updZ_ne _ _ (by omega), updZ_eq]
  have hV5 : seV V n (940 + 12 * n + 5) = bkV V n := by
    unfold seV
    rw [updZ_ne _ _ (by omega), updZ_eq]
  have eK : sK (accD D n) = sK D := rfl
  refine mV_pn hD h (fun j hj => hV j (by omega) (by omega) (by omega) (by omega)) ⟨rfl, rfl, rfl, rfl, rfl, rfl, rfl, rfl⟩ ⟨⟨?_, ?_, ?_⟩, fun q q0 q1 => ?_, fun m m0 m1 => ?_, fun m m' m0 m1 m2 m3 s1 s2 s3 => ?_, fun m m0 m1 s => ?_⟩
  · rw [hV _ (by decide) (by omega) (by omega) (by omega)]; exact h19
  · rw [hV _ (by decide) (by omega) (by omega) (by omega)]; exact h20
  · have e : seV V n 21 = V 21 + bkV V n := updZ_eq _ _ _
    rw [e, h21, hbk]
    refine (zsum_u (f := fun r => sN D r 5) (g := fun r => sN (accD D n) r 5) hn.1 (fun i hi => ?_) ?_ _ ?_).symm
    · show sN (accD D n) i 5 = sN D i 5
      rw [n2 i hi]
    · show sN (accD D n) n 5 = sN D n 5 + _
      rw [n4, hu5 n hn.1 hn.2 ho, Int.zero_add]
    · show n < ((snN D).toNat : Int)
      omega
  · have q1 : q < snP D := q1
    by_cases hq : q = p
    · rw [hq]
      refine ⟨⟨fun k k0 k8 => ?_, ?_, ?_, ?_⟩, ?_⟩
      · rw [p1 k k0 (by omega)]; exact hRk k k0 k8
      · rw [p1 12 (by decide) (by decide)]
        exact (hR9 0 (by decide) (by decide)).trans v9
      · rw [p1 13 (by decide) (by decide)]
        exact (hR9 1 (by decide) (by decide)).trans v10
      · have e : seV V n (570 + 12 * p + 11) = V (940 + 12 * n + 11) := hR9 2 (by decide) (by decide)
        show heldR _ (seV V n (570 + 12 * p + 11))
        rw [e]
        have hb := bcN_b (V (940 + 12 * n + 11)) 8 0
        refine ⟨v11.1, ?_, fun i i0 i1 => ?_⟩
        · rw [p1 11 (by decide) (by decide)]; exact v11.2.1
        · rw [p1 (14 + i) (by omega) (by omega)]; exact v11.2.2 i i0 i1
      · rw [p1 9 (by decide) (by decide), p1 1 (by decide) (by decide), p1 2 (by decide) (by decide), p1 3 (by decide) (by decide)]
        exact v13
    · obtain ⟨⟨t1, t2, t3, t4⟩, t5⟩ := hpa q q0 q1
      unfold parR
      rw [p2 q hq]
      refine ⟨⟨fun k k0 k8 => ?_, ?_, ?_, ?_⟩, t5⟩
      · show seV V n (570 + 12 * q + k) = _
        rw [hV _ (by omega) (by omega) (by omega) (by omega)]; exact t1 k k0 k8
      · show seV V n (570 + 12 * q + 9) = _
        rw [hV _ (by omega) (by omega) (by omega) (by omega)]; exact t2
      · show seV V n (570 + 12 * q + 10) = _
        rw [hV _ (by omega) (by omega) (by omega) (by omega)]; exact t3
      · show heldR _ (seV V n (570 + 12 * q + 11))
        rw [hV _ (by omega) (by omega) (by omega) (by omega)]; exact t4
  · have m1 : m < snN D := m1
    obtain ⟨w1, ⟨w6, w7, w8⟩, ⟨w9, w10, w11⟩, w12, w13, w14⟩ := hno m m0 m1
    unfold notR
    rw [eK]
    refine ⟨fun c c0 c5 => ?_, ⟨?_, ?_, ?_⟩, ⟨?_, ?_, ?_⟩, ?_, w13, fun s => ?_⟩
    · by_cases hm : m = n
      · rw [hm]
        by_cases h4 : c = 4
        · rw [h4, hV4, n3]
        · by_cases h5 : c = 5
          · rw [h5, hV5, n4, hbk]
          · rw [n1 n c h4 h5, hV _ (by omega) (by omega) (by omega) (by omega)]
            exact v1 c c0 c5
      · rw [n2 m hm, hV _ (by omega) (by omega) (by omega) (by omega)]; exact w1 c c0 c5
    · rw [hV _ (by omega) (by omega) (by omega) (by omega)]; exact w6
    · rw [hV _ (by omega) (by omega) (by omega) (by omega)]; exact w7
    · rw [hV _ (by omega) (by omega) (by omega) (by omega)]; exact w8
    · rw [hV _ (by omega) (by omega) (by omega) (by omega)]; exact w9
    · rw [hV _ (by omega) (by omega) (by omega) (by omega)]; exact w10
    · rw [hV _ (by omega) (by omega) (by omega) (by omega)]; exact w11
    · rw [n1 m 3 (by decide) (by decide)]; exact w12
    · by_cases hm : m = n
      · rw [hm, n3] at s; exact absurd s (by decide)
      · rw [n2 m hm] at s ⊢
        have hp : sN D m 0 ≠ p := fun q => hm (hu m n m0 m1 hn.1 hn.2 s ho (q.trans ep))
        rw [p2 _ hp]
        exact w14 s
  · by_cases hm : m = n
    · rw [hm, n3] at s1; exact absurd s1 (by decide)
    · by_cases hm' : m' = n
      · rw [hm', n3] at s2; exact absurd s2 (by decide)
      · rw [n2 m hm] at s1 s3
        rw [n2 m' hm'] at s2 s3
        exact hu m m' m0 m1 m2 m3 s1 s2 s3
  · by_cases hm : m = n
    · rw [hm, n3] at s; exact absurd s (by decide)
    · rw [n2 m hm] at s ⊢
      exact hu5 m m0 m1 s
theorem vOK_rej {D : SD} {V : Int → Int} {n : Int} (hv : vOK V) (hn : 0 ≤ n) : vOK (updZ V (940 + 12 * n + 4) 2) := vOK_up hv (Or.inr (Or.inr (by omega))) ⟨by decide, by decide⟩
theorem vOK_acc {D : SD} {V : Int → Int} {s0 : Int → rdS} {n : Int} (hD : stOK D) (hm : mV D V s0) (hn : 0 ≤ n ∧ n < snN D) (hD' : stOK (accD D n)) (h : mV (accD D n) (seV V n) s0) (hv : vOK V) : vOK (seV V n) := vOK_pn hD' h hv (fun j hj => by
  have hnP := hD.2.1.1
  have hnN := hD.2.2.1.1
  obtain ⟨o0, o1, -⟩ := hD.2.2.1.2.2 n hn.1 hn.2
  have a0 := (hm.ls.2.2.1 n hn.1 hn.2).1 0 (by decide) (by decide)
  have a1 := (hm.ls.2.2.1 n hn.1 hn.2).1 1 (by decide) (by decide)
  have e : snP (accD D n) = snP D := rfl
  have e2 : snN (accD D n) = snN D := rfl
  rw [e, e2] at hj
  unfold seV
  rw [updZ_ne _ _ (by omega), updZ_ne _ _ (by omega), a0, a1]
  unfold actW
  rw [if_neg (by omega)]
  unfold seV1
  rw [updZ_ne _ _ (by omega), updZ_ne _ _ (by omega), updZ_ne _ _ (by omega), updZ_ne _ _ (by omega), updZ_ne _ _ (by omega), updZ_ne _ _ (by omega)])
