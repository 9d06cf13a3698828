/-! ===== the class alone: what was proved for whole, as it stands there ===== -/
def rgo (h : Int) : Nat → Int → Int → Int
  | 0, _, _ => -1000009
  | n + 1, k, l => if h / ((2 ^ k.toNat : Nat) : Int) % 2 = 1 then (if l = 0 then 30 + k else rgo h n (k + 1) (l - 1)) else rgo h n (k + 1) l
/-! ===== the reference: less, lighter, shorter, cheapest ===== -/
def lsZ (f : Int → Int) (ch : Int) : Nat → Int → Int
  | 0, _ => -1000009
  | n + 1, i => if f i < ch then i else lsZ f ch n (i + 1)
/-! ===== the reference: its fingerprint ===== -/
def bcN (h : Int) : Nat → Int → Int
  | 0, _ => 0
  | n + 1, k => (if h / ((2 ^ k.toNat : Nat) : Int) % 2 = 1 then 1 else 0) + bcN h n (k + 1)
theorem bcN_b (h : Int) : ∀ (n : Nat) (k : Int), 0 ≤ bcN h n k ∧ bcN h n k ≤ n
  | 0, _ => ⟨Int.le_refl 0, Int.le_refl 0⟩
  | n + 1, k => by
    have a := bcN_b h n (k + 1)
    show 0 ≤ (if h / ((2 ^ k.toNat : Nat) : Int) % 2 = 1 then 1 else 0) + bcN h n (k + 1) ∧ (if h / ((2 ^ k.toNat : Nat) : Int) % 2 = 1 then 1 else 0) + bcN h n (k + 1) ≤ ((n + 1 : Nat) : Int)
    split <;> omega
/-! ===== what ties the class's state D to the reference's row V: prices ===== -/
theorem bits_dec : ∀ n : Nat, n < 8 → ∀ h : Nat, h < 2 ^ n → bcN ((h + 2 ^ n : Nat) : Int) 8 0 = bcN (h : Int) 8 0 + 1 ∧ rgo ((h + 2 ^ n : Nat) : Int) 8 0 (bcN (h : Int) 8 0) = 30 + n ∧ ∀ i : Nat, i < 8 → (i : Int) < bcN (h : Int) 8 0 → rgo ((h + 2 ^ n : Nat) : Int) 8 0 i = rgo (h : Int) 8 0 i := by decide +kernel
theorem bits_s {n : Nat} {h : Int} (hn : n < 8) (h0 : 0 ≤ h) (h1 : h < ((2 ^ n : Nat) : Int)) : bcN (h + ((2 ^ n : Nat) : Int)) 8 0 = bcN h 8 0 + 1 ∧ rgo (h + ((2 ^ n : Nat) : Int)) 8 0 (bcN h 8 0) = 30 + n ∧ ∀ i, 0 ≤ i → i < bcN h 8 0 → rgo (h + ((2 ^ n : Nat) : Int)) 8 0 i = rgo h 8 0 i := by
  obtain ⟨k, rfl⟩ : ∃ k : Nat, h = (k : Int) := ⟨h.toNat, by omega⟩
  obtain ⟨a, b, c⟩ := bits_dec n hn k (by omega)
  have e : ((k : Int) + ((2 ^ n : Nat) : Int)) = ((k + 2 ^ n : Nat) : Int) := by omega
  rw [e]
  refine ⟨a, b, fun i i0 i1 => ?_⟩
  have hb := bcN_b (k : Int) 8 0
  obtain ⟨m, rfl⟩ : ∃ m : Nat, i = (m : Int) := ⟨i.toNat, by omega⟩
  exact c m (by omega) i1
def hbC (φ : Int → Bool) (R : Int → Int → Int) : Nat → Int
  | 0 => 0
  | n + 1 => if holdsZ φ R n = true then hbC φ R n + ((2 ^ n : Nat) : Int) else hbC φ R n
theorem hbC_b (φ : Int → Bool) (R : Int → Int → Int) : ∀ n : Nat, 0 ≤ hbC φ R n ∧ hbC φ R n < ((2 ^ n : Nat) : Int)
  | 0 => ⟨Int.le_refl 0, by show (0 : Int) < ((1 : Nat) : Int); decide⟩
  | n + 1 => by
    have h := hbC_b φ R n
    show 0 ≤ (if holdsZ φ R n = true then hbC φ R n + ((2 ^ n : Nat) : Int) else hbC φ R n) ∧ (if holdsZ φ R n = true then hbC φ R n + ((2 ^ n : Nat) : Int) else hbC φ R n) < ((2 ^ (n + 1) : Nat) : Int)
    rw [Nat.pow_succ]
    split <;> omega
theorem upd2_nc (P : Int → Int → Int) {r c x i j : Int} (h : j ≠ c) : upd2 P r c x i j = P i j := if_neg (fun q => h q.2)
theorem upd2_nr (P : Int → Int → Int) {r c x i j : Int} (h : i ≠ r) : upd2 P r c x i j = P i j := if_neg (fun q => h q.1)
theorem chP_h (φ : Int → Bool) (R : Int → Int → Int) {P : Int → Int → Int} {row : Int} (h11 : P row 11 = 2) : ∀ n : Nat, n ≤ 8 → chP φ R P row n row 11 = 2 + bcN (hbC φ R n) 8 0 ∧ (∀ i, 0 ≤ i → i < bcN (hbC φ R n) 8 0 → chP φ R P row n row (14 + i) = rgo (hbC φ R n) 8 0 i) ∧ ∀ j, j ≠ 11 → j < 14 → chP φ R P row n row j = P row j
  | 0, _ => ⟨by rw [show chP φ R P row 0 = P from rfl, h11]; rfl, fun i a b => absurd b (by show ¬ i < 0; omega), fun _ _ _ => rfl⟩
  | n + 1, hn => by
    obtain ⟨a1, a2, a3⟩ := chP_h φ R h11 n (by omega)
    have hb := hbC_b φ R n
    have hc := bcN_b (hbC φ R n) 8 0
    by_cases hh : holdsZ φ R n = true
    · have e1 : chP φ R P row (n + 1) = rsn (chP φ R P row n) row (30 + n) := if_pos hh
      have e2 : hbC φ R (n + 1) = hbC φ R n + ((2 ^ n : Nat) : Int) := if_pos hh
      obtain ⟨b1, b2, b3⟩ := bits_s (n := n) (by omega) hb.1 hb.2
      rw [e1, e2, b1]
      unfold rsn
      refine ⟨by rw [upd2_eq, a1]; omega, fun i i0 i1 => ?_, fun j j1 j2 => ?_⟩
      · rw [upd2_nc _ (by omega), a1]
        by_cases hi : i = bcN (hbC φ R n) 8 0
        · rw [show 14 + i = 12 + (2 + bcN (hbC φ R n) 8 0) by omega, upd2_eq, hi, b2]
        · rw [upd2_nc _ (by omega), a2 i i0 (by omega), b3 i i0 (by omega)]
      · rw [upd2_nc _ j1, upd2_nc _ (by rw [a1]; omega), a3 j j1 j2]
    · have e1 : chP φ R P row (n + 1) = chP φ R P row n := if_neg hh
      have e2 : hbC φ R (n + 1) = hbC φ R n := if_neg hh
      rw [e1, e2]
      exact ⟨a1, a2, a3⟩
/-- the columns of a row ahead of its rules -/
theorem prC_v (F C E : Int → Int) (L Pr P : Int → Int → Int) (row : Int) : (∀ j, j ≤ 4 → prC F C E L Pr P row row j = P row j) ∧ prC F C E L Pr P row row 5 = dimZ F P row ∧ prC F C E L Pr P row row 6 = bilZ F (P row 0) (dimZ F P row) ∧ prC F C E L Pr P row row 7 = baseZ C E L Pr (P row 4) (bilZ F (P row 0) (dimZ F P row)) ∧ prC F C E L Pr P row row 9 = girZ (P row 1) (P row 2) (P row 3) ∧ prC F C E L Pr P row row 10 = lngZ (P row 1) (P row 2) (P row 3) ∧ prC F C E L Pr P row row 11 = 2 ∧ prC F C E L Pr P row row 12 = wrZ (P row 0) (dimZ F P row) ∧ prC F C E L Pr P row row 13 = brsZ C L (P row 4) (bilZ F (P row 0) (dimZ F P row)) := by
  have hA : ∀ j, j ≤ 4 → prA F P row row j = P row j := fun j hj => by unfold prA; rw [upd2_nc _ (by omega), upd2_nc _ (by omega)]
  have hA5 : prA F P row row 5 = dimZ F P row := by unfold prA; rw [upd2_nc _ (by decide), upd2_eq]
  have hA6 : prA F P row row 6 = bilZ F (P row 0) (dimZ F P row) := by unfold prA; rw [upd2_eq]
  have hM : ∀ j, j ≠ 9 → j ≠ 10 → msr (prA F P row) row row j = prA F P row row j := fun j h1 h2 => by unfold msr; rw [upd2_nc _ h1, upd2_nc _ h2]
  have hM9 : msr (prA F P row) row row 9 = girZ (P row 1) (P row 2) (P row 3) := by unfold msr; rw [upd2_eq, hA 1 (by decide), hA 2 (by decide), hA 3 (by decide)]
  have hM10 : msr (prA F P row) row row 10 = lngZ (P row 1) (P row 2) (P row 3) := by unfold msr; rw [upd2_nc _ (by decide), upd2_eq, hA 1 (by decide), hA 2 (by decide), hA 3 (by decide)]
  have hU : ∀ j, j ≠ 11 → upd2 (msr (prA F P row) row) row 11 0 row j = msr (prA F P row) row row j := fun j h => upd2_nc _ h
  have hU11 : upd2 (msr (prA F P row) row) row 11 0 row 11 = 0 := upd2_eq _ _ _ _
  have hB : ∀ j, j ≤ 10 → prB F P row row j = msr (prA F P row) row row j := fun j hj => by unfold prB rsn; rw [upd2_nc _ (by omega), hU11, upd2_nc _ (by omega), hU j (by omega)]
  have hB11 : prB F P row row 11 = 1 := by unfold prB rsn; rw [upd2_eq, hU11]; rfl
  have hB12 : prB F P row row 12 = wrZ (P row 0) (dimZ F P row) := by unfold prB rsn; rw [upd2_nc _ (by decide), hU11]; exact upd2_eq _ _ _ _
  have hC : ∀ j, j ≠ 7 → j ≠ 11 → j ≠ 13 → prC F C E L Pr P row row j = prB F P row row j := fun j h1 h2 h3 => by unfold prC rsn; rw [upd2_nc _ h1, upd2_nc _ h2, hB11, upd2_nc _ (by omega)]
  refine ⟨fun j hj => by rw [hC j (by omega) (by omega) (by omega), hB j (by omega), hM j (by omega) (by omega), hA j hj], ?_, ?_, ?_, ?_, ?_, ?_, ?_, ?_⟩
  · rw [hC 5 (by decide) (by decide) (by decide), hB 5 (by decide), hM 5 (by decide) (by decide), hA5]
  · rw [hC 6 (by decide) (by decide) (by decide), hB 6 (by decide), hM 6 (by decide) (by decide), hA6]
  · unfold prC; rw [upd2_eq]
  · rw [hC 9 (by decide) (by decide) (by decide), hB 9 (by decide), hM9]
  · rw [hC 10 (by decide) (by decide) (by decide), hB 10 (by decide), hM10]
  · unfold prC rsn; rw [upd2_nc _ (by decide), upd2_eq, hB11]; rfl
  · rw [hC 12 (by decide) (by decide) (by decide), hB12]
  · unfold prC rsn; rw [upd2_nc _ (by decide), upd2_nc _ (by decide), hB11]; exact upd2_eq _ _ _ _
/-- a priced row, column by column -/
theorem prD_w (D : SD) (hn : snR D ≤ 8) (P : Int → Int → Int) (row : Int) : ∃ φ : Int → Bool, φ = factZ (prC (sF D) (sC D) (sE D) (sL D) (sQ D) P row row) ∧ (∀ j, j ≤ 4 → prD D P row row j = P row j) ∧ prD D P row row 5 = dimZ (sF D) P row ∧ prD D P row row 6 = bilZ (sF D) (P row 0) (dimZ (sF D) P row) ∧ prD D P row row 7 = baseZ (sC D) (sE D) (sL D) (sQ D) (P row 4) (bilZ (sF D) (P row 0) (dimZ (sF D) P row)) ∧ prD D P row row 8 = chV φ (sR D) (baseZ (sC D) (sE D) (sL D) (sQ D) (P row 4) (bilZ (sF D) (P row 0) (dimZ (sF D) P row))) (snR D).toNat ∧ prD D P row row 9 = girZ (P row 1) (P row 2) (P row 3) ∧ prD D P row row 10 = lngZ (P row 1) (P row 2) (P row 3) ∧ prD D P row row 12 = wrZ (P row 0) (dimZ (sF D) P row) ∧ prD D P row row 13 = brsZ (sC D) (sL D) (P row 4) (bilZ (sF D) (P row 0) (dimZ (sF D) P row)) ∧ prD D P row row 11 = 2 + bcN (hbC φ (sR D) (snR D).toNat) 8 0 ∧ (∀ i, 0 ≤ i → i < bcN (hbC φ (sR D) (snR D).toNat) 8 0 → prD D P row row (14 + i) = rgo (hbC φ (sR D) (snR D).toNat) 8 0 i) := by
  refine ⟨_, rfl, ?_⟩
  obtain ⟨c0, c5, c6, c7, c9, c10, c11, c12, c13⟩ := prC_v (sF D) (sC D) (sE D) (sL D) (sQ D) P row
  obtain ⟨h1, h2, h3⟩ := chP_h (factZ (prC (sF D) (sC D) (sE D) (sL D) (sQ D) P row row)) (sR D) c11 (snR D).toNat (by omega)
  have e : ∀ j, j ≠ 8 → prD D P row row j = chP (factZ (prC (sF D) (sC D) (sE D) (sL D) (sQ D) P row row)) (sR D) (prC (sF D) (sC D) (sE D) (sL D) (sQ D) P row) row (snR D).toNat row j := fun j hj => by unfold prD prT; exact upd2_nc _ hj
  refine ⟨fun j hj => by rw [e j (by omega), h3 j (by omega) (by omega), c0 j hj], ?_, ?_, ?_, ?_, ?_, ?_, ?_, ?_, ?_, ?_⟩
  · rw [e 5 (by decide), h3 5 (by decide) (by decide), c5]
  · rw [e 6 (by decide), h3 6 (by decide) (by decide), c6]
  · rw [e 7 (by decide), h3 7 (by decide) (by decide), c7]
  · unfold prD prT; rw [upd2_eq, c7]
  · rw [e 9 (by decide), h3 9 (by decide) (by decide), c9]
  · rw [e 10 (by decide), h3 10 (by decide) (by decide), c10]
  · rw [e 12 (by decide), h3 12 (by decide) (by decide), c12]
  · rw [e 13 (by decide), h3 13 (by decide) (by decide), c13]
  · rw [e 11 (by decide), h1]
  · intro i i0 i1
    rw [e (14 + i) (by omega), h2 i i0 i1]
def wyK (x : Int → Int) : Prop := (1 ≤ x 12 ∧ x 12 ≤ 3) ∧ (10 ≤ x 13 ∧ x 13 ≤ 20)
/-- the reasons of all parcels and claims are reasons -/
def wyD (D : SD) : Prop := (∀ p, 0 ≤ p → p < snP D → wyK (sP D p)) ∧ ∀ n, 0 ≤ n → n < snN D → wyK (sK D n)
/-! ===== the relation through acts: what stays in range; the bands ===== -/
theorem scF_i {F : Int → Int} : scF F ↔ ∀ j, 0 ≤ j → j < 8 → loS j.toNat ≤ F j ∧ F j ≤ hiS j.toNat := by
  constructor
  · intro h j j0 j8
    obtain ⟨⟨h0, h1, h2, h3⟩, ⟨h4, h5, h6, h7⟩⟩ := h
    rcases (show j = 0 ∨ j = 1 ∨ j = 2 ∨ j = 3 ∨ j = 4 ∨ j = 5 ∨ j = 6 ∨ j = 7 by omega) with e | e | e | e | e | e | e | e <;> subst e
    · exact h0
    · exact h1
    · exact h2
    · exact h3
    · exact h4
    · exact h5
    · exact h6
    · exact h7
  · intro h
    exact ⟨⟨h 0 (by decide) (by decide), h 1 (by decide) (by decide), h 2 (by decide) (by decide), h 3 (by decide) (by decide)⟩, ⟨h 4 (by decide) (by decide), h 5 (by decide) (by decide), h 6 (by decide) (by decide), h 7 (by decide) (by decide)⟩⟩
theorem scF_up {F : Int → Int} {i x : Int} (h : scF F) (hx : setOK i x) : scF (updZ F i x) := by
  rw [scF_i] at h ⊢
  intro j j0 j8
  unfold updZ
  by_cases e : j = i
  · rw [if_pos e, e]; exact hx.2
  · rw [if_neg e]; exact h j j0 j8
theorem stOK_sc {D : SD} (h : stOK D) {f g : Int → Int} (hf : scF f) (hg : scG g) (h3 : 0 ≤ g 3 ∧ g 3 ≤ 100000 ∧ g 5 ≤ 2) : stOK (f, g, D.2.2) := ⟨⟨⟨hf, hg⟩, h.1.2⟩, h.2.1, h.2.2.1, h.2.2.2.1, h3⟩
theorem stOK_set {D : SD} (h : stOK D) {i x : Int} (hx : setOK i x) : stOK (wF D (updZ (sF D) i x)) := stOK_sc h (scF_up h.1.1.1 hx) h.1.1.2 h.2.2.2.2
theorem stOK_load {D : SD} (h : stOK D) {x : Int} (x0 : 0 ≤ x) (x1 : x ≤ 100000) : stOK (wG D (scLoad (sG D) x)) := by
  obtain ⟨⟨g0, g1, g2, g3⟩, ⟨g4, g5, g6⟩, g7⟩ := h.1.1.2
  exact stOK_sc h h.1.1.1 ⟨⟨⟨x0, x1⟩, g1, g2, g3⟩, ⟨g4, g5, ⟨Int.le_refl 0, by show (0 : Int) ≤ 3; decide⟩⟩, g7⟩ h.2.2.2.2
theorem stOK_zero {D : SD} (h : stOK D) : stOK (wG D (updZ (updZ (sG D) 2 (scRaw (sF D) (sG D))) 3 0)) := by
  have hb := scRaw_b h.1.1.1 h.1.1.2
  obtain ⟨⟨g0, g1, g2, g3⟩, ⟨g4, g5, g6⟩, g7⟩ := h.1.1.2
  exact stOK_sc h h.1.1.1 ⟨⟨g0, g1, ⟨show -2200000 ≤ scRaw (sF D) (sG D) by omega, show scRaw (sF D) (sG D) ≤ 2200000 by omega⟩, ⟨by show (-5000000 : Int) ≤ 0; decide, by show (0 : Int) ≤ 5000000; decide⟩⟩, ⟨g4, g5, g6⟩, g7⟩ ⟨Int.le_refl 0, by show (0 : Int) ≤ 100000; decide, h.2.2.2.2.2.2⟩
theorem stOK_tare {D : SD} (h : stOK D) (ho : scOver (sF D) (sG D) = false) (h0 : 0 ≤ scGross (sF D) (sG D)) : stOK (wG D (updZ (sG D) 3 (scGross (sF D) (sG D)))) := by
  have hb := scGross_b h.1.1.1 h.1.1.2
  have hov := of_decide_eq_false ho
  obtain ⟨⟨-, -, f2, f3⟩, -⟩ := h.1.1.1
  obtain ⟨⟨g0, g1, g2, g3⟩, ⟨g4, g5, g6⟩, g7⟩ := h.1.1.2
  have hu : scGross (sF D) (sG D) ≤ 100000 := by omega
  exact stOK_sc h h.1.1.1 ⟨⟨g0, g1, g2, ⟨show -5000000 ≤ scGross (sF D) (sG D) by omega, show scGross (sF D) (sG D) ≤ 5000000 by omega⟩⟩, ⟨g4, g5, g6⟩, g7⟩ ⟨h0, hu, h.2.2.2.2.2.2⟩
theorem tkN_3 (F g : Int → Int) : ∀ n : Nat, tkN F g n 3 = g 3
  | 0 => rfl
  | n + 1 => by
    show scPass F (tkN F g n) 3 = _
    rw [← tkN_3 F g n]
    show scTrack F (scPut (scStep F (tkN F g n)) (scRaw F (scStep F (tkN F g n)))) 3 = _
    unfold scTrack
    split
    · rfl
    · rfl
theorem stOK_tick {D : SD} (h : stOK D) (n : Nat) (hn : sG D 1 + n ≤ 100000) : stOK (wG D (tkN (sF D) (sG D) n)) := by
  obtain ⟨h1, h2, h3⟩ := tkN_ok h.1.1.1 h.1.1.2 h.2.2.2.2.2.2 n hn
  exact stOK_sc h h.1.1.1 h1 ⟨by rw [tkN_3]; exact h.2.2.2.2.1, by rw [tkN_3]; exact h.2.2.2.2.2.1, h2⟩
theorem stOK_bn {D : SD} (h : stOK D) {c e : Int → Int} {l q : Int → Int → Int} (hb : bdOK c e l q) : stOK (D.1, D.2.1, c, e, l, q, D.2.2.2.2.2.2) := ⟨⟨h.1.1, hb, h.1.2.2⟩, h.2⟩
theorem bclose_in {L : Int → Int → Int} {z i c : Int} (h : ∀ a b, inI (L a b)) : ∀ a b, inI (bclose L z i c a b) := fun a b => by
  unfold bclose
  split
  · exact h _ _
  · exact h _ _
theorem stOK_unband {D : SD} (h : stOK D) {z i : Int} (z0 : 0 ≤ z) (z4 : z < 4) (i0 : 0 ≤ i) (i1 : i < sC D z) : stOK (wC D (updZ (sC D) z (sC D z - 1)) (bclose (sL D) z i (sC D z - 1)) (bclose (sQ D) z i (sC D z - 1))) := by
  obtain ⟨h1, h2, h3, h4⟩ := h.1.2.1
  have hz := h1 z z0 z4
  refine stOK_bn h ⟨fun y y0 y4 => ?_, bclose_in h2, bclose_in h3, fun y y0 y4 => ⟨(h4 y y0 y4).1, fun k k0 k1 => ?_⟩⟩
  · unfold updZ
    split
    · omega
    · exact h1 y y0 y4
  · have h5 := (h4 y y0 y4).2
    unfold bclose
    by_cases hy : y = z
    · subst hy
      rw [updZ_eq] at k1
      by_cases hk : i ≤ k
      · rw [if_pos ⟨rfl, hk, k1⟩, if_pos ⟨rfl, hk, k1⟩]; exact h5 (k + 1) (by omega) (by omega)
      · rw [if_neg (by omega), if_neg (by omega)]; exact h5 k k0 (by omega)
    · rw [updZ_ne _ _ hy] at k1
      rw [if_neg (fun q => hy q.1), if_neg (fun q => hy q.1)]; exact h5 k k0 k1
theorem upd2_in {L : Int → Int → Int} {r c x : Int} (h : ∀ a b, inI (L a b)) (hx : inI x) : ∀ a b, inI (upd2 L r c x a b) := fun a b => by
  unfold upd2
  split
  · exact hx
  · exact h _ _
theorem bopen_in {L : Int → Int → Int} {n z c : Int} (h : ∀ a b, inI (L a b)) : ∀ a b, inI (bopen n L z c a b) := fun a b => by
  unfold bopen
  split
  · exact h _ _
  · exact h _ _
theorem stOK_band {D : SD} (h : stOK D) {z l p : Int} (z0 : 0 ≤ z) (z4 : z < 4) (hl : 1 ≤ l ∧ l ≤ 100000) (hp : 0 ≤ p ∧ p ≤ 100000) (h6 : (bidx (sC D) (sL D) z l < sC D z ∧ sL D z (bidx (sC D) (sL D) z l) = l) ∨ sC D z < 6) : stOK (bandD D z l p) := by
  obtain ⟨h1, h2, h3, h4⟩ := h.1.2.1
  have hz := h1 z z0 z4
  have hx := bidx_b (L := sL D) (z := z) (x := l) hz.1
  have hlI : inI l := ⟨by omega, by omega⟩
  have hpI : inI p := ⟨by omega, by omega⟩
  unfold bandD
  by_cases hc : bidx (sC D) (sL D) z l < sC D z ∧ sL D z (bidx (sC D) (sL D) z l) = l
  · rw [if_pos hc]
    refine stOK_bn h ⟨h1, upd2_in h2 hlI, upd2_in h3 hpI, fun y y0 y4 => ⟨(h4 y y0 y4).1, fun k k0 k1 => ?_⟩⟩
    unfold upd2
    by_cases hk : y = z ∧ k = bidx (sC D) (sL D) z l
    · rw [if_pos hk, if_pos hk]; exact ⟨hl, hp⟩
    · rw [if_neg hk, if_neg hk]; exact (h4 y y0 y4).2 k k0 k1
  · rw [if_neg hc]
    have h7 : sC D z < 6 := h6.elim (fun q => absurd q hc) id
    generalize bidx (sC D) (sL D) z l = m at hx
    refine stOK_bn h ⟨fun y y0 y4 => ?_, upd2_in (bopen_in h2) hlI, upd2_in (bopen_in h3) hpI, fun y y0 y4 => ⟨(h4 y y0 y4).1, fun k k0 k1 => ?_⟩⟩
    · unfold updZ
      split
      · omega
      · exact h1 y y0 y4
    · have h5 := (h4 y y0 y4).2
      unfold upd2 bopen
      by_cases hk : y = z ∧ k = m
      · rw [if_pos hk, if_pos hk]; exact ⟨hl, hp⟩
      · rw [if_neg hk, if_neg hk]
        by_cases hy : y = z
        · subst hy
          rw [updZ_eq] at k1
          by_cases hm : m < k
          · rw [if_pos (by omega), if_pos (by omega)]; exact h5 (k - 1) (by omega) (by omega)
          · rw [if_neg (by omega), if_neg (by omega)]; exact h5 k k0 (by omega)
        · rw [updZ_ne _ _ hy] at k1
          rw [if_neg (fun q => hy q.1), if_neg (fun q => hy q.1)]; exact h5 k k0 k1
/-! ===== the relation through acts: the rules ===== -/
def nbK (a b : Int) : Prop := 0 ≤ a ∧ (b ≤ 0 → a < 1) ∧ (b ≤ 1 → a < 10) ∧ (b ≤ 2 → a < 100) ∧ (b ≤ 3 → a < 1000) ∧ (b ≤ 4 → a < 10000) ∧ a < 100000
def tkI (s : rdS) : Prop := (∀ i, inI (s.2 i)) ∧ (0 ≤ s.1 3 ∧ s.1 3 ≤ 5) ∧ (-1 ≤ s.1 6 ∧ s.1 6 ≤ 5) ∧ (-1 ≤ s.1 7 ∧ s.1 7 ≤ 2) ∧ (s.1 4 = 2 ∨ s.1 4 = 5 → nbK (s.1 2) (s.1 3))
theorem tkI_tok {t : Int} {s : rdS} (ht : inI t) (h : tkI s) : tkI (tokS t s) := by
  unfold tokS
  split
  · obtain ⟨h1, h2⟩ := h
    refine ⟨fun i => ?_, h2⟩
    show inI (updZ s.2 (s.1 0) t i)
    unfold updZ
    split
    · exact ht
    · exact h1 i
  · exact h
theorem tkI_link {c : Int} {s : rdS} (hc : -1000 ≤ c ∧ c ≤ 1000) (h : tkI s) : tkI (rdLink c s).2 := by
  have hI : inI (-c) := ⟨by omega, by omega⟩
  obtain ⟨h1, h3, h6, h7, h4⟩ := h
  unfold rdLink
  split
  · exact ⟨h1, h3, h6, h7, fun q => absurd q (by show ¬ ((4 : Int) = 2 ∨ (4 : Int) = 5); decide)⟩
  · split
    · exact tkI_tok (s := (updZ (updZ s.1 5 (s.1 5 - 1)) 4 3, s.2)) hI ⟨h1, h3, h6, h7, fun q => absurd q (by show ¬ ((3 : Int) = 2 ∨ (3 : Int) = 5); decide)⟩
    · split
      · exact tkI_tok (s := (updZ s.1 4 0, s.2)) hI ⟨h1, h3, h6, h7, fun q => absurd q (by show ¬ ((0 : Int) = 2 ∨ (0 : Int) = 5); decide)⟩
      · exact ⟨h1, h3, h6, h7, h4⟩
theorem tkI_dig {c : Int} {s : rdS} (h : tkI s) : tkI (rdDig c s).2 := by
  obtain ⟨h1, h3, h6, h7, h4⟩ := h
  unfold rdDig
  split
  · rename_i hc
    refine ⟨h1, ⟨show 0 ≤ s.1 3 + 1 by omega, show s.1 3 + 1 ≤ 5 by omega⟩, h6, h7, fun q => ?_⟩
    have hn := h4 q
    show nbK (s.1 2 * 10 + c - 48) (s.1 3 + 1)
    unfold nbK at hn ⊢
    omega
  · exact ⟨h1, h3, h6, h7, h4⟩
theorem tkI_all {c : Int} {s : rdS} (hc : -1000 ≤ c ∧ c ≤ 1000) (h : tkI s) : tkI (rdAll c s).2 := by
  have hI : inI (-c) := ⟨by omega, by omega⟩
  have hh := h
  obtain ⟨h1, h3, h6, h7, h4⟩ := h
  unfold rdAll
  split
  · rename_i e0
    unfold rdTerm
    split
    · exact tkI_tok (s := (updZ s.1 5 (s.1 5 + 0), s.2)) hI ⟨h1, h3, h6, h7, h4⟩
    · split
      · exact tkI_tok (s := (updZ s.1 5 (s.1 5 + 1), s.2)) hI ⟨h1, h3, h6, h7, h4⟩
      · exact ⟨h1, h3, letZ_b c, h7, fun q => absurd q (by show ¬ ((1 : Int) = 2 ∨ (1 : Int) = 5); decide)⟩
  · split
    · exact ⟨h1, ⟨Int.le_refl 0, by show (0 : Int) ≤ 5; decide⟩, h6, relZ_b c, fun _ => by show nbK 0 0; unfold nbK; omega⟩
    · split
      · rename_i e2
        split
        · exact tkI_dig hh
        · unfold rdLBN
          split
          · exact hh
          · have hn := h4 (Or.inl e2)
            unfold nbK at hn
            exact tkI_link hc (tkI_tok ⟨by omega, by omega⟩ hh)
      · split
        · exact tkI_link hc hh
        · split
          · exact ⟨h1, ⟨Int.le_refl 0, by show (0 : Int) ≤ 5; decide⟩, h6, h7, fun _ => by show nbK 0 0; unfold nbK; omega⟩
          · exact tkI_dig hh
theorem tkI_go {B : Int → Int} : ∀ (k : Nat) (i : Int) (s : rdS), (∀ j, i ≤ j → j < i + k → -1000 ≤ B j ∧ B j ≤ 1000) → tkI s → tkI (rdGo B k i s).2
  | 0, _, _, _, h => h
  | k + 1, i, s, hB, h => by
    have h1 := tkI_all (hB i (Int.le_refl i) (by omega)) h
    show tkI (if (rdAll (B i) s).1 = true then rdGo B k (i + 1) (rdAll (B i) s).2 else (i, (rdAll (B i) s).2)).2
    split
    · exact tkI_go k (i + 1) _ (fun j a b => hB j (by omega) (by omega)) h1
    · exact h1
theorem tkI_start {ρ T : Int → Int} (hr : rdOK 100 ρ) (hT : ∀ i, inI (T i)) : tkI (rdStart ρ, T) := by
  obtain ⟨-, h3, -, -, h6, h7⟩ := hr
  exact ⟨hT, h3, h6, h7, fun q => absurd q (by show ¬ ((0 : Int) = 2 ∨ (0 : Int) = 5); decide)⟩
theorem stOK_ru {D : SD} (h : stOK D) {n : Int} {R : Int → Int → Int} (hu : ruOK n R) (hi : ∀ i j, inI (R i j)) : stOK (wR D n R) := ⟨⟨h.1.1, h.1.2.1, hu, hi⟩, h.2⟩
theorem stOK_unrule {D : SD} (h : stOK D) (h1 : 1 ≤ snR D) : stOK (wR D (snR D - 1) (sR D)) := by
  obtain ⟨⟨a, b⟩, c⟩ := h.1.2.2
  exact stOK_ru h ⟨⟨by omega, by omega⟩, fun r r0 r1 => b r r0 (by omega)⟩ c
theorem adR_lo {n : Int} {s : rdS} {R : Int → Int → Int} {k c : Int} (h : k ≠ n) : adR n s R c k = R k := by
  funext j
  unfold adR
  rw [if_neg (fun q => h q.1), if_neg (fun q => h q.1), if_neg (fun q => h q.1), if_neg (fun q => h q.1)]
theorem stOK_rule {D : SD} (h : stOK D) {s : rdS} (h8 : snR D < 8) (h0 : 0 ≤ s.1 0 ∧ s.1 0 ≤ 60) (h1 : inI (s.1 1)) (h2 : 0 ≤ s.1 2 ∧ s.1 2 ≤ 99999) (ht : ∀ i, inI (s.2 i)) : stOK (rulD D s) := by
  obtain ⟨⟨a, b⟩, c⟩ := h.1.2.2
  refine stOK_ru h ⟨⟨by omega, by omega⟩, fun r r0 r1 => ?_⟩ (fun i j => ?_)
  · by_cases hr : r = snR D
    · have e0 : adR (snR D) s (sR D) (s.1 0) r 0 = s.1 0 := by unfold adR; rw [if_neg (by omega), if_neg (by omega), if_neg (by omega), if_pos ⟨hr, rfl⟩]
      have e2 : adR (snR D) s (sR D) (s.1 0) r 2 = s.1 2 := by unfold adR; rw [if_neg (by omega), if_pos ⟨hr, rfl⟩]
      rw [e0, e2]
      exact ⟨h0, h2⟩
    · rw [adR_lo hr]
      exact b r r0 (by omega)
  · unfold adR
    split
    · exact ht _
    · split
      · exact ⟨by omega, by omega⟩
      · split
        · exact h1
        · split
          · exact ⟨by omega, by omega⟩
          · exact c i j
/-! ===== the relation through acts: parcels and notes ===== -/
theorem prD_i {D : SD} {P : Int → Int → Int} {row i : Int} (h : i ≠ row) : prD D P row i = P i := by
  funext j
  unfold prD prT
  rw [upd2_nr _ h, chP_i _ _ h]
  unfold prC
  rw [upd2_nr _ h, rsn_ne (Or.inl h)]
  unfold prB
  rw [rsn_ne (Or.inl h), upd2_nr _ h]
  unfold msr
  rw [upd2_nr _ h, upd2_nr _ h]
  unfold prA
  rw [upd2_nr _ h, upd2_nr _ h]
theorem rowOK_pr {D : SD} (hOK : stOK1 D) {P : Int → Int → Int} {r : Int} (h : rowIn D P r) (h0 : 1 ≤ P r 0 ∧ P r 0 ≤ 100000) : rowOK (prD D P r) r ∧ wyK (prD D P r r) := by
  obtain ⟨v, v5, v6, v7, v8, -, -, v11, -, d1, d2⟩ := prD_v hOK h
  obtain ⟨φ, -, -, -, -, -, -, -, -, w12, w13, -⟩ := prD_w D hOK.2.2.1.1.2 P r
  obtain ⟨s0, s1, s2, s3, s4, hc, hP⟩ := h
  have hbz := baseZ_b hOK.2.1 (x := bilZ (sF D) (P r 0) (dimZ (sF D) P r)) s4.1 s4.2 hc (by omega) (by omega)
  have hbr := brsZ_b (L := sL D) (x := bilZ (sF D) (P r 0) (dimZ (sF D) P r)) (hOK.2.1.1 (P r 4) s4.1 s4.2)
  have hwr : 1 ≤ wrZ (P r 0) (dimZ (sF D) P r) ∧ wrZ (P r 0) (dimZ (sF D) P r) ≤ 3 := by unfold wrZ; split <;> (try split) <;> omega
  unfold rowOK wyK
  rw [v 0 (by decide) (by decide), v 1 (by decide) (by decide), v 2 (by decide) (by decide), v 3 (by decide) (by decide), v 4 (by decide) (by decide), v5, v6, v7, w12, w13]
  exact ⟨⟨h0, s1, s2, s3, s4, d1, ⟨by omega, by omega⟩, ⟨by omega, by omega⟩, v8, v11⟩, hwr, hbr⟩
theorem zsum_c {f g : Int → Int} : ∀ n : Nat, (∀ i : Int, 0 ≤ i → i < n → f i = g i) → zsum f n = zsum g n
  | 0, _ => rfl
  | n + 1, h => by
    show zsum f n + f n = zsum g n + g n
    rw [zsum_c n (fun i a b => h i a (by omega)), h n (by omega) (by omega)]
/-! ===== the relation through acts: take in range; dispute; settle ===== -/
theorem stOK_take {D : SD} (h : stOK D) {a b c z : Int} (ha : 1 ≤ a ∧ a ≤ 2000) (hb : 1 ≤ b ∧ b ≤ 2000) (hc : 1 ≤ c ∧ c ≤ 2000) (z0 : 0 ≤ z) (z3 : z ≤ 3) (hC : 0 < sC D z) (hp : snP D < 30) (ho : scOver (sF D) (sG D) = false) (hw : 1 ≤ scGross (sF D) (sG D) - sG D 3) : stOK (takD D a b c z) ∧ (wyD D → wyD (takD D a b c z)) := by
  have hgb := scGross_b h.1.1.1 h.1.1.2
  have hov := of_decide_eq_false ho
  obtain ⟨⟨-, -, f2, f3⟩, -⟩ := h.1.1.1
  have h3 := h.2.2.2.2.1
  have hnP := h.2.1.1
  obtain ⟨wt, ewt⟩ : ∃ y, y = scGross (sF D) (sG D) - sG D 3 := ⟨_, rfl⟩
  rw [← ewt] at hw
  have hwt : 1 ≤ wt ∧ wt ≤ 100000 := ⟨hw, by omega⟩
  have eP : takD D a b c z = wP D (snP D + 1) (prD D (dsc (sP D) (snP D) wt a b c z) (snP D)) := by unfold takD; rw [← ewt]
  have d0 : dsc (sP D) (snP D) wt a b c z (snP D) 0 = wt := by unfold dsc; rw [upd2_nc _ (by decide), upd2_nc _ (by decide), upd2_nc _ (by decide), upd2_nc _ (by decide), upd2_eq]
  have d1 : dsc (sP D) (snP D) wt a b c z (snP D) 1 = a := by unfold dsc; rw [upd2_nc _ (by decide), upd2_nc _ (by decide), upd2_nc _ (by decide), upd2_eq]
  have d2 : dsc (sP D) (snP D) wt a b c z (snP D) 2 = b := by unfold dsc; rw [upd2_nc _ (by decide), upd2_nc _ (by decide), upd2_eq]
  have d3 : dsc (sP D) (snP D) wt a b c z (snP D) 3 = c := by unfold dsc; rw [upd2_nc _ (by decide), upd2_eq]
  have d4 : dsc (sP D) (snP D) wt a b c z (snP D) 4 = z := by unfold dsc; rw [upd2_eq]
  have hdi : ∀ i, i ≠ snP D → dsc (sP D) (snP D) wt a b c z i = sP D i := fun i hi => by
    funext j
    unfold dsc
    rw [upd2_nr _ hi, upd2_nr _ hi, upd2_nr _ hi, upd2_nr _ hi, upd2_nr _ hi]
  have hri : rowIn D (dsc (sP D) (snP D) wt a b c z) (snP D) := by
    unfold rowIn
    rw [d0, d1, d2, d3, d4]
    exact ⟨⟨by omega, by omega⟩, ha, hb, hc, ⟨z0, by omega⟩, by omega, dsc_in h.2.1.2.1 ⟨by omega, by omega⟩ ⟨by omega, by omega⟩ ⟨by omega, by omega⟩ ⟨by omega, by omega⟩ ⟨by omega, by omega⟩⟩
  have hro := rowOK_pr h.1 hri (by rw [d0]; exact hwt)
  have hin := (prD_v h.1 hri).2.2.2.2.2.2.2.2.1
  rw [eP]
  refine ⟨⟨h.1, ⟨⟨by show 0 ≤ snP D + 1; omega, by show snP D + 1 ≤ 30; omega⟩, hin, fun p p0 p1 => ?_⟩, ⟨h.2.2.1.1, h.2.2.1.2.1, fun n n0 n1 => ?_⟩, h.2.2.2.1, h.2.2.2.2⟩, fun hw2 => ⟨fun p p0 p1 => ?_, hw2.2⟩⟩
  · have p1 : p < snP D + 1 := p1
    by_cases hpn : p = snP D
    · rw [hpn]; exact hro.1
    · have h2 := h.2.1.2.2 p p0 (by omega)
      show rowOK (prD D (dsc (sP D) (snP D) wt a b c z) (snP D)) p
      unfold rowOK at h2 ⊢
      rw [prD_i hpn, hdi p hpn]
      exact h2
  · obtain ⟨o0, o1⟩ := h.2.2.1.2.2 n n0 n1
    exact ⟨⟨o0.1, by show sN D n 0 < snP D + 1; omega⟩, o1⟩
  · have p1 : p < snP D + 1 := p1
    show wyK (prD D (dsc (sP D) (snP D) wt a b c z) (snP D) p)
    by_cases hpn : p = snP D
    · rw [hpn]; exact hro.2
    · rw [prD_i hpn, hdi p hpn]
      exact hw2.1 p p0 (by omega)
/-! dispute -/
theorem stOK_disp {D : SD} (h : stOK D) {p x y : Int} (hp : 0 ≤ p ∧ p < snP D) (hx : 0 ≤ x ∧ x ≤ 3) (hy : 1 ≤ y ∧ y ≤ (if x = 0 then 100000 else 2000)) (hc : 0 < sC D (sP D p 4)) (hn : snN D < 20) : stOK (dspD D p x y) ∧ (wyD D → wyD (dspD D p x y)) := by
  have hri := clmK_ok h hp hx hy hc
  have hnP := h.2.1.1
  have hnN := h.2.2.1.1
  have hy2 : y ≤ 100000 := by have := hy.2; split at this <;> omega
  have e0 : clmK D p x y (snN D) 0 = if 0 = x then y else sP D p 0 := clmK_r ⟨hp.1, by omega⟩ ⟨by decide, by decide⟩
  have hr0 := (h.2.1.2.2 p hp.1 hp.2).1
  have hro := rowOK_pr h.1 hri (by rw [e0]; split <;> omega)
  have hin := (prD_v h.1 hri).2.2.2.2.2.2.2.2.1
  have v8 := (prD_v h.1 hri).2.2.2.2.1
  have hki : ∀ i, i ≠ snN D → prD D (clmK D p x y) (snN D) i = sK D i := fun i hi => by
    rw [prD_i hi]
    funext j
    unfold clmK
    rw [upd2_nr _ hi]
    exact if_neg hi
  obtain ⟨P8, e8⟩ : ∃ q, q = prD D (clmK D p x y) (snN D) (snN D) 8 := ⟨_, rfl⟩
  rw [← e8] at v8
  have hN : sN (dspD D p x y) = upd2 (upd2 (upd2 (upd2 (upd2 (upd2 (sN D) (snN D) 0 p) (snN D) 1 x) (snN D) 2 y) (snN D) 3 P8) (snN D) 4 0) (snN D) 5 0 := by rw [e8]; rfl
  have hNi : ∀ i, i ≠ snN D → sN (dspD D p x y) i = sN D i := fun i hi => by
    funext j
    rw [hN, upd2_nr _ hi, upd2_nr _ hi, upd2_nr _ hi, upd2_nr _ hi, upd2_nr _ hi, upd2_nr _ hi]
  refine ⟨⟨h.1, h.2.1, ⟨⟨by show 0 ≤ snN D + 1; omega, by show snN D + 1 ≤ 20; omega⟩, ?_, fun n n0 n1 => ?_⟩, ⟨rfl, hin, fun n n0 n1 => ?_⟩, h.2.2.2.2⟩, fun hw2 => ⟨hw2.1, fun n n0 n1 => ?_⟩⟩
  · rw [hN]
    exact upd2_in (upd2_in (upd2_in (upd2_in (upd2_in (upd2_in h.2.2.1.2.1 ⟨by omega, by omega⟩) ⟨by omega, by omega⟩) ⟨by omega, by omega⟩) ⟨by omega, by omega⟩) ⟨by decide, by decide⟩) ⟨by decide, by decide⟩
  · have n1 : n < snN D + 1 := n1
    by_cases hnn : n = snN D
    · subst hnn
      have f0 : sN (dspD D p x y) (snN D) 0 = p := by rw [hN, upd2_nc _ (by decide), upd2_nc _ (by decide), upd2_nc _ (by decide), upd2_nc _ (by decide), upd2_nc _ (by decide), upd2_eq]
      have f1 : sN (dspD D p x y) (snN D) 1 = x := by rw [hN, upd2_nc _ (by decide), upd2_nc _ (by decide), upd2_nc _ (by decide), upd2_nc _ (by decide), upd2_eq]
      have f2 : sN (dspD D p x y) (snN D) 2 = y := by rw [hN, upd2_nc _ (by decide), upd2_nc _ (by decide), upd2_nc _ (by decide), upd2_eq]
      have f3 : sN (dspD D p x y) (snN D) 3 = P8 := by rw [hN, upd2_nc _ (by decide), upd2_nc _ (by decide), upd2_eq]
      have f4 : sN (dspD D p x y) (snN D) 4 = 0 := by rw [hN, upd2_nc _ (by decide), upd2_eq]
      have f5 : sN (dspD D p x y) (snN D) 5 = 0 := by rw [hN, upd2_eq]
      unfold ntOK
      rw [f0, f1, f2, f3, f4, f5]
      exact ⟨hp, hx, hy, v8, ⟨by decide, by decide⟩, ⟨by decide, by decide⟩⟩
    · have h2 := h.2.2.1.2.2 n n0 (by omega)
      unfold ntOK at h2 ⊢
      rw [hNi n hnn]
      exact h2
  · have n1 : n < snN D + 1 := n1
    show rowOK (prD D (clmK D p x y) (snN D)) n
    by_cases hnn : n = snN D
    · rw [hnn]; exact hro.1
    · have h2 := h.2.2.2.1.2.2 n n0 (by omega)
      unfold rowOK at h2 ⊢
      rw [hki n hnn]
      exact h2
  · have n1 : n < snN D + 1 := n1
    show wyK (prD D (clmK D p x y) (snN D) n)
    by_cases hnn : n = snN D
    · rw [hnn]; exact hro.2
    · rw [hki n hnn]
      exact hw2.2 n n0 (by omega)
/-! a note turned down -/
def rejD (D : SD) (n : Int) : SD := wN D (snN D) (upd2 (sN D) n 4 2) (snK D) (sK D)
theorem stOK_rej {D : SD} (h : stOK D) {n : Int} (hn : 0 ≤ n ∧ n < snN D) : stOK (rejD D n) ∧ (wyD D → wyD (rejD D n)) := by
  refine ⟨⟨h.1, h.2.1, ⟨h.2.2.1.1, upd2_in h.2.2.1.2.1 ⟨by decide, by decide⟩, fun m m0 m1 => ?_⟩, h.2.2.2.1, h.2.2.2.2⟩, fun hw => hw⟩
  have h2 := h.2.2.1.2.2 m m0 m1
  have e : ∀ c, c ≠ 4 → sN (rejD D n) m c = sN D m c := fun c hc => upd2_nc _ hc
  unfold ntOK at h2 ⊢
  rw [e 0 (by decide), e 1 (by decide), e 2 (by decide), e 3 (by decide), e 5 (by decide)]
  refine ⟨h2.1, h2.2.1, h2.2.2.1, h2.2.2.2.1, ?_, h2.2.2.2.2.2⟩
  show 0 ≤ upd2 (sN D) n 4 2 m 4 ∧ upd2 (sN D) n 4 2 m 4 ≤ 2
  by_cases hm : m = n
  · rw [hm, upd2_eq]; decide
  · rw [upd2_nr _ hm]; exact h2.2.2.2.2.1
/-! a note accepted -/
theorem acc_P {D : SD} {n : Int} (hn : 0 ≤ n ∧ n < 20) : (∀ j, 0 ≤ j → j < 22 → sP (accD D n) (sN D n 0) j = sK D n j) ∧ ∀ q, q ≠ sN D n 0 → sP (accD D n) q = sP D q := by
  refine ⟨fun j j0 j1 => ?_, fun q hq => ?_⟩
  · show (if sN D n 0 = sN D n 0 then tcell 20 22 (sK D) n j else sP D (sN D n 0) j) = _
    rw [if_pos rfl, tcell_in hn.1 hn.2 j0 j1]
  · funext j
    exact if_neg hq
theorem acc_N {D : SD} {n : Int} : (∀ m c, c ≠ 4 → c ≠ 5 → sN (accD D n) m c = sN D m c) ∧ (∀ m, m ≠ n → sN (accD D n) m = sN D m) ∧ sN (accD D n) n 4 = 1 ∧ sN (accD D n) n 5 = sP D (sN D n 0) 8 - sK D n 8 := by
  have hN : sN (accD D n) = upd2 (upd2 (sN D) n 4 1) n 5 (sP D (sN D n 0) 8 - sK D n 8) := rfl
  rw [hN]
  refine ⟨fun m c a b => ?_, fun m hm => ?_, ?_, ?_⟩
  · rw [upd2_nc _ b, upd2_nc _ a]
  · funext c; rw [upd2_nr _ hm, upd2_nr _ hm]
  · rw [upd2_nc _ (by decide), upd2_eq]
  · rw [upd2_eq]
theorem stOK_acc {D : SD} (h : stOK D) {n : Int} (hn : 0 ≤ n ∧ n < snN D) : stOK (accD D n) ∧ (wyD D → wyD (accD D n)) := by
  have hnN := h.2.2.1.1
  have hnP := h.2.1.1
  obtain ⟨o0, o1, o2, o3, o4, o5⟩ := h.2.2.1.2.2 n hn.1 hn.2
  obtain ⟨p1, p2⟩ := acc_P (D := D) ⟨hn.1, (by omega : n < 20)⟩
  obtain ⟨n1, n2, n3, n4⟩ := acc_N (D := D) (n := n)
  have hk := h.2.2.2.1.2.2 n hn.1 hn.2
  have hp := h.2.1.2.2 _ o0.1 o0.2
  have hk8 : 0 ≤ sK D n 8 ∧ sK D n 8 ≤ 1000000000 := hk.2.2.2.2.2.2.2.2.1
  have hp8 : 0 ≤ sP D (sN D n 0) 8 ∧ sP D (sN D n 0) 8 ≤ 1000000000 := hp.2.2.2.2.2.2.2.2.1
  refine ⟨⟨h.1, ⟨hnP, fun i j => ?_, fun q q0 q1 => ?_⟩, ⟨hnN, ?_, fun m m0 m1 => ?_⟩, h.2.2.2.1, h.2.2.2.2⟩, fun hw => ⟨fun q q0 q1 => ?_, hw.2⟩⟩
  · show inI (if i = sN D n 0 then tcell 20 22 (sK D) n j else sP D i j)
    split
    · exact inI_tcell h.2.2.2.1.2.1
    · exact h.2.1.2.1 i j
  · by_cases hq : q = sN D n 0
    · rw [hq]
      unfold rowOK at hk ⊢
      rw [p1 0 (by decide) (by decide), p1 1 (by decide) (by decide), p1 2 (by decide) (by decide), p1 3 (by decide) (by decide), p1 4 (by decide) (by decide), p1 5 (by decide) (by decide), p1 6 (by decide) (by decide), p1 7 (by decide) (by decide), p1 8 (by decide) (by decide), p1 11 (by decide) (by decide)]
      exact hk
    · have hq2 := h.2.1.2.2 q q0 q1
      unfold rowOK at hq2 ⊢
      rw [p2 q hq]
      exact hq2
  · exact upd2_in (upd2_in h.2.2.1.2.1 ⟨by decide, by decide⟩) ⟨by omega, by omega⟩
  · have h2 := h.2.2.1.2.2 m m0 m1
    unfold ntOK at h2 ⊢
    by_cases hm : m = n
    · rw [hm, n3, n4, n1 n 0 (by decide) (by decide), n1 n 1 (by decide) (by decide), n1 n 2 (by decide) (by decide), n1 n 3 (by decide) (by decide)]
      exact ⟨o0, o1, o2, o3, by decide, by omega, by omega⟩
    · rw [n2 m hm]
      exact h2
  · show wyK (sP (accD D n) q)
    by_cases hq : q = sN D n 0
    · have hw2 := hw.2 n hn.1 hn.2
      rw [hq]
      unfold wyK at hw2 ⊢
      rw [p1 12 (by decide) (by decide), p1 13 (by decide) (by decide)]
      exact hw2
    · rw [p2 q hq]; exact hw.1 q q0 q1
/-! ===== lighter: between two turns no price changes ===== -/
def srtD (D : SD) : Prop := ∀ z, 0 ≤ z → z < 4 → ∀ i j, 0 ≤ i → i < j → j < sC D z → sL D z i < sL D z j
theorem bidx_same {C : Int → Int} {L : Int → Int → Int} {z x y : Int} (hs : ∀ i j, 0 ≤ i → i < j → j < C z → L z i < L z j) (hC : 0 ≤ C z) (hxy : y ≤ x) (h : bidx C L z x = 0 ∨ L z (bidx C L z x - 1) < y) : bidx C L z y = bidx C L z x := by
  have bx := bidx_b (L := L) (z := z) (x := x) hC
  have bY := bidx_b (L := L) (z := z) (x := y) hC
  obtain ⟨b, eb⟩ : ∃ b, b = bidx C L z x := ⟨_, rfl⟩
  obtain ⟨c, ec⟩ : ∃ c, c = bidx C L z y := ⟨_, rfl⟩
  rw [← eb] at h bx ⊢
  rw [← ec] at bY ⊢
  rcases Int.lt_trichotomy c b with hl | hl | hl
  · have h1 := bidx_ge (C := C) (L := L) (z := z) (x := y) hC (by rw [← ec]; omega)
    rw [← ec] at h1
    rcases h with h | h
    · omega
    · by_cases e : c = b - 1
      · rw [e] at h1; omega
      · have := hs c (b - 1) (by omega) (by omega) (by omega); omega
  · exact hl
  · have h1 := bidx_lt (C := C) (L := L) (z := z) (x := y) (j := b) (by omega) (by rw [← ec]; omega) hC
    have h2 := bidx_ge (C := C) (L := L) (z := z) (x := x) hC (by rw [← eb]; omega)
    rw [← eb] at h2
    omega
theorem begZ_v (y : Int) : (begZ y - 1) * 1000 < y ∧ y ≤ begZ y * 1000 := by
  unfold begZ
  omega
theorem bnl_lt {C : Int → Int} {L : Int → Int → Int} {z x : Int} (hC : 1 ≤ C z) (hx : 1 ≤ x) : bnlZ C L z x < x := by
  have bx := bidx_b (L := L) (z := z) (x := x) (show 0 ≤ C z by omega)
  unfold bnlZ
  split
  · by_cases h0 : bidx C L z x = 0
    · rw [h0, bl_out (by omega)]; omega
    · rw [bl_in (by omega) (by omega)]
      exact bidx_lt (C := C) (L := L) (z := z) (x := x) (by omega) (by omega) (by omega)
  · have h1 := begZ_v (x - L z (C z - 1))
    omega
theorem base_same {C E : Int → Int} {L Pr : Int → Int → Int} {z x y : Int} (hs : ∀ i j, 0 ≤ i → i < j → j < C z → L z i < L z j) (hC : 1 ≤ C z) (hxy : y ≤ x) (h : bnlZ C L z x < y) : baseZ C E L Pr z y = baseZ C E L Pr z x := by
  have bx := bidx_b (L := L) (z := z) (x := x) (show 0 ≤ C z by omega)
  by_cases hb : bidx C L z x < C z
  · have e : bidx C L z y = bidx C L z x := by
      refine bidx_same hs (by omega) hxy ?_
      unfold bnlZ at h
      rw [if_pos hb] at h
      by_cases h0 : bidx C L z x = 0
      · exact Or.inl h0
      · rw [bl_in (by omega) (by omega)] at h
        exact Or.inr h
    unfold baseZ
    rw [e, if_pos hb, if_pos hb]
  · have hl : L z (C z - 1) < x := bidx_lt (C := C) (L := L) (z := z) (x := x) (by omega) (by omega) (by omega)
    unfold bnlZ at h
    rw [if_neg hb] at h
    have g1 := begZ_v (x - L z (C z - 1))
    have e : bidx C L z y = bidx C L z x := by
      refine bidx_same hs (by omega) hxy (Or.inr ?_)
      rw [show bidx C L z x - 1 = C z - 1 by omega]
      omega
    unfold baseZ
    rw [e, if_neg hb, if_neg hb]
    have e2 : begZ (y - L z (C z - 1)) = begZ (x - L z (C z - 1)) := by
      unfold begZ at g1 h ⊢
      omega
    rw [e2]
/-! up to the next step -/
def clZ (u x : Int) : Int := (x + u - 1) / u * u
theorem cl_b {u : Int} (hu : 1 ≤ u) (x : Int) : x ≤ clZ u x ∧ clZ u x < x + u := by
  have h1 := Int.ediv_mul_le (x + u - 1) (show u ≠ 0 by omega)
  have h2 := Int.lt_ediv_add_one_mul_self (x + u - 1) (show 0 < u by omega)
  rw [Int.add_mul, Int.one_mul] at h2
  unfold clZ
  omega
theorem cl_m {u x y : Int} (hu : 1 ≤ u) (h : x ≤ y) : clZ u x ≤ clZ u y := Int.mul_le_mul_of_nonneg_right (Int.ediv_le_ediv (by omega) (by omega)) (by omega)
theorem mul_st {u a b : Int} (hu : 1 ≤ u) (h : a * u < b * u) : a * u + u ≤ b * u := by
  have h1 : a < b := Int.lt_of_mul_lt_mul_right h (by omega)
  have h2 := Int.mul_le_mul_of_nonneg_right (show a + 1 ≤ b by omega) (show 0 ≤ u by omega)
  rw [Int.add_mul, Int.one_mul] at h2
  exact h2
theorem cl_gt {u k x : Int} (hu : 1 ≤ u) (h : k * u < x) : k * u + u ≤ clZ u x := mul_st hu (show k * u < (x + u - 1) / u * u from Int.lt_of_lt_of_le h (cl_b hu x).1)
theorem cl_le {u k x : Int} (hu : 1 ≤ u) (h : x ≤ k * u) : clZ u x ≤ k * u := by
  by_cases hc : clZ u x ≤ k * u
  · exact hc
  · have h1 := mul_st (a := k) (b := (x + u - 1) / u) hu (show k * u < clZ u x by omega)
    have h2 := (cl_b hu x).2
    have h3 : (x + u - 1) / u * u = clZ u x := rfl
    omega
theorem bil_cl (F : Int → Int) (w d : Int) (hu : 1 ≤ F 7) : (clZ (F 7) w ≤ bilZ F w d ∧ clZ (F 7) d ≤ bilZ F w d) ∧ (bilZ F w d = clZ (F 7) w ∨ bilZ F w d = clZ (F 7) d) := by
  have e : bilZ F w d = clZ (F 7) (mx w d) := rfl
  rw [e]
  unfold mx
  split
  · exact ⟨⟨cl_m hu (by omega), Int.le_refl _⟩, Or.inr rfl⟩
  · exact ⟨⟨Int.le_refl _, cl_m hu (by omega)⟩, Or.inl rfl⟩
/-! one comparison -/
theorem cmp_same {x y n rel : Int} (h : (n < x ∧ n < y) ∨ x = y ∨ (x < n ∧ y < n)) : cmpZ x n rel = cmpZ y n rel := by
  rcases h with h | h | h
  · unfold cmpZ
    rw [decide_eq_false (show ¬ x < n by omega), decide_eq_false (show ¬ y < n by omega), decide_eq_false (show ¬ x = n by omega), decide_eq_false (show ¬ y = n by omega), decide_eq_true h.1, decide_eq_true h.2]
  · rw [h]
  · unfold cmpZ
    rw [decide_eq_true h.1, decide_eq_true h.2, decide_eq_false (show ¬ x = n by omega), decide_eq_false (show ¬ y = n by omega), decide_eq_false (show ¬ n < x by omega), decide_eq_false (show ¬ n < y by omega)]
theorem colZ_v (t : Int) : colZ t = -1000009 ∨ colZ t = 6 ∨ colZ t = 0 ∨ colZ t = 5 ∨ colZ t = 9 ∨ colZ t = 10 ∨ colZ t = 4 := by
  unfold colZ
  by_cases h : t < 0 ∨ 6 ≤ t / 100000 / 3
  · rw [if_pos h]; exact Or.inl rfl
  · rw [if_neg h]
    have hn : (t / 100000 / 3).toNat < 6 := by omega
    obtain ⟨n, en⟩ : ∃ n, n = (t / 100000 / 3).toNat := ⟨_, rfl⟩
    rw [← en] at hn ⊢
    match n, hn with
    | 0, _ => exact Or.inr (Or.inl rfl)
    | 1, _ => exact Or.inr (Or.inr (Or.inl rfl))
    | 2, _ => exact Or.inr (Or.inr (Or.inr (Or.inl rfl)))
    | 3, _ => exact Or.inr (Or.inr (Or.inr (Or.inr (Or.inl rfl))))
    | 4, _ => exact Or.inr (Or.inr (Or.inr (Or.inr (Or.inr (Or.inl rfl)))))
    | 5, _ => exact Or.inr (Or.inr (Or.inr (Or.inr (Or.inr (Or.inr rfl)))))
theorem turn_lt {t w u : Int} (hw : 1 ≤ w) : turnZ t w u < w := by
  unfold turnZ
  split
  · omega
  · split <;> omega
/-- below a weight, down to its turn, a comparison answers the same -/
theorem fact_same {f g : Int → Int} {t w y u d : Int} {F : Int → Int} (eu : u = F 7) (hu : 1 ≤ u) (hy : 1 ≤ y) (hyw : y ≤ w) (ht : turnZ t w u < y) (f0 : f 0 = y) (g0 : g 0 = w) (f6 : f 6 = bilZ F y d) (g6 : g 6 = bilZ F w d) (hfg : ∀ j, j = 4 ∨ j = 5 ∨ j = 9 ∨ j = 10 → f j = g j) : factZ f t = factZ g t := by
  unfold factZ
  have hn : 0 ≤ t % 100000 := Int.emod_nonneg _ (by decide)
  obtain ⟨n, en⟩ : ∃ n, n = t % 100000 := ⟨_, rfl⟩
  rw [← en] at hn ⊢
  rcases colZ_v t with h | h | h | h | h | h | h <;> rw [h]
  · rw [if_neg (by decide), if_neg (by decide)]
  · rw [if_pos (by decide), if_pos (by decide), f6, g6]
    refine cmp_same ?_
    unfold turnZ at ht
    rw [if_neg (fun q => q.1 h)] at ht
    have es : stZ t u = u := if_pos h
    rw [es, ← en] at ht
    obtain ⟨⟨a1, a2⟩, a3⟩ := bil_cl F y d (by omega)
    obtain ⟨⟨b1, b2⟩, b3⟩ := bil_cl F w d (by omega)
    rw [← eu] at a1 a2 a3 b1 b2 b3
    have cm := cl_m (u := u) hu hyw
    by_cases hf : n / u * u < w
    · have e1 : tu1 n u w = n / u * u := if_pos hf
      rw [e1, if_pos hf] at ht
      have c1 := cl_gt hu ht
      have c2 := Int.lt_ediv_add_one_mul_self n (show 0 < u by omega)
      rw [Int.add_mul, Int.one_mul] at c2
      exact Or.inl ⟨by omega, by omega⟩
    · have e1 : tu1 n u w = (n - 1).tdiv u * u := if_neg hf
      have c0 := Int.ediv_mul_le n (show u ≠ 0 by omega)
      rw [fdiv_a (show 0 ≤ n - 1 by omega)] at e1
      have c2 := Int.lt_ediv_add_one_mul_self (n - 1) (show 0 < u by omega)
      rw [Int.add_mul, Int.one_mul] at c2
      have c3 := Int.ediv_mul_le (n - 1) (show u ≠ 0 by omega)
      rw [e1] at ht
      by_cases h2 : (n - 1) / u * u < w
      · rw [if_pos h2] at ht
        have d1 := cl_gt hu ht
        have d3 := cl_le (u := u) (k := n / u) (x := w) hu (by omega)
        have d4 := mul_st (a := (n - 1) / u) (b := n / u) hu (by omega)
        exact Or.inr (Or.inl (by omega))
      · have d1 := cl_le (u := u) (k := (n - 1) / u) (x := w) hu (by omega)
        by_cases hd : n ≤ clZ u d
        · exact Or.inr (Or.inl (by omega))
        · exact Or.inr (Or.inr ⟨by omega, by omega⟩)
  · rw [if_pos (by decide), if_pos (by decide), f0, g0]
    refine cmp_same ?_
    unfold turnZ at ht
    rw [if_neg (fun q => q.2 h)] at ht
    have es : stZ t u = 1 := if_neg (by omega)
    rw [es, ← en] at ht
    unfold tu1 at ht
    rw [Int.ediv_one, Int.mul_one, Int.tdiv_one, Int.mul_one] at ht
    by_cases hf : n < w
    · rw [if_pos hf, if_pos hf] at ht
      exact Or.inl ⟨by omega, by omega⟩
    · rw [if_neg hf] at ht
      by_cases h2 : n - 1 < w
      · rw [if_pos h2] at ht
        exact Or.inr (Or.inl (by omega))
      · exact Or.inr (Or.inr ⟨by omega, by omega⟩)
  · rw [if_pos (by decide), if_pos (by decide), hfg 5 (by omega)]
  · rw [if_pos (by decide), if_pos (by decide), hfg 9 (by omega)]
  · rw [if_pos (by decide), if_pos (by decide), hfg 10 (by omega)]
  · rw [if_pos (by decide), if_pos (by decide), hfg 4 (by omega)]
/-! all rules -/
theorem evN_f {φ ψ : Int → Bool} {T : Int → Int} : ∀ n : Nat, (∀ j : Int, 0 ≤ j → j < n → φ (T j) = ψ (T j)) → evN φ T n = evN ψ T n
  | 0, _ => rfl
  | n + 1, h => by
    show ev1 φ (T n) (evN φ T n) = ev1 ψ (T n) (evN ψ T n)
    rw [evN_f n (fun j a b => h j a (by omega))]
    unfold ev1
    rw [h n (by omega) (by omega)]
theorem chV_f {φ ψ : Int → Bool} {R : Int → Int → Int} {b : Int} : ∀ n : Nat, (∀ r i : Int, 0 ≤ r → r < n → 0 ≤ i → i < R r 0 → φ (R r (3 + i)) = ψ (R r (3 + i))) → chV φ R b n = chV ψ R b n
  | 0, _ => rfl
  | n + 1, h => by
    have e : holdsZ φ R n = holdsZ ψ R n := by
      unfold holdsZ
      rw [evN_f (φ := φ) (ψ := ψ) (T := fun i => R n (3 + i)) (R n 0).toNat (fun j a b => h n j (by omega) (by omega) a (by omega))]
    show (if holdsZ φ R n = true then chgeZ (R n 1) (R n 2) (chV φ R b n) else chV φ R b n) = (if holdsZ ψ R n = true then chgeZ (R n 1) (R n 2) (chV ψ R b n) else chV ψ R b n)
    rw [e, chV_f n (fun r i a b => h r i a (by omega))]
theorem mx_b (a b : Int) : a ≤ mx a b ∧ b ≤ mx a b ∧ (mx a b = a ∨ mx a b = b) := by
  unfold mx
  split <;> omega
theorem tl_ge (R : Int → Int → Int) (r w u a : Int) : ∀ n : Nat, a ≤ tlZ R r w u a n ∧ (∀ i : Int, 0 ≤ i → i < n → turnZ (R r (3 + i)) w u ≤ tlZ R r w u a n) ∧ (1 ≤ w → a < w → tlZ R r w u a n < w)
  | 0 => ⟨Int.le_refl a, fun i a b => absurd b (by omega), fun _ h => h⟩
  | n + 1 => by
    obtain ⟨h1, h2, h3⟩ := tl_ge R r w u a n
    have hm := mx_b (tlZ R r w u a n) (turnZ (R r (3 + (n : Int))) w u)
    have e : tlZ R r w u a (n + 1) = mx (tlZ R r w u a n) (turnZ (R r (3 + (n : Int))) w u) := rfl
    rw [e]
    refine ⟨by omega, fun i i0 i1 => ?_, fun hw ha => ?_⟩
    · by_cases hi : i = n
      · rw [hi]; exact hm.2.1
      · have := h2 i i0 (by omega); omega
    · have := h3 hw ha
      have := turn_lt (t := R r (3 + (n : Int))) (u := u) hw
      omega
theorem nl_ge (R : Int → Int → Int) (w u : Int) : ∀ n : Nat, 0 ≤ nlZ R w u n ∧ (∀ r i : Int, 0 ≤ r → r < n → 0 ≤ i → i < R r 0 → turnZ (R r (3 + i)) w u ≤ nlZ R w u n) ∧ (1 ≤ w → nlZ R w u n < w)
  | 0 => ⟨Int.le_refl 0, fun r i a b => absurd b (by omega), fun h => h⟩
  | n + 1 => by
    obtain ⟨h1, h2, h3⟩ := nl_ge R w u n
    obtain ⟨t1, t2, t3⟩ := tl_ge R n w u (nlZ R w u n) (R n 0).toNat
    have e : nlZ R w u (n + 1) = tlZ R n w u (nlZ R w u n) (R n 0).toNat := rfl
    rw [e]
    refine ⟨by omega, fun r i r0 r1 i0 i1 => ?_, fun hw => t3 hw (h3 hw)⟩
    by_cases hr : r = n
    · rw [hr] at i1 ⊢; exact t2 i i0 (by omega)
    · have := h2 r i r0 (by omega) i0 i1; omega
/-! the row with weight w -/
def XW (D : SD) (p w : Int) : Int → Int → Int := fun _ j => if j = 0 then w else sP D p j
def snW (D : SD) (z d w : Int) : Int := if (bnlZ (sC D) (sL D) z (bilZ (sF D) w d)).tdiv (sF D 7) * sF D 7 < w then mx ((bnlZ (sC D) (sL D) z (bilZ (sF D) w d)).tdiv (sF D 7) * sF D 7) (nlZ (sR D) w (sF D 7) (snR D).toNat) else nlZ (sR D) w (sF D 7) (snR D).toNat
theorem price_same {D : SD} (hD : stOK D) (hs : srtD D) {p y w : Int} (hp : 0 ≤ p ∧ p < snP D) (hc : 0 < sC D (sP D p 4)) (hy : 1 ≤ y) (hyw : y ≤ w) (hw : snW D (sP D p 4) (dimZ (sF D) (sP D) p) w < y) : prD D (XW D p y) 0 0 8 = prD D (XW D p w) 0 0 8 := by
  have hnR := hD.1.2.2.1.1
  obtain ⟨-, -, -, -, r4, -⟩ := hD.2.1.2.2 p hp.1 hp.2
  obtain ⟨-, ⟨-, -, f6, f7⟩⟩ := hD.1.1.1
  have hu : 1 ≤ sF D 7 := by omega
  obtain ⟨φ, eφ, -, -, -, -, v8, -⟩ := prD_w D hnR.2 (XW D p y) 0
  obtain ⟨ψ, eψ, -, -, -, -, u8, -⟩ := prD_w D hnR.2 (XW D p w) 0
  rw [v8, u8]
  have n1 : ∀ j, j ≠ 0 → ∀ x, XW D p x 0 j = sP D p j := fun j hj x => if_neg hj
  have n0 : ∀ x, XW D p x 0 0 = x := fun x => if_pos rfl
  have ed : ∀ x, dimZ (sF D) (XW D p x) 0 = dimZ (sF D) (sP D) p := fun x => by
    unfold dimZ
    rw [n1 1 (by decide), n1 2 (by decide), n1 3 (by decide)]
  rw [n1 4 (by decide), n1 4 (by decide), n0, n0, ed, ed]
  obtain ⟨d, ed2⟩ : ∃ d, d = dimZ (sF D) (sP D) p := ⟨_, rfl⟩
  obtain ⟨z, ez⟩ : ∃ z, z = sP D p 4 := ⟨_, rfl⟩
  rw [← ed2] at hw ed ⊢
  rw [← ez] at hw hc r4 ⊢
  obtain ⟨g1, g2, g3⟩ := nl_ge (sR D) w (sF D 7) (snR D).toNat
  have hnl : nlZ (sR D) w (sF D 7) (snR D).toNat < y := by
    unfold snW at hw
    split at hw
    · have := mx_b ((bnlZ (sC D) (sL D) z (bilZ (sF D) w d)).tdiv (sF D 7) * sF D 7) (nlZ (sR D) w (sF D 7) (snR D).toNat); omega
    · exact hw
  obtain ⟨⟨a1, a2⟩, a3⟩ := bil_cl (sF D) y d hu
  obtain ⟨⟨b1, b2⟩, b3⟩ := bil_cl (sF D) w d hu
  have cm := cl_m (u := sF D 7) hu hyw
  have cy := cl_b hu y
  have cw := cl_b hu w
  have hx1 : 1 ≤ bilZ (sF D) w d := by omega
  have hble : bilZ (sF D) y d ≤ bilZ (sF D) w d := by omega
  have hbn := bnl_lt (C := sC D) (L := sL D) (z := z) (x := bilZ (sF D) w d) (by omega) hx1
  have hbn0 : 0 ≤ bnlZ (sC D) (sL D) z (bilZ (sF D) w d) := (bnlZ_b (C := sC D) (L := sL D) (x := bilZ (sF D) w d) (hD.1.2.1.1 z r4.1 r4.2).1 (fun i a b => ((hD.1.2.1.2.2.2 z r4.1 r4.2).2 i a b).1.1) (by omega) hx1).1
  have hbase : baseZ (sC D) (sE D) (sL D) (sQ D) z (bilZ (sF D) y d) = baseZ (sC D) (sE D) (sL D) (sQ D) z (bilZ (sF D) w d) := by
    have hS := hs z r4.1 r4.2
    have t1 := Int.lt_ediv_add_one_mul_self (bnlZ (sC D) (sL D) z (bilZ (sF D) w d)) (show 0 < sF D 7 by omega)
    rw [Int.add_mul, Int.one_mul] at t1
    have t2 := Int.ediv_mul_le (bnlZ (sC D) (sL D) z (bilZ (sF D) w d)) (show sF D 7 ≠ 0 by omega)
    unfold snW at hw
    rw [fdiv_a hbn0] at hw
    by_cases hws : bnlZ (sC D) (sL D) z (bilZ (sF D) w d) / sF D 7 * sF D 7 < w
    · rw [if_pos hws] at hw
      have hm := mx_b (bnlZ (sC D) (sL D) z (bilZ (sF D) w d) / sF D 7 * sF D 7) (nlZ (sR D) w (sF D 7) (snR D).toNat)
      have hg := cl_gt (u := sF D 7) (k := bnlZ (sC D) (sL D) z (bilZ (sF D) w d) / sF D 7) (x := y) hu (by omega)
      exact base_same hS (by omega) hble (by omega)
    · have hl := cl_le (u := sF D 7) (k := bnlZ (sC D) (sL D) z (bilZ (sF D) w d) / sF D 7) (x := w) hu (by omega)
      rw [show bilZ (sF D) y d = bilZ (sF D) w d by omega]
  rw [hbase]
  refine chV_f _ (fun r i r0 r1 i0 i1 => ?_)
  have ht := g2 r i r0 r1 i0 i1
  rw [eφ, eψ]
  obtain ⟨c0, c5, c6, -, c9, c10, -⟩ := prC_v (sF D) (sC D) (sE D) (sL D) (sQ D) (XW D p y) 0
  obtain ⟨k0, k5, k6, -, k9, k10, -⟩ := prC_v (sF D) (sC D) (sE D) (sL D) (sQ D) (XW D p w) 0
  refine fact_same (d := d) (F := sF D) (u := sF D 7) rfl hu hy hyw (by omega) ?_ ?_ ?_ ?_ (fun j hj => ?_)
  · rw [c0 0 (by decide), n0]
  · rw [k0 0 (by decide), n0]
  · rw [c6, n0, ed]
  · rw [k6, n0, ed]
  · rcases hj with e | e | e | e <;> rw [e]
    · rw [c0 4 (by decide), k0 4 (by decide), n1 4 (by decide), n1 4 (by decide)]
    · rw [c5, k5, ed, ed]
    · rw [c9, k9, n1 1 (by decide), n1 2 (by decide), n1 3 (by decide), n1 1 (by decide), n1 2 (by decide), n1 3 (by decide)]
    · rw [c10, k10, n1 1 (by decide), n1 2 (by decide), n1 3 (by decide), n1 1 (by decide), n1 2 (by decide), n1 3 (by decide)]
theorem snW_lt {D : SD} {z d w : Int} (hw : 1 ≤ w) : snW D z d w < w := by
  have g := (nl_ge (sR D) w (sF D 7) (snR D).toNat).2.2 hw
  unfold snW
  split
  · have := mx_b ((bnlZ (sC D) (sL D) z (bilZ (sF D) w d)).tdiv (sF D 7) * sF D 7) (nlZ (sR D) w (sF D 7) (snR D).toNat); omega
  · exact g
/-! a search by leaps, a search by ones -/
theorem lsZ_skip {f : Int → Int} {ch : Int} : ∀ (m n : Nat) (i : Int), (∀ e, i ≤ e → e < i + m → ch ≤ f e) → lsZ f ch (n + m) i = lsZ f ch n (i + m)
  | 0, n, i, _ => by rw [show i + ((0 : Nat) : Int) = i by omega]; rfl
  | m + 1, n, i, h => by
    rw [show n + (m + 1) = (n + m) + 1 by omega]
    show (if f i < ch then i else lsZ f ch (n + m) (i + 1)) = _
    rw [if_neg (by have := h i (by omega) (by omega); omega), lsZ_skip m n (i + 1) (fun e a b => h e (by omega) (by omega)), show i + 1 + (m : Int) = i + ((m + 1 : Nat) : Int) by omega]
def leapZ (g sn : Int → Int) (ch real : Int) : Nat → Int → Int
  | 0, _ => -1000009
  | k + 1, w => if sn w < 1 then -1000009 else if g (sn w) < ch then real - sn w else leapZ g sn ch real k (sn w)
theorem leap_eq {g sn : Int → Int} {ch real : Int} (h1 : ∀ w, 1 ≤ w → sn w < w) (h2 : ∀ w y, sn w < y → 1 ≤ y → y ≤ w → g y = g w) : ∀ (k : Nat) (w : Int), w ≤ k → 1 ≤ w → ch ≤ g w → leapZ g sn ch real k w = lsZ (fun e => g (real - e)) ch (w - 1).toNat (real - w + 1)
  | 0, w, hk, hw, _ => absurd hw (by omega)
  | k + 1, w, hk, hw, hg => by
    have hs := h1 w hw
    show (if sn w < 1 then -1000009 else if g (sn w) < ch then real - sn w else leapZ g sn ch real k (sn w)) = _
    by_cases c1 : sn w < 1
    · rw [if_pos c1]
      have e := lsZ_skip (f := fun e => g (real - e)) (ch := ch) (w - 1).toNat 0 (real - w + 1) (fun e a b => by
        show ch ≤ g (real - e)
        rw [h2 w (real - e) (by omega) (by omega) (by omega)]; exact hg)
      rw [Nat.zero_add] at e
      rw [e]
      rfl
    · rw [if_neg c1]
      have e := lsZ_skip (f := fun e => g (real - e)) (ch := ch) (w - 1 - sn w).toNat (sn w - 1 + 1).toNat (real - w + 1) (fun e a b => by
        show ch ≤ g (real - e)
        rw [h2 w (real - e) (by omega) (by omega) (by omega)]; exact hg)
      rw [show (sn w - 1 + 1).toNat + (w - 1 - sn w).toNat = (w - 1).toNat by omega] at e
      rw [e, show (sn w - 1 + 1).toNat = (sn w - 1).toNat + 1 by omega, show real - w + 1 + ((w - 1 - sn w).toNat : Int) = real - sn w by omega]
      show _ = if g (real - (real - sn w)) < ch then real - sn w else lsZ (fun e => g (real - e)) ch (sn w - 1).toNat (real - sn w + 1)
      rw [show real - (real - sn w) = sn w by omega]
      by_cases c2 : g (sn w) < ch
      · rw [if_pos c2, if_pos c2]
      · rw [if_neg c2, if_neg c2]
        exact leap_eq h1 h2 k (sn w) (by omega) (by omega) (by omega)
/-! ===== a state that agrees on what is used; the past ===== -/
def agD (D D' : SD) : Prop := (∀ i, 0 ≤ i → i < 8 → sF D' i = sF D i) ∧ sG D' = sG D ∧ (∀ z, 0 ≤ z → z < 4 → sC D' z = sC D z ∧ sE D' z = sE D z ∧ ∀ i, 0 ≤ i → i < sC D z → sL D' z i = sL D z i ∧ sQ D' z i = sQ D z i) ∧ (snR D' = snR D ∧ ∀ k, 0 ≤ k → k < snR D → sR D' k = sR D k) ∧ (snP D' = snP D ∧ ∀ p, 0 ≤ p → p < snP D → sP D' p = sP D p) ∧ (snN D' = snN D ∧ ∀ n, 0 ≤ n → n < snN D → sN D' n = sN D n) ∧ (snK D' = snK D ∧ ∀ n, 0 ≤ n → n < snK D → sK D' n = sK D n)
def arI (D : SD) : Prop := (∀ a b, inI (sL D a b)) ∧ (∀ a b, inI (sQ D a b)) ∧ (∀ a b, inI (sR D a b)) ∧ (∀ a b, inI (sP D a b)) ∧ (∀ a b, inI (sN D a b)) ∧ ∀ a b, inI (sK D a b)
theorem stOK.ar {D : SD} (h : stOK D) : arI D := ⟨h.1.2.1.2.1, h.1.2.1.2.2.1, h.1.2.2.2, h.2.1.2.1, h.2.2.1.2.1, h.2.2.2.1.2.1⟩
theorem agD.rf (D : SD) : agD D D := ⟨fun _ _ _ => rfl, rfl, fun _ _ _ => ⟨rfl, rfl, fun _ _ _ => ⟨rfl, rfl⟩⟩, ⟨rfl, fun _ _ _ => rfl⟩, ⟨rfl, fun _ _ _ => rfl⟩, ⟨rfl, fun _ _ _ => rfl⟩, ⟨rfl, fun _ _ _ => rfl⟩⟩
theorem stOK_ag {D D' : SD} (h : stOK D) (ha : agD D D') (hi : arI D') : stOK D' := by
  obtain ⟨hF, hG, hB, ⟨hr, hR⟩, ⟨hp, hP⟩, ⟨hn, hN⟩, ⟨hk, hK⟩⟩ := ha
  obtain ⟨i1, i2, i3, i4, i5, i6⟩ := hi
  obtain ⟨⟨⟨f, g⟩, ⟨b1, -, -, b4⟩, ⟨u1, u2⟩, -⟩, ⟨p1, -, p3⟩, ⟨n1, -, n3⟩, ⟨k1, -, k3⟩, g3⟩ := h
  refine ⟨⟨⟨?_, ?_⟩, ⟨fun z z0 z4 => ?_, i1, i2, fun z z0 z4 => ⟨?_, fun i i0 c => ?_⟩⟩, ⟨?_, fun r r0 c => ?_⟩, i3⟩, ⟨?_, i4, fun p p0 c => ?_⟩, ⟨?_, i5, fun n n0 c => ?_⟩, ⟨?_, i6, fun n n0 c => ?_⟩, ?_⟩
  · unfold scF at f ⊢
    rw [hF 0 (by decide) (by decide), hF 1 (by decide) (by decide), hF 2 (by decide) (by decide), hF 3 (by decide) (by decide), hF 4 (by decide) (by decide), hF 5 (by decide) (by decide), hF 6 (by decide) (by decide), hF 7 (by decide) (by decide)]
    exact f
  · rw [hG]; exact g
  · rw [(hB z z0 z4).1]; exact b1 z z0 z4
  · rw [(hB z z0 z4).2.1]; exact (b4 z z0 z4).1
  · rw [(hB z z0 z4).1] at c
    rw [((hB z z0 z4).2.2 i i0 c).1, ((hB z z0 z4).2.2 i i0 c).2]
    exact (b4 z z0 z4).2 i i0 c
  · rw [hr]; exact u1
  · rw [hr] at c
    rw [hR r r0 c]
    exact u2 r r0 c
  · rw [hp]; exact p1
  · rw [hp] at c
    have q := p3 p p0 c
    unfold rowOK at q ⊢
    rw [hP p p0 c]
    exact q
  · rw [hn]; exact n1
  · rw [hn] at c
    have q := n3 n n0 c
    unfold ntOK at q ⊢
    rw [hN n n0 c, hp]
    exact q
  · rw [hk, hn]; exact k1
  · rw [hn] at c
    have q := k3 n n0 c
    unfold rowOK at q ⊢
    rw [hK n n0 (by omega)]
    exact q
  · rw [hG]; exact g3
theorem srt_ag {D D' : SD} (h : srtD D) (ha : agD D D') : srtD D' := fun z z0 z4 i j i0 ij j1 => by
  obtain ⟨e1, -, e3⟩ := ha.2.2.1 z z0 z4
  rw [e1] at j1
  rw [(e3 i i0 (by omega)).1, (e3 j (by omega) j1).1]
  exact h z z0 z4 i j i0 ij j1
theorem ar_cpy {D2 D : SD} (h2 : arI D2) (h : arI D) : arI (cpyD D2 D) := by
  obtain ⟨a1, a2, a3, a4, a5, a6⟩ := h2
  obtain ⟨b1, b2, b3, b4, b5, b6⟩ := h
  have k2 : ∀ {C2 : Int → Int} {L2 L : Int → Int → Int} {c d : Int}, (∀ a b, inI (L2 a b)) → (∀ a b, inI (L a b)) → ∀ a b, inI (cp2 C2 L2 L c d a b) := fun h1 h2 a b => by
    unfold cp2
    split
    · exact h1 a b
    · exact h2 a b
  have k3 : ∀ {n : Int} {Q P : Int → Int → Int}, (∀ a b, inI (Q a b)) → (∀ a b, inI (P a b)) → ∀ a b, inI (mrg n Q P a b) := fun h1 h2 a b => by
    unfold mrg
    split
    · exact h1 a b
    · exact h2 a b
  exact ⟨k2 a1 b1, k2 a2 b2, k3 a3 b3, k3 a4 b4, k3 a5 b5, k3 a6 b6⟩
theorem ag_cpy (D2 D : SD) : agD D2 (cpyD D2 D) := by
  have k3 : ∀ {n : Int} {Q P : Int → Int → Int} {i : Int}, i < n → mrg n Q P i = Q i := fun h => by
    funext j
    exact if_pos h
  refine ⟨fun i a b => if_pos ⟨a, b⟩, rfl, fun z z0 z4 => ⟨if_pos ⟨z0, z4⟩, if_pos ⟨z0, z4⟩, fun i i0 i1 => ⟨if_pos ⟨⟨i0, i1⟩, Or.inl ⟨z0, z4⟩⟩, if_pos ⟨⟨i0, i1⟩, Or.inl ⟨z0, z4⟩⟩⟩⟩, ⟨rfl, fun k _ b => k3 b⟩, ⟨rfl, fun k _ b => k3 b⟩, ⟨rfl, fun k _ b => k3 b⟩, ⟨rfl, fun k _ b => k3 b⟩⟩
/-! limits ascend, through the bands -/
theorem srt_eq {D D' : SD} (h : srtD D) (e : sC D' = sC D) (e2 : sL D' = sL D) : srtD D' := fun z z0 z4 i j i0 ij j1 => by
  rw [e] at j1
  rw [e2]
  exact h z z0 z4 i j i0 ij j1
theorem srt_unband {D : SD} (h : srtD D) {z i : Int} (i0 : 0 ≤ i) : srtD (wC D (updZ (sC D) z (sC D z - 1)) (bclose (sL D) z i (sC D z - 1)) (bclose (sQ D) z i (sC D z - 1))) := fun y y0 y4 a b a0 ab b1 => by
  have b1 : b < updZ (sC D) z (sC D z - 1) y := b1
  show bclose (sL D) z i (sC D z - 1) y a < bclose (sL D) z i (sC D z - 1) y b
  unfold bclose
  by_cases hy : y = z
  · subst hy
    rw [updZ_eq] at b1
    have hh := h y y0 y4
    by_cases ha : i ≤ a
    · rw [if_pos ⟨rfl, ha, by omega⟩, if_pos ⟨rfl, by omega, b1⟩]
      exact hh (a + 1) (b + 1) (by omega) (by omega) (by omega)
    · rw [if_neg (by omega)]
      by_cases hb : i ≤ b
      · rw [if_pos ⟨rfl, hb, b1⟩]
        exact hh a (b + 1) a0 (by omega) (by omega)
      · rw [if_neg (by omega)]
        exact hh a b a0 ab (by omega)
  · rw [updZ_ne _ _ hy] at b1
    rw [if_neg (fun q => hy q.1), if_neg (fun q => hy q.1)]
    exact h y y0 y4 a b a0 ab b1
theorem srt_band {D : SD} (hD : stOK D) (h : srtD D) {z l p : Int} (z0 : 0 ≤ z) (z4 : z < 4) : srtD (bandD D z l p) := by
  have hC := (hD.1.2.1.1 z z0 z4).1
  have bx := bidx_b (L := sL D) (z := z) (x := l) hC
  unfold bandD
  by_cases hc : bidx (sC D) (sL D) z l < sC D z ∧ sL D z (bidx (sC D) (sL D) z l) = l
  · rw [if_pos hc]
    refine srt_eq h rfl ?_
    show upd2 (sL D) z (bidx (sC D) (sL D) z l) l = sL D
    funext a b
    unfold upd2
    split
    · rename_i q; rw [q.1, q.2, hc.2]
    · rfl
  · rw [if_neg hc]
    obtain ⟨k, ek⟩ : ∃ k, k = bidx (sC D) (sL D) z l := ⟨_, rfl⟩
    have lo : ∀ i, 0 ≤ i → i < k → sL D z i < l := fun i i0 i1 => bidx_lt (C := sC D) i0 (by rw [← ek]; exact i1) hC
    have hi : k < sC D z → l < sL D z k := fun q => by
      have q2 := bidx_ge (C := sC D) (L := sL D) (z := z) (x := l) hC (by rw [← ek]; exact q)
      rw [← ek] at q2 hc
      have q3 : sL D z k ≠ l := fun e => hc ⟨q, e⟩
      omega
    rw [← ek] at bx ⊢
    have hz := h z z0 z4
    have hi2 : ∀ i, k ≤ i → i < sC D z → l < sL D z i := fun i a b => by
      have q := hi (by omega)
      by_cases e : i = k
      · rw [e]; exact q
      · have := hz k i (by omega) (by omega) b; omega
    intro y y0 y4 a b a0 ab b1
    have b1 : b < updZ (sC D) z (sC D z + 1) y := b1
    show upd2 (bopen (sC D z) (sL D) z (sC D z - k)) z k l y a < upd2 (bopen (sC D z) (sL D) z (sC D z - k)) z k l y b
    by_cases hy : y = z
    · subst hy
      rw [updZ_eq] at b1
      have ev : ∀ j, 0 ≤ j → j < sC D y + 1 → upd2 (bopen (sC D y) (sL D) y (sC D y - k)) y k l y j = if j = k then l else if k < j then sL D y (j - 1) else sL D y j := fun j j0 j1 => by
        by_cases e : j = k
        · rw [if_pos e, e, upd2_eq]
        · rw [if_neg e, upd2_nc _ e]
          unfold bopen
          by_cases e2 : k < j
          · rw [if_pos e2, if_pos ⟨rfl, by omega, by omega⟩]
          · rw [if_neg e2, if_neg (by omega)]
      rw [ev a a0 (by omega), ev b (by omega) b1]
      by_cases ha : a = k
      · rw [if_pos ha, if_neg (by omega), if_pos (by omega)]
        exact hi2 (b - 1) (by omega) (by omega)
      · rw [if_neg ha]
        by_cases ha2 : k < a
        · rw [if_pos ha2, if_neg (by omega), if_pos (by omega)]
          exact hz (a - 1) (b - 1) (by omega) (by omega) (by omega)
        · rw [if_neg ha2]
          have h1 := lo a a0 (by omega)
          by_cases hb : b = k
          · rw [if_pos hb]; exact h1
          · rw [if_neg hb]
            by_cases hb2 : k < b
            · rw [if_pos hb2]
              have := hi2 (b - 1) (by omega) (by omega); omega
            · rw [if_neg hb2]
              exact hz a b a0 ab (by omega)
    · rw [updZ_ne _ _ hy] at b1
      rw [upd2_nr _ hy, upd2_nr _ hy]
      unfold bopen
      rw [if_neg (fun q => hy q.1), if_neg (fun q => hy q.1)]
      exact h y y0 y4 a b a0 ab b1

/-! ===== a new desk and a new reference: the loop's invariant at the start ===== -/
def z2F : Int → Int → Int := fun _ _ => 0
def stI : Int → Int := updZ (updZ (updZ (updZ (updZ (updZ (updZ (updZ (z0F) (0) (0)) (1) (0)) (2) (10)) (3) (30000)) (4) (10)) (5) (5)) (6) (5000)) (7) (100)
def exI : Int → Int := updZ (updZ (updZ (updZ (z0F) (0) (100)) (1) (100)) (2) (100)) (3) (100)
def D0 : SD := (stI, z0F, z0F, exI, z2F, z2F, 0, z2F, 0, z2F, 0, z2F, 0, z2F)
theorem stOK_0 : stOK D0 := by
  have hF : scF stI := by unfold scF; decide
  have hG : scG z0F := by unfold scG; decide
  refine ⟨⟨⟨hF, hG⟩, ⟨fun z a b => ⟨Int.le_refl 0, by show (0 : Int) ≤ 6; decide⟩, fun _ _ => inI_0, fun _ _ => inI_0, fun z a b => ⟨?_, fun i c d => absurd d (by show ¬ i < 0; omega)⟩⟩, ⟨⟨Int.le_refl 0, by show (0 : Int) ≤ 8; decide⟩, fun r a b => absurd b (by show ¬ r < 0; omega)⟩, fun _ _ => inI_0⟩, ⟨⟨Int.le_refl 0, by show (0 : Int) ≤ 30; decide⟩, fun _ _ => inI_0, fun p a b => absurd b (by show ¬ p < 0; omega)⟩, ⟨⟨Int.le_refl 0, by show (0 : Int) ≤ 20; decide⟩, fun _ _ => inI_0, fun p a b => absurd b (by show ¬ p < 0; omega)⟩, ⟨rfl, fun _ _ => inI_0, fun p a b => absurd b (by show ¬ p < 0; omega)⟩, by show (0 : Int) ≤ 0 ∧ (0 : Int) ≤ 100000 ∧ (0 : Int) ≤ 2; decide⟩
  show 0 ≤ exI z ∧ exI z ≤ 10000
  rcases (show z = 0 ∨ z = 1 ∨ z = 2 ∨ z = 3 by omega) with e | e | e | e <;> subst e <;> decide
