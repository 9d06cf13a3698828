/-! ===== what ties the class's state D to the reference's row V: prices ===== -/
theorem bits_dec : ∀ n : Nat, n < 8 → ∀ h : Nat, h < 2 ^ n → bcN ((h + 2 ^ n : Nat) : Int) 8 0 = bcN (h : Int) 8 0 + 1 ∧ rgo ((h + 2 ^ n : Nat) : Int) 8 0 (bcN (h : Int) 8 0) = 30 + n ∧ ∀ i : Nat, i < 8 → (i : Int) < bcN (h : Int) 8 0 → rgo ((h + 2 ^ n : Nat) : Int) 8 0 i = rgo (h : Int) 8 0 i := by decide +kernel
theorem bits_s {n : Nat} {h : Int} (hn : n < 8) (h0 : 0 ≤ h) (h1 : h < ((2 ^ n : Nat) : Int)) : bcN (h + ((2 ^ n : Nat) : Int)) 8 0 = bcN h 8 0 + 1 ∧ rgo (h + ((2 ^ n : Nat) : Int)) 8 0 (bcN h 8 0) = 30 + n ∧ ∀ i, 0 ≤ i → i < bcN h 8 0 → rgo (h + ((2 ^ n : Nat) : Int)) 8 0 i = rgo h 8 0 i := by
  obtain ⟨k, rfl⟩ : ∃ k : Nat, h = (k : Int) := ⟨h.toNat, by omega⟩
  obtain ⟨a, b, c⟩ := bits_dec n hn k (by omega)
  have e : ((k : Int) + ((2 ^ n : Nat) : Int)) = ((k + 2 ^ n : Nat) : Int) := by omega
  rw [e]
  refine ⟨a, b, fun i i0 i1 => ?_⟩
  have hb := bcN_b (k : Int) 8 0
  obtain ⟨m, rfl⟩ : ∃ m : Nat, i = (m : Int) := ⟨i.toNat, by omega⟩
  exact c m (by omega) i1
/-- the rules that held, as reasons (the class's row x) and as bits (h) -/
def heldR (x : Int → Int) (h : Int) : Prop := (0 ≤ h ∧ h ≤ 255) ∧ x 11 = 2 + bcN h 8 0 ∧ ∀ i, 0 ≤ i → i < bcN h 8 0 → x (14 + i) = rgo h 8 0 i
/-- a priced row of the class (x) and of the reference (W) -/
def rowR (x W : Int → Int) : Prop := (∀ c, 0 ≤ c → c ≤ 8 → W c = x c) ∧ W 9 = x 12 ∧ W 10 = x 13 ∧ heldR x (W 11)
def hbC (φ : Int → Bool) (R : Int → Int → Int) : Nat → Int
  | 0 => 0
  | n + 1 => if holdsZ φ R n = true then hbC φ R n + ((2 ^ n : Nat) : Int) else hbC φ R n
theorem hbC_b (φ : Int → Bool) (R : Int → Int → Int) : ∀ n : Nat, 0 ≤ hbC φ R n ∧ hbC φ R n < ((2 ^ n : Nat) : Int)
  | 0 => ⟨Int.le_refl 0, by show (0 : Int) < ((1 : Nat) : Int); decide⟩
  | n + 1 => by
    have h := hbC_b φ R n
    show 0 ≤ (if holdsZ φ R n = true then hbC φ R n + ((2 ^ n : Nat) : Int) else hbC φ R n) ∧ (if holdsZ φ R n = true then hbC φ R n + ((2 ^ n : Nat) : Int) else hbC φ R n) < ((2 ^ (n + 1) : Nat) : Int)
    rw [Nat.pow_succ]
    split <;> omega
theorem upd2_nc (P : Int → Int → Int) {r c x i j : Int} (h : j ≠ c) : upd2 P r c x i j = P i j := if_neg (fun q => h q.2)
theorem upd2_nr (P : Int → Int → Int) {r c x i j : Int} (h : i ≠ r) : upd2 P r c x i j = P i j := if_neg (fun q => h q.1)
theorem chP_h (φ : Int → Bool) (R : Int → Int → Int) {P : Int → Int → Int} {row : Int} (h11 : P row 11 = 2) : ∀ n : Nat, n ≤ 8 → chP φ R P row n row 11 = 2 + bcN (hbC φ R n) 8 0 ∧ (∀ i, 0 ≤ i → i < bcN (hbC φ R n) 8 0 → chP φ R P row n row (14 + i) = rgo (hbC φ R n) 8 0 i) ∧ ∀ j, j ≠ 11 → j < 14 → chP φ R P row n row j = P row j
  | 0, _ => ⟨by rw [show chP φ R P row 0 = P from rfl, h11]; rfl, fun i a b => absurd b (by show ¬ i < 0; omega), fun _ _ _ => rfl⟩
  | n + 1, hn => by
    obtain ⟨a1, a2, a3⟩ := chP_h φ R h11 n (by omega)
    have hb := hbC_b φ R n
    have hc := bcN_b (hbC φ R n) 8 0
    by_cases hh : holdsZ φ R n = true
    · have e1 : chP φ R P row (n + 1) = rsn (chP φ R P row n) row (30 + n) := if_pos hh
      have e2 : hbC φ R (n + 1) = hbC φ R n + ((2 ^ n : Nat) : Int) := if_pos hh
      obtain ⟨b1, b2, b3⟩ := bits_s (n := n) (by omega) hb.1 hb.2
      rw [e1, e2, b1]
      unfold rsn
      refine ⟨by rw [upd2_eq, a1]; omega, fun i i0 i1 => ?_, fun j j1 j2 => ?_⟩
      · rw [upd2_nc _ (by omega), a1]
        by_cases hi : i = bcN (hbC φ R n) 8 0
        · rw [show 14 + i = 12 + (2 + bcN (hbC φ R n) 8 0) by omega, upd2_eq, hi, b2]
        · rw [upd2_nc _ (by omega), a2 i i0 (by omega), b3 i i0 (by omega)]
      · rw [upd2_nc _ j1, upd2_nc _ (by rw [a1]; omega), a3 j j1 j2]
    · have e1 : chP φ R P row (n + 1) = chP φ R P row n := if_neg hh
      have e2 : hbC φ R (n + 1) = hbC φ R n := if_neg hh
      rw [e1, e2]
      exact ⟨a1, a2, a3⟩
/-- the columns of a row ahead of its rules -/
theorem prC_v (F C E : Int → Int) (L Pr P : Int → Int → Int) (row : Int) : (∀ j, j ≤ 4 → prC F C E L Pr P row row j = P row j) ∧ prC F C E L Pr P row row 5 = dimZ F P row ∧ prC F C E L Pr P row row 6 = bilZ F (P row 0) (dimZ F P row) ∧ prC F C E L Pr P row row 7 = baseZ C E L Pr (P row 4) (bilZ F (P row 0) (dimZ F P row)) ∧ prC F C E L Pr P row row 9 = girZ (P row 1) (P row 2) (P row 3) ∧ prC F C E L Pr P row row 10 = lngZ (P row 1) (P row 2) (P row 3) ∧ prC F C E L Pr P row row 11 = 2 ∧ prC F C E L Pr P row row 12 = wrZ (P row 0) (dimZ F P row) ∧ prC F C E L Pr P row row 13 = brsZ C L (P row 4) (bilZ F (P row 0) (dimZ F P row)) := by
  have hA : ∀ j, j ≤ 4 → prA F P row row j = P row j := fun j hj => by unfold prA; rw [upd2_nc _ (by omega), upd2_nc _ (by omega)]
  have hA5 : prA F P row row 5 = dimZ F P row := by unfold prA; rw [upd2_nc _ (by decide), upd2_eq]
  have hA6 : prA F P row row 6 = bilZ F (P row 0) (dimZ F P row) := by unfold prA; rw [upd2_eq]
  have hM : ∀ j, j ≠ 9 → j ≠ 10 → msr (prA F P row) row row j = prA F P row row j := fun j h1 h2 => by unfold msr; rw [upd2_nc _ h1, upd2_nc _ h2]
  have hM9 : msr (prA F P row) row row 9 = girZ (P row 1) (P row 2) (P row 3) := by unfold msr; rw [upd2_eq, hA 1 (by decide), hA 2 (by decide), hA 3 (by decide)]
  have hM10 : msr (prA F P row) row row 10 = lngZ (P row 1) (P row 2) (P row 3) := by unfold msr; rw [upd2_nc _ (by decide), upd2_eq, hA 1 (by decide), hA 2 (by decide), hA 3 (by decide)]
  have hU : ∀ j, j ≠ 11 → upd2 (msr (prA F P row) row) row 11 0 row j = msr (prA F P row) row row j := fun j h => upd2_nc _ h
  have hU11 : upd2 (msr (prA F P row) row) row 11 0 row 11 = 0 := upd2_eq _ _ _ _
  have hB : ∀ j, j ≤ 10 → prB F P row row j = msr (prA F P row) row row j := fun j hj => by unfold prB rsn; rw [upd2_nc _ (by omega), hU11, upd2_nc _ (by omega), hU j (by omega)]
  have hB11 : prB F P row row 11 = 1 := by unfold prB rsn; rw [upd2_eq, hU11]; rfl
  have hB12 : prB F P row row 12 = wrZ (P row 0) (dimZ F P row) := by unfold prB rsn; rw [upd2_nc _ (by decide), hU11]; exact upd2_eq _ _ _ _
  have hC : ∀ j, j ≠ 7 → j ≠ 11 → j ≠ 13 → prC F C E L Pr P row row j = prB F P row row j := fun j h1 h2 h3 => by unfold prC rsn; rw [upd2_nc _ h1, upd2_nc _ h2, hB11, upd2_nc _ (by omega)]
  refine ⟨fun j hj => by rw [hC j (by omega) (by omega) (by omega), hB j (by omega), hM j (by omega) (by omega), hA j hj], ?_, ?_, ?_, ?_, ?_, ?_, ?_, ?_⟩
  · rw [hC 5 (by decide) (by decide) (by decide), hB 5 (by decide), hM 5 (by decide) (by decide), hA5]
  · rw [hC 6 (by decide) (by decide) (by decide), hB 6 (by decide), hM 6 (by decide) (by decide), hA6]
  · unfold prC; rw [upd2_eq]
  · rw [hC 9 (by decide) (by decide) (by decide), hB 9 (by decide), hM9]
  · rw [hC 10 (by decide) (by decide) (by decide), hB 10 (by decide), hM10]
  · unfold prC rsn; rw [upd2_nc _ (by decide), upd2_eq, hB11]; rfl
  · rw [hC 12 (by decide) (by decide) (by decide), hB12]
  · unfold prC rsn; rw [upd2_nc _ (by decide), upd2_nc _ (by decide), hB11]; exact upd2_eq _ _ _ _
/-- a priced row, column by column -/
theorem prD_w (D : SD) (hn : snR D ≤ 8) (P : Int → Int → Int) (row : Int) : ∃ φ : Int → Bool, φ = factZ (prC (sF D) (sC D) (sE D) (sL D) (sQ D) P row row) ∧ (∀ j, j ≤ 4 → prD D P row row j = P row j) ∧ prD D P row row 5 = dimZ (sF D) P row ∧ prD D P row row 6 = bilZ (sF D) (P row 0) (dimZ (sF D) P row) ∧ prD D P row row 7 = baseZ (sC D) (sE D) (sL D) (sQ D) (P row 4) (bilZ (sF D) (P row 0) (dimZ (sF D) P row)) ∧ prD D P row row 8 = chV φ (sR D) (baseZ (sC D) (sE D) (sL D) (sQ D) (P row 4) (bilZ (sF D) (P row 0) (dimZ (sF D) P row))) (snR D).toNat ∧ prD D P row row 9 = girZ (P row 1) (P row 2) (P row 3) ∧ prD D P row row 10 = lngZ (P row 1) (P row 2) (P row 3) ∧ prD D P row row 12 = wrZ (P row 0) (dimZ (sF D) P row) ∧ prD D P row row 13 = brsZ (sC D) (sL D) (P row 4) (bilZ (sF D) (P row 0) (dimZ (sF D) P row)) ∧ prD D P row row 11 = 2 + bcN (hbC φ (sR D) (snR D).toNat) 8 0 ∧ (∀ i, 0 ≤ i → i < bcN (hbC φ (sR D) (snR D).toNat) 8 0 → prD D P row row (14 + i) = rgo (hbC φ (sR D) (snR D).toNat) 8 0 i) := by
  refine ⟨_, rfl, ?_⟩
  obtain ⟨c0, c5, c6, c7, c9, c10, c11, c12, c13⟩ := prC_v (sF D) (sC D) (sE D) (sL D) (sQ D) P row
  obtain ⟨h1, h2, h3⟩ := chP_h (factZ (prC (sF D) (sC D) (sE D) (sL D) (sQ D) P row row)) (sR D) c11 (snR D).toNat (by omega)
  have e : ∀ j, j ≠ 8 → prD D P row row j = chP (factZ (prC (sF D) (sC D) (sE D) (sL D) (sQ D) P row row)) (sR D) (prC (sF D) (sC D) (sE D) (sL D) (sQ D) P row) row (snR D).toNat row j := fun j hj => by unfold prD prT; exact upd2_nc _ hj
  refine ⟨fun j hj => by rw [e j (by omega), h3 j (by omega) (by omega), c0 j hj], ?_, ?_, ?_, ?_, ?_, ?_, ?_, ?_, ?_, ?_⟩
  · rw [e 5 (by decide), h3 5 (by decide) (by decide), c5]
  · rw [e 6 (by decide), h3 6 (by decide) (by decide), c6]
  · rw [e 7 (by decide), h3 7 (by decide) (by decide), c7]
  · unfold prD prT; rw [upd2_eq, c7]
  · rw [e 9 (by decide), h3 9 (by decide) (by decide), c9]
  · rw [e 10 (by decide), h3 10 (by decide) (by decide), c10]
  · rw [e 12 (by decide), h3 12 (by decide) (by decide), c12]
  · rw [e 13 (by decide), h3 13 (by decide) (by decide), c13]
  · rw [e 11 (by decide), h1]
  · intro i i0 i1
    rw [e (14 + i) (by omega), h2 i i0 i1]
/-- the rules: the reference's text k and the class's tokens, by one run of the class's reader from s0 -/
def ruR (D : SD) (V : Int → Int) (k : Int) (s0 : rdS) : Prop := (s0.1 0 = 0 ∧ s0.1 4 = 0 ∧ s0.1 5 = 0) ∧ (0 ≤ V (80 + 61 * k) ∧ V (80 + 61 * k) ≤ 60) ∧ ∃ s : rdS, rdGo (txT V k) (V (80 + 61 * k)).toNat 0 s0 = (V (80 + 61 * k), s) ∧ (s.1 4 = 5 ∧ 0 < s.1 3) ∧ sR D k 0 = s.1 0 ∧ sR D k 1 = s.1 1 ∧ sR D k 2 = s.1 2 ∧ ∀ i, 0 ≤ i → i < s.1 0 → sR D k (3 + i) = s.2 i
def pcR (D : SD) (V : Int → Int) (s0 : Int → rdS) : Prop := (∀ i, 0 ≤ i → i < 8 → V i = sF D i) ∧ (∀ z, 0 ≤ z → z < 4 → V (24 + 14 * z) = sC D z ∧ V (24 + 14 * z + 1) = sE D z ∧ ∀ i, 0 ≤ i → i < sC D z → V (24 + 14 * z + 2 + 2 * i) = sL D z i ∧ V (24 + 14 * z + 2 + 2 * i + 1) = sQ D z i) ∧ V 18 = snR D ∧ ∀ k, 0 ≤ k → k < snR D → ruR D V k (s0 k)
theorem ruR_stop {D : SD} {V : Int → Int} {k n : Int} {s0 : rdS} (h : ruR D V k s0) : ¬ rStop (txT V k) s0 (V (80 + 61 * k)) n := by
  obtain ⟨-, -, s, h1, h2, -⟩ := h
  intro hq
  obtain ⟨q1, q2⟩ := hq
  rw [h1] at q1 q2
  exact q2 q1.symm h2
theorem mbx_R {D : SD} {V : Int → Int} {s0 : Int → rdS} (h : pcR D V s0) (hC : bcOK (sC D)) {z x : Int} (z0 : 0 ≤ z) (z4 : z < 4) : mbx V z x = bidx (sC D) (sL D) z x := by
  obtain ⟨hb, -, hi⟩ := h.2.1 z z0 z4
  have hc := hC z z0 z4
  unfold mbx bidx
  rw [hb]
  refine bfor_c _ _ (fun j a b => ?_)
  rw [bl_in (by omega) (by omega)]
  exact (hi j (by omega) (by omega)).1
theorem bzM_R {D : SD} {V : Int → Int} {s0 : Int → rdS} (h : pcR D V s0) (hC : bcOK (sC D)) {z x : Int} (z0 : 0 ≤ z) (z4 : z < 4) (h1 : 1 ≤ sC D z) : bzM V z x = baseZ (sC D) (sE D) (sL D) (sQ D) z x ∧ brM V z x = brsZ (sC D) (sL D) z x := by
  obtain ⟨hb, he, hi⟩ := h.2.1 z z0 z4
  have hx := bidx_b (L := sL D) (z := z) (x := x) (hC z z0 z4).1
  unfold bzM brM baseZ brsZ begZ
  rw [mbx_R h hC z0 z4, hb]
  by_cases hc : bidx (sC D) (sL D) z x < sC D z
  · simp only [if_pos hc]
    exact ⟨(hi _ hx.1 hc).2, trivial⟩
  · simp only [if_neg hc]
    rw [show bidx (sC D) (sL D) z x = sC D z by omega, (hi (sC D z - 1) (by omega) (by omega)).1, (hi (sC D z - 1) (by omega) (by omega)).2, he, Int.mul_comm]
    exact ⟨rfl, trivial⟩
/-- the marks are worth the same for two ways of facts that agree on comparisons -/
theorem evA_p {φ ψ : Int → Bool} {MK : Int → Int} {k : Int} (h : ∀ f r n, 0 ≤ f → f ≤ 5 → 0 ≤ r → r ≤ 2 → 0 ≤ n → n ≤ 99999 → φ ((f * 3 + r) * 100000 + n) = ψ ((f * 3 + r) * 100000 + n)) : ∀ n : Nat, okA MK k n → evA φ MK k n = evA ψ MK k n
  | 0, _ => rfl
  | n + 1, hok => by
    have h1 := evA_p h n (fun i hi => hok i (by omega))
    have h2 := hok n (by omega)
    show evM φ _ _ _ (evA φ MK k n) = evM ψ _ _ _ (evA ψ MK k n)
    rw [h1]
    rcases h2 with h2 | h2 | h2
    · rw [evM_not h2.1, evM_not h2.1]
    · rcases h2.1 with h3 | h3
      · rw [evM_and h3, evM_and h3]
      · rw [evM_or h3, evM_or h3]
    · unfold evM
      rw [if_neg (by omega), if_neg (by omega), if_neg (by omega), if_neg (by omega), if_neg (by omega), if_neg (by omega), h _ (relZ (MK (200 * k + 3 * n))) _ h2.2.1.1 h2.2.1.2 (by unfold relZ; repeat (first | omega | split)) (by unfold relZ; repeat (first | omega | split)) h2.2.2.1.1 h2.2.2.1.2]
theorem fac_R {x FL : Int → Int} (h0 : FL 0 = x 6) (h1 : FL 1 = x 0) (h2 : FL 2 = x 5) (h3 : FL 3 = x 9) (h4 : FL 4 = x 10) (h5 : FL 5 = x 4) {f r n : Int} (f0 : 0 ≤ f) (f5 : f ≤ 5) (r0 : 0 ≤ r) (r2 : r ≤ 2) (n0 : 0 ≤ n) (n1 : n ≤ 99999) : factZ x ((f * 3 + r) * 100000 + n) = facM FL ((f * 3 + r) * 100000 + n) := by
  rw [facM_v FL f0 ⟨r0, r2⟩ ⟨n0, n1⟩]
  unfold factZ
  have e1 : ((f * 3 + r) * 100000 + n) / 100000 / 3 = f := by omega
  have e2 : ((f * 3 + r) * 100000 + n) % 100000 = n := by omega
  have e3 : ((f * 3 + r) * 100000 + n) / 100000 % 3 = r := by omega
  rw [e2, e3]
  have ec : colZ ((f * 3 + r) * 100000 + n) = lcS f.toNat := by
    unfold colZ
    rw [if_neg (by omega), e1]
  rw [ec]
  rcases (show f = 0 ∨ f = 1 ∨ f = 2 ∨ f = 3 ∨ f = 4 ∨ f = 5 by omega) with h | h | h | h | h | h <;> subst h
  · rw [h0]; rfl
  · rw [h1]; rfl
  · rw [h2]; rfl
  · rw [h3]; rfl
  · rw [h4]; rfl
  · rw [h5]; rfl
theorem hold_R {D : SD} {V MK MM CH AM FL x : Int → Int} {k : Int} {s0 : rdS} (hu : ruR D V k s0) (hr : Read (txT V k) s0 k (V (80 + 61 * k)) MK (MM k) (CH k) (AM k)) (hf : ∀ f r n, 0 ≤ f → f ≤ 5 → 0 ≤ r → r ≤ 2 → 0 ≤ n → n ≤ 99999 → factZ x ((f * 3 + r) * 100000 + n) = facM FL ((f * 3 + r) * 100000 + n)) : hoM FL MK MM k = holdsZ (factZ x) (sR D) k ∧ CH k = sR D k 1 ∧ AM k = sR D k 2 := by
  obtain ⟨-, -, s, h1, -, t0, t1, t2, t3⟩ := hu
  obtain ⟨s', q1, -, q2, q3, q4, -, -, q5⟩ := hr
  have es : s' = s := by rw [h1] at q1; exact (Prod.mk.inj q1).2.symm
  subst es
  refine ⟨?_, by rw [t1, q2], by rw [t2, q3]⟩
  unfold hoM holdsZ
  rw [← evA_p hf (MM k).toNat q5.1, q5.2.1 (factZ x), t0, evN_c (factZ x) (T := fun i => sR D k (3 + i)) (T2 := s'.2) (s'.1 0).toNat (fun i a b => t3 i a (by omega))]
  rfl
/-- the main equality: a row priced by the class, and by the reference -/
theorem price_R {D : SD} {V MK MM CH AM : Int → Int} {s0 : Int → rdS} (h : pcR D V s0) (hOK : stOK1 D) (hrd : ∀ j, 0 ≤ j → j < V 18 → Read (txT V j) (s0 j) j (V (80 + 61 * j)) MK (MM j) (CH j) (AM j) ∧ 0 ≤ MM j ∧ MM j ≤ 60) {P : Int → Int → Int} {row : Int} (z0 : 0 ≤ P row 4) (z4 : P row 4 < 4) (hc : 1 ≤ sC D (P row 4)) :
    rowR (fun c => prD D P row row c) (wkM V MK MM CH AM (P row 0) (P row 1) (P row 2) (P row 3) (P row 4)) ∧ prD D P row row 9 = girZ (P row 1) (P row 2) (P row 3) ∧ prD D P row row 10 = lngZ (P row 1) (P row 2) (P row 3) ∧ ∀ j, j ≤ 4 → prD D P row row j = P row j := by
  have hnR := hOK.2.2.1.1
  obtain ⟨φ, eφ, v4, v5, v6, v7, v8, v9, v10, v12, v13, v11, v14⟩ := prD_w D hnR.2 P row
  have hdim : dimM V (P row 1) (P row 2) (P row 3) = dimZ (sF D) P row := by unfold dimM dimZ; rw [h.1 6 (by decide) (by decide)]
  have hbil : bilM V (P row 0) (dimZ (sF D) P row) = bilZ (sF D) (P row 0) (dimZ (sF D) P row) := by unfold bilM bilZ; rw [h.1 7 (by decide) (by decide), Int.mul_comm]
  obtain ⟨hbz, hbr⟩ := bzM_R (x := bilZ (sF D) (P row 0) (dimZ (sF D) P row)) h hOK.2.1.1 z0 z4 hc
  obtain ⟨c0, c5, c6, -, c9, c10, -⟩ := prC_v (sF D) (sC D) (sE D) (sL D) (sQ D) P row
  have hf : ∀ f r n, 0 ≤ f → f ≤ 5 → 0 ≤ r → r ≤ 2 → 0 ≤ n → n ≤ 99999 → φ ((f * 3 + r) * 100000 + n) = facM (flM V (P row 0) (P row 1) (P row 2) (P row 3) (P row 4)) ((f * 3 + r) * 100000 + n) := by
    intro f r n a1 a2 a3 a4 a5 a6
    rw [eφ]
    refine fac_R ?_ ?_ ?_ ?_ ?_ ?_ a1 a2 a3 a4 a5 a6
    · show bilM V (P row 0) (dimM V (P row 1) (P row 2) (P row 3)) = _; rw [hdim, hbil, c6]
    · show P row 0 = _; rw [c0 0 (by decide)]
    · show dimM V (P row 1) (P row 2) (P row 3) = _; rw [hdim, c5]
    · show girZ (P row 1) (P row 2) (P row 3) = _; rw [c9]
    · show lngZ (P row 1) (P row 2) (P row 3) = _; rw [c10]
    · show P row 4 = _; rw [c0 4 (by decide)]
  have hk : ∀ k : Nat, (k : Int) < snR D → hoM (flM V (P row 0) (P row 1) (P row 2) (P row 3) (P row 4)) MK MM k = holdsZ φ (sR D) k ∧ CH k = sR D k 1 ∧ AM k = sR D k 2 := by
    intro k hkn
    rw [eφ]
    rw [eφ] at hf
    exact hold_R (h.2.2.2 k (by omega) hkn) (hrd k (by omega) (by rw [h.2.2.1]; exact hkn)).1 hf
  have hcg : ∀ (b : Int) (n : Nat), (n : Int) ≤ snR D → cgM (flM V (P row 0) (P row 1) (P row 2) (P row 3) (P row 4)) MK MM CH AM b n = chV φ (sR D) b n ∧ hbM (flM V (P row 0) (P row 1) (P row 2) (P row 3) (P row 4)) MK MM n = hbC φ (sR D) n := by
    intro b n
    induction n with
    | zero => intro _; exact ⟨rfl, rfl⟩
    | succ n ih =>
      intro hn
      obtain ⟨i1, i2⟩ := ih (by omega)
      obtain ⟨k1, k2, k3⟩ := hk n (by omega)
      show (if hoM _ MK MM n = true then chgeZ (CH n) (AM n) (cgM _ MK MM CH AM b n) else cgM _ MK MM CH AM b n) = (if holdsZ φ (sR D) n = true then chgeZ (sR D n 1) (sR D n 2) (chV φ (sR D) b n) else chV φ (sR D) b n) ∧ (if hoM _ MK MM n = true then hbM _ MK MM n + ((2 ^ n : Nat) : Int) else hbM _ MK MM n) = (if holdsZ φ (sR D) n = true then hbC φ (sR D) n + ((2 ^ n : Nat) : Int) else hbC φ (sR D) n)
      rw [k1, k2, k3, i1, i2]
      exact ⟨rfl, rfl⟩
  obtain ⟨g1, g2⟩ := hcg (bzM V (P row 4) (bilM V (P row 0) (dimM V (P row 1) (P row 2) (P row 3)))) (snR D).toNat (by omega)
  have hhb := hbC_b φ (sR D) (snR D).toNat
  have h255 : hbC φ (sR D) (snR D).toNat ≤ 255 := by
    have : (2 : Nat) ^ (snR D).toNat ≤ 2 ^ 8 := Nat.pow_le_pow_right (by decide) (by omega)
    omega
  have w11 : wkM V MK MM CH AM (P row 0) (P row 1) (P row 2) (P row 3) (P row 4) 11 = hbC φ (sR D) (snR D).toNat := by
    show hbM _ MK MM (V 18).toNat = _
    rw [h.2.2.1, g2]
  refine ⟨⟨fun c a b => ?_, ?_, ?_, ?_⟩, v9, v10, v4⟩
  · rcases (show c = 0 ∨ c = 1 ∨ c = 2 ∨ c = 3 ∨ c = 4 ∨ c = 5 ∨ c = 6 ∨ c = 7 ∨ c = 8 by omega) with e | e | e | e | e | e | e | e | e <;> subst e
    · exact (v4 0 (by decide)).symm
    · exact (v4 1 (by decide)).symm
    · exact (v4 2 (by decide)).symm
    · exact (v4 3 (by decide)).symm
    · exact (v4 4 (by decide)).symm
    · show dimM V _ _ _ = prD D P row row 5; rw [hdim, v5]
    · show bilM V _ (dimM V _ _ _) = prD D P row row 6; rw [hdim, hbil, v6]
    · show bzM V _ (bilM V _ (dimM V _ _ _)) = prD D P row row 7; rw [hdim, hbil, hbz, v7]
    · show cgM _ MK MM CH AM _ (V 18).toNat = prD D P row row 8; rw [h.2.2.1, g1, hdim, hbil, hbz, v8]
  · show wrZ _ (dimM V _ _ _) = prD D P row row 12; rw [hdim, v12]
  · show brM V _ (bilM V _ (dimM V _ _ _)) = prD D P row row 13; rw [hdim, hbil, hbr, v13]
  · rw [w11]
    exact ⟨⟨hhb.1, h255⟩, v11, v14⟩
