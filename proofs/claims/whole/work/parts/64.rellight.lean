/-! ===== lighter: between two turns no price changes ===== -/
def srtD (D : SD) : Prop := ∀ z, 0 ≤ z → z < 4 → ∀ i j, 0 ≤ i → i < j → j < sC D z → sL D z i < sL D z j
theorem bidx_same {C : Int → Int} {L : Int → Int → Int} {z x y : Int} (hs : ∀ i j, 0 ≤ i → i < j → j < C z → L z i < L z j) (hC : 0 ≤ C z) (hxy : y ≤ x) (h : bidx C L z x = 0 ∨ L z (bidx C L z x - 1) < y) : bidx C L z y = bidx C L z x := by
  have bx := bidx_b (L := L) (z := z) (x := x) hC
  have bY := bidx_b (L := L) (z := z) (x := y) hC
  obtain ⟨b, eb⟩ : ∃ b, b = bidx C L z x := ⟨_, rfl⟩
  obtain ⟨c, ec⟩ : ∃ c, c = bidx C L z y := ⟨_, rfl⟩
  rw [← eb] at h bx ⊢
  rw [← ec] at bY ⊢
  rcases Int.lt_trichotomy c b with hl | hl | hl
  · have h1 := bidx_ge (C := C) (L := L) (z := z) (x := y) hC (by rw [← ec]; omega)
    rw [← ec] at h1
    rcases h with h | h
    · omega
    · by_cases e : c = b - 1
      · rw [e] at h1; omega
      · have := hs c (b - 1) (by omega) (by omega) (by omega); omega
  · exact hl
  · have h1 := bidx_lt (C := C) (L := L) (z := z) (x := y) (j := b) (by omega) (by rw [← ec]; omega) hC
    have h2 := bidx_ge (C := C) (L := L) (z := z) (x := x) hC (by rw [← eb]; omega)
    rw [← eb] at h2
    omega
theorem begZ_v (y : Int) : (begZ y - 1) * 1000 < y ∧ y ≤ begZ y * 1000 := by
  unfold begZ
  omega
theorem bnl_lt {C : Int → Int} {L : Int → Int → Int} {z x : Int} (hC : 1 ≤ C z) (hx : 1 ≤ x) : bnlZ C L z x < x := by
  have bx := bidx_b (L := L) (z := z) (x := x) (show 0 ≤ C z by omega)
  unfold bnlZ
  split
  · by_cases h0 : bidx C L z x = 0
    · rw [h0, bl_out (by omega)]; omega
    · rw [bl_in (by omega) (by omega)]
      exact bidx_lt (C := C) (L := L) (z := z) (x := x) (by omega) (by omega) (by omega)
  · have h1 := begZ_v (x - L z (C z - 1))
    omega
theorem base_same {C E : Int → Int} {L Pr : Int → Int → Int} {z x y : Int} (hs : ∀ i j, 0 ≤ i → i < j → j < C z → L z i < L z j) (hC : 1 ≤ C z) (hxy : y ≤ x) (h : bnlZ C L z x < y) : baseZ C E L Pr z y = baseZ C E L Pr z x := by
  have bx := bidx_b (L := L) (z := z) (x := x) (show 0 ≤ C z by omega)
  by_cases hb : bidx C L z x < C z
  · have e : bidx C L z y = bidx C L z x := by
      refine bidx_same hs (by omega) hxy ?_
      unfold bnlZ at h
      rw [if_pos hb] at h
      by_cases h0 : bidx C L z x = 0
      · exact Or.inl h0
      · rw [bl_in (by omega) (by omega)] at h
        exact Or.inr h
    unfold baseZ
    rw [e, if_pos hb, if_pos hb]
  · have hl : L z (C z - 1) < x := bidx_lt (C := C) (L := L) (z := z) (x := x) (by omega) (by omega) (by omega)
    unfold bnlZ at h
    rw [if_neg hb] at h
    have g1 := begZ_v (x - L z (C z - 1))
    have e : bidx C L z y = bidx C L z x := by
      refine bidx_same hs (by omega) hxy (Or.inr ?_)
      rw [show bidx C L z x - 1 = C z - 1 by omega]
      omega
    unfold baseZ
    rw [e, if_neg hb, if_neg hb]
    have e2 : begZ (y - L z (C z - 1)) = begZ (x - L z (C z - 1)) := by
      unfold begZ at g1 h ⊢
      omega
    rw [e2]
/-! up to the next step -/
def clZ (u x : Int) : Int := (x + u - 1) / u * u
theorem cl_b {u : Int} (hu : 1 ≤ u) (x : Int) : x ≤ clZ u x ∧ clZ u x < x + u := by
  have h1 := Int.ediv_mul_le (x + u - 1) (show u ≠ 0 by omega)
  have h2 := Int.lt_ediv_add_one_mul_self (x + u - 1) (show 0 < u by omega)
  rw [Int.add_mul, Int.one_mul] at h2
  unfold clZ
  omega
theorem cl_m {u x y : Int} (hu : 1 ≤ u) (h : x ≤ y) : clZ u x ≤ clZ u y := Int.mul_le_mul_of_nonneg_right (Int.ediv_le_ediv (by omega) (by omega)) (by omega)
theorem mul_st {u a b : Int} (hu : 1 ≤ u) (h : a * u < b * u) : a * u + u ≤ b * u := by
  have h1 : a < b := Int.lt_of_mul_lt_mul_right h (by omega)
  have h2 := Int.mul_le_mul_of_nonneg_right (show a + 1 ≤ b by omega) (show 0 ≤ u by omega)
  rw [Int.add_mul, Int.one_mul] at h2
  exact h2
theorem cl_gt {u k x : Int} (hu : 1 ≤ u) (h : k * u < x) : k * u + u ≤ clZ u x := mul_st hu (show k * u < (x + u - 1) / u * u from Int.lt_of_lt_of_le h (cl_b hu x).1)
theorem cl_le {u k x : Int} (hu : 1 ≤ u) (h : x ≤ k * u) : clZ u x ≤ k * u := by
  by_cases hc : clZ u x ≤ k * u
  · exact hc
  · have h1 := mul_st (a := k) (b := (x + u - 1) / u) hu (show k * u < clZ u x by omega)
    have h2 := (cl_b hu x).2
    have h3 : (x + u - 1) / u * u = clZ u x := rfl
    omega
theorem bil_cl (F : Int → Int) (w d : Int) (hu : 1 ≤ F 7) : (clZ (F 7) w ≤ bilZ F w d ∧ clZ (F 7) d ≤ bilZ F w d) ∧ (bilZ F w d = clZ (F 7) w ∨ bilZ F w d = clZ (F 7) d) := by
  have e : bilZ F w d = clZ (F 7) (mx w d) := rfl
  rw [e]
  unfold mx
  split
  · exact ⟨⟨cl_m hu (by omega), Int.le_refl _⟩, Or.inr rfl⟩
  · exact ⟨⟨Int.le_refl _, cl_m hu (by omega)⟩, Or.inl rfl⟩
/-! one comparison -/
theorem cmp_same {x y n rel : Int} (h : (n < x ∧ n < y) ∨ x = y ∨ (x < n ∧ y < n)) : cmpZ x n rel = cmpZ y n rel := by
  rcases h with h | h | h
  · unfold cmpZ
    rw [decide_eq_false (show ¬ x < n by omega), decide_eq_false (show ¬ y < n by omega), decide_eq_false (show ¬ x = n by omega), decide_eq_false (show ¬ y = n by omega), decide_eq_true h.1, decide_eq_true h.2]
  · rw [h]
  · unfold cmpZ
    rw [decide_eq_true h.1, decide_eq_true h.2, decide_eq_false (show ¬ x = n by omega), decide_eq_false (show ¬ y = n by omega), decide_eq_false (show ¬ n < x by omega), decide_eq_false (show ¬ n < y by omega)]
theorem colZ_v (t : Int) : colZ t = -1000009 ∨ colZ t = 6 ∨ colZ t = 0 ∨ colZ t = 5 ∨ colZ t = 9 ∨ colZ t = 10 ∨ colZ t = 4 := by
  unfold colZ
  by_cases h : t < 0 ∨ 6 ≤ t / 100000 / 3
  · rw [if_pos h]; exact Or.inl rfl
  · rw [if_neg h]
    have hn : (t / 100000 / 3).toNat < 6 := by omega
    obtain ⟨n, en⟩ : ∃ n, n = (t / 100000 / 3).toNat := ⟨_, rfl⟩
    rw [← en] at hn ⊢
    match n, hn with
    | 0, _ => exact Or.inr (Or.inl rfl)
    | 1, _ => exact Or.inr (Or.inr (Or.inl rfl))
    | 2, _ => exact Or.inr (Or.inr (Or.inr (Or.inl rfl)))
    | 3, _ => exact Or.inr (Or.inr (Or.inr (Or.inr (Or.inl rfl))))
    | 4, _ => exact Or.inr (Or.inr (Or.inr (Or.inr (Or.inr (Or.inl rfl)))))
    | 5, _ => exact Or.inr (Or.inr (Or.inr (Or.inr (Or.inr (Or.inr rfl)))))
theorem turn_lt {t w u : Int} (hw : 1 ≤ w) : turnZ t w u < w := by
  unfold turnZ
  split
  · omega
  · split <;> omega
/-- below a weight, down to its turn, a comparison answers the same -/
theorem fact_same {f g : Int → Int} {t w y u d : Int} {F : Int → Int} (eu : u = F 7) (hu : 1 ≤ u) (hy : 1 ≤ y) (hyw : y ≤ w) (ht : turnZ t w u < y) (f0 : f 0 = y) (g0 : g 0 = w) (f6 : f 6 = bilZ F y d) (g6 : g 6 = bilZ F w d) (hfg : ∀ j, j = 4 ∨ j = 5 ∨ j = 9 ∨ j = 10 → f j = g j) : factZ f t = factZ g t := by
  unfold factZ
  have hn : 0 ≤ t % 100000 := Int.emod_nonneg _ (by decide)
  obtain ⟨n, en⟩ : ∃ n, n = t % 100000 := ⟨_, rfl⟩
  rw [← en] at hn ⊢
  rcases colZ_v t with h | h | h | h | h | h | h <;> rw [h]
  · rw [if_neg (by decide), if_neg (by decide)]
  · rw [if_pos (by decide), if_pos (by decide), f6, g6]
    refine cmp_same ?_
    unfold turnZ at ht
    rw [if_neg (fun q => q.1 h)] at ht
    have es : stZ t u = u := if_pos h
    rw [es, ← en] at ht
    obtain ⟨⟨a1, a2⟩, a3⟩ := bil_cl F y d (by omega)
    obtain ⟨⟨b1, b2⟩, b3⟩ := bil_cl F w d (by omega)
    rw [← eu] at a1 a2 a3 b1 b2 b3
    have cm := cl_m (u := u) hu hyw
    by_cases hf : n / u * u < w
    · have e1 : tu1 n u w = n / u * u := if_pos hf
      rw [e1, if_pos hf] at ht
      have c1 := cl_gt hu ht
      have c2 := Int.lt_ediv_add_one_mul_self n (show 0 < u by omega)
      rw [Int.add_mul, Int.one_mul] at c2
      exact Or.inl ⟨by omega, by omega⟩
    · have e1 : tu1 n u w = (n - 1).tdiv u * u := if_neg hf
      have c0 := Int.ediv_mul_le n (show u ≠ 0 by omega)
      rw [fdiv_a (show 0 ≤ n - 1 by omega)] at e1
      have c2 := Int.lt_ediv_add_one_mul_self (n - 1) (show 0 < u by omega)
      rw [Int.add_mul, Int.one_mul] at c2
      have c3 := Int.ediv_mul_le (n - 1) (show u ≠ 0 by omega)
      rw [e1] at ht
      by_cases h2 : (n - 1) / u * u < w
      · rw [if_pos h2] at ht
        have d1 := cl_gt hu ht
        have d3 := cl_le (u := u) (k := n / u) (x := w) hu (by omega)
        have d4 := mul_st (a := (n - 1) / u) (b := n / u) hu (by omega)
        exact Or.inr (Or.inl (by omega))
      · have d1 := cl_le (u := u) (k := (n - 1) / u) (x := w) hu (by omega)
        by_cases hd : n ≤ clZ u d
        · exact Or.inr (Or.inl (by omega))
        · exact Or.inr (Or.inr ⟨by omega, by omega⟩)
  · rw [if_pos (by decide), if_pos (by decide), f0, g0]
    refine cmp_same ?_
    unfold turnZ at ht
    rw [if_neg (fun q => q.2 h)] at ht
    have es : stZ t u = 1 := if_neg (by omega)
    rw [es, ← en] at ht
    unfold tu1 at ht
    rw [Int.ediv_one, Int.mul_one, Int.tdiv_one, Int.mul_one] at ht
    by_cases hf : n < w
    · rw [if_pos hf, if_pos hf] at ht
      exact Or.inl ⟨by omega, by omega⟩
    · rw [if_neg hf] at ht
      by_cases h2 : n - 1 < w
      · rw [if_pos h2] at ht
        exact Or.inr (Or.inl (by omega))
      · exact Or.inr (Or.inr ⟨by omega, by omega⟩)
  · rw [if_pos (by decide), if_pos (by decide), hfg 5 (by omega)]
  · rw [if_pos (by decide), if_pos (by decide), hfg 9 (by omega)]
  · rw [if_pos (by decide), if_pos (by decide), hfg 10 (by omega)]
  · rw [if_pos (by decide), if_pos (by decide), hfg 4 (by omega)]
/-! all rules -/
theorem evN_f {φ ψ : Int → Bool} {T : Int → Int} : ∀ n : Nat, (∀ j : Int, 0 ≤ j → j < n → φ (T j) = ψ (T j)) → evN φ T n = evN ψ T n
  | 0, _ => rfl
  | n + 1, h => by
    show ev1 φ (T n) (evN φ T n) = ev1 ψ (T n) (evN ψ T n)
    rw [evN_f n (fun j a b => h j a (by omega))]
    unfold ev1
    rw [h n (by omega) (by omega)]
theorem chV_f {φ ψ : Int → Bool} {R : Int → Int → Int} {b : Int} : ∀ n : Nat, (∀ r i : Int, 0 ≤ r → r < n → 0 ≤ i → i < R r 0 → φ (R r (3 + i)) = ψ (R r (3 + i))) → chV φ R b n = chV ψ R b n
  | 0, _ => rfl
  | n + 1, h => by
    have e : holdsZ φ R n = holdsZ ψ R n := by
      unfold holdsZ
      rw [evN_f (φ := φ) (ψ := ψ) (T := fun i => R n (3 + i)) (R n 0).toNat (fun j a b => h n j (by omega) (by omega) a (by omega))]
    show (if holdsZ φ R n = true then chgeZ (R n 1) (R n 2) (chV φ R b n) else chV φ R b n) = (if holdsZ ψ R n = true then chgeZ (R n 1) (R n 2) (chV ψ R b n) else chV ψ R b n)
    rw [e, chV_f n (fun r i a b => h r i a (by omega))]
theorem mx_b (a b : Int) : a ≤ mx a b ∧ b ≤ mx a b ∧ (mx a b = a ∨ mx a b = b) := by
  unfold mx
  split <;> omega
theorem tl_ge (R : Int → Int → Int) (r w u a : Int) : ∀ n : Nat, a ≤ tlZ R r w u a n ∧ (∀ i : Int, 0 ≤ i → i < n → turnZ (R r (3 + i)) w u ≤ tlZ R r w u a n) ∧ (1 ≤ w → a < w → tlZ R r w u a n < w)
  | 0 => ⟨Int.le_refl a, fun i a b => absurd b (by omega), fun _ h => h⟩
  | n + 1 => by
    obtain ⟨h1, h2, h3⟩ := tl_ge R r w u a n
    have hm := mx_b (tlZ R r w u a n) (turnZ (R r (3 + (n : Int))) w u)
    have e : tlZ R r w u a (n + 1) = mx (tlZ R r w u a n) (turnZ (R r (3 + (n : Int))) w u) := rfl
    rw [e]
    refine ⟨by omega, fun i i0 i1 => ?_, fun hw ha => ?_⟩
    · by_cases hi : i = n
      · rw [hi]; exact hm.2.1
      · have := h2 i i0 (by omega); omega
    · have := h3 hw ha
      have := turn_lt (t := R r (3 + (n : Int))) (u := u) hw
      omega
theorem nl_ge (R : Int → Int → Int) (w u : Int) : ∀ n : Nat, 0 ≤ nlZ R w u n ∧ (∀ r i : Int, 0 ≤ r → r < n → 0 ≤ i → i < R r 0 → turnZ (R r (3 + i)) w u ≤ nlZ R w u n) ∧ (1 ≤ w → nlZ R w u n < w)
  | 0 => ⟨Int.le_refl 0, fun r i a b => absurd b (by omega), fun h => h⟩
  | n + 1 => by
    obtain ⟨h1, h2, h3⟩ := nl_ge R w u n
    obtain ⟨t1, t2, t3⟩ := tl_ge R n w u (nlZ R w u n) (R n 0).toNat
    have e : nlZ R w u (n + 1) = tlZ R n w u (nlZ R w u n) (R n 0).toNat := rfl
    rw [e]
    refine ⟨by omega, fun r i r0 r1 i0 i1 => ?_, fun hw => t3 hw (h3 hw)⟩
    by_cases hr : r = n
    · rw [hr] at i1 ⊢; exact t2 i i0 (by omega)
    · have := h2 r i r0 (by omega) i0 i1; omega
/-! the row with weight w -/
def XW (D : SD) (p w : Int) : Int → Int → Int := fun _ j => if j = 0 then w else sP D p j
def snW (D : SD) (z d w : Int) : Int := if (bnlZ (sC D) (sL D) z (bilZ (sF D) w d)).tdiv (sF D 7) * sF D 7 < w then mx ((bnlZ (sC D) (sL D) z (bilZ (sF D) w d)).tdiv (sF D 7) * sF D 7) (nlZ (sR D) w (sF D 7) (snR D).toNat) else nlZ (sR D) w (sF D 7) (snR D).toNat
theorem price_same {D : SD} (hD : stOK D) (hs : srtD D) {p y w : Int} (hp : 0 ≤ p ∧ p < snP D) (hc : 0 < sC D (sP D p 4)) (hy : 1 ≤ y) (hyw : y ≤ w) (hw : snW D (sP D p 4) (dimZ (sF D) (sP D) p) w < y) : prD D (XW D p y) 0 0 8 = prD D (XW D p w) 0 0 8 := by
  have hnR := hD.1.2.2.1.1
  obtain ⟨-, -, -, -, r4, -⟩ := hD.2.1.2.2 p hp.1 hp.2
  obtain ⟨-, ⟨-, -, f6, f7⟩⟩ := hD.1.1.1
  have hu : 1 ≤ sF D 7 := by omega
  obtain ⟨φ, eφ, -, -, -, -, v8, -⟩ := prD_w D hnR.2 (XW D p y) 0
  obtain ⟨ψ, eψ, -, -, -, -, u8, -⟩ := prD_w D hnR.2 (XW D p w) 0
  rw [v8, u8]
  have n1 : ∀ j, j ≠ 0 → ∀ x, XW D p x 0 j = sP D p j := fun j hj x => if_neg hj
  have n0 : ∀ x, XW D p x 0 0 = x := fun x => if_pos rfl
  have ed : ∀ x, dimZ (sF D) (XW D p x) 0 = dimZ (sF D) (sP D) p := fun x => by
    unfold dimZ
    rw [n1 1 (by decide), n1 2 (by decide), n1 3 (by decide)]
  rw [n1 4 (by decide), n1 4 (by decide), n0, n0, ed, ed]
  obtain ⟨d, ed2⟩ : ∃ d, d = dimZ (sF D) (sP D) p := ⟨_, rfl⟩
  obtain ⟨z, ez⟩ : ∃ z, z = sP D p 4 := ⟨_, rfl⟩
  rw [← ed2] at hw ed ⊢
  rw [← ez] at hw hc r4 ⊢
  obtain ⟨g1, g2, g3⟩ := nl_ge (sR D) w (sF D 7) (snR D).toNat
  have hnl : nlZ (sR D) w (sF D 7) (snR D).toNat < y := by
    unfold snW at hw
    split at hw
    · have := mx_b ((bnlZ (sC D) (sL D) z (bilZ (sF D) w d)).tdiv (sF D 7) * sF D 7) (nlZ (sR D) w (sF D 7) (snR D).toNat); omega
    · exact hw
  obtain ⟨⟨a1, a2⟩, a3⟩ := bil_cl (sF D) y d hu
  obtain ⟨⟨b1, b2⟩, b3⟩ := bil_cl (sF D) w d hu
  have cm := cl_m (u := sF D 7) hu hyw
  have cy := cl_b hu y
  have cw := cl_b hu w
  have hx1 : 1 ≤ bilZ (sF D) w d := by omega
  have hble : bilZ (sF D) y d ≤ bilZ (sF D) w d := by omega
  have hbn := bnl_lt (C := sC D) (L := sL D) (z := z) (x := bilZ (sF D) w d) (by omega) hx1
  have hbn0 : 0 ≤ bnlZ (sC D) (sL D) z (bilZ (sF D) w d) := (bnlZ_b (C := sC D) (L := sL D) (x := bilZ (sF D) w d) (hD.1.2.1.1 z r4.1 r4.2).1 (fun i a b => ((hD.1.2.1.2.2.2 z r4.1 r4.2).2 i a b).1.1) (by omega) hx1).1
  have hbase : baseZ (sC D) (sE D) (sL D) (sQ D) z (bilZ (sF D) y d) = baseZ (sC D) (sE D) (sL D) (sQ D) z (bilZ (sF D) w d) := by
    have hS := hs z r4.1 r4.2
    have t1 := Int.lt_ediv_add_one_mul_self (bnlZ (sC D) (sL D) z (bilZ (sF D) w d)) (show 0 < sF D 7 by omega)
    rw [Int.add_mul, Int.one_mul] at t1
    have t2 := Int.ediv_mul_le (bnlZ (sC D) (sL D) z (bilZ (sF D) w d)) (show sF D 7 ≠ 0 by omega)
    unfold snW at hw
    rw [fdiv_a hbn0] at hw
    by_cases hws : bnlZ (sC D) (sL D) z (bilZ (sF D) w d) / sF D 7 * sF D 7 < w
    · rw [if_pos hws] at hw
      have hm := mx_b (bnlZ (sC D) (sL D) z (bilZ (sF D) w d) / sF D 7 * sF D 7) (nlZ (sR D) w (sF D 7) (snR D).toNat)
      have hg := cl_gt (u := sF D 7) (k := bnlZ (sC D) (sL D) z (bilZ (sF D) w d) / sF D 7) (x := y) hu (by omega)
      exact base_same hS (by omega) hble (by omega)
    · have hl := cl_le (u := sF D 7) (k := bnlZ (sC D) (sL D) z (bilZ (sF D) w d) / sF D 7) (x := w) hu (by omega)
      rw [show bilZ (sF D) y d = bilZ (sF D) w d by omega]
  rw [hbase]
  refine chV_f _ (fun r i r0 r1 i0 i1 => ?_)
  have ht := g2 r i r0 r1 i0 i1
  rw [eφ, eψ]
  obtain ⟨c0, c5, c6, -, c9, c10, -⟩ := prC_v (sF D) (sC D) (sE D) (sL D) (sQ D) (XW D p y) 0
  obtain ⟨k0, k5, k6, -, k9, k10, -⟩ := prC_v (sF D) (sC D) (sE D) (sL D) (sQ D) (XW D p w) 0
  refine fact_same (d := d) (F := sF D) (u := sF D 7) rfl hu hy hyw (by omega) ?_ ?_ ?_ ?_ (fun j hj => ?_)
  · rw [c0 0 (by decide), n0]
  · rw [k0 0 (by decide), n0]
  · rw [c6, n0, ed]
  · rw [k6, n0, ed]
  · rcases hj with e | e | e | e <;> rw [e]
    · rw [c0 4 (by decide), k0 4 (by decide), n1 4 (by decide), n1 4 (by decide)]
    · rw [c5, k5, ed, ed]
    · rw [c9, k9, n1 1 (by decide), n1 2 (by decide), n1 3 (by decide), n1 1 (by decide), n1 2 (by decide), n1 3 (by decide)]
    · rw [c10, k10, n1 1 (by decide), n1 2 (by decide), n1 3 (by decide), n1 1 (by decide), n1 2 (by decide), n1 3 (by decide)]
theorem snW_lt {D : SD} {z d w : Int} (hw : 1 ≤ w) : snW D z d w < w := by
  have g := (nl_ge (sR D) w (sF D 7) (snR D).toNat).2.2 hw
  unfold snW
  split
  · have := mx_b ((bnlZ (sC D) (sL D) z (bilZ (sF D) w d)).tdiv (sF D 7) * sF D 7) (nlZ (sR D) w (sF D 7) (snR D).toNat); omega
  · exact g
/-! a search by leaps, a search by ones -/
theorem lsZ_skip {f : Int → Int} {ch : Int} : ∀ (m n : Nat) (i : Int), (∀ e, i ≤ e → e < i + m → ch ≤ f e) → lsZ f ch (n + m) i = lsZ f ch n (i + m)
  | 0, n, i, _ => by rw [show i + ((0 : Nat) : Int) = i by omega]; rfl
  | m + 1, n, i, h => by
    rw [show n + (m + 1) = (n + m) + 1 by omega]
    show (if f i < ch then i else lsZ f ch (n + m) (i + 1)) = _
    rw [if_neg (by have := h i (by omega) (by omega); omega), lsZ_skip m n (i + 1) (fun e a b => h e (by omega) (by omega)), show i + 1 + (m : Int) = i + ((m + 1 : Nat) : Int) by omega]
def leapZ (g sn : Int → Int) (ch real : Int) : Nat → Int → Int
  | 0, _ => -1000009
  | k + 1, w => if sn w < 1 then -1000009 else if g (sn w) < ch then real - sn w else leapZ g sn ch real k (sn w)
theorem leap_eq {g sn : Int → Int} {ch real : Int} (h1 : ∀ w, 1 ≤ w → sn w < w) (h2 : ∀ w y, sn w < y → 1 ≤ y → y ≤ w → g y = g w) : ∀ (k : Nat) (w : Int), w ≤ k → 1 ≤ w → ch ≤ g w → leapZ g sn ch real k w = lsZ (fun e => g (real - e)) ch (w - 1).toNat (real - w + 1)
  | 0, w, hk, hw, _ => absurd hw (by omega)
  | k + 1, w, hk, hw, hg => by
    have hs := h1 w hw
    show (if sn w < 1 then -1000009 else if g (sn w) < ch then real - sn w else leapZ g sn ch real k (sn w)) = _
    by_cases c1 : sn w < 1
    · rw [if_pos c1]
      have e := lsZ_skip (f := fun e => g (real - e)) (ch := ch) (w - 1).toNat 0 (real - w + 1) (fun e a b => by
        show ch ≤ g (real - e)
        rw [h2 w (real - e) (by omega) (by omega) (by omega)]; exact hg)
      rw [Nat.zero_add] at e
      rw [e]
      rfl
    · rw [if_neg c1]
      have e := lsZ_skip (f := fun e => g (real - e)) (ch := ch) (w - 1 - sn w).toNat (sn w - 1 + 1).toNat (real - w + 1) (fun e a b => by
        show ch ≤ g (real - e)
        rw [h2 w (real - e) (by omega) (by omega) (by omega)]; exact hg)
      rw [show (sn w - 1 + 1).toNat + (w - 1 - sn w).toNat = (w - 1).toNat by omega] at e
      rw [e, show (sn w - 1 + 1).toNat = (sn w - 1).toNat + 1 by omega, show real - w + 1 + ((w - 1 - sn w).toNat : Int) = real - sn w by omega]
      show _ = if g (real - (real - sn w)) < ch then real - sn w else lsZ (fun e => g (real - e)) ch (sn w - 1).toNat (real - sn w + 1)
      rw [show real - (real - sn w) = sn w by omega]
      by_cases c2 : g (sn w) < ch
      · rw [if_pos c2, if_pos c2]
      · rw [if_neg c2, if_neg c2]
        exact leap_eq h1 h2 k (sn w) (by omega) (by omega) (by omega)
theorem ltgo_R {D : SD} {V MK MM CH AM : Int → Int} {s0 : Int → rdS} (hD : stOK D) (h : mV D V s0) (hrd : ∀ j, 0 ≤ j → j < V 18 → Read (txT V j) (s0 j) j (V (80 + 61 * j)) MK (MM j) (CH j) (AM j) ∧ 0 ≤ MM j ∧ MM j ≤ 60) {p : Int} (hp : 0 ≤ p ∧ p < snP D) (hc : 0 < sC D (sP D p 4)) (ch real : Int) : ∀ (k : Nat) (w : Int) (X : Int → Int → Int), rwX D X p 0 → X 0 0 = w → X 0 6 = bilZ (sF D) w (dimZ (sF D) (sP D) p) → ltgo D ch real k X = leapZ (fun w => wiW V MK MM CH AM p 0 w 8) (snW D (sP D p 4) (dimZ (sF D) (sP D) p)) ch real k w
  | 0, _, _, _, _, _ => rfl
  | k + 1, w, X, hX, h0, h6 => by
    have e : snlZ D X 0 = snW D (sP D p 4) (dimZ (sF D) (sP D) p) w := by
      unfold snlZ snW
      rw [hX 4 (by decide) (by decide) (by decide), h0, h6]
    obtain ⟨a, b⟩ := rwX_put (y := snW D (sP D p 4) (dimZ (sF D) (sP D) p) w) hX
    obtain ⟨q1, q2, q3⟩ := wi_R hD h hrd hp (x := 0) ⟨by decide, by decide⟩ hc a b
    obtain ⟨-, -, -, -, v6, -⟩ := prD_w D hD.1.2.2.1.1.2 (upd2 X 0 0 (snW D (sP D p 4) (dimZ (sF D) (sP D) p) w)) 0
    have ed : dimZ (sF D) (upd2 X 0 0 (snW D (sP D p 4) (dimZ (sF D) (sP D) p) w)) 0 = dimZ (sF D) (sP D) p := by
      generalize snW D (sP D p 4) (dimZ (sF D) (sP D) p) w = y at a ⊢
      unfold dimZ
      rw [a 1 (by decide) (by decide) (by decide), a 2 (by decide) (by decide) (by decide), a 3 (by decide) (by decide) (by decide)]
    rw [ed, b] at v6
    show (if snlZ D X 0 < 1 then -1000009 else if prD D (upd2 X 0 0 (snlZ D X 0)) 0 0 8 < ch then real - snlZ D X 0 else ltgo D ch real k (prD D (upd2 X 0 0 (snlZ D X 0)) 0)) = (if snW D (sP D p 4) (dimZ (sF D) (sP D) p) w < 1 then -1000009 else if wiW V MK MM CH AM p 0 (snW D (sP D p 4) (dimZ (sF D) (sP D) p) w) 8 < ch then real - snW D (sP D p 4) (dimZ (sF D) (sP D) p) w else leapZ (fun w => wiW V MK MM CH AM p 0 w 8) (snW D (sP D p 4) (dimZ (sF D) (sP D) p)) ch real k (snW D (sP D p 4) (dimZ (sF D) (sP D) p) w))
    rw [e, q1, ltgo_R hD h hrd hp hc ch real k _ _ q2 q3 v6]
theorem light_R {D : SD} {V MK MM CH AM : Int → Int} {s0 : Int → rdS} (hD : stOK D) (hs : srtD D) (h : mV D V s0) (hrd : ∀ j, 0 ≤ j → j < V 18 → Read (txT V j) (s0 j) j (V (80 + 61 * j)) MK (MM j) (CH j) (AM j) ∧ 0 ≤ MM j ∧ MM j ≤ 60) (Tr : Int → Int → Int) {p : Int} (hp : 0 ≤ p ∧ p < snP D) (hc : 0 < sC D (sP D p 4)) : ltZ D Tr p = lsW V MK MM CH AM p 0 := by
  have hnP := hD.2.1.1
  have r0 := (hD.2.1.2.2 p hp.1 hp.2).1
  have hcr : ∀ j, 0 ≤ j → j < 22 → crZ D Tr p 0 j = sP D p j := fun j a b => crZ_r D Tr ⟨hp.1, by omega⟩ ⟨a, b⟩
  have c0 := h.col hp.1 hp.2 (c := 0) (by decide) (by decide)
  obtain ⟨q1, q2, q3⟩ := wi_R hD h hrd (X := crZ D Tr p) (x := 0) (y := sP D p 0) hp ⟨by decide, by decide⟩ hc (fun j j0 j4 _ => hcr j j0 (by omega)) (hcr 0 (by decide) (by decide))
  obtain ⟨-, -, -, -, v6, -⟩ := prD_w D hD.1.2.2.1.1.2 (crZ D Tr p) 0
  have ed : dimZ (sF D) (crZ D Tr p) 0 = dimZ (sF D) (sP D) p := by
    unfold dimZ
    rw [hcr 1 (by decide) (by decide), hcr 2 (by decide) (by decide), hcr 3 (by decide) (by decide)]
  rw [ed, hcr 0 (by decide) (by decide)] at v6
  unfold ltZ lsW
  rw [q1, q3, c0, ltgo_R hD h hrd hp hc _ _ 100000 _ _ q2 q3 v6]
  have hg : ∀ w, prD D (XW D p w) 0 0 8 = wiW V MK MM CH AM p 0 w 8 := fun w => (wi_R hD h hrd (X := XW D p w) (x := 0) (y := w) hp ⟨by decide, by decide⟩ hc (fun j j0 j4 jn => if_neg jn) (if_pos rfl)).1
  have e := leap_eq (g := fun w => wiW V MK MM CH AM p 0 w 8) (sn := snW D (sP D p 4) (dimZ (sF D) (sP D) p)) (ch := wiW V MK MM CH AM p 0 (sP D p 0) 8) (real := sP D p 0) (fun w hw => snW_lt hw) (fun w y a b c => by
    show wiW V MK MM CH AM p 0 y 8 = wiW V MK MM CH AM p 0 w 8
    rw [← hg, ← hg]
    exact price_same hD hs hp hc b c a) 100000 (sP D p 0) (by omega) r0.1 (Int.le_refl _)
  rw [e, show sP D p 0 - sP D p 0 + 1 = 1 by omega]
