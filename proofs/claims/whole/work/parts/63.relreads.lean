/-! ===== reads under the relation: fingerprint, quote, shorter, cheapest ===== -/
theorem hsN_c {f g : Int → Int} {h h' : Int} (hh : h = h') : ∀ n : Nat, (∀ i : Int, 0 ≤ i → i < n → f i = g i) → hsN f h n = hsN g h' n
  | 0, _ => hh
  | n + 1, hf => by
    show 31 * hsN f h n + f n = 31 * hsN g h' n + g n
    rw [hsN_c hh n (fun i a b => hf i a (by omega)), hf n (by omega) (by omega)]
theorem hsN_2 {D : SD} {f : Int → Int} {z h h' : Int} (hh : h = h') : ∀ n : Nat, (∀ i : Int, 0 ≤ i → i < n → f (2 * i) = sL D z i ∧ f (2 * i + 1) = sQ D z i) → hsN f h (2 * n) = fbI D z h' n
  | 0, _ => hh
  | n + 1, hf => by
    have e : 2 * (n + 1) = 2 * n + 1 + 1 := by omega
    rw [e]
    show 31 * (31 * hsN f h (2 * n) + f ((2 * n : Nat) : Int)) + f ((2 * n + 1 : Nat) : Int) = 31 * (31 * (fbI D z h' n) + sL D z n) + sQ D z n
    obtain ⟨a, b⟩ := hf n (by omega) (by omega)
    rw [hsN_2 hh n (fun i a b => hf i a (by omega)), show ((2 * n : Nat) : Int) = 2 * (n : Int) by omega, show ((2 * n + 1 : Nat) : Int) = 2 * (n : Int) + 1 by omega, a, b]
theorem fb_R {D : SD} {V : Int → Int} (hC : ∀ z, 0 ≤ z → z < 4 → 0 ≤ sC D z) (h : bnR D V) {h0 h1 : Int} (hh : h0 = h1) : ∀ n : Nat, n ≤ 4 → fbM V h0 n = fbO D h1 n
  | 0, _ => hh
  | n + 1, hn => by
    obtain ⟨a, b, c⟩ := h n (by omega) (by omega)
    have hc := hC n (by omega) (by omega)
    have ih := fb_R hC h hh n (by omega)
    show 31 * (hsN (fun k => V (24 + 14 * (n : Int) + 2 + 2 * 0 + k)) (31 * fbM V h0 n + V (24 + 14 * (n : Int))) (2 * V (24 + 14 * (n : Int))).toNat) + V (24 + 14 * (n : Int) + 1) = 31 * (fbI D n (31 * (fbO D h1 n) + sC D n) (sC D n).toNat) + sE D n
    rw [a, b, ih, show (2 * sC D (n : Int)).toNat = 2 * (sC D (n : Int)).toNat by omega]
    rw [hsN_2 (D := D) (z := n) (f := fun k => V (24 + 14 * (n : Int) + 2 + 2 * 0 + k)) rfl (sC D n).toNat (fun i i0 i1 => by
      obtain ⟨p, q⟩ := c i i0 (by omega)
      exact ⟨by rw [← p]; exact congrArg V (by omega), by rw [← q]; exact congrArg V (by omega)⟩)]
theorem fp_R {D : SD} {V : Int → Int} {s0 : Int → rdS} (hD : stOK D) (h : mV D V s0) {h0 h1 : Int} (hh : h0 = h1) : ∀ n : Nat, n ≤ snP D → fpM V h0 n = fpO D h1 n
  | 0, _ => hh
  | n + 1, hn => by
    obtain ⟨r, r9⟩ := h.ls.2.1 n (by omega) (by omega)
    have ih := fp_R hD h hh n (by omega)
    have e11 : rcV V n = sP D n 11 := r.2.2.2.2.1.symm
    show hsN (rsV V n) (hsN (toldV V n) (fpM V h0 n) (11 : Int).toNat) (rcV V n).toNat = hsN (fun i => sP D n (12 + i)) (hsN (fpT D n) (fpO D h1 n) 11) (sP D n 11).toNat
    rw [e11]
    refine hsN_c (hsN_c ih 11 (fun i a b => ?_)) _ (fun i a b => ?_)
    · exact told_R hD h (by omega) (by omega) a (by omega)
    · rw [why_R r a, if_pos (by omega)]
theorem fn_R {D : SD} {V : Int → Int} {s0 : Int → rdS} (h : mV D V s0) {h0 h1 : Int} (hh : h0 = h1) : ∀ n : Nat, n ≤ snN D → fnM V h0 n = fnO D h1 n
  | 0, _ => hh
  | n + 1, hn => by
    have ih := fn_R h hh n (by omega)
    show hsN (fun x => V (940 + 12 * (n : Int) + x)) (fnM V h0 n) (6 : Int).toNat = hsN (fun x => sN D n x) (fnO D h1 n) 6
    exact hsN_c ih 6 (fun i a b => (h.ls.2.2.1 n (by omega) (by omega)).1 i a (by omega))
theorem print_R {D : SD} {V : Int → Int} {s0 : Int → rdS} (hD : stOK D) (h : mV D V s0) : mfpZ V = fpZ D := by
  have hnP := hD.2.1.1
  have hnN := hD.2.2.1.1
  obtain ⟨⟨h19, h20, -⟩, -⟩ := h.ls
  have h18 := h.rl.1
  unfold mfpZ fpZ
  rw [h18, h19, h20]
  refine hsN_c (fn_R h ?_ _ (by omega)) 5 (fun i a b => sum_R hD h a (by omega))
  rw [fp_R hD h (h1 := 31 * (31 * (fbO D (hsN (scNum (sF D) (sG D)) (hsN (sF D) 191 8) 11) 4) + snR D) + snP D) ?_ _ (by omega)]
  have e1 : hsN V 191 (8 : Int).toNat = hsN (sF D) 191 8 := hsN_c rfl 8 (fun i a b => h.se i a (by omega))
  have e2 : hsN (scnV V) (hsN V 191 (8 : Int).toNat) (11 : Int).toNat = hsN (scNum (sF D) (sG D)) (hsN (sF D) 191 8) 11 := hsN_c e1 11 (fun i a b => scn_R h i)
  rw [fb_R (fun z a b => (hD.1.2.1.1 z a b).1) h.bn e2 (4 : Int).toNat (by decide)]
  rfl
/-! one price -/
theorem pr8_R {D : SD} {V MK MM CH AM : Int → Int} {s0 : Int → rdS} (hD : stOK D) (h : mV D V s0) (hrd : ∀ j, 0 ≤ j → j < V 18 → Read (txT V j) (s0 j) j (V (80 + 61 * j)) MK (MM j) (CH j) (AM j) ∧ 0 ≤ MM j ∧ MM j ≤ 60) {X : Int → Int → Int} {x0 x1 x2 x3 x4 : Int} (e0 : X 0 0 = x0) (e1 : X 0 1 = x1) (e2 : X 0 2 = x2) (e3 : X 0 3 = x3) (e4 : X 0 4 = x4) (z0 : 0 ≤ x4) (z4 : x4 < 4) (hc : 1 ≤ sC D x4) :
    prD D X 0 0 8 = wkM V MK MM CH AM x0 x1 x2 x3 x4 8 ∧ ∀ j, j ≤ 4 → prD D X 0 0 j = X 0 j := by
  obtain ⟨q1, -, -, q4⟩ := price_R h.1 hD.1 hrd (P := X) (row := 0) (by rw [e4]; exact z0) (by rw [e4]; exact z4) (by rw [e4]; exact hc)
  rw [e0, e1, e2, e3, e4] at q1
  exact ⟨(q1.1 8 (by decide) (by decide)).symm, q4⟩
theorem quote_R {D : SD} {V MK MM CH AM : Int → Int} {s0 : Int → rdS} (hD : stOK D) (h : mV D V s0) (hrd : ∀ j, 0 ≤ j → j < V 18 → Read (txT V j) (s0 j) j (V (80 + 61 * j)) MK (MM j) (CH j) (AM j) ∧ 0 ≤ MM j ∧ MM j ≤ 60) (Tr : Int → Int → Int) {wt a b c z : Int} (z0 : 0 ≤ z) (z3 : z ≤ 3) (hc : 0 < sC D z) : prD D (dsc Tr 0 wt a b c z) 0 0 8 = wkM V MK MM CH AM wt a b c z 8 := by
  obtain ⟨d0, d1, d2, d3, d4⟩ := dsc_v Tr 0 wt a b c z
  exact (pr8_R hD h hrd d0 d1 d2 d3 d4 z0 (by omega) (by omega)).1
/-- what a row holds that is priced with one number changed -/
def rwX (D : SD) (X : Int → Int → Int) (p x : Int) : Prop := ∀ j, 0 ≤ j → j ≤ 4 → j ≠ x → X 0 j = sP D p j
theorem wi_R {D : SD} {V MK MM CH AM : Int → Int} {s0 : Int → rdS} (hD : stOK D) (h : mV D V s0) (hrd : ∀ j, 0 ≤ j → j < V 18 → Read (txT V j) (s0 j) j (V (80 + 61 * j)) MK (MM j) (CH j) (AM j) ∧ 0 ≤ MM j ∧ MM j ≤ 60) {X : Int → Int → Int} {p x y : Int} (hp : 0 ≤ p ∧ p < snP D) (hx : 0 ≤ x ∧ x ≤ 3) (hc : 0 < sC D (sP D p 4)) (hX : rwX D X p x) (hy : X 0 x = y) : prD D X 0 0 8 = wiW V MK MM CH AM p x y 8 ∧ rwX D (prD D X 0) p x ∧ prD D X 0 0 x = y := by
  have r4 := (hD.2.1.2.2 p hp.1 hp.2).2.2.2.2.1
  have e : ∀ j, 0 ≤ j → j ≤ 3 → X 0 j = wiV V p x y j := fun j j0 j3 => by
    unfold wiV
    rw [h.col hp.1 hp.2 j0 (by omega)]
    by_cases hj : x = j
    · rw [if_pos hj, ← hj, hy]
    · rw [if_neg hj]; exact hX j j0 (by omega) (fun q => hj q.symm)
  have e4 : X 0 4 = V (570 + 12 * p + 4) := by rw [h.col hp.1 hp.2 (c := 4) (by decide) (by decide)]; exact hX 4 (by decide) (by decide) (by omega)
  have e44 := h.col hp.1 hp.2 (c := 4) (by decide) (by decide)
  obtain ⟨q1, q2⟩ := pr8_R hD h hrd (e 0 (by decide) (by decide)) (e 1 (by decide) (by decide)) (e 2 (by decide) (by decide)) (e 3 (by decide) (by decide)) e4 (by rw [e44]; exact r4.1) (by rw [e44]; exact r4.2) (by rw [e44]; omega)
  refine ⟨q1, fun j j0 j4 jx => ?_, ?_⟩
  · rw [q2 j j4]; exact hX j j0 j4 jx
  · rw [q2 x (by omega)]; exact hy
theorem rwX_put {D : SD} {X : Int → Int → Int} {p x y : Int} (h : rwX D X p x) : rwX D (upd2 X 0 x y) p x ∧ upd2 X 0 x y 0 x = y := ⟨fun j j0 j4 jx => by rw [upd2_nc _ jx]; exact h j j0 j4 jx, upd2_eq _ _ _ _⟩
theorem shgo_R {D : SD} {V MK MM CH AM : Int → Int} {s0 : Int → rdS} (hD : stOK D) (h : mV D V s0) (hrd : ∀ j, 0 ≤ j → j < V 18 → Read (txT V j) (s0 j) j (V (80 + 61 * j)) MK (MM j) (CH j) (AM j) ∧ 0 ≤ MM j ∧ MM j ≤ 60) {p x : Int} (hp : 0 ≤ p ∧ p < snP D) (hx : 0 ≤ x ∧ x ≤ 3) (hc : 0 < sC D (sP D p 4)) (ch len : Int) : ∀ (k : Nat) (i : Int) (X : Int → Int → Int), rwX D X p x → shgo D ch x len k i X = lsZ (fun e => wiW V MK MM CH AM p x (len - e) 8) ch k i
  | 0, _, _, _ => rfl
  | k + 1, i, X, hX => by
    obtain ⟨a, b⟩ := rwX_put (y := len - i) hX
    obtain ⟨q1, q2, -⟩ := wi_R hD h hrd hp hx hc a b
    show (if prD D (upd2 X 0 x (len - i)) 0 0 8 < ch then i else shgo D ch x len k (i + 1) (prD D (upd2 X 0 x (len - i)) 0)) = (if wiW V MK MM CH AM p x (len - i) 8 < ch then i else lsZ (fun e => wiW V MK MM CH AM p x (len - e) 8) ch k (i + 1))
    rw [q1, shgo_R hD h hrd hp hx hc ch len k (i + 1) _ q2]
theorem short_R {D : SD} {V MK MM CH AM : Int → Int} {s0 : Int → rdS} (hD : stOK D) (h : mV D V s0) (hrd : ∀ j, 0 ≤ j → j < V 18 → Read (txT V j) (s0 j) j (V (80 + 61 * j)) MK (MM j) (CH j) (AM j) ∧ 0 ≤ MM j ∧ MM j ≤ 60) (Tr : Int → Int → Int) {p x : Int} (hp : 0 ≤ p ∧ p < snP D) (hx : 0 ≤ x ∧ x ≤ 3) (hc : 0 < sC D (sP D p 4)) : shZ D Tr p x = lsW V MK MM CH AM p x := by
  have hnP := hD.2.1.1
  have hcr : ∀ j, 0 ≤ j → j < 22 → crZ D Tr p 0 j = sP D p j := fun j a b => crZ_r D Tr ⟨hp.1, by omega⟩ ⟨a, b⟩
  obtain ⟨q1, q2, q3⟩ := wi_R hD h hrd (X := crZ D Tr p) (y := V (570 + 12 * p + x)) hp hx hc (fun j j0 j4 _ => hcr j j0 (by omega)) (by rw [hcr x (by omega) (by omega), h.col hp.1 hp.2 (by omega) (by omega)])
  unfold shZ lsW
  rw [q1, q3]
  exact shgo_R hD h hrd hp hx hc _ _ _ 1 _ q2
theorem chgo_R {D : SD} {V MK MM CH AM : Int → Int} {s0 : Int → rdS} (hD : stOK D) (h : mV D V s0) (hrd : ∀ j, 0 ≤ j → j < V 18 → Read (txT V j) (s0 j) j (V (80 + 61 * j)) MK (MM j) (CH j) (AM j) ∧ 0 ≤ MM j ∧ MM j ≤ 60) {p : Int} (f : Int → Int) (hf : f = fun z => wkM V MK MM CH AM (sP D p 0) (sP D p 1) (sP D p 2) (sP D p 3) z 8) : ∀ (k n : Nat) (X : Int → Int → Int), n + k = 4 → (∀ j, 0 ≤ j → j ≤ 3 → X 0 j = sP D p j) → ((chM V f n).1 = -1000009 ∨ 0 ≤ (chM V f n).1) → chgo D k n (chM V f n).1 (chM V f n).2 X = (chM V f 4).1
  | 0, n, X, hn, _, _ => by
    rw [show n = 4 by omega]
    rfl
  | k + 1, n, X, hn, hX, hb => by
    have hC : V (24 + 14 * (n : Int)) = sC D n := (h.bn n (by omega) (by omega)).1
    have es : chM V f (n + 1) = if 0 < V (24 + 14 * (n : Int)) then (if (chM V f n).1 < 0 ∨ f n < (chM V f n).2 then ((n : Int), f n) else chM V f n) else chM V f n := rfl
    have ec : ((n : Int) + 1) = ((n + 1 : Nat) : Int) := by omega
    show (if 0 < sC D n then (if (chM V f n).1 = -1000009 ∨ prD D (upd2 X 0 4 n) 0 0 8 < (chM V f n).2 then chgo D k (n + 1) n (prD D (upd2 X 0 4 n) 0 0 8) (prD D (upd2 X 0 4 n) 0) else chgo D k (n + 1) (chM V f n).1 (chM V f n).2 (prD D (upd2 X 0 4 n) 0)) else chgo D k (n + 1) (chM V f n).1 (chM V f n).2 X) = _
    by_cases hz : 0 < sC D n
    · have u : ∀ j, 0 ≤ j → j ≤ 3 → upd2 X 0 4 n 0 j = sP D p j := fun j j0 j3 => by rw [upd2_nc _ (by omega)]; exact hX j j0 j3
      obtain ⟨q1, q2⟩ := pr8_R hD h hrd (u 0 (by decide) (by decide)) (u 1 (by decide) (by decide)) (u 2 (by decide) (by decide)) (u 3 (by decide) (by decide)) (upd2_eq X 0 4 n) (by omega) (by omega) (by omega)
      have q3 : prD D (upd2 X 0 4 n) 0 0 8 = f n := by rw [q1, hf]
      have u2 : ∀ j, 0 ≤ j → j ≤ 3 → prD D (upd2 X 0 4 n) 0 0 j = sP D p j := fun j j0 j3 => by rw [q2 j (by omega)]; exact u j j0 j3
      rw [if_pos hz, q3]
      rw [hC, if_pos hz] at es
      by_cases hl : (chM V f n).1 = -1000009 ∨ f n < (chM V f n).2
      · rw [if_pos hl]
        rw [if_pos (hl.elim (fun q => Or.inl (by omega)) Or.inr)] at es
        have ih := chgo_R hD h hrd f hf k (n + 1) (prD D (upd2 X 0 4 n) 0) (by omega) u2 (by rw [es]; exact Or.inr (by show 0 ≤ (n : Int); omega))
        rw [es] at ih
        rw [ec]; exact ih
      · rw [if_neg hl]
        have hl2 : ¬ ((chM V f n).1 < 0 ∨ f n < (chM V f n).2) := fun q => q.elim (fun a => hb.elim (fun b => hl (Or.inl b)) (fun b => by omega)) (fun a => hl (Or.inr a))
        rw [if_neg hl2] at es
        have ih := chgo_R hD h hrd f hf k (n + 1) (prD D (upd2 X 0 4 n) 0) (by omega) u2 (by rw [es]; exact hb)
        rw [es] at ih
        rw [ec]; exact ih
    · rw [if_neg hz]
      rw [hC, if_neg hz] at es
      have ih := chgo_R hD h hrd f hf k (n + 1) X (by omega) hX (by rw [es]; exact hb)
      rw [es] at ih
      rw [ec]; exact ih
theorem cheap_R {D : SD} {V MK MM CH AM : Int → Int} {s0 : Int → rdS} (hD : stOK D) (h : mV D V s0) (hrd : ∀ j, 0 ≤ j → j < V 18 → Read (txT V j) (s0 j) j (V (80 + 61 * j)) MK (MM j) (CH j) (AM j) ∧ 0 ≤ MM j ∧ MM j ≤ 60) (Tr : Int → Int → Int) {p : Int} (hp : 0 ≤ p ∧ p < snP D) : cheZ D Tr p = (chM V (fun z => wkM V MK MM CH AM (V (570 + 12 * p + 0)) (V (570 + 12 * p + 1)) (V (570 + 12 * p + 2)) (V (570 + 12 * p + 3)) z 8) 4).1 := by
  have hnP := hD.2.1.1
  rw [h.col hp.1 hp.2 (c := 0) (by decide) (by decide), h.col hp.1 hp.2 (c := 1) (by decide) (by decide), h.col hp.1 hp.2 (c := 2) (by decide) (by decide), h.col hp.1 hp.2 (c := 3) (by decide) (by decide)]
  unfold cheZ
  exact chgo_R hD h hrd (p := p) _ rfl 4 0 (crZ D Tr p) rfl (fun j a b => crZ_r D Tr ⟨hp.1, by omega⟩ ⟨a, by omega⟩) (Or.inl rfl)
