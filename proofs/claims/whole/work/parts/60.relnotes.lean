/-! ===== the relation through acts: parcels and notes ===== -/
theorem prD_i {D : SD} {P : Int → Int → Int} {row i : Int} (h : i ≠ row) : prD D P row i = P i := by
  funext j
  unfold prD prT
  rw [upd2_nr _ h, chP_i _ _ h]
  unfold prC
  rw [upd2_nr _ h, rsn_ne (Or.inl h)]
  unfold prB
  rw [rsn_ne (Or.inl h), upd2_nr _ h]
  unfold msr
  rw [upd2_nr _ h, upd2_nr _ h]
  unfold prA
  rw [upd2_nr _ h, upd2_nr _ h]
theorem rowOK_pr {D : SD} (hOK : stOK1 D) {P : Int → Int → Int} {r : Int} (h : rowIn D P r) (h0 : 1 ≤ P r 0 ∧ P r 0 ≤ 100000) : rowOK (prD D P r) r ∧ wyK (prD D P r r) := by
  obtain ⟨v, v5, v6, v7, v8, -, -, v11, -, d1, d2⟩ := prD_v hOK h
  obtain ⟨φ, -, -, -, -, -, -, -, -, w12, w13, -⟩ := prD_w D hOK.2.2.1.1.2 P r
  obtain ⟨s0, s1, s2, s3, s4, hc, hP⟩ := h
  have hbz := baseZ_b hOK.2.1 (x := bilZ (sF D) (P r 0) (dimZ (sF D) P r)) s4.1 s4.2 hc (by omega) (by omega)
  have hbr := brsZ_b (L := sL D) (x := bilZ (sF D) (P r 0) (dimZ (sF D) P r)) (hOK.2.1.1 (P r 4) s4.1 s4.2)
  have hwr : 1 ≤ wrZ (P r 0) (dimZ (sF D) P r) ∧ wrZ (P r 0) (dimZ (sF D) P r) ≤ 3 := by unfold wrZ; split <;> (try split) <;> omega
  unfold rowOK wyK
  rw [v 0 (by decide) (by decide), v 1 (by decide) (by decide), v 2 (by decide) (by decide), v 3 (by decide) (by decide), v 4 (by decide) (by decide), v5, v6, v7, w12, w13]
  exact ⟨⟨h0, s1, s2, s3, s4, d1, ⟨by omega, by omega⟩, ⟨by omega, by omega⟩, v8, v11⟩, hwr, hbr⟩
/-! what the class reads of a parcel, by the reference -/
theorem why_R {x : Int → Int} {V : Int → Int} {p i : Int} (h : rowR x (fun c => V (570 + 12 * p + c))) (i0 : 0 ≤ i) : rsV V p i = if i < x 11 then x (12 + i) else -1000009 := by
  obtain ⟨-, r9, r10, r11, r12, r13⟩ := h
  have r9 : V (570 + 12 * p + 9) = x 12 := r9
  have r10 : V (570 + 12 * p + 10) = x 13 := r10
  have r12 : x 11 = 2 + bcN (V (570 + 12 * p + 11)) 8 0 := r12
  have hb := bcN_b (V (570 + 12 * p + 11)) 8 0
  unfold rsV
  by_cases h2 : i < 2
  · rw [if_pos h2, if_pos (by omega)]
    rcases (show i = 0 ∨ i = 1 by omega) with e | e <;> subst e
    · exact r9
    · exact r10
  · rw [if_neg h2]
    have hr := rgo_c (V (570 + 12 * p + 11)) 8 0 (i - 2) (by decide) (by omega)
    by_cases hi : i < x 11
    · rw [if_pos hi, show 12 + i = 14 + (i - 2) by omega]
      exact (r13 (i - 2) (by omega) (by omega)).symm
    · rw [if_neg hi]
      exact hr.2 (by omega)
theorem told_9 {D : SD} {V : Int → Int} {p : Int} (h : parR D V p) : girZ (V (570 + 12 * p + 1)) (V (570 + 12 * p + 2)) (V (570 + 12 * p + 3)) = sP D p 9 := by
  obtain ⟨⟨r, -⟩, r9⟩ := h
  have e1 : V (570 + 12 * p + 1) = sP D p 1 := r 1 (by decide) (by decide)
  have e2 : V (570 + 12 * p + 2) = sP D p 2 := r 2 (by decide) (by decide)
  have e3 : V (570 + 12 * p + 3) = sP D p 3 := r 3 (by decide) (by decide)
  rw [e1, e2, e3, r9]
/-! open notes -/
def opA (D : SD) (p n : Int) : Prop := sN D n 0 = p ∧ sN D n 4 = 0
theorem opN_c (N : Int → Int → Int) (p : Int) : ∀ (k : Nat) (i : Int), (opN N p k i = -1000009 ∧ ∀ m, i ≤ m → m < i + k → ¬ (N m 0 = p ∧ N m 4 = 0)) ∨ (i ≤ opN N p k i ∧ opN N p k i < i + k ∧ N (opN N p k i) 0 = p ∧ N (opN N p k i) 4 = 0)
  | 0, i => Or.inl ⟨rfl, fun m a b => absurd b (by omega)⟩
  | k + 1, i => by
    by_cases h : N i 0 = p ∧ N i 4 = 0
    · have e : opN N p (k + 1) i = i := if_pos h
      rw [e]
      exact Or.inr ⟨Int.le_refl i, by omega, h⟩
    · have e : opN N p (k + 1) i = opN N p k (i + 1) := if_neg h
      rw [e]
      rcases opN_c N p k (i + 1) with ⟨a, b⟩ | ⟨a, b, c⟩
      · refine Or.inl ⟨a, fun m m0 m1 => ?_⟩
        by_cases hm : m = i
        · rw [hm]; exact h
        · exact b m (by omega) (by omega)
      · exact Or.inr ⟨by omega, by omega, c⟩
theorem mopF_c (V : Int → Int) (p : Int) : ∀ k : Nat, (mopF V p k = -1000009 ∧ ∀ m : Int, 0 ≤ m → m < k → ¬ (V (940 + 12 * m + 0) = p ∧ V (940 + 12 * m + 4) = 0)) ∨ (0 ≤ mopF V p k ∧ mopF V p k < k ∧ V (940 + 12 * mopF V p k + 0) = p ∧ V (940 + 12 * mopF V p k + 4) = 0)
  | 0 => Or.inl ⟨rfl, fun m a b => absurd b (by omega)⟩
  | k + 1 => by
    by_cases h : V (940 + 12 * (k : Int) + 0) = p ∧ V (940 + 12 * (k : Int) + 4) = 0
    · have e : mopF V p (k + 1) = k := if_pos h
      rw [e]
      exact Or.inr ⟨by omega, by omega, h⟩
    · have e : mopF V p (k + 1) = mopF V p k := if_neg h
      rw [e]
      rcases mopF_c V p k with ⟨a, b⟩ | ⟨a, b, c⟩
      · refine Or.inl ⟨a, fun m m0 m1 => ?_⟩
        by_cases hm : m = k
        · rw [hm]; exact h
        · exact b m m0 (by omega)
      · exact Or.inr ⟨a, by omega, c⟩
theorem open_R {D : SD} {V : Int → Int} {s0 : Int → rdS} (hD : stOK D) (h : mV D V s0) (p : Int) : mopZ V p = openZ D p := by
  have hn := hD.2.2.1.1
  obtain ⟨⟨-, h20, -⟩, -, hno, hu, -⟩ := h.ls
  have e : ∀ m, 0 ≤ m → m < snN D → ((V (940 + 12 * m + 0) = p ∧ V (940 + 12 * m + 4) = 0) ↔ (sN D m 0 = p ∧ sN D m 4 = 0)) := fun m a b => by
    rw [(hno m a b).1 0 (by decide) (by decide), (hno m a b).1 4 (by decide) (by decide)]
  unfold mopZ openZ
  rw [h20]
  rcases mopF_c V p (snN D).toNat with ⟨a, b⟩ | ⟨a, b, c⟩
  · rcases opN_c (sN D) p (snN D).toNat 0 with ⟨a2, b2⟩ | ⟨a2, b2, c2⟩
    · rw [a, a2]
    · exact absurd ((e _ a2 (by omega)).mpr c2) (b _ a2 (by omega))
  · rcases opN_c (sN D) p (snN D).toNat 0 with ⟨a2, b2⟩ | ⟨a2, b2, c2⟩
    · exact absurd ((e _ a (by omega)).mp c) (b2 _ a (by omega))
    · have c3 := (e _ a (by omega)).mp c
      exact hu _ _ a (by omega) a2 (by omega) c3.2 c2.2 (c3.1.trans c2.1.symm)
theorem open_no {D : SD} {p : Int} (h : openZ D p = -1000009) {m : Int} (m0 : 0 ≤ m) (m1 : m < snN D) : ¬ (sN D m 0 = p ∧ sN D m 4 = 0) := by
  unfold openZ at h
  rcases opN_c (sN D) p (snN D).toNat 0 with ⟨a, b⟩ | ⟨a, b, c⟩
  · exact b m m0 (by omega)
  · omega
theorem told_R {D : SD} {V : Int → Int} {s0 : Int → rdS} (hD : stOK D) (h : mV D V s0) {p x : Int} (p0 : 0 ≤ p) (p1 : p < snP D) (x0 : 0 ≤ x) (x1 : x ≤ 10) : toldV V p x = if x = 10 then openZ D p else sP D p x := by
  unfold toldV
  by_cases h9 : x = 9
  · rw [if_pos h9, if_neg (by omega), h9]
    exact told_9 (h.ls.2.1 p p0 p1)
  · rw [if_neg h9]
    by_cases h10 : x = 10
    · rw [if_pos h10, if_pos h10]; exact open_R hD h p
    · rw [if_neg h10, if_neg h10]; exact h.col p0 p1 x0 (by omega)
theorem zsum_c {f g : Int → Int} : ∀ n : Nat, (∀ i : Int, 0 ≤ i → i < n → f i = g i) → zsum f n = zsum g n
  | 0, _ => rfl
  | n + 1, h => by
    show zsum f n + f n = zsum g n + g n
    rw [zsum_c n (fun i a b => h i a (by omega)), h n (by omega) (by omega)]
theorem sum_R {D : SD} {V : Int → Int} {s0 : Int → rdS} (hD : stOK D) (h : mV D V s0) {x : Int} (x0 : 0 ≤ x) (x4 : x ≤ 4) : smV V x = sumZ D x := by
  have hp := hD.2.1.1
  have hn := hD.2.2.1.1
  obtain ⟨⟨h19, -, h21⟩, hpa, -⟩ := h.ls
  unfold smV sumZ
  rw [h19]
  rcases (show x = 0 ∨ x = 1 ∨ x = 2 ∨ x = 3 ∨ x = 4 by omega) with e | e | e | e | e <;> subst e
  · rw [if_neg (by decide), if_pos rfl, if_pos rfl]
    exact zsum_c _ (fun i a b => by rw [tcell_in a (by omega) (by decide) (by decide)]; exact h.col a (by omega) (by decide) (by decide))
  · rw [if_pos rfl, if_neg (by decide), if_pos rfl, h21]
    exact zsum_c _ (fun i a b => by rw [tcell_in a (by omega) (by decide) (by decide)])
  · rw [if_neg (by decide), if_neg (by decide), if_pos rfl, if_neg (by decide), if_neg (by decide), if_pos rfl]
    exact zsum_c _ (fun i a b => by rw [tcell_in a (by omega) (by decide) (by decide)]; exact h.col a (by omega) (by decide) (by decide))
  · rw [if_neg (by decide), if_neg (by decide), if_neg (by decide), if_pos rfl, if_neg (by decide), if_neg (by decide), if_neg (by decide), if_pos rfl]
    exact zsum_c _ (fun i a b => by rw [tcell_in a (by omega) (by decide) (by decide)]; exact h.col a (by omega) (by decide) (by decide))
  · rw [if_neg (by decide), if_neg (by decide), if_neg (by decide), if_neg (by decide), if_neg (by decide), if_neg (by decide), if_neg (by decide), if_neg (by decide)]
    refine zsum_c _ (fun i a b => ?_)
    have e9 : V (570 + 12 * i + 9) = sP D i 12 := (hpa i a (by omega)).1.2.1
    rw [tcell_in a (by omega) (by decide) (by decide), e9]
/-! acts on parcels and notes alone -/
theorem mV_pn {D D' : SD} {V V' : Int → Int} {s0 : Int → rdS} (hD : stOK D) (h : mV D V s0) (hV : ∀ j, j < 19 ∨ (22 ≤ j ∧ j < 570) → V' j = V j) (h1 : D'.1 = D.1 ∧ D'.2.1 = D.2.1 ∧ D'.2.2.1 = D.2.2.1 ∧ D'.2.2.2.1 = D.2.2.2.1 ∧ D'.2.2.2.2.1 = D.2.2.2.2.1 ∧ D'.2.2.2.2.2.1 = D.2.2.2.2.2.1 ∧ D'.2.2.2.2.2.2.1 = D.2.2.2.2.2.2.1 ∧ D'.2.2.2.2.2.2.2.1 = D.2.2.2.2.2.2.2.1) (hl : lsR D' V') : mV D' V' s0 := by
  obtain ⟨e1, e2, e3, e4, e5, e6, e7, e8⟩ := h1
  refine mV.mk (fun i a b => ?_) (bnR_c hD.1.2.1.1 (fun j a b => hV j (by omega)) e3 e4 e5 e6 h.bn) (rlR_c hD.1.2.2.1.1.2 (fun j a b => hV j (by omega)) (hV 18 (by decide)) e7 e8 h.rl) ?_ hl
  · show V' i = D'.1 i
    rw [e1, hV i (by omega)]; exact h.se i a b
  · show scR D'.1 D'.2.1 V'
    rw [e1, e2]
    exact scR_c (fun j a b => hV j (by omega)) h.sc
theorem mV_take {D : SD} {V MK MM CH AM : Int → Int} {s0 : Int → rdS} (hD : stOK D) (h : mV D V s0) (hrd : ∀ j, 0 ≤ j → j < V 18 → Read (txT V j) (s0 j) j (V (80 + 61 * j)) MK (MM j) (CH j) (AM j) ∧ 0 ≤ MM j ∧ MM j ≤ 60) {a b c z : Int} (hp : snP D < 30) (z0 : 0 ≤ z) (z3 : z ≤ 3) (hc : 0 < sC D z) : mV (takD D a b c z) (tkV V (wkM V MK MM CH AM (groV V - V 11) a b c z)) s0 := by
  have hg := gro_R h
  have h11 : V 11 = sG D 3 := h.sc.1.2.2.2.1
  obtain ⟨⟨h19, h20, h21⟩, hpa, hno, hu⟩ := h.ls
  have hnP := hD.2.1.1
  have hnN := hD.2.2.1.1
  rw [hg, h11]
  obtain ⟨wt, ewt⟩ : ∃ y, y = scGross (sF D) (sG D) - sG D 3 := ⟨_, rfl⟩
  rw [← ewt]
  have hds : ∀ j, j ≤ 4 → 0 ≤ j → dsc (sP D) (snP D) wt a b c z (snP D) j = if j = 0 then wt else if j = 1 then a else if j = 2 then b else if j = 3 then c else z := by
    intro j j4 j0
    unfold dsc
    rcases (show j = 0 ∨ j = 1 ∨ j = 2 ∨ j = 3 ∨ j = 4 by omega) with e | e | e | e | e <;> subst e
    · rw [upd2_nc _ (by decide), upd2_nc _ (by decide), upd2_nc _ (by decide), upd2_nc _ (by decide), upd2_eq]; rfl
    · rw [upd2_nc _ (by decide), upd2_nc _ (by decide), upd2_nc _ (by decide), upd2_eq]; rfl
    · rw [upd2_nc _ (by decide), upd2_nc _ (by decide), upd2_eq]; rfl
    · rw [upd2_nc _ (by decide), upd2_eq]; rfl
    · rw [upd2_eq]; rfl
  have d0 : dsc (sP D) (snP D) wt a b c z (snP D) 0 = wt := (hds 0 (by decide) (by decide)).trans rfl
  have d1 : dsc (sP D) (snP D) wt a b c z (snP D) 1 = a := (hds 1 (by decide) (by decide)).trans rfl
  have d2 : dsc (sP D) (snP D) wt a b c z (snP D) 2 = b := (hds 2 (by decide) (by decide)).trans rfl
  have d3 : dsc (sP D) (snP D) wt a b c z (snP D) 3 = c := (hds 3 (by decide) (by decide)).trans rfl
  have d4 : dsc (sP D) (snP D) wt a b c z (snP D) 4 = z := (hds 4 (by decide) (by decide)).trans rfl
  have hdi : ∀ i, i ≠ snP D → dsc (sP D) (snP D) wt a b c z i = sP D i := fun i hi => by
    funext j
    unfold dsc
    rw [upd2_nr _ hi, upd2_nr _ hi, upd2_nr _ hi, upd2_nr _ hi, upd2_nr _ hi]
  obtain ⟨q1, q2, -, q4⟩ := price_R h.1 hD.1 hrd (P := dsc (sP D) (snP D) wt a b c z) (row := snP D) (by rw [d4]; omega) (by rw [d4]; omega) (by rw [d4]; omega)
  rw [d0, d1, d2, d3, d4] at q1
  obtain ⟨W, eW⟩ : ∃ W, W = wkM V MK MM CH AM wt a b c z := ⟨_, rfl⟩
  rw [← eW] at q1 ⊢
  have hV : ∀ j, j ≠ 19 → (j < 570 + 12 * snP D ∨ 570 + 12 * snP D + 12 ≤ j) → tkV V W j = V j := fun j j1 j2 => by
    unfold tkV
    rw [updZ_ne _ _ j1]
    unfold actW
    rw [if_neg (by omega)]
  have hW : ∀ i, 0 ≤ i → i < 12 → tkV V W (570 + 12 * snP D + i) = W i := fun i i0 i1 => by
    unfold tkV
    rw [updZ_ne _ _ (by omega), h19]
    unfold actW
    rw [if_pos (by omega)]
    congr 1
    omega
  have eP : takD D a b c z = wP D (snP D + 1) (prD D (dsc (sP D) (snP D) wt a b c z) (snP D)) := by unfold takD; rw [← ewt]
  rw [eP]
  refine mV_pn hD h (fun j hj => hV j (by omega) (by omega)) ⟨rfl, rfl, rfl, rfl, rfl, rfl, rfl, rfl⟩ ⟨⟨?_, ?_, ?_⟩, fun p p0 p1 => ?_, fun n n0 n1 => ?_, hu⟩
  · show tkV V W 19 = snP D + 1
    unfold tkV
    rw [updZ_eq, h19]
  · show tkV V W 20 = snN D
    rw [hV 20 (by decide) (by omega)]; exact h20
  · show tkV V W 21 = _
    rw [hV 21 (by decide) (by omega)]; exact h21
  · have p1 : p < snP D + 1 := p1
    by_cases hpn : p = snP D
    · subst hpn
      refine ⟨⟨fun k k0 k8 => ?_, ?_, ?_, ?_⟩, ?_⟩
      · show tkV V W (570 + 12 * snP D + k) = _
        rw [hW k k0 (by omega)]; exact q1.1 k k0 k8
      · show tkV V W (570 + 12 * snP D + 9) = _
        rw [hW 9 (by decide) (by decide)]; exact q1.2.1
      · show tkV V W (570 + 12 * snP D + 10) = _
        rw [hW 10 (by decide) (by decide)]; exact q1.2.2.1
      · show heldR _ (tkV V W (570 + 12 * snP D + 11))
        rw [hW 11 (by decide) (by decide)]; exact q1.2.2.2
      · show prD D (dsc (sP D) (snP D) wt a b c z) (snP D) (snP D) 9 = girZ (prD D (dsc (sP D) (snP D) wt a b c z) (snP D) (snP D) 1) (prD D (dsc (sP D) (snP D) wt a b c z) (snP D) (snP D) 2) (prD D (dsc (sP D) (snP D) wt a b c z) (snP D) (snP D) 3)
        rw [q2, q4 1 (by decide), q4 2 (by decide), q4 3 (by decide)]
    · have e : sP (wP D (snP D + 1) (prD D (dsc (sP D) (snP D) wt a b c z) (snP D))) p = sP D p := by
        show prD D (dsc (sP D) (snP D) wt a b c z) (snP D) p = sP D p
        rw [prD_i hpn, hdi p hpn]
      have hpp := hpa p p0 (by omega)
      unfold parR rowR at hpp ⊢
      rw [e]
      obtain ⟨⟨r1, r2, r3, r4⟩, r5⟩ := hpp
      refine ⟨⟨fun k k0 k8 => ?_, ?_, ?_, ?_⟩, r5⟩
      · show tkV V W (570 + 12 * p + k) = _
        rw [hV _ (by omega) (by omega)]; exact r1 k k0 k8
      · show tkV V W (570 + 12 * p + 9) = _
        rw [hV _ (by omega) (by omega)]; exact r2
      · show tkV V W (570 + 12 * p + 10) = _
        rw [hV _ (by omega) (by omega)]; exact r3
      · show heldR _ (tkV V W (570 + 12 * p + 11))
        rw [hV _ (by omega) (by omega)]; exact r4
  · have hnn := hno n n0 n1
    have ho := (hD.2.2.1.2.2 n n0 n1).1
    obtain ⟨q1', ⟨w6, w7, w8⟩, ⟨w9, w10, w11⟩, w12, w13, w14⟩ := hnn
    refine ⟨fun k k0 k5 => ?_, ⟨?_, ?_, ?_⟩, ⟨?_, ?_, ?_⟩, w12, w13, fun hop k k0 k4 => ?_⟩
    · rw [hV _ (by omega) (by omega)]; exact q1' k k0 k5
    · rw [hV _ (by omega) (by omega)]; exact w6
    · rw [hV _ (by omega) (by omega)]; exact w7
    · rw [hV _ (by omega) (by omega)]; exact w8
    · rw [hV _ (by omega) (by omega)]; exact w9
    · rw [hV _ (by omega) (by omega)]; exact w10
    · rw [hV _ (by omega) (by omega)]; exact w11
    · show sK D n k = if k = sN D n 1 then sN D n 2 else prD D (dsc (sP D) (snP D) wt a b c z) (snP D) (sN D n 0) k
      rw [prD_i (by omega), hdi _ (by omega)]
      exact w14 hop k k0 k4
