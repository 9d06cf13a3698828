/-! ===== a state that agrees on what is used; the past ===== -/
def agD (D D' : SD) : Prop := (∀ i, 0 ≤ i → i < 8 → sF D' i = sF D i) ∧ sG D' = sG D ∧ (∀ z, 0 ≤ z → z < 4 → sC D' z = sC D z ∧ sE D' z = sE D z ∧ ∀ i, 0 ≤ i → i < sC D z → sL D' z i = sL D z i ∧ sQ D' z i = sQ D z i) ∧ (snR D' = snR D ∧ ∀ k, 0 ≤ k → k < snR D → sR D' k = sR D k) ∧ (snP D' = snP D ∧ ∀ p, 0 ≤ p → p < snP D → sP D' p = sP D p) ∧ (snN D' = snN D ∧ ∀ n, 0 ≤ n → n < snN D → sN D' n = sN D n) ∧ (snK D' = snK D ∧ ∀ n, 0 ≤ n → n < snK D → sK D' n = sK D n)
def arI (D : SD) : Prop := (∀ a b, inI (sL D a b)) ∧ (∀ a b, inI (sQ D a b)) ∧ (∀ a b, inI (sR D a b)) ∧ (∀ a b, inI (sP D a b)) ∧ (∀ a b, inI (sN D a b)) ∧ ∀ a b, inI (sK D a b)
theorem stOK.ar {D : SD} (h : stOK D) : arI D := ⟨h.1.2.1.2.1, h.1.2.1.2.2.1, h.1.2.2.2, h.2.1.2.1, h.2.2.1.2.1, h.2.2.2.1.2.1⟩
theorem agD.rf (D : SD) : agD D D := ⟨fun _ _ _ => rfl, rfl, fun _ _ _ => ⟨rfl, rfl, fun _ _ _ => ⟨rfl, rfl⟩⟩, ⟨rfl, fun _ _ _ => rfl⟩, ⟨rfl, fun _ _ _ => rfl⟩, ⟨rfl, fun _ _ _ => rfl⟩, ⟨rfl, fun _ _ _ => rfl⟩⟩
theorem stOK_ag {D D' : SD} (h : stOK D) (ha : agD D D') (hi : arI D') : stOK D' := by
  obtain ⟨hF, hG, hB, ⟨hr, hR⟩, ⟨hp, hP⟩, ⟨hn, hN⟩, ⟨hk, hK⟩⟩ := ha
  obtain ⟨i1, i2, i3, i4, i5, i6⟩ := hi
  obtain ⟨⟨⟨f, g⟩, ⟨b1, -, -, b4⟩, ⟨u1, u2⟩, -⟩, ⟨p1, -, p3⟩, ⟨n1, -, n3⟩, ⟨k1, -, k3⟩, g3⟩ := h
  refine ⟨⟨⟨?_, ?_⟩, ⟨fun z z0 z4 => ?_, i1, i2, fun z z0 z4 => ⟨?_, fun i i0 c => ?_⟩⟩, ⟨?_, fun r r0 c => ?_⟩, i3⟩, ⟨?_, i4, fun p p0 c => ?_⟩, ⟨?_, i5, fun n n0 c => ?_⟩, ⟨?_, i6, fun n n0 c => ?_⟩, ?_⟩
  · unfold scF at f ⊢
    rw [hF 0 (by decide) (by decide), hF 1 (by decide) (by decide), hF 2 (by decide) (by decide), hF 3 (by decide) (by decide), hF 4 (by decide) (by decide), hF 5 (by decide) (by decide), hF 6 (by decide) (by decide), hF 7 (by decide) (by decide)]
    exact f
  · rw [hG]; exact g
  · rw [(hB z z0 z4).1]; exact b1 z z0 z4
  · rw [(hB z z0 z4).2.1]; exact (b4 z z0 z4).1
  · rw [(hB z z0 z4).1] at c
    rw [((hB z z0 z4).2.2 i i0 c).1, ((hB z z0 z4).2.2 i i0 c).2]
    exact (b4 z z0 z4).2 i i0 c
  · rw [hr]; exact u1
  · rw [hr] at c
    rw [hR r r0 c]
    exact u2 r r0 c
  · rw [hp]; exact p1
  · rw [hp] at c
    have q := p3 p p0 c
    unfold rowOK at q ⊢
    rw [hP p p0 c]
    exact q
  · rw [hn]; exact n1
  · rw [hn] at c
    have q := n3 n n0 c
    unfold ntOK at q ⊢
    rw [hN n n0 c, hp]
    exact q
  · rw [hk, hn]; exact k1
  · rw [hn] at c
    have q := k3 n n0 c
    unfold rowOK at q ⊢
    rw [hK n n0 (by omega)]
    exact q
  · rw [hG]; exact g3
theorem mV_ag {D D' : SD} {V V' : Int → Int} {s0 : Int → rdS} (hD : stOK D) (h : mV D V s0) (ha : agD D D') (hV : ∀ j, 0 ≤ j → j < 1200 → V' j = V j) : mV D' V' s0 := by
  obtain ⟨hF, hG, hB, ⟨hr, hR⟩, ⟨hp, hP⟩, ⟨hn, hN⟩, ⟨hk, hK⟩⟩ := ha
  have hnK : snK D = snN D := hD.2.2.2.1.1
  have hnP := hD.2.1.1
  have hnN := hD.2.2.1.1
  have hnR := hD.1.2.2.1.1
  refine mV.mk (fun i a b => ?_) (fun z z0 z4 => ?_) ⟨?_, fun k a b => ?_⟩ ?_ ⟨⟨?_, ?_, ?_⟩, fun p p0 p1 => ?_, fun n n0 n1 => ?_, ?_, ?_⟩
  · rw [hV i a (by omega), hF i a b]; exact h.se i a b
  · have hz := hD.1.2.1.1 z z0 z4
    obtain ⟨e1, e2, e3⟩ := hB z z0 z4
    obtain ⟨a, b, c⟩ := h.bn z z0 z4
    rw [e1, e2, hV _ (by omega) (by omega), hV (24 + 14 * z + 1) (by omega) (by omega)]
    refine ⟨a, b, fun i i0 i1 => ?_⟩
    rw [(e3 i i0 i1).1, (e3 i i0 i1).2, hV _ (by omega) (by omega), hV (24 + 14 * z + 2 + 2 * i + 1) (by omega) (by omega)]
    exact c i i0 i1
  · rw [hV 18 (by decide) (by decide), hr]; exact h.rl.1
  · rw [hr] at b
    exact ruR_c a (by omega) (fun j c d => hV j (by omega) (by omega)) (hR k a b) (h.rl.2 k a b)
  · rw [hG]
    exact scR_c (fun j a b => hV j (by omega) (by omega)) h.sc
  · rw [hV 19 (by decide) (by decide), hp]; exact h.ls.1.1
  · rw [hV 20 (by decide) (by decide), hn]; exact h.ls.1.2.1
  · rw [hV 21 (by decide) (by decide), hn, h.ls.1.2.2]
    exact zsum_c _ (fun i a b => by rw [hN i a (by omega)])
  · rw [hp] at p1
    obtain ⟨⟨q1, q2, q3, q4⟩, q5⟩ := h.ls.2.1 p p0 p1
    unfold parR rowR
    rw [hP p p0 p1]
    refine ⟨⟨fun c c0 c8 => ?_, ?_, ?_, ?_⟩, q5⟩
    · show V' (570 + 12 * p + c) = _
      rw [hV _ (by omega) (by omega)]; exact q1 c c0 c8
    · show V' (570 + 12 * p + 9) = _
      rw [hV _ (by omega) (by omega)]; exact q2
    · show V' (570 + 12 * p + 10) = _
      rw [hV _ (by omega) (by omega)]; exact q3
    · show heldR _ (V' (570 + 12 * p + 11))
      rw [hV _ (by omega) (by omega)]; exact q4
  · rw [hn] at n1
    have o0 := (hD.2.2.1.2.2 n n0 n1).1
    obtain ⟨q1, ⟨q2, q3, q4⟩, ⟨q5, q6, q7⟩, q8, q9, q10⟩ := h.ls.2.2.1 n n0 n1
    unfold notR
    rw [hN n n0 n1, hK n n0 (by omega), hP _ o0.1 o0.2, hV (940 + 12 * n + 6) (by omega) (by omega), hV (940 + 12 * n + 7) (by omega) (by omega), hV (940 + 12 * n + 8) (by omega) (by omega), hV (940 + 12 * n + 9) (by omega) (by omega), hV (940 + 12 * n + 10) (by omega) (by omega), hV (940 + 12 * n + 11) (by omega) (by omega)]
    exact ⟨fun c c0 c5 => by rw [hV _ (by omega) (by omega)]; exact q1 c c0 c5, ⟨q2, q3, q4⟩, ⟨q5, q6, q7⟩, q8, q9, q10⟩
  · intro n m n0 n1 m0 m1 o1 o2 o3
    rw [hn] at n1 m1
    rw [hN n n0 n1] at o1 o3
    rw [hN m m0 m1] at o2 o3
    exact h.ls.2.2.2.1 n m n0 n1 m0 m1 o1 o2 o3
  · intro n n0 n1 o1
    rw [hn] at n1
    rw [hN n n0 n1] at o1 ⊢
    exact h.ls.2.2.2.2 n n0 n1 o1
theorem srt_ag {D D' : SD} (h : srtD D) (ha : agD D D') : srtD D' := fun z z0 z4 i j i0 ij j1 => by
  obtain ⟨e1, -, e3⟩ := ha.2.2.1 z z0 z4
  rw [e1] at j1
  rw [(e3 i i0 (by omega)).1, (e3 j (by omega) j1).1]
  exact h z z0 z4 i j i0 ij j1
theorem wyD_ag {D D' : SD} (hD : stOK D) (h : wyD D) (ha : agD D D') : wyD D' := by
  obtain ⟨-, -, -, -, ⟨hp, hP⟩, ⟨hn, -⟩, ⟨hk, hK⟩⟩ := ha
  have hnK : snK D = snN D := hD.2.2.2.1.1
  refine ⟨fun p p0 p1 => ?_, fun n n0 n1 => ?_⟩
  · rw [hp] at p1
    rw [hP p p0 p1]; exact h.1 p p0 p1
  · rw [hn] at n1
    rw [hK n n0 (by omega)]; exact h.2 n n0 n1
/-- the class's state and the reference's row are one, and in range -/
def gdD (D : SD) (V : Int → Int) (s0 : Int → rdS) : Prop := stOK D ∧ srtD D ∧ wyD D ∧ mV D V s0 ∧ vOK V
theorem gdD_ag {D D' : SD} {V V' : Int → Int} {s0 : Int → rdS} (h : gdD D V s0) (ha : agD D D') (hi : arI D') (hV : ∀ j, 0 ≤ j → j < 1200 → V' j = V j) (hL : vLim V') : gdD D' V' s0 :=
  ⟨stOK_ag h.1 ha hi, srt_ag h.2.1 ha, wyD_ag h.1 h.2.2.1 ha, mV_ag h.1 h.2.2.2.1 ha hV, rgV_c h.2.2.2.2.1 (fun j a b => hV j (by omega) (by omega)), hL, vTxt_c h.2.2.2.2.2.2 (fun j a b => hV j (by omega) (by omega))⟩
theorem ar_cpy {D2 D : SD} (h2 : arI D2) (h : arI D) : arI (cpyD D2 D) := by
  obtain ⟨a1, a2, a3, a4, a5, a6⟩ := h2
  obtain ⟨b1, b2, b3, b4, b5, b6⟩ := h
  have k2 : ∀ {C2 : Int → Int} {L2 L : Int → Int → Int} {c d : Int}, (∀ a b, inI (L2 a b)) → (∀ a b, inI (L a b)) → ∀ a b, inI (cp2 C2 L2 L c d a b) := fun h1 h2 a b => by
    unfold cp2
    split
    · exact h1 a b
    · exact h2 a b
  have k3 : ∀ {n : Int} {Q P : Int → Int → Int}, (∀ a b, inI (Q a b)) → (∀ a b, inI (P a b)) → ∀ a b, inI (mrg n Q P a b) := fun h1 h2 a b => by
    unfold mrg
    split
    · exact h1 a b
    · exact h2 a b
  exact ⟨k2 a1 b1, k2 a2 b2, k3 a3 b3, k3 a4 b4, k3 a5 b5, k3 a6 b6⟩
theorem ag_cpy (D2 D : SD) : agD D2 (cpyD D2 D) := by
  have k3 : ∀ {n : Int} {Q P : Int → Int → Int} {i : Int}, i < n → mrg n Q P i = Q i := fun h => by
    funext j
    exact if_pos h
  refine ⟨fun i a b => if_pos ⟨a, b⟩, rfl, fun z z0 z4 => ⟨if_pos ⟨z0, z4⟩, if_pos ⟨z0, z4⟩, fun i i0 i1 => ⟨if_pos ⟨⟨i0, i1⟩, Or.inl ⟨z0, z4⟩⟩, if_pos ⟨⟨i0, i1⟩, Or.inl ⟨z0, z4⟩⟩⟩⟩, ⟨rfl, fun k _ b => k3 b⟩, ⟨rfl, fun k _ b => k3 b⟩, ⟨rfl, fun k _ b => k3 b⟩, ⟨rfl, fun k _ b => k3 b⟩⟩
/-! the past -/
def ixP (pc j i : Nat) : Nat := (j + 4 - (pc - i)) % 4
def hiR (pc j : Nat) (Z : Nat → SD) (PV : Int → Int) : Prop := (pc ≤ 4 ∧ j < 4) ∧ vLim PV ∧ (∀ i : Nat, i < 4 → cOK (Z i) ∧ arI (Z i)) ∧ ∀ i : Nat, i < pc → ∃ s0, gdD (Z (ixP pc j i)) (fun k => PV (1200 * (i : Int) + k)) s0
theorem actP_lim {pm : Int} {PV V : Int → Int} (h1 : vLim PV) (h2 : vLim V) : vLim (actP pm PV V) := fun k => by
  unfold actP
  split
  · unfold actW
    split
    · exact h2 _
    · unfold actS
      split
      · exact h1 _
      · exact h1 _
  · unfold actW
    split
    · exact h2 _
    · exact h1 _
theorem gdD_v {D : SD} {V V' : Int → Int} {s0 : Int → rdS} (h : gdD D V s0) (hV : ∀ j, 0 ≤ j → j < 1200 → V' j = V j) (hL : vLim V') : gdD D V' s0 := gdD_ag h (agD.rf D) h.1.ar hV hL
theorem hiR_act {pc j : Nat} {Z : Nat → SD} {PV : Int → Int} {D : SD} {V : Int → Int} {s0 : Int → rdS} (h : hiR pc j Z PV) (hg : gdD D V s0) : hiR (pcN pc) (jN j) (pastN j Z D) (actP pc PV V) := by
  obtain ⟨⟨hpc, hj⟩, hL, hZ, hs⟩ := h
  have hL2 : vLim (actP pc PV V) := actP_lim hL hg.2.2.2.2.2.1
  have hcp : gdD (cpyD D (Z j)) V s0 := gdD_ag hg (ag_cpy D (Z j)) (ar_cpy hg.1.ar (hZ j hj).2) (fun _ _ _ => rfl) hg.2.2.2.2.2.1
  have hjn : jN j = (j + 1) % 4 := by
    unfold jN
    split <;> omega
  refine ⟨⟨by unfold pcN; split <;> omega, by omega⟩, hL2, fun i hi => ?_, fun i hi => ?_⟩
  · by_cases e : i = j
    · have e2 : pastN j Z D i = cpyD D (Z j) := by rw [e]; exact up_eq _ _ _
      rw [e2]
      exact ⟨hcp.1.c, hcp.1.ar⟩
    · have e2 : pastN j Z D i = Z i := up_ne e rfl
      rw [e2]
      exact hZ i hi
  · unfold pcN at hi
    have hx : ixP (pcN pc) (jN j) i = (j + 5 - (pcN pc - i)) % 4 := by
      unfold ixP
      rw [hjn]
      unfold pcN
      split <;> omega
    rw [hx]
    by_cases hp : pc < 4
    · have e4 : pcN pc = pc + 1 := if_pos hp
      rw [if_pos hp] at hi
      rw [e4]
      have eP : ∀ k : Int, actP (pc : Int) PV V k = if 1200 * (pc : Int) ≤ k ∧ k < 1200 * (pc : Int) + 1200 then V (k - 1200 * (pc : Int)) else PV k := fun k => by
        unfold actP
        rw [if_neg (by omega)]
        rfl
      by_cases hi2 : i = pc
      · refine ⟨s0, ?_⟩
        have e5 : pastN j Z D ((j + 5 - (pc + 1 - i)) % 4) = cpyD D (Z j) := by rw [show (j + 5 - (pc + 1 - i)) % 4 = j by omega]; exact up_eq _ _ _
        rw [e5]
        refine gdD_v hcp (fun k k0 k1 => ?_) (fun k => hL2 _)
        show actP (pc : Int) PV V (1200 * (i : Int) + k) = V k
        rw [eP, if_pos (by omega)]
        congr 1
        omega
      · obtain ⟨s1, h1⟩ := hs i (by omega)
        refine ⟨s1, ?_⟩
        have e5 : pastN j Z D ((j + 5 - (pc + 1 - i)) % 4) = Z (ixP pc j i) := by
          unfold ixP
          rw [show (j + 5 - (pc + 1 - i)) % 4 = (j + 4 - (pc - i)) % 4 by omega]
          exact up_ne (by omega) rfl
        rw [e5]
        refine gdD_v h1 (fun k k0 k1 => ?_) (fun k => hL2 _)
        show actP (pc : Int) PV V (1200 * (i : Int) + k) = PV (1200 * (i : Int) + k)
        rw [eP, if_neg (by omega)]
    · have e4 : pcN pc = pc := if_neg hp
      rw [if_neg hp] at hi
      have hp4 : pc = 4 := by omega
      rw [e4]
      subst hp4
      have eP : ∀ k : Int, actP ((4 : Nat) : Int) PV V k = if 3600 ≤ k ∧ k < 3600 + 1200 then V (k - 3600) else if 0 ≤ k ∧ k < 3600 then PV (k + 1200) else PV k := fun k => by
        unfold actP
        rw [if_pos (by omega)]
        rfl
      by_cases hi2 : i = 3
      · subst hi2
        refine ⟨s0, ?_⟩
        have e5 : pastN j Z D ((j + 5 - (4 - 3)) % 4) = cpyD D (Z j) := by rw [show (j + 5 - (4 - 3)) % 4 = j by omega]; exact up_eq _ _ _
        rw [e5]
        refine gdD_v hcp (fun k k0 k1 => ?_) (fun k => hL2 _)
        show actP ((4 : Nat) : Int) PV V (1200 * ((3 : Nat) : Int) + k) = V k
        rw [eP, if_pos (by omega)]
        congr 1
        omega
      · obtain ⟨s1, h1⟩ := hs (i + 1) (by omega)
        refine ⟨s1, ?_⟩
        have e5 : pastN j Z D ((j + 5 - (4 - i)) % 4) = Z (ixP 4 j (i + 1)) := by
          unfold ixP
          rw [show (j + 5 - (4 - i)) % 4 = (j + 4 - (4 - (i + 1))) % 4 by omega]
          exact up_ne (by omega) rfl
        rw [e5]
        refine gdD_v h1 (fun k k0 k1 => ?_) (fun k => hL2 _)
        show actP ((4 : Nat) : Int) PV V (1200 * (i : Int) + k) = PV (1200 * ((i + 1 : Nat) : Int) + k)
        rw [eP, if_neg (by omega), if_pos (by omega)]
        congr 1
        omega
theorem hiR_undo {pc j : Nat} {Z : Nat → SD} {PV : Int → Int} {D : SD} {V : Int → Int} {s0 : Int → rdS} (h : hiR pc j Z PV) (hg : gdD D V s0) (hp : 0 < pc) : hiR (pc - 1) (jP j) Z PV ∧ ∃ s1, gdD (cpyD (Z (jP j)) D) (unV PV V (1200 * ((pc : Int) - 1)) 1200) s1 := by
  obtain ⟨⟨hpc, hj⟩, hL, hZ, hs⟩ := h
  have hjp : jP j = (j + 3) % 4 := by
    unfold jP
    split <;> omega
  refine ⟨⟨⟨by omega, by omega⟩, hL, hZ, fun i hi => ?_⟩, ?_⟩
  · have e : ixP (pc - 1) (jP j) i = ixP pc j i := by
      unfold ixP
      rw [hjp]
      omega
    rw [e]
    exact hs i (by omega)
  · obtain ⟨s1, h1⟩ := hs (pc - 1) (by omega)
    have e : ixP pc j (pc - 1) = jP j := by
      unfold ixP
      rw [hjp]
      omega
    rw [e] at h1
    refine ⟨s1, gdD_ag h1 (ag_cpy _ D) (ar_cpy h1.1.ar hg.1.ar) (fun k k0 k1 => ?_) (fun k => ?_)⟩
    · show unV PV V (1200 * ((pc : Int) - 1)) 1200 k = PV (1200 * ((pc - 1 : Nat) : Int) + k)
      unfold unV
      rw [if_pos ⟨k0, k1⟩]
      congr 1
      omega
    · unfold unV
      split
      · exact hL _
      · exact hg.2.2.2.2.2.1 _
/-! limits ascend, through the bands -/
theorem srt_eq {D D' : SD} (h : srtD D) (e : sC D' = sC D) (e2 : sL D' = sL D) : srtD D' := fun z z0 z4 i j i0 ij j1 => by
  rw [e] at j1
  rw [e2]
  exact h z z0 z4 i j i0 ij j1
theorem srt_unband {D : SD} (h : srtD D) {z i : Int} (i0 : 0 ≤ i) : srtD (wC D (updZ (sC D) z (sC D z - 1)) (bclose (sL D) z i (sC D z - 1)) (bclose (sQ D) z i (sC D z - 1))) := fun y y0 y4 a b a0 ab b1 => by
  have b1 : b < updZ (sC D) z (sC D z - 1) y := b1
  show bclose (sL D) z i (sC D z - 1) y a < bclose (sL D) z i (sC D z - 1) y b
  unfold bclose
  by_cases hy : y = z
  · subst hy
    rw [updZ_eq] at b1
    have hh := h y y0 y4
    by_cases ha : i ≤ a
    · rw [if_pos ⟨rfl, ha, by omega⟩, if_pos ⟨rfl, by omega, b1⟩]
      exact hh (a + 1) (b + 1) (by omega) (by omega) (by omega)
    · rw [if_neg (by omega)]
      by_cases hb : i ≤ b
      · rw [if_pos ⟨rfl, hb, b1⟩]
        exact hh a (b + 1) a0 (by omega) (by omega)
      · rw [if_neg (by omega)]
        exact hh a b a0 ab (by omega)
  · rw [updZ_ne _ _ hy] at b1
    rw [if_neg (fun q => hy q.1), if_neg (fun q => hy q.1)]
    exact h y y0 y4 a b a0 ab b1
theorem srt_band {D : SD} (hD : stOK D) (h : srtD D) {z l p : Int} (z0 : 0 ≤ z) (z4 : z < 4) : srtD (bandD D z l p) := by
  have hC := (hD.1.2.1.1 z z0 z4).1
  have bx := bidx_b (L := sL D) (z := z) (x := l) hC
  unfold bandD
  by_cases hc : bidx (sC D) (sL D) z l < sC D z ∧ sL D z (bidx (sC D) (sL D) z l) = l
  · rw [if_pos hc]
    refine srt_eq h rfl ?_
    show upd2 (sL D) z (bidx (sC D) (sL D) z l) l = sL D
    funext a b
    unfold upd2
    split
    · rename_i q; rw [q.1, q.2, hc.2]
    · rfl
  · rw [if_neg hc]
    obtain ⟨k, ek⟩ : ∃ k, k = bidx (sC D) (sL D) z l := ⟨_, rfl⟩
    have lo : ∀ i, 0 ≤ i → i < k → sL D z i < l := fun i i0 i1 => bidx_lt (C := sC D) i0 (by rw [← ek]; exact i1) hC
    have hi : k < sC D z → l < sL D z k := fun q => by
      have q2 := bidx_ge (C := sC D) (L := sL D) (z := z) (x := l) hC (by rw [← ek]; exact q)
      rw [← ek] at q2 hc
      have q3 : sL D z k ≠ l := fun e => hc ⟨q, e⟩
      omega
    rw [← ek] at bx ⊢
    have hz := h z z0 z4
    have hi2 : ∀ i, k ≤ i → i < sC D z → l < sL D z i := fun i a b => by
      have q := hi (by omega)
      by_cases e : i = k
      · rw [e]; exact q
      · have := hz k i (by omega) (by omega) b; omega
    intro y y0 y4 a b a0 ab b1
    have b1 : b < updZ (sC D) z (sC D z + 1) y := b1
    show upd2 (bopen (sC D z) (sL D) z (sC D z - k)) z k l y a < upd2 (bopen (sC D z) (sL D) z (sC D z - k)) z k l y b
    by_cases hy : y = z
    · subst hy
      rw [updZ_eq] at b1
      have ev : ∀ j, 0 ≤ j → j < sC D y + 1 → upd2 (bopen (sC D y) (sL D) y (sC D y - k)) y k l y j = if j = k then l else if k < j then sL D y (j - 1) else sL D y j := fun j j0 j1 => by
        by_cases e : j = k
        · rw [if_pos e, e, upd2_eq]
        · rw [if_neg e, upd2_nc _ e]
          unfold bopen
          by_cases e2 : k < j
          · rw [if_pos e2, if_pos ⟨rfl, by omega, by omega⟩]
          · rw [if_neg e2, if_neg (by omega)]
      rw [ev a a0 (by omega), ev b (by omega) b1]
      by_cases ha : a = k
      · rw [if_pos ha, if_neg (by omega), if_pos (by omega)]
        exact hi2 (b - 1) (by omega) (by omega)
      · rw [if_neg ha]
        by_cases ha2 : k < a
        · rw [if_pos ha2, if_neg (by omega), if_pos (by omega)]
          exact hz (a - 1) (b - 1) (by omega) (by omega) (by omega)
        · rw [if_neg ha2]
          have h1 := lo a a0 (by omega)
          by_cases hb : b = k
          · rw [if_pos hb]; exact h1
          · rw [if_neg hb]
            by_cases hb2 : k < b
            · rw [if_pos hb2]
              have := hi2 (b - 1) (by omega) (by omega); omega
            · rw [if_neg hb2]
              exact hz a b a0 ab (by omega)
    · rw [updZ_ne _ _ hy] at b1
      rw [upd2_nr _ hy, upd2_nr _ hy]
      unfold bopen
      rw [if_neg (fun q => hy q.1), if_neg (fun q => hy q.1)]
      exact h y y0 y4 a b a0 ab b1
