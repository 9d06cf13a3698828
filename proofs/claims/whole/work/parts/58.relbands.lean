/-! ===== the relation through acts: what stays in range; the bands ===== -/
theorem scF_i {F : Int → Int} : scF F ↔ ∀ j, 0 ≤ j → j < 8 → loS j.toNat ≤ F j ∧ F j ≤ hiS j.toNat := by
  constructor
  · intro h j j0 j8
    obtain ⟨⟨h0, h1, h2, h3⟩, ⟨h4, h5, h6, h7⟩⟩ := h
    rcases (show j = 0 ∨ j = 1 ∨ j = 2 ∨ j = 3 ∨ j = 4 ∨ j = 5 ∨ j = 6 ∨ j = 7 by omega) with e | e | e | e | e | e | e | e <;> subst e
    · exact h0
    · exact h1
    · exact h2
    · exact h3
    · exact h4
    · exact h5
    · exact h6
    · exact h7
  · intro h
    exact ⟨⟨h 0 (by decide) (by decide), h 1 (by decide) (by decide), h 2 (by decide) (by decide), h 3 (by decide) (by decide)⟩, ⟨h 4 (by decide) (by decide), h 5 (by decide) (by decide), h 6 (by decide) (by decide), h 7 (by decide) (by decide)⟩⟩
theorem scF_up {F : Int → Int} {i x : Int} (h : scF F) (hx : setOK i x) : scF (updZ F i x) := by
  rw [scF_i] at h ⊢
  intro j j0 j8
  unfold updZ
  by_cases e : j = i
  · rw [if_pos e, e]; exact hx.2
  · rw [if_neg e]; exact h j j0 j8
theorem mV.ok {D : SD} {V : Int → Int} {s0 : Int → rdS} (h : mV D V s0) (hD : stOK D) (hv : vOK V) : mOK V := by
  obtain ⟨⟨a8, a9, a10, a11, a12, a13⟩, -⟩ := h.sc
  obtain ⟨⟨g0, g1, g2, g3⟩, ⟨g4, g5, g6⟩, -⟩ := hD.1.1.2
  obtain ⟨k3, k4, k5⟩ := hD.2.2.2.2
  refine ⟨?_, ?_, hv.1⟩
  · rw [scF_i]
    intro j j0 j8
    rw [h.se j j0 j8]
    exact (scF_i.mp hD.1.1.1) j j0 j8
  · rw [a8, a9, a10, a11, a12, a13]
    exact ⟨g0, g4, g2, ⟨k3, k4⟩, ⟨g5.1, k5⟩, g1⟩
theorem stOK_sc {D : SD} (h : stOK D) {f g : Int → Int} (hf : scF f) (hg : scG g) (h3 : 0 ≤ g 3 ∧ g 3 ≤ 100000 ∧ g 5 ≤ 2) : stOK (f, g, D.2.2) := ⟨⟨⟨hf, hg⟩, h.1.2⟩, h.2.1, h.2.2.1, h.2.2.2.1, h3⟩
theorem stOK_set {D : SD} (h : stOK D) {i x : Int} (hx : setOK i x) : stOK (wF D (updZ (sF D) i x)) := stOK_sc h (scF_up h.1.1.1 hx) h.1.1.2 h.2.2.2.2
theorem stOK_load {D : SD} (h : stOK D) {x : Int} (x0 : 0 ≤ x) (x1 : x ≤ 100000) : stOK (wG D (scLoad (sG D) x)) := by
  obtain ⟨⟨g0, g1, g2, g3⟩, ⟨g4, g5, g6⟩, g7⟩ := h.1.1.2
  exact stOK_sc h h.1.1.1 ⟨⟨⟨x0, x1⟩, g1, g2, g3⟩, ⟨g4, g5, ⟨Int.le_refl 0, by show (0 : Int) ≤ 3; decide⟩⟩, g7⟩ h.2.2.2.2
theorem stOK_zero {D : SD} (h : stOK D) : stOK (wG D (updZ (updZ (sG D) 2 (scRaw (sF D) (sG D))) 3 0)) := by
  have hb := scRaw_b h.1.1.1 h.1.1.2
  obtain ⟨⟨g0, g1, g2, g3⟩, ⟨g4, g5, g6⟩, g7⟩ := h.1.1.2
  exact stOK_sc h h.1.1.1 ⟨⟨g0, g1, ⟨show -2200000 ≤ scRaw (sF D) (sG D) by omega, show scRaw (sF D) (sG D) ≤ 2200000 by omega⟩, ⟨by show (-5000000 : Int) ≤ 0; decide, by show (0 : Int) ≤ 5000000; decide⟩⟩, ⟨g4, g5, g6⟩, g7⟩ ⟨Int.le_refl 0, by show (0 : Int) ≤ 100000; decide, h.2.2.2.2.2.2⟩
theorem stOK_tare {D : SD} (h : stOK D) (ho : scOver (sF D) (sG D) = false) (h0 : 0 ≤ scGross (sF D) (sG D)) : stOK (wG D (updZ (sG D) 3 (scGross (sF D) (sG D)))) := by
  have hb := scGross_b h.1.1.1 h.1.1.2
  have hov := of_decide_eq_false ho
  obtain ⟨⟨-, -, f2, f3⟩, -⟩ := h.1.1.1
  obtain ⟨⟨g0, g1, g2, g3⟩, ⟨g4, g5, g6⟩, g7⟩ := h.1.1.2
  have hu : scGross (sF D) (sG D) ≤ 100000 := by omega
  exact stOK_sc h h.1.1.1 ⟨⟨g0, g1, g2, ⟨show -5000000 ≤ scGross (sF D) (sG D) by omega, show scGross (sF D) (sG D) ≤ 5000000 by omega⟩⟩, ⟨g4, g5, g6⟩, g7⟩ ⟨h0, hu, h.2.2.2.2.2.2⟩
theorem tkN_3 (F g : Int → Int) : ∀ n : Nat, tkN F g n 3 = g 3
  | 0 => rfl
  | n + 1 => by
    show scPass F (tkN F g n) 3 = _
    rw [← tkN_3 F g n]
    show scTrack F (scPut (scStep F (tkN F g n)) (scRaw F (scStep F (tkN F g n)))) 3 = _
    unfold scTrack
    split
    · rfl
    · rfl
theorem stOK_tick {D : SD} (h : stOK D) (n : Nat) (hn : sG D 1 + n ≤ 100000) : stOK (wG D (tkN (sF D) (sG D) n)) := by
  obtain ⟨h1, h2, h3⟩ := tkN_ok h.1.1.1 h.1.1.2 h.2.2.2.2.2.2 n hn
  exact stOK_sc h h.1.1.1 h1 ⟨by rw [tkN_3]; exact h.2.2.2.2.1, by rw [tkN_3]; exact h.2.2.2.2.2.1, h2⟩
theorem vTxt_c {V V' : Int → Int} (h : vTxt V) (hV : ∀ j, 80 ≤ j → j < 568 → V' j = V j) : vTxt V' := fun j a b => by
  rw [hV j a b]
  exact h j a b
theorem rgV_c {V V' : Int → Int} (h : rgV V) (hV : ∀ j, 13 ≤ j → j < 18 → V' j = V j) : rgV V' := by
  unfold rgV at h ⊢
  rw [hV 13 (by decide) (by decide), hV 14 (by decide) (by decide), hV 15 (by decide) (by decide), hV 16 (by decide) (by decide), hV 17 (by decide) (by decide)]
  exact h
theorem vOK_up {V : Int → Int} {i x : Int} (h : vOK V) (hi : i < 13 ∨ (18 ≤ i ∧ i < 80) ∨ 568 ≤ i) (hx : -1000000000000 ≤ x ∧ x ≤ 1000000000000) : vOK (updZ V i x) :=
  ⟨rgV_c h.1 (fun j a b => updZ_ne _ _ (by omega)), vLim_up h.2.1 hx, vTxt_c h.2.2 (fun j a b => updZ_ne _ _ (by omega))⟩
theorem vOK_load {V : Int → Int} (h : vOK V) (h13 : 0 ≤ V 13) {x : Int} (x0 : 0 ≤ x) (x1 : x ≤ 100000) : vOK (updZ (updZ V 8 x) 17 0) := by
  have h1 : vOK (updZ V 8 x) := vOK_up h (Or.inl (by decide)) ⟨by omega, by omega⟩
  obtain ⟨⟨a, b, c, d⟩, e, f⟩ := h1
  exact ⟨⟨a, b, c, ⟨Int.le_refl 0, h13⟩⟩, vLim_up e ⟨by decide, by decide⟩, vTxt_c f (fun j a b => updZ_ne _ _ (by omega))⟩
theorem tik_lo (V : Int → Int) {j : Int} (h : j < 8 ∨ 18 ≤ j) : ∀ n : Nat, tikV V n j = V j
  | 0 => rfl
  | n + 1 => (pas_lo _ h).trans (tik_lo V h n)
theorem vOK_tick {V : Int → Int} (h : vOK V) (hm : mOK V) (n : Nat) (hn : V 13 + n ≤ 100000) : vOK (tikV V n) := by
  obtain ⟨⟨hF, ⟨a8, a9, a10, a11, a12, a13⟩, hr⟩, -⟩ := mOK_tik hm n hn
  refine ⟨hr, fun j => ?_, vTxt_c h.2.2 (fun j a b => tik_lo V (Or.inr (by omega)) n)⟩
  by_cases hj : j < 8 ∨ 18 ≤ j
  · rw [tik_lo V hj]; exact h.2.1 j
  · obtain ⟨r14, r15, r16, r17⟩ := hr
    rcases (show j = 8 ∨ j = 9 ∨ j = 10 ∨ j = 11 ∨ j = 12 ∨ j = 13 ∨ j = 14 ∨ j = 15 ∨ j = 16 ∨ j = 17 by omega) with e | e | e | e | e | e | e | e | e | e <;> subst e <;> omega
/-! bands -/
theorem mV_bn {D D' : SD} {V V' : Int → Int} {s0 : Int → rdS} (hD : stOK D) (h : mV D V s0) (hV : ∀ j, j < 24 ∨ 80 ≤ j → V' j = V j) (h0 : D'.1 = D.1) (h1 : D'.2.1 = D.2.1) (h2 : D'.2.2.2.2.2.2 = D.2.2.2.2.2.2) (hb : bnR D' V') : mV D' V' s0 := by
  have e0 : sF D' = sF D := h0
  have e1 : sG D' = sG D := h1
  refine mV.mk (fun i a b => by rw [hV i (by omega), e0]; exact h.se i a b) hb (rlR_c hD.1.2.2.1.1.2 (fun j a b => hV j (by omega)) (hV 18 (by decide)) (congrArg (fun x => x.1) h2) (congrArg (fun x => x.2.1) h2) h.rl) ?_ (lsR_c hD.2.1.1.2 hD.2.2.1.1.2 (fun j a b => hV j (by omega)) (hV 19 (by decide)) (hV 20 (by decide)) (hV 21 (by decide)) (congrArg (fun x => x.2.2) h2) h.ls)
  rw [e0, e1]
  exact scR_c (fun j a b => hV j (by omega)) h.sc
theorem mV_extra {D : SD} {V : Int → Int} {s0 : Int → rdS} (hD : stOK D) (h : mV D V s0) {z x : Int} (z0 : 0 ≤ z) (z3 : z ≤ 3) : mV (wE D (updZ (sE D) z x)) (updZ V (24 + 14 * z + 1) x) s0 := by
  refine mV_bn hD h (fun j hj => updZ_ne _ _ (by omega)) rfl rfl rfl (fun y y0 y4 => ?_)
  have hc := hD.1.2.1.1 y y0 y4
  obtain ⟨a, b, c⟩ := h.bn y y0 y4
  refine ⟨by rw [updZ_ne _ _ (by omega)]; exact a, ?_, fun i i0 i1 => ?_⟩
  · show updZ V (24 + 14 * z + 1) x (24 + 14 * y + 1) = updZ (sE D) z x y
    by_cases hy : y = z
    · rw [hy, updZ_eq, updZ_eq]
    · rw [updZ_ne _ _ (by omega), updZ_ne _ _ hy]; exact b
  · have i1 : i < sC D y := i1
    rw [updZ_ne _ _ (by omega), updZ_ne _ _ (by omega)]
    exact c i i0 i1
theorem mV_unband {D : SD} {V : Int → Int} {s0 : Int → rdS} (hD : stOK D) (h : mV D V s0) {z i : Int} (z0 : 0 ≤ z) (z4 : z < 4) (i0 : 0 ≤ i) (i1 : i < sC D z) : mV (wC D (updZ (sC D) z (sC D z - 1)) (bclose (sL D) z i (sC D z - 1)) (bclose (sQ D) z i (sC D z - 1))) (mcl (updZ V (24 + 14 * z) (V (24 + 14 * z) - 1)) z i (V (24 + 14 * z) - 1)) s0 := by
  have hn := hD.1.2.1.1 z z0 z4
  have hz := (h.bn z z0 z4).1
  rw [hz]
  refine mV_bn hD h (fun j hj => ?_) rfl rfl rfl (fun y y0 y4 => ?_)
  · unfold mcl
    rw [if_neg (by omega), updZ_ne _ _ (by omega)]
  obtain ⟨a, b, c⟩ := h.bn y y0 y4
  have hy6 := hD.1.2.1.1 y y0 y4
  show mcl (updZ V (24 + 14 * z) (sC D z - 1)) z i (sC D z - 1) (24 + 14 * y) = updZ (sC D) z (sC D z - 1) y ∧ mcl (updZ V (24 + 14 * z) (sC D z - 1)) z i (sC D z - 1) (24 + 14 * y + 1) = sE D y ∧ ∀ k, 0 ≤ k → k < updZ (sC D) z (sC D z - 1) y → mcl (updZ V (24 + 14 * z) (sC D z - 1)) z i (sC D z - 1) (24 + 14 * y + 2 + 2 * k) = bclose (sL D) z i (sC D z - 1) y k ∧ mcl (updZ V (24 + 14 * z) (sC D z - 1)) z i (sC D z - 1) (24 + 14 * y + 2 + 2 * k + 1) = bclose (sQ D) z i (sC D z - 1) y k
  unfold mcl bclose
  rw [if_neg (by omega), if_neg (by omega), updZ_ne (j := 24 + 14 * y + 1) _ _ (by omega)]
  by_cases hy : y = z
  · subst hy
    rw [updZ_eq, updZ_eq]
    refine ⟨rfl, b, fun k k0 k1 => ?_⟩
    by_cases hk : i ≤ k
    · rw [if_pos (by omega), if_pos (by omega), if_pos (by omega), if_pos (by omega), updZ_ne _ _ (by omega), updZ_ne _ _ (by omega), show 24 + 14 * y + 2 + 2 * k + 2 = 24 + 14 * y + 2 + 2 * (k + 1) by omega, show 24 + 14 * y + 2 + 2 * k + 1 + 2 = 24 + 14 * y + 2 + 2 * (k + 1) + 1 by omega]
      exact c (k + 1) (by omega) (by omega)
    · rw [if_neg (by omega), if_neg (by omega), if_neg (by omega), if_neg (by omega), updZ_ne _ _ (by omega), updZ_ne _ _ (by omega)]
      exact c k k0 (by omega)
  · rw [updZ_ne _ _ (by omega), updZ_ne _ _ hy]
    refine ⟨a, b, fun k k0 k1 => ?_⟩
    rw [if_neg (by omega), if_neg (by omega), if_neg (by omega), if_neg (by omega), updZ_ne _ _ (by omega), updZ_ne _ _ (by omega)]
    exact c k k0 k1
theorem mV_bandO {D : SD} {V : Int → Int} {s0 : Int → rdS} (hD : stOK D) (h : mV D V s0) {z k l p : Int} (z0 : 0 ≤ z) (z4 : z < 4) (k0 : 0 ≤ k) (k1 : k < sC D z) : mV (wC D (sC D) (upd2 (sL D) z k l) (upd2 (sQ D) z k p)) (updZ (updZ V (24 + 14 * z + 2 + 2 * k) l) (24 + 14 * z + 2 + 2 * k + 1) p) s0 := by
  have hn := hD.1.2.1.1 z z0 z4
  refine mV_bn hD h (fun j hj => by rw [updZ_ne _ _ (by omega), updZ_ne _ _ (by omega)]) rfl rfl rfl (fun y y0 y4 => ?_)
  obtain ⟨a, b, c⟩ := h.bn y y0 y4
  have hy6 := hD.1.2.1.1 y y0 y4
  refine ⟨by rw [updZ_ne _ _ (by omega), updZ_ne _ _ (by omega)]; exact a, by rw [updZ_ne _ _ (by omega), updZ_ne _ _ (by omega)]; exact b, fun i i0 i1 => ?_⟩
  have i1 : i < sC D y := i1
  show _ = upd2 (sL D) z k l y i ∧ _ = upd2 (sQ D) z k p y i
  by_cases hi : y = z ∧ i = k
  · rw [hi.1, hi.2, upd2_eq, upd2_eq, updZ_ne _ _ (by omega), updZ_eq, updZ_eq]
    exact ⟨rfl, rfl⟩
  · unfold upd2
    rw [if_neg hi, if_neg hi, updZ_ne _ _ (by omega), updZ_ne _ _ (by omega), updZ_ne _ _ (by omega), updZ_ne _ _ (by omega)]
    exact c i i0 i1
theorem mV_bandN {D : SD} {V : Int → Int} {s0 : Int → rdS} (hD : stOK D) (h : mV D V s0) {z k l p : Int} (z0 : 0 ≤ z) (z4 : z < 4) (k0 : 0 ≤ k) (k1 : k ≤ sC D z) (h6 : sC D z < 6) : mV (wC D (updZ (sC D) z (sC D z + 1)) (upd2 (bopen (sC D z) (sL D) z (sC D z - k)) z k l) (upd2 (bopen (sC D z) (sQ D) z (sC D z - k)) z k p)) (updZ (updZ (updZ (mop V z (sC D z) (sC D z - k)) (24 + 14 * z) (sC D z + 1)) (24 + 14 * z + 2 + 2 * k) l) (24 + 14 * z + 2 + 2 * k + 1) p) s0 := by
  have hn := hD.1.2.1.1 z z0 z4
  refine mV_bn hD h (fun j hj => ?_) rfl rfl rfl (fun y y0 y4 => ?_)
  · rw [updZ_ne _ _ (by omega), updZ_ne _ _ (by omega), updZ_ne _ _ (by omega)]
    unfold mop
    rw [if_neg (by omega)]
  obtain ⟨a, b, c⟩ := h.bn y y0 y4
  have hy6 := hD.1.2.1.1 y y0 y4
  have em : ∀ j, mop V z (sC D z) (sC D z - k) j = if 24 + 14 * z + 2 + 2 * (k + 1) ≤ j ∧ j ≤ 24 + 14 * z + 2 + 2 * sC D z + 1 then V (j - 2) else V j := fun j => by
    unfold mop
    rw [show sC D z - (sC D z - k) + 1 = k + 1 by omega]
  refine ⟨?_, ?_, fun i i0 i1 => ?_⟩
  · show _ = updZ (sC D) z (sC D z + 1) y
    rw [updZ_ne _ _ (by omega), updZ_ne _ _ (by omega)]
    by_cases hy : y = z
    · rw [hy, updZ_eq, updZ_eq]
    · rw [updZ_ne _ _ (by omega), updZ_ne _ _ hy, em, if_neg (by omega)]; exact a
  · rw [updZ_ne _ _ (by omega), updZ_ne _ _ (by omega), updZ_ne _ _ (by omega), em, if_neg (by omega)]; exact b
  · have i1 : i < updZ (sC D) z (sC D z + 1) y := i1
    show _ = upd2 (bopen (sC D z) (sL D) z (sC D z - k)) z k l y i ∧ _ = upd2 (bopen (sC D z) (sQ D) z (sC D z - k)) z k p y i
    by_cases hy : y = z
    · subst hy
      rw [updZ_eq] at i1
      by_cases hi : i = k
      · subst hi
        rw [upd2_eq, upd2_eq, updZ_ne _ _ (by omega), updZ_eq, updZ_eq]
        exact ⟨rfl, rfl⟩
      · rw [upd2_nc _ hi, upd2_nc _ hi, updZ_ne _ _ (by omega), updZ_ne _ _ (by omega), updZ_ne _ _ (by omega), updZ_ne _ _ (by omega), updZ_ne _ _ (by omega), updZ_ne _ _ (by omega), em, em]
        unfold bopen
        by_cases hk : k < i
        · rw [if_pos (by omega), if_pos (by omega), if_pos (by omega), if_pos (by omega), show 24 + 14 * y + 2 + 2 * i - 2 = 24 + 14 * y + 2 + 2 * (i - 1) by omega, show 24 + 14 * y + 2 + 2 * i + 1 - 2 = 24 + 14 * y + 2 + 2 * (i - 1) + 1 by omega]
          exact c (i - 1) (by omega) (by omega)
        · rw [if_neg (by omega), if_neg (by omega), if_neg (by omega), if_neg (by omega)]
          exact c i i0 (by omega)
    · rw [updZ_ne _ _ hy] at i1
      rw [upd2_nr _ hy, upd2_nr _ hy, updZ_ne _ _ (by omega), updZ_ne _ _ (by omega), updZ_ne _ _ (by omega), updZ_ne _ _ (by omega), updZ_ne _ _ (by omega), updZ_ne _ _ (by omega), em, em, if_neg (by omega), if_neg (by omega)]
      unfold bopen
      rw [if_neg (fun q => hy q.1), if_neg (fun q => hy q.1)]
      exact c i i0 i1
theorem mV_band {D : SD} {V : Int → Int} {s0 : Int → rdS} (hD : stOK D) (h : mV D V s0) {z l p : Int} (z0 : 0 ≤ z) (z4 : z < 4) (h6 : (mbx V z l < V (24 + 14 * z) ∧ V (24 + 14 * z + 2 + 2 * mbx V z l) = l) ∨ V (24 + 14 * z) < 6) : mV (bandD D z l p) (if mbx V z l < V (24 + 14 * z) ∧ V (24 + 14 * z + 2 + 2 * mbx V z l) = l then mbOld V z l p else mbNew V z l p) s0 := by
  have hm := mbx_R (x := l) h.1 hD.1.2.1.1 z0 z4
  have hx := bidx_b (L := sL D) (z := z) (x := l) (hD.1.2.1.1 z z0 z4).1
  obtain ⟨a, b, c⟩ := h.bn z z0 z4
  unfold bandD mbOld mbNew
  rw [hm, a] at h6 ⊢
  by_cases hc : bidx (sC D) (sL D) z l < sC D z ∧ sL D z (bidx (sC D) (sL D) z l) = l
  · rw [if_pos hc, if_pos ⟨hc.1, by rw [(c _ hx.1 hc.1).1]; exact hc.2⟩]
    exact mV_bandO hD h z0 z4 hx.1 hc.1
  · have hc2 : ¬ (bidx (sC D) (sL D) z l < sC D z ∧ V (24 + 14 * z + 2 + 2 * bidx (sC D) (sL D) z l) = l) := fun q => hc ⟨q.1, by rw [← (c _ hx.1 q.1).1]; exact q.2⟩
    rw [if_neg hc, if_neg hc2]
    exact mV_bandN hD h z0 z4 hx.1 hx.2 (h6.elim (fun q => absurd q hc2) id)
/-- what the class asks of a band, and what the reference asks, is one -/
theorem band_R {D : SD} {V : Int → Int} {s0 : Int → rdS} (hD : stOK D) (h : mV D V s0) {z l : Int} (z0 : 0 ≤ z) (z4 : z < 4) : mbx V z l = bidx (sC D) (sL D) z l ∧ V (24 + 14 * z) = sC D z ∧ ((mbx V z l < V (24 + 14 * z) ∧ V (24 + 14 * z + 2 + 2 * mbx V z l) = l) ↔ (bidx (sC D) (sL D) z l < sC D z ∧ sL D z (bidx (sC D) (sL D) z l) = l)) := by
  have hm := mbx_R (x := l) h.1 hD.1.2.1.1 z0 z4
  have hx := bidx_b (L := sL D) (z := z) (x := l) (hD.1.2.1.1 z z0 z4).1
  obtain ⟨a, b, c⟩ := h.bn z z0 z4
  refine ⟨hm, a, ?_⟩
  rw [hm, a]
  constructor
  · exact fun q => ⟨q.1, by rw [← (c _ hx.1 q.1).1]; exact q.2⟩
  · exact fun q => ⟨q.1, by rw [(c _ hx.1 q.1).1]; exact q.2⟩
theorem stOK_bn {D : SD} (h : stOK D) {c e : Int → Int} {l q : Int → Int → Int} (hb : bdOK c e l q) : stOK (D.1, D.2.1, c, e, l, q, D.2.2.2.2.2.2) := ⟨⟨h.1.1, hb, h.1.2.2⟩, h.2⟩
theorem stOK_extra {D : SD} (h : stOK D) {z x : Int} (x0 : 0 ≤ x) (x1 : x ≤ 10000) : stOK (wE D (updZ (sE D) z x)) := by
  obtain ⟨h1, h2, h3, h4⟩ := h.1.2.1
  refine stOK_bn h ⟨h1, h2, h3, fun y y0 y4 => ⟨?_, (h4 y y0 y4).2⟩⟩
  unfold updZ
  split
  · exact ⟨x0, x1⟩
  · exact (h4 y y0 y4).1
theorem bclose_in {L : Int → Int → Int} {z i c : Int} (h : ∀ a b, inI (L a b)) : ∀ a b, inI (bclose L z i c a b) := fun a b => by
  unfold bclose
  split
  · exact h _ _
  · exact h _ _
theorem stOK_unband {D : SD} (h : stOK D) {z i : Int} (z0 : 0 ≤ z) (z4 : z < 4) (i0 : 0 ≤ i) (i1 : i < sC D z) : stOK (wC D (updZ (sC D) z (sC D z - 1)) (bclose (sL D) z i (sC D z - 1)) (bclose (sQ D) z i (sC D z - 1))) := by
  obtain ⟨h1, h2, h3, h4⟩ := h.1.2.1
  have hz := h1 z z0 z4
  refine stOK_bn h ⟨fun y y0 y4 => ?_, bclose_in h2, bclose_in h3, fun y y0 y4 => ⟨(h4 y y0 y4).1, fun k k0 k1 => ?_⟩⟩
  · unfold updZ
    split
    · omega
    · exact h1 y y0 y4
  · have h5 := (h4 y y0 y4).2
    unfold bclose
    by_cases hy : y = z
    · subst hy
      rw [updZ_eq] at k1
      by_cases hk : i ≤ k
      · rw [if_pos ⟨rfl, hk, k1⟩, if_pos ⟨rfl, hk, k1⟩]; exact h5 (k + 1) (by omega) (by omega)
      · rw [if_neg (by omega), if_neg (by omega)]; exact h5 k k0 (by omega)
    · rw [updZ_ne _ _ hy] at k1
      rw [if_neg (fun q => hy q.1), if_neg (fun q => hy q.1)]; exact h5 k k0 k1
theorem upd2_in {L : Int → Int → Int} {r c x : Int} (h : ∀ a b, inI (L a b)) (hx : inI x) : ∀ a b, inI (upd2 L r c x a b) := fun a b => by
  unfold upd2
  split
  · exact hx
  · exact h _ _
theorem bopen_in {L : Int → Int → Int} {n z c : Int} (h : ∀ a b, inI (L a b)) : ∀ a b, inI (bopen n L z c a b) := fun a b => by
  unfold bopen
  split
  · exact h _ _
  · exact h _ _
theorem stOK_band {D : SD} (h : stOK D) {z l p : Int} (z0 : 0 ≤ z) (z4 : z < 4) (hl : 1 ≤ l ∧ l ≤ 100000) (hp : 0 ≤ p ∧ p ≤ 100000) (h6 : (bidx (sC D) (sL D) z l < sC D z ∧ sL D z (bidx (sC D) (sL D) z l) = l) ∨ sC D z < 6) : stOK (bandD D z l p) := by
  obtain ⟨h1, h2, h3, h4⟩ := h.1.2.1
  have hz := h1 z z0 z4
  have hx := bidx_b (L := sL D) (z := z) (x := l) hz.1
  have hlI : inI l := ⟨by omega, by omega⟩
  have hpI : inI p := ⟨by omega, by omega⟩
  unfold bandD
  by_cases hc : bidx (sC D) (sL D) z l < sC D z ∧ sL D z (bidx (sC D) (sL D) z l) = l
  · rw [if_pos hc]
    refine stOK_bn h ⟨h1, upd2_in h2 hlI, upd2_in h3 hpI, fun y y0 y4 => ⟨(h4 y y0 y4).1, fun k k0 k1 => ?_⟩⟩
    unfold upd2
    by_cases hk : y = z ∧ k = bidx (sC D) (sL D) z l
    · rw [if_pos hk, if_pos hk]; exact ⟨hl, hp⟩
    · rw [if_neg hk, if_neg hk]; exact (h4 y y0 y4).2 k k0 k1
  · rw [if_neg hc]
    have h7 : sC D z < 6 := h6.elim (fun q => absurd q hc) id
    generalize bidx (sC D) (sL D) z l = m at hx
    refine stOK_bn h ⟨fun y y0 y4 => ?_, upd2_in (bopen_in h2) hlI, upd2_in (bopen_in h3) hpI, fun y y0 y4 => ⟨(h4 y y0 y4).1, fun k k0 k1 => ?_⟩⟩
    · unfold updZ
      split
      · omega
      · exact h1 y y0 y4
    · have h5 := (h4 y y0 y4).2
      unfold upd2 bopen
      by_cases hk : y = z ∧ k = m
      · rw [if_pos hk, if_pos hk]; exact ⟨hl, hp⟩
      · rw [if_neg hk, if_neg hk]
        by_cases hy : y = z
        · subst hy
          rw [updZ_eq] at k1
          by_cases hm : m < k
          · rw [if_pos (by omega), if_pos (by omega)]; exact h5 (k - 1) (by omega) (by omega)
          · rw [if_neg (by omega), if_neg (by omega)]; exact h5 k k0 (by omega)
        · rw [updZ_ne _ _ hy] at k1
          rw [if_neg (fun q => hy q.1), if_neg (fun q => hy q.1)]; exact h5 k k0 k1
theorem vOK_m {V V' : Int → Int} (h : vOK V) (hV : ∀ j, j < 24 ∨ 80 ≤ j → V' j = V j) (hm : ∀ j, ∃ i, V' j = V i) : vOK V' := ⟨rgV_c h.1 (fun j a b => hV j (by omega)), fun j => by obtain ⟨i, e⟩ := hm j; rw [e]; exact h.2.1 i, vTxt_c h.2.2 (fun j a b => hV j (by omega))⟩
theorem vOK_unband {V : Int → Int} (h : vOK V) {z i : Int} (z0 : 0 ≤ z) (z4 : z < 4) (i0 : 0 ≤ i) (hn : 0 ≤ V (24 + 14 * z) ∧ V (24 + 14 * z) ≤ 6) : vOK (mcl (updZ V (24 + 14 * z) (V (24 + 14 * z) - 1)) z i (V (24 + 14 * z) - 1)) := by
  refine vOK_m (V := updZ V (24 + 14 * z) (V (24 + 14 * z) - 1)) (vOK_up h (Or.inr (Or.inl ⟨by omega, by omega⟩)) ⟨by omega, by omega⟩) (fun j hj => ?_) (fun j => ?_)
  · unfold mcl
    rw [if_neg (by omega)]
  · unfold mcl
    split
    · exact ⟨_, rfl⟩
    · exact ⟨_, rfl⟩
theorem vOK_band {V : Int → Int} (h : vOK V) {z l p : Int} (z0 : 0 ≤ z) (z4 : z < 4) (hl : 1 ≤ l ∧ l ≤ 100000) (hp : 0 ≤ p ∧ p ≤ 100000) (hn : 0 ≤ V (24 + 14 * z) ∧ V (24 + 14 * z) ≤ 6) : (V (24 + 14 * z) < 6 → vOK (mbNew V z l p)) ∧ (mbx V z l < V (24 + 14 * z) → vOK (mbOld V z l p)) := by
  have hm := mbx_b (V := V) (z := z) (x := l) hn.1
  constructor
  · intro h6
    unfold mbNew
    refine vOK_up (vOK_up (vOK_up (vOK_m h (fun j hj => ?_) (fun j => ?_)) (Or.inr (Or.inl ⟨by omega, by omega⟩)) ⟨by omega, by omega⟩) (Or.inr (Or.inl ⟨by omega, by omega⟩)) ⟨by omega, by omega⟩) (Or.inr (Or.inl ⟨by omega, by omega⟩)) ⟨by omega, by omega⟩
    · unfold mop
      rw [if_neg (by omega)]
    · unfold mop
      split
      · exact ⟨_, rfl⟩
      · exact ⟨_, rfl⟩
  · intro h6
    unfold mbOld
    exact vOK_up (vOK_up h (Or.inr (Or.inl ⟨by omega, by omega⟩)) ⟨by omega, by omega⟩) (Or.inr (Or.inl ⟨by omega, by omega⟩)) ⟨by omega, by omega⟩
