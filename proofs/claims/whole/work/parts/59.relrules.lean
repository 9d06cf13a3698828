/-! ===== the relation through acts: the rules ===== -/
def nbK (a b : Int) : Prop := 0 ≤ a ∧ (b ≤ 0 → a < 1) ∧ (b ≤ 1 → a < 10) ∧ (b ≤ 2 → a < 100) ∧ (b ≤ 3 → a < 1000) ∧ (b ≤ 4 → a < 10000) ∧ a < 100000
def tkI (s : rdS) : Prop := (∀ i, inI (s.2 i)) ∧ (0 ≤ s.1 3 ∧ s.1 3 ≤ 5) ∧ (-1 ≤ s.1 6 ∧ s.1 6 ≤ 5) ∧ (-1 ≤ s.1 7 ∧ s.1 7 ≤ 2) ∧ (s.1 4 = 2 ∨ s.1 4 = 5 → nbK (s.1 2) (s.1 3))
theorem tkI_tok {t : Int} {s : rdS} (ht : inI t) (h : tkI s) : tkI (tokS t s) := by
  unfold tokS
  split
  · obtain ⟨h1, h2⟩ := h
    refine ⟨fun i => ?_, h2⟩
    show inI (updZ s.2 (s.1 0) t i)
    unfold updZ
    split
    · exact ht
    · exact h1 i
  · exact h
theorem tkI_link {c : Int} {s : rdS} (hc : -1000 ≤ c ∧ c ≤ 1000) (h : tkI s) : tkI (rdLink c s).2 := by
  have hI : inI (-c) := ⟨by omega, by omega⟩
  obtain ⟨h1, h3, h6, h7, h4⟩ := h
  unfold rdLink
  split
  · exact ⟨h1, h3, h6, h7, fun q => absurd q (by show ¬ ((4 : Int) = 2 ∨ (4 : Int) = 5); decide)⟩
  · split
    · exact tkI_tok (s := (updZ (updZ s.1 5 (s.1 5 - 1)) 4 3, s.2)) hI ⟨h1, h3, h6, h7, fun q => absurd q (by show ¬ ((3 : Int) = 2 ∨ (3 : Int) = 5); decide)⟩
    · split
      · exact tkI_tok (s := (updZ s.1 4 0, s.2)) hI ⟨h1, h3, h6, h7, fun q => absurd q (by show ¬ ((0 : Int) = 2 ∨ (0 : Int) = 5); decide)⟩
      · exact ⟨h1, h3, h6, h7, h4⟩
theorem tkI_dig {c : Int} {s : rdS} (h : tkI s) : tkI (rdDig c s).2 := by
  obtain ⟨h1, h3, h6, h7, h4⟩ := h
  unfold rdDig
  split
  · rename_i hc
    refine ⟨h1, ⟨show 0 ≤ s.1 3 + 1 by omega, show s.1 3 + 1 ≤ 5 by omega⟩, h6, h7, fun q => ?_⟩
    have hn := h4 q
    show nbK (s.1 2 * 10 + c - 48) (s.1 3 + 1)
    unfold nbK at hn ⊢
    omega
  · exact ⟨h1, h3, h6, h7, h4⟩
theorem tkI_all {c : Int} {s : rdS} (hc : -1000 ≤ c ∧ c ≤ 1000) (h : tkI s) : tkI (rdAll c s).2 := by
  have hI : inI (-c) := ⟨by omega, by omega⟩
  have hh := h
  obtain ⟨h1, h3, h6, h7, h4⟩ := h
  unfold rdAll
  split
  · rename_i e0
    unfold rdTerm
    split
    · exact tkI_tok (s := (updZ s.1 5 (s.1 5 + 0), s.2)) hI ⟨h1, h3, h6, h7, h4⟩
    · split
      · exact tkI_tok (s := (updZ s.1 5 (s.1 5 + 1), s.2)) hI ⟨h1, h3, h6, h7, h4⟩
      · exact ⟨h1, h3, letZ_b c, h7, fun q => absurd q (by show ¬ ((1 : Int) = 2 ∨ (1 : Int) = 5); decide)⟩
  · split
    · exact ⟨h1, ⟨Int.le_refl 0, by show (0 : Int) ≤ 5; decide⟩, h6, relZ_b c, fun _ => by show nbK 0 0; unfold nbK; omega⟩
    · split
      · rename_i e2
        split
        · exact tkI_dig hh
        · unfold rdLBN
          split
          · exact hh
          · have hn := h4 (Or.inl e2)
            unfold nbK at hn
            exact tkI_link hc (tkI_tok ⟨by omega, by omega⟩ hh)
      · split
        · exact tkI_link hc hh
        · split
          · exact ⟨h1, ⟨Int.le_refl 0, by show (0 : Int) ≤ 5; decide⟩, h6, h7, fun _ => by show nbK 0 0; unfold nbK; omega⟩
          · exact tkI_dig hh
theorem tkI_go {B : Int → Int} : ∀ (k : Nat) (i : Int) (s : rdS), (∀ j, i ≤ j → j < i + k → -1000 ≤ B j ∧ B j ≤ 1000) → tkI s → tkI (rdGo B k i s).2
  | 0, _, _, _, h => h
  | k + 1, i, s, hB, h => by
    have h1 := tkI_all (hB i (Int.le_refl i) (by omega)) h
    show tkI (if (rdAll (B i) s).1 = true then rdGo B k (i + 1) (rdAll (B i) s).2 else (i, (rdAll (B i) s).2)).2
    split
    · exact tkI_go k (i + 1) _ (fun j a b => hB j (by omega) (by omega)) h1
    · exact h1
theorem tkI_start {ρ T : Int → Int} (hr : rdOK 100 ρ) (hT : ∀ i, inI (T i)) : tkI (rdStart ρ, T) := by
  obtain ⟨-, h3, -, -, h6, h7⟩ := hr
  exact ⟨hT, h3, h6, h7, fun q => absurd q (by show ¬ ((0 : Int) = 2 ∨ (0 : Int) = 5); decide)⟩
theorem stOK_ru {D : SD} (h : stOK D) {n : Int} {R : Int → Int → Int} (hu : ruOK n R) (hi : ∀ i j, inI (R i j)) : stOK (wR D n R) := ⟨⟨h.1.1, h.1.2.1, hu, hi⟩, h.2⟩
theorem stOK_unrule {D : SD} (h : stOK D) (h1 : 1 ≤ snR D) : stOK (wR D (snR D - 1) (sR D)) := by
  obtain ⟨⟨a, b⟩, c⟩ := h.1.2.2
  exact stOK_ru h ⟨⟨by omega, by omega⟩, fun r r0 r1 => b r r0 (by omega)⟩ c
theorem adR_lo {n : Int} {s : rdS} {R : Int → Int → Int} {k c : Int} (h : k ≠ n) : adR n s R c k = R k := by
  funext j
  unfold adR
  rw [if_neg (fun q => h q.1), if_neg (fun q => h q.1), if_neg (fun q => h q.1), if_neg (fun q => h q.1)]
theorem stOK_rule {D : SD} (h : stOK D) {s : rdS} (h8 : snR D < 8) (h0 : 0 ≤ s.1 0 ∧ s.1 0 ≤ 60) (h1 : inI (s.1 1)) (h2 : 0 ≤ s.1 2 ∧ s.1 2 ≤ 99999) (ht : ∀ i, inI (s.2 i)) : stOK (rulD D s) := by
  obtain ⟨⟨a, b⟩, c⟩ := h.1.2.2
  refine stOK_ru h ⟨⟨by omega, by omega⟩, fun r r0 r1 => ?_⟩ (fun i j => ?_)
  · by_cases hr : r = snR D
    · have e0 : adR (snR D) s (sR D) (s.1 0) r 0 = s.1 0 := by unfold adR; rw [if_neg (by omega), if_neg (by omega), if_neg (by omega), if_pos ⟨hr, rfl⟩]
      have e2 : adR (snR D) s (sR D) (s.1 0) r 2 = s.1 2 := by unfold adR; rw [if_neg (by omega), if_pos ⟨hr, rfl⟩]
      rw [e0, e2]
      exact ⟨h0, h2⟩
    · rw [adR_lo hr]
      exact b r r0 (by omega)
  · unfold adR
    split
    · exact ht _
    · split
      · exact ⟨by omega, by omega⟩
      · split
        · exact h1
        · split
          · exact ⟨by omega, by omega⟩
          · exact c i j
theorem mV_unrule {D : SD} {V : Int → Int} {s0 : Int → rdS} (hD : stOK D) (h : mV D V s0) : mV (wR D (snR D - 1) (sR D)) (updZ V 18 (V 18 - 1)) s0 := by
  have hV : ∀ j, j ≠ 18 → updZ V 18 (V 18 - 1) j = V j := fun j hj => updZ_ne _ _ hj
  have hn := hD.1.2.2.1.1
  refine mV.mk (fun i a b => by rw [hV i (by omega)]; exact h.se i a b) (bnR_c hD.1.2.1.1 (fun j a b => hV j (by omega)) rfl rfl rfl rfl h.bn) ⟨?_, fun k a b => ?_⟩ (scR_c (fun j a b => hV j (by omega)) h.sc) (lsR_c hD.2.1.1.2 hD.2.2.1.1.2 (fun j a b => hV j (by omega)) (hV 19 (by decide)) (hV 20 (by decide)) (hV 21 (by decide)) rfl h.ls)
  · rw [updZ_eq, h.rl.1]; rfl
  · have b : k < snR D - 1 := b
    exact ruR_c a (by omega) (fun j c d => hV j (by omega)) rfl (h.rl.2 k a (by omega))
theorem ruV_v {V T : Int → Int} {n : Int} (h18 : 0 ≤ V 18 ∧ V 18 < 8) (hn : 0 ≤ n ∧ n ≤ 60) : ruV V T n 18 = V 18 + 1 ∧ ruV V T n (80 + 61 * V 18) = n ∧ (∀ i, 0 ≤ i → i < n → ruV V T n (80 + 61 * V 18 + 1 + i) = T i) ∧ ∀ j, j ≠ 18 → (j < 80 + 61 * V 18 ∨ 80 + 61 * V 18 + 61 ≤ j) → ruV V T n j = V j := by
  unfold ruV
  refine ⟨updZ_eq _ _ _, ?_, fun i i0 i1 => ?_, fun j h1 h2 => ?_⟩
  · rw [updZ_ne _ _ (by omega)]
    unfold txV
    rw [if_neg (by omega), updZ_eq]
  · rw [updZ_ne _ _ (by omega)]
    unfold txV
    rw [if_pos (by omega)]
    congr 1
    omega
  · rw [updZ_ne _ _ h1]
    unfold txV
    rw [if_neg (by omega), updZ_ne _ _ (by omega)]
theorem mV_rule {D : SD} {V T : Int → Int} {s0 : Int → rdS} {n : Int} {r0 s : rdS} (hD : stOK D) (h : mV D V s0) (h8 : snR D < 8) (hn : 0 ≤ n ∧ n ≤ 60) (hr : r0.1 0 = 0 ∧ r0.1 4 = 0 ∧ r0.1 5 = 0) (hg : rdGo T n.toNat 0 r0 = (n, s)) (hc : s.1 4 = 5 ∧ 0 < s.1 3) : mV (rulD D s) (ruV V T n) (fun k => if k = snR D then r0 else s0 k) := by
  have hnR := hD.1.2.2.1.1
  have h18 : V 18 = snR D := h.rl.1
  obtain ⟨v18, vn, vt, vo⟩ := ruV_v (V := V) (T := T) (n := n) ⟨by omega, by omega⟩ hn
  rw [h18] at v18 vn vt vo
  refine mV.mk (fun i a b => by rw [vo i (by omega) (by omega)]; exact h.se i a b) (bnR_c hD.1.2.1.1 (fun j a b => vo j (by omega) (by omega)) rfl rfl rfl rfl h.bn) ⟨v18, fun k a b => ?_⟩ (scR_c (fun j a b => vo j (by omega) (by omega)) h.sc) (lsR_c hD.2.1.1.2 hD.2.2.1.1.2 (fun j a b => vo j (by omega) (by omega)) (vo 19 (by decide) (by omega)) (vo 20 (by decide) (by omega)) (vo 21 (by decide) (by omega)) rfl h.ls)
  have b : k < snR D + 1 := b
  show ruR (rulD D s) (ruV V T n) k (if k = snR D then r0 else s0 k)
  by_cases hk : k = snR D
  · rw [if_pos hk]
    subst hk
    unfold ruR
    rw [vn]
    refine ⟨hr, hn, s, ?_, hc, ?_, ?_, ?_, fun i i0 i1 => ?_⟩
    · rw [← hg]
      refine rdGo_c _ _ _ (fun j a b => ?_)
      unfold txT
      exact vt j (by omega) (by omega)
    · show adR _ s (sR D) (s.1 0) _ 0 = _; unfold adR; rw [if_neg (by omega), if_neg (by omega), if_neg (by omega), if_pos ⟨rfl, rfl⟩]
    · show adR _ s (sR D) (s.1 0) _ 1 = _; unfold adR; rw [if_neg (by omega), if_neg (by omega), if_pos ⟨rfl, rfl⟩]
    · show adR _ s (sR D) (s.1 0) _ 2 = _; unfold adR; rw [if_neg (by omega), if_pos ⟨rfl, rfl⟩]
    · show adR _ s (sR D) (s.1 0) _ (3 + i) = _; unfold adR; rw [if_pos (by omega), show 3 + i - 3 = i by omega]
  · rw [if_neg hk]
    exact ruR_c a (by omega) (fun j c d => vo j (by omega) (by omega)) (adR_lo hk) (h.rl.2 k a (by omega))
theorem vOK_rule {V T : Int → Int} {n : Int} (h : vOK V) (h18 : 0 ≤ V 18 ∧ V 18 < 8) (hn : 0 ≤ n ∧ n ≤ 60) (hT : ∀ i, inI (T i)) : vOK (ruV V T n) := by
  have key : ∀ j, ruV V T n j = V j ∨ ruV V T n j = n ∨ ruV V T n j = V 18 + 1 ∨ ∃ i, ruV V T n j = T i := by
    intro j
    unfold ruV
    by_cases h1 : j = 18
    · rw [h1, updZ_eq]; exact Or.inr (Or.inr (Or.inl rfl))
    · rw [updZ_ne _ _ h1]
      unfold txV
      by_cases h2 : 80 + 61 * V 18 + 1 ≤ j ∧ j < 80 + 61 * V 18 + 1 + n
      · rw [if_pos h2]; exact Or.inr (Or.inr (Or.inr ⟨_, rfl⟩))
      · rw [if_neg h2]
        by_cases h3 : j = 80 + 61 * V 18
        · rw [h3, updZ_eq]; exact Or.inr (Or.inl rfl)
        · rw [updZ_ne _ _ h3]; exact Or.inl rfl
  obtain ⟨v18, vn, vt, vo⟩ := ruV_v (V := V) (T := T) h18 hn
  refine ⟨rgV_c h.1 (fun j a b => vo j (by omega) (by omega)), fun j => ?_, fun j a b => ?_⟩
  · rcases key j with e | e | e | ⟨i, e⟩ <;> rw [e]
    · exact h.2.1 j
    · omega
    · omega
    · have := hT i; exact ⟨by have := this.1; omega, by have := this.2; omega⟩
  · rcases key j with e | e | e | ⟨i, e⟩ <;> rw [e]
    · exact h.2.2 j a b
    · exact ⟨by omega, by omega⟩
    · exact ⟨by omega, by omega⟩
    · exact hT i
