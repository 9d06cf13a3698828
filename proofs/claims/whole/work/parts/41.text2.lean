/-! ===== the reference's reader of texts: waiting signs, one comparison ===== -/
theorem updZ_2 (f : Int → Int) (k a b : Int) : updZ (updZ f k a) k b = updZ f k b := by
  funext j
  unfold updZ
  split <;> rfl
theorem updZ_i (f : Int → Int) (k : Int) : updZ f k (f k) = f := by
  funext j
  unfold updZ
  split
  · rename_i h; rw [h]
  · rfl
theorem sgV_lt {TX : Int → Int} {n i : Int} (h : sgV TX n i ≠ -1) : i < n := by
  apply Int.not_le.mp
  intro hq
  exact h (if_neg (by omega))
theorem sgV_e {TX : Int → Int} {n i : Int} (h : i < n) : sgV TX n i = TX i := if_pos h
theorem letZ_m1 : letZ (-1) = -1 := rfl
theorem nuB {TX : Int → Int} {n i e : Int} (h0 : 0 ≤ e ∧ e ≤ 5) (h : ∀ j : Int, 0 ≤ j → j < e → i + j < n ∧ 48 ≤ TX (i + j) ∧ TX (i + j) ≤ 57) : -1 ≤ (if e = 0 then -1 else dgX TX i e.toNat) ∧ (if e = 0 then -1 else dgX TX i e.toNat) < 100000 ∧ (0 < e → 0 ≤ (if e = 0 then -1 else dgX TX i e.toNat)) := by
  have hb := dgX_b (TX := TX) (i := i) (n := e.toNat) (fun j a b => (h j a (by omega)).2)
  have hp : (10 : Nat) ^ e.toNat ≤ 10 ^ 5 := Nat.pow_le_pow_right (by decide) (by omega)
  have h5 : (10 : Nat) ^ 5 = 100000 := rfl
  rw [h5] at hp
  split
  · exact ⟨by decide, by decide, fun z => by omega⟩
  · exact ⟨by omega, by omega, fun _ => hb.1⟩
theorem pfW_in {WT TX : Int → Int} {wm i c : Int} (h : ∀ j, inI (WT j)) (h2 : ∀ j, inI (TX j)) : ∀ j, inI (pfW WT TX wm i c j) := by
  intro j
  unfold pfW
  split
  · exact h2 _
  · exact h _
/-! ===== the reader of texts: what waits, what is worth ===== -/
def wl (WT : Int → Int) : Nat → List Int
  | 0 => []
  | n + 1 => WT n :: wl WT n
def nOp : List Int → Int
  | [] => 0
  | c :: l => nOp l + (if c = 40 then 1 else 0)
theorem opN_wl (WT : Int → Int) : ∀ n, opN_ WT n = nOp (wl WT n)
  | 0 => rfl
  | n + 1 => by
    show opN_ WT n + _ = nOp (wl WT n) + _
    rw [opN_wl WT n]
theorem wl_pos (WT : Int → Int) {n : Int} (h : 0 < n) : wl WT n.toNat = WT (n - 1) :: wl WT (n - 1).toNat := by
  rw [show n.toNat = (n - 1).toNat + 1 by omega]
  show WT ((n - 1).toNat : Int) :: _ = _
  rw [show (((n - 1).toNat : Nat) : Int) = n - 1 by omega]
theorem wl_c {W W2 : Int → Int} : ∀ n : Nat, (∀ j : Int, j < n → W j = W2 j) → wl W n = wl W2 n
  | 0, _ => rfl
  | n + 1, h => by
    show W n :: wl W n = W2 n :: wl W2 n
    rw [h n (by omega), wl_c n (fun j hj => h j (by omega))]
theorem wl_up (WT : Int → Int) {n : Int} (x : Int) (h : 0 ≤ n) : wl (updZ WT n x) (n + 1).toNat = x :: wl WT n.toNat := by
  rw [wl_pos _ (by omega), show n + 1 - 1 = n by omega, updZ_eq, wl_c n.toNat (fun j hj => updZ_ne WT x (show j ≠ n by omega))]
abbrev rV : Type := (Int → Bool) → Bool
abbrev rFr : Type := Option rV × Option rV × Nat
def parB : Nat → Bool
  | 0 => false
  | n + 1 => !parB n
def wO (x : Int) : Option rV → List Int
  | none => []
  | some _ => [x]
def fW (f : rFr) : List Int := List.replicate f.2.2 126 ++ (wO 38 f.2.1 ++ wO 124 f.1)
def rwR : List rFr → List Int
  | [] => []
  | g :: r => 40 :: (fW g ++ rwR r)
def oV (b : Bool) (φ : Int → Bool) : Option rV → Bool
  | none => b
  | some v => v φ
def oP (φ : Int → Bool) : Option rV → List Bool
  | none => []
  | some v => [v φ]
def rfE (φ : Int → Bool) (f : rFr) : evF := (oV false φ f.1, oV true φ f.2.1, parB f.2.2)
def fP (φ : Int → Bool) (f : rFr) : List Bool := oP φ f.2.1 ++ oP φ f.1
def plR (φ : Int → Bool) : List rFr → List Bool
  | [] => []
  | g :: r => fP φ g ++ plR φ r
theorem nOp_app : ∀ a b : List Int, nOp (a ++ b) = nOp a + nOp b
  | [], b => by show nOp b = 0 + nOp b; omega
  | c :: a, b => by
    show nOp (a ++ b) + _ = (nOp a + _) + nOp b
    rw [nOp_app a b]
    omega
theorem nOp_rep : ∀ n : Nat, nOp (List.replicate n 126) = 0
  | 0 => rfl
  | n + 1 => by
    show nOp (List.replicate n 126) + 0 = 0
    rw [nOp_rep n]
    rfl
theorem nOp_fW (f : rFr) : nOp (fW f) = 0 := by
  obtain ⟨a, b, n⟩ := f
  unfold fW
  rw [nOp_app, nOp_app, nOp_rep]
  cases a <;> cases b <;> rfl
theorem nOp_wR : ∀ r : List rFr, nOp (rwR r) = r.length
  | [] => rfl
  | g :: r => by
    show nOp (fW g ++ rwR r) + 1 = ((r.length + 1 : Nat) : Int)
    rw [nOp_app, nOp_fW, nOp_wR r]
    omega
/-! marks -/
theorem evA_c2 (φ : Int → Bool) {M M2 : Int → Int} {k : Int} : ∀ n : Nat, (∀ j : Int, 200 * k ≤ j → j < 200 * k + 3 * n → M j = M2 j) → evA φ M k n = evA φ M2 k n
  | 0, _ => rfl
  | n + 1, h => by
    show evM φ _ _ _ (evA φ M k n) = evM φ _ _ _ (evA φ M2 k n)
    rw [evA_c2 φ n (fun j a b => h j a (by omega)), h _ (by omega) (by omega), h (200 * k + 3 * n + 1) (by omega) (by omega), h (200 * k + 3 * n + 2) (by omega) (by omega)]
theorem szA_c {M M2 : Int → Int} {k : Int} : ∀ n : Nat, (∀ j : Int, 200 * k ≤ j → j < 200 * k + 3 * n → M j = M2 j) → szA M k n = szA M2 k n
  | 0, _ => rfl
  | n + 1, h => by
    show szM _ (szA M k n) = szM _ (szA M2 k n)
    rw [szA_c n (fun j a b => h j a (by omega)), h _ (by omega) (by omega)]
theorem putM_lo (M : Int → Int) (k n a b c : Int) {j : Int} (h : j < 200 * k + 3 * n ∨ 200 * k + 3 * n + 2 < j) : putM M k n a b c j = M j := by
  unfold putM
  rw [updZ_ne _ _ (by omega), updZ_ne _ _ (by omega), updZ_ne _ _ (by omega)]
theorem putM_0 (M : Int → Int) (k n a b c : Int) : putM M k n a b c (200 * k + 3 * n) = a := by
  unfold putM
  rw [updZ_ne _ _ (by omega), updZ_ne _ _ (by omega), updZ_eq]
theorem putM_1 (M : Int → Int) (k n a b c : Int) : putM M k n a b c (200 * k + 3 * n + 1) = b := by
  unfold putM
  rw [updZ_ne _ _ (by omega), updZ_eq]
theorem putM_2 (M : Int → Int) (k n a b c : Int) : putM M k n a b c (200 * k + 3 * n + 2) = c := by
  unfold putM
  rw [updZ_eq]
def pf0 : Int → Bool := fun _ => false
def MR (M : Int → Int) (k n : Int) (P : (Int → Bool) → List Bool) : Prop := okA M k n.toNat ∧ (∀ φ, evA φ M k n.toNat = P φ) ∧ szA M k n.toNat = (P pf0).length
theorem evM_len {φ : Int → Bool} {c f n : Int} {p : List Bool} (h : okM c f n p.length) : ((evM φ c f n p).length : Int) = szM c p.length := by
  unfold evM szM
  unfold okM at h
  by_cases h1 : c = 126
  · rw [if_pos h1, if_pos h1]
    cases p with
    | nil => exact absurd h (by simp; omega)
    | cons b p => rfl
  · rw [if_neg h1, if_neg h1]
    by_cases h2 : c = 38
    · rw [if_pos h2, if_pos (Or.inl h2)]
      cases p with
      | nil => exact absurd h (by simp; omega)
      | cons b p =>
        cases p with
        | nil => exact absurd h (by simp; omega)
        | cons b2 p => simp
    · rw [if_neg h2]
      by_cases h3 : c = 124
      · rw [if_pos h3, if_pos (Or.inr h3)]
        cases p with
        | nil => exact absurd h (by simp; omega)
        | cons b p =>
          cases p with
          | nil => exact absurd h (by simp; omega)
          | cons b2 p => simp
      · rw [if_neg h3, if_neg (by omega)]
        simp
theorem MR_put {M : Int → Int} {k n a b c : Int} {P : (Int → Bool) → List Bool} (h0 : 0 ≤ n) (h : MR M k n P) (ho : okM a b c (P pf0).length) : MR (putM M k n a b c) k (n + 1) (fun φ => evM φ a b c (P φ)) := by
  obtain ⟨h1, h2, h3⟩ := h
  have hn : (n + 1).toNat = n.toNat + 1 := by omega
  have hq : ((n.toNat : Nat) : Int) = n := by omega
  have hc : ∀ m : Nat, m ≤ n.toNat → ∀ j : Int, 200 * k ≤ j → j < 200 * k + 3 * m → putM M k n a b c j = M j := fun m hm j _ hj => putM_lo M k n a b c (Or.inl (by omega))
  refine ⟨?_, ?_, ?_⟩
  · intro i hi
    by_cases hin : i < n.toNat
    · rw [szA_c i (hc i (by omega)), putM_lo M k n a b c (Or.inl (by omega)), putM_lo M k n a b c (Or.inl (by omega)), putM_lo M k n a b c (Or.inl (by omega))]
      exact h1 i hin
    · have : i = n.toNat := by omega
      subst this
      rw [hq, szA_c n.toNat (hc _ (Nat.le_refl _)), putM_0, putM_1, putM_2, h3]
      exact ho
  · intro φ
    rw [hn]
    show evM φ _ _ _ (evA φ (putM M k n a b c) k n.toNat) = _
    rw [evA_c2 φ n.toNat (hc _ (Nat.le_refl _)), hq, putM_0, putM_1, putM_2, h2]
  · rw [hn]
    show szM _ (szA (putM M k n a b c) k n.toNat) = _
    rw [szA_c n.toNat (hc _ (Nat.le_refl _)), hq, putM_0, h3, evM_len ho]
def opL (φ : Int → Bool) : List Int → List Bool → List Bool
  | [], p => p
  | c :: l, p => opL φ l (evM φ c 0 0 p)
def okL : List Int → Int → Prop
  | [], _ => True
  | c :: l, s => okM c 0 0 s ∧ okL l (szM c s)
theorem jnK_f (M WT : Int → Int) (k n wm : Int) : ∀ c : Nat, jnK M WT k n wm (c + 1) = jnK (putM M k n (WT (wm - 1)) 0 0) WT k (n + 1) (wm - 1) c
  | 0 => by
    show putM M k (n + ((0 : Nat) : Int)) (WT (wm - ((0 : Nat) : Int) - 1)) 0 0 = putM M k n (WT (wm - 1)) 0 0
    rw [show n + ((0 : Nat) : Int) = n by omega, show wm - ((0 : Nat) : Int) - 1 = wm - 1 by omega]
  | c + 1 => by
    show putM (jnK M WT k n wm (c + 1)) k (n + ((c + 1 : Nat) : Int)) (WT (wm - ((c + 1 : Nat) : Int) - 1)) 0 0 = putM (jnK (putM M k n (WT (wm - 1)) 0 0) WT k (n + 1) (wm - 1) c) k (n + 1 + (c : Int)) (WT (wm - 1 - (c : Int) - 1)) 0 0
    rw [jnK_f M WT k n wm c, show n + ((c + 1 : Nat) : Int) = n + 1 + (c : Int) by omega, show wm - ((c + 1 : Nat) : Int) - 1 = wm - 1 - (c : Int) - 1 by omega]
theorem MR_join {WT : Int → Int} {k : Int} {r : List Int} : ∀ (l : List Int) {M : Int → Int} {n wm : Int} {P : (Int → Bool) → List Bool}, 0 ≤ n → 0 ≤ wm → MR M k n P → wl WT wm.toNat = l ++ r → okL l (P pf0).length → MR (jnK M WT k n wm l.length) k (n + l.length) (fun φ => opL φ l (P φ)) ∧ wl WT (wm - l.length).toNat = r ∧ (l.length : Int) ≤ wm
  | [], M, n, wm, P, hn, hw, h, hl, _ => by
    refine ⟨?_, ?_, hw⟩
    · show MR M k (n + ((0 : Nat) : Int)) P
      rw [show n + ((0 : Nat) : Int) = n by omega]
      exact h
    · show wl WT (wm - ((0 : Nat) : Int)).toNat = r
      rw [show wm - ((0 : Nat) : Int) = wm by omega]
      exact hl
  | c :: l, M, n, wm, P, hn, hw, h, hl, ho => by
    have hp : 0 < wm := by
      apply Int.not_le.mp
      intro hq
      rw [show wm.toNat = 0 by omega] at hl
      exact absurd hl (by intro z; cases z)
    rw [wl_pos WT hp] at hl
    have hx : WT (wm - 1) = c := (List.cons.inj hl).1
    have hl2 := (List.cons.inj hl).2
    have h2 := MR_put (a := c) (b := 0) (c := 0) hn h ho.1
    have h3 := MR_join l (M := putM M k n c 0 0) (n := n + 1) (wm := wm - 1) (by omega) (by omega) h2 hl2 (by rw [evM_len ho.1]; exact ho.2)
    show MR (jnK M WT k n wm (l.length + 1)) k (n + ((l.length + 1 : Nat) : Int)) _ ∧ wl WT (wm - ((l.length + 1 : Nat) : Int)).toNat = r ∧ ((l.length + 1 : Nat) : Int) ≤ wm
    rw [jnK_f, hx, show n + ((l.length + 1 : Nat) : Int) = n + 1 + (l.length : Int) by omega, show wm - ((l.length + 1 : Nat) : Int) = wm - 1 - (l.length : Int) by omega]
    exact ⟨h3.1, h3.2.1, by omega⟩
theorem pop_u {WT : Int → Int} {d : Int} {r : List Int} (hr : ∀ x t, r = x :: t → ¬ popQ x d) : ∀ (l : List Int) {wm c : Int}, 0 ≤ wm → wl WT wm.toNat = l ++ r → (∀ x ∈ l, popQ x d) → (0 ≤ c ∧ c ≤ wm) → (∀ j : Int, 0 ≤ j → j < c → popQ (WT (wm - 1 - j)) d) → (c = wm ∨ ¬ popQ (WT (wm - c - 1)) d) → c = l.length
  | [], wm, c, hw, hl, _, h0, hj, hs => by
    apply Decidable.byContradiction
    intro hc
    have hc0 : 0 < c := by
      have : c ≠ 0 := hc
      omega
    rw [wl_pos WT (by omega)] at hl
    have := hj 0 (Int.le_refl 0) hc0
    rw [show wm - 1 - 0 = wm - 1 by omega] at this
    exact hr _ _ hl.symm this
  | x :: l, wm, c, hw, hl, ha, h0, hj, hs => by
    have hp : 0 < wm := by
      apply Int.not_le.mp
      intro hq
      rw [show wm.toNat = 0 by omega] at hl
      exact absurd hl (by intro z; cases z)
    rw [wl_pos WT hp] at hl
    have hx : WT (wm - 1) = x := (List.cons.inj hl).1
    have hl2 := (List.cons.inj hl).2
    have hc : 0 < c := by
      apply Int.not_le.mp
      intro hq
      have hc0 : c = 0 := by omega
      subst hc0
      rcases hs with hs | hs
      · omega
      · rw [show wm - 0 - 1 = wm - 1 by omega, hx] at hs
        exact hs (ha x (List.mem_cons_self ..))
    have := pop_u hr l (wm := wm - 1) (c := c - 1) (by omega) hl2 (fun y hy => ha y (List.mem_cons_of_mem _ hy)) (by omega) (fun j a b => by
      have := hj (j + 1) (by omega) (by omega)
      rw [show wm - 1 - (j + 1) = wm - 1 - 1 - j by omega] at this
      exact this) (by
      rcases hs with hs | hs
      · exact Or.inl (by omega)
      · rw [show wm - c - 1 = wm - 1 - (c - 1) - 1 by omega] at hs
        exact Or.inr hs)
    show c = ((l.length + 1 : Nat) : Int)
    omega
/-! the class's reader, one sign after another -/
def rnS (TX : Int → Int) (s0 : rdS) : Nat → rdS
  | 0 => s0
  | n + 1 => (rdAll (TX n) (rnS TX s0 n)).2
def Rn (TX : Int → Int) (s0 : rdS) (n : Int) (s : rdS) : Prop := 0 ≤ n ∧ rnS TX s0 n.toNat = s ∧ ∀ i : Int, 0 ≤ i → i < n → (rdAll (TX i) (rnS TX s0 i.toNat)).1 = true
theorem Rn_0 (TX : Int → Int) (s0 : rdS) : Rn TX s0 0 s0 := ⟨Int.le_refl 0, rfl, fun i a b => absurd a (by omega)⟩
theorem Rn_s {TX : Int → Int} {s0 s s2 : rdS} {n : Int} (h : Rn TX s0 n s) (h2 : rdAll (TX n) s = (true, s2)) : Rn TX s0 (n + 1) s2 := by
  obtain ⟨h0, h1, ha⟩ := h
  refine ⟨by omega, ?_, ?_⟩
  · rw [show (n + 1).toNat = n.toNat + 1 by omega]
    show (rdAll (TX (n.toNat : Int)) (rnS TX s0 n.toNat)).2 = s2
    rw [show ((n.toNat : Nat) : Int) = n by omega, h1, h2]
  · intro i a b
    by_cases hi : i < n
    · exact ha i a hi
    · rw [show i = n by omega, h1, h2]
theorem rdGo_r {TX : Int → Int} {s0 : rdS} : ∀ (n : Nat) {ty : Int} {s : rdS}, Rn TX s0 n s → (n : Int) ≤ ty → rdGo TX ty.toNat 0 s0 = rdGo TX (ty - n).toNat n s
  | 0, ty, s, h, hy => by
    rw [show ty - ((0 : Nat) : Int) = ty by omega, ← h.2.1]
    rfl
  | n + 1, ty, s, h, hy => by
    have h1 : Rn TX s0 n (rnS TX s0 n) := ⟨by omega, by rw [show ((n : Nat) : Int).toNat = n by omega], fun i a b => h.2.2 i a (by omega)⟩
    rw [rdGo_r n h1 (by omega), show (ty - (n : Int)).toNat = (ty - ((n + 1 : Nat) : Int)).toNat + 1 by omega]
    have ha := h.2.2 n (by omega) (by omega)
    rw [show ((n : Nat) : Int).toNat = n by omega] at ha
    show (if (rdAll (TX n) (rnS TX s0 n)).1 = true then rdGo TX (ty - ((n + 1 : Nat) : Int)).toNat ((n : Int) + 1) (rdAll (TX n) (rnS TX s0 n)).2 else ((n : Int), (rdAll (TX n) (rnS TX s0 n)).2)) = _
    rw [if_pos ha, ← h.2.1]
    rfl
theorem rdGo_n {TX : Int → Int} {s0 s : rdS} {n ty : Int} (h : Rn TX s0 n s) (hy : n < ty) (hf : (rdAll (TX n) s).1 = false) : (rdGo TX ty.toNat 0 s0).1 = n := by
  have h0 := h.1
  have h1 : Rn TX s0 (n.toNat : Int) s := by rw [show ((n.toNat : Nat) : Int) = n by omega]; exact h
  rw [rdGo_r n.toNat h1 (by omega), show ((n.toNat : Nat) : Int) = n by omega, show (ty - n).toNat = (ty - n - 1).toNat + 1 by omega]
  show (if (rdAll (TX n) s).1 = true then rdGo TX (ty - n - 1).toNat (n + 1) (rdAll (TX n) s).2 else (n, (rdAll (TX n) s).2)).1 = n
  rw [if_neg (by rw [hf]; decide)]
theorem rdGo_e {TX : Int → Int} {s0 s : rdS} {ty : Int} (h : Rn TX s0 ty s) : rdGo TX ty.toNat 0 s0 = (ty, s) := by
  have h0 := h.1
  have h1 : Rn TX s0 (ty.toNat : Int) s := by rw [show ((ty.toNat : Nat) : Int) = ty by omega]; exact h
  rw [rdGo_r ty.toNat h1 (by omega), show ((ty.toNat : Nat) : Int) = ty by omega, show (ty - ty).toNat = 0 by omega]
  rfl
/-- the reader stops at n, and what it read is no rule -/
def rStop (TX : Int → Int) (s0 : rdS) (ty n : Int) : Prop := (rdGo TX ty.toNat 0 s0).1 = n ∧ (n = ty → ¬ ((rdGo TX ty.toNat 0 s0).2.1 4 = 5 ∧ 0 < (rdGo TX ty.toNat 0 s0).2.1 3))
theorem stop_of {TX : Int → Int} {s0 s : rdS} {n ty : Int} (h : Rn TX s0 n s) (hy : n ≤ ty) (hf : n < ty → (rdAll (TX n) s).1 = false) (hs : n = ty → ¬ (s.1 4 = 5 ∧ 0 < s.1 3)) : rStop TX s0 ty n := by
  by_cases hn : n < ty
  · exact ⟨rdGo_n h hn (hf hn), fun z => absurd z (by omega)⟩
  · have e : n = ty := by omega
    subst e
    rw [rStop, rdGo_e h]
    exact ⟨rfl, hs⟩
theorem evN_c (φ : Int → Bool) {T T2 : Int → Int} : ∀ n : Nat, (∀ j : Int, 0 ≤ j → j < n → T j = T2 j) → evN φ T n = evN φ T2 n
  | 0, _ => rfl
  | n + 1, h => by
    show ev1 φ (T n) (evN φ T n) = ev1 φ (T2 n) (evN φ T2 n)
    rw [evN_c φ n (fun j a b => h j a (by omega)), h n (by omega) (by omega)]
theorem tok_e {t : Int} {s : rdS} (h0 : 0 ≤ s.1 0 ∧ s.1 0 < 60) : (∀ φ, evN φ (tokS t s).2 ((tokS t s).1 0).toNat = ev1 φ t (evN φ s.2 (s.1 0).toNat)) ∧ (tokS t s).1 0 = s.1 0 + 1 ∧ ∀ j, j ≠ 0 → (tokS t s).1 j = s.1 j := by
  have e : tokS t s = (updZ s.1 0 (s.1 0 + 1), updZ s.2 (s.1 0) t) := if_pos h0.2
  rw [e]
  refine ⟨?_, (show updZ s.1 0 (s.1 0 + 1) 0 = s.1 0 + 1 from updZ_eq _ _ _), fun j hj => (show updZ s.1 0 (s.1 0 + 1) j = s.1 j from updZ_ne _ _ hj)⟩
  intro φ
  show evN φ (updZ s.2 (s.1 0) t) (updZ s.1 0 (s.1 0 + 1) 0).toNat = _
  rw [updZ_eq, show (s.1 0 + 1).toNat = (s.1 0).toNat + 1 by omega]
  show ev1 φ (updZ s.2 (s.1 0) t ((s.1 0).toNat : Int)) (evN φ (updZ s.2 (s.1 0) t) (s.1 0).toNat) = _
  rw [show (((s.1 0).toNat : Nat) : Int) = s.1 0 by omega, updZ_eq, evN_c φ (s.1 0).toNat (fun j a b => updZ_ne _ _ (by omega))]
/-- before an operand -/
def JB (TX : Int → Int) (s0 : rdS) (k n wm : Int) (WT M : Int → Int) (mn : Int) : Prop := ∃ (f : rFr) (r : List rFr) (s : rdS), Rn TX s0 n s ∧ (s.1 4 = 0 ∧ s.1 5 = r.length ∧ 0 ≤ s.1 0 ∧ s.1 0 ≤ n) ∧ wl WT wm.toNat = fW f ++ rwR r ∧ (∀ φ, evN φ s.2 (s.1 0).toNat = (rfE φ f, r.map (rfE φ))) ∧ MR M k mn (fun φ => fP φ f ++ plR φ r)
theorem JB_0 {TX : Int → Int} {s0 : rdS} (k : Int) (WT M : Int → Int) (h0 : s0.1 0 = 0) (h4 : s0.1 4 = 0) (h5 : s0.1 5 = 0) : JB TX s0 k 0 0 WT M 0 :=
  ⟨(none, none, 0), [], s0, Rn_0 TX s0, ⟨h4, by rw [h5]; rfl, by omega, by omega⟩, rfl, fun φ => by rw [h0]; rfl, fun i hi => absurd hi (by omega), fun _ => rfl, rfl⟩
theorem JB_sg {TX : Int → Int} {s0 : rdS} {k n wm : Int} {WT M : Int → Int} {mn : Int} (h : JB TX s0 k n wm WT M mn) (hn : n < 60) (hw : 0 ≤ wm) (hc : TX n = 126 ∨ TX n = 40) : JB TX s0 k (n + 1) (wm + 1) (updZ WT wm (TX n)) M mn := by
  obtain ⟨f, r, s, hR, ⟨h4, h5, h0, h0n⟩, hW, hE, hM⟩ := h
  have ht := tok_e (t := -(TX n)) (s := (updZ s.1 5 (s.1 5 + (if TX n = 126 then 0 else 1)), s.2)) ⟨h0, show s.1 0 < 60 by omega⟩
  have hs : rdAll (TX n) s = (true, tokS (-(TX n)) (updZ s.1 5 (s.1 5 + (if TX n = 126 then 0 else 1)), s.2)) := by
    unfold rdAll
    rw [if_pos h4]
    unfold rdTerm
    rcases hc with hc | hc
    · rw [hc]; rfl
    · rw [hc]; rfl
  have hR2 := Rn_s hR hs
  generalize hs2 : tokS (-(TX n)) (updZ s.1 5 (s.1 5 + (if TX n = 126 then 0 else 1)), s.2) = s2 at ht hR2
  obtain ⟨t1, t2, t3⟩ := ht
  have e0 : (updZ s.1 5 (s.1 5 + (if TX n = 126 then 0 else 1)), s.2).1 0 = s.1 0 := (show updZ s.1 5 (s.1 5 + (if TX n = 126 then 0 else 1)) 0 = s.1 0 from updZ_ne _ _ (by decide))
  have e4 : s2.1 4 = 0 := by rw [t3 4 (by decide)]; exact (updZ_ne s.1 (s.1 5 + (if TX n = 126 then 0 else 1)) (show (4 : Int) ≠ 5 by decide)).trans h4
  have e5 : s2.1 5 = s.1 5 + (if TX n = 126 then 0 else 1) := by rw [t3 5 (by decide)]; exact updZ_eq s.1 5 _
  rw [e0] at t2
  have t1' : ∀ φ, evN φ s2.2 (s2.1 0).toNat = ev1 φ (-(TX n)) (rfE φ f, r.map (rfE φ)) := fun φ => by rw [t1 φ, ← hE φ, e0]
  rcases hc with hc | hc
  · refine ⟨(f.1, f.2.1, f.2.2 + 1), r, s2, hR2, ⟨e4, by rw [e5, hc, if_pos rfl, h5]; omega, by omega, by omega⟩, ?_, ?_, hM⟩
    · rw [wl_up WT _ hw, hW, hc]
      rfl
    · intro φ
      rw [t1', hc]
      rfl
  · refine ⟨(none, none, 0), f :: r, s2, hR2, ⟨e4, by rw [e5, hc, if_neg (by decide), h5]; show (r.length : Int) + 1 = ((r.length + 1 : Nat) : Int); omega, by omega, by omega⟩, ?_, ?_, hM⟩
    · rw [wl_up WT _ hw, hW, hc]
      rfl
    · intro φ
      rw [t1', hc]
      rfl
/-! settles: what is joined -/
theorem st_use {M WT : Int → Int} {k n wm c d : Int} {P : (Int → Bool) → List Bool} {l r : List Int} (hn : 0 ≤ n) (hw : 0 ≤ wm) (h : MR M k n P) (hl : wl WT wm.toNat = l ++ r) (ho : okL l (P pf0).length) (ha : ∀ x ∈ l, popQ x d) (hr : ∀ x t, r = x :: t → ¬ popQ x d)
    (h0 : 0 ≤ c ∧ c ≤ wm) (hj : ∀ j : Int, 0 ≤ j → j < c → popQ (WT (wm - 1 - j)) d) (hs : c = wm ∨ ¬ popQ (WT (wm - c - 1)) d) : MR (jnK M WT k n wm c.toNat) k (n + c) (fun φ => opL φ l (P φ)) ∧ wl WT (wm - c).toNat = r := by
  have hc := pop_u hr l hw hl ha h0 hj hs
  have h2 := MR_join l hn hw h hl ho
  rw [hc, show ((l.length : Nat) : Int).toNat = l.length by omega]
  exact ⟨h2.1, h2.2.1⟩
theorem opL_rep (φ : Int → Bool) (p : List Bool) : ∀ (t : Nat) (b : Bool), opL φ (List.replicate t 126) (b :: p) = (b != parB t) :: p
  | 0, b => by cases b <;> rfl
  | t + 1, b => by
    show opL φ (List.replicate t 126) ((!b) :: p) = (b != !(parB t)) :: p
    rw [opL_rep φ p t]
    cases b <;> cases parB t <;> rfl
theorem okL_rep : ∀ (t : Nat) {s : Int}, 1 ≤ s → okL (List.replicate t 126) s
  | 0, _, _ => trivial
  | t + 1, s, h => by
    refine ⟨Or.inl ⟨rfl, h⟩, ?_⟩
    show okL (List.replicate t 126) s
    exact okL_rep t h
theorem rwR_hd {r : List rFr} {d : Int} : ∀ x t, rwR r = x :: t → ¬ popQ x d := by
  intro x t h
  cases r with
  | nil => cases h
  | cons g r =>
    have e : 40 = x := (List.cons.inj h).1
    subst e
    unfold popQ
    omega
theorem wO_hd {a b : Option rV} {r : List rFr} : ∀ x t, wO 38 b ++ wO 124 a ++ rwR r = x :: t → ¬ popQ x 0 := by
  intro x t h
  cases b with
  | some v =>
    have e : 38 = x := (List.cons.inj h).1
    subst e
    unfold popQ
    omega
  | none =>
    cases a with
    | some v =>
      have e : 124 = x := (List.cons.inj h).1
      subst e
      unfold popQ
      omega
    | none => exact rwR_hd x t h
/-- settles(0) behind an operand: the '~' -/
theorem st_0 {M WT : Int → Int} {k n wm c : Int} {X : rV} {f : rFr} {r : List rFr} (hn : 0 ≤ n) (hw : 0 ≤ wm) (h : MR M k n (fun φ => X φ :: (fP φ f ++ plR φ r))) (hl : wl WT wm.toNat = fW f ++ rwR r)
    (h0 : 0 ≤ c ∧ c ≤ wm) (hj : ∀ j : Int, 0 ≤ j → j < c → popQ (WT (wm - 1 - j)) 0) (hs : c = wm ∨ ¬ popQ (WT (wm - c - 1)) 0) : MR (jnK M WT k n wm c.toNat) k (n + c) (fun φ => (X φ != parB f.2.2) :: (fP φ (f.1, f.2.1, 0) ++ plR φ r)) ∧ wl WT (wm - c).toNat = fW (f.1, f.2.1, 0) ++ rwR r := by
  obtain ⟨a, b, t⟩ := f
  have e : wl WT wm.toNat = List.replicate t 126 ++ (wO 38 b ++ wO 124 a ++ rwR r) := by
    rw [hl]
    show (List.replicate t 126 ++ (wO 38 b ++ wO 124 a)) ++ rwR r = _
    rw [List.append_assoc]
  have h2 := st_use (d := 0) hn hw h e (okL_rep t (by show (1 : Int) ≤ ((_ + 1 : Nat) : Int); omega)) (fun x hx => Or.inl (List.eq_of_mem_replicate hx)) wO_hd h0 hj hs
  refine ⟨?_, h2.2⟩
  have h3 := h2.1
  simp only [opL_rep] at h3
  exact h3
/-- settles(1) behind an operand: the '&' -/
theorem st_1 {M WT : Int → Int} {k n wm c : Int} {X : rV} {a b : Option rV} {r : List rFr} (hn : 0 ≤ n) (hw : 0 ≤ wm) (h : MR M k n (fun φ => X φ :: (fP φ (a, b, 0) ++ plR φ r))) (hl : wl WT wm.toNat = fW (a, b, 0) ++ rwR r)
    (h0 : 0 ≤ c ∧ c ≤ wm) (hj : ∀ j : Int, 0 ≤ j → j < c → popQ (WT (wm - 1 - j)) 1) (hs : c = wm ∨ ¬ popQ (WT (wm - c - 1)) 1) : MR (jnK M WT k n wm c.toNat) k (n + c) (fun φ => (oV true φ b && X φ) :: (oP φ a ++ plR φ r)) ∧ wl WT (wm - c).toNat = wO 124 a ++ rwR r := by
  have hr : ∀ x t, wO 124 a ++ rwR r = x :: t → ¬ popQ x 1 := by
    intro x t h
    cases a with
    | some v =>
      have e : 124 = x := (List.cons.inj h).1
      subst e
      unfold popQ
      omega
    | none => exact rwR_hd x t h
  cases b with
  | none =>
    have h2 := st_use (d := 1) (l := []) hn hw h hl trivial (fun x hx => absurd hx (by simp)) hr h0 hj hs
    exact ⟨h2.1, h2.2⟩
  | some v =>
    have h2 := st_use (d := 1) (l := [38]) (r := wO 124 a ++ rwR r) hn hw h hl ⟨Or.inr (Or.inl ⟨Or.inl rfl, by show (2 : Int) ≤ ((_ + 1 + 1 : Nat) : Int); omega⟩), trivial⟩ (fun x hx => by rw [List.mem_singleton.mp hx]; unfold popQ; omega) hr h0 hj hs
    exact ⟨h2.1, h2.2⟩
/-- settles(2): the whole frame -/
theorem st_2 {M WT : Int → Int} {k n wm c : Int} {X : rV} {a b : Option rV} {r : List rFr} (hn : 0 ≤ n) (hw : 0 ≤ wm) (h : MR M k n (fun φ => X φ :: (fP φ (a, b, 0) ++ plR φ r))) (hl : wl WT wm.toNat = fW (a, b, 0) ++ rwR r)
    (h0 : 0 ≤ c ∧ c ≤ wm) (hj : ∀ j : Int, 0 ≤ j → j < c → popQ (WT (wm - 1 - j)) 2) (hs : c = wm ∨ ¬ popQ (WT (wm - c - 1)) 2) : MR (jnK M WT k n wm c.toNat) k (n + c) (fun φ => (oV false φ a || (oV true φ b && X φ)) :: plR φ r) ∧ wl WT (wm - c).toNat = rwR r := by
  have p38 : popQ 38 2 := by unfold popQ; omega
  have p124 : popQ 124 2 := by unfold popQ; omega
  cases b with
  | none =>
    cases a with
    | none =>
      have h2 := st_use (d := 2) (l := []) hn hw h hl trivial (fun x hx => absurd hx (by simp)) rwR_hd h0 hj hs
      exact ⟨h2.1, h2.2⟩
    | some u =>
      have h2 := st_use (d := 2) (l := [124]) (r := rwR r) hn hw h hl ⟨Or.inr (Or.inl ⟨Or.inr rfl, by show (2 : Int) ≤ ((_ + 1 + 1 : Nat) : Int); omega⟩), trivial⟩ (fun x hx => by rw [List.mem_singleton.mp hx]; exact p124) rwR_hd h0 hj hs
      exact ⟨h2.1, h2.2⟩
  | some v =>
    cases a with
    | none =>
      have h2 := st_use (d := 2) (l := [38]) (r := rwR r) hn hw h hl ⟨Or.inr (Or.inl ⟨Or.inl rfl, by show (2 : Int) ≤ ((_ + 1 + 1 : Nat) : Int); omega⟩), trivial⟩ (fun x hx => by rw [List.mem_singleton.mp hx]; exact p38) rwR_hd h0 hj hs
      exact ⟨h2.1, h2.2⟩
    | some u =>
      have h2 := st_use (d := 2) (l := [38, 124]) (r := rwR r) hn hw h hl ⟨Or.inr (Or.inl ⟨Or.inl rfl, by show (2 : Int) ≤ ((_ + 1 + 1 + 1 : Nat) : Int); omega⟩), Or.inr (Or.inl ⟨Or.inr rfl, by show (2 : Int) ≤ szM 38 ((_ + 1 + 1 + 1 : Nat) : Int); unfold szM; rw [if_neg (by decide), if_pos (by decide)]; omega⟩), trivial⟩ (fun x hx => by
        rcases List.mem_cons.mp hx with hx | hx
        · rw [hx]; exact p38
        · rw [List.mem_singleton.mp hx]; exact p124) rwR_hd h0 hj hs
      exact ⟨h2.1, h2.2⟩
theorem sgV_c {TX : Int → Int} {n i : Int} (h : i < n) : sgV TX n i = TX i := if_pos h
/-! a number -/
theorem dg_run {TX : Int → Int} {s0 s : rdS} {p m xm : Int} (hp : p = 2 ∨ p = 5) (hR : Rn TX s0 m s) (h4 : s.1 4 = p) (h3 : s.1 3 = 0) (h2 : s.1 2 = 0) : ∀ (e : Nat), (e : Int) ≤ 5 → (∀ j : Int, 0 ≤ j → j < e → m + j < xm ∧ 48 ≤ TX (m + j) ∧ TX (m + j) ≤ 57) → ∃ s1 : rdS, Rn TX s0 (m + e) s1 ∧ s1.1 4 = p ∧ s1.1 3 = e ∧ s1.1 2 = dgX TX m e ∧ s1.2 = s.2 ∧ s1.1 0 = s.1 0 ∧ s1.1 1 = s.1 1 ∧ s1.1 5 = s.1 5 ∧ s1.1 6 = s.1 6 ∧ s1.1 7 = s.1 7
  | 0, _, _ => ⟨s, by rw [show m + ((0 : Nat) : Int) = m by omega]; exact hR, h4, h3, h2, rfl, rfl, rfl, rfl, rfl, rfl⟩
  | e + 1, he, hd => by
    obtain ⟨s1, r1, q4, q3, q2, qT, q0, q1, q5, q6, q7⟩ := dg_run hp hR h4 h3 h2 e (by omega) (fun j a b => hd j a (by omega))
    have hc := hd e (by omega) (by omega)
    have hdg : rdDig (TX (m + e)) s1 = (true, (updZ (updZ s1.1 2 (s1.1 2 * 10 + TX (m + e) - 48)) 3 (s1.1 3 + 1), s1.2)) := if_pos ⟨hc.2.1, hc.2.2, by rw [q3]; omega⟩
    have hs : rdAll (TX (m + e)) s1 = (true, (updZ (updZ s1.1 2 (s1.1 2 * 10 + TX (m + e) - 48)) 3 (s1.1 3 + 1), s1.2)) := by
      unfold rdAll
      rw [q4]
      rcases hp with hp | hp
      · rw [hp, if_neg (by decide), if_neg (by decide), if_pos rfl, hdg, if_pos rfl]
      · rw [hp, if_neg (by decide), if_neg (by decide), if_neg (by decide), if_neg (by decide), if_neg (by decide), hdg]
    refine ⟨(updZ (updZ s1.1 2 (s1.1 2 * 10 + TX (m + e) - 48)) 3 (s1.1 3 + 1), s1.2), by rw [show m + ((e + 1 : Nat) : Int) = m + e + 1 by omega]; exact Rn_s r1 hs, ?_, ?_, ?_, qT, ?_, ?_, ?_, ?_, ?_⟩
    · exact q4
    · show s1.1 3 + 1 = _; omega
    · show s1.1 2 * 10 + TX (m + e) - 48 = 10 * dgX TX m e + TX (m + e) - 48
      rw [q2]; omega
    · exact q0
    · exact q1
    · exact q5
    · exact q6
    · exact q7
/-- behind an operand, with the number's token still to come -/
def pend (s : rdS) : rdS := if s.1 4 = 2 then tokS ((s.1 6 * 3 + s.1 7) * 100000 + s.1 2) s else s
def JP (TX : Int → Int) (xm n : Int) (s : rdS) : Prop := (s.1 4 = 2 ∧ (0 < s.1 3 ∧ s.1 3 ≤ 5) ∧ (s.1 3 = 5 ∨ ¬ (48 ≤ sgV TX xm n ∧ sgV TX xm n ≤ 57)) ∧ s.1 0 + 1 ≤ n) ∨ (s.1 4 = 3 ∧ s.1 0 ≤ n)
def JC (TX : Int → Int) (s0 : rdS) (k xm n wm : Int) (WT M : Int → Int) (mn : Int) : Prop := ∃ (a b : Option rV) (r : List rFr) (s : rdS) (X : rV), Rn TX s0 n s ∧ JP TX xm n s ∧ (s.1 5 = r.length ∧ 0 ≤ s.1 0) ∧ wl WT wm.toNat = fW (a, b, 0) ++ rwR r ∧ (∀ φ, evN φ (pend s).2 ((pend s).1 0).toNat = ((oV false φ a, oV true φ b && X φ, false), r.map (rfE φ))) ∧ MR M k mn (fun φ => X φ :: (fP φ (a, b, 0) ++ plR φ r))
theorem JP_all {TX : Int → Int} {xm n : Int} {s : rdS} (h : JP TX xm n s) (hn : n < xm) : rdAll (TX n) s = rdLink (TX n) (pend s) := by
  unfold rdAll pend
  rcases h with ⟨h4, h3, hd, -⟩ | ⟨h4, -⟩
  · have hg : rdDig (TX n) s = (false, s) := if_neg (fun z => by rw [sgV_c hn] at hd; have := z.1; have := z.2.1; have := z.2.2; omega)
    rw [h4, if_neg (by decide), if_neg (by decide), if_pos rfl, hg, if_neg (show ¬ ((false : Bool) = true) from Bool.false_ne_true), if_pos rfl]
    exact if_neg (by omega)
  · rw [h4, if_neg (by decide), if_neg (by decide), if_neg (by decide), if_pos rfl, if_neg (by decide)]
theorem pend_v {TX : Int → Int} {xm n : Int} {s : rdS} (h : JP TX xm n s) (h0 : 0 ≤ s.1 0) (hn : n < xm) (hx : xm ≤ 60) : (0 ≤ (pend s).1 0 ∧ (pend s).1 0 ≤ n) ∧ ∀ j, j ≠ 0 → (pend s).1 j = s.1 j := by
  unfold pend
  rcases h with ⟨h4, h3, hd, hb⟩ | ⟨h4, hb⟩
  · rw [if_pos h4]
    have ht := tok_e (t := (s.1 6 * 3 + s.1 7) * 100000 + s.1 2) (s := s) ⟨h0, by omega⟩
    exact ⟨by rw [ht.2.1]; omega, ht.2.2⟩
  · rw [if_neg (by omega)]
    exact ⟨⟨h0, hb⟩, fun _ _ => rfl⟩
theorem JC_stop {TX : Int → Int} {s0 : rdS} {k xm n wm mn : Int} {WT M : Int → Int} (h : JC TX s0 k xm n wm WT M mn) (hn : n ≤ xm) (hx : xm ≤ 60) (h38 : sgV TX xm n ≠ 38) (h124 : sgV TX xm n ≠ 124) (h41 : sgV TX xm n = 41 → nOp (wl WT wm.toNat) = 0) (h63 : sgV TX xm n = 63 → 0 < nOp (wl WT wm.toNat)) : rStop TX s0 xm n := by
  obtain ⟨a, b, r, s, X, hR, hP, ⟨h5, h0⟩, hW, hE, hM⟩ := h
  rw [hW, nOp_app, nOp_fW, nOp_wR] at h41 h63
  refine stop_of hR hn (fun hl => ?_) (fun _ => ?_)
  · rw [JP_all hP hl]
    rw [sgV_c hl] at h38 h124 h41 h63
    have hv := (pend_v hP h0 hl hx).2 5 (by decide)
    unfold rdLink
    rw [hv, if_neg (by omega), if_neg (by omega), if_neg (by omega)]
  · rcases hP with ⟨h4, -⟩ | ⟨h4, -⟩ <;> omega
theorem ev1_and (φ : Int → Bool) (x : evT) : ev1 φ (-38) x = x := rfl
/-- '&' and '|' -/
theorem JC_link {TX : Int → Int} {s0 : rdS} {k xm n wm mn c : Int} {WT M : Int → Int} (h : JC TX s0 k xm n wm WT M mn) (hl : n < xm) (hx : xm ≤ 60) (hmn : 0 ≤ mn) (hw : 0 ≤ wm) (hc : TX n = 38 ∨ TX n = 124)
    (h0c : 0 ≤ c ∧ c ≤ wm) (hj : ∀ j : Int, 0 ≤ j → j < c → popQ (WT (wm - 1 - j)) (if TX n = 38 then 1 else 2)) (hs : c = wm ∨ ¬ popQ (WT (wm - c - 1)) (if TX n = 38 then 1 else 2)) : JB TX s0 k (n + 1) (wm - c + 1) (updZ WT (wm - c) (TX n)) (jnK M WT k mn wm c.toNat) (mn + c) := by
  obtain ⟨a, b, r, s, X, hR, hP, ⟨h5, h0⟩, hW, hE, hM⟩ := h
  obtain ⟨⟨p0, pn⟩, pv⟩ := pend_v hP h0 hl hx
  have ht := tok_e (t := -(TX n)) (s := (updZ (pend s).1 4 0, (pend s).2)) ⟨p0, show (pend s).1 0 < 60 by omega⟩
  have hs2 : rdAll (TX n) s = (true, tokS (-(TX n)) (updZ (pend s).1 4 0, (pend s).2)) := by
    rw [JP_all hP hl]
    unfold rdLink
    rw [if_neg (by omega), if_neg (by omega), if_pos hc]
  have hR2 := Rn_s hR hs2
  generalize tokS (-(TX n)) (updZ (pend s).1 4 0, (pend s).2) = s2 at ht hR2
  obtain ⟨t1, t2, t3⟩ := ht
  have e0 : (updZ (pend s).1 4 0, (pend s).2).1 0 = (pend s).1 0 := (show updZ (pend s).1 4 0 0 = (pend s).1 0 from updZ_ne _ _ (by decide))
  rw [e0] at t2
  have t1' : ∀ φ, evN φ s2.2 (s2.1 0).toNat = ev1 φ (-(TX n)) ((oV false φ a, oV true φ b && X φ, false), r.map (rfE φ)) := fun φ => by rw [t1 φ, ← hE φ, e0]
  have e4 : s2.1 4 = 0 := by rw [t3 4 (by decide)]; exact updZ_eq (pend s).1 4 0
  have e5 : s2.1 5 = r.length := by rw [t3 5 (by decide), ← h5, ← pv 5 (by decide)]; exact updZ_ne (pend s).1 (0 : Int) (show (5 : Int) ≠ 4 by decide)
  rcases hc with hc | hc
  · rw [hc, if_pos rfl] at hj hs
    have h2 := st_1 hmn hw hM hW h0c hj hs
    refine ⟨(a, some (fun φ => oV true φ b && X φ), 0), r, s2, hR2, ⟨e4, e5, by omega, by omega⟩, ?_, ?_, h2.1⟩
    · rw [wl_up WT _ (by omega), h2.2, hc]
      rfl
    · intro φ
      rw [t1', hc]
      rfl
  · rw [hc, if_neg (by decide)] at hj hs
    have h2 := st_2 hmn hw hM hW h0c hj hs
    refine ⟨(some (fun φ => oV false φ a || (oV true φ b && X φ)), none, 0), r, s2, hR2, ⟨e4, e5, by omega, by omega⟩, ?_, ?_, h2.1⟩
    · rw [wl_up WT _ (by omega), h2.2, hc]
      rfl
    · intro φ
      rw [t1', hc]
      rfl
/-- ')' -/
theorem JC_close {TX : Int → Int} {s0 : rdS} {k xm n wm mn c d : Int} {WT M M2 : Int → Int} (h : JC TX s0 k xm n wm WT M mn) (hl : n < xm) (hx : xm ≤ 60) (hmn : 0 ≤ mn) (hw : 0 ≤ wm) (hc : TX n = 41) (ho : 0 < nOp (wl WT wm.toNat))
    (h0c : 0 ≤ c ∧ c ≤ wm) (hj : ∀ j : Int, 0 ≤ j → j < c → popQ (WT (wm - 1 - j)) 2) (hs : c = wm ∨ ¬ popQ (WT (wm - c - 1)) 2) (hM2 : M2 = jnK M WT k mn wm c.toNat) :
    1 ≤ wm - c ∧ ((0 ≤ d ∧ d ≤ wm - c - 1) → (∀ j : Int, 0 ≤ j → j < d → popQ (WT (wm - c - 1 - 1 - j)) 0) → (d = wm - c - 1 ∨ ¬ popQ (WT (wm - c - 1 - d - 1)) 0) → JC TX s0 k xm (n + 1) (wm - c - 1 - d) WT (jnK M2 WT k (mn + c) (wm - c - 1) d.toNat) (mn + c + d)) := by
  obtain ⟨a, b, r, s, X, hR, hP, ⟨h5, h0⟩, hW, hE, hM⟩ := h
  have hr1 := ho
  rw [hW, nOp_app, nOp_fW, nOp_wR] at hr1
  obtain ⟨⟨p0, pn⟩, pv⟩ := pend_v hP h0 hl hx
  have h2 := st_2 hmn hw hM hW h0c hj hs
  cases r with
  | nil => exact absurd hr1 (by show ¬ (0 : Int) < 0 + ((0 : Nat) : Int); omega)
  | cons g r =>
    have hwc : 1 ≤ wm - c := by
      apply Int.not_lt.mp
      intro hq
      have h22 := h2.2
      rw [show (wm - c).toNat = 0 by omega] at h22
      exact absurd h22 (by intro z; cases z)
    refine ⟨hwc, fun h0d hjd hsd => ?_⟩
    have h22 := h2.2
    rw [wl_pos WT (by omega)] at h22
    have hW2 : wl WT (wm - c - 1).toNat = fW g ++ rwR r := (List.cons.inj h22).2
    have h3 := st_0 (X := fun φ => oV false φ a || (oV true φ b && X φ)) (by omega) (by omega) h2.1 hW2 h0d hjd hsd
    rw [hM2]
    have ht := tok_e (t := -(TX n)) (s := (updZ (updZ (pend s).1 5 ((pend s).1 5 - 1)) 4 3, (pend s).2)) ⟨p0, show (pend s).1 0 < 60 by omega⟩
    have hp5 : 0 < (pend s).1 5 := by rw [pv 5 (by decide), h5]; show (0 : Int) < ((r.length + 1 : Nat) : Int); omega
    have hs2 : rdAll (TX n) s = (true, tokS (-(TX n)) (updZ (updZ (pend s).1 5 ((pend s).1 5 - 1)) 4 3, (pend s).2)) := by
      rw [JP_all hP hl]
      unfold rdLink
      rw [if_neg (by omega), if_pos ⟨hc, hp5⟩]
    have hR2 := Rn_s hR hs2
    generalize tokS (-(TX n)) (updZ (updZ (pend s).1 5 ((pend s).1 5 - 1)) 4 3, (pend s).2) = s2 at ht hR2
    obtain ⟨t1, t2, t3⟩ := ht
    have e0 : (updZ (updZ (pend s).1 5 ((pend s).1 5 - 1)) 4 3, (pend s).2).1 0 = (pend s).1 0 := rfl
    rw [e0] at t2
    have t1' : ∀ φ, evN φ s2.2 (s2.1 0).toNat = ev1 φ (-41) ((oV false φ a, oV true φ b && X φ, false), (g :: r).map (rfE φ)) := fun φ => by rw [t1 φ, ← hE φ, e0, hc]
    have e4 : s2.1 4 = 3 := by rw [t3 4 (by decide)]; rfl
    have e5 : s2.1 5 = r.length := by
      rw [t3 5 (by decide)]
      show (pend s).1 5 - 1 = _
      rw [pv 5 (by decide), h5]
      show ((r.length + 1 : Nat) : Int) - 1 = _
      omega
    have hpe : pend s2 = s2 := if_neg (by omega)
    refine ⟨g.1, g.2.1, r, s2, (fun φ => (oV false φ a || (oV true φ b && X φ)) != parB g.2.2), hR2, Or.inr ⟨e4, by omega⟩, ⟨e5, by omega⟩, h3.2, ?_, h3.1⟩
    intro φ
    rw [hpe, t1']
    rfl
/-- '?' -/
theorem JC_end {TX : Int → Int} {s0 : rdS} {k xm n wm mn c : Int} {WT M : Int → Int} (h : JC TX s0 k xm n wm WT M mn) (hl : n < xm) (hx : xm ≤ 60) (hmn : 0 ≤ mn) (hw : 0 ≤ wm) (hc : TX n = 63) (ho : nOp (wl WT wm.toNat) = 0)
    (h0c : 0 ≤ c ∧ c ≤ wm) (hj : ∀ j : Int, 0 ≤ j → j < c → popQ (WT (wm - 1 - j)) 2) (hs : c = wm ∨ ¬ popQ (WT (wm - c - 1)) 2) :
    ∃ s2 : rdS, Rn TX s0 (n + 1) s2 ∧ s2.1 4 = 4 ∧ (0 ≤ s2.1 0 ∧ s2.1 0 ≤ n) ∧ MR (jnK M WT k mn wm c.toNat) k (mn + c) (fun φ => [(evN φ s2.2 (s2.1 0).toNat).1.1 || (evN φ s2.2 (s2.1 0).toNat).1.2.1]) := by
  obtain ⟨a, b, r, s, X, hR, hP, ⟨h5, h0⟩, hW, hE, hM⟩ := h
  have hr1 := ho
  rw [hW, nOp_app, nOp_fW, nOp_wR] at hr1
  obtain ⟨⟨p0, pn⟩, pv⟩ := pend_v hP h0 hl hx
  have h2 := st_2 hmn hw hM hW h0c hj hs
  cases r with
  | cons g r => exact absurd hr1 (by show ¬ (0 : Int) + ((r.length + 1 : Nat) : Int) = 0; omega)
  | nil =>
    have hs2 : rdAll (TX n) s = (true, (updZ (pend s).1 4 4, (pend s).2)) := by
      rw [JP_all hP hl]
      unfold rdLink
      rw [if_pos ⟨hc, by rw [pv 5 (by decide), h5]; rfl⟩]
    refine ⟨_, Rn_s hR hs2, rfl, ⟨p0, pn⟩, ?_⟩
    have e : (fun φ => [(evN φ (updZ (pend s).1 4 4, (pend s).2).2 ((updZ (pend s).1 4 4, (pend s).2).1 0).toNat).1.1 || (evN φ (updZ (pend s).1 4 4, (pend s).2).2 ((updZ (pend s).1 4 4, (pend s).2).1 0).toNat).1.2.1]) = (fun φ => (oV false φ a || (oV true φ b && X φ)) :: plR φ []) := by
      funext φ
      show [(evN φ (pend s).2 ((pend s).1 0).toNat).1.1 || (evN φ (pend s).2 ((pend s).1 0).toNat).1.2.1] = _
      rw [hE]
      rfl
    rw [e]
    exact h2.1
theorem pfW_s0 (WT TX : Int → Int) (wm i : Int) {c : Int} (h : 0 ≤ c) : pfW WT TX wm i (c + 1) = updZ (pfW WT TX wm i c) (wm + c) (TX (i + c)) := by
  funext j
  unfold updZ pfW
  by_cases h1 : j = wm + c
  · rw [if_pos h1, if_pos (by omega), h1]
    congr 1
    omega
  · rw [if_neg h1]
    by_cases h2 : wm ≤ j ∧ j < wm + c
    · rw [if_pos h2, if_pos (by omega)]
    · rw [if_neg h2, if_neg (by omega)]
theorem JB_pf {TX : Int → Int} {s0 : rdS} {k n wm mn : Int} {WT M : Int → Int} (h : JB TX s0 k n wm WT M mn) (hw : 0 ≤ wm) : ∀ c : Nat, n + c ≤ 60 → (∀ j : Int, 0 ≤ j → j < c → TX (n + j) = 126 ∨ TX (n + j) = 40) → JB TX s0 k (n + c) (wm + c) (pfW WT TX wm n c) M mn
  | 0, _, _ => by
    have e : pfW WT TX wm n ((0 : Nat) : Int) = WT := by
      funext j
      exact if_neg (by omega)
    rw [e, show n + ((0 : Nat) : Int) = n by omega, show wm + ((0 : Nat) : Int) = wm by omega]
    exact h
  | c + 1, hn, hp => by
    have h1 := JB_pf h hw c (by omega) (fun j a b => hp j a (by omega))
    have h2 := JB_sg h1 (by omega) (by omega) (hp c (by omega) (by omega))
    rw [show n + ((c + 1 : Nat) : Int) = n + c + 1 by omega, show wm + ((c + 1 : Nat) : Int) = wm + c + 1 by omega, show ((c + 1 : Nat) : Int) = (c : Int) + 1 by omega, pfW_s0 WT TX wm n (by omega)]
    exact h2
theorem letZ_rd {c : Int} {s : rdS} (h4 : s.1 4 = 0) (hc : ¬ (c = 126 ∨ c = 40)) : rdAll c s = (decide (0 ≤ letZ c), (updZ (updZ s.1 6 (letZ c)) 4 1, s.2)) := by
  unfold rdAll rdTerm
  rw [if_pos h4, if_neg (by omega), if_neg (by omega)]
theorem relZ_p {c : Int} : 0 ≤ relZ c ↔ 60 ≤ c ∧ c ≤ 62 := by
  unfold relZ
  split
  · omega
  · split
    · omega
    · split <;> omega
/-- no field -/
theorem JB_s1 {TX : Int → Int} {s0 : rdS} {k n wm mn xm : Int} {WT M : Int → Int} (h : JB TX s0 k n wm WT M mn) (hn : n ≤ xm) (hc : ¬ (sgV TX xm n = 126 ∨ sgV TX xm n = 40)) (hl : letZ (sgV TX xm n) < 0) : rStop TX s0 xm n := by
  obtain ⟨f, r, s, hR, ⟨h4, -⟩, -⟩ := h
  refine stop_of hR hn (fun hx => ?_) (fun _ => by omega)
  rw [sgV_c hx] at hc hl
  rw [letZ_rd h4 hc]
  exact decide_eq_false (by omega)
theorem JB_f {TX : Int → Int} {s0 s : rdS} {n xm : Int} (hR : Rn TX s0 n s) (h4 : s.1 4 = 0) (hx : n < xm) (hc : ¬ (sgV TX xm n = 126 ∨ sgV TX xm n = 40)) (hl : 0 ≤ letZ (sgV TX xm n)) : Rn TX s0 (n + 1) (updZ (updZ s.1 6 (letZ (TX n))) 4 1, s.2) := by
  rw [sgV_c hx] at hc hl
  have e := letZ_rd (s := s) h4 hc
  rw [decide_eq_true hl] at e
  exact Rn_s hR e
/-- no relation -/
theorem JB_s2 {TX : Int → Int} {s0 : rdS} {k n wm mn xm : Int} {WT M : Int → Int} (h : JB TX s0 k n wm WT M mn) (hx : n < xm) (hc : ¬ (sgV TX xm n = 126 ∨ sgV TX xm n = 40)) (hl : 0 ≤ letZ (sgV TX xm n)) (hr : ¬ (60 ≤ sgV TX xm (n + 1) ∧ sgV TX xm (n + 1) ≤ 62)) : rStop TX s0 xm (n + 1) := by
  obtain ⟨f, r, s, hR, ⟨h4, -⟩, -⟩ := h
  have hR2 := JB_f hR h4 hx hc hl
  refine stop_of hR2 (by omega) (fun hx2 => ?_) (fun _ z => absurd z.1 (by show ¬ (1 : Int) = 5; decide))
  rw [sgV_c hx2] at hr
  show decide (0 ≤ relZ (TX (n + 1))) = false
  exact decide_eq_false (fun z => hr (relZ_p.mp z))
theorem JB_g {TX : Int → Int} {s0 s : rdS} {n xm : Int} (hR : Rn TX s0 n s) (h4 : s.1 4 = 0) (hx : n < xm) (hc : ¬ (sgV TX xm n = 126 ∨ sgV TX xm n = 40)) (hl : 0 ≤ letZ (sgV TX xm n)) (hx2 : n + 1 < xm) (hr : 60 ≤ sgV TX xm (n + 1) ∧ sgV TX xm (n + 1) ≤ 62) : Rn TX s0 (n + 1 + 1) (numR (updZ (updZ (updZ s.1 6 (letZ (TX n))) 4 1) 7 (relZ (TX (n + 1)))) 2, s.2) := by
  have hR2 := JB_f hR h4 hx hc hl
  rw [sgV_c hx2] at hr
  refine Rn_s hR2 ?_
  show (decide (0 ≤ relZ (TX (n + 1))), _) = (true, _)
  rw [decide_eq_true (relZ_p.mpr hr)]
/-- no number -/
theorem JB_s3 {TX : Int → Int} {s0 : rdS} {k n wm mn xm : Int} {WT M : Int → Int} (h : JB TX s0 k n wm WT M mn) (hx : n < xm) (hc : ¬ (sgV TX xm n = 126 ∨ sgV TX xm n = 40)) (hl : 0 ≤ letZ (sgV TX xm n)) (hx2 : n + 1 < xm) (hr : 60 ≤ sgV TX xm (n + 1) ∧ sgV TX xm (n + 1) ≤ 62) (hd : ¬ (48 ≤ sgV TX xm (n + 1 + 1) ∧ sgV TX xm (n + 1 + 1) ≤ 57)) : rStop TX s0 xm (n + 1 + 1) := by
  obtain ⟨f, r, s, hR, ⟨h4, -⟩, -⟩ := h
  have hR2 := JB_g hR h4 hx hc hl hx2 hr
  refine stop_of hR2 (by omega) (fun hx3 => ?_) (fun _ z => absurd z.1 (by show ¬ (2 : Int) = 5; decide))
  rw [sgV_c hx3] at hd
  generalize hs : ((numR (updZ (updZ (updZ s.1 6 (letZ (TX n))) 4 1) 7 (relZ (TX (n + 1)))) 2, s.2) : rdS) = s2
  have q4 : s2.1 4 = 2 := by rw [← hs]; rfl
  have q3 : s2.1 3 = 0 := by rw [← hs]; rfl
  unfold rdAll
  have hg : rdDig (TX (n + 1 + 1)) s2 = (false, s2) := if_neg (fun z => hd ⟨z.1, z.2.1⟩)
  have hb : rdLBN (TX (n + 1 + 1)) s2 = (false, s2) := if_pos q3
  rw [q4, if_neg (by decide), if_neg (by decide), if_pos rfl, hg, if_neg (show ¬ ((false : Bool) = true) from Bool.false_ne_true), hb]
/-- a comparison, then settles(0) -/
theorem JB_ok {TX : Int → Int} {s0 : rdS} {k n wm mn xm e c : Int} {WT M M2 : Int → Int} (h : JB TX s0 k n wm WT M mn) (hx60 : xm ≤ 60) (hx : n < xm) (hc : ¬ (sgV TX xm n = 126 ∨ sgV TX xm n = 40)) (hl : 0 ≤ letZ (sgV TX xm n)) (hx2 : n + 1 < xm) (hr : 60 ≤ sgV TX xm (n + 1) ∧ sgV TX xm (n + 1) ≤ 62)
    (he : 0 < e ∧ e ≤ 5) (hd : ∀ j : Int, 0 ≤ j → j < e → n + 1 + 1 + j < xm ∧ 48 ≤ TX (n + 1 + 1 + j) ∧ TX (n + 1 + 1 + j) ≤ 57) (hq : e = 5 ∨ ¬ (48 ≤ sgV TX xm (n + 1 + 1 + e) ∧ sgV TX xm (n + 1 + 1 + e) ≤ 57))
    (hmn : 0 ≤ mn ∧ mn + wm ≤ 60) (hw : 0 ≤ wm) (hM2 : M2 = putM M k mn (sgV TX xm (n + 1)) (letZ (sgV TX xm n)) (dgX TX (n + 1 + 1) e.toNat)) (hfl : letZ (sgV TX xm n) ≤ 5) (hnb : 0 ≤ dgX TX (n + 1 + 1) e.toNat ∧ dgX TX (n + 1 + 1) e.toNat ≤ 99999)
    (hsz : ∀ P, MR M k mn P → ((P pf0).length : Int) ≤ 63)
    (h0c : 0 ≤ c ∧ c ≤ wm) (hj : ∀ j : Int, 0 ≤ j → j < c → popQ (WT (wm - 1 - j)) 0) (hs : c = wm ∨ ¬ popQ (WT (wm - c - 1)) 0) : JC TX s0 k xm (n + 1 + 1 + e) (wm - c) WT (jnK M2 WT k (mn + 1) wm c.toNat) (mn + 1 + c) := by
  obtain ⟨f, r, s, hR, ⟨h4, h5, h0, h0n⟩, hW, hE, hM⟩ := h
  have hR2 := JB_g hR h4 hx hc hl hx2 hr
  generalize hs2 : ((numR (updZ (updZ (updZ s.1 6 (letZ (TX n))) 4 1) 7 (relZ (TX (n + 1)))) 2, s.2) : rdS) = s2 at hR2
  obtain ⟨s3, r3, q4, q3, q2, qT, q0, q1, q5, q6, q7⟩ := dg_run (xm := xm) (p := 2) (Or.inl rfl) hR2 (by rw [← hs2]; rfl) (by rw [← hs2]; rfl) (by rw [← hs2]; rfl) e.toNat (by omega) (fun j a b => hd j a (by omega))
  rw [show ((e.toNat : Nat) : Int) = e by omega] at r3 q3
  have w0 : s3.1 0 = s.1 0 := by rw [q0, ← hs2]; rfl
  have w5 : s3.1 5 = s.1 5 := by rw [q5, ← hs2]; rfl
  have w6 : s3.1 6 = letZ (TX n) := by rw [q6, ← hs2]; rfl
  have w7 : s3.1 7 = relZ (TX (n + 1)) := by rw [q7, ← hs2]; rfl
  have wT : s3.2 = s.2 := by rw [qT, ← hs2]
  have hd0 := (hd (e - 1) (by omega) (by omega)).1
  have hsz2 := hsz _ hM
  have hput := MR_put (a := sgV TX xm (n + 1)) (b := letZ (sgV TX xm n)) (c := dgX TX (n + 1 + 1) e.toNat) hmn.1 hM (Or.inr (Or.inr ⟨hr, ⟨hl, hfl⟩, hnb, hsz2⟩))
  rw [← hM2] at hput
  have hrel := relZ_p.mpr hr
  have hrb : relZ (sgV TX xm (n + 1)) ≤ 2 := by
    unfold relZ
    split
    · decide
    · split
      · decide
      · split <;> decide
  have hev : (fun φ => evM φ (sgV TX xm (n + 1)) (letZ (sgV TX xm n)) (dgX TX (n + 1 + 1) e.toNat) (fP φ f ++ plR φ r)) = (fun φ : Int → Bool => φ ((letZ (sgV TX xm n) * 3 + relZ (sgV TX xm (n + 1))) * 100000 + dgX TX (n + 1 + 1) e.toNat) :: (fP φ f ++ plR φ r)) := by
    funext φ
    unfold evM
    rw [if_neg (by omega), if_neg (by omega), if_neg (by omega)]
  rw [hev] at hput
  have h3 := st_0 (X := fun φ => φ ((letZ (sgV TX xm n) * 3 + relZ (sgV TX xm (n + 1))) * 100000 + dgX TX (n + 1 + 1) e.toNat)) (f := f) (by omega) hw hput hW h0c hj hs
  refine ⟨f.1, f.2.1, r, s3, _, r3, Or.inl ⟨q4, by omega, ?_, by omega⟩, ⟨by rw [w5]; exact h5, by omega⟩, h3.2, ?_, h3.1⟩
  · rcases hq with hq | hq
    · exact Or.inl (by omega)
    · exact Or.inr hq
  · intro φ
    have ep : pend s3 = tokS ((s3.1 6 * 3 + s3.1 7) * 100000 + s3.1 2) s3 := if_pos q4
    have ht := tok_e (t := (s3.1 6 * 3 + s3.1 7) * 100000 + s3.1 2) (s := s3) ⟨by omega, by omega⟩
    rw [ep, ht.1 φ, w0, wT, hE φ, w6, w7, q2, sgV_c hx, sgV_c hx2]
    rw [sgV_c hx] at hl
    rw [sgV_c hx2] at hrel
    generalize hT : (letZ (TX n) * 3 + relZ (TX (n + 1))) * 100000 + dgX TX (n + 1 + 1) e.toNat = tk
    have htk : 0 ≤ tk := by omega
    unfold ev1
    rw [if_neg (by omega), if_neg (by omega), if_neg (by omega), if_neg (by omega), if_pos htk]
    rfl
theorem szA_le (M : Int → Int) (k : Int) : ∀ n : Nat, szA M k n ≤ n
  | 0 => Int.le_refl 0
  | n + 1 => by
    have h := szA_le M k n
    show szM _ (szA M k n) ≤ ((n + 1 : Nat) : Int)
    unfold szM
    split
    · omega
    · split <;> omega
theorem MR_sz {M : Int → Int} {k n : Int} {P : (Int → Bool) → List Bool} (h0 : 0 ≤ n) (h : MR M k n P) : ((P pf0).length : Int) ≤ n := by
  have := szA_le M k n.toNat
  have h3 := h.2.2
  omega
theorem jnK_lo (M WT : Int → Int) {k n wm j : Int} : ∀ c : Nat, (j < 200 * k + 3 * n ∨ 200 * k + 3 * (n + c) ≤ j) → jnK M WT k n wm c j = M j
  | 0, _ => rfl
  | c + 1, h => by
    show putM (jnK M WT k n wm c) k (n + c) _ 0 0 j = M j
    rw [putM_lo _ _ _ _ _ _ (by omega), jnK_lo M WT c (by omega)]
theorem letZ_5 (c : Int) : letZ c ≤ 5 := by
  unfold letZ
  repeat' split
  all_goals decide
theorem dgX_5 {TX : Int → Int} {i e : Int} (he : e ≤ 5) (h : ∀ j : Int, 0 ≤ j → j < e → 48 ≤ TX (i + j) ∧ TX (i + j) ≤ 57) : 0 ≤ dgX TX i e.toNat ∧ dgX TX i e.toNat ≤ 99999 := by
  have hb : ∀ n : Nat, (n : Int) ≤ e → 0 ≤ dgX TX i n ∧ dgX TX i n < ((10 ^ n : Nat) : Int) := by
    intro n
    induction n with
    | zero => exact fun _ => ⟨Int.le_refl 0, by show (0 : Int) < ((1 : Nat) : Int); decide⟩
    | succ n ih =>
      intro hn
      have h1 := ih (by omega)
      have h2 := h n (by omega) (by omega)
      show 0 ≤ 10 * dgX TX i n + TX (i + n) - 48 ∧ 10 * dgX TX i n + TX (i + n) - 48 < ((10 ^ (n + 1) : Nat) : Int)
      rw [Nat.pow_succ]
      omega
  by_cases h0 : 0 ≤ e
  · have h1 := hb e.toNat (by omega)
    have hp : (10 : Nat) ^ e.toNat ≤ 10 ^ 5 := Nat.pow_le_pow_right (by decide) (by omega)
    have h5 : (10 : Nat) ^ 5 = 100000 := rfl
    rw [h5] at hp
    omega
  · rw [show e.toNat = 0 by omega]
    exact ⟨Int.le_refl 0, by show (0 : Int) ≤ 99999; decide⟩
/-- what a whole text leaves: its row of marks, its change, its number -/
def Read (TX : Int → Int) (s0 : rdS) (k xm : Int) (M : Int → Int) (mn ch am : Int) : Prop := ∃ s : rdS, rdGo TX xm.toNat 0 s0 = (xm, s) ∧ (s.1 4 = 5 ∧ 0 < s.1 3) ∧ s.1 1 = ch ∧ s.1 2 = am ∧ 0 ≤ s.1 0 ∧ (ch = 43 ∨ ch = 45 ∨ ch = 42) ∧ (0 ≤ am ∧ am ≤ 99999) ∧ MR M k mn (fun φ => [(evN φ s.2 (s.1 0).toNat).1.1 || (evN φ s.2 (s.1 0).toNat).1.2.1])
/-- behind the '?' -/
theorem E_stop {TX : Int → Int} {s0 s : rdS} {n xm : Int} (hR : Rn TX s0 n s) (h4 : s.1 4 = 4) (hn : n ≤ xm) (hc : ¬ (sgV TX xm n = 43 ∨ sgV TX xm n = 45 ∨ sgV TX xm n = 42)) : rStop TX s0 xm n := by
  refine stop_of hR hn (fun hx => ?_) (fun _ => by omega)
  rw [sgV_c hx] at hc
  unfold rdAll
  rw [h4, if_neg (by decide), if_neg (by decide), if_neg (by decide), if_neg (by decide), if_pos rfl]
  exact decide_eq_false hc
theorem E_num {TX : Int → Int} {s0 s : rdS} {k n xm e mn : Int} {M : Int → Int} (hR : Rn TX s0 n s) (h4 : s.1 4 = 4) (h0 : 0 ≤ s.1 0) (hn : n < xm) (hc : sgV TX xm n = 43 ∨ sgV TX xm n = 45 ∨ sgV TX xm n = 42)
    (hM : MR M k mn (fun φ => [(evN φ s.2 (s.1 0).toNat).1.1 || (evN φ s.2 (s.1 0).toNat).1.2.1]))
    (he : 0 ≤ e ∧ e ≤ 5) (hd : ∀ j : Int, 0 ≤ j → j < e → n + 1 + j < xm ∧ 48 ≤ TX (n + 1 + j) ∧ TX (n + 1 + j) ≤ 57) (hq : e = 5 ∨ ¬ (48 ≤ sgV TX xm (n + 1 + e) ∧ sgV TX xm (n + 1 + e) ≤ 57)) (hle : n + 1 + e ≤ xm) :
    (0 < e ∧ n + 1 + e = xm → Read TX s0 k xm M mn (sgV TX xm n) (dgX TX (n + 1) e.toNat)) ∧ (¬ (0 < e ∧ n + 1 + e = xm) → rStop TX s0 xm (n + 1 + e)) := by
  rw [sgV_c hn] at hc
  have hs : rdAll (TX n) s = (true, (numR (updZ s.1 1 (TX n)) 5, s.2)) := by
    unfold rdAll
    rw [h4, if_neg (by decide), if_neg (by decide), if_neg (by decide), if_neg (by decide), if_pos rfl]
    show (decide (TX n = 43 ∨ TX n = 45 ∨ TX n = 42), _) = (true, _)
    rw [decide_eq_true hc]
  have hR2 := Rn_s hR hs
  generalize hs2 : ((numR (updZ s.1 1 (TX n)) 5, s.2) : rdS) = s2 at hR2
  obtain ⟨s3, r3, q4, q3, q2, qT, q0, q1, q5, q6, q7⟩ := dg_run (xm := xm) (p := 5) (Or.inr rfl) hR2 (by rw [← hs2]; rfl) (by rw [← hs2]; rfl) (by rw [← hs2]; rfl) e.toNat (by omega) (fun j a b => hd j a (by omega))
  rw [show ((e.toNat : Nat) : Int) = e by omega] at r3 q3
  have w0 : s3.1 0 = s.1 0 := by rw [q0, ← hs2]; rfl
  have w1 : s3.1 1 = TX n := by rw [q1, ← hs2]; rfl
  have wT : s3.2 = s.2 := by rw [qT, ← hs2]
  constructor
  · rintro ⟨hp, hx⟩
    rw [hx] at r3
    refine ⟨s3, rdGo_e r3, ⟨q4, by omega⟩, by rw [w1, sgV_c hn], q2, by omega, by rw [sgV_c hn]; exact hc, dgX_5 he.2 (fun j a b => (hd j a b).2), ?_⟩
    rw [w0, wT]
    exact hM
  · intro hne
    refine stop_of r3 hle (fun hx => ?_) (fun hx z => hne ⟨by omega, hx⟩)
    unfold rdAll
    rw [q4, if_neg (by decide), if_neg (by decide), if_neg (by decide), if_neg (by decide), if_neg (by decide)]
    rw [sgV_c hx] at hq
    have hg : rdDig (TX (n + 1 + e)) s3 = (false, s3) := if_neg (fun z => by have := z.1; have := z.2.1; have := z.2.2; omega)
    rw [hg]
theorem Read_stop {TX : Int → Int} {s0 : rdS} {k xm : Int} {M : Int → Int} {mn ch am n : Int} (h : Read TX s0 k xm M mn ch am) : ¬ rStop TX s0 xm n := by
  obtain ⟨s, e, hc, -⟩ := h
  intro z
  have z1 := z.1
  have z2 := z.2
  rw [e] at z1 z2
  exact z2 z1.symm hc
/-! the rows of the other rules stay -/
def FRM (k : Int) (M N M2 N2 : Int → Int) : Prop := (∀ j : Int, j < 200 * k ∨ 200 * k + 200 ≤ j → M2 j = M j) ∧ ∀ j : Int, j ≠ k → N2 j = N j
theorem FRM.refl (k : Int) (M N : Int → Int) : FRM k M N M N := ⟨fun _ _ => rfl, fun _ _ => rfl⟩
theorem FRM.trans {k : Int} {M N M2 N2 M3 N3 : Int → Int} (h : FRM k M N M2 N2) (h2 : FRM k M2 N2 M3 N3) : FRM k M N M3 N3 := ⟨fun j hj => (h2.1 j hj).trans (h.1 j hj), fun j hj => (h2.2 j hj).trans (h.2 j hj)⟩
theorem FRM.put {k n a b c x : Int} {M N M2 N2 : Int → Int} (h : FRM k M N M2 N2) (h0 : 0 ≤ n ∧ n ≤ 64) : FRM k M N (putM M2 k n a b c) (updZ N2 k x) := ⟨fun j hj => (putM_lo M2 k n a b c (by omega)).trans (h.1 j hj), fun j hj => (updZ_ne N2 x hj).trans (h.2 j hj)⟩
theorem FRM.jn {k n c wm x : Int} {WT M N M2 N2 : Int → Int} (h : FRM k M N M2 N2) (h0 : 0 ≤ n ∧ 0 ≤ c ∧ n + c ≤ 64) : FRM k M N (jnK M2 WT k n wm c.toNat) (updZ N2 k x) := ⟨fun j hj => (jnK_lo M2 WT c.toNat (by omega)).trans (h.1 j hj), fun j hj => (updZ_ne N2 x hj).trans (h.2 j hj)⟩
theorem FRM.cut {k x : Int} {M N : Int → Int} : FRM k M N M (updZ N k x) := ⟨fun _ _ => rfl, fun j hj => updZ_ne N x hj⟩
/-- behind a comparison, before its settles(0) -/
def JD (TX : Int → Int) (s0 : rdS) (k xm n wm : Int) (WT M : Int → Int) (mn : Int) : Prop := ∀ c : Int, (0 ≤ c ∧ c ≤ wm) → (∀ j : Int, 0 ≤ j → j < c → popQ (WT (wm - 1 - j)) 0) → (c = wm ∨ ¬ popQ (WT (wm - c - 1)) 0) → JC TX s0 k xm n (wm - c) WT (jnK M WT k mn wm c.toNat) (mn + c)

set_option maxHeartbeats 4000000 in
set_option maxRecDepth 100000 in
theorem c_X7_settles {w : gW} {l : Launch} {S : Nat → va_E} {pm tm xm at_ wm wh : Int} {ir : Bool} {V PV TY TX MK MM CH AM WT WK FL PI : Int → Int} (hN : gw_N w = 105) (hm : modelAt w pm tm xm at_ wm wh ir V PV TY TX MK MM CH AM WT WK FL PI S) (hwh : 0 ≤ wh ∧ wh < 8) (hmw : 0 ≤ MM wh ∧ 0 ≤ wm ∧ MM wh + wm ≤ 60) (hWT : ∀ i, inI (WT i)) {dd : Int} (hdd : 0 ≤ dd ∧ dd ≤ 2) :
    GM0 w l yX7_settles wsX7_settles { frames := 2, cells := 0, slots := 0, locals := 44 } [.ref (gw_ad w 92), vI (dd)] S
      (fun S' => ∃ c : Int, (0 ≤ c ∧ c ≤ wm) ∧ (∀ j : Int, 0 ≤ j → j < c → popQ (WT (wm - 1 - j)) dd) ∧ (c = wm ∨ ¬ popQ (WT (wm - c - 1)) dd) ∧ POSTM w S pm tm xm at_ (wm - c) wh ir V PV TY TX (jnK MK WT wh (MM wh) wm c.toNat) (updZ MM wh (MM wh + c)) CH AM WT WK FL PI S') := by
  refine GM.start (own := RX7) (n := "settles") (d := "(I)V") (by decide) rfl (Nat.le_of_ble_eq_true rfl) ?_
  intro X hX hR hXl
  subst hXl
  refine g_at rfl (lv2 := [(0, .ref (gw_ad w 92)), (1, vI (dd))]) rfl rfl rfl ?_
  obtain ⟨⟨m92, m93, m94⟩, ⟨m95, m96⟩, ⟨m97, m98, m99, m100, m101⟩, ⟨m102, m103, m104⟩⟩ := (id hm)
  have lp : ∀ (n0 : Nat) (c : Int) (wm1 : Int) (MK1 : Int → Int) (MM1 : Int → Int) (Slp : Nat → va_E), wm1 < n0 → POSTM w S pm tm xm at_ wm1 wh ir V PV TY TX MK1 MM1 CH AM WT WK FL PI Slp → (0 ≤ c ∧ c ≤ wm) → (wm1 = wm - c) → (MK1 = jnK MK WT wh (MM wh) wm c.toNat) → (MM1 = updZ MM wh (MM wh + c)) → (∀ j : Int, 0 ≤ j → j < c → popQ (WT (wm - 1 - j)) dd) → G w { frames := 2, cells := 0, slots := 0, locals := 44 } X 2 0 [(0, .ref (gw_ad w 92)), (1, vI (dd))] [] Slp := by
    intro n0
    induction n0 with
    | zero => intro c wm1 MK1 MM1 Slp hzlp hQlp hc0 hw hK hM hpq; exact absurd hzlp (by omega)
    | succ n0 ihlp =>
      intro c wm1 MK1 MM1 Slp hzlp hQlp hc0 hw hK hM hpq
      obtain ⟨⟨lp_92, lp_93, lp_94⟩, ⟨lp_95, lp_96⟩, ⟨lp_97, lp_98, lp_99, lp_100, lp_101⟩, ⟨lp_102, lp_103, lp_104⟩⟩ := hQlp.1
      have hMv : MM1 wh = MM wh + c := by rw [hM, updZ_eq]
      have hWc := hWT (wm1 - 1)
      refine g_aload_n (pc := 0) hX 0 rfl dX7_settles_0 ?_
      refine g_get (pc := 1) hX (ci := 7) (fun _ h => List.mem_cons_of_mem _ (List.mem_append_right _ h)) rfl 92 (by omega) lp_92 13 (by decide) (List.mem_of_getElem? (i := 1) rfl) rfl (v := vI (wm1)) rfl dX7_settles_1 ?_
      refine g_if_le (pc := 4) (tgt := 71) hX (by first | assumption | exact inI_mk (by omega) (by omega)) dX7_settles_4 (by decide) (fun c_4 => ?_) (fun c_4 => ?_)
      · skip
        refine g_vret (pc := 71) hX hR dX7_settles_71 ?_
        refine ⟨c, hc0, hpq, Or.inl (by omega), ?_⟩
        rw [← hw, ← hK, ← hM]
        exact ⟨⟨⟨lp_92, lp_93, lp_94⟩, ⟨lp_95, lp_96⟩, ⟨lp_97, lp_98, lp_99, lp_100, lp_101⟩, ⟨lp_102, lp_103, lp_104⟩⟩, fun q hq => ((hQlp.2 q hq).trans rfl)⟩
      · skip
        refine g_aload_n (pc := 7) hX 0 rfl dX7_settles_7 ?_
        refine g_get (pc := 8) hX (ci := 7) (fun _ h => List.mem_cons_of_mem _ (List.mem_append_right _ h)) rfl 92 (by omega) lp_92 12 (by decide) (List.mem_of_getElem? (i := 2) rfl) rfl (v := .ref (gw_ad w 101)) rfl dX7_settles_8 ?_
        refine g_aload_n (pc := 11) hX 0 rfl dX7_settles_11 ?_
        refine g_get (pc := 12) hX (ci := 7) (fun _ h => List.mem_cons_of_mem _ (List.mem_append_right _ h)) rfl 92 (by omega) lp_92 13 (by decide) (List.mem_of_getElem? (i := 1) rfl) rfl (v := vI (wm1)) rfl dX7_settles_12 ?_
        refine g_iconst (pc := 15) hX dX7_settles_15 ?_
        refine g_isub (pc := 16) hX dX7_settles_16 ?_
        refine g_iald (pc := 17) hX 101 (by omega) lp_101 (by omega) (by omega) (by decide) dX7_settles_17 ?_
        refine g_bipush (pc := 18) hX (by decide) dX7_settles_18 ?_
        refine g_icmp_eq (pc := 20) (tgt := 64) hX hWc (by first | assumption | exact inI_mk (by omega) (by omega)) dX7_settles_20 (by decide) (fun c_20 => ?_) (fun c_20 => ?_)
        · skip
          refine g_aload_n (pc := 64) hX 0 rfl dX7_settles_64 ?_
          refine g_callV0 (pc := 65) (ci := 7) (As := []) (st2 := []) hX 92 (by omega) lp_92 rfl (c_X7_joins hN (show modelAt w pm tm xm at_ wm1 wh ir V PV TY TX MK1 MM1 CH AM WT WK FL PI Slp from ⟨⟨lp_92, lp_93, lp_94⟩, ⟨lp_95, lp_96⟩, ⟨lp_97, lp_98, lp_99, lp_100, lp_101⟩, ⟨lp_102, lp_103, lp_104⟩⟩) hwh (by omega) (by omega)) gX7_settles_X7_joins (n := 0) (hw := rfl) (hrc := rfl) (hrs := rfl) (hd := by decide +kernel) (hR := ⟨Nat.le_of_ble_eq_true rfl, Nat.le_of_ble_eq_true rfl⟩) (hn := rfl) (hst := rfl) (hsum := Nat.le_of_ble_eq_true rfl) (hdg := dX7_settles_65) ?_
          rintro S65 hP65
          obtain ⟨⟨m65_92, m65_93, m65_94⟩, ⟨m65_95, m65_96⟩, ⟨m65_97, m65_98, m65_99, m65_100, m65_101⟩, ⟨m65_102, m65_103, m65_104⟩⟩ := hP65.1
          refine g_at (pc2 := 68) rfl rfl (st2 := []) rfl (S2 := S65) rfl ?_
          refine g_goto (pc := 68) (tgt := 0) hX dX7_settles_68 (by decide) ?_
          refine g_sub (lv2 := [(0, .ref (gw_ad w 92)), (1, vI (dd))]) [0, 1] rfl ?_
          exact ihlp (c + 1) (wm1 - 1) (putM MK1 wh (MM1 wh) (WT (wm1 - 1)) 0 0) (updZ MM1 wh (MM1 wh + 1)) _ (by omega) (show POSTM w S pm tm xm at_ (wm1 - 1) wh ir V PV TY TX (putM MK1 wh (MM1 wh) (WT (wm1 - 1)) 0 0) (updZ MM1 wh (MM1 wh + 1)) CH AM WT WK FL PI S65 from ⟨⟨⟨m65_92, m65_93, m65_94⟩, ⟨m65_95, m65_96⟩, ⟨m65_97, m65_98, m65_99, m65_100, m65_101⟩, ⟨m65_102, m65_103, m65_104⟩⟩, fun q hq => ((hP65.2 q hq).trans ((hQlp.2 q hq).trans rfl))⟩) (⟨by omega, by omega⟩) (by omega) (by rw [jnK_s MK WT wh (MM wh) wm hc0.1, hMv, hK, show wm1 - 1 = wm - c - 1 by omega]) (by rw [hMv, hM, updZ_2, Int.add_assoc]) (fun j a b => (Int.lt_or_eq_of_le (show j ≤ c by omega)).elim (fun h => hpq j a h) (fun h => by rw [h, show wm - 1 - c = wm1 - 1 by omega]; unfold popQ; omega))
        · skip
          refine g_aload_n (pc := 23) hX 0 rfl dX7_settles_23 ?_
          refine g_get (pc := 24) hX (ci := 7) (fun _ h => List.mem_cons_of_mem _ (List.mem_append_right _ h)) rfl 92 (by omega) lp_92 12 (by decide) (List.mem_of_getElem? (i := 2) rfl) rfl (v := .ref (gw_ad w 101)) rfl dX7_settles_24 ?_
          refine g_aload_n (pc := 27) hX 0 rfl dX7_settles_27 ?_
          refine g_get (pc := 28) hX (ci := 7) (fun _ h => List.mem_cons_of_mem _ (List.mem_append_right _ h)) rfl 92 (by omega) lp_92 13 (by decide) (List.mem_of_getElem? (i := 1) rfl) rfl (v := vI (wm1)) rfl dX7_settles_28 ?_
          refine g_iconst (pc := 31) hX dX7_settles_31 ?_
          refine g_isub (pc := 32) hX dX7_settles_32 ?_
          refine g_iald (pc := 33) hX 101 (by omega) lp_101 (by omega) (by omega) (by decide) dX7_settles_33 ?_
          refine g_bipush (pc := 34) hX (by decide) dX7_settles_34 ?_
          refine g_icmp_ne (pc := 36) (tgt := 43) hX hWc (by first | assumption | exact inI_mk (by omega) (by omega)) dX7_settles_36 (by decide) (fun c_36 => ?_) (fun c_36 => ?_)
          · skip
            refine g_aload_n (pc := 43) hX 0 rfl dX7_settles_43 ?_
            refine g_get (pc := 44) hX (ci := 7) (fun _ h => List.mem_cons_of_mem _ (List.mem_append_right _ h)) rfl 92 (by omega) lp_92 12 (by decide) (List.mem_of_getElem? (i := 2) rfl) rfl (v := .ref (gw_ad w 101)) rfl dX7_settles_44 ?_
            refine g_aload_n (pc := 47) hX 0 rfl dX7_settles_47 ?_
            refine g_get (pc := 48) hX (ci := 7) (fun _ h => List.mem_cons_of_mem _ (List.mem_append_right _ h)) rfl 92 (by omega) lp_92 13 (by decide) (List.mem_of_getElem? (i := 1) rfl) rfl (v := vI (wm1)) rfl dX7_settles_48 ?_
            refine g_iconst (pc := 51) hX dX7_settles_51 ?_
            refine g_isub (pc := 52) hX dX7_settles_52 ?_
            refine g_iald (pc := 53) hX 101 (by omega) lp_101 (by omega) (by omega) (by decide) dX7_settles_53 ?_
            refine g_bipush (pc := 54) hX (by decide) dX7_settles_54 ?_
            refine g_icmp_ne (pc := 56) (tgt := 71) hX hWc (by first | assumption | exact inI_mk (by omega) (by omega)) dX7_settles_56 (by decide) (fun c_56 => ?_) (fun c_56 => ?_)
            · skip
              refine g_vret (pc := 71) hX hR dX7_settles_71 ?_
              refine ⟨c, hc0, hpq, Or.inr (by unfold popQ; rw [show wm - c - 1 = wm1 - 1 by omega]; omega), ?_⟩
              rw [← hw, ← hK, ← hM]
              exact ⟨⟨⟨lp_92, lp_93, lp_94⟩, ⟨lp_95, lp_96⟩, ⟨lp_97, lp_98, lp_99, lp_100, lp_101⟩, ⟨lp_102, lp_103, lp_104⟩⟩, fun q hq => ((hQlp.2 q hq).trans rfl)⟩
            · skip
              refine g_iload_n (pc := 59) hX 1 rfl dX7_settles_59 ?_
              refine g_iconst (pc := 60) hX dX7_settles_60 ?_
              refine g_icmp_le (pc := 61) (tgt := 71) hX (by first | assumption | exact inI_mk (by omega) (by omega)) (by first | assumption | exact inI_mk (by omega) (by omega)) dX7_settles_61 (by decide) (fun c_61 => ?_) (fun c_61 => ?_)
              · skip
                refine g_vret (pc := 71) hX hR dX7_settles_71 ?_
                refine ⟨c, hc0, hpq, Or.inr (by unfold popQ; rw [show wm - c - 1 = wm1 - 1 by omega]; omega), ?_⟩
                rw [← hw, ← hK, ← hM]
                exact ⟨⟨⟨lp_92, lp_93, lp_94⟩, ⟨lp_95, lp_96⟩, ⟨lp_97, lp_98, lp_99, lp_100, lp_101⟩, ⟨lp_102, lp_103, lp_104⟩⟩, fun q hq => ((hQlp.2 q hq).trans rfl)⟩
              · skip
                refine g_aload_n (pc := 64) hX 0 rfl dX7_settles_64 ?_
                refine g_callV0 (pc := 65) (ci := 7) (As := []) (st2 := []) hX 92 (by omega) lp_92 rfl (c_X7_joins hN (show modelAt w pm tm xm at_ wm1 wh ir V PV TY TX MK1 MM1 CH AM WT WK FL PI Slp from ⟨⟨lp_92, lp_93, lp_94⟩, ⟨lp_95, lp_96⟩, ⟨lp_97, lp_98, lp_99, lp_100, lp_101⟩, ⟨lp_102, lp_103, lp_104⟩⟩) hwh (by omega) (by omega)) gX7_settles_X7_joins (n := 0) (hw := rfl) (hrc := rfl) (hrs := rfl) (hd := by decide +kernel) (hR := ⟨Nat.le_of_ble_eq_true rfl, Nat.le_of_ble_eq_true rfl⟩) (hn := rfl) (hst := rfl) (hsum := Nat.le_of_ble_eq_true rfl) (hdg := dX7_settles_65) ?_
                rintro S65 hP65
                obtain ⟨⟨m65_92, m65_93, m65_94⟩, ⟨m65_95, m65_96⟩, ⟨m65_97, m65_98, m65_99, m65_100, m65_101⟩, ⟨m65_102, m65_103, m65_104⟩⟩ := hP65.1
                refine g_at (pc2 := 68) rfl rfl (st2 := []) rfl (S2 := S65) rfl ?_
                refine g_goto (pc := 68) (tgt := 0) hX dX7_settles_68 (by decide) ?_
                refine g_sub (lv2 := [(0, .ref (gw_ad w 92)), (1, vI (dd))]) [0, 1] rfl ?_
                exact ihlp (c + 1) (wm1 - 1) (putM MK1 wh (MM1 wh) (WT (wm1 - 1)) 0 0) (updZ MM1 wh (MM1 wh + 1)) _ (by omega) (show POSTM w S pm tm xm at_ (wm1 - 1) wh ir V PV TY TX (putM MK1 wh (MM1 wh) (WT (wm1 - 1)) 0 0) (updZ MM1 wh (MM1 wh + 1)) CH AM WT WK FL PI S65 from ⟨⟨⟨m65_92, m65_93, m65_94⟩, ⟨m65_95, m65_96⟩, ⟨m65_97, m65_98, m65_99, m65_100, m65_101⟩, ⟨m65_102, m65_103, m65_104⟩⟩, fun q hq => ((hP65.2 q hq).trans ((hQlp.2 q hq).trans rfl))⟩) (⟨by omega, by omega⟩) (by omega) (by rw [jnK_s MK WT wh (MM wh) wm hc0.1, hMv, hK, show wm1 - 1 = wm - c - 1 by omega]) (by rw [hMv, hM, updZ_2, Int.add_assoc]) (fun j a b => (Int.lt_or_eq_of_le (show j ≤ c by omega)).elim (fun h => hpq j a h) (fun h => by rw [h, show wm - 1 - c = wm1 - 1 by omega]; unfold popQ; omega))
          · skip
            refine g_iload_n (pc := 39) hX 1 rfl dX7_settles_39 ?_
            refine g_if_gt (pc := 40) (tgt := 64) hX (by first | assumption | exact inI_mk (by omega) (by omega)) dX7_settles_40 (by decide) (fun c_40 => ?_) (fun c_40 => ?_)
            · skip
              refine g_aload_n (pc := 64) hX 0 rfl dX7_settles_64 ?_
              refine g_callV0 (pc := 65) (ci := 7) (As := []) (st2 := []) hX 92 (by omega) lp_92 rfl (c_X7_joins hN (show modelAt w pm tm xm at_ wm1 wh ir V PV TY TX MK1 MM1 CH AM WT WK FL PI Slp from ⟨⟨lp_92, lp_93, lp_94⟩, ⟨lp_95, lp_96⟩, ⟨lp_97, lp_98, lp_99, lp_100, lp_101⟩, ⟨lp_102, lp_103, lp_104⟩⟩) hwh (by omega) (by omega)) gX7_settles_X7_joins (n := 0) (hw := rfl) (hrc := rfl) (hrs := rfl) (hd := by decide +kernel) (hR := ⟨Nat.le_of_ble_eq_true rfl, Nat.le_of_ble_eq_true rfl⟩) (hn := rfl) (hst := rfl) (hsum := Nat.le_of_ble_eq_true rfl) (hdg := dX7_settles_65) ?_
              rintro S65 hP65
              obtain ⟨⟨m65_92, m65_93, m65_94⟩, ⟨m65_95, m65_96⟩, ⟨m65_97, m65_98, m65_99, m65_100, m65_101⟩, ⟨m65_102, m65_103, m65_104⟩⟩ := hP65.1
              refine g_at (pc2 := 68) rfl rfl (st2 := []) rfl (S2 := S65) rfl ?_
              refine g_goto (pc := 68) (tgt := 0) hX dX7_settles_68 (by decide) ?_
              refine g_sub (lv2 := [(0, .ref (gw_ad w 92)), (1, vI (dd))]) [0, 1] rfl ?_
              exact ihlp (c + 1) (wm1 - 1) (putM MK1 wh (MM1 wh) (WT (wm1 - 1)) 0 0) (updZ MM1 wh (MM1 wh + 1)) _ (by omega) (show POSTM w S pm tm xm at_ (wm1 - 1) wh ir V PV TY TX (putM MK1 wh (MM1 wh) (WT (wm1 - 1)) 0 0) (updZ MM1 wh (MM1 wh + 1)) CH AM WT WK FL PI S65 from ⟨⟨⟨m65_92, m65_93, m65_94⟩, ⟨m65_95, m65_96⟩, ⟨m65_97, m65_98, m65_99, m65_100, m65_101⟩, ⟨m65_102, m65_103, m65_104⟩⟩, fun q hq => ((hP65.2 q hq).trans ((hQlp.2 q hq).trans rfl))⟩) (⟨by omega, by omega⟩) (by omega) (by rw [jnK_s MK WT wh (MM wh) wm hc0.1, hMv, hK, show wm1 - 1 = wm - c - 1 by omega]) (by rw [hMv, hM, updZ_2, Int.add_assoc]) (fun j a b => (Int.lt_or_eq_of_le (show j ≤ c by omega)).elim (fun h => hpq j a h) (fun h => by rw [h, show wm - 1 - c = wm1 - 1 by omega]; unfold popQ; omega))
            · skip
              refine g_aload_n (pc := 43) hX 0 rfl dX7_settles_43 ?_
              refine g_get (pc := 44) hX (ci := 7) (fun _ h => List.mem_cons_of_mem _ (List.mem_append_right _ h)) rfl 92 (by omega) lp_92 12 (by decide) (List.mem_of_getElem? (i := 2) rfl) rfl (v := .ref (gw_ad w 101)) rfl dX7_settles_44 ?_
              refine g_aload_n (pc := 47) hX 0 rfl dX7_settles_47 ?_
              refine g_get (pc := 48) hX (ci := 7) (fun _ h => List.mem_cons_of_mem _ (List.mem_append_right _ h)) rfl 92 (by omega) lp_92 13 (by decide) (List.mem_of_getElem? (i := 1) rfl) rfl (v := vI (wm1)) rfl dX7_settles_48 ?_
              refine g_iconst (pc := 51) hX dX7_settles_51 ?_
              refine g_isub (pc := 52) hX dX7_settles_52 ?_
              refine g_iald (pc := 53) hX 101 (by omega) lp_101 (by omega) (by omega) (by decide) dX7_settles_53 ?_
              refine g_bipush (pc := 54) hX (by decide) dX7_settles_54 ?_
              refine g_icmp_ne (pc := 56) (tgt := 71) hX hWc (by first | assumption | exact inI_mk (by omega) (by omega)) dX7_settles_56 (by decide) (fun c_56 => ?_) (fun c_56 => ?_)
              · skip
                refine g_vret (pc := 71) hX hR dX7_settles_71 ?_
                refine ⟨c, hc0, hpq, Or.inr (by unfold popQ; rw [show wm - c - 1 = wm1 - 1 by omega]; omega), ?_⟩
                rw [← hw, ← hK, ← hM]
                exact ⟨⟨⟨lp_92, lp_93, lp_94⟩, ⟨lp_95, lp_96⟩, ⟨lp_97, lp_98, lp_99, lp_100, lp_101⟩, ⟨lp_102, lp_103, lp_104⟩⟩, fun q hq => ((hQlp.2 q hq).trans rfl)⟩
              · skip
                refine g_iload_n (pc := 59) hX 1 rfl dX7_settles_59 ?_
                refine g_iconst (pc := 60) hX dX7_settles_60 ?_
                refine g_icmp_le (pc := 61) (tgt := 71) hX (by first | assumption | exact inI_mk (by omega) (by omega)) (by first | assumption | exact inI_mk (by omega) (by omega)) dX7_settles_61 (by decide) (fun c_61 => ?_) (fun c_61 => ?_)
                · skip
                  refine g_vret (pc := 71) hX hR dX7_settles_71 ?_
                  refine ⟨c, hc0, hpq, Or.inr (by unfold popQ; rw [show wm - c - 1 = wm1 - 1 by omega]; omega), ?_⟩
                  rw [← hw, ← hK, ← hM]
                  exact ⟨⟨⟨lp_92, lp_93, lp_94⟩, ⟨lp_95, lp_96⟩, ⟨lp_97, lp_98, lp_99, lp_100, lp_101⟩, ⟨lp_102, lp_103, lp_104⟩⟩, fun q hq => ((hQlp.2 q hq).trans rfl)⟩
                · skip
                  refine g_aload_n (pc := 64) hX 0 rfl dX7_settles_64 ?_
                  refine g_callV0 (pc := 65) (ci := 7) (As := []) (st2 := []) hX 92 (by omega) lp_92 rfl (c_X7_joins hN (show modelAt w pm tm xm at_ wm1 wh ir V PV TY TX MK1 MM1 CH AM WT WK FL PI Slp from ⟨⟨lp_92, lp_93, lp_94⟩, ⟨lp_95, lp_96⟩, ⟨lp_97, lp_98, lp_99, lp_100, lp_101⟩, ⟨lp_102, lp_103, lp_104⟩⟩) hwh (by omega) (by omega)) gX7_settles_X7_joins (n := 0) (hw := rfl) (hrc := rfl) (hrs := rfl) (hd := by decide +kernel) (hR := ⟨Nat.le_of_ble_eq_true rfl, Nat.le_of_ble_eq_true rfl⟩) (hn := rfl) (hst := rfl) (hsum := Nat.le_of_ble_eq_true rfl) (hdg := dX7_settles_65) ?_
                  rintro S65 hP65
                  obtain ⟨⟨m65_92, m65_93, m65_94⟩, ⟨m65_95, m65_96⟩, ⟨m65_97, m65_98, m65_99, m65_100, m65_101⟩, ⟨m65_102, m65_103, m65_104⟩⟩ := hP65.1
                  refine g_at (pc2 := 68) rfl rfl (st2 := []) rfl (S2 := S65) rfl ?_
                  refine g_goto (pc := 68) (tgt := 0) hX dX7_settles_68 (by decide) ?_
                  refine g_sub (lv2 := [(0, .ref (gw_ad w 92)), (1, vI (dd))]) [0, 1] rfl ?_
                  exact ihlp (c + 1) (wm1 - 1) (putM MK1 wh (MM1 wh) (WT (wm1 - 1)) 0 0) (updZ MM1 wh (MM1 wh + 1)) _ (by omega) (show POSTM w S pm tm xm at_ (wm1 - 1) wh ir V PV TY TX (putM MK1 wh (MM1 wh) (WT (wm1 - 1)) 0 0) (updZ MM1 wh (MM1 wh + 1)) CH AM WT WK FL PI S65 from ⟨⟨⟨m65_92, m65_93, m65_94⟩, ⟨m65_95, m65_96⟩, ⟨m65_97, m65_98, m65_99, m65_100, m65_101⟩, ⟨m65_102, m65_103, m65_104⟩⟩, fun q hq => ((hP65.2 q hq).trans ((hQlp.2 q hq).trans rfl))⟩) (⟨by omega, by omega⟩) (by omega) (by rw [jnK_s MK WT wh (MM wh) wm hc0.1, hMv, hK, show wm1 - 1 = wm - c - 1 by omega]) (by rw [hMv, hM, updZ_2, Int.add_assoc]) (fun j a b => (Int.lt_or_eq_of_le (show j ≤ c by omega)).elim (fun h => hpq j a h) (fun h => by rw [h, show wm - 1 - c = wm1 - 1 by omega]; unfold popQ; omega))
  refine g_sub (lv2 := [(0, .ref (gw_ad w 92)), (1, vI (dd))]) [0, 1] rfl ?_
  exact lp ((wm) + 1).toNat (0) (wm) (MK) (MM) _ (by omega) ⟨⟨⟨m92, m93, m94⟩, ⟨m95, m96⟩, ⟨m97, m98, m99, m100, m101⟩, ⟨m102, m103, m104⟩⟩, fun q hq => rfl⟩ (⟨by omega, by omega⟩) (by omega) (rfl) (by rw [Int.add_zero, updZ_i]) (fun j a b => absurd b (by omega))

set_option maxHeartbeats 4000000 in
set_option maxRecDepth 100000 in
theorem c_X7_comparison {w : gW} {l : Launch} {S : Nat → va_E} {pm tm xm at_ wm wh : Int} {ir : Bool} {V PV TY TX MK MM CH AM WT WK FL PI : Int → Int} (hN : gw_N w = 105) (hm : modelAt w pm tm xm at_ wm wh ir V PV TY TX MK MM CH AM WT WK FL PI S) (hwh : 0 ≤ wh ∧ wh < 8) (hmw : 0 ≤ MM wh ∧ 0 ≤ wm ∧ MM wh + wm ≤ at_) (hWT : ∀ i, inI (WT i)) (hxm : 0 ≤ xm ∧ xm ≤ 60) (hat : 0 ≤ at_ ∧ at_ ≤ xm) (hTX : ∀ i, inI (TX i)) {s0 : rdS} (hjb : JB TX s0 wh at_ wm WT MK (MM wh)) :
    GM1 w l yX7_comparison wsX7_comparison { frames := 2, cells := 0, slots := 0, locals := 47 } [.ref (gw_ad w 92)] S
      (fun v S' => ∃ (at2 wm2 : Int) (WT2 MK2 MM2 : Int → Int) (b : Bool), v = vI (bz b) ∧ POSTM w S pm tm xm at2 wm2 wh ir V PV TY TX MK2 MM2 CH AM WT2 WK FL PI S' ∧ (at_ ≤ at2 ∧ at2 ≤ xm) ∧ (0 ≤ wm2 ∧ 0 ≤ MM2 wh ∧ MM2 wh + wm2 ≤ at2) ∧ (∀ i, inI (WT2 i)) ∧ FRM wh MK MM MK2 MM2 ∧ (b = false → rStop TX s0 xm at2) ∧ (b = true → at_ < at2 ∧ JD TX s0 wh xm at2 wm2 WT2 MK2 (MM2 wh))) := by
  refine GM.start (own := RX7) (n := "comparison") (d := "()Z") (by decide) rfl (Nat.le_of_ble_eq_true rfl) ?_
  intro X hX hR hXl
  subst hXl
  refine g_at rfl (lv2 := [(0, .ref (gw_ad w 92))]) rfl rfl rfl ?_
  obtain ⟨⟨m92, m93, m94⟩, ⟨m95, m96⟩, ⟨m97, m98, m99, m100, m101⟩, ⟨m102, m103, m104⟩⟩ := (id hm)
  have lp : ∀ (n0 : Nat) (c : Int) (at1 : Int) (wm1 : Int) (WT1 : Int → Int) (Slp : Nat → va_E), xm - at1 < n0 → POSTM w S pm tm xm at1 wm1 wh ir V PV TY TX MK MM CH AM WT1 WK FL PI Slp → (0 ≤ c ∧ at_ + c ≤ xm) → (at1 = at_ + c) → (wm1 = wm + c) → (WT1 = pfW WT TX wm at_ c) → (∀ j : Int, 0 ≤ j → j < c → TX (at_ + j) = 126 ∨ TX (at_ + j) = 40) → G w { frames := 2, cells := 0, slots := 0, locals := 47 } X 4 0 [(0, .ref (gw_ad w 92))] [] Slp := by
    intro n0
    induction n0 with
    | zero => intro c at1 wm1 WT1 Slp hzlp hQlp hc0 hat1 hwm1 hW hpf; exact absurd hzlp (by omega)
    | succ n0 ihlp =>
      intro c at1 wm1 WT1 Slp hzlp hQlp hc0 hat1 hwm1 hW hpf
      obtain ⟨⟨lp_92, lp_93, lp_94⟩, ⟨lp_95, lp_96⟩, ⟨lp_97, lp_98, lp_99, lp_100, lp_101⟩, ⟨lp_102, lp_103, lp_104⟩⟩ := hQlp.1
      have hs1 := sgV_in hTX xm at1
      refine g_aload_n (pc := 0) hX 0 rfl dX7_comparison_0 ?_
      refine g_callV1 (pc := 1) (ci := 7) (As := []) (st2 := []) hX 92 (by omega) lp_92 rfl (c_X7_sign hN (show modelAt w pm tm xm at1 wm1 wh ir V PV TY TX MK MM CH AM WT1 WK FL PI Slp from ⟨⟨lp_92, lp_93, lp_94⟩, ⟨lp_95, lp_96⟩, ⟨lp_97, lp_98, lp_99, lp_100, lp_101⟩, ⟨lp_102, lp_103, lp_104⟩⟩) hxm (by omega) hTX) gX7_comparison_X7_sign (n := 0) (hw := rfl) (hrc := rfl) (hrs := rfl) (hd := by decide +kernel) (hR := ⟨Nat.le_of_ble_eq_true rfl, Nat.le_of_ble_eq_true rfl⟩) (hn := rfl) (hst := rfl) (hsum := Nat.le_of_ble_eq_true rfl) (hdg := dX7_comparison_1) ?_
      rintro _ S9 ⟨rfl, e9⟩
      rw [e9]
      clear e9 S9
      refine g_at (pc2 := 4) rfl rfl (st2 := [vI (sgV TX xm at1)]) rfl (S2 := Slp) rfl ?_
      refine g_bipush (pc := 4) hX (by decide) dX7_comparison_4 ?_
      refine g_icmp_eq (pc := 6) (tgt := 18) hX hs1 (by first | assumption | exact inI_mk (by omega) (by omega)) dX7_comparison_6 (by decide) (fun c_6 => ?_) (fun c_6 => ?_)
      · skip
        have hlt : at1 < xm := sgV_lt (TX := TX) (by omega)
        refine g_aload_n (pc := 18) hX 0 rfl dX7_comparison_18 ?_
        refine g_get (pc := 19) hX (ci := 7) (fun _ h => List.mem_cons_of_mem _ (List.mem_append_right _ h)) rfl 92 (by omega) lp_92 12 (by decide) (List.mem_of_getElem? (i := 1) rfl) rfl (v := .ref (gw_ad w 101)) rfl dX7_comparison_19 ?_
        refine g_aload_n (pc := 22) hX 0 rfl dX7_comparison_22 ?_
        refine g_get (pc := 23) hX (ci := 7) (fun _ h => List.mem_cons_of_mem _ (List.mem_append_right _ h)) rfl 92 (by omega) lp_92 13 (by decide) (List.mem_of_getElem? (i := 2) rfl) rfl (v := vI (wm1)) rfl dX7_comparison_23 ?_
        refine g_aload_n (pc := 26) hX 0 rfl dX7_comparison_26 ?_
        refine g_callV1 (pc := 27) (ci := 7) (As := []) (st2 := [vI (wm1), .ref (gw_ad w 101)]) hX 92 (by omega) lp_92 rfl (c_X7_sign hN (show modelAt w pm tm xm at1 wm1 wh ir V PV TY TX MK MM CH AM WT1 WK FL PI Slp from ⟨⟨lp_92, lp_93, lp_94⟩, ⟨lp_95, lp_96⟩, ⟨lp_97, lp_98, lp_99, lp_100, lp_101⟩, ⟨lp_102, lp_103, lp_104⟩⟩) hxm (by omega) hTX) gX7_comparison_X7_sign (n := 0) (hw := rfl) (hrc := rfl) (hrs := rfl) (hd := by decide +kernel) (hR := ⟨Nat.le_of_ble_eq_true rfl, Nat.le_of_ble_eq_true rfl⟩) (hn := rfl) (hst := rfl) (hsum := Nat.le_of_ble_eq_true rfl) (hdg := dX7_comparison_27) ?_
        rintro _ S9 ⟨rfl, e9⟩
        rw [e9]
        clear e9 S9
        refine g_at (pc2 := 30) rfl rfl (st2 := [vI (sgV TX xm at1), vI (wm1), .ref (gw_ad w 101)]) rfl (S2 := Slp) rfl ?_
        refine g_iast (pc := 30) hX 101 (by omega) lp_101 (by omega) (by omega) (by decide) dX7_comparison_30 ?_
        refine g_at rfl rfl rfl (S2 := (va_up Slp 101 (AI w 64 (updZ (WT1) (wm1) (sgV TX xm at1))))) rfl ?_
        refine g_aload_n (pc := 31) hX 0 rfl dX7_comparison_31 ?_
        refine g_dup (pc := 32) hX rfl dX7_comparison_32 ?_
        refine g_get (pc := 33) hX (ci := 7) (fun _ h => List.mem_cons_of_mem _ (List.mem_append_right _ h)) rfl 92 (by omega) (up_ne (by decide) lp_92) 13 (by decide) (List.mem_of_getElem? (i := 2) rfl) rfl (v := vI (wm1)) rfl dX7_comparison_33 ?_
        refine g_iconst (pc := 36) hX dX7_comparison_36 ?_
        refine g_iadd (pc := 37) hX dX7_comparison_37 ?_
        refine g_put (pc := 38) hX (ci := 7) (fun _ h => List.mem_cons_of_mem _ (List.mem_append_right _ h)) rfl tyX7 tyX7_ok nmX7 92 (by omega) (up_ne (by decide) lp_92) 13 (by decide) (List.mem_of_getElem? (i := 2) rfl) rfl rfl (tyX7_ok 13 (by decide)) rfl (fit_int _) (Nat.le_of_ble_eq_true rfl) dX7_comparison_38 ?_
        refine g_at rfl rfl rfl (S2 := (va_up (va_up Slp 101 (AI w 64 (updZ (WT1) (wm1) (sgV TX xm at1)))) 92 (.inr (7, [.ref (gw_ad w 93), .ref (gw_ad w 94), vI (pm), .ref (gw_ad w 95), vI (tm), .ref (gw_ad w 96), vI (xm), vI (at1), .ref (gw_ad w 97), .ref (gw_ad w 98), .ref (gw_ad w 99), .ref (gw_ad w 100), .ref (gw_ad w 101), vI (wm1 + 1), vI (wh), vI (bz (ir)), .ref (gw_ad w 102), .ref (gw_ad w 103), .ref (gw_ad w 104)])))) rfl ?_
        refine g_aload_n (pc := 41) hX 0 rfl dX7_comparison_41 ?_
        refine g_dup (pc := 42) hX rfl dX7_comparison_42 ?_
        refine g_get (pc := 43) hX (ci := 7) (fun _ h => List.mem_cons_of_mem _ (List.mem_append_right _ h)) rfl 92 (by omega) (up_eq _ _ _) 7 (by decide) (List.mem_of_getElem? (i := 3) rfl) rfl (v := vI (at1)) rfl dX7_comparison_43 ?_
        refine g_iconst (pc := 46) hX dX7_comparison_46 ?_
        refine g_iadd (pc := 47) hX dX7_comparison_47 ?_
        refine g_put (pc := 48) hX (ci := 7) (fun _ h => List.mem_cons_of_mem _ (List.mem_append_right _ h)) rfl tyX7 tyX7_ok nmX7 92 (by omega) (up_eq _ _ _) 7 (by decide) (List.mem_of_getElem? (i := 3) rfl) rfl rfl (tyX7_ok 7 (by decide)) rfl (fit_int _) (Nat.le_of_ble_eq_true rfl) dX7_comparison_48 ?_
        refine g_at rfl rfl rfl (S2 := (va_up (va_up (va_up Slp 101 (AI w 64 (updZ (WT1) (wm1) (sgV TX xm at1)))) 92 (.inr (7, [.ref (gw_ad w 93), .ref (gw_ad w 94), vI (pm), .ref (gw_ad w 95), vI (tm), .ref (gw_ad w 96), vI (xm), vI (at1), .ref (gw_ad w 97), .ref (gw_ad w 98), .ref (gw_ad w 99), .ref (gw_ad w 100), .ref (gw_ad w 101), vI (wm1 + 1), vI (wh), vI (bz (ir)), .ref (gw_ad w 102), .ref (gw_ad w 103), .ref (gw_ad w 104)]))) 92 (.inr (7, [.ref (gw_ad w 93), .ref (gw_ad w 94), vI (pm), .ref (gw_ad w 95), vI (tm), .ref (gw_ad w 96), vI (xm), vI (at1 + 1), .ref (gw_ad w 97), .ref (gw_ad w 98), .ref (gw_ad w 99), .ref (gw_ad w 100), .ref (gw_ad w 101), vI (wm1 + 1), vI (wh), vI (bz (ir)), .ref (gw_ad w 102), .ref (gw_ad w 103), .ref (gw_ad w 104)])))) rfl ?_
        refine g_goto (pc := 51) (tgt := 0) hX dX7_comparison_51 (by decide) ?_
        refine g_sub (lv2 := [(0, .ref (gw_ad w 92))]) [0] rfl ?_
        exact ihlp (c + 1) (at1 + 1) (wm1 + 1) (updZ (WT1) (wm1) (sgV TX xm at1)) _ (by omega) (show POSTM w S pm tm xm (at1 + 1) (wm1 + 1) wh ir V PV TY TX MK MM CH AM (updZ (WT1) (wm1) (sgV TX xm at1)) WK FL PI (va_up (va_up (va_up Slp 101 (AI w 64 (updZ (WT1) (wm1) (sgV TX xm at1)))) 92 (.inr (7, [.ref (gw_ad w 93), .ref (gw_ad w 94), vI (pm), .ref (gw_ad w 95), vI (tm), .ref (gw_ad w 96), vI (xm), vI (at1), .ref (gw_ad w 97), .ref (gw_ad w 98), .ref (gw_ad w 99), .ref (gw_ad w 100), .ref (gw_ad w 101), vI (wm1 + 1), vI (wh), vI (bz (ir)), .ref (gw_ad w 102), .ref (gw_ad w 103), .ref (gw_ad w 104)]))) 92 (.inr (7, [.ref (gw_ad w 93), .ref (gw_ad w 94), vI (pm), .ref (gw_ad w 95), vI (tm), .ref (gw_ad w 96), vI (xm), vI (at1 + 1), .ref (gw_ad w 97), .ref (gw_ad w 98), .ref (gw_ad w 99), .ref (gw_ad w 100), .ref (gw_ad w 101), vI (wm1 + 1), vI (wh), vI (bz (ir)), .ref (gw_ad w 102), .ref (gw_ad w 103), .ref (gw_ad w 104)]))) from ⟨⟨⟨(up_eq _ _ _), (up_ne (by decide) (up_ne (by decide) (up_ne (by decide) lp_93))), (up_ne (by decide) (up_ne (by decide) (up_ne (by decide) lp_94)))⟩, ⟨(up_ne (by decide) (up_ne (by decide) (up_ne (by decide) lp_95))), (up_ne (by decide) (up_ne (by decide) (up_ne (by decide) lp_96)))⟩, ⟨(up_ne (by decide) (up_ne (by decide) (up_ne (by decide) lp_97))), (up_ne (by decide) (up_ne (by decide) (up_ne (by decide) lp_98))), (up_ne (by decide) (up_ne (by decide) (up_ne (by decide) lp_99))), (up_ne (by decide) (up_ne (by decide) (up_ne (by decide) lp_100))), (up_ne (by decide) (up_ne (by decide) (up_eq _ _ _)))⟩, ⟨(up_ne (by decide) (up_ne (by decide) (up_ne (by decide) lp_102))), (up_ne (by decide) (up_ne (by decide) (up_ne (by decide) lp_103))), (up_ne (by decide) (up_ne (by decide) (up_ne (by decide) lp_104)))⟩⟩, fun q hq => (up_ne (by omega) (up_ne (by omega) (up_ne (by omega) ((hQlp.2 q hq).trans rfl))))⟩) (⟨by omega, by omega⟩) (by omega) (by omega) (by rw [hW, hwm1]; exact pfW_s hc0.1 (by rw [sgV_e hlt, hat1])) (fun j a b => (Int.lt_or_eq_of_le (show j ≤ c by omega)).elim (fun h => hpf j a h) (fun h => by rw [h, ← hat1]; have e := sgV_e (TX := TX) hlt; omega))
      · skip
        refine g_aload_n (pc := 9) hX 0 rfl dX7_comparison_9 ?_
        refine g_callV1 (pc := 10) (ci := 7) (As := []) (st2 := []) hX 92 (by omega) lp_92 rfl (c_X7_sign hN (show modelAt w pm tm xm at1 wm1 wh ir V PV TY TX MK MM CH AM WT1 WK FL PI Slp from ⟨⟨lp_92, lp_93, lp_94⟩, ⟨lp_95, lp_96⟩, ⟨lp_97, lp_98, lp_99, lp_100, lp_101⟩, ⟨lp_102, lp_103, lp_104⟩⟩) hxm (by omega) hTX) gX7_comparison_X7_sign (n := 0) (hw := rfl) (hrc := rfl) (hrs := rfl) (hd := by decide +kernel) (hR := ⟨Nat.le_of_ble_eq_true rfl, Nat.le_of_ble_eq_true rfl⟩) (hn := rfl) (hst := rfl) (hsum := Nat.le_of_ble_eq_true rfl) (hdg := dX7_comparison_10) ?_
        rintro _ S9 ⟨rfl, e9⟩
        rw [e9]
        clear e9 S9
        refine g_at (pc2 := 13) rfl rfl (st2 := [vI (sgV TX xm at1)]) rfl (S2 := Slp) rfl ?_
        refine g_bipush (pc := 13) hX (by decide) dX7_comparison_13 ?_
        refine g_icmp_ne (pc := 15) (tgt := 54) hX hs1 (by first | assumption | exact inI_mk (by omega) (by omega)) dX7_comparison_15 (by decide) (fun c_15 => ?_) (fun c_15 => ?_)
        · skip
          have hst : ¬ (sgV TX xm at1 = 126 ∨ sgV TX xm at1 = 40) := by omega
          have hlzb := letZ_b (sgV TX xm at1)
          have hlz : inI (letZ (sgV TX xm at1)) := inI_mk (by omega) (by omega)
          refine g_aload_n (pc := 54) hX 0 rfl dX7_comparison_54 ?_
          refine g_callV1 (pc := 55) (ci := 7) (As := []) (st2 := []) hX 92 (by omega) lp_92 rfl (c_X7_sign hN (show modelAt w pm tm xm at1 wm1 wh ir V PV TY TX MK MM CH AM WT1 WK FL PI Slp from ⟨⟨lp_92, lp_93, lp_94⟩, ⟨lp_95, lp_96⟩, ⟨lp_97, lp_98, lp_99, lp_100, lp_101⟩, ⟨lp_102, lp_103, lp_104⟩⟩) hxm (by omega) hTX) gX7_comparison_X7_sign (n := 0) (hw := rfl) (hrc := rfl) (hrs := rfl) (hd := by decide +kernel) (hR := ⟨Nat.le_of_ble_eq_true rfl, Nat.le_of_ble_eq_true rfl⟩) (hn := rfl) (hst := rfl) (hsum := Nat.le_of_ble_eq_true rfl) (hdg := dX7_comparison_55) ?_
          rintro _ S9 ⟨rfl, e9⟩
          rw [e9]
          clear e9 S9
          refine g_at (pc2 := 58) rfl rfl (st2 := [vI (sgV TX xm at1)]) rfl (S2 := Slp) rfl ?_
          refine g_callT1 (pc := 58) (As := [vI (sgV TX xm at1)]) (st2 := []) hX (c_X7_fieldOf (c := sgV TX xm at1) hs1) gX7_comparison_X7_fieldOf (n := 1) (hw := rfl) (hrc := rfl) (hrs := rfl) (hd := by decide +kernel) (hR := ⟨Nat.le_of_ble_eq_true rfl, Nat.le_of_ble_eq_true rfl⟩) (hn := rfl) (hst := rfl) (hsum := Nat.le_of_ble_eq_true rfl) (hdg := dX7_comparison_58) ?_
          rintro _ S9 ⟨rfl, e9⟩
          rw [e9]
          clear e9 S9
          refine g_at (pc2 := 61) rfl rfl (st2 := [vI (letZ (sgV TX xm at1))]) rfl (S2 := Slp) rfl ?_
          refine g_istore_n (pc := 61) hX (lv2 := [(1, vI (letZ (sgV TX xm at1))), (0, .ref (gw_ad w 92))]) rfl (by decide) rfl dX7_comparison_61 ?_
          refine g_iload_n (pc := 62) hX 0 rfl dX7_comparison_62 ?_
          refine g_if_ge (pc := 63) (tgt := 68) hX hlz dX7_comparison_63 (by decide) (fun c_63 => ?_) (fun c_63 => ?_)
          · skip
            have c_63p : 0 ≤ letZ (sgV TX xm at1) := by omega
            have hlt : at1 < xm := sgV_lt (TX := TX) (fun h => by rw [h, letZ_m1] at c_63p; omega)
            have hs2 := sgV_in hTX xm (at1 + 1)
            refine g_aload_n (pc := 68) hX 1 rfl dX7_comparison_68 ?_
            refine g_dup (pc := 69) hX rfl dX7_comparison_69 ?_
            refine g_get (pc := 70) hX (ci := 7) (fun _ h => List.mem_cons_of_mem _ (List.mem_append_right _ h)) rfl 92 (by omega) lp_92 7 (by decide) (List.mem_of_getElem? (i := 3) rfl) rfl (v := vI (at1)) rfl dX7_comparison_70 ?_
            refine g_iconst (pc := 73) hX dX7_comparison_73 ?_
            refine g_iadd (pc := 74) hX dX7_comparison_74 ?_
            refine g_put (pc := 75) hX (ci := 7) (fun _ h => List.mem_cons_of_mem _ (List.mem_append_right _ h)) rfl tyX7 tyX7_ok nmX7 92 (by omega) lp_92 7 (by decide) (List.mem_of_getElem? (i := 3) rfl) rfl rfl (tyX7_ok 7 (by decide)) rfl (fit_int _) (Nat.le_of_ble_eq_true rfl) dX7_comparison_75 ?_
            refine g_at rfl rfl rfl (S2 := (va_up Slp 92 (.inr (7, [.ref (gw_ad w 93), .ref (gw_ad w 94), vI (pm), .ref (gw_ad w 95), vI (tm), .ref (gw_ad w 96), vI (xm), vI (at1 + 1), .ref (gw_ad w 97), .ref (gw_ad w 98), .ref (gw_ad w 99), .ref (gw_ad w 100), .ref (gw_ad w 101), vI (wm1), vI (wh), vI (bz (ir)), .ref (gw_ad w 102), .ref (gw_ad w 103), .ref (gw_ad w 104)])))) rfl ?_
            refine g_aload_n (pc := 78) hX 1 rfl dX7_comparison_78 ?_
            refine g_callV1 (pc := 79) (ci := 7) (As := []) (st2 := []) hX 92 (by omega) (up_eq _ _ _) rfl (c_X7_sign hN (show modelAt w pm tm xm (at1 + 1) wm1 wh ir V PV TY TX MK MM CH AM WT1 WK FL PI (va_up Slp 92 (.inr (7, [.ref (gw_ad w 93), .ref (gw_ad w 94), vI (pm), .ref (gw_ad w 95), vI (tm), .ref (gw_ad w 96), vI (xm), vI (at1 + 1), .ref (gw_ad w 97), .ref (gw_ad w 98), .ref (gw_ad w 99), .ref (gw_ad w 100), .ref (gw_ad w 101), vI (wm1), vI (wh), vI (bz (ir)), .ref (gw_ad w 102), .ref (gw_ad w 103), .ref (gw_ad w 104)]))) from ⟨⟨(up_eq _ _ _), (up_ne (by decide) lp_93), (up_ne (by decide) lp_94)⟩, ⟨(up_ne (by decide) lp_95), (up_ne (by decide) lp_96)⟩, ⟨(up_ne (by decide) lp_97), (up_ne (by decide) lp_98), (up_ne (by decide) lp_99), (up_ne (by decide) lp_100), (up_ne (by decide) lp_101)⟩, ⟨(up_ne (by decide) lp_102), (up_ne (by decide) lp_103), (up_ne (by decide) lp_104)⟩⟩) hxm (by omega) hTX) gX7_comparison_X7_sign (n := 0) (hw := rfl) (hrc := rfl) (hrs := rfl) (hd := by decide +kernel) (hR := ⟨Nat.le_of_ble_eq_true rfl, Nat.le_of_ble_eq_true rfl⟩) (hn := rfl) (hst := rfl) (hsum := Nat.le_of_ble_eq_true rfl) (hdg := dX7_comparison_79) ?_
            rintro _ S9 ⟨rfl, e9⟩
            rw [e9]
            clear e9 S9
            refine g_at (pc2 := 82) rfl rfl (st2 := [vI (sgV TX xm (at1 + 1))]) rfl (S2 := (va_up Slp 92 (.inr (7, [.ref (gw_ad w 93), .ref (gw_ad w 94), vI (pm), .ref (gw_ad w 95), vI (tm), .ref (gw_ad w 96), vI (xm), vI (at1 + 1), .ref (gw_ad w 97), .ref (gw_ad w 98), .ref (gw_ad w 99), .ref (gw_ad w 100), .ref (gw_ad w 101), vI (wm1), vI (wh), vI (bz (ir)), .ref (gw_ad w 102), .ref (gw_ad w 103), .ref (gw_ad w 104)])))) rfl ?_
            refine g_istore_n (pc := 82) hX (lv2 := [(2, vI (sgV TX xm (at1 + 1))), (1, vI (letZ (sgV TX xm at1))), (0, .ref (gw_ad w 92))]) rfl (by decide) rfl dX7_comparison_82 ?_
            refine g_iload_n (pc := 83) hX 0 rfl dX7_comparison_83 ?_
            refine g_bipush (pc := 84) hX (by decide) dX7_comparison_84 ?_
            refine g_icmp_eq (pc := 86) (tgt := 103) hX hs2 (by first | assumption | exact inI_mk (by omega) (by omega)) dX7_comparison_86 (by decide) (fun c_86 => ?_) (fun c_86 => ?_)
            · skip
              have hlt2 : at1 + 1 < xm := sgV_lt (TX := TX) (by omega)
              refine g_aload_n (pc := 103) hX 2 rfl dX7_comparison_103 ?_
              refine g_dup (pc := 104) hX rfl dX7_comparison_104 ?_
              refine g_get (pc := 105) hX (ci := 7) (fun _ h => List.mem_cons_of_mem _ (List.mem_append_right _ h)) rfl 92 (by omega) (up_eq _ _ _) 7 (by decide) (List.mem_of_getElem? (i := 3) rfl) rfl (v := vI (at1 + 1)) rfl dX7_comparison_105 ?_
              refine g_iconst (pc := 108) hX dX7_comparison_108 ?_
              refine g_iadd (pc := 109) hX dX7_comparison_109 ?_
              refine g_put (pc := 110) hX (ci := 7) (fun _ h => List.mem_cons_of_mem _ (List.mem_append_right _ h)) rfl tyX7 tyX7_ok nmX7 92 (by omega) (up_eq _ _ _) 7 (by decide) (List.mem_of_getElem? (i := 3) rfl) rfl rfl (tyX7_ok 7 (by decide)) rfl (fit_int _) (Nat.le_of_ble_eq_true rfl) dX7_comparison_110 ?_
              refine g_at rfl rfl rfl (S2 := (va_up (va_up Slp 92 (.inr (7, [.ref (gw_ad w 93), .ref (gw_ad w 94), vI (pm), .ref (gw_ad w 95), vI (tm), .ref (gw_ad w 96), vI (xm), vI (at1 + 1), .ref (gw_ad w 97), .ref (gw_ad w 98), .ref (gw_ad w 99), .ref (gw_ad w 100), .ref (gw_ad w 101), vI (wm1), vI (wh), vI (bz (ir)), .ref (gw_ad w 102), .ref (gw_ad w 103), .ref (gw_ad w 104)]))) 92 (.inr (7, [.ref (gw_ad w 93), .ref (gw_ad w 94), vI (pm), .ref (gw_ad w 95), vI (tm), .ref (gw_ad w 96), vI (xm), vI ((at1 + 1) + 1), .ref (gw_ad w 97), .ref (gw_ad w 98), .ref (gw_ad w 99), .ref (gw_ad w 100), .ref (gw_ad w 101), vI (wm1), vI (wh), vI (bz (ir)), .ref (gw_ad w 102), .ref (gw_ad w 103), .ref (gw_ad w 104)])))) rfl ?_
              refine g_aload_n (pc := 113) hX 2 rfl dX7_comparison_113 ?_
              refine g_callV1 (pc := 114) (ci := 7) (As := []) (st2 := []) hX 92 (by omega) (up_eq _ _ _) rfl (c_X7_number hN (show modelAt w pm tm xm ((at1 + 1) + 1) wm1 wh ir V PV TY TX MK MM CH AM WT1 WK FL PI (va_up (va_up Slp 92 (.inr (7, [.ref (gw_ad w 93), .ref (gw_ad w 94), vI (pm), .ref (gw_ad w 95), vI (tm), .ref (gw_ad w 96), vI (xm), vI (at1 + 1), .ref (gw_ad w 97), .ref (gw_ad w 98), .ref (gw_ad w 99), .ref (gw_ad w 100), .ref (gw_ad w 101), vI (wm1), vI (wh), vI (bz (ir)), .ref (gw_ad w 102), .ref (gw_ad w 103), .ref (gw_ad w 104)]))) 92 (.inr (7, [.ref (gw_ad w 93), .ref (gw_ad w 94), vI (pm), .ref (gw_ad w 95), vI (tm), .ref (gw_ad w 96), vI (xm), vI ((at1 + 1) + 1), .ref (gw_ad w 97), .ref (gw_ad w 98), .ref (gw_ad w 99), .ref (gw_ad w 100), .ref (gw_ad w 101), vI (wm1), vI (wh), vI (bz (ir)), .ref (gw_ad w 102), .ref (gw_ad w 103), .ref (gw_ad w 104)]))) from ⟨⟨(up_eq _ _ _), (up_ne (by decide) (up_ne (by decide) lp_93)), (up_ne (by decide) (up_ne (by decide) lp_94))⟩, ⟨(up_ne (by decide) (up_ne (by decide) lp_95)), (up_ne (by decide) (up_ne (by decide) lp_96))⟩, ⟨(up_ne (by decide) (up_ne (by decide) lp_97)), (up_ne (by decide) (up_ne (by decide) lp_98)), (up_ne (by decide) (up_ne (by decide) lp_99)), (up_ne (by decide) (up_ne (by decide) lp_100)), (up_ne (by decide) (up_ne (by decide) lp_101))⟩, ⟨(up_ne (by decide) (up_ne (by decide) lp_102)), (up_ne (by decide) (up_ne (by decide) lp_103)), (up_ne (by decide) (up_ne (by decide) lp_104))⟩⟩) hxm (by omega) hTX) gX7_comparison_X7_number (n := 0) (hw := rfl) (hrc := rfl) (hrs := rfl) (hd := by decide +kernel) (hR := ⟨Nat.le_of_ble_eq_true rfl, Nat.le_of_ble_eq_true rfl⟩) (hn := rfl) (hst := rfl) (hsum := Nat.le_of_ble_eq_true rfl) (hdg := dX7_comparison_114) ?_
              rintro _ S114 ⟨e114, he114, hd114, hq114, rfl, hP114⟩
              obtain ⟨⟨m114_92, m114_93, m114_94⟩, ⟨m114_95, m114_96⟩, ⟨m114_97, m114_98, m114_99, m114_100, m114_101⟩, ⟨m114_102, m114_103, m114_104⟩⟩ := hP114.1
              have hnb114 := nuB he114 hd114
              refine g_at (pc2 := 117) rfl rfl (st2 := [vI ((if e114 = 0 then -1 else dgX TX ((at1 + 1) + 1) e114.toNat))]) rfl (S2 := S114) rfl ?_
              refine g_istore_n (pc := 117) hX (lv2 := [(3, vI ((if e114 = 0 then -1 else dgX TX ((at1 + 1) + 1) e114.toNat))), (2, vI (sgV TX xm (at1 + 1))), (1, vI (letZ (sgV TX xm at1))), (0, .ref (gw_ad w 92))]) rfl (by decide) rfl dX7_comparison_117 ?_
              refine g_iload_n (pc := 118) hX 0 rfl dX7_comparison_118 ?_
              refine g_if_ge (pc := 119) (tgt := 124) hX (inI_mk (by omega) (by omega)) dX7_comparison_119 (by decide) (fun c_119 => ?_) (fun c_119 => ?_)
              · skip
                refine g_aload_n (pc := 124) hX 3 rfl dX7_comparison_124 ?_
                refine g_iload_n (pc := 125) hX 1 rfl dX7_comparison_125 ?_
                refine g_iload_n (pc := 126) hX 2 rfl dX7_comparison_126 ?_
                refine g_iload_n (pc := 127) hX 0 rfl dX7_comparison_127 ?_
                refine g_callV0 (pc := 128) (ci := 7) (As := [vI (sgV TX xm (at1 + 1)), vI (letZ (sgV TX xm at1)), vI ((if e114 = 0 then -1 else dgX TX ((at1 + 1) + 1) e114.toNat))]) (st2 := []) hX 92 (by omega) m114_92 rfl (c_X7_puts hN (show modelAt w pm tm xm ((at1 + 1) + 1 + e114) wm1 wh ir V PV TY TX MK MM CH AM WT1 WK FL PI S114 from ⟨⟨m114_92, m114_93, m114_94⟩, ⟨m114_95, m114_96⟩, ⟨m114_97, m114_98, m114_99, m114_100, m114_101⟩, ⟨m114_102, m114_103, m114_104⟩⟩) hwh (by omega) (a := sgV TX xm (at1 + 1)) (b := letZ (sgV TX xm at1)) (c := (if e114 = 0 then -1 else dgX TX ((at1 + 1) + 1) e114.toNat))) gX7_comparison_X7_puts (n := 3) (hw := rfl) (hrc := rfl) (hrs := rfl) (hd := by decide +kernel) (hR := ⟨Nat.le_of_ble_eq_true rfl, Nat.le_of_ble_eq_true rfl⟩) (hn := rfl) (hst := rfl) (hsum := Nat.le_of_ble_eq_true rfl) (hdg := dX7_comparison_128) ?_
                rintro S128 hP128
                obtain ⟨⟨m128_92, m128_93, m128_94⟩, ⟨m128_95, m128_96⟩, ⟨m128_97, m128_98, m128_99, m128_100, m128_101⟩, ⟨m128_102, m128_103, m128_104⟩⟩ := hP128.1
                refine g_at (pc2 := 131) rfl rfl (st2 := []) rfl (S2 := S128) rfl ?_
                refine g_iconst (pc := 131) hX dX7_comparison_131 ?_
                refine g_at rfl rfl (st2 := [vI (bz true)]) rfl rfl ?_
                refine g_zret (pc := 132) hX hR dX7_comparison_132 ?_
                subst hat1
                subst hwm1
                subst hW
                have hjb2 : JB TX s0 wh (at_ + c) (wm + c) (pfW WT TX wm at_ c) MK (MM wh) := by
                  have h := JB_pf hjb hmw.2.1 c.toNat (by omega) (fun j a b => hpf j a (by omega))
                  rw [show ((c.toNat : Nat) : Int) = c by omega] at h
                  exact h
                have hWI : ∀ i, inI (pfW WT TX wm at_ c i) := pfW_in hWT hTX
                have he0 : ¬ e114 = 0 := by intro h; rw [if_pos h] at c_119; omega
                have hlast := (hd114 (e114 - 1) (by omega) (by omega)).1
                exact ⟨_, _, _, _, _, true, rfl, ⟨⟨⟨m128_92, m128_93, m128_94⟩, ⟨m128_95, m128_96⟩, ⟨m128_97, m128_98, m128_99, m128_100, m128_101⟩, ⟨m128_102, m128_103, m128_104⟩⟩, fun q hq => ((hP128.2 q hq).trans ((hP114.2 q hq).trans (up_ne (by omega) (up_ne (by omega) ((hQlp.2 q hq).trans rfl)))))⟩, ⟨by omega, by omega⟩, ⟨by omega, by rw [updZ_eq]; omega, by rw [updZ_eq]; omega⟩, hWI, (FRM.refl _ _ _).put (by omega), fun z => absurd z (by decide), fun _ => ⟨by omega, by unfold JD; rw [updZ_eq]; intro c2 h0c hj hs; exact JB_ok hjb2 hxm.2 hlt hst c_63p hlt2 (by omega) ⟨by omega, he114.2⟩ hd114 hq114 ⟨by omega, by omega⟩ (by omega) (by rw [if_neg he0]) (letZ_5 _) (dgX_5 he114.2 (fun j a b => (hd114 j a b).2)) (fun Q h => by have := MR_sz (by omega) h; omega) h0c hj hs⟩⟩
              · skip
                refine g_iconst (pc := 122) hX dX7_comparison_122 ?_
                refine g_at rfl rfl (st2 := [vI (bz false)]) rfl rfl ?_
                refine g_zret (pc := 123) hX hR dX7_comparison_123 ?_
                subst hat1
                subst hwm1
                subst hW
                have hjb2 : JB TX s0 wh (at_ + c) (wm + c) (pfW WT TX wm at_ c) MK (MM wh) := by
                  have h := JB_pf hjb hmw.2.1 c.toNat (by omega) (fun j a b => hpf j a (by omega))
                  rw [show ((c.toNat : Nat) : Int) = c by omega] at h
                  exact h
                have hWI : ∀ i, inI (pfW WT TX wm at_ c i) := pfW_in hWT hTX
                have he00 : e114 = 0 := by have := hnb114.2.2; omega
                subst he00
                exact ⟨_, _, _, _, _, false, rfl, ⟨⟨⟨m114_92, m114_93, m114_94⟩, ⟨m114_95, m114_96⟩, ⟨m114_97, m114_98, m114_99, m114_100, m114_101⟩, ⟨m114_102, m114_103, m114_104⟩⟩, fun q hq => ((hP114.2 q hq).trans (up_ne (by omega) (up_ne (by omega) ((hQlp.2 q hq).trans rfl))))⟩, ⟨by omega, by omega⟩, ⟨by omega, by omega, by omega⟩, hWI, FRM.refl _ _ _, fun _ => by
                    have h := JB_s3 hjb2 hlt hst c_63p hlt2 (by omega) (hq114.elim (fun h => absurd h (by decide)) (fun h => by rw [Int.add_zero] at h; exact h))
                    rw [Int.add_zero]
                    exact h, fun z => absurd z (by decide)⟩
            · skip
              refine g_iload_n (pc := 89) hX 0 rfl dX7_comparison_89 ?_
              refine g_bipush (pc := 90) hX (by decide) dX7_comparison_90 ?_
              refine g_icmp_eq (pc := 92) (tgt := 103) hX hs2 (by first | assumption | exact inI_mk (by omega) (by omega)) dX7_comparison_92 (by decide) (fun c_92 => ?_) (fun c_92 => ?_)
              · skip
                have hlt2 : at1 + 1 < xm := sgV_lt (TX := TX) (by omega)
                refine g_aload_n (pc := 103) hX 2 rfl dX7_comparison_103 ?_
                refine g_dup (pc := 104) hX rfl dX7_comparison_104 ?_
                refine g_get (pc := 105) hX (ci := 7) (fun _ h => List.mem_cons_of_mem _ (List.mem_append_right _ h)) rfl 92 (by omega) (up_eq _ _ _) 7 (by decide) (List.mem_of_getElem? (i := 3) rfl) rfl (v := vI (at1 + 1)) rfl dX7_comparison_105 ?_
                refine g_iconst (pc := 108) hX dX7_comparison_108 ?_
                refine g_iadd (pc := 109) hX dX7_comparison_109 ?_
                refine g_put (pc := 110) hX (ci := 7) (fun _ h => List.mem_cons_of_mem _ (List.mem_append_right _ h)) rfl tyX7 tyX7_ok nmX7 92 (by omega) (up_eq _ _ _) 7 (by decide) (List.mem_of_getElem? (i := 3) rfl) rfl rfl (tyX7_ok 7 (by decide)) rfl (fit_int _) (Nat.le_of_ble_eq_true rfl) dX7_comparison_110 ?_
                refine g_at rfl rfl rfl (S2 := (va_up (va_up Slp 92 (.inr (7, [.ref (gw_ad w 93), .ref (gw_ad w 94), vI (pm), .ref (gw_ad w 95), vI (tm), .ref (gw_ad w 96), vI (xm), vI (at1 + 1), .ref (gw_ad w 97), .ref (gw_ad w 98), .ref (gw_ad w 99), .ref (gw_ad w 100), .ref (gw_ad w 101), vI (wm1), vI (wh), vI (bz (ir)), .ref (gw_ad w 102), .ref (gw_ad w 103), .ref (gw_ad w 104)]))) 92 (.inr (7, [.ref (gw_ad w 93), .ref (gw_ad w 94), vI (pm), .ref (gw_ad w 95), vI (tm), .ref (gw_ad w 96), vI (xm), vI ((at1 + 1) + 1), .ref (gw_ad w 97), .ref (gw_ad w 98), .ref (gw_ad w 99), .ref (gw_ad w 100), .ref (gw_ad w 101), vI (wm1), vI (wh), vI (bz (ir)), .ref (gw_ad w 102), .ref (gw_ad w 103), .ref (gw_ad w 104)])))) rfl ?_
                refine g_aload_n (pc := 113) hX 2 rfl dX7_comparison_113 ?_
                refine g_callV1 (pc := 114) (ci := 7) (As := []) (st2 := []) hX 92 (by omega) (up_eq _ _ _) rfl (c_X7_number hN (show modelAt w pm tm xm ((at1 + 1) + 1) wm1 wh ir V PV TY TX MK MM CH AM WT1 WK FL PI (va_up (va_up Slp 92 (.inr (7, [.ref (gw_ad w 93), .ref (gw_ad w 94), vI (pm), .ref (gw_ad w 95), vI (tm), .ref (gw_ad w 96), vI (xm), vI (at1 + 1), .ref (gw_ad w 97), .ref (gw_ad w 98), .ref (gw_ad w 99), .ref (gw_ad w 100), .ref (gw_ad w 101), vI (wm1), vI (wh), vI (bz (ir)), .ref (gw_ad w 102), .ref (gw_ad w 103), .ref (gw_ad w 104)]))) 92 (.inr (7, [.ref (gw_ad w 93), .ref (gw_ad w 94), vI (pm), .ref (gw_ad w 95), vI (tm), .ref (gw_ad w 96), vI (xm), vI ((at1 + 1) + 1), .ref (gw_ad w 97), .ref (gw_ad w 98), .ref (gw_ad w 99), .ref (gw_ad w 100), .ref (gw_ad w 101), vI (wm1), vI (wh), vI (bz (ir)), .ref (gw_ad w 102), .ref (gw_ad w 103), .ref (gw_ad w 104)]))) from ⟨⟨(up_eq _ _ _), (up_ne (by decide) (up_ne (by decide) lp_93)), (up_ne (by decide) (up_ne (by decide) lp_94))⟩, ⟨(up_ne (by decide) (up_ne (by decide) lp_95)), (up_ne (by decide) (up_ne (by decide) lp_96))⟩, ⟨(up_ne (by decide) (up_ne (by decide) lp_97)), (up_ne (by decide) (up_ne (by decide) lp_98)), (up_ne (by decide) (up_ne (by decide) lp_99)), (up_ne (by decide) (up_ne (by decide) lp_100)), (up_ne (by decide) (up_ne (by decide) lp_101))⟩, ⟨(up_ne (by decide) (up_ne (by decide) lp_102)), (up_ne (by decide) (up_ne (by decide) lp_103)), (up_ne (by decide) (up_ne (by decide) lp_104))⟩⟩) hxm (by omega) hTX) gX7_comparison_X7_number (n := 0) (hw := rfl) (hrc := rfl) (hrs := rfl) (hd := by decide +kernel) (hR := ⟨Nat.le_of_ble_eq_true rfl, Nat.le_of_ble_eq_true rfl⟩) (hn := rfl) (hst := rfl) (hsum := Nat.le_of_ble_eq_true rfl) (hdg := dX7_comparison_114) ?_
                rintro _ S114 ⟨e114, he114, hd114, hq114, rfl, hP114⟩
                obtain ⟨⟨m114_92, m114_93, m114_94⟩, ⟨m114_95, m114_96⟩, ⟨m114_97, m114_98, m114_99, m114_100, m114_101⟩, ⟨m114_102, m114_103, m114_104⟩⟩ := hP114.1
                have hnb114 := nuB he114 hd114
                refine g_at (pc2 := 117) rfl rfl (st2 := [vI ((if e114 = 0 then -1 else dgX TX ((at1 + 1) + 1) e114.toNat))]) rfl (S2 := S114) rfl ?_
                refine g_istore_n (pc := 117) hX (lv2 := [(3, vI ((if e114 = 0 then -1 else dgX TX ((at1 + 1) + 1) e114.toNat))), (2, vI (sgV TX xm (at1 + 1))), (1, vI (letZ (sgV TX xm at1))), (0, .ref (gw_ad w 92))]) rfl (by decide) rfl dX7_comparison_117 ?_
                refine g_iload_n (pc := 118) hX 0 rfl dX7_comparison_118 ?_
                refine g_if_ge (pc := 119) (tgt := 124) hX (inI_mk (by omega) (by omega)) dX7_comparison_119 (by decide) (fun c_119 => ?_) (fun c_119 => ?_)
                · skip
                  refine g_aload_n (pc := 124) hX 3 rfl dX7_comparison_124 ?_
                  refine g_iload_n (pc := 125) hX 1 rfl dX7_comparison_125 ?_
                  refine g_iload_n (pc := 126) hX 2 rfl dX7_comparison_126 ?_
                  refine g_iload_n (pc := 127) hX 0 rfl dX7_comparison_127 ?_
                  refine g_callV0 (pc := 128) (ci := 7) (As := [vI (sgV TX xm (at1 + 1)), vI (letZ (sgV TX xm at1)), vI ((if e114 = 0 then -1 else dgX TX ((at1 + 1) + 1) e114.toNat))]) (st2 := []) hX 92 (by omega) m114_92 rfl (c_X7_puts hN (show modelAt w pm tm xm ((at1 + 1) + 1 + e114) wm1 wh ir V PV TY TX MK MM CH AM WT1 WK FL PI S114 from ⟨⟨m114_92, m114_93, m114_94⟩, ⟨m114_95, m114_96⟩, ⟨m114_97, m114_98, m114_99, m114_100, m114_101⟩, ⟨m114_102, m114_103, m114_104⟩⟩) hwh (by omega) (a := sgV TX xm (at1 + 1)) (b := letZ (sgV TX xm at1)) (c := (if e114 = 0 then -1 else dgX TX ((at1 + 1) + 1) e114.toNat))) gX7_comparison_X7_puts (n := 3) (hw := rfl) (hrc := rfl) (hrs := rfl) (hd := by decide +kernel) (hR := ⟨Nat.le_of_ble_eq_true rfl, Nat.le_of_ble_eq_true rfl⟩) (hn := rfl) (hst := rfl) (hsum := Nat.le_of_ble_eq_true rfl) (hdg := dX7_comparison_128) ?_
                  rintro S128 hP128
                  obtain ⟨⟨m128_92, m128_93, m128_94⟩, ⟨m128_95, m128_96⟩, ⟨m128_97, m128_98, m128_99, m128_100, m128_101⟩, ⟨m128_102, m128_103, m128_104⟩⟩ := hP128.1
                  refine g_at (pc2 := 131) rfl rfl (st2 := []) rfl (S2 := S128) rfl ?_
                  refine g_iconst (pc := 131) hX dX7_comparison_131 ?_
                  refine g_at rfl rfl (st2 := [vI (bz true)]) rfl rfl ?_
                  refine g_zret (pc := 132) hX hR dX7_comparison_132 ?_
                  subst hat1
                  subst hwm1
                  subst hW
                  have hjb2 : JB TX s0 wh (at_ + c) (wm + c) (pfW WT TX wm at_ c) MK (MM wh) := by
                    have h := JB_pf hjb hmw.2.1 c.toNat (by omega) (fun j a b => hpf j a (by omega))
                    rw [show ((c.toNat : Nat) : Int) = c by omega] at h
                    exact h
                  have hWI : ∀ i, inI (pfW WT TX wm at_ c i) := pfW_in hWT hTX
                  have he0 : ¬ e114 = 0 := by intro h; rw [if_pos h] at c_119; omega
                  have hlast := (hd114 (e114 - 1) (by omega) (by omega)).1
                  exact ⟨_, _, _, _, _, true, rfl, ⟨⟨⟨m128_92, m128_93, m128_94⟩, ⟨m128_95, m128_96⟩, ⟨m128_97, m128_98, m128_99, m128_100, m128_101⟩, ⟨m128_102, m128_103, m128_104⟩⟩, fun q hq => ((hP128.2 q hq).trans ((hP114.2 q hq).trans (up_ne (by omega) (up_ne (by omega) ((hQlp.2 q hq).trans rfl)))))⟩, ⟨by omega, by omega⟩, ⟨by omega, by rw [updZ_eq]; omega, by rw [updZ_eq]; omega⟩, hWI, (FRM.refl _ _ _).put (by omega), fun z => absurd z (by decide), fun _ => ⟨by omega, by unfold JD; rw [updZ_eq]; intro c2 h0c hj hs; exact JB_ok hjb2 hxm.2 hlt hst c_63p hlt2 (by omega) ⟨by omega, he114.2⟩ hd114 hq114 ⟨by omega, by omega⟩ (by omega) (by rw [if_neg he0]) (letZ_5 _) (dgX_5 he114.2 (fun j a b => (hd114 j a b).2)) (fun Q h => by have := MR_sz (by omega) h; omega) h0c hj hs⟩⟩
                · skip
                  refine g_iconst (pc := 122) hX dX7_comparison_122 ?_
                  refine g_at rfl rfl (st2 := [vI (bz false)]) rfl rfl ?_
                  refine g_zret (pc := 123) hX hR dX7_comparison_123 ?_
                  subst hat1
                  subst hwm1
                  subst hW
                  have hjb2 : JB TX s0 wh (at_ + c) (wm + c) (pfW WT TX wm at_ c) MK (MM wh) := by
                    have h := JB_pf hjb hmw.2.1 c.toNat (by omega) (fun j a b => hpf j a (by omega))
                    rw [show ((c.toNat : Nat) : Int) = c by omega] at h
                    exact h
                  have hWI : ∀ i, inI (pfW WT TX wm at_ c i) := pfW_in hWT hTX
                  have he00 : e114 = 0 := by have := hnb114.2.2; omega
                  subst he00
                  exact ⟨_, _, _, _, _, false, rfl, ⟨⟨⟨m114_92, m114_93, m114_94⟩, ⟨m114_95, m114_96⟩, ⟨m114_97, m114_98, m114_99, m114_100, m114_101⟩, ⟨m114_102, m114_103, m114_104⟩⟩, fun q hq => ((hP114.2 q hq).trans (up_ne (by omega) (up_ne (by omega) ((hQlp.2 q hq).trans rfl))))⟩, ⟨by omega, by omega⟩, ⟨by omega, by omega, by omega⟩, hWI, FRM.refl _ _ _, fun _ => by
                      have h := JB_s3 hjb2 hlt hst c_63p hlt2 (by omega) (hq114.elim (fun h => absurd h (by decide)) (fun h => by rw [Int.add_zero] at h; exact h))
                      rw [Int.add_zero]
                      exact h, fun z => absurd z (by decide)⟩
              · skip
                refine g_iload_n (pc := 95) hX 0 rfl dX7_comparison_95 ?_
                refine g_bipush (pc := 96) hX (by decide) dX7_comparison_96 ?_
                refine g_icmp_eq (pc := 98) (tgt := 103) hX hs2 (by first | assumption | exact inI_mk (by omega) (by omega)) dX7_comparison_98 (by decide) (fun c_98 => ?_) (fun c_98 => ?_)
                · skip
                  have hlt2 : at1 + 1 < xm := sgV_lt (TX := TX) (by omega)
                  refine g_aload_n (pc := 103) hX 2 rfl dX7_comparison_103 ?_
                  refine g_dup (pc := 104) hX rfl dX7_comparison_104 ?_
                  refine g_get (pc := 105) hX (ci := 7) (fun _ h => List.mem_cons_of_mem _ (List.mem_append_right _ h)) rfl 92 (by omega) (up_eq _ _ _) 7 (by decide) (List.mem_of_getElem? (i := 3) rfl) rfl (v := vI (at1 + 1)) rfl dX7_comparison_105 ?_
                  refine g_iconst (pc := 108) hX dX7_comparison_108 ?_
                  refine g_iadd (pc := 109) hX dX7_comparison_109 ?_
                  refine g_put (pc := 110) hX (ci := 7) (fun _ h => List.mem_cons_of_mem _ (List.mem_append_right _ h)) rfl tyX7 tyX7_ok nmX7 92 (by omega) (up_eq _ _ _) 7 (by decide) (List.mem_of_getElem? (i := 3) rfl) rfl rfl (tyX7_ok 7 (by decide)) rfl (fit_int _) (Nat.le_of_ble_eq_true rfl) dX7_comparison_110 ?_
                  refine g_at rfl rfl rfl (S2 := (va_up (va_up Slp 92 (.inr (7, [.ref (gw_ad w 93), .ref (gw_ad w 94), vI (pm), .ref (gw_ad w 95), vI (tm), .ref (gw_ad w 96), vI (xm), vI (at1 + 1), .ref (gw_ad w 97), .ref (gw_ad w 98), .ref (gw_ad w 99), .ref (gw_ad w 100), .ref (gw_ad w 101), vI (wm1), vI (wh), vI (bz (ir)), .ref (gw_ad w 102), .ref (gw_ad w 103), .ref (gw_ad w 104)]))) 92 (.inr (7, [.ref (gw_ad w 93), .ref (gw_ad w 94), vI (pm), .ref (gw_ad w 95), vI (tm), .ref (gw_ad w 96), vI (xm), vI ((at1 + 1) + 1), .ref (gw_ad w 97), .ref (gw_ad w 98), .ref (gw_ad w 99), .ref (gw_ad w 100), .ref (gw_ad w 101), vI (wm1), vI (wh), vI (bz (ir)), .ref (gw_ad w 102), .ref (gw_ad w 103), .ref (gw_ad w 104)])))) rfl ?_
                  refine g_aload_n (pc := 113) hX 2 rfl dX7_comparison_113 ?_
                  refine g_callV1 (pc := 114) (ci := 7) (As := []) (st2 := []) hX 92 (by omega) (up_eq _ _ _) rfl (c_X7_number hN (show modelAt w pm tm xm ((at1 + 1) + 1) wm1 wh ir V PV TY TX MK MM CH AM WT1 WK FL PI (va_up (va_up Slp 92 (.inr (7, [.ref (gw_ad w 93), .ref (gw_ad w 94), vI (pm), .ref (gw_ad w 95), vI (tm), .ref (gw_ad w 96), vI (xm), vI (at1 + 1), .ref (gw_ad w 97), .ref (gw_ad w 98), .ref (gw_ad w 99), .ref (gw_ad w 100), .ref (gw_ad w 101), vI (wm1), vI (wh), vI (bz (ir)), .ref (gw_ad w 102), .ref (gw_ad w 103), .ref (gw_ad w 104)]))) 92 (.inr (7, [.ref (gw_ad w 93), .ref (gw_ad w 94), vI (pm), .ref (gw_ad w 95), vI (tm), .ref (gw_ad w 96), vI (xm), vI ((at1 + 1) + 1), .ref (gw_ad w 97), .ref (gw_ad w 98), .ref (gw_ad w 99), .ref (gw_ad w 100), .ref (gw_ad w 101), vI (wm1), vI (wh), vI (bz (ir)), .ref (gw_ad w 102), .ref (gw_ad w 103), .ref (gw_ad w 104)]))) from ⟨⟨(up_eq _ _ _), (up_ne (by decide) (up_ne (by decide) lp_93)), (up_ne (by decide) (up_ne (by decide) lp_94))⟩, ⟨(up_ne (by decide) (up_ne (by decide) lp_95)), (up_ne (by decide) (up_ne (by decide) lp_96))⟩, ⟨(up_ne (by decide) (up_ne (by decide) lp_97)), (up_ne (by decide) (up_ne (by decide) lp_98)), (up_ne (by decide) (up_ne (by decide) lp_99)), (up_ne (by decide) (up_ne (by decide) lp_100)), (up_ne (by decide) (up_ne (by decide) lp_101))⟩, ⟨(up_ne (by decide) (up_ne (by decide) lp_102)), (up_ne (by decide) (up_ne (by decide) lp_103)), (up_ne (by decide) (up_ne (by decide) lp_104))⟩⟩) hxm (by omega) hTX) gX7_comparison_X7_number (n := 0) (hw := rfl) (hrc := rfl) (hrs := rfl) (hd := by decide +kernel) (hR := ⟨Nat.le_of_ble_eq_true rfl, Nat.le_of_ble_eq_true rfl⟩) (hn := rfl) (hst := rfl) (hsum := Nat.le_of_ble_eq_true rfl) (hdg := dX7_comparison_114) ?_
                  rintro _ S114 ⟨e114, he114, hd114, hq114, rfl, hP114⟩
                  obtain ⟨⟨m114_92, m114_93, m114_94⟩, ⟨m114_95, m114_96⟩, ⟨m114_97, m114_98, m114_99, m114_100, m114_101⟩, ⟨m114_102, m114_103, m114_104⟩⟩ := hP114.1
                  have hnb114 := nuB he114 hd114
                  refine g_at (pc2 := 117) rfl rfl (st2 := [vI ((if e114 = 0 then -1 else dgX TX ((at1 + 1) + 1) e114.toNat))]) rfl (S2 := S114) rfl ?_
                  refine g_istore_n (pc := 117) hX (lv2 := [(3, vI ((if e114 = 0 then -1 else dgX TX ((at1 + 1) + 1) e114.toNat))), (2, vI (sgV TX xm (at1 + 1))), (1, vI (letZ (sgV TX xm at1))), (0, .ref (gw_ad w 92))]) rfl (by decide) rfl dX7_comparison_117 ?_
                  refine g_iload_n (pc := 118) hX 0 rfl dX7_comparison_118 ?_
                  refine g_if_ge (pc := 119) (tgt := 124) hX (inI_mk (by omega) (by omega)) dX7_comparison_119 (by decide) (fun c_119 => ?_) (fun c_119 => ?_)
                  · skip
                    refine g_aload_n (pc := 124) hX 3 rfl dX7_comparison_124 ?_
                    refine g_iload_n (pc := 125) hX 1 rfl dX7_comparison_125 ?_
                    refine g_iload_n (pc := 126) hX 2 rfl dX7_comparison_126 ?_
                    refine g_iload_n (pc := 127) hX 0 rfl dX7_comparison_127 ?_
                    refine g_callV0 (pc := 128) (ci := 7) (As := [vI (sgV TX xm (at1 + 1)), vI (letZ (sgV TX xm at1)), vI ((if e114 = 0 then -1 else dgX TX ((at1 + 1) + 1) e114.toNat))]) (st2 := []) hX 92 (by omega) m114_92 rfl (c_X7_puts hN (show modelAt w pm tm xm ((at1 + 1) + 1 + e114) wm1 wh ir V PV TY TX MK MM CH AM WT1 WK FL PI S114 from ⟨⟨m114_92, m114_93, m114_94⟩, ⟨m114_95, m114_96⟩, ⟨m114_97, m114_98, m114_99, m114_100, m114_101⟩, ⟨m114_102, m114_103, m114_104⟩⟩) hwh (by omega) (a := sgV TX xm (at1 + 1)) (b := letZ (sgV TX xm at1)) (c := (if e114 = 0 then -1 else dgX TX ((at1 + 1) + 1) e114.toNat))) gX7_comparison_X7_puts (n := 3) (hw := rfl) (hrc := rfl) (hrs := rfl) (hd := by decide +kernel) (hR := ⟨Nat.le_of_ble_eq_true rfl, Nat.le_of_ble_eq_true rfl⟩) (hn := rfl) (hst := rfl) (hsum := Nat.le_of_ble_eq_true rfl) (hdg := dX7_comparison_128) ?_
                    rintro S128 hP128
                    obtain ⟨⟨m128_92, m128_93, m128_94⟩, ⟨m128_95, m128_96⟩, ⟨m128_97, m128_98, m128_99, m128_100, m128_101⟩, ⟨m128_102, m128_103, m128_104⟩⟩ := hP128.1
                    refine g_at (pc2 := 131) rfl rfl (st2 := []) rfl (S2 := S128) rfl ?_
                    refine g_iconst (pc := 131) hX dX7_comparison_131 ?_
                    refine g_at rfl rfl (st2 := [vI (bz true)]) rfl rfl ?_
                    refine g_zret (pc := 132) hX hR dX7_comparison_132 ?_
                    subst hat1
                    subst hwm1
                    subst hW
                    have hjb2 : JB TX s0 wh (at_ + c) (wm + c) (pfW WT TX wm at_ c) MK (MM wh) := by
                      have h := JB_pf hjb hmw.2.1 c.toNat (by omega) (fun j a b => hpf j a (by omega))
                      rw [show ((c.toNat : Nat) : Int) = c by omega] at h
                      exact h
                    have hWI : ∀ i, inI (pfW WT TX wm at_ c i) := pfW_in hWT hTX
                    have he0 : ¬ e114 = 0 := by intro h; rw [if_pos h] at c_119; omega
                    have hlast := (hd114 (e114 - 1) (by omega) (by omega)).1
                    exact ⟨_, _, _, _, _, true, rfl, ⟨⟨⟨m128_92, m128_93, m128_94⟩, ⟨m128_95, m128_96⟩, ⟨m128_97, m128_98, m128_99, m128_100, m128_101⟩, ⟨m128_102, m128_103, m128_104⟩⟩, fun q hq => ((hP128.2 q hq).trans ((hP114.2 q hq).trans (up_ne (by omega) (up_ne (by omega) ((hQlp.2 q hq).trans rfl)))))⟩, ⟨by omega, by omega⟩, ⟨by omega, by rw [updZ_eq]; omega, by rw [updZ_eq]; omega⟩, hWI, (FRM.refl _ _ _).put (by omega), fun z => absurd z (by decide), fun _ => ⟨by omega, by unfold JD; rw [updZ_eq]; intro c2 h0c hj hs; exact JB_ok hjb2 hxm.2 hlt hst c_63p hlt2 (by omega) ⟨by omega, he114.2⟩ hd114 hq114 ⟨by omega, by omega⟩ (by omega) (by rw [if_neg he0]) (letZ_5 _) (dgX_5 he114.2 (fun j a b => (hd114 j a b).2)) (fun Q h => by have := MR_sz (by omega) h; omega) h0c hj hs⟩⟩
                  · skip
                    refine g_iconst (pc := 122) hX dX7_comparison_122 ?_
                    refine g_at rfl rfl (st2 := [vI (bz false)]) rfl rfl ?_
                    refine g_zret (pc := 123) hX hR dX7_comparison_123 ?_
                    subst hat1
                    subst hwm1
                    subst hW
                    have hjb2 : JB TX s0 wh (at_ + c) (wm + c) (pfW WT TX wm at_ c) MK (MM wh) := by
                      have h := JB_pf hjb hmw.2.1 c.toNat (by omega) (fun j a b => hpf j a (by omega))
                      rw [show ((c.toNat : Nat) : Int) = c by omega] at h
                      exact h
                    have hWI : ∀ i, inI (pfW WT TX wm at_ c i) := pfW_in hWT hTX
                    have he00 : e114 = 0 := by have := hnb114.2.2; omega
                    subst he00
                    exact ⟨_, _, _, _, _, false, rfl, ⟨⟨⟨m114_92, m114_93, m114_94⟩, ⟨m114_95, m114_96⟩, ⟨m114_97, m114_98, m114_99, m114_100, m114_101⟩, ⟨m114_102, m114_103, m114_104⟩⟩, fun q hq => ((hP114.2 q hq).trans (up_ne (by omega) (up_ne (by omega) ((hQlp.2 q hq).trans rfl))))⟩, ⟨by omega, by omega⟩, ⟨by omega, by omega, by omega⟩, hWI, FRM.refl _ _ _, fun _ => by
                        have h := JB_s3 hjb2 hlt hst c_63p hlt2 (by omega) (hq114.elim (fun h => absurd h (by decide)) (fun h => by rw [Int.add_zero] at h; exact h))
                        rw [Int.add_zero]
                        exact h, fun z => absurd z (by decide)⟩
                · skip
                  refine g_iconst (pc := 101) hX dX7_comparison_101 ?_
                  refine g_at rfl rfl (st2 := [vI (bz false)]) rfl rfl ?_
                  refine g_zret (pc := 102) hX hR dX7_comparison_102 ?_
                  subst hat1
                  subst hwm1
                  subst hW
                  have hjb2 : JB TX s0 wh (at_ + c) (wm + c) (pfW WT TX wm at_ c) MK (MM wh) := by
                    have h := JB_pf hjb hmw.2.1 c.toNat (by omega) (fun j a b => hpf j a (by omega))
                    rw [show ((c.toNat : Nat) : Int) = c by omega] at h
                    exact h
                  have hWI : ∀ i, inI (pfW WT TX wm at_ c i) := pfW_in hWT hTX
                  exact ⟨_, _, _, _, _, false, rfl, ⟨⟨⟨(up_eq _ _ _), (up_ne (by decide) lp_93), (up_ne (by decide) lp_94)⟩, ⟨(up_ne (by decide) lp_95), (up_ne (by decide) lp_96)⟩, ⟨(up_ne (by decide) lp_97), (up_ne (by decide) lp_98), (up_ne (by decide) lp_99), (up_ne (by decide) lp_100), (up_ne (by decide) lp_101)⟩, ⟨(up_ne (by decide) lp_102), (up_ne (by decide) lp_103), (up_ne (by decide) lp_104)⟩⟩, fun q hq => (up_ne (by omega) ((hQlp.2 q hq).trans rfl))⟩, ⟨by omega, by omega⟩, ⟨by omega, by omega, by omega⟩, hWI, FRM.refl _ _ _, fun _ => JB_s2 hjb2 hlt hst c_63p (by omega), fun z => absurd z (by decide)⟩
          · skip
            have c_63n : letZ (sgV TX xm at1) < 0 := by omega
            refine g_iconst (pc := 66) hX dX7_comparison_66 ?_
            refine g_at rfl rfl (st2 := [vI (bz false)]) rfl rfl ?_
            refine g_zret (pc := 67) hX hR dX7_comparison_67 ?_
            subst hat1
            subst hwm1
            subst hW
            have hjb2 : JB TX s0 wh (at_ + c) (wm + c) (pfW WT TX wm at_ c) MK (MM wh) := by
              have h := JB_pf hjb hmw.2.1 c.toNat (by omega) (fun j a b => hpf j a (by omega))
              rw [show ((c.toNat : Nat) : Int) = c by omega] at h
              exact h
            have hWI : ∀ i, inI (pfW WT TX wm at_ c i) := pfW_in hWT hTX
            exact ⟨_, _, _, _, _, false, rfl, ⟨⟨⟨lp_92, lp_93, lp_94⟩, ⟨lp_95, lp_96⟩, ⟨lp_97, lp_98, lp_99, lp_100, lp_101⟩, ⟨lp_102, lp_103, lp_104⟩⟩, fun q hq => ((hQlp.2 q hq).trans rfl)⟩, ⟨by omega, by omega⟩, ⟨by omega, by omega, by omega⟩, hWI, FRM.refl _ _ _, fun _ => JB_s1 hjb2 (by omega) hst c_63n, fun z => absurd z (by decide)⟩
        · skip
          have hlt : at1 < xm := sgV_lt (TX := TX) (by omega)
          refine g_aload_n (pc := 18) hX 0 rfl dX7_comparison_18 ?_
          refine g_get (pc := 19) hX (ci := 7) (fun _ h => List.mem_cons_of_mem _ (List.mem_append_right _ h)) rfl 92 (by omega) lp_92 12 (by decide) (List.mem_of_getElem? (i := 1) rfl) rfl (v := .ref (gw_ad w 101)) rfl dX7_comparison_19 ?_
          refine g_aload_n (pc := 22) hX 0 rfl dX7_comparison_22 ?_
          refine g_get (pc := 23) hX (ci := 7) (fun _ h => List.mem_cons_of_mem _ (List.mem_append_right _ h)) rfl 92 (by omega) lp_92 13 (by decide) (List.mem_of_getElem? (i := 2) rfl) rfl (v := vI (wm1)) rfl dX7_comparison_23 ?_
          refine g_aload_n (pc := 26) hX 0 rfl dX7_comparison_26 ?_
          refine g_callV1 (pc := 27) (ci := 7) (As := []) (st2 := [vI (wm1), .ref (gw_ad w 101)]) hX 92 (by omega) lp_92 rfl (c_X7_sign hN (show modelAt w pm tm xm at1 wm1 wh ir V PV TY TX MK MM CH AM WT1 WK FL PI Slp from ⟨⟨lp_92, lp_93, lp_94⟩, ⟨lp_95, lp_96⟩, ⟨lp_97, lp_98, lp_99, lp_100, lp_101⟩, ⟨lp_102, lp_103, lp_104⟩⟩) hxm (by omega) hTX) gX7_comparison_X7_sign (n := 0) (hw := rfl) (hrc := rfl) (hrs := rfl) (hd := by decide +kernel) (hR := ⟨Nat.le_of_ble_eq_true rfl, Nat.le_of_ble_eq_true rfl⟩) (hn := rfl) (hst := rfl) (hsum := Nat.le_of_ble_eq_true rfl) (hdg := dX7_comparison_27) ?_
          rintro _ S9 ⟨rfl, e9⟩
          rw [e9]
          clear e9 S9
          refine g_at (pc2 := 30) rfl rfl (st2 := [vI (sgV TX xm at1), vI (wm1), .ref (gw_ad w 101)]) rfl (S2 := Slp) rfl ?_
          refine g_iast (pc := 30) hX 101 (by omega) lp_101 (by omega) (by omega) (by decide) dX7_comparison_30 ?_
          refine g_at rfl rfl rfl (S2 := (va_up Slp 101 (AI w 64 (updZ (WT1) (wm1) (sgV TX xm at1))))) rfl ?_
          refine g_aload_n (pc := 31) hX 0 rfl dX7_comparison_31 ?_
          refine g_dup (pc := 32) hX rfl dX7_comparison_32 ?_
          refine g_get (pc := 33) hX (ci := 7) (fun _ h => List.mem_cons_of_mem _ (List.mem_append_right _ h)) rfl 92 (by omega) (up_ne (by decide) lp_92) 13 (by decide) (List.mem_of_getElem? (i := 2) rfl) rfl (v := vI (wm1)) rfl dX7_comparison_33 ?_
          refine g_iconst (pc := 36) hX dX7_comparison_36 ?_
          refine g_iadd (pc := 37) hX dX7_comparison_37 ?_
          refine g_put (pc := 38) hX (ci := 7) (fun _ h => List.mem_cons_of_mem _ (List.mem_append_right _ h)) rfl tyX7 tyX7_ok nmX7 92 (by omega) (up_ne (by decide) lp_92) 13 (by decide) (List.mem_of_getElem? (i := 2) rfl) rfl rfl (tyX7_ok 13 (by decide)) rfl (fit_int _) (Nat.le_of_ble_eq_true rfl) dX7_comparison_38 ?_
          refine g_at rfl rfl rfl (S2 := (va_up (va_up Slp 101 (AI w 64 (updZ (WT1) (wm1) (sgV TX xm at1)))) 92 (.inr (7, [.ref (gw_ad w 93), .ref (gw_ad w 94), vI (pm), .ref (gw_ad w 95), vI (tm), .ref (gw_ad w 96), vI (xm), vI (at1), .ref (gw_ad w 97), .ref (gw_ad w 98), .ref (gw_ad w 99), .ref (gw_ad w 100), .ref (gw_ad w 101), vI (wm1 + 1), vI (wh), vI (bz (ir)), .ref (gw_ad w 102), .ref (gw_ad w 103), .ref (gw_ad w 104)])))) rfl ?_
          refine g_aload_n (pc := 41) hX 0 rfl dX7_comparison_41 ?_
          refine g_dup (pc := 42) hX rfl dX7_comparison_42 ?_
          refine g_get (pc := 43) hX (ci := 7) (fun _ h => List.mem_cons_of_mem _ (List.mem_append_right _ h)) rfl 92 (by omega) (up_eq _ _ _) 7 (by decide) (List.mem_of_getElem? (i := 3) rfl) rfl (v := vI (at1)) rfl dX7_comparison_43 ?_
          refine g_iconst (pc := 46) hX dX7_comparison_46 ?_
          refine g_iadd (pc := 47) hX dX7_comparison_47 ?_
          refine g_put (pc := 48) hX (ci := 7) (fun _ h => List.mem_cons_of_mem _ (List.mem_append_right _ h)) rfl tyX7 tyX7_ok nmX7 92 (by omega) (up_eq _ _ _) 7 (by decide) (List.mem_of_getElem? (i := 3) rfl) rfl rfl (tyX7_ok 7 (by decide)) rfl (fit_int _) (Nat.le_of_ble_eq_true rfl) dX7_comparison_48 ?_
          refine g_at rfl rfl rfl (S2 := (va_up (va_up (va_up Slp 101 (AI w 64 (updZ (WT1) (wm1) (sgV TX xm at1)))) 92 (.inr (7, [.ref (gw_ad w 93), .ref (gw_ad w 94), vI (pm), .ref (gw_ad w 95), vI (tm), .ref (gw_ad w 96), vI (xm), vI (at1), .ref (gw_ad w 97), .ref (gw_ad w 98), .ref (gw_ad w 99), .ref (gw_ad w 100), .ref (gw_ad w 101), vI (wm1 + 1), vI (wh), vI (bz (ir)), .ref (gw_ad w 102), .ref (gw_ad w 103), .ref (gw_ad w 104)]))) 92 (.inr (7, [.ref (gw_ad w 93), .ref (gw_ad w 94), vI (pm), .ref (gw_ad w 95), vI (tm), .ref (gw_ad w 96), vI (xm), vI (at1 + 1), .ref (gw_ad w 97), .ref (gw_ad w 98), .ref (gw_ad w 99), .ref (gw_ad w 100), .ref (gw_ad w 101), vI (wm1 + 1), vI (wh), vI (bz (ir)), .ref (gw_ad w 102), .ref (gw_ad w 103), .ref (gw_ad w 104)])))) rfl ?_
          refine g_goto (pc := 51) (tgt := 0) hX dX7_comparison_51 (by decide) ?_
          refine g_sub (lv2 := [(0, .ref (gw_ad w 92))]) [0] rfl ?_
          exact ihlp (c + 1) (at1 + 1) (wm1 + 1) (updZ (WT1) (wm1) (sgV TX xm at1)) _ (by omega) (show POSTM w S pm tm xm (at1 + 1) (wm1 + 1) wh ir V PV TY TX MK MM CH AM (updZ (WT1) (wm1) (sgV TX xm at1)) WK FL PI (va_up (va_up (va_up Slp 101 (AI w 64 (updZ (WT1) (wm1) (sgV TX xm at1)))) 92 (.inr (7, [.ref (gw_ad w 93), .ref (gw_ad w 94), vI (pm), .ref (gw_ad w 95), vI (tm), .ref (gw_ad w 96), vI (xm), vI (at1), .ref (gw_ad w 97), .ref (gw_ad w 98), .ref (gw_ad w 99), .ref (gw_ad w 100), .ref (gw_ad w 101), vI (wm1 + 1), vI (wh), vI (bz (ir)), .ref (gw_ad w 102), .ref (gw_ad w 103), .ref (gw_ad w 104)]))) 92 (.inr (7, [.ref (gw_ad w 93), .ref (gw_ad w 94), vI (pm), .ref (gw_ad w 95), vI (tm), .ref (gw_ad w 96), vI (xm), vI (at1 + 1), .ref (gw_ad w 97), .ref (gw_ad w 98), .ref (gw_ad w 99), .ref (gw_ad w 100), .ref (gw_ad w 101), vI (wm1 + 1), vI (wh), vI (bz (ir)), .ref (gw_ad w 102), .ref (gw_ad w 103), .ref (gw_ad w 104)]))) from ⟨⟨⟨(up_eq _ _ _), (up_ne (by decide) (up_ne (by decide) (up_ne (by decide) lp_93))), (up_ne (by decide) (up_ne (by decide) (up_ne (by decide) lp_94)))⟩, ⟨(up_ne (by decide) (up_ne (by decide) (up_ne (by decide) lp_95))), (up_ne (by decide) (up_ne (by decide) (up_ne (by decide) lp_96)))⟩, ⟨(up_ne (by decide) (up_ne (by decide) (up_ne (by decide) lp_97))), (up_ne (by decide) (up_ne (by decide) (up_ne (by decide) lp_98))), (up_ne (by decide) (up_ne (by decide) (up_ne (by decide) lp_99))), (up_ne (by decide) (up_ne (by decide) (up_ne (by decide) lp_100))), (up_ne (by decide) (up_ne (by decide) (up_eq _ _ _)))⟩, ⟨(up_ne (by decide) (up_ne (by decide) (up_ne (by decide) lp_102))), (up_ne (by decide) (up_ne (by decide) (up_ne (by decide) lp_103))), (up_ne (by decide) (up_ne (by decide) (up_ne (by decide) lp_104)))⟩⟩, fun q hq => (up_ne (by omega) (up_ne (by omega) (up_ne (by omega) ((hQlp.2 q hq).trans rfl))))⟩) (⟨by omega, by omega⟩) (by omega) (by omega) (by rw [hW, hwm1]; exact pfW_s hc0.1 (by rw [sgV_e hlt, hat1])) (fun j a b => (Int.lt_or_eq_of_le (show j ≤ c by omega)).elim (fun h => hpf j a h) (fun h => by rw [h, ← hat1]; have e := sgV_e (TX := TX) hlt; omega))
  refine g_sub (lv2 := [(0, .ref (gw_ad w 92))]) [0] rfl ?_
  exact lp ((xm - at_) + 1).toNat (0) (at_) (wm) (WT) _ (by omega) ⟨⟨⟨m92, m93, m94⟩, ⟨m95, m96⟩, ⟨m97, m98, m99, m100, m101⟩, ⟨m102, m103, m104⟩⟩, fun q hq => rfl⟩ (⟨by omega, by omega⟩) (by omega) (by omega) ((pfW_0 _ _ _ _).symm) (fun j a b => absurd b (by omega))
