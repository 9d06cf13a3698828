/-! ===== the reference's marks: how they are worth something ===== -/
def evM (φ : Int → Bool) (c f n : Int) (p : List Bool) : List Bool :=
  if c = 126 then (!(p.headD false)) :: p.tail
  else if c = 38 then ((p.tail.headD false) && (p.headD false)) :: p.tail.tail
  else if c = 124 then ((p.tail.headD false) || (p.headD false)) :: p.tail.tail
  else φ ((f * 3 + relZ c) * 100000 + n) :: p
def szM (c n : Int) : Int := if c = 126 then n else if c = 38 ∨ c = 124 then n - 1 else n + 1
def okM (c f n s : Int) : Prop := (c = 126 ∧ 1 ≤ s) ∨ ((c = 38 ∨ c = 124) ∧ 2 ≤ s) ∨ ((60 ≤ c ∧ c ≤ 62) ∧ (0 ≤ f ∧ f ≤ 5) ∧ (0 ≤ n ∧ n ≤ 99999) ∧ s ≤ 63)
def evA (φ : Int → Bool) (MK : Int → Int) (k : Int) : Nat → List Bool
  | 0 => []
  | n + 1 => evM φ (MK (200 * k + 3 * n)) (MK (200 * k + 3 * n + 1)) (MK (200 * k + 3 * n + 2)) (evA φ MK k n)
def szA (MK : Int → Int) (k : Int) : Nat → Int
  | 0 => 0
  | n + 1 => szM (MK (200 * k + 3 * n)) (szA MK k n)
def okA (MK : Int → Int) (k : Int) (n : Nat) : Prop := ∀ i : Nat, i < n → okM (MK (200 * k + 3 * i)) (MK (200 * k + 3 * i + 1)) (MK (200 * k + 3 * i + 2)) (szA MK k i)
theorem szA_b {MK : Int → Int} {k : Int} : ∀ {n : Nat}, okA MK k n → 0 ≤ szA MK k n ∧ szA MK k n ≤ 64
  | 0, _ => ⟨Int.le_refl 0, by show (0 : Int) ≤ 64; decide⟩
  | n + 1, h => by
    have h1 := szA_b (n := n) (fun i hi => h i (by omega))
    have h2 := h n (by omega)
    show 0 ≤ szM (MK (200 * k + 3 * n)) (szA MK k n) ∧ szM (MK (200 * k + 3 * n)) (szA MK k n) ≤ 64
    unfold szM
    rcases h2 with h2 | h2 | h2
    · rw [if_pos h2.1]; exact h1
    · rw [if_neg (by omega), if_pos h2.1]; omega
    · rw [if_neg (by omega), if_neg (by omega)]; omega
theorem szA_s (MK : Int → Int) (k : Int) {c : Int} (h : 0 ≤ c) : szA MK k (c + 1).toNat = szM (MK (200 * k + 3 * c)) (szA MK k c.toNat) := by
  rw [show (c + 1).toNat = c.toNat + 1 by omega]
  show szM (MK (200 * k + 3 * (c.toNat : Int))) _ = _
  rw [show ((c.toNat : Nat) : Int) = c by omega]
theorem evA_s (φ : Int → Bool) (MK : Int → Int) (k : Int) {c : Int} (h : 0 ≤ c) : evA φ MK k (c + 1).toNat = evM φ (MK (200 * k + 3 * c)) (MK (200 * k + 3 * c + 1)) (MK (200 * k + 3 * c + 2)) (evA φ MK k c.toNat) := by
  rw [show (c + 1).toNat = c.toNat + 1 by omega]
  show evM φ (MK (200 * k + 3 * (c.toNat : Int))) (MK (200 * k + 3 * (c.toNat : Int) + 1)) (MK (200 * k + 3 * (c.toNat : Int) + 2)) _ = _
  rw [show ((c.toNat : Nat) : Int) = c by omega]
theorem okA_s {MK : Int → Int} {k c : Int} {n : Nat} (h : okA MK k n) (h0 : 0 ≤ c) (h1 : c < n) : okM (MK (200 * k + 3 * c)) (MK (200 * k + 3 * c + 1)) (MK (200 * k + 3 * c + 2)) (szA MK k c.toNat) := by
  have := h c.toNat (by omega)
  rw [show ((c.toNat : Nat) : Int) = c by omega] at this
  exact this
def pl (Pi : Int → Int) : Nat → List Bool
  | 0 => []
  | n + 1 => decide (Pi n = 1) :: pl Pi n
theorem pl_up {Pi : Int → Int} {n y : Int} : ∀ k : Nat, (k : Int) ≤ n → pl (updZ Pi n y) k = pl Pi k
  | 0, _ => rfl
  | k + 1, h => by
    show decide (updZ Pi n y k = 1) :: pl (updZ Pi n y) k = decide (Pi k = 1) :: pl Pi k
    rw [pl_up k (by omega), updZ_ne _ _ (by omega)]
theorem pl_push {Pi : Int → Int} {n y : Int} {E : List Bool} (h : 0 ≤ n) (hpl : pl Pi n.toNat = E) : pl (updZ Pi n y) (n + 1).toNat = decide (y = 1) :: E := by
  rw [show (n + 1).toNat = n.toNat + 1 by omega]
  show decide (updZ Pi n y (n.toNat : Int) = 1) :: pl (updZ Pi n y) n.toNat = _
  rw [show ((n.toNat : Nat) : Int) = n by omega, updZ_eq, pl_up n.toNat (by omega), hpl]
theorem pl_split {Pi : Int → Int} {n : Int} (h : 1 ≤ n) : pl Pi n.toNat = decide (Pi (n - 1) = 1) :: pl Pi (n - 1).toNat := by
  rw [show n.toNat = (n - 1).toNat + 1 by omega]
  show decide (Pi ((n - 1).toNat : Int) = 1) :: pl Pi (n - 1).toNat = _
  rw [show (((n - 1).toNat : Nat) : Int) = n - 1 by omega]
theorem pl_not {Pi : Int → Int} {n y : Int} {E : List Bool} (h : 1 ≤ n) (hpl : pl Pi n.toNat = E) (hy : decide (y = 1) = !decide (Pi (n - 1) = 1)) : pl (updZ Pi (n - 1) y) n.toNat = (!(E.headD false)) :: E.tail := by
  have := pl_push (Pi := Pi) (n := n - 1) (y := y) (E := pl Pi (n - 1).toNat) (by omega) rfl
  rw [show n - 1 + 1 = n by omega] at this
  rw [this, ← hpl, pl_split h, hy]
  rfl
theorem pi_up {Pi : Int → Int} {n y : Int} (h : ∀ j, Pi j = 0 ∨ Pi j = 1) (hy : y = 0 ∨ y = 1) : ∀ j, updZ Pi n y j = 0 ∨ updZ Pi n y j = 1 := by
  intro j
  unfold updZ
  split
  · exact hy
  · exact h j
theorem pl_bin {Pi : Int → Int} {n y : Int} {E : List Bool} (h : 2 ≤ n) (hpl : pl Pi n.toNat = E) : pl (updZ Pi (n + -1 - 1) y) (n - 1).toNat = decide (y = 1) :: E.tail.tail ∧ E.headD false = decide (Pi (n + -1) = 1) ∧ E.tail.headD false = decide (Pi (n + -1 - 1) = 1) := by
  have e1 := pl_split (Pi := Pi) (n := n) (by omega)
  have e2 := pl_split (Pi := Pi) (n := n - 1) (by omega)
  rw [e2] at e1
  rw [e1] at hpl
  have := pl_push (Pi := Pi) (n := n - 1 - 1) (y := y) (E := pl Pi (n - 1 - 1).toNat) (by omega) rfl
  rw [show n - 1 - 1 + 1 = n - 1 by omega] at this
  rw [← hpl, show n + -1 = n - 1 by omega]
  exact ⟨this, rfl, rfl⟩
def facM (FL : Int → Int) : Int → Bool := fun t => cmpZ (FL (t / 100000 / 3)) (t % 100000) (t / 100000 % 3)
theorem facM_v (FL : Int → Int) {f r n : Int} (hf : 0 ≤ f) (hr : 0 ≤ r ∧ r ≤ 2) (hn : 0 ≤ n ∧ n ≤ 99999) : facM FL ((f * 3 + r) * 100000 + n) = cmpZ (FL f) n r := by
  unfold facM
  rw [show ((f * 3 + r) * 100000 + n) / 100000 / 3 = f by omega, show ((f * 3 + r) * 100000 + n) % 100000 = n by omega, show ((f * 3 + r) * 100000 + n) / 100000 % 3 = r by omega]
theorem okM_not {c f n s : Int} (h : okM c f n s) (hc : c = 126) : 1 ≤ s := by
  rcases h with h | h | h <;> omega
theorem okM_bin {c f n s : Int} (h : okM c f n s) (hc : c = 38 ∨ c = 124) : 2 ≤ s := by
  rcases h with h | h | h <;> omega
theorem okM_cmp {c f n s : Int} (h : okM c f n s) (h1 : c ≠ 126) (h2 : ¬ (c = 38 ∨ c = 124)) : (60 ≤ c ∧ c ≤ 62) ∧ (0 ≤ f ∧ f ≤ 5) ∧ (0 ≤ n ∧ n ≤ 99999) ∧ s ≤ 63 := by
  rcases h with h | h | h
  · omega
  · omega
  · exact h
theorem evM_not {φ : Int → Bool} {c f n : Int} {p : List Bool} (h : c = 126) : evM φ c f n p = (!(p.headD false)) :: p.tail := if_pos h
theorem evM_and {φ : Int → Bool} {c f n : Int} {p : List Bool} (h : c = 38) : evM φ c f n p = ((p.tail.headD false) && (p.headD false)) :: p.tail.tail := by
  unfold evM
  rw [if_neg (by omega), if_pos h]
theorem evM_or {φ : Int → Bool} {c f n : Int} {p : List Bool} (h : c = 124) : evM φ c f n p = ((p.tail.headD false) || (p.headD false)) :: p.tail.tail := by
  unfold evM
  rw [if_neg (by omega), if_neg (by omega), if_pos h]
theorem evM_cmp {FL : Int → Int} {c f n : Int} {p : List Bool} (h1 : c ≠ 126) (h2 : ¬ (c = 38 ∨ c = 124)) (hc : 60 ≤ c ∧ c ≤ 62) (hf : 0 ≤ f) (hn : 0 ≤ n ∧ n ≤ 99999) : evM (facM FL) c f n p = (if c = 60 then decide (FL f < n) else if c = 61 then decide (FL f = n) else decide (n < FL f)) :: p := by
  unfold evM
  rw [if_neg h1, if_neg (by omega), if_neg (by omega), facM_v FL hf (by unfold relZ; repeat (first | omega | split)) hn]
  unfold cmpZ relZ
  by_cases a : c = 60
  · rw [if_pos a, if_pos a, if_pos rfl]
  · rw [if_neg a, if_neg a]
    by_cases b : c = 61
    · rw [if_pos b, if_pos b, if_neg (by decide), if_pos rfl]
    · rw [if_neg b, if_neg b, if_pos (show c = 62 by omega), if_neg (by decide), if_neg (by decide)]

set_option maxHeartbeats 4000000 in
set_option maxRecDepth 100000 in
theorem c_X7_holds {w : gW} {l : Launch} {S : Nat → va_E} {pm tm xm at_ wm wh : Int} {ir : Bool} {V PV TY TX MK MM CH AM WT WK FL PI : Int → Int} (hN : gw_N w = 105) (hm : modelAt w pm tm xm at_ wm wh ir V PV TY TX MK MM CH AM WT WK FL PI S) {k : Int} (hk : 0 ≤ k ∧ k < 8) (hmm : 0 ≤ MM k ∧ MM k ≤ 66) (hok : okA MK k (MM k).toNat) (hsz : szA MK k (MM k).toNat = 1) (hpi0 : ∀ j, PI j = 0 ∨ PI j = 1) (hfl : ∀ j, inL (FL j)) :
    GM1 w l yX7_holds wsX7_holds { frames := 0, cells := 0, slots := 0, locals := 0 } [.ref (gw_ad w 92), vI (k)] S
      (fun v S' => v = vI (bz ((evA (facM FL) MK k (MM k).toNat).headD false)) ∧ ∃ PI' : Int → Int, (∀ j, PI' j = 0 ∨ PI' j = 1) ∧ S' = va_up S 104 (AZ w 64 PI')) := by
  refine GM.start (own := RX7) (n := "holds") (d := "(I)Z") (by decide) rfl (Nat.le_of_ble_eq_true rfl) ?_
  intro X hX hR hXl
  subst hXl
  refine g_at rfl (lv2 := [(0, .ref (gw_ad w 92)), (1, vI (k))]) rfl rfl rfl ?_
  obtain ⟨⟨m92, m93, m94⟩, ⟨m95, m96⟩, ⟨m97, m98, m99, m100, m101⟩, ⟨m102, m103, m104⟩⟩ := (id hm)
  refine g_iconst (pc := 0) hX dX7_holds_0 ?_
  refine g_istore_n (pc := 1) hX (lv2 := [(2, vI (0)), (0, .ref (gw_ad w 92)), (1, vI (k))]) rfl (by decide) rfl dX7_holds_1 ?_
  refine g_iconst (pc := 2) hX dX7_holds_2 ?_
  refine g_istore_n (pc := 3) hX (lv2 := [(3, vI (0)), (2, vI (0)), (0, .ref (gw_ad w 92)), (1, vI (k))]) rfl (by decide) rfl dX7_holds_3 ?_
  have loop : ∀ (n0 : Nat) (c : Int) (Pi : Int → Int), 0 ≤ c → c ≤ MM k → MM k - c < n0 → (∀ j, Pi j = 0 ∨ Pi j = 1) → (pl Pi (szA MK k (c : Int).toNat).toNat = evA (facM FL) MK k (c : Int).toNat) → G w { frames := 0, cells := 0, slots := 0, locals := 0 } X 8 4 [(3, vI (c)), (0, .ref (gw_ad w 92)), (1, vI (k)), (2, vI (szA MK k (c : Int).toNat))] [] (va_up S 104 (AZ w 64 (Pi))) := by
    intro n0
    induction n0 with
    | zero => intro c Pi h1c h2c h3c; exact absurd h3c (by omega)
    | succ n0 ihloop =>
      intro c Pi h1c h2c h3c hpi hpl
      have hc : inI c := inI_mk (by omega) (by omega)
      have hsb := szA_b (MK := MK) (k := k) (n := (c : Int).toNat) (fun i hi => hok i (by omega))
      have hpr : ∀ j, inI (Pi j) := fun j => by rcases hpi j with h | h <;> rw [h] <;> exact inI_mk (by omega) (by omega)
      refine g_iload_n (pc := 4) hX 0 rfl dX7_holds_4 ?_
      refine g_aload_n (pc := 5) hX 1 rfl dX7_holds_5 ?_
      refine g_get (pc := 6) hX (ci := 7) (fun _ h => List.mem_cons_of_mem _ (List.mem_append_right _ h)) rfl 92 (by omega) (up_ne (by decide) m92) 9 (by decide) (List.mem_of_getElem? (i := 1) rfl) rfl (v := .ref (gw_ad w 98)) rfl dX7_holds_6 ?_
      refine g_iload_n (pc := 9) hX 2 rfl dX7_holds_9 ?_
      refine g_iald (pc := 10) hX 98 (by omega) (up_ne (by decide) m98) (by omega) (by omega) (by decide) dX7_holds_10 ?_
      refine g_icmp_ge (pc := 11) (tgt := 270) hX (by first | assumption | exact inI_mk (by omega) (by omega)) (by first | assumption | exact inI_mk (by omega) (by omega)) dX7_holds_11 (by decide) (fun c_11 => ?_) (fun c_11 => ?_)
      · skip
        refine g_aload_n (pc := 270) hX 1 rfl dX7_holds_270 ?_
        refine g_get (pc := 271) hX (ci := 7) (fun _ h => List.mem_cons_of_mem _ (List.mem_append_right _ h)) rfl 92 (by omega) (up_ne (by decide) m92) 18 (by decide) (List.mem_of_getElem? (i := 3) rfl) rfl (v := .ref (gw_ad w 104)) rfl dX7_holds_271 ?_
        refine g_iconst (pc := 274) hX dX7_holds_274 ?_
        refine g_zald (pc := 275) hX 104 (by omega) (up_eq _ _ _) (by omega) (by omega) (by decide) dX7_holds_275 ?_
        refine g_at rfl rfl (st2 := [vI (bz (decide (Pi 0 = 1)))]) (congrArg (fun z => [vI z]) (show Pi 0 = bz (decide (Pi 0 = 1)) from by rcases hpi 0 with h | h <;> rw [h] <;> rfl)) rfl ?_
        refine g_zret (pc := 276) hX hR dX7_holds_276 ?_
        have hcm2 : c = MM k := by omega
        subst hcm2
        rw [hsz] at hpl
        have hpl2 : [decide (Pi 0 = 1)] = evA (facM FL) MK k (MM k).toNat := hpl
        rw [← hpl2]
        exact ⟨rfl, Pi, hpi, rfl⟩
      · skip
        refine g_sipush (pc := 14) hX (by decide) dX7_holds_14 ?_
        refine g_iload_n (pc := 17) hX 2 rfl dX7_holds_17 ?_
        refine g_imul (pc := 18) hX dX7_holds_18 ?_
        refine g_iconst (pc := 19) hX dX7_holds_19 ?_
        refine g_iload_n (pc := 20) hX 0 rfl dX7_holds_20 ?_
        refine g_imul (pc := 21) hX dX7_holds_21 ?_
        refine g_iadd (pc := 22) hX dX7_holds_22 ?_
        refine g_istore (pc := 23) hX (lv2 := [(4, vI ((200 * k) + (3 * c))), (3, vI (c)), (0, .ref (gw_ad w 92)), (1, vI (k)), (2, vI (szA MK k (c : Int).toNat))]) (by decide) rfl dX7_holds_23 ?_
        refine g_aload_n (pc := 25) hX 2 rfl dX7_holds_25 ?_
        refine g_get (pc := 26) hX (ci := 7) (fun _ h => List.mem_cons_of_mem _ (List.mem_append_right _ h)) rfl 92 (by omega) (up_ne (by decide) m92) 8 (by decide) (List.mem_of_getElem? (i := 2) rfl) rfl (v := .ref (gw_ad w 97)) rfl dX7_holds_26 ?_
        refine g_iload (pc := 29) hX 0 rfl dX7_holds_29 ?_
        refine g_iald (pc := 31) hX 97 (by omega) (up_ne (by decide) m97) (by omega) (by omega) (by decide) dX7_holds_31 ?_
        refine g_istore (pc := 32) hX (lv2 := [(5, vI (MK ((200 * k) + (3 * c)))), (4, vI ((200 * k) + (3 * c))), (3, vI (c)), (0, .ref (gw_ad w 92)), (1, vI (k)), (2, vI (szA MK k (c : Int).toNat))]) (by decide) rfl dX7_holds_32 ?_
        have hoc := okA_s hok h1c (by omega)
        have hmk0 : inI (MK (200 * k + 3 * c)) := by rcases hoc with h | h | h <;> exact inI_mk (by omega) (by omega)
        refine g_iload (pc := 34) hX 0 rfl dX7_holds_34 ?_
        refine g_bipush (pc := 36) hX (by decide) dX7_holds_36 ?_
        refine g_icmp_ne (pc := 38) (tgt := 68) hX hmk0 (by first | assumption | exact inI_mk (by omega) (by omega)) dX7_holds_38 (by decide) (fun c_38 => ?_) (fun c_38 => ?_)
        · skip
          refine g_iload (pc := 68) hX 0 rfl dX7_holds_68 ?_
          refine g_bipush (pc := 70) hX (by decide) dX7_holds_70 ?_
          refine g_icmp_eq (pc := 72) (tgt := 82) hX hmk0 (by first | assumption | exact inI_mk (by omega) (by omega)) dX7_holds_72 (by decide) (fun c_72 => ?_) (fun c_72 => ?_)
          · skip
            have hn2 := okM_bin hoc (by omega)
            refine g_iinc (pc := 82) hX (lv2 := [(2, vI (szA MK k (c : Int).toNat + (-1))), (5, vI (MK ((200 * k) + (3 * c)))), (4, vI ((200 * k) + (3 * c))), (3, vI (c)), (0, .ref (gw_ad w 92)), (1, vI (k))]) 5 rfl (by decide) rfl dX7_holds_82 ?_
            refine g_aload_n (pc := 85) hX 4 rfl dX7_holds_85 ?_
            refine g_get (pc := 86) hX (ci := 7) (fun _ h => List.mem_cons_of_mem _ (List.mem_append_right _ h)) rfl 92 (by omega) (up_ne (by decide) m92) 18 (by decide) (List.mem_of_getElem? (i := 3) rfl) rfl (v := .ref (gw_ad w 104)) rfl dX7_holds_86 ?_
            refine g_iload_n (pc := 89) hX 0 rfl dX7_holds_89 ?_
            refine g_iconst (pc := 90) hX dX7_holds_90 ?_
            refine g_isub (pc := 91) hX dX7_holds_91 ?_
            refine g_iload (pc := 92) hX 1 rfl dX7_holds_92 ?_
            refine g_bipush (pc := 94) hX (by decide) dX7_holds_94 ?_
            refine g_icmp_ne (pc := 96) (tgt := 127) hX hmk0 (by first | assumption | exact inI_mk (by omega) (by omega)) dX7_holds_96 (by decide) (fun c_96 => ?_) (fun c_96 => ?_)
            · skip
              refine g_aload_n (pc := 127) hX 4 rfl dX7_holds_127 ?_
              refine g_get (pc := 128) hX (ci := 7) (fun _ h => List.mem_cons_of_mem _ (List.mem_append_right _ h)) rfl 92 (by omega) (up_ne (by decide) m92) 18 (by decide) (List.mem_of_getElem? (i := 3) rfl) rfl (v := .ref (gw_ad w 104)) rfl dX7_holds_128 ?_
              refine g_iload_n (pc := 131) hX 0 rfl dX7_holds_131 ?_
              refine g_iconst (pc := 132) hX dX7_holds_132 ?_
              refine g_isub (pc := 133) hX dX7_holds_133 ?_
              refine g_zald (pc := 134) hX 104 (by omega) (up_eq _ _ _) (by omega) (by omega) (by decide) dX7_holds_134 ?_
              refine g_if_ne (pc := 135) (tgt := 147) hX (hpr _) dX7_holds_135 (by decide) (fun c_135 => ?_) (fun c_135 => ?_)
              · skip
                refine g_iconst (pc := 147) hX dX7_holds_147 ?_
                refine g_goto (pc := 148) (tgt := 152) hX dX7_holds_148 (by decide) ?_
                refine g_at rfl rfl (st2 := [vI (bz (true)), vI ((szA MK k (c : Int).toNat + (-1)) - 1), .ref (gw_ad w 104)]) rfl rfl ?_
                refine g_zast (pc := 152) hX 104 (by omega) (up_eq _ _ _) (by omega) (by omega) (by decide) dX7_holds_152 ?_
                refine g_at rfl rfl rfl (S2 := (va_up (va_up S 104 (AZ w 64 (Pi))) 104 (AZ w 64 (updZ (Pi) ((szA MK k (c : Int).toNat + (-1)) - 1) (bz (true)))))) rfl ?_
                refine g_goto (pc := 153) (tgt := 264) hX dX7_holds_153 (by decide) ?_
                refine g_iinc (pc := 264) hX (lv2 := [(3, vI (c + 1)), (2, vI (szA MK k (c : Int).toNat + (-1))), (5, vI (MK ((200 * k) + (3 * c)))), (4, vI ((200 * k) + (3 * c))), (0, .ref (gw_ad w 92)), (1, vI (k))]) 3 rfl (by decide) rfl dX7_holds_264 ?_
                refine g_goto (pc := 267) (tgt := 4) hX dX7_holds_267 (by decide) ?_
                refine g_sub (lv2 := [(3, vI (c + 1)), (0, .ref (gw_ad w 92)), (1, vI (k)), (2, vI (szA MK k (c : Int).toNat + (-1)))]) [0, 4, 5, 1] rfl ?_
                refine g_at rfl (lv2 := [(3, vI (c + 1)), (0, .ref (gw_ad w 92)), (1, vI (k)), (2, vI (szA MK k (c + 1 : Int).toNat))]) (by rw [show szA MK k (c + 1 : Int).toNat = szA MK k (c : Int).toNat + (-1) from by rw [szA_s MK k h1c]; unfold szM; rw [if_neg c_38, if_pos (by omega)]; omega]) rfl (S2 := (va_up S 104 (AZ w 64 (updZ (Pi) ((szA MK k (c : Int).toNat + (-1)) - 1) (bz (true)))))) (by rw [up_up]) ?_
                exact ihloop (c + 1) (updZ (Pi) ((szA MK k (c : Int).toNat + (-1)) - 1) (bz (true))) (by omega) (by omega) (by omega) (pi_up hpi (by decide)) (by rw [szA_s MK k h1c, evA_s _ MK k h1c, evM_or (by omega), show szM (MK (200 * k + 3 * c)) (szA MK k (c : Int).toNat) = (szA MK k (c : Int).toNat) - 1 from by unfold szM; rw [if_neg c_38, if_pos (by omega)]]; have hb := pl_bin (y := bz true) hn2 hpl; have q1 := hpi ((szA MK k (c : Int).toNat) + -1); have q2 := hpi ((szA MK k (c : Int).toNat) + -1 - 1); rw [hb.1, hb.2.1, hb.2.2, show Pi ((szA MK k (c : Int).toNat) + -1 - 1) = 1 by omega]; simp [bz])
              · skip
                refine g_aload_n (pc := 138) hX 4 rfl dX7_holds_138 ?_
                refine g_get (pc := 139) hX (ci := 7) (fun _ h => List.mem_cons_of_mem _ (List.mem_append_right _ h)) rfl 92 (by omega) (up_ne (by decide) m92) 18 (by decide) (List.mem_of_getElem? (i := 3) rfl) rfl (v := .ref (gw_ad w 104)) rfl dX7_holds_139 ?_
                refine g_iload_n (pc := 142) hX 0 rfl dX7_holds_142 ?_
                refine g_zald (pc := 143) hX 104 (by omega) (up_eq _ _ _) (by omega) (by omega) (by decide) dX7_holds_143 ?_
                refine g_if_eq (pc := 144) (tgt := 151) hX (hpr _) dX7_holds_144 (by decide) (fun c_144 => ?_) (fun c_144 => ?_)
                · skip
                  refine g_iconst (pc := 151) hX dX7_holds_151 ?_
                  refine g_at rfl rfl (st2 := [vI (bz (false)), vI ((szA MK k (c : Int).toNat + (-1)) - 1), .ref (gw_ad w 104)]) rfl rfl ?_
                  refine g_zast (pc := 152) hX 104 (by omega) (up_eq _ _ _) (by omega) (by omega) (by decide) dX7_holds_152 ?_
                  refine g_at rfl rfl rfl (S2 := (va_up (va_up S 104 (AZ w 64 (Pi))) 104 (AZ w 64 (updZ (Pi) ((szA MK k (c : Int).toNat + (-1)) - 1) (bz (false)))))) rfl ?_
                  refine g_goto (pc := 153) (tgt := 264) hX dX7_holds_153 (by decide) ?_
                  refine g_iinc (pc := 264) hX (lv2 := [(3, vI (c + 1)), (2, vI (szA MK k (c : Int).toNat + (-1))), (5, vI (MK ((200 * k) + (3 * c)))), (4, vI ((200 * k) + (3 * c))), (0, .ref (gw_ad w 92)), (1, vI (k))]) 3 rfl (by decide) rfl dX7_holds_264 ?_
                  refine g_goto (pc := 267) (tgt := 4) hX dX7_holds_267 (by decide) ?_
                  refine g_sub (lv2 := [(3, vI (c + 1)), (0, .ref (gw_ad w 92)), (1, vI (k)), (2, vI (szA MK k (c : Int).toNat + (-1)))]) [0, 4, 5, 1] rfl ?_
                  refine g_at rfl (lv2 := [(3, vI (c + 1)), (0, .ref (gw_ad w 92)), (1, vI (k)), (2, vI (szA MK k (c + 1 : Int).toNat))]) (by rw [show szA MK k (c + 1 : Int).toNat = szA MK k (c : Int).toNat + (-1) from by rw [szA_s MK k h1c]; unfold szM; rw [if_neg c_38, if_pos (by omega)]; omega]) rfl (S2 := (va_up S 104 (AZ w 64 (updZ (Pi) ((szA MK k (c : Int).toNat + (-1)) - 1) (bz (false)))))) (by rw [up_up]) ?_
                  exact ihloop (c + 1) (updZ (Pi) ((szA MK k (c : Int).toNat + (-1)) - 1) (bz (false))) (by omega) (by omega) (by omega) (pi_up hpi (by decide)) (by rw [szA_s MK k h1c, evA_s _ MK k h1c, evM_or (by omega), show szM (MK (200 * k + 3 * c)) (szA MK k (c : Int).toNat) = (szA MK k (c : Int).toNat) - 1 from by unfold szM; rw [if_neg c_38, if_pos (by omega)]]; have hb := pl_bin (y := bz false) hn2 hpl; have q1 := hpi ((szA MK k (c : Int).toNat) + -1); have q2 := hpi ((szA MK k (c : Int).toNat) + -1 - 1); rw [hb.1, hb.2.1, hb.2.2, show Pi ((szA MK k (c : Int).toNat) + -1 - 1) = 0 by omega, show Pi ((szA MK k (c : Int).toNat) + -1) = 0 by omega]; simp [bz])
                · skip
                  refine g_iconst (pc := 147) hX dX7_holds_147 ?_
                  refine g_goto (pc := 148) (tgt := 152) hX dX7_holds_148 (by decide) ?_
                  refine g_at rfl rfl (st2 := [vI (bz (true)), vI ((szA MK k (c : Int).toNat + (-1)) - 1), .ref (gw_ad w 104)]) rfl rfl ?_
                  refine g_zast (pc := 152) hX 104 (by omega) (up_eq _ _ _) (by omega) (by omega) (by decide) dX7_holds_152 ?_
                  refine g_at rfl rfl rfl (S2 := (va_up (va_up S 104 (AZ w 64 (Pi))) 104 (AZ w 64 (updZ (Pi) ((szA MK k (c : Int).toNat + (-1)) - 1) (bz (true)))))) rfl ?_
                  refine g_goto (pc := 153) (tgt := 264) hX dX7_holds_153 (by decide) ?_
                  refine g_iinc (pc := 264) hX (lv2 := [(3, vI (c + 1)), (2, vI (szA MK k (c : Int).toNat + (-1))), (5, vI (MK ((200 * k) + (3 * c)))), (4, vI ((200 * k) + (3 * c))), (0, .ref (gw_ad w 92)), (1, vI (k))]) 3 rfl (by decide) rfl dX7_holds_264 ?_
                  refine g_goto (pc := 267) (tgt := 4) hX dX7_holds_267 (by decide) ?_
                  refine g_sub (lv2 := [(3, vI (c + 1)), (0, .ref (gw_ad w 92)), (1, vI (k)), (2, vI (szA MK k (c : Int).toNat + (-1)))]) [0, 4, 5, 1] rfl ?_
                  refine g_at rfl (lv2 := [(3, vI (c + 1)), (0, .ref (gw_ad w 92)), (1, vI (k)), (2, vI (szA MK k (c + 1 : Int).toNat))]) (by rw [show szA MK k (c + 1 : Int).toNat = szA MK k (c : Int).toNat + (-1) from by rw [szA_s MK k h1c]; unfold szM; rw [if_neg c_38, if_pos (by omega)]; omega]) rfl (S2 := (va_up S 104 (AZ w 64 (updZ (Pi) ((szA MK k (c : Int).toNat + (-1)) - 1) (bz (true)))))) (by rw [up_up]) ?_
                  exact ihloop (c + 1) (updZ (Pi) ((szA MK k (c : Int).toNat + (-1)) - 1) (bz (true))) (by omega) (by omega) (by omega) (pi_up hpi (by decide)) (by rw [szA_s MK k h1c, evA_s _ MK k h1c, evM_or (by omega), show szM (MK (200 * k + 3 * c)) (szA MK k (c : Int).toNat) = (szA MK k (c : Int).toNat) - 1 from by unfold szM; rw [if_neg c_38, if_pos (by omega)]]; have hb := pl_bin (y := bz true) hn2 hpl; have q1 := hpi ((szA MK k (c : Int).toNat) + -1); have q2 := hpi ((szA MK k (c : Int).toNat) + -1 - 1); rw [hb.1, hb.2.1, hb.2.2, show Pi ((szA MK k (c : Int).toNat) + -1 - 1) = 0 by omega, show Pi ((szA MK k (c : Int).toNat) + -1) = 1 by omega]; simp [bz])
            · skip
              refine g_aload_n (pc := 99) hX 4 rfl dX7_holds_99 ?_
              refine g_get (pc := 100) hX (ci := 7) (fun _ h => List.mem_cons_of_mem _ (List.mem_append_right _ h)) rfl 92 (by omega) (up_ne (by decide) m92) 18 (by decide) (List.mem_of_getElem? (i := 3) rfl) rfl (v := .ref (gw_ad w 104)) rfl dX7_holds_100 ?_
              refine g_iload_n (pc := 103) hX 0 rfl dX7_holds_103 ?_
              refine g_iconst (pc := 104) hX dX7_holds_104 ?_
              refine g_isub (pc := 105) hX dX7_holds_105 ?_
              refine g_zald (pc := 106) hX 104 (by omega) (up_eq _ _ _) (by omega) (by omega) (by decide) dX7_holds_106 ?_
              refine g_if_eq (pc := 107) (tgt := 123) hX (hpr _) dX7_holds_107 (by decide) (fun c_107 => ?_) (fun c_107 => ?_)
              · skip
                refine g_iconst (pc := 123) hX dX7_holds_123 ?_
                refine g_goto (pc := 124) (tgt := 152) hX dX7_holds_124 (by decide) ?_
                refine g_at rfl rfl (st2 := [vI (bz (false)), vI ((szA MK k (c : Int).toNat + (-1)) - 1), .ref (gw_ad w 104)]) rfl rfl ?_
                refine g_zast (pc := 152) hX 104 (by omega) (up_eq _ _ _) (by omega) (by omega) (by decide) dX7_holds_152 ?_
                refine g_at rfl rfl rfl (S2 := (va_up (va_up S 104 (AZ w 64 (Pi))) 104 (AZ w 64 (updZ (Pi) ((szA MK k (c : Int).toNat + (-1)) - 1) (bz (false)))))) rfl ?_
                refine g_goto (pc := 153) (tgt := 264) hX dX7_holds_153 (by decide) ?_
                refine g_iinc (pc := 264) hX (lv2 := [(3, vI (c + 1)), (2, vI (szA MK k (c : Int).toNat + (-1))), (5, vI (MK ((200 * k) + (3 * c)))), (4, vI ((200 * k) + (3 * c))), (0, .ref (gw_ad w 92)), (1, vI (k))]) 3 rfl (by decide) rfl dX7_holds_264 ?_
                refine g_goto (pc := 267) (tgt := 4) hX dX7_holds_267 (by decide) ?_
                refine g_sub (lv2 := [(3, vI (c + 1)), (0, .ref (gw_ad w 92)), (1, vI (k)), (2, vI (szA MK k (c : Int).toNat + (-1)))]) [0, 4, 5, 1] rfl ?_
                refine g_at rfl (lv2 := [(3, vI (c + 1)), (0, .ref (gw_ad w 92)), (1, vI (k)), (2, vI (szA MK k (c + 1 : Int).toNat))]) (by rw [show szA MK k (c + 1 : Int).toNat = szA MK k (c : Int).toNat + (-1) from by rw [szA_s MK k h1c]; unfold szM; rw [if_neg c_38, if_pos (by omega)]; omega]) rfl (S2 := (va_up S 104 (AZ w 64 (updZ (Pi) ((szA MK k (c : Int).toNat + (-1)) - 1) (bz (false)))))) (by rw [up_up]) ?_
                exact ihloop (c + 1) (updZ (Pi) ((szA MK k (c : Int).toNat + (-1)) - 1) (bz (false))) (by omega) (by omega) (by omega) (pi_up hpi (by decide)) (by rw [szA_s MK k h1c, evA_s _ MK k h1c, evM_and c_96, show szM (MK (200 * k + 3 * c)) (szA MK k (c : Int).toNat) = (szA MK k (c : Int).toNat) - 1 from by unfold szM; rw [if_neg c_38, if_pos (by omega)]]; have hb := pl_bin (y := bz false) hn2 hpl; have q1 := hpi ((szA MK k (c : Int).toNat) + -1); have q2 := hpi ((szA MK k (c : Int).toNat) + -1 - 1); rw [hb.1, hb.2.1, hb.2.2, show Pi ((szA MK k (c : Int).toNat) + -1 - 1) = 0 by omega]; simp [bz])
              · skip
                refine g_aload_n (pc := 110) hX 4 rfl dX7_holds_110 ?_
                refine g_get (pc := 111) hX (ci := 7) (fun _ h => List.mem_cons_of_mem _ (List.mem_append_right _ h)) rfl 92 (by omega) (up_ne (by decide) m92) 18 (by decide) (List.mem_of_getElem? (i := 3) rfl) rfl (v := .ref (gw_ad w 104)) rfl dX7_holds_111 ?_
                refine g_iload_n (pc := 114) hX 0 rfl dX7_holds_114 ?_
                refine g_zald (pc := 115) hX 104 (by omega) (up_eq _ _ _) (by omega) (by omega) (by decide) dX7_holds_115 ?_
                refine g_if_eq (pc := 116) (tgt := 123) hX (hpr _) dX7_holds_116 (by decide) (fun c_116 => ?_) (fun c_116 => ?_)
                · skip
                  refine g_iconst (pc := 123) hX dX7_holds_123 ?_
                  refine g_goto (pc := 124) (tgt := 152) hX dX7_holds_124 (by decide) ?_
                  refine g_at rfl rfl (st2 := [vI (bz (false)), vI ((szA MK k (c : Int).toNat + (-1)) - 1), .ref (gw_ad w 104)]) rfl rfl ?_
                  refine g_zast (pc := 152) hX 104 (by omega) (up_eq _ _ _) (by omega) (by omega) (by decide) dX7_holds_152 ?_
                  refine g_at rfl rfl rfl (S2 := (va_up (va_up S 104 (AZ w 64 (Pi))) 104 (AZ w 64 (updZ (Pi) ((szA MK k (c : Int).toNat + (-1)) - 1) (bz (false)))))) rfl ?_
                  refine g_goto (pc := 153) (tgt := 264) hX dX7_holds_153 (by decide) ?_
                  refine g_iinc (pc := 264) hX (lv2 := [(3, vI (c + 1)), (2, vI (szA MK k (c : Int).toNat + (-1))), (5, vI (MK ((200 * k) + (3 * c)))), (4, vI ((200 * k) + (3 * c))), (0, .ref (gw_ad w 92)), (1, vI (k))]) 3 rfl (by decide) rfl dX7_holds_264 ?_
                  refine g_goto (pc := 267) (tgt := 4) hX dX7_holds_267 (by decide) ?_
                  refine g_sub (lv2 := [(3, vI (c + 1)), (0, .ref (gw_ad w 92)), (1, vI (k)), (2, vI (szA MK k (c : Int).toNat + (-1)))]) [0, 4, 5, 1] rfl ?_
                  refine g_at rfl (lv2 := [(3, vI (c + 1)), (0, .ref (gw_ad w 92)), (1, vI (k)), (2, vI (szA MK k (c + 1 : Int).toNat))]) (by rw [show szA MK k (c + 1 : Int).toNat = szA MK k (c : Int).toNat + (-1) from by rw [szA_s MK k h1c]; unfold szM; rw [if_neg c_38, if_pos (by omega)]; omega]) rfl (S2 := (va_up S 104 (AZ w 64 (updZ (Pi) ((szA MK k (c : Int).toNat + (-1)) - 1) (bz (false)))))) (by rw [up_up]) ?_
                  exact ihloop (c + 1) (updZ (Pi) ((szA MK k (c : Int).toNat + (-1)) - 1) (bz (false))) (by omega) (by omega) (by omega) (pi_up hpi (by decide)) (by rw [szA_s MK k h1c, evA_s _ MK k h1c, evM_and c_96, show szM (MK (200 * k + 3 * c)) (szA MK k (c : Int).toNat) = (szA MK k (c : Int).toNat) - 1 from by unfold szM; rw [if_neg c_38, if_pos (by omega)]]; have hb := pl_bin (y := bz false) hn2 hpl; have q1 := hpi ((szA MK k (c : Int).toNat) + -1); have q2 := hpi ((szA MK k (c : Int).toNat) + -1 - 1); rw [hb.1, hb.2.1, hb.2.2, show Pi ((szA MK k (c : Int).toNat) + -1 - 1) = 1 by omega, show Pi ((szA MK k (c : Int).toNat) + -1) = 0 by omega]; simp [bz])
                · skip
                  refine g_iconst (pc := 119) hX dX7_holds_119 ?_
                  refine g_goto (pc := 120) (tgt := 152) hX dX7_holds_120 (by decide) ?_
                  refine g_at rfl rfl (st2 := [vI (bz (true)), vI ((szA MK k (c : Int).toNat + (-1)) - 1), .ref (gw_ad w 104)]) rfl rfl ?_
                  refine g_zast (pc := 152) hX 104 (by omega) (up_eq _ _ _) (by omega) (by omega) (by decide) dX7_holds_152 ?_
                  refine g_at rfl rfl rfl (S2 := (va_up (va_up S 104 (AZ w 64 (Pi))) 104 (AZ w 64 (updZ (Pi) ((szA MK k (c : Int).toNat + (-1)) - 1) (bz (true)))))) rfl ?_
                  refine g_goto (pc := 153) (tgt := 264) hX dX7_holds_153 (by decide) ?_
                  refine g_iinc (pc := 264) hX (lv2 := [(3, vI (c + 1)), (2, vI (szA MK k (c : Int).toNat + (-1))), (5, vI (MK ((200 * k) + (3 * c)))), (4, vI ((200 * k) + (3 * c))), (0, .ref (gw_ad w 92)), (1, vI (k))]) 3 rfl (by decide) rfl dX7_holds_264 ?_
                  refine g_goto (pc := 267) (tgt := 4) hX dX7_holds_267 (by decide) ?_
                  refine g_sub (lv2 := [(3, vI (c + 1)), (0, .ref (gw_ad w 92)), (1, vI (k)), (2, vI (szA MK k (c : Int).toNat + (-1)))]) [0, 4, 5, 1] rfl ?_
                  refine g_at rfl (lv2 := [(3, vI (c + 1)), (0, .ref (gw_ad w 92)), (1, vI (k)), (2, vI (szA MK k (c + 1 : Int).toNat))]) (by rw [show szA MK k (c + 1 : Int).toNat = szA MK k (c : Int).toNat + (-1) from by rw [szA_s MK k h1c]; unfold szM; rw [if_neg c_38, if_pos (by omega)]; omega]) rfl (S2 := (va_up S 104 (AZ w 64 (updZ (Pi) ((szA MK k (c : Int).toNat + (-1)) - 1) (bz (true)))))) (by rw [up_up]) ?_
                  exact ihloop (c + 1) (updZ (Pi) ((szA MK k (c : Int).toNat + (-1)) - 1) (bz (true))) (by omega) (by omega) (by omega) (pi_up hpi (by decide)) (by rw [szA_s MK k h1c, evA_s _ MK k h1c, evM_and c_96, show szM (MK (200 * k + 3 * c)) (szA MK k (c : Int).toNat) = (szA MK k (c : Int).toNat) - 1 from by unfold szM; rw [if_neg c_38, if_pos (by omega)]]; have hb := pl_bin (y := bz true) hn2 hpl; have q1 := hpi ((szA MK k (c : Int).toNat) + -1); have q2 := hpi ((szA MK k (c : Int).toNat) + -1 - 1); rw [hb.1, hb.2.1, hb.2.2, show Pi ((szA MK k (c : Int).toNat) + -1 - 1) = 1 by omega, show Pi ((szA MK k (c : Int).toNat) + -1) = 1 by omega]; simp [bz])
          · skip
            refine g_iload (pc := 75) hX 0 rfl dX7_holds_75 ?_
            refine g_bipush (pc := 77) hX (by decide) dX7_holds_77 ?_
            refine g_icmp_ne (pc := 79) (tgt := 156) hX hmk0 (by first | assumption | exact inI_mk (by omega) (by omega)) dX7_holds_79 (by decide) (fun c_79 => ?_) (fun c_79 => ?_)
            · skip
              have hcm := okM_cmp hoc c_38 (by omega)
              refine g_aload_n (pc := 156) hX 3 rfl dX7_holds_156 ?_
              refine g_get (pc := 157) hX (ci := 7) (fun _ h => List.mem_cons_of_mem _ (List.mem_append_right _ h)) rfl 92 (by omega) (up_ne (by decide) m92) 17 (by decide) (List.mem_of_getElem? (i := 4) rfl) rfl (v := .ref (gw_ad w 103)) rfl dX7_holds_157 ?_
              refine g_aload_n (pc := 160) hX 3 rfl dX7_holds_160 ?_
              refine g_get (pc := 161) hX (ci := 7) (fun _ h => List.mem_cons_of_mem _ (List.mem_append_right _ h)) rfl 92 (by omega) (up_ne (by decide) m92) 8 (by decide) (List.mem_of_getElem? (i := 2) rfl) rfl (v := .ref (gw_ad w 97)) rfl dX7_holds_161 ?_
              refine g_iload (pc := 164) hX 1 rfl dX7_holds_164 ?_
              refine g_iconst (pc := 166) hX dX7_holds_166 ?_
              refine g_iadd (pc := 167) hX dX7_holds_167 ?_
              refine g_iald (pc := 168) hX 97 (by omega) (up_ne (by decide) m97) (by omega) (by omega) (by decide) dX7_holds_168 ?_
              refine g_lald (pc := 169) hX 103 (by omega) (up_ne (by decide) m103) (by omega) (by omega) (by decide) dX7_holds_169 ?_
              refine g_lstore (pc := 170) hX (lv2 := [(6, vL (FL (MK (((200 * k) + (3 * c)) + 1)))), (5, vI (MK ((200 * k) + (3 * c)))), (4, vI ((200 * k) + (3 * c))), (3, vI (c)), (0, .ref (gw_ad w 92)), (1, vI (k)), (2, vI (szA MK k (c : Int).toNat))]) (by decide) rfl dX7_holds_170 ?_
              refine g_aload_n (pc := 172) hX 4 rfl dX7_holds_172 ?_
              refine g_get (pc := 173) hX (ci := 7) (fun _ h => List.mem_cons_of_mem _ (List.mem_append_right _ h)) rfl 92 (by omega) (up_ne (by decide) m92) 18 (by decide) (List.mem_of_getElem? (i := 3) rfl) rfl (v := .ref (gw_ad w 104)) rfl dX7_holds_173 ?_
              refine g_iload_n (pc := 176) hX 6 rfl dX7_holds_176 ?_
              refine g_iload (pc := 177) hX 1 rfl dX7_holds_177 ?_
              refine g_bipush (pc := 179) hX (by decide) dX7_holds_179 ?_
              refine g_icmp_ne (pc := 181) (tgt := 208) hX hmk0 (by first | assumption | exact inI_mk (by omega) (by omega)) dX7_holds_181 (by decide) (fun c_181 => ?_) (fun c_181 => ?_)
              · skip
                refine g_iload (pc := 208) hX 1 rfl dX7_holds_208 ?_
                refine g_bipush (pc := 210) hX (by decide) dX7_holds_210 ?_
                refine g_icmp_ne (pc := 212) (tgt := 239) hX hmk0 (by first | assumption | exact inI_mk (by omega) (by omega)) dX7_holds_212 (by decide) (fun c_212 => ?_) (fun c_212 => ?_)
                · skip
                  refine g_lload (pc := 239) hX 0 rfl dX7_holds_239 ?_
                  refine g_aload_n (pc := 241) hX 4 rfl dX7_holds_241 ?_
                  refine g_get (pc := 242) hX (ci := 7) (fun _ h => List.mem_cons_of_mem _ (List.mem_append_right _ h)) rfl 92 (by omega) (up_ne (by decide) m92) 8 (by decide) (List.mem_of_getElem? (i := 2) rfl) rfl (v := .ref (gw_ad w 97)) rfl dX7_holds_242 ?_
                  refine g_iload (pc := 245) hX 2 rfl dX7_holds_245 ?_
                  refine g_iconst (pc := 247) hX dX7_holds_247 ?_
                  refine g_iadd (pc := 248) hX dX7_holds_248 ?_
                  refine g_iald (pc := 249) hX 97 (by omega) (up_ne (by decide) m97) (by omega) (by omega) (by decide) dX7_holds_249 ?_
                  refine g_i2l (pc := 250) hX (by first | assumption | exact inI_mk (by omega) (by omega)) dX7_holds_250 ?_
                  refine g_lcmp_le (pc := 251) (tgt := 259) hX (hfl _) (by first | assumption | exact inI_L (by assumption) | exact inL_mk (by omega) (by omega)) dX7_holds_251 dX7_holds_252 (by decide) (fun c_251 => ?_) (fun c_251 => ?_)
                  · skip
                    refine g_iconst (pc := 259) hX dX7_holds_259 ?_
                    refine g_at rfl rfl (st2 := [vI (bz (false)), vI (szA MK k (c : Int).toNat), .ref (gw_ad w 104)]) rfl rfl ?_
                    refine g_zast (pc := 260) hX 104 (by omega) (up_eq _ _ _) (by omega) (by omega) (by decide) dX7_holds_260 ?_
                    refine g_at rfl rfl rfl (S2 := (va_up (va_up S 104 (AZ w 64 (Pi))) 104 (AZ w 64 (updZ (Pi) (szA MK k (c : Int).toNat) (bz (false)))))) rfl ?_
                    refine g_iinc (pc := 261) hX (lv2 := [(2, vI (szA MK k (c : Int).toNat + 1)), (6, vL (FL (MK (((200 * k) + (3 * c)) + 1)))), (5, vI (MK ((200 * k) + (3 * c)))), (4, vI ((200 * k) + (3 * c))), (3, vI (c)), (0, .ref (gw_ad w 92)), (1, vI (k))]) 6 rfl (by decide) rfl dX7_holds_261 ?_
                    refine g_iinc (pc := 264) hX (lv2 := [(3, vI (c + 1)), (2, vI (szA MK k (c : Int).toNat + 1)), (6, vL (FL (MK (((200 * k) + (3 * c)) + 1)))), (5, vI (MK ((200 * k) + (3 * c)))), (4, vI ((200 * k) + (3 * c))), (0, .ref (gw_ad w 92)), (1, vI (k))]) 4 rfl (by decide) rfl dX7_holds_264 ?_
                    refine g_goto (pc := 267) (tgt := 4) hX dX7_holds_267 (by decide) ?_
                    refine g_sub (lv2 := [(3, vI (c + 1)), (0, .ref (gw_ad w 92)), (1, vI (k)), (2, vI (szA MK k (c : Int).toNat + 1))]) [0, 5, 6, 1] rfl ?_
                    refine g_at rfl (lv2 := [(3, vI (c + 1)), (0, .ref (gw_ad w 92)), (1, vI (k)), (2, vI (szA MK k (c + 1 : Int).toNat))]) (by rw [show szA MK k (c + 1 : Int).toNat = szA MK k (c : Int).toNat + 1 from by rw [szA_s MK k h1c]; unfold szM; rw [if_neg c_38, if_neg (by omega)]]) rfl (S2 := (va_up S 104 (AZ w 64 (updZ (Pi) (szA MK k (c : Int).toNat) (bz (false)))))) (by rw [up_up]) ?_
                    exact ihloop (c + 1) (updZ (Pi) (szA MK k (c : Int).toNat) (bz (false))) (by omega) (by omega) (by omega) (pi_up hpi (by decide)) (by rw [szA_s MK k h1c, evA_s _ MK k h1c, evM_cmp c_38 (by omega) hcm.1 hcm.2.1.1 hcm.2.2.1, if_neg c_181, if_neg c_212, show szM (MK (200 * k + 3 * c)) (szA MK k (c : Int).toNat) = (szA MK k (c : Int).toNat) + 1 from by unfold szM; rw [if_neg c_38, if_neg (by omega)], df (by omega)]; exact pl_push (by omega) hpl)
                  · skip
                    refine g_iconst (pc := 255) hX dX7_holds_255 ?_
                    refine g_goto (pc := 256) (tgt := 260) hX dX7_holds_256 (by decide) ?_
                    refine g_at rfl rfl (st2 := [vI (bz (true)), vI (szA MK k (c : Int).toNat), .ref (gw_ad w 104)]) rfl rfl ?_
                    refine g_zast (pc := 260) hX 104 (by omega) (up_eq _ _ _) (by omega) (by omega) (by decide) dX7_holds_260 ?_
                    refine g_at rfl rfl rfl (S2 := (va_up (va_up S 104 (AZ w 64 (Pi))) 104 (AZ w 64 (updZ (Pi) (szA MK k (c : Int).toNat) (bz (true)))))) rfl ?_
                    refine g_iinc (pc := 261) hX (lv2 := [(2, vI (szA MK k (c : Int).toNat + 1)), (6, vL (FL (MK (((200 * k) + (3 * c)) + 1)))), (5, vI (MK ((200 * k) + (3 * c)))), (4, vI ((200 * k) + (3 * c))), (3, vI (c)), (0, .ref (gw_ad w 92)), (1, vI (k))]) 6 rfl (by decide) rfl dX7_holds_261 ?_
                    refine g_iinc (pc := 264) hX (lv2 := [(3, vI (c + 1)), (2, vI (szA MK k (c : Int).toNat + 1)), (6, vL (FL (MK (((200 * k) + (3 * c)) + 1)))), (5, vI (MK ((200 * k) + (3 * c)))), (4, vI ((200 * k) + (3 * c))), (0, .ref (gw_ad w 92)), (1, vI (k))]) 4 rfl (by decide) rfl dX7_holds_264 ?_
                    refine g_goto (pc := 267) (tgt := 4) hX dX7_holds_267 (by decide) ?_
                    refine g_sub (lv2 := [(3, vI (c + 1)), (0, .ref (gw_ad w 92)), (1, vI (k)), (2, vI (szA MK k (c : Int).toNat + 1))]) [0, 5, 6, 1] rfl ?_
                    refine g_at rfl (lv2 := [(3, vI (c + 1)), (0, .ref (gw_ad w 92)), (1, vI (k)), (2, vI (szA MK k (c + 1 : Int).toNat))]) (by rw [show szA MK k (c + 1 : Int).toNat = szA MK k (c : Int).toNat + 1 from by rw [szA_s MK k h1c]; unfold szM; rw [if_neg c_38, if_neg (by omega)]]) rfl (S2 := (va_up S 104 (AZ w 64 (updZ (Pi) (szA MK k (c : Int).toNat) (bz (true)))))) (by rw [up_up]) ?_
                    exact ihloop (c + 1) (updZ (Pi) (szA MK k (c : Int).toNat) (bz (true))) (by omega) (by omega) (by omega) (pi_up hpi (by decide)) (by rw [szA_s MK k h1c, evA_s _ MK k h1c, evM_cmp c_38 (by omega) hcm.1 hcm.2.1.1 hcm.2.2.1, if_neg c_181, if_neg c_212, show szM (MK (200 * k + 3 * c)) (szA MK k (c : Int).toNat) = (szA MK k (c : Int).toNat) + 1 from by unfold szM; rw [if_neg c_38, if_neg (by omega)], dt (by omega)]; exact pl_push (by omega) hpl)
                · skip
                  refine g_lload (pc := 215) hX 0 rfl dX7_holds_215 ?_
                  refine g_aload_n (pc := 217) hX 4 rfl dX7_holds_217 ?_
                  refine g_get (pc := 218) hX (ci := 7) (fun _ h => List.mem_cons_of_mem _ (List.mem_append_right _ h)) rfl 92 (by omega) (up_ne (by decide) m92) 8 (by decide) (List.mem_of_getElem? (i := 2) rfl) rfl (v := .ref (gw_ad w 97)) rfl dX7_holds_218 ?_
                  refine g_iload (pc := 221) hX 2 rfl dX7_holds_221 ?_
                  refine g_iconst (pc := 223) hX dX7_holds_223 ?_
                  refine g_iadd (pc := 224) hX dX7_holds_224 ?_
                  refine g_iald (pc := 225) hX 97 (by omega) (up_ne (by decide) m97) (by omega) (by omega) (by decide) dX7_holds_225 ?_
                  refine g_i2l (pc := 226) hX (by first | assumption | exact inI_mk (by omega) (by omega)) dX7_holds_226 ?_
                  refine g_lcmp_ne (pc := 227) (tgt := 235) hX (hfl _) (by first | assumption | exact inI_L (by assumption) | exact inL_mk (by omega) (by omega)) dX7_holds_227 dX7_holds_228 (by decide) (fun c_227 => ?_) (fun c_227 => ?_)
                  · skip
                    refine g_iconst (pc := 235) hX dX7_holds_235 ?_
                    refine g_goto (pc := 236) (tgt := 260) hX dX7_holds_236 (by decide) ?_
                    refine g_at rfl rfl (st2 := [vI (bz (false)), vI (szA MK k (c : Int).toNat), .ref (gw_ad w 104)]) rfl rfl ?_
                    refine g_zast (pc := 260) hX 104 (by omega) (up_eq _ _ _) (by omega) (by omega) (by decide) dX7_holds_260 ?_
                    refine g_at rfl rfl rfl (S2 := (va_up (va_up S 104 (AZ w 64 (Pi))) 104 (AZ w 64 (updZ (Pi) (szA MK k (c : Int).toNat) (bz (false)))))) rfl ?_
                    refine g_iinc (pc := 261) hX (lv2 := [(2, vI (szA MK k (c : Int).toNat + 1)), (6, vL (FL (MK (((200 * k) + (3 * c)) + 1)))), (5, vI (MK ((200 * k) + (3 * c)))), (4, vI ((200 * k) + (3 * c))), (3, vI (c)), (0, .ref (gw_ad w 92)), (1, vI (k))]) 6 rfl (by decide) rfl dX7_holds_261 ?_
                    refine g_iinc (pc := 264) hX (lv2 := [(3, vI (c + 1)), (2, vI (szA MK k (c : Int).toNat + 1)), (6, vL (FL (MK (((200 * k) + (3 * c)) + 1)))), (5, vI (MK ((200 * k) + (3 * c)))), (4, vI ((200 * k) + (3 * c))), (0, .ref (gw_ad w 92)), (1, vI (k))]) 4 rfl (by decide) rfl dX7_holds_264 ?_
                    refine g_goto (pc := 267) (tgt := 4) hX dX7_holds_267 (by decide) ?_
                    refine g_sub (lv2 := [(3, vI (c + 1)), (0, .ref (gw_ad w 92)), (1, vI (k)), (2, vI (szA MK k (c : Int).toNat + 1))]) [0, 5, 6, 1] rfl ?_
                    refine g_at rfl (lv2 := [(3, vI (c + 1)), (0, .ref (gw_ad w 92)), (1, vI (k)), (2, vI (szA MK k (c + 1 : Int).toNat))]) (by rw [show szA MK k (c + 1 : Int).toNat = szA MK k (c : Int).toNat + 1 from by rw [szA_s MK k h1c]; unfold szM; rw [if_neg c_38, if_neg (by omega)]]) rfl (S2 := (va_up S 104 (AZ w 64 (updZ (Pi) (szA MK k (c : Int).toNat) (bz (false)))))) (by rw [up_up]) ?_
                    exact ihloop (c + 1) (updZ (Pi) (szA MK k (c : Int).toNat) (bz (false))) (by omega) (by omega) (by omega) (pi_up hpi (by decide)) (by rw [szA_s MK k h1c, evA_s _ MK k h1c, evM_cmp c_38 (by omega) hcm.1 hcm.2.1.1 hcm.2.2.1, if_neg c_181, if_pos c_212, show szM (MK (200 * k + 3 * c)) (szA MK k (c : Int).toNat) = (szA MK k (c : Int).toNat) + 1 from by unfold szM; rw [if_neg c_38, if_neg (by omega)], df (by omega)]; exact pl_push (by omega) hpl)
                  · skip
                    refine g_iconst (pc := 231) hX dX7_holds_231 ?_
                    refine g_goto (pc := 232) (tgt := 260) hX dX7_holds_232 (by decide) ?_
                    refine g_at rfl rfl (st2 := [vI (bz (true)), vI (szA MK k (c : Int).toNat), .ref (gw_ad w 104)]) rfl rfl ?_
                    refine g_zast (pc := 260) hX 104 (by omega) (up_eq _ _ _) (by omega) (by omega) (by decide) dX7_holds_260 ?_
                    refine g_at rfl rfl rfl (S2 := (va_up (va_up S 104 (AZ w 64 (Pi))) 104 (AZ w 64 (updZ (Pi) (szA MK k (c : Int).toNat) (bz (true)))))) rfl ?_
                    refine g_iinc (pc := 261) hX (lv2 := [(2, vI (szA MK k (c : Int).toNat + 1)), (6, vL (FL (MK (((200 * k) + (3 * c)) + 1)))), (5, vI (MK ((200 * k) + (3 * c)))), (4, vI ((200 * k) + (3 * c))), (3, vI (c)), (0, .ref (gw_ad w 92)), (1, vI (k))]) 6 rfl (by decide) rfl dX7_holds_261 ?_
                    refine g_iinc (pc := 264) hX (lv2 := [(3, vI (c + 1)), (2, vI (szA MK k (c : Int).toNat + 1)), (6, vL (FL (MK (((200 * k) + (3 * c)) + 1)))), (5, vI (MK ((200 * k) + (3 * c)))), (4, vI ((200 * k) + (3 * c))), (0, .ref (gw_ad w 92)), (1, vI (k))]) 4 rfl (by decide) rfl dX7_holds_264 ?_
                    refine g_goto (pc := 267) (tgt := 4) hX dX7_holds_267 (by decide) ?_
                    refine g_sub (lv2 := [(3, vI (c + 1)), (0, .ref (gw_ad w 92)), (1, vI (k)), (2, vI (szA MK k (c : Int).toNat + 1))]) [0, 5, 6, 1] rfl ?_
                    refine g_at rfl (lv2 := [(3, vI (c + 1)), (0, .ref (gw_ad w 92)), (1, vI (k)), (2, vI (szA MK k (c + 1 : Int).toNat))]) (by rw [show szA MK k (c + 1 : Int).toNat = szA MK k (c : Int).toNat + 1 from by rw [szA_s MK k h1c]; unfold szM; rw [if_neg c_38, if_neg (by omega)]]) rfl (S2 := (va_up S 104 (AZ w 64 (updZ (Pi) (szA MK k (c : Int).toNat) (bz (true)))))) (by rw [up_up]) ?_
                    exact ihloop (c + 1) (updZ (Pi) (szA MK k (c : Int).toNat) (bz (true))) (by omega) (by omega) (by omega) (pi_up hpi (by decide)) (by rw [szA_s MK k h1c, evA_s _ MK k h1c, evM_cmp c_38 (by omega) hcm.1 hcm.2.1.1 hcm.2.2.1, if_neg c_181, if_pos c_212, show szM (MK (200 * k + 3 * c)) (szA MK k (c : Int).toNat) = (szA MK k (c : Int).toNat) + 1 from by unfold szM; rw [if_neg c_38, if_neg (by omega)], dt (by omega)]; exact pl_push (by omega) hpl)
              · skip
                refine g_lload (pc := 184) hX 0 rfl dX7_holds_184 ?_
                refine g_aload_n (pc := 186) hX 4 rfl dX7_holds_186 ?_
                refine g_get (pc := 187) hX (ci := 7) (fun _ h => List.mem_cons_of_mem _ (List.mem_append_right _ h)) rfl 92 (by omega) (up_ne (by decide) m92) 8 (by decide) (List.mem_of_getElem? (i := 2) rfl) rfl (v := .ref (gw_ad w 97)) rfl dX7_holds_187 ?_
                refine g_iload (pc := 190) hX 2 rfl dX7_holds_190 ?_
                refine g_iconst (pc := 192) hX dX7_holds_192 ?_
                refine g_iadd (pc := 193) hX dX7_holds_193 ?_
                refine g_iald (pc := 194) hX 97 (by omega) (up_ne (by decide) m97) (by omega) (by omega) (by decide) dX7_holds_194 ?_
                refine g_i2l (pc := 195) hX (by first | assumption | exact inI_mk (by omega) (by omega)) dX7_holds_195 ?_
                refine g_lcmp_ge (pc := 196) (tgt := 204) hX (hfl _) (by first | assumption | exact inI_L (by assumption) | exact inL_mk (by omega) (by omega)) dX7_holds_196 dX7_holds_197 (by decide) (fun c_196 => ?_) (fun c_196 => ?_)
                · skip
                  refine g_iconst (pc := 204) hX dX7_holds_204 ?_
                  refine g_goto (pc := 205) (tgt := 260) hX dX7_holds_205 (by decide) ?_
                  refine g_at rfl rfl (st2 := [vI (bz (false)), vI (szA MK k (c : Int).toNat), .ref (gw_ad w 104)]) rfl rfl ?_
                  refine g_zast (pc := 260) hX 104 (by omega) (up_eq _ _ _) (by omega) (by omega) (by decide) dX7_holds_260 ?_
                  refine g_at rfl rfl rfl (S2 := (va_up (va_up S 104 (AZ w 64 (Pi))) 104 (AZ w 64 (updZ (Pi) (szA MK k (c : Int).toNat) (bz (false)))))) rfl ?_
                  refine g_iinc (pc := 261) hX (lv2 := [(2, vI (szA MK k (c : Int).toNat + 1)), (6, vL (FL (MK (((200 * k) + (3 * c)) + 1)))), (5, vI (MK ((200 * k) + (3 * c)))), (4, vI ((200 * k) + (3 * c))), (3, vI (c)), (0, .ref (gw_ad w 92)), (1, vI (k))]) 6 rfl (by decide) rfl dX7_holds_261 ?_
                  refine g_iinc (pc := 264) hX (lv2 := [(3, vI (c + 1)), (2, vI (szA MK k (c : Int).toNat + 1)), (6, vL (FL (MK (((200 * k) + (3 * c)) + 1)))), (5, vI (MK ((200 * k) + (3 * c)))), (4, vI ((200 * k) + (3 * c))), (0, .ref (gw_ad w 92)), (1, vI (k))]) 4 rfl (by decide) rfl dX7_holds_264 ?_
                  refine g_goto (pc := 267) (tgt := 4) hX dX7_holds_267 (by decide) ?_
                  refine g_sub (lv2 := [(3, vI (c + 1)), (0, .ref (gw_ad w 92)), (1, vI (k)), (2, vI (szA MK k (c : Int).toNat + 1))]) [0, 5, 6, 1] rfl ?_
                  refine g_at rfl (lv2 := [(3, vI (c + 1)), (0, .ref (gw_ad w 92)), (1, vI (k)), (2, vI (szA MK k (c + 1 : Int).toNat))]) (by rw [show szA MK k (c + 1 : Int).toNat = szA MK k (c : Int).toNat + 1 from by rw [szA_s MK k h1c]; unfold szM; rw [if_neg c_38, if_neg (by omega)]]) rfl (S2 := (va_up S 104 (AZ w 64 (updZ (Pi) (szA MK k (c : Int).toNat) (bz (false)))))) (by rw [up_up]) ?_
                  exact ihloop (c + 1) (updZ (Pi) (szA MK k (c : Int).toNat) (bz (false))) (by omega) (by omega) (by omega) (pi_up hpi (by decide)) (by rw [szA_s MK k h1c, evA_s _ MK k h1c, evM_cmp c_38 (by omega) hcm.1 hcm.2.1.1 hcm.2.2.1, if_pos c_181, show szM (MK (200 * k + 3 * c)) (szA MK k (c : Int).toNat) = (szA MK k (c : Int).toNat) + 1 from by unfold szM; rw [if_neg c_38, if_neg (by omega)], df (by omega)]; exact pl_push (by omega) hpl)
                · skip
                  refine g_iconst (pc := 200) hX dX7_holds_200 ?_
                  refine g_goto (pc := 201) (tgt := 260) hX dX7_holds_201 (by decide) ?_
                  refine g_at rfl rfl (st2 := [vI (bz (true)), vI (szA MK k (c : Int).toNat), .ref (gw_ad w 104)]) rfl rfl ?_
                  refine g_zast (pc := 260) hX 104 (by omega) (up_eq _ _ _) (by omega) (by omega) (by decide) dX7_holds_260 ?_
                  refine g_at rfl rfl rfl (S2 := (va_up (va_up S 104 (AZ w 64 (Pi))) 104 (AZ w 64 (updZ (Pi) (szA MK k (c : Int).toNat) (bz (true)))))) rfl ?_
                  refine g_iinc (pc := 261) hX (lv2 := [(2, vI (szA MK k (c : Int).toNat + 1)), (6, vL (FL (MK (((200 * k) + (3 * c)) + 1)))), (5, vI (MK ((200 * k) + (3 * c)))), (4, vI ((200 * k) + (3 * c))), (3, vI (c)), (0, .ref (gw_ad w 92)), (1, vI (k))]) 6 rfl (by decide) rfl dX7_holds_261 ?_
                  refine g_iinc (pc := 264) hX (lv2 := [(3, vI (c + 1)), (2, vI (szA MK k (c : Int).toNat + 1)), (6, vL (FL (MK (((200 * k) + (3 * c)) + 1)))), (5, vI (MK ((200 * k) + (3 * c)))), (4, vI ((200 * k) + (3 * c))), (0, .ref (gw_ad w 92)), (1, vI (k))]) 4 rfl (by decide) rfl dX7_holds_264 ?_
                  refine g_goto (pc := 267) (tgt := 4) hX dX7_holds_267 (by decide) ?_
                  refine g_sub (lv2 := [(3, vI (c + 1)), (0, .ref (gw_ad w 92)), (1, vI (k)), (2, vI (szA MK k (c : Int).toNat + 1))]) [0, 5, 6, 1] rfl ?_
                  refine g_at rfl (lv2 := [(3, vI (c + 1)), (0, .ref (gw_ad w 92)), (1, vI (k)), (2, vI (szA MK k (c + 1 : Int).toNat))]) (by rw [show szA MK k (c + 1 : Int).toNat = szA MK k (c : Int).toNat + 1 from by rw [szA_s MK k h1c]; unfold szM; rw [if_neg c_38, if_neg (by omega)]]) rfl (S2 := (va_up S 104 (AZ w 64 (updZ (Pi) (szA MK k (c : Int).toNat) (bz (true)))))) (by rw [up_up]) ?_
                  exact ihloop (c + 1) (updZ (Pi) (szA MK k (c : Int).toNat) (bz (true))) (by omega) (by omega) (by omega) (pi_up hpi (by decide)) (by rw [szA_s MK k h1c, evA_s _ MK k h1c, evM_cmp c_38 (by omega) hcm.1 hcm.2.1.1 hcm.2.2.1, if_pos c_181, show szM (MK (200 * k + 3 * c)) (szA MK k (c : Int).toNat) = (szA MK k (c : Int).toNat) + 1 from by unfold szM; rw [if_neg c_38, if_neg (by omega)], dt (by omega)]; exact pl_push (by omega) hpl)
            · skip
              have hn2 := okM_bin hoc (by omega)
              refine g_iinc (pc := 82) hX (lv2 := [(2, vI (szA MK k (c : Int).toNat + (-1))), (5, vI (MK ((200 * k) + (3 * c)))), (4, vI ((200 * k) + (3 * c))), (3, vI (c)), (0, .ref (gw_ad w 92)), (1, vI (k))]) 5 rfl (by decide) rfl dX7_holds_82 ?_
              refine g_aload_n (pc := 85) hX 4 rfl dX7_holds_85 ?_
              refine g_get (pc := 86) hX (ci := 7) (fun _ h => List.mem_cons_of_mem _ (List.mem_append_right _ h)) rfl 92 (by omega) (up_ne (by decide) m92) 18 (by decide) (List.mem_of_getElem? (i := 3) rfl) rfl (v := .ref (gw_ad w 104)) rfl dX7_holds_86 ?_
              refine g_iload_n (pc := 89) hX 0 rfl dX7_holds_89 ?_
              refine g_iconst (pc := 90) hX dX7_holds_90 ?_
              refine g_isub (pc := 91) hX dX7_holds_91 ?_
              refine g_iload (pc := 92) hX 1 rfl dX7_holds_92 ?_
              refine g_bipush (pc := 94) hX (by decide) dX7_holds_94 ?_
              refine g_icmp_ne (pc := 96) (tgt := 127) hX hmk0 (by first | assumption | exact inI_mk (by omega) (by omega)) dX7_holds_96 (by decide) (fun c_96 => ?_) (fun c_96 => ?_)
              · skip
                refine g_aload_n (pc := 127) hX 4 rfl dX7_holds_127 ?_
                refine g_get (pc := 128) hX (ci := 7) (fun _ h => List.mem_cons_of_mem _ (List.mem_append_right _ h)) rfl 92 (by omega) (up_ne (by decide) m92) 18 (by decide) (List.mem_of_getElem? (i := 3) rfl) rfl (v := .ref (gw_ad w 104)) rfl dX7_holds_128 ?_
                refine g_iload_n (pc := 131) hX 0 rfl dX7_holds_131 ?_
                refine g_iconst (pc := 132) hX dX7_holds_132 ?_
                refine g_isub (pc := 133) hX dX7_holds_133 ?_
                refine g_zald (pc := 134) hX 104 (by omega) (up_eq _ _ _) (by omega) (by omega) (by decide) dX7_holds_134 ?_
                refine g_if_ne (pc := 135) (tgt := 147) hX (hpr _) dX7_holds_135 (by decide) (fun c_135 => ?_) (fun c_135 => ?_)
                · skip
                  refine g_iconst (pc := 147) hX dX7_holds_147 ?_
                  refine g_goto (pc := 148) (tgt := 152) hX dX7_holds_148 (by decide) ?_
                  refine g_at rfl rfl (st2 := [vI (bz (true)), vI ((szA MK k (c : Int).toNat + (-1)) - 1), .ref (gw_ad w 104)]) rfl rfl ?_
                  refine g_zast (pc := 152) hX 104 (by omega) (up_eq _ _ _) (by omega) (by omega) (by decide) dX7_holds_152 ?_
                  refine g_at rfl rfl rfl (S2 := (va_up (va_up S 104 (AZ w 64 (Pi))) 104 (AZ w 64 (updZ (Pi) ((szA MK k (c : Int).toNat + (-1)) - 1) (bz (true)))))) rfl ?_
                  refine g_goto (pc := 153) (tgt := 264) hX dX7_holds_153 (by decide) ?_
                  refine g_iinc (pc := 264) hX (lv2 := [(3, vI (c + 1)), (2, vI (szA MK k (c : Int).toNat + (-1))), (5, vI (MK ((200 * k) + (3 * c)))), (4, vI ((200 * k) + (3 * c))), (0, .ref (gw_ad w 92)), (1, vI (k))]) 3 rfl (by decide) rfl dX7_holds_264 ?_
                  refine g_goto (pc := 267) (tgt := 4) hX dX7_holds_267 (by decide) ?_
                  refine g_sub (lv2 := [(3, vI (c + 1)), (0, .ref (gw_ad w 92)), (1, vI (k)), (2, vI (szA MK k (c : Int).toNat + (-1)))]) [0, 4, 5, 1] rfl ?_
                  refine g_at rfl (lv2 := [(3, vI (c + 1)), (0, .ref (gw_ad w 92)), (1, vI (k)), (2, vI (szA MK k (c + 1 : Int).toNat))]) (by rw [show szA MK k (c + 1 : Int).toNat = szA MK k (c : Int).toNat + (-1) from by rw [szA_s MK k h1c]; unfold szM; rw [if_neg c_38, if_pos (by omega)]; omega]) rfl (S2 := (va_up S 104 (AZ w 64 (updZ (Pi) ((szA MK k (c : Int).toNat + (-1)) - 1) (bz (true)))))) (by rw [up_up]) ?_
                  exact ihloop (c + 1) (updZ (Pi) ((szA MK k (c : Int).toNat + (-1)) - 1) (bz (true))) (by omega) (by omega) (by omega) (pi_up hpi (by decide)) (by rw [szA_s MK k h1c, evA_s _ MK k h1c, evM_or (by omega), show szM (MK (200 * k + 3 * c)) (szA MK k (c : Int).toNat) = (szA MK k (c : Int).toNat) - 1 from by unfold szM; rw [if_neg c_38, if_pos (by omega)]]; have hb := pl_bin (y := bz true) hn2 hpl; have q1 := hpi ((szA MK k (c : Int).toNat) + -1); have q2 := hpi ((szA MK k (c : Int).toNat) + -1 - 1); rw [hb.1, hb.2.1, hb.2.2, show Pi ((szA MK k (c : Int).toNat) + -1 - 1) = 1 by omega]; simp [bz])
                · skip
                  refine g_aload_n (pc := 138) hX 4 rfl dX7_holds_138 ?_
                  refine g_get (pc := 139) hX (ci := 7) (fun _ h => List.mem_cons_of_mem _ (List.mem_append_right _ h)) rfl 92 (by omega) (up_ne (by decide) m92) 18 (by decide) (List.mem_of_getElem? (i := 3) rfl) rfl (v := .ref (gw_ad w 104)) rfl dX7_holds_139 ?_
                  refine g_iload_n (pc := 142) hX 0 rfl dX7_holds_142 ?_
                  refine g_zald (pc := 143) hX 104 (by omega) (up_eq _ _ _) (by omega) (by omega) (by decide) dX7_holds_143 ?_
                  refine g_if_eq (pc := 144) (tgt := 151) hX (hpr _) dX7_holds_144 (by decide) (fun c_144 => ?_) (fun c_144 => ?_)
                  · skip
                    refine g_iconst (pc := 151) hX dX7_holds_151 ?_
                    refine g_at rfl rfl (st2 := [vI (bz (false)), vI ((szA MK k (c : Int).toNat + (-1)) - 1), .ref (gw_ad w 104)]) rfl rfl ?_
                    refine g_zast (pc := 152) hX 104 (by omega) (up_eq _ _ _) (by omega) (by omega) (by decide) dX7_holds_152 ?_
                    refine g_at rfl rfl rfl (S2 := (va_up (va_up S 104 (AZ w 64 (Pi))) 104 (AZ w 64 (updZ (Pi) ((szA MK k (c : Int).toNat + (-1)) - 1) (bz (false)))))) rfl ?_
                    refine g_goto (pc := 153) (tgt := 264) hX dX7_holds_153 (by decide) ?_
                    refine g_iinc (pc := 264) hX (lv2 := [(3, vI (c + 1)), (2, vI (szA MK k (c : Int).toNat + (-1))), (5, vI (MK ((200 * k) + (3 * c)))), (4, vI ((200 * k) + (3 * c))), (0, .ref (gw_ad w 92)), (1, vI (k))]) 3 rfl (by decide) rfl dX7_holds_264 ?_
                    refine g_goto (pc := 267) (tgt := 4) hX dX7_holds_267 (by decide) ?_
                    refine g_sub (lv2 := [(3, vI (c + 1)), (0, .ref (gw_ad w 92)), (1, vI (k)), (2, vI (szA MK k (c : Int).toNat + (-1)))]) [0, 4, 5, 1] rfl ?_
                    refine g_at rfl (lv2 := [(3, vI (c + 1)), (0, .ref (gw_ad w 92)), (1, vI (k)), (2, vI (szA MK k (c + 1 : Int).toNat))]) (by rw [show szA MK k (c + 1 : Int).toNat = szA MK k (c : Int).toNat + (-1) from by rw [szA_s MK k h1c]; unfold szM; rw [if_neg c_38, if_pos (by omega)]; omega]) rfl (S2 := (va_up S 104 (AZ w 64 (updZ (Pi) ((szA MK k (c : Int).toNat + (-1)) - 1) (bz (false)))))) (by rw [up_up]) ?_
                    exact ihloop (c + 1) (updZ (Pi) ((szA MK k (c : Int).toNat + (-1)) - 1) (bz (false))) (by omega) (by omega) (by omega) (pi_up hpi (by decide)) (by rw [szA_s MK k h1c, evA_s _ MK k h1c, evM_or (by omega), show szM (MK (200 * k + 3 * c)) (szA MK k (c : Int).toNat) = (szA MK k (c : Int).toNat) - 1 from by unfold szM; rw [if_neg c_38, if_pos (by omega)]]; have hb := pl_bin (y := bz false) hn2 hpl; have q1 := hpi ((szA MK k (c : Int).toNat) + -1); have q2 := hpi ((szA MK k (c : Int).toNat) + -1 - 1); rw [hb.1, hb.2.1, hb.2.2, show Pi ((szA MK k (c : Int).toNat) + -1 - 1) = 0 by omega, show Pi ((szA MK k (c : Int).toNat) + -1) = 0 by omega]; simp [bz])
                  · skip
                    refine g_iconst (pc := 147) hX dX7_holds_147 ?_
                    refine g_goto (pc := 148) (tgt := 152) hX dX7_holds_148 (by decide) ?_
                    refine g_at rfl rfl (st2 := [vI (bz (true)), vI ((szA MK k (c : Int).toNat + (-1)) - 1), .ref (gw_ad w 104)]) rfl rfl ?_
                    refine g_zast (pc := 152) hX 104 (by omega) (up_eq _ _ _) (by omega) (by omega) (by decide) dX7_holds_152 ?_
                    refine g_at rfl rfl rfl (S2 := (va_up (va_up S 104 (AZ w 64 (Pi))) 104 (AZ w 64 (updZ (Pi) ((szA MK k (c : Int).toNat + (-1)) - 1) (bz (true)))))) rfl ?_
                    refine g_goto (pc := 153) (tgt := 264) hX dX7_holds_153 (by decide) ?_
                    refine g_iinc (pc := 264) hX (lv2 := [(3, vI (c + 1)), (2, vI (szA MK k (c : Int).toNat + (-1))), (5, vI (MK ((200 * k) + (3 * c)))), (4, vI ((200 * k) + (3 * c))), (0, .ref (gw_ad w 92)), (1, vI (k))]) 3 rfl (by decide) rfl dX7_holds_264 ?_
                    refine g_goto (pc := 267) (tgt := 4) hX dX7_holds_267 (by decide) ?_
                    refine g_sub (lv2 := [(3, vI (c + 1)), (0, .ref (gw_ad w 92)), (1, vI (k)), (2, vI (szA MK k (c : Int).toNat + (-1)))]) [0, 4, 5, 1] rfl ?_
                    refine g_at rfl (lv2 := [(3, vI (c + 1)), (0, .ref (gw_ad w 92)), (1, vI (k)), (2, vI (szA MK k (c + 1 : Int).toNat))]) (by rw [show szA MK k (c + 1 : Int).toNat = szA MK k (c : Int).toNat + (-1) from by rw [szA_s MK k h1c]; unfold szM; rw [if_neg c_38, if_pos (by omega)]; omega]) rfl (S2 := (va_up S 104 (AZ w 64 (updZ (Pi) ((szA MK k (c : Int).toNat + (-1)) - 1) (bz (true)))))) (by rw [up_up]) ?_
                    exact ihloop (c + 1) (updZ (Pi) ((szA MK k (c : Int).toNat + (-1)) - 1) (bz (true))) (by omega) (by omega) (by omega) (pi_up hpi (by decide)) (by rw [szA_s MK k h1c, evA_s _ MK k h1c, evM_or (by omega), show szM (MK (200 * k + 3 * c)) (szA MK k (c : Int).toNat) = (szA MK k (c : Int).toNat) - 1 from by unfold szM; rw [if_neg c_38, if_pos (by omega)]]; have hb := pl_bin (y := bz true) hn2 hpl; have q1 := hpi ((szA MK k (c : Int).toNat) + -1); have q2 := hpi ((szA MK k (c : Int).toNat) + -1 - 1); rw [hb.1, hb.2.1, hb.2.2, show Pi ((szA MK k (c : Int).toNat) + -1 - 1) = 0 by omega, show Pi ((szA MK k (c : Int).toNat) + -1) = 1 by omega]; simp [bz])
              · skip
                refine g_aload_n (pc := 99) hX 4 rfl dX7_holds_99 ?_
                refine g_get (pc := 100) hX (ci := 7) (fun _ h => List.mem_cons_of_mem _ (List.mem_append_right _ h)) rfl 92 (by omega) (up_ne (by decide) m92) 18 (by decide) (List.mem_of_getElem? (i := 3) rfl) rfl (v := .ref (gw_ad w 104)) rfl dX7_holds_100 ?_
                refine g_iload_n (pc := 103) hX 0 rfl dX7_holds_103 ?_
                refine g_iconst (pc := 104) hX dX7_holds_104 ?_
                refine g_isub (pc := 105) hX dX7_holds_105 ?_
                refine g_zald (pc := 106) hX 104 (by omega) (up_eq _ _ _) (by omega) (by omega) (by decide) dX7_holds_106 ?_
                refine g_if_eq (pc := 107) (tgt := 123) hX (hpr _) dX7_holds_107 (by decide) (fun c_107 => ?_) (fun c_107 => ?_)
                · skip
                  refine g_iconst (pc := 123) hX dX7_holds_123 ?_
                  refine g_goto (pc := 124) (tgt := 152) hX dX7_holds_124 (by decide) ?_
                  refine g_at rfl rfl (st2 := [vI (bz (false)), vI ((szA MK k (c : Int).toNat + (-1)) - 1), .ref (gw_ad w 104)]) rfl rfl ?_
                  refine g_zast (pc := 152) hX 104 (by omega) (up_eq _ _ _) (by omega) (by omega) (by decide) dX7_holds_152 ?_
                  refine g_at rfl rfl rfl (S2 := (va_up (va_up S 104 (AZ w 64 (Pi))) 104 (AZ w 64 (updZ (Pi) ((szA MK k (c : Int).toNat + (-1)) - 1) (bz (false)))))) rfl ?_
                  refine g_goto (pc := 153) (tgt := 264) hX dX7_holds_153 (by decide) ?_
                  refine g_iinc (pc := 264) hX (lv2 := [(3, vI (c + 1)), (2, vI (szA MK k (c : Int).toNat + (-1))), (5, vI (MK ((200 * k) + (3 * c)))), (4, vI ((200 * k) + (3 * c))), (0, .ref (gw_ad w 92)), (1, vI (k))]) 3 rfl (by decide) rfl dX7_holds_264 ?_
                  refine g_goto (pc := 267) (tgt := 4) hX dX7_holds_267 (by decide) ?_
                  refine g_sub (lv2 := [(3, vI (c + 1)), (0, .ref (gw_ad w 92)), (1, vI (k)), (2, vI (szA MK k (c : Int).toNat + (-1)))]) [0, 4, 5, 1] rfl ?_
                  refine g_at rfl (lv2 := [(3, vI (c + 1)), (0, .ref (gw_ad w 92)), (1, vI (k)), (2, vI (szA MK k (c + 1 : Int).toNat))]) (by rw [show szA MK k (c + 1 : Int).toNat = szA MK k (c : Int).toNat + (-1) from by rw [szA_s MK k h1c]; unfold szM; rw [if_neg c_38, if_pos (by omega)]; omega]) rfl (S2 := (va_up S 104 (AZ w 64 (updZ (Pi) ((szA MK k (c : Int).toNat + (-1)) - 1) (bz (false)))))) (by rw [up_up]) ?_
                  exact ihloop (c + 1) (updZ (Pi) ((szA MK k (c : Int).toNat + (-1)) - 1) (bz (false))) (by omega) (by omega) (by omega) (pi_up hpi (by decide)) (by rw [szA_s MK k h1c, evA_s _ MK k h1c, evM_and c_96, show szM (MK (200 * k + 3 * c)) (szA MK k (c : Int).toNat) = (szA MK k (c : Int).toNat) - 1 from by unfold szM; rw [if_neg c_38, if_pos (by omega)]]; have hb := pl_bin (y := bz false) hn2 hpl; have q1 := hpi ((szA MK k (c : Int).toNat) + -1); have q2 := hpi ((szA MK k (c : Int).toNat) + -1 - 1); rw [hb.1, hb.2.1, hb.2.2, show Pi ((szA MK k (c : Int).toNat) + -1 - 1) = 0 by omega]; simp [bz])
                · skip
                  refine g_aload_n (pc := 110) hX 4 rfl dX7_holds_110 ?_
                  refine g_get (pc := 111) hX (ci := 7) (fun _ h => List.mem_cons_of_mem _ (List.mem_append_right _ h)) rfl 92 (by omega) (up_ne (by decide) m92) 18 (by decide) (List.mem_of_getElem? (i := 3) rfl) rfl (v := .ref (gw_ad w 104)) rfl dX7_holds_111 ?_
                  refine g_iload_n (pc := 114) hX 0 rfl dX7_holds_114 ?_
                  refine g_zald (pc := 115) hX 104 (by omega) (up_eq _ _ _) (by omega) (by omega) (by decide) dX7_holds_115 ?_
                  refine g_if_eq (pc := 116) (tgt := 123) hX (hpr _) dX7_holds_116 (by decide) (fun c_116 => ?_) (fun c_116 => ?_)
                  · skip
                    refine g_iconst (pc := 123) hX dX7_holds_123 ?_
                    refine g_goto (pc := 124) (tgt := 152) hX dX7_holds_124 (by decide) ?_
                    refine g_at rfl rfl (st2 := [vI (bz (false)), vI ((szA MK k (c : Int).toNat + (-1)) - 1), .ref (gw_ad w 104)]) rfl rfl ?_
                    refine g_zast (pc := 152) hX 104 (by omega) (up_eq _ _ _) (by omega) (by omega) (by decide) dX7_holds_152 ?_
                    refine g_at rfl rfl rfl (S2 := (va_up (va_up S 104 (AZ w 64 (Pi))) 104 (AZ w 64 (updZ (Pi) ((szA MK k (c : Int).toNat + (-1)) - 1) (bz (false)))))) rfl ?_
                    refine g_goto (pc := 153) (tgt := 264) hX dX7_holds_153 (by decide) ?_
                    refine g_iinc (pc := 264) hX (lv2 := [(3, vI (c + 1)), (2, vI (szA MK k (c : Int).toNat + (-1))), (5, vI (MK ((200 * k) + (3 * c)))), (4, vI ((200 * k) + (3 * c))), (0, .ref (gw_ad w 92)), (1, vI (k))]) 3 rfl (by decide) rfl dX7_holds_264 ?_
                    refine g_goto (pc := 267) (tgt := 4) hX dX7_holds_267 (by decide) ?_
                    refine g_sub (lv2 := [(3, vI (c + 1)), (0, .ref (gw_ad w 92)), (1, vI (k)), (2, vI (szA MK k (c : Int).toNat + (-1)))]) [0, 4, 5, 1] rfl ?_
                    refine g_at rfl (lv2 := [(3, vI (c + 1)), (0, .ref (gw_ad w 92)), (1, vI (k)), (2, vI (szA MK k (c + 1 : Int).toNat))]) (by rw [show szA MK k (c + 1 : Int).toNat = szA MK k (c : Int).toNat + (-1) from by rw [szA_s MK k h1c]; unfold szM; rw [if_neg c_38, if_pos (by omega)]; omega]) rfl (S2 := (va_up S 104 (AZ w 64 (updZ (Pi) ((szA MK k (c : Int).toNat + (-1)) - 1) (bz (false)))))) (by rw [up_up]) ?_
                    exact ihloop (c + 1) (updZ (Pi) ((szA MK k (c : Int).toNat + (-1)) - 1) (bz (false))) (by omega) (by omega) (by omega) (pi_up hpi (by decide)) (by rw [szA_s MK k h1c, evA_s _ MK k h1c, evM_and c_96, show szM (MK (200 * k + 3 * c)) (szA MK k (c : Int).toNat) = (szA MK k (c : Int).toNat) - 1 from by unfold szM; rw [if_neg c_38, if_pos (by omega)]]; have hb := pl_bin (y := bz false) hn2 hpl; have q1 := hpi ((szA MK k (c : Int).toNat) + -1); have q2 := hpi ((szA MK k (c : Int).toNat) + -1 - 1); rw [hb.1, hb.2.1, hb.2.2, show Pi ((szA MK k (c : Int).toNat) + -1 - 1) = 1 by omega, show Pi ((szA MK k (c : Int).toNat) + -1) = 0 by omega]; simp [bz])
                  · skip
                    refine g_iconst (pc := 119) hX dX7_holds_119 ?_
                    refine g_goto (pc := 120) (tgt := 152) hX dX7_holds_120 (by decide) ?_
                    refine g_at rfl rfl (st2 := [vI (bz (true)), vI ((szA MK k (c : Int).toNat + (-1)) - 1), .ref (gw_ad w 104)]) rfl rfl ?_
                    refine g_zast (pc := 152) hX 104 (by omega) (up_eq _ _ _) (by omega) (by omega) (by decide) dX7_holds_152 ?_
                    refine g_at rfl rfl rfl (S2 := (va_up (va_up S 104 (AZ w 64 (Pi))) 104 (AZ w 64 (updZ (Pi) ((szA MK k (c : Int).toNat + (-1)) - 1) (bz (true)))))) rfl ?_
                    refine g_goto (pc := 153) (tgt := 264) hX dX7_holds_153 (by decide) ?_
                    refine g_iinc (pc := 264) hX (lv2 := [(3, vI (c + 1)), (2, vI (szA MK k (c : Int).toNat + (-1))), (5, vI (MK ((200 * k) + (3 * c)))), (4, vI ((200 * k) + (3 * c))), (0, .ref (gw_ad w 92)), (1, vI (k))]) 3 rfl (by decide) rfl dX7_holds_264 ?_
                    refine g_goto (pc := 267) (tgt := 4) hX dX7_holds_267 (by decide) ?_
                    refine g_sub (lv2 := [(3, vI (c + 1)), (0, .ref (gw_ad w 92)), (1, vI (k)), (2, vI (szA MK k (c : Int).toNat + (-1)))]) [0, 4, 5, 1] rfl ?_
                    refine g_at rfl (lv2 := [(3, vI (c + 1)), (0, .ref (gw_ad w 92)), (1, vI (k)), (2, vI (szA MK k (c + 1 : Int).toNat))]) (by rw [show szA MK k (c + 1 : Int).toNat = szA MK k (c : Int).toNat + (-1) from by rw [szA_s MK k h1c]; unfold szM; rw [if_neg c_38, if_pos (by omega)]; omega]) rfl (S2 := (va_up S 104 (AZ w 64 (updZ (Pi) ((szA MK k (c : Int).toNat + (-1)) - 1) (bz (true)))))) (by rw [up_up]) ?_
                    exact ihloop (c + 1) (updZ (Pi) ((szA MK k (c : Int).toNat + (-1)) - 1) (bz (true))) (by omega) (by omega) (by omega) (pi_up hpi (by decide)) (by rw [szA_s MK k h1c, evA_s _ MK k h1c, evM_and c_96, show szM (MK (200 * k + 3 * c)) (szA MK k (c : Int).toNat) = (szA MK k (c : Int).toNat) - 1 from by unfold szM; rw [if_neg c_38, if_pos (by omega)]]; have hb := pl_bin (y := bz true) hn2 hpl; have q1 := hpi ((szA MK k (c : Int).toNat) + -1); have q2 := hpi ((szA MK k (c : Int).toNat) + -1 - 1); rw [hb.1, hb.2.1, hb.2.2, show Pi ((szA MK k (c : Int).toNat) + -1 - 1) = 1 by omega, show Pi ((szA MK k (c : Int).toNat) + -1) = 1 by omega]; simp [bz])
        · skip
          have hn1 := okM_not hoc c_38
          refine g_aload_n (pc := 41) hX 3 rfl dX7_holds_41 ?_
          refine g_get (pc := 42) hX (ci := 7) (fun _ h => List.mem_cons_of_mem _ (List.mem_append_right _ h)) rfl 92 (by omega) (up_ne (by decide) m92) 18 (by decide) (List.mem_of_getElem? (i := 3) rfl) rfl (v := .ref (gw_ad w 104)) rfl dX7_holds_42 ?_
          refine g_iload_n (pc := 45) hX 5 rfl dX7_holds_45 ?_
          refine g_iconst (pc := 46) hX dX7_holds_46 ?_
          refine g_isub (pc := 47) hX dX7_holds_47 ?_
          refine g_aload_n (pc := 48) hX 3 rfl dX7_holds_48 ?_
          refine g_get (pc := 49) hX (ci := 7) (fun _ h => List.mem_cons_of_mem _ (List.mem_append_right _ h)) rfl 92 (by omega) (up_ne (by decide) m92) 18 (by decide) (List.mem_of_getElem? (i := 3) rfl) rfl (v := .ref (gw_ad w 104)) rfl dX7_holds_49 ?_
          refine g_iload_n (pc := 52) hX 5 rfl dX7_holds_52 ?_
          refine g_iconst (pc := 53) hX dX7_holds_53 ?_
          refine g_isub (pc := 54) hX dX7_holds_54 ?_
          refine g_zald (pc := 55) hX 104 (by omega) (up_eq _ _ _) (by omega) (by omega) (by decide) dX7_holds_55 ?_
          refine g_if_ne (pc := 56) (tgt := 63) hX (hpr _) dX7_holds_56 (by decide) (fun c_56 => ?_) (fun c_56 => ?_)
          · skip
            refine g_iconst (pc := 63) hX dX7_holds_63 ?_
            refine g_at rfl rfl (st2 := [vI (bz (false)), vI ((szA MK k (c : Int).toNat) - 1), .ref (gw_ad w 104)]) rfl rfl ?_
            refine g_zast (pc := 64) hX 104 (by omega) (up_eq _ _ _) (by omega) (by omega) (by decide) dX7_holds_64 ?_
            refine g_at rfl rfl rfl (S2 := (va_up (va_up S 104 (AZ w 64 (Pi))) 104 (AZ w 64 (updZ (Pi) ((szA MK k (c : Int).toNat) - 1) (bz (false)))))) rfl ?_
            refine g_goto (pc := 65) (tgt := 264) hX dX7_holds_65 (by decide) ?_
            refine g_iinc (pc := 264) hX (lv2 := [(3, vI (c + 1)), (5, vI (MK ((200 * k) + (3 * c)))), (4, vI ((200 * k) + (3 * c))), (0, .ref (gw_ad w 92)), (1, vI (k)), (2, vI (szA MK k (c : Int).toNat))]) 2 rfl (by decide) rfl dX7_holds_264 ?_
            refine g_goto (pc := 267) (tgt := 4) hX dX7_holds_267 (by decide) ?_
            refine g_sub (lv2 := [(3, vI (c + 1)), (0, .ref (gw_ad w 92)), (1, vI (k)), (2, vI (szA MK k (c : Int).toNat))]) [0, 3, 4, 5] rfl ?_
            refine g_at rfl (lv2 := [(3, vI (c + 1)), (0, .ref (gw_ad w 92)), (1, vI (k)), (2, vI (szA MK k (c + 1 : Int).toNat))]) (by rw [show szA MK k (c + 1 : Int).toNat = szA MK k (c : Int).toNat from by rw [szA_s MK k h1c]; exact if_pos c_38]) rfl (S2 := (va_up S 104 (AZ w 64 (updZ (Pi) ((szA MK k (c : Int).toNat) - 1) (bz (false)))))) (by rw [up_up]) ?_
            exact ihloop (c + 1) (updZ (Pi) ((szA MK k (c : Int).toNat) - 1) (bz (false))) (by omega) (by omega) (by omega) (pi_up hpi (by decide)) (by rw [szA_s MK k h1c, evA_s _ MK k h1c, evM_not c_38, show szM (MK (200 * k + 3 * c)) (szA MK k (c : Int).toNat) = (szA MK k (c : Int).toNat) from if_pos c_38]; exact pl_not (by omega) hpl (by have := hpi ((szA MK k (c : Int).toNat) - 1); rw [show Pi ((szA MK k (c : Int).toNat) - 1) = 1 by omega]; rfl))
          · skip
            refine g_iconst (pc := 59) hX dX7_holds_59 ?_
            refine g_goto (pc := 60) (tgt := 64) hX dX7_holds_60 (by decide) ?_
            refine g_at rfl rfl (st2 := [vI (bz (true)), vI ((szA MK k (c : Int).toNat) - 1), .ref (gw_ad w 104)]) rfl rfl ?_
            refine g_zast (pc := 64) hX 104 (by omega) (up_eq _ _ _) (by omega) (by omega) (by decide) dX7_holds_64 ?_
            refine g_at rfl rfl rfl (S2 := (va_up (va_up S 104 (AZ w 64 (Pi))) 104 (AZ w 64 (updZ (Pi) ((szA MK k (c : Int).toNat) - 1) (bz (true)))))) rfl ?_
            refine g_goto (pc := 65) (tgt := 264) hX dX7_holds_65 (by decide) ?_
            refine g_iinc (pc := 264) hX (lv2 := [(3, vI (c + 1)), (5, vI (MK ((200 * k) + (3 * c)))), (4, vI ((200 * k) + (3 * c))), (0, .ref (gw_ad w 92)), (1, vI (k)), (2, vI (szA MK k (c : Int).toNat))]) 2 rfl (by decide) rfl dX7_holds_264 ?_
            refine g_goto (pc := 267) (tgt := 4) hX dX7_holds_267 (by decide) ?_
            refine g_sub (lv2 := [(3, vI (c + 1)), (0, .ref (gw_ad w 92)), (1, vI (k)), (2, vI (szA MK k (c : Int).toNat))]) [0, 3, 4, 5] rfl ?_
            refine g_at rfl (lv2 := [(3, vI (c + 1)), (0, .ref (gw_ad w 92)), (1, vI (k)), (2, vI (szA MK k (c + 1 : Int).toNat))]) (by rw [show szA MK k (c + 1 : Int).toNat = szA MK k (c : Int).toNat from by rw [szA_s MK k h1c]; exact if_pos c_38]) rfl (S2 := (va_up S 104 (AZ w 64 (updZ (Pi) ((szA MK k (c : Int).toNat) - 1) (bz (true)))))) (by rw [up_up]) ?_
            exact ihloop (c + 1) (updZ (Pi) ((szA MK k (c : Int).toNat) - 1) (bz (true))) (by omega) (by omega) (by omega) (pi_up hpi (by decide)) (by rw [szA_s MK k h1c, evA_s _ MK k h1c, evM_not c_38, show szM (MK (200 * k + 3 * c)) (szA MK k (c : Int).toNat) = (szA MK k (c : Int).toNat) from if_pos c_38]; exact pl_not (by omega) hpl (by have := hpi ((szA MK k (c : Int).toNat) - 1); rw [show Pi ((szA MK k (c : Int).toNat) - 1) = 0 by omega]; rfl))
  refine g_sub (lv2 := [(3, vI (0)), (0, .ref (gw_ad w 92)), (1, vI (k)), (2, vI (0))]) [0, 2, 3, 1] rfl ?_
  refine g_at rfl (lv2 := [(3, vI (0)), (0, .ref (gw_ad w 92)), (1, vI (k)), (2, vI (szA MK k (0 : Int).toNat))]) (rfl) rfl (S2 := (va_up S 104 (AZ w 64 (PI)))) ((up_self m104).symm) ?_
  exact loop ((MM k : Int) - 0 + 1).toNat 0 (PI) (by omega) (by omega) (by omega) (hpi0) (rfl)
