/-! ===== the reader of a rule's text: ρ its numbers (count, change, number, digits, place, depth, letter, relation), T its tokens ===== -/
abbrev OR_ (w : gW) (k1 : Nat) (ρ : Int → Int) : va_E := .inr (1, [.ref (gw_ad w k1), vI (ρ 0), vI (ρ 1), vI (ρ 2), vI (ρ 3), vI (ρ 4), vI (ρ 5), vI (ρ 6), vI (ρ 7)])
abbrev rdS : Type := (Int → Int) × (Int → Int)
def tokS (t : Int) (s : rdS) : rdS := if s.1 0 < 60 then (updZ s.1 0 (s.1 0 + 1), updZ s.2 (s.1 0) t) else s
def numR (ρ : Int → Int) (p : Int) : Int → Int := updZ (updZ (updZ ρ 4 p) 2 0) 3 0
def rdTerm (c : Int) (s : rdS) : Bool × rdS :=
  if c = 126 then (true, tokS (-c) (updZ s.1 5 (s.1 5 + 0), s.2))
  else if c = 40 then (true, tokS (-c) (updZ s.1 5 (s.1 5 + 1), s.2))
  else (decide (0 ≤ letZ c), (updZ (updZ s.1 6 (letZ c)) 4 1, s.2))
def rdRel (c : Int) (s : rdS) : Bool × rdS := (decide (0 ≤ relZ c), (numR (updZ s.1 7 (relZ c)) 2, s.2))
def rdDig (c : Int) (s : rdS) : Bool × rdS :=
  if 48 ≤ c ∧ c ≤ 57 ∧ s.1 3 < 5 then (true, (updZ (updZ s.1 2 (s.1 2 * 10 + c - 48)) 3 (s.1 3 + 1), s.2)) else (false, s)
def rdLink (c : Int) (s : rdS) : Bool × rdS :=
  if c = 63 ∧ s.1 5 = 0 then (true, (updZ s.1 4 4, s.2))
  else if c = 41 ∧ 0 < s.1 5 then (true, tokS (-c) (updZ (updZ s.1 5 (s.1 5 - 1)) 4 3, s.2))
  else if c = 38 ∨ c = 124 then (true, tokS (-c) (updZ s.1 4 0, s.2))
  else (false, s)
def rdLBN (c : Int) (s : rdS) : Bool × rdS := if s.1 3 = 0 then (false, s) else rdLink c (tokS ((s.1 6 * 3 + s.1 7) * 100000 + s.1 2) s)
def rdChg (c : Int) (s : rdS) : Bool × rdS := (decide (c = 43 ∨ c = 45 ∨ c = 42), (numR (updZ s.1 1 c) 5, s.2))
def rdAll (c : Int) (s : rdS) : Bool × rdS :=
  if s.1 4 = 0 then rdTerm c s else if s.1 4 = 1 then rdRel c s
  else if s.1 4 = 2 then (if (rdDig c s).1 = true then rdDig c s else rdLBN c s)
  else if s.1 4 = 3 then rdLink c s else if s.1 4 = 4 then rdChg c s else rdDig c s
def rdOK (n : Int) (ρ : Int → Int) : Prop := (0 ≤ ρ 0 ∧ ρ 0 ≤ 60) ∧ (0 ≤ ρ 3 ∧ ρ 3 ≤ 5) ∧ (0 ≤ ρ 4 ∧ ρ 4 ≤ 5) ∧ (0 ≤ ρ 5 ∧ ρ 5 ≤ n) ∧ (-1 ≤ ρ 6 ∧ ρ 6 ≤ 5) ∧ (-1 ≤ ρ 7 ∧ ρ 7 ≤ 2)
theorem rdOK_tok {n t : Int} {s : rdS} (h : rdOK n s.1) : rdOK n (tokS t s).1 := by
  unfold tokS
  split
  · obtain ⟨h0, h1⟩ := h
    exact ⟨⟨show 0 ≤ s.1 0 + 1 by omega, show s.1 0 + 1 ≤ 60 by omega⟩, h1⟩
  · exact h
theorem rdOK_link {n c : Int} {s : rdS} (h : rdOK n s.1) (hn : 0 ≤ n) : rdOK (n + 1) (rdLink c s).2.1 := by
  have hw : ∀ {ρ}, rdOK n ρ → rdOK (n + 1) ρ := fun ⟨a, b, c, d, e⟩ => ⟨a, b, c, ⟨d.1, by omega⟩, e⟩
  unfold rdLink
  split
  · obtain ⟨h0, h3, h4, h5⟩ := hw h
    exact ⟨h0, h3, ⟨show (0 : Int) ≤ 4 by decide, show (4 : Int) ≤ 5 by decide⟩, h5⟩
  · split
    · rename_i hc
      obtain ⟨h0, h3, h4, h5, h6⟩ := h
      exact rdOK_tok (s := (updZ (updZ s.1 5 (s.1 5 - 1)) 4 3, s.2)) ⟨h0, h3, ⟨show (0 : Int) ≤ 3 by decide, show (3 : Int) ≤ 5 by decide⟩, ⟨show 0 ≤ s.1 5 - 1 by omega, show s.1 5 - 1 ≤ n + 1 by omega⟩, h6⟩
    · split
      · obtain ⟨h0, h3, h4, h5⟩ := hw h
        exact rdOK_tok (s := (updZ s.1 4 0, s.2)) ⟨h0, h3, ⟨show (0 : Int) ≤ 0 by decide, show (0 : Int) ≤ 5 by decide⟩, h5⟩
      · exact hw h
theorem rdOK_dig {n c : Int} {s : rdS} (h : rdOK n s.1) : rdOK (n + 1) (rdDig c s).2.1 := by
  obtain ⟨h0, h3, h4, h5, h6⟩ := h
  unfold rdDig
  split
  · exact ⟨h0, ⟨show 0 ≤ s.1 3 + 1 by omega, show s.1 3 + 1 ≤ 5 by omega⟩, h4, ⟨h5.1, show s.1 5 ≤ n + 1 by omega⟩, h6⟩
  · exact ⟨h0, h3, h4, ⟨h5.1, show s.1 5 ≤ n + 1 by omega⟩, h6⟩
theorem rdOK_all {n c : Int} {s : rdS} (h : rdOK n s.1) (hn : 0 ≤ n) : rdOK (n + 1) (rdAll c s).2.1 := by
  unfold rdAll
  split
  · obtain ⟨h0, h3, h4, h5, h6, h7⟩ := h
    have hl := letZ_b c
    unfold rdTerm
    split
    · exact rdOK_tok (s := (updZ s.1 5 (s.1 5 + 0), s.2)) ⟨h0, h3, h4, ⟨show 0 ≤ s.1 5 + 0 by omega, show s.1 5 + 0 ≤ n + 1 by omega⟩, h6, h7⟩
    · split
      · exact rdOK_tok (s := (updZ s.1 5 (s.1 5 + 1), s.2)) ⟨h0, h3, h4, ⟨show 0 ≤ s.1 5 + 1 by omega, show s.1 5 + 1 ≤ n + 1 by omega⟩, h6, h7⟩
      · exact ⟨h0, h3, ⟨show (0 : Int) ≤ 1 by decide, show (1 : Int) ≤ 5 by decide⟩, ⟨h5.1, show s.1 5 ≤ n + 1 by omega⟩, hl, h7⟩
  · split
    · obtain ⟨h0, h3, h4, h5, h6, h7⟩ := h
      exact ⟨h0, ⟨show (0 : Int) ≤ 0 by decide, show (0 : Int) ≤ 5 by decide⟩, ⟨show (0 : Int) ≤ 2 by decide, show (2 : Int) ≤ 5 by decide⟩, ⟨h5.1, show s.1 5 ≤ n + 1 by omega⟩, h6, relZ_b c⟩
    · split
      · split
        · exact rdOK_dig h
        · unfold rdLBN
          split
          · obtain ⟨h0, h3, h4, h5, h6⟩ := h
            exact ⟨h0, h3, h4, ⟨h5.1, show s.1 5 ≤ n + 1 by omega⟩, h6⟩
          · exact rdOK_link (rdOK_tok h) hn
      · split
        · exact rdOK_link h hn
        · split
          · obtain ⟨h0, h3, h4, h5, h6, h7⟩ := h
            exact ⟨h0, ⟨show (0 : Int) ≤ 0 by decide, show (0 : Int) ≤ 5 by decide⟩, ⟨show (0 : Int) ≤ 5 by decide, show (5 : Int) ≤ 5 by decide⟩, ⟨h5.1, show s.1 5 ≤ n + 1 by omega⟩, h6, h7⟩
          · exact rdOK_dig h
def RDW (w : gW) (k k1 : Nat) (S : Nat → va_E) (s : rdS) (S' : Nat → va_E) : Prop := (∀ q : Nat, q ≠ k1 → q ≠ k → S' q = S q) ∧ S' k = OR_ w k1 s.1 ∧ S' k1 = AI w 60 s.2
def rdStart (ρ : Int → Int) : Int → Int := updZ (updZ (updZ ρ 0 0) 4 0) 5 0
def adR (nR : Int) (s : rdS) (R : Int → Int → Int) (c : Int) : Int → Int → Int := fun i j => if i = nR ∧ 3 ≤ j ∧ j < 3 + c then s.2 (j - 3) else if i = nR ∧ j = 2 then s.1 2 else if i = nR ∧ j = 1 then s.1 1 else if i = nR ∧ j = 0 then s.1 0 else R i j
theorem adR_0 (nR : Int) (s : rdS) (R : Int → Int → Int) : upd2 (upd2 (upd2 R nR 0 (s.1 0)) nR 1 (s.1 1)) nR 2 (s.1 2) = adR nR s R 0 := by
  funext i j
  unfold upd2 adR
  rw [if_neg (show ¬ (i = nR ∧ 3 ≤ j ∧ j < 3 + 0) by omega)]
theorem adR_s {nR c : Int} {s : rdS} {R : Int → Int → Int} (h : 0 ≤ c) : upd2 (adR nR s R c) nR (3 + c) (s.2 c) = adR nR s R (c + 1) := by
  funext i j
  unfold upd2 adR
  by_cases h1 : i = nR ∧ j = 3 + c
  · rw [if_pos h1, if_pos (by omega), show j - 3 = c by omega]
  · rw [if_neg h1]
    by_cases h2 : i = nR ∧ 3 ≤ j ∧ j < 3 + c
    · rw [if_pos h2, if_pos (by omega)]
    · rw [if_neg h2, if_neg (show ¬ (i = nR ∧ 3 ≤ j ∧ j < 3 + (c + 1)) by omega)]

set_option maxHeartbeats 4000000 in
set_option maxRecDepth 100000 in
theorem c_X1_start {w : gW} {l : Launch} {S : Nat → va_E} {k k1 : Nat} {ρ T : Int → Int} (hk : k < gw_N w) (hk1 : k1 < gw_N w) (ek : S k = OR_ w k1 ρ) (ek1 : S k1 = AI w 60 T) (nkk : k ≠ k1) :
    GM0 w l yX1_start wsX1_start { frames := 0, cells := 0, slots := 0, locals := 0 } [.ref (gw_ad w k)] S
      (fun S' => S' = va_up S k (OR_ w k1 (rdStart ρ))) := by
  refine GM.start (own := RX1) (n := "start") (d := "()V") (by decide) rfl (Nat.le_of_ble_eq_true rfl) ?_
  intro X hX hR hXl
  subst hXl
  refine g_at rfl (lv2 := [(0, .ref (gw_ad w k))]) rfl rfl rfl ?_
  refine g_aload_n (pc := 0) hX 0 rfl dX1_start_0 ?_
  refine g_iconst (pc := 1) hX dX1_start_1 ?_
  refine g_put (pc := 2) hX (ci := 1) (fun _ h => List.mem_cons_of_mem _ (List.mem_append_right _ h)) rfl tyX1 tyX1_ok nmX1 k hk ek 1 (by decide) (List.mem_of_getElem? (i := 1) rfl) rfl rfl (tyX1_ok 1 (by decide)) rfl (fit_int _) (Nat.le_of_ble_eq_true rfl) dX1_start_2 ?_
  refine g_at rfl rfl rfl (S2 := (va_up S k (.inr (1, [.ref (gw_ad w k1), vI (0), vI (ρ 1), vI (ρ 2), vI (ρ 3), vI (ρ 4), vI (ρ 5), vI (ρ 6), vI (ρ 7)])))) rfl ?_
  refine g_aload_n (pc := 5) hX 0 rfl dX1_start_5 ?_
  refine g_iconst (pc := 6) hX dX1_start_6 ?_
  refine g_put (pc := 7) hX (ci := 1) (fun _ h => List.mem_cons_of_mem _ (List.mem_append_right _ h)) rfl tyX1 tyX1_ok nmX1 k hk (up_eq _ _ _) 5 (by decide) (List.mem_of_getElem? (i := 2) rfl) rfl rfl (tyX1_ok 5 (by decide)) rfl (fit_int _) (Nat.le_of_ble_eq_true rfl) dX1_start_7 ?_
  refine g_at rfl rfl rfl (S2 := (va_up (va_up S k (.inr (1, [.ref (gw_ad w k1), vI (0), vI (ρ 1), vI (ρ 2), vI (ρ 3), vI (ρ 4), vI (ρ 5), vI (ρ 6), vI (ρ 7)]))) k (.inr (1, [.ref (gw_ad w k1), vI (0), vI (ρ 1), vI (ρ 2), vI (ρ 3), vI (0), vI (ρ 5), vI (ρ 6), vI (ρ 7)])))) rfl ?_
  refine g_aload_n (pc := 10) hX 0 rfl dX1_start_10 ?_
  refine g_iconst (pc := 11) hX dX1_start_11 ?_
  refine g_put (pc := 12) hX (ci := 1) (fun _ h => List.mem_cons_of_mem _ (List.mem_append_right _ h)) rfl tyX1 tyX1_ok nmX1 k hk (up_eq _ _ _) 6 (by decide) (List.mem_of_getElem? (i := 3) rfl) rfl rfl (tyX1_ok 6 (by decide)) rfl (fit_int _) (Nat.le_of_ble_eq_true rfl) dX1_start_12 ?_
  refine g_at rfl rfl rfl (S2 := (va_up (va_up (va_up S k (.inr (1, [.ref (gw_ad w k1), vI (0), vI (ρ 1), vI (ρ 2), vI (ρ 3), vI (ρ 4), vI (ρ 5), vI (ρ 6), vI (ρ 7)]))) k (.inr (1, [.ref (gw_ad w k1), vI (0), vI (ρ 1), vI (ρ 2), vI (ρ 3), vI (0), vI (ρ 5), vI (ρ 6), vI (ρ 7)]))) k (.inr (1, [.ref (gw_ad w k1), vI (0), vI (ρ 1), vI (ρ 2), vI (ρ 3), vI (0), vI (0), vI (ρ 6), vI (ρ 7)])))) rfl ?_
  refine g_vret (pc := 15) hX hR dX1_start_15 ?_
  rw [up_up, up_up]
  rfl

set_option maxHeartbeats 4000000 in
set_option maxRecDepth 100000 in
theorem c_X1_isComplete {w : gW} {l : Launch} {S : Nat → va_E} {k k1 : Nat} {ρ T : Int → Int} (hk : k < gw_N w) (hk1 : k1 < gw_N w) (ek : S k = OR_ w k1 ρ) (ek1 : S k1 = AI w 60 T) (nkk : k ≠ k1) (h4 : inI (ρ 4)) (h3 : inI (ρ 3)) :
    GM1 w l yX1_isComplete wsX1_isComplete { frames := 0, cells := 0, slots := 0, locals := 0 } [.ref (gw_ad w k)] S
      (fun v S' => v = vI (bz (decide (ρ 4 = 5 ∧ 0 < ρ 3))) ∧ S' = S) := by
  refine GM.start (own := RX1) (n := "isComplete") (d := "()Z") (by decide) rfl (Nat.le_of_ble_eq_true rfl) ?_
  intro X hX hR hXl
  subst hXl
  refine g_at rfl (lv2 := [(0, .ref (gw_ad w k))]) rfl rfl rfl ?_
  refine g_aload_n (pc := 0) hX 0 rfl dX1_isComplete_0 ?_
  refine g_get (pc := 1) hX (ci := 1) (fun _ h => List.mem_cons_of_mem _ (List.mem_append_right _ h)) rfl k hk ek 5 (by decide) (List.mem_of_getElem? (i := 1) rfl) rfl (v := vI (ρ 4)) rfl dX1_isComplete_1 ?_
  refine g_iconst (pc := 4) hX dX1_isComplete_4 ?_
  refine g_icmp_ne (pc := 5) (tgt := 19) hX (by first | assumption | exact inI_mk (by omega) (by omega)) (by first | assumption | exact inI_mk (by omega) (by omega)) dX1_isComplete_5 (by decide) (fun c_5 => ?_) (fun c_5 => ?_)
  · skip
    refine g_iconst (pc := 19) hX dX1_isComplete_19 ?_
    refine g_at rfl rfl (st2 := [vI (bz false)]) rfl rfl ?_
    refine g_zret (pc := 20) hX hR dX1_isComplete_20 ?_
    exact ⟨vB_f (df (by omega)), rfl⟩
  · skip
    refine g_aload_n (pc := 8) hX 0 rfl dX1_isComplete_8 ?_
    refine g_get (pc := 9) hX (ci := 1) (fun _ h => List.mem_cons_of_mem _ (List.mem_append_right _ h)) rfl k hk ek 4 (by decide) (List.mem_of_getElem? (i := 2) rfl) rfl (v := vI (ρ 3)) rfl dX1_isComplete_9 ?_
    refine g_if_le (pc := 12) (tgt := 19) hX (by first | assumption | exact inI_mk (by omega) (by omega)) dX1_isComplete_12 (by decide) (fun c_12 => ?_) (fun c_12 => ?_)
    · skip
      refine g_iconst (pc := 19) hX dX1_isComplete_19 ?_
      refine g_at rfl rfl (st2 := [vI (bz false)]) rfl rfl ?_
      refine g_zret (pc := 20) hX hR dX1_isComplete_20 ?_
      exact ⟨vB_f (df (by omega)), rfl⟩
    · skip
      refine g_iconst (pc := 15) hX dX1_isComplete_15 ?_
      refine g_goto (pc := 16) (tgt := 20) hX dX1_isComplete_16 (by decide) ?_
      refine g_at rfl rfl (st2 := [vI (bz true)]) rfl rfl ?_
      refine g_zret (pc := 20) hX hR dX1_isComplete_20 ?_
      exact ⟨vB_t (dt (by omega)), rfl⟩

set_option maxHeartbeats 4000000 in
set_option maxRecDepth 100000 in
theorem c_X1_tokenAt {w : gW} {l : Launch} {S : Nat → va_E} {k k1 : Nat} {ρ T : Int → Int} (hk : k < gw_N w) (hk1 : k1 < gw_N w) (ek : S k = OR_ w k1 ρ) (ek1 : S k1 = AI w 60 T) (nkk : k ≠ k1) {i : Int} (h0 : 0 ≤ i) (h1 : i < 60) :
    GM1 w l yX1_tokenAt wsX1_tokenAt { frames := 1, cells := 0, slots := 0, locals := 21 } [.ref (gw_ad w k), vI (i)] S
      (fun v S' => v = vI (T i) ∧ S' = S) := by
  refine GM.start (own := RX1) (n := "tokenAt") (d := "(I)I") (by decide) rfl (Nat.le_of_ble_eq_true rfl) ?_
  intro X hX hR hXl
  subst hXl
  refine g_at rfl (lv2 := [(0, .ref (gw_ad w k)), (1, vI (i))]) rfl rfl rfl ?_
  refine g_iload_n (pc := 0) hX 1 rfl dX1_tokenAt_0 ?_
  refine g_aload_n (pc := 1) hX 0 rfl dX1_tokenAt_1 ?_
  refine g_get (pc := 2) hX (ci := 1) (fun _ h => List.mem_cons_of_mem _ (List.mem_append_right _ h)) rfl k hk ek 0 (by decide) (List.mem_of_getElem? (i := 1) rfl) rfl (v := .ref (gw_ad w k1)) rfl dX1_tokenAt_2 ?_
  refine g_callN1 (pc := 5) (As := [vI (i), .ref (gw_ad w k1)]) (st2 := []) hX (c_X6_isIndex (i := i) hk1 ek1 (by decide) (by first | assumption | exact inI_mk (by omega) (by omega))) ggX1_tokenAt_X6_isIndex (List.mem_of_getElem? (i := 7) rfl) (List.mem_of_getElem? (i := 2) rfl) (List.mem_of_getElem? (i := 3) rfl) (n := 2) (hw := rfl) (hrc := rfl) (hrs := rfl) (hd := by decide +kernel) (hR := ⟨Nat.le_of_ble_eq_true rfl, Nat.le_of_ble_eq_true rfl⟩) (hn := rfl) (hst := rfl) (hsum := Nat.le_of_ble_eq_true rfl) (hdg := dX1_tokenAt_5) ?_
  rintro _ S9 ⟨rfl, e9⟩
  rw [e9]
  clear e9 S9
  refine g_at (pc2 := 8) rfl rfl (st2 := [vI (bz (decide (0 ≤ i ∧ i < (60 : Nat))))]) rfl (S2 := S) rfl ?_
  refine g_bif_eq (pc := 8) (tgt := 20) hX dX1_tokenAt_8 (by decide) (fun c_8 => ?_) (fun c_8 => ?_)
  · skip
    exact absurd c_8 (by rw [Bool.not_eq_false, decide_eq_true_eq]; omega)
  · skip
    refine g_aload_n (pc := 11) hX 0 rfl dX1_tokenAt_11 ?_
    refine g_get (pc := 12) hX (ci := 1) (fun _ h => List.mem_cons_of_mem _ (List.mem_append_right _ h)) rfl k hk ek 0 (by decide) (List.mem_of_getElem? (i := 1) rfl) rfl (v := .ref (gw_ad w k1)) rfl dX1_tokenAt_12 ?_
    refine g_iload_n (pc := 15) hX 1 rfl dX1_tokenAt_15 ?_
    refine g_iald (pc := 16) hX k1 hk1 ek1 (by omega) (by omega) (by decide) dX1_tokenAt_16 ?_
    refine g_goto (pc := 17) (tgt := 21) hX dX1_tokenAt_17 (by decide) ?_
    refine g_iret (pc := 21) hX hR dX1_tokenAt_21 ?_
    exact ⟨rfl, rfl⟩

set_option maxHeartbeats 4000000 in
set_option maxRecDepth 100000 in
theorem c_X1_startNumber {w : gW} {l : Launch} {S : Nat → va_E} {k k1 : Nat} {ρ T : Int → Int} (hk : k < gw_N w) (hk1 : k1 < gw_N w) (ek : S k = OR_ w k1 ρ) (ek1 : S k1 = AI w 60 T) (nkk : k ≠ k1) {p : Int} :
    GM0 w l yX1_startNumber wsX1_startNumber { frames := 0, cells := 0, slots := 0, locals := 0 } [.ref (gw_ad w k), vI (p)] S
      (fun S' => S' = va_up S k (OR_ w k1 (numR ρ p))) := by
  refine GM.start (own := RX1) (n := "startNumber") (d := "(I)V") (by decide) rfl (Nat.le_of_ble_eq_true rfl) ?_
  intro X hX hR hXl
  subst hXl
  refine g_at rfl (lv2 := [(0, .ref (gw_ad w k)), (1, vI (p))]) rfl rfl rfl ?_
  refine g_aload_n (pc := 0) hX 0 rfl dX1_startNumber_0 ?_
  refine g_iload_n (pc := 1) hX 1 rfl dX1_startNumber_1 ?_
  refine g_put (pc := 2) hX (ci := 1) (fun _ h => List.mem_cons_of_mem _ (List.mem_append_right _ h)) rfl tyX1 tyX1_ok nmX1 k hk ek 5 (by decide) (List.mem_of_getElem? (i := 1) rfl) rfl rfl (tyX1_ok 5 (by decide)) rfl (fit_int _) (Nat.le_of_ble_eq_true rfl) dX1_startNumber_2 ?_
  refine g_at rfl rfl rfl (S2 := (va_up S k (.inr (1, [.ref (gw_ad w k1), vI (ρ 0), vI (ρ 1), vI (ρ 2), vI (ρ 3), vI (p), vI (ρ 5), vI (ρ 6), vI (ρ 7)])))) rfl ?_
  refine g_aload_n (pc := 5) hX 0 rfl dX1_startNumber_5 ?_
  refine g_iconst (pc := 6) hX dX1_startNumber_6 ?_
  refine g_put (pc := 7) hX (ci := 1) (fun _ h => List.mem_cons_of_mem _ (List.mem_append_right _ h)) rfl tyX1 tyX1_ok nmX1 k hk (up_eq _ _ _) 3 (by decide) (List.mem_of_getElem? (i := 2) rfl) rfl rfl (tyX1_ok 3 (by decide)) rfl (fit_int _) (Nat.le_of_ble_eq_true rfl) dX1_startNumber_7 ?_
  refine g_at rfl rfl rfl (S2 := (va_up (va_up S k (.inr (1, [.ref (gw_ad w k1), vI (ρ 0), vI (ρ 1), vI (ρ 2), vI (ρ 3), vI (p), vI (ρ 5), vI (ρ 6), vI (ρ 7)]))) k (.inr (1, [.ref (gw_ad w k1), vI (ρ 0), vI (ρ 1), vI (0), vI (ρ 3), vI (p), vI (ρ 5), vI (ρ 6), vI (ρ 7)])))) rfl ?_
  refine g_aload_n (pc := 10) hX 0 rfl dX1_startNumber_10 ?_
  refine g_iconst (pc := 11) hX dX1_startNumber_11 ?_
  refine g_put (pc := 12) hX (ci := 1) (fun _ h => List.mem_cons_of_mem _ (List.mem_append_right _ h)) rfl tyX1 tyX1_ok nmX1 k hk (up_eq _ _ _) 4 (by decide) (List.mem_of_getElem? (i := 3) rfl) rfl rfl (tyX1_ok 4 (by decide)) rfl (fit_int _) (Nat.le_of_ble_eq_true rfl) dX1_startNumber_12 ?_
  refine g_at rfl rfl rfl (S2 := (va_up (va_up (va_up S k (.inr (1, [.ref (gw_ad w k1), vI (ρ 0), vI (ρ 1), vI (ρ 2), vI (ρ 3), vI (p), vI (ρ 5), vI (ρ 6), vI (ρ 7)]))) k (.inr (1, [.ref (gw_ad w k1), vI (ρ 0), vI (ρ 1), vI (0), vI (ρ 3), vI (p), vI (ρ 5), vI (ρ 6), vI (ρ 7)]))) k (.inr (1, [.ref (gw_ad w k1), vI (ρ 0), vI (ρ 1), vI (0), vI (0), vI (p), vI (ρ 5), vI (ρ 6), vI (ρ 7)])))) rfl ?_
  refine g_vret (pc := 15) hX hR dX1_startNumber_15 ?_
  rw [up_up, up_up]
  rfl

set_option maxHeartbeats 4000000 in
set_option maxRecDepth 100000 in
theorem c_X1_addToken {w : gW} {l : Launch} {S : Nat → va_E} {k k1 : Nat} {ρ T : Int → Int} (hk : k < gw_N w) (hk1 : k1 < gw_N w) (ek : S k = OR_ w k1 ρ) (ek1 : S k1 = AI w 60 T) (nkk : k ≠ k1) {t : Int} (h0 : 0 ≤ ρ 0 ∧ ρ 0 ≤ 60) :
    GM0 w l yX1_addToken wsX1_addToken { frames := 1, cells := 0, slots := 0, locals := 21 } [.ref (gw_ad w k), vI (t)] S
      (fun S' => RDW w k k1 S (tokS t (ρ, T)) S') := by
  refine GM.start (own := RX1) (n := "addToken") (d := "(I)V") (by decide) rfl (Nat.le_of_ble_eq_true rfl) ?_
  intro X hX hR hXl
  subst hXl
  refine g_at rfl (lv2 := [(0, .ref (gw_ad w k)), (1, vI (t))]) rfl rfl rfl ?_
  refine g_aload_n (pc := 0) hX 0 rfl dX1_addToken_0 ?_
  refine g_get (pc := 1) hX (ci := 1) (fun _ h => List.mem_cons_of_mem _ (List.mem_append_right _ h)) rfl k hk ek 1 (by decide) (List.mem_of_getElem? (i := 1) rfl) rfl (v := vI (ρ 0)) rfl dX1_addToken_1 ?_
  refine g_aload_n (pc := 4) hX 0 rfl dX1_addToken_4 ?_
  refine g_get (pc := 5) hX (ci := 1) (fun _ h => List.mem_cons_of_mem _ (List.mem_append_right _ h)) rfl k hk ek 0 (by decide) (List.mem_of_getElem? (i := 2) rfl) rfl (v := .ref (gw_ad w k1)) rfl dX1_addToken_5 ?_
  refine g_callN1 (pc := 8) (As := [vI (ρ 0), .ref (gw_ad w k1)]) (st2 := []) hX (c_X6_isIndex (i := ρ 0) hk1 ek1 (by decide) (by first | assumption | exact inI_mk (by omega) (by omega))) ggX1_addToken_X6_isIndex (List.mem_of_getElem? (i := 7) rfl) (List.mem_of_getElem? (i := 3) rfl) (List.mem_of_getElem? (i := 4) rfl) (n := 2) (hw := rfl) (hrc := rfl) (hrs := rfl) (hd := by decide +kernel) (hR := ⟨Nat.le_of_ble_eq_true rfl, Nat.le_of_ble_eq_true rfl⟩) (hn := rfl) (hst := rfl) (hsum := Nat.le_of_ble_eq_true rfl) (hdg := dX1_addToken_8) ?_
  rintro _ S9 ⟨rfl, e9⟩
  rw [e9]
  clear e9 S9
  refine g_at (pc2 := 11) rfl rfl (st2 := [vI (bz (decide (0 ≤ ρ 0 ∧ ρ 0 < (60 : Nat))))]) rfl (S2 := S) rfl ?_
  refine g_bif_eq (pc := 11) (tgt := 34) hX dX1_addToken_11 (by decide) (fun c_11 => ?_) (fun c_11 => ?_)
  · skip
    refine g_vret (pc := 34) hX hR dX1_addToken_34 ?_
    have hq : tokS t (ρ, T) = (ρ, T) := if_neg (by show ¬ ρ 0 < 60; simp only [decide_eq_false_iff_not] at c_11; omega)
    rw [hq]
    exact ⟨fun q _ _ => rfl, ek, ek1⟩
  · skip
    refine g_aload_n (pc := 14) hX 0 rfl dX1_addToken_14 ?_
    refine g_get (pc := 15) hX (ci := 1) (fun _ h => List.mem_cons_of_mem _ (List.mem_append_right _ h)) rfl k hk ek 0 (by decide) (List.mem_of_getElem? (i := 2) rfl) rfl (v := .ref (gw_ad w k1)) rfl dX1_addToken_15 ?_
    refine g_aload_n (pc := 18) hX 0 rfl dX1_addToken_18 ?_
    refine g_get (pc := 19) hX (ci := 1) (fun _ h => List.mem_cons_of_mem _ (List.mem_append_right _ h)) rfl k hk ek 1 (by decide) (List.mem_of_getElem? (i := 1) rfl) rfl (v := vI (ρ 0)) rfl dX1_addToken_19 ?_
    refine g_iload_n (pc := 22) hX 1 rfl dX1_addToken_22 ?_
    refine g_iast (pc := 23) hX k1 hk1 ek1 (by omega) (by have := of_decide_eq_true c_11; omega) (by decide) dX1_addToken_23 ?_
    refine g_at rfl rfl rfl (S2 := (va_up S k1 (AI w 60 (updZ (T) (ρ 0) (t))))) rfl ?_
    refine g_aload_n (pc := 24) hX 0 rfl dX1_addToken_24 ?_
    refine g_dup (pc := 25) hX rfl dX1_addToken_25 ?_
    refine g_get (pc := 26) hX (ci := 1) (fun _ h => List.mem_cons_of_mem _ (List.mem_append_right _ h)) rfl k hk (up_ne nkk ek) 1 (by decide) (List.mem_of_getElem? (i := 1) rfl) rfl (v := vI (ρ 0)) rfl dX1_addToken_26 ?_
    refine g_iconst (pc := 29) hX dX1_addToken_29 ?_
    refine g_iadd (pc := 30) hX dX1_addToken_30 ?_
    refine g_put (pc := 31) hX (ci := 1) (fun _ h => List.mem_cons_of_mem _ (List.mem_append_right _ h)) rfl tyX1 tyX1_ok nmX1 k hk (up_ne nkk ek) 1 (by decide) (List.mem_of_getElem? (i := 1) rfl) rfl rfl (tyX1_ok 1 (by decide)) rfl (fit_int _) (Nat.le_of_ble_eq_true rfl) dX1_addToken_31 ?_
    refine g_at rfl rfl rfl (S2 := (va_up (va_up S k1 (AI w 60 (updZ (T) (ρ 0) (t)))) k (.inr (1, [.ref (gw_ad w k1), vI ((ρ 0) + 1), vI (ρ 1), vI (ρ 2), vI (ρ 3), vI (ρ 4), vI (ρ 5), vI (ρ 6), vI (ρ 7)])))) rfl ?_
    refine g_vret (pc := 34) hX hR dX1_addToken_34 ?_
    have hq : tokS t (ρ, T) = (updZ ρ 0 (ρ 0 + 1), updZ T (ρ 0) t) := if_pos (show ρ 0 < 60 by have := of_decide_eq_true c_11; omega)
    rw [hq]
    exact ⟨(fun q a0 a1 => (up_ne a1 (up_ne a0 rfl))), (up_eq _ _ _), (up_ne (Ne.symm nkk) (up_eq _ _ _))⟩

set_option maxHeartbeats 4000000 in
set_option maxRecDepth 100000 in
theorem c_X1_acceptsTerm {w : gW} {l : Launch} {S : Nat → va_E} {k k1 : Nat} {ρ T : Int → Int} (hk : k < gw_N w) (hk1 : k1 < gw_N w) (ek : S k = OR_ w k1 ρ) (ek1 : S k1 = AI w 60 T) (nkk : k ≠ k1) {c : Int} (h0 : 0 ≤ c) (h1 : c < 128) {n : Int} (hO : rdOK n ρ) (hn : n ≤ 100) :
    GM1 w l yX1_acceptsTerm wsX1_acceptsTerm { frames := 7, cells := 0, slots := 0, locals := 159 } [.ref (gw_ad w k), vI (c)] S
      (fun v S' => v = vI (bz (rdTerm c (ρ, T)).1) ∧ RDW w k k1 S (rdTerm c (ρ, T)).2 S') := by
  refine GM.start (own := RX1) (n := "acceptsTerm") (d := "(I)Z") (by decide) rfl (Nat.le_of_ble_eq_true rfl) ?_
  intro X hX hR hXl
  subst hXl
  refine g_at rfl (lv2 := [(0, .ref (gw_ad w k)), (1, vI (c))]) rfl rfl rfl ?_
  obtain ⟨⟨r0a, r0b⟩, ⟨r3a, r3b⟩, ⟨r4a, r4b⟩, ⟨r5a, r5b⟩, ⟨r6a, r6b⟩, ⟨r7a, r7b⟩⟩ := id hO
  have hlz := letZ_b c
  refine g_iload_n (pc := 0) hX 1 rfl dX1_acceptsTerm_0 ?_
  refine g_bipush (pc := 1) hX (by decide) dX1_acceptsTerm_1 ?_
  refine g_icmp_eq (pc := 3) (tgt := 12) hX (by first | assumption | exact inI_mk (by omega) (by omega)) (by first | assumption | exact inI_mk (by omega) (by omega)) dX1_acceptsTerm_3 (by decide) (fun c_3 => ?_) (fun c_3 => ?_)
  · skip
    refine g_aload_n (pc := 12) hX 0 rfl dX1_acceptsTerm_12 ?_
    refine g_dup (pc := 13) hX rfl dX1_acceptsTerm_13 ?_
    refine g_get (pc := 14) hX (ci := 1) (fun _ h => List.mem_cons_of_mem _ (List.mem_append_right _ h)) rfl k hk ek 6 (by decide) (List.mem_of_getElem? (i := 1) rfl) rfl (v := vI (ρ 5)) rfl dX1_acceptsTerm_14 ?_
    refine g_iload_n (pc := 17) hX 1 rfl dX1_acceptsTerm_17 ?_
    refine g_bipush (pc := 18) hX (by decide) dX1_acceptsTerm_18 ?_
    refine g_icmp_ne (pc := 20) (tgt := 27) hX (by first | assumption | exact inI_mk (by omega) (by omega)) (by first | assumption | exact inI_mk (by omega) (by omega)) dX1_acceptsTerm_20 (by decide) (fun c_20 => ?_) (fun c_20 => ?_)
    · skip
      refine g_iconst (pc := 27) hX dX1_acceptsTerm_27 ?_
      refine g_iadd (pc := 28) hX dX1_acceptsTerm_28 ?_
      refine g_put (pc := 29) hX (ci := 1) (fun _ h => List.mem_cons_of_mem _ (List.mem_append_right _ h)) rfl tyX1 tyX1_ok nmX1 k hk ek 6 (by decide) (List.mem_of_getElem? (i := 1) rfl) rfl rfl (tyX1_ok 6 (by decide)) rfl (fit_int _) (Nat.le_of_ble_eq_true rfl) dX1_acceptsTerm_29 ?_
      refine g_at rfl rfl rfl (S2 := (va_up S k (.inr (1, [.ref (gw_ad w k1), vI (ρ 0), vI (ρ 1), vI (ρ 2), vI (ρ 3), vI (ρ 4), vI ((ρ 5) + 0), vI (ρ 6), vI (ρ 7)])))) rfl ?_
      refine g_aload_n (pc := 32) hX 0 rfl dX1_acceptsTerm_32 ?_
      refine g_iload_n (pc := 33) hX 1 rfl dX1_acceptsTerm_33 ?_
      refine g_ineg (pc := 34) hX dX1_acceptsTerm_34 ?_
      refine g_callV0 (pc := 35) (ci := 1) (As := [vI (-(c))]) (st2 := []) hX k hk (up_eq _ _ _) rfl (c_X1_addToken (ρ := updZ ρ 5 (ρ 5 + 0)) (T := T) hk hk1 (up_eq _ _ _) (up_ne (Ne.symm nkk) ek1) nkk (t := -(c)) ⟨r0a, r0b⟩) gX1_acceptsTerm_X1_addToken (n := 1) (hw := rfl) (hrc := rfl) (hrs := rfl) (hd := by decide +kernel) (hR := ⟨Nat.le_of_ble_eq_true rfl, Nat.le_of_ble_eq_true rfl⟩) (hn := rfl) (hst := rfl) (hsum := Nat.le_of_ble_eq_true rfl) (hdg := dX1_acceptsTerm_35) ?_
      rintro S35 ⟨hf35, ga35, gb35⟩
      refine g_at (pc2 := 38) rfl rfl (st2 := []) rfl (S2 := S35) rfl ?_
      refine g_iconst (pc := 38) hX dX1_acceptsTerm_38 ?_
      refine g_at rfl rfl (st2 := [vI (bz true)]) rfl rfl ?_
      refine g_zret (pc := 39) hX hR dX1_acceptsTerm_39 ?_
      have hq : rdTerm c (ρ, T) = (true, tokS (-c) (updZ ρ 5 (ρ 5 + 0), T)) := by unfold rdTerm; rw [if_pos c_3]
      rw [hq]
      exact ⟨rfl, ⟨(fun q a0 a1 => ((hf35 q a0 a1).trans (up_ne a1 rfl))), ga35, gb35⟩⟩
    · skip
      exact absurd c_3 (by omega)
  · skip
    refine g_iload_n (pc := 6) hX 1 rfl dX1_acceptsTerm_6 ?_
    refine g_bipush (pc := 7) hX (by decide) dX1_acceptsTerm_7 ?_
    refine g_icmp_ne (pc := 9) (tgt := 40) hX (by first | assumption | exact inI_mk (by omega) (by omega)) (by first | assumption | exact inI_mk (by omega) (by omega)) dX1_acceptsTerm_9 (by decide) (fun c_9 => ?_) (fun c_9 => ?_)
    · skip
      refine g_aload_n (pc := 40) hX 0 rfl dX1_acceptsTerm_40 ?_
      refine g_ldcS (pc := 41) hX hX.2.2.2.2.2.2.2.2.1.2.2.2.1.1 dX1_acceptsTerm_41 ?_
      refine g_iload_n (pc := 43) hX 1 rfl dX1_acceptsTerm_43 ?_
      refine g_i2c (pc := 44) hX (z := c) (ch_i2c h0 h1) dX1_acceptsTerm_44 ?_
      refine g_callK1 (pc := 45) (i := 0) (As := [vI (c)]) (st2 := [.ref (gw_ad w k)]) hX (by decide) (c_J0_indexOf2_0 (c := c) h0 h1) gX1_acceptsTerm_J0_indexOf_0f7a4 (n := 1) (hw := rfl) (hrc := rfl) (hrs := rfl) (hd := by decide +kernel) (hR := ⟨Nat.le_of_ble_eq_true rfl, Nat.le_of_ble_eq_true rfl⟩) (hn := rfl) (hst := rfl) (hsum := Nat.le_of_ble_eq_true rfl) (hdg := dX1_acceptsTerm_45) ?_
      rintro _ S9 ⟨rfl, e9⟩
      rw [e9]
      clear e9 S9
      refine g_at (pc2 := 48) rfl rfl (st2 := [vI (letZ c), .ref (gw_ad w k)]) rfl (S2 := S) rfl ?_
      refine g_put (pc := 48) hX (ci := 1) (fun _ h => List.mem_cons_of_mem _ (List.mem_append_right _ h)) rfl tyX1 tyX1_ok nmX1 k hk ek 7 (by decide) (List.mem_of_getElem? (i := 2) rfl) rfl rfl (tyX1_ok 7 (by decide)) rfl (fit_int _) (Nat.le_of_ble_eq_true rfl) dX1_acceptsTerm_48 ?_
      refine g_at rfl rfl rfl (S2 := (va_up S k (.inr (1, [.ref (gw_ad w k1), vI (ρ 0), vI (ρ 1), vI (ρ 2), vI (ρ 3), vI (ρ 4), vI (ρ 5), vI (letZ c), vI (ρ 7)])))) rfl ?_
      refine g_aload_n (pc := 51) hX 0 rfl dX1_acceptsTerm_51 ?_
      refine g_iconst (pc := 52) hX dX1_acceptsTerm_52 ?_
      refine g_put (pc := 53) hX (ci := 1) (fun _ h => List.mem_cons_of_mem _ (List.mem_append_right _ h)) rfl tyX1 tyX1_ok nmX1 k hk (up_eq _ _ _) 5 (by decide) (List.mem_of_getElem? (i := 3) rfl) rfl rfl (tyX1_ok 5 (by decide)) rfl (fit_int _) (Nat.le_of_ble_eq_true rfl) dX1_acceptsTerm_53 ?_
      refine g_at rfl rfl rfl (S2 := (va_up (va_up S k (.inr (1, [.ref (gw_ad w k1), vI (ρ 0), vI (ρ 1), vI (ρ 2), vI (ρ 3), vI (ρ 4), vI (ρ 5), vI (letZ c), vI (ρ 7)]))) k (.inr (1, [.ref (gw_ad w k1), vI (ρ 0), vI (ρ 1), vI (ρ 2), vI (ρ 3), vI (1), vI (ρ 5), vI (letZ c), vI (ρ 7)])))) rfl ?_
      refine g_aload_n (pc := 56) hX 0 rfl dX1_acceptsTerm_56 ?_
      refine g_get (pc := 57) hX (ci := 1) (fun _ h => List.mem_cons_of_mem _ (List.mem_append_right _ h)) rfl k hk (up_eq _ _ _) 7 (by decide) (List.mem_of_getElem? (i := 2) rfl) rfl (v := vI (letZ c)) rfl dX1_acceptsTerm_57 ?_
      refine g_if_lt (pc := 60) (tgt := 67) hX (by first | assumption | exact inI_mk (by omega) (by omega)) dX1_acceptsTerm_60 (by decide) (fun c_60 => ?_) (fun c_60 => ?_)
      · skip
        refine g_iconst (pc := 67) hX dX1_acceptsTerm_67 ?_
        refine g_at rfl rfl (st2 := [vI (bz false)]) rfl rfl ?_
        refine g_zret (pc := 68) hX hR dX1_acceptsTerm_68 ?_
        have hq : rdTerm c (ρ, T) = (false, (updZ (updZ ρ 6 (letZ c)) 4 1, T)) := by unfold rdTerm; rw [if_neg c_3, if_neg c_9, show decide (0 ≤ letZ c) = false from df (by omega)]
        rw [hq]
        exact ⟨rfl, ⟨(fun q a0 a1 => (up_ne a1 (up_ne a1 rfl))), (up_eq _ _ _), (up_ne (Ne.symm nkk) (up_ne (Ne.symm nkk) ek1))⟩⟩
      · skip
        refine g_iconst (pc := 63) hX dX1_acceptsTerm_63 ?_
        refine g_goto (pc := 64) (tgt := 68) hX dX1_acceptsTerm_64 (by decide) ?_
        refine g_at rfl rfl (st2 := [vI (bz true)]) rfl rfl ?_
        refine g_zret (pc := 68) hX hR dX1_acceptsTerm_68 ?_
        have hq : rdTerm c (ρ, T) = (true, (updZ (updZ ρ 6 (letZ c)) 4 1, T)) := by unfold rdTerm; rw [if_neg c_3, if_neg c_9, show decide (0 ≤ letZ c) = true from dt (by omega)]
        rw [hq]
        exact ⟨rfl, ⟨(fun q a0 a1 => (up_ne a1 (up_ne a1 rfl))), (up_eq _ _ _), (up_ne (Ne.symm nkk) (up_ne (Ne.symm nkk) ek1))⟩⟩
    · skip
      refine g_aload_n (pc := 12) hX 0 rfl dX1_acceptsTerm_12 ?_
      refine g_dup (pc := 13) hX rfl dX1_acceptsTerm_13 ?_
      refine g_get (pc := 14) hX (ci := 1) (fun _ h => List.mem_cons_of_mem _ (List.mem_append_right _ h)) rfl k hk ek 6 (by decide) (List.mem_of_getElem? (i := 1) rfl) rfl (v := vI (ρ 5)) rfl dX1_acceptsTerm_14 ?_
      refine g_iload_n (pc := 17) hX 1 rfl dX1_acceptsTerm_17 ?_
      refine g_bipush (pc := 18) hX (by decide) dX1_acceptsTerm_18 ?_
      refine g_icmp_ne (pc := 20) (tgt := 27) hX (by first | assumption | exact inI_mk (by omega) (by omega)) (by first | assumption | exact inI_mk (by omega) (by omega)) dX1_acceptsTerm_20 (by decide) (fun c_20 => ?_) (fun c_20 => ?_)
      · skip
        exact absurd c_9 (by omega)
      · skip
        refine g_iconst (pc := 23) hX dX1_acceptsTerm_23 ?_
        refine g_goto (pc := 24) (tgt := 28) hX dX1_acceptsTerm_24 (by decide) ?_
        refine g_iadd (pc := 28) hX dX1_acceptsTerm_28 ?_
        refine g_put (pc := 29) hX (ci := 1) (fun _ h => List.mem_cons_of_mem _ (List.mem_append_right _ h)) rfl tyX1 tyX1_ok nmX1 k hk ek 6 (by decide) (List.mem_of_getElem? (i := 1) rfl) rfl rfl (tyX1_ok 6 (by decide)) rfl (fit_int _) (Nat.le_of_ble_eq_true rfl) dX1_acceptsTerm_29 ?_
        refine g_at rfl rfl rfl (S2 := (va_up S k (.inr (1, [.ref (gw_ad w k1), vI (ρ 0), vI (ρ 1), vI (ρ 2), vI (ρ 3), vI (ρ 4), vI ((ρ 5) + 1), vI (ρ 6), vI (ρ 7)])))) rfl ?_
        refine g_aload_n (pc := 32) hX 0 rfl dX1_acceptsTerm_32 ?_
        refine g_iload_n (pc := 33) hX 1 rfl dX1_acceptsTerm_33 ?_
        refine g_ineg (pc := 34) hX dX1_acceptsTerm_34 ?_
        refine g_callV0 (pc := 35) (ci := 1) (As := [vI (-(c))]) (st2 := []) hX k hk (up_eq _ _ _) rfl (c_X1_addToken (ρ := updZ ρ 5 (ρ 5 + 1)) (T := T) hk hk1 (up_eq _ _ _) (up_ne (Ne.symm nkk) ek1) nkk (t := -(c)) ⟨r0a, r0b⟩) gX1_acceptsTerm_X1_addToken (n := 1) (hw := rfl) (hrc := rfl) (hrs := rfl) (hd := by decide +kernel) (hR := ⟨Nat.le_of_ble_eq_true rfl, Nat.le_of_ble_eq_true rfl⟩) (hn := rfl) (hst := rfl) (hsum := Nat.le_of_ble_eq_true rfl) (hdg := dX1_acceptsTerm_35) ?_
        rintro S35 ⟨hf35, ga35, gb35⟩
        refine g_at (pc2 := 38) rfl rfl (st2 := []) rfl (S2 := S35) rfl ?_
        refine g_iconst (pc := 38) hX dX1_acceptsTerm_38 ?_
        refine g_at rfl rfl (st2 := [vI (bz true)]) rfl rfl ?_
        refine g_zret (pc := 39) hX hR dX1_acceptsTerm_39 ?_
        have hq : rdTerm c (ρ, T) = (true, tokS (-c) (updZ ρ 5 (ρ 5 + 1), T)) := by unfold rdTerm; rw [if_neg c_3, if_pos c_9]
        rw [hq]
        exact ⟨rfl, ⟨(fun q a0 a1 => ((hf35 q a0 a1).trans (up_ne a1 rfl))), ga35, gb35⟩⟩

set_option maxHeartbeats 4000000 in
set_option maxRecDepth 100000 in
theorem c_X1_acceptsRelation {w : gW} {l : Launch} {S : Nat → va_E} {k k1 : Nat} {ρ T : Int → Int} (hk : k < gw_N w) (hk1 : k1 < gw_N w) (ek : S k = OR_ w k1 ρ) (ek1 : S k1 = AI w 60 T) (nkk : k ≠ k1) {c : Int} (h0 : 0 ≤ c) (h1 : c < 128) :
    GM1 w l yX1_acceptsRelation wsX1_acceptsRelation { frames := 7, cells := 0, slots := 0, locals := 159 } [.ref (gw_ad w k), vI (c)] S
      (fun v S' => v = vI (bz (rdRel c (ρ, T)).1) ∧ RDW w k k1 S (rdRel c (ρ, T)).2 S') := by
  refine GM.start (own := RX1) (n := "acceptsRelation") (d := "(I)Z") (by decide) rfl (Nat.le_of_ble_eq_true rfl) ?_
  intro X hX hR hXl
  subst hXl
  refine g_at rfl (lv2 := [(0, .ref (gw_ad w k)), (1, vI (c))]) rfl rfl rfl ?_
  have hlz := relZ_b c
  have hl7 : numR (updZ ρ 7 (relZ c)) 2 7 = relZ c := rfl
  refine g_aload_n (pc := 0) hX 0 rfl dX1_acceptsRelation_0 ?_
  refine g_ldcS (pc := 1) hX hX.2.2.2.2.2.2.2.2.1.2.2.2.1.2.1 dX1_acceptsRelation_1 ?_
  refine g_iload_n (pc := 3) hX 1 rfl dX1_acceptsRelation_3 ?_
  refine g_i2c (pc := 4) hX (z := c) (ch_i2c h0 h1) dX1_acceptsRelation_4 ?_
  refine g_callK1 (pc := 5) (i := 1) (As := [vI (c)]) (st2 := [.ref (gw_ad w k)]) hX (by decide) (c_J0_indexOf2_1 (c := c) h0 h1) gX1_acceptsRelation_J0_indexOf_0f7a4 (n := 1) (hw := rfl) (hrc := rfl) (hrs := rfl) (hd := by decide +kernel) (hR := ⟨Nat.le_of_ble_eq_true rfl, Nat.le_of_ble_eq_true rfl⟩) (hn := rfl) (hst := rfl) (hsum := Nat.le_of_ble_eq_true rfl) (hdg := dX1_acceptsRelation_5) ?_
  rintro _ S9 ⟨rfl, e9⟩
  rw [e9]
  clear e9 S9
  refine g_at (pc2 := 8) rfl rfl (st2 := [vI (relZ c), .ref (gw_ad w k)]) rfl (S2 := S) rfl ?_
  refine g_put (pc := 8) hX (ci := 1) (fun _ h => List.mem_cons_of_mem _ (List.mem_append_right _ h)) rfl tyX1 tyX1_ok nmX1 k hk ek 8 (by decide) (List.mem_of_getElem? (i := 1) rfl) rfl rfl (tyX1_ok 8 (by decide)) rfl (fit_int _) (Nat.le_of_ble_eq_true rfl) dX1_acceptsRelation_8 ?_
  refine g_at rfl rfl rfl (S2 := (va_up S k (.inr (1, [.ref (gw_ad w k1), vI (ρ 0), vI (ρ 1), vI (ρ 2), vI (ρ 3), vI (ρ 4), vI (ρ 5), vI (ρ 6), vI (relZ c)])))) rfl ?_
  refine g_aload_n (pc := 11) hX 0 rfl dX1_acceptsRelation_11 ?_
  refine g_iconst (pc := 12) hX dX1_acceptsRelation_12 ?_
  refine g_callV0 (pc := 13) (ci := 1) (As := [vI (2)]) (st2 := []) hX k hk (up_eq _ _ _) rfl (c_X1_startNumber (ρ := updZ ρ 7 (relZ c)) (p := 2) hk hk1 (up_eq _ _ _) (up_ne (Ne.symm nkk) ek1) nkk) gX1_acceptsRelation_X1_startNumber (n := 1) (hw := rfl) (hrc := rfl) (hrs := rfl) (hd := by decide +kernel) (hR := ⟨Nat.le_of_ble_eq_true rfl, Nat.le_of_ble_eq_true rfl⟩) (hn := rfl) (hst := rfl) (hsum := Nat.le_of_ble_eq_true rfl) (hdg := dX1_acceptsRelation_13) ?_
  rintro _ rfl
  refine g_at (pc2 := 16) rfl rfl (st2 := []) rfl (S2 := (va_up (va_up S k (.inr (1, [.ref (gw_ad w k1), vI (ρ 0), vI (ρ 1), vI (ρ 2), vI (ρ 3), vI (ρ 4), vI (ρ 5), vI (ρ 6), vI (relZ c)]))) k (.inr (1, [.ref (gw_ad w k1), vI ((numR (updZ ρ 7 (relZ c)) 2) 0), vI ((numR (updZ ρ 7 (relZ c)) 2) 1), vI ((numR (updZ ρ 7 (relZ c)) 2) 2), vI ((numR (updZ ρ 7 (relZ c)) 2) 3), vI ((numR (updZ ρ 7 (relZ c)) 2) 4), vI ((numR (updZ ρ 7 (relZ c)) 2) 5), vI ((numR (updZ ρ 7 (relZ c)) 2) 6), vI ((numR (updZ ρ 7 (relZ c)) 2) 7)])))) rfl ?_
  refine g_aload_n (pc := 16) hX 0 rfl dX1_acceptsRelation_16 ?_
  refine g_get (pc := 17) hX (ci := 1) (fun _ h => List.mem_cons_of_mem _ (List.mem_append_right _ h)) rfl k hk (up_eq _ _ _) 8 (by decide) (List.mem_of_getElem? (i := 1) rfl) rfl (v := vI ((numR (updZ ρ 7 (relZ c)) 2) 7)) rfl dX1_acceptsRelation_17 ?_
  refine g_at rfl rfl (st2 := [vI (relZ c)]) (by rw [show (numR (updZ ρ 7 (relZ c)) 2) 7 = relZ c from hl7]) rfl ?_
  refine g_if_lt (pc := 20) (tgt := 27) hX (by first | assumption | exact inI_mk (by omega) (by omega)) dX1_acceptsRelation_20 (by decide) (fun c_20 => ?_) (fun c_20 => ?_)
  · skip
    refine g_iconst (pc := 27) hX dX1_acceptsRelation_27 ?_
    refine g_at rfl rfl (st2 := [vI (bz false)]) rfl rfl ?_
    refine g_zret (pc := 28) hX hR dX1_acceptsRelation_28 ?_
    have hq : rdRel c (ρ, T) = (false, (numR (updZ ρ 7 (relZ c)) 2, T)) := by unfold rdRel; rw [show decide (0 ≤ relZ c) = false from df (by omega)]
    rw [hq]
    exact ⟨rfl, ⟨(fun q a0 a1 => (up_ne a1 (up_ne a1 rfl))), (up_eq _ _ _), (up_ne (Ne.symm nkk) (up_ne (Ne.symm nkk) ek1))⟩⟩
  · skip
    refine g_iconst (pc := 23) hX dX1_acceptsRelation_23 ?_
    refine g_goto (pc := 24) (tgt := 28) hX dX1_acceptsRelation_24 (by decide) ?_
    refine g_at rfl rfl (st2 := [vI (bz true)]) rfl rfl ?_
    refine g_zret (pc := 28) hX hR dX1_acceptsRelation_28 ?_
    have hq : rdRel c (ρ, T) = (true, (numR (updZ ρ 7 (relZ c)) 2, T)) := by unfold rdRel; rw [show decide (0 ≤ relZ c) = true from dt (by omega)]
    rw [hq]
    exact ⟨rfl, ⟨(fun q a0 a1 => (up_ne a1 (up_ne a1 rfl))), (up_eq _ _ _), (up_ne (Ne.symm nkk) (up_ne (Ne.symm nkk) ek1))⟩⟩

set_option maxHeartbeats 4000000 in
set_option maxRecDepth 100000 in
theorem c_X1_acceptsDigit {w : gW} {l : Launch} {S : Nat → va_E} {k k1 : Nat} {ρ T : Int → Int} (hk : k < gw_N w) (hk1 : k1 < gw_N w) (ek : S k = OR_ w k1 ρ) (ek1 : S k1 = AI w 60 T) (nkk : k ≠ k1) {c : Int} (h0 : 0 ≤ c) (h1 : c < 128) {n : Int} (hO : rdOK n ρ) (hn : n ≤ 100) :
    GM1 w l yX1_acceptsDigit wsX1_acceptsDigit { frames := 0, cells := 0, slots := 0, locals := 0 } [.ref (gw_ad w k), vI (c)] S
      (fun v S' => v = vI (bz (rdDig c (ρ, T)).1) ∧ RDW w k k1 S (rdDig c (ρ, T)).2 S') := by
  refine GM.start (own := RX1) (n := "acceptsDigit") (d := "(I)Z") (by decide) rfl (Nat.le_of_ble_eq_true rfl) ?_
  intro X hX hR hXl
  subst hXl
  refine g_at rfl (lv2 := [(0, .ref (gw_ad w k)), (1, vI (c))]) rfl rfl rfl ?_
  obtain ⟨⟨r0a, r0b⟩, ⟨r3a, r3b⟩, ⟨r4a, r4b⟩, ⟨r5a, r5b⟩, ⟨r6a, r6b⟩, ⟨r7a, r7b⟩⟩ := id hO
  refine g_iload_n (pc := 0) hX 1 rfl dX1_acceptsDigit_0 ?_
  refine g_bipush (pc := 1) hX (by decide) dX1_acceptsDigit_1 ?_
  refine g_icmp_lt (pc := 3) (tgt := 20) hX (by first | assumption | exact inI_mk (by omega) (by omega)) (by first | assumption | exact inI_mk (by omega) (by omega)) dX1_acceptsDigit_3 (by decide) (fun c_3 => ?_) (fun c_3 => ?_)
  · skip
    refine g_iconst (pc := 20) hX dX1_acceptsDigit_20 ?_
    refine g_at rfl rfl (st2 := [vI (bz false)]) rfl rfl ?_
    refine g_zret (pc := 21) hX hR dX1_acceptsDigit_21 ?_
    have hq : rdDig c (ρ, T) = (false, (ρ, T)) := if_neg (fun z => by have z2 : ρ 3 < 5 := z.2.2; omega)
    rw [hq]
    exact ⟨rfl, ⟨(fun q a0 a1 => rfl), ek, ek1⟩⟩
  · skip
    refine g_iload_n (pc := 6) hX 1 rfl dX1_acceptsDigit_6 ?_
    refine g_bipush (pc := 7) hX (by decide) dX1_acceptsDigit_7 ?_
    refine g_icmp_gt (pc := 9) (tgt := 20) hX (by first | assumption | exact inI_mk (by omega) (by omega)) (by first | assumption | exact inI_mk (by omega) (by omega)) dX1_acceptsDigit_9 (by decide) (fun c_9 => ?_) (fun c_9 => ?_)
    · skip
      refine g_iconst (pc := 20) hX dX1_acceptsDigit_20 ?_
      refine g_at rfl rfl (st2 := [vI (bz false)]) rfl rfl ?_
      refine g_zret (pc := 21) hX hR dX1_acceptsDigit_21 ?_
      have hq : rdDig c (ρ, T) = (false, (ρ, T)) := if_neg (fun z => by have z2 : ρ 3 < 5 := z.2.2; omega)
      rw [hq]
      exact ⟨rfl, ⟨(fun q a0 a1 => rfl), ek, ek1⟩⟩
    · skip
      refine g_aload_n (pc := 12) hX 0 rfl dX1_acceptsDigit_12 ?_
      refine g_get (pc := 13) hX (ci := 1) (fun _ h => List.mem_cons_of_mem _ (List.mem_append_right _ h)) rfl k hk ek 4 (by decide) (List.mem_of_getElem? (i := 1) rfl) rfl (v := vI (ρ 3)) rfl dX1_acceptsDigit_13 ?_
      refine g_iconst (pc := 16) hX dX1_acceptsDigit_16 ?_
      refine g_icmp_lt (pc := 17) (tgt := 22) hX (by first | assumption | exact inI_mk (by omega) (by omega)) (by first | assumption | exact inI_mk (by omega) (by omega)) dX1_acceptsDigit_17 (by decide) (fun c_17 => ?_) (fun c_17 => ?_)
      · skip
        refine g_aload_n (pc := 22) hX 0 rfl dX1_acceptsDigit_22 ?_
        refine g_aload_n (pc := 23) hX 0 rfl dX1_acceptsDigit_23 ?_
        refine g_get (pc := 24) hX (ci := 1) (fun _ h => List.mem_cons_of_mem _ (List.mem_append_right _ h)) rfl k hk ek 3 (by decide) (List.mem_of_getElem? (i := 2) rfl) rfl (v := vI (ρ 2)) rfl dX1_acceptsDigit_24 ?_
        refine g_bipush (pc := 27) hX (by decide) dX1_acceptsDigit_27 ?_
        refine g_imul (pc := 29) hX dX1_acceptsDigit_29 ?_
        refine g_iload_n (pc := 30) hX 1 rfl dX1_acceptsDigit_30 ?_
        refine g_iadd (pc := 31) hX dX1_acceptsDigit_31 ?_
        refine g_bipush (pc := 32) hX (by decide) dX1_acceptsDigit_32 ?_
        refine g_isub (pc := 34) hX dX1_acceptsDigit_34 ?_
        refine g_put (pc := 35) hX (ci := 1) (fun _ h => List.mem_cons_of_mem _ (List.mem_append_right _ h)) rfl tyX1 tyX1_ok nmX1 k hk ek 3 (by decide) (List.mem_of_getElem? (i := 2) rfl) rfl rfl (tyX1_ok 3 (by decide)) rfl (fit_int _) (Nat.le_of_ble_eq_true rfl) dX1_acceptsDigit_35 ?_
        refine g_at rfl rfl rfl (S2 := (va_up S k (.inr (1, [.ref (gw_ad w k1), vI (ρ 0), vI (ρ 1), vI ((((ρ 2) * 10) + c) - 48), vI (ρ 3), vI (ρ 4), vI (ρ 5), vI (ρ 6), vI (ρ 7)])))) rfl ?_
        refine g_aload_n (pc := 38) hX 0 rfl dX1_acceptsDigit_38 ?_
        refine g_dup (pc := 39) hX rfl dX1_acceptsDigit_39 ?_
        refine g_get (pc := 40) hX (ci := 1) (fun _ h => List.mem_cons_of_mem _ (List.mem_append_right _ h)) rfl k hk (up_eq _ _ _) 4 (by decide) (List.mem_of_getElem? (i := 1) rfl) rfl (v := vI (ρ 3)) rfl dX1_acceptsDigit_40 ?_
        refine g_iconst (pc := 43) hX dX1_acceptsDigit_43 ?_
        refine g_iadd (pc := 44) hX dX1_acceptsDigit_44 ?_
        refine g_put (pc := 45) hX (ci := 1) (fun _ h => List.mem_cons_of_mem _ (List.mem_append_right _ h)) rfl tyX1 tyX1_ok nmX1 k hk (up_eq _ _ _) 4 (by decide) (List.mem_of_getElem? (i := 1) rfl) rfl rfl (tyX1_ok 4 (by decide)) rfl (fit_int _) (Nat.le_of_ble_eq_true rfl) dX1_acceptsDigit_45 ?_
        refine g_at rfl rfl rfl (S2 := (va_up (va_up S k (.inr (1, [.ref (gw_ad w k1), vI (ρ 0), vI (ρ 1), vI ((((ρ 2) * 10) + c) - 48), vI (ρ 3), vI (ρ 4), vI (ρ 5), vI (ρ 6), vI (ρ 7)]))) k (.inr (1, [.ref (gw_ad w k1), vI (ρ 0), vI (ρ 1), vI ((((ρ 2) * 10) + c) - 48), vI ((ρ 3) + 1), vI (ρ 4), vI (ρ 5), vI (ρ 6), vI (ρ 7)])))) rfl ?_
        refine g_iconst (pc := 48) hX dX1_acceptsDigit_48 ?_
        refine g_at rfl rfl (st2 := [vI (bz true)]) rfl rfl ?_
        refine g_zret (pc := 49) hX hR dX1_acceptsDigit_49 ?_
        have hq : rdDig c (ρ, T) = (true, (updZ (updZ ρ 2 (ρ 2 * 10 + c - 48)) 3 (ρ 3 + 1), T)) := if_pos ⟨by omega, by omega, show ρ 3 < 5 by omega⟩
        rw [hq]
        exact ⟨rfl, ⟨(fun q a0 a1 => (up_ne a1 (up_ne a1 rfl))), (up_eq _ _ _), (up_ne (Ne.symm nkk) (up_ne (Ne.symm nkk) ek1))⟩⟩
      · skip
        refine g_iconst (pc := 20) hX dX1_acceptsDigit_20 ?_
        refine g_at rfl rfl (st2 := [vI (bz false)]) rfl rfl ?_
        refine g_zret (pc := 21) hX hR dX1_acceptsDigit_21 ?_
        have hq : rdDig c (ρ, T) = (false, (ρ, T)) := if_neg (fun z => by have z2 : ρ 3 < 5 := z.2.2; omega)
        rw [hq]
        exact ⟨rfl, ⟨(fun q a0 a1 => rfl), ek, ek1⟩⟩

set_option maxHeartbeats 4000000 in
set_option maxRecDepth 100000 in
theorem c_X1_acceptsLink {w : gW} {l : Launch} {S : Nat → va_E} {k k1 : Nat} {ρ T : Int → Int} (hk : k < gw_N w) (hk1 : k1 < gw_N w) (ek : S k = OR_ w k1 ρ) (ek1 : S k1 = AI w 60 T) (nkk : k ≠ k1) {c : Int} (h0 : 0 ≤ c) (h1 : c < 128) {n : Int} (hO : rdOK n ρ) (hn : n ≤ 100) :
    GM1 w l yX1_acceptsLink wsX1_acceptsLink { frames := 2, cells := 0, slots := 0, locals := 42 } [.ref (gw_ad w k), vI (c)] S
      (fun v S' => v = vI (bz (rdLink c (ρ, T)).1) ∧ RDW w k k1 S (rdLink c (ρ, T)).2 S') := by
  refine GM.start (own := RX1) (n := "acceptsLink") (d := "(I)Z") (by decide) rfl (Nat.le_of_ble_eq_true rfl) ?_
  intro X hX hR hXl
  subst hXl
  refine g_at rfl (lv2 := [(0, .ref (gw_ad w k)), (1, vI (c))]) rfl rfl rfl ?_
  obtain ⟨⟨r0a, r0b⟩, ⟨r3a, r3b⟩, ⟨r4a, r4b⟩, ⟨r5a, r5b⟩, ⟨r6a, r6b⟩, ⟨r7a, r7b⟩⟩ := id hO
  refine g_iload_n (pc := 0) hX 1 rfl dX1_acceptsLink_0 ?_
  refine g_bipush (pc := 1) hX (by decide) dX1_acceptsLink_1 ?_
  refine g_icmp_ne (pc := 3) (tgt := 20) hX (by first | assumption | exact inI_mk (by omega) (by omega)) (by first | assumption | exact inI_mk (by omega) (by omega)) dX1_acceptsLink_3 (by decide) (fun c_3 => ?_) (fun c_3 => ?_)
  · skip
    refine g_iload_n (pc := 20) hX 1 rfl dX1_acceptsLink_20 ?_
    refine g_bipush (pc := 21) hX (by decide) dX1_acceptsLink_21 ?_
    refine g_icmp_ne (pc := 23) (tgt := 51) hX (by first | assumption | exact inI_mk (by omega) (by omega)) (by first | assumption | exact inI_mk (by omega) (by omega)) dX1_acceptsLink_23 (by decide) (fun c_23 => ?_) (fun c_23 => ?_)
    · skip
      refine g_iload_n (pc := 51) hX 1 rfl dX1_acceptsLink_51 ?_
      refine g_bipush (pc := 52) hX (by decide) dX1_acceptsLink_52 ?_
      refine g_icmp_eq (pc := 54) (tgt := 63) hX (by first | assumption | exact inI_mk (by omega) (by omega)) (by first | assumption | exact inI_mk (by omega) (by omega)) dX1_acceptsLink_54 (by decide) (fun c_54 => ?_) (fun c_54 => ?_)
      · skip
        refine g_aload_n (pc := 63) hX 0 rfl dX1_acceptsLink_63 ?_
        refine g_iconst (pc := 64) hX dX1_acceptsLink_64 ?_
        refine g_put (pc := 65) hX (ci := 1) (fun _ h => List.mem_cons_of_mem _ (List.mem_append_right _ h)) rfl tyX1 tyX1_ok nmX1 k hk ek 5 (by decide) (List.mem_of_getElem? (i := 2) rfl) rfl rfl (tyX1_ok 5 (by decide)) rfl (fit_int _) (Nat.le_of_ble_eq_true rfl) dX1_acceptsLink_65 ?_
        refine g_at rfl rfl rfl (S2 := (va_up S k (.inr (1, [.ref (gw_ad w k1), vI (ρ 0), vI (ρ 1), vI (ρ 2), vI (ρ 3), vI (0), vI (ρ 5), vI (ρ 6), vI (ρ 7)])))) rfl ?_
        refine g_goto (pc := 68) (tgt := 73) hX dX1_acceptsLink_68 (by decide) ?_
        refine g_aload_n (pc := 73) hX 0 rfl dX1_acceptsLink_73 ?_
        refine g_iload_n (pc := 74) hX 1 rfl dX1_acceptsLink_74 ?_
        refine g_ineg (pc := 75) hX dX1_acceptsLink_75 ?_
        refine g_callV0 (pc := 76) (ci := 1) (As := [vI (-(c))]) (st2 := []) hX k hk (up_eq _ _ _) rfl (c_X1_addToken (ρ := updZ ρ 4 0) (T := T) hk hk1 (up_eq _ _ _) (up_ne (Ne.symm nkk) ek1) nkk (t := -(c)) ⟨r0a, r0b⟩) gX1_acceptsLink_X1_addToken (n := 1) (hw := rfl) (hrc := rfl) (hrs := rfl) (hd := by decide +kernel) (hR := ⟨Nat.le_of_ble_eq_true rfl, Nat.le_of_ble_eq_true rfl⟩) (hn := rfl) (hst := rfl) (hsum := Nat.le_of_ble_eq_true rfl) (hdg := dX1_acceptsLink_76) ?_
        rintro S76 ⟨hf76, ga76, gb76⟩
        refine g_at (pc2 := 79) rfl rfl (st2 := []) rfl (S2 := S76) rfl ?_
        refine g_iconst (pc := 79) hX dX1_acceptsLink_79 ?_
        refine g_at rfl rfl (st2 := [vI (bz true)]) rfl rfl ?_
        refine g_zret (pc := 80) hX hR dX1_acceptsLink_80 ?_
        have hq : rdLink c (ρ, T) = (true, tokS (-c) (updZ ρ 4 0, T)) := by unfold rdLink; rw [if_neg (fun z => by have z2 : ρ 5 = 0 := z.2; omega), if_neg (fun z => by have z2 : 0 < ρ 5 := z.2; omega), if_pos (by omega)]
        rw [hq]
        exact ⟨rfl, ⟨(fun q a0 a1 => ((hf76 q a0 a1).trans (up_ne a1 rfl))), ga76, gb76⟩⟩
      · skip
        refine g_iload_n (pc := 57) hX 1 rfl dX1_acceptsLink_57 ?_
        refine g_bipush (pc := 58) hX (by decide) dX1_acceptsLink_58 ?_
        refine g_icmp_ne (pc := 60) (tgt := 71) hX (by first | assumption | exact inI_mk (by omega) (by omega)) (by first | assumption | exact inI_mk (by omega) (by omega)) dX1_acceptsLink_60 (by decide) (fun c_60 => ?_) (fun c_60 => ?_)
        · skip
          refine g_iconst (pc := 71) hX dX1_acceptsLink_71 ?_
          refine g_at rfl rfl (st2 := [vI (bz false)]) rfl rfl ?_
          refine g_zret (pc := 72) hX hR dX1_acceptsLink_72 ?_
          have hq : rdLink c (ρ, T) = (false, (ρ, T)) := by unfold rdLink; rw [if_neg (fun z => by have z2 : ρ 5 = 0 := z.2; omega), if_neg (fun z => by have z2 : 0 < ρ 5 := z.2; omega), if_neg (by omega)]
          rw [hq]
          exact ⟨rfl, ⟨(fun q a0 a1 => rfl), ek, ek1⟩⟩
        · skip
          refine g_aload_n (pc := 63) hX 0 rfl dX1_acceptsLink_63 ?_
          refine g_iconst (pc := 64) hX dX1_acceptsLink_64 ?_
          refine g_put (pc := 65) hX (ci := 1) (fun _ h => List.mem_cons_of_mem _ (List.mem_append_right _ h)) rfl tyX1 tyX1_ok nmX1 k hk ek 5 (by decide) (List.mem_of_getElem? (i := 2) rfl) rfl rfl (tyX1_ok 5 (by decide)) rfl (fit_int _) (Nat.le_of_ble_eq_true rfl) dX1_acceptsLink_65 ?_
          refine g_at rfl rfl rfl (S2 := (va_up S k (.inr (1, [.ref (gw_ad w k1), vI (ρ 0), vI (ρ 1), vI (ρ 2), vI (ρ 3), vI (0), vI (ρ 5), vI (ρ 6), vI (ρ 7)])))) rfl ?_
          refine g_goto (pc := 68) (tgt := 73) hX dX1_acceptsLink_68 (by decide) ?_
          refine g_aload_n (pc := 73) hX 0 rfl dX1_acceptsLink_73 ?_
          refine g_iload_n (pc := 74) hX 1 rfl dX1_acceptsLink_74 ?_
          refine g_ineg (pc := 75) hX dX1_acceptsLink_75 ?_
          refine g_callV0 (pc := 76) (ci := 1) (As := [vI (-(c))]) (st2 := []) hX k hk (up_eq _ _ _) rfl (c_X1_addToken (ρ := updZ ρ 4 0) (T := T) hk hk1 (up_eq _ _ _) (up_ne (Ne.symm nkk) ek1) nkk (t := -(c)) ⟨r0a, r0b⟩) gX1_acceptsLink_X1_addToken (n := 1) (hw := rfl) (hrc := rfl) (hrs := rfl) (hd := by decide +kernel) (hR := ⟨Nat.le_of_ble_eq_true rfl, Nat.le_of_ble_eq_true rfl⟩) (hn := rfl) (hst := rfl) (hsum := Nat.le_of_ble_eq_true rfl) (hdg := dX1_acceptsLink_76) ?_
          rintro S76 ⟨hf76, ga76, gb76⟩
          refine g_at (pc2 := 79) rfl rfl (st2 := []) rfl (S2 := S76) rfl ?_
          refine g_iconst (pc := 79) hX dX1_acceptsLink_79 ?_
          refine g_at rfl rfl (st2 := [vI (bz true)]) rfl rfl ?_
          refine g_zret (pc := 80) hX hR dX1_acceptsLink_80 ?_
          have hq : rdLink c (ρ, T) = (true, tokS (-c) (updZ ρ 4 0, T)) := by unfold rdLink; rw [if_neg (fun z => by have z2 : ρ 5 = 0 := z.2; omega), if_neg (fun z => by have z2 : 0 < ρ 5 := z.2; omega), if_pos (by omega)]
          rw [hq]
          exact ⟨rfl, ⟨(fun q a0 a1 => ((hf76 q a0 a1).trans (up_ne a1 rfl))), ga76, gb76⟩⟩
    · skip
      refine g_aload_n (pc := 26) hX 0 rfl dX1_acceptsLink_26 ?_
      refine g_get (pc := 27) hX (ci := 1) (fun _ h => List.mem_cons_of_mem _ (List.mem_append_right _ h)) rfl k hk ek 6 (by decide) (List.mem_of_getElem? (i := 1) rfl) rfl (v := vI (ρ 5)) rfl dX1_acceptsLink_27 ?_
      refine g_if_le (pc := 30) (tgt := 51) hX (by first | assumption | exact inI_mk (by omega) (by omega)) dX1_acceptsLink_30 (by decide) (fun c_30 => ?_) (fun c_30 => ?_)
      · skip
        refine g_iload_n (pc := 51) hX 1 rfl dX1_acceptsLink_51 ?_
        refine g_bipush (pc := 52) hX (by decide) dX1_acceptsLink_52 ?_
        refine g_icmp_eq (pc := 54) (tgt := 63) hX (by first | assumption | exact inI_mk (by omega) (by omega)) (by first | assumption | exact inI_mk (by omega) (by omega)) dX1_acceptsLink_54 (by decide) (fun c_54 => ?_) (fun c_54 => ?_)
        · skip
          refine g_aload_n (pc := 63) hX 0 rfl dX1_acceptsLink_63 ?_
          refine g_iconst (pc := 64) hX dX1_acceptsLink_64 ?_
          refine g_put (pc := 65) hX (ci := 1) (fun _ h => List.mem_cons_of_mem _ (List.mem_append_right _ h)) rfl tyX1 tyX1_ok nmX1 k hk ek 5 (by decide) (List.mem_of_getElem? (i := 2) rfl) rfl rfl (tyX1_ok 5 (by decide)) rfl (fit_int _) (Nat.le_of_ble_eq_true rfl) dX1_acceptsLink_65 ?_
          refine g_at rfl rfl rfl (S2 := (va_up S k (.inr (1, [.ref (gw_ad w k1), vI (ρ 0), vI (ρ 1), vI (ρ 2), vI (ρ 3), vI (0), vI (ρ 5), vI (ρ 6), vI (ρ 7)])))) rfl ?_
          refine g_goto (pc := 68) (tgt := 73) hX dX1_acceptsLink_68 (by decide) ?_
          refine g_aload_n (pc := 73) hX 0 rfl dX1_acceptsLink_73 ?_
          refine g_iload_n (pc := 74) hX 1 rfl dX1_acceptsLink_74 ?_
          refine g_ineg (pc := 75) hX dX1_acceptsLink_75 ?_
          refine g_callV0 (pc := 76) (ci := 1) (As := [vI (-(c))]) (st2 := []) hX k hk (up_eq _ _ _) rfl (c_X1_addToken (ρ := updZ ρ 4 0) (T := T) hk hk1 (up_eq _ _ _) (up_ne (Ne.symm nkk) ek1) nkk (t := -(c)) ⟨r0a, r0b⟩) gX1_acceptsLink_X1_addToken (n := 1) (hw := rfl) (hrc := rfl) (hrs := rfl) (hd := by decide +kernel) (hR := ⟨Nat.le_of_ble_eq_true rfl, Nat.le_of_ble_eq_true rfl⟩) (hn := rfl) (hst := rfl) (hsum := Nat.le_of_ble_eq_true rfl) (hdg := dX1_acceptsLink_76) ?_
          rintro S76 ⟨hf76, ga76, gb76⟩
          refine g_at (pc2 := 79) rfl rfl (st2 := []) rfl (S2 := S76) rfl ?_
          refine g_iconst (pc := 79) hX dX1_acceptsLink_79 ?_
          refine g_at rfl rfl (st2 := [vI (bz true)]) rfl rfl ?_
          refine g_zret (pc := 80) hX hR dX1_acceptsLink_80 ?_
          have hq : rdLink c (ρ, T) = (true, tokS (-c) (updZ ρ 4 0, T)) := by unfold rdLink; rw [if_neg (fun z => by have z2 : ρ 5 = 0 := z.2; omega), if_neg (fun z => by have z2 : 0 < ρ 5 := z.2; omega), if_pos (by omega)]
          rw [hq]
          exact ⟨rfl, ⟨(fun q a0 a1 => ((hf76 q a0 a1).trans (up_ne a1 rfl))), ga76, gb76⟩⟩
        · skip
          refine g_iload_n (pc := 57) hX 1 rfl dX1_acceptsLink_57 ?_
          refine g_bipush (pc := 58) hX (by decide) dX1_acceptsLink_58 ?_
          refine g_icmp_ne (pc := 60) (tgt := 71) hX (by first | assumption | exact inI_mk (by omega) (by omega)) (by first | assumption | exact inI_mk (by omega) (by omega)) dX1_acceptsLink_60 (by decide) (fun c_60 => ?_) (fun c_60 => ?_)
          · skip
            refine g_iconst (pc := 71) hX dX1_acceptsLink_71 ?_
            refine g_at rfl rfl (st2 := [vI (bz false)]) rfl rfl ?_
            refine g_zret (pc := 72) hX hR dX1_acceptsLink_72 ?_
            have hq : rdLink c (ρ, T) = (false, (ρ, T)) := by unfold rdLink; rw [if_neg (fun z => by have z2 : ρ 5 = 0 := z.2; omega), if_neg (fun z => by have z2 : 0 < ρ 5 := z.2; omega), if_neg (by omega)]
            rw [hq]
            exact ⟨rfl, ⟨(fun q a0 a1 => rfl), ek, ek1⟩⟩
          · skip
            refine g_aload_n (pc := 63) hX 0 rfl dX1_acceptsLink_63 ?_
            refine g_iconst (pc := 64) hX dX1_acceptsLink_64 ?_
            refine g_put (pc := 65) hX (ci := 1) (fun _ h => List.mem_cons_of_mem _ (List.mem_append_right _ h)) rfl tyX1 tyX1_ok nmX1 k hk ek 5 (by decide) (List.mem_of_getElem? (i := 2) rfl) rfl rfl (tyX1_ok 5 (by decide)) rfl (fit_int _) (Nat.le_of_ble_eq_true rfl) dX1_acceptsLink_65 ?_
            refine g_at rfl rfl rfl (S2 := (va_up S k (.inr (1, [.ref (gw_ad w k1), vI (ρ 0), vI (ρ 1), vI (ρ 2), vI (ρ 3), vI (0), vI (ρ 5), vI (ρ 6), vI (ρ 7)])))) rfl ?_
            refine g_goto (pc := 68) (tgt := 73) hX dX1_acceptsLink_68 (by decide) ?_
            refine g_aload_n (pc := 73) hX 0 rfl dX1_acceptsLink_73 ?_
            refine g_iload_n (pc := 74) hX 1 rfl dX1_acceptsLink_74 ?_
            refine g_ineg (pc := 75) hX dX1_acceptsLink_75 ?_
            refine g_callV0 (pc := 76) (ci := 1) (As := [vI (-(c))]) (st2 := []) hX k hk (up_eq _ _ _) rfl (c_X1_addToken (ρ := updZ ρ 4 0) (T := T) hk hk1 (up_eq _ _ _) (up_ne (Ne.symm nkk) ek1) nkk (t := -(c)) ⟨r0a, r0b⟩) gX1_acceptsLink_X1_addToken (n := 1) (hw := rfl) (hrc := rfl) (hrs := rfl) (hd := by decide +kernel) (hR := ⟨Nat.le_of_ble_eq_true rfl, Nat.le_of_ble_eq_true rfl⟩) (hn := rfl) (hst := rfl) (hsum := Nat.le_of_ble_eq_true rfl) (hdg := dX1_acceptsLink_76) ?_
            rintro S76 ⟨hf76, ga76, gb76⟩
            refine g_at (pc2 := 79) rfl rfl (st2 := []) rfl (S2 := S76) rfl ?_
            refine g_iconst (pc := 79) hX dX1_acceptsLink_79 ?_
            refine g_at rfl rfl (st2 := [vI (bz true)]) rfl rfl ?_
            refine g_zret (pc := 80) hX hR dX1_acceptsLink_80 ?_
            have hq : rdLink c (ρ, T) = (true, tokS (-c) (updZ ρ 4 0, T)) := by unfold rdLink; rw [if_neg (fun z => by have z2 : ρ 5 = 0 := z.2; omega), if_neg (fun z => by have z2 : 0 < ρ 5 := z.2; omega), if_pos (by omega)]
            rw [hq]
            exact ⟨rfl, ⟨(fun q a0 a1 => ((hf76 q a0 a1).trans (up_ne a1 rfl))), ga76, gb76⟩⟩
      · skip
        refine g_aload_n (pc := 33) hX 0 rfl dX1_acceptsLink_33 ?_
        refine g_dup (pc := 34) hX rfl dX1_acceptsLink_34 ?_
        refine g_get (pc := 35) hX (ci := 1) (fun _ h => List.mem_cons_of_mem _ (List.mem_append_right _ h)) rfl k hk ek 6 (by decide) (List.mem_of_getElem? (i := 1) rfl) rfl (v := vI (ρ 5)) rfl dX1_acceptsLink_35 ?_
        refine g_iconst (pc := 38) hX dX1_acceptsLink_38 ?_
        refine g_isub (pc := 39) hX dX1_acceptsLink_39 ?_
        refine g_put (pc := 40) hX (ci := 1) (fun _ h => List.mem_cons_of_mem _ (List.mem_append_right _ h)) rfl tyX1 tyX1_ok nmX1 k hk ek 6 (by decide) (List.mem_of_getElem? (i := 1) rfl) rfl rfl (tyX1_ok 6 (by decide)) rfl (fit_int _) (Nat.le_of_ble_eq_true rfl) dX1_acceptsLink_40 ?_
        refine g_at rfl rfl rfl (S2 := (va_up S k (.inr (1, [.ref (gw_ad w k1), vI (ρ 0), vI (ρ 1), vI (ρ 2), vI (ρ 3), vI (ρ 4), vI ((ρ 5) - 1), vI (ρ 6), vI (ρ 7)])))) rfl ?_
        refine g_aload_n (pc := 43) hX 0 rfl dX1_acceptsLink_43 ?_
        refine g_iconst (pc := 44) hX dX1_acceptsLink_44 ?_
        refine g_put (pc := 45) hX (ci := 1) (fun _ h => List.mem_cons_of_mem _ (List.mem_append_right _ h)) rfl tyX1 tyX1_ok nmX1 k hk (up_eq _ _ _) 5 (by decide) (List.mem_of_getElem? (i := 2) rfl) rfl rfl (tyX1_ok 5 (by decide)) rfl (fit_int _) (Nat.le_of_ble_eq_true rfl) dX1_acceptsLink_45 ?_
        refine g_at rfl rfl rfl (S2 := (va_up (va_up S k (.inr (1, [.ref (gw_ad w k1), vI (ρ 0), vI (ρ 1), vI (ρ 2), vI (ρ 3), vI (ρ 4), vI ((ρ 5) - 1), vI (ρ 6), vI (ρ 7)]))) k (.inr (1, [.ref (gw_ad w k1), vI (ρ 0), vI (ρ 1), vI (ρ 2), vI (ρ 3), vI (3), vI ((ρ 5) - 1), vI (ρ 6), vI (ρ 7)])))) rfl ?_
        refine g_goto (pc := 48) (tgt := 73) hX dX1_acceptsLink_48 (by decide) ?_
        refine g_aload_n (pc := 73) hX 0 rfl dX1_acceptsLink_73 ?_
        refine g_iload_n (pc := 74) hX 1 rfl dX1_acceptsLink_74 ?_
        refine g_ineg (pc := 75) hX dX1_acceptsLink_75 ?_
        refine g_callV0 (pc := 76) (ci := 1) (As := [vI (-(c))]) (st2 := []) hX k hk (up_eq _ _ _) rfl (c_X1_addToken (ρ := updZ (updZ ρ 5 (ρ 5 - 1)) 4 3) (T := T) hk hk1 (up_eq _ _ _) (up_ne (Ne.symm nkk) (up_ne (Ne.symm nkk) ek1)) nkk (t := -(c)) ⟨r0a, r0b⟩) gX1_acceptsLink_X1_addToken (n := 1) (hw := rfl) (hrc := rfl) (hrs := rfl) (hd := by decide +kernel) (hR := ⟨Nat.le_of_ble_eq_true rfl, Nat.le_of_ble_eq_true rfl⟩) (hn := rfl) (hst := rfl) (hsum := Nat.le_of_ble_eq_true rfl) (hdg := dX1_acceptsLink_76) ?_
        rintro S76 ⟨hf76, ga76, gb76⟩
        refine g_at (pc2 := 79) rfl rfl (st2 := []) rfl (S2 := S76) rfl ?_
        refine g_iconst (pc := 79) hX dX1_acceptsLink_79 ?_
        refine g_at rfl rfl (st2 := [vI (bz true)]) rfl rfl ?_
        refine g_zret (pc := 80) hX hR dX1_acceptsLink_80 ?_
        have hq : rdLink c (ρ, T) = (true, tokS (-c) (updZ (updZ ρ 5 (ρ 5 - 1)) 4 3, T)) := by unfold rdLink; rw [if_neg (fun z => by have z2 : ρ 5 = 0 := z.2; omega), if_pos ⟨by omega, show 0 < ρ 5 by omega⟩]
        rw [hq]
        exact ⟨rfl, ⟨(fun q a0 a1 => ((hf76 q a0 a1).trans (up_ne a1 (up_ne a1 rfl)))), ga76, gb76⟩⟩
  · skip
    refine g_aload_n (pc := 6) hX 0 rfl dX1_acceptsLink_6 ?_
    refine g_get (pc := 7) hX (ci := 1) (fun _ h => List.mem_cons_of_mem _ (List.mem_append_right _ h)) rfl k hk ek 6 (by decide) (List.mem_of_getElem? (i := 1) rfl) rfl (v := vI (ρ 5)) rfl dX1_acceptsLink_7 ?_
    refine g_if_ne (pc := 10) (tgt := 20) hX (by first | assumption | exact inI_mk (by omega) (by omega)) dX1_acceptsLink_10 (by decide) (fun c_10 => ?_) (fun c_10 => ?_)
    · skip
      refine g_iload_n (pc := 20) hX 1 rfl dX1_acceptsLink_20 ?_
      refine g_bipush (pc := 21) hX (by decide) dX1_acceptsLink_21 ?_
      refine g_icmp_ne (pc := 23) (tgt := 51) hX (by first | assumption | exact inI_mk (by omega) (by omega)) (by first | assumption | exact inI_mk (by omega) (by omega)) dX1_acceptsLink_23 (by decide) (fun c_23 => ?_) (fun c_23 => ?_)
      · skip
        refine g_iload_n (pc := 51) hX 1 rfl dX1_acceptsLink_51 ?_
        refine g_bipush (pc := 52) hX (by decide) dX1_acceptsLink_52 ?_
        refine g_icmp_eq (pc := 54) (tgt := 63) hX (by first | assumption | exact inI_mk (by omega) (by omega)) (by first | assumption | exact inI_mk (by omega) (by omega)) dX1_acceptsLink_54 (by decide) (fun c_54 => ?_) (fun c_54 => ?_)
        · skip
          refine g_aload_n (pc := 63) hX 0 rfl dX1_acceptsLink_63 ?_
          refine g_iconst (pc := 64) hX dX1_acceptsLink_64 ?_
          refine g_put (pc := 65) hX (ci := 1) (fun _ h => List.mem_cons_of_mem _ (List.mem_append_right _ h)) rfl tyX1 tyX1_ok nmX1 k hk ek 5 (by decide) (List.mem_of_getElem? (i := 2) rfl) rfl rfl (tyX1_ok 5 (by decide)) rfl (fit_int _) (Nat.le_of_ble_eq_true rfl) dX1_acceptsLink_65 ?_
          refine g_at rfl rfl rfl (S2 := (va_up S k (.inr (1, [.ref (gw_ad w k1), vI (ρ 0), vI (ρ 1), vI (ρ 2), vI (ρ 3), vI (0), vI (ρ 5), vI (ρ 6), vI (ρ 7)])))) rfl ?_
          refine g_goto (pc := 68) (tgt := 73) hX dX1_acceptsLink_68 (by decide) ?_
          refine g_aload_n (pc := 73) hX 0 rfl dX1_acceptsLink_73 ?_
          refine g_iload_n (pc := 74) hX 1 rfl dX1_acceptsLink_74 ?_
          refine g_ineg (pc := 75) hX dX1_acceptsLink_75 ?_
          refine g_callV0 (pc := 76) (ci := 1) (As := [vI (-(c))]) (st2 := []) hX k hk (up_eq _ _ _) rfl (c_X1_addToken (ρ := updZ ρ 4 0) (T := T) hk hk1 (up_eq _ _ _) (up_ne (Ne.symm nkk) ek1) nkk (t := -(c)) ⟨r0a, r0b⟩) gX1_acceptsLink_X1_addToken (n := 1) (hw := rfl) (hrc := rfl) (hrs := rfl) (hd := by decide +kernel) (hR := ⟨Nat.le_of_ble_eq_true rfl, Nat.le_of_ble_eq_true rfl⟩) (hn := rfl) (hst := rfl) (hsum := Nat.le_of_ble_eq_true rfl) (hdg := dX1_acceptsLink_76) ?_
          rintro S76 ⟨hf76, ga76, gb76⟩
          refine g_at (pc2 := 79) rfl rfl (st2 := []) rfl (S2 := S76) rfl ?_
          refine g_iconst (pc := 79) hX dX1_acceptsLink_79 ?_
          refine g_at rfl rfl (st2 := [vI (bz true)]) rfl rfl ?_
          refine g_zret (pc := 80) hX hR dX1_acceptsLink_80 ?_
          have hq : rdLink c (ρ, T) = (true, tokS (-c) (updZ ρ 4 0, T)) := by unfold rdLink; rw [if_neg (fun z => by have z2 : ρ 5 = 0 := z.2; omega), if_neg (fun z => by have z2 : 0 < ρ 5 := z.2; omega), if_pos (by omega)]
          rw [hq]
          exact ⟨rfl, ⟨(fun q a0 a1 => ((hf76 q a0 a1).trans (up_ne a1 rfl))), ga76, gb76⟩⟩
        · skip
          refine g_iload_n (pc := 57) hX 1 rfl dX1_acceptsLink_57 ?_
          refine g_bipush (pc := 58) hX (by decide) dX1_acceptsLink_58 ?_
          refine g_icmp_ne (pc := 60) (tgt := 71) hX (by first | assumption | exact inI_mk (by omega) (by omega)) (by first | assumption | exact inI_mk (by omega) (by omega)) dX1_acceptsLink_60 (by decide) (fun c_60 => ?_) (fun c_60 => ?_)
          · skip
            refine g_iconst (pc := 71) hX dX1_acceptsLink_71 ?_
            refine g_at rfl rfl (st2 := [vI (bz false)]) rfl rfl ?_
            refine g_zret (pc := 72) hX hR dX1_acceptsLink_72 ?_
            have hq : rdLink c (ρ, T) = (false, (ρ, T)) := by unfold rdLink; rw [if_neg (fun z => by have z2 : ρ 5 = 0 := z.2; omega), if_neg (fun z => by have z2 : 0 < ρ 5 := z.2; omega), if_neg (by omega)]
            rw [hq]
            exact ⟨rfl, ⟨(fun q a0 a1 => rfl), ek, ek1⟩⟩
          · skip
            refine g_aload_n (pc := 63) hX 0 rfl dX1_acceptsLink_63 ?_
            refine g_iconst (pc := 64) hX dX1_acceptsLink_64 ?_
            refine g_put (pc := 65) hX (ci := 1) (fun _ h => List.mem_cons_of_mem _ (List.mem_append_right _ h)) rfl tyX1 tyX1_ok nmX1 k hk ek 5 (by decide) (List.mem_of_getElem? (i := 2) rfl) rfl rfl (tyX1_ok 5 (by decide)) rfl (fit_int _) (Nat.le_of_ble_eq_true rfl) dX1_acceptsLink_65 ?_
            refine g_at rfl rfl rfl (S2 := (va_up S k (.inr (1, [.ref (gw_ad w k1), vI (ρ 0), vI (ρ 1), vI (ρ 2), vI (ρ 3), vI (0), vI (ρ 5), vI (ρ 6), vI (ρ 7)])))) rfl ?_
            refine g_goto (pc := 68) (tgt := 73) hX dX1_acceptsLink_68 (by decide) ?_
            refine g_aload_n (pc := 73) hX 0 rfl dX1_acceptsLink_73 ?_
            refine g_iload_n (pc := 74) hX 1 rfl dX1_acceptsLink_74 ?_
            refine g_ineg (pc := 75) hX dX1_acceptsLink_75 ?_
            refine g_callV0 (pc := 76) (ci := 1) (As := [vI (-(c))]) (st2 := []) hX k hk (up_eq _ _ _) rfl (c_X1_addToken (ρ := updZ ρ 4 0) (T := T) hk hk1 (up_eq _ _ _) (up_ne (Ne.symm nkk) ek1) nkk (t := -(c)) ⟨r0a, r0b⟩) gX1_acceptsLink_X1_addToken (n := 1) (hw := rfl) (hrc := rfl) (hrs := rfl) (hd := by decide +kernel) (hR := ⟨Nat.le_of_ble_eq_true rfl, Nat.le_of_ble_eq_true rfl⟩) (hn := rfl) (hst := rfl) (hsum := Nat.le_of_ble_eq_true rfl) (hdg := dX1_acceptsLink_76) ?_
            rintro S76 ⟨hf76, ga76, gb76⟩
            refine g_at (pc2 := 79) rfl rfl (st2 := []) rfl (S2 := S76) rfl ?_
            refine g_iconst (pc := 79) hX dX1_acceptsLink_79 ?_
            refine g_at rfl rfl (st2 := [vI (bz true)]) rfl rfl ?_
            refine g_zret (pc := 80) hX hR dX1_acceptsLink_80 ?_
            have hq : rdLink c (ρ, T) = (true, tokS (-c) (updZ ρ 4 0, T)) := by unfold rdLink; rw [if_neg (fun z => by have z2 : ρ 5 = 0 := z.2; omega), if_neg (fun z => by have z2 : 0 < ρ 5 := z.2; omega), if_pos (by omega)]
            rw [hq]
            exact ⟨rfl, ⟨(fun q a0 a1 => ((hf76 q a0 a1).trans (up_ne a1 rfl))), ga76, gb76⟩⟩
      · skip
        refine g_aload_n (pc := 26) hX 0 rfl dX1_acceptsLink_26 ?_
        refine g_get (pc := 27) hX (ci := 1) (fun _ h => List.mem_cons_of_mem _ (List.mem_append_right _ h)) rfl k hk ek 6 (by decide) (List.mem_of_getElem? (i := 1) rfl) rfl (v := vI (ρ 5)) rfl dX1_acceptsLink_27 ?_
        refine g_if_le (pc := 30) (tgt := 51) hX (by first | assumption | exact inI_mk (by omega) (by omega)) dX1_acceptsLink_30 (by decide) (fun c_30 => ?_) (fun c_30 => ?_)
        · skip
          refine g_iload_n (pc := 51) hX 1 rfl dX1_acceptsLink_51 ?_
          refine g_bipush (pc := 52) hX (by decide) dX1_acceptsLink_52 ?_
          refine g_icmp_eq (pc := 54) (tgt := 63) hX (by first | assumption | exact inI_mk (by omega) (by omega)) (by first | assumption | exact inI_mk (by omega) (by omega)) dX1_acceptsLink_54 (by decide) (fun c_54 => ?_) (fun c_54 => ?_)
          · skip
            refine g_aload_n (pc := 63) hX 0 rfl dX1_acceptsLink_63 ?_
            refine g_iconst (pc := 64) hX dX1_acceptsLink_64 ?_
            refine g_put (pc := 65) hX (ci := 1) (fun _ h => List.mem_cons_of_mem _ (List.mem_append_right _ h)) rfl tyX1 tyX1_ok nmX1 k hk ek 5 (by decide) (List.mem_of_getElem? (i := 2) rfl) rfl rfl (tyX1_ok 5 (by decide)) rfl (fit_int _) (Nat.le_of_ble_eq_true rfl) dX1_acceptsLink_65 ?_
            refine g_at rfl rfl rfl (S2 := (va_up S k (.inr (1, [.ref (gw_ad w k1), vI (ρ 0), vI (ρ 1), vI (ρ 2), vI (ρ 3), vI (0), vI (ρ 5), vI (ρ 6), vI (ρ 7)])))) rfl ?_
            refine g_goto (pc := 68) (tgt := 73) hX dX1_acceptsLink_68 (by decide) ?_
            refine g_aload_n (pc := 73) hX 0 rfl dX1_acceptsLink_73 ?_
            refine g_iload_n (pc := 74) hX 1 rfl dX1_acceptsLink_74 ?_
            refine g_ineg (pc := 75) hX dX1_acceptsLink_75 ?_
            refine g_callV0 (pc := 76) (ci := 1) (As := [vI (-(c))]) (st2 := []) hX k hk (up_eq _ _ _) rfl (c_X1_addToken (ρ := updZ ρ 4 0) (T := T) hk hk1 (up_eq _ _ _) (up_ne (Ne.symm nkk) ek1) nkk (t := -(c)) ⟨r0a, r0b⟩) gX1_acceptsLink_X1_addToken (n := 1) (hw := rfl) (hrc := rfl) (hrs := rfl) (hd := by decide +kernel) (hR := ⟨Nat.le_of_ble_eq_true rfl, Nat.le_of_ble_eq_true rfl⟩) (hn := rfl) (hst := rfl) (hsum := Nat.le_of_ble_eq_true rfl) (hdg := dX1_acceptsLink_76) ?_
            rintro S76 ⟨hf76, ga76, gb76⟩
            refine g_at (pc2 := 79) rfl rfl (st2 := []) rfl (S2 := S76) rfl ?_
            refine g_iconst (pc := 79) hX dX1_acceptsLink_79 ?_
            refine g_at rfl rfl (st2 := [vI (bz true)]) rfl rfl ?_
            refine g_zret (pc := 80) hX hR dX1_acceptsLink_80 ?_
            have hq : rdLink c (ρ, T) = (true, tokS (-c) (updZ ρ 4 0, T)) := by unfold rdLink; rw [if_neg (fun z => by have z2 : ρ 5 = 0 := z.2; omega), if_neg (fun z => by have z2 : 0 < ρ 5 := z.2; omega), if_pos (by omega)]
            rw [hq]
            exact ⟨rfl, ⟨(fun q a0 a1 => ((hf76 q a0 a1).trans (up_ne a1 rfl))), ga76, gb76⟩⟩
          · skip
            refine g_iload_n (pc := 57) hX 1 rfl dX1_acceptsLink_57 ?_
            refine g_bipush (pc := 58) hX (by decide) dX1_acceptsLink_58 ?_
            refine g_icmp_ne (pc := 60) (tgt := 71) hX (by first | assumption | exact inI_mk (by omega) (by omega)) (by first | assumption | exact inI_mk (by omega) (by omega)) dX1_acceptsLink_60 (by decide) (fun c_60 => ?_) (fun c_60 => ?_)
            · skip
              refine g_iconst (pc := 71) hX dX1_acceptsLink_71 ?_
              refine g_at rfl rfl (st2 := [vI (bz false)]) rfl rfl ?_
              refine g_zret (pc := 72) hX hR dX1_acceptsLink_72 ?_
              have hq : rdLink c (ρ, T) = (false, (ρ, T)) := by unfold rdLink; rw [if_neg (fun z => by have z2 : ρ 5 = 0 := z.2; omega), if_neg (fun z => by have z2 : 0 < ρ 5 := z.2; omega), if_neg (by omega)]
              rw [hq]
              exact ⟨rfl, ⟨(fun q a0 a1 => rfl), ek, ek1⟩⟩
            · skip
              refine g_aload_n (pc := 63) hX 0 rfl dX1_acceptsLink_63 ?_
              refine g_iconst (pc := 64) hX dX1_acceptsLink_64 ?_
              refine g_put (pc := 65) hX (ci := 1) (fun _ h => List.mem_cons_of_mem _ (List.mem_append_right _ h)) rfl tyX1 tyX1_ok nmX1 k hk ek 5 (by decide) (List.mem_of_getElem? (i := 2) rfl) rfl rfl (tyX1_ok 5 (by decide)) rfl (fit_int _) (Nat.le_of_ble_eq_true rfl) dX1_acceptsLink_65 ?_
              refine g_at rfl rfl rfl (S2 := (va_up S k (.inr (1, [.ref (gw_ad w k1), vI (ρ 0), vI (ρ 1), vI (ρ 2), vI (ρ 3), vI (0), vI (ρ 5), vI (ρ 6), vI (ρ 7)])))) rfl ?_
              refine g_goto (pc := 68) (tgt := 73) hX dX1_acceptsLink_68 (by decide) ?_
              refine g_aload_n (pc := 73) hX 0 rfl dX1_acceptsLink_73 ?_
              refine g_iload_n (pc := 74) hX 1 rfl dX1_acceptsLink_74 ?_
              refine g_ineg (pc := 75) hX dX1_acceptsLink_75 ?_
              refine g_callV0 (pc := 76) (ci := 1) (As := [vI (-(c))]) (st2 := []) hX k hk (up_eq _ _ _) rfl (c_X1_addToken (ρ := updZ ρ 4 0) (T := T) hk hk1 (up_eq _ _ _) (up_ne (Ne.symm nkk) ek1) nkk (t := -(c)) ⟨r0a, r0b⟩) gX1_acceptsLink_X1_addToken (n := 1) (hw := rfl) (hrc := rfl) (hrs := rfl) (hd := by decide +kernel) (hR := ⟨Nat.le_of_ble_eq_true rfl, Nat.le_of_ble_eq_true rfl⟩) (hn := rfl) (hst := rfl) (hsum := Nat.le_of_ble_eq_true rfl) (hdg := dX1_acceptsLink_76) ?_
              rintro S76 ⟨hf76, ga76, gb76⟩
              refine g_at (pc2 := 79) rfl rfl (st2 := []) rfl (S2 := S76) rfl ?_
              refine g_iconst (pc := 79) hX dX1_acceptsLink_79 ?_
              refine g_at rfl rfl (st2 := [vI (bz true)]) rfl rfl ?_
              refine g_zret (pc := 80) hX hR dX1_acceptsLink_80 ?_
              have hq : rdLink c (ρ, T) = (true, tokS (-c) (updZ ρ 4 0, T)) := by unfold rdLink; rw [if_neg (fun z => by have z2 : ρ 5 = 0 := z.2; omega), if_neg (fun z => by have z2 : 0 < ρ 5 := z.2; omega), if_pos (by omega)]
              rw [hq]
              exact ⟨rfl, ⟨(fun q a0 a1 => ((hf76 q a0 a1).trans (up_ne a1 rfl))), ga76, gb76⟩⟩
        · skip
          refine g_aload_n (pc := 33) hX 0 rfl dX1_acceptsLink_33 ?_
          refine g_dup (pc := 34) hX rfl dX1_acceptsLink_34 ?_
          refine g_get (pc := 35) hX (ci := 1) (fun _ h => List.mem_cons_of_mem _ (List.mem_append_right _ h)) rfl k hk ek 6 (by decide) (List.mem_of_getElem? (i := 1) rfl) rfl (v := vI (ρ 5)) rfl dX1_acceptsLink_35 ?_
          refine g_iconst (pc := 38) hX dX1_acceptsLink_38 ?_
          refine g_isub (pc := 39) hX dX1_acceptsLink_39 ?_
          refine g_put (pc := 40) hX (ci := 1) (fun _ h => List.mem_cons_of_mem _ (List.mem_append_right _ h)) rfl tyX1 tyX1_ok nmX1 k hk ek 6 (by decide) (List.mem_of_getElem? (i := 1) rfl) rfl rfl (tyX1_ok 6 (by decide)) rfl (fit_int _) (Nat.le_of_ble_eq_true rfl) dX1_acceptsLink_40 ?_
          refine g_at rfl rfl rfl (S2 := (va_up S k (.inr (1, [.ref (gw_ad w k1), vI (ρ 0), vI (ρ 1), vI (ρ 2), vI (ρ 3), vI (ρ 4), vI ((ρ 5) - 1), vI (ρ 6), vI (ρ 7)])))) rfl ?_
          refine g_aload_n (pc := 43) hX 0 rfl dX1_acceptsLink_43 ?_
          refine g_iconst (pc := 44) hX dX1_acceptsLink_44 ?_
          refine g_put (pc := 45) hX (ci := 1) (fun _ h => List.mem_cons_of_mem _ (List.mem_append_right _ h)) rfl tyX1 tyX1_ok nmX1 k hk (up_eq _ _ _) 5 (by decide) (List.mem_of_getElem? (i := 2) rfl) rfl rfl (tyX1_ok 5 (by decide)) rfl (fit_int _) (Nat.le_of_ble_eq_true rfl) dX1_acceptsLink_45 ?_
          refine g_at rfl rfl rfl (S2 := (va_up (va_up S k (.inr (1, [.ref (gw_ad w k1), vI (ρ 0), vI (ρ 1), vI (ρ 2), vI (ρ 3), vI (ρ 4), vI ((ρ 5) - 1), vI (ρ 6), vI (ρ 7)]))) k (.inr (1, [.ref (gw_ad w k1), vI (ρ 0), vI (ρ 1), vI (ρ 2), vI (ρ 3), vI (3), vI ((ρ 5) - 1), vI (ρ 6), vI (ρ 7)])))) rfl ?_
          refine g_goto (pc := 48) (tgt := 73) hX dX1_acceptsLink_48 (by decide) ?_
          refine g_aload_n (pc := 73) hX 0 rfl dX1_acceptsLink_73 ?_
          refine g_iload_n (pc := 74) hX 1 rfl dX1_acceptsLink_74 ?_
          refine g_ineg (pc := 75) hX dX1_acceptsLink_75 ?_
          refine g_callV0 (pc := 76) (ci := 1) (As := [vI (-(c))]) (st2 := []) hX k hk (up_eq _ _ _) rfl (c_X1_addToken (ρ := updZ (updZ ρ 5 (ρ 5 - 1)) 4 3) (T := T) hk hk1 (up_eq _ _ _) (up_ne (Ne.symm nkk) (up_ne (Ne.symm nkk) ek1)) nkk (t := -(c)) ⟨r0a, r0b⟩) gX1_acceptsLink_X1_addToken (n := 1) (hw := rfl) (hrc := rfl) (hrs := rfl) (hd := by decide +kernel) (hR := ⟨Nat.le_of_ble_eq_true rfl, Nat.le_of_ble_eq_true rfl⟩) (hn := rfl) (hst := rfl) (hsum := Nat.le_of_ble_eq_true rfl) (hdg := dX1_acceptsLink_76) ?_
          rintro S76 ⟨hf76, ga76, gb76⟩
          refine g_at (pc2 := 79) rfl rfl (st2 := []) rfl (S2 := S76) rfl ?_
          refine g_iconst (pc := 79) hX dX1_acceptsLink_79 ?_
          refine g_at rfl rfl (st2 := [vI (bz true)]) rfl rfl ?_
          refine g_zret (pc := 80) hX hR dX1_acceptsLink_80 ?_
          have hq : rdLink c (ρ, T) = (true, tokS (-c) (updZ (updZ ρ 5 (ρ 5 - 1)) 4 3, T)) := by unfold rdLink; rw [if_neg (fun z => by have z2 : ρ 5 = 0 := z.2; omega), if_pos ⟨by omega, show 0 < ρ 5 by omega⟩]
          rw [hq]
          exact ⟨rfl, ⟨(fun q a0 a1 => ((hf76 q a0 a1).trans (up_ne a1 (up_ne a1 rfl)))), ga76, gb76⟩⟩
    · skip
      refine g_aload_n (pc := 13) hX 0 rfl dX1_acceptsLink_13 ?_
      refine g_iconst (pc := 14) hX dX1_acceptsLink_14 ?_
      refine g_put (pc := 15) hX (ci := 1) (fun _ h => List.mem_cons_of_mem _ (List.mem_append_right _ h)) rfl tyX1 tyX1_ok nmX1 k hk ek 5 (by decide) (List.mem_of_getElem? (i := 2) rfl) rfl rfl (tyX1_ok 5 (by decide)) rfl (fit_int _) (Nat.le_of_ble_eq_true rfl) dX1_acceptsLink_15 ?_
      refine g_at rfl rfl rfl (S2 := (va_up S k (.inr (1, [.ref (gw_ad w k1), vI (ρ 0), vI (ρ 1), vI (ρ 2), vI (ρ 3), vI (4), vI (ρ 5), vI (ρ 6), vI (ρ 7)])))) rfl ?_
      refine g_iconst (pc := 18) hX dX1_acceptsLink_18 ?_
      refine g_at rfl rfl (st2 := [vI (bz true)]) rfl rfl ?_
      refine g_zret (pc := 19) hX hR dX1_acceptsLink_19 ?_
      have hq : rdLink c (ρ, T) = (true, (updZ ρ 4 4, T)) := by unfold rdLink; rw [if_pos ⟨by omega, show ρ 5 = 0 by omega⟩]
      rw [hq]
      exact ⟨rfl, ⟨(fun q a0 a1 => (up_ne a1 rfl)), (up_eq _ _ _), (up_ne (Ne.symm nkk) ek1)⟩⟩

set_option maxHeartbeats 4000000 in
set_option maxRecDepth 100000 in
theorem c_X1_acceptsLinkBehindNumber {w : gW} {l : Launch} {S : Nat → va_E} {k k1 : Nat} {ρ T : Int → Int} (hk : k < gw_N w) (hk1 : k1 < gw_N w) (ek : S k = OR_ w k1 ρ) (ek1 : S k1 = AI w 60 T) (nkk : k ≠ k1) {c : Int} (h0 : 0 ≤ c) (h1 : c < 128) {n : Int} (hO : rdOK n ρ) (hn : n ≤ 100) :
    GM1 w l yX1_acceptsLinkBehindNumber wsX1_acceptsLinkBehindNumber { frames := 3, cells := 0, slots := 0, locals := 63 } [.ref (gw_ad w k), vI (c)] S
      (fun v S' => v = vI (bz (rdLBN c (ρ, T)).1) ∧ RDW w k k1 S (rdLBN c (ρ, T)).2 S') := by
  refine GM.start (own := RX1) (n := "acceptsLinkBehindNumber") (d := "(I)Z") (by decide) rfl (Nat.le_of_ble_eq_true rfl) ?_
  intro X hX hR hXl
  subst hXl
  refine g_at rfl (lv2 := [(0, .ref (gw_ad w k)), (1, vI (c))]) rfl rfl rfl ?_
  obtain ⟨⟨r0a, r0b⟩, ⟨r3a, r3b⟩, ⟨r4a, r4b⟩, ⟨r5a, r5b⟩, ⟨r6a, r6b⟩, ⟨r7a, r7b⟩⟩ := id hO
  refine g_aload_n (pc := 0) hX 0 rfl dX1_acceptsLinkBehindNumber_0 ?_
  refine g_get (pc := 1) hX (ci := 1) (fun _ h => List.mem_cons_of_mem _ (List.mem_append_right _ h)) rfl k hk ek 4 (by decide) (List.mem_of_getElem? (i := 1) rfl) rfl (v := vI (ρ 3)) rfl dX1_acceptsLinkBehindNumber_1 ?_
  refine g_if_ne (pc := 4) (tgt := 9) hX (by first | assumption | exact inI_mk (by omega) (by omega)) dX1_acceptsLinkBehindNumber_4 (by decide) (fun c_4 => ?_) (fun c_4 => ?_)
  · skip
    refine g_aload_n (pc := 9) hX 0 rfl dX1_acceptsLinkBehindNumber_9 ?_
    refine g_aload_n (pc := 10) hX 0 rfl dX1_acceptsLinkBehindNumber_10 ?_
    refine g_get (pc := 11) hX (ci := 1) (fun _ h => List.mem_cons_of_mem _ (List.mem_append_right _ h)) rfl k hk ek 7 (by decide) (List.mem_of_getElem? (i := 2) rfl) rfl (v := vI (ρ 6)) rfl dX1_acceptsLinkBehindNumber_11 ?_
    refine g_iconst (pc := 14) hX dX1_acceptsLinkBehindNumber_14 ?_
    refine g_imul (pc := 15) hX dX1_acceptsLinkBehindNumber_15 ?_
    refine g_aload_n (pc := 16) hX 0 rfl dX1_acceptsLinkBehindNumber_16 ?_
    refine g_get (pc := 17) hX (ci := 1) (fun _ h => List.mem_cons_of_mem _ (List.mem_append_right _ h)) rfl k hk ek 8 (by decide) (List.mem_of_getElem? (i := 3) rfl) rfl (v := vI (ρ 7)) rfl dX1_acceptsLinkBehindNumber_17 ?_
    refine g_iadd (pc := 20) hX dX1_acceptsLinkBehindNumber_20 ?_
    refine g_ldc (pc := 21) hX (z := 100000) (List.mem_of_getElem? (i := 4) rfl) (by decide +kernel) dX1_acceptsLinkBehindNumber_21 ?_
    refine g_imul (pc := 23) hX dX1_acceptsLinkBehindNumber_23 ?_
    refine g_aload_n (pc := 24) hX 0 rfl dX1_acceptsLinkBehindNumber_24 ?_
    refine g_get (pc := 25) hX (ci := 1) (fun _ h => List.mem_cons_of_mem _ (List.mem_append_right _ h)) rfl k hk ek 3 (by decide) (List.mem_of_getElem? (i := 5) rfl) rfl (v := vI (ρ 2)) rfl dX1_acceptsLinkBehindNumber_25 ?_
    refine g_iadd (pc := 28) hX dX1_acceptsLinkBehindNumber_28 ?_
    refine g_callV0 (pc := 29) (ci := 1) (As := [vI (((((ρ 6) * 3) + (ρ 7)) * 100000) + (ρ 2))]) (st2 := []) hX k hk ek rfl (c_X1_addToken (ρ := ρ) (T := T) hk hk1 ek ek1 nkk (t := ((((ρ 6) * 3) + (ρ 7)) * 100000) + (ρ 2)) ⟨r0a, r0b⟩) gX1_acceptsLinkBehindNumber_X1_addToken (n := 1) (hw := rfl) (hrc := rfl) (hrs := rfl) (hd := by decide +kernel) (hR := ⟨Nat.le_of_ble_eq_true rfl, Nat.le_of_ble_eq_true rfl⟩) (hn := rfl) (hst := rfl) (hsum := Nat.le_of_ble_eq_true rfl) (hdg := dX1_acceptsLinkBehindNumber_29) ?_
    rintro S29 ⟨hf29, ga29, gb29⟩
    refine g_at (pc2 := 32) rfl rfl (st2 := []) rfl (S2 := S29) rfl ?_
    refine g_aload_n (pc := 32) hX 0 rfl dX1_acceptsLinkBehindNumber_32 ?_
    refine g_iload_n (pc := 33) hX 1 rfl dX1_acceptsLinkBehindNumber_33 ?_
    refine g_callV1 (pc := 34) (ci := 1) (As := [vI (c)]) (st2 := []) hX k hk ga29 rfl (c_X1_acceptsLink (ρ := (tokS ((ρ 6 * 3 + ρ 7) * 100000 + ρ 2) (ρ, T)).1) (T := (tokS ((ρ 6 * 3 + ρ 7) * 100000 + ρ 2) (ρ, T)).2) hk hk1 ga29 gb29 nkk (c := c) h0 h1 (rdOK_tok (s := (ρ, T)) hO) hn) gX1_acceptsLinkBehindNumber_X1_acceptsLink (n := 1) (hw := rfl) (hrc := rfl) (hrs := rfl) (hd := by decide +kernel) (hR := ⟨Nat.le_of_ble_eq_true rfl, Nat.le_of_ble_eq_true rfl⟩) (hn := rfl) (hst := rfl) (hsum := Nat.le_of_ble_eq_true rfl) (hdg := dX1_acceptsLinkBehindNumber_34) ?_
    rintro _ S34 ⟨rfl, hf34, ga34, gb34⟩
    refine g_at (pc2 := 37) rfl rfl (st2 := [vI (bz ((rdLink c (((tokS ((ρ 6 * 3 + ρ 7) * 100000 + ρ 2) (ρ, T)).1), ((tokS ((ρ 6 * 3 + ρ 7) * 100000 + ρ 2) (ρ, T)).2))).1))]) rfl (S2 := S34) rfl ?_
    refine g_zret (pc := 37) hX hR dX1_acceptsLinkBehindNumber_37 ?_
    have hq : rdLBN c (ρ, T) = rdLink c (tokS ((ρ 6 * 3 + ρ 7) * 100000 + ρ 2) (ρ, T)) := if_neg (show ¬ ρ 3 = 0 by omega)
    rw [hq]
    exact ⟨rfl, ⟨(fun q a0 a1 => ((hf34 q a0 a1).trans (hf29 q a0 a1))), ga34, gb34⟩⟩
  · skip
    refine g_iconst (pc := 7) hX dX1_acceptsLinkBehindNumber_7 ?_
    refine g_at rfl rfl (st2 := [vI (bz false)]) rfl rfl ?_
    refine g_zret (pc := 8) hX hR dX1_acceptsLinkBehindNumber_8 ?_
    have hq : rdLBN c (ρ, T) = (false, (ρ, T)) := if_pos (show ρ 3 = 0 by omega)
    rw [hq]
    exact ⟨rfl, ⟨(fun q a0 a1 => rfl), ek, ek1⟩⟩

set_option maxHeartbeats 4000000 in
set_option maxRecDepth 100000 in
theorem c_X1_acceptsChange {w : gW} {l : Launch} {S : Nat → va_E} {k k1 : Nat} {ρ T : Int → Int} (hk : k < gw_N w) (hk1 : k1 < gw_N w) (ek : S k = OR_ w k1 ρ) (ek1 : S k1 = AI w 60 T) (nkk : k ≠ k1) {c : Int} (h0 : 0 ≤ c) (h1 : c < 128) :
    GM1 w l yX1_acceptsChange wsX1_acceptsChange { frames := 1, cells := 0, slots := 0, locals := 21 } [.ref (gw_ad w k), vI (c)] S
      (fun v S' => v = vI (bz (rdChg c (ρ, T)).1) ∧ RDW w k k1 S (rdChg c (ρ, T)).2 S') := by
  refine GM.start (own := RX1) (n := "acceptsChange") (d := "(I)Z") (by decide) rfl (Nat.le_of_ble_eq_true rfl) ?_
  intro X hX hR hXl
  subst hXl
  refine g_at rfl (lv2 := [(0, .ref (gw_ad w k)), (1, vI (c))]) rfl rfl rfl ?_
  refine g_aload_n (pc := 0) hX 0 rfl dX1_acceptsChange_0 ?_
  refine g_iload_n (pc := 1) hX 1 rfl dX1_acceptsChange_1 ?_
  refine g_put (pc := 2) hX (ci := 1) (fun _ h => List.mem_cons_of_mem _ (List.mem_append_right _ h)) rfl tyX1 tyX1_ok nmX1 k hk ek 2 (by decide) (List.mem_of_getElem? (i := 1) rfl) rfl rfl (tyX1_ok 2 (by decide)) rfl (fit_int _) (Nat.le_of_ble_eq_true rfl) dX1_acceptsChange_2 ?_
  refine g_at rfl rfl rfl (S2 := (va_up S k (.inr (1, [.ref (gw_ad w k1), vI (ρ 0), vI (c), vI (ρ 2), vI (ρ 3), vI (ρ 4), vI (ρ 5), vI (ρ 6), vI (ρ 7)])))) rfl ?_
  refine g_aload_n (pc := 5) hX 0 rfl dX1_acceptsChange_5 ?_
  refine g_iconst (pc := 6) hX dX1_acceptsChange_6 ?_
  refine g_callV0 (pc := 7) (ci := 1) (As := [vI (5)]) (st2 := []) hX k hk (up_eq _ _ _) rfl (c_X1_startNumber (ρ := updZ ρ 1 c) (p := 5) hk hk1 (up_eq _ _ _) (up_ne (Ne.symm nkk) ek1) nkk) gX1_acceptsChange_X1_startNumber (n := 1) (hw := rfl) (hrc := rfl) (hrs := rfl) (hd := by decide +kernel) (hR := ⟨Nat.le_of_ble_eq_true rfl, Nat.le_of_ble_eq_true rfl⟩) (hn := rfl) (hst := rfl) (hsum := Nat.le_of_ble_eq_true rfl) (hdg := dX1_acceptsChange_7) ?_
  rintro _ rfl
  refine g_at (pc2 := 10) rfl rfl (st2 := []) rfl (S2 := (va_up (va_up S k (.inr (1, [.ref (gw_ad w k1), vI (ρ 0), vI (c), vI (ρ 2), vI (ρ 3), vI (ρ 4), vI (ρ 5), vI (ρ 6), vI (ρ 7)]))) k (.inr (1, [.ref (gw_ad w k1), vI ((numR (updZ ρ 1 c) 5) 0), vI ((numR (updZ ρ 1 c) 5) 1), vI ((numR (updZ ρ 1 c) 5) 2), vI ((numR (updZ ρ 1 c) 5) 3), vI ((numR (updZ ρ 1 c) 5) 4), vI ((numR (updZ ρ 1 c) 5) 5), vI ((numR (updZ ρ 1 c) 5) 6), vI ((numR (updZ ρ 1 c) 5) 7)])))) rfl ?_
  refine g_iload_n (pc := 10) hX 1 rfl dX1_acceptsChange_10 ?_
  refine g_bipush (pc := 11) hX (by decide) dX1_acceptsChange_11 ?_
  refine g_icmp_eq (pc := 13) (tgt := 28) hX (by first | assumption | exact inI_mk (by omega) (by omega)) (by first | assumption | exact inI_mk (by omega) (by omega)) dX1_acceptsChange_13 (by decide) (fun c_13 => ?_) (fun c_13 => ?_)
  · skip
    refine g_iconst (pc := 28) hX dX1_acceptsChange_28 ?_
    refine g_goto (pc := 29) (tgt := 33) hX dX1_acceptsChange_29 (by decide) ?_
    refine g_at rfl rfl (st2 := [vI (bz true)]) rfl rfl ?_
    refine g_zret (pc := 33) hX hR dX1_acceptsChange_33 ?_
    have hq : rdChg c (ρ, T) = (true, (numR (updZ ρ 1 c) 5, T)) := by unfold rdChg; rw [show decide (c = 43 ∨ c = 45 ∨ c = 42) = true from dt (by omega)]
    rw [hq]
    exact ⟨rfl, ⟨(fun q a0 a1 => (up_ne a1 (up_ne a1 rfl))), (up_eq _ _ _), (up_ne (Ne.symm nkk) (up_ne (Ne.symm nkk) ek1))⟩⟩
  · skip
    refine g_iload_n (pc := 16) hX 1 rfl dX1_acceptsChange_16 ?_
    refine g_bipush (pc := 17) hX (by decide) dX1_acceptsChange_17 ?_
    refine g_icmp_eq (pc := 19) (tgt := 28) hX (by first | assumption | exact inI_mk (by omega) (by omega)) (by first | assumption | exact inI_mk (by omega) (by omega)) dX1_acceptsChange_19 (by decide) (fun c_19 => ?_) (fun c_19 => ?_)
    · skip
      refine g_iconst (pc := 28) hX dX1_acceptsChange_28 ?_
      refine g_goto (pc := 29) (tgt := 33) hX dX1_acceptsChange_29 (by decide) ?_
      refine g_at rfl rfl (st2 := [vI (bz true)]) rfl rfl ?_
      refine g_zret (pc := 33) hX hR dX1_acceptsChange_33 ?_
      have hq : rdChg c (ρ, T) = (true, (numR (updZ ρ 1 c) 5, T)) := by unfold rdChg; rw [show decide (c = 43 ∨ c = 45 ∨ c = 42) = true from dt (by omega)]
      rw [hq]
      exact ⟨rfl, ⟨(fun q a0 a1 => (up_ne a1 (up_ne a1 rfl))), (up_eq _ _ _), (up_ne (Ne.symm nkk) (up_ne (Ne.symm nkk) ek1))⟩⟩
    · skip
      refine g_iload_n (pc := 22) hX 1 rfl dX1_acceptsChange_22 ?_
      refine g_bipush (pc := 23) hX (by decide) dX1_acceptsChange_23 ?_
      refine g_icmp_ne (pc := 25) (tgt := 32) hX (by first | assumption | exact inI_mk (by omega) (by omega)) (by first | assumption | exact inI_mk (by omega) (by omega)) dX1_acceptsChange_25 (by decide) (fun c_25 => ?_) (fun c_25 => ?_)
      · skip
        refine g_iconst (pc := 32) hX dX1_acceptsChange_32 ?_
        refine g_at rfl rfl (st2 := [vI (bz false)]) rfl rfl ?_
        refine g_zret (pc := 33) hX hR dX1_acceptsChange_33 ?_
        have hq : rdChg c (ρ, T) = (false, (numR (updZ ρ 1 c) 5, T)) := by unfold rdChg; rw [show decide (c = 43 ∨ c = 45 ∨ c = 42) = false from df (by omega)]
        rw [hq]
        exact ⟨rfl, ⟨(fun q a0 a1 => (up_ne a1 (up_ne a1 rfl))), (up_eq _ _ _), (up_ne (Ne.symm nkk) (up_ne (Ne.symm nkk) ek1))⟩⟩
      · skip
        refine g_iconst (pc := 28) hX dX1_acceptsChange_28 ?_
        refine g_goto (pc := 29) (tgt := 33) hX dX1_acceptsChange_29 (by decide) ?_
        refine g_at rfl rfl (st2 := [vI (bz true)]) rfl rfl ?_
        refine g_zret (pc := 33) hX hR dX1_acceptsChange_33 ?_
        have hq : rdChg c (ρ, T) = (true, (numR (updZ ρ 1 c) 5, T)) := by unfold rdChg; rw [show decide (c = 43 ∨ c = 45 ∨ c = 42) = true from dt (by omega)]
        rw [hq]
        exact ⟨rfl, ⟨(fun q a0 a1 => (up_ne a1 (up_ne a1 rfl))), (up_eq _ _ _), (up_ne (Ne.symm nkk) (up_ne (Ne.symm nkk) ek1))⟩⟩

set_option maxHeartbeats 4000000 in
set_option maxRecDepth 100000 in
theorem c_X1_accepts {w : gW} {l : Launch} {S : Nat → va_E} {k k1 : Nat} {ρ T : Int → Int} (hk : k < gw_N w) (hk1 : k1 < gw_N w) (ek : S k = OR_ w k1 ρ) (ek1 : S k1 = AI w 60 T) (nkk : k ≠ k1) {c : Int} (h0 : 0 ≤ c) (h1 : c < 128) {n : Int} (hO : rdOK n ρ) (hn : n ≤ 100) :
    GM1 w l yX1_accepts wsX1_accepts { frames := 8, cells := 0, slots := 0, locals := 180 } [.ref (gw_ad w k), vI (c)] S
      (fun v S' => v = vI (bz (rdAll c (ρ, T)).1) ∧ RDW w k k1 S (rdAll c (ρ, T)).2 S') := by
  refine GM.start (own := RX1) (n := "accepts") (d := "(I)Z") (by decide) rfl (Nat.le_of_ble_eq_true rfl) ?_
  intro X hX hR hXl
  subst hXl
  refine g_at rfl (lv2 := [(0, .ref (gw_ad w k)), (1, vI (c))]) rfl rfl rfl ?_
  obtain ⟨⟨r0a, r0b⟩, ⟨r3a, r3b⟩, ⟨r4a, r4b⟩, ⟨r5a, r5b⟩, ⟨r6a, r6b⟩, ⟨r7a, r7b⟩⟩ := id hO
  refine g_aload_n (pc := 0) hX 0 rfl dX1_accepts_0 ?_
  refine g_get (pc := 1) hX (ci := 1) (fun _ h => List.mem_cons_of_mem _ (List.mem_append_right _ h)) rfl k hk ek 5 (by decide) (List.mem_of_getElem? (i := 1) rfl) rfl (v := vI (ρ 4)) rfl dX1_accepts_1 ?_
  rcases (show ρ 4 = 0 ∨ ρ 4 = 1 ∨ ρ 4 = 2 ∨ ρ 4 = 3 ∨ ρ 4 = 4 ∨ 4 < ρ 4 by omega) with hs | hs | hs | hs | hs | hs
  · skip
    refine g_tin (pc := 4) (tgt := 40) (n := 0) hX hs (by decide) (by decide) (by decide) rfl dX1_accepts_4 (by decide) ?_
    refine g_aload_n (pc := 40) hX 0 rfl dX1_accepts_40 ?_
    refine g_iload_n (pc := 41) hX 1 rfl dX1_accepts_41 ?_
    refine g_callV1 (pc := 42) (ci := 1) (As := [vI (c)]) (st2 := []) hX k hk ek rfl (c_X1_acceptsTerm (ρ := ρ) (T := T) hk hk1 ek ek1 nkk (c := c) h0 h1 hO hn) gX1_accepts_X1_acceptsTerm (n := 1) (hw := rfl) (hrc := rfl) (hrs := rfl) (hd := by decide +kernel) (hR := ⟨Nat.le_of_ble_eq_true rfl, Nat.le_of_ble_eq_true rfl⟩) (hn := rfl) (hst := rfl) (hsum := Nat.le_of_ble_eq_true rfl) (hdg := dX1_accepts_42) ?_
    rintro _ S42 ⟨rfl, hf42, ga42, gb42⟩
    refine g_at (pc2 := 45) rfl rfl (st2 := [vI (bz ((rdTerm c (ρ, T)).1))]) rfl (S2 := S42) rfl ?_
    refine g_zret (pc := 45) hX hR dX1_accepts_45 ?_
    have hq : rdAll c (ρ, T) = rdTerm c (ρ, T) := if_pos hs
    rw [hq]
    exact ⟨rfl, ⟨(fun q a0 a1 => (hf42 q a0 a1)), ga42, gb42⟩⟩
  · skip
    refine g_tin (pc := 4) (tgt := 46) (n := 1) hX hs (by decide) (by decide) (by decide) rfl dX1_accepts_4 (by decide) ?_
    refine g_aload_n (pc := 46) hX 0 rfl dX1_accepts_46 ?_
    refine g_iload_n (pc := 47) hX 1 rfl dX1_accepts_47 ?_
    refine g_callV1 (pc := 48) (ci := 1) (As := [vI (c)]) (st2 := []) hX k hk ek rfl (c_X1_acceptsRelation (ρ := ρ) (T := T) hk hk1 ek ek1 nkk (c := c) h0 h1) gX1_accepts_X1_acceptsRelation (n := 1) (hw := rfl) (hrc := rfl) (hrs := rfl) (hd := by decide +kernel) (hR := ⟨Nat.le_of_ble_eq_true rfl, Nat.le_of_ble_eq_true rfl⟩) (hn := rfl) (hst := rfl) (hsum := Nat.le_of_ble_eq_true rfl) (hdg := dX1_accepts_48) ?_
    rintro _ S48 ⟨rfl, hf48, ga48, gb48⟩
    refine g_at (pc2 := 51) rfl rfl (st2 := [vI (bz ((rdRel c (ρ, T)).1))]) rfl (S2 := S48) rfl ?_
    refine g_zret (pc := 51) hX hR dX1_accepts_51 ?_
    have hq : rdAll c (ρ, T) = rdRel c (ρ, T) := by unfold rdAll; rw [if_neg (show ¬ ρ 4 = 0 by omega), if_pos hs]
    rw [hq]
    exact ⟨rfl, ⟨(fun q a0 a1 => (hf48 q a0 a1)), ga48, gb48⟩⟩
  · skip
    refine g_tin (pc := 4) (tgt := 52) (n := 2) hX hs (by decide) (by decide) (by decide) rfl dX1_accepts_4 (by decide) ?_
    refine g_aload_n (pc := 52) hX 0 rfl dX1_accepts_52 ?_
    refine g_iload_n (pc := 53) hX 1 rfl dX1_accepts_53 ?_
    refine g_callV1 (pc := 54) (ci := 1) (As := [vI (c)]) (st2 := []) hX k hk ek rfl (c_X1_acceptsDigit (ρ := ρ) (T := T) hk hk1 ek ek1 nkk (c := c) h0 h1 hO hn) gX1_accepts_X1_acceptsDigit (n := 1) (hw := rfl) (hrc := rfl) (hrs := rfl) (hd := by decide +kernel) (hR := ⟨Nat.le_of_ble_eq_true rfl, Nat.le_of_ble_eq_true rfl⟩) (hn := rfl) (hst := rfl) (hsum := Nat.le_of_ble_eq_true rfl) (hdg := dX1_accepts_54) ?_
    rintro _ S54 ⟨rfl, hf54, ga54, gb54⟩
    refine g_at (pc2 := 57) rfl rfl (st2 := [vI (bz ((rdDig c (ρ, T)).1))]) rfl (S2 := S54) rfl ?_
    refine g_bif_ne (pc := 57) (tgt := 68) hX dX1_accepts_57 (by decide) (fun c_57 => ?_) (fun c_57 => ?_)
    · skip
      refine g_iconst (pc := 68) hX dX1_accepts_68 ?_
      refine g_goto (pc := 69) (tgt := 73) hX dX1_accepts_69 (by decide) ?_
      refine g_at rfl rfl (st2 := [vI (bz true)]) rfl rfl ?_
      refine g_zret (pc := 73) hX hR dX1_accepts_73 ?_
      have hq : rdAll c (ρ, T) = rdDig c (ρ, T) := by unfold rdAll; rw [if_neg (show ¬ ρ 4 = 0 by omega), if_neg (show ¬ ρ 4 = 1 by omega), if_pos hs, if_pos c_57]
      rw [hq]
      exact ⟨by rw [c_57], ⟨(fun q a0 a1 => (hf54 q a0 a1)), ga54, gb54⟩⟩
    · skip
      have hds : rdDig c (ρ, T) = (false, (ρ, T)) := by
        unfold rdDig at c_57 ⊢
        by_cases hz : 48 ≤ c ∧ c ≤ 57 ∧ ρ 3 < 5
        · rw [if_pos hz] at c_57; cases c_57
        · exact if_neg hz
      have hk54 : S54 k = OR_ w k1 ρ := by rw [ga54, hds]
      have hk154 : S54 k1 = AI w 60 T := by rw [gb54, hds]
      refine g_aload_n (pc := 60) hX 0 rfl dX1_accepts_60 ?_
      refine g_iload_n (pc := 61) hX 1 rfl dX1_accepts_61 ?_
      refine g_callV1 (pc := 62) (ci := 1) (As := [vI (c)]) (st2 := []) hX k hk ga54 rfl (c_X1_acceptsLinkBehindNumber (ρ := ρ) (T := T) (c := c) hk hk1 hk54 hk154 nkk h0 h1 hO hn) gX1_accepts_X1_acceptsLinkBehindNumber (n := 1) (hw := rfl) (hrc := rfl) (hrs := rfl) (hd := by decide +kernel) (hR := ⟨Nat.le_of_ble_eq_true rfl, Nat.le_of_ble_eq_true rfl⟩) (hn := rfl) (hst := rfl) (hsum := Nat.le_of_ble_eq_true rfl) (hdg := dX1_accepts_62) ?_
      rintro _ S62 ⟨rfl, hf62, ga62, gb62⟩
      refine g_at (pc2 := 65) rfl rfl (st2 := [vI (bz ((rdLBN c (ρ, T)).1))]) rfl (S2 := S62) rfl ?_
      refine g_bif_eq (pc := 65) (tgt := 72) hX dX1_accepts_65 (by decide) (fun c_65 => ?_) (fun c_65 => ?_)
      · skip
        refine g_iconst (pc := 72) hX dX1_accepts_72 ?_
        refine g_at rfl rfl (st2 := [vI (bz false)]) rfl rfl ?_
        refine g_zret (pc := 73) hX hR dX1_accepts_73 ?_
        have hq : rdAll c (ρ, T) = rdLBN c (ρ, T) := by unfold rdAll; rw [if_neg (show ¬ ρ 4 = 0 by omega), if_neg (show ¬ ρ 4 = 1 by omega), if_pos hs, if_neg (by rw [c_57]; decide)]
        rw [hq]
        exact ⟨by rw [c_65], ⟨(fun q a0 a1 => ((hf62 q a0 a1).trans (hf54 q a0 a1))), ga62, gb62⟩⟩
      · skip
        refine g_iconst (pc := 68) hX dX1_accepts_68 ?_
        refine g_goto (pc := 69) (tgt := 73) hX dX1_accepts_69 (by decide) ?_
        refine g_at rfl rfl (st2 := [vI (bz true)]) rfl rfl ?_
        refine g_zret (pc := 73) hX hR dX1_accepts_73 ?_
        have hq : rdAll c (ρ, T) = rdLBN c (ρ, T) := by unfold rdAll; rw [if_neg (show ¬ ρ 4 = 0 by omega), if_neg (show ¬ ρ 4 = 1 by omega), if_pos hs, if_neg (by rw [c_57]; decide)]
        rw [hq]
        exact ⟨by rw [c_65], ⟨(fun q a0 a1 => ((hf62 q a0 a1).trans (hf54 q a0 a1))), ga62, gb62⟩⟩
  · skip
    refine g_tin (pc := 4) (tgt := 74) (n := 3) hX hs (by decide) (by decide) (by decide) rfl dX1_accepts_4 (by decide) ?_
    refine g_aload_n (pc := 74) hX 0 rfl dX1_accepts_74 ?_
    refine g_iload_n (pc := 75) hX 1 rfl dX1_accepts_75 ?_
    refine g_callV1 (pc := 76) (ci := 1) (As := [vI (c)]) (st2 := []) hX k hk ek rfl (c_X1_acceptsLink (ρ := ρ) (T := T) hk hk1 ek ek1 nkk (c := c) h0 h1 hO hn) gX1_accepts_X1_acceptsLink (n := 1) (hw := rfl) (hrc := rfl) (hrs := rfl) (hd := by decide +kernel) (hR := ⟨Nat.le_of_ble_eq_true rfl, Nat.le_of_ble_eq_true rfl⟩) (hn := rfl) (hst := rfl) (hsum := Nat.le_of_ble_eq_true rfl) (hdg := dX1_accepts_76) ?_
    rintro _ S76 ⟨rfl, hf76, ga76, gb76⟩
    refine g_at (pc2 := 79) rfl rfl (st2 := [vI (bz ((rdLink c (ρ, T)).1))]) rfl (S2 := S76) rfl ?_
    refine g_zret (pc := 79) hX hR dX1_accepts_79 ?_
    have hq : rdAll c (ρ, T) = rdLink c (ρ, T) := by unfold rdAll; rw [if_neg (show ¬ ρ 4 = 0 by omega), if_neg (show ¬ ρ 4 = 1 by omega), if_neg (show ¬ ρ 4 = 2 by omega), if_pos hs]
    rw [hq]
    exact ⟨rfl, ⟨(fun q a0 a1 => (hf76 q a0 a1)), ga76, gb76⟩⟩
  · skip
    refine g_tin (pc := 4) (tgt := 80) (n := 4) hX hs (by decide) (by decide) (by decide) rfl dX1_accepts_4 (by decide) ?_
    refine g_aload_n (pc := 80) hX 0 rfl dX1_accepts_80 ?_
    refine g_iload_n (pc := 81) hX 1 rfl dX1_accepts_81 ?_
    refine g_callV1 (pc := 82) (ci := 1) (As := [vI (c)]) (st2 := []) hX k hk ek rfl (c_X1_acceptsChange (ρ := ρ) (T := T) hk hk1 ek ek1 nkk (c := c) h0 h1) gX1_accepts_X1_acceptsChange (n := 1) (hw := rfl) (hrc := rfl) (hrs := rfl) (hd := by decide +kernel) (hR := ⟨Nat.le_of_ble_eq_true rfl, Nat.le_of_ble_eq_true rfl⟩) (hn := rfl) (hst := rfl) (hsum := Nat.le_of_ble_eq_true rfl) (hdg := dX1_accepts_82) ?_
    rintro _ S82 ⟨rfl, hf82, ga82, gb82⟩
    refine g_at (pc2 := 85) rfl rfl (st2 := [vI (bz ((rdChg c (ρ, T)).1))]) rfl (S2 := S82) rfl ?_
    refine g_zret (pc := 85) hX hR dX1_accepts_85 ?_
    have hq : rdAll c (ρ, T) = rdChg c (ρ, T) := by unfold rdAll; rw [if_neg (show ¬ ρ 4 = 0 by omega), if_neg (show ¬ ρ 4 = 1 by omega), if_neg (show ¬ ρ 4 = 2 by omega), if_neg (show ¬ ρ 4 = 3 by omega), if_pos hs]
    rw [hq]
    exact ⟨rfl, ⟨(fun q a0 a1 => (hf82 q a0 a1)), ga82, gb82⟩⟩
  · skip
    refine g_tout (pc := 4) (tgt := 86) hX (by first | assumption | exact inI_mk (by omega) (by omega)) (by omega) dX1_accepts_4 (by decide) ?_
    refine g_aload_n (pc := 86) hX 0 rfl dX1_accepts_86 ?_
    refine g_iload_n (pc := 87) hX 1 rfl dX1_accepts_87 ?_
    refine g_callV1 (pc := 88) (ci := 1) (As := [vI (c)]) (st2 := []) hX k hk ek rfl (c_X1_acceptsDigit (ρ := ρ) (T := T) hk hk1 ek ek1 nkk (c := c) h0 h1 hO hn) gX1_accepts_X1_acceptsDigit (n := 1) (hw := rfl) (hrc := rfl) (hrs := rfl) (hd := by decide +kernel) (hR := ⟨Nat.le_of_ble_eq_true rfl, Nat.le_of_ble_eq_true rfl⟩) (hn := rfl) (hst := rfl) (hsum := Nat.le_of_ble_eq_true rfl) (hdg := dX1_accepts_88) ?_
    rintro _ S88 ⟨rfl, hf88, ga88, gb88⟩
    refine g_at (pc2 := 91) rfl rfl (st2 := [vI (bz ((rdDig c (ρ, T)).1))]) rfl (S2 := S88) rfl ?_
    refine g_zret (pc := 91) hX hR dX1_accepts_91 ?_
    have hq : rdAll c (ρ, T) = rdDig c (ρ, T) := by unfold rdAll; rw [if_neg (show ¬ ρ 4 = 0 by omega), if_neg (show ¬ ρ 4 = 1 by omega), if_neg (show ¬ ρ 4 = 2 by omega), if_neg (show ¬ ρ 4 = 3 by omega), if_neg (show ¬ ρ 4 = 4 by omega)]
    rw [hq]
    exact ⟨rfl, ⟨(fun q a0 a1 => (hf88 q a0 a1)), ga88, gb88⟩⟩

set_option maxHeartbeats 4000000 in
set_option maxRecDepth 100000 in
theorem c_X2_addRule {w : gW} {l : Launch} {S : Nat → va_E} {u kr kr1 : Nat} {nR : Int} {R : Int → Int → Int} (hu : u < gw_N w) (hkr : kr < gw_N w) (hkr1 : kr1 < gw_N w) (eu : S u = OU w kr) (ekr : S kr = OT w 8 63 kr1 nR) (ekr1 : S kr1 = AT w 504 63 R) {k k1 : Nat} {ρ T : Int → Int} (hk : k < gw_N w) (hk1 : k1 < gw_N w) (ek : S k = OR_ w k1 ρ) (ek1 : S k1 = AI w 60 T) (nkk : k ≠ k1) (hc0 : 0 ≤ ρ 0 ∧ ρ 0 ≤ 60) (hR8 : 0 ≤ nR ∧ nR < 8) (a1 : kr ≠ kr1) (a2 : u ≠ kr) (a3 : u ≠ kr1) (a4 : k ≠ kr) (a5 : k ≠ kr1) (a6 : k1 ≠ kr) (a7 : k1 ≠ kr1) :
    GM0 w l yX2_addRule wsX2_addRule { frames := 2, cells := 0, slots := 0, locals := 42 } [.ref (gw_ad w u), .ref (gw_ad w k)] S
      (fun S' => S' = va_up (va_up S kr (OT w 8 63 kr1 (nR + 1))) kr1 (AT w 504 63 (adR nR (ρ, T) R (ρ 0)))) := by
  refine GM.start (own := RX2) (n := "addRule") (d := "(LParcelDesk$RuleReader;)V") (by decide) rfl (Nat.le_of_ble_eq_true rfl) ?_
  intro X hX hR hXl
  subst hXl
  refine g_at rfl (lv2 := [(0, .ref (gw_ad w u)), (1, .ref (gw_ad w k))]) rfl rfl rfl ?_
  refine g_aload_n (pc := 0) hX 0 rfl dX2_addRule_0 ?_
  refine g_get (pc := 1) hX (ci := 2) (fun _ h => List.mem_cons_of_mem _ (List.mem_append_left _ (List.mem_append_left _ (List.mem_append_right _ h)))) rfl u hu eu 0 (by decide) (List.mem_of_getElem? (i := 1) rfl) rfl (v := .ref (gw_ad w kr)) rfl dX2_addRule_1 ?_
  refine g_callV1 (pc := 4) (ci := 5) (As := []) (st2 := []) hX kr hkr ekr rfl (c_X5_addRow hkr hkr1 ekr ekr1 (by first | assumption | exact inI_mk (by omega) (by omega)) (by first | assumption | exact inI_mk (by omega) (by omega)) (by omega)) gX2_addRule_X5_addRow (n := 0) (hw := rfl) (hrc := rfl) (hrs := rfl) (hd := by decide +kernel) (hR := ⟨Nat.le_of_ble_eq_true rfl, Nat.le_of_ble_eq_true rfl⟩) (hn := rfl) (hst := rfl) (hsum := Nat.le_of_ble_eq_true rfl) (hdg := dX2_addRule_4) ?_
  rintro _ _ ⟨rfl, rfl⟩
  refine g_at (pc2 := 7) rfl rfl (st2 := [vI (nR)]) rfl (S2 := (va_up S kr (.inr (5, [vI (8), vI (63), .ref (gw_ad w kr1), vI (nR + 1)])))) rfl ?_
  refine g_istore_n (pc := 7) hX (lv2 := [(2, vI (nR)), (0, .ref (gw_ad w u)), (1, .ref (gw_ad w k))]) rfl (by decide) rfl dX2_addRule_7 ?_
  refine g_aload_n (pc := 8) hX 1 rfl dX2_addRule_8 ?_
  refine g_get (pc := 9) hX (ci := 2) (fun _ h => List.mem_cons_of_mem _ (List.mem_append_left _ (List.mem_append_left _ (List.mem_append_right _ h)))) rfl u hu (up_ne a2 eu) 0 (by decide) (List.mem_of_getElem? (i := 1) rfl) rfl (v := .ref (gw_ad w kr)) rfl dX2_addRule_9 ?_
  refine g_iload_n (pc := 12) hX 0 rfl dX2_addRule_12 ?_
  refine g_iconst (pc := 13) hX dX2_addRule_13 ?_
  refine g_aload_n (pc := 14) hX 2 rfl dX2_addRule_14 ?_
  refine g_get (pc := 15) hX (ci := 1) (fun _ h => List.mem_cons_of_mem _ (List.mem_append_left _ (List.mem_append_right _ h))) rfl k hk (up_ne a4 ek) 1 (by decide) (List.mem_of_getElem? (i := 2) rfl) rfl (v := vI (ρ 0)) rfl dX2_addRule_15 ?_
  refine g_callV0 (pc := 18) (ci := 5) (As := [vI (nR), vI (0), vI (ρ 0)]) (st2 := []) hX kr hkr (up_eq _ _ _) rfl (c_X5_put (row := nR) (col := 0) (x := ρ 0) hkr hkr1 (up_eq _ _ _) (up_ne (Ne.symm a1) ekr1) (by decide) (by decide) (by first | assumption | exact inI_mk (by omega) (by omega)) (by first | assumption | exact inI_mk (by omega) (by omega)) (by first | assumption | exact inI_mk (by omega) (by omega)) (by first | assumption | exact inI_mk (by omega) (by omega))) gX2_addRule_X5_put (n := 3) (hw := rfl) (hrc := rfl) (hrs := rfl) (hd := by decide +kernel) (hR := ⟨Nat.le_of_ble_eq_true rfl, Nat.le_of_ble_eq_true rfl⟩) (hn := rfl) (hst := rfl) (hsum := Nat.le_of_ble_eq_true rfl) (hdg := dX2_addRule_18) ?_
  rintro _ rfl
  rw [tput_in (by omega) (by omega) (by omega) (by omega)]
  refine g_at (pc2 := 21) rfl rfl (st2 := []) rfl (S2 := (va_up (va_up S kr (.inr (5, [vI (8), vI (63), .ref (gw_ad w kr1), vI (nR + 1)]))) kr1 (AI w 504 (fl 63 (upd2 R nR 0 (ρ 0)))))) rfl ?_
  refine g_aload_n (pc := 21) hX 1 rfl dX2_addRule_21 ?_
  refine g_get (pc := 22) hX (ci := 2) (fun _ h => List.mem_cons_of_mem _ (List.mem_append_left _ (List.mem_append_left _ (List.mem_append_right _ h)))) rfl u hu (up_ne a3 (up_ne a2 eu)) 0 (by decide) (List.mem_of_getElem? (i := 1) rfl) rfl (v := .ref (gw_ad w kr)) rfl dX2_addRule_22 ?_
  refine g_iload_n (pc := 25) hX 0 rfl dX2_addRule_25 ?_
  refine g_iconst (pc := 26) hX dX2_addRule_26 ?_
  refine g_aload_n (pc := 27) hX 2 rfl dX2_addRule_27 ?_
  refine g_get (pc := 28) hX (ci := 1) (fun _ h => List.mem_cons_of_mem _ (List.mem_append_left _ (List.mem_append_right _ h))) rfl k hk (up_ne a5 (up_ne a4 ek)) 2 (by decide) (List.mem_of_getElem? (i := 3) rfl) rfl (v := vI (ρ 1)) rfl dX2_addRule_28 ?_
  refine g_callV0 (pc := 31) (ci := 5) (As := [vI (nR), vI (1), vI (ρ 1)]) (st2 := []) hX kr hkr (up_ne a1 (up_eq _ _ _)) rfl (c_X5_put (row := nR) (col := 1) (x := ρ 1) hkr hkr1 (up_ne a1 (up_eq _ _ _)) (up_eq _ _ _) (by decide) (by decide) (by first | assumption | exact inI_mk (by omega) (by omega)) (by first | assumption | exact inI_mk (by omega) (by omega)) (by first | assumption | exact inI_mk (by omega) (by omega)) (by first | assumption | exact inI_mk (by omega) (by omega))) gX2_addRule_X5_put (n := 3) (hw := rfl) (hrc := rfl) (hrs := rfl) (hd := by decide +kernel) (hR := ⟨Nat.le_of_ble_eq_true rfl, Nat.le_of_ble_eq_true rfl⟩) (hn := rfl) (hst := rfl) (hsum := Nat.le_of_ble_eq_true rfl) (hdg := dX2_addRule_31) ?_
  rintro _ rfl
  rw [tput_in (by omega) (by omega) (by omega) (by omega)]
  refine g_at (pc2 := 34) rfl rfl (st2 := []) rfl (S2 := (va_up (va_up (va_up S kr (.inr (5, [vI (8), vI (63), .ref (gw_ad w kr1), vI (nR + 1)]))) kr1 (AI w 504 (fl 63 (upd2 R nR 0 (ρ 0))))) kr1 (AI w 504 (fl 63 (upd2 (upd2 R nR 0 (ρ 0)) nR 1 (ρ 1)))))) rfl ?_
  refine g_aload_n (pc := 34) hX 1 rfl dX2_addRule_34 ?_
  refine g_get (pc := 35) hX (ci := 2) (fun _ h => List.mem_cons_of_mem _ (List.mem_append_left _ (List.mem_append_left _ (List.mem_append_right _ h)))) rfl u hu (up_ne a3 (up_ne a3 (up_ne a2 eu))) 0 (by decide) (List.mem_of_getElem? (i := 1) rfl) rfl (v := .ref (gw_ad w kr)) rfl dX2_addRule_35 ?_
  refine g_iload_n (pc := 38) hX 0 rfl dX2_addRule_38 ?_
  refine g_iconst (pc := 39) hX dX2_addRule_39 ?_
  refine g_aload_n (pc := 40) hX 2 rfl dX2_addRule_40 ?_
  refine g_get (pc := 41) hX (ci := 1) (fun _ h => List.mem_cons_of_mem _ (List.mem_append_left _ (List.mem_append_right _ h))) rfl k hk (up_ne a5 (up_ne a5 (up_ne a4 ek))) 3 (by decide) (List.mem_of_getElem? (i := 4) rfl) rfl (v := vI (ρ 2)) rfl dX2_addRule_41 ?_
  refine g_callV0 (pc := 44) (ci := 5) (As := [vI (nR), vI (2), vI (ρ 2)]) (st2 := []) hX kr hkr (up_ne a1 (up_ne a1 (up_eq _ _ _))) rfl (c_X5_put (row := nR) (col := 2) (x := ρ 2) hkr hkr1 (up_ne a1 (up_ne a1 (up_eq _ _ _))) (up_eq _ _ _) (by decide) (by decide) (by first | assumption | exact inI_mk (by omega) (by omega)) (by first | assumption | exact inI_mk (by omega) (by omega)) (by first | assumption | exact inI_mk (by omega) (by omega)) (by first | assumption | exact inI_mk (by omega) (by omega))) gX2_addRule_X5_put (n := 3) (hw := rfl) (hrc := rfl) (hrs := rfl) (hd := by decide +kernel) (hR := ⟨Nat.le_of_ble_eq_true rfl, Nat.le_of_ble_eq_true rfl⟩) (hn := rfl) (hst := rfl) (hsum := Nat.le_of_ble_eq_true rfl) (hdg := dX2_addRule_44) ?_
  rintro _ rfl
  rw [tput_in (by omega) (by omega) (by omega) (by omega)]
  refine g_at (pc2 := 47) rfl rfl (st2 := []) rfl (S2 := (va_up (va_up (va_up (va_up S kr (.inr (5, [vI (8), vI (63), .ref (gw_ad w kr1), vI (nR + 1)]))) kr1 (AI w 504 (fl 63 (upd2 R nR 0 (ρ 0))))) kr1 (AI w 504 (fl 63 (upd2 (upd2 R nR 0 (ρ 0)) nR 1 (ρ 1))))) kr1 (AI w 504 (fl 63 (upd2 (upd2 (upd2 R nR 0 (ρ 0)) nR 1 (ρ 1)) nR 2 (ρ 2)))))) rfl ?_
  refine g_iconst (pc := 47) hX dX2_addRule_47 ?_
  refine g_istore_n (pc := 48) hX (lv2 := [(3, vI (0)), (2, vI (nR)), (0, .ref (gw_ad w u)), (1, .ref (gw_ad w k))]) rfl (by decide) rfl dX2_addRule_48 ?_
  have loop : ∀ (n0 : Nat) (c : Int), 0 ≤ c → c ≤ ρ 0 → ρ 0 - c < n0 → G w { frames := 2, cells := 0, slots := 0, locals := 42 } X 4 49 [(3, vI (c)), (0, .ref (gw_ad w u)), (1, .ref (gw_ad w k)), (2, vI (nR))] [] (va_up (va_up S kr (OT w 8 63 kr1 (nR + 1))) kr1 (AT w 504 63 (adR nR (ρ, T) R c))) := by
    intro n0
    induction n0 with
    | zero => intro c  h1c h2c h3c; exact absurd h3c (by omega)
    | succ n0 ihloop =>
      intro c  h1c h2c h3c 
      have hc : inI c := inI_mk (by omega) (by omega)
      refine g_iload_n (pc := 49) hX 0 rfl dX2_addRule_49 ?_
      refine g_aload_n (pc := 50) hX 2 rfl dX2_addRule_50 ?_
      refine g_get (pc := 51) hX (ci := 1) (fun _ h => List.mem_cons_of_mem _ (List.mem_append_left _ (List.mem_append_right _ h))) rfl k hk (up_ne a5 (up_ne a4 ek)) 1 (by decide) (List.mem_of_getElem? (i := 2) rfl) rfl (v := vI (ρ 0)) rfl dX2_addRule_51 ?_
      refine g_icmp_ge (pc := 54) (tgt := 79) hX (by first | assumption | exact inI_mk (by omega) (by omega)) (by first | assumption | exact inI_mk (by omega) (by omega)) dX2_addRule_54 (by decide) (fun c_54 => ?_) (fun c_54 => ?_)
      · skip
        refine g_vret (pc := 79) hX hR dX2_addRule_79 ?_
        rw [show c = ρ 0 by omega]
      · skip
        refine g_aload_n (pc := 57) hX 1 rfl dX2_addRule_57 ?_
        refine g_get (pc := 58) hX (ci := 2) (fun _ h => List.mem_cons_of_mem _ (List.mem_append_left _ (List.mem_append_left _ (List.mem_append_right _ h)))) rfl u hu (up_ne a3 (up_ne a2 eu)) 0 (by decide) (List.mem_of_getElem? (i := 1) rfl) rfl (v := .ref (gw_ad w kr)) rfl dX2_addRule_58 ?_
        refine g_iload_n (pc := 61) hX 3 rfl dX2_addRule_61 ?_
        refine g_iconst (pc := 62) hX dX2_addRule_62 ?_
        refine g_iload_n (pc := 63) hX 0 rfl dX2_addRule_63 ?_
        refine g_iadd (pc := 64) hX dX2_addRule_64 ?_
        refine g_aload_n (pc := 65) hX 2 rfl dX2_addRule_65 ?_
        refine g_iload_n (pc := 66) hX 0 rfl dX2_addRule_66 ?_
        refine g_callV1 (pc := 67) (ci := 1) (As := [vI (c)]) (st2 := [vI (3 + c), vI (nR), .ref (gw_ad w kr)]) hX k hk (up_ne a5 (up_ne a4 ek)) rfl (c_X1_tokenAt (ρ := ρ) hk hk1 (up_ne a5 (up_ne a4 ek)) (up_ne a7 (up_ne a6 ek1)) nkk (i := c) (by omega) (by omega)) gX2_addRule_X1_tokenAt (n := 1) (hw := rfl) (hrc := rfl) (hrs := rfl) (hd := by decide +kernel) (hR := ⟨Nat.le_of_ble_eq_true rfl, Nat.le_of_ble_eq_true rfl⟩) (hn := rfl) (hst := rfl) (hsum := Nat.le_of_ble_eq_true rfl) (hdg := dX2_addRule_67) ?_
        rintro _ S9 ⟨rfl, e9⟩
        rw [e9]
        clear e9 S9
        refine g_at (pc2 := 70) rfl rfl (st2 := [vI (T c), vI (3 + c), vI (nR), .ref (gw_ad w kr)]) rfl (S2 := (va_up (va_up S kr (OT w 8 63 kr1 (nR + 1))) kr1 (AT w 504 63 (adR nR (ρ, T) R c)))) rfl ?_
        refine g_callV0 (pc := 70) (ci := 5) (As := [vI (nR), vI (3 + c), vI (T c)]) (st2 := []) hX kr hkr (up_ne a1 (up_eq _ _ _)) rfl (c_X5_put (row := nR) (col := 3 + c) (x := T c) hkr hkr1 (up_ne a1 (up_eq _ _ _)) (up_eq _ _ _) (by decide) (by decide) (by first | assumption | exact inI_mk (by omega) (by omega)) (by first | assumption | exact inI_mk (by omega) (by omega)) (by first | assumption | exact inI_mk (by omega) (by omega)) (by first | assumption | exact inI_mk (by omega) (by omega))) gX2_addRule_X5_put (n := 3) (hw := rfl) (hrc := rfl) (hrs := rfl) (hd := by decide +kernel) (hR := ⟨Nat.le_of_ble_eq_true rfl, Nat.le_of_ble_eq_true rfl⟩) (hn := rfl) (hst := rfl) (hsum := Nat.le_of_ble_eq_true rfl) (hdg := dX2_addRule_70) ?_
        rintro _ rfl
        rw [tput_in (by omega) (by omega) (by omega) (by omega)]
        refine g_at (pc2 := 73) rfl rfl (st2 := []) rfl (S2 := (va_up (va_up (va_up S kr (OT w 8 63 kr1 (nR + 1))) kr1 (AT w 504 63 (adR nR (ρ, T) R c))) kr1 (AI w 504 (fl 63 (upd2 (adR nR (ρ, T) R c) nR (3 + c) (T c)))))) rfl ?_
        refine g_iinc (pc := 73) hX (lv2 := [(3, vI (c + 1)), (0, .ref (gw_ad w u)), (1, .ref (gw_ad w k)), (2, vI (nR))]) 0 rfl (by decide) rfl dX2_addRule_73 ?_
        refine g_goto (pc := 76) (tgt := 49) hX dX2_addRule_76 (by decide) ?_
        refine g_sub (lv2 := [(3, vI (c + 1)), (0, .ref (gw_ad w u)), (1, .ref (gw_ad w k)), (2, vI (nR))]) [0, 1, 2, 3] rfl ?_
        refine g_at rfl (lv2 := [(3, vI (c + 1)), (0, .ref (gw_ad w u)), (1, .ref (gw_ad w k)), (2, vI (nR))]) (rfl) rfl (S2 := (va_up (va_up S kr (OT w 8 63 kr1 (nR + 1))) kr1 (AT w 504 63 (adR nR (ρ, T) R (c + 1))))) (by rw [up_up, ← adR_s h1c]) ?_
        exact ihloop (c + 1)  (by omega) (by omega) (by omega) 
  refine g_sub (lv2 := [(3, vI (0)), (0, .ref (gw_ad w u)), (1, .ref (gw_ad w k)), (2, vI (nR))]) [0, 2, 3, 1] rfl ?_
  refine g_at rfl (lv2 := [(3, vI (0)), (0, .ref (gw_ad w u)), (1, .ref (gw_ad w k)), (2, vI (nR))]) (rfl) rfl (S2 := (va_up (va_up S kr (OT w 8 63 kr1 (nR + 1))) kr1 (AT w 504 63 (adR nR (ρ, T) R 0)))) (by rw [up_up, up_up, ← adR_0]) ?_
  exact loop ((ρ 0 : Int) - 0 + 1).toNat 0  (by omega) (by omega) (by omega) 
