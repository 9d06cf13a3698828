/-! ===== the bands: C how many, L limits, P prices by zone and index, E extra prices ===== -/
abbrev OB (w : gW) (kc kl kp ke : Nat) : va_E := .inr (0, [.ref (gw_ad w kc), .ref (gw_ad w kl), .ref (gw_ad w kp), .ref (gw_ad w ke)])
def bl (C : Int → Int) (L : Int → Int → Int) (z i : Int) : Int := if 0 ≤ i ∧ i < C z then L z i else 0
theorem bl_in {C : Int → Int} {L : Int → Int → Int} {z i : Int} (h0 : 0 ≤ i) (h1 : i < C z) : bl C L z i = L z i := if_pos ⟨h0, h1⟩
theorem bl_out {C : Int → Int} {L : Int → Int → Int} {z i : Int} (h : ¬ (0 ≤ i ∧ i < C z)) : bl C L z i = 0 := if_neg h
theorem inI_bl {C : Int → Int} {L : Int → Int → Int} {z i : Int} (h : ∀ a b, inI (L a b)) : inI (bl C L z i) := by
  unfold bl
  split
  · exact h z i
  · exact inI_0
/-- the first index from i on, of the next k, at which f is at least x; behind them, if none -/
def bfor (f : Int → Int) (x : Int) : Nat → Int → Int
  | 0, i => i
  | k + 1, i => if x ≤ f i then i else bfor f x k (i + 1)
theorem bfor_b (f : Int → Int) (x : Int) : ∀ (k : Nat) (i : Int), i ≤ bfor f x k i ∧ bfor f x k i ≤ i + k
  | 0, i => ⟨Int.le_refl i, by show i ≤ i + 0; omega⟩
  | k + 1, i => by
    have h := bfor_b f x k (i + 1)
    show i ≤ (if x ≤ f i then i else bfor f x k (i + 1)) ∧ (if x ≤ f i then i else bfor f x k (i + 1)) ≤ i + ((k + 1 : Nat) : Int)
    split <;> omega
def bcOK (C : Int → Int) : Prop := ∀ z, 0 ≤ z → z < 4 → 0 ≤ C z ∧ C z ≤ 6
def bput (C : Int → Int) (L : Int → Int → Int) (z i x : Int) : Int → Int → Int := if 0 ≤ i ∧ i < C z then upd2 L z i x else L
theorem bput_in {C : Int → Int} {L : Int → Int → Int} {z i x : Int} (h0 : 0 ≤ i) (h1 : i < C z) : bput C L z i x = upd2 L z i x := if_pos ⟨h0, h1⟩
theorem bput_out {C : Int → Int} {L : Int → Int → Int} {z i x : Int} (h : ¬ (0 ≤ i ∧ i < C z)) : bput C L z i x = L := if_neg h
/-- room is made: those behind index move up, c of them so far, from above -/
def bopen (n : Int) (L : Int → Int → Int) (z c : Int) : Int → Int → Int := fun a j => if a = z ∧ n - c < j ∧ j ≤ n then L a (j - 1) else L a j
def bclose (L : Int → Int → Int) (z i c : Int) : Int → Int → Int := fun a j => if a = z ∧ i ≤ j ∧ j < c then L a (j + 1) else L a j
theorem bopen_0 (n : Int) (L : Int → Int → Int) (z : Int) : bopen n L z 0 = L := by
  funext a j
  exact if_neg (by omega)
theorem bopen_s {C : Int → Int} {n z c : Int} {L : Int → Int → Int} (hC : C z = n + 1) (h0 : 0 ≤ c) (h1 : 0 ≤ n - c - 1) : bput C (bopen n L z c) z (n - c) (bl C (bopen n L z c) z (n - c - 1)) = bopen n L z (c + 1) := by
  rw [bput_in (by omega) (by omega), bl_in h1 (by omega)]
  funext a j
  unfold upd2 bopen
  by_cases h : a = z ∧ j = n - c
  · rw [if_pos h, if_neg (by omega), if_pos (by omega), h.1, h.2]
  · rw [if_neg h]
    by_cases h2 : a = z ∧ n - c < j ∧ j ≤ n
    · rw [if_pos h2, if_pos (by omega)]
    · rw [if_neg h2, if_neg (by omega)]
theorem bclose_0 (L : Int → Int → Int) (z i : Int) : bclose L z i i = L := by
  funext a j
  exact if_neg (by omega)
theorem bclose_s {C : Int → Int} {z i c : Int} {L : Int → Int → Int} (h0 : 0 ≤ i) (h1 : i ≤ c) (h2 : c + 1 < C z) : bput C (bclose L z i c) z c (bl C (bclose L z i c) z (c + 1)) = bclose L z i (c + 1) := by
  rw [bput_in (by omega) (by omega), bl_in (by omega) (by omega)]
  funext a j
  unfold upd2 bclose
  by_cases h : a = z ∧ j = c
  · rw [if_pos h, if_neg (by omega), if_pos (by omega), h.1, h.2]
  · rw [if_neg h]
    by_cases h2 : a = z ∧ i ≤ j ∧ j < c
    · rw [if_pos h2, if_pos (by omega)]
    · rw [if_neg h2, if_neg (by omega)]

set_option maxHeartbeats 4000000 in
set_option maxRecDepth 100000 in
theorem c_X0_bandsOf {w : gW} {l : Launch} {S : Nat → va_E} {k kc kl kp ke : Nat} {C E : Int → Int} {L Pr : Int → Int → Int} (hk : k < gw_N w) (hkc : kc < gw_N w) (hkl : kl < gw_N w) (hkp : kp < gw_N w) (hke : ke < gw_N w) (ek : S k = OB w kc kl kp ke) (ekc : S kc = AI w 4 C) (ekl : S kl = AT w 24 6 L) (ekp : S kp = AT w 24 6 Pr) (eke : S ke = AI w 4 E) {z : Int} (z0 : 0 ≤ z) (z4 : z < 4) :
    GM1 w l yX0_bandsOf wsX0_bandsOf { frames := 1, cells := 0, slots := 0, locals := 21 } [.ref (gw_ad w k), vI (z)] S
      (fun v S' => v = vI (C z) ∧ S' = S) := by
  refine GM.start (own := RX0) (n := "bandsOf") (d := "(I)I") (by decide) rfl (Nat.le_of_ble_eq_true rfl) ?_
  intro X hX hR hXl
  subst hXl
  refine g_at rfl (lv2 := [(0, .ref (gw_ad w k)), (1, vI (z))]) rfl rfl rfl ?_
  have hz : inI z := inI_mk (by omega) (by omega)
  refine g_iload_n (pc := 0) hX 1 rfl dX0_bandsOf_0 ?_
  refine g_aload_n (pc := 1) hX 0 rfl dX0_bandsOf_1 ?_
  refine g_get (pc := 2) hX (ci := 0) (fun _ h => List.mem_cons_of_mem _ (List.mem_append_right _ h)) rfl k hk ek 0 (by decide) (List.mem_of_getElem? (i := 1) rfl) rfl (v := .ref (gw_ad w kc)) rfl dX0_bandsOf_2 ?_
  refine g_callN1 (pc := 5) (As := [vI (z), .ref (gw_ad w kc)]) (st2 := []) hX (c_X6_isIndex hkc ekc (by decide) (by first | assumption | exact inI_mk (by omega) (by omega))) ggX0_bandsOf_X6_isIndex (List.mem_of_getElem? (i := 5) rfl) (List.mem_of_getElem? (i := 2) rfl) (List.mem_of_getElem? (i := 3) rfl) (n := 2) (hw := rfl) (hrc := rfl) (hrs := rfl) (hd := by decide +kernel) (hR := ⟨Nat.le_of_ble_eq_true rfl, Nat.le_of_ble_eq_true rfl⟩) (hn := rfl) (hst := rfl) (hsum := Nat.le_of_ble_eq_true rfl) (hdg := dX0_bandsOf_5) ?_
  rintro _ S9 ⟨rfl, e9⟩
  rw [e9]
  clear e9 S9
  refine g_at (pc2 := 8) rfl rfl (st2 := [vI (bz (decide (0 ≤ z ∧ z < (4 : Nat))))]) rfl (S2 := S) rfl ?_
  refine g_bif_eq (pc := 8) (tgt := 20) hX dX0_bandsOf_8 (by decide) (fun c_8 => ?_) (fun c_8 => ?_)
  · skip
    exact absurd c_8 (by rw [Bool.not_eq_false, decide_eq_true_eq]; omega)
  · skip
    refine g_aload_n (pc := 11) hX 0 rfl dX0_bandsOf_11 ?_
    refine g_get (pc := 12) hX (ci := 0) (fun _ h => List.mem_cons_of_mem _ (List.mem_append_right _ h)) rfl k hk ek 0 (by decide) (List.mem_of_getElem? (i := 1) rfl) rfl (v := .ref (gw_ad w kc)) rfl dX0_bandsOf_12 ?_
    refine g_iload_n (pc := 15) hX 1 rfl dX0_bandsOf_15 ?_
    refine g_iald (pc := 16) hX kc hkc ekc (by omega) (by omega) (by decide) dX0_bandsOf_16 ?_
    refine g_goto (pc := 17) (tgt := 21) hX dX0_bandsOf_17 (by decide) ?_
    refine g_iret (pc := 21) hX hR dX0_bandsOf_21 ?_
    exact ⟨rfl, rfl⟩

set_option maxHeartbeats 4000000 in
set_option maxRecDepth 100000 in
theorem c_X0_extraOf {w : gW} {l : Launch} {S : Nat → va_E} {k kc kl kp ke : Nat} {C E : Int → Int} {L Pr : Int → Int → Int} (hk : k < gw_N w) (hkc : kc < gw_N w) (hkl : kl < gw_N w) (hkp : kp < gw_N w) (hke : ke < gw_N w) (ek : S k = OB w kc kl kp ke) (ekc : S kc = AI w 4 C) (ekl : S kl = AT w 24 6 L) (ekp : S kp = AT w 24 6 Pr) (eke : S ke = AI w 4 E) {z : Int} (z0 : 0 ≤ z) (z4 : z < 4) :
    GM1 w l yX0_extraOf wsX0_extraOf { frames := 1, cells := 0, slots := 0, locals := 21 } [.ref (gw_ad w k), vI (z)] S
      (fun v S' => v = vI (E z) ∧ S' = S) := by
  refine GM.start (own := RX0) (n := "extraOf") (d := "(I)I") (by decide) rfl (Nat.le_of_ble_eq_true rfl) ?_
  intro X hX hR hXl
  subst hXl
  refine g_at rfl (lv2 := [(0, .ref (gw_ad w k)), (1, vI (z))]) rfl rfl rfl ?_
  have hz : inI z := inI_mk (by omega) (by omega)
  refine g_iload_n (pc := 0) hX 1 rfl dX0_extraOf_0 ?_
  refine g_aload_n (pc := 1) hX 0 rfl dX0_extraOf_1 ?_
  refine g_get (pc := 2) hX (ci := 0) (fun _ h => List.mem_cons_of_mem _ (List.mem_append_right _ h)) rfl k hk ek 3 (by decide) (List.mem_of_getElem? (i := 1) rfl) rfl (v := .ref (gw_ad w ke)) rfl dX0_extraOf_2 ?_
  refine g_callN1 (pc := 5) (As := [vI (z), .ref (gw_ad w ke)]) (st2 := []) hX (c_X6_isIndex hke eke (by decide) (by first | assumption | exact inI_mk (by omega) (by omega))) ggX0_extraOf_X6_isIndex (List.mem_of_getElem? (i := 5) rfl) (List.mem_of_getElem? (i := 2) rfl) (List.mem_of_getElem? (i := 3) rfl) (n := 2) (hw := rfl) (hrc := rfl) (hrs := rfl) (hd := by decide +kernel) (hR := ⟨Nat.le_of_ble_eq_true rfl, Nat.le_of_ble_eq_true rfl⟩) (hn := rfl) (hst := rfl) (hsum := Nat.le_of_ble_eq_true rfl) (hdg := dX0_extraOf_5) ?_
  rintro _ S9 ⟨rfl, e9⟩
  rw [e9]
  clear e9 S9
  refine g_at (pc2 := 8) rfl rfl (st2 := [vI (bz (decide (0 ≤ z ∧ z < (4 : Nat))))]) rfl (S2 := S) rfl ?_
  refine g_bif_eq (pc := 8) (tgt := 20) hX dX0_extraOf_8 (by decide) (fun c_8 => ?_) (fun c_8 => ?_)
  · skip
    exact absurd c_8 (by rw [Bool.not_eq_false, decide_eq_true_eq]; omega)
  · skip
    refine g_aload_n (pc := 11) hX 0 rfl dX0_extraOf_11 ?_
    refine g_get (pc := 12) hX (ci := 0) (fun _ h => List.mem_cons_of_mem _ (List.mem_append_right _ h)) rfl k hk ek 3 (by decide) (List.mem_of_getElem? (i := 1) rfl) rfl (v := .ref (gw_ad w ke)) rfl dX0_extraOf_12 ?_
    refine g_iload_n (pc := 15) hX 1 rfl dX0_extraOf_15 ?_
    refine g_iald (pc := 16) hX ke hke eke (by omega) (by omega) (by decide) dX0_extraOf_16 ?_
    refine g_goto (pc := 17) (tgt := 21) hX dX0_extraOf_17 (by decide) ?_
    refine g_iret (pc := 21) hX hR dX0_extraOf_21 ?_
    exact ⟨rfl, rfl⟩

set_option maxHeartbeats 4000000 in
set_option maxRecDepth 100000 in
theorem c_X0_putExtra {w : gW} {l : Launch} {S : Nat → va_E} {k kc kl kp ke : Nat} {C E : Int → Int} {L Pr : Int → Int → Int} (hk : k < gw_N w) (hkc : kc < gw_N w) (hkl : kl < gw_N w) (hkp : kp < gw_N w) (hke : ke < gw_N w) (ek : S k = OB w kc kl kp ke) (ekc : S kc = AI w 4 C) (ekl : S kl = AT w 24 6 L) (ekp : S kp = AT w 24 6 Pr) (eke : S ke = AI w 4 E) {z x : Int} (z0 : 0 ≤ z) (z4 : z < 4) :
    GM0 w l yX0_putExtra wsX0_putExtra { frames := 1, cells := 0, slots := 0, locals := 21 } [.ref (gw_ad w k), vI (z), vI (x)] S
      (fun S' => S' = va_up S ke (AI w 4 (updZ E z x))) := by
  refine GM.start (own := RX0) (n := "putExtra") (d := "(II)V") (by decide) rfl (Nat.le_of_ble_eq_true rfl) ?_
  intro X hX hR hXl
  subst hXl
  refine g_at rfl (lv2 := [(0, .ref (gw_ad w k)), (1, vI (z)), (2, vI (x))]) rfl rfl rfl ?_
  have hz : inI z := inI_mk (by omega) (by omega)
  refine g_iload_n (pc := 0) hX 1 rfl dX0_putExtra_0 ?_
  refine g_aload_n (pc := 1) hX 0 rfl dX0_putExtra_1 ?_
  refine g_get (pc := 2) hX (ci := 0) (fun _ h => List.mem_cons_of_mem _ (List.mem_append_right _ h)) rfl k hk ek 3 (by decide) (List.mem_of_getElem? (i := 1) rfl) rfl (v := .ref (gw_ad w ke)) rfl dX0_putExtra_2 ?_
  refine g_callN1 (pc := 5) (As := [vI (z), .ref (gw_ad w ke)]) (st2 := []) hX (c_X6_isIndex hke eke (by decide) (by first | assumption | exact inI_mk (by omega) (by omega))) ggX0_putExtra_X6_isIndex (List.mem_of_getElem? (i := 5) rfl) (List.mem_of_getElem? (i := 2) rfl) (List.mem_of_getElem? (i := 3) rfl) (n := 2) (hw := rfl) (hrc := rfl) (hrs := rfl) (hd := by decide +kernel) (hR := ⟨Nat.le_of_ble_eq_true rfl, Nat.le_of_ble_eq_true rfl⟩) (hn := rfl) (hst := rfl) (hsum := Nat.le_of_ble_eq_true rfl) (hdg := dX0_putExtra_5) ?_
  rintro _ S9 ⟨rfl, e9⟩
  rw [e9]
  clear e9 S9
  refine g_at (pc2 := 8) rfl rfl (st2 := [vI (bz (decide (0 ≤ z ∧ z < (4 : Nat))))]) rfl (S2 := S) rfl ?_
  refine g_bif_eq (pc := 8) (tgt := 18) hX dX0_putExtra_8 (by decide) (fun c_8 => ?_) (fun c_8 => ?_)
  · skip
    exact absurd c_8 (by rw [Bool.not_eq_false, decide_eq_true_eq]; omega)
  · skip
    refine g_aload_n (pc := 11) hX 0 rfl dX0_putExtra_11 ?_
    refine g_get (pc := 12) hX (ci := 0) (fun _ h => List.mem_cons_of_mem _ (List.mem_append_right _ h)) rfl k hk ek 3 (by decide) (List.mem_of_getElem? (i := 1) rfl) rfl (v := .ref (gw_ad w ke)) rfl dX0_putExtra_12 ?_
    refine g_iload_n (pc := 15) hX 1 rfl dX0_putExtra_15 ?_
    refine g_iload_n (pc := 16) hX 2 rfl dX0_putExtra_16 ?_
    refine g_iast (pc := 17) hX ke hke eke (by omega) (by omega) (by decide) dX0_putExtra_17 ?_
    refine g_at rfl rfl rfl (S2 := (va_up S ke (AI w 4 (updZ (E) (z) (x))))) rfl ?_
    refine g_vret (pc := 18) hX hR dX0_putExtra_18 ?_
    exact rfl

set_option maxHeartbeats 4000000 in
set_option maxRecDepth 100000 in
theorem c_X0_hasBand {w : gW} {l : Launch} {S : Nat → va_E} {k kc kl kp ke : Nat} {C E : Int → Int} {L Pr : Int → Int → Int} (hk : k < gw_N w) (hkc : kc < gw_N w) (hkl : kl < gw_N w) (hkp : kp < gw_N w) (hke : ke < gw_N w) (ek : S k = OB w kc kl kp ke) (ekc : S kc = AI w 4 C) (ekl : S kl = AT w 24 6 L) (ekp : S kp = AT w 24 6 Pr) (eke : S ke = AI w 4 E) {z i : Int} (hC : bcOK C) (hz : inI z) (hi : inI i) :
    GM1 w l yX0_hasBand wsX0_hasBand { frames := 0, cells := 0, slots := 0, locals := 0 } [.ref (gw_ad w k), vI (z), vI (i)] S
      (fun v S' => v = vI (bz (decide (0 ≤ z ∧ z < 4 ∧ 0 ≤ i ∧ i < C z))) ∧ S' = S) := by
  refine GM.start (own := RX0) (n := "hasBand") (d := "(II)Z") (by decide) rfl (Nat.le_of_ble_eq_true rfl) ?_
  intro X hX hR hXl
  subst hXl
  refine g_at rfl (lv2 := [(0, .ref (gw_ad w k)), (1, vI (z)), (2, vI (i))]) rfl rfl rfl ?_
  refine g_iload_n (pc := 0) hX 1 rfl dX0_hasBand_0 ?_
  refine g_if_lt (pc := 1) (tgt := 13) hX (by first | assumption | exact inI_mk (by omega) (by omega)) dX0_hasBand_1 (by decide) (fun c_1 => ?_) (fun c_1 => ?_)
  · skip
    refine g_iconst (pc := 13) hX dX0_hasBand_13 ?_
    refine g_at rfl rfl (st2 := [vI (bz false)]) rfl rfl ?_
    refine g_zret (pc := 14) hX hR dX0_hasBand_14 ?_
    exact ⟨vB_f (df (by omega)), rfl⟩
  · skip
    refine g_iload_n (pc := 4) hX 1 rfl dX0_hasBand_4 ?_
    refine g_aload_n (pc := 5) hX 0 rfl dX0_hasBand_5 ?_
    refine g_get (pc := 6) hX (ci := 0) (fun _ h => List.mem_cons_of_mem _ (List.mem_append_right _ h)) rfl k hk ek 0 (by decide) (List.mem_of_getElem? (i := 1) rfl) rfl (v := .ref (gw_ad w kc)) rfl dX0_hasBand_6 ?_
    refine g_alenAI (pc := 9) hX kc hkc ekc dX0_hasBand_9 ?_
    refine g_icmp_lt (pc := 10) (tgt := 15) hX (by first | assumption | exact inI_mk (by omega) (by omega)) (by first | assumption | exact inI_mk (by omega) (by omega)) dX0_hasBand_10 (by decide) (fun c_10 => ?_) (fun c_10 => ?_)
    · skip
      refine g_iload_n (pc := 15) hX 2 rfl dX0_hasBand_15 ?_
      refine g_if_lt (pc := 16) (tgt := 33) hX (by first | assumption | exact inI_mk (by omega) (by omega)) dX0_hasBand_16 (by decide) (fun c_16 => ?_) (fun c_16 => ?_)
      · skip
        refine g_iconst (pc := 33) hX dX0_hasBand_33 ?_
        refine g_at rfl rfl (st2 := [vI (bz false)]) rfl rfl ?_
        refine g_zret (pc := 34) hX hR dX0_hasBand_34 ?_
        exact ⟨vB_f (df (by omega)), rfl⟩
      · skip
        have hCz := hC z (by omega) (by omega)
        refine g_iload_n (pc := 19) hX 2 rfl dX0_hasBand_19 ?_
        refine g_aload_n (pc := 20) hX 0 rfl dX0_hasBand_20 ?_
        refine g_get (pc := 21) hX (ci := 0) (fun _ h => List.mem_cons_of_mem _ (List.mem_append_right _ h)) rfl k hk ek 0 (by decide) (List.mem_of_getElem? (i := 1) rfl) rfl (v := .ref (gw_ad w kc)) rfl dX0_hasBand_21 ?_
        refine g_iload_n (pc := 24) hX 1 rfl dX0_hasBand_24 ?_
        refine g_iald (pc := 25) hX kc hkc ekc (by omega) (by omega) (by decide) dX0_hasBand_25 ?_
        refine g_icmp_ge (pc := 26) (tgt := 33) hX (by first | assumption | exact inI_mk (by omega) (by omega)) (by first | assumption | exact inI_mk (by omega) (by omega)) dX0_hasBand_26 (by decide) (fun c_26 => ?_) (fun c_26 => ?_)
        · skip
          refine g_iconst (pc := 33) hX dX0_hasBand_33 ?_
          refine g_at rfl rfl (st2 := [vI (bz false)]) rfl rfl ?_
          refine g_zret (pc := 34) hX hR dX0_hasBand_34 ?_
          exact ⟨vB_f (df (by omega)), rfl⟩
        · skip
          refine g_iconst (pc := 29) hX dX0_hasBand_29 ?_
          refine g_goto (pc := 30) (tgt := 34) hX dX0_hasBand_30 (by decide) ?_
          refine g_at rfl rfl (st2 := [vI (bz true)]) rfl rfl ?_
          refine g_zret (pc := 34) hX hR dX0_hasBand_34 ?_
          exact ⟨vB_t (dt (by omega)), rfl⟩
    · skip
      refine g_iconst (pc := 13) hX dX0_hasBand_13 ?_
      refine g_at rfl rfl (st2 := [vI (bz false)]) rfl rfl ?_
      refine g_zret (pc := 14) hX hR dX0_hasBand_14 ?_
      exact ⟨vB_f (df (by omega)), rfl⟩

set_option maxHeartbeats 4000000 in
set_option maxRecDepth 100000 in
theorem c_X0_limitOf {w : gW} {l : Launch} {S : Nat → va_E} {k kc kl kp ke : Nat} {C E : Int → Int} {L Pr : Int → Int → Int} (hk : k < gw_N w) (hkc : kc < gw_N w) (hkl : kl < gw_N w) (hkp : kp < gw_N w) (hke : ke < gw_N w) (ek : S k = OB w kc kl kp ke) (ekc : S kc = AI w 4 C) (ekl : S kl = AT w 24 6 L) (ekp : S kp = AT w 24 6 Pr) (eke : S ke = AI w 4 E) {z i : Int} (hC : bcOK C) (z0 : 0 ≤ z) (z4 : z < 4) (hi : inI i) :
    GM1 w l yX0_limitOf wsX0_limitOf { frames := 1, cells := 0, slots := 0, locals := 22 } [.ref (gw_ad w k), vI (z), vI (i)] S
      (fun v S' => v = vI (bl C L z i) ∧ S' = S) := by
  refine GM.start (own := RX0) (n := "limitOf") (d := "(II)I") (by decide) rfl (Nat.le_of_ble_eq_true rfl) ?_
  intro X hX hR hXl
  subst hXl
  refine g_at rfl (lv2 := [(0, .ref (gw_ad w k)), (1, vI (z)), (2, vI (i))]) rfl rfl rfl ?_
  have hz : inI z := inI_mk (by omega) (by omega)
  have hCz := hC z z0 z4
  refine g_iload_n (pc := 0) hX 1 rfl dX0_limitOf_0 ?_
  refine g_bipush (pc := 1) hX (by decide) dX0_limitOf_1 ?_
  refine g_imul (pc := 3) hX dX0_limitOf_3 ?_
  refine g_iload_n (pc := 4) hX 2 rfl dX0_limitOf_4 ?_
  refine g_iadd (pc := 5) hX dX0_limitOf_5 ?_
  refine g_istore_n (pc := 6) hX (lv2 := [(3, vI ((z * 6) + i)), (0, .ref (gw_ad w k)), (1, vI (z)), (2, vI (i))]) rfl (by decide) rfl dX0_limitOf_6 ?_
  refine g_aload_n (pc := 7) hX 1 rfl dX0_limitOf_7 ?_
  refine g_iload_n (pc := 8) hX 2 rfl dX0_limitOf_8 ?_
  refine g_iload_n (pc := 9) hX 3 rfl dX0_limitOf_9 ?_
  refine g_callV1 (pc := 10) (ci := 0) (As := [vI (z), vI (i)]) (st2 := []) hX k hk ek rfl (c_X0_hasBand hk hkc hkl hkp hke ek ekc ekl ekp eke hC (by first | assumption | exact inI_mk (by omega) (by omega)) (by first | assumption | exact inI_mk (by omega) (by omega))) gX0_limitOf_X0_hasBand (n := 2) (hw := rfl) (hrc := rfl) (hrs := rfl) (hd := by decide +kernel) (hR := ⟨Nat.le_of_ble_eq_true rfl, Nat.le_of_ble_eq_true rfl⟩) (hn := rfl) (hst := rfl) (hsum := Nat.le_of_ble_eq_true rfl) (hdg := dX0_limitOf_10) ?_
  rintro _ S9 ⟨rfl, e9⟩
  rw [e9]
  clear e9 S9
  refine g_at (pc2 := 13) rfl rfl (st2 := [vI (bz (decide (0 ≤ z ∧ z < 4 ∧ 0 ≤ i ∧ i < C z)))]) rfl (S2 := S) rfl ?_
  refine g_bif_eq (pc := 13) (tgt := 36) hX dX0_limitOf_13 (by decide) (fun c_13 => ?_) (fun c_13 => ?_)
  · skip
    refine g_iconst (pc := 36) hX dX0_limitOf_36 ?_
    refine g_iret (pc := 37) hX hR dX0_limitOf_37 ?_
    exact ⟨vI_c (bl_out (by simp only [decide_eq_true_eq, decide_eq_false_iff_not] at *; omega)).symm, rfl⟩
  · skip
    refine g_iload_n (pc := 16) hX 0 rfl dX0_limitOf_16 ?_
    refine g_aload_n (pc := 17) hX 1 rfl dX0_limitOf_17 ?_
    refine g_get (pc := 18) hX (ci := 0) (fun _ h => List.mem_cons_of_mem _ (List.mem_append_right _ h)) rfl k hk ek 1 (by decide) (List.mem_of_getElem? (i := 1) rfl) rfl (v := .ref (gw_ad w kl)) rfl dX0_limitOf_18 ?_
    refine g_callN1 (pc := 21) (As := [vI ((z * 6) + i), .ref (gw_ad w kl)]) (st2 := []) hX (c_X6_isIndex hkl ekl (by decide) (by have hb := of_decide_eq_true c_13; exact inI_mk (by omega) (by omega))) ggX0_limitOf_X6_isIndex (List.mem_of_getElem? (i := 5) rfl) (List.mem_of_getElem? (i := 8) rfl) (List.mem_of_getElem? (i := 9) rfl) (n := 2) (hw := rfl) (hrc := rfl) (hrs := rfl) (hd := by decide +kernel) (hR := ⟨Nat.le_of_ble_eq_true rfl, Nat.le_of_ble_eq_true rfl⟩) (hn := rfl) (hst := rfl) (hsum := Nat.le_of_ble_eq_true rfl) (hdg := dX0_limitOf_21) ?_
    rintro _ S9 ⟨rfl, e9⟩
    rw [e9]
    clear e9 S9
    refine g_at (pc2 := 24) rfl rfl (st2 := [vI (bz (decide (0 ≤ (z * 6) + i ∧ (z * 6) + i < (24 : Nat))))]) rfl (S2 := S) rfl ?_
    refine g_bif_eq (pc := 24) (tgt := 36) hX dX0_limitOf_24 (by decide) (fun c_24 => ?_) (fun c_24 => ?_)
    · skip
      have hb := of_decide_eq_true c_13
      exact absurd c_24 (by rw [Bool.not_eq_false, decide_eq_true_eq]; omega)
    · skip
      refine g_aload_n (pc := 27) hX 1 rfl dX0_limitOf_27 ?_
      refine g_get (pc := 28) hX (ci := 0) (fun _ h => List.mem_cons_of_mem _ (List.mem_append_right _ h)) rfl k hk ek 1 (by decide) (List.mem_of_getElem? (i := 1) rfl) rfl (v := .ref (gw_ad w kl)) rfl dX0_limitOf_28 ?_
      refine g_iload_n (pc := 31) hX 0 rfl dX0_limitOf_31 ?_
      refine g_iald (pc := 32) hX kl hkl ekl (by have hb := of_decide_eq_true c_13; omega) (by have hb := of_decide_eq_true c_13; omega) (by decide) dX0_limitOf_32 ?_
      refine g_goto (pc := 33) (tgt := 37) hX dX0_limitOf_33 (by decide) ?_
      refine g_iret (pc := 37) hX hR dX0_limitOf_37 ?_
      have hb := of_decide_eq_true c_13
      exact ⟨vI_c (by rw [bl_in hb.2.2.1 hb.2.2.2, fl_at _ hb.2.2.1 (by omega)]), rfl⟩

set_option maxHeartbeats 4000000 in
set_option maxRecDepth 100000 in
theorem c_X0_priceOf {w : gW} {l : Launch} {S : Nat → va_E} {k kc kl kp ke : Nat} {C E : Int → Int} {L Pr : Int → Int → Int} (hk : k < gw_N w) (hkc : kc < gw_N w) (hkl : kl < gw_N w) (hkp : kp < gw_N w) (hke : ke < gw_N w) (ek : S k = OB w kc kl kp ke) (ekc : S kc = AI w 4 C) (ekl : S kl = AT w 24 6 L) (ekp : S kp = AT w 24 6 Pr) (eke : S ke = AI w 4 E) {z i : Int} (hC : bcOK C) (z0 : 0 ≤ z) (z4 : z < 4) (hi : inI i) :
    GM1 w l yX0_priceOf wsX0_priceOf { frames := 1, cells := 0, slots := 0, locals := 22 } [.ref (gw_ad w k), vI (z), vI (i)] S
      (fun v S' => v = vI (bl C Pr z i) ∧ S' = S) := by
  refine GM.start (own := RX0) (n := "priceOf") (d := "(II)I") (by decide) rfl (Nat.le_of_ble_eq_true rfl) ?_
  intro X hX hR hXl
  subst hXl
  refine g_at rfl (lv2 := [(0, .ref (gw_ad w k)), (1, vI (z)), (2, vI (i))]) rfl rfl rfl ?_
  have hz : inI z := inI_mk (by omega) (by omega)
  have hCz := hC z z0 z4
  refine g_iload_n (pc := 0) hX 1 rfl dX0_priceOf_0 ?_
  refine g_bipush (pc := 1) hX (by decide) dX0_priceOf_1 ?_
  refine g_imul (pc := 3) hX dX0_priceOf_3 ?_
  refine g_iload_n (pc := 4) hX 2 rfl dX0_priceOf_4 ?_
  refine g_iadd (pc := 5) hX dX0_priceOf_5 ?_
  refine g_istore_n (pc := 6) hX (lv2 := [(3, vI ((z * 6) + i)), (0, .ref (gw_ad w k)), (1, vI (z)), (2, vI (i))]) rfl (by decide) rfl dX0_priceOf_6 ?_
  refine g_aload_n (pc := 7) hX 1 rfl dX0_priceOf_7 ?_
  refine g_iload_n (pc := 8) hX 2 rfl dX0_priceOf_8 ?_
  refine g_iload_n (pc := 9) hX 3 rfl dX0_priceOf_9 ?_
  refine g_callV1 (pc := 10) (ci := 0) (As := [vI (z), vI (i)]) (st2 := []) hX k hk ek rfl (c_X0_hasBand hk hkc hkl hkp hke ek ekc ekl ekp eke hC (by first | assumption | exact inI_mk (by omega) (by omega)) (by first | assumption | exact inI_mk (by omega) (by omega))) gX0_priceOf_X0_hasBand (n := 2) (hw := rfl) (hrc := rfl) (hrs := rfl) (hd := by decide +kernel) (hR := ⟨Nat.le_of_ble_eq_true rfl, Nat.le_of_ble_eq_true rfl⟩) (hn := rfl) (hst := rfl) (hsum := Nat.le_of_ble_eq_true rfl) (hdg := dX0_priceOf_10) ?_
  rintro _ S9 ⟨rfl, e9⟩
  rw [e9]
  clear e9 S9
  refine g_at (pc2 := 13) rfl rfl (st2 := [vI (bz (decide (0 ≤ z ∧ z < 4 ∧ 0 ≤ i ∧ i < C z)))]) rfl (S2 := S) rfl ?_
  refine g_bif_eq (pc := 13) (tgt := 36) hX dX0_priceOf_13 (by decide) (fun c_13 => ?_) (fun c_13 => ?_)
  · skip
    refine g_iconst (pc := 36) hX dX0_priceOf_36 ?_
    refine g_iret (pc := 37) hX hR dX0_priceOf_37 ?_
    exact ⟨vI_c (bl_out (by simp only [decide_eq_true_eq, decide_eq_false_iff_not] at *; omega)).symm, rfl⟩
  · skip
    refine g_iload_n (pc := 16) hX 0 rfl dX0_priceOf_16 ?_
    refine g_aload_n (pc := 17) hX 1 rfl dX0_priceOf_17 ?_
    refine g_get (pc := 18) hX (ci := 0) (fun _ h => List.mem_cons_of_mem _ (List.mem_append_right _ h)) rfl k hk ek 2 (by decide) (List.mem_of_getElem? (i := 1) rfl) rfl (v := .ref (gw_ad w kp)) rfl dX0_priceOf_18 ?_
    refine g_callN1 (pc := 21) (As := [vI ((z * 6) + i), .ref (gw_ad w kp)]) (st2 := []) hX (c_X6_isIndex hkp ekp (by decide) (by have hb := of_decide_eq_true c_13; exact inI_mk (by omega) (by omega))) ggX0_priceOf_X6_isIndex (List.mem_of_getElem? (i := 5) rfl) (List.mem_of_getElem? (i := 8) rfl) (List.mem_of_getElem? (i := 9) rfl) (n := 2) (hw := rfl) (hrc := rfl) (hrs := rfl) (hd := by decide +kernel) (hR := ⟨Nat.le_of_ble_eq_true rfl, Nat.le_of_ble_eq_true rfl⟩) (hn := rfl) (hst := rfl) (hsum := Nat.le_of_ble_eq_true rfl) (hdg := dX0_priceOf_21) ?_
    rintro _ S9 ⟨rfl, e9⟩
    rw [e9]
    clear e9 S9
    refine g_at (pc2 := 24) rfl rfl (st2 := [vI (bz (decide (0 ≤ (z * 6) + i ∧ (z * 6) + i < (24 : Nat))))]) rfl (S2 := S) rfl ?_
    refine g_bif_eq (pc := 24) (tgt := 36) hX dX0_priceOf_24 (by decide) (fun c_24 => ?_) (fun c_24 => ?_)
    · skip
      have hb := of_decide_eq_true c_13
      exact absurd c_24 (by rw [Bool.not_eq_false, decide_eq_true_eq]; omega)
    · skip
      refine g_aload_n (pc := 27) hX 1 rfl dX0_priceOf_27 ?_
      refine g_get (pc := 28) hX (ci := 0) (fun _ h => List.mem_cons_of_mem _ (List.mem_append_right _ h)) rfl k hk ek 2 (by decide) (List.mem_of_getElem? (i := 1) rfl) rfl (v := .ref (gw_ad w kp)) rfl dX0_priceOf_28 ?_
      refine g_iload_n (pc := 31) hX 0 rfl dX0_priceOf_31 ?_
      refine g_iald (pc := 32) hX kp hkp ekp (by have hb := of_decide_eq_true c_13; omega) (by have hb := of_decide_eq_true c_13; omega) (by decide) dX0_priceOf_32 ?_
      refine g_goto (pc := 33) (tgt := 37) hX dX0_priceOf_33 (by decide) ?_
      refine g_iret (pc := 37) hX hR dX0_priceOf_37 ?_
      have hb := of_decide_eq_true c_13
      exact ⟨vI_c (by rw [bl_in hb.2.2.1 hb.2.2.2, fl_at _ hb.2.2.1 (by omega)]), rfl⟩

set_option maxHeartbeats 4000000 in
set_option maxRecDepth 100000 in
theorem c_X0_putBand {w : gW} {l : Launch} {S : Nat → va_E} {k kc kl kp ke : Nat} {C E : Int → Int} {L Pr : Int → Int → Int} (hk : k < gw_N w) (hkc : kc < gw_N w) (hkl : kl < gw_N w) (hkp : kp < gw_N w) (hke : ke < gw_N w) (ek : S k = OB w kc kl kp ke) (ekc : S kc = AI w 4 C) (ekl : S kl = AT w 24 6 L) (ekp : S kp = AT w 24 6 Pr) (eke : S ke = AI w 4 E) {z i x y : Int} (hC : bcOK C) (z0 : 0 ≤ z) (z4 : z < 4) (hi : inI i) (n23 : kl ≠ kp) :
    GM0 w l yX0_putBand wsX0_putBand { frames := 1, cells := 0, slots := 0, locals := 22 } [.ref (gw_ad w k), vI (z), vI (i), vI (x), vI (y)] S
      (fun S' => S' = va_up (va_up S kl (AT w 24 6 (bput C L z i x))) kp (AT w 24 6 (bput C Pr z i y))) := by
  refine GM.start (own := RX0) (n := "putBand") (d := "(IIII)V") (by decide) rfl (Nat.le_of_ble_eq_true rfl) ?_
  intro X hX hR hXl
  subst hXl
  refine g_at rfl (lv2 := [(0, .ref (gw_ad w k)), (1, vI (z)), (2, vI (i)), (3, vI (x)), (4, vI (y))]) rfl rfl rfl ?_
  have hz : inI z := inI_mk (by omega) (by omega)
  have hCz := hC z z0 z4
  refine g_iload_n (pc := 0) hX 1 rfl dX0_putBand_0 ?_
  refine g_bipush (pc := 1) hX (by decide) dX0_putBand_1 ?_
  refine g_imul (pc := 3) hX dX0_putBand_3 ?_
  refine g_iload_n (pc := 4) hX 2 rfl dX0_putBand_4 ?_
  refine g_iadd (pc := 5) hX dX0_putBand_5 ?_
  refine g_istore (pc := 6) hX (lv2 := [(5, vI ((z * 6) + i)), (0, .ref (gw_ad w k)), (1, vI (z)), (2, vI (i)), (3, vI (x)), (4, vI (y))]) (by decide) rfl dX0_putBand_6 ?_
  refine g_aload_n (pc := 8) hX 1 rfl dX0_putBand_8 ?_
  refine g_iload_n (pc := 9) hX 2 rfl dX0_putBand_9 ?_
  refine g_iload_n (pc := 10) hX 3 rfl dX0_putBand_10 ?_
  refine g_callV1 (pc := 11) (ci := 0) (As := [vI (z), vI (i)]) (st2 := []) hX k hk ek rfl (c_X0_hasBand hk hkc hkl hkp hke ek ekc ekl ekp eke hC (by first | assumption | exact inI_mk (by omega) (by omega)) (by first | assumption | exact inI_mk (by omega) (by omega))) gX0_putBand_X0_hasBand (n := 2) (hw := rfl) (hrc := rfl) (hrs := rfl) (hd := by decide +kernel) (hR := ⟨Nat.le_of_ble_eq_true rfl, Nat.le_of_ble_eq_true rfl⟩) (hn := rfl) (hst := rfl) (hsum := Nat.le_of_ble_eq_true rfl) (hdg := dX0_putBand_11) ?_
  rintro _ S9 ⟨rfl, e9⟩
  rw [e9]
  clear e9 S9
  refine g_at (pc2 := 14) rfl rfl (st2 := [vI (bz (decide (0 ≤ z ∧ z < 4 ∧ 0 ≤ i ∧ i < C z)))]) rfl (S2 := S) rfl ?_
  refine g_bif_eq (pc := 14) (tgt := 58) hX dX0_putBand_14 (by decide) (fun c_14 => ?_) (fun c_14 => ?_)
  · skip
    refine g_vret (pc := 58) hX hR dX0_putBand_58 ?_
    have hb : ¬ (0 ≤ i ∧ i < C z) := by simp only [decide_eq_false_iff_not] at c_14; omega
    rw [bput_out hb, bput_out hb, up_self (f := S) ekl, up_self (f := S) ekp]
  · skip
    refine g_iload (pc := 17) hX 0 rfl dX0_putBand_17 ?_
    refine g_aload_n (pc := 19) hX 1 rfl dX0_putBand_19 ?_
    refine g_get (pc := 20) hX (ci := 0) (fun _ h => List.mem_cons_of_mem _ (List.mem_append_right _ h)) rfl k hk ek 1 (by decide) (List.mem_of_getElem? (i := 1) rfl) rfl (v := .ref (gw_ad w kl)) rfl dX0_putBand_20 ?_
    refine g_callN1 (pc := 23) (As := [vI ((z * 6) + i), .ref (gw_ad w kl)]) (st2 := []) hX (c_X6_isIndex hkl ekl (by decide) (by have hb := of_decide_eq_true c_14; exact inI_mk (by omega) (by omega))) ggX0_putBand_X6_isIndex (List.mem_of_getElem? (i := 5) rfl) (List.mem_of_getElem? (i := 9) rfl) (List.mem_of_getElem? (i := 10) rfl) (n := 2) (hw := rfl) (hrc := rfl) (hrs := rfl) (hd := by decide +kernel) (hR := ⟨Nat.le_of_ble_eq_true rfl, Nat.le_of_ble_eq_true rfl⟩) (hn := rfl) (hst := rfl) (hsum := Nat.le_of_ble_eq_true rfl) (hdg := dX0_putBand_23) ?_
    rintro _ S9 ⟨rfl, e9⟩
    rw [e9]
    clear e9 S9
    refine g_at (pc2 := 26) rfl rfl (st2 := [vI (bz (decide (0 ≤ (z * 6) + i ∧ (z * 6) + i < (24 : Nat))))]) rfl (S2 := S) rfl ?_
    refine g_bif_eq (pc := 26) (tgt := 58) hX dX0_putBand_26 (by decide) (fun c_26 => ?_) (fun c_26 => ?_)
    · skip
      have hb := of_decide_eq_true c_14
      exact absurd c_26 (by rw [Bool.not_eq_false, decide_eq_true_eq]; omega)
    · skip
      refine g_iload (pc := 29) hX 0 rfl dX0_putBand_29 ?_
      refine g_aload_n (pc := 31) hX 1 rfl dX0_putBand_31 ?_
      refine g_get (pc := 32) hX (ci := 0) (fun _ h => List.mem_cons_of_mem _ (List.mem_append_right _ h)) rfl k hk ek 2 (by decide) (List.mem_of_getElem? (i := 2) rfl) rfl (v := .ref (gw_ad w kp)) rfl dX0_putBand_32 ?_
      refine g_callN1 (pc := 35) (As := [vI ((z * 6) + i), .ref (gw_ad w kp)]) (st2 := []) hX (c_X6_isIndex hkp ekp (by decide) (by have hb := of_decide_eq_true c_14; exact inI_mk (by omega) (by omega))) ggX0_putBand_X6_isIndex (List.mem_of_getElem? (i := 5) rfl) (List.mem_of_getElem? (i := 9) rfl) (List.mem_of_getElem? (i := 10) rfl) (n := 2) (hw := rfl) (hrc := rfl) (hrs := rfl) (hd := by decide +kernel) (hR := ⟨Nat.le_of_ble_eq_true rfl, Nat.le_of_ble_eq_true rfl⟩) (hn := rfl) (hst := rfl) (hsum := Nat.le_of_ble_eq_true rfl) (hdg := dX0_putBand_35) ?_
      rintro _ S9 ⟨rfl, e9⟩
      rw [e9]
      clear e9 S9
      refine g_at (pc2 := 38) rfl rfl (st2 := [vI (bz (decide (0 ≤ (z * 6) + i ∧ (z * 6) + i < (24 : Nat))))]) rfl (S2 := S) rfl ?_
      refine g_bif_eq (pc := 38) (tgt := 58) hX dX0_putBand_38 (by decide) (fun c_38 => ?_) (fun c_38 => ?_)
      · skip
        have hb := of_decide_eq_true c_14
        exact absurd c_38 (by rw [Bool.not_eq_false, decide_eq_true_eq]; omega)
      · skip
        refine g_aload_n (pc := 41) hX 1 rfl dX0_putBand_41 ?_
        refine g_get (pc := 42) hX (ci := 0) (fun _ h => List.mem_cons_of_mem _ (List.mem_append_right _ h)) rfl k hk ek 1 (by decide) (List.mem_of_getElem? (i := 1) rfl) rfl (v := .ref (gw_ad w kl)) rfl dX0_putBand_42 ?_
        refine g_iload (pc := 45) hX 0 rfl dX0_putBand_45 ?_
        refine g_iload_n (pc := 47) hX 4 rfl dX0_putBand_47 ?_
        refine g_iast (pc := 48) hX kl hkl ekl (by have hb := of_decide_eq_true c_14; omega) (by have hb := of_decide_eq_true c_14; omega) (by decide) dX0_putBand_48 ?_
        refine g_at rfl rfl rfl (S2 := (va_up S kl (AI w 24 (updZ ((fl 6 L)) ((z * 6) + i) (x))))) rfl ?_
        refine g_aload_n (pc := 49) hX 1 rfl dX0_putBand_49 ?_
        refine g_get (pc := 50) hX (ci := 0) (fun _ h => List.mem_cons_of_mem _ (List.mem_append_right _ h)) rfl k hk (up_ne (by intro h; rw [h, ekl] at ek; cases ek) ek) 2 (by decide) (List.mem_of_getElem? (i := 2) rfl) rfl (v := .ref (gw_ad w kp)) rfl dX0_putBand_50 ?_
        refine g_iload (pc := 53) hX 0 rfl dX0_putBand_53 ?_
        refine g_iload (pc := 55) hX 5 rfl dX0_putBand_55 ?_
        refine g_iast (pc := 57) hX kp hkp (up_ne (Ne.symm n23) ekp) (by have hb := of_decide_eq_true c_14; omega) (by have hb := of_decide_eq_true c_14; omega) (by decide) dX0_putBand_57 ?_
        refine g_at rfl rfl rfl (S2 := (va_up (va_up S kl (AI w 24 (updZ ((fl 6 L)) ((z * 6) + i) (x)))) kp (AI w 24 (updZ ((fl 6 Pr)) ((z * 6) + i) (y))))) rfl ?_
        refine g_vret (pc := 58) hX hR dX0_putBand_58 ?_
        have hb := of_decide_eq_true c_14
        rw [bput_in hb.2.2.1 hb.2.2.2, bput_in hb.2.2.1 hb.2.2.2, fl_upd _ _ hb.2.2.1 (by omega), fl_upd _ _ hb.2.2.1 (by omega)]

set_option maxHeartbeats 4000000 in
set_option maxRecDepth 100000 in
theorem c_X0_bandFor {w : gW} {l : Launch} {S : Nat → va_E} {k kc kl kp ke : Nat} {C E : Int → Int} {L Pr : Int → Int → Int} (hk : k < gw_N w) (hkc : kc < gw_N w) (hkl : kl < gw_N w) (hkp : kp < gw_N w) (hke : ke < gw_N w) (ek : S k = OB w kc kl kp ke) (ekc : S kc = AI w 4 C) (ekl : S kl = AT w 24 6 L) (ekp : S kp = AT w 24 6 Pr) (eke : S ke = AI w 4 E) {z x : Int} (hC : bcOK C) (z0 : 0 ≤ z) (z4 : z < 4) (hx : inI x) (hL : ∀ a b, inI (L a b)) :
    GM1 w l yX0_bandFor wsX0_bandFor { frames := 2, cells := 0, slots := 0, locals := 45 } [.ref (gw_ad w k), vI (z), vI (x)] S
      (fun v S' => v = vI (bfor (bl C L z) x (C z).toNat 0) ∧ S' = S) := by
  refine GM.start (own := RX0) (n := "bandFor") (d := "(II)I") (by decide) rfl (Nat.le_of_ble_eq_true rfl) ?_
  intro X hX hR hXl
  subst hXl
  refine g_at rfl (lv2 := [(0, .ref (gw_ad w k)), (1, vI (z)), (2, vI (x))]) rfl rfl rfl ?_
  have hz : inI z := inI_mk (by omega) (by omega)
  have hCz := hC z z0 z4
  refine g_aload_n (pc := 0) hX 0 rfl dX0_bandFor_0 ?_
  refine g_iload_n (pc := 1) hX 1 rfl dX0_bandFor_1 ?_
  refine g_callV1 (pc := 2) (ci := 0) (As := [vI (z)]) (st2 := []) hX k hk ek rfl (c_X0_bandsOf hk hkc hkl hkp hke ek ekc ekl ekp eke (by omega) (by omega)) gX0_bandFor_X0_bandsOf (n := 1) (hw := rfl) (hrc := rfl) (hrs := rfl) (hd := by decide +kernel) (hR := ⟨Nat.le_of_ble_eq_true rfl, Nat.le_of_ble_eq_true rfl⟩) (hn := rfl) (hst := rfl) (hsum := Nat.le_of_ble_eq_true rfl) (hdg := dX0_bandFor_2) ?_
  rintro _ S9 ⟨rfl, e9⟩
  rw [e9]
  clear e9 S9
  refine g_at (pc2 := 5) rfl rfl (st2 := [vI (C z)]) rfl (S2 := S) rfl ?_
  refine g_istore_n (pc := 5) hX (lv2 := [(3, vI (C z)), (0, .ref (gw_ad w k)), (1, vI (z)), (2, vI (x))]) rfl (by decide) rfl dX0_bandFor_5 ?_
  refine g_iconst (pc := 6) hX dX0_bandFor_6 ?_
  refine g_istore (pc := 7) hX (lv2 := [(4, vI (0)), (3, vI (C z)), (0, .ref (gw_ad w k)), (1, vI (z)), (2, vI (x))]) (by decide) rfl dX0_bandFor_7 ?_
  have loop : ∀ (n0 : Nat) (c : Int), 0 ≤ c → c ≤ C z → C z - c < n0 → (bfor (bl C L z) x (C z - c).toNat c = bfor (bl C L z) x (C z).toNat 0) → G w { frames := 2, cells := 0, slots := 0, locals := 45 } X 5 9 [(4, vI (c)), (0, .ref (gw_ad w k)), (1, vI (z)), (2, vI (x)), (3, vI (C z))] [] S := by
    intro n0
    induction n0 with
    | zero => intro c h1c h2c h3c; exact absurd h3c (by omega)
    | succ n0 ihloop =>
      intro c h1c h2c h3c hb
      have hc : inI c := inI_mk (by omega) (by omega)
      refine g_iload (pc := 9) hX 0 rfl dX0_bandFor_9 ?_
      refine g_iload_n (pc := 11) hX 4 rfl dX0_bandFor_11 ?_
      refine g_icmp_ge (pc := 12) (tgt := 35) hX (by first | assumption | exact inI_mk (by omega) (by omega)) (by first | assumption | exact inI_mk (by omega) (by omega)) dX0_bandFor_12 (by decide) (fun c_12 => ?_) (fun c_12 => ?_)
      · skip
        refine g_iload_n (pc := 35) hX 4 rfl dX0_bandFor_35 ?_
        refine g_iret (pc := 36) hX hR dX0_bandFor_36 ?_
        rw [show (C z - c).toNat = 0 by omega] at hb
        exact ⟨vI_c (by rw [← hb, show c = C z by omega]; rfl), rfl⟩
      · skip
        refine g_aload_n (pc := 15) hX 1 rfl dX0_bandFor_15 ?_
        refine g_iload_n (pc := 16) hX 2 rfl dX0_bandFor_16 ?_
        refine g_iload (pc := 17) hX 0 rfl dX0_bandFor_17 ?_
        refine g_callV1 (pc := 19) (ci := 0) (As := [vI (z), vI (c)]) (st2 := []) hX k hk ek rfl (c_X0_limitOf hk hkc hkl hkp hke ek ekc ekl ekp eke hC z0 z4 (by first | assumption | exact inI_mk (by omega) (by omega))) gX0_bandFor_X0_limitOf (n := 2) (hw := rfl) (hrc := rfl) (hrs := rfl) (hd := by decide +kernel) (hR := ⟨Nat.le_of_ble_eq_true rfl, Nat.le_of_ble_eq_true rfl⟩) (hn := rfl) (hst := rfl) (hsum := Nat.le_of_ble_eq_true rfl) (hdg := dX0_bandFor_19) ?_
        rintro _ S9 ⟨rfl, e9⟩
        rw [e9]
        clear e9 S9
        refine g_at (pc2 := 22) rfl rfl (st2 := [vI (bl C L z c)]) rfl (S2 := S) rfl ?_
        refine g_iload_n (pc := 22) hX 3 rfl dX0_bandFor_22 ?_
        refine g_icmp_lt (pc := 23) (tgt := 29) hX (inI_bl hL) (by first | assumption | exact inI_mk (by omega) (by omega)) dX0_bandFor_23 (by decide) (fun c_23 => ?_) (fun c_23 => ?_)
        · skip
          refine g_iinc (pc := 29) hX (lv2 := [(4, vI (c + 1)), (0, .ref (gw_ad w k)), (1, vI (z)), (2, vI (x)), (3, vI (C z))]) 0 rfl (by decide) rfl dX0_bandFor_29 ?_
          refine g_goto (pc := 32) (tgt := 9) hX dX0_bandFor_32 (by decide) ?_
          refine g_sub (lv2 := [(4, vI (c + 1)), (0, .ref (gw_ad w k)), (1, vI (z)), (2, vI (x)), (3, vI (C z))]) [0, 1, 2, 3, 4] rfl ?_
          refine g_at rfl (lv2 := [(4, vI (c + 1)), (0, .ref (gw_ad w k)), (1, vI (z)), (2, vI (x)), (3, vI (C z))]) (rfl) rfl (S2 := S) (rfl) ?_
          exact ihloop (c + 1) (by omega) (by omega) (by omega) (by rw [show (C z - c).toNat = (C z - (c + 1)).toNat + 1 by omega] at hb; rw [← hb]; exact (if_neg (Int.not_le.mpr c_23)).symm)
        · skip
          refine g_iload (pc := 26) hX 0 rfl dX0_bandFor_26 ?_
          refine g_iret (pc := 28) hX hR dX0_bandFor_28 ?_
          rw [show (C z - c).toNat = (C z - (c + 1)).toNat + 1 by omega] at hb
          exact ⟨vI_c (by rw [← hb]; exact (if_pos c_23).symm), rfl⟩
  refine g_sub (lv2 := [(4, vI (0)), (0, .ref (gw_ad w k)), (1, vI (z)), (2, vI (x)), (3, vI (C z))]) [0, 2, 3, 4, 1] rfl ?_
  refine g_at rfl (lv2 := [(4, vI (0)), (0, .ref (gw_ad w k)), (1, vI (z)), (2, vI (x)), (3, vI (C z))]) (rfl) rfl (S2 := S) (rfl) ?_
  exact loop (C z - 0 + 1).toNat 0 (by omega) (by omega) (by omega) (by rw [Int.sub_zero])

set_option maxHeartbeats 4000000 in
set_option maxRecDepth 100000 in
theorem c_X0_openBand {w : gW} {l : Launch} {S : Nat → va_E} {k kc kl kp ke : Nat} {C E : Int → Int} {L Pr : Int → Int → Int} (hk : k < gw_N w) (hkc : kc < gw_N w) (hkl : kl < gw_N w) (hkp : kp < gw_N w) (hke : ke < gw_N w) (ek : S k = OB w kc kl kp ke) (ekc : S kc = AI w 4 C) (ekl : S kl = AT w 24 6 L) (ekp : S kp = AT w 24 6 Pr) (eke : S ke = AI w 4 E) {z i : Int} (hC : bcOK C) (z0 : 0 ≤ z) (z4 : z < 4) (hi : 0 ≤ i) (hi2 : i ≤ C z) (h6 : C z < 6) (n01 : k ≠ kc) (n02 : k ≠ kl) (n03 : k ≠ kp) (n04 : k ≠ ke) (n12 : kc ≠ kl) (n13 : kc ≠ kp) (n14 : kc ≠ ke) (n23 : kl ≠ kp) (n24 : kl ≠ ke) (n34 : kp ≠ ke) :
    GM0 w l yX0_openBand wsX0_openBand { frames := 2, cells := 0, slots := 0, locals := 47 } [.ref (gw_ad w k), vI (z), vI (i)] S
      (fun S' => S' = va_up (va_up (va_up S kc (AI w 4 (updZ C z (C z + 1)))) kl (AT w 24 6 (bopen (C z) L z (C z - i)))) kp (AT w 24 6 (bopen (C z) Pr z (C z - i)))) := by
  refine GM.start (own := RX0) (n := "openBand") (d := "(II)V") (by decide) rfl (Nat.le_of_ble_eq_true rfl) ?_
  intro X hX hR hXl
  subst hXl
  refine g_at rfl (lv2 := [(0, .ref (gw_ad w k)), (1, vI (z)), (2, vI (i))]) rfl rfl rfl ?_
  have hz : inI z := inI_mk (by omega) (by omega)
  have hCz := hC z z0 z4
  refine g_iload_n (pc := 0) hX 1 rfl dX0_openBand_0 ?_
  refine g_aload_n (pc := 1) hX 0 rfl dX0_openBand_1 ?_
  refine g_get (pc := 2) hX (ci := 0) (fun _ h => List.mem_cons_of_mem _ (List.mem_append_right _ h)) rfl k hk ek 0 (by decide) (List.mem_of_getElem? (i := 1) rfl) rfl (v := .ref (gw_ad w kc)) rfl dX0_openBand_2 ?_
  refine g_callN1 (pc := 5) (As := [vI (z), .ref (gw_ad w kc)]) (st2 := []) hX (c_X6_isIndex hkc ekc (by decide) (by first | assumption | exact inI_mk (by omega) (by omega))) ggX0_openBand_X6_isIndex (List.mem_of_getElem? (i := 5) rfl) (List.mem_of_getElem? (i := 2) rfl) (List.mem_of_getElem? (i := 3) rfl) (n := 2) (hw := rfl) (hrc := rfl) (hrs := rfl) (hd := by decide +kernel) (hR := ⟨Nat.le_of_ble_eq_true rfl, Nat.le_of_ble_eq_true rfl⟩) (hn := rfl) (hst := rfl) (hsum := Nat.le_of_ble_eq_true rfl) (hdg := dX0_openBand_5) ?_
  rintro _ S9 ⟨rfl, e9⟩
  rw [e9]
  clear e9 S9
  refine g_at (pc2 := 8) rfl rfl (st2 := [vI (bz (decide (0 ≤ z ∧ z < (4 : Nat))))]) rfl (S2 := S) rfl ?_
  refine g_bif_eq (pc := 8) (tgt := 21) hX dX0_openBand_8 (by decide) (fun c_8 => ?_) (fun c_8 => ?_)
  · skip
    exact absurd c_8 (by rw [Bool.not_eq_false, decide_eq_true_eq]; omega)
  · skip
    refine g_aload_n (pc := 11) hX 0 rfl dX0_openBand_11 ?_
    refine g_get (pc := 12) hX (ci := 0) (fun _ h => List.mem_cons_of_mem _ (List.mem_append_right _ h)) rfl k hk ek 0 (by decide) (List.mem_of_getElem? (i := 1) rfl) rfl (v := .ref (gw_ad w kc)) rfl dX0_openBand_12 ?_
    refine g_iload_n (pc := 15) hX 1 rfl dX0_openBand_15 ?_
    refine g_dup2 (pc := 16) hX rfl rfl dX0_openBand_16 ?_
    refine g_iald (pc := 17) hX kc hkc ekc (by omega) (by omega) (by decide) dX0_openBand_17 ?_
    refine g_iconst (pc := 18) hX dX0_openBand_18 ?_
    refine g_iadd (pc := 19) hX dX0_openBand_19 ?_
    refine g_iast (pc := 20) hX kc hkc ekc (by omega) (by omega) (by decide) dX0_openBand_20 ?_
    refine g_at rfl rfl rfl (S2 := (va_up S kc (AI w 4 (updZ (C) (z) ((C z) + 1))))) rfl ?_
    obtain ⟨C2, eC2⟩ : ∃ f : Int → Int, f = updZ (C) (z) ((C z) + 1) := ⟨_, rfl⟩
    refine g_at rfl rfl rfl (S2 := (va_up S kc (AI w 4 (C2)))) (by rw [eC2]) ?_
    have hC2z : C2 z = C z + 1 := by rw [eC2]; exact updZ_eq _ _ _
    have hC2 : bcOK C2 := by
      intro a h1 h2
      rw [eC2]
      unfold updZ
      split
      · omega
      · exact hC a h1 h2
    refine g_aload_n (pc := 21) hX 0 rfl dX0_openBand_21 ?_
    refine g_iload_n (pc := 22) hX 1 rfl dX0_openBand_22 ?_
    refine g_callV1 (pc := 23) (ci := 0) (As := [vI (z)]) (st2 := []) hX k hk (up_ne n01 ek) rfl (c_X0_bandsOf hk hkc hkl hkp hke (up_ne n01 ek) (up_eq _ _ _) (up_ne (Ne.symm n12) ekl) (up_ne (Ne.symm n13) ekp) (up_ne (Ne.symm n14) eke) (by omega) (by omega)) gX0_openBand_X0_bandsOf (n := 1) (hw := rfl) (hrc := rfl) (hrs := rfl) (hd := by decide +kernel) (hR := ⟨Nat.le_of_ble_eq_true rfl, Nat.le_of_ble_eq_true rfl⟩) (hn := rfl) (hst := rfl) (hsum := Nat.le_of_ble_eq_true rfl) (hdg := dX0_openBand_23) ?_
    rintro _ S9 ⟨rfl, e9⟩
    rw [e9]
    clear e9 S9
    refine g_at (pc2 := 26) rfl rfl (st2 := [vI (C2 z)]) rfl (S2 := (va_up S kc (AI w 4 (C2)))) rfl ?_
    refine g_iconst (pc := 26) hX dX0_openBand_26 ?_
    refine g_isub (pc := 27) hX dX0_openBand_27 ?_
    refine g_istore_n (pc := 28) hX (lv2 := [(3, vI ((C2 z) - 1)), (0, .ref (gw_ad w k)), (1, vI (z)), (2, vI (i))]) rfl (by decide) rfl dX0_openBand_28 ?_
    have loop : ∀ (n0 : Nat) (c : Int), 0 ≤ c → c ≤ C z - i → C z - i - c < n0 → G w { frames := 2, cells := 0, slots := 0, locals := 47 } X 4 29 [(3, vI (C z - c)), (0, .ref (gw_ad w k)), (1, vI (z)), (2, vI (i))] [] (va_up (va_up (va_up S kc (AI w 4 C2)) kl (AT w 24 6 (bopen (C z) L z c))) kp (AT w 24 6 (bopen (C z) Pr z c))) := by
      intro n0
      induction n0 with
      | zero => intro c h1c h2c h3c; exact absurd h3c (by omega)
      | succ n0 ihloop =>
        intro c h1c h2c h3c 
        have hc : inI c := inI_mk (by omega) (by omega)
        refine g_iload_n (pc := 29) hX 0 rfl dX0_openBand_29 ?_
        refine g_iload_n (pc := 30) hX 3 rfl dX0_openBand_30 ?_
        refine g_icmp_le (pc := 31) (tgt := 62) hX (by first | assumption | exact inI_mk (by omega) (by omega)) (by first | assumption | exact inI_mk (by omega) (by omega)) dX0_openBand_31 (by decide) (fun c_31 => ?_) (fun c_31 => ?_)
        · skip
          refine g_vret (pc := 62) hX hR dX0_openBand_62 ?_
          rw [show C z - i = c by omega, eC2]
        · skip
          refine g_aload_n (pc := 34) hX 1 rfl dX0_openBand_34 ?_
          refine g_iload_n (pc := 35) hX 2 rfl dX0_openBand_35 ?_
          refine g_iload_n (pc := 36) hX 0 rfl dX0_openBand_36 ?_
          refine g_aload_n (pc := 37) hX 1 rfl dX0_openBand_37 ?_
          refine g_iload_n (pc := 38) hX 2 rfl dX0_openBand_38 ?_
          refine g_iload_n (pc := 39) hX 0 rfl dX0_openBand_39 ?_
          refine g_iconst (pc := 40) hX dX0_openBand_40 ?_
          refine g_isub (pc := 41) hX dX0_openBand_41 ?_
          refine g_callV1 (pc := 42) (ci := 0) (As := [vI (z), vI ((C z - c) - 1)]) (st2 := [vI (C z - c), vI (z), .ref (gw_ad w k)]) hX k hk (up_ne n03 (up_ne n02 (up_ne n01 ek))) rfl (c_X0_limitOf hk hkc hkl hkp hke (up_ne n03 (up_ne n02 (up_ne n01 ek))) (up_ne n13 (up_ne n12 (up_eq _ _ _))) (up_ne n23 (up_eq _ _ _)) (up_eq _ _ _) (up_ne (Ne.symm n34) (up_ne (Ne.symm n24) (up_ne (Ne.symm n14) eke))) hC2 z0 z4 (by first | assumption | exact inI_mk (by omega) (by omega))) gX0_openBand_X0_limitOf (n := 2) (hw := rfl) (hrc := rfl) (hrs := rfl) (hd := by decide +kernel) (hR := ⟨Nat.le_of_ble_eq_true rfl, Nat.le_of_ble_eq_true rfl⟩) (hn := rfl) (hst := rfl) (hsum := Nat.le_of_ble_eq_true rfl) (hdg := dX0_openBand_42) ?_
          rintro _ S9 ⟨rfl, e9⟩
          rw [e9]
          clear e9 S9
          refine g_at (pc2 := 45) rfl rfl (st2 := [vI (bl C2 (bopen (C z) L z c) z ((C z - c) - 1)), vI (C z - c), vI (z), .ref (gw_ad w k)]) rfl (S2 := (va_up (va_up (va_up S kc (AI w 4 C2)) kl (AT w 24 6 (bopen (C z) L z c))) kp (AT w 24 6 (bopen (C z) Pr z c)))) rfl ?_
          refine g_aload_n (pc := 45) hX 1 rfl dX0_openBand_45 ?_
          refine g_iload_n (pc := 46) hX 2 rfl dX0_openBand_46 ?_
          refine g_iload_n (pc := 47) hX 0 rfl dX0_openBand_47 ?_
          refine g_iconst (pc := 48) hX dX0_openBand_48 ?_
          refine g_isub (pc := 49) hX dX0_openBand_49 ?_
          refine g_callV1 (pc := 50) (ci := 0) (As := [vI (z), vI ((C z - c) - 1)]) (st2 := [vI (bl C2 (bopen (C z) L z c) z ((C z - c) - 1)), vI (C z - c), vI (z), .ref (gw_ad w k)]) hX k hk (up_ne n03 (up_ne n02 (up_ne n01 ek))) rfl (c_X0_priceOf hk hkc hkl hkp hke (up_ne n03 (up_ne n02 (up_ne n01 ek))) (up_ne n13 (up_ne n12 (up_eq _ _ _))) (up_ne n23 (up_eq _ _ _)) (up_eq _ _ _) (up_ne (Ne.symm n34) (up_ne (Ne.symm n24) (up_ne (Ne.symm n14) eke))) hC2 z0 z4 (by first | assumption | exact inI_mk (by omega) (by omega))) gX0_openBand_X0_priceOf (n := 2) (hw := rfl) (hrc := rfl) (hrs := rfl) (hd := by decide +kernel) (hR := ⟨Nat.le_of_ble_eq_true rfl, Nat.le_of_ble_eq_true rfl⟩) (hn := rfl) (hst := rfl) (hsum := Nat.le_of_ble_eq_true rfl) (hdg := dX0_openBand_50) ?_
          rintro _ S9 ⟨rfl, e9⟩
          rw [e9]
          clear e9 S9
          refine g_at (pc2 := 53) rfl rfl (st2 := [vI (bl C2 (bopen (C z) Pr z c) z ((C z - c) - 1)), vI (bl C2 (bopen (C z) L z c) z ((C z - c) - 1)), vI (C z - c), vI (z), .ref (gw_ad w k)]) rfl (S2 := (va_up (va_up (va_up S kc (AI w 4 C2)) kl (AT w 24 6 (bopen (C z) L z c))) kp (AT w 24 6 (bopen (C z) Pr z c)))) rfl ?_
          refine g_callV0 (pc := 53) (ci := 0) (As := [vI (z), vI (C z - c), vI (bl C2 (bopen (C z) L z c) z ((C z - c) - 1)), vI (bl C2 (bopen (C z) Pr z c) z ((C z - c) - 1))]) (st2 := []) hX k hk (up_ne n03 (up_ne n02 (up_ne n01 ek))) rfl (c_X0_putBand hk hkc hkl hkp hke (up_ne n03 (up_ne n02 (up_ne n01 ek))) (up_ne n13 (up_ne n12 (up_eq _ _ _))) (up_ne n23 (up_eq _ _ _)) (up_eq _ _ _) (up_ne (Ne.symm n34) (up_ne (Ne.symm n24) (up_ne (Ne.symm n14) eke))) hC2 z0 z4 (by first | assumption | exact inI_mk (by omega) (by omega)) n23) gX0_openBand_X0_putBand (n := 4) (hw := rfl) (hrc := rfl) (hrs := rfl) (hd := by decide +kernel) (hR := ⟨Nat.le_of_ble_eq_true rfl, Nat.le_of_ble_eq_true rfl⟩) (hn := rfl) (hst := rfl) (hsum := Nat.le_of_ble_eq_true rfl) (hdg := dX0_openBand_53) ?_
          rintro _ rfl
          refine g_at (pc2 := 56) rfl rfl (st2 := []) rfl (S2 := (va_up (va_up (va_up (va_up (va_up S kc (AI w 4 C2)) kl (AT w 24 6 (bopen (C z) L z c))) kp (AT w 24 6 (bopen (C z) Pr z c))) kl (AI w 24 ((fl 6 (bput C2 (bopen (C z) L z c) z (C z - c) (bl C2 (bopen (C z) L z c) z ((C z - c) - 1))))))) kp (AI w 24 ((fl 6 (bput C2 (bopen (C z) Pr z c) z (C z - c) (bl C2 (bopen (C z) Pr z c) z ((C z - c) - 1)))))))) rfl ?_
          refine g_iinc (pc := 56) hX (lv2 := [(3, vI (C z - c + (-1))), (0, .ref (gw_ad w k)), (1, vI (z)), (2, vI (i))]) 0 rfl (by decide) rfl dX0_openBand_56 ?_
          refine g_goto (pc := 59) (tgt := 29) hX dX0_openBand_59 (by decide) ?_
          refine g_sub (lv2 := [(3, vI (C z - c + (-1))), (0, .ref (gw_ad w k)), (1, vI (z)), (2, vI (i))]) [0, 1, 2, 3] rfl ?_
          refine g_at rfl (lv2 := [(3, vI (C z - (c + 1))), (0, .ref (gw_ad w k)), (1, vI (z)), (2, vI (i))]) (by rw [show C z - c + -1 = C z - (c + 1) by omega]) rfl (S2 := (va_up (va_up (va_up S kc (AI w 4 C2)) kl (AT w 24 6 (bopen (C z) L z (c + 1)))) kp (AT w 24 6 (bopen (C z) Pr z (c + 1))))) (by rw [bopen_s hC2z h1c (by omega), bopen_s hC2z h1c (by omega), up_abab n23]) ?_
          exact ihloop (c + 1) (by omega) (by omega) (by omega) 
    refine g_sub (lv2 := [(3, vI ((C2 z) - 1)), (0, .ref (gw_ad w k)), (1, vI (z)), (2, vI (i))]) [0, 1, 2, 3] rfl ?_
    refine g_at rfl (lv2 := [(3, vI (C z - 0)), (0, .ref (gw_ad w k)), (1, vI (z)), (2, vI (i))]) (by rw [hC2z, Int.add_sub_cancel, Int.sub_zero]) rfl (S2 := (va_up (va_up (va_up S kc (AI w 4 C2)) kl (AT w 24 6 (bopen (C z) L z 0))) kp (AT w 24 6 (bopen (C z) Pr z 0)))) (by rw [bopen_0, bopen_0, up_self (f := va_up S kc (AI w 4 C2)) (up_ne (Ne.symm n12) ekl), up_self (f := va_up S kc (AI w 4 C2)) (up_ne (Ne.symm n13) ekp)]) ?_
    exact loop (C z - i - 0 + 1).toNat 0 (by omega) (by omega) (by omega) 
