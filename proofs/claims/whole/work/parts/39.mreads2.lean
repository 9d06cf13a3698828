def toldV (V : Int → Int) (p x : Int) : Int := if x = 9 then girZ (V (570 + 12 * p + 1)) (V (570 + 12 * p + 2)) (V (570 + 12 * p + 3)) else if x = 10 then mopZ V p else V (570 + 12 * p + x)
def sdV (V : Int → Int) (p : Int) : Prop := (1 ≤ V (570 + 12 * p + 1) ∧ V (570 + 12 * p + 1) ≤ 2000) ∧ (1 ≤ V (570 + 12 * p + 2) ∧ V (570 + 12 * p + 2) ≤ 2000) ∧ (1 ≤ V (570 + 12 * p + 3) ∧ V (570 + 12 * p + 3) ≤ 2000)
def rgo (h : Int) : Nat → Int → Int → Int
  | 0, _, _ => -1000009
  | n + 1, k, l => if h / ((2 ^ k.toNat : Nat) : Int) % 2 = 1 then (if l = 0 then 30 + k else rgo h n (k + 1) (l - 1)) else rgo h n (k + 1) l
def rsV (V : Int → Int) (p i : Int) : Int := if i < 2 then V (570 + 12 * p + (9 + i)) else rgo (V (570 + 12 * p + 11)) 8 0 (i - 2)
theorem lI_shr {x k : Int} (h : 0 ≤ x) (h2 : x < 4611686018427387904) (h0 : 0 ≤ k) (h8 : k < 8) : lI x >>> ((iI k).toInt64 &&& 63) = lI (x / ((2 ^ k.toNat : Nat) : Int)) := by
  have key : ((((iI k).toInt64 &&& 63).toBitVec).smod 64).toNat = k.toNat := by
    rcases (show k = 0 ∨ k = 1 ∨ k = 2 ∨ k = 3 ∨ k = 4 ∨ k = 5 ∨ k = 6 ∨ k = 7 by omega) with e | e | e | e | e | e | e | e <;> subst e <;> decide
  rw [lI_lN h, pf_shr (d := k.toNat) key (by omega), lN_lI]
  congr 1
  rw [Int.natCast_ediv]
  congr 1
  omega
def smV (V : Int → Int) (x : Int) : Int := if x = 1 then V 21 else if x = 0 then zsum (fun r => V (570 + 12 * r + 8)) (V 19).toNat else if x = 2 then zsum (fun r => V (570 + 12 * r + 0)) (V 19).toNat else if x = 3 then zsum (fun r => V (570 + 12 * r + 6)) (V 19).toNat else zsum (fun r => if V (570 + 12 * r + 9) = 2 then 1 else 0) (V 19).toNat
def smF (V : Int → Int) (x : Int) : Int → Int := fun r => if x = 0 then V (570 + 12 * r + 8) else if x = 2 then V (570 + 12 * r + 0) else if x = 3 then V (570 + 12 * r + 6) else if V (570 + 12 * r + 9) = 2 then 1 else 0
theorem smV_e (V : Int → Int) {x : Int} (h : x ≠ 1) : zsum (smF V x) (V 19).toNat = smV V x := by
  unfold smV
  rw [if_neg h]
  by_cases h0 : x = 0
  · rw [if_pos h0, show smF V x = fun r => V (570 + 12 * r + 8) from funext (fun r => if_pos h0)]
  · rw [if_neg h0]
    by_cases h2 : x = 2
    · rw [if_pos h2, show smF V x = fun r => V (570 + 12 * r + 0) from funext (fun r => by unfold smF; rw [if_neg h0, if_pos h2])]
    · rw [if_neg h2]
      by_cases h3 : x = 3
      · rw [if_pos h3, show smF V x = fun r => V (570 + 12 * r + 6) from funext (fun r => by unfold smF; rw [if_neg h0, if_neg h2, if_pos h3])]
      · rw [if_neg h3, show smF V x = fun r => if V (570 + 12 * r + 9) = 2 then 1 else 0 from funext (fun r => by unfold smF; rw [if_neg h0, if_neg h2, if_neg h3])]
def unV (PV V : Int → Int) (b c : Int) : Int → Int := fun k => if 0 ≤ k ∧ k < c then PV (b + k) else V k
theorem unV_0 (PV V : Int → Int) (b : Int) : unV PV V b 0 = V := by
  funext k
  exact if_neg (by omega)
theorem unV_s {PV V : Int → Int} {b c : Int} (h : 0 ≤ c) : updZ (unV PV V b c) c (PV (b + c)) = unV PV V b (c + 1) := by
  funext k
  unfold updZ unV
  by_cases h1 : k = c
  · rw [if_pos h1, if_pos (by omega), h1]
  · rw [if_neg h1]
    by_cases h2 : 0 ≤ k ∧ k < c
    · rw [if_pos h2, if_pos (by omega)]
    · rw [if_neg h2, if_neg (by omega)]

set_option maxHeartbeats 4000000 in
set_option maxRecDepth 100000 in
theorem c_X7_parcelAt {w : gW} {l : Launch} {S : Nat → va_E}  {z k : Int} :
    GM1 w l yX7_parcelAt wsX7_parcelAt { frames := 0, cells := 0, slots := 0, locals := 0 } [vI (z), vI (k)] S
      (fun v S' => v = vI (570 + 12 * z + k) ∧ S' = S) := by
  refine GM.start (own := RX7) (n := "parcelAt") (d := "(II)I") (by decide) rfl (Nat.le_of_ble_eq_true rfl) ?_
  intro X hX hR hXl
  subst hXl
  refine g_at rfl (lv2 := [(0, vI (z)), (1, vI (k))]) rfl rfl rfl ?_
  refine g_sipush (pc := 0) hX (by decide) dX7_parcelAt_0 ?_
  refine g_bipush (pc := 3) hX (by decide) dX7_parcelAt_3 ?_
  refine g_iload_n (pc := 5) hX 0 rfl dX7_parcelAt_5 ?_
  refine g_imul (pc := 6) hX dX7_parcelAt_6 ?_
  refine g_iadd (pc := 7) hX dX7_parcelAt_7 ?_
  refine g_iload_n (pc := 8) hX 1 rfl dX7_parcelAt_8 ?_
  refine g_iadd (pc := 9) hX dX7_parcelAt_9 ?_
  refine g_iret (pc := 10) hX hR dX7_parcelAt_10 ?_
  exact ⟨rfl, rfl⟩

set_option maxHeartbeats 4000000 in
set_option maxRecDepth 100000 in
theorem c_X7_noteAt {w : gW} {l : Launch} {S : Nat → va_E}  {z k : Int} :
    GM1 w l yX7_noteAt wsX7_noteAt { frames := 0, cells := 0, slots := 0, locals := 0 } [vI (z), vI (k)] S
      (fun v S' => v = vI (940 + 12 * z + k) ∧ S' = S) := by
  refine GM.start (own := RX7) (n := "noteAt") (d := "(II)I") (by decide) rfl (Nat.le_of_ble_eq_true rfl) ?_
  intro X hX hR hXl
  subst hXl
  refine g_at rfl (lv2 := [(0, vI (z)), (1, vI (k))]) rfl rfl rfl ?_
  refine g_sipush (pc := 0) hX (by decide) dX7_noteAt_0 ?_
  refine g_bipush (pc := 3) hX (by decide) dX7_noteAt_3 ?_
  refine g_iload_n (pc := 5) hX 0 rfl dX7_noteAt_5 ?_
  refine g_imul (pc := 6) hX dX7_noteAt_6 ?_
  refine g_iadd (pc := 7) hX dX7_noteAt_7 ?_
  refine g_iload_n (pc := 8) hX 1 rfl dX7_noteAt_8 ?_
  refine g_iadd (pc := 9) hX dX7_noteAt_9 ?_
  refine g_iret (pc := 10) hX hR dX7_noteAt_10 ?_
  exact ⟨rfl, rfl⟩

set_option maxHeartbeats 4000000 in
set_option maxRecDepth 100000 in
theorem c_X7_parcels {w : gW} {l : Launch} {S : Nat → va_E} {pm tm xm at_ wm wh : Int} {ir : Bool} {V PV TY TX MK MM CH AM WT WK FL PI : Int → Int} (hN : gw_N w = 105) (hm : modelAt w pm tm xm at_ wm wh ir V PV TY TX MK MM CH AM WT WK FL PI S) :
    GM1 w l yX7_parcels wsX7_parcels { frames := 0, cells := 0, slots := 0, locals := 0 } [.ref (gw_ad w 92)] S
      (fun v S' => v = vI (V 19) ∧ S' = S) := by
  refine GM.start (own := RX7) (n := "parcels") (d := "()I") (by decide) rfl (Nat.le_of_ble_eq_true rfl) ?_
  intro X hX hR hXl
  subst hXl
  refine g_at rfl (lv2 := [(0, .ref (gw_ad w 92))]) rfl rfl rfl ?_
  obtain ⟨⟨m92, m93, m94⟩, ⟨m95, m96⟩, ⟨m97, m98, m99, m100, m101⟩, ⟨m102, m103, m104⟩⟩ := (id hm)
  refine g_aload_n (pc := 0) hX 0 rfl dX7_parcels_0 ?_
  refine g_get (pc := 1) hX (ci := 7) (fun _ h => List.mem_cons_of_mem _ (List.mem_append_right _ h)) rfl 92 (by omega) m92 0 (by decide) (List.mem_of_getElem? (i := 1) rfl) rfl (v := .ref (gw_ad w 93)) rfl dX7_parcels_1 ?_
  refine g_bipush (pc := 4) hX (by decide) dX7_parcels_4 ?_
  refine g_lald (pc := 6) hX 93 (by omega) m93 (by omega) (by omega) (by decide) dX7_parcels_6 ?_
  refine g_l2i (pc := 7) hX dX7_parcels_7 ?_
  refine g_iret (pc := 8) hX hR dX7_parcels_8 ?_
  exact ⟨rfl, rfl⟩

set_option maxHeartbeats 4000000 in
set_option maxRecDepth 100000 in
theorem c_X7_notes {w : gW} {l : Launch} {S : Nat → va_E} {pm tm xm at_ wm wh : Int} {ir : Bool} {V PV TY TX MK MM CH AM WT WK FL PI : Int → Int} (hN : gw_N w = 105) (hm : modelAt w pm tm xm at_ wm wh ir V PV TY TX MK MM CH AM WT WK FL PI S) :
    GM1 w l yX7_notes wsX7_notes { frames := 0, cells := 0, slots := 0, locals := 0 } [.ref (gw_ad w 92)] S
      (fun v S' => v = vI (V 20) ∧ S' = S) := by
  refine GM.start (own := RX7) (n := "notes") (d := "()I") (by decide) rfl (Nat.le_of_ble_eq_true rfl) ?_
  intro X hX hR hXl
  subst hXl
  refine g_at rfl (lv2 := [(0, .ref (gw_ad w 92))]) rfl rfl rfl ?_
  obtain ⟨⟨m92, m93, m94⟩, ⟨m95, m96⟩, ⟨m97, m98, m99, m100, m101⟩, ⟨m102, m103, m104⟩⟩ := (id hm)
  refine g_aload_n (pc := 0) hX 0 rfl dX7_notes_0 ?_
  refine g_get (pc := 1) hX (ci := 7) (fun _ h => List.mem_cons_of_mem _ (List.mem_append_right _ h)) rfl 92 (by omega) m92 0 (by decide) (List.mem_of_getElem? (i := 1) rfl) rfl (v := .ref (gw_ad w 93)) rfl dX7_notes_1 ?_
  refine g_bipush (pc := 4) hX (by decide) dX7_notes_4 ?_
  refine g_lald (pc := 6) hX 93 (by omega) m93 (by omega) (by omega) (by decide) dX7_notes_6 ?_
  refine g_l2i (pc := 7) hX dX7_notes_7 ?_
  refine g_iret (pc := 8) hX hR dX7_notes_8 ?_
  exact ⟨rfl, rfl⟩

set_option maxHeartbeats 4000000 in
set_option maxRecDepth 100000 in
theorem c_X7_isParcel {w : gW} {l : Launch} {S : Nat → va_E} {pm tm xm at_ wm wh : Int} {ir : Bool} {V PV TY TX MK MM CH AM WT WK FL PI : Int → Int} (hN : gw_N w = 105) (hm : modelAt w pm tm xm at_ wm wh ir V PV TY TX MK MM CH AM WT WK FL PI S) (hL : vLim V) {p : Int} (hp : inI p) :
    GM1 w l yX7_isParcel wsX7_isParcel { frames := 1, cells := 0, slots := 0, locals := 25 } [.ref (gw_ad w 92), vI (p)] S
      (fun v S' => v = vI (bz (decide (0 ≤ p ∧ p ≤ V 19 - 1))) ∧ S' = S) := by
  refine GM.start (own := RX7) (n := "isParcel") (d := "(I)Z") (by decide) rfl (Nat.le_of_ble_eq_true rfl) ?_
  intro X hX hR hXl
  subst hXl
  refine g_at rfl (lv2 := [(0, .ref (gw_ad w 92)), (1, vI (p))]) rfl rfl rfl ?_
  obtain ⟨⟨m92, m93, m94⟩, ⟨m95, m96⟩, ⟨m97, m98, m99, m100, m101⟩, ⟨m102, m103, m104⟩⟩ := (id hm)
  have h19 := hL 19
  refine g_iload_n (pc := 0) hX 1 rfl dX7_isParcel_0 ?_
  refine g_i2l (pc := 1) hX (by first | assumption | exact inI_mk (by omega) (by omega)) dX7_isParcel_1 ?_
  refine g_lconst (pc := 2) hX (z := 0) rfl dX7_isParcel_2 ?_
  refine g_aload_n (pc := 3) hX 0 rfl dX7_isParcel_3 ?_
  refine g_get (pc := 4) hX (ci := 7) (fun _ h => List.mem_cons_of_mem _ (List.mem_append_right _ h)) rfl 92 (by omega) m92 0 (by decide) (List.mem_of_getElem? (i := 1) rfl) rfl (v := .ref (gw_ad w 93)) rfl dX7_isParcel_4 ?_
  refine g_bipush (pc := 7) hX (by decide) dX7_isParcel_7 ?_
  refine g_lald (pc := 9) hX 93 (by omega) m93 (by omega) (by omega) (by decide) dX7_isParcel_9 ?_
  refine g_lconst (pc := 10) hX (z := 1) rfl dX7_isParcel_10 ?_
  refine g_lsub (pc := 11) hX dX7_isParcel_11 ?_
  refine g_callT1 (pc := 12) (As := [vL (p), vL (0), vL ((V 19) - 1)]) (st2 := []) hX (c_X7_in (x := p) (a := 0) (b := (V 19) - 1) (by first | assumption | exact inI_L (by assumption) | exact inL_mk (by omega) (by omega)) (by first | assumption | exact inI_L (by assumption) | exact inL_mk (by omega) (by omega)) (by first | assumption | exact inI_L (by assumption) | exact inL_mk (by omega) (by omega))) gX7_isParcel_X7_in (n := 3) (hw := rfl) (hrc := rfl) (hrs := rfl) (hd := by decide +kernel) (hR := ⟨Nat.le_of_ble_eq_true rfl, Nat.le_of_ble_eq_true rfl⟩) (hn := rfl) (hst := rfl) (hsum := Nat.le_of_ble_eq_true rfl) (hdg := dX7_isParcel_12) ?_
  rintro _ S9 ⟨rfl, e9⟩
  rw [e9]
  clear e9 S9
  refine g_at (pc2 := 15) rfl rfl (st2 := [vI (bz (decide (0 ≤ p ∧ p ≤ (V 19) - 1)))]) rfl (S2 := S) rfl ?_
  refine g_zret (pc := 15) hX hR dX7_isParcel_15 ?_
  exact ⟨rfl, rfl⟩

set_option maxHeartbeats 4000000 in
set_option maxRecDepth 100000 in
theorem c_X7_note {w : gW} {l : Launch} {S : Nat → va_E} {pm tm xm at_ wm wh : Int} {ir : Bool} {V PV TY TX MK MM CH AM WT WK FL PI : Int → Int} (hN : gw_N w = 105) (hm : modelAt w pm tm xm at_ wm wh ir V PV TY TX MK MM CH AM WT WK FL PI S) (hL : vLim V) (h20 : 0 ≤ V 20 ∧ V 20 ≤ 20) {n x : Int} (hn : inI n) (hx : inI x) :
    GM1 w l yX7_note wsX7_note { frames := 1, cells := 0, slots := 0, locals := 25 } [.ref (gw_ad w 92), vI (n), vI (x)] S
      (fun v S' => v = vI (if (0 ≤ n ∧ n ≤ V 20 - 1) ∧ 0 ≤ x ∧ x ≤ 5 then V (940 + 12 * n + x) else -1000001) ∧ S' = S) := by
  refine GM.start (own := RX7) (n := "note") (d := "(II)I") (by decide) rfl (Nat.le_of_ble_eq_true rfl) ?_
  intro X hX hR hXl
  subst hXl
  refine g_at rfl (lv2 := [(0, .ref (gw_ad w 92)), (1, vI (n)), (2, vI (x))]) rfl rfl rfl ?_
  obtain ⟨⟨m92, m93, m94⟩, ⟨m95, m96⟩, ⟨m97, m98, m99, m100, m101⟩, ⟨m102, m103, m104⟩⟩ := (id hm)
  refine g_iload_n (pc := 0) hX 1 rfl dX7_note_0 ?_
  refine g_i2l (pc := 1) hX (by first | assumption | exact inI_mk (by omega) (by omega)) dX7_note_1 ?_
  refine g_lconst (pc := 2) hX (z := 0) rfl dX7_note_2 ?_
  refine g_aload_n (pc := 3) hX 0 rfl dX7_note_3 ?_
  refine g_get (pc := 4) hX (ci := 7) (fun _ h => List.mem_cons_of_mem _ (List.mem_append_right _ h)) rfl 92 (by omega) m92 0 (by decide) (List.mem_of_getElem? (i := 1) rfl) rfl (v := .ref (gw_ad w 93)) rfl dX7_note_4 ?_
  refine g_bipush (pc := 7) hX (by decide) dX7_note_7 ?_
  refine g_lald (pc := 9) hX 93 (by omega) m93 (by omega) (by omega) (by decide) dX7_note_9 ?_
  refine g_lconst (pc := 10) hX (z := 1) rfl dX7_note_10 ?_
  refine g_lsub (pc := 11) hX dX7_note_11 ?_
  refine g_callT1 (pc := 12) (As := [vL (n), vL (0), vL ((V 20) - 1)]) (st2 := []) hX (c_X7_in (x := n) (a := 0) (b := (V 20) - 1) (by first | assumption | exact inI_L (by assumption) | exact inL_mk (by omega) (by omega)) (by first | assumption | exact inI_L (by assumption) | exact inL_mk (by omega) (by omega)) (by first | assumption | exact inI_L (by assumption) | exact inL_mk (by omega) (by omega))) gX7_note_X7_in (n := 3) (hw := rfl) (hrc := rfl) (hrs := rfl) (hd := by decide +kernel) (hR := ⟨Nat.le_of_ble_eq_true rfl, Nat.le_of_ble_eq_true rfl⟩) (hn := rfl) (hst := rfl) (hsum := Nat.le_of_ble_eq_true rfl) (hdg := dX7_note_12) ?_
  rintro _ S9 ⟨rfl, e9⟩
  rw [e9]
  clear e9 S9
  refine g_at (pc2 := 15) rfl rfl (st2 := [vI (bz (decide (0 ≤ n ∧ n ≤ (V 20) - 1)))]) rfl (S2 := S) rfl ?_
  refine g_bif_eq (pc := 15) (tgt := 44) hX dX7_note_15 (by decide) (fun c_15 => ?_) (fun c_15 => ?_)
  · skip
    refine g_ldc (pc := 44) hX (z := -1000001) (List.mem_of_getElem? (i := 3) rfl) (by decide +kernel) dX7_note_44 ?_
    refine g_iret (pc := 46) hX hR dX7_note_46 ?_
    try simp only [decide_eq_true_eq, decide_eq_false_iff_not] at c_15
    exact ⟨vI_c (if_neg (by omega)).symm, rfl⟩
  · skip
    have hn1 := of_decide_eq_true c_15
    refine g_iload_n (pc := 18) hX 2 rfl dX7_note_18 ?_
    refine g_i2l (pc := 19) hX (by first | assumption | exact inI_mk (by omega) (by omega)) dX7_note_19 ?_
    refine g_lconst (pc := 20) hX (z := 0) rfl dX7_note_20 ?_
    refine g_ldc2 (pc := 21) hX (z := 5) (List.mem_of_getElem? (i := 2) rfl) (by decide +kernel) dX7_note_21 ?_
    refine g_callT1 (pc := 24) (As := [vL (x), vL (0), vL (5)]) (st2 := []) hX (c_X7_in (x := x) (a := 0) (b := 5) (by first | assumption | exact inI_L (by assumption) | exact inL_mk (by omega) (by omega)) (by first | assumption | exact inI_L (by assumption) | exact inL_mk (by omega) (by omega)) (by first | assumption | exact inI_L (by assumption) | exact inL_mk (by omega) (by omega))) gX7_note_X7_in (n := 3) (hw := rfl) (hrc := rfl) (hrs := rfl) (hd := by decide +kernel) (hR := ⟨Nat.le_of_ble_eq_true rfl, Nat.le_of_ble_eq_true rfl⟩) (hn := rfl) (hst := rfl) (hsum := Nat.le_of_ble_eq_true rfl) (hdg := dX7_note_24) ?_
    rintro _ S9 ⟨rfl, e9⟩
    rw [e9]
    clear e9 S9
    refine g_at (pc2 := 27) rfl rfl (st2 := [vI (bz (decide (0 ≤ x ∧ x ≤ 5)))]) rfl (S2 := S) rfl ?_
    refine g_bif_eq (pc := 27) (tgt := 44) hX dX7_note_27 (by decide) (fun c_27 => ?_) (fun c_27 => ?_)
    · skip
      refine g_ldc (pc := 44) hX (z := -1000001) (List.mem_of_getElem? (i := 3) rfl) (by decide +kernel) dX7_note_44 ?_
      refine g_iret (pc := 46) hX hR dX7_note_46 ?_
      try simp only [decide_eq_true_eq, decide_eq_false_iff_not] at c_15 c_27
      exact ⟨vI_c (if_neg (by omega)).symm, rfl⟩
    · skip
      have hx1 := of_decide_eq_true c_27
      refine g_aload_n (pc := 30) hX 0 rfl dX7_note_30 ?_
      refine g_get (pc := 31) hX (ci := 7) (fun _ h => List.mem_cons_of_mem _ (List.mem_append_right _ h)) rfl 92 (by omega) m92 0 (by decide) (List.mem_of_getElem? (i := 1) rfl) rfl (v := .ref (gw_ad w 93)) rfl dX7_note_31 ?_
      refine g_iload_n (pc := 34) hX 1 rfl dX7_note_34 ?_
      refine g_iload_n (pc := 35) hX 2 rfl dX7_note_35 ?_
      refine g_callT1 (pc := 36) (As := [vI (n), vI (x)]) (st2 := [.ref (gw_ad w 93)]) hX (c_X7_noteAt (z := n) (k := x)) gX7_note_X7_noteAt (n := 2) (hw := rfl) (hrc := rfl) (hrs := rfl) (hd := by decide +kernel) (hR := ⟨Nat.le_of_ble_eq_true rfl, Nat.le_of_ble_eq_true rfl⟩) (hn := rfl) (hst := rfl) (hsum := Nat.le_of_ble_eq_true rfl) (hdg := dX7_note_36) ?_
      rintro _ S9 ⟨rfl, e9⟩
      rw [e9]
      clear e9 S9
      refine g_at (pc2 := 39) rfl rfl (st2 := [vI (940 + 12 * n + x), .ref (gw_ad w 93)]) rfl (S2 := S) rfl ?_
      refine g_lald (pc := 39) hX 93 (by omega) m93 (by omega) (by omega) (by decide) dX7_note_39 ?_
      refine g_l2i (pc := 40) hX dX7_note_40 ?_
      refine g_goto (pc := 41) (tgt := 46) hX dX7_note_41 (by decide) ?_
      refine g_iret (pc := 46) hX hR dX7_note_46 ?_
      try simp only [decide_eq_true_eq, decide_eq_false_iff_not] at c_15 c_27
      exact ⟨vI_c (if_pos (by omega)).symm, rfl⟩

set_option maxHeartbeats 4000000 in
set_option maxRecDepth 100000 in
theorem c_X7_openOf {w : gW} {l : Launch} {S : Nat → va_E} {pm tm xm at_ wm wh : Int} {ir : Bool} {V PV TY TX MK MM CH AM WT WK FL PI : Int → Int} (hN : gw_N w = 105) (hm : modelAt w pm tm xm at_ wm wh ir V PV TY TX MK MM CH AM WT WK FL PI S) (hL : vLim V) (h20 : 0 ≤ V 20 ∧ V 20 ≤ 20) {p : Int} (hp : inI p) :
    GM1 w l yX7_openOf wsX7_openOf { frames := 1, cells := 0, slots := 0, locals := 21 } [.ref (gw_ad w 92), vI (p)] S
      (fun v S' => v = vI (mopZ V p) ∧ S' = S) := by
  refine GM.start (own := RX7) (n := "openOf") (d := "(I)I") (by decide) rfl (Nat.le_of_ble_eq_true rfl) ?_
  intro X hX hR hXl
  subst hXl
  refine g_at rfl (lv2 := [(0, .ref (gw_ad w 92)), (1, vI (p))]) rfl rfl rfl ?_
  obtain ⟨⟨m92, m93, m94⟩, ⟨m95, m96⟩, ⟨m97, m98, m99, m100, m101⟩, ⟨m102, m103, m104⟩⟩ := (id hm)
  refine g_ldc (pc := 0) hX (z := -1000009) (List.mem_of_getElem? (i := 1) rfl) (by decide +kernel) dX7_openOf_0 ?_
  refine g_istore_n (pc := 2) hX (lv2 := [(2, vI (-1000009)), (0, .ref (gw_ad w 92)), (1, vI (p))]) rfl (by decide) rfl dX7_openOf_2 ?_
  refine g_iconst (pc := 3) hX dX7_openOf_3 ?_
  refine g_istore_n (pc := 4) hX (lv2 := [(3, vI (0)), (2, vI (-1000009)), (0, .ref (gw_ad w 92)), (1, vI (p))]) rfl (by decide) rfl dX7_openOf_4 ?_
  have loop : ∀ (n0 : Nat) (c : Int), 0 ≤ c → c ≤ V 20 → V 20 - c < n0 → G w { frames := 1, cells := 0, slots := 0, locals := 21 } X 4 5 [(3, vI (c)), (0, .ref (gw_ad w 92)), (1, vI (p)), (2, vI (mopF V p (c : Int).toNat))] [] S := by
    intro n0
    induction n0 with
    | zero => intro c  h1c h2c h3c; exact absurd h3c (by omega)
    | succ n0 ihloop =>
      intro c  h1c h2c h3c 
      have hc : inI c := inI_mk (by omega) (by omega)
      have hl0 := hL (940 + 12 * c + 0)
      have hl4 := hL (940 + 12 * c + 4)
      have hmo := mopF_b V p (c : Int).toNat
      have hpA := hp.1; have hpB := hp.2
      refine g_iload_n (pc := 5) hX 0 rfl dX7_openOf_5 ?_
      refine g_i2l (pc := 6) hX (by first | assumption | exact inI_mk (by omega) (by omega)) dX7_openOf_6 ?_
      refine g_aload_n (pc := 7) hX 1 rfl dX7_openOf_7 ?_
      refine g_get (pc := 8) hX (ci := 7) (fun _ h => List.mem_cons_of_mem _ (List.mem_append_right _ h)) rfl 92 (by omega) m92 0 (by decide) (List.mem_of_getElem? (i := 2) rfl) rfl (v := .ref (gw_ad w 93)) rfl dX7_openOf_8 ?_
      refine g_bipush (pc := 11) hX (by decide) dX7_openOf_11 ?_
      refine g_lald (pc := 13) hX 93 (by omega) m93 (by omega) (by omega) (by decide) dX7_openOf_13 ?_
      refine g_lcmp_ge (pc := 14) (tgt := 61) hX (by first | assumption | exact inI_L (by assumption) | exact inL_mk (by omega) (by omega)) (by first | assumption | exact inI_L (by assumption) | exact inL_mk (by omega) (by omega)) dX7_openOf_14 dX7_openOf_15 (by decide) (fun c_14 => ?_) (fun c_14 => ?_)
      · skip
        refine g_iload_n (pc := 61) hX 3 rfl dX7_openOf_61 ?_
        refine g_iret (pc := 62) hX hR dX7_openOf_62 ?_
        rw [show c = V 20 by omega]
        exact ⟨rfl, rfl⟩
      · skip
        refine g_aload_n (pc := 18) hX 1 rfl dX7_openOf_18 ?_
        refine g_get (pc := 19) hX (ci := 7) (fun _ h => List.mem_cons_of_mem _ (List.mem_append_right _ h)) rfl 92 (by omega) m92 0 (by decide) (List.mem_of_getElem? (i := 2) rfl) rfl (v := .ref (gw_ad w 93)) rfl dX7_openOf_19 ?_
        refine g_iload_n (pc := 22) hX 0 rfl dX7_openOf_22 ?_
        refine g_iconst (pc := 23) hX dX7_openOf_23 ?_
        refine g_callT1 (pc := 24) (As := [vI (c), vI (0)]) (st2 := [.ref (gw_ad w 93)]) hX (c_X7_noteAt (z := c) (k := 0)) gX7_openOf_X7_noteAt (n := 2) (hw := rfl) (hrc := rfl) (hrs := rfl) (hd := by decide +kernel) (hR := ⟨Nat.le_of_ble_eq_true rfl, Nat.le_of_ble_eq_true rfl⟩) (hn := rfl) (hst := rfl) (hsum := Nat.le_of_ble_eq_true rfl) (hdg := dX7_openOf_24) ?_
        rintro _ S9 ⟨rfl, e9⟩
        rw [e9]
        clear e9 S9
        refine g_at (pc2 := 27) rfl rfl (st2 := [vI (940 + 12 * c + 0), .ref (gw_ad w 93)]) rfl (S2 := S) rfl ?_
        refine g_lald (pc := 27) hX 93 (by omega) m93 (by omega) (by omega) (by decide) dX7_openOf_27 ?_
        refine g_iload_n (pc := 28) hX 2 rfl dX7_openOf_28 ?_
        refine g_i2l (pc := 29) hX (by first | assumption | exact inI_mk (by omega) (by omega)) dX7_openOf_29 ?_
        refine g_lcmp_ne (pc := 30) (tgt := 53) hX (by first | assumption | exact inI_L (by assumption) | exact inL_mk (by omega) (by omega)) (by first | assumption | exact inI_L (by assumption) | exact inL_mk (by omega) (by omega)) dX7_openOf_30 dX7_openOf_31 (by decide) (fun c_30 => ?_) (fun c_30 => ?_)
        · skip
          refine g_iload_n (pc := 53) hX 3 rfl dX7_openOf_53 ?_
          refine g_istore_n (pc := 54) hX (lv2 := [(2, vI (mopF V p (c : Int).toNat)), (3, vI (c)), (0, .ref (gw_ad w 92)), (1, vI (p))]) rfl (by decide) rfl dX7_openOf_54 ?_
          refine g_iinc (pc := 55) hX (lv2 := [(3, vI (c + 1)), (2, vI (mopF V p (c : Int).toNat)), (0, .ref (gw_ad w 92)), (1, vI (p))]) 1 rfl (by decide) rfl dX7_openOf_55 ?_
          refine g_goto (pc := 58) (tgt := 5) hX dX7_openOf_58 (by decide) ?_
          refine g_sub (lv2 := [(3, vI (c + 1)), (0, .ref (gw_ad w 92)), (1, vI (p)), (2, vI (mopF V p (c : Int).toNat))]) [0, 2, 3, 1] rfl ?_
          refine g_at rfl (lv2 := [(3, vI (c + 1)), (0, .ref (gw_ad w 92)), (1, vI (p)), (2, vI (mopF V p (c + 1 : Int).toNat))]) (by rw [mopF_s V p h1c, if_neg (by omega)]) rfl (S2 := S) (rfl) ?_
          exact ihloop (c + 1)  (by omega) (by omega) (by omega) 
        · skip
          refine g_aload_n (pc := 34) hX 1 rfl dX7_openOf_34 ?_
          refine g_get (pc := 35) hX (ci := 7) (fun _ h => List.mem_cons_of_mem _ (List.mem_append_right _ h)) rfl 92 (by omega) m92 0 (by decide) (List.mem_of_getElem? (i := 2) rfl) rfl (v := .ref (gw_ad w 93)) rfl dX7_openOf_35 ?_
          refine g_iload_n (pc := 38) hX 0 rfl dX7_openOf_38 ?_
          refine g_iconst (pc := 39) hX dX7_openOf_39 ?_
          refine g_callT1 (pc := 40) (As := [vI (c), vI (4)]) (st2 := [.ref (gw_ad w 93)]) hX (c_X7_noteAt (z := c) (k := 4)) gX7_openOf_X7_noteAt (n := 2) (hw := rfl) (hrc := rfl) (hrs := rfl) (hd := by decide +kernel) (hR := ⟨Nat.le_of_ble_eq_true rfl, Nat.le_of_ble_eq_true rfl⟩) (hn := rfl) (hst := rfl) (hsum := Nat.le_of_ble_eq_true rfl) (hdg := dX7_openOf_40) ?_
          rintro _ S9 ⟨rfl, e9⟩
          rw [e9]
          clear e9 S9
          refine g_at (pc2 := 43) rfl rfl (st2 := [vI (940 + 12 * c + 4), .ref (gw_ad w 93)]) rfl (S2 := S) rfl ?_
          refine g_lald (pc := 43) hX 93 (by omega) m93 (by omega) (by omega) (by decide) dX7_openOf_43 ?_
          refine g_lconst (pc := 44) hX (z := 0) rfl dX7_openOf_44 ?_
          refine g_lcmp_ne (pc := 45) (tgt := 53) hX (by first | assumption | exact inI_L (by assumption) | exact inL_mk (by omega) (by omega)) (by first | assumption | exact inI_L (by assumption) | exact inL_mk (by omega) (by omega)) dX7_openOf_45 dX7_openOf_46 (by decide) (fun c_45 => ?_) (fun c_45 => ?_)
          · skip
            refine g_iload_n (pc := 53) hX 3 rfl dX7_openOf_53 ?_
            refine g_istore_n (pc := 54) hX (lv2 := [(2, vI (mopF V p (c : Int).toNat)), (3, vI (c)), (0, .ref (gw_ad w 92)), (1, vI (p))]) rfl (by decide) rfl dX7_openOf_54 ?_
            refine g_iinc (pc := 55) hX (lv2 := [(3, vI (c + 1)), (2, vI (mopF V p (c : Int).toNat)), (0, .ref (gw_ad w 92)), (1, vI (p))]) 1 rfl (by decide) rfl dX7_openOf_55 ?_
            refine g_goto (pc := 58) (tgt := 5) hX dX7_openOf_58 (by decide) ?_
            refine g_sub (lv2 := [(3, vI (c + 1)), (0, .ref (gw_ad w 92)), (1, vI (p)), (2, vI (mopF V p (c : Int).toNat))]) [0, 2, 3, 1] rfl ?_
            refine g_at rfl (lv2 := [(3, vI (c + 1)), (0, .ref (gw_ad w 92)), (1, vI (p)), (2, vI (mopF V p (c + 1 : Int).toNat))]) (by rw [mopF_s V p h1c, if_neg (by omega)]) rfl (S2 := S) (rfl) ?_
            exact ihloop (c + 1)  (by omega) (by omega) (by omega) 
          · skip
            refine g_iload_n (pc := 49) hX 0 rfl dX7_openOf_49 ?_
            refine g_goto (pc := 50) (tgt := 54) hX dX7_openOf_50 (by decide) ?_
            refine g_istore_n (pc := 54) hX (lv2 := [(2, vI (c)), (3, vI (c)), (0, .ref (gw_ad w 92)), (1, vI (p))]) rfl (by decide) rfl dX7_openOf_54 ?_
            refine g_iinc (pc := 55) hX (lv2 := [(3, vI (c + 1)), (2, vI (c)), (0, .ref (gw_ad w 92)), (1, vI (p))]) 1 rfl (by decide) rfl dX7_openOf_55 ?_
            refine g_goto (pc := 58) (tgt := 5) hX dX7_openOf_58 (by decide) ?_
            refine g_sub (lv2 := [(3, vI (c + 1)), (0, .ref (gw_ad w 92)), (1, vI (p)), (2, vI (c))]) [0, 2, 3, 1] rfl ?_
            refine g_at rfl (lv2 := [(3, vI (c + 1)), (0, .ref (gw_ad w 92)), (1, vI (p)), (2, vI (mopF V p (c + 1 : Int).toNat))]) (by rw [mopF_s V p h1c, if_pos (by omega)]) rfl (S2 := S) (rfl) ?_
            exact ihloop (c + 1)  (by omega) (by omega) (by omega) 
  refine g_sub (lv2 := [(3, vI (0)), (0, .ref (gw_ad w 92)), (1, vI (p)), (2, vI (-1000009))]) [0, 2, 3, 1] rfl ?_
  refine g_at rfl (lv2 := [(3, vI (0)), (0, .ref (gw_ad w 92)), (1, vI (p)), (2, vI (mopF V p (0 : Int).toNat))]) (rfl) rfl (S2 := S) (rfl) ?_
  exact loop ((V 20 : Int) - 0 + 1).toNat 0  (by omega) (by omega) (by omega) 

set_option maxHeartbeats 4000000 in
set_option maxRecDepth 100000 in
theorem c_X7_told {w : gW} {l : Launch} {S : Nat → va_E} {pm tm xm at_ wm wh : Int} {ir : Bool} {V PV TY TX MK MM CH AM WT WK FL PI : Int → Int} (hN : gw_N w = 105) (hm : modelAt w pm tm xm at_ wm wh ir V PV TY TX MK MM CH AM WT WK FL PI S) (hL : vLim V) (h20 : 0 ≤ V 20 ∧ V 20 ≤ 20) {p x : Int} (hp : 0 ≤ p ∧ p < 30) (hx : 0 ≤ x ∧ x ≤ 10) (hsd : sdV V p) :
    GM1 w l yX7_told wsX7_told { frames := 2, cells := 0, slots := 0, locals := 52 } [.ref (gw_ad w 92), vI (p), vI (x)] S
      (fun v S' => v = vL (toldV V p x) ∧ S' = S) := by
  refine GM.start (own := RX7) (n := "told") (d := "(II)J") (by decide) rfl (Nat.le_of_ble_eq_true rfl) ?_
  intro X hX hR hXl
  subst hXl
  refine g_at rfl (lv2 := [(0, .ref (gw_ad w 92)), (1, vI (p)), (2, vI (x))]) rfl rfl rfl ?_
  obtain ⟨⟨m92, m93, m94⟩, ⟨m95, m96⟩, ⟨m97, m98, m99, m100, m101⟩, ⟨m102, m103, m104⟩⟩ := (id hm)
  have ha := hsd.1; have hb := hsd.2.1; have hc := hsd.2.2
  have hpI : inI p := inI_mk (by omega) (by omega)
  have hmz := mopF_b V p (V 20).toNat
  refine g_iload_n (pc := 0) hX 2 rfl dX7_told_0 ?_
  refine g_bipush (pc := 1) hX (by decide) dX7_told_1 ?_
  refine g_icmp_ne (pc := 3) (tgt := 40) hX (by first | assumption | exact inI_mk (by omega) (by omega)) (by first | assumption | exact inI_mk (by omega) (by omega)) dX7_told_3 (by decide) (fun c_3 => ?_) (fun c_3 => ?_)
  · skip
    refine g_iload_n (pc := 40) hX 2 rfl dX7_told_40 ?_
    refine g_bipush (pc := 41) hX (by decide) dX7_told_41 ?_
    refine g_icmp_ne (pc := 43) (tgt := 55) hX (by first | assumption | exact inI_mk (by omega) (by omega)) (by first | assumption | exact inI_mk (by omega) (by omega)) dX7_told_43 (by decide) (fun c_43 => ?_) (fun c_43 => ?_)
    · skip
      refine g_aload_n (pc := 55) hX 0 rfl dX7_told_55 ?_
      refine g_get (pc := 56) hX (ci := 7) (fun _ h => List.mem_cons_of_mem _ (List.mem_append_right _ h)) rfl 92 (by omega) m92 0 (by decide) (List.mem_of_getElem? (i := 1) rfl) rfl (v := .ref (gw_ad w 93)) rfl dX7_told_56 ?_
      refine g_iload_n (pc := 59) hX 1 rfl dX7_told_59 ?_
      refine g_iload_n (pc := 60) hX 2 rfl dX7_told_60 ?_
      refine g_callT1 (pc := 61) (As := [vI (p), vI (x)]) (st2 := [.ref (gw_ad w 93)]) hX (c_X7_parcelAt (z := p) (k := x)) gX7_told_X7_parcelAt (n := 2) (hw := rfl) (hrc := rfl) (hrs := rfl) (hd := by decide +kernel) (hR := ⟨Nat.le_of_ble_eq_true rfl, Nat.le_of_ble_eq_true rfl⟩) (hn := rfl) (hst := rfl) (hsum := Nat.le_of_ble_eq_true rfl) (hdg := dX7_told_61) ?_
      rintro _ S9 ⟨rfl, e9⟩
      rw [e9]
      clear e9 S9
      refine g_at (pc2 := 64) rfl rfl (st2 := [vI (570 + 12 * p + x), .ref (gw_ad w 93)]) rfl (S2 := S) rfl ?_
      refine g_lald (pc := 64) hX 93 (by omega) m93 (by omega) (by omega) (by decide) dX7_told_64 ?_
      refine g_lret (pc := 65) hX hR dX7_told_65 ?_
      exact ⟨vL_c (by unfold toldV; rw [if_neg c_3, if_neg c_43]), rfl⟩
    · skip
      refine g_aload_n (pc := 46) hX 0 rfl dX7_told_46 ?_
      refine g_iload_n (pc := 47) hX 1 rfl dX7_told_47 ?_
      refine g_callV1 (pc := 48) (ci := 7) (As := [vI (p)]) (st2 := []) hX 92 (by omega) m92 rfl (c_X7_openOf hN hm hL h20 (p := p) (by first | assumption | exact inI_mk (by omega) (by omega))) gX7_told_X7_openOf (n := 1) (hw := rfl) (hrc := rfl) (hrs := rfl) (hd := by decide +kernel) (hR := ⟨Nat.le_of_ble_eq_true rfl, Nat.le_of_ble_eq_true rfl⟩) (hn := rfl) (hst := rfl) (hsum := Nat.le_of_ble_eq_true rfl) (hdg := dX7_told_48) ?_
      rintro _ S9 ⟨rfl, e9⟩
      rw [e9]
      clear e9 S9
      refine g_at (pc2 := 51) rfl rfl (st2 := [vI (mopZ V p)]) rfl (S2 := S) rfl ?_
      refine g_i2l (pc := 51) hX (by show inI (mopF V p (V 20).toNat); rcases hmz with h | h <;> first | (rw [h]; exact inI_mk (by omega) (by omega)) | exact inI_mk (by omega) (by omega)) dX7_told_51 ?_
      refine g_goto (pc := 52) (tgt := 65) hX dX7_told_52 (by decide) ?_
      refine g_lret (pc := 65) hX hR dX7_told_65 ?_
      exact ⟨vL_c (by unfold toldV; rw [if_neg c_3, if_pos c_43]), rfl⟩
  · skip
    refine g_aload_n (pc := 6) hX 0 rfl dX7_told_6 ?_
    refine g_get (pc := 7) hX (ci := 7) (fun _ h => List.mem_cons_of_mem _ (List.mem_append_right _ h)) rfl 92 (by omega) m92 0 (by decide) (List.mem_of_getElem? (i := 1) rfl) rfl (v := .ref (gw_ad w 93)) rfl dX7_told_7 ?_
    refine g_iload_n (pc := 10) hX 1 rfl dX7_told_10 ?_
    refine g_iconst (pc := 11) hX dX7_told_11 ?_
    refine g_callT1 (pc := 12) (As := [vI (p), vI (1)]) (st2 := [.ref (gw_ad w 93)]) hX (c_X7_parcelAt (z := p) (k := 1)) gX7_told_X7_parcelAt (n := 2) (hw := rfl) (hrc := rfl) (hrs := rfl) (hd := by decide +kernel) (hR := ⟨Nat.le_of_ble_eq_true rfl, Nat.le_of_ble_eq_true rfl⟩) (hn := rfl) (hst := rfl) (hsum := Nat.le_of_ble_eq_true rfl) (hdg := dX7_told_12) ?_
    rintro _ S9 ⟨rfl, e9⟩
    rw [e9]
    clear e9 S9
    refine g_at (pc2 := 15) rfl rfl (st2 := [vI (570 + 12 * p + 1), .ref (gw_ad w 93)]) rfl (S2 := S) rfl ?_
    refine g_lald (pc := 15) hX 93 (by omega) m93 (by omega) (by omega) (by decide) dX7_told_15 ?_
    refine g_aload_n (pc := 16) hX 0 rfl dX7_told_16 ?_
    refine g_get (pc := 17) hX (ci := 7) (fun _ h => List.mem_cons_of_mem _ (List.mem_append_right _ h)) rfl 92 (by omega) m92 0 (by decide) (List.mem_of_getElem? (i := 1) rfl) rfl (v := .ref (gw_ad w 93)) rfl dX7_told_17 ?_
    refine g_iload_n (pc := 20) hX 1 rfl dX7_told_20 ?_
    refine g_iconst (pc := 21) hX dX7_told_21 ?_
    refine g_callT1 (pc := 22) (As := [vI (p), vI (2)]) (st2 := [.ref (gw_ad w 93), vL (V (570 + 12 * p + 1))]) hX (c_X7_parcelAt (z := p) (k := 2)) gX7_told_X7_parcelAt (n := 2) (hw := rfl) (hrc := rfl) (hrs := rfl) (hd := by decide +kernel) (hR := ⟨Nat.le_of_ble_eq_true rfl, Nat.le_of_ble_eq_true rfl⟩) (hn := rfl) (hst := rfl) (hsum := Nat.le_of_ble_eq_true rfl) (hdg := dX7_told_22) ?_
    rintro _ S9 ⟨rfl, e9⟩
    rw [e9]
    clear e9 S9
    refine g_at (pc2 := 25) rfl rfl (st2 := [vI (570 + 12 * p + 2), .ref (gw_ad w 93), vL (V (570 + 12 * p + 1))]) rfl (S2 := S) rfl ?_
    refine g_lald (pc := 25) hX 93 (by omega) m93 (by omega) (by omega) (by decide) dX7_told_25 ?_
    refine g_aload_n (pc := 26) hX 0 rfl dX7_told_26 ?_
    refine g_get (pc := 27) hX (ci := 7) (fun _ h => List.mem_cons_of_mem _ (List.mem_append_right _ h)) rfl 92 (by omega) m92 0 (by decide) (List.mem_of_getElem? (i := 1) rfl) rfl (v := .ref (gw_ad w 93)) rfl dX7_told_27 ?_
    refine g_iload_n (pc := 30) hX 1 rfl dX7_told_30 ?_
    refine g_iconst (pc := 31) hX dX7_told_31 ?_
    refine g_callT1 (pc := 32) (As := [vI (p), vI (3)]) (st2 := [.ref (gw_ad w 93), vL (V (570 + 12 * p + 2)), vL (V (570 + 12 * p + 1))]) hX (c_X7_parcelAt (z := p) (k := 3)) gX7_told_X7_parcelAt (n := 2) (hw := rfl) (hrc := rfl) (hrs := rfl) (hd := by decide +kernel) (hR := ⟨Nat.le_of_ble_eq_true rfl, Nat.le_of_ble_eq_true rfl⟩) (hn := rfl) (hst := rfl) (hsum := Nat.le_of_ble_eq_true rfl) (hdg := dX7_told_32) ?_
    rintro _ S9 ⟨rfl, e9⟩
    rw [e9]
    clear e9 S9
    refine g_at (pc2 := 35) rfl rfl (st2 := [vI (570 + 12 * p + 3), .ref (gw_ad w 93), vL (V (570 + 12 * p + 2)), vL (V (570 + 12 * p + 1))]) rfl (S2 := S) rfl ?_
    refine g_lald (pc := 35) hX 93 (by omega) m93 (by omega) (by omega) (by decide) dX7_told_35 ?_
    refine g_callT1 (pc := 36) (As := [vL (V (570 + 12 * p + 1)), vL (V (570 + 12 * p + 2)), vL (V (570 + 12 * p + 3))]) (st2 := []) hX (c_X7_girth (a := V (570 + 12 * p + 1)) (b := V (570 + 12 * p + 2)) (c := V (570 + 12 * p + 3)) ha hb hc) gX7_told_X7_girth (n := 3) (hw := rfl) (hrc := rfl) (hrs := rfl) (hd := by decide +kernel) (hR := ⟨Nat.le_of_ble_eq_true rfl, Nat.le_of_ble_eq_true rfl⟩) (hn := rfl) (hst := rfl) (hsum := Nat.le_of_ble_eq_true rfl) (hdg := dX7_told_36) ?_
    rintro _ S9 ⟨rfl, e9⟩
    rw [e9]
    clear e9 S9
    refine g_at (pc2 := 39) rfl rfl (st2 := [vL (girZ (V (570 + 12 * p + 1)) (V (570 + 12 * p + 2)) (V (570 + 12 * p + 3)))]) rfl (S2 := S) rfl ?_
    refine g_lret (pc := 39) hX hR dX7_told_39 ?_
    exact ⟨vL_c (by unfold toldV; rw [if_pos c_3]), rfl⟩

set_option maxHeartbeats 4000000 in
set_option maxRecDepth 100000 in
theorem c_X7_parcel {w : gW} {l : Launch} {S : Nat → va_E} {pm tm xm at_ wm wh : Int} {ir : Bool} {V PV TY TX MK MM CH AM WT WK FL PI : Int → Int} (hN : gw_N w = 105) (hm : modelAt w pm tm xm at_ wm wh ir V PV TY TX MK MM CH AM WT WK FL PI S) (hL : vLim V) (h20 : 0 ≤ V 20 ∧ V 20 ≤ 20) (h19 : 0 ≤ V 19 ∧ V 19 ≤ 30) (hsp : ∀ p, 0 ≤ p → p < V 19 → sdV V p) {p x : Int} (hp : inI p) (hx : inI x) :
    GM1 w l yX7_parcel wsX7_parcel { frames := 3, cells := 0, slots := 0, locals := 74 } [.ref (gw_ad w 92), vI (p), vI (x)] S
      (fun v S' => v = vI (if (0 ≤ p ∧ p ≤ V 19 - 1) ∧ 0 ≤ x ∧ x ≤ 10 then toldV V p x else -1000001) ∧ S' = S) := by
  refine GM.start (own := RX7) (n := "parcel") (d := "(II)I") (by decide) rfl (Nat.le_of_ble_eq_true rfl) ?_
  intro X hX hR hXl
  subst hXl
  refine g_at rfl (lv2 := [(0, .ref (gw_ad w 92)), (1, vI (p)), (2, vI (x))]) rfl rfl rfl ?_
  obtain ⟨⟨m92, m93, m94⟩, ⟨m95, m96⟩, ⟨m97, m98, m99, m100, m101⟩, ⟨m102, m103, m104⟩⟩ := (id hm)
  refine g_aload_n (pc := 0) hX 0 rfl dX7_parcel_0 ?_
  refine g_iload_n (pc := 1) hX 1 rfl dX7_parcel_1 ?_
  refine g_callV1 (pc := 2) (ci := 7) (As := [vI (p)]) (st2 := []) hX 92 (by omega) m92 rfl (c_X7_isParcel hN hm hL (p := p) (by first | assumption | exact inI_mk (by omega) (by omega))) gX7_parcel_X7_isParcel (n := 1) (hw := rfl) (hrc := rfl) (hrs := rfl) (hd := by decide +kernel) (hR := ⟨Nat.le_of_ble_eq_true rfl, Nat.le_of_ble_eq_true rfl⟩) (hn := rfl) (hst := rfl) (hsum := Nat.le_of_ble_eq_true rfl) (hdg := dX7_parcel_2) ?_
  rintro _ S9 ⟨rfl, e9⟩
  rw [e9]
  clear e9 S9
  refine g_at (pc2 := 5) rfl rfl (st2 := [vI (bz (decide (0 ≤ p ∧ p ≤ V 19 - 1)))]) rfl (S2 := S) rfl ?_
  refine g_bif_eq (pc := 5) (tgt := 30) hX dX7_parcel_5 (by decide) (fun c_5 => ?_) (fun c_5 => ?_)
  · skip
    refine g_ldc (pc := 30) hX (z := -1000001) (List.mem_of_getElem? (i := 2) rfl) (by decide +kernel) dX7_parcel_30 ?_
    refine g_iret (pc := 32) hX hR dX7_parcel_32 ?_
    try simp only [decide_eq_true_eq, decide_eq_false_iff_not] at c_5
    exact ⟨vI_c (if_neg (by omega)).symm, rfl⟩
  · skip
    have hp1 := of_decide_eq_true c_5
    refine g_iload_n (pc := 8) hX 2 rfl dX7_parcel_8 ?_
    refine g_i2l (pc := 9) hX (by first | assumption | exact inI_mk (by omega) (by omega)) dX7_parcel_9 ?_
    refine g_lconst (pc := 10) hX (z := 0) rfl dX7_parcel_10 ?_
    refine g_ldc2 (pc := 11) hX (z := 10) (List.mem_of_getElem? (i := 1) rfl) (by decide +kernel) dX7_parcel_11 ?_
    refine g_callT1 (pc := 14) (As := [vL (x), vL (0), vL (10)]) (st2 := []) hX (c_X7_in (x := x) (a := 0) (b := 10) (by first | assumption | exact inI_L (by assumption) | exact inL_mk (by omega) (by omega)) (by first | assumption | exact inI_L (by assumption) | exact inL_mk (by omega) (by omega)) (by first | assumption | exact inI_L (by assumption) | exact inL_mk (by omega) (by omega))) gX7_parcel_X7_in (n := 3) (hw := rfl) (hrc := rfl) (hrs := rfl) (hd := by decide +kernel) (hR := ⟨Nat.le_of_ble_eq_true rfl, Nat.le_of_ble_eq_true rfl⟩) (hn := rfl) (hst := rfl) (hsum := Nat.le_of_ble_eq_true rfl) (hdg := dX7_parcel_14) ?_
    rintro _ S9 ⟨rfl, e9⟩
    rw [e9]
    clear e9 S9
    refine g_at (pc2 := 17) rfl rfl (st2 := [vI (bz (decide (0 ≤ x ∧ x ≤ 10)))]) rfl (S2 := S) rfl ?_
    refine g_bif_eq (pc := 17) (tgt := 30) hX dX7_parcel_17 (by decide) (fun c_17 => ?_) (fun c_17 => ?_)
    · skip
      refine g_ldc (pc := 30) hX (z := -1000001) (List.mem_of_getElem? (i := 2) rfl) (by decide +kernel) dX7_parcel_30 ?_
      refine g_iret (pc := 32) hX hR dX7_parcel_32 ?_
      try simp only [decide_eq_true_eq, decide_eq_false_iff_not] at c_5 c_17
      exact ⟨vI_c (if_neg (by omega)).symm, rfl⟩
    · skip
      have hx1 := of_decide_eq_true c_17
      refine g_aload_n (pc := 20) hX 0 rfl dX7_parcel_20 ?_
      refine g_iload_n (pc := 21) hX 1 rfl dX7_parcel_21 ?_
      refine g_iload_n (pc := 22) hX 2 rfl dX7_parcel_22 ?_
      refine g_callV1 (pc := 23) (ci := 7) (As := [vI (p), vI (x)]) (st2 := []) hX 92 (by omega) m92 rfl (c_X7_told hN hm hL h20 (p := p) (x := x) (by omega) (by omega) (hsp p hp1.1 (by omega))) gX7_parcel_X7_told (n := 2) (hw := rfl) (hrc := rfl) (hrs := rfl) (hd := by decide +kernel) (hR := ⟨Nat.le_of_ble_eq_true rfl, Nat.le_of_ble_eq_true rfl⟩) (hn := rfl) (hst := rfl) (hsum := Nat.le_of_ble_eq_true rfl) (hdg := dX7_parcel_23) ?_
      rintro _ S9 ⟨rfl, e9⟩
      rw [e9]
      clear e9 S9
      refine g_at (pc2 := 26) rfl rfl (st2 := [vL (toldV V p x)]) rfl (S2 := S) rfl ?_
      refine g_l2i (pc := 26) hX dX7_parcel_26 ?_
      refine g_goto (pc := 27) (tgt := 32) hX dX7_parcel_27 (by decide) ?_
      refine g_iret (pc := 32) hX hR dX7_parcel_32 ?_
      try simp only [decide_eq_true_eq, decide_eq_false_iff_not] at c_5 c_17
      exact ⟨vI_c (if_pos (by omega)).symm, rfl⟩

set_option maxHeartbeats 4000000 in
set_option maxRecDepth 100000 in
theorem c_X7_reason {w : gW} {l : Launch} {S : Nat → va_E} {pm tm xm at_ wm wh : Int} {ir : Bool} {V PV TY TX MK MM CH AM WT WK FL PI : Int → Int} (hN : gw_N w = 105) (hm : modelAt w pm tm xm at_ wm wh ir V PV TY TX MK MM CH AM WT WK FL PI S) {p i : Int} (hp : 0 ≤ p ∧ p < 30) (hi : 0 ≤ i ∧ i ≤ 2147483647) (hh : 0 ≤ V (570 + 12 * p + 11) ∧ V (570 + 12 * p + 11) ≤ 255) :
    GM1 w l yX7_reason wsX7_reason { frames := 1, cells := 0, slots := 0, locals := 21 } [.ref (gw_ad w 92), vI (p), vI (i)] S
      (fun v S' => v = vI (rsV V p i) ∧ S' = S) := by
  refine GM.start (own := RX7) (n := "reason") (d := "(II)I") (by decide) rfl (Nat.le_of_ble_eq_true rfl) ?_
  intro X hX hR hXl
  subst hXl
  refine g_at rfl (lv2 := [(0, .ref (gw_ad w 92)), (1, vI (p)), (2, vI (i))]) rfl rfl rfl ?_
  obtain ⟨⟨m92, m93, m94⟩, ⟨m95, m96⟩, ⟨m97, m98, m99, m100, m101⟩, ⟨m102, m103, m104⟩⟩ := (id hm)
  refine g_iload_n (pc := 0) hX 2 rfl dX7_reason_0 ?_
  refine g_iconst (pc := 1) hX dX7_reason_1 ?_
  refine g_icmp_ge (pc := 2) (tgt := 20) hX (by first | assumption | exact inI_mk (by omega) (by omega)) (by first | assumption | exact inI_mk (by omega) (by omega)) dX7_reason_2 (by decide) (fun c_2 => ?_) (fun c_2 => ?_)
  · skip
    refine g_iload_n (pc := 20) hX 2 rfl dX7_reason_20 ?_
    refine g_iconst (pc := 21) hX dX7_reason_21 ?_
    refine g_isub (pc := 22) hX dX7_reason_22 ?_
    refine g_istore_n (pc := 23) hX (lv2 := [(3, vI (i - 2)), (0, .ref (gw_ad w 92)), (1, vI (p)), (2, vI (i))]) rfl (by decide) rfl dX7_reason_23 ?_
    refine g_iconst (pc := 24) hX dX7_reason_24 ?_
    refine g_istore (pc := 25) hX (lv2 := [(4, vI (0)), (3, vI (i - 2)), (0, .ref (gw_ad w 92)), (1, vI (p)), (2, vI (i))]) (by decide) rfl dX7_reason_25 ?_
    have loop : ∀ (n0 : Nat) (c : Int) (lf : Int), 0 ≤ c → c ≤ 8 → 8 - c < n0 → (-(c) ≤ lf ∧ lf ≤ 2147483647) → (rgo (V (570 + 12 * p + 11)) (8 - c : Int).toNat c lf = rsV V p i) → G w { frames := 1, cells := 0, slots := 0, locals := 21 } X 5 27 [(4, vI (c)), (0, .ref (gw_ad w 92)), (1, vI (p)), (2, vI (i)), (3, vI (lf))] [] S := by
      intro n0
      induction n0 with
      | zero => intro c lf h1c h2c h3c; exact absurd h3c (by omega)
      | succ n0 ihloop =>
        intro c lf h1c h2c h3c hlf hb
        have hc : inI c := inI_mk (by omega) (by omega)
        refine g_iload (pc := 27) hX 0 rfl dX7_reason_27 ?_
        refine g_bipush (pc := 29) hX (by decide) dX7_reason_29 ?_
        refine g_icmp_ge (pc := 31) (tgt := 74) hX (by first | assumption | exact inI_mk (by omega) (by omega)) (by first | assumption | exact inI_mk (by omega) (by omega)) dX7_reason_31 (by decide) (fun c_31 => ?_) (fun c_31 => ?_)
        · skip
          refine g_ldc (pc := 74) hX (z := -1000009) (List.mem_of_getElem? (i := 2) rfl) (by decide +kernel) dX7_reason_74 ?_
          refine g_iret (pc := 76) hX hR dX7_reason_76 ?_
          rw [show (8 - c : Int).toNat = 0 by omega] at hb
          exact ⟨vI_c hb, rfl⟩
        · skip
          refine g_aload_n (pc := 34) hX 1 rfl dX7_reason_34 ?_
          refine g_get (pc := 35) hX (ci := 7) (fun _ h => List.mem_cons_of_mem _ (List.mem_append_right _ h)) rfl 92 (by omega) m92 0 (by decide) (List.mem_of_getElem? (i := 1) rfl) rfl (v := .ref (gw_ad w 93)) rfl dX7_reason_35 ?_
          refine g_iload_n (pc := 38) hX 2 rfl dX7_reason_38 ?_
          refine g_bipush (pc := 39) hX (by decide) dX7_reason_39 ?_
          refine g_callT1 (pc := 41) (As := [vI (p), vI (11)]) (st2 := [.ref (gw_ad w 93)]) hX (c_X7_parcelAt (z := p) (k := 11)) gX7_reason_X7_parcelAt (n := 2) (hw := rfl) (hrc := rfl) (hrs := rfl) (hd := by decide +kernel) (hR := ⟨Nat.le_of_ble_eq_true rfl, Nat.le_of_ble_eq_true rfl⟩) (hn := rfl) (hst := rfl) (hsum := Nat.le_of_ble_eq_true rfl) (hdg := dX7_reason_41) ?_
          rintro _ S9 ⟨rfl, e9⟩
          rw [e9]
          clear e9 S9
          refine g_at (pc2 := 44) rfl rfl (st2 := [vI (570 + 12 * p + 11), .ref (gw_ad w 93)]) rfl (S2 := S) rfl ?_
          refine g_lald (pc := 44) hX 93 (by omega) m93 (by omega) (by omega) (by decide) dX7_reason_44 ?_
          refine g_iload (pc := 45) hX 0 rfl dX7_reason_45 ?_
          refine g_lshr (pc := 47) hX (z := (V (570 + 12 * p + 11)) / ((2 ^ (c : Int).toNat : Nat) : Int)) (lI_shr (by omega) (by omega) h1c (by omega)) dX7_reason_47 ?_
          refine g_lconst (pc := 48) hX (z := 1) rfl dX7_reason_48 ?_
          have hdq : 0 ≤ (V (570 + 12 * p + 11)) / ((2 ^ (c : Int).toNat : Nat) : Int) ∧ (V (570 + 12 * p + 11)) / ((2 ^ (c : Int).toNat : Nat) : Int) ≤ 255 := ⟨Int.ediv_nonneg (by omega) (Int.natCast_nonneg _), Int.le_trans (Int.ediv_le_self _ (by omega)) (by omega)⟩
          refine g_land (pc := 49) hX (z := ((V (570 + 12 * p + 11)) / ((2 ^ (c : Int).toNat : Nat) : Int)) % 2) (lI_and1 hdq.1 (by omega)) dX7_reason_49 ?_
          refine g_lconst (pc := 50) hX (z := 1) rfl dX7_reason_50 ?_
          refine g_lcmp_ne (pc := 51) (tgt := 68) hX (by first | assumption | exact inI_L (by assumption) | exact inL_mk (by omega) (by omega)) (by first | assumption | exact inI_L (by assumption) | exact inL_mk (by omega) (by omega)) dX7_reason_51 dX7_reason_52 (by decide) (fun c_51 => ?_) (fun c_51 => ?_)
          · skip
            refine g_iinc (pc := 68) hX (lv2 := [(4, vI (c + 1)), (0, .ref (gw_ad w 92)), (1, vI (p)), (2, vI (i)), (3, vI (lf))]) 0 rfl (by decide) rfl dX7_reason_68 ?_
            refine g_goto (pc := 71) (tgt := 27) hX dX7_reason_71 (by decide) ?_
            refine g_sub (lv2 := [(4, vI (c + 1)), (0, .ref (gw_ad w 92)), (1, vI (p)), (2, vI (i)), (3, vI (lf))]) [0, 1, 2, 3, 4] rfl ?_
            refine g_at rfl (lv2 := [(4, vI (c + 1)), (0, .ref (gw_ad w 92)), (1, vI (p)), (2, vI (i)), (3, vI (lf))]) (rfl) rfl (S2 := S) (rfl) ?_
            exact ihloop (c + 1) (lf) (by omega) (by omega) (by omega) (by omega) (by rw [show (8 - c : Int).toNat = (8 - (c + 1) : Int).toNat + 1 by omega] at hb; rw [← hb]; unfold rgo; rw [if_neg c_51]; cases (8 - (c + 1) : Int).toNat <;> rfl)
          · skip
            refine g_iload_n (pc := 55) hX 4 rfl dX7_reason_55 ?_
            refine g_if_ne (pc := 56) (tgt := 65) hX (by first | assumption | exact inI_mk (by omega) (by omega)) dX7_reason_56 (by decide) (fun c_56 => ?_) (fun c_56 => ?_)
            · skip
              refine g_iinc (pc := 65) hX (lv2 := [(3, vI (lf + (-1))), (4, vI (c)), (0, .ref (gw_ad w 92)), (1, vI (p)), (2, vI (i))]) 4 rfl (by decide) rfl dX7_reason_65 ?_
              refine g_iinc (pc := 68) hX (lv2 := [(4, vI (c + 1)), (3, vI (lf + (-1))), (0, .ref (gw_ad w 92)), (1, vI (p)), (2, vI (i))]) 1 rfl (by decide) rfl dX7_reason_68 ?_
              refine g_goto (pc := 71) (tgt := 27) hX dX7_reason_71 (by decide) ?_
              refine g_sub (lv2 := [(4, vI (c + 1)), (0, .ref (gw_ad w 92)), (1, vI (p)), (2, vI (i)), (3, vI (lf + (-1)))]) [0, 2, 3, 4, 1] rfl ?_
              refine g_at rfl (lv2 := [(4, vI (c + 1)), (0, .ref (gw_ad w 92)), (1, vI (p)), (2, vI (i)), (3, vI (lf + (-1)))]) (rfl) rfl (S2 := S) (rfl) ?_
              exact ihloop (c + 1) (lf + (-1)) (by omega) (by omega) (by omega) (by omega) (by rw [show (8 - c : Int).toNat = (8 - (c + 1) : Int).toNat + 1 by omega] at hb; rw [← hb]; unfold rgo; rw [if_pos c_51, if_neg (by omega)]; cases (8 - (c + 1) : Int).toNat <;> rfl)
            · skip
              refine g_bipush (pc := 59) hX (by decide) dX7_reason_59 ?_
              refine g_iload (pc := 61) hX 0 rfl dX7_reason_61 ?_
              refine g_iadd (pc := 63) hX dX7_reason_63 ?_
              refine g_iret (pc := 64) hX hR dX7_reason_64 ?_
              rw [show (8 - c : Int).toNat = (8 - (c + 1) : Int).toNat + 1 by omega] at hb
              have hb2 : 30 + c = rsV V p i := by rw [← hb]; unfold rgo; rw [if_pos c_51, if_pos (by omega)]
              exact ⟨vI_c hb2, rfl⟩
    refine g_sub (lv2 := [(4, vI (0)), (0, .ref (gw_ad w 92)), (1, vI (p)), (2, vI (i)), (3, vI (i - 2))]) [0, 2, 3, 4, 1] rfl ?_
    refine g_at rfl (lv2 := [(4, vI (0)), (0, .ref (gw_ad w 92)), (1, vI (p)), (2, vI (i)), (3, vI (i - 2))]) (rfl) rfl (S2 := S) (rfl) ?_
    exact loop ((8 : Int) - 0 + 1).toNat 0 (i - 2) (by omega) (by omega) (by omega) (by omega) ((if_neg (by omega)).symm)
  · skip
    refine g_aload_n (pc := 5) hX 0 rfl dX7_reason_5 ?_
    refine g_get (pc := 6) hX (ci := 7) (fun _ h => List.mem_cons_of_mem _ (List.mem_append_right _ h)) rfl 92 (by omega) m92 0 (by decide) (List.mem_of_getElem? (i := 1) rfl) rfl (v := .ref (gw_ad w 93)) rfl dX7_reason_6 ?_
    refine g_iload_n (pc := 9) hX 1 rfl dX7_reason_9 ?_
    refine g_bipush (pc := 10) hX (by decide) dX7_reason_10 ?_
    refine g_iload_n (pc := 12) hX 2 rfl dX7_reason_12 ?_
    refine g_iadd (pc := 13) hX dX7_reason_13 ?_
    refine g_callT1 (pc := 14) (As := [vI (p), vI (9 + i)]) (st2 := [.ref (gw_ad w 93)]) hX (c_X7_parcelAt (z := p) (k := 9 + i)) gX7_reason_X7_parcelAt (n := 2) (hw := rfl) (hrc := rfl) (hrs := rfl) (hd := by decide +kernel) (hR := ⟨Nat.le_of_ble_eq_true rfl, Nat.le_of_ble_eq_true rfl⟩) (hn := rfl) (hst := rfl) (hsum := Nat.le_of_ble_eq_true rfl) (hdg := dX7_reason_14) ?_
    rintro _ S9 ⟨rfl, e9⟩
    rw [e9]
    clear e9 S9
    refine g_at (pc2 := 17) rfl rfl (st2 := [vI (570 + 12 * p + (9 + i)), .ref (gw_ad w 93)]) rfl (S2 := S) rfl ?_
    refine g_lald (pc := 17) hX 93 (by omega) m93 (by omega) (by omega) (by decide) dX7_reason_17 ?_
    refine g_l2i (pc := 18) hX dX7_reason_18 ?_
    refine g_iret (pc := 19) hX hR dX7_reason_19 ?_
    exact ⟨vI_c (if_pos (by omega)).symm, rfl⟩

set_option maxHeartbeats 4000000 in
set_option maxRecDepth 100000 in
theorem c_X7_why {w : gW} {l : Launch} {S : Nat → va_E} {pm tm xm at_ wm wh : Int} {ir : Bool} {V PV TY TX MK MM CH AM WT WK FL PI : Int → Int} (hN : gw_N w = 105) (hm : modelAt w pm tm xm at_ wm wh ir V PV TY TX MK MM CH AM WT WK FL PI S) (hL : vLim V) (h19 : 0 ≤ V 19 ∧ V 19 ≤ 30) (hsh : ∀ p, 0 ≤ p → p < V 19 → 0 ≤ V (570 + 12 * p + 11) ∧ V (570 + 12 * p + 11) ≤ 255) {p i : Int} (hp : inI p) (hi : inI i) :
    GM1 w l yX7_why wsX7_why { frames := 2, cells := 0, slots := 0, locals := 46 } [.ref (gw_ad w 92), vI (p), vI (i)] S
      (fun v S' => v = vI (if (0 ≤ p ∧ p ≤ V 19 - 1) ∧ 0 ≤ i then rsV V p i else -1000001) ∧ S' = S) := by
  refine GM.start (own := RX7) (n := "why") (d := "(II)I") (by decide) rfl (Nat.le_of_ble_eq_true rfl) ?_
  intro X hX hR hXl
  subst hXl
  refine g_at rfl (lv2 := [(0, .ref (gw_ad w 92)), (1, vI (p)), (2, vI (i))]) rfl rfl rfl ?_
  obtain ⟨⟨m92, m93, m94⟩, ⟨m95, m96⟩, ⟨m97, m98, m99, m100, m101⟩, ⟨m102, m103, m104⟩⟩ := (id hm)
  have hiB := hi.2
  refine g_aload_n (pc := 0) hX 0 rfl dX7_why_0 ?_
  refine g_iload_n (pc := 1) hX 1 rfl dX7_why_1 ?_
  refine g_callV1 (pc := 2) (ci := 7) (As := [vI (p)]) (st2 := []) hX 92 (by omega) m92 rfl (c_X7_isParcel hN hm hL (p := p) (by first | assumption | exact inI_mk (by omega) (by omega))) gX7_why_X7_isParcel (n := 1) (hw := rfl) (hrc := rfl) (hrs := rfl) (hd := by decide +kernel) (hR := ⟨Nat.le_of_ble_eq_true rfl, Nat.le_of_ble_eq_true rfl⟩) (hn := rfl) (hst := rfl) (hsum := Nat.le_of_ble_eq_true rfl) (hdg := dX7_why_2) ?_
  rintro _ S9 ⟨rfl, e9⟩
  rw [e9]
  clear e9 S9
  refine g_at (pc2 := 5) rfl rfl (st2 := [vI (bz (decide (0 ≤ p ∧ p ≤ V 19 - 1)))]) rfl (S2 := S) rfl ?_
  refine g_bif_eq (pc := 5) (tgt := 12) hX dX7_why_5 (by decide) (fun c_5 => ?_) (fun c_5 => ?_)
  · skip
    refine g_ldc (pc := 12) hX (z := -1000001) (List.mem_of_getElem? (i := 1) rfl) (by decide +kernel) dX7_why_12 ?_
    refine g_goto (pc := 14) (tgt := 23) hX dX7_why_14 (by decide) ?_
    refine g_iret (pc := 23) hX hR dX7_why_23 ?_
    try simp only [decide_eq_true_eq, decide_eq_false_iff_not] at c_5
    exact ⟨vI_c (if_neg (by omega)).symm, rfl⟩
  · skip
    have hp1 := of_decide_eq_true c_5
    refine g_iload_n (pc := 8) hX 2 rfl dX7_why_8 ?_
    refine g_if_ge (pc := 9) (tgt := 17) hX (by first | assumption | exact inI_mk (by omega) (by omega)) dX7_why_9 (by decide) (fun c_9 => ?_) (fun c_9 => ?_)
    · skip
      refine g_aload_n (pc := 17) hX 0 rfl dX7_why_17 ?_
      refine g_iload_n (pc := 18) hX 1 rfl dX7_why_18 ?_
      refine g_iload_n (pc := 19) hX 2 rfl dX7_why_19 ?_
      refine g_callV1 (pc := 20) (ci := 7) (As := [vI (p), vI (i)]) (st2 := []) hX 92 (by omega) m92 rfl (c_X7_reason hN hm (p := p) (i := i) (by omega) (by omega) (hsh p hp1.1 (by omega))) gX7_why_X7_reason (n := 2) (hw := rfl) (hrc := rfl) (hrs := rfl) (hd := by decide +kernel) (hR := ⟨Nat.le_of_ble_eq_true rfl, Nat.le_of_ble_eq_true rfl⟩) (hn := rfl) (hst := rfl) (hsum := Nat.le_of_ble_eq_true rfl) (hdg := dX7_why_20) ?_
      rintro _ S9 ⟨rfl, e9⟩
      rw [e9]
      clear e9 S9
      refine g_at (pc2 := 23) rfl rfl (st2 := [vI (rsV V p i)]) rfl (S2 := S) rfl ?_
      refine g_iret (pc := 23) hX hR dX7_why_23 ?_
      try simp only [decide_eq_true_eq, decide_eq_false_iff_not] at c_5 c_9
      exact ⟨vI_c (if_pos (by omega)).symm, rfl⟩
    · skip
      refine g_ldc (pc := 12) hX (z := -1000001) (List.mem_of_getElem? (i := 1) rfl) (by decide +kernel) dX7_why_12 ?_
      refine g_goto (pc := 14) (tgt := 23) hX dX7_why_14 (by decide) ?_
      refine g_iret (pc := 23) hX hR dX7_why_23 ?_
      try simp only [decide_eq_true_eq, decide_eq_false_iff_not] at c_5 c_9
      exact ⟨vI_c (if_neg (by omega)).symm, rfl⟩

set_option maxHeartbeats 4000000 in
set_option maxRecDepth 100000 in
theorem c_X7_hasBands {w : gW} {l : Launch} {S : Nat → va_E} {pm tm xm at_ wm wh : Int} {ir : Bool} {V PV TY TX MK MM CH AM WT WK FL PI : Int → Int} (hN : gw_N w = 105) (hm : modelAt w pm tm xm at_ wm wh ir V PV TY TX MK MM CH AM WT WK FL PI S) {p : Int} (hp : 0 ≤ p ∧ p < 30) (hz : 0 ≤ V (570 + 12 * p + 4) ∧ V (570 + 12 * p + 4) < 4) (hB : vBnd V) :
    GM1 w l yX7_hasBands wsX7_hasBands { frames := 1, cells := 0, slots := 0, locals := 21 } [.ref (gw_ad w 92), vI (p)] S
      (fun v S' => v = vI (bz (decide (0 < V (24 + 14 * V (570 + 12 * p + 4))))) ∧ S' = S) := by
  refine GM.start (own := RX7) (n := "hasBands") (d := "(I)Z") (by decide) rfl (Nat.le_of_ble_eq_true rfl) ?_
  intro X hX hR hXl
  subst hXl
  refine g_at rfl (lv2 := [(0, .ref (gw_ad w 92)), (1, vI (p))]) rfl rfl rfl ?_
  obtain ⟨⟨m92, m93, m94⟩, ⟨m95, m96⟩, ⟨m97, m98, m99, m100, m101⟩, ⟨m102, m103, m104⟩⟩ := (id hm)
  have hBz := hB _ hz.1 hz.2
  refine g_aload_n (pc := 0) hX 0 rfl dX7_hasBands_0 ?_
  refine g_aload_n (pc := 1) hX 0 rfl dX7_hasBands_1 ?_
  refine g_get (pc := 2) hX (ci := 7) (fun _ h => List.mem_cons_of_mem _ (List.mem_append_right _ h)) rfl 92 (by omega) m92 0 (by decide) (List.mem_of_getElem? (i := 1) rfl) rfl (v := .ref (gw_ad w 93)) rfl dX7_hasBands_2 ?_
  refine g_iload_n (pc := 5) hX 1 rfl dX7_hasBands_5 ?_
  refine g_iconst (pc := 6) hX dX7_hasBands_6 ?_
  refine g_callT1 (pc := 7) (As := [vI (p), vI (4)]) (st2 := [.ref (gw_ad w 93), .ref (gw_ad w 92)]) hX (c_X7_parcelAt (z := p) (k := 4)) gX7_hasBands_X7_parcelAt (n := 2) (hw := rfl) (hrc := rfl) (hrs := rfl) (hd := by decide +kernel) (hR := ⟨Nat.le_of_ble_eq_true rfl, Nat.le_of_ble_eq_true rfl⟩) (hn := rfl) (hst := rfl) (hsum := Nat.le_of_ble_eq_true rfl) (hdg := dX7_hasBands_7) ?_
  rintro _ S9 ⟨rfl, e9⟩
  rw [e9]
  clear e9 S9
  refine g_at (pc2 := 10) rfl rfl (st2 := [vI (570 + 12 * p + 4), .ref (gw_ad w 93), .ref (gw_ad w 92)]) rfl (S2 := S) rfl ?_
  refine g_lald (pc := 10) hX 93 (by omega) m93 (by omega) (by omega) (by decide) dX7_hasBands_10 ?_
  refine g_l2i (pc := 11) hX dX7_hasBands_11 ?_
  refine g_callV1 (pc := 12) (ci := 7) (As := [vI (V (570 + 12 * p + 4))]) (st2 := []) hX 92 (by omega) m92 rfl (c_X7_bands hN hm (z := V (570 + 12 * p + 4)) (by omega) (by omega)) gX7_hasBands_X7_bands (n := 1) (hw := rfl) (hrc := rfl) (hrs := rfl) (hd := by decide +kernel) (hR := ⟨Nat.le_of_ble_eq_true rfl, Nat.le_of_ble_eq_true rfl⟩) (hn := rfl) (hst := rfl) (hsum := Nat.le_of_ble_eq_true rfl) (hdg := dX7_hasBands_12) ?_
  rintro _ S9 ⟨rfl, e9⟩
  rw [e9]
  clear e9 S9
  refine g_at (pc2 := 15) rfl rfl (st2 := [vI (V (24 + 14 * (V (570 + 12 * p + 4))))]) rfl (S2 := S) rfl ?_
  refine g_if_le (pc := 15) (tgt := 22) hX (by first | assumption | exact inI_mk (by omega) (by omega)) dX7_hasBands_15 (by decide) (fun c_15 => ?_) (fun c_15 => ?_)
  · skip
    refine g_iconst (pc := 22) hX dX7_hasBands_22 ?_
    refine g_at rfl rfl (st2 := [vI (bz false)]) rfl rfl ?_
    refine g_zret (pc := 23) hX hR dX7_hasBands_23 ?_
    exact ⟨vB_f (df (by omega)), rfl⟩
  · skip
    refine g_iconst (pc := 18) hX dX7_hasBands_18 ?_
    refine g_goto (pc := 19) (tgt := 23) hX dX7_hasBands_19 (by decide) ?_
    refine g_at rfl rfl (st2 := [vI (bz true)]) rfl rfl ?_
    refine g_zret (pc := 23) hX hR dX7_hasBands_23 ?_
    exact ⟨vB_t (dt (by omega)), rfl⟩

set_option maxHeartbeats 4000000 in
set_option maxRecDepth 100000 in
theorem c_X7_sumOf {w : gW} {l : Launch} {S : Nat → va_E} {pm tm xm at_ wm wh : Int} {ir : Bool} {V PV TY TX MK MM CH AM WT WK FL PI : Int → Int} (hN : gw_N w = 105) (hm : modelAt w pm tm xm at_ wm wh ir V PV TY TX MK MM CH AM WT WK FL PI S) (hL : vLim V) (h19 : 0 ≤ V 19 ∧ V 19 ≤ 30) {x : Int} (hx : 0 ≤ x ∧ x ≤ 4) :
    GM1 w l yX7_sumOf wsX7_sumOf { frames := 1, cells := 0, slots := 0, locals := 21 } [.ref (gw_ad w 92), vI (x)] S
      (fun v S' => v = vL (smV V x) ∧ S' = S) := by
  refine GM.start (own := RX7) (n := "sumOf") (d := "(I)J") (by decide) rfl (Nat.le_of_ble_eq_true rfl) ?_
  intro X hX hR hXl
  subst hXl
  refine g_at rfl (lv2 := [(0, .ref (gw_ad w 92)), (1, vI (x))]) rfl rfl rfl ?_
  obtain ⟨⟨m92, m93, m94⟩, ⟨m95, m96⟩, ⟨m97, m98, m99, m100, m101⟩, ⟨m102, m103, m104⟩⟩ := (id hm)
  refine g_iload_n (pc := 0) hX 1 rfl dX7_sumOf_0 ?_
  refine g_iconst (pc := 1) hX dX7_sumOf_1 ?_
  refine g_icmp_ne (pc := 2) (tgt := 13) hX (by first | assumption | exact inI_mk (by omega) (by omega)) (by first | assumption | exact inI_mk (by omega) (by omega)) dX7_sumOf_2 (by decide) (fun c_2 => ?_) (fun c_2 => ?_)
  · skip
    refine g_lconst (pc := 13) hX (z := 0) rfl dX7_sumOf_13 ?_
    refine g_lstore_n (pc := 14) hX (lv2 := [(2, vL (0)), (0, .ref (gw_ad w 92)), (1, vI (x))]) rfl (by decide) rfl dX7_sumOf_14 ?_
    refine g_iconst (pc := 15) hX dX7_sumOf_15 ?_
    refine g_istore (pc := 16) hX (lv2 := [(4, vI (0)), (2, vL (0)), (0, .ref (gw_ad w 92)), (1, vI (x))]) (by decide) rfl dX7_sumOf_16 ?_
    have loop : ∀ (n0 : Nat) (c : Int), 0 ≤ c → c ≤ V 19 → V 19 - c < n0 → G w { frames := 1, cells := 0, slots := 0, locals := 21 } X 5 18 [(4, vI (c)), (0, .ref (gw_ad w 92)), (1, vI (x)), (2, vL (zsum (smF V x) (c : Int).toNat))] [] S := by
      intro n0
      induction n0 with
      | zero => intro c  h1c h2c h3c; exact absurd h3c (by omega)
      | succ n0 ihloop =>
        intro c  h1c h2c h3c 
        have hc : inI c := inI_mk (by omega) (by omega)
        have hl9 := hL (570 + 12 * c + 9)
        refine g_iload (pc := 18) hX 0 rfl dX7_sumOf_18 ?_
        refine g_i2l (pc := 20) hX (by first | assumption | exact inI_mk (by omega) (by omega)) dX7_sumOf_20 ?_
        refine g_aload_n (pc := 21) hX 1 rfl dX7_sumOf_21 ?_
        refine g_get (pc := 22) hX (ci := 7) (fun _ h => List.mem_cons_of_mem _ (List.mem_append_right _ h)) rfl 92 (by omega) m92 0 (by decide) (List.mem_of_getElem? (i := 1) rfl) rfl (v := .ref (gw_ad w 93)) rfl dX7_sumOf_22 ?_
        refine g_bipush (pc := 25) hX (by decide) dX7_sumOf_25 ?_
        refine g_lald (pc := 27) hX 93 (by omega) m93 (by omega) (by omega) (by decide) dX7_sumOf_27 ?_
        refine g_lcmp_ge (pc := 28) (tgt := 123) hX (by first | assumption | exact inI_L (by assumption) | exact inL_mk (by omega) (by omega)) (by first | assumption | exact inI_L (by assumption) | exact inL_mk (by omega) (by omega)) dX7_sumOf_28 dX7_sumOf_29 (by decide) (fun c_28 => ?_) (fun c_28 => ?_)
        · skip
          refine g_lload_n (pc := 123) hX 3 rfl dX7_sumOf_123 ?_
          refine g_lret (pc := 124) hX hR dX7_sumOf_124 ?_
          rw [show c = V 19 by omega]
          exact ⟨vL_c (smV_e V c_2), rfl⟩
        · skip
          refine g_lload_n (pc := 32) hX 3 rfl dX7_sumOf_32 ?_
          refine g_iload_n (pc := 33) hX 2 rfl dX7_sumOf_33 ?_
          refine g_if_ne (pc := 34) (tgt := 52) hX (by first | assumption | exact inI_mk (by omega) (by omega)) dX7_sumOf_34 (by decide) (fun c_34 => ?_) (fun c_34 => ?_)
          · skip
            refine g_iload_n (pc := 52) hX 2 rfl dX7_sumOf_52 ?_
            refine g_iconst (pc := 53) hX dX7_sumOf_53 ?_
            refine g_icmp_ne (pc := 54) (tgt := 71) hX (by first | assumption | exact inI_mk (by omega) (by omega)) (by first | assumption | exact inI_mk (by omega) (by omega)) dX7_sumOf_54 (by decide) (fun c_54 => ?_) (fun c_54 => ?_)
            · skip
              refine g_iload_n (pc := 71) hX 2 rfl dX7_sumOf_71 ?_
              refine g_iconst (pc := 72) hX dX7_sumOf_72 ?_
              refine g_icmp_ne (pc := 73) (tgt := 91) hX (by first | assumption | exact inI_mk (by omega) (by omega)) (by first | assumption | exact inI_mk (by omega) (by omega)) dX7_sumOf_73 (by decide) (fun c_73 => ?_) (fun c_73 => ?_)
              · skip
                refine g_aload_n (pc := 91) hX 1 rfl dX7_sumOf_91 ?_
                refine g_get (pc := 92) hX (ci := 7) (fun _ h => List.mem_cons_of_mem _ (List.mem_append_right _ h)) rfl 92 (by omega) m92 0 (by decide) (List.mem_of_getElem? (i := 1) rfl) rfl (v := .ref (gw_ad w 93)) rfl dX7_sumOf_92 ?_
                refine g_iload (pc := 95) hX 0 rfl dX7_sumOf_95 ?_
                refine g_bipush (pc := 97) hX (by decide) dX7_sumOf_97 ?_
                refine g_callT1 (pc := 99) (As := [vI (c), vI (9)]) (st2 := [.ref (gw_ad w 93), vL (zsum (smF V x) (c : Int).toNat)]) hX (c_X7_parcelAt (z := c) (k := 9)) gX7_sumOf_X7_parcelAt (n := 2) (hw := rfl) (hrc := rfl) (hrs := rfl) (hd := by decide +kernel) (hR := ⟨Nat.le_of_ble_eq_true rfl, Nat.le_of_ble_eq_true rfl⟩) (hn := rfl) (hst := rfl) (hsum := Nat.le_of_ble_eq_true rfl) (hdg := dX7_sumOf_99) ?_
                rintro _ S9 ⟨rfl, e9⟩
                rw [e9]
                clear e9 S9
                refine g_at (pc2 := 102) rfl rfl (st2 := [vI (570 + 12 * c + 9), .ref (gw_ad w 93), vL (zsum (smF V x) (c : Int).toNat)]) rfl (S2 := S) rfl ?_
                refine g_lald (pc := 102) hX 93 (by omega) m93 (by omega) (by omega) (by decide) dX7_sumOf_102 ?_
                refine g_ldc2 (pc := 103) hX (z := 2) (List.mem_of_getElem? (i := 2) rfl) (by decide +kernel) dX7_sumOf_103 ?_
                refine g_lcmp_ne (pc := 106) (tgt := 114) hX (by first | assumption | exact inI_L (by assumption) | exact inL_mk (by omega) (by omega)) (by first | assumption | exact inI_L (by assumption) | exact inL_mk (by omega) (by omega)) dX7_sumOf_106 dX7_sumOf_107 (by decide) (fun c_106 => ?_) (fun c_106 => ?_)
                · skip
                  refine g_lconst (pc := 114) hX (z := 0) rfl dX7_sumOf_114 ?_
                  refine g_ladd (pc := 115) hX dX7_sumOf_115 ?_
                  refine g_lstore_n (pc := 116) hX (lv2 := [(2, vL ((zsum (smF V x) (c : Int).toNat) + 0)), (4, vI (c)), (0, .ref (gw_ad w 92)), (1, vI (x))]) rfl (by decide) rfl dX7_sumOf_116 ?_
                  refine g_iinc (pc := 117) hX (lv2 := [(4, vI (c + 1)), (2, vL ((zsum (smF V x) (c : Int).toNat) + 0)), (0, .ref (gw_ad w 92)), (1, vI (x))]) 1 rfl (by decide) rfl dX7_sumOf_117 ?_
                  refine g_goto (pc := 120) (tgt := 18) hX dX7_sumOf_120 (by decide) ?_
                  refine g_sub (lv2 := [(4, vI (c + 1)), (0, .ref (gw_ad w 92)), (1, vI (x)), (2, vL ((zsum (smF V x) (c : Int).toNat) + 0))]) [0, 2, 3, 1] rfl ?_
                  refine g_at rfl (lv2 := [(4, vI (c + 1)), (0, .ref (gw_ad w 92)), (1, vI (x)), (2, vL (zsum (smF V x) (c + 1 : Int).toNat))]) (by rw [zsum_s _ h1c, show smF V x c = _ from by unfold smF; rw [if_neg c_34, if_neg c_54, if_neg c_73, if_neg c_106]]) rfl (S2 := S) (rfl) ?_
                  exact ihloop (c + 1)  (by omega) (by omega) (by omega) 
                · skip
                  refine g_lconst (pc := 110) hX (z := 1) rfl dX7_sumOf_110 ?_
                  refine g_goto (pc := 111) (tgt := 115) hX dX7_sumOf_111 (by decide) ?_
                  refine g_ladd (pc := 115) hX dX7_sumOf_115 ?_
                  refine g_lstore_n (pc := 116) hX (lv2 := [(2, vL ((zsum (smF V x) (c : Int).toNat) + 1)), (4, vI (c)), (0, .ref (gw_ad w 92)), (1, vI (x))]) rfl (by decide) rfl dX7_sumOf_116 ?_
                  refine g_iinc (pc := 117) hX (lv2 := [(4, vI (c + 1)), (2, vL ((zsum (smF V x) (c : Int).toNat) + 1)), (0, .ref (gw_ad w 92)), (1, vI (x))]) 1 rfl (by decide) rfl dX7_sumOf_117 ?_
                  refine g_goto (pc := 120) (tgt := 18) hX dX7_sumOf_120 (by decide) ?_
                  refine g_sub (lv2 := [(4, vI (c + 1)), (0, .ref (gw_ad w 92)), (1, vI (x)), (2, vL ((zsum (smF V x) (c : Int).toNat) + 1))]) [0, 2, 3, 1] rfl ?_
                  refine g_at rfl (lv2 := [(4, vI (c + 1)), (0, .ref (gw_ad w 92)), (1, vI (x)), (2, vL (zsum (smF V x) (c + 1 : Int).toNat))]) (by rw [zsum_s _ h1c, show smF V x c = _ from by unfold smF; rw [if_neg c_34, if_neg c_54, if_neg c_73, if_pos c_106]]) rfl (S2 := S) (rfl) ?_
                  exact ihloop (c + 1)  (by omega) (by omega) (by omega) 
              · skip
                refine g_aload_n (pc := 76) hX 1 rfl dX7_sumOf_76 ?_
                refine g_get (pc := 77) hX (ci := 7) (fun _ h => List.mem_cons_of_mem _ (List.mem_append_right _ h)) rfl 92 (by omega) m92 0 (by decide) (List.mem_of_getElem? (i := 1) rfl) rfl (v := .ref (gw_ad w 93)) rfl dX7_sumOf_77 ?_
                refine g_iload (pc := 80) hX 0 rfl dX7_sumOf_80 ?_
                refine g_bipush (pc := 82) hX (by decide) dX7_sumOf_82 ?_
                refine g_callT1 (pc := 84) (As := [vI (c), vI (6)]) (st2 := [.ref (gw_ad w 93), vL (zsum (smF V x) (c : Int).toNat)]) hX (c_X7_parcelAt (z := c) (k := 6)) gX7_sumOf_X7_parcelAt (n := 2) (hw := rfl) (hrc := rfl) (hrs := rfl) (hd := by decide +kernel) (hR := ⟨Nat.le_of_ble_eq_true rfl, Nat.le_of_ble_eq_true rfl⟩) (hn := rfl) (hst := rfl) (hsum := Nat.le_of_ble_eq_true rfl) (hdg := dX7_sumOf_84) ?_
                rintro _ S9 ⟨rfl, e9⟩
                rw [e9]
                clear e9 S9
                refine g_at (pc2 := 87) rfl rfl (st2 := [vI (570 + 12 * c + 6), .ref (gw_ad w 93), vL (zsum (smF V x) (c : Int).toNat)]) rfl (S2 := S) rfl ?_
                refine g_lald (pc := 87) hX 93 (by omega) m93 (by omega) (by omega) (by decide) dX7_sumOf_87 ?_
                refine g_goto (pc := 88) (tgt := 115) hX dX7_sumOf_88 (by decide) ?_
                refine g_ladd (pc := 115) hX dX7_sumOf_115 ?_
                refine g_lstore_n (pc := 116) hX (lv2 := [(2, vL ((zsum (smF V x) (c : Int).toNat) + (V (570 + 12 * c + 6)))), (4, vI (c)), (0, .ref (gw_ad w 92)), (1, vI (x))]) rfl (by decide) rfl dX7_sumOf_116 ?_
                refine g_iinc (pc := 117) hX (lv2 := [(4, vI (c + 1)), (2, vL ((zsum (smF V x) (c : Int).toNat) + (V (570 + 12 * c + 6)))), (0, .ref (gw_ad w 92)), (1, vI (x))]) 1 rfl (by decide) rfl dX7_sumOf_117 ?_
                refine g_goto (pc := 120) (tgt := 18) hX dX7_sumOf_120 (by decide) ?_
                refine g_sub (lv2 := [(4, vI (c + 1)), (0, .ref (gw_ad w 92)), (1, vI (x)), (2, vL ((zsum (smF V x) (c : Int).toNat) + (V (570 + 12 * c + 6))))]) [0, 2, 3, 1] rfl ?_
                refine g_at rfl (lv2 := [(4, vI (c + 1)), (0, .ref (gw_ad w 92)), (1, vI (x)), (2, vL (zsum (smF V x) (c + 1 : Int).toNat))]) (by rw [zsum_s _ h1c, show smF V x c = _ from by unfold smF; rw [if_neg c_34, if_neg c_54, if_pos c_73]]) rfl (S2 := S) (rfl) ?_
                exact ihloop (c + 1)  (by omega) (by omega) (by omega) 
            · skip
              refine g_aload_n (pc := 57) hX 1 rfl dX7_sumOf_57 ?_
              refine g_get (pc := 58) hX (ci := 7) (fun _ h => List.mem_cons_of_mem _ (List.mem_append_right _ h)) rfl 92 (by omega) m92 0 (by decide) (List.mem_of_getElem? (i := 1) rfl) rfl (v := .ref (gw_ad w 93)) rfl dX7_sumOf_58 ?_
              refine g_iload (pc := 61) hX 0 rfl dX7_sumOf_61 ?_
              refine g_iconst (pc := 63) hX dX7_sumOf_63 ?_
              refine g_callT1 (pc := 64) (As := [vI (c), vI (0)]) (st2 := [.ref (gw_ad w 93), vL (zsum (smF V x) (c : Int).toNat)]) hX (c_X7_parcelAt (z := c) (k := 0)) gX7_sumOf_X7_parcelAt (n := 2) (hw := rfl) (hrc := rfl) (hrs := rfl) (hd := by decide +kernel) (hR := ⟨Nat.le_of_ble_eq_true rfl, Nat.le_of_ble_eq_true rfl⟩) (hn := rfl) (hst := rfl) (hsum := Nat.le_of_ble_eq_true rfl) (hdg := dX7_sumOf_64) ?_
              rintro _ S9 ⟨rfl, e9⟩
              rw [e9]
              clear e9 S9
              refine g_at (pc2 := 67) rfl rfl (st2 := [vI (570 + 12 * c + 0), .ref (gw_ad w 93), vL (zsum (smF V x) (c : Int).toNat)]) rfl (S2 := S) rfl ?_
              refine g_lald (pc := 67) hX 93 (by omega) m93 (by omega) (by omega) (by decide) dX7_sumOf_67 ?_
              refine g_goto (pc := 68) (tgt := 115) hX dX7_sumOf_68 (by decide) ?_
              refine g_ladd (pc := 115) hX dX7_sumOf_115 ?_
              refine g_lstore_n (pc := 116) hX (lv2 := [(2, vL ((zsum (smF V x) (c : Int).toNat) + (V (570 + 12 * c + 0)))), (4, vI (c)), (0, .ref (gw_ad w 92)), (1, vI (x))]) rfl (by decide) rfl dX7_sumOf_116 ?_
              refine g_iinc (pc := 117) hX (lv2 := [(4, vI (c + 1)), (2, vL ((zsum (smF V x) (c : Int).toNat) + (V (570 + 12 * c + 0)))), (0, .ref (gw_ad w 92)), (1, vI (x))]) 1 rfl (by decide) rfl dX7_sumOf_117 ?_
              refine g_goto (pc := 120) (tgt := 18) hX dX7_sumOf_120 (by decide) ?_
              refine g_sub (lv2 := [(4, vI (c + 1)), (0, .ref (gw_ad w 92)), (1, vI (x)), (2, vL ((zsum (smF V x) (c : Int).toNat) + (V (570 + 12 * c + 0))))]) [0, 2, 3, 1] rfl ?_
              refine g_at rfl (lv2 := [(4, vI (c + 1)), (0, .ref (gw_ad w 92)), (1, vI (x)), (2, vL (zsum (smF V x) (c + 1 : Int).toNat))]) (by rw [zsum_s _ h1c, show smF V x c = _ from by unfold smF; rw [if_neg c_34, if_pos c_54]]) rfl (S2 := S) (rfl) ?_
              exact ihloop (c + 1)  (by omega) (by omega) (by omega) 
          · skip
            refine g_aload_n (pc := 37) hX 1 rfl dX7_sumOf_37 ?_
            refine g_get (pc := 38) hX (ci := 7) (fun _ h => List.mem_cons_of_mem _ (List.mem_append_right _ h)) rfl 92 (by omega) m92 0 (by decide) (List.mem_of_getElem? (i := 1) rfl) rfl (v := .ref (gw_ad w 93)) rfl dX7_sumOf_38 ?_
            refine g_iload (pc := 41) hX 0 rfl dX7_sumOf_41 ?_
            refine g_bipush (pc := 43) hX (by decide) dX7_sumOf_43 ?_
            refine g_callT1 (pc := 45) (As := [vI (c), vI (8)]) (st2 := [.ref (gw_ad w 93), vL (zsum (smF V x) (c : Int).toNat)]) hX (c_X7_parcelAt (z := c) (k := 8)) gX7_sumOf_X7_parcelAt (n := 2) (hw := rfl) (hrc := rfl) (hrs := rfl) (hd := by decide +kernel) (hR := ⟨Nat.le_of_ble_eq_true rfl, Nat.le_of_ble_eq_true rfl⟩) (hn := rfl) (hst := rfl) (hsum := Nat.le_of_ble_eq_true rfl) (hdg := dX7_sumOf_45) ?_
            rintro _ S9 ⟨rfl, e9⟩
            rw [e9]
            clear e9 S9
            refine g_at (pc2 := 48) rfl rfl (st2 := [vI (570 + 12 * c + 8), .ref (gw_ad w 93), vL (zsum (smF V x) (c : Int).toNat)]) rfl (S2 := S) rfl ?_
            refine g_lald (pc := 48) hX 93 (by omega) m93 (by omega) (by omega) (by decide) dX7_sumOf_48 ?_
            refine g_goto (pc := 49) (tgt := 115) hX dX7_sumOf_49 (by decide) ?_
            refine g_ladd (pc := 115) hX dX7_sumOf_115 ?_
            refine g_lstore_n (pc := 116) hX (lv2 := [(2, vL ((zsum (smF V x) (c : Int).toNat) + (V (570 + 12 * c + 8)))), (4, vI (c)), (0, .ref (gw_ad w 92)), (1, vI (x))]) rfl (by decide) rfl dX7_sumOf_116 ?_
            refine g_iinc (pc := 117) hX (lv2 := [(4, vI (c + 1)), (2, vL ((zsum (smF V x) (c : Int).toNat) + (V (570 + 12 * c + 8)))), (0, .ref (gw_ad w 92)), (1, vI (x))]) 1 rfl (by decide) rfl dX7_sumOf_117 ?_
            refine g_goto (pc := 120) (tgt := 18) hX dX7_sumOf_120 (by decide) ?_
            refine g_sub (lv2 := [(4, vI (c + 1)), (0, .ref (gw_ad w 92)), (1, vI (x)), (2, vL ((zsum (smF V x) (c : Int).toNat) + (V (570 + 12 * c + 8))))]) [0, 2, 3, 1] rfl ?_
            refine g_at rfl (lv2 := [(4, vI (c + 1)), (0, .ref (gw_ad w 92)), (1, vI (x)), (2, vL (zsum (smF V x) (c + 1 : Int).toNat))]) (by rw [zsum_s _ h1c, show smF V x c = _ from by unfold smF; rw [if_pos c_34]]) rfl (S2 := S) (rfl) ?_
            exact ihloop (c + 1)  (by omega) (by omega) (by omega) 
    refine g_sub (lv2 := [(4, vI (0)), (0, .ref (gw_ad w 92)), (1, vI (x)), (2, vL (0))]) [0, 2, 3, 1] rfl ?_
    refine g_at rfl (lv2 := [(4, vI (0)), (0, .ref (gw_ad w 92)), (1, vI (x)), (2, vL (zsum (smF V x) (0 : Int).toNat))]) (rfl) rfl (S2 := S) (rfl) ?_
    exact loop ((V 19 : Int) - 0 + 1).toNat 0  (by omega) (by omega) (by omega) 
  · skip
    refine g_aload_n (pc := 5) hX 0 rfl dX7_sumOf_5 ?_
    refine g_get (pc := 6) hX (ci := 7) (fun _ h => List.mem_cons_of_mem _ (List.mem_append_right _ h)) rfl 92 (by omega) m92 0 (by decide) (List.mem_of_getElem? (i := 1) rfl) rfl (v := .ref (gw_ad w 93)) rfl dX7_sumOf_6 ?_
    refine g_bipush (pc := 9) hX (by decide) dX7_sumOf_9 ?_
    refine g_lald (pc := 11) hX 93 (by omega) m93 (by omega) (by omega) (by decide) dX7_sumOf_11 ?_
    refine g_lret (pc := 12) hX hR dX7_sumOf_12 ?_
    exact ⟨vL_c (if_pos c_2).symm, rfl⟩

set_option maxHeartbeats 4000000 in
set_option maxRecDepth 100000 in
theorem c_X7_sum {w : gW} {l : Launch} {S : Nat → va_E} {pm tm xm at_ wm wh : Int} {ir : Bool} {V PV TY TX MK MM CH AM WT WK FL PI : Int → Int} (hN : gw_N w = 105) (hm : modelAt w pm tm xm at_ wm wh ir V PV TY TX MK MM CH AM WT WK FL PI S) (hL : vLim V) (h19 : 0 ≤ V 19 ∧ V 19 ≤ 30) {x : Int} (hx : inI x) :
    GM1 w l yX7_sum wsX7_sum { frames := 2, cells := 0, slots := 0, locals := 45 } [.ref (gw_ad w 92), vI (x)] S
      (fun v S' => v = vL (if 0 ≤ x ∧ x ≤ 4 then smV V x else -1000001) ∧ S' = S) := by
  refine GM.start (own := RX7) (n := "sum") (d := "(I)J") (by decide) rfl (Nat.le_of_ble_eq_true rfl) ?_
  intro X hX hR hXl
  subst hXl
  refine g_at rfl (lv2 := [(0, .ref (gw_ad w 92)), (1, vI (x))]) rfl rfl rfl ?_
  obtain ⟨⟨m92, m93, m94⟩, ⟨m95, m96⟩, ⟨m97, m98, m99, m100, m101⟩, ⟨m102, m103, m104⟩⟩ := (id hm)
  refine g_iload_n (pc := 0) hX 1 rfl dX7_sum_0 ?_
  refine g_i2l (pc := 1) hX (by first | assumption | exact inI_mk (by omega) (by omega)) dX7_sum_1 ?_
  refine g_lconst (pc := 2) hX (z := 0) rfl dX7_sum_2 ?_
  refine g_ldc2 (pc := 3) hX (z := 4) (List.mem_of_getElem? (i := 1) rfl) (by decide +kernel) dX7_sum_3 ?_
  refine g_callT1 (pc := 6) (As := [vL (x), vL (0), vL (4)]) (st2 := []) hX (c_X7_in (x := x) (a := 0) (b := 4) (by first | assumption | exact inI_L (by assumption) | exact inL_mk (by omega) (by omega)) (by first | assumption | exact inI_L (by assumption) | exact inL_mk (by omega) (by omega)) (by first | assumption | exact inI_L (by assumption) | exact inL_mk (by omega) (by omega))) gX7_sum_X7_in (n := 3) (hw := rfl) (hrc := rfl) (hrs := rfl) (hd := by decide +kernel) (hR := ⟨Nat.le_of_ble_eq_true rfl, Nat.le_of_ble_eq_true rfl⟩) (hn := rfl) (hst := rfl) (hsum := Nat.le_of_ble_eq_true rfl) (hdg := dX7_sum_6) ?_
  rintro _ S9 ⟨rfl, e9⟩
  rw [e9]
  clear e9 S9
  refine g_at (pc2 := 9) rfl rfl (st2 := [vI (bz (decide (0 ≤ x ∧ x ≤ 4)))]) rfl (S2 := S) rfl ?_
  refine g_bif_eq (pc := 9) (tgt := 20) hX dX7_sum_9 (by decide) (fun c_9 => ?_) (fun c_9 => ?_)
  · skip
    refine g_ldc2 (pc := 20) hX (z := -1000001) (List.mem_of_getElem? (i := 2) rfl) (by decide +kernel) dX7_sum_20 ?_
    refine g_lret (pc := 23) hX hR dX7_sum_23 ?_
    try simp only [decide_eq_true_eq, decide_eq_false_iff_not] at c_9
    exact ⟨vL_c (if_neg (by omega)).symm, rfl⟩
  · skip
    have hx1 := of_decide_eq_true c_9
    refine g_aload_n (pc := 12) hX 0 rfl dX7_sum_12 ?_
    refine g_iload_n (pc := 13) hX 1 rfl dX7_sum_13 ?_
    refine g_callV1 (pc := 14) (ci := 7) (As := [vI (x)]) (st2 := []) hX 92 (by omega) m92 rfl (c_X7_sumOf hN hm hL h19 (x := x) (by omega)) gX7_sum_X7_sumOf (n := 1) (hw := rfl) (hrc := rfl) (hrs := rfl) (hd := by decide +kernel) (hR := ⟨Nat.le_of_ble_eq_true rfl, Nat.le_of_ble_eq_true rfl⟩) (hn := rfl) (hst := rfl) (hsum := Nat.le_of_ble_eq_true rfl) (hdg := dX7_sum_14) ?_
    rintro _ S9 ⟨rfl, e9⟩
    rw [e9]
    clear e9 S9
    refine g_at (pc2 := 17) rfl rfl (st2 := [vL (smV V x)]) rfl (S2 := S) rfl ?_
    refine g_goto (pc := 17) (tgt := 23) hX dX7_sum_17 (by decide) ?_
    refine g_lret (pc := 23) hX hR dX7_sum_23 ?_
    try simp only [decide_eq_true_eq, decide_eq_false_iff_not] at c_9
    exact ⟨vL_c (if_pos (by omega)).symm, rfl⟩

set_option maxHeartbeats 4000000 in
set_option maxRecDepth 100000 in
theorem c_X7_undo {w : gW} {l : Launch} {S : Nat → va_E} {pm tm xm at_ wm wh : Int} {ir : Bool} {V PV TY TX MK MM CH AM WT WK FL PI : Int → Int} (hN : gw_N w = 105) (hm : modelAt w pm tm xm at_ wm wh ir V PV TY TX MK MM CH AM WT WK FL PI S) (hpm : 0 ≤ pm ∧ pm ≤ 4) :
    GM1 w l yX7_undo wsX7_undo { frames := 0, cells := 0, slots := 0, locals := 0 } [.ref (gw_ad w 92)] S
      (fun v S' => if pm = 0 then v = vI (-1000009) ∧ S' = S else v = vI (pm - 1) ∧ POSTM w S (pm - 1) tm xm at_ wm wh ir (unV PV V (1200 * (pm - 1)) 1200) PV TY TX MK MM CH AM WT WK FL PI S') := by
  refine GM.start (own := RX7) (n := "undo") (d := "()I") (by decide) rfl (Nat.le_of_ble_eq_true rfl) ?_
  intro X hX hR hXl
  subst hXl
  refine g_at rfl (lv2 := [(0, .ref (gw_ad w 92))]) rfl rfl rfl ?_
  obtain ⟨⟨m92, m93, m94⟩, ⟨m95, m96⟩, ⟨m97, m98, m99, m100, m101⟩, ⟨m102, m103, m104⟩⟩ := (id hm)
  refine g_aload_n (pc := 0) hX 0 rfl dX7_undo_0 ?_
  refine g_get (pc := 1) hX (ci := 7) (fun _ h => List.mem_cons_of_mem _ (List.mem_append_right _ h)) rfl 92 (by omega) m92 2 (by decide) (List.mem_of_getElem? (i := 1) rfl) rfl (v := vI (pm)) rfl dX7_undo_1 ?_
  refine g_if_ne (pc := 4) (tgt := 10) hX (by first | assumption | exact inI_mk (by omega) (by omega)) dX7_undo_4 (by decide) (fun c_4 => ?_) (fun c_4 => ?_)
  · skip
    refine g_aload_n (pc := 10) hX 0 rfl dX7_undo_10 ?_
    refine g_dup (pc := 11) hX rfl dX7_undo_11 ?_
    refine g_get (pc := 12) hX (ci := 7) (fun _ h => List.mem_cons_of_mem _ (List.mem_append_right _ h)) rfl 92 (by omega) m92 2 (by decide) (List.mem_of_getElem? (i := 1) rfl) rfl (v := vI (pm)) rfl dX7_undo_12 ?_
    refine g_iconst (pc := 15) hX dX7_undo_15 ?_
    refine g_isub (pc := 16) hX dX7_undo_16 ?_
    refine g_put (pc := 17) hX (ci := 7) (fun _ h => List.mem_cons_of_mem _ (List.mem_append_right _ h)) rfl tyX7 tyX7_ok nmX7 92 (by omega) m92 2 (by decide) (List.mem_of_getElem? (i := 1) rfl) rfl rfl (tyX7_ok 2 (by decide)) rfl (fit_int _) (Nat.le_of_ble_eq_true rfl) dX7_undo_17 ?_
    refine g_at rfl rfl rfl (S2 := (va_up S 92 (.inr (7, [.ref (gw_ad w 93), .ref (gw_ad w 94), vI (pm - 1), .ref (gw_ad w 95), vI (tm), .ref (gw_ad w 96), vI (xm), vI (at_), .ref (gw_ad w 97), .ref (gw_ad w 98), .ref (gw_ad w 99), .ref (gw_ad w 100), .ref (gw_ad w 101), vI (wm), vI (wh), vI (bz (ir)), .ref (gw_ad w 102), .ref (gw_ad w 103), .ref (gw_ad w 104)])))) rfl ?_
    refine g_iconst (pc := 20) hX dX7_undo_20 ?_
    refine g_istore_n (pc := 21) hX (lv2 := [(1, vI (0)), (0, .ref (gw_ad w 92))]) rfl (by decide) rfl dX7_undo_21 ?_
    have loop : ∀ (n0 : Nat) (c : Int), 0 ≤ c → c ≤ 1200 → 1200 - c < n0 → G w { frames := 0, cells := 0, slots := 0, locals := 0 } X 2 22 [(1, vI (c)), (0, .ref (gw_ad w 92))] [] (va_up (va_up S 92 (.inr (7, [.ref (gw_ad w 93), .ref (gw_ad w 94), vI (pm - 1), .ref (gw_ad w 95), vI (tm), .ref (gw_ad w 96), vI (xm), vI (at_), .ref (gw_ad w 97), .ref (gw_ad w 98), .ref (gw_ad w 99), .ref (gw_ad w 100), .ref (gw_ad w 101), vI (wm), vI (wh), vI (bz (ir)), .ref (gw_ad w 102), .ref (gw_ad w 103), .ref (gw_ad w 104)]))) 93 (AJ w 1200 (unV PV V (1200 * (pm - 1)) c))) := by
      intro n0
      induction n0 with
      | zero => intro c  h1c h2c h3c; exact absurd h3c (by omega)
      | succ n0 ihloop =>
        intro c  h1c h2c h3c 
        have hc : inI c := inI_mk (by omega) (by omega)
        refine g_iload_n (pc := 22) hX 0 rfl dX7_undo_22 ?_
        refine g_sipush (pc := 23) hX (by decide) dX7_undo_23 ?_
        refine g_icmp_ge (pc := 26) (tgt := 56) hX (by first | assumption | exact inI_mk (by omega) (by omega)) (by first | assumption | exact inI_mk (by omega) (by omega)) dX7_undo_26 (by decide) (fun c_26 => ?_) (fun c_26 => ?_)
        · skip
          refine g_aload_n (pc := 56) hX 1 rfl dX7_undo_56 ?_
          refine g_get (pc := 57) hX (ci := 7) (fun _ h => List.mem_cons_of_mem _ (List.mem_append_right _ h)) rfl 92 (by omega) (up_ne (by decide) (up_eq _ _ _)) 2 (by decide) (List.mem_of_getElem? (i := 1) rfl) rfl (v := vI (pm - 1)) rfl dX7_undo_57 ?_
          refine g_iret (pc := 60) hX hR dX7_undo_60 ?_
          have hc12 : c = 1200 := by omega
          subst hc12
          exact (if_neg (by omega)).mpr (⟨rfl, ⟨⟨⟨(up_ne (by decide) (up_eq _ _ _)), (up_eq _ _ _), (up_ne (by decide) (up_ne (by decide) m94))⟩, ⟨(up_ne (by decide) (up_ne (by decide) m95)), (up_ne (by decide) (up_ne (by decide) m96))⟩, ⟨(up_ne (by decide) (up_ne (by decide) m97)), (up_ne (by decide) (up_ne (by decide) m98)), (up_ne (by decide) (up_ne (by decide) m99)), (up_ne (by decide) (up_ne (by decide) m100)), (up_ne (by decide) (up_ne (by decide) m101))⟩, ⟨(up_ne (by decide) (up_ne (by decide) m102)), (up_ne (by decide) (up_ne (by decide) m103)), (up_ne (by decide) (up_ne (by decide) m104))⟩⟩, fun q hq => (up_ne (by omega) (up_ne (by omega) rfl))⟩⟩)
        · skip
          refine g_aload_n (pc := 29) hX 1 rfl dX7_undo_29 ?_
          refine g_get (pc := 30) hX (ci := 7) (fun _ h => List.mem_cons_of_mem _ (List.mem_append_right _ h)) rfl 92 (by omega) (up_ne (by decide) (up_eq _ _ _)) 0 (by decide) (List.mem_of_getElem? (i := 3) rfl) rfl (v := .ref (gw_ad w 93)) rfl dX7_undo_30 ?_
          refine g_iload_n (pc := 33) hX 0 rfl dX7_undo_33 ?_
          refine g_aload_n (pc := 34) hX 1 rfl dX7_undo_34 ?_
          refine g_get (pc := 35) hX (ci := 7) (fun _ h => List.mem_cons_of_mem _ (List.mem_append_right _ h)) rfl 92 (by omega) (up_ne (by decide) (up_eq _ _ _)) 1 (by decide) (List.mem_of_getElem? (i := 4) rfl) rfl (v := .ref (gw_ad w 94)) rfl dX7_undo_35 ?_
          refine g_sipush (pc := 38) hX (by decide) dX7_undo_38 ?_
          refine g_aload_n (pc := 41) hX 1 rfl dX7_undo_41 ?_
          refine g_get (pc := 42) hX (ci := 7) (fun _ h => List.mem_cons_of_mem _ (List.mem_append_right _ h)) rfl 92 (by omega) (up_ne (by decide) (up_eq _ _ _)) 2 (by decide) (List.mem_of_getElem? (i := 1) rfl) rfl (v := vI (pm - 1)) rfl dX7_undo_42 ?_
          refine g_imul (pc := 45) hX dX7_undo_45 ?_
          refine g_iload_n (pc := 46) hX 0 rfl dX7_undo_46 ?_
          refine g_iadd (pc := 47) hX dX7_undo_47 ?_
          refine g_lald (pc := 48) hX 94 (by omega) (up_ne (by decide) (up_ne (by decide) m94)) (by omega) (by omega) (by decide) dX7_undo_48 ?_
          refine g_last (pc := 49) hX 93 (by omega) (up_eq _ _ _) (by omega) (by omega) (by decide) dX7_undo_49 ?_
          refine g_at rfl rfl rfl (S2 := (va_up (va_up (va_up S 92 (.inr (7, [.ref (gw_ad w 93), .ref (gw_ad w 94), vI (pm - 1), .ref (gw_ad w 95), vI (tm), .ref (gw_ad w 96), vI (xm), vI (at_), .ref (gw_ad w 97), .ref (gw_ad w 98), .ref (gw_ad w 99), .ref (gw_ad w 100), .ref (gw_ad w 101), vI (wm), vI (wh), vI (bz (ir)), .ref (gw_ad w 102), .ref (gw_ad w 103), .ref (gw_ad w 104)]))) 93 (AJ w 1200 (unV PV V (1200 * (pm - 1)) c))) 93 (AJ w 1200 (updZ (unV PV V (1200 * (pm - 1)) c) (c) (PV ((1200 * (pm - 1)) + c)))))) rfl ?_
          refine g_iinc (pc := 50) hX (lv2 := [(1, vI (c + 1)), (0, .ref (gw_ad w 92))]) 0 rfl (by decide) rfl dX7_undo_50 ?_
          refine g_goto (pc := 53) (tgt := 22) hX dX7_undo_53 (by decide) ?_
          refine g_sub (lv2 := [(1, vI (c + 1)), (0, .ref (gw_ad w 92))]) [0, 1] rfl ?_
          refine g_at rfl (lv2 := [(1, vI (c + 1)), (0, .ref (gw_ad w 92))]) (rfl) rfl (S2 := (va_up (va_up S 92 (.inr (7, [.ref (gw_ad w 93), .ref (gw_ad w 94), vI (pm - 1), .ref (gw_ad w 95), vI (tm), .ref (gw_ad w 96), vI (xm), vI (at_), .ref (gw_ad w 97), .ref (gw_ad w 98), .ref (gw_ad w 99), .ref (gw_ad w 100), .ref (gw_ad w 101), vI (wm), vI (wh), vI (bz (ir)), .ref (gw_ad w 102), .ref (gw_ad w 103), .ref (gw_ad w 104)]))) 93 (AJ w 1200 (unV PV V (1200 * (pm - 1)) (c + 1))))) (by rw [up_up, unV_s h1c]) ?_
          exact ihloop (c + 1)  (by omega) (by omega) (by omega) 
    refine g_sub (lv2 := [(1, vI (0)), (0, .ref (gw_ad w 92))]) [0, 1] rfl ?_
    refine g_at rfl (lv2 := [(1, vI (0)), (0, .ref (gw_ad w 92))]) (rfl) rfl (S2 := (va_up (va_up S 92 (.inr (7, [.ref (gw_ad w 93), .ref (gw_ad w 94), vI (pm - 1), .ref (gw_ad w 95), vI (tm), .ref (gw_ad w 96), vI (xm), vI (at_), .ref (gw_ad w 97), .ref (gw_ad w 98), .ref (gw_ad w 99), .ref (gw_ad w 100), .ref (gw_ad w 101), vI (wm), vI (wh), vI (bz (ir)), .ref (gw_ad w 102), .ref (gw_ad w 103), .ref (gw_ad w 104)]))) 93 (AJ w 1200 (unV PV V (1200 * (pm - 1)) 0)))) (by rw [unV_0, up_self (f := (va_up S 92 (.inr (7, [.ref (gw_ad w 93), .ref (gw_ad w 94), vI (pm - 1), .ref (gw_ad w 95), vI (tm), .ref (gw_ad w 96), vI (xm), vI (at_), .ref (gw_ad w 97), .ref (gw_ad w 98), .ref (gw_ad w 99), .ref (gw_ad w 100), .ref (gw_ad w 101), vI (wm), vI (wh), vI (bz (ir)), .ref (gw_ad w 102), .ref (gw_ad w 103), .ref (gw_ad w 104)])))) (up_ne (by decide) m93)]) ?_
    exact loop ((1200 : Int) - 0 + 1).toNat 0  (by omega) (by omega) (by omega) 
  · skip
    refine g_ldc (pc := 7) hX (z := -1000009) (List.mem_of_getElem? (i := 2) rfl) (by decide +kernel) dX7_undo_7 ?_
    refine g_iret (pc := 9) hX hR dX7_undo_9 ?_
    exact (if_pos (by omega)).mpr (⟨rfl, rfl⟩)
